set_option maxRecDepth 20000 in
theorem wcX6_X5_X5_17_1 (cs : Nat → ClassId) (a : Nat → Nat) (S : Nat → Nat → Int32) (L : Nat → Nat → Int64) : ([17, 18, 19, 20, 21, 22, 23, 24, 25, 26, 27, 28, 29, 30, 31, 32, 1, 2, 3, 4, 5, 6, 7, 8, 9, 10, 11, 12, 13, 14, 15, 16] : List Nat).map (fun i => (wX6 cs a S L)[i]?) = (wX5 cs (k_wi a 17) (k_wi S 17) ++ wX5 cs (k_wi a 1) (k_wi S 1)).map some := rfl
set_option maxRecDepth 20000 in
theorem wrX6_X5_X5_17_1 (cs : Nat → ClassId) (a : Nat → Nat) (S : Nat → Nat → Int32) (L : Nat → Nat → Int64) : ([0, 33, 34, 35, 36, 37, 38, 39, 40, 41, 42, 43, 44, 45, 46, 47, 48, 49, 50, 51, 52, 53, 54, 55, 56, 57, 58, 59, 60, 61, 62, 63, 64, 65, 66, 67, 68, 69, 70, 71, 72, 73, 74, 75, 76, 77, 78] : List Nat).filterMap (fun i => (wX6 cs a S L)[i]?) = ([(a 0, .inr (4, [.ref (a 1), .ref (a 17), .ref (a 65), .ref (a 66), .ref (a 67), .ref (a 70), .ref (a 75), .ref (a 76), .ref (a 77), .ref (a 78), .long (L 0 10), .long (L 0 11)])), (a 33, .inr (3, [.ref (a 34), .ref (a 35), .ref (a 36), .ref (a 37), .ref (a 38), .ref (a 39), .ref (a 40), .ref (a 41), .ref (a 42), .ref (a 43), .ref (a 45), .ref (a 47), .int (S 33 12), .int (S 33 13), .int (S 33 14)])), (a 34, .inl (cs 1, 7, .inl (S 34))), (a 35, .inl (cs 1, 7, .inl (S 35))), (a 36, .inl (cs 1, 7, .inl (S 36))), (a 37, .inl (cs 1, 28, .inl (S 37))), (a 38, .inl (cs 1, 5, .inl (S 38))), (a 39, .inl (cs 1, 5, .inl (S 39))), (a 40, .inl (cs 1, 5, .inl (S 40))), (a 41, .inl (cs 1, 5, .inl (S 41))), (a 42, .inl (cs 1, 5, .inl (S 42))), (a 43, .inr (2, [.int 6, .int 6, .ref (a 44), .int (S 43 3)])), (a 44, .inl (cs 1, 36, .inl (S 44))), (a 45, .inr (2, [.int 4, .int 6, .ref (a 46), .int (S 45 3)])), (a 46, .inl (cs 1, 24, .inl (S 46))), (a 47, .inr (2, [.int 18, .int 8, .ref (a 48), .int (S 47 3)])), (a 48, .inl (cs 1, 144, .inl (S 48))), (a 49, .inr (3, [.ref (a 50), .ref (a 51), .ref (a 52), .ref (a 53), .ref (a 54), .ref (a 55), .ref (a 56), .ref (a 57), .ref (a 58), .ref (a 59), .ref (a 61), .ref (a 63), .int (S 49 12), .int (S 49 13), .int (S 49 14)])), (a 50, .inl (cs 1, 7, .inl (S 50))), (a 51, .inl (cs 1, 7, .inl (S 51))), (a 52, .inl (cs 1, 7, .inl (S 52))), (a 53, .inl (cs 1, 28, .inl (S 53))), (a 54, .inl (cs 1, 5, .inl (S 54))), (a 55, .inl (cs 1, 5, .inl (S 55))), (a 56, .inl (cs 1, 5, .inl (S 56))), (a 57, .inl (cs 1, 5, .inl (S 57))), (a 58, .inl (cs 1, 5, .inl (S 58))), (a 59, .inr (2, [.int 6, .int 6, .ref (a 60), .int (S 59 3)])), (a 60, .inl (cs 1, 36, .inl (S 60))), (a 61, .inr (2, [.int 4, .int 6, .ref (a 62), .int (S 61 3)])), (a 62, .inl (cs 1, 24, .inl (S 62))), (a 63, .inr (2, [.int 18, .int 8, .ref (a 64), .int (S 63 3)])), (a 64, .inl (cs 1, 144, .inl (S 64))), (a 65, .inl (cs 4, 2, .inr (.inr (.inr (.inr (fun j => if j = 0 then some (a 33) else if j = 1 then some (a 49) else none)))))), (a 66, .inl (cs 3, 2, .inl (S 66))), (a 67, .inr (1, [.ref (a 68), .ref (a 69), .int (S 67 2), .int (S 67 3), .int (S 67 4), .int (S 67 5)])), (a 68, .inl (cs 0, 150, .inl (S 68))), (a 69, .inl (cs 1, 6, .inl (S 69))), (a 70, .inr (0, [.ref (a 71), .ref (a 72), .ref (a 73), .ref (a 74), .int (S 70 4)])), (a 71, .inl (cs 2, 7, .inr (.inl (L 71)))), (a 72, .inl (cs 2, 7, .inr (.inl (L 72)))), (a 73, .inl (cs 2, 7, .inr (.inl (L 73)))), (a 74, .inl (cs 2, 7, .inr (.inl (L 74)))), (a 75, .inl (cs 1, 3, .inl (S 75))), (a 76, .inl (cs 1, 6, .inl (S 76))), (a 77, .inl (cs 1, 8, .inl (S 77))), (a 78, .inl (cs 1, 36, .inl (S 78)))] : va_W) := rfl
set_option maxRecDepth 20000 in
theorem wbX6_X5_X5_17_1_S0 (cs : Nat → ClassId) (a : Nat → Nat) (S : Nat → Nat → Int32) (L : Nat → Nat → Int64) (VS0 : Nat → Nat → Int32) : ([0, 63, 64, 65, 66, 67, 68, 69, 70, 71, 72, 73, 74, 75, 76, 77, 78, 47, 48, 49, 50, 51, 52, 53, 54, 55, 56, 57, 58, 59, 60, 61, 62, 1, 2, 3, 4, 5, 6, 7, 8, 9, 10, 11, 12, 13, 14, 15, 16, 17, 18, 19, 20, 21, 22, 23, 24, 25, 26, 27, 28, 29, 30, 31, 32, 33, 34, 35, 36, 37, 38, 39, 40, 41, 42, 43, 44, 45, 46] : List Nat).map (fun i => (([0, 33, 34, 35, 36, 37, 38, 39, 40, 41, 42, 43, 44, 45, 46, 47, 48, 49, 50, 51, 52, 53, 54, 55, 56, 57, 58, 59, 60, 61, 62, 63, 64, 65, 66, 67, 68, 69, 70, 71, 72, 73, 74, 75, 76, 77, 78] : List Nat).filterMap (fun i => (wX6 cs a S L)[i]?) ++ (wX5 cs (k_wi a 17) VS0 ++ wX5 cs (k_wi a 1) (k_wi S 1)))[i]?) = (wX6 cs a (k_sp S 17 16 VS0) L).map some := (congrArg (fun z : va_W => ([0, 63, 64, 65, 66, 67, 68, 69, 70, 71, 72, 73, 74, 75, 76, 77, 78, 47, 48, 49, 50, 51, 52, 53, 54, 55, 56, 57, 58, 59, 60, 61, 62, 1, 2, 3, 4, 5, 6, 7, 8, 9, 10, 11, 12, 13, 14, 15, 16, 17, 18, 19, 20, 21, 22, 23, 24, 25, 26, 27, 28, 29, 30, 31, 32, 33, 34, 35, 36, 37, 38, 39, 40, 41, 42, 43, 44, 45, 46] : List Nat).map (fun i => (z ++ (wX5 cs (k_wi a 17) VS0 ++ wX5 cs (k_wi a 1) (k_wi S 1)))[i]?)) (wrX6_X5_X5_17_1 cs a S L)).trans rfl
theorem wsX6_a20 (cs : Nat → ClassId) (a : Nat → Nat) (S : Nat → Nat → Int32) (L : Nat → Nat → Int64) (k : Nat) (x : Int32) : List.set (wX6 cs a S L) 20 (a 20, .inl (cs 1, 7, .inl (upd (S 20) k x))) = (wX6 cs a (k_w S 20 k x) L) := rfl
set_option maxRecDepth 20000 in
theorem wcX6_X5_17 (cs : Nat → ClassId) (a : Nat → Nat) (S : Nat → Nat → Int32) (L : Nat → Nat → Int64) : ([17, 18, 19, 20, 21, 22, 23, 24, 25, 26, 27, 28, 29, 30, 31, 32] : List Nat).map (fun i => (wX6 cs a S L)[i]?) = (wX5 cs (k_wi a 17) (k_wi S 17)).map some := rfl
set_option maxRecDepth 20000 in
theorem wrX6_X5_17 (cs : Nat → ClassId) (a : Nat → Nat) (S : Nat → Nat → Int32) (L : Nat → Nat → Int64) : ([0, 1, 2, 3, 4, 5, 6, 7, 8, 9, 10, 11, 12, 13, 14, 15, 16, 33, 34, 35, 36, 37, 38, 39, 40, 41, 42, 43, 44, 45, 46, 47, 48, 49, 50, 51, 52, 53, 54, 55, 56, 57, 58, 59, 60, 61, 62, 63, 64, 65, 66, 67, 68, 69, 70, 71, 72, 73, 74, 75, 76, 77, 78] : List Nat).filterMap (fun i => (wX6 cs a S L)[i]?) = ([(a 0, .inr (4, [.ref (a 1), .ref (a 17), .ref (a 65), .ref (a 66), .ref (a 67), .ref (a 70), .ref (a 75), .ref (a 76), .ref (a 77), .ref (a 78), .long (L 0 10), .long (L 0 11)])), (a 1, .inr (3, [.ref (a 2), .ref (a 3), .ref (a 4), .ref (a 5), .ref (a 6), .ref (a 7), .ref (a 8), .ref (a 9), .ref (a 10), .ref (a 11), .ref (a 13), .ref (a 15), .int (S 1 12), .int (S 1 13), .int (S 1 14)])), (a 2, .inl (cs 1, 7, .inl (S 2))), (a 3, .inl (cs 1, 7, .inl (S 3))), (a 4, .inl (cs 1, 7, .inl (S 4))), (a 5, .inl (cs 1, 28, .inl (S 5))), (a 6, .inl (cs 1, 5, .inl (S 6))), (a 7, .inl (cs 1, 5, .inl (S 7))), (a 8, .inl (cs 1, 5, .inl (S 8))), (a 9, .inl (cs 1, 5, .inl (S 9))), (a 10, .inl (cs 1, 5, .inl (S 10))), (a 11, .inr (2, [.int 6, .int 6, .ref (a 12), .int (S 11 3)])), (a 12, .inl (cs 1, 36, .inl (S 12))), (a 13, .inr (2, [.int 4, .int 6, .ref (a 14), .int (S 13 3)])), (a 14, .inl (cs 1, 24, .inl (S 14))), (a 15, .inr (2, [.int 18, .int 8, .ref (a 16), .int (S 15 3)])), (a 16, .inl (cs 1, 144, .inl (S 16))), (a 33, .inr (3, [.ref (a 34), .ref (a 35), .ref (a 36), .ref (a 37), .ref (a 38), .ref (a 39), .ref (a 40), .ref (a 41), .ref (a 42), .ref (a 43), .ref (a 45), .ref (a 47), .int (S 33 12), .int (S 33 13), .int (S 33 14)])), (a 34, .inl (cs 1, 7, .inl (S 34))), (a 35, .inl (cs 1, 7, .inl (S 35))), (a 36, .inl (cs 1, 7, .inl (S 36))), (a 37, .inl (cs 1, 28, .inl (S 37))), (a 38, .inl (cs 1, 5, .inl (S 38))), (a 39, .inl (cs 1, 5, .inl (S 39))), (a 40, .inl (cs 1, 5, .inl (S 40))), (a 41, .inl (cs 1, 5, .inl (S 41))), (a 42, .inl (cs 1, 5, .inl (S 42))), (a 43, .inr (2, [.int 6, .int 6, .ref (a 44), .int (S 43 3)])), (a 44, .inl (cs 1, 36, .inl (S 44))), (a 45, .inr (2, [.int 4, .int 6, .ref (a 46), .int (S 45 3)])), (a 46, .inl (cs 1, 24, .inl (S 46))), (a 47, .inr (2, [.int 18, .int 8, .ref (a 48), .int (S 47 3)])), (a 48, .inl (cs 1, 144, .inl (S 48))), (a 49, .inr (3, [.ref (a 50), .ref (a 51), .ref (a 52), .ref (a 53), .ref (a 54), .ref (a 55), .ref (a 56), .ref (a 57), .ref (a 58), .ref (a 59), .ref (a 61), .ref (a 63), .int (S 49 12), .int (S 49 13), .int (S 49 14)])), (a 50, .inl (cs 1, 7, .inl (S 50))), (a 51, .inl (cs 1, 7, .inl (S 51))), (a 52, .inl (cs 1, 7, .inl (S 52))), (a 53, .inl (cs 1, 28, .inl (S 53))), (a 54, .inl (cs 1, 5, .inl (S 54))), (a 55, .inl (cs 1, 5, .inl (S 55))), (a 56, .inl (cs 1, 5, .inl (S 56))), (a 57, .inl (cs 1, 5, .inl (S 57))), (a 58, .inl (cs 1, 5, .inl (S 58))), (a 59, .inr (2, [.int 6, .int 6, .ref (a 60), .int (S 59 3)])), (a 60, .inl (cs 1, 36, .inl (S 60))), (a 61, .inr (2, [.int 4, .int 6, .ref (a 62), .int (S 61 3)])), (a 62, .inl (cs 1, 24, .inl (S 62))), (a 63, .inr (2, [.int 18, .int 8, .ref (a 64), .int (S 63 3)])), (a 64, .inl (cs 1, 144, .inl (S 64))), (a 65, .inl (cs 4, 2, .inr (.inr (.inr (.inr (fun j => if j = 0 then some (a 33) else if j = 1 then some (a 49) else none)))))), (a 66, .inl (cs 3, 2, .inl (S 66))), (a 67, .inr (1, [.ref (a 68), .ref (a 69), .int (S 67 2), .int (S 67 3), .int (S 67 4), .int (S 67 5)])), (a 68, .inl (cs 0, 150, .inl (S 68))), (a 69, .inl (cs 1, 6, .inl (S 69))), (a 70, .inr (0, [.ref (a 71), .ref (a 72), .ref (a 73), .ref (a 74), .int (S 70 4)])), (a 71, .inl (cs 2, 7, .inr (.inl (L 71)))), (a 72, .inl (cs 2, 7, .inr (.inl (L 72)))), (a 73, .inl (cs 2, 7, .inr (.inl (L 73)))), (a 74, .inl (cs 2, 7, .inr (.inl (L 74)))), (a 75, .inl (cs 1, 3, .inl (S 75))), (a 76, .inl (cs 1, 6, .inl (S 76))), (a 77, .inl (cs 1, 8, .inl (S 77))), (a 78, .inl (cs 1, 36, .inl (S 78)))] : va_W) := rfl
set_option maxRecDepth 20000 in
theorem wbX6_X5_17 (cs : Nat → ClassId) (a : Nat → Nat) (S : Nat → Nat → Int32) (L : Nat → Nat → Int64) : ([0, 1, 2, 3, 4, 5, 6, 7, 8, 9, 10, 11, 12, 13, 14, 15, 16, 63, 64, 65, 66, 67, 68, 69, 70, 71, 72, 73, 74, 75, 76, 77, 78, 17, 18, 19, 20, 21, 22, 23, 24, 25, 26, 27, 28, 29, 30, 31, 32, 33, 34, 35, 36, 37, 38, 39, 40, 41, 42, 43, 44, 45, 46, 47, 48, 49, 50, 51, 52, 53, 54, 55, 56, 57, 58, 59, 60, 61, 62] : List Nat).map (fun i => (([0, 1, 2, 3, 4, 5, 6, 7, 8, 9, 10, 11, 12, 13, 14, 15, 16, 33, 34, 35, 36, 37, 38, 39, 40, 41, 42, 43, 44, 45, 46, 47, 48, 49, 50, 51, 52, 53, 54, 55, 56, 57, 58, 59, 60, 61, 62, 63, 64, 65, 66, 67, 68, 69, 70, 71, 72, 73, 74, 75, 76, 77, 78] : List Nat).filterMap (fun i => (wX6 cs a S L)[i]?) ++ (wX5 cs (k_wi a 17) (k_wi S 17)))[i]?) = (wX6 cs a S L).map some := (congrArg (fun z : va_W => ([0, 1, 2, 3, 4, 5, 6, 7, 8, 9, 10, 11, 12, 13, 14, 15, 16, 63, 64, 65, 66, 67, 68, 69, 70, 71, 72, 73, 74, 75, 76, 77, 78, 17, 18, 19, 20, 21, 22, 23, 24, 25, 26, 27, 28, 29, 30, 31, 32, 33, 34, 35, 36, 37, 38, 39, 40, 41, 42, 43, 44, 45, 46, 47, 48, 49, 50, 51, 52, 53, 54, 55, 56, 57, 58, 59, 60, 61, 62] : List Nat).map (fun i => (z ++ (wX5 cs (k_wi a 17) (k_wi S 17)))[i]?)) (wrX6_X5_17 cs a S L)).trans rfl
set_option maxRecDepth 20000 in
theorem wcX6_X3_11 (cs : Nat → ClassId) (a : Nat → Nat) (S : Nat → Nat → Int32) (L : Nat → Nat → Int64) : ([11, 12] : List Nat).map (fun i => (wX6 cs a S L)[i]?) = (wX3 cs 36 (6 : Int32) (6 : Int32) (k_wi a 11) (k_wi S 11)).map some := rfl
set_option maxRecDepth 20000 in
theorem wrX6_X3_11 (cs : Nat → ClassId) (a : Nat → Nat) (S : Nat → Nat → Int32) (L : Nat → Nat → Int64) : ([0, 1, 2, 3, 4, 5, 6, 7, 8, 9, 10, 13, 14, 15, 16, 17, 18, 19, 20, 21, 22, 23, 24, 25, 26, 27, 28, 29, 30, 31, 32, 33, 34, 35, 36, 37, 38, 39, 40, 41, 42, 43, 44, 45, 46, 47, 48, 49, 50, 51, 52, 53, 54, 55, 56, 57, 58, 59, 60, 61, 62, 63, 64, 65, 66, 67, 68, 69, 70, 71, 72, 73, 74, 75, 76, 77, 78] : List Nat).filterMap (fun i => (wX6 cs a S L)[i]?) = ([(a 0, .inr (4, [.ref (a 1), .ref (a 17), .ref (a 65), .ref (a 66), .ref (a 67), .ref (a 70), .ref (a 75), .ref (a 76), .ref (a 77), .ref (a 78), .long (L 0 10), .long (L 0 11)])), (a 1, .inr (3, [.ref (a 2), .ref (a 3), .ref (a 4), .ref (a 5), .ref (a 6), .ref (a 7), .ref (a 8), .ref (a 9), .ref (a 10), .ref (a 11), .ref (a 13), .ref (a 15), .int (S 1 12), .int (S 1 13), .int (S 1 14)])), (a 2, .inl (cs 1, 7, .inl (S 2))), (a 3, .inl (cs 1, 7, .inl (S 3))), (a 4, .inl (cs 1, 7, .inl (S 4))), (a 5, .inl (cs 1, 28, .inl (S 5))), (a 6, .inl (cs 1, 5, .inl (S 6))), (a 7, .inl (cs 1, 5, .inl (S 7))), (a 8, .inl (cs 1, 5, .inl (S 8))), (a 9, .inl (cs 1, 5, .inl (S 9))), (a 10, .inl (cs 1, 5, .inl (S 10))), (a 13, .inr (2, [.int 4, .int 6, .ref (a 14), .int (S 13 3)])), (a 14, .inl (cs 1, 24, .inl (S 14))), (a 15, .inr (2, [.int 18, .int 8, .ref (a 16), .int (S 15 3)])), (a 16, .inl (cs 1, 144, .inl (S 16))), (a 17, .inr (3, [.ref (a 18), .ref (a 19), .ref (a 20), .ref (a 21), .ref (a 22), .ref (a 23), .ref (a 24), .ref (a 25), .ref (a 26), .ref (a 27), .ref (a 29), .ref (a 31), .int (S 17 12), .int (S 17 13), .int (S 17 14)])), (a 18, .inl (cs 1, 7, .inl (S 18))), (a 19, .inl (cs 1, 7, .inl (S 19))), (a 20, .inl (cs 1, 7, .inl (S 20))), (a 21, .inl (cs 1, 28, .inl (S 21))), (a 22, .inl (cs 1, 5, .inl (S 22))), (a 23, .inl (cs 1, 5, .inl (S 23))), (a 24, .inl (cs 1, 5, .inl (S 24))), (a 25, .inl (cs 1, 5, .inl (S 25))), (a 26, .inl (cs 1, 5, .inl (S 26))), (a 27, .inr (2, [.int 6, .int 6, .ref (a 28), .int (S 27 3)])), (a 28, .inl (cs 1, 36, .inl (S 28))), (a 29, .inr (2, [.int 4, .int 6, .ref (a 30), .int (S 29 3)])), (a 30, .inl (cs 1, 24, .inl (S 30))), (a 31, .inr (2, [.int 18, .int 8, .ref (a 32), .int (S 31 3)])), (a 32, .inl (cs 1, 144, .inl (S 32))), (a 33, .inr (3, [.ref (a 34), .ref (a 35), .ref (a 36), .ref (a 37), .ref (a 38), .ref (a 39), .ref (a 40), .ref (a 41), .ref (a 42), .ref (a 43), .ref (a 45), .ref (a 47), .int (S 33 12), .int (S 33 13), .int (S 33 14)])), (a 34, .inl (cs 1, 7, .inl (S 34))), (a 35, .inl (cs 1, 7, .inl (S 35))), (a 36, .inl (cs 1, 7, .inl (S 36))), (a 37, .inl (cs 1, 28, .inl (S 37))), (a 38, .inl (cs 1, 5, .inl (S 38))), (a 39, .inl (cs 1, 5, .inl (S 39))), (a 40, .inl (cs 1, 5, .inl (S 40))), (a 41, .inl (cs 1, 5, .inl (S 41))), (a 42, .inl (cs 1, 5, .inl (S 42))), (a 43, .inr (2, [.int 6, .int 6, .ref (a 44), .int (S 43 3)])), (a 44, .inl (cs 1, 36, .inl (S 44))), (a 45, .inr (2, [.int 4, .int 6, .ref (a 46), .int (S 45 3)])), (a 46, .inl (cs 1, 24, .inl (S 46))), (a 47, .inr (2, [.int 18, .int 8, .ref (a 48), .int (S 47 3)])), (a 48, .inl (cs 1, 144, .inl (S 48))), (a 49, .inr (3, [.ref (a 50), .ref (a 51), .ref (a 52), .ref (a 53), .ref (a 54), .ref (a 55), .ref (a 56), .ref (a 57), .ref (a 58), .ref (a 59), .ref (a 61), .ref (a 63), .int (S 49 12), .int (S 49 13), .int (S 49 14)])), (a 50, .inl (cs 1, 7, .inl (S 50))), (a 51, .inl (cs 1, 7, .inl (S 51))), (a 52, .inl (cs 1, 7, .inl (S 52))), (a 53, .inl (cs 1, 28, .inl (S 53))), (a 54, .inl (cs 1, 5, .inl (S 54))), (a 55, .inl (cs 1, 5, .inl (S 55))), (a 56, .inl (cs 1, 5, .inl (S 56))), (a 57, .inl (cs 1, 5, .inl (S 57))), (a 58, .inl (cs 1, 5, .inl (S 58))), (a 59, .inr (2, [.int 6, .int 6, .ref (a 60), .int (S 59 3)])), (a 60, .inl (cs 1, 36, .inl (S 60))), (a 61, .inr (2, [.int 4, .int 6, .ref (a 62), .int (S 61 3)])), (a 62, .inl (cs 1, 24, .inl (S 62))), (a 63, .inr (2, [.int 18, .int 8, .ref (a 64), .int (S 63 3)])), (a 64, .inl (cs 1, 144, .inl (S 64))), (a 65, .inl (cs 4, 2, .inr (.inr (.inr (.inr (fun j => if j = 0 then some (a 33) else if j = 1 then some (a 49) else none)))))), (a 66, .inl (cs 3, 2, .inl (S 66))), (a 67, .inr (1, [.ref (a 68), .ref (a 69), .int (S 67 2), .int (S 67 3), .int (S 67 4), .int (S 67 5)])), (a 68, .inl (cs 0, 150, .inl (S 68))), (a 69, .inl (cs 1, 6, .inl (S 69))), (a 70, .inr (0, [.ref (a 71), .ref (a 72), .ref (a 73), .ref (a 74), .int (S 70 4)])), (a 71, .inl (cs 2, 7, .inr (.inl (L 71)))), (a 72, .inl (cs 2, 7, .inr (.inl (L 72)))), (a 73, .inl (cs 2, 7, .inr (.inl (L 73)))), (a 74, .inl (cs 2, 7, .inr (.inl (L 74)))), (a 75, .inl (cs 1, 3, .inl (S 75))), (a 76, .inl (cs 1, 6, .inl (S 76))), (a 77, .inl (cs 1, 8, .inl (S 77))), (a 78, .inl (cs 1, 36, .inl (S 78)))] : va_W) := rfl
set_option maxRecDepth 20000 in
theorem wbX6_X3_11 (cs : Nat → ClassId) (a : Nat → Nat) (S : Nat → Nat → Int32) (L : Nat → Nat → Int64) : ([0, 1, 2, 3, 4, 5, 6, 7, 8, 9, 10, 77, 78, 11, 12, 13, 14, 15, 16, 17, 18, 19, 20, 21, 22, 23, 24, 25, 26, 27, 28, 29, 30, 31, 32, 33, 34, 35, 36, 37, 38, 39, 40, 41, 42, 43, 44, 45, 46, 47, 48, 49, 50, 51, 52, 53, 54, 55, 56, 57, 58, 59, 60, 61, 62, 63, 64, 65, 66, 67, 68, 69, 70, 71, 72, 73, 74, 75, 76] : List Nat).map (fun i => (([0, 1, 2, 3, 4, 5, 6, 7, 8, 9, 10, 13, 14, 15, 16, 17, 18, 19, 20, 21, 22, 23, 24, 25, 26, 27, 28, 29, 30, 31, 32, 33, 34, 35, 36, 37, 38, 39, 40, 41, 42, 43, 44, 45, 46, 47, 48, 49, 50, 51, 52, 53, 54, 55, 56, 57, 58, 59, 60, 61, 62, 63, 64, 65, 66, 67, 68, 69, 70, 71, 72, 73, 74, 75, 76, 77, 78] : List Nat).filterMap (fun i => (wX6 cs a S L)[i]?) ++ (wX3 cs 36 (6 : Int32) (6 : Int32) (k_wi a 11) (k_wi S 11)))[i]?) = (wX6 cs a S L).map some := (congrArg (fun z : va_W => ([0, 1, 2, 3, 4, 5, 6, 7, 8, 9, 10, 77, 78, 11, 12, 13, 14, 15, 16, 17, 18, 19, 20, 21, 22, 23, 24, 25, 26, 27, 28, 29, 30, 31, 32, 33, 34, 35, 36, 37, 38, 39, 40, 41, 42, 43, 44, 45, 46, 47, 48, 49, 50, 51, 52, 53, 54, 55, 56, 57, 58, 59, 60, 61, 62, 63, 64, 65, 66, 67, 68, 69, 70, 71, 72, 73, 74, 75, 76] : List Nat).map (fun i => (z ++ (wX3 cs 36 (6 : Int32) (6 : Int32) (k_wi a 11) (k_wi S 11)))[i]?)) (wrX6_X3_11 cs a S L)).trans rfl
set_option maxRecDepth 20000 in
theorem wbX6_X3_11_S0 (cs : Nat → ClassId) (a : Nat → Nat) (S : Nat → Nat → Int32) (L : Nat → Nat → Int64) (VS0 : Nat → Nat → Int32) : ([0, 1, 2, 3, 4, 5, 6, 7, 8, 9, 10, 77, 78, 11, 12, 13, 14, 15, 16, 17, 18, 19, 20, 21, 22, 23, 24, 25, 26, 27, 28, 29, 30, 31, 32, 33, 34, 35, 36, 37, 38, 39, 40, 41, 42, 43, 44, 45, 46, 47, 48, 49, 50, 51, 52, 53, 54, 55, 56, 57, 58, 59, 60, 61, 62, 63, 64, 65, 66, 67, 68, 69, 70, 71, 72, 73, 74, 75, 76] : List Nat).map (fun i => (([0, 1, 2, 3, 4, 5, 6, 7, 8, 9, 10, 13, 14, 15, 16, 17, 18, 19, 20, 21, 22, 23, 24, 25, 26, 27, 28, 29, 30, 31, 32, 33, 34, 35, 36, 37, 38, 39, 40, 41, 42, 43, 44, 45, 46, 47, 48, 49, 50, 51, 52, 53, 54, 55, 56, 57, 58, 59, 60, 61, 62, 63, 64, 65, 66, 67, 68, 69, 70, 71, 72, 73, 74, 75, 76, 77, 78] : List Nat).filterMap (fun i => (wX6 cs a S L)[i]?) ++ (wX3 cs 36 (6 : Int32) (6 : Int32) (k_wi a 11) VS0))[i]?) = (wX6 cs a (k_sp S 11 2 VS0) L).map some := (congrArg (fun z : va_W => ([0, 1, 2, 3, 4, 5, 6, 7, 8, 9, 10, 77, 78, 11, 12, 13, 14, 15, 16, 17, 18, 19, 20, 21, 22, 23, 24, 25, 26, 27, 28, 29, 30, 31, 32, 33, 34, 35, 36, 37, 38, 39, 40, 41, 42, 43, 44, 45, 46, 47, 48, 49, 50, 51, 52, 53, 54, 55, 56, 57, 58, 59, 60, 61, 62, 63, 64, 65, 66, 67, 68, 69, 70, 71, 72, 73, 74, 75, 76] : List Nat).map (fun i => (z ++ (wX3 cs 36 (6 : Int32) (6 : Int32) (k_wi a 11) VS0))[i]?)) (wrX6_X3_11 cs a S L)).trans rfl
-- LeastNeed.wears(III)I
set_option maxHeartbeats 4000000 in
set_option maxRecDepth 100000 in
theorem mX6_wears (l : Launch) (D : va_G) (cs : Nat → ClassId) (a : Nat → Nat) (S : Nat → Nat → Int32) (L : Nat → Nat → Int64) (p1 : Int32) (p2 : Int32) (p3 : Int32) (r9 : Int32) (S9 : (Nat → Nat → Int32)) (hd : nX6_wears S L p1 p2 p3 = some (r9, S9)) : ∀ sz : Nat, Met l yX6_wears wsX6_wears ({ frames := 4, cells := 0, slots := 0, locals := 106 }) (k_Pc D cs [.ref (a 0), .int p1, .int p2, .int p3] (wX6 cs a S L) sz) (k_Qi D r9 (wX6 cs a S L) (wX6 cs a S9 L) sz) 0 0 (va_A (wX6 cs a S L) sz) := by
  intro sz
  refine Met.ofW (cc := cX6_wears) (maxL := 6) (ret := (some .int)) (by decide) rfl ?_
  intro p e s m args below meth c s₁ B hml hv
  obtain ⟨rfl, hsz, hP, hK, hD0, hNn⟩ := hv
  have hx := B.exec
  have hb := B.bytes
  have hr := B.returns
  have hts := atoms_spec (ws := wsX6_wears) B.pre
  have hown : s.vm.findClass RX6 = some m.cls := findClass_of_methodNamed B.named
  have hlocks := B.notSynchronized
  subst hsz
  obtain ⟨A, hAe⟩ : ∃ A : Nat → Prop, A = va_A (wX6 cs a S L) s.heap.size := ⟨_, rfl⟩
  have hD : va_D A (wX6 cs a S L) := by rw [hAe]; exact hD0.self
  have hA : ∀ q : Nat, s.heap.size ≤ q → A q := fun q h => by rw [hAe]; exact Or.inr h
  have hS : va_S A s.heap s.heap [] := va_S.rf
  have hDA : ∀ (S : Nat → Nat → Int32) (L : Nat → Nat → Int64), va_D A (wX6 cs a S L) := fun S L => k_DA hD rfl
  have hl := lv_entry ([.ref (a 0), .int p1, .int p2, .int p3]) (n := 6) (Nat.le_of_ble_eq_true rfl)
  rw [lg_entry_eq]
  generalize (lg_sl ([.ref (a 0), .int p1, .int p2, .int p3]) ++ List.replicate (6 - (lg_sl ([.ref (a 0), .int p1, .int p2, .int p3])).length) Slot.unset).toArray = ls at hl ⊢
  have hl : lv_has ls 6 [(0, .ref (a 0)), (1, .int p1), (2, .int p2), (3, .int p3)] := hl
  obtain ⟨Q, hQ⟩ : ∃ Q, Q = MQ below (k_Qi D r9 (wX6 cs a S L) (wX6 cs a S9 L) s.heap.size) ([.ref (a 0), .int p1, .int p2, .int p3] : List Value).toArray s 0 0 (va_A (wX6 cs a S L) s.heap.size) := ⟨_, rfl⟩
  rw [← hQ]
  have Lo58 : ∀ (n1 : Nat) (x4_58 : Int32) (S_58 : Nat → Nat → Int32) (H : Heap) (locs : List Loc) (ls : Array Slot), k_it (fun st => nX6_wears_l58 p1 p2 p3 st.1 st.2 L) n1 (x4_58, S_58) = some (r9, S9) → lv_has ls 6 [(0, .ref (a 0)), (1, .int p1), (2, .int p2), (3, .int p3), (4, .int x4_58)] → va_P D vwCl (wX6 cs a S_58 L) H → va_S A s.heap H locs → W p l e (headSpec wsX6_wears ({ frames := 4, cells := 0, slots := 0, locals := 106 })).room s m ([.ref (a 0), .int p1, .int p2, .int p3] : List Value).toArray below meth c H locs 0 0 Q (F0 m 58 ls []) := by
    intro n1
    induction n1 with
    | zero => intro x4_58 S_58 H locs ls hd; exact dn_it0 hd
    | succ n1 ih1 =>
      intro x4_58 S_58 H locs ls hd hl hP hS
      have hD := hDA S_58 L
      obtain ⟨y1, hd, hy1⟩ := dn_it hd
      have hd : nX6_wears_l58 p1 p2 p3 x4_58 S_58 L = some y1 := hd
      have Jo116 : ∀ (x4_116 : Int32) (w0_116 : Int32) (w1_116 : Int32) (S_116 : Nat → Nat → Int32) (H : Heap) (locs : List Loc) (ls : Array Slot), nX6_wears_i58_j116 p1 p2 p3 x4_116 w0_116 w1_116 S_116 L = some y1 → lv_has ls 6 [(0, .ref (a 0)), (1, .int p1), (2, .int p2), (3, .int p3), (4, .int x4_116)] → va_P D vwCl (wX6 cs a S_116 L) H → va_S A s.heap H locs → W p l e (headSpec wsX6_wears ({ frames := 4, cells := 0, slots := 0, locals := 106 })).room s m ([.ref (a 0), .int p1, .int p2, .int p3] : List Value).toArray below meth c H locs 0 0 Q (F0 m 116 ls [.int w0_116, .int w1_116]) := by
        intro x4_116 w0_116 w1_116 S_116 H locs ls hd hl hP hS
        have hD := hDA S_116 L
        unfold nX6_wears_i58_j116 at hd
        refine lv_icmp_ne (tgt := 122) hx hb dX6_wears_116 (by decide) (fun c116 => ?_) (fun c116 => ?_)
        · have hd := dn_f c116 hd
          refine lv_iinc (v := x4_116 + (1 : Int32)) (lv' := [(4, .int (x4_116 + (1 : Int32))), (0, .ref (a 0)), (1, .int p1), (2, .int p2), (3, .int p3)]) hx hb dX6_wears_122 hl (k := 4) rfl rfl (by decide) rfl (fun ls hl => ?_)
          refine lv_goto (tgt := 58) hx hb dX6_wears_125 (by decide) ?_
          exact ih1 (x4_116 + (1 : Int32)) S_116 _ _ _ (dn_bk hd hy1) (lv_sub hl [1, 2, 3, 4, 0] rfl) hP hS
        · have hd := dn_t c116 hd
          have hd := dn_up hd hy1
          refine lv_iload hx hb dX6_wears_119 (lv_at hl 4 rfl) ?_
          obtain ⟨e1, e2⟩ := dn_s2 hd
          exact k_iret hx hb hr hQ hAe e1 (by rw [e2]) hP hS hlocks dX6_wears_121
      have Jo102 : ∀ (x4_102 : Int32) (w0_102 : Int32) (S_102 : Nat → Nat → Int32) (H : Heap) (locs : List Loc) (ls : Array Slot), nX6_wears_i58_j102 p1 p2 p3 x4_102 w0_102 S_102 L = some y1 → lv_has ls 6 [(0, .ref (a 0)), (1, .int p1), (2, .int p2), (3, .int p3), (4, .int x4_102)] → va_P D vwCl (wX6 cs a S_102 L) H → va_S A s.heap H locs → W p l e (headSpec wsX6_wears ({ frames := 4, cells := 0, slots := 0, locals := 106 })).room s m ([.ref (a 0), .int p1, .int p2, .int p3] : List Value).toArray below meth c H locs 0 0 Q (F0 m 102 ls [.int w0_102]) := by
        intro x4_102 w0_102 S_102 H locs ls hd hl hP hS
        have hD := hDA S_102 L
        unfold nX6_wears_i58_j102 at hd
        refine lv_istore (lv' := [(5, .int w0_102), (0, .ref (a 0)), (1, .int p1), (2, .int p2), (3, .int p3), (4, .int x4_102)]) hx hb dX6_wears_102 hl (by decide) rfl (fun ls hl => ?_)
        refine lv_iload hx hb dX6_wears_104 (lv_at hl 0 rfl) ?_
        refine lv_iload_n hx hb dX6_wears_106 rfl (lv_at hl 4 rfl) ?_
        refine lv_iconst (v := (1 : Int32)) hx hb dX6_wears_107 (by decide) ?_
        refine lv_icmp_ne (tgt := 115) hx hb dX6_wears_108 (by decide) (fun c108 => ?_) (fun c108 => ?_)
        · have hd := dn_f c108 hd
          refine lv_iconst (v := (0 : Int32)) hx hb dX6_wears_115 (by decide) ?_
          exact Jo116 x4_102 (0 : Int32) w0_102 S_102 _ _ _ hd (lv_sub hl [1, 2, 3, 4, 5] rfl) hP hS
        · have hd := dn_t c108 hd
          refine lv_iconst (v := (1 : Int32)) hx hb dX6_wears_111 (by decide) ?_
          refine lv_goto (tgt := 116) hx hb dX6_wears_112 (by decide) ?_
          exact Jo116 x4_102 (1 : Int32) w0_102 S_102 _ _ _ hd (lv_sub hl [1, 2, 3, 4, 5] rfl) hP hS
      unfold nX6_wears_l58 at hd
      refine lv_iload hx hb dX6_wears_58 (lv_at hl 4 rfl) ?_
      refine lv_bipush (v := (10 : Int32)) hx hb dX6_wears_60 (by decide) ?_
      refine lv_icmp_ge (tgt := 128) hx hb dX6_wears_62 (by decide) (fun c62 => ?_) (fun c62 => ?_)
      · have hd := dn_t c62 hd
        have hd := dn_up hd hy1
        refine lv_iconst (v := (-1 : Int32)) hx hb dX6_wears_128 (by decide) ?_
        obtain ⟨e1, e2⟩ := dn_s2 hd
        exact k_iret hx hb hr hQ hAe e1 (by rw [e2]) hP hS hlocks dX6_wears_129
      · have hd := dn_f c62 hd
        refine lv_aload_n hx hb dX6_wears_65 rfl (lv_at hl 0 rfl) ?_
        refine va_get (D := D) (ci := 4) (v := .ref (a 17)) (C := RX6) (T := TX6) (N := 12) hx hb hts (fun w h => List.mem_cons_of_mem _ (List.mem_append_left _ (List.mem_append_left _ (List.mem_append_right _ h)))) hown hK hP 0 rfl rfl 1 (by decide) (hts (.fieldLink RX6 16 "LeastNeed" "trial" "LLeastNeed$Valley;") (List.mem_of_getElem? (i := 3) rfl)) (fun _ h9 => h9) rfl dX6_wears_66 ?_
        refine va_get (D := D) (ci := 3) (v := .ref (a 20)) (C := RX5) (T := TX5) (N := 15) hx hb hts (fun w h => List.mem_cons_of_mem _ (List.mem_append_left _ (List.mem_append_right _ h))) hown hK hP 17 rfl rfl 2 (by decide) (hts (.fieldLink RX6 134 "LeastNeed$Valley" "worn" "[I") (List.mem_of_getElem? (i := 4) rfl)) (fun _ h9 => h9) rfl dX6_wears_69 ?_
        refine lv_iload_n hx hb dX6_wears_72 rfl (lv_at hl 1 rfl) ?_
        refine lv_iload hx hb dX6_wears_73 (lv_at hl 4 rfl) ?_
        obtain ⟨hi75, hd⟩ := dn_i hd
        refine k_iast (D := D) (k := p1.toNatClampNeg) (by rfl) hx hb hK hP hD hS 20 1 rfl rfl hi75 dX6_wears_75 (fun H locs hP hD hS => ?_)
        have hP : va_P D vwCl (wX6 cs a (k_w S_58 20 p1.toNatClampNeg x4_58) L) _ := k_eq hP (wsX6_a20 cs a S_58 L p1.toNatClampNeg x4_58)
        have hD := hDA (k_w S_58 20 p1.toNatClampNeg x4_58) L
        refine lv_aload_n hx hb dX6_wears_76 rfl (lv_at hl 0 rfl) ?_
        refine va_get (D := D) (ci := 4) (v := .ref (a 17)) (C := RX6) (T := TX6) (N := 12) hx hb hts (fun w h => List.mem_cons_of_mem _ (List.mem_append_left _ (List.mem_append_left _ (List.mem_append_right _ h)))) hown hK hP 0 rfl rfl 1 (by decide) (hts (.fieldLink RX6 16 "LeastNeed" "trial" "LLeastNeed$Valley;") (List.mem_of_getElem? (i := 3) rfl)) (fun _ h9 => h9) rfl dX6_wears_77 ?_
        refine lv_iload_n hx hb dX6_wears_80 rfl (lv_at hl 2 rfl) ?_
        refine lv_aload_n hx hb dX6_wears_81 rfl (lv_at hl 0 rfl) ?_
        refine va_get (D := D) (ci := 4) (v := .ref (a 17)) (C := RX6) (T := TX6) (N := 12) hx hb hts (fun w h => List.mem_cons_of_mem _ (List.mem_append_left _ (List.mem_append_left _ (List.mem_append_right _ h)))) hown hK hP 0 rfl rfl 1 (by decide) (hts (.fieldLink RX6 16 "LeastNeed" "trial" "LLeastNeed$Valley;") (List.mem_of_getElem? (i := 3) rfl)) (fun _ h9 => h9) rfl dX6_wears_82 ?_
        refine va_get (D := D) (ci := 3) (v := .ref (a 25)) (C := RX5) (T := TX5) (N := 15) hx hb hts (fun w h => List.mem_cons_of_mem _ (List.mem_append_left _ (List.mem_append_right _ h))) hown hK hP 17 rfl rfl 7 (by decide) (hts (.fieldLink RX6 121 "LeastNeed$Valley" "holder" "[I") (List.mem_of_getElem? (i := 2) rfl)) (fun _ h9 => h9) rfl dX6_wears_85 ?_
        refine lv_iload_n hx hb dX6_wears_88 rfl (lv_at hl 2 rfl) ?_
        obtain ⟨hi89, hd⟩ := dn_i hd
        refine k_iald (D := D) (k := p2.toNatClampNeg) (by rfl) hx hb hK hP 25 1 rfl rfl hi89 dX6_wears_89 ?_
        obtain ⟨r90, hq90, hd⟩ := dn_b1 hd
        have hPc : va_P D vwCl (wX5 cs (k_wi a 17) (k_wi (k_w S_58 20 p1.toNatClampNeg x4_58) 17)) _ := k_sub hP [17, 18, 19, 20, 21, 22, 23, 24, 25, 26, 27, 28, 29, 30, 31, 32] (wcX6_X5_17 cs a (k_w S_58 20 p1.toNatClampNeg x4_58) L)
        have hDc : va_D A (wX5 cs (k_wi a 17) (k_wi (k_w S_58 20 p1.toNatClampNeg x4_58) 17)) := hD.sub [17, 18, 19, 20, 21, 22, 23, 24, 25, 26, 27, 28, 29, 30, 31, 32] (by decide +kernel) (wcX6_X5_17 cs a (k_w S_58 20 p1.toNatClampNeg x4_58) L)
        have hF := k_self hDc hS hA
        refine k_run_i (va_runV (As := [.int p2, .int ((k_w S_58 20 p1.toNatClampNeg x4_58) 25 p2.toNatClampNeg)]) (rest := []) ⟨hx, hb, hml, hown, hts⟩ (mX5_nextOf l D cs (k_wi a 17) (k_wi (k_w S_58 20 p1.toNatClampNeg x4_58) 17) p2 ((k_w S_58 20 p1.toNatClampNeg x4_58) 25 p2.toNatClampNeg) r90 hq90 _) (cwV 2 hts gX6_wears_X5_nextOf rfl rfl rfl (by decide +kernel) ⟨Nat.le_of_ble_eq_true rfl, Nat.le_of_ble_eq_true rfl⟩) ⟨k_blind, va_recv hK hP (ci := 3) (q0 := 17) rfl rfl, k_pre hPc hK hNn hDc⟩ rfl rfl hl.1 rfl (lv_room (Nat.le_of_ble_eq_true rfl)) dX6_wears_90 ⟨Nat.le_of_ble_eq_true rfl, Nat.le_of_ble_eq_true rfl⟩) hS hF (fun H locs hP1 hk hS => ?_)
        have hP : va_P D vwCl (wX6 cs a (k_w S_58 20 p1.toNatClampNeg x4_58) L) _ := k_back hP hD [17, 18, 19, 20, 21, 22, 23, 24, 25, 26, 27, 28, 29, 30, 31, 32] [0, 1, 2, 3, 4, 5, 6, 7, 8, 9, 10, 11, 12, 13, 14, 15, 16, 33, 34, 35, 36, 37, 38, 39, 40, 41, 42, 43, 44, 45, 46, 47, 48, 49, 50, 51, 52, 53, 54, 55, 56, 57, 58, 59, 60, 61, 62, 63, 64, 65, 66, 67, 68, 69, 70, 71, 72, 73, 74, 75, 76, 77, 78] [0, 1, 2, 3, 4, 5, 6, 7, 8, 9, 10, 11, 12, 13, 14, 15, 16, 63, 64, 65, 66, 67, 68, 69, 70, 71, 72, 73, 74, 75, 76, 77, 78, 17, 18, 19, 20, 21, 22, 23, 24, 25, 26, 27, 28, 29, 30, 31, 32, 33, 34, 35, 36, 37, 38, 39, 40, 41, 42, 43, 44, 45, 46, 47, 48, 49, 50, 51, 52, 53, 54, 55, 56, 57, 58, 59, 60, 61, 62] (wcX6_X5_17 cs a (k_w S_58 20 p1.toNatClampNeg x4_58) L) (by decide +kernel) hk hP1 (wbX6_X5_17 cs a (k_w S_58 20 p1.toNatClampNeg x4_58) L)
        have hD := hDA (k_w S_58 20 p1.toNatClampNeg x4_58) L
        refine lv_iload_n hx hb dX6_wears_93 rfl (lv_at hl 1 rfl) ?_
        refine lv_icmp_ne (tgt := 101) hx hb dX6_wears_94 (by decide) (fun c94 => ?_) (fun c94 => ?_)
        · have hd := dn_f c94 hd
          refine lv_iconst (v := (0 : Int32)) hx hb dX6_wears_101 (by decide) ?_
          exact Jo102 x4_58 (0 : Int32) (k_w S_58 20 p1.toNatClampNeg x4_58) _ _ _ hd (lv_sub hl [0, 1, 2, 3, 4] rfl) hP hS
        · have hd := dn_t c94 hd
          refine lv_iconst (v := (1 : Int32)) hx hb dX6_wears_97 (by decide) ?_
          refine lv_goto (tgt := 102) hx hb dX6_wears_98 (by decide) ?_
          exact Jo102 x4_58 (1 : Int32) (k_w S_58 20 p1.toNatClampNeg x4_58) _ _ _ hd (lv_sub hl [0, 1, 2, 3, 4] rfl) hP hS
  have Jo24 : ∀ (S_24 : Nat → Nat → Int32) (H : Heap) (locs : List Loc) (ls : Array Slot), nX6_wears_j24 S_24 L = some (r9, S9) → lv_has ls 6 [(0, .ref (a 0))] → va_P D vwCl (wX6 cs a S_24 L) H → va_S A s.heap H locs → W p l e (headSpec wsX6_wears ({ frames := 4, cells := 0, slots := 0, locals := 106 })).room s m ([.ref (a 0), .int p1, .int p2, .int p3] : List Value).toArray below meth c H locs 0 0 Q (F0 m 24 ls []) := by
    intro S_24 H locs ls hd hl hP hS
    have hD := hDA S_24 L
    unfold nX6_wears_j24 at hd
    refine lv_aload_n hx hb dX6_wears_24 rfl (lv_at hl 0 rfl) ?_
    obtain ⟨r25, S25, hq25, hd⟩ := dn_b2 hd
    have hF := k_self hD hS hA
    refine k_run_i (va_runV (As := []) (rest := []) ⟨hx, hb, hml, hown, hts⟩ (mX6_refusedAsBad l D cs a S_24 L r25 S25 hq25 _) (cwV 0 hts gX6_wears_X6_refusedAsBad rfl rfl rfl (by decide +kernel) ⟨Nat.le_of_ble_eq_true rfl, Nat.le_of_ble_eq_true rfl⟩) ⟨k_blind, va_recv hK hP (ci := 4) (q0 := 0) rfl rfl, k_pre hP hK hNn hD⟩ rfl rfl hl.1 rfl (lv_room (Nat.le_of_ble_eq_true rfl)) dX6_wears_25 ⟨Nat.le_of_ble_eq_true rfl, Nat.le_of_ble_eq_true rfl⟩) hS hF (fun H locs hP1 hk hS => ?_)
    have hP : va_P D vwCl (wX6 cs a S25 L) _ := hP1
    have hD := hDA S25 L
    obtain ⟨e1, e2⟩ := dn_s2 hd
    exact k_iret hx hb hr hQ hAe e1 (by rw [e2]) hP hS hlocks dX6_wears_28
  unfold nX6_wears at hd
  refine lv_aload_n hx hb dX6_wears_0 rfl (lv_at hl 0 rfl) ?_
  refine lv_iload_n hx hb dX6_wears_1 rfl (lv_at hl 1 rfl) ?_
  obtain ⟨r2, hq2, hd⟩ := dn_b1 hd
  have hF := k_self hD hS hA
  refine k_run_i (va_runV (As := [.int p1]) (rest := []) ⟨hx, hb, hml, hown, hts⟩ (mX6_isPerson l D cs a S L p1 r2 hq2 _) (cwV 1 hts gX6_wears_X6_isPerson rfl rfl rfl (by decide +kernel) ⟨Nat.le_of_ble_eq_true rfl, Nat.le_of_ble_eq_true rfl⟩) ⟨k_blind, va_recv hK hP (ci := 4) (q0 := 0) rfl rfl, k_pre hP hK hNn hD⟩ rfl rfl hl.1 rfl (lv_room (Nat.le_of_ble_eq_true rfl)) dX6_wears_2 ⟨Nat.le_of_ble_eq_true rfl, Nat.le_of_ble_eq_true rfl⟩) hS hF (fun H locs hP1 hk hS => ?_)
  have hP : va_P D vwCl (wX6 cs a S L) _ := hP1
  have hD := hDA S L
  refine lv_if_eq (tgt := 24) hx hb dX6_wears_5 (by decide) (fun c5 => ?_) (fun c5 => ?_)
  · have hd := dn_t c5 hd
    exact Jo24 S _ _ _ hd (lv_sub hl [0] rfl) hP hS
  · have hd := dn_f c5 hd
    refine lv_aload_n hx hb dX6_wears_8 rfl (lv_at hl 0 rfl) ?_
    refine lv_iload_n hx hb dX6_wears_9 rfl (lv_at hl 2 rfl) ?_
    obtain ⟨r10, hq10, hd⟩ := dn_b1 hd
    have hF := k_self hD hS hA
    refine k_run_i (va_runV (As := [.int p2]) (rest := []) ⟨hx, hb, hml, hown, hts⟩ (mX6_isThing l D cs a S L p2 r10 hq10 _) (cwV 1 hts gX6_wears_X6_isThing rfl rfl rfl (by decide +kernel) ⟨Nat.le_of_ble_eq_true rfl, Nat.le_of_ble_eq_true rfl⟩) ⟨k_blind, va_recv hK hP (ci := 4) (q0 := 0) rfl rfl, k_pre hP hK hNn hD⟩ rfl rfl hl.1 rfl (lv_room (Nat.le_of_ble_eq_true rfl)) dX6_wears_10 ⟨Nat.le_of_ble_eq_true rfl, Nat.le_of_ble_eq_true rfl⟩) hS hF (fun H locs hP1 hk hS => ?_)
    have hP : va_P D vwCl (wX6 cs a S L) _ := hP1
    have hD := hDA S L
    refine lv_if_eq (tgt := 24) hx hb dX6_wears_13 (by decide) (fun c13 => ?_) (fun c13 => ?_)
    · have hd := dn_t c13 hd
      exact Jo24 S _ _ _ hd (lv_sub hl [0] rfl) hP hS
    · have hd := dn_f c13 hd
      refine lv_iload_n hx hb dX6_wears_16 rfl (lv_at hl 3 rfl) ?_
      refine lv_iconst (v := (2 : Int32)) hx hb dX6_wears_17 (by decide) ?_
      obtain ⟨r18, hq18, hd⟩ := dn_b1 hd
      have hPc := k_P0 hP
      have hDc : va_D A ([] : va_W) := k_D0
      have hF := k_self hDc hS hA
      refine k_run_i (va_runS (As := [.int p3, .int (2 : Int32)]) (rest := []) ⟨hx, hb, hml, hown, hts⟩ (mX6_upTo l D cs  p3 (2 : Int32) r18 hq18 _) (va_cwS 2 hts gX6_wears_X6_upTo rfl rfl rfl (by decide +kernel) ⟨Nat.le_of_ble_eq_true rfl, Nat.le_of_ble_eq_true rfl⟩) ⟨k_blind, k_pre hPc hK hNn hDc⟩ rfl rfl hl.1 rfl (lv_room (Nat.le_of_ble_eq_true rfl)) dX6_wears_18 ⟨Nat.le_of_ble_eq_true rfl, Nat.le_of_ble_eq_true rfl⟩) hS hF (fun H locs hP1 hk hS => ?_)
      have hP : va_P D vwCl (wX6 cs a S L) _ := k_keep hP hk
      refine lv_if_ne (tgt := 29) hx hb dX6_wears_21 (by decide) (fun c21 => ?_) (fun c21 => ?_)
      · have hd := dn_f c21 hd
        refine lv_aload_n hx hb dX6_wears_29 rfl (lv_at hl 0 rfl) ?_
        refine va_get (D := D) (ci := 4) (v := .ref (a 1)) (C := RX6) (T := TX6) (N := 12) hx hb hts (fun w h => List.mem_cons_of_mem _ (List.mem_append_left _ (List.mem_append_left _ (List.mem_append_right _ h)))) hown hK hP 0 rfl rfl 0 (by decide) (hts (.fieldLink RX6 12 "LeastNeed" "now" "LLeastNeed$Valley;") (List.mem_of_getElem? (i := 1) rfl)) (fun _ h9 => h9) rfl dX6_wears_30 ?_
        refine va_get (D := D) (ci := 3) (v := .ref (a 9)) (C := RX5) (T := TX5) (N := 15) hx hb hts (fun w h => List.mem_cons_of_mem _ (List.mem_append_left _ (List.mem_append_right _ h))) hown hK hP 1 rfl rfl 7 (by decide) (hts (.fieldLink RX6 121 "LeastNeed$Valley" "holder" "[I") (List.mem_of_getElem? (i := 2) rfl)) (fun _ h9 => h9) rfl dX6_wears_33 ?_
        refine lv_iload_n hx hb dX6_wears_36 rfl (lv_at hl 2 rfl) ?_
        obtain ⟨hi37, hd⟩ := dn_i hd
        refine k_iald (D := D) (k := p2.toNatClampNeg) (by rfl) hx hb hK hP 9 1 rfl rfl hi37 dX6_wears_37 ?_
        refine lv_iload_n hx hb dX6_wears_38 rfl (lv_at hl 1 rfl) ?_
        refine lv_icmp_ne (tgt := 44) hx hb dX6_wears_39 (by decide) (fun c39 => ?_) (fun c39 => ?_)
        · have hd := dn_f c39 hd
          refine lv_aload_n hx hb dX6_wears_44 rfl (lv_at hl 0 rfl) ?_
          refine va_get (D := D) (ci := 4) (v := .ref (a 17)) (C := RX6) (T := TX6) (N := 12) hx hb hts (fun w h => List.mem_cons_of_mem _ (List.mem_append_left _ (List.mem_append_left _ (List.mem_append_right _ h)))) hown hK hP 0 rfl rfl 1 (by decide) (hts (.fieldLink RX6 16 "LeastNeed" "trial" "LLeastNeed$Valley;") (List.mem_of_getElem? (i := 3) rfl)) (fun _ h9 => h9) rfl dX6_wears_45 ?_
          refine lv_aload_n hx hb dX6_wears_48 rfl (lv_at hl 0 rfl) ?_
          refine va_get (D := D) (ci := 4) (v := .ref (a 1)) (C := RX6) (T := TX6) (N := 12) hx hb hts (fun w h => List.mem_cons_of_mem _ (List.mem_append_left _ (List.mem_append_left _ (List.mem_append_right _ h)))) hown hK hP 0 rfl rfl 0 (by decide) (hts (.fieldLink RX6 12 "LeastNeed" "now" "LLeastNeed$Valley;") (List.mem_of_getElem? (i := 1) rfl)) (fun _ h9 => h9) rfl dX6_wears_49 ?_
          obtain ⟨S52, hq52, hd⟩ := dn_b1 hd
          have hPc : va_P D vwCl (wX5 cs (k_wi a 17) (k_wi S 17) ++ wX5 cs (k_wi a 1) (k_wi S 1)) _ := k_sub hP [17, 18, 19, 20, 21, 22, 23, 24, 25, 26, 27, 28, 29, 30, 31, 32, 1, 2, 3, 4, 5, 6, 7, 8, 9, 10, 11, 12, 13, 14, 15, 16] (wcX6_X5_X5_17_1 cs a S L)
          have hDc : va_D A (wX5 cs (k_wi a 17) (k_wi S 17) ++ wX5 cs (k_wi a 1) (k_wi S 1)) := hD.sub [17, 18, 19, 20, 21, 22, 23, 24, 25, 26, 27, 28, 29, 30, 31, 32, 1, 2, 3, 4, 5, 6, 7, 8, 9, 10, 11, 12, 13, 14, 15, 16] (by decide +kernel) (wcX6_X5_X5_17_1 cs a S L)
          have hF := k_self hDc hS hA
          refine k_run_v (va_runV (As := [.ref (a 1)]) (rest := []) ⟨hx, hb, hml, hown, hts⟩ (mX5_copyOf l D cs (k_wi a 17) (k_wi a 1) (k_wi S 17) (k_wi S 1) S52 hq52 _) (cwV 1 hts gX6_wears_X5_copyOf rfl rfl rfl (by decide +kernel) ⟨Nat.le_of_ble_eq_true rfl, Nat.le_of_ble_eq_true rfl⟩) ⟨k_blind, va_recv hK hP (ci := 3) (q0 := 17) rfl rfl, k_pre hPc hK hNn hDc⟩ rfl rfl hl.1 rfl (lv_room (Nat.le_of_ble_eq_true rfl)) dX6_wears_52 ⟨Nat.le_of_ble_eq_true rfl, Nat.le_of_ble_eq_true rfl⟩) hS hF (fun H locs hP1 hk hS => ?_)
          have hP : va_P D vwCl (wX6 cs a (k_sp S 17 16 S52) L) _ := k_back hP hD [17, 18, 19, 20, 21, 22, 23, 24, 25, 26, 27, 28, 29, 30, 31, 32, 1, 2, 3, 4, 5, 6, 7, 8, 9, 10, 11, 12, 13, 14, 15, 16] [0, 33, 34, 35, 36, 37, 38, 39, 40, 41, 42, 43, 44, 45, 46, 47, 48, 49, 50, 51, 52, 53, 54, 55, 56, 57, 58, 59, 60, 61, 62, 63, 64, 65, 66, 67, 68, 69, 70, 71, 72, 73, 74, 75, 76, 77, 78] [0, 63, 64, 65, 66, 67, 68, 69, 70, 71, 72, 73, 74, 75, 76, 77, 78, 47, 48, 49, 50, 51, 52, 53, 54, 55, 56, 57, 58, 59, 60, 61, 62, 1, 2, 3, 4, 5, 6, 7, 8, 9, 10, 11, 12, 13, 14, 15, 16, 17, 18, 19, 20, 21, 22, 23, 24, 25, 26, 27, 28, 29, 30, 31, 32, 33, 34, 35, 36, 37, 38, 39, 40, 41, 42, 43, 44, 45, 46] (wcX6_X5_X5_17_1 cs a S L) (by decide +kernel) hk hP1 (wbX6_X5_X5_17_1_S0 cs a S L S52)
          have hD := hDA (k_sp S 17 16 S52) L
          refine lv_iconst (v := (0 : Int32)) hx hb dX6_wears_55 (by decide) ?_
          refine lv_istore (lv' := [(4, .int (0 : Int32)), (0, .ref (a 0)), (1, .int p1), (2, .int p2), (3, .int p3)]) hx hb dX6_wears_56 hl (by decide) rfl (fun ls hl => ?_)
          exact Lo58 1000 (0 : Int32) (k_sp S 17 16 S52) _ _ _ hd (lv_sub hl [1, 2, 3, 4, 0] rfl) hP hS
        · have hd := dn_t c39 hd
          refine lv_iconst (v := (-1 : Int32)) hx hb dX6_wears_42 (by decide) ?_
          obtain ⟨e1, e2⟩ := dn_s2 hd
          exact k_iret hx hb hr hQ hAe e1 (by rw [e2]) hP hS hlocks dX6_wears_43
      · have hd := dn_t c21 hd
        exact Jo24 S _ _ _ hd (lv_sub hl [0] rfl) hP hS
-- LeastNeed.costs()I
set_option maxHeartbeats 4000000 in
set_option maxRecDepth 100000 in
theorem mX6_costs (l : Launch) (D : va_G) (cs : Nat → ClassId) (a : Nat → Nat) (S : Nat → Nat → Int32) (L : Nat → Nat → Int64) (r9 : Int32) (hd : nX6_costs S L = some r9) : ∀ sz : Nat, Met l yX6_costs wsX6_costs ({ frames := 3, cells := 0, slots := 0, locals := 71 }) (k_Pc D cs [.ref (a 0)] (wX6 cs a S L) sz) (k_Qi D r9 (wX6 cs a S L) (wX6 cs a S L) sz) 0 0 (va_A (wX6 cs a S L) sz) := by
  intro sz
  refine Met.ofW (cc := cX6_costs) (maxL := 3) (ret := (some .int)) (by decide) rfl ?_
  intro p e s m args below meth c s₁ B hml hv
  obtain ⟨rfl, hsz, hP, hK, hD0, hNn⟩ := hv
  have hx := B.exec
  have hb := B.bytes
  have hr := B.returns
  have hts := atoms_spec (ws := wsX6_costs) B.pre
  have hown : s.vm.findClass RX6 = some m.cls := findClass_of_methodNamed B.named
  have hlocks := B.notSynchronized
  subst hsz
  obtain ⟨A, hAe⟩ : ∃ A : Nat → Prop, A = va_A (wX6 cs a S L) s.heap.size := ⟨_, rfl⟩
  have hD : va_D A (wX6 cs a S L) := by rw [hAe]; exact hD0.self
  have hA : ∀ q : Nat, s.heap.size ≤ q → A q := fun q h => by rw [hAe]; exact Or.inr h
  have hS : va_S A s.heap s.heap [] := va_S.rf
  have hDA : ∀ (S : Nat → Nat → Int32) (L : Nat → Nat → Int64), va_D A (wX6 cs a S L) := fun S L => k_DA hD rfl
  have hl := lv_entry ([.ref (a 0)]) (n := 3) (Nat.le_of_ble_eq_true rfl)
  rw [lg_entry_eq]
  generalize (lg_sl ([.ref (a 0)]) ++ List.replicate (3 - (lg_sl ([.ref (a 0)])).length) Slot.unset).toArray = ls at hl ⊢
  have hl : lv_has ls 3 [(0, .ref (a 0))] := hl
  obtain ⟨Q, hQ⟩ : ∃ Q, Q = MQ below (k_Qi D r9 (wX6 cs a S L) (wX6 cs a S L) s.heap.size) ([.ref (a 0)] : List Value).toArray s 0 0 (va_A (wX6 cs a S L) s.heap.size) := ⟨_, rfl⟩
  rw [← hQ]
  have Lo4 : ∀ (n1 : Nat) (x1_4 : Int32) (x2_4 : Int32) (H : Heap) (locs : List Loc) (ls : Array Slot), k_it (fun st => nX6_costs_l4 st.1 st.2 S L) n1 (x1_4, x2_4) = some r9 → lv_has ls 3 [(0, .ref (a 0)), (1, .int x1_4), (2, .int x2_4)] → va_P D vwCl (wX6 cs a S L) H → va_S A s.heap H locs → W p l e (headSpec wsX6_costs ({ frames := 3, cells := 0, slots := 0, locals := 71 })).room s m ([.ref (a 0)] : List Value).toArray below meth c H locs 0 0 Q (F0 m 4 ls []) := by
    intro n1
    induction n1 with
    | zero => intro x1_4 x2_4 H locs ls hd; exact dn_it0 hd
    | succ n1 ih1 =>
      intro x1_4 x2_4 H locs ls hd hl hP hS
      have hD := hDA S L
      obtain ⟨y1, hd, hy1⟩ := dn_it hd
      have hd : nX6_costs_l4 x1_4 x2_4 S L = some y1 := hd
      unfold nX6_costs_l4 at hd
      refine lv_iload_n hx hb dX6_costs_4 rfl (lv_at hl 2 rfl) ?_
      refine lv_aload_n hx hb dX6_costs_5 rfl (lv_at hl 0 rfl) ?_
      refine va_get (D := D) (ci := 4) (v := .ref (a 1)) (C := RX6) (T := TX6) (N := 12) hx hb hts (fun w h => List.mem_cons_of_mem _ (List.mem_append_left _ (List.mem_append_right _ h))) hown hK hP 0 rfl rfl 0 (by decide) (hts (.fieldLink RX6 12 "LeastNeed" "now" "LLeastNeed$Valley;") (List.mem_of_getElem? (i := 1) rfl)) (fun _ h9 => h9) rfl dX6_costs_6 ?_
      refine va_get (D := D) (ci := 3) (v := .int (S 1 13)) (C := RX5) (T := TX5) (N := 15) hx hb hts (fun w h => List.mem_cons_of_mem _ (List.mem_append_right _ h)) hown hK hP 1 rfl rfl 13 (by decide) (hts (.fieldLink RX6 87 "LeastNeed$Valley" "things" "I") (List.mem_of_getElem? (i := 2) rfl)) (fun _ h9 => h9) rfl dX6_costs_9 ?_
      refine lv_icmp_ge (tgt := 43) hx hb dX6_costs_12 (by decide) (fun c12 => ?_) (fun c12 => ?_)
      · have hd := dn_t c12 hd
        have hd := dn_up hd hy1
        refine lv_iload_n hx hb dX6_costs_43 rfl (lv_at hl 1 rfl) ?_
        have e1 := dn_s1 hd
        exact k_iret hx hb hr hQ hAe e1 rfl hP hS hlocks dX6_costs_44
      · have hd := dn_f c12 hd
        refine lv_aload_n hx hb dX6_costs_15 rfl (lv_at hl 0 rfl) ?_
        refine va_get (D := D) (ci := 4) (v := .ref (a 1)) (C := RX6) (T := TX6) (N := 12) hx hb hts (fun w h => List.mem_cons_of_mem _ (List.mem_append_left _ (List.mem_append_right _ h))) hown hK hP 0 rfl rfl 0 (by decide) (hts (.fieldLink RX6 12 "LeastNeed" "now" "LLeastNeed$Valley;") (List.mem_of_getElem? (i := 1) rfl)) (fun _ h9 => h9) rfl dX6_costs_16 ?_
        refine lv_iload_n hx hb dX6_costs_19 rfl (lv_at hl 2 rfl) ?_
        obtain ⟨r20, hq20, hd⟩ := dn_b1 hd
        have hPc : va_P D vwCl (wX5 cs (k_wi a 1) (k_wi S 1)) _ := k_sub hP [1, 2, 3, 4, 5, 6, 7, 8, 9, 10, 11, 12, 13, 14, 15, 16] (wcX6_X5_1 cs a S L)
        have hDc : va_D A (wX5 cs (k_wi a 1) (k_wi S 1)) := hD.sub [1, 2, 3, 4, 5, 6, 7, 8, 9, 10, 11, 12, 13, 14, 15, 16] (by decide +kernel) (wcX6_X5_1 cs a S L)
        have hF := k_self hDc hS hA
        refine k_run_i (va_runV (As := [.int x2_4]) (rest := []) ⟨hx, hb, hml, hown, hts⟩ (mX5_isAway l D cs (k_wi a 1) (k_wi S 1) x2_4 r20 hq20 _) (cwV 1 hts gX6_costs_X5_isAway rfl rfl rfl (by decide +kernel) ⟨Nat.le_of_ble_eq_true rfl, Nat.le_of_ble_eq_true rfl⟩) ⟨k_blind, va_recv hK hP (ci := 3) (q0 := 1) rfl rfl, k_pre hPc hK hNn hDc⟩ rfl rfl hl.1 rfl (lv_room (Nat.le_of_ble_eq_true rfl)) dX6_costs_20 ⟨Nat.le_of_ble_eq_true rfl, Nat.le_of_ble_eq_true rfl⟩) hS hF (fun H locs hP1 hk hS => ?_)
        have hP : va_P D vwCl (wX6 cs a S L) _ := k_back hP hD [1, 2, 3, 4, 5, 6, 7, 8, 9, 10, 11, 12, 13, 14, 15, 16] [0, 17, 18, 19, 20, 21, 22, 23, 24, 25, 26, 27, 28, 29, 30, 31, 32, 33, 34, 35, 36, 37, 38, 39, 40, 41, 42, 43, 44, 45, 46, 47, 48, 49, 50, 51, 52, 53, 54, 55, 56, 57, 58, 59, 60, 61, 62, 63, 64, 65, 66, 67, 68, 69, 70, 71, 72, 73, 74, 75, 76, 77, 78] [0, 63, 64, 65, 66, 67, 68, 69, 70, 71, 72, 73, 74, 75, 76, 77, 78, 1, 2, 3, 4, 5, 6, 7, 8, 9, 10, 11, 12, 13, 14, 15, 16, 17, 18, 19, 20, 21, 22, 23, 24, 25, 26, 27, 28, 29, 30, 31, 32, 33, 34, 35, 36, 37, 38, 39, 40, 41, 42, 43, 44, 45, 46, 47, 48, 49, 50, 51, 52, 53, 54, 55, 56, 57, 58, 59, 60, 61, 62] (wcX6_X5_1 cs a S L) (by decide +kernel) hk hP1 (wbX6_X5_1 cs a S L)
        have hD := hDA S L
        refine lv_if_eq (tgt := 37) hx hb dX6_costs_23 (by decide) (fun c23 => ?_) (fun c23 => ?_)
        · have hd := dn_t c23 hd
          refine lv_iinc (v := x2_4 + (1 : Int32)) (lv' := [(2, .int (x2_4 + (1 : Int32))), (0, .ref (a 0)), (1, .int x1_4)]) hx hb dX6_costs_37 hl (k := 2) rfl rfl (by decide) rfl (fun ls hl => ?_)
          refine lv_goto (tgt := 4) hx hb dX6_costs_40 (by decide) ?_
          exact ih1 x1_4 (x2_4 + (1 : Int32)) _ _ _ (dn_bk hd hy1) (lv_sub hl [1, 2, 0] rfl) hP hS
        · have hd := dn_f c23 hd
          refine lv_iload_n hx hb dX6_costs_26 rfl (lv_at hl 1 rfl) ?_
          refine lv_aload_n hx hb dX6_costs_27 rfl (lv_at hl 0 rfl) ?_
          refine va_get (D := D) (ci := 4) (v := .ref (a 1)) (C := RX6) (T := TX6) (N := 12) hx hb hts (fun w h => List.mem_cons_of_mem _ (List.mem_append_left _ (List.mem_append_right _ h))) hown hK hP 0 rfl rfl 0 (by decide) (hts (.fieldLink RX6 12 "LeastNeed" "now" "LLeastNeed$Valley;") (List.mem_of_getElem? (i := 1) rfl)) (fun _ h9 => h9) rfl dX6_costs_28 ?_
          refine lv_iload_n hx hb dX6_costs_31 rfl (lv_at hl 2 rfl) ?_
          obtain ⟨r32, hq32, hd⟩ := dn_b1 hd
          have hPc : va_P D vwCl (wX5 cs (k_wi a 1) (k_wi S 1)) _ := k_sub hP [1, 2, 3, 4, 5, 6, 7, 8, 9, 10, 11, 12, 13, 14, 15, 16] (wcX6_X5_1 cs a S L)
          have hDc : va_D A (wX5 cs (k_wi a 1) (k_wi S 1)) := hD.sub [1, 2, 3, 4, 5, 6, 7, 8, 9, 10, 11, 12, 13, 14, 15, 16] (by decide +kernel) (wcX6_X5_1 cs a S L)
          have hF := k_self hDc hS hA
          refine k_run_i (va_runV (As := [.int x2_4]) (rest := [.int x1_4]) ⟨hx, hb, hml, hown, hts⟩ (mX5_askedFor l D cs (k_wi a 1) (k_wi S 1) x2_4 r32 hq32 _) (cwV 1 hts gX6_costs_X5_askedFor rfl rfl rfl (by decide +kernel) ⟨Nat.le_of_ble_eq_true rfl, Nat.le_of_ble_eq_true rfl⟩) ⟨k_blind, va_recv hK hP (ci := 3) (q0 := 1) rfl rfl, k_pre hPc hK hNn hDc⟩ rfl rfl hl.1 rfl (lv_room (Nat.le_of_ble_eq_true rfl)) dX6_costs_32 ⟨Nat.le_of_ble_eq_true rfl, Nat.le_of_ble_eq_true rfl⟩) hS hF (fun H locs hP1 hk hS => ?_)
          have hP : va_P D vwCl (wX6 cs a S L) _ := k_back hP hD [1, 2, 3, 4, 5, 6, 7, 8, 9, 10, 11, 12, 13, 14, 15, 16] [0, 17, 18, 19, 20, 21, 22, 23, 24, 25, 26, 27, 28, 29, 30, 31, 32, 33, 34, 35, 36, 37, 38, 39, 40, 41, 42, 43, 44, 45, 46, 47, 48, 49, 50, 51, 52, 53, 54, 55, 56, 57, 58, 59, 60, 61, 62, 63, 64, 65, 66, 67, 68, 69, 70, 71, 72, 73, 74, 75, 76, 77, 78] [0, 63, 64, 65, 66, 67, 68, 69, 70, 71, 72, 73, 74, 75, 76, 77, 78, 1, 2, 3, 4, 5, 6, 7, 8, 9, 10, 11, 12, 13, 14, 15, 16, 17, 18, 19, 20, 21, 22, 23, 24, 25, 26, 27, 28, 29, 30, 31, 32, 33, 34, 35, 36, 37, 38, 39, 40, 41, 42, 43, 44, 45, 46, 47, 48, 49, 50, 51, 52, 53, 54, 55, 56, 57, 58, 59, 60, 61, 62] (wcX6_X5_1 cs a S L) (by decide +kernel) hk hP1 (wbX6_X5_1 cs a S L)
          have hD := hDA S L
          refine lv_iadd hx hb dX6_costs_35 ?_
          refine lv_istore_n (lv' := [(1, .int (x1_4 + r32)), (0, .ref (a 0)), (2, .int x2_4)]) hx hb dX6_costs_36 rfl hl (by decide) rfl (fun ls hl => ?_)
          refine lv_iinc (v := x2_4 + (1 : Int32)) (lv' := [(2, .int (x2_4 + (1 : Int32))), (1, .int (x1_4 + r32)), (0, .ref (a 0))]) hx hb dX6_costs_37 hl (k := 2) rfl rfl (by decide) rfl (fun ls hl => ?_)
          refine lv_goto (tgt := 4) hx hb dX6_costs_40 (by decide) ?_
          exact ih1 (x1_4 + r32) (x2_4 + (1 : Int32)) _ _ _ (dn_bk hd hy1) (lv_sub hl [2, 1, 0] rfl) hP hS
  unfold nX6_costs at hd
  refine lv_iconst (v := (0 : Int32)) hx hb dX6_costs_0 (by decide) ?_
  refine lv_istore_n (lv' := [(1, .int (0 : Int32)), (0, .ref (a 0))]) hx hb dX6_costs_1 rfl hl (by decide) rfl (fun ls hl => ?_)
  refine lv_iconst (v := (0 : Int32)) hx hb dX6_costs_2 (by decide) ?_
  refine lv_istore_n (lv' := [(2, .int (0 : Int32)), (1, .int (0 : Int32)), (0, .ref (a 0))]) hx hb dX6_costs_3 rfl hl (by decide) rfl (fun ls hl => ?_)
  exact Lo4 1000 (0 : Int32) (0 : Int32) _ _ _ hd (lv_sub hl [2, 1, 0] rfl) hP hS
-- LeastNeed.sortAsked()I
set_option maxHeartbeats 4000000 in
set_option maxRecDepth 100000 in
theorem mX6_sortAsked (l : Launch) (D : va_G) (cs : Nat → ClassId) (a : Nat → Nat) (S : Nat → Nat → Int32) (L : Nat → Nat → Int64) (r9 : Int32) (S9 : (Nat → Nat → Int32)) (hd : nX6_sortAsked S L = some (r9, S9)) : ∀ sz : Nat, Met l yX6_sortAsked wsX6_sortAsked ({ frames := 3, cells := 0, slots := 0, locals := 71 }) (k_Pc D cs [.ref (a 0)] (wX6 cs a S L) sz) (k_Qi D r9 (wX6 cs a S L) (wX6 cs a S9 L) sz) 0 0 (va_A (wX6 cs a S L) sz) := by
  intro sz
  refine Met.ofW (cc := cX6_sortAsked) (maxL := 5) (ret := (some .int)) (by decide) rfl ?_
  intro p e s m args below meth c s₁ B hml hv
  obtain ⟨rfl, hsz, hP, hK, hD0, hNn⟩ := hv
  have hx := B.exec
  have hb := B.bytes
  have hr := B.returns
  have hts := atoms_spec (ws := wsX6_sortAsked) B.pre
  have hown : s.vm.findClass RX6 = some m.cls := findClass_of_methodNamed B.named
  have hlocks := B.notSynchronized
  subst hsz
  obtain ⟨A, hAe⟩ : ∃ A : Nat → Prop, A = va_A (wX6 cs a S L) s.heap.size := ⟨_, rfl⟩
  have hD : va_D A (wX6 cs a S L) := by rw [hAe]; exact hD0.self
  have hA : ∀ q : Nat, s.heap.size ≤ q → A q := fun q h => by rw [hAe]; exact Or.inr h
  have hS : va_S A s.heap s.heap [] := va_S.rf
  have hDA : ∀ (S : Nat → Nat → Int32) (L : Nat → Nat → Int64), va_D A (wX6 cs a S L) := fun S L => k_DA hD rfl
  have hl := lv_entry ([.ref (a 0)]) (n := 5) (Nat.le_of_ble_eq_true rfl)
  rw [lg_entry_eq]
  generalize (lg_sl ([.ref (a 0)]) ++ List.replicate (5 - (lg_sl ([.ref (a 0)])).length) Slot.unset).toArray = ls at hl ⊢
  have hl : lv_has ls 5 [(0, .ref (a 0))] := hl
  obtain ⟨Q, hQ⟩ : ∃ Q, Q = MQ below (k_Qi D r9 (wX6 cs a S L) (wX6 cs a S9 L) s.heap.size) ([.ref (a 0)] : List Value).toArray s 0 0 (va_A (wX6 cs a S L) s.heap.size) := ⟨_, rfl⟩
  rw [← hQ]
  have Lo4 : ∀ (n1 : Nat) (x1_4 : Int32) (x2_4 : Int32) (S_4 : Nat → Nat → Int32) (H : Heap) (locs : List Loc) (ls : Array Slot), k_it (fun st => nX6_sortAsked_l4 st.1 st.2.1 st.2.2 L) n1 (x1_4, x2_4, S_4) = some (r9, S9) → lv_has ls 5 [(0, .ref (a 0)), (1, .int x1_4), (2, .int x2_4)] → va_P D vwCl (wX6 cs a S_4 L) H → va_S A s.heap H locs → W p l e (headSpec wsX6_sortAsked ({ frames := 3, cells := 0, slots := 0, locals := 71 })).room s m ([.ref (a 0)] : List Value).toArray below meth c H locs 0 0 Q (F0 m 4 ls []) := by
    intro n1
    induction n1 with
    | zero => intro x1_4 x2_4 S_4 H locs ls hd; exact dn_it0 hd
    | succ n1 ih1 =>
      intro x1_4 x2_4 S_4 H locs ls hd hl hP hS
      have hD := hDA S_4 L
      obtain ⟨y1, hd, hy1⟩ := dn_it hd
      have hd : nX6_sortAsked_l4 x1_4 x2_4 S_4 L = some y1 := hd
      have Jo81 : ∀ (x1_81 : Int32) (x2_81 : Int32) (x3_81 : Int32) (x4_81 : Int32) (S_81 : Nat → Nat → Int32) (H : Heap) (locs : List Loc) (ls : Array Slot), nX6_sortAsked_i4_j81 x1_81 x2_81 x3_81 x4_81 S_81 L = some y1 → lv_has ls 5 [(0, .ref (a 0)), (1, .int x1_81), (2, .int x2_81), (3, .int x3_81), (4, .int x4_81)] → va_P D vwCl (wX6 cs a S_81 L) H → va_S A s.heap H locs → W p l e (headSpec wsX6_sortAsked ({ frames := 3, cells := 0, slots := 0, locals := 71 })).room s m ([.ref (a 0)] : List Value).toArray below meth c H locs 0 0 Q (F0 m 81 ls []) := by
        intro x1_81 x2_81 x3_81 x4_81 S_81 H locs ls hd hl hP hS
        have hD := hDA S_81 L
        unfold nX6_sortAsked_i4_j81 at hd
        refine lv_aload_n hx hb dX6_sortAsked_81 rfl (lv_at hl 0 rfl) ?_
        refine va_get (D := D) (ci := 4) (v := .ref (a 77)) (C := RX6) (T := TX6) (N := 12) hx hb hts (fun w h => List.mem_cons_of_mem _ (List.mem_append_left _ (List.mem_append_right _ h))) hown hK hP 0 rfl rfl 8 (by decide) (hts (.fieldLink RX6 48 "LeastNeed" "order" "[I") (List.mem_of_getElem? (i := 3) rfl)) (fun _ h9 => h9) rfl dX6_sortAsked_82 ?_
        refine lv_iload hx hb dX6_sortAsked_85 (lv_at hl 4 rfl) ?_
        refine lv_iload_n hx hb dX6_sortAsked_87 rfl (lv_at hl 3 rfl) ?_
        obtain ⟨hi88, hd⟩ := dn_i hd
        refine k_iast (D := D) (k := x4_81.toNatClampNeg) (by rfl) hx hb hK hP hD hS 77 1 rfl rfl hi88 dX6_sortAsked_88 (fun H locs hP hD hS => ?_)
        have hP : va_P D vwCl (wX6 cs a (k_w S_81 77 x4_81.toNatClampNeg x3_81) L) _ := k_eq hP (wsX6_a77 cs a S_81 L x4_81.toNatClampNeg x3_81)
        have hD := hDA (k_w S_81 77 x4_81.toNatClampNeg x3_81) L
        refine lv_iinc (v := x1_81 + (1 : Int32)) (lv' := [(1, .int (x1_81 + (1 : Int32))), (0, .ref (a 0)), (2, .int x2_81), (3, .int x3_81), (4, .int x4_81)]) hx hb dX6_sortAsked_89 hl (k := 1) rfl rfl (by decide) rfl (fun ls hl => ?_)
        refine lv_iinc (v := x2_81 + (1 : Int32)) (lv' := [(2, .int (x2_81 + (1 : Int32))), (1, .int (x1_81 + (1 : Int32))), (0, .ref (a 0)), (3, .int x3_81), (4, .int x4_81)]) hx hb dX6_sortAsked_92 hl (k := 2) rfl rfl (by decide) rfl (fun ls hl => ?_)
        refine lv_goto (tgt := 4) hx hb dX6_sortAsked_95 (by decide) ?_
        exact ih1 (x1_81 + (1 : Int32)) (x2_81 + (1 : Int32)) (k_w S_81 77 x4_81.toNatClampNeg x3_81) _ _ _ (dn_bk hd hy1) (lv_sub hl [2, 1, 0] rfl) hP hS
      have Lo41 : ∀ (n2 : Nat) (x1_41 : Int32) (x2_41 : Int32) (x3_41 : Int32) (x4_41 : Int32) (S_41 : Nat → Nat → Int32) (H : Heap) (locs : List Loc) (ls : Array Slot), k_it (fun st => nX6_sortAsked_i4_l41 x1_41 x2_41 x3_41 st.1 st.2 L) n2 (x4_41, S_41) = some y1 → lv_has ls 5 [(0, .ref (a 0)), (1, .int x1_41), (2, .int x2_41), (3, .int x3_41), (4, .int x4_41)] → va_P D vwCl (wX6 cs a S_41 L) H → va_S A s.heap H locs → W p l e (headSpec wsX6_sortAsked ({ frames := 3, cells := 0, slots := 0, locals := 71 })).room s m ([.ref (a 0)] : List Value).toArray below meth c H locs 0 0 Q (F0 m 41 ls []) := by
        intro n2
        induction n2 with
        | zero => intro x1_41 x2_41 x3_41 x4_41 S_41 H locs ls hd; exact dn_it0 hd
        | succ n2 ih2 =>
          intro x1_41 x2_41 x3_41 x4_41 S_41 H locs ls hd hl hP hS
          have hD := hDA S_41 L
          obtain ⟨y2, hd, hy2⟩ := dn_it hd
          have hd : nX6_sortAsked_i4_l41 x1_41 x2_41 x3_41 x4_41 S_41 L = some y2 := hd
          unfold nX6_sortAsked_i4_l41 at hd
          refine lv_iload hx hb dX6_sortAsked_41 (lv_at hl 4 rfl) ?_
          refine lv_if_le (tgt := 81) hx hb dX6_sortAsked_43 (by decide) (fun c43 => ?_) (fun c43 => ?_)
          · have hd := dn_t c43 hd
            have hd := dn_up hd hy2
            exact Jo81 x1_41 x2_41 x3_41 x4_41 S_41 _ _ _ hd (lv_sub hl [0, 1, 2, 3, 4] rfl) hP hS
          · have hd := dn_f c43 hd
            refine lv_aload_n hx hb dX6_sortAsked_46 rfl (lv_at hl 0 rfl) ?_
            refine va_get (D := D) (ci := 4) (v := .ref (a 77)) (C := RX6) (T := TX6) (N := 12) hx hb hts (fun w h => List.mem_cons_of_mem _ (List.mem_append_left _ (List.mem_append_right _ h))) hown hK hP 0 rfl rfl 8 (by decide) (hts (.fieldLink RX6 48 "LeastNeed" "order" "[I") (List.mem_of_getElem? (i := 3) rfl)) (fun _ h9 => h9) rfl dX6_sortAsked_47 ?_
            refine lv_iload hx hb dX6_sortAsked_50 (lv_at hl 4 rfl) ?_
            refine lv_iconst (v := (1 : Int32)) hx hb dX6_sortAsked_52 (by decide) ?_
            refine lv_isub hx hb dX6_sortAsked_53 ?_
            obtain ⟨hi54, hd⟩ := dn_i hd
            refine k_iald (D := D) (k := (x4_41 - (1 : Int32)).toNatClampNeg) (by rfl) hx hb hK hP 77 1 rfl rfl hi54 dX6_sortAsked_54 ?_
            refine lv_iload_n hx hb dX6_sortAsked_55 rfl (lv_at hl 3 rfl) ?_
            refine lv_icmp_le (tgt := 81) hx hb dX6_sortAsked_56 (by decide) (fun c56 => ?_) (fun c56 => ?_)
            · have hd := dn_t c56 hd
              have hd := dn_up hd hy2
              exact Jo81 x1_41 x2_41 x3_41 x4_41 S_41 _ _ _ hd (lv_sub hl [0, 1, 2, 3, 4] rfl) hP hS
            · have hd := dn_f c56 hd
              refine lv_aload_n hx hb dX6_sortAsked_59 rfl (lv_at hl 0 rfl) ?_
              refine va_get (D := D) (ci := 4) (v := .ref (a 77)) (C := RX6) (T := TX6) (N := 12) hx hb hts (fun w h => List.mem_cons_of_mem _ (List.mem_append_left _ (List.mem_append_right _ h))) hown hK hP 0 rfl rfl 8 (by decide) (hts (.fieldLink RX6 48 "LeastNeed" "order" "[I") (List.mem_of_getElem? (i := 3) rfl)) (fun _ h9 => h9) rfl dX6_sortAsked_60 ?_
              refine lv_iload hx hb dX6_sortAsked_63 (lv_at hl 4 rfl) ?_
              refine lv_aload_n hx hb dX6_sortAsked_65 rfl (lv_at hl 0 rfl) ?_
              refine va_get (D := D) (ci := 4) (v := .ref (a 77)) (C := RX6) (T := TX6) (N := 12) hx hb hts (fun w h => List.mem_cons_of_mem _ (List.mem_append_left _ (List.mem_append_right _ h))) hown hK hP 0 rfl rfl 8 (by decide) (hts (.fieldLink RX6 48 "LeastNeed" "order" "[I") (List.mem_of_getElem? (i := 3) rfl)) (fun _ h9 => h9) rfl dX6_sortAsked_66 ?_
              refine lv_iload hx hb dX6_sortAsked_69 (lv_at hl 4 rfl) ?_
              refine lv_iconst (v := (1 : Int32)) hx hb dX6_sortAsked_71 (by decide) ?_
              refine lv_isub hx hb dX6_sortAsked_72 ?_
              obtain ⟨hi73, hd⟩ := dn_i hd
              refine k_iald (D := D) (k := (x4_41 - (1 : Int32)).toNatClampNeg) (by rfl) hx hb hK hP 77 1 rfl rfl hi73 dX6_sortAsked_73 ?_
              obtain ⟨hi74, hd⟩ := dn_i hd
              refine k_iast (D := D) (k := x4_41.toNatClampNeg) (by rfl) hx hb hK hP hD hS 77 1 rfl rfl hi74 dX6_sortAsked_74 (fun H locs hP hD hS => ?_)
              have hP : va_P D vwCl (wX6 cs a (k_w S_41 77 x4_41.toNatClampNeg (S_41 77 (x4_41 - (1 : Int32)).toNatClampNeg)) L) _ := k_eq hP (wsX6_a77 cs a S_41 L x4_41.toNatClampNeg (S_41 77 (x4_41 - (1 : Int32)).toNatClampNeg))
              have hD := hDA (k_w S_41 77 x4_41.toNatClampNeg (S_41 77 (x4_41 - (1 : Int32)).toNatClampNeg)) L
              refine lv_iinc (v := x4_41 + (-1 : Int32)) (lv' := [(4, .int (x4_41 + (-1 : Int32))), (0, .ref (a 0)), (1, .int x1_41), (2, .int x2_41), (3, .int x3_41)]) hx hb dX6_sortAsked_75 hl (k := 4) rfl rfl (by decide) rfl (fun ls hl => ?_)
              refine lv_goto (tgt := 41) hx hb dX6_sortAsked_78 (by decide) ?_
              exact ih2 x1_41 x2_41 x3_41 (x4_41 + (-1 : Int32)) (k_w S_41 77 x4_41.toNatClampNeg (S_41 77 (x4_41 - (1 : Int32)).toNatClampNeg)) _ _ _ (dn_bk hd hy2) (lv_sub hl [1, 2, 3, 4, 0] rfl) hP hS
      unfold nX6_sortAsked_l4 at hd
      refine lv_iload_n hx hb dX6_sortAsked_4 rfl (lv_at hl 2 rfl) ?_
      refine lv_aload_n hx hb dX6_sortAsked_5 rfl (lv_at hl 0 rfl) ?_
      refine va_get (D := D) (ci := 4) (v := .ref (a 1)) (C := RX6) (T := TX6) (N := 12) hx hb hts (fun w h => List.mem_cons_of_mem _ (List.mem_append_left _ (List.mem_append_right _ h))) hown hK hP 0 rfl rfl 0 (by decide) (hts (.fieldLink RX6 12 "LeastNeed" "now" "LLeastNeed$Valley;") (List.mem_of_getElem? (i := 1) rfl)) (fun _ h9 => h9) rfl dX6_sortAsked_6 ?_
      refine va_get (D := D) (ci := 3) (v := .int (S_4 1 13)) (C := RX5) (T := TX5) (N := 15) hx hb hts (fun w h => List.mem_cons_of_mem _ (List.mem_append_right _ h)) hown hK hP 1 rfl rfl 13 (by decide) (hts (.fieldLink RX6 87 "LeastNeed$Valley" "things" "I") (List.mem_of_getElem? (i := 2) rfl)) (fun _ h9 => h9) rfl dX6_sortAsked_9 ?_
      refine lv_icmp_ge (tgt := 98) hx hb dX6_sortAsked_12 (by decide) (fun c12 => ?_) (fun c12 => ?_)
      · have hd := dn_t c12 hd
        have hd := dn_up hd hy1
        refine lv_iload_n hx hb dX6_sortAsked_98 rfl (lv_at hl 1 rfl) ?_
        obtain ⟨e1, e2⟩ := dn_s2 hd
        exact k_iret hx hb hr hQ hAe e1 (by rw [e2]) hP hS hlocks dX6_sortAsked_99
      · have hd := dn_f c12 hd
        refine lv_aload_n hx hb dX6_sortAsked_15 rfl (lv_at hl 0 rfl) ?_
        refine va_get (D := D) (ci := 4) (v := .ref (a 1)) (C := RX6) (T := TX6) (N := 12) hx hb hts (fun w h => List.mem_cons_of_mem _ (List.mem_append_left _ (List.mem_append_right _ h))) hown hK hP 0 rfl rfl 0 (by decide) (hts (.fieldLink RX6 12 "LeastNeed" "now" "LLeastNeed$Valley;") (List.mem_of_getElem? (i := 1) rfl)) (fun _ h9 => h9) rfl dX6_sortAsked_16 ?_
        refine lv_iload_n hx hb dX6_sortAsked_19 rfl (lv_at hl 2 rfl) ?_
        obtain ⟨r20, hq20, hd⟩ := dn_b1 hd
        have hPc : va_P D vwCl (wX5 cs (k_wi a 1) (k_wi S_4 1)) _ := k_sub hP [1, 2, 3, 4, 5, 6, 7, 8, 9, 10, 11, 12, 13, 14, 15, 16] (wcX6_X5_1 cs a S_4 L)
        have hDc : va_D A (wX5 cs (k_wi a 1) (k_wi S_4 1)) := hD.sub [1, 2, 3, 4, 5, 6, 7, 8, 9, 10, 11, 12, 13, 14, 15, 16] (by decide +kernel) (wcX6_X5_1 cs a S_4 L)
        have hF := k_self hDc hS hA
        refine k_run_i (va_runV (As := [.int x2_4]) (rest := []) ⟨hx, hb, hml, hown, hts⟩ (mX5_isAway l D cs (k_wi a 1) (k_wi S_4 1) x2_4 r20 hq20 _) (cwV 1 hts gX6_sortAsked_X5_isAway rfl rfl rfl (by decide +kernel) ⟨Nat.le_of_ble_eq_true rfl, Nat.le_of_ble_eq_true rfl⟩) ⟨k_blind, va_recv hK hP (ci := 3) (q0 := 1) rfl rfl, k_pre hPc hK hNn hDc⟩ rfl rfl hl.1 rfl (lv_room (Nat.le_of_ble_eq_true rfl)) dX6_sortAsked_20 ⟨Nat.le_of_ble_eq_true rfl, Nat.le_of_ble_eq_true rfl⟩) hS hF (fun H locs hP1 hk hS => ?_)
        have hP : va_P D vwCl (wX6 cs a S_4 L) _ := k_back hP hD [1, 2, 3, 4, 5, 6, 7, 8, 9, 10, 11, 12, 13, 14, 15, 16] [0, 17, 18, 19, 20, 21, 22, 23, 24, 25, 26, 27, 28, 29, 30, 31, 32, 33, 34, 35, 36, 37, 38, 39, 40, 41, 42, 43, 44, 45, 46, 47, 48, 49, 50, 51, 52, 53, 54, 55, 56, 57, 58, 59, 60, 61, 62, 63, 64, 65, 66, 67, 68, 69, 70, 71, 72, 73, 74, 75, 76, 77, 78] [0, 63, 64, 65, 66, 67, 68, 69, 70, 71, 72, 73, 74, 75, 76, 77, 78, 1, 2, 3, 4, 5, 6, 7, 8, 9, 10, 11, 12, 13, 14, 15, 16, 17, 18, 19, 20, 21, 22, 23, 24, 25, 26, 27, 28, 29, 30, 31, 32, 33, 34, 35, 36, 37, 38, 39, 40, 41, 42, 43, 44, 45, 46, 47, 48, 49, 50, 51, 52, 53, 54, 55, 56, 57, 58, 59, 60, 61, 62] (wcX6_X5_1 cs a S_4 L) (by decide +kernel) hk hP1 (wbX6_X5_1 cs a S_4 L)
        have hD := hDA S_4 L
        refine lv_if_ne (tgt := 29) hx hb dX6_sortAsked_23 (by decide) (fun c23 => ?_) (fun c23 => ?_)
        · have hd := dn_f c23 hd
          refine lv_aload_n hx hb dX6_sortAsked_29 rfl (lv_at hl 0 rfl) ?_
          refine va_get (D := D) (ci := 4) (v := .ref (a 1)) (C := RX6) (T := TX6) (N := 12) hx hb hts (fun w h => List.mem_cons_of_mem _ (List.mem_append_left _ (List.mem_append_right _ h))) hown hK hP 0 rfl rfl 0 (by decide) (hts (.fieldLink RX6 12 "LeastNeed" "now" "LLeastNeed$Valley;") (List.mem_of_getElem? (i := 1) rfl)) (fun _ h9 => h9) rfl dX6_sortAsked_30 ?_
          refine lv_iload_n hx hb dX6_sortAsked_33 rfl (lv_at hl 2 rfl) ?_
          obtain ⟨r34, hq34, hd⟩ := dn_b1 hd
          have hPc : va_P D vwCl (wX5 cs (k_wi a 1) (k_wi S_4 1)) _ := k_sub hP [1, 2, 3, 4, 5, 6, 7, 8, 9, 10, 11, 12, 13, 14, 15, 16] (wcX6_X5_1 cs a S_4 L)
          have hDc : va_D A (wX5 cs (k_wi a 1) (k_wi S_4 1)) := hD.sub [1, 2, 3, 4, 5, 6, 7, 8, 9, 10, 11, 12, 13, 14, 15, 16] (by decide +kernel) (wcX6_X5_1 cs a S_4 L)
          have hF := k_self hDc hS hA
          refine k_run_i (va_runV (As := [.int x2_4]) (rest := []) ⟨hx, hb, hml, hown, hts⟩ (mX5_askedFor l D cs (k_wi a 1) (k_wi S_4 1) x2_4 r34 hq34 _) (cwV 1 hts gX6_sortAsked_X5_askedFor rfl rfl rfl (by decide +kernel) ⟨Nat.le_of_ble_eq_true rfl, Nat.le_of_ble_eq_true rfl⟩) ⟨k_blind, va_recv hK hP (ci := 3) (q0 := 1) rfl rfl, k_pre hPc hK hNn hDc⟩ rfl rfl hl.1 rfl (lv_room (Nat.le_of_ble_eq_true rfl)) dX6_sortAsked_34 ⟨Nat.le_of_ble_eq_true rfl, Nat.le_of_ble_eq_true rfl⟩) hS hF (fun H locs hP1 hk hS => ?_)
          have hP : va_P D vwCl (wX6 cs a S_4 L) _ := k_back hP hD [1, 2, 3, 4, 5, 6, 7, 8, 9, 10, 11, 12, 13, 14, 15, 16] [0, 17, 18, 19, 20, 21, 22, 23, 24, 25, 26, 27, 28, 29, 30, 31, 32, 33, 34, 35, 36, 37, 38, 39, 40, 41, 42, 43, 44, 45, 46, 47, 48, 49, 50, 51, 52, 53, 54, 55, 56, 57, 58, 59, 60, 61, 62, 63, 64, 65, 66, 67, 68, 69, 70, 71, 72, 73, 74, 75, 76, 77, 78] [0, 63, 64, 65, 66, 67, 68, 69, 70, 71, 72, 73, 74, 75, 76, 77, 78, 1, 2, 3, 4, 5, 6, 7, 8, 9, 10, 11, 12, 13, 14, 15, 16, 17, 18, 19, 20, 21, 22, 23, 24, 25, 26, 27, 28, 29, 30, 31, 32, 33, 34, 35, 36, 37, 38, 39, 40, 41, 42, 43, 44, 45, 46, 47, 48, 49, 50, 51, 52, 53, 54, 55, 56, 57, 58, 59, 60, 61, 62] (wcX6_X5_1 cs a S_4 L) (by decide +kernel) hk hP1 (wbX6_X5_1 cs a S_4 L)
          have hD := hDA S_4 L
          refine lv_istore_n (lv' := [(3, .int r34), (0, .ref (a 0)), (1, .int x1_4), (2, .int x2_4)]) hx hb dX6_sortAsked_37 rfl hl (by decide) rfl (fun ls hl => ?_)
          refine lv_iload_n hx hb dX6_sortAsked_38 rfl (lv_at hl 2 rfl) ?_
          refine lv_istore (lv' := [(4, .int x1_4), (3, .int r34), (0, .ref (a 0)), (1, .int x1_4), (2, .int x2_4)]) hx hb dX6_sortAsked_39 hl (by decide) rfl (fun ls hl => ?_)
          exact Lo41 1000 x1_4 x2_4 r34 x1_4 S_4 _ _ _ hd (lv_sub hl [2, 3, 4, 1, 0] rfl) hP hS
        · have hd := dn_t c23 hd
          refine lv_goto (tgt := 92) hx hb dX6_sortAsked_26 (by decide) ?_
          refine lv_iinc (v := x2_4 + (1 : Int32)) (lv' := [(2, .int (x2_4 + (1 : Int32))), (0, .ref (a 0)), (1, .int x1_4)]) hx hb dX6_sortAsked_92 hl (k := 2) rfl rfl (by decide) rfl (fun ls hl => ?_)
          refine lv_goto (tgt := 4) hx hb dX6_sortAsked_95 (by decide) ?_
          exact ih1 x1_4 (x2_4 + (1 : Int32)) S_4 _ _ _ (dn_bk hd hy1) (lv_sub hl [1, 2, 0] rfl) hP hS
  unfold nX6_sortAsked at hd
  refine lv_iconst (v := (0 : Int32)) hx hb dX6_sortAsked_0 (by decide) ?_
  refine lv_istore_n (lv' := [(1, .int (0 : Int32)), (0, .ref (a 0))]) hx hb dX6_sortAsked_1 rfl hl (by decide) rfl (fun ls hl => ?_)
  refine lv_iconst (v := (0 : Int32)) hx hb dX6_sortAsked_2 (by decide) ?_
  refine lv_istore_n (lv' := [(2, .int (0 : Int32)), (1, .int (0 : Int32)), (0, .ref (a 0))]) hx hb dX6_sortAsked_3 rfl hl (by decide) rfl (fun ls hl => ?_)
  exact Lo4 1000 (0 : Int32) (0 : Int32) S _ _ _ hd (lv_sub hl [2, 1, 0] rfl) hP hS
-- LeastNeed.few(I)I
set_option maxHeartbeats 4000000 in
set_option maxRecDepth 100000 in
theorem mX6_few (l : Launch) (D : va_G) (cs : Nat → ClassId) (a : Nat → Nat) (S : Nat → Nat → Int32) (L : Nat → Nat → Int64) (p1 : Int32) (r9 : Int32) (S9 : (Nat → Nat → Int32)) (hd : nX6_few S L p1 = some (r9, S9)) : ∀ sz : Nat, Met l yX6_few wsX6_few ({ frames := 4, cells := 0, slots := 0, locals := 95 }) (k_Pc D cs [.ref (a 0), .int p1] (wX6 cs a S L) sz) (k_Qi D r9 (wX6 cs a S L) (wX6 cs a S9 L) sz) 0 0 (va_A (wX6 cs a S L) sz) := by
  intro sz
  refine Met.ofW (cc := cX6_few) (maxL := 5) (ret := (some .int)) (by decide) rfl ?_
  intro p e s m args below meth c s₁ B hml hv
  obtain ⟨rfl, hsz, hP, hK, hD0, hNn⟩ := hv
  have hx := B.exec
  have hb := B.bytes
  have hr := B.returns
  have hts := atoms_spec (ws := wsX6_few) B.pre
  have hown : s.vm.findClass RX6 = some m.cls := findClass_of_methodNamed B.named
  have hlocks := B.notSynchronized
  subst hsz
  obtain ⟨A, hAe⟩ : ∃ A : Nat → Prop, A = va_A (wX6 cs a S L) s.heap.size := ⟨_, rfl⟩
  have hD : va_D A (wX6 cs a S L) := by rw [hAe]; exact hD0.self
  have hA : ∀ q : Nat, s.heap.size ≤ q → A q := fun q h => by rw [hAe]; exact Or.inr h
  have hS : va_S A s.heap s.heap [] := va_S.rf
  have hDA : ∀ (S : Nat → Nat → Int32) (L : Nat → Nat → Int64), va_D A (wX6 cs a S L) := fun S L => k_DA hD rfl
  have hl := lv_entry ([.ref (a 0), .int p1]) (n := 5) (Nat.le_of_ble_eq_true rfl)
  rw [lg_entry_eq]
  generalize (lg_sl ([.ref (a 0), .int p1]) ++ List.replicate (5 - (lg_sl ([.ref (a 0), .int p1])).length) Slot.unset).toArray = ls at hl ⊢
  have hl : lv_has ls 5 [(0, .ref (a 0)), (1, .int p1)] := hl
  obtain ⟨Q, hQ⟩ : ∃ Q, Q = MQ below (k_Qi D r9 (wX6 cs a S L) (wX6 cs a S9 L) s.heap.size) ([.ref (a 0), .int p1] : List Value).toArray s 0 0 (va_A (wX6 cs a S L) s.heap.size) := ⟨_, rfl⟩
  rw [← hQ]
  have Lo25 : ∀ (n1 : Nat) (x2_25 : Int32) (x3_25 : Int32) (x4_25 : Int32) (S_25 : Nat → Nat → Int32) (H : Heap) (locs : List Loc) (ls : Array Slot), k_it (fun st => nX6_few_l25 x2_25 st.1 st.2 S_25 L) n1 (x3_25, x4_25) = some (r9, S9) → lv_has ls 5 [(0, .ref (a 0)), (2, .int x2_25), (3, .int x3_25), (4, .int x4_25)] → va_P D vwCl (wX6 cs a S_25 L) H → va_S A s.heap H locs → W p l e (headSpec wsX6_few ({ frames := 4, cells := 0, slots := 0, locals := 95 })).room s m ([.ref (a 0), .int p1] : List Value).toArray below meth c H locs 0 0 Q (F0 m 25 ls []) := by
    intro n1
    induction n1 with
    | zero => intro x2_25 x3_25 x4_25 S_25 H locs ls hd; exact dn_it0 hd
    | succ n1 ih1 =>
      intro x2_25 x3_25 x4_25 S_25 H locs ls hd hl hP hS
      have hD := hDA S_25 L
      obtain ⟨y1, hd, hy1⟩ := dn_it hd
      have hd : nX6_few_l25 x2_25 x3_25 x4_25 S_25 L = some y1 := hd
      unfold nX6_few_l25 at hd
      refine lv_iload hx hb dX6_few_25 (lv_at hl 3 rfl) ?_
      refine lv_iload_n hx hb dX6_few_27 rfl (lv_at hl 1 rfl) ?_
      refine lv_icmp_ge (tgt := 58) hx hb dX6_few_28 (by decide) (fun c28 => ?_) (fun c28 => ?_)
      · have hd := dn_t c28 hd
        have hd := dn_up hd hy1
        refine lv_iload hx hb dX6_few_58 (lv_at hl 3 rfl) ?_
        obtain ⟨e1, e2⟩ := dn_s2 hd
        exact k_iret hx hb hr hQ hAe e1 (by rw [e2]) hP hS hlocks dX6_few_60
      · have hd := dn_f c28 hd
        refine lv_aload_n hx hb dX6_few_31 rfl (lv_at hl 0 rfl) ?_
        refine va_get (D := D) (ci := 4) (v := .ref (a 77)) (C := RX6) (T := TX6) (N := 12) hx hb hts (fun w h => List.mem_cons_of_mem _ (List.mem_append_left _ (List.mem_append_right _ h))) hown hK hP 0 rfl rfl 8 (by decide) (hts (.fieldLink RX6 48 "LeastNeed" "order" "[I") (List.mem_of_getElem? (i := 1) rfl)) (fun _ h9 => h9) rfl dX6_few_32 ?_
        refine lv_iload hx hb dX6_few_35 (lv_at hl 3 rfl) ?_
        obtain ⟨hi37, hd⟩ := dn_i hd
        refine k_iald (D := D) (k := x4_25.toNatClampNeg) (by rfl) hx hb hK hP 77 1 rfl rfl hi37 dX6_few_37 ?_
        refine lv_iload_n hx hb dX6_few_38 rfl (lv_at hl 2 rfl) ?_
        refine lv_icmp_gt (tgt := 58) hx hb dX6_few_39 (by decide) (fun c39 => ?_) (fun c39 => ?_)
        · have hd := dn_t c39 hd
          have hd := dn_up hd hy1
          refine lv_iload hx hb dX6_few_58 (lv_at hl 3 rfl) ?_
          obtain ⟨e1, e2⟩ := dn_s2 hd
          exact k_iret hx hb hr hQ hAe e1 (by rw [e2]) hP hS hlocks dX6_few_60
        · have hd := dn_f c39 hd
          refine lv_iload_n hx hb dX6_few_42 rfl (lv_at hl 2 rfl) ?_
          refine lv_aload_n hx hb dX6_few_43 rfl (lv_at hl 0 rfl) ?_
          refine va_get (D := D) (ci := 4) (v := .ref (a 77)) (C := RX6) (T := TX6) (N := 12) hx hb hts (fun w h => List.mem_cons_of_mem _ (List.mem_append_left _ (List.mem_append_right _ h))) hown hK hP 0 rfl rfl 8 (by decide) (hts (.fieldLink RX6 48 "LeastNeed" "order" "[I") (List.mem_of_getElem? (i := 1) rfl)) (fun _ h9 => h9) rfl dX6_few_44 ?_
          refine lv_iload hx hb dX6_few_47 (lv_at hl 3 rfl) ?_
          obtain ⟨hi49, hd⟩ := dn_i hd
          refine k_iald (D := D) (k := x4_25.toNatClampNeg) (by rfl) hx hb hK hP 77 1 rfl rfl hi49 dX6_few_49 ?_
          refine lv_isub hx hb dX6_few_50 ?_
          refine lv_istore_n (lv' := [(3, .int (x3_25 - (S_25 77 x4_25.toNatClampNeg))), (0, .ref (a 0)), (2, .int x2_25), (4, .int x4_25)]) hx hb dX6_few_51 rfl hl (by decide) rfl (fun ls hl => ?_)
          refine lv_iinc (v := x4_25 + (1 : Int32)) (lv' := [(4, .int (x4_25 + (1 : Int32))), (3, .int (x3_25 - (S_25 77 x4_25.toNatClampNeg))), (0, .ref (a 0)), (2, .int x2_25)]) hx hb dX6_few_52 hl (k := 3) rfl rfl (by decide) rfl (fun ls hl => ?_)
          refine lv_goto (tgt := 25) hx hb dX6_few_55 (by decide) ?_
          exact ih1 x2_25 (x3_25 - (S_25 77 x4_25.toNatClampNeg)) (x4_25 + (1 : Int32)) S_25 _ _ _ (dn_bk hd hy1) (lv_sub hl [2, 3, 1, 0] rfl) hP hS
  unfold nX6_few at hd
  refine lv_iload_n hx hb dX6_few_0 rfl (lv_at hl 1 rfl) ?_
  refine lv_sipush (v := (201 : Int32)) hx hb dX6_few_1 (by decide) ?_
  obtain ⟨r4, hq4, hd⟩ := dn_b1 hd
  have hPc := k_P0 hP
  have hDc : va_D A ([] : va_W) := k_D0
  have hF := k_self hDc hS hA
  refine k_run_i (va_runS (As := [.int p1, .int (201 : Int32)]) (rest := []) ⟨hx, hb, hml, hown, hts⟩ (mX6_upTo l D cs  p1 (201 : Int32) r4 hq4 _) (va_cwS 2 hts gX6_few_X6_upTo rfl rfl rfl (by decide +kernel) ⟨Nat.le_of_ble_eq_true rfl, Nat.le_of_ble_eq_true rfl⟩) ⟨k_blind, k_pre hPc hK hNn hDc⟩ rfl rfl hl.1 rfl (lv_room (Nat.le_of_ble_eq_true rfl)) dX6_few_4 ⟨Nat.le_of_ble_eq_true rfl, Nat.le_of_ble_eq_true rfl⟩) hS hF (fun H locs hP1 hk hS => ?_)
  have hP : va_P D vwCl (wX6 cs a S L) _ := k_keep hP hk
  refine lv_if_ne (tgt := 15) hx hb dX6_few_7 (by decide) (fun c7 => ?_) (fun c7 => ?_)
  · have hd := dn_f c7 hd
    refine lv_aload_n hx hb dX6_few_15 rfl (lv_at hl 0 rfl) ?_
    obtain ⟨r16, S16, hq16, hd⟩ := dn_b2 hd
    have hF := k_self hD hS hA
    refine k_run_i (va_runV (As := []) (rest := []) ⟨hx, hb, hml, hown, hts⟩ (mX6_sortAsked l D cs a S L r16 S16 hq16 _) (cwV 0 hts gX6_few_X6_sortAsked rfl rfl rfl (by decide +kernel) ⟨Nat.le_of_ble_eq_true rfl, Nat.le_of_ble_eq_true rfl⟩) ⟨k_blind, va_recv hK hP (ci := 4) (q0 := 0) rfl rfl, k_pre hP hK hNn hD⟩ rfl rfl hl.1 rfl (lv_room (Nat.le_of_ble_eq_true rfl)) dX6_few_16 ⟨Nat.le_of_ble_eq_true rfl, Nat.le_of_ble_eq_true rfl⟩) hS hF (fun H locs hP1 hk hS => ?_)
    have hP : va_P D vwCl (wX6 cs a S16 L) _ := hP1
    have hD := hDA S16 L
    refine lv_istore_n (lv' := [(2, .int r16), (0, .ref (a 0)), (1, .int p1)]) hx hb dX6_few_19 rfl hl (by decide) rfl (fun ls hl => ?_)
    refine lv_iload_n hx hb dX6_few_20 rfl (lv_at hl 2 rfl) ?_
    refine lv_istore_n (lv' := [(3, .int p1), (2, .int r16), (0, .ref (a 0)), (1, .int p1)]) hx hb dX6_few_21 rfl hl (by decide) rfl (fun ls hl => ?_)
    refine lv_iconst (v := (0 : Int32)) hx hb dX6_few_22 (by decide) ?_
    refine lv_istore (lv' := [(4, .int (0 : Int32)), (3, .int p1), (2, .int r16), (0, .ref (a 0)), (1, .int p1)]) hx hb dX6_few_23 hl (by decide) rfl (fun ls hl => ?_)
    exact Lo25 1000 r16 p1 (0 : Int32) S16 _ _ _ hd (lv_sub hl [3, 2, 1, 0] rfl) hP hS
  · have hd := dn_t c7 hd
    refine lv_aload_n hx hb dX6_few_10 rfl (lv_at hl 0 rfl) ?_
    obtain ⟨r11, S11, hq11, hd⟩ := dn_b2 hd
    have hF := k_self hD hS hA
    refine k_run_i (va_runV (As := []) (rest := []) ⟨hx, hb, hml, hown, hts⟩ (mX6_refusedAsBad l D cs a S L r11 S11 hq11 _) (cwV 0 hts gX6_few_X6_refusedAsBad rfl rfl rfl (by decide +kernel) ⟨Nat.le_of_ble_eq_true rfl, Nat.le_of_ble_eq_true rfl⟩) ⟨k_blind, va_recv hK hP (ci := 4) (q0 := 0) rfl rfl, k_pre hP hK hNn hD⟩ rfl rfl hl.1 rfl (lv_room (Nat.le_of_ble_eq_true rfl)) dX6_few_11 ⟨Nat.le_of_ble_eq_true rfl, Nat.le_of_ble_eq_true rfl⟩) hS hF (fun H locs hP1 hk hS => ?_)
    have hP : va_P D vwCl (wX6 cs a S11 L) _ := hP1
    have hD := hDA S11 L
    obtain ⟨e1, e2⟩ := dn_s2 hd
    exact k_iret hx hb hr hQ hAe e1 (by rw [e2]) hP hS hlocks dX6_few_14
-- LeastNeed.loser(II)I
set_option maxHeartbeats 4000000 in
set_option maxRecDepth 100000 in
theorem mX6_loser (l : Launch) (D : va_G) (cs : Nat → ClassId) (a : Nat → Nat) (S : Nat → Nat → Int32) (L : Nat → Nat → Int64) (p1 : Int32) (p2 : Int32) (r9 : Int32) (S9 : (Nat → Nat → Int32)) (hd : nX6_loser S L p1 p2 = some (r9, S9)) : ∀ sz : Nat, Met l yX6_loser wsX6_loser ({ frames := 4, cells := 0, slots := 0, locals := 106 }) (k_Pc D cs [.ref (a 0), .int p1, .int p2] (wX6 cs a S L) sz) (k_Qi D r9 (wX6 cs a S L) (wX6 cs a S9 L) sz) 0 0 (va_A (wX6 cs a S L) sz) := by
  intro sz
  refine Met.ofW (cc := cX6_loser) (maxL := 5) (ret := (some .int)) (by decide) rfl ?_
  intro p e s m args below meth c s₁ B hml hv
  obtain ⟨rfl, hsz, hP, hK, hD0, hNn⟩ := hv
  have hx := B.exec
  have hb := B.bytes
  have hr := B.returns
  have hts := atoms_spec (ws := wsX6_loser) B.pre
  have hown : s.vm.findClass RX6 = some m.cls := findClass_of_methodNamed B.named
  have hlocks := B.notSynchronized
  subst hsz
  obtain ⟨A, hAe⟩ : ∃ A : Nat → Prop, A = va_A (wX6 cs a S L) s.heap.size := ⟨_, rfl⟩
  have hD : va_D A (wX6 cs a S L) := by rw [hAe]; exact hD0.self
  have hA : ∀ q : Nat, s.heap.size ≤ q → A q := fun q h => by rw [hAe]; exact Or.inr h
  have hS : va_S A s.heap s.heap [] := va_S.rf
  have hDA : ∀ (S : Nat → Nat → Int32) (L : Nat → Nat → Int64), va_D A (wX6 cs a S L) := fun S L => k_DA hD rfl
  have hl := lv_entry ([.ref (a 0), .int p1, .int p2]) (n := 5) (Nat.le_of_ble_eq_true rfl)
  rw [lg_entry_eq]
  generalize (lg_sl ([.ref (a 0), .int p1, .int p2]) ++ List.replicate (5 - (lg_sl ([.ref (a 0), .int p1, .int p2])).length) Slot.unset).toArray = ls at hl ⊢
  have hl : lv_has ls 5 [(0, .ref (a 0)), (1, .int p1), (2, .int p2)] := hl
  obtain ⟨Q, hQ⟩ : ∃ Q, Q = MQ below (k_Qi D r9 (wX6 cs a S L) (wX6 cs a S9 L) s.heap.size) ([.ref (a 0), .int p1, .int p2] : List Value).toArray s 0 0 (va_A (wX6 cs a S L) s.heap.size) := ⟨_, rfl⟩
  rw [← hQ]
  have Lo26 : ∀ (n1 : Nat) (x3_26 : Int32) (x4_26 : Int32) (S_26 : Nat → Nat → Int32) (H : Heap) (locs : List Loc) (ls : Array Slot), k_it (fun st => nX6_loser_l26 p1 p2 st.1 st.2 S_26 L) n1 (x3_26, x4_26) = some (r9, S9) → lv_has ls 5 [(0, .ref (a 0)), (1, .int p1), (2, .int p2), (3, .int x3_26), (4, .int x4_26)] → va_P D vwCl (wX6 cs a S_26 L) H → va_S A s.heap H locs → W p l e (headSpec wsX6_loser ({ frames := 4, cells := 0, slots := 0, locals := 106 })).room s m ([.ref (a 0), .int p1, .int p2] : List Value).toArray below meth c H locs 0 0 Q (F0 m 26 ls []) := by
    intro n1
    induction n1 with
    | zero => intro x3_26 x4_26 S_26 H locs ls hd; exact dn_it0 hd
    | succ n1 ih1 =>
      intro x3_26 x4_26 S_26 H locs ls hd hl hP hS
      have hD := hDA S_26 L
      obtain ⟨y1, hd, hy1⟩ := dn_it hd
      have hd : nX6_loser_l26 p1 p2 x3_26 x4_26 S_26 L = some y1 := hd
      unfold nX6_loser_l26 at hd
      refine lv_iload hx hb dX6_loser_26 (lv_at hl 4 rfl) ?_
      refine lv_aload_n hx hb dX6_loser_28 rfl (lv_at hl 0 rfl) ?_
      refine va_get (D := D) (ci := 4) (v := .ref (a 1)) (C := RX6) (T := TX6) (N := 12) hx hb hts (fun w h => List.mem_cons_of_mem _ (List.mem_append_left _ (List.mem_append_right _ h))) hown hK hP 0 rfl rfl 0 (by decide) (hts (.fieldLink RX6 12 "LeastNeed" "now" "LLeastNeed$Valley;") (List.mem_of_getElem? (i := 1) rfl)) (fun _ h9 => h9) rfl dX6_loser_29 ?_
      refine va_get (D := D) (ci := 3) (v := .int (S_26 1 12)) (C := RX5) (T := TX5) (N := 15) hx hb hts (fun w h => List.mem_cons_of_mem _ (List.mem_append_right _ h)) hown hK hP 1 rfl rfl 12 (by decide) (hts (.fieldLink RX6 61 "LeastNeed$Valley" "people" "I") (List.mem_of_getElem? (i := 2) rfl)) (fun _ h9 => h9) rfl dX6_loser_32 ?_
      refine lv_icmp_ge (tgt := 65) hx hb dX6_loser_35 (by decide) (fun c35 => ?_) (fun c35 => ?_)
      · have hd := dn_t c35 hd
        have hd := dn_up hd hy1
        refine lv_iload_n hx hb dX6_loser_65 rfl (lv_at hl 3 rfl) ?_
        obtain ⟨e1, e2⟩ := dn_s2 hd
        exact k_iret hx hb hr hQ hAe e1 (by rw [e2]) hP hS hlocks dX6_loser_66
      · have hd := dn_f c35 hd
        refine lv_aload_n hx hb dX6_loser_38 rfl (lv_at hl 0 rfl) ?_
        refine va_get (D := D) (ci := 4) (v := .ref (a 1)) (C := RX6) (T := TX6) (N := 12) hx hb hts (fun w h => List.mem_cons_of_mem _ (List.mem_append_left _ (List.mem_append_right _ h))) hown hK hP 0 rfl rfl 0 (by decide) (hts (.fieldLink RX6 12 "LeastNeed" "now" "LLeastNeed$Valley;") (List.mem_of_getElem? (i := 1) rfl)) (fun _ h9 => h9) rfl dX6_loser_39 ?_
        refine lv_iload_n hx hb dX6_loser_42 rfl (lv_at hl 1 rfl) ?_
        refine lv_iload hx hb dX6_loser_43 (lv_at hl 4 rfl) ?_
        obtain ⟨r45, hq45, hd⟩ := dn_b1 hd
        have hPc : va_P D vwCl (wX5 cs (k_wi a 1) (k_wi S_26 1)) _ := k_sub hP [1, 2, 3, 4, 5, 6, 7, 8, 9, 10, 11, 12, 13, 14, 15, 16] (wcX6_X5_1 cs a S_26 L)
        have hDc : va_D A (wX5 cs (k_wi a 1) (k_wi S_26 1)) := hD.sub [1, 2, 3, 4, 5, 6, 7, 8, 9, 10, 11, 12, 13, 14, 15, 16] (by decide +kernel) (wcX6_X5_1 cs a S_26 L)
        have hF := k_self hDc hS hA
        refine k_run_i (va_runV (As := [.int p1, .int x4_26]) (rest := []) ⟨hx, hb, hml, hown, hts⟩ (mX5_nextOf l D cs (k_wi a 1) (k_wi S_26 1) p1 x4_26 r45 hq45 _) (cwV 2 hts gX6_loser_X5_nextOf rfl rfl rfl (by decide +kernel) ⟨Nat.le_of_ble_eq_true rfl, Nat.le_of_ble_eq_true rfl⟩) ⟨k_blind, va_recv hK hP (ci := 3) (q0 := 1) rfl rfl, k_pre hPc hK hNn hDc⟩ rfl rfl hl.1 rfl (lv_room (Nat.le_of_ble_eq_true rfl)) dX6_loser_45 ⟨Nat.le_of_ble_eq_true rfl, Nat.le_of_ble_eq_true rfl⟩) hS hF (fun H locs hP1 hk hS => ?_)
        have hP : va_P D vwCl (wX6 cs a S_26 L) _ := k_back hP hD [1, 2, 3, 4, 5, 6, 7, 8, 9, 10, 11, 12, 13, 14, 15, 16] [0, 17, 18, 19, 20, 21, 22, 23, 24, 25, 26, 27, 28, 29, 30, 31, 32, 33, 34, 35, 36, 37, 38, 39, 40, 41, 42, 43, 44, 45, 46, 47, 48, 49, 50, 51, 52, 53, 54, 55, 56, 57, 58, 59, 60, 61, 62, 63, 64, 65, 66, 67, 68, 69, 70, 71, 72, 73, 74, 75, 76, 77, 78] [0, 63, 64, 65, 66, 67, 68, 69, 70, 71, 72, 73, 74, 75, 76, 77, 78, 1, 2, 3, 4, 5, 6, 7, 8, 9, 10, 11, 12, 13, 14, 15, 16, 17, 18, 19, 20, 21, 22, 23, 24, 25, 26, 27, 28, 29, 30, 31, 32, 33, 34, 35, 36, 37, 38, 39, 40, 41, 42, 43, 44, 45, 46, 47, 48, 49, 50, 51, 52, 53, 54, 55, 56, 57, 58, 59, 60, 61, 62] (wcX6_X5_1 cs a S_26 L) (by decide +kernel) hk hP1 (wbX6_X5_1 cs a S_26 L)
        have hD := hDA S_26 L
        refine lv_iload_n hx hb dX6_loser_48 rfl (lv_at hl 2 rfl) ?_
        refine lv_icmp_ne (tgt := 59) hx hb dX6_loser_49 (by decide) (fun c49 => ?_) (fun c49 => ?_)
        · have hd := dn_f c49 hd
          refine lv_iinc (v := x4_26 + (1 : Int32)) (lv' := [(4, .int (x4_26 + (1 : Int32))), (0, .ref (a 0)), (1, .int p1), (2, .int p2), (3, .int x3_26)]) hx hb dX6_loser_59 hl (k := 4) rfl rfl (by decide) rfl (fun ls hl => ?_)
          refine lv_goto (tgt := 26) hx hb dX6_loser_62 (by decide) ?_
          exact ih1 x3_26 (x4_26 + (1 : Int32)) S_26 _ _ _ (dn_bk hd hy1) (lv_sub hl [1, 2, 3, 4, 0] rfl) hP hS
        · have hd := dn_t c49 hd
          refine lv_iload_n hx hb dX6_loser_52 rfl (lv_at hl 3 rfl) ?_
          refine lv_iconst (v := (1 : Int32)) hx hb dX6_loser_53 (by decide) ?_
          refine lv_iload hx hb dX6_loser_54 (lv_at hl 4 rfl) ?_
          refine lv_ishl hx hb dX6_loser_56 ?_
          refine lv_ior hx hb dX6_loser_57 ?_
          refine lv_istore_n (lv' := [(3, .int (x3_26 ||| ((1 : Int32) <<< (x4_26 &&& 31)))), (0, .ref (a 0)), (1, .int p1), (2, .int p2), (4, .int x4_26)]) hx hb dX6_loser_58 rfl hl (by decide) rfl (fun ls hl => ?_)
          refine lv_iinc (v := x4_26 + (1 : Int32)) (lv' := [(4, .int (x4_26 + (1 : Int32))), (3, .int (x3_26 ||| ((1 : Int32) <<< (x4_26 &&& 31)))), (0, .ref (a 0)), (1, .int p1), (2, .int p2)]) hx hb dX6_loser_59 hl (k := 4) rfl rfl (by decide) rfl (fun ls hl => ?_)
          refine lv_goto (tgt := 26) hx hb dX6_loser_62 (by decide) ?_
          exact ih1 (x3_26 ||| ((1 : Int32) <<< (x4_26 &&& 31))) (x4_26 + (1 : Int32)) S_26 _ _ _ (dn_bk hd hy1) (lv_sub hl [2, 3, 4, 1, 0] rfl) hP hS
  have Jo16 : ∀ (S_16 : Nat → Nat → Int32) (H : Heap) (locs : List Loc) (ls : Array Slot), nX6_loser_j16 S_16 L = some (r9, S9) → lv_has ls 5 [(0, .ref (a 0))] → va_P D vwCl (wX6 cs a S_16 L) H → va_S A s.heap H locs → W p l e (headSpec wsX6_loser ({ frames := 4, cells := 0, slots := 0, locals := 106 })).room s m ([.ref (a 0), .int p1, .int p2] : List Value).toArray below meth c H locs 0 0 Q (F0 m 16 ls []) := by
    intro S_16 H locs ls hd hl hP hS
    have hD := hDA S_16 L
    unfold nX6_loser_j16 at hd
    refine lv_aload_n hx hb dX6_loser_16 rfl (lv_at hl 0 rfl) ?_
    obtain ⟨r17, S17, hq17, hd⟩ := dn_b2 hd
    have hF := k_self hD hS hA
    refine k_run_i (va_runV (As := []) (rest := []) ⟨hx, hb, hml, hown, hts⟩ (mX6_refusedAsBad l D cs a S_16 L r17 S17 hq17 _) (cwV 0 hts gX6_loser_X6_refusedAsBad rfl rfl rfl (by decide +kernel) ⟨Nat.le_of_ble_eq_true rfl, Nat.le_of_ble_eq_true rfl⟩) ⟨k_blind, va_recv hK hP (ci := 4) (q0 := 0) rfl rfl, k_pre hP hK hNn hD⟩ rfl rfl hl.1 rfl (lv_room (Nat.le_of_ble_eq_true rfl)) dX6_loser_17 ⟨Nat.le_of_ble_eq_true rfl, Nat.le_of_ble_eq_true rfl⟩) hS hF (fun H locs hP1 hk hS => ?_)
    have hP : va_P D vwCl (wX6 cs a S17 L) _ := hP1
    have hD := hDA S17 L
    obtain ⟨e1, e2⟩ := dn_s2 hd
    exact k_iret hx hb hr hQ hAe e1 (by rw [e2]) hP hS hlocks dX6_loser_20
  unfold nX6_loser at hd
  refine lv_aload_n hx hb dX6_loser_0 rfl (lv_at hl 0 rfl) ?_
  refine lv_iload_n hx hb dX6_loser_1 rfl (lv_at hl 1 rfl) ?_
  obtain ⟨r2, hq2, hd⟩ := dn_b1 hd
  have hF := k_self hD hS hA
  refine k_run_i (va_runV (As := [.int p1]) (rest := []) ⟨hx, hb, hml, hown, hts⟩ (mX6_isThing l D cs a S L p1 r2 hq2 _) (cwV 1 hts gX6_loser_X6_isThing rfl rfl rfl (by decide +kernel) ⟨Nat.le_of_ble_eq_true rfl, Nat.le_of_ble_eq_true rfl⟩) ⟨k_blind, va_recv hK hP (ci := 4) (q0 := 0) rfl rfl, k_pre hP hK hNn hD⟩ rfl rfl hl.1 rfl (lv_room (Nat.le_of_ble_eq_true rfl)) dX6_loser_2 ⟨Nat.le_of_ble_eq_true rfl, Nat.le_of_ble_eq_true rfl⟩) hS hF (fun H locs hP1 hk hS => ?_)
  have hP : va_P D vwCl (wX6 cs a S L) _ := hP1
  have hD := hDA S L
  refine lv_if_eq (tgt := 16) hx hb dX6_loser_5 (by decide) (fun c5 => ?_) (fun c5 => ?_)
  · have hd := dn_t c5 hd
    exact Jo16 S _ _ _ hd (lv_sub hl [0] rfl) hP hS
  · have hd := dn_f c5 hd
    refine lv_aload_n hx hb dX6_loser_8 rfl (lv_at hl 0 rfl) ?_
    refine lv_iload_n hx hb dX6_loser_9 rfl (lv_at hl 2 rfl) ?_
    obtain ⟨r10, hq10, hd⟩ := dn_b1 hd
    have hF := k_self hD hS hA
    refine k_run_i (va_runV (As := [.int p2]) (rest := []) ⟨hx, hb, hml, hown, hts⟩ (mX6_isPerson l D cs a S L p2 r10 hq10 _) (cwV 1 hts gX6_loser_X6_isPerson rfl rfl rfl (by decide +kernel) ⟨Nat.le_of_ble_eq_true rfl, Nat.le_of_ble_eq_true rfl⟩) ⟨k_blind, va_recv hK hP (ci := 4) (q0 := 0) rfl rfl, k_pre hP hK hNn hD⟩ rfl rfl hl.1 rfl (lv_room (Nat.le_of_ble_eq_true rfl)) dX6_loser_10 ⟨Nat.le_of_ble_eq_true rfl, Nat.le_of_ble_eq_true rfl⟩) hS hF (fun H locs hP1 hk hS => ?_)
    have hP : va_P D vwCl (wX6 cs a S L) _ := hP1
    have hD := hDA S L
    refine lv_if_ne (tgt := 21) hx hb dX6_loser_13 (by decide) (fun c13 => ?_) (fun c13 => ?_)
    · have hd := dn_f c13 hd
      refine lv_iconst (v := (0 : Int32)) hx hb dX6_loser_21 (by decide) ?_
      refine lv_istore_n (lv' := [(3, .int (0 : Int32)), (0, .ref (a 0)), (1, .int p1), (2, .int p2)]) hx hb dX6_loser_22 rfl hl (by decide) rfl (fun ls hl => ?_)
      refine lv_iconst (v := (0 : Int32)) hx hb dX6_loser_23 (by decide) ?_
      refine lv_istore (lv' := [(4, .int (0 : Int32)), (3, .int (0 : Int32)), (0, .ref (a 0)), (1, .int p1), (2, .int p2)]) hx hb dX6_loser_24 hl (by decide) rfl (fun ls hl => ?_)
      exact Lo26 1000 (0 : Int32) (0 : Int32) S _ _ _ hd (lv_sub hl [2, 3, 4, 1, 0] rfl) hP hS
    · have hd := dn_t c13 hd
      exact Jo16 S _ _ _ hd (lv_sub hl [0] rfl) hP hS
-- LeastNeed.note(IIIIII)I
set_option maxHeartbeats 4000000 in
set_option maxRecDepth 100000 in
theorem mX6_note (l : Launch) (D : va_G) (cs : Nat → ClassId) (a : Nat → Nat) (S : Nat → Nat → Int32) (L : Nat → Nat → Int64) (p1 : Int32) (p2 : Int32) (p3 : Int32) (p4 : Int32) (p5 : Int32) (p6 : Int32) (r9 : Int32) (S9 : (Nat → Nat → Int32)) (hd : nX6_note S L p1 p2 p3 p4 p5 p6 = some (r9, S9)) : ∀ sz : Nat, Met l yX6_note wsX6_note ({ frames := 2, cells := 0, slots := 0, locals := 42 }) (k_Pc D cs [.ref (a 0), .int p1, .int p2, .int p3, .int p4, .int p5, .int p6] (wX6 cs a S L) sz) (k_Qi D r9 (wX6 cs a S L) (wX6 cs a S9 L) sz) 0 0 (va_A (wX6 cs a S L) sz) := by
  intro sz
  refine Met.ofW (cc := cX6_note) (maxL := 8) (ret := (some .int)) (by decide) rfl ?_
  intro p e s m args below meth c s₁ B hml hv
  obtain ⟨rfl, hsz, hP, hK, hD0, hNn⟩ := hv
  have hx := B.exec
  have hb := B.bytes
  have hr := B.returns
  have hts := atoms_spec (ws := wsX6_note) B.pre
  have hown : s.vm.findClass RX6 = some m.cls := findClass_of_methodNamed B.named
  have hlocks := B.notSynchronized
  subst hsz
  obtain ⟨A, hAe⟩ : ∃ A : Nat → Prop, A = va_A (wX6 cs a S L) s.heap.size := ⟨_, rfl⟩
  have hD : va_D A (wX6 cs a S L) := by rw [hAe]; exact hD0.self
  have hA : ∀ q : Nat, s.heap.size ≤ q → A q := fun q h => by rw [hAe]; exact Or.inr h
  have hS : va_S A s.heap s.heap [] := va_S.rf
  have hDA : ∀ (S : Nat → Nat → Int32) (L : Nat → Nat → Int64), va_D A (wX6 cs a S L) := fun S L => k_DA hD rfl
  have hl := lv_entry ([.ref (a 0), .int p1, .int p2, .int p3, .int p4, .int p5, .int p6]) (n := 8) (Nat.le_of_ble_eq_true rfl)
  rw [lg_entry_eq]
  generalize (lg_sl ([.ref (a 0), .int p1, .int p2, .int p3, .int p4, .int p5, .int p6]) ++ List.replicate (8 - (lg_sl ([.ref (a 0), .int p1, .int p2, .int p3, .int p4, .int p5, .int p6])).length) Slot.unset).toArray = ls at hl ⊢
  have hl : lv_has ls 8 [(0, .ref (a 0)), (1, .int p1), (2, .int p2), (3, .int p3), (4, .int p4), (5, .int p5), (6, .int p6)] := hl
  obtain ⟨Q, hQ⟩ : ∃ Q, Q = MQ below (k_Qi D r9 (wX6 cs a S L) (wX6 cs a S9 L) s.heap.size) ([.ref (a 0), .int p1, .int p2, .int p3, .int p4, .int p5, .int p6] : List Value).toArray s 0 0 (va_A (wX6 cs a S L) s.heap.size) := ⟨_, rfl⟩
  rw [← hQ]
  have Jo67 : ∀ (S_67 : Nat → Nat → Int32) (H : Heap) (locs : List Loc) (ls : Array Slot), nX6_note_j67 S_67 L = some (r9, S9) → lv_has ls 8 [(0, .ref (a 0))] → va_P D vwCl (wX6 cs a S_67 L) H → va_S A s.heap H locs → W p l e (headSpec wsX6_note ({ frames := 2, cells := 0, slots := 0, locals := 42 })).room s m ([.ref (a 0), .int p1, .int p2, .int p3, .int p4, .int p5, .int p6] : List Value).toArray below meth c H locs 0 0 Q (F0 m 67 ls []) := by
    intro S_67 H locs ls hd hl hP hS
    have hD := hDA S_67 L
    unfold nX6_note_j67 at hd
    refine lv_aload_n hx hb dX6_note_67 rfl (lv_at hl 0 rfl) ?_
    obtain ⟨r68, S68, hq68, hd⟩ := dn_b2 hd
    have hF := k_self hD hS hA
    refine k_run_i (va_runV (As := []) (rest := []) ⟨hx, hb, hml, hown, hts⟩ (mX6_refusedAsBad l D cs a S_67 L r68 S68 hq68 _) (cwV 0 hts gX6_note_X6_refusedAsBad rfl rfl rfl (by decide +kernel) ⟨Nat.le_of_ble_eq_true rfl, Nat.le_of_ble_eq_true rfl⟩) ⟨k_blind, va_recv hK hP (ci := 4) (q0 := 0) rfl rfl, k_pre hP hK hNn hD⟩ rfl rfl hl.1 rfl (lv_room (Nat.le_of_ble_eq_true rfl)) dX6_note_68 ⟨Nat.le_of_ble_eq_true rfl, Nat.le_of_ble_eq_true rfl⟩) hS hF (fun H locs hP1 hk hS => ?_)
    have hP : va_P D vwCl (wX6 cs a S68 L) _ := hP1
    have hD := hDA S68 L
    obtain ⟨e1, e2⟩ := dn_s2 hd
    exact k_iret hx hb hr hQ hAe e1 (by rw [e2]) hP hS hlocks dX6_note_71
  have Jo31 : ∀ (w0_31 : Int32) (S_31 : Nat → Nat → Int32) (H : Heap) (locs : List Loc) (ls : Array Slot), nX6_note_j31 p1 p2 p3 p4 p5 p6 w0_31 S_31 L = some (r9, S9) → lv_has ls 8 [(0, .ref (a 0)), (1, .int p1), (2, .int p2), (3, .int p3), (4, .int p4), (5, .int p5), (6, .int p6)] → va_P D vwCl (wX6 cs a S_31 L) H → va_S A s.heap H locs → W p l e (headSpec wsX6_note ({ frames := 2, cells := 0, slots := 0, locals := 42 })).room s m ([.ref (a 0), .int p1, .int p2, .int p3, .int p4, .int p5, .int p6] : List Value).toArray below meth c H locs 0 0 Q (F0 m 31 ls [.int w0_31]) := by
    intro w0_31 S_31 H locs ls hd hl hP hS
    have hD := hDA S_31 L
    unfold nX6_note_j31 at hd
    refine lv_istore (lv' := [(7, .int w0_31), (0, .ref (a 0)), (1, .int p1), (2, .int p2), (3, .int p3), (4, .int p4), (5, .int p5), (6, .int p6)]) hx hb dX6_note_31 hl (by decide) rfl (fun ls hl => ?_)
    refine lv_iload hx hb dX6_note_33 (lv_at hl 0 rfl) ?_
    refine lv_if_eq (tgt := 67) hx hb dX6_note_35 (by decide) (fun c35 => ?_) (fun c35 => ?_)
    · have hd := dn_t c35 hd
      exact Jo67 S_31 _ _ _ hd (lv_sub hl [1] rfl) hP hS
    · have hd := dn_f c35 hd
      refine lv_iload hx hb dX6_note_38 (lv_at hl 5 rfl) ?_
      refine lv_iconst (v := (4 : Int32)) hx hb dX6_note_40 (by decide) ?_
      obtain ⟨r41, hq41, hd⟩ := dn_b1 hd
      have hPc := k_P0 hP
      have hDc : va_D A ([] : va_W) := k_D0
      have hF := k_self hDc hS hA
      refine k_run_i (va_runS (As := [.int p4, .int (4 : Int32)]) (rest := []) ⟨hx, hb, hml, hown, hts⟩ (mX6_upTo l D cs  p4 (4 : Int32) r41 hq41 _) (va_cwS 2 hts gX6_note_X6_upTo rfl rfl rfl (by decide +kernel) ⟨Nat.le_of_ble_eq_true rfl, Nat.le_of_ble_eq_true rfl⟩) ⟨k_blind, k_pre hPc hK hNn hDc⟩ rfl rfl hl.1 rfl (lv_room (Nat.le_of_ble_eq_true rfl)) dX6_note_41 ⟨Nat.le_of_ble_eq_true rfl, Nat.le_of_ble_eq_true rfl⟩) hS hF (fun H locs hP1 hk hS => ?_)
      have hP : va_P D vwCl (wX6 cs a S_31 L) _ := k_keep hP hk
      refine lv_if_eq (tgt := 67) hx hb dX6_note_44 (by decide) (fun c44 => ?_) (fun c44 => ?_)
      · have hd := dn_t c44 hd
        exact Jo67 S_31 _ _ _ hd (lv_sub hl [1] rfl) hP hS
      · have hd := dn_f c44 hd
        refine lv_iload hx hb dX6_note_47 (lv_at hl 6 rfl) ?_
        refine lv_bipush (v := (100 : Int32)) hx hb dX6_note_49 (by decide) ?_
        obtain ⟨r51, hq51, hd⟩ := dn_b1 hd
        have hPc := k_P0 hP
        have hDc : va_D A ([] : va_W) := k_D0
        have hF := k_self hDc hS hA
        refine k_run_i (va_runS (As := [.int p5, .int (100 : Int32)]) (rest := []) ⟨hx, hb, hml, hown, hts⟩ (mX6_upTo l D cs  p5 (100 : Int32) r51 hq51 _) (va_cwS 2 hts gX6_note_X6_upTo rfl rfl rfl (by decide +kernel) ⟨Nat.le_of_ble_eq_true rfl, Nat.le_of_ble_eq_true rfl⟩) ⟨k_blind, k_pre hPc hK hNn hDc⟩ rfl rfl hl.1 rfl (lv_room (Nat.le_of_ble_eq_true rfl)) dX6_note_51 ⟨Nat.le_of_ble_eq_true rfl, Nat.le_of_ble_eq_true rfl⟩) hS hF (fun H locs hP1 hk hS => ?_)
        have hP : va_P D vwCl (wX6 cs a S_31 L) _ := k_keep hP hk
        refine lv_if_eq (tgt := 67) hx hb dX6_note_54 (by decide) (fun c54 => ?_) (fun c54 => ?_)
        · have hd := dn_t c54 hd
          exact Jo67 S_31 _ _ _ hd (lv_sub hl [1] rfl) hP hS
        · have hd := dn_f c54 hd
          refine lv_iload hx hb dX6_note_57 (lv_at hl 7 rfl) ?_
          refine lv_bipush (v := (31 : Int32)) hx hb dX6_note_59 (by decide) ?_
          obtain ⟨r61, hq61, hd⟩ := dn_b1 hd
          have hPc := k_P0 hP
          have hDc : va_D A ([] : va_W) := k_D0
          have hF := k_self hDc hS hA
          refine k_run_i (va_runS (As := [.int p6, .int (31 : Int32)]) (rest := []) ⟨hx, hb, hml, hown, hts⟩ (mX6_upTo l D cs  p6 (31 : Int32) r61 hq61 _) (va_cwS 2 hts gX6_note_X6_upTo rfl rfl rfl (by decide +kernel) ⟨Nat.le_of_ble_eq_true rfl, Nat.le_of_ble_eq_true rfl⟩) ⟨k_blind, k_pre hPc hK hNn hDc⟩ rfl rfl hl.1 rfl (lv_room (Nat.le_of_ble_eq_true rfl)) dX6_note_61 ⟨Nat.le_of_ble_eq_true rfl, Nat.le_of_ble_eq_true rfl⟩) hS hF (fun H locs hP1 hk hS => ?_)
          have hP : va_P D vwCl (wX6 cs a S_31 L) _ := k_keep hP hk
          refine lv_if_ne (tgt := 72) hx hb dX6_note_64 (by decide) (fun c64 => ?_) (fun c64 => ?_)
          · have hd := dn_f c64 hd
            refine lv_aload_n hx hb dX6_note_72 rfl (lv_at hl 1 rfl) ?_
            refine va_get (D := D) (ci := 4) (v := .ref (a 1)) (C := RX6) (T := TX6) (N := 12) hx hb hts (fun w h => List.mem_cons_of_mem _ (List.mem_append_left _ (List.mem_append_left _ (List.mem_append_right _ h)))) hown hK hP 0 rfl rfl 0 (by decide) (hts (.fieldLink RX6 12 "LeastNeed" "now" "LLeastNeed$Valley;") (List.mem_of_getElem? (i := 1) rfl)) (fun _ h9 => h9) rfl dX6_note_73 ?_
            refine va_get (D := D) (ci := 3) (v := .ref (a 11)) (C := RX5) (T := TX5) (N := 15) hx hb hts (fun w h => List.mem_cons_of_mem _ (List.mem_append_left _ (List.mem_append_right _ h))) hown hK hP 1 rfl rfl 9 (by decide) (hts (.fieldLink RX6 198 "LeastNeed$Valley" "notes" "LLeastNeed$Rows;") (List.mem_of_getElem? (i := 2) rfl)) (fun _ h9 => h9) rfl dX6_note_76 ?_
            obtain ⟨r79, hq79, hd⟩ := dn_b1 hd
            have hPc : va_P D vwCl (wX3 cs 36 (6 : Int32) (6 : Int32) (k_wi a 11) (k_wi S_31 11)) _ := k_sub hP [11, 12] (wcX6_X3_11 cs a S_31 L)
            have hDc : va_D A (wX3 cs 36 (6 : Int32) (6 : Int32) (k_wi a 11) (k_wi S_31 11)) := hD.sub [11, 12] (by decide +kernel) (wcX6_X3_11 cs a S_31 L)
            have hF := k_self hDc hS hA
            refine k_run_i (va_runV (As := []) (rest := []) ⟨hx, hb, hml, hown, hts⟩ (mX3_isFull l D cs (k_wi a 11) 36 (6 : Int32) (6 : Int32) (k_wi S_31 11) r79 hq79 _) (cwV 0 hts gX6_note_X3_isFull rfl rfl rfl (by decide +kernel) ⟨Nat.le_of_ble_eq_true rfl, Nat.le_of_ble_eq_true rfl⟩) ⟨k_blind, va_recv hK hP (ci := 2) (q0 := 11) rfl rfl, k_pre hPc hK hNn hDc⟩ rfl rfl hl.1 rfl (lv_room (Nat.le_of_ble_eq_true rfl)) dX6_note_79 ⟨Nat.le_of_ble_eq_true rfl, Nat.le_of_ble_eq_true rfl⟩) hS hF (fun H locs hP1 hk hS => ?_)
            have hP : va_P D vwCl (wX6 cs a S_31 L) _ := k_back hP hD [11, 12] [0, 1, 2, 3, 4, 5, 6, 7, 8, 9, 10, 13, 14, 15, 16, 17, 18, 19, 20, 21, 22, 23, 24, 25, 26, 27, 28, 29, 30, 31, 32, 33, 34, 35, 36, 37, 38, 39, 40, 41, 42, 43, 44, 45, 46, 47, 48, 49, 50, 51, 52, 53, 54, 55, 56, 57, 58, 59, 60, 61, 62, 63, 64, 65, 66, 67, 68, 69, 70, 71, 72, 73, 74, 75, 76, 77, 78] [0, 1, 2, 3, 4, 5, 6, 7, 8, 9, 10, 77, 78, 11, 12, 13, 14, 15, 16, 17, 18, 19, 20, 21, 22, 23, 24, 25, 26, 27, 28, 29, 30, 31, 32, 33, 34, 35, 36, 37, 38, 39, 40, 41, 42, 43, 44, 45, 46, 47, 48, 49, 50, 51, 52, 53, 54, 55, 56, 57, 58, 59, 60, 61, 62, 63, 64, 65, 66, 67, 68, 69, 70, 71, 72, 73, 74, 75, 76] (wcX6_X3_11 cs a S_31 L) (by decide +kernel) hk hP1 (wbX6_X3_11 cs a S_31 L)
            have hD := hDA S_31 L
            refine lv_if_eq (tgt := 90) hx hb dX6_note_82 (by decide) (fun c82 => ?_) (fun c82 => ?_)
            · have hd := dn_t c82 hd
              refine lv_aload_n hx hb dX6_note_90 rfl (lv_at hl 1 rfl) ?_
              refine va_get (D := D) (ci := 4) (v := .ref (a 1)) (C := RX6) (T := TX6) (N := 12) hx hb hts (fun w h => List.mem_cons_of_mem _ (List.mem_append_left _ (List.mem_append_left _ (List.mem_append_right _ h)))) hown hK hP 0 rfl rfl 0 (by decide) (hts (.fieldLink RX6 12 "LeastNeed" "now" "LLeastNeed$Valley;") (List.mem_of_getElem? (i := 1) rfl)) (fun _ h9 => h9) rfl dX6_note_91 ?_
              refine va_get (D := D) (ci := 3) (v := .ref (a 11)) (C := RX5) (T := TX5) (N := 15) hx hb hts (fun w h => List.mem_cons_of_mem _ (List.mem_append_left _ (List.mem_append_right _ h))) hown hK hP 1 rfl rfl 9 (by decide) (hts (.fieldLink RX6 198 "LeastNeed$Valley" "notes" "LLeastNeed$Rows;") (List.mem_of_getElem? (i := 2) rfl)) (fun _ h9 => h9) rfl dX6_note_94 ?_
              obtain ⟨S97, hq97, hd⟩ := dn_b1 hd
              have hPc : va_P D vwCl (wX3 cs 36 (6 : Int32) (6 : Int32) (k_wi a 11) (k_wi S_31 11)) _ := k_sub hP [11, 12] (wcX6_X3_11 cs a S_31 L)
              have hDc : va_D A (wX3 cs 36 (6 : Int32) (6 : Int32) (k_wi a 11) (k_wi S_31 11)) := hD.sub [11, 12] (by decide +kernel) (wcX6_X3_11 cs a S_31 L)
              have hF := k_self hDc hS hA
              refine k_run_v (va_runV (As := []) (rest := []) ⟨hx, hb, hml, hown, hts⟩ (mX3_begin l D cs (k_wi a 11) 36 (6 : Int32) (6 : Int32) (k_wi S_31 11) S97 hq97 _) (cwV 0 hts gX6_note_X3_begin rfl rfl rfl (by decide +kernel) ⟨Nat.le_of_ble_eq_true rfl, Nat.le_of_ble_eq_true rfl⟩) ⟨k_blind, va_recv hK hP (ci := 2) (q0 := 11) rfl rfl, k_pre hPc hK hNn hDc⟩ rfl rfl hl.1 rfl (lv_room (Nat.le_of_ble_eq_true rfl)) dX6_note_97 ⟨Nat.le_of_ble_eq_true rfl, Nat.le_of_ble_eq_true rfl⟩) hS hF (fun H locs hP1 hk hS => ?_)
              have hP : va_P D vwCl (wX6 cs a (k_sp S_31 11 2 S97) L) _ := k_back hP hD [11, 12] [0, 1, 2, 3, 4, 5, 6, 7, 8, 9, 10, 13, 14, 15, 16, 17, 18, 19, 20, 21, 22, 23, 24, 25, 26, 27, 28, 29, 30, 31, 32, 33, 34, 35, 36, 37, 38, 39, 40, 41, 42, 43, 44, 45, 46, 47, 48, 49, 50, 51, 52, 53, 54, 55, 56, 57, 58, 59, 60, 61, 62, 63, 64, 65, 66, 67, 68, 69, 70, 71, 72, 73, 74, 75, 76, 77, 78] [0, 1, 2, 3, 4, 5, 6, 7, 8, 9, 10, 77, 78, 11, 12, 13, 14, 15, 16, 17, 18, 19, 20, 21, 22, 23, 24, 25, 26, 27, 28, 29, 30, 31, 32, 33, 34, 35, 36, 37, 38, 39, 40, 41, 42, 43, 44, 45, 46, 47, 48, 49, 50, 51, 52, 53, 54, 55, 56, 57, 58, 59, 60, 61, 62, 63, 64, 65, 66, 67, 68, 69, 70, 71, 72, 73, 74, 75, 76] (wcX6_X3_11 cs a S_31 L) (by decide +kernel) hk hP1 (wbX6_X3_11_S0 cs a S_31 L S97)
              have hD := hDA (k_sp S_31 11 2 S97) L
              refine lv_aload_n hx hb dX6_note_100 rfl (lv_at hl 1 rfl) ?_
              refine va_get (D := D) (ci := 4) (v := .ref (a 1)) (C := RX6) (T := TX6) (N := 12) hx hb hts (fun w h => List.mem_cons_of_mem _ (List.mem_append_left _ (List.mem_append_left _ (List.mem_append_right _ h)))) hown hK hP 0 rfl rfl 0 (by decide) (hts (.fieldLink RX6 12 "LeastNeed" "now" "LLeastNeed$Valley;") (List.mem_of_getElem? (i := 1) rfl)) (fun _ h9 => h9) rfl dX6_note_101 ?_
              refine va_get (D := D) (ci := 3) (v := .ref (a 11)) (C := RX5) (T := TX5) (N := 15) hx hb hts (fun w h => List.mem_cons_of_mem _ (List.mem_append_left _ (List.mem_append_right _ h))) hown hK hP 1 rfl rfl 9 (by decide) (hts (.fieldLink RX6 198 "LeastNeed$Valley" "notes" "LLeastNeed$Rows;") (List.mem_of_getElem? (i := 2) rfl)) (fun _ h9 => h9) rfl dX6_note_104 ?_
              refine lv_iconst (v := (0 : Int32)) hx hb dX6_note_107 (by decide) ?_
              refine lv_iload_n hx hb dX6_note_108 rfl (lv_at hl 2 rfl) ?_
              obtain ⟨S109, hq109, hd⟩ := dn_b1 hd
              have hPc : va_P D vwCl (wX3 cs 36 (6 : Int32) (6 : Int32) (k_wi a 11) (k_wi (k_sp S_31 11 2 S97) 11)) _ := k_sub hP [11, 12] (wcX6_X3_11 cs a (k_sp S_31 11 2 S97) L)
              have hDc : va_D A (wX3 cs 36 (6 : Int32) (6 : Int32) (k_wi a 11) (k_wi (k_sp S_31 11 2 S97) 11)) := hD.sub [11, 12] (by decide +kernel) (wcX6_X3_11 cs a (k_sp S_31 11 2 S97) L)
              have hF := k_self hDc hS hA
              refine k_run_v (va_runV (As := [.int (0 : Int32), .int p1]) (rest := []) ⟨hx, hb, hml, hown, hts⟩ (mX3_put l D cs (k_wi a 11) 36 (6 : Int32) (6 : Int32) (k_wi (k_sp S_31 11 2 S97) 11) (0 : Int32) p1 S109 hq109 _) (cwV 2 hts gX6_note_X3_put rfl rfl rfl (by decide +kernel) ⟨Nat.le_of_ble_eq_true rfl, Nat.le_of_ble_eq_true rfl⟩) ⟨k_blind, va_recv hK hP (ci := 2) (q0 := 11) rfl rfl, k_pre hPc hK hNn hDc⟩ rfl rfl hl.1 rfl (lv_room (Nat.le_of_ble_eq_true rfl)) dX6_note_109 ⟨Nat.le_of_ble_eq_true rfl, Nat.le_of_ble_eq_true rfl⟩) hS hF (fun H locs hP1 hk hS => ?_)
              have hP : va_P D vwCl (wX6 cs a (k_sp (k_sp S_31 11 2 S97) 11 2 S109) L) _ := k_back hP hD [11, 12] [0, 1, 2, 3, 4, 5, 6, 7, 8, 9, 10, 13, 14, 15, 16, 17, 18, 19, 20, 21, 22, 23, 24, 25, 26, 27, 28, 29, 30, 31, 32, 33, 34, 35, 36, 37, 38, 39, 40, 41, 42, 43, 44, 45, 46, 47, 48, 49, 50, 51, 52, 53, 54, 55, 56, 57, 58, 59, 60, 61, 62, 63, 64, 65, 66, 67, 68, 69, 70, 71, 72, 73, 74, 75, 76, 77, 78] [0, 1, 2, 3, 4, 5, 6, 7, 8, 9, 10, 77, 78, 11, 12, 13, 14, 15, 16, 17, 18, 19, 20, 21, 22, 23, 24, 25, 26, 27, 28, 29, 30, 31, 32, 33, 34, 35, 36, 37, 38, 39, 40, 41, 42, 43, 44, 45, 46, 47, 48, 49, 50, 51, 52, 53, 54, 55, 56, 57, 58, 59, 60, 61, 62, 63, 64, 65, 66, 67, 68, 69, 70, 71, 72, 73, 74, 75, 76] (wcX6_X3_11 cs a (k_sp S_31 11 2 S97) L) (by decide +kernel) hk hP1 (wbX6_X3_11_S0 cs a (k_sp S_31 11 2 S97) L S109)
              have hD := hDA (k_sp (k_sp S_31 11 2 S97) 11 2 S109) L
              refine lv_aload_n hx hb dX6_note_112 rfl (lv_at hl 1 rfl) ?_
              refine va_get (D := D) (ci := 4) (v := .ref (a 1)) (C := RX6) (T := TX6) (N := 12) hx hb hts (fun w h => List.mem_cons_of_mem _ (List.mem_append_left _ (List.mem_append_left _ (List.mem_append_right _ h)))) hown hK hP 0 rfl rfl 0 (by decide) (hts (.fieldLink RX6 12 "LeastNeed" "now" "LLeastNeed$Valley;") (List.mem_of_getElem? (i := 1) rfl)) (fun _ h9 => h9) rfl dX6_note_113 ?_
              refine va_get (D := D) (ci := 3) (v := .ref (a 11)) (C := RX5) (T := TX5) (N := 15) hx hb hts (fun w h => List.mem_cons_of_mem _ (List.mem_append_left _ (List.mem_append_right _ h))) hown hK hP 1 rfl rfl 9 (by decide) (hts (.fieldLink RX6 198 "LeastNeed$Valley" "notes" "LLeastNeed$Rows;") (List.mem_of_getElem? (i := 2) rfl)) (fun _ h9 => h9) rfl dX6_note_116 ?_
              refine lv_iconst (v := (1 : Int32)) hx hb dX6_note_119 (by decide) ?_
              refine lv_iload_n hx hb dX6_note_120 rfl (lv_at hl 3 rfl) ?_
              obtain ⟨S121, hq121, hd⟩ := dn_b1 hd
              have hPc : va_P D vwCl (wX3 cs 36 (6 : Int32) (6 : Int32) (k_wi a 11) (k_wi (k_sp (k_sp S_31 11 2 S97) 11 2 S109) 11)) _ := k_sub hP [11, 12] (wcX6_X3_11 cs a (k_sp (k_sp S_31 11 2 S97) 11 2 S109) L)
              have hDc : va_D A (wX3 cs 36 (6 : Int32) (6 : Int32) (k_wi a 11) (k_wi (k_sp (k_sp S_31 11 2 S97) 11 2 S109) 11)) := hD.sub [11, 12] (by decide +kernel) (wcX6_X3_11 cs a (k_sp (k_sp S_31 11 2 S97) 11 2 S109) L)
              have hF := k_self hDc hS hA
              refine k_run_v (va_runV (As := [.int (1 : Int32), .int p2]) (rest := []) ⟨hx, hb, hml, hown, hts⟩ (mX3_put l D cs (k_wi a 11) 36 (6 : Int32) (6 : Int32) (k_wi (k_sp (k_sp S_31 11 2 S97) 11 2 S109) 11) (1 : Int32) p2 S121 hq121 _) (cwV 2 hts gX6_note_X3_put rfl rfl rfl (by decide +kernel) ⟨Nat.le_of_ble_eq_true rfl, Nat.le_of_ble_eq_true rfl⟩) ⟨k_blind, va_recv hK hP (ci := 2) (q0 := 11) rfl rfl, k_pre hPc hK hNn hDc⟩ rfl rfl hl.1 rfl (lv_room (Nat.le_of_ble_eq_true rfl)) dX6_note_121 ⟨Nat.le_of_ble_eq_true rfl, Nat.le_of_ble_eq_true rfl⟩) hS hF (fun H locs hP1 hk hS => ?_)
              have hP : va_P D vwCl (wX6 cs a (k_sp (k_sp (k_sp S_31 11 2 S97) 11 2 S109) 11 2 S121) L) _ := k_back hP hD [11, 12] [0, 1, 2, 3, 4, 5, 6, 7, 8, 9, 10, 13, 14, 15, 16, 17, 18, 19, 20, 21, 22, 23, 24, 25, 26, 27, 28, 29, 30, 31, 32, 33, 34, 35, 36, 37, 38, 39, 40, 41, 42, 43, 44, 45, 46, 47, 48, 49, 50, 51, 52, 53, 54, 55, 56, 57, 58, 59, 60, 61, 62, 63, 64, 65, 66, 67, 68, 69, 70, 71, 72, 73, 74, 75, 76, 77, 78] [0, 1, 2, 3, 4, 5, 6, 7, 8, 9, 10, 77, 78, 11, 12, 13, 14, 15, 16, 17, 18, 19, 20, 21, 22, 23, 24, 25, 26, 27, 28, 29, 30, 31, 32, 33, 34, 35, 36, 37, 38, 39, 40, 41, 42, 43, 44, 45, 46, 47, 48, 49, 50, 51, 52, 53, 54, 55, 56, 57, 58, 59, 60, 61, 62, 63, 64, 65, 66, 67, 68, 69, 70, 71, 72, 73, 74, 75, 76] (wcX6_X3_11 cs a (k_sp (k_sp S_31 11 2 S97) 11 2 S109) L) (by decide +kernel) hk hP1 (wbX6_X3_11_S0 cs a (k_sp (k_sp S_31 11 2 S97) 11 2 S109) L S121)
              have hD := hDA (k_sp (k_sp (k_sp S_31 11 2 S97) 11 2 S109) 11 2 S121) L
              refine lv_aload_n hx hb dX6_note_124 rfl (lv_at hl 1 rfl) ?_
              refine va_get (D := D) (ci := 4) (v := .ref (a 1)) (C := RX6) (T := TX6) (N := 12) hx hb hts (fun w h => List.mem_cons_of_mem _ (List.mem_append_left _ (List.mem_append_left _ (List.mem_append_right _ h)))) hown hK hP 0 rfl rfl 0 (by decide) (hts (.fieldLink RX6 12 "LeastNeed" "now" "LLeastNeed$Valley;") (List.mem_of_getElem? (i := 1) rfl)) (fun _ h9 => h9) rfl dX6_note_125 ?_
              refine va_get (D := D) (ci := 3) (v := .ref (a 11)) (C := RX5) (T := TX5) (N := 15) hx hb hts (fun w h => List.mem_cons_of_mem _ (List.mem_append_left _ (List.mem_append_right _ h))) hown hK hP 1 rfl rfl 9 (by decide) (hts (.fieldLink RX6 198 "LeastNeed$Valley" "notes" "LLeastNeed$Rows;") (List.mem_of_getElem? (i := 2) rfl)) (fun _ h9 => h9) rfl dX6_note_128 ?_
              refine lv_iconst (v := (2 : Int32)) hx hb dX6_note_131 (by decide) ?_
              refine lv_iload_n hx hb dX6_note_132 rfl (lv_at hl 4 rfl) ?_
              obtain ⟨S133, hq133, hd⟩ := dn_b1 hd
              have hPc : va_P D vwCl (wX3 cs 36 (6 : Int32) (6 : Int32) (k_wi a 11) (k_wi (k_sp (k_sp (k_sp S_31 11 2 S97) 11 2 S109) 11 2 S121) 11)) _ := k_sub hP [11, 12] (wcX6_X3_11 cs a (k_sp (k_sp (k_sp S_31 11 2 S97) 11 2 S109) 11 2 S121) L)
              have hDc : va_D A (wX3 cs 36 (6 : Int32) (6 : Int32) (k_wi a 11) (k_wi (k_sp (k_sp (k_sp S_31 11 2 S97) 11 2 S109) 11 2 S121) 11)) := hD.sub [11, 12] (by decide +kernel) (wcX6_X3_11 cs a (k_sp (k_sp (k_sp S_31 11 2 S97) 11 2 S109) 11 2 S121) L)
              have hF := k_self hDc hS hA
              refine k_run_v (va_runV (As := [.int (2 : Int32), .int p3]) (rest := []) ⟨hx, hb, hml, hown, hts⟩ (mX3_put l D cs (k_wi a 11) 36 (6 : Int32) (6 : Int32) (k_wi (k_sp (k_sp (k_sp S_31 11 2 S97) 11 2 S109) 11 2 S121) 11) (2 : Int32) p3 S133 hq133 _) (cwV 2 hts gX6_note_X3_put rfl rfl rfl (by decide +kernel) ⟨Nat.le_of_ble_eq_true rfl, Nat.le_of_ble_eq_true rfl⟩) ⟨k_blind, va_recv hK hP (ci := 2) (q0 := 11) rfl rfl, k_pre hPc hK hNn hDc⟩ rfl rfl hl.1 rfl (lv_room (Nat.le_of_ble_eq_true rfl)) dX6_note_133 ⟨Nat.le_of_ble_eq_true rfl, Nat.le_of_ble_eq_true rfl⟩) hS hF (fun H locs hP1 hk hS => ?_)
              have hP : va_P D vwCl (wX6 cs a (k_sp (k_sp (k_sp (k_sp S_31 11 2 S97) 11 2 S109) 11 2 S121) 11 2 S133) L) _ := k_back hP hD [11, 12] [0, 1, 2, 3, 4, 5, 6, 7, 8, 9, 10, 13, 14, 15, 16, 17, 18, 19, 20, 21, 22, 23, 24, 25, 26, 27, 28, 29, 30, 31, 32, 33, 34, 35, 36, 37, 38, 39, 40, 41, 42, 43, 44, 45, 46, 47, 48, 49, 50, 51, 52, 53, 54, 55, 56, 57, 58, 59, 60, 61, 62, 63, 64, 65, 66, 67, 68, 69, 70, 71, 72, 73, 74, 75, 76, 77, 78] [0, 1, 2, 3, 4, 5, 6, 7, 8, 9, 10, 77, 78, 11, 12, 13, 14, 15, 16, 17, 18, 19, 20, 21, 22, 23, 24, 25, 26, 27, 28, 29, 30, 31, 32, 33, 34, 35, 36, 37, 38, 39, 40, 41, 42, 43, 44, 45, 46, 47, 48, 49, 50, 51, 52, 53, 54, 55, 56, 57, 58, 59, 60, 61, 62, 63, 64, 65, 66, 67, 68, 69, 70, 71, 72, 73, 74, 75, 76] (wcX6_X3_11 cs a (k_sp (k_sp (k_sp S_31 11 2 S97) 11 2 S109) 11 2 S121) L) (by decide +kernel) hk hP1 (wbX6_X3_11_S0 cs a (k_sp (k_sp (k_sp S_31 11 2 S97) 11 2 S109) 11 2 S121) L S133)
              have hD := hDA (k_sp (k_sp (k_sp (k_sp S_31 11 2 S97) 11 2 S109) 11 2 S121) 11 2 S133) L
              refine lv_aload_n hx hb dX6_note_136 rfl (lv_at hl 1 rfl) ?_
              refine va_get (D := D) (ci := 4) (v := .ref (a 1)) (C := RX6) (T := TX6) (N := 12) hx hb hts (fun w h => List.mem_cons_of_mem _ (List.mem_append_left _ (List.mem_append_left _ (List.mem_append_right _ h)))) hown hK hP 0 rfl rfl 0 (by decide) (hts (.fieldLink RX6 12 "LeastNeed" "now" "LLeastNeed$Valley;") (List.mem_of_getElem? (i := 1) rfl)) (fun _ h9 => h9) rfl dX6_note_137 ?_
              refine va_get (D := D) (ci := 3) (v := .ref (a 11)) (C := RX5) (T := TX5) (N := 15) hx hb hts (fun w h => List.mem_cons_of_mem _ (List.mem_append_left _ (List.mem_append_right _ h))) hown hK hP 1 rfl rfl 9 (by decide) (hts (.fieldLink RX6 198 "LeastNeed$Valley" "notes" "LLeastNeed$Rows;") (List.mem_of_getElem? (i := 2) rfl)) (fun _ h9 => h9) rfl dX6_note_140 ?_
              refine lv_iconst (v := (3 : Int32)) hx hb dX6_note_143 (by decide) ?_
              refine lv_iload hx hb dX6_note_144 (lv_at hl 5 rfl) ?_
              obtain ⟨S146, hq146, hd⟩ := dn_b1 hd
              have hPc : va_P D vwCl (wX3 cs 36 (6 : Int32) (6 : Int32) (k_wi a 11) (k_wi (k_sp (k_sp (k_sp (k_sp S_31 11 2 S97) 11 2 S109) 11 2 S121) 11 2 S133) 11)) _ := k_sub hP [11, 12] (wcX6_X3_11 cs a (k_sp (k_sp (k_sp (k_sp S_31 11 2 S97) 11 2 S109) 11 2 S121) 11 2 S133) L)
              have hDc : va_D A (wX3 cs 36 (6 : Int32) (6 : Int32) (k_wi a 11) (k_wi (k_sp (k_sp (k_sp (k_sp S_31 11 2 S97) 11 2 S109) 11 2 S121) 11 2 S133) 11)) := hD.sub [11, 12] (by decide +kernel) (wcX6_X3_11 cs a (k_sp (k_sp (k_sp (k_sp S_31 11 2 S97) 11 2 S109) 11 2 S121) 11 2 S133) L)
              have hF := k_self hDc hS hA
              refine k_run_v (va_runV (As := [.int (3 : Int32), .int p4]) (rest := []) ⟨hx, hb, hml, hown, hts⟩ (mX3_put l D cs (k_wi a 11) 36 (6 : Int32) (6 : Int32) (k_wi (k_sp (k_sp (k_sp (k_sp S_31 11 2 S97) 11 2 S109) 11 2 S121) 11 2 S133) 11) (3 : Int32) p4 S146 hq146 _) (cwV 2 hts gX6_note_X3_put rfl rfl rfl (by decide +kernel) ⟨Nat.le_of_ble_eq_true rfl, Nat.le_of_ble_eq_true rfl⟩) ⟨k_blind, va_recv hK hP (ci := 2) (q0 := 11) rfl rfl, k_pre hPc hK hNn hDc⟩ rfl rfl hl.1 rfl (lv_room (Nat.le_of_ble_eq_true rfl)) dX6_note_146 ⟨Nat.le_of_ble_eq_true rfl, Nat.le_of_ble_eq_true rfl⟩) hS hF (fun H locs hP1 hk hS => ?_)
              have hP : va_P D vwCl (wX6 cs a (k_sp (k_sp (k_sp (k_sp (k_sp S_31 11 2 S97) 11 2 S109) 11 2 S121) 11 2 S133) 11 2 S146) L) _ := k_back hP hD [11, 12] [0, 1, 2, 3, 4, 5, 6, 7, 8, 9, 10, 13, 14, 15, 16, 17, 18, 19, 20, 21, 22, 23, 24, 25, 26, 27, 28, 29, 30, 31, 32, 33, 34, 35, 36, 37, 38, 39, 40, 41, 42, 43, 44, 45, 46, 47, 48, 49, 50, 51, 52, 53, 54, 55, 56, 57, 58, 59, 60, 61, 62, 63, 64, 65, 66, 67, 68, 69, 70, 71, 72, 73, 74, 75, 76, 77, 78] [0, 1, 2, 3, 4, 5, 6, 7, 8, 9, 10, 77, 78, 11, 12, 13, 14, 15, 16, 17, 18, 19, 20, 21, 22, 23, 24, 25, 26, 27, 28, 29, 30, 31, 32, 33, 34, 35, 36, 37, 38, 39, 40, 41, 42, 43, 44, 45, 46, 47, 48, 49, 50, 51, 52, 53, 54, 55, 56, 57, 58, 59, 60, 61, 62, 63, 64, 65, 66, 67, 68, 69, 70, 71, 72, 73, 74, 75, 76] (wcX6_X3_11 cs a (k_sp (k_sp (k_sp (k_sp S_31 11 2 S97) 11 2 S109) 11 2 S121) 11 2 S133) L) (by decide +kernel) hk hP1 (wbX6_X3_11_S0 cs a (k_sp (k_sp (k_sp (k_sp S_31 11 2 S97) 11 2 S109) 11 2 S121) 11 2 S133) L S146)
              have hD := hDA (k_sp (k_sp (k_sp (k_sp (k_sp S_31 11 2 S97) 11 2 S109) 11 2 S121) 11 2 S133) 11 2 S146) L
              refine lv_aload_n hx hb dX6_note_149 rfl (lv_at hl 1 rfl) ?_
              refine va_get (D := D) (ci := 4) (v := .ref (a 1)) (C := RX6) (T := TX6) (N := 12) hx hb hts (fun w h => List.mem_cons_of_mem _ (List.mem_append_left _ (List.mem_append_left _ (List.mem_append_right _ h)))) hown hK hP 0 rfl rfl 0 (by decide) (hts (.fieldLink RX6 12 "LeastNeed" "now" "LLeastNeed$Valley;") (List.mem_of_getElem? (i := 1) rfl)) (fun _ h9 => h9) rfl dX6_note_150 ?_
              refine va_get (D := D) (ci := 3) (v := .ref (a 11)) (C := RX5) (T := TX5) (N := 15) hx hb hts (fun w h => List.mem_cons_of_mem _ (List.mem_append_left _ (List.mem_append_right _ h))) hown hK hP 1 rfl rfl 9 (by decide) (hts (.fieldLink RX6 198 "LeastNeed$Valley" "notes" "LLeastNeed$Rows;") (List.mem_of_getElem? (i := 2) rfl)) (fun _ h9 => h9) rfl dX6_note_153 ?_
              refine lv_iconst (v := (4 : Int32)) hx hb dX6_note_156 (by decide) ?_
              refine lv_iload hx hb dX6_note_157 (lv_at hl 6 rfl) ?_
              obtain ⟨S159, hq159, hd⟩ := dn_b1 hd
              have hPc : va_P D vwCl (wX3 cs 36 (6 : Int32) (6 : Int32) (k_wi a 11) (k_wi (k_sp (k_sp (k_sp (k_sp (k_sp S_31 11 2 S97) 11 2 S109) 11 2 S121) 11 2 S133) 11 2 S146) 11)) _ := k_sub hP [11, 12] (wcX6_X3_11 cs a (k_sp (k_sp (k_sp (k_sp (k_sp S_31 11 2 S97) 11 2 S109) 11 2 S121) 11 2 S133) 11 2 S146) L)
              have hDc : va_D A (wX3 cs 36 (6 : Int32) (6 : Int32) (k_wi a 11) (k_wi (k_sp (k_sp (k_sp (k_sp (k_sp S_31 11 2 S97) 11 2 S109) 11 2 S121) 11 2 S133) 11 2 S146) 11)) := hD.sub [11, 12] (by decide +kernel) (wcX6_X3_11 cs a (k_sp (k_sp (k_sp (k_sp (k_sp S_31 11 2 S97) 11 2 S109) 11 2 S121) 11 2 S133) 11 2 S146) L)
              have hF := k_self hDc hS hA
              refine k_run_v (va_runV (As := [.int (4 : Int32), .int p5]) (rest := []) ⟨hx, hb, hml, hown, hts⟩ (mX3_put l D cs (k_wi a 11) 36 (6 : Int32) (6 : Int32) (k_wi (k_sp (k_sp (k_sp (k_sp (k_sp S_31 11 2 S97) 11 2 S109) 11 2 S121) 11 2 S133) 11 2 S146) 11) (4 : Int32) p5 S159 hq159 _) (cwV 2 hts gX6_note_X3_put rfl rfl rfl (by decide +kernel) ⟨Nat.le_of_ble_eq_true rfl, Nat.le_of_ble_eq_true rfl⟩) ⟨k_blind, va_recv hK hP (ci := 2) (q0 := 11) rfl rfl, k_pre hPc hK hNn hDc⟩ rfl rfl hl.1 rfl (lv_room (Nat.le_of_ble_eq_true rfl)) dX6_note_159 ⟨Nat.le_of_ble_eq_true rfl, Nat.le_of_ble_eq_true rfl⟩) hS hF (fun H locs hP1 hk hS => ?_)
              have hP : va_P D vwCl (wX6 cs a (k_sp (k_sp (k_sp (k_sp (k_sp (k_sp S_31 11 2 S97) 11 2 S109) 11 2 S121) 11 2 S133) 11 2 S146) 11 2 S159) L) _ := k_back hP hD [11, 12] [0, 1, 2, 3, 4, 5, 6, 7, 8, 9, 10, 13, 14, 15, 16, 17, 18, 19, 20, 21, 22, 23, 24, 25, 26, 27, 28, 29, 30, 31, 32, 33, 34, 35, 36, 37, 38, 39, 40, 41, 42, 43, 44, 45, 46, 47, 48, 49, 50, 51, 52, 53, 54, 55, 56, 57, 58, 59, 60, 61, 62, 63, 64, 65, 66, 67, 68, 69, 70, 71, 72, 73, 74, 75, 76, 77, 78] [0, 1, 2, 3, 4, 5, 6, 7, 8, 9, 10, 77, 78, 11, 12, 13, 14, 15, 16, 17, 18, 19, 20, 21, 22, 23, 24, 25, 26, 27, 28, 29, 30, 31, 32, 33, 34, 35, 36, 37, 38, 39, 40, 41, 42, 43, 44, 45, 46, 47, 48, 49, 50, 51, 52, 53, 54, 55, 56, 57, 58, 59, 60, 61, 62, 63, 64, 65, 66, 67, 68, 69, 70, 71, 72, 73, 74, 75, 76] (wcX6_X3_11 cs a (k_sp (k_sp (k_sp (k_sp (k_sp S_31 11 2 S97) 11 2 S109) 11 2 S121) 11 2 S133) 11 2 S146) L) (by decide +kernel) hk hP1 (wbX6_X3_11_S0 cs a (k_sp (k_sp (k_sp (k_sp (k_sp S_31 11 2 S97) 11 2 S109) 11 2 S121) 11 2 S133) 11 2 S146) L S159)
              have hD := hDA (k_sp (k_sp (k_sp (k_sp (k_sp (k_sp S_31 11 2 S97) 11 2 S109) 11 2 S121) 11 2 S133) 11 2 S146) 11 2 S159) L
              refine lv_aload_n hx hb dX6_note_162 rfl (lv_at hl 1 rfl) ?_
              refine va_get (D := D) (ci := 4) (v := .ref (a 1)) (C := RX6) (T := TX6) (N := 12) hx hb hts (fun w h => List.mem_cons_of_mem _ (List.mem_append_left _ (List.mem_append_left _ (List.mem_append_right _ h)))) hown hK hP 0 rfl rfl 0 (by decide) (hts (.fieldLink RX6 12 "LeastNeed" "now" "LLeastNeed$Valley;") (List.mem_of_getElem? (i := 1) rfl)) (fun _ h9 => h9) rfl dX6_note_163 ?_
              refine va_get (D := D) (ci := 3) (v := .ref (a 11)) (C := RX5) (T := TX5) (N := 15) hx hb hts (fun w h => List.mem_cons_of_mem _ (List.mem_append_left _ (List.mem_append_right _ h))) hown hK hP 1 rfl rfl 9 (by decide) (hts (.fieldLink RX6 198 "LeastNeed$Valley" "notes" "LLeastNeed$Rows;") (List.mem_of_getElem? (i := 2) rfl)) (fun _ h9 => h9) rfl dX6_note_166 ?_
              refine lv_iconst (v := (5 : Int32)) hx hb dX6_note_169 (by decide) ?_
              refine lv_iload hx hb dX6_note_170 (lv_at hl 7 rfl) ?_
              obtain ⟨S172, hq172, hd⟩ := dn_b1 hd
              have hPc : va_P D vwCl (wX3 cs 36 (6 : Int32) (6 : Int32) (k_wi a 11) (k_wi (k_sp (k_sp (k_sp (k_sp (k_sp (k_sp S_31 11 2 S97) 11 2 S109) 11 2 S121) 11 2 S133) 11 2 S146) 11 2 S159) 11)) _ := k_sub hP [11, 12] (wcX6_X3_11 cs a (k_sp (k_sp (k_sp (k_sp (k_sp (k_sp S_31 11 2 S97) 11 2 S109) 11 2 S121) 11 2 S133) 11 2 S146) 11 2 S159) L)
              have hDc : va_D A (wX3 cs 36 (6 : Int32) (6 : Int32) (k_wi a 11) (k_wi (k_sp (k_sp (k_sp (k_sp (k_sp (k_sp S_31 11 2 S97) 11 2 S109) 11 2 S121) 11 2 S133) 11 2 S146) 11 2 S159) 11)) := hD.sub [11, 12] (by decide +kernel) (wcX6_X3_11 cs a (k_sp (k_sp (k_sp (k_sp (k_sp (k_sp S_31 11 2 S97) 11 2 S109) 11 2 S121) 11 2 S133) 11 2 S146) 11 2 S159) L)
              have hF := k_self hDc hS hA
              refine k_run_v (va_runV (As := [.int (5 : Int32), .int p6]) (rest := []) ⟨hx, hb, hml, hown, hts⟩ (mX3_put l D cs (k_wi a 11) 36 (6 : Int32) (6 : Int32) (k_wi (k_sp (k_sp (k_sp (k_sp (k_sp (k_sp S_31 11 2 S97) 11 2 S109) 11 2 S121) 11 2 S133) 11 2 S146) 11 2 S159) 11) (5 : Int32) p6 S172 hq172 _) (cwV 2 hts gX6_note_X3_put rfl rfl rfl (by decide +kernel) ⟨Nat.le_of_ble_eq_true rfl, Nat.le_of_ble_eq_true rfl⟩) ⟨k_blind, va_recv hK hP (ci := 2) (q0 := 11) rfl rfl, k_pre hPc hK hNn hDc⟩ rfl rfl hl.1 rfl (lv_room (Nat.le_of_ble_eq_true rfl)) dX6_note_172 ⟨Nat.le_of_ble_eq_true rfl, Nat.le_of_ble_eq_true rfl⟩) hS hF (fun H locs hP1 hk hS => ?_)
              have hP : va_P D vwCl (wX6 cs a (k_sp (k_sp (k_sp (k_sp (k_sp (k_sp (k_sp S_31 11 2 S97) 11 2 S109) 11 2 S121) 11 2 S133) 11 2 S146) 11 2 S159) 11 2 S172) L) _ := k_back hP hD [11, 12] [0, 1, 2, 3, 4, 5, 6, 7, 8, 9, 10, 13, 14, 15, 16, 17, 18, 19, 20, 21, 22, 23, 24, 25, 26, 27, 28, 29, 30, 31, 32, 33, 34, 35, 36, 37, 38, 39, 40, 41, 42, 43, 44, 45, 46, 47, 48, 49, 50, 51, 52, 53, 54, 55, 56, 57, 58, 59, 60, 61, 62, 63, 64, 65, 66, 67, 68, 69, 70, 71, 72, 73, 74, 75, 76, 77, 78] [0, 1, 2, 3, 4, 5, 6, 7, 8, 9, 10, 77, 78, 11, 12, 13, 14, 15, 16, 17, 18, 19, 20, 21, 22, 23, 24, 25, 26, 27, 28, 29, 30, 31, 32, 33, 34, 35, 36, 37, 38, 39, 40, 41, 42, 43, 44, 45, 46, 47, 48, 49, 50, 51, 52, 53, 54, 55, 56, 57, 58, 59, 60, 61, 62, 63, 64, 65, 66, 67, 68, 69, 70, 71, 72, 73, 74, 75, 76] (wcX6_X3_11 cs a (k_sp (k_sp (k_sp (k_sp (k_sp (k_sp S_31 11 2 S97) 11 2 S109) 11 2 S121) 11 2 S133) 11 2 S146) 11 2 S159) L) (by decide +kernel) hk hP1 (wbX6_X3_11_S0 cs a (k_sp (k_sp (k_sp (k_sp (k_sp (k_sp S_31 11 2 S97) 11 2 S109) 11 2 S121) 11 2 S133) 11 2 S146) 11 2 S159) L S172)
              have hD := hDA (k_sp (k_sp (k_sp (k_sp (k_sp (k_sp (k_sp S_31 11 2 S97) 11 2 S109) 11 2 S121) 11 2 S133) 11 2 S146) 11 2 S159) 11 2 S172) L
              refine lv_aload_n hx hb dX6_note_175 rfl (lv_at hl 1 rfl) ?_
              refine va_get (D := D) (ci := 4) (v := .ref (a 1)) (C := RX6) (T := TX6) (N := 12) hx hb hts (fun w h => List.mem_cons_of_mem _ (List.mem_append_left _ (List.mem_append_left _ (List.mem_append_right _ h)))) hown hK hP 0 rfl rfl 0 (by decide) (hts (.fieldLink RX6 12 "LeastNeed" "now" "LLeastNeed$Valley;") (List.mem_of_getElem? (i := 1) rfl)) (fun _ h9 => h9) rfl dX6_note_176 ?_
              refine va_get (D := D) (ci := 3) (v := .ref (a 11)) (C := RX5) (T := TX5) (N := 15) hx hb hts (fun w h => List.mem_cons_of_mem _ (List.mem_append_left _ (List.mem_append_right _ h))) hown hK hP 1 rfl rfl 9 (by decide) (hts (.fieldLink RX6 198 "LeastNeed$Valley" "notes" "LLeastNeed$Rows;") (List.mem_of_getElem? (i := 2) rfl)) (fun _ h9 => h9) rfl dX6_note_179 ?_
              refine va_get (D := D) (ci := 2) (v := .int ((k_sp (k_sp (k_sp (k_sp (k_sp (k_sp (k_sp S_31 11 2 S97) 11 2 S109) 11 2 S121) 11 2 S133) 11 2 S146) 11 2 S159) 11 2 S172) 11 3)) (C := RX3) (T := TX3) (N := 4) hx hb hts (fun w h => List.mem_cons_of_mem _ (List.mem_append_right _ h)) hown hK hP 11 rfl rfl 3 (by decide) (hts (.fieldLink RX6 150 "LeastNeed$Rows" "used" "I") (List.mem_of_getElem? (i := 3) rfl)) (fun _ h9 => h9) rfl dX6_note_182 ?_
              obtain ⟨e1, e2⟩ := dn_s2 hd
              exact k_iret hx hb hr hQ hAe e1 (by rw [e2]) hP hS hlocks dX6_note_185
            · have hd := dn_f c82 hd
              refine lv_aload_n hx hb dX6_note_85 rfl (lv_at hl 1 rfl) ?_
              obtain ⟨r86, S86, hq86, hd⟩ := dn_b2 hd
              have hF := k_self hD hS hA
              refine k_run_i (va_runV (As := []) (rest := []) ⟨hx, hb, hml, hown, hts⟩ (mX6_refusedAsFull l D cs a S_31 L r86 S86 hq86 _) (cwV 0 hts gX6_note_X6_refusedAsFull rfl rfl rfl (by decide +kernel) ⟨Nat.le_of_ble_eq_true rfl, Nat.le_of_ble_eq_true rfl⟩) ⟨k_blind, va_recv hK hP (ci := 4) (q0 := 0) rfl rfl, k_pre hP hK hNn hD⟩ rfl rfl hl.1 rfl (lv_room (Nat.le_of_ble_eq_true rfl)) dX6_note_86 ⟨Nat.le_of_ble_eq_true rfl, Nat.le_of_ble_eq_true rfl⟩) hS hF (fun H locs hP1 hk hS => ?_)
              have hP : va_P D vwCl (wX6 cs a S86 L) _ := hP1
              have hD := hDA S86 L
              obtain ⟨e1, e2⟩ := dn_s2 hd
              exact k_iret hx hb hr hQ hAe e1 (by rw [e2]) hP hS hlocks dX6_note_89
          · have hd := dn_t c64 hd
            exact Jo67 S_31 _ _ _ hd (lv_sub hl [1] rfl) hP hS
  have Jo30 : ∀ (S_30 : Nat → Nat → Int32) (H : Heap) (locs : List Loc) (ls : Array Slot), nX6_note_j30 p1 p2 p3 p4 p5 p6 S_30 L = some (r9, S9) → lv_has ls 8 [(0, .ref (a 0)), (1, .int p1), (2, .int p2), (3, .int p3), (4, .int p4), (5, .int p5), (6, .int p6)] → va_P D vwCl (wX6 cs a S_30 L) H → va_S A s.heap H locs → W p l e (headSpec wsX6_note ({ frames := 2, cells := 0, slots := 0, locals := 42 })).room s m ([.ref (a 0), .int p1, .int p2, .int p3, .int p4, .int p5, .int p6] : List Value).toArray below meth c H locs 0 0 Q (F0 m 30 ls []) := by
    intro S_30 H locs ls hd hl hP hS
    have hD := hDA S_30 L
    unfold nX6_note_j30 at hd
    refine lv_iconst (v := (0 : Int32)) hx hb dX6_note_30 (by decide) ?_
    exact Jo31 (0 : Int32) S_30 _ _ _ hd (lv_sub hl [0, 1, 2, 3, 4, 5, 6] rfl) hP hS
  unfold nX6_note at hd
  refine lv_aload_n hx hb dX6_note_0 rfl (lv_at hl 0 rfl) ?_
  refine lv_iload_n hx hb dX6_note_1 rfl (lv_at hl 1 rfl) ?_
  obtain ⟨r2, hq2, hd⟩ := dn_b1 hd
  have hF := k_self hD hS hA
  refine k_run_i (va_runV (As := [.int p1]) (rest := []) ⟨hx, hb, hml, hown, hts⟩ (mX6_isPerson l D cs a S L p1 r2 hq2 _) (cwV 1 hts gX6_note_X6_isPerson rfl rfl rfl (by decide +kernel) ⟨Nat.le_of_ble_eq_true rfl, Nat.le_of_ble_eq_true rfl⟩) ⟨k_blind, va_recv hK hP (ci := 4) (q0 := 0) rfl rfl, k_pre hP hK hNn hD⟩ rfl rfl hl.1 rfl (lv_room (Nat.le_of_ble_eq_true rfl)) dX6_note_2 ⟨Nat.le_of_ble_eq_true rfl, Nat.le_of_ble_eq_true rfl⟩) hS hF (fun H locs hP1 hk hS => ?_)
  have hP : va_P D vwCl (wX6 cs a S L) _ := hP1
  have hD := hDA S L
  refine lv_if_eq (tgt := 30) hx hb dX6_note_5 (by decide) (fun c5 => ?_) (fun c5 => ?_)
  · have hd := dn_t c5 hd
    exact Jo30 S _ _ _ hd (lv_sub hl [0, 1, 2, 3, 4, 5, 6] rfl) hP hS
  · have hd := dn_f c5 hd
    refine lv_iload_n hx hb dX6_note_8 rfl (lv_at hl 2 rfl) ?_
    refine lv_bipush (v := (10 : Int32)) hx hb dX6_note_9 (by decide) ?_
    obtain ⟨r11, hq11, hd⟩ := dn_b1 hd
    have hPc := k_P0 hP
    have hDc : va_D A ([] : va_W) := k_D0
    have hF := k_self hDc hS hA
    refine k_run_i (va_runS (As := [.int p2, .int (10 : Int32)]) (rest := []) ⟨hx, hb, hml, hown, hts⟩ (mX6_upTo l D cs  p2 (10 : Int32) r11 hq11 _) (va_cwS 2 hts gX6_note_X6_upTo rfl rfl rfl (by decide +kernel) ⟨Nat.le_of_ble_eq_true rfl, Nat.le_of_ble_eq_true rfl⟩) ⟨k_blind, k_pre hPc hK hNn hDc⟩ rfl rfl hl.1 rfl (lv_room (Nat.le_of_ble_eq_true rfl)) dX6_note_11 ⟨Nat.le_of_ble_eq_true rfl, Nat.le_of_ble_eq_true rfl⟩) hS hF (fun H locs hP1 hk hS => ?_)
    have hP : va_P D vwCl (wX6 cs a S L) _ := k_keep hP hk
    refine lv_if_eq (tgt := 30) hx hb dX6_note_14 (by decide) (fun c14 => ?_) (fun c14 => ?_)
    · have hd := dn_t c14 hd
      exact Jo30 S _ _ _ hd (lv_sub hl [0, 1, 2, 3, 4, 5, 6] rfl) hP hS
    · have hd := dn_f c14 hd
      refine lv_iload_n hx hb dX6_note_17 rfl (lv_at hl 3 rfl) ?_
      refine lv_bipush (v := (10 : Int32)) hx hb dX6_note_18 (by decide) ?_
      obtain ⟨r20, hq20, hd⟩ := dn_b1 hd
      have hPc := k_P0 hP
      have hDc : va_D A ([] : va_W) := k_D0
      have hF := k_self hDc hS hA
      refine k_run_i (va_runS (As := [.int p3, .int (10 : Int32)]) (rest := []) ⟨hx, hb, hml, hown, hts⟩ (mX6_upTo l D cs  p3 (10 : Int32) r20 hq20 _) (va_cwS 2 hts gX6_note_X6_upTo rfl rfl rfl (by decide +kernel) ⟨Nat.le_of_ble_eq_true rfl, Nat.le_of_ble_eq_true rfl⟩) ⟨k_blind, k_pre hPc hK hNn hDc⟩ rfl rfl hl.1 rfl (lv_room (Nat.le_of_ble_eq_true rfl)) dX6_note_20 ⟨Nat.le_of_ble_eq_true rfl, Nat.le_of_ble_eq_true rfl⟩) hS hF (fun H locs hP1 hk hS => ?_)
      have hP : va_P D vwCl (wX6 cs a S L) _ := k_keep hP hk
      refine lv_if_eq (tgt := 30) hx hb dX6_note_23 (by decide) (fun c23 => ?_) (fun c23 => ?_)
      · have hd := dn_t c23 hd
        exact Jo30 S _ _ _ hd (lv_sub hl [0, 1, 2, 3, 4, 5, 6] rfl) hP hS
      · have hd := dn_f c23 hd
        refine lv_iconst (v := (1 : Int32)) hx hb dX6_note_26 (by decide) ?_
        refine lv_goto (tgt := 31) hx hb dX6_note_27 (by decide) ?_
        exact Jo31 (1 : Int32) S _ _ _ hd (lv_sub hl [0, 1, 2, 3, 4, 5, 6] rfl) hP hS
