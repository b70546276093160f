theorem wsX6_a78 (cs : Nat → ClassId) (a : Nat → Nat) (S : Nat → Nat → Int32) (L : Nat → Nat → Int64) (k : Nat) (x : Int32) : List.set (wX6 cs a S L) 78 (a 78, .inl (cs 1, 36, .inl (upd (S 78) k x))) = (wX6 cs a (k_w S 78 k x) L) := rfl
set_option maxRecDepth 20000 in
theorem wbX6_X0_X5_70_1_L0 (cs : Nat → ClassId) (a : Nat → Nat) (S : Nat → Nat → Int32) (L : Nat → Nat → Int64) (VL0 : Nat → Nat → Int64) : ([0, 63, 64, 65, 66, 67, 68, 69, 70, 71, 72, 73, 74, 75, 76, 77, 78, 1, 2, 3, 4, 5, 6, 7, 8, 9, 10, 11, 12, 13, 14, 15, 16, 17, 18, 19, 20, 21, 22, 23, 24, 25, 26, 27, 28, 29, 30, 31, 32, 33, 34, 35, 36, 37, 38, 39, 40, 41, 42, 43, 44, 45, 46, 47, 48, 49, 50, 51, 52, 53, 58, 59, 60, 61, 62, 54, 55, 56, 57] : List Nat).map (fun i => (([0, 17, 18, 19, 20, 21, 22, 23, 24, 25, 26, 27, 28, 29, 30, 31, 32, 33, 34, 35, 36, 37, 38, 39, 40, 41, 42, 43, 44, 45, 46, 47, 48, 49, 50, 51, 52, 53, 54, 55, 56, 57, 58, 59, 60, 61, 62, 63, 64, 65, 66, 67, 68, 69, 75, 76, 77, 78] : List Nat).filterMap (fun i => (wX6 cs a S L)[i]?) ++ (wX0 cs (k_wi a 70) (k_wi S 70) VL0 ++ wX5 cs (k_wi a 1) (k_wi S 1)))[i]?) = (wX6 cs a S (k_sp L 70 5 VL0)).map some := (congrArg (fun z : va_W => ([0, 63, 64, 65, 66, 67, 68, 69, 70, 71, 72, 73, 74, 75, 76, 77, 78, 1, 2, 3, 4, 5, 6, 7, 8, 9, 10, 11, 12, 13, 14, 15, 16, 17, 18, 19, 20, 21, 22, 23, 24, 25, 26, 27, 28, 29, 30, 31, 32, 33, 34, 35, 36, 37, 38, 39, 40, 41, 42, 43, 44, 45, 46, 47, 48, 49, 50, 51, 52, 53, 58, 59, 60, 61, 62, 54, 55, 56, 57] : List Nat).map (fun i => (z ++ (wX0 cs (k_wi a 70) (k_wi S 70) VL0 ++ wX5 cs (k_wi a 1) (k_wi S 1)))[i]?)) (wrX6_X0_X5_70_1 cs a S L)).trans rfl
theorem wsX6_f0_10 (cs : Nat → ClassId) (a : Nat → Nat) (S : Nat → Nat → Int32) (L : Nat → Nat → Int64) (x : Int64) : List.set (wX6 cs a S L) 0 (a 0, .inr (4, ([.ref (a 1), .ref (a 17), .ref (a 65), .ref (a 66), .ref (a 67), .ref (a 70), .ref (a 75), .ref (a 76), .ref (a 77), .ref (a 78), .long (L 0 10), .long (L 0 11)] : List Value).set 10 (.long x))) = (wX6 cs a S (k_wl L 0 10 x)) := rfl
theorem wsX6_f0_11 (cs : Nat → ClassId) (a : Nat → Nat) (S : Nat → Nat → Int32) (L : Nat → Nat → Int64) (x : Int64) : List.set (wX6 cs a S L) 0 (a 0, .inr (4, ([.ref (a 1), .ref (a 17), .ref (a 65), .ref (a 66), .ref (a 67), .ref (a 70), .ref (a 75), .ref (a 76), .ref (a 77), .ref (a 78), .long (L 0 10), .long (L 0 11)] : List Value).set 11 (.long x))) = (wX6 cs a S (k_wl L 0 11 x)) := rfl
theorem wsX6_a26 (cs : Nat → ClassId) (a : Nat → Nat) (S : Nat → Nat → Int32) (L : Nat → Nat → Int64) (k : Nat) (x : Int32) : List.set (wX6 cs a S L) 26 (a 26, .inl (cs 1, 5, .inl (upd (S 26) k x))) = (wX6 cs a (k_w S 26 k x) L) := rfl
set_option maxRecDepth 20000 in
theorem wbX6_X5_17_S0 (cs : Nat → ClassId) (a : Nat → Nat) (S : Nat → Nat → Int32) (L : Nat → Nat → Int64) (VS0 : Nat → Nat → Int32) : ([0, 1, 2, 3, 4, 5, 6, 7, 8, 9, 10, 11, 12, 13, 14, 15, 16, 63, 64, 65, 66, 67, 68, 69, 70, 71, 72, 73, 74, 75, 76, 77, 78, 17, 18, 19, 20, 21, 22, 23, 24, 25, 26, 27, 28, 29, 30, 31, 32, 33, 34, 35, 36, 37, 38, 39, 40, 41, 42, 43, 44, 45, 46, 47, 48, 49, 50, 51, 52, 53, 54, 55, 56, 57, 58, 59, 60, 61, 62] : List Nat).map (fun i => (([0, 1, 2, 3, 4, 5, 6, 7, 8, 9, 10, 11, 12, 13, 14, 15, 16, 33, 34, 35, 36, 37, 38, 39, 40, 41, 42, 43, 44, 45, 46, 47, 48, 49, 50, 51, 52, 53, 54, 55, 56, 57, 58, 59, 60, 61, 62, 63, 64, 65, 66, 67, 68, 69, 70, 71, 72, 73, 74, 75, 76, 77, 78] : List Nat).filterMap (fun i => (wX6 cs a S L)[i]?) ++ (wX5 cs (k_wi a 17) VS0))[i]?) = (wX6 cs a (k_sp S 17 16 VS0) L).map some := (congrArg (fun z : va_W => ([0, 1, 2, 3, 4, 5, 6, 7, 8, 9, 10, 11, 12, 13, 14, 15, 16, 63, 64, 65, 66, 67, 68, 69, 70, 71, 72, 73, 74, 75, 76, 77, 78, 17, 18, 19, 20, 21, 22, 23, 24, 25, 26, 27, 28, 29, 30, 31, 32, 33, 34, 35, 36, 37, 38, 39, 40, 41, 42, 43, 44, 45, 46, 47, 48, 49, 50, 51, 52, 53, 54, 55, 56, 57, 58, 59, 60, 61, 62] : List Nat).map (fun i => (z ++ (wX5 cs (k_wi a 17) VS0))[i]?)) (wrX6_X5_17 cs a S L)).trans rfl
set_option maxRecDepth 20000 in
theorem wcX6_X5_X5_33_1 (cs : Nat → ClassId) (a : Nat → Nat) (S : Nat → Nat → Int32) (L : Nat → Nat → Int64) : ([33, 34, 35, 36, 37, 38, 39, 40, 41, 42, 43, 44, 45, 46, 47, 48, 1, 2, 3, 4, 5, 6, 7, 8, 9, 10, 11, 12, 13, 14, 15, 16] : List Nat).map (fun i => (wX6 cs a S L)[i]?) = (wX5 cs (k_wi a 33) (k_wi S 33) ++ wX5 cs (k_wi a 1) (k_wi S 1)).map some := rfl
set_option maxRecDepth 20000 in
theorem wrX6_X5_X5_33_1 (cs : Nat → ClassId) (a : Nat → Nat) (S : Nat → Nat → Int32) (L : Nat → Nat → Int64) : ([0, 17, 18, 19, 20, 21, 22, 23, 24, 25, 26, 27, 28, 29, 30, 31, 32, 49, 50, 51, 52, 53, 54, 55, 56, 57, 58, 59, 60, 61, 62, 63, 64, 65, 66, 67, 68, 69, 70, 71, 72, 73, 74, 75, 76, 77, 78] : List Nat).filterMap (fun i => (wX6 cs a S L)[i]?) = ([(a 0, .inr (4, [.ref (a 1), .ref (a 17), .ref (a 65), .ref (a 66), .ref (a 67), .ref (a 70), .ref (a 75), .ref (a 76), .ref (a 77), .ref (a 78), .long (L 0 10), .long (L 0 11)])), (a 17, .inr (3, [.ref (a 18), .ref (a 19), .ref (a 20), .ref (a 21), .ref (a 22), .ref (a 23), .ref (a 24), .ref (a 25), .ref (a 26), .ref (a 27), .ref (a 29), .ref (a 31), .int (S 17 12), .int (S 17 13), .int (S 17 14)])), (a 18, .inl (cs 1, 7, .inl (S 18))), (a 19, .inl (cs 1, 7, .inl (S 19))), (a 20, .inl (cs 1, 7, .inl (S 20))), (a 21, .inl (cs 1, 28, .inl (S 21))), (a 22, .inl (cs 1, 5, .inl (S 22))), (a 23, .inl (cs 1, 5, .inl (S 23))), (a 24, .inl (cs 1, 5, .inl (S 24))), (a 25, .inl (cs 1, 5, .inl (S 25))), (a 26, .inl (cs 1, 5, .inl (S 26))), (a 27, .inr (2, [.int 6, .int 6, .ref (a 28), .int (S 27 3)])), (a 28, .inl (cs 1, 36, .inl (S 28))), (a 29, .inr (2, [.int 4, .int 6, .ref (a 30), .int (S 29 3)])), (a 30, .inl (cs 1, 24, .inl (S 30))), (a 31, .inr (2, [.int 18, .int 8, .ref (a 32), .int (S 31 3)])), (a 32, .inl (cs 1, 144, .inl (S 32))), (a 49, .inr (3, [.ref (a 50), .ref (a 51), .ref (a 52), .ref (a 53), .ref (a 54), .ref (a 55), .ref (a 56), .ref (a 57), .ref (a 58), .ref (a 59), .ref (a 61), .ref (a 63), .int (S 49 12), .int (S 49 13), .int (S 49 14)])), (a 50, .inl (cs 1, 7, .inl (S 50))), (a 51, .inl (cs 1, 7, .inl (S 51))), (a 52, .inl (cs 1, 7, .inl (S 52))), (a 53, .inl (cs 1, 28, .inl (S 53))), (a 54, .inl (cs 1, 5, .inl (S 54))), (a 55, .inl (cs 1, 5, .inl (S 55))), (a 56, .inl (cs 1, 5, .inl (S 56))), (a 57, .inl (cs 1, 5, .inl (S 57))), (a 58, .inl (cs 1, 5, .inl (S 58))), (a 59, .inr (2, [.int 6, .int 6, .ref (a 60), .int (S 59 3)])), (a 60, .inl (cs 1, 36, .inl (S 60))), (a 61, .inr (2, [.int 4, .int 6, .ref (a 62), .int (S 61 3)])), (a 62, .inl (cs 1, 24, .inl (S 62))), (a 63, .inr (2, [.int 18, .int 8, .ref (a 64), .int (S 63 3)])), (a 64, .inl (cs 1, 144, .inl (S 64))), (a 65, .inl (cs 4, 2, .inr (.inr (.inr (.inr (fun j => if j = 0 then some (a 33) else if j = 1 then some (a 49) else none)))))), (a 66, .inl (cs 3, 2, .inl (S 66))), (a 67, .inr (1, [.ref (a 68), .ref (a 69), .int (S 67 2), .int (S 67 3), .int (S 67 4), .int (S 67 5)])), (a 68, .inl (cs 0, 150, .inl (S 68))), (a 69, .inl (cs 1, 6, .inl (S 69))), (a 70, .inr (0, [.ref (a 71), .ref (a 72), .ref (a 73), .ref (a 74), .int (S 70 4)])), (a 71, .inl (cs 2, 7, .inr (.inl (L 71)))), (a 72, .inl (cs 2, 7, .inr (.inl (L 72)))), (a 73, .inl (cs 2, 7, .inr (.inl (L 73)))), (a 74, .inl (cs 2, 7, .inr (.inl (L 74)))), (a 75, .inl (cs 1, 3, .inl (S 75))), (a 76, .inl (cs 1, 6, .inl (S 76))), (a 77, .inl (cs 1, 8, .inl (S 77))), (a 78, .inl (cs 1, 36, .inl (S 78)))] : va_W) := rfl
set_option maxRecDepth 20000 in
theorem wbX6_X5_X5_33_1_S0 (cs : Nat → ClassId) (a : Nat → Nat) (S : Nat → Nat → Int32) (L : Nat → Nat → Int64) (VS0 : Nat → Nat → Int32) : ([0, 63, 64, 65, 66, 67, 68, 69, 70, 71, 72, 73, 74, 75, 76, 77, 78, 1, 2, 3, 4, 5, 6, 7, 8, 9, 10, 11, 12, 13, 14, 15, 16, 47, 48, 49, 50, 51, 52, 53, 54, 55, 56, 57, 58, 59, 60, 61, 62, 17, 18, 19, 20, 21, 22, 23, 24, 25, 26, 27, 28, 29, 30, 31, 32, 33, 34, 35, 36, 37, 38, 39, 40, 41, 42, 43, 44, 45, 46] : List Nat).map (fun i => (([0, 17, 18, 19, 20, 21, 22, 23, 24, 25, 26, 27, 28, 29, 30, 31, 32, 49, 50, 51, 52, 53, 54, 55, 56, 57, 58, 59, 60, 61, 62, 63, 64, 65, 66, 67, 68, 69, 70, 71, 72, 73, 74, 75, 76, 77, 78] : List Nat).filterMap (fun i => (wX6 cs a S L)[i]?) ++ (wX5 cs (k_wi a 33) VS0 ++ wX5 cs (k_wi a 1) (k_wi S 1)))[i]?) = (wX6 cs a (k_sp S 33 16 VS0) L).map some := (congrArg (fun z : va_W => ([0, 63, 64, 65, 66, 67, 68, 69, 70, 71, 72, 73, 74, 75, 76, 77, 78, 1, 2, 3, 4, 5, 6, 7, 8, 9, 10, 11, 12, 13, 14, 15, 16, 47, 48, 49, 50, 51, 52, 53, 54, 55, 56, 57, 58, 59, 60, 61, 62, 17, 18, 19, 20, 21, 22, 23, 24, 25, 26, 27, 28, 29, 30, 31, 32, 33, 34, 35, 36, 37, 38, 39, 40, 41, 42, 43, 44, 45, 46] : List Nat).map (fun i => (z ++ (wX5 cs (k_wi a 33) VS0 ++ wX5 cs (k_wi a 1) (k_wi S 1)))[i]?)) (wrX6_X5_X5_33_1 cs a S L)).trans rfl
theorem wsX6_a66 (cs : Nat → ClassId) (a : Nat → Nat) (S : Nat → Nat → Int32) (L : Nat → Nat → Int64) (k : Nat) (x : Int32) : List.set (wX6 cs a S L) 66 (a 66, .inl (cs 3, 2, .inl (upd (S 66) k x))) = (wX6 cs a (k_w S 66 k x) L) := rfl
set_option maxRecDepth 20000 in
theorem wcX6_X5_X5_49_1 (cs : Nat → ClassId) (a : Nat → Nat) (S : Nat → Nat → Int32) (L : Nat → Nat → Int64) : ([49, 50, 51, 52, 53, 54, 55, 56, 57, 58, 59, 60, 61, 62, 63, 64, 1, 2, 3, 4, 5, 6, 7, 8, 9, 10, 11, 12, 13, 14, 15, 16] : List Nat).map (fun i => (wX6 cs a S L)[i]?) = (wX5 cs (k_wi a 49) (k_wi S 49) ++ wX5 cs (k_wi a 1) (k_wi S 1)).map some := rfl
set_option maxRecDepth 20000 in
theorem wrX6_X5_X5_49_1 (cs : Nat → ClassId) (a : Nat → Nat) (S : Nat → Nat → Int32) (L : Nat → Nat → Int64) : ([0, 17, 18, 19, 20, 21, 22, 23, 24, 25, 26, 27, 28, 29, 30, 31, 32, 33, 34, 35, 36, 37, 38, 39, 40, 41, 42, 43, 44, 45, 46, 47, 48, 65, 66, 67, 68, 69, 70, 71, 72, 73, 74, 75, 76, 77, 78] : List Nat).filterMap (fun i => (wX6 cs a S L)[i]?) = ([(a 0, .inr (4, [.ref (a 1), .ref (a 17), .ref (a 65), .ref (a 66), .ref (a 67), .ref (a 70), .ref (a 75), .ref (a 76), .ref (a 77), .ref (a 78), .long (L 0 10), .long (L 0 11)])), (a 17, .inr (3, [.ref (a 18), .ref (a 19), .ref (a 20), .ref (a 21), .ref (a 22), .ref (a 23), .ref (a 24), .ref (a 25), .ref (a 26), .ref (a 27), .ref (a 29), .ref (a 31), .int (S 17 12), .int (S 17 13), .int (S 17 14)])), (a 18, .inl (cs 1, 7, .inl (S 18))), (a 19, .inl (cs 1, 7, .inl (S 19))), (a 20, .inl (cs 1, 7, .inl (S 20))), (a 21, .inl (cs 1, 28, .inl (S 21))), (a 22, .inl (cs 1, 5, .inl (S 22))), (a 23, .inl (cs 1, 5, .inl (S 23))), (a 24, .inl (cs 1, 5, .inl (S 24))), (a 25, .inl (cs 1, 5, .inl (S 25))), (a 26, .inl (cs 1, 5, .inl (S 26))), (a 27, .inr (2, [.int 6, .int 6, .ref (a 28), .int (S 27 3)])), (a 28, .inl (cs 1, 36, .inl (S 28))), (a 29, .inr (2, [.int 4, .int 6, .ref (a 30), .int (S 29 3)])), (a 30, .inl (cs 1, 24, .inl (S 30))), (a 31, .inr (2, [.int 18, .int 8, .ref (a 32), .int (S 31 3)])), (a 32, .inl (cs 1, 144, .inl (S 32))), (a 33, .inr (3, [.ref (a 34), .ref (a 35), .ref (a 36), .ref (a 37), .ref (a 38), .ref (a 39), .ref (a 40), .ref (a 41), .ref (a 42), .ref (a 43), .ref (a 45), .ref (a 47), .int (S 33 12), .int (S 33 13), .int (S 33 14)])), (a 34, .inl (cs 1, 7, .inl (S 34))), (a 35, .inl (cs 1, 7, .inl (S 35))), (a 36, .inl (cs 1, 7, .inl (S 36))), (a 37, .inl (cs 1, 28, .inl (S 37))), (a 38, .inl (cs 1, 5, .inl (S 38))), (a 39, .inl (cs 1, 5, .inl (S 39))), (a 40, .inl (cs 1, 5, .inl (S 40))), (a 41, .inl (cs 1, 5, .inl (S 41))), (a 42, .inl (cs 1, 5, .inl (S 42))), (a 43, .inr (2, [.int 6, .int 6, .ref (a 44), .int (S 43 3)])), (a 44, .inl (cs 1, 36, .inl (S 44))), (a 45, .inr (2, [.int 4, .int 6, .ref (a 46), .int (S 45 3)])), (a 46, .inl (cs 1, 24, .inl (S 46))), (a 47, .inr (2, [.int 18, .int 8, .ref (a 48), .int (S 47 3)])), (a 48, .inl (cs 1, 144, .inl (S 48))), (a 65, .inl (cs 4, 2, .inr (.inr (.inr (.inr (fun j => if j = 0 then some (a 33) else if j = 1 then some (a 49) else none)))))), (a 66, .inl (cs 3, 2, .inl (S 66))), (a 67, .inr (1, [.ref (a 68), .ref (a 69), .int (S 67 2), .int (S 67 3), .int (S 67 4), .int (S 67 5)])), (a 68, .inl (cs 0, 150, .inl (S 68))), (a 69, .inl (cs 1, 6, .inl (S 69))), (a 70, .inr (0, [.ref (a 71), .ref (a 72), .ref (a 73), .ref (a 74), .int (S 70 4)])), (a 71, .inl (cs 2, 7, .inr (.inl (L 71)))), (a 72, .inl (cs 2, 7, .inr (.inl (L 72)))), (a 73, .inl (cs 2, 7, .inr (.inl (L 73)))), (a 74, .inl (cs 2, 7, .inr (.inl (L 74)))), (a 75, .inl (cs 1, 3, .inl (S 75))), (a 76, .inl (cs 1, 6, .inl (S 76))), (a 77, .inl (cs 1, 8, .inl (S 77))), (a 78, .inl (cs 1, 36, .inl (S 78)))] : va_W) := rfl
set_option maxRecDepth 20000 in
theorem wbX6_X5_X5_49_1_S0 (cs : Nat → ClassId) (a : Nat → Nat) (S : Nat → Nat → Int32) (L : Nat → Nat → Int64) (VS0 : Nat → Nat → Int32) : ([0, 63, 64, 65, 66, 67, 68, 69, 70, 71, 72, 73, 74, 75, 76, 77, 78, 1, 2, 3, 4, 5, 6, 7, 8, 9, 10, 11, 12, 13, 14, 15, 16, 17, 18, 19, 20, 21, 22, 23, 24, 25, 26, 27, 28, 29, 30, 31, 32, 47, 48, 49, 50, 51, 52, 53, 54, 55, 56, 57, 58, 59, 60, 61, 62, 33, 34, 35, 36, 37, 38, 39, 40, 41, 42, 43, 44, 45, 46] : List Nat).map (fun i => (([0, 17, 18, 19, 20, 21, 22, 23, 24, 25, 26, 27, 28, 29, 30, 31, 32, 33, 34, 35, 36, 37, 38, 39, 40, 41, 42, 43, 44, 45, 46, 47, 48, 65, 66, 67, 68, 69, 70, 71, 72, 73, 74, 75, 76, 77, 78] : List Nat).filterMap (fun i => (wX6 cs a S L)[i]?) ++ (wX5 cs (k_wi a 49) VS0 ++ wX5 cs (k_wi a 1) (k_wi S 1)))[i]?) = (wX6 cs a (k_sp S 49 16 VS0) L).map some := (congrArg (fun z : va_W => ([0, 63, 64, 65, 66, 67, 68, 69, 70, 71, 72, 73, 74, 75, 76, 77, 78, 1, 2, 3, 4, 5, 6, 7, 8, 9, 10, 11, 12, 13, 14, 15, 16, 17, 18, 19, 20, 21, 22, 23, 24, 25, 26, 27, 28, 29, 30, 31, 32, 47, 48, 49, 50, 51, 52, 53, 54, 55, 56, 57, 58, 59, 60, 61, 62, 33, 34, 35, 36, 37, 38, 39, 40, 41, 42, 43, 44, 45, 46] : List Nat).map (fun i => (z ++ (wX5 cs (k_wi a 49) VS0 ++ wX5 cs (k_wi a 1) (k_wi S 1)))[i]?)) (wrX6_X5_X5_49_1 cs a S L)).trans rfl
-- LeastNeed.seeWhoGetsIt(III)V
set_option maxHeartbeats 4000000 in
set_option maxRecDepth 100000 in
theorem mX6_seeWhoGetsIt (l : Launch) (D : va_G) (cs : Nat → ClassId) (a : Nat → Nat) (S : Nat → Nat → Int32) (L : Nat → Nat → Int64) (p1 : Int32) (p2 : Int32) (p3 : Int32) (S9 : (Nat → Nat → Int32)) (hd : nX6_seeWhoGetsIt S L p1 p2 p3 = some S9) : ∀ sz : Nat, Met l yX6_seeWhoGetsIt wsX6_seeWhoGetsIt ({ frames := 4, cells := 0, slots := 0, locals := 106 }) (k_Pc D cs [.ref (a 0), .int p1, .int p2, .int p3] (wX6 cs a S L) sz) (k_Qv D (wX6 cs a S L) (wX6 cs a S9 L) sz) 0 0 (va_A (wX6 cs a S L) sz) := by
  intro sz
  refine Met.ofW (cc := cX6_seeWhoGetsIt) (maxL := 5) (ret := none) (by decide) rfl ?_
  intro p e s m args below meth c s₁ B hml hv
  obtain ⟨rfl, hsz, hP, hK, hD0, hNn⟩ := hv
  have hx := B.exec
  have hb := B.bytes
  have hr := B.returns
  have hts := atoms_spec (ws := wsX6_seeWhoGetsIt) B.pre
  have hown : s.vm.findClass RX6 = some m.cls := findClass_of_methodNamed B.named
  have hlocks := B.notSynchronized
  subst hsz
  obtain ⟨A, hAe⟩ : ∃ A : Nat → Prop, A = va_A (wX6 cs a S L) s.heap.size := ⟨_, rfl⟩
  have hD : va_D A (wX6 cs a S L) := by rw [hAe]; exact hD0.self
  have hA : ∀ q : Nat, s.heap.size ≤ q → A q := fun q h => by rw [hAe]; exact Or.inr h
  have hS : va_S A s.heap s.heap [] := va_S.rf
  have hDA : ∀ (S : Nat → Nat → Int32) (L : Nat → Nat → Int64), va_D A (wX6 cs a S L) := fun S L => k_DA hD rfl
  have hl := lv_entry ([.ref (a 0), .int p1, .int p2, .int p3]) (n := 5) (Nat.le_of_ble_eq_true rfl)
  rw [lg_entry_eq]
  generalize (lg_sl ([.ref (a 0), .int p1, .int p2, .int p3]) ++ List.replicate (5 - (lg_sl ([.ref (a 0), .int p1, .int p2, .int p3])).length) Slot.unset).toArray = ls at hl ⊢
  have hl : lv_has ls 5 [(0, .ref (a 0)), (1, .int p1), (2, .int p2), (3, .int p3)] := hl
  obtain ⟨Q, hQ⟩ : ∃ Q, Q = MQ below (k_Qv D (wX6 cs a S L) (wX6 cs a S9 L) s.heap.size) ([.ref (a 0), .int p1, .int p2, .int p3] : List Value).toArray s 0 0 (va_A (wX6 cs a S L) s.heap.size) := ⟨_, rfl⟩
  rw [← hQ]
  have Lo14 : ∀ (n1 : Nat) (x4_14 : Int32) (S_14 : Nat → Nat → Int32) (H : Heap) (locs : List Loc) (ls : Array Slot), k_it (fun st => nX6_seeWhoGetsIt_l14 p1 p2 p3 st.1 st.2 L) n1 (x4_14, S_14) = some S9 → lv_has ls 5 [(0, .ref (a 0)), (1, .int p1), (2, .int p2), (3, .int p3), (4, .int x4_14)] → va_P D vwCl (wX6 cs a S_14 L) H → va_S A s.heap H locs → W p l e (headSpec wsX6_seeWhoGetsIt ({ frames := 4, cells := 0, slots := 0, locals := 106 })).room s m ([.ref (a 0), .int p1, .int p2, .int p3] : List Value).toArray below meth c H locs 0 0 Q (F0 m 14 ls []) := by
    intro n1
    induction n1 with
    | zero => intro x4_14 S_14 H locs ls hd; exact dn_it0 hd
    | succ n1 ih1 =>
      intro x4_14 S_14 H locs ls hd hl hP hS
      have hD := hDA S_14 L
      obtain ⟨y1, hd, hy1⟩ := dn_it hd
      have hd : nX6_seeWhoGetsIt_l14 p1 p2 p3 x4_14 S_14 L = some y1 := hd
      unfold nX6_seeWhoGetsIt_l14 at hd
      refine lv_iload hx hb dX6_seeWhoGetsIt_14 (lv_at hl 4 rfl) ?_
      refine lv_bipush (v := (36 : Int32)) hx hb dX6_seeWhoGetsIt_16 (by decide) ?_
      refine lv_icmp_ge (tgt := 79) hx hb dX6_seeWhoGetsIt_18 (by decide) (fun c18 => ?_) (fun c18 => ?_)
      · have hd := dn_t c18 hd
        have hd := dn_up hd hy1
        have e1 := dn_s1 hd
        exact k_vret hx hb hr hQ hAe (by rw [e1]) hP hS hlocks dX6_seeWhoGetsIt_79
      · have hd := dn_f c18 hd
        refine lv_aload_n hx hb dX6_seeWhoGetsIt_21 rfl (lv_at hl 0 rfl) ?_
        refine va_get (D := D) (ci := 4) (v := .ref (a 17)) (C := RX6) (T := TX6) (N := 12) hx hb hts (fun w h => List.mem_cons_of_mem _ (List.mem_append_left _ (List.mem_append_left _ (List.mem_append_right _ h)))) hown hK hP 0 rfl rfl 1 (by decide) (hts (.fieldLink RX6 16 "LeastNeed" "trial" "LLeastNeed$Valley;") (List.mem_of_getElem? (i := 1) rfl)) (fun _ h9 => h9) rfl dX6_seeWhoGetsIt_22 ?_
        refine va_get (D := D) (ci := 3) (v := .ref (a 20)) (C := RX5) (T := TX5) (N := 15) hx hb hts (fun w h => List.mem_cons_of_mem _ (List.mem_append_left _ (List.mem_append_right _ h))) hown hK hP 17 rfl rfl 2 (by decide) (hts (.fieldLink RX6 134 "LeastNeed$Valley" "worn" "[I") (List.mem_of_getElem? (i := 3) rfl)) (fun _ h9 => h9) rfl dX6_seeWhoGetsIt_25 ?_
        refine lv_iload_n hx hb dX6_seeWhoGetsIt_28 rfl (lv_at hl 2 rfl) ?_
        refine lv_iload hx hb dX6_seeWhoGetsIt_29 (lv_at hl 4 rfl) ?_
        refine lv_bipush (v := (6 : Int32)) hx hb dX6_seeWhoGetsIt_31 (by decide) ?_
        refine lv_idiv hx hb dX6_seeWhoGetsIt_33 (by decide) ?_
        obtain ⟨hi34, hd⟩ := dn_i hd
        refine k_iast (D := D) (k := p2.toNatClampNeg) (by rfl) hx hb hK hP hD hS 20 1 rfl rfl hi34 dX6_seeWhoGetsIt_34 (fun H locs hP hD hS => ?_)
        have hP : va_P D vwCl (wX6 cs a (k_w S_14 20 p2.toNatClampNeg (x4_14 / (6 : Int32))) L) _ := k_eq hP (wsX6_a20 cs a S_14 L p2.toNatClampNeg (x4_14 / (6 : Int32)))
        have hD := hDA (k_w S_14 20 p2.toNatClampNeg (x4_14 / (6 : Int32))) L
        refine lv_aload_n hx hb dX6_seeWhoGetsIt_35 rfl (lv_at hl 0 rfl) ?_
        refine va_get (D := D) (ci := 4) (v := .ref (a 17)) (C := RX6) (T := TX6) (N := 12) hx hb hts (fun w h => List.mem_cons_of_mem _ (List.mem_append_left _ (List.mem_append_left _ (List.mem_append_right _ h)))) hown hK hP 0 rfl rfl 1 (by decide) (hts (.fieldLink RX6 16 "LeastNeed" "trial" "LLeastNeed$Valley;") (List.mem_of_getElem? (i := 1) rfl)) (fun _ h9 => h9) rfl dX6_seeWhoGetsIt_36 ?_
        refine va_get (D := D) (ci := 3) (v := .ref (a 20)) (C := RX5) (T := TX5) (N := 15) hx hb hts (fun w h => List.mem_cons_of_mem _ (List.mem_append_left _ (List.mem_append_right _ h))) hown hK hP 17 rfl rfl 2 (by decide) (hts (.fieldLink RX6 134 "LeastNeed$Valley" "worn" "[I") (List.mem_of_getElem? (i := 3) rfl)) (fun _ h9 => h9) rfl dX6_seeWhoGetsIt_39 ?_
        refine lv_iload_n hx hb dX6_seeWhoGetsIt_42 rfl (lv_at hl 3 rfl) ?_
        refine lv_iload hx hb dX6_seeWhoGetsIt_43 (lv_at hl 4 rfl) ?_
        refine lv_bipush (v := (6 : Int32)) hx hb dX6_seeWhoGetsIt_45 (by decide) ?_
        refine lv_irem hx hb dX6_seeWhoGetsIt_47 (by decide) ?_
        obtain ⟨hi48, hd⟩ := dn_i hd
        refine k_iast (D := D) (k := p3.toNatClampNeg) (by rfl) hx hb hK hP hD hS 20 1 rfl rfl hi48 dX6_seeWhoGetsIt_48 (fun H locs hP hD hS => ?_)
        have hP : va_P D vwCl (wX6 cs a (k_w (k_w S_14 20 p2.toNatClampNeg (x4_14 / (6 : Int32))) 20 p3.toNatClampNeg (x4_14 - x4_14 / (6 : Int32) * (6 : Int32))) L) _ := k_eq hP (wsX6_a20 cs a (k_w S_14 20 p2.toNatClampNeg (x4_14 / (6 : Int32))) L p3.toNatClampNeg (x4_14 - x4_14 / (6 : Int32) * (6 : Int32)))
        have hD := hDA (k_w (k_w S_14 20 p2.toNatClampNeg (x4_14 / (6 : Int32))) 20 p3.toNatClampNeg (x4_14 - x4_14 / (6 : Int32) * (6 : Int32))) L
        refine lv_aload_n hx hb dX6_seeWhoGetsIt_49 rfl (lv_at hl 0 rfl) ?_
        refine va_get (D := D) (ci := 4) (v := .ref (a 78)) (C := RX6) (T := TX6) (N := 12) hx hb hts (fun w h => List.mem_cons_of_mem _ (List.mem_append_left _ (List.mem_append_left _ (List.mem_append_right _ h)))) hown hK hP 0 rfl rfl 9 (by decide) (hts (.fieldLink RX6 51 "LeastNeed" "goals" "[I") (List.mem_of_getElem? (i := 4) rfl)) (fun _ h9 => h9) rfl dX6_seeWhoGetsIt_50 ?_
        refine lv_iload hx hb dX6_seeWhoGetsIt_53 (lv_at hl 4 rfl) ?_
        refine lv_aload_n hx hb dX6_seeWhoGetsIt_55 rfl (lv_at hl 0 rfl) ?_
        refine va_get (D := D) (ci := 4) (v := .ref (a 17)) (C := RX6) (T := TX6) (N := 12) hx hb hts (fun w h => List.mem_cons_of_mem _ (List.mem_append_left _ (List.mem_append_left _ (List.mem_append_right _ h)))) hown hK hP 0 rfl rfl 1 (by decide) (hts (.fieldLink RX6 16 "LeastNeed" "trial" "LLeastNeed$Valley;") (List.mem_of_getElem? (i := 1) rfl)) (fun _ h9 => h9) rfl dX6_seeWhoGetsIt_56 ?_
        refine lv_iload_n hx hb dX6_seeWhoGetsIt_59 rfl (lv_at hl 1 rfl) ?_
        refine lv_aload_n hx hb dX6_seeWhoGetsIt_60 rfl (lv_at hl 0 rfl) ?_
        refine va_get (D := D) (ci := 4) (v := .ref (a 17)) (C := RX6) (T := TX6) (N := 12) hx hb hts (fun w h => List.mem_cons_of_mem _ (List.mem_append_left _ (List.mem_append_left _ (List.mem_append_right _ h)))) hown hK hP 0 rfl rfl 1 (by decide) (hts (.fieldLink RX6 16 "LeastNeed" "trial" "LLeastNeed$Valley;") (List.mem_of_getElem? (i := 1) rfl)) (fun _ h9 => h9) rfl dX6_seeWhoGetsIt_61 ?_
        refine va_get (D := D) (ci := 3) (v := .ref (a 25)) (C := RX5) (T := TX5) (N := 15) hx hb hts (fun w h => List.mem_cons_of_mem _ (List.mem_append_left _ (List.mem_append_right _ h))) hown hK hP 17 rfl rfl 7 (by decide) (hts (.fieldLink RX6 121 "LeastNeed$Valley" "holder" "[I") (List.mem_of_getElem? (i := 5) rfl)) (fun _ h9 => h9) rfl dX6_seeWhoGetsIt_64 ?_
        refine lv_iload_n hx hb dX6_seeWhoGetsIt_67 rfl (lv_at hl 1 rfl) ?_
        obtain ⟨hi68, hd⟩ := dn_i hd
        refine k_iald (D := D) (k := p1.toNatClampNeg) (by rfl) hx hb hK hP 25 1 rfl rfl hi68 dX6_seeWhoGetsIt_68 ?_
        obtain ⟨r69, hq69, hd⟩ := dn_b1 hd
        have hPc : va_P D vwCl (wX5 cs (k_wi a 17) (k_wi (k_w (k_w S_14 20 p2.toNatClampNeg (x4_14 / (6 : Int32))) 20 p3.toNatClampNeg (x4_14 - x4_14 / (6 : Int32) * (6 : Int32))) 17)) _ := k_sub hP [17, 18, 19, 20, 21, 22, 23, 24, 25, 26, 27, 28, 29, 30, 31, 32] (wcX6_X5_17 cs a (k_w (k_w S_14 20 p2.toNatClampNeg (x4_14 / (6 : Int32))) 20 p3.toNatClampNeg (x4_14 - x4_14 / (6 : Int32) * (6 : Int32))) L)
        have hDc : va_D A (wX5 cs (k_wi a 17) (k_wi (k_w (k_w S_14 20 p2.toNatClampNeg (x4_14 / (6 : Int32))) 20 p3.toNatClampNeg (x4_14 - x4_14 / (6 : Int32) * (6 : Int32))) 17)) := hD.sub [17, 18, 19, 20, 21, 22, 23, 24, 25, 26, 27, 28, 29, 30, 31, 32] (by decide +kernel) (wcX6_X5_17 cs a (k_w (k_w S_14 20 p2.toNatClampNeg (x4_14 / (6 : Int32))) 20 p3.toNatClampNeg (x4_14 - x4_14 / (6 : Int32) * (6 : Int32))) L)
        have hF := k_self hDc hS hA
        refine k_run_i (va_runV (As := [.int p1, .int ((k_w (k_w S_14 20 p2.toNatClampNeg (x4_14 / (6 : Int32))) 20 p3.toNatClampNeg (x4_14 - x4_14 / (6 : Int32) * (6 : Int32))) 25 p1.toNatClampNeg)]) (rest := [.int x4_14, .ref (a 78)]) ⟨hx, hb, hml, hown, hts⟩ (mX5_nextOf l D cs (k_wi a 17) (k_wi (k_w (k_w S_14 20 p2.toNatClampNeg (x4_14 / (6 : Int32))) 20 p3.toNatClampNeg (x4_14 - x4_14 / (6 : Int32) * (6 : Int32))) 17) p1 ((k_w (k_w S_14 20 p2.toNatClampNeg (x4_14 / (6 : Int32))) 20 p3.toNatClampNeg (x4_14 - x4_14 / (6 : Int32) * (6 : Int32))) 25 p1.toNatClampNeg) r69 hq69 _) (cwV 2 hts gX6_seeWhoGetsIt_X5_nextOf rfl rfl rfl (by decide +kernel) ⟨Nat.le_of_ble_eq_true rfl, Nat.le_of_ble_eq_true rfl⟩) ⟨k_blind, va_recv hK hP (ci := 3) (q0 := 17) rfl rfl, k_pre hPc hK hNn hDc⟩ rfl rfl hl.1 rfl (lv_room (Nat.le_of_ble_eq_true rfl)) dX6_seeWhoGetsIt_69 ⟨Nat.le_of_ble_eq_true rfl, Nat.le_of_ble_eq_true rfl⟩) hS hF (fun H locs hP1 hk hS => ?_)
        have hP : va_P D vwCl (wX6 cs a (k_w (k_w S_14 20 p2.toNatClampNeg (x4_14 / (6 : Int32))) 20 p3.toNatClampNeg (x4_14 - x4_14 / (6 : Int32) * (6 : Int32))) L) _ := k_back hP hD [17, 18, 19, 20, 21, 22, 23, 24, 25, 26, 27, 28, 29, 30, 31, 32] [0, 1, 2, 3, 4, 5, 6, 7, 8, 9, 10, 11, 12, 13, 14, 15, 16, 33, 34, 35, 36, 37, 38, 39, 40, 41, 42, 43, 44, 45, 46, 47, 48, 49, 50, 51, 52, 53, 54, 55, 56, 57, 58, 59, 60, 61, 62, 63, 64, 65, 66, 67, 68, 69, 70, 71, 72, 73, 74, 75, 76, 77, 78] [0, 1, 2, 3, 4, 5, 6, 7, 8, 9, 10, 11, 12, 13, 14, 15, 16, 63, 64, 65, 66, 67, 68, 69, 70, 71, 72, 73, 74, 75, 76, 77, 78, 17, 18, 19, 20, 21, 22, 23, 24, 25, 26, 27, 28, 29, 30, 31, 32, 33, 34, 35, 36, 37, 38, 39, 40, 41, 42, 43, 44, 45, 46, 47, 48, 49, 50, 51, 52, 53, 54, 55, 56, 57, 58, 59, 60, 61, 62] (wcX6_X5_17 cs a (k_w (k_w S_14 20 p2.toNatClampNeg (x4_14 / (6 : Int32))) 20 p3.toNatClampNeg (x4_14 - x4_14 / (6 : Int32) * (6 : Int32))) L) (by decide +kernel) hk hP1 (wbX6_X5_17 cs a (k_w (k_w S_14 20 p2.toNatClampNeg (x4_14 / (6 : Int32))) 20 p3.toNatClampNeg (x4_14 - x4_14 / (6 : Int32) * (6 : Int32))) L)
        have hD := hDA (k_w (k_w S_14 20 p2.toNatClampNeg (x4_14 / (6 : Int32))) 20 p3.toNatClampNeg (x4_14 - x4_14 / (6 : Int32) * (6 : Int32))) L
        obtain ⟨hi72, hd⟩ := dn_i hd
        refine k_iast (D := D) (k := x4_14.toNatClampNeg) (by rfl) hx hb hK hP hD hS 78 1 rfl rfl hi72 dX6_seeWhoGetsIt_72 (fun H locs hP hD hS => ?_)
        have hP : va_P D vwCl (wX6 cs a (k_w (k_w (k_w S_14 20 p2.toNatClampNeg (x4_14 / (6 : Int32))) 20 p3.toNatClampNeg (x4_14 - x4_14 / (6 : Int32) * (6 : Int32))) 78 x4_14.toNatClampNeg r69) L) _ := k_eq hP (wsX6_a78 cs a (k_w (k_w S_14 20 p2.toNatClampNeg (x4_14 / (6 : Int32))) 20 p3.toNatClampNeg (x4_14 - x4_14 / (6 : Int32) * (6 : Int32))) L x4_14.toNatClampNeg r69)
        have hD := hDA (k_w (k_w (k_w S_14 20 p2.toNatClampNeg (x4_14 / (6 : Int32))) 20 p3.toNatClampNeg (x4_14 - x4_14 / (6 : Int32) * (6 : Int32))) 78 x4_14.toNatClampNeg r69) L
        refine lv_iinc (v := x4_14 + (1 : Int32)) (lv' := [(4, .int (x4_14 + (1 : Int32))), (0, .ref (a 0)), (1, .int p1), (2, .int p2), (3, .int p3)]) hx hb dX6_seeWhoGetsIt_73 hl (k := 4) rfl rfl (by decide) rfl (fun ls hl => ?_)
        refine lv_goto (tgt := 14) hx hb dX6_seeWhoGetsIt_76 (by decide) ?_
        exact ih1 (x4_14 + (1 : Int32)) (k_w (k_w (k_w S_14 20 p2.toNatClampNeg (x4_14 / (6 : Int32))) 20 p3.toNatClampNeg (x4_14 - x4_14 / (6 : Int32) * (6 : Int32))) 78 x4_14.toNatClampNeg r69) _ _ _ (dn_bk hd hy1) (lv_sub hl [1, 2, 3, 4, 0] rfl) hP hS
  unfold nX6_seeWhoGetsIt at hd
  refine lv_aload_n hx hb dX6_seeWhoGetsIt_0 rfl (lv_at hl 0 rfl) ?_
  refine va_get (D := D) (ci := 4) (v := .ref (a 17)) (C := RX6) (T := TX6) (N := 12) hx hb hts (fun w h => List.mem_cons_of_mem _ (List.mem_append_left _ (List.mem_append_left _ (List.mem_append_right _ h)))) hown hK hP 0 rfl rfl 1 (by decide) (hts (.fieldLink RX6 16 "LeastNeed" "trial" "LLeastNeed$Valley;") (List.mem_of_getElem? (i := 1) rfl)) (fun _ h9 => h9) rfl dX6_seeWhoGetsIt_1 ?_
  refine lv_aload_n hx hb dX6_seeWhoGetsIt_4 rfl (lv_at hl 0 rfl) ?_
  refine va_get (D := D) (ci := 4) (v := .ref (a 1)) (C := RX6) (T := TX6) (N := 12) hx hb hts (fun w h => List.mem_cons_of_mem _ (List.mem_append_left _ (List.mem_append_left _ (List.mem_append_right _ h)))) hown hK hP 0 rfl rfl 0 (by decide) (hts (.fieldLink RX6 12 "LeastNeed" "now" "LLeastNeed$Valley;") (List.mem_of_getElem? (i := 2) rfl)) (fun _ h9 => h9) rfl dX6_seeWhoGetsIt_5 ?_
  obtain ⟨S8, hq8, hd⟩ := dn_b1 hd
  have hPc : va_P D vwCl (wX5 cs (k_wi a 17) (k_wi S 17) ++ wX5 cs (k_wi a 1) (k_wi S 1)) _ := k_sub hP [17, 18, 19, 20, 21, 22, 23, 24, 25, 26, 27, 28, 29, 30, 31, 32, 1, 2, 3, 4, 5, 6, 7, 8, 9, 10, 11, 12, 13, 14, 15, 16] (wcX6_X5_X5_17_1 cs a S L)
  have hDc : va_D A (wX5 cs (k_wi a 17) (k_wi S 17) ++ wX5 cs (k_wi a 1) (k_wi S 1)) := hD.sub [17, 18, 19, 20, 21, 22, 23, 24, 25, 26, 27, 28, 29, 30, 31, 32, 1, 2, 3, 4, 5, 6, 7, 8, 9, 10, 11, 12, 13, 14, 15, 16] (by decide +kernel) (wcX6_X5_X5_17_1 cs a S L)
  have hF := k_self hDc hS hA
  refine k_run_v (va_runV (As := [.ref (a 1)]) (rest := []) ⟨hx, hb, hml, hown, hts⟩ (mX5_copyOf l D cs (k_wi a 17) (k_wi a 1) (k_wi S 17) (k_wi S 1) S8 hq8 _) (cwV 1 hts gX6_seeWhoGetsIt_X5_copyOf rfl rfl rfl (by decide +kernel) ⟨Nat.le_of_ble_eq_true rfl, Nat.le_of_ble_eq_true rfl⟩) ⟨k_blind, va_recv hK hP (ci := 3) (q0 := 17) rfl rfl, k_pre hPc hK hNn hDc⟩ rfl rfl hl.1 rfl (lv_room (Nat.le_of_ble_eq_true rfl)) dX6_seeWhoGetsIt_8 ⟨Nat.le_of_ble_eq_true rfl, Nat.le_of_ble_eq_true rfl⟩) hS hF (fun H locs hP1 hk hS => ?_)
  have hP : va_P D vwCl (wX6 cs a (k_sp S 17 16 S8) L) _ := k_back hP hD [17, 18, 19, 20, 21, 22, 23, 24, 25, 26, 27, 28, 29, 30, 31, 32, 1, 2, 3, 4, 5, 6, 7, 8, 9, 10, 11, 12, 13, 14, 15, 16] [0, 33, 34, 35, 36, 37, 38, 39, 40, 41, 42, 43, 44, 45, 46, 47, 48, 49, 50, 51, 52, 53, 54, 55, 56, 57, 58, 59, 60, 61, 62, 63, 64, 65, 66, 67, 68, 69, 70, 71, 72, 73, 74, 75, 76, 77, 78] [0, 63, 64, 65, 66, 67, 68, 69, 70, 71, 72, 73, 74, 75, 76, 77, 78, 47, 48, 49, 50, 51, 52, 53, 54, 55, 56, 57, 58, 59, 60, 61, 62, 1, 2, 3, 4, 5, 6, 7, 8, 9, 10, 11, 12, 13, 14, 15, 16, 17, 18, 19, 20, 21, 22, 23, 24, 25, 26, 27, 28, 29, 30, 31, 32, 33, 34, 35, 36, 37, 38, 39, 40, 41, 42, 43, 44, 45, 46] (wcX6_X5_X5_17_1 cs a S L) (by decide +kernel) hk hP1 (wbX6_X5_X5_17_1_S0 cs a S L S8)
  have hD := hDA (k_sp S 17 16 S8) L
  refine lv_iconst (v := (0 : Int32)) hx hb dX6_seeWhoGetsIt_11 (by decide) ?_
  refine lv_istore (lv' := [(4, .int (0 : Int32)), (0, .ref (a 0)), (1, .int p1), (2, .int p2), (3, .int p3)]) hx hb dX6_seeWhoGetsIt_12 hl (by decide) rfl (fun ls hl => ?_)
  exact Lo14 1000 (0 : Int32) (k_sp S 17 16 S8) _ _ _ hd (lv_sub hl [1, 2, 3, 4, 0] rfl) hP hS
-- LeastNeed.pay(III)I
set_option maxHeartbeats 4000000 in
set_option maxRecDepth 100000 in
theorem mX6_pay (l : Launch) (D : va_G) (cs : Nat → ClassId) (a : Nat → Nat) (S : Nat → Nat → Int32) (L : Nat → Nat → Int64) (p1 : Int32) (p2 : Int32) (p3 : Int32) (r9 : Int32) (hd : nX6_pay S L p1 p2 p3 = some r9) : ∀ sz : Nat, Met l yX6_pay wsX6_pay ({ frames := 0, cells := 0, slots := 0, locals := 0 }) (k_Pc D cs [.ref (a 0), .int p1, .int p2, .int p3] (wX6 cs a S L) sz) (k_Qi D r9 (wX6 cs a S L) (wX6 cs a S L) sz) 0 0 (va_A (wX6 cs a S L) sz) := by
  intro sz
  refine Met.ofW (cc := cX6_pay) (maxL := 4) (ret := (some .int)) (by decide) rfl ?_
  intro p e s m args below meth c s₁ B hml hv
  obtain ⟨rfl, hsz, hP, hK, hD0, hNn⟩ := hv
  have hx := B.exec
  have hb := B.bytes
  have hr := B.returns
  have hts := atoms_spec (ws := wsX6_pay) B.pre
  have hown : s.vm.findClass RX6 = some m.cls := findClass_of_methodNamed B.named
  have hlocks := B.notSynchronized
  subst hsz
  obtain ⟨A, hAe⟩ : ∃ A : Nat → Prop, A = va_A (wX6 cs a S L) s.heap.size := ⟨_, rfl⟩
  have hD : va_D A (wX6 cs a S L) := by rw [hAe]; exact hD0.self
  have hA : ∀ q : Nat, s.heap.size ≤ q → A q := fun q h => by rw [hAe]; exact Or.inr h
  have hS : va_S A s.heap s.heap [] := va_S.rf
  have hDA : ∀ (S : Nat → Nat → Int32) (L : Nat → Nat → Int64), va_D A (wX6 cs a S L) := fun S L => k_DA hD rfl
  have hl := lv_entry ([.ref (a 0), .int p1, .int p2, .int p3]) (n := 4) (Nat.le_of_ble_eq_true rfl)
  rw [lg_entry_eq]
  generalize (lg_sl ([.ref (a 0), .int p1, .int p2, .int p3]) ++ List.replicate (4 - (lg_sl ([.ref (a 0), .int p1, .int p2, .int p3])).length) Slot.unset).toArray = ls at hl ⊢
  have hl : lv_has ls 4 [(0, .ref (a 0)), (1, .int p1), (2, .int p2), (3, .int p3)] := hl
  obtain ⟨Q, hQ⟩ : ∃ Q, Q = MQ below (k_Qi D r9 (wX6 cs a S L) (wX6 cs a S L) s.heap.size) ([.ref (a 0), .int p1, .int p2, .int p3] : List Value).toArray s 0 0 (va_A (wX6 cs a S L) s.heap.size) := ⟨_, rfl⟩
  rw [← hQ]
  unfold nX6_pay at hd
  refine lv_aload_n hx hb dX6_pay_0 rfl (lv_at hl 0 rfl) ?_
  refine va_get (D := D) (ci := 4) (v := .ref (a 78)) (C := RX6) (T := TX6) (N := 12) hx hb hts (fun w h => List.mem_cons_of_mem _ (List.mem_append_right _ h)) hown hK hP 0 rfl rfl 9 (by decide) (hts (.fieldLink RX6 51 "LeastNeed" "goals" "[I") (List.mem_of_getElem? (i := 1) rfl)) (fun _ h9 => h9) rfl dX6_pay_1 ?_
  refine lv_iload_n hx hb dX6_pay_4 rfl (lv_at hl 1 rfl) ?_
  obtain ⟨hi5, hd⟩ := dn_i hd
  refine k_iald (D := D) (k := p1.toNatClampNeg) (by rfl) hx hb hK hP 78 1 rfl rfl hi5 dX6_pay_5 ?_
  refine lv_iload_n hx hb dX6_pay_6 rfl (lv_at hl 2 rfl) ?_
  refine lv_icmp_ne (tgt := 18) hx hb dX6_pay_7 (by decide) (fun c7 => ?_) (fun c7 => ?_)
  · have hd := dn_f c7 hd
    refine lv_iload_n hx hb dX6_pay_18 rfl (lv_at hl 3 rfl) ?_
    refine lv_ineg hx hb dX6_pay_19 ?_
    have e1 := dn_s1 hd
    exact k_iret hx hb hr hQ hAe e1 rfl hP hS hlocks dX6_pay_20
  · have hd := dn_t c7 hd
    refine lv_iload_n hx hb dX6_pay_10 rfl (lv_at hl 3 rfl) ?_
    refine lv_ineg hx hb dX6_pay_11 ?_
    refine lv_bipush (v := (6 : Int32)) hx hb dX6_pay_12 (by decide) ?_
    refine lv_isub hx hb dX6_pay_14 ?_
    refine lv_goto (tgt := 20) hx hb dX6_pay_15 (by decide) ?_
    have e1 := dn_s1 hd
    exact k_iret hx hb hr hQ hAe e1 rfl hP hS hlocks dX6_pay_20
-- LeastNeed.rests(III)Z
set_option maxHeartbeats 4000000 in
set_option maxRecDepth 100000 in
theorem mX6_rests (l : Launch) (D : va_G) (cs : Nat → ClassId) (a : Nat → Nat) (S : Nat → Nat → Int32) (L : Nat → Nat → Int64) (p1 : Int32) (p2 : Int32) (p3 : Int32) (r9 : Int32) (hd : nX6_rests S L p1 p2 p3 = some r9) : ∀ sz : Nat, Met l yX6_rests wsX6_rests ({ frames := 1, cells := 0, slots := 0, locals := 23 }) (k_Pc D cs [.ref (a 0), .int p1, .int p2, .int p3] (wX6 cs a S L) sz) (k_Qi D r9 (wX6 cs a S L) (wX6 cs a S L) sz) 0 0 (va_A (wX6 cs a S L) sz) := by
  intro sz
  refine Met.ofW (cc := cX6_rests) (maxL := 9) (ret := (some .boolean)) (by decide) rfl ?_
  intro p e s m args below meth c s₁ B hml hv
  obtain ⟨rfl, hsz, hP, hK, hD0, hNn⟩ := hv
  have hx := B.exec
  have hb := B.bytes
  have hr := B.returns
  have hts := atoms_spec (ws := wsX6_rests) B.pre
  have hown : s.vm.findClass RX6 = some m.cls := findClass_of_methodNamed B.named
  have hlocks := B.notSynchronized
  subst hsz
  obtain ⟨A, hAe⟩ : ∃ A : Nat → Prop, A = va_A (wX6 cs a S L) s.heap.size := ⟨_, rfl⟩
  have hD : va_D A (wX6 cs a S L) := by rw [hAe]; exact hD0.self
  have hA : ∀ q : Nat, s.heap.size ≤ q → A q := fun q h => by rw [hAe]; exact Or.inr h
  have hS : va_S A s.heap s.heap [] := va_S.rf
  have hDA : ∀ (S : Nat → Nat → Int32) (L : Nat → Nat → Int64), va_D A (wX6 cs a S L) := fun S L => k_DA hD rfl
  have hl := lv_entry ([.ref (a 0), .int p1, .int p2, .int p3]) (n := 9) (Nat.le_of_ble_eq_true rfl)
  rw [lg_entry_eq]
  generalize (lg_sl ([.ref (a 0), .int p1, .int p2, .int p3]) ++ List.replicate (9 - (lg_sl ([.ref (a 0), .int p1, .int p2, .int p3])).length) Slot.unset).toArray = ls at hl ⊢
  have hl : lv_has ls 9 [(0, .ref (a 0)), (1, .int p1), (2, .int p2), (3, .int p3)] := hl
  obtain ⟨Q, hQ⟩ : ∃ Q, Q = MQ below (k_Qi D r9 (wX6 cs a S L) (wX6 cs a S L) s.heap.size) ([.ref (a 0), .int p1, .int p2, .int p3] : List Value).toArray s 0 0 (va_A (wX6 cs a S L) s.heap.size) := ⟨_, rfl⟩
  rw [← hQ]
  have Lo35 : ∀ (n1 : Nat) (x4_35 : Int32) (x5_35 : Int32) (x6_35 : Int32) (x7_35 : Int32) (x8_35 : Int32) (H : Heap) (locs : List Loc) (ls : Array Slot), k_it (fun st => nX6_rests_l35 p2 p3 x4_35 x5_35 x6_35 x7_35 st S L) n1 x8_35 = some r9 → lv_has ls 9 [(0, .ref (a 0)), (2, .int p2), (3, .int p3), (4, .int x4_35), (5, .int x5_35), (6, .int x6_35), (7, .int x7_35), (8, .int x8_35)] → va_P D vwCl (wX6 cs a S L) H → va_S A s.heap H locs → W p l e (headSpec wsX6_rests ({ frames := 1, cells := 0, slots := 0, locals := 23 })).room s m ([.ref (a 0), .int p1, .int p2, .int p3] : List Value).toArray below meth c H locs 0 0 Q (F0 m 35 ls []) := by
    intro n1
    induction n1 with
    | zero => intro x4_35 x5_35 x6_35 x7_35 x8_35 H locs ls hd; exact dn_it0 hd
    | succ n1 ih1 =>
      intro x4_35 x5_35 x6_35 x7_35 x8_35 H locs ls hd hl hP hS
      have hD := hDA S L
      obtain ⟨y1, hd, hy1⟩ := dn_it hd
      have hd : nX6_rests_l35 p2 p3 x4_35 x5_35 x6_35 x7_35 x8_35 S L = some y1 := hd
      unfold nX6_rests_l35 at hd
      refine lv_iload hx hb dX6_rests_35 (lv_at hl 7 rfl) ?_
      refine lv_bipush (v := (6 : Int32)) hx hb dX6_rests_37 (by decide) ?_
      refine lv_icmp_ge (tgt := 92) hx hb dX6_rests_39 (by decide) (fun c39 => ?_) (fun c39 => ?_)
      · have hd := dn_t c39 hd
        have hd := dn_up hd hy1
        refine lv_iconst (v := (1 : Int32)) hx hb dX6_rests_92 (by decide) ?_
        have e1 := dn_s1 hd
        exact k_zret hx hb hr rfl hQ hAe e1 rfl hP hS hlocks dX6_rests_93
      · have hd := dn_f c39 hd
        refine lv_aload_n hx hb dX6_rests_42 rfl (lv_at hl 0 rfl) ?_
        refine lv_bipush (v := (6 : Int32)) hx hb dX6_rests_43 (by decide) ?_
        refine lv_iload hx hb dX6_rests_45 (lv_at hl 7 rfl) ?_
        refine lv_imul hx hb dX6_rests_47 ?_
        refine lv_iload hx hb dX6_rests_48 (lv_at hl 4 rfl) ?_
        refine lv_iadd hx hb dX6_rests_50 ?_
        refine lv_iload_n hx hb dX6_rests_51 rfl (lv_at hl 1 rfl) ?_
        refine lv_iload hx hb dX6_rests_52 (lv_at hl 7 rfl) ?_
        obtain ⟨r54, hq54, hd⟩ := dn_b1 hd
        have hF := k_self hD hS hA
        refine k_run_i (va_runV (As := [.int (((6 : Int32) * x8_35) + x5_35), .int p2, .int x8_35]) (rest := []) ⟨hx, hb, hml, hown, hts⟩ (mX6_pay l D cs a S L (((6 : Int32) * x8_35) + x5_35) p2 x8_35 r54 hq54 _) (cwV 3 hts gX6_rests_X6_pay rfl rfl rfl (by decide +kernel) ⟨Nat.le_of_ble_eq_true rfl, Nat.le_of_ble_eq_true rfl⟩) ⟨k_blind, va_recv hK hP (ci := 4) (q0 := 0) rfl rfl, k_pre hP hK hNn hD⟩ rfl rfl hl.1 rfl (lv_room (Nat.le_of_ble_eq_true rfl)) dX6_rests_54 ⟨Nat.le_of_ble_eq_true rfl, Nat.le_of_ble_eq_true rfl⟩) hS hF (fun H locs hP1 hk hS => ?_)
        have hP : va_P D vwCl (wX6 cs a S L) _ := hP1
        have hD := hDA S L
        refine lv_iload hx hb dX6_rests_57 (lv_at hl 5 rfl) ?_
        refine lv_icmp_le (tgt := 64) hx hb dX6_rests_59 (by decide) (fun c59 => ?_) (fun c59 => ?_)
        · have hd := dn_t c59 hd
          refine lv_aload_n hx hb dX6_rests_64 rfl (lv_at hl 0 rfl) ?_
          refine lv_bipush (v := (6 : Int32)) hx hb dX6_rests_65 (by decide) ?_
          refine lv_iload hx hb dX6_rests_67 (lv_at hl 3 rfl) ?_
          refine lv_imul hx hb dX6_rests_69 ?_
          refine lv_iload hx hb dX6_rests_70 (lv_at hl 7 rfl) ?_
          refine lv_iadd hx hb dX6_rests_72 ?_
          refine lv_iload_n hx hb dX6_rests_73 rfl (lv_at hl 2 rfl) ?_
          refine lv_iload hx hb dX6_rests_74 (lv_at hl 7 rfl) ?_
          obtain ⟨r76, hq76, hd⟩ := dn_b1 hd
          have hF := k_self hD hS hA
          refine k_run_i (va_runV (As := [.int (((6 : Int32) * x4_35) + x8_35), .int p3, .int x8_35]) (rest := []) ⟨hx, hb, hml, hown, hts⟩ (mX6_pay l D cs a S L (((6 : Int32) * x4_35) + x8_35) p3 x8_35 r76 hq76 _) (cwV 3 hts gX6_rests_X6_pay rfl rfl rfl (by decide +kernel) ⟨Nat.le_of_ble_eq_true rfl, Nat.le_of_ble_eq_true rfl⟩) ⟨k_blind, va_recv hK hP (ci := 4) (q0 := 0) rfl rfl, k_pre hP hK hNn hD⟩ rfl rfl hl.1 rfl (lv_room (Nat.le_of_ble_eq_true rfl)) dX6_rests_76 ⟨Nat.le_of_ble_eq_true rfl, Nat.le_of_ble_eq_true rfl⟩) hS hF (fun H locs hP1 hk hS => ?_)
          have hP : va_P D vwCl (wX6 cs a S L) _ := hP1
          have hD := hDA S L
          refine lv_iload hx hb dX6_rests_79 (lv_at hl 6 rfl) ?_
          refine lv_icmp_le (tgt := 86) hx hb dX6_rests_81 (by decide) (fun c81 => ?_) (fun c81 => ?_)
          · have hd := dn_t c81 hd
            refine lv_iinc (v := x8_35 + (1 : Int32)) (lv' := [(8, .int (x8_35 + (1 : Int32))), (0, .ref (a 0)), (2, .int p2), (3, .int p3), (4, .int x4_35), (5, .int x5_35), (6, .int x6_35), (7, .int x7_35)]) hx hb dX6_rests_86 hl (k := 7) rfl rfl (by decide) rfl (fun ls hl => ?_)
            refine lv_goto (tgt := 35) hx hb dX6_rests_89 (by decide) ?_
            exact ih1 x4_35 x5_35 x6_35 x7_35 (x8_35 + (1 : Int32)) _ _ _ (dn_bk hd hy1) (lv_sub hl [1, 2, 3, 4, 5, 6, 7, 0] rfl) hP hS
          · have hd := dn_f c81 hd
            have hd := dn_up hd hy1
            refine lv_iconst (v := (0 : Int32)) hx hb dX6_rests_84 (by decide) ?_
            have e1 := dn_s1 hd
            exact k_zret hx hb hr rfl hQ hAe e1 rfl hP hS hlocks dX6_rests_85
        · have hd := dn_f c59 hd
          have hd := dn_up hd hy1
          refine lv_iconst (v := (0 : Int32)) hx hb dX6_rests_62 (by decide) ?_
          have e1 := dn_s1 hd
          exact k_zret hx hb hr rfl hQ hAe e1 rfl hP hS hlocks dX6_rests_63
  unfold nX6_rests at hd
  refine lv_iload_n hx hb dX6_rests_0 rfl (lv_at hl 1 rfl) ?_
  refine lv_bipush (v := (6 : Int32)) hx hb dX6_rests_1 (by decide) ?_
  refine lv_idiv hx hb dX6_rests_3 (by decide) ?_
  refine lv_istore (lv' := [(4, .int (p1 / (6 : Int32))), (0, .ref (a 0)), (1, .int p1), (2, .int p2), (3, .int p3)]) hx hb dX6_rests_4 hl (by decide) rfl (fun ls hl => ?_)
  refine lv_iload_n hx hb dX6_rests_6 rfl (lv_at hl 2 rfl) ?_
  refine lv_bipush (v := (6 : Int32)) hx hb dX6_rests_7 (by decide) ?_
  refine lv_irem hx hb dX6_rests_9 (by decide) ?_
  refine lv_istore (lv' := [(5, .int (p1 - p1 / (6 : Int32) * (6 : Int32))), (4, .int (p1 / (6 : Int32))), (0, .ref (a 0)), (1, .int p1), (2, .int p2), (3, .int p3)]) hx hb dX6_rests_10 hl (by decide) rfl (fun ls hl => ?_)
  refine lv_aload_n hx hb dX6_rests_12 rfl (lv_at hl 2 rfl) ?_
  refine lv_iload_n hx hb dX6_rests_13 rfl (lv_at hl 3 rfl) ?_
  refine lv_iload_n hx hb dX6_rests_14 rfl (lv_at hl 4 rfl) ?_
  refine lv_iload hx hb dX6_rests_15 (lv_at hl 1 rfl) ?_
  obtain ⟨r17, hq17, hd⟩ := dn_b1 hd
  have hF := k_self hD hS hA
  refine k_run_i (va_runV (As := [.int p1, .int p2, .int (p1 / (6 : Int32))]) (rest := []) ⟨hx, hb, hml, hown, hts⟩ (mX6_pay l D cs a S L p1 p2 (p1 / (6 : Int32)) r17 hq17 _) (cwV 3 hts gX6_rests_X6_pay rfl rfl rfl (by decide +kernel) ⟨Nat.le_of_ble_eq_true rfl, Nat.le_of_ble_eq_true rfl⟩) ⟨k_blind, va_recv hK hP (ci := 4) (q0 := 0) rfl rfl, k_pre hP hK hNn hD⟩ rfl rfl hl.1 rfl (lv_room (Nat.le_of_ble_eq_true rfl)) dX6_rests_17 ⟨Nat.le_of_ble_eq_true rfl, Nat.le_of_ble_eq_true rfl⟩) hS hF (fun H locs hP1 hk hS => ?_)
  have hP : va_P D vwCl (wX6 cs a S L) _ := hP1
  have hD := hDA S L
  refine lv_istore (lv' := [(6, .int r17), (5, .int (p1 - p1 / (6 : Int32) * (6 : Int32))), (4, .int (p1 / (6 : Int32))), (0, .ref (a 0)), (1, .int p1), (2, .int p2), (3, .int p3)]) hx hb dX6_rests_20 hl (by decide) rfl (fun ls hl => ?_)
  refine lv_aload_n hx hb dX6_rests_22 rfl (lv_at hl 3 rfl) ?_
  refine lv_iload_n hx hb dX6_rests_23 rfl (lv_at hl 4 rfl) ?_
  refine lv_iload_n hx hb dX6_rests_24 rfl (lv_at hl 6 rfl) ?_
  refine lv_iload hx hb dX6_rests_25 (lv_at hl 1 rfl) ?_
  obtain ⟨r27, hq27, hd⟩ := dn_b1 hd
  have hF := k_self hD hS hA
  refine k_run_i (va_runV (As := [.int p1, .int p3, .int (p1 - p1 / (6 : Int32) * (6 : Int32))]) (rest := []) ⟨hx, hb, hml, hown, hts⟩ (mX6_pay l D cs a S L p1 p3 (p1 - p1 / (6 : Int32) * (6 : Int32)) r27 hq27 _) (cwV 3 hts gX6_rests_X6_pay rfl rfl rfl (by decide +kernel) ⟨Nat.le_of_ble_eq_true rfl, Nat.le_of_ble_eq_true rfl⟩) ⟨k_blind, va_recv hK hP (ci := 4) (q0 := 0) rfl rfl, k_pre hP hK hNn hD⟩ rfl rfl hl.1 rfl (lv_room (Nat.le_of_ble_eq_true rfl)) dX6_rests_27 ⟨Nat.le_of_ble_eq_true rfl, Nat.le_of_ble_eq_true rfl⟩) hS hF (fun H locs hP1 hk hS => ?_)
  have hP : va_P D vwCl (wX6 cs a S L) _ := hP1
  have hD := hDA S L
  refine lv_istore (lv' := [(7, .int r27), (6, .int r17), (5, .int (p1 - p1 / (6 : Int32) * (6 : Int32))), (4, .int (p1 / (6 : Int32))), (0, .ref (a 0)), (1, .int p1), (2, .int p2), (3, .int p3)]) hx hb dX6_rests_30 hl (by decide) rfl (fun ls hl => ?_)
  refine lv_iconst (v := (0 : Int32)) hx hb dX6_rests_32 (by decide) ?_
  refine lv_istore (lv' := [(8, .int (0 : Int32)), (7, .int r27), (6, .int r17), (5, .int (p1 - p1 / (6 : Int32) * (6 : Int32))), (4, .int (p1 / (6 : Int32))), (0, .ref (a 0)), (1, .int p1), (2, .int p2), (3, .int p3)]) hx hb dX6_rests_33 hl (by decide) rfl (fun ls hl => ?_)
  exact Lo35 1000 (p1 / (6 : Int32)) (p1 - p1 / (6 : Int32) * (6 : Int32)) r17 r27 (0 : Int32) _ _ _ hd (lv_sub hl [5, 7, 8, 4, 3, 2, 1, 0] rfl) hP hS
-- LeastNeed.coats(IIII)I
set_option maxHeartbeats 4000000 in
set_option maxRecDepth 100000 in
theorem mX6_coats (l : Launch) (D : va_G) (cs : Nat → ClassId) (a : Nat → Nat) (S : Nat → Nat → Int32) (L : Nat → Nat → Int64) (p1 : Int32) (p2 : Int32) (p3 : Int32) (p4 : Int32) (r9 : Int32) (S9 : (Nat → Nat → Int32)) (hd : nX6_coats S L p1 p2 p3 p4 = some (r9, S9)) : ∀ sz : Nat, Met l yX6_coats wsX6_coats ({ frames := 5, cells := 0, slots := 0, locals := 130 }) (k_Pc D cs [.ref (a 0), .int p1, .int p2, .int p3, .int p4] (wX6 cs a S L) sz) (k_Qi D r9 (wX6 cs a S L) (wX6 cs a S9 L) sz) 0 0 (va_A (wX6 cs a S L) sz) := by
  intro sz
  refine Met.ofW (cc := cX6_coats) (maxL := 7) (ret := (some .int)) (by decide) rfl ?_
  intro p e s m args below meth c s₁ B hml hv
  obtain ⟨rfl, hsz, hP, hK, hD0, hNn⟩ := hv
  have hx := B.exec
  have hb := B.bytes
  have hr := B.returns
  have hts := atoms_spec (ws := wsX6_coats) B.pre
  have hown : s.vm.findClass RX6 = some m.cls := findClass_of_methodNamed B.named
  have hlocks := B.notSynchronized
  subst hsz
  obtain ⟨A, hAe⟩ : ∃ A : Nat → Prop, A = va_A (wX6 cs a S L) s.heap.size := ⟨_, rfl⟩
  have hD : va_D A (wX6 cs a S L) := by rw [hAe]; exact hD0.self
  have hA : ∀ q : Nat, s.heap.size ≤ q → A q := fun q h => by rw [hAe]; exact Or.inr h
  have hS : va_S A s.heap s.heap [] := va_S.rf
  have hDA : ∀ (S : Nat → Nat → Int32) (L : Nat → Nat → Int64), va_D A (wX6 cs a S L) := fun S L => k_DA hD rfl
  have hl := lv_entry ([.ref (a 0), .int p1, .int p2, .int p3, .int p4]) (n := 7) (Nat.le_of_ble_eq_true rfl)
  rw [lg_entry_eq]
  generalize (lg_sl ([.ref (a 0), .int p1, .int p2, .int p3, .int p4]) ++ List.replicate (7 - (lg_sl ([.ref (a 0), .int p1, .int p2, .int p3, .int p4])).length) Slot.unset).toArray = ls at hl ⊢
  have hl : lv_has ls 7 [(0, .ref (a 0)), (1, .int p1), (2, .int p2), (3, .int p3), (4, .int p4)] := hl
  obtain ⟨Q, hQ⟩ : ∃ Q, Q = MQ below (k_Qi D r9 (wX6 cs a S L) (wX6 cs a S9 L) s.heap.size) ([.ref (a 0), .int p1, .int p2, .int p3, .int p4] : List Value).toArray s 0 0 (va_A (wX6 cs a S L) s.heap.size) := ⟨_, rfl⟩
  rw [← hQ]
  have Lo56 : ∀ (n1 : Nat) (x5_56 : Int32) (x6_56 : Int32) (S_56 : Nat → Nat → Int32) (H : Heap) (locs : List Loc) (ls : Array Slot), k_it (fun st => nX6_coats_l56 p2 p3 p4 st.1 st.2 S_56 L) n1 (x5_56, x6_56) = some (r9, S9) → lv_has ls 7 [(0, .ref (a 0)), (2, .int p2), (3, .int p3), (4, .int p4), (5, .int x5_56), (6, .int x6_56)] → va_P D vwCl (wX6 cs a S_56 L) H → va_S A s.heap H locs → W p l e (headSpec wsX6_coats ({ frames := 5, cells := 0, slots := 0, locals := 130 })).room s m ([.ref (a 0), .int p1, .int p2, .int p3, .int p4] : List Value).toArray below meth c H locs 0 0 Q (F0 m 56 ls []) := by
    intro n1
    induction n1 with
    | zero => intro x5_56 x6_56 S_56 H locs ls hd; exact dn_it0 hd
    | succ n1 ih1 =>
      intro x5_56 x6_56 S_56 H locs ls hd hl hP hS
      have hD := hDA S_56 L
      obtain ⟨y1, hd, hy1⟩ := dn_it hd
      have hd : nX6_coats_l56 p2 p3 p4 x5_56 x6_56 S_56 L = some y1 := hd
      unfold nX6_coats_l56 at hd
      refine lv_iload hx hb dX6_coats_56 (lv_at hl 5 rfl) ?_
      refine lv_bipush (v := (36 : Int32)) hx hb dX6_coats_58 (by decide) ?_
      refine lv_icmp_ge (tgt := 96) hx hb dX6_coats_60 (by decide) (fun c60 => ?_) (fun c60 => ?_)
      · have hd := dn_t c60 hd
        have hd := dn_up hd hy1
        refine lv_iload hx hb dX6_coats_96 (lv_at hl 3 rfl) ?_
        refine lv_iconst (v := (-1 : Int32)) hx hb dX6_coats_98 (by decide) ?_
        refine lv_icmp_ne (tgt := 107) hx hb dX6_coats_99 (by decide) (fun c99 => ?_) (fun c99 => ?_)
        · have hd := dn_f c99 hd
          refine lv_bipush (v := (-5 : Int32)) hx hb dX6_coats_107 (by decide) ?_
          obtain ⟨e1, e2⟩ := dn_s2 hd
          exact k_iret hx hb hr hQ hAe e1 (by rw [e2]) hP hS hlocks dX6_coats_109
        · have hd := dn_t c99 hd
          refine lv_iload hx hb dX6_coats_102 (lv_at hl 4 rfl) ?_
          refine lv_goto (tgt := 109) hx hb dX6_coats_104 (by decide) ?_
          obtain ⟨e1, e2⟩ := dn_s2 hd
          exact k_iret hx hb hr hQ hAe e1 (by rw [e2]) hP hS hlocks dX6_coats_109
      · have hd := dn_f c60 hd
        refine lv_aload_n hx hb dX6_coats_63 rfl (lv_at hl 0 rfl) ?_
        refine lv_iload hx hb dX6_coats_64 (lv_at hl 5 rfl) ?_
        refine lv_iload_n hx hb dX6_coats_66 rfl (lv_at hl 1 rfl) ?_
        refine lv_iload_n hx hb dX6_coats_67 rfl (lv_at hl 2 rfl) ?_
        obtain ⟨r68, hq68, hd⟩ := dn_b1 hd
        have hF := k_self hD hS hA
        refine k_run_i (va_runV (As := [.int x6_56, .int p2, .int p3]) (rest := []) ⟨hx, hb, hml, hown, hts⟩ (mX6_rests l D cs a S_56 L x6_56 p2 p3 r68 hq68 _) (cwV 3 hts gX6_coats_X6_rests rfl rfl rfl (by decide +kernel) ⟨Nat.le_of_ble_eq_true rfl, Nat.le_of_ble_eq_true rfl⟩) ⟨k_blind, va_recv hK hP (ci := 4) (q0 := 0) rfl rfl, k_pre hP hK hNn hD⟩ rfl rfl hl.1 rfl (lv_room (Nat.le_of_ble_eq_true rfl)) dX6_coats_68 ⟨Nat.le_of_ble_eq_true rfl, Nat.le_of_ble_eq_true rfl⟩) hS hF (fun H locs hP1 hk hS => ?_)
        have hP : va_P D vwCl (wX6 cs a S_56 L) _ := hP1
        have hD := hDA S_56 L
        refine lv_if_ne (tgt := 77) hx hb dX6_coats_71 (by decide) (fun c71 => ?_) (fun c71 => ?_)
        · have hd := dn_f c71 hd
          refine lv_iload hx hb dX6_coats_77 (lv_at hl 4 rfl) ?_
          refine lv_iload hx hb dX6_coats_79 (lv_at hl 3 rfl) ?_
          refine lv_icmp_ne (tgt := 87) hx hb dX6_coats_81 (by decide) (fun c81 => ?_) (fun c81 => ?_)
          · have hd := dn_f c81 hd
            refine lv_iinc (v := x5_56 + (1 : Int32)) (lv' := [(5, .int (x5_56 + (1 : Int32))), (0, .ref (a 0)), (2, .int p2), (3, .int p3), (4, .int p4), (6, .int x6_56)]) hx hb dX6_coats_87 hl (k := 4) rfl rfl (by decide) rfl (fun ls hl => ?_)
            refine lv_iinc (v := x6_56 + (1 : Int32)) (lv' := [(6, .int (x6_56 + (1 : Int32))), (5, .int (x5_56 + (1 : Int32))), (0, .ref (a 0)), (2, .int p2), (3, .int p3), (4, .int p4)]) hx hb dX6_coats_90 hl (k := 5) rfl rfl (by decide) rfl (fun ls hl => ?_)
            refine lv_goto (tgt := 56) hx hb dX6_coats_93 (by decide) ?_
            exact ih1 (x5_56 + (1 : Int32)) (x6_56 + (1 : Int32)) S_56 _ _ _ (dn_bk hd hy1) (lv_sub hl [2, 3, 4, 5, 1, 0] rfl) hP hS
          · have hd := dn_t c81 hd
            have hd := dn_up hd hy1
            refine lv_iload hx hb dX6_coats_84 (lv_at hl 5 rfl) ?_
            obtain ⟨e1, e2⟩ := dn_s2 hd
            exact k_iret hx hb hr hQ hAe e1 (by rw [e2]) hP hS hlocks dX6_coats_86
        · have hd := dn_t c71 hd
          refine lv_goto (tgt := 90) hx hb dX6_coats_74 (by decide) ?_
          refine lv_iinc (v := x6_56 + (1 : Int32)) (lv' := [(6, .int (x6_56 + (1 : Int32))), (0, .ref (a 0)), (2, .int p2), (3, .int p3), (4, .int p4), (5, .int x5_56)]) hx hb dX6_coats_90 hl (k := 5) rfl rfl (by decide) rfl (fun ls hl => ?_)
          refine lv_goto (tgt := 56) hx hb dX6_coats_93 (by decide) ?_
          exact ih1 x5_56 (x6_56 + (1 : Int32)) S_56 _ _ _ (dn_bk hd hy1) (lv_sub hl [1, 2, 3, 4, 5, 0] rfl) hP hS
  have Jo35 : ∀ (S_35 : Nat → Nat → Int32) (H : Heap) (locs : List Loc) (ls : Array Slot), nX6_coats_j35 S_35 L = some (r9, S9) → lv_has ls 7 [(0, .ref (a 0))] → va_P D vwCl (wX6 cs a S_35 L) H → va_S A s.heap H locs → W p l e (headSpec wsX6_coats ({ frames := 5, cells := 0, slots := 0, locals := 130 })).room s m ([.ref (a 0), .int p1, .int p2, .int p3, .int p4] : List Value).toArray below meth c H locs 0 0 Q (F0 m 35 ls []) := by
    intro S_35 H locs ls hd hl hP hS
    have hD := hDA S_35 L
    unfold nX6_coats_j35 at hd
    refine lv_aload_n hx hb dX6_coats_35 rfl (lv_at hl 0 rfl) ?_
    obtain ⟨r36, S36, hq36, hd⟩ := dn_b2 hd
    have hF := k_self hD hS hA
    refine k_run_i (va_runV (As := []) (rest := []) ⟨hx, hb, hml, hown, hts⟩ (mX6_refusedAsBad l D cs a S_35 L r36 S36 hq36 _) (cwV 0 hts gX6_coats_X6_refusedAsBad rfl rfl rfl (by decide +kernel) ⟨Nat.le_of_ble_eq_true rfl, Nat.le_of_ble_eq_true rfl⟩) ⟨k_blind, va_recv hK hP (ci := 4) (q0 := 0) rfl rfl, k_pre hP hK hNn hD⟩ rfl rfl hl.1 rfl (lv_room (Nat.le_of_ble_eq_true rfl)) dX6_coats_36 ⟨Nat.le_of_ble_eq_true rfl, Nat.le_of_ble_eq_true rfl⟩) hS hF (fun H locs hP1 hk hS => ?_)
    have hP : va_P D vwCl (wX6 cs a S36 L) _ := hP1
    have hD := hDA S36 L
    refine lv_pop hx hb dX6_coats_39 rfl ?_
    refine lv_bipush (v := (-10 : Int32)) hx hb dX6_coats_40 (by decide) ?_
    obtain ⟨e1, e2⟩ := dn_s2 hd
    exact k_iret hx hb hr hQ hAe e1 (by rw [e2]) hP hS hlocks dX6_coats_42
  unfold nX6_coats at hd
  refine lv_aload_n hx hb dX6_coats_0 rfl (lv_at hl 0 rfl) ?_
  refine lv_iload_n hx hb dX6_coats_1 rfl (lv_at hl 1 rfl) ?_
  obtain ⟨r2, hq2, hd⟩ := dn_b1 hd
  have hF := k_self hD hS hA
  refine k_run_i (va_runV (As := [.int p1]) (rest := []) ⟨hx, hb, hml, hown, hts⟩ (mX6_isThing l D cs a S L p1 r2 hq2 _) (cwV 1 hts gX6_coats_X6_isThing rfl rfl rfl (by decide +kernel) ⟨Nat.le_of_ble_eq_true rfl, Nat.le_of_ble_eq_true rfl⟩) ⟨k_blind, va_recv hK hP (ci := 4) (q0 := 0) rfl rfl, k_pre hP hK hNn hD⟩ rfl rfl hl.1 rfl (lv_room (Nat.le_of_ble_eq_true rfl)) dX6_coats_2 ⟨Nat.le_of_ble_eq_true rfl, Nat.le_of_ble_eq_true rfl⟩) hS hF (fun H locs hP1 hk hS => ?_)
  have hP : va_P D vwCl (wX6 cs a S L) _ := hP1
  have hD := hDA S L
  refine lv_if_eq (tgt := 35) hx hb dX6_coats_5 (by decide) (fun c5 => ?_) (fun c5 => ?_)
  · have hd := dn_t c5 hd
    exact Jo35 S _ _ _ hd (lv_sub hl [0] rfl) hP hS
  · have hd := dn_f c5 hd
    refine lv_aload_n hx hb dX6_coats_8 rfl (lv_at hl 0 rfl) ?_
    refine lv_iload_n hx hb dX6_coats_9 rfl (lv_at hl 2 rfl) ?_
    obtain ⟨r10, hq10, hd⟩ := dn_b1 hd
    have hF := k_self hD hS hA
    refine k_run_i (va_runV (As := [.int p2]) (rest := []) ⟨hx, hb, hml, hown, hts⟩ (mX6_isPerson l D cs a S L p2 r10 hq10 _) (cwV 1 hts gX6_coats_X6_isPerson rfl rfl rfl (by decide +kernel) ⟨Nat.le_of_ble_eq_true rfl, Nat.le_of_ble_eq_true rfl⟩) ⟨k_blind, va_recv hK hP (ci := 4) (q0 := 0) rfl rfl, k_pre hP hK hNn hD⟩ rfl rfl hl.1 rfl (lv_room (Nat.le_of_ble_eq_true rfl)) dX6_coats_10 ⟨Nat.le_of_ble_eq_true rfl, Nat.le_of_ble_eq_true rfl⟩) hS hF (fun H locs hP1 hk hS => ?_)
    have hP : va_P D vwCl (wX6 cs a S L) _ := hP1
    have hD := hDA S L
    refine lv_if_eq (tgt := 35) hx hb dX6_coats_13 (by decide) (fun c13 => ?_) (fun c13 => ?_)
    · have hd := dn_t c13 hd
      exact Jo35 S _ _ _ hd (lv_sub hl [0] rfl) hP hS
    · have hd := dn_f c13 hd
      refine lv_aload_n hx hb dX6_coats_16 rfl (lv_at hl 0 rfl) ?_
      refine lv_iload_n hx hb dX6_coats_17 rfl (lv_at hl 3 rfl) ?_
      obtain ⟨r18, hq18, hd⟩ := dn_b1 hd
      have hF := k_self hD hS hA
      refine k_run_i (va_runV (As := [.int p3]) (rest := []) ⟨hx, hb, hml, hown, hts⟩ (mX6_isPerson l D cs a S L p3 r18 hq18 _) (cwV 1 hts gX6_coats_X6_isPerson rfl rfl rfl (by decide +kernel) ⟨Nat.le_of_ble_eq_true rfl, Nat.le_of_ble_eq_true rfl⟩) ⟨k_blind, va_recv hK hP (ci := 4) (q0 := 0) rfl rfl, k_pre hP hK hNn hD⟩ rfl rfl hl.1 rfl (lv_room (Nat.le_of_ble_eq_true rfl)) dX6_coats_18 ⟨Nat.le_of_ble_eq_true rfl, Nat.le_of_ble_eq_true rfl⟩) hS hF (fun H locs hP1 hk hS => ?_)
      have hP : va_P D vwCl (wX6 cs a S L) _ := hP1
      have hD := hDA S L
      refine lv_if_eq (tgt := 35) hx hb dX6_coats_21 (by decide) (fun c21 => ?_) (fun c21 => ?_)
      · have hd := dn_t c21 hd
        exact Jo35 S _ _ _ hd (lv_sub hl [0] rfl) hP hS
      · have hd := dn_f c21 hd
        refine lv_iload_n hx hb dX6_coats_24 rfl (lv_at hl 2 rfl) ?_
        refine lv_iload_n hx hb dX6_coats_25 rfl (lv_at hl 3 rfl) ?_
        refine lv_icmp_eq (tgt := 35) hx hb dX6_coats_26 (by decide) (fun c26 => ?_) (fun c26 => ?_)
        · have hd := dn_t c26 hd
          exact Jo35 S _ _ _ hd (lv_sub hl [0] rfl) hP hS
        · have hd := dn_f c26 hd
          refine lv_iload hx hb dX6_coats_29 (lv_at hl 4 rfl) ?_
          refine lv_iconst (v := (-1 : Int32)) hx hb dX6_coats_31 (by decide) ?_
          refine lv_icmp_ge (tgt := 43) hx hb dX6_coats_32 (by decide) (fun c32 => ?_) (fun c32 => ?_)
          · have hd := dn_t c32 hd
            refine lv_aload_n hx hb dX6_coats_43 rfl (lv_at hl 0 rfl) ?_
            refine lv_iload_n hx hb dX6_coats_44 rfl (lv_at hl 1 rfl) ?_
            refine lv_iload_n hx hb dX6_coats_45 rfl (lv_at hl 2 rfl) ?_
            refine lv_iload_n hx hb dX6_coats_46 rfl (lv_at hl 3 rfl) ?_
            obtain ⟨S47, hq47, hd⟩ := dn_b1 hd
            have hF := k_self hD hS hA
            refine k_run_v (va_runV (As := [.int p1, .int p2, .int p3]) (rest := []) ⟨hx, hb, hml, hown, hts⟩ (mX6_seeWhoGetsIt l D cs a S L p1 p2 p3 S47 hq47 _) (cwV 3 hts gX6_coats_X6_seeWhoGetsIt rfl rfl rfl (by decide +kernel) ⟨Nat.le_of_ble_eq_true rfl, Nat.le_of_ble_eq_true rfl⟩) ⟨k_blind, va_recv hK hP (ci := 4) (q0 := 0) rfl rfl, k_pre hP hK hNn hD⟩ rfl rfl hl.1 rfl (lv_room (Nat.le_of_ble_eq_true rfl)) dX6_coats_47 ⟨Nat.le_of_ble_eq_true rfl, Nat.le_of_ble_eq_true rfl⟩) hS hF (fun H locs hP1 hk hS => ?_)
            have hP : va_P D vwCl (wX6 cs a S47 L) _ := hP1
            have hD := hDA S47 L
            refine lv_iconst (v := (0 : Int32)) hx hb dX6_coats_50 (by decide) ?_
            refine lv_istore (lv' := [(5, .int (0 : Int32)), (0, .ref (a 0)), (1, .int p1), (2, .int p2), (3, .int p3), (4, .int p4)]) hx hb dX6_coats_51 hl (by decide) rfl (fun ls hl => ?_)
            refine lv_iconst (v := (0 : Int32)) hx hb dX6_coats_53 (by decide) ?_
            refine lv_istore (lv' := [(6, .int (0 : Int32)), (5, .int (0 : Int32)), (0, .ref (a 0)), (1, .int p1), (2, .int p2), (3, .int p3), (4, .int p4)]) hx hb dX6_coats_54 hl (by decide) rfl (fun ls hl => ?_)
            exact Lo56 1000 (0 : Int32) (0 : Int32) S47 _ _ _ hd (lv_sub hl [2, 4, 5, 6, 1, 0] rfl) hP hS
          · have hd := dn_f c32 hd
            exact Jo35 S _ _ _ hd (lv_sub hl [0] rfl) hP hS
-- LeastNeed.commonDivisor(JJ)J
set_option maxHeartbeats 4000000 in
set_option maxRecDepth 100000 in
theorem mX6_commonDivisor (l : Launch) (D : va_G) (cs : Nat → ClassId) (p0 : Int64) (p2 : Int64) (r9 : Int64) (hd : nX6_commonDivisor p0 p2 = some r9) : ∀ sz : Nat, Met l yX6_commonDivisor wsX6_commonDivisor ({ frames := 0, cells := 0, slots := 0, locals := 0 }) (k_Pc D cs [.long p0, .long p2] ([] : va_W) sz) (k_Ql D r9 ([] : va_W) ([] : va_W) sz) 0 0 (va_A ([] : va_W) sz) := by
  intro sz
  refine Met.ofW (cc := cX6_commonDivisor) (maxL := 11) (ret := (some .long)) (by decide) rfl ?_
  intro p e s m args below meth c s₁ B hml hv
  obtain ⟨rfl, hsz, hP, hK, hD0, hNn⟩ := hv
  have hx := B.exec
  have hb := B.bytes
  have hr := B.returns
  have hts := atoms_spec (ws := wsX6_commonDivisor) B.pre
  have hown : s.vm.findClass RX6 = some m.cls := findClass_of_methodNamed B.named
  have hlocks := B.notSynchronized
  subst hsz
  obtain ⟨A, hAe⟩ : ∃ A : Nat → Prop, A = va_A ([] : va_W) s.heap.size := ⟨_, rfl⟩
  have hD : va_D A ([] : va_W) := by rw [hAe]; exact hD0.self
  have hA : ∀ q : Nat, s.heap.size ≤ q → A q := fun q h => by rw [hAe]; exact Or.inr h
  have hS : va_S A s.heap s.heap [] := va_S.rf
  have hl := lv_entry ([.long p0, .long p2]) (n := 11) (Nat.le_of_ble_eq_true rfl)
  rw [lg_entry_eq]
  generalize (lg_sl ([.long p0, .long p2]) ++ List.replicate (11 - (lg_sl ([.long p0, .long p2])).length) Slot.unset).toArray = ls at hl ⊢
  have hl : lv_has ls 11 [(0, .long p0), (2, .long p2)] := hl
  obtain ⟨Q, hQ⟩ : ∃ Q, Q = MQ below (k_Ql D r9 ([] : va_W) ([] : va_W) s.heap.size) ([.long p0, .long p2] : List Value).toArray s 0 0 (va_A ([] : va_W) s.heap.size) := ⟨_, rfl⟩
  rw [← hQ]
  have Jo45 : ∀ (x4_45 : Int64) (H : Heap) (locs : List Loc) (ls : Array Slot), nX6_commonDivisor_j45 x4_45 = some r9 → lv_has ls 11 [(4, .long x4_45)] → va_P D vwCl ([] : va_W) H → va_S A s.heap H locs → W p l e (headSpec wsX6_commonDivisor ({ frames := 0, cells := 0, slots := 0, locals := 0 })).room s m ([.long p0, .long p2] : List Value).toArray below meth c H locs 0 0 Q (F0 m 45 ls []) := by
    intro x4_45 H locs ls hd hl hP hS
    unfold nX6_commonDivisor_j45 at hd
    refine lv_lload hx hb dX6_commonDivisor_45 (lv_at hl 0 rfl) ?_
    refine lv_lconst (v := (1 : Int64)) hx hb dX6_commonDivisor_47 (by decide) ?_
    refine W.lcmp hx hb dX6_commonDivisor_48 ?_
    refine lv_if_ge (tgt := 56) hx hb dX6_commonDivisor_49 (by decide) (fun c49 => ?_) (fun c49 => ?_)
    · have hd := dn_t c49 hd
      refine lv_lload hx hb dX6_commonDivisor_56 (lv_at hl 0 rfl) ?_
      have e1 := dn_s1 hd
      exact k_lret hx hb hr hQ hAe e1 rfl hP hS hlocks dX6_commonDivisor_58
    · have hd := dn_f c49 hd
      refine lv_lconst (v := (1 : Int64)) hx hb dX6_commonDivisor_52 (by decide) ?_
      refine lv_goto (tgt := 58) hx hb dX6_commonDivisor_53 (by decide) ?_
      have e1 := dn_s1 hd
      exact k_lret hx hb hr hQ hAe e1 rfl hP hS hlocks dX6_commonDivisor_58
  have Lo9 : ∀ (n1 : Nat) (x4_9 : Int64) (x6_9 : Int64) (x8_9 : Int32) (H : Heap) (locs : List Loc) (ls : Array Slot), k_it (fun st => nX6_commonDivisor_l9 st.1 st.2.1 st.2.2) n1 (x4_9, x6_9, x8_9) = some r9 → lv_has ls 11 [(4, .long x4_9), (6, .long x6_9), (8, .int x8_9)] → va_P D vwCl ([] : va_W) H → va_S A s.heap H locs → W p l e (headSpec wsX6_commonDivisor ({ frames := 0, cells := 0, slots := 0, locals := 0 })).room s m ([.long p0, .long p2] : List Value).toArray below meth c H locs 0 0 Q (F0 m 9 ls []) := by
    intro n1
    induction n1 with
    | zero => intro x4_9 x6_9 x8_9 H locs ls hd; exact dn_it0 hd
    | succ n1 ih1 =>
      intro x4_9 x6_9 x8_9 H locs ls hd hl hP hS
      obtain ⟨y1, hd, hy1⟩ := dn_it hd
      have hd : nX6_commonDivisor_l9 x4_9 x6_9 x8_9 = some y1 := hd
      unfold nX6_commonDivisor_l9 at hd
      refine lv_iload hx hb dX6_commonDivisor_9 (lv_at hl 2 rfl) ?_
      refine lv_sipush (v := (200 : Int32)) hx hb dX6_commonDivisor_11 (by decide) ?_
      refine lv_icmp_ge (tgt := 45) hx hb dX6_commonDivisor_14 (by decide) (fun c14 => ?_) (fun c14 => ?_)
      · have hd := dn_t c14 hd
        have hd := dn_up hd hy1
        exact Jo45 x4_9 _ _ _ hd (lv_sub hl [0] rfl) hP hS
      · have hd := dn_f c14 hd
        refine lv_lload hx hb dX6_commonDivisor_17 (lv_at hl 1 rfl) ?_
        refine lv_lconst (v := (0 : Int64)) hx hb dX6_commonDivisor_19 (by decide) ?_
        refine W.lcmp hx hb dX6_commonDivisor_20 ?_
        refine lv_if_eq (tgt := 45) hx hb dX6_commonDivisor_21 (by decide) (fun c21 => ?_) (fun c21 => ?_)
        · have hd := dn_t c21 hd
          have hd := dn_up hd hy1
          exact Jo45 x4_9 _ _ _ hd (lv_sub hl [0] rfl) hP hS
        · have hd := dn_f c21 hd
          refine lv_lload hx hb dX6_commonDivisor_24 (lv_at hl 0 rfl) ?_
          refine lv_lload hx hb dX6_commonDivisor_26 (lv_at hl 1 rfl) ?_
          obtain ⟨hz28, hd⟩ := dn_n hd
          refine lv_lrem hx hb dX6_commonDivisor_28 hz28 ?_
          refine lv_lstore (lv' := [(9, .long (x4_9 - x4_9 / x6_9 * x6_9)), (4, .long x4_9), (6, .long x6_9), (8, .int x8_9)]) hx hb dX6_commonDivisor_29 hl (by decide) rfl (fun ls hl => ?_)
          refine lv_lload hx hb dX6_commonDivisor_31 (lv_at hl 2 rfl) ?_
          refine lv_lstore (lv' := [(4, .long x6_9), (9, .long (x4_9 - x4_9 / x6_9 * x6_9)), (6, .long x6_9), (8, .int x8_9)]) hx hb dX6_commonDivisor_33 hl (by decide) rfl (fun ls hl => ?_)
          refine lv_lload hx hb dX6_commonDivisor_35 (lv_at hl 1 rfl) ?_
          refine lv_lstore (lv' := [(6, .long (x4_9 - x4_9 / x6_9 * x6_9)), (4, .long x6_9), (9, .long (x4_9 - x4_9 / x6_9 * x6_9)), (8, .int x8_9)]) hx hb dX6_commonDivisor_37 hl (by decide) rfl (fun ls hl => ?_)
          refine lv_iinc (v := x8_9 + (1 : Int32)) (lv' := [(8, .int (x8_9 + (1 : Int32))), (6, .long (x4_9 - x4_9 / x6_9 * x6_9)), (4, .long x6_9), (9, .long (x4_9 - x4_9 / x6_9 * x6_9))]) hx hb dX6_commonDivisor_39 hl (k := 3) rfl rfl (by decide) rfl (fun ls hl => ?_)
          refine lv_goto (tgt := 9) hx hb dX6_commonDivisor_42 (by decide) ?_
          exact ih1 x6_9 (x4_9 - x4_9 / x6_9 * x6_9) (x8_9 + (1 : Int32)) _ _ _ (dn_bk hd hy1) (lv_sub hl [2, 1, 0] rfl) hP hS
  unfold nX6_commonDivisor at hd
  refine lv_lload_n hx hb dX6_commonDivisor_0 rfl (lv_at hl 0 rfl) ?_
  refine lv_lstore (lv' := [(4, .long p0), (0, .long p0), (2, .long p2)]) hx hb dX6_commonDivisor_1 hl (by decide) rfl (fun ls hl => ?_)
  refine lv_lload_n hx hb dX6_commonDivisor_3 rfl (lv_at hl 2 rfl) ?_
  refine lv_lstore (lv' := [(6, .long p2), (4, .long p0), (0, .long p0), (2, .long p2)]) hx hb dX6_commonDivisor_4 hl (by decide) rfl (fun ls hl => ?_)
  refine lv_iconst (v := (0 : Int32)) hx hb dX6_commonDivisor_6 (by decide) ?_
  refine lv_istore (lv' := [(8, .int (0 : Int32)), (6, .long p2), (4, .long p0), (0, .long p0), (2, .long p2)]) hx hb dX6_commonDivisor_7 hl (by decide) rfl (fun ls hl => ?_)
  exact Lo9 1000 p0 p2 (0 : Int32) _ _ _ hd (lv_sub hl [2, 1, 0] rfl) hP hS
-- LeastNeed.odds(IIII)I
set_option maxHeartbeats 4000000 in
set_option maxRecDepth 100000 in
theorem mX6_odds (l : Launch) (D : va_G) (cs : Nat → ClassId) (a : Nat → Nat) (S : Nat → Nat → Int32) (L : Nat → Nat → Int64) (p1 : Int32) (p2 : Int32) (p3 : Int32) (p4 : Int32) (r9 : Int32) (S9 : (Nat → Nat → Int32)) (L9 : (Nat → Nat → Int64)) (hd : nX6_odds S L p1 p2 p3 p4 = some (r9, S9, L9)) : ∀ sz : Nat, Met l yX6_odds wsX6_odds ({ frames := 5, cells := 0, slots := 0, locals := 138 }) (k_Pc D cs [.ref (a 0), .int p1, .int p2, .int p3, .int p4] (wX6 cs a S L) sz) (k_Qi D r9 (wX6 cs a S L) (wX6 cs a S9 L9) sz) 0 0 (va_A (wX6 cs a S L) sz) := by
  intro sz
  refine Met.ofW (cc := cX6_odds) (maxL := 11) (ret := (some .int)) (by decide) rfl ?_
  intro p e s m args below meth c s₁ B hml hv
  obtain ⟨rfl, hsz, hP, hK, hD0, hNn⟩ := hv
  have hx := B.exec
  have hb := B.bytes
  have hr := B.returns
  have hts := atoms_spec (ws := wsX6_odds) B.pre
  have hown : s.vm.findClass RX6 = some m.cls := findClass_of_methodNamed B.named
  have hlocks := B.notSynchronized
  subst hsz
  obtain ⟨A, hAe⟩ : ∃ A : Nat → Prop, A = va_A (wX6 cs a S L) s.heap.size := ⟨_, rfl⟩
  have hD : va_D A (wX6 cs a S L) := by rw [hAe]; exact hD0.self
  have hA : ∀ q : Nat, s.heap.size ≤ q → A q := fun q h => by rw [hAe]; exact Or.inr h
  have hS : va_S A s.heap s.heap [] := va_S.rf
  have hDA : ∀ (S : Nat → Nat → Int32) (L : Nat → Nat → Int64), va_D A (wX6 cs a S L) := fun S L => k_DA hD rfl
  have hl := lv_entry ([.ref (a 0), .int p1, .int p2, .int p3, .int p4]) (n := 11) (Nat.le_of_ble_eq_true rfl)
  rw [lg_entry_eq]
  generalize (lg_sl ([.ref (a 0), .int p1, .int p2, .int p3, .int p4]) ++ List.replicate (11 - (lg_sl ([.ref (a 0), .int p1, .int p2, .int p3, .int p4])).length) Slot.unset).toArray = ls at hl ⊢
  have hl : lv_has ls 11 [(0, .ref (a 0)), (1, .int p1), (2, .int p2), (3, .int p3), (4, .int p4)] := hl
  obtain ⟨Q, hQ⟩ : ∃ Q, Q = MQ below (k_Qi D r9 (wX6 cs a S L) (wX6 cs a S9 L9) s.heap.size) ([.ref (a 0), .int p1, .int p2, .int p3, .int p4] : List Value).toArray s 0 0 (va_A (wX6 cs a S L) s.heap.size) := ⟨_, rfl⟩
  rw [← hQ]
  have Lo64 : ∀ (n1 : Nat) (x5_64 : Int64) (x7_64 : Int64) (x9_64 : Int32) (S_64 : Nat → Nat → Int32) (L_64 : Nat → Nat → Int64) (H : Heap) (locs : List Loc) (ls : Array Slot), k_it (fun st => nX6_odds_l64 p3 x5_64 st.1 st.2 S_64 L_64) n1 (x7_64, x9_64) = some (r9, S9, L9) → lv_has ls 11 [(0, .ref (a 0)), (3, .int p3), (5, .long x5_64), (7, .long x7_64), (9, .int x9_64)] → va_P D vwCl (wX6 cs a S_64 L_64) H → va_S A s.heap H locs → W p l e (headSpec wsX6_odds ({ frames := 5, cells := 0, slots := 0, locals := 138 })).room s m ([.ref (a 0), .int p1, .int p2, .int p3, .int p4] : List Value).toArray below meth c H locs 0 0 Q (F0 m 64 ls []) := by
    intro n1
    induction n1 with
    | zero => intro x5_64 x7_64 x9_64 S_64 L_64 H locs ls hd; exact dn_it0 hd
    | succ n1 ih1 =>
      intro x5_64 x7_64 x9_64 S_64 L_64 H locs ls hd hl hP hS
      have hD := hDA S_64 L_64
      obtain ⟨y1, hd, hy1⟩ := dn_it hd
      have hd : nX6_odds_l64 p3 x5_64 x7_64 x9_64 S_64 L_64 = some y1 := hd
      unfold nX6_odds_l64 at hd
      refine lv_iload hx hb dX6_odds_64 (lv_at hl 4 rfl) ?_
      refine lv_iload_n hx hb dX6_odds_66 rfl (lv_at hl 1 rfl) ?_
      refine lv_icmp_ge (tgt := 84) hx hb dX6_odds_67 (by decide) (fun c67 => ?_) (fun c67 => ?_)
      · have hd := dn_t c67 hd
        have hd := dn_up hd hy1
        refine lv_lload hx hb dX6_odds_84 (lv_at hl 3 rfl) ?_
        refine lv_lload hx hb dX6_odds_86 (lv_at hl 2 rfl) ?_
        obtain ⟨r88, hq88, hd⟩ := dn_b1 hd
        have hPc := k_P0 hP
        have hDc : va_D A ([] : va_W) := k_D0
        have hF := k_self hDc hS hA
        refine k_run_l (va_runS (As := [.long x7_64, .long x5_64]) (rest := []) ⟨hx, hb, hml, hown, hts⟩ (mX6_commonDivisor l D cs  x7_64 x5_64 r88 hq88 _) (va_cwS 2 hts gX6_odds_X6_commonDivisor rfl rfl rfl (by decide +kernel) ⟨Nat.le_of_ble_eq_true rfl, Nat.le_of_ble_eq_true rfl⟩) ⟨k_blind, k_pre hPc hK hNn hDc⟩ rfl rfl hl.1 rfl (lv_room (Nat.le_of_ble_eq_true rfl)) dX6_odds_88 ⟨Nat.le_of_ble_eq_true rfl, Nat.le_of_ble_eq_true rfl⟩) hS hF (fun H locs hP1 hk hS => ?_)
        have hP : va_P D vwCl (wX6 cs a S_64 L_64) _ := k_keep hP hk
        refine lv_lstore (lv' := [(9, .long r88), (0, .ref (a 0)), (3, .int p3), (5, .long x5_64), (7, .long x7_64)]) hx hb dX6_odds_91 hl (by decide) rfl (fun ls hl => ?_)
        refine lv_aload_n hx hb dX6_odds_93 rfl (lv_at hl 1 rfl) ?_
        refine lv_lload hx hb dX6_odds_94 (lv_at hl 3 rfl) ?_
        refine lv_lload hx hb dX6_odds_96 (lv_at hl 0 rfl) ?_
        obtain ⟨hz98, hd⟩ := dn_n hd
        refine lv_ldiv hx hb dX6_odds_98 hz98 ?_
        refine va_put (D := D) (ci := 4) (v := .long (x5_64 / r88)) (ty := .long) (C := RX6) (T := TX6) (N := 12) hx hb hts (fun w h => List.mem_cons_of_mem _ (List.mem_append_left _ (List.mem_append_left _ (List.mem_append_right _ h)))) tyX6 tyX6_ok nmX6 hown hK hP hD hS 0 rfl rfl 10 (by decide) (hts (.fieldLink RX6 54 "LeastNeed" "above" "J") (List.mem_of_getElem? (i := 4) rfl)) (fun _ h9 => h9) rfl (by decide +kernel) rfl rfl (Nat.le_of_ble_eq_true rfl) dX6_odds_99 (fun H locs hP hD hS => ?_)
        have hP : va_P D vwCl (wX6 cs a S_64 (k_wl L_64 0 10 (x5_64 / r88))) _ := k_eq hP (wsX6_f0_10 cs a S_64 L_64 (x5_64 / r88))
        have hD := hDA S_64 (k_wl L_64 0 10 (x5_64 / r88))
        refine lv_aload_n hx hb dX6_odds_102 rfl (lv_at hl 1 rfl) ?_
        refine lv_lload hx hb dX6_odds_103 (lv_at hl 4 rfl) ?_
        refine lv_lload hx hb dX6_odds_105 (lv_at hl 0 rfl) ?_
        obtain ⟨hz107, hd⟩ := dn_n hd
        refine lv_ldiv hx hb dX6_odds_107 hz107 ?_
        refine va_put (D := D) (ci := 4) (v := .long (x7_64 / r88)) (ty := .long) (C := RX6) (T := TX6) (N := 12) hx hb hts (fun w h => List.mem_cons_of_mem _ (List.mem_append_left _ (List.mem_append_left _ (List.mem_append_right _ h)))) tyX6 tyX6_ok nmX6 hown hK hP hD hS 0 rfl rfl 11 (by decide) (hts (.fieldLink RX6 58 "LeastNeed" "below" "J") (List.mem_of_getElem? (i := 5) rfl)) (fun _ h9 => h9) rfl (by decide +kernel) rfl rfl (Nat.le_of_ble_eq_true rfl) dX6_odds_108 (fun H locs hP hD hS => ?_)
        have hP : va_P D vwCl (wX6 cs a S_64 (k_wl (k_wl L_64 0 10 (x5_64 / r88)) 0 11 (x7_64 / r88))) _ := k_eq hP (wsX6_f0_11 cs a S_64 (k_wl L_64 0 10 (x5_64 / r88)) (x7_64 / r88))
        have hD := hDA S_64 (k_wl (k_wl L_64 0 10 (x5_64 / r88)) 0 11 (x7_64 / r88))
        refine lv_iconst (v := (1 : Int32)) hx hb dX6_odds_111 (by decide) ?_
        obtain ⟨e1, e2, e3⟩ := dn_s3 hd
        exact k_iret hx hb hr hQ hAe e1 (by rw [← e2, ← e3]) hP hS hlocks dX6_odds_112
      · have hd := dn_f c67 hd
        refine lv_lload hx hb dX6_odds_70 (lv_at hl 3 rfl) ?_
        refine lv_ldc2 (v := (10 : Int64)) hx hb hown (hts (.constantLong RX6 244 (10)) (List.mem_of_getElem? (i := 3) rfl)) dX6_odds_72 ?_
        refine lv_lmul hx hb dX6_odds_75 ?_
        refine lv_lstore (lv' := [(7, .long (x7_64 * (10 : Int64))), (0, .ref (a 0)), (3, .int p3), (5, .long x5_64), (9, .int x9_64)]) hx hb dX6_odds_76 hl (by decide) rfl (fun ls hl => ?_)
        refine lv_iinc (v := x9_64 + (1 : Int32)) (lv' := [(9, .int (x9_64 + (1 : Int32))), (7, .long (x7_64 * (10 : Int64))), (0, .ref (a 0)), (3, .int p3), (5, .long x5_64)]) hx hb dX6_odds_78 hl (k := 4) rfl rfl (by decide) rfl (fun ls hl => ?_)
        refine lv_goto (tgt := 64) hx hb dX6_odds_81 (by decide) ?_
        exact ih1 x5_64 (x7_64 * (10 : Int64)) (x9_64 + (1 : Int32)) S_64 L_64 _ _ _ (dn_bk hd hy1) (lv_sub hl [2, 3, 4, 1, 0] rfl) hP hS
  have Jo35 : ∀ (S_35 : Nat → Nat → Int32) (L_35 : Nat → Nat → Int64) (H : Heap) (locs : List Loc) (ls : Array Slot), nX6_odds_j35 S_35 L_35 = some (r9, S9, L9) → lv_has ls 11 [(0, .ref (a 0))] → va_P D vwCl (wX6 cs a S_35 L_35) H → va_S A s.heap H locs → W p l e (headSpec wsX6_odds ({ frames := 5, cells := 0, slots := 0, locals := 138 })).room s m ([.ref (a 0), .int p1, .int p2, .int p3, .int p4] : List Value).toArray below meth c H locs 0 0 Q (F0 m 35 ls []) := by
    intro S_35 L_35 H locs ls hd hl hP hS
    have hD := hDA S_35 L_35
    unfold nX6_odds_j35 at hd
    refine lv_aload_n hx hb dX6_odds_35 rfl (lv_at hl 0 rfl) ?_
    obtain ⟨r36, S36, hq36, hd⟩ := dn_b2 hd
    have hF := k_self hD hS hA
    refine k_run_i (va_runV (As := []) (rest := []) ⟨hx, hb, hml, hown, hts⟩ (mX6_refusedAsBad l D cs a S_35 L_35 r36 S36 hq36 _) (cwV 0 hts gX6_odds_X6_refusedAsBad rfl rfl rfl (by decide +kernel) ⟨Nat.le_of_ble_eq_true rfl, Nat.le_of_ble_eq_true rfl⟩) ⟨k_blind, va_recv hK hP (ci := 4) (q0 := 0) rfl rfl, k_pre hP hK hNn hD⟩ rfl rfl hl.1 rfl (lv_room (Nat.le_of_ble_eq_true rfl)) dX6_odds_36 ⟨Nat.le_of_ble_eq_true rfl, Nat.le_of_ble_eq_true rfl⟩) hS hF (fun H locs hP1 hk hS => ?_)
    have hP : va_P D vwCl (wX6 cs a S36 L_35) _ := hP1
    have hD := hDA S36 L_35
    obtain ⟨e1, e2, e3⟩ := dn_s3 hd
    exact k_iret hx hb hr hQ hAe e1 (by rw [← e2, ← e3]) hP hS hlocks dX6_odds_39
  unfold nX6_odds at hd
  refine lv_aload_n hx hb dX6_odds_0 rfl (lv_at hl 0 rfl) ?_
  refine lv_iload_n hx hb dX6_odds_1 rfl (lv_at hl 1 rfl) ?_
  obtain ⟨r2, hq2, hd⟩ := dn_b1 hd
  have hF := k_self hD hS hA
  refine k_run_i (va_runV (As := [.int p1]) (rest := []) ⟨hx, hb, hml, hown, hts⟩ (mX6_isThing l D cs a S L p1 r2 hq2 _) (cwV 1 hts gX6_odds_X6_isThing rfl rfl rfl (by decide +kernel) ⟨Nat.le_of_ble_eq_true rfl, Nat.le_of_ble_eq_true rfl⟩) ⟨k_blind, va_recv hK hP (ci := 4) (q0 := 0) rfl rfl, k_pre hP hK hNn hD⟩ rfl rfl hl.1 rfl (lv_room (Nat.le_of_ble_eq_true rfl)) dX6_odds_2 ⟨Nat.le_of_ble_eq_true rfl, Nat.le_of_ble_eq_true rfl⟩) hS hF (fun H locs hP1 hk hS => ?_)
  have hP : va_P D vwCl (wX6 cs a S L) _ := hP1
  have hD := hDA S L
  refine lv_if_eq (tgt := 35) hx hb dX6_odds_5 (by decide) (fun c5 => ?_) (fun c5 => ?_)
  · have hd := dn_t c5 hd
    exact Jo35 S L _ _ _ hd (lv_sub hl [0] rfl) hP hS
  · have hd := dn_f c5 hd
    refine lv_aload_n hx hb dX6_odds_8 rfl (lv_at hl 0 rfl) ?_
    refine lv_iload_n hx hb dX6_odds_9 rfl (lv_at hl 2 rfl) ?_
    obtain ⟨r10, hq10, hd⟩ := dn_b1 hd
    have hF := k_self hD hS hA
    refine k_run_i (va_runV (As := [.int p2]) (rest := []) ⟨hx, hb, hml, hown, hts⟩ (mX6_isPerson l D cs a S L p2 r10 hq10 _) (cwV 1 hts gX6_odds_X6_isPerson rfl rfl rfl (by decide +kernel) ⟨Nat.le_of_ble_eq_true rfl, Nat.le_of_ble_eq_true rfl⟩) ⟨k_blind, va_recv hK hP (ci := 4) (q0 := 0) rfl rfl, k_pre hP hK hNn hD⟩ rfl rfl hl.1 rfl (lv_room (Nat.le_of_ble_eq_true rfl)) dX6_odds_10 ⟨Nat.le_of_ble_eq_true rfl, Nat.le_of_ble_eq_true rfl⟩) hS hF (fun H locs hP1 hk hS => ?_)
    have hP : va_P D vwCl (wX6 cs a S L) _ := hP1
    have hD := hDA S L
    refine lv_if_eq (tgt := 35) hx hb dX6_odds_13 (by decide) (fun c13 => ?_) (fun c13 => ?_)
    · have hd := dn_t c13 hd
      exact Jo35 S L _ _ _ hd (lv_sub hl [0] rfl) hP hS
    · have hd := dn_f c13 hd
      refine lv_iload_n hx hb dX6_odds_16 rfl (lv_at hl 3 rfl) ?_
      refine lv_bipush (v := (8 : Int32)) hx hb dX6_odds_17 (by decide) ?_
      obtain ⟨r19, hq19, hd⟩ := dn_b1 hd
      have hPc := k_P0 hP
      have hDc : va_D A ([] : va_W) := k_D0
      have hF := k_self hDc hS hA
      refine k_run_i (va_runS (As := [.int p3, .int (8 : Int32)]) (rest := []) ⟨hx, hb, hml, hown, hts⟩ (mX6_upTo l D cs  p3 (8 : Int32) r19 hq19 _) (va_cwS 2 hts gX6_odds_X6_upTo rfl rfl rfl (by decide +kernel) ⟨Nat.le_of_ble_eq_true rfl, Nat.le_of_ble_eq_true rfl⟩) ⟨k_blind, k_pre hPc hK hNn hDc⟩ rfl rfl hl.1 rfl (lv_room (Nat.le_of_ble_eq_true rfl)) dX6_odds_19 ⟨Nat.le_of_ble_eq_true rfl, Nat.le_of_ble_eq_true rfl⟩) hS hF (fun H locs hP1 hk hS => ?_)
      have hP : va_P D vwCl (wX6 cs a S L) _ := k_keep hP hk
      refine lv_if_eq (tgt := 35) hx hb dX6_odds_22 (by decide) (fun c22 => ?_) (fun c22 => ?_)
      · have hd := dn_t c22 hd
        exact Jo35 S L _ _ _ hd (lv_sub hl [0] rfl) hP hS
      · have hd := dn_f c22 hd
        refine lv_iload hx hb dX6_odds_25 (lv_at hl 4 rfl) ?_
        refine lv_bipush (v := (11 : Int32)) hx hb dX6_odds_27 (by decide) ?_
        obtain ⟨r29, hq29, hd⟩ := dn_b1 hd
        have hPc := k_P0 hP
        have hDc : va_D A ([] : va_W) := k_D0
        have hF := k_self hDc hS hA
        refine k_run_i (va_runS (As := [.int p4, .int (11 : Int32)]) (rest := []) ⟨hx, hb, hml, hown, hts⟩ (mX6_upTo l D cs  p4 (11 : Int32) r29 hq29 _) (va_cwS 2 hts gX6_odds_X6_upTo rfl rfl rfl (by decide +kernel) ⟨Nat.le_of_ble_eq_true rfl, Nat.le_of_ble_eq_true rfl⟩) ⟨k_blind, k_pre hPc hK hNn hDc⟩ rfl rfl hl.1 rfl (lv_room (Nat.le_of_ble_eq_true rfl)) dX6_odds_29 ⟨Nat.le_of_ble_eq_true rfl, Nat.le_of_ble_eq_true rfl⟩) hS hF (fun H locs hP1 hk hS => ?_)
        have hP : va_P D vwCl (wX6 cs a S L) _ := k_keep hP hk
        refine lv_if_ne (tgt := 40) hx hb dX6_odds_32 (by decide) (fun c32 => ?_) (fun c32 => ?_)
        · have hd := dn_f c32 hd
          refine lv_aload_n hx hb dX6_odds_40 rfl (lv_at hl 0 rfl) ?_
          refine va_get (D := D) (ci := 4) (v := .ref (a 70)) (C := RX6) (T := TX6) (N := 12) hx hb hts (fun w h => List.mem_cons_of_mem _ (List.mem_append_left _ (List.mem_append_left _ (List.mem_append_right _ h)))) hown hK hP 0 rfl rfl 5 (by decide) (hts (.fieldLink RX6 37 "LeastNeed" "journey" "LLeastNeed$Journey;") (List.mem_of_getElem? (i := 1) rfl)) (fun _ h9 => h9) rfl dX6_odds_41 ?_
          refine lv_aload_n hx hb dX6_odds_44 rfl (lv_at hl 0 rfl) ?_
          refine va_get (D := D) (ci := 4) (v := .ref (a 1)) (C := RX6) (T := TX6) (N := 12) hx hb hts (fun w h => List.mem_cons_of_mem _ (List.mem_append_left _ (List.mem_append_left _ (List.mem_append_right _ h)))) hown hK hP 0 rfl rfl 0 (by decide) (hts (.fieldLink RX6 12 "LeastNeed" "now" "LLeastNeed$Valley;") (List.mem_of_getElem? (i := 2) rfl)) (fun _ h9 => h9) rfl dX6_odds_45 ?_
          refine lv_iload_n hx hb dX6_odds_48 rfl (lv_at hl 1 rfl) ?_
          refine lv_iload_n hx hb dX6_odds_49 rfl (lv_at hl 2 rfl) ?_
          refine lv_iload_n hx hb dX6_odds_50 rfl (lv_at hl 3 rfl) ?_
          refine lv_iload hx hb dX6_odds_51 (lv_at hl 4 rfl) ?_
          obtain ⟨r53, L53, hq53, hd⟩ := dn_b2 hd
          have hPc : va_P D vwCl (wX0 cs (k_wi a 70) (k_wi S 70) (k_wi L 70) ++ wX5 cs (k_wi a 1) (k_wi S 1)) _ := k_sub hP [70, 71, 72, 73, 74, 1, 2, 3, 4, 5, 6, 7, 8, 9, 10, 11, 12, 13, 14, 15, 16] (wcX6_X0_X5_70_1 cs a S L)
          have hDc : va_D A (wX0 cs (k_wi a 70) (k_wi S 70) (k_wi L 70) ++ wX5 cs (k_wi a 1) (k_wi S 1)) := hD.sub [70, 71, 72, 73, 74, 1, 2, 3, 4, 5, 6, 7, 8, 9, 10, 11, 12, 13, 14, 15, 16] (by decide +kernel) (wcX6_X0_X5_70_1 cs a S L)
          have hF := k_self hDc hS hA
          refine k_run_l (va_runV (As := [.ref (a 1), .int p1, .int p2, .int p3, .int p4]) (rest := []) ⟨hx, hb, hml, hown, hts⟩ (mX0_chanceOfTens l D cs (k_wi a 70) (k_wi a 1) (k_wi S 70) (k_wi L 70) (k_wi S 1) p1 p2 p3 p4 r53 L53 hq53 _) (cwV 5 hts gX6_odds_X0_chanceOfTens rfl rfl rfl (by decide +kernel) ⟨Nat.le_of_ble_eq_true rfl, Nat.le_of_ble_eq_true rfl⟩) ⟨k_blind, va_recv hK hP (ci := 0) (q0 := 70) rfl rfl, k_pre hPc hK hNn hDc⟩ rfl rfl hl.1 rfl (lv_room (Nat.le_of_ble_eq_true rfl)) dX6_odds_53 ⟨Nat.le_of_ble_eq_true rfl, Nat.le_of_ble_eq_true rfl⟩) hS hF (fun H locs hP1 hk hS => ?_)
          have hP : va_P D vwCl (wX6 cs a S (k_sp L 70 5 L53)) _ := k_back hP hD [70, 71, 72, 73, 74, 1, 2, 3, 4, 5, 6, 7, 8, 9, 10, 11, 12, 13, 14, 15, 16] [0, 17, 18, 19, 20, 21, 22, 23, 24, 25, 26, 27, 28, 29, 30, 31, 32, 33, 34, 35, 36, 37, 38, 39, 40, 41, 42, 43, 44, 45, 46, 47, 48, 49, 50, 51, 52, 53, 54, 55, 56, 57, 58, 59, 60, 61, 62, 63, 64, 65, 66, 67, 68, 69, 75, 76, 77, 78] [0, 63, 64, 65, 66, 67, 68, 69, 70, 71, 72, 73, 74, 75, 76, 77, 78, 1, 2, 3, 4, 5, 6, 7, 8, 9, 10, 11, 12, 13, 14, 15, 16, 17, 18, 19, 20, 21, 22, 23, 24, 25, 26, 27, 28, 29, 30, 31, 32, 33, 34, 35, 36, 37, 38, 39, 40, 41, 42, 43, 44, 45, 46, 47, 48, 49, 50, 51, 52, 53, 58, 59, 60, 61, 62, 54, 55, 56, 57] (wcX6_X0_X5_70_1 cs a S L) (by decide +kernel) hk hP1 (wbX6_X0_X5_70_1_L0 cs a S L L53)
          have hD := hDA S (k_sp L 70 5 L53)
          refine lv_lstore (lv' := [(5, .long r53), (0, .ref (a 0)), (1, .int p1), (2, .int p2), (3, .int p3), (4, .int p4)]) hx hb dX6_odds_56 hl (by decide) rfl (fun ls hl => ?_)
          refine lv_lconst (v := (1 : Int64)) hx hb dX6_odds_58 (by decide) ?_
          refine lv_lstore (lv' := [(7, .long (1 : Int64)), (5, .long r53), (0, .ref (a 0)), (1, .int p1), (2, .int p2), (3, .int p3), (4, .int p4)]) hx hb dX6_odds_59 hl (by decide) rfl (fun ls hl => ?_)
          refine lv_iconst (v := (0 : Int32)) hx hb dX6_odds_61 (by decide) ?_
          refine lv_istore (lv' := [(9, .int (0 : Int32)), (7, .long (1 : Int64)), (5, .long r53), (0, .ref (a 0)), (1, .int p1), (2, .int p2), (3, .int p3), (4, .int p4)]) hx hb dX6_odds_62 hl (by decide) rfl (fun ls hl => ?_)
          exact Lo64 1000 r53 (1 : Int64) (0 : Int32) S (k_sp L 70 5 L53) _ _ _ hd (lv_sub hl [3, 6, 2, 1, 0] rfl) hP hS
        · have hd := dn_t c32 hd
          exact Jo35 S L _ _ _ hd (lv_sub hl [0] rfl) hP hS
-- LeastNeed.years(II)I
set_option maxHeartbeats 4000000 in
set_option maxRecDepth 100000 in
theorem mX6_years (l : Launch) (D : va_G) (cs : Nat → ClassId) (a : Nat → Nat) (S : Nat → Nat → Int32) (L : Nat → Nat → Int64) (p1 : Int32) (p2 : Int32) (r9 : Int32) (S9 : (Nat → Nat → Int32)) (hd : nX6_years S L p1 p2 = some (r9, S9)) : ∀ sz : Nat, Met l yX6_years wsX6_years ({ frames := 4, cells := 0, slots := 0, locals := 106 }) (k_Pc D cs [.ref (a 0), .int p1, .int p2] (wX6 cs a S L) sz) (k_Qi D r9 (wX6 cs a S L) (wX6 cs a S9 L) sz) 0 0 (va_A (wX6 cs a S L) sz) := by
  intro sz
  refine Met.ofW (cc := cX6_years) (maxL := 7) (ret := (some .int)) (by decide) rfl ?_
  intro p e s m args below meth c s₁ B hml hv
  obtain ⟨rfl, hsz, hP, hK, hD0, hNn⟩ := hv
  have hx := B.exec
  have hb := B.bytes
  have hr := B.returns
  have hts := atoms_spec (ws := wsX6_years) B.pre
  have hown : s.vm.findClass RX6 = some m.cls := findClass_of_methodNamed B.named
  have hlocks := B.notSynchronized
  subst hsz
  obtain ⟨A, hAe⟩ : ∃ A : Nat → Prop, A = va_A (wX6 cs a S L) s.heap.size := ⟨_, rfl⟩
  have hD : va_D A (wX6 cs a S L) := by rw [hAe]; exact hD0.self
  have hA : ∀ q : Nat, s.heap.size ≤ q → A q := fun q h => by rw [hAe]; exact Or.inr h
  have hS : va_S A s.heap s.heap [] := va_S.rf
  have hDA : ∀ (S : Nat → Nat → Int32) (L : Nat → Nat → Int64), va_D A (wX6 cs a S L) := fun S L => k_DA hD rfl
  have hl := lv_entry ([.ref (a 0), .int p1, .int p2]) (n := 7) (Nat.le_of_ble_eq_true rfl)
  rw [lg_entry_eq]
  generalize (lg_sl ([.ref (a 0), .int p1, .int p2]) ++ List.replicate (7 - (lg_sl ([.ref (a 0), .int p1, .int p2])).length) Slot.unset).toArray = ls at hl ⊢
  have hl : lv_has ls 7 [(0, .ref (a 0)), (1, .int p1), (2, .int p2)] := hl
  obtain ⟨Q, hQ⟩ : ∃ Q, Q = MQ below (k_Qi D r9 (wX6 cs a S L) (wX6 cs a S9 L) s.heap.size) ([.ref (a 0), .int p1, .int p2] : List Value).toArray s 0 0 (va_A (wX6 cs a S L) s.heap.size) := ⟨_, rfl⟩
  rw [← hQ]
  have Lo40 : ∀ (n1 : Nat) (x3_40 : Int64) (x5_40 : Int32) (S_40 : Nat → Nat → Int32) (H : Heap) (locs : List Loc) (ls : Array Slot), k_it (fun st => nX6_years_l40 p2 st.1 st.2.1 st.2.2 L) n1 (x3_40, x5_40, S_40) = some (r9, S9) → lv_has ls 7 [(0, .ref (a 0)), (2, .int p2), (3, .long x3_40), (5, .int x5_40)] → va_P D vwCl (wX6 cs a S_40 L) H → va_S A s.heap H locs → W p l e (headSpec wsX6_years ({ frames := 4, cells := 0, slots := 0, locals := 106 })).room s m ([.ref (a 0), .int p1, .int p2] : List Value).toArray below meth c H locs 0 0 Q (F0 m 40 ls []) := by
    intro n1
    induction n1 with
    | zero => intro x3_40 x5_40 S_40 H locs ls hd; exact dn_it0 hd
    | succ n1 ih1 =>
      intro x3_40 x5_40 S_40 H locs ls hd hl hP hS
      have hD := hDA S_40 L
      obtain ⟨y1, hd, hy1⟩ := dn_it hd
      have hd : nX6_years_l40 p2 x3_40 x5_40 S_40 L = some y1 := hd
      have Jo108 : ∀ (x3_108 : Int64) (x5_108 : Int32) (S_108 : Nat → Nat → Int32) (H : Heap) (locs : List Loc) (ls : Array Slot), nX6_years_i40_j108 p2 x3_108 x5_108 S_108 L = some y1 → lv_has ls 7 [(0, .ref (a 0)), (2, .int p2), (3, .long x3_108), (5, .int x5_108)] → va_P D vwCl (wX6 cs a S_108 L) H → va_S A s.heap H locs → W p l e (headSpec wsX6_years ({ frames := 4, cells := 0, slots := 0, locals := 106 })).room s m ([.ref (a 0), .int p1, .int p2] : List Value).toArray below meth c H locs 0 0 Q (F0 m 108 ls []) := by
        intro x3_108 x5_108 S_108 H locs ls hd hl hP hS
        have hD := hDA S_108 L
        unfold nX6_years_i40_j108 at hd
        refine lv_aload_n hx hb dX6_years_108 rfl (lv_at hl 0 rfl) ?_
        refine va_get (D := D) (ci := 4) (v := .ref (a 17)) (C := RX6) (T := TX6) (N := 12) hx hb hts (fun w h => List.mem_cons_of_mem _ (List.mem_append_left _ (List.mem_append_left _ (List.mem_append_right _ h)))) hown hK hP 0 rfl rfl 1 (by decide) (hts (.fieldLink RX6 16 "LeastNeed" "trial" "LLeastNeed$Valley;") (List.mem_of_getElem? (i := 2) rfl)) (fun _ h9 => h9) rfl dX6_years_109 ?_
        obtain ⟨S112, hq112, hd⟩ := dn_b1 hd
        have hPc : va_P D vwCl (wX5 cs (k_wi a 17) (k_wi S_108 17)) _ := k_sub hP [17, 18, 19, 20, 21, 22, 23, 24, 25, 26, 27, 28, 29, 30, 31, 32] (wcX6_X5_17 cs a S_108 L)
        have hDc : va_D A (wX5 cs (k_wi a 17) (k_wi S_108 17)) := hD.sub [17, 18, 19, 20, 21, 22, 23, 24, 25, 26, 27, 28, 29, 30, 31, 32] (by decide +kernel) (wcX6_X5_17 cs a S_108 L)
        have hF := k_self hDc hS hA
        refine k_run_v (va_runV (As := []) (rest := []) ⟨hx, hb, hml, hown, hts⟩ (mX5_dayGoesBy l D cs (k_wi a 17) (k_wi S_108 17) S112 hq112 _) (cwV 0 hts gX6_years_X5_dayGoesBy rfl rfl rfl (by decide +kernel) ⟨Nat.le_of_ble_eq_true rfl, Nat.le_of_ble_eq_true rfl⟩) ⟨k_blind, va_recv hK hP (ci := 3) (q0 := 17) rfl rfl, k_pre hPc hK hNn hDc⟩ rfl rfl hl.1 rfl (lv_room (Nat.le_of_ble_eq_true rfl)) dX6_years_112 ⟨Nat.le_of_ble_eq_true rfl, Nat.le_of_ble_eq_true rfl⟩) hS hF (fun H locs hP1 hk hS => ?_)
        have hP : va_P D vwCl (wX6 cs a (k_sp S_108 17 16 S112) L) _ := k_back hP hD [17, 18, 19, 20, 21, 22, 23, 24, 25, 26, 27, 28, 29, 30, 31, 32] [0, 1, 2, 3, 4, 5, 6, 7, 8, 9, 10, 11, 12, 13, 14, 15, 16, 33, 34, 35, 36, 37, 38, 39, 40, 41, 42, 43, 44, 45, 46, 47, 48, 49, 50, 51, 52, 53, 54, 55, 56, 57, 58, 59, 60, 61, 62, 63, 64, 65, 66, 67, 68, 69, 70, 71, 72, 73, 74, 75, 76, 77, 78] [0, 1, 2, 3, 4, 5, 6, 7, 8, 9, 10, 11, 12, 13, 14, 15, 16, 63, 64, 65, 66, 67, 68, 69, 70, 71, 72, 73, 74, 75, 76, 77, 78, 17, 18, 19, 20, 21, 22, 23, 24, 25, 26, 27, 28, 29, 30, 31, 32, 33, 34, 35, 36, 37, 38, 39, 40, 41, 42, 43, 44, 45, 46, 47, 48, 49, 50, 51, 52, 53, 54, 55, 56, 57, 58, 59, 60, 61, 62] (wcX6_X5_17 cs a S_108 L) (by decide +kernel) hk hP1 (wbX6_X5_17_S0 cs a S_108 L S112)
        have hD := hDA (k_sp S_108 17 16 S112) L
        refine lv_iinc (v := x5_108 + (1 : Int32)) (lv' := [(5, .int (x5_108 + (1 : Int32))), (0, .ref (a 0)), (2, .int p2), (3, .long x3_108)]) hx hb dX6_years_115 hl (k := 3) rfl rfl (by decide) rfl (fun ls hl => ?_)
        refine lv_goto (tgt := 40) hx hb dX6_years_118 (by decide) ?_
        exact ih1 x3_108 (x5_108 + (1 : Int32)) (k_sp S_108 17 16 S112) _ _ _ (dn_bk hd hy1) (lv_sub hl [1, 2, 3, 0] rfl) hP hS
      unfold nX6_years_l40 at hd
      refine lv_iload hx hb dX6_years_40 (lv_at hl 3 rfl) ?_
      refine lv_iload_n hx hb dX6_years_42 rfl (lv_at hl 1 rfl) ?_
      refine lv_icmp_ge (tgt := 121) hx hb dX6_years_43 (by decide) (fun c43 => ?_) (fun c43 => ?_)
      · have hd := dn_t c43 hd
        have hd := dn_up hd hy1
        refine lv_aload_n hx hb dX6_years_121 rfl (lv_at hl 0 rfl) ?_
        refine va_get (D := D) (ci := 4) (v := .ref (a 17)) (C := RX6) (T := TX6) (N := 12) hx hb hts (fun w h => List.mem_cons_of_mem _ (List.mem_append_left _ (List.mem_append_left _ (List.mem_append_right _ h)))) hown hK hP 0 rfl rfl 1 (by decide) (hts (.fieldLink RX6 16 "LeastNeed" "trial" "LLeastNeed$Valley;") (List.mem_of_getElem? (i := 2) rfl)) (fun _ h9 => h9) rfl dX6_years_122 ?_
        obtain ⟨r125, hq125, hd⟩ := dn_b1 hd
        have hPc : va_P D vwCl (wX5 cs (k_wi a 17) (k_wi S_40 17)) _ := k_sub hP [17, 18, 19, 20, 21, 22, 23, 24, 25, 26, 27, 28, 29, 30, 31, 32] (wcX6_X5_17 cs a S_40 L)
        have hDc : va_D A (wX5 cs (k_wi a 17) (k_wi S_40 17)) := hD.sub [17, 18, 19, 20, 21, 22, 23, 24, 25, 26, 27, 28, 29, 30, 31, 32] (by decide +kernel) (wcX6_X5_17 cs a S_40 L)
        have hF := k_self hDc hS hA
        refine k_run_i (va_runV (As := []) (rest := []) ⟨hx, hb, hml, hown, hts⟩ (mX5_howManyAtHome l D cs (k_wi a 17) (k_wi S_40 17) r125 hq125 _) (cwV 0 hts gX6_years_X5_howManyAtHome rfl rfl rfl (by decide +kernel) ⟨Nat.le_of_ble_eq_true rfl, Nat.le_of_ble_eq_true rfl⟩) ⟨k_blind, va_recv hK hP (ci := 3) (q0 := 17) rfl rfl, k_pre hPc hK hNn hDc⟩ rfl rfl hl.1 rfl (lv_room (Nat.le_of_ble_eq_true rfl)) dX6_years_125 ⟨Nat.le_of_ble_eq_true rfl, Nat.le_of_ble_eq_true rfl⟩) hS hF (fun H locs hP1 hk hS => ?_)
        have hP : va_P D vwCl (wX6 cs a S_40 L) _ := k_back hP hD [17, 18, 19, 20, 21, 22, 23, 24, 25, 26, 27, 28, 29, 30, 31, 32] [0, 1, 2, 3, 4, 5, 6, 7, 8, 9, 10, 11, 12, 13, 14, 15, 16, 33, 34, 35, 36, 37, 38, 39, 40, 41, 42, 43, 44, 45, 46, 47, 48, 49, 50, 51, 52, 53, 54, 55, 56, 57, 58, 59, 60, 61, 62, 63, 64, 65, 66, 67, 68, 69, 70, 71, 72, 73, 74, 75, 76, 77, 78] [0, 1, 2, 3, 4, 5, 6, 7, 8, 9, 10, 11, 12, 13, 14, 15, 16, 63, 64, 65, 66, 67, 68, 69, 70, 71, 72, 73, 74, 75, 76, 77, 78, 17, 18, 19, 20, 21, 22, 23, 24, 25, 26, 27, 28, 29, 30, 31, 32, 33, 34, 35, 36, 37, 38, 39, 40, 41, 42, 43, 44, 45, 46, 47, 48, 49, 50, 51, 52, 53, 54, 55, 56, 57, 58, 59, 60, 61, 62] (wcX6_X5_17 cs a S_40 L) (by decide +kernel) hk hP1 (wbX6_X5_17 cs a S_40 L)
        have hD := hDA S_40 L
        obtain ⟨e1, e2⟩ := dn_s2 hd
        exact k_iret hx hb hr hQ hAe e1 (by rw [e2]) hP hS hlocks dX6_years_128
      · have hd := dn_f c43 hd
        refine lv_lload_n hx hb dX6_years_46 rfl (lv_at hl 2 rfl) ?_
        refine lv_ldc2 (v := (1103515245 : Int64)) hx hb hown (hts (.constantLong RX6 251 (1103515245)) (List.mem_of_getElem? (i := 4) rfl)) dX6_years_47 ?_
        refine lv_lmul hx hb dX6_years_50 ?_
        refine lv_ldc2 (v := (12345 : Int64)) hx hb hown (hts (.constantLong RX6 253 (12345)) (List.mem_of_getElem? (i := 5) rfl)) dX6_years_51 ?_
        refine lv_ladd hx hb dX6_years_54 ?_
        refine lv_ldc2 (v := (2147483648 : Int64)) hx hb hown (hts (.constantLong RX6 255 (2147483648)) (List.mem_of_getElem? (i := 6) rfl)) dX6_years_55 ?_
        refine lv_lrem hx hb dX6_years_58 (by decide) ?_
        refine lv_lstore_n (lv' := [(3, .long (((x3_40 * (1103515245 : Int64)) + (12345 : Int64)) - ((x3_40 * (1103515245 : Int64)) + (12345 : Int64)) / (2147483648 : Int64) * (2147483648 : Int64))), (0, .ref (a 0)), (2, .int p2), (5, .int x5_40)]) hx hb dX6_years_59 rfl hl (by decide) rfl (fun ls hl => ?_)
        refine lv_lload_n hx hb dX6_years_60 rfl (lv_at hl 0 rfl) ?_
        refine lv_ldc2 (v := (65536 : Int64)) hx hb hown (hts (.constantLong RX6 257 (65536)) (List.mem_of_getElem? (i := 7) rfl)) dX6_years_61 ?_
        refine lv_ldiv hx hb dX6_years_64 (by decide) ?_
        refine lv_ldc2 (v := (5 : Int64)) hx hb hown (hts (.constantLong RX6 259 (5)) (List.mem_of_getElem? (i := 8) rfl)) dX6_years_65 ?_
        refine lv_lrem hx hb dX6_years_68 (by decide) ?_
        refine lv_l2i hx hb dX6_years_69 rfl ?_
        refine lv_istore (lv' := [(6, .int ((((((x3_40 * (1103515245 : Int64)) + (12345 : Int64)) - ((x3_40 * (1103515245 : Int64)) + (12345 : Int64)) / (2147483648 : Int64) * (2147483648 : Int64)) / (65536 : Int64)) - ((((x3_40 * (1103515245 : Int64)) + (12345 : Int64)) - ((x3_40 * (1103515245 : Int64)) + (12345 : Int64)) / (2147483648 : Int64) * (2147483648 : Int64)) / (65536 : Int64)) / (5 : Int64) * (5 : Int64)).toInt32)), (3, .long (((x3_40 * (1103515245 : Int64)) + (12345 : Int64)) - ((x3_40 * (1103515245 : Int64)) + (12345 : Int64)) / (2147483648 : Int64) * (2147483648 : Int64))), (0, .ref (a 0)), (2, .int p2), (5, .int x5_40)]) hx hb dX6_years_70 hl (by decide) rfl (fun ls hl => ?_)
        refine lv_iload hx hb dX6_years_72 (lv_at hl 0 rfl) ?_
        refine lv_aload_n hx hb dX6_years_74 rfl (lv_at hl 2 rfl) ?_
        refine va_get (D := D) (ci := 4) (v := .ref (a 17)) (C := RX6) (T := TX6) (N := 12) hx hb hts (fun w h => List.mem_cons_of_mem _ (List.mem_append_left _ (List.mem_append_left _ (List.mem_append_right _ h)))) hown hK hP 0 rfl rfl 1 (by decide) (hts (.fieldLink RX6 16 "LeastNeed" "trial" "LLeastNeed$Valley;") (List.mem_of_getElem? (i := 2) rfl)) (fun _ h9 => h9) rfl dX6_years_75 ?_
        refine va_get (D := D) (ci := 3) (v := .int (S_40 17 13)) (C := RX5) (T := TX5) (N := 15) hx hb hts (fun w h => List.mem_cons_of_mem _ (List.mem_append_left _ (List.mem_append_right _ h))) hown hK hP 17 rfl rfl 13 (by decide) (hts (.fieldLink RX6 87 "LeastNeed$Valley" "things" "I") (List.mem_of_getElem? (i := 9) rfl)) (fun _ h9 => h9) rfl dX6_years_78 ?_
        refine lv_icmp_ge (tgt := 108) hx hb dX6_years_81 (by decide) (fun c81 => ?_) (fun c81 => ?_)
        · have hd := dn_t c81 hd
          exact Jo108 (((x3_40 * (1103515245 : Int64)) + (12345 : Int64)) - ((x3_40 * (1103515245 : Int64)) + (12345 : Int64)) / (2147483648 : Int64) * (2147483648 : Int64)) x5_40 S_40 _ _ _ hd (lv_sub hl [2, 3, 1, 4] rfl) hP hS
        · have hd := dn_f c81 hd
          refine lv_aload_n hx hb dX6_years_84 rfl (lv_at hl 2 rfl) ?_
          refine va_get (D := D) (ci := 4) (v := .ref (a 17)) (C := RX6) (T := TX6) (N := 12) hx hb hts (fun w h => List.mem_cons_of_mem _ (List.mem_append_left _ (List.mem_append_left _ (List.mem_append_right _ h)))) hown hK hP 0 rfl rfl 1 (by decide) (hts (.fieldLink RX6 16 "LeastNeed" "trial" "LLeastNeed$Valley;") (List.mem_of_getElem? (i := 2) rfl)) (fun _ h9 => h9) rfl dX6_years_85 ?_
          refine va_get (D := D) (ci := 3) (v := .ref (a 26)) (C := RX5) (T := TX5) (N := 15) hx hb hts (fun w h => List.mem_cons_of_mem _ (List.mem_append_left _ (List.mem_append_right _ h))) hown hK hP 17 rfl rfl 8 (by decide) (hts (.fieldLink RX6 112 "LeastNeed$Valley" "place" "[I") (List.mem_of_getElem? (i := 10) rfl)) (fun _ h9 => h9) rfl dX6_years_88 ?_
          refine lv_iload hx hb dX6_years_91 (lv_at hl 0 rfl) ?_
          obtain ⟨hi93, hd⟩ := dn_i hd
          refine k_iald (D := D) (k := ((((((x3_40 * (1103515245 : Int64)) + (12345 : Int64)) - ((x3_40 * (1103515245 : Int64)) + (12345 : Int64)) / (2147483648 : Int64) * (2147483648 : Int64)) / (65536 : Int64)) - ((((x3_40 * (1103515245 : Int64)) + (12345 : Int64)) - ((x3_40 * (1103515245 : Int64)) + (12345 : Int64)) / (2147483648 : Int64) * (2147483648 : Int64)) / (65536 : Int64)) / (5 : Int64) * (5 : Int64)).toInt32).toNatClampNeg) (by rfl) hx hb hK hP 26 1 rfl rfl hi93 dX6_years_93 ?_
          refine lv_if_ne (tgt := 108) hx hb dX6_years_94 (by decide) (fun c94 => ?_) (fun c94 => ?_)
          · have hd := dn_f c94 hd
            exact Jo108 (((x3_40 * (1103515245 : Int64)) + (12345 : Int64)) - ((x3_40 * (1103515245 : Int64)) + (12345 : Int64)) / (2147483648 : Int64) * (2147483648 : Int64)) x5_40 S_40 _ _ _ hd (lv_sub hl [2, 3, 1, 4] rfl) hP hS
          · have hd := dn_t c94 hd
            refine lv_aload_n hx hb dX6_years_97 rfl (lv_at hl 2 rfl) ?_
            refine va_get (D := D) (ci := 4) (v := .ref (a 17)) (C := RX6) (T := TX6) (N := 12) hx hb hts (fun w h => List.mem_cons_of_mem _ (List.mem_append_left _ (List.mem_append_left _ (List.mem_append_right _ h)))) hown hK hP 0 rfl rfl 1 (by decide) (hts (.fieldLink RX6 16 "LeastNeed" "trial" "LLeastNeed$Valley;") (List.mem_of_getElem? (i := 2) rfl)) (fun _ h9 => h9) rfl dX6_years_98 ?_
            refine va_get (D := D) (ci := 3) (v := .ref (a 26)) (C := RX5) (T := TX5) (N := 15) hx hb hts (fun w h => List.mem_cons_of_mem _ (List.mem_append_left _ (List.mem_append_right _ h))) hown hK hP 17 rfl rfl 8 (by decide) (hts (.fieldLink RX6 112 "LeastNeed$Valley" "place" "[I") (List.mem_of_getElem? (i := 10) rfl)) (fun _ h9 => h9) rfl dX6_years_101 ?_
            refine lv_iload hx hb dX6_years_104 (lv_at hl 0 rfl) ?_
            refine lv_iconst (v := (1 : Int32)) hx hb dX6_years_106 (by decide) ?_
            obtain ⟨hi107, hd⟩ := dn_i hd
            refine k_iast (D := D) (k := ((((((x3_40 * (1103515245 : Int64)) + (12345 : Int64)) - ((x3_40 * (1103515245 : Int64)) + (12345 : Int64)) / (2147483648 : Int64) * (2147483648 : Int64)) / (65536 : Int64)) - ((((x3_40 * (1103515245 : Int64)) + (12345 : Int64)) - ((x3_40 * (1103515245 : Int64)) + (12345 : Int64)) / (2147483648 : Int64) * (2147483648 : Int64)) / (65536 : Int64)) / (5 : Int64) * (5 : Int64)).toInt32).toNatClampNeg) (by rfl) hx hb hK hP hD hS 26 1 rfl rfl hi107 dX6_years_107 (fun H locs hP hD hS => ?_)
            have hP : va_P D vwCl (wX6 cs a (k_w S_40 26 (((((((x3_40 * (1103515245 : Int64)) + (12345 : Int64)) - ((x3_40 * (1103515245 : Int64)) + (12345 : Int64)) / (2147483648 : Int64) * (2147483648 : Int64)) / (65536 : Int64)) - ((((x3_40 * (1103515245 : Int64)) + (12345 : Int64)) - ((x3_40 * (1103515245 : Int64)) + (12345 : Int64)) / (2147483648 : Int64) * (2147483648 : Int64)) / (65536 : Int64)) / (5 : Int64) * (5 : Int64)).toInt32).toNatClampNeg) (1 : Int32)) L) _ := k_eq hP (wsX6_a26 cs a S_40 L (((((((x3_40 * (1103515245 : Int64)) + (12345 : Int64)) - ((x3_40 * (1103515245 : Int64)) + (12345 : Int64)) / (2147483648 : Int64) * (2147483648 : Int64)) / (65536 : Int64)) - ((((x3_40 * (1103515245 : Int64)) + (12345 : Int64)) - ((x3_40 * (1103515245 : Int64)) + (12345 : Int64)) / (2147483648 : Int64) * (2147483648 : Int64)) / (65536 : Int64)) / (5 : Int64) * (5 : Int64)).toInt32).toNatClampNeg) (1 : Int32))
            have hD := hDA (k_w S_40 26 (((((((x3_40 * (1103515245 : Int64)) + (12345 : Int64)) - ((x3_40 * (1103515245 : Int64)) + (12345 : Int64)) / (2147483648 : Int64) * (2147483648 : Int64)) / (65536 : Int64)) - ((((x3_40 * (1103515245 : Int64)) + (12345 : Int64)) - ((x3_40 * (1103515245 : Int64)) + (12345 : Int64)) / (2147483648 : Int64) * (2147483648 : Int64)) / (65536 : Int64)) / (5 : Int64) * (5 : Int64)).toInt32).toNatClampNeg) (1 : Int32)) L
            exact Jo108 (((x3_40 * (1103515245 : Int64)) + (12345 : Int64)) - ((x3_40 * (1103515245 : Int64)) + (12345 : Int64)) / (2147483648 : Int64) * (2147483648 : Int64)) x5_40 (k_w S_40 26 (((((((x3_40 * (1103515245 : Int64)) + (12345 : Int64)) - ((x3_40 * (1103515245 : Int64)) + (12345 : Int64)) / (2147483648 : Int64) * (2147483648 : Int64)) / (65536 : Int64)) - ((((x3_40 * (1103515245 : Int64)) + (12345 : Int64)) - ((x3_40 * (1103515245 : Int64)) + (12345 : Int64)) / (2147483648 : Int64) * (2147483648 : Int64)) / (65536 : Int64)) / (5 : Int64) * (5 : Int64)).toInt32).toNatClampNeg) (1 : Int32)) _ _ _ hd (lv_sub hl [2, 3, 1, 4] rfl) hP hS
  have Jo18 : ∀ (S_18 : Nat → Nat → Int32) (H : Heap) (locs : List Loc) (ls : Array Slot), nX6_years_j18 S_18 L = some (r9, S9) → lv_has ls 7 [(0, .ref (a 0))] → va_P D vwCl (wX6 cs a S_18 L) H → va_S A s.heap H locs → W p l e (headSpec wsX6_years ({ frames := 4, cells := 0, slots := 0, locals := 106 })).room s m ([.ref (a 0), .int p1, .int p2] : List Value).toArray below meth c H locs 0 0 Q (F0 m 18 ls []) := by
    intro S_18 H locs ls hd hl hP hS
    have hD := hDA S_18 L
    unfold nX6_years_j18 at hd
    refine lv_aload_n hx hb dX6_years_18 rfl (lv_at hl 0 rfl) ?_
    obtain ⟨r19, S19, hq19, hd⟩ := dn_b2 hd
    have hF := k_self hD hS hA
    refine k_run_i (va_runV (As := []) (rest := []) ⟨hx, hb, hml, hown, hts⟩ (mX6_refusedAsBad l D cs a S_18 L r19 S19 hq19 _) (cwV 0 hts gX6_years_X6_refusedAsBad rfl rfl rfl (by decide +kernel) ⟨Nat.le_of_ble_eq_true rfl, Nat.le_of_ble_eq_true rfl⟩) ⟨k_blind, va_recv hK hP (ci := 4) (q0 := 0) rfl rfl, k_pre hP hK hNn hD⟩ rfl rfl hl.1 rfl (lv_room (Nat.le_of_ble_eq_true rfl)) dX6_years_19 ⟨Nat.le_of_ble_eq_true rfl, Nat.le_of_ble_eq_true rfl⟩) hS hF (fun H locs hP1 hk hS => ?_)
    have hP : va_P D vwCl (wX6 cs a S19 L) _ := hP1
    have hD := hDA S19 L
    obtain ⟨e1, e2⟩ := dn_s2 hd
    exact k_iret hx hb hr hQ hAe e1 (by rw [e2]) hP hS hlocks dX6_years_22
  unfold nX6_years at hd
  refine lv_iload_n hx hb dX6_years_0 rfl (lv_at hl 1 rfl) ?_
  refine lv_ldc (v := (1000000 : Int32)) hx hb hown (hts (.constant RX6 250 (1000000)) (List.mem_of_getElem? (i := 1) rfl)) dX6_years_1 ?_
  obtain ⟨r3, hq3, hd⟩ := dn_b1 hd
  have hPc := k_P0 hP
  have hDc : va_D A ([] : va_W) := k_D0
  have hF := k_self hDc hS hA
  refine k_run_i (va_runS (As := [.int p1, .int (1000000 : Int32)]) (rest := []) ⟨hx, hb, hml, hown, hts⟩ (mX6_upTo l D cs  p1 (1000000 : Int32) r3 hq3 _) (va_cwS 2 hts gX6_years_X6_upTo rfl rfl rfl (by decide +kernel) ⟨Nat.le_of_ble_eq_true rfl, Nat.le_of_ble_eq_true rfl⟩) ⟨k_blind, k_pre hPc hK hNn hDc⟩ rfl rfl hl.1 rfl (lv_room (Nat.le_of_ble_eq_true rfl)) dX6_years_3 ⟨Nat.le_of_ble_eq_true rfl, Nat.le_of_ble_eq_true rfl⟩) hS hF (fun H locs hP1 hk hS => ?_)
  have hP : va_P D vwCl (wX6 cs a S L) _ := k_keep hP hk
  refine lv_if_eq (tgt := 18) hx hb dX6_years_6 (by decide) (fun c6 => ?_) (fun c6 => ?_)
  · have hd := dn_t c6 hd
    exact Jo18 S _ _ _ hd (lv_sub hl [0] rfl) hP hS
  · have hd := dn_f c6 hd
    refine lv_iload_n hx hb dX6_years_9 rfl (lv_at hl 2 rfl) ?_
    refine lv_bipush (v := (61 : Int32)) hx hb dX6_years_10 (by decide) ?_
    obtain ⟨r12, hq12, hd⟩ := dn_b1 hd
    have hPc := k_P0 hP
    have hDc : va_D A ([] : va_W) := k_D0
    have hF := k_self hDc hS hA
    refine k_run_i (va_runS (As := [.int p2, .int (61 : Int32)]) (rest := []) ⟨hx, hb, hml, hown, hts⟩ (mX6_upTo l D cs  p2 (61 : Int32) r12 hq12 _) (va_cwS 2 hts gX6_years_X6_upTo rfl rfl rfl (by decide +kernel) ⟨Nat.le_of_ble_eq_true rfl, Nat.le_of_ble_eq_true rfl⟩) ⟨k_blind, k_pre hPc hK hNn hDc⟩ rfl rfl hl.1 rfl (lv_room (Nat.le_of_ble_eq_true rfl)) dX6_years_12 ⟨Nat.le_of_ble_eq_true rfl, Nat.le_of_ble_eq_true rfl⟩) hS hF (fun H locs hP1 hk hS => ?_)
    have hP : va_P D vwCl (wX6 cs a S L) _ := k_keep hP hk
    refine lv_if_ne (tgt := 23) hx hb dX6_years_15 (by decide) (fun c15 => ?_) (fun c15 => ?_)
    · have hd := dn_f c15 hd
      refine lv_aload_n hx hb dX6_years_23 rfl (lv_at hl 0 rfl) ?_
      refine va_get (D := D) (ci := 4) (v := .ref (a 17)) (C := RX6) (T := TX6) (N := 12) hx hb hts (fun w h => List.mem_cons_of_mem _ (List.mem_append_left _ (List.mem_append_left _ (List.mem_append_right _ h)))) hown hK hP 0 rfl rfl 1 (by decide) (hts (.fieldLink RX6 16 "LeastNeed" "trial" "LLeastNeed$Valley;") (List.mem_of_getElem? (i := 2) rfl)) (fun _ h9 => h9) rfl dX6_years_24 ?_
      refine lv_aload_n hx hb dX6_years_27 rfl (lv_at hl 0 rfl) ?_
      refine va_get (D := D) (ci := 4) (v := .ref (a 1)) (C := RX6) (T := TX6) (N := 12) hx hb hts (fun w h => List.mem_cons_of_mem _ (List.mem_append_left _ (List.mem_append_left _ (List.mem_append_right _ h)))) hown hK hP 0 rfl rfl 0 (by decide) (hts (.fieldLink RX6 12 "LeastNeed" "now" "LLeastNeed$Valley;") (List.mem_of_getElem? (i := 3) rfl)) (fun _ h9 => h9) rfl dX6_years_28 ?_
      obtain ⟨S31, hq31, hd⟩ := dn_b1 hd
      have hPc : va_P D vwCl (wX5 cs (k_wi a 17) (k_wi S 17) ++ wX5 cs (k_wi a 1) (k_wi S 1)) _ := k_sub hP [17, 18, 19, 20, 21, 22, 23, 24, 25, 26, 27, 28, 29, 30, 31, 32, 1, 2, 3, 4, 5, 6, 7, 8, 9, 10, 11, 12, 13, 14, 15, 16] (wcX6_X5_X5_17_1 cs a S L)
      have hDc : va_D A (wX5 cs (k_wi a 17) (k_wi S 17) ++ wX5 cs (k_wi a 1) (k_wi S 1)) := hD.sub [17, 18, 19, 20, 21, 22, 23, 24, 25, 26, 27, 28, 29, 30, 31, 32, 1, 2, 3, 4, 5, 6, 7, 8, 9, 10, 11, 12, 13, 14, 15, 16] (by decide +kernel) (wcX6_X5_X5_17_1 cs a S L)
      have hF := k_self hDc hS hA
      refine k_run_v (va_runV (As := [.ref (a 1)]) (rest := []) ⟨hx, hb, hml, hown, hts⟩ (mX5_copyOf l D cs (k_wi a 17) (k_wi a 1) (k_wi S 17) (k_wi S 1) S31 hq31 _) (cwV 1 hts gX6_years_X5_copyOf rfl rfl rfl (by decide +kernel) ⟨Nat.le_of_ble_eq_true rfl, Nat.le_of_ble_eq_true rfl⟩) ⟨k_blind, va_recv hK hP (ci := 3) (q0 := 17) rfl rfl, k_pre hPc hK hNn hDc⟩ rfl rfl hl.1 rfl (lv_room (Nat.le_of_ble_eq_true rfl)) dX6_years_31 ⟨Nat.le_of_ble_eq_true rfl, Nat.le_of_ble_eq_true rfl⟩) hS hF (fun H locs hP1 hk hS => ?_)
      have hP : va_P D vwCl (wX6 cs a (k_sp S 17 16 S31) L) _ := k_back hP hD [17, 18, 19, 20, 21, 22, 23, 24, 25, 26, 27, 28, 29, 30, 31, 32, 1, 2, 3, 4, 5, 6, 7, 8, 9, 10, 11, 12, 13, 14, 15, 16] [0, 33, 34, 35, 36, 37, 38, 39, 40, 41, 42, 43, 44, 45, 46, 47, 48, 49, 50, 51, 52, 53, 54, 55, 56, 57, 58, 59, 60, 61, 62, 63, 64, 65, 66, 67, 68, 69, 70, 71, 72, 73, 74, 75, 76, 77, 78] [0, 63, 64, 65, 66, 67, 68, 69, 70, 71, 72, 73, 74, 75, 76, 77, 78, 47, 48, 49, 50, 51, 52, 53, 54, 55, 56, 57, 58, 59, 60, 61, 62, 1, 2, 3, 4, 5, 6, 7, 8, 9, 10, 11, 12, 13, 14, 15, 16, 17, 18, 19, 20, 21, 22, 23, 24, 25, 26, 27, 28, 29, 30, 31, 32, 33, 34, 35, 36, 37, 38, 39, 40, 41, 42, 43, 44, 45, 46] (wcX6_X5_X5_17_1 cs a S L) (by decide +kernel) hk hP1 (wbX6_X5_X5_17_1_S0 cs a S L S31)
      have hD := hDA (k_sp S 17 16 S31) L
      refine lv_iload_n hx hb dX6_years_34 rfl (lv_at hl 1 rfl) ?_
      refine lv_i2l hx hb dX6_years_35 rfl ?_
      refine lv_lstore_n (lv' := [(3, .long p1.toInt64), (0, .ref (a 0)), (1, .int p1), (2, .int p2)]) hx hb dX6_years_36 rfl hl (by decide) rfl (fun ls hl => ?_)
      refine lv_iconst (v := (0 : Int32)) hx hb dX6_years_37 (by decide) ?_
      refine lv_istore (lv' := [(5, .int (0 : Int32)), (3, .long p1.toInt64), (0, .ref (a 0)), (1, .int p1), (2, .int p2)]) hx hb dX6_years_38 hl (by decide) rfl (fun ls hl => ?_)
      exact Lo40 1000 p1.toInt64 (0 : Int32) (k_sp S 17 16 S31) _ _ _ hd (lv_sub hl [2, 4, 1, 0] rfl) hP hS
    · have hd := dn_t c15 hd
      exact Jo18 S _ _ _ hd (lv_sub hl [0] rfl) hP hS
-- LeastNeed.part(I)J
set_option maxHeartbeats 4000000 in
set_option maxRecDepth 100000 in
theorem mX6_part (l : Launch) (D : va_G) (cs : Nat → ClassId) (a : Nat → Nat) (S : Nat → Nat → Int32) (L : Nat → Nat → Int64) (p1 : Int32) (r9 : Int64) (S9 : (Nat → Nat → Int32)) (hd : nX6_part S L p1 = some (r9, S9)) : ∀ sz : Nat, Met l yX6_part wsX6_part ({ frames := 1, cells := 0, slots := 0, locals := 21 }) (k_Pc D cs [.ref (a 0), .int p1] (wX6 cs a S L) sz) (k_Ql D r9 (wX6 cs a S L) (wX6 cs a S9 L) sz) 0 0 (va_A (wX6 cs a S L) sz) := by
  intro sz
  refine Met.ofW (cc := cX6_part) (maxL := 2) (ret := (some .long)) (by decide) rfl ?_
  intro p e s m args below meth c s₁ B hml hv
  obtain ⟨rfl, hsz, hP, hK, hD0, hNn⟩ := hv
  have hx := B.exec
  have hb := B.bytes
  have hr := B.returns
  have hts := atoms_spec (ws := wsX6_part) B.pre
  have hown : s.vm.findClass RX6 = some m.cls := findClass_of_methodNamed B.named
  have hlocks := B.notSynchronized
  subst hsz
  obtain ⟨A, hAe⟩ : ∃ A : Nat → Prop, A = va_A (wX6 cs a S L) s.heap.size := ⟨_, rfl⟩
  have hD : va_D A (wX6 cs a S L) := by rw [hAe]; exact hD0.self
  have hA : ∀ q : Nat, s.heap.size ≤ q → A q := fun q h => by rw [hAe]; exact Or.inr h
  have hS : va_S A s.heap s.heap [] := va_S.rf
  have hDA : ∀ (S : Nat → Nat → Int32) (L : Nat → Nat → Int64), va_D A (wX6 cs a S L) := fun S L => k_DA hD rfl
  have hl := lv_entry ([.ref (a 0), .int p1]) (n := 2) (Nat.le_of_ble_eq_true rfl)
  rw [lg_entry_eq]
  generalize (lg_sl ([.ref (a 0), .int p1]) ++ List.replicate (2 - (lg_sl ([.ref (a 0), .int p1])).length) Slot.unset).toArray = ls at hl ⊢
  have hl : lv_has ls 2 [(0, .ref (a 0)), (1, .int p1)] := hl
  obtain ⟨Q, hQ⟩ : ∃ Q, Q = MQ below (k_Ql D r9 (wX6 cs a S L) (wX6 cs a S9 L) s.heap.size) ([.ref (a 0), .int p1] : List Value).toArray s 0 0 (va_A (wX6 cs a S L) s.heap.size) := ⟨_, rfl⟩
  rw [← hQ]
  unfold nX6_part at hd
  refine lv_iload_n hx hb dX6_part_0 rfl (lv_at hl 1 rfl) ?_
  refine lv_iconst (v := (2 : Int32)) hx hb dX6_part_1 (by decide) ?_
  obtain ⟨r2, hq2, hd⟩ := dn_b1 hd
  have hPc := k_P0 hP
  have hDc : va_D A ([] : va_W) := k_D0
  have hF := k_self hDc hS hA
  refine k_run_i (va_runS (As := [.int p1, .int (2 : Int32)]) (rest := []) ⟨hx, hb, hml, hown, hts⟩ (mX6_upTo l D cs  p1 (2 : Int32) r2 hq2 _) (va_cwS 2 hts gX6_part_X6_upTo rfl rfl rfl (by decide +kernel) ⟨Nat.le_of_ble_eq_true rfl, Nat.le_of_ble_eq_true rfl⟩) ⟨k_blind, k_pre hPc hK hNn hDc⟩ rfl rfl hl.1 rfl (lv_room (Nat.le_of_ble_eq_true rfl)) dX6_part_2 ⟨Nat.le_of_ble_eq_true rfl, Nat.le_of_ble_eq_true rfl⟩) hS hF (fun H locs hP1 hk hS => ?_)
  have hP : va_P D vwCl (wX6 cs a S L) _ := k_keep hP hk
  refine lv_if_ne (tgt := 14) hx hb dX6_part_5 (by decide) (fun c5 => ?_) (fun c5 => ?_)
  · have hd := dn_f c5 hd
    refine lv_iload_n hx hb dX6_part_14 rfl (lv_at hl 1 rfl) ?_
    refine lv_if_ne (tgt := 25) hx hb dX6_part_15 (by decide) (fun c15 => ?_) (fun c15 => ?_)
    · have hd := dn_f c15 hd
      refine lv_aload_n hx hb dX6_part_25 rfl (lv_at hl 0 rfl) ?_
      refine va_get (D := D) (ci := 4) (v := .long (L 0 11)) (C := RX6) (T := TX6) (N := 12) hx hb hts (fun w h => List.mem_cons_of_mem _ (List.mem_append_right _ h)) hown hK hP 0 rfl rfl 11 (by decide) (hts (.fieldLink RX6 58 "LeastNeed" "below" "J") (List.mem_of_getElem? (i := 2) rfl)) (fun _ h9 => h9) rfl dX6_part_26 ?_
      obtain ⟨e1, e2⟩ := dn_s2 hd
      exact k_lret hx hb hr hQ hAe e1 (by rw [e2]) hP hS hlocks dX6_part_29
    · have hd := dn_t c15 hd
      refine lv_aload_n hx hb dX6_part_18 rfl (lv_at hl 0 rfl) ?_
      refine va_get (D := D) (ci := 4) (v := .long (L 0 10)) (C := RX6) (T := TX6) (N := 12) hx hb hts (fun w h => List.mem_cons_of_mem _ (List.mem_append_right _ h)) hown hK hP 0 rfl rfl 10 (by decide) (hts (.fieldLink RX6 54 "LeastNeed" "above" "J") (List.mem_of_getElem? (i := 1) rfl)) (fun _ h9 => h9) rfl dX6_part_19 ?_
      refine lv_goto (tgt := 29) hx hb dX6_part_22 (by decide) ?_
      obtain ⟨e1, e2⟩ := dn_s2 hd
      exact k_lret hx hb hr hQ hAe e1 (by rw [e2]) hP hS hlocks dX6_part_29
  · have hd := dn_t c5 hd
    refine lv_aload_n hx hb dX6_part_8 rfl (lv_at hl 0 rfl) ?_
    obtain ⟨r9, S9, hq9, hd⟩ := dn_b2 hd
    have hF := k_self hD hS hA
    refine k_run_i (va_runV (As := []) (rest := []) ⟨hx, hb, hml, hown, hts⟩ (mX6_refusedAsBad l D cs a S L r9 S9 hq9 _) (cwV 0 hts gX6_part_X6_refusedAsBad rfl rfl rfl (by decide +kernel) ⟨Nat.le_of_ble_eq_true rfl, Nat.le_of_ble_eq_true rfl⟩) ⟨k_blind, va_recv hK hP (ci := 4) (q0 := 0) rfl rfl, k_pre hP hK hNn hD⟩ rfl rfl hl.1 rfl (lv_room (Nat.le_of_ble_eq_true rfl)) dX6_part_9 ⟨Nat.le_of_ble_eq_true rfl, Nat.le_of_ble_eq_true rfl⟩) hS hF (fun H locs hP1 hk hS => ?_)
    have hP : va_P D vwCl (wX6 cs a S9 L) _ := hP1
    have hD := hDA S9 L
    refine lv_i2l hx hb dX6_part_12 rfl ?_
    obtain ⟨e1, e2⟩ := dn_s2 hd
    exact k_lret hx hb hr hQ hAe e1 (by rw [e2]) hP hS hlocks dX6_part_13
-- LeastNeed.image(I)I
set_option maxHeartbeats 4000000 in
set_option maxRecDepth 100000 in
theorem mX6_image (l : Launch) (D : va_G) (cs : Nat → ClassId) (a : Nat → Nat) (S : Nat → Nat → Int32) (L : Nat → Nat → Int64) (p1 : Int32) (r9 : Int32) (S9 : (Nat → Nat → Int32)) (hd : nX6_image S L p1 = some (r9, S9)) : ∀ sz : Nat, Met l yX6_image wsX6_image ({ frames := 4, cells := 0, slots := 0, locals := 103 }) (k_Pc D cs [.ref (a 0), .int p1] (wX6 cs a S L) sz) (k_Qi D r9 (wX6 cs a S L) (wX6 cs a S9 L) sz) 0 0 (va_A (wX6 cs a S L) sz) := by
  intro sz
  refine Met.ofW (cc := cX6_image) (maxL := 2) (ret := (some .int)) (by decide) rfl ?_
  intro p e s m args below meth c s₁ B hml hv
  obtain ⟨rfl, hsz, hP, hK, hD0, hNn⟩ := hv
  have hx := B.exec
  have hb := B.bytes
  have hr := B.returns
  have hts := atoms_spec (ws := wsX6_image) B.pre
  have hown : s.vm.findClass RX6 = some m.cls := findClass_of_methodNamed B.named
  have hlocks := B.notSynchronized
  subst hsz
  obtain ⟨A, hAe⟩ : ∃ A : Nat → Prop, A = va_A (wX6 cs a S L) s.heap.size := ⟨_, rfl⟩
  have hD : va_D A (wX6 cs a S L) := by rw [hAe]; exact hD0.self
  have hA : ∀ q : Nat, s.heap.size ≤ q → A q := fun q h => by rw [hAe]; exact Or.inr h
  have hS : va_S A s.heap s.heap [] := va_S.rf
  have hDA : ∀ (S : Nat → Nat → Int32) (L : Nat → Nat → Int64), va_D A (wX6 cs a S L) := fun S L => k_DA hD rfl
  have hl := lv_entry ([.ref (a 0), .int p1]) (n := 2) (Nat.le_of_ble_eq_true rfl)
  rw [lg_entry_eq]
  generalize (lg_sl ([.ref (a 0), .int p1]) ++ List.replicate (2 - (lg_sl ([.ref (a 0), .int p1])).length) Slot.unset).toArray = ls at hl ⊢
  have hl : lv_has ls 2 [(0, .ref (a 0)), (1, .int p1)] := hl
  obtain ⟨Q, hQ⟩ : ∃ Q, Q = MQ below (k_Qi D r9 (wX6 cs a S L) (wX6 cs a S9 L) s.heap.size) ([.ref (a 0), .int p1] : List Value).toArray s 0 0 (va_A (wX6 cs a S L) s.heap.size) := ⟨_, rfl⟩
  rw [← hQ]
  unfold nX6_image at hd
  refine lv_iload_n hx hb dX6_image_0 rfl (lv_at hl 1 rfl) ?_
  refine lv_iconst (v := (2 : Int32)) hx hb dX6_image_1 (by decide) ?_
  obtain ⟨r2, hq2, hd⟩ := dn_b1 hd
  have hPc := k_P0 hP
  have hDc : va_D A ([] : va_W) := k_D0
  have hF := k_self hDc hS hA
  refine k_run_i (va_runS (As := [.int p1, .int (2 : Int32)]) (rest := []) ⟨hx, hb, hml, hown, hts⟩ (mX6_upTo l D cs  p1 (2 : Int32) r2 hq2 _) (va_cwS 2 hts gX6_image_X6_upTo rfl rfl rfl (by decide +kernel) ⟨Nat.le_of_ble_eq_true rfl, Nat.le_of_ble_eq_true rfl⟩) ⟨k_blind, k_pre hPc hK hNn hDc⟩ rfl rfl hl.1 rfl (lv_room (Nat.le_of_ble_eq_true rfl)) dX6_image_2 ⟨Nat.le_of_ble_eq_true rfl, Nat.le_of_ble_eq_true rfl⟩) hS hF (fun H locs hP1 hk hS => ?_)
  have hP : va_P D vwCl (wX6 cs a S L) _ := k_keep hP hk
  refine lv_if_ne (tgt := 13) hx hb dX6_image_5 (by decide) (fun c5 => ?_) (fun c5 => ?_)
  · have hd := dn_f c5 hd
    refine lv_aload_n hx hb dX6_image_13 rfl (lv_at hl 0 rfl) ?_
    refine va_get (D := D) (ci := 4) (v := .ref (a 65)) (C := RX6) (T := TX6) (N := 12) hx hb hts (fun w h => List.mem_cons_of_mem _ (List.mem_append_left _ (List.mem_append_left _ (List.mem_append_right _ h)))) hown hK hP 0 rfl rfl 2 (by decide) (hts (.fieldLink RX6 19 "LeastNeed" "images" "[LLeastNeed$Valley;") (List.mem_of_getElem? (i := 1) rfl)) (fun _ h9 => h9) rfl dX6_image_14 ?_
    refine lv_iload_n hx hb dX6_image_17 rfl (lv_at hl 1 rfl) ?_
    by_cases e18_0 : p1 = (0 : Int32)
    · have hd := dn_t e18_0 hd
      refine k_aldq (D := D) (z := a 33) (by rw [e18_0]; rfl) hx hb hK hP 65 4 rfl rfl (by rw [e18_0]; exact k_in (by decide)) dX6_image_18 ?_
      refine lv_aload_n hx hb dX6_image_19 rfl (lv_at hl 0 rfl) ?_
      refine va_get (D := D) (ci := 4) (v := .ref (a 1)) (C := RX6) (T := TX6) (N := 12) hx hb hts (fun w h => List.mem_cons_of_mem _ (List.mem_append_left _ (List.mem_append_left _ (List.mem_append_right _ h)))) hown hK hP 0 rfl rfl 0 (by decide) (hts (.fieldLink RX6 12 "LeastNeed" "now" "LLeastNeed$Valley;") (List.mem_of_getElem? (i := 2) rfl)) (fun _ h9 => h9) rfl dX6_image_20 ?_
      obtain ⟨S23, hq23, hd⟩ := dn_b1 hd
      have hPc : va_P D vwCl (wX5 cs (k_wi a 33) (k_wi S 33) ++ wX5 cs (k_wi a 1) (k_wi S 1)) _ := k_sub hP [33, 34, 35, 36, 37, 38, 39, 40, 41, 42, 43, 44, 45, 46, 47, 48, 1, 2, 3, 4, 5, 6, 7, 8, 9, 10, 11, 12, 13, 14, 15, 16] (wcX6_X5_X5_33_1 cs a S L)
      have hDc : va_D A (wX5 cs (k_wi a 33) (k_wi S 33) ++ wX5 cs (k_wi a 1) (k_wi S 1)) := hD.sub [33, 34, 35, 36, 37, 38, 39, 40, 41, 42, 43, 44, 45, 46, 47, 48, 1, 2, 3, 4, 5, 6, 7, 8, 9, 10, 11, 12, 13, 14, 15, 16] (by decide +kernel) (wcX6_X5_X5_33_1 cs a S L)
      have hF := k_self hDc hS hA
      refine k_run_v (va_runV (As := [.ref (a 1)]) (rest := []) ⟨hx, hb, hml, hown, hts⟩ (mX5_copyOf l D cs (k_wi a 33) (k_wi a 1) (k_wi S 33) (k_wi S 1) S23 hq23 _) (cwV 1 hts gX6_image_X5_copyOf rfl rfl rfl (by decide +kernel) ⟨Nat.le_of_ble_eq_true rfl, Nat.le_of_ble_eq_true rfl⟩) ⟨k_blind, va_recv hK hP (ci := 3) (q0 := 33) rfl rfl, k_pre hPc hK hNn hDc⟩ rfl rfl hl.1 rfl (lv_room (Nat.le_of_ble_eq_true rfl)) dX6_image_23 ⟨Nat.le_of_ble_eq_true rfl, Nat.le_of_ble_eq_true rfl⟩) hS hF (fun H locs hP1 hk hS => ?_)
      have hP : va_P D vwCl (wX6 cs a (k_sp S 33 16 S23) L) _ := k_back hP hD [33, 34, 35, 36, 37, 38, 39, 40, 41, 42, 43, 44, 45, 46, 47, 48, 1, 2, 3, 4, 5, 6, 7, 8, 9, 10, 11, 12, 13, 14, 15, 16] [0, 17, 18, 19, 20, 21, 22, 23, 24, 25, 26, 27, 28, 29, 30, 31, 32, 49, 50, 51, 52, 53, 54, 55, 56, 57, 58, 59, 60, 61, 62, 63, 64, 65, 66, 67, 68, 69, 70, 71, 72, 73, 74, 75, 76, 77, 78] [0, 63, 64, 65, 66, 67, 68, 69, 70, 71, 72, 73, 74, 75, 76, 77, 78, 1, 2, 3, 4, 5, 6, 7, 8, 9, 10, 11, 12, 13, 14, 15, 16, 47, 48, 49, 50, 51, 52, 53, 54, 55, 56, 57, 58, 59, 60, 61, 62, 17, 18, 19, 20, 21, 22, 23, 24, 25, 26, 27, 28, 29, 30, 31, 32, 33, 34, 35, 36, 37, 38, 39, 40, 41, 42, 43, 44, 45, 46] (wcX6_X5_X5_33_1 cs a S L) (by decide +kernel) hk hP1 (wbX6_X5_X5_33_1_S0 cs a S L S23)
      have hD := hDA (k_sp S 33 16 S23) L
      refine lv_aload_n hx hb dX6_image_26 rfl (lv_at hl 0 rfl) ?_
      refine va_get (D := D) (ci := 4) (v := .ref (a 66)) (C := RX6) (T := TX6) (N := 12) hx hb hts (fun w h => List.mem_cons_of_mem _ (List.mem_append_left _ (List.mem_append_left _ (List.mem_append_right _ h)))) hown hK hP 0 rfl rfl 3 (by decide) (hts (.fieldLink RX6 23 "LeastNeed" "imageKept" "[Z") (List.mem_of_getElem? (i := 3) rfl)) (fun _ h9 => h9) rfl dX6_image_27 ?_
      refine lv_iload_n hx hb dX6_image_30 rfl (lv_at hl 1 rfl) ?_
      refine lv_iconst (v := (1 : Int32)) hx hb dX6_image_31 (by decide) ?_
      obtain ⟨hi32, hd⟩ := dn_i hd
      refine k_zast (D := D) (k := p1.toNatClampNeg) (by rfl) hx hb hK hP hD hS 66 3 rfl rfl hi32 dX6_image_32 (fun H locs hP hD hS => ?_)
      have hP : va_P D vwCl (wX6 cs a (k_w (k_sp S 33 16 S23) 66 p1.toNatClampNeg (vp_nar .boolean (1 : Int32))) L) _ := k_eq hP (wsX6_a66 cs a (k_sp S 33 16 S23) L p1.toNatClampNeg (vp_nar .boolean (1 : Int32)))
      have hD := hDA (k_w (k_sp S 33 16 S23) 66 p1.toNatClampNeg (vp_nar .boolean (1 : Int32))) L
      refine lv_iconst (v := (1 : Int32)) hx hb dX6_image_33 (by decide) ?_
      obtain ⟨e1, e2⟩ := dn_s2 hd
      exact k_iret hx hb hr hQ hAe e1 (by rw [e2]) hP hS hlocks dX6_image_34
    · have hd := dn_f e18_0 hd
      by_cases e18_1 : p1 = (1 : Int32)
      · have hd := dn_t e18_1 hd
        refine k_aldq (D := D) (z := a 49) (by rw [e18_1]; rfl) hx hb hK hP 65 4 rfl rfl (by rw [e18_1]; exact k_in (by decide)) dX6_image_18 ?_
        refine lv_aload_n hx hb dX6_image_19 rfl (lv_at hl 0 rfl) ?_
        refine va_get (D := D) (ci := 4) (v := .ref (a 1)) (C := RX6) (T := TX6) (N := 12) hx hb hts (fun w h => List.mem_cons_of_mem _ (List.mem_append_left _ (List.mem_append_left _ (List.mem_append_right _ h)))) hown hK hP 0 rfl rfl 0 (by decide) (hts (.fieldLink RX6 12 "LeastNeed" "now" "LLeastNeed$Valley;") (List.mem_of_getElem? (i := 2) rfl)) (fun _ h9 => h9) rfl dX6_image_20 ?_
        obtain ⟨S23, hq23, hd⟩ := dn_b1 hd
        have hPc : va_P D vwCl (wX5 cs (k_wi a 49) (k_wi S 49) ++ wX5 cs (k_wi a 1) (k_wi S 1)) _ := k_sub hP [49, 50, 51, 52, 53, 54, 55, 56, 57, 58, 59, 60, 61, 62, 63, 64, 1, 2, 3, 4, 5, 6, 7, 8, 9, 10, 11, 12, 13, 14, 15, 16] (wcX6_X5_X5_49_1 cs a S L)
        have hDc : va_D A (wX5 cs (k_wi a 49) (k_wi S 49) ++ wX5 cs (k_wi a 1) (k_wi S 1)) := hD.sub [49, 50, 51, 52, 53, 54, 55, 56, 57, 58, 59, 60, 61, 62, 63, 64, 1, 2, 3, 4, 5, 6, 7, 8, 9, 10, 11, 12, 13, 14, 15, 16] (by decide +kernel) (wcX6_X5_X5_49_1 cs a S L)
        have hF := k_self hDc hS hA
        refine k_run_v (va_runV (As := [.ref (a 1)]) (rest := []) ⟨hx, hb, hml, hown, hts⟩ (mX5_copyOf l D cs (k_wi a 49) (k_wi a 1) (k_wi S 49) (k_wi S 1) S23 hq23 _) (cwV 1 hts gX6_image_X5_copyOf rfl rfl rfl (by decide +kernel) ⟨Nat.le_of_ble_eq_true rfl, Nat.le_of_ble_eq_true rfl⟩) ⟨k_blind, va_recv hK hP (ci := 3) (q0 := 49) rfl rfl, k_pre hPc hK hNn hDc⟩ rfl rfl hl.1 rfl (lv_room (Nat.le_of_ble_eq_true rfl)) dX6_image_23 ⟨Nat.le_of_ble_eq_true rfl, Nat.le_of_ble_eq_true rfl⟩) hS hF (fun H locs hP1 hk hS => ?_)
        have hP : va_P D vwCl (wX6 cs a (k_sp S 49 16 S23) L) _ := k_back hP hD [49, 50, 51, 52, 53, 54, 55, 56, 57, 58, 59, 60, 61, 62, 63, 64, 1, 2, 3, 4, 5, 6, 7, 8, 9, 10, 11, 12, 13, 14, 15, 16] [0, 17, 18, 19, 20, 21, 22, 23, 24, 25, 26, 27, 28, 29, 30, 31, 32, 33, 34, 35, 36, 37, 38, 39, 40, 41, 42, 43, 44, 45, 46, 47, 48, 65, 66, 67, 68, 69, 70, 71, 72, 73, 74, 75, 76, 77, 78] [0, 63, 64, 65, 66, 67, 68, 69, 70, 71, 72, 73, 74, 75, 76, 77, 78, 1, 2, 3, 4, 5, 6, 7, 8, 9, 10, 11, 12, 13, 14, 15, 16, 17, 18, 19, 20, 21, 22, 23, 24, 25, 26, 27, 28, 29, 30, 31, 32, 47, 48, 49, 50, 51, 52, 53, 54, 55, 56, 57, 58, 59, 60, 61, 62, 33, 34, 35, 36, 37, 38, 39, 40, 41, 42, 43, 44, 45, 46] (wcX6_X5_X5_49_1 cs a S L) (by decide +kernel) hk hP1 (wbX6_X5_X5_49_1_S0 cs a S L S23)
        have hD := hDA (k_sp S 49 16 S23) L
        refine lv_aload_n hx hb dX6_image_26 rfl (lv_at hl 0 rfl) ?_
        refine va_get (D := D) (ci := 4) (v := .ref (a 66)) (C := RX6) (T := TX6) (N := 12) hx hb hts (fun w h => List.mem_cons_of_mem _ (List.mem_append_left _ (List.mem_append_left _ (List.mem_append_right _ h)))) hown hK hP 0 rfl rfl 3 (by decide) (hts (.fieldLink RX6 23 "LeastNeed" "imageKept" "[Z") (List.mem_of_getElem? (i := 3) rfl)) (fun _ h9 => h9) rfl dX6_image_27 ?_
        refine lv_iload_n hx hb dX6_image_30 rfl (lv_at hl 1 rfl) ?_
        refine lv_iconst (v := (1 : Int32)) hx hb dX6_image_31 (by decide) ?_
        obtain ⟨hi32, hd⟩ := dn_i hd
        refine k_zast (D := D) (k := p1.toNatClampNeg) (by rfl) hx hb hK hP hD hS 66 3 rfl rfl hi32 dX6_image_32 (fun H locs hP hD hS => ?_)
        have hP : va_P D vwCl (wX6 cs a (k_w (k_sp S 49 16 S23) 66 p1.toNatClampNeg (vp_nar .boolean (1 : Int32))) L) _ := k_eq hP (wsX6_a66 cs a (k_sp S 49 16 S23) L p1.toNatClampNeg (vp_nar .boolean (1 : Int32)))
        have hD := hDA (k_w (k_sp S 49 16 S23) 66 p1.toNatClampNeg (vp_nar .boolean (1 : Int32))) L
        refine lv_iconst (v := (1 : Int32)) hx hb dX6_image_33 (by decide) ?_
        obtain ⟨e1, e2⟩ := dn_s2 hd
        exact k_iret hx hb hr hQ hAe e1 (by rw [e2]) hP hS hlocks dX6_image_34
      · have hd := dn_f e18_1 hd
        cases hd
  · have hd := dn_t c5 hd
    refine lv_aload_n hx hb dX6_image_8 rfl (lv_at hl 0 rfl) ?_
    obtain ⟨r9, S9, hq9, hd⟩ := dn_b2 hd
    have hF := k_self hD hS hA
    refine k_run_i (va_runV (As := []) (rest := []) ⟨hx, hb, hml, hown, hts⟩ (mX6_refusedAsBad l D cs a S L r9 S9 hq9 _) (cwV 0 hts gX6_image_X6_refusedAsBad rfl rfl rfl (by decide +kernel) ⟨Nat.le_of_ble_eq_true rfl, Nat.le_of_ble_eq_true rfl⟩) ⟨k_blind, va_recv hK hP (ci := 4) (q0 := 0) rfl rfl, k_pre hP hK hNn hD⟩ rfl rfl hl.1 rfl (lv_room (Nat.le_of_ble_eq_true rfl)) dX6_image_9 ⟨Nat.le_of_ble_eq_true rfl, Nat.le_of_ble_eq_true rfl⟩) hS hF (fun H locs hP1 hk hS => ?_)
    have hP : va_P D vwCl (wX6 cs a S9 L) _ := hP1
    have hD := hDA S9 L
    obtain ⟨e1, e2⟩ := dn_s2 hd
    exact k_iret hx hb hr hQ hAe e1 (by rw [e2]) hP hS hlocks dX6_image_12
