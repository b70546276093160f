set_option maxRecDepth 20000 in
theorem wcX6_X5_1 (cs : Nat → ClassId) (a : Nat → Nat) (S : Nat → Nat → Int32) (L : Nat → Nat → Int64) : ([1, 2, 3, 4, 5, 6, 7, 8, 9, 10, 11, 12, 13, 14, 15, 16] : List Nat).map (fun i => (wX6 cs a S L)[i]?) = (wX5 cs (k_wi a 1) (k_wi S 1)).map some := rfl
set_option maxRecDepth 20000 in
theorem wbX6_X5_1_S0 (cs : Nat → ClassId) (a : Nat → Nat) (S : Nat → Nat → Int32) (L : Nat → Nat → Int64) (VS0 : Nat → Nat → Int32) : ([0, 63, 64, 65, 66, 67, 68, 69, 70, 71, 72, 73, 74, 75, 76, 77, 78, 1, 2, 3, 4, 5, 6, 7, 8, 9, 10, 11, 12, 13, 14, 15, 16, 17, 18, 19, 20, 21, 22, 23, 24, 25, 26, 27, 28, 29, 30, 31, 32, 33, 34, 35, 36, 37, 38, 39, 40, 41, 42, 43, 44, 45, 46, 47, 48, 49, 50, 51, 52, 53, 54, 55, 56, 57, 58, 59, 60, 61, 62] : List Nat).map (fun i => (([0, 17, 18, 19, 20, 21, 22, 23, 24, 25, 26, 27, 28, 29, 30, 31, 32, 33, 34, 35, 36, 37, 38, 39, 40, 41, 42, 43, 44, 45, 46, 47, 48, 49, 50, 51, 52, 53, 54, 55, 56, 57, 58, 59, 60, 61, 62, 63, 64, 65, 66, 67, 68, 69, 70, 71, 72, 73, 74, 75, 76, 77, 78] : List Nat).filterMap (fun i => (wX6 cs a S L)[i]?) ++ (wX5 cs (k_wi a 1) VS0))[i]?) = (wX6 cs a (k_sp S 1 16 VS0) L).map some := rfl
theorem wsX6_a75 (cs : Nat → ClassId) (a : Nat → Nat) (S : Nat → Nat → Int32) (L : Nat → Nat → Int64) (k : Nat) (x : Int32) : List.set (wX6 cs a S L) 75 (a 75, .inl (cs 1, 3, .inl (upd (S 75) k x))) = (wX6 cs a (k_w S 75 k x) L) := rfl
set_option maxRecDepth 20000 in
theorem wcX6_X2_67 (cs : Nat → ClassId) (a : Nat → Nat) (S : Nat → Nat → Int32) (L : Nat → Nat → Int64) : ([67, 68, 69] : List Nat).map (fun i => (wX6 cs a S L)[i]?) = (wX2 cs (k_wi a 67) (k_wi S 67)).map some := rfl
set_option maxRecDepth 20000 in
theorem wbX6_X2_67_S0 (cs : Nat → ClassId) (a : Nat → Nat) (S : Nat → Nat → Int32) (L : Nat → Nat → Int64) (VS0 : Nat → Nat → Int32) : ([0, 1, 2, 3, 4, 5, 6, 7, 8, 9, 10, 11, 12, 13, 14, 15, 16, 17, 18, 19, 20, 21, 22, 23, 24, 25, 26, 27, 28, 29, 30, 31, 32, 33, 34, 35, 36, 37, 38, 39, 40, 41, 42, 43, 44, 45, 46, 47, 48, 49, 50, 51, 52, 53, 54, 55, 56, 57, 58, 59, 60, 61, 62, 63, 64, 65, 66, 76, 77, 78, 67, 68, 69, 70, 71, 72, 73, 74, 75] : List Nat).map (fun i => (([0, 1, 2, 3, 4, 5, 6, 7, 8, 9, 10, 11, 12, 13, 14, 15, 16, 17, 18, 19, 20, 21, 22, 23, 24, 25, 26, 27, 28, 29, 30, 31, 32, 33, 34, 35, 36, 37, 38, 39, 40, 41, 42, 43, 44, 45, 46, 47, 48, 49, 50, 51, 52, 53, 54, 55, 56, 57, 58, 59, 60, 61, 62, 63, 64, 65, 66, 70, 71, 72, 73, 74, 75, 76, 77, 78] : List Nat).filterMap (fun i => (wX6 cs a S L)[i]?) ++ (wX2 cs (k_wi a 67) VS0))[i]?) = (wX6 cs a (k_sp S 67 3 VS0) L).map some := rfl
theorem wsX6_f67_2 (cs : Nat → ClassId) (a : Nat → Nat) (S : Nat → Nat → Int32) (L : Nat → Nat → Int64) (x : Int32) : List.set (wX6 cs a S L) 67 (a 67, .inr (1, ([.ref (a 68), .ref (a 69), .int (S 67 2), .int (S 67 3), .int (S 67 4), .int (S 67 5)] : List Value).set 2 (.int x))) = (wX6 cs a (k_w S 67 2 x) L) := rfl
theorem wsX6_a10 (cs : Nat → ClassId) (a : Nat → Nat) (S : Nat → Nat → Int32) (L : Nat → Nat → Int64) (k : Nat) (x : Int32) : List.set (wX6 cs a S L) 10 (a 10, .inl (cs 1, 5, .inl (upd (S 10) k x))) = (wX6 cs a (k_w S 10 k x) L) := rfl
set_option maxRecDepth 20000 in
theorem wbX6_X5_1 (cs : Nat → ClassId) (a : Nat → Nat) (S : Nat → Nat → Int32) (L : Nat → Nat → Int64) : ([0, 63, 64, 65, 66, 67, 68, 69, 70, 71, 72, 73, 74, 75, 76, 77, 78, 1, 2, 3, 4, 5, 6, 7, 8, 9, 10, 11, 12, 13, 14, 15, 16, 17, 18, 19, 20, 21, 22, 23, 24, 25, 26, 27, 28, 29, 30, 31, 32, 33, 34, 35, 36, 37, 38, 39, 40, 41, 42, 43, 44, 45, 46, 47, 48, 49, 50, 51, 52, 53, 54, 55, 56, 57, 58, 59, 60, 61, 62] : List Nat).map (fun i => (([0, 17, 18, 19, 20, 21, 22, 23, 24, 25, 26, 27, 28, 29, 30, 31, 32, 33, 34, 35, 36, 37, 38, 39, 40, 41, 42, 43, 44, 45, 46, 47, 48, 49, 50, 51, 52, 53, 54, 55, 56, 57, 58, 59, 60, 61, 62, 63, 64, 65, 66, 67, 68, 69, 70, 71, 72, 73, 74, 75, 76, 77, 78] : List Nat).filterMap (fun i => (wX6 cs a S L)[i]?) ++ (wX5 cs (k_wi a 1) (k_wi S 1)))[i]?) = (wX6 cs a S L).map some := rfl
theorem wsX6_a9 (cs : Nat → ClassId) (a : Nat → Nat) (S : Nat → Nat → Int32) (L : Nat → Nat → Int64) (k : Nat) (x : Int32) : List.set (wX6 cs a S L) 9 (a 9, .inl (cs 1, 5, .inl (upd (S 9) k x))) = (wX6 cs a (k_w S 9 k x) L) := rfl
theorem wsX6_a4 (cs : Nat → ClassId) (a : Nat → Nat) (S : Nat → Nat → Int32) (L : Nat → Nat → Int64) (k : Nat) (x : Int32) : List.set (wX6 cs a S L) 4 (a 4, .inl (cs 1, 7, .inl (upd (S 4) k x))) = (wX6 cs a (k_w S 4 k x) L) := rfl
theorem wsX6_a77 (cs : Nat → ClassId) (a : Nat → Nat) (S : Nat → Nat → Int32) (L : Nat → Nat → Int64) (k : Nat) (x : Int32) : List.set (wX6 cs a S L) 77 (a 77, .inl (cs 1, 8, .inl (upd (S 77) k x))) = (wX6 cs a (k_w S 77 k x) L) := rfl
set_option maxRecDepth 20000 in
theorem wcX6_aI_77 (cs : Nat → ClassId) (a : Nat → Nat) (S : Nat → Nat → Int32) (L : Nat → Nat → Int64) : ([77] : List Nat).map (fun i => (wX6 cs a S L)[i]?) = (wAI cs 8 (k_wi a 77) (k_wi S 77)).map some := rfl
set_option maxRecDepth 20000 in
theorem wbX6_aI_77 (cs : Nat → ClassId) (a : Nat → Nat) (S : Nat → Nat → Int32) (L : Nat → Nat → Int64) : ([0, 1, 2, 3, 4, 5, 6, 7, 8, 9, 10, 11, 12, 13, 14, 15, 16, 17, 18, 19, 20, 21, 22, 23, 24, 25, 26, 27, 28, 29, 30, 31, 32, 33, 34, 35, 36, 37, 38, 39, 40, 41, 42, 43, 44, 45, 46, 47, 48, 49, 50, 51, 52, 53, 54, 55, 56, 57, 58, 59, 60, 61, 62, 63, 64, 65, 66, 67, 68, 69, 70, 71, 72, 73, 74, 75, 76, 78, 77] : List Nat).map (fun i => (([0, 1, 2, 3, 4, 5, 6, 7, 8, 9, 10, 11, 12, 13, 14, 15, 16, 17, 18, 19, 20, 21, 22, 23, 24, 25, 26, 27, 28, 29, 30, 31, 32, 33, 34, 35, 36, 37, 38, 39, 40, 41, 42, 43, 44, 45, 46, 47, 48, 49, 50, 51, 52, 53, 54, 55, 56, 57, 58, 59, 60, 61, 62, 63, 64, 65, 66, 67, 68, 69, 70, 71, 72, 73, 74, 75, 76, 78] : List Nat).filterMap (fun i => (wX6 cs a S L)[i]?) ++ (wAI cs 8 (k_wi a 77) (k_wi S 77)))[i]?) = (wX6 cs a S L).map some := rfl
set_option maxRecDepth 20000 in
theorem wcX6_X0_X5_70_1 (cs : Nat → ClassId) (a : Nat → Nat) (S : Nat → Nat → Int32) (L : Nat → Nat → Int64) : ([70, 71, 72, 73, 74, 1, 2, 3, 4, 5, 6, 7, 8, 9, 10, 11, 12, 13, 14, 15, 16] : List Nat).map (fun i => (wX6 cs a S L)[i]?) = (wX0 cs (k_wi a 70) (k_wi S 70) (k_wi L 70) ++ wX5 cs (k_wi a 1) (k_wi S 1)).map some := rfl
set_option maxRecDepth 20000 in
theorem wbX6_X0_X5_70_1_S0L0 (cs : Nat → ClassId) (a : Nat → Nat) (S : Nat → Nat → Int32) (L : Nat → Nat → Int64) (VS0 : Nat → Nat → Int32) (VL0 : Nat → Nat → Int64) : ([0, 63, 64, 65, 66, 67, 68, 69, 70, 71, 72, 73, 74, 75, 76, 77, 78, 1, 2, 3, 4, 5, 6, 7, 8, 9, 10, 11, 12, 13, 14, 15, 16, 17, 18, 19, 20, 21, 22, 23, 24, 25, 26, 27, 28, 29, 30, 31, 32, 33, 34, 35, 36, 37, 38, 39, 40, 41, 42, 43, 44, 45, 46, 47, 48, 49, 50, 51, 52, 53, 58, 59, 60, 61, 62, 54, 55, 56, 57] : List Nat).map (fun i => (([0, 17, 18, 19, 20, 21, 22, 23, 24, 25, 26, 27, 28, 29, 30, 31, 32, 33, 34, 35, 36, 37, 38, 39, 40, 41, 42, 43, 44, 45, 46, 47, 48, 49, 50, 51, 52, 53, 54, 55, 56, 57, 58, 59, 60, 61, 62, 63, 64, 65, 66, 67, 68, 69, 75, 76, 77, 78] : List Nat).filterMap (fun i => (wX6 cs a S L)[i]?) ++ (wX0 cs (k_wi a 70) VS0 VL0 ++ wX5 cs (k_wi a 1) (k_wi S 1)))[i]?) = (wX6 cs a (k_sp S 70 5 VS0) (k_sp L 70 5 VL0)).map some := rfl
set_option maxRecDepth 20000 in
theorem wcX6_X5_X5_17_1 (cs : Nat → ClassId) (a : Nat → Nat) (S : Nat → Nat → Int32) (L : Nat → Nat → Int64) : ([17, 18, 19, 20, 21, 22, 23, 24, 25, 26, 27, 28, 29, 30, 31, 32, 1, 2, 3, 4, 5, 6, 7, 8, 9, 10, 11, 12, 13, 14, 15, 16] : List Nat).map (fun i => (wX6 cs a S L)[i]?) = (wX5 cs (k_wi a 17) (k_wi S 17) ++ wX5 cs (k_wi a 1) (k_wi S 1)).map some := rfl
set_option maxRecDepth 20000 in
theorem wbX6_X5_X5_17_1_S0 (cs : Nat → ClassId) (a : Nat → Nat) (S : Nat → Nat → Int32) (L : Nat → Nat → Int64) (VS0 : Nat → Nat → Int32) : ([0, 63, 64, 65, 66, 67, 68, 69, 70, 71, 72, 73, 74, 75, 76, 77, 78, 47, 48, 49, 50, 51, 52, 53, 54, 55, 56, 57, 58, 59, 60, 61, 62, 1, 2, 3, 4, 5, 6, 7, 8, 9, 10, 11, 12, 13, 14, 15, 16, 17, 18, 19, 20, 21, 22, 23, 24, 25, 26, 27, 28, 29, 30, 31, 32, 33, 34, 35, 36, 37, 38, 39, 40, 41, 42, 43, 44, 45, 46] : List Nat).map (fun i => (([0, 33, 34, 35, 36, 37, 38, 39, 40, 41, 42, 43, 44, 45, 46, 47, 48, 49, 50, 51, 52, 53, 54, 55, 56, 57, 58, 59, 60, 61, 62, 63, 64, 65, 66, 67, 68, 69, 70, 71, 72, 73, 74, 75, 76, 77, 78] : List Nat).filterMap (fun i => (wX6 cs a S L)[i]?) ++ (wX5 cs (k_wi a 17) VS0 ++ wX5 cs (k_wi a 1) (k_wi S 1)))[i]?) = (wX6 cs a (k_sp S 17 16 VS0) L).map some := rfl
theorem wsX6_a20 (cs : Nat → ClassId) (a : Nat → Nat) (S : Nat → Nat → Int32) (L : Nat → Nat → Int64) (k : Nat) (x : Int32) : List.set (wX6 cs a S L) 20 (a 20, .inl (cs 1, 7, .inl (upd (S 20) k x))) = (wX6 cs a (k_w S 20 k x) L) := rfl
set_option maxRecDepth 20000 in
theorem wcX6_X5_17 (cs : Nat → ClassId) (a : Nat → Nat) (S : Nat → Nat → Int32) (L : Nat → Nat → Int64) : ([17, 18, 19, 20, 21, 22, 23, 24, 25, 26, 27, 28, 29, 30, 31, 32] : List Nat).map (fun i => (wX6 cs a S L)[i]?) = (wX5 cs (k_wi a 17) (k_wi S 17)).map some := rfl
set_option maxRecDepth 20000 in
theorem wbX6_X5_17 (cs : Nat → ClassId) (a : Nat → Nat) (S : Nat → Nat → Int32) (L : Nat → Nat → Int64) : ([0, 1, 2, 3, 4, 5, 6, 7, 8, 9, 10, 11, 12, 13, 14, 15, 16, 63, 64, 65, 66, 67, 68, 69, 70, 71, 72, 73, 74, 75, 76, 77, 78, 17, 18, 19, 20, 21, 22, 23, 24, 25, 26, 27, 28, 29, 30, 31, 32, 33, 34, 35, 36, 37, 38, 39, 40, 41, 42, 43, 44, 45, 46, 47, 48, 49, 50, 51, 52, 53, 54, 55, 56, 57, 58, 59, 60, 61, 62] : List Nat).map (fun i => (([0, 1, 2, 3, 4, 5, 6, 7, 8, 9, 10, 11, 12, 13, 14, 15, 16, 33, 34, 35, 36, 37, 38, 39, 40, 41, 42, 43, 44, 45, 46, 47, 48, 49, 50, 51, 52, 53, 54, 55, 56, 57, 58, 59, 60, 61, 62, 63, 64, 65, 66, 67, 68, 69, 70, 71, 72, 73, 74, 75, 76, 77, 78] : List Nat).filterMap (fun i => (wX6 cs a S L)[i]?) ++ (wX5 cs (k_wi a 17) (k_wi S 17)))[i]?) = (wX6 cs a S L).map some := rfl
set_option maxRecDepth 20000 in
theorem wcX6_X3_11 (cs : Nat → ClassId) (a : Nat → Nat) (S : Nat → Nat → Int32) (L : Nat → Nat → Int64) : ([11, 12] : List Nat).map (fun i => (wX6 cs a S L)[i]?) = (wX3 cs 36 (6 : Int32) (6 : Int32) (k_wi a 11) (k_wi S 11)).map some := rfl
set_option maxRecDepth 20000 in
theorem wbX6_X3_11 (cs : Nat → ClassId) (a : Nat → Nat) (S : Nat → Nat → Int32) (L : Nat → Nat → Int64) : ([0, 1, 2, 3, 4, 5, 6, 7, 8, 9, 10, 77, 78, 11, 12, 13, 14, 15, 16, 17, 18, 19, 20, 21, 22, 23, 24, 25, 26, 27, 28, 29, 30, 31, 32, 33, 34, 35, 36, 37, 38, 39, 40, 41, 42, 43, 44, 45, 46, 47, 48, 49, 50, 51, 52, 53, 54, 55, 56, 57, 58, 59, 60, 61, 62, 63, 64, 65, 66, 67, 68, 69, 70, 71, 72, 73, 74, 75, 76] : List Nat).map (fun i => (([0, 1, 2, 3, 4, 5, 6, 7, 8, 9, 10, 13, 14, 15, 16, 17, 18, 19, 20, 21, 22, 23, 24, 25, 26, 27, 28, 29, 30, 31, 32, 33, 34, 35, 36, 37, 38, 39, 40, 41, 42, 43, 44, 45, 46, 47, 48, 49, 50, 51, 52, 53, 54, 55, 56, 57, 58, 59, 60, 61, 62, 63, 64, 65, 66, 67, 68, 69, 70, 71, 72, 73, 74, 75, 76, 77, 78] : List Nat).filterMap (fun i => (wX6 cs a S L)[i]?) ++ (wX3 cs 36 (6 : Int32) (6 : Int32) (k_wi a 11) (k_wi S 11)))[i]?) = (wX6 cs a S L).map some := rfl
set_option maxRecDepth 20000 in
theorem wbX6_X3_11_S0 (cs : Nat → ClassId) (a : Nat → Nat) (S : Nat → Nat → Int32) (L : Nat → Nat → Int64) (VS0 : Nat → Nat → Int32) : ([0, 1, 2, 3, 4, 5, 6, 7, 8, 9, 10, 77, 78, 11, 12, 13, 14, 15, 16, 17, 18, 19, 20, 21, 22, 23, 24, 25, 26, 27, 28, 29, 30, 31, 32, 33, 34, 35, 36, 37, 38, 39, 40, 41, 42, 43, 44, 45, 46, 47, 48, 49, 50, 51, 52, 53, 54, 55, 56, 57, 58, 59, 60, 61, 62, 63, 64, 65, 66, 67, 68, 69, 70, 71, 72, 73, 74, 75, 76] : List Nat).map (fun i => (([0, 1, 2, 3, 4, 5, 6, 7, 8, 9, 10, 13, 14, 15, 16, 17, 18, 19, 20, 21, 22, 23, 24, 25, 26, 27, 28, 29, 30, 31, 32, 33, 34, 35, 36, 37, 38, 39, 40, 41, 42, 43, 44, 45, 46, 47, 48, 49, 50, 51, 52, 53, 54, 55, 56, 57, 58, 59, 60, 61, 62, 63, 64, 65, 66, 67, 68, 69, 70, 71, 72, 73, 74, 75, 76, 77, 78] : List Nat).filterMap (fun i => (wX6 cs a S L)[i]?) ++ (wX3 cs 36 (6 : Int32) (6 : Int32) (k_wi a 11) VS0))[i]?) = (wX6 cs a (k_sp S 11 2 VS0) L).map some := rfl
set_option maxRecDepth 20000 in
theorem wcX6_X3_13 (cs : Nat → ClassId) (a : Nat → Nat) (S : Nat → Nat → Int32) (L : Nat → Nat → Int64) : ([13, 14] : List Nat).map (fun i => (wX6 cs a S L)[i]?) = (wX3 cs 24 (4 : Int32) (6 : Int32) (k_wi a 13) (k_wi S 13)).map some := rfl
set_option maxRecDepth 20000 in
theorem wbX6_X3_13 (cs : Nat → ClassId) (a : Nat → Nat) (S : Nat → Nat → Int32) (L : Nat → Nat → Int64) : ([0, 1, 2, 3, 4, 5, 6, 7, 8, 9, 10, 11, 12, 77, 78, 13, 14, 15, 16, 17, 18, 19, 20, 21, 22, 23, 24, 25, 26, 27, 28, 29, 30, 31, 32, 33, 34, 35, 36, 37, 38, 39, 40, 41, 42, 43, 44, 45, 46, 47, 48, 49, 50, 51, 52, 53, 54, 55, 56, 57, 58, 59, 60, 61, 62, 63, 64, 65, 66, 67, 68, 69, 70, 71, 72, 73, 74, 75, 76] : List Nat).map (fun i => (([0, 1, 2, 3, 4, 5, 6, 7, 8, 9, 10, 11, 12, 15, 16, 17, 18, 19, 20, 21, 22, 23, 24, 25, 26, 27, 28, 29, 30, 31, 32, 33, 34, 35, 36, 37, 38, 39, 40, 41, 42, 43, 44, 45, 46, 47, 48, 49, 50, 51, 52, 53, 54, 55, 56, 57, 58, 59, 60, 61, 62, 63, 64, 65, 66, 67, 68, 69, 70, 71, 72, 73, 74, 75, 76, 77, 78] : List Nat).filterMap (fun i => (wX6 cs a S L)[i]?) ++ (wX3 cs 24 (4 : Int32) (6 : Int32) (k_wi a 13) (k_wi S 13)))[i]?) = (wX6 cs a S L).map some := rfl
set_option maxRecDepth 20000 in
theorem wbX6_X3_13_S0 (cs : Nat → ClassId) (a : Nat → Nat) (S : Nat → Nat → Int32) (L : Nat → Nat → Int64) (VS0 : Nat → Nat → Int32) : ([0, 1, 2, 3, 4, 5, 6, 7, 8, 9, 10, 11, 12, 77, 78, 13, 14, 15, 16, 17, 18, 19, 20, 21, 22, 23, 24, 25, 26, 27, 28, 29, 30, 31, 32, 33, 34, 35, 36, 37, 38, 39, 40, 41, 42, 43, 44, 45, 46, 47, 48, 49, 50, 51, 52, 53, 54, 55, 56, 57, 58, 59, 60, 61, 62, 63, 64, 65, 66, 67, 68, 69, 70, 71, 72, 73, 74, 75, 76] : List Nat).map (fun i => (([0, 1, 2, 3, 4, 5, 6, 7, 8, 9, 10, 11, 12, 15, 16, 17, 18, 19, 20, 21, 22, 23, 24, 25, 26, 27, 28, 29, 30, 31, 32, 33, 34, 35, 36, 37, 38, 39, 40, 41, 42, 43, 44, 45, 46, 47, 48, 49, 50, 51, 52, 53, 54, 55, 56, 57, 58, 59, 60, 61, 62, 63, 64, 65, 66, 67, 68, 69, 70, 71, 72, 73, 74, 75, 76, 77, 78] : List Nat).filterMap (fun i => (wX6 cs a S L)[i]?) ++ (wX3 cs 24 (4 : Int32) (6 : Int32) (k_wi a 13) VS0))[i]?) = (wX6 cs a (k_sp S 13 2 VS0) L).map some := rfl
theorem wsX6_f13_3 (cs : Nat → ClassId) (a : Nat → Nat) (S : Nat → Nat → Int32) (L : Nat → Nat → Int64) (x : Int32) : List.set (wX6 cs a S L) 13 (a 13, .inr (2, ([.int 4, .int 6, .ref (a 14), .int (S 13 3)] : List Value).set 3 (.int x))) = (wX6 cs a (k_w S 13 3 x) L) := rfl
theorem wsX6_f11_3 (cs : Nat → ClassId) (a : Nat → Nat) (S : Nat → Nat → Int32) (L : Nat → Nat → Int64) (x : Int32) : List.set (wX6 cs a S L) 11 (a 11, .inr (2, ([.int 6, .int 6, .ref (a 12), .int (S 11 3)] : List Value).set 3 (.int x))) = (wX6 cs a (k_w S 11 3 x) L) := rfl
set_option maxRecDepth 20000 in
theorem wcX6_aI_76 (cs : Nat → ClassId) (a : Nat → Nat) (S : Nat → Nat → Int32) (L : Nat → Nat → Int64) : ([76] : List Nat).map (fun i => (wX6 cs a S L)[i]?) = (wAI cs 6 (k_wi a 76) (k_wi S 76)).map some := rfl
set_option maxRecDepth 20000 in
theorem wbX6_aI_76 (cs : Nat → ClassId) (a : Nat → Nat) (S : Nat → Nat → Int32) (L : Nat → Nat → Int64) : ([0, 1, 2, 3, 4, 5, 6, 7, 8, 9, 10, 11, 12, 13, 14, 15, 16, 17, 18, 19, 20, 21, 22, 23, 24, 25, 26, 27, 28, 29, 30, 31, 32, 33, 34, 35, 36, 37, 38, 39, 40, 41, 42, 43, 44, 45, 46, 47, 48, 49, 50, 51, 52, 53, 54, 55, 56, 57, 58, 59, 60, 61, 62, 63, 64, 65, 66, 67, 68, 69, 70, 71, 72, 73, 74, 75, 78, 76, 77] : List Nat).map (fun i => (([0, 1, 2, 3, 4, 5, 6, 7, 8, 9, 10, 11, 12, 13, 14, 15, 16, 17, 18, 19, 20, 21, 22, 23, 24, 25, 26, 27, 28, 29, 30, 31, 32, 33, 34, 35, 36, 37, 38, 39, 40, 41, 42, 43, 44, 45, 46, 47, 48, 49, 50, 51, 52, 53, 54, 55, 56, 57, 58, 59, 60, 61, 62, 63, 64, 65, 66, 67, 68, 69, 70, 71, 72, 73, 74, 75, 77, 78] : List Nat).filterMap (fun i => (wX6 cs a S L)[i]?) ++ (wAI cs 6 (k_wi a 76) (k_wi S 76)))[i]?) = (wX6 cs a S L).map some := rfl
theorem wsX6_a76 (cs : Nat → ClassId) (a : Nat → Nat) (S : Nat → Nat → Int32) (L : Nat → Nat → Int64) (k : Nat) (x : Int32) : List.set (wX6 cs a S L) 76 (a 76, .inl (cs 1, 6, .inl (upd (S 76) k x))) = (wX6 cs a (k_w S 76 k x) L) := rfl
theorem wsX6_a78 (cs : Nat → ClassId) (a : Nat → Nat) (S : Nat → Nat → Int32) (L : Nat → Nat → Int64) (k : Nat) (x : Int32) : List.set (wX6 cs a S L) 78 (a 78, .inl (cs 1, 36, .inl (upd (S 78) k x))) = (wX6 cs a (k_w S 78 k x) L) := rfl
set_option maxRecDepth 20000 in
theorem wbX6_X0_X5_70_1_L0 (cs : Nat → ClassId) (a : Nat → Nat) (S : Nat → Nat → Int32) (L : Nat → Nat → Int64) (VL0 : Nat → Nat → Int64) : ([0, 63, 64, 65, 66, 67, 68, 69, 70, 71, 72, 73, 74, 75, 76, 77, 78, 1, 2, 3, 4, 5, 6, 7, 8, 9, 10, 11, 12, 13, 14, 15, 16, 17, 18, 19, 20, 21, 22, 23, 24, 25, 26, 27, 28, 29, 30, 31, 32, 33, 34, 35, 36, 37, 38, 39, 40, 41, 42, 43, 44, 45, 46, 47, 48, 49, 50, 51, 52, 53, 58, 59, 60, 61, 62, 54, 55, 56, 57] : List Nat).map (fun i => (([0, 17, 18, 19, 20, 21, 22, 23, 24, 25, 26, 27, 28, 29, 30, 31, 32, 33, 34, 35, 36, 37, 38, 39, 40, 41, 42, 43, 44, 45, 46, 47, 48, 49, 50, 51, 52, 53, 54, 55, 56, 57, 58, 59, 60, 61, 62, 63, 64, 65, 66, 67, 68, 69, 75, 76, 77, 78] : List Nat).filterMap (fun i => (wX6 cs a S L)[i]?) ++ (wX0 cs (k_wi a 70) (k_wi S 70) VL0 ++ wX5 cs (k_wi a 1) (k_wi S 1)))[i]?) = (wX6 cs a S (k_sp L 70 5 VL0)).map some := rfl
theorem wsX6_f0_10 (cs : Nat → ClassId) (a : Nat → Nat) (S : Nat → Nat → Int32) (L : Nat → Nat → Int64) (x : Int64) : List.set (wX6 cs a S L) 0 (a 0, .inr (4, ([.ref (a 1), .ref (a 17), .ref (a 65), .ref (a 66), .ref (a 67), .ref (a 70), .ref (a 75), .ref (a 76), .ref (a 77), .ref (a 78), .long (L 0 10), .long (L 0 11)] : List Value).set 10 (.long x))) = (wX6 cs a S (k_wl L 0 10 x)) := rfl
theorem wsX6_f0_11 (cs : Nat → ClassId) (a : Nat → Nat) (S : Nat → Nat → Int32) (L : Nat → Nat → Int64) (x : Int64) : List.set (wX6 cs a S L) 0 (a 0, .inr (4, ([.ref (a 1), .ref (a 17), .ref (a 65), .ref (a 66), .ref (a 67), .ref (a 70), .ref (a 75), .ref (a 76), .ref (a 77), .ref (a 78), .long (L 0 10), .long (L 0 11)] : List Value).set 11 (.long x))) = (wX6 cs a S (k_wl L 0 11 x)) := rfl
theorem wsX6_a26 (cs : Nat → ClassId) (a : Nat → Nat) (S : Nat → Nat → Int32) (L : Nat → Nat → Int64) (k : Nat) (x : Int32) : List.set (wX6 cs a S L) 26 (a 26, .inl (cs 1, 5, .inl (upd (S 26) k x))) = (wX6 cs a (k_w S 26 k x) L) := rfl
set_option maxRecDepth 20000 in
theorem wbX6_X5_17_S0 (cs : Nat → ClassId) (a : Nat → Nat) (S : Nat → Nat → Int32) (L : Nat → Nat → Int64) (VS0 : Nat → Nat → Int32) : ([0, 1, 2, 3, 4, 5, 6, 7, 8, 9, 10, 11, 12, 13, 14, 15, 16, 63, 64, 65, 66, 67, 68, 69, 70, 71, 72, 73, 74, 75, 76, 77, 78, 17, 18, 19, 20, 21, 22, 23, 24, 25, 26, 27, 28, 29, 30, 31, 32, 33, 34, 35, 36, 37, 38, 39, 40, 41, 42, 43, 44, 45, 46, 47, 48, 49, 50, 51, 52, 53, 54, 55, 56, 57, 58, 59, 60, 61, 62] : List Nat).map (fun i => (([0, 1, 2, 3, 4, 5, 6, 7, 8, 9, 10, 11, 12, 13, 14, 15, 16, 33, 34, 35, 36, 37, 38, 39, 40, 41, 42, 43, 44, 45, 46, 47, 48, 49, 50, 51, 52, 53, 54, 55, 56, 57, 58, 59, 60, 61, 62, 63, 64, 65, 66, 67, 68, 69, 70, 71, 72, 73, 74, 75, 76, 77, 78] : List Nat).filterMap (fun i => (wX6 cs a S L)[i]?) ++ (wX5 cs (k_wi a 17) VS0))[i]?) = (wX6 cs a (k_sp S 17 16 VS0) L).map some := rfl
set_option maxRecDepth 20000 in
theorem wcX6_X5_X5_33_1 (cs : Nat → ClassId) (a : Nat → Nat) (S : Nat → Nat → Int32) (L : Nat → Nat → Int64) : ([33, 34, 35, 36, 37, 38, 39, 40, 41, 42, 43, 44, 45, 46, 47, 48, 1, 2, 3, 4, 5, 6, 7, 8, 9, 10, 11, 12, 13, 14, 15, 16] : List Nat).map (fun i => (wX6 cs a S L)[i]?) = (wX5 cs (k_wi a 33) (k_wi S 33) ++ wX5 cs (k_wi a 1) (k_wi S 1)).map some := rfl
set_option maxRecDepth 20000 in
theorem wbX6_X5_X5_33_1_S0 (cs : Nat → ClassId) (a : Nat → Nat) (S : Nat → Nat → Int32) (L : Nat → Nat → Int64) (VS0 : Nat → Nat → Int32) : ([0, 63, 64, 65, 66, 67, 68, 69, 70, 71, 72, 73, 74, 75, 76, 77, 78, 1, 2, 3, 4, 5, 6, 7, 8, 9, 10, 11, 12, 13, 14, 15, 16, 47, 48, 49, 50, 51, 52, 53, 54, 55, 56, 57, 58, 59, 60, 61, 62, 17, 18, 19, 20, 21, 22, 23, 24, 25, 26, 27, 28, 29, 30, 31, 32, 33, 34, 35, 36, 37, 38, 39, 40, 41, 42, 43, 44, 45, 46] : List Nat).map (fun i => (([0, 17, 18, 19, 20, 21, 22, 23, 24, 25, 26, 27, 28, 29, 30, 31, 32, 49, 50, 51, 52, 53, 54, 55, 56, 57, 58, 59, 60, 61, 62, 63, 64, 65, 66, 67, 68, 69, 70, 71, 72, 73, 74, 75, 76, 77, 78] : List Nat).filterMap (fun i => (wX6 cs a S L)[i]?) ++ (wX5 cs (k_wi a 33) VS0 ++ wX5 cs (k_wi a 1) (k_wi S 1)))[i]?) = (wX6 cs a (k_sp S 33 16 VS0) L).map some := rfl
theorem wsX6_a66 (cs : Nat → ClassId) (a : Nat → Nat) (S : Nat → Nat → Int32) (L : Nat → Nat → Int64) (k : Nat) (x : Int32) : List.set (wX6 cs a S L) 66 (a 66, .inl (cs 3, 2, .inl (upd (S 66) k x))) = (wX6 cs a (k_w S 66 k x) L) := rfl
set_option maxRecDepth 20000 in
theorem wcX6_X5_X5_49_1 (cs : Nat → ClassId) (a : Nat → Nat) (S : Nat → Nat → Int32) (L : Nat → Nat → Int64) : ([49, 50, 51, 52, 53, 54, 55, 56, 57, 58, 59, 60, 61, 62, 63, 64, 1, 2, 3, 4, 5, 6, 7, 8, 9, 10, 11, 12, 13, 14, 15, 16] : List Nat).map (fun i => (wX6 cs a S L)[i]?) = (wX5 cs (k_wi a 49) (k_wi S 49) ++ wX5 cs (k_wi a 1) (k_wi S 1)).map some := rfl
set_option maxRecDepth 20000 in
theorem wbX6_X5_X5_49_1_S0 (cs : Nat → ClassId) (a : Nat → Nat) (S : Nat → Nat → Int32) (L : Nat → Nat → Int64) (VS0 : Nat → Nat → Int32) : ([0, 63, 64, 65, 66, 67, 68, 69, 70, 71, 72, 73, 74, 75, 76, 77, 78, 1, 2, 3, 4, 5, 6, 7, 8, 9, 10, 11, 12, 13, 14, 15, 16, 17, 18, 19, 20, 21, 22, 23, 24, 25, 26, 27, 28, 29, 30, 31, 32, 47, 48, 49, 50, 51, 52, 53, 54, 55, 56, 57, 58, 59, 60, 61, 62, 33, 34, 35, 36, 37, 38, 39, 40, 41, 42, 43, 44, 45, 46] : List Nat).map (fun i => (([0, 17, 18, 19, 20, 21, 22, 23, 24, 25, 26, 27, 28, 29, 30, 31, 32, 33, 34, 35, 36, 37, 38, 39, 40, 41, 42, 43, 44, 45, 46, 47, 48, 65, 66, 67, 68, 69, 70, 71, 72, 73, 74, 75, 76, 77, 78] : List Nat).filterMap (fun i => (wX6 cs a S L)[i]?) ++ (wX5 cs (k_wi a 49) VS0 ++ wX5 cs (k_wi a 1) (k_wi S 1)))[i]?) = (wX6 cs a (k_sp S 49 16 VS0) L).map some := rfl
set_option maxRecDepth 20000 in
theorem wcX6_X5_X5_1_33 (cs : Nat → ClassId) (a : Nat → Nat) (S : Nat → Nat → Int32) (L : Nat → Nat → Int64) : ([1, 2, 3, 4, 5, 6, 7, 8, 9, 10, 11, 12, 13, 14, 15, 16, 33, 34, 35, 36, 37, 38, 39, 40, 41, 42, 43, 44, 45, 46, 47, 48] : List Nat).map (fun i => (wX6 cs a S L)[i]?) = (wX5 cs (k_wi a 1) (k_wi S 1) ++ wX5 cs (k_wi a 33) (k_wi S 33)).map some := rfl
set_option maxRecDepth 20000 in
theorem wbX6_X5_X5_1_33_S0 (cs : Nat → ClassId) (a : Nat → Nat) (S : Nat → Nat → Int32) (L : Nat → Nat → Int64) (VS0 : Nat → Nat → Int32) : ([0, 47, 48, 49, 50, 51, 52, 53, 54, 55, 56, 57, 58, 59, 60, 61, 62, 1, 2, 3, 4, 5, 6, 7, 8, 9, 10, 11, 12, 13, 14, 15, 16, 63, 64, 65, 66, 67, 68, 69, 70, 71, 72, 73, 74, 75, 76, 77, 78, 17, 18, 19, 20, 21, 22, 23, 24, 25, 26, 27, 28, 29, 30, 31, 32, 33, 34, 35, 36, 37, 38, 39, 40, 41, 42, 43, 44, 45, 46] : List Nat).map (fun i => (([0, 17, 18, 19, 20, 21, 22, 23, 24, 25, 26, 27, 28, 29, 30, 31, 32, 49, 50, 51, 52, 53, 54, 55, 56, 57, 58, 59, 60, 61, 62, 63, 64, 65, 66, 67, 68, 69, 70, 71, 72, 73, 74, 75, 76, 77, 78] : List Nat).filterMap (fun i => (wX6 cs a S L)[i]?) ++ (wX5 cs (k_wi a 1) VS0 ++ wX5 cs (k_wi a 33) (k_wi S 33)))[i]?) = (wX6 cs a (k_sp S 1 16 VS0) L).map some := rfl
set_option maxRecDepth 20000 in
theorem wcX6_X5_X5_1_49 (cs : Nat → ClassId) (a : Nat → Nat) (S : Nat → Nat → Int32) (L : Nat → Nat → Int64) : ([1, 2, 3, 4, 5, 6, 7, 8, 9, 10, 11, 12, 13, 14, 15, 16, 49, 50, 51, 52, 53, 54, 55, 56, 57, 58, 59, 60, 61, 62, 63, 64] : List Nat).map (fun i => (wX6 cs a S L)[i]?) = (wX5 cs (k_wi a 1) (k_wi S 1) ++ wX5 cs (k_wi a 49) (k_wi S 49)).map some := rfl
set_option maxRecDepth 20000 in
theorem wbX6_X5_X5_1_49_S0 (cs : Nat → ClassId) (a : Nat → Nat) (S : Nat → Nat → Int32) (L : Nat → Nat → Int64) (VS0 : Nat → Nat → Int32) : ([0, 47, 48, 49, 50, 51, 52, 53, 54, 55, 56, 57, 58, 59, 60, 61, 62, 1, 2, 3, 4, 5, 6, 7, 8, 9, 10, 11, 12, 13, 14, 15, 16, 17, 18, 19, 20, 21, 22, 23, 24, 25, 26, 27, 28, 29, 30, 31, 32, 63, 64, 65, 66, 67, 68, 69, 70, 71, 72, 73, 74, 75, 76, 77, 78, 33, 34, 35, 36, 37, 38, 39, 40, 41, 42, 43, 44, 45, 46] : List Nat).map (fun i => (([0, 17, 18, 19, 20, 21, 22, 23, 24, 25, 26, 27, 28, 29, 30, 31, 32, 33, 34, 35, 36, 37, 38, 39, 40, 41, 42, 43, 44, 45, 46, 47, 48, 65, 66, 67, 68, 69, 70, 71, 72, 73, 74, 75, 76, 77, 78] : List Nat).filterMap (fun i => (wX6 cs a S L)[i]?) ++ (wX5 cs (k_wi a 1) VS0 ++ wX5 cs (k_wi a 49) (k_wi S 49)))[i]?) = (wX6 cs a (k_sp S 1 16 VS0) L).map some := rfl
-- LeastNeed.valley()I
set_option maxRecDepth 20000 in
def nX6_valley (S : Nat → Nat → Int32) (L : Nat → Nat → Int64) : Option (Int32 × (Nat → Nat → Int32)) := k_b1 (nX5_empty (k_wi S 1)) (fun S12 => some ((S 1 12), (k_sp S 1 16 S12)))
set_option maxHeartbeats 4000000 in
set_option maxRecDepth 100000 in
theorem mX6_valley (l : Launch) (D : va_G) (cs : Nat → ClassId) (a : Nat → Nat) (S : Nat → Nat → Int32) (L : Nat → Nat → Int64) (r9 : Int32) (S9 : (Nat → Nat → Int32)) (hd : nX6_valley S L = some (r9, S9)) : ∀ sz : Nat, Met l yX6_valley wsX6_valley ({ frames := 1, cells := 0, slots := 0, locals := 20 }) (k_Pc D cs [.ref (a 0)] (wX6 cs a S L) sz) (k_Qi D r9 (wX6 cs a S L) (wX6 cs a S9 L) sz) 0 0 (va_A (wX6 cs a S L) sz) := by
  intro sz
  refine Met.ofW (cc := cX6_valley) (maxL := 2) (ret := (some .int)) (by decide) rfl ?_
  intro p e s m args below meth c s₁ B hml hv
  obtain ⟨rfl, hsz, hP, hK, hD0, hNn⟩ := hv
  have hx := B.exec
  have hb := B.bytes
  have hr := B.returns
  have hts := atoms_spec (ws := wsX6_valley) B.pre
  have hown : s.vm.findClass RX6 = some m.cls := findClass_of_methodNamed B.named
  have hlocks := B.notSynchronized
  subst hsz
  obtain ⟨A, hAe⟩ : ∃ A : Nat → Prop, A = va_A (wX6 cs a S L) s.heap.size := ⟨_, rfl⟩
  have hD : va_D A (wX6 cs a S L) := by rw [hAe]; exact hD0.self
  have hA : ∀ q : Nat, s.heap.size ≤ q → A q := fun q h => by rw [hAe]; exact Or.inr h
  have hS : va_S A s.heap s.heap [] := va_S.rf
  have hDA : ∀ (S : Nat → Nat → Int32) (L : Nat → Nat → Int64), va_D A (wX6 cs a S L) := fun S L => k_DA hD rfl
  have hl := lv_entry ([.ref (a 0)]) (n := 2) (Nat.le_of_ble_eq_true rfl)
  rw [lg_entry_eq]
  generalize (lg_sl ([.ref (a 0)]) ++ List.replicate (2 - (lg_sl ([.ref (a 0)])).length) Slot.unset).toArray = ls at hl ⊢
  have hl : lv_has ls 2 [(0, .ref (a 0))] := hl
  obtain ⟨Q, hQ⟩ : ∃ Q, Q = MQ below (k_Qi D r9 (wX6 cs a S L) (wX6 cs a S9 L) s.heap.size) ([.ref (a 0)] : List Value).toArray s 0 0 (va_A (wX6 cs a S L) s.heap.size) := ⟨_, rfl⟩
  rw [← hQ]
  unfold nX6_valley at hd
  refine lv_aload_n hx hb dX6_valley_0 rfl (lv_at hl 0 rfl) ?_
  refine va_get (D := D) (ci := 4) (v := .ref (a 1)) (C := RX6) (T := TX6) (N := 12) hx hb hts (fun w h => List.mem_cons_of_mem _ (List.mem_append_left _ (List.mem_append_left _ (List.mem_append_right _ h)))) hown hK hP 0 rfl rfl 0 (by decide) (hts (.fieldLink RX6 12 "LeastNeed" "now" "LLeastNeed$Valley;") (List.mem_of_getElem? (i := 1) rfl)) (fun _ h9 => h9) rfl dX6_valley_1 ?_
  refine va_get (D := D) (ci := 3) (v := .int (S 1 12)) (C := RX5) (T := TX5) (N := 15) hx hb hts (fun w h => List.mem_cons_of_mem _ (List.mem_append_left _ (List.mem_append_right _ h))) hown hK hP 1 rfl rfl 12 (by decide) (hts (.fieldLink RX6 61 "LeastNeed$Valley" "people" "I") (List.mem_of_getElem? (i := 2) rfl)) (fun _ h9 => h9) rfl dX6_valley_4 ?_
  refine lv_istore_n (lv' := [(1, .int (S 1 12)), (0, .ref (a 0))]) hx hb dX6_valley_7 rfl hl (by decide) rfl (fun ls hl => ?_)
  refine lv_aload_n hx hb dX6_valley_8 rfl (lv_at hl 1 rfl) ?_
  refine va_get (D := D) (ci := 4) (v := .ref (a 1)) (C := RX6) (T := TX6) (N := 12) hx hb hts (fun w h => List.mem_cons_of_mem _ (List.mem_append_left _ (List.mem_append_left _ (List.mem_append_right _ h)))) hown hK hP 0 rfl rfl 0 (by decide) (hts (.fieldLink RX6 12 "LeastNeed" "now" "LLeastNeed$Valley;") (List.mem_of_getElem? (i := 1) rfl)) (fun _ h9 => h9) rfl dX6_valley_9 ?_
  obtain ⟨S12, hq12, hd⟩ := dn_b1 hd
  have hPc : va_P D vwCl (wX5 cs (k_wi a 1) (k_wi S 1)) _ := k_sub hP [1, 2, 3, 4, 5, 6, 7, 8, 9, 10, 11, 12, 13, 14, 15, 16] (wcX6_X5_1 cs a S L)
  have hDc : va_D A (wX5 cs (k_wi a 1) (k_wi S 1)) := hD.sub [1, 2, 3, 4, 5, 6, 7, 8, 9, 10, 11, 12, 13, 14, 15, 16] (by decide) (wcX6_X5_1 cs a S L)
  have hF := k_self hDc hS hA
  refine k_run_v (va_runV (As := []) (rest := []) ⟨hx, hb, hml, hown, hts⟩ (mX5_empty l D cs (k_wi a 1) (k_wi S 1) S12 hq12 _) (cwV 0 hts gX6_valley_X5_empty rfl rfl rfl (by decide +kernel) ⟨Nat.le_of_ble_eq_true rfl, Nat.le_of_ble_eq_true rfl⟩) ⟨k_blind, va_recv hK hP (ci := 3) (q0 := 1) rfl rfl, k_pre hPc hK hNn hDc⟩ rfl rfl hl.1 rfl (lv_room (Nat.le_of_ble_eq_true rfl)) dX6_valley_12 ⟨Nat.le_of_ble_eq_true rfl, Nat.le_of_ble_eq_true rfl⟩) hS hF (fun H locs hP1 hk hS => ?_)
  have hP : va_P D vwCl (wX6 cs a (k_sp S 1 16 S12) L) _ := k_back hP hD [1, 2, 3, 4, 5, 6, 7, 8, 9, 10, 11, 12, 13, 14, 15, 16] [0, 17, 18, 19, 20, 21, 22, 23, 24, 25, 26, 27, 28, 29, 30, 31, 32, 33, 34, 35, 36, 37, 38, 39, 40, 41, 42, 43, 44, 45, 46, 47, 48, 49, 50, 51, 52, 53, 54, 55, 56, 57, 58, 59, 60, 61, 62, 63, 64, 65, 66, 67, 68, 69, 70, 71, 72, 73, 74, 75, 76, 77, 78] [0, 63, 64, 65, 66, 67, 68, 69, 70, 71, 72, 73, 74, 75, 76, 77, 78, 1, 2, 3, 4, 5, 6, 7, 8, 9, 10, 11, 12, 13, 14, 15, 16, 17, 18, 19, 20, 21, 22, 23, 24, 25, 26, 27, 28, 29, 30, 31, 32, 33, 34, 35, 36, 37, 38, 39, 40, 41, 42, 43, 44, 45, 46, 47, 48, 49, 50, 51, 52, 53, 54, 55, 56, 57, 58, 59, 60, 61, 62] (wcX6_X5_1 cs a S L) (by decide) hk hP1 (wbX6_X5_1_S0 cs a S L S12)
  have hD := hDA (k_sp S 1 16 S12) L
  refine lv_iload_n hx hb dX6_valley_15 rfl (lv_at hl 0 rfl) ?_
  obtain ⟨e1, e2⟩ := dn_s2 hd
  exact k_iret hx hb hr hQ hAe e1 (by rw [e2]) hP hS hlocks dX6_valley_16
-- LeastNeed.upTo(II)Z
set_option maxRecDepth 20000 in
def nX6_upTo (p0 : Int32) (p1 : Int32) : Option (Int32) := if p0 < 0 then some (0 : Int32) else if p1 ≤ p0 then some (0 : Int32) else some (1 : Int32)
set_option maxHeartbeats 4000000 in
set_option maxRecDepth 100000 in
theorem mX6_upTo (l : Launch) (D : va_G) (cs : Nat → ClassId) (p0 : Int32) (p1 : Int32) (r9 : Int32) (hd : nX6_upTo p0 p1 = some r9) : ∀ sz : Nat, Met l yX6_upTo wsX6_upTo ({ frames := 0, cells := 0, slots := 0, locals := 0 }) (k_Pc D cs [.int p0, .int p1] ([] : va_W) sz) (k_Qi D r9 ([] : va_W) ([] : va_W) sz) 0 0 (va_A ([] : va_W) sz) := by
  intro sz
  refine Met.ofW (cc := cX6_upTo) (maxL := 2) (ret := (some .boolean)) (by decide) rfl ?_
  intro p e s m args below meth c s₁ B hml hv
  obtain ⟨rfl, hsz, hP, hK, hD0, hNn⟩ := hv
  have hx := B.exec
  have hb := B.bytes
  have hr := B.returns
  have hts := atoms_spec (ws := wsX6_upTo) B.pre
  have hown : s.vm.findClass RX6 = some m.cls := findClass_of_methodNamed B.named
  have hlocks := B.notSynchronized
  subst hsz
  obtain ⟨A, hAe⟩ : ∃ A : Nat → Prop, A = va_A ([] : va_W) s.heap.size := ⟨_, rfl⟩
  have hD : va_D A ([] : va_W) := by rw [hAe]; exact hD0.self
  have hA : ∀ q : Nat, s.heap.size ≤ q → A q := fun q h => by rw [hAe]; exact Or.inr h
  have hS : va_S A s.heap s.heap [] := va_S.rf
  have hl := lv_entry ([.int p0, .int p1]) (n := 2) (Nat.le_of_ble_eq_true rfl)
  rw [lg_entry_eq]
  generalize (lg_sl ([.int p0, .int p1]) ++ List.replicate (2 - (lg_sl ([.int p0, .int p1])).length) Slot.unset).toArray = ls at hl ⊢
  have hl : lv_has ls 2 [(0, .int p0), (1, .int p1)] := hl
  obtain ⟨Q, hQ⟩ : ∃ Q, Q = MQ below (k_Qi D r9 ([] : va_W) ([] : va_W) s.heap.size) ([.int p0, .int p1] : List Value).toArray s 0 0 (va_A ([] : va_W) s.heap.size) := ⟨_, rfl⟩
  rw [← hQ]
  unfold nX6_upTo at hd
  refine lv_iload_n hx hb dX6_upTo_0 rfl (lv_at hl 0 rfl) ?_
  refine lv_if_lt (tgt := 13) hx hb dX6_upTo_1 (by decide) (fun c1 => ?_) (fun c1 => ?_)
  · have hd := dn_t c1 hd
    refine lv_iconst (v := (0 : Int32)) hx hb dX6_upTo_13 (by decide) ?_
    have e1 := dn_s1 hd
    exact k_zret hx hb hr rfl hQ hAe e1 rfl hP hS hlocks dX6_upTo_14
  · have hd := dn_f c1 hd
    refine lv_iload_n hx hb dX6_upTo_4 rfl (lv_at hl 0 rfl) ?_
    refine lv_iload_n hx hb dX6_upTo_5 rfl (lv_at hl 1 rfl) ?_
    refine lv_icmp_ge (tgt := 13) hx hb dX6_upTo_6 (by decide) (fun c6 => ?_) (fun c6 => ?_)
    · have hd := dn_t c6 hd
      refine lv_iconst (v := (0 : Int32)) hx hb dX6_upTo_13 (by decide) ?_
      have e1 := dn_s1 hd
      exact k_zret hx hb hr rfl hQ hAe e1 rfl hP hS hlocks dX6_upTo_14
    · have hd := dn_f c6 hd
      refine lv_iconst (v := (1 : Int32)) hx hb dX6_upTo_9 (by decide) ?_
      refine lv_goto (tgt := 14) hx hb dX6_upTo_10 (by decide) ?_
      have e1 := dn_s1 hd
      exact k_zret hx hb hr rfl hQ hAe e1 rfl hP hS hlocks dX6_upTo_14
-- LeastNeed.refusedAsFull()I
set_option maxRecDepth 20000 in
def nX6_refusedAsFull (S : Nat → Nat → Int32) (L : Nat → Nat → Int64) : Option (Int32 × (Nat → Nat → Int32)) := some ((-4 : Int32), (k_w S 75 2 ((S 75 2) + (1 : Int32))))
set_option maxHeartbeats 4000000 in
set_option maxRecDepth 100000 in
theorem mX6_refusedAsFull (l : Launch) (D : va_G) (cs : Nat → ClassId) (a : Nat → Nat) (S : Nat → Nat → Int32) (L : Nat → Nat → Int64) (r9 : Int32) (S9 : (Nat → Nat → Int32)) (hd : nX6_refusedAsFull S L = some (r9, S9)) : ∀ sz : Nat, Met l yX6_refusedAsFull wsX6_refusedAsFull ({ frames := 0, cells := 0, slots := 0, locals := 0 }) (k_Pc D cs [.ref (a 0)] (wX6 cs a S L) sz) (k_Qi D r9 (wX6 cs a S L) (wX6 cs a S9 L) sz) 0 0 (va_A (wX6 cs a S L) sz) := by
  intro sz
  refine Met.ofW (cc := cX6_refusedAsFull) (maxL := 1) (ret := (some .int)) (by decide) rfl ?_
  intro p e s m args below meth c s₁ B hml hv
  obtain ⟨rfl, hsz, hP, hK, hD0, hNn⟩ := hv
  have hx := B.exec
  have hb := B.bytes
  have hr := B.returns
  have hts := atoms_spec (ws := wsX6_refusedAsFull) B.pre
  have hown : s.vm.findClass RX6 = some m.cls := findClass_of_methodNamed B.named
  have hlocks := B.notSynchronized
  subst hsz
  obtain ⟨A, hAe⟩ : ∃ A : Nat → Prop, A = va_A (wX6 cs a S L) s.heap.size := ⟨_, rfl⟩
  have hD : va_D A (wX6 cs a S L) := by rw [hAe]; exact hD0.self
  have hA : ∀ q : Nat, s.heap.size ≤ q → A q := fun q h => by rw [hAe]; exact Or.inr h
  have hS : va_S A s.heap s.heap [] := va_S.rf
  have hDA : ∀ (S : Nat → Nat → Int32) (L : Nat → Nat → Int64), va_D A (wX6 cs a S L) := fun S L => k_DA hD rfl
  have hl := lv_entry ([.ref (a 0)]) (n := 1) (Nat.le_of_ble_eq_true rfl)
  rw [lg_entry_eq]
  generalize (lg_sl ([.ref (a 0)]) ++ List.replicate (1 - (lg_sl ([.ref (a 0)])).length) Slot.unset).toArray = ls at hl ⊢
  have hl : lv_has ls 1 [(0, .ref (a 0))] := hl
  obtain ⟨Q, hQ⟩ : ∃ Q, Q = MQ below (k_Qi D r9 (wX6 cs a S L) (wX6 cs a S9 L) s.heap.size) ([.ref (a 0)] : List Value).toArray s 0 0 (va_A (wX6 cs a S L) s.heap.size) := ⟨_, rfl⟩
  rw [← hQ]
  unfold nX6_refusedAsFull at hd
  refine lv_aload_n hx hb dX6_refusedAsFull_0 rfl (lv_at hl 0 rfl) ?_
  refine va_get (D := D) (ci := 4) (v := .ref (a 75)) (C := RX6) (T := TX6) (N := 12) hx hb hts (fun w h => List.mem_cons_of_mem _ (List.mem_append_right _ h)) hown hK hP 0 rfl rfl 6 (by decide) (hts (.fieldLink RX6 41 "LeastNeed" "refused" "[I") (List.mem_of_getElem? (i := 1) rfl)) (fun _ h9 => h9) rfl dX6_refusedAsFull_1 ?_
  refine lv_iconst (v := (2 : Int32)) hx hb dX6_refusedAsFull_4 (by decide) ?_
  refine lv_dup2_11 hx hb dX6_refusedAsFull_5 rfl rfl ?_
  refine k_iald (D := D) (k := 2) (by rfl) hx hb hK hP 75 1 rfl rfl (k_in (by decide)) dX6_refusedAsFull_6 ?_
  refine lv_iconst (v := (1 : Int32)) hx hb dX6_refusedAsFull_7 (by decide) ?_
  refine lv_iadd hx hb dX6_refusedAsFull_8 ?_
  refine k_iast (D := D) (k := 2) (by rfl) hx hb hK hP hD hS 75 1 rfl rfl (k_in (by decide)) dX6_refusedAsFull_9 (fun H locs hP hD hS => ?_)
  have hP : va_P D vwCl (wX6 cs a (k_w S 75 2 ((S 75 2) + (1 : Int32))) L) _ := k_eq hP (wsX6_a75 cs a S L 2 ((S 75 2) + (1 : Int32)))
  have hD := hDA (k_w S 75 2 ((S 75 2) + (1 : Int32))) L
  refine lv_bipush (v := (-4 : Int32)) hx hb dX6_refusedAsFull_10 (by decide) ?_
  obtain ⟨e1, e2⟩ := dn_s2 hd
  exact k_iret hx hb hr hQ hAe e1 (by rw [e2]) hP hS hlocks dX6_refusedAsFull_12
-- LeastNeed.refusedAsBad()I
set_option maxRecDepth 20000 in
def nX6_refusedAsBad (S : Nat → Nat → Int32) (L : Nat → Nat → Int64) : Option (Int32 × (Nat → Nat → Int32)) := some ((-2 : Int32), (k_w S 75 0 ((S 75 0) + (1 : Int32))))
set_option maxHeartbeats 4000000 in
set_option maxRecDepth 100000 in
theorem mX6_refusedAsBad (l : Launch) (D : va_G) (cs : Nat → ClassId) (a : Nat → Nat) (S : Nat → Nat → Int32) (L : Nat → Nat → Int64) (r9 : Int32) (S9 : (Nat → Nat → Int32)) (hd : nX6_refusedAsBad S L = some (r9, S9)) : ∀ sz : Nat, Met l yX6_refusedAsBad wsX6_refusedAsBad ({ frames := 0, cells := 0, slots := 0, locals := 0 }) (k_Pc D cs [.ref (a 0)] (wX6 cs a S L) sz) (k_Qi D r9 (wX6 cs a S L) (wX6 cs a S9 L) sz) 0 0 (va_A (wX6 cs a S L) sz) := by
  intro sz
  refine Met.ofW (cc := cX6_refusedAsBad) (maxL := 1) (ret := (some .int)) (by decide) rfl ?_
  intro p e s m args below meth c s₁ B hml hv
  obtain ⟨rfl, hsz, hP, hK, hD0, hNn⟩ := hv
  have hx := B.exec
  have hb := B.bytes
  have hr := B.returns
  have hts := atoms_spec (ws := wsX6_refusedAsBad) B.pre
  have hown : s.vm.findClass RX6 = some m.cls := findClass_of_methodNamed B.named
  have hlocks := B.notSynchronized
  subst hsz
  obtain ⟨A, hAe⟩ : ∃ A : Nat → Prop, A = va_A (wX6 cs a S L) s.heap.size := ⟨_, rfl⟩
  have hD : va_D A (wX6 cs a S L) := by rw [hAe]; exact hD0.self
  have hA : ∀ q : Nat, s.heap.size ≤ q → A q := fun q h => by rw [hAe]; exact Or.inr h
  have hS : va_S A s.heap s.heap [] := va_S.rf
  have hDA : ∀ (S : Nat → Nat → Int32) (L : Nat → Nat → Int64), va_D A (wX6 cs a S L) := fun S L => k_DA hD rfl
  have hl := lv_entry ([.ref (a 0)]) (n := 1) (Nat.le_of_ble_eq_true rfl)
  rw [lg_entry_eq]
  generalize (lg_sl ([.ref (a 0)]) ++ List.replicate (1 - (lg_sl ([.ref (a 0)])).length) Slot.unset).toArray = ls at hl ⊢
  have hl : lv_has ls 1 [(0, .ref (a 0))] := hl
  obtain ⟨Q, hQ⟩ : ∃ Q, Q = MQ below (k_Qi D r9 (wX6 cs a S L) (wX6 cs a S9 L) s.heap.size) ([.ref (a 0)] : List Value).toArray s 0 0 (va_A (wX6 cs a S L) s.heap.size) := ⟨_, rfl⟩
  rw [← hQ]
  unfold nX6_refusedAsBad at hd
  refine lv_aload_n hx hb dX6_refusedAsBad_0 rfl (lv_at hl 0 rfl) ?_
  refine va_get (D := D) (ci := 4) (v := .ref (a 75)) (C := RX6) (T := TX6) (N := 12) hx hb hts (fun w h => List.mem_cons_of_mem _ (List.mem_append_right _ h)) hown hK hP 0 rfl rfl 6 (by decide) (hts (.fieldLink RX6 41 "LeastNeed" "refused" "[I") (List.mem_of_getElem? (i := 1) rfl)) (fun _ h9 => h9) rfl dX6_refusedAsBad_1 ?_
  refine lv_iconst (v := (0 : Int32)) hx hb dX6_refusedAsBad_4 (by decide) ?_
  refine lv_dup2_11 hx hb dX6_refusedAsBad_5 rfl rfl ?_
  refine k_iald (D := D) (k := 0) (by rfl) hx hb hK hP 75 1 rfl rfl (k_in (by decide)) dX6_refusedAsBad_6 ?_
  refine lv_iconst (v := (1 : Int32)) hx hb dX6_refusedAsBad_7 (by decide) ?_
  refine lv_iadd hx hb dX6_refusedAsBad_8 ?_
  refine k_iast (D := D) (k := 0) (by rfl) hx hb hK hP hD hS 75 1 rfl rfl (k_in (by decide)) dX6_refusedAsBad_9 (fun H locs hP hD hS => ?_)
  have hP : va_P D vwCl (wX6 cs a (k_w S 75 0 ((S 75 0) + (1 : Int32))) L) _ := k_eq hP (wsX6_a75 cs a S L 0 ((S 75 0) + (1 : Int32)))
  have hD := hDA (k_w S 75 0 ((S 75 0) + (1 : Int32))) L
  refine lv_bipush (v := (-2 : Int32)) hx hb dX6_refusedAsBad_10 (by decide) ?_
  obtain ⟨e1, e2⟩ := dn_s2 hd
  exact k_iret hx hb hr hQ hAe e1 (by rw [e2]) hP hS hlocks dX6_refusedAsBad_12
-- LeastNeed.person(IIIIII)I
set_option maxRecDepth 20000 in
def nX6_person_j69 (S_69 : Nat → Nat → Int32) (L : Nat → Nat → Int64) : Option (Int32 × (Nat → Nat → Int32)) := k_b2 (nX6_refusedAsBad S_69 L) (fun r70 S70 => some (r70, S70))
set_option maxRecDepth 20000 in
def nX6_person_j23 (p1 : Int32) (p2 : Int32) (p3 : Int32) (p4 : Int32) (p5 : Int32) (p6 : Int32) (w0_23 : Int32) (S_23 : Nat → Nat → Int32) (L : Nat → Nat → Int64) : Option (Int32 × (Nat → Nat → Int32)) := if w0_23 = 0 then nX6_person_j69 S_23 L else k_b1 (nX6_upTo p3 (10 : Int32)) (fun r33 => if r33 = 0 then nX6_person_j69 S_23 L else k_b1 (nX6_upTo p4 (10 : Int32)) (fun r43 => if r43 = 0 then nX6_person_j69 S_23 L else k_b1 (nX6_upTo p5 (10 : Int32)) (fun r53 => if r53 = 0 then nX6_person_j69 S_23 L else k_b1 (nX6_upTo p6 (10 : Int32)) (fun r63 => if r63 = 0 then nX6_person_j69 S_23 L else if (S_23 1 12) < (7 : Int32) then k_b1 (nX5_addPerson (k_wi S_23 1) p1 p2 p3 p4 p5 p6) (fun S104 => some ((((k_sp S_23 1 16 S104) 1 12) - (1 : Int32)), (k_sp S_23 1 16 S104))) else k_b2 (nX6_refusedAsFull S_23 L) (fun r87 S87 => some (r87, S87))))))
set_option maxRecDepth 20000 in
def nX6_person_j22 (p1 : Int32) (p2 : Int32) (p3 : Int32) (p4 : Int32) (p5 : Int32) (p6 : Int32) (S_22 : Nat → Nat → Int32) (L : Nat → Nat → Int64) : Option (Int32 × (Nat → Nat → Int32)) := nX6_person_j23 p1 p2 p3 p4 p5 p6 (0 : Int32) S_22 L
set_option maxRecDepth 20000 in
def nX6_person (S : Nat → Nat → Int32) (L : Nat → Nat → Int64) (p1 : Int32) (p2 : Int32) (p3 : Int32) (p4 : Int32) (p5 : Int32) (p6 : Int32) : Option (Int32 × (Nat → Nat → Int32)) := k_b1 (nX6_upTo p1 (6 : Int32)) (fun r3 => if r3 = 0 then nX6_person_j22 p1 p2 p3 p4 p5 p6 S L else k_b1 (nX6_upTo p2 (20 : Int32)) (fun r12 => if r12 = 0 then nX6_person_j22 p1 p2 p3 p4 p5 p6 S L else nX6_person_j23 p1 p2 p3 p4 p5 p6 (1 : Int32) S L))
set_option maxHeartbeats 4000000 in
set_option maxRecDepth 100000 in
theorem mX6_person (l : Launch) (D : va_G) (cs : Nat → ClassId) (a : Nat → Nat) (S : Nat → Nat → Int32) (L : Nat → Nat → Int64) (p1 : Int32) (p2 : Int32) (p3 : Int32) (p4 : Int32) (p5 : Int32) (p6 : Int32) (r9 : Int32) (S9 : (Nat → Nat → Int32)) (hd : nX6_person S L p1 p2 p3 p4 p5 p6 = some (r9, S9)) : ∀ sz : Nat, Met l yX6_person wsX6_person ({ frames := 1, cells := 0, slots := 0, locals := 26 }) (k_Pc D cs [.ref (a 0), .int p1, .int p2, .int p3, .int p4, .int p5, .int p6] (wX6 cs a S L) sz) (k_Qi D r9 (wX6 cs a S L) (wX6 cs a S9 L) sz) 0 0 (va_A (wX6 cs a S L) sz) := by
  intro sz
  refine Met.ofW (cc := cX6_person) (maxL := 8) (ret := (some .int)) (by decide) rfl ?_
  intro p e s m args below meth c s₁ B hml hv
  obtain ⟨rfl, hsz, hP, hK, hD0, hNn⟩ := hv
  have hx := B.exec
  have hb := B.bytes
  have hr := B.returns
  have hts := atoms_spec (ws := wsX6_person) B.pre
  have hown : s.vm.findClass RX6 = some m.cls := findClass_of_methodNamed B.named
  have hlocks := B.notSynchronized
  subst hsz
  obtain ⟨A, hAe⟩ : ∃ A : Nat → Prop, A = va_A (wX6 cs a S L) s.heap.size := ⟨_, rfl⟩
  have hD : va_D A (wX6 cs a S L) := by rw [hAe]; exact hD0.self
  have hA : ∀ q : Nat, s.heap.size ≤ q → A q := fun q h => by rw [hAe]; exact Or.inr h
  have hS : va_S A s.heap s.heap [] := va_S.rf
  have hDA : ∀ (S : Nat → Nat → Int32) (L : Nat → Nat → Int64), va_D A (wX6 cs a S L) := fun S L => k_DA hD rfl
  have hl := lv_entry ([.ref (a 0), .int p1, .int p2, .int p3, .int p4, .int p5, .int p6]) (n := 8) (Nat.le_of_ble_eq_true rfl)
  rw [lg_entry_eq]
  generalize (lg_sl ([.ref (a 0), .int p1, .int p2, .int p3, .int p4, .int p5, .int p6]) ++ List.replicate (8 - (lg_sl ([.ref (a 0), .int p1, .int p2, .int p3, .int p4, .int p5, .int p6])).length) Slot.unset).toArray = ls at hl ⊢
  have hl : lv_has ls 8 [(0, .ref (a 0)), (1, .int p1), (2, .int p2), (3, .int p3), (4, .int p4), (5, .int p5), (6, .int p6)] := hl
  obtain ⟨Q, hQ⟩ : ∃ Q, Q = MQ below (k_Qi D r9 (wX6 cs a S L) (wX6 cs a S9 L) s.heap.size) ([.ref (a 0), .int p1, .int p2, .int p3, .int p4, .int p5, .int p6] : List Value).toArray s 0 0 (va_A (wX6 cs a S L) s.heap.size) := ⟨_, rfl⟩
  rw [← hQ]
  have Jo69 : ∀ (S_69 : Nat → Nat → Int32) (H : Heap) (locs : List Loc) (ls : Array Slot), nX6_person_j69 S_69 L = some (r9, S9) → lv_has ls 8 [(0, .ref (a 0))] → va_P D vwCl (wX6 cs a S_69 L) H → va_S A s.heap H locs → W p l e (headSpec wsX6_person ({ frames := 1, cells := 0, slots := 0, locals := 26 })).room s m ([.ref (a 0), .int p1, .int p2, .int p3, .int p4, .int p5, .int p6] : List Value).toArray below meth c H locs 0 0 Q (F0 m 69 ls []) := by
    intro S_69 H locs ls hd hl hP hS
    have hD := hDA S_69 L
    unfold nX6_person_j69 at hd
    refine lv_aload_n hx hb dX6_person_69 rfl (lv_at hl 0 rfl) ?_
    obtain ⟨r70, S70, hq70, hd⟩ := dn_b2 hd
    have hF := k_self hD hS hA
    refine k_run_i (va_runV (As := []) (rest := []) ⟨hx, hb, hml, hown, hts⟩ (mX6_refusedAsBad l D cs a S_69 L r70 S70 hq70 _) (cwV 0 hts gX6_person_X6_refusedAsBad rfl rfl rfl (by decide +kernel) ⟨Nat.le_of_ble_eq_true rfl, Nat.le_of_ble_eq_true rfl⟩) ⟨k_blind, va_recv hK hP (ci := 4) (q0 := 0) rfl rfl, k_pre hP hK hNn hD⟩ rfl rfl hl.1 rfl (lv_room (Nat.le_of_ble_eq_true rfl)) dX6_person_70 ⟨Nat.le_of_ble_eq_true rfl, Nat.le_of_ble_eq_true rfl⟩) hS hF (fun H locs hP1 hk hS => ?_)
    have hP : va_P D vwCl (wX6 cs a S70 L) _ := hP1
    have hD := hDA S70 L
    obtain ⟨e1, e2⟩ := dn_s2 hd
    exact k_iret hx hb hr hQ hAe e1 (by rw [e2]) hP hS hlocks dX6_person_73
  have Jo23 : ∀ (w0_23 : Int32) (S_23 : Nat → Nat → Int32) (H : Heap) (locs : List Loc) (ls : Array Slot), nX6_person_j23 p1 p2 p3 p4 p5 p6 w0_23 S_23 L = some (r9, S9) → lv_has ls 8 [(0, .ref (a 0)), (1, .int p1), (2, .int p2), (3, .int p3), (4, .int p4), (5, .int p5), (6, .int p6)] → va_P D vwCl (wX6 cs a S_23 L) H → va_S A s.heap H locs → W p l e (headSpec wsX6_person ({ frames := 1, cells := 0, slots := 0, locals := 26 })).room s m ([.ref (a 0), .int p1, .int p2, .int p3, .int p4, .int p5, .int p6] : List Value).toArray below meth c H locs 0 0 Q (F0 m 23 ls [.int w0_23]) := by
    intro w0_23 S_23 H locs ls hd hl hP hS
    have hD := hDA S_23 L
    unfold nX6_person_j23 at hd
    refine lv_istore (lv' := [(7, .int w0_23), (0, .ref (a 0)), (1, .int p1), (2, .int p2), (3, .int p3), (4, .int p4), (5, .int p5), (6, .int p6)]) hx hb dX6_person_23 hl (by decide) rfl (fun ls hl => ?_)
    refine lv_iload hx hb dX6_person_25 (lv_at hl 0 rfl) ?_
    refine lv_if_eq (tgt := 69) hx hb dX6_person_27 (by decide) (fun c27 => ?_) (fun c27 => ?_)
    · have hd := dn_t c27 hd
      exact Jo69 S_23 _ _ _ hd (lv_sub hl [1] rfl) hP hS
    · have hd := dn_f c27 hd
      refine lv_iload_n hx hb dX6_person_30 rfl (lv_at hl 4 rfl) ?_
      refine lv_bipush (v := (10 : Int32)) hx hb dX6_person_31 (by decide) ?_
      obtain ⟨r33, hq33, hd⟩ := dn_b1 hd
      have hPc := k_P0 hP
      have hDc : va_D A ([] : va_W) := k_D0
      have hF := k_self hDc hS hA
      refine k_run_i (va_runS (As := [.int p3, .int (10 : Int32)]) (rest := []) ⟨hx, hb, hml, hown, hts⟩ (mX6_upTo l D cs  p3 (10 : Int32) r33 hq33 _) (va_cwS 2 hts gX6_person_X6_upTo rfl rfl rfl (by decide +kernel) ⟨Nat.le_of_ble_eq_true rfl, Nat.le_of_ble_eq_true rfl⟩) ⟨k_blind, k_pre hPc hK hNn hDc⟩ rfl rfl hl.1 rfl (lv_room (Nat.le_of_ble_eq_true rfl)) dX6_person_33 ⟨Nat.le_of_ble_eq_true rfl, Nat.le_of_ble_eq_true rfl⟩) hS hF (fun H locs hP1 hk hS => ?_)
      have hP : va_P D vwCl (wX6 cs a S_23 L) _ := k_keep hP hk
      refine lv_if_eq (tgt := 69) hx hb dX6_person_36 (by decide) (fun c36 => ?_) (fun c36 => ?_)
      · have hd := dn_t c36 hd
        exact Jo69 S_23 _ _ _ hd (lv_sub hl [1] rfl) hP hS
      · have hd := dn_f c36 hd
        refine lv_iload hx hb dX6_person_39 (lv_at hl 5 rfl) ?_
        refine lv_bipush (v := (10 : Int32)) hx hb dX6_person_41 (by decide) ?_
        obtain ⟨r43, hq43, hd⟩ := dn_b1 hd
        have hPc := k_P0 hP
        have hDc : va_D A ([] : va_W) := k_D0
        have hF := k_self hDc hS hA
        refine k_run_i (va_runS (As := [.int p4, .int (10 : Int32)]) (rest := []) ⟨hx, hb, hml, hown, hts⟩ (mX6_upTo l D cs  p4 (10 : Int32) r43 hq43 _) (va_cwS 2 hts gX6_person_X6_upTo rfl rfl rfl (by decide +kernel) ⟨Nat.le_of_ble_eq_true rfl, Nat.le_of_ble_eq_true rfl⟩) ⟨k_blind, k_pre hPc hK hNn hDc⟩ rfl rfl hl.1 rfl (lv_room (Nat.le_of_ble_eq_true rfl)) dX6_person_43 ⟨Nat.le_of_ble_eq_true rfl, Nat.le_of_ble_eq_true rfl⟩) hS hF (fun H locs hP1 hk hS => ?_)
        have hP : va_P D vwCl (wX6 cs a S_23 L) _ := k_keep hP hk
        refine lv_if_eq (tgt := 69) hx hb dX6_person_46 (by decide) (fun c46 => ?_) (fun c46 => ?_)
        · have hd := dn_t c46 hd
          exact Jo69 S_23 _ _ _ hd (lv_sub hl [1] rfl) hP hS
        · have hd := dn_f c46 hd
          refine lv_iload hx hb dX6_person_49 (lv_at hl 6 rfl) ?_
          refine lv_bipush (v := (10 : Int32)) hx hb dX6_person_51 (by decide) ?_
          obtain ⟨r53, hq53, hd⟩ := dn_b1 hd
          have hPc := k_P0 hP
          have hDc : va_D A ([] : va_W) := k_D0
          have hF := k_self hDc hS hA
          refine k_run_i (va_runS (As := [.int p5, .int (10 : Int32)]) (rest := []) ⟨hx, hb, hml, hown, hts⟩ (mX6_upTo l D cs  p5 (10 : Int32) r53 hq53 _) (va_cwS 2 hts gX6_person_X6_upTo rfl rfl rfl (by decide +kernel) ⟨Nat.le_of_ble_eq_true rfl, Nat.le_of_ble_eq_true rfl⟩) ⟨k_blind, k_pre hPc hK hNn hDc⟩ rfl rfl hl.1 rfl (lv_room (Nat.le_of_ble_eq_true rfl)) dX6_person_53 ⟨Nat.le_of_ble_eq_true rfl, Nat.le_of_ble_eq_true rfl⟩) hS hF (fun H locs hP1 hk hS => ?_)
          have hP : va_P D vwCl (wX6 cs a S_23 L) _ := k_keep hP hk
          refine lv_if_eq (tgt := 69) hx hb dX6_person_56 (by decide) (fun c56 => ?_) (fun c56 => ?_)
          · have hd := dn_t c56 hd
            exact Jo69 S_23 _ _ _ hd (lv_sub hl [1] rfl) hP hS
          · have hd := dn_f c56 hd
            refine lv_iload hx hb dX6_person_59 (lv_at hl 7 rfl) ?_
            refine lv_bipush (v := (10 : Int32)) hx hb dX6_person_61 (by decide) ?_
            obtain ⟨r63, hq63, hd⟩ := dn_b1 hd
            have hPc := k_P0 hP
            have hDc : va_D A ([] : va_W) := k_D0
            have hF := k_self hDc hS hA
            refine k_run_i (va_runS (As := [.int p6, .int (10 : Int32)]) (rest := []) ⟨hx, hb, hml, hown, hts⟩ (mX6_upTo l D cs  p6 (10 : Int32) r63 hq63 _) (va_cwS 2 hts gX6_person_X6_upTo rfl rfl rfl (by decide +kernel) ⟨Nat.le_of_ble_eq_true rfl, Nat.le_of_ble_eq_true rfl⟩) ⟨k_blind, k_pre hPc hK hNn hDc⟩ rfl rfl hl.1 rfl (lv_room (Nat.le_of_ble_eq_true rfl)) dX6_person_63 ⟨Nat.le_of_ble_eq_true rfl, Nat.le_of_ble_eq_true rfl⟩) hS hF (fun H locs hP1 hk hS => ?_)
            have hP : va_P D vwCl (wX6 cs a S_23 L) _ := k_keep hP hk
            refine lv_if_ne (tgt := 74) hx hb dX6_person_66 (by decide) (fun c66 => ?_) (fun c66 => ?_)
            · have hd := dn_f c66 hd
              refine lv_aload_n hx hb dX6_person_74 rfl (lv_at hl 1 rfl) ?_
              refine va_get (D := D) (ci := 4) (v := .ref (a 1)) (C := RX6) (T := TX6) (N := 12) hx hb hts (fun w h => List.mem_cons_of_mem _ (List.mem_append_left _ (List.mem_append_left _ (List.mem_append_right _ h)))) hown hK hP 0 rfl rfl 0 (by decide) (hts (.fieldLink RX6 12 "LeastNeed" "now" "LLeastNeed$Valley;") (List.mem_of_getElem? (i := 1) rfl)) (fun _ h9 => h9) rfl dX6_person_75 ?_
              refine va_get (D := D) (ci := 3) (v := .int (S_23 1 12)) (C := RX5) (T := TX5) (N := 15) hx hb hts (fun w h => List.mem_cons_of_mem _ (List.mem_append_left _ (List.mem_append_right _ h))) hown hK hP 1 rfl rfl 12 (by decide) (hts (.fieldLink RX6 61 "LeastNeed$Valley" "people" "I") (List.mem_of_getElem? (i := 2) rfl)) (fun _ h9 => h9) rfl dX6_person_78 ?_
              refine lv_bipush (v := (7 : Int32)) hx hb dX6_person_81 (by decide) ?_
              refine lv_icmp_lt (tgt := 91) hx hb dX6_person_83 (by decide) (fun c83 => ?_) (fun c83 => ?_)
              · have hd := dn_t c83 hd
                refine lv_aload_n hx hb dX6_person_91 rfl (lv_at hl 1 rfl) ?_
                refine va_get (D := D) (ci := 4) (v := .ref (a 1)) (C := RX6) (T := TX6) (N := 12) hx hb hts (fun w h => List.mem_cons_of_mem _ (List.mem_append_left _ (List.mem_append_left _ (List.mem_append_right _ h)))) hown hK hP 0 rfl rfl 0 (by decide) (hts (.fieldLink RX6 12 "LeastNeed" "now" "LLeastNeed$Valley;") (List.mem_of_getElem? (i := 1) rfl)) (fun _ h9 => h9) rfl dX6_person_92 ?_
                refine lv_iload_n hx hb dX6_person_95 rfl (lv_at hl 2 rfl) ?_
                refine lv_iload_n hx hb dX6_person_96 rfl (lv_at hl 3 rfl) ?_
                refine lv_iload_n hx hb dX6_person_97 rfl (lv_at hl 4 rfl) ?_
                refine lv_iload hx hb dX6_person_98 (lv_at hl 5 rfl) ?_
                refine lv_iload hx hb dX6_person_100 (lv_at hl 6 rfl) ?_
                refine lv_iload hx hb dX6_person_102 (lv_at hl 7 rfl) ?_
                obtain ⟨S104, hq104, hd⟩ := dn_b1 hd
                have hPc : va_P D vwCl (wX5 cs (k_wi a 1) (k_wi S_23 1)) _ := k_sub hP [1, 2, 3, 4, 5, 6, 7, 8, 9, 10, 11, 12, 13, 14, 15, 16] (wcX6_X5_1 cs a S_23 L)
                have hDc : va_D A (wX5 cs (k_wi a 1) (k_wi S_23 1)) := hD.sub [1, 2, 3, 4, 5, 6, 7, 8, 9, 10, 11, 12, 13, 14, 15, 16] (by decide) (wcX6_X5_1 cs a S_23 L)
                have hF := k_self hDc hS hA
                refine k_run_v (va_runV (As := [.int p1, .int p2, .int p3, .int p4, .int p5, .int p6]) (rest := []) ⟨hx, hb, hml, hown, hts⟩ (mX5_addPerson l D cs (k_wi a 1) (k_wi S_23 1) p1 p2 p3 p4 p5 p6 S104 hq104 _) (cwV 6 hts gX6_person_X5_addPerson rfl rfl rfl (by decide +kernel) ⟨Nat.le_of_ble_eq_true rfl, Nat.le_of_ble_eq_true rfl⟩) ⟨k_blind, va_recv hK hP (ci := 3) (q0 := 1) rfl rfl, k_pre hPc hK hNn hDc⟩ rfl rfl hl.1 rfl (lv_room (Nat.le_of_ble_eq_true rfl)) dX6_person_104 ⟨Nat.le_of_ble_eq_true rfl, Nat.le_of_ble_eq_true rfl⟩) hS hF (fun H locs hP1 hk hS => ?_)
                have hP : va_P D vwCl (wX6 cs a (k_sp S_23 1 16 S104) L) _ := k_back hP hD [1, 2, 3, 4, 5, 6, 7, 8, 9, 10, 11, 12, 13, 14, 15, 16] [0, 17, 18, 19, 20, 21, 22, 23, 24, 25, 26, 27, 28, 29, 30, 31, 32, 33, 34, 35, 36, 37, 38, 39, 40, 41, 42, 43, 44, 45, 46, 47, 48, 49, 50, 51, 52, 53, 54, 55, 56, 57, 58, 59, 60, 61, 62, 63, 64, 65, 66, 67, 68, 69, 70, 71, 72, 73, 74, 75, 76, 77, 78] [0, 63, 64, 65, 66, 67, 68, 69, 70, 71, 72, 73, 74, 75, 76, 77, 78, 1, 2, 3, 4, 5, 6, 7, 8, 9, 10, 11, 12, 13, 14, 15, 16, 17, 18, 19, 20, 21, 22, 23, 24, 25, 26, 27, 28, 29, 30, 31, 32, 33, 34, 35, 36, 37, 38, 39, 40, 41, 42, 43, 44, 45, 46, 47, 48, 49, 50, 51, 52, 53, 54, 55, 56, 57, 58, 59, 60, 61, 62] (wcX6_X5_1 cs a S_23 L) (by decide) hk hP1 (wbX6_X5_1_S0 cs a S_23 L S104)
                have hD := hDA (k_sp S_23 1 16 S104) L
                refine lv_aload_n hx hb dX6_person_107 rfl (lv_at hl 1 rfl) ?_
                refine va_get (D := D) (ci := 4) (v := .ref (a 1)) (C := RX6) (T := TX6) (N := 12) hx hb hts (fun w h => List.mem_cons_of_mem _ (List.mem_append_left _ (List.mem_append_left _ (List.mem_append_right _ h)))) hown hK hP 0 rfl rfl 0 (by decide) (hts (.fieldLink RX6 12 "LeastNeed" "now" "LLeastNeed$Valley;") (List.mem_of_getElem? (i := 1) rfl)) (fun _ h9 => h9) rfl dX6_person_108 ?_
                refine va_get (D := D) (ci := 3) (v := .int ((k_sp S_23 1 16 S104) 1 12)) (C := RX5) (T := TX5) (N := 15) hx hb hts (fun w h => List.mem_cons_of_mem _ (List.mem_append_left _ (List.mem_append_right _ h))) hown hK hP 1 rfl rfl 12 (by decide) (hts (.fieldLink RX6 61 "LeastNeed$Valley" "people" "I") (List.mem_of_getElem? (i := 2) rfl)) (fun _ h9 => h9) rfl dX6_person_111 ?_
                refine lv_iconst (v := (1 : Int32)) hx hb dX6_person_114 (by decide) ?_
                refine lv_isub hx hb dX6_person_115 ?_
                obtain ⟨e1, e2⟩ := dn_s2 hd
                exact k_iret hx hb hr hQ hAe e1 (by rw [e2]) hP hS hlocks dX6_person_116
              · have hd := dn_f c83 hd
                refine lv_aload_n hx hb dX6_person_86 rfl (lv_at hl 1 rfl) ?_
                obtain ⟨r87, S87, hq87, hd⟩ := dn_b2 hd
                have hF := k_self hD hS hA
                refine k_run_i (va_runV (As := []) (rest := []) ⟨hx, hb, hml, hown, hts⟩ (mX6_refusedAsFull l D cs a S_23 L r87 S87 hq87 _) (cwV 0 hts gX6_person_X6_refusedAsFull rfl rfl rfl (by decide +kernel) ⟨Nat.le_of_ble_eq_true rfl, Nat.le_of_ble_eq_true rfl⟩) ⟨k_blind, va_recv hK hP (ci := 4) (q0 := 0) rfl rfl, k_pre hP hK hNn hD⟩ rfl rfl hl.1 rfl (lv_room (Nat.le_of_ble_eq_true rfl)) dX6_person_87 ⟨Nat.le_of_ble_eq_true rfl, Nat.le_of_ble_eq_true rfl⟩) hS hF (fun H locs hP1 hk hS => ?_)
                have hP : va_P D vwCl (wX6 cs a S87 L) _ := hP1
                have hD := hDA S87 L
                obtain ⟨e1, e2⟩ := dn_s2 hd
                exact k_iret hx hb hr hQ hAe e1 (by rw [e2]) hP hS hlocks dX6_person_90
            · have hd := dn_t c66 hd
              exact Jo69 S_23 _ _ _ hd (lv_sub hl [1] rfl) hP hS
  have Jo22 : ∀ (S_22 : Nat → Nat → Int32) (H : Heap) (locs : List Loc) (ls : Array Slot), nX6_person_j22 p1 p2 p3 p4 p5 p6 S_22 L = some (r9, S9) → lv_has ls 8 [(0, .ref (a 0)), (1, .int p1), (2, .int p2), (3, .int p3), (4, .int p4), (5, .int p5), (6, .int p6)] → va_P D vwCl (wX6 cs a S_22 L) H → va_S A s.heap H locs → W p l e (headSpec wsX6_person ({ frames := 1, cells := 0, slots := 0, locals := 26 })).room s m ([.ref (a 0), .int p1, .int p2, .int p3, .int p4, .int p5, .int p6] : List Value).toArray below meth c H locs 0 0 Q (F0 m 22 ls []) := by
    intro S_22 H locs ls hd hl hP hS
    have hD := hDA S_22 L
    unfold nX6_person_j22 at hd
    refine lv_iconst (v := (0 : Int32)) hx hb dX6_person_22 (by decide) ?_
    exact Jo23 (0 : Int32) S_22 _ _ _ hd (lv_sub hl [0, 1, 2, 3, 4, 5, 6] rfl) hP hS
  unfold nX6_person at hd
  refine lv_iload_n hx hb dX6_person_0 rfl (lv_at hl 1 rfl) ?_
  refine lv_bipush (v := (6 : Int32)) hx hb dX6_person_1 (by decide) ?_
  obtain ⟨r3, hq3, hd⟩ := dn_b1 hd
  have hPc := k_P0 hP
  have hDc : va_D A ([] : va_W) := k_D0
  have hF := k_self hDc hS hA
  refine k_run_i (va_runS (As := [.int p1, .int (6 : Int32)]) (rest := []) ⟨hx, hb, hml, hown, hts⟩ (mX6_upTo l D cs  p1 (6 : Int32) r3 hq3 _) (va_cwS 2 hts gX6_person_X6_upTo rfl rfl rfl (by decide +kernel) ⟨Nat.le_of_ble_eq_true rfl, Nat.le_of_ble_eq_true rfl⟩) ⟨k_blind, k_pre hPc hK hNn hDc⟩ rfl rfl hl.1 rfl (lv_room (Nat.le_of_ble_eq_true rfl)) dX6_person_3 ⟨Nat.le_of_ble_eq_true rfl, Nat.le_of_ble_eq_true rfl⟩) hS hF (fun H locs hP1 hk hS => ?_)
  have hP : va_P D vwCl (wX6 cs a S L) _ := k_keep hP hk
  refine lv_if_eq (tgt := 22) hx hb dX6_person_6 (by decide) (fun c6 => ?_) (fun c6 => ?_)
  · have hd := dn_t c6 hd
    exact Jo22 S _ _ _ hd (lv_sub hl [0, 1, 2, 3, 4, 5, 6] rfl) hP hS
  · have hd := dn_f c6 hd
    refine lv_iload_n hx hb dX6_person_9 rfl (lv_at hl 2 rfl) ?_
    refine lv_bipush (v := (20 : Int32)) hx hb dX6_person_10 (by decide) ?_
    obtain ⟨r12, hq12, hd⟩ := dn_b1 hd
    have hPc := k_P0 hP
    have hDc : va_D A ([] : va_W) := k_D0
    have hF := k_self hDc hS hA
    refine k_run_i (va_runS (As := [.int p2, .int (20 : Int32)]) (rest := []) ⟨hx, hb, hml, hown, hts⟩ (mX6_upTo l D cs  p2 (20 : Int32) r12 hq12 _) (va_cwS 2 hts gX6_person_X6_upTo rfl rfl rfl (by decide +kernel) ⟨Nat.le_of_ble_eq_true rfl, Nat.le_of_ble_eq_true rfl⟩) ⟨k_blind, k_pre hPc hK hNn hDc⟩ rfl rfl hl.1 rfl (lv_room (Nat.le_of_ble_eq_true rfl)) dX6_person_12 ⟨Nat.le_of_ble_eq_true rfl, Nat.le_of_ble_eq_true rfl⟩) hS hF (fun H locs hP1 hk hS => ?_)
    have hP : va_P D vwCl (wX6 cs a S L) _ := k_keep hP hk
    refine lv_if_eq (tgt := 22) hx hb dX6_person_15 (by decide) (fun c15 => ?_) (fun c15 => ?_)
    · have hd := dn_t c15 hd
      exact Jo22 S _ _ _ hd (lv_sub hl [0, 1, 2, 3, 4, 5, 6] rfl) hP hS
    · have hd := dn_f c15 hd
      refine lv_iconst (v := (1 : Int32)) hx hb dX6_person_18 (by decide) ?_
      refine lv_goto (tgt := 23) hx hb dX6_person_19 (by decide) ?_
      exact Jo23 (1 : Int32) S _ _ _ hd (lv_sub hl [0, 1, 2, 3, 4, 5, 6] rfl) hP hS
-- LeastNeed.isPerson(I)Z
set_option maxRecDepth 20000 in
def nX6_isPerson (S : Nat → Nat → Int32) (L : Nat → Nat → Int64) (p1 : Int32) : Option (Int32) := k_b1 (nX6_upTo p1 (S 1 12)) (fun r8 => if ¬ (r8 = 0 ∨ r8 = 1) then none else some r8)
set_option maxHeartbeats 4000000 in
set_option maxRecDepth 100000 in
theorem mX6_isPerson (l : Launch) (D : va_G) (cs : Nat → ClassId) (a : Nat → Nat) (S : Nat → Nat → Int32) (L : Nat → Nat → Int64) (p1 : Int32) (r9 : Int32) (hd : nX6_isPerson S L p1 = some r9) : ∀ sz : Nat, Met l yX6_isPerson wsX6_isPerson ({ frames := 1, cells := 0, slots := 0, locals := 21 }) (k_Pc D cs [.ref (a 0), .int p1] (wX6 cs a S L) sz) (k_Qi D r9 (wX6 cs a S L) (wX6 cs a S L) sz) 0 0 (va_A (wX6 cs a S L) sz) := by
  intro sz
  refine Met.ofW (cc := cX6_isPerson) (maxL := 2) (ret := (some .boolean)) (by decide) rfl ?_
  intro p e s m args below meth c s₁ B hml hv
  obtain ⟨rfl, hsz, hP, hK, hD0, hNn⟩ := hv
  have hx := B.exec
  have hb := B.bytes
  have hr := B.returns
  have hts := atoms_spec (ws := wsX6_isPerson) B.pre
  have hown : s.vm.findClass RX6 = some m.cls := findClass_of_methodNamed B.named
  have hlocks := B.notSynchronized
  subst hsz
  obtain ⟨A, hAe⟩ : ∃ A : Nat → Prop, A = va_A (wX6 cs a S L) s.heap.size := ⟨_, rfl⟩
  have hD : va_D A (wX6 cs a S L) := by rw [hAe]; exact hD0.self
  have hA : ∀ q : Nat, s.heap.size ≤ q → A q := fun q h => by rw [hAe]; exact Or.inr h
  have hS : va_S A s.heap s.heap [] := va_S.rf
  have hDA : ∀ (S : Nat → Nat → Int32) (L : Nat → Nat → Int64), va_D A (wX6 cs a S L) := fun S L => k_DA hD rfl
  have hl := lv_entry ([.ref (a 0), .int p1]) (n := 2) (Nat.le_of_ble_eq_true rfl)
  rw [lg_entry_eq]
  generalize (lg_sl ([.ref (a 0), .int p1]) ++ List.replicate (2 - (lg_sl ([.ref (a 0), .int p1])).length) Slot.unset).toArray = ls at hl ⊢
  have hl : lv_has ls 2 [(0, .ref (a 0)), (1, .int p1)] := hl
  obtain ⟨Q, hQ⟩ : ∃ Q, Q = MQ below (k_Qi D r9 (wX6 cs a S L) (wX6 cs a S L) s.heap.size) ([.ref (a 0), .int p1] : List Value).toArray s 0 0 (va_A (wX6 cs a S L) s.heap.size) := ⟨_, rfl⟩
  rw [← hQ]
  unfold nX6_isPerson at hd
  refine lv_iload_n hx hb dX6_isPerson_0 rfl (lv_at hl 1 rfl) ?_
  refine lv_aload_n hx hb dX6_isPerson_1 rfl (lv_at hl 0 rfl) ?_
  refine va_get (D := D) (ci := 4) (v := .ref (a 1)) (C := RX6) (T := TX6) (N := 12) hx hb hts (fun w h => List.mem_cons_of_mem _ (List.mem_append_left _ (List.mem_append_right _ h))) hown hK hP 0 rfl rfl 0 (by decide) (hts (.fieldLink RX6 12 "LeastNeed" "now" "LLeastNeed$Valley;") (List.mem_of_getElem? (i := 1) rfl)) (fun _ h9 => h9) rfl dX6_isPerson_2 ?_
  refine va_get (D := D) (ci := 3) (v := .int (S 1 12)) (C := RX5) (T := TX5) (N := 15) hx hb hts (fun w h => List.mem_cons_of_mem _ (List.mem_append_right _ h)) hown hK hP 1 rfl rfl 12 (by decide) (hts (.fieldLink RX6 61 "LeastNeed$Valley" "people" "I") (List.mem_of_getElem? (i := 2) rfl)) (fun _ h9 => h9) rfl dX6_isPerson_5 ?_
  obtain ⟨r8, hq8, hd⟩ := dn_b1 hd
  have hPc := k_P0 hP
  have hDc : va_D A ([] : va_W) := k_D0
  have hF := k_self hDc hS hA
  refine k_run_i (va_runS (As := [.int p1, .int (S 1 12)]) (rest := []) ⟨hx, hb, hml, hown, hts⟩ (mX6_upTo l D cs  p1 (S 1 12) r8 hq8 _) (va_cwS 2 hts gX6_isPerson_X6_upTo rfl rfl rfl (by decide +kernel) ⟨Nat.le_of_ble_eq_true rfl, Nat.le_of_ble_eq_true rfl⟩) ⟨k_blind, k_pre hPc hK hNn hDc⟩ rfl rfl hl.1 rfl (lv_room (Nat.le_of_ble_eq_true rfl)) dX6_isPerson_8 ⟨Nat.le_of_ble_eq_true rfl, Nat.le_of_ble_eq_true rfl⟩) hS hF (fun H locs hP1 hk hS => ?_)
  have hP : va_P D vwCl (wX6 cs a S L) _ := k_keep hP hk
  obtain ⟨hz, hd⟩ := dn_n hd
  have e1 := dn_s1 hd
  exact k_zret hx hb hr (dn_z hz) hQ hAe e1 rfl hP hS hlocks dX6_isPerson_11
-- LeastNeed.thing(III)I
set_option maxRecDepth 20000 in
def nX6_thing_j25 (S_25 : Nat → Nat → Int32) (L : Nat → Nat → Int64) : Option (Int32 × (Nat → Nat → Int32)) := k_b2 (nX6_refusedAsBad S_25 L) (fun r26 S26 => some (r26, S26))
set_option maxRecDepth 20000 in
def nX6_thing (S : Nat → Nat → Int32) (L : Nat → Nat → Int64) (p1 : Int32) (p2 : Int32) (p3 : Int32) : Option (Int32 × (Nat → Nat → Int32)) := k_b1 (nX6_upTo p1 (6 : Int32)) (fun r3 => if r3 = 0 then nX6_thing_j25 S L else k_b1 (nX6_upTo p2 (4 : Int32)) (fun r11 => if r11 = 0 then nX6_thing_j25 S L else k_b1 (nX6_isPerson S L p3) (fun r19 => if r19 = 0 then nX6_thing_j25 S L else if (S 1 13) < (5 : Int32) then k_b1 (nX5_addThing (k_wi S 1) p1 p2 p3) (fun S53 => some ((((k_sp S 1 16 S53) 1 13) - (1 : Int32)), (k_sp S 1 16 S53))) else k_b2 (nX6_refusedAsFull S L) (fun r42 S42 => some (r42, S42)))))
set_option maxHeartbeats 4000000 in
set_option maxRecDepth 100000 in
theorem mX6_thing (l : Launch) (D : va_G) (cs : Nat → ClassId) (a : Nat → Nat) (S : Nat → Nat → Int32) (L : Nat → Nat → Int64) (p1 : Int32) (p2 : Int32) (p3 : Int32) (r9 : Int32) (S9 : (Nat → Nat → Int32)) (hd : nX6_thing S L p1 p2 p3 = some (r9, S9)) : ∀ sz : Nat, Met l yX6_thing wsX6_thing ({ frames := 2, cells := 0, slots := 0, locals := 42 }) (k_Pc D cs [.ref (a 0), .int p1, .int p2, .int p3] (wX6 cs a S L) sz) (k_Qi D r9 (wX6 cs a S L) (wX6 cs a S9 L) sz) 0 0 (va_A (wX6 cs a S L) sz) := by
  intro sz
  refine Met.ofW (cc := cX6_thing) (maxL := 4) (ret := (some .int)) (by decide) rfl ?_
  intro p e s m args below meth c s₁ B hml hv
  obtain ⟨rfl, hsz, hP, hK, hD0, hNn⟩ := hv
  have hx := B.exec
  have hb := B.bytes
  have hr := B.returns
  have hts := atoms_spec (ws := wsX6_thing) B.pre
  have hown : s.vm.findClass RX6 = some m.cls := findClass_of_methodNamed B.named
  have hlocks := B.notSynchronized
  subst hsz
  obtain ⟨A, hAe⟩ : ∃ A : Nat → Prop, A = va_A (wX6 cs a S L) s.heap.size := ⟨_, rfl⟩
  have hD : va_D A (wX6 cs a S L) := by rw [hAe]; exact hD0.self
  have hA : ∀ q : Nat, s.heap.size ≤ q → A q := fun q h => by rw [hAe]; exact Or.inr h
  have hS : va_S A s.heap s.heap [] := va_S.rf
  have hDA : ∀ (S : Nat → Nat → Int32) (L : Nat → Nat → Int64), va_D A (wX6 cs a S L) := fun S L => k_DA hD rfl
  have hl := lv_entry ([.ref (a 0), .int p1, .int p2, .int p3]) (n := 4) (Nat.le_of_ble_eq_true rfl)
  rw [lg_entry_eq]
  generalize (lg_sl ([.ref (a 0), .int p1, .int p2, .int p3]) ++ List.replicate (4 - (lg_sl ([.ref (a 0), .int p1, .int p2, .int p3])).length) Slot.unset).toArray = ls at hl ⊢
  have hl : lv_has ls 4 [(0, .ref (a 0)), (1, .int p1), (2, .int p2), (3, .int p3)] := hl
  obtain ⟨Q, hQ⟩ : ∃ Q, Q = MQ below (k_Qi D r9 (wX6 cs a S L) (wX6 cs a S9 L) s.heap.size) ([.ref (a 0), .int p1, .int p2, .int p3] : List Value).toArray s 0 0 (va_A (wX6 cs a S L) s.heap.size) := ⟨_, rfl⟩
  rw [← hQ]
  have Jo25 : ∀ (S_25 : Nat → Nat → Int32) (H : Heap) (locs : List Loc) (ls : Array Slot), nX6_thing_j25 S_25 L = some (r9, S9) → lv_has ls 4 [(0, .ref (a 0))] → va_P D vwCl (wX6 cs a S_25 L) H → va_S A s.heap H locs → W p l e (headSpec wsX6_thing ({ frames := 2, cells := 0, slots := 0, locals := 42 })).room s m ([.ref (a 0), .int p1, .int p2, .int p3] : List Value).toArray below meth c H locs 0 0 Q (F0 m 25 ls []) := by
    intro S_25 H locs ls hd hl hP hS
    have hD := hDA S_25 L
    unfold nX6_thing_j25 at hd
    refine lv_aload_n hx hb dX6_thing_25 rfl (lv_at hl 0 rfl) ?_
    obtain ⟨r26, S26, hq26, hd⟩ := dn_b2 hd
    have hF := k_self hD hS hA
    refine k_run_i (va_runV (As := []) (rest := []) ⟨hx, hb, hml, hown, hts⟩ (mX6_refusedAsBad l D cs a S_25 L r26 S26 hq26 _) (cwV 0 hts gX6_thing_X6_refusedAsBad rfl rfl rfl (by decide +kernel) ⟨Nat.le_of_ble_eq_true rfl, Nat.le_of_ble_eq_true rfl⟩) ⟨k_blind, va_recv hK hP (ci := 4) (q0 := 0) rfl rfl, k_pre hP hK hNn hD⟩ rfl rfl hl.1 rfl (lv_room (Nat.le_of_ble_eq_true rfl)) dX6_thing_26 ⟨Nat.le_of_ble_eq_true rfl, Nat.le_of_ble_eq_true rfl⟩) hS hF (fun H locs hP1 hk hS => ?_)
    have hP : va_P D vwCl (wX6 cs a S26 L) _ := hP1
    have hD := hDA S26 L
    obtain ⟨e1, e2⟩ := dn_s2 hd
    exact k_iret hx hb hr hQ hAe e1 (by rw [e2]) hP hS hlocks dX6_thing_29
  unfold nX6_thing at hd
  refine lv_iload_n hx hb dX6_thing_0 rfl (lv_at hl 1 rfl) ?_
  refine lv_bipush (v := (6 : Int32)) hx hb dX6_thing_1 (by decide) ?_
  obtain ⟨r3, hq3, hd⟩ := dn_b1 hd
  have hPc := k_P0 hP
  have hDc : va_D A ([] : va_W) := k_D0
  have hF := k_self hDc hS hA
  refine k_run_i (va_runS (As := [.int p1, .int (6 : Int32)]) (rest := []) ⟨hx, hb, hml, hown, hts⟩ (mX6_upTo l D cs  p1 (6 : Int32) r3 hq3 _) (va_cwS 2 hts gX6_thing_X6_upTo rfl rfl rfl (by decide +kernel) ⟨Nat.le_of_ble_eq_true rfl, Nat.le_of_ble_eq_true rfl⟩) ⟨k_blind, k_pre hPc hK hNn hDc⟩ rfl rfl hl.1 rfl (lv_room (Nat.le_of_ble_eq_true rfl)) dX6_thing_3 ⟨Nat.le_of_ble_eq_true rfl, Nat.le_of_ble_eq_true rfl⟩) hS hF (fun H locs hP1 hk hS => ?_)
  have hP : va_P D vwCl (wX6 cs a S L) _ := k_keep hP hk
  refine lv_if_eq (tgt := 25) hx hb dX6_thing_6 (by decide) (fun c6 => ?_) (fun c6 => ?_)
  · have hd := dn_t c6 hd
    exact Jo25 S _ _ _ hd (lv_sub hl [0] rfl) hP hS
  · have hd := dn_f c6 hd
    refine lv_iload_n hx hb dX6_thing_9 rfl (lv_at hl 2 rfl) ?_
    refine lv_iconst (v := (4 : Int32)) hx hb dX6_thing_10 (by decide) ?_
    obtain ⟨r11, hq11, hd⟩ := dn_b1 hd
    have hPc := k_P0 hP
    have hDc : va_D A ([] : va_W) := k_D0
    have hF := k_self hDc hS hA
    refine k_run_i (va_runS (As := [.int p2, .int (4 : Int32)]) (rest := []) ⟨hx, hb, hml, hown, hts⟩ (mX6_upTo l D cs  p2 (4 : Int32) r11 hq11 _) (va_cwS 2 hts gX6_thing_X6_upTo rfl rfl rfl (by decide +kernel) ⟨Nat.le_of_ble_eq_true rfl, Nat.le_of_ble_eq_true rfl⟩) ⟨k_blind, k_pre hPc hK hNn hDc⟩ rfl rfl hl.1 rfl (lv_room (Nat.le_of_ble_eq_true rfl)) dX6_thing_11 ⟨Nat.le_of_ble_eq_true rfl, Nat.le_of_ble_eq_true rfl⟩) hS hF (fun H locs hP1 hk hS => ?_)
    have hP : va_P D vwCl (wX6 cs a S L) _ := k_keep hP hk
    refine lv_if_eq (tgt := 25) hx hb dX6_thing_14 (by decide) (fun c14 => ?_) (fun c14 => ?_)
    · have hd := dn_t c14 hd
      exact Jo25 S _ _ _ hd (lv_sub hl [0] rfl) hP hS
    · have hd := dn_f c14 hd
      refine lv_aload_n hx hb dX6_thing_17 rfl (lv_at hl 0 rfl) ?_
      refine lv_iload_n hx hb dX6_thing_18 rfl (lv_at hl 3 rfl) ?_
      obtain ⟨r19, hq19, hd⟩ := dn_b1 hd
      have hF := k_self hD hS hA
      refine k_run_i (va_runV (As := [.int p3]) (rest := []) ⟨hx, hb, hml, hown, hts⟩ (mX6_isPerson l D cs a S L p3 r19 hq19 _) (cwV 1 hts gX6_thing_X6_isPerson rfl rfl rfl (by decide +kernel) ⟨Nat.le_of_ble_eq_true rfl, Nat.le_of_ble_eq_true rfl⟩) ⟨k_blind, va_recv hK hP (ci := 4) (q0 := 0) rfl rfl, k_pre hP hK hNn hD⟩ rfl rfl hl.1 rfl (lv_room (Nat.le_of_ble_eq_true rfl)) dX6_thing_19 ⟨Nat.le_of_ble_eq_true rfl, Nat.le_of_ble_eq_true rfl⟩) hS hF (fun H locs hP1 hk hS => ?_)
      have hP : va_P D vwCl (wX6 cs a S L) _ := hP1
      have hD := hDA S L
      refine lv_if_ne (tgt := 30) hx hb dX6_thing_22 (by decide) (fun c22 => ?_) (fun c22 => ?_)
      · have hd := dn_f c22 hd
        refine lv_aload_n hx hb dX6_thing_30 rfl (lv_at hl 0 rfl) ?_
        refine va_get (D := D) (ci := 4) (v := .ref (a 1)) (C := RX6) (T := TX6) (N := 12) hx hb hts (fun w h => List.mem_cons_of_mem _ (List.mem_append_left _ (List.mem_append_left _ (List.mem_append_right _ h)))) hown hK hP 0 rfl rfl 0 (by decide) (hts (.fieldLink RX6 12 "LeastNeed" "now" "LLeastNeed$Valley;") (List.mem_of_getElem? (i := 1) rfl)) (fun _ h9 => h9) rfl dX6_thing_31 ?_
        refine va_get (D := D) (ci := 3) (v := .int (S 1 13)) (C := RX5) (T := TX5) (N := 15) hx hb hts (fun w h => List.mem_cons_of_mem _ (List.mem_append_left _ (List.mem_append_right _ h))) hown hK hP 1 rfl rfl 13 (by decide) (hts (.fieldLink RX6 87 "LeastNeed$Valley" "things" "I") (List.mem_of_getElem? (i := 2) rfl)) (fun _ h9 => h9) rfl dX6_thing_34 ?_
        refine lv_iconst (v := (5 : Int32)) hx hb dX6_thing_37 (by decide) ?_
        refine lv_icmp_lt (tgt := 46) hx hb dX6_thing_38 (by decide) (fun c38 => ?_) (fun c38 => ?_)
        · have hd := dn_t c38 hd
          refine lv_aload_n hx hb dX6_thing_46 rfl (lv_at hl 0 rfl) ?_
          refine va_get (D := D) (ci := 4) (v := .ref (a 1)) (C := RX6) (T := TX6) (N := 12) hx hb hts (fun w h => List.mem_cons_of_mem _ (List.mem_append_left _ (List.mem_append_left _ (List.mem_append_right _ h)))) hown hK hP 0 rfl rfl 0 (by decide) (hts (.fieldLink RX6 12 "LeastNeed" "now" "LLeastNeed$Valley;") (List.mem_of_getElem? (i := 1) rfl)) (fun _ h9 => h9) rfl dX6_thing_47 ?_
          refine lv_iload_n hx hb dX6_thing_50 rfl (lv_at hl 1 rfl) ?_
          refine lv_iload_n hx hb dX6_thing_51 rfl (lv_at hl 2 rfl) ?_
          refine lv_iload_n hx hb dX6_thing_52 rfl (lv_at hl 3 rfl) ?_
          obtain ⟨S53, hq53, hd⟩ := dn_b1 hd
          have hPc : va_P D vwCl (wX5 cs (k_wi a 1) (k_wi S 1)) _ := k_sub hP [1, 2, 3, 4, 5, 6, 7, 8, 9, 10, 11, 12, 13, 14, 15, 16] (wcX6_X5_1 cs a S L)
          have hDc : va_D A (wX5 cs (k_wi a 1) (k_wi S 1)) := hD.sub [1, 2, 3, 4, 5, 6, 7, 8, 9, 10, 11, 12, 13, 14, 15, 16] (by decide) (wcX6_X5_1 cs a S L)
          have hF := k_self hDc hS hA
          refine k_run_v (va_runV (As := [.int p1, .int p2, .int p3]) (rest := []) ⟨hx, hb, hml, hown, hts⟩ (mX5_addThing l D cs (k_wi a 1) (k_wi S 1) p1 p2 p3 S53 hq53 _) (cwV 3 hts gX6_thing_X5_addThing rfl rfl rfl (by decide +kernel) ⟨Nat.le_of_ble_eq_true rfl, Nat.le_of_ble_eq_true rfl⟩) ⟨k_blind, va_recv hK hP (ci := 3) (q0 := 1) rfl rfl, k_pre hPc hK hNn hDc⟩ rfl rfl hl.1 rfl (lv_room (Nat.le_of_ble_eq_true rfl)) dX6_thing_53 ⟨Nat.le_of_ble_eq_true rfl, Nat.le_of_ble_eq_true rfl⟩) hS hF (fun H locs hP1 hk hS => ?_)
          have hP : va_P D vwCl (wX6 cs a (k_sp S 1 16 S53) L) _ := k_back hP hD [1, 2, 3, 4, 5, 6, 7, 8, 9, 10, 11, 12, 13, 14, 15, 16] [0, 17, 18, 19, 20, 21, 22, 23, 24, 25, 26, 27, 28, 29, 30, 31, 32, 33, 34, 35, 36, 37, 38, 39, 40, 41, 42, 43, 44, 45, 46, 47, 48, 49, 50, 51, 52, 53, 54, 55, 56, 57, 58, 59, 60, 61, 62, 63, 64, 65, 66, 67, 68, 69, 70, 71, 72, 73, 74, 75, 76, 77, 78] [0, 63, 64, 65, 66, 67, 68, 69, 70, 71, 72, 73, 74, 75, 76, 77, 78, 1, 2, 3, 4, 5, 6, 7, 8, 9, 10, 11, 12, 13, 14, 15, 16, 17, 18, 19, 20, 21, 22, 23, 24, 25, 26, 27, 28, 29, 30, 31, 32, 33, 34, 35, 36, 37, 38, 39, 40, 41, 42, 43, 44, 45, 46, 47, 48, 49, 50, 51, 52, 53, 54, 55, 56, 57, 58, 59, 60, 61, 62] (wcX6_X5_1 cs a S L) (by decide) hk hP1 (wbX6_X5_1_S0 cs a S L S53)
          have hD := hDA (k_sp S 1 16 S53) L
          refine lv_aload_n hx hb dX6_thing_56 rfl (lv_at hl 0 rfl) ?_
          refine va_get (D := D) (ci := 4) (v := .ref (a 1)) (C := RX6) (T := TX6) (N := 12) hx hb hts (fun w h => List.mem_cons_of_mem _ (List.mem_append_left _ (List.mem_append_left _ (List.mem_append_right _ h)))) hown hK hP 0 rfl rfl 0 (by decide) (hts (.fieldLink RX6 12 "LeastNeed" "now" "LLeastNeed$Valley;") (List.mem_of_getElem? (i := 1) rfl)) (fun _ h9 => h9) rfl dX6_thing_57 ?_
          refine va_get (D := D) (ci := 3) (v := .int ((k_sp S 1 16 S53) 1 13)) (C := RX5) (T := TX5) (N := 15) hx hb hts (fun w h => List.mem_cons_of_mem _ (List.mem_append_left _ (List.mem_append_right _ h))) hown hK hP 1 rfl rfl 13 (by decide) (hts (.fieldLink RX6 87 "LeastNeed$Valley" "things" "I") (List.mem_of_getElem? (i := 2) rfl)) (fun _ h9 => h9) rfl dX6_thing_60 ?_
          refine lv_iconst (v := (1 : Int32)) hx hb dX6_thing_63 (by decide) ?_
          refine lv_isub hx hb dX6_thing_64 ?_
          obtain ⟨e1, e2⟩ := dn_s2 hd
          exact k_iret hx hb hr hQ hAe e1 (by rw [e2]) hP hS hlocks dX6_thing_65
        · have hd := dn_f c38 hd
          refine lv_aload_n hx hb dX6_thing_41 rfl (lv_at hl 0 rfl) ?_
          obtain ⟨r42, S42, hq42, hd⟩ := dn_b2 hd
          have hF := k_self hD hS hA
          refine k_run_i (va_runV (As := []) (rest := []) ⟨hx, hb, hml, hown, hts⟩ (mX6_refusedAsFull l D cs a S L r42 S42 hq42 _) (cwV 0 hts gX6_thing_X6_refusedAsFull rfl rfl rfl (by decide +kernel) ⟨Nat.le_of_ble_eq_true rfl, Nat.le_of_ble_eq_true rfl⟩) ⟨k_blind, va_recv hK hP (ci := 4) (q0 := 0) rfl rfl, k_pre hP hK hNn hD⟩ rfl rfl hl.1 rfl (lv_room (Nat.le_of_ble_eq_true rfl)) dX6_thing_42 ⟨Nat.le_of_ble_eq_true rfl, Nat.le_of_ble_eq_true rfl⟩) hS hF (fun H locs hP1 hk hS => ?_)
          have hP : va_P D vwCl (wX6 cs a S42 L) _ := hP1
          have hD := hDA S42 L
          obtain ⟨e1, e2⟩ := dn_s2 hd
          exact k_iret hx hb hr hQ hAe e1 (by rw [e2]) hP hS hlocks dX6_thing_45
      · have hd := dn_t c22 hd
        exact Jo25 S _ _ _ hd (lv_sub hl [0] rfl) hP hS
-- LeastNeed.type(I)I
set_option maxRecDepth 20000 in
def nX6_type (S : Nat → Nat → Int32) (L : Nat → Nat → Int64) (p1 : Int32) : Option (Int32 × (Nat → Nat → Int32)) := k_b1 (nX6_upTo p1 (128 : Int32)) (fun r4 => if r4 = 0 then k_b2 (nX6_refusedAsBad S L) (fun r11 S11 => some (r11, S11)) else if (S 67 2) < (150 : Int32) then k_b1 (nX2_put (k_wi S 67) ((p1.toUInt32 % 65536).toInt32)) (fun S39 => some (((k_sp S 67 3 S39) 67 2), (k_sp S 67 3 S39))) else k_b2 (nX6_refusedAsFull S L) (fun r29 S29 => some (r29, S29)))
set_option maxHeartbeats 4000000 in
set_option maxRecDepth 100000 in
theorem mX6_type (l : Launch) (D : va_G) (cs : Nat → ClassId) (a : Nat → Nat) (S : Nat → Nat → Int32) (L : Nat → Nat → Int64) (p1 : Int32) (r9 : Int32) (S9 : (Nat → Nat → Int32)) (hd : nX6_type S L p1 = some (r9, S9)) : ∀ sz : Nat, Met l yX6_type wsX6_type ({ frames := 1, cells := 0, slots := 0, locals := 21 }) (k_Pc D cs [.ref (a 0), .int p1] (wX6 cs a S L) sz) (k_Qi D r9 (wX6 cs a S L) (wX6 cs a S9 L) sz) 0 0 (va_A (wX6 cs a S L) sz) := by
  intro sz
  refine Met.ofW (cc := cX6_type) (maxL := 2) (ret := (some .int)) (by decide) rfl ?_
  intro p e s m args below meth c s₁ B hml hv
  obtain ⟨rfl, hsz, hP, hK, hD0, hNn⟩ := hv
  have hx := B.exec
  have hb := B.bytes
  have hr := B.returns
  have hts := atoms_spec (ws := wsX6_type) B.pre
  have hown : s.vm.findClass RX6 = some m.cls := findClass_of_methodNamed B.named
  have hlocks := B.notSynchronized
  subst hsz
  obtain ⟨A, hAe⟩ : ∃ A : Nat → Prop, A = va_A (wX6 cs a S L) s.heap.size := ⟨_, rfl⟩
  have hD : va_D A (wX6 cs a S L) := by rw [hAe]; exact hD0.self
  have hA : ∀ q : Nat, s.heap.size ≤ q → A q := fun q h => by rw [hAe]; exact Or.inr h
  have hS : va_S A s.heap s.heap [] := va_S.rf
  have hDA : ∀ (S : Nat → Nat → Int32) (L : Nat → Nat → Int64), va_D A (wX6 cs a S L) := fun S L => k_DA hD rfl
  have hl := lv_entry ([.ref (a 0), .int p1]) (n := 2) (Nat.le_of_ble_eq_true rfl)
  rw [lg_entry_eq]
  generalize (lg_sl ([.ref (a 0), .int p1]) ++ List.replicate (2 - (lg_sl ([.ref (a 0), .int p1])).length) Slot.unset).toArray = ls at hl ⊢
  have hl : lv_has ls 2 [(0, .ref (a 0)), (1, .int p1)] := hl
  obtain ⟨Q, hQ⟩ : ∃ Q, Q = MQ below (k_Qi D r9 (wX6 cs a S L) (wX6 cs a S9 L) s.heap.size) ([.ref (a 0), .int p1] : List Value).toArray s 0 0 (va_A (wX6 cs a S L) s.heap.size) := ⟨_, rfl⟩
  rw [← hQ]
  unfold nX6_type at hd
  refine lv_iload_n hx hb dX6_type_0 rfl (lv_at hl 1 rfl) ?_
  refine lv_sipush (v := (128 : Int32)) hx hb dX6_type_1 (by decide) ?_
  obtain ⟨r4, hq4, hd⟩ := dn_b1 hd
  have hPc := k_P0 hP
  have hDc : va_D A ([] : va_W) := k_D0
  have hF := k_self hDc hS hA
  refine k_run_i (va_runS (As := [.int p1, .int (128 : Int32)]) (rest := []) ⟨hx, hb, hml, hown, hts⟩ (mX6_upTo l D cs  p1 (128 : Int32) r4 hq4 _) (va_cwS 2 hts gX6_type_X6_upTo rfl rfl rfl (by decide +kernel) ⟨Nat.le_of_ble_eq_true rfl, Nat.le_of_ble_eq_true rfl⟩) ⟨k_blind, k_pre hPc hK hNn hDc⟩ rfl rfl hl.1 rfl (lv_room (Nat.le_of_ble_eq_true rfl)) dX6_type_4 ⟨Nat.le_of_ble_eq_true rfl, Nat.le_of_ble_eq_true rfl⟩) hS hF (fun H locs hP1 hk hS => ?_)
  have hP : va_P D vwCl (wX6 cs a S L) _ := k_keep hP hk
  refine lv_if_ne (tgt := 15) hx hb dX6_type_7 (by decide) (fun c7 => ?_) (fun c7 => ?_)
  · have hd := dn_f c7 hd
    refine lv_aload_n hx hb dX6_type_15 rfl (lv_at hl 0 rfl) ?_
    refine va_get (D := D) (ci := 4) (v := .ref (a 67)) (C := RX6) (T := TX6) (N := 12) hx hb hts (fun w h => List.mem_cons_of_mem _ (List.mem_append_left _ (List.mem_append_right _ h))) hown hK hP 0 rfl rfl 4 (by decide) (hts (.fieldLink RX6 30 "LeastNeed" "reader" "LLeastNeed$Reader;") (List.mem_of_getElem? (i := 1) rfl)) (fun _ h9 => h9) rfl dX6_type_16 ?_
    refine va_get (D := D) (ci := 1) (v := .int (S 67 2)) (C := RX2) (T := TX2) (N := 6) hx hb hts (fun w h => List.mem_cons_of_mem _ (List.mem_append_right _ h)) hown hK hP 67 rfl rfl 2 (by decide) (hts (.fieldLink RX6 94 "LeastNeed$Reader" "length" "I") (List.mem_of_getElem? (i := 2) rfl)) (fun _ h9 => h9) rfl dX6_type_19 ?_
    refine lv_sipush (v := (150 : Int32)) hx hb dX6_type_22 (by decide) ?_
    refine lv_icmp_lt (tgt := 33) hx hb dX6_type_25 (by decide) (fun c25 => ?_) (fun c25 => ?_)
    · have hd := dn_t c25 hd
      refine lv_aload_n hx hb dX6_type_33 rfl (lv_at hl 0 rfl) ?_
      refine va_get (D := D) (ci := 4) (v := .ref (a 67)) (C := RX6) (T := TX6) (N := 12) hx hb hts (fun w h => List.mem_cons_of_mem _ (List.mem_append_left _ (List.mem_append_right _ h))) hown hK hP 0 rfl rfl 4 (by decide) (hts (.fieldLink RX6 30 "LeastNeed" "reader" "LLeastNeed$Reader;") (List.mem_of_getElem? (i := 1) rfl)) (fun _ h9 => h9) rfl dX6_type_34 ?_
      refine lv_iload_n hx hb dX6_type_37 rfl (lv_at hl 1 rfl) ?_
      refine lv_i2c hx hb dX6_type_38 rfl ?_
      obtain ⟨S39, hq39, hd⟩ := dn_b1 hd
      have hPc : va_P D vwCl (wX2 cs (k_wi a 67) (k_wi S 67)) _ := k_sub hP [67, 68, 69] (wcX6_X2_67 cs a S L)
      have hDc : va_D A (wX2 cs (k_wi a 67) (k_wi S 67)) := hD.sub [67, 68, 69] (by decide) (wcX6_X2_67 cs a S L)
      have hF := k_self hDc hS hA
      refine k_run_v (va_runV (As := [.int ((p1.toUInt32 % 65536).toInt32)]) (rest := []) ⟨hx, hb, hml, hown, hts⟩ (mX2_put l D cs (k_wi a 67) (k_wi S 67) ((p1.toUInt32 % 65536).toInt32) S39 hq39 _) (cwV 1 hts gX6_type_X2_put rfl rfl rfl (by decide +kernel) ⟨Nat.le_of_ble_eq_true rfl, Nat.le_of_ble_eq_true rfl⟩) ⟨k_blind, va_recv hK hP (ci := 1) (q0 := 67) rfl rfl, k_pre hPc hK hNn hDc⟩ rfl rfl hl.1 rfl (lv_room (Nat.le_of_ble_eq_true rfl)) dX6_type_39 ⟨Nat.le_of_ble_eq_true rfl, Nat.le_of_ble_eq_true rfl⟩) hS hF (fun H locs hP1 hk hS => ?_)
      have hP : va_P D vwCl (wX6 cs a (k_sp S 67 3 S39) L) _ := k_back hP hD [67, 68, 69] [0, 1, 2, 3, 4, 5, 6, 7, 8, 9, 10, 11, 12, 13, 14, 15, 16, 17, 18, 19, 20, 21, 22, 23, 24, 25, 26, 27, 28, 29, 30, 31, 32, 33, 34, 35, 36, 37, 38, 39, 40, 41, 42, 43, 44, 45, 46, 47, 48, 49, 50, 51, 52, 53, 54, 55, 56, 57, 58, 59, 60, 61, 62, 63, 64, 65, 66, 70, 71, 72, 73, 74, 75, 76, 77, 78] [0, 1, 2, 3, 4, 5, 6, 7, 8, 9, 10, 11, 12, 13, 14, 15, 16, 17, 18, 19, 20, 21, 22, 23, 24, 25, 26, 27, 28, 29, 30, 31, 32, 33, 34, 35, 36, 37, 38, 39, 40, 41, 42, 43, 44, 45, 46, 47, 48, 49, 50, 51, 52, 53, 54, 55, 56, 57, 58, 59, 60, 61, 62, 63, 64, 65, 66, 76, 77, 78, 67, 68, 69, 70, 71, 72, 73, 74, 75] (wcX6_X2_67 cs a S L) (by decide) hk hP1 (wbX6_X2_67_S0 cs a S L S39)
      have hD := hDA (k_sp S 67 3 S39) L
      refine lv_aload_n hx hb dX6_type_42 rfl (lv_at hl 0 rfl) ?_
      refine va_get (D := D) (ci := 4) (v := .ref (a 67)) (C := RX6) (T := TX6) (N := 12) hx hb hts (fun w h => List.mem_cons_of_mem _ (List.mem_append_left _ (List.mem_append_right _ h))) hown hK hP 0 rfl rfl 4 (by decide) (hts (.fieldLink RX6 30 "LeastNeed" "reader" "LLeastNeed$Reader;") (List.mem_of_getElem? (i := 1) rfl)) (fun _ h9 => h9) rfl dX6_type_43 ?_
      refine va_get (D := D) (ci := 1) (v := .int ((k_sp S 67 3 S39) 67 2)) (C := RX2) (T := TX2) (N := 6) hx hb hts (fun w h => List.mem_cons_of_mem _ (List.mem_append_right _ h)) hown hK hP 67 rfl rfl 2 (by decide) (hts (.fieldLink RX6 94 "LeastNeed$Reader" "length" "I") (List.mem_of_getElem? (i := 2) rfl)) (fun _ h9 => h9) rfl dX6_type_46 ?_
      obtain ⟨e1, e2⟩ := dn_s2 hd
      exact k_iret hx hb hr hQ hAe e1 (by rw [e2]) hP hS hlocks dX6_type_49
    · have hd := dn_f c25 hd
      refine lv_aload_n hx hb dX6_type_28 rfl (lv_at hl 0 rfl) ?_
      obtain ⟨r29, S29, hq29, hd⟩ := dn_b2 hd
      have hF := k_self hD hS hA
      refine k_run_i (va_runV (As := []) (rest := []) ⟨hx, hb, hml, hown, hts⟩ (mX6_refusedAsFull l D cs a S L r29 S29 hq29 _) (cwV 0 hts gX6_type_X6_refusedAsFull rfl rfl rfl (by decide +kernel) ⟨Nat.le_of_ble_eq_true rfl, Nat.le_of_ble_eq_true rfl⟩) ⟨k_blind, va_recv hK hP (ci := 4) (q0 := 0) rfl rfl, k_pre hP hK hNn hD⟩ rfl rfl hl.1 rfl (lv_room (Nat.le_of_ble_eq_true rfl)) dX6_type_29 ⟨Nat.le_of_ble_eq_true rfl, Nat.le_of_ble_eq_true rfl⟩) hS hF (fun H locs hP1 hk hS => ?_)
      have hP : va_P D vwCl (wX6 cs a S29 L) _ := hP1
      have hD := hDA S29 L
      obtain ⟨e1, e2⟩ := dn_s2 hd
      exact k_iret hx hb hr hQ hAe e1 (by rw [e2]) hP hS hlocks dX6_type_32
  · have hd := dn_t c7 hd
    refine lv_aload_n hx hb dX6_type_10 rfl (lv_at hl 0 rfl) ?_
    obtain ⟨r11, S11, hq11, hd⟩ := dn_b2 hd
    have hF := k_self hD hS hA
    refine k_run_i (va_runV (As := []) (rest := []) ⟨hx, hb, hml, hown, hts⟩ (mX6_refusedAsBad l D cs a S L r11 S11 hq11 _) (cwV 0 hts gX6_type_X6_refusedAsBad rfl rfl rfl (by decide +kernel) ⟨Nat.le_of_ble_eq_true rfl, Nat.le_of_ble_eq_true rfl⟩) ⟨k_blind, va_recv hK hP (ci := 4) (q0 := 0) rfl rfl, k_pre hP hK hNn hD⟩ rfl rfl hl.1 rfl (lv_room (Nat.le_of_ble_eq_true rfl)) dX6_type_11 ⟨Nat.le_of_ble_eq_true rfl, Nat.le_of_ble_eq_true rfl⟩) hS hF (fun H locs hP1 hk hS => ?_)
    have hP : va_P D vwCl (wX6 cs a S11 L) _ := hP1
    have hD := hDA S11 L
    obtain ⟨e1, e2⟩ := dn_s2 hd
    exact k_iret hx hb hr hQ hAe e1 (by rw [e2]) hP hS hlocks dX6_type_14
-- LeastNeed.clear()I
set_option maxRecDepth 20000 in
def nX6_clear (S : Nat → Nat → Int32) (L : Nat → Nat → Int64) : Option (Int32 × (Nat → Nat → Int32)) := some ((S 67 2), (k_w S 67 2 (0 : Int32)))
set_option maxHeartbeats 4000000 in
set_option maxRecDepth 100000 in
theorem mX6_clear (l : Launch) (D : va_G) (cs : Nat → ClassId) (a : Nat → Nat) (S : Nat → Nat → Int32) (L : Nat → Nat → Int64) (r9 : Int32) (S9 : (Nat → Nat → Int32)) (hd : nX6_clear S L = some (r9, S9)) : ∀ sz : Nat, Met l yX6_clear wsX6_clear ({ frames := 0, cells := 0, slots := 0, locals := 0 }) (k_Pc D cs [.ref (a 0)] (wX6 cs a S L) sz) (k_Qi D r9 (wX6 cs a S L) (wX6 cs a S9 L) sz) 0 0 (va_A (wX6 cs a S L) sz) := by
  intro sz
  refine Met.ofW (cc := cX6_clear) (maxL := 2) (ret := (some .int)) (by decide) rfl ?_
  intro p e s m args below meth c s₁ B hml hv
  obtain ⟨rfl, hsz, hP, hK, hD0, hNn⟩ := hv
  have hx := B.exec
  have hb := B.bytes
  have hr := B.returns
  have hts := atoms_spec (ws := wsX6_clear) B.pre
  have hown : s.vm.findClass RX6 = some m.cls := findClass_of_methodNamed B.named
  have hlocks := B.notSynchronized
  subst hsz
  obtain ⟨A, hAe⟩ : ∃ A : Nat → Prop, A = va_A (wX6 cs a S L) s.heap.size := ⟨_, rfl⟩
  have hD : va_D A (wX6 cs a S L) := by rw [hAe]; exact hD0.self
  have hA : ∀ q : Nat, s.heap.size ≤ q → A q := fun q h => by rw [hAe]; exact Or.inr h
  have hS : va_S A s.heap s.heap [] := va_S.rf
  have hDA : ∀ (S : Nat → Nat → Int32) (L : Nat → Nat → Int64), va_D A (wX6 cs a S L) := fun S L => k_DA hD rfl
  have hl := lv_entry ([.ref (a 0)]) (n := 2) (Nat.le_of_ble_eq_true rfl)
  rw [lg_entry_eq]
  generalize (lg_sl ([.ref (a 0)]) ++ List.replicate (2 - (lg_sl ([.ref (a 0)])).length) Slot.unset).toArray = ls at hl ⊢
  have hl : lv_has ls 2 [(0, .ref (a 0))] := hl
  obtain ⟨Q, hQ⟩ : ∃ Q, Q = MQ below (k_Qi D r9 (wX6 cs a S L) (wX6 cs a S9 L) s.heap.size) ([.ref (a 0)] : List Value).toArray s 0 0 (va_A (wX6 cs a S L) s.heap.size) := ⟨_, rfl⟩
  rw [← hQ]
  unfold nX6_clear at hd
  refine lv_aload_n hx hb dX6_clear_0 rfl (lv_at hl 0 rfl) ?_
  refine va_get (D := D) (ci := 4) (v := .ref (a 67)) (C := RX6) (T := TX6) (N := 12) hx hb hts (fun w h => List.mem_cons_of_mem _ (List.mem_append_left _ (List.mem_append_right _ h))) hown hK hP 0 rfl rfl 4 (by decide) (hts (.fieldLink RX6 30 "LeastNeed" "reader" "LLeastNeed$Reader;") (List.mem_of_getElem? (i := 1) rfl)) (fun _ h9 => h9) rfl dX6_clear_1 ?_
  refine va_get (D := D) (ci := 1) (v := .int (S 67 2)) (C := RX2) (T := TX2) (N := 6) hx hb hts (fun w h => List.mem_cons_of_mem _ (List.mem_append_right _ h)) hown hK hP 67 rfl rfl 2 (by decide) (hts (.fieldLink RX6 94 "LeastNeed$Reader" "length" "I") (List.mem_of_getElem? (i := 2) rfl)) (fun _ h9 => h9) rfl dX6_clear_4 ?_
  refine lv_istore_n (lv' := [(1, .int (S 67 2)), (0, .ref (a 0))]) hx hb dX6_clear_7 rfl hl (by decide) rfl (fun ls hl => ?_)
  refine lv_aload_n hx hb dX6_clear_8 rfl (lv_at hl 1 rfl) ?_
  refine va_get (D := D) (ci := 4) (v := .ref (a 67)) (C := RX6) (T := TX6) (N := 12) hx hb hts (fun w h => List.mem_cons_of_mem _ (List.mem_append_left _ (List.mem_append_right _ h))) hown hK hP 0 rfl rfl 4 (by decide) (hts (.fieldLink RX6 30 "LeastNeed" "reader" "LLeastNeed$Reader;") (List.mem_of_getElem? (i := 1) rfl)) (fun _ h9 => h9) rfl dX6_clear_9 ?_
  refine lv_iconst (v := (0 : Int32)) hx hb dX6_clear_12 (by decide) ?_
  refine va_put (D := D) (ci := 1) (v := .int (0 : Int32)) (ty := .int) (C := RX2) (T := TX2) (N := 6) hx hb hts (fun w h => List.mem_cons_of_mem _ (List.mem_append_right _ h)) tyX2 tyX2_ok nmX2 hown hK hP hD hS 67 rfl rfl 2 (by decide) (hts (.fieldLink RX6 94 "LeastNeed$Reader" "length" "I") (List.mem_of_getElem? (i := 2) rfl)) (fun _ h9 => h9) rfl (by decide +kernel) rfl rfl (Nat.le_of_ble_eq_true rfl) dX6_clear_13 (fun H locs hP hD hS => ?_)
  have hP : va_P D vwCl (wX6 cs a (k_w S 67 2 (0 : Int32)) L) _ := k_eq hP (wsX6_f67_2 cs a S L (0 : Int32))
  have hD := hDA (k_w S 67 2 (0 : Int32)) L
  refine lv_iload_n hx hb dX6_clear_16 rfl (lv_at hl 0 rfl) ?_
  obtain ⟨e1, e2⟩ := dn_s2 hd
  exact k_iret hx hb hr hQ hAe e1 (by rw [e2]) hP hS hlocks dX6_clear_17
-- LeastNeed.isThing(I)Z
set_option maxRecDepth 20000 in
def nX6_isThing (S : Nat → Nat → Int32) (L : Nat → Nat → Int64) (p1 : Int32) : Option (Int32) := k_b1 (nX6_upTo p1 (S 1 13)) (fun r8 => if ¬ (r8 = 0 ∨ r8 = 1) then none else some r8)
set_option maxHeartbeats 4000000 in
set_option maxRecDepth 100000 in
theorem mX6_isThing (l : Launch) (D : va_G) (cs : Nat → ClassId) (a : Nat → Nat) (S : Nat → Nat → Int32) (L : Nat → Nat → Int64) (p1 : Int32) (r9 : Int32) (hd : nX6_isThing S L p1 = some r9) : ∀ sz : Nat, Met l yX6_isThing wsX6_isThing ({ frames := 1, cells := 0, slots := 0, locals := 21 }) (k_Pc D cs [.ref (a 0), .int p1] (wX6 cs a S L) sz) (k_Qi D r9 (wX6 cs a S L) (wX6 cs a S L) sz) 0 0 (va_A (wX6 cs a S L) sz) := by
  intro sz
  refine Met.ofW (cc := cX6_isThing) (maxL := 2) (ret := (some .boolean)) (by decide) rfl ?_
  intro p e s m args below meth c s₁ B hml hv
  obtain ⟨rfl, hsz, hP, hK, hD0, hNn⟩ := hv
  have hx := B.exec
  have hb := B.bytes
  have hr := B.returns
  have hts := atoms_spec (ws := wsX6_isThing) B.pre
  have hown : s.vm.findClass RX6 = some m.cls := findClass_of_methodNamed B.named
  have hlocks := B.notSynchronized
  subst hsz
  obtain ⟨A, hAe⟩ : ∃ A : Nat → Prop, A = va_A (wX6 cs a S L) s.heap.size := ⟨_, rfl⟩
  have hD : va_D A (wX6 cs a S L) := by rw [hAe]; exact hD0.self
  have hA : ∀ q : Nat, s.heap.size ≤ q → A q := fun q h => by rw [hAe]; exact Or.inr h
  have hS : va_S A s.heap s.heap [] := va_S.rf
  have hDA : ∀ (S : Nat → Nat → Int32) (L : Nat → Nat → Int64), va_D A (wX6 cs a S L) := fun S L => k_DA hD rfl
  have hl := lv_entry ([.ref (a 0), .int p1]) (n := 2) (Nat.le_of_ble_eq_true rfl)
  rw [lg_entry_eq]
  generalize (lg_sl ([.ref (a 0), .int p1]) ++ List.replicate (2 - (lg_sl ([.ref (a 0), .int p1])).length) Slot.unset).toArray = ls at hl ⊢
  have hl : lv_has ls 2 [(0, .ref (a 0)), (1, .int p1)] := hl
  obtain ⟨Q, hQ⟩ : ∃ Q, Q = MQ below (k_Qi D r9 (wX6 cs a S L) (wX6 cs a S L) s.heap.size) ([.ref (a 0), .int p1] : List Value).toArray s 0 0 (va_A (wX6 cs a S L) s.heap.size) := ⟨_, rfl⟩
  rw [← hQ]
  unfold nX6_isThing at hd
  refine lv_iload_n hx hb dX6_isThing_0 rfl (lv_at hl 1 rfl) ?_
  refine lv_aload_n hx hb dX6_isThing_1 rfl (lv_at hl 0 rfl) ?_
  refine va_get (D := D) (ci := 4) (v := .ref (a 1)) (C := RX6) (T := TX6) (N := 12) hx hb hts (fun w h => List.mem_cons_of_mem _ (List.mem_append_left _ (List.mem_append_right _ h))) hown hK hP 0 rfl rfl 0 (by decide) (hts (.fieldLink RX6 12 "LeastNeed" "now" "LLeastNeed$Valley;") (List.mem_of_getElem? (i := 1) rfl)) (fun _ h9 => h9) rfl dX6_isThing_2 ?_
  refine va_get (D := D) (ci := 3) (v := .int (S 1 13)) (C := RX5) (T := TX5) (N := 15) hx hb hts (fun w h => List.mem_cons_of_mem _ (List.mem_append_right _ h)) hown hK hP 1 rfl rfl 13 (by decide) (hts (.fieldLink RX6 87 "LeastNeed$Valley" "things" "I") (List.mem_of_getElem? (i := 2) rfl)) (fun _ h9 => h9) rfl dX6_isThing_5 ?_
  obtain ⟨r8, hq8, hd⟩ := dn_b1 hd
  have hPc := k_P0 hP
  have hDc : va_D A ([] : va_W) := k_D0
  have hF := k_self hDc hS hA
  refine k_run_i (va_runS (As := [.int p1, .int (S 1 13)]) (rest := []) ⟨hx, hb, hml, hown, hts⟩ (mX6_upTo l D cs  p1 (S 1 13) r8 hq8 _) (va_cwS 2 hts gX6_isThing_X6_upTo rfl rfl rfl (by decide +kernel) ⟨Nat.le_of_ble_eq_true rfl, Nat.le_of_ble_eq_true rfl⟩) ⟨k_blind, k_pre hPc hK hNn hDc⟩ rfl rfl hl.1 rfl (lv_room (Nat.le_of_ble_eq_true rfl)) dX6_isThing_8 ⟨Nat.le_of_ble_eq_true rfl, Nat.le_of_ble_eq_true rfl⟩) hS hF (fun H locs hP1 hk hS => ?_)
  have hP : va_P D vwCl (wX6 cs a S L) _ := k_keep hP hk
  obtain ⟨hz, hd⟩ := dn_n hd
  have e1 := dn_s1 hd
  exact k_zret hx hb hr (dn_z hz) hQ hAe e1 rfl hP hS hlocks dX6_isThing_11
-- LeastNeed.refusedAsNo()I
set_option maxRecDepth 20000 in
def nX6_refusedAsNo (S : Nat → Nat → Int32) (L : Nat → Nat → Int64) : Option (Int32 × (Nat → Nat → Int32)) := some ((-3 : Int32), (k_w S 75 1 ((S 75 1) + (1 : Int32))))
set_option maxHeartbeats 4000000 in
set_option maxRecDepth 100000 in
theorem mX6_refusedAsNo (l : Launch) (D : va_G) (cs : Nat → ClassId) (a : Nat → Nat) (S : Nat → Nat → Int32) (L : Nat → Nat → Int64) (r9 : Int32) (S9 : (Nat → Nat → Int32)) (hd : nX6_refusedAsNo S L = some (r9, S9)) : ∀ sz : Nat, Met l yX6_refusedAsNo wsX6_refusedAsNo ({ frames := 0, cells := 0, slots := 0, locals := 0 }) (k_Pc D cs [.ref (a 0)] (wX6 cs a S L) sz) (k_Qi D r9 (wX6 cs a S L) (wX6 cs a S9 L) sz) 0 0 (va_A (wX6 cs a S L) sz) := by
  intro sz
  refine Met.ofW (cc := cX6_refusedAsNo) (maxL := 1) (ret := (some .int)) (by decide) rfl ?_
  intro p e s m args below meth c s₁ B hml hv
  obtain ⟨rfl, hsz, hP, hK, hD0, hNn⟩ := hv
  have hx := B.exec
  have hb := B.bytes
  have hr := B.returns
  have hts := atoms_spec (ws := wsX6_refusedAsNo) B.pre
  have hown : s.vm.findClass RX6 = some m.cls := findClass_of_methodNamed B.named
  have hlocks := B.notSynchronized
  subst hsz
  obtain ⟨A, hAe⟩ : ∃ A : Nat → Prop, A = va_A (wX6 cs a S L) s.heap.size := ⟨_, rfl⟩
  have hD : va_D A (wX6 cs a S L) := by rw [hAe]; exact hD0.self
  have hA : ∀ q : Nat, s.heap.size ≤ q → A q := fun q h => by rw [hAe]; exact Or.inr h
  have hS : va_S A s.heap s.heap [] := va_S.rf
  have hDA : ∀ (S : Nat → Nat → Int32) (L : Nat → Nat → Int64), va_D A (wX6 cs a S L) := fun S L => k_DA hD rfl
  have hl := lv_entry ([.ref (a 0)]) (n := 1) (Nat.le_of_ble_eq_true rfl)
  rw [lg_entry_eq]
  generalize (lg_sl ([.ref (a 0)]) ++ List.replicate (1 - (lg_sl ([.ref (a 0)])).length) Slot.unset).toArray = ls at hl ⊢
  have hl : lv_has ls 1 [(0, .ref (a 0))] := hl
  obtain ⟨Q, hQ⟩ : ∃ Q, Q = MQ below (k_Qi D r9 (wX6 cs a S L) (wX6 cs a S9 L) s.heap.size) ([.ref (a 0)] : List Value).toArray s 0 0 (va_A (wX6 cs a S L) s.heap.size) := ⟨_, rfl⟩
  rw [← hQ]
  unfold nX6_refusedAsNo at hd
  refine lv_aload_n hx hb dX6_refusedAsNo_0 rfl (lv_at hl 0 rfl) ?_
  refine va_get (D := D) (ci := 4) (v := .ref (a 75)) (C := RX6) (T := TX6) (N := 12) hx hb hts (fun w h => List.mem_cons_of_mem _ (List.mem_append_right _ h)) hown hK hP 0 rfl rfl 6 (by decide) (hts (.fieldLink RX6 41 "LeastNeed" "refused" "[I") (List.mem_of_getElem? (i := 1) rfl)) (fun _ h9 => h9) rfl dX6_refusedAsNo_1 ?_
  refine lv_iconst (v := (1 : Int32)) hx hb dX6_refusedAsNo_4 (by decide) ?_
  refine lv_dup2_11 hx hb dX6_refusedAsNo_5 rfl rfl ?_
  refine k_iald (D := D) (k := 1) (by rfl) hx hb hK hP 75 1 rfl rfl (k_in (by decide)) dX6_refusedAsNo_6 ?_
  refine lv_iconst (v := (1 : Int32)) hx hb dX6_refusedAsNo_7 (by decide) ?_
  refine lv_iadd hx hb dX6_refusedAsNo_8 ?_
  refine k_iast (D := D) (k := 1) (by rfl) hx hb hK hP hD hS 75 1 rfl rfl (k_in (by decide)) dX6_refusedAsNo_9 (fun H locs hP hD hS => ?_)
  have hP : va_P D vwCl (wX6 cs a (k_w S 75 1 ((S 75 1) + (1 : Int32))) L) _ := k_eq hP (wsX6_a75 cs a S L 1 ((S 75 1) + (1 : Int32)))
  have hD := hDA (k_w S 75 1 ((S 75 1) + (1 : Int32))) L
  refine lv_bipush (v := (-3 : Int32)) hx hb dX6_refusedAsNo_10 (by decide) ?_
  obtain ⟨e1, e2⟩ := dn_s2 hd
  exact k_iret hx hb hr hQ hAe e1 (by rw [e2]) hP hS hlocks dX6_refusedAsNo_12
-- LeastNeed.lose(I)I
set_option maxRecDepth 20000 in
def nX6_lose (S : Nat → Nat → Int32) (L : Nat → Nat → Int64) (p1 : Int32) : Option (Int32 × (Nat → Nat → Int32)) := k_b1 (nX6_isThing S L p1) (fun r2 => if r2 = 0 then k_b2 (nX6_refusedAsBad S L) (fun r9 S9 => some (r9, S9)) else if p1 < 0 ∨ 5 ≤ p1.toNatClampNeg then none else if (S 10 p1.toNatClampNeg) = 0 then k_b1 (nX5_keepPast (k_wi S 1)) (fun S34 => if p1 < 0 ∨ 5 ≤ p1.toNatClampNeg then none else if p1 < 0 ∨ 5 ≤ p1.toNatClampNeg then none else some (((k_w (k_sp S 1 16 S34) 10 p1.toNatClampNeg (1 : Int32)) 9 p1.toNatClampNeg), (k_w (k_sp S 1 16 S34) 10 p1.toNatClampNeg (1 : Int32)))) else k_b2 (nX6_refusedAsNo S L) (fun r26 S26 => some (r26, S26)))
set_option maxHeartbeats 4000000 in
set_option maxRecDepth 100000 in
theorem mX6_lose (l : Launch) (D : va_G) (cs : Nat → ClassId) (a : Nat → Nat) (S : Nat → Nat → Int32) (L : Nat → Nat → Int64) (p1 : Int32) (r9 : Int32) (S9 : (Nat → Nat → Int32)) (hd : nX6_lose S L p1 = some (r9, S9)) : ∀ sz : Nat, Met l yX6_lose wsX6_lose ({ frames := 3, cells := 0, slots := 0, locals := 81 }) (k_Pc D cs [.ref (a 0), .int p1] (wX6 cs a S L) sz) (k_Qi D r9 (wX6 cs a S L) (wX6 cs a S9 L) sz) 0 0 (va_A (wX6 cs a S L) sz) := by
  intro sz
  refine Met.ofW (cc := cX6_lose) (maxL := 2) (ret := (some .int)) (by decide) rfl ?_
  intro p e s m args below meth c s₁ B hml hv
  obtain ⟨rfl, hsz, hP, hK, hD0, hNn⟩ := hv
  have hx := B.exec
  have hb := B.bytes
  have hr := B.returns
  have hts := atoms_spec (ws := wsX6_lose) B.pre
  have hown : s.vm.findClass RX6 = some m.cls := findClass_of_methodNamed B.named
  have hlocks := B.notSynchronized
  subst hsz
  obtain ⟨A, hAe⟩ : ∃ A : Nat → Prop, A = va_A (wX6 cs a S L) s.heap.size := ⟨_, rfl⟩
  have hD : va_D A (wX6 cs a S L) := by rw [hAe]; exact hD0.self
  have hA : ∀ q : Nat, s.heap.size ≤ q → A q := fun q h => by rw [hAe]; exact Or.inr h
  have hS : va_S A s.heap s.heap [] := va_S.rf
  have hDA : ∀ (S : Nat → Nat → Int32) (L : Nat → Nat → Int64), va_D A (wX6 cs a S L) := fun S L => k_DA hD rfl
  have hl := lv_entry ([.ref (a 0), .int p1]) (n := 2) (Nat.le_of_ble_eq_true rfl)
  rw [lg_entry_eq]
  generalize (lg_sl ([.ref (a 0), .int p1]) ++ List.replicate (2 - (lg_sl ([.ref (a 0), .int p1])).length) Slot.unset).toArray = ls at hl ⊢
  have hl : lv_has ls 2 [(0, .ref (a 0)), (1, .int p1)] := hl
  obtain ⟨Q, hQ⟩ : ∃ Q, Q = MQ below (k_Qi D r9 (wX6 cs a S L) (wX6 cs a S9 L) s.heap.size) ([.ref (a 0), .int p1] : List Value).toArray s 0 0 (va_A (wX6 cs a S L) s.heap.size) := ⟨_, rfl⟩
  rw [← hQ]
  unfold nX6_lose at hd
  refine lv_aload_n hx hb dX6_lose_0 rfl (lv_at hl 0 rfl) ?_
  refine lv_iload_n hx hb dX6_lose_1 rfl (lv_at hl 1 rfl) ?_
  obtain ⟨r2, hq2, hd⟩ := dn_b1 hd
  have hF := k_self hD hS hA
  refine k_run_i (va_runV (As := [.int p1]) (rest := []) ⟨hx, hb, hml, hown, hts⟩ (mX6_isThing l D cs a S L p1 r2 hq2 _) (cwV 1 hts gX6_lose_X6_isThing rfl rfl rfl (by decide +kernel) ⟨Nat.le_of_ble_eq_true rfl, Nat.le_of_ble_eq_true rfl⟩) ⟨k_blind, va_recv hK hP (ci := 4) (q0 := 0) rfl rfl, k_pre hP hK hNn hD⟩ rfl rfl hl.1 rfl (lv_room (Nat.le_of_ble_eq_true rfl)) dX6_lose_2 ⟨Nat.le_of_ble_eq_true rfl, Nat.le_of_ble_eq_true rfl⟩) hS hF (fun H locs hP1 hk hS => ?_)
  have hP : va_P D vwCl (wX6 cs a S L) _ := hP1
  have hD := hDA S L
  refine lv_if_ne (tgt := 13) hx hb dX6_lose_5 (by decide) (fun c5 => ?_) (fun c5 => ?_)
  · have hd := dn_f c5 hd
    refine lv_aload_n hx hb dX6_lose_13 rfl (lv_at hl 0 rfl) ?_
    refine va_get (D := D) (ci := 4) (v := .ref (a 1)) (C := RX6) (T := TX6) (N := 12) hx hb hts (fun w h => List.mem_cons_of_mem _ (List.mem_append_left _ (List.mem_append_left _ (List.mem_append_right _ h)))) hown hK hP 0 rfl rfl 0 (by decide) (hts (.fieldLink RX6 12 "LeastNeed" "now" "LLeastNeed$Valley;") (List.mem_of_getElem? (i := 1) rfl)) (fun _ h9 => h9) rfl dX6_lose_14 ?_
    refine va_get (D := D) (ci := 3) (v := .ref (a 10)) (C := RX5) (T := TX5) (N := 15) hx hb hts (fun w h => List.mem_cons_of_mem _ (List.mem_append_left _ (List.mem_append_right _ h))) hown hK hP 1 rfl rfl 8 (by decide) (hts (.fieldLink RX6 112 "LeastNeed$Valley" "place" "[I") (List.mem_of_getElem? (i := 2) rfl)) (fun _ h9 => h9) rfl dX6_lose_17 ?_
    refine lv_iload_n hx hb dX6_lose_20 rfl (lv_at hl 1 rfl) ?_
    obtain ⟨hi21, hd⟩ := dn_i hd
    refine k_iald (D := D) (k := p1.toNatClampNeg) (by rfl) hx hb hK hP 10 1 rfl rfl hi21 dX6_lose_21 ?_
    refine lv_if_eq (tgt := 30) hx hb dX6_lose_22 (by decide) (fun c22 => ?_) (fun c22 => ?_)
    · have hd := dn_t c22 hd
      refine lv_aload_n hx hb dX6_lose_30 rfl (lv_at hl 0 rfl) ?_
      refine va_get (D := D) (ci := 4) (v := .ref (a 1)) (C := RX6) (T := TX6) (N := 12) hx hb hts (fun w h => List.mem_cons_of_mem _ (List.mem_append_left _ (List.mem_append_left _ (List.mem_append_right _ h)))) hown hK hP 0 rfl rfl 0 (by decide) (hts (.fieldLink RX6 12 "LeastNeed" "now" "LLeastNeed$Valley;") (List.mem_of_getElem? (i := 1) rfl)) (fun _ h9 => h9) rfl dX6_lose_31 ?_
      obtain ⟨S34, hq34, hd⟩ := dn_b1 hd
      have hPc : va_P D vwCl (wX5 cs (k_wi a 1) (k_wi S 1)) _ := k_sub hP [1, 2, 3, 4, 5, 6, 7, 8, 9, 10, 11, 12, 13, 14, 15, 16] (wcX6_X5_1 cs a S L)
      have hDc : va_D A (wX5 cs (k_wi a 1) (k_wi S 1)) := hD.sub [1, 2, 3, 4, 5, 6, 7, 8, 9, 10, 11, 12, 13, 14, 15, 16] (by decide) (wcX6_X5_1 cs a S L)
      have hF := k_self hDc hS hA
      refine k_run_v (va_runV (As := []) (rest := []) ⟨hx, hb, hml, hown, hts⟩ (mX5_keepPast l D cs (k_wi a 1) (k_wi S 1) S34 hq34 _) (cwV 0 hts gX6_lose_X5_keepPast rfl rfl rfl (by decide +kernel) ⟨Nat.le_of_ble_eq_true rfl, Nat.le_of_ble_eq_true rfl⟩) ⟨k_blind, va_recv hK hP (ci := 3) (q0 := 1) rfl rfl, k_pre hPc hK hNn hDc⟩ rfl rfl hl.1 rfl (lv_room (Nat.le_of_ble_eq_true rfl)) dX6_lose_34 ⟨Nat.le_of_ble_eq_true rfl, Nat.le_of_ble_eq_true rfl⟩) hS hF (fun H locs hP1 hk hS => ?_)
      have hP : va_P D vwCl (wX6 cs a (k_sp S 1 16 S34) L) _ := k_back hP hD [1, 2, 3, 4, 5, 6, 7, 8, 9, 10, 11, 12, 13, 14, 15, 16] [0, 17, 18, 19, 20, 21, 22, 23, 24, 25, 26, 27, 28, 29, 30, 31, 32, 33, 34, 35, 36, 37, 38, 39, 40, 41, 42, 43, 44, 45, 46, 47, 48, 49, 50, 51, 52, 53, 54, 55, 56, 57, 58, 59, 60, 61, 62, 63, 64, 65, 66, 67, 68, 69, 70, 71, 72, 73, 74, 75, 76, 77, 78] [0, 63, 64, 65, 66, 67, 68, 69, 70, 71, 72, 73, 74, 75, 76, 77, 78, 1, 2, 3, 4, 5, 6, 7, 8, 9, 10, 11, 12, 13, 14, 15, 16, 17, 18, 19, 20, 21, 22, 23, 24, 25, 26, 27, 28, 29, 30, 31, 32, 33, 34, 35, 36, 37, 38, 39, 40, 41, 42, 43, 44, 45, 46, 47, 48, 49, 50, 51, 52, 53, 54, 55, 56, 57, 58, 59, 60, 61, 62] (wcX6_X5_1 cs a S L) (by decide) hk hP1 (wbX6_X5_1_S0 cs a S L S34)
      have hD := hDA (k_sp S 1 16 S34) L
      refine lv_aload_n hx hb dX6_lose_37 rfl (lv_at hl 0 rfl) ?_
      refine va_get (D := D) (ci := 4) (v := .ref (a 1)) (C := RX6) (T := TX6) (N := 12) hx hb hts (fun w h => List.mem_cons_of_mem _ (List.mem_append_left _ (List.mem_append_left _ (List.mem_append_right _ h)))) hown hK hP 0 rfl rfl 0 (by decide) (hts (.fieldLink RX6 12 "LeastNeed" "now" "LLeastNeed$Valley;") (List.mem_of_getElem? (i := 1) rfl)) (fun _ h9 => h9) rfl dX6_lose_38 ?_
      refine va_get (D := D) (ci := 3) (v := .ref (a 10)) (C := RX5) (T := TX5) (N := 15) hx hb hts (fun w h => List.mem_cons_of_mem _ (List.mem_append_left _ (List.mem_append_right _ h))) hown hK hP 1 rfl rfl 8 (by decide) (hts (.fieldLink RX6 112 "LeastNeed$Valley" "place" "[I") (List.mem_of_getElem? (i := 2) rfl)) (fun _ h9 => h9) rfl dX6_lose_41 ?_
      refine lv_iload_n hx hb dX6_lose_44 rfl (lv_at hl 1 rfl) ?_
      refine lv_iconst (v := (1 : Int32)) hx hb dX6_lose_45 (by decide) ?_
      obtain ⟨hi46, hd⟩ := dn_i hd
      refine k_iast (D := D) (k := p1.toNatClampNeg) (by rfl) hx hb hK hP hD hS 10 1 rfl rfl hi46 dX6_lose_46 (fun H locs hP hD hS => ?_)
      have hP : va_P D vwCl (wX6 cs a (k_w (k_sp S 1 16 S34) 10 p1.toNatClampNeg (1 : Int32)) L) _ := k_eq hP (wsX6_a10 cs a (k_sp S 1 16 S34) L p1.toNatClampNeg (1 : Int32))
      have hD := hDA (k_w (k_sp S 1 16 S34) 10 p1.toNatClampNeg (1 : Int32)) L
      refine lv_aload_n hx hb dX6_lose_47 rfl (lv_at hl 0 rfl) ?_
      refine va_get (D := D) (ci := 4) (v := .ref (a 1)) (C := RX6) (T := TX6) (N := 12) hx hb hts (fun w h => List.mem_cons_of_mem _ (List.mem_append_left _ (List.mem_append_left _ (List.mem_append_right _ h)))) hown hK hP 0 rfl rfl 0 (by decide) (hts (.fieldLink RX6 12 "LeastNeed" "now" "LLeastNeed$Valley;") (List.mem_of_getElem? (i := 1) rfl)) (fun _ h9 => h9) rfl dX6_lose_48 ?_
      refine va_get (D := D) (ci := 3) (v := .ref (a 9)) (C := RX5) (T := TX5) (N := 15) hx hb hts (fun w h => List.mem_cons_of_mem _ (List.mem_append_left _ (List.mem_append_right _ h))) hown hK hP 1 rfl rfl 7 (by decide) (hts (.fieldLink RX6 121 "LeastNeed$Valley" "holder" "[I") (List.mem_of_getElem? (i := 3) rfl)) (fun _ h9 => h9) rfl dX6_lose_51 ?_
      refine lv_iload_n hx hb dX6_lose_54 rfl (lv_at hl 1 rfl) ?_
      obtain ⟨hi55, hd⟩ := dn_i hd
      refine k_iald (D := D) (k := p1.toNatClampNeg) (by rfl) hx hb hK hP 9 1 rfl rfl hi55 dX6_lose_55 ?_
      obtain ⟨e1, e2⟩ := dn_s2 hd
      exact k_iret hx hb hr hQ hAe e1 (by rw [e2]) hP hS hlocks dX6_lose_56
    · have hd := dn_f c22 hd
      refine lv_aload_n hx hb dX6_lose_25 rfl (lv_at hl 0 rfl) ?_
      obtain ⟨r26, S26, hq26, hd⟩ := dn_b2 hd
      have hF := k_self hD hS hA
      refine k_run_i (va_runV (As := []) (rest := []) ⟨hx, hb, hml, hown, hts⟩ (mX6_refusedAsNo l D cs a S L r26 S26 hq26 _) (cwV 0 hts gX6_lose_X6_refusedAsNo rfl rfl rfl (by decide +kernel) ⟨Nat.le_of_ble_eq_true rfl, Nat.le_of_ble_eq_true rfl⟩) ⟨k_blind, va_recv hK hP (ci := 4) (q0 := 0) rfl rfl, k_pre hP hK hNn hD⟩ rfl rfl hl.1 rfl (lv_room (Nat.le_of_ble_eq_true rfl)) dX6_lose_26 ⟨Nat.le_of_ble_eq_true rfl, Nat.le_of_ble_eq_true rfl⟩) hS hF (fun H locs hP1 hk hS => ?_)
      have hP : va_P D vwCl (wX6 cs a S26 L) _ := hP1
      have hD := hDA S26 L
      obtain ⟨e1, e2⟩ := dn_s2 hd
      exact k_iret hx hb hr hQ hAe e1 (by rw [e2]) hP hS hlocks dX6_lose_29
  · have hd := dn_t c5 hd
    refine lv_aload_n hx hb dX6_lose_8 rfl (lv_at hl 0 rfl) ?_
    obtain ⟨r9, S9, hq9, hd⟩ := dn_b2 hd
    have hF := k_self hD hS hA
    refine k_run_i (va_runV (As := []) (rest := []) ⟨hx, hb, hml, hown, hts⟩ (mX6_refusedAsBad l D cs a S L r9 S9 hq9 _) (cwV 0 hts gX6_lose_X6_refusedAsBad rfl rfl rfl (by decide +kernel) ⟨Nat.le_of_ble_eq_true rfl, Nat.le_of_ble_eq_true rfl⟩) ⟨k_blind, va_recv hK hP (ci := 4) (q0 := 0) rfl rfl, k_pre hP hK hNn hD⟩ rfl rfl hl.1 rfl (lv_room (Nat.le_of_ble_eq_true rfl)) dX6_lose_9 ⟨Nat.le_of_ble_eq_true rfl, Nat.le_of_ble_eq_true rfl⟩) hS hF (fun H locs hP1 hk hS => ?_)
    have hP : va_P D vwCl (wX6 cs a S9 L) _ := hP1
    have hD := hDA S9 L
    obtain ⟨e1, e2⟩ := dn_s2 hd
    exact k_iret hx hb hr hQ hAe e1 (by rw [e2]) hP hS hlocks dX6_lose_12
-- LeastNeed.back(I)I
set_option maxRecDepth 20000 in
def nX6_back (S : Nat → Nat → Int32) (L : Nat → Nat → Int64) (p1 : Int32) : Option (Int32 × (Nat → Nat → Int32)) := k_b1 (nX6_isThing S L p1) (fun r2 => if r2 = 0 then k_b2 (nX6_refusedAsBad S L) (fun r9 S9 => some (r9, S9)) else k_b1 (nX5_isAway (k_wi S 1) p1) (fun r18 => if r18 = 0 then k_b2 (nX6_refusedAsNo S L) (fun r25 S25 => some (r25, S25)) else k_b1 (nX5_askedFor (k_wi S 1) p1) (fun r34 => k_b1 (nX5_keepPast (k_wi S 1)) (fun S42 => if p1 < 0 ∨ 5 ≤ p1.toNatClampNeg then none else if p1 < 0 ∨ 5 ≤ p1.toNatClampNeg then none else some (r34, (k_w (k_sp S 1 16 S42) 9 p1.toNatClampNeg ((k_sp S 1 16 S42) 8 p1.toNatClampNeg)))))))
set_option maxHeartbeats 4000000 in
set_option maxRecDepth 100000 in
theorem mX6_back (l : Launch) (D : va_G) (cs : Nat → ClassId) (a : Nat → Nat) (S : Nat → Nat → Int32) (L : Nat → Nat → Int64) (p1 : Int32) (r9 : Int32) (S9 : (Nat → Nat → Int32)) (hd : nX6_back S L p1 = some (r9, S9)) : ∀ sz : Nat, Met l yX6_back wsX6_back ({ frames := 3, cells := 0, slots := 0, locals := 81 }) (k_Pc D cs [.ref (a 0), .int p1] (wX6 cs a S L) sz) (k_Qi D r9 (wX6 cs a S L) (wX6 cs a S9 L) sz) 0 0 (va_A (wX6 cs a S L) sz) := by
  intro sz
  refine Met.ofW (cc := cX6_back) (maxL := 3) (ret := (some .int)) (by decide) rfl ?_
  intro p e s m args below meth c s₁ B hml hv
  obtain ⟨rfl, hsz, hP, hK, hD0, hNn⟩ := hv
  have hx := B.exec
  have hb := B.bytes
  have hr := B.returns
  have hts := atoms_spec (ws := wsX6_back) B.pre
  have hown : s.vm.findClass RX6 = some m.cls := findClass_of_methodNamed B.named
  have hlocks := B.notSynchronized
  subst hsz
  obtain ⟨A, hAe⟩ : ∃ A : Nat → Prop, A = va_A (wX6 cs a S L) s.heap.size := ⟨_, rfl⟩
  have hD : va_D A (wX6 cs a S L) := by rw [hAe]; exact hD0.self
  have hA : ∀ q : Nat, s.heap.size ≤ q → A q := fun q h => by rw [hAe]; exact Or.inr h
  have hS : va_S A s.heap s.heap [] := va_S.rf
  have hDA : ∀ (S : Nat → Nat → Int32) (L : Nat → Nat → Int64), va_D A (wX6 cs a S L) := fun S L => k_DA hD rfl
  have hl := lv_entry ([.ref (a 0), .int p1]) (n := 3) (Nat.le_of_ble_eq_true rfl)
  rw [lg_entry_eq]
  generalize (lg_sl ([.ref (a 0), .int p1]) ++ List.replicate (3 - (lg_sl ([.ref (a 0), .int p1])).length) Slot.unset).toArray = ls at hl ⊢
  have hl : lv_has ls 3 [(0, .ref (a 0)), (1, .int p1)] := hl
  obtain ⟨Q, hQ⟩ : ∃ Q, Q = MQ below (k_Qi D r9 (wX6 cs a S L) (wX6 cs a S9 L) s.heap.size) ([.ref (a 0), .int p1] : List Value).toArray s 0 0 (va_A (wX6 cs a S L) s.heap.size) := ⟨_, rfl⟩
  rw [← hQ]
  unfold nX6_back at hd
  refine lv_aload_n hx hb dX6_back_0 rfl (lv_at hl 0 rfl) ?_
  refine lv_iload_n hx hb dX6_back_1 rfl (lv_at hl 1 rfl) ?_
  obtain ⟨r2, hq2, hd⟩ := dn_b1 hd
  have hF := k_self hD hS hA
  refine k_run_i (va_runV (As := [.int p1]) (rest := []) ⟨hx, hb, hml, hown, hts⟩ (mX6_isThing l D cs a S L p1 r2 hq2 _) (cwV 1 hts gX6_back_X6_isThing rfl rfl rfl (by decide +kernel) ⟨Nat.le_of_ble_eq_true rfl, Nat.le_of_ble_eq_true rfl⟩) ⟨k_blind, va_recv hK hP (ci := 4) (q0 := 0) rfl rfl, k_pre hP hK hNn hD⟩ rfl rfl hl.1 rfl (lv_room (Nat.le_of_ble_eq_true rfl)) dX6_back_2 ⟨Nat.le_of_ble_eq_true rfl, Nat.le_of_ble_eq_true rfl⟩) hS hF (fun H locs hP1 hk hS => ?_)
  have hP : va_P D vwCl (wX6 cs a S L) _ := hP1
  have hD := hDA S L
  refine lv_if_ne (tgt := 13) hx hb dX6_back_5 (by decide) (fun c5 => ?_) (fun c5 => ?_)
  · have hd := dn_f c5 hd
    refine lv_aload_n hx hb dX6_back_13 rfl (lv_at hl 0 rfl) ?_
    refine va_get (D := D) (ci := 4) (v := .ref (a 1)) (C := RX6) (T := TX6) (N := 12) hx hb hts (fun w h => List.mem_cons_of_mem _ (List.mem_append_left _ (List.mem_append_left _ (List.mem_append_right _ h)))) hown hK hP 0 rfl rfl 0 (by decide) (hts (.fieldLink RX6 12 "LeastNeed" "now" "LLeastNeed$Valley;") (List.mem_of_getElem? (i := 1) rfl)) (fun _ h9 => h9) rfl dX6_back_14 ?_
    refine lv_iload_n hx hb dX6_back_17 rfl (lv_at hl 1 rfl) ?_
    obtain ⟨r18, hq18, hd⟩ := dn_b1 hd
    have hPc : va_P D vwCl (wX5 cs (k_wi a 1) (k_wi S 1)) _ := k_sub hP [1, 2, 3, 4, 5, 6, 7, 8, 9, 10, 11, 12, 13, 14, 15, 16] (wcX6_X5_1 cs a S L)
    have hDc : va_D A (wX5 cs (k_wi a 1) (k_wi S 1)) := hD.sub [1, 2, 3, 4, 5, 6, 7, 8, 9, 10, 11, 12, 13, 14, 15, 16] (by decide) (wcX6_X5_1 cs a S L)
    have hF := k_self hDc hS hA
    refine k_run_i (va_runV (As := [.int p1]) (rest := []) ⟨hx, hb, hml, hown, hts⟩ (mX5_isAway l D cs (k_wi a 1) (k_wi S 1) p1 r18 hq18 _) (cwV 1 hts gX6_back_X5_isAway rfl rfl rfl (by decide +kernel) ⟨Nat.le_of_ble_eq_true rfl, Nat.le_of_ble_eq_true rfl⟩) ⟨k_blind, va_recv hK hP (ci := 3) (q0 := 1) rfl rfl, k_pre hPc hK hNn hDc⟩ rfl rfl hl.1 rfl (lv_room (Nat.le_of_ble_eq_true rfl)) dX6_back_18 ⟨Nat.le_of_ble_eq_true rfl, Nat.le_of_ble_eq_true rfl⟩) hS hF (fun H locs hP1 hk hS => ?_)
    have hP : va_P D vwCl (wX6 cs a S L) _ := k_back hP hD [1, 2, 3, 4, 5, 6, 7, 8, 9, 10, 11, 12, 13, 14, 15, 16] [0, 17, 18, 19, 20, 21, 22, 23, 24, 25, 26, 27, 28, 29, 30, 31, 32, 33, 34, 35, 36, 37, 38, 39, 40, 41, 42, 43, 44, 45, 46, 47, 48, 49, 50, 51, 52, 53, 54, 55, 56, 57, 58, 59, 60, 61, 62, 63, 64, 65, 66, 67, 68, 69, 70, 71, 72, 73, 74, 75, 76, 77, 78] [0, 63, 64, 65, 66, 67, 68, 69, 70, 71, 72, 73, 74, 75, 76, 77, 78, 1, 2, 3, 4, 5, 6, 7, 8, 9, 10, 11, 12, 13, 14, 15, 16, 17, 18, 19, 20, 21, 22, 23, 24, 25, 26, 27, 28, 29, 30, 31, 32, 33, 34, 35, 36, 37, 38, 39, 40, 41, 42, 43, 44, 45, 46, 47, 48, 49, 50, 51, 52, 53, 54, 55, 56, 57, 58, 59, 60, 61, 62] (wcX6_X5_1 cs a S L) (by decide) hk hP1 (wbX6_X5_1 cs a S L)
    have hD := hDA S L
    refine lv_if_ne (tgt := 29) hx hb dX6_back_21 (by decide) (fun c21 => ?_) (fun c21 => ?_)
    · have hd := dn_f c21 hd
      refine lv_aload_n hx hb dX6_back_29 rfl (lv_at hl 0 rfl) ?_
      refine va_get (D := D) (ci := 4) (v := .ref (a 1)) (C := RX6) (T := TX6) (N := 12) hx hb hts (fun w h => List.mem_cons_of_mem _ (List.mem_append_left _ (List.mem_append_left _ (List.mem_append_right _ h)))) hown hK hP 0 rfl rfl 0 (by decide) (hts (.fieldLink RX6 12 "LeastNeed" "now" "LLeastNeed$Valley;") (List.mem_of_getElem? (i := 1) rfl)) (fun _ h9 => h9) rfl dX6_back_30 ?_
      refine lv_iload_n hx hb dX6_back_33 rfl (lv_at hl 1 rfl) ?_
      obtain ⟨r34, hq34, hd⟩ := dn_b1 hd
      have hPc : va_P D vwCl (wX5 cs (k_wi a 1) (k_wi S 1)) _ := k_sub hP [1, 2, 3, 4, 5, 6, 7, 8, 9, 10, 11, 12, 13, 14, 15, 16] (wcX6_X5_1 cs a S L)
      have hDc : va_D A (wX5 cs (k_wi a 1) (k_wi S 1)) := hD.sub [1, 2, 3, 4, 5, 6, 7, 8, 9, 10, 11, 12, 13, 14, 15, 16] (by decide) (wcX6_X5_1 cs a S L)
      have hF := k_self hDc hS hA
      refine k_run_i (va_runV (As := [.int p1]) (rest := []) ⟨hx, hb, hml, hown, hts⟩ (mX5_askedFor l D cs (k_wi a 1) (k_wi S 1) p1 r34 hq34 _) (cwV 1 hts gX6_back_X5_askedFor rfl rfl rfl (by decide +kernel) ⟨Nat.le_of_ble_eq_true rfl, Nat.le_of_ble_eq_true rfl⟩) ⟨k_blind, va_recv hK hP (ci := 3) (q0 := 1) rfl rfl, k_pre hPc hK hNn hDc⟩ rfl rfl hl.1 rfl (lv_room (Nat.le_of_ble_eq_true rfl)) dX6_back_34 ⟨Nat.le_of_ble_eq_true rfl, Nat.le_of_ble_eq_true rfl⟩) hS hF (fun H locs hP1 hk hS => ?_)
      have hP : va_P D vwCl (wX6 cs a S L) _ := k_back hP hD [1, 2, 3, 4, 5, 6, 7, 8, 9, 10, 11, 12, 13, 14, 15, 16] [0, 17, 18, 19, 20, 21, 22, 23, 24, 25, 26, 27, 28, 29, 30, 31, 32, 33, 34, 35, 36, 37, 38, 39, 40, 41, 42, 43, 44, 45, 46, 47, 48, 49, 50, 51, 52, 53, 54, 55, 56, 57, 58, 59, 60, 61, 62, 63, 64, 65, 66, 67, 68, 69, 70, 71, 72, 73, 74, 75, 76, 77, 78] [0, 63, 64, 65, 66, 67, 68, 69, 70, 71, 72, 73, 74, 75, 76, 77, 78, 1, 2, 3, 4, 5, 6, 7, 8, 9, 10, 11, 12, 13, 14, 15, 16, 17, 18, 19, 20, 21, 22, 23, 24, 25, 26, 27, 28, 29, 30, 31, 32, 33, 34, 35, 36, 37, 38, 39, 40, 41, 42, 43, 44, 45, 46, 47, 48, 49, 50, 51, 52, 53, 54, 55, 56, 57, 58, 59, 60, 61, 62] (wcX6_X5_1 cs a S L) (by decide) hk hP1 (wbX6_X5_1 cs a S L)
      have hD := hDA S L
      refine lv_istore_n (lv' := [(2, .int r34), (0, .ref (a 0)), (1, .int p1)]) hx hb dX6_back_37 rfl hl (by decide) rfl (fun ls hl => ?_)
      refine lv_aload_n hx hb dX6_back_38 rfl (lv_at hl 1 rfl) ?_
      refine va_get (D := D) (ci := 4) (v := .ref (a 1)) (C := RX6) (T := TX6) (N := 12) hx hb hts (fun w h => List.mem_cons_of_mem _ (List.mem_append_left _ (List.mem_append_left _ (List.mem_append_right _ h)))) hown hK hP 0 rfl rfl 0 (by decide) (hts (.fieldLink RX6 12 "LeastNeed" "now" "LLeastNeed$Valley;") (List.mem_of_getElem? (i := 1) rfl)) (fun _ h9 => h9) rfl dX6_back_39 ?_
      obtain ⟨S42, hq42, hd⟩ := dn_b1 hd
      have hPc : va_P D vwCl (wX5 cs (k_wi a 1) (k_wi S 1)) _ := k_sub hP [1, 2, 3, 4, 5, 6, 7, 8, 9, 10, 11, 12, 13, 14, 15, 16] (wcX6_X5_1 cs a S L)
      have hDc : va_D A (wX5 cs (k_wi a 1) (k_wi S 1)) := hD.sub [1, 2, 3, 4, 5, 6, 7, 8, 9, 10, 11, 12, 13, 14, 15, 16] (by decide) (wcX6_X5_1 cs a S L)
      have hF := k_self hDc hS hA
      refine k_run_v (va_runV (As := []) (rest := []) ⟨hx, hb, hml, hown, hts⟩ (mX5_keepPast l D cs (k_wi a 1) (k_wi S 1) S42 hq42 _) (cwV 0 hts gX6_back_X5_keepPast rfl rfl rfl (by decide +kernel) ⟨Nat.le_of_ble_eq_true rfl, Nat.le_of_ble_eq_true rfl⟩) ⟨k_blind, va_recv hK hP (ci := 3) (q0 := 1) rfl rfl, k_pre hPc hK hNn hDc⟩ rfl rfl hl.1 rfl (lv_room (Nat.le_of_ble_eq_true rfl)) dX6_back_42 ⟨Nat.le_of_ble_eq_true rfl, Nat.le_of_ble_eq_true rfl⟩) hS hF (fun H locs hP1 hk hS => ?_)
      have hP : va_P D vwCl (wX6 cs a (k_sp S 1 16 S42) L) _ := k_back hP hD [1, 2, 3, 4, 5, 6, 7, 8, 9, 10, 11, 12, 13, 14, 15, 16] [0, 17, 18, 19, 20, 21, 22, 23, 24, 25, 26, 27, 28, 29, 30, 31, 32, 33, 34, 35, 36, 37, 38, 39, 40, 41, 42, 43, 44, 45, 46, 47, 48, 49, 50, 51, 52, 53, 54, 55, 56, 57, 58, 59, 60, 61, 62, 63, 64, 65, 66, 67, 68, 69, 70, 71, 72, 73, 74, 75, 76, 77, 78] [0, 63, 64, 65, 66, 67, 68, 69, 70, 71, 72, 73, 74, 75, 76, 77, 78, 1, 2, 3, 4, 5, 6, 7, 8, 9, 10, 11, 12, 13, 14, 15, 16, 17, 18, 19, 20, 21, 22, 23, 24, 25, 26, 27, 28, 29, 30, 31, 32, 33, 34, 35, 36, 37, 38, 39, 40, 41, 42, 43, 44, 45, 46, 47, 48, 49, 50, 51, 52, 53, 54, 55, 56, 57, 58, 59, 60, 61, 62] (wcX6_X5_1 cs a S L) (by decide) hk hP1 (wbX6_X5_1_S0 cs a S L S42)
      have hD := hDA (k_sp S 1 16 S42) L
      refine lv_aload_n hx hb dX6_back_45 rfl (lv_at hl 1 rfl) ?_
      refine va_get (D := D) (ci := 4) (v := .ref (a 1)) (C := RX6) (T := TX6) (N := 12) hx hb hts (fun w h => List.mem_cons_of_mem _ (List.mem_append_left _ (List.mem_append_left _ (List.mem_append_right _ h)))) hown hK hP 0 rfl rfl 0 (by decide) (hts (.fieldLink RX6 12 "LeastNeed" "now" "LLeastNeed$Valley;") (List.mem_of_getElem? (i := 1) rfl)) (fun _ h9 => h9) rfl dX6_back_46 ?_
      refine va_get (D := D) (ci := 3) (v := .ref (a 9)) (C := RX5) (T := TX5) (N := 15) hx hb hts (fun w h => List.mem_cons_of_mem _ (List.mem_append_left _ (List.mem_append_right _ h))) hown hK hP 1 rfl rfl 7 (by decide) (hts (.fieldLink RX6 121 "LeastNeed$Valley" "holder" "[I") (List.mem_of_getElem? (i := 2) rfl)) (fun _ h9 => h9) rfl dX6_back_49 ?_
      refine lv_iload_n hx hb dX6_back_52 rfl (lv_at hl 2 rfl) ?_
      refine lv_aload_n hx hb dX6_back_53 rfl (lv_at hl 1 rfl) ?_
      refine va_get (D := D) (ci := 4) (v := .ref (a 1)) (C := RX6) (T := TX6) (N := 12) hx hb hts (fun w h => List.mem_cons_of_mem _ (List.mem_append_left _ (List.mem_append_left _ (List.mem_append_right _ h)))) hown hK hP 0 rfl rfl 0 (by decide) (hts (.fieldLink RX6 12 "LeastNeed" "now" "LLeastNeed$Valley;") (List.mem_of_getElem? (i := 1) rfl)) (fun _ h9 => h9) rfl dX6_back_54 ?_
      refine va_get (D := D) (ci := 3) (v := .ref (a 8)) (C := RX5) (T := TX5) (N := 15) hx hb hts (fun w h => List.mem_cons_of_mem _ (List.mem_append_left _ (List.mem_append_right _ h))) hown hK hP 1 rfl rfl 6 (by decide) (hts (.fieldLink RX6 131 "LeastNeed$Valley" "owner" "[I") (List.mem_of_getElem? (i := 3) rfl)) (fun _ h9 => h9) rfl dX6_back_57 ?_
      refine lv_iload_n hx hb dX6_back_60 rfl (lv_at hl 2 rfl) ?_
      obtain ⟨hi61, hd⟩ := dn_i hd
      refine k_iald (D := D) (k := p1.toNatClampNeg) (by rfl) hx hb hK hP 8 1 rfl rfl hi61 dX6_back_61 ?_
      obtain ⟨hi62, hd⟩ := dn_i hd
      refine k_iast (D := D) (k := p1.toNatClampNeg) (by rfl) hx hb hK hP hD hS 9 1 rfl rfl hi62 dX6_back_62 (fun H locs hP hD hS => ?_)
      have hP : va_P D vwCl (wX6 cs a (k_w (k_sp S 1 16 S42) 9 p1.toNatClampNeg ((k_sp S 1 16 S42) 8 p1.toNatClampNeg)) L) _ := k_eq hP (wsX6_a9 cs a (k_sp S 1 16 S42) L p1.toNatClampNeg ((k_sp S 1 16 S42) 8 p1.toNatClampNeg))
      have hD := hDA (k_w (k_sp S 1 16 S42) 9 p1.toNatClampNeg ((k_sp S 1 16 S42) 8 p1.toNatClampNeg)) L
      refine lv_iload_n hx hb dX6_back_63 rfl (lv_at hl 0 rfl) ?_
      obtain ⟨e1, e2⟩ := dn_s2 hd
      exact k_iret hx hb hr hQ hAe e1 (by rw [e2]) hP hS hlocks dX6_back_64
    · have hd := dn_t c21 hd
      refine lv_aload_n hx hb dX6_back_24 rfl (lv_at hl 0 rfl) ?_
      obtain ⟨r25, S25, hq25, hd⟩ := dn_b2 hd
      have hF := k_self hD hS hA
      refine k_run_i (va_runV (As := []) (rest := []) ⟨hx, hb, hml, hown, hts⟩ (mX6_refusedAsNo l D cs a S L r25 S25 hq25 _) (cwV 0 hts gX6_back_X6_refusedAsNo rfl rfl rfl (by decide +kernel) ⟨Nat.le_of_ble_eq_true rfl, Nat.le_of_ble_eq_true rfl⟩) ⟨k_blind, va_recv hK hP (ci := 4) (q0 := 0) rfl rfl, k_pre hP hK hNn hD⟩ rfl rfl hl.1 rfl (lv_room (Nat.le_of_ble_eq_true rfl)) dX6_back_25 ⟨Nat.le_of_ble_eq_true rfl, Nat.le_of_ble_eq_true rfl⟩) hS hF (fun H locs hP1 hk hS => ?_)
      have hP : va_P D vwCl (wX6 cs a S25 L) _ := hP1
      have hD := hDA S25 L
      obtain ⟨e1, e2⟩ := dn_s2 hd
      exact k_iret hx hb hr hQ hAe e1 (by rw [e2]) hP hS hlocks dX6_back_28
  · have hd := dn_t c5 hd
    refine lv_aload_n hx hb dX6_back_8 rfl (lv_at hl 0 rfl) ?_
    obtain ⟨r9, S9, hq9, hd⟩ := dn_b2 hd
    have hF := k_self hD hS hA
    refine k_run_i (va_runV (As := []) (rest := []) ⟨hx, hb, hml, hown, hts⟩ (mX6_refusedAsBad l D cs a S L r9 S9 hq9 _) (cwV 0 hts gX6_back_X6_refusedAsBad rfl rfl rfl (by decide +kernel) ⟨Nat.le_of_ble_eq_true rfl, Nat.le_of_ble_eq_true rfl⟩) ⟨k_blind, va_recv hK hP (ci := 4) (q0 := 0) rfl rfl, k_pre hP hK hNn hD⟩ rfl rfl hl.1 rfl (lv_room (Nat.le_of_ble_eq_true rfl)) dX6_back_9 ⟨Nat.le_of_ble_eq_true rfl, Nat.le_of_ble_eq_true rfl⟩) hS hF (fun H locs hP1 hk hS => ?_)
    have hP : va_P D vwCl (wX6 cs a S9 L) _ := hP1
    have hD := hDA S9 L
    obtain ⟨e1, e2⟩ := dn_s2 hd
    exact k_iret hx hb hr hQ hAe e1 (by rw [e2]) hP hS hlocks dX6_back_12
-- LeastNeed.coat(II)I
set_option maxRecDepth 20000 in
def nX6_coat_j17 (S_17 : Nat → Nat → Int32) (L : Nat → Nat → Int64) : Option (Int32 × (Nat → Nat → Int32)) := k_b2 (nX6_refusedAsBad S_17 L) (fun r18 S18 => some (r18, S18))
set_option maxRecDepth 20000 in
def nX6_coat (S : Nat → Nat → Int32) (L : Nat → Nat → Int64) (p1 : Int32) (p2 : Int32) : Option (Int32 × (Nat → Nat → Int32)) := k_b1 (nX6_isPerson S L p1) (fun r2 => if r2 = 0 then nX6_coat_j17 S L else k_b1 (nX6_upTo p2 (10 : Int32)) (fun r11 => if r11 = 0 then nX6_coat_j17 S L else k_b1 (nX5_keepPast (k_wi S 1)) (fun S26 => if p1 < 0 ∨ 7 ≤ p1.toNatClampNeg then none else if p1 < 0 ∨ 7 ≤ p1.toNatClampNeg then none else some (((k_sp S 1 16 S26) 4 p1.toNatClampNeg), (k_w (k_sp S 1 16 S26) 4 p1.toNatClampNeg p2)))))
set_option maxHeartbeats 4000000 in
set_option maxRecDepth 100000 in
theorem mX6_coat (l : Launch) (D : va_G) (cs : Nat → ClassId) (a : Nat → Nat) (S : Nat → Nat → Int32) (L : Nat → Nat → Int64) (p1 : Int32) (p2 : Int32) (r9 : Int32) (S9 : (Nat → Nat → Int32)) (hd : nX6_coat S L p1 p2 = some (r9, S9)) : ∀ sz : Nat, Met l yX6_coat wsX6_coat ({ frames := 3, cells := 0, slots := 0, locals := 81 }) (k_Pc D cs [.ref (a 0), .int p1, .int p2] (wX6 cs a S L) sz) (k_Qi D r9 (wX6 cs a S L) (wX6 cs a S9 L) sz) 0 0 (va_A (wX6 cs a S L) sz) := by
  intro sz
  refine Met.ofW (cc := cX6_coat) (maxL := 4) (ret := (some .int)) (by decide) rfl ?_
  intro p e s m args below meth c s₁ B hml hv
  obtain ⟨rfl, hsz, hP, hK, hD0, hNn⟩ := hv
  have hx := B.exec
  have hb := B.bytes
  have hr := B.returns
  have hts := atoms_spec (ws := wsX6_coat) B.pre
  have hown : s.vm.findClass RX6 = some m.cls := findClass_of_methodNamed B.named
  have hlocks := B.notSynchronized
  subst hsz
  obtain ⟨A, hAe⟩ : ∃ A : Nat → Prop, A = va_A (wX6 cs a S L) s.heap.size := ⟨_, rfl⟩
  have hD : va_D A (wX6 cs a S L) := by rw [hAe]; exact hD0.self
  have hA : ∀ q : Nat, s.heap.size ≤ q → A q := fun q h => by rw [hAe]; exact Or.inr h
  have hS : va_S A s.heap s.heap [] := va_S.rf
  have hDA : ∀ (S : Nat → Nat → Int32) (L : Nat → Nat → Int64), va_D A (wX6 cs a S L) := fun S L => k_DA hD rfl
  have hl := lv_entry ([.ref (a 0), .int p1, .int p2]) (n := 4) (Nat.le_of_ble_eq_true rfl)
  rw [lg_entry_eq]
  generalize (lg_sl ([.ref (a 0), .int p1, .int p2]) ++ List.replicate (4 - (lg_sl ([.ref (a 0), .int p1, .int p2])).length) Slot.unset).toArray = ls at hl ⊢
  have hl : lv_has ls 4 [(0, .ref (a 0)), (1, .int p1), (2, .int p2)] := hl
  obtain ⟨Q, hQ⟩ : ∃ Q, Q = MQ below (k_Qi D r9 (wX6 cs a S L) (wX6 cs a S9 L) s.heap.size) ([.ref (a 0), .int p1, .int p2] : List Value).toArray s 0 0 (va_A (wX6 cs a S L) s.heap.size) := ⟨_, rfl⟩
  rw [← hQ]
  have Jo17 : ∀ (S_17 : Nat → Nat → Int32) (H : Heap) (locs : List Loc) (ls : Array Slot), nX6_coat_j17 S_17 L = some (r9, S9) → lv_has ls 4 [(0, .ref (a 0))] → va_P D vwCl (wX6 cs a S_17 L) H → va_S A s.heap H locs → W p l e (headSpec wsX6_coat ({ frames := 3, cells := 0, slots := 0, locals := 81 })).room s m ([.ref (a 0), .int p1, .int p2] : List Value).toArray below meth c H locs 0 0 Q (F0 m 17 ls []) := by
    intro S_17 H locs ls hd hl hP hS
    have hD := hDA S_17 L
    unfold nX6_coat_j17 at hd
    refine lv_aload_n hx hb dX6_coat_17 rfl (lv_at hl 0 rfl) ?_
    obtain ⟨r18, S18, hq18, hd⟩ := dn_b2 hd
    have hF := k_self hD hS hA
    refine k_run_i (va_runV (As := []) (rest := []) ⟨hx, hb, hml, hown, hts⟩ (mX6_refusedAsBad l D cs a S_17 L r18 S18 hq18 _) (cwV 0 hts gX6_coat_X6_refusedAsBad rfl rfl rfl (by decide +kernel) ⟨Nat.le_of_ble_eq_true rfl, Nat.le_of_ble_eq_true rfl⟩) ⟨k_blind, va_recv hK hP (ci := 4) (q0 := 0) rfl rfl, k_pre hP hK hNn hD⟩ rfl rfl hl.1 rfl (lv_room (Nat.le_of_ble_eq_true rfl)) dX6_coat_18 ⟨Nat.le_of_ble_eq_true rfl, Nat.le_of_ble_eq_true rfl⟩) hS hF (fun H locs hP1 hk hS => ?_)
    have hP : va_P D vwCl (wX6 cs a S18 L) _ := hP1
    have hD := hDA S18 L
    obtain ⟨e1, e2⟩ := dn_s2 hd
    exact k_iret hx hb hr hQ hAe e1 (by rw [e2]) hP hS hlocks dX6_coat_21
  unfold nX6_coat at hd
  refine lv_aload_n hx hb dX6_coat_0 rfl (lv_at hl 0 rfl) ?_
  refine lv_iload_n hx hb dX6_coat_1 rfl (lv_at hl 1 rfl) ?_
  obtain ⟨r2, hq2, hd⟩ := dn_b1 hd
  have hF := k_self hD hS hA
  refine k_run_i (va_runV (As := [.int p1]) (rest := []) ⟨hx, hb, hml, hown, hts⟩ (mX6_isPerson l D cs a S L p1 r2 hq2 _) (cwV 1 hts gX6_coat_X6_isPerson rfl rfl rfl (by decide +kernel) ⟨Nat.le_of_ble_eq_true rfl, Nat.le_of_ble_eq_true rfl⟩) ⟨k_blind, va_recv hK hP (ci := 4) (q0 := 0) rfl rfl, k_pre hP hK hNn hD⟩ rfl rfl hl.1 rfl (lv_room (Nat.le_of_ble_eq_true rfl)) dX6_coat_2 ⟨Nat.le_of_ble_eq_true rfl, Nat.le_of_ble_eq_true rfl⟩) hS hF (fun H locs hP1 hk hS => ?_)
  have hP : va_P D vwCl (wX6 cs a S L) _ := hP1
  have hD := hDA S L
  refine lv_if_eq (tgt := 17) hx hb dX6_coat_5 (by decide) (fun c5 => ?_) (fun c5 => ?_)
  · have hd := dn_t c5 hd
    exact Jo17 S _ _ _ hd (lv_sub hl [0] rfl) hP hS
  · have hd := dn_f c5 hd
    refine lv_iload_n hx hb dX6_coat_8 rfl (lv_at hl 2 rfl) ?_
    refine lv_bipush (v := (10 : Int32)) hx hb dX6_coat_9 (by decide) ?_
    obtain ⟨r11, hq11, hd⟩ := dn_b1 hd
    have hPc := k_P0 hP
    have hDc : va_D A ([] : va_W) := k_D0
    have hF := k_self hDc hS hA
    refine k_run_i (va_runS (As := [.int p2, .int (10 : Int32)]) (rest := []) ⟨hx, hb, hml, hown, hts⟩ (mX6_upTo l D cs  p2 (10 : Int32) r11 hq11 _) (va_cwS 2 hts gX6_coat_X6_upTo rfl rfl rfl (by decide +kernel) ⟨Nat.le_of_ble_eq_true rfl, Nat.le_of_ble_eq_true rfl⟩) ⟨k_blind, k_pre hPc hK hNn hDc⟩ rfl rfl hl.1 rfl (lv_room (Nat.le_of_ble_eq_true rfl)) dX6_coat_11 ⟨Nat.le_of_ble_eq_true rfl, Nat.le_of_ble_eq_true rfl⟩) hS hF (fun H locs hP1 hk hS => ?_)
    have hP : va_P D vwCl (wX6 cs a S L) _ := k_keep hP hk
    refine lv_if_ne (tgt := 22) hx hb dX6_coat_14 (by decide) (fun c14 => ?_) (fun c14 => ?_)
    · have hd := dn_f c14 hd
      refine lv_aload_n hx hb dX6_coat_22 rfl (lv_at hl 0 rfl) ?_
      refine va_get (D := D) (ci := 4) (v := .ref (a 1)) (C := RX6) (T := TX6) (N := 12) hx hb hts (fun w h => List.mem_cons_of_mem _ (List.mem_append_left _ (List.mem_append_left _ (List.mem_append_right _ h)))) hown hK hP 0 rfl rfl 0 (by decide) (hts (.fieldLink RX6 12 "LeastNeed" "now" "LLeastNeed$Valley;") (List.mem_of_getElem? (i := 1) rfl)) (fun _ h9 => h9) rfl dX6_coat_23 ?_
      obtain ⟨S26, hq26, hd⟩ := dn_b1 hd
      have hPc : va_P D vwCl (wX5 cs (k_wi a 1) (k_wi S 1)) _ := k_sub hP [1, 2, 3, 4, 5, 6, 7, 8, 9, 10, 11, 12, 13, 14, 15, 16] (wcX6_X5_1 cs a S L)
      have hDc : va_D A (wX5 cs (k_wi a 1) (k_wi S 1)) := hD.sub [1, 2, 3, 4, 5, 6, 7, 8, 9, 10, 11, 12, 13, 14, 15, 16] (by decide) (wcX6_X5_1 cs a S L)
      have hF := k_self hDc hS hA
      refine k_run_v (va_runV (As := []) (rest := []) ⟨hx, hb, hml, hown, hts⟩ (mX5_keepPast l D cs (k_wi a 1) (k_wi S 1) S26 hq26 _) (cwV 0 hts gX6_coat_X5_keepPast rfl rfl rfl (by decide +kernel) ⟨Nat.le_of_ble_eq_true rfl, Nat.le_of_ble_eq_true rfl⟩) ⟨k_blind, va_recv hK hP (ci := 3) (q0 := 1) rfl rfl, k_pre hPc hK hNn hDc⟩ rfl rfl hl.1 rfl (lv_room (Nat.le_of_ble_eq_true rfl)) dX6_coat_26 ⟨Nat.le_of_ble_eq_true rfl, Nat.le_of_ble_eq_true rfl⟩) hS hF (fun H locs hP1 hk hS => ?_)
      have hP : va_P D vwCl (wX6 cs a (k_sp S 1 16 S26) L) _ := k_back hP hD [1, 2, 3, 4, 5, 6, 7, 8, 9, 10, 11, 12, 13, 14, 15, 16] [0, 17, 18, 19, 20, 21, 22, 23, 24, 25, 26, 27, 28, 29, 30, 31, 32, 33, 34, 35, 36, 37, 38, 39, 40, 41, 42, 43, 44, 45, 46, 47, 48, 49, 50, 51, 52, 53, 54, 55, 56, 57, 58, 59, 60, 61, 62, 63, 64, 65, 66, 67, 68, 69, 70, 71, 72, 73, 74, 75, 76, 77, 78] [0, 63, 64, 65, 66, 67, 68, 69, 70, 71, 72, 73, 74, 75, 76, 77, 78, 1, 2, 3, 4, 5, 6, 7, 8, 9, 10, 11, 12, 13, 14, 15, 16, 17, 18, 19, 20, 21, 22, 23, 24, 25, 26, 27, 28, 29, 30, 31, 32, 33, 34, 35, 36, 37, 38, 39, 40, 41, 42, 43, 44, 45, 46, 47, 48, 49, 50, 51, 52, 53, 54, 55, 56, 57, 58, 59, 60, 61, 62] (wcX6_X5_1 cs a S L) (by decide) hk hP1 (wbX6_X5_1_S0 cs a S L S26)
      have hD := hDA (k_sp S 1 16 S26) L
      refine lv_aload_n hx hb dX6_coat_29 rfl (lv_at hl 0 rfl) ?_
      refine va_get (D := D) (ci := 4) (v := .ref (a 1)) (C := RX6) (T := TX6) (N := 12) hx hb hts (fun w h => List.mem_cons_of_mem _ (List.mem_append_left _ (List.mem_append_left _ (List.mem_append_right _ h)))) hown hK hP 0 rfl rfl 0 (by decide) (hts (.fieldLink RX6 12 "LeastNeed" "now" "LLeastNeed$Valley;") (List.mem_of_getElem? (i := 1) rfl)) (fun _ h9 => h9) rfl dX6_coat_30 ?_
      refine va_get (D := D) (ci := 3) (v := .ref (a 4)) (C := RX5) (T := TX5) (N := 15) hx hb hts (fun w h => List.mem_cons_of_mem _ (List.mem_append_left _ (List.mem_append_right _ h))) hown hK hP 1 rfl rfl 2 (by decide) (hts (.fieldLink RX6 134 "LeastNeed$Valley" "worn" "[I") (List.mem_of_getElem? (i := 2) rfl)) (fun _ h9 => h9) rfl dX6_coat_33 ?_
      refine lv_iload_n hx hb dX6_coat_36 rfl (lv_at hl 1 rfl) ?_
      obtain ⟨hi37, hd⟩ := dn_i hd
      refine k_iald (D := D) (k := p1.toNatClampNeg) (by rfl) hx hb hK hP 4 1 rfl rfl hi37 dX6_coat_37 ?_
      refine lv_istore_n (lv' := [(3, .int ((k_sp S 1 16 S26) 4 p1.toNatClampNeg)), (0, .ref (a 0)), (1, .int p1), (2, .int p2)]) hx hb dX6_coat_38 rfl hl (by decide) rfl (fun ls hl => ?_)
      refine lv_aload_n hx hb dX6_coat_39 rfl (lv_at hl 1 rfl) ?_
      refine va_get (D := D) (ci := 4) (v := .ref (a 1)) (C := RX6) (T := TX6) (N := 12) hx hb hts (fun w h => List.mem_cons_of_mem _ (List.mem_append_left _ (List.mem_append_left _ (List.mem_append_right _ h)))) hown hK hP 0 rfl rfl 0 (by decide) (hts (.fieldLink RX6 12 "LeastNeed" "now" "LLeastNeed$Valley;") (List.mem_of_getElem? (i := 1) rfl)) (fun _ h9 => h9) rfl dX6_coat_40 ?_
      refine va_get (D := D) (ci := 3) (v := .ref (a 4)) (C := RX5) (T := TX5) (N := 15) hx hb hts (fun w h => List.mem_cons_of_mem _ (List.mem_append_left _ (List.mem_append_right _ h))) hown hK hP 1 rfl rfl 2 (by decide) (hts (.fieldLink RX6 134 "LeastNeed$Valley" "worn" "[I") (List.mem_of_getElem? (i := 2) rfl)) (fun _ h9 => h9) rfl dX6_coat_43 ?_
      refine lv_iload_n hx hb dX6_coat_46 rfl (lv_at hl 2 rfl) ?_
      refine lv_iload_n hx hb dX6_coat_47 rfl (lv_at hl 3 rfl) ?_
      obtain ⟨hi48, hd⟩ := dn_i hd
      refine k_iast (D := D) (k := p1.toNatClampNeg) (by rfl) hx hb hK hP hD hS 4 1 rfl rfl hi48 dX6_coat_48 (fun H locs hP hD hS => ?_)
      have hP : va_P D vwCl (wX6 cs a (k_w (k_sp S 1 16 S26) 4 p1.toNatClampNeg p2) L) _ := k_eq hP (wsX6_a4 cs a (k_sp S 1 16 S26) L p1.toNatClampNeg p2)
      have hD := hDA (k_w (k_sp S 1 16 S26) 4 p1.toNatClampNeg p2) L
      refine lv_iload_n hx hb dX6_coat_49 rfl (lv_at hl 0 rfl) ?_
      obtain ⟨e1, e2⟩ := dn_s2 hd
      exact k_iret hx hb hr hQ hAe e1 (by rw [e2]) hP hS hlocks dX6_coat_50
    · have hd := dn_t c14 hd
      exact Jo17 S _ _ _ hd (lv_sub hl [0] rfl) hP hS
-- LeastNeed.day(I)I
set_option maxRecDepth 20000 in
def nX6_day_j56 (S_56 : Nat → Nat → Int32) (L : Nat → Nat → Int64) : Option (Int32 × (Nat → Nat → Int32)) := k_b1 (nX5_howManyLie (k_wi S_56 1) (2 : Int32)) (fun r61 => some (r61, S_56))
set_option maxRecDepth 20000 in
def nX6_day_l25 (p1 : Int32) (x2_25 : Int32) (S_25 : Nat → Nat → Int32) (L : Nat → Nat → Int64) : Option ((Int32 × (Nat → Nat → Int32)) ⊕ (Int32 × (Nat → Nat → Int32))) := if p1 ≤ x2_25 then k_up (nX6_day_j56 S_25 L) else if (9999 : Int32) ≤ (S_25 1 14) then k_up (nX6_day_j56 S_25 L) else k_b1 (nX5_dayGoesBy (k_wi S_25 1)) (fun S47 => some (.inl ((x2_25 + (1 : Int32)), (k_sp S_25 1 16 S47))))
set_option maxRecDepth 20000 in
def nX6_day_j11 (S_11 : Nat → Nat → Int32) (L : Nat → Nat → Int64) : Option (Int32 × (Nat → Nat → Int32)) := k_b2 (nX6_refusedAsBad S_11 L) (fun r12 S12 => some (r12, S12))
set_option maxRecDepth 20000 in
def nX6_day (S : Nat → Nat → Int32) (L : Nat → Nat → Int64) (p1 : Int32) : Option (Int32 × (Nat → Nat → Int32)) := if p1 < (1 : Int32) then nX6_day_j11 S L else if p1 ≤ (99 : Int32) then k_b1 (nX5_keepPast (k_wi S 1)) (fun S20 => k_it (fun st => nX6_day_l25 p1 st.1 st.2 L) 1000 ((0 : Int32), (k_sp S 1 16 S20))) else nX6_day_j11 S L
set_option maxHeartbeats 4000000 in
set_option maxRecDepth 100000 in
theorem mX6_day (l : Launch) (D : va_G) (cs : Nat → ClassId) (a : Nat → Nat) (S : Nat → Nat → Int32) (L : Nat → Nat → Int64) (p1 : Int32) (r9 : Int32) (S9 : (Nat → Nat → Int32)) (hd : nX6_day S L p1 = some (r9, S9)) : ∀ sz : Nat, Met l yX6_day wsX6_day ({ frames := 4, cells := 0, slots := 0, locals := 106 }) (k_Pc D cs [.ref (a 0), .int p1] (wX6 cs a S L) sz) (k_Qi D r9 (wX6 cs a S L) (wX6 cs a S9 L) sz) 0 0 (va_A (wX6 cs a S L) sz) := by
  intro sz
  refine Met.ofW (cc := cX6_day) (maxL := 3) (ret := (some .int)) (by decide) rfl ?_
  intro p e s m args below meth c s₁ B hml hv
  obtain ⟨rfl, hsz, hP, hK, hD0, hNn⟩ := hv
  have hx := B.exec
  have hb := B.bytes
  have hr := B.returns
  have hts := atoms_spec (ws := wsX6_day) B.pre
  have hown : s.vm.findClass RX6 = some m.cls := findClass_of_methodNamed B.named
  have hlocks := B.notSynchronized
  subst hsz
  obtain ⟨A, hAe⟩ : ∃ A : Nat → Prop, A = va_A (wX6 cs a S L) s.heap.size := ⟨_, rfl⟩
  have hD : va_D A (wX6 cs a S L) := by rw [hAe]; exact hD0.self
  have hA : ∀ q : Nat, s.heap.size ≤ q → A q := fun q h => by rw [hAe]; exact Or.inr h
  have hS : va_S A s.heap s.heap [] := va_S.rf
  have hDA : ∀ (S : Nat → Nat → Int32) (L : Nat → Nat → Int64), va_D A (wX6 cs a S L) := fun S L => k_DA hD rfl
  have hl := lv_entry ([.ref (a 0), .int p1]) (n := 3) (Nat.le_of_ble_eq_true rfl)
  rw [lg_entry_eq]
  generalize (lg_sl ([.ref (a 0), .int p1]) ++ List.replicate (3 - (lg_sl ([.ref (a 0), .int p1])).length) Slot.unset).toArray = ls at hl ⊢
  have hl : lv_has ls 3 [(0, .ref (a 0)), (1, .int p1)] := hl
  obtain ⟨Q, hQ⟩ : ∃ Q, Q = MQ below (k_Qi D r9 (wX6 cs a S L) (wX6 cs a S9 L) s.heap.size) ([.ref (a 0), .int p1] : List Value).toArray s 0 0 (va_A (wX6 cs a S L) s.heap.size) := ⟨_, rfl⟩
  rw [← hQ]
  have Jo56 : ∀ (S_56 : Nat → Nat → Int32) (H : Heap) (locs : List Loc) (ls : Array Slot), nX6_day_j56 S_56 L = some (r9, S9) → lv_has ls 3 [(0, .ref (a 0))] → va_P D vwCl (wX6 cs a S_56 L) H → va_S A s.heap H locs → W p l e (headSpec wsX6_day ({ frames := 4, cells := 0, slots := 0, locals := 106 })).room s m ([.ref (a 0), .int p1] : List Value).toArray below meth c H locs 0 0 Q (F0 m 56 ls []) := by
    intro S_56 H locs ls hd hl hP hS
    have hD := hDA S_56 L
    unfold nX6_day_j56 at hd
    refine lv_aload_n hx hb dX6_day_56 rfl (lv_at hl 0 rfl) ?_
    refine va_get (D := D) (ci := 4) (v := .ref (a 1)) (C := RX6) (T := TX6) (N := 12) hx hb hts (fun w h => List.mem_cons_of_mem _ (List.mem_append_left _ (List.mem_append_left _ (List.mem_append_right _ h)))) hown hK hP 0 rfl rfl 0 (by decide) (hts (.fieldLink RX6 12 "LeastNeed" "now" "LLeastNeed$Valley;") (List.mem_of_getElem? (i := 1) rfl)) (fun _ h9 => h9) rfl dX6_day_57 ?_
    refine lv_iconst (v := (2 : Int32)) hx hb dX6_day_60 (by decide) ?_
    obtain ⟨r61, hq61, hd⟩ := dn_b1 hd
    have hPc : va_P D vwCl (wX5 cs (k_wi a 1) (k_wi S_56 1)) _ := k_sub hP [1, 2, 3, 4, 5, 6, 7, 8, 9, 10, 11, 12, 13, 14, 15, 16] (wcX6_X5_1 cs a S_56 L)
    have hDc : va_D A (wX5 cs (k_wi a 1) (k_wi S_56 1)) := hD.sub [1, 2, 3, 4, 5, 6, 7, 8, 9, 10, 11, 12, 13, 14, 15, 16] (by decide) (wcX6_X5_1 cs a S_56 L)
    have hF := k_self hDc hS hA
    refine k_run_i (va_runV (As := [.int (2 : Int32)]) (rest := []) ⟨hx, hb, hml, hown, hts⟩ (mX5_howManyLie l D cs (k_wi a 1) (k_wi S_56 1) (2 : Int32) r61 hq61 _) (cwV 1 hts gX6_day_X5_howManyLie rfl rfl rfl (by decide +kernel) ⟨Nat.le_of_ble_eq_true rfl, Nat.le_of_ble_eq_true rfl⟩) ⟨k_blind, va_recv hK hP (ci := 3) (q0 := 1) rfl rfl, k_pre hPc hK hNn hDc⟩ rfl rfl hl.1 rfl (lv_room (Nat.le_of_ble_eq_true rfl)) dX6_day_61 ⟨Nat.le_of_ble_eq_true rfl, Nat.le_of_ble_eq_true rfl⟩) hS hF (fun H locs hP1 hk hS => ?_)
    have hP : va_P D vwCl (wX6 cs a S_56 L) _ := k_back hP hD [1, 2, 3, 4, 5, 6, 7, 8, 9, 10, 11, 12, 13, 14, 15, 16] [0, 17, 18, 19, 20, 21, 22, 23, 24, 25, 26, 27, 28, 29, 30, 31, 32, 33, 34, 35, 36, 37, 38, 39, 40, 41, 42, 43, 44, 45, 46, 47, 48, 49, 50, 51, 52, 53, 54, 55, 56, 57, 58, 59, 60, 61, 62, 63, 64, 65, 66, 67, 68, 69, 70, 71, 72, 73, 74, 75, 76, 77, 78] [0, 63, 64, 65, 66, 67, 68, 69, 70, 71, 72, 73, 74, 75, 76, 77, 78, 1, 2, 3, 4, 5, 6, 7, 8, 9, 10, 11, 12, 13, 14, 15, 16, 17, 18, 19, 20, 21, 22, 23, 24, 25, 26, 27, 28, 29, 30, 31, 32, 33, 34, 35, 36, 37, 38, 39, 40, 41, 42, 43, 44, 45, 46, 47, 48, 49, 50, 51, 52, 53, 54, 55, 56, 57, 58, 59, 60, 61, 62] (wcX6_X5_1 cs a S_56 L) (by decide) hk hP1 (wbX6_X5_1 cs a S_56 L)
    have hD := hDA S_56 L
    obtain ⟨e1, e2⟩ := dn_s2 hd
    exact k_iret hx hb hr hQ hAe e1 (by rw [e2]) hP hS hlocks dX6_day_64
  have Lo25 : ∀ (n1 : Nat) (x2_25 : Int32) (S_25 : Nat → Nat → Int32) (H : Heap) (locs : List Loc) (ls : Array Slot), k_it (fun st => nX6_day_l25 p1 st.1 st.2 L) n1 (x2_25, S_25) = some (r9, S9) → lv_has ls 3 [(0, .ref (a 0)), (1, .int p1), (2, .int x2_25)] → va_P D vwCl (wX6 cs a S_25 L) H → va_S A s.heap H locs → W p l e (headSpec wsX6_day ({ frames := 4, cells := 0, slots := 0, locals := 106 })).room s m ([.ref (a 0), .int p1] : List Value).toArray below meth c H locs 0 0 Q (F0 m 25 ls []) := by
    intro n1
    induction n1 with
    | zero => intro x2_25 S_25 H locs ls hd; exact dn_it0 hd
    | succ n1 ih1 =>
      intro x2_25 S_25 H locs ls hd hl hP hS
      have hD := hDA S_25 L
      obtain ⟨y1, hd, hy1⟩ := dn_it hd
      have hd : nX6_day_l25 p1 x2_25 S_25 L = some y1 := hd
      unfold nX6_day_l25 at hd
      refine lv_iload_n hx hb dX6_day_25 rfl (lv_at hl 2 rfl) ?_
      refine lv_iload_n hx hb dX6_day_26 rfl (lv_at hl 1 rfl) ?_
      refine lv_icmp_ge (tgt := 56) hx hb dX6_day_27 (by decide) (fun c27 => ?_) (fun c27 => ?_)
      · have hd := dn_t c27 hd
        have hd := dn_up hd hy1
        exact Jo56 S_25 _ _ _ hd (lv_sub hl [0] rfl) hP hS
      · have hd := dn_f c27 hd
        refine lv_aload_n hx hb dX6_day_30 rfl (lv_at hl 0 rfl) ?_
        refine va_get (D := D) (ci := 4) (v := .ref (a 1)) (C := RX6) (T := TX6) (N := 12) hx hb hts (fun w h => List.mem_cons_of_mem _ (List.mem_append_left _ (List.mem_append_left _ (List.mem_append_right _ h)))) hown hK hP 0 rfl rfl 0 (by decide) (hts (.fieldLink RX6 12 "LeastNeed" "now" "LLeastNeed$Valley;") (List.mem_of_getElem? (i := 1) rfl)) (fun _ h9 => h9) rfl dX6_day_31 ?_
        refine va_get (D := D) (ci := 3) (v := .int (S_25 1 14)) (C := RX5) (T := TX5) (N := 15) hx hb hts (fun w h => List.mem_cons_of_mem _ (List.mem_append_left _ (List.mem_append_right _ h))) hown hK hP 1 rfl rfl 14 (by decide) (hts (.fieldLink RX6 137 "LeastNeed$Valley" "today" "I") (List.mem_of_getElem? (i := 2) rfl)) (fun _ h9 => h9) rfl dX6_day_34 ?_
        refine lv_sipush (v := (9999 : Int32)) hx hb dX6_day_37 (by decide) ?_
        refine lv_icmp_ge (tgt := 56) hx hb dX6_day_40 (by decide) (fun c40 => ?_) (fun c40 => ?_)
        · have hd := dn_t c40 hd
          have hd := dn_up hd hy1
          exact Jo56 S_25 _ _ _ hd (lv_sub hl [0] rfl) hP hS
        · have hd := dn_f c40 hd
          refine lv_aload_n hx hb dX6_day_43 rfl (lv_at hl 0 rfl) ?_
          refine va_get (D := D) (ci := 4) (v := .ref (a 1)) (C := RX6) (T := TX6) (N := 12) hx hb hts (fun w h => List.mem_cons_of_mem _ (List.mem_append_left _ (List.mem_append_left _ (List.mem_append_right _ h)))) hown hK hP 0 rfl rfl 0 (by decide) (hts (.fieldLink RX6 12 "LeastNeed" "now" "LLeastNeed$Valley;") (List.mem_of_getElem? (i := 1) rfl)) (fun _ h9 => h9) rfl dX6_day_44 ?_
          obtain ⟨S47, hq47, hd⟩ := dn_b1 hd
          have hPc : va_P D vwCl (wX5 cs (k_wi a 1) (k_wi S_25 1)) _ := k_sub hP [1, 2, 3, 4, 5, 6, 7, 8, 9, 10, 11, 12, 13, 14, 15, 16] (wcX6_X5_1 cs a S_25 L)
          have hDc : va_D A (wX5 cs (k_wi a 1) (k_wi S_25 1)) := hD.sub [1, 2, 3, 4, 5, 6, 7, 8, 9, 10, 11, 12, 13, 14, 15, 16] (by decide) (wcX6_X5_1 cs a S_25 L)
          have hF := k_self hDc hS hA
          refine k_run_v (va_runV (As := []) (rest := []) ⟨hx, hb, hml, hown, hts⟩ (mX5_dayGoesBy l D cs (k_wi a 1) (k_wi S_25 1) S47 hq47 _) (cwV 0 hts gX6_day_X5_dayGoesBy rfl rfl rfl (by decide +kernel) ⟨Nat.le_of_ble_eq_true rfl, Nat.le_of_ble_eq_true rfl⟩) ⟨k_blind, va_recv hK hP (ci := 3) (q0 := 1) rfl rfl, k_pre hPc hK hNn hDc⟩ rfl rfl hl.1 rfl (lv_room (Nat.le_of_ble_eq_true rfl)) dX6_day_47 ⟨Nat.le_of_ble_eq_true rfl, Nat.le_of_ble_eq_true rfl⟩) hS hF (fun H locs hP1 hk hS => ?_)
          have hP : va_P D vwCl (wX6 cs a (k_sp S_25 1 16 S47) L) _ := k_back hP hD [1, 2, 3, 4, 5, 6, 7, 8, 9, 10, 11, 12, 13, 14, 15, 16] [0, 17, 18, 19, 20, 21, 22, 23, 24, 25, 26, 27, 28, 29, 30, 31, 32, 33, 34, 35, 36, 37, 38, 39, 40, 41, 42, 43, 44, 45, 46, 47, 48, 49, 50, 51, 52, 53, 54, 55, 56, 57, 58, 59, 60, 61, 62, 63, 64, 65, 66, 67, 68, 69, 70, 71, 72, 73, 74, 75, 76, 77, 78] [0, 63, 64, 65, 66, 67, 68, 69, 70, 71, 72, 73, 74, 75, 76, 77, 78, 1, 2, 3, 4, 5, 6, 7, 8, 9, 10, 11, 12, 13, 14, 15, 16, 17, 18, 19, 20, 21, 22, 23, 24, 25, 26, 27, 28, 29, 30, 31, 32, 33, 34, 35, 36, 37, 38, 39, 40, 41, 42, 43, 44, 45, 46, 47, 48, 49, 50, 51, 52, 53, 54, 55, 56, 57, 58, 59, 60, 61, 62] (wcX6_X5_1 cs a S_25 L) (by decide) hk hP1 (wbX6_X5_1_S0 cs a S_25 L S47)
          have hD := hDA (k_sp S_25 1 16 S47) L
          refine lv_iinc (v := x2_25 + (1 : Int32)) (lv' := [(2, .int (x2_25 + (1 : Int32))), (0, .ref (a 0)), (1, .int p1)]) hx hb dX6_day_50 hl (k := 2) rfl rfl (by decide) rfl (fun ls hl => ?_)
          refine lv_goto (tgt := 25) hx hb dX6_day_53 (by decide) ?_
          exact ih1 (x2_25 + (1 : Int32)) (k_sp S_25 1 16 S47) _ _ _ (dn_bk hd hy1) (lv_sub hl [1, 2, 0] rfl) hP hS
  have Jo11 : ∀ (S_11 : Nat → Nat → Int32) (H : Heap) (locs : List Loc) (ls : Array Slot), nX6_day_j11 S_11 L = some (r9, S9) → lv_has ls 3 [(0, .ref (a 0))] → va_P D vwCl (wX6 cs a S_11 L) H → va_S A s.heap H locs → W p l e (headSpec wsX6_day ({ frames := 4, cells := 0, slots := 0, locals := 106 })).room s m ([.ref (a 0), .int p1] : List Value).toArray below meth c H locs 0 0 Q (F0 m 11 ls []) := by
    intro S_11 H locs ls hd hl hP hS
    have hD := hDA S_11 L
    unfold nX6_day_j11 at hd
    refine lv_aload_n hx hb dX6_day_11 rfl (lv_at hl 0 rfl) ?_
    obtain ⟨r12, S12, hq12, hd⟩ := dn_b2 hd
    have hF := k_self hD hS hA
    refine k_run_i (va_runV (As := []) (rest := []) ⟨hx, hb, hml, hown, hts⟩ (mX6_refusedAsBad l D cs a S_11 L r12 S12 hq12 _) (cwV 0 hts gX6_day_X6_refusedAsBad rfl rfl rfl (by decide +kernel) ⟨Nat.le_of_ble_eq_true rfl, Nat.le_of_ble_eq_true rfl⟩) ⟨k_blind, va_recv hK hP (ci := 4) (q0 := 0) rfl rfl, k_pre hP hK hNn hD⟩ rfl rfl hl.1 rfl (lv_room (Nat.le_of_ble_eq_true rfl)) dX6_day_12 ⟨Nat.le_of_ble_eq_true rfl, Nat.le_of_ble_eq_true rfl⟩) hS hF (fun H locs hP1 hk hS => ?_)
    have hP : va_P D vwCl (wX6 cs a S12 L) _ := hP1
    have hD := hDA S12 L
    obtain ⟨e1, e2⟩ := dn_s2 hd
    exact k_iret hx hb hr hQ hAe e1 (by rw [e2]) hP hS hlocks dX6_day_15
  unfold nX6_day at hd
  refine lv_iload_n hx hb dX6_day_0 rfl (lv_at hl 1 rfl) ?_
  refine lv_iconst (v := (1 : Int32)) hx hb dX6_day_1 (by decide) ?_
  refine lv_icmp_lt (tgt := 11) hx hb dX6_day_2 (by decide) (fun c2 => ?_) (fun c2 => ?_)
  · have hd := dn_t c2 hd
    exact Jo11 S _ _ _ hd (lv_sub hl [0] rfl) hP hS
  · have hd := dn_f c2 hd
    refine lv_iload_n hx hb dX6_day_5 rfl (lv_at hl 1 rfl) ?_
    refine lv_bipush (v := (99 : Int32)) hx hb dX6_day_6 (by decide) ?_
    refine lv_icmp_le (tgt := 16) hx hb dX6_day_8 (by decide) (fun c8 => ?_) (fun c8 => ?_)
    · have hd := dn_t c8 hd
      refine lv_aload_n hx hb dX6_day_16 rfl (lv_at hl 0 rfl) ?_
      refine va_get (D := D) (ci := 4) (v := .ref (a 1)) (C := RX6) (T := TX6) (N := 12) hx hb hts (fun w h => List.mem_cons_of_mem _ (List.mem_append_left _ (List.mem_append_left _ (List.mem_append_right _ h)))) hown hK hP 0 rfl rfl 0 (by decide) (hts (.fieldLink RX6 12 "LeastNeed" "now" "LLeastNeed$Valley;") (List.mem_of_getElem? (i := 1) rfl)) (fun _ h9 => h9) rfl dX6_day_17 ?_
      obtain ⟨S20, hq20, hd⟩ := dn_b1 hd
      have hPc : va_P D vwCl (wX5 cs (k_wi a 1) (k_wi S 1)) _ := k_sub hP [1, 2, 3, 4, 5, 6, 7, 8, 9, 10, 11, 12, 13, 14, 15, 16] (wcX6_X5_1 cs a S L)
      have hDc : va_D A (wX5 cs (k_wi a 1) (k_wi S 1)) := hD.sub [1, 2, 3, 4, 5, 6, 7, 8, 9, 10, 11, 12, 13, 14, 15, 16] (by decide) (wcX6_X5_1 cs a S L)
      have hF := k_self hDc hS hA
      refine k_run_v (va_runV (As := []) (rest := []) ⟨hx, hb, hml, hown, hts⟩ (mX5_keepPast l D cs (k_wi a 1) (k_wi S 1) S20 hq20 _) (cwV 0 hts gX6_day_X5_keepPast rfl rfl rfl (by decide +kernel) ⟨Nat.le_of_ble_eq_true rfl, Nat.le_of_ble_eq_true rfl⟩) ⟨k_blind, va_recv hK hP (ci := 3) (q0 := 1) rfl rfl, k_pre hPc hK hNn hDc⟩ rfl rfl hl.1 rfl (lv_room (Nat.le_of_ble_eq_true rfl)) dX6_day_20 ⟨Nat.le_of_ble_eq_true rfl, Nat.le_of_ble_eq_true rfl⟩) hS hF (fun H locs hP1 hk hS => ?_)
      have hP : va_P D vwCl (wX6 cs a (k_sp S 1 16 S20) L) _ := k_back hP hD [1, 2, 3, 4, 5, 6, 7, 8, 9, 10, 11, 12, 13, 14, 15, 16] [0, 17, 18, 19, 20, 21, 22, 23, 24, 25, 26, 27, 28, 29, 30, 31, 32, 33, 34, 35, 36, 37, 38, 39, 40, 41, 42, 43, 44, 45, 46, 47, 48, 49, 50, 51, 52, 53, 54, 55, 56, 57, 58, 59, 60, 61, 62, 63, 64, 65, 66, 67, 68, 69, 70, 71, 72, 73, 74, 75, 76, 77, 78] [0, 63, 64, 65, 66, 67, 68, 69, 70, 71, 72, 73, 74, 75, 76, 77, 78, 1, 2, 3, 4, 5, 6, 7, 8, 9, 10, 11, 12, 13, 14, 15, 16, 17, 18, 19, 20, 21, 22, 23, 24, 25, 26, 27, 28, 29, 30, 31, 32, 33, 34, 35, 36, 37, 38, 39, 40, 41, 42, 43, 44, 45, 46, 47, 48, 49, 50, 51, 52, 53, 54, 55, 56, 57, 58, 59, 60, 61, 62] (wcX6_X5_1 cs a S L) (by decide) hk hP1 (wbX6_X5_1_S0 cs a S L S20)
      have hD := hDA (k_sp S 1 16 S20) L
      refine lv_iconst (v := (0 : Int32)) hx hb dX6_day_23 (by decide) ?_
      refine lv_istore_n (lv' := [(2, .int (0 : Int32)), (0, .ref (a 0)), (1, .int p1)]) hx hb dX6_day_24 rfl hl (by decide) rfl (fun ls hl => ?_)
      exact Lo25 1000 (0 : Int32) (k_sp S 1 16 S20) _ _ _ hd (lv_sub hl [1, 2, 0] rfl) hP hS
    · have hd := dn_f c8 hd
      exact Jo11 S _ _ _ hd (lv_sub hl [0] rfl) hP hS
-- LeastNeed.undo()I
set_option maxRecDepth 20000 in
def nX6_undo (S : Nat → Nat → Int32) (L : Nat → Nat → Int64) : Option (Int32 × (Nat → Nat → Int32)) := if (S 15 3) = 0 then k_b2 (nX6_refusedAsNo S L) (fun r14 S14 => some (r14, S14)) else k_b1 (nX5_takePast (k_wi S 1)) (fun S22 => some (((k_sp S 1 16 S22) 1 14), (k_sp S 1 16 S22)))
set_option maxHeartbeats 4000000 in
set_option maxRecDepth 100000 in
theorem mX6_undo (l : Launch) (D : va_G) (cs : Nat → ClassId) (a : Nat → Nat) (S : Nat → Nat → Int32) (L : Nat → Nat → Int64) (r9 : Int32) (S9 : (Nat → Nat → Int32)) (hd : nX6_undo S L = some (r9, S9)) : ∀ sz : Nat, Met l yX6_undo wsX6_undo ({ frames := 2, cells := 0, slots := 0, locals := 45 }) (k_Pc D cs [.ref (a 0)] (wX6 cs a S L) sz) (k_Qi D r9 (wX6 cs a S L) (wX6 cs a S9 L) sz) 0 0 (va_A (wX6 cs a S L) sz) := by
  intro sz
  refine Met.ofW (cc := cX6_undo) (maxL := 1) (ret := (some .int)) (by decide) rfl ?_
  intro p e s m args below meth c s₁ B hml hv
  obtain ⟨rfl, hsz, hP, hK, hD0, hNn⟩ := hv
  have hx := B.exec
  have hb := B.bytes
  have hr := B.returns
  have hts := atoms_spec (ws := wsX6_undo) B.pre
  have hown : s.vm.findClass RX6 = some m.cls := findClass_of_methodNamed B.named
  have hlocks := B.notSynchronized
  subst hsz
  obtain ⟨A, hAe⟩ : ∃ A : Nat → Prop, A = va_A (wX6 cs a S L) s.heap.size := ⟨_, rfl⟩
  have hD : va_D A (wX6 cs a S L) := by rw [hAe]; exact hD0.self
  have hA : ∀ q : Nat, s.heap.size ≤ q → A q := fun q h => by rw [hAe]; exact Or.inr h
  have hS : va_S A s.heap s.heap [] := va_S.rf
  have hDA : ∀ (S : Nat → Nat → Int32) (L : Nat → Nat → Int64), va_D A (wX6 cs a S L) := fun S L => k_DA hD rfl
  have hl := lv_entry ([.ref (a 0)]) (n := 1) (Nat.le_of_ble_eq_true rfl)
  rw [lg_entry_eq]
  generalize (lg_sl ([.ref (a 0)]) ++ List.replicate (1 - (lg_sl ([.ref (a 0)])).length) Slot.unset).toArray = ls at hl ⊢
  have hl : lv_has ls 1 [(0, .ref (a 0))] := hl
  obtain ⟨Q, hQ⟩ : ∃ Q, Q = MQ below (k_Qi D r9 (wX6 cs a S L) (wX6 cs a S9 L) s.heap.size) ([.ref (a 0)] : List Value).toArray s 0 0 (va_A (wX6 cs a S L) s.heap.size) := ⟨_, rfl⟩
  rw [← hQ]
  unfold nX6_undo at hd
  refine lv_aload_n hx hb dX6_undo_0 rfl (lv_at hl 0 rfl) ?_
  refine va_get (D := D) (ci := 4) (v := .ref (a 1)) (C := RX6) (T := TX6) (N := 12) hx hb hts (fun w h => List.mem_cons_of_mem _ (List.mem_append_left _ (List.mem_append_left _ (List.mem_append_right _ h)))) hown hK hP 0 rfl rfl 0 (by decide) (hts (.fieldLink RX6 12 "LeastNeed" "now" "LLeastNeed$Valley;") (List.mem_of_getElem? (i := 1) rfl)) (fun _ h9 => h9) rfl dX6_undo_1 ?_
  refine va_get (D := D) (ci := 3) (v := .ref (a 15)) (C := RX5) (T := TX5) (N := 15) hx hb hts (fun w h => List.mem_cons_of_mem _ (List.mem_append_left _ (List.mem_append_right _ h))) hown hK hP 1 rfl rfl 11 (by decide) (hts (.fieldLink RX6 146 "LeastNeed$Valley" "past" "LLeastNeed$Rows;") (List.mem_of_getElem? (i := 2) rfl)) (fun _ h9 => h9) rfl dX6_undo_4 ?_
  refine va_get (D := D) (ci := 2) (v := .int (S 15 3)) (C := RX3) (T := TX3) (N := 4) hx hb hts (fun w h => List.mem_cons_of_mem _ (List.mem_append_right _ h)) hown hK hP 15 rfl rfl 3 (by decide) (hts (.fieldLink RX6 150 "LeastNeed$Rows" "used" "I") (List.mem_of_getElem? (i := 3) rfl)) (fun _ h9 => h9) rfl dX6_undo_7 ?_
  refine lv_if_ne (tgt := 18) hx hb dX6_undo_10 (by decide) (fun c10 => ?_) (fun c10 => ?_)
  · have hd := dn_f c10 hd
    refine lv_aload_n hx hb dX6_undo_18 rfl (lv_at hl 0 rfl) ?_
    refine va_get (D := D) (ci := 4) (v := .ref (a 1)) (C := RX6) (T := TX6) (N := 12) hx hb hts (fun w h => List.mem_cons_of_mem _ (List.mem_append_left _ (List.mem_append_left _ (List.mem_append_right _ h)))) hown hK hP 0 rfl rfl 0 (by decide) (hts (.fieldLink RX6 12 "LeastNeed" "now" "LLeastNeed$Valley;") (List.mem_of_getElem? (i := 1) rfl)) (fun _ h9 => h9) rfl dX6_undo_19 ?_
    obtain ⟨S22, hq22, hd⟩ := dn_b1 hd
    have hPc : va_P D vwCl (wX5 cs (k_wi a 1) (k_wi S 1)) _ := k_sub hP [1, 2, 3, 4, 5, 6, 7, 8, 9, 10, 11, 12, 13, 14, 15, 16] (wcX6_X5_1 cs a S L)
    have hDc : va_D A (wX5 cs (k_wi a 1) (k_wi S 1)) := hD.sub [1, 2, 3, 4, 5, 6, 7, 8, 9, 10, 11, 12, 13, 14, 15, 16] (by decide) (wcX6_X5_1 cs a S L)
    have hF := k_self hDc hS hA
    refine k_run_v (va_runV (As := []) (rest := []) ⟨hx, hb, hml, hown, hts⟩ (mX5_takePast l D cs (k_wi a 1) (k_wi S 1) S22 hq22 _) (cwV 0 hts gX6_undo_X5_takePast rfl rfl rfl (by decide +kernel) ⟨Nat.le_of_ble_eq_true rfl, Nat.le_of_ble_eq_true rfl⟩) ⟨k_blind, va_recv hK hP (ci := 3) (q0 := 1) rfl rfl, k_pre hPc hK hNn hDc⟩ rfl rfl hl.1 rfl (lv_room (Nat.le_of_ble_eq_true rfl)) dX6_undo_22 ⟨Nat.le_of_ble_eq_true rfl, Nat.le_of_ble_eq_true rfl⟩) hS hF (fun H locs hP1 hk hS => ?_)
    have hP : va_P D vwCl (wX6 cs a (k_sp S 1 16 S22) L) _ := k_back hP hD [1, 2, 3, 4, 5, 6, 7, 8, 9, 10, 11, 12, 13, 14, 15, 16] [0, 17, 18, 19, 20, 21, 22, 23, 24, 25, 26, 27, 28, 29, 30, 31, 32, 33, 34, 35, 36, 37, 38, 39, 40, 41, 42, 43, 44, 45, 46, 47, 48, 49, 50, 51, 52, 53, 54, 55, 56, 57, 58, 59, 60, 61, 62, 63, 64, 65, 66, 67, 68, 69, 70, 71, 72, 73, 74, 75, 76, 77, 78] [0, 63, 64, 65, 66, 67, 68, 69, 70, 71, 72, 73, 74, 75, 76, 77, 78, 1, 2, 3, 4, 5, 6, 7, 8, 9, 10, 11, 12, 13, 14, 15, 16, 17, 18, 19, 20, 21, 22, 23, 24, 25, 26, 27, 28, 29, 30, 31, 32, 33, 34, 35, 36, 37, 38, 39, 40, 41, 42, 43, 44, 45, 46, 47, 48, 49, 50, 51, 52, 53, 54, 55, 56, 57, 58, 59, 60, 61, 62] (wcX6_X5_1 cs a S L) (by decide) hk hP1 (wbX6_X5_1_S0 cs a S L S22)
    have hD := hDA (k_sp S 1 16 S22) L
    refine lv_aload_n hx hb dX6_undo_25 rfl (lv_at hl 0 rfl) ?_
    refine va_get (D := D) (ci := 4) (v := .ref (a 1)) (C := RX6) (T := TX6) (N := 12) hx hb hts (fun w h => List.mem_cons_of_mem _ (List.mem_append_left _ (List.mem_append_left _ (List.mem_append_right _ h)))) hown hK hP 0 rfl rfl 0 (by decide) (hts (.fieldLink RX6 12 "LeastNeed" "now" "LLeastNeed$Valley;") (List.mem_of_getElem? (i := 1) rfl)) (fun _ h9 => h9) rfl dX6_undo_26 ?_
    refine va_get (D := D) (ci := 3) (v := .int ((k_sp S 1 16 S22) 1 14)) (C := RX5) (T := TX5) (N := 15) hx hb hts (fun w h => List.mem_cons_of_mem _ (List.mem_append_left _ (List.mem_append_right _ h))) hown hK hP 1 rfl rfl 14 (by decide) (hts (.fieldLink RX6 137 "LeastNeed$Valley" "today" "I") (List.mem_of_getElem? (i := 4) rfl)) (fun _ h9 => h9) rfl dX6_undo_29 ?_
    obtain ⟨e1, e2⟩ := dn_s2 hd
    exact k_iret hx hb hr hQ hAe e1 (by rw [e2]) hP hS hlocks dX6_undo_32
  · have hd := dn_t c10 hd
    refine lv_aload_n hx hb dX6_undo_13 rfl (lv_at hl 0 rfl) ?_
    obtain ⟨r14, S14, hq14, hd⟩ := dn_b2 hd
    have hF := k_self hD hS hA
    refine k_run_i (va_runV (As := []) (rest := []) ⟨hx, hb, hml, hown, hts⟩ (mX6_refusedAsNo l D cs a S L r14 S14 hq14 _) (cwV 0 hts gX6_undo_X6_refusedAsNo rfl rfl rfl (by decide +kernel) ⟨Nat.le_of_ble_eq_true rfl, Nat.le_of_ble_eq_true rfl⟩) ⟨k_blind, va_recv hK hP (ci := 4) (q0 := 0) rfl rfl, k_pre hP hK hNn hD⟩ rfl rfl hl.1 rfl (lv_room (Nat.le_of_ble_eq_true rfl)) dX6_undo_14 ⟨Nat.le_of_ble_eq_true rfl, Nat.le_of_ble_eq_true rfl⟩) hS hF (fun H locs hP1 hk hS => ?_)
    have hP : va_P D vwCl (wX6 cs a S14 L) _ := hP1
    have hD := hDA S14 L
    obtain ⟨e1, e2⟩ := dn_s2 hd
    exact k_iret hx hb hr hQ hAe e1 (by rw [e2]) hP hS hlocks dX6_undo_17
-- LeastNeed.of(II)I
set_option maxRecDepth 20000 in
def nX6_of_j17 (S_17 : Nat → Nat → Int32) (L : Nat → Nat → Int64) : Option (Int32 × (Nat → Nat → Int32)) := k_b2 (nX6_refusedAsBad S_17 L) (fun r18 S18 => some (r18, S18))
set_option maxRecDepth 20000 in
def nX6_of (S : Nat → Nat → Int32) (L : Nat → Nat → Int64) (p1 : Int32) (p2 : Int32) : Option (Int32 × (Nat → Nat → Int32)) := k_b1 (nX6_isPerson S L p1) (fun r2 => if r2 = 0 then nX6_of_j17 S L else k_b1 (nX6_upTo p2 (8 : Int32)) (fun r11 => if r11 = 0 then nX6_of_j17 S L else if p2 = (0 : Int32) then if p1 < 0 ∨ 7 ≤ p1.toNatClampNeg then none else some ((S 2 p1.toNatClampNeg), S) else if p2 = (1 : Int32) then if p1 < 0 ∨ 7 ≤ p1.toNatClampNeg then none else some ((S 3 p1.toNatClampNeg), S) else if p2 = (2 : Int32) then if p1 < 0 ∨ 7 ≤ p1.toNatClampNeg then none else some ((S 4 p1.toNatClampNeg), S) else if p2 = (3 : Int32) then k_b1 (nX5_howManyHas (k_wi S 1) p1) (fun r87 => some (r87, S)) else if ((((4 : Int32) * p1) + p2) - (4 : Int32)) < 0 ∨ 28 ≤ ((((4 : Int32) * p1) + p2) - (4 : Int32)).toNatClampNeg then none else some ((S 5 ((((4 : Int32) * p1) + p2) - (4 : Int32)).toNatClampNeg), S)))
set_option maxHeartbeats 4000000 in
set_option maxRecDepth 100000 in
theorem mX6_of (l : Launch) (D : va_G) (cs : Nat → ClassId) (a : Nat → Nat) (S : Nat → Nat → Int32) (L : Nat → Nat → Int64) (p1 : Int32) (p2 : Int32) (r9 : Int32) (S9 : (Nat → Nat → Int32)) (hd : nX6_of S L p1 p2 = some (r9, S9)) : ∀ sz : Nat, Met l yX6_of wsX6_of ({ frames := 2, cells := 0, slots := 0, locals := 42 }) (k_Pc D cs [.ref (a 0), .int p1, .int p2] (wX6 cs a S L) sz) (k_Qi D r9 (wX6 cs a S L) (wX6 cs a S9 L) sz) 0 0 (va_A (wX6 cs a S L) sz) := by
  intro sz
  refine Met.ofW (cc := cX6_of) (maxL := 3) (ret := (some .int)) (by decide) rfl ?_
  intro p e s m args below meth c s₁ B hml hv
  obtain ⟨rfl, hsz, hP, hK, hD0, hNn⟩ := hv
  have hx := B.exec
  have hb := B.bytes
  have hr := B.returns
  have hts := atoms_spec (ws := wsX6_of) B.pre
  have hown : s.vm.findClass RX6 = some m.cls := findClass_of_methodNamed B.named
  have hlocks := B.notSynchronized
  subst hsz
  obtain ⟨A, hAe⟩ : ∃ A : Nat → Prop, A = va_A (wX6 cs a S L) s.heap.size := ⟨_, rfl⟩
  have hD : va_D A (wX6 cs a S L) := by rw [hAe]; exact hD0.self
  have hA : ∀ q : Nat, s.heap.size ≤ q → A q := fun q h => by rw [hAe]; exact Or.inr h
  have hS : va_S A s.heap s.heap [] := va_S.rf
  have hDA : ∀ (S : Nat → Nat → Int32) (L : Nat → Nat → Int64), va_D A (wX6 cs a S L) := fun S L => k_DA hD rfl
  have hl := lv_entry ([.ref (a 0), .int p1, .int p2]) (n := 3) (Nat.le_of_ble_eq_true rfl)
  rw [lg_entry_eq]
  generalize (lg_sl ([.ref (a 0), .int p1, .int p2]) ++ List.replicate (3 - (lg_sl ([.ref (a 0), .int p1, .int p2])).length) Slot.unset).toArray = ls at hl ⊢
  have hl : lv_has ls 3 [(0, .ref (a 0)), (1, .int p1), (2, .int p2)] := hl
  obtain ⟨Q, hQ⟩ : ∃ Q, Q = MQ below (k_Qi D r9 (wX6 cs a S L) (wX6 cs a S9 L) s.heap.size) ([.ref (a 0), .int p1, .int p2] : List Value).toArray s 0 0 (va_A (wX6 cs a S L) s.heap.size) := ⟨_, rfl⟩
  rw [← hQ]
  have Jo17 : ∀ (S_17 : Nat → Nat → Int32) (H : Heap) (locs : List Loc) (ls : Array Slot), nX6_of_j17 S_17 L = some (r9, S9) → lv_has ls 3 [(0, .ref (a 0))] → va_P D vwCl (wX6 cs a S_17 L) H → va_S A s.heap H locs → W p l e (headSpec wsX6_of ({ frames := 2, cells := 0, slots := 0, locals := 42 })).room s m ([.ref (a 0), .int p1, .int p2] : List Value).toArray below meth c H locs 0 0 Q (F0 m 17 ls []) := by
    intro S_17 H locs ls hd hl hP hS
    have hD := hDA S_17 L
    unfold nX6_of_j17 at hd
    refine lv_aload_n hx hb dX6_of_17 rfl (lv_at hl 0 rfl) ?_
    obtain ⟨r18, S18, hq18, hd⟩ := dn_b2 hd
    have hF := k_self hD hS hA
    refine k_run_i (va_runV (As := []) (rest := []) ⟨hx, hb, hml, hown, hts⟩ (mX6_refusedAsBad l D cs a S_17 L r18 S18 hq18 _) (cwV 0 hts gX6_of_X6_refusedAsBad rfl rfl rfl (by decide +kernel) ⟨Nat.le_of_ble_eq_true rfl, Nat.le_of_ble_eq_true rfl⟩) ⟨k_blind, va_recv hK hP (ci := 4) (q0 := 0) rfl rfl, k_pre hP hK hNn hD⟩ rfl rfl hl.1 rfl (lv_room (Nat.le_of_ble_eq_true rfl)) dX6_of_18 ⟨Nat.le_of_ble_eq_true rfl, Nat.le_of_ble_eq_true rfl⟩) hS hF (fun H locs hP1 hk hS => ?_)
    have hP : va_P D vwCl (wX6 cs a S18 L) _ := hP1
    have hD := hDA S18 L
    obtain ⟨e1, e2⟩ := dn_s2 hd
    exact k_iret hx hb hr hQ hAe e1 (by rw [e2]) hP hS hlocks dX6_of_21
  unfold nX6_of at hd
  refine lv_aload_n hx hb dX6_of_0 rfl (lv_at hl 0 rfl) ?_
  refine lv_iload_n hx hb dX6_of_1 rfl (lv_at hl 1 rfl) ?_
  obtain ⟨r2, hq2, hd⟩ := dn_b1 hd
  have hF := k_self hD hS hA
  refine k_run_i (va_runV (As := [.int p1]) (rest := []) ⟨hx, hb, hml, hown, hts⟩ (mX6_isPerson l D cs a S L p1 r2 hq2 _) (cwV 1 hts gX6_of_X6_isPerson rfl rfl rfl (by decide +kernel) ⟨Nat.le_of_ble_eq_true rfl, Nat.le_of_ble_eq_true rfl⟩) ⟨k_blind, va_recv hK hP (ci := 4) (q0 := 0) rfl rfl, k_pre hP hK hNn hD⟩ rfl rfl hl.1 rfl (lv_room (Nat.le_of_ble_eq_true rfl)) dX6_of_2 ⟨Nat.le_of_ble_eq_true rfl, Nat.le_of_ble_eq_true rfl⟩) hS hF (fun H locs hP1 hk hS => ?_)
  have hP : va_P D vwCl (wX6 cs a S L) _ := hP1
  have hD := hDA S L
  refine lv_if_eq (tgt := 17) hx hb dX6_of_5 (by decide) (fun c5 => ?_) (fun c5 => ?_)
  · have hd := dn_t c5 hd
    exact Jo17 S _ _ _ hd (lv_sub hl [0] rfl) hP hS
  · have hd := dn_f c5 hd
    refine lv_iload_n hx hb dX6_of_8 rfl (lv_at hl 2 rfl) ?_
    refine lv_bipush (v := (8 : Int32)) hx hb dX6_of_9 (by decide) ?_
    obtain ⟨r11, hq11, hd⟩ := dn_b1 hd
    have hPc := k_P0 hP
    have hDc : va_D A ([] : va_W) := k_D0
    have hF := k_self hDc hS hA
    refine k_run_i (va_runS (As := [.int p2, .int (8 : Int32)]) (rest := []) ⟨hx, hb, hml, hown, hts⟩ (mX6_upTo l D cs  p2 (8 : Int32) r11 hq11 _) (va_cwS 2 hts gX6_of_X6_upTo rfl rfl rfl (by decide +kernel) ⟨Nat.le_of_ble_eq_true rfl, Nat.le_of_ble_eq_true rfl⟩) ⟨k_blind, k_pre hPc hK hNn hDc⟩ rfl rfl hl.1 rfl (lv_room (Nat.le_of_ble_eq_true rfl)) dX6_of_11 ⟨Nat.le_of_ble_eq_true rfl, Nat.le_of_ble_eq_true rfl⟩) hS hF (fun H locs hP1 hk hS => ?_)
    have hP : va_P D vwCl (wX6 cs a S L) _ := k_keep hP hk
    refine lv_if_ne (tgt := 22) hx hb dX6_of_14 (by decide) (fun c14 => ?_) (fun c14 => ?_)
    · have hd := dn_f c14 hd
      refine lv_iload_n hx hb dX6_of_22 rfl (lv_at hl 2 rfl) ?_
      by_cases e23_0 : p2 = (0 : Int32)
      · have hd := dn_t e23_0 hd
        refine lv_tableIn (off := 29) (tgt := 52) hx hb dX6_of_23 (by rw [e23_0]; decide) (by rw [e23_0]; decide) (by rw [e23_0]; rfl) (by decide) ?_
        refine lv_aload_n hx hb dX6_of_52 rfl (lv_at hl 0 rfl) ?_
        refine va_get (D := D) (ci := 4) (v := .ref (a 1)) (C := RX6) (T := TX6) (N := 12) hx hb hts (fun w h => List.mem_cons_of_mem _ (List.mem_append_left _ (List.mem_append_right _ h))) hown hK hP 0 rfl rfl 0 (by decide) (hts (.fieldLink RX6 12 "LeastNeed" "now" "LLeastNeed$Valley;") (List.mem_of_getElem? (i := 1) rfl)) (fun _ h9 => h9) rfl dX6_of_53 ?_
        refine va_get (D := D) (ci := 3) (v := .ref (a 2)) (C := RX5) (T := TX5) (N := 15) hx hb hts (fun w h => List.mem_cons_of_mem _ (List.mem_append_right _ h)) hown hK hP 1 rfl rfl 0 (by decide) (hts (.fieldLink RX6 158 "LeastNeed$Valley" "kind" "[I") (List.mem_of_getElem? (i := 2) rfl)) (fun _ h9 => h9) rfl dX6_of_56 ?_
        refine lv_iload_n hx hb dX6_of_59 rfl (lv_at hl 1 rfl) ?_
        obtain ⟨hi60, hd⟩ := dn_i hd
        refine k_iald (D := D) (k := p1.toNatClampNeg) (by rfl) hx hb hK hP 2 1 rfl rfl hi60 dX6_of_60 ?_
        obtain ⟨e1, e2⟩ := dn_s2 hd
        exact k_iret hx hb hr hQ hAe e1 (by rw [e2]) hP hS hlocks dX6_of_61
      · have hd := dn_f e23_0 hd
        by_cases e23_1 : p2 = (1 : Int32)
        · have hd := dn_t e23_1 hd
          refine lv_tableIn (off := 39) (tgt := 62) hx hb dX6_of_23 (by rw [e23_1]; decide) (by rw [e23_1]; decide) (by rw [e23_1]; rfl) (by decide) ?_
          refine lv_aload_n hx hb dX6_of_62 rfl (lv_at hl 0 rfl) ?_
          refine va_get (D := D) (ci := 4) (v := .ref (a 1)) (C := RX6) (T := TX6) (N := 12) hx hb hts (fun w h => List.mem_cons_of_mem _ (List.mem_append_left _ (List.mem_append_right _ h))) hown hK hP 0 rfl rfl 0 (by decide) (hts (.fieldLink RX6 12 "LeastNeed" "now" "LLeastNeed$Valley;") (List.mem_of_getElem? (i := 1) rfl)) (fun _ h9 => h9) rfl dX6_of_63 ?_
          refine va_get (D := D) (ci := 3) (v := .ref (a 3)) (C := RX5) (T := TX5) (N := 15) hx hb hts (fun w h => List.mem_cons_of_mem _ (List.mem_append_right _ h)) hown hK hP 1 rfl rfl 1 (by decide) (hts (.fieldLink RX6 161 "LeastNeed$Valley" "house" "[I") (List.mem_of_getElem? (i := 3) rfl)) (fun _ h9 => h9) rfl dX6_of_66 ?_
          refine lv_iload_n hx hb dX6_of_69 rfl (lv_at hl 1 rfl) ?_
          obtain ⟨hi70, hd⟩ := dn_i hd
          refine k_iald (D := D) (k := p1.toNatClampNeg) (by rfl) hx hb hK hP 3 1 rfl rfl hi70 dX6_of_70 ?_
          obtain ⟨e1, e2⟩ := dn_s2 hd
          exact k_iret hx hb hr hQ hAe e1 (by rw [e2]) hP hS hlocks dX6_of_71
        · have hd := dn_f e23_1 hd
          by_cases e23_2 : p2 = (2 : Int32)
          · have hd := dn_t e23_2 hd
            refine lv_tableIn (off := 49) (tgt := 72) hx hb dX6_of_23 (by rw [e23_2]; decide) (by rw [e23_2]; decide) (by rw [e23_2]; rfl) (by decide) ?_
            refine lv_aload_n hx hb dX6_of_72 rfl (lv_at hl 0 rfl) ?_
            refine va_get (D := D) (ci := 4) (v := .ref (a 1)) (C := RX6) (T := TX6) (N := 12) hx hb hts (fun w h => List.mem_cons_of_mem _ (List.mem_append_left _ (List.mem_append_right _ h))) hown hK hP 0 rfl rfl 0 (by decide) (hts (.fieldLink RX6 12 "LeastNeed" "now" "LLeastNeed$Valley;") (List.mem_of_getElem? (i := 1) rfl)) (fun _ h9 => h9) rfl dX6_of_73 ?_
            refine va_get (D := D) (ci := 3) (v := .ref (a 4)) (C := RX5) (T := TX5) (N := 15) hx hb hts (fun w h => List.mem_cons_of_mem _ (List.mem_append_right _ h)) hown hK hP 1 rfl rfl 2 (by decide) (hts (.fieldLink RX6 134 "LeastNeed$Valley" "worn" "[I") (List.mem_of_getElem? (i := 4) rfl)) (fun _ h9 => h9) rfl dX6_of_76 ?_
            refine lv_iload_n hx hb dX6_of_79 rfl (lv_at hl 1 rfl) ?_
            obtain ⟨hi80, hd⟩ := dn_i hd
            refine k_iald (D := D) (k := p1.toNatClampNeg) (by rfl) hx hb hK hP 4 1 rfl rfl hi80 dX6_of_80 ?_
            obtain ⟨e1, e2⟩ := dn_s2 hd
            exact k_iret hx hb hr hQ hAe e1 (by rw [e2]) hP hS hlocks dX6_of_81
          · have hd := dn_f e23_2 hd
            by_cases e23_3 : p2 = (3 : Int32)
            · have hd := dn_t e23_3 hd
              refine lv_tableIn (off := 59) (tgt := 82) hx hb dX6_of_23 (by rw [e23_3]; decide) (by rw [e23_3]; decide) (by rw [e23_3]; rfl) (by decide) ?_
              refine lv_aload_n hx hb dX6_of_82 rfl (lv_at hl 0 rfl) ?_
              refine va_get (D := D) (ci := 4) (v := .ref (a 1)) (C := RX6) (T := TX6) (N := 12) hx hb hts (fun w h => List.mem_cons_of_mem _ (List.mem_append_left _ (List.mem_append_right _ h))) hown hK hP 0 rfl rfl 0 (by decide) (hts (.fieldLink RX6 12 "LeastNeed" "now" "LLeastNeed$Valley;") (List.mem_of_getElem? (i := 1) rfl)) (fun _ h9 => h9) rfl dX6_of_83 ?_
              refine lv_iload_n hx hb dX6_of_86 rfl (lv_at hl 1 rfl) ?_
              obtain ⟨r87, hq87, hd⟩ := dn_b1 hd
              have hPc : va_P D vwCl (wX5 cs (k_wi a 1) (k_wi S 1)) _ := k_sub hP [1, 2, 3, 4, 5, 6, 7, 8, 9, 10, 11, 12, 13, 14, 15, 16] (wcX6_X5_1 cs a S L)
              have hDc : va_D A (wX5 cs (k_wi a 1) (k_wi S 1)) := hD.sub [1, 2, 3, 4, 5, 6, 7, 8, 9, 10, 11, 12, 13, 14, 15, 16] (by decide) (wcX6_X5_1 cs a S L)
              have hF := k_self hDc hS hA
              refine k_run_i (va_runV (As := [.int p1]) (rest := []) ⟨hx, hb, hml, hown, hts⟩ (mX5_howManyHas l D cs (k_wi a 1) (k_wi S 1) p1 r87 hq87 _) (cwV 1 hts gX6_of_X5_howManyHas rfl rfl rfl (by decide +kernel) ⟨Nat.le_of_ble_eq_true rfl, Nat.le_of_ble_eq_true rfl⟩) ⟨k_blind, va_recv hK hP (ci := 3) (q0 := 1) rfl rfl, k_pre hPc hK hNn hDc⟩ rfl rfl hl.1 rfl (lv_room (Nat.le_of_ble_eq_true rfl)) dX6_of_87 ⟨Nat.le_of_ble_eq_true rfl, Nat.le_of_ble_eq_true rfl⟩) hS hF (fun H locs hP1 hk hS => ?_)
              have hP : va_P D vwCl (wX6 cs a S L) _ := k_back hP hD [1, 2, 3, 4, 5, 6, 7, 8, 9, 10, 11, 12, 13, 14, 15, 16] [0, 17, 18, 19, 20, 21, 22, 23, 24, 25, 26, 27, 28, 29, 30, 31, 32, 33, 34, 35, 36, 37, 38, 39, 40, 41, 42, 43, 44, 45, 46, 47, 48, 49, 50, 51, 52, 53, 54, 55, 56, 57, 58, 59, 60, 61, 62, 63, 64, 65, 66, 67, 68, 69, 70, 71, 72, 73, 74, 75, 76, 77, 78] [0, 63, 64, 65, 66, 67, 68, 69, 70, 71, 72, 73, 74, 75, 76, 77, 78, 1, 2, 3, 4, 5, 6, 7, 8, 9, 10, 11, 12, 13, 14, 15, 16, 17, 18, 19, 20, 21, 22, 23, 24, 25, 26, 27, 28, 29, 30, 31, 32, 33, 34, 35, 36, 37, 38, 39, 40, 41, 42, 43, 44, 45, 46, 47, 48, 49, 50, 51, 52, 53, 54, 55, 56, 57, 58, 59, 60, 61, 62] (wcX6_X5_1 cs a S L) (by decide) hk hP1 (wbX6_X5_1 cs a S L)
              have hD := hDA S L
              obtain ⟨e1, e2⟩ := dn_s2 hd
              exact k_iret hx hb hr hQ hAe e1 (by rw [e2]) hP hS hlocks dX6_of_90
            · have hd := dn_f e23_3 hd
              refine lv_tableOut (tgt := 91) hx hb dX6_of_23 (by have q0 := lv_neT e23_0 (a := 0) (by decide); have q1 := lv_neT e23_1 (a := 1) (by decide); have q2 := lv_neT e23_2 (a := 2) (by decide); have q3 := lv_neT e23_3 (a := 3) (by decide); omega) (by decide) ?_
              refine lv_aload_n hx hb dX6_of_91 rfl (lv_at hl 0 rfl) ?_
              refine va_get (D := D) (ci := 4) (v := .ref (a 1)) (C := RX6) (T := TX6) (N := 12) hx hb hts (fun w h => List.mem_cons_of_mem _ (List.mem_append_left _ (List.mem_append_right _ h))) hown hK hP 0 rfl rfl 0 (by decide) (hts (.fieldLink RX6 12 "LeastNeed" "now" "LLeastNeed$Valley;") (List.mem_of_getElem? (i := 1) rfl)) (fun _ h9 => h9) rfl dX6_of_92 ?_
              refine va_get (D := D) (ci := 3) (v := .ref (a 5)) (C := RX5) (T := TX5) (N := 15) hx hb hts (fun w h => List.mem_cons_of_mem _ (List.mem_append_right _ h)) hown hK hP 1 rfl rfl 3 (by decide) (hts (.fieldLink RX6 167 "LeastNeed$Valley" "need" "[I") (List.mem_of_getElem? (i := 5) rfl)) (fun _ h9 => h9) rfl dX6_of_95 ?_
              refine lv_iconst (v := (4 : Int32)) hx hb dX6_of_98 (by decide) ?_
              refine lv_iload_n hx hb dX6_of_99 rfl (lv_at hl 1 rfl) ?_
              refine lv_imul hx hb dX6_of_100 ?_
              refine lv_iload_n hx hb dX6_of_101 rfl (lv_at hl 2 rfl) ?_
              refine lv_iadd hx hb dX6_of_102 ?_
              refine lv_iconst (v := (4 : Int32)) hx hb dX6_of_103 (by decide) ?_
              refine lv_isub hx hb dX6_of_104 ?_
              obtain ⟨hi105, hd⟩ := dn_i hd
              refine k_iald (D := D) (k := ((((4 : Int32) * p1) + p2) - (4 : Int32)).toNatClampNeg) (by rfl) hx hb hK hP 5 1 rfl rfl hi105 dX6_of_105 ?_
              obtain ⟨e1, e2⟩ := dn_s2 hd
              exact k_iret hx hb hr hQ hAe e1 (by rw [e2]) hP hS hlocks dX6_of_106
    · have hd := dn_t c14 hd
      exact Jo17 S _ _ _ hd (lv_sub hl [0] rfl) hP hS
-- LeastNeed.about(II)I
set_option maxRecDepth 20000 in
def nX6_about_j16 (S_16 : Nat → Nat → Int32) (L : Nat → Nat → Int64) : Option (Int32 × (Nat → Nat → Int32)) := k_b2 (nX6_refusedAsBad S_16 L) (fun r17 S17 => some (r17, S17))
set_option maxRecDepth 20000 in
def nX6_about (S : Nat → Nat → Int32) (L : Nat → Nat → Int64) (p1 : Int32) (p2 : Int32) : Option (Int32 × (Nat → Nat → Int32)) := k_b1 (nX6_isThing S L p1) (fun r2 => if r2 = 0 then nX6_about_j16 S L else k_b1 (nX6_upTo p2 (5 : Int32)) (fun r10 => if r10 = 0 then nX6_about_j16 S L else if p2 = (0 : Int32) then if p1 < 0 ∨ 5 ≤ p1.toNatClampNeg then none else some ((S 6 p1.toNatClampNeg), S) else if p2 = (1 : Int32) then if p1 < 0 ∨ 5 ≤ p1.toNatClampNeg then none else some ((S 7 p1.toNatClampNeg), S) else if p2 = (2 : Int32) then if p1 < 0 ∨ 5 ≤ p1.toNatClampNeg then none else some ((S 8 p1.toNatClampNeg), S) else if p2 = (3 : Int32) then if p1 < 0 ∨ 5 ≤ p1.toNatClampNeg then none else some ((S 9 p1.toNatClampNeg), S) else if p1 < 0 ∨ 5 ≤ p1.toNatClampNeg then none else some ((S 10 p1.toNatClampNeg), S)))
set_option maxHeartbeats 4000000 in
set_option maxRecDepth 100000 in
theorem mX6_about (l : Launch) (D : va_G) (cs : Nat → ClassId) (a : Nat → Nat) (S : Nat → Nat → Int32) (L : Nat → Nat → Int64) (p1 : Int32) (p2 : Int32) (r9 : Int32) (S9 : (Nat → Nat → Int32)) (hd : nX6_about S L p1 p2 = some (r9, S9)) : ∀ sz : Nat, Met l yX6_about wsX6_about ({ frames := 2, cells := 0, slots := 0, locals := 42 }) (k_Pc D cs [.ref (a 0), .int p1, .int p2] (wX6 cs a S L) sz) (k_Qi D r9 (wX6 cs a S L) (wX6 cs a S9 L) sz) 0 0 (va_A (wX6 cs a S L) sz) := by
  intro sz
  refine Met.ofW (cc := cX6_about) (maxL := 3) (ret := (some .int)) (by decide) rfl ?_
  intro p e s m args below meth c s₁ B hml hv
  obtain ⟨rfl, hsz, hP, hK, hD0, hNn⟩ := hv
  have hx := B.exec
  have hb := B.bytes
  have hr := B.returns
  have hts := atoms_spec (ws := wsX6_about) B.pre
  have hown : s.vm.findClass RX6 = some m.cls := findClass_of_methodNamed B.named
  have hlocks := B.notSynchronized
  subst hsz
  obtain ⟨A, hAe⟩ : ∃ A : Nat → Prop, A = va_A (wX6 cs a S L) s.heap.size := ⟨_, rfl⟩
  have hD : va_D A (wX6 cs a S L) := by rw [hAe]; exact hD0.self
  have hA : ∀ q : Nat, s.heap.size ≤ q → A q := fun q h => by rw [hAe]; exact Or.inr h
  have hS : va_S A s.heap s.heap [] := va_S.rf
  have hDA : ∀ (S : Nat → Nat → Int32) (L : Nat → Nat → Int64), va_D A (wX6 cs a S L) := fun S L => k_DA hD rfl
  have hl := lv_entry ([.ref (a 0), .int p1, .int p2]) (n := 3) (Nat.le_of_ble_eq_true rfl)
  rw [lg_entry_eq]
  generalize (lg_sl ([.ref (a 0), .int p1, .int p2]) ++ List.replicate (3 - (lg_sl ([.ref (a 0), .int p1, .int p2])).length) Slot.unset).toArray = ls at hl ⊢
  have hl : lv_has ls 3 [(0, .ref (a 0)), (1, .int p1), (2, .int p2)] := hl
  obtain ⟨Q, hQ⟩ : ∃ Q, Q = MQ below (k_Qi D r9 (wX6 cs a S L) (wX6 cs a S9 L) s.heap.size) ([.ref (a 0), .int p1, .int p2] : List Value).toArray s 0 0 (va_A (wX6 cs a S L) s.heap.size) := ⟨_, rfl⟩
  rw [← hQ]
  have Jo16 : ∀ (S_16 : Nat → Nat → Int32) (H : Heap) (locs : List Loc) (ls : Array Slot), nX6_about_j16 S_16 L = some (r9, S9) → lv_has ls 3 [(0, .ref (a 0))] → va_P D vwCl (wX6 cs a S_16 L) H → va_S A s.heap H locs → W p l e (headSpec wsX6_about ({ frames := 2, cells := 0, slots := 0, locals := 42 })).room s m ([.ref (a 0), .int p1, .int p2] : List Value).toArray below meth c H locs 0 0 Q (F0 m 16 ls []) := by
    intro S_16 H locs ls hd hl hP hS
    have hD := hDA S_16 L
    unfold nX6_about_j16 at hd
    refine lv_aload_n hx hb dX6_about_16 rfl (lv_at hl 0 rfl) ?_
    obtain ⟨r17, S17, hq17, hd⟩ := dn_b2 hd
    have hF := k_self hD hS hA
    refine k_run_i (va_runV (As := []) (rest := []) ⟨hx, hb, hml, hown, hts⟩ (mX6_refusedAsBad l D cs a S_16 L r17 S17 hq17 _) (cwV 0 hts gX6_about_X6_refusedAsBad rfl rfl rfl (by decide +kernel) ⟨Nat.le_of_ble_eq_true rfl, Nat.le_of_ble_eq_true rfl⟩) ⟨k_blind, va_recv hK hP (ci := 4) (q0 := 0) rfl rfl, k_pre hP hK hNn hD⟩ rfl rfl hl.1 rfl (lv_room (Nat.le_of_ble_eq_true rfl)) dX6_about_17 ⟨Nat.le_of_ble_eq_true rfl, Nat.le_of_ble_eq_true rfl⟩) hS hF (fun H locs hP1 hk hS => ?_)
    have hP : va_P D vwCl (wX6 cs a S17 L) _ := hP1
    have hD := hDA S17 L
    obtain ⟨e1, e2⟩ := dn_s2 hd
    exact k_iret hx hb hr hQ hAe e1 (by rw [e2]) hP hS hlocks dX6_about_20
  unfold nX6_about at hd
  refine lv_aload_n hx hb dX6_about_0 rfl (lv_at hl 0 rfl) ?_
  refine lv_iload_n hx hb dX6_about_1 rfl (lv_at hl 1 rfl) ?_
  obtain ⟨r2, hq2, hd⟩ := dn_b1 hd
  have hF := k_self hD hS hA
  refine k_run_i (va_runV (As := [.int p1]) (rest := []) ⟨hx, hb, hml, hown, hts⟩ (mX6_isThing l D cs a S L p1 r2 hq2 _) (cwV 1 hts gX6_about_X6_isThing rfl rfl rfl (by decide +kernel) ⟨Nat.le_of_ble_eq_true rfl, Nat.le_of_ble_eq_true rfl⟩) ⟨k_blind, va_recv hK hP (ci := 4) (q0 := 0) rfl rfl, k_pre hP hK hNn hD⟩ rfl rfl hl.1 rfl (lv_room (Nat.le_of_ble_eq_true rfl)) dX6_about_2 ⟨Nat.le_of_ble_eq_true rfl, Nat.le_of_ble_eq_true rfl⟩) hS hF (fun H locs hP1 hk hS => ?_)
  have hP : va_P D vwCl (wX6 cs a S L) _ := hP1
  have hD := hDA S L
  refine lv_if_eq (tgt := 16) hx hb dX6_about_5 (by decide) (fun c5 => ?_) (fun c5 => ?_)
  · have hd := dn_t c5 hd
    exact Jo16 S _ _ _ hd (lv_sub hl [0] rfl) hP hS
  · have hd := dn_f c5 hd
    refine lv_iload_n hx hb dX6_about_8 rfl (lv_at hl 2 rfl) ?_
    refine lv_iconst (v := (5 : Int32)) hx hb dX6_about_9 (by decide) ?_
    obtain ⟨r10, hq10, hd⟩ := dn_b1 hd
    have hPc := k_P0 hP
    have hDc : va_D A ([] : va_W) := k_D0
    have hF := k_self hDc hS hA
    refine k_run_i (va_runS (As := [.int p2, .int (5 : Int32)]) (rest := []) ⟨hx, hb, hml, hown, hts⟩ (mX6_upTo l D cs  p2 (5 : Int32) r10 hq10 _) (va_cwS 2 hts gX6_about_X6_upTo rfl rfl rfl (by decide +kernel) ⟨Nat.le_of_ble_eq_true rfl, Nat.le_of_ble_eq_true rfl⟩) ⟨k_blind, k_pre hPc hK hNn hDc⟩ rfl rfl hl.1 rfl (lv_room (Nat.le_of_ble_eq_true rfl)) dX6_about_10 ⟨Nat.le_of_ble_eq_true rfl, Nat.le_of_ble_eq_true rfl⟩) hS hF (fun H locs hP1 hk hS => ?_)
    have hP : va_P D vwCl (wX6 cs a S L) _ := k_keep hP hk
    refine lv_if_ne (tgt := 21) hx hb dX6_about_13 (by decide) (fun c13 => ?_) (fun c13 => ?_)
    · have hd := dn_f c13 hd
      refine lv_iload_n hx hb dX6_about_21 rfl (lv_at hl 2 rfl) ?_
      by_cases e22_0 : p2 = (0 : Int32)
      · have hd := dn_t e22_0 hd
        refine lv_tableIn (off := 30) (tgt := 52) hx hb dX6_about_22 (by rw [e22_0]; decide) (by rw [e22_0]; decide) (by rw [e22_0]; rfl) (by decide) ?_
        refine lv_aload_n hx hb dX6_about_52 rfl (lv_at hl 0 rfl) ?_
        refine va_get (D := D) (ci := 4) (v := .ref (a 1)) (C := RX6) (T := TX6) (N := 12) hx hb hts (fun w h => List.mem_cons_of_mem _ (List.mem_append_left _ (List.mem_append_right _ h))) hown hK hP 0 rfl rfl 0 (by decide) (hts (.fieldLink RX6 12 "LeastNeed" "now" "LLeastNeed$Valley;") (List.mem_of_getElem? (i := 1) rfl)) (fun _ h9 => h9) rfl dX6_about_53 ?_
        refine va_get (D := D) (ci := 3) (v := .ref (a 6)) (C := RX5) (T := TX5) (N := 15) hx hb hts (fun w h => List.mem_cons_of_mem _ (List.mem_append_right _ h)) hown hK hP 1 rfl rfl 4 (by decide) (hts (.fieldLink RX6 170 "LeastNeed$Valley" "thingKind" "[I") (List.mem_of_getElem? (i := 2) rfl)) (fun _ h9 => h9) rfl dX6_about_56 ?_
        refine lv_iload_n hx hb dX6_about_59 rfl (lv_at hl 1 rfl) ?_
        obtain ⟨hi60, hd⟩ := dn_i hd
        refine k_iald (D := D) (k := p1.toNatClampNeg) (by rfl) hx hb hK hP 6 1 rfl rfl hi60 dX6_about_60 ?_
        obtain ⟨e1, e2⟩ := dn_s2 hd
        exact k_iret hx hb hr hQ hAe e1 (by rw [e2]) hP hS hlocks dX6_about_61
      · have hd := dn_f e22_0 hd
        by_cases e22_1 : p2 = (1 : Int32)
        · have hd := dn_t e22_1 hd
          refine lv_tableIn (off := 40) (tgt := 62) hx hb dX6_about_22 (by rw [e22_1]; decide) (by rw [e22_1]; decide) (by rw [e22_1]; rfl) (by decide) ?_
          refine lv_aload_n hx hb dX6_about_62 rfl (lv_at hl 0 rfl) ?_
          refine va_get (D := D) (ci := 4) (v := .ref (a 1)) (C := RX6) (T := TX6) (N := 12) hx hb hts (fun w h => List.mem_cons_of_mem _ (List.mem_append_left _ (List.mem_append_right _ h))) hown hK hP 0 rfl rfl 0 (by decide) (hts (.fieldLink RX6 12 "LeastNeed" "now" "LLeastNeed$Valley;") (List.mem_of_getElem? (i := 1) rfl)) (fun _ h9 => h9) rfl dX6_about_63 ?_
          refine va_get (D := D) (ci := 3) (v := .ref (a 7)) (C := RX5) (T := TX5) (N := 15) hx hb hts (fun w h => List.mem_cons_of_mem _ (List.mem_append_right _ h)) hown hK hP 1 rfl rfl 5 (by decide) (hts (.fieldLink RX6 173 "LeastNeed$Valley" "sort" "[I") (List.mem_of_getElem? (i := 3) rfl)) (fun _ h9 => h9) rfl dX6_about_66 ?_
          refine lv_iload_n hx hb dX6_about_69 rfl (lv_at hl 1 rfl) ?_
          obtain ⟨hi70, hd⟩ := dn_i hd
          refine k_iald (D := D) (k := p1.toNatClampNeg) (by rfl) hx hb hK hP 7 1 rfl rfl hi70 dX6_about_70 ?_
          obtain ⟨e1, e2⟩ := dn_s2 hd
          exact k_iret hx hb hr hQ hAe e1 (by rw [e2]) hP hS hlocks dX6_about_71
        · have hd := dn_f e22_1 hd
          by_cases e22_2 : p2 = (2 : Int32)
          · have hd := dn_t e22_2 hd
            refine lv_tableIn (off := 50) (tgt := 72) hx hb dX6_about_22 (by rw [e22_2]; decide) (by rw [e22_2]; decide) (by rw [e22_2]; rfl) (by decide) ?_
            refine lv_aload_n hx hb dX6_about_72 rfl (lv_at hl 0 rfl) ?_
            refine va_get (D := D) (ci := 4) (v := .ref (a 1)) (C := RX6) (T := TX6) (N := 12) hx hb hts (fun w h => List.mem_cons_of_mem _ (List.mem_append_left _ (List.mem_append_right _ h))) hown hK hP 0 rfl rfl 0 (by decide) (hts (.fieldLink RX6 12 "LeastNeed" "now" "LLeastNeed$Valley;") (List.mem_of_getElem? (i := 1) rfl)) (fun _ h9 => h9) rfl dX6_about_73 ?_
            refine va_get (D := D) (ci := 3) (v := .ref (a 8)) (C := RX5) (T := TX5) (N := 15) hx hb hts (fun w h => List.mem_cons_of_mem _ (List.mem_append_right _ h)) hown hK hP 1 rfl rfl 6 (by decide) (hts (.fieldLink RX6 131 "LeastNeed$Valley" "owner" "[I") (List.mem_of_getElem? (i := 4) rfl)) (fun _ h9 => h9) rfl dX6_about_76 ?_
            refine lv_iload_n hx hb dX6_about_79 rfl (lv_at hl 1 rfl) ?_
            obtain ⟨hi80, hd⟩ := dn_i hd
            refine k_iald (D := D) (k := p1.toNatClampNeg) (by rfl) hx hb hK hP 8 1 rfl rfl hi80 dX6_about_80 ?_
            obtain ⟨e1, e2⟩ := dn_s2 hd
            exact k_iret hx hb hr hQ hAe e1 (by rw [e2]) hP hS hlocks dX6_about_81
          · have hd := dn_f e22_2 hd
            by_cases e22_3 : p2 = (3 : Int32)
            · have hd := dn_t e22_3 hd
              refine lv_tableIn (off := 60) (tgt := 82) hx hb dX6_about_22 (by rw [e22_3]; decide) (by rw [e22_3]; decide) (by rw [e22_3]; rfl) (by decide) ?_
              refine lv_aload_n hx hb dX6_about_82 rfl (lv_at hl 0 rfl) ?_
              refine va_get (D := D) (ci := 4) (v := .ref (a 1)) (C := RX6) (T := TX6) (N := 12) hx hb hts (fun w h => List.mem_cons_of_mem _ (List.mem_append_left _ (List.mem_append_right _ h))) hown hK hP 0 rfl rfl 0 (by decide) (hts (.fieldLink RX6 12 "LeastNeed" "now" "LLeastNeed$Valley;") (List.mem_of_getElem? (i := 1) rfl)) (fun _ h9 => h9) rfl dX6_about_83 ?_
              refine va_get (D := D) (ci := 3) (v := .ref (a 9)) (C := RX5) (T := TX5) (N := 15) hx hb hts (fun w h => List.mem_cons_of_mem _ (List.mem_append_right _ h)) hown hK hP 1 rfl rfl 7 (by decide) (hts (.fieldLink RX6 121 "LeastNeed$Valley" "holder" "[I") (List.mem_of_getElem? (i := 5) rfl)) (fun _ h9 => h9) rfl dX6_about_86 ?_
              refine lv_iload_n hx hb dX6_about_89 rfl (lv_at hl 1 rfl) ?_
              obtain ⟨hi90, hd⟩ := dn_i hd
              refine k_iald (D := D) (k := p1.toNatClampNeg) (by rfl) hx hb hK hP 9 1 rfl rfl hi90 dX6_about_90 ?_
              obtain ⟨e1, e2⟩ := dn_s2 hd
              exact k_iret hx hb hr hQ hAe e1 (by rw [e2]) hP hS hlocks dX6_about_91
            · have hd := dn_f e22_3 hd
              refine lv_tableOut (tgt := 92) hx hb dX6_about_22 (by have q0 := lv_neT e22_0 (a := 0) (by decide); have q1 := lv_neT e22_1 (a := 1) (by decide); have q2 := lv_neT e22_2 (a := 2) (by decide); have q3 := lv_neT e22_3 (a := 3) (by decide); omega) (by decide) ?_
              refine lv_aload_n hx hb dX6_about_92 rfl (lv_at hl 0 rfl) ?_
              refine va_get (D := D) (ci := 4) (v := .ref (a 1)) (C := RX6) (T := TX6) (N := 12) hx hb hts (fun w h => List.mem_cons_of_mem _ (List.mem_append_left _ (List.mem_append_right _ h))) hown hK hP 0 rfl rfl 0 (by decide) (hts (.fieldLink RX6 12 "LeastNeed" "now" "LLeastNeed$Valley;") (List.mem_of_getElem? (i := 1) rfl)) (fun _ h9 => h9) rfl dX6_about_93 ?_
              refine va_get (D := D) (ci := 3) (v := .ref (a 10)) (C := RX5) (T := TX5) (N := 15) hx hb hts (fun w h => List.mem_cons_of_mem _ (List.mem_append_right _ h)) hown hK hP 1 rfl rfl 8 (by decide) (hts (.fieldLink RX6 112 "LeastNeed$Valley" "place" "[I") (List.mem_of_getElem? (i := 6) rfl)) (fun _ h9 => h9) rfl dX6_about_96 ?_
              refine lv_iload_n hx hb dX6_about_99 rfl (lv_at hl 1 rfl) ?_
              obtain ⟨hi100, hd⟩ := dn_i hd
              refine k_iald (D := D) (k := p1.toNatClampNeg) (by rfl) hx hb hK hP 10 1 rfl rfl hi100 dX6_about_100 ?_
              obtain ⟨e1, e2⟩ := dn_s2 hd
              exact k_iret hx hb hr hQ hAe e1 (by rw [e2]) hP hS hlocks dX6_about_101
    · have hd := dn_t c13 hd
      exact Jo16 S _ _ _ hd (lv_sub hl [0] rfl) hP hS
-- LeastNeed.shows(II)I
set_option maxRecDepth 20000 in
def nX6_shows_j16 (S_16 : Nat → Nat → Int32) (L : Nat → Nat → Int64) : Option (Int32 × (Nat → Nat → Int32)) := k_b2 (nX6_refusedAsBad S_16 L) (fun r17 S17 => some (r17, S17))
set_option maxRecDepth 20000 in
def nX6_shows (S : Nat → Nat → Int32) (L : Nat → Nat → Int64) (p1 : Int32) (p2 : Int32) : Option (Int32 × (Nat → Nat → Int32)) := k_b1 (nX6_isPerson S L p1) (fun r2 => if r2 = 0 then nX6_shows_j16 S L else k_b1 (nX6_upTo p2 (4 : Int32)) (fun r10 => if r10 = 0 then nX6_shows_j16 S L else k_b1 (nX5_shown (k_wi S 1) p1 p2 (S 1 14)) (fun r34 => some (r34, S))))
set_option maxHeartbeats 4000000 in
set_option maxRecDepth 100000 in
theorem mX6_shows (l : Launch) (D : va_G) (cs : Nat → ClassId) (a : Nat → Nat) (S : Nat → Nat → Int32) (L : Nat → Nat → Int64) (p1 : Int32) (p2 : Int32) (r9 : Int32) (S9 : (Nat → Nat → Int32)) (hd : nX6_shows S L p1 p2 = some (r9, S9)) : ∀ sz : Nat, Met l yX6_shows wsX6_shows ({ frames := 2, cells := 0, slots := 0, locals := 50 }) (k_Pc D cs [.ref (a 0), .int p1, .int p2] (wX6 cs a S L) sz) (k_Qi D r9 (wX6 cs a S L) (wX6 cs a S9 L) sz) 0 0 (va_A (wX6 cs a S L) sz) := by
  intro sz
  refine Met.ofW (cc := cX6_shows) (maxL := 3) (ret := (some .int)) (by decide) rfl ?_
  intro p e s m args below meth c s₁ B hml hv
  obtain ⟨rfl, hsz, hP, hK, hD0, hNn⟩ := hv
  have hx := B.exec
  have hb := B.bytes
  have hr := B.returns
  have hts := atoms_spec (ws := wsX6_shows) B.pre
  have hown : s.vm.findClass RX6 = some m.cls := findClass_of_methodNamed B.named
  have hlocks := B.notSynchronized
  subst hsz
  obtain ⟨A, hAe⟩ : ∃ A : Nat → Prop, A = va_A (wX6 cs a S L) s.heap.size := ⟨_, rfl⟩
  have hD : va_D A (wX6 cs a S L) := by rw [hAe]; exact hD0.self
  have hA : ∀ q : Nat, s.heap.size ≤ q → A q := fun q h => by rw [hAe]; exact Or.inr h
  have hS : va_S A s.heap s.heap [] := va_S.rf
  have hDA : ∀ (S : Nat → Nat → Int32) (L : Nat → Nat → Int64), va_D A (wX6 cs a S L) := fun S L => k_DA hD rfl
  have hl := lv_entry ([.ref (a 0), .int p1, .int p2]) (n := 3) (Nat.le_of_ble_eq_true rfl)
  rw [lg_entry_eq]
  generalize (lg_sl ([.ref (a 0), .int p1, .int p2]) ++ List.replicate (3 - (lg_sl ([.ref (a 0), .int p1, .int p2])).length) Slot.unset).toArray = ls at hl ⊢
  have hl : lv_has ls 3 [(0, .ref (a 0)), (1, .int p1), (2, .int p2)] := hl
  obtain ⟨Q, hQ⟩ : ∃ Q, Q = MQ below (k_Qi D r9 (wX6 cs a S L) (wX6 cs a S9 L) s.heap.size) ([.ref (a 0), .int p1, .int p2] : List Value).toArray s 0 0 (va_A (wX6 cs a S L) s.heap.size) := ⟨_, rfl⟩
  rw [← hQ]
  have Jo16 : ∀ (S_16 : Nat → Nat → Int32) (H : Heap) (locs : List Loc) (ls : Array Slot), nX6_shows_j16 S_16 L = some (r9, S9) → lv_has ls 3 [(0, .ref (a 0))] → va_P D vwCl (wX6 cs a S_16 L) H → va_S A s.heap H locs → W p l e (headSpec wsX6_shows ({ frames := 2, cells := 0, slots := 0, locals := 50 })).room s m ([.ref (a 0), .int p1, .int p2] : List Value).toArray below meth c H locs 0 0 Q (F0 m 16 ls []) := by
    intro S_16 H locs ls hd hl hP hS
    have hD := hDA S_16 L
    unfold nX6_shows_j16 at hd
    refine lv_aload_n hx hb dX6_shows_16 rfl (lv_at hl 0 rfl) ?_
    obtain ⟨r17, S17, hq17, hd⟩ := dn_b2 hd
    have hF := k_self hD hS hA
    refine k_run_i (va_runV (As := []) (rest := []) ⟨hx, hb, hml, hown, hts⟩ (mX6_refusedAsBad l D cs a S_16 L r17 S17 hq17 _) (cwV 0 hts gX6_shows_X6_refusedAsBad rfl rfl rfl (by decide +kernel) ⟨Nat.le_of_ble_eq_true rfl, Nat.le_of_ble_eq_true rfl⟩) ⟨k_blind, va_recv hK hP (ci := 4) (q0 := 0) rfl rfl, k_pre hP hK hNn hD⟩ rfl rfl hl.1 rfl (lv_room (Nat.le_of_ble_eq_true rfl)) dX6_shows_17 ⟨Nat.le_of_ble_eq_true rfl, Nat.le_of_ble_eq_true rfl⟩) hS hF (fun H locs hP1 hk hS => ?_)
    have hP : va_P D vwCl (wX6 cs a S17 L) _ := hP1
    have hD := hDA S17 L
    obtain ⟨e1, e2⟩ := dn_s2 hd
    exact k_iret hx hb hr hQ hAe e1 (by rw [e2]) hP hS hlocks dX6_shows_20
  unfold nX6_shows at hd
  refine lv_aload_n hx hb dX6_shows_0 rfl (lv_at hl 0 rfl) ?_
  refine lv_iload_n hx hb dX6_shows_1 rfl (lv_at hl 1 rfl) ?_
  obtain ⟨r2, hq2, hd⟩ := dn_b1 hd
  have hF := k_self hD hS hA
  refine k_run_i (va_runV (As := [.int p1]) (rest := []) ⟨hx, hb, hml, hown, hts⟩ (mX6_isPerson l D cs a S L p1 r2 hq2 _) (cwV 1 hts gX6_shows_X6_isPerson rfl rfl rfl (by decide +kernel) ⟨Nat.le_of_ble_eq_true rfl, Nat.le_of_ble_eq_true rfl⟩) ⟨k_blind, va_recv hK hP (ci := 4) (q0 := 0) rfl rfl, k_pre hP hK hNn hD⟩ rfl rfl hl.1 rfl (lv_room (Nat.le_of_ble_eq_true rfl)) dX6_shows_2 ⟨Nat.le_of_ble_eq_true rfl, Nat.le_of_ble_eq_true rfl⟩) hS hF (fun H locs hP1 hk hS => ?_)
  have hP : va_P D vwCl (wX6 cs a S L) _ := hP1
  have hD := hDA S L
  refine lv_if_eq (tgt := 16) hx hb dX6_shows_5 (by decide) (fun c5 => ?_) (fun c5 => ?_)
  · have hd := dn_t c5 hd
    exact Jo16 S _ _ _ hd (lv_sub hl [0] rfl) hP hS
  · have hd := dn_f c5 hd
    refine lv_iload_n hx hb dX6_shows_8 rfl (lv_at hl 2 rfl) ?_
    refine lv_iconst (v := (4 : Int32)) hx hb dX6_shows_9 (by decide) ?_
    obtain ⟨r10, hq10, hd⟩ := dn_b1 hd
    have hPc := k_P0 hP
    have hDc : va_D A ([] : va_W) := k_D0
    have hF := k_self hDc hS hA
    refine k_run_i (va_runS (As := [.int p2, .int (4 : Int32)]) (rest := []) ⟨hx, hb, hml, hown, hts⟩ (mX6_upTo l D cs  p2 (4 : Int32) r10 hq10 _) (va_cwS 2 hts gX6_shows_X6_upTo rfl rfl rfl (by decide +kernel) ⟨Nat.le_of_ble_eq_true rfl, Nat.le_of_ble_eq_true rfl⟩) ⟨k_blind, k_pre hPc hK hNn hDc⟩ rfl rfl hl.1 rfl (lv_room (Nat.le_of_ble_eq_true rfl)) dX6_shows_10 ⟨Nat.le_of_ble_eq_true rfl, Nat.le_of_ble_eq_true rfl⟩) hS hF (fun H locs hP1 hk hS => ?_)
    have hP : va_P D vwCl (wX6 cs a S L) _ := k_keep hP hk
    refine lv_if_ne (tgt := 21) hx hb dX6_shows_13 (by decide) (fun c13 => ?_) (fun c13 => ?_)
    · have hd := dn_f c13 hd
      refine lv_aload_n hx hb dX6_shows_21 rfl (lv_at hl 0 rfl) ?_
      refine va_get (D := D) (ci := 4) (v := .ref (a 1)) (C := RX6) (T := TX6) (N := 12) hx hb hts (fun w h => List.mem_cons_of_mem _ (List.mem_append_left _ (List.mem_append_right _ h))) hown hK hP 0 rfl rfl 0 (by decide) (hts (.fieldLink RX6 12 "LeastNeed" "now" "LLeastNeed$Valley;") (List.mem_of_getElem? (i := 1) rfl)) (fun _ h9 => h9) rfl dX6_shows_22 ?_
      refine lv_iload_n hx hb dX6_shows_25 rfl (lv_at hl 1 rfl) ?_
      refine lv_iload_n hx hb dX6_shows_26 rfl (lv_at hl 2 rfl) ?_
      refine lv_aload_n hx hb dX6_shows_27 rfl (lv_at hl 0 rfl) ?_
      refine va_get (D := D) (ci := 4) (v := .ref (a 1)) (C := RX6) (T := TX6) (N := 12) hx hb hts (fun w h => List.mem_cons_of_mem _ (List.mem_append_left _ (List.mem_append_right _ h))) hown hK hP 0 rfl rfl 0 (by decide) (hts (.fieldLink RX6 12 "LeastNeed" "now" "LLeastNeed$Valley;") (List.mem_of_getElem? (i := 1) rfl)) (fun _ h9 => h9) rfl dX6_shows_28 ?_
      refine va_get (D := D) (ci := 3) (v := .int (S 1 14)) (C := RX5) (T := TX5) (N := 15) hx hb hts (fun w h => List.mem_cons_of_mem _ (List.mem_append_right _ h)) hown hK hP 1 rfl rfl 14 (by decide) (hts (.fieldLink RX6 137 "LeastNeed$Valley" "today" "I") (List.mem_of_getElem? (i := 2) rfl)) (fun _ h9 => h9) rfl dX6_shows_31 ?_
      obtain ⟨r34, hq34, hd⟩ := dn_b1 hd
      have hPc : va_P D vwCl (wX5 cs (k_wi a 1) (k_wi S 1)) _ := k_sub hP [1, 2, 3, 4, 5, 6, 7, 8, 9, 10, 11, 12, 13, 14, 15, 16] (wcX6_X5_1 cs a S L)
      have hDc : va_D A (wX5 cs (k_wi a 1) (k_wi S 1)) := hD.sub [1, 2, 3, 4, 5, 6, 7, 8, 9, 10, 11, 12, 13, 14, 15, 16] (by decide) (wcX6_X5_1 cs a S L)
      have hF := k_self hDc hS hA
      refine k_run_i (va_runV (As := [.int p1, .int p2, .int (S 1 14)]) (rest := []) ⟨hx, hb, hml, hown, hts⟩ (mX5_shown l D cs (k_wi a 1) (k_wi S 1) p1 p2 (S 1 14) r34 hq34 _) (cwV 3 hts gX6_shows_X5_shown rfl rfl rfl (by decide +kernel) ⟨Nat.le_of_ble_eq_true rfl, Nat.le_of_ble_eq_true rfl⟩) ⟨k_blind, va_recv hK hP (ci := 3) (q0 := 1) rfl rfl, k_pre hPc hK hNn hDc⟩ rfl rfl hl.1 rfl (lv_room (Nat.le_of_ble_eq_true rfl)) dX6_shows_34 ⟨Nat.le_of_ble_eq_true rfl, Nat.le_of_ble_eq_true rfl⟩) hS hF (fun H locs hP1 hk hS => ?_)
      have hP : va_P D vwCl (wX6 cs a S L) _ := k_back hP hD [1, 2, 3, 4, 5, 6, 7, 8, 9, 10, 11, 12, 13, 14, 15, 16] [0, 17, 18, 19, 20, 21, 22, 23, 24, 25, 26, 27, 28, 29, 30, 31, 32, 33, 34, 35, 36, 37, 38, 39, 40, 41, 42, 43, 44, 45, 46, 47, 48, 49, 50, 51, 52, 53, 54, 55, 56, 57, 58, 59, 60, 61, 62, 63, 64, 65, 66, 67, 68, 69, 70, 71, 72, 73, 74, 75, 76, 77, 78] [0, 63, 64, 65, 66, 67, 68, 69, 70, 71, 72, 73, 74, 75, 76, 77, 78, 1, 2, 3, 4, 5, 6, 7, 8, 9, 10, 11, 12, 13, 14, 15, 16, 17, 18, 19, 20, 21, 22, 23, 24, 25, 26, 27, 28, 29, 30, 31, 32, 33, 34, 35, 36, 37, 38, 39, 40, 41, 42, 43, 44, 45, 46, 47, 48, 49, 50, 51, 52, 53, 54, 55, 56, 57, 58, 59, 60, 61, 62] (wcX6_X5_1 cs a S L) (by decide) hk hP1 (wbX6_X5_1 cs a S L)
      have hD := hDA S L
      obtain ⟨e1, e2⟩ := dn_s2 hd
      exact k_iret hx hb hr hQ hAe e1 (by rw [e2]) hP hS hlocks dX6_shows_37
    · have hd := dn_t c13 hd
      exact Jo16 S _ _ _ hd (lv_sub hl [0] rfl) hP hS
-- LeastNeed.comes(I)I
set_option maxRecDepth 20000 in
def nX6_comes (S : Nat → Nat → Int32) (L : Nat → Nat → Int64) (p1 : Int32) : Option (Int32 × (Nat → Nat → Int32)) := k_b1 (nX6_isThing S L p1) (fun r2 => if r2 = 0 then k_b2 (nX6_refusedAsBad S L) (fun r9 S9 => some (r9, S9)) else if p1 < 0 ∨ 5 ≤ p1.toNatClampNeg then none else k_b1 (nX5_nextOf (k_wi S 1) p1 (S 9 p1.toNatClampNeg)) (fun r27 => some (r27, S)))
set_option maxHeartbeats 4000000 in
set_option maxRecDepth 100000 in
theorem mX6_comes (l : Launch) (D : va_G) (cs : Nat → ClassId) (a : Nat → Nat) (S : Nat → Nat → Int32) (L : Nat → Nat → Int64) (p1 : Int32) (r9 : Int32) (S9 : (Nat → Nat → Int32)) (hd : nX6_comes S L p1 = some (r9, S9)) : ∀ sz : Nat, Met l yX6_comes wsX6_comes ({ frames := 4, cells := 0, slots := 0, locals := 106 }) (k_Pc D cs [.ref (a 0), .int p1] (wX6 cs a S L) sz) (k_Qi D r9 (wX6 cs a S L) (wX6 cs a S9 L) sz) 0 0 (va_A (wX6 cs a S L) sz) := by
  intro sz
  refine Met.ofW (cc := cX6_comes) (maxL := 2) (ret := (some .int)) (by decide) rfl ?_
  intro p e s m args below meth c s₁ B hml hv
  obtain ⟨rfl, hsz, hP, hK, hD0, hNn⟩ := hv
  have hx := B.exec
  have hb := B.bytes
  have hr := B.returns
  have hts := atoms_spec (ws := wsX6_comes) B.pre
  have hown : s.vm.findClass RX6 = some m.cls := findClass_of_methodNamed B.named
  have hlocks := B.notSynchronized
  subst hsz
  obtain ⟨A, hAe⟩ : ∃ A : Nat → Prop, A = va_A (wX6 cs a S L) s.heap.size := ⟨_, rfl⟩
  have hD : va_D A (wX6 cs a S L) := by rw [hAe]; exact hD0.self
  have hA : ∀ q : Nat, s.heap.size ≤ q → A q := fun q h => by rw [hAe]; exact Or.inr h
  have hS : va_S A s.heap s.heap [] := va_S.rf
  have hDA : ∀ (S : Nat → Nat → Int32) (L : Nat → Nat → Int64), va_D A (wX6 cs a S L) := fun S L => k_DA hD rfl
  have hl := lv_entry ([.ref (a 0), .int p1]) (n := 2) (Nat.le_of_ble_eq_true rfl)
  rw [lg_entry_eq]
  generalize (lg_sl ([.ref (a 0), .int p1]) ++ List.replicate (2 - (lg_sl ([.ref (a 0), .int p1])).length) Slot.unset).toArray = ls at hl ⊢
  have hl : lv_has ls 2 [(0, .ref (a 0)), (1, .int p1)] := hl
  obtain ⟨Q, hQ⟩ : ∃ Q, Q = MQ below (k_Qi D r9 (wX6 cs a S L) (wX6 cs a S9 L) s.heap.size) ([.ref (a 0), .int p1] : List Value).toArray s 0 0 (va_A (wX6 cs a S L) s.heap.size) := ⟨_, rfl⟩
  rw [← hQ]
  unfold nX6_comes at hd
  refine lv_aload_n hx hb dX6_comes_0 rfl (lv_at hl 0 rfl) ?_
  refine lv_iload_n hx hb dX6_comes_1 rfl (lv_at hl 1 rfl) ?_
  obtain ⟨r2, hq2, hd⟩ := dn_b1 hd
  have hF := k_self hD hS hA
  refine k_run_i (va_runV (As := [.int p1]) (rest := []) ⟨hx, hb, hml, hown, hts⟩ (mX6_isThing l D cs a S L p1 r2 hq2 _) (cwV 1 hts gX6_comes_X6_isThing rfl rfl rfl (by decide +kernel) ⟨Nat.le_of_ble_eq_true rfl, Nat.le_of_ble_eq_true rfl⟩) ⟨k_blind, va_recv hK hP (ci := 4) (q0 := 0) rfl rfl, k_pre hP hK hNn hD⟩ rfl rfl hl.1 rfl (lv_room (Nat.le_of_ble_eq_true rfl)) dX6_comes_2 ⟨Nat.le_of_ble_eq_true rfl, Nat.le_of_ble_eq_true rfl⟩) hS hF (fun H locs hP1 hk hS => ?_)
  have hP : va_P D vwCl (wX6 cs a S L) _ := hP1
  have hD := hDA S L
  refine lv_if_ne (tgt := 13) hx hb dX6_comes_5 (by decide) (fun c5 => ?_) (fun c5 => ?_)
  · have hd := dn_f c5 hd
    refine lv_aload_n hx hb dX6_comes_13 rfl (lv_at hl 0 rfl) ?_
    refine va_get (D := D) (ci := 4) (v := .ref (a 1)) (C := RX6) (T := TX6) (N := 12) hx hb hts (fun w h => List.mem_cons_of_mem _ (List.mem_append_left _ (List.mem_append_right _ h))) hown hK hP 0 rfl rfl 0 (by decide) (hts (.fieldLink RX6 12 "LeastNeed" "now" "LLeastNeed$Valley;") (List.mem_of_getElem? (i := 1) rfl)) (fun _ h9 => h9) rfl dX6_comes_14 ?_
    refine lv_iload_n hx hb dX6_comes_17 rfl (lv_at hl 1 rfl) ?_
    refine lv_aload_n hx hb dX6_comes_18 rfl (lv_at hl 0 rfl) ?_
    refine va_get (D := D) (ci := 4) (v := .ref (a 1)) (C := RX6) (T := TX6) (N := 12) hx hb hts (fun w h => List.mem_cons_of_mem _ (List.mem_append_left _ (List.mem_append_right _ h))) hown hK hP 0 rfl rfl 0 (by decide) (hts (.fieldLink RX6 12 "LeastNeed" "now" "LLeastNeed$Valley;") (List.mem_of_getElem? (i := 1) rfl)) (fun _ h9 => h9) rfl dX6_comes_19 ?_
    refine va_get (D := D) (ci := 3) (v := .ref (a 9)) (C := RX5) (T := TX5) (N := 15) hx hb hts (fun w h => List.mem_cons_of_mem _ (List.mem_append_right _ h)) hown hK hP 1 rfl rfl 7 (by decide) (hts (.fieldLink RX6 121 "LeastNeed$Valley" "holder" "[I") (List.mem_of_getElem? (i := 2) rfl)) (fun _ h9 => h9) rfl dX6_comes_22 ?_
    refine lv_iload_n hx hb dX6_comes_25 rfl (lv_at hl 1 rfl) ?_
    obtain ⟨hi26, hd⟩ := dn_i hd
    refine k_iald (D := D) (k := p1.toNatClampNeg) (by rfl) hx hb hK hP 9 1 rfl rfl hi26 dX6_comes_26 ?_
    obtain ⟨r27, hq27, hd⟩ := dn_b1 hd
    have hPc : va_P D vwCl (wX5 cs (k_wi a 1) (k_wi S 1)) _ := k_sub hP [1, 2, 3, 4, 5, 6, 7, 8, 9, 10, 11, 12, 13, 14, 15, 16] (wcX6_X5_1 cs a S L)
    have hDc : va_D A (wX5 cs (k_wi a 1) (k_wi S 1)) := hD.sub [1, 2, 3, 4, 5, 6, 7, 8, 9, 10, 11, 12, 13, 14, 15, 16] (by decide) (wcX6_X5_1 cs a S L)
    have hF := k_self hDc hS hA
    refine k_run_i (va_runV (As := [.int p1, .int (S 9 p1.toNatClampNeg)]) (rest := []) ⟨hx, hb, hml, hown, hts⟩ (mX5_nextOf l D cs (k_wi a 1) (k_wi S 1) p1 (S 9 p1.toNatClampNeg) r27 hq27 _) (cwV 2 hts gX6_comes_X5_nextOf rfl rfl rfl (by decide +kernel) ⟨Nat.le_of_ble_eq_true rfl, Nat.le_of_ble_eq_true rfl⟩) ⟨k_blind, va_recv hK hP (ci := 3) (q0 := 1) rfl rfl, k_pre hPc hK hNn hDc⟩ rfl rfl hl.1 rfl (lv_room (Nat.le_of_ble_eq_true rfl)) dX6_comes_27 ⟨Nat.le_of_ble_eq_true rfl, Nat.le_of_ble_eq_true rfl⟩) hS hF (fun H locs hP1 hk hS => ?_)
    have hP : va_P D vwCl (wX6 cs a S L) _ := k_back hP hD [1, 2, 3, 4, 5, 6, 7, 8, 9, 10, 11, 12, 13, 14, 15, 16] [0, 17, 18, 19, 20, 21, 22, 23, 24, 25, 26, 27, 28, 29, 30, 31, 32, 33, 34, 35, 36, 37, 38, 39, 40, 41, 42, 43, 44, 45, 46, 47, 48, 49, 50, 51, 52, 53, 54, 55, 56, 57, 58, 59, 60, 61, 62, 63, 64, 65, 66, 67, 68, 69, 70, 71, 72, 73, 74, 75, 76, 77, 78] [0, 63, 64, 65, 66, 67, 68, 69, 70, 71, 72, 73, 74, 75, 76, 77, 78, 1, 2, 3, 4, 5, 6, 7, 8, 9, 10, 11, 12, 13, 14, 15, 16, 17, 18, 19, 20, 21, 22, 23, 24, 25, 26, 27, 28, 29, 30, 31, 32, 33, 34, 35, 36, 37, 38, 39, 40, 41, 42, 43, 44, 45, 46, 47, 48, 49, 50, 51, 52, 53, 54, 55, 56, 57, 58, 59, 60, 61, 62] (wcX6_X5_1 cs a S L) (by decide) hk hP1 (wbX6_X5_1 cs a S L)
    have hD := hDA S L
    obtain ⟨e1, e2⟩ := dn_s2 hd
    exact k_iret hx hb hr hQ hAe e1 (by rw [e2]) hP hS hlocks dX6_comes_30
  · have hd := dn_t c5 hd
    refine lv_aload_n hx hb dX6_comes_8 rfl (lv_at hl 0 rfl) ?_
    obtain ⟨r9, S9, hq9, hd⟩ := dn_b2 hd
    have hF := k_self hD hS hA
    refine k_run_i (va_runV (As := []) (rest := []) ⟨hx, hb, hml, hown, hts⟩ (mX6_refusedAsBad l D cs a S L r9 S9 hq9 _) (cwV 0 hts gX6_comes_X6_refusedAsBad rfl rfl rfl (by decide +kernel) ⟨Nat.le_of_ble_eq_true rfl, Nat.le_of_ble_eq_true rfl⟩) ⟨k_blind, va_recv hK hP (ci := 4) (q0 := 0) rfl rfl, k_pre hP hK hNn hD⟩ rfl rfl hl.1 rfl (lv_room (Nat.le_of_ble_eq_true rfl)) dX6_comes_9 ⟨Nat.le_of_ble_eq_true rfl, Nat.le_of_ble_eq_true rfl⟩) hS hF (fun H locs hP1 hk hS => ?_)
    have hP : va_P D vwCl (wX6 cs a S9 L) _ := hP1
    have hD := hDA S9 L
    obtain ⟨e1, e2⟩ := dn_s2 hd
    exact k_iret hx hb hr hQ hAe e1 (by rw [e2]) hP hS hlocks dX6_comes_12
-- LeastNeed.chain(II)I
set_option maxRecDepth 20000 in
def nX6_chain_l35 (p1 : Int32) (p2 : Int32) (x3_35 : Int32) (x4_35 : Int32) (S_35 : Nat → Nat → Int32) (L : Nat → Nat → Int64) : Option ((Int32 × Int32) ⊕ (Int32 × (Nat → Nat → Int32))) := if p2 ≤ x4_35 then k_up (some (x3_35, S_35)) else if x3_35 = (-1 : Int32) then k_up (some (x3_35, S_35)) else k_b1 (nX5_nextOf (k_wi S_35 1) p1 x3_35) (fun r52 => some (.inl (r52, (x4_35 + (1 : Int32)))))
set_option maxRecDepth 20000 in
def nX6_chain_j17 (S_17 : Nat → Nat → Int32) (L : Nat → Nat → Int64) : Option (Int32 × (Nat → Nat → Int32)) := k_b2 (nX6_refusedAsBad S_17 L) (fun r18 S18 => some (r18, S18))
set_option maxRecDepth 20000 in
def nX6_chain (S : Nat → Nat → Int32) (L : Nat → Nat → Int64) (p1 : Int32) (p2 : Int32) : Option (Int32 × (Nat → Nat → Int32)) := k_b1 (nX6_isThing S L p1) (fun r2 => if r2 = 0 then nX6_chain_j17 S L else k_b1 (nX6_upTo p2 (51 : Int32)) (fun r11 => if r11 = 0 then nX6_chain_j17 S L else if p1 < 0 ∨ 5 ≤ p1.toNatClampNeg then none else k_it (fun st => nX6_chain_l35 p1 p2 st.1 st.2 S L) 1000 ((S 9 p1.toNatClampNeg), (0 : Int32))))
set_option maxHeartbeats 4000000 in
set_option maxRecDepth 100000 in
theorem mX6_chain (l : Launch) (D : va_G) (cs : Nat → ClassId) (a : Nat → Nat) (S : Nat → Nat → Int32) (L : Nat → Nat → Int64) (p1 : Int32) (p2 : Int32) (r9 : Int32) (S9 : (Nat → Nat → Int32)) (hd : nX6_chain S L p1 p2 = some (r9, S9)) : ∀ sz : Nat, Met l yX6_chain wsX6_chain ({ frames := 4, cells := 0, slots := 0, locals := 106 }) (k_Pc D cs [.ref (a 0), .int p1, .int p2] (wX6 cs a S L) sz) (k_Qi D r9 (wX6 cs a S L) (wX6 cs a S9 L) sz) 0 0 (va_A (wX6 cs a S L) sz) := by
  intro sz
  refine Met.ofW (cc := cX6_chain) (maxL := 5) (ret := (some .int)) (by decide) rfl ?_
  intro p e s m args below meth c s₁ B hml hv
  obtain ⟨rfl, hsz, hP, hK, hD0, hNn⟩ := hv
  have hx := B.exec
  have hb := B.bytes
  have hr := B.returns
  have hts := atoms_spec (ws := wsX6_chain) B.pre
  have hown : s.vm.findClass RX6 = some m.cls := findClass_of_methodNamed B.named
  have hlocks := B.notSynchronized
  subst hsz
  obtain ⟨A, hAe⟩ : ∃ A : Nat → Prop, A = va_A (wX6 cs a S L) s.heap.size := ⟨_, rfl⟩
  have hD : va_D A (wX6 cs a S L) := by rw [hAe]; exact hD0.self
  have hA : ∀ q : Nat, s.heap.size ≤ q → A q := fun q h => by rw [hAe]; exact Or.inr h
  have hS : va_S A s.heap s.heap [] := va_S.rf
  have hDA : ∀ (S : Nat → Nat → Int32) (L : Nat → Nat → Int64), va_D A (wX6 cs a S L) := fun S L => k_DA hD rfl
  have hl := lv_entry ([.ref (a 0), .int p1, .int p2]) (n := 5) (Nat.le_of_ble_eq_true rfl)
  rw [lg_entry_eq]
  generalize (lg_sl ([.ref (a 0), .int p1, .int p2]) ++ List.replicate (5 - (lg_sl ([.ref (a 0), .int p1, .int p2])).length) Slot.unset).toArray = ls at hl ⊢
  have hl : lv_has ls 5 [(0, .ref (a 0)), (1, .int p1), (2, .int p2)] := hl
  obtain ⟨Q, hQ⟩ : ∃ Q, Q = MQ below (k_Qi D r9 (wX6 cs a S L) (wX6 cs a S9 L) s.heap.size) ([.ref (a 0), .int p1, .int p2] : List Value).toArray s 0 0 (va_A (wX6 cs a S L) s.heap.size) := ⟨_, rfl⟩
  rw [← hQ]
  have Lo35 : ∀ (n1 : Nat) (x3_35 : Int32) (x4_35 : Int32) (S_35 : Nat → Nat → Int32) (H : Heap) (locs : List Loc) (ls : Array Slot), k_it (fun st => nX6_chain_l35 p1 p2 st.1 st.2 S_35 L) n1 (x3_35, x4_35) = some (r9, S9) → lv_has ls 5 [(0, .ref (a 0)), (1, .int p1), (2, .int p2), (3, .int x3_35), (4, .int x4_35)] → va_P D vwCl (wX6 cs a S_35 L) H → va_S A s.heap H locs → W p l e (headSpec wsX6_chain ({ frames := 4, cells := 0, slots := 0, locals := 106 })).room s m ([.ref (a 0), .int p1, .int p2] : List Value).toArray below meth c H locs 0 0 Q (F0 m 35 ls []) := by
    intro n1
    induction n1 with
    | zero => intro x3_35 x4_35 S_35 H locs ls hd; exact dn_it0 hd
    | succ n1 ih1 =>
      intro x3_35 x4_35 S_35 H locs ls hd hl hP hS
      have hD := hDA S_35 L
      obtain ⟨y1, hd, hy1⟩ := dn_it hd
      have hd : nX6_chain_l35 p1 p2 x3_35 x4_35 S_35 L = some y1 := hd
      unfold nX6_chain_l35 at hd
      refine lv_iload hx hb dX6_chain_35 (lv_at hl 4 rfl) ?_
      refine lv_iload_n hx hb dX6_chain_37 rfl (lv_at hl 2 rfl) ?_
      refine lv_icmp_ge (tgt := 62) hx hb dX6_chain_38 (by decide) (fun c38 => ?_) (fun c38 => ?_)
      · have hd := dn_t c38 hd
        have hd := dn_up hd hy1
        refine lv_iload_n hx hb dX6_chain_62 rfl (lv_at hl 3 rfl) ?_
        obtain ⟨e1, e2⟩ := dn_s2 hd
        exact k_iret hx hb hr hQ hAe e1 (by rw [e2]) hP hS hlocks dX6_chain_63
      · have hd := dn_f c38 hd
        refine lv_iload_n hx hb dX6_chain_41 rfl (lv_at hl 3 rfl) ?_
        refine lv_iconst (v := (-1 : Int32)) hx hb dX6_chain_42 (by decide) ?_
        refine lv_icmp_eq (tgt := 62) hx hb dX6_chain_43 (by decide) (fun c43 => ?_) (fun c43 => ?_)
        · have hd := dn_t c43 hd
          have hd := dn_up hd hy1
          refine lv_iload_n hx hb dX6_chain_62 rfl (lv_at hl 3 rfl) ?_
          obtain ⟨e1, e2⟩ := dn_s2 hd
          exact k_iret hx hb hr hQ hAe e1 (by rw [e2]) hP hS hlocks dX6_chain_63
        · have hd := dn_f c43 hd
          refine lv_aload_n hx hb dX6_chain_46 rfl (lv_at hl 0 rfl) ?_
          refine va_get (D := D) (ci := 4) (v := .ref (a 1)) (C := RX6) (T := TX6) (N := 12) hx hb hts (fun w h => List.mem_cons_of_mem _ (List.mem_append_left _ (List.mem_append_right _ h))) hown hK hP 0 rfl rfl 0 (by decide) (hts (.fieldLink RX6 12 "LeastNeed" "now" "LLeastNeed$Valley;") (List.mem_of_getElem? (i := 1) rfl)) (fun _ h9 => h9) rfl dX6_chain_47 ?_
          refine lv_iload_n hx hb dX6_chain_50 rfl (lv_at hl 1 rfl) ?_
          refine lv_iload_n hx hb dX6_chain_51 rfl (lv_at hl 3 rfl) ?_
          obtain ⟨r52, hq52, hd⟩ := dn_b1 hd
          have hPc : va_P D vwCl (wX5 cs (k_wi a 1) (k_wi S_35 1)) _ := k_sub hP [1, 2, 3, 4, 5, 6, 7, 8, 9, 10, 11, 12, 13, 14, 15, 16] (wcX6_X5_1 cs a S_35 L)
          have hDc : va_D A (wX5 cs (k_wi a 1) (k_wi S_35 1)) := hD.sub [1, 2, 3, 4, 5, 6, 7, 8, 9, 10, 11, 12, 13, 14, 15, 16] (by decide) (wcX6_X5_1 cs a S_35 L)
          have hF := k_self hDc hS hA
          refine k_run_i (va_runV (As := [.int p1, .int x3_35]) (rest := []) ⟨hx, hb, hml, hown, hts⟩ (mX5_nextOf l D cs (k_wi a 1) (k_wi S_35 1) p1 x3_35 r52 hq52 _) (cwV 2 hts gX6_chain_X5_nextOf rfl rfl rfl (by decide +kernel) ⟨Nat.le_of_ble_eq_true rfl, Nat.le_of_ble_eq_true rfl⟩) ⟨k_blind, va_recv hK hP (ci := 3) (q0 := 1) rfl rfl, k_pre hPc hK hNn hDc⟩ rfl rfl hl.1 rfl (lv_room (Nat.le_of_ble_eq_true rfl)) dX6_chain_52 ⟨Nat.le_of_ble_eq_true rfl, Nat.le_of_ble_eq_true rfl⟩) hS hF (fun H locs hP1 hk hS => ?_)
          have hP : va_P D vwCl (wX6 cs a S_35 L) _ := k_back hP hD [1, 2, 3, 4, 5, 6, 7, 8, 9, 10, 11, 12, 13, 14, 15, 16] [0, 17, 18, 19, 20, 21, 22, 23, 24, 25, 26, 27, 28, 29, 30, 31, 32, 33, 34, 35, 36, 37, 38, 39, 40, 41, 42, 43, 44, 45, 46, 47, 48, 49, 50, 51, 52, 53, 54, 55, 56, 57, 58, 59, 60, 61, 62, 63, 64, 65, 66, 67, 68, 69, 70, 71, 72, 73, 74, 75, 76, 77, 78] [0, 63, 64, 65, 66, 67, 68, 69, 70, 71, 72, 73, 74, 75, 76, 77, 78, 1, 2, 3, 4, 5, 6, 7, 8, 9, 10, 11, 12, 13, 14, 15, 16, 17, 18, 19, 20, 21, 22, 23, 24, 25, 26, 27, 28, 29, 30, 31, 32, 33, 34, 35, 36, 37, 38, 39, 40, 41, 42, 43, 44, 45, 46, 47, 48, 49, 50, 51, 52, 53, 54, 55, 56, 57, 58, 59, 60, 61, 62] (wcX6_X5_1 cs a S_35 L) (by decide) hk hP1 (wbX6_X5_1 cs a S_35 L)
          have hD := hDA S_35 L
          refine lv_istore_n (lv' := [(3, .int r52), (0, .ref (a 0)), (1, .int p1), (2, .int p2), (4, .int x4_35)]) hx hb dX6_chain_55 rfl hl (by decide) rfl (fun ls hl => ?_)
          refine lv_iinc (v := x4_35 + (1 : Int32)) (lv' := [(4, .int (x4_35 + (1 : Int32))), (3, .int r52), (0, .ref (a 0)), (1, .int p1), (2, .int p2)]) hx hb dX6_chain_56 hl (k := 4) rfl rfl (by decide) rfl (fun ls hl => ?_)
          refine lv_goto (tgt := 35) hx hb dX6_chain_59 (by decide) ?_
          exact ih1 r52 (x4_35 + (1 : Int32)) S_35 _ _ _ (dn_bk hd hy1) (lv_sub hl [2, 3, 4, 1, 0] rfl) hP hS
  have Jo17 : ∀ (S_17 : Nat → Nat → Int32) (H : Heap) (locs : List Loc) (ls : Array Slot), nX6_chain_j17 S_17 L = some (r9, S9) → lv_has ls 5 [(0, .ref (a 0))] → va_P D vwCl (wX6 cs a S_17 L) H → va_S A s.heap H locs → W p l e (headSpec wsX6_chain ({ frames := 4, cells := 0, slots := 0, locals := 106 })).room s m ([.ref (a 0), .int p1, .int p2] : List Value).toArray below meth c H locs 0 0 Q (F0 m 17 ls []) := by
    intro S_17 H locs ls hd hl hP hS
    have hD := hDA S_17 L
    unfold nX6_chain_j17 at hd
    refine lv_aload_n hx hb dX6_chain_17 rfl (lv_at hl 0 rfl) ?_
    obtain ⟨r18, S18, hq18, hd⟩ := dn_b2 hd
    have hF := k_self hD hS hA
    refine k_run_i (va_runV (As := []) (rest := []) ⟨hx, hb, hml, hown, hts⟩ (mX6_refusedAsBad l D cs a S_17 L r18 S18 hq18 _) (cwV 0 hts gX6_chain_X6_refusedAsBad rfl rfl rfl (by decide +kernel) ⟨Nat.le_of_ble_eq_true rfl, Nat.le_of_ble_eq_true rfl⟩) ⟨k_blind, va_recv hK hP (ci := 4) (q0 := 0) rfl rfl, k_pre hP hK hNn hD⟩ rfl rfl hl.1 rfl (lv_room (Nat.le_of_ble_eq_true rfl)) dX6_chain_18 ⟨Nat.le_of_ble_eq_true rfl, Nat.le_of_ble_eq_true rfl⟩) hS hF (fun H locs hP1 hk hS => ?_)
    have hP : va_P D vwCl (wX6 cs a S18 L) _ := hP1
    have hD := hDA S18 L
    obtain ⟨e1, e2⟩ := dn_s2 hd
    exact k_iret hx hb hr hQ hAe e1 (by rw [e2]) hP hS hlocks dX6_chain_21
  unfold nX6_chain at hd
  refine lv_aload_n hx hb dX6_chain_0 rfl (lv_at hl 0 rfl) ?_
  refine lv_iload_n hx hb dX6_chain_1 rfl (lv_at hl 1 rfl) ?_
  obtain ⟨r2, hq2, hd⟩ := dn_b1 hd
  have hF := k_self hD hS hA
  refine k_run_i (va_runV (As := [.int p1]) (rest := []) ⟨hx, hb, hml, hown, hts⟩ (mX6_isThing l D cs a S L p1 r2 hq2 _) (cwV 1 hts gX6_chain_X6_isThing rfl rfl rfl (by decide +kernel) ⟨Nat.le_of_ble_eq_true rfl, Nat.le_of_ble_eq_true rfl⟩) ⟨k_blind, va_recv hK hP (ci := 4) (q0 := 0) rfl rfl, k_pre hP hK hNn hD⟩ rfl rfl hl.1 rfl (lv_room (Nat.le_of_ble_eq_true rfl)) dX6_chain_2 ⟨Nat.le_of_ble_eq_true rfl, Nat.le_of_ble_eq_true rfl⟩) hS hF (fun H locs hP1 hk hS => ?_)
  have hP : va_P D vwCl (wX6 cs a S L) _ := hP1
  have hD := hDA S L
  refine lv_if_eq (tgt := 17) hx hb dX6_chain_5 (by decide) (fun c5 => ?_) (fun c5 => ?_)
  · have hd := dn_t c5 hd
    exact Jo17 S _ _ _ hd (lv_sub hl [0] rfl) hP hS
  · have hd := dn_f c5 hd
    refine lv_iload_n hx hb dX6_chain_8 rfl (lv_at hl 2 rfl) ?_
    refine lv_bipush (v := (51 : Int32)) hx hb dX6_chain_9 (by decide) ?_
    obtain ⟨r11, hq11, hd⟩ := dn_b1 hd
    have hPc := k_P0 hP
    have hDc : va_D A ([] : va_W) := k_D0
    have hF := k_self hDc hS hA
    refine k_run_i (va_runS (As := [.int p2, .int (51 : Int32)]) (rest := []) ⟨hx, hb, hml, hown, hts⟩ (mX6_upTo l D cs  p2 (51 : Int32) r11 hq11 _) (va_cwS 2 hts gX6_chain_X6_upTo rfl rfl rfl (by decide +kernel) ⟨Nat.le_of_ble_eq_true rfl, Nat.le_of_ble_eq_true rfl⟩) ⟨k_blind, k_pre hPc hK hNn hDc⟩ rfl rfl hl.1 rfl (lv_room (Nat.le_of_ble_eq_true rfl)) dX6_chain_11 ⟨Nat.le_of_ble_eq_true rfl, Nat.le_of_ble_eq_true rfl⟩) hS hF (fun H locs hP1 hk hS => ?_)
    have hP : va_P D vwCl (wX6 cs a S L) _ := k_keep hP hk
    refine lv_if_ne (tgt := 22) hx hb dX6_chain_14 (by decide) (fun c14 => ?_) (fun c14 => ?_)
    · have hd := dn_f c14 hd
      refine lv_aload_n hx hb dX6_chain_22 rfl (lv_at hl 0 rfl) ?_
      refine va_get (D := D) (ci := 4) (v := .ref (a 1)) (C := RX6) (T := TX6) (N := 12) hx hb hts (fun w h => List.mem_cons_of_mem _ (List.mem_append_left _ (List.mem_append_right _ h))) hown hK hP 0 rfl rfl 0 (by decide) (hts (.fieldLink RX6 12 "LeastNeed" "now" "LLeastNeed$Valley;") (List.mem_of_getElem? (i := 1) rfl)) (fun _ h9 => h9) rfl dX6_chain_23 ?_
      refine va_get (D := D) (ci := 3) (v := .ref (a 9)) (C := RX5) (T := TX5) (N := 15) hx hb hts (fun w h => List.mem_cons_of_mem _ (List.mem_append_right _ h)) hown hK hP 1 rfl rfl 7 (by decide) (hts (.fieldLink RX6 121 "LeastNeed$Valley" "holder" "[I") (List.mem_of_getElem? (i := 2) rfl)) (fun _ h9 => h9) rfl dX6_chain_26 ?_
      refine lv_iload_n hx hb dX6_chain_29 rfl (lv_at hl 1 rfl) ?_
      obtain ⟨hi30, hd⟩ := dn_i hd
      refine k_iald (D := D) (k := p1.toNatClampNeg) (by rfl) hx hb hK hP 9 1 rfl rfl hi30 dX6_chain_30 ?_
      refine lv_istore_n (lv' := [(3, .int (S 9 p1.toNatClampNeg)), (0, .ref (a 0)), (1, .int p1), (2, .int p2)]) hx hb dX6_chain_31 rfl hl (by decide) rfl (fun ls hl => ?_)
      refine lv_iconst (v := (0 : Int32)) hx hb dX6_chain_32 (by decide) ?_
      refine lv_istore (lv' := [(4, .int (0 : Int32)), (3, .int (S 9 p1.toNatClampNeg)), (0, .ref (a 0)), (1, .int p1), (2, .int p2)]) hx hb dX6_chain_33 hl (by decide) rfl (fun ls hl => ?_)
      exact Lo35 1000 (S 9 p1.toNatClampNeg) (0 : Int32) S _ _ _ hd (lv_sub hl [2, 3, 4, 1, 0] rfl) hP hS
    · have hd := dn_t c14 hd
      exact Jo17 S _ _ _ hd (lv_sub hl [0] rfl) hP hS
-- LeastNeed.placeIn([III)I
set_option maxRecDepth 20000 in
def nX6_placeIn_l2 (N : Nat) (p1 : Int32) (p2 : Int32) (x3_2 : Int32) (S : Nat → Nat → Int32) : Option ((Int32) ⊕ (Int32)) := if p1 ≤ x3_2 then k_up (some (-1 : Int32)) else if (Int32.ofNat N) ≤ x3_2 then k_up (some (-1 : Int32)) else if x3_2 < 0 ∨ N ≤ x3_2.toNatClampNeg then none else if (S 0 x3_2.toNatClampNeg) = p2 then k_up (some x3_2) else some (.inl (x3_2 + (1 : Int32)))
set_option maxRecDepth 20000 in
def nX6_placeIn (N : Nat) (S : Nat → Nat → Int32) (p1 : Int32) (p2 : Int32) : Option (Int32) := k_it (fun st => nX6_placeIn_l2 N p1 p2 st S) 1000 (0 : Int32)
set_option maxHeartbeats 4000000 in
set_option maxRecDepth 100000 in
theorem mX6_placeIn (l : Launch) (D : va_G) (cs : Nat → ClassId) (a : Nat → Nat) (N : Nat) (S : Nat → Nat → Int32) (p1 : Int32) (p2 : Int32) (r9 : Int32) (hd : nX6_placeIn N S p1 p2 = some r9) : ∀ sz : Nat, Met l yX6_placeIn wsX6_placeIn ({ frames := 0, cells := 0, slots := 0, locals := 0 }) (k_Pc D cs [.ref (a 0), .int p1, .int p2] (wAI cs N a S) sz) (k_Qi D r9 (wAI cs N a S) (wAI cs N a S) sz) 0 0 (va_A (wAI cs N a S) sz) := by
  intro sz
  refine Met.ofW (cc := cX6_placeIn) (maxL := 4) (ret := (some .int)) (by decide) rfl ?_
  intro p e s m args below meth c s₁ B hml hv
  obtain ⟨rfl, hsz, hP, hK, hD0, hNn⟩ := hv
  have hx := B.exec
  have hb := B.bytes
  have hr := B.returns
  have hts := atoms_spec (ws := wsX6_placeIn) B.pre
  have hown : s.vm.findClass RX6 = some m.cls := findClass_of_methodNamed B.named
  have hlocks := B.notSynchronized
  subst hsz
  obtain ⟨A, hAe⟩ : ∃ A : Nat → Prop, A = va_A (wAI cs N a S) s.heap.size := ⟨_, rfl⟩
  have hD : va_D A (wAI cs N a S) := by rw [hAe]; exact hD0.self
  have hA : ∀ q : Nat, s.heap.size ≤ q → A q := fun q h => by rw [hAe]; exact Or.inr h
  have hS : va_S A s.heap s.heap [] := va_S.rf
  have hDA : ∀ (S : Nat → Nat → Int32), va_D A (wAI cs N a S) := fun S => k_DA hD rfl
  have hl := lv_entry ([.ref (a 0), .int p1, .int p2]) (n := 4) (Nat.le_of_ble_eq_true rfl)
  rw [lg_entry_eq]
  generalize (lg_sl ([.ref (a 0), .int p1, .int p2]) ++ List.replicate (4 - (lg_sl ([.ref (a 0), .int p1, .int p2])).length) Slot.unset).toArray = ls at hl ⊢
  have hl : lv_has ls 4 [(0, .ref (a 0)), (1, .int p1), (2, .int p2)] := hl
  obtain ⟨Q, hQ⟩ : ∃ Q, Q = MQ below (k_Qi D r9 (wAI cs N a S) (wAI cs N a S) s.heap.size) ([.ref (a 0), .int p1, .int p2] : List Value).toArray s 0 0 (va_A (wAI cs N a S) s.heap.size) := ⟨_, rfl⟩
  rw [← hQ]
  have Lo2 : ∀ (n1 : Nat) (x3_2 : Int32) (H : Heap) (locs : List Loc) (ls : Array Slot), k_it (fun st => nX6_placeIn_l2 N p1 p2 st S) n1 x3_2 = some r9 → lv_has ls 4 [(0, .ref (a 0)), (1, .int p1), (2, .int p2), (3, .int x3_2)] → va_P D vwCl (wAI cs N a S) H → va_S A s.heap H locs → W p l e (headSpec wsX6_placeIn ({ frames := 0, cells := 0, slots := 0, locals := 0 })).room s m ([.ref (a 0), .int p1, .int p2] : List Value).toArray below meth c H locs 0 0 Q (F0 m 2 ls []) := by
    intro n1
    induction n1 with
    | zero => intro x3_2 H locs ls hd; exact dn_it0 hd
    | succ n1 ih1 =>
      intro x3_2 H locs ls hd hl hP hS
      have hD := hDA S
      obtain ⟨y1, hd, hy1⟩ := dn_it hd
      have hd : nX6_placeIn_l2 N p1 p2 x3_2 S = some y1 := hd
      unfold nX6_placeIn_l2 at hd
      refine lv_iload_n hx hb dX6_placeIn_2 rfl (lv_at hl 3 rfl) ?_
      refine lv_iload_n hx hb dX6_placeIn_3 rfl (lv_at hl 1 rfl) ?_
      refine lv_icmp_ge (tgt := 28) hx hb dX6_placeIn_4 (by decide) (fun c4 => ?_) (fun c4 => ?_)
      · have hd := dn_t c4 hd
        have hd := dn_up hd hy1
        refine lv_iconst (v := (-1 : Int32)) hx hb dX6_placeIn_28 (by decide) ?_
        have e1 := dn_s1 hd
        exact k_iret hx hb hr hQ hAe e1 rfl hP hS hlocks dX6_placeIn_29
      · have hd := dn_f c4 hd
        refine lv_iload_n hx hb dX6_placeIn_7 rfl (lv_at hl 3 rfl) ?_
        refine lv_aload_n hx hb dX6_placeIn_8 rfl (lv_at hl 0 rfl) ?_
        refine va_alen (D := D) (v := Int32.ofNat N) hx hb hK hP 0 1 rfl rfl rfl dX6_placeIn_9 ?_
        refine lv_icmp_ge (tgt := 28) hx hb dX6_placeIn_10 (by decide) (fun c10 => ?_) (fun c10 => ?_)
        · have hd := dn_t c10 hd
          have hd := dn_up hd hy1
          refine lv_iconst (v := (-1 : Int32)) hx hb dX6_placeIn_28 (by decide) ?_
          have e1 := dn_s1 hd
          exact k_iret hx hb hr hQ hAe e1 rfl hP hS hlocks dX6_placeIn_29
        · have hd := dn_f c10 hd
          refine lv_aload_n hx hb dX6_placeIn_13 rfl (lv_at hl 0 rfl) ?_
          refine lv_iload_n hx hb dX6_placeIn_14 rfl (lv_at hl 3 rfl) ?_
          obtain ⟨hi15, hd⟩ := dn_i hd
          refine k_iald (D := D) (k := x3_2.toNatClampNeg) (by rfl) hx hb hK hP 0 1 rfl rfl hi15 dX6_placeIn_15 ?_
          refine lv_iload_n hx hb dX6_placeIn_16 rfl (lv_at hl 2 rfl) ?_
          refine lv_icmp_ne (tgt := 22) hx hb dX6_placeIn_17 (by decide) (fun c17 => ?_) (fun c17 => ?_)
          · have hd := dn_f c17 hd
            refine lv_iinc (v := x3_2 + (1 : Int32)) (lv' := [(3, .int (x3_2 + (1 : Int32))), (0, .ref (a 0)), (1, .int p1), (2, .int p2)]) hx hb dX6_placeIn_22 hl (k := 3) rfl rfl (by decide) rfl (fun ls hl => ?_)
            refine lv_goto (tgt := 2) hx hb dX6_placeIn_25 (by decide) ?_
            exact ih1 (x3_2 + (1 : Int32)) _ _ _ (dn_bk hd hy1) (lv_sub hl [1, 2, 3, 0] rfl) hP hS
          · have hd := dn_t c17 hd
            have hd := dn_up hd hy1
            refine lv_iload_n hx hb dX6_placeIn_20 rfl (lv_at hl 3 rfl) ?_
            have e1 := dn_s1 hd
            exact k_iret hx hb hr hQ hAe e1 rfl hP hS hlocks dX6_placeIn_21
  unfold nX6_placeIn at hd
  refine lv_iconst (v := (0 : Int32)) hx hb dX6_placeIn_0 (by decide) ?_
  refine lv_istore_n (lv' := [(3, .int (0 : Int32)), (0, .ref (a 0)), (1, .int p1), (2, .int p2)]) hx hb dX6_placeIn_1 rfl hl (by decide) rfl (fun ls hl => ?_)
  exact Lo2 1000 (0 : Int32) _ _ _ hd (lv_sub hl [1, 2, 3, 0] rfl) hP hS
-- LeastNeed.ring(II)I
set_option maxRecDepth 20000 in
def nX6_ring_j93 (p2 : Int32) (x3_93 : Int32) (x5_93 : Int32) (S_93 : Nat → Nat → Int32) (L : Nat → Nat → Int64) : Option (Int32 × (Nat → Nat → Int32)) := if p2 = 0 then some (x3_93, S_93) else if x5_93 = (-1 : Int32) then some ((0 : Int32), S_93) else some ((x3_93 - x5_93), S_93)
set_option maxRecDepth 20000 in
def nX6_ring_l37 (p1 : Int32) (p2 : Int32) (x3_37 : Int32) (x4_37 : Int32) (x5_37 : Int32) (S_37 : Nat → Nat → Int32) (L : Nat → Nat → Int64) : Option ((Int32 × Int32 × Int32 × (Nat → Nat → Int32)) ⊕ (Int32 × (Nat → Nat → Int32))) := if (7 : Int32) ≤ x3_37 then k_up (nX6_ring_j93 p2 x3_37 x5_37 S_37 L) else if x4_37 = (-1 : Int32) then k_up (nX6_ring_j93 p2 x3_37 x5_37 S_37 L) else if x5_37 = (-1 : Int32) then if x3_37 < 0 ∨ 8 ≤ x3_37.toNatClampNeg then none else k_b1 (nX5_nextOf (k_wi (k_w S_37 77 x3_37.toNatClampNeg x4_37) 1) p1 x4_37) (fun r73 => k_b1 (nX6_placeIn 8 (k_wi (k_w S_37 77 x3_37.toNatClampNeg x4_37) 77) (x3_37 + (1 : Int32)) r73) (fun r85 => some (.inl ((x3_37 + (1 : Int32)), r73, r85, (k_w S_37 77 x3_37.toNatClampNeg x4_37))))) else k_up (nX6_ring_j93 p2 x3_37 x5_37 S_37 L)
set_option maxRecDepth 20000 in
def nX6_ring_j16 (S_16 : Nat → Nat → Int32) (L : Nat → Nat → Int64) : Option (Int32 × (Nat → Nat → Int32)) := k_b2 (nX6_refusedAsBad S_16 L) (fun r17 S17 => some (r17, S17))
set_option maxRecDepth 20000 in
def nX6_ring (S : Nat → Nat → Int32) (L : Nat → Nat → Int64) (p1 : Int32) (p2 : Int32) : Option (Int32 × (Nat → Nat → Int32)) := k_b1 (nX6_isThing S L p1) (fun r2 => if r2 = 0 then nX6_ring_j16 S L else k_b1 (nX6_upTo p2 (2 : Int32)) (fun r10 => if r10 = 0 then nX6_ring_j16 S L else if p1 < 0 ∨ 5 ≤ p1.toNatClampNeg then none else k_it (fun st => nX6_ring_l37 p1 p2 st.1 st.2.1 st.2.2.1 st.2.2.2 L) 1000 ((0 : Int32), (S 9 p1.toNatClampNeg), (-1 : Int32), S)))
set_option maxHeartbeats 4000000 in
set_option maxRecDepth 100000 in
theorem mX6_ring (l : Launch) (D : va_G) (cs : Nat → ClassId) (a : Nat → Nat) (S : Nat → Nat → Int32) (L : Nat → Nat → Int64) (p1 : Int32) (p2 : Int32) (r9 : Int32) (S9 : (Nat → Nat → Int32)) (hd : nX6_ring S L p1 p2 = some (r9, S9)) : ∀ sz : Nat, Met l yX6_ring wsX6_ring ({ frames := 4, cells := 0, slots := 0, locals := 106 }) (k_Pc D cs [.ref (a 0), .int p1, .int p2] (wX6 cs a S L) sz) (k_Qi D r9 (wX6 cs a S L) (wX6 cs a S9 L) sz) 0 0 (va_A (wX6 cs a S L) sz) := by
  intro sz
  refine Met.ofW (cc := cX6_ring) (maxL := 6) (ret := (some .int)) (by decide) rfl ?_
  intro p e s m args below meth c s₁ B hml hv
  obtain ⟨rfl, hsz, hP, hK, hD0, hNn⟩ := hv
  have hx := B.exec
  have hb := B.bytes
  have hr := B.returns
  have hts := atoms_spec (ws := wsX6_ring) B.pre
  have hown : s.vm.findClass RX6 = some m.cls := findClass_of_methodNamed B.named
  have hlocks := B.notSynchronized
  subst hsz
  obtain ⟨A, hAe⟩ : ∃ A : Nat → Prop, A = va_A (wX6 cs a S L) s.heap.size := ⟨_, rfl⟩
  have hD : va_D A (wX6 cs a S L) := by rw [hAe]; exact hD0.self
  have hA : ∀ q : Nat, s.heap.size ≤ q → A q := fun q h => by rw [hAe]; exact Or.inr h
  have hS : va_S A s.heap s.heap [] := va_S.rf
  have hDA : ∀ (S : Nat → Nat → Int32) (L : Nat → Nat → Int64), va_D A (wX6 cs a S L) := fun S L => k_DA hD rfl
  have hl := lv_entry ([.ref (a 0), .int p1, .int p2]) (n := 6) (Nat.le_of_ble_eq_true rfl)
  rw [lg_entry_eq]
  generalize (lg_sl ([.ref (a 0), .int p1, .int p2]) ++ List.replicate (6 - (lg_sl ([.ref (a 0), .int p1, .int p2])).length) Slot.unset).toArray = ls at hl ⊢
  have hl : lv_has ls 6 [(0, .ref (a 0)), (1, .int p1), (2, .int p2)] := hl
  obtain ⟨Q, hQ⟩ : ∃ Q, Q = MQ below (k_Qi D r9 (wX6 cs a S L) (wX6 cs a S9 L) s.heap.size) ([.ref (a 0), .int p1, .int p2] : List Value).toArray s 0 0 (va_A (wX6 cs a S L) s.heap.size) := ⟨_, rfl⟩
  rw [← hQ]
  have Jo93 : ∀ (x3_93 : Int32) (x5_93 : Int32) (S_93 : Nat → Nat → Int32) (H : Heap) (locs : List Loc) (ls : Array Slot), nX6_ring_j93 p2 x3_93 x5_93 S_93 L = some (r9, S9) → lv_has ls 6 [(2, .int p2), (3, .int x3_93), (5, .int x5_93)] → va_P D vwCl (wX6 cs a S_93 L) H → va_S A s.heap H locs → W p l e (headSpec wsX6_ring ({ frames := 4, cells := 0, slots := 0, locals := 106 })).room s m ([.ref (a 0), .int p1, .int p2] : List Value).toArray below meth c H locs 0 0 Q (F0 m 93 ls []) := by
    intro x3_93 x5_93 S_93 H locs ls hd hl hP hS
    have hD := hDA S_93 L
    unfold nX6_ring_j93 at hd
    refine lv_iload_n hx hb dX6_ring_93 rfl (lv_at hl 0 rfl) ?_
    refine lv_if_ne (tgt := 99) hx hb dX6_ring_94 (by decide) (fun c94 => ?_) (fun c94 => ?_)
    · have hd := dn_f c94 hd
      refine lv_iload hx hb dX6_ring_99 (lv_at hl 2 rfl) ?_
      refine lv_iconst (v := (-1 : Int32)) hx hb dX6_ring_101 (by decide) ?_
      refine lv_icmp_ne (tgt := 109) hx hb dX6_ring_102 (by decide) (fun c102 => ?_) (fun c102 => ?_)
      · have hd := dn_f c102 hd
        refine lv_iload_n hx hb dX6_ring_109 rfl (lv_at hl 1 rfl) ?_
        refine lv_iload hx hb dX6_ring_110 (lv_at hl 2 rfl) ?_
        refine lv_isub hx hb dX6_ring_112 ?_
        obtain ⟨e1, e2⟩ := dn_s2 hd
        exact k_iret hx hb hr hQ hAe e1 (by rw [e2]) hP hS hlocks dX6_ring_113
      · have hd := dn_t c102 hd
        refine lv_iconst (v := (0 : Int32)) hx hb dX6_ring_105 (by decide) ?_
        refine lv_goto (tgt := 113) hx hb dX6_ring_106 (by decide) ?_
        obtain ⟨e1, e2⟩ := dn_s2 hd
        exact k_iret hx hb hr hQ hAe e1 (by rw [e2]) hP hS hlocks dX6_ring_113
    · have hd := dn_t c94 hd
      refine lv_iload_n hx hb dX6_ring_97 rfl (lv_at hl 1 rfl) ?_
      obtain ⟨e1, e2⟩ := dn_s2 hd
      exact k_iret hx hb hr hQ hAe e1 (by rw [e2]) hP hS hlocks dX6_ring_98
  have Lo37 : ∀ (n1 : Nat) (x3_37 : Int32) (x4_37 : Int32) (x5_37 : Int32) (S_37 : Nat → Nat → Int32) (H : Heap) (locs : List Loc) (ls : Array Slot), k_it (fun st => nX6_ring_l37 p1 p2 st.1 st.2.1 st.2.2.1 st.2.2.2 L) n1 (x3_37, x4_37, x5_37, S_37) = some (r9, S9) → lv_has ls 6 [(0, .ref (a 0)), (1, .int p1), (2, .int p2), (3, .int x3_37), (4, .int x4_37), (5, .int x5_37)] → va_P D vwCl (wX6 cs a S_37 L) H → va_S A s.heap H locs → W p l e (headSpec wsX6_ring ({ frames := 4, cells := 0, slots := 0, locals := 106 })).room s m ([.ref (a 0), .int p1, .int p2] : List Value).toArray below meth c H locs 0 0 Q (F0 m 37 ls []) := by
    intro n1
    induction n1 with
    | zero => intro x3_37 x4_37 x5_37 S_37 H locs ls hd; exact dn_it0 hd
    | succ n1 ih1 =>
      intro x3_37 x4_37 x5_37 S_37 H locs ls hd hl hP hS
      have hD := hDA S_37 L
      obtain ⟨y1, hd, hy1⟩ := dn_it hd
      have hd : nX6_ring_l37 p1 p2 x3_37 x4_37 x5_37 S_37 L = some y1 := hd
      unfold nX6_ring_l37 at hd
      refine lv_iload_n hx hb dX6_ring_37 rfl (lv_at hl 3 rfl) ?_
      refine lv_bipush (v := (7 : Int32)) hx hb dX6_ring_38 (by decide) ?_
      refine lv_icmp_ge (tgt := 93) hx hb dX6_ring_40 (by decide) (fun c40 => ?_) (fun c40 => ?_)
      · have hd := dn_t c40 hd
        have hd := dn_up hd hy1
        exact Jo93 x3_37 x5_37 S_37 _ _ _ hd (lv_sub hl [2, 3, 5] rfl) hP hS
      · have hd := dn_f c40 hd
        refine lv_iload hx hb dX6_ring_43 (lv_at hl 4 rfl) ?_
        refine lv_iconst (v := (-1 : Int32)) hx hb dX6_ring_45 (by decide) ?_
        refine lv_icmp_eq (tgt := 93) hx hb dX6_ring_46 (by decide) (fun c46 => ?_) (fun c46 => ?_)
        · have hd := dn_t c46 hd
          have hd := dn_up hd hy1
          exact Jo93 x3_37 x5_37 S_37 _ _ _ hd (lv_sub hl [2, 3, 5] rfl) hP hS
        · have hd := dn_f c46 hd
          refine lv_iload hx hb dX6_ring_49 (lv_at hl 5 rfl) ?_
          refine lv_iconst (v := (-1 : Int32)) hx hb dX6_ring_51 (by decide) ?_
          refine lv_icmp_ne (tgt := 93) hx hb dX6_ring_52 (by decide) (fun c52 => ?_) (fun c52 => ?_)
          · have hd := dn_f c52 hd
            have hd := dn_up hd hy1
            exact Jo93 x3_37 x5_37 S_37 _ _ _ hd (lv_sub hl [2, 3, 5] rfl) hP hS
          · have hd := dn_t c52 hd
            refine lv_aload_n hx hb dX6_ring_55 rfl (lv_at hl 0 rfl) ?_
            refine va_get (D := D) (ci := 4) (v := .ref (a 77)) (C := RX6) (T := TX6) (N := 12) hx hb hts (fun w h => List.mem_cons_of_mem _ (List.mem_append_left _ (List.mem_append_right _ h))) hown hK hP 0 rfl rfl 8 (by decide) (hts (.fieldLink RX6 48 "LeastNeed" "order" "[I") (List.mem_of_getElem? (i := 3) rfl)) (fun _ h9 => h9) rfl dX6_ring_56 ?_
            refine lv_iload_n hx hb dX6_ring_59 rfl (lv_at hl 3 rfl) ?_
            refine lv_iload hx hb dX6_ring_60 (lv_at hl 4 rfl) ?_
            obtain ⟨hi62, hd⟩ := dn_i hd
            refine k_iast (D := D) (k := x3_37.toNatClampNeg) (by rfl) hx hb hK hP hD hS 77 1 rfl rfl hi62 dX6_ring_62 (fun H locs hP hD hS => ?_)
            have hP : va_P D vwCl (wX6 cs a (k_w S_37 77 x3_37.toNatClampNeg x4_37) L) _ := k_eq hP (wsX6_a77 cs a S_37 L x3_37.toNatClampNeg x4_37)
            have hD := hDA (k_w S_37 77 x3_37.toNatClampNeg x4_37) L
            refine lv_iinc (v := x3_37 + (1 : Int32)) (lv' := [(3, .int (x3_37 + (1 : Int32))), (0, .ref (a 0)), (1, .int p1), (2, .int p2), (4, .int x4_37), (5, .int x5_37)]) hx hb dX6_ring_63 hl (k := 3) rfl rfl (by decide) rfl (fun ls hl => ?_)
            refine lv_aload_n hx hb dX6_ring_66 rfl (lv_at hl 1 rfl) ?_
            refine va_get (D := D) (ci := 4) (v := .ref (a 1)) (C := RX6) (T := TX6) (N := 12) hx hb hts (fun w h => List.mem_cons_of_mem _ (List.mem_append_left _ (List.mem_append_right _ h))) hown hK hP 0 rfl rfl 0 (by decide) (hts (.fieldLink RX6 12 "LeastNeed" "now" "LLeastNeed$Valley;") (List.mem_of_getElem? (i := 1) rfl)) (fun _ h9 => h9) rfl dX6_ring_67 ?_
            refine lv_iload_n hx hb dX6_ring_70 rfl (lv_at hl 2 rfl) ?_
            refine lv_iload hx hb dX6_ring_71 (lv_at hl 4 rfl) ?_
            obtain ⟨r73, hq73, hd⟩ := dn_b1 hd
            have hPc : va_P D vwCl (wX5 cs (k_wi a 1) (k_wi (k_w S_37 77 x3_37.toNatClampNeg x4_37) 1)) _ := k_sub hP [1, 2, 3, 4, 5, 6, 7, 8, 9, 10, 11, 12, 13, 14, 15, 16] (wcX6_X5_1 cs a (k_w S_37 77 x3_37.toNatClampNeg x4_37) L)
            have hDc : va_D A (wX5 cs (k_wi a 1) (k_wi (k_w S_37 77 x3_37.toNatClampNeg x4_37) 1)) := hD.sub [1, 2, 3, 4, 5, 6, 7, 8, 9, 10, 11, 12, 13, 14, 15, 16] (by decide) (wcX6_X5_1 cs a (k_w S_37 77 x3_37.toNatClampNeg x4_37) L)
            have hF := k_self hDc hS hA
            refine k_run_i (va_runV (As := [.int p1, .int x4_37]) (rest := []) ⟨hx, hb, hml, hown, hts⟩ (mX5_nextOf l D cs (k_wi a 1) (k_wi (k_w S_37 77 x3_37.toNatClampNeg x4_37) 1) p1 x4_37 r73 hq73 _) (cwV 2 hts gX6_ring_X5_nextOf rfl rfl rfl (by decide +kernel) ⟨Nat.le_of_ble_eq_true rfl, Nat.le_of_ble_eq_true rfl⟩) ⟨k_blind, va_recv hK hP (ci := 3) (q0 := 1) rfl rfl, k_pre hPc hK hNn hDc⟩ rfl rfl hl.1 rfl (lv_room (Nat.le_of_ble_eq_true rfl)) dX6_ring_73 ⟨Nat.le_of_ble_eq_true rfl, Nat.le_of_ble_eq_true rfl⟩) hS hF (fun H locs hP1 hk hS => ?_)
            have hP : va_P D vwCl (wX6 cs a (k_w S_37 77 x3_37.toNatClampNeg x4_37) L) _ := k_back hP hD [1, 2, 3, 4, 5, 6, 7, 8, 9, 10, 11, 12, 13, 14, 15, 16] [0, 17, 18, 19, 20, 21, 22, 23, 24, 25, 26, 27, 28, 29, 30, 31, 32, 33, 34, 35, 36, 37, 38, 39, 40, 41, 42, 43, 44, 45, 46, 47, 48, 49, 50, 51, 52, 53, 54, 55, 56, 57, 58, 59, 60, 61, 62, 63, 64, 65, 66, 67, 68, 69, 70, 71, 72, 73, 74, 75, 76, 77, 78] [0, 63, 64, 65, 66, 67, 68, 69, 70, 71, 72, 73, 74, 75, 76, 77, 78, 1, 2, 3, 4, 5, 6, 7, 8, 9, 10, 11, 12, 13, 14, 15, 16, 17, 18, 19, 20, 21, 22, 23, 24, 25, 26, 27, 28, 29, 30, 31, 32, 33, 34, 35, 36, 37, 38, 39, 40, 41, 42, 43, 44, 45, 46, 47, 48, 49, 50, 51, 52, 53, 54, 55, 56, 57, 58, 59, 60, 61, 62] (wcX6_X5_1 cs a (k_w S_37 77 x3_37.toNatClampNeg x4_37) L) (by decide) hk hP1 (wbX6_X5_1 cs a (k_w S_37 77 x3_37.toNatClampNeg x4_37) L)
            have hD := hDA (k_w S_37 77 x3_37.toNatClampNeg x4_37) L
            refine lv_istore (lv' := [(4, .int r73), (3, .int (x3_37 + (1 : Int32))), (0, .ref (a 0)), (1, .int p1), (2, .int p2), (5, .int x5_37)]) hx hb dX6_ring_76 hl (by decide) rfl (fun ls hl => ?_)
            refine lv_aload_n hx hb dX6_ring_78 rfl (lv_at hl 2 rfl) ?_
            refine va_get (D := D) (ci := 4) (v := .ref (a 77)) (C := RX6) (T := TX6) (N := 12) hx hb hts (fun w h => List.mem_cons_of_mem _ (List.mem_append_left _ (List.mem_append_right _ h))) hown hK hP 0 rfl rfl 8 (by decide) (hts (.fieldLink RX6 48 "LeastNeed" "order" "[I") (List.mem_of_getElem? (i := 3) rfl)) (fun _ h9 => h9) rfl dX6_ring_79 ?_
            refine lv_iload_n hx hb dX6_ring_82 rfl (lv_at hl 1 rfl) ?_
            refine lv_iload hx hb dX6_ring_83 (lv_at hl 0 rfl) ?_
            obtain ⟨r85, hq85, hd⟩ := dn_b1 hd
            have hPc : va_P D vwCl (wAI cs 8 (k_wi a 77) (k_wi (k_w S_37 77 x3_37.toNatClampNeg x4_37) 77)) _ := k_sub hP [77] (wcX6_aI_77 cs a (k_w S_37 77 x3_37.toNatClampNeg x4_37) L)
            have hDc : va_D A (wAI cs 8 (k_wi a 77) (k_wi (k_w S_37 77 x3_37.toNatClampNeg x4_37) 77)) := hD.sub [77] (by decide) (wcX6_aI_77 cs a (k_w S_37 77 x3_37.toNatClampNeg x4_37) L)
            have hF := k_self hDc hS hA
            refine k_run_i (va_runS (As := [.ref (a 77), .int (x3_37 + (1 : Int32)), .int r73]) (rest := []) ⟨hx, hb, hml, hown, hts⟩ (mX6_placeIn l D cs (k_wi a 77) 8 (k_wi (k_w S_37 77 x3_37.toNatClampNeg x4_37) 77) (x3_37 + (1 : Int32)) r73 r85 hq85 _) (va_cwS 3 hts gX6_ring_X6_placeIn rfl rfl rfl (by decide +kernel) ⟨Nat.le_of_ble_eq_true rfl, Nat.le_of_ble_eq_true rfl⟩) ⟨k_blind, k_pre hPc hK hNn hDc⟩ rfl rfl hl.1 rfl (lv_room (Nat.le_of_ble_eq_true rfl)) dX6_ring_85 ⟨Nat.le_of_ble_eq_true rfl, Nat.le_of_ble_eq_true rfl⟩) hS hF (fun H locs hP1 hk hS => ?_)
            have hP : va_P D vwCl (wX6 cs a (k_w S_37 77 x3_37.toNatClampNeg x4_37) L) _ := k_back hP hD [77] [0, 1, 2, 3, 4, 5, 6, 7, 8, 9, 10, 11, 12, 13, 14, 15, 16, 17, 18, 19, 20, 21, 22, 23, 24, 25, 26, 27, 28, 29, 30, 31, 32, 33, 34, 35, 36, 37, 38, 39, 40, 41, 42, 43, 44, 45, 46, 47, 48, 49, 50, 51, 52, 53, 54, 55, 56, 57, 58, 59, 60, 61, 62, 63, 64, 65, 66, 67, 68, 69, 70, 71, 72, 73, 74, 75, 76, 78] [0, 1, 2, 3, 4, 5, 6, 7, 8, 9, 10, 11, 12, 13, 14, 15, 16, 17, 18, 19, 20, 21, 22, 23, 24, 25, 26, 27, 28, 29, 30, 31, 32, 33, 34, 35, 36, 37, 38, 39, 40, 41, 42, 43, 44, 45, 46, 47, 48, 49, 50, 51, 52, 53, 54, 55, 56, 57, 58, 59, 60, 61, 62, 63, 64, 65, 66, 67, 68, 69, 70, 71, 72, 73, 74, 75, 76, 78, 77] (wcX6_aI_77 cs a (k_w S_37 77 x3_37.toNatClampNeg x4_37) L) (by decide) hk hP1 (wbX6_aI_77 cs a (k_w S_37 77 x3_37.toNatClampNeg x4_37) L)
            have hD := hDA (k_w S_37 77 x3_37.toNatClampNeg x4_37) L
            refine lv_istore (lv' := [(5, .int r85), (4, .int r73), (3, .int (x3_37 + (1 : Int32))), (0, .ref (a 0)), (1, .int p1), (2, .int p2)]) hx hb dX6_ring_88 hl (by decide) rfl (fun ls hl => ?_)
            refine lv_goto (tgt := 37) hx hb dX6_ring_90 (by decide) ?_
            exact ih1 (x3_37 + (1 : Int32)) r73 r85 (k_w S_37 77 x3_37.toNatClampNeg x4_37) _ _ _ (dn_bk hd hy1) (lv_sub hl [3, 4, 5, 2, 1, 0] rfl) hP hS
  have Jo16 : ∀ (S_16 : Nat → Nat → Int32) (H : Heap) (locs : List Loc) (ls : Array Slot), nX6_ring_j16 S_16 L = some (r9, S9) → lv_has ls 6 [(0, .ref (a 0))] → va_P D vwCl (wX6 cs a S_16 L) H → va_S A s.heap H locs → W p l e (headSpec wsX6_ring ({ frames := 4, cells := 0, slots := 0, locals := 106 })).room s m ([.ref (a 0), .int p1, .int p2] : List Value).toArray below meth c H locs 0 0 Q (F0 m 16 ls []) := by
    intro S_16 H locs ls hd hl hP hS
    have hD := hDA S_16 L
    unfold nX6_ring_j16 at hd
    refine lv_aload_n hx hb dX6_ring_16 rfl (lv_at hl 0 rfl) ?_
    obtain ⟨r17, S17, hq17, hd⟩ := dn_b2 hd
    have hF := k_self hD hS hA
    refine k_run_i (va_runV (As := []) (rest := []) ⟨hx, hb, hml, hown, hts⟩ (mX6_refusedAsBad l D cs a S_16 L r17 S17 hq17 _) (cwV 0 hts gX6_ring_X6_refusedAsBad rfl rfl rfl (by decide +kernel) ⟨Nat.le_of_ble_eq_true rfl, Nat.le_of_ble_eq_true rfl⟩) ⟨k_blind, va_recv hK hP (ci := 4) (q0 := 0) rfl rfl, k_pre hP hK hNn hD⟩ rfl rfl hl.1 rfl (lv_room (Nat.le_of_ble_eq_true rfl)) dX6_ring_17 ⟨Nat.le_of_ble_eq_true rfl, Nat.le_of_ble_eq_true rfl⟩) hS hF (fun H locs hP1 hk hS => ?_)
    have hP : va_P D vwCl (wX6 cs a S17 L) _ := hP1
    have hD := hDA S17 L
    obtain ⟨e1, e2⟩ := dn_s2 hd
    exact k_iret hx hb hr hQ hAe e1 (by rw [e2]) hP hS hlocks dX6_ring_20
  unfold nX6_ring at hd
  refine lv_aload_n hx hb dX6_ring_0 rfl (lv_at hl 0 rfl) ?_
  refine lv_iload_n hx hb dX6_ring_1 rfl (lv_at hl 1 rfl) ?_
  obtain ⟨r2, hq2, hd⟩ := dn_b1 hd
  have hF := k_self hD hS hA
  refine k_run_i (va_runV (As := [.int p1]) (rest := []) ⟨hx, hb, hml, hown, hts⟩ (mX6_isThing l D cs a S L p1 r2 hq2 _) (cwV 1 hts gX6_ring_X6_isThing rfl rfl rfl (by decide +kernel) ⟨Nat.le_of_ble_eq_true rfl, Nat.le_of_ble_eq_true rfl⟩) ⟨k_blind, va_recv hK hP (ci := 4) (q0 := 0) rfl rfl, k_pre hP hK hNn hD⟩ rfl rfl hl.1 rfl (lv_room (Nat.le_of_ble_eq_true rfl)) dX6_ring_2 ⟨Nat.le_of_ble_eq_true rfl, Nat.le_of_ble_eq_true rfl⟩) hS hF (fun H locs hP1 hk hS => ?_)
  have hP : va_P D vwCl (wX6 cs a S L) _ := hP1
  have hD := hDA S L
  refine lv_if_eq (tgt := 16) hx hb dX6_ring_5 (by decide) (fun c5 => ?_) (fun c5 => ?_)
  · have hd := dn_t c5 hd
    exact Jo16 S _ _ _ hd (lv_sub hl [0] rfl) hP hS
  · have hd := dn_f c5 hd
    refine lv_iload_n hx hb dX6_ring_8 rfl (lv_at hl 2 rfl) ?_
    refine lv_iconst (v := (2 : Int32)) hx hb dX6_ring_9 (by decide) ?_
    obtain ⟨r10, hq10, hd⟩ := dn_b1 hd
    have hPc := k_P0 hP
    have hDc : va_D A ([] : va_W) := k_D0
    have hF := k_self hDc hS hA
    refine k_run_i (va_runS (As := [.int p2, .int (2 : Int32)]) (rest := []) ⟨hx, hb, hml, hown, hts⟩ (mX6_upTo l D cs  p2 (2 : Int32) r10 hq10 _) (va_cwS 2 hts gX6_ring_X6_upTo rfl rfl rfl (by decide +kernel) ⟨Nat.le_of_ble_eq_true rfl, Nat.le_of_ble_eq_true rfl⟩) ⟨k_blind, k_pre hPc hK hNn hDc⟩ rfl rfl hl.1 rfl (lv_room (Nat.le_of_ble_eq_true rfl)) dX6_ring_10 ⟨Nat.le_of_ble_eq_true rfl, Nat.le_of_ble_eq_true rfl⟩) hS hF (fun H locs hP1 hk hS => ?_)
    have hP : va_P D vwCl (wX6 cs a S L) _ := k_keep hP hk
    refine lv_if_ne (tgt := 21) hx hb dX6_ring_13 (by decide) (fun c13 => ?_) (fun c13 => ?_)
    · have hd := dn_f c13 hd
      refine lv_iconst (v := (0 : Int32)) hx hb dX6_ring_21 (by decide) ?_
      refine lv_istore_n (lv' := [(3, .int (0 : Int32)), (0, .ref (a 0)), (1, .int p1), (2, .int p2)]) hx hb dX6_ring_22 rfl hl (by decide) rfl (fun ls hl => ?_)
      refine lv_aload_n hx hb dX6_ring_23 rfl (lv_at hl 1 rfl) ?_
      refine va_get (D := D) (ci := 4) (v := .ref (a 1)) (C := RX6) (T := TX6) (N := 12) hx hb hts (fun w h => List.mem_cons_of_mem _ (List.mem_append_left _ (List.mem_append_right _ h))) hown hK hP 0 rfl rfl 0 (by decide) (hts (.fieldLink RX6 12 "LeastNeed" "now" "LLeastNeed$Valley;") (List.mem_of_getElem? (i := 1) rfl)) (fun _ h9 => h9) rfl dX6_ring_24 ?_
      refine va_get (D := D) (ci := 3) (v := .ref (a 9)) (C := RX5) (T := TX5) (N := 15) hx hb hts (fun w h => List.mem_cons_of_mem _ (List.mem_append_right _ h)) hown hK hP 1 rfl rfl 7 (by decide) (hts (.fieldLink RX6 121 "LeastNeed$Valley" "holder" "[I") (List.mem_of_getElem? (i := 2) rfl)) (fun _ h9 => h9) rfl dX6_ring_27 ?_
      refine lv_iload_n hx hb dX6_ring_30 rfl (lv_at hl 2 rfl) ?_
      obtain ⟨hi31, hd⟩ := dn_i hd
      refine k_iald (D := D) (k := p1.toNatClampNeg) (by rfl) hx hb hK hP 9 1 rfl rfl hi31 dX6_ring_31 ?_
      refine lv_istore (lv' := [(4, .int (S 9 p1.toNatClampNeg)), (3, .int (0 : Int32)), (0, .ref (a 0)), (1, .int p1), (2, .int p2)]) hx hb dX6_ring_32 hl (by decide) rfl (fun ls hl => ?_)
      refine lv_iconst (v := (-1 : Int32)) hx hb dX6_ring_34 (by decide) ?_
      refine lv_istore (lv' := [(5, .int (-1 : Int32)), (4, .int (S 9 p1.toNatClampNeg)), (3, .int (0 : Int32)), (0, .ref (a 0)), (1, .int p1), (2, .int p2)]) hx hb dX6_ring_35 hl (by decide) rfl (fun ls hl => ?_)
      exact Lo37 1000 (0 : Int32) (S 9 p1.toNatClampNeg) (-1 : Int32) S _ _ _ hd (lv_sub hl [3, 4, 5, 2, 1, 0] rfl) hP hS
    · have hd := dn_t c13 hd
      exact Jo16 S _ _ _ hd (lv_sub hl [0] rfl) hP hS
-- LeastNeed.send(III)I
set_option maxRecDepth 20000 in
def nX6_send_j24 (S_24 : Nat → Nat → Int32) (L_24 : Nat → Nat → Int64) : Option (Int32 × (Nat → Nat → Int32) × (Nat → Nat → Int64)) := k_b2 (nX6_refusedAsBad S_24 L_24) (fun r25 S25 => some (r25, S25, L_24))
set_option maxRecDepth 20000 in
def nX6_send (S : Nat → Nat → Int32) (L : Nat → Nat → Int64) (p1 : Int32) (p2 : Int32) (p3 : Int32) : Option (Int32 × (Nat → Nat → Int32) × (Nat → Nat → Int64)) := k_b1 (nX6_isThing S L p1) (fun r2 => if r2 = 0 then nX6_send_j24 S L else k_b1 (nX6_isPerson S L p2) (fun r10 => if r10 = 0 then nX6_send_j24 S L else k_b1 (nX6_upTo p3 (2 : Int32)) (fun r18 => if r18 = 0 then nX6_send_j24 S L else k_b3 (nX0_fewestDays (k_wi S 70) (k_wi L 70) (k_wi S 1) p1 p2) (fun r39 S39 L39 => if r39 = (-1 : Int32) then some (r39, (k_sp S 70 5 S39), (k_sp L 70 5 L39)) else if p3 = 0 then some (r39, (k_sp S 70 5 S39), (k_sp L 70 5 L39)) else some (((k_sp S 70 5 S39) 70 4), (k_sp S 70 5 S39), (k_sp L 70 5 L39))))))
set_option maxHeartbeats 4000000 in
set_option maxRecDepth 100000 in
theorem mX6_send (l : Launch) (D : va_G) (cs : Nat → ClassId) (a : Nat → Nat) (S : Nat → Nat → Int32) (L : Nat → Nat → Int64) (p1 : Int32) (p2 : Int32) (p3 : Int32) (r9 : Int32) (S9 : (Nat → Nat → Int32)) (L9 : (Nat → Nat → Int64)) (hd : nX6_send S L p1 p2 p3 = some (r9, S9, L9)) : ∀ sz : Nat, Met l yX6_send wsX6_send ({ frames := 5, cells := 0, slots := 0, locals := 135 }) (k_Pc D cs [.ref (a 0), .int p1, .int p2, .int p3] (wX6 cs a S L) sz) (k_Qi D r9 (wX6 cs a S L) (wX6 cs a S9 L9) sz) 0 0 (va_A (wX6 cs a S L) sz) := by
  intro sz
  refine Met.ofW (cc := cX6_send) (maxL := 5) (ret := (some .int)) (by decide) rfl ?_
  intro p e s m args below meth c s₁ B hml hv
  obtain ⟨rfl, hsz, hP, hK, hD0, hNn⟩ := hv
  have hx := B.exec
  have hb := B.bytes
  have hr := B.returns
  have hts := atoms_spec (ws := wsX6_send) B.pre
  have hown : s.vm.findClass RX6 = some m.cls := findClass_of_methodNamed B.named
  have hlocks := B.notSynchronized
  subst hsz
  obtain ⟨A, hAe⟩ : ∃ A : Nat → Prop, A = va_A (wX6 cs a S L) s.heap.size := ⟨_, rfl⟩
  have hD : va_D A (wX6 cs a S L) := by rw [hAe]; exact hD0.self
  have hA : ∀ q : Nat, s.heap.size ≤ q → A q := fun q h => by rw [hAe]; exact Or.inr h
  have hS : va_S A s.heap s.heap [] := va_S.rf
  have hDA : ∀ (S : Nat → Nat → Int32) (L : Nat → Nat → Int64), va_D A (wX6 cs a S L) := fun S L => k_DA hD rfl
  have hl := lv_entry ([.ref (a 0), .int p1, .int p2, .int p3]) (n := 5) (Nat.le_of_ble_eq_true rfl)
  rw [lg_entry_eq]
  generalize (lg_sl ([.ref (a 0), .int p1, .int p2, .int p3]) ++ List.replicate (5 - (lg_sl ([.ref (a 0), .int p1, .int p2, .int p3])).length) Slot.unset).toArray = ls at hl ⊢
  have hl : lv_has ls 5 [(0, .ref (a 0)), (1, .int p1), (2, .int p2), (3, .int p3)] := hl
  obtain ⟨Q, hQ⟩ : ∃ Q, Q = MQ below (k_Qi D r9 (wX6 cs a S L) (wX6 cs a S9 L9) s.heap.size) ([.ref (a 0), .int p1, .int p2, .int p3] : List Value).toArray s 0 0 (va_A (wX6 cs a S L) s.heap.size) := ⟨_, rfl⟩
  rw [← hQ]
  have Jo24 : ∀ (S_24 : Nat → Nat → Int32) (L_24 : Nat → Nat → Int64) (H : Heap) (locs : List Loc) (ls : Array Slot), nX6_send_j24 S_24 L_24 = some (r9, S9, L9) → lv_has ls 5 [(0, .ref (a 0))] → va_P D vwCl (wX6 cs a S_24 L_24) H → va_S A s.heap H locs → W p l e (headSpec wsX6_send ({ frames := 5, cells := 0, slots := 0, locals := 135 })).room s m ([.ref (a 0), .int p1, .int p2, .int p3] : List Value).toArray below meth c H locs 0 0 Q (F0 m 24 ls []) := by
    intro S_24 L_24 H locs ls hd hl hP hS
    have hD := hDA S_24 L_24
    unfold nX6_send_j24 at hd
    refine lv_aload_n hx hb dX6_send_24 rfl (lv_at hl 0 rfl) ?_
    obtain ⟨r25, S25, hq25, hd⟩ := dn_b2 hd
    have hF := k_self hD hS hA
    refine k_run_i (va_runV (As := []) (rest := []) ⟨hx, hb, hml, hown, hts⟩ (mX6_refusedAsBad l D cs a S_24 L_24 r25 S25 hq25 _) (cwV 0 hts gX6_send_X6_refusedAsBad rfl rfl rfl (by decide +kernel) ⟨Nat.le_of_ble_eq_true rfl, Nat.le_of_ble_eq_true rfl⟩) ⟨k_blind, va_recv hK hP (ci := 4) (q0 := 0) rfl rfl, k_pre hP hK hNn hD⟩ rfl rfl hl.1 rfl (lv_room (Nat.le_of_ble_eq_true rfl)) dX6_send_25 ⟨Nat.le_of_ble_eq_true rfl, Nat.le_of_ble_eq_true rfl⟩) hS hF (fun H locs hP1 hk hS => ?_)
    have hP : va_P D vwCl (wX6 cs a S25 L_24) _ := hP1
    have hD := hDA S25 L_24
    obtain ⟨e1, e2, e3⟩ := dn_s3 hd
    exact k_iret hx hb hr hQ hAe e1 (by rw [← e2, ← e3]) hP hS hlocks dX6_send_28
  unfold nX6_send at hd
  refine lv_aload_n hx hb dX6_send_0 rfl (lv_at hl 0 rfl) ?_
  refine lv_iload_n hx hb dX6_send_1 rfl (lv_at hl 1 rfl) ?_
  obtain ⟨r2, hq2, hd⟩ := dn_b1 hd
  have hF := k_self hD hS hA
  refine k_run_i (va_runV (As := [.int p1]) (rest := []) ⟨hx, hb, hml, hown, hts⟩ (mX6_isThing l D cs a S L p1 r2 hq2 _) (cwV 1 hts gX6_send_X6_isThing rfl rfl rfl (by decide +kernel) ⟨Nat.le_of_ble_eq_true rfl, Nat.le_of_ble_eq_true rfl⟩) ⟨k_blind, va_recv hK hP (ci := 4) (q0 := 0) rfl rfl, k_pre hP hK hNn hD⟩ rfl rfl hl.1 rfl (lv_room (Nat.le_of_ble_eq_true rfl)) dX6_send_2 ⟨Nat.le_of_ble_eq_true rfl, Nat.le_of_ble_eq_true rfl⟩) hS hF (fun H locs hP1 hk hS => ?_)
  have hP : va_P D vwCl (wX6 cs a S L) _ := hP1
  have hD := hDA S L
  refine lv_if_eq (tgt := 24) hx hb dX6_send_5 (by decide) (fun c5 => ?_) (fun c5 => ?_)
  · have hd := dn_t c5 hd
    exact Jo24 S L _ _ _ hd (lv_sub hl [0] rfl) hP hS
  · have hd := dn_f c5 hd
    refine lv_aload_n hx hb dX6_send_8 rfl (lv_at hl 0 rfl) ?_
    refine lv_iload_n hx hb dX6_send_9 rfl (lv_at hl 2 rfl) ?_
    obtain ⟨r10, hq10, hd⟩ := dn_b1 hd
    have hF := k_self hD hS hA
    refine k_run_i (va_runV (As := [.int p2]) (rest := []) ⟨hx, hb, hml, hown, hts⟩ (mX6_isPerson l D cs a S L p2 r10 hq10 _) (cwV 1 hts gX6_send_X6_isPerson rfl rfl rfl (by decide +kernel) ⟨Nat.le_of_ble_eq_true rfl, Nat.le_of_ble_eq_true rfl⟩) ⟨k_blind, va_recv hK hP (ci := 4) (q0 := 0) rfl rfl, k_pre hP hK hNn hD⟩ rfl rfl hl.1 rfl (lv_room (Nat.le_of_ble_eq_true rfl)) dX6_send_10 ⟨Nat.le_of_ble_eq_true rfl, Nat.le_of_ble_eq_true rfl⟩) hS hF (fun H locs hP1 hk hS => ?_)
    have hP : va_P D vwCl (wX6 cs a S L) _ := hP1
    have hD := hDA S L
    refine lv_if_eq (tgt := 24) hx hb dX6_send_13 (by decide) (fun c13 => ?_) (fun c13 => ?_)
    · have hd := dn_t c13 hd
      exact Jo24 S L _ _ _ hd (lv_sub hl [0] rfl) hP hS
    · have hd := dn_f c13 hd
      refine lv_iload_n hx hb dX6_send_16 rfl (lv_at hl 3 rfl) ?_
      refine lv_iconst (v := (2 : Int32)) hx hb dX6_send_17 (by decide) ?_
      obtain ⟨r18, hq18, hd⟩ := dn_b1 hd
      have hPc := k_P0 hP
      have hDc : va_D A ([] : va_W) := k_D0
      have hF := k_self hDc hS hA
      refine k_run_i (va_runS (As := [.int p3, .int (2 : Int32)]) (rest := []) ⟨hx, hb, hml, hown, hts⟩ (mX6_upTo l D cs  p3 (2 : Int32) r18 hq18 _) (va_cwS 2 hts gX6_send_X6_upTo rfl rfl rfl (by decide +kernel) ⟨Nat.le_of_ble_eq_true rfl, Nat.le_of_ble_eq_true rfl⟩) ⟨k_blind, k_pre hPc hK hNn hDc⟩ rfl rfl hl.1 rfl (lv_room (Nat.le_of_ble_eq_true rfl)) dX6_send_18 ⟨Nat.le_of_ble_eq_true rfl, Nat.le_of_ble_eq_true rfl⟩) hS hF (fun H locs hP1 hk hS => ?_)
      have hP : va_P D vwCl (wX6 cs a S L) _ := k_keep hP hk
      refine lv_if_ne (tgt := 29) hx hb dX6_send_21 (by decide) (fun c21 => ?_) (fun c21 => ?_)
      · have hd := dn_f c21 hd
        refine lv_aload_n hx hb dX6_send_29 rfl (lv_at hl 0 rfl) ?_
        refine va_get (D := D) (ci := 4) (v := .ref (a 70)) (C := RX6) (T := TX6) (N := 12) hx hb hts (fun w h => List.mem_cons_of_mem _ (List.mem_append_left _ (List.mem_append_left _ (List.mem_append_right _ h)))) hown hK hP 0 rfl rfl 5 (by decide) (hts (.fieldLink RX6 37 "LeastNeed" "journey" "LLeastNeed$Journey;") (List.mem_of_getElem? (i := 1) rfl)) (fun _ h9 => h9) rfl dX6_send_30 ?_
        refine lv_aload_n hx hb dX6_send_33 rfl (lv_at hl 0 rfl) ?_
        refine va_get (D := D) (ci := 4) (v := .ref (a 1)) (C := RX6) (T := TX6) (N := 12) hx hb hts (fun w h => List.mem_cons_of_mem _ (List.mem_append_left _ (List.mem_append_left _ (List.mem_append_right _ h)))) hown hK hP 0 rfl rfl 0 (by decide) (hts (.fieldLink RX6 12 "LeastNeed" "now" "LLeastNeed$Valley;") (List.mem_of_getElem? (i := 2) rfl)) (fun _ h9 => h9) rfl dX6_send_34 ?_
        refine lv_iload_n hx hb dX6_send_37 rfl (lv_at hl 1 rfl) ?_
        refine lv_iload_n hx hb dX6_send_38 rfl (lv_at hl 2 rfl) ?_
        obtain ⟨r39, S39, L39, hq39, hd⟩ := dn_b3 hd
        have hPc : va_P D vwCl (wX0 cs (k_wi a 70) (k_wi S 70) (k_wi L 70) ++ wX5 cs (k_wi a 1) (k_wi S 1)) _ := k_sub hP [70, 71, 72, 73, 74, 1, 2, 3, 4, 5, 6, 7, 8, 9, 10, 11, 12, 13, 14, 15, 16] (wcX6_X0_X5_70_1 cs a S L)
        have hDc : va_D A (wX0 cs (k_wi a 70) (k_wi S 70) (k_wi L 70) ++ wX5 cs (k_wi a 1) (k_wi S 1)) := hD.sub [70, 71, 72, 73, 74, 1, 2, 3, 4, 5, 6, 7, 8, 9, 10, 11, 12, 13, 14, 15, 16] (by decide) (wcX6_X0_X5_70_1 cs a S L)
        have hF := k_self hDc hS hA
        refine k_run_i (va_runV (As := [.ref (a 1), .int p1, .int p2]) (rest := []) ⟨hx, hb, hml, hown, hts⟩ (mX0_fewestDays l D cs (k_wi a 70) (k_wi a 1) (k_wi S 70) (k_wi L 70) (k_wi S 1) p1 p2 r39 S39 L39 hq39 _) (cwV 3 hts gX6_send_X0_fewestDays rfl rfl rfl (by decide +kernel) ⟨Nat.le_of_ble_eq_true rfl, Nat.le_of_ble_eq_true rfl⟩) ⟨k_blind, va_recv hK hP (ci := 0) (q0 := 70) rfl rfl, k_pre hPc hK hNn hDc⟩ rfl rfl hl.1 rfl (lv_room (Nat.le_of_ble_eq_true rfl)) dX6_send_39 ⟨Nat.le_of_ble_eq_true rfl, Nat.le_of_ble_eq_true rfl⟩) hS hF (fun H locs hP1 hk hS => ?_)
        have hP : va_P D vwCl (wX6 cs a (k_sp S 70 5 S39) (k_sp L 70 5 L39)) _ := k_back hP hD [70, 71, 72, 73, 74, 1, 2, 3, 4, 5, 6, 7, 8, 9, 10, 11, 12, 13, 14, 15, 16] [0, 17, 18, 19, 20, 21, 22, 23, 24, 25, 26, 27, 28, 29, 30, 31, 32, 33, 34, 35, 36, 37, 38, 39, 40, 41, 42, 43, 44, 45, 46, 47, 48, 49, 50, 51, 52, 53, 54, 55, 56, 57, 58, 59, 60, 61, 62, 63, 64, 65, 66, 67, 68, 69, 75, 76, 77, 78] [0, 63, 64, 65, 66, 67, 68, 69, 70, 71, 72, 73, 74, 75, 76, 77, 78, 1, 2, 3, 4, 5, 6, 7, 8, 9, 10, 11, 12, 13, 14, 15, 16, 17, 18, 19, 20, 21, 22, 23, 24, 25, 26, 27, 28, 29, 30, 31, 32, 33, 34, 35, 36, 37, 38, 39, 40, 41, 42, 43, 44, 45, 46, 47, 48, 49, 50, 51, 52, 53, 58, 59, 60, 61, 62, 54, 55, 56, 57] (wcX6_X0_X5_70_1 cs a S L) (by decide) hk hP1 (wbX6_X0_X5_70_1_S0L0 cs a S L S39 L39)
        have hD := hDA (k_sp S 70 5 S39) (k_sp L 70 5 L39)
        refine lv_istore (lv' := [(4, .int r39), (0, .ref (a 0)), (1, .int p1), (2, .int p2), (3, .int p3)]) hx hb dX6_send_42 hl (by decide) rfl (fun ls hl => ?_)
        refine lv_iload hx hb dX6_send_44 (lv_at hl 0 rfl) ?_
        refine lv_iconst (v := (-1 : Int32)) hx hb dX6_send_46 (by decide) ?_
        refine lv_icmp_eq (tgt := 54) hx hb dX6_send_47 (by decide) (fun c47 => ?_) (fun c47 => ?_)
        · have hd := dn_t c47 hd
          refine lv_iload hx hb dX6_send_54 (lv_at hl 0 rfl) ?_
          obtain ⟨e1, e2, e3⟩ := dn_s3 hd
          exact k_iret hx hb hr hQ hAe e1 (by rw [← e2, ← e3]) hP hS hlocks dX6_send_56
        · have hd := dn_f c47 hd
          refine lv_iload_n hx hb dX6_send_50 rfl (lv_at hl 4 rfl) ?_
          refine lv_if_ne (tgt := 57) hx hb dX6_send_51 (by decide) (fun c51 => ?_) (fun c51 => ?_)
          · have hd := dn_f c51 hd
            refine lv_aload_n hx hb dX6_send_57 rfl (lv_at hl 1 rfl) ?_
            refine va_get (D := D) (ci := 4) (v := .ref (a 70)) (C := RX6) (T := TX6) (N := 12) hx hb hts (fun w h => List.mem_cons_of_mem _ (List.mem_append_left _ (List.mem_append_left _ (List.mem_append_right _ h)))) hown hK hP 0 rfl rfl 5 (by decide) (hts (.fieldLink RX6 37 "LeastNeed" "journey" "LLeastNeed$Journey;") (List.mem_of_getElem? (i := 1) rfl)) (fun _ h9 => h9) rfl dX6_send_58 ?_
            refine va_get (D := D) (ci := 0) (v := .int ((k_sp S 70 5 S39) 70 4)) (C := RX0) (T := TX0) (N := 5) hx hb hts (fun w h => List.mem_cons_of_mem _ (List.mem_append_left _ (List.mem_append_right _ h))) hown hK hP 70 rfl rfl 4 (by decide) (hts (.fieldLink RX6 192 "LeastNeed$Journey" "losses" "I") (List.mem_of_getElem? (i := 3) rfl)) (fun _ h9 => h9) rfl dX6_send_61 ?_
            obtain ⟨e1, e2, e3⟩ := dn_s3 hd
            exact k_iret hx hb hr hQ hAe e1 (by rw [← e2, ← e3]) hP hS hlocks dX6_send_64
          · have hd := dn_t c51 hd
            refine lv_iload hx hb dX6_send_54 (lv_at hl 0 rfl) ?_
            obtain ⟨e1, e2, e3⟩ := dn_s3 hd
            exact k_iret hx hb hr hQ hAe e1 (by rw [← e2, ← e3]) hP hS hlocks dX6_send_56
      · have hd := dn_t c21 hd
        exact Jo24 S L _ _ _ hd (lv_sub hl [0] rfl) hP hS
-- LeastNeed.wears(III)I
set_option maxRecDepth 20000 in
def nX6_wears_i58_j116 (p1 : Int32) (p2 : Int32) (p3 : Int32) (x4_116 : Int32) (w0_116 : Int32) (w1_116 : Int32) (S_116 : Nat → Nat → Int32) (L : Nat → Nat → Int64) : Option ((Int32 × (Nat → Nat → Int32)) ⊕ (Int32 × (Nat → Nat → Int32))) := if w1_116 = w0_116 then k_up (some (x4_116, S_116)) else some (.inl ((x4_116 + (1 : Int32)), S_116))
set_option maxRecDepth 20000 in
def nX6_wears_i58_j102 (p1 : Int32) (p2 : Int32) (p3 : Int32) (x4_102 : Int32) (w0_102 : Int32) (S_102 : Nat → Nat → Int32) (L : Nat → Nat → Int64) : Option ((Int32 × (Nat → Nat → Int32)) ⊕ (Int32 × (Nat → Nat → Int32))) := if p3 = (1 : Int32) then nX6_wears_i58_j116 p1 p2 p3 x4_102 (1 : Int32) w0_102 S_102 L else nX6_wears_i58_j116 p1 p2 p3 x4_102 (0 : Int32) w0_102 S_102 L
set_option maxRecDepth 20000 in
def nX6_wears_l58 (p1 : Int32) (p2 : Int32) (p3 : Int32) (x4_58 : Int32) (S_58 : Nat → Nat → Int32) (L : Nat → Nat → Int64) : Option ((Int32 × (Nat → Nat → Int32)) ⊕ (Int32 × (Nat → Nat → Int32))) := if (10 : Int32) ≤ x4_58 then k_up (some ((-1 : Int32), S_58)) else if p1 < 0 ∨ 7 ≤ p1.toNatClampNeg then none else if p2 < 0 ∨ 5 ≤ p2.toNatClampNeg then none else k_b1 (nX5_nextOf (k_wi (k_w S_58 20 p1.toNatClampNeg x4_58) 17) p2 ((k_w S_58 20 p1.toNatClampNeg x4_58) 25 p2.toNatClampNeg)) (fun r90 => if r90 = p1 then nX6_wears_i58_j102 p1 p2 p3 x4_58 (1 : Int32) (k_w S_58 20 p1.toNatClampNeg x4_58) L else nX6_wears_i58_j102 p1 p2 p3 x4_58 (0 : Int32) (k_w S_58 20 p1.toNatClampNeg x4_58) L)
set_option maxRecDepth 20000 in
def nX6_wears_j24 (S_24 : Nat → Nat → Int32) (L : Nat → Nat → Int64) : Option (Int32 × (Nat → Nat → Int32)) := k_b2 (nX6_refusedAsBad S_24 L) (fun r25 S25 => some (r25, S25))
set_option maxRecDepth 20000 in
def nX6_wears (S : Nat → Nat → Int32) (L : Nat → Nat → Int64) (p1 : Int32) (p2 : Int32) (p3 : Int32) : Option (Int32 × (Nat → Nat → Int32)) := k_b1 (nX6_isPerson S L p1) (fun r2 => if r2 = 0 then nX6_wears_j24 S L else k_b1 (nX6_isThing S L p2) (fun r10 => if r10 = 0 then nX6_wears_j24 S L else k_b1 (nX6_upTo p3 (2 : Int32)) (fun r18 => if r18 = 0 then nX6_wears_j24 S L else if p2 < 0 ∨ 5 ≤ p2.toNatClampNeg then none else if (S 9 p2.toNatClampNeg) = p1 then some ((-1 : Int32), S) else k_b1 (nX5_copyOf (k_wi S 17) (k_wi S 1)) (fun S52 => k_it (fun st => nX6_wears_l58 p1 p2 p3 st.1 st.2 L) 1000 ((0 : Int32), (k_sp S 17 16 S52))))))
set_option maxHeartbeats 4000000 in
set_option maxRecDepth 100000 in
theorem mX6_wears (l : Launch) (D : va_G) (cs : Nat → ClassId) (a : Nat → Nat) (S : Nat → Nat → Int32) (L : Nat → Nat → Int64) (p1 : Int32) (p2 : Int32) (p3 : Int32) (r9 : Int32) (S9 : (Nat → Nat → Int32)) (hd : nX6_wears S L p1 p2 p3 = some (r9, S9)) : ∀ sz : Nat, Met l yX6_wears wsX6_wears ({ frames := 4, cells := 0, slots := 0, locals := 106 }) (k_Pc D cs [.ref (a 0), .int p1, .int p2, .int p3] (wX6 cs a S L) sz) (k_Qi D r9 (wX6 cs a S L) (wX6 cs a S9 L) sz) 0 0 (va_A (wX6 cs a S L) sz) := by
  intro sz
  refine Met.ofW (cc := cX6_wears) (maxL := 6) (ret := (some .int)) (by decide) rfl ?_
  intro p e s m args below meth c s₁ B hml hv
  obtain ⟨rfl, hsz, hP, hK, hD0, hNn⟩ := hv
  have hx := B.exec
  have hb := B.bytes
  have hr := B.returns
  have hts := atoms_spec (ws := wsX6_wears) B.pre
  have hown : s.vm.findClass RX6 = some m.cls := findClass_of_methodNamed B.named
  have hlocks := B.notSynchronized
  subst hsz
  obtain ⟨A, hAe⟩ : ∃ A : Nat → Prop, A = va_A (wX6 cs a S L) s.heap.size := ⟨_, rfl⟩
  have hD : va_D A (wX6 cs a S L) := by rw [hAe]; exact hD0.self
  have hA : ∀ q : Nat, s.heap.size ≤ q → A q := fun q h => by rw [hAe]; exact Or.inr h
  have hS : va_S A s.heap s.heap [] := va_S.rf
  have hDA : ∀ (S : Nat → Nat → Int32) (L : Nat → Nat → Int64), va_D A (wX6 cs a S L) := fun S L => k_DA hD rfl
  have hl := lv_entry ([.ref (a 0), .int p1, .int p2, .int p3]) (n := 6) (Nat.le_of_ble_eq_true rfl)
  rw [lg_entry_eq]
  generalize (lg_sl ([.ref (a 0), .int p1, .int p2, .int p3]) ++ List.replicate (6 - (lg_sl ([.ref (a 0), .int p1, .int p2, .int p3])).length) Slot.unset).toArray = ls at hl ⊢
  have hl : lv_has ls 6 [(0, .ref (a 0)), (1, .int p1), (2, .int p2), (3, .int p3)] := hl
  obtain ⟨Q, hQ⟩ : ∃ Q, Q = MQ below (k_Qi D r9 (wX6 cs a S L) (wX6 cs a S9 L) s.heap.size) ([.ref (a 0), .int p1, .int p2, .int p3] : List Value).toArray s 0 0 (va_A (wX6 cs a S L) s.heap.size) := ⟨_, rfl⟩
  rw [← hQ]
  have Lo58 : ∀ (n1 : Nat) (x4_58 : Int32) (S_58 : Nat → Nat → Int32) (H : Heap) (locs : List Loc) (ls : Array Slot), k_it (fun st => nX6_wears_l58 p1 p2 p3 st.1 st.2 L) n1 (x4_58, S_58) = some (r9, S9) → lv_has ls 6 [(0, .ref (a 0)), (1, .int p1), (2, .int p2), (3, .int p3), (4, .int x4_58)] → va_P D vwCl (wX6 cs a S_58 L) H → va_S A s.heap H locs → W p l e (headSpec wsX6_wears ({ frames := 4, cells := 0, slots := 0, locals := 106 })).room s m ([.ref (a 0), .int p1, .int p2, .int p3] : List Value).toArray below meth c H locs 0 0 Q (F0 m 58 ls []) := by
    intro n1
    induction n1 with
    | zero => intro x4_58 S_58 H locs ls hd; exact dn_it0 hd
    | succ n1 ih1 =>
      intro x4_58 S_58 H locs ls hd hl hP hS
      have hD := hDA S_58 L
      obtain ⟨y1, hd, hy1⟩ := dn_it hd
      have hd : nX6_wears_l58 p1 p2 p3 x4_58 S_58 L = some y1 := hd
      have Jo116 : ∀ (x4_116 : Int32) (w0_116 : Int32) (w1_116 : Int32) (S_116 : Nat → Nat → Int32) (H : Heap) (locs : List Loc) (ls : Array Slot), nX6_wears_i58_j116 p1 p2 p3 x4_116 w0_116 w1_116 S_116 L = some y1 → lv_has ls 6 [(0, .ref (a 0)), (1, .int p1), (2, .int p2), (3, .int p3), (4, .int x4_116)] → va_P D vwCl (wX6 cs a S_116 L) H → va_S A s.heap H locs → W p l e (headSpec wsX6_wears ({ frames := 4, cells := 0, slots := 0, locals := 106 })).room s m ([.ref (a 0), .int p1, .int p2, .int p3] : List Value).toArray below meth c H locs 0 0 Q (F0 m 116 ls [.int w0_116, .int w1_116]) := by
        intro x4_116 w0_116 w1_116 S_116 H locs ls hd hl hP hS
        have hD := hDA S_116 L
        unfold nX6_wears_i58_j116 at hd
        refine lv_icmp_ne (tgt := 122) hx hb dX6_wears_116 (by decide) (fun c116 => ?_) (fun c116 => ?_)
        · have hd := dn_f c116 hd
          refine lv_iinc (v := x4_116 + (1 : Int32)) (lv' := [(4, .int (x4_116 + (1 : Int32))), (0, .ref (a 0)), (1, .int p1), (2, .int p2), (3, .int p3)]) hx hb dX6_wears_122 hl (k := 4) rfl rfl (by decide) rfl (fun ls hl => ?_)
          refine lv_goto (tgt := 58) hx hb dX6_wears_125 (by decide) ?_
          exact ih1 (x4_116 + (1 : Int32)) S_116 _ _ _ (dn_bk hd hy1) (lv_sub hl [1, 2, 3, 4, 0] rfl) hP hS
        · have hd := dn_t c116 hd
          have hd := dn_up hd hy1
          refine lv_iload hx hb dX6_wears_119 (lv_at hl 4 rfl) ?_
          obtain ⟨e1, e2⟩ := dn_s2 hd
          exact k_iret hx hb hr hQ hAe e1 (by rw [e2]) hP hS hlocks dX6_wears_121
      have Jo102 : ∀ (x4_102 : Int32) (w0_102 : Int32) (S_102 : Nat → Nat → Int32) (H : Heap) (locs : List Loc) (ls : Array Slot), nX6_wears_i58_j102 p1 p2 p3 x4_102 w0_102 S_102 L = some y1 → lv_has ls 6 [(0, .ref (a 0)), (1, .int p1), (2, .int p2), (3, .int p3), (4, .int x4_102)] → va_P D vwCl (wX6 cs a S_102 L) H → va_S A s.heap H locs → W p l e (headSpec wsX6_wears ({ frames := 4, cells := 0, slots := 0, locals := 106 })).room s m ([.ref (a 0), .int p1, .int p2, .int p3] : List Value).toArray below meth c H locs 0 0 Q (F0 m 102 ls [.int w0_102]) := by
        intro x4_102 w0_102 S_102 H locs ls hd hl hP hS
        have hD := hDA S_102 L
        unfold nX6_wears_i58_j102 at hd
        refine lv_istore (lv' := [(5, .int w0_102), (0, .ref (a 0)), (1, .int p1), (2, .int p2), (3, .int p3), (4, .int x4_102)]) hx hb dX6_wears_102 hl (by decide) rfl (fun ls hl => ?_)
        refine lv_iload hx hb dX6_wears_104 (lv_at hl 0 rfl) ?_
        refine lv_iload_n hx hb dX6_wears_106 rfl (lv_at hl 4 rfl) ?_
        refine lv_iconst (v := (1 : Int32)) hx hb dX6_wears_107 (by decide) ?_
        refine lv_icmp_ne (tgt := 115) hx hb dX6_wears_108 (by decide) (fun c108 => ?_) (fun c108 => ?_)
        · have hd := dn_f c108 hd
          refine lv_iconst (v := (0 : Int32)) hx hb dX6_wears_115 (by decide) ?_
          exact Jo116 x4_102 (0 : Int32) w0_102 S_102 _ _ _ hd (lv_sub hl [1, 2, 3, 4, 5] rfl) hP hS
        · have hd := dn_t c108 hd
          refine lv_iconst (v := (1 : Int32)) hx hb dX6_wears_111 (by decide) ?_
          refine lv_goto (tgt := 116) hx hb dX6_wears_112 (by decide) ?_
          exact Jo116 x4_102 (1 : Int32) w0_102 S_102 _ _ _ hd (lv_sub hl [1, 2, 3, 4, 5] rfl) hP hS
      unfold nX6_wears_l58 at hd
      refine lv_iload hx hb dX6_wears_58 (lv_at hl 4 rfl) ?_
      refine lv_bipush (v := (10 : Int32)) hx hb dX6_wears_60 (by decide) ?_
      refine lv_icmp_ge (tgt := 128) hx hb dX6_wears_62 (by decide) (fun c62 => ?_) (fun c62 => ?_)
      · have hd := dn_t c62 hd
        have hd := dn_up hd hy1
        refine lv_iconst (v := (-1 : Int32)) hx hb dX6_wears_128 (by decide) ?_
        obtain ⟨e1, e2⟩ := dn_s2 hd
        exact k_iret hx hb hr hQ hAe e1 (by rw [e2]) hP hS hlocks dX6_wears_129
      · have hd := dn_f c62 hd
        refine lv_aload_n hx hb dX6_wears_65 rfl (lv_at hl 0 rfl) ?_
        refine va_get (D := D) (ci := 4) (v := .ref (a 17)) (C := RX6) (T := TX6) (N := 12) hx hb hts (fun w h => List.mem_cons_of_mem _ (List.mem_append_left _ (List.mem_append_left _ (List.mem_append_right _ h)))) hown hK hP 0 rfl rfl 1 (by decide) (hts (.fieldLink RX6 16 "LeastNeed" "trial" "LLeastNeed$Valley;") (List.mem_of_getElem? (i := 3) rfl)) (fun _ h9 => h9) rfl dX6_wears_66 ?_
        refine va_get (D := D) (ci := 3) (v := .ref (a 20)) (C := RX5) (T := TX5) (N := 15) hx hb hts (fun w h => List.mem_cons_of_mem _ (List.mem_append_left _ (List.mem_append_right _ h))) hown hK hP 17 rfl rfl 2 (by decide) (hts (.fieldLink RX6 134 "LeastNeed$Valley" "worn" "[I") (List.mem_of_getElem? (i := 4) rfl)) (fun _ h9 => h9) rfl dX6_wears_69 ?_
        refine lv_iload_n hx hb dX6_wears_72 rfl (lv_at hl 1 rfl) ?_
        refine lv_iload hx hb dX6_wears_73 (lv_at hl 4 rfl) ?_
        obtain ⟨hi75, hd⟩ := dn_i hd
        refine k_iast (D := D) (k := p1.toNatClampNeg) (by rfl) hx hb hK hP hD hS 20 1 rfl rfl hi75 dX6_wears_75 (fun H locs hP hD hS => ?_)
        have hP : va_P D vwCl (wX6 cs a (k_w S_58 20 p1.toNatClampNeg x4_58) L) _ := k_eq hP (wsX6_a20 cs a S_58 L p1.toNatClampNeg x4_58)
        have hD := hDA (k_w S_58 20 p1.toNatClampNeg x4_58) L
        refine lv_aload_n hx hb dX6_wears_76 rfl (lv_at hl 0 rfl) ?_
        refine va_get (D := D) (ci := 4) (v := .ref (a 17)) (C := RX6) (T := TX6) (N := 12) hx hb hts (fun w h => List.mem_cons_of_mem _ (List.mem_append_left _ (List.mem_append_left _ (List.mem_append_right _ h)))) hown hK hP 0 rfl rfl 1 (by decide) (hts (.fieldLink RX6 16 "LeastNeed" "trial" "LLeastNeed$Valley;") (List.mem_of_getElem? (i := 3) rfl)) (fun _ h9 => h9) rfl dX6_wears_77 ?_
        refine lv_iload_n hx hb dX6_wears_80 rfl (lv_at hl 2 rfl) ?_
        refine lv_aload_n hx hb dX6_wears_81 rfl (lv_at hl 0 rfl) ?_
        refine va_get (D := D) (ci := 4) (v := .ref (a 17)) (C := RX6) (T := TX6) (N := 12) hx hb hts (fun w h => List.mem_cons_of_mem _ (List.mem_append_left _ (List.mem_append_left _ (List.mem_append_right _ h)))) hown hK hP 0 rfl rfl 1 (by decide) (hts (.fieldLink RX6 16 "LeastNeed" "trial" "LLeastNeed$Valley;") (List.mem_of_getElem? (i := 3) rfl)) (fun _ h9 => h9) rfl dX6_wears_82 ?_
        refine va_get (D := D) (ci := 3) (v := .ref (a 25)) (C := RX5) (T := TX5) (N := 15) hx hb hts (fun w h => List.mem_cons_of_mem _ (List.mem_append_left _ (List.mem_append_right _ h))) hown hK hP 17 rfl rfl 7 (by decide) (hts (.fieldLink RX6 121 "LeastNeed$Valley" "holder" "[I") (List.mem_of_getElem? (i := 2) rfl)) (fun _ h9 => h9) rfl dX6_wears_85 ?_
        refine lv_iload_n hx hb dX6_wears_88 rfl (lv_at hl 2 rfl) ?_
        obtain ⟨hi89, hd⟩ := dn_i hd
        refine k_iald (D := D) (k := p2.toNatClampNeg) (by rfl) hx hb hK hP 25 1 rfl rfl hi89 dX6_wears_89 ?_
        obtain ⟨r90, hq90, hd⟩ := dn_b1 hd
        have hPc : va_P D vwCl (wX5 cs (k_wi a 17) (k_wi (k_w S_58 20 p1.toNatClampNeg x4_58) 17)) _ := k_sub hP [17, 18, 19, 20, 21, 22, 23, 24, 25, 26, 27, 28, 29, 30, 31, 32] (wcX6_X5_17 cs a (k_w S_58 20 p1.toNatClampNeg x4_58) L)
        have hDc : va_D A (wX5 cs (k_wi a 17) (k_wi (k_w S_58 20 p1.toNatClampNeg x4_58) 17)) := hD.sub [17, 18, 19, 20, 21, 22, 23, 24, 25, 26, 27, 28, 29, 30, 31, 32] (by decide) (wcX6_X5_17 cs a (k_w S_58 20 p1.toNatClampNeg x4_58) L)
        have hF := k_self hDc hS hA
        refine k_run_i (va_runV (As := [.int p2, .int ((k_w S_58 20 p1.toNatClampNeg x4_58) 25 p2.toNatClampNeg)]) (rest := []) ⟨hx, hb, hml, hown, hts⟩ (mX5_nextOf l D cs (k_wi a 17) (k_wi (k_w S_58 20 p1.toNatClampNeg x4_58) 17) p2 ((k_w S_58 20 p1.toNatClampNeg x4_58) 25 p2.toNatClampNeg) r90 hq90 _) (cwV 2 hts gX6_wears_X5_nextOf rfl rfl rfl (by decide +kernel) ⟨Nat.le_of_ble_eq_true rfl, Nat.le_of_ble_eq_true rfl⟩) ⟨k_blind, va_recv hK hP (ci := 3) (q0 := 17) rfl rfl, k_pre hPc hK hNn hDc⟩ rfl rfl hl.1 rfl (lv_room (Nat.le_of_ble_eq_true rfl)) dX6_wears_90 ⟨Nat.le_of_ble_eq_true rfl, Nat.le_of_ble_eq_true rfl⟩) hS hF (fun H locs hP1 hk hS => ?_)
        have hP : va_P D vwCl (wX6 cs a (k_w S_58 20 p1.toNatClampNeg x4_58) L) _ := k_back hP hD [17, 18, 19, 20, 21, 22, 23, 24, 25, 26, 27, 28, 29, 30, 31, 32] [0, 1, 2, 3, 4, 5, 6, 7, 8, 9, 10, 11, 12, 13, 14, 15, 16, 33, 34, 35, 36, 37, 38, 39, 40, 41, 42, 43, 44, 45, 46, 47, 48, 49, 50, 51, 52, 53, 54, 55, 56, 57, 58, 59, 60, 61, 62, 63, 64, 65, 66, 67, 68, 69, 70, 71, 72, 73, 74, 75, 76, 77, 78] [0, 1, 2, 3, 4, 5, 6, 7, 8, 9, 10, 11, 12, 13, 14, 15, 16, 63, 64, 65, 66, 67, 68, 69, 70, 71, 72, 73, 74, 75, 76, 77, 78, 17, 18, 19, 20, 21, 22, 23, 24, 25, 26, 27, 28, 29, 30, 31, 32, 33, 34, 35, 36, 37, 38, 39, 40, 41, 42, 43, 44, 45, 46, 47, 48, 49, 50, 51, 52, 53, 54, 55, 56, 57, 58, 59, 60, 61, 62] (wcX6_X5_17 cs a (k_w S_58 20 p1.toNatClampNeg x4_58) L) (by decide) hk hP1 (wbX6_X5_17 cs a (k_w S_58 20 p1.toNatClampNeg x4_58) L)
        have hD := hDA (k_w S_58 20 p1.toNatClampNeg x4_58) L
        refine lv_iload_n hx hb dX6_wears_93 rfl (lv_at hl 1 rfl) ?_
        refine lv_icmp_ne (tgt := 101) hx hb dX6_wears_94 (by decide) (fun c94 => ?_) (fun c94 => ?_)
        · have hd := dn_f c94 hd
          refine lv_iconst (v := (0 : Int32)) hx hb dX6_wears_101 (by decide) ?_
          exact Jo102 x4_58 (0 : Int32) (k_w S_58 20 p1.toNatClampNeg x4_58) _ _ _ hd (lv_sub hl [0, 1, 2, 3, 4] rfl) hP hS
        · have hd := dn_t c94 hd
          refine lv_iconst (v := (1 : Int32)) hx hb dX6_wears_97 (by decide) ?_
          refine lv_goto (tgt := 102) hx hb dX6_wears_98 (by decide) ?_
          exact Jo102 x4_58 (1 : Int32) (k_w S_58 20 p1.toNatClampNeg x4_58) _ _ _ hd (lv_sub hl [0, 1, 2, 3, 4] rfl) hP hS
  have Jo24 : ∀ (S_24 : Nat → Nat → Int32) (H : Heap) (locs : List Loc) (ls : Array Slot), nX6_wears_j24 S_24 L = some (r9, S9) → lv_has ls 6 [(0, .ref (a 0))] → va_P D vwCl (wX6 cs a S_24 L) H → va_S A s.heap H locs → W p l e (headSpec wsX6_wears ({ frames := 4, cells := 0, slots := 0, locals := 106 })).room s m ([.ref (a 0), .int p1, .int p2, .int p3] : List Value).toArray below meth c H locs 0 0 Q (F0 m 24 ls []) := by
    intro S_24 H locs ls hd hl hP hS
    have hD := hDA S_24 L
    unfold nX6_wears_j24 at hd
    refine lv_aload_n hx hb dX6_wears_24 rfl (lv_at hl 0 rfl) ?_
    obtain ⟨r25, S25, hq25, hd⟩ := dn_b2 hd
    have hF := k_self hD hS hA
    refine k_run_i (va_runV (As := []) (rest := []) ⟨hx, hb, hml, hown, hts⟩ (mX6_refusedAsBad l D cs a S_24 L r25 S25 hq25 _) (cwV 0 hts gX6_wears_X6_refusedAsBad rfl rfl rfl (by decide +kernel) ⟨Nat.le_of_ble_eq_true rfl, Nat.le_of_ble_eq_true rfl⟩) ⟨k_blind, va_recv hK hP (ci := 4) (q0 := 0) rfl rfl, k_pre hP hK hNn hD⟩ rfl rfl hl.1 rfl (lv_room (Nat.le_of_ble_eq_true rfl)) dX6_wears_25 ⟨Nat.le_of_ble_eq_true rfl, Nat.le_of_ble_eq_true rfl⟩) hS hF (fun H locs hP1 hk hS => ?_)
    have hP : va_P D vwCl (wX6 cs a S25 L) _ := hP1
    have hD := hDA S25 L
    obtain ⟨e1, e2⟩ := dn_s2 hd
    exact k_iret hx hb hr hQ hAe e1 (by rw [e2]) hP hS hlocks dX6_wears_28
  unfold nX6_wears at hd
  refine lv_aload_n hx hb dX6_wears_0 rfl (lv_at hl 0 rfl) ?_
  refine lv_iload_n hx hb dX6_wears_1 rfl (lv_at hl 1 rfl) ?_
  obtain ⟨r2, hq2, hd⟩ := dn_b1 hd
  have hF := k_self hD hS hA
  refine k_run_i (va_runV (As := [.int p1]) (rest := []) ⟨hx, hb, hml, hown, hts⟩ (mX6_isPerson l D cs a S L p1 r2 hq2 _) (cwV 1 hts gX6_wears_X6_isPerson rfl rfl rfl (by decide +kernel) ⟨Nat.le_of_ble_eq_true rfl, Nat.le_of_ble_eq_true rfl⟩) ⟨k_blind, va_recv hK hP (ci := 4) (q0 := 0) rfl rfl, k_pre hP hK hNn hD⟩ rfl rfl hl.1 rfl (lv_room (Nat.le_of_ble_eq_true rfl)) dX6_wears_2 ⟨Nat.le_of_ble_eq_true rfl, Nat.le_of_ble_eq_true rfl⟩) hS hF (fun H locs hP1 hk hS => ?_)
  have hP : va_P D vwCl (wX6 cs a S L) _ := hP1
  have hD := hDA S L
  refine lv_if_eq (tgt := 24) hx hb dX6_wears_5 (by decide) (fun c5 => ?_) (fun c5 => ?_)
  · have hd := dn_t c5 hd
    exact Jo24 S _ _ _ hd (lv_sub hl [0] rfl) hP hS
  · have hd := dn_f c5 hd
    refine lv_aload_n hx hb dX6_wears_8 rfl (lv_at hl 0 rfl) ?_
    refine lv_iload_n hx hb dX6_wears_9 rfl (lv_at hl 2 rfl) ?_
    obtain ⟨r10, hq10, hd⟩ := dn_b1 hd
    have hF := k_self hD hS hA
    refine k_run_i (va_runV (As := [.int p2]) (rest := []) ⟨hx, hb, hml, hown, hts⟩ (mX6_isThing l D cs a S L p2 r10 hq10 _) (cwV 1 hts gX6_wears_X6_isThing rfl rfl rfl (by decide +kernel) ⟨Nat.le_of_ble_eq_true rfl, Nat.le_of_ble_eq_true rfl⟩) ⟨k_blind, va_recv hK hP (ci := 4) (q0 := 0) rfl rfl, k_pre hP hK hNn hD⟩ rfl rfl hl.1 rfl (lv_room (Nat.le_of_ble_eq_true rfl)) dX6_wears_10 ⟨Nat.le_of_ble_eq_true rfl, Nat.le_of_ble_eq_true rfl⟩) hS hF (fun H locs hP1 hk hS => ?_)
    have hP : va_P D vwCl (wX6 cs a S L) _ := hP1
    have hD := hDA S L
    refine lv_if_eq (tgt := 24) hx hb dX6_wears_13 (by decide) (fun c13 => ?_) (fun c13 => ?_)
    · have hd := dn_t c13 hd
      exact Jo24 S _ _ _ hd (lv_sub hl [0] rfl) hP hS
    · have hd := dn_f c13 hd
      refine lv_iload_n hx hb dX6_wears_16 rfl (lv_at hl 3 rfl) ?_
      refine lv_iconst (v := (2 : Int32)) hx hb dX6_wears_17 (by decide) ?_
      obtain ⟨r18, hq18, hd⟩ := dn_b1 hd
      have hPc := k_P0 hP
      have hDc : va_D A ([] : va_W) := k_D0
      have hF := k_self hDc hS hA
      refine k_run_i (va_runS (As := [.int p3, .int (2 : Int32)]) (rest := []) ⟨hx, hb, hml, hown, hts⟩ (mX6_upTo l D cs  p3 (2 : Int32) r18 hq18 _) (va_cwS 2 hts gX6_wears_X6_upTo rfl rfl rfl (by decide +kernel) ⟨Nat.le_of_ble_eq_true rfl, Nat.le_of_ble_eq_true rfl⟩) ⟨k_blind, k_pre hPc hK hNn hDc⟩ rfl rfl hl.1 rfl (lv_room (Nat.le_of_ble_eq_true rfl)) dX6_wears_18 ⟨Nat.le_of_ble_eq_true rfl, Nat.le_of_ble_eq_true rfl⟩) hS hF (fun H locs hP1 hk hS => ?_)
      have hP : va_P D vwCl (wX6 cs a S L) _ := k_keep hP hk
      refine lv_if_ne (tgt := 29) hx hb dX6_wears_21 (by decide) (fun c21 => ?_) (fun c21 => ?_)
      · have hd := dn_f c21 hd
        refine lv_aload_n hx hb dX6_wears_29 rfl (lv_at hl 0 rfl) ?_
        refine va_get (D := D) (ci := 4) (v := .ref (a 1)) (C := RX6) (T := TX6) (N := 12) hx hb hts (fun w h => List.mem_cons_of_mem _ (List.mem_append_left _ (List.mem_append_left _ (List.mem_append_right _ h)))) hown hK hP 0 rfl rfl 0 (by decide) (hts (.fieldLink RX6 12 "LeastNeed" "now" "LLeastNeed$Valley;") (List.mem_of_getElem? (i := 1) rfl)) (fun _ h9 => h9) rfl dX6_wears_30 ?_
        refine va_get (D := D) (ci := 3) (v := .ref (a 9)) (C := RX5) (T := TX5) (N := 15) hx hb hts (fun w h => List.mem_cons_of_mem _ (List.mem_append_left _ (List.mem_append_right _ h))) hown hK hP 1 rfl rfl 7 (by decide) (hts (.fieldLink RX6 121 "LeastNeed$Valley" "holder" "[I") (List.mem_of_getElem? (i := 2) rfl)) (fun _ h9 => h9) rfl dX6_wears_33 ?_
        refine lv_iload_n hx hb dX6_wears_36 rfl (lv_at hl 2 rfl) ?_
        obtain ⟨hi37, hd⟩ := dn_i hd
        refine k_iald (D := D) (k := p2.toNatClampNeg) (by rfl) hx hb hK hP 9 1 rfl rfl hi37 dX6_wears_37 ?_
        refine lv_iload_n hx hb dX6_wears_38 rfl (lv_at hl 1 rfl) ?_
        refine lv_icmp_ne (tgt := 44) hx hb dX6_wears_39 (by decide) (fun c39 => ?_) (fun c39 => ?_)
        · have hd := dn_f c39 hd
          refine lv_aload_n hx hb dX6_wears_44 rfl (lv_at hl 0 rfl) ?_
          refine va_get (D := D) (ci := 4) (v := .ref (a 17)) (C := RX6) (T := TX6) (N := 12) hx hb hts (fun w h => List.mem_cons_of_mem _ (List.mem_append_left _ (List.mem_append_left _ (List.mem_append_right _ h)))) hown hK hP 0 rfl rfl 1 (by decide) (hts (.fieldLink RX6 16 "LeastNeed" "trial" "LLeastNeed$Valley;") (List.mem_of_getElem? (i := 3) rfl)) (fun _ h9 => h9) rfl dX6_wears_45 ?_
          refine lv_aload_n hx hb dX6_wears_48 rfl (lv_at hl 0 rfl) ?_
          refine va_get (D := D) (ci := 4) (v := .ref (a 1)) (C := RX6) (T := TX6) (N := 12) hx hb hts (fun w h => List.mem_cons_of_mem _ (List.mem_append_left _ (List.mem_append_left _ (List.mem_append_right _ h)))) hown hK hP 0 rfl rfl 0 (by decide) (hts (.fieldLink RX6 12 "LeastNeed" "now" "LLeastNeed$Valley;") (List.mem_of_getElem? (i := 1) rfl)) (fun _ h9 => h9) rfl dX6_wears_49 ?_
          obtain ⟨S52, hq52, hd⟩ := dn_b1 hd
          have hPc : va_P D vwCl (wX5 cs (k_wi a 17) (k_wi S 17) ++ wX5 cs (k_wi a 1) (k_wi S 1)) _ := k_sub hP [17, 18, 19, 20, 21, 22, 23, 24, 25, 26, 27, 28, 29, 30, 31, 32, 1, 2, 3, 4, 5, 6, 7, 8, 9, 10, 11, 12, 13, 14, 15, 16] (wcX6_X5_X5_17_1 cs a S L)
          have hDc : va_D A (wX5 cs (k_wi a 17) (k_wi S 17) ++ wX5 cs (k_wi a 1) (k_wi S 1)) := hD.sub [17, 18, 19, 20, 21, 22, 23, 24, 25, 26, 27, 28, 29, 30, 31, 32, 1, 2, 3, 4, 5, 6, 7, 8, 9, 10, 11, 12, 13, 14, 15, 16] (by decide) (wcX6_X5_X5_17_1 cs a S L)
          have hF := k_self hDc hS hA
          refine k_run_v (va_runV (As := [.ref (a 1)]) (rest := []) ⟨hx, hb, hml, hown, hts⟩ (mX5_copyOf l D cs (k_wi a 17) (k_wi a 1) (k_wi S 17) (k_wi S 1) S52 hq52 _) (cwV 1 hts gX6_wears_X5_copyOf rfl rfl rfl (by decide +kernel) ⟨Nat.le_of_ble_eq_true rfl, Nat.le_of_ble_eq_true rfl⟩) ⟨k_blind, va_recv hK hP (ci := 3) (q0 := 17) rfl rfl, k_pre hPc hK hNn hDc⟩ rfl rfl hl.1 rfl (lv_room (Nat.le_of_ble_eq_true rfl)) dX6_wears_52 ⟨Nat.le_of_ble_eq_true rfl, Nat.le_of_ble_eq_true rfl⟩) hS hF (fun H locs hP1 hk hS => ?_)
          have hP : va_P D vwCl (wX6 cs a (k_sp S 17 16 S52) L) _ := k_back hP hD [17, 18, 19, 20, 21, 22, 23, 24, 25, 26, 27, 28, 29, 30, 31, 32, 1, 2, 3, 4, 5, 6, 7, 8, 9, 10, 11, 12, 13, 14, 15, 16] [0, 33, 34, 35, 36, 37, 38, 39, 40, 41, 42, 43, 44, 45, 46, 47, 48, 49, 50, 51, 52, 53, 54, 55, 56, 57, 58, 59, 60, 61, 62, 63, 64, 65, 66, 67, 68, 69, 70, 71, 72, 73, 74, 75, 76, 77, 78] [0, 63, 64, 65, 66, 67, 68, 69, 70, 71, 72, 73, 74, 75, 76, 77, 78, 47, 48, 49, 50, 51, 52, 53, 54, 55, 56, 57, 58, 59, 60, 61, 62, 1, 2, 3, 4, 5, 6, 7, 8, 9, 10, 11, 12, 13, 14, 15, 16, 17, 18, 19, 20, 21, 22, 23, 24, 25, 26, 27, 28, 29, 30, 31, 32, 33, 34, 35, 36, 37, 38, 39, 40, 41, 42, 43, 44, 45, 46] (wcX6_X5_X5_17_1 cs a S L) (by decide) hk hP1 (wbX6_X5_X5_17_1_S0 cs a S L S52)
          have hD := hDA (k_sp S 17 16 S52) L
          refine lv_iconst (v := (0 : Int32)) hx hb dX6_wears_55 (by decide) ?_
          refine lv_istore (lv' := [(4, .int (0 : Int32)), (0, .ref (a 0)), (1, .int p1), (2, .int p2), (3, .int p3)]) hx hb dX6_wears_56 hl (by decide) rfl (fun ls hl => ?_)
          exact Lo58 1000 (0 : Int32) (k_sp S 17 16 S52) _ _ _ hd (lv_sub hl [1, 2, 3, 4, 0] rfl) hP hS
        · have hd := dn_t c39 hd
          refine lv_iconst (v := (-1 : Int32)) hx hb dX6_wears_42 (by decide) ?_
          obtain ⟨e1, e2⟩ := dn_s2 hd
          exact k_iret hx hb hr hQ hAe e1 (by rw [e2]) hP hS hlocks dX6_wears_43
      · have hd := dn_t c21 hd
        exact Jo24 S _ _ _ hd (lv_sub hl [0] rfl) hP hS
