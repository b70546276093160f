theorem wsX3_f0_3 (cs : Nat → ClassId) (N : Nat) (Wd : Int32) (Md : Int32) (a : Nat → Nat) (S : Nat → Nat → Int32) (x : Int32) : List.set (wX3 cs N Wd Md a S) 0 (a 0, .inr (2, ([.int Wd, .int Md, .ref (a 1), .int (S 0 3)] : List Value).set 3 (.int x))) = (wX3 cs N Wd Md a (k_w S 0 3 x)) := rfl
theorem wsX3_a1 (cs : Nat → ClassId) (N : Nat) (Wd : Int32) (Md : Int32) (a : Nat → Nat) (S : Nat → Nat → Int32) (k : Nat) (x : Int32) : List.set (wX3 cs N Wd Md a S) 1 (a 1, .inl (cs 1, N, .inl (upd (S 1) k x))) = (wX3 cs N Wd Md a (k_w S 1 k x)) := rfl
theorem wsX3_r1 (cs : Nat → ClassId) (N : Nat) (Wd : Int32) (Md : Int32) (a : Nat → Nat) (S : Nat → Nat → Int32) (f : Nat → Int32) : List.set (wX3 cs N Wd Md a S) 1 (a 1, .inl (cs 1, N, .inl (f))) = (wX3 cs N Wd Md a (k_r S 1 f)) := rfl
theorem wsX3_X3_f0_3 (cs : Nat → ClassId) (N : Nat) (Wd : Int32) (Md : Int32) (N2 : Nat) (Wd2 : Int32) (Md2 : Int32) (a : Nat → Nat) (b : Nat → Nat) (S : Nat → Nat → Int32) (T : Nat → Nat → Int32) (x : Int32) : List.set (wX3 cs N Wd Md a S ++ wX3 cs N2 Wd2 Md2 b T) 0 (a 0, .inr (2, ([.int Wd, .int Md, .ref (a 1), .int (S 0 3)] : List Value).set 3 (.int x))) = (wX3 cs N Wd Md a (k_w S 0 3 x) ++ wX3 cs N2 Wd2 Md2 b T) := rfl
theorem wsaI_aI_r1 (cs : Nat → ClassId) (N : Nat) (N2 : Nat) (a : Nat → Nat) (b : Nat → Nat) (S : Nat → Nat → Int32) (T : Nat → Nat → Int32) (f : Nat → Int32) : List.set (wAI cs N a S ++ wAI cs N2 b T) 1 (b 0, .inl (cs 1, N2, .inl (f))) = (wAI cs N a S ++ wAI cs N2 b (k_r T 0 f)) := rfl
set_option maxRecDepth 20000 in
theorem wcX3_X3_aI_aI_1b_1 (cs : Nat → ClassId) (N : Nat) (Wd : Int32) (Md : Int32) (N2 : Nat) (Wd2 : Int32) (Md2 : Int32) (a : Nat → Nat) (b : Nat → Nat) (S : Nat → Nat → Int32) (T : Nat → Nat → Int32) : ([3, 1] : List Nat).map (fun i => (wX3 cs N Wd Md a S ++ wX3 cs N2 Wd2 Md2 b T)[i]?) = (wAI cs N2 (k_wi b 1) (k_wi T 1) ++ wAI cs N (k_wi a 1) (k_wi S 1)).map some := rfl
set_option maxRecDepth 20000 in
theorem wbX3_X3_aI_aI_1b_1_S1 (cs : Nat → ClassId) (N : Nat) (Wd : Int32) (Md : Int32) (N2 : Nat) (Wd2 : Int32) (Md2 : Int32) (a : Nat → Nat) (b : Nat → Nat) (S : Nat → Nat → Int32) (T : Nat → Nat → Int32) (VS1 : Nat → Nat → Int32) : ([0, 3, 1, 2] : List Nat).map (fun i => (([0, 2] : List Nat).filterMap (fun i => (wX3 cs N Wd Md a S ++ wX3 cs N2 Wd2 Md2 b T)[i]?) ++ (wAI cs N2 (k_wi b 1) (k_wi T 1) ++ wAI cs N (k_wi a 1) VS1))[i]?) = (wX3 cs N Wd Md a (k_sp S 1 1 VS1) ++ wX3 cs N2 Wd2 Md2 b T).map some := rfl
theorem wsX5_f0_12 (cs : Nat → ClassId) (a : Nat → Nat) (S : Nat → Nat → Int32) (x : Int32) : List.set (wX5 cs a S) 0 (a 0, .inr (3, ([.ref (a 1), .ref (a 2), .ref (a 3), .ref (a 4), .ref (a 5), .ref (a 6), .ref (a 7), .ref (a 8), .ref (a 9), .ref (a 10), .ref (a 12), .ref (a 14), .int (S 0 12), .int (S 0 13), .int (S 0 14)] : List Value).set 12 (.int x))) = (wX5 cs a (k_w S 0 12 x)) := rfl
theorem wsX5_f0_13 (cs : Nat → ClassId) (a : Nat → Nat) (S : Nat → Nat → Int32) (x : Int32) : List.set (wX5 cs a S) 0 (a 0, .inr (3, ([.ref (a 1), .ref (a 2), .ref (a 3), .ref (a 4), .ref (a 5), .ref (a 6), .ref (a 7), .ref (a 8), .ref (a 9), .ref (a 10), .ref (a 12), .ref (a 14), .int (S 0 12), .int (S 0 13), .int (S 0 14)] : List Value).set 13 (.int x))) = (wX5 cs a (k_w S 0 13 x)) := rfl
theorem wsX5_f0_14 (cs : Nat → ClassId) (a : Nat → Nat) (S : Nat → Nat → Int32) (x : Int32) : List.set (wX5 cs a S) 0 (a 0, .inr (3, ([.ref (a 1), .ref (a 2), .ref (a 3), .ref (a 4), .ref (a 5), .ref (a 6), .ref (a 7), .ref (a 8), .ref (a 9), .ref (a 10), .ref (a 12), .ref (a 14), .int (S 0 12), .int (S 0 13), .int (S 0 14)] : List Value).set 14 (.int x))) = (wX5 cs a (k_w S 0 14 x)) := rfl
theorem wsX5_f10_3 (cs : Nat → ClassId) (a : Nat → Nat) (S : Nat → Nat → Int32) (x : Int32) : List.set (wX5 cs a S) 10 (a 10, .inr (2, ([.int 6, .int 6, .ref (a 11), .int (S 10 3)] : List Value).set 3 (.int x))) = (wX5 cs a (k_w S 10 3 x)) := rfl
theorem wsX5_f12_3 (cs : Nat → ClassId) (a : Nat → Nat) (S : Nat → Nat → Int32) (x : Int32) : List.set (wX5 cs a S) 12 (a 12, .inr (2, ([.int 4, .int 6, .ref (a 13), .int (S 12 3)] : List Value).set 3 (.int x))) = (wX5 cs a (k_w S 12 3 x)) := rfl
theorem wsX5_f14_3 (cs : Nat → ClassId) (a : Nat → Nat) (S : Nat → Nat → Int32) (x : Int32) : List.set (wX5 cs a S) 14 (a 14, .inr (2, ([.int 18, .int 8, .ref (a 15), .int (S 14 3)] : List Value).set 3 (.int x))) = (wX5 cs a (k_w S 14 3 x)) := rfl
set_option maxRecDepth 20000 in
theorem wcX5_X5_aI_aI_1b_1 (cs : Nat → ClassId) (a : Nat → Nat) (b : Nat → Nat) (S : Nat → Nat → Int32) (T : Nat → Nat → Int32) : ([17, 1] : List Nat).map (fun i => (wX5 cs a S ++ wX5 cs b T)[i]?) = (wAI cs 7 (k_wi b 1) (k_wi T 1) ++ wAI cs 7 (k_wi a 1) (k_wi S 1)).map some := rfl
set_option maxRecDepth 20000 in
theorem wbX5_X5_aI_aI_1b_1_S1 (cs : Nat → ClassId) (a : Nat → Nat) (b : Nat → Nat) (S : Nat → Nat → Int32) (T : Nat → Nat → Int32) (VS1 : Nat → Nat → Int32) : ([0, 31, 1, 2, 3, 4, 5, 6, 7, 8, 9, 10, 11, 12, 13, 14, 15, 30, 16, 17, 18, 19, 20, 21, 22, 23, 24, 25, 26, 27, 28, 29] : List Nat).map (fun i => (([0, 2, 3, 4, 5, 6, 7, 8, 9, 10, 11, 12, 13, 14, 15, 16, 18, 19, 20, 21, 22, 23, 24, 25, 26, 27, 28, 29, 30, 31] : List Nat).filterMap (fun i => (wX5 cs a S ++ wX5 cs b T)[i]?) ++ (wAI cs 7 (k_wi b 1) (k_wi T 1) ++ wAI cs 7 (k_wi a 1) VS1))[i]?) = (wX5 cs a (k_sp S 1 1 VS1) ++ wX5 cs b T).map some := rfl
set_option maxRecDepth 20000 in
theorem wcX5_X5_aI_aI_2b_2 (cs : Nat → ClassId) (a : Nat → Nat) (b : Nat → Nat) (S : Nat → Nat → Int32) (T : Nat → Nat → Int32) : ([18, 2] : List Nat).map (fun i => (wX5 cs a S ++ wX5 cs b T)[i]?) = (wAI cs 7 (k_wi b 2) (k_wi T 2) ++ wAI cs 7 (k_wi a 2) (k_wi S 2)).map some := rfl
set_option maxRecDepth 20000 in
theorem wbX5_X5_aI_aI_2b_2_S1 (cs : Nat → ClassId) (a : Nat → Nat) (b : Nat → Nat) (S : Nat → Nat → Int32) (T : Nat → Nat → Int32) (VS1 : Nat → Nat → Int32) : ([0, 1, 31, 2, 3, 4, 5, 6, 7, 8, 9, 10, 11, 12, 13, 14, 15, 16, 30, 17, 18, 19, 20, 21, 22, 23, 24, 25, 26, 27, 28, 29] : List Nat).map (fun i => (([0, 1, 3, 4, 5, 6, 7, 8, 9, 10, 11, 12, 13, 14, 15, 16, 17, 19, 20, 21, 22, 23, 24, 25, 26, 27, 28, 29, 30, 31] : List Nat).filterMap (fun i => (wX5 cs a S ++ wX5 cs b T)[i]?) ++ (wAI cs 7 (k_wi b 2) (k_wi T 2) ++ wAI cs 7 (k_wi a 2) VS1))[i]?) = (wX5 cs a (k_sp S 2 1 VS1) ++ wX5 cs b T).map some := rfl
set_option maxRecDepth 20000 in
theorem wcX5_X5_aI_aI_3b_3 (cs : Nat → ClassId) (a : Nat → Nat) (b : Nat → Nat) (S : Nat → Nat → Int32) (T : Nat → Nat → Int32) : ([19, 3] : List Nat).map (fun i => (wX5 cs a S ++ wX5 cs b T)[i]?) = (wAI cs 7 (k_wi b 3) (k_wi T 3) ++ wAI cs 7 (k_wi a 3) (k_wi S 3)).map some := rfl
set_option maxRecDepth 20000 in
theorem wbX5_X5_aI_aI_3b_3_S1 (cs : Nat → ClassId) (a : Nat → Nat) (b : Nat → Nat) (S : Nat → Nat → Int32) (T : Nat → Nat → Int32) (VS1 : Nat → Nat → Int32) : ([0, 1, 2, 31, 3, 4, 5, 6, 7, 8, 9, 10, 11, 12, 13, 14, 15, 16, 17, 30, 18, 19, 20, 21, 22, 23, 24, 25, 26, 27, 28, 29] : List Nat).map (fun i => (([0, 1, 2, 4, 5, 6, 7, 8, 9, 10, 11, 12, 13, 14, 15, 16, 17, 18, 20, 21, 22, 23, 24, 25, 26, 27, 28, 29, 30, 31] : List Nat).filterMap (fun i => (wX5 cs a S ++ wX5 cs b T)[i]?) ++ (wAI cs 7 (k_wi b 3) (k_wi T 3) ++ wAI cs 7 (k_wi a 3) VS1))[i]?) = (wX5 cs a (k_sp S 3 1 VS1) ++ wX5 cs b T).map some := rfl
set_option maxRecDepth 20000 in
theorem wcX5_X5_aI_aI_4b_4 (cs : Nat → ClassId) (a : Nat → Nat) (b : Nat → Nat) (S : Nat → Nat → Int32) (T : Nat → Nat → Int32) : ([20, 4] : List Nat).map (fun i => (wX5 cs a S ++ wX5 cs b T)[i]?) = (wAI cs 28 (k_wi b 4) (k_wi T 4) ++ wAI cs 28 (k_wi a 4) (k_wi S 4)).map some := rfl
set_option maxRecDepth 20000 in
theorem wbX5_X5_aI_aI_4b_4_S1 (cs : Nat → ClassId) (a : Nat → Nat) (b : Nat → Nat) (S : Nat → Nat → Int32) (T : Nat → Nat → Int32) (VS1 : Nat → Nat → Int32) : ([0, 1, 2, 3, 31, 4, 5, 6, 7, 8, 9, 10, 11, 12, 13, 14, 15, 16, 17, 18, 30, 19, 20, 21, 22, 23, 24, 25, 26, 27, 28, 29] : List Nat).map (fun i => (([0, 1, 2, 3, 5, 6, 7, 8, 9, 10, 11, 12, 13, 14, 15, 16, 17, 18, 19, 21, 22, 23, 24, 25, 26, 27, 28, 29, 30, 31] : List Nat).filterMap (fun i => (wX5 cs a S ++ wX5 cs b T)[i]?) ++ (wAI cs 28 (k_wi b 4) (k_wi T 4) ++ wAI cs 28 (k_wi a 4) VS1))[i]?) = (wX5 cs a (k_sp S 4 1 VS1) ++ wX5 cs b T).map some := rfl
set_option maxRecDepth 20000 in
theorem wcX5_X5_aI_aI_5b_5 (cs : Nat → ClassId) (a : Nat → Nat) (b : Nat → Nat) (S : Nat → Nat → Int32) (T : Nat → Nat → Int32) : ([21, 5] : List Nat).map (fun i => (wX5 cs a S ++ wX5 cs b T)[i]?) = (wAI cs 5 (k_wi b 5) (k_wi T 5) ++ wAI cs 5 (k_wi a 5) (k_wi S 5)).map some := rfl
set_option maxRecDepth 20000 in
theorem wbX5_X5_aI_aI_5b_5_S1 (cs : Nat → ClassId) (a : Nat → Nat) (b : Nat → Nat) (S : Nat → Nat → Int32) (T : Nat → Nat → Int32) (VS1 : Nat → Nat → Int32) : ([0, 1, 2, 3, 4, 31, 5, 6, 7, 8, 9, 10, 11, 12, 13, 14, 15, 16, 17, 18, 19, 30, 20, 21, 22, 23, 24, 25, 26, 27, 28, 29] : List Nat).map (fun i => (([0, 1, 2, 3, 4, 6, 7, 8, 9, 10, 11, 12, 13, 14, 15, 16, 17, 18, 19, 20, 22, 23, 24, 25, 26, 27, 28, 29, 30, 31] : List Nat).filterMap (fun i => (wX5 cs a S ++ wX5 cs b T)[i]?) ++ (wAI cs 5 (k_wi b 5) (k_wi T 5) ++ wAI cs 5 (k_wi a 5) VS1))[i]?) = (wX5 cs a (k_sp S 5 1 VS1) ++ wX5 cs b T).map some := rfl
set_option maxRecDepth 20000 in
theorem wcX5_X5_aI_aI_6b_6 (cs : Nat → ClassId) (a : Nat → Nat) (b : Nat → Nat) (S : Nat → Nat → Int32) (T : Nat → Nat → Int32) : ([22, 6] : List Nat).map (fun i => (wX5 cs a S ++ wX5 cs b T)[i]?) = (wAI cs 5 (k_wi b 6) (k_wi T 6) ++ wAI cs 5 (k_wi a 6) (k_wi S 6)).map some := rfl
set_option maxRecDepth 20000 in
theorem wbX5_X5_aI_aI_6b_6_S1 (cs : Nat → ClassId) (a : Nat → Nat) (b : Nat → Nat) (S : Nat → Nat → Int32) (T : Nat → Nat → Int32) (VS1 : Nat → Nat → Int32) : ([0, 1, 2, 3, 4, 5, 31, 6, 7, 8, 9, 10, 11, 12, 13, 14, 15, 16, 17, 18, 19, 20, 30, 21, 22, 23, 24, 25, 26, 27, 28, 29] : List Nat).map (fun i => (([0, 1, 2, 3, 4, 5, 7, 8, 9, 10, 11, 12, 13, 14, 15, 16, 17, 18, 19, 20, 21, 23, 24, 25, 26, 27, 28, 29, 30, 31] : List Nat).filterMap (fun i => (wX5 cs a S ++ wX5 cs b T)[i]?) ++ (wAI cs 5 (k_wi b 6) (k_wi T 6) ++ wAI cs 5 (k_wi a 6) VS1))[i]?) = (wX5 cs a (k_sp S 6 1 VS1) ++ wX5 cs b T).map some := rfl
set_option maxRecDepth 20000 in
theorem wcX5_X5_aI_aI_7b_7 (cs : Nat → ClassId) (a : Nat → Nat) (b : Nat → Nat) (S : Nat → Nat → Int32) (T : Nat → Nat → Int32) : ([23, 7] : List Nat).map (fun i => (wX5 cs a S ++ wX5 cs b T)[i]?) = (wAI cs 5 (k_wi b 7) (k_wi T 7) ++ wAI cs 5 (k_wi a 7) (k_wi S 7)).map some := rfl
set_option maxRecDepth 20000 in
theorem wbX5_X5_aI_aI_7b_7_S1 (cs : Nat → ClassId) (a : Nat → Nat) (b : Nat → Nat) (S : Nat → Nat → Int32) (T : Nat → Nat → Int32) (VS1 : Nat → Nat → Int32) : ([0, 1, 2, 3, 4, 5, 6, 31, 7, 8, 9, 10, 11, 12, 13, 14, 15, 16, 17, 18, 19, 20, 21, 30, 22, 23, 24, 25, 26, 27, 28, 29] : List Nat).map (fun i => (([0, 1, 2, 3, 4, 5, 6, 8, 9, 10, 11, 12, 13, 14, 15, 16, 17, 18, 19, 20, 21, 22, 24, 25, 26, 27, 28, 29, 30, 31] : List Nat).filterMap (fun i => (wX5 cs a S ++ wX5 cs b T)[i]?) ++ (wAI cs 5 (k_wi b 7) (k_wi T 7) ++ wAI cs 5 (k_wi a 7) VS1))[i]?) = (wX5 cs a (k_sp S 7 1 VS1) ++ wX5 cs b T).map some := rfl
set_option maxRecDepth 20000 in
theorem wcX5_X5_aI_aI_8b_8 (cs : Nat → ClassId) (a : Nat → Nat) (b : Nat → Nat) (S : Nat → Nat → Int32) (T : Nat → Nat → Int32) : ([24, 8] : List Nat).map (fun i => (wX5 cs a S ++ wX5 cs b T)[i]?) = (wAI cs 5 (k_wi b 8) (k_wi T 8) ++ wAI cs 5 (k_wi a 8) (k_wi S 8)).map some := rfl
set_option maxRecDepth 20000 in
theorem wbX5_X5_aI_aI_8b_8_S1 (cs : Nat → ClassId) (a : Nat → Nat) (b : Nat → Nat) (S : Nat → Nat → Int32) (T : Nat → Nat → Int32) (VS1 : Nat → Nat → Int32) : ([0, 1, 2, 3, 4, 5, 6, 7, 31, 8, 9, 10, 11, 12, 13, 14, 15, 16, 17, 18, 19, 20, 21, 22, 30, 23, 24, 25, 26, 27, 28, 29] : List Nat).map (fun i => (([0, 1, 2, 3, 4, 5, 6, 7, 9, 10, 11, 12, 13, 14, 15, 16, 17, 18, 19, 20, 21, 22, 23, 25, 26, 27, 28, 29, 30, 31] : List Nat).filterMap (fun i => (wX5 cs a S ++ wX5 cs b T)[i]?) ++ (wAI cs 5 (k_wi b 8) (k_wi T 8) ++ wAI cs 5 (k_wi a 8) VS1))[i]?) = (wX5 cs a (k_sp S 8 1 VS1) ++ wX5 cs b T).map some := rfl
set_option maxRecDepth 20000 in
theorem wcX5_X5_aI_aI_9b_9 (cs : Nat → ClassId) (a : Nat → Nat) (b : Nat → Nat) (S : Nat → Nat → Int32) (T : Nat → Nat → Int32) : ([25, 9] : List Nat).map (fun i => (wX5 cs a S ++ wX5 cs b T)[i]?) = (wAI cs 5 (k_wi b 9) (k_wi T 9) ++ wAI cs 5 (k_wi a 9) (k_wi S 9)).map some := rfl
set_option maxRecDepth 20000 in
theorem wbX5_X5_aI_aI_9b_9_S1 (cs : Nat → ClassId) (a : Nat → Nat) (b : Nat → Nat) (S : Nat → Nat → Int32) (T : Nat → Nat → Int32) (VS1 : Nat → Nat → Int32) : ([0, 1, 2, 3, 4, 5, 6, 7, 8, 31, 9, 10, 11, 12, 13, 14, 15, 16, 17, 18, 19, 20, 21, 22, 23, 30, 24, 25, 26, 27, 28, 29] : List Nat).map (fun i => (([0, 1, 2, 3, 4, 5, 6, 7, 8, 10, 11, 12, 13, 14, 15, 16, 17, 18, 19, 20, 21, 22, 23, 24, 26, 27, 28, 29, 30, 31] : List Nat).filterMap (fun i => (wX5 cs a S ++ wX5 cs b T)[i]?) ++ (wAI cs 5 (k_wi b 9) (k_wi T 9) ++ wAI cs 5 (k_wi a 9) VS1))[i]?) = (wX5 cs a (k_sp S 9 1 VS1) ++ wX5 cs b T).map some := rfl
set_option maxRecDepth 20000 in
theorem wcX5_X5_X3_X3_10_10b (cs : Nat → ClassId) (a : Nat → Nat) (b : Nat → Nat) (S : Nat → Nat → Int32) (T : Nat → Nat → Int32) : ([10, 11, 26, 27] : List Nat).map (fun i => (wX5 cs a S ++ wX5 cs b T)[i]?) = (wX3 cs 36 (6 : Int32) (6 : Int32) (k_wi a 10) (k_wi S 10) ++ wX3 cs 36 (6 : Int32) (6 : Int32) (k_wi b 10) (k_wi T 10)).map some := rfl
set_option maxRecDepth 20000 in
theorem wbX5_X5_X3_X3_10_10b_S0 (cs : Nat → ClassId) (a : Nat → Nat) (b : Nat → Nat) (S : Nat → Nat → Int32) (T : Nat → Nat → Int32) (VS0 : Nat → Nat → Int32) : ([0, 1, 2, 3, 4, 5, 6, 7, 8, 9, 28, 29, 10, 11, 12, 13, 14, 15, 16, 17, 18, 19, 20, 21, 22, 23, 30, 31, 24, 25, 26, 27] : List Nat).map (fun i => (([0, 1, 2, 3, 4, 5, 6, 7, 8, 9, 12, 13, 14, 15, 16, 17, 18, 19, 20, 21, 22, 23, 24, 25, 28, 29, 30, 31] : List Nat).filterMap (fun i => (wX5 cs a S ++ wX5 cs b T)[i]?) ++ (wX3 cs 36 (6 : Int32) (6 : Int32) (k_wi a 10) VS0 ++ wX3 cs 36 (6 : Int32) (6 : Int32) (k_wi b 10) (k_wi T 10)))[i]?) = (wX5 cs a (k_sp S 10 2 VS0) ++ wX5 cs b T).map some := rfl
set_option maxRecDepth 20000 in
theorem wcX5_X5_X3_X3_12_12b (cs : Nat → ClassId) (a : Nat → Nat) (b : Nat → Nat) (S : Nat → Nat → Int32) (T : Nat → Nat → Int32) : ([12, 13, 28, 29] : List Nat).map (fun i => (wX5 cs a S ++ wX5 cs b T)[i]?) = (wX3 cs 24 (4 : Int32) (6 : Int32) (k_wi a 12) (k_wi S 12) ++ wX3 cs 24 (4 : Int32) (6 : Int32) (k_wi b 12) (k_wi T 12)).map some := rfl
set_option maxRecDepth 20000 in
theorem wbX5_X5_X3_X3_12_12b_S0 (cs : Nat → ClassId) (a : Nat → Nat) (b : Nat → Nat) (S : Nat → Nat → Int32) (T : Nat → Nat → Int32) (VS0 : Nat → Nat → Int32) : ([0, 1, 2, 3, 4, 5, 6, 7, 8, 9, 10, 11, 28, 29, 12, 13, 14, 15, 16, 17, 18, 19, 20, 21, 22, 23, 24, 25, 30, 31, 26, 27] : List Nat).map (fun i => (([0, 1, 2, 3, 4, 5, 6, 7, 8, 9, 10, 11, 14, 15, 16, 17, 18, 19, 20, 21, 22, 23, 24, 25, 26, 27, 30, 31] : List Nat).filterMap (fun i => (wX5 cs a S ++ wX5 cs b T)[i]?) ++ (wX3 cs 24 (4 : Int32) (6 : Int32) (k_wi a 12) VS0 ++ wX3 cs 24 (4 : Int32) (6 : Int32) (k_wi b 12) (k_wi T 12)))[i]?) = (wX5 cs a (k_sp S 12 2 VS0) ++ wX5 cs b T).map some := rfl
set_option maxRecDepth 20000 in
theorem wcX5_X5_X3_X3_14_14b (cs : Nat → ClassId) (a : Nat → Nat) (b : Nat → Nat) (S : Nat → Nat → Int32) (T : Nat → Nat → Int32) : ([14, 15, 30, 31] : List Nat).map (fun i => (wX5 cs a S ++ wX5 cs b T)[i]?) = (wX3 cs 144 (18 : Int32) (8 : Int32) (k_wi a 14) (k_wi S 14) ++ wX3 cs 144 (18 : Int32) (8 : Int32) (k_wi b 14) (k_wi T 14)).map some := rfl
set_option maxRecDepth 20000 in
theorem wbX5_X5_X3_X3_14_14b_S0 (cs : Nat → ClassId) (a : Nat → Nat) (b : Nat → Nat) (S : Nat → Nat → Int32) (T : Nat → Nat → Int32) (VS0 : Nat → Nat → Int32) : ([0, 1, 2, 3, 4, 5, 6, 7, 8, 9, 10, 11, 12, 13, 28, 29, 14, 15, 16, 17, 18, 19, 20, 21, 22, 23, 24, 25, 26, 27, 30, 31] : List Nat).map (fun i => (([0, 1, 2, 3, 4, 5, 6, 7, 8, 9, 10, 11, 12, 13, 16, 17, 18, 19, 20, 21, 22, 23, 24, 25, 26, 27, 28, 29] : List Nat).filterMap (fun i => (wX5 cs a S ++ wX5 cs b T)[i]?) ++ (wX3 cs 144 (18 : Int32) (8 : Int32) (k_wi a 14) VS0 ++ wX3 cs 144 (18 : Int32) (8 : Int32) (k_wi b 14) (k_wi T 14)))[i]?) = (wX5 cs a (k_sp S 14 2 VS0) ++ wX5 cs b T).map some := rfl
theorem wsX5_X5_f0_12 (cs : Nat → ClassId) (a : Nat → Nat) (b : Nat → Nat) (S : Nat → Nat → Int32) (T : Nat → Nat → Int32) (x : Int32) : List.set (wX5 cs a S ++ wX5 cs b T) 0 (a 0, .inr (3, ([.ref (a 1), .ref (a 2), .ref (a 3), .ref (a 4), .ref (a 5), .ref (a 6), .ref (a 7), .ref (a 8), .ref (a 9), .ref (a 10), .ref (a 12), .ref (a 14), .int (S 0 12), .int (S 0 13), .int (S 0 14)] : List Value).set 12 (.int x))) = (wX5 cs a (k_w S 0 12 x) ++ wX5 cs b T) := rfl
theorem wsX5_X5_f0_13 (cs : Nat → ClassId) (a : Nat → Nat) (b : Nat → Nat) (S : Nat → Nat → Int32) (T : Nat → Nat → Int32) (x : Int32) : List.set (wX5 cs a S ++ wX5 cs b T) 0 (a 0, .inr (3, ([.ref (a 1), .ref (a 2), .ref (a 3), .ref (a 4), .ref (a 5), .ref (a 6), .ref (a 7), .ref (a 8), .ref (a 9), .ref (a 10), .ref (a 12), .ref (a 14), .int (S 0 12), .int (S 0 13), .int (S 0 14)] : List Value).set 13 (.int x))) = (wX5 cs a (k_w S 0 13 x) ++ wX5 cs b T) := rfl
theorem wsX5_X5_f0_14 (cs : Nat → ClassId) (a : Nat → Nat) (b : Nat → Nat) (S : Nat → Nat → Int32) (T : Nat → Nat → Int32) (x : Int32) : List.set (wX5 cs a S ++ wX5 cs b T) 0 (a 0, .inr (3, ([.ref (a 1), .ref (a 2), .ref (a 3), .ref (a 4), .ref (a 5), .ref (a 6), .ref (a 7), .ref (a 8), .ref (a 9), .ref (a 10), .ref (a 12), .ref (a 14), .int (S 0 12), .int (S 0 13), .int (S 0 14)] : List Value).set 14 (.int x))) = (wX5 cs a (k_w S 0 14 x) ++ wX5 cs b T) := rfl
theorem wsX5_a1 (cs : Nat → ClassId) (a : Nat → Nat) (S : Nat → Nat → Int32) (k : Nat) (x : Int32) : List.set (wX5 cs a S) 1 (a 1, .inl (cs 1, 7, .inl (upd (S 1) k x))) = (wX5 cs a (k_w S 1 k x)) := rfl
theorem wsX5_a2 (cs : Nat → ClassId) (a : Nat → Nat) (S : Nat → Nat → Int32) (k : Nat) (x : Int32) : List.set (wX5 cs a S) 2 (a 2, .inl (cs 1, 7, .inl (upd (S 2) k x))) = (wX5 cs a (k_w S 2 k x)) := rfl
theorem wsX5_a3 (cs : Nat → ClassId) (a : Nat → Nat) (S : Nat → Nat → Int32) (k : Nat) (x : Int32) : List.set (wX5 cs a S) 3 (a 3, .inl (cs 1, 7, .inl (upd (S 3) k x))) = (wX5 cs a (k_w S 3 k x)) := rfl
theorem wsX5_a4 (cs : Nat → ClassId) (a : Nat → Nat) (S : Nat → Nat → Int32) (k : Nat) (x : Int32) : List.set (wX5 cs a S) 4 (a 4, .inl (cs 1, 28, .inl (upd (S 4) k x))) = (wX5 cs a (k_w S 4 k x)) := rfl
theorem wsX5_a5 (cs : Nat → ClassId) (a : Nat → Nat) (S : Nat → Nat → Int32) (k : Nat) (x : Int32) : List.set (wX5 cs a S) 5 (a 5, .inl (cs 1, 5, .inl (upd (S 5) k x))) = (wX5 cs a (k_w S 5 k x)) := rfl
theorem wsX5_a6 (cs : Nat → ClassId) (a : Nat → Nat) (S : Nat → Nat → Int32) (k : Nat) (x : Int32) : List.set (wX5 cs a S) 6 (a 6, .inl (cs 1, 5, .inl (upd (S 6) k x))) = (wX5 cs a (k_w S 6 k x)) := rfl
theorem wsX5_a7 (cs : Nat → ClassId) (a : Nat → Nat) (S : Nat → Nat → Int32) (k : Nat) (x : Int32) : List.set (wX5 cs a S) 7 (a 7, .inl (cs 1, 5, .inl (upd (S 7) k x))) = (wX5 cs a (k_w S 7 k x)) := rfl
theorem wsX5_a8 (cs : Nat → ClassId) (a : Nat → Nat) (S : Nat → Nat → Int32) (k : Nat) (x : Int32) : List.set (wX5 cs a S) 8 (a 8, .inl (cs 1, 5, .inl (upd (S 8) k x))) = (wX5 cs a (k_w S 8 k x)) := rfl
theorem wsX5_a9 (cs : Nat → ClassId) (a : Nat → Nat) (S : Nat → Nat → Int32) (k : Nat) (x : Int32) : List.set (wX5 cs a S) 9 (a 9, .inl (cs 1, 5, .inl (upd (S 9) k x))) = (wX5 cs a (k_w S 9 k x)) := rfl
set_option maxRecDepth 20000 in
theorem wcX5_X3_14 (cs : Nat → ClassId) (a : Nat → Nat) (S : Nat → Nat → Int32) : ([14, 15] : List Nat).map (fun i => (wX5 cs a S)[i]?) = (wX3 cs 144 (18 : Int32) (8 : Int32) (k_wi a 14) (k_wi S 14)).map some := rfl
set_option maxRecDepth 20000 in
theorem wbX5_X3_14 (cs : Nat → ClassId) (a : Nat → Nat) (S : Nat → Nat → Int32) : ([0, 1, 2, 3, 4, 5, 6, 7, 8, 9, 10, 11, 12, 13, 14, 15] : List Nat).map (fun i => (([0, 1, 2, 3, 4, 5, 6, 7, 8, 9, 10, 11, 12, 13] : List Nat).filterMap (fun i => (wX5 cs a S)[i]?) ++ (wX3 cs 144 (18 : Int32) (8 : Int32) (k_wi a 14) (k_wi S 14)))[i]?) = (wX5 cs a S).map some := rfl
set_option maxRecDepth 20000 in
theorem wbX5_X3_14_S0 (cs : Nat → ClassId) (a : Nat → Nat) (S : Nat → Nat → Int32) (VS0 : Nat → Nat → Int32) : ([0, 1, 2, 3, 4, 5, 6, 7, 8, 9, 10, 11, 12, 13, 14, 15] : List Nat).map (fun i => (([0, 1, 2, 3, 4, 5, 6, 7, 8, 9, 10, 11, 12, 13] : List Nat).filterMap (fun i => (wX5 cs a S)[i]?) ++ (wX3 cs 144 (18 : Int32) (8 : Int32) (k_wi a 14) VS0))[i]?) = (wX5 cs a (k_sp S 14 2 VS0)).map some := rfl
set_option maxRecDepth 20000 in
theorem wcX5_X3_10 (cs : Nat → ClassId) (a : Nat → Nat) (S : Nat → Nat → Int32) : ([10, 11] : List Nat).map (fun i => (wX5 cs a S)[i]?) = (wX3 cs 36 (6 : Int32) (6 : Int32) (k_wi a 10) (k_wi S 10)).map some := rfl
set_option maxRecDepth 20000 in
theorem wbX5_X3_10 (cs : Nat → ClassId) (a : Nat → Nat) (S : Nat → Nat → Int32) : ([0, 1, 2, 3, 4, 5, 6, 7, 8, 9, 14, 15, 10, 11, 12, 13] : List Nat).map (fun i => (([0, 1, 2, 3, 4, 5, 6, 7, 8, 9, 12, 13, 14, 15] : List Nat).filterMap (fun i => (wX5 cs a S)[i]?) ++ (wX3 cs 36 (6 : Int32) (6 : Int32) (k_wi a 10) (k_wi S 10)))[i]?) = (wX5 cs a S).map some := rfl
set_option maxRecDepth 20000 in
theorem wcX5_X3_12 (cs : Nat → ClassId) (a : Nat → Nat) (S : Nat → Nat → Int32) : ([12, 13] : List Nat).map (fun i => (wX5 cs a S)[i]?) = (wX3 cs 24 (4 : Int32) (6 : Int32) (k_wi a 12) (k_wi S 12)).map some := rfl
set_option maxRecDepth 20000 in
theorem wbX5_X3_12 (cs : Nat → ClassId) (a : Nat → Nat) (S : Nat → Nat → Int32) : ([0, 1, 2, 3, 4, 5, 6, 7, 8, 9, 10, 11, 14, 15, 12, 13] : List Nat).map (fun i => (([0, 1, 2, 3, 4, 5, 6, 7, 8, 9, 10, 11, 14, 15] : List Nat).filterMap (fun i => (wX5 cs a S)[i]?) ++ (wX3 cs 24 (4 : Int32) (6 : Int32) (k_wi a 12) (k_wi S 12)))[i]?) = (wX5 cs a S).map some := rfl
-- LeastNeed$Rows.isFull()Z
set_option maxRecDepth 20000 in
def nX3_isFull (N : Nat) (Wd : Int32) (Md : Int32) (S : Nat → Nat → Int32) : Option (Int32) := if (S 0 3) < Md then some (0 : Int32) else some (1 : Int32)
set_option maxHeartbeats 4000000 in
set_option maxRecDepth 100000 in
theorem mX3_isFull (l : Launch) (D : va_G) (cs : Nat → ClassId) (a : Nat → Nat) (N : Nat) (Wd : Int32) (Md : Int32) (S : Nat → Nat → Int32) (r9 : Int32) (hd : nX3_isFull N Wd Md S = some r9) : ∀ sz : Nat, Met l yX3_isFull wsX3_isFull ({ frames := 0, cells := 0, slots := 0, locals := 0 }) (k_Pc D cs [.ref (a 0)] (wX3 cs N Wd Md a S) sz) (k_Qi D r9 (wX3 cs N Wd Md a S) (wX3 cs N Wd Md a S) sz) 0 0 (va_A (wX3 cs N Wd Md a S) sz) := by
  intro sz
  refine Met.ofW (cc := cX3_isFull) (maxL := 1) (ret := (some .boolean)) (by decide) rfl ?_
  intro p e s m args below meth c s₁ B hml hv
  obtain ⟨rfl, hsz, hP, hK, hD0, hNn⟩ := hv
  have hx := B.exec
  have hb := B.bytes
  have hr := B.returns
  have hts := atoms_spec (ws := wsX3_isFull) B.pre
  have hown : s.vm.findClass RX3 = some m.cls := findClass_of_methodNamed B.named
  have hlocks := B.notSynchronized
  subst hsz
  obtain ⟨A, hAe⟩ : ∃ A : Nat → Prop, A = va_A (wX3 cs N Wd Md a S) s.heap.size := ⟨_, rfl⟩
  have hD : va_D A (wX3 cs N Wd Md a S) := by rw [hAe]; exact hD0.self
  have hA : ∀ q : Nat, s.heap.size ≤ q → A q := fun q h => by rw [hAe]; exact Or.inr h
  have hS : va_S A s.heap s.heap [] := va_S.rf
  have hDA : ∀ (S : Nat → Nat → Int32), va_D A (wX3 cs N Wd Md a S) := fun S => k_DA hD rfl
  have hl := lv_entry ([.ref (a 0)]) (n := 1) (Nat.le_of_ble_eq_true rfl)
  rw [lg_entry_eq]
  generalize (lg_sl ([.ref (a 0)]) ++ List.replicate (1 - (lg_sl ([.ref (a 0)])).length) Slot.unset).toArray = ls at hl ⊢
  have hl : lv_has ls 1 [(0, .ref (a 0))] := hl
  obtain ⟨Q, hQ⟩ : ∃ Q, Q = MQ below (k_Qi D r9 (wX3 cs N Wd Md a S) (wX3 cs N Wd Md a S) s.heap.size) ([.ref (a 0)] : List Value).toArray s 0 0 (va_A (wX3 cs N Wd Md a S) s.heap.size) := ⟨_, rfl⟩
  rw [← hQ]
  unfold nX3_isFull at hd
  refine lv_aload_n hx hb dX3_isFull_0 rfl (lv_at hl 0 rfl) ?_
  refine va_get (D := D) (ci := 2) (v := .int (S 0 3)) (C := RX3) (T := TX3) (N := 4) hx hb hts (fun w h => List.mem_cons_of_mem _ (List.mem_append_right _ h)) hown hK hP 0 rfl rfl 3 (by decide) (hts (.fieldLink RX3 20 "LeastNeed$Rows" "used" "I") (List.mem_of_getElem? (i := 1) rfl)) (fun _ h9 => h9) rfl dX3_isFull_1 ?_
  refine lv_aload_n hx hb dX3_isFull_4 rfl (lv_at hl 0 rfl) ?_
  refine va_get (D := D) (ci := 2) (v := .int Md) (C := RX3) (T := TX3) (N := 4) hx hb hts (fun w h => List.mem_cons_of_mem _ (List.mem_append_right _ h)) hown hK hP 0 rfl rfl 1 (by decide) (hts (.fieldLink RX3 13 "LeastNeed$Rows" "most" "I") (List.mem_of_getElem? (i := 2) rfl)) (fun _ h9 => h9) rfl dX3_isFull_5 ?_
  refine lv_icmp_lt (tgt := 15) hx hb dX3_isFull_8 (by decide) (fun c8 => ?_) (fun c8 => ?_)
  · have hd := dn_t c8 hd
    refine lv_iconst (v := (0 : Int32)) hx hb dX3_isFull_15 (by decide) ?_
    have e1 := dn_s1 hd
    exact k_zret hx hb hr rfl hQ hAe e1 rfl hP hS hlocks dX3_isFull_16
  · have hd := dn_f c8 hd
    refine lv_iconst (v := (1 : Int32)) hx hb dX3_isFull_11 (by decide) ?_
    refine lv_goto (tgt := 16) hx hb dX3_isFull_12 (by decide) ?_
    have e1 := dn_s1 hd
    exact k_zret hx hb hr rfl hQ hAe e1 rfl hP hS hlocks dX3_isFull_16
-- LeastNeed$Rows.begin()V
set_option maxRecDepth 20000 in
def nX3_begin (N : Nat) (Wd : Int32) (Md : Int32) (S : Nat → Nat → Int32) : Option ((Nat → Nat → Int32)) := if Md ≤ (S 0 3) then some S else some (k_w S 0 3 ((S 0 3) + (1 : Int32)))
set_option maxHeartbeats 4000000 in
set_option maxRecDepth 100000 in
theorem mX3_begin (l : Launch) (D : va_G) (cs : Nat → ClassId) (a : Nat → Nat) (N : Nat) (Wd : Int32) (Md : Int32) (S : Nat → Nat → Int32) (S9 : (Nat → Nat → Int32)) (hd : nX3_begin N Wd Md S = some S9) : ∀ sz : Nat, Met l yX3_begin wsX3_begin ({ frames := 0, cells := 0, slots := 0, locals := 0 }) (k_Pc D cs [.ref (a 0)] (wX3 cs N Wd Md a S) sz) (k_Qv D (wX3 cs N Wd Md a S) (wX3 cs N Wd Md a S9) sz) 0 0 (va_A (wX3 cs N Wd Md a S) sz) := by
  intro sz
  refine Met.ofW (cc := cX3_begin) (maxL := 1) (ret := none) (by decide) rfl ?_
  intro p e s m args below meth c s₁ B hml hv
  obtain ⟨rfl, hsz, hP, hK, hD0, hNn⟩ := hv
  have hx := B.exec
  have hb := B.bytes
  have hr := B.returns
  have hts := atoms_spec (ws := wsX3_begin) B.pre
  have hown : s.vm.findClass RX3 = some m.cls := findClass_of_methodNamed B.named
  have hlocks := B.notSynchronized
  subst hsz
  obtain ⟨A, hAe⟩ : ∃ A : Nat → Prop, A = va_A (wX3 cs N Wd Md a S) s.heap.size := ⟨_, rfl⟩
  have hD : va_D A (wX3 cs N Wd Md a S) := by rw [hAe]; exact hD0.self
  have hA : ∀ q : Nat, s.heap.size ≤ q → A q := fun q h => by rw [hAe]; exact Or.inr h
  have hS : va_S A s.heap s.heap [] := va_S.rf
  have hDA : ∀ (S : Nat → Nat → Int32), va_D A (wX3 cs N Wd Md a S) := fun S => k_DA hD rfl
  have hl := lv_entry ([.ref (a 0)]) (n := 1) (Nat.le_of_ble_eq_true rfl)
  rw [lg_entry_eq]
  generalize (lg_sl ([.ref (a 0)]) ++ List.replicate (1 - (lg_sl ([.ref (a 0)])).length) Slot.unset).toArray = ls at hl ⊢
  have hl : lv_has ls 1 [(0, .ref (a 0))] := hl
  obtain ⟨Q, hQ⟩ : ∃ Q, Q = MQ below (k_Qv D (wX3 cs N Wd Md a S) (wX3 cs N Wd Md a S9) s.heap.size) ([.ref (a 0)] : List Value).toArray s 0 0 (va_A (wX3 cs N Wd Md a S) s.heap.size) := ⟨_, rfl⟩
  rw [← hQ]
  unfold nX3_begin at hd
  refine lv_aload_n hx hb dX3_begin_0 rfl (lv_at hl 0 rfl) ?_
  refine va_get (D := D) (ci := 2) (v := .int (S 0 3)) (C := RX3) (T := TX3) (N := 4) hx hb hts (fun w h => List.mem_cons_of_mem _ (List.mem_append_right _ h)) hown hK hP 0 rfl rfl 3 (by decide) (hts (.fieldLink RX3 20 "LeastNeed$Rows" "used" "I") (List.mem_of_getElem? (i := 1) rfl)) (fun _ h9 => h9) rfl dX3_begin_1 ?_
  refine lv_aload_n hx hb dX3_begin_4 rfl (lv_at hl 0 rfl) ?_
  refine va_get (D := D) (ci := 2) (v := .int Md) (C := RX3) (T := TX3) (N := 4) hx hb hts (fun w h => List.mem_cons_of_mem _ (List.mem_append_right _ h)) hown hK hP 0 rfl rfl 1 (by decide) (hts (.fieldLink RX3 13 "LeastNeed$Rows" "most" "I") (List.mem_of_getElem? (i := 2) rfl)) (fun _ h9 => h9) rfl dX3_begin_5 ?_
  refine lv_icmp_ge (tgt := 21) hx hb dX3_begin_8 (by decide) (fun c8 => ?_) (fun c8 => ?_)
  · have hd := dn_t c8 hd
    have e1 := dn_s1 hd
    exact k_vret hx hb hr hQ hAe (by rw [e1]) hP hS hlocks dX3_begin_21
  · have hd := dn_f c8 hd
    refine lv_aload_n hx hb dX3_begin_11 rfl (lv_at hl 0 rfl) ?_
    refine lv_dup hx hb dX3_begin_12 rfl ?_
    refine va_get (D := D) (ci := 2) (v := .int (S 0 3)) (C := RX3) (T := TX3) (N := 4) hx hb hts (fun w h => List.mem_cons_of_mem _ (List.mem_append_right _ h)) hown hK hP 0 rfl rfl 3 (by decide) (hts (.fieldLink RX3 20 "LeastNeed$Rows" "used" "I") (List.mem_of_getElem? (i := 1) rfl)) (fun _ h9 => h9) rfl dX3_begin_13 ?_
    refine lv_iconst (v := (1 : Int32)) hx hb dX3_begin_16 (by decide) ?_
    refine lv_iadd hx hb dX3_begin_17 ?_
    refine va_put (D := D) (ci := 2) (v := .int ((S 0 3) + (1 : Int32))) (ty := .int) (C := RX3) (T := TX3) (N := 4) hx hb hts (fun w h => List.mem_cons_of_mem _ (List.mem_append_right _ h)) tyX3 tyX3_ok nmX3 hown hK hP hD hS 0 rfl rfl 3 (by decide) (hts (.fieldLink RX3 20 "LeastNeed$Rows" "used" "I") (List.mem_of_getElem? (i := 1) rfl)) (fun _ h9 => h9) rfl (by decide +kernel) rfl rfl (Nat.le_of_ble_eq_true rfl) dX3_begin_18 (fun H locs hP hD hS => ?_)
    have hP : va_P D vwCl (wX3 cs N Wd Md a (k_w S 0 3 ((S 0 3) + (1 : Int32)))) _ := k_eq hP (wsX3_f0_3 cs N Wd Md a S ((S 0 3) + (1 : Int32)))
    have hD := hDA (k_w S 0 3 ((S 0 3) + (1 : Int32)))
    have e1 := dn_s1 hd
    exact k_vret hx hb hr hQ hAe (by rw [e1]) hP hS hlocks dX3_begin_21
-- LeastNeed$Rows.put(II)V
set_option maxRecDepth 20000 in
def nX3_put (N : Nat) (Wd : Int32) (Md : Int32) (S : Nat → Nat → Int32) (p1 : Int32) (p2 : Int32) : Option ((Nat → Nat → Int32)) := if ((((S 0 3) - (1 : Int32)) * Wd) + p1) < 0 then some S else if (Int32.ofNat N) ≤ ((((S 0 3) - (1 : Int32)) * Wd) + p1) then some S else if ((((S 0 3) - (1 : Int32)) * Wd) + p1) < 0 ∨ N ≤ ((((S 0 3) - (1 : Int32)) * Wd) + p1).toNatClampNeg then none else some (k_w S 1 (((((S 0 3) - (1 : Int32)) * Wd) + p1).toNatClampNeg) p2)
set_option maxHeartbeats 4000000 in
set_option maxRecDepth 100000 in
theorem mX3_put (l : Launch) (D : va_G) (cs : Nat → ClassId) (a : Nat → Nat) (N : Nat) (Wd : Int32) (Md : Int32) (S : Nat → Nat → Int32) (p1 : Int32) (p2 : Int32) (S9 : (Nat → Nat → Int32)) (hd : nX3_put N Wd Md S p1 p2 = some S9) : ∀ sz : Nat, Met l yX3_put wsX3_put ({ frames := 0, cells := 0, slots := 0, locals := 0 }) (k_Pc D cs [.ref (a 0), .int p1, .int p2] (wX3 cs N Wd Md a S) sz) (k_Qv D (wX3 cs N Wd Md a S) (wX3 cs N Wd Md a S9) sz) 0 0 (va_A (wX3 cs N Wd Md a S) sz) := by
  intro sz
  refine Met.ofW (cc := cX3_put) (maxL := 4) (ret := none) (by decide) rfl ?_
  intro p e s m args below meth c s₁ B hml hv
  obtain ⟨rfl, hsz, hP, hK, hD0, hNn⟩ := hv
  have hx := B.exec
  have hb := B.bytes
  have hr := B.returns
  have hts := atoms_spec (ws := wsX3_put) B.pre
  have hown : s.vm.findClass RX3 = some m.cls := findClass_of_methodNamed B.named
  have hlocks := B.notSynchronized
  subst hsz
  obtain ⟨A, hAe⟩ : ∃ A : Nat → Prop, A = va_A (wX3 cs N Wd Md a S) s.heap.size := ⟨_, rfl⟩
  have hD : va_D A (wX3 cs N Wd Md a S) := by rw [hAe]; exact hD0.self
  have hA : ∀ q : Nat, s.heap.size ≤ q → A q := fun q h => by rw [hAe]; exact Or.inr h
  have hS : va_S A s.heap s.heap [] := va_S.rf
  have hDA : ∀ (S : Nat → Nat → Int32), va_D A (wX3 cs N Wd Md a S) := fun S => k_DA hD rfl
  have hl := lv_entry ([.ref (a 0), .int p1, .int p2]) (n := 4) (Nat.le_of_ble_eq_true rfl)
  rw [lg_entry_eq]
  generalize (lg_sl ([.ref (a 0), .int p1, .int p2]) ++ List.replicate (4 - (lg_sl ([.ref (a 0), .int p1, .int p2])).length) Slot.unset).toArray = ls at hl ⊢
  have hl : lv_has ls 4 [(0, .ref (a 0)), (1, .int p1), (2, .int p2)] := hl
  obtain ⟨Q, hQ⟩ : ∃ Q, Q = MQ below (k_Qv D (wX3 cs N Wd Md a S) (wX3 cs N Wd Md a S9) s.heap.size) ([.ref (a 0), .int p1, .int p2] : List Value).toArray s 0 0 (va_A (wX3 cs N Wd Md a S) s.heap.size) := ⟨_, rfl⟩
  rw [← hQ]
  unfold nX3_put at hd
  refine lv_aload_n hx hb dX3_put_0 rfl (lv_at hl 0 rfl) ?_
  refine va_get (D := D) (ci := 2) (v := .int (S 0 3)) (C := RX3) (T := TX3) (N := 4) hx hb hts (fun w h => List.mem_cons_of_mem _ (List.mem_append_right _ h)) hown hK hP 0 rfl rfl 3 (by decide) (hts (.fieldLink RX3 20 "LeastNeed$Rows" "used" "I") (List.mem_of_getElem? (i := 1) rfl)) (fun _ h9 => h9) rfl dX3_put_1 ?_
  refine lv_iconst (v := (1 : Int32)) hx hb dX3_put_4 (by decide) ?_
  refine lv_isub hx hb dX3_put_5 ?_
  refine lv_aload_n hx hb dX3_put_6 rfl (lv_at hl 0 rfl) ?_
  refine va_get (D := D) (ci := 2) (v := .int Wd) (C := RX3) (T := TX3) (N := 4) hx hb hts (fun w h => List.mem_cons_of_mem _ (List.mem_append_right _ h)) hown hK hP 0 rfl rfl 0 (by decide) (hts (.fieldLink RX3 7 "LeastNeed$Rows" "width" "I") (List.mem_of_getElem? (i := 2) rfl)) (fun _ h9 => h9) rfl dX3_put_7 ?_
  refine lv_imul hx hb dX3_put_10 ?_
  refine lv_iload_n hx hb dX3_put_11 rfl (lv_at hl 1 rfl) ?_
  refine lv_iadd hx hb dX3_put_12 ?_
  refine lv_istore_n (lv' := [(3, .int ((((S 0 3) - (1 : Int32)) * Wd) + p1)), (0, .ref (a 0)), (1, .int p1), (2, .int p2)]) hx hb dX3_put_13 rfl hl (by decide) rfl (fun ls hl => ?_)
  refine lv_iload_n hx hb dX3_put_14 rfl (lv_at hl 0 rfl) ?_
  refine lv_if_lt (tgt := 34) hx hb dX3_put_15 (by decide) (fun c15 => ?_) (fun c15 => ?_)
  · have hd := dn_t c15 hd
    have e1 := dn_s1 hd
    exact k_vret hx hb hr hQ hAe (by rw [e1]) hP hS hlocks dX3_put_34
  · have hd := dn_f c15 hd
    refine lv_iload_n hx hb dX3_put_18 rfl (lv_at hl 0 rfl) ?_
    refine lv_aload_n hx hb dX3_put_19 rfl (lv_at hl 1 rfl) ?_
    refine va_get (D := D) (ci := 2) (v := .ref (a 1)) (C := RX3) (T := TX3) (N := 4) hx hb hts (fun w h => List.mem_cons_of_mem _ (List.mem_append_right _ h)) hown hK hP 0 rfl rfl 2 (by decide) (hts (.fieldLink RX3 16 "LeastNeed$Rows" "cells" "[I") (List.mem_of_getElem? (i := 3) rfl)) (fun _ h9 => h9) rfl dX3_put_20 ?_
    refine va_alen (D := D) (v := Int32.ofNat N) hx hb hK hP 1 1 rfl rfl rfl dX3_put_23 ?_
    refine lv_icmp_ge (tgt := 34) hx hb dX3_put_24 (by decide) (fun c24 => ?_) (fun c24 => ?_)
    · have hd := dn_t c24 hd
      have e1 := dn_s1 hd
      exact k_vret hx hb hr hQ hAe (by rw [e1]) hP hS hlocks dX3_put_34
    · have hd := dn_f c24 hd
      refine lv_aload_n hx hb dX3_put_27 rfl (lv_at hl 1 rfl) ?_
      refine va_get (D := D) (ci := 2) (v := .ref (a 1)) (C := RX3) (T := TX3) (N := 4) hx hb hts (fun w h => List.mem_cons_of_mem _ (List.mem_append_right _ h)) hown hK hP 0 rfl rfl 2 (by decide) (hts (.fieldLink RX3 16 "LeastNeed$Rows" "cells" "[I") (List.mem_of_getElem? (i := 3) rfl)) (fun _ h9 => h9) rfl dX3_put_28 ?_
      refine lv_iload_n hx hb dX3_put_31 rfl (lv_at hl 0 rfl) ?_
      refine lv_iload_n hx hb dX3_put_32 rfl (lv_at hl 3 rfl) ?_
      obtain ⟨hi33, hd⟩ := dn_i hd
      refine k_iast (D := D) (k := ((((S 0 3) - (1 : Int32)) * Wd) + p1).toNatClampNeg) (by rfl) hx hb hK hP hD hS 1 1 rfl rfl hi33 dX3_put_33 (fun H locs hP hD hS => ?_)
      have hP : va_P D vwCl (wX3 cs N Wd Md a (k_w S 1 (((((S 0 3) - (1 : Int32)) * Wd) + p1).toNatClampNeg) p2)) _ := k_eq hP (wsX3_a1 cs N Wd Md a S (((((S 0 3) - (1 : Int32)) * Wd) + p1).toNatClampNeg) p2)
      have hD := hDA (k_w S 1 (((((S 0 3) - (1 : Int32)) * Wd) + p1).toNatClampNeg) p2)
      have e1 := dn_s1 hd
      exact k_vret hx hb hr hQ hAe (by rw [e1]) hP hS hlocks dX3_put_34
-- LeastNeed$Rows.cell(II)I
set_option maxRecDepth 20000 in
def nX3_cell (N : Nat) (Wd : Int32) (Md : Int32) (S : Nat → Nat → Int32) (p1 : Int32) (p2 : Int32) : Option (Int32) := if ((p1 * Wd) + p2) < 0 then some (0 : Int32) else if (Int32.ofNat N) ≤ ((p1 * Wd) + p2) then some (0 : Int32) else if ((p1 * Wd) + p2) < 0 ∨ N ≤ ((p1 * Wd) + p2).toNatClampNeg then none else some (S 1 ((p1 * Wd) + p2).toNatClampNeg)
set_option maxHeartbeats 4000000 in
set_option maxRecDepth 100000 in
theorem mX3_cell (l : Launch) (D : va_G) (cs : Nat → ClassId) (a : Nat → Nat) (N : Nat) (Wd : Int32) (Md : Int32) (S : Nat → Nat → Int32) (p1 : Int32) (p2 : Int32) (r9 : Int32) (hd : nX3_cell N Wd Md S p1 p2 = some r9) : ∀ sz : Nat, Met l yX3_cell wsX3_cell ({ frames := 0, cells := 0, slots := 0, locals := 0 }) (k_Pc D cs [.ref (a 0), .int p1, .int p2] (wX3 cs N Wd Md a S) sz) (k_Qi D r9 (wX3 cs N Wd Md a S) (wX3 cs N Wd Md a S) sz) 0 0 (va_A (wX3 cs N Wd Md a S) sz) := by
  intro sz
  refine Met.ofW (cc := cX3_cell) (maxL := 4) (ret := (some .int)) (by decide) rfl ?_
  intro p e s m args below meth c s₁ B hml hv
  obtain ⟨rfl, hsz, hP, hK, hD0, hNn⟩ := hv
  have hx := B.exec
  have hb := B.bytes
  have hr := B.returns
  have hts := atoms_spec (ws := wsX3_cell) B.pre
  have hown : s.vm.findClass RX3 = some m.cls := findClass_of_methodNamed B.named
  have hlocks := B.notSynchronized
  subst hsz
  obtain ⟨A, hAe⟩ : ∃ A : Nat → Prop, A = va_A (wX3 cs N Wd Md a S) s.heap.size := ⟨_, rfl⟩
  have hD : va_D A (wX3 cs N Wd Md a S) := by rw [hAe]; exact hD0.self
  have hA : ∀ q : Nat, s.heap.size ≤ q → A q := fun q h => by rw [hAe]; exact Or.inr h
  have hS : va_S A s.heap s.heap [] := va_S.rf
  have hDA : ∀ (S : Nat → Nat → Int32), va_D A (wX3 cs N Wd Md a S) := fun S => k_DA hD rfl
  have hl := lv_entry ([.ref (a 0), .int p1, .int p2]) (n := 4) (Nat.le_of_ble_eq_true rfl)
  rw [lg_entry_eq]
  generalize (lg_sl ([.ref (a 0), .int p1, .int p2]) ++ List.replicate (4 - (lg_sl ([.ref (a 0), .int p1, .int p2])).length) Slot.unset).toArray = ls at hl ⊢
  have hl : lv_has ls 4 [(0, .ref (a 0)), (1, .int p1), (2, .int p2)] := hl
  obtain ⟨Q, hQ⟩ : ∃ Q, Q = MQ below (k_Qi D r9 (wX3 cs N Wd Md a S) (wX3 cs N Wd Md a S) s.heap.size) ([.ref (a 0), .int p1, .int p2] : List Value).toArray s 0 0 (va_A (wX3 cs N Wd Md a S) s.heap.size) := ⟨_, rfl⟩
  rw [← hQ]
  unfold nX3_cell at hd
  refine lv_iload_n hx hb dX3_cell_0 rfl (lv_at hl 1 rfl) ?_
  refine lv_aload_n hx hb dX3_cell_1 rfl (lv_at hl 0 rfl) ?_
  refine va_get (D := D) (ci := 2) (v := .int Wd) (C := RX3) (T := TX3) (N := 4) hx hb hts (fun w h => List.mem_cons_of_mem _ (List.mem_append_right _ h)) hown hK hP 0 rfl rfl 0 (by decide) (hts (.fieldLink RX3 7 "LeastNeed$Rows" "width" "I") (List.mem_of_getElem? (i := 1) rfl)) (fun _ h9 => h9) rfl dX3_cell_2 ?_
  refine lv_imul hx hb dX3_cell_5 ?_
  refine lv_iload_n hx hb dX3_cell_6 rfl (lv_at hl 2 rfl) ?_
  refine lv_iadd hx hb dX3_cell_7 ?_
  refine lv_istore_n (lv' := [(3, .int ((p1 * Wd) + p2)), (0, .ref (a 0)), (1, .int p1), (2, .int p2)]) hx hb dX3_cell_8 rfl hl (by decide) rfl (fun ls hl => ?_)
  refine lv_iload_n hx hb dX3_cell_9 rfl (lv_at hl 0 rfl) ?_
  refine lv_if_lt (tgt := 31) hx hb dX3_cell_10 (by decide) (fun c10 => ?_) (fun c10 => ?_)
  · have hd := dn_t c10 hd
    refine lv_iconst (v := (0 : Int32)) hx hb dX3_cell_31 (by decide) ?_
    have e1 := dn_s1 hd
    exact k_iret hx hb hr hQ hAe e1 rfl hP hS hlocks dX3_cell_32
  · have hd := dn_f c10 hd
    refine lv_iload_n hx hb dX3_cell_13 rfl (lv_at hl 0 rfl) ?_
    refine lv_aload_n hx hb dX3_cell_14 rfl (lv_at hl 1 rfl) ?_
    refine va_get (D := D) (ci := 2) (v := .ref (a 1)) (C := RX3) (T := TX3) (N := 4) hx hb hts (fun w h => List.mem_cons_of_mem _ (List.mem_append_right _ h)) hown hK hP 0 rfl rfl 2 (by decide) (hts (.fieldLink RX3 16 "LeastNeed$Rows" "cells" "[I") (List.mem_of_getElem? (i := 2) rfl)) (fun _ h9 => h9) rfl dX3_cell_15 ?_
    refine va_alen (D := D) (v := Int32.ofNat N) hx hb hK hP 1 1 rfl rfl rfl dX3_cell_18 ?_
    refine lv_icmp_ge (tgt := 31) hx hb dX3_cell_19 (by decide) (fun c19 => ?_) (fun c19 => ?_)
    · have hd := dn_t c19 hd
      refine lv_iconst (v := (0 : Int32)) hx hb dX3_cell_31 (by decide) ?_
      have e1 := dn_s1 hd
      exact k_iret hx hb hr hQ hAe e1 rfl hP hS hlocks dX3_cell_32
    · have hd := dn_f c19 hd
      refine lv_aload_n hx hb dX3_cell_22 rfl (lv_at hl 1 rfl) ?_
      refine va_get (D := D) (ci := 2) (v := .ref (a 1)) (C := RX3) (T := TX3) (N := 4) hx hb hts (fun w h => List.mem_cons_of_mem _ (List.mem_append_right _ h)) hown hK hP 0 rfl rfl 2 (by decide) (hts (.fieldLink RX3 16 "LeastNeed$Rows" "cells" "[I") (List.mem_of_getElem? (i := 2) rfl)) (fun _ h9 => h9) rfl dX3_cell_23 ?_
      refine lv_iload_n hx hb dX3_cell_26 rfl (lv_at hl 0 rfl) ?_
      obtain ⟨hi27, hd⟩ := dn_i hd
      refine k_iald (D := D) (k := ((p1 * Wd) + p2).toNatClampNeg) (by rfl) hx hb hK hP 1 1 rfl rfl hi27 dX3_cell_27 ?_
      refine lv_goto (tgt := 32) hx hb dX3_cell_28 (by decide) ?_
      have e1 := dn_s1 hd
      exact k_iret hx hb hr hQ hAe e1 rfl hP hS hlocks dX3_cell_32
-- LeastNeed$Rows.dropFirst()V
set_option maxRecDepth 20000 in
def nX3_dropFirst (N : Nat) (Wd : Int32) (Md : Int32) (S : Nat → Nat → Int32) : Option ((Nat → Nat → Int32)) := if (S 0 3) = 0 then some S else if k_cpok Wd (0 : Int32) ((Int32.ofNat N) - Wd) N N = false then none else some (k_w (k_r S 1 (va_cpy (S 1) (S 1) Wd.toNatClampNeg (0 : Int32).toNatClampNeg ((Int32.ofNat N) - Wd).toNatClampNeg)) 0 3 (((k_r S 1 (va_cpy (S 1) (S 1) Wd.toNatClampNeg (0 : Int32).toNatClampNeg ((Int32.ofNat N) - Wd).toNatClampNeg)) 0 3) - (1 : Int32)))
set_option maxHeartbeats 4000000 in
set_option maxRecDepth 100000 in
theorem mX3_dropFirst (l : Launch) (D : va_G) (cs : Nat → ClassId) (a : Nat → Nat) (N : Nat) (Wd : Int32) (Md : Int32) (S : Nat → Nat → Int32) (S9 : (Nat → Nat → Int32)) (hd : nX3_dropFirst N Wd Md S = some S9) : ∀ sz : Nat, Met l yX3_dropFirst wsX3_dropFirst ({ frames := 1, cells := 0, slots := 0, locals := 40 }) (k_Pc D cs [.ref (a 0)] (wX3 cs N Wd Md a S) sz) (k_Qv D (wX3 cs N Wd Md a S) (wX3 cs N Wd Md a S9) sz) 0 0 (va_A (wX3 cs N Wd Md a S) sz) := by
  intro sz
  refine Met.ofW (cc := cX3_dropFirst) (maxL := 1) (ret := none) (by decide) rfl ?_
  intro p e s m args below meth c s₁ B hml hv
  obtain ⟨rfl, hsz, hP, hK, hD0, hNn⟩ := hv
  have hx := B.exec
  have hb := B.bytes
  have hr := B.returns
  have hts := atoms_spec (ws := wsX3_dropFirst) B.pre
  have hown : s.vm.findClass RX3 = some m.cls := findClass_of_methodNamed B.named
  have hlocks := B.notSynchronized
  subst hsz
  obtain ⟨A, hAe⟩ : ∃ A : Nat → Prop, A = va_A (wX3 cs N Wd Md a S) s.heap.size := ⟨_, rfl⟩
  have hD : va_D A (wX3 cs N Wd Md a S) := by rw [hAe]; exact hD0.self
  have hA : ∀ q : Nat, s.heap.size ≤ q → A q := fun q h => by rw [hAe]; exact Or.inr h
  have hS : va_S A s.heap s.heap [] := va_S.rf
  have hDA : ∀ (S : Nat → Nat → Int32), va_D A (wX3 cs N Wd Md a S) := fun S => k_DA hD rfl
  have hl := lv_entry ([.ref (a 0)]) (n := 1) (Nat.le_of_ble_eq_true rfl)
  rw [lg_entry_eq]
  generalize (lg_sl ([.ref (a 0)]) ++ List.replicate (1 - (lg_sl ([.ref (a 0)])).length) Slot.unset).toArray = ls at hl ⊢
  have hl : lv_has ls 1 [(0, .ref (a 0))] := hl
  obtain ⟨Q, hQ⟩ : ∃ Q, Q = MQ below (k_Qv D (wX3 cs N Wd Md a S) (wX3 cs N Wd Md a S9) s.heap.size) ([.ref (a 0)] : List Value).toArray s 0 0 (va_A (wX3 cs N Wd Md a S) s.heap.size) := ⟨_, rfl⟩
  rw [← hQ]
  unfold nX3_dropFirst at hd
  refine lv_aload_n hx hb dX3_dropFirst_0 rfl (lv_at hl 0 rfl) ?_
  refine va_get (D := D) (ci := 2) (v := .int (S 0 3)) (C := RX3) (T := TX3) (N := 4) hx hb hts (fun w h => List.mem_cons_of_mem _ (List.mem_append_right _ h)) hown hK hP 0 rfl rfl 3 (by decide) (hts (.fieldLink RX3 20 "LeastNeed$Rows" "used" "I") (List.mem_of_getElem? (i := 1) rfl)) (fun _ h9 => h9) rfl dX3_dropFirst_1 ?_
  refine lv_if_ne (tgt := 8) hx hb dX3_dropFirst_4 (by decide) (fun c4 => ?_) (fun c4 => ?_)
  · have hd := dn_f c4 hd
    refine lv_aload_n hx hb dX3_dropFirst_8 rfl (lv_at hl 0 rfl) ?_
    refine va_get (D := D) (ci := 2) (v := .ref (a 1)) (C := RX3) (T := TX3) (N := 4) hx hb hts (fun w h => List.mem_cons_of_mem _ (List.mem_append_right _ h)) hown hK hP 0 rfl rfl 2 (by decide) (hts (.fieldLink RX3 16 "LeastNeed$Rows" "cells" "[I") (List.mem_of_getElem? (i := 2) rfl)) (fun _ h9 => h9) rfl dX3_dropFirst_9 ?_
    refine lv_aload_n hx hb dX3_dropFirst_12 rfl (lv_at hl 0 rfl) ?_
    refine va_get (D := D) (ci := 2) (v := .int Wd) (C := RX3) (T := TX3) (N := 4) hx hb hts (fun w h => List.mem_cons_of_mem _ (List.mem_append_right _ h)) hown hK hP 0 rfl rfl 0 (by decide) (hts (.fieldLink RX3 7 "LeastNeed$Rows" "width" "I") (List.mem_of_getElem? (i := 3) rfl)) (fun _ h9 => h9) rfl dX3_dropFirst_13 ?_
    refine lv_aload_n hx hb dX3_dropFirst_16 rfl (lv_at hl 0 rfl) ?_
    refine va_get (D := D) (ci := 2) (v := .ref (a 1)) (C := RX3) (T := TX3) (N := 4) hx hb hts (fun w h => List.mem_cons_of_mem _ (List.mem_append_right _ h)) hown hK hP 0 rfl rfl 2 (by decide) (hts (.fieldLink RX3 16 "LeastNeed$Rows" "cells" "[I") (List.mem_of_getElem? (i := 2) rfl)) (fun _ h9 => h9) rfl dX3_dropFirst_17 ?_
    refine lv_iconst (v := (0 : Int32)) hx hb dX3_dropFirst_20 (by decide) ?_
    refine lv_aload_n hx hb dX3_dropFirst_21 rfl (lv_at hl 0 rfl) ?_
    refine va_get (D := D) (ci := 2) (v := .ref (a 1)) (C := RX3) (T := TX3) (N := 4) hx hb hts (fun w h => List.mem_cons_of_mem _ (List.mem_append_right _ h)) hown hK hP 0 rfl rfl 2 (by decide) (hts (.fieldLink RX3 16 "LeastNeed$Rows" "cells" "[I") (List.mem_of_getElem? (i := 2) rfl)) (fun _ h9 => h9) rfl dX3_dropFirst_22 ?_
    refine va_alen (D := D) (v := Int32.ofNat N) hx hb hK hP 1 1 rfl rfl rfl dX3_dropFirst_25 ?_
    refine lv_aload_n hx hb dX3_dropFirst_26 rfl (lv_at hl 0 rfl) ?_
    refine va_get (D := D) (ci := 2) (v := .int Wd) (C := RX3) (T := TX3) (N := 4) hx hb hts (fun w h => List.mem_cons_of_mem _ (List.mem_append_right _ h)) hown hK hP 0 rfl rfl 0 (by decide) (hts (.fieldLink RX3 7 "LeastNeed$Rows" "width" "I") (List.mem_of_getElem? (i := 3) rfl)) (fun _ h9 => h9) rfl dX3_dropFirst_27 ?_
    refine lv_isub hx hb dX3_dropFirst_30 ?_
    obtain ⟨hc31, hd⟩ := dn_n hd
    refine k_cpi (D := D) hx hb (hml.trans hl.1.symm) hown (hts (.methodLink RX3 23 arraycopyName) (List.mem_of_getElem? (i := 4) rfl)) (hts (.native arraycopyName) (List.mem_of_getElem? (i := 5) rfl)) (hts (.static arraycopyName) (List.mem_of_getElem? (i := 6) rfl)) (hts (.initialized "java/lang/System") (List.mem_of_getElem? (i := 7) rfl)) hK hP hD hS 1 1 1 1 rfl rfl rfl rfl hc31 (Nat.le_of_ble_eq_true rfl) (Nat.le_of_ble_eq_true rfl) dX3_dropFirst_31 (fun H locs hP hD hS => ?_)
    have hP : va_P D vwCl (wX3 cs N Wd Md a (k_r S 1 (va_cpy (S 1) (S 1) Wd.toNatClampNeg (0 : Int32).toNatClampNeg ((Int32.ofNat N) - Wd).toNatClampNeg))) _ := k_eq hP (wsX3_r1 cs N Wd Md a S (va_cpy (S 1) (S 1) Wd.toNatClampNeg (0 : Int32).toNatClampNeg ((Int32.ofNat N) - Wd).toNatClampNeg))
    have hD := hDA (k_r S 1 (va_cpy (S 1) (S 1) Wd.toNatClampNeg (0 : Int32).toNatClampNeg ((Int32.ofNat N) - Wd).toNatClampNeg))
    refine lv_aload_n hx hb dX3_dropFirst_34 rfl (lv_at hl 0 rfl) ?_
    refine lv_dup hx hb dX3_dropFirst_35 rfl ?_
    refine va_get (D := D) (ci := 2) (v := .int ((k_r S 1 (va_cpy (S 1) (S 1) Wd.toNatClampNeg (0 : Int32).toNatClampNeg ((Int32.ofNat N) - Wd).toNatClampNeg)) 0 3)) (C := RX3) (T := TX3) (N := 4) hx hb hts (fun w h => List.mem_cons_of_mem _ (List.mem_append_right _ h)) hown hK hP 0 rfl rfl 3 (by decide) (hts (.fieldLink RX3 20 "LeastNeed$Rows" "used" "I") (List.mem_of_getElem? (i := 1) rfl)) (fun _ h9 => h9) rfl dX3_dropFirst_36 ?_
    refine lv_iconst (v := (1 : Int32)) hx hb dX3_dropFirst_39 (by decide) ?_
    refine lv_isub hx hb dX3_dropFirst_40 ?_
    refine va_put (D := D) (ci := 2) (v := .int (((k_r S 1 (va_cpy (S 1) (S 1) Wd.toNatClampNeg (0 : Int32).toNatClampNeg ((Int32.ofNat N) - Wd).toNatClampNeg)) 0 3) - (1 : Int32))) (ty := .int) (C := RX3) (T := TX3) (N := 4) hx hb hts (fun w h => List.mem_cons_of_mem _ (List.mem_append_right _ h)) tyX3 tyX3_ok nmX3 hown hK hP hD hS 0 rfl rfl 3 (by decide) (hts (.fieldLink RX3 20 "LeastNeed$Rows" "used" "I") (List.mem_of_getElem? (i := 1) rfl)) (fun _ h9 => h9) rfl (by decide +kernel) rfl rfl (Nat.le_of_ble_eq_true rfl) dX3_dropFirst_41 (fun H locs hP hD hS => ?_)
    have hP : va_P D vwCl (wX3 cs N Wd Md a (k_w (k_r S 1 (va_cpy (S 1) (S 1) Wd.toNatClampNeg (0 : Int32).toNatClampNeg ((Int32.ofNat N) - Wd).toNatClampNeg)) 0 3 (((k_r S 1 (va_cpy (S 1) (S 1) Wd.toNatClampNeg (0 : Int32).toNatClampNeg ((Int32.ofNat N) - Wd).toNatClampNeg)) 0 3) - (1 : Int32)))) _ := k_eq hP (wsX3_f0_3 cs N Wd Md a (k_r S 1 (va_cpy (S 1) (S 1) Wd.toNatClampNeg (0 : Int32).toNatClampNeg ((Int32.ofNat N) - Wd).toNatClampNeg)) (((k_r S 1 (va_cpy (S 1) (S 1) Wd.toNatClampNeg (0 : Int32).toNatClampNeg ((Int32.ofNat N) - Wd).toNatClampNeg)) 0 3) - (1 : Int32)))
    have hD := hDA (k_w (k_r S 1 (va_cpy (S 1) (S 1) Wd.toNatClampNeg (0 : Int32).toNatClampNeg ((Int32.ofNat N) - Wd).toNatClampNeg)) 0 3 (((k_r S 1 (va_cpy (S 1) (S 1) Wd.toNatClampNeg (0 : Int32).toNatClampNeg ((Int32.ofNat N) - Wd).toNatClampNeg)) 0 3) - (1 : Int32)))
    have e1 := dn_s1 hd
    exact k_vret hx hb hr hQ hAe (by rw [e1]) hP hS hlocks dX3_dropFirst_44
  · have hd := dn_t c4 hd
    have e1 := dn_s1 hd
    exact k_vret hx hb hr hQ hAe (by rw [e1]) hP hS hlocks dX3_dropFirst_7
-- LeastNeed.copyRow([I[I)V
set_option maxRecDepth 20000 in
def nX6_copyRow (N : Nat) (N2 : Nat) (S : Nat → Nat → Int32) (T : Nat → Nat → Int32) : Option ((Nat → Nat → Int32)) := if k_cpok (0 : Int32) (0 : Int32) (if (Int32.ofNat N2) < (Int32.ofNat N) then (Int32.ofNat N2) else (Int32.ofNat N)) N N2 = false then none else some (k_r T 0 (va_cpy (S 0) (T 0) (0 : Int32).toNatClampNeg (0 : Int32).toNatClampNeg (if (Int32.ofNat N2) < (Int32.ofNat N) then (Int32.ofNat N2) else (Int32.ofNat N)).toNatClampNeg))
set_option maxHeartbeats 4000000 in
set_option maxRecDepth 100000 in
theorem mX6_copyRow (l : Launch) (D : va_G) (cs : Nat → ClassId) (a : Nat → Nat) (b : Nat → Nat) (N : Nat) (N2 : Nat) (S : Nat → Nat → Int32) (T : Nat → Nat → Int32) (T9 : (Nat → Nat → Int32)) (hd : nX6_copyRow N N2 S T = some T9) : ∀ sz : Nat, Met l yX6_copyRow wsX6_copyRow ({ frames := 1, cells := 0, slots := 0, locals := 40 }) (k_Pc D cs [.ref (a 0), .ref (b 0)] (wAI cs N a S ++ wAI cs N2 b T) sz) (k_Qv D (wAI cs N a S ++ wAI cs N2 b T) (wAI cs N a S ++ wAI cs N2 b T9) sz) 0 0 (va_A (wAI cs N a S ++ wAI cs N2 b T) sz) := by
  intro sz
  refine Met.ofW (cc := cX6_copyRow) (maxL := 2) (ret := none) (by decide) rfl ?_
  intro p e s m args below meth c s₁ B hml hv
  obtain ⟨rfl, hsz, hP, hK, hD0, hNn⟩ := hv
  have hx := B.exec
  have hb := B.bytes
  have hr := B.returns
  have hts := atoms_spec (ws := wsX6_copyRow) B.pre
  have hown : s.vm.findClass RX6 = some m.cls := findClass_of_methodNamed B.named
  have hlocks := B.notSynchronized
  subst hsz
  obtain ⟨A, hAe⟩ : ∃ A : Nat → Prop, A = va_A (wAI cs N a S ++ wAI cs N2 b T) s.heap.size := ⟨_, rfl⟩
  have hD : va_D A (wAI cs N a S ++ wAI cs N2 b T) := by rw [hAe]; exact hD0.self
  have hA : ∀ q : Nat, s.heap.size ≤ q → A q := fun q h => by rw [hAe]; exact Or.inr h
  have hS : va_S A s.heap s.heap [] := va_S.rf
  have hDA : ∀ (S : Nat → Nat → Int32) (T : Nat → Nat → Int32), va_D A (wAI cs N a S ++ wAI cs N2 b T) := fun S T => k_DA hD rfl
  have hl := lv_entry ([.ref (a 0), .ref (b 0)]) (n := 2) (Nat.le_of_ble_eq_true rfl)
  rw [lg_entry_eq]
  generalize (lg_sl ([.ref (a 0), .ref (b 0)]) ++ List.replicate (2 - (lg_sl ([.ref (a 0), .ref (b 0)])).length) Slot.unset).toArray = ls at hl ⊢
  have hl : lv_has ls 2 [(0, .ref (a 0)), (1, .ref (b 0))] := hl
  obtain ⟨Q, hQ⟩ : ∃ Q, Q = MQ below (k_Qv D (wAI cs N a S ++ wAI cs N2 b T) (wAI cs N a S ++ wAI cs N2 b T9) s.heap.size) ([.ref (a 0), .ref (b 0)] : List Value).toArray s 0 0 (va_A (wAI cs N a S ++ wAI cs N2 b T) s.heap.size) := ⟨_, rfl⟩
  rw [← hQ]
  unfold nX6_copyRow at hd
  refine lv_aload_n hx hb dX6_copyRow_0 rfl (lv_at hl 0 rfl) ?_
  refine lv_iconst (v := (0 : Int32)) hx hb dX6_copyRow_1 (by decide) ?_
  refine lv_aload_n hx hb dX6_copyRow_2 rfl (lv_at hl 1 rfl) ?_
  refine lv_iconst (v := (0 : Int32)) hx hb dX6_copyRow_3 (by decide) ?_
  refine lv_aload_n hx hb dX6_copyRow_4 rfl (lv_at hl 0 rfl) ?_
  refine va_alen (D := D) (v := Int32.ofNat N) hx hb hK hP 0 1 rfl rfl rfl dX6_copyRow_5 ?_
  refine lv_aload_n hx hb dX6_copyRow_6 rfl (lv_at hl 1 rfl) ?_
  refine va_alen (D := D) (v := Int32.ofNat N2) hx hb hK hP 1 1 rfl rfl rfl dX6_copyRow_7 ?_
  refine va_mmin hx hb (hml.trans hl.1.symm) hown (hts (.methodLink RX6 284 Lib.Math.min.name) (List.mem_of_getElem? (i := 1) rfl)) (hts (.static Lib.Math.min.name) (List.mem_of_getElem? (i := 2) rfl)) (hts (.initialized "java/lang/Math") (List.mem_of_getElem? (i := 3) rfl)) (hts (.code Lib.Math.min.name Lib.Math.min.code 2 (some .int)) (List.mem_of_getElem? (i := 4) rfl)) (Nat.le_of_ble_eq_true rfl) (Nat.le_of_ble_eq_true rfl) (Nat.le_of_ble_eq_true rfl) (Nat.le_of_ble_eq_true rfl) dX6_copyRow_8 ?_
  obtain ⟨hc11, hd⟩ := dn_n hd
  refine k_cpi (D := D) hx hb (hml.trans hl.1.symm) hown (hts (.methodLink RX6 289 arraycopyName) (List.mem_of_getElem? (i := 5) rfl)) (hts (.native arraycopyName) (List.mem_of_getElem? (i := 6) rfl)) (hts (.static arraycopyName) (List.mem_of_getElem? (i := 7) rfl)) (hts (.initialized "java/lang/System") (List.mem_of_getElem? (i := 8) rfl)) hK hP hD hS 0 1 1 1 rfl rfl rfl rfl hc11 (Nat.le_of_ble_eq_true rfl) (Nat.le_of_ble_eq_true rfl) dX6_copyRow_11 (fun H locs hP hD hS => ?_)
  have hP : va_P D vwCl (wAI cs N a S ++ wAI cs N2 b (k_r T 0 (va_cpy (S 0) (T 0) (0 : Int32).toNatClampNeg (0 : Int32).toNatClampNeg (if (Int32.ofNat N2) < (Int32.ofNat N) then (Int32.ofNat N2) else (Int32.ofNat N)).toNatClampNeg))) _ := k_eq hP (wsaI_aI_r1 cs N N2 a b S T (va_cpy (S 0) (T 0) (0 : Int32).toNatClampNeg (0 : Int32).toNatClampNeg (if (Int32.ofNat N2) < (Int32.ofNat N) then (Int32.ofNat N2) else (Int32.ofNat N)).toNatClampNeg))
  have hD := hDA S (k_r T 0 (va_cpy (S 0) (T 0) (0 : Int32).toNatClampNeg (0 : Int32).toNatClampNeg (if (Int32.ofNat N2) < (Int32.ofNat N) then (Int32.ofNat N2) else (Int32.ofNat N)).toNatClampNeg))
  have e1 := dn_s1 hd
  exact k_vret hx hb hr hQ hAe (by rw [e1]) hP hS hlocks dX6_copyRow_14
-- LeastNeed$Rows.copyOf(LLeastNeed$Rows;)V
set_option maxRecDepth 20000 in
def nX3_copyOf (N : Nat) (Wd : Int32) (Md : Int32) (N2 : Nat) (Wd2 : Int32) (Md2 : Int32) (S : Nat → Nat → Int32) (T : Nat → Nat → Int32) : Option ((Nat → Nat → Int32)) := k_b1 (nX6_copyRow N2 N (k_wi T 1) (k_wi (k_w S 0 3 (T 0 3)) 1)) (fun T16 => some (k_sp (k_w S 0 3 (T 0 3)) 1 1 T16))
set_option maxHeartbeats 4000000 in
set_option maxRecDepth 100000 in
theorem mX3_copyOf (l : Launch) (D : va_G) (cs : Nat → ClassId) (a : Nat → Nat) (b : Nat → Nat) (N : Nat) (Wd : Int32) (Md : Int32) (N2 : Nat) (Wd2 : Int32) (Md2 : Int32) (S : Nat → Nat → Int32) (T : Nat → Nat → Int32) (S9 : (Nat → Nat → Int32)) (hd : nX3_copyOf N Wd Md N2 Wd2 Md2 S T = some S9) : ∀ sz : Nat, Met l yX3_copyOf wsX3_copyOf ({ frames := 2, cells := 0, slots := 0, locals := 61 }) (k_Pc D cs [.ref (a 0), .ref (b 0)] (wX3 cs N Wd Md a S ++ wX3 cs N2 Wd2 Md2 b T) sz) (k_Qv D (wX3 cs N Wd Md a S ++ wX3 cs N2 Wd2 Md2 b T) (wX3 cs N Wd Md a S9 ++ wX3 cs N2 Wd2 Md2 b T) sz) 0 0 (va_A (wX3 cs N Wd Md a S ++ wX3 cs N2 Wd2 Md2 b T) sz) := by
  intro sz
  refine Met.ofW (cc := cX3_copyOf) (maxL := 2) (ret := none) (by decide) rfl ?_
  intro p e s m args below meth c s₁ B hml hv
  obtain ⟨rfl, hsz, hP, hK, hD0, hNn⟩ := hv
  have hx := B.exec
  have hb := B.bytes
  have hr := B.returns
  have hts := atoms_spec (ws := wsX3_copyOf) B.pre
  have hown : s.vm.findClass RX3 = some m.cls := findClass_of_methodNamed B.named
  have hlocks := B.notSynchronized
  subst hsz
  obtain ⟨A, hAe⟩ : ∃ A : Nat → Prop, A = va_A (wX3 cs N Wd Md a S ++ wX3 cs N2 Wd2 Md2 b T) s.heap.size := ⟨_, rfl⟩
  have hD : va_D A (wX3 cs N Wd Md a S ++ wX3 cs N2 Wd2 Md2 b T) := by rw [hAe]; exact hD0.self
  have hA : ∀ q : Nat, s.heap.size ≤ q → A q := fun q h => by rw [hAe]; exact Or.inr h
  have hS : va_S A s.heap s.heap [] := va_S.rf
  have hDA : ∀ (S : Nat → Nat → Int32) (T : Nat → Nat → Int32), va_D A (wX3 cs N Wd Md a S ++ wX3 cs N2 Wd2 Md2 b T) := fun S T => k_DA hD rfl
  have hl := lv_entry ([.ref (a 0), .ref (b 0)]) (n := 2) (Nat.le_of_ble_eq_true rfl)
  rw [lg_entry_eq]
  generalize (lg_sl ([.ref (a 0), .ref (b 0)]) ++ List.replicate (2 - (lg_sl ([.ref (a 0), .ref (b 0)])).length) Slot.unset).toArray = ls at hl ⊢
  have hl : lv_has ls 2 [(0, .ref (a 0)), (1, .ref (b 0))] := hl
  obtain ⟨Q, hQ⟩ : ∃ Q, Q = MQ below (k_Qv D (wX3 cs N Wd Md a S ++ wX3 cs N2 Wd2 Md2 b T) (wX3 cs N Wd Md a S9 ++ wX3 cs N2 Wd2 Md2 b T) s.heap.size) ([.ref (a 0), .ref (b 0)] : List Value).toArray s 0 0 (va_A (wX3 cs N Wd Md a S ++ wX3 cs N2 Wd2 Md2 b T) s.heap.size) := ⟨_, rfl⟩
  rw [← hQ]
  unfold nX3_copyOf at hd
  refine lv_aload_n hx hb dX3_copyOf_0 rfl (lv_at hl 0 rfl) ?_
  refine lv_aload_n hx hb dX3_copyOf_1 rfl (lv_at hl 1 rfl) ?_
  refine va_get (D := D) (ci := 2) (v := .int (T 0 3)) (C := RX3) (T := TX3) (N := 4) hx hb hts (fun w h => List.mem_cons_of_mem _ (List.mem_append_right _ h)) hown hK hP 2 rfl rfl 3 (by decide) (hts (.fieldLink RX3 20 "LeastNeed$Rows" "used" "I") (List.mem_of_getElem? (i := 1) rfl)) (fun _ h9 => h9) rfl dX3_copyOf_2 ?_
  refine va_put (D := D) (ci := 2) (v := .int (T 0 3)) (ty := .int) (C := RX3) (T := TX3) (N := 4) hx hb hts (fun w h => List.mem_cons_of_mem _ (List.mem_append_right _ h)) tyX3 tyX3_ok nmX3 hown hK hP hD hS 0 rfl rfl 3 (by decide) (hts (.fieldLink RX3 20 "LeastNeed$Rows" "used" "I") (List.mem_of_getElem? (i := 1) rfl)) (fun _ h9 => h9) rfl (by decide +kernel) rfl rfl (Nat.le_of_ble_eq_true rfl) dX3_copyOf_5 (fun H locs hP hD hS => ?_)
  have hP : va_P D vwCl (wX3 cs N Wd Md a (k_w S 0 3 (T 0 3)) ++ wX3 cs N2 Wd2 Md2 b T) _ := k_eq hP (wsX3_X3_f0_3 cs N Wd Md N2 Wd2 Md2 a b S T (T 0 3))
  have hD := hDA (k_w S 0 3 (T 0 3)) T
  refine lv_aload_n hx hb dX3_copyOf_8 rfl (lv_at hl 1 rfl) ?_
  refine va_get (D := D) (ci := 2) (v := .ref (b 1)) (C := RX3) (T := TX3) (N := 4) hx hb hts (fun w h => List.mem_cons_of_mem _ (List.mem_append_right _ h)) hown hK hP 2 rfl rfl 2 (by decide) (hts (.fieldLink RX3 16 "LeastNeed$Rows" "cells" "[I") (List.mem_of_getElem? (i := 2) rfl)) (fun _ h9 => h9) rfl dX3_copyOf_9 ?_
  refine lv_aload_n hx hb dX3_copyOf_12 rfl (lv_at hl 0 rfl) ?_
  refine va_get (D := D) (ci := 2) (v := .ref (a 1)) (C := RX3) (T := TX3) (N := 4) hx hb hts (fun w h => List.mem_cons_of_mem _ (List.mem_append_right _ h)) hown hK hP 0 rfl rfl 2 (by decide) (hts (.fieldLink RX3 16 "LeastNeed$Rows" "cells" "[I") (List.mem_of_getElem? (i := 2) rfl)) (fun _ h9 => h9) rfl dX3_copyOf_13 ?_
  obtain ⟨T16, hq16, hd⟩ := dn_b1 hd
  have hPc : va_P D vwCl (wAI cs N2 (k_wi b 1) (k_wi T 1) ++ wAI cs N (k_wi a 1) (k_wi (k_w S 0 3 (T 0 3)) 1)) _ := k_sub hP [3, 1] (wcX3_X3_aI_aI_1b_1 cs N Wd Md N2 Wd2 Md2 a b (k_w S 0 3 (T 0 3)) T)
  have hDc : va_D A (wAI cs N2 (k_wi b 1) (k_wi T 1) ++ wAI cs N (k_wi a 1) (k_wi (k_w S 0 3 (T 0 3)) 1)) := hD.sub [3, 1] (by decide) (wcX3_X3_aI_aI_1b_1 cs N Wd Md N2 Wd2 Md2 a b (k_w S 0 3 (T 0 3)) T)
  have hF := k_self hDc hS hA
  refine k_run_v (va_runSN (As := [.ref (b 1), .ref (a 1)]) (rest := []) ⟨hx, hb, hml, hown, hts⟩ (mX6_copyRow l D cs (k_wi b 1) (k_wi a 1) N2 N (k_wi T 1) (k_wi (k_w S 0 3 (T 0 3)) 1) T16 hq16 _) ⟨va_cnB 2 hts gX3_copyOf_X6_copyRow_n29 rfl rfl rfl hNn.1 (hts (.initialized RX6) (List.mem_of_getElem? (i := 4) rfl)) (by decide +kernel) ⟨Nat.le_of_ble_eq_true rfl, Nat.le_of_ble_eq_true rfl⟩, (hts (.static yX6_copyRow) (List.mem_of_getElem? (i := 3) rfl)), trivial⟩ ⟨k_blind, k_pre hPc hK hNn hDc⟩ rfl rfl hl.1 rfl (lv_room (Nat.le_of_ble_eq_true rfl)) dX3_copyOf_16 ⟨Nat.le_of_ble_eq_true rfl, Nat.le_of_ble_eq_true rfl⟩) hS hF (fun H locs hP1 hk hS => ?_)
  have hP : va_P D vwCl (wX3 cs N Wd Md a (k_sp (k_w S 0 3 (T 0 3)) 1 1 T16) ++ wX3 cs N2 Wd2 Md2 b T) _ := k_back hP hD [3, 1] [0, 2] [0, 3, 1, 2] (wcX3_X3_aI_aI_1b_1 cs N Wd Md N2 Wd2 Md2 a b (k_w S 0 3 (T 0 3)) T) (by decide) hk hP1 (wbX3_X3_aI_aI_1b_1_S1 cs N Wd Md N2 Wd2 Md2 a b (k_w S 0 3 (T 0 3)) T T16)
  have hD := hDA (k_sp (k_w S 0 3 (T 0 3)) 1 1 T16) T
  have e1 := dn_s1 hd
  exact k_vret hx hb hr hQ hAe (by rw [e1]) hP hS hlocks dX3_copyOf_19
-- LeastNeed$Rows.mix(J)J
set_option maxRecDepth 20000 in
def nX3_mix_l5 (N : Nat) (Wd : Int32) (Md : Int32) (x3_5 : Int64) (x5_5 : Int32) (S : Nat → Nat → Int32) : Option ((Int64 × Int32) ⊕ (Int64)) := if ((S 0 3) * Wd) ≤ x5_5 then k_up (some x3_5) else if (Int32.ofNat N) ≤ x5_5 then k_up (some x3_5) else if x5_5 < 0 ∨ N ≤ x5_5.toNatClampNeg then none else some (.inl ((((31 : Int64) * x3_5) + ((S 1 x5_5.toNatClampNeg).toInt64)), (x5_5 + (1 : Int32))))
set_option maxRecDepth 20000 in
def nX3_mix (N : Nat) (Wd : Int32) (Md : Int32) (S : Nat → Nat → Int32) (p1 : Int64) : Option (Int64) := k_it (fun st => nX3_mix_l5 N Wd Md st.1 st.2 S) 1000 (p1, (0 : Int32))
set_option maxHeartbeats 4000000 in
set_option maxRecDepth 100000 in
theorem mX3_mix (l : Launch) (D : va_G) (cs : Nat → ClassId) (a : Nat → Nat) (N : Nat) (Wd : Int32) (Md : Int32) (S : Nat → Nat → Int32) (p1 : Int64) (r9 : Int64) (hd : nX3_mix N Wd Md S p1 = some r9) : ∀ sz : Nat, Met l yX3_mix wsX3_mix ({ frames := 0, cells := 0, slots := 0, locals := 0 }) (k_Pc D cs [.ref (a 0), .long p1] (wX3 cs N Wd Md a S) sz) (k_Ql D r9 (wX3 cs N Wd Md a S) (wX3 cs N Wd Md a S) sz) 0 0 (va_A (wX3 cs N Wd Md a S) sz) := by
  intro sz
  refine Met.ofW (cc := cX3_mix) (maxL := 6) (ret := (some .long)) (by decide) rfl ?_
  intro p e s m args below meth c s₁ B hml hv
  obtain ⟨rfl, hsz, hP, hK, hD0, hNn⟩ := hv
  have hx := B.exec
  have hb := B.bytes
  have hr := B.returns
  have hts := atoms_spec (ws := wsX3_mix) B.pre
  have hown : s.vm.findClass RX3 = some m.cls := findClass_of_methodNamed B.named
  have hlocks := B.notSynchronized
  subst hsz
  obtain ⟨A, hAe⟩ : ∃ A : Nat → Prop, A = va_A (wX3 cs N Wd Md a S) s.heap.size := ⟨_, rfl⟩
  have hD : va_D A (wX3 cs N Wd Md a S) := by rw [hAe]; exact hD0.self
  have hA : ∀ q : Nat, s.heap.size ≤ q → A q := fun q h => by rw [hAe]; exact Or.inr h
  have hS : va_S A s.heap s.heap [] := va_S.rf
  have hDA : ∀ (S : Nat → Nat → Int32), va_D A (wX3 cs N Wd Md a S) := fun S => k_DA hD rfl
  have hl := lv_entry ([.ref (a 0), .long p1]) (n := 6) (Nat.le_of_ble_eq_true rfl)
  rw [lg_entry_eq]
  generalize (lg_sl ([.ref (a 0), .long p1]) ++ List.replicate (6 - (lg_sl ([.ref (a 0), .long p1])).length) Slot.unset).toArray = ls at hl ⊢
  have hl : lv_has ls 6 [(0, .ref (a 0)), (1, .long p1)] := hl
  obtain ⟨Q, hQ⟩ : ∃ Q, Q = MQ below (k_Ql D r9 (wX3 cs N Wd Md a S) (wX3 cs N Wd Md a S) s.heap.size) ([.ref (a 0), .long p1] : List Value).toArray s 0 0 (va_A (wX3 cs N Wd Md a S) s.heap.size) := ⟨_, rfl⟩
  rw [← hQ]
  have Lo5 : ∀ (n1 : Nat) (x3_5 : Int64) (x5_5 : Int32) (H : Heap) (locs : List Loc) (ls : Array Slot), k_it (fun st => nX3_mix_l5 N Wd Md st.1 st.2 S) n1 (x3_5, x5_5) = some r9 → lv_has ls 6 [(0, .ref (a 0)), (3, .long x3_5), (5, .int x5_5)] → va_P D vwCl (wX3 cs N Wd Md a S) H → va_S A s.heap H locs → W p l e (headSpec wsX3_mix ({ frames := 0, cells := 0, slots := 0, locals := 0 })).room s m ([.ref (a 0), .long p1] : List Value).toArray below meth c H locs 0 0 Q (F0 m 5 ls []) := by
    intro n1
    induction n1 with
    | zero => intro x3_5 x5_5 H locs ls hd; exact dn_it0 hd
    | succ n1 ih1 =>
      intro x3_5 x5_5 H locs ls hd hl hP hS
      have hD := hDA S
      obtain ⟨y1, hd, hy1⟩ := dn_it hd
      have hd : nX3_mix_l5 N Wd Md x3_5 x5_5 S = some y1 := hd
      unfold nX3_mix_l5 at hd
      refine lv_iload hx hb dX3_mix_5 (lv_at hl 2 rfl) ?_
      refine lv_aload_n hx hb dX3_mix_7 rfl (lv_at hl 0 rfl) ?_
      refine va_get (D := D) (ci := 2) (v := .int (S 0 3)) (C := RX3) (T := TX3) (N := 4) hx hb hts (fun w h => List.mem_cons_of_mem _ (List.mem_append_right _ h)) hown hK hP 0 rfl rfl 3 (by decide) (hts (.fieldLink RX3 20 "LeastNeed$Rows" "used" "I") (List.mem_of_getElem? (i := 1) rfl)) (fun _ h9 => h9) rfl dX3_mix_8 ?_
      refine lv_aload_n hx hb dX3_mix_11 rfl (lv_at hl 0 rfl) ?_
      refine va_get (D := D) (ci := 2) (v := .int Wd) (C := RX3) (T := TX3) (N := 4) hx hb hts (fun w h => List.mem_cons_of_mem _ (List.mem_append_right _ h)) hown hK hP 0 rfl rfl 0 (by decide) (hts (.fieldLink RX3 7 "LeastNeed$Rows" "width" "I") (List.mem_of_getElem? (i := 2) rfl)) (fun _ h9 => h9) rfl dX3_mix_12 ?_
      refine lv_imul hx hb dX3_mix_15 ?_
      refine lv_icmp_ge (tgt := 50) hx hb dX3_mix_16 (by decide) (fun c16 => ?_) (fun c16 => ?_)
      · have hd := dn_t c16 hd
        have hd := dn_up hd hy1
        refine lv_lload_n hx hb dX3_mix_50 rfl (lv_at hl 1 rfl) ?_
        have e1 := dn_s1 hd
        exact k_lret hx hb hr hQ hAe e1 rfl hP hS hlocks dX3_mix_51
      · have hd := dn_f c16 hd
        refine lv_iload hx hb dX3_mix_19 (lv_at hl 2 rfl) ?_
        refine lv_aload_n hx hb dX3_mix_21 rfl (lv_at hl 0 rfl) ?_
        refine va_get (D := D) (ci := 2) (v := .ref (a 1)) (C := RX3) (T := TX3) (N := 4) hx hb hts (fun w h => List.mem_cons_of_mem _ (List.mem_append_right _ h)) hown hK hP 0 rfl rfl 2 (by decide) (hts (.fieldLink RX3 16 "LeastNeed$Rows" "cells" "[I") (List.mem_of_getElem? (i := 3) rfl)) (fun _ h9 => h9) rfl dX3_mix_22 ?_
        refine va_alen (D := D) (v := Int32.ofNat N) hx hb hK hP 1 1 rfl rfl rfl dX3_mix_25 ?_
        refine lv_icmp_ge (tgt := 50) hx hb dX3_mix_26 (by decide) (fun c26 => ?_) (fun c26 => ?_)
        · have hd := dn_t c26 hd
          have hd := dn_up hd hy1
          refine lv_lload_n hx hb dX3_mix_50 rfl (lv_at hl 1 rfl) ?_
          have e1 := dn_s1 hd
          exact k_lret hx hb hr hQ hAe e1 rfl hP hS hlocks dX3_mix_51
        · have hd := dn_f c26 hd
          refine lv_ldc2 (v := (31 : Int64)) hx hb hown (hts (.constantLong RX3 35 (31)) (List.mem_of_getElem? (i := 4) rfl)) dX3_mix_29 ?_
          refine lv_lload_n hx hb dX3_mix_32 rfl (lv_at hl 1 rfl) ?_
          refine lv_lmul hx hb dX3_mix_33 ?_
          refine lv_aload_n hx hb dX3_mix_34 rfl (lv_at hl 0 rfl) ?_
          refine va_get (D := D) (ci := 2) (v := .ref (a 1)) (C := RX3) (T := TX3) (N := 4) hx hb hts (fun w h => List.mem_cons_of_mem _ (List.mem_append_right _ h)) hown hK hP 0 rfl rfl 2 (by decide) (hts (.fieldLink RX3 16 "LeastNeed$Rows" "cells" "[I") (List.mem_of_getElem? (i := 3) rfl)) (fun _ h9 => h9) rfl dX3_mix_35 ?_
          refine lv_iload hx hb dX3_mix_38 (lv_at hl 2 rfl) ?_
          obtain ⟨hi40, hd⟩ := dn_i hd
          refine k_iald (D := D) (k := x5_5.toNatClampNeg) (by rfl) hx hb hK hP 1 1 rfl rfl hi40 dX3_mix_40 ?_
          refine lv_i2l hx hb dX3_mix_41 rfl ?_
          refine lv_ladd hx hb dX3_mix_42 ?_
          refine lv_lstore_n (lv' := [(3, .long (((31 : Int64) * x3_5) + ((S 1 x5_5.toNatClampNeg).toInt64))), (0, .ref (a 0)), (5, .int x5_5)]) hx hb dX3_mix_43 rfl hl (by decide) rfl (fun ls hl => ?_)
          refine lv_iinc (v := x5_5 + (1 : Int32)) (lv' := [(5, .int (x5_5 + (1 : Int32))), (3, .long (((31 : Int64) * x3_5) + ((S 1 x5_5.toNatClampNeg).toInt64))), (0, .ref (a 0))]) hx hb dX3_mix_44 hl (k := 2) rfl rfl (by decide) rfl (fun ls hl => ?_)
          refine lv_goto (tgt := 5) hx hb dX3_mix_47 (by decide) ?_
          exact ih1 (((31 : Int64) * x3_5) + ((S 1 x5_5.toNatClampNeg).toInt64)) (x5_5 + (1 : Int32)) _ _ _ (dn_bk hd hy1) (lv_sub hl [2, 1, 0] rfl) hP hS
  unfold nX3_mix at hd
  refine lv_lload_n hx hb dX3_mix_0 rfl (lv_at hl 1 rfl) ?_
  refine lv_lstore_n (lv' := [(3, .long p1), (0, .ref (a 0)), (1, .long p1)]) hx hb dX3_mix_1 rfl hl (by decide) rfl (fun ls hl => ?_)
  refine lv_iconst (v := (0 : Int32)) hx hb dX3_mix_2 (by decide) ?_
  refine lv_istore (lv' := [(5, .int (0 : Int32)), (3, .long p1), (0, .ref (a 0)), (1, .long p1)]) hx hb dX3_mix_3 hl (by decide) rfl (fun ls hl => ?_)
  exact Lo5 1000 p1 (0 : Int32) _ _ _ hd (lv_sub hl [2, 1, 0] rfl) hP hS
-- LeastNeed$Valley.empty()V
set_option maxRecDepth 20000 in
def nX5_empty (S : Nat → Nat → Int32) : Option ((Nat → Nat → Int32)) := some (k_w (k_w (k_w (k_w (k_w (k_w S 0 12 (0 : Int32)) 0 13 (0 : Int32)) 0 14 (0 : Int32)) 10 3 (0 : Int32)) 12 3 (0 : Int32)) 14 3 (0 : Int32))
set_option maxHeartbeats 4000000 in
set_option maxRecDepth 100000 in
theorem mX5_empty (l : Launch) (D : va_G) (cs : Nat → ClassId) (a : Nat → Nat) (S : Nat → Nat → Int32) (S9 : (Nat → Nat → Int32)) (hd : nX5_empty S = some S9) : ∀ sz : Nat, Met l yX5_empty wsX5_empty ({ frames := 0, cells := 0, slots := 0, locals := 0 }) (k_Pc D cs [.ref (a 0)] (wX5 cs a S) sz) (k_Qv D (wX5 cs a S) (wX5 cs a S9) sz) 0 0 (va_A (wX5 cs a S) sz) := by
  intro sz
  refine Met.ofW (cc := cX5_empty) (maxL := 1) (ret := none) (by decide) rfl ?_
  intro p e s m args below meth c s₁ B hml hv
  obtain ⟨rfl, hsz, hP, hK, hD0, hNn⟩ := hv
  have hx := B.exec
  have hb := B.bytes
  have hr := B.returns
  have hts := atoms_spec (ws := wsX5_empty) B.pre
  have hown : s.vm.findClass RX5 = some m.cls := findClass_of_methodNamed B.named
  have hlocks := B.notSynchronized
  subst hsz
  obtain ⟨A, hAe⟩ : ∃ A : Nat → Prop, A = va_A (wX5 cs a S) s.heap.size := ⟨_, rfl⟩
  have hD : va_D A (wX5 cs a S) := by rw [hAe]; exact hD0.self
  have hA : ∀ q : Nat, s.heap.size ≤ q → A q := fun q h => by rw [hAe]; exact Or.inr h
  have hS : va_S A s.heap s.heap [] := va_S.rf
  have hDA : ∀ (S : Nat → Nat → Int32), va_D A (wX5 cs a S) := fun S => k_DA hD rfl
  have hl := lv_entry ([.ref (a 0)]) (n := 1) (Nat.le_of_ble_eq_true rfl)
  rw [lg_entry_eq]
  generalize (lg_sl ([.ref (a 0)]) ++ List.replicate (1 - (lg_sl ([.ref (a 0)])).length) Slot.unset).toArray = ls at hl ⊢
  have hl : lv_has ls 1 [(0, .ref (a 0))] := hl
  obtain ⟨Q, hQ⟩ : ∃ Q, Q = MQ below (k_Qv D (wX5 cs a S) (wX5 cs a S9) s.heap.size) ([.ref (a 0)] : List Value).toArray s 0 0 (va_A (wX5 cs a S) s.heap.size) := ⟨_, rfl⟩
  rw [← hQ]
  unfold nX5_empty at hd
  refine lv_aload_n hx hb dX5_empty_0 rfl (lv_at hl 0 rfl) ?_
  refine lv_iconst (v := (0 : Int32)) hx hb dX5_empty_1 (by decide) ?_
  refine va_put (D := D) (ci := 3) (v := .int (0 : Int32)) (ty := .int) (C := RX5) (T := TX5) (N := 15) hx hb hts (fun w h => List.mem_cons_of_mem _ (List.mem_append_left _ (List.mem_append_right _ h))) tyX5 tyX5_ok nmX5 hown hK hP hD hS 0 rfl rfl 12 (by decide) (hts (.fieldLink RX5 54 "LeastNeed$Valley" "people" "I") (List.mem_of_getElem? (i := 1) rfl)) (fun _ h9 => h9) rfl (by decide +kernel) rfl rfl (Nat.le_of_ble_eq_true rfl) dX5_empty_2 (fun H locs hP hD hS => ?_)
  have hP : va_P D vwCl (wX5 cs a (k_w S 0 12 (0 : Int32))) _ := k_eq hP (wsX5_f0_12 cs a S (0 : Int32))
  have hD := hDA (k_w S 0 12 (0 : Int32))
  refine lv_aload_n hx hb dX5_empty_5 rfl (lv_at hl 0 rfl) ?_
  refine lv_iconst (v := (0 : Int32)) hx hb dX5_empty_6 (by decide) ?_
  refine va_put (D := D) (ci := 3) (v := .int (0 : Int32)) (ty := .int) (C := RX5) (T := TX5) (N := 15) hx hb hts (fun w h => List.mem_cons_of_mem _ (List.mem_append_left _ (List.mem_append_right _ h))) tyX5 tyX5_ok nmX5 hown hK hP hD hS 0 rfl rfl 13 (by decide) (hts (.fieldLink RX5 58 "LeastNeed$Valley" "things" "I") (List.mem_of_getElem? (i := 2) rfl)) (fun _ h9 => h9) rfl (by decide +kernel) rfl rfl (Nat.le_of_ble_eq_true rfl) dX5_empty_7 (fun H locs hP hD hS => ?_)
  have hP : va_P D vwCl (wX5 cs a (k_w (k_w S 0 12 (0 : Int32)) 0 13 (0 : Int32))) _ := k_eq hP (wsX5_f0_13 cs a (k_w S 0 12 (0 : Int32)) (0 : Int32))
  have hD := hDA (k_w (k_w S 0 12 (0 : Int32)) 0 13 (0 : Int32))
  refine lv_aload_n hx hb dX5_empty_10 rfl (lv_at hl 0 rfl) ?_
  refine lv_iconst (v := (0 : Int32)) hx hb dX5_empty_11 (by decide) ?_
  refine va_put (D := D) (ci := 3) (v := .int (0 : Int32)) (ty := .int) (C := RX5) (T := TX5) (N := 15) hx hb hts (fun w h => List.mem_cons_of_mem _ (List.mem_append_left _ (List.mem_append_right _ h))) tyX5 tyX5_ok nmX5 hown hK hP hD hS 0 rfl rfl 14 (by decide) (hts (.fieldLink RX5 61 "LeastNeed$Valley" "today" "I") (List.mem_of_getElem? (i := 3) rfl)) (fun _ h9 => h9) rfl (by decide +kernel) rfl rfl (Nat.le_of_ble_eq_true rfl) dX5_empty_12 (fun H locs hP hD hS => ?_)
  have hP : va_P D vwCl (wX5 cs a (k_w (k_w (k_w S 0 12 (0 : Int32)) 0 13 (0 : Int32)) 0 14 (0 : Int32))) _ := k_eq hP (wsX5_f0_14 cs a (k_w (k_w S 0 12 (0 : Int32)) 0 13 (0 : Int32)) (0 : Int32))
  have hD := hDA (k_w (k_w (k_w S 0 12 (0 : Int32)) 0 13 (0 : Int32)) 0 14 (0 : Int32))
  refine lv_aload_n hx hb dX5_empty_15 rfl (lv_at hl 0 rfl) ?_
  refine va_get (D := D) (ci := 3) (v := .ref (a 10)) (C := RX5) (T := TX5) (N := 15) hx hb hts (fun w h => List.mem_cons_of_mem _ (List.mem_append_left _ (List.mem_append_right _ h))) hown hK hP 0 rfl rfl 9 (by decide) (hts (.fieldLink RX5 44 "LeastNeed$Valley" "notes" "LLeastNeed$Rows;") (List.mem_of_getElem? (i := 4) rfl)) (fun _ h9 => h9) rfl dX5_empty_16 ?_
  refine lv_iconst (v := (0 : Int32)) hx hb dX5_empty_19 (by decide) ?_
  refine va_put (D := D) (ci := 2) (v := .int (0 : Int32)) (ty := .int) (C := RX3) (T := TX3) (N := 4) hx hb hts (fun w h => List.mem_cons_of_mem _ (List.mem_append_right _ h)) tyX3 tyX3_ok nmX3 hown hK hP hD hS 10 rfl rfl 3 (by decide) (hts (.fieldLink RX5 64 "LeastNeed$Rows" "used" "I") (List.mem_of_getElem? (i := 5) rfl)) (fun _ h9 => h9) rfl (by decide +kernel) rfl rfl (Nat.le_of_ble_eq_true rfl) dX5_empty_20 (fun H locs hP hD hS => ?_)
  have hP : va_P D vwCl (wX5 cs a (k_w (k_w (k_w (k_w S 0 12 (0 : Int32)) 0 13 (0 : Int32)) 0 14 (0 : Int32)) 10 3 (0 : Int32))) _ := k_eq hP (wsX5_f10_3 cs a (k_w (k_w (k_w S 0 12 (0 : Int32)) 0 13 (0 : Int32)) 0 14 (0 : Int32)) (0 : Int32))
  have hD := hDA (k_w (k_w (k_w (k_w S 0 12 (0 : Int32)) 0 13 (0 : Int32)) 0 14 (0 : Int32)) 10 3 (0 : Int32))
  refine lv_aload_n hx hb dX5_empty_23 rfl (lv_at hl 0 rfl) ?_
  refine va_get (D := D) (ci := 3) (v := .ref (a 12)) (C := RX5) (T := TX5) (N := 15) hx hb hts (fun w h => List.mem_cons_of_mem _ (List.mem_append_left _ (List.mem_append_right _ h))) hown hK hP 0 rfl rfl 10 (by decide) (hts (.fieldLink RX5 48 "LeastNeed$Valley" "cames" "LLeastNeed$Rows;") (List.mem_of_getElem? (i := 6) rfl)) (fun _ h9 => h9) rfl dX5_empty_24 ?_
  refine lv_iconst (v := (0 : Int32)) hx hb dX5_empty_27 (by decide) ?_
  refine va_put (D := D) (ci := 2) (v := .int (0 : Int32)) (ty := .int) (C := RX3) (T := TX3) (N := 4) hx hb hts (fun w h => List.mem_cons_of_mem _ (List.mem_append_right _ h)) tyX3 tyX3_ok nmX3 hown hK hP hD hS 12 rfl rfl 3 (by decide) (hts (.fieldLink RX5 64 "LeastNeed$Rows" "used" "I") (List.mem_of_getElem? (i := 5) rfl)) (fun _ h9 => h9) rfl (by decide +kernel) rfl rfl (Nat.le_of_ble_eq_true rfl) dX5_empty_28 (fun H locs hP hD hS => ?_)
  have hP : va_P D vwCl (wX5 cs a (k_w (k_w (k_w (k_w (k_w S 0 12 (0 : Int32)) 0 13 (0 : Int32)) 0 14 (0 : Int32)) 10 3 (0 : Int32)) 12 3 (0 : Int32))) _ := k_eq hP (wsX5_f12_3 cs a (k_w (k_w (k_w (k_w S 0 12 (0 : Int32)) 0 13 (0 : Int32)) 0 14 (0 : Int32)) 10 3 (0 : Int32)) (0 : Int32))
  have hD := hDA (k_w (k_w (k_w (k_w (k_w S 0 12 (0 : Int32)) 0 13 (0 : Int32)) 0 14 (0 : Int32)) 10 3 (0 : Int32)) 12 3 (0 : Int32))
  refine lv_aload_n hx hb dX5_empty_31 rfl (lv_at hl 0 rfl) ?_
  refine va_get (D := D) (ci := 3) (v := .ref (a 14)) (C := RX5) (T := TX5) (N := 15) hx hb hts (fun w h => List.mem_cons_of_mem _ (List.mem_append_left _ (List.mem_append_right _ h))) hown hK hP 0 rfl rfl 11 (by decide) (hts (.fieldLink RX5 51 "LeastNeed$Valley" "past" "LLeastNeed$Rows;") (List.mem_of_getElem? (i := 7) rfl)) (fun _ h9 => h9) rfl dX5_empty_32 ?_
  refine lv_iconst (v := (0 : Int32)) hx hb dX5_empty_35 (by decide) ?_
  refine va_put (D := D) (ci := 2) (v := .int (0 : Int32)) (ty := .int) (C := RX3) (T := TX3) (N := 4) hx hb hts (fun w h => List.mem_cons_of_mem _ (List.mem_append_right _ h)) tyX3 tyX3_ok nmX3 hown hK hP hD hS 14 rfl rfl 3 (by decide) (hts (.fieldLink RX5 64 "LeastNeed$Rows" "used" "I") (List.mem_of_getElem? (i := 5) rfl)) (fun _ h9 => h9) rfl (by decide +kernel) rfl rfl (Nat.le_of_ble_eq_true rfl) dX5_empty_36 (fun H locs hP hD hS => ?_)
  have hP : va_P D vwCl (wX5 cs a (k_w (k_w (k_w (k_w (k_w (k_w S 0 12 (0 : Int32)) 0 13 (0 : Int32)) 0 14 (0 : Int32)) 10 3 (0 : Int32)) 12 3 (0 : Int32)) 14 3 (0 : Int32))) _ := k_eq hP (wsX5_f14_3 cs a (k_w (k_w (k_w (k_w (k_w S 0 12 (0 : Int32)) 0 13 (0 : Int32)) 0 14 (0 : Int32)) 10 3 (0 : Int32)) 12 3 (0 : Int32)) (0 : Int32))
  have hD := hDA (k_w (k_w (k_w (k_w (k_w (k_w S 0 12 (0 : Int32)) 0 13 (0 : Int32)) 0 14 (0 : Int32)) 10 3 (0 : Int32)) 12 3 (0 : Int32)) 14 3 (0 : Int32))
  have e1 := dn_s1 hd
  exact k_vret hx hb hr hQ hAe (by rw [e1]) hP hS hlocks dX5_empty_39
-- LeastNeed$Valley.copyOf(LLeastNeed$Valley;)V
set_option maxRecDepth 20000 in
def nX5_copyOf (S : Nat → Nat → Int32) (T : Nat → Nat → Int32) : Option ((Nat → Nat → Int32)) := k_b1 (nX6_copyRow 7 7 (k_wi T 1) (k_wi S 1)) (fun T8 => k_b1 (nX6_copyRow 7 7 (k_wi T 2) (k_wi (k_sp S 1 1 T8) 2)) (fun T19 => k_b1 (nX6_copyRow 7 7 (k_wi T 3) (k_wi (k_sp (k_sp S 1 1 T8) 2 1 T19) 3)) (fun T30 => k_b1 (nX6_copyRow 28 28 (k_wi T 4) (k_wi (k_sp (k_sp (k_sp S 1 1 T8) 2 1 T19) 3 1 T30) 4)) (fun T41 => k_b1 (nX6_copyRow 5 5 (k_wi T 5) (k_wi (k_sp (k_sp (k_sp (k_sp S 1 1 T8) 2 1 T19) 3 1 T30) 4 1 T41) 5)) (fun T52 => k_b1 (nX6_copyRow 5 5 (k_wi T 6) (k_wi (k_sp (k_sp (k_sp (k_sp (k_sp S 1 1 T8) 2 1 T19) 3 1 T30) 4 1 T41) 5 1 T52) 6)) (fun T63 => k_b1 (nX6_copyRow 5 5 (k_wi T 7) (k_wi (k_sp (k_sp (k_sp (k_sp (k_sp (k_sp S 1 1 T8) 2 1 T19) 3 1 T30) 4 1 T41) 5 1 T52) 6 1 T63) 7)) (fun T74 => k_b1 (nX6_copyRow 5 5 (k_wi T 8) (k_wi (k_sp (k_sp (k_sp (k_sp (k_sp (k_sp (k_sp S 1 1 T8) 2 1 T19) 3 1 T30) 4 1 T41) 5 1 T52) 6 1 T63) 7 1 T74) 8)) (fun T85 => k_b1 (nX6_copyRow 5 5 (k_wi T 9) (k_wi (k_sp (k_sp (k_sp (k_sp (k_sp (k_sp (k_sp (k_sp S 1 1 T8) 2 1 T19) 3 1 T30) 4 1 T41) 5 1 T52) 6 1 T63) 7 1 T74) 8 1 T85) 9)) (fun T96 => k_b1 (nX3_copyOf 36 (6 : Int32) (6 : Int32) 36 (6 : Int32) (6 : Int32) (k_wi (k_sp (k_sp (k_sp (k_sp (k_sp (k_sp (k_sp (k_sp (k_sp S 1 1 T8) 2 1 T19) 3 1 T30) 4 1 T41) 5 1 T52) 6 1 T63) 7 1 T74) 8 1 T85) 9 1 T96) 10) (k_wi T 10)) (fun S107 => k_b1 (nX3_copyOf 24 (4 : Int32) (6 : Int32) 24 (4 : Int32) (6 : Int32) (k_wi (k_sp (k_sp (k_sp (k_sp (k_sp (k_sp (k_sp (k_sp (k_sp (k_sp S 1 1 T8) 2 1 T19) 3 1 T30) 4 1 T41) 5 1 T52) 6 1 T63) 7 1 T74) 8 1 T85) 9 1 T96) 10 2 S107) 12) (k_wi T 12)) (fun S118 => k_b1 (nX3_copyOf 144 (18 : Int32) (8 : Int32) 144 (18 : Int32) (8 : Int32) (k_wi (k_sp (k_sp (k_sp (k_sp (k_sp (k_sp (k_sp (k_sp (k_sp (k_sp (k_sp S 1 1 T8) 2 1 T19) 3 1 T30) 4 1 T41) 5 1 T52) 6 1 T63) 7 1 T74) 8 1 T85) 9 1 T96) 10 2 S107) 12 2 S118) 14) (k_wi T 14)) (fun S129 => some (k_w (k_w (k_w (k_sp (k_sp (k_sp (k_sp (k_sp (k_sp (k_sp (k_sp (k_sp (k_sp (k_sp (k_sp S 1 1 T8) 2 1 T19) 3 1 T30) 4 1 T41) 5 1 T52) 6 1 T63) 7 1 T74) 8 1 T85) 9 1 T96) 10 2 S107) 12 2 S118) 14 2 S129) 0 12 (T 0 12)) 0 13 (T 0 13)) 0 14 (T 0 14))))))))))))))
set_option maxHeartbeats 4000000 in
set_option maxRecDepth 100000 in
theorem mX5_copyOf (l : Launch) (D : va_G) (cs : Nat → ClassId) (a : Nat → Nat) (b : Nat → Nat) (S : Nat → Nat → Int32) (T : Nat → Nat → Int32) (S9 : (Nat → Nat → Int32)) (hd : nX5_copyOf S T = some S9) : ∀ sz : Nat, Met l yX5_copyOf wsX5_copyOf ({ frames := 3, cells := 0, slots := 0, locals := 82 }) (k_Pc D cs [.ref (a 0), .ref (b 0)] (wX5 cs a S ++ wX5 cs b T) sz) (k_Qv D (wX5 cs a S ++ wX5 cs b T) (wX5 cs a S9 ++ wX5 cs b T) sz) 0 0 (va_A (wX5 cs a S ++ wX5 cs b T) sz) := by
  intro sz
  refine Met.ofW (cc := cX5_copyOf) (maxL := 2) (ret := none) (by decide) rfl ?_
  intro p e s m args below meth c s₁ B hml hv
  obtain ⟨rfl, hsz, hP, hK, hD0, hNn⟩ := hv
  have hx := B.exec
  have hb := B.bytes
  have hr := B.returns
  have hts := atoms_spec (ws := wsX5_copyOf) B.pre
  have hown : s.vm.findClass RX5 = some m.cls := findClass_of_methodNamed B.named
  have hlocks := B.notSynchronized
  subst hsz
  obtain ⟨A, hAe⟩ : ∃ A : Nat → Prop, A = va_A (wX5 cs a S ++ wX5 cs b T) s.heap.size := ⟨_, rfl⟩
  have hD : va_D A (wX5 cs a S ++ wX5 cs b T) := by rw [hAe]; exact hD0.self
  have hA : ∀ q : Nat, s.heap.size ≤ q → A q := fun q h => by rw [hAe]; exact Or.inr h
  have hS : va_S A s.heap s.heap [] := va_S.rf
  have hDA : ∀ (S : Nat → Nat → Int32) (T : Nat → Nat → Int32), va_D A (wX5 cs a S ++ wX5 cs b T) := fun S T => k_DA hD rfl
  have hl := lv_entry ([.ref (a 0), .ref (b 0)]) (n := 2) (Nat.le_of_ble_eq_true rfl)
  rw [lg_entry_eq]
  generalize (lg_sl ([.ref (a 0), .ref (b 0)]) ++ List.replicate (2 - (lg_sl ([.ref (a 0), .ref (b 0)])).length) Slot.unset).toArray = ls at hl ⊢
  have hl : lv_has ls 2 [(0, .ref (a 0)), (1, .ref (b 0))] := hl
  obtain ⟨Q, hQ⟩ : ∃ Q, Q = MQ below (k_Qv D (wX5 cs a S ++ wX5 cs b T) (wX5 cs a S9 ++ wX5 cs b T) s.heap.size) ([.ref (a 0), .ref (b 0)] : List Value).toArray s 0 0 (va_A (wX5 cs a S ++ wX5 cs b T) s.heap.size) := ⟨_, rfl⟩
  rw [← hQ]
  unfold nX5_copyOf at hd
  refine lv_aload_n hx hb dX5_copyOf_0 rfl (lv_at hl 1 rfl) ?_
  refine va_get (D := D) (ci := 3) (v := .ref (b 1)) (C := RX5) (T := TX5) (N := 15) hx hb hts (fun w h => List.mem_cons_of_mem _ (List.mem_append_left _ (List.mem_append_right _ h))) hown hK hP 16 rfl rfl 0 (by decide) (hts (.fieldLink RX5 9 "LeastNeed$Valley" "kind" "[I") (List.mem_of_getElem? (i := 1) rfl)) (fun _ h9 => h9) rfl dX5_copyOf_1 ?_
  refine lv_aload_n hx hb dX5_copyOf_4 rfl (lv_at hl 0 rfl) ?_
  refine va_get (D := D) (ci := 3) (v := .ref (a 1)) (C := RX5) (T := TX5) (N := 15) hx hb hts (fun w h => List.mem_cons_of_mem _ (List.mem_append_left _ (List.mem_append_right _ h))) hown hK hP 0 rfl rfl 0 (by decide) (hts (.fieldLink RX5 9 "LeastNeed$Valley" "kind" "[I") (List.mem_of_getElem? (i := 1) rfl)) (fun _ h9 => h9) rfl dX5_copyOf_5 ?_
  obtain ⟨T8, hq8, hd⟩ := dn_b1 hd
  have hPc : va_P D vwCl (wAI cs 7 (k_wi b 1) (k_wi T 1) ++ wAI cs 7 (k_wi a 1) (k_wi S 1)) _ := k_sub hP [17, 1] (wcX5_X5_aI_aI_1b_1 cs a b S T)
  have hDc : va_D A (wAI cs 7 (k_wi b 1) (k_wi T 1) ++ wAI cs 7 (k_wi a 1) (k_wi S 1)) := hD.sub [17, 1] (by decide) (wcX5_X5_aI_aI_1b_1 cs a b S T)
  have hF := k_self hDc hS hA
  refine k_run_v (va_runSN (As := [.ref (b 1), .ref (a 1)]) (rest := []) ⟨hx, hb, hml, hown, hts⟩ (mX6_copyRow l D cs (k_wi b 1) (k_wi a 1) 7 7 (k_wi T 1) (k_wi S 1) T8 hq8 _) ⟨va_cnB 2 hts gX5_copyOf_X6_copyRow_n67 rfl rfl rfl hNn.2.1 (hts (.initialized RX6) (List.mem_of_getElem? (i := 17) rfl)) (by decide +kernel) ⟨Nat.le_of_ble_eq_true rfl, Nat.le_of_ble_eq_true rfl⟩, (hts (.static yX6_copyRow) (List.mem_of_getElem? (i := 16) rfl)), trivial⟩ ⟨k_blind, k_pre hPc hK hNn hDc⟩ rfl rfl hl.1 rfl (lv_room (Nat.le_of_ble_eq_true rfl)) dX5_copyOf_8 ⟨Nat.le_of_ble_eq_true rfl, Nat.le_of_ble_eq_true rfl⟩) hS hF (fun H locs hP1 hk hS => ?_)
  have hP : va_P D vwCl (wX5 cs a (k_sp S 1 1 T8) ++ wX5 cs b T) _ := k_back hP hD [17, 1] [0, 2, 3, 4, 5, 6, 7, 8, 9, 10, 11, 12, 13, 14, 15, 16, 18, 19, 20, 21, 22, 23, 24, 25, 26, 27, 28, 29, 30, 31] [0, 31, 1, 2, 3, 4, 5, 6, 7, 8, 9, 10, 11, 12, 13, 14, 15, 30, 16, 17, 18, 19, 20, 21, 22, 23, 24, 25, 26, 27, 28, 29] (wcX5_X5_aI_aI_1b_1 cs a b S T) (by decide) hk hP1 (wbX5_X5_aI_aI_1b_1_S1 cs a b S T T8)
  have hD := hDA (k_sp S 1 1 T8) T
  refine lv_aload_n hx hb dX5_copyOf_11 rfl (lv_at hl 1 rfl) ?_
  refine va_get (D := D) (ci := 3) (v := .ref (b 2)) (C := RX5) (T := TX5) (N := 15) hx hb hts (fun w h => List.mem_cons_of_mem _ (List.mem_append_left _ (List.mem_append_right _ h))) hown hK hP 16 rfl rfl 1 (by decide) (hts (.fieldLink RX5 15 "LeastNeed$Valley" "house" "[I") (List.mem_of_getElem? (i := 2) rfl)) (fun _ h9 => h9) rfl dX5_copyOf_12 ?_
  refine lv_aload_n hx hb dX5_copyOf_15 rfl (lv_at hl 0 rfl) ?_
  refine va_get (D := D) (ci := 3) (v := .ref (a 2)) (C := RX5) (T := TX5) (N := 15) hx hb hts (fun w h => List.mem_cons_of_mem _ (List.mem_append_left _ (List.mem_append_right _ h))) hown hK hP 0 rfl rfl 1 (by decide) (hts (.fieldLink RX5 15 "LeastNeed$Valley" "house" "[I") (List.mem_of_getElem? (i := 2) rfl)) (fun _ h9 => h9) rfl dX5_copyOf_16 ?_
  obtain ⟨T19, hq19, hd⟩ := dn_b1 hd
  have hPc : va_P D vwCl (wAI cs 7 (k_wi b 2) (k_wi T 2) ++ wAI cs 7 (k_wi a 2) (k_wi (k_sp S 1 1 T8) 2)) _ := k_sub hP [18, 2] (wcX5_X5_aI_aI_2b_2 cs a b (k_sp S 1 1 T8) T)
  have hDc : va_D A (wAI cs 7 (k_wi b 2) (k_wi T 2) ++ wAI cs 7 (k_wi a 2) (k_wi (k_sp S 1 1 T8) 2)) := hD.sub [18, 2] (by decide) (wcX5_X5_aI_aI_2b_2 cs a b (k_sp S 1 1 T8) T)
  have hF := k_self hDc hS hA
  refine k_run_v (va_runSN (As := [.ref (b 2), .ref (a 2)]) (rest := []) ⟨hx, hb, hml, hown, hts⟩ (mX6_copyRow l D cs (k_wi b 2) (k_wi a 2) 7 7 (k_wi T 2) (k_wi (k_sp S 1 1 T8) 2) T19 hq19 _) ⟨va_cnB 2 hts gX5_copyOf_X6_copyRow_n67 rfl rfl rfl hNn.2.1 (hts (.initialized RX6) (List.mem_of_getElem? (i := 17) rfl)) (by decide +kernel) ⟨Nat.le_of_ble_eq_true rfl, Nat.le_of_ble_eq_true rfl⟩, (hts (.static yX6_copyRow) (List.mem_of_getElem? (i := 16) rfl)), trivial⟩ ⟨k_blind, k_pre hPc hK hNn hDc⟩ rfl rfl hl.1 rfl (lv_room (Nat.le_of_ble_eq_true rfl)) dX5_copyOf_19 ⟨Nat.le_of_ble_eq_true rfl, Nat.le_of_ble_eq_true rfl⟩) hS hF (fun H locs hP1 hk hS => ?_)
  have hP : va_P D vwCl (wX5 cs a (k_sp (k_sp S 1 1 T8) 2 1 T19) ++ wX5 cs b T) _ := k_back hP hD [18, 2] [0, 1, 3, 4, 5, 6, 7, 8, 9, 10, 11, 12, 13, 14, 15, 16, 17, 19, 20, 21, 22, 23, 24, 25, 26, 27, 28, 29, 30, 31] [0, 1, 31, 2, 3, 4, 5, 6, 7, 8, 9, 10, 11, 12, 13, 14, 15, 16, 30, 17, 18, 19, 20, 21, 22, 23, 24, 25, 26, 27, 28, 29] (wcX5_X5_aI_aI_2b_2 cs a b (k_sp S 1 1 T8) T) (by decide) hk hP1 (wbX5_X5_aI_aI_2b_2_S1 cs a b (k_sp S 1 1 T8) T T19)
  have hD := hDA (k_sp (k_sp S 1 1 T8) 2 1 T19) T
  refine lv_aload_n hx hb dX5_copyOf_22 rfl (lv_at hl 1 rfl) ?_
  refine va_get (D := D) (ci := 3) (v := .ref (b 3)) (C := RX5) (T := TX5) (N := 15) hx hb hts (fun w h => List.mem_cons_of_mem _ (List.mem_append_left _ (List.mem_append_right _ h))) hown hK hP 16 rfl rfl 2 (by decide) (hts (.fieldLink RX5 18 "LeastNeed$Valley" "worn" "[I") (List.mem_of_getElem? (i := 3) rfl)) (fun _ h9 => h9) rfl dX5_copyOf_23 ?_
  refine lv_aload_n hx hb dX5_copyOf_26 rfl (lv_at hl 0 rfl) ?_
  refine va_get (D := D) (ci := 3) (v := .ref (a 3)) (C := RX5) (T := TX5) (N := 15) hx hb hts (fun w h => List.mem_cons_of_mem _ (List.mem_append_left _ (List.mem_append_right _ h))) hown hK hP 0 rfl rfl 2 (by decide) (hts (.fieldLink RX5 18 "LeastNeed$Valley" "worn" "[I") (List.mem_of_getElem? (i := 3) rfl)) (fun _ h9 => h9) rfl dX5_copyOf_27 ?_
  obtain ⟨T30, hq30, hd⟩ := dn_b1 hd
  have hPc : va_P D vwCl (wAI cs 7 (k_wi b 3) (k_wi T 3) ++ wAI cs 7 (k_wi a 3) (k_wi (k_sp (k_sp S 1 1 T8) 2 1 T19) 3)) _ := k_sub hP [19, 3] (wcX5_X5_aI_aI_3b_3 cs a b (k_sp (k_sp S 1 1 T8) 2 1 T19) T)
  have hDc : va_D A (wAI cs 7 (k_wi b 3) (k_wi T 3) ++ wAI cs 7 (k_wi a 3) (k_wi (k_sp (k_sp S 1 1 T8) 2 1 T19) 3)) := hD.sub [19, 3] (by decide) (wcX5_X5_aI_aI_3b_3 cs a b (k_sp (k_sp S 1 1 T8) 2 1 T19) T)
  have hF := k_self hDc hS hA
  refine k_run_v (va_runSN (As := [.ref (b 3), .ref (a 3)]) (rest := []) ⟨hx, hb, hml, hown, hts⟩ (mX6_copyRow l D cs (k_wi b 3) (k_wi a 3) 7 7 (k_wi T 3) (k_wi (k_sp (k_sp S 1 1 T8) 2 1 T19) 3) T30 hq30 _) ⟨va_cnB 2 hts gX5_copyOf_X6_copyRow_n67 rfl rfl rfl hNn.2.1 (hts (.initialized RX6) (List.mem_of_getElem? (i := 17) rfl)) (by decide +kernel) ⟨Nat.le_of_ble_eq_true rfl, Nat.le_of_ble_eq_true rfl⟩, (hts (.static yX6_copyRow) (List.mem_of_getElem? (i := 16) rfl)), trivial⟩ ⟨k_blind, k_pre hPc hK hNn hDc⟩ rfl rfl hl.1 rfl (lv_room (Nat.le_of_ble_eq_true rfl)) dX5_copyOf_30 ⟨Nat.le_of_ble_eq_true rfl, Nat.le_of_ble_eq_true rfl⟩) hS hF (fun H locs hP1 hk hS => ?_)
  have hP : va_P D vwCl (wX5 cs a (k_sp (k_sp (k_sp S 1 1 T8) 2 1 T19) 3 1 T30) ++ wX5 cs b T) _ := k_back hP hD [19, 3] [0, 1, 2, 4, 5, 6, 7, 8, 9, 10, 11, 12, 13, 14, 15, 16, 17, 18, 20, 21, 22, 23, 24, 25, 26, 27, 28, 29, 30, 31] [0, 1, 2, 31, 3, 4, 5, 6, 7, 8, 9, 10, 11, 12, 13, 14, 15, 16, 17, 30, 18, 19, 20, 21, 22, 23, 24, 25, 26, 27, 28, 29] (wcX5_X5_aI_aI_3b_3 cs a b (k_sp (k_sp S 1 1 T8) 2 1 T19) T) (by decide) hk hP1 (wbX5_X5_aI_aI_3b_3_S1 cs a b (k_sp (k_sp S 1 1 T8) 2 1 T19) T T30)
  have hD := hDA (k_sp (k_sp (k_sp S 1 1 T8) 2 1 T19) 3 1 T30) T
  refine lv_aload_n hx hb dX5_copyOf_33 rfl (lv_at hl 1 rfl) ?_
  refine va_get (D := D) (ci := 3) (v := .ref (b 4)) (C := RX5) (T := TX5) (N := 15) hx hb hts (fun w h => List.mem_cons_of_mem _ (List.mem_append_left _ (List.mem_append_right _ h))) hown hK hP 16 rfl rfl 3 (by decide) (hts (.fieldLink RX5 21 "LeastNeed$Valley" "need" "[I") (List.mem_of_getElem? (i := 4) rfl)) (fun _ h9 => h9) rfl dX5_copyOf_34 ?_
  refine lv_aload_n hx hb dX5_copyOf_37 rfl (lv_at hl 0 rfl) ?_
  refine va_get (D := D) (ci := 3) (v := .ref (a 4)) (C := RX5) (T := TX5) (N := 15) hx hb hts (fun w h => List.mem_cons_of_mem _ (List.mem_append_left _ (List.mem_append_right _ h))) hown hK hP 0 rfl rfl 3 (by decide) (hts (.fieldLink RX5 21 "LeastNeed$Valley" "need" "[I") (List.mem_of_getElem? (i := 4) rfl)) (fun _ h9 => h9) rfl dX5_copyOf_38 ?_
  obtain ⟨T41, hq41, hd⟩ := dn_b1 hd
  have hPc : va_P D vwCl (wAI cs 28 (k_wi b 4) (k_wi T 4) ++ wAI cs 28 (k_wi a 4) (k_wi (k_sp (k_sp (k_sp S 1 1 T8) 2 1 T19) 3 1 T30) 4)) _ := k_sub hP [20, 4] (wcX5_X5_aI_aI_4b_4 cs a b (k_sp (k_sp (k_sp S 1 1 T8) 2 1 T19) 3 1 T30) T)
  have hDc : va_D A (wAI cs 28 (k_wi b 4) (k_wi T 4) ++ wAI cs 28 (k_wi a 4) (k_wi (k_sp (k_sp (k_sp S 1 1 T8) 2 1 T19) 3 1 T30) 4)) := hD.sub [20, 4] (by decide) (wcX5_X5_aI_aI_4b_4 cs a b (k_sp (k_sp (k_sp S 1 1 T8) 2 1 T19) 3 1 T30) T)
  have hF := k_self hDc hS hA
  refine k_run_v (va_runSN (As := [.ref (b 4), .ref (a 4)]) (rest := []) ⟨hx, hb, hml, hown, hts⟩ (mX6_copyRow l D cs (k_wi b 4) (k_wi a 4) 28 28 (k_wi T 4) (k_wi (k_sp (k_sp (k_sp S 1 1 T8) 2 1 T19) 3 1 T30) 4) T41 hq41 _) ⟨va_cnB 2 hts gX5_copyOf_X6_copyRow_n67 rfl rfl rfl hNn.2.1 (hts (.initialized RX6) (List.mem_of_getElem? (i := 17) rfl)) (by decide +kernel) ⟨Nat.le_of_ble_eq_true rfl, Nat.le_of_ble_eq_true rfl⟩, (hts (.static yX6_copyRow) (List.mem_of_getElem? (i := 16) rfl)), trivial⟩ ⟨k_blind, k_pre hPc hK hNn hDc⟩ rfl rfl hl.1 rfl (lv_room (Nat.le_of_ble_eq_true rfl)) dX5_copyOf_41 ⟨Nat.le_of_ble_eq_true rfl, Nat.le_of_ble_eq_true rfl⟩) hS hF (fun H locs hP1 hk hS => ?_)
  have hP : va_P D vwCl (wX5 cs a (k_sp (k_sp (k_sp (k_sp S 1 1 T8) 2 1 T19) 3 1 T30) 4 1 T41) ++ wX5 cs b T) _ := k_back hP hD [20, 4] [0, 1, 2, 3, 5, 6, 7, 8, 9, 10, 11, 12, 13, 14, 15, 16, 17, 18, 19, 21, 22, 23, 24, 25, 26, 27, 28, 29, 30, 31] [0, 1, 2, 3, 31, 4, 5, 6, 7, 8, 9, 10, 11, 12, 13, 14, 15, 16, 17, 18, 30, 19, 20, 21, 22, 23, 24, 25, 26, 27, 28, 29] (wcX5_X5_aI_aI_4b_4 cs a b (k_sp (k_sp (k_sp S 1 1 T8) 2 1 T19) 3 1 T30) T) (by decide) hk hP1 (wbX5_X5_aI_aI_4b_4_S1 cs a b (k_sp (k_sp (k_sp S 1 1 T8) 2 1 T19) 3 1 T30) T T41)
  have hD := hDA (k_sp (k_sp (k_sp (k_sp S 1 1 T8) 2 1 T19) 3 1 T30) 4 1 T41) T
  refine lv_aload_n hx hb dX5_copyOf_44 rfl (lv_at hl 1 rfl) ?_
  refine va_get (D := D) (ci := 3) (v := .ref (b 5)) (C := RX5) (T := TX5) (N := 15) hx hb hts (fun w h => List.mem_cons_of_mem _ (List.mem_append_left _ (List.mem_append_right _ h))) hown hK hP 16 rfl rfl 4 (by decide) (hts (.fieldLink RX5 24 "LeastNeed$Valley" "thingKind" "[I") (List.mem_of_getElem? (i := 5) rfl)) (fun _ h9 => h9) rfl dX5_copyOf_45 ?_
  refine lv_aload_n hx hb dX5_copyOf_48 rfl (lv_at hl 0 rfl) ?_
  refine va_get (D := D) (ci := 3) (v := .ref (a 5)) (C := RX5) (T := TX5) (N := 15) hx hb hts (fun w h => List.mem_cons_of_mem _ (List.mem_append_left _ (List.mem_append_right _ h))) hown hK hP 0 rfl rfl 4 (by decide) (hts (.fieldLink RX5 24 "LeastNeed$Valley" "thingKind" "[I") (List.mem_of_getElem? (i := 5) rfl)) (fun _ h9 => h9) rfl dX5_copyOf_49 ?_
  obtain ⟨T52, hq52, hd⟩ := dn_b1 hd
  have hPc : va_P D vwCl (wAI cs 5 (k_wi b 5) (k_wi T 5) ++ wAI cs 5 (k_wi a 5) (k_wi (k_sp (k_sp (k_sp (k_sp S 1 1 T8) 2 1 T19) 3 1 T30) 4 1 T41) 5)) _ := k_sub hP [21, 5] (wcX5_X5_aI_aI_5b_5 cs a b (k_sp (k_sp (k_sp (k_sp S 1 1 T8) 2 1 T19) 3 1 T30) 4 1 T41) T)
  have hDc : va_D A (wAI cs 5 (k_wi b 5) (k_wi T 5) ++ wAI cs 5 (k_wi a 5) (k_wi (k_sp (k_sp (k_sp (k_sp S 1 1 T8) 2 1 T19) 3 1 T30) 4 1 T41) 5)) := hD.sub [21, 5] (by decide) (wcX5_X5_aI_aI_5b_5 cs a b (k_sp (k_sp (k_sp (k_sp S 1 1 T8) 2 1 T19) 3 1 T30) 4 1 T41) T)
  have hF := k_self hDc hS hA
  refine k_run_v (va_runSN (As := [.ref (b 5), .ref (a 5)]) (rest := []) ⟨hx, hb, hml, hown, hts⟩ (mX6_copyRow l D cs (k_wi b 5) (k_wi a 5) 5 5 (k_wi T 5) (k_wi (k_sp (k_sp (k_sp (k_sp S 1 1 T8) 2 1 T19) 3 1 T30) 4 1 T41) 5) T52 hq52 _) ⟨va_cnB 2 hts gX5_copyOf_X6_copyRow_n67 rfl rfl rfl hNn.2.1 (hts (.initialized RX6) (List.mem_of_getElem? (i := 17) rfl)) (by decide +kernel) ⟨Nat.le_of_ble_eq_true rfl, Nat.le_of_ble_eq_true rfl⟩, (hts (.static yX6_copyRow) (List.mem_of_getElem? (i := 16) rfl)), trivial⟩ ⟨k_blind, k_pre hPc hK hNn hDc⟩ rfl rfl hl.1 rfl (lv_room (Nat.le_of_ble_eq_true rfl)) dX5_copyOf_52 ⟨Nat.le_of_ble_eq_true rfl, Nat.le_of_ble_eq_true rfl⟩) hS hF (fun H locs hP1 hk hS => ?_)
  have hP : va_P D vwCl (wX5 cs a (k_sp (k_sp (k_sp (k_sp (k_sp S 1 1 T8) 2 1 T19) 3 1 T30) 4 1 T41) 5 1 T52) ++ wX5 cs b T) _ := k_back hP hD [21, 5] [0, 1, 2, 3, 4, 6, 7, 8, 9, 10, 11, 12, 13, 14, 15, 16, 17, 18, 19, 20, 22, 23, 24, 25, 26, 27, 28, 29, 30, 31] [0, 1, 2, 3, 4, 31, 5, 6, 7, 8, 9, 10, 11, 12, 13, 14, 15, 16, 17, 18, 19, 30, 20, 21, 22, 23, 24, 25, 26, 27, 28, 29] (wcX5_X5_aI_aI_5b_5 cs a b (k_sp (k_sp (k_sp (k_sp S 1 1 T8) 2 1 T19) 3 1 T30) 4 1 T41) T) (by decide) hk hP1 (wbX5_X5_aI_aI_5b_5_S1 cs a b (k_sp (k_sp (k_sp (k_sp S 1 1 T8) 2 1 T19) 3 1 T30) 4 1 T41) T T52)
  have hD := hDA (k_sp (k_sp (k_sp (k_sp (k_sp S 1 1 T8) 2 1 T19) 3 1 T30) 4 1 T41) 5 1 T52) T
  refine lv_aload_n hx hb dX5_copyOf_55 rfl (lv_at hl 1 rfl) ?_
  refine va_get (D := D) (ci := 3) (v := .ref (b 6)) (C := RX5) (T := TX5) (N := 15) hx hb hts (fun w h => List.mem_cons_of_mem _ (List.mem_append_left _ (List.mem_append_right _ h))) hown hK hP 16 rfl rfl 5 (by decide) (hts (.fieldLink RX5 27 "LeastNeed$Valley" "sort" "[I") (List.mem_of_getElem? (i := 6) rfl)) (fun _ h9 => h9) rfl dX5_copyOf_56 ?_
  refine lv_aload_n hx hb dX5_copyOf_59 rfl (lv_at hl 0 rfl) ?_
  refine va_get (D := D) (ci := 3) (v := .ref (a 6)) (C := RX5) (T := TX5) (N := 15) hx hb hts (fun w h => List.mem_cons_of_mem _ (List.mem_append_left _ (List.mem_append_right _ h))) hown hK hP 0 rfl rfl 5 (by decide) (hts (.fieldLink RX5 27 "LeastNeed$Valley" "sort" "[I") (List.mem_of_getElem? (i := 6) rfl)) (fun _ h9 => h9) rfl dX5_copyOf_60 ?_
  obtain ⟨T63, hq63, hd⟩ := dn_b1 hd
  have hPc : va_P D vwCl (wAI cs 5 (k_wi b 6) (k_wi T 6) ++ wAI cs 5 (k_wi a 6) (k_wi (k_sp (k_sp (k_sp (k_sp (k_sp S 1 1 T8) 2 1 T19) 3 1 T30) 4 1 T41) 5 1 T52) 6)) _ := k_sub hP [22, 6] (wcX5_X5_aI_aI_6b_6 cs a b (k_sp (k_sp (k_sp (k_sp (k_sp S 1 1 T8) 2 1 T19) 3 1 T30) 4 1 T41) 5 1 T52) T)
  have hDc : va_D A (wAI cs 5 (k_wi b 6) (k_wi T 6) ++ wAI cs 5 (k_wi a 6) (k_wi (k_sp (k_sp (k_sp (k_sp (k_sp S 1 1 T8) 2 1 T19) 3 1 T30) 4 1 T41) 5 1 T52) 6)) := hD.sub [22, 6] (by decide) (wcX5_X5_aI_aI_6b_6 cs a b (k_sp (k_sp (k_sp (k_sp (k_sp S 1 1 T8) 2 1 T19) 3 1 T30) 4 1 T41) 5 1 T52) T)
  have hF := k_self hDc hS hA
  refine k_run_v (va_runSN (As := [.ref (b 6), .ref (a 6)]) (rest := []) ⟨hx, hb, hml, hown, hts⟩ (mX6_copyRow l D cs (k_wi b 6) (k_wi a 6) 5 5 (k_wi T 6) (k_wi (k_sp (k_sp (k_sp (k_sp (k_sp S 1 1 T8) 2 1 T19) 3 1 T30) 4 1 T41) 5 1 T52) 6) T63 hq63 _) ⟨va_cnB 2 hts gX5_copyOf_X6_copyRow_n67 rfl rfl rfl hNn.2.1 (hts (.initialized RX6) (List.mem_of_getElem? (i := 17) rfl)) (by decide +kernel) ⟨Nat.le_of_ble_eq_true rfl, Nat.le_of_ble_eq_true rfl⟩, (hts (.static yX6_copyRow) (List.mem_of_getElem? (i := 16) rfl)), trivial⟩ ⟨k_blind, k_pre hPc hK hNn hDc⟩ rfl rfl hl.1 rfl (lv_room (Nat.le_of_ble_eq_true rfl)) dX5_copyOf_63 ⟨Nat.le_of_ble_eq_true rfl, Nat.le_of_ble_eq_true rfl⟩) hS hF (fun H locs hP1 hk hS => ?_)
  have hP : va_P D vwCl (wX5 cs a (k_sp (k_sp (k_sp (k_sp (k_sp (k_sp S 1 1 T8) 2 1 T19) 3 1 T30) 4 1 T41) 5 1 T52) 6 1 T63) ++ wX5 cs b T) _ := k_back hP hD [22, 6] [0, 1, 2, 3, 4, 5, 7, 8, 9, 10, 11, 12, 13, 14, 15, 16, 17, 18, 19, 20, 21, 23, 24, 25, 26, 27, 28, 29, 30, 31] [0, 1, 2, 3, 4, 5, 31, 6, 7, 8, 9, 10, 11, 12, 13, 14, 15, 16, 17, 18, 19, 20, 30, 21, 22, 23, 24, 25, 26, 27, 28, 29] (wcX5_X5_aI_aI_6b_6 cs a b (k_sp (k_sp (k_sp (k_sp (k_sp S 1 1 T8) 2 1 T19) 3 1 T30) 4 1 T41) 5 1 T52) T) (by decide) hk hP1 (wbX5_X5_aI_aI_6b_6_S1 cs a b (k_sp (k_sp (k_sp (k_sp (k_sp S 1 1 T8) 2 1 T19) 3 1 T30) 4 1 T41) 5 1 T52) T T63)
  have hD := hDA (k_sp (k_sp (k_sp (k_sp (k_sp (k_sp S 1 1 T8) 2 1 T19) 3 1 T30) 4 1 T41) 5 1 T52) 6 1 T63) T
  refine lv_aload_n hx hb dX5_copyOf_66 rfl (lv_at hl 1 rfl) ?_
  refine va_get (D := D) (ci := 3) (v := .ref (b 7)) (C := RX5) (T := TX5) (N := 15) hx hb hts (fun w h => List.mem_cons_of_mem _ (List.mem_append_left _ (List.mem_append_right _ h))) hown hK hP 16 rfl rfl 6 (by decide) (hts (.fieldLink RX5 30 "LeastNeed$Valley" "owner" "[I") (List.mem_of_getElem? (i := 7) rfl)) (fun _ h9 => h9) rfl dX5_copyOf_67 ?_
  refine lv_aload_n hx hb dX5_copyOf_70 rfl (lv_at hl 0 rfl) ?_
  refine va_get (D := D) (ci := 3) (v := .ref (a 7)) (C := RX5) (T := TX5) (N := 15) hx hb hts (fun w h => List.mem_cons_of_mem _ (List.mem_append_left _ (List.mem_append_right _ h))) hown hK hP 0 rfl rfl 6 (by decide) (hts (.fieldLink RX5 30 "LeastNeed$Valley" "owner" "[I") (List.mem_of_getElem? (i := 7) rfl)) (fun _ h9 => h9) rfl dX5_copyOf_71 ?_
  obtain ⟨T74, hq74, hd⟩ := dn_b1 hd
  have hPc : va_P D vwCl (wAI cs 5 (k_wi b 7) (k_wi T 7) ++ wAI cs 5 (k_wi a 7) (k_wi (k_sp (k_sp (k_sp (k_sp (k_sp (k_sp S 1 1 T8) 2 1 T19) 3 1 T30) 4 1 T41) 5 1 T52) 6 1 T63) 7)) _ := k_sub hP [23, 7] (wcX5_X5_aI_aI_7b_7 cs a b (k_sp (k_sp (k_sp (k_sp (k_sp (k_sp S 1 1 T8) 2 1 T19) 3 1 T30) 4 1 T41) 5 1 T52) 6 1 T63) T)
  have hDc : va_D A (wAI cs 5 (k_wi b 7) (k_wi T 7) ++ wAI cs 5 (k_wi a 7) (k_wi (k_sp (k_sp (k_sp (k_sp (k_sp (k_sp S 1 1 T8) 2 1 T19) 3 1 T30) 4 1 T41) 5 1 T52) 6 1 T63) 7)) := hD.sub [23, 7] (by decide) (wcX5_X5_aI_aI_7b_7 cs a b (k_sp (k_sp (k_sp (k_sp (k_sp (k_sp S 1 1 T8) 2 1 T19) 3 1 T30) 4 1 T41) 5 1 T52) 6 1 T63) T)
  have hF := k_self hDc hS hA
  refine k_run_v (va_runSN (As := [.ref (b 7), .ref (a 7)]) (rest := []) ⟨hx, hb, hml, hown, hts⟩ (mX6_copyRow l D cs (k_wi b 7) (k_wi a 7) 5 5 (k_wi T 7) (k_wi (k_sp (k_sp (k_sp (k_sp (k_sp (k_sp S 1 1 T8) 2 1 T19) 3 1 T30) 4 1 T41) 5 1 T52) 6 1 T63) 7) T74 hq74 _) ⟨va_cnB 2 hts gX5_copyOf_X6_copyRow_n67 rfl rfl rfl hNn.2.1 (hts (.initialized RX6) (List.mem_of_getElem? (i := 17) rfl)) (by decide +kernel) ⟨Nat.le_of_ble_eq_true rfl, Nat.le_of_ble_eq_true rfl⟩, (hts (.static yX6_copyRow) (List.mem_of_getElem? (i := 16) rfl)), trivial⟩ ⟨k_blind, k_pre hPc hK hNn hDc⟩ rfl rfl hl.1 rfl (lv_room (Nat.le_of_ble_eq_true rfl)) dX5_copyOf_74 ⟨Nat.le_of_ble_eq_true rfl, Nat.le_of_ble_eq_true rfl⟩) hS hF (fun H locs hP1 hk hS => ?_)
  have hP : va_P D vwCl (wX5 cs a (k_sp (k_sp (k_sp (k_sp (k_sp (k_sp (k_sp S 1 1 T8) 2 1 T19) 3 1 T30) 4 1 T41) 5 1 T52) 6 1 T63) 7 1 T74) ++ wX5 cs b T) _ := k_back hP hD [23, 7] [0, 1, 2, 3, 4, 5, 6, 8, 9, 10, 11, 12, 13, 14, 15, 16, 17, 18, 19, 20, 21, 22, 24, 25, 26, 27, 28, 29, 30, 31] [0, 1, 2, 3, 4, 5, 6, 31, 7, 8, 9, 10, 11, 12, 13, 14, 15, 16, 17, 18, 19, 20, 21, 30, 22, 23, 24, 25, 26, 27, 28, 29] (wcX5_X5_aI_aI_7b_7 cs a b (k_sp (k_sp (k_sp (k_sp (k_sp (k_sp S 1 1 T8) 2 1 T19) 3 1 T30) 4 1 T41) 5 1 T52) 6 1 T63) T) (by decide) hk hP1 (wbX5_X5_aI_aI_7b_7_S1 cs a b (k_sp (k_sp (k_sp (k_sp (k_sp (k_sp S 1 1 T8) 2 1 T19) 3 1 T30) 4 1 T41) 5 1 T52) 6 1 T63) T T74)
  have hD := hDA (k_sp (k_sp (k_sp (k_sp (k_sp (k_sp (k_sp S 1 1 T8) 2 1 T19) 3 1 T30) 4 1 T41) 5 1 T52) 6 1 T63) 7 1 T74) T
  refine lv_aload_n hx hb dX5_copyOf_77 rfl (lv_at hl 1 rfl) ?_
  refine va_get (D := D) (ci := 3) (v := .ref (b 8)) (C := RX5) (T := TX5) (N := 15) hx hb hts (fun w h => List.mem_cons_of_mem _ (List.mem_append_left _ (List.mem_append_right _ h))) hown hK hP 16 rfl rfl 7 (by decide) (hts (.fieldLink RX5 33 "LeastNeed$Valley" "holder" "[I") (List.mem_of_getElem? (i := 8) rfl)) (fun _ h9 => h9) rfl dX5_copyOf_78 ?_
  refine lv_aload_n hx hb dX5_copyOf_81 rfl (lv_at hl 0 rfl) ?_
  refine va_get (D := D) (ci := 3) (v := .ref (a 8)) (C := RX5) (T := TX5) (N := 15) hx hb hts (fun w h => List.mem_cons_of_mem _ (List.mem_append_left _ (List.mem_append_right _ h))) hown hK hP 0 rfl rfl 7 (by decide) (hts (.fieldLink RX5 33 "LeastNeed$Valley" "holder" "[I") (List.mem_of_getElem? (i := 8) rfl)) (fun _ h9 => h9) rfl dX5_copyOf_82 ?_
  obtain ⟨T85, hq85, hd⟩ := dn_b1 hd
  have hPc : va_P D vwCl (wAI cs 5 (k_wi b 8) (k_wi T 8) ++ wAI cs 5 (k_wi a 8) (k_wi (k_sp (k_sp (k_sp (k_sp (k_sp (k_sp (k_sp S 1 1 T8) 2 1 T19) 3 1 T30) 4 1 T41) 5 1 T52) 6 1 T63) 7 1 T74) 8)) _ := k_sub hP [24, 8] (wcX5_X5_aI_aI_8b_8 cs a b (k_sp (k_sp (k_sp (k_sp (k_sp (k_sp (k_sp S 1 1 T8) 2 1 T19) 3 1 T30) 4 1 T41) 5 1 T52) 6 1 T63) 7 1 T74) T)
  have hDc : va_D A (wAI cs 5 (k_wi b 8) (k_wi T 8) ++ wAI cs 5 (k_wi a 8) (k_wi (k_sp (k_sp (k_sp (k_sp (k_sp (k_sp (k_sp S 1 1 T8) 2 1 T19) 3 1 T30) 4 1 T41) 5 1 T52) 6 1 T63) 7 1 T74) 8)) := hD.sub [24, 8] (by decide) (wcX5_X5_aI_aI_8b_8 cs a b (k_sp (k_sp (k_sp (k_sp (k_sp (k_sp (k_sp S 1 1 T8) 2 1 T19) 3 1 T30) 4 1 T41) 5 1 T52) 6 1 T63) 7 1 T74) T)
  have hF := k_self hDc hS hA
  refine k_run_v (va_runSN (As := [.ref (b 8), .ref (a 8)]) (rest := []) ⟨hx, hb, hml, hown, hts⟩ (mX6_copyRow l D cs (k_wi b 8) (k_wi a 8) 5 5 (k_wi T 8) (k_wi (k_sp (k_sp (k_sp (k_sp (k_sp (k_sp (k_sp S 1 1 T8) 2 1 T19) 3 1 T30) 4 1 T41) 5 1 T52) 6 1 T63) 7 1 T74) 8) T85 hq85 _) ⟨va_cnB 2 hts gX5_copyOf_X6_copyRow_n67 rfl rfl rfl hNn.2.1 (hts (.initialized RX6) (List.mem_of_getElem? (i := 17) rfl)) (by decide +kernel) ⟨Nat.le_of_ble_eq_true rfl, Nat.le_of_ble_eq_true rfl⟩, (hts (.static yX6_copyRow) (List.mem_of_getElem? (i := 16) rfl)), trivial⟩ ⟨k_blind, k_pre hPc hK hNn hDc⟩ rfl rfl hl.1 rfl (lv_room (Nat.le_of_ble_eq_true rfl)) dX5_copyOf_85 ⟨Nat.le_of_ble_eq_true rfl, Nat.le_of_ble_eq_true rfl⟩) hS hF (fun H locs hP1 hk hS => ?_)
  have hP : va_P D vwCl (wX5 cs a (k_sp (k_sp (k_sp (k_sp (k_sp (k_sp (k_sp (k_sp S 1 1 T8) 2 1 T19) 3 1 T30) 4 1 T41) 5 1 T52) 6 1 T63) 7 1 T74) 8 1 T85) ++ wX5 cs b T) _ := k_back hP hD [24, 8] [0, 1, 2, 3, 4, 5, 6, 7, 9, 10, 11, 12, 13, 14, 15, 16, 17, 18, 19, 20, 21, 22, 23, 25, 26, 27, 28, 29, 30, 31] [0, 1, 2, 3, 4, 5, 6, 7, 31, 8, 9, 10, 11, 12, 13, 14, 15, 16, 17, 18, 19, 20, 21, 22, 30, 23, 24, 25, 26, 27, 28, 29] (wcX5_X5_aI_aI_8b_8 cs a b (k_sp (k_sp (k_sp (k_sp (k_sp (k_sp (k_sp S 1 1 T8) 2 1 T19) 3 1 T30) 4 1 T41) 5 1 T52) 6 1 T63) 7 1 T74) T) (by decide) hk hP1 (wbX5_X5_aI_aI_8b_8_S1 cs a b (k_sp (k_sp (k_sp (k_sp (k_sp (k_sp (k_sp S 1 1 T8) 2 1 T19) 3 1 T30) 4 1 T41) 5 1 T52) 6 1 T63) 7 1 T74) T T85)
  have hD := hDA (k_sp (k_sp (k_sp (k_sp (k_sp (k_sp (k_sp (k_sp S 1 1 T8) 2 1 T19) 3 1 T30) 4 1 T41) 5 1 T52) 6 1 T63) 7 1 T74) 8 1 T85) T
  refine lv_aload_n hx hb dX5_copyOf_88 rfl (lv_at hl 1 rfl) ?_
  refine va_get (D := D) (ci := 3) (v := .ref (b 9)) (C := RX5) (T := TX5) (N := 15) hx hb hts (fun w h => List.mem_cons_of_mem _ (List.mem_append_left _ (List.mem_append_right _ h))) hown hK hP 16 rfl rfl 8 (by decide) (hts (.fieldLink RX5 36 "LeastNeed$Valley" "place" "[I") (List.mem_of_getElem? (i := 9) rfl)) (fun _ h9 => h9) rfl dX5_copyOf_89 ?_
  refine lv_aload_n hx hb dX5_copyOf_92 rfl (lv_at hl 0 rfl) ?_
  refine va_get (D := D) (ci := 3) (v := .ref (a 9)) (C := RX5) (T := TX5) (N := 15) hx hb hts (fun w h => List.mem_cons_of_mem _ (List.mem_append_left _ (List.mem_append_right _ h))) hown hK hP 0 rfl rfl 8 (by decide) (hts (.fieldLink RX5 36 "LeastNeed$Valley" "place" "[I") (List.mem_of_getElem? (i := 9) rfl)) (fun _ h9 => h9) rfl dX5_copyOf_93 ?_
  obtain ⟨T96, hq96, hd⟩ := dn_b1 hd
  have hPc : va_P D vwCl (wAI cs 5 (k_wi b 9) (k_wi T 9) ++ wAI cs 5 (k_wi a 9) (k_wi (k_sp (k_sp (k_sp (k_sp (k_sp (k_sp (k_sp (k_sp S 1 1 T8) 2 1 T19) 3 1 T30) 4 1 T41) 5 1 T52) 6 1 T63) 7 1 T74) 8 1 T85) 9)) _ := k_sub hP [25, 9] (wcX5_X5_aI_aI_9b_9 cs a b (k_sp (k_sp (k_sp (k_sp (k_sp (k_sp (k_sp (k_sp S 1 1 T8) 2 1 T19) 3 1 T30) 4 1 T41) 5 1 T52) 6 1 T63) 7 1 T74) 8 1 T85) T)
  have hDc : va_D A (wAI cs 5 (k_wi b 9) (k_wi T 9) ++ wAI cs 5 (k_wi a 9) (k_wi (k_sp (k_sp (k_sp (k_sp (k_sp (k_sp (k_sp (k_sp S 1 1 T8) 2 1 T19) 3 1 T30) 4 1 T41) 5 1 T52) 6 1 T63) 7 1 T74) 8 1 T85) 9)) := hD.sub [25, 9] (by decide) (wcX5_X5_aI_aI_9b_9 cs a b (k_sp (k_sp (k_sp (k_sp (k_sp (k_sp (k_sp (k_sp S 1 1 T8) 2 1 T19) 3 1 T30) 4 1 T41) 5 1 T52) 6 1 T63) 7 1 T74) 8 1 T85) T)
  have hF := k_self hDc hS hA
  refine k_run_v (va_runSN (As := [.ref (b 9), .ref (a 9)]) (rest := []) ⟨hx, hb, hml, hown, hts⟩ (mX6_copyRow l D cs (k_wi b 9) (k_wi a 9) 5 5 (k_wi T 9) (k_wi (k_sp (k_sp (k_sp (k_sp (k_sp (k_sp (k_sp (k_sp S 1 1 T8) 2 1 T19) 3 1 T30) 4 1 T41) 5 1 T52) 6 1 T63) 7 1 T74) 8 1 T85) 9) T96 hq96 _) ⟨va_cnB 2 hts gX5_copyOf_X6_copyRow_n67 rfl rfl rfl hNn.2.1 (hts (.initialized RX6) (List.mem_of_getElem? (i := 17) rfl)) (by decide +kernel) ⟨Nat.le_of_ble_eq_true rfl, Nat.le_of_ble_eq_true rfl⟩, (hts (.static yX6_copyRow) (List.mem_of_getElem? (i := 16) rfl)), trivial⟩ ⟨k_blind, k_pre hPc hK hNn hDc⟩ rfl rfl hl.1 rfl (lv_room (Nat.le_of_ble_eq_true rfl)) dX5_copyOf_96 ⟨Nat.le_of_ble_eq_true rfl, Nat.le_of_ble_eq_true rfl⟩) hS hF (fun H locs hP1 hk hS => ?_)
  have hP : va_P D vwCl (wX5 cs a (k_sp (k_sp (k_sp (k_sp (k_sp (k_sp (k_sp (k_sp (k_sp S 1 1 T8) 2 1 T19) 3 1 T30) 4 1 T41) 5 1 T52) 6 1 T63) 7 1 T74) 8 1 T85) 9 1 T96) ++ wX5 cs b T) _ := k_back hP hD [25, 9] [0, 1, 2, 3, 4, 5, 6, 7, 8, 10, 11, 12, 13, 14, 15, 16, 17, 18, 19, 20, 21, 22, 23, 24, 26, 27, 28, 29, 30, 31] [0, 1, 2, 3, 4, 5, 6, 7, 8, 31, 9, 10, 11, 12, 13, 14, 15, 16, 17, 18, 19, 20, 21, 22, 23, 30, 24, 25, 26, 27, 28, 29] (wcX5_X5_aI_aI_9b_9 cs a b (k_sp (k_sp (k_sp (k_sp (k_sp (k_sp (k_sp (k_sp S 1 1 T8) 2 1 T19) 3 1 T30) 4 1 T41) 5 1 T52) 6 1 T63) 7 1 T74) 8 1 T85) T) (by decide) hk hP1 (wbX5_X5_aI_aI_9b_9_S1 cs a b (k_sp (k_sp (k_sp (k_sp (k_sp (k_sp (k_sp (k_sp S 1 1 T8) 2 1 T19) 3 1 T30) 4 1 T41) 5 1 T52) 6 1 T63) 7 1 T74) 8 1 T85) T T96)
  have hD := hDA (k_sp (k_sp (k_sp (k_sp (k_sp (k_sp (k_sp (k_sp (k_sp S 1 1 T8) 2 1 T19) 3 1 T30) 4 1 T41) 5 1 T52) 6 1 T63) 7 1 T74) 8 1 T85) 9 1 T96) T
  refine lv_aload_n hx hb dX5_copyOf_99 rfl (lv_at hl 0 rfl) ?_
  refine va_get (D := D) (ci := 3) (v := .ref (a 10)) (C := RX5) (T := TX5) (N := 15) hx hb hts (fun w h => List.mem_cons_of_mem _ (List.mem_append_left _ (List.mem_append_right _ h))) hown hK hP 0 rfl rfl 9 (by decide) (hts (.fieldLink RX5 44 "LeastNeed$Valley" "notes" "LLeastNeed$Rows;") (List.mem_of_getElem? (i := 10) rfl)) (fun _ h9 => h9) rfl dX5_copyOf_100 ?_
  refine lv_aload_n hx hb dX5_copyOf_103 rfl (lv_at hl 1 rfl) ?_
  refine va_get (D := D) (ci := 3) (v := .ref (b 10)) (C := RX5) (T := TX5) (N := 15) hx hb hts (fun w h => List.mem_cons_of_mem _ (List.mem_append_left _ (List.mem_append_right _ h))) hown hK hP 16 rfl rfl 9 (by decide) (hts (.fieldLink RX5 44 "LeastNeed$Valley" "notes" "LLeastNeed$Rows;") (List.mem_of_getElem? (i := 10) rfl)) (fun _ h9 => h9) rfl dX5_copyOf_104 ?_
  obtain ⟨S107, hq107, hd⟩ := dn_b1 hd
  have hPc : va_P D vwCl (wX3 cs 36 (6 : Int32) (6 : Int32) (k_wi a 10) (k_wi (k_sp (k_sp (k_sp (k_sp (k_sp (k_sp (k_sp (k_sp (k_sp S 1 1 T8) 2 1 T19) 3 1 T30) 4 1 T41) 5 1 T52) 6 1 T63) 7 1 T74) 8 1 T85) 9 1 T96) 10) ++ wX3 cs 36 (6 : Int32) (6 : Int32) (k_wi b 10) (k_wi T 10)) _ := k_sub hP [10, 11, 26, 27] (wcX5_X5_X3_X3_10_10b cs a b (k_sp (k_sp (k_sp (k_sp (k_sp (k_sp (k_sp (k_sp (k_sp S 1 1 T8) 2 1 T19) 3 1 T30) 4 1 T41) 5 1 T52) 6 1 T63) 7 1 T74) 8 1 T85) 9 1 T96) T)
  have hDc : va_D A (wX3 cs 36 (6 : Int32) (6 : Int32) (k_wi a 10) (k_wi (k_sp (k_sp (k_sp (k_sp (k_sp (k_sp (k_sp (k_sp (k_sp S 1 1 T8) 2 1 T19) 3 1 T30) 4 1 T41) 5 1 T52) 6 1 T63) 7 1 T74) 8 1 T85) 9 1 T96) 10) ++ wX3 cs 36 (6 : Int32) (6 : Int32) (k_wi b 10) (k_wi T 10)) := hD.sub [10, 11, 26, 27] (by decide) (wcX5_X5_X3_X3_10_10b cs a b (k_sp (k_sp (k_sp (k_sp (k_sp (k_sp (k_sp (k_sp (k_sp S 1 1 T8) 2 1 T19) 3 1 T30) 4 1 T41) 5 1 T52) 6 1 T63) 7 1 T74) 8 1 T85) 9 1 T96) T)
  have hF := k_self hDc hS hA
  refine k_run_v (va_runV (As := [.ref (b 10)]) (rest := []) ⟨hx, hb, hml, hown, hts⟩ (mX3_copyOf l D cs (k_wi a 10) (k_wi b 10) 36 (6 : Int32) (6 : Int32) 36 (6 : Int32) (6 : Int32) (k_wi (k_sp (k_sp (k_sp (k_sp (k_sp (k_sp (k_sp (k_sp (k_sp S 1 1 T8) 2 1 T19) 3 1 T30) 4 1 T41) 5 1 T52) 6 1 T63) 7 1 T74) 8 1 T85) 9 1 T96) 10) (k_wi T 10) S107 hq107 _) (cwV 1 hts gX5_copyOf_X3_copyOf rfl rfl rfl (by decide +kernel) ⟨Nat.le_of_ble_eq_true rfl, Nat.le_of_ble_eq_true rfl⟩) ⟨k_blind, va_recv hK hP (ci := 2) (q0 := 10) rfl rfl, k_pre hPc hK hNn hDc⟩ rfl rfl hl.1 rfl (lv_room (Nat.le_of_ble_eq_true rfl)) dX5_copyOf_107 ⟨Nat.le_of_ble_eq_true rfl, Nat.le_of_ble_eq_true rfl⟩) hS hF (fun H locs hP1 hk hS => ?_)
  have hP : va_P D vwCl (wX5 cs a (k_sp (k_sp (k_sp (k_sp (k_sp (k_sp (k_sp (k_sp (k_sp (k_sp S 1 1 T8) 2 1 T19) 3 1 T30) 4 1 T41) 5 1 T52) 6 1 T63) 7 1 T74) 8 1 T85) 9 1 T96) 10 2 S107) ++ wX5 cs b T) _ := k_back hP hD [10, 11, 26, 27] [0, 1, 2, 3, 4, 5, 6, 7, 8, 9, 12, 13, 14, 15, 16, 17, 18, 19, 20, 21, 22, 23, 24, 25, 28, 29, 30, 31] [0, 1, 2, 3, 4, 5, 6, 7, 8, 9, 28, 29, 10, 11, 12, 13, 14, 15, 16, 17, 18, 19, 20, 21, 22, 23, 30, 31, 24, 25, 26, 27] (wcX5_X5_X3_X3_10_10b cs a b (k_sp (k_sp (k_sp (k_sp (k_sp (k_sp (k_sp (k_sp (k_sp S 1 1 T8) 2 1 T19) 3 1 T30) 4 1 T41) 5 1 T52) 6 1 T63) 7 1 T74) 8 1 T85) 9 1 T96) T) (by decide) hk hP1 (wbX5_X5_X3_X3_10_10b_S0 cs a b (k_sp (k_sp (k_sp (k_sp (k_sp (k_sp (k_sp (k_sp (k_sp S 1 1 T8) 2 1 T19) 3 1 T30) 4 1 T41) 5 1 T52) 6 1 T63) 7 1 T74) 8 1 T85) 9 1 T96) T S107)
  have hD := hDA (k_sp (k_sp (k_sp (k_sp (k_sp (k_sp (k_sp (k_sp (k_sp (k_sp S 1 1 T8) 2 1 T19) 3 1 T30) 4 1 T41) 5 1 T52) 6 1 T63) 7 1 T74) 8 1 T85) 9 1 T96) 10 2 S107) T
  refine lv_aload_n hx hb dX5_copyOf_110 rfl (lv_at hl 0 rfl) ?_
  refine va_get (D := D) (ci := 3) (v := .ref (a 12)) (C := RX5) (T := TX5) (N := 15) hx hb hts (fun w h => List.mem_cons_of_mem _ (List.mem_append_left _ (List.mem_append_right _ h))) hown hK hP 0 rfl rfl 10 (by decide) (hts (.fieldLink RX5 48 "LeastNeed$Valley" "cames" "LLeastNeed$Rows;") (List.mem_of_getElem? (i := 11) rfl)) (fun _ h9 => h9) rfl dX5_copyOf_111 ?_
  refine lv_aload_n hx hb dX5_copyOf_114 rfl (lv_at hl 1 rfl) ?_
  refine va_get (D := D) (ci := 3) (v := .ref (b 12)) (C := RX5) (T := TX5) (N := 15) hx hb hts (fun w h => List.mem_cons_of_mem _ (List.mem_append_left _ (List.mem_append_right _ h))) hown hK hP 16 rfl rfl 10 (by decide) (hts (.fieldLink RX5 48 "LeastNeed$Valley" "cames" "LLeastNeed$Rows;") (List.mem_of_getElem? (i := 11) rfl)) (fun _ h9 => h9) rfl dX5_copyOf_115 ?_
  obtain ⟨S118, hq118, hd⟩ := dn_b1 hd
  have hPc : va_P D vwCl (wX3 cs 24 (4 : Int32) (6 : Int32) (k_wi a 12) (k_wi (k_sp (k_sp (k_sp (k_sp (k_sp (k_sp (k_sp (k_sp (k_sp (k_sp S 1 1 T8) 2 1 T19) 3 1 T30) 4 1 T41) 5 1 T52) 6 1 T63) 7 1 T74) 8 1 T85) 9 1 T96) 10 2 S107) 12) ++ wX3 cs 24 (4 : Int32) (6 : Int32) (k_wi b 12) (k_wi T 12)) _ := k_sub hP [12, 13, 28, 29] (wcX5_X5_X3_X3_12_12b cs a b (k_sp (k_sp (k_sp (k_sp (k_sp (k_sp (k_sp (k_sp (k_sp (k_sp S 1 1 T8) 2 1 T19) 3 1 T30) 4 1 T41) 5 1 T52) 6 1 T63) 7 1 T74) 8 1 T85) 9 1 T96) 10 2 S107) T)
  have hDc : va_D A (wX3 cs 24 (4 : Int32) (6 : Int32) (k_wi a 12) (k_wi (k_sp (k_sp (k_sp (k_sp (k_sp (k_sp (k_sp (k_sp (k_sp (k_sp S 1 1 T8) 2 1 T19) 3 1 T30) 4 1 T41) 5 1 T52) 6 1 T63) 7 1 T74) 8 1 T85) 9 1 T96) 10 2 S107) 12) ++ wX3 cs 24 (4 : Int32) (6 : Int32) (k_wi b 12) (k_wi T 12)) := hD.sub [12, 13, 28, 29] (by decide) (wcX5_X5_X3_X3_12_12b cs a b (k_sp (k_sp (k_sp (k_sp (k_sp (k_sp (k_sp (k_sp (k_sp (k_sp S 1 1 T8) 2 1 T19) 3 1 T30) 4 1 T41) 5 1 T52) 6 1 T63) 7 1 T74) 8 1 T85) 9 1 T96) 10 2 S107) T)
  have hF := k_self hDc hS hA
  refine k_run_v (va_runV (As := [.ref (b 12)]) (rest := []) ⟨hx, hb, hml, hown, hts⟩ (mX3_copyOf l D cs (k_wi a 12) (k_wi b 12) 24 (4 : Int32) (6 : Int32) 24 (4 : Int32) (6 : Int32) (k_wi (k_sp (k_sp (k_sp (k_sp (k_sp (k_sp (k_sp (k_sp (k_sp (k_sp S 1 1 T8) 2 1 T19) 3 1 T30) 4 1 T41) 5 1 T52) 6 1 T63) 7 1 T74) 8 1 T85) 9 1 T96) 10 2 S107) 12) (k_wi T 12) S118 hq118 _) (cwV 1 hts gX5_copyOf_X3_copyOf rfl rfl rfl (by decide +kernel) ⟨Nat.le_of_ble_eq_true rfl, Nat.le_of_ble_eq_true rfl⟩) ⟨k_blind, va_recv hK hP (ci := 2) (q0 := 12) rfl rfl, k_pre hPc hK hNn hDc⟩ rfl rfl hl.1 rfl (lv_room (Nat.le_of_ble_eq_true rfl)) dX5_copyOf_118 ⟨Nat.le_of_ble_eq_true rfl, Nat.le_of_ble_eq_true rfl⟩) hS hF (fun H locs hP1 hk hS => ?_)
  have hP : va_P D vwCl (wX5 cs a (k_sp (k_sp (k_sp (k_sp (k_sp (k_sp (k_sp (k_sp (k_sp (k_sp (k_sp S 1 1 T8) 2 1 T19) 3 1 T30) 4 1 T41) 5 1 T52) 6 1 T63) 7 1 T74) 8 1 T85) 9 1 T96) 10 2 S107) 12 2 S118) ++ wX5 cs b T) _ := k_back hP hD [12, 13, 28, 29] [0, 1, 2, 3, 4, 5, 6, 7, 8, 9, 10, 11, 14, 15, 16, 17, 18, 19, 20, 21, 22, 23, 24, 25, 26, 27, 30, 31] [0, 1, 2, 3, 4, 5, 6, 7, 8, 9, 10, 11, 28, 29, 12, 13, 14, 15, 16, 17, 18, 19, 20, 21, 22, 23, 24, 25, 30, 31, 26, 27] (wcX5_X5_X3_X3_12_12b cs a b (k_sp (k_sp (k_sp (k_sp (k_sp (k_sp (k_sp (k_sp (k_sp (k_sp S 1 1 T8) 2 1 T19) 3 1 T30) 4 1 T41) 5 1 T52) 6 1 T63) 7 1 T74) 8 1 T85) 9 1 T96) 10 2 S107) T) (by decide) hk hP1 (wbX5_X5_X3_X3_12_12b_S0 cs a b (k_sp (k_sp (k_sp (k_sp (k_sp (k_sp (k_sp (k_sp (k_sp (k_sp S 1 1 T8) 2 1 T19) 3 1 T30) 4 1 T41) 5 1 T52) 6 1 T63) 7 1 T74) 8 1 T85) 9 1 T96) 10 2 S107) T S118)
  have hD := hDA (k_sp (k_sp (k_sp (k_sp (k_sp (k_sp (k_sp (k_sp (k_sp (k_sp (k_sp S 1 1 T8) 2 1 T19) 3 1 T30) 4 1 T41) 5 1 T52) 6 1 T63) 7 1 T74) 8 1 T85) 9 1 T96) 10 2 S107) 12 2 S118) T
  refine lv_aload_n hx hb dX5_copyOf_121 rfl (lv_at hl 0 rfl) ?_
  refine va_get (D := D) (ci := 3) (v := .ref (a 14)) (C := RX5) (T := TX5) (N := 15) hx hb hts (fun w h => List.mem_cons_of_mem _ (List.mem_append_left _ (List.mem_append_right _ h))) hown hK hP 0 rfl rfl 11 (by decide) (hts (.fieldLink RX5 51 "LeastNeed$Valley" "past" "LLeastNeed$Rows;") (List.mem_of_getElem? (i := 12) rfl)) (fun _ h9 => h9) rfl dX5_copyOf_122 ?_
  refine lv_aload_n hx hb dX5_copyOf_125 rfl (lv_at hl 1 rfl) ?_
  refine va_get (D := D) (ci := 3) (v := .ref (b 14)) (C := RX5) (T := TX5) (N := 15) hx hb hts (fun w h => List.mem_cons_of_mem _ (List.mem_append_left _ (List.mem_append_right _ h))) hown hK hP 16 rfl rfl 11 (by decide) (hts (.fieldLink RX5 51 "LeastNeed$Valley" "past" "LLeastNeed$Rows;") (List.mem_of_getElem? (i := 12) rfl)) (fun _ h9 => h9) rfl dX5_copyOf_126 ?_
  obtain ⟨S129, hq129, hd⟩ := dn_b1 hd
  have hPc : va_P D vwCl (wX3 cs 144 (18 : Int32) (8 : Int32) (k_wi a 14) (k_wi (k_sp (k_sp (k_sp (k_sp (k_sp (k_sp (k_sp (k_sp (k_sp (k_sp (k_sp S 1 1 T8) 2 1 T19) 3 1 T30) 4 1 T41) 5 1 T52) 6 1 T63) 7 1 T74) 8 1 T85) 9 1 T96) 10 2 S107) 12 2 S118) 14) ++ wX3 cs 144 (18 : Int32) (8 : Int32) (k_wi b 14) (k_wi T 14)) _ := k_sub hP [14, 15, 30, 31] (wcX5_X5_X3_X3_14_14b cs a b (k_sp (k_sp (k_sp (k_sp (k_sp (k_sp (k_sp (k_sp (k_sp (k_sp (k_sp S 1 1 T8) 2 1 T19) 3 1 T30) 4 1 T41) 5 1 T52) 6 1 T63) 7 1 T74) 8 1 T85) 9 1 T96) 10 2 S107) 12 2 S118) T)
  have hDc : va_D A (wX3 cs 144 (18 : Int32) (8 : Int32) (k_wi a 14) (k_wi (k_sp (k_sp (k_sp (k_sp (k_sp (k_sp (k_sp (k_sp (k_sp (k_sp (k_sp S 1 1 T8) 2 1 T19) 3 1 T30) 4 1 T41) 5 1 T52) 6 1 T63) 7 1 T74) 8 1 T85) 9 1 T96) 10 2 S107) 12 2 S118) 14) ++ wX3 cs 144 (18 : Int32) (8 : Int32) (k_wi b 14) (k_wi T 14)) := hD.sub [14, 15, 30, 31] (by decide) (wcX5_X5_X3_X3_14_14b cs a b (k_sp (k_sp (k_sp (k_sp (k_sp (k_sp (k_sp (k_sp (k_sp (k_sp (k_sp S 1 1 T8) 2 1 T19) 3 1 T30) 4 1 T41) 5 1 T52) 6 1 T63) 7 1 T74) 8 1 T85) 9 1 T96) 10 2 S107) 12 2 S118) T)
  have hF := k_self hDc hS hA
  refine k_run_v (va_runV (As := [.ref (b 14)]) (rest := []) ⟨hx, hb, hml, hown, hts⟩ (mX3_copyOf l D cs (k_wi a 14) (k_wi b 14) 144 (18 : Int32) (8 : Int32) 144 (18 : Int32) (8 : Int32) (k_wi (k_sp (k_sp (k_sp (k_sp (k_sp (k_sp (k_sp (k_sp (k_sp (k_sp (k_sp S 1 1 T8) 2 1 T19) 3 1 T30) 4 1 T41) 5 1 T52) 6 1 T63) 7 1 T74) 8 1 T85) 9 1 T96) 10 2 S107) 12 2 S118) 14) (k_wi T 14) S129 hq129 _) (cwV 1 hts gX5_copyOf_X3_copyOf rfl rfl rfl (by decide +kernel) ⟨Nat.le_of_ble_eq_true rfl, Nat.le_of_ble_eq_true rfl⟩) ⟨k_blind, va_recv hK hP (ci := 2) (q0 := 14) rfl rfl, k_pre hPc hK hNn hDc⟩ rfl rfl hl.1 rfl (lv_room (Nat.le_of_ble_eq_true rfl)) dX5_copyOf_129 ⟨Nat.le_of_ble_eq_true rfl, Nat.le_of_ble_eq_true rfl⟩) hS hF (fun H locs hP1 hk hS => ?_)
  have hP : va_P D vwCl (wX5 cs a (k_sp (k_sp (k_sp (k_sp (k_sp (k_sp (k_sp (k_sp (k_sp (k_sp (k_sp (k_sp S 1 1 T8) 2 1 T19) 3 1 T30) 4 1 T41) 5 1 T52) 6 1 T63) 7 1 T74) 8 1 T85) 9 1 T96) 10 2 S107) 12 2 S118) 14 2 S129) ++ wX5 cs b T) _ := k_back hP hD [14, 15, 30, 31] [0, 1, 2, 3, 4, 5, 6, 7, 8, 9, 10, 11, 12, 13, 16, 17, 18, 19, 20, 21, 22, 23, 24, 25, 26, 27, 28, 29] [0, 1, 2, 3, 4, 5, 6, 7, 8, 9, 10, 11, 12, 13, 28, 29, 14, 15, 16, 17, 18, 19, 20, 21, 22, 23, 24, 25, 26, 27, 30, 31] (wcX5_X5_X3_X3_14_14b cs a b (k_sp (k_sp (k_sp (k_sp (k_sp (k_sp (k_sp (k_sp (k_sp (k_sp (k_sp S 1 1 T8) 2 1 T19) 3 1 T30) 4 1 T41) 5 1 T52) 6 1 T63) 7 1 T74) 8 1 T85) 9 1 T96) 10 2 S107) 12 2 S118) T) (by decide) hk hP1 (wbX5_X5_X3_X3_14_14b_S0 cs a b (k_sp (k_sp (k_sp (k_sp (k_sp (k_sp (k_sp (k_sp (k_sp (k_sp (k_sp S 1 1 T8) 2 1 T19) 3 1 T30) 4 1 T41) 5 1 T52) 6 1 T63) 7 1 T74) 8 1 T85) 9 1 T96) 10 2 S107) 12 2 S118) T S129)
  have hD := hDA (k_sp (k_sp (k_sp (k_sp (k_sp (k_sp (k_sp (k_sp (k_sp (k_sp (k_sp (k_sp S 1 1 T8) 2 1 T19) 3 1 T30) 4 1 T41) 5 1 T52) 6 1 T63) 7 1 T74) 8 1 T85) 9 1 T96) 10 2 S107) 12 2 S118) 14 2 S129) T
  refine lv_aload_n hx hb dX5_copyOf_132 rfl (lv_at hl 0 rfl) ?_
  refine lv_aload_n hx hb dX5_copyOf_133 rfl (lv_at hl 1 rfl) ?_
  refine va_get (D := D) (ci := 3) (v := .int (T 0 12)) (C := RX5) (T := TX5) (N := 15) hx hb hts (fun w h => List.mem_cons_of_mem _ (List.mem_append_left _ (List.mem_append_right _ h))) hown hK hP 16 rfl rfl 12 (by decide) (hts (.fieldLink RX5 54 "LeastNeed$Valley" "people" "I") (List.mem_of_getElem? (i := 13) rfl)) (fun _ h9 => h9) rfl dX5_copyOf_134 ?_
  refine va_put (D := D) (ci := 3) (v := .int (T 0 12)) (ty := .int) (C := RX5) (T := TX5) (N := 15) hx hb hts (fun w h => List.mem_cons_of_mem _ (List.mem_append_left _ (List.mem_append_right _ h))) tyX5 tyX5_ok nmX5 hown hK hP hD hS 0 rfl rfl 12 (by decide) (hts (.fieldLink RX5 54 "LeastNeed$Valley" "people" "I") (List.mem_of_getElem? (i := 13) rfl)) (fun _ h9 => h9) rfl (by decide +kernel) rfl rfl (Nat.le_of_ble_eq_true rfl) dX5_copyOf_137 (fun H locs hP hD hS => ?_)
  have hP : va_P D vwCl (wX5 cs a (k_w (k_sp (k_sp (k_sp (k_sp (k_sp (k_sp (k_sp (k_sp (k_sp (k_sp (k_sp (k_sp S 1 1 T8) 2 1 T19) 3 1 T30) 4 1 T41) 5 1 T52) 6 1 T63) 7 1 T74) 8 1 T85) 9 1 T96) 10 2 S107) 12 2 S118) 14 2 S129) 0 12 (T 0 12)) ++ wX5 cs b T) _ := k_eq hP (wsX5_X5_f0_12 cs a b (k_sp (k_sp (k_sp (k_sp (k_sp (k_sp (k_sp (k_sp (k_sp (k_sp (k_sp (k_sp S 1 1 T8) 2 1 T19) 3 1 T30) 4 1 T41) 5 1 T52) 6 1 T63) 7 1 T74) 8 1 T85) 9 1 T96) 10 2 S107) 12 2 S118) 14 2 S129) T (T 0 12))
  have hD := hDA (k_w (k_sp (k_sp (k_sp (k_sp (k_sp (k_sp (k_sp (k_sp (k_sp (k_sp (k_sp (k_sp S 1 1 T8) 2 1 T19) 3 1 T30) 4 1 T41) 5 1 T52) 6 1 T63) 7 1 T74) 8 1 T85) 9 1 T96) 10 2 S107) 12 2 S118) 14 2 S129) 0 12 (T 0 12)) T
  refine lv_aload_n hx hb dX5_copyOf_140 rfl (lv_at hl 0 rfl) ?_
  refine lv_aload_n hx hb dX5_copyOf_141 rfl (lv_at hl 1 rfl) ?_
  refine va_get (D := D) (ci := 3) (v := .int (T 0 13)) (C := RX5) (T := TX5) (N := 15) hx hb hts (fun w h => List.mem_cons_of_mem _ (List.mem_append_left _ (List.mem_append_right _ h))) hown hK hP 16 rfl rfl 13 (by decide) (hts (.fieldLink RX5 58 "LeastNeed$Valley" "things" "I") (List.mem_of_getElem? (i := 14) rfl)) (fun _ h9 => h9) rfl dX5_copyOf_142 ?_
  refine va_put (D := D) (ci := 3) (v := .int (T 0 13)) (ty := .int) (C := RX5) (T := TX5) (N := 15) hx hb hts (fun w h => List.mem_cons_of_mem _ (List.mem_append_left _ (List.mem_append_right _ h))) tyX5 tyX5_ok nmX5 hown hK hP hD hS 0 rfl rfl 13 (by decide) (hts (.fieldLink RX5 58 "LeastNeed$Valley" "things" "I") (List.mem_of_getElem? (i := 14) rfl)) (fun _ h9 => h9) rfl (by decide +kernel) rfl rfl (Nat.le_of_ble_eq_true rfl) dX5_copyOf_145 (fun H locs hP hD hS => ?_)
  have hP : va_P D vwCl (wX5 cs a (k_w (k_w (k_sp (k_sp (k_sp (k_sp (k_sp (k_sp (k_sp (k_sp (k_sp (k_sp (k_sp (k_sp S 1 1 T8) 2 1 T19) 3 1 T30) 4 1 T41) 5 1 T52) 6 1 T63) 7 1 T74) 8 1 T85) 9 1 T96) 10 2 S107) 12 2 S118) 14 2 S129) 0 12 (T 0 12)) 0 13 (T 0 13)) ++ wX5 cs b T) _ := k_eq hP (wsX5_X5_f0_13 cs a b (k_w (k_sp (k_sp (k_sp (k_sp (k_sp (k_sp (k_sp (k_sp (k_sp (k_sp (k_sp (k_sp S 1 1 T8) 2 1 T19) 3 1 T30) 4 1 T41) 5 1 T52) 6 1 T63) 7 1 T74) 8 1 T85) 9 1 T96) 10 2 S107) 12 2 S118) 14 2 S129) 0 12 (T 0 12)) T (T 0 13))
  have hD := hDA (k_w (k_w (k_sp (k_sp (k_sp (k_sp (k_sp (k_sp (k_sp (k_sp (k_sp (k_sp (k_sp (k_sp S 1 1 T8) 2 1 T19) 3 1 T30) 4 1 T41) 5 1 T52) 6 1 T63) 7 1 T74) 8 1 T85) 9 1 T96) 10 2 S107) 12 2 S118) 14 2 S129) 0 12 (T 0 12)) 0 13 (T 0 13)) T
  refine lv_aload_n hx hb dX5_copyOf_148 rfl (lv_at hl 0 rfl) ?_
  refine lv_aload_n hx hb dX5_copyOf_149 rfl (lv_at hl 1 rfl) ?_
  refine va_get (D := D) (ci := 3) (v := .int (T 0 14)) (C := RX5) (T := TX5) (N := 15) hx hb hts (fun w h => List.mem_cons_of_mem _ (List.mem_append_left _ (List.mem_append_right _ h))) hown hK hP 16 rfl rfl 14 (by decide) (hts (.fieldLink RX5 61 "LeastNeed$Valley" "today" "I") (List.mem_of_getElem? (i := 15) rfl)) (fun _ h9 => h9) rfl dX5_copyOf_150 ?_
  refine va_put (D := D) (ci := 3) (v := .int (T 0 14)) (ty := .int) (C := RX5) (T := TX5) (N := 15) hx hb hts (fun w h => List.mem_cons_of_mem _ (List.mem_append_left _ (List.mem_append_right _ h))) tyX5 tyX5_ok nmX5 hown hK hP hD hS 0 rfl rfl 14 (by decide) (hts (.fieldLink RX5 61 "LeastNeed$Valley" "today" "I") (List.mem_of_getElem? (i := 15) rfl)) (fun _ h9 => h9) rfl (by decide +kernel) rfl rfl (Nat.le_of_ble_eq_true rfl) dX5_copyOf_153 (fun H locs hP hD hS => ?_)
  have hP : va_P D vwCl (wX5 cs a (k_w (k_w (k_w (k_sp (k_sp (k_sp (k_sp (k_sp (k_sp (k_sp (k_sp (k_sp (k_sp (k_sp (k_sp S 1 1 T8) 2 1 T19) 3 1 T30) 4 1 T41) 5 1 T52) 6 1 T63) 7 1 T74) 8 1 T85) 9 1 T96) 10 2 S107) 12 2 S118) 14 2 S129) 0 12 (T 0 12)) 0 13 (T 0 13)) 0 14 (T 0 14)) ++ wX5 cs b T) _ := k_eq hP (wsX5_X5_f0_14 cs a b (k_w (k_w (k_sp (k_sp (k_sp (k_sp (k_sp (k_sp (k_sp (k_sp (k_sp (k_sp (k_sp (k_sp S 1 1 T8) 2 1 T19) 3 1 T30) 4 1 T41) 5 1 T52) 6 1 T63) 7 1 T74) 8 1 T85) 9 1 T96) 10 2 S107) 12 2 S118) 14 2 S129) 0 12 (T 0 12)) 0 13 (T 0 13)) T (T 0 14))
  have hD := hDA (k_w (k_w (k_w (k_sp (k_sp (k_sp (k_sp (k_sp (k_sp (k_sp (k_sp (k_sp (k_sp (k_sp (k_sp S 1 1 T8) 2 1 T19) 3 1 T30) 4 1 T41) 5 1 T52) 6 1 T63) 7 1 T74) 8 1 T85) 9 1 T96) 10 2 S107) 12 2 S118) 14 2 S129) 0 12 (T 0 12)) 0 13 (T 0 13)) 0 14 (T 0 14)) T
  have e1 := dn_s1 hd
  exact k_vret hx hb hr hQ hAe (by rw [e1]) hP hS hlocks dX5_copyOf_156
-- LeastNeed$Valley.addPerson(IIIIII)V
set_option maxRecDepth 20000 in
def nX5_addPerson (S : Nat → Nat → Int32) (p1 : Int32) (p2 : Int32) (p3 : Int32) (p4 : Int32) (p5 : Int32) (p6 : Int32) : Option ((Nat → Nat → Int32)) := if (S 0 12) < (7 : Int32) then if (S 0 12) < 0 ∨ 7 ≤ (S 0 12).toNatClampNeg then none else if ((k_w S 1 ((S 0 12).toNatClampNeg) p1) 0 12) < 0 ∨ 7 ≤ ((k_w S 1 ((S 0 12).toNatClampNeg) p1) 0 12).toNatClampNeg then none else if ((k_w (k_w S 1 ((S 0 12).toNatClampNeg) p1) 2 (((k_w S 1 ((S 0 12).toNatClampNeg) p1) 0 12).toNatClampNeg) p2) 0 12) < 0 ∨ 7 ≤ ((k_w (k_w S 1 ((S 0 12).toNatClampNeg) p1) 2 (((k_w S 1 ((S 0 12).toNatClampNeg) p1) 0 12).toNatClampNeg) p2) 0 12).toNatClampNeg then none else if ((4 : Int32) * ((k_w (k_w (k_w S 1 ((S 0 12).toNatClampNeg) p1) 2 (((k_w S 1 ((S 0 12).toNatClampNeg) p1) 0 12).toNatClampNeg) p2) 3 (((k_w (k_w S 1 ((S 0 12).toNatClampNeg) p1) 2 (((k_w S 1 ((S 0 12).toNatClampNeg) p1) 0 12).toNatClampNeg) p2) 0 12).toNatClampNeg) (0 : Int32)) 0 12)) < 0 ∨ 28 ≤ ((4 : Int32) * ((k_w (k_w (k_w S 1 ((S 0 12).toNatClampNeg) p1) 2 (((k_w S 1 ((S 0 12).toNatClampNeg) p1) 0 12).toNatClampNeg) p2) 3 (((k_w (k_w S 1 ((S 0 12).toNatClampNeg) p1) 2 (((k_w S 1 ((S 0 12).toNatClampNeg) p1) 0 12).toNatClampNeg) p2) 0 12).toNatClampNeg) (0 : Int32)) 0 12)).toNatClampNeg then none else if (((4 : Int32) * ((k_w (k_w (k_w (k_w S 1 ((S 0 12).toNatClampNeg) p1) 2 (((k_w S 1 ((S 0 12).toNatClampNeg) p1) 0 12).toNatClampNeg) p2) 3 (((k_w (k_w S 1 ((S 0 12).toNatClampNeg) p1) 2 (((k_w S 1 ((S 0 12).toNatClampNeg) p1) 0 12).toNatClampNeg) p2) 0 12).toNatClampNeg) (0 : Int32)) 4 (((4 : Int32) * ((k_w (k_w (k_w S 1 ((S 0 12).toNatClampNeg) p1) 2 (((k_w S 1 ((S 0 12).toNatClampNeg) p1) 0 12).toNatClampNeg) p2) 3 (((k_w (k_w S 1 ((S 0 12).toNatClampNeg) p1) 2 (((k_w S 1 ((S 0 12).toNatClampNeg) p1) 0 12).toNatClampNeg) p2) 0 12).toNatClampNeg) (0 : Int32)) 0 12)).toNatClampNeg) p3) 0 12)) + (1 : Int32)) < 0 ∨ 28 ≤ (((4 : Int32) * ((k_w (k_w (k_w (k_w S 1 ((S 0 12).toNatClampNeg) p1) 2 (((k_w S 1 ((S 0 12).toNatClampNeg) p1) 0 12).toNatClampNeg) p2) 3 (((k_w (k_w S 1 ((S 0 12).toNatClampNeg) p1) 2 (((k_w S 1 ((S 0 12).toNatClampNeg) p1) 0 12).toNatClampNeg) p2) 0 12).toNatClampNeg) (0 : Int32)) 4 (((4 : Int32) * ((k_w (k_w (k_w S 1 ((S 0 12).toNatClampNeg) p1) 2 (((k_w S 1 ((S 0 12).toNatClampNeg) p1) 0 12).toNatClampNeg) p2) 3 (((k_w (k_w S 1 ((S 0 12).toNatClampNeg) p1) 2 (((k_w S 1 ((S 0 12).toNatClampNeg) p1) 0 12).toNatClampNeg) p2) 0 12).toNatClampNeg) (0 : Int32)) 0 12)).toNatClampNeg) p3) 0 12)) + (1 : Int32)).toNatClampNeg then none else if (((4 : Int32) * ((k_w (k_w (k_w (k_w (k_w S 1 ((S 0 12).toNatClampNeg) p1) 2 (((k_w S 1 ((S 0 12).toNatClampNeg) p1) 0 12).toNatClampNeg) p2) 3 (((k_w (k_w S 1 ((S 0 12).toNatClampNeg) p1) 2 (((k_w S 1 ((S 0 12).toNatClampNeg) p1) 0 12).toNatClampNeg) p2) 0 12).toNatClampNeg) (0 : Int32)) 4 (((4 : Int32) * ((k_w (k_w (k_w S 1 ((S 0 12).toNatClampNeg) p1) 2 (((k_w S 1 ((S 0 12).toNatClampNeg) p1) 0 12).toNatClampNeg) p2) 3 (((k_w (k_w S 1 ((S 0 12).toNatClampNeg) p1) 2 (((k_w S 1 ((S 0 12).toNatClampNeg) p1) 0 12).toNatClampNeg) p2) 0 12).toNatClampNeg) (0 : Int32)) 0 12)).toNatClampNeg) p3) 4 ((((4 : Int32) * ((k_w (k_w (k_w (k_w S 1 ((S 0 12).toNatClampNeg) p1) 2 (((k_w S 1 ((S 0 12).toNatClampNeg) p1) 0 12).toNatClampNeg) p2) 3 (((k_w (k_w S 1 ((S 0 12).toNatClampNeg) p1) 2 (((k_w S 1 ((S 0 12).toNatClampNeg) p1) 0 12).toNatClampNeg) p2) 0 12).toNatClampNeg) (0 : Int32)) 4 (((4 : Int32) * ((k_w (k_w (k_w S 1 ((S 0 12).toNatClampNeg) p1) 2 (((k_w S 1 ((S 0 12).toNatClampNeg) p1) 0 12).toNatClampNeg) p2) 3 (((k_w (k_w S 1 ((S 0 12).toNatClampNeg) p1) 2 (((k_w S 1 ((S 0 12).toNatClampNeg) p1) 0 12).toNatClampNeg) p2) 0 12).toNatClampNeg) (0 : Int32)) 0 12)).toNatClampNeg) p3) 0 12)) + (1 : Int32)).toNatClampNeg) p4) 0 12)) + (2 : Int32)) < 0 ∨ 28 ≤ (((4 : Int32) * ((k_w (k_w (k_w (k_w (k_w S 1 ((S 0 12).toNatClampNeg) p1) 2 (((k_w S 1 ((S 0 12).toNatClampNeg) p1) 0 12).toNatClampNeg) p2) 3 (((k_w (k_w S 1 ((S 0 12).toNatClampNeg) p1) 2 (((k_w S 1 ((S 0 12).toNatClampNeg) p1) 0 12).toNatClampNeg) p2) 0 12).toNatClampNeg) (0 : Int32)) 4 (((4 : Int32) * ((k_w (k_w (k_w S 1 ((S 0 12).toNatClampNeg) p1) 2 (((k_w S 1 ((S 0 12).toNatClampNeg) p1) 0 12).toNatClampNeg) p2) 3 (((k_w (k_w S 1 ((S 0 12).toNatClampNeg) p1) 2 (((k_w S 1 ((S 0 12).toNatClampNeg) p1) 0 12).toNatClampNeg) p2) 0 12).toNatClampNeg) (0 : Int32)) 0 12)).toNatClampNeg) p3) 4 ((((4 : Int32) * ((k_w (k_w (k_w (k_w S 1 ((S 0 12).toNatClampNeg) p1) 2 (((k_w S 1 ((S 0 12).toNatClampNeg) p1) 0 12).toNatClampNeg) p2) 3 (((k_w (k_w S 1 ((S 0 12).toNatClampNeg) p1) 2 (((k_w S 1 ((S 0 12).toNatClampNeg) p1) 0 12).toNatClampNeg) p2) 0 12).toNatClampNeg) (0 : Int32)) 4 (((4 : Int32) * ((k_w (k_w (k_w S 1 ((S 0 12).toNatClampNeg) p1) 2 (((k_w S 1 ((S 0 12).toNatClampNeg) p1) 0 12).toNatClampNeg) p2) 3 (((k_w (k_w S 1 ((S 0 12).toNatClampNeg) p1) 2 (((k_w S 1 ((S 0 12).toNatClampNeg) p1) 0 12).toNatClampNeg) p2) 0 12).toNatClampNeg) (0 : Int32)) 0 12)).toNatClampNeg) p3) 0 12)) + (1 : Int32)).toNatClampNeg) p4) 0 12)) + (2 : Int32)).toNatClampNeg then none else if (((4 : Int32) * ((k_w (k_w (k_w (k_w (k_w (k_w S 1 ((S 0 12).toNatClampNeg) p1) 2 (((k_w S 1 ((S 0 12).toNatClampNeg) p1) 0 12).toNatClampNeg) p2) 3 (((k_w (k_w S 1 ((S 0 12).toNatClampNeg) p1) 2 (((k_w S 1 ((S 0 12).toNatClampNeg) p1) 0 12).toNatClampNeg) p2) 0 12).toNatClampNeg) (0 : Int32)) 4 (((4 : Int32) * ((k_w (k_w (k_w S 1 ((S 0 12).toNatClampNeg) p1) 2 (((k_w S 1 ((S 0 12).toNatClampNeg) p1) 0 12).toNatClampNeg) p2) 3 (((k_w (k_w S 1 ((S 0 12).toNatClampNeg) p1) 2 (((k_w S 1 ((S 0 12).toNatClampNeg) p1) 0 12).toNatClampNeg) p2) 0 12).toNatClampNeg) (0 : Int32)) 0 12)).toNatClampNeg) p3) 4 ((((4 : Int32) * ((k_w (k_w (k_w (k_w S 1 ((S 0 12).toNatClampNeg) p1) 2 (((k_w S 1 ((S 0 12).toNatClampNeg) p1) 0 12).toNatClampNeg) p2) 3 (((k_w (k_w S 1 ((S 0 12).toNatClampNeg) p1) 2 (((k_w S 1 ((S 0 12).toNatClampNeg) p1) 0 12).toNatClampNeg) p2) 0 12).toNatClampNeg) (0 : Int32)) 4 (((4 : Int32) * ((k_w (k_w (k_w S 1 ((S 0 12).toNatClampNeg) p1) 2 (((k_w S 1 ((S 0 12).toNatClampNeg) p1) 0 12).toNatClampNeg) p2) 3 (((k_w (k_w S 1 ((S 0 12).toNatClampNeg) p1) 2 (((k_w S 1 ((S 0 12).toNatClampNeg) p1) 0 12).toNatClampNeg) p2) 0 12).toNatClampNeg) (0 : Int32)) 0 12)).toNatClampNeg) p3) 0 12)) + (1 : Int32)).toNatClampNeg) p4) 4 ((((4 : Int32) * ((k_w (k_w (k_w (k_w (k_w S 1 ((S 0 12).toNatClampNeg) p1) 2 (((k_w S 1 ((S 0 12).toNatClampNeg) p1) 0 12).toNatClampNeg) p2) 3 (((k_w (k_w S 1 ((S 0 12).toNatClampNeg) p1) 2 (((k_w S 1 ((S 0 12).toNatClampNeg) p1) 0 12).toNatClampNeg) p2) 0 12).toNatClampNeg) (0 : Int32)) 4 (((4 : Int32) * ((k_w (k_w (k_w S 1 ((S 0 12).toNatClampNeg) p1) 2 (((k_w S 1 ((S 0 12).toNatClampNeg) p1) 0 12).toNatClampNeg) p2) 3 (((k_w (k_w S 1 ((S 0 12).toNatClampNeg) p1) 2 (((k_w S 1 ((S 0 12).toNatClampNeg) p1) 0 12).toNatClampNeg) p2) 0 12).toNatClampNeg) (0 : Int32)) 0 12)).toNatClampNeg) p3) 4 ((((4 : Int32) * ((k_w (k_w (k_w (k_w S 1 ((S 0 12).toNatClampNeg) p1) 2 (((k_w S 1 ((S 0 12).toNatClampNeg) p1) 0 12).toNatClampNeg) p2) 3 (((k_w (k_w S 1 ((S 0 12).toNatClampNeg) p1) 2 (((k_w S 1 ((S 0 12).toNatClampNeg) p1) 0 12).toNatClampNeg) p2) 0 12).toNatClampNeg) (0 : Int32)) 4 (((4 : Int32) * ((k_w (k_w (k_w S 1 ((S 0 12).toNatClampNeg) p1) 2 (((k_w S 1 ((S 0 12).toNatClampNeg) p1) 0 12).toNatClampNeg) p2) 3 (((k_w (k_w S 1 ((S 0 12).toNatClampNeg) p1) 2 (((k_w S 1 ((S 0 12).toNatClampNeg) p1) 0 12).toNatClampNeg) p2) 0 12).toNatClampNeg) (0 : Int32)) 0 12)).toNatClampNeg) p3) 0 12)) + (1 : Int32)).toNatClampNeg) p4) 0 12)) + (2 : Int32)).toNatClampNeg) p5) 0 12)) + (3 : Int32)) < 0 ∨ 28 ≤ (((4 : Int32) * ((k_w (k_w (k_w (k_w (k_w (k_w S 1 ((S 0 12).toNatClampNeg) p1) 2 (((k_w S 1 ((S 0 12).toNatClampNeg) p1) 0 12).toNatClampNeg) p2) 3 (((k_w (k_w S 1 ((S 0 12).toNatClampNeg) p1) 2 (((k_w S 1 ((S 0 12).toNatClampNeg) p1) 0 12).toNatClampNeg) p2) 0 12).toNatClampNeg) (0 : Int32)) 4 (((4 : Int32) * ((k_w (k_w (k_w S 1 ((S 0 12).toNatClampNeg) p1) 2 (((k_w S 1 ((S 0 12).toNatClampNeg) p1) 0 12).toNatClampNeg) p2) 3 (((k_w (k_w S 1 ((S 0 12).toNatClampNeg) p1) 2 (((k_w S 1 ((S 0 12).toNatClampNeg) p1) 0 12).toNatClampNeg) p2) 0 12).toNatClampNeg) (0 : Int32)) 0 12)).toNatClampNeg) p3) 4 ((((4 : Int32) * ((k_w (k_w (k_w (k_w S 1 ((S 0 12).toNatClampNeg) p1) 2 (((k_w S 1 ((S 0 12).toNatClampNeg) p1) 0 12).toNatClampNeg) p2) 3 (((k_w (k_w S 1 ((S 0 12).toNatClampNeg) p1) 2 (((k_w S 1 ((S 0 12).toNatClampNeg) p1) 0 12).toNatClampNeg) p2) 0 12).toNatClampNeg) (0 : Int32)) 4 (((4 : Int32) * ((k_w (k_w (k_w S 1 ((S 0 12).toNatClampNeg) p1) 2 (((k_w S 1 ((S 0 12).toNatClampNeg) p1) 0 12).toNatClampNeg) p2) 3 (((k_w (k_w S 1 ((S 0 12).toNatClampNeg) p1) 2 (((k_w S 1 ((S 0 12).toNatClampNeg) p1) 0 12).toNatClampNeg) p2) 0 12).toNatClampNeg) (0 : Int32)) 0 12)).toNatClampNeg) p3) 0 12)) + (1 : Int32)).toNatClampNeg) p4) 4 ((((4 : Int32) * ((k_w (k_w (k_w (k_w (k_w S 1 ((S 0 12).toNatClampNeg) p1) 2 (((k_w S 1 ((S 0 12).toNatClampNeg) p1) 0 12).toNatClampNeg) p2) 3 (((k_w (k_w S 1 ((S 0 12).toNatClampNeg) p1) 2 (((k_w S 1 ((S 0 12).toNatClampNeg) p1) 0 12).toNatClampNeg) p2) 0 12).toNatClampNeg) (0 : Int32)) 4 (((4 : Int32) * ((k_w (k_w (k_w S 1 ((S 0 12).toNatClampNeg) p1) 2 (((k_w S 1 ((S 0 12).toNatClampNeg) p1) 0 12).toNatClampNeg) p2) 3 (((k_w (k_w S 1 ((S 0 12).toNatClampNeg) p1) 2 (((k_w S 1 ((S 0 12).toNatClampNeg) p1) 0 12).toNatClampNeg) p2) 0 12).toNatClampNeg) (0 : Int32)) 0 12)).toNatClampNeg) p3) 4 ((((4 : Int32) * ((k_w (k_w (k_w (k_w S 1 ((S 0 12).toNatClampNeg) p1) 2 (((k_w S 1 ((S 0 12).toNatClampNeg) p1) 0 12).toNatClampNeg) p2) 3 (((k_w (k_w S 1 ((S 0 12).toNatClampNeg) p1) 2 (((k_w S 1 ((S 0 12).toNatClampNeg) p1) 0 12).toNatClampNeg) p2) 0 12).toNatClampNeg) (0 : Int32)) 4 (((4 : Int32) * ((k_w (k_w (k_w S 1 ((S 0 12).toNatClampNeg) p1) 2 (((k_w S 1 ((S 0 12).toNatClampNeg) p1) 0 12).toNatClampNeg) p2) 3 (((k_w (k_w S 1 ((S 0 12).toNatClampNeg) p1) 2 (((k_w S 1 ((S 0 12).toNatClampNeg) p1) 0 12).toNatClampNeg) p2) 0 12).toNatClampNeg) (0 : Int32)) 0 12)).toNatClampNeg) p3) 0 12)) + (1 : Int32)).toNatClampNeg) p4) 0 12)) + (2 : Int32)).toNatClampNeg) p5) 0 12)) + (3 : Int32)).toNatClampNeg then none else some (k_w (k_w (k_w (k_w (k_w (k_w (k_w (k_w (k_w S 1 ((S 0 12).toNatClampNeg) p1) 2 (((k_w S 1 ((S 0 12).toNatClampNeg) p1) 0 12).toNatClampNeg) p2) 3 (((k_w (k_w S 1 ((S 0 12).toNatClampNeg) p1) 2 (((k_w S 1 ((S 0 12).toNatClampNeg) p1) 0 12).toNatClampNeg) p2) 0 12).toNatClampNeg) (0 : Int32)) 4 (((4 : Int32) * ((k_w (k_w (k_w S 1 ((S 0 12).toNatClampNeg) p1) 2 (((k_w S 1 ((S 0 12).toNatClampNeg) p1) 0 12).toNatClampNeg) p2) 3 (((k_w (k_w S 1 ((S 0 12).toNatClampNeg) p1) 2 (((k_w S 1 ((S 0 12).toNatClampNeg) p1) 0 12).toNatClampNeg) p2) 0 12).toNatClampNeg) (0 : Int32)) 0 12)).toNatClampNeg) p3) 4 ((((4 : Int32) * ((k_w (k_w (k_w (k_w S 1 ((S 0 12).toNatClampNeg) p1) 2 (((k_w S 1 ((S 0 12).toNatClampNeg) p1) 0 12).toNatClampNeg) p2) 3 (((k_w (k_w S 1 ((S 0 12).toNatClampNeg) p1) 2 (((k_w S 1 ((S 0 12).toNatClampNeg) p1) 0 12).toNatClampNeg) p2) 0 12).toNatClampNeg) (0 : Int32)) 4 (((4 : Int32) * ((k_w (k_w (k_w S 1 ((S 0 12).toNatClampNeg) p1) 2 (((k_w S 1 ((S 0 12).toNatClampNeg) p1) 0 12).toNatClampNeg) p2) 3 (((k_w (k_w S 1 ((S 0 12).toNatClampNeg) p1) 2 (((k_w S 1 ((S 0 12).toNatClampNeg) p1) 0 12).toNatClampNeg) p2) 0 12).toNatClampNeg) (0 : Int32)) 0 12)).toNatClampNeg) p3) 0 12)) + (1 : Int32)).toNatClampNeg) p4) 4 ((((4 : Int32) * ((k_w (k_w (k_w (k_w (k_w S 1 ((S 0 12).toNatClampNeg) p1) 2 (((k_w S 1 ((S 0 12).toNatClampNeg) p1) 0 12).toNatClampNeg) p2) 3 (((k_w (k_w S 1 ((S 0 12).toNatClampNeg) p1) 2 (((k_w S 1 ((S 0 12).toNatClampNeg) p1) 0 12).toNatClampNeg) p2) 0 12).toNatClampNeg) (0 : Int32)) 4 (((4 : Int32) * ((k_w (k_w (k_w S 1 ((S 0 12).toNatClampNeg) p1) 2 (((k_w S 1 ((S 0 12).toNatClampNeg) p1) 0 12).toNatClampNeg) p2) 3 (((k_w (k_w S 1 ((S 0 12).toNatClampNeg) p1) 2 (((k_w S 1 ((S 0 12).toNatClampNeg) p1) 0 12).toNatClampNeg) p2) 0 12).toNatClampNeg) (0 : Int32)) 0 12)).toNatClampNeg) p3) 4 ((((4 : Int32) * ((k_w (k_w (k_w (k_w S 1 ((S 0 12).toNatClampNeg) p1) 2 (((k_w S 1 ((S 0 12).toNatClampNeg) p1) 0 12).toNatClampNeg) p2) 3 (((k_w (k_w S 1 ((S 0 12).toNatClampNeg) p1) 2 (((k_w S 1 ((S 0 12).toNatClampNeg) p1) 0 12).toNatClampNeg) p2) 0 12).toNatClampNeg) (0 : Int32)) 4 (((4 : Int32) * ((k_w (k_w (k_w S 1 ((S 0 12).toNatClampNeg) p1) 2 (((k_w S 1 ((S 0 12).toNatClampNeg) p1) 0 12).toNatClampNeg) p2) 3 (((k_w (k_w S 1 ((S 0 12).toNatClampNeg) p1) 2 (((k_w S 1 ((S 0 12).toNatClampNeg) p1) 0 12).toNatClampNeg) p2) 0 12).toNatClampNeg) (0 : Int32)) 0 12)).toNatClampNeg) p3) 0 12)) + (1 : Int32)).toNatClampNeg) p4) 0 12)) + (2 : Int32)).toNatClampNeg) p5) 4 ((((4 : Int32) * ((k_w (k_w (k_w (k_w (k_w (k_w S 1 ((S 0 12).toNatClampNeg) p1) 2 (((k_w S 1 ((S 0 12).toNatClampNeg) p1) 0 12).toNatClampNeg) p2) 3 (((k_w (k_w S 1 ((S 0 12).toNatClampNeg) p1) 2 (((k_w S 1 ((S 0 12).toNatClampNeg) p1) 0 12).toNatClampNeg) p2) 0 12).toNatClampNeg) (0 : Int32)) 4 (((4 : Int32) * ((k_w (k_w (k_w S 1 ((S 0 12).toNatClampNeg) p1) 2 (((k_w S 1 ((S 0 12).toNatClampNeg) p1) 0 12).toNatClampNeg) p2) 3 (((k_w (k_w S 1 ((S 0 12).toNatClampNeg) p1) 2 (((k_w S 1 ((S 0 12).toNatClampNeg) p1) 0 12).toNatClampNeg) p2) 0 12).toNatClampNeg) (0 : Int32)) 0 12)).toNatClampNeg) p3) 4 ((((4 : Int32) * ((k_w (k_w (k_w (k_w S 1 ((S 0 12).toNatClampNeg) p1) 2 (((k_w S 1 ((S 0 12).toNatClampNeg) p1) 0 12).toNatClampNeg) p2) 3 (((k_w (k_w S 1 ((S 0 12).toNatClampNeg) p1) 2 (((k_w S 1 ((S 0 12).toNatClampNeg) p1) 0 12).toNatClampNeg) p2) 0 12).toNatClampNeg) (0 : Int32)) 4 (((4 : Int32) * ((k_w (k_w (k_w S 1 ((S 0 12).toNatClampNeg) p1) 2 (((k_w S 1 ((S 0 12).toNatClampNeg) p1) 0 12).toNatClampNeg) p2) 3 (((k_w (k_w S 1 ((S 0 12).toNatClampNeg) p1) 2 (((k_w S 1 ((S 0 12).toNatClampNeg) p1) 0 12).toNatClampNeg) p2) 0 12).toNatClampNeg) (0 : Int32)) 0 12)).toNatClampNeg) p3) 0 12)) + (1 : Int32)).toNatClampNeg) p4) 4 ((((4 : Int32) * ((k_w (k_w (k_w (k_w (k_w S 1 ((S 0 12).toNatClampNeg) p1) 2 (((k_w S 1 ((S 0 12).toNatClampNeg) p1) 0 12).toNatClampNeg) p2) 3 (((k_w (k_w S 1 ((S 0 12).toNatClampNeg) p1) 2 (((k_w S 1 ((S 0 12).toNatClampNeg) p1) 0 12).toNatClampNeg) p2) 0 12).toNatClampNeg) (0 : Int32)) 4 (((4 : Int32) * ((k_w (k_w (k_w S 1 ((S 0 12).toNatClampNeg) p1) 2 (((k_w S 1 ((S 0 12).toNatClampNeg) p1) 0 12).toNatClampNeg) p2) 3 (((k_w (k_w S 1 ((S 0 12).toNatClampNeg) p1) 2 (((k_w S 1 ((S 0 12).toNatClampNeg) p1) 0 12).toNatClampNeg) p2) 0 12).toNatClampNeg) (0 : Int32)) 0 12)).toNatClampNeg) p3) 4 ((((4 : Int32) * ((k_w (k_w (k_w (k_w S 1 ((S 0 12).toNatClampNeg) p1) 2 (((k_w S 1 ((S 0 12).toNatClampNeg) p1) 0 12).toNatClampNeg) p2) 3 (((k_w (k_w S 1 ((S 0 12).toNatClampNeg) p1) 2 (((k_w S 1 ((S 0 12).toNatClampNeg) p1) 0 12).toNatClampNeg) p2) 0 12).toNatClampNeg) (0 : Int32)) 4 (((4 : Int32) * ((k_w (k_w (k_w S 1 ((S 0 12).toNatClampNeg) p1) 2 (((k_w S 1 ((S 0 12).toNatClampNeg) p1) 0 12).toNatClampNeg) p2) 3 (((k_w (k_w S 1 ((S 0 12).toNatClampNeg) p1) 2 (((k_w S 1 ((S 0 12).toNatClampNeg) p1) 0 12).toNatClampNeg) p2) 0 12).toNatClampNeg) (0 : Int32)) 0 12)).toNatClampNeg) p3) 0 12)) + (1 : Int32)).toNatClampNeg) p4) 0 12)) + (2 : Int32)).toNatClampNeg) p5) 0 12)) + (3 : Int32)).toNatClampNeg) p6) 0 12 (((k_w (k_w (k_w (k_w (k_w (k_w (k_w S 1 ((S 0 12).toNatClampNeg) p1) 2 (((k_w S 1 ((S 0 12).toNatClampNeg) p1) 0 12).toNatClampNeg) p2) 3 (((k_w (k_w S 1 ((S 0 12).toNatClampNeg) p1) 2 (((k_w S 1 ((S 0 12).toNatClampNeg) p1) 0 12).toNatClampNeg) p2) 0 12).toNatClampNeg) (0 : Int32)) 4 (((4 : Int32) * ((k_w (k_w (k_w S 1 ((S 0 12).toNatClampNeg) p1) 2 (((k_w S 1 ((S 0 12).toNatClampNeg) p1) 0 12).toNatClampNeg) p2) 3 (((k_w (k_w S 1 ((S 0 12).toNatClampNeg) p1) 2 (((k_w S 1 ((S 0 12).toNatClampNeg) p1) 0 12).toNatClampNeg) p2) 0 12).toNatClampNeg) (0 : Int32)) 0 12)).toNatClampNeg) p3) 4 ((((4 : Int32) * ((k_w (k_w (k_w (k_w S 1 ((S 0 12).toNatClampNeg) p1) 2 (((k_w S 1 ((S 0 12).toNatClampNeg) p1) 0 12).toNatClampNeg) p2) 3 (((k_w (k_w S 1 ((S 0 12).toNatClampNeg) p1) 2 (((k_w S 1 ((S 0 12).toNatClampNeg) p1) 0 12).toNatClampNeg) p2) 0 12).toNatClampNeg) (0 : Int32)) 4 (((4 : Int32) * ((k_w (k_w (k_w S 1 ((S 0 12).toNatClampNeg) p1) 2 (((k_w S 1 ((S 0 12).toNatClampNeg) p1) 0 12).toNatClampNeg) p2) 3 (((k_w (k_w S 1 ((S 0 12).toNatClampNeg) p1) 2 (((k_w S 1 ((S 0 12).toNatClampNeg) p1) 0 12).toNatClampNeg) p2) 0 12).toNatClampNeg) (0 : Int32)) 0 12)).toNatClampNeg) p3) 0 12)) + (1 : Int32)).toNatClampNeg) p4) 4 ((((4 : Int32) * ((k_w (k_w (k_w (k_w (k_w S 1 ((S 0 12).toNatClampNeg) p1) 2 (((k_w S 1 ((S 0 12).toNatClampNeg) p1) 0 12).toNatClampNeg) p2) 3 (((k_w (k_w S 1 ((S 0 12).toNatClampNeg) p1) 2 (((k_w S 1 ((S 0 12).toNatClampNeg) p1) 0 12).toNatClampNeg) p2) 0 12).toNatClampNeg) (0 : Int32)) 4 (((4 : Int32) * ((k_w (k_w (k_w S 1 ((S 0 12).toNatClampNeg) p1) 2 (((k_w S 1 ((S 0 12).toNatClampNeg) p1) 0 12).toNatClampNeg) p2) 3 (((k_w (k_w S 1 ((S 0 12).toNatClampNeg) p1) 2 (((k_w S 1 ((S 0 12).toNatClampNeg) p1) 0 12).toNatClampNeg) p2) 0 12).toNatClampNeg) (0 : Int32)) 0 12)).toNatClampNeg) p3) 4 ((((4 : Int32) * ((k_w (k_w (k_w (k_w S 1 ((S 0 12).toNatClampNeg) p1) 2 (((k_w S 1 ((S 0 12).toNatClampNeg) p1) 0 12).toNatClampNeg) p2) 3 (((k_w (k_w S 1 ((S 0 12).toNatClampNeg) p1) 2 (((k_w S 1 ((S 0 12).toNatClampNeg) p1) 0 12).toNatClampNeg) p2) 0 12).toNatClampNeg) (0 : Int32)) 4 (((4 : Int32) * ((k_w (k_w (k_w S 1 ((S 0 12).toNatClampNeg) p1) 2 (((k_w S 1 ((S 0 12).toNatClampNeg) p1) 0 12).toNatClampNeg) p2) 3 (((k_w (k_w S 1 ((S 0 12).toNatClampNeg) p1) 2 (((k_w S 1 ((S 0 12).toNatClampNeg) p1) 0 12).toNatClampNeg) p2) 0 12).toNatClampNeg) (0 : Int32)) 0 12)).toNatClampNeg) p3) 0 12)) + (1 : Int32)).toNatClampNeg) p4) 0 12)) + (2 : Int32)).toNatClampNeg) p5) 4 ((((4 : Int32) * ((k_w (k_w (k_w (k_w (k_w (k_w S 1 ((S 0 12).toNatClampNeg) p1) 2 (((k_w S 1 ((S 0 12).toNatClampNeg) p1) 0 12).toNatClampNeg) p2) 3 (((k_w (k_w S 1 ((S 0 12).toNatClampNeg) p1) 2 (((k_w S 1 ((S 0 12).toNatClampNeg) p1) 0 12).toNatClampNeg) p2) 0 12).toNatClampNeg) (0 : Int32)) 4 (((4 : Int32) * ((k_w (k_w (k_w S 1 ((S 0 12).toNatClampNeg) p1) 2 (((k_w S 1 ((S 0 12).toNatClampNeg) p1) 0 12).toNatClampNeg) p2) 3 (((k_w (k_w S 1 ((S 0 12).toNatClampNeg) p1) 2 (((k_w S 1 ((S 0 12).toNatClampNeg) p1) 0 12).toNatClampNeg) p2) 0 12).toNatClampNeg) (0 : Int32)) 0 12)).toNatClampNeg) p3) 4 ((((4 : Int32) * ((k_w (k_w (k_w (k_w S 1 ((S 0 12).toNatClampNeg) p1) 2 (((k_w S 1 ((S 0 12).toNatClampNeg) p1) 0 12).toNatClampNeg) p2) 3 (((k_w (k_w S 1 ((S 0 12).toNatClampNeg) p1) 2 (((k_w S 1 ((S 0 12).toNatClampNeg) p1) 0 12).toNatClampNeg) p2) 0 12).toNatClampNeg) (0 : Int32)) 4 (((4 : Int32) * ((k_w (k_w (k_w S 1 ((S 0 12).toNatClampNeg) p1) 2 (((k_w S 1 ((S 0 12).toNatClampNeg) p1) 0 12).toNatClampNeg) p2) 3 (((k_w (k_w S 1 ((S 0 12).toNatClampNeg) p1) 2 (((k_w S 1 ((S 0 12).toNatClampNeg) p1) 0 12).toNatClampNeg) p2) 0 12).toNatClampNeg) (0 : Int32)) 0 12)).toNatClampNeg) p3) 0 12)) + (1 : Int32)).toNatClampNeg) p4) 4 ((((4 : Int32) * ((k_w (k_w (k_w (k_w (k_w S 1 ((S 0 12).toNatClampNeg) p1) 2 (((k_w S 1 ((S 0 12).toNatClampNeg) p1) 0 12).toNatClampNeg) p2) 3 (((k_w (k_w S 1 ((S 0 12).toNatClampNeg) p1) 2 (((k_w S 1 ((S 0 12).toNatClampNeg) p1) 0 12).toNatClampNeg) p2) 0 12).toNatClampNeg) (0 : Int32)) 4 (((4 : Int32) * ((k_w (k_w (k_w S 1 ((S 0 12).toNatClampNeg) p1) 2 (((k_w S 1 ((S 0 12).toNatClampNeg) p1) 0 12).toNatClampNeg) p2) 3 (((k_w (k_w S 1 ((S 0 12).toNatClampNeg) p1) 2 (((k_w S 1 ((S 0 12).toNatClampNeg) p1) 0 12).toNatClampNeg) p2) 0 12).toNatClampNeg) (0 : Int32)) 0 12)).toNatClampNeg) p3) 4 ((((4 : Int32) * ((k_w (k_w (k_w (k_w S 1 ((S 0 12).toNatClampNeg) p1) 2 (((k_w S 1 ((S 0 12).toNatClampNeg) p1) 0 12).toNatClampNeg) p2) 3 (((k_w (k_w S 1 ((S 0 12).toNatClampNeg) p1) 2 (((k_w S 1 ((S 0 12).toNatClampNeg) p1) 0 12).toNatClampNeg) p2) 0 12).toNatClampNeg) (0 : Int32)) 4 (((4 : Int32) * ((k_w (k_w (k_w S 1 ((S 0 12).toNatClampNeg) p1) 2 (((k_w S 1 ((S 0 12).toNatClampNeg) p1) 0 12).toNatClampNeg) p2) 3 (((k_w (k_w S 1 ((S 0 12).toNatClampNeg) p1) 2 (((k_w S 1 ((S 0 12).toNatClampNeg) p1) 0 12).toNatClampNeg) p2) 0 12).toNatClampNeg) (0 : Int32)) 0 12)).toNatClampNeg) p3) 0 12)) + (1 : Int32)).toNatClampNeg) p4) 0 12)) + (2 : Int32)).toNatClampNeg) p5) 0 12)) + (3 : Int32)).toNatClampNeg) p6) 0 12) + (1 : Int32))) 14 3 (0 : Int32)) else some S
set_option maxHeartbeats 4000000 in
set_option maxRecDepth 100000 in
theorem mX5_addPerson (l : Launch) (D : va_G) (cs : Nat → ClassId) (a : Nat → Nat) (S : Nat → Nat → Int32) (p1 : Int32) (p2 : Int32) (p3 : Int32) (p4 : Int32) (p5 : Int32) (p6 : Int32) (S9 : (Nat → Nat → Int32)) (hd : nX5_addPerson S p1 p2 p3 p4 p5 p6 = some S9) : ∀ sz : Nat, Met l yX5_addPerson wsX5_addPerson ({ frames := 0, cells := 0, slots := 0, locals := 0 }) (k_Pc D cs [.ref (a 0), .int p1, .int p2, .int p3, .int p4, .int p5, .int p6] (wX5 cs a S) sz) (k_Qv D (wX5 cs a S) (wX5 cs a S9) sz) 0 0 (va_A (wX5 cs a S) sz) := by
  intro sz
  refine Met.ofW (cc := cX5_addPerson) (maxL := 7) (ret := none) (by decide) rfl ?_
  intro p e s m args below meth c s₁ B hml hv
  obtain ⟨rfl, hsz, hP, hK, hD0, hNn⟩ := hv
  have hx := B.exec
  have hb := B.bytes
  have hr := B.returns
  have hts := atoms_spec (ws := wsX5_addPerson) B.pre
  have hown : s.vm.findClass RX5 = some m.cls := findClass_of_methodNamed B.named
  have hlocks := B.notSynchronized
  subst hsz
  obtain ⟨A, hAe⟩ : ∃ A : Nat → Prop, A = va_A (wX5 cs a S) s.heap.size := ⟨_, rfl⟩
  have hD : va_D A (wX5 cs a S) := by rw [hAe]; exact hD0.self
  have hA : ∀ q : Nat, s.heap.size ≤ q → A q := fun q h => by rw [hAe]; exact Or.inr h
  have hS : va_S A s.heap s.heap [] := va_S.rf
  have hDA : ∀ (S : Nat → Nat → Int32), va_D A (wX5 cs a S) := fun S => k_DA hD rfl
  have hl := lv_entry ([.ref (a 0), .int p1, .int p2, .int p3, .int p4, .int p5, .int p6]) (n := 7) (Nat.le_of_ble_eq_true rfl)
  rw [lg_entry_eq]
  generalize (lg_sl ([.ref (a 0), .int p1, .int p2, .int p3, .int p4, .int p5, .int p6]) ++ List.replicate (7 - (lg_sl ([.ref (a 0), .int p1, .int p2, .int p3, .int p4, .int p5, .int p6])).length) Slot.unset).toArray = ls at hl ⊢
  have hl : lv_has ls 7 [(0, .ref (a 0)), (1, .int p1), (2, .int p2), (3, .int p3), (4, .int p4), (5, .int p5), (6, .int p6)] := hl
  obtain ⟨Q, hQ⟩ : ∃ Q, Q = MQ below (k_Qv D (wX5 cs a S) (wX5 cs a S9) s.heap.size) ([.ref (a 0), .int p1, .int p2, .int p3, .int p4, .int p5, .int p6] : List Value).toArray s 0 0 (va_A (wX5 cs a S) s.heap.size) := ⟨_, rfl⟩
  rw [← hQ]
  unfold nX5_addPerson at hd
  refine lv_aload_n hx hb dX5_addPerson_0 rfl (lv_at hl 0 rfl) ?_
  refine va_get (D := D) (ci := 3) (v := .int (S 0 12)) (C := RX5) (T := TX5) (N := 15) hx hb hts (fun w h => List.mem_cons_of_mem _ (List.mem_append_left _ (List.mem_append_right _ h))) hown hK hP 0 rfl rfl 12 (by decide) (hts (.fieldLink RX5 54 "LeastNeed$Valley" "people" "I") (List.mem_of_getElem? (i := 1) rfl)) (fun _ h9 => h9) rfl dX5_addPerson_1 ?_
  refine lv_bipush (v := (7 : Int32)) hx hb dX5_addPerson_4 (by decide) ?_
  refine lv_icmp_lt (tgt := 10) hx hb dX5_addPerson_6 (by decide) (fun c6 => ?_) (fun c6 => ?_)
  · have hd := dn_t c6 hd
    refine lv_aload_n hx hb dX5_addPerson_10 rfl (lv_at hl 0 rfl) ?_
    refine va_get (D := D) (ci := 3) (v := .ref (a 1)) (C := RX5) (T := TX5) (N := 15) hx hb hts (fun w h => List.mem_cons_of_mem _ (List.mem_append_left _ (List.mem_append_right _ h))) hown hK hP 0 rfl rfl 0 (by decide) (hts (.fieldLink RX5 9 "LeastNeed$Valley" "kind" "[I") (List.mem_of_getElem? (i := 2) rfl)) (fun _ h9 => h9) rfl dX5_addPerson_11 ?_
    refine lv_aload_n hx hb dX5_addPerson_14 rfl (lv_at hl 0 rfl) ?_
    refine va_get (D := D) (ci := 3) (v := .int (S 0 12)) (C := RX5) (T := TX5) (N := 15) hx hb hts (fun w h => List.mem_cons_of_mem _ (List.mem_append_left _ (List.mem_append_right _ h))) hown hK hP 0 rfl rfl 12 (by decide) (hts (.fieldLink RX5 54 "LeastNeed$Valley" "people" "I") (List.mem_of_getElem? (i := 1) rfl)) (fun _ h9 => h9) rfl dX5_addPerson_15 ?_
    refine lv_iload_n hx hb dX5_addPerson_18 rfl (lv_at hl 1 rfl) ?_
    obtain ⟨hi19, hd⟩ := dn_i hd
    refine k_iast (D := D) (k := (S 0 12).toNatClampNeg) (by rfl) hx hb hK hP hD hS 1 1 rfl rfl hi19 dX5_addPerson_19 (fun H locs hP hD hS => ?_)
    have hP : va_P D vwCl (wX5 cs a (k_w S 1 ((S 0 12).toNatClampNeg) p1)) _ := k_eq hP (wsX5_a1 cs a S ((S 0 12).toNatClampNeg) p1)
    have hD := hDA (k_w S 1 ((S 0 12).toNatClampNeg) p1)
    refine lv_aload_n hx hb dX5_addPerson_20 rfl (lv_at hl 0 rfl) ?_
    refine va_get (D := D) (ci := 3) (v := .ref (a 2)) (C := RX5) (T := TX5) (N := 15) hx hb hts (fun w h => List.mem_cons_of_mem _ (List.mem_append_left _ (List.mem_append_right _ h))) hown hK hP 0 rfl rfl 1 (by decide) (hts (.fieldLink RX5 15 "LeastNeed$Valley" "house" "[I") (List.mem_of_getElem? (i := 3) rfl)) (fun _ h9 => h9) rfl dX5_addPerson_21 ?_
    refine lv_aload_n hx hb dX5_addPerson_24 rfl (lv_at hl 0 rfl) ?_
    refine va_get (D := D) (ci := 3) (v := .int ((k_w S 1 ((S 0 12).toNatClampNeg) p1) 0 12)) (C := RX5) (T := TX5) (N := 15) hx hb hts (fun w h => List.mem_cons_of_mem _ (List.mem_append_left _ (List.mem_append_right _ h))) hown hK hP 0 rfl rfl 12 (by decide) (hts (.fieldLink RX5 54 "LeastNeed$Valley" "people" "I") (List.mem_of_getElem? (i := 1) rfl)) (fun _ h9 => h9) rfl dX5_addPerson_25 ?_
    refine lv_iload_n hx hb dX5_addPerson_28 rfl (lv_at hl 2 rfl) ?_
    obtain ⟨hi29, hd⟩ := dn_i hd
    refine k_iast (D := D) (k := ((k_w S 1 ((S 0 12).toNatClampNeg) p1) 0 12).toNatClampNeg) (by rfl) hx hb hK hP hD hS 2 1 rfl rfl hi29 dX5_addPerson_29 (fun H locs hP hD hS => ?_)
    have hP : va_P D vwCl (wX5 cs a (k_w (k_w S 1 ((S 0 12).toNatClampNeg) p1) 2 (((k_w S 1 ((S 0 12).toNatClampNeg) p1) 0 12).toNatClampNeg) p2)) _ := k_eq hP (wsX5_a2 cs a (k_w S 1 ((S 0 12).toNatClampNeg) p1) (((k_w S 1 ((S 0 12).toNatClampNeg) p1) 0 12).toNatClampNeg) p2)
    have hD := hDA (k_w (k_w S 1 ((S 0 12).toNatClampNeg) p1) 2 (((k_w S 1 ((S 0 12).toNatClampNeg) p1) 0 12).toNatClampNeg) p2)
    refine lv_aload_n hx hb dX5_addPerson_30 rfl (lv_at hl 0 rfl) ?_
    refine va_get (D := D) (ci := 3) (v := .ref (a 3)) (C := RX5) (T := TX5) (N := 15) hx hb hts (fun w h => List.mem_cons_of_mem _ (List.mem_append_left _ (List.mem_append_right _ h))) hown hK hP 0 rfl rfl 2 (by decide) (hts (.fieldLink RX5 18 "LeastNeed$Valley" "worn" "[I") (List.mem_of_getElem? (i := 4) rfl)) (fun _ h9 => h9) rfl dX5_addPerson_31 ?_
    refine lv_aload_n hx hb dX5_addPerson_34 rfl (lv_at hl 0 rfl) ?_
    refine va_get (D := D) (ci := 3) (v := .int ((k_w (k_w S 1 ((S 0 12).toNatClampNeg) p1) 2 (((k_w S 1 ((S 0 12).toNatClampNeg) p1) 0 12).toNatClampNeg) p2) 0 12)) (C := RX5) (T := TX5) (N := 15) hx hb hts (fun w h => List.mem_cons_of_mem _ (List.mem_append_left _ (List.mem_append_right _ h))) hown hK hP 0 rfl rfl 12 (by decide) (hts (.fieldLink RX5 54 "LeastNeed$Valley" "people" "I") (List.mem_of_getElem? (i := 1) rfl)) (fun _ h9 => h9) rfl dX5_addPerson_35 ?_
    refine lv_iconst (v := (0 : Int32)) hx hb dX5_addPerson_38 (by decide) ?_
    obtain ⟨hi39, hd⟩ := dn_i hd
    refine k_iast (D := D) (k := ((k_w (k_w S 1 ((S 0 12).toNatClampNeg) p1) 2 (((k_w S 1 ((S 0 12).toNatClampNeg) p1) 0 12).toNatClampNeg) p2) 0 12).toNatClampNeg) (by rfl) hx hb hK hP hD hS 3 1 rfl rfl hi39 dX5_addPerson_39 (fun H locs hP hD hS => ?_)
    have hP : va_P D vwCl (wX5 cs a (k_w (k_w (k_w S 1 ((S 0 12).toNatClampNeg) p1) 2 (((k_w S 1 ((S 0 12).toNatClampNeg) p1) 0 12).toNatClampNeg) p2) 3 (((k_w (k_w S 1 ((S 0 12).toNatClampNeg) p1) 2 (((k_w S 1 ((S 0 12).toNatClampNeg) p1) 0 12).toNatClampNeg) p2) 0 12).toNatClampNeg) (0 : Int32))) _ := k_eq hP (wsX5_a3 cs a (k_w (k_w S 1 ((S 0 12).toNatClampNeg) p1) 2 (((k_w S 1 ((S 0 12).toNatClampNeg) p1) 0 12).toNatClampNeg) p2) (((k_w (k_w S 1 ((S 0 12).toNatClampNeg) p1) 2 (((k_w S 1 ((S 0 12).toNatClampNeg) p1) 0 12).toNatClampNeg) p2) 0 12).toNatClampNeg) (0 : Int32))
    have hD := hDA (k_w (k_w (k_w S 1 ((S 0 12).toNatClampNeg) p1) 2 (((k_w S 1 ((S 0 12).toNatClampNeg) p1) 0 12).toNatClampNeg) p2) 3 (((k_w (k_w S 1 ((S 0 12).toNatClampNeg) p1) 2 (((k_w S 1 ((S 0 12).toNatClampNeg) p1) 0 12).toNatClampNeg) p2) 0 12).toNatClampNeg) (0 : Int32))
    refine lv_aload_n hx hb dX5_addPerson_40 rfl (lv_at hl 0 rfl) ?_
    refine va_get (D := D) (ci := 3) (v := .ref (a 4)) (C := RX5) (T := TX5) (N := 15) hx hb hts (fun w h => List.mem_cons_of_mem _ (List.mem_append_left _ (List.mem_append_right _ h))) hown hK hP 0 rfl rfl 3 (by decide) (hts (.fieldLink RX5 21 "LeastNeed$Valley" "need" "[I") (List.mem_of_getElem? (i := 5) rfl)) (fun _ h9 => h9) rfl dX5_addPerson_41 ?_
    refine lv_iconst (v := (4 : Int32)) hx hb dX5_addPerson_44 (by decide) ?_
    refine lv_aload_n hx hb dX5_addPerson_45 rfl (lv_at hl 0 rfl) ?_
    refine va_get (D := D) (ci := 3) (v := .int ((k_w (k_w (k_w S 1 ((S 0 12).toNatClampNeg) p1) 2 (((k_w S 1 ((S 0 12).toNatClampNeg) p1) 0 12).toNatClampNeg) p2) 3 (((k_w (k_w S 1 ((S 0 12).toNatClampNeg) p1) 2 (((k_w S 1 ((S 0 12).toNatClampNeg) p1) 0 12).toNatClampNeg) p2) 0 12).toNatClampNeg) (0 : Int32)) 0 12)) (C := RX5) (T := TX5) (N := 15) hx hb hts (fun w h => List.mem_cons_of_mem _ (List.mem_append_left _ (List.mem_append_right _ h))) hown hK hP 0 rfl rfl 12 (by decide) (hts (.fieldLink RX5 54 "LeastNeed$Valley" "people" "I") (List.mem_of_getElem? (i := 1) rfl)) (fun _ h9 => h9) rfl dX5_addPerson_46 ?_
    refine lv_imul hx hb dX5_addPerson_49 ?_
    refine lv_iload_n hx hb dX5_addPerson_50 rfl (lv_at hl 3 rfl) ?_
    obtain ⟨hi51, hd⟩ := dn_i hd
    refine k_iast (D := D) (k := ((4 : Int32) * ((k_w (k_w (k_w S 1 ((S 0 12).toNatClampNeg) p1) 2 (((k_w S 1 ((S 0 12).toNatClampNeg) p1) 0 12).toNatClampNeg) p2) 3 (((k_w (k_w S 1 ((S 0 12).toNatClampNeg) p1) 2 (((k_w S 1 ((S 0 12).toNatClampNeg) p1) 0 12).toNatClampNeg) p2) 0 12).toNatClampNeg) (0 : Int32)) 0 12)).toNatClampNeg) (by rfl) hx hb hK hP hD hS 4 1 rfl rfl hi51 dX5_addPerson_51 (fun H locs hP hD hS => ?_)
    have hP : va_P D vwCl (wX5 cs a (k_w (k_w (k_w (k_w S 1 ((S 0 12).toNatClampNeg) p1) 2 (((k_w S 1 ((S 0 12).toNatClampNeg) p1) 0 12).toNatClampNeg) p2) 3 (((k_w (k_w S 1 ((S 0 12).toNatClampNeg) p1) 2 (((k_w S 1 ((S 0 12).toNatClampNeg) p1) 0 12).toNatClampNeg) p2) 0 12).toNatClampNeg) (0 : Int32)) 4 (((4 : Int32) * ((k_w (k_w (k_w S 1 ((S 0 12).toNatClampNeg) p1) 2 (((k_w S 1 ((S 0 12).toNatClampNeg) p1) 0 12).toNatClampNeg) p2) 3 (((k_w (k_w S 1 ((S 0 12).toNatClampNeg) p1) 2 (((k_w S 1 ((S 0 12).toNatClampNeg) p1) 0 12).toNatClampNeg) p2) 0 12).toNatClampNeg) (0 : Int32)) 0 12)).toNatClampNeg) p3)) _ := k_eq hP (wsX5_a4 cs a (k_w (k_w (k_w S 1 ((S 0 12).toNatClampNeg) p1) 2 (((k_w S 1 ((S 0 12).toNatClampNeg) p1) 0 12).toNatClampNeg) p2) 3 (((k_w (k_w S 1 ((S 0 12).toNatClampNeg) p1) 2 (((k_w S 1 ((S 0 12).toNatClampNeg) p1) 0 12).toNatClampNeg) p2) 0 12).toNatClampNeg) (0 : Int32)) (((4 : Int32) * ((k_w (k_w (k_w S 1 ((S 0 12).toNatClampNeg) p1) 2 (((k_w S 1 ((S 0 12).toNatClampNeg) p1) 0 12).toNatClampNeg) p2) 3 (((k_w (k_w S 1 ((S 0 12).toNatClampNeg) p1) 2 (((k_w S 1 ((S 0 12).toNatClampNeg) p1) 0 12).toNatClampNeg) p2) 0 12).toNatClampNeg) (0 : Int32)) 0 12)).toNatClampNeg) p3)
    have hD := hDA (k_w (k_w (k_w (k_w S 1 ((S 0 12).toNatClampNeg) p1) 2 (((k_w S 1 ((S 0 12).toNatClampNeg) p1) 0 12).toNatClampNeg) p2) 3 (((k_w (k_w S 1 ((S 0 12).toNatClampNeg) p1) 2 (((k_w S 1 ((S 0 12).toNatClampNeg) p1) 0 12).toNatClampNeg) p2) 0 12).toNatClampNeg) (0 : Int32)) 4 (((4 : Int32) * ((k_w (k_w (k_w S 1 ((S 0 12).toNatClampNeg) p1) 2 (((k_w S 1 ((S 0 12).toNatClampNeg) p1) 0 12).toNatClampNeg) p2) 3 (((k_w (k_w S 1 ((S 0 12).toNatClampNeg) p1) 2 (((k_w S 1 ((S 0 12).toNatClampNeg) p1) 0 12).toNatClampNeg) p2) 0 12).toNatClampNeg) (0 : Int32)) 0 12)).toNatClampNeg) p3)
    refine lv_aload_n hx hb dX5_addPerson_52 rfl (lv_at hl 0 rfl) ?_
    refine va_get (D := D) (ci := 3) (v := .ref (a 4)) (C := RX5) (T := TX5) (N := 15) hx hb hts (fun w h => List.mem_cons_of_mem _ (List.mem_append_left _ (List.mem_append_right _ h))) hown hK hP 0 rfl rfl 3 (by decide) (hts (.fieldLink RX5 21 "LeastNeed$Valley" "need" "[I") (List.mem_of_getElem? (i := 5) rfl)) (fun _ h9 => h9) rfl dX5_addPerson_53 ?_
    refine lv_iconst (v := (4 : Int32)) hx hb dX5_addPerson_56 (by decide) ?_
    refine lv_aload_n hx hb dX5_addPerson_57 rfl (lv_at hl 0 rfl) ?_
    refine va_get (D := D) (ci := 3) (v := .int ((k_w (k_w (k_w (k_w S 1 ((S 0 12).toNatClampNeg) p1) 2 (((k_w S 1 ((S 0 12).toNatClampNeg) p1) 0 12).toNatClampNeg) p2) 3 (((k_w (k_w S 1 ((S 0 12).toNatClampNeg) p1) 2 (((k_w S 1 ((S 0 12).toNatClampNeg) p1) 0 12).toNatClampNeg) p2) 0 12).toNatClampNeg) (0 : Int32)) 4 (((4 : Int32) * ((k_w (k_w (k_w S 1 ((S 0 12).toNatClampNeg) p1) 2 (((k_w S 1 ((S 0 12).toNatClampNeg) p1) 0 12).toNatClampNeg) p2) 3 (((k_w (k_w S 1 ((S 0 12).toNatClampNeg) p1) 2 (((k_w S 1 ((S 0 12).toNatClampNeg) p1) 0 12).toNatClampNeg) p2) 0 12).toNatClampNeg) (0 : Int32)) 0 12)).toNatClampNeg) p3) 0 12)) (C := RX5) (T := TX5) (N := 15) hx hb hts (fun w h => List.mem_cons_of_mem _ (List.mem_append_left _ (List.mem_append_right _ h))) hown hK hP 0 rfl rfl 12 (by decide) (hts (.fieldLink RX5 54 "LeastNeed$Valley" "people" "I") (List.mem_of_getElem? (i := 1) rfl)) (fun _ h9 => h9) rfl dX5_addPerson_58 ?_
    refine lv_imul hx hb dX5_addPerson_61 ?_
    refine lv_iconst (v := (1 : Int32)) hx hb dX5_addPerson_62 (by decide) ?_
    refine lv_iadd hx hb dX5_addPerson_63 ?_
    refine lv_iload hx hb dX5_addPerson_64 (lv_at hl 4 rfl) ?_
    obtain ⟨hi66, hd⟩ := dn_i hd
    refine k_iast (D := D) (k := (((4 : Int32) * ((k_w (k_w (k_w (k_w S 1 ((S 0 12).toNatClampNeg) p1) 2 (((k_w S 1 ((S 0 12).toNatClampNeg) p1) 0 12).toNatClampNeg) p2) 3 (((k_w (k_w S 1 ((S 0 12).toNatClampNeg) p1) 2 (((k_w S 1 ((S 0 12).toNatClampNeg) p1) 0 12).toNatClampNeg) p2) 0 12).toNatClampNeg) (0 : Int32)) 4 (((4 : Int32) * ((k_w (k_w (k_w S 1 ((S 0 12).toNatClampNeg) p1) 2 (((k_w S 1 ((S 0 12).toNatClampNeg) p1) 0 12).toNatClampNeg) p2) 3 (((k_w (k_w S 1 ((S 0 12).toNatClampNeg) p1) 2 (((k_w S 1 ((S 0 12).toNatClampNeg) p1) 0 12).toNatClampNeg) p2) 0 12).toNatClampNeg) (0 : Int32)) 0 12)).toNatClampNeg) p3) 0 12)) + (1 : Int32)).toNatClampNeg) (by rfl) hx hb hK hP hD hS 4 1 rfl rfl hi66 dX5_addPerson_66 (fun H locs hP hD hS => ?_)
    have hP : va_P D vwCl (wX5 cs a (k_w (k_w (k_w (k_w (k_w S 1 ((S 0 12).toNatClampNeg) p1) 2 (((k_w S 1 ((S 0 12).toNatClampNeg) p1) 0 12).toNatClampNeg) p2) 3 (((k_w (k_w S 1 ((S 0 12).toNatClampNeg) p1) 2 (((k_w S 1 ((S 0 12).toNatClampNeg) p1) 0 12).toNatClampNeg) p2) 0 12).toNatClampNeg) (0 : Int32)) 4 (((4 : Int32) * ((k_w (k_w (k_w S 1 ((S 0 12).toNatClampNeg) p1) 2 (((k_w S 1 ((S 0 12).toNatClampNeg) p1) 0 12).toNatClampNeg) p2) 3 (((k_w (k_w S 1 ((S 0 12).toNatClampNeg) p1) 2 (((k_w S 1 ((S 0 12).toNatClampNeg) p1) 0 12).toNatClampNeg) p2) 0 12).toNatClampNeg) (0 : Int32)) 0 12)).toNatClampNeg) p3) 4 ((((4 : Int32) * ((k_w (k_w (k_w (k_w S 1 ((S 0 12).toNatClampNeg) p1) 2 (((k_w S 1 ((S 0 12).toNatClampNeg) p1) 0 12).toNatClampNeg) p2) 3 (((k_w (k_w S 1 ((S 0 12).toNatClampNeg) p1) 2 (((k_w S 1 ((S 0 12).toNatClampNeg) p1) 0 12).toNatClampNeg) p2) 0 12).toNatClampNeg) (0 : Int32)) 4 (((4 : Int32) * ((k_w (k_w (k_w S 1 ((S 0 12).toNatClampNeg) p1) 2 (((k_w S 1 ((S 0 12).toNatClampNeg) p1) 0 12).toNatClampNeg) p2) 3 (((k_w (k_w S 1 ((S 0 12).toNatClampNeg) p1) 2 (((k_w S 1 ((S 0 12).toNatClampNeg) p1) 0 12).toNatClampNeg) p2) 0 12).toNatClampNeg) (0 : Int32)) 0 12)).toNatClampNeg) p3) 0 12)) + (1 : Int32)).toNatClampNeg) p4)) _ := k_eq hP (wsX5_a4 cs a (k_w (k_w (k_w (k_w S 1 ((S 0 12).toNatClampNeg) p1) 2 (((k_w S 1 ((S 0 12).toNatClampNeg) p1) 0 12).toNatClampNeg) p2) 3 (((k_w (k_w S 1 ((S 0 12).toNatClampNeg) p1) 2 (((k_w S 1 ((S 0 12).toNatClampNeg) p1) 0 12).toNatClampNeg) p2) 0 12).toNatClampNeg) (0 : Int32)) 4 (((4 : Int32) * ((k_w (k_w (k_w S 1 ((S 0 12).toNatClampNeg) p1) 2 (((k_w S 1 ((S 0 12).toNatClampNeg) p1) 0 12).toNatClampNeg) p2) 3 (((k_w (k_w S 1 ((S 0 12).toNatClampNeg) p1) 2 (((k_w S 1 ((S 0 12).toNatClampNeg) p1) 0 12).toNatClampNeg) p2) 0 12).toNatClampNeg) (0 : Int32)) 0 12)).toNatClampNeg) p3) ((((4 : Int32) * ((k_w (k_w (k_w (k_w S 1 ((S 0 12).toNatClampNeg) p1) 2 (((k_w S 1 ((S 0 12).toNatClampNeg) p1) 0 12).toNatClampNeg) p2) 3 (((k_w (k_w S 1 ((S 0 12).toNatClampNeg) p1) 2 (((k_w S 1 ((S 0 12).toNatClampNeg) p1) 0 12).toNatClampNeg) p2) 0 12).toNatClampNeg) (0 : Int32)) 4 (((4 : Int32) * ((k_w (k_w (k_w S 1 ((S 0 12).toNatClampNeg) p1) 2 (((k_w S 1 ((S 0 12).toNatClampNeg) p1) 0 12).toNatClampNeg) p2) 3 (((k_w (k_w S 1 ((S 0 12).toNatClampNeg) p1) 2 (((k_w S 1 ((S 0 12).toNatClampNeg) p1) 0 12).toNatClampNeg) p2) 0 12).toNatClampNeg) (0 : Int32)) 0 12)).toNatClampNeg) p3) 0 12)) + (1 : Int32)).toNatClampNeg) p4)
    have hD := hDA (k_w (k_w (k_w (k_w (k_w S 1 ((S 0 12).toNatClampNeg) p1) 2 (((k_w S 1 ((S 0 12).toNatClampNeg) p1) 0 12).toNatClampNeg) p2) 3 (((k_w (k_w S 1 ((S 0 12).toNatClampNeg) p1) 2 (((k_w S 1 ((S 0 12).toNatClampNeg) p1) 0 12).toNatClampNeg) p2) 0 12).toNatClampNeg) (0 : Int32)) 4 (((4 : Int32) * ((k_w (k_w (k_w S 1 ((S 0 12).toNatClampNeg) p1) 2 (((k_w S 1 ((S 0 12).toNatClampNeg) p1) 0 12).toNatClampNeg) p2) 3 (((k_w (k_w S 1 ((S 0 12).toNatClampNeg) p1) 2 (((k_w S 1 ((S 0 12).toNatClampNeg) p1) 0 12).toNatClampNeg) p2) 0 12).toNatClampNeg) (0 : Int32)) 0 12)).toNatClampNeg) p3) 4 ((((4 : Int32) * ((k_w (k_w (k_w (k_w S 1 ((S 0 12).toNatClampNeg) p1) 2 (((k_w S 1 ((S 0 12).toNatClampNeg) p1) 0 12).toNatClampNeg) p2) 3 (((k_w (k_w S 1 ((S 0 12).toNatClampNeg) p1) 2 (((k_w S 1 ((S 0 12).toNatClampNeg) p1) 0 12).toNatClampNeg) p2) 0 12).toNatClampNeg) (0 : Int32)) 4 (((4 : Int32) * ((k_w (k_w (k_w S 1 ((S 0 12).toNatClampNeg) p1) 2 (((k_w S 1 ((S 0 12).toNatClampNeg) p1) 0 12).toNatClampNeg) p2) 3 (((k_w (k_w S 1 ((S 0 12).toNatClampNeg) p1) 2 (((k_w S 1 ((S 0 12).toNatClampNeg) p1) 0 12).toNatClampNeg) p2) 0 12).toNatClampNeg) (0 : Int32)) 0 12)).toNatClampNeg) p3) 0 12)) + (1 : Int32)).toNatClampNeg) p4)
    refine lv_aload_n hx hb dX5_addPerson_67 rfl (lv_at hl 0 rfl) ?_
    refine va_get (D := D) (ci := 3) (v := .ref (a 4)) (C := RX5) (T := TX5) (N := 15) hx hb hts (fun w h => List.mem_cons_of_mem _ (List.mem_append_left _ (List.mem_append_right _ h))) hown hK hP 0 rfl rfl 3 (by decide) (hts (.fieldLink RX5 21 "LeastNeed$Valley" "need" "[I") (List.mem_of_getElem? (i := 5) rfl)) (fun _ h9 => h9) rfl dX5_addPerson_68 ?_
    refine lv_iconst (v := (4 : Int32)) hx hb dX5_addPerson_71 (by decide) ?_
    refine lv_aload_n hx hb dX5_addPerson_72 rfl (lv_at hl 0 rfl) ?_
    refine va_get (D := D) (ci := 3) (v := .int ((k_w (k_w (k_w (k_w (k_w S 1 ((S 0 12).toNatClampNeg) p1) 2 (((k_w S 1 ((S 0 12).toNatClampNeg) p1) 0 12).toNatClampNeg) p2) 3 (((k_w (k_w S 1 ((S 0 12).toNatClampNeg) p1) 2 (((k_w S 1 ((S 0 12).toNatClampNeg) p1) 0 12).toNatClampNeg) p2) 0 12).toNatClampNeg) (0 : Int32)) 4 (((4 : Int32) * ((k_w (k_w (k_w S 1 ((S 0 12).toNatClampNeg) p1) 2 (((k_w S 1 ((S 0 12).toNatClampNeg) p1) 0 12).toNatClampNeg) p2) 3 (((k_w (k_w S 1 ((S 0 12).toNatClampNeg) p1) 2 (((k_w S 1 ((S 0 12).toNatClampNeg) p1) 0 12).toNatClampNeg) p2) 0 12).toNatClampNeg) (0 : Int32)) 0 12)).toNatClampNeg) p3) 4 ((((4 : Int32) * ((k_w (k_w (k_w (k_w S 1 ((S 0 12).toNatClampNeg) p1) 2 (((k_w S 1 ((S 0 12).toNatClampNeg) p1) 0 12).toNatClampNeg) p2) 3 (((k_w (k_w S 1 ((S 0 12).toNatClampNeg) p1) 2 (((k_w S 1 ((S 0 12).toNatClampNeg) p1) 0 12).toNatClampNeg) p2) 0 12).toNatClampNeg) (0 : Int32)) 4 (((4 : Int32) * ((k_w (k_w (k_w S 1 ((S 0 12).toNatClampNeg) p1) 2 (((k_w S 1 ((S 0 12).toNatClampNeg) p1) 0 12).toNatClampNeg) p2) 3 (((k_w (k_w S 1 ((S 0 12).toNatClampNeg) p1) 2 (((k_w S 1 ((S 0 12).toNatClampNeg) p1) 0 12).toNatClampNeg) p2) 0 12).toNatClampNeg) (0 : Int32)) 0 12)).toNatClampNeg) p3) 0 12)) + (1 : Int32)).toNatClampNeg) p4) 0 12)) (C := RX5) (T := TX5) (N := 15) hx hb hts (fun w h => List.mem_cons_of_mem _ (List.mem_append_left _ (List.mem_append_right _ h))) hown hK hP 0 rfl rfl 12 (by decide) (hts (.fieldLink RX5 54 "LeastNeed$Valley" "people" "I") (List.mem_of_getElem? (i := 1) rfl)) (fun _ h9 => h9) rfl dX5_addPerson_73 ?_
    refine lv_imul hx hb dX5_addPerson_76 ?_
    refine lv_iconst (v := (2 : Int32)) hx hb dX5_addPerson_77 (by decide) ?_
    refine lv_iadd hx hb dX5_addPerson_78 ?_
    refine lv_iload hx hb dX5_addPerson_79 (lv_at hl 5 rfl) ?_
    obtain ⟨hi81, hd⟩ := dn_i hd
    refine k_iast (D := D) (k := (((4 : Int32) * ((k_w (k_w (k_w (k_w (k_w S 1 ((S 0 12).toNatClampNeg) p1) 2 (((k_w S 1 ((S 0 12).toNatClampNeg) p1) 0 12).toNatClampNeg) p2) 3 (((k_w (k_w S 1 ((S 0 12).toNatClampNeg) p1) 2 (((k_w S 1 ((S 0 12).toNatClampNeg) p1) 0 12).toNatClampNeg) p2) 0 12).toNatClampNeg) (0 : Int32)) 4 (((4 : Int32) * ((k_w (k_w (k_w S 1 ((S 0 12).toNatClampNeg) p1) 2 (((k_w S 1 ((S 0 12).toNatClampNeg) p1) 0 12).toNatClampNeg) p2) 3 (((k_w (k_w S 1 ((S 0 12).toNatClampNeg) p1) 2 (((k_w S 1 ((S 0 12).toNatClampNeg) p1) 0 12).toNatClampNeg) p2) 0 12).toNatClampNeg) (0 : Int32)) 0 12)).toNatClampNeg) p3) 4 ((((4 : Int32) * ((k_w (k_w (k_w (k_w S 1 ((S 0 12).toNatClampNeg) p1) 2 (((k_w S 1 ((S 0 12).toNatClampNeg) p1) 0 12).toNatClampNeg) p2) 3 (((k_w (k_w S 1 ((S 0 12).toNatClampNeg) p1) 2 (((k_w S 1 ((S 0 12).toNatClampNeg) p1) 0 12).toNatClampNeg) p2) 0 12).toNatClampNeg) (0 : Int32)) 4 (((4 : Int32) * ((k_w (k_w (k_w S 1 ((S 0 12).toNatClampNeg) p1) 2 (((k_w S 1 ((S 0 12).toNatClampNeg) p1) 0 12).toNatClampNeg) p2) 3 (((k_w (k_w S 1 ((S 0 12).toNatClampNeg) p1) 2 (((k_w S 1 ((S 0 12).toNatClampNeg) p1) 0 12).toNatClampNeg) p2) 0 12).toNatClampNeg) (0 : Int32)) 0 12)).toNatClampNeg) p3) 0 12)) + (1 : Int32)).toNatClampNeg) p4) 0 12)) + (2 : Int32)).toNatClampNeg) (by rfl) hx hb hK hP hD hS 4 1 rfl rfl hi81 dX5_addPerson_81 (fun H locs hP hD hS => ?_)
    have hP : va_P D vwCl (wX5 cs a (k_w (k_w (k_w (k_w (k_w (k_w S 1 ((S 0 12).toNatClampNeg) p1) 2 (((k_w S 1 ((S 0 12).toNatClampNeg) p1) 0 12).toNatClampNeg) p2) 3 (((k_w (k_w S 1 ((S 0 12).toNatClampNeg) p1) 2 (((k_w S 1 ((S 0 12).toNatClampNeg) p1) 0 12).toNatClampNeg) p2) 0 12).toNatClampNeg) (0 : Int32)) 4 (((4 : Int32) * ((k_w (k_w (k_w S 1 ((S 0 12).toNatClampNeg) p1) 2 (((k_w S 1 ((S 0 12).toNatClampNeg) p1) 0 12).toNatClampNeg) p2) 3 (((k_w (k_w S 1 ((S 0 12).toNatClampNeg) p1) 2 (((k_w S 1 ((S 0 12).toNatClampNeg) p1) 0 12).toNatClampNeg) p2) 0 12).toNatClampNeg) (0 : Int32)) 0 12)).toNatClampNeg) p3) 4 ((((4 : Int32) * ((k_w (k_w (k_w (k_w S 1 ((S 0 12).toNatClampNeg) p1) 2 (((k_w S 1 ((S 0 12).toNatClampNeg) p1) 0 12).toNatClampNeg) p2) 3 (((k_w (k_w S 1 ((S 0 12).toNatClampNeg) p1) 2 (((k_w S 1 ((S 0 12).toNatClampNeg) p1) 0 12).toNatClampNeg) p2) 0 12).toNatClampNeg) (0 : Int32)) 4 (((4 : Int32) * ((k_w (k_w (k_w S 1 ((S 0 12).toNatClampNeg) p1) 2 (((k_w S 1 ((S 0 12).toNatClampNeg) p1) 0 12).toNatClampNeg) p2) 3 (((k_w (k_w S 1 ((S 0 12).toNatClampNeg) p1) 2 (((k_w S 1 ((S 0 12).toNatClampNeg) p1) 0 12).toNatClampNeg) p2) 0 12).toNatClampNeg) (0 : Int32)) 0 12)).toNatClampNeg) p3) 0 12)) + (1 : Int32)).toNatClampNeg) p4) 4 ((((4 : Int32) * ((k_w (k_w (k_w (k_w (k_w S 1 ((S 0 12).toNatClampNeg) p1) 2 (((k_w S 1 ((S 0 12).toNatClampNeg) p1) 0 12).toNatClampNeg) p2) 3 (((k_w (k_w S 1 ((S 0 12).toNatClampNeg) p1) 2 (((k_w S 1 ((S 0 12).toNatClampNeg) p1) 0 12).toNatClampNeg) p2) 0 12).toNatClampNeg) (0 : Int32)) 4 (((4 : Int32) * ((k_w (k_w (k_w S 1 ((S 0 12).toNatClampNeg) p1) 2 (((k_w S 1 ((S 0 12).toNatClampNeg) p1) 0 12).toNatClampNeg) p2) 3 (((k_w (k_w S 1 ((S 0 12).toNatClampNeg) p1) 2 (((k_w S 1 ((S 0 12).toNatClampNeg) p1) 0 12).toNatClampNeg) p2) 0 12).toNatClampNeg) (0 : Int32)) 0 12)).toNatClampNeg) p3) 4 ((((4 : Int32) * ((k_w (k_w (k_w (k_w S 1 ((S 0 12).toNatClampNeg) p1) 2 (((k_w S 1 ((S 0 12).toNatClampNeg) p1) 0 12).toNatClampNeg) p2) 3 (((k_w (k_w S 1 ((S 0 12).toNatClampNeg) p1) 2 (((k_w S 1 ((S 0 12).toNatClampNeg) p1) 0 12).toNatClampNeg) p2) 0 12).toNatClampNeg) (0 : Int32)) 4 (((4 : Int32) * ((k_w (k_w (k_w S 1 ((S 0 12).toNatClampNeg) p1) 2 (((k_w S 1 ((S 0 12).toNatClampNeg) p1) 0 12).toNatClampNeg) p2) 3 (((k_w (k_w S 1 ((S 0 12).toNatClampNeg) p1) 2 (((k_w S 1 ((S 0 12).toNatClampNeg) p1) 0 12).toNatClampNeg) p2) 0 12).toNatClampNeg) (0 : Int32)) 0 12)).toNatClampNeg) p3) 0 12)) + (1 : Int32)).toNatClampNeg) p4) 0 12)) + (2 : Int32)).toNatClampNeg) p5)) _ := k_eq hP (wsX5_a4 cs a (k_w (k_w (k_w (k_w (k_w S 1 ((S 0 12).toNatClampNeg) p1) 2 (((k_w S 1 ((S 0 12).toNatClampNeg) p1) 0 12).toNatClampNeg) p2) 3 (((k_w (k_w S 1 ((S 0 12).toNatClampNeg) p1) 2 (((k_w S 1 ((S 0 12).toNatClampNeg) p1) 0 12).toNatClampNeg) p2) 0 12).toNatClampNeg) (0 : Int32)) 4 (((4 : Int32) * ((k_w (k_w (k_w S 1 ((S 0 12).toNatClampNeg) p1) 2 (((k_w S 1 ((S 0 12).toNatClampNeg) p1) 0 12).toNatClampNeg) p2) 3 (((k_w (k_w S 1 ((S 0 12).toNatClampNeg) p1) 2 (((k_w S 1 ((S 0 12).toNatClampNeg) p1) 0 12).toNatClampNeg) p2) 0 12).toNatClampNeg) (0 : Int32)) 0 12)).toNatClampNeg) p3) 4 ((((4 : Int32) * ((k_w (k_w (k_w (k_w S 1 ((S 0 12).toNatClampNeg) p1) 2 (((k_w S 1 ((S 0 12).toNatClampNeg) p1) 0 12).toNatClampNeg) p2) 3 (((k_w (k_w S 1 ((S 0 12).toNatClampNeg) p1) 2 (((k_w S 1 ((S 0 12).toNatClampNeg) p1) 0 12).toNatClampNeg) p2) 0 12).toNatClampNeg) (0 : Int32)) 4 (((4 : Int32) * ((k_w (k_w (k_w S 1 ((S 0 12).toNatClampNeg) p1) 2 (((k_w S 1 ((S 0 12).toNatClampNeg) p1) 0 12).toNatClampNeg) p2) 3 (((k_w (k_w S 1 ((S 0 12).toNatClampNeg) p1) 2 (((k_w S 1 ((S 0 12).toNatClampNeg) p1) 0 12).toNatClampNeg) p2) 0 12).toNatClampNeg) (0 : Int32)) 0 12)).toNatClampNeg) p3) 0 12)) + (1 : Int32)).toNatClampNeg) p4) ((((4 : Int32) * ((k_w (k_w (k_w (k_w (k_w S 1 ((S 0 12).toNatClampNeg) p1) 2 (((k_w S 1 ((S 0 12).toNatClampNeg) p1) 0 12).toNatClampNeg) p2) 3 (((k_w (k_w S 1 ((S 0 12).toNatClampNeg) p1) 2 (((k_w S 1 ((S 0 12).toNatClampNeg) p1) 0 12).toNatClampNeg) p2) 0 12).toNatClampNeg) (0 : Int32)) 4 (((4 : Int32) * ((k_w (k_w (k_w S 1 ((S 0 12).toNatClampNeg) p1) 2 (((k_w S 1 ((S 0 12).toNatClampNeg) p1) 0 12).toNatClampNeg) p2) 3 (((k_w (k_w S 1 ((S 0 12).toNatClampNeg) p1) 2 (((k_w S 1 ((S 0 12).toNatClampNeg) p1) 0 12).toNatClampNeg) p2) 0 12).toNatClampNeg) (0 : Int32)) 0 12)).toNatClampNeg) p3) 4 ((((4 : Int32) * ((k_w (k_w (k_w (k_w S 1 ((S 0 12).toNatClampNeg) p1) 2 (((k_w S 1 ((S 0 12).toNatClampNeg) p1) 0 12).toNatClampNeg) p2) 3 (((k_w (k_w S 1 ((S 0 12).toNatClampNeg) p1) 2 (((k_w S 1 ((S 0 12).toNatClampNeg) p1) 0 12).toNatClampNeg) p2) 0 12).toNatClampNeg) (0 : Int32)) 4 (((4 : Int32) * ((k_w (k_w (k_w S 1 ((S 0 12).toNatClampNeg) p1) 2 (((k_w S 1 ((S 0 12).toNatClampNeg) p1) 0 12).toNatClampNeg) p2) 3 (((k_w (k_w S 1 ((S 0 12).toNatClampNeg) p1) 2 (((k_w S 1 ((S 0 12).toNatClampNeg) p1) 0 12).toNatClampNeg) p2) 0 12).toNatClampNeg) (0 : Int32)) 0 12)).toNatClampNeg) p3) 0 12)) + (1 : Int32)).toNatClampNeg) p4) 0 12)) + (2 : Int32)).toNatClampNeg) p5)
    have hD := hDA (k_w (k_w (k_w (k_w (k_w (k_w S 1 ((S 0 12).toNatClampNeg) p1) 2 (((k_w S 1 ((S 0 12).toNatClampNeg) p1) 0 12).toNatClampNeg) p2) 3 (((k_w (k_w S 1 ((S 0 12).toNatClampNeg) p1) 2 (((k_w S 1 ((S 0 12).toNatClampNeg) p1) 0 12).toNatClampNeg) p2) 0 12).toNatClampNeg) (0 : Int32)) 4 (((4 : Int32) * ((k_w (k_w (k_w S 1 ((S 0 12).toNatClampNeg) p1) 2 (((k_w S 1 ((S 0 12).toNatClampNeg) p1) 0 12).toNatClampNeg) p2) 3 (((k_w (k_w S 1 ((S 0 12).toNatClampNeg) p1) 2 (((k_w S 1 ((S 0 12).toNatClampNeg) p1) 0 12).toNatClampNeg) p2) 0 12).toNatClampNeg) (0 : Int32)) 0 12)).toNatClampNeg) p3) 4 ((((4 : Int32) * ((k_w (k_w (k_w (k_w S 1 ((S 0 12).toNatClampNeg) p1) 2 (((k_w S 1 ((S 0 12).toNatClampNeg) p1) 0 12).toNatClampNeg) p2) 3 (((k_w (k_w S 1 ((S 0 12).toNatClampNeg) p1) 2 (((k_w S 1 ((S 0 12).toNatClampNeg) p1) 0 12).toNatClampNeg) p2) 0 12).toNatClampNeg) (0 : Int32)) 4 (((4 : Int32) * ((k_w (k_w (k_w S 1 ((S 0 12).toNatClampNeg) p1) 2 (((k_w S 1 ((S 0 12).toNatClampNeg) p1) 0 12).toNatClampNeg) p2) 3 (((k_w (k_w S 1 ((S 0 12).toNatClampNeg) p1) 2 (((k_w S 1 ((S 0 12).toNatClampNeg) p1) 0 12).toNatClampNeg) p2) 0 12).toNatClampNeg) (0 : Int32)) 0 12)).toNatClampNeg) p3) 0 12)) + (1 : Int32)).toNatClampNeg) p4) 4 ((((4 : Int32) * ((k_w (k_w (k_w (k_w (k_w S 1 ((S 0 12).toNatClampNeg) p1) 2 (((k_w S 1 ((S 0 12).toNatClampNeg) p1) 0 12).toNatClampNeg) p2) 3 (((k_w (k_w S 1 ((S 0 12).toNatClampNeg) p1) 2 (((k_w S 1 ((S 0 12).toNatClampNeg) p1) 0 12).toNatClampNeg) p2) 0 12).toNatClampNeg) (0 : Int32)) 4 (((4 : Int32) * ((k_w (k_w (k_w S 1 ((S 0 12).toNatClampNeg) p1) 2 (((k_w S 1 ((S 0 12).toNatClampNeg) p1) 0 12).toNatClampNeg) p2) 3 (((k_w (k_w S 1 ((S 0 12).toNatClampNeg) p1) 2 (((k_w S 1 ((S 0 12).toNatClampNeg) p1) 0 12).toNatClampNeg) p2) 0 12).toNatClampNeg) (0 : Int32)) 0 12)).toNatClampNeg) p3) 4 ((((4 : Int32) * ((k_w (k_w (k_w (k_w S 1 ((S 0 12).toNatClampNeg) p1) 2 (((k_w S 1 ((S 0 12).toNatClampNeg) p1) 0 12).toNatClampNeg) p2) 3 (((k_w (k_w S 1 ((S 0 12).toNatClampNeg) p1) 2 (((k_w S 1 ((S 0 12).toNatClampNeg) p1) 0 12).toNatClampNeg) p2) 0 12).toNatClampNeg) (0 : Int32)) 4 (((4 : Int32) * ((k_w (k_w (k_w S 1 ((S 0 12).toNatClampNeg) p1) 2 (((k_w S 1 ((S 0 12).toNatClampNeg) p1) 0 12).toNatClampNeg) p2) 3 (((k_w (k_w S 1 ((S 0 12).toNatClampNeg) p1) 2 (((k_w S 1 ((S 0 12).toNatClampNeg) p1) 0 12).toNatClampNeg) p2) 0 12).toNatClampNeg) (0 : Int32)) 0 12)).toNatClampNeg) p3) 0 12)) + (1 : Int32)).toNatClampNeg) p4) 0 12)) + (2 : Int32)).toNatClampNeg) p5)
    refine lv_aload_n hx hb dX5_addPerson_82 rfl (lv_at hl 0 rfl) ?_
    refine va_get (D := D) (ci := 3) (v := .ref (a 4)) (C := RX5) (T := TX5) (N := 15) hx hb hts (fun w h => List.mem_cons_of_mem _ (List.mem_append_left _ (List.mem_append_right _ h))) hown hK hP 0 rfl rfl 3 (by decide) (hts (.fieldLink RX5 21 "LeastNeed$Valley" "need" "[I") (List.mem_of_getElem? (i := 5) rfl)) (fun _ h9 => h9) rfl dX5_addPerson_83 ?_
    refine lv_iconst (v := (4 : Int32)) hx hb dX5_addPerson_86 (by decide) ?_
    refine lv_aload_n hx hb dX5_addPerson_87 rfl (lv_at hl 0 rfl) ?_
    refine va_get (D := D) (ci := 3) (v := .int ((k_w (k_w (k_w (k_w (k_w (k_w S 1 ((S 0 12).toNatClampNeg) p1) 2 (((k_w S 1 ((S 0 12).toNatClampNeg) p1) 0 12).toNatClampNeg) p2) 3 (((k_w (k_w S 1 ((S 0 12).toNatClampNeg) p1) 2 (((k_w S 1 ((S 0 12).toNatClampNeg) p1) 0 12).toNatClampNeg) p2) 0 12).toNatClampNeg) (0 : Int32)) 4 (((4 : Int32) * ((k_w (k_w (k_w S 1 ((S 0 12).toNatClampNeg) p1) 2 (((k_w S 1 ((S 0 12).toNatClampNeg) p1) 0 12).toNatClampNeg) p2) 3 (((k_w (k_w S 1 ((S 0 12).toNatClampNeg) p1) 2 (((k_w S 1 ((S 0 12).toNatClampNeg) p1) 0 12).toNatClampNeg) p2) 0 12).toNatClampNeg) (0 : Int32)) 0 12)).toNatClampNeg) p3) 4 ((((4 : Int32) * ((k_w (k_w (k_w (k_w S 1 ((S 0 12).toNatClampNeg) p1) 2 (((k_w S 1 ((S 0 12).toNatClampNeg) p1) 0 12).toNatClampNeg) p2) 3 (((k_w (k_w S 1 ((S 0 12).toNatClampNeg) p1) 2 (((k_w S 1 ((S 0 12).toNatClampNeg) p1) 0 12).toNatClampNeg) p2) 0 12).toNatClampNeg) (0 : Int32)) 4 (((4 : Int32) * ((k_w (k_w (k_w S 1 ((S 0 12).toNatClampNeg) p1) 2 (((k_w S 1 ((S 0 12).toNatClampNeg) p1) 0 12).toNatClampNeg) p2) 3 (((k_w (k_w S 1 ((S 0 12).toNatClampNeg) p1) 2 (((k_w S 1 ((S 0 12).toNatClampNeg) p1) 0 12).toNatClampNeg) p2) 0 12).toNatClampNeg) (0 : Int32)) 0 12)).toNatClampNeg) p3) 0 12)) + (1 : Int32)).toNatClampNeg) p4) 4 ((((4 : Int32) * ((k_w (k_w (k_w (k_w (k_w S 1 ((S 0 12).toNatClampNeg) p1) 2 (((k_w S 1 ((S 0 12).toNatClampNeg) p1) 0 12).toNatClampNeg) p2) 3 (((k_w (k_w S 1 ((S 0 12).toNatClampNeg) p1) 2 (((k_w S 1 ((S 0 12).toNatClampNeg) p1) 0 12).toNatClampNeg) p2) 0 12).toNatClampNeg) (0 : Int32)) 4 (((4 : Int32) * ((k_w (k_w (k_w S 1 ((S 0 12).toNatClampNeg) p1) 2 (((k_w S 1 ((S 0 12).toNatClampNeg) p1) 0 12).toNatClampNeg) p2) 3 (((k_w (k_w S 1 ((S 0 12).toNatClampNeg) p1) 2 (((k_w S 1 ((S 0 12).toNatClampNeg) p1) 0 12).toNatClampNeg) p2) 0 12).toNatClampNeg) (0 : Int32)) 0 12)).toNatClampNeg) p3) 4 ((((4 : Int32) * ((k_w (k_w (k_w (k_w S 1 ((S 0 12).toNatClampNeg) p1) 2 (((k_w S 1 ((S 0 12).toNatClampNeg) p1) 0 12).toNatClampNeg) p2) 3 (((k_w (k_w S 1 ((S 0 12).toNatClampNeg) p1) 2 (((k_w S 1 ((S 0 12).toNatClampNeg) p1) 0 12).toNatClampNeg) p2) 0 12).toNatClampNeg) (0 : Int32)) 4 (((4 : Int32) * ((k_w (k_w (k_w S 1 ((S 0 12).toNatClampNeg) p1) 2 (((k_w S 1 ((S 0 12).toNatClampNeg) p1) 0 12).toNatClampNeg) p2) 3 (((k_w (k_w S 1 ((S 0 12).toNatClampNeg) p1) 2 (((k_w S 1 ((S 0 12).toNatClampNeg) p1) 0 12).toNatClampNeg) p2) 0 12).toNatClampNeg) (0 : Int32)) 0 12)).toNatClampNeg) p3) 0 12)) + (1 : Int32)).toNatClampNeg) p4) 0 12)) + (2 : Int32)).toNatClampNeg) p5) 0 12)) (C := RX5) (T := TX5) (N := 15) hx hb hts (fun w h => List.mem_cons_of_mem _ (List.mem_append_left _ (List.mem_append_right _ h))) hown hK hP 0 rfl rfl 12 (by decide) (hts (.fieldLink RX5 54 "LeastNeed$Valley" "people" "I") (List.mem_of_getElem? (i := 1) rfl)) (fun _ h9 => h9) rfl dX5_addPerson_88 ?_
    refine lv_imul hx hb dX5_addPerson_91 ?_
    refine lv_iconst (v := (3 : Int32)) hx hb dX5_addPerson_92 (by decide) ?_
    refine lv_iadd hx hb dX5_addPerson_93 ?_
    refine lv_iload hx hb dX5_addPerson_94 (lv_at hl 6 rfl) ?_
    obtain ⟨hi96, hd⟩ := dn_i hd
    refine k_iast (D := D) (k := (((4 : Int32) * ((k_w (k_w (k_w (k_w (k_w (k_w S 1 ((S 0 12).toNatClampNeg) p1) 2 (((k_w S 1 ((S 0 12).toNatClampNeg) p1) 0 12).toNatClampNeg) p2) 3 (((k_w (k_w S 1 ((S 0 12).toNatClampNeg) p1) 2 (((k_w S 1 ((S 0 12).toNatClampNeg) p1) 0 12).toNatClampNeg) p2) 0 12).toNatClampNeg) (0 : Int32)) 4 (((4 : Int32) * ((k_w (k_w (k_w S 1 ((S 0 12).toNatClampNeg) p1) 2 (((k_w S 1 ((S 0 12).toNatClampNeg) p1) 0 12).toNatClampNeg) p2) 3 (((k_w (k_w S 1 ((S 0 12).toNatClampNeg) p1) 2 (((k_w S 1 ((S 0 12).toNatClampNeg) p1) 0 12).toNatClampNeg) p2) 0 12).toNatClampNeg) (0 : Int32)) 0 12)).toNatClampNeg) p3) 4 ((((4 : Int32) * ((k_w (k_w (k_w (k_w S 1 ((S 0 12).toNatClampNeg) p1) 2 (((k_w S 1 ((S 0 12).toNatClampNeg) p1) 0 12).toNatClampNeg) p2) 3 (((k_w (k_w S 1 ((S 0 12).toNatClampNeg) p1) 2 (((k_w S 1 ((S 0 12).toNatClampNeg) p1) 0 12).toNatClampNeg) p2) 0 12).toNatClampNeg) (0 : Int32)) 4 (((4 : Int32) * ((k_w (k_w (k_w S 1 ((S 0 12).toNatClampNeg) p1) 2 (((k_w S 1 ((S 0 12).toNatClampNeg) p1) 0 12).toNatClampNeg) p2) 3 (((k_w (k_w S 1 ((S 0 12).toNatClampNeg) p1) 2 (((k_w S 1 ((S 0 12).toNatClampNeg) p1) 0 12).toNatClampNeg) p2) 0 12).toNatClampNeg) (0 : Int32)) 0 12)).toNatClampNeg) p3) 0 12)) + (1 : Int32)).toNatClampNeg) p4) 4 ((((4 : Int32) * ((k_w (k_w (k_w (k_w (k_w S 1 ((S 0 12).toNatClampNeg) p1) 2 (((k_w S 1 ((S 0 12).toNatClampNeg) p1) 0 12).toNatClampNeg) p2) 3 (((k_w (k_w S 1 ((S 0 12).toNatClampNeg) p1) 2 (((k_w S 1 ((S 0 12).toNatClampNeg) p1) 0 12).toNatClampNeg) p2) 0 12).toNatClampNeg) (0 : Int32)) 4 (((4 : Int32) * ((k_w (k_w (k_w S 1 ((S 0 12).toNatClampNeg) p1) 2 (((k_w S 1 ((S 0 12).toNatClampNeg) p1) 0 12).toNatClampNeg) p2) 3 (((k_w (k_w S 1 ((S 0 12).toNatClampNeg) p1) 2 (((k_w S 1 ((S 0 12).toNatClampNeg) p1) 0 12).toNatClampNeg) p2) 0 12).toNatClampNeg) (0 : Int32)) 0 12)).toNatClampNeg) p3) 4 ((((4 : Int32) * ((k_w (k_w (k_w (k_w S 1 ((S 0 12).toNatClampNeg) p1) 2 (((k_w S 1 ((S 0 12).toNatClampNeg) p1) 0 12).toNatClampNeg) p2) 3 (((k_w (k_w S 1 ((S 0 12).toNatClampNeg) p1) 2 (((k_w S 1 ((S 0 12).toNatClampNeg) p1) 0 12).toNatClampNeg) p2) 0 12).toNatClampNeg) (0 : Int32)) 4 (((4 : Int32) * ((k_w (k_w (k_w S 1 ((S 0 12).toNatClampNeg) p1) 2 (((k_w S 1 ((S 0 12).toNatClampNeg) p1) 0 12).toNatClampNeg) p2) 3 (((k_w (k_w S 1 ((S 0 12).toNatClampNeg) p1) 2 (((k_w S 1 ((S 0 12).toNatClampNeg) p1) 0 12).toNatClampNeg) p2) 0 12).toNatClampNeg) (0 : Int32)) 0 12)).toNatClampNeg) p3) 0 12)) + (1 : Int32)).toNatClampNeg) p4) 0 12)) + (2 : Int32)).toNatClampNeg) p5) 0 12)) + (3 : Int32)).toNatClampNeg) (by rfl) hx hb hK hP hD hS 4 1 rfl rfl hi96 dX5_addPerson_96 (fun H locs hP hD hS => ?_)
    have hP : va_P D vwCl (wX5 cs a (k_w (k_w (k_w (k_w (k_w (k_w (k_w S 1 ((S 0 12).toNatClampNeg) p1) 2 (((k_w S 1 ((S 0 12).toNatClampNeg) p1) 0 12).toNatClampNeg) p2) 3 (((k_w (k_w S 1 ((S 0 12).toNatClampNeg) p1) 2 (((k_w S 1 ((S 0 12).toNatClampNeg) p1) 0 12).toNatClampNeg) p2) 0 12).toNatClampNeg) (0 : Int32)) 4 (((4 : Int32) * ((k_w (k_w (k_w S 1 ((S 0 12).toNatClampNeg) p1) 2 (((k_w S 1 ((S 0 12).toNatClampNeg) p1) 0 12).toNatClampNeg) p2) 3 (((k_w (k_w S 1 ((S 0 12).toNatClampNeg) p1) 2 (((k_w S 1 ((S 0 12).toNatClampNeg) p1) 0 12).toNatClampNeg) p2) 0 12).toNatClampNeg) (0 : Int32)) 0 12)).toNatClampNeg) p3) 4 ((((4 : Int32) * ((k_w (k_w (k_w (k_w S 1 ((S 0 12).toNatClampNeg) p1) 2 (((k_w S 1 ((S 0 12).toNatClampNeg) p1) 0 12).toNatClampNeg) p2) 3 (((k_w (k_w S 1 ((S 0 12).toNatClampNeg) p1) 2 (((k_w S 1 ((S 0 12).toNatClampNeg) p1) 0 12).toNatClampNeg) p2) 0 12).toNatClampNeg) (0 : Int32)) 4 (((4 : Int32) * ((k_w (k_w (k_w S 1 ((S 0 12).toNatClampNeg) p1) 2 (((k_w S 1 ((S 0 12).toNatClampNeg) p1) 0 12).toNatClampNeg) p2) 3 (((k_w (k_w S 1 ((S 0 12).toNatClampNeg) p1) 2 (((k_w S 1 ((S 0 12).toNatClampNeg) p1) 0 12).toNatClampNeg) p2) 0 12).toNatClampNeg) (0 : Int32)) 0 12)).toNatClampNeg) p3) 0 12)) + (1 : Int32)).toNatClampNeg) p4) 4 ((((4 : Int32) * ((k_w (k_w (k_w (k_w (k_w S 1 ((S 0 12).toNatClampNeg) p1) 2 (((k_w S 1 ((S 0 12).toNatClampNeg) p1) 0 12).toNatClampNeg) p2) 3 (((k_w (k_w S 1 ((S 0 12).toNatClampNeg) p1) 2 (((k_w S 1 ((S 0 12).toNatClampNeg) p1) 0 12).toNatClampNeg) p2) 0 12).toNatClampNeg) (0 : Int32)) 4 (((4 : Int32) * ((k_w (k_w (k_w S 1 ((S 0 12).toNatClampNeg) p1) 2 (((k_w S 1 ((S 0 12).toNatClampNeg) p1) 0 12).toNatClampNeg) p2) 3 (((k_w (k_w S 1 ((S 0 12).toNatClampNeg) p1) 2 (((k_w S 1 ((S 0 12).toNatClampNeg) p1) 0 12).toNatClampNeg) p2) 0 12).toNatClampNeg) (0 : Int32)) 0 12)).toNatClampNeg) p3) 4 ((((4 : Int32) * ((k_w (k_w (k_w (k_w S 1 ((S 0 12).toNatClampNeg) p1) 2 (((k_w S 1 ((S 0 12).toNatClampNeg) p1) 0 12).toNatClampNeg) p2) 3 (((k_w (k_w S 1 ((S 0 12).toNatClampNeg) p1) 2 (((k_w S 1 ((S 0 12).toNatClampNeg) p1) 0 12).toNatClampNeg) p2) 0 12).toNatClampNeg) (0 : Int32)) 4 (((4 : Int32) * ((k_w (k_w (k_w S 1 ((S 0 12).toNatClampNeg) p1) 2 (((k_w S 1 ((S 0 12).toNatClampNeg) p1) 0 12).toNatClampNeg) p2) 3 (((k_w (k_w S 1 ((S 0 12).toNatClampNeg) p1) 2 (((k_w S 1 ((S 0 12).toNatClampNeg) p1) 0 12).toNatClampNeg) p2) 0 12).toNatClampNeg) (0 : Int32)) 0 12)).toNatClampNeg) p3) 0 12)) + (1 : Int32)).toNatClampNeg) p4) 0 12)) + (2 : Int32)).toNatClampNeg) p5) 4 ((((4 : Int32) * ((k_w (k_w (k_w (k_w (k_w (k_w S 1 ((S 0 12).toNatClampNeg) p1) 2 (((k_w S 1 ((S 0 12).toNatClampNeg) p1) 0 12).toNatClampNeg) p2) 3 (((k_w (k_w S 1 ((S 0 12).toNatClampNeg) p1) 2 (((k_w S 1 ((S 0 12).toNatClampNeg) p1) 0 12).toNatClampNeg) p2) 0 12).toNatClampNeg) (0 : Int32)) 4 (((4 : Int32) * ((k_w (k_w (k_w S 1 ((S 0 12).toNatClampNeg) p1) 2 (((k_w S 1 ((S 0 12).toNatClampNeg) p1) 0 12).toNatClampNeg) p2) 3 (((k_w (k_w S 1 ((S 0 12).toNatClampNeg) p1) 2 (((k_w S 1 ((S 0 12).toNatClampNeg) p1) 0 12).toNatClampNeg) p2) 0 12).toNatClampNeg) (0 : Int32)) 0 12)).toNatClampNeg) p3) 4 ((((4 : Int32) * ((k_w (k_w (k_w (k_w S 1 ((S 0 12).toNatClampNeg) p1) 2 (((k_w S 1 ((S 0 12).toNatClampNeg) p1) 0 12).toNatClampNeg) p2) 3 (((k_w (k_w S 1 ((S 0 12).toNatClampNeg) p1) 2 (((k_w S 1 ((S 0 12).toNatClampNeg) p1) 0 12).toNatClampNeg) p2) 0 12).toNatClampNeg) (0 : Int32)) 4 (((4 : Int32) * ((k_w (k_w (k_w S 1 ((S 0 12).toNatClampNeg) p1) 2 (((k_w S 1 ((S 0 12).toNatClampNeg) p1) 0 12).toNatClampNeg) p2) 3 (((k_w (k_w S 1 ((S 0 12).toNatClampNeg) p1) 2 (((k_w S 1 ((S 0 12).toNatClampNeg) p1) 0 12).toNatClampNeg) p2) 0 12).toNatClampNeg) (0 : Int32)) 0 12)).toNatClampNeg) p3) 0 12)) + (1 : Int32)).toNatClampNeg) p4) 4 ((((4 : Int32) * ((k_w (k_w (k_w (k_w (k_w S 1 ((S 0 12).toNatClampNeg) p1) 2 (((k_w S 1 ((S 0 12).toNatClampNeg) p1) 0 12).toNatClampNeg) p2) 3 (((k_w (k_w S 1 ((S 0 12).toNatClampNeg) p1) 2 (((k_w S 1 ((S 0 12).toNatClampNeg) p1) 0 12).toNatClampNeg) p2) 0 12).toNatClampNeg) (0 : Int32)) 4 (((4 : Int32) * ((k_w (k_w (k_w S 1 ((S 0 12).toNatClampNeg) p1) 2 (((k_w S 1 ((S 0 12).toNatClampNeg) p1) 0 12).toNatClampNeg) p2) 3 (((k_w (k_w S 1 ((S 0 12).toNatClampNeg) p1) 2 (((k_w S 1 ((S 0 12).toNatClampNeg) p1) 0 12).toNatClampNeg) p2) 0 12).toNatClampNeg) (0 : Int32)) 0 12)).toNatClampNeg) p3) 4 ((((4 : Int32) * ((k_w (k_w (k_w (k_w S 1 ((S 0 12).toNatClampNeg) p1) 2 (((k_w S 1 ((S 0 12).toNatClampNeg) p1) 0 12).toNatClampNeg) p2) 3 (((k_w (k_w S 1 ((S 0 12).toNatClampNeg) p1) 2 (((k_w S 1 ((S 0 12).toNatClampNeg) p1) 0 12).toNatClampNeg) p2) 0 12).toNatClampNeg) (0 : Int32)) 4 (((4 : Int32) * ((k_w (k_w (k_w S 1 ((S 0 12).toNatClampNeg) p1) 2 (((k_w S 1 ((S 0 12).toNatClampNeg) p1) 0 12).toNatClampNeg) p2) 3 (((k_w (k_w S 1 ((S 0 12).toNatClampNeg) p1) 2 (((k_w S 1 ((S 0 12).toNatClampNeg) p1) 0 12).toNatClampNeg) p2) 0 12).toNatClampNeg) (0 : Int32)) 0 12)).toNatClampNeg) p3) 0 12)) + (1 : Int32)).toNatClampNeg) p4) 0 12)) + (2 : Int32)).toNatClampNeg) p5) 0 12)) + (3 : Int32)).toNatClampNeg) p6)) _ := k_eq hP (wsX5_a4 cs a (k_w (k_w (k_w (k_w (k_w (k_w S 1 ((S 0 12).toNatClampNeg) p1) 2 (((k_w S 1 ((S 0 12).toNatClampNeg) p1) 0 12).toNatClampNeg) p2) 3 (((k_w (k_w S 1 ((S 0 12).toNatClampNeg) p1) 2 (((k_w S 1 ((S 0 12).toNatClampNeg) p1) 0 12).toNatClampNeg) p2) 0 12).toNatClampNeg) (0 : Int32)) 4 (((4 : Int32) * ((k_w (k_w (k_w S 1 ((S 0 12).toNatClampNeg) p1) 2 (((k_w S 1 ((S 0 12).toNatClampNeg) p1) 0 12).toNatClampNeg) p2) 3 (((k_w (k_w S 1 ((S 0 12).toNatClampNeg) p1) 2 (((k_w S 1 ((S 0 12).toNatClampNeg) p1) 0 12).toNatClampNeg) p2) 0 12).toNatClampNeg) (0 : Int32)) 0 12)).toNatClampNeg) p3) 4 ((((4 : Int32) * ((k_w (k_w (k_w (k_w S 1 ((S 0 12).toNatClampNeg) p1) 2 (((k_w S 1 ((S 0 12).toNatClampNeg) p1) 0 12).toNatClampNeg) p2) 3 (((k_w (k_w S 1 ((S 0 12).toNatClampNeg) p1) 2 (((k_w S 1 ((S 0 12).toNatClampNeg) p1) 0 12).toNatClampNeg) p2) 0 12).toNatClampNeg) (0 : Int32)) 4 (((4 : Int32) * ((k_w (k_w (k_w S 1 ((S 0 12).toNatClampNeg) p1) 2 (((k_w S 1 ((S 0 12).toNatClampNeg) p1) 0 12).toNatClampNeg) p2) 3 (((k_w (k_w S 1 ((S 0 12).toNatClampNeg) p1) 2 (((k_w S 1 ((S 0 12).toNatClampNeg) p1) 0 12).toNatClampNeg) p2) 0 12).toNatClampNeg) (0 : Int32)) 0 12)).toNatClampNeg) p3) 0 12)) + (1 : Int32)).toNatClampNeg) p4) 4 ((((4 : Int32) * ((k_w (k_w (k_w (k_w (k_w S 1 ((S 0 12).toNatClampNeg) p1) 2 (((k_w S 1 ((S 0 12).toNatClampNeg) p1) 0 12).toNatClampNeg) p2) 3 (((k_w (k_w S 1 ((S 0 12).toNatClampNeg) p1) 2 (((k_w S 1 ((S 0 12).toNatClampNeg) p1) 0 12).toNatClampNeg) p2) 0 12).toNatClampNeg) (0 : Int32)) 4 (((4 : Int32) * ((k_w (k_w (k_w S 1 ((S 0 12).toNatClampNeg) p1) 2 (((k_w S 1 ((S 0 12).toNatClampNeg) p1) 0 12).toNatClampNeg) p2) 3 (((k_w (k_w S 1 ((S 0 12).toNatClampNeg) p1) 2 (((k_w S 1 ((S 0 12).toNatClampNeg) p1) 0 12).toNatClampNeg) p2) 0 12).toNatClampNeg) (0 : Int32)) 0 12)).toNatClampNeg) p3) 4 ((((4 : Int32) * ((k_w (k_w (k_w (k_w S 1 ((S 0 12).toNatClampNeg) p1) 2 (((k_w S 1 ((S 0 12).toNatClampNeg) p1) 0 12).toNatClampNeg) p2) 3 (((k_w (k_w S 1 ((S 0 12).toNatClampNeg) p1) 2 (((k_w S 1 ((S 0 12).toNatClampNeg) p1) 0 12).toNatClampNeg) p2) 0 12).toNatClampNeg) (0 : Int32)) 4 (((4 : Int32) * ((k_w (k_w (k_w S 1 ((S 0 12).toNatClampNeg) p1) 2 (((k_w S 1 ((S 0 12).toNatClampNeg) p1) 0 12).toNatClampNeg) p2) 3 (((k_w (k_w S 1 ((S 0 12).toNatClampNeg) p1) 2 (((k_w S 1 ((S 0 12).toNatClampNeg) p1) 0 12).toNatClampNeg) p2) 0 12).toNatClampNeg) (0 : Int32)) 0 12)).toNatClampNeg) p3) 0 12)) + (1 : Int32)).toNatClampNeg) p4) 0 12)) + (2 : Int32)).toNatClampNeg) p5) ((((4 : Int32) * ((k_w (k_w (k_w (k_w (k_w (k_w S 1 ((S 0 12).toNatClampNeg) p1) 2 (((k_w S 1 ((S 0 12).toNatClampNeg) p1) 0 12).toNatClampNeg) p2) 3 (((k_w (k_w S 1 ((S 0 12).toNatClampNeg) p1) 2 (((k_w S 1 ((S 0 12).toNatClampNeg) p1) 0 12).toNatClampNeg) p2) 0 12).toNatClampNeg) (0 : Int32)) 4 (((4 : Int32) * ((k_w (k_w (k_w S 1 ((S 0 12).toNatClampNeg) p1) 2 (((k_w S 1 ((S 0 12).toNatClampNeg) p1) 0 12).toNatClampNeg) p2) 3 (((k_w (k_w S 1 ((S 0 12).toNatClampNeg) p1) 2 (((k_w S 1 ((S 0 12).toNatClampNeg) p1) 0 12).toNatClampNeg) p2) 0 12).toNatClampNeg) (0 : Int32)) 0 12)).toNatClampNeg) p3) 4 ((((4 : Int32) * ((k_w (k_w (k_w (k_w S 1 ((S 0 12).toNatClampNeg) p1) 2 (((k_w S 1 ((S 0 12).toNatClampNeg) p1) 0 12).toNatClampNeg) p2) 3 (((k_w (k_w S 1 ((S 0 12).toNatClampNeg) p1) 2 (((k_w S 1 ((S 0 12).toNatClampNeg) p1) 0 12).toNatClampNeg) p2) 0 12).toNatClampNeg) (0 : Int32)) 4 (((4 : Int32) * ((k_w (k_w (k_w S 1 ((S 0 12).toNatClampNeg) p1) 2 (((k_w S 1 ((S 0 12).toNatClampNeg) p1) 0 12).toNatClampNeg) p2) 3 (((k_w (k_w S 1 ((S 0 12).toNatClampNeg) p1) 2 (((k_w S 1 ((S 0 12).toNatClampNeg) p1) 0 12).toNatClampNeg) p2) 0 12).toNatClampNeg) (0 : Int32)) 0 12)).toNatClampNeg) p3) 0 12)) + (1 : Int32)).toNatClampNeg) p4) 4 ((((4 : Int32) * ((k_w (k_w (k_w (k_w (k_w S 1 ((S 0 12).toNatClampNeg) p1) 2 (((k_w S 1 ((S 0 12).toNatClampNeg) p1) 0 12).toNatClampNeg) p2) 3 (((k_w (k_w S 1 ((S 0 12).toNatClampNeg) p1) 2 (((k_w S 1 ((S 0 12).toNatClampNeg) p1) 0 12).toNatClampNeg) p2) 0 12).toNatClampNeg) (0 : Int32)) 4 (((4 : Int32) * ((k_w (k_w (k_w S 1 ((S 0 12).toNatClampNeg) p1) 2 (((k_w S 1 ((S 0 12).toNatClampNeg) p1) 0 12).toNatClampNeg) p2) 3 (((k_w (k_w S 1 ((S 0 12).toNatClampNeg) p1) 2 (((k_w S 1 ((S 0 12).toNatClampNeg) p1) 0 12).toNatClampNeg) p2) 0 12).toNatClampNeg) (0 : Int32)) 0 12)).toNatClampNeg) p3) 4 ((((4 : Int32) * ((k_w (k_w (k_w (k_w S 1 ((S 0 12).toNatClampNeg) p1) 2 (((k_w S 1 ((S 0 12).toNatClampNeg) p1) 0 12).toNatClampNeg) p2) 3 (((k_w (k_w S 1 ((S 0 12).toNatClampNeg) p1) 2 (((k_w S 1 ((S 0 12).toNatClampNeg) p1) 0 12).toNatClampNeg) p2) 0 12).toNatClampNeg) (0 : Int32)) 4 (((4 : Int32) * ((k_w (k_w (k_w S 1 ((S 0 12).toNatClampNeg) p1) 2 (((k_w S 1 ((S 0 12).toNatClampNeg) p1) 0 12).toNatClampNeg) p2) 3 (((k_w (k_w S 1 ((S 0 12).toNatClampNeg) p1) 2 (((k_w S 1 ((S 0 12).toNatClampNeg) p1) 0 12).toNatClampNeg) p2) 0 12).toNatClampNeg) (0 : Int32)) 0 12)).toNatClampNeg) p3) 0 12)) + (1 : Int32)).toNatClampNeg) p4) 0 12)) + (2 : Int32)).toNatClampNeg) p5) 0 12)) + (3 : Int32)).toNatClampNeg) p6)
    have hD := hDA (k_w (k_w (k_w (k_w (k_w (k_w (k_w S 1 ((S 0 12).toNatClampNeg) p1) 2 (((k_w S 1 ((S 0 12).toNatClampNeg) p1) 0 12).toNatClampNeg) p2) 3 (((k_w (k_w S 1 ((S 0 12).toNatClampNeg) p1) 2 (((k_w S 1 ((S 0 12).toNatClampNeg) p1) 0 12).toNatClampNeg) p2) 0 12).toNatClampNeg) (0 : Int32)) 4 (((4 : Int32) * ((k_w (k_w (k_w S 1 ((S 0 12).toNatClampNeg) p1) 2 (((k_w S 1 ((S 0 12).toNatClampNeg) p1) 0 12).toNatClampNeg) p2) 3 (((k_w (k_w S 1 ((S 0 12).toNatClampNeg) p1) 2 (((k_w S 1 ((S 0 12).toNatClampNeg) p1) 0 12).toNatClampNeg) p2) 0 12).toNatClampNeg) (0 : Int32)) 0 12)).toNatClampNeg) p3) 4 ((((4 : Int32) * ((k_w (k_w (k_w (k_w S 1 ((S 0 12).toNatClampNeg) p1) 2 (((k_w S 1 ((S 0 12).toNatClampNeg) p1) 0 12).toNatClampNeg) p2) 3 (((k_w (k_w S 1 ((S 0 12).toNatClampNeg) p1) 2 (((k_w S 1 ((S 0 12).toNatClampNeg) p1) 0 12).toNatClampNeg) p2) 0 12).toNatClampNeg) (0 : Int32)) 4 (((4 : Int32) * ((k_w (k_w (k_w S 1 ((S 0 12).toNatClampNeg) p1) 2 (((k_w S 1 ((S 0 12).toNatClampNeg) p1) 0 12).toNatClampNeg) p2) 3 (((k_w (k_w S 1 ((S 0 12).toNatClampNeg) p1) 2 (((k_w S 1 ((S 0 12).toNatClampNeg) p1) 0 12).toNatClampNeg) p2) 0 12).toNatClampNeg) (0 : Int32)) 0 12)).toNatClampNeg) p3) 0 12)) + (1 : Int32)).toNatClampNeg) p4) 4 ((((4 : Int32) * ((k_w (k_w (k_w (k_w (k_w S 1 ((S 0 12).toNatClampNeg) p1) 2 (((k_w S 1 ((S 0 12).toNatClampNeg) p1) 0 12).toNatClampNeg) p2) 3 (((k_w (k_w S 1 ((S 0 12).toNatClampNeg) p1) 2 (((k_w S 1 ((S 0 12).toNatClampNeg) p1) 0 12).toNatClampNeg) p2) 0 12).toNatClampNeg) (0 : Int32)) 4 (((4 : Int32) * ((k_w (k_w (k_w S 1 ((S 0 12).toNatClampNeg) p1) 2 (((k_w S 1 ((S 0 12).toNatClampNeg) p1) 0 12).toNatClampNeg) p2) 3 (((k_w (k_w S 1 ((S 0 12).toNatClampNeg) p1) 2 (((k_w S 1 ((S 0 12).toNatClampNeg) p1) 0 12).toNatClampNeg) p2) 0 12).toNatClampNeg) (0 : Int32)) 0 12)).toNatClampNeg) p3) 4 ((((4 : Int32) * ((k_w (k_w (k_w (k_w S 1 ((S 0 12).toNatClampNeg) p1) 2 (((k_w S 1 ((S 0 12).toNatClampNeg) p1) 0 12).toNatClampNeg) p2) 3 (((k_w (k_w S 1 ((S 0 12).toNatClampNeg) p1) 2 (((k_w S 1 ((S 0 12).toNatClampNeg) p1) 0 12).toNatClampNeg) p2) 0 12).toNatClampNeg) (0 : Int32)) 4 (((4 : Int32) * ((k_w (k_w (k_w S 1 ((S 0 12).toNatClampNeg) p1) 2 (((k_w S 1 ((S 0 12).toNatClampNeg) p1) 0 12).toNatClampNeg) p2) 3 (((k_w (k_w S 1 ((S 0 12).toNatClampNeg) p1) 2 (((k_w S 1 ((S 0 12).toNatClampNeg) p1) 0 12).toNatClampNeg) p2) 0 12).toNatClampNeg) (0 : Int32)) 0 12)).toNatClampNeg) p3) 0 12)) + (1 : Int32)).toNatClampNeg) p4) 0 12)) + (2 : Int32)).toNatClampNeg) p5) 4 ((((4 : Int32) * ((k_w (k_w (k_w (k_w (k_w (k_w S 1 ((S 0 12).toNatClampNeg) p1) 2 (((k_w S 1 ((S 0 12).toNatClampNeg) p1) 0 12).toNatClampNeg) p2) 3 (((k_w (k_w S 1 ((S 0 12).toNatClampNeg) p1) 2 (((k_w S 1 ((S 0 12).toNatClampNeg) p1) 0 12).toNatClampNeg) p2) 0 12).toNatClampNeg) (0 : Int32)) 4 (((4 : Int32) * ((k_w (k_w (k_w S 1 ((S 0 12).toNatClampNeg) p1) 2 (((k_w S 1 ((S 0 12).toNatClampNeg) p1) 0 12).toNatClampNeg) p2) 3 (((k_w (k_w S 1 ((S 0 12).toNatClampNeg) p1) 2 (((k_w S 1 ((S 0 12).toNatClampNeg) p1) 0 12).toNatClampNeg) p2) 0 12).toNatClampNeg) (0 : Int32)) 0 12)).toNatClampNeg) p3) 4 ((((4 : Int32) * ((k_w (k_w (k_w (k_w S 1 ((S 0 12).toNatClampNeg) p1) 2 (((k_w S 1 ((S 0 12).toNatClampNeg) p1) 0 12).toNatClampNeg) p2) 3 (((k_w (k_w S 1 ((S 0 12).toNatClampNeg) p1) 2 (((k_w S 1 ((S 0 12).toNatClampNeg) p1) 0 12).toNatClampNeg) p2) 0 12).toNatClampNeg) (0 : Int32)) 4 (((4 : Int32) * ((k_w (k_w (k_w S 1 ((S 0 12).toNatClampNeg) p1) 2 (((k_w S 1 ((S 0 12).toNatClampNeg) p1) 0 12).toNatClampNeg) p2) 3 (((k_w (k_w S 1 ((S 0 12).toNatClampNeg) p1) 2 (((k_w S 1 ((S 0 12).toNatClampNeg) p1) 0 12).toNatClampNeg) p2) 0 12).toNatClampNeg) (0 : Int32)) 0 12)).toNatClampNeg) p3) 0 12)) + (1 : Int32)).toNatClampNeg) p4) 4 ((((4 : Int32) * ((k_w (k_w (k_w (k_w (k_w S 1 ((S 0 12).toNatClampNeg) p1) 2 (((k_w S 1 ((S 0 12).toNatClampNeg) p1) 0 12).toNatClampNeg) p2) 3 (((k_w (k_w S 1 ((S 0 12).toNatClampNeg) p1) 2 (((k_w S 1 ((S 0 12).toNatClampNeg) p1) 0 12).toNatClampNeg) p2) 0 12).toNatClampNeg) (0 : Int32)) 4 (((4 : Int32) * ((k_w (k_w (k_w S 1 ((S 0 12).toNatClampNeg) p1) 2 (((k_w S 1 ((S 0 12).toNatClampNeg) p1) 0 12).toNatClampNeg) p2) 3 (((k_w (k_w S 1 ((S 0 12).toNatClampNeg) p1) 2 (((k_w S 1 ((S 0 12).toNatClampNeg) p1) 0 12).toNatClampNeg) p2) 0 12).toNatClampNeg) (0 : Int32)) 0 12)).toNatClampNeg) p3) 4 ((((4 : Int32) * ((k_w (k_w (k_w (k_w S 1 ((S 0 12).toNatClampNeg) p1) 2 (((k_w S 1 ((S 0 12).toNatClampNeg) p1) 0 12).toNatClampNeg) p2) 3 (((k_w (k_w S 1 ((S 0 12).toNatClampNeg) p1) 2 (((k_w S 1 ((S 0 12).toNatClampNeg) p1) 0 12).toNatClampNeg) p2) 0 12).toNatClampNeg) (0 : Int32)) 4 (((4 : Int32) * ((k_w (k_w (k_w S 1 ((S 0 12).toNatClampNeg) p1) 2 (((k_w S 1 ((S 0 12).toNatClampNeg) p1) 0 12).toNatClampNeg) p2) 3 (((k_w (k_w S 1 ((S 0 12).toNatClampNeg) p1) 2 (((k_w S 1 ((S 0 12).toNatClampNeg) p1) 0 12).toNatClampNeg) p2) 0 12).toNatClampNeg) (0 : Int32)) 0 12)).toNatClampNeg) p3) 0 12)) + (1 : Int32)).toNatClampNeg) p4) 0 12)) + (2 : Int32)).toNatClampNeg) p5) 0 12)) + (3 : Int32)).toNatClampNeg) p6)
    refine lv_aload_n hx hb dX5_addPerson_97 rfl (lv_at hl 0 rfl) ?_
    refine lv_dup hx hb dX5_addPerson_98 rfl ?_
    refine va_get (D := D) (ci := 3) (v := .int ((k_w (k_w (k_w (k_w (k_w (k_w (k_w S 1 ((S 0 12).toNatClampNeg) p1) 2 (((k_w S 1 ((S 0 12).toNatClampNeg) p1) 0 12).toNatClampNeg) p2) 3 (((k_w (k_w S 1 ((S 0 12).toNatClampNeg) p1) 2 (((k_w S 1 ((S 0 12).toNatClampNeg) p1) 0 12).toNatClampNeg) p2) 0 12).toNatClampNeg) (0 : Int32)) 4 (((4 : Int32) * ((k_w (k_w (k_w S 1 ((S 0 12).toNatClampNeg) p1) 2 (((k_w S 1 ((S 0 12).toNatClampNeg) p1) 0 12).toNatClampNeg) p2) 3 (((k_w (k_w S 1 ((S 0 12).toNatClampNeg) p1) 2 (((k_w S 1 ((S 0 12).toNatClampNeg) p1) 0 12).toNatClampNeg) p2) 0 12).toNatClampNeg) (0 : Int32)) 0 12)).toNatClampNeg) p3) 4 ((((4 : Int32) * ((k_w (k_w (k_w (k_w S 1 ((S 0 12).toNatClampNeg) p1) 2 (((k_w S 1 ((S 0 12).toNatClampNeg) p1) 0 12).toNatClampNeg) p2) 3 (((k_w (k_w S 1 ((S 0 12).toNatClampNeg) p1) 2 (((k_w S 1 ((S 0 12).toNatClampNeg) p1) 0 12).toNatClampNeg) p2) 0 12).toNatClampNeg) (0 : Int32)) 4 (((4 : Int32) * ((k_w (k_w (k_w S 1 ((S 0 12).toNatClampNeg) p1) 2 (((k_w S 1 ((S 0 12).toNatClampNeg) p1) 0 12).toNatClampNeg) p2) 3 (((k_w (k_w S 1 ((S 0 12).toNatClampNeg) p1) 2 (((k_w S 1 ((S 0 12).toNatClampNeg) p1) 0 12).toNatClampNeg) p2) 0 12).toNatClampNeg) (0 : Int32)) 0 12)).toNatClampNeg) p3) 0 12)) + (1 : Int32)).toNatClampNeg) p4) 4 ((((4 : Int32) * ((k_w (k_w (k_w (k_w (k_w S 1 ((S 0 12).toNatClampNeg) p1) 2 (((k_w S 1 ((S 0 12).toNatClampNeg) p1) 0 12).toNatClampNeg) p2) 3 (((k_w (k_w S 1 ((S 0 12).toNatClampNeg) p1) 2 (((k_w S 1 ((S 0 12).toNatClampNeg) p1) 0 12).toNatClampNeg) p2) 0 12).toNatClampNeg) (0 : Int32)) 4 (((4 : Int32) * ((k_w (k_w (k_w S 1 ((S 0 12).toNatClampNeg) p1) 2 (((k_w S 1 ((S 0 12).toNatClampNeg) p1) 0 12).toNatClampNeg) p2) 3 (((k_w (k_w S 1 ((S 0 12).toNatClampNeg) p1) 2 (((k_w S 1 ((S 0 12).toNatClampNeg) p1) 0 12).toNatClampNeg) p2) 0 12).toNatClampNeg) (0 : Int32)) 0 12)).toNatClampNeg) p3) 4 ((((4 : Int32) * ((k_w (k_w (k_w (k_w S 1 ((S 0 12).toNatClampNeg) p1) 2 (((k_w S 1 ((S 0 12).toNatClampNeg) p1) 0 12).toNatClampNeg) p2) 3 (((k_w (k_w S 1 ((S 0 12).toNatClampNeg) p1) 2 (((k_w S 1 ((S 0 12).toNatClampNeg) p1) 0 12).toNatClampNeg) p2) 0 12).toNatClampNeg) (0 : Int32)) 4 (((4 : Int32) * ((k_w (k_w (k_w S 1 ((S 0 12).toNatClampNeg) p1) 2 (((k_w S 1 ((S 0 12).toNatClampNeg) p1) 0 12).toNatClampNeg) p2) 3 (((k_w (k_w S 1 ((S 0 12).toNatClampNeg) p1) 2 (((k_w S 1 ((S 0 12).toNatClampNeg) p1) 0 12).toNatClampNeg) p2) 0 12).toNatClampNeg) (0 : Int32)) 0 12)).toNatClampNeg) p3) 0 12)) + (1 : Int32)).toNatClampNeg) p4) 0 12)) + (2 : Int32)).toNatClampNeg) p5) 4 ((((4 : Int32) * ((k_w (k_w (k_w (k_w (k_w (k_w S 1 ((S 0 12).toNatClampNeg) p1) 2 (((k_w S 1 ((S 0 12).toNatClampNeg) p1) 0 12).toNatClampNeg) p2) 3 (((k_w (k_w S 1 ((S 0 12).toNatClampNeg) p1) 2 (((k_w S 1 ((S 0 12).toNatClampNeg) p1) 0 12).toNatClampNeg) p2) 0 12).toNatClampNeg) (0 : Int32)) 4 (((4 : Int32) * ((k_w (k_w (k_w S 1 ((S 0 12).toNatClampNeg) p1) 2 (((k_w S 1 ((S 0 12).toNatClampNeg) p1) 0 12).toNatClampNeg) p2) 3 (((k_w (k_w S 1 ((S 0 12).toNatClampNeg) p1) 2 (((k_w S 1 ((S 0 12).toNatClampNeg) p1) 0 12).toNatClampNeg) p2) 0 12).toNatClampNeg) (0 : Int32)) 0 12)).toNatClampNeg) p3) 4 ((((4 : Int32) * ((k_w (k_w (k_w (k_w S 1 ((S 0 12).toNatClampNeg) p1) 2 (((k_w S 1 ((S 0 12).toNatClampNeg) p1) 0 12).toNatClampNeg) p2) 3 (((k_w (k_w S 1 ((S 0 12).toNatClampNeg) p1) 2 (((k_w S 1 ((S 0 12).toNatClampNeg) p1) 0 12).toNatClampNeg) p2) 0 12).toNatClampNeg) (0 : Int32)) 4 (((4 : Int32) * ((k_w (k_w (k_w S 1 ((S 0 12).toNatClampNeg) p1) 2 (((k_w S 1 ((S 0 12).toNatClampNeg) p1) 0 12).toNatClampNeg) p2) 3 (((k_w (k_w S 1 ((S 0 12).toNatClampNeg) p1) 2 (((k_w S 1 ((S 0 12).toNatClampNeg) p1) 0 12).toNatClampNeg) p2) 0 12).toNatClampNeg) (0 : Int32)) 0 12)).toNatClampNeg) p3) 0 12)) + (1 : Int32)).toNatClampNeg) p4) 4 ((((4 : Int32) * ((k_w (k_w (k_w (k_w (k_w S 1 ((S 0 12).toNatClampNeg) p1) 2 (((k_w S 1 ((S 0 12).toNatClampNeg) p1) 0 12).toNatClampNeg) p2) 3 (((k_w (k_w S 1 ((S 0 12).toNatClampNeg) p1) 2 (((k_w S 1 ((S 0 12).toNatClampNeg) p1) 0 12).toNatClampNeg) p2) 0 12).toNatClampNeg) (0 : Int32)) 4 (((4 : Int32) * ((k_w (k_w (k_w S 1 ((S 0 12).toNatClampNeg) p1) 2 (((k_w S 1 ((S 0 12).toNatClampNeg) p1) 0 12).toNatClampNeg) p2) 3 (((k_w (k_w S 1 ((S 0 12).toNatClampNeg) p1) 2 (((k_w S 1 ((S 0 12).toNatClampNeg) p1) 0 12).toNatClampNeg) p2) 0 12).toNatClampNeg) (0 : Int32)) 0 12)).toNatClampNeg) p3) 4 ((((4 : Int32) * ((k_w (k_w (k_w (k_w S 1 ((S 0 12).toNatClampNeg) p1) 2 (((k_w S 1 ((S 0 12).toNatClampNeg) p1) 0 12).toNatClampNeg) p2) 3 (((k_w (k_w S 1 ((S 0 12).toNatClampNeg) p1) 2 (((k_w S 1 ((S 0 12).toNatClampNeg) p1) 0 12).toNatClampNeg) p2) 0 12).toNatClampNeg) (0 : Int32)) 4 (((4 : Int32) * ((k_w (k_w (k_w S 1 ((S 0 12).toNatClampNeg) p1) 2 (((k_w S 1 ((S 0 12).toNatClampNeg) p1) 0 12).toNatClampNeg) p2) 3 (((k_w (k_w S 1 ((S 0 12).toNatClampNeg) p1) 2 (((k_w S 1 ((S 0 12).toNatClampNeg) p1) 0 12).toNatClampNeg) p2) 0 12).toNatClampNeg) (0 : Int32)) 0 12)).toNatClampNeg) p3) 0 12)) + (1 : Int32)).toNatClampNeg) p4) 0 12)) + (2 : Int32)).toNatClampNeg) p5) 0 12)) + (3 : Int32)).toNatClampNeg) p6) 0 12)) (C := RX5) (T := TX5) (N := 15) hx hb hts (fun w h => List.mem_cons_of_mem _ (List.mem_append_left _ (List.mem_append_right _ h))) hown hK hP 0 rfl rfl 12 (by decide) (hts (.fieldLink RX5 54 "LeastNeed$Valley" "people" "I") (List.mem_of_getElem? (i := 1) rfl)) (fun _ h9 => h9) rfl dX5_addPerson_99 ?_
    refine lv_iconst (v := (1 : Int32)) hx hb dX5_addPerson_102 (by decide) ?_
    refine lv_iadd hx hb dX5_addPerson_103 ?_
    refine va_put (D := D) (ci := 3) (v := .int (((k_w (k_w (k_w (k_w (k_w (k_w (k_w S 1 ((S 0 12).toNatClampNeg) p1) 2 (((k_w S 1 ((S 0 12).toNatClampNeg) p1) 0 12).toNatClampNeg) p2) 3 (((k_w (k_w S 1 ((S 0 12).toNatClampNeg) p1) 2 (((k_w S 1 ((S 0 12).toNatClampNeg) p1) 0 12).toNatClampNeg) p2) 0 12).toNatClampNeg) (0 : Int32)) 4 (((4 : Int32) * ((k_w (k_w (k_w S 1 ((S 0 12).toNatClampNeg) p1) 2 (((k_w S 1 ((S 0 12).toNatClampNeg) p1) 0 12).toNatClampNeg) p2) 3 (((k_w (k_w S 1 ((S 0 12).toNatClampNeg) p1) 2 (((k_w S 1 ((S 0 12).toNatClampNeg) p1) 0 12).toNatClampNeg) p2) 0 12).toNatClampNeg) (0 : Int32)) 0 12)).toNatClampNeg) p3) 4 ((((4 : Int32) * ((k_w (k_w (k_w (k_w S 1 ((S 0 12).toNatClampNeg) p1) 2 (((k_w S 1 ((S 0 12).toNatClampNeg) p1) 0 12).toNatClampNeg) p2) 3 (((k_w (k_w S 1 ((S 0 12).toNatClampNeg) p1) 2 (((k_w S 1 ((S 0 12).toNatClampNeg) p1) 0 12).toNatClampNeg) p2) 0 12).toNatClampNeg) (0 : Int32)) 4 (((4 : Int32) * ((k_w (k_w (k_w S 1 ((S 0 12).toNatClampNeg) p1) 2 (((k_w S 1 ((S 0 12).toNatClampNeg) p1) 0 12).toNatClampNeg) p2) 3 (((k_w (k_w S 1 ((S 0 12).toNatClampNeg) p1) 2 (((k_w S 1 ((S 0 12).toNatClampNeg) p1) 0 12).toNatClampNeg) p2) 0 12).toNatClampNeg) (0 : Int32)) 0 12)).toNatClampNeg) p3) 0 12)) + (1 : Int32)).toNatClampNeg) p4) 4 ((((4 : Int32) * ((k_w (k_w (k_w (k_w (k_w S 1 ((S 0 12).toNatClampNeg) p1) 2 (((k_w S 1 ((S 0 12).toNatClampNeg) p1) 0 12).toNatClampNeg) p2) 3 (((k_w (k_w S 1 ((S 0 12).toNatClampNeg) p1) 2 (((k_w S 1 ((S 0 12).toNatClampNeg) p1) 0 12).toNatClampNeg) p2) 0 12).toNatClampNeg) (0 : Int32)) 4 (((4 : Int32) * ((k_w (k_w (k_w S 1 ((S 0 12).toNatClampNeg) p1) 2 (((k_w S 1 ((S 0 12).toNatClampNeg) p1) 0 12).toNatClampNeg) p2) 3 (((k_w (k_w S 1 ((S 0 12).toNatClampNeg) p1) 2 (((k_w S 1 ((S 0 12).toNatClampNeg) p1) 0 12).toNatClampNeg) p2) 0 12).toNatClampNeg) (0 : Int32)) 0 12)).toNatClampNeg) p3) 4 ((((4 : Int32) * ((k_w (k_w (k_w (k_w S 1 ((S 0 12).toNatClampNeg) p1) 2 (((k_w S 1 ((S 0 12).toNatClampNeg) p1) 0 12).toNatClampNeg) p2) 3 (((k_w (k_w S 1 ((S 0 12).toNatClampNeg) p1) 2 (((k_w S 1 ((S 0 12).toNatClampNeg) p1) 0 12).toNatClampNeg) p2) 0 12).toNatClampNeg) (0 : Int32)) 4 (((4 : Int32) * ((k_w (k_w (k_w S 1 ((S 0 12).toNatClampNeg) p1) 2 (((k_w S 1 ((S 0 12).toNatClampNeg) p1) 0 12).toNatClampNeg) p2) 3 (((k_w (k_w S 1 ((S 0 12).toNatClampNeg) p1) 2 (((k_w S 1 ((S 0 12).toNatClampNeg) p1) 0 12).toNatClampNeg) p2) 0 12).toNatClampNeg) (0 : Int32)) 0 12)).toNatClampNeg) p3) 0 12)) + (1 : Int32)).toNatClampNeg) p4) 0 12)) + (2 : Int32)).toNatClampNeg) p5) 4 ((((4 : Int32) * ((k_w (k_w (k_w (k_w (k_w (k_w S 1 ((S 0 12).toNatClampNeg) p1) 2 (((k_w S 1 ((S 0 12).toNatClampNeg) p1) 0 12).toNatClampNeg) p2) 3 (((k_w (k_w S 1 ((S 0 12).toNatClampNeg) p1) 2 (((k_w S 1 ((S 0 12).toNatClampNeg) p1) 0 12).toNatClampNeg) p2) 0 12).toNatClampNeg) (0 : Int32)) 4 (((4 : Int32) * ((k_w (k_w (k_w S 1 ((S 0 12).toNatClampNeg) p1) 2 (((k_w S 1 ((S 0 12).toNatClampNeg) p1) 0 12).toNatClampNeg) p2) 3 (((k_w (k_w S 1 ((S 0 12).toNatClampNeg) p1) 2 (((k_w S 1 ((S 0 12).toNatClampNeg) p1) 0 12).toNatClampNeg) p2) 0 12).toNatClampNeg) (0 : Int32)) 0 12)).toNatClampNeg) p3) 4 ((((4 : Int32) * ((k_w (k_w (k_w (k_w S 1 ((S 0 12).toNatClampNeg) p1) 2 (((k_w S 1 ((S 0 12).toNatClampNeg) p1) 0 12).toNatClampNeg) p2) 3 (((k_w (k_w S 1 ((S 0 12).toNatClampNeg) p1) 2 (((k_w S 1 ((S 0 12).toNatClampNeg) p1) 0 12).toNatClampNeg) p2) 0 12).toNatClampNeg) (0 : Int32)) 4 (((4 : Int32) * ((k_w (k_w (k_w S 1 ((S 0 12).toNatClampNeg) p1) 2 (((k_w S 1 ((S 0 12).toNatClampNeg) p1) 0 12).toNatClampNeg) p2) 3 (((k_w (k_w S 1 ((S 0 12).toNatClampNeg) p1) 2 (((k_w S 1 ((S 0 12).toNatClampNeg) p1) 0 12).toNatClampNeg) p2) 0 12).toNatClampNeg) (0 : Int32)) 0 12)).toNatClampNeg) p3) 0 12)) + (1 : Int32)).toNatClampNeg) p4) 4 ((((4 : Int32) * ((k_w (k_w (k_w (k_w (k_w S 1 ((S 0 12).toNatClampNeg) p1) 2 (((k_w S 1 ((S 0 12).toNatClampNeg) p1) 0 12).toNatClampNeg) p2) 3 (((k_w (k_w S 1 ((S 0 12).toNatClampNeg) p1) 2 (((k_w S 1 ((S 0 12).toNatClampNeg) p1) 0 12).toNatClampNeg) p2) 0 12).toNatClampNeg) (0 : Int32)) 4 (((4 : Int32) * ((k_w (k_w (k_w S 1 ((S 0 12).toNatClampNeg) p1) 2 (((k_w S 1 ((S 0 12).toNatClampNeg) p1) 0 12).toNatClampNeg) p2) 3 (((k_w (k_w S 1 ((S 0 12).toNatClampNeg) p1) 2 (((k_w S 1 ((S 0 12).toNatClampNeg) p1) 0 12).toNatClampNeg) p2) 0 12).toNatClampNeg) (0 : Int32)) 0 12)).toNatClampNeg) p3) 4 ((((4 : Int32) * ((k_w (k_w (k_w (k_w S 1 ((S 0 12).toNatClampNeg) p1) 2 (((k_w S 1 ((S 0 12).toNatClampNeg) p1) 0 12).toNatClampNeg) p2) 3 (((k_w (k_w S 1 ((S 0 12).toNatClampNeg) p1) 2 (((k_w S 1 ((S 0 12).toNatClampNeg) p1) 0 12).toNatClampNeg) p2) 0 12).toNatClampNeg) (0 : Int32)) 4 (((4 : Int32) * ((k_w (k_w (k_w S 1 ((S 0 12).toNatClampNeg) p1) 2 (((k_w S 1 ((S 0 12).toNatClampNeg) p1) 0 12).toNatClampNeg) p2) 3 (((k_w (k_w S 1 ((S 0 12).toNatClampNeg) p1) 2 (((k_w S 1 ((S 0 12).toNatClampNeg) p1) 0 12).toNatClampNeg) p2) 0 12).toNatClampNeg) (0 : Int32)) 0 12)).toNatClampNeg) p3) 0 12)) + (1 : Int32)).toNatClampNeg) p4) 0 12)) + (2 : Int32)).toNatClampNeg) p5) 0 12)) + (3 : Int32)).toNatClampNeg) p6) 0 12) + (1 : Int32))) (ty := .int) (C := RX5) (T := TX5) (N := 15) hx hb hts (fun w h => List.mem_cons_of_mem _ (List.mem_append_left _ (List.mem_append_right _ h))) tyX5 tyX5_ok nmX5 hown hK hP hD hS 0 rfl rfl 12 (by decide) (hts (.fieldLink RX5 54 "LeastNeed$Valley" "people" "I") (List.mem_of_getElem? (i := 1) rfl)) (fun _ h9 => h9) rfl (by decide +kernel) rfl rfl (Nat.le_of_ble_eq_true rfl) dX5_addPerson_104 (fun H locs hP hD hS => ?_)
    have hP : va_P D vwCl (wX5 cs a (k_w (k_w (k_w (k_w (k_w (k_w (k_w (k_w S 1 ((S 0 12).toNatClampNeg) p1) 2 (((k_w S 1 ((S 0 12).toNatClampNeg) p1) 0 12).toNatClampNeg) p2) 3 (((k_w (k_w S 1 ((S 0 12).toNatClampNeg) p1) 2 (((k_w S 1 ((S 0 12).toNatClampNeg) p1) 0 12).toNatClampNeg) p2) 0 12).toNatClampNeg) (0 : Int32)) 4 (((4 : Int32) * ((k_w (k_w (k_w S 1 ((S 0 12).toNatClampNeg) p1) 2 (((k_w S 1 ((S 0 12).toNatClampNeg) p1) 0 12).toNatClampNeg) p2) 3 (((k_w (k_w S 1 ((S 0 12).toNatClampNeg) p1) 2 (((k_w S 1 ((S 0 12).toNatClampNeg) p1) 0 12).toNatClampNeg) p2) 0 12).toNatClampNeg) (0 : Int32)) 0 12)).toNatClampNeg) p3) 4 ((((4 : Int32) * ((k_w (k_w (k_w (k_w S 1 ((S 0 12).toNatClampNeg) p1) 2 (((k_w S 1 ((S 0 12).toNatClampNeg) p1) 0 12).toNatClampNeg) p2) 3 (((k_w (k_w S 1 ((S 0 12).toNatClampNeg) p1) 2 (((k_w S 1 ((S 0 12).toNatClampNeg) p1) 0 12).toNatClampNeg) p2) 0 12).toNatClampNeg) (0 : Int32)) 4 (((4 : Int32) * ((k_w (k_w (k_w S 1 ((S 0 12).toNatClampNeg) p1) 2 (((k_w S 1 ((S 0 12).toNatClampNeg) p1) 0 12).toNatClampNeg) p2) 3 (((k_w (k_w S 1 ((S 0 12).toNatClampNeg) p1) 2 (((k_w S 1 ((S 0 12).toNatClampNeg) p1) 0 12).toNatClampNeg) p2) 0 12).toNatClampNeg) (0 : Int32)) 0 12)).toNatClampNeg) p3) 0 12)) + (1 : Int32)).toNatClampNeg) p4) 4 ((((4 : Int32) * ((k_w (k_w (k_w (k_w (k_w S 1 ((S 0 12).toNatClampNeg) p1) 2 (((k_w S 1 ((S 0 12).toNatClampNeg) p1) 0 12).toNatClampNeg) p2) 3 (((k_w (k_w S 1 ((S 0 12).toNatClampNeg) p1) 2 (((k_w S 1 ((S 0 12).toNatClampNeg) p1) 0 12).toNatClampNeg) p2) 0 12).toNatClampNeg) (0 : Int32)) 4 (((4 : Int32) * ((k_w (k_w (k_w S 1 ((S 0 12).toNatClampNeg) p1) 2 (((k_w S 1 ((S 0 12).toNatClampNeg) p1) 0 12).toNatClampNeg) p2) 3 (((k_w (k_w S 1 ((S 0 12).toNatClampNeg) p1) 2 (((k_w S 1 ((S 0 12).toNatClampNeg) p1) 0 12).toNatClampNeg) p2) 0 12).toNatClampNeg) (0 : Int32)) 0 12)).toNatClampNeg) p3) 4 ((((4 : Int32) * ((k_w (k_w (k_w (k_w S 1 ((S 0 12).toNatClampNeg) p1) 2 (((k_w S 1 ((S 0 12).toNatClampNeg) p1) 0 12).toNatClampNeg) p2) 3 (((k_w (k_w S 1 ((S 0 12).toNatClampNeg) p1) 2 (((k_w S 1 ((S 0 12).toNatClampNeg) p1) 0 12).toNatClampNeg) p2) 0 12).toNatClampNeg) (0 : Int32)) 4 (((4 : Int32) * ((k_w (k_w (k_w S 1 ((S 0 12).toNatClampNeg) p1) 2 (((k_w S 1 ((S 0 12).toNatClampNeg) p1) 0 12).toNatClampNeg) p2) 3 (((k_w (k_w S 1 ((S 0 12).toNatClampNeg) p1) 2 (((k_w S 1 ((S 0 12).toNatClampNeg) p1) 0 12).toNatClampNeg) p2) 0 12).toNatClampNeg) (0 : Int32)) 0 12)).toNatClampNeg) p3) 0 12)) + (1 : Int32)).toNatClampNeg) p4) 0 12)) + (2 : Int32)).toNatClampNeg) p5) 4 ((((4 : Int32) * ((k_w (k_w (k_w (k_w (k_w (k_w S 1 ((S 0 12).toNatClampNeg) p1) 2 (((k_w S 1 ((S 0 12).toNatClampNeg) p1) 0 12).toNatClampNeg) p2) 3 (((k_w (k_w S 1 ((S 0 12).toNatClampNeg) p1) 2 (((k_w S 1 ((S 0 12).toNatClampNeg) p1) 0 12).toNatClampNeg) p2) 0 12).toNatClampNeg) (0 : Int32)) 4 (((4 : Int32) * ((k_w (k_w (k_w S 1 ((S 0 12).toNatClampNeg) p1) 2 (((k_w S 1 ((S 0 12).toNatClampNeg) p1) 0 12).toNatClampNeg) p2) 3 (((k_w (k_w S 1 ((S 0 12).toNatClampNeg) p1) 2 (((k_w S 1 ((S 0 12).toNatClampNeg) p1) 0 12).toNatClampNeg) p2) 0 12).toNatClampNeg) (0 : Int32)) 0 12)).toNatClampNeg) p3) 4 ((((4 : Int32) * ((k_w (k_w (k_w (k_w S 1 ((S 0 12).toNatClampNeg) p1) 2 (((k_w S 1 ((S 0 12).toNatClampNeg) p1) 0 12).toNatClampNeg) p2) 3 (((k_w (k_w S 1 ((S 0 12).toNatClampNeg) p1) 2 (((k_w S 1 ((S 0 12).toNatClampNeg) p1) 0 12).toNatClampNeg) p2) 0 12).toNatClampNeg) (0 : Int32)) 4 (((4 : Int32) * ((k_w (k_w (k_w S 1 ((S 0 12).toNatClampNeg) p1) 2 (((k_w S 1 ((S 0 12).toNatClampNeg) p1) 0 12).toNatClampNeg) p2) 3 (((k_w (k_w S 1 ((S 0 12).toNatClampNeg) p1) 2 (((k_w S 1 ((S 0 12).toNatClampNeg) p1) 0 12).toNatClampNeg) p2) 0 12).toNatClampNeg) (0 : Int32)) 0 12)).toNatClampNeg) p3) 0 12)) + (1 : Int32)).toNatClampNeg) p4) 4 ((((4 : Int32) * ((k_w (k_w (k_w (k_w (k_w S 1 ((S 0 12).toNatClampNeg) p1) 2 (((k_w S 1 ((S 0 12).toNatClampNeg) p1) 0 12).toNatClampNeg) p2) 3 (((k_w (k_w S 1 ((S 0 12).toNatClampNeg) p1) 2 (((k_w S 1 ((S 0 12).toNatClampNeg) p1) 0 12).toNatClampNeg) p2) 0 12).toNatClampNeg) (0 : Int32)) 4 (((4 : Int32) * ((k_w (k_w (k_w S 1 ((S 0 12).toNatClampNeg) p1) 2 (((k_w S 1 ((S 0 12).toNatClampNeg) p1) 0 12).toNatClampNeg) p2) 3 (((k_w (k_w S 1 ((S 0 12).toNatClampNeg) p1) 2 (((k_w S 1 ((S 0 12).toNatClampNeg) p1) 0 12).toNatClampNeg) p2) 0 12).toNatClampNeg) (0 : Int32)) 0 12)).toNatClampNeg) p3) 4 ((((4 : Int32) * ((k_w (k_w (k_w (k_w S 1 ((S 0 12).toNatClampNeg) p1) 2 (((k_w S 1 ((S 0 12).toNatClampNeg) p1) 0 12).toNatClampNeg) p2) 3 (((k_w (k_w S 1 ((S 0 12).toNatClampNeg) p1) 2 (((k_w S 1 ((S 0 12).toNatClampNeg) p1) 0 12).toNatClampNeg) p2) 0 12).toNatClampNeg) (0 : Int32)) 4 (((4 : Int32) * ((k_w (k_w (k_w S 1 ((S 0 12).toNatClampNeg) p1) 2 (((k_w S 1 ((S 0 12).toNatClampNeg) p1) 0 12).toNatClampNeg) p2) 3 (((k_w (k_w S 1 ((S 0 12).toNatClampNeg) p1) 2 (((k_w S 1 ((S 0 12).toNatClampNeg) p1) 0 12).toNatClampNeg) p2) 0 12).toNatClampNeg) (0 : Int32)) 0 12)).toNatClampNeg) p3) 0 12)) + (1 : Int32)).toNatClampNeg) p4) 0 12)) + (2 : Int32)).toNatClampNeg) p5) 0 12)) + (3 : Int32)).toNatClampNeg) p6) 0 12 (((k_w (k_w (k_w (k_w (k_w (k_w (k_w S 1 ((S 0 12).toNatClampNeg) p1) 2 (((k_w S 1 ((S 0 12).toNatClampNeg) p1) 0 12).toNatClampNeg) p2) 3 (((k_w (k_w S 1 ((S 0 12).toNatClampNeg) p1) 2 (((k_w S 1 ((S 0 12).toNatClampNeg) p1) 0 12).toNatClampNeg) p2) 0 12).toNatClampNeg) (0 : Int32)) 4 (((4 : Int32) * ((k_w (k_w (k_w S 1 ((S 0 12).toNatClampNeg) p1) 2 (((k_w S 1 ((S 0 12).toNatClampNeg) p1) 0 12).toNatClampNeg) p2) 3 (((k_w (k_w S 1 ((S 0 12).toNatClampNeg) p1) 2 (((k_w S 1 ((S 0 12).toNatClampNeg) p1) 0 12).toNatClampNeg) p2) 0 12).toNatClampNeg) (0 : Int32)) 0 12)).toNatClampNeg) p3) 4 ((((4 : Int32) * ((k_w (k_w (k_w (k_w S 1 ((S 0 12).toNatClampNeg) p1) 2 (((k_w S 1 ((S 0 12).toNatClampNeg) p1) 0 12).toNatClampNeg) p2) 3 (((k_w (k_w S 1 ((S 0 12).toNatClampNeg) p1) 2 (((k_w S 1 ((S 0 12).toNatClampNeg) p1) 0 12).toNatClampNeg) p2) 0 12).toNatClampNeg) (0 : Int32)) 4 (((4 : Int32) * ((k_w (k_w (k_w S 1 ((S 0 12).toNatClampNeg) p1) 2 (((k_w S 1 ((S 0 12).toNatClampNeg) p1) 0 12).toNatClampNeg) p2) 3 (((k_w (k_w S 1 ((S 0 12).toNatClampNeg) p1) 2 (((k_w S 1 ((S 0 12).toNatClampNeg) p1) 0 12).toNatClampNeg) p2) 0 12).toNatClampNeg) (0 : Int32)) 0 12)).toNatClampNeg) p3) 0 12)) + (1 : Int32)).toNatClampNeg) p4) 4 ((((4 : Int32) * ((k_w (k_w (k_w (k_w (k_w S 1 ((S 0 12).toNatClampNeg) p1) 2 (((k_w S 1 ((S 0 12).toNatClampNeg) p1) 0 12).toNatClampNeg) p2) 3 (((k_w (k_w S 1 ((S 0 12).toNatClampNeg) p1) 2 (((k_w S 1 ((S 0 12).toNatClampNeg) p1) 0 12).toNatClampNeg) p2) 0 12).toNatClampNeg) (0 : Int32)) 4 (((4 : Int32) * ((k_w (k_w (k_w S 1 ((S 0 12).toNatClampNeg) p1) 2 (((k_w S 1 ((S 0 12).toNatClampNeg) p1) 0 12).toNatClampNeg) p2) 3 (((k_w (k_w S 1 ((S 0 12).toNatClampNeg) p1) 2 (((k_w S 1 ((S 0 12).toNatClampNeg) p1) 0 12).toNatClampNeg) p2) 0 12).toNatClampNeg) (0 : Int32)) 0 12)).toNatClampNeg) p3) 4 ((((4 : Int32) * ((k_w (k_w (k_w (k_w S 1 ((S 0 12).toNatClampNeg) p1) 2 (((k_w S 1 ((S 0 12).toNatClampNeg) p1) 0 12).toNatClampNeg) p2) 3 (((k_w (k_w S 1 ((S 0 12).toNatClampNeg) p1) 2 (((k_w S 1 ((S 0 12).toNatClampNeg) p1) 0 12).toNatClampNeg) p2) 0 12).toNatClampNeg) (0 : Int32)) 4 (((4 : Int32) * ((k_w (k_w (k_w S 1 ((S 0 12).toNatClampNeg) p1) 2 (((k_w S 1 ((S 0 12).toNatClampNeg) p1) 0 12).toNatClampNeg) p2) 3 (((k_w (k_w S 1 ((S 0 12).toNatClampNeg) p1) 2 (((k_w S 1 ((S 0 12).toNatClampNeg) p1) 0 12).toNatClampNeg) p2) 0 12).toNatClampNeg) (0 : Int32)) 0 12)).toNatClampNeg) p3) 0 12)) + (1 : Int32)).toNatClampNeg) p4) 0 12)) + (2 : Int32)).toNatClampNeg) p5) 4 ((((4 : Int32) * ((k_w (k_w (k_w (k_w (k_w (k_w S 1 ((S 0 12).toNatClampNeg) p1) 2 (((k_w S 1 ((S 0 12).toNatClampNeg) p1) 0 12).toNatClampNeg) p2) 3 (((k_w (k_w S 1 ((S 0 12).toNatClampNeg) p1) 2 (((k_w S 1 ((S 0 12).toNatClampNeg) p1) 0 12).toNatClampNeg) p2) 0 12).toNatClampNeg) (0 : Int32)) 4 (((4 : Int32) * ((k_w (k_w (k_w S 1 ((S 0 12).toNatClampNeg) p1) 2 (((k_w S 1 ((S 0 12).toNatClampNeg) p1) 0 12).toNatClampNeg) p2) 3 (((k_w (k_w S 1 ((S 0 12).toNatClampNeg) p1) 2 (((k_w S 1 ((S 0 12).toNatClampNeg) p1) 0 12).toNatClampNeg) p2) 0 12).toNatClampNeg) (0 : Int32)) 0 12)).toNatClampNeg) p3) 4 ((((4 : Int32) * ((k_w (k_w (k_w (k_w S 1 ((S 0 12).toNatClampNeg) p1) 2 (((k_w S 1 ((S 0 12).toNatClampNeg) p1) 0 12).toNatClampNeg) p2) 3 (((k_w (k_w S 1 ((S 0 12).toNatClampNeg) p1) 2 (((k_w S 1 ((S 0 12).toNatClampNeg) p1) 0 12).toNatClampNeg) p2) 0 12).toNatClampNeg) (0 : Int32)) 4 (((4 : Int32) * ((k_w (k_w (k_w S 1 ((S 0 12).toNatClampNeg) p1) 2 (((k_w S 1 ((S 0 12).toNatClampNeg) p1) 0 12).toNatClampNeg) p2) 3 (((k_w (k_w S 1 ((S 0 12).toNatClampNeg) p1) 2 (((k_w S 1 ((S 0 12).toNatClampNeg) p1) 0 12).toNatClampNeg) p2) 0 12).toNatClampNeg) (0 : Int32)) 0 12)).toNatClampNeg) p3) 0 12)) + (1 : Int32)).toNatClampNeg) p4) 4 ((((4 : Int32) * ((k_w (k_w (k_w (k_w (k_w S 1 ((S 0 12).toNatClampNeg) p1) 2 (((k_w S 1 ((S 0 12).toNatClampNeg) p1) 0 12).toNatClampNeg) p2) 3 (((k_w (k_w S 1 ((S 0 12).toNatClampNeg) p1) 2 (((k_w S 1 ((S 0 12).toNatClampNeg) p1) 0 12).toNatClampNeg) p2) 0 12).toNatClampNeg) (0 : Int32)) 4 (((4 : Int32) * ((k_w (k_w (k_w S 1 ((S 0 12).toNatClampNeg) p1) 2 (((k_w S 1 ((S 0 12).toNatClampNeg) p1) 0 12).toNatClampNeg) p2) 3 (((k_w (k_w S 1 ((S 0 12).toNatClampNeg) p1) 2 (((k_w S 1 ((S 0 12).toNatClampNeg) p1) 0 12).toNatClampNeg) p2) 0 12).toNatClampNeg) (0 : Int32)) 0 12)).toNatClampNeg) p3) 4 ((((4 : Int32) * ((k_w (k_w (k_w (k_w S 1 ((S 0 12).toNatClampNeg) p1) 2 (((k_w S 1 ((S 0 12).toNatClampNeg) p1) 0 12).toNatClampNeg) p2) 3 (((k_w (k_w S 1 ((S 0 12).toNatClampNeg) p1) 2 (((k_w S 1 ((S 0 12).toNatClampNeg) p1) 0 12).toNatClampNeg) p2) 0 12).toNatClampNeg) (0 : Int32)) 4 (((4 : Int32) * ((k_w (k_w (k_w S 1 ((S 0 12).toNatClampNeg) p1) 2 (((k_w S 1 ((S 0 12).toNatClampNeg) p1) 0 12).toNatClampNeg) p2) 3 (((k_w (k_w S 1 ((S 0 12).toNatClampNeg) p1) 2 (((k_w S 1 ((S 0 12).toNatClampNeg) p1) 0 12).toNatClampNeg) p2) 0 12).toNatClampNeg) (0 : Int32)) 0 12)).toNatClampNeg) p3) 0 12)) + (1 : Int32)).toNatClampNeg) p4) 0 12)) + (2 : Int32)).toNatClampNeg) p5) 0 12)) + (3 : Int32)).toNatClampNeg) p6) 0 12) + (1 : Int32)))) _ := k_eq hP (wsX5_f0_12 cs a (k_w (k_w (k_w (k_w (k_w (k_w (k_w S 1 ((S 0 12).toNatClampNeg) p1) 2 (((k_w S 1 ((S 0 12).toNatClampNeg) p1) 0 12).toNatClampNeg) p2) 3 (((k_w (k_w S 1 ((S 0 12).toNatClampNeg) p1) 2 (((k_w S 1 ((S 0 12).toNatClampNeg) p1) 0 12).toNatClampNeg) p2) 0 12).toNatClampNeg) (0 : Int32)) 4 (((4 : Int32) * ((k_w (k_w (k_w S 1 ((S 0 12).toNatClampNeg) p1) 2 (((k_w S 1 ((S 0 12).toNatClampNeg) p1) 0 12).toNatClampNeg) p2) 3 (((k_w (k_w S 1 ((S 0 12).toNatClampNeg) p1) 2 (((k_w S 1 ((S 0 12).toNatClampNeg) p1) 0 12).toNatClampNeg) p2) 0 12).toNatClampNeg) (0 : Int32)) 0 12)).toNatClampNeg) p3) 4 ((((4 : Int32) * ((k_w (k_w (k_w (k_w S 1 ((S 0 12).toNatClampNeg) p1) 2 (((k_w S 1 ((S 0 12).toNatClampNeg) p1) 0 12).toNatClampNeg) p2) 3 (((k_w (k_w S 1 ((S 0 12).toNatClampNeg) p1) 2 (((k_w S 1 ((S 0 12).toNatClampNeg) p1) 0 12).toNatClampNeg) p2) 0 12).toNatClampNeg) (0 : Int32)) 4 (((4 : Int32) * ((k_w (k_w (k_w S 1 ((S 0 12).toNatClampNeg) p1) 2 (((k_w S 1 ((S 0 12).toNatClampNeg) p1) 0 12).toNatClampNeg) p2) 3 (((k_w (k_w S 1 ((S 0 12).toNatClampNeg) p1) 2 (((k_w S 1 ((S 0 12).toNatClampNeg) p1) 0 12).toNatClampNeg) p2) 0 12).toNatClampNeg) (0 : Int32)) 0 12)).toNatClampNeg) p3) 0 12)) + (1 : Int32)).toNatClampNeg) p4) 4 ((((4 : Int32) * ((k_w (k_w (k_w (k_w (k_w S 1 ((S 0 12).toNatClampNeg) p1) 2 (((k_w S 1 ((S 0 12).toNatClampNeg) p1) 0 12).toNatClampNeg) p2) 3 (((k_w (k_w S 1 ((S 0 12).toNatClampNeg) p1) 2 (((k_w S 1 ((S 0 12).toNatClampNeg) p1) 0 12).toNatClampNeg) p2) 0 12).toNatClampNeg) (0 : Int32)) 4 (((4 : Int32) * ((k_w (k_w (k_w S 1 ((S 0 12).toNatClampNeg) p1) 2 (((k_w S 1 ((S 0 12).toNatClampNeg) p1) 0 12).toNatClampNeg) p2) 3 (((k_w (k_w S 1 ((S 0 12).toNatClampNeg) p1) 2 (((k_w S 1 ((S 0 12).toNatClampNeg) p1) 0 12).toNatClampNeg) p2) 0 12).toNatClampNeg) (0 : Int32)) 0 12)).toNatClampNeg) p3) 4 ((((4 : Int32) * ((k_w (k_w (k_w (k_w S 1 ((S 0 12).toNatClampNeg) p1) 2 (((k_w S 1 ((S 0 12).toNatClampNeg) p1) 0 12).toNatClampNeg) p2) 3 (((k_w (k_w S 1 ((S 0 12).toNatClampNeg) p1) 2 (((k_w S 1 ((S 0 12).toNatClampNeg) p1) 0 12).toNatClampNeg) p2) 0 12).toNatClampNeg) (0 : Int32)) 4 (((4 : Int32) * ((k_w (k_w (k_w S 1 ((S 0 12).toNatClampNeg) p1) 2 (((k_w S 1 ((S 0 12).toNatClampNeg) p1) 0 12).toNatClampNeg) p2) 3 (((k_w (k_w S 1 ((S 0 12).toNatClampNeg) p1) 2 (((k_w S 1 ((S 0 12).toNatClampNeg) p1) 0 12).toNatClampNeg) p2) 0 12).toNatClampNeg) (0 : Int32)) 0 12)).toNatClampNeg) p3) 0 12)) + (1 : Int32)).toNatClampNeg) p4) 0 12)) + (2 : Int32)).toNatClampNeg) p5) 4 ((((4 : Int32) * ((k_w (k_w (k_w (k_w (k_w (k_w S 1 ((S 0 12).toNatClampNeg) p1) 2 (((k_w S 1 ((S 0 12).toNatClampNeg) p1) 0 12).toNatClampNeg) p2) 3 (((k_w (k_w S 1 ((S 0 12).toNatClampNeg) p1) 2 (((k_w S 1 ((S 0 12).toNatClampNeg) p1) 0 12).toNatClampNeg) p2) 0 12).toNatClampNeg) (0 : Int32)) 4 (((4 : Int32) * ((k_w (k_w (k_w S 1 ((S 0 12).toNatClampNeg) p1) 2 (((k_w S 1 ((S 0 12).toNatClampNeg) p1) 0 12).toNatClampNeg) p2) 3 (((k_w (k_w S 1 ((S 0 12).toNatClampNeg) p1) 2 (((k_w S 1 ((S 0 12).toNatClampNeg) p1) 0 12).toNatClampNeg) p2) 0 12).toNatClampNeg) (0 : Int32)) 0 12)).toNatClampNeg) p3) 4 ((((4 : Int32) * ((k_w (k_w (k_w (k_w S 1 ((S 0 12).toNatClampNeg) p1) 2 (((k_w S 1 ((S 0 12).toNatClampNeg) p1) 0 12).toNatClampNeg) p2) 3 (((k_w (k_w S 1 ((S 0 12).toNatClampNeg) p1) 2 (((k_w S 1 ((S 0 12).toNatClampNeg) p1) 0 12).toNatClampNeg) p2) 0 12).toNatClampNeg) (0 : Int32)) 4 (((4 : Int32) * ((k_w (k_w (k_w S 1 ((S 0 12).toNatClampNeg) p1) 2 (((k_w S 1 ((S 0 12).toNatClampNeg) p1) 0 12).toNatClampNeg) p2) 3 (((k_w (k_w S 1 ((S 0 12).toNatClampNeg) p1) 2 (((k_w S 1 ((S 0 12).toNatClampNeg) p1) 0 12).toNatClampNeg) p2) 0 12).toNatClampNeg) (0 : Int32)) 0 12)).toNatClampNeg) p3) 0 12)) + (1 : Int32)).toNatClampNeg) p4) 4 ((((4 : Int32) * ((k_w (k_w (k_w (k_w (k_w S 1 ((S 0 12).toNatClampNeg) p1) 2 (((k_w S 1 ((S 0 12).toNatClampNeg) p1) 0 12).toNatClampNeg) p2) 3 (((k_w (k_w S 1 ((S 0 12).toNatClampNeg) p1) 2 (((k_w S 1 ((S 0 12).toNatClampNeg) p1) 0 12).toNatClampNeg) p2) 0 12).toNatClampNeg) (0 : Int32)) 4 (((4 : Int32) * ((k_w (k_w (k_w S 1 ((S 0 12).toNatClampNeg) p1) 2 (((k_w S 1 ((S 0 12).toNatClampNeg) p1) 0 12).toNatClampNeg) p2) 3 (((k_w (k_w S 1 ((S 0 12).toNatClampNeg) p1) 2 (((k_w S 1 ((S 0 12).toNatClampNeg) p1) 0 12).toNatClampNeg) p2) 0 12).toNatClampNeg) (0 : Int32)) 0 12)).toNatClampNeg) p3) 4 ((((4 : Int32) * ((k_w (k_w (k_w (k_w S 1 ((S 0 12).toNatClampNeg) p1) 2 (((k_w S 1 ((S 0 12).toNatClampNeg) p1) 0 12).toNatClampNeg) p2) 3 (((k_w (k_w S 1 ((S 0 12).toNatClampNeg) p1) 2 (((k_w S 1 ((S 0 12).toNatClampNeg) p1) 0 12).toNatClampNeg) p2) 0 12).toNatClampNeg) (0 : Int32)) 4 (((4 : Int32) * ((k_w (k_w (k_w S 1 ((S 0 12).toNatClampNeg) p1) 2 (((k_w S 1 ((S 0 12).toNatClampNeg) p1) 0 12).toNatClampNeg) p2) 3 (((k_w (k_w S 1 ((S 0 12).toNatClampNeg) p1) 2 (((k_w S 1 ((S 0 12).toNatClampNeg) p1) 0 12).toNatClampNeg) p2) 0 12).toNatClampNeg) (0 : Int32)) 0 12)).toNatClampNeg) p3) 0 12)) + (1 : Int32)).toNatClampNeg) p4) 0 12)) + (2 : Int32)).toNatClampNeg) p5) 0 12)) + (3 : Int32)).toNatClampNeg) p6) (((k_w (k_w (k_w (k_w (k_w (k_w (k_w S 1 ((S 0 12).toNatClampNeg) p1) 2 (((k_w S 1 ((S 0 12).toNatClampNeg) p1) 0 12).toNatClampNeg) p2) 3 (((k_w (k_w S 1 ((S 0 12).toNatClampNeg) p1) 2 (((k_w S 1 ((S 0 12).toNatClampNeg) p1) 0 12).toNatClampNeg) p2) 0 12).toNatClampNeg) (0 : Int32)) 4 (((4 : Int32) * ((k_w (k_w (k_w S 1 ((S 0 12).toNatClampNeg) p1) 2 (((k_w S 1 ((S 0 12).toNatClampNeg) p1) 0 12).toNatClampNeg) p2) 3 (((k_w (k_w S 1 ((S 0 12).toNatClampNeg) p1) 2 (((k_w S 1 ((S 0 12).toNatClampNeg) p1) 0 12).toNatClampNeg) p2) 0 12).toNatClampNeg) (0 : Int32)) 0 12)).toNatClampNeg) p3) 4 ((((4 : Int32) * ((k_w (k_w (k_w (k_w S 1 ((S 0 12).toNatClampNeg) p1) 2 (((k_w S 1 ((S 0 12).toNatClampNeg) p1) 0 12).toNatClampNeg) p2) 3 (((k_w (k_w S 1 ((S 0 12).toNatClampNeg) p1) 2 (((k_w S 1 ((S 0 12).toNatClampNeg) p1) 0 12).toNatClampNeg) p2) 0 12).toNatClampNeg) (0 : Int32)) 4 (((4 : Int32) * ((k_w (k_w (k_w S 1 ((S 0 12).toNatClampNeg) p1) 2 (((k_w S 1 ((S 0 12).toNatClampNeg) p1) 0 12).toNatClampNeg) p2) 3 (((k_w (k_w S 1 ((S 0 12).toNatClampNeg) p1) 2 (((k_w S 1 ((S 0 12).toNatClampNeg) p1) 0 12).toNatClampNeg) p2) 0 12).toNatClampNeg) (0 : Int32)) 0 12)).toNatClampNeg) p3) 0 12)) + (1 : Int32)).toNatClampNeg) p4) 4 ((((4 : Int32) * ((k_w (k_w (k_w (k_w (k_w S 1 ((S 0 12).toNatClampNeg) p1) 2 (((k_w S 1 ((S 0 12).toNatClampNeg) p1) 0 12).toNatClampNeg) p2) 3 (((k_w (k_w S 1 ((S 0 12).toNatClampNeg) p1) 2 (((k_w S 1 ((S 0 12).toNatClampNeg) p1) 0 12).toNatClampNeg) p2) 0 12).toNatClampNeg) (0 : Int32)) 4 (((4 : Int32) * ((k_w (k_w (k_w S 1 ((S 0 12).toNatClampNeg) p1) 2 (((k_w S 1 ((S 0 12).toNatClampNeg) p1) 0 12).toNatClampNeg) p2) 3 (((k_w (k_w S 1 ((S 0 12).toNatClampNeg) p1) 2 (((k_w S 1 ((S 0 12).toNatClampNeg) p1) 0 12).toNatClampNeg) p2) 0 12).toNatClampNeg) (0 : Int32)) 0 12)).toNatClampNeg) p3) 4 ((((4 : Int32) * ((k_w (k_w (k_w (k_w S 1 ((S 0 12).toNatClampNeg) p1) 2 (((k_w S 1 ((S 0 12).toNatClampNeg) p1) 0 12).toNatClampNeg) p2) 3 (((k_w (k_w S 1 ((S 0 12).toNatClampNeg) p1) 2 (((k_w S 1 ((S 0 12).toNatClampNeg) p1) 0 12).toNatClampNeg) p2) 0 12).toNatClampNeg) (0 : Int32)) 4 (((4 : Int32) * ((k_w (k_w (k_w S 1 ((S 0 12).toNatClampNeg) p1) 2 (((k_w S 1 ((S 0 12).toNatClampNeg) p1) 0 12).toNatClampNeg) p2) 3 (((k_w (k_w S 1 ((S 0 12).toNatClampNeg) p1) 2 (((k_w S 1 ((S 0 12).toNatClampNeg) p1) 0 12).toNatClampNeg) p2) 0 12).toNatClampNeg) (0 : Int32)) 0 12)).toNatClampNeg) p3) 0 12)) + (1 : Int32)).toNatClampNeg) p4) 0 12)) + (2 : Int32)).toNatClampNeg) p5) 4 ((((4 : Int32) * ((k_w (k_w (k_w (k_w (k_w (k_w S 1 ((S 0 12).toNatClampNeg) p1) 2 (((k_w S 1 ((S 0 12).toNatClampNeg) p1) 0 12).toNatClampNeg) p2) 3 (((k_w (k_w S 1 ((S 0 12).toNatClampNeg) p1) 2 (((k_w S 1 ((S 0 12).toNatClampNeg) p1) 0 12).toNatClampNeg) p2) 0 12).toNatClampNeg) (0 : Int32)) 4 (((4 : Int32) * ((k_w (k_w (k_w S 1 ((S 0 12).toNatClampNeg) p1) 2 (((k_w S 1 ((S 0 12).toNatClampNeg) p1) 0 12).toNatClampNeg) p2) 3 (((k_w (k_w S 1 ((S 0 12).toNatClampNeg) p1) 2 (((k_w S 1 ((S 0 12).toNatClampNeg) p1) 0 12).toNatClampNeg) p2) 0 12).toNatClampNeg) (0 : Int32)) 0 12)).toNatClampNeg) p3) 4 ((((4 : Int32) * ((k_w (k_w (k_w (k_w S 1 ((S 0 12).toNatClampNeg) p1) 2 (((k_w S 1 ((S 0 12).toNatClampNeg) p1) 0 12).toNatClampNeg) p2) 3 (((k_w (k_w S 1 ((S 0 12).toNatClampNeg) p1) 2 (((k_w S 1 ((S 0 12).toNatClampNeg) p1) 0 12).toNatClampNeg) p2) 0 12).toNatClampNeg) (0 : Int32)) 4 (((4 : Int32) * ((k_w (k_w (k_w S 1 ((S 0 12).toNatClampNeg) p1) 2 (((k_w S 1 ((S 0 12).toNatClampNeg) p1) 0 12).toNatClampNeg) p2) 3 (((k_w (k_w S 1 ((S 0 12).toNatClampNeg) p1) 2 (((k_w S 1 ((S 0 12).toNatClampNeg) p1) 0 12).toNatClampNeg) p2) 0 12).toNatClampNeg) (0 : Int32)) 0 12)).toNatClampNeg) p3) 0 12)) + (1 : Int32)).toNatClampNeg) p4) 4 ((((4 : Int32) * ((k_w (k_w (k_w (k_w (k_w S 1 ((S 0 12).toNatClampNeg) p1) 2 (((k_w S 1 ((S 0 12).toNatClampNeg) p1) 0 12).toNatClampNeg) p2) 3 (((k_w (k_w S 1 ((S 0 12).toNatClampNeg) p1) 2 (((k_w S 1 ((S 0 12).toNatClampNeg) p1) 0 12).toNatClampNeg) p2) 0 12).toNatClampNeg) (0 : Int32)) 4 (((4 : Int32) * ((k_w (k_w (k_w S 1 ((S 0 12).toNatClampNeg) p1) 2 (((k_w S 1 ((S 0 12).toNatClampNeg) p1) 0 12).toNatClampNeg) p2) 3 (((k_w (k_w S 1 ((S 0 12).toNatClampNeg) p1) 2 (((k_w S 1 ((S 0 12).toNatClampNeg) p1) 0 12).toNatClampNeg) p2) 0 12).toNatClampNeg) (0 : Int32)) 0 12)).toNatClampNeg) p3) 4 ((((4 : Int32) * ((k_w (k_w (k_w (k_w S 1 ((S 0 12).toNatClampNeg) p1) 2 (((k_w S 1 ((S 0 12).toNatClampNeg) p1) 0 12).toNatClampNeg) p2) 3 (((k_w (k_w S 1 ((S 0 12).toNatClampNeg) p1) 2 (((k_w S 1 ((S 0 12).toNatClampNeg) p1) 0 12).toNatClampNeg) p2) 0 12).toNatClampNeg) (0 : Int32)) 4 (((4 : Int32) * ((k_w (k_w (k_w S 1 ((S 0 12).toNatClampNeg) p1) 2 (((k_w S 1 ((S 0 12).toNatClampNeg) p1) 0 12).toNatClampNeg) p2) 3 (((k_w (k_w S 1 ((S 0 12).toNatClampNeg) p1) 2 (((k_w S 1 ((S 0 12).toNatClampNeg) p1) 0 12).toNatClampNeg) p2) 0 12).toNatClampNeg) (0 : Int32)) 0 12)).toNatClampNeg) p3) 0 12)) + (1 : Int32)).toNatClampNeg) p4) 0 12)) + (2 : Int32)).toNatClampNeg) p5) 0 12)) + (3 : Int32)).toNatClampNeg) p6) 0 12) + (1 : Int32)))
    have hD := hDA (k_w (k_w (k_w (k_w (k_w (k_w (k_w (k_w S 1 ((S 0 12).toNatClampNeg) p1) 2 (((k_w S 1 ((S 0 12).toNatClampNeg) p1) 0 12).toNatClampNeg) p2) 3 (((k_w (k_w S 1 ((S 0 12).toNatClampNeg) p1) 2 (((k_w S 1 ((S 0 12).toNatClampNeg) p1) 0 12).toNatClampNeg) p2) 0 12).toNatClampNeg) (0 : Int32)) 4 (((4 : Int32) * ((k_w (k_w (k_w S 1 ((S 0 12).toNatClampNeg) p1) 2 (((k_w S 1 ((S 0 12).toNatClampNeg) p1) 0 12).toNatClampNeg) p2) 3 (((k_w (k_w S 1 ((S 0 12).toNatClampNeg) p1) 2 (((k_w S 1 ((S 0 12).toNatClampNeg) p1) 0 12).toNatClampNeg) p2) 0 12).toNatClampNeg) (0 : Int32)) 0 12)).toNatClampNeg) p3) 4 ((((4 : Int32) * ((k_w (k_w (k_w (k_w S 1 ((S 0 12).toNatClampNeg) p1) 2 (((k_w S 1 ((S 0 12).toNatClampNeg) p1) 0 12).toNatClampNeg) p2) 3 (((k_w (k_w S 1 ((S 0 12).toNatClampNeg) p1) 2 (((k_w S 1 ((S 0 12).toNatClampNeg) p1) 0 12).toNatClampNeg) p2) 0 12).toNatClampNeg) (0 : Int32)) 4 (((4 : Int32) * ((k_w (k_w (k_w S 1 ((S 0 12).toNatClampNeg) p1) 2 (((k_w S 1 ((S 0 12).toNatClampNeg) p1) 0 12).toNatClampNeg) p2) 3 (((k_w (k_w S 1 ((S 0 12).toNatClampNeg) p1) 2 (((k_w S 1 ((S 0 12).toNatClampNeg) p1) 0 12).toNatClampNeg) p2) 0 12).toNatClampNeg) (0 : Int32)) 0 12)).toNatClampNeg) p3) 0 12)) + (1 : Int32)).toNatClampNeg) p4) 4 ((((4 : Int32) * ((k_w (k_w (k_w (k_w (k_w S 1 ((S 0 12).toNatClampNeg) p1) 2 (((k_w S 1 ((S 0 12).toNatClampNeg) p1) 0 12).toNatClampNeg) p2) 3 (((k_w (k_w S 1 ((S 0 12).toNatClampNeg) p1) 2 (((k_w S 1 ((S 0 12).toNatClampNeg) p1) 0 12).toNatClampNeg) p2) 0 12).toNatClampNeg) (0 : Int32)) 4 (((4 : Int32) * ((k_w (k_w (k_w S 1 ((S 0 12).toNatClampNeg) p1) 2 (((k_w S 1 ((S 0 12).toNatClampNeg) p1) 0 12).toNatClampNeg) p2) 3 (((k_w (k_w S 1 ((S 0 12).toNatClampNeg) p1) 2 (((k_w S 1 ((S 0 12).toNatClampNeg) p1) 0 12).toNatClampNeg) p2) 0 12).toNatClampNeg) (0 : Int32)) 0 12)).toNatClampNeg) p3) 4 ((((4 : Int32) * ((k_w (k_w (k_w (k_w S 1 ((S 0 12).toNatClampNeg) p1) 2 (((k_w S 1 ((S 0 12).toNatClampNeg) p1) 0 12).toNatClampNeg) p2) 3 (((k_w (k_w S 1 ((S 0 12).toNatClampNeg) p1) 2 (((k_w S 1 ((S 0 12).toNatClampNeg) p1) 0 12).toNatClampNeg) p2) 0 12).toNatClampNeg) (0 : Int32)) 4 (((4 : Int32) * ((k_w (k_w (k_w S 1 ((S 0 12).toNatClampNeg) p1) 2 (((k_w S 1 ((S 0 12).toNatClampNeg) p1) 0 12).toNatClampNeg) p2) 3 (((k_w (k_w S 1 ((S 0 12).toNatClampNeg) p1) 2 (((k_w S 1 ((S 0 12).toNatClampNeg) p1) 0 12).toNatClampNeg) p2) 0 12).toNatClampNeg) (0 : Int32)) 0 12)).toNatClampNeg) p3) 0 12)) + (1 : Int32)).toNatClampNeg) p4) 0 12)) + (2 : Int32)).toNatClampNeg) p5) 4 ((((4 : Int32) * ((k_w (k_w (k_w (k_w (k_w (k_w S 1 ((S 0 12).toNatClampNeg) p1) 2 (((k_w S 1 ((S 0 12).toNatClampNeg) p1) 0 12).toNatClampNeg) p2) 3 (((k_w (k_w S 1 ((S 0 12).toNatClampNeg) p1) 2 (((k_w S 1 ((S 0 12).toNatClampNeg) p1) 0 12).toNatClampNeg) p2) 0 12).toNatClampNeg) (0 : Int32)) 4 (((4 : Int32) * ((k_w (k_w (k_w S 1 ((S 0 12).toNatClampNeg) p1) 2 (((k_w S 1 ((S 0 12).toNatClampNeg) p1) 0 12).toNatClampNeg) p2) 3 (((k_w (k_w S 1 ((S 0 12).toNatClampNeg) p1) 2 (((k_w S 1 ((S 0 12).toNatClampNeg) p1) 0 12).toNatClampNeg) p2) 0 12).toNatClampNeg) (0 : Int32)) 0 12)).toNatClampNeg) p3) 4 ((((4 : Int32) * ((k_w (k_w (k_w (k_w S 1 ((S 0 12).toNatClampNeg) p1) 2 (((k_w S 1 ((S 0 12).toNatClampNeg) p1) 0 12).toNatClampNeg) p2) 3 (((k_w (k_w S 1 ((S 0 12).toNatClampNeg) p1) 2 (((k_w S 1 ((S 0 12).toNatClampNeg) p1) 0 12).toNatClampNeg) p2) 0 12).toNatClampNeg) (0 : Int32)) 4 (((4 : Int32) * ((k_w (k_w (k_w S 1 ((S 0 12).toNatClampNeg) p1) 2 (((k_w S 1 ((S 0 12).toNatClampNeg) p1) 0 12).toNatClampNeg) p2) 3 (((k_w (k_w S 1 ((S 0 12).toNatClampNeg) p1) 2 (((k_w S 1 ((S 0 12).toNatClampNeg) p1) 0 12).toNatClampNeg) p2) 0 12).toNatClampNeg) (0 : Int32)) 0 12)).toNatClampNeg) p3) 0 12)) + (1 : Int32)).toNatClampNeg) p4) 4 ((((4 : Int32) * ((k_w (k_w (k_w (k_w (k_w S 1 ((S 0 12).toNatClampNeg) p1) 2 (((k_w S 1 ((S 0 12).toNatClampNeg) p1) 0 12).toNatClampNeg) p2) 3 (((k_w (k_w S 1 ((S 0 12).toNatClampNeg) p1) 2 (((k_w S 1 ((S 0 12).toNatClampNeg) p1) 0 12).toNatClampNeg) p2) 0 12).toNatClampNeg) (0 : Int32)) 4 (((4 : Int32) * ((k_w (k_w (k_w S 1 ((S 0 12).toNatClampNeg) p1) 2 (((k_w S 1 ((S 0 12).toNatClampNeg) p1) 0 12).toNatClampNeg) p2) 3 (((k_w (k_w S 1 ((S 0 12).toNatClampNeg) p1) 2 (((k_w S 1 ((S 0 12).toNatClampNeg) p1) 0 12).toNatClampNeg) p2) 0 12).toNatClampNeg) (0 : Int32)) 0 12)).toNatClampNeg) p3) 4 ((((4 : Int32) * ((k_w (k_w (k_w (k_w S 1 ((S 0 12).toNatClampNeg) p1) 2 (((k_w S 1 ((S 0 12).toNatClampNeg) p1) 0 12).toNatClampNeg) p2) 3 (((k_w (k_w S 1 ((S 0 12).toNatClampNeg) p1) 2 (((k_w S 1 ((S 0 12).toNatClampNeg) p1) 0 12).toNatClampNeg) p2) 0 12).toNatClampNeg) (0 : Int32)) 4 (((4 : Int32) * ((k_w (k_w (k_w S 1 ((S 0 12).toNatClampNeg) p1) 2 (((k_w S 1 ((S 0 12).toNatClampNeg) p1) 0 12).toNatClampNeg) p2) 3 (((k_w (k_w S 1 ((S 0 12).toNatClampNeg) p1) 2 (((k_w S 1 ((S 0 12).toNatClampNeg) p1) 0 12).toNatClampNeg) p2) 0 12).toNatClampNeg) (0 : Int32)) 0 12)).toNatClampNeg) p3) 0 12)) + (1 : Int32)).toNatClampNeg) p4) 0 12)) + (2 : Int32)).toNatClampNeg) p5) 0 12)) + (3 : Int32)).toNatClampNeg) p6) 0 12 (((k_w (k_w (k_w (k_w (k_w (k_w (k_w S 1 ((S 0 12).toNatClampNeg) p1) 2 (((k_w S 1 ((S 0 12).toNatClampNeg) p1) 0 12).toNatClampNeg) p2) 3 (((k_w (k_w S 1 ((S 0 12).toNatClampNeg) p1) 2 (((k_w S 1 ((S 0 12).toNatClampNeg) p1) 0 12).toNatClampNeg) p2) 0 12).toNatClampNeg) (0 : Int32)) 4 (((4 : Int32) * ((k_w (k_w (k_w S 1 ((S 0 12).toNatClampNeg) p1) 2 (((k_w S 1 ((S 0 12).toNatClampNeg) p1) 0 12).toNatClampNeg) p2) 3 (((k_w (k_w S 1 ((S 0 12).toNatClampNeg) p1) 2 (((k_w S 1 ((S 0 12).toNatClampNeg) p1) 0 12).toNatClampNeg) p2) 0 12).toNatClampNeg) (0 : Int32)) 0 12)).toNatClampNeg) p3) 4 ((((4 : Int32) * ((k_w (k_w (k_w (k_w S 1 ((S 0 12).toNatClampNeg) p1) 2 (((k_w S 1 ((S 0 12).toNatClampNeg) p1) 0 12).toNatClampNeg) p2) 3 (((k_w (k_w S 1 ((S 0 12).toNatClampNeg) p1) 2 (((k_w S 1 ((S 0 12).toNatClampNeg) p1) 0 12).toNatClampNeg) p2) 0 12).toNatClampNeg) (0 : Int32)) 4 (((4 : Int32) * ((k_w (k_w (k_w S 1 ((S 0 12).toNatClampNeg) p1) 2 (((k_w S 1 ((S 0 12).toNatClampNeg) p1) 0 12).toNatClampNeg) p2) 3 (((k_w (k_w S 1 ((S 0 12).toNatClampNeg) p1) 2 (((k_w S 1 ((S 0 12).toNatClampNeg) p1) 0 12).toNatClampNeg) p2) 0 12).toNatClampNeg) (0 : Int32)) 0 12)).toNatClampNeg) p3) 0 12)) + (1 : Int32)).toNatClampNeg) p4) 4 ((((4 : Int32) * ((k_w (k_w (k_w (k_w (k_w S 1 ((S 0 12).toNatClampNeg) p1) 2 (((k_w S 1 ((S 0 12).toNatClampNeg) p1) 0 12).toNatClampNeg) p2) 3 (((k_w (k_w S 1 ((S 0 12).toNatClampNeg) p1) 2 (((k_w S 1 ((S 0 12).toNatClampNeg) p1) 0 12).toNatClampNeg) p2) 0 12).toNatClampNeg) (0 : Int32)) 4 (((4 : Int32) * ((k_w (k_w (k_w S 1 ((S 0 12).toNatClampNeg) p1) 2 (((k_w S 1 ((S 0 12).toNatClampNeg) p1) 0 12).toNatClampNeg) p2) 3 (((k_w (k_w S 1 ((S 0 12).toNatClampNeg) p1) 2 (((k_w S 1 ((S 0 12).toNatClampNeg) p1) 0 12).toNatClampNeg) p2) 0 12).toNatClampNeg) (0 : Int32)) 0 12)).toNatClampNeg) p3) 4 ((((4 : Int32) * ((k_w (k_w (k_w (k_w S 1 ((S 0 12).toNatClampNeg) p1) 2 (((k_w S 1 ((S 0 12).toNatClampNeg) p1) 0 12).toNatClampNeg) p2) 3 (((k_w (k_w S 1 ((S 0 12).toNatClampNeg) p1) 2 (((k_w S 1 ((S 0 12).toNatClampNeg) p1) 0 12).toNatClampNeg) p2) 0 12).toNatClampNeg) (0 : Int32)) 4 (((4 : Int32) * ((k_w (k_w (k_w S 1 ((S 0 12).toNatClampNeg) p1) 2 (((k_w S 1 ((S 0 12).toNatClampNeg) p1) 0 12).toNatClampNeg) p2) 3 (((k_w (k_w S 1 ((S 0 12).toNatClampNeg) p1) 2 (((k_w S 1 ((S 0 12).toNatClampNeg) p1) 0 12).toNatClampNeg) p2) 0 12).toNatClampNeg) (0 : Int32)) 0 12)).toNatClampNeg) p3) 0 12)) + (1 : Int32)).toNatClampNeg) p4) 0 12)) + (2 : Int32)).toNatClampNeg) p5) 4 ((((4 : Int32) * ((k_w (k_w (k_w (k_w (k_w (k_w S 1 ((S 0 12).toNatClampNeg) p1) 2 (((k_w S 1 ((S 0 12).toNatClampNeg) p1) 0 12).toNatClampNeg) p2) 3 (((k_w (k_w S 1 ((S 0 12).toNatClampNeg) p1) 2 (((k_w S 1 ((S 0 12).toNatClampNeg) p1) 0 12).toNatClampNeg) p2) 0 12).toNatClampNeg) (0 : Int32)) 4 (((4 : Int32) * ((k_w (k_w (k_w S 1 ((S 0 12).toNatClampNeg) p1) 2 (((k_w S 1 ((S 0 12).toNatClampNeg) p1) 0 12).toNatClampNeg) p2) 3 (((k_w (k_w S 1 ((S 0 12).toNatClampNeg) p1) 2 (((k_w S 1 ((S 0 12).toNatClampNeg) p1) 0 12).toNatClampNeg) p2) 0 12).toNatClampNeg) (0 : Int32)) 0 12)).toNatClampNeg) p3) 4 ((((4 : Int32) * ((k_w (k_w (k_w (k_w S 1 ((S 0 12).toNatClampNeg) p1) 2 (((k_w S 1 ((S 0 12).toNatClampNeg) p1) 0 12).toNatClampNeg) p2) 3 (((k_w (k_w S 1 ((S 0 12).toNatClampNeg) p1) 2 (((k_w S 1 ((S 0 12).toNatClampNeg) p1) 0 12).toNatClampNeg) p2) 0 12).toNatClampNeg) (0 : Int32)) 4 (((4 : Int32) * ((k_w (k_w (k_w S 1 ((S 0 12).toNatClampNeg) p1) 2 (((k_w S 1 ((S 0 12).toNatClampNeg) p1) 0 12).toNatClampNeg) p2) 3 (((k_w (k_w S 1 ((S 0 12).toNatClampNeg) p1) 2 (((k_w S 1 ((S 0 12).toNatClampNeg) p1) 0 12).toNatClampNeg) p2) 0 12).toNatClampNeg) (0 : Int32)) 0 12)).toNatClampNeg) p3) 0 12)) + (1 : Int32)).toNatClampNeg) p4) 4 ((((4 : Int32) * ((k_w (k_w (k_w (k_w (k_w S 1 ((S 0 12).toNatClampNeg) p1) 2 (((k_w S 1 ((S 0 12).toNatClampNeg) p1) 0 12).toNatClampNeg) p2) 3 (((k_w (k_w S 1 ((S 0 12).toNatClampNeg) p1) 2 (((k_w S 1 ((S 0 12).toNatClampNeg) p1) 0 12).toNatClampNeg) p2) 0 12).toNatClampNeg) (0 : Int32)) 4 (((4 : Int32) * ((k_w (k_w (k_w S 1 ((S 0 12).toNatClampNeg) p1) 2 (((k_w S 1 ((S 0 12).toNatClampNeg) p1) 0 12).toNatClampNeg) p2) 3 (((k_w (k_w S 1 ((S 0 12).toNatClampNeg) p1) 2 (((k_w S 1 ((S 0 12).toNatClampNeg) p1) 0 12).toNatClampNeg) p2) 0 12).toNatClampNeg) (0 : Int32)) 0 12)).toNatClampNeg) p3) 4 ((((4 : Int32) * ((k_w (k_w (k_w (k_w S 1 ((S 0 12).toNatClampNeg) p1) 2 (((k_w S 1 ((S 0 12).toNatClampNeg) p1) 0 12).toNatClampNeg) p2) 3 (((k_w (k_w S 1 ((S 0 12).toNatClampNeg) p1) 2 (((k_w S 1 ((S 0 12).toNatClampNeg) p1) 0 12).toNatClampNeg) p2) 0 12).toNatClampNeg) (0 : Int32)) 4 (((4 : Int32) * ((k_w (k_w (k_w S 1 ((S 0 12).toNatClampNeg) p1) 2 (((k_w S 1 ((S 0 12).toNatClampNeg) p1) 0 12).toNatClampNeg) p2) 3 (((k_w (k_w S 1 ((S 0 12).toNatClampNeg) p1) 2 (((k_w S 1 ((S 0 12).toNatClampNeg) p1) 0 12).toNatClampNeg) p2) 0 12).toNatClampNeg) (0 : Int32)) 0 12)).toNatClampNeg) p3) 0 12)) + (1 : Int32)).toNatClampNeg) p4) 0 12)) + (2 : Int32)).toNatClampNeg) p5) 0 12)) + (3 : Int32)).toNatClampNeg) p6) 0 12) + (1 : Int32)))
    refine lv_aload_n hx hb dX5_addPerson_107 rfl (lv_at hl 0 rfl) ?_
    refine va_get (D := D) (ci := 3) (v := .ref (a 14)) (C := RX5) (T := TX5) (N := 15) hx hb hts (fun w h => List.mem_cons_of_mem _ (List.mem_append_left _ (List.mem_append_right _ h))) hown hK hP 0 rfl rfl 11 (by decide) (hts (.fieldLink RX5 51 "LeastNeed$Valley" "past" "LLeastNeed$Rows;") (List.mem_of_getElem? (i := 6) rfl)) (fun _ h9 => h9) rfl dX5_addPerson_108 ?_
    refine lv_iconst (v := (0 : Int32)) hx hb dX5_addPerson_111 (by decide) ?_
    refine va_put (D := D) (ci := 2) (v := .int (0 : Int32)) (ty := .int) (C := RX3) (T := TX3) (N := 4) hx hb hts (fun w h => List.mem_cons_of_mem _ (List.mem_append_right _ h)) tyX3 tyX3_ok nmX3 hown hK hP hD hS 14 rfl rfl 3 (by decide) (hts (.fieldLink RX5 64 "LeastNeed$Rows" "used" "I") (List.mem_of_getElem? (i := 7) rfl)) (fun _ h9 => h9) rfl (by decide +kernel) rfl rfl (Nat.le_of_ble_eq_true rfl) dX5_addPerson_112 (fun H locs hP hD hS => ?_)
    have hP : va_P D vwCl (wX5 cs a (k_w (k_w (k_w (k_w (k_w (k_w (k_w (k_w (k_w S 1 ((S 0 12).toNatClampNeg) p1) 2 (((k_w S 1 ((S 0 12).toNatClampNeg) p1) 0 12).toNatClampNeg) p2) 3 (((k_w (k_w S 1 ((S 0 12).toNatClampNeg) p1) 2 (((k_w S 1 ((S 0 12).toNatClampNeg) p1) 0 12).toNatClampNeg) p2) 0 12).toNatClampNeg) (0 : Int32)) 4 (((4 : Int32) * ((k_w (k_w (k_w S 1 ((S 0 12).toNatClampNeg) p1) 2 (((k_w S 1 ((S 0 12).toNatClampNeg) p1) 0 12).toNatClampNeg) p2) 3 (((k_w (k_w S 1 ((S 0 12).toNatClampNeg) p1) 2 (((k_w S 1 ((S 0 12).toNatClampNeg) p1) 0 12).toNatClampNeg) p2) 0 12).toNatClampNeg) (0 : Int32)) 0 12)).toNatClampNeg) p3) 4 ((((4 : Int32) * ((k_w (k_w (k_w (k_w S 1 ((S 0 12).toNatClampNeg) p1) 2 (((k_w S 1 ((S 0 12).toNatClampNeg) p1) 0 12).toNatClampNeg) p2) 3 (((k_w (k_w S 1 ((S 0 12).toNatClampNeg) p1) 2 (((k_w S 1 ((S 0 12).toNatClampNeg) p1) 0 12).toNatClampNeg) p2) 0 12).toNatClampNeg) (0 : Int32)) 4 (((4 : Int32) * ((k_w (k_w (k_w S 1 ((S 0 12).toNatClampNeg) p1) 2 (((k_w S 1 ((S 0 12).toNatClampNeg) p1) 0 12).toNatClampNeg) p2) 3 (((k_w (k_w S 1 ((S 0 12).toNatClampNeg) p1) 2 (((k_w S 1 ((S 0 12).toNatClampNeg) p1) 0 12).toNatClampNeg) p2) 0 12).toNatClampNeg) (0 : Int32)) 0 12)).toNatClampNeg) p3) 0 12)) + (1 : Int32)).toNatClampNeg) p4) 4 ((((4 : Int32) * ((k_w (k_w (k_w (k_w (k_w S 1 ((S 0 12).toNatClampNeg) p1) 2 (((k_w S 1 ((S 0 12).toNatClampNeg) p1) 0 12).toNatClampNeg) p2) 3 (((k_w (k_w S 1 ((S 0 12).toNatClampNeg) p1) 2 (((k_w S 1 ((S 0 12).toNatClampNeg) p1) 0 12).toNatClampNeg) p2) 0 12).toNatClampNeg) (0 : Int32)) 4 (((4 : Int32) * ((k_w (k_w (k_w S 1 ((S 0 12).toNatClampNeg) p1) 2 (((k_w S 1 ((S 0 12).toNatClampNeg) p1) 0 12).toNatClampNeg) p2) 3 (((k_w (k_w S 1 ((S 0 12).toNatClampNeg) p1) 2 (((k_w S 1 ((S 0 12).toNatClampNeg) p1) 0 12).toNatClampNeg) p2) 0 12).toNatClampNeg) (0 : Int32)) 0 12)).toNatClampNeg) p3) 4 ((((4 : Int32) * ((k_w (k_w (k_w (k_w S 1 ((S 0 12).toNatClampNeg) p1) 2 (((k_w S 1 ((S 0 12).toNatClampNeg) p1) 0 12).toNatClampNeg) p2) 3 (((k_w (k_w S 1 ((S 0 12).toNatClampNeg) p1) 2 (((k_w S 1 ((S 0 12).toNatClampNeg) p1) 0 12).toNatClampNeg) p2) 0 12).toNatClampNeg) (0 : Int32)) 4 (((4 : Int32) * ((k_w (k_w (k_w S 1 ((S 0 12).toNatClampNeg) p1) 2 (((k_w S 1 ((S 0 12).toNatClampNeg) p1) 0 12).toNatClampNeg) p2) 3 (((k_w (k_w S 1 ((S 0 12).toNatClampNeg) p1) 2 (((k_w S 1 ((S 0 12).toNatClampNeg) p1) 0 12).toNatClampNeg) p2) 0 12).toNatClampNeg) (0 : Int32)) 0 12)).toNatClampNeg) p3) 0 12)) + (1 : Int32)).toNatClampNeg) p4) 0 12)) + (2 : Int32)).toNatClampNeg) p5) 4 ((((4 : Int32) * ((k_w (k_w (k_w (k_w (k_w (k_w S 1 ((S 0 12).toNatClampNeg) p1) 2 (((k_w S 1 ((S 0 12).toNatClampNeg) p1) 0 12).toNatClampNeg) p2) 3 (((k_w (k_w S 1 ((S 0 12).toNatClampNeg) p1) 2 (((k_w S 1 ((S 0 12).toNatClampNeg) p1) 0 12).toNatClampNeg) p2) 0 12).toNatClampNeg) (0 : Int32)) 4 (((4 : Int32) * ((k_w (k_w (k_w S 1 ((S 0 12).toNatClampNeg) p1) 2 (((k_w S 1 ((S 0 12).toNatClampNeg) p1) 0 12).toNatClampNeg) p2) 3 (((k_w (k_w S 1 ((S 0 12).toNatClampNeg) p1) 2 (((k_w S 1 ((S 0 12).toNatClampNeg) p1) 0 12).toNatClampNeg) p2) 0 12).toNatClampNeg) (0 : Int32)) 0 12)).toNatClampNeg) p3) 4 ((((4 : Int32) * ((k_w (k_w (k_w (k_w S 1 ((S 0 12).toNatClampNeg) p1) 2 (((k_w S 1 ((S 0 12).toNatClampNeg) p1) 0 12).toNatClampNeg) p2) 3 (((k_w (k_w S 1 ((S 0 12).toNatClampNeg) p1) 2 (((k_w S 1 ((S 0 12).toNatClampNeg) p1) 0 12).toNatClampNeg) p2) 0 12).toNatClampNeg) (0 : Int32)) 4 (((4 : Int32) * ((k_w (k_w (k_w S 1 ((S 0 12).toNatClampNeg) p1) 2 (((k_w S 1 ((S 0 12).toNatClampNeg) p1) 0 12).toNatClampNeg) p2) 3 (((k_w (k_w S 1 ((S 0 12).toNatClampNeg) p1) 2 (((k_w S 1 ((S 0 12).toNatClampNeg) p1) 0 12).toNatClampNeg) p2) 0 12).toNatClampNeg) (0 : Int32)) 0 12)).toNatClampNeg) p3) 0 12)) + (1 : Int32)).toNatClampNeg) p4) 4 ((((4 : Int32) * ((k_w (k_w (k_w (k_w (k_w S 1 ((S 0 12).toNatClampNeg) p1) 2 (((k_w S 1 ((S 0 12).toNatClampNeg) p1) 0 12).toNatClampNeg) p2) 3 (((k_w (k_w S 1 ((S 0 12).toNatClampNeg) p1) 2 (((k_w S 1 ((S 0 12).toNatClampNeg) p1) 0 12).toNatClampNeg) p2) 0 12).toNatClampNeg) (0 : Int32)) 4 (((4 : Int32) * ((k_w (k_w (k_w S 1 ((S 0 12).toNatClampNeg) p1) 2 (((k_w S 1 ((S 0 12).toNatClampNeg) p1) 0 12).toNatClampNeg) p2) 3 (((k_w (k_w S 1 ((S 0 12).toNatClampNeg) p1) 2 (((k_w S 1 ((S 0 12).toNatClampNeg) p1) 0 12).toNatClampNeg) p2) 0 12).toNatClampNeg) (0 : Int32)) 0 12)).toNatClampNeg) p3) 4 ((((4 : Int32) * ((k_w (k_w (k_w (k_w S 1 ((S 0 12).toNatClampNeg) p1) 2 (((k_w S 1 ((S 0 12).toNatClampNeg) p1) 0 12).toNatClampNeg) p2) 3 (((k_w (k_w S 1 ((S 0 12).toNatClampNeg) p1) 2 (((k_w S 1 ((S 0 12).toNatClampNeg) p1) 0 12).toNatClampNeg) p2) 0 12).toNatClampNeg) (0 : Int32)) 4 (((4 : Int32) * ((k_w (k_w (k_w S 1 ((S 0 12).toNatClampNeg) p1) 2 (((k_w S 1 ((S 0 12).toNatClampNeg) p1) 0 12).toNatClampNeg) p2) 3 (((k_w (k_w S 1 ((S 0 12).toNatClampNeg) p1) 2 (((k_w S 1 ((S 0 12).toNatClampNeg) p1) 0 12).toNatClampNeg) p2) 0 12).toNatClampNeg) (0 : Int32)) 0 12)).toNatClampNeg) p3) 0 12)) + (1 : Int32)).toNatClampNeg) p4) 0 12)) + (2 : Int32)).toNatClampNeg) p5) 0 12)) + (3 : Int32)).toNatClampNeg) p6) 0 12 (((k_w (k_w (k_w (k_w (k_w (k_w (k_w S 1 ((S 0 12).toNatClampNeg) p1) 2 (((k_w S 1 ((S 0 12).toNatClampNeg) p1) 0 12).toNatClampNeg) p2) 3 (((k_w (k_w S 1 ((S 0 12).toNatClampNeg) p1) 2 (((k_w S 1 ((S 0 12).toNatClampNeg) p1) 0 12).toNatClampNeg) p2) 0 12).toNatClampNeg) (0 : Int32)) 4 (((4 : Int32) * ((k_w (k_w (k_w S 1 ((S 0 12).toNatClampNeg) p1) 2 (((k_w S 1 ((S 0 12).toNatClampNeg) p1) 0 12).toNatClampNeg) p2) 3 (((k_w (k_w S 1 ((S 0 12).toNatClampNeg) p1) 2 (((k_w S 1 ((S 0 12).toNatClampNeg) p1) 0 12).toNatClampNeg) p2) 0 12).toNatClampNeg) (0 : Int32)) 0 12)).toNatClampNeg) p3) 4 ((((4 : Int32) * ((k_w (k_w (k_w (k_w S 1 ((S 0 12).toNatClampNeg) p1) 2 (((k_w S 1 ((S 0 12).toNatClampNeg) p1) 0 12).toNatClampNeg) p2) 3 (((k_w (k_w S 1 ((S 0 12).toNatClampNeg) p1) 2 (((k_w S 1 ((S 0 12).toNatClampNeg) p1) 0 12).toNatClampNeg) p2) 0 12).toNatClampNeg) (0 : Int32)) 4 (((4 : Int32) * ((k_w (k_w (k_w S 1 ((S 0 12).toNatClampNeg) p1) 2 (((k_w S 1 ((S 0 12).toNatClampNeg) p1) 0 12).toNatClampNeg) p2) 3 (((k_w (k_w S 1 ((S 0 12).toNatClampNeg) p1) 2 (((k_w S 1 ((S 0 12).toNatClampNeg) p1) 0 12).toNatClampNeg) p2) 0 12).toNatClampNeg) (0 : Int32)) 0 12)).toNatClampNeg) p3) 0 12)) + (1 : Int32)).toNatClampNeg) p4) 4 ((((4 : Int32) * ((k_w (k_w (k_w (k_w (k_w S 1 ((S 0 12).toNatClampNeg) p1) 2 (((k_w S 1 ((S 0 12).toNatClampNeg) p1) 0 12).toNatClampNeg) p2) 3 (((k_w (k_w S 1 ((S 0 12).toNatClampNeg) p1) 2 (((k_w S 1 ((S 0 12).toNatClampNeg) p1) 0 12).toNatClampNeg) p2) 0 12).toNatClampNeg) (0 : Int32)) 4 (((4 : Int32) * ((k_w (k_w (k_w S 1 ((S 0 12).toNatClampNeg) p1) 2 (((k_w S 1 ((S 0 12).toNatClampNeg) p1) 0 12).toNatClampNeg) p2) 3 (((k_w (k_w S 1 ((S 0 12).toNatClampNeg) p1) 2 (((k_w S 1 ((S 0 12).toNatClampNeg) p1) 0 12).toNatClampNeg) p2) 0 12).toNatClampNeg) (0 : Int32)) 0 12)).toNatClampNeg) p3) 4 ((((4 : Int32) * ((k_w (k_w (k_w (k_w S 1 ((S 0 12).toNatClampNeg) p1) 2 (((k_w S 1 ((S 0 12).toNatClampNeg) p1) 0 12).toNatClampNeg) p2) 3 (((k_w (k_w S 1 ((S 0 12).toNatClampNeg) p1) 2 (((k_w S 1 ((S 0 12).toNatClampNeg) p1) 0 12).toNatClampNeg) p2) 0 12).toNatClampNeg) (0 : Int32)) 4 (((4 : Int32) * ((k_w (k_w (k_w S 1 ((S 0 12).toNatClampNeg) p1) 2 (((k_w S 1 ((S 0 12).toNatClampNeg) p1) 0 12).toNatClampNeg) p2) 3 (((k_w (k_w S 1 ((S 0 12).toNatClampNeg) p1) 2 (((k_w S 1 ((S 0 12).toNatClampNeg) p1) 0 12).toNatClampNeg) p2) 0 12).toNatClampNeg) (0 : Int32)) 0 12)).toNatClampNeg) p3) 0 12)) + (1 : Int32)).toNatClampNeg) p4) 0 12)) + (2 : Int32)).toNatClampNeg) p5) 4 ((((4 : Int32) * ((k_w (k_w (k_w (k_w (k_w (k_w S 1 ((S 0 12).toNatClampNeg) p1) 2 (((k_w S 1 ((S 0 12).toNatClampNeg) p1) 0 12).toNatClampNeg) p2) 3 (((k_w (k_w S 1 ((S 0 12).toNatClampNeg) p1) 2 (((k_w S 1 ((S 0 12).toNatClampNeg) p1) 0 12).toNatClampNeg) p2) 0 12).toNatClampNeg) (0 : Int32)) 4 (((4 : Int32) * ((k_w (k_w (k_w S 1 ((S 0 12).toNatClampNeg) p1) 2 (((k_w S 1 ((S 0 12).toNatClampNeg) p1) 0 12).toNatClampNeg) p2) 3 (((k_w (k_w S 1 ((S 0 12).toNatClampNeg) p1) 2 (((k_w S 1 ((S 0 12).toNatClampNeg) p1) 0 12).toNatClampNeg) p2) 0 12).toNatClampNeg) (0 : Int32)) 0 12)).toNatClampNeg) p3) 4 ((((4 : Int32) * ((k_w (k_w (k_w (k_w S 1 ((S 0 12).toNatClampNeg) p1) 2 (((k_w S 1 ((S 0 12).toNatClampNeg) p1) 0 12).toNatClampNeg) p2) 3 (((k_w (k_w S 1 ((S 0 12).toNatClampNeg) p1) 2 (((k_w S 1 ((S 0 12).toNatClampNeg) p1) 0 12).toNatClampNeg) p2) 0 12).toNatClampNeg) (0 : Int32)) 4 (((4 : Int32) * ((k_w (k_w (k_w S 1 ((S 0 12).toNatClampNeg) p1) 2 (((k_w S 1 ((S 0 12).toNatClampNeg) p1) 0 12).toNatClampNeg) p2) 3 (((k_w (k_w S 1 ((S 0 12).toNatClampNeg) p1) 2 (((k_w S 1 ((S 0 12).toNatClampNeg) p1) 0 12).toNatClampNeg) p2) 0 12).toNatClampNeg) (0 : Int32)) 0 12)).toNatClampNeg) p3) 0 12)) + (1 : Int32)).toNatClampNeg) p4) 4 ((((4 : Int32) * ((k_w (k_w (k_w (k_w (k_w S 1 ((S 0 12).toNatClampNeg) p1) 2 (((k_w S 1 ((S 0 12).toNatClampNeg) p1) 0 12).toNatClampNeg) p2) 3 (((k_w (k_w S 1 ((S 0 12).toNatClampNeg) p1) 2 (((k_w S 1 ((S 0 12).toNatClampNeg) p1) 0 12).toNatClampNeg) p2) 0 12).toNatClampNeg) (0 : Int32)) 4 (((4 : Int32) * ((k_w (k_w (k_w S 1 ((S 0 12).toNatClampNeg) p1) 2 (((k_w S 1 ((S 0 12).toNatClampNeg) p1) 0 12).toNatClampNeg) p2) 3 (((k_w (k_w S 1 ((S 0 12).toNatClampNeg) p1) 2 (((k_w S 1 ((S 0 12).toNatClampNeg) p1) 0 12).toNatClampNeg) p2) 0 12).toNatClampNeg) (0 : Int32)) 0 12)).toNatClampNeg) p3) 4 ((((4 : Int32) * ((k_w (k_w (k_w (k_w S 1 ((S 0 12).toNatClampNeg) p1) 2 (((k_w S 1 ((S 0 12).toNatClampNeg) p1) 0 12).toNatClampNeg) p2) 3 (((k_w (k_w S 1 ((S 0 12).toNatClampNeg) p1) 2 (((k_w S 1 ((S 0 12).toNatClampNeg) p1) 0 12).toNatClampNeg) p2) 0 12).toNatClampNeg) (0 : Int32)) 4 (((4 : Int32) * ((k_w (k_w (k_w S 1 ((S 0 12).toNatClampNeg) p1) 2 (((k_w S 1 ((S 0 12).toNatClampNeg) p1) 0 12).toNatClampNeg) p2) 3 (((k_w (k_w S 1 ((S 0 12).toNatClampNeg) p1) 2 (((k_w S 1 ((S 0 12).toNatClampNeg) p1) 0 12).toNatClampNeg) p2) 0 12).toNatClampNeg) (0 : Int32)) 0 12)).toNatClampNeg) p3) 0 12)) + (1 : Int32)).toNatClampNeg) p4) 0 12)) + (2 : Int32)).toNatClampNeg) p5) 0 12)) + (3 : Int32)).toNatClampNeg) p6) 0 12) + (1 : Int32))) 14 3 (0 : Int32))) _ := k_eq hP (wsX5_f14_3 cs a (k_w (k_w (k_w (k_w (k_w (k_w (k_w (k_w S 1 ((S 0 12).toNatClampNeg) p1) 2 (((k_w S 1 ((S 0 12).toNatClampNeg) p1) 0 12).toNatClampNeg) p2) 3 (((k_w (k_w S 1 ((S 0 12).toNatClampNeg) p1) 2 (((k_w S 1 ((S 0 12).toNatClampNeg) p1) 0 12).toNatClampNeg) p2) 0 12).toNatClampNeg) (0 : Int32)) 4 (((4 : Int32) * ((k_w (k_w (k_w S 1 ((S 0 12).toNatClampNeg) p1) 2 (((k_w S 1 ((S 0 12).toNatClampNeg) p1) 0 12).toNatClampNeg) p2) 3 (((k_w (k_w S 1 ((S 0 12).toNatClampNeg) p1) 2 (((k_w S 1 ((S 0 12).toNatClampNeg) p1) 0 12).toNatClampNeg) p2) 0 12).toNatClampNeg) (0 : Int32)) 0 12)).toNatClampNeg) p3) 4 ((((4 : Int32) * ((k_w (k_w (k_w (k_w S 1 ((S 0 12).toNatClampNeg) p1) 2 (((k_w S 1 ((S 0 12).toNatClampNeg) p1) 0 12).toNatClampNeg) p2) 3 (((k_w (k_w S 1 ((S 0 12).toNatClampNeg) p1) 2 (((k_w S 1 ((S 0 12).toNatClampNeg) p1) 0 12).toNatClampNeg) p2) 0 12).toNatClampNeg) (0 : Int32)) 4 (((4 : Int32) * ((k_w (k_w (k_w S 1 ((S 0 12).toNatClampNeg) p1) 2 (((k_w S 1 ((S 0 12).toNatClampNeg) p1) 0 12).toNatClampNeg) p2) 3 (((k_w (k_w S 1 ((S 0 12).toNatClampNeg) p1) 2 (((k_w S 1 ((S 0 12).toNatClampNeg) p1) 0 12).toNatClampNeg) p2) 0 12).toNatClampNeg) (0 : Int32)) 0 12)).toNatClampNeg) p3) 0 12)) + (1 : Int32)).toNatClampNeg) p4) 4 ((((4 : Int32) * ((k_w (k_w (k_w (k_w (k_w S 1 ((S 0 12).toNatClampNeg) p1) 2 (((k_w S 1 ((S 0 12).toNatClampNeg) p1) 0 12).toNatClampNeg) p2) 3 (((k_w (k_w S 1 ((S 0 12).toNatClampNeg) p1) 2 (((k_w S 1 ((S 0 12).toNatClampNeg) p1) 0 12).toNatClampNeg) p2) 0 12).toNatClampNeg) (0 : Int32)) 4 (((4 : Int32) * ((k_w (k_w (k_w S 1 ((S 0 12).toNatClampNeg) p1) 2 (((k_w S 1 ((S 0 12).toNatClampNeg) p1) 0 12).toNatClampNeg) p2) 3 (((k_w (k_w S 1 ((S 0 12).toNatClampNeg) p1) 2 (((k_w S 1 ((S 0 12).toNatClampNeg) p1) 0 12).toNatClampNeg) p2) 0 12).toNatClampNeg) (0 : Int32)) 0 12)).toNatClampNeg) p3) 4 ((((4 : Int32) * ((k_w (k_w (k_w (k_w S 1 ((S 0 12).toNatClampNeg) p1) 2 (((k_w S 1 ((S 0 12).toNatClampNeg) p1) 0 12).toNatClampNeg) p2) 3 (((k_w (k_w S 1 ((S 0 12).toNatClampNeg) p1) 2 (((k_w S 1 ((S 0 12).toNatClampNeg) p1) 0 12).toNatClampNeg) p2) 0 12).toNatClampNeg) (0 : Int32)) 4 (((4 : Int32) * ((k_w (k_w (k_w S 1 ((S 0 12).toNatClampNeg) p1) 2 (((k_w S 1 ((S 0 12).toNatClampNeg) p1) 0 12).toNatClampNeg) p2) 3 (((k_w (k_w S 1 ((S 0 12).toNatClampNeg) p1) 2 (((k_w S 1 ((S 0 12).toNatClampNeg) p1) 0 12).toNatClampNeg) p2) 0 12).toNatClampNeg) (0 : Int32)) 0 12)).toNatClampNeg) p3) 0 12)) + (1 : Int32)).toNatClampNeg) p4) 0 12)) + (2 : Int32)).toNatClampNeg) p5) 4 ((((4 : Int32) * ((k_w (k_w (k_w (k_w (k_w (k_w S 1 ((S 0 12).toNatClampNeg) p1) 2 (((k_w S 1 ((S 0 12).toNatClampNeg) p1) 0 12).toNatClampNeg) p2) 3 (((k_w (k_w S 1 ((S 0 12).toNatClampNeg) p1) 2 (((k_w S 1 ((S 0 12).toNatClampNeg) p1) 0 12).toNatClampNeg) p2) 0 12).toNatClampNeg) (0 : Int32)) 4 (((4 : Int32) * ((k_w (k_w (k_w S 1 ((S 0 12).toNatClampNeg) p1) 2 (((k_w S 1 ((S 0 12).toNatClampNeg) p1) 0 12).toNatClampNeg) p2) 3 (((k_w (k_w S 1 ((S 0 12).toNatClampNeg) p1) 2 (((k_w S 1 ((S 0 12).toNatClampNeg) p1) 0 12).toNatClampNeg) p2) 0 12).toNatClampNeg) (0 : Int32)) 0 12)).toNatClampNeg) p3) 4 ((((4 : Int32) * ((k_w (k_w (k_w (k_w S 1 ((S 0 12).toNatClampNeg) p1) 2 (((k_w S 1 ((S 0 12).toNatClampNeg) p1) 0 12).toNatClampNeg) p2) 3 (((k_w (k_w S 1 ((S 0 12).toNatClampNeg) p1) 2 (((k_w S 1 ((S 0 12).toNatClampNeg) p1) 0 12).toNatClampNeg) p2) 0 12).toNatClampNeg) (0 : Int32)) 4 (((4 : Int32) * ((k_w (k_w (k_w S 1 ((S 0 12).toNatClampNeg) p1) 2 (((k_w S 1 ((S 0 12).toNatClampNeg) p1) 0 12).toNatClampNeg) p2) 3 (((k_w (k_w S 1 ((S 0 12).toNatClampNeg) p1) 2 (((k_w S 1 ((S 0 12).toNatClampNeg) p1) 0 12).toNatClampNeg) p2) 0 12).toNatClampNeg) (0 : Int32)) 0 12)).toNatClampNeg) p3) 0 12)) + (1 : Int32)).toNatClampNeg) p4) 4 ((((4 : Int32) * ((k_w (k_w (k_w (k_w (k_w S 1 ((S 0 12).toNatClampNeg) p1) 2 (((k_w S 1 ((S 0 12).toNatClampNeg) p1) 0 12).toNatClampNeg) p2) 3 (((k_w (k_w S 1 ((S 0 12).toNatClampNeg) p1) 2 (((k_w S 1 ((S 0 12).toNatClampNeg) p1) 0 12).toNatClampNeg) p2) 0 12).toNatClampNeg) (0 : Int32)) 4 (((4 : Int32) * ((k_w (k_w (k_w S 1 ((S 0 12).toNatClampNeg) p1) 2 (((k_w S 1 ((S 0 12).toNatClampNeg) p1) 0 12).toNatClampNeg) p2) 3 (((k_w (k_w S 1 ((S 0 12).toNatClampNeg) p1) 2 (((k_w S 1 ((S 0 12).toNatClampNeg) p1) 0 12).toNatClampNeg) p2) 0 12).toNatClampNeg) (0 : Int32)) 0 12)).toNatClampNeg) p3) 4 ((((4 : Int32) * ((k_w (k_w (k_w (k_w S 1 ((S 0 12).toNatClampNeg) p1) 2 (((k_w S 1 ((S 0 12).toNatClampNeg) p1) 0 12).toNatClampNeg) p2) 3 (((k_w (k_w S 1 ((S 0 12).toNatClampNeg) p1) 2 (((k_w S 1 ((S 0 12).toNatClampNeg) p1) 0 12).toNatClampNeg) p2) 0 12).toNatClampNeg) (0 : Int32)) 4 (((4 : Int32) * ((k_w (k_w (k_w S 1 ((S 0 12).toNatClampNeg) p1) 2 (((k_w S 1 ((S 0 12).toNatClampNeg) p1) 0 12).toNatClampNeg) p2) 3 (((k_w (k_w S 1 ((S 0 12).toNatClampNeg) p1) 2 (((k_w S 1 ((S 0 12).toNatClampNeg) p1) 0 12).toNatClampNeg) p2) 0 12).toNatClampNeg) (0 : Int32)) 0 12)).toNatClampNeg) p3) 0 12)) + (1 : Int32)).toNatClampNeg) p4) 0 12)) + (2 : Int32)).toNatClampNeg) p5) 0 12)) + (3 : Int32)).toNatClampNeg) p6) 0 12 (((k_w (k_w (k_w (k_w (k_w (k_w (k_w S 1 ((S 0 12).toNatClampNeg) p1) 2 (((k_w S 1 ((S 0 12).toNatClampNeg) p1) 0 12).toNatClampNeg) p2) 3 (((k_w (k_w S 1 ((S 0 12).toNatClampNeg) p1) 2 (((k_w S 1 ((S 0 12).toNatClampNeg) p1) 0 12).toNatClampNeg) p2) 0 12).toNatClampNeg) (0 : Int32)) 4 (((4 : Int32) * ((k_w (k_w (k_w S 1 ((S 0 12).toNatClampNeg) p1) 2 (((k_w S 1 ((S 0 12).toNatClampNeg) p1) 0 12).toNatClampNeg) p2) 3 (((k_w (k_w S 1 ((S 0 12).toNatClampNeg) p1) 2 (((k_w S 1 ((S 0 12).toNatClampNeg) p1) 0 12).toNatClampNeg) p2) 0 12).toNatClampNeg) (0 : Int32)) 0 12)).toNatClampNeg) p3) 4 ((((4 : Int32) * ((k_w (k_w (k_w (k_w S 1 ((S 0 12).toNatClampNeg) p1) 2 (((k_w S 1 ((S 0 12).toNatClampNeg) p1) 0 12).toNatClampNeg) p2) 3 (((k_w (k_w S 1 ((S 0 12).toNatClampNeg) p1) 2 (((k_w S 1 ((S 0 12).toNatClampNeg) p1) 0 12).toNatClampNeg) p2) 0 12).toNatClampNeg) (0 : Int32)) 4 (((4 : Int32) * ((k_w (k_w (k_w S 1 ((S 0 12).toNatClampNeg) p1) 2 (((k_w S 1 ((S 0 12).toNatClampNeg) p1) 0 12).toNatClampNeg) p2) 3 (((k_w (k_w S 1 ((S 0 12).toNatClampNeg) p1) 2 (((k_w S 1 ((S 0 12).toNatClampNeg) p1) 0 12).toNatClampNeg) p2) 0 12).toNatClampNeg) (0 : Int32)) 0 12)).toNatClampNeg) p3) 0 12)) + (1 : Int32)).toNatClampNeg) p4) 4 ((((4 : Int32) * ((k_w (k_w (k_w (k_w (k_w S 1 ((S 0 12).toNatClampNeg) p1) 2 (((k_w S 1 ((S 0 12).toNatClampNeg) p1) 0 12).toNatClampNeg) p2) 3 (((k_w (k_w S 1 ((S 0 12).toNatClampNeg) p1) 2 (((k_w S 1 ((S 0 12).toNatClampNeg) p1) 0 12).toNatClampNeg) p2) 0 12).toNatClampNeg) (0 : Int32)) 4 (((4 : Int32) * ((k_w (k_w (k_w S 1 ((S 0 12).toNatClampNeg) p1) 2 (((k_w S 1 ((S 0 12).toNatClampNeg) p1) 0 12).toNatClampNeg) p2) 3 (((k_w (k_w S 1 ((S 0 12).toNatClampNeg) p1) 2 (((k_w S 1 ((S 0 12).toNatClampNeg) p1) 0 12).toNatClampNeg) p2) 0 12).toNatClampNeg) (0 : Int32)) 0 12)).toNatClampNeg) p3) 4 ((((4 : Int32) * ((k_w (k_w (k_w (k_w S 1 ((S 0 12).toNatClampNeg) p1) 2 (((k_w S 1 ((S 0 12).toNatClampNeg) p1) 0 12).toNatClampNeg) p2) 3 (((k_w (k_w S 1 ((S 0 12).toNatClampNeg) p1) 2 (((k_w S 1 ((S 0 12).toNatClampNeg) p1) 0 12).toNatClampNeg) p2) 0 12).toNatClampNeg) (0 : Int32)) 4 (((4 : Int32) * ((k_w (k_w (k_w S 1 ((S 0 12).toNatClampNeg) p1) 2 (((k_w S 1 ((S 0 12).toNatClampNeg) p1) 0 12).toNatClampNeg) p2) 3 (((k_w (k_w S 1 ((S 0 12).toNatClampNeg) p1) 2 (((k_w S 1 ((S 0 12).toNatClampNeg) p1) 0 12).toNatClampNeg) p2) 0 12).toNatClampNeg) (0 : Int32)) 0 12)).toNatClampNeg) p3) 0 12)) + (1 : Int32)).toNatClampNeg) p4) 0 12)) + (2 : Int32)).toNatClampNeg) p5) 4 ((((4 : Int32) * ((k_w (k_w (k_w (k_w (k_w (k_w S 1 ((S 0 12).toNatClampNeg) p1) 2 (((k_w S 1 ((S 0 12).toNatClampNeg) p1) 0 12).toNatClampNeg) p2) 3 (((k_w (k_w S 1 ((S 0 12).toNatClampNeg) p1) 2 (((k_w S 1 ((S 0 12).toNatClampNeg) p1) 0 12).toNatClampNeg) p2) 0 12).toNatClampNeg) (0 : Int32)) 4 (((4 : Int32) * ((k_w (k_w (k_w S 1 ((S 0 12).toNatClampNeg) p1) 2 (((k_w S 1 ((S 0 12).toNatClampNeg) p1) 0 12).toNatClampNeg) p2) 3 (((k_w (k_w S 1 ((S 0 12).toNatClampNeg) p1) 2 (((k_w S 1 ((S 0 12).toNatClampNeg) p1) 0 12).toNatClampNeg) p2) 0 12).toNatClampNeg) (0 : Int32)) 0 12)).toNatClampNeg) p3) 4 ((((4 : Int32) * ((k_w (k_w (k_w (k_w S 1 ((S 0 12).toNatClampNeg) p1) 2 (((k_w S 1 ((S 0 12).toNatClampNeg) p1) 0 12).toNatClampNeg) p2) 3 (((k_w (k_w S 1 ((S 0 12).toNatClampNeg) p1) 2 (((k_w S 1 ((S 0 12).toNatClampNeg) p1) 0 12).toNatClampNeg) p2) 0 12).toNatClampNeg) (0 : Int32)) 4 (((4 : Int32) * ((k_w (k_w (k_w S 1 ((S 0 12).toNatClampNeg) p1) 2 (((k_w S 1 ((S 0 12).toNatClampNeg) p1) 0 12).toNatClampNeg) p2) 3 (((k_w (k_w S 1 ((S 0 12).toNatClampNeg) p1) 2 (((k_w S 1 ((S 0 12).toNatClampNeg) p1) 0 12).toNatClampNeg) p2) 0 12).toNatClampNeg) (0 : Int32)) 0 12)).toNatClampNeg) p3) 0 12)) + (1 : Int32)).toNatClampNeg) p4) 4 ((((4 : Int32) * ((k_w (k_w (k_w (k_w (k_w S 1 ((S 0 12).toNatClampNeg) p1) 2 (((k_w S 1 ((S 0 12).toNatClampNeg) p1) 0 12).toNatClampNeg) p2) 3 (((k_w (k_w S 1 ((S 0 12).toNatClampNeg) p1) 2 (((k_w S 1 ((S 0 12).toNatClampNeg) p1) 0 12).toNatClampNeg) p2) 0 12).toNatClampNeg) (0 : Int32)) 4 (((4 : Int32) * ((k_w (k_w (k_w S 1 ((S 0 12).toNatClampNeg) p1) 2 (((k_w S 1 ((S 0 12).toNatClampNeg) p1) 0 12).toNatClampNeg) p2) 3 (((k_w (k_w S 1 ((S 0 12).toNatClampNeg) p1) 2 (((k_w S 1 ((S 0 12).toNatClampNeg) p1) 0 12).toNatClampNeg) p2) 0 12).toNatClampNeg) (0 : Int32)) 0 12)).toNatClampNeg) p3) 4 ((((4 : Int32) * ((k_w (k_w (k_w (k_w S 1 ((S 0 12).toNatClampNeg) p1) 2 (((k_w S 1 ((S 0 12).toNatClampNeg) p1) 0 12).toNatClampNeg) p2) 3 (((k_w (k_w S 1 ((S 0 12).toNatClampNeg) p1) 2 (((k_w S 1 ((S 0 12).toNatClampNeg) p1) 0 12).toNatClampNeg) p2) 0 12).toNatClampNeg) (0 : Int32)) 4 (((4 : Int32) * ((k_w (k_w (k_w S 1 ((S 0 12).toNatClampNeg) p1) 2 (((k_w S 1 ((S 0 12).toNatClampNeg) p1) 0 12).toNatClampNeg) p2) 3 (((k_w (k_w S 1 ((S 0 12).toNatClampNeg) p1) 2 (((k_w S 1 ((S 0 12).toNatClampNeg) p1) 0 12).toNatClampNeg) p2) 0 12).toNatClampNeg) (0 : Int32)) 0 12)).toNatClampNeg) p3) 0 12)) + (1 : Int32)).toNatClampNeg) p4) 0 12)) + (2 : Int32)).toNatClampNeg) p5) 0 12)) + (3 : Int32)).toNatClampNeg) p6) 0 12) + (1 : Int32))) (0 : Int32))
    have hD := hDA (k_w (k_w (k_w (k_w (k_w (k_w (k_w (k_w (k_w S 1 ((S 0 12).toNatClampNeg) p1) 2 (((k_w S 1 ((S 0 12).toNatClampNeg) p1) 0 12).toNatClampNeg) p2) 3 (((k_w (k_w S 1 ((S 0 12).toNatClampNeg) p1) 2 (((k_w S 1 ((S 0 12).toNatClampNeg) p1) 0 12).toNatClampNeg) p2) 0 12).toNatClampNeg) (0 : Int32)) 4 (((4 : Int32) * ((k_w (k_w (k_w S 1 ((S 0 12).toNatClampNeg) p1) 2 (((k_w S 1 ((S 0 12).toNatClampNeg) p1) 0 12).toNatClampNeg) p2) 3 (((k_w (k_w S 1 ((S 0 12).toNatClampNeg) p1) 2 (((k_w S 1 ((S 0 12).toNatClampNeg) p1) 0 12).toNatClampNeg) p2) 0 12).toNatClampNeg) (0 : Int32)) 0 12)).toNatClampNeg) p3) 4 ((((4 : Int32) * ((k_w (k_w (k_w (k_w S 1 ((S 0 12).toNatClampNeg) p1) 2 (((k_w S 1 ((S 0 12).toNatClampNeg) p1) 0 12).toNatClampNeg) p2) 3 (((k_w (k_w S 1 ((S 0 12).toNatClampNeg) p1) 2 (((k_w S 1 ((S 0 12).toNatClampNeg) p1) 0 12).toNatClampNeg) p2) 0 12).toNatClampNeg) (0 : Int32)) 4 (((4 : Int32) * ((k_w (k_w (k_w S 1 ((S 0 12).toNatClampNeg) p1) 2 (((k_w S 1 ((S 0 12).toNatClampNeg) p1) 0 12).toNatClampNeg) p2) 3 (((k_w (k_w S 1 ((S 0 12).toNatClampNeg) p1) 2 (((k_w S 1 ((S 0 12).toNatClampNeg) p1) 0 12).toNatClampNeg) p2) 0 12).toNatClampNeg) (0 : Int32)) 0 12)).toNatClampNeg) p3) 0 12)) + (1 : Int32)).toNatClampNeg) p4) 4 ((((4 : Int32) * ((k_w (k_w (k_w (k_w (k_w S 1 ((S 0 12).toNatClampNeg) p1) 2 (((k_w S 1 ((S 0 12).toNatClampNeg) p1) 0 12).toNatClampNeg) p2) 3 (((k_w (k_w S 1 ((S 0 12).toNatClampNeg) p1) 2 (((k_w S 1 ((S 0 12).toNatClampNeg) p1) 0 12).toNatClampNeg) p2) 0 12).toNatClampNeg) (0 : Int32)) 4 (((4 : Int32) * ((k_w (k_w (k_w S 1 ((S 0 12).toNatClampNeg) p1) 2 (((k_w S 1 ((S 0 12).toNatClampNeg) p1) 0 12).toNatClampNeg) p2) 3 (((k_w (k_w S 1 ((S 0 12).toNatClampNeg) p1) 2 (((k_w S 1 ((S 0 12).toNatClampNeg) p1) 0 12).toNatClampNeg) p2) 0 12).toNatClampNeg) (0 : Int32)) 0 12)).toNatClampNeg) p3) 4 ((((4 : Int32) * ((k_w (k_w (k_w (k_w S 1 ((S 0 12).toNatClampNeg) p1) 2 (((k_w S 1 ((S 0 12).toNatClampNeg) p1) 0 12).toNatClampNeg) p2) 3 (((k_w (k_w S 1 ((S 0 12).toNatClampNeg) p1) 2 (((k_w S 1 ((S 0 12).toNatClampNeg) p1) 0 12).toNatClampNeg) p2) 0 12).toNatClampNeg) (0 : Int32)) 4 (((4 : Int32) * ((k_w (k_w (k_w S 1 ((S 0 12).toNatClampNeg) p1) 2 (((k_w S 1 ((S 0 12).toNatClampNeg) p1) 0 12).toNatClampNeg) p2) 3 (((k_w (k_w S 1 ((S 0 12).toNatClampNeg) p1) 2 (((k_w S 1 ((S 0 12).toNatClampNeg) p1) 0 12).toNatClampNeg) p2) 0 12).toNatClampNeg) (0 : Int32)) 0 12)).toNatClampNeg) p3) 0 12)) + (1 : Int32)).toNatClampNeg) p4) 0 12)) + (2 : Int32)).toNatClampNeg) p5) 4 ((((4 : Int32) * ((k_w (k_w (k_w (k_w (k_w (k_w S 1 ((S 0 12).toNatClampNeg) p1) 2 (((k_w S 1 ((S 0 12).toNatClampNeg) p1) 0 12).toNatClampNeg) p2) 3 (((k_w (k_w S 1 ((S 0 12).toNatClampNeg) p1) 2 (((k_w S 1 ((S 0 12).toNatClampNeg) p1) 0 12).toNatClampNeg) p2) 0 12).toNatClampNeg) (0 : Int32)) 4 (((4 : Int32) * ((k_w (k_w (k_w S 1 ((S 0 12).toNatClampNeg) p1) 2 (((k_w S 1 ((S 0 12).toNatClampNeg) p1) 0 12).toNatClampNeg) p2) 3 (((k_w (k_w S 1 ((S 0 12).toNatClampNeg) p1) 2 (((k_w S 1 ((S 0 12).toNatClampNeg) p1) 0 12).toNatClampNeg) p2) 0 12).toNatClampNeg) (0 : Int32)) 0 12)).toNatClampNeg) p3) 4 ((((4 : Int32) * ((k_w (k_w (k_w (k_w S 1 ((S 0 12).toNatClampNeg) p1) 2 (((k_w S 1 ((S 0 12).toNatClampNeg) p1) 0 12).toNatClampNeg) p2) 3 (((k_w (k_w S 1 ((S 0 12).toNatClampNeg) p1) 2 (((k_w S 1 ((S 0 12).toNatClampNeg) p1) 0 12).toNatClampNeg) p2) 0 12).toNatClampNeg) (0 : Int32)) 4 (((4 : Int32) * ((k_w (k_w (k_w S 1 ((S 0 12).toNatClampNeg) p1) 2 (((k_w S 1 ((S 0 12).toNatClampNeg) p1) 0 12).toNatClampNeg) p2) 3 (((k_w (k_w S 1 ((S 0 12).toNatClampNeg) p1) 2 (((k_w S 1 ((S 0 12).toNatClampNeg) p1) 0 12).toNatClampNeg) p2) 0 12).toNatClampNeg) (0 : Int32)) 0 12)).toNatClampNeg) p3) 0 12)) + (1 : Int32)).toNatClampNeg) p4) 4 ((((4 : Int32) * ((k_w (k_w (k_w (k_w (k_w S 1 ((S 0 12).toNatClampNeg) p1) 2 (((k_w S 1 ((S 0 12).toNatClampNeg) p1) 0 12).toNatClampNeg) p2) 3 (((k_w (k_w S 1 ((S 0 12).toNatClampNeg) p1) 2 (((k_w S 1 ((S 0 12).toNatClampNeg) p1) 0 12).toNatClampNeg) p2) 0 12).toNatClampNeg) (0 : Int32)) 4 (((4 : Int32) * ((k_w (k_w (k_w S 1 ((S 0 12).toNatClampNeg) p1) 2 (((k_w S 1 ((S 0 12).toNatClampNeg) p1) 0 12).toNatClampNeg) p2) 3 (((k_w (k_w S 1 ((S 0 12).toNatClampNeg) p1) 2 (((k_w S 1 ((S 0 12).toNatClampNeg) p1) 0 12).toNatClampNeg) p2) 0 12).toNatClampNeg) (0 : Int32)) 0 12)).toNatClampNeg) p3) 4 ((((4 : Int32) * ((k_w (k_w (k_w (k_w S 1 ((S 0 12).toNatClampNeg) p1) 2 (((k_w S 1 ((S 0 12).toNatClampNeg) p1) 0 12).toNatClampNeg) p2) 3 (((k_w (k_w S 1 ((S 0 12).toNatClampNeg) p1) 2 (((k_w S 1 ((S 0 12).toNatClampNeg) p1) 0 12).toNatClampNeg) p2) 0 12).toNatClampNeg) (0 : Int32)) 4 (((4 : Int32) * ((k_w (k_w (k_w S 1 ((S 0 12).toNatClampNeg) p1) 2 (((k_w S 1 ((S 0 12).toNatClampNeg) p1) 0 12).toNatClampNeg) p2) 3 (((k_w (k_w S 1 ((S 0 12).toNatClampNeg) p1) 2 (((k_w S 1 ((S 0 12).toNatClampNeg) p1) 0 12).toNatClampNeg) p2) 0 12).toNatClampNeg) (0 : Int32)) 0 12)).toNatClampNeg) p3) 0 12)) + (1 : Int32)).toNatClampNeg) p4) 0 12)) + (2 : Int32)).toNatClampNeg) p5) 0 12)) + (3 : Int32)).toNatClampNeg) p6) 0 12 (((k_w (k_w (k_w (k_w (k_w (k_w (k_w S 1 ((S 0 12).toNatClampNeg) p1) 2 (((k_w S 1 ((S 0 12).toNatClampNeg) p1) 0 12).toNatClampNeg) p2) 3 (((k_w (k_w S 1 ((S 0 12).toNatClampNeg) p1) 2 (((k_w S 1 ((S 0 12).toNatClampNeg) p1) 0 12).toNatClampNeg) p2) 0 12).toNatClampNeg) (0 : Int32)) 4 (((4 : Int32) * ((k_w (k_w (k_w S 1 ((S 0 12).toNatClampNeg) p1) 2 (((k_w S 1 ((S 0 12).toNatClampNeg) p1) 0 12).toNatClampNeg) p2) 3 (((k_w (k_w S 1 ((S 0 12).toNatClampNeg) p1) 2 (((k_w S 1 ((S 0 12).toNatClampNeg) p1) 0 12).toNatClampNeg) p2) 0 12).toNatClampNeg) (0 : Int32)) 0 12)).toNatClampNeg) p3) 4 ((((4 : Int32) * ((k_w (k_w (k_w (k_w S 1 ((S 0 12).toNatClampNeg) p1) 2 (((k_w S 1 ((S 0 12).toNatClampNeg) p1) 0 12).toNatClampNeg) p2) 3 (((k_w (k_w S 1 ((S 0 12).toNatClampNeg) p1) 2 (((k_w S 1 ((S 0 12).toNatClampNeg) p1) 0 12).toNatClampNeg) p2) 0 12).toNatClampNeg) (0 : Int32)) 4 (((4 : Int32) * ((k_w (k_w (k_w S 1 ((S 0 12).toNatClampNeg) p1) 2 (((k_w S 1 ((S 0 12).toNatClampNeg) p1) 0 12).toNatClampNeg) p2) 3 (((k_w (k_w S 1 ((S 0 12).toNatClampNeg) p1) 2 (((k_w S 1 ((S 0 12).toNatClampNeg) p1) 0 12).toNatClampNeg) p2) 0 12).toNatClampNeg) (0 : Int32)) 0 12)).toNatClampNeg) p3) 0 12)) + (1 : Int32)).toNatClampNeg) p4) 4 ((((4 : Int32) * ((k_w (k_w (k_w (k_w (k_w S 1 ((S 0 12).toNatClampNeg) p1) 2 (((k_w S 1 ((S 0 12).toNatClampNeg) p1) 0 12).toNatClampNeg) p2) 3 (((k_w (k_w S 1 ((S 0 12).toNatClampNeg) p1) 2 (((k_w S 1 ((S 0 12).toNatClampNeg) p1) 0 12).toNatClampNeg) p2) 0 12).toNatClampNeg) (0 : Int32)) 4 (((4 : Int32) * ((k_w (k_w (k_w S 1 ((S 0 12).toNatClampNeg) p1) 2 (((k_w S 1 ((S 0 12).toNatClampNeg) p1) 0 12).toNatClampNeg) p2) 3 (((k_w (k_w S 1 ((S 0 12).toNatClampNeg) p1) 2 (((k_w S 1 ((S 0 12).toNatClampNeg) p1) 0 12).toNatClampNeg) p2) 0 12).toNatClampNeg) (0 : Int32)) 0 12)).toNatClampNeg) p3) 4 ((((4 : Int32) * ((k_w (k_w (k_w (k_w S 1 ((S 0 12).toNatClampNeg) p1) 2 (((k_w S 1 ((S 0 12).toNatClampNeg) p1) 0 12).toNatClampNeg) p2) 3 (((k_w (k_w S 1 ((S 0 12).toNatClampNeg) p1) 2 (((k_w S 1 ((S 0 12).toNatClampNeg) p1) 0 12).toNatClampNeg) p2) 0 12).toNatClampNeg) (0 : Int32)) 4 (((4 : Int32) * ((k_w (k_w (k_w S 1 ((S 0 12).toNatClampNeg) p1) 2 (((k_w S 1 ((S 0 12).toNatClampNeg) p1) 0 12).toNatClampNeg) p2) 3 (((k_w (k_w S 1 ((S 0 12).toNatClampNeg) p1) 2 (((k_w S 1 ((S 0 12).toNatClampNeg) p1) 0 12).toNatClampNeg) p2) 0 12).toNatClampNeg) (0 : Int32)) 0 12)).toNatClampNeg) p3) 0 12)) + (1 : Int32)).toNatClampNeg) p4) 0 12)) + (2 : Int32)).toNatClampNeg) p5) 4 ((((4 : Int32) * ((k_w (k_w (k_w (k_w (k_w (k_w S 1 ((S 0 12).toNatClampNeg) p1) 2 (((k_w S 1 ((S 0 12).toNatClampNeg) p1) 0 12).toNatClampNeg) p2) 3 (((k_w (k_w S 1 ((S 0 12).toNatClampNeg) p1) 2 (((k_w S 1 ((S 0 12).toNatClampNeg) p1) 0 12).toNatClampNeg) p2) 0 12).toNatClampNeg) (0 : Int32)) 4 (((4 : Int32) * ((k_w (k_w (k_w S 1 ((S 0 12).toNatClampNeg) p1) 2 (((k_w S 1 ((S 0 12).toNatClampNeg) p1) 0 12).toNatClampNeg) p2) 3 (((k_w (k_w S 1 ((S 0 12).toNatClampNeg) p1) 2 (((k_w S 1 ((S 0 12).toNatClampNeg) p1) 0 12).toNatClampNeg) p2) 0 12).toNatClampNeg) (0 : Int32)) 0 12)).toNatClampNeg) p3) 4 ((((4 : Int32) * ((k_w (k_w (k_w (k_w S 1 ((S 0 12).toNatClampNeg) p1) 2 (((k_w S 1 ((S 0 12).toNatClampNeg) p1) 0 12).toNatClampNeg) p2) 3 (((k_w (k_w S 1 ((S 0 12).toNatClampNeg) p1) 2 (((k_w S 1 ((S 0 12).toNatClampNeg) p1) 0 12).toNatClampNeg) p2) 0 12).toNatClampNeg) (0 : Int32)) 4 (((4 : Int32) * ((k_w (k_w (k_w S 1 ((S 0 12).toNatClampNeg) p1) 2 (((k_w S 1 ((S 0 12).toNatClampNeg) p1) 0 12).toNatClampNeg) p2) 3 (((k_w (k_w S 1 ((S 0 12).toNatClampNeg) p1) 2 (((k_w S 1 ((S 0 12).toNatClampNeg) p1) 0 12).toNatClampNeg) p2) 0 12).toNatClampNeg) (0 : Int32)) 0 12)).toNatClampNeg) p3) 0 12)) + (1 : Int32)).toNatClampNeg) p4) 4 ((((4 : Int32) * ((k_w (k_w (k_w (k_w (k_w S 1 ((S 0 12).toNatClampNeg) p1) 2 (((k_w S 1 ((S 0 12).toNatClampNeg) p1) 0 12).toNatClampNeg) p2) 3 (((k_w (k_w S 1 ((S 0 12).toNatClampNeg) p1) 2 (((k_w S 1 ((S 0 12).toNatClampNeg) p1) 0 12).toNatClampNeg) p2) 0 12).toNatClampNeg) (0 : Int32)) 4 (((4 : Int32) * ((k_w (k_w (k_w S 1 ((S 0 12).toNatClampNeg) p1) 2 (((k_w S 1 ((S 0 12).toNatClampNeg) p1) 0 12).toNatClampNeg) p2) 3 (((k_w (k_w S 1 ((S 0 12).toNatClampNeg) p1) 2 (((k_w S 1 ((S 0 12).toNatClampNeg) p1) 0 12).toNatClampNeg) p2) 0 12).toNatClampNeg) (0 : Int32)) 0 12)).toNatClampNeg) p3) 4 ((((4 : Int32) * ((k_w (k_w (k_w (k_w S 1 ((S 0 12).toNatClampNeg) p1) 2 (((k_w S 1 ((S 0 12).toNatClampNeg) p1) 0 12).toNatClampNeg) p2) 3 (((k_w (k_w S 1 ((S 0 12).toNatClampNeg) p1) 2 (((k_w S 1 ((S 0 12).toNatClampNeg) p1) 0 12).toNatClampNeg) p2) 0 12).toNatClampNeg) (0 : Int32)) 4 (((4 : Int32) * ((k_w (k_w (k_w S 1 ((S 0 12).toNatClampNeg) p1) 2 (((k_w S 1 ((S 0 12).toNatClampNeg) p1) 0 12).toNatClampNeg) p2) 3 (((k_w (k_w S 1 ((S 0 12).toNatClampNeg) p1) 2 (((k_w S 1 ((S 0 12).toNatClampNeg) p1) 0 12).toNatClampNeg) p2) 0 12).toNatClampNeg) (0 : Int32)) 0 12)).toNatClampNeg) p3) 0 12)) + (1 : Int32)).toNatClampNeg) p4) 0 12)) + (2 : Int32)).toNatClampNeg) p5) 0 12)) + (3 : Int32)).toNatClampNeg) p6) 0 12) + (1 : Int32))) 14 3 (0 : Int32))
    have e1 := dn_s1 hd
    exact k_vret hx hb hr hQ hAe (by rw [e1]) hP hS hlocks dX5_addPerson_115
  · have hd := dn_f c6 hd
    have e1 := dn_s1 hd
    exact k_vret hx hb hr hQ hAe (by rw [e1]) hP hS hlocks dX5_addPerson_9
-- LeastNeed$Valley.addThing(III)V
set_option maxRecDepth 20000 in
def nX5_addThing (S : Nat → Nat → Int32) (p1 : Int32) (p2 : Int32) (p3 : Int32) : Option ((Nat → Nat → Int32)) := if (S 0 13) < (5 : Int32) then if (S 0 13) < 0 ∨ 5 ≤ (S 0 13).toNatClampNeg then none else if ((k_w S 5 ((S 0 13).toNatClampNeg) p1) 0 13) < 0 ∨ 5 ≤ ((k_w S 5 ((S 0 13).toNatClampNeg) p1) 0 13).toNatClampNeg then none else if ((k_w (k_w S 5 ((S 0 13).toNatClampNeg) p1) 6 (((k_w S 5 ((S 0 13).toNatClampNeg) p1) 0 13).toNatClampNeg) p2) 0 13) < 0 ∨ 5 ≤ ((k_w (k_w S 5 ((S 0 13).toNatClampNeg) p1) 6 (((k_w S 5 ((S 0 13).toNatClampNeg) p1) 0 13).toNatClampNeg) p2) 0 13).toNatClampNeg then none else if ((k_w (k_w (k_w S 5 ((S 0 13).toNatClampNeg) p1) 6 (((k_w S 5 ((S 0 13).toNatClampNeg) p1) 0 13).toNatClampNeg) p2) 7 (((k_w (k_w S 5 ((S 0 13).toNatClampNeg) p1) 6 (((k_w S 5 ((S 0 13).toNatClampNeg) p1) 0 13).toNatClampNeg) p2) 0 13).toNatClampNeg) p3) 0 13) < 0 ∨ 5 ≤ ((k_w (k_w (k_w S 5 ((S 0 13).toNatClampNeg) p1) 6 (((k_w S 5 ((S 0 13).toNatClampNeg) p1) 0 13).toNatClampNeg) p2) 7 (((k_w (k_w S 5 ((S 0 13).toNatClampNeg) p1) 6 (((k_w S 5 ((S 0 13).toNatClampNeg) p1) 0 13).toNatClampNeg) p2) 0 13).toNatClampNeg) p3) 0 13).toNatClampNeg then none else if ((k_w (k_w (k_w (k_w S 5 ((S 0 13).toNatClampNeg) p1) 6 (((k_w S 5 ((S 0 13).toNatClampNeg) p1) 0 13).toNatClampNeg) p2) 7 (((k_w (k_w S 5 ((S 0 13).toNatClampNeg) p1) 6 (((k_w S 5 ((S 0 13).toNatClampNeg) p1) 0 13).toNatClampNeg) p2) 0 13).toNatClampNeg) p3) 8 (((k_w (k_w (k_w S 5 ((S 0 13).toNatClampNeg) p1) 6 (((k_w S 5 ((S 0 13).toNatClampNeg) p1) 0 13).toNatClampNeg) p2) 7 (((k_w (k_w S 5 ((S 0 13).toNatClampNeg) p1) 6 (((k_w S 5 ((S 0 13).toNatClampNeg) p1) 0 13).toNatClampNeg) p2) 0 13).toNatClampNeg) p3) 0 13).toNatClampNeg) p3) 0 13) < 0 ∨ 5 ≤ ((k_w (k_w (k_w (k_w S 5 ((S 0 13).toNatClampNeg) p1) 6 (((k_w S 5 ((S 0 13).toNatClampNeg) p1) 0 13).toNatClampNeg) p2) 7 (((k_w (k_w S 5 ((S 0 13).toNatClampNeg) p1) 6 (((k_w S 5 ((S 0 13).toNatClampNeg) p1) 0 13).toNatClampNeg) p2) 0 13).toNatClampNeg) p3) 8 (((k_w (k_w (k_w S 5 ((S 0 13).toNatClampNeg) p1) 6 (((k_w S 5 ((S 0 13).toNatClampNeg) p1) 0 13).toNatClampNeg) p2) 7 (((k_w (k_w S 5 ((S 0 13).toNatClampNeg) p1) 6 (((k_w S 5 ((S 0 13).toNatClampNeg) p1) 0 13).toNatClampNeg) p2) 0 13).toNatClampNeg) p3) 0 13).toNatClampNeg) p3) 0 13).toNatClampNeg then none else some (k_w (k_w (k_w (k_w (k_w (k_w (k_w S 5 ((S 0 13).toNatClampNeg) p1) 6 (((k_w S 5 ((S 0 13).toNatClampNeg) p1) 0 13).toNatClampNeg) p2) 7 (((k_w (k_w S 5 ((S 0 13).toNatClampNeg) p1) 6 (((k_w S 5 ((S 0 13).toNatClampNeg) p1) 0 13).toNatClampNeg) p2) 0 13).toNatClampNeg) p3) 8 (((k_w (k_w (k_w S 5 ((S 0 13).toNatClampNeg) p1) 6 (((k_w S 5 ((S 0 13).toNatClampNeg) p1) 0 13).toNatClampNeg) p2) 7 (((k_w (k_w S 5 ((S 0 13).toNatClampNeg) p1) 6 (((k_w S 5 ((S 0 13).toNatClampNeg) p1) 0 13).toNatClampNeg) p2) 0 13).toNatClampNeg) p3) 0 13).toNatClampNeg) p3) 9 (((k_w (k_w (k_w (k_w S 5 ((S 0 13).toNatClampNeg) p1) 6 (((k_w S 5 ((S 0 13).toNatClampNeg) p1) 0 13).toNatClampNeg) p2) 7 (((k_w (k_w S 5 ((S 0 13).toNatClampNeg) p1) 6 (((k_w S 5 ((S 0 13).toNatClampNeg) p1) 0 13).toNatClampNeg) p2) 0 13).toNatClampNeg) p3) 8 (((k_w (k_w (k_w S 5 ((S 0 13).toNatClampNeg) p1) 6 (((k_w S 5 ((S 0 13).toNatClampNeg) p1) 0 13).toNatClampNeg) p2) 7 (((k_w (k_w S 5 ((S 0 13).toNatClampNeg) p1) 6 (((k_w S 5 ((S 0 13).toNatClampNeg) p1) 0 13).toNatClampNeg) p2) 0 13).toNatClampNeg) p3) 0 13).toNatClampNeg) p3) 0 13).toNatClampNeg) (0 : Int32)) 0 13 (((k_w (k_w (k_w (k_w (k_w S 5 ((S 0 13).toNatClampNeg) p1) 6 (((k_w S 5 ((S 0 13).toNatClampNeg) p1) 0 13).toNatClampNeg) p2) 7 (((k_w (k_w S 5 ((S 0 13).toNatClampNeg) p1) 6 (((k_w S 5 ((S 0 13).toNatClampNeg) p1) 0 13).toNatClampNeg) p2) 0 13).toNatClampNeg) p3) 8 (((k_w (k_w (k_w S 5 ((S 0 13).toNatClampNeg) p1) 6 (((k_w S 5 ((S 0 13).toNatClampNeg) p1) 0 13).toNatClampNeg) p2) 7 (((k_w (k_w S 5 ((S 0 13).toNatClampNeg) p1) 6 (((k_w S 5 ((S 0 13).toNatClampNeg) p1) 0 13).toNatClampNeg) p2) 0 13).toNatClampNeg) p3) 0 13).toNatClampNeg) p3) 9 (((k_w (k_w (k_w (k_w S 5 ((S 0 13).toNatClampNeg) p1) 6 (((k_w S 5 ((S 0 13).toNatClampNeg) p1) 0 13).toNatClampNeg) p2) 7 (((k_w (k_w S 5 ((S 0 13).toNatClampNeg) p1) 6 (((k_w S 5 ((S 0 13).toNatClampNeg) p1) 0 13).toNatClampNeg) p2) 0 13).toNatClampNeg) p3) 8 (((k_w (k_w (k_w S 5 ((S 0 13).toNatClampNeg) p1) 6 (((k_w S 5 ((S 0 13).toNatClampNeg) p1) 0 13).toNatClampNeg) p2) 7 (((k_w (k_w S 5 ((S 0 13).toNatClampNeg) p1) 6 (((k_w S 5 ((S 0 13).toNatClampNeg) p1) 0 13).toNatClampNeg) p2) 0 13).toNatClampNeg) p3) 0 13).toNatClampNeg) p3) 0 13).toNatClampNeg) (0 : Int32)) 0 13) + (1 : Int32))) 14 3 (0 : Int32)) else some S
set_option maxHeartbeats 4000000 in
set_option maxRecDepth 100000 in
theorem mX5_addThing (l : Launch) (D : va_G) (cs : Nat → ClassId) (a : Nat → Nat) (S : Nat → Nat → Int32) (p1 : Int32) (p2 : Int32) (p3 : Int32) (S9 : (Nat → Nat → Int32)) (hd : nX5_addThing S p1 p2 p3 = some S9) : ∀ sz : Nat, Met l yX5_addThing wsX5_addThing ({ frames := 0, cells := 0, slots := 0, locals := 0 }) (k_Pc D cs [.ref (a 0), .int p1, .int p2, .int p3] (wX5 cs a S) sz) (k_Qv D (wX5 cs a S) (wX5 cs a S9) sz) 0 0 (va_A (wX5 cs a S) sz) := by
  intro sz
  refine Met.ofW (cc := cX5_addThing) (maxL := 4) (ret := none) (by decide) rfl ?_
  intro p e s m args below meth c s₁ B hml hv
  obtain ⟨rfl, hsz, hP, hK, hD0, hNn⟩ := hv
  have hx := B.exec
  have hb := B.bytes
  have hr := B.returns
  have hts := atoms_spec (ws := wsX5_addThing) B.pre
  have hown : s.vm.findClass RX5 = some m.cls := findClass_of_methodNamed B.named
  have hlocks := B.notSynchronized
  subst hsz
  obtain ⟨A, hAe⟩ : ∃ A : Nat → Prop, A = va_A (wX5 cs a S) s.heap.size := ⟨_, rfl⟩
  have hD : va_D A (wX5 cs a S) := by rw [hAe]; exact hD0.self
  have hA : ∀ q : Nat, s.heap.size ≤ q → A q := fun q h => by rw [hAe]; exact Or.inr h
  have hS : va_S A s.heap s.heap [] := va_S.rf
  have hDA : ∀ (S : Nat → Nat → Int32), va_D A (wX5 cs a S) := fun S => k_DA hD rfl
  have hl := lv_entry ([.ref (a 0), .int p1, .int p2, .int p3]) (n := 4) (Nat.le_of_ble_eq_true rfl)
  rw [lg_entry_eq]
  generalize (lg_sl ([.ref (a 0), .int p1, .int p2, .int p3]) ++ List.replicate (4 - (lg_sl ([.ref (a 0), .int p1, .int p2, .int p3])).length) Slot.unset).toArray = ls at hl ⊢
  have hl : lv_has ls 4 [(0, .ref (a 0)), (1, .int p1), (2, .int p2), (3, .int p3)] := hl
  obtain ⟨Q, hQ⟩ : ∃ Q, Q = MQ below (k_Qv D (wX5 cs a S) (wX5 cs a S9) s.heap.size) ([.ref (a 0), .int p1, .int p2, .int p3] : List Value).toArray s 0 0 (va_A (wX5 cs a S) s.heap.size) := ⟨_, rfl⟩
  rw [← hQ]
  unfold nX5_addThing at hd
  refine lv_aload_n hx hb dX5_addThing_0 rfl (lv_at hl 0 rfl) ?_
  refine va_get (D := D) (ci := 3) (v := .int (S 0 13)) (C := RX5) (T := TX5) (N := 15) hx hb hts (fun w h => List.mem_cons_of_mem _ (List.mem_append_left _ (List.mem_append_right _ h))) hown hK hP 0 rfl rfl 13 (by decide) (hts (.fieldLink RX5 58 "LeastNeed$Valley" "things" "I") (List.mem_of_getElem? (i := 1) rfl)) (fun _ h9 => h9) rfl dX5_addThing_1 ?_
  refine lv_iconst (v := (5 : Int32)) hx hb dX5_addThing_4 (by decide) ?_
  refine lv_icmp_lt (tgt := 9) hx hb dX5_addThing_5 (by decide) (fun c5 => ?_) (fun c5 => ?_)
  · have hd := dn_t c5 hd
    refine lv_aload_n hx hb dX5_addThing_9 rfl (lv_at hl 0 rfl) ?_
    refine va_get (D := D) (ci := 3) (v := .ref (a 5)) (C := RX5) (T := TX5) (N := 15) hx hb hts (fun w h => List.mem_cons_of_mem _ (List.mem_append_left _ (List.mem_append_right _ h))) hown hK hP 0 rfl rfl 4 (by decide) (hts (.fieldLink RX5 24 "LeastNeed$Valley" "thingKind" "[I") (List.mem_of_getElem? (i := 2) rfl)) (fun _ h9 => h9) rfl dX5_addThing_10 ?_
    refine lv_aload_n hx hb dX5_addThing_13 rfl (lv_at hl 0 rfl) ?_
    refine va_get (D := D) (ci := 3) (v := .int (S 0 13)) (C := RX5) (T := TX5) (N := 15) hx hb hts (fun w h => List.mem_cons_of_mem _ (List.mem_append_left _ (List.mem_append_right _ h))) hown hK hP 0 rfl rfl 13 (by decide) (hts (.fieldLink RX5 58 "LeastNeed$Valley" "things" "I") (List.mem_of_getElem? (i := 1) rfl)) (fun _ h9 => h9) rfl dX5_addThing_14 ?_
    refine lv_iload_n hx hb dX5_addThing_17 rfl (lv_at hl 1 rfl) ?_
    obtain ⟨hi18, hd⟩ := dn_i hd
    refine k_iast (D := D) (k := (S 0 13).toNatClampNeg) (by rfl) hx hb hK hP hD hS 5 1 rfl rfl hi18 dX5_addThing_18 (fun H locs hP hD hS => ?_)
    have hP : va_P D vwCl (wX5 cs a (k_w S 5 ((S 0 13).toNatClampNeg) p1)) _ := k_eq hP (wsX5_a5 cs a S ((S 0 13).toNatClampNeg) p1)
    have hD := hDA (k_w S 5 ((S 0 13).toNatClampNeg) p1)
    refine lv_aload_n hx hb dX5_addThing_19 rfl (lv_at hl 0 rfl) ?_
    refine va_get (D := D) (ci := 3) (v := .ref (a 6)) (C := RX5) (T := TX5) (N := 15) hx hb hts (fun w h => List.mem_cons_of_mem _ (List.mem_append_left _ (List.mem_append_right _ h))) hown hK hP 0 rfl rfl 5 (by decide) (hts (.fieldLink RX5 27 "LeastNeed$Valley" "sort" "[I") (List.mem_of_getElem? (i := 3) rfl)) (fun _ h9 => h9) rfl dX5_addThing_20 ?_
    refine lv_aload_n hx hb dX5_addThing_23 rfl (lv_at hl 0 rfl) ?_
    refine va_get (D := D) (ci := 3) (v := .int ((k_w S 5 ((S 0 13).toNatClampNeg) p1) 0 13)) (C := RX5) (T := TX5) (N := 15) hx hb hts (fun w h => List.mem_cons_of_mem _ (List.mem_append_left _ (List.mem_append_right _ h))) hown hK hP 0 rfl rfl 13 (by decide) (hts (.fieldLink RX5 58 "LeastNeed$Valley" "things" "I") (List.mem_of_getElem? (i := 1) rfl)) (fun _ h9 => h9) rfl dX5_addThing_24 ?_
    refine lv_iload_n hx hb dX5_addThing_27 rfl (lv_at hl 2 rfl) ?_
    obtain ⟨hi28, hd⟩ := dn_i hd
    refine k_iast (D := D) (k := ((k_w S 5 ((S 0 13).toNatClampNeg) p1) 0 13).toNatClampNeg) (by rfl) hx hb hK hP hD hS 6 1 rfl rfl hi28 dX5_addThing_28 (fun H locs hP hD hS => ?_)
    have hP : va_P D vwCl (wX5 cs a (k_w (k_w S 5 ((S 0 13).toNatClampNeg) p1) 6 (((k_w S 5 ((S 0 13).toNatClampNeg) p1) 0 13).toNatClampNeg) p2)) _ := k_eq hP (wsX5_a6 cs a (k_w S 5 ((S 0 13).toNatClampNeg) p1) (((k_w S 5 ((S 0 13).toNatClampNeg) p1) 0 13).toNatClampNeg) p2)
    have hD := hDA (k_w (k_w S 5 ((S 0 13).toNatClampNeg) p1) 6 (((k_w S 5 ((S 0 13).toNatClampNeg) p1) 0 13).toNatClampNeg) p2)
    refine lv_aload_n hx hb dX5_addThing_29 rfl (lv_at hl 0 rfl) ?_
    refine va_get (D := D) (ci := 3) (v := .ref (a 7)) (C := RX5) (T := TX5) (N := 15) hx hb hts (fun w h => List.mem_cons_of_mem _ (List.mem_append_left _ (List.mem_append_right _ h))) hown hK hP 0 rfl rfl 6 (by decide) (hts (.fieldLink RX5 30 "LeastNeed$Valley" "owner" "[I") (List.mem_of_getElem? (i := 4) rfl)) (fun _ h9 => h9) rfl dX5_addThing_30 ?_
    refine lv_aload_n hx hb dX5_addThing_33 rfl (lv_at hl 0 rfl) ?_
    refine va_get (D := D) (ci := 3) (v := .int ((k_w (k_w S 5 ((S 0 13).toNatClampNeg) p1) 6 (((k_w S 5 ((S 0 13).toNatClampNeg) p1) 0 13).toNatClampNeg) p2) 0 13)) (C := RX5) (T := TX5) (N := 15) hx hb hts (fun w h => List.mem_cons_of_mem _ (List.mem_append_left _ (List.mem_append_right _ h))) hown hK hP 0 rfl rfl 13 (by decide) (hts (.fieldLink RX5 58 "LeastNeed$Valley" "things" "I") (List.mem_of_getElem? (i := 1) rfl)) (fun _ h9 => h9) rfl dX5_addThing_34 ?_
    refine lv_iload_n hx hb dX5_addThing_37 rfl (lv_at hl 3 rfl) ?_
    obtain ⟨hi38, hd⟩ := dn_i hd
    refine k_iast (D := D) (k := ((k_w (k_w S 5 ((S 0 13).toNatClampNeg) p1) 6 (((k_w S 5 ((S 0 13).toNatClampNeg) p1) 0 13).toNatClampNeg) p2) 0 13).toNatClampNeg) (by rfl) hx hb hK hP hD hS 7 1 rfl rfl hi38 dX5_addThing_38 (fun H locs hP hD hS => ?_)
    have hP : va_P D vwCl (wX5 cs a (k_w (k_w (k_w S 5 ((S 0 13).toNatClampNeg) p1) 6 (((k_w S 5 ((S 0 13).toNatClampNeg) p1) 0 13).toNatClampNeg) p2) 7 (((k_w (k_w S 5 ((S 0 13).toNatClampNeg) p1) 6 (((k_w S 5 ((S 0 13).toNatClampNeg) p1) 0 13).toNatClampNeg) p2) 0 13).toNatClampNeg) p3)) _ := k_eq hP (wsX5_a7 cs a (k_w (k_w S 5 ((S 0 13).toNatClampNeg) p1) 6 (((k_w S 5 ((S 0 13).toNatClampNeg) p1) 0 13).toNatClampNeg) p2) (((k_w (k_w S 5 ((S 0 13).toNatClampNeg) p1) 6 (((k_w S 5 ((S 0 13).toNatClampNeg) p1) 0 13).toNatClampNeg) p2) 0 13).toNatClampNeg) p3)
    have hD := hDA (k_w (k_w (k_w S 5 ((S 0 13).toNatClampNeg) p1) 6 (((k_w S 5 ((S 0 13).toNatClampNeg) p1) 0 13).toNatClampNeg) p2) 7 (((k_w (k_w S 5 ((S 0 13).toNatClampNeg) p1) 6 (((k_w S 5 ((S 0 13).toNatClampNeg) p1) 0 13).toNatClampNeg) p2) 0 13).toNatClampNeg) p3)
    refine lv_aload_n hx hb dX5_addThing_39 rfl (lv_at hl 0 rfl) ?_
    refine va_get (D := D) (ci := 3) (v := .ref (a 8)) (C := RX5) (T := TX5) (N := 15) hx hb hts (fun w h => List.mem_cons_of_mem _ (List.mem_append_left _ (List.mem_append_right _ h))) hown hK hP 0 rfl rfl 7 (by decide) (hts (.fieldLink RX5 33 "LeastNeed$Valley" "holder" "[I") (List.mem_of_getElem? (i := 5) rfl)) (fun _ h9 => h9) rfl dX5_addThing_40 ?_
    refine lv_aload_n hx hb dX5_addThing_43 rfl (lv_at hl 0 rfl) ?_
    refine va_get (D := D) (ci := 3) (v := .int ((k_w (k_w (k_w S 5 ((S 0 13).toNatClampNeg) p1) 6 (((k_w S 5 ((S 0 13).toNatClampNeg) p1) 0 13).toNatClampNeg) p2) 7 (((k_w (k_w S 5 ((S 0 13).toNatClampNeg) p1) 6 (((k_w S 5 ((S 0 13).toNatClampNeg) p1) 0 13).toNatClampNeg) p2) 0 13).toNatClampNeg) p3) 0 13)) (C := RX5) (T := TX5) (N := 15) hx hb hts (fun w h => List.mem_cons_of_mem _ (List.mem_append_left _ (List.mem_append_right _ h))) hown hK hP 0 rfl rfl 13 (by decide) (hts (.fieldLink RX5 58 "LeastNeed$Valley" "things" "I") (List.mem_of_getElem? (i := 1) rfl)) (fun _ h9 => h9) rfl dX5_addThing_44 ?_
    refine lv_iload_n hx hb dX5_addThing_47 rfl (lv_at hl 3 rfl) ?_
    obtain ⟨hi48, hd⟩ := dn_i hd
    refine k_iast (D := D) (k := ((k_w (k_w (k_w S 5 ((S 0 13).toNatClampNeg) p1) 6 (((k_w S 5 ((S 0 13).toNatClampNeg) p1) 0 13).toNatClampNeg) p2) 7 (((k_w (k_w S 5 ((S 0 13).toNatClampNeg) p1) 6 (((k_w S 5 ((S 0 13).toNatClampNeg) p1) 0 13).toNatClampNeg) p2) 0 13).toNatClampNeg) p3) 0 13).toNatClampNeg) (by rfl) hx hb hK hP hD hS 8 1 rfl rfl hi48 dX5_addThing_48 (fun H locs hP hD hS => ?_)
    have hP : va_P D vwCl (wX5 cs a (k_w (k_w (k_w (k_w S 5 ((S 0 13).toNatClampNeg) p1) 6 (((k_w S 5 ((S 0 13).toNatClampNeg) p1) 0 13).toNatClampNeg) p2) 7 (((k_w (k_w S 5 ((S 0 13).toNatClampNeg) p1) 6 (((k_w S 5 ((S 0 13).toNatClampNeg) p1) 0 13).toNatClampNeg) p2) 0 13).toNatClampNeg) p3) 8 (((k_w (k_w (k_w S 5 ((S 0 13).toNatClampNeg) p1) 6 (((k_w S 5 ((S 0 13).toNatClampNeg) p1) 0 13).toNatClampNeg) p2) 7 (((k_w (k_w S 5 ((S 0 13).toNatClampNeg) p1) 6 (((k_w S 5 ((S 0 13).toNatClampNeg) p1) 0 13).toNatClampNeg) p2) 0 13).toNatClampNeg) p3) 0 13).toNatClampNeg) p3)) _ := k_eq hP (wsX5_a8 cs a (k_w (k_w (k_w S 5 ((S 0 13).toNatClampNeg) p1) 6 (((k_w S 5 ((S 0 13).toNatClampNeg) p1) 0 13).toNatClampNeg) p2) 7 (((k_w (k_w S 5 ((S 0 13).toNatClampNeg) p1) 6 (((k_w S 5 ((S 0 13).toNatClampNeg) p1) 0 13).toNatClampNeg) p2) 0 13).toNatClampNeg) p3) (((k_w (k_w (k_w S 5 ((S 0 13).toNatClampNeg) p1) 6 (((k_w S 5 ((S 0 13).toNatClampNeg) p1) 0 13).toNatClampNeg) p2) 7 (((k_w (k_w S 5 ((S 0 13).toNatClampNeg) p1) 6 (((k_w S 5 ((S 0 13).toNatClampNeg) p1) 0 13).toNatClampNeg) p2) 0 13).toNatClampNeg) p3) 0 13).toNatClampNeg) p3)
    have hD := hDA (k_w (k_w (k_w (k_w S 5 ((S 0 13).toNatClampNeg) p1) 6 (((k_w S 5 ((S 0 13).toNatClampNeg) p1) 0 13).toNatClampNeg) p2) 7 (((k_w (k_w S 5 ((S 0 13).toNatClampNeg) p1) 6 (((k_w S 5 ((S 0 13).toNatClampNeg) p1) 0 13).toNatClampNeg) p2) 0 13).toNatClampNeg) p3) 8 (((k_w (k_w (k_w S 5 ((S 0 13).toNatClampNeg) p1) 6 (((k_w S 5 ((S 0 13).toNatClampNeg) p1) 0 13).toNatClampNeg) p2) 7 (((k_w (k_w S 5 ((S 0 13).toNatClampNeg) p1) 6 (((k_w S 5 ((S 0 13).toNatClampNeg) p1) 0 13).toNatClampNeg) p2) 0 13).toNatClampNeg) p3) 0 13).toNatClampNeg) p3)
    refine lv_aload_n hx hb dX5_addThing_49 rfl (lv_at hl 0 rfl) ?_
    refine va_get (D := D) (ci := 3) (v := .ref (a 9)) (C := RX5) (T := TX5) (N := 15) hx hb hts (fun w h => List.mem_cons_of_mem _ (List.mem_append_left _ (List.mem_append_right _ h))) hown hK hP 0 rfl rfl 8 (by decide) (hts (.fieldLink RX5 36 "LeastNeed$Valley" "place" "[I") (List.mem_of_getElem? (i := 6) rfl)) (fun _ h9 => h9) rfl dX5_addThing_50 ?_
    refine lv_aload_n hx hb dX5_addThing_53 rfl (lv_at hl 0 rfl) ?_
    refine va_get (D := D) (ci := 3) (v := .int ((k_w (k_w (k_w (k_w S 5 ((S 0 13).toNatClampNeg) p1) 6 (((k_w S 5 ((S 0 13).toNatClampNeg) p1) 0 13).toNatClampNeg) p2) 7 (((k_w (k_w S 5 ((S 0 13).toNatClampNeg) p1) 6 (((k_w S 5 ((S 0 13).toNatClampNeg) p1) 0 13).toNatClampNeg) p2) 0 13).toNatClampNeg) p3) 8 (((k_w (k_w (k_w S 5 ((S 0 13).toNatClampNeg) p1) 6 (((k_w S 5 ((S 0 13).toNatClampNeg) p1) 0 13).toNatClampNeg) p2) 7 (((k_w (k_w S 5 ((S 0 13).toNatClampNeg) p1) 6 (((k_w S 5 ((S 0 13).toNatClampNeg) p1) 0 13).toNatClampNeg) p2) 0 13).toNatClampNeg) p3) 0 13).toNatClampNeg) p3) 0 13)) (C := RX5) (T := TX5) (N := 15) hx hb hts (fun w h => List.mem_cons_of_mem _ (List.mem_append_left _ (List.mem_append_right _ h))) hown hK hP 0 rfl rfl 13 (by decide) (hts (.fieldLink RX5 58 "LeastNeed$Valley" "things" "I") (List.mem_of_getElem? (i := 1) rfl)) (fun _ h9 => h9) rfl dX5_addThing_54 ?_
    refine lv_iconst (v := (0 : Int32)) hx hb dX5_addThing_57 (by decide) ?_
    obtain ⟨hi58, hd⟩ := dn_i hd
    refine k_iast (D := D) (k := ((k_w (k_w (k_w (k_w S 5 ((S 0 13).toNatClampNeg) p1) 6 (((k_w S 5 ((S 0 13).toNatClampNeg) p1) 0 13).toNatClampNeg) p2) 7 (((k_w (k_w S 5 ((S 0 13).toNatClampNeg) p1) 6 (((k_w S 5 ((S 0 13).toNatClampNeg) p1) 0 13).toNatClampNeg) p2) 0 13).toNatClampNeg) p3) 8 (((k_w (k_w (k_w S 5 ((S 0 13).toNatClampNeg) p1) 6 (((k_w S 5 ((S 0 13).toNatClampNeg) p1) 0 13).toNatClampNeg) p2) 7 (((k_w (k_w S 5 ((S 0 13).toNatClampNeg) p1) 6 (((k_w S 5 ((S 0 13).toNatClampNeg) p1) 0 13).toNatClampNeg) p2) 0 13).toNatClampNeg) p3) 0 13).toNatClampNeg) p3) 0 13).toNatClampNeg) (by rfl) hx hb hK hP hD hS 9 1 rfl rfl hi58 dX5_addThing_58 (fun H locs hP hD hS => ?_)
    have hP : va_P D vwCl (wX5 cs a (k_w (k_w (k_w (k_w (k_w S 5 ((S 0 13).toNatClampNeg) p1) 6 (((k_w S 5 ((S 0 13).toNatClampNeg) p1) 0 13).toNatClampNeg) p2) 7 (((k_w (k_w S 5 ((S 0 13).toNatClampNeg) p1) 6 (((k_w S 5 ((S 0 13).toNatClampNeg) p1) 0 13).toNatClampNeg) p2) 0 13).toNatClampNeg) p3) 8 (((k_w (k_w (k_w S 5 ((S 0 13).toNatClampNeg) p1) 6 (((k_w S 5 ((S 0 13).toNatClampNeg) p1) 0 13).toNatClampNeg) p2) 7 (((k_w (k_w S 5 ((S 0 13).toNatClampNeg) p1) 6 (((k_w S 5 ((S 0 13).toNatClampNeg) p1) 0 13).toNatClampNeg) p2) 0 13).toNatClampNeg) p3) 0 13).toNatClampNeg) p3) 9 (((k_w (k_w (k_w (k_w S 5 ((S 0 13).toNatClampNeg) p1) 6 (((k_w S 5 ((S 0 13).toNatClampNeg) p1) 0 13).toNatClampNeg) p2) 7 (((k_w (k_w S 5 ((S 0 13).toNatClampNeg) p1) 6 (((k_w S 5 ((S 0 13).toNatClampNeg) p1) 0 13).toNatClampNeg) p2) 0 13).toNatClampNeg) p3) 8 (((k_w (k_w (k_w S 5 ((S 0 13).toNatClampNeg) p1) 6 (((k_w S 5 ((S 0 13).toNatClampNeg) p1) 0 13).toNatClampNeg) p2) 7 (((k_w (k_w S 5 ((S 0 13).toNatClampNeg) p1) 6 (((k_w S 5 ((S 0 13).toNatClampNeg) p1) 0 13).toNatClampNeg) p2) 0 13).toNatClampNeg) p3) 0 13).toNatClampNeg) p3) 0 13).toNatClampNeg) (0 : Int32))) _ := k_eq hP (wsX5_a9 cs a (k_w (k_w (k_w (k_w S 5 ((S 0 13).toNatClampNeg) p1) 6 (((k_w S 5 ((S 0 13).toNatClampNeg) p1) 0 13).toNatClampNeg) p2) 7 (((k_w (k_w S 5 ((S 0 13).toNatClampNeg) p1) 6 (((k_w S 5 ((S 0 13).toNatClampNeg) p1) 0 13).toNatClampNeg) p2) 0 13).toNatClampNeg) p3) 8 (((k_w (k_w (k_w S 5 ((S 0 13).toNatClampNeg) p1) 6 (((k_w S 5 ((S 0 13).toNatClampNeg) p1) 0 13).toNatClampNeg) p2) 7 (((k_w (k_w S 5 ((S 0 13).toNatClampNeg) p1) 6 (((k_w S 5 ((S 0 13).toNatClampNeg) p1) 0 13).toNatClampNeg) p2) 0 13).toNatClampNeg) p3) 0 13).toNatClampNeg) p3) (((k_w (k_w (k_w (k_w S 5 ((S 0 13).toNatClampNeg) p1) 6 (((k_w S 5 ((S 0 13).toNatClampNeg) p1) 0 13).toNatClampNeg) p2) 7 (((k_w (k_w S 5 ((S 0 13).toNatClampNeg) p1) 6 (((k_w S 5 ((S 0 13).toNatClampNeg) p1) 0 13).toNatClampNeg) p2) 0 13).toNatClampNeg) p3) 8 (((k_w (k_w (k_w S 5 ((S 0 13).toNatClampNeg) p1) 6 (((k_w S 5 ((S 0 13).toNatClampNeg) p1) 0 13).toNatClampNeg) p2) 7 (((k_w (k_w S 5 ((S 0 13).toNatClampNeg) p1) 6 (((k_w S 5 ((S 0 13).toNatClampNeg) p1) 0 13).toNatClampNeg) p2) 0 13).toNatClampNeg) p3) 0 13).toNatClampNeg) p3) 0 13).toNatClampNeg) (0 : Int32))
    have hD := hDA (k_w (k_w (k_w (k_w (k_w S 5 ((S 0 13).toNatClampNeg) p1) 6 (((k_w S 5 ((S 0 13).toNatClampNeg) p1) 0 13).toNatClampNeg) p2) 7 (((k_w (k_w S 5 ((S 0 13).toNatClampNeg) p1) 6 (((k_w S 5 ((S 0 13).toNatClampNeg) p1) 0 13).toNatClampNeg) p2) 0 13).toNatClampNeg) p3) 8 (((k_w (k_w (k_w S 5 ((S 0 13).toNatClampNeg) p1) 6 (((k_w S 5 ((S 0 13).toNatClampNeg) p1) 0 13).toNatClampNeg) p2) 7 (((k_w (k_w S 5 ((S 0 13).toNatClampNeg) p1) 6 (((k_w S 5 ((S 0 13).toNatClampNeg) p1) 0 13).toNatClampNeg) p2) 0 13).toNatClampNeg) p3) 0 13).toNatClampNeg) p3) 9 (((k_w (k_w (k_w (k_w S 5 ((S 0 13).toNatClampNeg) p1) 6 (((k_w S 5 ((S 0 13).toNatClampNeg) p1) 0 13).toNatClampNeg) p2) 7 (((k_w (k_w S 5 ((S 0 13).toNatClampNeg) p1) 6 (((k_w S 5 ((S 0 13).toNatClampNeg) p1) 0 13).toNatClampNeg) p2) 0 13).toNatClampNeg) p3) 8 (((k_w (k_w (k_w S 5 ((S 0 13).toNatClampNeg) p1) 6 (((k_w S 5 ((S 0 13).toNatClampNeg) p1) 0 13).toNatClampNeg) p2) 7 (((k_w (k_w S 5 ((S 0 13).toNatClampNeg) p1) 6 (((k_w S 5 ((S 0 13).toNatClampNeg) p1) 0 13).toNatClampNeg) p2) 0 13).toNatClampNeg) p3) 0 13).toNatClampNeg) p3) 0 13).toNatClampNeg) (0 : Int32))
    refine lv_aload_n hx hb dX5_addThing_59 rfl (lv_at hl 0 rfl) ?_
    refine lv_dup hx hb dX5_addThing_60 rfl ?_
    refine va_get (D := D) (ci := 3) (v := .int ((k_w (k_w (k_w (k_w (k_w S 5 ((S 0 13).toNatClampNeg) p1) 6 (((k_w S 5 ((S 0 13).toNatClampNeg) p1) 0 13).toNatClampNeg) p2) 7 (((k_w (k_w S 5 ((S 0 13).toNatClampNeg) p1) 6 (((k_w S 5 ((S 0 13).toNatClampNeg) p1) 0 13).toNatClampNeg) p2) 0 13).toNatClampNeg) p3) 8 (((k_w (k_w (k_w S 5 ((S 0 13).toNatClampNeg) p1) 6 (((k_w S 5 ((S 0 13).toNatClampNeg) p1) 0 13).toNatClampNeg) p2) 7 (((k_w (k_w S 5 ((S 0 13).toNatClampNeg) p1) 6 (((k_w S 5 ((S 0 13).toNatClampNeg) p1) 0 13).toNatClampNeg) p2) 0 13).toNatClampNeg) p3) 0 13).toNatClampNeg) p3) 9 (((k_w (k_w (k_w (k_w S 5 ((S 0 13).toNatClampNeg) p1) 6 (((k_w S 5 ((S 0 13).toNatClampNeg) p1) 0 13).toNatClampNeg) p2) 7 (((k_w (k_w S 5 ((S 0 13).toNatClampNeg) p1) 6 (((k_w S 5 ((S 0 13).toNatClampNeg) p1) 0 13).toNatClampNeg) p2) 0 13).toNatClampNeg) p3) 8 (((k_w (k_w (k_w S 5 ((S 0 13).toNatClampNeg) p1) 6 (((k_w S 5 ((S 0 13).toNatClampNeg) p1) 0 13).toNatClampNeg) p2) 7 (((k_w (k_w S 5 ((S 0 13).toNatClampNeg) p1) 6 (((k_w S 5 ((S 0 13).toNatClampNeg) p1) 0 13).toNatClampNeg) p2) 0 13).toNatClampNeg) p3) 0 13).toNatClampNeg) p3) 0 13).toNatClampNeg) (0 : Int32)) 0 13)) (C := RX5) (T := TX5) (N := 15) hx hb hts (fun w h => List.mem_cons_of_mem _ (List.mem_append_left _ (List.mem_append_right _ h))) hown hK hP 0 rfl rfl 13 (by decide) (hts (.fieldLink RX5 58 "LeastNeed$Valley" "things" "I") (List.mem_of_getElem? (i := 1) rfl)) (fun _ h9 => h9) rfl dX5_addThing_61 ?_
    refine lv_iconst (v := (1 : Int32)) hx hb dX5_addThing_64 (by decide) ?_
    refine lv_iadd hx hb dX5_addThing_65 ?_
    refine va_put (D := D) (ci := 3) (v := .int (((k_w (k_w (k_w (k_w (k_w S 5 ((S 0 13).toNatClampNeg) p1) 6 (((k_w S 5 ((S 0 13).toNatClampNeg) p1) 0 13).toNatClampNeg) p2) 7 (((k_w (k_w S 5 ((S 0 13).toNatClampNeg) p1) 6 (((k_w S 5 ((S 0 13).toNatClampNeg) p1) 0 13).toNatClampNeg) p2) 0 13).toNatClampNeg) p3) 8 (((k_w (k_w (k_w S 5 ((S 0 13).toNatClampNeg) p1) 6 (((k_w S 5 ((S 0 13).toNatClampNeg) p1) 0 13).toNatClampNeg) p2) 7 (((k_w (k_w S 5 ((S 0 13).toNatClampNeg) p1) 6 (((k_w S 5 ((S 0 13).toNatClampNeg) p1) 0 13).toNatClampNeg) p2) 0 13).toNatClampNeg) p3) 0 13).toNatClampNeg) p3) 9 (((k_w (k_w (k_w (k_w S 5 ((S 0 13).toNatClampNeg) p1) 6 (((k_w S 5 ((S 0 13).toNatClampNeg) p1) 0 13).toNatClampNeg) p2) 7 (((k_w (k_w S 5 ((S 0 13).toNatClampNeg) p1) 6 (((k_w S 5 ((S 0 13).toNatClampNeg) p1) 0 13).toNatClampNeg) p2) 0 13).toNatClampNeg) p3) 8 (((k_w (k_w (k_w S 5 ((S 0 13).toNatClampNeg) p1) 6 (((k_w S 5 ((S 0 13).toNatClampNeg) p1) 0 13).toNatClampNeg) p2) 7 (((k_w (k_w S 5 ((S 0 13).toNatClampNeg) p1) 6 (((k_w S 5 ((S 0 13).toNatClampNeg) p1) 0 13).toNatClampNeg) p2) 0 13).toNatClampNeg) p3) 0 13).toNatClampNeg) p3) 0 13).toNatClampNeg) (0 : Int32)) 0 13) + (1 : Int32))) (ty := .int) (C := RX5) (T := TX5) (N := 15) hx hb hts (fun w h => List.mem_cons_of_mem _ (List.mem_append_left _ (List.mem_append_right _ h))) tyX5 tyX5_ok nmX5 hown hK hP hD hS 0 rfl rfl 13 (by decide) (hts (.fieldLink RX5 58 "LeastNeed$Valley" "things" "I") (List.mem_of_getElem? (i := 1) rfl)) (fun _ h9 => h9) rfl (by decide +kernel) rfl rfl (Nat.le_of_ble_eq_true rfl) dX5_addThing_66 (fun H locs hP hD hS => ?_)
    have hP : va_P D vwCl (wX5 cs a (k_w (k_w (k_w (k_w (k_w (k_w S 5 ((S 0 13).toNatClampNeg) p1) 6 (((k_w S 5 ((S 0 13).toNatClampNeg) p1) 0 13).toNatClampNeg) p2) 7 (((k_w (k_w S 5 ((S 0 13).toNatClampNeg) p1) 6 (((k_w S 5 ((S 0 13).toNatClampNeg) p1) 0 13).toNatClampNeg) p2) 0 13).toNatClampNeg) p3) 8 (((k_w (k_w (k_w S 5 ((S 0 13).toNatClampNeg) p1) 6 (((k_w S 5 ((S 0 13).toNatClampNeg) p1) 0 13).toNatClampNeg) p2) 7 (((k_w (k_w S 5 ((S 0 13).toNatClampNeg) p1) 6 (((k_w S 5 ((S 0 13).toNatClampNeg) p1) 0 13).toNatClampNeg) p2) 0 13).toNatClampNeg) p3) 0 13).toNatClampNeg) p3) 9 (((k_w (k_w (k_w (k_w S 5 ((S 0 13).toNatClampNeg) p1) 6 (((k_w S 5 ((S 0 13).toNatClampNeg) p1) 0 13).toNatClampNeg) p2) 7 (((k_w (k_w S 5 ((S 0 13).toNatClampNeg) p1) 6 (((k_w S 5 ((S 0 13).toNatClampNeg) p1) 0 13).toNatClampNeg) p2) 0 13).toNatClampNeg) p3) 8 (((k_w (k_w (k_w S 5 ((S 0 13).toNatClampNeg) p1) 6 (((k_w S 5 ((S 0 13).toNatClampNeg) p1) 0 13).toNatClampNeg) p2) 7 (((k_w (k_w S 5 ((S 0 13).toNatClampNeg) p1) 6 (((k_w S 5 ((S 0 13).toNatClampNeg) p1) 0 13).toNatClampNeg) p2) 0 13).toNatClampNeg) p3) 0 13).toNatClampNeg) p3) 0 13).toNatClampNeg) (0 : Int32)) 0 13 (((k_w (k_w (k_w (k_w (k_w S 5 ((S 0 13).toNatClampNeg) p1) 6 (((k_w S 5 ((S 0 13).toNatClampNeg) p1) 0 13).toNatClampNeg) p2) 7 (((k_w (k_w S 5 ((S 0 13).toNatClampNeg) p1) 6 (((k_w S 5 ((S 0 13).toNatClampNeg) p1) 0 13).toNatClampNeg) p2) 0 13).toNatClampNeg) p3) 8 (((k_w (k_w (k_w S 5 ((S 0 13).toNatClampNeg) p1) 6 (((k_w S 5 ((S 0 13).toNatClampNeg) p1) 0 13).toNatClampNeg) p2) 7 (((k_w (k_w S 5 ((S 0 13).toNatClampNeg) p1) 6 (((k_w S 5 ((S 0 13).toNatClampNeg) p1) 0 13).toNatClampNeg) p2) 0 13).toNatClampNeg) p3) 0 13).toNatClampNeg) p3) 9 (((k_w (k_w (k_w (k_w S 5 ((S 0 13).toNatClampNeg) p1) 6 (((k_w S 5 ((S 0 13).toNatClampNeg) p1) 0 13).toNatClampNeg) p2) 7 (((k_w (k_w S 5 ((S 0 13).toNatClampNeg) p1) 6 (((k_w S 5 ((S 0 13).toNatClampNeg) p1) 0 13).toNatClampNeg) p2) 0 13).toNatClampNeg) p3) 8 (((k_w (k_w (k_w S 5 ((S 0 13).toNatClampNeg) p1) 6 (((k_w S 5 ((S 0 13).toNatClampNeg) p1) 0 13).toNatClampNeg) p2) 7 (((k_w (k_w S 5 ((S 0 13).toNatClampNeg) p1) 6 (((k_w S 5 ((S 0 13).toNatClampNeg) p1) 0 13).toNatClampNeg) p2) 0 13).toNatClampNeg) p3) 0 13).toNatClampNeg) p3) 0 13).toNatClampNeg) (0 : Int32)) 0 13) + (1 : Int32)))) _ := k_eq hP (wsX5_f0_13 cs a (k_w (k_w (k_w (k_w (k_w S 5 ((S 0 13).toNatClampNeg) p1) 6 (((k_w S 5 ((S 0 13).toNatClampNeg) p1) 0 13).toNatClampNeg) p2) 7 (((k_w (k_w S 5 ((S 0 13).toNatClampNeg) p1) 6 (((k_w S 5 ((S 0 13).toNatClampNeg) p1) 0 13).toNatClampNeg) p2) 0 13).toNatClampNeg) p3) 8 (((k_w (k_w (k_w S 5 ((S 0 13).toNatClampNeg) p1) 6 (((k_w S 5 ((S 0 13).toNatClampNeg) p1) 0 13).toNatClampNeg) p2) 7 (((k_w (k_w S 5 ((S 0 13).toNatClampNeg) p1) 6 (((k_w S 5 ((S 0 13).toNatClampNeg) p1) 0 13).toNatClampNeg) p2) 0 13).toNatClampNeg) p3) 0 13).toNatClampNeg) p3) 9 (((k_w (k_w (k_w (k_w S 5 ((S 0 13).toNatClampNeg) p1) 6 (((k_w S 5 ((S 0 13).toNatClampNeg) p1) 0 13).toNatClampNeg) p2) 7 (((k_w (k_w S 5 ((S 0 13).toNatClampNeg) p1) 6 (((k_w S 5 ((S 0 13).toNatClampNeg) p1) 0 13).toNatClampNeg) p2) 0 13).toNatClampNeg) p3) 8 (((k_w (k_w (k_w S 5 ((S 0 13).toNatClampNeg) p1) 6 (((k_w S 5 ((S 0 13).toNatClampNeg) p1) 0 13).toNatClampNeg) p2) 7 (((k_w (k_w S 5 ((S 0 13).toNatClampNeg) p1) 6 (((k_w S 5 ((S 0 13).toNatClampNeg) p1) 0 13).toNatClampNeg) p2) 0 13).toNatClampNeg) p3) 0 13).toNatClampNeg) p3) 0 13).toNatClampNeg) (0 : Int32)) (((k_w (k_w (k_w (k_w (k_w S 5 ((S 0 13).toNatClampNeg) p1) 6 (((k_w S 5 ((S 0 13).toNatClampNeg) p1) 0 13).toNatClampNeg) p2) 7 (((k_w (k_w S 5 ((S 0 13).toNatClampNeg) p1) 6 (((k_w S 5 ((S 0 13).toNatClampNeg) p1) 0 13).toNatClampNeg) p2) 0 13).toNatClampNeg) p3) 8 (((k_w (k_w (k_w S 5 ((S 0 13).toNatClampNeg) p1) 6 (((k_w S 5 ((S 0 13).toNatClampNeg) p1) 0 13).toNatClampNeg) p2) 7 (((k_w (k_w S 5 ((S 0 13).toNatClampNeg) p1) 6 (((k_w S 5 ((S 0 13).toNatClampNeg) p1) 0 13).toNatClampNeg) p2) 0 13).toNatClampNeg) p3) 0 13).toNatClampNeg) p3) 9 (((k_w (k_w (k_w (k_w S 5 ((S 0 13).toNatClampNeg) p1) 6 (((k_w S 5 ((S 0 13).toNatClampNeg) p1) 0 13).toNatClampNeg) p2) 7 (((k_w (k_w S 5 ((S 0 13).toNatClampNeg) p1) 6 (((k_w S 5 ((S 0 13).toNatClampNeg) p1) 0 13).toNatClampNeg) p2) 0 13).toNatClampNeg) p3) 8 (((k_w (k_w (k_w S 5 ((S 0 13).toNatClampNeg) p1) 6 (((k_w S 5 ((S 0 13).toNatClampNeg) p1) 0 13).toNatClampNeg) p2) 7 (((k_w (k_w S 5 ((S 0 13).toNatClampNeg) p1) 6 (((k_w S 5 ((S 0 13).toNatClampNeg) p1) 0 13).toNatClampNeg) p2) 0 13).toNatClampNeg) p3) 0 13).toNatClampNeg) p3) 0 13).toNatClampNeg) (0 : Int32)) 0 13) + (1 : Int32)))
    have hD := hDA (k_w (k_w (k_w (k_w (k_w (k_w S 5 ((S 0 13).toNatClampNeg) p1) 6 (((k_w S 5 ((S 0 13).toNatClampNeg) p1) 0 13).toNatClampNeg) p2) 7 (((k_w (k_w S 5 ((S 0 13).toNatClampNeg) p1) 6 (((k_w S 5 ((S 0 13).toNatClampNeg) p1) 0 13).toNatClampNeg) p2) 0 13).toNatClampNeg) p3) 8 (((k_w (k_w (k_w S 5 ((S 0 13).toNatClampNeg) p1) 6 (((k_w S 5 ((S 0 13).toNatClampNeg) p1) 0 13).toNatClampNeg) p2) 7 (((k_w (k_w S 5 ((S 0 13).toNatClampNeg) p1) 6 (((k_w S 5 ((S 0 13).toNatClampNeg) p1) 0 13).toNatClampNeg) p2) 0 13).toNatClampNeg) p3) 0 13).toNatClampNeg) p3) 9 (((k_w (k_w (k_w (k_w S 5 ((S 0 13).toNatClampNeg) p1) 6 (((k_w S 5 ((S 0 13).toNatClampNeg) p1) 0 13).toNatClampNeg) p2) 7 (((k_w (k_w S 5 ((S 0 13).toNatClampNeg) p1) 6 (((k_w S 5 ((S 0 13).toNatClampNeg) p1) 0 13).toNatClampNeg) p2) 0 13).toNatClampNeg) p3) 8 (((k_w (k_w (k_w S 5 ((S 0 13).toNatClampNeg) p1) 6 (((k_w S 5 ((S 0 13).toNatClampNeg) p1) 0 13).toNatClampNeg) p2) 7 (((k_w (k_w S 5 ((S 0 13).toNatClampNeg) p1) 6 (((k_w S 5 ((S 0 13).toNatClampNeg) p1) 0 13).toNatClampNeg) p2) 0 13).toNatClampNeg) p3) 0 13).toNatClampNeg) p3) 0 13).toNatClampNeg) (0 : Int32)) 0 13 (((k_w (k_w (k_w (k_w (k_w S 5 ((S 0 13).toNatClampNeg) p1) 6 (((k_w S 5 ((S 0 13).toNatClampNeg) p1) 0 13).toNatClampNeg) p2) 7 (((k_w (k_w S 5 ((S 0 13).toNatClampNeg) p1) 6 (((k_w S 5 ((S 0 13).toNatClampNeg) p1) 0 13).toNatClampNeg) p2) 0 13).toNatClampNeg) p3) 8 (((k_w (k_w (k_w S 5 ((S 0 13).toNatClampNeg) p1) 6 (((k_w S 5 ((S 0 13).toNatClampNeg) p1) 0 13).toNatClampNeg) p2) 7 (((k_w (k_w S 5 ((S 0 13).toNatClampNeg) p1) 6 (((k_w S 5 ((S 0 13).toNatClampNeg) p1) 0 13).toNatClampNeg) p2) 0 13).toNatClampNeg) p3) 0 13).toNatClampNeg) p3) 9 (((k_w (k_w (k_w (k_w S 5 ((S 0 13).toNatClampNeg) p1) 6 (((k_w S 5 ((S 0 13).toNatClampNeg) p1) 0 13).toNatClampNeg) p2) 7 (((k_w (k_w S 5 ((S 0 13).toNatClampNeg) p1) 6 (((k_w S 5 ((S 0 13).toNatClampNeg) p1) 0 13).toNatClampNeg) p2) 0 13).toNatClampNeg) p3) 8 (((k_w (k_w (k_w S 5 ((S 0 13).toNatClampNeg) p1) 6 (((k_w S 5 ((S 0 13).toNatClampNeg) p1) 0 13).toNatClampNeg) p2) 7 (((k_w (k_w S 5 ((S 0 13).toNatClampNeg) p1) 6 (((k_w S 5 ((S 0 13).toNatClampNeg) p1) 0 13).toNatClampNeg) p2) 0 13).toNatClampNeg) p3) 0 13).toNatClampNeg) p3) 0 13).toNatClampNeg) (0 : Int32)) 0 13) + (1 : Int32)))
    refine lv_aload_n hx hb dX5_addThing_69 rfl (lv_at hl 0 rfl) ?_
    refine va_get (D := D) (ci := 3) (v := .ref (a 14)) (C := RX5) (T := TX5) (N := 15) hx hb hts (fun w h => List.mem_cons_of_mem _ (List.mem_append_left _ (List.mem_append_right _ h))) hown hK hP 0 rfl rfl 11 (by decide) (hts (.fieldLink RX5 51 "LeastNeed$Valley" "past" "LLeastNeed$Rows;") (List.mem_of_getElem? (i := 7) rfl)) (fun _ h9 => h9) rfl dX5_addThing_70 ?_
    refine lv_iconst (v := (0 : Int32)) hx hb dX5_addThing_73 (by decide) ?_
    refine va_put (D := D) (ci := 2) (v := .int (0 : Int32)) (ty := .int) (C := RX3) (T := TX3) (N := 4) hx hb hts (fun w h => List.mem_cons_of_mem _ (List.mem_append_right _ h)) tyX3 tyX3_ok nmX3 hown hK hP hD hS 14 rfl rfl 3 (by decide) (hts (.fieldLink RX5 64 "LeastNeed$Rows" "used" "I") (List.mem_of_getElem? (i := 8) rfl)) (fun _ h9 => h9) rfl (by decide +kernel) rfl rfl (Nat.le_of_ble_eq_true rfl) dX5_addThing_74 (fun H locs hP hD hS => ?_)
    have hP : va_P D vwCl (wX5 cs a (k_w (k_w (k_w (k_w (k_w (k_w (k_w S 5 ((S 0 13).toNatClampNeg) p1) 6 (((k_w S 5 ((S 0 13).toNatClampNeg) p1) 0 13).toNatClampNeg) p2) 7 (((k_w (k_w S 5 ((S 0 13).toNatClampNeg) p1) 6 (((k_w S 5 ((S 0 13).toNatClampNeg) p1) 0 13).toNatClampNeg) p2) 0 13).toNatClampNeg) p3) 8 (((k_w (k_w (k_w S 5 ((S 0 13).toNatClampNeg) p1) 6 (((k_w S 5 ((S 0 13).toNatClampNeg) p1) 0 13).toNatClampNeg) p2) 7 (((k_w (k_w S 5 ((S 0 13).toNatClampNeg) p1) 6 (((k_w S 5 ((S 0 13).toNatClampNeg) p1) 0 13).toNatClampNeg) p2) 0 13).toNatClampNeg) p3) 0 13).toNatClampNeg) p3) 9 (((k_w (k_w (k_w (k_w S 5 ((S 0 13).toNatClampNeg) p1) 6 (((k_w S 5 ((S 0 13).toNatClampNeg) p1) 0 13).toNatClampNeg) p2) 7 (((k_w (k_w S 5 ((S 0 13).toNatClampNeg) p1) 6 (((k_w S 5 ((S 0 13).toNatClampNeg) p1) 0 13).toNatClampNeg) p2) 0 13).toNatClampNeg) p3) 8 (((k_w (k_w (k_w S 5 ((S 0 13).toNatClampNeg) p1) 6 (((k_w S 5 ((S 0 13).toNatClampNeg) p1) 0 13).toNatClampNeg) p2) 7 (((k_w (k_w S 5 ((S 0 13).toNatClampNeg) p1) 6 (((k_w S 5 ((S 0 13).toNatClampNeg) p1) 0 13).toNatClampNeg) p2) 0 13).toNatClampNeg) p3) 0 13).toNatClampNeg) p3) 0 13).toNatClampNeg) (0 : Int32)) 0 13 (((k_w (k_w (k_w (k_w (k_w S 5 ((S 0 13).toNatClampNeg) p1) 6 (((k_w S 5 ((S 0 13).toNatClampNeg) p1) 0 13).toNatClampNeg) p2) 7 (((k_w (k_w S 5 ((S 0 13).toNatClampNeg) p1) 6 (((k_w S 5 ((S 0 13).toNatClampNeg) p1) 0 13).toNatClampNeg) p2) 0 13).toNatClampNeg) p3) 8 (((k_w (k_w (k_w S 5 ((S 0 13).toNatClampNeg) p1) 6 (((k_w S 5 ((S 0 13).toNatClampNeg) p1) 0 13).toNatClampNeg) p2) 7 (((k_w (k_w S 5 ((S 0 13).toNatClampNeg) p1) 6 (((k_w S 5 ((S 0 13).toNatClampNeg) p1) 0 13).toNatClampNeg) p2) 0 13).toNatClampNeg) p3) 0 13).toNatClampNeg) p3) 9 (((k_w (k_w (k_w (k_w S 5 ((S 0 13).toNatClampNeg) p1) 6 (((k_w S 5 ((S 0 13).toNatClampNeg) p1) 0 13).toNatClampNeg) p2) 7 (((k_w (k_w S 5 ((S 0 13).toNatClampNeg) p1) 6 (((k_w S 5 ((S 0 13).toNatClampNeg) p1) 0 13).toNatClampNeg) p2) 0 13).toNatClampNeg) p3) 8 (((k_w (k_w (k_w S 5 ((S 0 13).toNatClampNeg) p1) 6 (((k_w S 5 ((S 0 13).toNatClampNeg) p1) 0 13).toNatClampNeg) p2) 7 (((k_w (k_w S 5 ((S 0 13).toNatClampNeg) p1) 6 (((k_w S 5 ((S 0 13).toNatClampNeg) p1) 0 13).toNatClampNeg) p2) 0 13).toNatClampNeg) p3) 0 13).toNatClampNeg) p3) 0 13).toNatClampNeg) (0 : Int32)) 0 13) + (1 : Int32))) 14 3 (0 : Int32))) _ := k_eq hP (wsX5_f14_3 cs a (k_w (k_w (k_w (k_w (k_w (k_w S 5 ((S 0 13).toNatClampNeg) p1) 6 (((k_w S 5 ((S 0 13).toNatClampNeg) p1) 0 13).toNatClampNeg) p2) 7 (((k_w (k_w S 5 ((S 0 13).toNatClampNeg) p1) 6 (((k_w S 5 ((S 0 13).toNatClampNeg) p1) 0 13).toNatClampNeg) p2) 0 13).toNatClampNeg) p3) 8 (((k_w (k_w (k_w S 5 ((S 0 13).toNatClampNeg) p1) 6 (((k_w S 5 ((S 0 13).toNatClampNeg) p1) 0 13).toNatClampNeg) p2) 7 (((k_w (k_w S 5 ((S 0 13).toNatClampNeg) p1) 6 (((k_w S 5 ((S 0 13).toNatClampNeg) p1) 0 13).toNatClampNeg) p2) 0 13).toNatClampNeg) p3) 0 13).toNatClampNeg) p3) 9 (((k_w (k_w (k_w (k_w S 5 ((S 0 13).toNatClampNeg) p1) 6 (((k_w S 5 ((S 0 13).toNatClampNeg) p1) 0 13).toNatClampNeg) p2) 7 (((k_w (k_w S 5 ((S 0 13).toNatClampNeg) p1) 6 (((k_w S 5 ((S 0 13).toNatClampNeg) p1) 0 13).toNatClampNeg) p2) 0 13).toNatClampNeg) p3) 8 (((k_w (k_w (k_w S 5 ((S 0 13).toNatClampNeg) p1) 6 (((k_w S 5 ((S 0 13).toNatClampNeg) p1) 0 13).toNatClampNeg) p2) 7 (((k_w (k_w S 5 ((S 0 13).toNatClampNeg) p1) 6 (((k_w S 5 ((S 0 13).toNatClampNeg) p1) 0 13).toNatClampNeg) p2) 0 13).toNatClampNeg) p3) 0 13).toNatClampNeg) p3) 0 13).toNatClampNeg) (0 : Int32)) 0 13 (((k_w (k_w (k_w (k_w (k_w S 5 ((S 0 13).toNatClampNeg) p1) 6 (((k_w S 5 ((S 0 13).toNatClampNeg) p1) 0 13).toNatClampNeg) p2) 7 (((k_w (k_w S 5 ((S 0 13).toNatClampNeg) p1) 6 (((k_w S 5 ((S 0 13).toNatClampNeg) p1) 0 13).toNatClampNeg) p2) 0 13).toNatClampNeg) p3) 8 (((k_w (k_w (k_w S 5 ((S 0 13).toNatClampNeg) p1) 6 (((k_w S 5 ((S 0 13).toNatClampNeg) p1) 0 13).toNatClampNeg) p2) 7 (((k_w (k_w S 5 ((S 0 13).toNatClampNeg) p1) 6 (((k_w S 5 ((S 0 13).toNatClampNeg) p1) 0 13).toNatClampNeg) p2) 0 13).toNatClampNeg) p3) 0 13).toNatClampNeg) p3) 9 (((k_w (k_w (k_w (k_w S 5 ((S 0 13).toNatClampNeg) p1) 6 (((k_w S 5 ((S 0 13).toNatClampNeg) p1) 0 13).toNatClampNeg) p2) 7 (((k_w (k_w S 5 ((S 0 13).toNatClampNeg) p1) 6 (((k_w S 5 ((S 0 13).toNatClampNeg) p1) 0 13).toNatClampNeg) p2) 0 13).toNatClampNeg) p3) 8 (((k_w (k_w (k_w S 5 ((S 0 13).toNatClampNeg) p1) 6 (((k_w S 5 ((S 0 13).toNatClampNeg) p1) 0 13).toNatClampNeg) p2) 7 (((k_w (k_w S 5 ((S 0 13).toNatClampNeg) p1) 6 (((k_w S 5 ((S 0 13).toNatClampNeg) p1) 0 13).toNatClampNeg) p2) 0 13).toNatClampNeg) p3) 0 13).toNatClampNeg) p3) 0 13).toNatClampNeg) (0 : Int32)) 0 13) + (1 : Int32))) (0 : Int32))
    have hD := hDA (k_w (k_w (k_w (k_w (k_w (k_w (k_w S 5 ((S 0 13).toNatClampNeg) p1) 6 (((k_w S 5 ((S 0 13).toNatClampNeg) p1) 0 13).toNatClampNeg) p2) 7 (((k_w (k_w S 5 ((S 0 13).toNatClampNeg) p1) 6 (((k_w S 5 ((S 0 13).toNatClampNeg) p1) 0 13).toNatClampNeg) p2) 0 13).toNatClampNeg) p3) 8 (((k_w (k_w (k_w S 5 ((S 0 13).toNatClampNeg) p1) 6 (((k_w S 5 ((S 0 13).toNatClampNeg) p1) 0 13).toNatClampNeg) p2) 7 (((k_w (k_w S 5 ((S 0 13).toNatClampNeg) p1) 6 (((k_w S 5 ((S 0 13).toNatClampNeg) p1) 0 13).toNatClampNeg) p2) 0 13).toNatClampNeg) p3) 0 13).toNatClampNeg) p3) 9 (((k_w (k_w (k_w (k_w S 5 ((S 0 13).toNatClampNeg) p1) 6 (((k_w S 5 ((S 0 13).toNatClampNeg) p1) 0 13).toNatClampNeg) p2) 7 (((k_w (k_w S 5 ((S 0 13).toNatClampNeg) p1) 6 (((k_w S 5 ((S 0 13).toNatClampNeg) p1) 0 13).toNatClampNeg) p2) 0 13).toNatClampNeg) p3) 8 (((k_w (k_w (k_w S 5 ((S 0 13).toNatClampNeg) p1) 6 (((k_w S 5 ((S 0 13).toNatClampNeg) p1) 0 13).toNatClampNeg) p2) 7 (((k_w (k_w S 5 ((S 0 13).toNatClampNeg) p1) 6 (((k_w S 5 ((S 0 13).toNatClampNeg) p1) 0 13).toNatClampNeg) p2) 0 13).toNatClampNeg) p3) 0 13).toNatClampNeg) p3) 0 13).toNatClampNeg) (0 : Int32)) 0 13 (((k_w (k_w (k_w (k_w (k_w S 5 ((S 0 13).toNatClampNeg) p1) 6 (((k_w S 5 ((S 0 13).toNatClampNeg) p1) 0 13).toNatClampNeg) p2) 7 (((k_w (k_w S 5 ((S 0 13).toNatClampNeg) p1) 6 (((k_w S 5 ((S 0 13).toNatClampNeg) p1) 0 13).toNatClampNeg) p2) 0 13).toNatClampNeg) p3) 8 (((k_w (k_w (k_w S 5 ((S 0 13).toNatClampNeg) p1) 6 (((k_w S 5 ((S 0 13).toNatClampNeg) p1) 0 13).toNatClampNeg) p2) 7 (((k_w (k_w S 5 ((S 0 13).toNatClampNeg) p1) 6 (((k_w S 5 ((S 0 13).toNatClampNeg) p1) 0 13).toNatClampNeg) p2) 0 13).toNatClampNeg) p3) 0 13).toNatClampNeg) p3) 9 (((k_w (k_w (k_w (k_w S 5 ((S 0 13).toNatClampNeg) p1) 6 (((k_w S 5 ((S 0 13).toNatClampNeg) p1) 0 13).toNatClampNeg) p2) 7 (((k_w (k_w S 5 ((S 0 13).toNatClampNeg) p1) 6 (((k_w S 5 ((S 0 13).toNatClampNeg) p1) 0 13).toNatClampNeg) p2) 0 13).toNatClampNeg) p3) 8 (((k_w (k_w (k_w S 5 ((S 0 13).toNatClampNeg) p1) 6 (((k_w S 5 ((S 0 13).toNatClampNeg) p1) 0 13).toNatClampNeg) p2) 7 (((k_w (k_w S 5 ((S 0 13).toNatClampNeg) p1) 6 (((k_w S 5 ((S 0 13).toNatClampNeg) p1) 0 13).toNatClampNeg) p2) 0 13).toNatClampNeg) p3) 0 13).toNatClampNeg) p3) 0 13).toNatClampNeg) (0 : Int32)) 0 13) + (1 : Int32))) 14 3 (0 : Int32))
    have e1 := dn_s1 hd
    exact k_vret hx hb hr hQ hAe (by rw [e1]) hP hS hlocks dX5_addThing_77
  · have hd := dn_f c5 hd
    have e1 := dn_s1 hd
    exact k_vret hx hb hr hQ hAe (by rw [e1]) hP hS hlocks dX5_addThing_8
-- LeastNeed$Valley.keepPast()V
set_option maxRecDepth 20000 in
def nX5_keepPast_l68 (x1_68 : Int32) (S_68 : Nat → Nat → Int32) : Option ((Int32 × (Nat → Nat → Int32)) ⊕ ((Nat → Nat → Int32))) := if (5 : Int32) ≤ x1_68 then k_up (some S_68) else if x1_68 < 0 ∨ 5 ≤ x1_68.toNatClampNeg then none else k_b1 (nX3_put 144 (18 : Int32) (8 : Int32) (k_wi S_68 14) ((8 : Int32) + ((2 : Int32) * x1_68)) (S_68 8 x1_68.toNatClampNeg)) (fun S89 => if x1_68 < 0 ∨ 5 ≤ x1_68.toNatClampNeg then none else k_b1 (nX3_put 144 (18 : Int32) (8 : Int32) (k_wi (k_sp S_68 14 2 S89) 14) ((9 : Int32) + ((2 : Int32) * x1_68)) ((k_sp S_68 14 2 S89) 9 x1_68.toNatClampNeg)) (fun S108 => some (.inl ((x1_68 + (1 : Int32)), (k_sp (k_sp S_68 14 2 S89) 14 2 S108)))))
set_option maxRecDepth 20000 in
def nX5_keepPast_l38 (x1_38 : Int32) (S_38 : Nat → Nat → Int32) : Option ((Int32 × (Nat → Nat → Int32)) ⊕ ((Nat → Nat → Int32))) := if (7 : Int32) ≤ x1_38 then k_up (k_it (fun st => nX5_keepPast_l68 st.1 st.2) 1000 ((0 : Int32), S_38)) else if x1_38 < 0 ∨ 7 ≤ x1_38.toNatClampNeg then none else k_b1 (nX3_put 144 (18 : Int32) (8 : Int32) (k_wi S_38 14) ((1 : Int32) + x1_38) (S_38 3 x1_38.toNatClampNeg)) (fun S57 => some (.inl ((x1_38 + (1 : Int32)), (k_sp S_38 14 2 S57))))
set_option maxRecDepth 20000 in
def nX5_keepPast_j17 (S_17 : Nat → Nat → Int32) : Option ((Nat → Nat → Int32)) := k_b1 (nX3_begin 144 (18 : Int32) (8 : Int32) (k_wi S_17 14)) (fun S21 => k_b1 (nX3_put 144 (18 : Int32) (8 : Int32) (k_wi (k_sp S_17 14 2 S21) 14) (0 : Int32) ((k_sp S_17 14 2 S21) 0 14)) (fun S33 => k_it (fun st => nX5_keepPast_l38 st.1 st.2) 1000 ((0 : Int32), (k_sp (k_sp S_17 14 2 S21) 14 2 S33))))
set_option maxRecDepth 20000 in
def nX5_keepPast (S : Nat → Nat → Int32) : Option ((Nat → Nat → Int32)) := k_b1 (nX3_isFull 144 (18 : Int32) (8 : Int32) (k_wi S 14)) (fun r4 => if r4 = 0 then nX5_keepPast_j17 S else k_b1 (nX3_dropFirst 144 (18 : Int32) (8 : Int32) (k_wi S 14)) (fun S14 => nX5_keepPast_j17 (k_sp S 14 2 S14)))
set_option maxHeartbeats 4000000 in
set_option maxRecDepth 100000 in
theorem mX5_keepPast (l : Launch) (D : va_G) (cs : Nat → ClassId) (a : Nat → Nat) (S : Nat → Nat → Int32) (S9 : (Nat → Nat → Int32)) (hd : nX5_keepPast S = some S9) : ∀ sz : Nat, Met l yX5_keepPast wsX5_keepPast ({ frames := 2, cells := 0, slots := 0, locals := 60 }) (k_Pc D cs [.ref (a 0)] (wX5 cs a S) sz) (k_Qv D (wX5 cs a S) (wX5 cs a S9) sz) 0 0 (va_A (wX5 cs a S) sz) := by
  intro sz
  refine Met.ofW (cc := cX5_keepPast) (maxL := 2) (ret := none) (by decide) rfl ?_
  intro p e s m args below meth c s₁ B hml hv
  obtain ⟨rfl, hsz, hP, hK, hD0, hNn⟩ := hv
  have hx := B.exec
  have hb := B.bytes
  have hr := B.returns
  have hts := atoms_spec (ws := wsX5_keepPast) B.pre
  have hown : s.vm.findClass RX5 = some m.cls := findClass_of_methodNamed B.named
  have hlocks := B.notSynchronized
  subst hsz
  obtain ⟨A, hAe⟩ : ∃ A : Nat → Prop, A = va_A (wX5 cs a S) s.heap.size := ⟨_, rfl⟩
  have hD : va_D A (wX5 cs a S) := by rw [hAe]; exact hD0.self
  have hA : ∀ q : Nat, s.heap.size ≤ q → A q := fun q h => by rw [hAe]; exact Or.inr h
  have hS : va_S A s.heap s.heap [] := va_S.rf
  have hDA : ∀ (S : Nat → Nat → Int32), va_D A (wX5 cs a S) := fun S => k_DA hD rfl
  have hl := lv_entry ([.ref (a 0)]) (n := 2) (Nat.le_of_ble_eq_true rfl)
  rw [lg_entry_eq]
  generalize (lg_sl ([.ref (a 0)]) ++ List.replicate (2 - (lg_sl ([.ref (a 0)])).length) Slot.unset).toArray = ls at hl ⊢
  have hl : lv_has ls 2 [(0, .ref (a 0))] := hl
  obtain ⟨Q, hQ⟩ : ∃ Q, Q = MQ below (k_Qv D (wX5 cs a S) (wX5 cs a S9) s.heap.size) ([.ref (a 0)] : List Value).toArray s 0 0 (va_A (wX5 cs a S) s.heap.size) := ⟨_, rfl⟩
  rw [← hQ]
  have Lo68 : ∀ (n1 : Nat) (x1_68 : Int32) (S_68 : Nat → Nat → Int32) (H : Heap) (locs : List Loc) (ls : Array Slot), k_it (fun st => nX5_keepPast_l68 st.1 st.2) n1 (x1_68, S_68) = some S9 → lv_has ls 2 [(0, .ref (a 0)), (1, .int x1_68)] → va_P D vwCl (wX5 cs a S_68) H → va_S A s.heap H locs → W p l e (headSpec wsX5_keepPast ({ frames := 2, cells := 0, slots := 0, locals := 60 })).room s m ([.ref (a 0)] : List Value).toArray below meth c H locs 0 0 Q (F0 m 68 ls []) := by
    intro n1
    induction n1 with
    | zero => intro x1_68 S_68 H locs ls hd; exact dn_it0 hd
    | succ n1 ih1 =>
      intro x1_68 S_68 H locs ls hd hl hP hS
      have hD := hDA S_68
      obtain ⟨y1, hd, hy1⟩ := dn_it hd
      have hd : nX5_keepPast_l68 x1_68 S_68 = some y1 := hd
      unfold nX5_keepPast_l68 at hd
      refine lv_iload_n hx hb dX5_keepPast_68 rfl (lv_at hl 1 rfl) ?_
      refine lv_iconst (v := (5 : Int32)) hx hb dX5_keepPast_69 (by decide) ?_
      refine lv_icmp_ge (tgt := 117) hx hb dX5_keepPast_70 (by decide) (fun c70 => ?_) (fun c70 => ?_)
      · have hd := dn_t c70 hd
        have hd := dn_up hd hy1
        have e1 := dn_s1 hd
        exact k_vret hx hb hr hQ hAe (by rw [e1]) hP hS hlocks dX5_keepPast_117
      · have hd := dn_f c70 hd
        refine lv_aload_n hx hb dX5_keepPast_73 rfl (lv_at hl 0 rfl) ?_
        refine va_get (D := D) (ci := 3) (v := .ref (a 14)) (C := RX5) (T := TX5) (N := 15) hx hb hts (fun w h => List.mem_cons_of_mem _ (List.mem_append_left _ (List.mem_append_right _ h))) hown hK hP 0 rfl rfl 11 (by decide) (hts (.fieldLink RX5 51 "LeastNeed$Valley" "past" "LLeastNeed$Rows;") (List.mem_of_getElem? (i := 1) rfl)) (fun _ h9 => h9) rfl dX5_keepPast_74 ?_
        refine lv_bipush (v := (8 : Int32)) hx hb dX5_keepPast_77 (by decide) ?_
        refine lv_iconst (v := (2 : Int32)) hx hb dX5_keepPast_79 (by decide) ?_
        refine lv_iload_n hx hb dX5_keepPast_80 rfl (lv_at hl 1 rfl) ?_
        refine lv_imul hx hb dX5_keepPast_81 ?_
        refine lv_iadd hx hb dX5_keepPast_82 ?_
        refine lv_aload_n hx hb dX5_keepPast_83 rfl (lv_at hl 0 rfl) ?_
        refine va_get (D := D) (ci := 3) (v := .ref (a 8)) (C := RX5) (T := TX5) (N := 15) hx hb hts (fun w h => List.mem_cons_of_mem _ (List.mem_append_left _ (List.mem_append_right _ h))) hown hK hP 0 rfl rfl 7 (by decide) (hts (.fieldLink RX5 33 "LeastNeed$Valley" "holder" "[I") (List.mem_of_getElem? (i := 4) rfl)) (fun _ h9 => h9) rfl dX5_keepPast_84 ?_
        refine lv_iload_n hx hb dX5_keepPast_87 rfl (lv_at hl 1 rfl) ?_
        obtain ⟨hi88, hd⟩ := dn_i hd
        refine k_iald (D := D) (k := x1_68.toNatClampNeg) (by rfl) hx hb hK hP 8 1 rfl rfl hi88 dX5_keepPast_88 ?_
        obtain ⟨S89, hq89, hd⟩ := dn_b1 hd
        have hPc : va_P D vwCl (wX3 cs 144 (18 : Int32) (8 : Int32) (k_wi a 14) (k_wi S_68 14)) _ := k_sub hP [14, 15] (wcX5_X3_14 cs a S_68)
        have hDc : va_D A (wX3 cs 144 (18 : Int32) (8 : Int32) (k_wi a 14) (k_wi S_68 14)) := hD.sub [14, 15] (by decide) (wcX5_X3_14 cs a S_68)
        have hF := k_self hDc hS hA
        refine k_run_v (va_runV (As := [.int ((8 : Int32) + ((2 : Int32) * x1_68)), .int (S_68 8 x1_68.toNatClampNeg)]) (rest := []) ⟨hx, hb, hml, hown, hts⟩ (mX3_put l D cs (k_wi a 14) 144 (18 : Int32) (8 : Int32) (k_wi S_68 14) ((8 : Int32) + ((2 : Int32) * x1_68)) (S_68 8 x1_68.toNatClampNeg) S89 hq89 _) (cwV 2 hts gX5_keepPast_X3_put rfl rfl rfl (by decide +kernel) ⟨Nat.le_of_ble_eq_true rfl, Nat.le_of_ble_eq_true rfl⟩) ⟨k_blind, va_recv hK hP (ci := 2) (q0 := 14) rfl rfl, k_pre hPc hK hNn hDc⟩ rfl rfl hl.1 rfl (lv_room (Nat.le_of_ble_eq_true rfl)) dX5_keepPast_89 ⟨Nat.le_of_ble_eq_true rfl, Nat.le_of_ble_eq_true rfl⟩) hS hF (fun H locs hP1 hk hS => ?_)
        have hP : va_P D vwCl (wX5 cs a (k_sp S_68 14 2 S89)) _ := k_back hP hD [14, 15] [0, 1, 2, 3, 4, 5, 6, 7, 8, 9, 10, 11, 12, 13] [0, 1, 2, 3, 4, 5, 6, 7, 8, 9, 10, 11, 12, 13, 14, 15] (wcX5_X3_14 cs a S_68) (by decide) hk hP1 (wbX5_X3_14_S0 cs a S_68 S89)
        have hD := hDA (k_sp S_68 14 2 S89)
        refine lv_aload_n hx hb dX5_keepPast_92 rfl (lv_at hl 0 rfl) ?_
        refine va_get (D := D) (ci := 3) (v := .ref (a 14)) (C := RX5) (T := TX5) (N := 15) hx hb hts (fun w h => List.mem_cons_of_mem _ (List.mem_append_left _ (List.mem_append_right _ h))) hown hK hP 0 rfl rfl 11 (by decide) (hts (.fieldLink RX5 51 "LeastNeed$Valley" "past" "LLeastNeed$Rows;") (List.mem_of_getElem? (i := 1) rfl)) (fun _ h9 => h9) rfl dX5_keepPast_93 ?_
        refine lv_bipush (v := (9 : Int32)) hx hb dX5_keepPast_96 (by decide) ?_
        refine lv_iconst (v := (2 : Int32)) hx hb dX5_keepPast_98 (by decide) ?_
        refine lv_iload_n hx hb dX5_keepPast_99 rfl (lv_at hl 1 rfl) ?_
        refine lv_imul hx hb dX5_keepPast_100 ?_
        refine lv_iadd hx hb dX5_keepPast_101 ?_
        refine lv_aload_n hx hb dX5_keepPast_102 rfl (lv_at hl 0 rfl) ?_
        refine va_get (D := D) (ci := 3) (v := .ref (a 9)) (C := RX5) (T := TX5) (N := 15) hx hb hts (fun w h => List.mem_cons_of_mem _ (List.mem_append_left _ (List.mem_append_right _ h))) hown hK hP 0 rfl rfl 8 (by decide) (hts (.fieldLink RX5 36 "LeastNeed$Valley" "place" "[I") (List.mem_of_getElem? (i := 5) rfl)) (fun _ h9 => h9) rfl dX5_keepPast_103 ?_
        refine lv_iload_n hx hb dX5_keepPast_106 rfl (lv_at hl 1 rfl) ?_
        obtain ⟨hi107, hd⟩ := dn_i hd
        refine k_iald (D := D) (k := x1_68.toNatClampNeg) (by rfl) hx hb hK hP 9 1 rfl rfl hi107 dX5_keepPast_107 ?_
        obtain ⟨S108, hq108, hd⟩ := dn_b1 hd
        have hPc : va_P D vwCl (wX3 cs 144 (18 : Int32) (8 : Int32) (k_wi a 14) (k_wi (k_sp S_68 14 2 S89) 14)) _ := k_sub hP [14, 15] (wcX5_X3_14 cs a (k_sp S_68 14 2 S89))
        have hDc : va_D A (wX3 cs 144 (18 : Int32) (8 : Int32) (k_wi a 14) (k_wi (k_sp S_68 14 2 S89) 14)) := hD.sub [14, 15] (by decide) (wcX5_X3_14 cs a (k_sp S_68 14 2 S89))
        have hF := k_self hDc hS hA
        refine k_run_v (va_runV (As := [.int ((9 : Int32) + ((2 : Int32) * x1_68)), .int ((k_sp S_68 14 2 S89) 9 x1_68.toNatClampNeg)]) (rest := []) ⟨hx, hb, hml, hown, hts⟩ (mX3_put l D cs (k_wi a 14) 144 (18 : Int32) (8 : Int32) (k_wi (k_sp S_68 14 2 S89) 14) ((9 : Int32) + ((2 : Int32) * x1_68)) ((k_sp S_68 14 2 S89) 9 x1_68.toNatClampNeg) S108 hq108 _) (cwV 2 hts gX5_keepPast_X3_put rfl rfl rfl (by decide +kernel) ⟨Nat.le_of_ble_eq_true rfl, Nat.le_of_ble_eq_true rfl⟩) ⟨k_blind, va_recv hK hP (ci := 2) (q0 := 14) rfl rfl, k_pre hPc hK hNn hDc⟩ rfl rfl hl.1 rfl (lv_room (Nat.le_of_ble_eq_true rfl)) dX5_keepPast_108 ⟨Nat.le_of_ble_eq_true rfl, Nat.le_of_ble_eq_true rfl⟩) hS hF (fun H locs hP1 hk hS => ?_)
        have hP : va_P D vwCl (wX5 cs a (k_sp (k_sp S_68 14 2 S89) 14 2 S108)) _ := k_back hP hD [14, 15] [0, 1, 2, 3, 4, 5, 6, 7, 8, 9, 10, 11, 12, 13] [0, 1, 2, 3, 4, 5, 6, 7, 8, 9, 10, 11, 12, 13, 14, 15] (wcX5_X3_14 cs a (k_sp S_68 14 2 S89)) (by decide) hk hP1 (wbX5_X3_14_S0 cs a (k_sp S_68 14 2 S89) S108)
        have hD := hDA (k_sp (k_sp S_68 14 2 S89) 14 2 S108)
        refine lv_iinc (v := x1_68 + (1 : Int32)) (lv' := [(1, .int (x1_68 + (1 : Int32))), (0, .ref (a 0))]) hx hb dX5_keepPast_111 hl (k := 1) rfl rfl (by decide) rfl (fun ls hl => ?_)
        refine lv_goto (tgt := 68) hx hb dX5_keepPast_114 (by decide) ?_
        exact ih1 (x1_68 + (1 : Int32)) (k_sp (k_sp S_68 14 2 S89) 14 2 S108) _ _ _ (dn_bk hd hy1) (lv_sub hl [1, 0] rfl) hP hS
  have Lo38 : ∀ (n1 : Nat) (x1_38 : Int32) (S_38 : Nat → Nat → Int32) (H : Heap) (locs : List Loc) (ls : Array Slot), k_it (fun st => nX5_keepPast_l38 st.1 st.2) n1 (x1_38, S_38) = some S9 → lv_has ls 2 [(0, .ref (a 0)), (1, .int x1_38)] → va_P D vwCl (wX5 cs a S_38) H → va_S A s.heap H locs → W p l e (headSpec wsX5_keepPast ({ frames := 2, cells := 0, slots := 0, locals := 60 })).room s m ([.ref (a 0)] : List Value).toArray below meth c H locs 0 0 Q (F0 m 38 ls []) := by
    intro n1
    induction n1 with
    | zero => intro x1_38 S_38 H locs ls hd; exact dn_it0 hd
    | succ n1 ih1 =>
      intro x1_38 S_38 H locs ls hd hl hP hS
      have hD := hDA S_38
      obtain ⟨y1, hd, hy1⟩ := dn_it hd
      have hd : nX5_keepPast_l38 x1_38 S_38 = some y1 := hd
      unfold nX5_keepPast_l38 at hd
      refine lv_iload_n hx hb dX5_keepPast_38 rfl (lv_at hl 1 rfl) ?_
      refine lv_bipush (v := (7 : Int32)) hx hb dX5_keepPast_39 (by decide) ?_
      refine lv_icmp_ge (tgt := 66) hx hb dX5_keepPast_41 (by decide) (fun c41 => ?_) (fun c41 => ?_)
      · have hd := dn_t c41 hd
        have hd := dn_up hd hy1
        refine lv_iconst (v := (0 : Int32)) hx hb dX5_keepPast_66 (by decide) ?_
        refine lv_istore_n (lv' := [(1, .int (0 : Int32)), (0, .ref (a 0))]) hx hb dX5_keepPast_67 rfl hl (by decide) rfl (fun ls hl => ?_)
        exact Lo68 1000 (0 : Int32) S_38 _ _ _ hd (lv_sub hl [1, 0] rfl) hP hS
      · have hd := dn_f c41 hd
        refine lv_aload_n hx hb dX5_keepPast_44 rfl (lv_at hl 0 rfl) ?_
        refine va_get (D := D) (ci := 3) (v := .ref (a 14)) (C := RX5) (T := TX5) (N := 15) hx hb hts (fun w h => List.mem_cons_of_mem _ (List.mem_append_left _ (List.mem_append_right _ h))) hown hK hP 0 rfl rfl 11 (by decide) (hts (.fieldLink RX5 51 "LeastNeed$Valley" "past" "LLeastNeed$Rows;") (List.mem_of_getElem? (i := 1) rfl)) (fun _ h9 => h9) rfl dX5_keepPast_45 ?_
        refine lv_iconst (v := (1 : Int32)) hx hb dX5_keepPast_48 (by decide) ?_
        refine lv_iload_n hx hb dX5_keepPast_49 rfl (lv_at hl 1 rfl) ?_
        refine lv_iadd hx hb dX5_keepPast_50 ?_
        refine lv_aload_n hx hb dX5_keepPast_51 rfl (lv_at hl 0 rfl) ?_
        refine va_get (D := D) (ci := 3) (v := .ref (a 3)) (C := RX5) (T := TX5) (N := 15) hx hb hts (fun w h => List.mem_cons_of_mem _ (List.mem_append_left _ (List.mem_append_right _ h))) hown hK hP 0 rfl rfl 2 (by decide) (hts (.fieldLink RX5 18 "LeastNeed$Valley" "worn" "[I") (List.mem_of_getElem? (i := 3) rfl)) (fun _ h9 => h9) rfl dX5_keepPast_52 ?_
        refine lv_iload_n hx hb dX5_keepPast_55 rfl (lv_at hl 1 rfl) ?_
        obtain ⟨hi56, hd⟩ := dn_i hd
        refine k_iald (D := D) (k := x1_38.toNatClampNeg) (by rfl) hx hb hK hP 3 1 rfl rfl hi56 dX5_keepPast_56 ?_
        obtain ⟨S57, hq57, hd⟩ := dn_b1 hd
        have hPc : va_P D vwCl (wX3 cs 144 (18 : Int32) (8 : Int32) (k_wi a 14) (k_wi S_38 14)) _ := k_sub hP [14, 15] (wcX5_X3_14 cs a S_38)
        have hDc : va_D A (wX3 cs 144 (18 : Int32) (8 : Int32) (k_wi a 14) (k_wi S_38 14)) := hD.sub [14, 15] (by decide) (wcX5_X3_14 cs a S_38)
        have hF := k_self hDc hS hA
        refine k_run_v (va_runV (As := [.int ((1 : Int32) + x1_38), .int (S_38 3 x1_38.toNatClampNeg)]) (rest := []) ⟨hx, hb, hml, hown, hts⟩ (mX3_put l D cs (k_wi a 14) 144 (18 : Int32) (8 : Int32) (k_wi S_38 14) ((1 : Int32) + x1_38) (S_38 3 x1_38.toNatClampNeg) S57 hq57 _) (cwV 2 hts gX5_keepPast_X3_put rfl rfl rfl (by decide +kernel) ⟨Nat.le_of_ble_eq_true rfl, Nat.le_of_ble_eq_true rfl⟩) ⟨k_blind, va_recv hK hP (ci := 2) (q0 := 14) rfl rfl, k_pre hPc hK hNn hDc⟩ rfl rfl hl.1 rfl (lv_room (Nat.le_of_ble_eq_true rfl)) dX5_keepPast_57 ⟨Nat.le_of_ble_eq_true rfl, Nat.le_of_ble_eq_true rfl⟩) hS hF (fun H locs hP1 hk hS => ?_)
        have hP : va_P D vwCl (wX5 cs a (k_sp S_38 14 2 S57)) _ := k_back hP hD [14, 15] [0, 1, 2, 3, 4, 5, 6, 7, 8, 9, 10, 11, 12, 13] [0, 1, 2, 3, 4, 5, 6, 7, 8, 9, 10, 11, 12, 13, 14, 15] (wcX5_X3_14 cs a S_38) (by decide) hk hP1 (wbX5_X3_14_S0 cs a S_38 S57)
        have hD := hDA (k_sp S_38 14 2 S57)
        refine lv_iinc (v := x1_38 + (1 : Int32)) (lv' := [(1, .int (x1_38 + (1 : Int32))), (0, .ref (a 0))]) hx hb dX5_keepPast_60 hl (k := 1) rfl rfl (by decide) rfl (fun ls hl => ?_)
        refine lv_goto (tgt := 38) hx hb dX5_keepPast_63 (by decide) ?_
        exact ih1 (x1_38 + (1 : Int32)) (k_sp S_38 14 2 S57) _ _ _ (dn_bk hd hy1) (lv_sub hl [1, 0] rfl) hP hS
  have Jo17 : ∀ (S_17 : Nat → Nat → Int32) (H : Heap) (locs : List Loc) (ls : Array Slot), nX5_keepPast_j17 S_17 = some S9 → lv_has ls 2 [(0, .ref (a 0))] → va_P D vwCl (wX5 cs a S_17) H → va_S A s.heap H locs → W p l e (headSpec wsX5_keepPast ({ frames := 2, cells := 0, slots := 0, locals := 60 })).room s m ([.ref (a 0)] : List Value).toArray below meth c H locs 0 0 Q (F0 m 17 ls []) := by
    intro S_17 H locs ls hd hl hP hS
    have hD := hDA S_17
    unfold nX5_keepPast_j17 at hd
    refine lv_aload_n hx hb dX5_keepPast_17 rfl (lv_at hl 0 rfl) ?_
    refine va_get (D := D) (ci := 3) (v := .ref (a 14)) (C := RX5) (T := TX5) (N := 15) hx hb hts (fun w h => List.mem_cons_of_mem _ (List.mem_append_left _ (List.mem_append_right _ h))) hown hK hP 0 rfl rfl 11 (by decide) (hts (.fieldLink RX5 51 "LeastNeed$Valley" "past" "LLeastNeed$Rows;") (List.mem_of_getElem? (i := 1) rfl)) (fun _ h9 => h9) rfl dX5_keepPast_18 ?_
    obtain ⟨S21, hq21, hd⟩ := dn_b1 hd
    have hPc : va_P D vwCl (wX3 cs 144 (18 : Int32) (8 : Int32) (k_wi a 14) (k_wi S_17 14)) _ := k_sub hP [14, 15] (wcX5_X3_14 cs a S_17)
    have hDc : va_D A (wX3 cs 144 (18 : Int32) (8 : Int32) (k_wi a 14) (k_wi S_17 14)) := hD.sub [14, 15] (by decide) (wcX5_X3_14 cs a S_17)
    have hF := k_self hDc hS hA
    refine k_run_v (va_runV (As := []) (rest := []) ⟨hx, hb, hml, hown, hts⟩ (mX3_begin l D cs (k_wi a 14) 144 (18 : Int32) (8 : Int32) (k_wi S_17 14) S21 hq21 _) (cwV 0 hts gX5_keepPast_X3_begin rfl rfl rfl (by decide +kernel) ⟨Nat.le_of_ble_eq_true rfl, Nat.le_of_ble_eq_true rfl⟩) ⟨k_blind, va_recv hK hP (ci := 2) (q0 := 14) rfl rfl, k_pre hPc hK hNn hDc⟩ rfl rfl hl.1 rfl (lv_room (Nat.le_of_ble_eq_true rfl)) dX5_keepPast_21 ⟨Nat.le_of_ble_eq_true rfl, Nat.le_of_ble_eq_true rfl⟩) hS hF (fun H locs hP1 hk hS => ?_)
    have hP : va_P D vwCl (wX5 cs a (k_sp S_17 14 2 S21)) _ := k_back hP hD [14, 15] [0, 1, 2, 3, 4, 5, 6, 7, 8, 9, 10, 11, 12, 13] [0, 1, 2, 3, 4, 5, 6, 7, 8, 9, 10, 11, 12, 13, 14, 15] (wcX5_X3_14 cs a S_17) (by decide) hk hP1 (wbX5_X3_14_S0 cs a S_17 S21)
    have hD := hDA (k_sp S_17 14 2 S21)
    refine lv_aload_n hx hb dX5_keepPast_24 rfl (lv_at hl 0 rfl) ?_
    refine va_get (D := D) (ci := 3) (v := .ref (a 14)) (C := RX5) (T := TX5) (N := 15) hx hb hts (fun w h => List.mem_cons_of_mem _ (List.mem_append_left _ (List.mem_append_right _ h))) hown hK hP 0 rfl rfl 11 (by decide) (hts (.fieldLink RX5 51 "LeastNeed$Valley" "past" "LLeastNeed$Rows;") (List.mem_of_getElem? (i := 1) rfl)) (fun _ h9 => h9) rfl dX5_keepPast_25 ?_
    refine lv_iconst (v := (0 : Int32)) hx hb dX5_keepPast_28 (by decide) ?_
    refine lv_aload_n hx hb dX5_keepPast_29 rfl (lv_at hl 0 rfl) ?_
    refine va_get (D := D) (ci := 3) (v := .int ((k_sp S_17 14 2 S21) 0 14)) (C := RX5) (T := TX5) (N := 15) hx hb hts (fun w h => List.mem_cons_of_mem _ (List.mem_append_left _ (List.mem_append_right _ h))) hown hK hP 0 rfl rfl 14 (by decide) (hts (.fieldLink RX5 61 "LeastNeed$Valley" "today" "I") (List.mem_of_getElem? (i := 2) rfl)) (fun _ h9 => h9) rfl dX5_keepPast_30 ?_
    obtain ⟨S33, hq33, hd⟩ := dn_b1 hd
    have hPc : va_P D vwCl (wX3 cs 144 (18 : Int32) (8 : Int32) (k_wi a 14) (k_wi (k_sp S_17 14 2 S21) 14)) _ := k_sub hP [14, 15] (wcX5_X3_14 cs a (k_sp S_17 14 2 S21))
    have hDc : va_D A (wX3 cs 144 (18 : Int32) (8 : Int32) (k_wi a 14) (k_wi (k_sp S_17 14 2 S21) 14)) := hD.sub [14, 15] (by decide) (wcX5_X3_14 cs a (k_sp S_17 14 2 S21))
    have hF := k_self hDc hS hA
    refine k_run_v (va_runV (As := [.int (0 : Int32), .int ((k_sp S_17 14 2 S21) 0 14)]) (rest := []) ⟨hx, hb, hml, hown, hts⟩ (mX3_put l D cs (k_wi a 14) 144 (18 : Int32) (8 : Int32) (k_wi (k_sp S_17 14 2 S21) 14) (0 : Int32) ((k_sp S_17 14 2 S21) 0 14) S33 hq33 _) (cwV 2 hts gX5_keepPast_X3_put rfl rfl rfl (by decide +kernel) ⟨Nat.le_of_ble_eq_true rfl, Nat.le_of_ble_eq_true rfl⟩) ⟨k_blind, va_recv hK hP (ci := 2) (q0 := 14) rfl rfl, k_pre hPc hK hNn hDc⟩ rfl rfl hl.1 rfl (lv_room (Nat.le_of_ble_eq_true rfl)) dX5_keepPast_33 ⟨Nat.le_of_ble_eq_true rfl, Nat.le_of_ble_eq_true rfl⟩) hS hF (fun H locs hP1 hk hS => ?_)
    have hP : va_P D vwCl (wX5 cs a (k_sp (k_sp S_17 14 2 S21) 14 2 S33)) _ := k_back hP hD [14, 15] [0, 1, 2, 3, 4, 5, 6, 7, 8, 9, 10, 11, 12, 13] [0, 1, 2, 3, 4, 5, 6, 7, 8, 9, 10, 11, 12, 13, 14, 15] (wcX5_X3_14 cs a (k_sp S_17 14 2 S21)) (by decide) hk hP1 (wbX5_X3_14_S0 cs a (k_sp S_17 14 2 S21) S33)
    have hD := hDA (k_sp (k_sp S_17 14 2 S21) 14 2 S33)
    refine lv_iconst (v := (0 : Int32)) hx hb dX5_keepPast_36 (by decide) ?_
    refine lv_istore_n (lv' := [(1, .int (0 : Int32)), (0, .ref (a 0))]) hx hb dX5_keepPast_37 rfl hl (by decide) rfl (fun ls hl => ?_)
    exact Lo38 1000 (0 : Int32) (k_sp (k_sp S_17 14 2 S21) 14 2 S33) _ _ _ hd (lv_sub hl [1, 0] rfl) hP hS
  unfold nX5_keepPast at hd
  refine lv_aload_n hx hb dX5_keepPast_0 rfl (lv_at hl 0 rfl) ?_
  refine va_get (D := D) (ci := 3) (v := .ref (a 14)) (C := RX5) (T := TX5) (N := 15) hx hb hts (fun w h => List.mem_cons_of_mem _ (List.mem_append_left _ (List.mem_append_right _ h))) hown hK hP 0 rfl rfl 11 (by decide) (hts (.fieldLink RX5 51 "LeastNeed$Valley" "past" "LLeastNeed$Rows;") (List.mem_of_getElem? (i := 1) rfl)) (fun _ h9 => h9) rfl dX5_keepPast_1 ?_
  obtain ⟨r4, hq4, hd⟩ := dn_b1 hd
  have hPc : va_P D vwCl (wX3 cs 144 (18 : Int32) (8 : Int32) (k_wi a 14) (k_wi S 14)) _ := k_sub hP [14, 15] (wcX5_X3_14 cs a S)
  have hDc : va_D A (wX3 cs 144 (18 : Int32) (8 : Int32) (k_wi a 14) (k_wi S 14)) := hD.sub [14, 15] (by decide) (wcX5_X3_14 cs a S)
  have hF := k_self hDc hS hA
  refine k_run_i (va_runV (As := []) (rest := []) ⟨hx, hb, hml, hown, hts⟩ (mX3_isFull l D cs (k_wi a 14) 144 (18 : Int32) (8 : Int32) (k_wi S 14) r4 hq4 _) (cwV 0 hts gX5_keepPast_X3_isFull rfl rfl rfl (by decide +kernel) ⟨Nat.le_of_ble_eq_true rfl, Nat.le_of_ble_eq_true rfl⟩) ⟨k_blind, va_recv hK hP (ci := 2) (q0 := 14) rfl rfl, k_pre hPc hK hNn hDc⟩ rfl rfl hl.1 rfl (lv_room (Nat.le_of_ble_eq_true rfl)) dX5_keepPast_4 ⟨Nat.le_of_ble_eq_true rfl, Nat.le_of_ble_eq_true rfl⟩) hS hF (fun H locs hP1 hk hS => ?_)
  have hP : va_P D vwCl (wX5 cs a S) _ := k_back hP hD [14, 15] [0, 1, 2, 3, 4, 5, 6, 7, 8, 9, 10, 11, 12, 13] [0, 1, 2, 3, 4, 5, 6, 7, 8, 9, 10, 11, 12, 13, 14, 15] (wcX5_X3_14 cs a S) (by decide) hk hP1 (wbX5_X3_14 cs a S)
  have hD := hDA S
  refine lv_if_eq (tgt := 17) hx hb dX5_keepPast_7 (by decide) (fun c7 => ?_) (fun c7 => ?_)
  · have hd := dn_t c7 hd
    exact Jo17 S _ _ _ hd (lv_sub hl [0] rfl) hP hS
  · have hd := dn_f c7 hd
    refine lv_aload_n hx hb dX5_keepPast_10 rfl (lv_at hl 0 rfl) ?_
    refine va_get (D := D) (ci := 3) (v := .ref (a 14)) (C := RX5) (T := TX5) (N := 15) hx hb hts (fun w h => List.mem_cons_of_mem _ (List.mem_append_left _ (List.mem_append_right _ h))) hown hK hP 0 rfl rfl 11 (by decide) (hts (.fieldLink RX5 51 "LeastNeed$Valley" "past" "LLeastNeed$Rows;") (List.mem_of_getElem? (i := 1) rfl)) (fun _ h9 => h9) rfl dX5_keepPast_11 ?_
    obtain ⟨S14, hq14, hd⟩ := dn_b1 hd
    have hPc : va_P D vwCl (wX3 cs 144 (18 : Int32) (8 : Int32) (k_wi a 14) (k_wi S 14)) _ := k_sub hP [14, 15] (wcX5_X3_14 cs a S)
    have hDc : va_D A (wX3 cs 144 (18 : Int32) (8 : Int32) (k_wi a 14) (k_wi S 14)) := hD.sub [14, 15] (by decide) (wcX5_X3_14 cs a S)
    have hF := k_self hDc hS hA
    refine k_run_v (va_runV (As := []) (rest := []) ⟨hx, hb, hml, hown, hts⟩ (mX3_dropFirst l D cs (k_wi a 14) 144 (18 : Int32) (8 : Int32) (k_wi S 14) S14 hq14 _) (cwV 0 hts gX5_keepPast_X3_dropFirst rfl rfl rfl (by decide +kernel) ⟨Nat.le_of_ble_eq_true rfl, Nat.le_of_ble_eq_true rfl⟩) ⟨k_blind, va_recv hK hP (ci := 2) (q0 := 14) rfl rfl, k_pre hPc hK hNn hDc⟩ rfl rfl hl.1 rfl (lv_room (Nat.le_of_ble_eq_true rfl)) dX5_keepPast_14 ⟨Nat.le_of_ble_eq_true rfl, Nat.le_of_ble_eq_true rfl⟩) hS hF (fun H locs hP1 hk hS => ?_)
    have hP : va_P D vwCl (wX5 cs a (k_sp S 14 2 S14)) _ := k_back hP hD [14, 15] [0, 1, 2, 3, 4, 5, 6, 7, 8, 9, 10, 11, 12, 13] [0, 1, 2, 3, 4, 5, 6, 7, 8, 9, 10, 11, 12, 13, 14, 15] (wcX5_X3_14 cs a S) (by decide) hk hP1 (wbX5_X3_14_S0 cs a S S14)
    have hD := hDA (k_sp S 14 2 S14)
    exact Jo17 (k_sp S 14 2 S14) _ _ _ hd (lv_sub hl [0] rfl) hP hS
-- LeastNeed$Valley.takePast()V
set_option maxRecDepth 20000 in
def nX5_takePast_l67 (x1_67 : Int32) (x2_67 : Int32) (S_67 : Nat → Nat → Int32) : Option ((Int32 × (Nat → Nat → Int32)) ⊕ ((Nat → Nat → Int32))) := if (5 : Int32) ≤ x2_67 then k_up (some (k_w S_67 14 3 x1_67)) else k_b1 (nX3_cell 144 (18 : Int32) (8 : Int32) (k_wi S_67 14) x1_67 ((8 : Int32) + ((2 : Int32) * x2_67))) (fun r88 => if x2_67 < 0 ∨ 5 ≤ x2_67.toNatClampNeg then none else k_b1 (nX3_cell 144 (18 : Int32) (8 : Int32) (k_wi (k_w S_67 8 x2_67.toNatClampNeg r88) 14) x1_67 ((9 : Int32) + ((2 : Int32) * x2_67))) (fun r108 => if x2_67 < 0 ∨ 5 ≤ x2_67.toNatClampNeg then none else some (.inl ((x2_67 + (1 : Int32)), (k_w (k_w S_67 8 x2_67.toNatClampNeg r88) 9 x2_67.toNatClampNeg r108)))))
set_option maxRecDepth 20000 in
def nX5_takePast_l36 (x1_36 : Int32) (x2_36 : Int32) (S_36 : Nat → Nat → Int32) : Option ((Int32 × (Nat → Nat → Int32)) ⊕ ((Nat → Nat → Int32))) := if (7 : Int32) ≤ x2_36 then k_up (k_it (fun st => nX5_takePast_l67 x1_36 st.1 st.2) 1000 ((0 : Int32), S_36)) else k_b1 (nX3_cell 144 (18 : Int32) (8 : Int32) (k_wi S_36 14) x1_36 ((1 : Int32) + x2_36)) (fun r55 => if x2_36 < 0 ∨ 7 ≤ x2_36.toNatClampNeg then none else some (.inl ((x2_36 + (1 : Int32)), (k_w S_36 3 x2_36.toNatClampNeg r55))))
set_option maxRecDepth 20000 in
def nX5_takePast (S : Nat → Nat → Int32) : Option ((Nat → Nat → Int32)) := if (S 14 3) = 0 then some S else k_b1 (nX3_cell 144 (18 : Int32) (8 : Int32) (k_wi S 14) ((S 14 3) - (1 : Int32)) (0 : Int32)) (fun r28 => k_it (fun st => nX5_takePast_l36 ((S 14 3) - (1 : Int32)) st.1 st.2) 1000 ((0 : Int32), (k_w S 0 14 r28)))
set_option maxHeartbeats 4000000 in
set_option maxRecDepth 100000 in
theorem mX5_takePast (l : Launch) (D : va_G) (cs : Nat → ClassId) (a : Nat → Nat) (S : Nat → Nat → Int32) (S9 : (Nat → Nat → Int32)) (hd : nX5_takePast S = some S9) : ∀ sz : Nat, Met l yX5_takePast wsX5_takePast ({ frames := 1, cells := 0, slots := 0, locals := 23 }) (k_Pc D cs [.ref (a 0)] (wX5 cs a S) sz) (k_Qv D (wX5 cs a S) (wX5 cs a S9) sz) 0 0 (va_A (wX5 cs a S) sz) := by
  intro sz
  refine Met.ofW (cc := cX5_takePast) (maxL := 3) (ret := none) (by decide) rfl ?_
  intro p e s m args below meth c s₁ B hml hv
  obtain ⟨rfl, hsz, hP, hK, hD0, hNn⟩ := hv
  have hx := B.exec
  have hb := B.bytes
  have hr := B.returns
  have hts := atoms_spec (ws := wsX5_takePast) B.pre
  have hown : s.vm.findClass RX5 = some m.cls := findClass_of_methodNamed B.named
  have hlocks := B.notSynchronized
  subst hsz
  obtain ⟨A, hAe⟩ : ∃ A : Nat → Prop, A = va_A (wX5 cs a S) s.heap.size := ⟨_, rfl⟩
  have hD : va_D A (wX5 cs a S) := by rw [hAe]; exact hD0.self
  have hA : ∀ q : Nat, s.heap.size ≤ q → A q := fun q h => by rw [hAe]; exact Or.inr h
  have hS : va_S A s.heap s.heap [] := va_S.rf
  have hDA : ∀ (S : Nat → Nat → Int32), va_D A (wX5 cs a S) := fun S => k_DA hD rfl
  have hl := lv_entry ([.ref (a 0)]) (n := 3) (Nat.le_of_ble_eq_true rfl)
  rw [lg_entry_eq]
  generalize (lg_sl ([.ref (a 0)]) ++ List.replicate (3 - (lg_sl ([.ref (a 0)])).length) Slot.unset).toArray = ls at hl ⊢
  have hl : lv_has ls 3 [(0, .ref (a 0))] := hl
  obtain ⟨Q, hQ⟩ : ∃ Q, Q = MQ below (k_Qv D (wX5 cs a S) (wX5 cs a S9) s.heap.size) ([.ref (a 0)] : List Value).toArray s 0 0 (va_A (wX5 cs a S) s.heap.size) := ⟨_, rfl⟩
  rw [← hQ]
  have Lo67 : ∀ (n1 : Nat) (x1_67 : Int32) (x2_67 : Int32) (S_67 : Nat → Nat → Int32) (H : Heap) (locs : List Loc) (ls : Array Slot), k_it (fun st => nX5_takePast_l67 x1_67 st.1 st.2) n1 (x2_67, S_67) = some S9 → lv_has ls 3 [(0, .ref (a 0)), (1, .int x1_67), (2, .int x2_67)] → va_P D vwCl (wX5 cs a S_67) H → va_S A s.heap H locs → W p l e (headSpec wsX5_takePast ({ frames := 1, cells := 0, slots := 0, locals := 23 })).room s m ([.ref (a 0)] : List Value).toArray below meth c H locs 0 0 Q (F0 m 67 ls []) := by
    intro n1
    induction n1 with
    | zero => intro x1_67 x2_67 S_67 H locs ls hd; exact dn_it0 hd
    | succ n1 ih1 =>
      intro x1_67 x2_67 S_67 H locs ls hd hl hP hS
      have hD := hDA S_67
      obtain ⟨y1, hd, hy1⟩ := dn_it hd
      have hd : nX5_takePast_l67 x1_67 x2_67 S_67 = some y1 := hd
      unfold nX5_takePast_l67 at hd
      refine lv_iload_n hx hb dX5_takePast_67 rfl (lv_at hl 2 rfl) ?_
      refine lv_iconst (v := (5 : Int32)) hx hb dX5_takePast_68 (by decide) ?_
      refine lv_icmp_ge (tgt := 118) hx hb dX5_takePast_69 (by decide) (fun c69 => ?_) (fun c69 => ?_)
      · have hd := dn_t c69 hd
        have hd := dn_up hd hy1
        refine lv_aload_n hx hb dX5_takePast_118 rfl (lv_at hl 0 rfl) ?_
        refine va_get (D := D) (ci := 3) (v := .ref (a 14)) (C := RX5) (T := TX5) (N := 15) hx hb hts (fun w h => List.mem_cons_of_mem _ (List.mem_append_left _ (List.mem_append_right _ h))) hown hK hP 0 rfl rfl 11 (by decide) (hts (.fieldLink RX5 51 "LeastNeed$Valley" "past" "LLeastNeed$Rows;") (List.mem_of_getElem? (i := 1) rfl)) (fun _ h9 => h9) rfl dX5_takePast_119 ?_
        refine lv_iload_n hx hb dX5_takePast_122 rfl (lv_at hl 1 rfl) ?_
        refine va_put (D := D) (ci := 2) (v := .int x1_67) (ty := .int) (C := RX3) (T := TX3) (N := 4) hx hb hts (fun w h => List.mem_cons_of_mem _ (List.mem_append_right _ h)) tyX3 tyX3_ok nmX3 hown hK hP hD hS 14 rfl rfl 3 (by decide) (hts (.fieldLink RX5 64 "LeastNeed$Rows" "used" "I") (List.mem_of_getElem? (i := 2) rfl)) (fun _ h9 => h9) rfl (by decide +kernel) rfl rfl (Nat.le_of_ble_eq_true rfl) dX5_takePast_123 (fun H locs hP hD hS => ?_)
        have hP : va_P D vwCl (wX5 cs a (k_w S_67 14 3 x1_67)) _ := k_eq hP (wsX5_f14_3 cs a S_67 x1_67)
        have hD := hDA (k_w S_67 14 3 x1_67)
        have e1 := dn_s1 hd
        exact k_vret hx hb hr hQ hAe (by rw [e1]) hP hS hlocks dX5_takePast_126
      · have hd := dn_f c69 hd
        refine lv_aload_n hx hb dX5_takePast_72 rfl (lv_at hl 0 rfl) ?_
        refine va_get (D := D) (ci := 3) (v := .ref (a 8)) (C := RX5) (T := TX5) (N := 15) hx hb hts (fun w h => List.mem_cons_of_mem _ (List.mem_append_left _ (List.mem_append_right _ h))) hown hK hP 0 rfl rfl 7 (by decide) (hts (.fieldLink RX5 33 "LeastNeed$Valley" "holder" "[I") (List.mem_of_getElem? (i := 5) rfl)) (fun _ h9 => h9) rfl dX5_takePast_73 ?_
        refine lv_iload_n hx hb dX5_takePast_76 rfl (lv_at hl 2 rfl) ?_
        refine lv_aload_n hx hb dX5_takePast_77 rfl (lv_at hl 0 rfl) ?_
        refine va_get (D := D) (ci := 3) (v := .ref (a 14)) (C := RX5) (T := TX5) (N := 15) hx hb hts (fun w h => List.mem_cons_of_mem _ (List.mem_append_left _ (List.mem_append_right _ h))) hown hK hP 0 rfl rfl 11 (by decide) (hts (.fieldLink RX5 51 "LeastNeed$Valley" "past" "LLeastNeed$Rows;") (List.mem_of_getElem? (i := 1) rfl)) (fun _ h9 => h9) rfl dX5_takePast_78 ?_
        refine lv_iload_n hx hb dX5_takePast_81 rfl (lv_at hl 1 rfl) ?_
        refine lv_bipush (v := (8 : Int32)) hx hb dX5_takePast_82 (by decide) ?_
        refine lv_iconst (v := (2 : Int32)) hx hb dX5_takePast_84 (by decide) ?_
        refine lv_iload_n hx hb dX5_takePast_85 rfl (lv_at hl 2 rfl) ?_
        refine lv_imul hx hb dX5_takePast_86 ?_
        refine lv_iadd hx hb dX5_takePast_87 ?_
        obtain ⟨r88, hq88, hd⟩ := dn_b1 hd
        have hPc : va_P D vwCl (wX3 cs 144 (18 : Int32) (8 : Int32) (k_wi a 14) (k_wi S_67 14)) _ := k_sub hP [14, 15] (wcX5_X3_14 cs a S_67)
        have hDc : va_D A (wX3 cs 144 (18 : Int32) (8 : Int32) (k_wi a 14) (k_wi S_67 14)) := hD.sub [14, 15] (by decide) (wcX5_X3_14 cs a S_67)
        have hF := k_self hDc hS hA
        refine k_run_i (va_runV (As := [.int x1_67, .int ((8 : Int32) + ((2 : Int32) * x2_67))]) (rest := [.int x2_67, .ref (a 8)]) ⟨hx, hb, hml, hown, hts⟩ (mX3_cell l D cs (k_wi a 14) 144 (18 : Int32) (8 : Int32) (k_wi S_67 14) x1_67 ((8 : Int32) + ((2 : Int32) * x2_67)) r88 hq88 _) (cwV 2 hts gX5_takePast_X3_cell rfl rfl rfl (by decide +kernel) ⟨Nat.le_of_ble_eq_true rfl, Nat.le_of_ble_eq_true rfl⟩) ⟨k_blind, va_recv hK hP (ci := 2) (q0 := 14) rfl rfl, k_pre hPc hK hNn hDc⟩ rfl rfl hl.1 rfl (lv_room (Nat.le_of_ble_eq_true rfl)) dX5_takePast_88 ⟨Nat.le_of_ble_eq_true rfl, Nat.le_of_ble_eq_true rfl⟩) hS hF (fun H locs hP1 hk hS => ?_)
        have hP : va_P D vwCl (wX5 cs a S_67) _ := k_back hP hD [14, 15] [0, 1, 2, 3, 4, 5, 6, 7, 8, 9, 10, 11, 12, 13] [0, 1, 2, 3, 4, 5, 6, 7, 8, 9, 10, 11, 12, 13, 14, 15] (wcX5_X3_14 cs a S_67) (by decide) hk hP1 (wbX5_X3_14 cs a S_67)
        have hD := hDA S_67
        obtain ⟨hi91, hd⟩ := dn_i hd
        refine k_iast (D := D) (k := x2_67.toNatClampNeg) (by rfl) hx hb hK hP hD hS 8 1 rfl rfl hi91 dX5_takePast_91 (fun H locs hP hD hS => ?_)
        have hP : va_P D vwCl (wX5 cs a (k_w S_67 8 x2_67.toNatClampNeg r88)) _ := k_eq hP (wsX5_a8 cs a S_67 x2_67.toNatClampNeg r88)
        have hD := hDA (k_w S_67 8 x2_67.toNatClampNeg r88)
        refine lv_aload_n hx hb dX5_takePast_92 rfl (lv_at hl 0 rfl) ?_
        refine va_get (D := D) (ci := 3) (v := .ref (a 9)) (C := RX5) (T := TX5) (N := 15) hx hb hts (fun w h => List.mem_cons_of_mem _ (List.mem_append_left _ (List.mem_append_right _ h))) hown hK hP 0 rfl rfl 8 (by decide) (hts (.fieldLink RX5 36 "LeastNeed$Valley" "place" "[I") (List.mem_of_getElem? (i := 6) rfl)) (fun _ h9 => h9) rfl dX5_takePast_93 ?_
        refine lv_iload_n hx hb dX5_takePast_96 rfl (lv_at hl 2 rfl) ?_
        refine lv_aload_n hx hb dX5_takePast_97 rfl (lv_at hl 0 rfl) ?_
        refine va_get (D := D) (ci := 3) (v := .ref (a 14)) (C := RX5) (T := TX5) (N := 15) hx hb hts (fun w h => List.mem_cons_of_mem _ (List.mem_append_left _ (List.mem_append_right _ h))) hown hK hP 0 rfl rfl 11 (by decide) (hts (.fieldLink RX5 51 "LeastNeed$Valley" "past" "LLeastNeed$Rows;") (List.mem_of_getElem? (i := 1) rfl)) (fun _ h9 => h9) rfl dX5_takePast_98 ?_
        refine lv_iload_n hx hb dX5_takePast_101 rfl (lv_at hl 1 rfl) ?_
        refine lv_bipush (v := (9 : Int32)) hx hb dX5_takePast_102 (by decide) ?_
        refine lv_iconst (v := (2 : Int32)) hx hb dX5_takePast_104 (by decide) ?_
        refine lv_iload_n hx hb dX5_takePast_105 rfl (lv_at hl 2 rfl) ?_
        refine lv_imul hx hb dX5_takePast_106 ?_
        refine lv_iadd hx hb dX5_takePast_107 ?_
        obtain ⟨r108, hq108, hd⟩ := dn_b1 hd
        have hPc : va_P D vwCl (wX3 cs 144 (18 : Int32) (8 : Int32) (k_wi a 14) (k_wi (k_w S_67 8 x2_67.toNatClampNeg r88) 14)) _ := k_sub hP [14, 15] (wcX5_X3_14 cs a (k_w S_67 8 x2_67.toNatClampNeg r88))
        have hDc : va_D A (wX3 cs 144 (18 : Int32) (8 : Int32) (k_wi a 14) (k_wi (k_w S_67 8 x2_67.toNatClampNeg r88) 14)) := hD.sub [14, 15] (by decide) (wcX5_X3_14 cs a (k_w S_67 8 x2_67.toNatClampNeg r88))
        have hF := k_self hDc hS hA
        refine k_run_i (va_runV (As := [.int x1_67, .int ((9 : Int32) + ((2 : Int32) * x2_67))]) (rest := [.int x2_67, .ref (a 9)]) ⟨hx, hb, hml, hown, hts⟩ (mX3_cell l D cs (k_wi a 14) 144 (18 : Int32) (8 : Int32) (k_wi (k_w S_67 8 x2_67.toNatClampNeg r88) 14) x1_67 ((9 : Int32) + ((2 : Int32) * x2_67)) r108 hq108 _) (cwV 2 hts gX5_takePast_X3_cell rfl rfl rfl (by decide +kernel) ⟨Nat.le_of_ble_eq_true rfl, Nat.le_of_ble_eq_true rfl⟩) ⟨k_blind, va_recv hK hP (ci := 2) (q0 := 14) rfl rfl, k_pre hPc hK hNn hDc⟩ rfl rfl hl.1 rfl (lv_room (Nat.le_of_ble_eq_true rfl)) dX5_takePast_108 ⟨Nat.le_of_ble_eq_true rfl, Nat.le_of_ble_eq_true rfl⟩) hS hF (fun H locs hP1 hk hS => ?_)
        have hP : va_P D vwCl (wX5 cs a (k_w S_67 8 x2_67.toNatClampNeg r88)) _ := k_back hP hD [14, 15] [0, 1, 2, 3, 4, 5, 6, 7, 8, 9, 10, 11, 12, 13] [0, 1, 2, 3, 4, 5, 6, 7, 8, 9, 10, 11, 12, 13, 14, 15] (wcX5_X3_14 cs a (k_w S_67 8 x2_67.toNatClampNeg r88)) (by decide) hk hP1 (wbX5_X3_14 cs a (k_w S_67 8 x2_67.toNatClampNeg r88))
        have hD := hDA (k_w S_67 8 x2_67.toNatClampNeg r88)
        obtain ⟨hi111, hd⟩ := dn_i hd
        refine k_iast (D := D) (k := x2_67.toNatClampNeg) (by rfl) hx hb hK hP hD hS 9 1 rfl rfl hi111 dX5_takePast_111 (fun H locs hP hD hS => ?_)
        have hP : va_P D vwCl (wX5 cs a (k_w (k_w S_67 8 x2_67.toNatClampNeg r88) 9 x2_67.toNatClampNeg r108)) _ := k_eq hP (wsX5_a9 cs a (k_w S_67 8 x2_67.toNatClampNeg r88) x2_67.toNatClampNeg r108)
        have hD := hDA (k_w (k_w S_67 8 x2_67.toNatClampNeg r88) 9 x2_67.toNatClampNeg r108)
        refine lv_iinc (v := x2_67 + (1 : Int32)) (lv' := [(2, .int (x2_67 + (1 : Int32))), (0, .ref (a 0)), (1, .int x1_67)]) hx hb dX5_takePast_112 hl (k := 2) rfl rfl (by decide) rfl (fun ls hl => ?_)
        refine lv_goto (tgt := 67) hx hb dX5_takePast_115 (by decide) ?_
        exact ih1 x1_67 (x2_67 + (1 : Int32)) (k_w (k_w S_67 8 x2_67.toNatClampNeg r88) 9 x2_67.toNatClampNeg r108) _ _ _ (dn_bk hd hy1) (lv_sub hl [1, 2, 0] rfl) hP hS
  have Lo36 : ∀ (n1 : Nat) (x1_36 : Int32) (x2_36 : Int32) (S_36 : Nat → Nat → Int32) (H : Heap) (locs : List Loc) (ls : Array Slot), k_it (fun st => nX5_takePast_l36 x1_36 st.1 st.2) n1 (x2_36, S_36) = some S9 → lv_has ls 3 [(0, .ref (a 0)), (1, .int x1_36), (2, .int x2_36)] → va_P D vwCl (wX5 cs a S_36) H → va_S A s.heap H locs → W p l e (headSpec wsX5_takePast ({ frames := 1, cells := 0, slots := 0, locals := 23 })).room s m ([.ref (a 0)] : List Value).toArray below meth c H locs 0 0 Q (F0 m 36 ls []) := by
    intro n1
    induction n1 with
    | zero => intro x1_36 x2_36 S_36 H locs ls hd; exact dn_it0 hd
    | succ n1 ih1 =>
      intro x1_36 x2_36 S_36 H locs ls hd hl hP hS
      have hD := hDA S_36
      obtain ⟨y1, hd, hy1⟩ := dn_it hd
      have hd : nX5_takePast_l36 x1_36 x2_36 S_36 = some y1 := hd
      unfold nX5_takePast_l36 at hd
      refine lv_iload_n hx hb dX5_takePast_36 rfl (lv_at hl 2 rfl) ?_
      refine lv_bipush (v := (7 : Int32)) hx hb dX5_takePast_37 (by decide) ?_
      refine lv_icmp_ge (tgt := 65) hx hb dX5_takePast_39 (by decide) (fun c39 => ?_) (fun c39 => ?_)
      · have hd := dn_t c39 hd
        have hd := dn_up hd hy1
        refine lv_iconst (v := (0 : Int32)) hx hb dX5_takePast_65 (by decide) ?_
        refine lv_istore_n (lv' := [(2, .int (0 : Int32)), (0, .ref (a 0)), (1, .int x1_36)]) hx hb dX5_takePast_66 rfl hl (by decide) rfl (fun ls hl => ?_)
        exact Lo67 1000 x1_36 (0 : Int32) S_36 _ _ _ hd (lv_sub hl [1, 2, 0] rfl) hP hS
      · have hd := dn_f c39 hd
        refine lv_aload_n hx hb dX5_takePast_42 rfl (lv_at hl 0 rfl) ?_
        refine va_get (D := D) (ci := 3) (v := .ref (a 3)) (C := RX5) (T := TX5) (N := 15) hx hb hts (fun w h => List.mem_cons_of_mem _ (List.mem_append_left _ (List.mem_append_right _ h))) hown hK hP 0 rfl rfl 2 (by decide) (hts (.fieldLink RX5 18 "LeastNeed$Valley" "worn" "[I") (List.mem_of_getElem? (i := 4) rfl)) (fun _ h9 => h9) rfl dX5_takePast_43 ?_
        refine lv_iload_n hx hb dX5_takePast_46 rfl (lv_at hl 2 rfl) ?_
        refine lv_aload_n hx hb dX5_takePast_47 rfl (lv_at hl 0 rfl) ?_
        refine va_get (D := D) (ci := 3) (v := .ref (a 14)) (C := RX5) (T := TX5) (N := 15) hx hb hts (fun w h => List.mem_cons_of_mem _ (List.mem_append_left _ (List.mem_append_right _ h))) hown hK hP 0 rfl rfl 11 (by decide) (hts (.fieldLink RX5 51 "LeastNeed$Valley" "past" "LLeastNeed$Rows;") (List.mem_of_getElem? (i := 1) rfl)) (fun _ h9 => h9) rfl dX5_takePast_48 ?_
        refine lv_iload_n hx hb dX5_takePast_51 rfl (lv_at hl 1 rfl) ?_
        refine lv_iconst (v := (1 : Int32)) hx hb dX5_takePast_52 (by decide) ?_
        refine lv_iload_n hx hb dX5_takePast_53 rfl (lv_at hl 2 rfl) ?_
        refine lv_iadd hx hb dX5_takePast_54 ?_
        obtain ⟨r55, hq55, hd⟩ := dn_b1 hd
        have hPc : va_P D vwCl (wX3 cs 144 (18 : Int32) (8 : Int32) (k_wi a 14) (k_wi S_36 14)) _ := k_sub hP [14, 15] (wcX5_X3_14 cs a S_36)
        have hDc : va_D A (wX3 cs 144 (18 : Int32) (8 : Int32) (k_wi a 14) (k_wi S_36 14)) := hD.sub [14, 15] (by decide) (wcX5_X3_14 cs a S_36)
        have hF := k_self hDc hS hA
        refine k_run_i (va_runV (As := [.int x1_36, .int ((1 : Int32) + x2_36)]) (rest := [.int x2_36, .ref (a 3)]) ⟨hx, hb, hml, hown, hts⟩ (mX3_cell l D cs (k_wi a 14) 144 (18 : Int32) (8 : Int32) (k_wi S_36 14) x1_36 ((1 : Int32) + x2_36) r55 hq55 _) (cwV 2 hts gX5_takePast_X3_cell rfl rfl rfl (by decide +kernel) ⟨Nat.le_of_ble_eq_true rfl, Nat.le_of_ble_eq_true rfl⟩) ⟨k_blind, va_recv hK hP (ci := 2) (q0 := 14) rfl rfl, k_pre hPc hK hNn hDc⟩ rfl rfl hl.1 rfl (lv_room (Nat.le_of_ble_eq_true rfl)) dX5_takePast_55 ⟨Nat.le_of_ble_eq_true rfl, Nat.le_of_ble_eq_true rfl⟩) hS hF (fun H locs hP1 hk hS => ?_)
        have hP : va_P D vwCl (wX5 cs a S_36) _ := k_back hP hD [14, 15] [0, 1, 2, 3, 4, 5, 6, 7, 8, 9, 10, 11, 12, 13] [0, 1, 2, 3, 4, 5, 6, 7, 8, 9, 10, 11, 12, 13, 14, 15] (wcX5_X3_14 cs a S_36) (by decide) hk hP1 (wbX5_X3_14 cs a S_36)
        have hD := hDA S_36
        obtain ⟨hi58, hd⟩ := dn_i hd
        refine k_iast (D := D) (k := x2_36.toNatClampNeg) (by rfl) hx hb hK hP hD hS 3 1 rfl rfl hi58 dX5_takePast_58 (fun H locs hP hD hS => ?_)
        have hP : va_P D vwCl (wX5 cs a (k_w S_36 3 x2_36.toNatClampNeg r55)) _ := k_eq hP (wsX5_a3 cs a S_36 x2_36.toNatClampNeg r55)
        have hD := hDA (k_w S_36 3 x2_36.toNatClampNeg r55)
        refine lv_iinc (v := x2_36 + (1 : Int32)) (lv' := [(2, .int (x2_36 + (1 : Int32))), (0, .ref (a 0)), (1, .int x1_36)]) hx hb dX5_takePast_59 hl (k := 2) rfl rfl (by decide) rfl (fun ls hl => ?_)
        refine lv_goto (tgt := 36) hx hb dX5_takePast_62 (by decide) ?_
        exact ih1 x1_36 (x2_36 + (1 : Int32)) (k_w S_36 3 x2_36.toNatClampNeg r55) _ _ _ (dn_bk hd hy1) (lv_sub hl [1, 2, 0] rfl) hP hS
  unfold nX5_takePast at hd
  refine lv_aload_n hx hb dX5_takePast_0 rfl (lv_at hl 0 rfl) ?_
  refine va_get (D := D) (ci := 3) (v := .ref (a 14)) (C := RX5) (T := TX5) (N := 15) hx hb hts (fun w h => List.mem_cons_of_mem _ (List.mem_append_left _ (List.mem_append_right _ h))) hown hK hP 0 rfl rfl 11 (by decide) (hts (.fieldLink RX5 51 "LeastNeed$Valley" "past" "LLeastNeed$Rows;") (List.mem_of_getElem? (i := 1) rfl)) (fun _ h9 => h9) rfl dX5_takePast_1 ?_
  refine va_get (D := D) (ci := 2) (v := .int (S 14 3)) (C := RX3) (T := TX3) (N := 4) hx hb hts (fun w h => List.mem_cons_of_mem _ (List.mem_append_right _ h)) hown hK hP 14 rfl rfl 3 (by decide) (hts (.fieldLink RX5 64 "LeastNeed$Rows" "used" "I") (List.mem_of_getElem? (i := 2) rfl)) (fun _ h9 => h9) rfl dX5_takePast_4 ?_
  refine lv_if_ne (tgt := 11) hx hb dX5_takePast_7 (by decide) (fun c7 => ?_) (fun c7 => ?_)
  · have hd := dn_f c7 hd
    refine lv_aload_n hx hb dX5_takePast_11 rfl (lv_at hl 0 rfl) ?_
    refine va_get (D := D) (ci := 3) (v := .ref (a 14)) (C := RX5) (T := TX5) (N := 15) hx hb hts (fun w h => List.mem_cons_of_mem _ (List.mem_append_left _ (List.mem_append_right _ h))) hown hK hP 0 rfl rfl 11 (by decide) (hts (.fieldLink RX5 51 "LeastNeed$Valley" "past" "LLeastNeed$Rows;") (List.mem_of_getElem? (i := 1) rfl)) (fun _ h9 => h9) rfl dX5_takePast_12 ?_
    refine va_get (D := D) (ci := 2) (v := .int (S 14 3)) (C := RX3) (T := TX3) (N := 4) hx hb hts (fun w h => List.mem_cons_of_mem _ (List.mem_append_right _ h)) hown hK hP 14 rfl rfl 3 (by decide) (hts (.fieldLink RX5 64 "LeastNeed$Rows" "used" "I") (List.mem_of_getElem? (i := 2) rfl)) (fun _ h9 => h9) rfl dX5_takePast_15 ?_
    refine lv_iconst (v := (1 : Int32)) hx hb dX5_takePast_18 (by decide) ?_
    refine lv_isub hx hb dX5_takePast_19 ?_
    refine lv_istore_n (lv' := [(1, .int ((S 14 3) - (1 : Int32))), (0, .ref (a 0))]) hx hb dX5_takePast_20 rfl hl (by decide) rfl (fun ls hl => ?_)
    refine lv_aload_n hx hb dX5_takePast_21 rfl (lv_at hl 1 rfl) ?_
    refine lv_aload_n hx hb dX5_takePast_22 rfl (lv_at hl 1 rfl) ?_
    refine va_get (D := D) (ci := 3) (v := .ref (a 14)) (C := RX5) (T := TX5) (N := 15) hx hb hts (fun w h => List.mem_cons_of_mem _ (List.mem_append_left _ (List.mem_append_right _ h))) hown hK hP 0 rfl rfl 11 (by decide) (hts (.fieldLink RX5 51 "LeastNeed$Valley" "past" "LLeastNeed$Rows;") (List.mem_of_getElem? (i := 1) rfl)) (fun _ h9 => h9) rfl dX5_takePast_23 ?_
    refine lv_iload_n hx hb dX5_takePast_26 rfl (lv_at hl 0 rfl) ?_
    refine lv_iconst (v := (0 : Int32)) hx hb dX5_takePast_27 (by decide) ?_
    obtain ⟨r28, hq28, hd⟩ := dn_b1 hd
    have hPc : va_P D vwCl (wX3 cs 144 (18 : Int32) (8 : Int32) (k_wi a 14) (k_wi S 14)) _ := k_sub hP [14, 15] (wcX5_X3_14 cs a S)
    have hDc : va_D A (wX3 cs 144 (18 : Int32) (8 : Int32) (k_wi a 14) (k_wi S 14)) := hD.sub [14, 15] (by decide) (wcX5_X3_14 cs a S)
    have hF := k_self hDc hS hA
    refine k_run_i (va_runV (As := [.int ((S 14 3) - (1 : Int32)), .int (0 : Int32)]) (rest := [.ref (a 0)]) ⟨hx, hb, hml, hown, hts⟩ (mX3_cell l D cs (k_wi a 14) 144 (18 : Int32) (8 : Int32) (k_wi S 14) ((S 14 3) - (1 : Int32)) (0 : Int32) r28 hq28 _) (cwV 2 hts gX5_takePast_X3_cell rfl rfl rfl (by decide +kernel) ⟨Nat.le_of_ble_eq_true rfl, Nat.le_of_ble_eq_true rfl⟩) ⟨k_blind, va_recv hK hP (ci := 2) (q0 := 14) rfl rfl, k_pre hPc hK hNn hDc⟩ rfl rfl hl.1 rfl (lv_room (Nat.le_of_ble_eq_true rfl)) dX5_takePast_28 ⟨Nat.le_of_ble_eq_true rfl, Nat.le_of_ble_eq_true rfl⟩) hS hF (fun H locs hP1 hk hS => ?_)
    have hP : va_P D vwCl (wX5 cs a S) _ := k_back hP hD [14, 15] [0, 1, 2, 3, 4, 5, 6, 7, 8, 9, 10, 11, 12, 13] [0, 1, 2, 3, 4, 5, 6, 7, 8, 9, 10, 11, 12, 13, 14, 15] (wcX5_X3_14 cs a S) (by decide) hk hP1 (wbX5_X3_14 cs a S)
    have hD := hDA S
    refine va_put (D := D) (ci := 3) (v := .int r28) (ty := .int) (C := RX5) (T := TX5) (N := 15) hx hb hts (fun w h => List.mem_cons_of_mem _ (List.mem_append_left _ (List.mem_append_right _ h))) tyX5 tyX5_ok nmX5 hown hK hP hD hS 0 rfl rfl 14 (by decide) (hts (.fieldLink RX5 61 "LeastNeed$Valley" "today" "I") (List.mem_of_getElem? (i := 3) rfl)) (fun _ h9 => h9) rfl (by decide +kernel) rfl rfl (Nat.le_of_ble_eq_true rfl) dX5_takePast_31 (fun H locs hP hD hS => ?_)
    have hP : va_P D vwCl (wX5 cs a (k_w S 0 14 r28)) _ := k_eq hP (wsX5_f0_14 cs a S r28)
    have hD := hDA (k_w S 0 14 r28)
    refine lv_iconst (v := (0 : Int32)) hx hb dX5_takePast_34 (by decide) ?_
    refine lv_istore_n (lv' := [(2, .int (0 : Int32)), (1, .int ((S 14 3) - (1 : Int32))), (0, .ref (a 0))]) hx hb dX5_takePast_35 rfl hl (by decide) rfl (fun ls hl => ?_)
    exact Lo36 1000 ((S 14 3) - (1 : Int32)) (0 : Int32) (k_w S 0 14 r28) _ _ _ hd (lv_sub hl [2, 1, 0] rfl) hP hS
  · have hd := dn_t c7 hd
    have e1 := dn_s1 hd
    exact k_vret hx hb hr hQ hAe (by rw [e1]) hP hS hlocks dX5_takePast_10
-- LeastNeed$ThingKinds.likeOnesLeaveIt(I)Z
set_option maxRecDepth 20000 in
def nX4_likeOnesLeaveIt (p0 : Int32) : Option (Int32) := if p0 = (4 : Int32) then some (0 : Int32) else some (1 : Int32)
set_option maxHeartbeats 4000000 in
set_option maxRecDepth 100000 in
theorem mX4_likeOnesLeaveIt (l : Launch) (D : va_G) (cs : Nat → ClassId) (p0 : Int32) (r9 : Int32) (hd : nX4_likeOnesLeaveIt p0 = some r9) : ∀ sz : Nat, Met l yX4_likeOnesLeaveIt wsX4_likeOnesLeaveIt ({ frames := 0, cells := 0, slots := 0, locals := 0 }) (k_Pc D cs [.int p0] ([] : va_W) sz) (k_Qi D r9 ([] : va_W) ([] : va_W) sz) 0 0 (va_A ([] : va_W) sz) := by
  intro sz
  refine Met.ofW (cc := cX4_likeOnesLeaveIt) (maxL := 1) (ret := (some .boolean)) (by decide) rfl ?_
  intro p e s m args below meth c s₁ B hml hv
  obtain ⟨rfl, hsz, hP, hK, hD0, hNn⟩ := hv
  have hx := B.exec
  have hb := B.bytes
  have hr := B.returns
  have hts := atoms_spec (ws := wsX4_likeOnesLeaveIt) B.pre
  have hown : s.vm.findClass RX4 = some m.cls := findClass_of_methodNamed B.named
  have hlocks := B.notSynchronized
  subst hsz
  obtain ⟨A, hAe⟩ : ∃ A : Nat → Prop, A = va_A ([] : va_W) s.heap.size := ⟨_, rfl⟩
  have hD : va_D A ([] : va_W) := by rw [hAe]; exact hD0.self
  have hA : ∀ q : Nat, s.heap.size ≤ q → A q := fun q h => by rw [hAe]; exact Or.inr h
  have hS : va_S A s.heap s.heap [] := va_S.rf
  have hl := lv_entry ([.int p0]) (n := 1) (Nat.le_of_ble_eq_true rfl)
  rw [lg_entry_eq]
  generalize (lg_sl ([.int p0]) ++ List.replicate (1 - (lg_sl ([.int p0])).length) Slot.unset).toArray = ls at hl ⊢
  have hl : lv_has ls 1 [(0, .int p0)] := hl
  obtain ⟨Q, hQ⟩ : ∃ Q, Q = MQ below (k_Qi D r9 ([] : va_W) ([] : va_W) s.heap.size) ([.int p0] : List Value).toArray s 0 0 (va_A ([] : va_W) s.heap.size) := ⟨_, rfl⟩
  rw [← hQ]
  unfold nX4_likeOnesLeaveIt at hd
  refine lv_iload_n hx hb dX4_likeOnesLeaveIt_0 rfl (lv_at hl 0 rfl) ?_
  refine lv_iconst (v := (4 : Int32)) hx hb dX4_likeOnesLeaveIt_1 (by decide) ?_
  refine lv_icmp_eq (tgt := 9) hx hb dX4_likeOnesLeaveIt_2 (by decide) (fun c2 => ?_) (fun c2 => ?_)
  · have hd := dn_t c2 hd
    refine lv_iconst (v := (0 : Int32)) hx hb dX4_likeOnesLeaveIt_9 (by decide) ?_
    have e1 := dn_s1 hd
    exact k_zret hx hb hr rfl hQ hAe e1 rfl hP hS hlocks dX4_likeOnesLeaveIt_10
  · have hd := dn_f c2 hd
    refine lv_iconst (v := (1 : Int32)) hx hb dX4_likeOnesLeaveIt_5 (by decide) ?_
    refine lv_goto (tgt := 10) hx hb dX4_likeOnesLeaveIt_6 (by decide) ?_
    have e1 := dn_s1 hd
    exact k_zret hx hb hr rfl hQ hAe e1 rfl hP hS hlocks dX4_likeOnesLeaveIt_10
-- LeastNeed$PeopleKinds.shown(IIIII)I
set_option maxRecDepth 20000 in
def nX1_shown (p0 : Int32) (p1 : Int32) (p2 : Int32) (p3 : Int32) (p4 : Int32) : Option (Int32) := if p0 = (1 : Int32) then some ((p1 + p2) / (2 : Int32)) else if p0 = (2 : Int32) then some p1 else if p0 = (3 : Int32) then if (p4 - p4 / (2 : Int32) * (2 : Int32)) = (1 : Int32) then some ((p1 + p2) + (2 : Int32)) else some (p1 + p2) else if p0 = (4 : Int32) then if p3 = (2 : Int32) then some (0 : Int32) else some ((p1 + p2) / (2 : Int32)) else if p0 = (5 : Int32) then if p3 = (3 : Int32) then some p1 else some (0 : Int32) else some (p1 + p2)
set_option maxHeartbeats 4000000 in
set_option maxRecDepth 100000 in
theorem mX1_shown (l : Launch) (D : va_G) (cs : Nat → ClassId) (p0 : Int32) (p1 : Int32) (p2 : Int32) (p3 : Int32) (p4 : Int32) (r9 : Int32) (hd : nX1_shown p0 p1 p2 p3 p4 = some r9) : ∀ sz : Nat, Met l yX1_shown wsX1_shown ({ frames := 0, cells := 0, slots := 0, locals := 0 }) (k_Pc D cs [.int p0, .int p1, .int p2, .int p3, .int p4] ([] : va_W) sz) (k_Qi D r9 ([] : va_W) ([] : va_W) sz) 0 0 (va_A ([] : va_W) sz) := by
  intro sz
  refine Met.ofW (cc := cX1_shown) (maxL := 8) (ret := (some .int)) (by decide) rfl ?_
  intro p e s m args below meth c s₁ B hml hv
  obtain ⟨rfl, hsz, hP, hK, hD0, hNn⟩ := hv
  have hx := B.exec
  have hb := B.bytes
  have hr := B.returns
  have hts := atoms_spec (ws := wsX1_shown) B.pre
  have hown : s.vm.findClass RX1 = some m.cls := findClass_of_methodNamed B.named
  have hlocks := B.notSynchronized
  subst hsz
  obtain ⟨A, hAe⟩ : ∃ A : Nat → Prop, A = va_A ([] : va_W) s.heap.size := ⟨_, rfl⟩
  have hD : va_D A ([] : va_W) := by rw [hAe]; exact hD0.self
  have hA : ∀ q : Nat, s.heap.size ≤ q → A q := fun q h => by rw [hAe]; exact Or.inr h
  have hS : va_S A s.heap s.heap [] := va_S.rf
  have hl := lv_entry ([.int p0, .int p1, .int p2, .int p3, .int p4]) (n := 8) (Nat.le_of_ble_eq_true rfl)
  rw [lg_entry_eq]
  generalize (lg_sl ([.int p0, .int p1, .int p2, .int p3, .int p4]) ++ List.replicate (8 - (lg_sl ([.int p0, .int p1, .int p2, .int p3, .int p4])).length) Slot.unset).toArray = ls at hl ⊢
  have hl : lv_has ls 8 [(0, .int p0), (1, .int p1), (2, .int p2), (3, .int p3), (4, .int p4)] := hl
  obtain ⟨Q, hQ⟩ : ∃ Q, Q = MQ below (k_Qi D r9 ([] : va_W) ([] : va_W) s.heap.size) ([.int p0, .int p1, .int p2, .int p3, .int p4] : List Value).toArray s 0 0 (va_A ([] : va_W) s.heap.size) := ⟨_, rfl⟩
  rw [← hQ]
  unfold nX1_shown at hd
  refine lv_iload_n hx hb dX1_shown_0 rfl (lv_at hl 1 rfl) ?_
  refine lv_iload_n hx hb dX1_shown_1 rfl (lv_at hl 2 rfl) ?_
  refine lv_iadd hx hb dX1_shown_2 ?_
  refine lv_istore (lv' := [(5, .int (p1 + p2)), (0, .int p0), (1, .int p1), (2, .int p2), (3, .int p3), (4, .int p4)]) hx hb dX1_shown_3 hl (by decide) rfl (fun ls hl => ?_)
  refine lv_iload hx hb dX1_shown_5 (lv_at hl 0 rfl) ?_
  refine lv_iconst (v := (2 : Int32)) hx hb dX1_shown_7 (by decide) ?_
  refine lv_idiv hx hb dX1_shown_8 (by decide) ?_
  refine lv_istore (lv' := [(6, .int ((p1 + p2) / (2 : Int32))), (5, .int (p1 + p2)), (0, .int p0), (1, .int p1), (2, .int p2), (3, .int p3), (4, .int p4)]) hx hb dX1_shown_9 hl (by decide) rfl (fun ls hl => ?_)
  refine lv_iload_n hx hb dX1_shown_11 rfl (lv_at hl 3 rfl) ?_
  refine lv_istore (lv' := [(7, .int p1), (6, .int ((p1 + p2) / (2 : Int32))), (5, .int (p1 + p2)), (0, .int p0), (1, .int p1), (2, .int p2), (3, .int p3), (4, .int p4)]) hx hb dX1_shown_12 hl (by decide) rfl (fun ls hl => ?_)
  refine lv_iload_n hx hb dX1_shown_14 rfl (lv_at hl 3 rfl) ?_
  by_cases e15_1 : p0 = (1 : Int32)
  · have hd := dn_t e15_1 hd
    refine lv_tableIn (off := 33) (tgt := 48) hx hb dX1_shown_15 (by rw [e15_1]; decide) (by rw [e15_1]; decide) (by rw [e15_1]; rfl) (by decide) ?_
    refine lv_iload hx hb dX1_shown_48 (lv_at hl 1 rfl) ?_
    have e1 := dn_s1 hd
    exact k_iret hx hb hr hQ hAe e1 rfl hP hS hlocks dX1_shown_50
  · have hd := dn_f e15_1 hd
    by_cases e15_2 : p0 = (2 : Int32)
    · have hd := dn_t e15_2 hd
      refine lv_tableIn (off := 36) (tgt := 51) hx hb dX1_shown_15 (by rw [e15_2]; decide) (by rw [e15_2]; decide) (by rw [e15_2]; rfl) (by decide) ?_
      refine lv_iload hx hb dX1_shown_51 (lv_at hl 0 rfl) ?_
      have e1 := dn_s1 hd
      exact k_iret hx hb hr hQ hAe e1 rfl hP hS hlocks dX1_shown_53
    · have hd := dn_f e15_2 hd
      by_cases e15_3 : p0 = (3 : Int32)
      · have hd := dn_t e15_3 hd
        refine lv_tableIn (off := 39) (tgt := 54) hx hb dX1_shown_15 (by rw [e15_3]; decide) (by rw [e15_3]; decide) (by rw [e15_3]; rfl) (by decide) ?_
        refine lv_iload hx hb dX1_shown_54 (lv_at hl 7 rfl) ?_
        refine lv_iconst (v := (2 : Int32)) hx hb dX1_shown_56 (by decide) ?_
        refine lv_irem hx hb dX1_shown_57 (by decide) ?_
        refine lv_iconst (v := (1 : Int32)) hx hb dX1_shown_58 (by decide) ?_
        refine lv_icmp_ne (tgt := 69) hx hb dX1_shown_59 (by decide) (fun c59 => ?_) (fun c59 => ?_)
        · have hd := dn_f c59 hd
          refine lv_iload hx hb dX1_shown_69 (lv_at hl 2 rfl) ?_
          have e1 := dn_s1 hd
          exact k_iret hx hb hr hQ hAe e1 rfl hP hS hlocks dX1_shown_71
        · have hd := dn_t c59 hd
          refine lv_iload hx hb dX1_shown_62 (lv_at hl 2 rfl) ?_
          refine lv_iconst (v := (2 : Int32)) hx hb dX1_shown_64 (by decide) ?_
          refine lv_iadd hx hb dX1_shown_65 ?_
          refine lv_goto (tgt := 71) hx hb dX1_shown_66 (by decide) ?_
          have e1 := dn_s1 hd
          exact k_iret hx hb hr hQ hAe e1 rfl hP hS hlocks dX1_shown_71
      · have hd := dn_f e15_3 hd
        by_cases e15_4 : p0 = (4 : Int32)
        · have hd := dn_t e15_4 hd
          refine lv_tableIn (off := 57) (tgt := 72) hx hb dX1_shown_15 (by rw [e15_4]; decide) (by rw [e15_4]; decide) (by rw [e15_4]; rfl) (by decide) ?_
          refine lv_iload_n hx hb dX1_shown_72 rfl (lv_at hl 6 rfl) ?_
          refine lv_iconst (v := (2 : Int32)) hx hb dX1_shown_73 (by decide) ?_
          refine lv_icmp_ne (tgt := 81) hx hb dX1_shown_74 (by decide) (fun c74 => ?_) (fun c74 => ?_)
          · have hd := dn_f c74 hd
            refine lv_iload hx hb dX1_shown_81 (lv_at hl 1 rfl) ?_
            have e1 := dn_s1 hd
            exact k_iret hx hb hr hQ hAe e1 rfl hP hS hlocks dX1_shown_83
          · have hd := dn_t c74 hd
            refine lv_iconst (v := (0 : Int32)) hx hb dX1_shown_77 (by decide) ?_
            refine lv_goto (tgt := 83) hx hb dX1_shown_78 (by decide) ?_
            have e1 := dn_s1 hd
            exact k_iret hx hb hr hQ hAe e1 rfl hP hS hlocks dX1_shown_83
        · have hd := dn_f e15_4 hd
          by_cases e15_5 : p0 = (5 : Int32)
          · have hd := dn_t e15_5 hd
            refine lv_tableIn (off := 69) (tgt := 84) hx hb dX1_shown_15 (by rw [e15_5]; decide) (by rw [e15_5]; decide) (by rw [e15_5]; rfl) (by decide) ?_
            refine lv_iload_n hx hb dX1_shown_84 rfl (lv_at hl 6 rfl) ?_
            refine lv_iconst (v := (3 : Int32)) hx hb dX1_shown_85 (by decide) ?_
            refine lv_icmp_ne (tgt := 94) hx hb dX1_shown_86 (by decide) (fun c86 => ?_) (fun c86 => ?_)
            · have hd := dn_f c86 hd
              refine lv_iconst (v := (0 : Int32)) hx hb dX1_shown_94 (by decide) ?_
              have e1 := dn_s1 hd
              exact k_iret hx hb hr hQ hAe e1 rfl hP hS hlocks dX1_shown_95
            · have hd := dn_t c86 hd
              refine lv_iload hx hb dX1_shown_89 (lv_at hl 0 rfl) ?_
              refine lv_goto (tgt := 95) hx hb dX1_shown_91 (by decide) ?_
              have e1 := dn_s1 hd
              exact k_iret hx hb hr hQ hAe e1 rfl hP hS hlocks dX1_shown_95
          · have hd := dn_f e15_5 hd
            refine lv_tableOut (tgt := 96) hx hb dX1_shown_15 (by have q1 := lv_neT e15_1 (a := 1) (by decide); have q2 := lv_neT e15_2 (a := 2) (by decide); have q3 := lv_neT e15_3 (a := 3) (by decide); have q4 := lv_neT e15_4 (a := 4) (by decide); have q5 := lv_neT e15_5 (a := 5) (by decide); omega) (by decide) ?_
            refine lv_iload hx hb dX1_shown_96 (lv_at hl 2 rfl) ?_
            have e1 := dn_s1 hd
            exact k_iret hx hb hr hQ hAe e1 rfl hP hS hlocks dX1_shown_98
-- LeastNeed$ThingKinds.counted(IIII)I
set_option maxRecDepth 20000 in
def nX4_counted_j11 (p0 : Int32) (p1 : Int32) (p2 : Int32) (p3 : Int32) (w0_11 : Int32) : Option (Int32) := if p0 = (1 : Int32) then some (p1 + p2) else if p0 = (2 : Int32) then if w0_11 = 0 then some p1 else some (-1 : Int32) else if p0 = (3 : Int32) then some ((40 : Int32) - p1) else if p0 = (4 : Int32) then some (p1 + p2) else if p0 = (5 : Int32) then if w0_11 = 0 then some (p1 + p3) else some (-1 : Int32) else some p1
set_option maxRecDepth 20000 in
def nX4_counted (p0 : Int32) (p1 : Int32) (p2 : Int32) (p3 : Int32) : Option (Int32) := if p3 ≤ (6 : Int32) then nX4_counted_j11 p0 p1 p2 p3 (0 : Int32) else nX4_counted_j11 p0 p1 p2 p3 (1 : Int32)
set_option maxHeartbeats 4000000 in
set_option maxRecDepth 100000 in
theorem mX4_counted (l : Launch) (D : va_G) (cs : Nat → ClassId) (p0 : Int32) (p1 : Int32) (p2 : Int32) (p3 : Int32) (r9 : Int32) (hd : nX4_counted p0 p1 p2 p3 = some r9) : ∀ sz : Nat, Met l yX4_counted wsX4_counted ({ frames := 0, cells := 0, slots := 0, locals := 0 }) (k_Pc D cs [.int p0, .int p1, .int p2, .int p3] ([] : va_W) sz) (k_Qi D r9 ([] : va_W) ([] : va_W) sz) 0 0 (va_A ([] : va_W) sz) := by
  intro sz
  refine Met.ofW (cc := cX4_counted) (maxL := 5) (ret := (some .int)) (by decide) rfl ?_
  intro p e s m args below meth c s₁ B hml hv
  obtain ⟨rfl, hsz, hP, hK, hD0, hNn⟩ := hv
  have hx := B.exec
  have hb := B.bytes
  have hr := B.returns
  have hts := atoms_spec (ws := wsX4_counted) B.pre
  have hown : s.vm.findClass RX4 = some m.cls := findClass_of_methodNamed B.named
  have hlocks := B.notSynchronized
  subst hsz
  obtain ⟨A, hAe⟩ : ∃ A : Nat → Prop, A = va_A ([] : va_W) s.heap.size := ⟨_, rfl⟩
  have hD : va_D A ([] : va_W) := by rw [hAe]; exact hD0.self
  have hA : ∀ q : Nat, s.heap.size ≤ q → A q := fun q h => by rw [hAe]; exact Or.inr h
  have hS : va_S A s.heap s.heap [] := va_S.rf
  have hl := lv_entry ([.int p0, .int p1, .int p2, .int p3]) (n := 5) (Nat.le_of_ble_eq_true rfl)
  rw [lg_entry_eq]
  generalize (lg_sl ([.int p0, .int p1, .int p2, .int p3]) ++ List.replicate (5 - (lg_sl ([.int p0, .int p1, .int p2, .int p3])).length) Slot.unset).toArray = ls at hl ⊢
  have hl : lv_has ls 5 [(0, .int p0), (1, .int p1), (2, .int p2), (3, .int p3)] := hl
  obtain ⟨Q, hQ⟩ : ∃ Q, Q = MQ below (k_Qi D r9 ([] : va_W) ([] : va_W) s.heap.size) ([.int p0, .int p1, .int p2, .int p3] : List Value).toArray s 0 0 (va_A ([] : va_W) s.heap.size) := ⟨_, rfl⟩
  rw [← hQ]
  have Jo11 : ∀ (w0_11 : Int32) (H : Heap) (locs : List Loc) (ls : Array Slot), nX4_counted_j11 p0 p1 p2 p3 w0_11 = some r9 → lv_has ls 5 [(0, .int p0), (1, .int p1), (2, .int p2), (3, .int p3)] → va_P D vwCl ([] : va_W) H → va_S A s.heap H locs → W p l e (headSpec wsX4_counted ({ frames := 0, cells := 0, slots := 0, locals := 0 })).room s m ([.int p0, .int p1, .int p2, .int p3] : List Value).toArray below meth c H locs 0 0 Q (F0 m 11 ls [.int w0_11]) := by
    intro w0_11 H locs ls hd hl hP hS
    unfold nX4_counted_j11 at hd
    refine lv_istore (lv' := [(4, .int w0_11), (0, .int p0), (1, .int p1), (2, .int p2), (3, .int p3)]) hx hb dX4_counted_11 hl (by decide) rfl (fun ls hl => ?_)
    refine lv_iload_n hx hb dX4_counted_13 rfl (lv_at hl 1 rfl) ?_
    by_cases e14_1 : p0 = (1 : Int32)
    · have hd := dn_t e14_1 hd
      refine lv_tableIn (off := 34) (tgt := 48) hx hb dX4_counted_14 (by rw [e14_1]; decide) (by rw [e14_1]; decide) (by rw [e14_1]; rfl) (by decide) ?_
      refine lv_iload_n hx hb dX4_counted_48 rfl (lv_at hl 2 rfl) ?_
      refine lv_iload_n hx hb dX4_counted_49 rfl (lv_at hl 3 rfl) ?_
      refine lv_iadd hx hb dX4_counted_50 ?_
      have e1 := dn_s1 hd
      exact k_iret hx hb hr hQ hAe e1 rfl hP hS hlocks dX4_counted_51
    · have hd := dn_f e14_1 hd
      by_cases e14_2 : p0 = (2 : Int32)
      · have hd := dn_t e14_2 hd
        refine lv_tableIn (off := 38) (tgt := 52) hx hb dX4_counted_14 (by rw [e14_2]; decide) (by rw [e14_2]; decide) (by rw [e14_2]; rfl) (by decide) ?_
        refine lv_iload hx hb dX4_counted_52 (lv_at hl 0 rfl) ?_
        refine lv_if_eq (tgt := 61) hx hb dX4_counted_54 (by decide) (fun c54 => ?_) (fun c54 => ?_)
        · have hd := dn_t c54 hd
          refine lv_iload_n hx hb dX4_counted_61 rfl (lv_at hl 2 rfl) ?_
          have e1 := dn_s1 hd
          exact k_iret hx hb hr hQ hAe e1 rfl hP hS hlocks dX4_counted_62
        · have hd := dn_f c54 hd
          refine lv_iconst (v := (-1 : Int32)) hx hb dX4_counted_57 (by decide) ?_
          refine lv_goto (tgt := 62) hx hb dX4_counted_58 (by decide) ?_
          have e1 := dn_s1 hd
          exact k_iret hx hb hr hQ hAe e1 rfl hP hS hlocks dX4_counted_62
      · have hd := dn_f e14_2 hd
        by_cases e14_3 : p0 = (3 : Int32)
        · have hd := dn_t e14_3 hd
          refine lv_tableIn (off := 49) (tgt := 63) hx hb dX4_counted_14 (by rw [e14_3]; decide) (by rw [e14_3]; decide) (by rw [e14_3]; rfl) (by decide) ?_
          refine lv_bipush (v := (40 : Int32)) hx hb dX4_counted_63 (by decide) ?_
          refine lv_iload_n hx hb dX4_counted_65 rfl (lv_at hl 2 rfl) ?_
          refine lv_isub hx hb dX4_counted_66 ?_
          have e1 := dn_s1 hd
          exact k_iret hx hb hr hQ hAe e1 rfl hP hS hlocks dX4_counted_67
        · have hd := dn_f e14_3 hd
          by_cases e14_4 : p0 = (4 : Int32)
          · have hd := dn_t e14_4 hd
            refine lv_tableIn (off := 34) (tgt := 48) hx hb dX4_counted_14 (by rw [e14_4]; decide) (by rw [e14_4]; decide) (by rw [e14_4]; rfl) (by decide) ?_
            refine lv_iload_n hx hb dX4_counted_48 rfl (lv_at hl 2 rfl) ?_
            refine lv_iload_n hx hb dX4_counted_49 rfl (lv_at hl 3 rfl) ?_
            refine lv_iadd hx hb dX4_counted_50 ?_
            have e1 := dn_s1 hd
            exact k_iret hx hb hr hQ hAe e1 rfl hP hS hlocks dX4_counted_51
          · have hd := dn_f e14_4 hd
            by_cases e14_5 : p0 = (5 : Int32)
            · have hd := dn_t e14_5 hd
              refine lv_tableIn (off := 54) (tgt := 68) hx hb dX4_counted_14 (by rw [e14_5]; decide) (by rw [e14_5]; decide) (by rw [e14_5]; rfl) (by decide) ?_
              refine lv_iload hx hb dX4_counted_68 (lv_at hl 0 rfl) ?_
              refine lv_if_eq (tgt := 77) hx hb dX4_counted_70 (by decide) (fun c70 => ?_) (fun c70 => ?_)
              · have hd := dn_t c70 hd
                refine lv_iload_n hx hb dX4_counted_77 rfl (lv_at hl 2 rfl) ?_
                refine lv_iload_n hx hb dX4_counted_78 rfl (lv_at hl 4 rfl) ?_
                refine lv_iadd hx hb dX4_counted_79 ?_
                have e1 := dn_s1 hd
                exact k_iret hx hb hr hQ hAe e1 rfl hP hS hlocks dX4_counted_80
              · have hd := dn_f c70 hd
                refine lv_iconst (v := (-1 : Int32)) hx hb dX4_counted_73 (by decide) ?_
                refine lv_goto (tgt := 80) hx hb dX4_counted_74 (by decide) ?_
                have e1 := dn_s1 hd
                exact k_iret hx hb hr hQ hAe e1 rfl hP hS hlocks dX4_counted_80
            · have hd := dn_f e14_5 hd
              refine lv_tableOut (tgt := 81) hx hb dX4_counted_14 (by have q1 := lv_neT e14_1 (a := 1) (by decide); have q2 := lv_neT e14_2 (a := 2) (by decide); have q3 := lv_neT e14_3 (a := 3) (by decide); have q4 := lv_neT e14_4 (a := 4) (by decide); have q5 := lv_neT e14_5 (a := 5) (by decide); omega) (by decide) ?_
              refine lv_iload_n hx hb dX4_counted_81 rfl (lv_at hl 2 rfl) ?_
              have e1 := dn_s1 hd
              exact k_iret hx hb hr hQ hAe e1 rfl hP hS hlocks dX4_counted_82
  unfold nX4_counted at hd
  refine lv_iload_n hx hb dX4_counted_0 rfl (lv_at hl 3 rfl) ?_
  refine lv_bipush (v := (6 : Int32)) hx hb dX4_counted_1 (by decide) ?_
  refine lv_icmp_le (tgt := 10) hx hb dX4_counted_3 (by decide) (fun c3 => ?_) (fun c3 => ?_)
  · have hd := dn_t c3 hd
    refine lv_iconst (v := (0 : Int32)) hx hb dX4_counted_10 (by decide) ?_
    exact Jo11 (0 : Int32) _ _ _ hd (lv_sub hl [0, 1, 2, 3] rfl) hP hS
  · have hd := dn_f c3 hd
    refine lv_iconst (v := (1 : Int32)) hx hb dX4_counted_6 (by decide) ?_
    refine lv_goto (tgt := 11) hx hb dX4_counted_7 (by decide) ?_
    exact Jo11 (1 : Int32) _ _ _ hd (lv_sub hl [0, 1, 2, 3] rfl) hP hS
-- LeastNeed$Valley.counted(IIIII)I
set_option maxRecDepth 20000 in
def nX5_counted (S : Nat → Nat → Int32) (p1 : Int32) (p2 : Int32) (p3 : Int32) (p4 : Int32) (p5 : Int32) : Option (Int32) := if p4 = p3 then some (-1 : Int32) else if p4 < 0 ∨ 7 ≤ p4.toNatClampNeg then none else if (((4 : Int32) * p4) + p2) < 0 ∨ 28 ≤ (((4 : Int32) * p4) + p2).toNatClampNeg then none else if p4 < 0 ∨ 7 ≤ p4.toNatClampNeg then none else k_b1 (nX1_shown (S 1 p4.toNatClampNeg) (S 4 (((4 : Int32) * p4) + p2).toNatClampNeg) (S 3 p4.toNatClampNeg) p2 p5) (fun r43 => if p4 < 0 ∨ 7 ≤ p4.toNatClampNeg then none else if (((4 : Int32) * p4) + ((p2 + (1 : Int32)) - (p2 + (1 : Int32)) / (4 : Int32) * (4 : Int32))) < 0 ∨ 28 ≤ (((4 : Int32) * p4) + ((p2 + (1 : Int32)) - (p2 + (1 : Int32)) / (4 : Int32) * (4 : Int32))).toNatClampNeg then none else if p4 < 0 ∨ 7 ≤ p4.toNatClampNeg then none else k_b1 (nX1_shown (S 1 p4.toNatClampNeg) (S 4 (((4 : Int32) * p4) + ((p2 + (1 : Int32)) - (p2 + (1 : Int32)) / (4 : Int32) * (4 : Int32))).toNatClampNeg) (S 3 p4.toNatClampNeg) ((p2 + (1 : Int32)) - (p2 + (1 : Int32)) / (4 : Int32) * (4 : Int32)) p5) (fun r78 => if p4 < 0 ∨ 7 ≤ p4.toNatClampNeg then none else if p3 < 0 ∨ 7 ≤ p3.toNatClampNeg then none else k_b1 (nX4_counted p1 r43 r78 (if 0 ≤ ((S 2 p4.toNatClampNeg) - (S 2 p3.toNatClampNeg)) then ((S 2 p4.toNatClampNeg) - (S 2 p3.toNatClampNeg)) else 0 - ((S 2 p4.toNatClampNeg) - (S 2 p3.toNatClampNeg)))) (fun r105 => some r105)))
set_option maxHeartbeats 4000000 in
set_option maxRecDepth 100000 in
theorem mX5_counted (l : Launch) (D : va_G) (cs : Nat → ClassId) (a : Nat → Nat) (S : Nat → Nat → Int32) (p1 : Int32) (p2 : Int32) (p3 : Int32) (p4 : Int32) (p5 : Int32) (r9 : Int32) (hd : nX5_counted S p1 p2 p3 p4 p5 = some r9) : ∀ sz : Nat, Met l yX5_counted wsX5_counted ({ frames := 1, cells := 0, slots := 0, locals := 27 }) (k_Pc D cs [.ref (a 0), .int p1, .int p2, .int p3, .int p4, .int p5] (wX5 cs a S) sz) (k_Qi D r9 (wX5 cs a S) (wX5 cs a S) sz) 0 0 (va_A (wX5 cs a S) sz) := by
  intro sz
  refine Met.ofW (cc := cX5_counted) (maxL := 9) (ret := (some .int)) (by decide) rfl ?_
  intro p e s m args below meth c s₁ B hml hv
  obtain ⟨rfl, hsz, hP, hK, hD0, hNn⟩ := hv
  have hx := B.exec
  have hb := B.bytes
  have hr := B.returns
  have hts := atoms_spec (ws := wsX5_counted) B.pre
  have hown : s.vm.findClass RX5 = some m.cls := findClass_of_methodNamed B.named
  have hlocks := B.notSynchronized
  subst hsz
  obtain ⟨A, hAe⟩ : ∃ A : Nat → Prop, A = va_A (wX5 cs a S) s.heap.size := ⟨_, rfl⟩
  have hD : va_D A (wX5 cs a S) := by rw [hAe]; exact hD0.self
  have hA : ∀ q : Nat, s.heap.size ≤ q → A q := fun q h => by rw [hAe]; exact Or.inr h
  have hS : va_S A s.heap s.heap [] := va_S.rf
  have hDA : ∀ (S : Nat → Nat → Int32), va_D A (wX5 cs a S) := fun S => k_DA hD rfl
  have hl := lv_entry ([.ref (a 0), .int p1, .int p2, .int p3, .int p4, .int p5]) (n := 9) (Nat.le_of_ble_eq_true rfl)
  rw [lg_entry_eq]
  generalize (lg_sl ([.ref (a 0), .int p1, .int p2, .int p3, .int p4, .int p5]) ++ List.replicate (9 - (lg_sl ([.ref (a 0), .int p1, .int p2, .int p3, .int p4, .int p5])).length) Slot.unset).toArray = ls at hl ⊢
  have hl : lv_has ls 9 [(0, .ref (a 0)), (1, .int p1), (2, .int p2), (3, .int p3), (4, .int p4), (5, .int p5)] := hl
  obtain ⟨Q, hQ⟩ : ∃ Q, Q = MQ below (k_Qi D r9 (wX5 cs a S) (wX5 cs a S) s.heap.size) ([.ref (a 0), .int p1, .int p2, .int p3, .int p4, .int p5] : List Value).toArray s 0 0 (va_A (wX5 cs a S) s.heap.size) := ⟨_, rfl⟩
  rw [← hQ]
  unfold nX5_counted at hd
  refine lv_iload hx hb dX5_counted_0 (lv_at hl 4 rfl) ?_
  refine lv_iload_n hx hb dX5_counted_2 rfl (lv_at hl 3 rfl) ?_
  refine lv_icmp_ne (tgt := 8) hx hb dX5_counted_3 (by decide) (fun c3 => ?_) (fun c3 => ?_)
  · have hd := dn_f c3 hd
    refine lv_iload_n hx hb dX5_counted_8 rfl (lv_at hl 2 rfl) ?_
    refine lv_iconst (v := (1 : Int32)) hx hb dX5_counted_9 (by decide) ?_
    refine lv_iadd hx hb dX5_counted_10 ?_
    refine lv_iconst (v := (4 : Int32)) hx hb dX5_counted_11 (by decide) ?_
    refine lv_irem hx hb dX5_counted_12 (by decide) ?_
    refine lv_istore (lv' := [(6, .int ((p2 + (1 : Int32)) - (p2 + (1 : Int32)) / (4 : Int32) * (4 : Int32))), (0, .ref (a 0)), (1, .int p1), (2, .int p2), (3, .int p3), (4, .int p4), (5, .int p5)]) hx hb dX5_counted_13 hl (by decide) rfl (fun ls hl => ?_)
    refine lv_aload_n hx hb dX5_counted_15 rfl (lv_at hl 1 rfl) ?_
    refine va_get (D := D) (ci := 3) (v := .ref (a 1)) (C := RX5) (T := TX5) (N := 15) hx hb hts (fun w h => List.mem_cons_of_mem _ (List.mem_append_right _ h)) hown hK hP 0 rfl rfl 0 (by decide) (hts (.fieldLink RX5 9 "LeastNeed$Valley" "kind" "[I") (List.mem_of_getElem? (i := 1) rfl)) (fun _ h9 => h9) rfl dX5_counted_16 ?_
    refine lv_iload hx hb dX5_counted_19 (lv_at hl 5 rfl) ?_
    obtain ⟨hi21, hd⟩ := dn_i hd
    refine k_iald (D := D) (k := p4.toNatClampNeg) (by rfl) hx hb hK hP 1 1 rfl rfl hi21 dX5_counted_21 ?_
    refine lv_aload_n hx hb dX5_counted_22 rfl (lv_at hl 1 rfl) ?_
    refine va_get (D := D) (ci := 3) (v := .ref (a 4)) (C := RX5) (T := TX5) (N := 15) hx hb hts (fun w h => List.mem_cons_of_mem _ (List.mem_append_right _ h)) hown hK hP 0 rfl rfl 3 (by decide) (hts (.fieldLink RX5 21 "LeastNeed$Valley" "need" "[I") (List.mem_of_getElem? (i := 2) rfl)) (fun _ h9 => h9) rfl dX5_counted_23 ?_
    refine lv_iconst (v := (4 : Int32)) hx hb dX5_counted_26 (by decide) ?_
    refine lv_iload hx hb dX5_counted_27 (lv_at hl 5 rfl) ?_
    refine lv_imul hx hb dX5_counted_29 ?_
    refine lv_iload_n hx hb dX5_counted_30 rfl (lv_at hl 3 rfl) ?_
    refine lv_iadd hx hb dX5_counted_31 ?_
    obtain ⟨hi32, hd⟩ := dn_i hd
    refine k_iald (D := D) (k := (((4 : Int32) * p4) + p2).toNatClampNeg) (by rfl) hx hb hK hP 4 1 rfl rfl hi32 dX5_counted_32 ?_
    refine lv_aload_n hx hb dX5_counted_33 rfl (lv_at hl 1 rfl) ?_
    refine va_get (D := D) (ci := 3) (v := .ref (a 3)) (C := RX5) (T := TX5) (N := 15) hx hb hts (fun w h => List.mem_cons_of_mem _ (List.mem_append_right _ h)) hown hK hP 0 rfl rfl 2 (by decide) (hts (.fieldLink RX5 18 "LeastNeed$Valley" "worn" "[I") (List.mem_of_getElem? (i := 3) rfl)) (fun _ h9 => h9) rfl dX5_counted_34 ?_
    refine lv_iload hx hb dX5_counted_37 (lv_at hl 5 rfl) ?_
    obtain ⟨hi39, hd⟩ := dn_i hd
    refine k_iald (D := D) (k := p4.toNatClampNeg) (by rfl) hx hb hK hP 3 1 rfl rfl hi39 dX5_counted_39 ?_
    refine lv_iload_n hx hb dX5_counted_40 rfl (lv_at hl 3 rfl) ?_
    refine lv_iload hx hb dX5_counted_41 (lv_at hl 6 rfl) ?_
    obtain ⟨r43, hq43, hd⟩ := dn_b1 hd
    have hPc := k_P0 hP
    have hDc : va_D A ([] : va_W) := k_D0
    have hF := k_self hDc hS hA
    refine k_run_i (va_runS (As := [.int (S 1 p4.toNatClampNeg), .int (S 4 (((4 : Int32) * p4) + p2).toNatClampNeg), .int (S 3 p4.toNatClampNeg), .int p2, .int p5]) (rest := []) ⟨hx, hb, hml, hown, hts⟩ (mX1_shown l D cs  (S 1 p4.toNatClampNeg) (S 4 (((4 : Int32) * p4) + p2).toNatClampNeg) (S 3 p4.toNatClampNeg) p2 p5 r43 hq43 _) (va_cwS 5 hts gX5_counted_X1_shown rfl rfl rfl (by decide +kernel) ⟨Nat.le_of_ble_eq_true rfl, Nat.le_of_ble_eq_true rfl⟩) ⟨k_blind, k_pre hPc hK hNn hDc⟩ rfl rfl hl.1 rfl (lv_room (Nat.le_of_ble_eq_true rfl)) dX5_counted_43 ⟨Nat.le_of_ble_eq_true rfl, Nat.le_of_ble_eq_true rfl⟩) hS hF (fun H locs hP1 hk hS => ?_)
    have hP : va_P D vwCl (wX5 cs a S) _ := k_keep hP hk
    refine lv_istore (lv' := [(7, .int r43), (6, .int ((p2 + (1 : Int32)) - (p2 + (1 : Int32)) / (4 : Int32) * (4 : Int32))), (0, .ref (a 0)), (1, .int p1), (2, .int p2), (3, .int p3), (4, .int p4), (5, .int p5)]) hx hb dX5_counted_46 hl (by decide) rfl (fun ls hl => ?_)
    refine lv_aload_n hx hb dX5_counted_48 rfl (lv_at hl 2 rfl) ?_
    refine va_get (D := D) (ci := 3) (v := .ref (a 1)) (C := RX5) (T := TX5) (N := 15) hx hb hts (fun w h => List.mem_cons_of_mem _ (List.mem_append_right _ h)) hown hK hP 0 rfl rfl 0 (by decide) (hts (.fieldLink RX5 9 "LeastNeed$Valley" "kind" "[I") (List.mem_of_getElem? (i := 1) rfl)) (fun _ h9 => h9) rfl dX5_counted_49 ?_
    refine lv_iload hx hb dX5_counted_52 (lv_at hl 6 rfl) ?_
    obtain ⟨hi54, hd⟩ := dn_i hd
    refine k_iald (D := D) (k := p4.toNatClampNeg) (by rfl) hx hb hK hP 1 1 rfl rfl hi54 dX5_counted_54 ?_
    refine lv_aload_n hx hb dX5_counted_55 rfl (lv_at hl 2 rfl) ?_
    refine va_get (D := D) (ci := 3) (v := .ref (a 4)) (C := RX5) (T := TX5) (N := 15) hx hb hts (fun w h => List.mem_cons_of_mem _ (List.mem_append_right _ h)) hown hK hP 0 rfl rfl 3 (by decide) (hts (.fieldLink RX5 21 "LeastNeed$Valley" "need" "[I") (List.mem_of_getElem? (i := 2) rfl)) (fun _ h9 => h9) rfl dX5_counted_56 ?_
    refine lv_iconst (v := (4 : Int32)) hx hb dX5_counted_59 (by decide) ?_
    refine lv_iload hx hb dX5_counted_60 (lv_at hl 6 rfl) ?_
    refine lv_imul hx hb dX5_counted_62 ?_
    refine lv_iload hx hb dX5_counted_63 (lv_at hl 1 rfl) ?_
    refine lv_iadd hx hb dX5_counted_65 ?_
    obtain ⟨hi66, hd⟩ := dn_i hd
    refine k_iald (D := D) (k := (((4 : Int32) * p4) + ((p2 + (1 : Int32)) - (p2 + (1 : Int32)) / (4 : Int32) * (4 : Int32))).toNatClampNeg) (by rfl) hx hb hK hP 4 1 rfl rfl hi66 dX5_counted_66 ?_
    refine lv_aload_n hx hb dX5_counted_67 rfl (lv_at hl 2 rfl) ?_
    refine va_get (D := D) (ci := 3) (v := .ref (a 3)) (C := RX5) (T := TX5) (N := 15) hx hb hts (fun w h => List.mem_cons_of_mem _ (List.mem_append_right _ h)) hown hK hP 0 rfl rfl 2 (by decide) (hts (.fieldLink RX5 18 "LeastNeed$Valley" "worn" "[I") (List.mem_of_getElem? (i := 3) rfl)) (fun _ h9 => h9) rfl dX5_counted_68 ?_
    refine lv_iload hx hb dX5_counted_71 (lv_at hl 6 rfl) ?_
    obtain ⟨hi73, hd⟩ := dn_i hd
    refine k_iald (D := D) (k := p4.toNatClampNeg) (by rfl) hx hb hK hP 3 1 rfl rfl hi73 dX5_counted_73 ?_
    refine lv_iload hx hb dX5_counted_74 (lv_at hl 1 rfl) ?_
    refine lv_iload hx hb dX5_counted_76 (lv_at hl 7 rfl) ?_
    obtain ⟨r78, hq78, hd⟩ := dn_b1 hd
    have hPc := k_P0 hP
    have hDc : va_D A ([] : va_W) := k_D0
    have hF := k_self hDc hS hA
    refine k_run_i (va_runS (As := [.int (S 1 p4.toNatClampNeg), .int (S 4 (((4 : Int32) * p4) + ((p2 + (1 : Int32)) - (p2 + (1 : Int32)) / (4 : Int32) * (4 : Int32))).toNatClampNeg), .int (S 3 p4.toNatClampNeg), .int ((p2 + (1 : Int32)) - (p2 + (1 : Int32)) / (4 : Int32) * (4 : Int32)), .int p5]) (rest := []) ⟨hx, hb, hml, hown, hts⟩ (mX1_shown l D cs  (S 1 p4.toNatClampNeg) (S 4 (((4 : Int32) * p4) + ((p2 + (1 : Int32)) - (p2 + (1 : Int32)) / (4 : Int32) * (4 : Int32))).toNatClampNeg) (S 3 p4.toNatClampNeg) ((p2 + (1 : Int32)) - (p2 + (1 : Int32)) / (4 : Int32) * (4 : Int32)) p5 r78 hq78 _) (va_cwS 5 hts gX5_counted_X1_shown rfl rfl rfl (by decide +kernel) ⟨Nat.le_of_ble_eq_true rfl, Nat.le_of_ble_eq_true rfl⟩) ⟨k_blind, k_pre hPc hK hNn hDc⟩ rfl rfl hl.1 rfl (lv_room (Nat.le_of_ble_eq_true rfl)) dX5_counted_78 ⟨Nat.le_of_ble_eq_true rfl, Nat.le_of_ble_eq_true rfl⟩) hS hF (fun H locs hP1 hk hS => ?_)
    have hP : va_P D vwCl (wX5 cs a S) _ := k_keep hP hk
    refine lv_istore (lv' := [(8, .int r78), (7, .int r43), (6, .int ((p2 + (1 : Int32)) - (p2 + (1 : Int32)) / (4 : Int32) * (4 : Int32))), (0, .ref (a 0)), (1, .int p1), (2, .int p2), (3, .int p3), (4, .int p4), (5, .int p5)]) hx hb dX5_counted_81 hl (by decide) rfl (fun ls hl => ?_)
    refine lv_iload_n hx hb dX5_counted_83 rfl (lv_at hl 4 rfl) ?_
    refine lv_iload hx hb dX5_counted_84 (lv_at hl 1 rfl) ?_
    refine lv_iload hx hb dX5_counted_86 (lv_at hl 0 rfl) ?_
    refine lv_aload_n hx hb dX5_counted_88 rfl (lv_at hl 3 rfl) ?_
    refine va_get (D := D) (ci := 3) (v := .ref (a 2)) (C := RX5) (T := TX5) (N := 15) hx hb hts (fun w h => List.mem_cons_of_mem _ (List.mem_append_right _ h)) hown hK hP 0 rfl rfl 1 (by decide) (hts (.fieldLink RX5 15 "LeastNeed$Valley" "house" "[I") (List.mem_of_getElem? (i := 4) rfl)) (fun _ h9 => h9) rfl dX5_counted_89 ?_
    refine lv_iload hx hb dX5_counted_92 (lv_at hl 7 rfl) ?_
    obtain ⟨hi94, hd⟩ := dn_i hd
    refine k_iald (D := D) (k := p4.toNatClampNeg) (by rfl) hx hb hK hP 2 1 rfl rfl hi94 dX5_counted_94 ?_
    refine lv_aload_n hx hb dX5_counted_95 rfl (lv_at hl 3 rfl) ?_
    refine va_get (D := D) (ci := 3) (v := .ref (a 2)) (C := RX5) (T := TX5) (N := 15) hx hb hts (fun w h => List.mem_cons_of_mem _ (List.mem_append_right _ h)) hown hK hP 0 rfl rfl 1 (by decide) (hts (.fieldLink RX5 15 "LeastNeed$Valley" "house" "[I") (List.mem_of_getElem? (i := 4) rfl)) (fun _ h9 => h9) rfl dX5_counted_96 ?_
    refine lv_iload_n hx hb dX5_counted_99 rfl (lv_at hl 6 rfl) ?_
    obtain ⟨hi100, hd⟩ := dn_i hd
    refine k_iald (D := D) (k := p3.toNatClampNeg) (by rfl) hx hb hK hP 2 1 rfl rfl hi100 dX5_counted_100 ?_
    refine lv_isub hx hb dX5_counted_101 ?_
    refine va_mabs hx hb (hml.trans hl.1.symm) hown (hts (.methodLink RX5 102 Lib.Math.abs.name) (List.mem_of_getElem? (i := 5) rfl)) (hts (.static Lib.Math.abs.name) (List.mem_of_getElem? (i := 6) rfl)) (hts (.initialized "java/lang/Math") (List.mem_of_getElem? (i := 7) rfl)) (hts (.code Lib.Math.abs.name Lib.Math.abs.code 1 (some .int)) (List.mem_of_getElem? (i := 8) rfl)) (Nat.le_of_ble_eq_true rfl) (Nat.le_of_ble_eq_true rfl) (Nat.le_of_ble_eq_true rfl) (Nat.le_of_ble_eq_true rfl) dX5_counted_102 ?_
    obtain ⟨r105, hq105, hd⟩ := dn_b1 hd
    have hPc := k_P0 hP
    have hDc : va_D A ([] : va_W) := k_D0
    have hF := k_self hDc hS hA
    refine k_run_i (va_runS (As := [.int p1, .int r43, .int r78, .int (if 0 ≤ ((S 2 p4.toNatClampNeg) - (S 2 p3.toNatClampNeg)) then ((S 2 p4.toNatClampNeg) - (S 2 p3.toNatClampNeg)) else 0 - ((S 2 p4.toNatClampNeg) - (S 2 p3.toNatClampNeg)))]) (rest := []) ⟨hx, hb, hml, hown, hts⟩ (mX4_counted l D cs  p1 r43 r78 (if 0 ≤ ((S 2 p4.toNatClampNeg) - (S 2 p3.toNatClampNeg)) then ((S 2 p4.toNatClampNeg) - (S 2 p3.toNatClampNeg)) else 0 - ((S 2 p4.toNatClampNeg) - (S 2 p3.toNatClampNeg))) r105 hq105 _) (va_cwS 4 hts gX5_counted_X4_counted rfl rfl rfl (by decide +kernel) ⟨Nat.le_of_ble_eq_true rfl, Nat.le_of_ble_eq_true rfl⟩) ⟨k_blind, k_pre hPc hK hNn hDc⟩ rfl rfl hl.1 rfl (lv_room (Nat.le_of_ble_eq_true rfl)) dX5_counted_105 ⟨Nat.le_of_ble_eq_true rfl, Nat.le_of_ble_eq_true rfl⟩) hS hF (fun H locs hP1 hk hS => ?_)
    have hP : va_P D vwCl (wX5 cs a S) _ := k_keep hP hk
    have e1 := dn_s1 hd
    exact k_iret hx hb hr hQ hAe e1 rfl hP hS hlocks dX5_counted_108
  · have hd := dn_t c3 hd
    refine lv_iconst (v := (-1 : Int32)) hx hb dX5_counted_6 (by decide) ?_
    have e1 := dn_s1 hd
    exact k_iret hx hb hr hQ hAe e1 rfl hP hS hlocks dX5_counted_7
-- LeastNeed$Valley.goesTo(IIII)I
set_option maxRecDepth 20000 in
def nX5_goesTo_i12_j56 (p1 : Int32) (p2 : Int32) (p3 : Int32) (p4 : Int32) (x8_56 : Int32) (x9_56 : Int32) (S : Nat → Nat → Int32) : Option ((Int32 × Int32 × Int32 × Int32) ⊕ (Int32)) := some (.inl (x8_56, x9_56, (0 : Int32), (x8_56 + (1 : Int32))))
set_option maxRecDepth 20000 in
def nX5_goesTo_l12 (p1 : Int32) (p2 : Int32) (p3 : Int32) (p4 : Int32) (x5_12 : Int32) (x6_12 : Int32) (x7_12 : Int32) (x8_12 : Int32) (S : Nat → Nat → Int32) : Option ((Int32 × Int32 × Int32 × Int32) ⊕ (Int32)) := if (S 0 12) ≤ x8_12 then k_up (if x7_12 = 0 then some x5_12 else k_b1 (nX4_likeOnesLeaveIt p1) (fun r92 => if r92 = 0 then some x5_12 else some (-1 : Int32))) else k_b1 (nX5_counted S p1 p2 p3 x8_12 p4) (fun r29 => if r29 = (-1 : Int32) then some (.inl (x5_12, x6_12, x7_12, (x8_12 + (1 : Int32)))) else if x5_12 = (-1 : Int32) then nX5_goesTo_i12_j56 p1 p2 p3 p4 x8_12 r29 S else if x6_12 ≤ r29 then if r29 = x6_12 then some (.inl (x5_12, x6_12, (1 : Int32), (x8_12 + (1 : Int32)))) else some (.inl (x5_12, x6_12, x7_12, (x8_12 + (1 : Int32)))) else nX5_goesTo_i12_j56 p1 p2 p3 p4 x8_12 r29 S)
set_option maxRecDepth 20000 in
def nX5_goesTo (S : Nat → Nat → Int32) (p1 : Int32) (p2 : Int32) (p3 : Int32) (p4 : Int32) : Option (Int32) := k_it (fun st => nX5_goesTo_l12 p1 p2 p3 p4 st.1 st.2.1 st.2.2.1 st.2.2.2 S) 1000 ((-1 : Int32), (0 : Int32), (0 : Int32), (0 : Int32))
set_option maxHeartbeats 4000000 in
set_option maxRecDepth 100000 in
theorem mX5_goesTo (l : Launch) (D : va_G) (cs : Nat → ClassId) (a : Nat → Nat) (S : Nat → Nat → Int32) (p1 : Int32) (p2 : Int32) (p3 : Int32) (p4 : Int32) (r9 : Int32) (hd : nX5_goesTo S p1 p2 p3 p4 = some r9) : ∀ sz : Nat, Met l yX5_goesTo wsX5_goesTo ({ frames := 2, cells := 0, slots := 0, locals := 55 }) (k_Pc D cs [.ref (a 0), .int p1, .int p2, .int p3, .int p4] (wX5 cs a S) sz) (k_Qi D r9 (wX5 cs a S) (wX5 cs a S) sz) 0 0 (va_A (wX5 cs a S) sz) := by
  intro sz
  refine Met.ofW (cc := cX5_goesTo) (maxL := 10) (ret := (some .int)) (by decide) rfl ?_
  intro p e s m args below meth c s₁ B hml hv
  obtain ⟨rfl, hsz, hP, hK, hD0, hNn⟩ := hv
  have hx := B.exec
  have hb := B.bytes
  have hr := B.returns
  have hts := atoms_spec (ws := wsX5_goesTo) B.pre
  have hown : s.vm.findClass RX5 = some m.cls := findClass_of_methodNamed B.named
  have hlocks := B.notSynchronized
  subst hsz
  obtain ⟨A, hAe⟩ : ∃ A : Nat → Prop, A = va_A (wX5 cs a S) s.heap.size := ⟨_, rfl⟩
  have hD : va_D A (wX5 cs a S) := by rw [hAe]; exact hD0.self
  have hA : ∀ q : Nat, s.heap.size ≤ q → A q := fun q h => by rw [hAe]; exact Or.inr h
  have hS : va_S A s.heap s.heap [] := va_S.rf
  have hDA : ∀ (S : Nat → Nat → Int32), va_D A (wX5 cs a S) := fun S => k_DA hD rfl
  have hl := lv_entry ([.ref (a 0), .int p1, .int p2, .int p3, .int p4]) (n := 10) (Nat.le_of_ble_eq_true rfl)
  rw [lg_entry_eq]
  generalize (lg_sl ([.ref (a 0), .int p1, .int p2, .int p3, .int p4]) ++ List.replicate (10 - (lg_sl ([.ref (a 0), .int p1, .int p2, .int p3, .int p4])).length) Slot.unset).toArray = ls at hl ⊢
  have hl : lv_has ls 10 [(0, .ref (a 0)), (1, .int p1), (2, .int p2), (3, .int p3), (4, .int p4)] := hl
  obtain ⟨Q, hQ⟩ : ∃ Q, Q = MQ below (k_Qi D r9 (wX5 cs a S) (wX5 cs a S) s.heap.size) ([.ref (a 0), .int p1, .int p2, .int p3, .int p4] : List Value).toArray s 0 0 (va_A (wX5 cs a S) s.heap.size) := ⟨_, rfl⟩
  rw [← hQ]
  have Lo12 : ∀ (n1 : Nat) (x5_12 : Int32) (x6_12 : Int32) (x7_12 : Int32) (x8_12 : Int32) (H : Heap) (locs : List Loc) (ls : Array Slot), k_it (fun st => nX5_goesTo_l12 p1 p2 p3 p4 st.1 st.2.1 st.2.2.1 st.2.2.2 S) n1 (x5_12, x6_12, x7_12, x8_12) = some r9 → lv_has ls 10 [(0, .ref (a 0)), (1, .int p1), (2, .int p2), (3, .int p3), (4, .int p4), (5, .int x5_12), (6, .int x6_12), (7, .int x7_12), (8, .int x8_12)] → va_P D vwCl (wX5 cs a S) H → va_S A s.heap H locs → W p l e (headSpec wsX5_goesTo ({ frames := 2, cells := 0, slots := 0, locals := 55 })).room s m ([.ref (a 0), .int p1, .int p2, .int p3, .int p4] : List Value).toArray below meth c H locs 0 0 Q (F0 m 12 ls []) := by
    intro n1
    induction n1 with
    | zero => intro x5_12 x6_12 x7_12 x8_12 H locs ls hd; exact dn_it0 hd
    | succ n1 ih1 =>
      intro x5_12 x6_12 x7_12 x8_12 H locs ls hd hl hP hS
      have hD := hDA S
      obtain ⟨y1, hd, hy1⟩ := dn_it hd
      have hd : nX5_goesTo_l12 p1 p2 p3 p4 x5_12 x6_12 x7_12 x8_12 S = some y1 := hd
      have Jo56 : ∀ (x8_56 : Int32) (x9_56 : Int32) (H : Heap) (locs : List Loc) (ls : Array Slot), nX5_goesTo_i12_j56 p1 p2 p3 p4 x8_56 x9_56 S = some y1 → lv_has ls 10 [(0, .ref (a 0)), (1, .int p1), (2, .int p2), (3, .int p3), (4, .int p4), (8, .int x8_56), (9, .int x9_56)] → va_P D vwCl (wX5 cs a S) H → va_S A s.heap H locs → W p l e (headSpec wsX5_goesTo ({ frames := 2, cells := 0, slots := 0, locals := 55 })).room s m ([.ref (a 0), .int p1, .int p2, .int p3, .int p4] : List Value).toArray below meth c H locs 0 0 Q (F0 m 56 ls []) := by
        intro x8_56 x9_56 H locs ls hd hl hP hS
        have hD := hDA S
        unfold nX5_goesTo_i12_j56 at hd
        refine lv_iload hx hb dX5_goesTo_56 (lv_at hl 5 rfl) ?_
        refine lv_istore (lv' := [(5, .int x8_56), (0, .ref (a 0)), (1, .int p1), (2, .int p2), (3, .int p3), (4, .int p4), (8, .int x8_56), (9, .int x9_56)]) hx hb dX5_goesTo_58 hl (by decide) rfl (fun ls hl => ?_)
        refine lv_iload hx hb dX5_goesTo_60 (lv_at hl 7 rfl) ?_
        refine lv_istore (lv' := [(6, .int x9_56), (5, .int x8_56), (0, .ref (a 0)), (1, .int p1), (2, .int p2), (3, .int p3), (4, .int p4), (8, .int x8_56), (9, .int x9_56)]) hx hb dX5_goesTo_62 hl (by decide) rfl (fun ls hl => ?_)
        refine lv_iconst (v := (0 : Int32)) hx hb dX5_goesTo_64 (by decide) ?_
        refine lv_istore (lv' := [(7, .int (0 : Int32)), (6, .int x9_56), (5, .int x8_56), (0, .ref (a 0)), (1, .int p1), (2, .int p2), (3, .int p3), (4, .int p4), (8, .int x8_56), (9, .int x9_56)]) hx hb dX5_goesTo_65 hl (by decide) rfl (fun ls hl => ?_)
        refine lv_goto (tgt := 80) hx hb dX5_goesTo_67 (by decide) ?_
        refine lv_iinc (v := x8_56 + (1 : Int32)) (lv' := [(8, .int (x8_56 + (1 : Int32))), (7, .int (0 : Int32)), (6, .int x9_56), (5, .int x8_56), (0, .ref (a 0)), (1, .int p1), (2, .int p2), (3, .int p3), (4, .int p4), (9, .int x9_56)]) hx hb dX5_goesTo_80 hl (k := 8) rfl rfl (by decide) rfl (fun ls hl => ?_)
        refine lv_goto (tgt := 12) hx hb dX5_goesTo_83 (by decide) ?_
        exact ih1 x8_56 x9_56 (0 : Int32) (x8_56 + (1 : Int32)) _ _ _ (dn_bk hd hy1) (lv_sub hl [4, 5, 6, 7, 8, 3, 2, 1, 0] rfl) hP hS
      unfold nX5_goesTo_l12 at hd
      refine lv_iload hx hb dX5_goesTo_12 (lv_at hl 8 rfl) ?_
      refine lv_aload_n hx hb dX5_goesTo_14 rfl (lv_at hl 0 rfl) ?_
      refine va_get (D := D) (ci := 3) (v := .int (S 0 12)) (C := RX5) (T := TX5) (N := 15) hx hb hts (fun w h => List.mem_cons_of_mem _ (List.mem_append_right _ h)) hown hK hP 0 rfl rfl 12 (by decide) (hts (.fieldLink RX5 54 "LeastNeed$Valley" "people" "I") (List.mem_of_getElem? (i := 1) rfl)) (fun _ h9 => h9) rfl dX5_goesTo_15 ?_
      refine lv_icmp_ge (tgt := 86) hx hb dX5_goesTo_18 (by decide) (fun c18 => ?_) (fun c18 => ?_)
      · have hd := dn_t c18 hd
        have hd := dn_up hd hy1
        refine lv_iload hx hb dX5_goesTo_86 (lv_at hl 7 rfl) ?_
        refine lv_if_eq (tgt := 102) hx hb dX5_goesTo_88 (by decide) (fun c88 => ?_) (fun c88 => ?_)
        · have hd := dn_t c88 hd
          refine lv_iload hx hb dX5_goesTo_102 (lv_at hl 5 rfl) ?_
          have e1 := dn_s1 hd
          exact k_iret hx hb hr hQ hAe e1 rfl hP hS hlocks dX5_goesTo_104
        · have hd := dn_f c88 hd
          refine lv_iload_n hx hb dX5_goesTo_91 rfl (lv_at hl 1 rfl) ?_
          obtain ⟨r92, hq92, hd⟩ := dn_b1 hd
          have hPc := k_P0 hP
          have hDc : va_D A ([] : va_W) := k_D0
          have hF := k_self hDc hS hA
          refine k_run_i (va_runS (As := [.int p1]) (rest := []) ⟨hx, hb, hml, hown, hts⟩ (mX4_likeOnesLeaveIt l D cs  p1 r92 hq92 _) (va_cwS 1 hts gX5_goesTo_X4_likeOnesLeaveIt rfl rfl rfl (by decide +kernel) ⟨Nat.le_of_ble_eq_true rfl, Nat.le_of_ble_eq_true rfl⟩) ⟨k_blind, k_pre hPc hK hNn hDc⟩ rfl rfl hl.1 rfl (lv_room (Nat.le_of_ble_eq_true rfl)) dX5_goesTo_92 ⟨Nat.le_of_ble_eq_true rfl, Nat.le_of_ble_eq_true rfl⟩) hS hF (fun H locs hP1 hk hS => ?_)
          have hP : va_P D vwCl (wX5 cs a S) _ := k_keep hP hk
          refine lv_if_eq (tgt := 102) hx hb dX5_goesTo_95 (by decide) (fun c95 => ?_) (fun c95 => ?_)
          · have hd := dn_t c95 hd
            refine lv_iload hx hb dX5_goesTo_102 (lv_at hl 5 rfl) ?_
            have e1 := dn_s1 hd
            exact k_iret hx hb hr hQ hAe e1 rfl hP hS hlocks dX5_goesTo_104
          · have hd := dn_f c95 hd
            refine lv_iconst (v := (-1 : Int32)) hx hb dX5_goesTo_98 (by decide) ?_
            refine lv_goto (tgt := 104) hx hb dX5_goesTo_99 (by decide) ?_
            have e1 := dn_s1 hd
            exact k_iret hx hb hr hQ hAe e1 rfl hP hS hlocks dX5_goesTo_104
      · have hd := dn_f c18 hd
        refine lv_aload_n hx hb dX5_goesTo_21 rfl (lv_at hl 0 rfl) ?_
        refine lv_iload_n hx hb dX5_goesTo_22 rfl (lv_at hl 1 rfl) ?_
        refine lv_iload_n hx hb dX5_goesTo_23 rfl (lv_at hl 2 rfl) ?_
        refine lv_iload_n hx hb dX5_goesTo_24 rfl (lv_at hl 3 rfl) ?_
        refine lv_iload hx hb dX5_goesTo_25 (lv_at hl 8 rfl) ?_
        refine lv_iload hx hb dX5_goesTo_27 (lv_at hl 4 rfl) ?_
        obtain ⟨r29, hq29, hd⟩ := dn_b1 hd
        have hF := k_self hD hS hA
        refine k_run_i (va_runV (As := [.int p1, .int p2, .int p3, .int x8_12, .int p4]) (rest := []) ⟨hx, hb, hml, hown, hts⟩ (mX5_counted l D cs a S p1 p2 p3 x8_12 p4 r29 hq29 _) (cwV 5 hts gX5_goesTo_X5_counted rfl rfl rfl (by decide +kernel) ⟨Nat.le_of_ble_eq_true rfl, Nat.le_of_ble_eq_true rfl⟩) ⟨k_blind, va_recv hK hP (ci := 3) (q0 := 0) rfl rfl, k_pre hP hK hNn hD⟩ rfl rfl hl.1 rfl (lv_room (Nat.le_of_ble_eq_true rfl)) dX5_goesTo_29 ⟨Nat.le_of_ble_eq_true rfl, Nat.le_of_ble_eq_true rfl⟩) hS hF (fun H locs hP1 hk hS => ?_)
        have hP : va_P D vwCl (wX5 cs a S) _ := hP1
        have hD := hDA S
        refine lv_istore (lv' := [(9, .int r29), (0, .ref (a 0)), (1, .int p1), (2, .int p2), (3, .int p3), (4, .int p4), (5, .int x5_12), (6, .int x6_12), (7, .int x7_12), (8, .int x8_12)]) hx hb dX5_goesTo_32 hl (by decide) rfl (fun ls hl => ?_)
        refine lv_iload hx hb dX5_goesTo_34 (lv_at hl 0 rfl) ?_
        refine lv_iconst (v := (-1 : Int32)) hx hb dX5_goesTo_36 (by decide) ?_
        refine lv_icmp_ne (tgt := 43) hx hb dX5_goesTo_37 (by decide) (fun c37 => ?_) (fun c37 => ?_)
        · have hd := dn_f c37 hd
          refine lv_iload hx hb dX5_goesTo_43 (lv_at hl 6 rfl) ?_
          refine lv_iconst (v := (-1 : Int32)) hx hb dX5_goesTo_45 (by decide) ?_
          refine lv_icmp_eq (tgt := 56) hx hb dX5_goesTo_46 (by decide) (fun c46 => ?_) (fun c46 => ?_)
          · have hd := dn_t c46 hd
            exact Jo56 x8_12 r29 _ _ _ hd (lv_sub hl [1, 2, 3, 4, 5, 9, 0] rfl) hP hS
          · have hd := dn_f c46 hd
            refine lv_iload hx hb dX5_goesTo_49 (lv_at hl 0 rfl) ?_
            refine lv_iload hx hb dX5_goesTo_51 (lv_at hl 7 rfl) ?_
            refine lv_icmp_ge (tgt := 70) hx hb dX5_goesTo_53 (by decide) (fun c53 => ?_) (fun c53 => ?_)
            · have hd := dn_t c53 hd
              refine lv_iload hx hb dX5_goesTo_70 (lv_at hl 0 rfl) ?_
              refine lv_iload hx hb dX5_goesTo_72 (lv_at hl 7 rfl) ?_
              refine lv_icmp_ne (tgt := 80) hx hb dX5_goesTo_74 (by decide) (fun c74 => ?_) (fun c74 => ?_)
              · have hd := dn_f c74 hd
                refine lv_iinc (v := x8_12 + (1 : Int32)) (lv' := [(8, .int (x8_12 + (1 : Int32))), (9, .int r29), (0, .ref (a 0)), (1, .int p1), (2, .int p2), (3, .int p3), (4, .int p4), (5, .int x5_12), (6, .int x6_12), (7, .int x7_12)]) hx hb dX5_goesTo_80 hl (k := 9) rfl rfl (by decide) rfl (fun ls hl => ?_)
                refine lv_goto (tgt := 12) hx hb dX5_goesTo_83 (by decide) ?_
                exact ih1 x5_12 x6_12 x7_12 (x8_12 + (1 : Int32)) _ _ _ (dn_bk hd hy1) (lv_sub hl [2, 3, 4, 5, 6, 7, 8, 9, 0] rfl) hP hS
              · have hd := dn_t c74 hd
                refine lv_iconst (v := (1 : Int32)) hx hb dX5_goesTo_77 (by decide) ?_
                refine lv_istore (lv' := [(7, .int (1 : Int32)), (9, .int r29), (0, .ref (a 0)), (1, .int p1), (2, .int p2), (3, .int p3), (4, .int p4), (5, .int x5_12), (6, .int x6_12), (8, .int x8_12)]) hx hb dX5_goesTo_78 hl (by decide) rfl (fun ls hl => ?_)
                refine lv_iinc (v := x8_12 + (1 : Int32)) (lv' := [(8, .int (x8_12 + (1 : Int32))), (7, .int (1 : Int32)), (9, .int r29), (0, .ref (a 0)), (1, .int p1), (2, .int p2), (3, .int p3), (4, .int p4), (5, .int x5_12), (6, .int x6_12)]) hx hb dX5_goesTo_80 hl (k := 9) rfl rfl (by decide) rfl (fun ls hl => ?_)
                refine lv_goto (tgt := 12) hx hb dX5_goesTo_83 (by decide) ?_
                exact ih1 x5_12 x6_12 (1 : Int32) (x8_12 + (1 : Int32)) _ _ _ (dn_bk hd hy1) (lv_sub hl [3, 4, 5, 6, 7, 8, 9, 1, 0] rfl) hP hS
            · have hd := dn_f c53 hd
              exact Jo56 x8_12 r29 _ _ _ hd (lv_sub hl [1, 2, 3, 4, 5, 9, 0] rfl) hP hS
        · have hd := dn_t c37 hd
          refine lv_goto (tgt := 80) hx hb dX5_goesTo_40 (by decide) ?_
          refine lv_iinc (v := x8_12 + (1 : Int32)) (lv' := [(8, .int (x8_12 + (1 : Int32))), (9, .int r29), (0, .ref (a 0)), (1, .int p1), (2, .int p2), (3, .int p3), (4, .int p4), (5, .int x5_12), (6, .int x6_12), (7, .int x7_12)]) hx hb dX5_goesTo_80 hl (k := 9) rfl rfl (by decide) rfl (fun ls hl => ?_)
          refine lv_goto (tgt := 12) hx hb dX5_goesTo_83 (by decide) ?_
          exact ih1 x5_12 x6_12 x7_12 (x8_12 + (1 : Int32)) _ _ _ (dn_bk hd hy1) (lv_sub hl [2, 3, 4, 5, 6, 7, 8, 9, 0] rfl) hP hS
  unfold nX5_goesTo at hd
  refine lv_iconst (v := (-1 : Int32)) hx hb dX5_goesTo_0 (by decide) ?_
  refine lv_istore (lv' := [(5, .int (-1 : Int32)), (0, .ref (a 0)), (1, .int p1), (2, .int p2), (3, .int p3), (4, .int p4)]) hx hb dX5_goesTo_1 hl (by decide) rfl (fun ls hl => ?_)
  refine lv_iconst (v := (0 : Int32)) hx hb dX5_goesTo_3 (by decide) ?_
  refine lv_istore (lv' := [(6, .int (0 : Int32)), (5, .int (-1 : Int32)), (0, .ref (a 0)), (1, .int p1), (2, .int p2), (3, .int p3), (4, .int p4)]) hx hb dX5_goesTo_4 hl (by decide) rfl (fun ls hl => ?_)
  refine lv_iconst (v := (0 : Int32)) hx hb dX5_goesTo_6 (by decide) ?_
  refine lv_istore (lv' := [(7, .int (0 : Int32)), (6, .int (0 : Int32)), (5, .int (-1 : Int32)), (0, .ref (a 0)), (1, .int p1), (2, .int p2), (3, .int p3), (4, .int p4)]) hx hb dX5_goesTo_7 hl (by decide) rfl (fun ls hl => ?_)
  refine lv_iconst (v := (0 : Int32)) hx hb dX5_goesTo_9 (by decide) ?_
  refine lv_istore (lv' := [(8, .int (0 : Int32)), (7, .int (0 : Int32)), (6, .int (0 : Int32)), (5, .int (-1 : Int32)), (0, .ref (a 0)), (1, .int p1), (2, .int p2), (3, .int p3), (4, .int p4)]) hx hb dX5_goesTo_10 hl (by decide) rfl (fun ls hl => ?_)
  exact Lo12 1000 (-1 : Int32) (0 : Int32) (0 : Int32) (0 : Int32) _ _ _ hd (lv_sub hl [4, 5, 6, 7, 8, 3, 2, 1, 0] rfl) hP hS
-- LeastNeed$Valley.dayGoesBy()V
set_option maxRecDepth 20000 in
def nX5_dayGoesBy_i2_j64 (x1_64 : Int32) (x2_64 : Int32) (w0_64 : Int32) (w1_64 : Int32) (S_64 : Nat → Nat → Int32) : Option ((Int32 × (Nat → Nat → Int32)) ⊕ ((Nat → Nat → Int32))) := if w1_64 < 0 ∨ 5 ≤ w1_64.toNatClampNeg then none else if x2_64 = (-1 : Int32) then some (.inl ((x1_64 + (1 : Int32)), (k_w S_64 9 w1_64.toNatClampNeg w0_64))) else if x1_64 < 0 ∨ 5 ≤ x1_64.toNatClampNeg then none else some (.inl ((x1_64 + (1 : Int32)), (k_w (k_w S_64 9 w1_64.toNatClampNeg w0_64) 8 x1_64.toNatClampNeg x2_64)))
set_option maxRecDepth 20000 in
def nX5_dayGoesBy_l2 (x1_2 : Int32) (S_2 : Nat → Nat → Int32) : Option ((Int32 × (Nat → Nat → Int32)) ⊕ ((Nat → Nat → Int32))) := if (S_2 0 13) ≤ x1_2 then k_up (some (k_w S_2 0 14 ((S_2 0 14) + (1 : Int32)))) else if x1_2 < 0 ∨ 5 ≤ x1_2.toNatClampNeg then none else if (S_2 9 x1_2.toNatClampNeg) = 0 then some (.inl ((x1_2 + (1 : Int32)), S_2)) else if x1_2 < 0 ∨ 5 ≤ x1_2.toNatClampNeg then none else if x1_2 < 0 ∨ 5 ≤ x1_2.toNatClampNeg then none else if x1_2 < 0 ∨ 5 ≤ x1_2.toNatClampNeg then none else k_b1 (nX5_goesTo S_2 (S_2 5 x1_2.toNatClampNeg) (S_2 6 x1_2.toNatClampNeg) (S_2 8 x1_2.toNatClampNeg) (S_2 0 14)) (fun r45 => if r45 = (-1 : Int32) then nX5_dayGoesBy_i2_j64 x1_2 r45 (2 : Int32) x1_2 S_2 else nX5_dayGoesBy_i2_j64 x1_2 r45 (0 : Int32) x1_2 S_2)
set_option maxRecDepth 20000 in
def nX5_dayGoesBy (S : Nat → Nat → Int32) : Option ((Nat → Nat → Int32)) := k_it (fun st => nX5_dayGoesBy_l2 st.1 st.2) 1000 ((0 : Int32), S)
set_option maxHeartbeats 4000000 in
set_option maxRecDepth 100000 in
theorem mX5_dayGoesBy (l : Launch) (D : va_G) (cs : Nat → ClassId) (a : Nat → Nat) (S : Nat → Nat → Int32) (S9 : (Nat → Nat → Int32)) (hd : nX5_dayGoesBy S = some S9) : ∀ sz : Nat, Met l yX5_dayGoesBy wsX5_dayGoesBy ({ frames := 3, cells := 0, slots := 0, locals := 84 }) (k_Pc D cs [.ref (a 0)] (wX5 cs a S) sz) (k_Qv D (wX5 cs a S) (wX5 cs a S9) sz) 0 0 (va_A (wX5 cs a S) sz) := by
  intro sz
  refine Met.ofW (cc := cX5_dayGoesBy) (maxL := 3) (ret := none) (by decide) rfl ?_
  intro p e s m args below meth c s₁ B hml hv
  obtain ⟨rfl, hsz, hP, hK, hD0, hNn⟩ := hv
  have hx := B.exec
  have hb := B.bytes
  have hr := B.returns
  have hts := atoms_spec (ws := wsX5_dayGoesBy) B.pre
  have hown : s.vm.findClass RX5 = some m.cls := findClass_of_methodNamed B.named
  have hlocks := B.notSynchronized
  subst hsz
  obtain ⟨A, hAe⟩ : ∃ A : Nat → Prop, A = va_A (wX5 cs a S) s.heap.size := ⟨_, rfl⟩
  have hD : va_D A (wX5 cs a S) := by rw [hAe]; exact hD0.self
  have hA : ∀ q : Nat, s.heap.size ≤ q → A q := fun q h => by rw [hAe]; exact Or.inr h
  have hS : va_S A s.heap s.heap [] := va_S.rf
  have hDA : ∀ (S : Nat → Nat → Int32), va_D A (wX5 cs a S) := fun S => k_DA hD rfl
  have hl := lv_entry ([.ref (a 0)]) (n := 3) (Nat.le_of_ble_eq_true rfl)
  rw [lg_entry_eq]
  generalize (lg_sl ([.ref (a 0)]) ++ List.replicate (3 - (lg_sl ([.ref (a 0)])).length) Slot.unset).toArray = ls at hl ⊢
  have hl : lv_has ls 3 [(0, .ref (a 0))] := hl
  obtain ⟨Q, hQ⟩ : ∃ Q, Q = MQ below (k_Qv D (wX5 cs a S) (wX5 cs a S9) s.heap.size) ([.ref (a 0)] : List Value).toArray s 0 0 (va_A (wX5 cs a S) s.heap.size) := ⟨_, rfl⟩
  rw [← hQ]
  have Lo2 : ∀ (n1 : Nat) (x1_2 : Int32) (S_2 : Nat → Nat → Int32) (H : Heap) (locs : List Loc) (ls : Array Slot), k_it (fun st => nX5_dayGoesBy_l2 st.1 st.2) n1 (x1_2, S_2) = some S9 → lv_has ls 3 [(0, .ref (a 0)), (1, .int x1_2)] → va_P D vwCl (wX5 cs a S_2) H → va_S A s.heap H locs → W p l e (headSpec wsX5_dayGoesBy ({ frames := 3, cells := 0, slots := 0, locals := 84 })).room s m ([.ref (a 0)] : List Value).toArray below meth c H locs 0 0 Q (F0 m 2 ls []) := by
    intro n1
    induction n1 with
    | zero => intro x1_2 S_2 H locs ls hd; exact dn_it0 hd
    | succ n1 ih1 =>
      intro x1_2 S_2 H locs ls hd hl hP hS
      have hD := hDA S_2
      obtain ⟨y1, hd, hy1⟩ := dn_it hd
      have hd : nX5_dayGoesBy_l2 x1_2 S_2 = some y1 := hd
      have Jo64 : ∀ (x1_64 : Int32) (x2_64 : Int32) (w0_64 : Int32) (w1_64 : Int32) (S_64 : Nat → Nat → Int32) (H : Heap) (locs : List Loc) (ls : Array Slot), nX5_dayGoesBy_i2_j64 x1_64 x2_64 w0_64 w1_64 S_64 = some y1 → lv_has ls 3 [(0, .ref (a 0)), (1, .int x1_64), (2, .int x2_64)] → va_P D vwCl (wX5 cs a S_64) H → va_S A s.heap H locs → W p l e (headSpec wsX5_dayGoesBy ({ frames := 3, cells := 0, slots := 0, locals := 84 })).room s m ([.ref (a 0)] : List Value).toArray below meth c H locs 0 0 Q (F0 m 64 ls [.int w0_64, .int w1_64, .ref (a 9)]) := by
        intro x1_64 x2_64 w0_64 w1_64 S_64 H locs ls hd hl hP hS
        have hD := hDA S_64
        unfold nX5_dayGoesBy_i2_j64 at hd
        obtain ⟨hi64, hd⟩ := dn_i hd
        refine k_iast (D := D) (k := w1_64.toNatClampNeg) (by rfl) hx hb hK hP hD hS 9 1 rfl rfl hi64 dX5_dayGoesBy_64 (fun H locs hP hD hS => ?_)
        have hP : va_P D vwCl (wX5 cs a (k_w S_64 9 w1_64.toNatClampNeg w0_64)) _ := k_eq hP (wsX5_a9 cs a S_64 w1_64.toNatClampNeg w0_64)
        have hD := hDA (k_w S_64 9 w1_64.toNatClampNeg w0_64)
        refine lv_iload_n hx hb dX5_dayGoesBy_65 rfl (lv_at hl 2 rfl) ?_
        refine lv_iconst (v := (-1 : Int32)) hx hb dX5_dayGoesBy_66 (by decide) ?_
        refine lv_icmp_eq (tgt := 77) hx hb dX5_dayGoesBy_67 (by decide) (fun c67 => ?_) (fun c67 => ?_)
        · have hd := dn_t c67 hd
          refine lv_iinc (v := x1_64 + (1 : Int32)) (lv' := [(1, .int (x1_64 + (1 : Int32))), (0, .ref (a 0)), (2, .int x2_64)]) hx hb dX5_dayGoesBy_77 hl (k := 1) rfl rfl (by decide) rfl (fun ls hl => ?_)
          refine lv_goto (tgt := 2) hx hb dX5_dayGoesBy_80 (by decide) ?_
          exact ih1 (x1_64 + (1 : Int32)) (k_w S_64 9 w1_64.toNatClampNeg w0_64) _ _ _ (dn_bk hd hy1) (lv_sub hl [1, 0] rfl) hP hS
        · have hd := dn_f c67 hd
          refine lv_aload_n hx hb dX5_dayGoesBy_70 rfl (lv_at hl 0 rfl) ?_
          refine va_get (D := D) (ci := 3) (v := .ref (a 8)) (C := RX5) (T := TX5) (N := 15) hx hb hts (fun w h => List.mem_cons_of_mem _ (List.mem_append_right _ h)) hown hK hP 0 rfl rfl 7 (by decide) (hts (.fieldLink RX5 33 "LeastNeed$Valley" "holder" "[I") (List.mem_of_getElem? (i := 5) rfl)) (fun _ h9 => h9) rfl dX5_dayGoesBy_71 ?_
          refine lv_iload_n hx hb dX5_dayGoesBy_74 rfl (lv_at hl 1 rfl) ?_
          refine lv_iload_n hx hb dX5_dayGoesBy_75 rfl (lv_at hl 2 rfl) ?_
          obtain ⟨hi76, hd⟩ := dn_i hd
          refine k_iast (D := D) (k := x1_64.toNatClampNeg) (by rfl) hx hb hK hP hD hS 8 1 rfl rfl hi76 dX5_dayGoesBy_76 (fun H locs hP hD hS => ?_)
          have hP : va_P D vwCl (wX5 cs a (k_w (k_w S_64 9 w1_64.toNatClampNeg w0_64) 8 x1_64.toNatClampNeg x2_64)) _ := k_eq hP (wsX5_a8 cs a (k_w S_64 9 w1_64.toNatClampNeg w0_64) x1_64.toNatClampNeg x2_64)
          have hD := hDA (k_w (k_w S_64 9 w1_64.toNatClampNeg w0_64) 8 x1_64.toNatClampNeg x2_64)
          refine lv_iinc (v := x1_64 + (1 : Int32)) (lv' := [(1, .int (x1_64 + (1 : Int32))), (0, .ref (a 0)), (2, .int x2_64)]) hx hb dX5_dayGoesBy_77 hl (k := 1) rfl rfl (by decide) rfl (fun ls hl => ?_)
          refine lv_goto (tgt := 2) hx hb dX5_dayGoesBy_80 (by decide) ?_
          exact ih1 (x1_64 + (1 : Int32)) (k_w (k_w S_64 9 w1_64.toNatClampNeg w0_64) 8 x1_64.toNatClampNeg x2_64) _ _ _ (dn_bk hd hy1) (lv_sub hl [1, 0] rfl) hP hS
      unfold nX5_dayGoesBy_l2 at hd
      refine lv_iload_n hx hb dX5_dayGoesBy_2 rfl (lv_at hl 1 rfl) ?_
      refine lv_aload_n hx hb dX5_dayGoesBy_3 rfl (lv_at hl 0 rfl) ?_
      refine va_get (D := D) (ci := 3) (v := .int (S_2 0 13)) (C := RX5) (T := TX5) (N := 15) hx hb hts (fun w h => List.mem_cons_of_mem _ (List.mem_append_right _ h)) hown hK hP 0 rfl rfl 13 (by decide) (hts (.fieldLink RX5 58 "LeastNeed$Valley" "things" "I") (List.mem_of_getElem? (i := 1) rfl)) (fun _ h9 => h9) rfl dX5_dayGoesBy_4 ?_
      refine lv_icmp_ge (tgt := 83) hx hb dX5_dayGoesBy_7 (by decide) (fun c7 => ?_) (fun c7 => ?_)
      · have hd := dn_t c7 hd
        have hd := dn_up hd hy1
        refine lv_aload_n hx hb dX5_dayGoesBy_83 rfl (lv_at hl 0 rfl) ?_
        refine lv_dup hx hb dX5_dayGoesBy_84 rfl ?_
        refine va_get (D := D) (ci := 3) (v := .int (S_2 0 14)) (C := RX5) (T := TX5) (N := 15) hx hb hts (fun w h => List.mem_cons_of_mem _ (List.mem_append_right _ h)) hown hK hP 0 rfl rfl 14 (by decide) (hts (.fieldLink RX5 61 "LeastNeed$Valley" "today" "I") (List.mem_of_getElem? (i := 6) rfl)) (fun _ h9 => h9) rfl dX5_dayGoesBy_85 ?_
        refine lv_iconst (v := (1 : Int32)) hx hb dX5_dayGoesBy_88 (by decide) ?_
        refine lv_iadd hx hb dX5_dayGoesBy_89 ?_
        refine va_put (D := D) (ci := 3) (v := .int ((S_2 0 14) + (1 : Int32))) (ty := .int) (C := RX5) (T := TX5) (N := 15) hx hb hts (fun w h => List.mem_cons_of_mem _ (List.mem_append_right _ h)) tyX5 tyX5_ok nmX5 hown hK hP hD hS 0 rfl rfl 14 (by decide) (hts (.fieldLink RX5 61 "LeastNeed$Valley" "today" "I") (List.mem_of_getElem? (i := 6) rfl)) (fun _ h9 => h9) rfl (by decide +kernel) rfl rfl (Nat.le_of_ble_eq_true rfl) dX5_dayGoesBy_90 (fun H locs hP hD hS => ?_)
        have hP : va_P D vwCl (wX5 cs a (k_w S_2 0 14 ((S_2 0 14) + (1 : Int32)))) _ := k_eq hP (wsX5_f0_14 cs a S_2 ((S_2 0 14) + (1 : Int32)))
        have hD := hDA (k_w S_2 0 14 ((S_2 0 14) + (1 : Int32)))
        have e1 := dn_s1 hd
        exact k_vret hx hb hr hQ hAe (by rw [e1]) hP hS hlocks dX5_dayGoesBy_93
      · have hd := dn_f c7 hd
        refine lv_aload_n hx hb dX5_dayGoesBy_10 rfl (lv_at hl 0 rfl) ?_
        refine va_get (D := D) (ci := 3) (v := .ref (a 9)) (C := RX5) (T := TX5) (N := 15) hx hb hts (fun w h => List.mem_cons_of_mem _ (List.mem_append_right _ h)) hown hK hP 0 rfl rfl 8 (by decide) (hts (.fieldLink RX5 36 "LeastNeed$Valley" "place" "[I") (List.mem_of_getElem? (i := 2) rfl)) (fun _ h9 => h9) rfl dX5_dayGoesBy_11 ?_
        refine lv_iload_n hx hb dX5_dayGoesBy_14 rfl (lv_at hl 1 rfl) ?_
        obtain ⟨hi15, hd⟩ := dn_i hd
        refine k_iald (D := D) (k := x1_2.toNatClampNeg) (by rfl) hx hb hK hP 9 1 rfl rfl hi15 dX5_dayGoesBy_15 ?_
        refine lv_if_ne (tgt := 22) hx hb dX5_dayGoesBy_16 (by decide) (fun c16 => ?_) (fun c16 => ?_)
        · have hd := dn_f c16 hd
          refine lv_aload_n hx hb dX5_dayGoesBy_22 rfl (lv_at hl 0 rfl) ?_
          refine lv_aload_n hx hb dX5_dayGoesBy_23 rfl (lv_at hl 0 rfl) ?_
          refine va_get (D := D) (ci := 3) (v := .ref (a 5)) (C := RX5) (T := TX5) (N := 15) hx hb hts (fun w h => List.mem_cons_of_mem _ (List.mem_append_right _ h)) hown hK hP 0 rfl rfl 4 (by decide) (hts (.fieldLink RX5 24 "LeastNeed$Valley" "thingKind" "[I") (List.mem_of_getElem? (i := 3) rfl)) (fun _ h9 => h9) rfl dX5_dayGoesBy_24 ?_
          refine lv_iload_n hx hb dX5_dayGoesBy_27 rfl (lv_at hl 1 rfl) ?_
          obtain ⟨hi28, hd⟩ := dn_i hd
          refine k_iald (D := D) (k := x1_2.toNatClampNeg) (by rfl) hx hb hK hP 5 1 rfl rfl hi28 dX5_dayGoesBy_28 ?_
          refine lv_aload_n hx hb dX5_dayGoesBy_29 rfl (lv_at hl 0 rfl) ?_
          refine va_get (D := D) (ci := 3) (v := .ref (a 6)) (C := RX5) (T := TX5) (N := 15) hx hb hts (fun w h => List.mem_cons_of_mem _ (List.mem_append_right _ h)) hown hK hP 0 rfl rfl 5 (by decide) (hts (.fieldLink RX5 27 "LeastNeed$Valley" "sort" "[I") (List.mem_of_getElem? (i := 4) rfl)) (fun _ h9 => h9) rfl dX5_dayGoesBy_30 ?_
          refine lv_iload_n hx hb dX5_dayGoesBy_33 rfl (lv_at hl 1 rfl) ?_
          obtain ⟨hi34, hd⟩ := dn_i hd
          refine k_iald (D := D) (k := x1_2.toNatClampNeg) (by rfl) hx hb hK hP 6 1 rfl rfl hi34 dX5_dayGoesBy_34 ?_
          refine lv_aload_n hx hb dX5_dayGoesBy_35 rfl (lv_at hl 0 rfl) ?_
          refine va_get (D := D) (ci := 3) (v := .ref (a 8)) (C := RX5) (T := TX5) (N := 15) hx hb hts (fun w h => List.mem_cons_of_mem _ (List.mem_append_right _ h)) hown hK hP 0 rfl rfl 7 (by decide) (hts (.fieldLink RX5 33 "LeastNeed$Valley" "holder" "[I") (List.mem_of_getElem? (i := 5) rfl)) (fun _ h9 => h9) rfl dX5_dayGoesBy_36 ?_
          refine lv_iload_n hx hb dX5_dayGoesBy_39 rfl (lv_at hl 1 rfl) ?_
          obtain ⟨hi40, hd⟩ := dn_i hd
          refine k_iald (D := D) (k := x1_2.toNatClampNeg) (by rfl) hx hb hK hP 8 1 rfl rfl hi40 dX5_dayGoesBy_40 ?_
          refine lv_aload_n hx hb dX5_dayGoesBy_41 rfl (lv_at hl 0 rfl) ?_
          refine va_get (D := D) (ci := 3) (v := .int (S_2 0 14)) (C := RX5) (T := TX5) (N := 15) hx hb hts (fun w h => List.mem_cons_of_mem _ (List.mem_append_right _ h)) hown hK hP 0 rfl rfl 14 (by decide) (hts (.fieldLink RX5 61 "LeastNeed$Valley" "today" "I") (List.mem_of_getElem? (i := 6) rfl)) (fun _ h9 => h9) rfl dX5_dayGoesBy_42 ?_
          obtain ⟨r45, hq45, hd⟩ := dn_b1 hd
          have hF := k_self hD hS hA
          refine k_run_i (va_runV (As := [.int (S_2 5 x1_2.toNatClampNeg), .int (S_2 6 x1_2.toNatClampNeg), .int (S_2 8 x1_2.toNatClampNeg), .int (S_2 0 14)]) (rest := []) ⟨hx, hb, hml, hown, hts⟩ (mX5_goesTo l D cs a S_2 (S_2 5 x1_2.toNatClampNeg) (S_2 6 x1_2.toNatClampNeg) (S_2 8 x1_2.toNatClampNeg) (S_2 0 14) r45 hq45 _) (cwV 4 hts gX5_dayGoesBy_X5_goesTo rfl rfl rfl (by decide +kernel) ⟨Nat.le_of_ble_eq_true rfl, Nat.le_of_ble_eq_true rfl⟩) ⟨k_blind, va_recv hK hP (ci := 3) (q0 := 0) rfl rfl, k_pre hP hK hNn hD⟩ rfl rfl hl.1 rfl (lv_room (Nat.le_of_ble_eq_true rfl)) dX5_dayGoesBy_45 ⟨Nat.le_of_ble_eq_true rfl, Nat.le_of_ble_eq_true rfl⟩) hS hF (fun H locs hP1 hk hS => ?_)
          have hP : va_P D vwCl (wX5 cs a S_2) _ := hP1
          have hD := hDA S_2
          refine lv_istore_n (lv' := [(2, .int r45), (0, .ref (a 0)), (1, .int x1_2)]) hx hb dX5_dayGoesBy_48 rfl hl (by decide) rfl (fun ls hl => ?_)
          refine lv_aload_n hx hb dX5_dayGoesBy_49 rfl (lv_at hl 1 rfl) ?_
          refine va_get (D := D) (ci := 3) (v := .ref (a 9)) (C := RX5) (T := TX5) (N := 15) hx hb hts (fun w h => List.mem_cons_of_mem _ (List.mem_append_right _ h)) hown hK hP 0 rfl rfl 8 (by decide) (hts (.fieldLink RX5 36 "LeastNeed$Valley" "place" "[I") (List.mem_of_getElem? (i := 2) rfl)) (fun _ h9 => h9) rfl dX5_dayGoesBy_50 ?_
          refine lv_iload_n hx hb dX5_dayGoesBy_53 rfl (lv_at hl 2 rfl) ?_
          refine lv_iload_n hx hb dX5_dayGoesBy_54 rfl (lv_at hl 0 rfl) ?_
          refine lv_iconst (v := (-1 : Int32)) hx hb dX5_dayGoesBy_55 (by decide) ?_
          refine lv_icmp_ne (tgt := 63) hx hb dX5_dayGoesBy_56 (by decide) (fun c56 => ?_) (fun c56 => ?_)
          · have hd := dn_f c56 hd
            refine lv_iconst (v := (0 : Int32)) hx hb dX5_dayGoesBy_63 (by decide) ?_
            exact Jo64 x1_2 r45 (0 : Int32) x1_2 S_2 _ _ _ hd (lv_sub hl [1, 2, 0] rfl) hP hS
          · have hd := dn_t c56 hd
            refine lv_iconst (v := (2 : Int32)) hx hb dX5_dayGoesBy_59 (by decide) ?_
            refine lv_goto (tgt := 64) hx hb dX5_dayGoesBy_60 (by decide) ?_
            exact Jo64 x1_2 r45 (2 : Int32) x1_2 S_2 _ _ _ hd (lv_sub hl [1, 2, 0] rfl) hP hS
        · have hd := dn_t c16 hd
          refine lv_goto (tgt := 77) hx hb dX5_dayGoesBy_19 (by decide) ?_
          refine lv_iinc (v := x1_2 + (1 : Int32)) (lv' := [(1, .int (x1_2 + (1 : Int32))), (0, .ref (a 0))]) hx hb dX5_dayGoesBy_77 hl (k := 1) rfl rfl (by decide) rfl (fun ls hl => ?_)
          refine lv_goto (tgt := 2) hx hb dX5_dayGoesBy_80 (by decide) ?_
          exact ih1 (x1_2 + (1 : Int32)) S_2 _ _ _ (dn_bk hd hy1) (lv_sub hl [1, 0] rfl) hP hS
  unfold nX5_dayGoesBy at hd
  refine lv_iconst (v := (0 : Int32)) hx hb dX5_dayGoesBy_0 (by decide) ?_
  refine lv_istore_n (lv' := [(1, .int (0 : Int32)), (0, .ref (a 0))]) hx hb dX5_dayGoesBy_1 rfl hl (by decide) rfl (fun ls hl => ?_)
  exact Lo2 1000 (0 : Int32) S _ _ _ hd (lv_sub hl [1, 0] rfl) hP hS
-- LeastNeed$Valley.shown(III)I
set_option maxRecDepth 20000 in
def nX5_shown (S : Nat → Nat → Int32) (p1 : Int32) (p2 : Int32) (p3 : Int32) : Option (Int32) := if p1 < 0 ∨ 7 ≤ p1.toNatClampNeg then none else if (((4 : Int32) * p1) + p2) < 0 ∨ 28 ≤ (((4 : Int32) * p1) + p2).toNatClampNeg then none else if p1 < 0 ∨ 7 ≤ p1.toNatClampNeg then none else k_b1 (nX1_shown (S 1 p1.toNatClampNeg) (S 4 (((4 : Int32) * p1) + p2).toNatClampNeg) (S 3 p1.toNatClampNeg) p2 p3) (fun r24 => some r24)
set_option maxHeartbeats 4000000 in
set_option maxRecDepth 100000 in
theorem mX5_shown (l : Launch) (D : va_G) (cs : Nat → ClassId) (a : Nat → Nat) (S : Nat → Nat → Int32) (p1 : Int32) (p2 : Int32) (p3 : Int32) (r9 : Int32) (hd : nX5_shown S p1 p2 p3 = some r9) : ∀ sz : Nat, Met l yX5_shown wsX5_shown ({ frames := 1, cells := 0, slots := 0, locals := 27 }) (k_Pc D cs [.ref (a 0), .int p1, .int p2, .int p3] (wX5 cs a S) sz) (k_Qi D r9 (wX5 cs a S) (wX5 cs a S) sz) 0 0 (va_A (wX5 cs a S) sz) := by
  intro sz
  refine Met.ofW (cc := cX5_shown) (maxL := 4) (ret := (some .int)) (by decide) rfl ?_
  intro p e s m args below meth c s₁ B hml hv
  obtain ⟨rfl, hsz, hP, hK, hD0, hNn⟩ := hv
  have hx := B.exec
  have hb := B.bytes
  have hr := B.returns
  have hts := atoms_spec (ws := wsX5_shown) B.pre
  have hown : s.vm.findClass RX5 = some m.cls := findClass_of_methodNamed B.named
  have hlocks := B.notSynchronized
  subst hsz
  obtain ⟨A, hAe⟩ : ∃ A : Nat → Prop, A = va_A (wX5 cs a S) s.heap.size := ⟨_, rfl⟩
  have hD : va_D A (wX5 cs a S) := by rw [hAe]; exact hD0.self
  have hA : ∀ q : Nat, s.heap.size ≤ q → A q := fun q h => by rw [hAe]; exact Or.inr h
  have hS : va_S A s.heap s.heap [] := va_S.rf
  have hDA : ∀ (S : Nat → Nat → Int32), va_D A (wX5 cs a S) := fun S => k_DA hD rfl
  have hl := lv_entry ([.ref (a 0), .int p1, .int p2, .int p3]) (n := 4) (Nat.le_of_ble_eq_true rfl)
  rw [lg_entry_eq]
  generalize (lg_sl ([.ref (a 0), .int p1, .int p2, .int p3]) ++ List.replicate (4 - (lg_sl ([.ref (a 0), .int p1, .int p2, .int p3])).length) Slot.unset).toArray = ls at hl ⊢
  have hl : lv_has ls 4 [(0, .ref (a 0)), (1, .int p1), (2, .int p2), (3, .int p3)] := hl
  obtain ⟨Q, hQ⟩ : ∃ Q, Q = MQ below (k_Qi D r9 (wX5 cs a S) (wX5 cs a S) s.heap.size) ([.ref (a 0), .int p1, .int p2, .int p3] : List Value).toArray s 0 0 (va_A (wX5 cs a S) s.heap.size) := ⟨_, rfl⟩
  rw [← hQ]
  unfold nX5_shown at hd
  refine lv_aload_n hx hb dX5_shown_0 rfl (lv_at hl 0 rfl) ?_
  refine va_get (D := D) (ci := 3) (v := .ref (a 1)) (C := RX5) (T := TX5) (N := 15) hx hb hts (fun w h => List.mem_cons_of_mem _ (List.mem_append_right _ h)) hown hK hP 0 rfl rfl 0 (by decide) (hts (.fieldLink RX5 9 "LeastNeed$Valley" "kind" "[I") (List.mem_of_getElem? (i := 1) rfl)) (fun _ h9 => h9) rfl dX5_shown_1 ?_
  refine lv_iload_n hx hb dX5_shown_4 rfl (lv_at hl 1 rfl) ?_
  obtain ⟨hi5, hd⟩ := dn_i hd
  refine k_iald (D := D) (k := p1.toNatClampNeg) (by rfl) hx hb hK hP 1 1 rfl rfl hi5 dX5_shown_5 ?_
  refine lv_aload_n hx hb dX5_shown_6 rfl (lv_at hl 0 rfl) ?_
  refine va_get (D := D) (ci := 3) (v := .ref (a 4)) (C := RX5) (T := TX5) (N := 15) hx hb hts (fun w h => List.mem_cons_of_mem _ (List.mem_append_right _ h)) hown hK hP 0 rfl rfl 3 (by decide) (hts (.fieldLink RX5 21 "LeastNeed$Valley" "need" "[I") (List.mem_of_getElem? (i := 2) rfl)) (fun _ h9 => h9) rfl dX5_shown_7 ?_
  refine lv_iconst (v := (4 : Int32)) hx hb dX5_shown_10 (by decide) ?_
  refine lv_iload_n hx hb dX5_shown_11 rfl (lv_at hl 1 rfl) ?_
  refine lv_imul hx hb dX5_shown_12 ?_
  refine lv_iload_n hx hb dX5_shown_13 rfl (lv_at hl 2 rfl) ?_
  refine lv_iadd hx hb dX5_shown_14 ?_
  obtain ⟨hi15, hd⟩ := dn_i hd
  refine k_iald (D := D) (k := (((4 : Int32) * p1) + p2).toNatClampNeg) (by rfl) hx hb hK hP 4 1 rfl rfl hi15 dX5_shown_15 ?_
  refine lv_aload_n hx hb dX5_shown_16 rfl (lv_at hl 0 rfl) ?_
  refine va_get (D := D) (ci := 3) (v := .ref (a 3)) (C := RX5) (T := TX5) (N := 15) hx hb hts (fun w h => List.mem_cons_of_mem _ (List.mem_append_right _ h)) hown hK hP 0 rfl rfl 2 (by decide) (hts (.fieldLink RX5 18 "LeastNeed$Valley" "worn" "[I") (List.mem_of_getElem? (i := 3) rfl)) (fun _ h9 => h9) rfl dX5_shown_17 ?_
  refine lv_iload_n hx hb dX5_shown_20 rfl (lv_at hl 1 rfl) ?_
  obtain ⟨hi21, hd⟩ := dn_i hd
  refine k_iald (D := D) (k := p1.toNatClampNeg) (by rfl) hx hb hK hP 3 1 rfl rfl hi21 dX5_shown_21 ?_
  refine lv_iload_n hx hb dX5_shown_22 rfl (lv_at hl 2 rfl) ?_
  refine lv_iload_n hx hb dX5_shown_23 rfl (lv_at hl 3 rfl) ?_
  obtain ⟨r24, hq24, hd⟩ := dn_b1 hd
  have hPc := k_P0 hP
  have hDc : va_D A ([] : va_W) := k_D0
  have hF := k_self hDc hS hA
  refine k_run_i (va_runS (As := [.int (S 1 p1.toNatClampNeg), .int (S 4 (((4 : Int32) * p1) + p2).toNatClampNeg), .int (S 3 p1.toNatClampNeg), .int p2, .int p3]) (rest := []) ⟨hx, hb, hml, hown, hts⟩ (mX1_shown l D cs  (S 1 p1.toNatClampNeg) (S 4 (((4 : Int32) * p1) + p2).toNatClampNeg) (S 3 p1.toNatClampNeg) p2 p3 r24 hq24 _) (va_cwS 5 hts gX5_shown_X1_shown rfl rfl rfl (by decide +kernel) ⟨Nat.le_of_ble_eq_true rfl, Nat.le_of_ble_eq_true rfl⟩) ⟨k_blind, k_pre hPc hK hNn hDc⟩ rfl rfl hl.1 rfl (lv_room (Nat.le_of_ble_eq_true rfl)) dX5_shown_24 ⟨Nat.le_of_ble_eq_true rfl, Nat.le_of_ble_eq_true rfl⟩) hS hF (fun H locs hP1 hk hS => ?_)
  have hP : va_P D vwCl (wX5 cs a S) _ := k_keep hP hk
  have e1 := dn_s1 hd
  exact k_iret hx hb hr hQ hAe e1 rfl hP hS hlocks dX5_shown_27
-- LeastNeed$Valley.nextOf(II)I
set_option maxRecDepth 20000 in
def nX5_nextOf (S : Nat → Nat → Int32) (p1 : Int32) (p2 : Int32) : Option (Int32) := if p1 < 0 ∨ 5 ≤ p1.toNatClampNeg then none else if p1 < 0 ∨ 5 ≤ p1.toNatClampNeg then none else k_b1 (nX5_goesTo S (S 5 p1.toNatClampNeg) (S 6 p1.toNatClampNeg) p2 (S 0 14)) (fun r18 => some r18)
set_option maxHeartbeats 4000000 in
set_option maxRecDepth 100000 in
theorem mX5_nextOf (l : Launch) (D : va_G) (cs : Nat → ClassId) (a : Nat → Nat) (S : Nat → Nat → Int32) (p1 : Int32) (p2 : Int32) (r9 : Int32) (hd : nX5_nextOf S p1 p2 = some r9) : ∀ sz : Nat, Met l yX5_nextOf wsX5_nextOf ({ frames := 3, cells := 0, slots := 0, locals := 84 }) (k_Pc D cs [.ref (a 0), .int p1, .int p2] (wX5 cs a S) sz) (k_Qi D r9 (wX5 cs a S) (wX5 cs a S) sz) 0 0 (va_A (wX5 cs a S) sz) := by
  intro sz
  refine Met.ofW (cc := cX5_nextOf) (maxL := 3) (ret := (some .int)) (by decide) rfl ?_
  intro p e s m args below meth c s₁ B hml hv
  obtain ⟨rfl, hsz, hP, hK, hD0, hNn⟩ := hv
  have hx := B.exec
  have hb := B.bytes
  have hr := B.returns
  have hts := atoms_spec (ws := wsX5_nextOf) B.pre
  have hown : s.vm.findClass RX5 = some m.cls := findClass_of_methodNamed B.named
  have hlocks := B.notSynchronized
  subst hsz
  obtain ⟨A, hAe⟩ : ∃ A : Nat → Prop, A = va_A (wX5 cs a S) s.heap.size := ⟨_, rfl⟩
  have hD : va_D A (wX5 cs a S) := by rw [hAe]; exact hD0.self
  have hA : ∀ q : Nat, s.heap.size ≤ q → A q := fun q h => by rw [hAe]; exact Or.inr h
  have hS : va_S A s.heap s.heap [] := va_S.rf
  have hDA : ∀ (S : Nat → Nat → Int32), va_D A (wX5 cs a S) := fun S => k_DA hD rfl
  have hl := lv_entry ([.ref (a 0), .int p1, .int p2]) (n := 3) (Nat.le_of_ble_eq_true rfl)
  rw [lg_entry_eq]
  generalize (lg_sl ([.ref (a 0), .int p1, .int p2]) ++ List.replicate (3 - (lg_sl ([.ref (a 0), .int p1, .int p2])).length) Slot.unset).toArray = ls at hl ⊢
  have hl : lv_has ls 3 [(0, .ref (a 0)), (1, .int p1), (2, .int p2)] := hl
  obtain ⟨Q, hQ⟩ : ∃ Q, Q = MQ below (k_Qi D r9 (wX5 cs a S) (wX5 cs a S) s.heap.size) ([.ref (a 0), .int p1, .int p2] : List Value).toArray s 0 0 (va_A (wX5 cs a S) s.heap.size) := ⟨_, rfl⟩
  rw [← hQ]
  unfold nX5_nextOf at hd
  refine lv_aload_n hx hb dX5_nextOf_0 rfl (lv_at hl 0 rfl) ?_
  refine lv_aload_n hx hb dX5_nextOf_1 rfl (lv_at hl 0 rfl) ?_
  refine va_get (D := D) (ci := 3) (v := .ref (a 5)) (C := RX5) (T := TX5) (N := 15) hx hb hts (fun w h => List.mem_cons_of_mem _ (List.mem_append_right _ h)) hown hK hP 0 rfl rfl 4 (by decide) (hts (.fieldLink RX5 24 "LeastNeed$Valley" "thingKind" "[I") (List.mem_of_getElem? (i := 1) rfl)) (fun _ h9 => h9) rfl dX5_nextOf_2 ?_
  refine lv_iload_n hx hb dX5_nextOf_5 rfl (lv_at hl 1 rfl) ?_
  obtain ⟨hi6, hd⟩ := dn_i hd
  refine k_iald (D := D) (k := p1.toNatClampNeg) (by rfl) hx hb hK hP 5 1 rfl rfl hi6 dX5_nextOf_6 ?_
  refine lv_aload_n hx hb dX5_nextOf_7 rfl (lv_at hl 0 rfl) ?_
  refine va_get (D := D) (ci := 3) (v := .ref (a 6)) (C := RX5) (T := TX5) (N := 15) hx hb hts (fun w h => List.mem_cons_of_mem _ (List.mem_append_right _ h)) hown hK hP 0 rfl rfl 5 (by decide) (hts (.fieldLink RX5 27 "LeastNeed$Valley" "sort" "[I") (List.mem_of_getElem? (i := 2) rfl)) (fun _ h9 => h9) rfl dX5_nextOf_8 ?_
  refine lv_iload_n hx hb dX5_nextOf_11 rfl (lv_at hl 1 rfl) ?_
  obtain ⟨hi12, hd⟩ := dn_i hd
  refine k_iald (D := D) (k := p1.toNatClampNeg) (by rfl) hx hb hK hP 6 1 rfl rfl hi12 dX5_nextOf_12 ?_
  refine lv_iload_n hx hb dX5_nextOf_13 rfl (lv_at hl 2 rfl) ?_
  refine lv_aload_n hx hb dX5_nextOf_14 rfl (lv_at hl 0 rfl) ?_
  refine va_get (D := D) (ci := 3) (v := .int (S 0 14)) (C := RX5) (T := TX5) (N := 15) hx hb hts (fun w h => List.mem_cons_of_mem _ (List.mem_append_right _ h)) hown hK hP 0 rfl rfl 14 (by decide) (hts (.fieldLink RX5 61 "LeastNeed$Valley" "today" "I") (List.mem_of_getElem? (i := 3) rfl)) (fun _ h9 => h9) rfl dX5_nextOf_15 ?_
  obtain ⟨r18, hq18, hd⟩ := dn_b1 hd
  have hF := k_self hD hS hA
  refine k_run_i (va_runV (As := [.int (S 5 p1.toNatClampNeg), .int (S 6 p1.toNatClampNeg), .int p2, .int (S 0 14)]) (rest := []) ⟨hx, hb, hml, hown, hts⟩ (mX5_goesTo l D cs a S (S 5 p1.toNatClampNeg) (S 6 p1.toNatClampNeg) p2 (S 0 14) r18 hq18 _) (cwV 4 hts gX5_nextOf_X5_goesTo rfl rfl rfl (by decide +kernel) ⟨Nat.le_of_ble_eq_true rfl, Nat.le_of_ble_eq_true rfl⟩) ⟨k_blind, va_recv hK hP (ci := 3) (q0 := 0) rfl rfl, k_pre hP hK hNn hD⟩ rfl rfl hl.1 rfl (lv_room (Nat.le_of_ble_eq_true rfl)) dX5_nextOf_18 ⟨Nat.le_of_ble_eq_true rfl, Nat.le_of_ble_eq_true rfl⟩) hS hF (fun H locs hP1 hk hS => ?_)
  have hP : va_P D vwCl (wX5 cs a S) _ := hP1
  have hD := hDA S
  have e1 := dn_s1 hd
  exact k_iret hx hb hr hQ hAe e1 rfl hP hS hlocks dX5_nextOf_21
-- LeastNeed$Valley.isAway(I)Z
set_option maxRecDepth 20000 in
def nX5_isAway (S : Nat → Nat → Int32) (p1 : Int32) : Option (Int32) := if p1 < 0 ∨ 5 ≤ p1.toNatClampNeg then none else if (S 9 p1.toNatClampNeg) = 0 then if p1 < 0 ∨ 5 ≤ p1.toNatClampNeg then none else if p1 < 0 ∨ 5 ≤ p1.toNatClampNeg then none else if (S 8 p1.toNatClampNeg) = (S 7 p1.toNatClampNeg) then some (0 : Int32) else some (1 : Int32) else some (0 : Int32)
set_option maxHeartbeats 4000000 in
set_option maxRecDepth 100000 in
theorem mX5_isAway (l : Launch) (D : va_G) (cs : Nat → ClassId) (a : Nat → Nat) (S : Nat → Nat → Int32) (p1 : Int32) (r9 : Int32) (hd : nX5_isAway S p1 = some r9) : ∀ sz : Nat, Met l yX5_isAway wsX5_isAway ({ frames := 0, cells := 0, slots := 0, locals := 0 }) (k_Pc D cs [.ref (a 0), .int p1] (wX5 cs a S) sz) (k_Qi D r9 (wX5 cs a S) (wX5 cs a S) sz) 0 0 (va_A (wX5 cs a S) sz) := by
  intro sz
  refine Met.ofW (cc := cX5_isAway) (maxL := 2) (ret := (some .boolean)) (by decide) rfl ?_
  intro p e s m args below meth c s₁ B hml hv
  obtain ⟨rfl, hsz, hP, hK, hD0, hNn⟩ := hv
  have hx := B.exec
  have hb := B.bytes
  have hr := B.returns
  have hts := atoms_spec (ws := wsX5_isAway) B.pre
  have hown : s.vm.findClass RX5 = some m.cls := findClass_of_methodNamed B.named
  have hlocks := B.notSynchronized
  subst hsz
  obtain ⟨A, hAe⟩ : ∃ A : Nat → Prop, A = va_A (wX5 cs a S) s.heap.size := ⟨_, rfl⟩
  have hD : va_D A (wX5 cs a S) := by rw [hAe]; exact hD0.self
  have hA : ∀ q : Nat, s.heap.size ≤ q → A q := fun q h => by rw [hAe]; exact Or.inr h
  have hS : va_S A s.heap s.heap [] := va_S.rf
  have hDA : ∀ (S : Nat → Nat → Int32), va_D A (wX5 cs a S) := fun S => k_DA hD rfl
  have hl := lv_entry ([.ref (a 0), .int p1]) (n := 2) (Nat.le_of_ble_eq_true rfl)
  rw [lg_entry_eq]
  generalize (lg_sl ([.ref (a 0), .int p1]) ++ List.replicate (2 - (lg_sl ([.ref (a 0), .int p1])).length) Slot.unset).toArray = ls at hl ⊢
  have hl : lv_has ls 2 [(0, .ref (a 0)), (1, .int p1)] := hl
  obtain ⟨Q, hQ⟩ : ∃ Q, Q = MQ below (k_Qi D r9 (wX5 cs a S) (wX5 cs a S) s.heap.size) ([.ref (a 0), .int p1] : List Value).toArray s 0 0 (va_A (wX5 cs a S) s.heap.size) := ⟨_, rfl⟩
  rw [← hQ]
  unfold nX5_isAway at hd
  refine lv_aload_n hx hb dX5_isAway_0 rfl (lv_at hl 0 rfl) ?_
  refine va_get (D := D) (ci := 3) (v := .ref (a 9)) (C := RX5) (T := TX5) (N := 15) hx hb hts (fun w h => List.mem_cons_of_mem _ (List.mem_append_right _ h)) hown hK hP 0 rfl rfl 8 (by decide) (hts (.fieldLink RX5 36 "LeastNeed$Valley" "place" "[I") (List.mem_of_getElem? (i := 1) rfl)) (fun _ h9 => h9) rfl dX5_isAway_1 ?_
  refine lv_iload_n hx hb dX5_isAway_4 rfl (lv_at hl 1 rfl) ?_
  obtain ⟨hi5, hd⟩ := dn_i hd
  refine k_iald (D := D) (k := p1.toNatClampNeg) (by rfl) hx hb hK hP 9 1 rfl rfl hi5 dX5_isAway_5 ?_
  refine lv_if_ne (tgt := 28) hx hb dX5_isAway_6 (by decide) (fun c6 => ?_) (fun c6 => ?_)
  · have hd := dn_f c6 hd
    refine lv_iconst (v := (0 : Int32)) hx hb dX5_isAway_28 (by decide) ?_
    have e1 := dn_s1 hd
    exact k_zret hx hb hr rfl hQ hAe e1 rfl hP hS hlocks dX5_isAway_29
  · have hd := dn_t c6 hd
    refine lv_aload_n hx hb dX5_isAway_9 rfl (lv_at hl 0 rfl) ?_
    refine va_get (D := D) (ci := 3) (v := .ref (a 8)) (C := RX5) (T := TX5) (N := 15) hx hb hts (fun w h => List.mem_cons_of_mem _ (List.mem_append_right _ h)) hown hK hP 0 rfl rfl 7 (by decide) (hts (.fieldLink RX5 33 "LeastNeed$Valley" "holder" "[I") (List.mem_of_getElem? (i := 2) rfl)) (fun _ h9 => h9) rfl dX5_isAway_10 ?_
    refine lv_iload_n hx hb dX5_isAway_13 rfl (lv_at hl 1 rfl) ?_
    obtain ⟨hi14, hd⟩ := dn_i hd
    refine k_iald (D := D) (k := p1.toNatClampNeg) (by rfl) hx hb hK hP 8 1 rfl rfl hi14 dX5_isAway_14 ?_
    refine lv_aload_n hx hb dX5_isAway_15 rfl (lv_at hl 0 rfl) ?_
    refine va_get (D := D) (ci := 3) (v := .ref (a 7)) (C := RX5) (T := TX5) (N := 15) hx hb hts (fun w h => List.mem_cons_of_mem _ (List.mem_append_right _ h)) hown hK hP 0 rfl rfl 6 (by decide) (hts (.fieldLink RX5 30 "LeastNeed$Valley" "owner" "[I") (List.mem_of_getElem? (i := 3) rfl)) (fun _ h9 => h9) rfl dX5_isAway_16 ?_
    refine lv_iload_n hx hb dX5_isAway_19 rfl (lv_at hl 1 rfl) ?_
    obtain ⟨hi20, hd⟩ := dn_i hd
    refine k_iald (D := D) (k := p1.toNatClampNeg) (by rfl) hx hb hK hP 7 1 rfl rfl hi20 dX5_isAway_20 ?_
    refine lv_icmp_eq (tgt := 28) hx hb dX5_isAway_21 (by decide) (fun c21 => ?_) (fun c21 => ?_)
    · have hd := dn_t c21 hd
      refine lv_iconst (v := (0 : Int32)) hx hb dX5_isAway_28 (by decide) ?_
      have e1 := dn_s1 hd
      exact k_zret hx hb hr rfl hQ hAe e1 rfl hP hS hlocks dX5_isAway_29
    · have hd := dn_f c21 hd
      refine lv_iconst (v := (1 : Int32)) hx hb dX5_isAway_24 (by decide) ?_
      refine lv_goto (tgt := 29) hx hb dX5_isAway_25 (by decide) ?_
      have e1 := dn_s1 hd
      exact k_zret hx hb hr rfl hQ hAe e1 rfl hP hS hlocks dX5_isAway_29
-- LeastNeed$PeopleKinds.asked(II)I
set_option maxRecDepth 20000 in
def nX1_asked (p0 : Int32) (p1 : Int32) : Option (Int32) := if p0 = (1 : Int32) then some ((2 : Int32) * (if (0 : Int32) < ((9 : Int32) - p1) then ((9 : Int32) - p1) else (0 : Int32))) else if p0 = (2 : Int32) then some (if (0 : Int32) < ((9 : Int32) - p1) then ((9 : Int32) - p1) else (0 : Int32)) else if p0 = (3 : Int32) then some (if (0 : Int32) < ((9 : Int32) - p1) then ((9 : Int32) - p1) else (0 : Int32)) else if p0 = (4 : Int32) then some (((2 : Int32) * (if (0 : Int32) < ((9 : Int32) - p1) then ((9 : Int32) - p1) else (0 : Int32))) + (3 : Int32)) else if p0 = (5 : Int32) then some (0 : Int32) else some (if (0 : Int32) < ((9 : Int32) - p1) then ((9 : Int32) - p1) else (0 : Int32))
set_option maxHeartbeats 4000000 in
set_option maxRecDepth 100000 in
theorem mX1_asked (l : Launch) (D : va_G) (cs : Nat → ClassId) (p0 : Int32) (p1 : Int32) (r9 : Int32) (hd : nX1_asked p0 p1 = some r9) : ∀ sz : Nat, Met l yX1_asked wsX1_asked ({ frames := 1, cells := 0, slots := 0, locals := 23 }) (k_Pc D cs [.int p0, .int p1] ([] : va_W) sz) (k_Qi D r9 ([] : va_W) ([] : va_W) sz) 0 0 (va_A ([] : va_W) sz) := by
  intro sz
  refine Met.ofW (cc := cX1_asked) (maxL := 4) (ret := (some .int)) (by decide) rfl ?_
  intro p e s m args below meth c s₁ B hml hv
  obtain ⟨rfl, hsz, hP, hK, hD0, hNn⟩ := hv
  have hx := B.exec
  have hb := B.bytes
  have hr := B.returns
  have hts := atoms_spec (ws := wsX1_asked) B.pre
  have hown : s.vm.findClass RX1 = some m.cls := findClass_of_methodNamed B.named
  have hlocks := B.notSynchronized
  subst hsz
  obtain ⟨A, hAe⟩ : ∃ A : Nat → Prop, A = va_A ([] : va_W) s.heap.size := ⟨_, rfl⟩
  have hD : va_D A ([] : va_W) := by rw [hAe]; exact hD0.self
  have hA : ∀ q : Nat, s.heap.size ≤ q → A q := fun q h => by rw [hAe]; exact Or.inr h
  have hS : va_S A s.heap s.heap [] := va_S.rf
  have hl := lv_entry ([.int p0, .int p1]) (n := 4) (Nat.le_of_ble_eq_true rfl)
  rw [lg_entry_eq]
  generalize (lg_sl ([.int p0, .int p1]) ++ List.replicate (4 - (lg_sl ([.int p0, .int p1])).length) Slot.unset).toArray = ls at hl ⊢
  have hl : lv_has ls 4 [(0, .int p0), (1, .int p1)] := hl
  obtain ⟨Q, hQ⟩ : ∃ Q, Q = MQ below (k_Qi D r9 ([] : va_W) ([] : va_W) s.heap.size) ([.int p0, .int p1] : List Value).toArray s 0 0 (va_A ([] : va_W) s.heap.size) := ⟨_, rfl⟩
  rw [← hQ]
  unfold nX1_asked at hd
  refine lv_iconst (v := (0 : Int32)) hx hb dX1_asked_0 (by decide) ?_
  refine lv_bipush (v := (9 : Int32)) hx hb dX1_asked_1 (by decide) ?_
  refine lv_iload_n hx hb dX1_asked_3 rfl (lv_at hl 1 rfl) ?_
  refine lv_isub hx hb dX1_asked_4 ?_
  refine va_mmax hx hb (hml.trans hl.1.symm) hown (hts (.methodLink RX1 7 Lib.Math.max.name) (List.mem_of_getElem? (i := 1) rfl)) (hts (.static Lib.Math.max.name) (List.mem_of_getElem? (i := 2) rfl)) (hts (.initialized "java/lang/Math") (List.mem_of_getElem? (i := 3) rfl)) (hts (.code Lib.Math.max.name Lib.Math.max.code 2 (some .int)) (List.mem_of_getElem? (i := 4) rfl)) (Nat.le_of_ble_eq_true rfl) (Nat.le_of_ble_eq_true rfl) (Nat.le_of_ble_eq_true rfl) (Nat.le_of_ble_eq_true rfl) dX1_asked_5 ?_
  refine lv_istore_n (lv' := [(2, .int (if (0 : Int32) < ((9 : Int32) - p1) then ((9 : Int32) - p1) else (0 : Int32))), (0, .int p0), (1, .int p1)]) hx hb dX1_asked_8 rfl hl (by decide) rfl (fun ls hl => ?_)
  refine lv_iconst (v := (2 : Int32)) hx hb dX1_asked_9 (by decide) ?_
  refine lv_iload_n hx hb dX1_asked_10 rfl (lv_at hl 0 rfl) ?_
  refine lv_imul hx hb dX1_asked_11 ?_
  refine lv_istore_n (lv' := [(3, .int ((2 : Int32) * (if (0 : Int32) < ((9 : Int32) - p1) then ((9 : Int32) - p1) else (0 : Int32)))), (2, .int (if (0 : Int32) < ((9 : Int32) - p1) then ((9 : Int32) - p1) else (0 : Int32))), (0, .int p0), (1, .int p1)]) hx hb dX1_asked_12 rfl hl (by decide) rfl (fun ls hl => ?_)
  refine lv_iload_n hx hb dX1_asked_13 rfl (lv_at hl 2 rfl) ?_
  by_cases e14_1 : p0 = (1 : Int32)
  · have hd := dn_t e14_1 hd
    refine lv_tableIn (off := 34) (tgt := 48) hx hb dX1_asked_14 (by rw [e14_1]; decide) (by rw [e14_1]; decide) (by rw [e14_1]; rfl) (by decide) ?_
    refine lv_iload_n hx hb dX1_asked_48 rfl (lv_at hl 0 rfl) ?_
    have e1 := dn_s1 hd
    exact k_iret hx hb hr hQ hAe e1 rfl hP hS hlocks dX1_asked_49
  · have hd := dn_f e14_1 hd
    by_cases e14_2 : p0 = (2 : Int32)
    · have hd := dn_t e14_2 hd
      refine lv_tableIn (off := 42) (tgt := 56) hx hb dX1_asked_14 (by rw [e14_2]; decide) (by rw [e14_2]; decide) (by rw [e14_2]; rfl) (by decide) ?_
      refine lv_iload_n hx hb dX1_asked_56 rfl (lv_at hl 1 rfl) ?_
      have e1 := dn_s1 hd
      exact k_iret hx hb hr hQ hAe e1 rfl hP hS hlocks dX1_asked_57
    · have hd := dn_f e14_2 hd
      by_cases e14_3 : p0 = (3 : Int32)
      · have hd := dn_t e14_3 hd
        refine lv_tableIn (off := 42) (tgt := 56) hx hb dX1_asked_14 (by rw [e14_3]; decide) (by rw [e14_3]; decide) (by rw [e14_3]; rfl) (by decide) ?_
        refine lv_iload_n hx hb dX1_asked_56 rfl (lv_at hl 1 rfl) ?_
        have e1 := dn_s1 hd
        exact k_iret hx hb hr hQ hAe e1 rfl hP hS hlocks dX1_asked_57
      · have hd := dn_f e14_3 hd
        by_cases e14_4 : p0 = (4 : Int32)
        · have hd := dn_t e14_4 hd
          refine lv_tableIn (off := 36) (tgt := 50) hx hb dX1_asked_14 (by rw [e14_4]; decide) (by rw [e14_4]; decide) (by rw [e14_4]; rfl) (by decide) ?_
          refine lv_iload_n hx hb dX1_asked_50 rfl (lv_at hl 0 rfl) ?_
          refine lv_iconst (v := (3 : Int32)) hx hb dX1_asked_51 (by decide) ?_
          refine lv_iadd hx hb dX1_asked_52 ?_
          have e1 := dn_s1 hd
          exact k_iret hx hb hr hQ hAe e1 rfl hP hS hlocks dX1_asked_53
        · have hd := dn_f e14_4 hd
          by_cases e14_5 : p0 = (5 : Int32)
          · have hd := dn_t e14_5 hd
            refine lv_tableIn (off := 40) (tgt := 54) hx hb dX1_asked_14 (by rw [e14_5]; decide) (by rw [e14_5]; decide) (by rw [e14_5]; rfl) (by decide) ?_
            refine lv_iconst (v := (0 : Int32)) hx hb dX1_asked_54 (by decide) ?_
            have e1 := dn_s1 hd
            exact k_iret hx hb hr hQ hAe e1 rfl hP hS hlocks dX1_asked_55
          · have hd := dn_f e14_5 hd
            refine lv_tableOut (tgt := 56) hx hb dX1_asked_14 (by have q1 := lv_neT e14_1 (a := 1) (by decide); have q2 := lv_neT e14_2 (a := 2) (by decide); have q3 := lv_neT e14_3 (a := 3) (by decide); have q4 := lv_neT e14_4 (a := 4) (by decide); have q5 := lv_neT e14_5 (a := 5) (by decide); omega) (by decide) ?_
            refine lv_iload_n hx hb dX1_asked_56 rfl (lv_at hl 1 rfl) ?_
            have e1 := dn_s1 hd
            exact k_iret hx hb hr hQ hAe e1 rfl hP hS hlocks dX1_asked_57
-- LeastNeed$Valley.askedFor(I)I
set_option maxRecDepth 20000 in
def nX5_askedFor (S : Nat → Nat → Int32) (p1 : Int32) : Option (Int32) := if p1 < 0 ∨ 5 ≤ p1.toNatClampNeg then none else if (S 8 p1.toNatClampNeg) < 0 ∨ 7 ≤ (S 8 p1.toNatClampNeg).toNatClampNeg then none else if p1 < 0 ∨ 5 ≤ p1.toNatClampNeg then none else if p1 < 0 ∨ 5 ≤ p1.toNatClampNeg then none else k_b1 (nX5_shown S (S 8 p1.toNatClampNeg) (S 6 p1.toNatClampNeg) (S 0 14)) (fun r28 => k_b1 (nX1_asked (S 1 (S 8 p1.toNatClampNeg).toNatClampNeg) r28) (fun r31 => some r31))
set_option maxHeartbeats 4000000 in
set_option maxRecDepth 100000 in
theorem mX5_askedFor (l : Launch) (D : va_G) (cs : Nat → ClassId) (a : Nat → Nat) (S : Nat → Nat → Int32) (p1 : Int32) (r9 : Int32) (hd : nX5_askedFor S p1 = some r9) : ∀ sz : Nat, Met l yX5_askedFor wsX5_askedFor ({ frames := 2, cells := 0, slots := 0, locals := 50 }) (k_Pc D cs [.ref (a 0), .int p1] (wX5 cs a S) sz) (k_Qi D r9 (wX5 cs a S) (wX5 cs a S) sz) 0 0 (va_A (wX5 cs a S) sz) := by
  intro sz
  refine Met.ofW (cc := cX5_askedFor) (maxL := 2) (ret := (some .int)) (by decide) rfl ?_
  intro p e s m args below meth c s₁ B hml hv
  obtain ⟨rfl, hsz, hP, hK, hD0, hNn⟩ := hv
  have hx := B.exec
  have hb := B.bytes
  have hr := B.returns
  have hts := atoms_spec (ws := wsX5_askedFor) B.pre
  have hown : s.vm.findClass RX5 = some m.cls := findClass_of_methodNamed B.named
  have hlocks := B.notSynchronized
  subst hsz
  obtain ⟨A, hAe⟩ : ∃ A : Nat → Prop, A = va_A (wX5 cs a S) s.heap.size := ⟨_, rfl⟩
  have hD : va_D A (wX5 cs a S) := by rw [hAe]; exact hD0.self
  have hA : ∀ q : Nat, s.heap.size ≤ q → A q := fun q h => by rw [hAe]; exact Or.inr h
  have hS : va_S A s.heap s.heap [] := va_S.rf
  have hDA : ∀ (S : Nat → Nat → Int32), va_D A (wX5 cs a S) := fun S => k_DA hD rfl
  have hl := lv_entry ([.ref (a 0), .int p1]) (n := 2) (Nat.le_of_ble_eq_true rfl)
  rw [lg_entry_eq]
  generalize (lg_sl ([.ref (a 0), .int p1]) ++ List.replicate (2 - (lg_sl ([.ref (a 0), .int p1])).length) Slot.unset).toArray = ls at hl ⊢
  have hl : lv_has ls 2 [(0, .ref (a 0)), (1, .int p1)] := hl
  obtain ⟨Q, hQ⟩ : ∃ Q, Q = MQ below (k_Qi D r9 (wX5 cs a S) (wX5 cs a S) s.heap.size) ([.ref (a 0), .int p1] : List Value).toArray s 0 0 (va_A (wX5 cs a S) s.heap.size) := ⟨_, rfl⟩
  rw [← hQ]
  unfold nX5_askedFor at hd
  refine lv_aload_n hx hb dX5_askedFor_0 rfl (lv_at hl 0 rfl) ?_
  refine va_get (D := D) (ci := 3) (v := .ref (a 1)) (C := RX5) (T := TX5) (N := 15) hx hb hts (fun w h => List.mem_cons_of_mem _ (List.mem_append_right _ h)) hown hK hP 0 rfl rfl 0 (by decide) (hts (.fieldLink RX5 9 "LeastNeed$Valley" "kind" "[I") (List.mem_of_getElem? (i := 1) rfl)) (fun _ h9 => h9) rfl dX5_askedFor_1 ?_
  refine lv_aload_n hx hb dX5_askedFor_4 rfl (lv_at hl 0 rfl) ?_
  refine va_get (D := D) (ci := 3) (v := .ref (a 8)) (C := RX5) (T := TX5) (N := 15) hx hb hts (fun w h => List.mem_cons_of_mem _ (List.mem_append_right _ h)) hown hK hP 0 rfl rfl 7 (by decide) (hts (.fieldLink RX5 33 "LeastNeed$Valley" "holder" "[I") (List.mem_of_getElem? (i := 2) rfl)) (fun _ h9 => h9) rfl dX5_askedFor_5 ?_
  refine lv_iload_n hx hb dX5_askedFor_8 rfl (lv_at hl 1 rfl) ?_
  obtain ⟨hi9, hd⟩ := dn_i hd
  refine k_iald (D := D) (k := p1.toNatClampNeg) (by rfl) hx hb hK hP 8 1 rfl rfl hi9 dX5_askedFor_9 ?_
  obtain ⟨hi10, hd⟩ := dn_i hd
  refine k_iald (D := D) (k := (S 8 p1.toNatClampNeg).toNatClampNeg) (by rfl) hx hb hK hP 1 1 rfl rfl hi10 dX5_askedFor_10 ?_
  refine lv_aload_n hx hb dX5_askedFor_11 rfl (lv_at hl 0 rfl) ?_
  refine lv_aload_n hx hb dX5_askedFor_12 rfl (lv_at hl 0 rfl) ?_
  refine va_get (D := D) (ci := 3) (v := .ref (a 8)) (C := RX5) (T := TX5) (N := 15) hx hb hts (fun w h => List.mem_cons_of_mem _ (List.mem_append_right _ h)) hown hK hP 0 rfl rfl 7 (by decide) (hts (.fieldLink RX5 33 "LeastNeed$Valley" "holder" "[I") (List.mem_of_getElem? (i := 2) rfl)) (fun _ h9 => h9) rfl dX5_askedFor_13 ?_
  refine lv_iload_n hx hb dX5_askedFor_16 rfl (lv_at hl 1 rfl) ?_
  obtain ⟨hi17, hd⟩ := dn_i hd
  refine k_iald (D := D) (k := p1.toNatClampNeg) (by rfl) hx hb hK hP 8 1 rfl rfl hi17 dX5_askedFor_17 ?_
  refine lv_aload_n hx hb dX5_askedFor_18 rfl (lv_at hl 0 rfl) ?_
  refine va_get (D := D) (ci := 3) (v := .ref (a 6)) (C := RX5) (T := TX5) (N := 15) hx hb hts (fun w h => List.mem_cons_of_mem _ (List.mem_append_right _ h)) hown hK hP 0 rfl rfl 5 (by decide) (hts (.fieldLink RX5 27 "LeastNeed$Valley" "sort" "[I") (List.mem_of_getElem? (i := 3) rfl)) (fun _ h9 => h9) rfl dX5_askedFor_19 ?_
  refine lv_iload_n hx hb dX5_askedFor_22 rfl (lv_at hl 1 rfl) ?_
  obtain ⟨hi23, hd⟩ := dn_i hd
  refine k_iald (D := D) (k := p1.toNatClampNeg) (by rfl) hx hb hK hP 6 1 rfl rfl hi23 dX5_askedFor_23 ?_
  refine lv_aload_n hx hb dX5_askedFor_24 rfl (lv_at hl 0 rfl) ?_
  refine va_get (D := D) (ci := 3) (v := .int (S 0 14)) (C := RX5) (T := TX5) (N := 15) hx hb hts (fun w h => List.mem_cons_of_mem _ (List.mem_append_right _ h)) hown hK hP 0 rfl rfl 14 (by decide) (hts (.fieldLink RX5 61 "LeastNeed$Valley" "today" "I") (List.mem_of_getElem? (i := 4) rfl)) (fun _ h9 => h9) rfl dX5_askedFor_25 ?_
  obtain ⟨r28, hq28, hd⟩ := dn_b1 hd
  have hF := k_self hD hS hA
  refine k_run_i (va_runV (As := [.int (S 8 p1.toNatClampNeg), .int (S 6 p1.toNatClampNeg), .int (S 0 14)]) (rest := [.int (S 1 (S 8 p1.toNatClampNeg).toNatClampNeg)]) ⟨hx, hb, hml, hown, hts⟩ (mX5_shown l D cs a S (S 8 p1.toNatClampNeg) (S 6 p1.toNatClampNeg) (S 0 14) r28 hq28 _) (cwV 3 hts gX5_askedFor_X5_shown rfl rfl rfl (by decide +kernel) ⟨Nat.le_of_ble_eq_true rfl, Nat.le_of_ble_eq_true rfl⟩) ⟨k_blind, va_recv hK hP (ci := 3) (q0 := 0) rfl rfl, k_pre hP hK hNn hD⟩ rfl rfl hl.1 rfl (lv_room (Nat.le_of_ble_eq_true rfl)) dX5_askedFor_28 ⟨Nat.le_of_ble_eq_true rfl, Nat.le_of_ble_eq_true rfl⟩) hS hF (fun H locs hP1 hk hS => ?_)
  have hP : va_P D vwCl (wX5 cs a S) _ := hP1
  have hD := hDA S
  obtain ⟨r31, hq31, hd⟩ := dn_b1 hd
  have hPc := k_P0 hP
  have hDc : va_D A ([] : va_W) := k_D0
  have hF := k_self hDc hS hA
  refine k_run_i (va_runS (As := [.int (S 1 (S 8 p1.toNatClampNeg).toNatClampNeg), .int r28]) (rest := []) ⟨hx, hb, hml, hown, hts⟩ (mX1_asked l D cs  (S 1 (S 8 p1.toNatClampNeg).toNatClampNeg) r28 r31 hq31 _) (va_cwS 2 hts gX5_askedFor_X1_asked rfl rfl rfl (by decide +kernel) ⟨Nat.le_of_ble_eq_true rfl, Nat.le_of_ble_eq_true rfl⟩) ⟨k_blind, k_pre hPc hK hNn hDc⟩ rfl rfl hl.1 rfl (lv_room (Nat.le_of_ble_eq_true rfl)) dX5_askedFor_31 ⟨Nat.le_of_ble_eq_true rfl, Nat.le_of_ble_eq_true rfl⟩) hS hF (fun H locs hP1 hk hS => ?_)
  have hP : va_P D vwCl (wX5 cs a S) _ := k_keep hP hk
  have e1 := dn_s1 hd
  exact k_iret hx hb hr hQ hAe e1 rfl hP hS hlocks dX5_askedFor_34
-- LeastNeed$Valley.howManyLie(I)I
set_option maxRecDepth 20000 in
def nX5_howManyLie_l4 (p1 : Int32) (x2_4 : Int32) (x3_4 : Int32) (S : Nat → Nat → Int32) : Option ((Int32 × Int32) ⊕ (Int32)) := if (S 0 13) ≤ x3_4 then k_up (some x2_4) else if x3_4 < 0 ∨ 5 ≤ x3_4.toNatClampNeg then none else if (S 9 x3_4.toNatClampNeg) = p1 then some (.inl ((x2_4 + (1 : Int32)), (x3_4 + (1 : Int32)))) else some (.inl (x2_4, (x3_4 + (1 : Int32))))
set_option maxRecDepth 20000 in
def nX5_howManyLie (S : Nat → Nat → Int32) (p1 : Int32) : Option (Int32) := k_it (fun st => nX5_howManyLie_l4 p1 st.1 st.2 S) 1000 ((0 : Int32), (0 : Int32))
set_option maxHeartbeats 4000000 in
set_option maxRecDepth 100000 in
theorem mX5_howManyLie (l : Launch) (D : va_G) (cs : Nat → ClassId) (a : Nat → Nat) (S : Nat → Nat → Int32) (p1 : Int32) (r9 : Int32) (hd : nX5_howManyLie S p1 = some r9) : ∀ sz : Nat, Met l yX5_howManyLie wsX5_howManyLie ({ frames := 0, cells := 0, slots := 0, locals := 0 }) (k_Pc D cs [.ref (a 0), .int p1] (wX5 cs a S) sz) (k_Qi D r9 (wX5 cs a S) (wX5 cs a S) sz) 0 0 (va_A (wX5 cs a S) sz) := by
  intro sz
  refine Met.ofW (cc := cX5_howManyLie) (maxL := 4) (ret := (some .int)) (by decide) rfl ?_
  intro p e s m args below meth c s₁ B hml hv
  obtain ⟨rfl, hsz, hP, hK, hD0, hNn⟩ := hv
  have hx := B.exec
  have hb := B.bytes
  have hr := B.returns
  have hts := atoms_spec (ws := wsX5_howManyLie) B.pre
  have hown : s.vm.findClass RX5 = some m.cls := findClass_of_methodNamed B.named
  have hlocks := B.notSynchronized
  subst hsz
  obtain ⟨A, hAe⟩ : ∃ A : Nat → Prop, A = va_A (wX5 cs a S) s.heap.size := ⟨_, rfl⟩
  have hD : va_D A (wX5 cs a S) := by rw [hAe]; exact hD0.self
  have hA : ∀ q : Nat, s.heap.size ≤ q → A q := fun q h => by rw [hAe]; exact Or.inr h
  have hS : va_S A s.heap s.heap [] := va_S.rf
  have hDA : ∀ (S : Nat → Nat → Int32), va_D A (wX5 cs a S) := fun S => k_DA hD rfl
  have hl := lv_entry ([.ref (a 0), .int p1]) (n := 4) (Nat.le_of_ble_eq_true rfl)
  rw [lg_entry_eq]
  generalize (lg_sl ([.ref (a 0), .int p1]) ++ List.replicate (4 - (lg_sl ([.ref (a 0), .int p1])).length) Slot.unset).toArray = ls at hl ⊢
  have hl : lv_has ls 4 [(0, .ref (a 0)), (1, .int p1)] := hl
  obtain ⟨Q, hQ⟩ : ∃ Q, Q = MQ below (k_Qi D r9 (wX5 cs a S) (wX5 cs a S) s.heap.size) ([.ref (a 0), .int p1] : List Value).toArray s 0 0 (va_A (wX5 cs a S) s.heap.size) := ⟨_, rfl⟩
  rw [← hQ]
  have Lo4 : ∀ (n1 : Nat) (x2_4 : Int32) (x3_4 : Int32) (H : Heap) (locs : List Loc) (ls : Array Slot), k_it (fun st => nX5_howManyLie_l4 p1 st.1 st.2 S) n1 (x2_4, x3_4) = some r9 → lv_has ls 4 [(0, .ref (a 0)), (1, .int p1), (2, .int x2_4), (3, .int x3_4)] → va_P D vwCl (wX5 cs a S) H → va_S A s.heap H locs → W p l e (headSpec wsX5_howManyLie ({ frames := 0, cells := 0, slots := 0, locals := 0 })).room s m ([.ref (a 0), .int p1] : List Value).toArray below meth c H locs 0 0 Q (F0 m 4 ls []) := by
    intro n1
    induction n1 with
    | zero => intro x2_4 x3_4 H locs ls hd; exact dn_it0 hd
    | succ n1 ih1 =>
      intro x2_4 x3_4 H locs ls hd hl hP hS
      have hD := hDA S
      obtain ⟨y1, hd, hy1⟩ := dn_it hd
      have hd : nX5_howManyLie_l4 p1 x2_4 x3_4 S = some y1 := hd
      unfold nX5_howManyLie_l4 at hd
      refine lv_iload_n hx hb dX5_howManyLie_4 rfl (lv_at hl 3 rfl) ?_
      refine lv_aload_n hx hb dX5_howManyLie_5 rfl (lv_at hl 0 rfl) ?_
      refine va_get (D := D) (ci := 3) (v := .int (S 0 13)) (C := RX5) (T := TX5) (N := 15) hx hb hts (fun w h => List.mem_cons_of_mem _ (List.mem_append_right _ h)) hown hK hP 0 rfl rfl 13 (by decide) (hts (.fieldLink RX5 58 "LeastNeed$Valley" "things" "I") (List.mem_of_getElem? (i := 1) rfl)) (fun _ h9 => h9) rfl dX5_howManyLie_6 ?_
      refine lv_icmp_ge (tgt := 31) hx hb dX5_howManyLie_9 (by decide) (fun c9 => ?_) (fun c9 => ?_)
      · have hd := dn_t c9 hd
        have hd := dn_up hd hy1
        refine lv_iload_n hx hb dX5_howManyLie_31 rfl (lv_at hl 2 rfl) ?_
        have e1 := dn_s1 hd
        exact k_iret hx hb hr hQ hAe e1 rfl hP hS hlocks dX5_howManyLie_32
      · have hd := dn_f c9 hd
        refine lv_aload_n hx hb dX5_howManyLie_12 rfl (lv_at hl 0 rfl) ?_
        refine va_get (D := D) (ci := 3) (v := .ref (a 9)) (C := RX5) (T := TX5) (N := 15) hx hb hts (fun w h => List.mem_cons_of_mem _ (List.mem_append_right _ h)) hown hK hP 0 rfl rfl 8 (by decide) (hts (.fieldLink RX5 36 "LeastNeed$Valley" "place" "[I") (List.mem_of_getElem? (i := 2) rfl)) (fun _ h9 => h9) rfl dX5_howManyLie_13 ?_
        refine lv_iload_n hx hb dX5_howManyLie_16 rfl (lv_at hl 3 rfl) ?_
        obtain ⟨hi17, hd⟩ := dn_i hd
        refine k_iald (D := D) (k := x3_4.toNatClampNeg) (by rfl) hx hb hK hP 9 1 rfl rfl hi17 dX5_howManyLie_17 ?_
        refine lv_iload_n hx hb dX5_howManyLie_18 rfl (lv_at hl 1 rfl) ?_
        refine lv_icmp_ne (tgt := 25) hx hb dX5_howManyLie_19 (by decide) (fun c19 => ?_) (fun c19 => ?_)
        · have hd := dn_f c19 hd
          refine lv_iinc (v := x3_4 + (1 : Int32)) (lv' := [(3, .int (x3_4 + (1 : Int32))), (0, .ref (a 0)), (1, .int p1), (2, .int x2_4)]) hx hb dX5_howManyLie_25 hl (k := 3) rfl rfl (by decide) rfl (fun ls hl => ?_)
          refine lv_goto (tgt := 4) hx hb dX5_howManyLie_28 (by decide) ?_
          exact ih1 x2_4 (x3_4 + (1 : Int32)) _ _ _ (dn_bk hd hy1) (lv_sub hl [1, 2, 3, 0] rfl) hP hS
        · have hd := dn_t c19 hd
          refine lv_iinc (v := x2_4 + (1 : Int32)) (lv' := [(2, .int (x2_4 + (1 : Int32))), (0, .ref (a 0)), (1, .int p1), (3, .int x3_4)]) hx hb dX5_howManyLie_22 hl (k := 2) rfl rfl (by decide) rfl (fun ls hl => ?_)
          refine lv_iinc (v := x3_4 + (1 : Int32)) (lv' := [(3, .int (x3_4 + (1 : Int32))), (2, .int (x2_4 + (1 : Int32))), (0, .ref (a 0)), (1, .int p1)]) hx hb dX5_howManyLie_25 hl (k := 3) rfl rfl (by decide) rfl (fun ls hl => ?_)
          refine lv_goto (tgt := 4) hx hb dX5_howManyLie_28 (by decide) ?_
          exact ih1 (x2_4 + (1 : Int32)) (x3_4 + (1 : Int32)) _ _ _ (dn_bk hd hy1) (lv_sub hl [2, 3, 1, 0] rfl) hP hS
  unfold nX5_howManyLie at hd
  refine lv_iconst (v := (0 : Int32)) hx hb dX5_howManyLie_0 (by decide) ?_
  refine lv_istore_n (lv' := [(2, .int (0 : Int32)), (0, .ref (a 0)), (1, .int p1)]) hx hb dX5_howManyLie_1 rfl hl (by decide) rfl (fun ls hl => ?_)
  refine lv_iconst (v := (0 : Int32)) hx hb dX5_howManyLie_2 (by decide) ?_
  refine lv_istore_n (lv' := [(3, .int (0 : Int32)), (2, .int (0 : Int32)), (0, .ref (a 0)), (1, .int p1)]) hx hb dX5_howManyLie_3 rfl hl (by decide) rfl (fun ls hl => ?_)
  exact Lo4 1000 (0 : Int32) (0 : Int32) _ _ _ hd (lv_sub hl [2, 3, 1, 0] rfl) hP hS
-- LeastNeed$Valley.howManyHas(I)I
set_option maxRecDepth 20000 in
def nX5_howManyHas_l4 (p1 : Int32) (x2_4 : Int32) (x3_4 : Int32) (S : Nat → Nat → Int32) : Option ((Int32 × Int32) ⊕ (Int32)) := if (S 0 13) ≤ x3_4 then k_up (some x2_4) else if x3_4 < 0 ∨ 5 ≤ x3_4.toNatClampNeg then none else if (S 9 x3_4.toNatClampNeg) = 0 then if x3_4 < 0 ∨ 5 ≤ x3_4.toNatClampNeg then none else if (S 8 x3_4.toNatClampNeg) = p1 then some (.inl ((x2_4 + (1 : Int32)), (x3_4 + (1 : Int32)))) else some (.inl (x2_4, (x3_4 + (1 : Int32)))) else some (.inl (x2_4, (x3_4 + (1 : Int32))))
set_option maxRecDepth 20000 in
def nX5_howManyHas (S : Nat → Nat → Int32) (p1 : Int32) : Option (Int32) := k_it (fun st => nX5_howManyHas_l4 p1 st.1 st.2 S) 1000 ((0 : Int32), (0 : Int32))
set_option maxHeartbeats 4000000 in
set_option maxRecDepth 100000 in
theorem mX5_howManyHas (l : Launch) (D : va_G) (cs : Nat → ClassId) (a : Nat → Nat) (S : Nat → Nat → Int32) (p1 : Int32) (r9 : Int32) (hd : nX5_howManyHas S p1 = some r9) : ∀ sz : Nat, Met l yX5_howManyHas wsX5_howManyHas ({ frames := 0, cells := 0, slots := 0, locals := 0 }) (k_Pc D cs [.ref (a 0), .int p1] (wX5 cs a S) sz) (k_Qi D r9 (wX5 cs a S) (wX5 cs a S) sz) 0 0 (va_A (wX5 cs a S) sz) := by
  intro sz
  refine Met.ofW (cc := cX5_howManyHas) (maxL := 4) (ret := (some .int)) (by decide) rfl ?_
  intro p e s m args below meth c s₁ B hml hv
  obtain ⟨rfl, hsz, hP, hK, hD0, hNn⟩ := hv
  have hx := B.exec
  have hb := B.bytes
  have hr := B.returns
  have hts := atoms_spec (ws := wsX5_howManyHas) B.pre
  have hown : s.vm.findClass RX5 = some m.cls := findClass_of_methodNamed B.named
  have hlocks := B.notSynchronized
  subst hsz
  obtain ⟨A, hAe⟩ : ∃ A : Nat → Prop, A = va_A (wX5 cs a S) s.heap.size := ⟨_, rfl⟩
  have hD : va_D A (wX5 cs a S) := by rw [hAe]; exact hD0.self
  have hA : ∀ q : Nat, s.heap.size ≤ q → A q := fun q h => by rw [hAe]; exact Or.inr h
  have hS : va_S A s.heap s.heap [] := va_S.rf
  have hDA : ∀ (S : Nat → Nat → Int32), va_D A (wX5 cs a S) := fun S => k_DA hD rfl
  have hl := lv_entry ([.ref (a 0), .int p1]) (n := 4) (Nat.le_of_ble_eq_true rfl)
  rw [lg_entry_eq]
  generalize (lg_sl ([.ref (a 0), .int p1]) ++ List.replicate (4 - (lg_sl ([.ref (a 0), .int p1])).length) Slot.unset).toArray = ls at hl ⊢
  have hl : lv_has ls 4 [(0, .ref (a 0)), (1, .int p1)] := hl
  obtain ⟨Q, hQ⟩ : ∃ Q, Q = MQ below (k_Qi D r9 (wX5 cs a S) (wX5 cs a S) s.heap.size) ([.ref (a 0), .int p1] : List Value).toArray s 0 0 (va_A (wX5 cs a S) s.heap.size) := ⟨_, rfl⟩
  rw [← hQ]
  have Lo4 : ∀ (n1 : Nat) (x2_4 : Int32) (x3_4 : Int32) (H : Heap) (locs : List Loc) (ls : Array Slot), k_it (fun st => nX5_howManyHas_l4 p1 st.1 st.2 S) n1 (x2_4, x3_4) = some r9 → lv_has ls 4 [(0, .ref (a 0)), (1, .int p1), (2, .int x2_4), (3, .int x3_4)] → va_P D vwCl (wX5 cs a S) H → va_S A s.heap H locs → W p l e (headSpec wsX5_howManyHas ({ frames := 0, cells := 0, slots := 0, locals := 0 })).room s m ([.ref (a 0), .int p1] : List Value).toArray below meth c H locs 0 0 Q (F0 m 4 ls []) := by
    intro n1
    induction n1 with
    | zero => intro x2_4 x3_4 H locs ls hd; exact dn_it0 hd
    | succ n1 ih1 =>
      intro x2_4 x3_4 H locs ls hd hl hP hS
      have hD := hDA S
      obtain ⟨y1, hd, hy1⟩ := dn_it hd
      have hd : nX5_howManyHas_l4 p1 x2_4 x3_4 S = some y1 := hd
      unfold nX5_howManyHas_l4 at hd
      refine lv_iload_n hx hb dX5_howManyHas_4 rfl (lv_at hl 3 rfl) ?_
      refine lv_aload_n hx hb dX5_howManyHas_5 rfl (lv_at hl 0 rfl) ?_
      refine va_get (D := D) (ci := 3) (v := .int (S 0 13)) (C := RX5) (T := TX5) (N := 15) hx hb hts (fun w h => List.mem_cons_of_mem _ (List.mem_append_right _ h)) hown hK hP 0 rfl rfl 13 (by decide) (hts (.fieldLink RX5 58 "LeastNeed$Valley" "things" "I") (List.mem_of_getElem? (i := 1) rfl)) (fun _ h9 => h9) rfl dX5_howManyHas_6 ?_
      refine lv_icmp_ge (tgt := 40) hx hb dX5_howManyHas_9 (by decide) (fun c9 => ?_) (fun c9 => ?_)
      · have hd := dn_t c9 hd
        have hd := dn_up hd hy1
        refine lv_iload_n hx hb dX5_howManyHas_40 rfl (lv_at hl 2 rfl) ?_
        have e1 := dn_s1 hd
        exact k_iret hx hb hr hQ hAe e1 rfl hP hS hlocks dX5_howManyHas_41
      · have hd := dn_f c9 hd
        refine lv_aload_n hx hb dX5_howManyHas_12 rfl (lv_at hl 0 rfl) ?_
        refine va_get (D := D) (ci := 3) (v := .ref (a 9)) (C := RX5) (T := TX5) (N := 15) hx hb hts (fun w h => List.mem_cons_of_mem _ (List.mem_append_right _ h)) hown hK hP 0 rfl rfl 8 (by decide) (hts (.fieldLink RX5 36 "LeastNeed$Valley" "place" "[I") (List.mem_of_getElem? (i := 2) rfl)) (fun _ h9 => h9) rfl dX5_howManyHas_13 ?_
        refine lv_iload_n hx hb dX5_howManyHas_16 rfl (lv_at hl 3 rfl) ?_
        obtain ⟨hi17, hd⟩ := dn_i hd
        refine k_iald (D := D) (k := x3_4.toNatClampNeg) (by rfl) hx hb hK hP 9 1 rfl rfl hi17 dX5_howManyHas_17 ?_
        refine lv_if_ne (tgt := 34) hx hb dX5_howManyHas_18 (by decide) (fun c18 => ?_) (fun c18 => ?_)
        · have hd := dn_f c18 hd
          refine lv_iinc (v := x3_4 + (1 : Int32)) (lv' := [(3, .int (x3_4 + (1 : Int32))), (0, .ref (a 0)), (1, .int p1), (2, .int x2_4)]) hx hb dX5_howManyHas_34 hl (k := 3) rfl rfl (by decide) rfl (fun ls hl => ?_)
          refine lv_goto (tgt := 4) hx hb dX5_howManyHas_37 (by decide) ?_
          exact ih1 x2_4 (x3_4 + (1 : Int32)) _ _ _ (dn_bk hd hy1) (lv_sub hl [1, 2, 3, 0] rfl) hP hS
        · have hd := dn_t c18 hd
          refine lv_aload_n hx hb dX5_howManyHas_21 rfl (lv_at hl 0 rfl) ?_
          refine va_get (D := D) (ci := 3) (v := .ref (a 8)) (C := RX5) (T := TX5) (N := 15) hx hb hts (fun w h => List.mem_cons_of_mem _ (List.mem_append_right _ h)) hown hK hP 0 rfl rfl 7 (by decide) (hts (.fieldLink RX5 33 "LeastNeed$Valley" "holder" "[I") (List.mem_of_getElem? (i := 3) rfl)) (fun _ h9 => h9) rfl dX5_howManyHas_22 ?_
          refine lv_iload_n hx hb dX5_howManyHas_25 rfl (lv_at hl 3 rfl) ?_
          obtain ⟨hi26, hd⟩ := dn_i hd
          refine k_iald (D := D) (k := x3_4.toNatClampNeg) (by rfl) hx hb hK hP 8 1 rfl rfl hi26 dX5_howManyHas_26 ?_
          refine lv_iload_n hx hb dX5_howManyHas_27 rfl (lv_at hl 1 rfl) ?_
          refine lv_icmp_ne (tgt := 34) hx hb dX5_howManyHas_28 (by decide) (fun c28 => ?_) (fun c28 => ?_)
          · have hd := dn_f c28 hd
            refine lv_iinc (v := x3_4 + (1 : Int32)) (lv' := [(3, .int (x3_4 + (1 : Int32))), (0, .ref (a 0)), (1, .int p1), (2, .int x2_4)]) hx hb dX5_howManyHas_34 hl (k := 3) rfl rfl (by decide) rfl (fun ls hl => ?_)
            refine lv_goto (tgt := 4) hx hb dX5_howManyHas_37 (by decide) ?_
            exact ih1 x2_4 (x3_4 + (1 : Int32)) _ _ _ (dn_bk hd hy1) (lv_sub hl [1, 2, 3, 0] rfl) hP hS
          · have hd := dn_t c28 hd
            refine lv_iinc (v := x2_4 + (1 : Int32)) (lv' := [(2, .int (x2_4 + (1 : Int32))), (0, .ref (a 0)), (1, .int p1), (3, .int x3_4)]) hx hb dX5_howManyHas_31 hl (k := 2) rfl rfl (by decide) rfl (fun ls hl => ?_)
            refine lv_iinc (v := x3_4 + (1 : Int32)) (lv' := [(3, .int (x3_4 + (1 : Int32))), (2, .int (x2_4 + (1 : Int32))), (0, .ref (a 0)), (1, .int p1)]) hx hb dX5_howManyHas_34 hl (k := 3) rfl rfl (by decide) rfl (fun ls hl => ?_)
            refine lv_goto (tgt := 4) hx hb dX5_howManyHas_37 (by decide) ?_
            exact ih1 (x2_4 + (1 : Int32)) (x3_4 + (1 : Int32)) _ _ _ (dn_bk hd hy1) (lv_sub hl [2, 3, 1, 0] rfl) hP hS
  unfold nX5_howManyHas at hd
  refine lv_iconst (v := (0 : Int32)) hx hb dX5_howManyHas_0 (by decide) ?_
  refine lv_istore_n (lv' := [(2, .int (0 : Int32)), (0, .ref (a 0)), (1, .int p1)]) hx hb dX5_howManyHas_1 rfl hl (by decide) rfl (fun ls hl => ?_)
  refine lv_iconst (v := (0 : Int32)) hx hb dX5_howManyHas_2 (by decide) ?_
  refine lv_istore_n (lv' := [(3, .int (0 : Int32)), (2, .int (0 : Int32)), (0, .ref (a 0)), (1, .int p1)]) hx hb dX5_howManyHas_3 rfl hl (by decide) rfl (fun ls hl => ?_)
  exact Lo4 1000 (0 : Int32) (0 : Int32) _ _ _ hd (lv_sub hl [2, 3, 1, 0] rfl) hP hS
-- LeastNeed$Valley.howManyAtHome()I
set_option maxRecDepth 20000 in
def nX5_howManyAtHome_l4 (x1_4 : Int32) (x2_4 : Int32) (S : Nat → Nat → Int32) : Option ((Int32 × Int32) ⊕ (Int32)) := if (S 0 13) ≤ x2_4 then k_up (some x1_4) else if x2_4 < 0 ∨ 5 ≤ x2_4.toNatClampNeg then none else if (S 9 x2_4.toNatClampNeg) = 0 then if x2_4 < 0 ∨ 5 ≤ x2_4.toNatClampNeg then none else if x2_4 < 0 ∨ 5 ≤ x2_4.toNatClampNeg then none else if (S 8 x2_4.toNatClampNeg) = (S 7 x2_4.toNatClampNeg) then some (.inl ((x1_4 + (1 : Int32)), (x2_4 + (1 : Int32)))) else some (.inl (x1_4, (x2_4 + (1 : Int32)))) else some (.inl (x1_4, (x2_4 + (1 : Int32))))
set_option maxRecDepth 20000 in
def nX5_howManyAtHome (S : Nat → Nat → Int32) : Option (Int32) := k_it (fun st => nX5_howManyAtHome_l4 st.1 st.2 S) 1000 ((0 : Int32), (0 : Int32))
set_option maxHeartbeats 4000000 in
set_option maxRecDepth 100000 in
theorem mX5_howManyAtHome (l : Launch) (D : va_G) (cs : Nat → ClassId) (a : Nat → Nat) (S : Nat → Nat → Int32) (r9 : Int32) (hd : nX5_howManyAtHome S = some r9) : ∀ sz : Nat, Met l yX5_howManyAtHome wsX5_howManyAtHome ({ frames := 0, cells := 0, slots := 0, locals := 0 }) (k_Pc D cs [.ref (a 0)] (wX5 cs a S) sz) (k_Qi D r9 (wX5 cs a S) (wX5 cs a S) sz) 0 0 (va_A (wX5 cs a S) sz) := by
  intro sz
  refine Met.ofW (cc := cX5_howManyAtHome) (maxL := 3) (ret := (some .int)) (by decide) rfl ?_
  intro p e s m args below meth c s₁ B hml hv
  obtain ⟨rfl, hsz, hP, hK, hD0, hNn⟩ := hv
  have hx := B.exec
  have hb := B.bytes
  have hr := B.returns
  have hts := atoms_spec (ws := wsX5_howManyAtHome) B.pre
  have hown : s.vm.findClass RX5 = some m.cls := findClass_of_methodNamed B.named
  have hlocks := B.notSynchronized
  subst hsz
  obtain ⟨A, hAe⟩ : ∃ A : Nat → Prop, A = va_A (wX5 cs a S) s.heap.size := ⟨_, rfl⟩
  have hD : va_D A (wX5 cs a S) := by rw [hAe]; exact hD0.self
  have hA : ∀ q : Nat, s.heap.size ≤ q → A q := fun q h => by rw [hAe]; exact Or.inr h
  have hS : va_S A s.heap s.heap [] := va_S.rf
  have hDA : ∀ (S : Nat → Nat → Int32), va_D A (wX5 cs a S) := fun S => k_DA hD rfl
  have hl := lv_entry ([.ref (a 0)]) (n := 3) (Nat.le_of_ble_eq_true rfl)
  rw [lg_entry_eq]
  generalize (lg_sl ([.ref (a 0)]) ++ List.replicate (3 - (lg_sl ([.ref (a 0)])).length) Slot.unset).toArray = ls at hl ⊢
  have hl : lv_has ls 3 [(0, .ref (a 0))] := hl
  obtain ⟨Q, hQ⟩ : ∃ Q, Q = MQ below (k_Qi D r9 (wX5 cs a S) (wX5 cs a S) s.heap.size) ([.ref (a 0)] : List Value).toArray s 0 0 (va_A (wX5 cs a S) s.heap.size) := ⟨_, rfl⟩
  rw [← hQ]
  have Lo4 : ∀ (n1 : Nat) (x1_4 : Int32) (x2_4 : Int32) (H : Heap) (locs : List Loc) (ls : Array Slot), k_it (fun st => nX5_howManyAtHome_l4 st.1 st.2 S) n1 (x1_4, x2_4) = some r9 → lv_has ls 3 [(0, .ref (a 0)), (1, .int x1_4), (2, .int x2_4)] → va_P D vwCl (wX5 cs a S) H → va_S A s.heap H locs → W p l e (headSpec wsX5_howManyAtHome ({ frames := 0, cells := 0, slots := 0, locals := 0 })).room s m ([.ref (a 0)] : List Value).toArray below meth c H locs 0 0 Q (F0 m 4 ls []) := by
    intro n1
    induction n1 with
    | zero => intro x1_4 x2_4 H locs ls hd; exact dn_it0 hd
    | succ n1 ih1 =>
      intro x1_4 x2_4 H locs ls hd hl hP hS
      have hD := hDA S
      obtain ⟨y1, hd, hy1⟩ := dn_it hd
      have hd : nX5_howManyAtHome_l4 x1_4 x2_4 S = some y1 := hd
      unfold nX5_howManyAtHome_l4 at hd
      refine lv_iload_n hx hb dX5_howManyAtHome_4 rfl (lv_at hl 2 rfl) ?_
      refine lv_aload_n hx hb dX5_howManyAtHome_5 rfl (lv_at hl 0 rfl) ?_
      refine va_get (D := D) (ci := 3) (v := .int (S 0 13)) (C := RX5) (T := TX5) (N := 15) hx hb hts (fun w h => List.mem_cons_of_mem _ (List.mem_append_right _ h)) hown hK hP 0 rfl rfl 13 (by decide) (hts (.fieldLink RX5 58 "LeastNeed$Valley" "things" "I") (List.mem_of_getElem? (i := 1) rfl)) (fun _ h9 => h9) rfl dX5_howManyAtHome_6 ?_
      refine lv_icmp_ge (tgt := 45) hx hb dX5_howManyAtHome_9 (by decide) (fun c9 => ?_) (fun c9 => ?_)
      · have hd := dn_t c9 hd
        have hd := dn_up hd hy1
        refine lv_iload_n hx hb dX5_howManyAtHome_45 rfl (lv_at hl 1 rfl) ?_
        have e1 := dn_s1 hd
        exact k_iret hx hb hr hQ hAe e1 rfl hP hS hlocks dX5_howManyAtHome_46
      · have hd := dn_f c9 hd
        refine lv_aload_n hx hb dX5_howManyAtHome_12 rfl (lv_at hl 0 rfl) ?_
        refine va_get (D := D) (ci := 3) (v := .ref (a 9)) (C := RX5) (T := TX5) (N := 15) hx hb hts (fun w h => List.mem_cons_of_mem _ (List.mem_append_right _ h)) hown hK hP 0 rfl rfl 8 (by decide) (hts (.fieldLink RX5 36 "LeastNeed$Valley" "place" "[I") (List.mem_of_getElem? (i := 2) rfl)) (fun _ h9 => h9) rfl dX5_howManyAtHome_13 ?_
        refine lv_iload_n hx hb dX5_howManyAtHome_16 rfl (lv_at hl 2 rfl) ?_
        obtain ⟨hi17, hd⟩ := dn_i hd
        refine k_iald (D := D) (k := x2_4.toNatClampNeg) (by rfl) hx hb hK hP 9 1 rfl rfl hi17 dX5_howManyAtHome_17 ?_
        refine lv_if_ne (tgt := 39) hx hb dX5_howManyAtHome_18 (by decide) (fun c18 => ?_) (fun c18 => ?_)
        · have hd := dn_f c18 hd
          refine lv_iinc (v := x2_4 + (1 : Int32)) (lv' := [(2, .int (x2_4 + (1 : Int32))), (0, .ref (a 0)), (1, .int x1_4)]) hx hb dX5_howManyAtHome_39 hl (k := 2) rfl rfl (by decide) rfl (fun ls hl => ?_)
          refine lv_goto (tgt := 4) hx hb dX5_howManyAtHome_42 (by decide) ?_
          exact ih1 x1_4 (x2_4 + (1 : Int32)) _ _ _ (dn_bk hd hy1) (lv_sub hl [1, 2, 0] rfl) hP hS
        · have hd := dn_t c18 hd
          refine lv_aload_n hx hb dX5_howManyAtHome_21 rfl (lv_at hl 0 rfl) ?_
          refine va_get (D := D) (ci := 3) (v := .ref (a 8)) (C := RX5) (T := TX5) (N := 15) hx hb hts (fun w h => List.mem_cons_of_mem _ (List.mem_append_right _ h)) hown hK hP 0 rfl rfl 7 (by decide) (hts (.fieldLink RX5 33 "LeastNeed$Valley" "holder" "[I") (List.mem_of_getElem? (i := 3) rfl)) (fun _ h9 => h9) rfl dX5_howManyAtHome_22 ?_
          refine lv_iload_n hx hb dX5_howManyAtHome_25 rfl (lv_at hl 2 rfl) ?_
          obtain ⟨hi26, hd⟩ := dn_i hd
          refine k_iald (D := D) (k := x2_4.toNatClampNeg) (by rfl) hx hb hK hP 8 1 rfl rfl hi26 dX5_howManyAtHome_26 ?_
          refine lv_aload_n hx hb dX5_howManyAtHome_27 rfl (lv_at hl 0 rfl) ?_
          refine va_get (D := D) (ci := 3) (v := .ref (a 7)) (C := RX5) (T := TX5) (N := 15) hx hb hts (fun w h => List.mem_cons_of_mem _ (List.mem_append_right _ h)) hown hK hP 0 rfl rfl 6 (by decide) (hts (.fieldLink RX5 30 "LeastNeed$Valley" "owner" "[I") (List.mem_of_getElem? (i := 4) rfl)) (fun _ h9 => h9) rfl dX5_howManyAtHome_28 ?_
          refine lv_iload_n hx hb dX5_howManyAtHome_31 rfl (lv_at hl 2 rfl) ?_
          obtain ⟨hi32, hd⟩ := dn_i hd
          refine k_iald (D := D) (k := x2_4.toNatClampNeg) (by rfl) hx hb hK hP 7 1 rfl rfl hi32 dX5_howManyAtHome_32 ?_
          refine lv_icmp_ne (tgt := 39) hx hb dX5_howManyAtHome_33 (by decide) (fun c33 => ?_) (fun c33 => ?_)
          · have hd := dn_f c33 hd
            refine lv_iinc (v := x2_4 + (1 : Int32)) (lv' := [(2, .int (x2_4 + (1 : Int32))), (0, .ref (a 0)), (1, .int x1_4)]) hx hb dX5_howManyAtHome_39 hl (k := 2) rfl rfl (by decide) rfl (fun ls hl => ?_)
            refine lv_goto (tgt := 4) hx hb dX5_howManyAtHome_42 (by decide) ?_
            exact ih1 x1_4 (x2_4 + (1 : Int32)) _ _ _ (dn_bk hd hy1) (lv_sub hl [1, 2, 0] rfl) hP hS
          · have hd := dn_t c33 hd
            refine lv_iinc (v := x1_4 + (1 : Int32)) (lv' := [(1, .int (x1_4 + (1 : Int32))), (0, .ref (a 0)), (2, .int x2_4)]) hx hb dX5_howManyAtHome_36 hl (k := 1) rfl rfl (by decide) rfl (fun ls hl => ?_)
            refine lv_iinc (v := x2_4 + (1 : Int32)) (lv' := [(2, .int (x2_4 + (1 : Int32))), (1, .int (x1_4 + (1 : Int32))), (0, .ref (a 0))]) hx hb dX5_howManyAtHome_39 hl (k := 2) rfl rfl (by decide) rfl (fun ls hl => ?_)
            refine lv_goto (tgt := 4) hx hb dX5_howManyAtHome_42 (by decide) ?_
            exact ih1 (x1_4 + (1 : Int32)) (x2_4 + (1 : Int32)) _ _ _ (dn_bk hd hy1) (lv_sub hl [2, 1, 0] rfl) hP hS
  unfold nX5_howManyAtHome at hd
  refine lv_iconst (v := (0 : Int32)) hx hb dX5_howManyAtHome_0 (by decide) ?_
  refine lv_istore_n (lv' := [(1, .int (0 : Int32)), (0, .ref (a 0))]) hx hb dX5_howManyAtHome_1 rfl hl (by decide) rfl (fun ls hl => ?_)
  refine lv_iconst (v := (0 : Int32)) hx hb dX5_howManyAtHome_2 (by decide) ?_
  refine lv_istore_n (lv' := [(2, .int (0 : Int32)), (1, .int (0 : Int32)), (0, .ref (a 0))]) hx hb dX5_howManyAtHome_3 rfl hl (by decide) rfl (fun ls hl => ?_)
  exact Lo4 1000 (0 : Int32) (0 : Int32) _ _ _ hd (lv_sub hl [2, 1, 0] rfl) hP hS
-- LeastNeed$Valley.notesAreSo(II)Z
set_option maxRecDepth 20000 in
def nX5_notesAreSo_l2 (p1 : Int32) (p2 : Int32) (x3_2 : Int32) (S : Nat → Nat → Int32) : Option ((Int32) ⊕ (Int32)) := if (S 10 3) ≤ x3_2 then k_up (some (1 : Int32)) else k_b1 (nX3_cell 36 (6 : Int32) (6 : Int32) (k_wi S 10) x3_2 (0 : Int32)) (fun r19 => if r19 = p1 then k_b1 (nX3_cell 36 (6 : Int32) (6 : Int32) (k_wi S 10) x3_2 (1 : Int32)) (fun r36 => k_b1 (nX3_cell 36 (6 : Int32) (6 : Int32) (k_wi S 10) x3_2 (2 : Int32)) (fun r45 => k_b1 (nX3_cell 36 (6 : Int32) (6 : Int32) (k_wi S 10) x3_2 (3 : Int32)) (fun r54 => k_b1 (nX3_cell 36 (6 : Int32) (6 : Int32) (k_wi S 10) x3_2 (4 : Int32)) (fun r63 => k_b1 (nX1_shown p2 r36 r45 r54 r63) (fun r66 => k_b1 (nX3_cell 36 (6 : Int32) (6 : Int32) (k_wi S 10) x3_2 (5 : Int32)) (fun r79 => if r66 = r79 then some (.inl (x3_2 + (1 : Int32))) else k_up (some (0 : Int32)))))))) else some (.inl (x3_2 + (1 : Int32))))
set_option maxRecDepth 20000 in
def nX5_notesAreSo (S : Nat → Nat → Int32) (p1 : Int32) (p2 : Int32) : Option (Int32) := k_it (fun st => nX5_notesAreSo_l2 p1 p2 st S) 1000 (0 : Int32)
set_option maxHeartbeats 4000000 in
set_option maxRecDepth 100000 in
theorem mX5_notesAreSo (l : Launch) (D : va_G) (cs : Nat → ClassId) (a : Nat → Nat) (S : Nat → Nat → Int32) (p1 : Int32) (p2 : Int32) (r9 : Int32) (hd : nX5_notesAreSo S p1 p2 = some r9) : ∀ sz : Nat, Met l yX5_notesAreSo wsX5_notesAreSo ({ frames := 1, cells := 0, slots := 0, locals := 27 }) (k_Pc D cs [.ref (a 0), .int p1, .int p2] (wX5 cs a S) sz) (k_Qi D r9 (wX5 cs a S) (wX5 cs a S) sz) 0 0 (va_A (wX5 cs a S) sz) := by
  intro sz
  refine Met.ofW (cc := cX5_notesAreSo) (maxL := 5) (ret := (some .boolean)) (by decide) rfl ?_
  intro p e s m args below meth c s₁ B hml hv
  obtain ⟨rfl, hsz, hP, hK, hD0, hNn⟩ := hv
  have hx := B.exec
  have hb := B.bytes
  have hr := B.returns
  have hts := atoms_spec (ws := wsX5_notesAreSo) B.pre
  have hown : s.vm.findClass RX5 = some m.cls := findClass_of_methodNamed B.named
  have hlocks := B.notSynchronized
  subst hsz
  obtain ⟨A, hAe⟩ : ∃ A : Nat → Prop, A = va_A (wX5 cs a S) s.heap.size := ⟨_, rfl⟩
  have hD : va_D A (wX5 cs a S) := by rw [hAe]; exact hD0.self
  have hA : ∀ q : Nat, s.heap.size ≤ q → A q := fun q h => by rw [hAe]; exact Or.inr h
  have hS : va_S A s.heap s.heap [] := va_S.rf
  have hDA : ∀ (S : Nat → Nat → Int32), va_D A (wX5 cs a S) := fun S => k_DA hD rfl
  have hl := lv_entry ([.ref (a 0), .int p1, .int p2]) (n := 5) (Nat.le_of_ble_eq_true rfl)
  rw [lg_entry_eq]
  generalize (lg_sl ([.ref (a 0), .int p1, .int p2]) ++ List.replicate (5 - (lg_sl ([.ref (a 0), .int p1, .int p2])).length) Slot.unset).toArray = ls at hl ⊢
  have hl : lv_has ls 5 [(0, .ref (a 0)), (1, .int p1), (2, .int p2)] := hl
  obtain ⟨Q, hQ⟩ : ∃ Q, Q = MQ below (k_Qi D r9 (wX5 cs a S) (wX5 cs a S) s.heap.size) ([.ref (a 0), .int p1, .int p2] : List Value).toArray s 0 0 (va_A (wX5 cs a S) s.heap.size) := ⟨_, rfl⟩
  rw [← hQ]
  have Lo2 : ∀ (n1 : Nat) (x3_2 : Int32) (H : Heap) (locs : List Loc) (ls : Array Slot), k_it (fun st => nX5_notesAreSo_l2 p1 p2 st S) n1 x3_2 = some r9 → lv_has ls 5 [(0, .ref (a 0)), (1, .int p1), (2, .int p2), (3, .int x3_2)] → va_P D vwCl (wX5 cs a S) H → va_S A s.heap H locs → W p l e (headSpec wsX5_notesAreSo ({ frames := 1, cells := 0, slots := 0, locals := 27 })).room s m ([.ref (a 0), .int p1, .int p2] : List Value).toArray below meth c H locs 0 0 Q (F0 m 2 ls []) := by
    intro n1
    induction n1 with
    | zero => intro x3_2 H locs ls hd; exact dn_it0 hd
    | succ n1 ih1 =>
      intro x3_2 H locs ls hd hl hP hS
      have hD := hDA S
      obtain ⟨y1, hd, hy1⟩ := dn_it hd
      have hd : nX5_notesAreSo_l2 p1 p2 x3_2 S = some y1 := hd
      unfold nX5_notesAreSo_l2 at hd
      refine lv_iload_n hx hb dX5_notesAreSo_2 rfl (lv_at hl 3 rfl) ?_
      refine lv_aload_n hx hb dX5_notesAreSo_3 rfl (lv_at hl 0 rfl) ?_
      refine va_get (D := D) (ci := 3) (v := .ref (a 10)) (C := RX5) (T := TX5) (N := 15) hx hb hts (fun w h => List.mem_cons_of_mem _ (List.mem_append_left _ (List.mem_append_right _ h))) hown hK hP 0 rfl rfl 9 (by decide) (hts (.fieldLink RX5 44 "LeastNeed$Valley" "notes" "LLeastNeed$Rows;") (List.mem_of_getElem? (i := 1) rfl)) (fun _ h9 => h9) rfl dX5_notesAreSo_4 ?_
      refine va_get (D := D) (ci := 2) (v := .int (S 10 3)) (C := RX3) (T := TX3) (N := 4) hx hb hts (fun w h => List.mem_cons_of_mem _ (List.mem_append_right _ h)) hown hK hP 10 rfl rfl 3 (by decide) (hts (.fieldLink RX5 64 "LeastNeed$Rows" "used" "I") (List.mem_of_getElem? (i := 2) rfl)) (fun _ h9 => h9) rfl dX5_notesAreSo_7 ?_
      refine lv_icmp_ge (tgt := 93) hx hb dX5_notesAreSo_10 (by decide) (fun c10 => ?_) (fun c10 => ?_)
      · have hd := dn_t c10 hd
        have hd := dn_up hd hy1
        refine lv_iconst (v := (1 : Int32)) hx hb dX5_notesAreSo_93 (by decide) ?_
        have e1 := dn_s1 hd
        exact k_zret hx hb hr rfl hQ hAe e1 rfl hP hS hlocks dX5_notesAreSo_94
      · have hd := dn_f c10 hd
        refine lv_aload_n hx hb dX5_notesAreSo_13 rfl (lv_at hl 0 rfl) ?_
        refine va_get (D := D) (ci := 3) (v := .ref (a 10)) (C := RX5) (T := TX5) (N := 15) hx hb hts (fun w h => List.mem_cons_of_mem _ (List.mem_append_left _ (List.mem_append_right _ h))) hown hK hP 0 rfl rfl 9 (by decide) (hts (.fieldLink RX5 44 "LeastNeed$Valley" "notes" "LLeastNeed$Rows;") (List.mem_of_getElem? (i := 1) rfl)) (fun _ h9 => h9) rfl dX5_notesAreSo_14 ?_
        refine lv_iload_n hx hb dX5_notesAreSo_17 rfl (lv_at hl 3 rfl) ?_
        refine lv_iconst (v := (0 : Int32)) hx hb dX5_notesAreSo_18 (by decide) ?_
        obtain ⟨r19, hq19, hd⟩ := dn_b1 hd
        have hPc : va_P D vwCl (wX3 cs 36 (6 : Int32) (6 : Int32) (k_wi a 10) (k_wi S 10)) _ := k_sub hP [10, 11] (wcX5_X3_10 cs a S)
        have hDc : va_D A (wX3 cs 36 (6 : Int32) (6 : Int32) (k_wi a 10) (k_wi S 10)) := hD.sub [10, 11] (by decide) (wcX5_X3_10 cs a S)
        have hF := k_self hDc hS hA
        refine k_run_i (va_runV (As := [.int x3_2, .int (0 : Int32)]) (rest := []) ⟨hx, hb, hml, hown, hts⟩ (mX3_cell l D cs (k_wi a 10) 36 (6 : Int32) (6 : Int32) (k_wi S 10) x3_2 (0 : Int32) r19 hq19 _) (cwV 2 hts gX5_notesAreSo_X3_cell rfl rfl rfl (by decide +kernel) ⟨Nat.le_of_ble_eq_true rfl, Nat.le_of_ble_eq_true rfl⟩) ⟨k_blind, va_recv hK hP (ci := 2) (q0 := 10) rfl rfl, k_pre hPc hK hNn hDc⟩ rfl rfl hl.1 rfl (lv_room (Nat.le_of_ble_eq_true rfl)) dX5_notesAreSo_19 ⟨Nat.le_of_ble_eq_true rfl, Nat.le_of_ble_eq_true rfl⟩) hS hF (fun H locs hP1 hk hS => ?_)
        have hP : va_P D vwCl (wX5 cs a S) _ := k_back hP hD [10, 11] [0, 1, 2, 3, 4, 5, 6, 7, 8, 9, 12, 13, 14, 15] [0, 1, 2, 3, 4, 5, 6, 7, 8, 9, 14, 15, 10, 11, 12, 13] (wcX5_X3_10 cs a S) (by decide) hk hP1 (wbX5_X3_10 cs a S)
        have hD := hDA S
        refine lv_iload_n hx hb dX5_notesAreSo_22 rfl (lv_at hl 1 rfl) ?_
        refine lv_icmp_eq (tgt := 29) hx hb dX5_notesAreSo_23 (by decide) (fun c23 => ?_) (fun c23 => ?_)
        · have hd := dn_t c23 hd
          refine lv_iload_n hx hb dX5_notesAreSo_29 rfl (lv_at hl 2 rfl) ?_
          refine lv_aload_n hx hb dX5_notesAreSo_30 rfl (lv_at hl 0 rfl) ?_
          refine va_get (D := D) (ci := 3) (v := .ref (a 10)) (C := RX5) (T := TX5) (N := 15) hx hb hts (fun w h => List.mem_cons_of_mem _ (List.mem_append_left _ (List.mem_append_right _ h))) hown hK hP 0 rfl rfl 9 (by decide) (hts (.fieldLink RX5 44 "LeastNeed$Valley" "notes" "LLeastNeed$Rows;") (List.mem_of_getElem? (i := 1) rfl)) (fun _ h9 => h9) rfl dX5_notesAreSo_31 ?_
          refine lv_iload_n hx hb dX5_notesAreSo_34 rfl (lv_at hl 3 rfl) ?_
          refine lv_iconst (v := (1 : Int32)) hx hb dX5_notesAreSo_35 (by decide) ?_
          obtain ⟨r36, hq36, hd⟩ := dn_b1 hd
          have hPc : va_P D vwCl (wX3 cs 36 (6 : Int32) (6 : Int32) (k_wi a 10) (k_wi S 10)) _ := k_sub hP [10, 11] (wcX5_X3_10 cs a S)
          have hDc : va_D A (wX3 cs 36 (6 : Int32) (6 : Int32) (k_wi a 10) (k_wi S 10)) := hD.sub [10, 11] (by decide) (wcX5_X3_10 cs a S)
          have hF := k_self hDc hS hA
          refine k_run_i (va_runV (As := [.int x3_2, .int (1 : Int32)]) (rest := [.int p2]) ⟨hx, hb, hml, hown, hts⟩ (mX3_cell l D cs (k_wi a 10) 36 (6 : Int32) (6 : Int32) (k_wi S 10) x3_2 (1 : Int32) r36 hq36 _) (cwV 2 hts gX5_notesAreSo_X3_cell rfl rfl rfl (by decide +kernel) ⟨Nat.le_of_ble_eq_true rfl, Nat.le_of_ble_eq_true rfl⟩) ⟨k_blind, va_recv hK hP (ci := 2) (q0 := 10) rfl rfl, k_pre hPc hK hNn hDc⟩ rfl rfl hl.1 rfl (lv_room (Nat.le_of_ble_eq_true rfl)) dX5_notesAreSo_36 ⟨Nat.le_of_ble_eq_true rfl, Nat.le_of_ble_eq_true rfl⟩) hS hF (fun H locs hP1 hk hS => ?_)
          have hP : va_P D vwCl (wX5 cs a S) _ := k_back hP hD [10, 11] [0, 1, 2, 3, 4, 5, 6, 7, 8, 9, 12, 13, 14, 15] [0, 1, 2, 3, 4, 5, 6, 7, 8, 9, 14, 15, 10, 11, 12, 13] (wcX5_X3_10 cs a S) (by decide) hk hP1 (wbX5_X3_10 cs a S)
          have hD := hDA S
          refine lv_aload_n hx hb dX5_notesAreSo_39 rfl (lv_at hl 0 rfl) ?_
          refine va_get (D := D) (ci := 3) (v := .ref (a 10)) (C := RX5) (T := TX5) (N := 15) hx hb hts (fun w h => List.mem_cons_of_mem _ (List.mem_append_left _ (List.mem_append_right _ h))) hown hK hP 0 rfl rfl 9 (by decide) (hts (.fieldLink RX5 44 "LeastNeed$Valley" "notes" "LLeastNeed$Rows;") (List.mem_of_getElem? (i := 1) rfl)) (fun _ h9 => h9) rfl dX5_notesAreSo_40 ?_
          refine lv_iload_n hx hb dX5_notesAreSo_43 rfl (lv_at hl 3 rfl) ?_
          refine lv_iconst (v := (2 : Int32)) hx hb dX5_notesAreSo_44 (by decide) ?_
          obtain ⟨r45, hq45, hd⟩ := dn_b1 hd
          have hPc : va_P D vwCl (wX3 cs 36 (6 : Int32) (6 : Int32) (k_wi a 10) (k_wi S 10)) _ := k_sub hP [10, 11] (wcX5_X3_10 cs a S)
          have hDc : va_D A (wX3 cs 36 (6 : Int32) (6 : Int32) (k_wi a 10) (k_wi S 10)) := hD.sub [10, 11] (by decide) (wcX5_X3_10 cs a S)
          have hF := k_self hDc hS hA
          refine k_run_i (va_runV (As := [.int x3_2, .int (2 : Int32)]) (rest := [.int r36, .int p2]) ⟨hx, hb, hml, hown, hts⟩ (mX3_cell l D cs (k_wi a 10) 36 (6 : Int32) (6 : Int32) (k_wi S 10) x3_2 (2 : Int32) r45 hq45 _) (cwV 2 hts gX5_notesAreSo_X3_cell rfl rfl rfl (by decide +kernel) ⟨Nat.le_of_ble_eq_true rfl, Nat.le_of_ble_eq_true rfl⟩) ⟨k_blind, va_recv hK hP (ci := 2) (q0 := 10) rfl rfl, k_pre hPc hK hNn hDc⟩ rfl rfl hl.1 rfl (lv_room (Nat.le_of_ble_eq_true rfl)) dX5_notesAreSo_45 ⟨Nat.le_of_ble_eq_true rfl, Nat.le_of_ble_eq_true rfl⟩) hS hF (fun H locs hP1 hk hS => ?_)
          have hP : va_P D vwCl (wX5 cs a S) _ := k_back hP hD [10, 11] [0, 1, 2, 3, 4, 5, 6, 7, 8, 9, 12, 13, 14, 15] [0, 1, 2, 3, 4, 5, 6, 7, 8, 9, 14, 15, 10, 11, 12, 13] (wcX5_X3_10 cs a S) (by decide) hk hP1 (wbX5_X3_10 cs a S)
          have hD := hDA S
          refine lv_aload_n hx hb dX5_notesAreSo_48 rfl (lv_at hl 0 rfl) ?_
          refine va_get (D := D) (ci := 3) (v := .ref (a 10)) (C := RX5) (T := TX5) (N := 15) hx hb hts (fun w h => List.mem_cons_of_mem _ (List.mem_append_left _ (List.mem_append_right _ h))) hown hK hP 0 rfl rfl 9 (by decide) (hts (.fieldLink RX5 44 "LeastNeed$Valley" "notes" "LLeastNeed$Rows;") (List.mem_of_getElem? (i := 1) rfl)) (fun _ h9 => h9) rfl dX5_notesAreSo_49 ?_
          refine lv_iload_n hx hb dX5_notesAreSo_52 rfl (lv_at hl 3 rfl) ?_
          refine lv_iconst (v := (3 : Int32)) hx hb dX5_notesAreSo_53 (by decide) ?_
          obtain ⟨r54, hq54, hd⟩ := dn_b1 hd
          have hPc : va_P D vwCl (wX3 cs 36 (6 : Int32) (6 : Int32) (k_wi a 10) (k_wi S 10)) _ := k_sub hP [10, 11] (wcX5_X3_10 cs a S)
          have hDc : va_D A (wX3 cs 36 (6 : Int32) (6 : Int32) (k_wi a 10) (k_wi S 10)) := hD.sub [10, 11] (by decide) (wcX5_X3_10 cs a S)
          have hF := k_self hDc hS hA
          refine k_run_i (va_runV (As := [.int x3_2, .int (3 : Int32)]) (rest := [.int r45, .int r36, .int p2]) ⟨hx, hb, hml, hown, hts⟩ (mX3_cell l D cs (k_wi a 10) 36 (6 : Int32) (6 : Int32) (k_wi S 10) x3_2 (3 : Int32) r54 hq54 _) (cwV 2 hts gX5_notesAreSo_X3_cell rfl rfl rfl (by decide +kernel) ⟨Nat.le_of_ble_eq_true rfl, Nat.le_of_ble_eq_true rfl⟩) ⟨k_blind, va_recv hK hP (ci := 2) (q0 := 10) rfl rfl, k_pre hPc hK hNn hDc⟩ rfl rfl hl.1 rfl (lv_room (Nat.le_of_ble_eq_true rfl)) dX5_notesAreSo_54 ⟨Nat.le_of_ble_eq_true rfl, Nat.le_of_ble_eq_true rfl⟩) hS hF (fun H locs hP1 hk hS => ?_)
          have hP : va_P D vwCl (wX5 cs a S) _ := k_back hP hD [10, 11] [0, 1, 2, 3, 4, 5, 6, 7, 8, 9, 12, 13, 14, 15] [0, 1, 2, 3, 4, 5, 6, 7, 8, 9, 14, 15, 10, 11, 12, 13] (wcX5_X3_10 cs a S) (by decide) hk hP1 (wbX5_X3_10 cs a S)
          have hD := hDA S
          refine lv_aload_n hx hb dX5_notesAreSo_57 rfl (lv_at hl 0 rfl) ?_
          refine va_get (D := D) (ci := 3) (v := .ref (a 10)) (C := RX5) (T := TX5) (N := 15) hx hb hts (fun w h => List.mem_cons_of_mem _ (List.mem_append_left _ (List.mem_append_right _ h))) hown hK hP 0 rfl rfl 9 (by decide) (hts (.fieldLink RX5 44 "LeastNeed$Valley" "notes" "LLeastNeed$Rows;") (List.mem_of_getElem? (i := 1) rfl)) (fun _ h9 => h9) rfl dX5_notesAreSo_58 ?_
          refine lv_iload_n hx hb dX5_notesAreSo_61 rfl (lv_at hl 3 rfl) ?_
          refine lv_iconst (v := (4 : Int32)) hx hb dX5_notesAreSo_62 (by decide) ?_
          obtain ⟨r63, hq63, hd⟩ := dn_b1 hd
          have hPc : va_P D vwCl (wX3 cs 36 (6 : Int32) (6 : Int32) (k_wi a 10) (k_wi S 10)) _ := k_sub hP [10, 11] (wcX5_X3_10 cs a S)
          have hDc : va_D A (wX3 cs 36 (6 : Int32) (6 : Int32) (k_wi a 10) (k_wi S 10)) := hD.sub [10, 11] (by decide) (wcX5_X3_10 cs a S)
          have hF := k_self hDc hS hA
          refine k_run_i (va_runV (As := [.int x3_2, .int (4 : Int32)]) (rest := [.int r54, .int r45, .int r36, .int p2]) ⟨hx, hb, hml, hown, hts⟩ (mX3_cell l D cs (k_wi a 10) 36 (6 : Int32) (6 : Int32) (k_wi S 10) x3_2 (4 : Int32) r63 hq63 _) (cwV 2 hts gX5_notesAreSo_X3_cell rfl rfl rfl (by decide +kernel) ⟨Nat.le_of_ble_eq_true rfl, Nat.le_of_ble_eq_true rfl⟩) ⟨k_blind, va_recv hK hP (ci := 2) (q0 := 10) rfl rfl, k_pre hPc hK hNn hDc⟩ rfl rfl hl.1 rfl (lv_room (Nat.le_of_ble_eq_true rfl)) dX5_notesAreSo_63 ⟨Nat.le_of_ble_eq_true rfl, Nat.le_of_ble_eq_true rfl⟩) hS hF (fun H locs hP1 hk hS => ?_)
          have hP : va_P D vwCl (wX5 cs a S) _ := k_back hP hD [10, 11] [0, 1, 2, 3, 4, 5, 6, 7, 8, 9, 12, 13, 14, 15] [0, 1, 2, 3, 4, 5, 6, 7, 8, 9, 14, 15, 10, 11, 12, 13] (wcX5_X3_10 cs a S) (by decide) hk hP1 (wbX5_X3_10 cs a S)
          have hD := hDA S
          obtain ⟨r66, hq66, hd⟩ := dn_b1 hd
          have hPc := k_P0 hP
          have hDc : va_D A ([] : va_W) := k_D0
          have hF := k_self hDc hS hA
          refine k_run_i (va_runS (As := [.int p2, .int r36, .int r45, .int r54, .int r63]) (rest := []) ⟨hx, hb, hml, hown, hts⟩ (mX1_shown l D cs  p2 r36 r45 r54 r63 r66 hq66 _) (va_cwS 5 hts gX5_notesAreSo_X1_shown rfl rfl rfl (by decide +kernel) ⟨Nat.le_of_ble_eq_true rfl, Nat.le_of_ble_eq_true rfl⟩) ⟨k_blind, k_pre hPc hK hNn hDc⟩ rfl rfl hl.1 rfl (lv_room (Nat.le_of_ble_eq_true rfl)) dX5_notesAreSo_66 ⟨Nat.le_of_ble_eq_true rfl, Nat.le_of_ble_eq_true rfl⟩) hS hF (fun H locs hP1 hk hS => ?_)
          have hP : va_P D vwCl (wX5 cs a S) _ := k_keep hP hk
          refine lv_istore (lv' := [(4, .int r66), (0, .ref (a 0)), (1, .int p1), (2, .int p2), (3, .int x3_2)]) hx hb dX5_notesAreSo_69 hl (by decide) rfl (fun ls hl => ?_)
          refine lv_iload hx hb dX5_notesAreSo_71 (lv_at hl 0 rfl) ?_
          refine lv_aload_n hx hb dX5_notesAreSo_73 rfl (lv_at hl 1 rfl) ?_
          refine va_get (D := D) (ci := 3) (v := .ref (a 10)) (C := RX5) (T := TX5) (N := 15) hx hb hts (fun w h => List.mem_cons_of_mem _ (List.mem_append_left _ (List.mem_append_right _ h))) hown hK hP 0 rfl rfl 9 (by decide) (hts (.fieldLink RX5 44 "LeastNeed$Valley" "notes" "LLeastNeed$Rows;") (List.mem_of_getElem? (i := 1) rfl)) (fun _ h9 => h9) rfl dX5_notesAreSo_74 ?_
          refine lv_iload_n hx hb dX5_notesAreSo_77 rfl (lv_at hl 4 rfl) ?_
          refine lv_iconst (v := (5 : Int32)) hx hb dX5_notesAreSo_78 (by decide) ?_
          obtain ⟨r79, hq79, hd⟩ := dn_b1 hd
          have hPc : va_P D vwCl (wX3 cs 36 (6 : Int32) (6 : Int32) (k_wi a 10) (k_wi S 10)) _ := k_sub hP [10, 11] (wcX5_X3_10 cs a S)
          have hDc : va_D A (wX3 cs 36 (6 : Int32) (6 : Int32) (k_wi a 10) (k_wi S 10)) := hD.sub [10, 11] (by decide) (wcX5_X3_10 cs a S)
          have hF := k_self hDc hS hA
          refine k_run_i (va_runV (As := [.int x3_2, .int (5 : Int32)]) (rest := [.int r66]) ⟨hx, hb, hml, hown, hts⟩ (mX3_cell l D cs (k_wi a 10) 36 (6 : Int32) (6 : Int32) (k_wi S 10) x3_2 (5 : Int32) r79 hq79 _) (cwV 2 hts gX5_notesAreSo_X3_cell rfl rfl rfl (by decide +kernel) ⟨Nat.le_of_ble_eq_true rfl, Nat.le_of_ble_eq_true rfl⟩) ⟨k_blind, va_recv hK hP (ci := 2) (q0 := 10) rfl rfl, k_pre hPc hK hNn hDc⟩ rfl rfl hl.1 rfl (lv_room (Nat.le_of_ble_eq_true rfl)) dX5_notesAreSo_79 ⟨Nat.le_of_ble_eq_true rfl, Nat.le_of_ble_eq_true rfl⟩) hS hF (fun H locs hP1 hk hS => ?_)
          have hP : va_P D vwCl (wX5 cs a S) _ := k_back hP hD [10, 11] [0, 1, 2, 3, 4, 5, 6, 7, 8, 9, 12, 13, 14, 15] [0, 1, 2, 3, 4, 5, 6, 7, 8, 9, 14, 15, 10, 11, 12, 13] (wcX5_X3_10 cs a S) (by decide) hk hP1 (wbX5_X3_10 cs a S)
          have hD := hDA S
          refine lv_icmp_eq (tgt := 87) hx hb dX5_notesAreSo_82 (by decide) (fun c82 => ?_) (fun c82 => ?_)
          · have hd := dn_t c82 hd
            refine lv_iinc (v := x3_2 + (1 : Int32)) (lv' := [(3, .int (x3_2 + (1 : Int32))), (4, .int r66), (0, .ref (a 0)), (1, .int p1), (2, .int p2)]) hx hb dX5_notesAreSo_87 hl (k := 4) rfl rfl (by decide) rfl (fun ls hl => ?_)
            refine lv_goto (tgt := 2) hx hb dX5_notesAreSo_90 (by decide) ?_
            exact ih1 (x3_2 + (1 : Int32)) _ _ _ (dn_bk hd hy1) (lv_sub hl [2, 3, 4, 0] rfl) hP hS
          · have hd := dn_f c82 hd
            have hd := dn_up hd hy1
            refine lv_iconst (v := (0 : Int32)) hx hb dX5_notesAreSo_85 (by decide) ?_
            have e1 := dn_s1 hd
            exact k_zret hx hb hr rfl hQ hAe e1 rfl hP hS hlocks dX5_notesAreSo_86
        · have hd := dn_f c23 hd
          refine lv_goto (tgt := 87) hx hb dX5_notesAreSo_26 (by decide) ?_
          refine lv_iinc (v := x3_2 + (1 : Int32)) (lv' := [(3, .int (x3_2 + (1 : Int32))), (0, .ref (a 0)), (1, .int p1), (2, .int p2)]) hx hb dX5_notesAreSo_87 hl (k := 3) rfl rfl (by decide) rfl (fun ls hl => ?_)
          refine lv_goto (tgt := 2) hx hb dX5_notesAreSo_90 (by decide) ?_
          exact ih1 (x3_2 + (1 : Int32)) _ _ _ (dn_bk hd hy1) (lv_sub hl [1, 2, 3, 0] rfl) hP hS
  unfold nX5_notesAreSo at hd
  refine lv_iconst (v := (0 : Int32)) hx hb dX5_notesAreSo_0 (by decide) ?_
  refine lv_istore_n (lv' := [(3, .int (0 : Int32)), (0, .ref (a 0)), (1, .int p1), (2, .int p2)]) hx hb dX5_notesAreSo_1 rfl hl (by decide) rfl (fun ls hl => ?_)
  exact Lo2 1000 (0 : Int32) _ _ _ hd (lv_sub hl [1, 2, 3, 0] rfl) hP hS
-- LeastNeed$Valley.kindsByNotes(I)I
set_option maxRecDepth 20000 in
def nX5_kindsByNotes_l4 (p1 : Int32) (x2_4 : Int32) (x3_4 : Int32) (S : Nat → Nat → Int32) : Option ((Int32 × Int32) ⊕ (Int32)) := if (6 : Int32) ≤ x3_4 then k_up (some x2_4) else k_b1 (nX5_notesAreSo S p1 x3_4) (fun r13 => if r13 = 0 then some (.inl (x2_4, (x3_4 + (1 : Int32)))) else some (.inl ((x2_4 ||| ((1 : Int32) <<< (x3_4 &&& 31))), (x3_4 + (1 : Int32)))))
set_option maxRecDepth 20000 in
def nX5_kindsByNotes (S : Nat → Nat → Int32) (p1 : Int32) : Option (Int32) := k_it (fun st => nX5_kindsByNotes_l4 p1 st.1 st.2 S) 1000 ((0 : Int32), (0 : Int32))
set_option maxHeartbeats 4000000 in
set_option maxRecDepth 100000 in
theorem mX5_kindsByNotes (l : Launch) (D : va_G) (cs : Nat → ClassId) (a : Nat → Nat) (S : Nat → Nat → Int32) (p1 : Int32) (r9 : Int32) (hd : nX5_kindsByNotes S p1 = some r9) : ∀ sz : Nat, Met l yX5_kindsByNotes wsX5_kindsByNotes ({ frames := 2, cells := 0, slots := 0, locals := 51 }) (k_Pc D cs [.ref (a 0), .int p1] (wX5 cs a S) sz) (k_Qi D r9 (wX5 cs a S) (wX5 cs a S) sz) 0 0 (va_A (wX5 cs a S) sz) := by
  intro sz
  refine Met.ofW (cc := cX5_kindsByNotes) (maxL := 4) (ret := (some .int)) (by decide) rfl ?_
  intro p e s m args below meth c s₁ B hml hv
  obtain ⟨rfl, hsz, hP, hK, hD0, hNn⟩ := hv
  have hx := B.exec
  have hb := B.bytes
  have hr := B.returns
  have hts := atoms_spec (ws := wsX5_kindsByNotes) B.pre
  have hown : s.vm.findClass RX5 = some m.cls := findClass_of_methodNamed B.named
  have hlocks := B.notSynchronized
  subst hsz
  obtain ⟨A, hAe⟩ : ∃ A : Nat → Prop, A = va_A (wX5 cs a S) s.heap.size := ⟨_, rfl⟩
  have hD : va_D A (wX5 cs a S) := by rw [hAe]; exact hD0.self
  have hA : ∀ q : Nat, s.heap.size ≤ q → A q := fun q h => by rw [hAe]; exact Or.inr h
  have hS : va_S A s.heap s.heap [] := va_S.rf
  have hDA : ∀ (S : Nat → Nat → Int32), va_D A (wX5 cs a S) := fun S => k_DA hD rfl
  have hl := lv_entry ([.ref (a 0), .int p1]) (n := 4) (Nat.le_of_ble_eq_true rfl)
  rw [lg_entry_eq]
  generalize (lg_sl ([.ref (a 0), .int p1]) ++ List.replicate (4 - (lg_sl ([.ref (a 0), .int p1])).length) Slot.unset).toArray = ls at hl ⊢
  have hl : lv_has ls 4 [(0, .ref (a 0)), (1, .int p1)] := hl
  obtain ⟨Q, hQ⟩ : ∃ Q, Q = MQ below (k_Qi D r9 (wX5 cs a S) (wX5 cs a S) s.heap.size) ([.ref (a 0), .int p1] : List Value).toArray s 0 0 (va_A (wX5 cs a S) s.heap.size) := ⟨_, rfl⟩
  rw [← hQ]
  have Lo4 : ∀ (n1 : Nat) (x2_4 : Int32) (x3_4 : Int32) (H : Heap) (locs : List Loc) (ls : Array Slot), k_it (fun st => nX5_kindsByNotes_l4 p1 st.1 st.2 S) n1 (x2_4, x3_4) = some r9 → lv_has ls 4 [(0, .ref (a 0)), (1, .int p1), (2, .int x2_4), (3, .int x3_4)] → va_P D vwCl (wX5 cs a S) H → va_S A s.heap H locs → W p l e (headSpec wsX5_kindsByNotes ({ frames := 2, cells := 0, slots := 0, locals := 51 })).room s m ([.ref (a 0), .int p1] : List Value).toArray below meth c H locs 0 0 Q (F0 m 4 ls []) := by
    intro n1
    induction n1 with
    | zero => intro x2_4 x3_4 H locs ls hd; exact dn_it0 hd
    | succ n1 ih1 =>
      intro x2_4 x3_4 H locs ls hd hl hP hS
      have hD := hDA S
      obtain ⟨y1, hd, hy1⟩ := dn_it hd
      have hd : nX5_kindsByNotes_l4 p1 x2_4 x3_4 S = some y1 := hd
      unfold nX5_kindsByNotes_l4 at hd
      refine lv_iload_n hx hb dX5_kindsByNotes_4 rfl (lv_at hl 3 rfl) ?_
      refine lv_bipush (v := (6 : Int32)) hx hb dX5_kindsByNotes_5 (by decide) ?_
      refine lv_icmp_ge (tgt := 31) hx hb dX5_kindsByNotes_7 (by decide) (fun c7 => ?_) (fun c7 => ?_)
      · have hd := dn_t c7 hd
        have hd := dn_up hd hy1
        refine lv_iload_n hx hb dX5_kindsByNotes_31 rfl (lv_at hl 2 rfl) ?_
        have e1 := dn_s1 hd
        exact k_iret hx hb hr hQ hAe e1 rfl hP hS hlocks dX5_kindsByNotes_32
      · have hd := dn_f c7 hd
        refine lv_aload_n hx hb dX5_kindsByNotes_10 rfl (lv_at hl 0 rfl) ?_
        refine lv_iload_n hx hb dX5_kindsByNotes_11 rfl (lv_at hl 1 rfl) ?_
        refine lv_iload_n hx hb dX5_kindsByNotes_12 rfl (lv_at hl 3 rfl) ?_
        obtain ⟨r13, hq13, hd⟩ := dn_b1 hd
        have hF := k_self hD hS hA
        refine k_run_i (va_runV (As := [.int p1, .int x3_4]) (rest := []) ⟨hx, hb, hml, hown, hts⟩ (mX5_notesAreSo l D cs a S p1 x3_4 r13 hq13 _) (cwV 2 hts gX5_kindsByNotes_X5_notesAreSo rfl rfl rfl (by decide +kernel) ⟨Nat.le_of_ble_eq_true rfl, Nat.le_of_ble_eq_true rfl⟩) ⟨k_blind, va_recv hK hP (ci := 3) (q0 := 0) rfl rfl, k_pre hP hK hNn hD⟩ rfl rfl hl.1 rfl (lv_room (Nat.le_of_ble_eq_true rfl)) dX5_kindsByNotes_13 ⟨Nat.le_of_ble_eq_true rfl, Nat.le_of_ble_eq_true rfl⟩) hS hF (fun H locs hP1 hk hS => ?_)
        have hP : va_P D vwCl (wX5 cs a S) _ := hP1
        have hD := hDA S
        refine lv_if_eq (tgt := 25) hx hb dX5_kindsByNotes_16 (by decide) (fun c16 => ?_) (fun c16 => ?_)
        · have hd := dn_t c16 hd
          refine lv_iinc (v := x3_4 + (1 : Int32)) (lv' := [(3, .int (x3_4 + (1 : Int32))), (0, .ref (a 0)), (1, .int p1), (2, .int x2_4)]) hx hb dX5_kindsByNotes_25 hl (k := 3) rfl rfl (by decide) rfl (fun ls hl => ?_)
          refine lv_goto (tgt := 4) hx hb dX5_kindsByNotes_28 (by decide) ?_
          exact ih1 x2_4 (x3_4 + (1 : Int32)) _ _ _ (dn_bk hd hy1) (lv_sub hl [1, 2, 3, 0] rfl) hP hS
        · have hd := dn_f c16 hd
          refine lv_iload_n hx hb dX5_kindsByNotes_19 rfl (lv_at hl 2 rfl) ?_
          refine lv_iconst (v := (1 : Int32)) hx hb dX5_kindsByNotes_20 (by decide) ?_
          refine lv_iload_n hx hb dX5_kindsByNotes_21 rfl (lv_at hl 3 rfl) ?_
          refine lv_ishl hx hb dX5_kindsByNotes_22 ?_
          refine lv_ior hx hb dX5_kindsByNotes_23 ?_
          refine lv_istore_n (lv' := [(2, .int (x2_4 ||| ((1 : Int32) <<< (x3_4 &&& 31)))), (0, .ref (a 0)), (1, .int p1), (3, .int x3_4)]) hx hb dX5_kindsByNotes_24 rfl hl (by decide) rfl (fun ls hl => ?_)
          refine lv_iinc (v := x3_4 + (1 : Int32)) (lv' := [(3, .int (x3_4 + (1 : Int32))), (2, .int (x2_4 ||| ((1 : Int32) <<< (x3_4 &&& 31)))), (0, .ref (a 0)), (1, .int p1)]) hx hb dX5_kindsByNotes_25 hl (k := 3) rfl rfl (by decide) rfl (fun ls hl => ?_)
          refine lv_goto (tgt := 4) hx hb dX5_kindsByNotes_28 (by decide) ?_
          exact ih1 (x2_4 ||| ((1 : Int32) <<< (x3_4 &&& 31))) (x3_4 + (1 : Int32)) _ _ _ (dn_bk hd hy1) (lv_sub hl [2, 3, 1, 0] rfl) hP hS
  unfold nX5_kindsByNotes at hd
  refine lv_iconst (v := (0 : Int32)) hx hb dX5_kindsByNotes_0 (by decide) ?_
  refine lv_istore_n (lv' := [(2, .int (0 : Int32)), (0, .ref (a 0)), (1, .int p1)]) hx hb dX5_kindsByNotes_1 rfl hl (by decide) rfl (fun ls hl => ?_)
  refine lv_iconst (v := (0 : Int32)) hx hb dX5_kindsByNotes_2 (by decide) ?_
  refine lv_istore_n (lv' := [(3, .int (0 : Int32)), (2, .int (0 : Int32)), (0, .ref (a 0)), (1, .int p1)]) hx hb dX5_kindsByNotes_3 rfl hl (by decide) rfl (fun ls hl => ?_)
  exact Lo4 1000 (0 : Int32) (0 : Int32) _ _ _ hd (lv_sub hl [2, 3, 1, 0] rfl) hP hS
-- LeastNeed$Valley.comingsAreSo(II)Z
set_option maxRecDepth 20000 in
def nX5_comingsAreSo_l2 (p1 : Int32) (p2 : Int32) (x3_2 : Int32) (S : Nat → Nat → Int32) : Option ((Int32) ⊕ (Int32)) := if (S 12 3) ≤ x3_2 then k_up (some (1 : Int32)) else k_b1 (nX3_cell 24 (4 : Int32) (6 : Int32) (k_wi S 12) x3_2 (0 : Int32)) (fun r19 => if r19 = p1 then if p1 < 0 ∨ 5 ≤ p1.toNatClampNeg then none else k_b1 (nX3_cell 24 (4 : Int32) (6 : Int32) (k_wi S 12) x3_2 (1 : Int32)) (fun r43 => k_b1 (nX3_cell 24 (4 : Int32) (6 : Int32) (k_wi S 12) x3_2 (2 : Int32)) (fun r52 => k_b1 (nX5_goesTo S p2 (S 6 p1.toNatClampNeg) r43 r52) (fun r55 => k_b1 (nX3_cell 24 (4 : Int32) (6 : Int32) (k_wi S 12) x3_2 (3 : Int32)) (fun r68 => if r55 = r68 then some (.inl (x3_2 + (1 : Int32))) else k_up (some (0 : Int32)))))) else some (.inl (x3_2 + (1 : Int32))))
set_option maxRecDepth 20000 in
def nX5_comingsAreSo (S : Nat → Nat → Int32) (p1 : Int32) (p2 : Int32) : Option (Int32) := k_it (fun st => nX5_comingsAreSo_l2 p1 p2 st S) 1000 (0 : Int32)
set_option maxHeartbeats 4000000 in
set_option maxRecDepth 100000 in
theorem mX5_comingsAreSo (l : Launch) (D : va_G) (cs : Nat → ClassId) (a : Nat → Nat) (S : Nat → Nat → Int32) (p1 : Int32) (p2 : Int32) (r9 : Int32) (hd : nX5_comingsAreSo S p1 p2 = some r9) : ∀ sz : Nat, Met l yX5_comingsAreSo wsX5_comingsAreSo ({ frames := 3, cells := 0, slots := 0, locals := 84 }) (k_Pc D cs [.ref (a 0), .int p1, .int p2] (wX5 cs a S) sz) (k_Qi D r9 (wX5 cs a S) (wX5 cs a S) sz) 0 0 (va_A (wX5 cs a S) sz) := by
  intro sz
  refine Met.ofW (cc := cX5_comingsAreSo) (maxL := 5) (ret := (some .boolean)) (by decide) rfl ?_
  intro p e s m args below meth c s₁ B hml hv
  obtain ⟨rfl, hsz, hP, hK, hD0, hNn⟩ := hv
  have hx := B.exec
  have hb := B.bytes
  have hr := B.returns
  have hts := atoms_spec (ws := wsX5_comingsAreSo) B.pre
  have hown : s.vm.findClass RX5 = some m.cls := findClass_of_methodNamed B.named
  have hlocks := B.notSynchronized
  subst hsz
  obtain ⟨A, hAe⟩ : ∃ A : Nat → Prop, A = va_A (wX5 cs a S) s.heap.size := ⟨_, rfl⟩
  have hD : va_D A (wX5 cs a S) := by rw [hAe]; exact hD0.self
  have hA : ∀ q : Nat, s.heap.size ≤ q → A q := fun q h => by rw [hAe]; exact Or.inr h
  have hS : va_S A s.heap s.heap [] := va_S.rf
  have hDA : ∀ (S : Nat → Nat → Int32), va_D A (wX5 cs a S) := fun S => k_DA hD rfl
  have hl := lv_entry ([.ref (a 0), .int p1, .int p2]) (n := 5) (Nat.le_of_ble_eq_true rfl)
  rw [lg_entry_eq]
  generalize (lg_sl ([.ref (a 0), .int p1, .int p2]) ++ List.replicate (5 - (lg_sl ([.ref (a 0), .int p1, .int p2])).length) Slot.unset).toArray = ls at hl ⊢
  have hl : lv_has ls 5 [(0, .ref (a 0)), (1, .int p1), (2, .int p2)] := hl
  obtain ⟨Q, hQ⟩ : ∃ Q, Q = MQ below (k_Qi D r9 (wX5 cs a S) (wX5 cs a S) s.heap.size) ([.ref (a 0), .int p1, .int p2] : List Value).toArray s 0 0 (va_A (wX5 cs a S) s.heap.size) := ⟨_, rfl⟩
  rw [← hQ]
  have Lo2 : ∀ (n1 : Nat) (x3_2 : Int32) (H : Heap) (locs : List Loc) (ls : Array Slot), k_it (fun st => nX5_comingsAreSo_l2 p1 p2 st S) n1 x3_2 = some r9 → lv_has ls 5 [(0, .ref (a 0)), (1, .int p1), (2, .int p2), (3, .int x3_2)] → va_P D vwCl (wX5 cs a S) H → va_S A s.heap H locs → W p l e (headSpec wsX5_comingsAreSo ({ frames := 3, cells := 0, slots := 0, locals := 84 })).room s m ([.ref (a 0), .int p1, .int p2] : List Value).toArray below meth c H locs 0 0 Q (F0 m 2 ls []) := by
    intro n1
    induction n1 with
    | zero => intro x3_2 H locs ls hd; exact dn_it0 hd
    | succ n1 ih1 =>
      intro x3_2 H locs ls hd hl hP hS
      have hD := hDA S
      obtain ⟨y1, hd, hy1⟩ := dn_it hd
      have hd : nX5_comingsAreSo_l2 p1 p2 x3_2 S = some y1 := hd
      unfold nX5_comingsAreSo_l2 at hd
      refine lv_iload_n hx hb dX5_comingsAreSo_2 rfl (lv_at hl 3 rfl) ?_
      refine lv_aload_n hx hb dX5_comingsAreSo_3 rfl (lv_at hl 0 rfl) ?_
      refine va_get (D := D) (ci := 3) (v := .ref (a 12)) (C := RX5) (T := TX5) (N := 15) hx hb hts (fun w h => List.mem_cons_of_mem _ (List.mem_append_left _ (List.mem_append_right _ h))) hown hK hP 0 rfl rfl 10 (by decide) (hts (.fieldLink RX5 48 "LeastNeed$Valley" "cames" "LLeastNeed$Rows;") (List.mem_of_getElem? (i := 1) rfl)) (fun _ h9 => h9) rfl dX5_comingsAreSo_4 ?_
      refine va_get (D := D) (ci := 2) (v := .int (S 12 3)) (C := RX3) (T := TX3) (N := 4) hx hb hts (fun w h => List.mem_cons_of_mem _ (List.mem_append_right _ h)) hown hK hP 12 rfl rfl 3 (by decide) (hts (.fieldLink RX5 64 "LeastNeed$Rows" "used" "I") (List.mem_of_getElem? (i := 2) rfl)) (fun _ h9 => h9) rfl dX5_comingsAreSo_7 ?_
      refine lv_icmp_ge (tgt := 82) hx hb dX5_comingsAreSo_10 (by decide) (fun c10 => ?_) (fun c10 => ?_)
      · have hd := dn_t c10 hd
        have hd := dn_up hd hy1
        refine lv_iconst (v := (1 : Int32)) hx hb dX5_comingsAreSo_82 (by decide) ?_
        have e1 := dn_s1 hd
        exact k_zret hx hb hr rfl hQ hAe e1 rfl hP hS hlocks dX5_comingsAreSo_83
      · have hd := dn_f c10 hd
        refine lv_aload_n hx hb dX5_comingsAreSo_13 rfl (lv_at hl 0 rfl) ?_
        refine va_get (D := D) (ci := 3) (v := .ref (a 12)) (C := RX5) (T := TX5) (N := 15) hx hb hts (fun w h => List.mem_cons_of_mem _ (List.mem_append_left _ (List.mem_append_right _ h))) hown hK hP 0 rfl rfl 10 (by decide) (hts (.fieldLink RX5 48 "LeastNeed$Valley" "cames" "LLeastNeed$Rows;") (List.mem_of_getElem? (i := 1) rfl)) (fun _ h9 => h9) rfl dX5_comingsAreSo_14 ?_
        refine lv_iload_n hx hb dX5_comingsAreSo_17 rfl (lv_at hl 3 rfl) ?_
        refine lv_iconst (v := (0 : Int32)) hx hb dX5_comingsAreSo_18 (by decide) ?_
        obtain ⟨r19, hq19, hd⟩ := dn_b1 hd
        have hPc : va_P D vwCl (wX3 cs 24 (4 : Int32) (6 : Int32) (k_wi a 12) (k_wi S 12)) _ := k_sub hP [12, 13] (wcX5_X3_12 cs a S)
        have hDc : va_D A (wX3 cs 24 (4 : Int32) (6 : Int32) (k_wi a 12) (k_wi S 12)) := hD.sub [12, 13] (by decide) (wcX5_X3_12 cs a S)
        have hF := k_self hDc hS hA
        refine k_run_i (va_runV (As := [.int x3_2, .int (0 : Int32)]) (rest := []) ⟨hx, hb, hml, hown, hts⟩ (mX3_cell l D cs (k_wi a 12) 24 (4 : Int32) (6 : Int32) (k_wi S 12) x3_2 (0 : Int32) r19 hq19 _) (cwV 2 hts gX5_comingsAreSo_X3_cell rfl rfl rfl (by decide +kernel) ⟨Nat.le_of_ble_eq_true rfl, Nat.le_of_ble_eq_true rfl⟩) ⟨k_blind, va_recv hK hP (ci := 2) (q0 := 12) rfl rfl, k_pre hPc hK hNn hDc⟩ rfl rfl hl.1 rfl (lv_room (Nat.le_of_ble_eq_true rfl)) dX5_comingsAreSo_19 ⟨Nat.le_of_ble_eq_true rfl, Nat.le_of_ble_eq_true rfl⟩) hS hF (fun H locs hP1 hk hS => ?_)
        have hP : va_P D vwCl (wX5 cs a S) _ := k_back hP hD [12, 13] [0, 1, 2, 3, 4, 5, 6, 7, 8, 9, 10, 11, 14, 15] [0, 1, 2, 3, 4, 5, 6, 7, 8, 9, 10, 11, 14, 15, 12, 13] (wcX5_X3_12 cs a S) (by decide) hk hP1 (wbX5_X3_12 cs a S)
        have hD := hDA S
        refine lv_iload_n hx hb dX5_comingsAreSo_22 rfl (lv_at hl 1 rfl) ?_
        refine lv_icmp_eq (tgt := 29) hx hb dX5_comingsAreSo_23 (by decide) (fun c23 => ?_) (fun c23 => ?_)
        · have hd := dn_t c23 hd
          refine lv_aload_n hx hb dX5_comingsAreSo_29 rfl (lv_at hl 0 rfl) ?_
          refine lv_iload_n hx hb dX5_comingsAreSo_30 rfl (lv_at hl 2 rfl) ?_
          refine lv_aload_n hx hb dX5_comingsAreSo_31 rfl (lv_at hl 0 rfl) ?_
          refine va_get (D := D) (ci := 3) (v := .ref (a 6)) (C := RX5) (T := TX5) (N := 15) hx hb hts (fun w h => List.mem_cons_of_mem _ (List.mem_append_left _ (List.mem_append_right _ h))) hown hK hP 0 rfl rfl 5 (by decide) (hts (.fieldLink RX5 27 "LeastNeed$Valley" "sort" "[I") (List.mem_of_getElem? (i := 3) rfl)) (fun _ h9 => h9) rfl dX5_comingsAreSo_32 ?_
          refine lv_iload_n hx hb dX5_comingsAreSo_35 rfl (lv_at hl 1 rfl) ?_
          obtain ⟨hi36, hd⟩ := dn_i hd
          refine k_iald (D := D) (k := p1.toNatClampNeg) (by rfl) hx hb hK hP 6 1 rfl rfl hi36 dX5_comingsAreSo_36 ?_
          refine lv_aload_n hx hb dX5_comingsAreSo_37 rfl (lv_at hl 0 rfl) ?_
          refine va_get (D := D) (ci := 3) (v := .ref (a 12)) (C := RX5) (T := TX5) (N := 15) hx hb hts (fun w h => List.mem_cons_of_mem _ (List.mem_append_left _ (List.mem_append_right _ h))) hown hK hP 0 rfl rfl 10 (by decide) (hts (.fieldLink RX5 48 "LeastNeed$Valley" "cames" "LLeastNeed$Rows;") (List.mem_of_getElem? (i := 1) rfl)) (fun _ h9 => h9) rfl dX5_comingsAreSo_38 ?_
          refine lv_iload_n hx hb dX5_comingsAreSo_41 rfl (lv_at hl 3 rfl) ?_
          refine lv_iconst (v := (1 : Int32)) hx hb dX5_comingsAreSo_42 (by decide) ?_
          obtain ⟨r43, hq43, hd⟩ := dn_b1 hd
          have hPc : va_P D vwCl (wX3 cs 24 (4 : Int32) (6 : Int32) (k_wi a 12) (k_wi S 12)) _ := k_sub hP [12, 13] (wcX5_X3_12 cs a S)
          have hDc : va_D A (wX3 cs 24 (4 : Int32) (6 : Int32) (k_wi a 12) (k_wi S 12)) := hD.sub [12, 13] (by decide) (wcX5_X3_12 cs a S)
          have hF := k_self hDc hS hA
          refine k_run_i (va_runV (As := [.int x3_2, .int (1 : Int32)]) (rest := [.int (S 6 p1.toNatClampNeg), .int p2, .ref (a 0)]) ⟨hx, hb, hml, hown, hts⟩ (mX3_cell l D cs (k_wi a 12) 24 (4 : Int32) (6 : Int32) (k_wi S 12) x3_2 (1 : Int32) r43 hq43 _) (cwV 2 hts gX5_comingsAreSo_X3_cell rfl rfl rfl (by decide +kernel) ⟨Nat.le_of_ble_eq_true rfl, Nat.le_of_ble_eq_true rfl⟩) ⟨k_blind, va_recv hK hP (ci := 2) (q0 := 12) rfl rfl, k_pre hPc hK hNn hDc⟩ rfl rfl hl.1 rfl (lv_room (Nat.le_of_ble_eq_true rfl)) dX5_comingsAreSo_43 ⟨Nat.le_of_ble_eq_true rfl, Nat.le_of_ble_eq_true rfl⟩) hS hF (fun H locs hP1 hk hS => ?_)
          have hP : va_P D vwCl (wX5 cs a S) _ := k_back hP hD [12, 13] [0, 1, 2, 3, 4, 5, 6, 7, 8, 9, 10, 11, 14, 15] [0, 1, 2, 3, 4, 5, 6, 7, 8, 9, 10, 11, 14, 15, 12, 13] (wcX5_X3_12 cs a S) (by decide) hk hP1 (wbX5_X3_12 cs a S)
          have hD := hDA S
          refine lv_aload_n hx hb dX5_comingsAreSo_46 rfl (lv_at hl 0 rfl) ?_
          refine va_get (D := D) (ci := 3) (v := .ref (a 12)) (C := RX5) (T := TX5) (N := 15) hx hb hts (fun w h => List.mem_cons_of_mem _ (List.mem_append_left _ (List.mem_append_right _ h))) hown hK hP 0 rfl rfl 10 (by decide) (hts (.fieldLink RX5 48 "LeastNeed$Valley" "cames" "LLeastNeed$Rows;") (List.mem_of_getElem? (i := 1) rfl)) (fun _ h9 => h9) rfl dX5_comingsAreSo_47 ?_
          refine lv_iload_n hx hb dX5_comingsAreSo_50 rfl (lv_at hl 3 rfl) ?_
          refine lv_iconst (v := (2 : Int32)) hx hb dX5_comingsAreSo_51 (by decide) ?_
          obtain ⟨r52, hq52, hd⟩ := dn_b1 hd
          have hPc : va_P D vwCl (wX3 cs 24 (4 : Int32) (6 : Int32) (k_wi a 12) (k_wi S 12)) _ := k_sub hP [12, 13] (wcX5_X3_12 cs a S)
          have hDc : va_D A (wX3 cs 24 (4 : Int32) (6 : Int32) (k_wi a 12) (k_wi S 12)) := hD.sub [12, 13] (by decide) (wcX5_X3_12 cs a S)
          have hF := k_self hDc hS hA
          refine k_run_i (va_runV (As := [.int x3_2, .int (2 : Int32)]) (rest := [.int r43, .int (S 6 p1.toNatClampNeg), .int p2, .ref (a 0)]) ⟨hx, hb, hml, hown, hts⟩ (mX3_cell l D cs (k_wi a 12) 24 (4 : Int32) (6 : Int32) (k_wi S 12) x3_2 (2 : Int32) r52 hq52 _) (cwV 2 hts gX5_comingsAreSo_X3_cell rfl rfl rfl (by decide +kernel) ⟨Nat.le_of_ble_eq_true rfl, Nat.le_of_ble_eq_true rfl⟩) ⟨k_blind, va_recv hK hP (ci := 2) (q0 := 12) rfl rfl, k_pre hPc hK hNn hDc⟩ rfl rfl hl.1 rfl (lv_room (Nat.le_of_ble_eq_true rfl)) dX5_comingsAreSo_52 ⟨Nat.le_of_ble_eq_true rfl, Nat.le_of_ble_eq_true rfl⟩) hS hF (fun H locs hP1 hk hS => ?_)
          have hP : va_P D vwCl (wX5 cs a S) _ := k_back hP hD [12, 13] [0, 1, 2, 3, 4, 5, 6, 7, 8, 9, 10, 11, 14, 15] [0, 1, 2, 3, 4, 5, 6, 7, 8, 9, 10, 11, 14, 15, 12, 13] (wcX5_X3_12 cs a S) (by decide) hk hP1 (wbX5_X3_12 cs a S)
          have hD := hDA S
          obtain ⟨r55, hq55, hd⟩ := dn_b1 hd
          have hF := k_self hD hS hA
          refine k_run_i (va_runV (As := [.int p2, .int (S 6 p1.toNatClampNeg), .int r43, .int r52]) (rest := []) ⟨hx, hb, hml, hown, hts⟩ (mX5_goesTo l D cs a S p2 (S 6 p1.toNatClampNeg) r43 r52 r55 hq55 _) (cwV 4 hts gX5_comingsAreSo_X5_goesTo rfl rfl rfl (by decide +kernel) ⟨Nat.le_of_ble_eq_true rfl, Nat.le_of_ble_eq_true rfl⟩) ⟨k_blind, va_recv hK hP (ci := 3) (q0 := 0) rfl rfl, k_pre hP hK hNn hD⟩ rfl rfl hl.1 rfl (lv_room (Nat.le_of_ble_eq_true rfl)) dX5_comingsAreSo_55 ⟨Nat.le_of_ble_eq_true rfl, Nat.le_of_ble_eq_true rfl⟩) hS hF (fun H locs hP1 hk hS => ?_)
          have hP : va_P D vwCl (wX5 cs a S) _ := hP1
          have hD := hDA S
          refine lv_istore (lv' := [(4, .int r55), (0, .ref (a 0)), (1, .int p1), (2, .int p2), (3, .int x3_2)]) hx hb dX5_comingsAreSo_58 hl (by decide) rfl (fun ls hl => ?_)
          refine lv_iload hx hb dX5_comingsAreSo_60 (lv_at hl 0 rfl) ?_
          refine lv_aload_n hx hb dX5_comingsAreSo_62 rfl (lv_at hl 1 rfl) ?_
          refine va_get (D := D) (ci := 3) (v := .ref (a 12)) (C := RX5) (T := TX5) (N := 15) hx hb hts (fun w h => List.mem_cons_of_mem _ (List.mem_append_left _ (List.mem_append_right _ h))) hown hK hP 0 rfl rfl 10 (by decide) (hts (.fieldLink RX5 48 "LeastNeed$Valley" "cames" "LLeastNeed$Rows;") (List.mem_of_getElem? (i := 1) rfl)) (fun _ h9 => h9) rfl dX5_comingsAreSo_63 ?_
          refine lv_iload_n hx hb dX5_comingsAreSo_66 rfl (lv_at hl 4 rfl) ?_
          refine lv_iconst (v := (3 : Int32)) hx hb dX5_comingsAreSo_67 (by decide) ?_
          obtain ⟨r68, hq68, hd⟩ := dn_b1 hd
          have hPc : va_P D vwCl (wX3 cs 24 (4 : Int32) (6 : Int32) (k_wi a 12) (k_wi S 12)) _ := k_sub hP [12, 13] (wcX5_X3_12 cs a S)
          have hDc : va_D A (wX3 cs 24 (4 : Int32) (6 : Int32) (k_wi a 12) (k_wi S 12)) := hD.sub [12, 13] (by decide) (wcX5_X3_12 cs a S)
          have hF := k_self hDc hS hA
          refine k_run_i (va_runV (As := [.int x3_2, .int (3 : Int32)]) (rest := [.int r55]) ⟨hx, hb, hml, hown, hts⟩ (mX3_cell l D cs (k_wi a 12) 24 (4 : Int32) (6 : Int32) (k_wi S 12) x3_2 (3 : Int32) r68 hq68 _) (cwV 2 hts gX5_comingsAreSo_X3_cell rfl rfl rfl (by decide +kernel) ⟨Nat.le_of_ble_eq_true rfl, Nat.le_of_ble_eq_true rfl⟩) ⟨k_blind, va_recv hK hP (ci := 2) (q0 := 12) rfl rfl, k_pre hPc hK hNn hDc⟩ rfl rfl hl.1 rfl (lv_room (Nat.le_of_ble_eq_true rfl)) dX5_comingsAreSo_68 ⟨Nat.le_of_ble_eq_true rfl, Nat.le_of_ble_eq_true rfl⟩) hS hF (fun H locs hP1 hk hS => ?_)
          have hP : va_P D vwCl (wX5 cs a S) _ := k_back hP hD [12, 13] [0, 1, 2, 3, 4, 5, 6, 7, 8, 9, 10, 11, 14, 15] [0, 1, 2, 3, 4, 5, 6, 7, 8, 9, 10, 11, 14, 15, 12, 13] (wcX5_X3_12 cs a S) (by decide) hk hP1 (wbX5_X3_12 cs a S)
          have hD := hDA S
          refine lv_icmp_eq (tgt := 76) hx hb dX5_comingsAreSo_71 (by decide) (fun c71 => ?_) (fun c71 => ?_)
          · have hd := dn_t c71 hd
            refine lv_iinc (v := x3_2 + (1 : Int32)) (lv' := [(3, .int (x3_2 + (1 : Int32))), (4, .int r55), (0, .ref (a 0)), (1, .int p1), (2, .int p2)]) hx hb dX5_comingsAreSo_76 hl (k := 4) rfl rfl (by decide) rfl (fun ls hl => ?_)
            refine lv_goto (tgt := 2) hx hb dX5_comingsAreSo_79 (by decide) ?_
            exact ih1 (x3_2 + (1 : Int32)) _ _ _ (dn_bk hd hy1) (lv_sub hl [2, 3, 4, 0] rfl) hP hS
          · have hd := dn_f c71 hd
            have hd := dn_up hd hy1
            refine lv_iconst (v := (0 : Int32)) hx hb dX5_comingsAreSo_74 (by decide) ?_
            have e1 := dn_s1 hd
            exact k_zret hx hb hr rfl hQ hAe e1 rfl hP hS hlocks dX5_comingsAreSo_75
        · have hd := dn_f c23 hd
          refine lv_goto (tgt := 76) hx hb dX5_comingsAreSo_26 (by decide) ?_
          refine lv_iinc (v := x3_2 + (1 : Int32)) (lv' := [(3, .int (x3_2 + (1 : Int32))), (0, .ref (a 0)), (1, .int p1), (2, .int p2)]) hx hb dX5_comingsAreSo_76 hl (k := 3) rfl rfl (by decide) rfl (fun ls hl => ?_)
          refine lv_goto (tgt := 2) hx hb dX5_comingsAreSo_79 (by decide) ?_
          exact ih1 (x3_2 + (1 : Int32)) _ _ _ (dn_bk hd hy1) (lv_sub hl [1, 2, 3, 0] rfl) hP hS
  unfold nX5_comingsAreSo at hd
  refine lv_iconst (v := (0 : Int32)) hx hb dX5_comingsAreSo_0 (by decide) ?_
  refine lv_istore_n (lv' := [(3, .int (0 : Int32)), (0, .ref (a 0)), (1, .int p1), (2, .int p2)]) hx hb dX5_comingsAreSo_1 rfl hl (by decide) rfl (fun ls hl => ?_)
  exact Lo2 1000 (0 : Int32) _ _ _ hd (lv_sub hl [1, 2, 3, 0] rfl) hP hS
-- LeastNeed$Valley.kindsByComings(I)I
set_option maxRecDepth 20000 in
def nX5_kindsByComings_l4 (p1 : Int32) (x2_4 : Int32) (x3_4 : Int32) (S : Nat → Nat → Int32) : Option ((Int32 × Int32) ⊕ (Int32)) := if (6 : Int32) ≤ x3_4 then k_up (some x2_4) else k_b1 (nX5_comingsAreSo S p1 x3_4) (fun r13 => if r13 = 0 then some (.inl (x2_4, (x3_4 + (1 : Int32)))) else some (.inl ((x2_4 ||| ((1 : Int32) <<< (x3_4 &&& 31))), (x3_4 + (1 : Int32)))))
set_option maxRecDepth 20000 in
def nX5_kindsByComings (S : Nat → Nat → Int32) (p1 : Int32) : Option (Int32) := k_it (fun st => nX5_kindsByComings_l4 p1 st.1 st.2 S) 1000 ((0 : Int32), (0 : Int32))
set_option maxHeartbeats 4000000 in
set_option maxRecDepth 100000 in
theorem mX5_kindsByComings (l : Launch) (D : va_G) (cs : Nat → ClassId) (a : Nat → Nat) (S : Nat → Nat → Int32) (p1 : Int32) (r9 : Int32) (hd : nX5_kindsByComings S p1 = some r9) : ∀ sz : Nat, Met l yX5_kindsByComings wsX5_kindsByComings ({ frames := 4, cells := 0, slots := 0, locals := 108 }) (k_Pc D cs [.ref (a 0), .int p1] (wX5 cs a S) sz) (k_Qi D r9 (wX5 cs a S) (wX5 cs a S) sz) 0 0 (va_A (wX5 cs a S) sz) := by
  intro sz
  refine Met.ofW (cc := cX5_kindsByComings) (maxL := 4) (ret := (some .int)) (by decide) rfl ?_
  intro p e s m args below meth c s₁ B hml hv
  obtain ⟨rfl, hsz, hP, hK, hD0, hNn⟩ := hv
  have hx := B.exec
  have hb := B.bytes
  have hr := B.returns
  have hts := atoms_spec (ws := wsX5_kindsByComings) B.pre
  have hown : s.vm.findClass RX5 = some m.cls := findClass_of_methodNamed B.named
  have hlocks := B.notSynchronized
  subst hsz
  obtain ⟨A, hAe⟩ : ∃ A : Nat → Prop, A = va_A (wX5 cs a S) s.heap.size := ⟨_, rfl⟩
  have hD : va_D A (wX5 cs a S) := by rw [hAe]; exact hD0.self
  have hA : ∀ q : Nat, s.heap.size ≤ q → A q := fun q h => by rw [hAe]; exact Or.inr h
  have hS : va_S A s.heap s.heap [] := va_S.rf
  have hDA : ∀ (S : Nat → Nat → Int32), va_D A (wX5 cs a S) := fun S => k_DA hD rfl
  have hl := lv_entry ([.ref (a 0), .int p1]) (n := 4) (Nat.le_of_ble_eq_true rfl)
  rw [lg_entry_eq]
  generalize (lg_sl ([.ref (a 0), .int p1]) ++ List.replicate (4 - (lg_sl ([.ref (a 0), .int p1])).length) Slot.unset).toArray = ls at hl ⊢
  have hl : lv_has ls 4 [(0, .ref (a 0)), (1, .int p1)] := hl
  obtain ⟨Q, hQ⟩ : ∃ Q, Q = MQ below (k_Qi D r9 (wX5 cs a S) (wX5 cs a S) s.heap.size) ([.ref (a 0), .int p1] : List Value).toArray s 0 0 (va_A (wX5 cs a S) s.heap.size) := ⟨_, rfl⟩
  rw [← hQ]
  have Lo4 : ∀ (n1 : Nat) (x2_4 : Int32) (x3_4 : Int32) (H : Heap) (locs : List Loc) (ls : Array Slot), k_it (fun st => nX5_kindsByComings_l4 p1 st.1 st.2 S) n1 (x2_4, x3_4) = some r9 → lv_has ls 4 [(0, .ref (a 0)), (1, .int p1), (2, .int x2_4), (3, .int x3_4)] → va_P D vwCl (wX5 cs a S) H → va_S A s.heap H locs → W p l e (headSpec wsX5_kindsByComings ({ frames := 4, cells := 0, slots := 0, locals := 108 })).room s m ([.ref (a 0), .int p1] : List Value).toArray below meth c H locs 0 0 Q (F0 m 4 ls []) := by
    intro n1
    induction n1 with
    | zero => intro x2_4 x3_4 H locs ls hd; exact dn_it0 hd
    | succ n1 ih1 =>
      intro x2_4 x3_4 H locs ls hd hl hP hS
      have hD := hDA S
      obtain ⟨y1, hd, hy1⟩ := dn_it hd
      have hd : nX5_kindsByComings_l4 p1 x2_4 x3_4 S = some y1 := hd
      unfold nX5_kindsByComings_l4 at hd
      refine lv_iload_n hx hb dX5_kindsByComings_4 rfl (lv_at hl 3 rfl) ?_
      refine lv_bipush (v := (6 : Int32)) hx hb dX5_kindsByComings_5 (by decide) ?_
      refine lv_icmp_ge (tgt := 31) hx hb dX5_kindsByComings_7 (by decide) (fun c7 => ?_) (fun c7 => ?_)
      · have hd := dn_t c7 hd
        have hd := dn_up hd hy1
        refine lv_iload_n hx hb dX5_kindsByComings_31 rfl (lv_at hl 2 rfl) ?_
        have e1 := dn_s1 hd
        exact k_iret hx hb hr hQ hAe e1 rfl hP hS hlocks dX5_kindsByComings_32
      · have hd := dn_f c7 hd
        refine lv_aload_n hx hb dX5_kindsByComings_10 rfl (lv_at hl 0 rfl) ?_
        refine lv_iload_n hx hb dX5_kindsByComings_11 rfl (lv_at hl 1 rfl) ?_
        refine lv_iload_n hx hb dX5_kindsByComings_12 rfl (lv_at hl 3 rfl) ?_
        obtain ⟨r13, hq13, hd⟩ := dn_b1 hd
        have hF := k_self hD hS hA
        refine k_run_i (va_runV (As := [.int p1, .int x3_4]) (rest := []) ⟨hx, hb, hml, hown, hts⟩ (mX5_comingsAreSo l D cs a S p1 x3_4 r13 hq13 _) (cwV 2 hts gX5_kindsByComings_X5_comingsAreSo rfl rfl rfl (by decide +kernel) ⟨Nat.le_of_ble_eq_true rfl, Nat.le_of_ble_eq_true rfl⟩) ⟨k_blind, va_recv hK hP (ci := 3) (q0 := 0) rfl rfl, k_pre hP hK hNn hD⟩ rfl rfl hl.1 rfl (lv_room (Nat.le_of_ble_eq_true rfl)) dX5_kindsByComings_13 ⟨Nat.le_of_ble_eq_true rfl, Nat.le_of_ble_eq_true rfl⟩) hS hF (fun H locs hP1 hk hS => ?_)
        have hP : va_P D vwCl (wX5 cs a S) _ := hP1
        have hD := hDA S
        refine lv_if_eq (tgt := 25) hx hb dX5_kindsByComings_16 (by decide) (fun c16 => ?_) (fun c16 => ?_)
        · have hd := dn_t c16 hd
          refine lv_iinc (v := x3_4 + (1 : Int32)) (lv' := [(3, .int (x3_4 + (1 : Int32))), (0, .ref (a 0)), (1, .int p1), (2, .int x2_4)]) hx hb dX5_kindsByComings_25 hl (k := 3) rfl rfl (by decide) rfl (fun ls hl => ?_)
          refine lv_goto (tgt := 4) hx hb dX5_kindsByComings_28 (by decide) ?_
          exact ih1 x2_4 (x3_4 + (1 : Int32)) _ _ _ (dn_bk hd hy1) (lv_sub hl [1, 2, 3, 0] rfl) hP hS
        · have hd := dn_f c16 hd
          refine lv_iload_n hx hb dX5_kindsByComings_19 rfl (lv_at hl 2 rfl) ?_
          refine lv_iconst (v := (1 : Int32)) hx hb dX5_kindsByComings_20 (by decide) ?_
          refine lv_iload_n hx hb dX5_kindsByComings_21 rfl (lv_at hl 3 rfl) ?_
          refine lv_ishl hx hb dX5_kindsByComings_22 ?_
          refine lv_ior hx hb dX5_kindsByComings_23 ?_
          refine lv_istore_n (lv' := [(2, .int (x2_4 ||| ((1 : Int32) <<< (x3_4 &&& 31)))), (0, .ref (a 0)), (1, .int p1), (3, .int x3_4)]) hx hb dX5_kindsByComings_24 rfl hl (by decide) rfl (fun ls hl => ?_)
          refine lv_iinc (v := x3_4 + (1 : Int32)) (lv' := [(3, .int (x3_4 + (1 : Int32))), (2, .int (x2_4 ||| ((1 : Int32) <<< (x3_4 &&& 31)))), (0, .ref (a 0)), (1, .int p1)]) hx hb dX5_kindsByComings_25 hl (k := 3) rfl rfl (by decide) rfl (fun ls hl => ?_)
          refine lv_goto (tgt := 4) hx hb dX5_kindsByComings_28 (by decide) ?_
          exact ih1 (x2_4 ||| ((1 : Int32) <<< (x3_4 &&& 31))) (x3_4 + (1 : Int32)) _ _ _ (dn_bk hd hy1) (lv_sub hl [2, 3, 1, 0] rfl) hP hS
  unfold nX5_kindsByComings at hd
  refine lv_iconst (v := (0 : Int32)) hx hb dX5_kindsByComings_0 (by decide) ?_
  refine lv_istore_n (lv' := [(2, .int (0 : Int32)), (0, .ref (a 0)), (1, .int p1)]) hx hb dX5_kindsByComings_1 rfl hl (by decide) rfl (fun ls hl => ?_)
  refine lv_iconst (v := (0 : Int32)) hx hb dX5_kindsByComings_2 (by decide) ?_
  refine lv_istore_n (lv' := [(3, .int (0 : Int32)), (2, .int (0 : Int32)), (0, .ref (a 0)), (1, .int p1)]) hx hb dX5_kindsByComings_3 rfl hl (by decide) rfl (fun ls hl => ?_)
  exact Lo4 1000 (0 : Int32) (0 : Int32) _ _ _ hd (lv_sub hl [2, 3, 1, 0] rfl) hP hS
-- LeastNeed$Valley.mixPeople(J)J
set_option maxRecDepth 20000 in
def nX5_mixPeople_i5_l62 (x3_62 : Int64) (x5_62 : Int32) (x6_62 : Int32) (S : Nat → Nat → Int32) : Option ((Int64 × Int32) ⊕ ((Int64 × Int32) ⊕ (Int64))) := if (4 : Int32) ≤ x6_62 then k_up (some (.inl (x3_62, (x5_62 + (1 : Int32))))) else if (((4 : Int32) * x5_62) + x6_62) < 0 ∨ 28 ≤ (((4 : Int32) * x5_62) + x6_62).toNatClampNeg then none else some (.inl ((((31 : Int64) * x3_62) + ((S 4 (((4 : Int32) * x5_62) + x6_62).toNatClampNeg).toInt64)), (x6_62 + (1 : Int32))))
set_option maxRecDepth 20000 in
def nX5_mixPeople_l5 (x3_5 : Int64) (x5_5 : Int32) (S : Nat → Nat → Int32) : Option ((Int64 × Int32) ⊕ (Int64)) := if (S 0 12) ≤ x5_5 then k_up (some x3_5) else if x5_5 < 0 ∨ 7 ≤ x5_5.toNatClampNeg then none else if x5_5 < 0 ∨ 7 ≤ x5_5.toNatClampNeg then none else if x5_5 < 0 ∨ 7 ≤ x5_5.toNatClampNeg then none else k_it (fun st => nX5_mixPeople_i5_l62 st.1 x5_5 st.2 S) 1000 ((((31 : Int64) * (((31 : Int64) * (((31 : Int64) * x3_5) + ((S 1 x5_5.toNatClampNeg).toInt64))) + ((S 2 x5_5.toNatClampNeg).toInt64))) + ((S 3 x5_5.toNatClampNeg).toInt64)), (0 : Int32))
set_option maxRecDepth 20000 in
def nX5_mixPeople (S : Nat → Nat → Int32) (p1 : Int64) : Option (Int64) := k_it (fun st => nX5_mixPeople_l5 st.1 st.2 S) 1000 (p1, (0 : Int32))
set_option maxHeartbeats 4000000 in
set_option maxRecDepth 100000 in
theorem mX5_mixPeople (l : Launch) (D : va_G) (cs : Nat → ClassId) (a : Nat → Nat) (S : Nat → Nat → Int32) (p1 : Int64) (r9 : Int64) (hd : nX5_mixPeople S p1 = some r9) : ∀ sz : Nat, Met l yX5_mixPeople wsX5_mixPeople ({ frames := 0, cells := 0, slots := 0, locals := 0 }) (k_Pc D cs [.ref (a 0), .long p1] (wX5 cs a S) sz) (k_Ql D r9 (wX5 cs a S) (wX5 cs a S) sz) 0 0 (va_A (wX5 cs a S) sz) := by
  intro sz
  refine Met.ofW (cc := cX5_mixPeople) (maxL := 7) (ret := (some .long)) (by decide) rfl ?_
  intro p e s m args below meth c s₁ B hml hv
  obtain ⟨rfl, hsz, hP, hK, hD0, hNn⟩ := hv
  have hx := B.exec
  have hb := B.bytes
  have hr := B.returns
  have hts := atoms_spec (ws := wsX5_mixPeople) B.pre
  have hown : s.vm.findClass RX5 = some m.cls := findClass_of_methodNamed B.named
  have hlocks := B.notSynchronized
  subst hsz
  obtain ⟨A, hAe⟩ : ∃ A : Nat → Prop, A = va_A (wX5 cs a S) s.heap.size := ⟨_, rfl⟩
  have hD : va_D A (wX5 cs a S) := by rw [hAe]; exact hD0.self
  have hA : ∀ q : Nat, s.heap.size ≤ q → A q := fun q h => by rw [hAe]; exact Or.inr h
  have hS : va_S A s.heap s.heap [] := va_S.rf
  have hDA : ∀ (S : Nat → Nat → Int32), va_D A (wX5 cs a S) := fun S => k_DA hD rfl
  have hl := lv_entry ([.ref (a 0), .long p1]) (n := 7) (Nat.le_of_ble_eq_true rfl)
  rw [lg_entry_eq]
  generalize (lg_sl ([.ref (a 0), .long p1]) ++ List.replicate (7 - (lg_sl ([.ref (a 0), .long p1])).length) Slot.unset).toArray = ls at hl ⊢
  have hl : lv_has ls 7 [(0, .ref (a 0)), (1, .long p1)] := hl
  obtain ⟨Q, hQ⟩ : ∃ Q, Q = MQ below (k_Ql D r9 (wX5 cs a S) (wX5 cs a S) s.heap.size) ([.ref (a 0), .long p1] : List Value).toArray s 0 0 (va_A (wX5 cs a S) s.heap.size) := ⟨_, rfl⟩
  rw [← hQ]
  have Lo5 : ∀ (n1 : Nat) (x3_5 : Int64) (x5_5 : Int32) (H : Heap) (locs : List Loc) (ls : Array Slot), k_it (fun st => nX5_mixPeople_l5 st.1 st.2 S) n1 (x3_5, x5_5) = some r9 → lv_has ls 7 [(0, .ref (a 0)), (3, .long x3_5), (5, .int x5_5)] → va_P D vwCl (wX5 cs a S) H → va_S A s.heap H locs → W p l e (headSpec wsX5_mixPeople ({ frames := 0, cells := 0, slots := 0, locals := 0 })).room s m ([.ref (a 0), .long p1] : List Value).toArray below meth c H locs 0 0 Q (F0 m 5 ls []) := by
    intro n1
    induction n1 with
    | zero => intro x3_5 x5_5 H locs ls hd; exact dn_it0 hd
    | succ n1 ih1 =>
      intro x3_5 x5_5 H locs ls hd hl hP hS
      have hD := hDA S
      obtain ⟨y1, hd, hy1⟩ := dn_it hd
      have hd : nX5_mixPeople_l5 x3_5 x5_5 S = some y1 := hd
      have Lo62 : ∀ (n2 : Nat) (x3_62 : Int64) (x5_62 : Int32) (x6_62 : Int32) (H : Heap) (locs : List Loc) (ls : Array Slot), k_it (fun st => nX5_mixPeople_i5_l62 st.1 x5_62 st.2 S) n2 (x3_62, x6_62) = some y1 → lv_has ls 7 [(0, .ref (a 0)), (3, .long x3_62), (5, .int x5_62), (6, .int x6_62)] → va_P D vwCl (wX5 cs a S) H → va_S A s.heap H locs → W p l e (headSpec wsX5_mixPeople ({ frames := 0, cells := 0, slots := 0, locals := 0 })).room s m ([.ref (a 0), .long p1] : List Value).toArray below meth c H locs 0 0 Q (F0 m 62 ls []) := by
        intro n2
        induction n2 with
        | zero => intro x3_62 x5_62 x6_62 H locs ls hd; exact dn_it0 hd
        | succ n2 ih2 =>
          intro x3_62 x5_62 x6_62 H locs ls hd hl hP hS
          have hD := hDA S
          obtain ⟨y2, hd, hy2⟩ := dn_it hd
          have hd : nX5_mixPeople_i5_l62 x3_62 x5_62 x6_62 S = some y2 := hd
          unfold nX5_mixPeople_i5_l62 at hd
          refine lv_iload hx hb dX5_mixPeople_62 (lv_at hl 3 rfl) ?_
          refine lv_iconst (v := (4 : Int32)) hx hb dX5_mixPeople_64 (by decide) ?_
          refine lv_icmp_ge (tgt := 94) hx hb dX5_mixPeople_65 (by decide) (fun c65 => ?_) (fun c65 => ?_)
          · have hd := dn_t c65 hd
            have hd := dn_up hd hy2
            refine lv_iinc (v := x5_62 + (1 : Int32)) (lv' := [(5, .int (x5_62 + (1 : Int32))), (0, .ref (a 0)), (3, .long x3_62), (6, .int x6_62)]) hx hb dX5_mixPeople_94 hl (k := 2) rfl rfl (by decide) rfl (fun ls hl => ?_)
            refine lv_goto (tgt := 5) hx hb dX5_mixPeople_97 (by decide) ?_
            exact ih1 x3_62 (x5_62 + (1 : Int32)) _ _ _ (dn_bk hd hy1) (lv_sub hl [1, 2, 0] rfl) hP hS
          · have hd := dn_f c65 hd
            refine lv_ldc2 (v := (31 : Int64)) hx hb hown (hts (.constantLong RX5 132 (31)) (List.mem_of_getElem? (i := 2) rfl)) dX5_mixPeople_68 ?_
            refine lv_lload_n hx hb dX5_mixPeople_71 rfl (lv_at hl 1 rfl) ?_
            refine lv_lmul hx hb dX5_mixPeople_72 ?_
            refine lv_aload_n hx hb dX5_mixPeople_73 rfl (lv_at hl 0 rfl) ?_
            refine va_get (D := D) (ci := 3) (v := .ref (a 4)) (C := RX5) (T := TX5) (N := 15) hx hb hts (fun w h => List.mem_cons_of_mem _ (List.mem_append_right _ h)) hown hK hP 0 rfl rfl 3 (by decide) (hts (.fieldLink RX5 21 "LeastNeed$Valley" "need" "[I") (List.mem_of_getElem? (i := 6) rfl)) (fun _ h9 => h9) rfl dX5_mixPeople_74 ?_
            refine lv_iconst (v := (4 : Int32)) hx hb dX5_mixPeople_77 (by decide) ?_
            refine lv_iload hx hb dX5_mixPeople_78 (lv_at hl 2 rfl) ?_
            refine lv_imul hx hb dX5_mixPeople_80 ?_
            refine lv_iload hx hb dX5_mixPeople_81 (lv_at hl 3 rfl) ?_
            refine lv_iadd hx hb dX5_mixPeople_83 ?_
            obtain ⟨hi84, hd⟩ := dn_i hd
            refine k_iald (D := D) (k := (((4 : Int32) * x5_62) + x6_62).toNatClampNeg) (by rfl) hx hb hK hP 4 1 rfl rfl hi84 dX5_mixPeople_84 ?_
            refine lv_i2l hx hb dX5_mixPeople_85 rfl ?_
            refine lv_ladd hx hb dX5_mixPeople_86 ?_
            refine lv_lstore_n (lv' := [(3, .long (((31 : Int64) * x3_62) + ((S 4 (((4 : Int32) * x5_62) + x6_62).toNatClampNeg).toInt64))), (0, .ref (a 0)), (5, .int x5_62), (6, .int x6_62)]) hx hb dX5_mixPeople_87 rfl hl (by decide) rfl (fun ls hl => ?_)
            refine lv_iinc (v := x6_62 + (1 : Int32)) (lv' := [(6, .int (x6_62 + (1 : Int32))), (3, .long (((31 : Int64) * x3_62) + ((S 4 (((4 : Int32) * x5_62) + x6_62).toNatClampNeg).toInt64))), (0, .ref (a 0)), (5, .int x5_62)]) hx hb dX5_mixPeople_88 hl (k := 3) rfl rfl (by decide) rfl (fun ls hl => ?_)
            refine lv_goto (tgt := 62) hx hb dX5_mixPeople_91 (by decide) ?_
            exact ih2 (((31 : Int64) * x3_62) + ((S 4 (((4 : Int32) * x5_62) + x6_62).toNatClampNeg).toInt64)) x5_62 (x6_62 + (1 : Int32)) _ _ _ (dn_bk hd hy2) (lv_sub hl [2, 1, 3, 0] rfl) hP hS
      unfold nX5_mixPeople_l5 at hd
      refine lv_iload hx hb dX5_mixPeople_5 (lv_at hl 2 rfl) ?_
      refine lv_aload_n hx hb dX5_mixPeople_7 rfl (lv_at hl 0 rfl) ?_
      refine va_get (D := D) (ci := 3) (v := .int (S 0 12)) (C := RX5) (T := TX5) (N := 15) hx hb hts (fun w h => List.mem_cons_of_mem _ (List.mem_append_right _ h)) hown hK hP 0 rfl rfl 12 (by decide) (hts (.fieldLink RX5 54 "LeastNeed$Valley" "people" "I") (List.mem_of_getElem? (i := 1) rfl)) (fun _ h9 => h9) rfl dX5_mixPeople_8 ?_
      refine lv_icmp_ge (tgt := 100) hx hb dX5_mixPeople_11 (by decide) (fun c11 => ?_) (fun c11 => ?_)
      · have hd := dn_t c11 hd
        have hd := dn_up hd hy1
        refine lv_lload_n hx hb dX5_mixPeople_100 rfl (lv_at hl 1 rfl) ?_
        have e1 := dn_s1 hd
        exact k_lret hx hb hr hQ hAe e1 rfl hP hS hlocks dX5_mixPeople_101
      · have hd := dn_f c11 hd
        refine lv_ldc2 (v := (31 : Int64)) hx hb hown (hts (.constantLong RX5 132 (31)) (List.mem_of_getElem? (i := 2) rfl)) dX5_mixPeople_14 ?_
        refine lv_lload_n hx hb dX5_mixPeople_17 rfl (lv_at hl 1 rfl) ?_
        refine lv_lmul hx hb dX5_mixPeople_18 ?_
        refine lv_aload_n hx hb dX5_mixPeople_19 rfl (lv_at hl 0 rfl) ?_
        refine va_get (D := D) (ci := 3) (v := .ref (a 1)) (C := RX5) (T := TX5) (N := 15) hx hb hts (fun w h => List.mem_cons_of_mem _ (List.mem_append_right _ h)) hown hK hP 0 rfl rfl 0 (by decide) (hts (.fieldLink RX5 9 "LeastNeed$Valley" "kind" "[I") (List.mem_of_getElem? (i := 3) rfl)) (fun _ h9 => h9) rfl dX5_mixPeople_20 ?_
        refine lv_iload hx hb dX5_mixPeople_23 (lv_at hl 2 rfl) ?_
        obtain ⟨hi25, hd⟩ := dn_i hd
        refine k_iald (D := D) (k := x5_5.toNatClampNeg) (by rfl) hx hb hK hP 1 1 rfl rfl hi25 dX5_mixPeople_25 ?_
        refine lv_i2l hx hb dX5_mixPeople_26 rfl ?_
        refine lv_ladd hx hb dX5_mixPeople_27 ?_
        refine lv_lstore_n (lv' := [(3, .long (((31 : Int64) * x3_5) + ((S 1 x5_5.toNatClampNeg).toInt64))), (0, .ref (a 0)), (5, .int x5_5)]) hx hb dX5_mixPeople_28 rfl hl (by decide) rfl (fun ls hl => ?_)
        refine lv_ldc2 (v := (31 : Int64)) hx hb hown (hts (.constantLong RX5 132 (31)) (List.mem_of_getElem? (i := 2) rfl)) dX5_mixPeople_29 ?_
        refine lv_lload_n hx hb dX5_mixPeople_32 rfl (lv_at hl 0 rfl) ?_
        refine lv_lmul hx hb dX5_mixPeople_33 ?_
        refine lv_aload_n hx hb dX5_mixPeople_34 rfl (lv_at hl 1 rfl) ?_
        refine va_get (D := D) (ci := 3) (v := .ref (a 2)) (C := RX5) (T := TX5) (N := 15) hx hb hts (fun w h => List.mem_cons_of_mem _ (List.mem_append_right _ h)) hown hK hP 0 rfl rfl 1 (by decide) (hts (.fieldLink RX5 15 "LeastNeed$Valley" "house" "[I") (List.mem_of_getElem? (i := 4) rfl)) (fun _ h9 => h9) rfl dX5_mixPeople_35 ?_
        refine lv_iload hx hb dX5_mixPeople_38 (lv_at hl 2 rfl) ?_
        obtain ⟨hi40, hd⟩ := dn_i hd
        refine k_iald (D := D) (k := x5_5.toNatClampNeg) (by rfl) hx hb hK hP 2 1 rfl rfl hi40 dX5_mixPeople_40 ?_
        refine lv_i2l hx hb dX5_mixPeople_41 rfl ?_
        refine lv_ladd hx hb dX5_mixPeople_42 ?_
        refine lv_lstore_n (lv' := [(3, .long (((31 : Int64) * (((31 : Int64) * x3_5) + ((S 1 x5_5.toNatClampNeg).toInt64))) + ((S 2 x5_5.toNatClampNeg).toInt64))), (0, .ref (a 0)), (5, .int x5_5)]) hx hb dX5_mixPeople_43 rfl hl (by decide) rfl (fun ls hl => ?_)
        refine lv_ldc2 (v := (31 : Int64)) hx hb hown (hts (.constantLong RX5 132 (31)) (List.mem_of_getElem? (i := 2) rfl)) dX5_mixPeople_44 ?_
        refine lv_lload_n hx hb dX5_mixPeople_47 rfl (lv_at hl 0 rfl) ?_
        refine lv_lmul hx hb dX5_mixPeople_48 ?_
        refine lv_aload_n hx hb dX5_mixPeople_49 rfl (lv_at hl 1 rfl) ?_
        refine va_get (D := D) (ci := 3) (v := .ref (a 3)) (C := RX5) (T := TX5) (N := 15) hx hb hts (fun w h => List.mem_cons_of_mem _ (List.mem_append_right _ h)) hown hK hP 0 rfl rfl 2 (by decide) (hts (.fieldLink RX5 18 "LeastNeed$Valley" "worn" "[I") (List.mem_of_getElem? (i := 5) rfl)) (fun _ h9 => h9) rfl dX5_mixPeople_50 ?_
        refine lv_iload hx hb dX5_mixPeople_53 (lv_at hl 2 rfl) ?_
        obtain ⟨hi55, hd⟩ := dn_i hd
        refine k_iald (D := D) (k := x5_5.toNatClampNeg) (by rfl) hx hb hK hP 3 1 rfl rfl hi55 dX5_mixPeople_55 ?_
        refine lv_i2l hx hb dX5_mixPeople_56 rfl ?_
        refine lv_ladd hx hb dX5_mixPeople_57 ?_
        refine lv_lstore_n (lv' := [(3, .long (((31 : Int64) * (((31 : Int64) * (((31 : Int64) * x3_5) + ((S 1 x5_5.toNatClampNeg).toInt64))) + ((S 2 x5_5.toNatClampNeg).toInt64))) + ((S 3 x5_5.toNatClampNeg).toInt64))), (0, .ref (a 0)), (5, .int x5_5)]) hx hb dX5_mixPeople_58 rfl hl (by decide) rfl (fun ls hl => ?_)
        refine lv_iconst (v := (0 : Int32)) hx hb dX5_mixPeople_59 (by decide) ?_
        refine lv_istore (lv' := [(6, .int (0 : Int32)), (3, .long (((31 : Int64) * (((31 : Int64) * (((31 : Int64) * x3_5) + ((S 1 x5_5.toNatClampNeg).toInt64))) + ((S 2 x5_5.toNatClampNeg).toInt64))) + ((S 3 x5_5.toNatClampNeg).toInt64))), (0, .ref (a 0)), (5, .int x5_5)]) hx hb dX5_mixPeople_60 hl (by decide) rfl (fun ls hl => ?_)
        exact Lo62 1000 (((31 : Int64) * (((31 : Int64) * (((31 : Int64) * x3_5) + ((S 1 x5_5.toNatClampNeg).toInt64))) + ((S 2 x5_5.toNatClampNeg).toInt64))) + ((S 3 x5_5.toNatClampNeg).toInt64)) x5_5 (0 : Int32) _ _ _ hd (lv_sub hl [2, 1, 3, 0] rfl) hP hS
  unfold nX5_mixPeople at hd
  refine lv_lload_n hx hb dX5_mixPeople_0 rfl (lv_at hl 1 rfl) ?_
  refine lv_lstore_n (lv' := [(3, .long p1), (0, .ref (a 0)), (1, .long p1)]) hx hb dX5_mixPeople_1 rfl hl (by decide) rfl (fun ls hl => ?_)
  refine lv_iconst (v := (0 : Int32)) hx hb dX5_mixPeople_2 (by decide) ?_
  refine lv_istore (lv' := [(5, .int (0 : Int32)), (3, .long p1), (0, .ref (a 0)), (1, .long p1)]) hx hb dX5_mixPeople_3 hl (by decide) rfl (fun ls hl => ?_)
  exact Lo5 1000 p1 (0 : Int32) _ _ _ hd (lv_sub hl [2, 1, 0] rfl) hP hS
-- LeastNeed$Valley.mixThings(J)J
set_option maxRecDepth 20000 in
def nX5_mixThings_l5 (x3_5 : Int64) (x5_5 : Int32) (S : Nat → Nat → Int32) : Option ((Int64 × Int32) ⊕ (Int64)) := if (S 0 13) ≤ x5_5 then k_up (some x3_5) else if x5_5 < 0 ∨ 5 ≤ x5_5.toNatClampNeg then none else if x5_5 < 0 ∨ 5 ≤ x5_5.toNatClampNeg then none else if x5_5 < 0 ∨ 5 ≤ x5_5.toNatClampNeg then none else if x5_5 < 0 ∨ 5 ≤ x5_5.toNatClampNeg then none else if x5_5 < 0 ∨ 5 ≤ x5_5.toNatClampNeg then none else some (.inl ((((31 : Int64) * (((31 : Int64) * (((31 : Int64) * (((31 : Int64) * (((31 : Int64) * x3_5) + ((S 5 x5_5.toNatClampNeg).toInt64))) + ((S 6 x5_5.toNatClampNeg).toInt64))) + ((S 7 x5_5.toNatClampNeg).toInt64))) + ((S 8 x5_5.toNatClampNeg).toInt64))) + ((S 9 x5_5.toNatClampNeg).toInt64)), (x5_5 + (1 : Int32))))
set_option maxRecDepth 20000 in
def nX5_mixThings (S : Nat → Nat → Int32) (p1 : Int64) : Option (Int64) := k_it (fun st => nX5_mixThings_l5 st.1 st.2 S) 1000 (p1, (0 : Int32))
set_option maxHeartbeats 4000000 in
set_option maxRecDepth 100000 in
theorem mX5_mixThings (l : Launch) (D : va_G) (cs : Nat → ClassId) (a : Nat → Nat) (S : Nat → Nat → Int32) (p1 : Int64) (r9 : Int64) (hd : nX5_mixThings S p1 = some r9) : ∀ sz : Nat, Met l yX5_mixThings wsX5_mixThings ({ frames := 0, cells := 0, slots := 0, locals := 0 }) (k_Pc D cs [.ref (a 0), .long p1] (wX5 cs a S) sz) (k_Ql D r9 (wX5 cs a S) (wX5 cs a S) sz) 0 0 (va_A (wX5 cs a S) sz) := by
  intro sz
  refine Met.ofW (cc := cX5_mixThings) (maxL := 6) (ret := (some .long)) (by decide) rfl ?_
  intro p e s m args below meth c s₁ B hml hv
  obtain ⟨rfl, hsz, hP, hK, hD0, hNn⟩ := hv
  have hx := B.exec
  have hb := B.bytes
  have hr := B.returns
  have hts := atoms_spec (ws := wsX5_mixThings) B.pre
  have hown : s.vm.findClass RX5 = some m.cls := findClass_of_methodNamed B.named
  have hlocks := B.notSynchronized
  subst hsz
  obtain ⟨A, hAe⟩ : ∃ A : Nat → Prop, A = va_A (wX5 cs a S) s.heap.size := ⟨_, rfl⟩
  have hD : va_D A (wX5 cs a S) := by rw [hAe]; exact hD0.self
  have hA : ∀ q : Nat, s.heap.size ≤ q → A q := fun q h => by rw [hAe]; exact Or.inr h
  have hS : va_S A s.heap s.heap [] := va_S.rf
  have hDA : ∀ (S : Nat → Nat → Int32), va_D A (wX5 cs a S) := fun S => k_DA hD rfl
  have hl := lv_entry ([.ref (a 0), .long p1]) (n := 6) (Nat.le_of_ble_eq_true rfl)
  rw [lg_entry_eq]
  generalize (lg_sl ([.ref (a 0), .long p1]) ++ List.replicate (6 - (lg_sl ([.ref (a 0), .long p1])).length) Slot.unset).toArray = ls at hl ⊢
  have hl : lv_has ls 6 [(0, .ref (a 0)), (1, .long p1)] := hl
  obtain ⟨Q, hQ⟩ : ∃ Q, Q = MQ below (k_Ql D r9 (wX5 cs a S) (wX5 cs a S) s.heap.size) ([.ref (a 0), .long p1] : List Value).toArray s 0 0 (va_A (wX5 cs a S) s.heap.size) := ⟨_, rfl⟩
  rw [← hQ]
  have Lo5 : ∀ (n1 : Nat) (x3_5 : Int64) (x5_5 : Int32) (H : Heap) (locs : List Loc) (ls : Array Slot), k_it (fun st => nX5_mixThings_l5 st.1 st.2 S) n1 (x3_5, x5_5) = some r9 → lv_has ls 6 [(0, .ref (a 0)), (3, .long x3_5), (5, .int x5_5)] → va_P D vwCl (wX5 cs a S) H → va_S A s.heap H locs → W p l e (headSpec wsX5_mixThings ({ frames := 0, cells := 0, slots := 0, locals := 0 })).room s m ([.ref (a 0), .long p1] : List Value).toArray below meth c H locs 0 0 Q (F0 m 5 ls []) := by
    intro n1
    induction n1 with
    | zero => intro x3_5 x5_5 H locs ls hd; exact dn_it0 hd
    | succ n1 ih1 =>
      intro x3_5 x5_5 H locs ls hd hl hP hS
      have hD := hDA S
      obtain ⟨y1, hd, hy1⟩ := dn_it hd
      have hd : nX5_mixThings_l5 x3_5 x5_5 S = some y1 := hd
      unfold nX5_mixThings_l5 at hd
      refine lv_iload hx hb dX5_mixThings_5 (lv_at hl 2 rfl) ?_
      refine lv_aload_n hx hb dX5_mixThings_7 rfl (lv_at hl 0 rfl) ?_
      refine va_get (D := D) (ci := 3) (v := .int (S 0 13)) (C := RX5) (T := TX5) (N := 15) hx hb hts (fun w h => List.mem_cons_of_mem _ (List.mem_append_right _ h)) hown hK hP 0 rfl rfl 13 (by decide) (hts (.fieldLink RX5 58 "LeastNeed$Valley" "things" "I") (List.mem_of_getElem? (i := 1) rfl)) (fun _ h9 => h9) rfl dX5_mixThings_8 ?_
      refine lv_icmp_ge (tgt := 95) hx hb dX5_mixThings_11 (by decide) (fun c11 => ?_) (fun c11 => ?_)
      · have hd := dn_t c11 hd
        have hd := dn_up hd hy1
        refine lv_lload_n hx hb dX5_mixThings_95 rfl (lv_at hl 1 rfl) ?_
        have e1 := dn_s1 hd
        exact k_lret hx hb hr hQ hAe e1 rfl hP hS hlocks dX5_mixThings_96
      · have hd := dn_f c11 hd
        refine lv_ldc2 (v := (31 : Int64)) hx hb hown (hts (.constantLong RX5 132 (31)) (List.mem_of_getElem? (i := 2) rfl)) dX5_mixThings_14 ?_
        refine lv_lload_n hx hb dX5_mixThings_17 rfl (lv_at hl 1 rfl) ?_
        refine lv_lmul hx hb dX5_mixThings_18 ?_
        refine lv_aload_n hx hb dX5_mixThings_19 rfl (lv_at hl 0 rfl) ?_
        refine va_get (D := D) (ci := 3) (v := .ref (a 5)) (C := RX5) (T := TX5) (N := 15) hx hb hts (fun w h => List.mem_cons_of_mem _ (List.mem_append_right _ h)) hown hK hP 0 rfl rfl 4 (by decide) (hts (.fieldLink RX5 24 "LeastNeed$Valley" "thingKind" "[I") (List.mem_of_getElem? (i := 3) rfl)) (fun _ h9 => h9) rfl dX5_mixThings_20 ?_
        refine lv_iload hx hb dX5_mixThings_23 (lv_at hl 2 rfl) ?_
        obtain ⟨hi25, hd⟩ := dn_i hd
        refine k_iald (D := D) (k := x5_5.toNatClampNeg) (by rfl) hx hb hK hP 5 1 rfl rfl hi25 dX5_mixThings_25 ?_
        refine lv_i2l hx hb dX5_mixThings_26 rfl ?_
        refine lv_ladd hx hb dX5_mixThings_27 ?_
        refine lv_lstore_n (lv' := [(3, .long (((31 : Int64) * x3_5) + ((S 5 x5_5.toNatClampNeg).toInt64))), (0, .ref (a 0)), (5, .int x5_5)]) hx hb dX5_mixThings_28 rfl hl (by decide) rfl (fun ls hl => ?_)
        refine lv_ldc2 (v := (31 : Int64)) hx hb hown (hts (.constantLong RX5 132 (31)) (List.mem_of_getElem? (i := 2) rfl)) dX5_mixThings_29 ?_
        refine lv_lload_n hx hb dX5_mixThings_32 rfl (lv_at hl 0 rfl) ?_
        refine lv_lmul hx hb dX5_mixThings_33 ?_
        refine lv_aload_n hx hb dX5_mixThings_34 rfl (lv_at hl 1 rfl) ?_
        refine va_get (D := D) (ci := 3) (v := .ref (a 6)) (C := RX5) (T := TX5) (N := 15) hx hb hts (fun w h => List.mem_cons_of_mem _ (List.mem_append_right _ h)) hown hK hP 0 rfl rfl 5 (by decide) (hts (.fieldLink RX5 27 "LeastNeed$Valley" "sort" "[I") (List.mem_of_getElem? (i := 4) rfl)) (fun _ h9 => h9) rfl dX5_mixThings_35 ?_
        refine lv_iload hx hb dX5_mixThings_38 (lv_at hl 2 rfl) ?_
        obtain ⟨hi40, hd⟩ := dn_i hd
        refine k_iald (D := D) (k := x5_5.toNatClampNeg) (by rfl) hx hb hK hP 6 1 rfl rfl hi40 dX5_mixThings_40 ?_
        refine lv_i2l hx hb dX5_mixThings_41 rfl ?_
        refine lv_ladd hx hb dX5_mixThings_42 ?_
        refine lv_lstore_n (lv' := [(3, .long (((31 : Int64) * (((31 : Int64) * x3_5) + ((S 5 x5_5.toNatClampNeg).toInt64))) + ((S 6 x5_5.toNatClampNeg).toInt64))), (0, .ref (a 0)), (5, .int x5_5)]) hx hb dX5_mixThings_43 rfl hl (by decide) rfl (fun ls hl => ?_)
        refine lv_ldc2 (v := (31 : Int64)) hx hb hown (hts (.constantLong RX5 132 (31)) (List.mem_of_getElem? (i := 2) rfl)) dX5_mixThings_44 ?_
        refine lv_lload_n hx hb dX5_mixThings_47 rfl (lv_at hl 0 rfl) ?_
        refine lv_lmul hx hb dX5_mixThings_48 ?_
        refine lv_aload_n hx hb dX5_mixThings_49 rfl (lv_at hl 1 rfl) ?_
        refine va_get (D := D) (ci := 3) (v := .ref (a 7)) (C := RX5) (T := TX5) (N := 15) hx hb hts (fun w h => List.mem_cons_of_mem _ (List.mem_append_right _ h)) hown hK hP 0 rfl rfl 6 (by decide) (hts (.fieldLink RX5 30 "LeastNeed$Valley" "owner" "[I") (List.mem_of_getElem? (i := 5) rfl)) (fun _ h9 => h9) rfl dX5_mixThings_50 ?_
        refine lv_iload hx hb dX5_mixThings_53 (lv_at hl 2 rfl) ?_
        obtain ⟨hi55, hd⟩ := dn_i hd
        refine k_iald (D := D) (k := x5_5.toNatClampNeg) (by rfl) hx hb hK hP 7 1 rfl rfl hi55 dX5_mixThings_55 ?_
        refine lv_i2l hx hb dX5_mixThings_56 rfl ?_
        refine lv_ladd hx hb dX5_mixThings_57 ?_
        refine lv_lstore_n (lv' := [(3, .long (((31 : Int64) * (((31 : Int64) * (((31 : Int64) * x3_5) + ((S 5 x5_5.toNatClampNeg).toInt64))) + ((S 6 x5_5.toNatClampNeg).toInt64))) + ((S 7 x5_5.toNatClampNeg).toInt64))), (0, .ref (a 0)), (5, .int x5_5)]) hx hb dX5_mixThings_58 rfl hl (by decide) rfl (fun ls hl => ?_)
        refine lv_ldc2 (v := (31 : Int64)) hx hb hown (hts (.constantLong RX5 132 (31)) (List.mem_of_getElem? (i := 2) rfl)) dX5_mixThings_59 ?_
        refine lv_lload_n hx hb dX5_mixThings_62 rfl (lv_at hl 0 rfl) ?_
        refine lv_lmul hx hb dX5_mixThings_63 ?_
        refine lv_aload_n hx hb dX5_mixThings_64 rfl (lv_at hl 1 rfl) ?_
        refine va_get (D := D) (ci := 3) (v := .ref (a 8)) (C := RX5) (T := TX5) (N := 15) hx hb hts (fun w h => List.mem_cons_of_mem _ (List.mem_append_right _ h)) hown hK hP 0 rfl rfl 7 (by decide) (hts (.fieldLink RX5 33 "LeastNeed$Valley" "holder" "[I") (List.mem_of_getElem? (i := 6) rfl)) (fun _ h9 => h9) rfl dX5_mixThings_65 ?_
        refine lv_iload hx hb dX5_mixThings_68 (lv_at hl 2 rfl) ?_
        obtain ⟨hi70, hd⟩ := dn_i hd
        refine k_iald (D := D) (k := x5_5.toNatClampNeg) (by rfl) hx hb hK hP 8 1 rfl rfl hi70 dX5_mixThings_70 ?_
        refine lv_i2l hx hb dX5_mixThings_71 rfl ?_
        refine lv_ladd hx hb dX5_mixThings_72 ?_
        refine lv_lstore_n (lv' := [(3, .long (((31 : Int64) * (((31 : Int64) * (((31 : Int64) * (((31 : Int64) * x3_5) + ((S 5 x5_5.toNatClampNeg).toInt64))) + ((S 6 x5_5.toNatClampNeg).toInt64))) + ((S 7 x5_5.toNatClampNeg).toInt64))) + ((S 8 x5_5.toNatClampNeg).toInt64))), (0, .ref (a 0)), (5, .int x5_5)]) hx hb dX5_mixThings_73 rfl hl (by decide) rfl (fun ls hl => ?_)
        refine lv_ldc2 (v := (31 : Int64)) hx hb hown (hts (.constantLong RX5 132 (31)) (List.mem_of_getElem? (i := 2) rfl)) dX5_mixThings_74 ?_
        refine lv_lload_n hx hb dX5_mixThings_77 rfl (lv_at hl 0 rfl) ?_
        refine lv_lmul hx hb dX5_mixThings_78 ?_
        refine lv_aload_n hx hb dX5_mixThings_79 rfl (lv_at hl 1 rfl) ?_
        refine va_get (D := D) (ci := 3) (v := .ref (a 9)) (C := RX5) (T := TX5) (N := 15) hx hb hts (fun w h => List.mem_cons_of_mem _ (List.mem_append_right _ h)) hown hK hP 0 rfl rfl 8 (by decide) (hts (.fieldLink RX5 36 "LeastNeed$Valley" "place" "[I") (List.mem_of_getElem? (i := 7) rfl)) (fun _ h9 => h9) rfl dX5_mixThings_80 ?_
        refine lv_iload hx hb dX5_mixThings_83 (lv_at hl 2 rfl) ?_
        obtain ⟨hi85, hd⟩ := dn_i hd
        refine k_iald (D := D) (k := x5_5.toNatClampNeg) (by rfl) hx hb hK hP 9 1 rfl rfl hi85 dX5_mixThings_85 ?_
        refine lv_i2l hx hb dX5_mixThings_86 rfl ?_
        refine lv_ladd hx hb dX5_mixThings_87 ?_
        refine lv_lstore_n (lv' := [(3, .long (((31 : Int64) * (((31 : Int64) * (((31 : Int64) * (((31 : Int64) * (((31 : Int64) * x3_5) + ((S 5 x5_5.toNatClampNeg).toInt64))) + ((S 6 x5_5.toNatClampNeg).toInt64))) + ((S 7 x5_5.toNatClampNeg).toInt64))) + ((S 8 x5_5.toNatClampNeg).toInt64))) + ((S 9 x5_5.toNatClampNeg).toInt64))), (0, .ref (a 0)), (5, .int x5_5)]) hx hb dX5_mixThings_88 rfl hl (by decide) rfl (fun ls hl => ?_)
        refine lv_iinc (v := x5_5 + (1 : Int32)) (lv' := [(5, .int (x5_5 + (1 : Int32))), (3, .long (((31 : Int64) * (((31 : Int64) * (((31 : Int64) * (((31 : Int64) * (((31 : Int64) * x3_5) + ((S 5 x5_5.toNatClampNeg).toInt64))) + ((S 6 x5_5.toNatClampNeg).toInt64))) + ((S 7 x5_5.toNatClampNeg).toInt64))) + ((S 8 x5_5.toNatClampNeg).toInt64))) + ((S 9 x5_5.toNatClampNeg).toInt64))), (0, .ref (a 0))]) hx hb dX5_mixThings_89 hl (k := 2) rfl rfl (by decide) rfl (fun ls hl => ?_)
        refine lv_goto (tgt := 5) hx hb dX5_mixThings_92 (by decide) ?_
        exact ih1 (((31 : Int64) * (((31 : Int64) * (((31 : Int64) * (((31 : Int64) * (((31 : Int64) * x3_5) + ((S 5 x5_5.toNatClampNeg).toInt64))) + ((S 6 x5_5.toNatClampNeg).toInt64))) + ((S 7 x5_5.toNatClampNeg).toInt64))) + ((S 8 x5_5.toNatClampNeg).toInt64))) + ((S 9 x5_5.toNatClampNeg).toInt64)) (x5_5 + (1 : Int32)) _ _ _ (dn_bk hd hy1) (lv_sub hl [2, 1, 0] rfl) hP hS
  unfold nX5_mixThings at hd
  refine lv_lload_n hx hb dX5_mixThings_0 rfl (lv_at hl 1 rfl) ?_
  refine lv_lstore_n (lv' := [(3, .long p1), (0, .ref (a 0)), (1, .long p1)]) hx hb dX5_mixThings_1 rfl hl (by decide) rfl (fun ls hl => ?_)
  refine lv_iconst (v := (0 : Int32)) hx hb dX5_mixThings_2 (by decide) ?_
  refine lv_istore (lv' := [(5, .int (0 : Int32)), (3, .long p1), (0, .ref (a 0)), (1, .long p1)]) hx hb dX5_mixThings_3 hl (by decide) rfl (fun ls hl => ?_)
  exact Lo5 1000 p1 (0 : Int32) _ _ _ hd (lv_sub hl [2, 1, 0] rfl) hP hS
