theorem wsaJ_a0 (cs : Nat → ClassId) (N : Nat) (a : Nat → Nat) (L : Nat → Nat → Int64) (k : Nat) (x : Int64) : List.set (wAJ cs N a L) 0 (a 0, .inl (cs 2, N, .inr (.inl (vp_updL (L 0) k x)))) = (wAJ cs N a (k_wl L 0 k x)) := rfl
set_option maxRecDepth 20000 in
theorem wcX0_X5_aJ_1 (cs : Nat → ClassId) (a : Nat → Nat) (b : Nat → Nat) (S : Nat → Nat → Int32) (L : Nat → Nat → Int64) (T : Nat → Nat → Int32) : ([1] : List Nat).map (fun i => (wX0 cs a S L ++ wX5 cs b T)[i]?) = (wAJ cs 7 (k_wi a 1) (k_wi L 1)).map some := rfl
set_option maxRecDepth 20000 in
theorem wbX0_X5_aJ_1_L0 (cs : Nat → ClassId) (a : Nat → Nat) (b : Nat → Nat) (S : Nat → Nat → Int32) (L : Nat → Nat → Int64) (T : Nat → Nat → Int32) (VL0 : Nat → Nat → Int64) : ([0, 20, 1, 2, 3, 4, 5, 6, 7, 8, 9, 10, 11, 12, 13, 14, 15, 16, 17, 18, 19] : List Nat).map (fun i => (([0, 2, 3, 4, 5, 6, 7, 8, 9, 10, 11, 12, 13, 14, 15, 16, 17, 18, 19, 20] : List Nat).filterMap (fun i => (wX0 cs a S L ++ wX5 cs b T)[i]?) ++ (wAJ cs 7 (k_wi a 1) VL0))[i]?) = (wX0 cs a S (k_sp L 1 1 VL0) ++ wX5 cs b T).map some := rfl
set_option maxRecDepth 20000 in
theorem wcX0_X5_aJ_2 (cs : Nat → ClassId) (a : Nat → Nat) (b : Nat → Nat) (S : Nat → Nat → Int32) (L : Nat → Nat → Int64) (T : Nat → Nat → Int32) : ([2] : List Nat).map (fun i => (wX0 cs a S L ++ wX5 cs b T)[i]?) = (wAJ cs 7 (k_wi a 2) (k_wi L 2)).map some := rfl
set_option maxRecDepth 20000 in
theorem wbX0_X5_aJ_2_L0 (cs : Nat → ClassId) (a : Nat → Nat) (b : Nat → Nat) (S : Nat → Nat → Int32) (L : Nat → Nat → Int64) (T : Nat → Nat → Int32) (VL0 : Nat → Nat → Int64) : ([0, 1, 20, 2, 3, 4, 5, 6, 7, 8, 9, 10, 11, 12, 13, 14, 15, 16, 17, 18, 19] : List Nat).map (fun i => (([0, 1, 3, 4, 5, 6, 7, 8, 9, 10, 11, 12, 13, 14, 15, 16, 17, 18, 19, 20] : List Nat).filterMap (fun i => (wX0 cs a S L ++ wX5 cs b T)[i]?) ++ (wAJ cs 7 (k_wi a 2) VL0))[i]?) = (wX0 cs a S (k_sp L 2 1 VL0) ++ wX5 cs b T).map some := rfl
theorem wsX0_X5_a2 (cs : Nat → ClassId) (a : Nat → Nat) (b : Nat → Nat) (S : Nat → Nat → Int32) (L : Nat → Nat → Int64) (T : Nat → Nat → Int32) (k : Nat) (x : Int64) : List.set (wX0 cs a S L ++ wX5 cs b T) 2 (a 2, .inl (cs 2, 7, .inr (.inl (vp_updL (L 2) k x)))) = (wX0 cs a S (k_wl L 2 k x) ++ wX5 cs b T) := rfl
theorem wsX0_X5_a1 (cs : Nat → ClassId) (a : Nat → Nat) (b : Nat → Nat) (S : Nat → Nat → Int32) (L : Nat → Nat → Int64) (T : Nat → Nat → Int32) (k : Nat) (x : Int64) : List.set (wX0 cs a S L ++ wX5 cs b T) 1 (a 1, .inl (cs 2, 7, .inr (.inl (vp_updL (L 1) k x)))) = (wX0 cs a S (k_wl L 1 k x) ++ wX5 cs b T) := rfl
set_option maxRecDepth 20000 in
theorem wcX0_X5_aJ_3 (cs : Nat → ClassId) (a : Nat → Nat) (b : Nat → Nat) (S : Nat → Nat → Int32) (L : Nat → Nat → Int64) (T : Nat → Nat → Int32) : ([3] : List Nat).map (fun i => (wX0 cs a S L ++ wX5 cs b T)[i]?) = (wAJ cs 7 (k_wi a 3) (k_wi L 3)).map some := rfl
set_option maxRecDepth 20000 in
theorem wbX0_X5_aJ_3_L0 (cs : Nat → ClassId) (a : Nat → Nat) (b : Nat → Nat) (S : Nat → Nat → Int32) (L : Nat → Nat → Int64) (T : Nat → Nat → Int32) (VL0 : Nat → Nat → Int64) : ([0, 1, 2, 20, 3, 4, 5, 6, 7, 8, 9, 10, 11, 12, 13, 14, 15, 16, 17, 18, 19] : List Nat).map (fun i => (([0, 1, 2, 4, 5, 6, 7, 8, 9, 10, 11, 12, 13, 14, 15, 16, 17, 18, 19, 20] : List Nat).filterMap (fun i => (wX0 cs a S L ++ wX5 cs b T)[i]?) ++ (wAJ cs 7 (k_wi a 3) VL0))[i]?) = (wX0 cs a S (k_sp L 3 1 VL0) ++ wX5 cs b T).map some := rfl
set_option maxRecDepth 20000 in
theorem wcX0_X5_aJ_4 (cs : Nat → ClassId) (a : Nat → Nat) (b : Nat → Nat) (S : Nat → Nat → Int32) (L : Nat → Nat → Int64) (T : Nat → Nat → Int32) : ([4] : List Nat).map (fun i => (wX0 cs a S L ++ wX5 cs b T)[i]?) = (wAJ cs 7 (k_wi a 4) (k_wi L 4)).map some := rfl
set_option maxRecDepth 20000 in
theorem wbX0_X5_aJ_4_L0 (cs : Nat → ClassId) (a : Nat → Nat) (b : Nat → Nat) (S : Nat → Nat → Int32) (L : Nat → Nat → Int64) (T : Nat → Nat → Int32) (VL0 : Nat → Nat → Int64) : ([0, 1, 2, 3, 20, 4, 5, 6, 7, 8, 9, 10, 11, 12, 13, 14, 15, 16, 17, 18, 19] : List Nat).map (fun i => (([0, 1, 2, 3, 5, 6, 7, 8, 9, 10, 11, 12, 13, 14, 15, 16, 17, 18, 19, 20] : List Nat).filterMap (fun i => (wX0 cs a S L ++ wX5 cs b T)[i]?) ++ (wAJ cs 7 (k_wi a 4) VL0))[i]?) = (wX0 cs a S (k_sp L 4 1 VL0) ++ wX5 cs b T).map some := rfl
theorem wsX0_r1 (cs : Nat → ClassId) (a : Nat → Nat) (S : Nat → Nat → Int32) (L : Nat → Nat → Int64) (f : Nat → Int64) : List.set (wX0 cs a S L) 1 (a 1, .inl (cs 2, 7, .inr (.inl (f)))) = (wX0 cs a S (k_r L 1 f)) := rfl
theorem wsX0_r2 (cs : Nat → ClassId) (a : Nat → Nat) (S : Nat → Nat → Int32) (L : Nat → Nat → Int64) (f : Nat → Int64) : List.set (wX0 cs a S L) 2 (a 2, .inl (cs 2, 7, .inr (.inl (f)))) = (wX0 cs a S (k_r L 2 f)) := rfl
set_option maxRecDepth 20000 in
theorem wcX0_X5_X0_0 (cs : Nat → ClassId) (a : Nat → Nat) (b : Nat → Nat) (S : Nat → Nat → Int32) (L : Nat → Nat → Int64) (T : Nat → Nat → Int32) : ([0, 1, 2, 3, 4] : List Nat).map (fun i => (wX0 cs a S L ++ wX5 cs b T)[i]?) = (wX0 cs a S L).map some := rfl
set_option maxRecDepth 20000 in
theorem wbX0_X5_X0_0_L0 (cs : Nat → ClassId) (a : Nat → Nat) (b : Nat → Nat) (S : Nat → Nat → Int32) (L : Nat → Nat → Int64) (T : Nat → Nat → Int32) (VL0 : Nat → Nat → Int64) : ([16, 17, 18, 19, 20, 0, 1, 2, 3, 4, 5, 6, 7, 8, 9, 10, 11, 12, 13, 14, 15] : List Nat).map (fun i => (([5, 6, 7, 8, 9, 10, 11, 12, 13, 14, 15, 16, 17, 18, 19, 20] : List Nat).filterMap (fun i => (wX0 cs a S L ++ wX5 cs b T)[i]?) ++ (wX0 cs a S VL0))[i]?) = (wX0 cs a S VL0 ++ wX5 cs b T).map some := rfl
set_option maxRecDepth 20000 in
theorem wcX0_X5_X5_0b (cs : Nat → ClassId) (a : Nat → Nat) (b : Nat → Nat) (S : Nat → Nat → Int32) (L : Nat → Nat → Int64) (T : Nat → Nat → Int32) : ([5, 6, 7, 8, 9, 10, 11, 12, 13, 14, 15, 16, 17, 18, 19, 20] : List Nat).map (fun i => (wX0 cs a S L ++ wX5 cs b T)[i]?) = (wX5 cs b T).map some := rfl
set_option maxRecDepth 20000 in
theorem wbX0_X5_X5_0b (cs : Nat → ClassId) (a : Nat → Nat) (b : Nat → Nat) (S : Nat → Nat → Int32) (L : Nat → Nat → Int64) (T : Nat → Nat → Int32) : ([0, 1, 2, 3, 4, 5, 6, 7, 8, 9, 10, 11, 12, 13, 14, 15, 16, 17, 18, 19, 20] : List Nat).map (fun i => (([0, 1, 2, 3, 4] : List Nat).filterMap (fun i => (wX0 cs a S L ++ wX5 cs b T)[i]?) ++ (wX5 cs b T))[i]?) = (wX0 cs a S L ++ wX5 cs b T).map some := rfl
theorem wsX0_X5_a3 (cs : Nat → ClassId) (a : Nat → Nat) (b : Nat → Nat) (S : Nat → Nat → Int32) (L : Nat → Nat → Int64) (T : Nat → Nat → Int32) (k : Nat) (x : Int64) : List.set (wX0 cs a S L ++ wX5 cs b T) 3 (a 3, .inl (cs 2, 7, .inr (.inl (vp_updL (L 3) k x)))) = (wX0 cs a S (k_wl L 3 k x) ++ wX5 cs b T) := rfl
theorem wsX0_X5_a4 (cs : Nat → ClassId) (a : Nat → Nat) (b : Nat → Nat) (S : Nat → Nat → Int32) (L : Nat → Nat → Int64) (T : Nat → Nat → Int32) (k : Nat) (x : Int64) : List.set (wX0 cs a S L ++ wX5 cs b T) 4 (a 4, .inl (cs 2, 7, .inr (.inl (vp_updL (L 4) k x)))) = (wX0 cs a S (k_wl L 4 k x) ++ wX5 cs b T) := rfl
theorem wsX0_X5_f0_4 (cs : Nat → ClassId) (a : Nat → Nat) (b : Nat → Nat) (S : Nat → Nat → Int32) (L : Nat → Nat → Int64) (T : Nat → Nat → Int32) (x : Int32) : List.set (wX0 cs a S L ++ wX5 cs b T) 0 (a 0, .inr (0, ([.ref (a 1), .ref (a 2), .ref (a 3), .ref (a 4), .int (S 0 4)] : List Value).set 4 (.int x))) = (wX0 cs a (k_w S 0 4 x) L ++ wX5 cs b T) := rfl
theorem wsX2_a1 (cs : Nat → ClassId) (a : Nat → Nat) (S : Nat → Nat → Int32) (k : Nat) (x : Int32) : List.set (wX2 cs a S) 1 (a 1, .inl (cs 0, 150, .inl (upd (S 1) k x))) = (wX2 cs a (k_w S 1 k x)) := rfl
theorem wsX2_f0_2 (cs : Nat → ClassId) (a : Nat → Nat) (S : Nat → Nat → Int32) (x : Int32) : List.set (wX2 cs a S) 0 (a 0, .inr (1, ([.ref (a 1), .ref (a 2), .int (S 0 2), .int (S 0 3), .int (S 0 4), .int (S 0 5)] : List Value).set 2 (.int x))) = (wX2 cs a (k_w S 0 2 x)) := rfl
theorem wsX2_f0_5 (cs : Nat → ClassId) (a : Nat → Nat) (S : Nat → Nat → Int32) (x : Int32) : List.set (wX2 cs a S) 0 (a 0, .inr (1, ([.ref (a 1), .ref (a 2), .int (S 0 2), .int (S 0 3), .int (S 0 4), .int (S 0 5)] : List Value).set 5 (.int x))) = (wX2 cs a (k_w S 0 5 x)) := rfl
theorem wsX2_f0_4 (cs : Nat → ClassId) (a : Nat → Nat) (S : Nat → Nat → Int32) (x : Int32) : List.set (wX2 cs a S) 0 (a 0, .inr (1, ([.ref (a 1), .ref (a 2), .int (S 0 2), .int (S 0 3), .int (S 0 4), .int (S 0 5)] : List Value).set 4 (.int x))) = (wX2 cs a (k_w S 0 4 x)) := rfl
theorem wsX2_f0_3 (cs : Nat → ClassId) (a : Nat → Nat) (S : Nat → Nat → Int32) (x : Int32) : List.set (wX2 cs a S) 0 (a 0, .inr (1, ([.ref (a 1), .ref (a 2), .int (S 0 2), .int (S 0 3), .int (S 0 4), .int (S 0 5)] : List Value).set 3 (.int x))) = (wX2 cs a (k_w S 0 3 x)) := rfl
theorem wsX2_a2 (cs : Nat → ClassId) (a : Nat → Nat) (S : Nat → Nat → Int32) (k : Nat) (x : Int32) : List.set (wX2 cs a S) 2 (a 2, .inl (cs 1, 6, .inl (upd (S 2) k x))) = (wX2 cs a (k_w S 2 k x)) := rfl
set_option maxRecDepth 20000 in
theorem wcX2_X5_X2_0 (cs : Nat → ClassId) (a : Nat → Nat) (b : Nat → Nat) (S : Nat → Nat → Int32) (T : Nat → Nat → Int32) : ([0, 1, 2] : List Nat).map (fun i => (wX2 cs a S ++ wX5 cs b T)[i]?) = (wX2 cs a S).map some := rfl
set_option maxRecDepth 20000 in
theorem wbX2_X5_X2_0_S0 (cs : Nat → ClassId) (a : Nat → Nat) (b : Nat → Nat) (S : Nat → Nat → Int32) (T : Nat → Nat → Int32) (VS0 : Nat → Nat → Int32) : ([16, 17, 18, 0, 1, 2, 3, 4, 5, 6, 7, 8, 9, 10, 11, 12, 13, 14, 15] : List Nat).map (fun i => (([3, 4, 5, 6, 7, 8, 9, 10, 11, 12, 13, 14, 15, 16, 17, 18] : List Nat).filterMap (fun i => (wX2 cs a S ++ wX5 cs b T)[i]?) ++ (wX2 cs a VS0))[i]?) = (wX2 cs a VS0 ++ wX5 cs b T).map some := rfl
set_option maxRecDepth 20000 in
theorem wcX2_X5_X5_0b (cs : Nat → ClassId) (a : Nat → Nat) (b : Nat → Nat) (S : Nat → Nat → Int32) (T : Nat → Nat → Int32) : ([3, 4, 5, 6, 7, 8, 9, 10, 11, 12, 13, 14, 15, 16, 17, 18] : List Nat).map (fun i => (wX2 cs a S ++ wX5 cs b T)[i]?) = (wX5 cs b T).map some := rfl
set_option maxRecDepth 20000 in
theorem wbX2_X5_X5_0b_S0 (cs : Nat → ClassId) (a : Nat → Nat) (b : Nat → Nat) (S : Nat → Nat → Int32) (T : Nat → Nat → Int32) (VS0 : Nat → Nat → Int32) : ([0, 1, 2, 3, 4, 5, 6, 7, 8, 9, 10, 11, 12, 13, 14, 15, 16, 17, 18] : List Nat).map (fun i => (([0, 1, 2] : List Nat).filterMap (fun i => (wX2 cs a S ++ wX5 cs b T)[i]?) ++ (wX5 cs b VS0))[i]?) = (wX2 cs a S ++ wX5 cs b VS0).map some := rfl
theorem wsX2_X5_a6 (cs : Nat → ClassId) (a : Nat → Nat) (b : Nat → Nat) (S : Nat → Nat → Int32) (T : Nat → Nat → Int32) (k : Nat) (x : Int32) : List.set (wX2 cs a S ++ wX5 cs b T) 6 (b 3, .inl (cs 1, 7, .inl (upd (T 3) k x))) = (wX2 cs a S ++ wX5 cs b (k_w T 3 k x)) := rfl
theorem wsX2_X5_a12 (cs : Nat → ClassId) (a : Nat → Nat) (b : Nat → Nat) (S : Nat → Nat → Int32) (T : Nat → Nat → Int32) (k : Nat) (x : Int32) : List.set (wX2 cs a S ++ wX5 cs b T) 12 (b 9, .inl (cs 1, 5, .inl (upd (T 9) k x))) = (wX2 cs a S ++ wX5 cs b (k_w T 9 k x)) := rfl
-- LeastNeed$Journey.fill([JJ)V
set_option maxRecDepth 20000 in
def nX0_fill_l2 (N : Nat) (p1 : Int64) (x3_2 : Int32) (L_2 : Nat → Nat → Int64) : Option ((Int32 × (Nat → Nat → Int64)) ⊕ ((Nat → Nat → Int64))) := if (Int32.ofNat N) ≤ x3_2 then k_up (some L_2) else if x3_2 < 0 ∨ N ≤ x3_2.toNatClampNeg then none else some (.inl ((x3_2 + (1 : Int32)), (k_wl L_2 0 x3_2.toNatClampNeg p1)))
set_option maxRecDepth 20000 in
def nX0_fill (N : Nat) (L : Nat → Nat → Int64) (p1 : Int64) : Option ((Nat → Nat → Int64)) := k_it (fun st => nX0_fill_l2 N p1 st.1 st.2) 1000 ((0 : Int32), L)
set_option maxHeartbeats 4000000 in
set_option maxRecDepth 100000 in
theorem mX0_fill (l : Launch) (D : va_G) (cs : Nat → ClassId) (a : Nat → Nat) (N : Nat) (L : Nat → Nat → Int64) (p1 : Int64) (L9 : (Nat → Nat → Int64)) (hd : nX0_fill N L p1 = some L9) : ∀ sz : Nat, Met l yX0_fill wsX0_fill ({ frames := 0, cells := 0, slots := 0, locals := 0 }) (k_Pc D cs [.ref (a 0), .long p1] (wAJ cs N a L) sz) (k_Qv D (wAJ cs N a L) (wAJ cs N a L9) sz) 0 0 (va_A (wAJ cs N a L) sz) := by
  intro sz
  refine Met.ofW (cc := cX0_fill) (maxL := 4) (ret := none) (by decide) rfl ?_
  intro p e s m args below meth c s₁ B hml hv
  obtain ⟨rfl, hsz, hP, hK, hD0, hNn⟩ := hv
  have hx := B.exec
  have hb := B.bytes
  have hr := B.returns
  have hts := atoms_spec (ws := wsX0_fill) B.pre
  have hown : s.vm.findClass RX0 = some m.cls := findClass_of_methodNamed B.named
  have hlocks := B.notSynchronized
  subst hsz
  obtain ⟨A, hAe⟩ : ∃ A : Nat → Prop, A = va_A (wAJ cs N a L) s.heap.size := ⟨_, rfl⟩
  have hD : va_D A (wAJ cs N a L) := by rw [hAe]; exact hD0.self
  have hA : ∀ q : Nat, s.heap.size ≤ q → A q := fun q h => by rw [hAe]; exact Or.inr h
  have hS : va_S A s.heap s.heap [] := va_S.rf
  have hDA : ∀ (L : Nat → Nat → Int64), va_D A (wAJ cs N a L) := fun L => k_DA hD rfl
  have hl := lv_entry ([.ref (a 0), .long p1]) (n := 4) (Nat.le_of_ble_eq_true rfl)
  rw [lg_entry_eq]
  generalize (lg_sl ([.ref (a 0), .long p1]) ++ List.replicate (4 - (lg_sl ([.ref (a 0), .long p1])).length) Slot.unset).toArray = ls at hl ⊢
  have hl : lv_has ls 4 [(0, .ref (a 0)), (1, .long p1)] := hl
  obtain ⟨Q, hQ⟩ : ∃ Q, Q = MQ below (k_Qv D (wAJ cs N a L) (wAJ cs N a L9) s.heap.size) ([.ref (a 0), .long p1] : List Value).toArray s 0 0 (va_A (wAJ cs N a L) s.heap.size) := ⟨_, rfl⟩
  rw [← hQ]
  have Lo2 : ∀ (n1 : Nat) (x3_2 : Int32) (L_2 : Nat → Nat → Int64) (H : Heap) (locs : List Loc) (ls : Array Slot), k_it (fun st => nX0_fill_l2 N p1 st.1 st.2) n1 (x3_2, L_2) = some L9 → lv_has ls 4 [(0, .ref (a 0)), (1, .long p1), (3, .int x3_2)] → va_P D vwCl (wAJ cs N a L_2) H → va_S A s.heap H locs → W p l e (headSpec wsX0_fill ({ frames := 0, cells := 0, slots := 0, locals := 0 })).room s m ([.ref (a 0), .long p1] : List Value).toArray below meth c H locs 0 0 Q (F0 m 2 ls []) := by
    intro n1
    induction n1 with
    | zero => intro x3_2 L_2 H locs ls hd; exact dn_it0 hd
    | succ n1 ih1 =>
      intro x3_2 L_2 H locs ls hd hl hP hS
      have hD := hDA L_2
      obtain ⟨y1, hd, hy1⟩ := dn_it hd
      have hd : nX0_fill_l2 N p1 x3_2 L_2 = some y1 := hd
      unfold nX0_fill_l2 at hd
      refine lv_iload_n hx hb dX0_fill_2 rfl (lv_at hl 2 rfl) ?_
      refine lv_aload_n hx hb dX0_fill_3 rfl (lv_at hl 0 rfl) ?_
      refine va_alen (D := D) (v := Int32.ofNat N) hx hb hK hP 0 2 rfl rfl rfl dX0_fill_4 ?_
      refine lv_icmp_ge (tgt := 18) hx hb dX0_fill_5 (by decide) (fun c5 => ?_) (fun c5 => ?_)
      · have hd := dn_t c5 hd
        have hd := dn_up hd hy1
        have e1 := dn_s1 hd
        exact k_vret hx hb hr hQ hAe (by rw [e1]) hP hS hlocks dX0_fill_18
      · have hd := dn_f c5 hd
        refine lv_aload_n hx hb dX0_fill_8 rfl (lv_at hl 0 rfl) ?_
        refine lv_iload_n hx hb dX0_fill_9 rfl (lv_at hl 2 rfl) ?_
        refine lv_lload_n hx hb dX0_fill_10 rfl (lv_at hl 1 rfl) ?_
        obtain ⟨hi11, hd⟩ := dn_i hd
        refine k_last (D := D) (k := x3_2.toNatClampNeg) (by rfl) hx hb hK hP hD hS 0 2 rfl rfl hi11 dX0_fill_11 (fun H locs hP hD hS => ?_)
        have hP : va_P D vwCl (wAJ cs N a (k_wl L_2 0 x3_2.toNatClampNeg p1)) _ := k_eq hP (wsaJ_a0 cs N a L_2 x3_2.toNatClampNeg p1)
        have hD := hDA (k_wl L_2 0 x3_2.toNatClampNeg p1)
        refine lv_iinc (v := x3_2 + (1 : Int32)) (lv' := [(3, .int (x3_2 + (1 : Int32))), (0, .ref (a 0)), (1, .long p1)]) hx hb dX0_fill_12 hl (k := 2) rfl rfl (by decide) rfl (fun ls hl => ?_)
        refine lv_goto (tgt := 2) hx hb dX0_fill_15 (by decide) ?_
        exact ih1 (x3_2 + (1 : Int32)) (k_wl L_2 0 x3_2.toNatClampNeg p1) _ _ _ (dn_bk hd hy1) (lv_sub hl [1, 2, 0] rfl) hP hS
  unfold nX0_fill at hd
  refine lv_iconst (v := (0 : Int32)) hx hb dX0_fill_0 (by decide) ?_
  refine lv_istore_n (lv' := [(3, .int (0 : Int32)), (0, .ref (a 0)), (1, .long p1)]) hx hb dX0_fill_1 rfl hl (by decide) rfl (fun ls hl => ?_)
  exact Lo2 1000 (0 : Int32) L _ _ _ hd (lv_sub hl [1, 2, 0] rfl) hP hS
-- LeastNeed$Journey.setOut(LLeastNeed$Valley;IJJ)V
set_option maxRecDepth 20000 in
def nX0_setOut (S : Nat → Nat → Int32) (L : Nat → Nat → Int64) (T : Nat → Nat → Int32) (p2 : Int32) (p3 : Int64) (p5 : Int64) : Option ((Nat → Nat → Int64)) := k_b1 (nX0_fill 7 (k_wi L 1) p3) (fun L5 => k_b1 (nX0_fill 7 (k_wi (k_sp L 1 1 L5) 2) p3) (fun L13 => if p2 < 0 ∨ 5 ≤ p2.toNatClampNeg then none else if (T 9 p2.toNatClampNeg) = 0 then if p2 < 0 ∨ 5 ≤ p2.toNatClampNeg then none else if (T 8 p2.toNatClampNeg) < 0 ∨ 7 ≤ (T 8 p2.toNatClampNeg).toNatClampNeg then none else some (k_wl (k_sp (k_sp L 1 1 L5) 2 1 L13) 1 ((T 8 p2.toNatClampNeg).toNatClampNeg) p5) else if p2 < 0 ∨ 5 ≤ p2.toNatClampNeg then none else if (T 8 p2.toNatClampNeg) < 0 ∨ 7 ≤ (T 8 p2.toNatClampNeg).toNatClampNeg then none else some (k_wl (k_sp (k_sp L 1 1 L5) 2 1 L13) 2 ((T 8 p2.toNatClampNeg).toNatClampNeg) p5)))
set_option maxHeartbeats 4000000 in
set_option maxRecDepth 100000 in
theorem mX0_setOut (l : Launch) (D : va_G) (cs : Nat → ClassId) (a : Nat → Nat) (b : Nat → Nat) (S : Nat → Nat → Int32) (L : Nat → Nat → Int64) (T : Nat → Nat → Int32) (p2 : Int32) (p3 : Int64) (p5 : Int64) (L9 : (Nat → Nat → Int64)) (hd : nX0_setOut S L T p2 p3 p5 = some L9) : ∀ sz : Nat, Met l yX0_setOut wsX0_setOut ({ frames := 1, cells := 0, slots := 0, locals := 23 }) (k_Pc D cs [.ref (a 0), .ref (b 0), .int p2, .long p3, .long p5] (wX0 cs a S L ++ wX5 cs b T) sz) (k_Qv D (wX0 cs a S L ++ wX5 cs b T) (wX0 cs a S L9 ++ wX5 cs b T) sz) 0 0 (va_A (wX0 cs a S L ++ wX5 cs b T) sz) := by
  intro sz
  refine Met.ofW (cc := cX0_setOut) (maxL := 7) (ret := none) (by decide) rfl ?_
  intro p e s m args below meth c s₁ B hml hv
  obtain ⟨rfl, hsz, hP, hK, hD0, hNn⟩ := hv
  have hx := B.exec
  have hb := B.bytes
  have hr := B.returns
  have hts := atoms_spec (ws := wsX0_setOut) B.pre
  have hown : s.vm.findClass RX0 = some m.cls := findClass_of_methodNamed B.named
  have hlocks := B.notSynchronized
  subst hsz
  obtain ⟨A, hAe⟩ : ∃ A : Nat → Prop, A = va_A (wX0 cs a S L ++ wX5 cs b T) s.heap.size := ⟨_, rfl⟩
  have hD : va_D A (wX0 cs a S L ++ wX5 cs b T) := by rw [hAe]; exact hD0.self
  have hA : ∀ q : Nat, s.heap.size ≤ q → A q := fun q h => by rw [hAe]; exact Or.inr h
  have hS : va_S A s.heap s.heap [] := va_S.rf
  have hDA : ∀ (S : Nat → Nat → Int32) (L : Nat → Nat → Int64) (T : Nat → Nat → Int32), va_D A (wX0 cs a S L ++ wX5 cs b T) := fun S L T => k_DA hD rfl
  have hl := lv_entry ([.ref (a 0), .ref (b 0), .int p2, .long p3, .long p5]) (n := 7) (Nat.le_of_ble_eq_true rfl)
  rw [lg_entry_eq]
  generalize (lg_sl ([.ref (a 0), .ref (b 0), .int p2, .long p3, .long p5]) ++ List.replicate (7 - (lg_sl ([.ref (a 0), .ref (b 0), .int p2, .long p3, .long p5])).length) Slot.unset).toArray = ls at hl ⊢
  have hl : lv_has ls 7 [(0, .ref (a 0)), (1, .ref (b 0)), (2, .int p2), (3, .long p3), (5, .long p5)] := hl
  obtain ⟨Q, hQ⟩ : ∃ Q, Q = MQ below (k_Qv D (wX0 cs a S L ++ wX5 cs b T) (wX0 cs a S L9 ++ wX5 cs b T) s.heap.size) ([.ref (a 0), .ref (b 0), .int p2, .long p3, .long p5] : List Value).toArray s 0 0 (va_A (wX0 cs a S L ++ wX5 cs b T) s.heap.size) := ⟨_, rfl⟩
  rw [← hQ]
  unfold nX0_setOut at hd
  refine lv_aload_n hx hb dX0_setOut_0 rfl (lv_at hl 0 rfl) ?_
  refine va_get (D := D) (ci := 0) (v := .ref (a 1)) (C := RX0) (T := TX0) (N := 5) hx hb hts (fun w h => List.mem_cons_of_mem _ (List.mem_append_left _ (List.mem_append_right _ h))) hown hK hP 0 rfl rfl 0 (by decide) (hts (.fieldLink RX0 9 "LeastNeed$Journey" "has" "[J") (List.mem_of_getElem? (i := 1) rfl)) (fun _ h9 => h9) rfl dX0_setOut_1 ?_
  refine lv_lload_n hx hb dX0_setOut_4 rfl (lv_at hl 3 rfl) ?_
  obtain ⟨L5, hq5, hd⟩ := dn_b1 hd
  have hPc : va_P D vwCl (wAJ cs 7 (k_wi a 1) (k_wi L 1)) _ := k_sub hP [1] (wcX0_X5_aJ_1 cs a b S L T)
  have hDc : va_D A (wAJ cs 7 (k_wi a 1) (k_wi L 1)) := hD.sub [1] (by decide) (wcX0_X5_aJ_1 cs a b S L T)
  have hF := k_self hDc hS hA
  refine k_run_v (va_runS (As := [.ref (a 1), .long p3]) (rest := []) ⟨hx, hb, hml, hown, hts⟩ (mX0_fill l D cs (k_wi a 1) 7 (k_wi L 1) p3 L5 hq5 _) (va_cwS 2 hts gX0_setOut_X0_fill rfl rfl rfl (by decide +kernel) ⟨Nat.le_of_ble_eq_true rfl, Nat.le_of_ble_eq_true rfl⟩) ⟨k_blind, k_pre hPc hK hNn hDc⟩ rfl rfl hl.1 rfl (lv_room (Nat.le_of_ble_eq_true rfl)) dX0_setOut_5 ⟨Nat.le_of_ble_eq_true rfl, Nat.le_of_ble_eq_true rfl⟩) hS hF (fun H locs hP1 hk hS => ?_)
  have hP : va_P D vwCl (wX0 cs a S (k_sp L 1 1 L5) ++ wX5 cs b T) _ := k_back hP hD [1] [0, 2, 3, 4, 5, 6, 7, 8, 9, 10, 11, 12, 13, 14, 15, 16, 17, 18, 19, 20] [0, 20, 1, 2, 3, 4, 5, 6, 7, 8, 9, 10, 11, 12, 13, 14, 15, 16, 17, 18, 19] (wcX0_X5_aJ_1 cs a b S L T) (by decide) hk hP1 (wbX0_X5_aJ_1_L0 cs a b S L T L5)
  have hD := hDA S (k_sp L 1 1 L5) T
  refine lv_aload_n hx hb dX0_setOut_8 rfl (lv_at hl 0 rfl) ?_
  refine va_get (D := D) (ci := 0) (v := .ref (a 2)) (C := RX0) (T := TX0) (N := 5) hx hb hts (fun w h => List.mem_cons_of_mem _ (List.mem_append_left _ (List.mem_append_right _ h))) hown hK hP 0 rfl rfl 1 (by decide) (hts (.fieldLink RX0 15 "LeastNeed$Journey" "lost" "[J") (List.mem_of_getElem? (i := 2) rfl)) (fun _ h9 => h9) rfl dX0_setOut_9 ?_
  refine lv_lload_n hx hb dX0_setOut_12 rfl (lv_at hl 3 rfl) ?_
  obtain ⟨L13, hq13, hd⟩ := dn_b1 hd
  have hPc : va_P D vwCl (wAJ cs 7 (k_wi a 2) (k_wi (k_sp L 1 1 L5) 2)) _ := k_sub hP [2] (wcX0_X5_aJ_2 cs a b S (k_sp L 1 1 L5) T)
  have hDc : va_D A (wAJ cs 7 (k_wi a 2) (k_wi (k_sp L 1 1 L5) 2)) := hD.sub [2] (by decide) (wcX0_X5_aJ_2 cs a b S (k_sp L 1 1 L5) T)
  have hF := k_self hDc hS hA
  refine k_run_v (va_runS (As := [.ref (a 2), .long p3]) (rest := []) ⟨hx, hb, hml, hown, hts⟩ (mX0_fill l D cs (k_wi a 2) 7 (k_wi (k_sp L 1 1 L5) 2) p3 L13 hq13 _) (va_cwS 2 hts gX0_setOut_X0_fill rfl rfl rfl (by decide +kernel) ⟨Nat.le_of_ble_eq_true rfl, Nat.le_of_ble_eq_true rfl⟩) ⟨k_blind, k_pre hPc hK hNn hDc⟩ rfl rfl hl.1 rfl (lv_room (Nat.le_of_ble_eq_true rfl)) dX0_setOut_13 ⟨Nat.le_of_ble_eq_true rfl, Nat.le_of_ble_eq_true rfl⟩) hS hF (fun H locs hP1 hk hS => ?_)
  have hP : va_P D vwCl (wX0 cs a S (k_sp (k_sp L 1 1 L5) 2 1 L13) ++ wX5 cs b T) _ := k_back hP hD [2] [0, 1, 3, 4, 5, 6, 7, 8, 9, 10, 11, 12, 13, 14, 15, 16, 17, 18, 19, 20] [0, 1, 20, 2, 3, 4, 5, 6, 7, 8, 9, 10, 11, 12, 13, 14, 15, 16, 17, 18, 19] (wcX0_X5_aJ_2 cs a b S (k_sp L 1 1 L5) T) (by decide) hk hP1 (wbX0_X5_aJ_2_L0 cs a b S (k_sp L 1 1 L5) T L13)
  have hD := hDA S (k_sp (k_sp L 1 1 L5) 2 1 L13) T
  refine lv_aload_n hx hb dX0_setOut_16 rfl (lv_at hl 1 rfl) ?_
  refine va_get (D := D) (ci := 3) (v := .ref (b 9)) (C := RX5) (T := TX5) (N := 15) hx hb hts (fun w h => List.mem_cons_of_mem _ (List.mem_append_right _ h)) hown hK hP 5 rfl rfl 8 (by decide) (hts (.fieldLink RX0 51 "LeastNeed$Valley" "place" "[I") (List.mem_of_getElem? (i := 3) rfl)) (fun _ h9 => h9) rfl dX0_setOut_17 ?_
  refine lv_iload_n hx hb dX0_setOut_20 rfl (lv_at hl 2 rfl) ?_
  obtain ⟨hi21, hd⟩ := dn_i hd
  refine k_iald (D := D) (k := p2.toNatClampNeg) (by rfl) hx hb hK hP 14 1 rfl rfl hi21 dX0_setOut_21 ?_
  refine lv_if_ne (tgt := 41) hx hb dX0_setOut_22 (by decide) (fun c22 => ?_) (fun c22 => ?_)
  · have hd := dn_f c22 hd
    refine lv_aload_n hx hb dX0_setOut_41 rfl (lv_at hl 0 rfl) ?_
    refine va_get (D := D) (ci := 0) (v := .ref (a 2)) (C := RX0) (T := TX0) (N := 5) hx hb hts (fun w h => List.mem_cons_of_mem _ (List.mem_append_left _ (List.mem_append_right _ h))) hown hK hP 0 rfl rfl 1 (by decide) (hts (.fieldLink RX0 15 "LeastNeed$Journey" "lost" "[J") (List.mem_of_getElem? (i := 2) rfl)) (fun _ h9 => h9) rfl dX0_setOut_42 ?_
    refine lv_aload_n hx hb dX0_setOut_45 rfl (lv_at hl 1 rfl) ?_
    refine va_get (D := D) (ci := 3) (v := .ref (b 8)) (C := RX5) (T := TX5) (N := 15) hx hb hts (fun w h => List.mem_cons_of_mem _ (List.mem_append_right _ h)) hown hK hP 5 rfl rfl 7 (by decide) (hts (.fieldLink RX0 55 "LeastNeed$Valley" "holder" "[I") (List.mem_of_getElem? (i := 4) rfl)) (fun _ h9 => h9) rfl dX0_setOut_46 ?_
    refine lv_iload_n hx hb dX0_setOut_49 rfl (lv_at hl 2 rfl) ?_
    obtain ⟨hi50, hd⟩ := dn_i hd
    refine k_iald (D := D) (k := p2.toNatClampNeg) (by rfl) hx hb hK hP 13 1 rfl rfl hi50 dX0_setOut_50 ?_
    refine lv_lload hx hb dX0_setOut_51 (lv_at hl 4 rfl) ?_
    obtain ⟨hi53, hd⟩ := dn_i hd
    refine k_last (D := D) (k := (T 8 p2.toNatClampNeg).toNatClampNeg) (by rfl) hx hb hK hP hD hS 2 2 rfl rfl hi53 dX0_setOut_53 (fun H locs hP hD hS => ?_)
    have hP : va_P D vwCl (wX0 cs a S (k_wl (k_sp (k_sp L 1 1 L5) 2 1 L13) 2 ((T 8 p2.toNatClampNeg).toNatClampNeg) p5) ++ wX5 cs b T) _ := k_eq hP (wsX0_X5_a2 cs a b S (k_sp (k_sp L 1 1 L5) 2 1 L13) T ((T 8 p2.toNatClampNeg).toNatClampNeg) p5)
    have hD := hDA S (k_wl (k_sp (k_sp L 1 1 L5) 2 1 L13) 2 ((T 8 p2.toNatClampNeg).toNatClampNeg) p5) T
    have e1 := dn_s1 hd
    exact k_vret hx hb hr hQ hAe (by rw [e1]) hP hS hlocks dX0_setOut_54
  · have hd := dn_t c22 hd
    refine lv_aload_n hx hb dX0_setOut_25 rfl (lv_at hl 0 rfl) ?_
    refine va_get (D := D) (ci := 0) (v := .ref (a 1)) (C := RX0) (T := TX0) (N := 5) hx hb hts (fun w h => List.mem_cons_of_mem _ (List.mem_append_left _ (List.mem_append_right _ h))) hown hK hP 0 rfl rfl 0 (by decide) (hts (.fieldLink RX0 9 "LeastNeed$Journey" "has" "[J") (List.mem_of_getElem? (i := 1) rfl)) (fun _ h9 => h9) rfl dX0_setOut_26 ?_
    refine lv_aload_n hx hb dX0_setOut_29 rfl (lv_at hl 1 rfl) ?_
    refine va_get (D := D) (ci := 3) (v := .ref (b 8)) (C := RX5) (T := TX5) (N := 15) hx hb hts (fun w h => List.mem_cons_of_mem _ (List.mem_append_right _ h)) hown hK hP 5 rfl rfl 7 (by decide) (hts (.fieldLink RX0 55 "LeastNeed$Valley" "holder" "[I") (List.mem_of_getElem? (i := 4) rfl)) (fun _ h9 => h9) rfl dX0_setOut_30 ?_
    refine lv_iload_n hx hb dX0_setOut_33 rfl (lv_at hl 2 rfl) ?_
    obtain ⟨hi34, hd⟩ := dn_i hd
    refine k_iald (D := D) (k := p2.toNatClampNeg) (by rfl) hx hb hK hP 13 1 rfl rfl hi34 dX0_setOut_34 ?_
    refine lv_lload hx hb dX0_setOut_35 (lv_at hl 4 rfl) ?_
    obtain ⟨hi37, hd⟩ := dn_i hd
    refine k_last (D := D) (k := (T 8 p2.toNatClampNeg).toNatClampNeg) (by rfl) hx hb hK hP hD hS 1 2 rfl rfl hi37 dX0_setOut_37 (fun H locs hP hD hS => ?_)
    have hP : va_P D vwCl (wX0 cs a S (k_wl (k_sp (k_sp L 1 1 L5) 2 1 L13) 1 ((T 8 p2.toNatClampNeg).toNatClampNeg) p5) ++ wX5 cs b T) _ := k_eq hP (wsX0_X5_a1 cs a b S (k_sp (k_sp L 1 1 L5) 2 1 L13) T ((T 8 p2.toNatClampNeg).toNatClampNeg) p5)
    have hD := hDA S (k_wl (k_sp (k_sp L 1 1 L5) 2 1 L13) 1 ((T 8 p2.toNatClampNeg).toNatClampNeg) p5) T
    refine lv_goto (tgt := 54) hx hb dX0_setOut_38 (by decide) ?_
    have e1 := dn_s1 hd
    exact k_vret hx hb hr hQ hAe (by rw [e1]) hP hS hlocks dX0_setOut_54
-- LeastNeed$Journey.takeNext()V
set_option maxRecDepth 20000 in
def nX0_takeNext (S : Nat → Nat → Int32) (L : Nat → Nat → Int64) : Option ((Nat → Nat → Int64)) := if k_cpok (0 : Int32) (0 : Int32) (7 : Int32) 7 7 = false then none else if k_cpok (0 : Int32) (0 : Int32) (7 : Int32) 7 7 = false then none else some (k_r (k_r L 1 (va_cpy (L 3) (L 1) (0 : Int32).toNatClampNeg (0 : Int32).toNatClampNeg (7 : Int32).toNatClampNeg)) 2 (va_cpy ((k_r L 1 (va_cpy (L 3) (L 1) (0 : Int32).toNatClampNeg (0 : Int32).toNatClampNeg (7 : Int32).toNatClampNeg)) 4) ((k_r L 1 (va_cpy (L 3) (L 1) (0 : Int32).toNatClampNeg (0 : Int32).toNatClampNeg (7 : Int32).toNatClampNeg)) 2) (0 : Int32).toNatClampNeg (0 : Int32).toNatClampNeg (7 : Int32).toNatClampNeg))
set_option maxHeartbeats 4000000 in
set_option maxRecDepth 100000 in
theorem mX0_takeNext (l : Launch) (D : va_G) (cs : Nat → ClassId) (a : Nat → Nat) (S : Nat → Nat → Int32) (L : Nat → Nat → Int64) (L9 : (Nat → Nat → Int64)) (hd : nX0_takeNext S L = some L9) : ∀ sz : Nat, Met l yX0_takeNext wsX0_takeNext ({ frames := 1, cells := 0, slots := 0, locals := 40 }) (k_Pc D cs [.ref (a 0)] (wX0 cs a S L) sz) (k_Qv D (wX0 cs a S L) (wX0 cs a S L9) sz) 0 0 (va_A (wX0 cs a S L) sz) := by
  intro sz
  refine Met.ofW (cc := cX0_takeNext) (maxL := 1) (ret := none) (by decide) rfl ?_
  intro p e s m args below meth c s₁ B hml hv
  obtain ⟨rfl, hsz, hP, hK, hD0, hNn⟩ := hv
  have hx := B.exec
  have hb := B.bytes
  have hr := B.returns
  have hts := atoms_spec (ws := wsX0_takeNext) B.pre
  have hown : s.vm.findClass RX0 = some m.cls := findClass_of_methodNamed B.named
  have hlocks := B.notSynchronized
  subst hsz
  obtain ⟨A, hAe⟩ : ∃ A : Nat → Prop, A = va_A (wX0 cs a S L) s.heap.size := ⟨_, rfl⟩
  have hD : va_D A (wX0 cs a S L) := by rw [hAe]; exact hD0.self
  have hA : ∀ q : Nat, s.heap.size ≤ q → A q := fun q h => by rw [hAe]; exact Or.inr h
  have hS : va_S A s.heap s.heap [] := va_S.rf
  have hDA : ∀ (S : Nat → Nat → Int32) (L : Nat → Nat → Int64), va_D A (wX0 cs a S L) := fun S L => k_DA hD rfl
  have hl := lv_entry ([.ref (a 0)]) (n := 1) (Nat.le_of_ble_eq_true rfl)
  rw [lg_entry_eq]
  generalize (lg_sl ([.ref (a 0)]) ++ List.replicate (1 - (lg_sl ([.ref (a 0)])).length) Slot.unset).toArray = ls at hl ⊢
  have hl : lv_has ls 1 [(0, .ref (a 0))] := hl
  obtain ⟨Q, hQ⟩ : ∃ Q, Q = MQ below (k_Qv D (wX0 cs a S L) (wX0 cs a S L9) s.heap.size) ([.ref (a 0)] : List Value).toArray s 0 0 (va_A (wX0 cs a S L) s.heap.size) := ⟨_, rfl⟩
  rw [← hQ]
  unfold nX0_takeNext at hd
  refine lv_aload_n hx hb dX0_takeNext_0 rfl (lv_at hl 0 rfl) ?_
  refine va_get (D := D) (ci := 0) (v := .ref (a 3)) (C := RX0) (T := TX0) (N := 5) hx hb hts (fun w h => List.mem_cons_of_mem _ (List.mem_append_right _ h)) hown hK hP 0 rfl rfl 2 (by decide) (hts (.fieldLink RX0 18 "LeastNeed$Journey" "hasNext" "[J") (List.mem_of_getElem? (i := 1) rfl)) (fun _ h9 => h9) rfl dX0_takeNext_1 ?_
  refine lv_iconst (v := (0 : Int32)) hx hb dX0_takeNext_4 (by decide) ?_
  refine lv_aload_n hx hb dX0_takeNext_5 rfl (lv_at hl 0 rfl) ?_
  refine va_get (D := D) (ci := 0) (v := .ref (a 1)) (C := RX0) (T := TX0) (N := 5) hx hb hts (fun w h => List.mem_cons_of_mem _ (List.mem_append_right _ h)) hown hK hP 0 rfl rfl 0 (by decide) (hts (.fieldLink RX0 9 "LeastNeed$Journey" "has" "[J") (List.mem_of_getElem? (i := 2) rfl)) (fun _ h9 => h9) rfl dX0_takeNext_6 ?_
  refine lv_iconst (v := (0 : Int32)) hx hb dX0_takeNext_9 (by decide) ?_
  refine lv_bipush (v := (7 : Int32)) hx hb dX0_takeNext_10 (by decide) ?_
  obtain ⟨hc12, hd⟩ := dn_n hd
  refine k_cpl (D := D) hx hb (hml.trans hl.1.symm) hown (hts (.methodLink RX0 82 arraycopyName) (List.mem_of_getElem? (i := 3) rfl)) (hts (.native arraycopyName) (List.mem_of_getElem? (i := 4) rfl)) (hts (.static arraycopyName) (List.mem_of_getElem? (i := 5) rfl)) (hts (.initialized "java/lang/System") (List.mem_of_getElem? (i := 6) rfl)) hK hP hD hS 3 1 2 2 rfl rfl rfl rfl hc12 (Nat.le_of_ble_eq_true rfl) (Nat.le_of_ble_eq_true rfl) dX0_takeNext_12 (fun H locs hP hD hS => ?_)
  have hP : va_P D vwCl (wX0 cs a S (k_r L 1 (va_cpy (L 3) (L 1) (0 : Int32).toNatClampNeg (0 : Int32).toNatClampNeg (7 : Int32).toNatClampNeg))) _ := k_eq hP (wsX0_r1 cs a S L (va_cpy (L 3) (L 1) (0 : Int32).toNatClampNeg (0 : Int32).toNatClampNeg (7 : Int32).toNatClampNeg))
  have hD := hDA S (k_r L 1 (va_cpy (L 3) (L 1) (0 : Int32).toNatClampNeg (0 : Int32).toNatClampNeg (7 : Int32).toNatClampNeg))
  refine lv_aload_n hx hb dX0_takeNext_15 rfl (lv_at hl 0 rfl) ?_
  refine va_get (D := D) (ci := 0) (v := .ref (a 4)) (C := RX0) (T := TX0) (N := 5) hx hb hts (fun w h => List.mem_cons_of_mem _ (List.mem_append_right _ h)) hown hK hP 0 rfl rfl 3 (by decide) (hts (.fieldLink RX0 21 "LeastNeed$Journey" "lostNext" "[J") (List.mem_of_getElem? (i := 7) rfl)) (fun _ h9 => h9) rfl dX0_takeNext_16 ?_
  refine lv_iconst (v := (0 : Int32)) hx hb dX0_takeNext_19 (by decide) ?_
  refine lv_aload_n hx hb dX0_takeNext_20 rfl (lv_at hl 0 rfl) ?_
  refine va_get (D := D) (ci := 0) (v := .ref (a 2)) (C := RX0) (T := TX0) (N := 5) hx hb hts (fun w h => List.mem_cons_of_mem _ (List.mem_append_right _ h)) hown hK hP 0 rfl rfl 1 (by decide) (hts (.fieldLink RX0 15 "LeastNeed$Journey" "lost" "[J") (List.mem_of_getElem? (i := 8) rfl)) (fun _ h9 => h9) rfl dX0_takeNext_21 ?_
  refine lv_iconst (v := (0 : Int32)) hx hb dX0_takeNext_24 (by decide) ?_
  refine lv_bipush (v := (7 : Int32)) hx hb dX0_takeNext_25 (by decide) ?_
  obtain ⟨hc27, hd⟩ := dn_n hd
  refine k_cpl (D := D) hx hb (hml.trans hl.1.symm) hown (hts (.methodLink RX0 82 arraycopyName) (List.mem_of_getElem? (i := 3) rfl)) (hts (.native arraycopyName) (List.mem_of_getElem? (i := 4) rfl)) (hts (.static arraycopyName) (List.mem_of_getElem? (i := 5) rfl)) (hts (.initialized "java/lang/System") (List.mem_of_getElem? (i := 6) rfl)) hK hP hD hS 4 2 2 2 rfl rfl rfl rfl hc27 (Nat.le_of_ble_eq_true rfl) (Nat.le_of_ble_eq_true rfl) dX0_takeNext_27 (fun H locs hP hD hS => ?_)
  have hP : va_P D vwCl (wX0 cs a S (k_r (k_r L 1 (va_cpy (L 3) (L 1) (0 : Int32).toNatClampNeg (0 : Int32).toNatClampNeg (7 : Int32).toNatClampNeg)) 2 (va_cpy ((k_r L 1 (va_cpy (L 3) (L 1) (0 : Int32).toNatClampNeg (0 : Int32).toNatClampNeg (7 : Int32).toNatClampNeg)) 4) ((k_r L 1 (va_cpy (L 3) (L 1) (0 : Int32).toNatClampNeg (0 : Int32).toNatClampNeg (7 : Int32).toNatClampNeg)) 2) (0 : Int32).toNatClampNeg (0 : Int32).toNatClampNeg (7 : Int32).toNatClampNeg))) _ := k_eq hP (wsX0_r2 cs a S (k_r L 1 (va_cpy (L 3) (L 1) (0 : Int32).toNatClampNeg (0 : Int32).toNatClampNeg (7 : Int32).toNatClampNeg)) (va_cpy ((k_r L 1 (va_cpy (L 3) (L 1) (0 : Int32).toNatClampNeg (0 : Int32).toNatClampNeg (7 : Int32).toNatClampNeg)) 4) ((k_r L 1 (va_cpy (L 3) (L 1) (0 : Int32).toNatClampNeg (0 : Int32).toNatClampNeg (7 : Int32).toNatClampNeg)) 2) (0 : Int32).toNatClampNeg (0 : Int32).toNatClampNeg (7 : Int32).toNatClampNeg))
  have hD := hDA S (k_r (k_r L 1 (va_cpy (L 3) (L 1) (0 : Int32).toNatClampNeg (0 : Int32).toNatClampNeg (7 : Int32).toNatClampNeg)) 2 (va_cpy ((k_r L 1 (va_cpy (L 3) (L 1) (0 : Int32).toNatClampNeg (0 : Int32).toNatClampNeg (7 : Int32).toNatClampNeg)) 4) ((k_r L 1 (va_cpy (L 3) (L 1) (0 : Int32).toNatClampNeg (0 : Int32).toNatClampNeg (7 : Int32).toNatClampNeg)) 2) (0 : Int32).toNatClampNeg (0 : Int32).toNatClampNeg (7 : Int32).toNatClampNeg))
  have e1 := dn_s1 hd
  exact k_vret hx hb hr hQ hAe (by rw [e1]) hP hS hlocks dX0_takeNext_30
-- LeastNeed$Journey.goOnByFewest(LLeastNeed$Valley;II)V
set_option maxRecDepth 20000 in
def nX0_goOnByFewest_l23 (p2 : Int32) (p3 : Int32) (x4_23 : Int32) (S : Nat → Nat → Int32) (L_23 : Nat → Nat → Int64) (T : Nat → Nat → Int32) : Option ((Int32 × (Nat → Nat → Int64)) ⊕ ((Nat → Nat → Int64))) := if (T 0 12) ≤ x4_23 then k_up (k_b1 (nX0_takeNext S L_23) (fun L152 => some L152)) else if p2 < 0 ∨ 5 ≤ p2.toNatClampNeg then none else if p2 < 0 ∨ 5 ≤ p2.toNatClampNeg then none else k_b1 (nX5_goesTo T (T 5 p2.toNatClampNeg) (T 6 p2.toNatClampNeg) x4_23 p3) (fun r48 => if x4_23 < 0 ∨ 7 ≤ x4_23.toNatClampNeg then none else if x4_23 < 0 ∨ 7 ≤ x4_23.toNatClampNeg then none else if x4_23 < 0 ∨ 7 ≤ x4_23.toNatClampNeg then none else if x4_23 < 0 ∨ 7 ≤ x4_23.toNatClampNeg then none else if x4_23 < 0 ∨ 7 ≤ x4_23.toNatClampNeg then none else if r48 = (-1 : Int32) then if x4_23 < 0 ∨ 7 ≤ x4_23.toNatClampNeg then none else if x4_23 < 0 ∨ 7 ≤ x4_23.toNatClampNeg then none else some (.inl ((x4_23 + (1 : Int32)), (k_wl (k_wl L_23 3 x4_23.toNatClampNeg (if (L_23 1 x4_23.toNatClampNeg) < (L_23 3 x4_23.toNatClampNeg) then (L_23 1 x4_23.toNatClampNeg) else (L_23 3 x4_23.toNatClampNeg))) 4 x4_23.toNatClampNeg (if (if (L_23 2 x4_23.toNatClampNeg) < ((L_23 1 x4_23.toNatClampNeg) + (1 : Int64)) then (L_23 2 x4_23.toNatClampNeg) else ((L_23 1 x4_23.toNatClampNeg) + (1 : Int64))) < ((k_wl L_23 3 x4_23.toNatClampNeg (if (L_23 1 x4_23.toNatClampNeg) < (L_23 3 x4_23.toNatClampNeg) then (L_23 1 x4_23.toNatClampNeg) else (L_23 3 x4_23.toNatClampNeg))) 4 x4_23.toNatClampNeg) then (if (L_23 2 x4_23.toNatClampNeg) < ((L_23 1 x4_23.toNatClampNeg) + (1 : Int64)) then (L_23 2 x4_23.toNatClampNeg) else ((L_23 1 x4_23.toNatClampNeg) + (1 : Int64))) else ((k_wl L_23 3 x4_23.toNatClampNeg (if (L_23 1 x4_23.toNatClampNeg) < (L_23 3 x4_23.toNatClampNeg) then (L_23 1 x4_23.toNatClampNeg) else (L_23 3 x4_23.toNatClampNeg))) 4 x4_23.toNatClampNeg))))) else if r48 < 0 ∨ 7 ≤ r48.toNatClampNeg then none else if r48 < 0 ∨ 7 ≤ r48.toNatClampNeg then none else some (.inl ((x4_23 + (1 : Int32)), (k_wl (k_wl L_23 3 x4_23.toNatClampNeg (if (L_23 1 x4_23.toNatClampNeg) < (L_23 3 x4_23.toNatClampNeg) then (L_23 1 x4_23.toNatClampNeg) else (L_23 3 x4_23.toNatClampNeg))) 3 r48.toNatClampNeg (if (if (L_23 2 x4_23.toNatClampNeg) < ((L_23 1 x4_23.toNatClampNeg) + (1 : Int64)) then (L_23 2 x4_23.toNatClampNeg) else ((L_23 1 x4_23.toNatClampNeg) + (1 : Int64))) < ((k_wl L_23 3 x4_23.toNatClampNeg (if (L_23 1 x4_23.toNatClampNeg) < (L_23 3 x4_23.toNatClampNeg) then (L_23 1 x4_23.toNatClampNeg) else (L_23 3 x4_23.toNatClampNeg))) 3 r48.toNatClampNeg) then (if (L_23 2 x4_23.toNatClampNeg) < ((L_23 1 x4_23.toNatClampNeg) + (1 : Int64)) then (L_23 2 x4_23.toNatClampNeg) else ((L_23 1 x4_23.toNatClampNeg) + (1 : Int64))) else ((k_wl L_23 3 x4_23.toNatClampNeg (if (L_23 1 x4_23.toNatClampNeg) < (L_23 3 x4_23.toNatClampNeg) then (L_23 1 x4_23.toNatClampNeg) else (L_23 3 x4_23.toNatClampNeg))) 3 r48.toNatClampNeg))))))
set_option maxRecDepth 20000 in
def nX0_goOnByFewest (S : Nat → Nat → Int32) (L : Nat → Nat → Int64) (T : Nat → Nat → Int32) (p2 : Int32) (p3 : Int32) : Option ((Nat → Nat → Int64)) := k_b1 (nX0_fill 7 (k_wi L 3) (1000 : Int64)) (fun L7 => k_b1 (nX0_fill 7 (k_wi (k_sp L 3 1 L7) 4) (1000 : Int64)) (fun L17 => k_it (fun st => nX0_goOnByFewest_l23 p2 p3 st.1 S st.2 T) 1000 ((0 : Int32), (k_sp (k_sp L 3 1 L7) 4 1 L17))))
set_option maxHeartbeats 4000000 in
set_option maxRecDepth 100000 in
theorem mX0_goOnByFewest (l : Launch) (D : va_G) (cs : Nat → ClassId) (a : Nat → Nat) (b : Nat → Nat) (S : Nat → Nat → Int32) (L : Nat → Nat → Int64) (T : Nat → Nat → Int32) (p2 : Int32) (p3 : Int32) (L9 : (Nat → Nat → Int64)) (hd : nX0_goOnByFewest S L T p2 p3 = some L9) : ∀ sz : Nat, Met l yX0_goOnByFewest wsX0_goOnByFewest ({ frames := 3, cells := 0, slots := 0, locals := 84 }) (k_Pc D cs [.ref (a 0), .ref (b 0), .int p2, .int p3] (wX0 cs a S L ++ wX5 cs b T) sz) (k_Qv D (wX0 cs a S L ++ wX5 cs b T) (wX0 cs a S L9 ++ wX5 cs b T) sz) 0 0 (va_A (wX0 cs a S L ++ wX5 cs b T) sz) := by
  intro sz
  refine Met.ofW (cc := cX0_goOnByFewest) (maxL := 8) (ret := none) (by decide) rfl ?_
  intro p e s m args below meth c s₁ B hml hv
  obtain ⟨rfl, hsz, hP, hK, hD0, hNn⟩ := hv
  have hx := B.exec
  have hb := B.bytes
  have hr := B.returns
  have hts := atoms_spec (ws := wsX0_goOnByFewest) B.pre
  have hown : s.vm.findClass RX0 = some m.cls := findClass_of_methodNamed B.named
  have hlocks := B.notSynchronized
  subst hsz
  obtain ⟨A, hAe⟩ : ∃ A : Nat → Prop, A = va_A (wX0 cs a S L ++ wX5 cs b T) s.heap.size := ⟨_, rfl⟩
  have hD : va_D A (wX0 cs a S L ++ wX5 cs b T) := by rw [hAe]; exact hD0.self
  have hA : ∀ q : Nat, s.heap.size ≤ q → A q := fun q h => by rw [hAe]; exact Or.inr h
  have hS : va_S A s.heap s.heap [] := va_S.rf
  have hDA : ∀ (S : Nat → Nat → Int32) (L : Nat → Nat → Int64) (T : Nat → Nat → Int32), va_D A (wX0 cs a S L ++ wX5 cs b T) := fun S L T => k_DA hD rfl
  have hl := lv_entry ([.ref (a 0), .ref (b 0), .int p2, .int p3]) (n := 8) (Nat.le_of_ble_eq_true rfl)
  rw [lg_entry_eq]
  generalize (lg_sl ([.ref (a 0), .ref (b 0), .int p2, .int p3]) ++ List.replicate (8 - (lg_sl ([.ref (a 0), .ref (b 0), .int p2, .int p3])).length) Slot.unset).toArray = ls at hl ⊢
  have hl : lv_has ls 8 [(0, .ref (a 0)), (1, .ref (b 0)), (2, .int p2), (3, .int p3)] := hl
  obtain ⟨Q, hQ⟩ : ∃ Q, Q = MQ below (k_Qv D (wX0 cs a S L ++ wX5 cs b T) (wX0 cs a S L9 ++ wX5 cs b T) s.heap.size) ([.ref (a 0), .ref (b 0), .int p2, .int p3] : List Value).toArray s 0 0 (va_A (wX0 cs a S L ++ wX5 cs b T) s.heap.size) := ⟨_, rfl⟩
  rw [← hQ]
  have Lo23 : ∀ (n1 : Nat) (x4_23 : Int32) (L_23 : Nat → Nat → Int64) (H : Heap) (locs : List Loc) (ls : Array Slot), k_it (fun st => nX0_goOnByFewest_l23 p2 p3 st.1 S st.2 T) n1 (x4_23, L_23) = some L9 → lv_has ls 8 [(0, .ref (a 0)), (1, .ref (b 0)), (2, .int p2), (3, .int p3), (4, .int x4_23)] → va_P D vwCl (wX0 cs a S L_23 ++ wX5 cs b T) H → va_S A s.heap H locs → W p l e (headSpec wsX0_goOnByFewest ({ frames := 3, cells := 0, slots := 0, locals := 84 })).room s m ([.ref (a 0), .ref (b 0), .int p2, .int p3] : List Value).toArray below meth c H locs 0 0 Q (F0 m 23 ls []) := by
    intro n1
    induction n1 with
    | zero => intro x4_23 L_23 H locs ls hd; exact dn_it0 hd
    | succ n1 ih1 =>
      intro x4_23 L_23 H locs ls hd hl hP hS
      have hD := hDA S L_23 T
      obtain ⟨y1, hd, hy1⟩ := dn_it hd
      have hd : nX0_goOnByFewest_l23 p2 p3 x4_23 S L_23 T = some y1 := hd
      unfold nX0_goOnByFewest_l23 at hd
      refine lv_iload hx hb dX0_goOnByFewest_23 (lv_at hl 4 rfl) ?_
      refine lv_aload_n hx hb dX0_goOnByFewest_25 rfl (lv_at hl 1 rfl) ?_
      refine va_get (D := D) (ci := 3) (v := .int (T 0 12)) (C := RX5) (T := TX5) (N := 15) hx hb hts (fun w h => List.mem_cons_of_mem _ (List.mem_append_right _ h)) hown hK hP 5 rfl rfl 12 (by decide) (hts (.fieldLink RX0 58 "LeastNeed$Valley" "people" "I") (List.mem_of_getElem? (i := 4) rfl)) (fun _ h9 => h9) rfl dX0_goOnByFewest_26 ?_
      refine lv_icmp_ge (tgt := 151) hx hb dX0_goOnByFewest_29 (by decide) (fun c29 => ?_) (fun c29 => ?_)
      · have hd := dn_t c29 hd
        have hd := dn_up hd hy1
        refine lv_aload_n hx hb dX0_goOnByFewest_151 rfl (lv_at hl 0 rfl) ?_
        obtain ⟨L152, hq152, hd⟩ := dn_b1 hd
        have hPc : va_P D vwCl (wX0 cs a S L_23) _ := k_sub hP [0, 1, 2, 3, 4] (wcX0_X5_X0_0 cs a b S L_23 T)
        have hDc : va_D A (wX0 cs a S L_23) := hD.sub [0, 1, 2, 3, 4] (by decide) (wcX0_X5_X0_0 cs a b S L_23 T)
        have hF := k_self hDc hS hA
        refine k_run_v (va_runV (As := []) (rest := []) ⟨hx, hb, hml, hown, hts⟩ (mX0_takeNext l D cs a S L_23 L152 hq152 _) (cwV 0 hts gX0_goOnByFewest_X0_takeNext rfl rfl rfl (by decide +kernel) ⟨Nat.le_of_ble_eq_true rfl, Nat.le_of_ble_eq_true rfl⟩) ⟨k_blind, va_recv hK hP (ci := 0) (q0 := 0) rfl rfl, k_pre hPc hK hNn hDc⟩ rfl rfl hl.1 rfl (lv_room (Nat.le_of_ble_eq_true rfl)) dX0_goOnByFewest_152 ⟨Nat.le_of_ble_eq_true rfl, Nat.le_of_ble_eq_true rfl⟩) hS hF (fun H locs hP1 hk hS => ?_)
        have hP : va_P D vwCl (wX0 cs a S L152 ++ wX5 cs b T) _ := k_back hP hD [0, 1, 2, 3, 4] [5, 6, 7, 8, 9, 10, 11, 12, 13, 14, 15, 16, 17, 18, 19, 20] [16, 17, 18, 19, 20, 0, 1, 2, 3, 4, 5, 6, 7, 8, 9, 10, 11, 12, 13, 14, 15] (wcX0_X5_X0_0 cs a b S L_23 T) (by decide) hk hP1 (wbX0_X5_X0_0_L0 cs a b S L_23 T L152)
        have hD := hDA S L152 T
        have e1 := dn_s1 hd
        exact k_vret hx hb hr hQ hAe (by rw [e1]) hP hS hlocks dX0_goOnByFewest_155
      · have hd := dn_f c29 hd
        refine lv_aload_n hx hb dX0_goOnByFewest_32 rfl (lv_at hl 1 rfl) ?_
        refine lv_aload_n hx hb dX0_goOnByFewest_33 rfl (lv_at hl 1 rfl) ?_
        refine va_get (D := D) (ci := 3) (v := .ref (b 5)) (C := RX5) (T := TX5) (N := 15) hx hb hts (fun w h => List.mem_cons_of_mem _ (List.mem_append_right _ h)) hown hK hP 5 rfl rfl 4 (by decide) (hts (.fieldLink RX0 61 "LeastNeed$Valley" "thingKind" "[I") (List.mem_of_getElem? (i := 5) rfl)) (fun _ h9 => h9) rfl dX0_goOnByFewest_34 ?_
        refine lv_iload_n hx hb dX0_goOnByFewest_37 rfl (lv_at hl 2 rfl) ?_
        obtain ⟨hi38, hd⟩ := dn_i hd
        refine k_iald (D := D) (k := p2.toNatClampNeg) (by rfl) hx hb hK hP 10 1 rfl rfl hi38 dX0_goOnByFewest_38 ?_
        refine lv_aload_n hx hb dX0_goOnByFewest_39 rfl (lv_at hl 1 rfl) ?_
        refine va_get (D := D) (ci := 3) (v := .ref (b 6)) (C := RX5) (T := TX5) (N := 15) hx hb hts (fun w h => List.mem_cons_of_mem _ (List.mem_append_right _ h)) hown hK hP 5 rfl rfl 5 (by decide) (hts (.fieldLink RX0 64 "LeastNeed$Valley" "sort" "[I") (List.mem_of_getElem? (i := 6) rfl)) (fun _ h9 => h9) rfl dX0_goOnByFewest_40 ?_
        refine lv_iload_n hx hb dX0_goOnByFewest_43 rfl (lv_at hl 2 rfl) ?_
        obtain ⟨hi44, hd⟩ := dn_i hd
        refine k_iald (D := D) (k := p2.toNatClampNeg) (by rfl) hx hb hK hP 11 1 rfl rfl hi44 dX0_goOnByFewest_44 ?_
        refine lv_iload hx hb dX0_goOnByFewest_45 (lv_at hl 4 rfl) ?_
        refine lv_iload_n hx hb dX0_goOnByFewest_47 rfl (lv_at hl 3 rfl) ?_
        obtain ⟨r48, hq48, hd⟩ := dn_b1 hd
        have hPc : va_P D vwCl (wX5 cs b T) _ := k_sub hP [5, 6, 7, 8, 9, 10, 11, 12, 13, 14, 15, 16, 17, 18, 19, 20] (wcX0_X5_X5_0b cs a b S L_23 T)
        have hDc : va_D A (wX5 cs b T) := hD.sub [5, 6, 7, 8, 9, 10, 11, 12, 13, 14, 15, 16, 17, 18, 19, 20] (by decide) (wcX0_X5_X5_0b cs a b S L_23 T)
        have hF := k_self hDc hS hA
        refine k_run_i (va_runV (As := [.int (T 5 p2.toNatClampNeg), .int (T 6 p2.toNatClampNeg), .int x4_23, .int p3]) (rest := []) ⟨hx, hb, hml, hown, hts⟩ (mX5_goesTo l D cs b T (T 5 p2.toNatClampNeg) (T 6 p2.toNatClampNeg) x4_23 p3 r48 hq48 _) (cwV 4 hts gX0_goOnByFewest_X5_goesTo rfl rfl rfl (by decide +kernel) ⟨Nat.le_of_ble_eq_true rfl, Nat.le_of_ble_eq_true rfl⟩) ⟨k_blind, va_recv hK hP (ci := 3) (q0 := 5) rfl rfl, k_pre hPc hK hNn hDc⟩ rfl rfl hl.1 rfl (lv_room (Nat.le_of_ble_eq_true rfl)) dX0_goOnByFewest_48 ⟨Nat.le_of_ble_eq_true rfl, Nat.le_of_ble_eq_true rfl⟩) hS hF (fun H locs hP1 hk hS => ?_)
        have hP : va_P D vwCl (wX0 cs a S L_23 ++ wX5 cs b T) _ := k_back hP hD [5, 6, 7, 8, 9, 10, 11, 12, 13, 14, 15, 16, 17, 18, 19, 20] [0, 1, 2, 3, 4] [0, 1, 2, 3, 4, 5, 6, 7, 8, 9, 10, 11, 12, 13, 14, 15, 16, 17, 18, 19, 20] (wcX0_X5_X5_0b cs a b S L_23 T) (by decide) hk hP1 (wbX0_X5_X5_0b cs a b S L_23 T)
        have hD := hDA S L_23 T
        refine lv_istore (lv' := [(5, .int r48), (0, .ref (a 0)), (1, .ref (b 0)), (2, .int p2), (3, .int p3), (4, .int x4_23)]) hx hb dX0_goOnByFewest_51 hl (by decide) rfl (fun ls hl => ?_)
        refine lv_aload_n hx hb dX0_goOnByFewest_53 rfl (lv_at hl 1 rfl) ?_
        refine va_get (D := D) (ci := 0) (v := .ref (a 1)) (C := RX0) (T := TX0) (N := 5) hx hb hts (fun w h => List.mem_cons_of_mem _ (List.mem_append_left _ (List.mem_append_right _ h))) hown hK hP 0 rfl rfl 0 (by decide) (hts (.fieldLink RX0 9 "LeastNeed$Journey" "has" "[J") (List.mem_of_getElem? (i := 7) rfl)) (fun _ h9 => h9) rfl dX0_goOnByFewest_54 ?_
        refine lv_iload hx hb dX0_goOnByFewest_57 (lv_at hl 5 rfl) ?_
        obtain ⟨hi59, hd⟩ := dn_i hd
        refine k_lald (D := D) (k := x4_23.toNatClampNeg) (by rfl) hx hb hK hP 1 2 rfl rfl hi59 dX0_goOnByFewest_59 ?_
        refine lv_lconst (v := (1 : Int64)) hx hb dX0_goOnByFewest_60 (by decide) ?_
        refine lv_ladd hx hb dX0_goOnByFewest_61 ?_
        refine lv_aload_n hx hb dX0_goOnByFewest_62 rfl (lv_at hl 1 rfl) ?_
        refine va_get (D := D) (ci := 0) (v := .ref (a 2)) (C := RX0) (T := TX0) (N := 5) hx hb hts (fun w h => List.mem_cons_of_mem _ (List.mem_append_left _ (List.mem_append_right _ h))) hown hK hP 0 rfl rfl 1 (by decide) (hts (.fieldLink RX0 15 "LeastNeed$Journey" "lost" "[J") (List.mem_of_getElem? (i := 8) rfl)) (fun _ h9 => h9) rfl dX0_goOnByFewest_63 ?_
        refine lv_iload hx hb dX0_goOnByFewest_66 (lv_at hl 5 rfl) ?_
        obtain ⟨hi68, hd⟩ := dn_i hd
        refine k_lald (D := D) (k := x4_23.toNatClampNeg) (by rfl) hx hb hK hP 2 2 rfl rfl hi68 dX0_goOnByFewest_68 ?_
        refine va_mmin_long hx hb (hml.trans hl.1.symm) hown (hts (.methodLink RX0 71 Lib.MathLoose.min_long.x) (List.mem_of_getElem? (i := 9) rfl)) (hts (.static Lib.MathLoose.min_long.x) (List.mem_of_getElem? (i := 10) rfl)) (hts (.initialized "java/lang/Math") (List.mem_of_getElem? (i := 11) rfl)) (hts (.code Lib.MathLoose.min_long.x Lib.MathLoose.min_long.code 4 (some .long)) (List.mem_of_getElem? (i := 12) rfl)) (Nat.le_of_ble_eq_true rfl) (Nat.le_of_ble_eq_true rfl) (Nat.le_of_ble_eq_true rfl) (Nat.le_of_ble_eq_true rfl) dX0_goOnByFewest_69 ?_
        refine lv_lstore (lv' := [(6, .long (if (L_23 2 x4_23.toNatClampNeg) < ((L_23 1 x4_23.toNatClampNeg) + (1 : Int64)) then (L_23 2 x4_23.toNatClampNeg) else ((L_23 1 x4_23.toNatClampNeg) + (1 : Int64)))), (5, .int r48), (0, .ref (a 0)), (1, .ref (b 0)), (2, .int p2), (3, .int p3), (4, .int x4_23)]) hx hb dX0_goOnByFewest_72 hl (by decide) rfl (fun ls hl => ?_)
        refine lv_aload_n hx hb dX0_goOnByFewest_74 rfl (lv_at hl 2 rfl) ?_
        refine va_get (D := D) (ci := 0) (v := .ref (a 3)) (C := RX0) (T := TX0) (N := 5) hx hb hts (fun w h => List.mem_cons_of_mem _ (List.mem_append_left _ (List.mem_append_right _ h))) hown hK hP 0 rfl rfl 2 (by decide) (hts (.fieldLink RX0 18 "LeastNeed$Journey" "hasNext" "[J") (List.mem_of_getElem? (i := 1) rfl)) (fun _ h9 => h9) rfl dX0_goOnByFewest_75 ?_
        refine lv_iload hx hb dX0_goOnByFewest_78 (lv_at hl 6 rfl) ?_
        refine lv_aload_n hx hb dX0_goOnByFewest_80 rfl (lv_at hl 2 rfl) ?_
        refine va_get (D := D) (ci := 0) (v := .ref (a 3)) (C := RX0) (T := TX0) (N := 5) hx hb hts (fun w h => List.mem_cons_of_mem _ (List.mem_append_left _ (List.mem_append_right _ h))) hown hK hP 0 rfl rfl 2 (by decide) (hts (.fieldLink RX0 18 "LeastNeed$Journey" "hasNext" "[J") (List.mem_of_getElem? (i := 1) rfl)) (fun _ h9 => h9) rfl dX0_goOnByFewest_81 ?_
        refine lv_iload hx hb dX0_goOnByFewest_84 (lv_at hl 6 rfl) ?_
        obtain ⟨hi86, hd⟩ := dn_i hd
        refine k_lald (D := D) (k := x4_23.toNatClampNeg) (by rfl) hx hb hK hP 3 2 rfl rfl hi86 dX0_goOnByFewest_86 ?_
        refine lv_aload_n hx hb dX0_goOnByFewest_87 rfl (lv_at hl 2 rfl) ?_
        refine va_get (D := D) (ci := 0) (v := .ref (a 1)) (C := RX0) (T := TX0) (N := 5) hx hb hts (fun w h => List.mem_cons_of_mem _ (List.mem_append_left _ (List.mem_append_right _ h))) hown hK hP 0 rfl rfl 0 (by decide) (hts (.fieldLink RX0 9 "LeastNeed$Journey" "has" "[J") (List.mem_of_getElem? (i := 7) rfl)) (fun _ h9 => h9) rfl dX0_goOnByFewest_88 ?_
        refine lv_iload hx hb dX0_goOnByFewest_91 (lv_at hl 6 rfl) ?_
        obtain ⟨hi93, hd⟩ := dn_i hd
        refine k_lald (D := D) (k := x4_23.toNatClampNeg) (by rfl) hx hb hK hP 1 2 rfl rfl hi93 dX0_goOnByFewest_93 ?_
        refine va_mmin_long hx hb (hml.trans hl.1.symm) hown (hts (.methodLink RX0 71 Lib.MathLoose.min_long.x) (List.mem_of_getElem? (i := 9) rfl)) (hts (.static Lib.MathLoose.min_long.x) (List.mem_of_getElem? (i := 10) rfl)) (hts (.initialized "java/lang/Math") (List.mem_of_getElem? (i := 11) rfl)) (hts (.code Lib.MathLoose.min_long.x Lib.MathLoose.min_long.code 4 (some .long)) (List.mem_of_getElem? (i := 12) rfl)) (Nat.le_of_ble_eq_true rfl) (Nat.le_of_ble_eq_true rfl) (Nat.le_of_ble_eq_true rfl) (Nat.le_of_ble_eq_true rfl) dX0_goOnByFewest_94 ?_
        obtain ⟨hi97, hd⟩ := dn_i hd
        refine k_last (D := D) (k := x4_23.toNatClampNeg) (by rfl) hx hb hK hP hD hS 3 2 rfl rfl hi97 dX0_goOnByFewest_97 (fun H locs hP hD hS => ?_)
        have hP : va_P D vwCl (wX0 cs a S (k_wl L_23 3 x4_23.toNatClampNeg (if (L_23 1 x4_23.toNatClampNeg) < (L_23 3 x4_23.toNatClampNeg) then (L_23 1 x4_23.toNatClampNeg) else (L_23 3 x4_23.toNatClampNeg))) ++ wX5 cs b T) _ := k_eq hP (wsX0_X5_a3 cs a b S L_23 T x4_23.toNatClampNeg (if (L_23 1 x4_23.toNatClampNeg) < (L_23 3 x4_23.toNatClampNeg) then (L_23 1 x4_23.toNatClampNeg) else (L_23 3 x4_23.toNatClampNeg)))
        have hD := hDA S (k_wl L_23 3 x4_23.toNatClampNeg (if (L_23 1 x4_23.toNatClampNeg) < (L_23 3 x4_23.toNatClampNeg) then (L_23 1 x4_23.toNatClampNeg) else (L_23 3 x4_23.toNatClampNeg))) T
        refine lv_iload hx hb dX0_goOnByFewest_98 (lv_at hl 1 rfl) ?_
        refine lv_iconst (v := (-1 : Int32)) hx hb dX0_goOnByFewest_100 (by decide) ?_
        refine lv_icmp_ne (tgt := 126) hx hb dX0_goOnByFewest_101 (by decide) (fun c101 => ?_) (fun c101 => ?_)
        · have hd := dn_f c101 hd
          refine lv_aload_n hx hb dX0_goOnByFewest_126 rfl (lv_at hl 2 rfl) ?_
          refine va_get (D := D) (ci := 0) (v := .ref (a 3)) (C := RX0) (T := TX0) (N := 5) hx hb hts (fun w h => List.mem_cons_of_mem _ (List.mem_append_left _ (List.mem_append_right _ h))) hown hK hP 0 rfl rfl 2 (by decide) (hts (.fieldLink RX0 18 "LeastNeed$Journey" "hasNext" "[J") (List.mem_of_getElem? (i := 1) rfl)) (fun _ h9 => h9) rfl dX0_goOnByFewest_127 ?_
          refine lv_iload hx hb dX0_goOnByFewest_130 (lv_at hl 1 rfl) ?_
          refine lv_aload_n hx hb dX0_goOnByFewest_132 rfl (lv_at hl 2 rfl) ?_
          refine va_get (D := D) (ci := 0) (v := .ref (a 3)) (C := RX0) (T := TX0) (N := 5) hx hb hts (fun w h => List.mem_cons_of_mem _ (List.mem_append_left _ (List.mem_append_right _ h))) hown hK hP 0 rfl rfl 2 (by decide) (hts (.fieldLink RX0 18 "LeastNeed$Journey" "hasNext" "[J") (List.mem_of_getElem? (i := 1) rfl)) (fun _ h9 => h9) rfl dX0_goOnByFewest_133 ?_
          refine lv_iload hx hb dX0_goOnByFewest_136 (lv_at hl 1 rfl) ?_
          obtain ⟨hi138, hd⟩ := dn_i hd
          refine k_lald (D := D) (k := r48.toNatClampNeg) (by rfl) hx hb hK hP 3 2 rfl rfl hi138 dX0_goOnByFewest_138 ?_
          refine lv_lload hx hb dX0_goOnByFewest_139 (lv_at hl 0 rfl) ?_
          refine va_mmin_long hx hb (hml.trans hl.1.symm) hown (hts (.methodLink RX0 71 Lib.MathLoose.min_long.x) (List.mem_of_getElem? (i := 9) rfl)) (hts (.static Lib.MathLoose.min_long.x) (List.mem_of_getElem? (i := 10) rfl)) (hts (.initialized "java/lang/Math") (List.mem_of_getElem? (i := 11) rfl)) (hts (.code Lib.MathLoose.min_long.x Lib.MathLoose.min_long.code 4 (some .long)) (List.mem_of_getElem? (i := 12) rfl)) (Nat.le_of_ble_eq_true rfl) (Nat.le_of_ble_eq_true rfl) (Nat.le_of_ble_eq_true rfl) (Nat.le_of_ble_eq_true rfl) dX0_goOnByFewest_141 ?_
          obtain ⟨hi144, hd⟩ := dn_i hd
          refine k_last (D := D) (k := r48.toNatClampNeg) (by rfl) hx hb hK hP hD hS 3 2 rfl rfl hi144 dX0_goOnByFewest_144 (fun H locs hP hD hS => ?_)
          have hP : va_P D vwCl (wX0 cs a S (k_wl (k_wl L_23 3 x4_23.toNatClampNeg (if (L_23 1 x4_23.toNatClampNeg) < (L_23 3 x4_23.toNatClampNeg) then (L_23 1 x4_23.toNatClampNeg) else (L_23 3 x4_23.toNatClampNeg))) 3 r48.toNatClampNeg (if (if (L_23 2 x4_23.toNatClampNeg) < ((L_23 1 x4_23.toNatClampNeg) + (1 : Int64)) then (L_23 2 x4_23.toNatClampNeg) else ((L_23 1 x4_23.toNatClampNeg) + (1 : Int64))) < ((k_wl L_23 3 x4_23.toNatClampNeg (if (L_23 1 x4_23.toNatClampNeg) < (L_23 3 x4_23.toNatClampNeg) then (L_23 1 x4_23.toNatClampNeg) else (L_23 3 x4_23.toNatClampNeg))) 3 r48.toNatClampNeg) then (if (L_23 2 x4_23.toNatClampNeg) < ((L_23 1 x4_23.toNatClampNeg) + (1 : Int64)) then (L_23 2 x4_23.toNatClampNeg) else ((L_23 1 x4_23.toNatClampNeg) + (1 : Int64))) else ((k_wl L_23 3 x4_23.toNatClampNeg (if (L_23 1 x4_23.toNatClampNeg) < (L_23 3 x4_23.toNatClampNeg) then (L_23 1 x4_23.toNatClampNeg) else (L_23 3 x4_23.toNatClampNeg))) 3 r48.toNatClampNeg))) ++ wX5 cs b T) _ := k_eq hP (wsX0_X5_a3 cs a b S (k_wl L_23 3 x4_23.toNatClampNeg (if (L_23 1 x4_23.toNatClampNeg) < (L_23 3 x4_23.toNatClampNeg) then (L_23 1 x4_23.toNatClampNeg) else (L_23 3 x4_23.toNatClampNeg))) T r48.toNatClampNeg (if (if (L_23 2 x4_23.toNatClampNeg) < ((L_23 1 x4_23.toNatClampNeg) + (1 : Int64)) then (L_23 2 x4_23.toNatClampNeg) else ((L_23 1 x4_23.toNatClampNeg) + (1 : Int64))) < ((k_wl L_23 3 x4_23.toNatClampNeg (if (L_23 1 x4_23.toNatClampNeg) < (L_23 3 x4_23.toNatClampNeg) then (L_23 1 x4_23.toNatClampNeg) else (L_23 3 x4_23.toNatClampNeg))) 3 r48.toNatClampNeg) then (if (L_23 2 x4_23.toNatClampNeg) < ((L_23 1 x4_23.toNatClampNeg) + (1 : Int64)) then (L_23 2 x4_23.toNatClampNeg) else ((L_23 1 x4_23.toNatClampNeg) + (1 : Int64))) else ((k_wl L_23 3 x4_23.toNatClampNeg (if (L_23 1 x4_23.toNatClampNeg) < (L_23 3 x4_23.toNatClampNeg) then (L_23 1 x4_23.toNatClampNeg) else (L_23 3 x4_23.toNatClampNeg))) 3 r48.toNatClampNeg)))
          have hD := hDA S (k_wl (k_wl L_23 3 x4_23.toNatClampNeg (if (L_23 1 x4_23.toNatClampNeg) < (L_23 3 x4_23.toNatClampNeg) then (L_23 1 x4_23.toNatClampNeg) else (L_23 3 x4_23.toNatClampNeg))) 3 r48.toNatClampNeg (if (if (L_23 2 x4_23.toNatClampNeg) < ((L_23 1 x4_23.toNatClampNeg) + (1 : Int64)) then (L_23 2 x4_23.toNatClampNeg) else ((L_23 1 x4_23.toNatClampNeg) + (1 : Int64))) < ((k_wl L_23 3 x4_23.toNatClampNeg (if (L_23 1 x4_23.toNatClampNeg) < (L_23 3 x4_23.toNatClampNeg) then (L_23 1 x4_23.toNatClampNeg) else (L_23 3 x4_23.toNatClampNeg))) 3 r48.toNatClampNeg) then (if (L_23 2 x4_23.toNatClampNeg) < ((L_23 1 x4_23.toNatClampNeg) + (1 : Int64)) then (L_23 2 x4_23.toNatClampNeg) else ((L_23 1 x4_23.toNatClampNeg) + (1 : Int64))) else ((k_wl L_23 3 x4_23.toNatClampNeg (if (L_23 1 x4_23.toNatClampNeg) < (L_23 3 x4_23.toNatClampNeg) then (L_23 1 x4_23.toNatClampNeg) else (L_23 3 x4_23.toNatClampNeg))) 3 r48.toNatClampNeg))) T
          refine lv_iinc (v := x4_23 + (1 : Int32)) (lv' := [(4, .int (x4_23 + (1 : Int32))), (6, .long (if (L_23 2 x4_23.toNatClampNeg) < ((L_23 1 x4_23.toNatClampNeg) + (1 : Int64)) then (L_23 2 x4_23.toNatClampNeg) else ((L_23 1 x4_23.toNatClampNeg) + (1 : Int64)))), (5, .int r48), (0, .ref (a 0)), (1, .ref (b 0)), (2, .int p2), (3, .int p3)]) hx hb dX0_goOnByFewest_145 hl (k := 6) rfl rfl (by decide) rfl (fun ls hl => ?_)
          refine lv_goto (tgt := 23) hx hb dX0_goOnByFewest_148 (by decide) ?_
          exact ih1 (x4_23 + (1 : Int32)) (k_wl (k_wl L_23 3 x4_23.toNatClampNeg (if (L_23 1 x4_23.toNatClampNeg) < (L_23 3 x4_23.toNatClampNeg) then (L_23 1 x4_23.toNatClampNeg) else (L_23 3 x4_23.toNatClampNeg))) 3 r48.toNatClampNeg (if (if (L_23 2 x4_23.toNatClampNeg) < ((L_23 1 x4_23.toNatClampNeg) + (1 : Int64)) then (L_23 2 x4_23.toNatClampNeg) else ((L_23 1 x4_23.toNatClampNeg) + (1 : Int64))) < ((k_wl L_23 3 x4_23.toNatClampNeg (if (L_23 1 x4_23.toNatClampNeg) < (L_23 3 x4_23.toNatClampNeg) then (L_23 1 x4_23.toNatClampNeg) else (L_23 3 x4_23.toNatClampNeg))) 3 r48.toNatClampNeg) then (if (L_23 2 x4_23.toNatClampNeg) < ((L_23 1 x4_23.toNatClampNeg) + (1 : Int64)) then (L_23 2 x4_23.toNatClampNeg) else ((L_23 1 x4_23.toNatClampNeg) + (1 : Int64))) else ((k_wl L_23 3 x4_23.toNatClampNeg (if (L_23 1 x4_23.toNatClampNeg) < (L_23 3 x4_23.toNatClampNeg) then (L_23 1 x4_23.toNatClampNeg) else (L_23 3 x4_23.toNatClampNeg))) 3 r48.toNatClampNeg))) _ _ _ (dn_bk hd hy1) (lv_sub hl [3, 4, 5, 6, 0] rfl) hP hS
        · have hd := dn_t c101 hd
          refine lv_aload_n hx hb dX0_goOnByFewest_104 rfl (lv_at hl 2 rfl) ?_
          refine va_get (D := D) (ci := 0) (v := .ref (a 4)) (C := RX0) (T := TX0) (N := 5) hx hb hts (fun w h => List.mem_cons_of_mem _ (List.mem_append_left _ (List.mem_append_right _ h))) hown hK hP 0 rfl rfl 3 (by decide) (hts (.fieldLink RX0 21 "LeastNeed$Journey" "lostNext" "[J") (List.mem_of_getElem? (i := 3) rfl)) (fun _ h9 => h9) rfl dX0_goOnByFewest_105 ?_
          refine lv_iload hx hb dX0_goOnByFewest_108 (lv_at hl 6 rfl) ?_
          refine lv_aload_n hx hb dX0_goOnByFewest_110 rfl (lv_at hl 2 rfl) ?_
          refine va_get (D := D) (ci := 0) (v := .ref (a 4)) (C := RX0) (T := TX0) (N := 5) hx hb hts (fun w h => List.mem_cons_of_mem _ (List.mem_append_left _ (List.mem_append_right _ h))) hown hK hP 0 rfl rfl 3 (by decide) (hts (.fieldLink RX0 21 "LeastNeed$Journey" "lostNext" "[J") (List.mem_of_getElem? (i := 3) rfl)) (fun _ h9 => h9) rfl dX0_goOnByFewest_111 ?_
          refine lv_iload hx hb dX0_goOnByFewest_114 (lv_at hl 6 rfl) ?_
          obtain ⟨hi116, hd⟩ := dn_i hd
          refine k_lald (D := D) (k := x4_23.toNatClampNeg) (by rfl) hx hb hK hP 4 2 rfl rfl hi116 dX0_goOnByFewest_116 ?_
          refine lv_lload hx hb dX0_goOnByFewest_117 (lv_at hl 0 rfl) ?_
          refine va_mmin_long hx hb (hml.trans hl.1.symm) hown (hts (.methodLink RX0 71 Lib.MathLoose.min_long.x) (List.mem_of_getElem? (i := 9) rfl)) (hts (.static Lib.MathLoose.min_long.x) (List.mem_of_getElem? (i := 10) rfl)) (hts (.initialized "java/lang/Math") (List.mem_of_getElem? (i := 11) rfl)) (hts (.code Lib.MathLoose.min_long.x Lib.MathLoose.min_long.code 4 (some .long)) (List.mem_of_getElem? (i := 12) rfl)) (Nat.le_of_ble_eq_true rfl) (Nat.le_of_ble_eq_true rfl) (Nat.le_of_ble_eq_true rfl) (Nat.le_of_ble_eq_true rfl) dX0_goOnByFewest_119 ?_
          obtain ⟨hi122, hd⟩ := dn_i hd
          refine k_last (D := D) (k := x4_23.toNatClampNeg) (by rfl) hx hb hK hP hD hS 4 2 rfl rfl hi122 dX0_goOnByFewest_122 (fun H locs hP hD hS => ?_)
          have hP : va_P D vwCl (wX0 cs a S (k_wl (k_wl L_23 3 x4_23.toNatClampNeg (if (L_23 1 x4_23.toNatClampNeg) < (L_23 3 x4_23.toNatClampNeg) then (L_23 1 x4_23.toNatClampNeg) else (L_23 3 x4_23.toNatClampNeg))) 4 x4_23.toNatClampNeg (if (if (L_23 2 x4_23.toNatClampNeg) < ((L_23 1 x4_23.toNatClampNeg) + (1 : Int64)) then (L_23 2 x4_23.toNatClampNeg) else ((L_23 1 x4_23.toNatClampNeg) + (1 : Int64))) < ((k_wl L_23 3 x4_23.toNatClampNeg (if (L_23 1 x4_23.toNatClampNeg) < (L_23 3 x4_23.toNatClampNeg) then (L_23 1 x4_23.toNatClampNeg) else (L_23 3 x4_23.toNatClampNeg))) 4 x4_23.toNatClampNeg) then (if (L_23 2 x4_23.toNatClampNeg) < ((L_23 1 x4_23.toNatClampNeg) + (1 : Int64)) then (L_23 2 x4_23.toNatClampNeg) else ((L_23 1 x4_23.toNatClampNeg) + (1 : Int64))) else ((k_wl L_23 3 x4_23.toNatClampNeg (if (L_23 1 x4_23.toNatClampNeg) < (L_23 3 x4_23.toNatClampNeg) then (L_23 1 x4_23.toNatClampNeg) else (L_23 3 x4_23.toNatClampNeg))) 4 x4_23.toNatClampNeg))) ++ wX5 cs b T) _ := k_eq hP (wsX0_X5_a4 cs a b S (k_wl L_23 3 x4_23.toNatClampNeg (if (L_23 1 x4_23.toNatClampNeg) < (L_23 3 x4_23.toNatClampNeg) then (L_23 1 x4_23.toNatClampNeg) else (L_23 3 x4_23.toNatClampNeg))) T x4_23.toNatClampNeg (if (if (L_23 2 x4_23.toNatClampNeg) < ((L_23 1 x4_23.toNatClampNeg) + (1 : Int64)) then (L_23 2 x4_23.toNatClampNeg) else ((L_23 1 x4_23.toNatClampNeg) + (1 : Int64))) < ((k_wl L_23 3 x4_23.toNatClampNeg (if (L_23 1 x4_23.toNatClampNeg) < (L_23 3 x4_23.toNatClampNeg) then (L_23 1 x4_23.toNatClampNeg) else (L_23 3 x4_23.toNatClampNeg))) 4 x4_23.toNatClampNeg) then (if (L_23 2 x4_23.toNatClampNeg) < ((L_23 1 x4_23.toNatClampNeg) + (1 : Int64)) then (L_23 2 x4_23.toNatClampNeg) else ((L_23 1 x4_23.toNatClampNeg) + (1 : Int64))) else ((k_wl L_23 3 x4_23.toNatClampNeg (if (L_23 1 x4_23.toNatClampNeg) < (L_23 3 x4_23.toNatClampNeg) then (L_23 1 x4_23.toNatClampNeg) else (L_23 3 x4_23.toNatClampNeg))) 4 x4_23.toNatClampNeg)))
          have hD := hDA S (k_wl (k_wl L_23 3 x4_23.toNatClampNeg (if (L_23 1 x4_23.toNatClampNeg) < (L_23 3 x4_23.toNatClampNeg) then (L_23 1 x4_23.toNatClampNeg) else (L_23 3 x4_23.toNatClampNeg))) 4 x4_23.toNatClampNeg (if (if (L_23 2 x4_23.toNatClampNeg) < ((L_23 1 x4_23.toNatClampNeg) + (1 : Int64)) then (L_23 2 x4_23.toNatClampNeg) else ((L_23 1 x4_23.toNatClampNeg) + (1 : Int64))) < ((k_wl L_23 3 x4_23.toNatClampNeg (if (L_23 1 x4_23.toNatClampNeg) < (L_23 3 x4_23.toNatClampNeg) then (L_23 1 x4_23.toNatClampNeg) else (L_23 3 x4_23.toNatClampNeg))) 4 x4_23.toNatClampNeg) then (if (L_23 2 x4_23.toNatClampNeg) < ((L_23 1 x4_23.toNatClampNeg) + (1 : Int64)) then (L_23 2 x4_23.toNatClampNeg) else ((L_23 1 x4_23.toNatClampNeg) + (1 : Int64))) else ((k_wl L_23 3 x4_23.toNatClampNeg (if (L_23 1 x4_23.toNatClampNeg) < (L_23 3 x4_23.toNatClampNeg) then (L_23 1 x4_23.toNatClampNeg) else (L_23 3 x4_23.toNatClampNeg))) 4 x4_23.toNatClampNeg))) T
          refine lv_goto (tgt := 145) hx hb dX0_goOnByFewest_123 (by decide) ?_
          refine lv_iinc (v := x4_23 + (1 : Int32)) (lv' := [(4, .int (x4_23 + (1 : Int32))), (6, .long (if (L_23 2 x4_23.toNatClampNeg) < ((L_23 1 x4_23.toNatClampNeg) + (1 : Int64)) then (L_23 2 x4_23.toNatClampNeg) else ((L_23 1 x4_23.toNatClampNeg) + (1 : Int64)))), (5, .int r48), (0, .ref (a 0)), (1, .ref (b 0)), (2, .int p2), (3, .int p3)]) hx hb dX0_goOnByFewest_145 hl (k := 6) rfl rfl (by decide) rfl (fun ls hl => ?_)
          refine lv_goto (tgt := 23) hx hb dX0_goOnByFewest_148 (by decide) ?_
          exact ih1 (x4_23 + (1 : Int32)) (k_wl (k_wl L_23 3 x4_23.toNatClampNeg (if (L_23 1 x4_23.toNatClampNeg) < (L_23 3 x4_23.toNatClampNeg) then (L_23 1 x4_23.toNatClampNeg) else (L_23 3 x4_23.toNatClampNeg))) 4 x4_23.toNatClampNeg (if (if (L_23 2 x4_23.toNatClampNeg) < ((L_23 1 x4_23.toNatClampNeg) + (1 : Int64)) then (L_23 2 x4_23.toNatClampNeg) else ((L_23 1 x4_23.toNatClampNeg) + (1 : Int64))) < ((k_wl L_23 3 x4_23.toNatClampNeg (if (L_23 1 x4_23.toNatClampNeg) < (L_23 3 x4_23.toNatClampNeg) then (L_23 1 x4_23.toNatClampNeg) else (L_23 3 x4_23.toNatClampNeg))) 4 x4_23.toNatClampNeg) then (if (L_23 2 x4_23.toNatClampNeg) < ((L_23 1 x4_23.toNatClampNeg) + (1 : Int64)) then (L_23 2 x4_23.toNatClampNeg) else ((L_23 1 x4_23.toNatClampNeg) + (1 : Int64))) else ((k_wl L_23 3 x4_23.toNatClampNeg (if (L_23 1 x4_23.toNatClampNeg) < (L_23 3 x4_23.toNatClampNeg) then (L_23 1 x4_23.toNatClampNeg) else (L_23 3 x4_23.toNatClampNeg))) 4 x4_23.toNatClampNeg))) _ _ _ (dn_bk hd hy1) (lv_sub hl [3, 4, 5, 6, 0] rfl) hP hS
  unfold nX0_goOnByFewest at hd
  refine lv_aload_n hx hb dX0_goOnByFewest_0 rfl (lv_at hl 0 rfl) ?_
  refine va_get (D := D) (ci := 0) (v := .ref (a 3)) (C := RX0) (T := TX0) (N := 5) hx hb hts (fun w h => List.mem_cons_of_mem _ (List.mem_append_left _ (List.mem_append_right _ h))) hown hK hP 0 rfl rfl 2 (by decide) (hts (.fieldLink RX0 18 "LeastNeed$Journey" "hasNext" "[J") (List.mem_of_getElem? (i := 1) rfl)) (fun _ h9 => h9) rfl dX0_goOnByFewest_1 ?_
  refine lv_ldc2 (v := (1000 : Int64)) hx hb hown (hts (.constantLong RX0 24 (1000)) (List.mem_of_getElem? (i := 2) rfl)) dX0_goOnByFewest_4 ?_
  obtain ⟨L7, hq7, hd⟩ := dn_b1 hd
  have hPc : va_P D vwCl (wAJ cs 7 (k_wi a 3) (k_wi L 3)) _ := k_sub hP [3] (wcX0_X5_aJ_3 cs a b S L T)
  have hDc : va_D A (wAJ cs 7 (k_wi a 3) (k_wi L 3)) := hD.sub [3] (by decide) (wcX0_X5_aJ_3 cs a b S L T)
  have hF := k_self hDc hS hA
  refine k_run_v (va_runS (As := [.ref (a 3), .long (1000 : Int64)]) (rest := []) ⟨hx, hb, hml, hown, hts⟩ (mX0_fill l D cs (k_wi a 3) 7 (k_wi L 3) (1000 : Int64) L7 hq7 _) (va_cwS 2 hts gX0_goOnByFewest_X0_fill rfl rfl rfl (by decide +kernel) ⟨Nat.le_of_ble_eq_true rfl, Nat.le_of_ble_eq_true rfl⟩) ⟨k_blind, k_pre hPc hK hNn hDc⟩ rfl rfl hl.1 rfl (lv_room (Nat.le_of_ble_eq_true rfl)) dX0_goOnByFewest_7 ⟨Nat.le_of_ble_eq_true rfl, Nat.le_of_ble_eq_true rfl⟩) hS hF (fun H locs hP1 hk hS => ?_)
  have hP : va_P D vwCl (wX0 cs a S (k_sp L 3 1 L7) ++ wX5 cs b T) _ := k_back hP hD [3] [0, 1, 2, 4, 5, 6, 7, 8, 9, 10, 11, 12, 13, 14, 15, 16, 17, 18, 19, 20] [0, 1, 2, 20, 3, 4, 5, 6, 7, 8, 9, 10, 11, 12, 13, 14, 15, 16, 17, 18, 19] (wcX0_X5_aJ_3 cs a b S L T) (by decide) hk hP1 (wbX0_X5_aJ_3_L0 cs a b S L T L7)
  have hD := hDA S (k_sp L 3 1 L7) T
  refine lv_aload_n hx hb dX0_goOnByFewest_10 rfl (lv_at hl 0 rfl) ?_
  refine va_get (D := D) (ci := 0) (v := .ref (a 4)) (C := RX0) (T := TX0) (N := 5) hx hb hts (fun w h => List.mem_cons_of_mem _ (List.mem_append_left _ (List.mem_append_right _ h))) hown hK hP 0 rfl rfl 3 (by decide) (hts (.fieldLink RX0 21 "LeastNeed$Journey" "lostNext" "[J") (List.mem_of_getElem? (i := 3) rfl)) (fun _ h9 => h9) rfl dX0_goOnByFewest_11 ?_
  refine lv_ldc2 (v := (1000 : Int64)) hx hb hown (hts (.constantLong RX0 24 (1000)) (List.mem_of_getElem? (i := 2) rfl)) dX0_goOnByFewest_14 ?_
  obtain ⟨L17, hq17, hd⟩ := dn_b1 hd
  have hPc : va_P D vwCl (wAJ cs 7 (k_wi a 4) (k_wi (k_sp L 3 1 L7) 4)) _ := k_sub hP [4] (wcX0_X5_aJ_4 cs a b S (k_sp L 3 1 L7) T)
  have hDc : va_D A (wAJ cs 7 (k_wi a 4) (k_wi (k_sp L 3 1 L7) 4)) := hD.sub [4] (by decide) (wcX0_X5_aJ_4 cs a b S (k_sp L 3 1 L7) T)
  have hF := k_self hDc hS hA
  refine k_run_v (va_runS (As := [.ref (a 4), .long (1000 : Int64)]) (rest := []) ⟨hx, hb, hml, hown, hts⟩ (mX0_fill l D cs (k_wi a 4) 7 (k_wi (k_sp L 3 1 L7) 4) (1000 : Int64) L17 hq17 _) (va_cwS 2 hts gX0_goOnByFewest_X0_fill rfl rfl rfl (by decide +kernel) ⟨Nat.le_of_ble_eq_true rfl, Nat.le_of_ble_eq_true rfl⟩) ⟨k_blind, k_pre hPc hK hNn hDc⟩ rfl rfl hl.1 rfl (lv_room (Nat.le_of_ble_eq_true rfl)) dX0_goOnByFewest_17 ⟨Nat.le_of_ble_eq_true rfl, Nat.le_of_ble_eq_true rfl⟩) hS hF (fun H locs hP1 hk hS => ?_)
  have hP : va_P D vwCl (wX0 cs a S (k_sp (k_sp L 3 1 L7) 4 1 L17) ++ wX5 cs b T) _ := k_back hP hD [4] [0, 1, 2, 3, 5, 6, 7, 8, 9, 10, 11, 12, 13, 14, 15, 16, 17, 18, 19, 20] [0, 1, 2, 3, 20, 4, 5, 6, 7, 8, 9, 10, 11, 12, 13, 14, 15, 16, 17, 18, 19] (wcX0_X5_aJ_4 cs a b S (k_sp L 3 1 L7) T) (by decide) hk hP1 (wbX0_X5_aJ_4_L0 cs a b S (k_sp L 3 1 L7) T L17)
  have hD := hDA S (k_sp (k_sp L 3 1 L7) 4 1 L17) T
  refine lv_iconst (v := (0 : Int32)) hx hb dX0_goOnByFewest_20 (by decide) ?_
  refine lv_istore (lv' := [(4, .int (0 : Int32)), (0, .ref (a 0)), (1, .ref (b 0)), (2, .int p2), (3, .int p3)]) hx hb dX0_goOnByFewest_21 hl (by decide) rfl (fun ls hl => ?_)
  exact Lo23 1000 (0 : Int32) (k_sp (k_sp L 3 1 L7) 4 1 L17) _ _ _ hd (lv_sub hl [1, 2, 3, 4, 0] rfl) hP hS
-- LeastNeed$Journey.fewestDays(LLeastNeed$Valley;II)I
set_option maxRecDepth 20000 in
def nX0_fewestDays_l13 (p2 : Int32) (p3 : Int32) (x4_13 : Int32) (S_13 : Nat → Nat → Int32) (L_13 : Nat → Nat → Int64) (T : Nat → Nat → Int32) : Option ((Int32 × (Nat → Nat → Int64)) ⊕ (Int32 × (Nat → Nat → Int32) × (Nat → Nat → Int64))) := if (30 : Int32) < x4_13 then k_up (some ((-1 : Int32), S_13, L_13)) else if p3 < 0 ∨ 7 ≤ p3.toNatClampNeg then none else if 0 ≤ (lg_cmp (L_13 1 p3.toNatClampNeg) (1000 : Int64)) then k_b1 (nX0_goOnByFewest S_13 L_13 T p2 ((T 0 14) + x4_13)) (fun L57 => some (.inl ((x4_13 + (1 : Int32)), L57))) else k_up (if p3 < 0 ∨ 7 ≤ p3.toNatClampNeg then none else some (x4_13, (k_w S_13 0 4 ((L_13 1 p3.toNatClampNeg).toInt32)), L_13))
set_option maxRecDepth 20000 in
def nX0_fewestDays (S : Nat → Nat → Int32) (L : Nat → Nat → Int64) (T : Nat → Nat → Int32) (p2 : Int32) (p3 : Int32) : Option (Int32 × (Nat → Nat → Int32) × (Nat → Nat → Int64)) := k_b1 (nX0_setOut S L T p2 (1000 : Int64) (0 : Int64)) (fun L7 => k_it (fun st => nX0_fewestDays_l13 p2 p3 st.1 S st.2 T) 1000 ((0 : Int32), L7))
set_option maxHeartbeats 4000000 in
set_option maxRecDepth 100000 in
theorem mX0_fewestDays (l : Launch) (D : va_G) (cs : Nat → ClassId) (a : Nat → Nat) (b : Nat → Nat) (S : Nat → Nat → Int32) (L : Nat → Nat → Int64) (T : Nat → Nat → Int32) (p2 : Int32) (p3 : Int32) (r9 : Int32) (S9 : (Nat → Nat → Int32)) (L9 : (Nat → Nat → Int64)) (hd : nX0_fewestDays S L T p2 p3 = some (r9, S9, L9)) : ∀ sz : Nat, Met l yX0_fewestDays wsX0_fewestDays ({ frames := 4, cells := 0, slots := 0, locals := 111 }) (k_Pc D cs [.ref (a 0), .ref (b 0), .int p2, .int p3] (wX0 cs a S L ++ wX5 cs b T) sz) (k_Qi D r9 (wX0 cs a S L ++ wX5 cs b T) (wX0 cs a S9 L9 ++ wX5 cs b T) sz) 0 0 (va_A (wX0 cs a S L ++ wX5 cs b T) sz) := by
  intro sz
  refine Met.ofW (cc := cX0_fewestDays) (maxL := 5) (ret := (some .int)) (by decide) rfl ?_
  intro p e s m args below meth c s₁ B hml hv
  obtain ⟨rfl, hsz, hP, hK, hD0, hNn⟩ := hv
  have hx := B.exec
  have hb := B.bytes
  have hr := B.returns
  have hts := atoms_spec (ws := wsX0_fewestDays) B.pre
  have hown : s.vm.findClass RX0 = some m.cls := findClass_of_methodNamed B.named
  have hlocks := B.notSynchronized
  subst hsz
  obtain ⟨A, hAe⟩ : ∃ A : Nat → Prop, A = va_A (wX0 cs a S L ++ wX5 cs b T) s.heap.size := ⟨_, rfl⟩
  have hD : va_D A (wX0 cs a S L ++ wX5 cs b T) := by rw [hAe]; exact hD0.self
  have hA : ∀ q : Nat, s.heap.size ≤ q → A q := fun q h => by rw [hAe]; exact Or.inr h
  have hS : va_S A s.heap s.heap [] := va_S.rf
  have hDA : ∀ (S : Nat → Nat → Int32) (L : Nat → Nat → Int64) (T : Nat → Nat → Int32), va_D A (wX0 cs a S L ++ wX5 cs b T) := fun S L T => k_DA hD rfl
  have hl := lv_entry ([.ref (a 0), .ref (b 0), .int p2, .int p3]) (n := 5) (Nat.le_of_ble_eq_true rfl)
  rw [lg_entry_eq]
  generalize (lg_sl ([.ref (a 0), .ref (b 0), .int p2, .int p3]) ++ List.replicate (5 - (lg_sl ([.ref (a 0), .ref (b 0), .int p2, .int p3])).length) Slot.unset).toArray = ls at hl ⊢
  have hl : lv_has ls 5 [(0, .ref (a 0)), (1, .ref (b 0)), (2, .int p2), (3, .int p3)] := hl
  obtain ⟨Q, hQ⟩ : ∃ Q, Q = MQ below (k_Qi D r9 (wX0 cs a S L ++ wX5 cs b T) (wX0 cs a S9 L9 ++ wX5 cs b T) s.heap.size) ([.ref (a 0), .ref (b 0), .int p2, .int p3] : List Value).toArray s 0 0 (va_A (wX0 cs a S L ++ wX5 cs b T) s.heap.size) := ⟨_, rfl⟩
  rw [← hQ]
  have Lo13 : ∀ (n1 : Nat) (x4_13 : Int32) (S_13 : Nat → Nat → Int32) (L_13 : Nat → Nat → Int64) (H : Heap) (locs : List Loc) (ls : Array Slot), k_it (fun st => nX0_fewestDays_l13 p2 p3 st.1 S_13 st.2 T) n1 (x4_13, L_13) = some (r9, S9, L9) → lv_has ls 5 [(0, .ref (a 0)), (1, .ref (b 0)), (2, .int p2), (3, .int p3), (4, .int x4_13)] → va_P D vwCl (wX0 cs a S_13 L_13 ++ wX5 cs b T) H → va_S A s.heap H locs → W p l e (headSpec wsX0_fewestDays ({ frames := 4, cells := 0, slots := 0, locals := 111 })).room s m ([.ref (a 0), .ref (b 0), .int p2, .int p3] : List Value).toArray below meth c H locs 0 0 Q (F0 m 13 ls []) := by
    intro n1
    induction n1 with
    | zero => intro x4_13 S_13 L_13 H locs ls hd; exact dn_it0 hd
    | succ n1 ih1 =>
      intro x4_13 S_13 L_13 H locs ls hd hl hP hS
      have hD := hDA S_13 L_13 T
      obtain ⟨y1, hd, hy1⟩ := dn_it hd
      have hd : nX0_fewestDays_l13 p2 p3 x4_13 S_13 L_13 T = some y1 := hd
      unfold nX0_fewestDays_l13 at hd
      refine lv_iload hx hb dX0_fewestDays_13 (lv_at hl 4 rfl) ?_
      refine lv_bipush (v := (30 : Int32)) hx hb dX0_fewestDays_15 (by decide) ?_
      refine lv_icmp_gt (tgt := 66) hx hb dX0_fewestDays_17 (by decide) (fun c17 => ?_) (fun c17 => ?_)
      · have hd := dn_t c17 hd
        have hd := dn_up hd hy1
        refine lv_iconst (v := (-1 : Int32)) hx hb dX0_fewestDays_66 (by decide) ?_
        obtain ⟨e1, e2, e3⟩ := dn_s3 hd
        exact k_iret hx hb hr hQ hAe e1 (by rw [← e2, ← e3]) hP hS hlocks dX0_fewestDays_67
      · have hd := dn_f c17 hd
        refine lv_aload_n hx hb dX0_fewestDays_20 rfl (lv_at hl 0 rfl) ?_
        refine va_get (D := D) (ci := 0) (v := .ref (a 1)) (C := RX0) (T := TX0) (N := 5) hx hb hts (fun w h => List.mem_cons_of_mem _ (List.mem_append_left _ (List.mem_append_right _ h))) hown hK hP 0 rfl rfl 0 (by decide) (hts (.fieldLink RX0 9 "LeastNeed$Journey" "has" "[J") (List.mem_of_getElem? (i := 2) rfl)) (fun _ h9 => h9) rfl dX0_fewestDays_21 ?_
        refine lv_iload_n hx hb dX0_fewestDays_24 rfl (lv_at hl 3 rfl) ?_
        obtain ⟨hi25, hd⟩ := dn_i hd
        refine k_lald (D := D) (k := p3.toNatClampNeg) (by rfl) hx hb hK hP 1 2 rfl rfl hi25 dX0_fewestDays_25 ?_
        refine lv_ldc2 (v := (1000 : Int64)) hx hb hown (hts (.constantLong RX0 24 (1000)) (List.mem_of_getElem? (i := 1) rfl)) dX0_fewestDays_26 ?_
        refine W.lcmp hx hb dX0_fewestDays_29 ?_
        refine lv_if_ge (tgt := 47) hx hb dX0_fewestDays_30 (by decide) (fun c30 => ?_) (fun c30 => ?_)
        · have hd := dn_t c30 hd
          refine lv_aload_n hx hb dX0_fewestDays_47 rfl (lv_at hl 0 rfl) ?_
          refine lv_aload_n hx hb dX0_fewestDays_48 rfl (lv_at hl 1 rfl) ?_
          refine lv_iload_n hx hb dX0_fewestDays_49 rfl (lv_at hl 2 rfl) ?_
          refine lv_aload_n hx hb dX0_fewestDays_50 rfl (lv_at hl 1 rfl) ?_
          refine va_get (D := D) (ci := 3) (v := .int (T 0 14)) (C := RX5) (T := TX5) (N := 15) hx hb hts (fun w h => List.mem_cons_of_mem _ (List.mem_append_right _ h)) hown hK hP 5 rfl rfl 14 (by decide) (hts (.fieldLink RX0 34 "LeastNeed$Valley" "today" "I") (List.mem_of_getElem? (i := 4) rfl)) (fun _ h9 => h9) rfl dX0_fewestDays_51 ?_
          refine lv_iload hx hb dX0_fewestDays_54 (lv_at hl 4 rfl) ?_
          refine lv_iadd hx hb dX0_fewestDays_56 ?_
          obtain ⟨L57, hq57, hd⟩ := dn_b1 hd
          have hF := k_self hD hS hA
          refine k_run_v (va_runV (As := [.ref (b 0), .int p2, .int ((T 0 14) + x4_13)]) (rest := []) ⟨hx, hb, hml, hown, hts⟩ (mX0_goOnByFewest l D cs a b S_13 L_13 T p2 ((T 0 14) + x4_13) L57 hq57 _) (cwV 3 hts gX0_fewestDays_X0_goOnByFewest rfl rfl rfl (by decide +kernel) ⟨Nat.le_of_ble_eq_true rfl, Nat.le_of_ble_eq_true rfl⟩) ⟨k_blind, va_recv hK hP (ci := 0) (q0 := 0) rfl rfl, k_pre hP hK hNn hD⟩ rfl rfl hl.1 rfl (lv_room (Nat.le_of_ble_eq_true rfl)) dX0_fewestDays_57 ⟨Nat.le_of_ble_eq_true rfl, Nat.le_of_ble_eq_true rfl⟩) hS hF (fun H locs hP1 hk hS => ?_)
          have hP : va_P D vwCl (wX0 cs a S_13 L57 ++ wX5 cs b T) _ := hP1
          have hD := hDA S_13 L57 T
          refine lv_iinc (v := x4_13 + (1 : Int32)) (lv' := [(4, .int (x4_13 + (1 : Int32))), (0, .ref (a 0)), (1, .ref (b 0)), (2, .int p2), (3, .int p3)]) hx hb dX0_fewestDays_60 hl (k := 4) rfl rfl (by decide) rfl (fun ls hl => ?_)
          refine lv_goto (tgt := 13) hx hb dX0_fewestDays_63 (by decide) ?_
          exact ih1 (x4_13 + (1 : Int32)) S_13 L57 _ _ _ (dn_bk hd hy1) (lv_sub hl [1, 2, 3, 4, 0] rfl) hP hS
        · have hd := dn_f c30 hd
          have hd := dn_up hd hy1
          refine lv_aload_n hx hb dX0_fewestDays_33 rfl (lv_at hl 0 rfl) ?_
          refine lv_aload_n hx hb dX0_fewestDays_34 rfl (lv_at hl 0 rfl) ?_
          refine va_get (D := D) (ci := 0) (v := .ref (a 1)) (C := RX0) (T := TX0) (N := 5) hx hb hts (fun w h => List.mem_cons_of_mem _ (List.mem_append_left _ (List.mem_append_right _ h))) hown hK hP 0 rfl rfl 0 (by decide) (hts (.fieldLink RX0 9 "LeastNeed$Journey" "has" "[J") (List.mem_of_getElem? (i := 2) rfl)) (fun _ h9 => h9) rfl dX0_fewestDays_35 ?_
          refine lv_iload_n hx hb dX0_fewestDays_38 rfl (lv_at hl 3 rfl) ?_
          obtain ⟨hi39, hd⟩ := dn_i hd
          refine k_lald (D := D) (k := p3.toNatClampNeg) (by rfl) hx hb hK hP 1 2 rfl rfl hi39 dX0_fewestDays_39 ?_
          refine lv_l2i hx hb dX0_fewestDays_40 rfl ?_
          refine va_put (D := D) (ci := 0) (v := .int ((L_13 1 p3.toNatClampNeg).toInt32)) (ty := .int) (C := RX0) (T := TX0) (N := 5) hx hb hts (fun w h => List.mem_cons_of_mem _ (List.mem_append_left _ (List.mem_append_right _ h))) tyX0 tyX0_ok nmX0 hown hK hP hD hS 0 rfl rfl 4 (by decide) (hts (.fieldLink RX0 30 "LeastNeed$Journey" "losses" "I") (List.mem_of_getElem? (i := 3) rfl)) (fun _ h9 => h9) rfl (by decide +kernel) rfl rfl (Nat.le_of_ble_eq_true rfl) dX0_fewestDays_41 (fun H locs hP hD hS => ?_)
          have hP : va_P D vwCl (wX0 cs a (k_w S_13 0 4 ((L_13 1 p3.toNatClampNeg).toInt32)) L_13 ++ wX5 cs b T) _ := k_eq hP (wsX0_X5_f0_4 cs a b S_13 L_13 T ((L_13 1 p3.toNatClampNeg).toInt32))
          have hD := hDA (k_w S_13 0 4 ((L_13 1 p3.toNatClampNeg).toInt32)) L_13 T
          refine lv_iload hx hb dX0_fewestDays_44 (lv_at hl 4 rfl) ?_
          obtain ⟨e1, e2, e3⟩ := dn_s3 hd
          exact k_iret hx hb hr hQ hAe e1 (by rw [← e2, ← e3]) hP hS hlocks dX0_fewestDays_46
  unfold nX0_fewestDays at hd
  refine lv_aload_n hx hb dX0_fewestDays_0 rfl (lv_at hl 0 rfl) ?_
  refine lv_aload_n hx hb dX0_fewestDays_1 rfl (lv_at hl 1 rfl) ?_
  refine lv_iload_n hx hb dX0_fewestDays_2 rfl (lv_at hl 2 rfl) ?_
  refine lv_ldc2 (v := (1000 : Int64)) hx hb hown (hts (.constantLong RX0 24 (1000)) (List.mem_of_getElem? (i := 1) rfl)) dX0_fewestDays_3 ?_
  refine lv_lconst (v := (0 : Int64)) hx hb dX0_fewestDays_6 (by decide) ?_
  obtain ⟨L7, hq7, hd⟩ := dn_b1 hd
  have hF := k_self hD hS hA
  refine k_run_v (va_runV (As := [.ref (b 0), .int p2, .long (1000 : Int64), .long (0 : Int64)]) (rest := []) ⟨hx, hb, hml, hown, hts⟩ (mX0_setOut l D cs a b S L T p2 (1000 : Int64) (0 : Int64) L7 hq7 _) (cwV 4 hts gX0_fewestDays_X0_setOut rfl rfl rfl (by decide +kernel) ⟨Nat.le_of_ble_eq_true rfl, Nat.le_of_ble_eq_true rfl⟩) ⟨k_blind, va_recv hK hP (ci := 0) (q0 := 0) rfl rfl, k_pre hP hK hNn hD⟩ rfl rfl hl.1 rfl (lv_room (Nat.le_of_ble_eq_true rfl)) dX0_fewestDays_7 ⟨Nat.le_of_ble_eq_true rfl, Nat.le_of_ble_eq_true rfl⟩) hS hF (fun H locs hP1 hk hS => ?_)
  have hP : va_P D vwCl (wX0 cs a S L7 ++ wX5 cs b T) _ := hP1
  have hD := hDA S L7 T
  refine lv_iconst (v := (0 : Int32)) hx hb dX0_fewestDays_10 (by decide) ?_
  refine lv_istore (lv' := [(4, .int (0 : Int32)), (0, .ref (a 0)), (1, .ref (b 0)), (2, .int p2), (3, .int p3)]) hx hb dX0_fewestDays_11 hl (by decide) rfl (fun ls hl => ?_)
  exact Lo13 1000 (0 : Int32) S L7 _ _ _ hd (lv_sub hl [1, 2, 3, 4, 0] rfl) hP hS
-- LeastNeed$Journey.goOnByChance(LLeastNeed$Valley;III)V
set_option maxRecDepth 20000 in
def nX0_goOnByChance_l19 (p2 : Int32) (p3 : Int32) (p4 : Int32) (x5_19 : Int32) (S : Nat → Nat → Int32) (L_19 : Nat → Nat → Int64) (T : Nat → Nat → Int32) : Option ((Int32 × (Nat → Nat → Int64)) ⊕ ((Nat → Nat → Int64))) := if (T 0 12) ≤ x5_19 then k_up (k_b1 (nX0_takeNext S L_19) (fun L138 => some L138)) else if p2 < 0 ∨ 5 ≤ p2.toNatClampNeg then none else if p2 < 0 ∨ 5 ≤ p2.toNatClampNeg then none else k_b1 (nX5_goesTo T (T 5 p2.toNatClampNeg) (T 6 p2.toNatClampNeg) x5_19 p3) (fun r44 => if x5_19 < 0 ∨ 7 ≤ x5_19.toNatClampNeg then none else if x5_19 < 0 ∨ 7 ≤ x5_19.toNatClampNeg then none else if x5_19 < 0 ∨ 7 ≤ x5_19.toNatClampNeg then none else if x5_19 < 0 ∨ 7 ≤ x5_19.toNatClampNeg then none else if x5_19 < 0 ∨ 7 ≤ x5_19.toNatClampNeg then none else if r44 = (-1 : Int32) then if x5_19 < 0 ∨ 7 ≤ x5_19.toNatClampNeg then none else if x5_19 < 0 ∨ 7 ≤ x5_19.toNatClampNeg then none else some (.inl ((x5_19 + (1 : Int32)), (k_wl (k_wl L_19 3 x5_19.toNatClampNeg ((L_19 3 x5_19.toNatClampNeg) + ((L_19 1 x5_19.toNatClampNeg) * (((10 : Int32) - p4).toInt64)))) 4 x5_19.toNatClampNeg (((k_wl L_19 3 x5_19.toNatClampNeg ((L_19 3 x5_19.toNatClampNeg) + ((L_19 1 x5_19.toNatClampNeg) * (((10 : Int32) - p4).toInt64)))) 4 x5_19.toNatClampNeg) + (((L_19 1 x5_19.toNatClampNeg) * p4.toInt64) + ((L_19 2 x5_19.toNatClampNeg) * (10 : Int64))))))) else if r44 < 0 ∨ 7 ≤ r44.toNatClampNeg then none else if r44 < 0 ∨ 7 ≤ r44.toNatClampNeg then none else some (.inl ((x5_19 + (1 : Int32)), (k_wl (k_wl L_19 3 x5_19.toNatClampNeg ((L_19 3 x5_19.toNatClampNeg) + ((L_19 1 x5_19.toNatClampNeg) * (((10 : Int32) - p4).toInt64)))) 3 r44.toNatClampNeg (((k_wl L_19 3 x5_19.toNatClampNeg ((L_19 3 x5_19.toNatClampNeg) + ((L_19 1 x5_19.toNatClampNeg) * (((10 : Int32) - p4).toInt64)))) 3 r44.toNatClampNeg) + (((L_19 1 x5_19.toNatClampNeg) * p4.toInt64) + ((L_19 2 x5_19.toNatClampNeg) * (10 : Int64))))))))
set_option maxRecDepth 20000 in
def nX0_goOnByChance (S : Nat → Nat → Int32) (L : Nat → Nat → Int64) (T : Nat → Nat → Int32) (p2 : Int32) (p3 : Int32) (p4 : Int32) : Option ((Nat → Nat → Int64)) := k_b1 (nX0_fill 7 (k_wi L 3) (0 : Int64)) (fun L5 => k_b1 (nX0_fill 7 (k_wi (k_sp L 3 1 L5) 4) (0 : Int64)) (fun L13 => k_it (fun st => nX0_goOnByChance_l19 p2 p3 p4 st.1 S st.2 T) 1000 ((0 : Int32), (k_sp (k_sp L 3 1 L5) 4 1 L13))))
set_option maxHeartbeats 4000000 in
set_option maxRecDepth 100000 in
theorem mX0_goOnByChance (l : Launch) (D : va_G) (cs : Nat → ClassId) (a : Nat → Nat) (b : Nat → Nat) (S : Nat → Nat → Int32) (L : Nat → Nat → Int64) (T : Nat → Nat → Int32) (p2 : Int32) (p3 : Int32) (p4 : Int32) (L9 : (Nat → Nat → Int64)) (hd : nX0_goOnByChance S L T p2 p3 p4 = some L9) : ∀ sz : Nat, Met l yX0_goOnByChance wsX0_goOnByChance ({ frames := 3, cells := 0, slots := 0, locals := 84 }) (k_Pc D cs [.ref (a 0), .ref (b 0), .int p2, .int p3, .int p4] (wX0 cs a S L ++ wX5 cs b T) sz) (k_Qv D (wX0 cs a S L ++ wX5 cs b T) (wX0 cs a S L9 ++ wX5 cs b T) sz) 0 0 (va_A (wX0 cs a S L ++ wX5 cs b T) sz) := by
  intro sz
  refine Met.ofW (cc := cX0_goOnByChance) (maxL := 9) (ret := none) (by decide) rfl ?_
  intro p e s m args below meth c s₁ B hml hv
  obtain ⟨rfl, hsz, hP, hK, hD0, hNn⟩ := hv
  have hx := B.exec
  have hb := B.bytes
  have hr := B.returns
  have hts := atoms_spec (ws := wsX0_goOnByChance) B.pre
  have hown : s.vm.findClass RX0 = some m.cls := findClass_of_methodNamed B.named
  have hlocks := B.notSynchronized
  subst hsz
  obtain ⟨A, hAe⟩ : ∃ A : Nat → Prop, A = va_A (wX0 cs a S L ++ wX5 cs b T) s.heap.size := ⟨_, rfl⟩
  have hD : va_D A (wX0 cs a S L ++ wX5 cs b T) := by rw [hAe]; exact hD0.self
  have hA : ∀ q : Nat, s.heap.size ≤ q → A q := fun q h => by rw [hAe]; exact Or.inr h
  have hS : va_S A s.heap s.heap [] := va_S.rf
  have hDA : ∀ (S : Nat → Nat → Int32) (L : Nat → Nat → Int64) (T : Nat → Nat → Int32), va_D A (wX0 cs a S L ++ wX5 cs b T) := fun S L T => k_DA hD rfl
  have hl := lv_entry ([.ref (a 0), .ref (b 0), .int p2, .int p3, .int p4]) (n := 9) (Nat.le_of_ble_eq_true rfl)
  rw [lg_entry_eq]
  generalize (lg_sl ([.ref (a 0), .ref (b 0), .int p2, .int p3, .int p4]) ++ List.replicate (9 - (lg_sl ([.ref (a 0), .ref (b 0), .int p2, .int p3, .int p4])).length) Slot.unset).toArray = ls at hl ⊢
  have hl : lv_has ls 9 [(0, .ref (a 0)), (1, .ref (b 0)), (2, .int p2), (3, .int p3), (4, .int p4)] := hl
  obtain ⟨Q, hQ⟩ : ∃ Q, Q = MQ below (k_Qv D (wX0 cs a S L ++ wX5 cs b T) (wX0 cs a S L9 ++ wX5 cs b T) s.heap.size) ([.ref (a 0), .ref (b 0), .int p2, .int p3, .int p4] : List Value).toArray s 0 0 (va_A (wX0 cs a S L ++ wX5 cs b T) s.heap.size) := ⟨_, rfl⟩
  rw [← hQ]
  have Lo19 : ∀ (n1 : Nat) (x5_19 : Int32) (L_19 : Nat → Nat → Int64) (H : Heap) (locs : List Loc) (ls : Array Slot), k_it (fun st => nX0_goOnByChance_l19 p2 p3 p4 st.1 S st.2 T) n1 (x5_19, L_19) = some L9 → lv_has ls 9 [(0, .ref (a 0)), (1, .ref (b 0)), (2, .int p2), (3, .int p3), (4, .int p4), (5, .int x5_19)] → va_P D vwCl (wX0 cs a S L_19 ++ wX5 cs b T) H → va_S A s.heap H locs → W p l e (headSpec wsX0_goOnByChance ({ frames := 3, cells := 0, slots := 0, locals := 84 })).room s m ([.ref (a 0), .ref (b 0), .int p2, .int p3, .int p4] : List Value).toArray below meth c H locs 0 0 Q (F0 m 19 ls []) := by
    intro n1
    induction n1 with
    | zero => intro x5_19 L_19 H locs ls hd; exact dn_it0 hd
    | succ n1 ih1 =>
      intro x5_19 L_19 H locs ls hd hl hP hS
      have hD := hDA S L_19 T
      obtain ⟨y1, hd, hy1⟩ := dn_it hd
      have hd : nX0_goOnByChance_l19 p2 p3 p4 x5_19 S L_19 T = some y1 := hd
      unfold nX0_goOnByChance_l19 at hd
      refine lv_iload hx hb dX0_goOnByChance_19 (lv_at hl 5 rfl) ?_
      refine lv_aload_n hx hb dX0_goOnByChance_21 rfl (lv_at hl 1 rfl) ?_
      refine va_get (D := D) (ci := 3) (v := .int (T 0 12)) (C := RX5) (T := TX5) (N := 15) hx hb hts (fun w h => List.mem_cons_of_mem _ (List.mem_append_right _ h)) hown hK hP 5 rfl rfl 12 (by decide) (hts (.fieldLink RX0 58 "LeastNeed$Valley" "people" "I") (List.mem_of_getElem? (i := 3) rfl)) (fun _ h9 => h9) rfl dX0_goOnByChance_22 ?_
      refine lv_icmp_ge (tgt := 137) hx hb dX0_goOnByChance_25 (by decide) (fun c25 => ?_) (fun c25 => ?_)
      · have hd := dn_t c25 hd
        have hd := dn_up hd hy1
        refine lv_aload_n hx hb dX0_goOnByChance_137 rfl (lv_at hl 0 rfl) ?_
        obtain ⟨L138, hq138, hd⟩ := dn_b1 hd
        have hPc : va_P D vwCl (wX0 cs a S L_19) _ := k_sub hP [0, 1, 2, 3, 4] (wcX0_X5_X0_0 cs a b S L_19 T)
        have hDc : va_D A (wX0 cs a S L_19) := hD.sub [0, 1, 2, 3, 4] (by decide) (wcX0_X5_X0_0 cs a b S L_19 T)
        have hF := k_self hDc hS hA
        refine k_run_v (va_runV (As := []) (rest := []) ⟨hx, hb, hml, hown, hts⟩ (mX0_takeNext l D cs a S L_19 L138 hq138 _) (cwV 0 hts gX0_goOnByChance_X0_takeNext rfl rfl rfl (by decide +kernel) ⟨Nat.le_of_ble_eq_true rfl, Nat.le_of_ble_eq_true rfl⟩) ⟨k_blind, va_recv hK hP (ci := 0) (q0 := 0) rfl rfl, k_pre hPc hK hNn hDc⟩ rfl rfl hl.1 rfl (lv_room (Nat.le_of_ble_eq_true rfl)) dX0_goOnByChance_138 ⟨Nat.le_of_ble_eq_true rfl, Nat.le_of_ble_eq_true rfl⟩) hS hF (fun H locs hP1 hk hS => ?_)
        have hP : va_P D vwCl (wX0 cs a S L138 ++ wX5 cs b T) _ := k_back hP hD [0, 1, 2, 3, 4] [5, 6, 7, 8, 9, 10, 11, 12, 13, 14, 15, 16, 17, 18, 19, 20] [16, 17, 18, 19, 20, 0, 1, 2, 3, 4, 5, 6, 7, 8, 9, 10, 11, 12, 13, 14, 15] (wcX0_X5_X0_0 cs a b S L_19 T) (by decide) hk hP1 (wbX0_X5_X0_0_L0 cs a b S L_19 T L138)
        have hD := hDA S L138 T
        have e1 := dn_s1 hd
        exact k_vret hx hb hr hQ hAe (by rw [e1]) hP hS hlocks dX0_goOnByChance_141
      · have hd := dn_f c25 hd
        refine lv_aload_n hx hb dX0_goOnByChance_28 rfl (lv_at hl 1 rfl) ?_
        refine lv_aload_n hx hb dX0_goOnByChance_29 rfl (lv_at hl 1 rfl) ?_
        refine va_get (D := D) (ci := 3) (v := .ref (b 5)) (C := RX5) (T := TX5) (N := 15) hx hb hts (fun w h => List.mem_cons_of_mem _ (List.mem_append_right _ h)) hown hK hP 5 rfl rfl 4 (by decide) (hts (.fieldLink RX0 61 "LeastNeed$Valley" "thingKind" "[I") (List.mem_of_getElem? (i := 4) rfl)) (fun _ h9 => h9) rfl dX0_goOnByChance_30 ?_
        refine lv_iload_n hx hb dX0_goOnByChance_33 rfl (lv_at hl 2 rfl) ?_
        obtain ⟨hi34, hd⟩ := dn_i hd
        refine k_iald (D := D) (k := p2.toNatClampNeg) (by rfl) hx hb hK hP 10 1 rfl rfl hi34 dX0_goOnByChance_34 ?_
        refine lv_aload_n hx hb dX0_goOnByChance_35 rfl (lv_at hl 1 rfl) ?_
        refine va_get (D := D) (ci := 3) (v := .ref (b 6)) (C := RX5) (T := TX5) (N := 15) hx hb hts (fun w h => List.mem_cons_of_mem _ (List.mem_append_right _ h)) hown hK hP 5 rfl rfl 5 (by decide) (hts (.fieldLink RX0 64 "LeastNeed$Valley" "sort" "[I") (List.mem_of_getElem? (i := 5) rfl)) (fun _ h9 => h9) rfl dX0_goOnByChance_36 ?_
        refine lv_iload_n hx hb dX0_goOnByChance_39 rfl (lv_at hl 2 rfl) ?_
        obtain ⟨hi40, hd⟩ := dn_i hd
        refine k_iald (D := D) (k := p2.toNatClampNeg) (by rfl) hx hb hK hP 11 1 rfl rfl hi40 dX0_goOnByChance_40 ?_
        refine lv_iload hx hb dX0_goOnByChance_41 (lv_at hl 5 rfl) ?_
        refine lv_iload_n hx hb dX0_goOnByChance_43 rfl (lv_at hl 3 rfl) ?_
        obtain ⟨r44, hq44, hd⟩ := dn_b1 hd
        have hPc : va_P D vwCl (wX5 cs b T) _ := k_sub hP [5, 6, 7, 8, 9, 10, 11, 12, 13, 14, 15, 16, 17, 18, 19, 20] (wcX0_X5_X5_0b cs a b S L_19 T)
        have hDc : va_D A (wX5 cs b T) := hD.sub [5, 6, 7, 8, 9, 10, 11, 12, 13, 14, 15, 16, 17, 18, 19, 20] (by decide) (wcX0_X5_X5_0b cs a b S L_19 T)
        have hF := k_self hDc hS hA
        refine k_run_i (va_runV (As := [.int (T 5 p2.toNatClampNeg), .int (T 6 p2.toNatClampNeg), .int x5_19, .int p3]) (rest := []) ⟨hx, hb, hml, hown, hts⟩ (mX5_goesTo l D cs b T (T 5 p2.toNatClampNeg) (T 6 p2.toNatClampNeg) x5_19 p3 r44 hq44 _) (cwV 4 hts gX0_goOnByChance_X5_goesTo rfl rfl rfl (by decide +kernel) ⟨Nat.le_of_ble_eq_true rfl, Nat.le_of_ble_eq_true rfl⟩) ⟨k_blind, va_recv hK hP (ci := 3) (q0 := 5) rfl rfl, k_pre hPc hK hNn hDc⟩ rfl rfl hl.1 rfl (lv_room (Nat.le_of_ble_eq_true rfl)) dX0_goOnByChance_44 ⟨Nat.le_of_ble_eq_true rfl, Nat.le_of_ble_eq_true rfl⟩) hS hF (fun H locs hP1 hk hS => ?_)
        have hP : va_P D vwCl (wX0 cs a S L_19 ++ wX5 cs b T) _ := k_back hP hD [5, 6, 7, 8, 9, 10, 11, 12, 13, 14, 15, 16, 17, 18, 19, 20] [0, 1, 2, 3, 4] [0, 1, 2, 3, 4, 5, 6, 7, 8, 9, 10, 11, 12, 13, 14, 15, 16, 17, 18, 19, 20] (wcX0_X5_X5_0b cs a b S L_19 T) (by decide) hk hP1 (wbX0_X5_X5_0b cs a b S L_19 T)
        have hD := hDA S L_19 T
        refine lv_istore (lv' := [(6, .int r44), (0, .ref (a 0)), (1, .ref (b 0)), (2, .int p2), (3, .int p3), (4, .int p4), (5, .int x5_19)]) hx hb dX0_goOnByChance_47 hl (by decide) rfl (fun ls hl => ?_)
        refine lv_aload_n hx hb dX0_goOnByChance_49 rfl (lv_at hl 1 rfl) ?_
        refine va_get (D := D) (ci := 0) (v := .ref (a 1)) (C := RX0) (T := TX0) (N := 5) hx hb hts (fun w h => List.mem_cons_of_mem _ (List.mem_append_left _ (List.mem_append_right _ h))) hown hK hP 0 rfl rfl 0 (by decide) (hts (.fieldLink RX0 9 "LeastNeed$Journey" "has" "[J") (List.mem_of_getElem? (i := 6) rfl)) (fun _ h9 => h9) rfl dX0_goOnByChance_50 ?_
        refine lv_iload hx hb dX0_goOnByChance_53 (lv_at hl 6 rfl) ?_
        obtain ⟨hi55, hd⟩ := dn_i hd
        refine k_lald (D := D) (k := x5_19.toNatClampNeg) (by rfl) hx hb hK hP 1 2 rfl rfl hi55 dX0_goOnByChance_55 ?_
        refine lv_iload hx hb dX0_goOnByChance_56 (lv_at hl 5 rfl) ?_
        refine lv_i2l hx hb dX0_goOnByChance_58 rfl ?_
        refine lv_lmul hx hb dX0_goOnByChance_59 ?_
        refine lv_aload_n hx hb dX0_goOnByChance_60 rfl (lv_at hl 1 rfl) ?_
        refine va_get (D := D) (ci := 0) (v := .ref (a 2)) (C := RX0) (T := TX0) (N := 5) hx hb hts (fun w h => List.mem_cons_of_mem _ (List.mem_append_left _ (List.mem_append_right _ h))) hown hK hP 0 rfl rfl 1 (by decide) (hts (.fieldLink RX0 15 "LeastNeed$Journey" "lost" "[J") (List.mem_of_getElem? (i := 7) rfl)) (fun _ h9 => h9) rfl dX0_goOnByChance_61 ?_
        refine lv_iload hx hb dX0_goOnByChance_64 (lv_at hl 6 rfl) ?_
        obtain ⟨hi66, hd⟩ := dn_i hd
        refine k_lald (D := D) (k := x5_19.toNatClampNeg) (by rfl) hx hb hK hP 2 2 rfl rfl hi66 dX0_goOnByChance_66 ?_
        refine lv_ldc2 (v := (10 : Int64)) hx hb hown (hts (.constantLong RX0 80 (10)) (List.mem_of_getElem? (i := 8) rfl)) dX0_goOnByChance_67 ?_
        refine lv_lmul hx hb dX0_goOnByChance_70 ?_
        refine lv_ladd hx hb dX0_goOnByChance_71 ?_
        refine lv_lstore (lv' := [(7, .long (((L_19 1 x5_19.toNatClampNeg) * p4.toInt64) + ((L_19 2 x5_19.toNatClampNeg) * (10 : Int64)))), (6, .int r44), (0, .ref (a 0)), (1, .ref (b 0)), (2, .int p2), (3, .int p3), (4, .int p4), (5, .int x5_19)]) hx hb dX0_goOnByChance_72 hl (by decide) rfl (fun ls hl => ?_)
        refine lv_aload_n hx hb dX0_goOnByChance_74 rfl (lv_at hl 2 rfl) ?_
        refine va_get (D := D) (ci := 0) (v := .ref (a 3)) (C := RX0) (T := TX0) (N := 5) hx hb hts (fun w h => List.mem_cons_of_mem _ (List.mem_append_left _ (List.mem_append_right _ h))) hown hK hP 0 rfl rfl 2 (by decide) (hts (.fieldLink RX0 18 "LeastNeed$Journey" "hasNext" "[J") (List.mem_of_getElem? (i := 1) rfl)) (fun _ h9 => h9) rfl dX0_goOnByChance_75 ?_
        refine lv_iload hx hb dX0_goOnByChance_78 (lv_at hl 7 rfl) ?_
        refine lv_dup2_11 hx hb dX0_goOnByChance_80 rfl rfl ?_
        obtain ⟨hi81, hd⟩ := dn_i hd
        refine k_lald (D := D) (k := x5_19.toNatClampNeg) (by rfl) hx hb hK hP 3 2 rfl rfl hi81 dX0_goOnByChance_81 ?_
        refine lv_aload_n hx hb dX0_goOnByChance_82 rfl (lv_at hl 2 rfl) ?_
        refine va_get (D := D) (ci := 0) (v := .ref (a 1)) (C := RX0) (T := TX0) (N := 5) hx hb hts (fun w h => List.mem_cons_of_mem _ (List.mem_append_left _ (List.mem_append_right _ h))) hown hK hP 0 rfl rfl 0 (by decide) (hts (.fieldLink RX0 9 "LeastNeed$Journey" "has" "[J") (List.mem_of_getElem? (i := 6) rfl)) (fun _ h9 => h9) rfl dX0_goOnByChance_83 ?_
        refine lv_iload hx hb dX0_goOnByChance_86 (lv_at hl 7 rfl) ?_
        obtain ⟨hi88, hd⟩ := dn_i hd
        refine k_lald (D := D) (k := x5_19.toNatClampNeg) (by rfl) hx hb hK hP 1 2 rfl rfl hi88 dX0_goOnByChance_88 ?_
        refine lv_bipush (v := (10 : Int32)) hx hb dX0_goOnByChance_89 (by decide) ?_
        refine lv_iload hx hb dX0_goOnByChance_91 (lv_at hl 6 rfl) ?_
        refine lv_isub hx hb dX0_goOnByChance_93 ?_
        refine lv_i2l hx hb dX0_goOnByChance_94 rfl ?_
        refine lv_lmul hx hb dX0_goOnByChance_95 ?_
        refine lv_ladd hx hb dX0_goOnByChance_96 ?_
        obtain ⟨hi97, hd⟩ := dn_i hd
        refine k_last (D := D) (k := x5_19.toNatClampNeg) (by rfl) hx hb hK hP hD hS 3 2 rfl rfl hi97 dX0_goOnByChance_97 (fun H locs hP hD hS => ?_)
        have hP : va_P D vwCl (wX0 cs a S (k_wl L_19 3 x5_19.toNatClampNeg ((L_19 3 x5_19.toNatClampNeg) + ((L_19 1 x5_19.toNatClampNeg) * (((10 : Int32) - p4).toInt64)))) ++ wX5 cs b T) _ := k_eq hP (wsX0_X5_a3 cs a b S L_19 T x5_19.toNatClampNeg ((L_19 3 x5_19.toNatClampNeg) + ((L_19 1 x5_19.toNatClampNeg) * (((10 : Int32) - p4).toInt64))))
        have hD := hDA S (k_wl L_19 3 x5_19.toNatClampNeg ((L_19 3 x5_19.toNatClampNeg) + ((L_19 1 x5_19.toNatClampNeg) * (((10 : Int32) - p4).toInt64)))) T
        refine lv_iload hx hb dX0_goOnByChance_98 (lv_at hl 1 rfl) ?_
        refine lv_iconst (v := (-1 : Int32)) hx hb dX0_goOnByChance_100 (by decide) ?_
        refine lv_icmp_ne (tgt := 119) hx hb dX0_goOnByChance_101 (by decide) (fun c101 => ?_) (fun c101 => ?_)
        · have hd := dn_f c101 hd
          refine lv_aload_n hx hb dX0_goOnByChance_119 rfl (lv_at hl 2 rfl) ?_
          refine va_get (D := D) (ci := 0) (v := .ref (a 3)) (C := RX0) (T := TX0) (N := 5) hx hb hts (fun w h => List.mem_cons_of_mem _ (List.mem_append_left _ (List.mem_append_right _ h))) hown hK hP 0 rfl rfl 2 (by decide) (hts (.fieldLink RX0 18 "LeastNeed$Journey" "hasNext" "[J") (List.mem_of_getElem? (i := 1) rfl)) (fun _ h9 => h9) rfl dX0_goOnByChance_120 ?_
          refine lv_iload hx hb dX0_goOnByChance_123 (lv_at hl 1 rfl) ?_
          refine lv_dup2_11 hx hb dX0_goOnByChance_125 rfl rfl ?_
          obtain ⟨hi126, hd⟩ := dn_i hd
          refine k_lald (D := D) (k := r44.toNatClampNeg) (by rfl) hx hb hK hP 3 2 rfl rfl hi126 dX0_goOnByChance_126 ?_
          refine lv_lload hx hb dX0_goOnByChance_127 (lv_at hl 0 rfl) ?_
          refine lv_ladd hx hb dX0_goOnByChance_129 ?_
          obtain ⟨hi130, hd⟩ := dn_i hd
          refine k_last (D := D) (k := r44.toNatClampNeg) (by rfl) hx hb hK hP hD hS 3 2 rfl rfl hi130 dX0_goOnByChance_130 (fun H locs hP hD hS => ?_)
          have hP : va_P D vwCl (wX0 cs a S (k_wl (k_wl L_19 3 x5_19.toNatClampNeg ((L_19 3 x5_19.toNatClampNeg) + ((L_19 1 x5_19.toNatClampNeg) * (((10 : Int32) - p4).toInt64)))) 3 r44.toNatClampNeg (((k_wl L_19 3 x5_19.toNatClampNeg ((L_19 3 x5_19.toNatClampNeg) + ((L_19 1 x5_19.toNatClampNeg) * (((10 : Int32) - p4).toInt64)))) 3 r44.toNatClampNeg) + (((L_19 1 x5_19.toNatClampNeg) * p4.toInt64) + ((L_19 2 x5_19.toNatClampNeg) * (10 : Int64))))) ++ wX5 cs b T) _ := k_eq hP (wsX0_X5_a3 cs a b S (k_wl L_19 3 x5_19.toNatClampNeg ((L_19 3 x5_19.toNatClampNeg) + ((L_19 1 x5_19.toNatClampNeg) * (((10 : Int32) - p4).toInt64)))) T r44.toNatClampNeg (((k_wl L_19 3 x5_19.toNatClampNeg ((L_19 3 x5_19.toNatClampNeg) + ((L_19 1 x5_19.toNatClampNeg) * (((10 : Int32) - p4).toInt64)))) 3 r44.toNatClampNeg) + (((L_19 1 x5_19.toNatClampNeg) * p4.toInt64) + ((L_19 2 x5_19.toNatClampNeg) * (10 : Int64)))))
          have hD := hDA S (k_wl (k_wl L_19 3 x5_19.toNatClampNeg ((L_19 3 x5_19.toNatClampNeg) + ((L_19 1 x5_19.toNatClampNeg) * (((10 : Int32) - p4).toInt64)))) 3 r44.toNatClampNeg (((k_wl L_19 3 x5_19.toNatClampNeg ((L_19 3 x5_19.toNatClampNeg) + ((L_19 1 x5_19.toNatClampNeg) * (((10 : Int32) - p4).toInt64)))) 3 r44.toNatClampNeg) + (((L_19 1 x5_19.toNatClampNeg) * p4.toInt64) + ((L_19 2 x5_19.toNatClampNeg) * (10 : Int64))))) T
          refine lv_iinc (v := x5_19 + (1 : Int32)) (lv' := [(5, .int (x5_19 + (1 : Int32))), (7, .long (((L_19 1 x5_19.toNatClampNeg) * p4.toInt64) + ((L_19 2 x5_19.toNatClampNeg) * (10 : Int64)))), (6, .int r44), (0, .ref (a 0)), (1, .ref (b 0)), (2, .int p2), (3, .int p3), (4, .int p4)]) hx hb dX0_goOnByChance_131 hl (k := 7) rfl rfl (by decide) rfl (fun ls hl => ?_)
          refine lv_goto (tgt := 19) hx hb dX0_goOnByChance_134 (by decide) ?_
          exact ih1 (x5_19 + (1 : Int32)) (k_wl (k_wl L_19 3 x5_19.toNatClampNeg ((L_19 3 x5_19.toNatClampNeg) + ((L_19 1 x5_19.toNatClampNeg) * (((10 : Int32) - p4).toInt64)))) 3 r44.toNatClampNeg (((k_wl L_19 3 x5_19.toNatClampNeg ((L_19 3 x5_19.toNatClampNeg) + ((L_19 1 x5_19.toNatClampNeg) * (((10 : Int32) - p4).toInt64)))) 3 r44.toNatClampNeg) + (((L_19 1 x5_19.toNatClampNeg) * p4.toInt64) + ((L_19 2 x5_19.toNatClampNeg) * (10 : Int64))))) _ _ _ (dn_bk hd hy1) (lv_sub hl [3, 4, 5, 6, 7, 0] rfl) hP hS
        · have hd := dn_t c101 hd
          refine lv_aload_n hx hb dX0_goOnByChance_104 rfl (lv_at hl 2 rfl) ?_
          refine va_get (D := D) (ci := 0) (v := .ref (a 4)) (C := RX0) (T := TX0) (N := 5) hx hb hts (fun w h => List.mem_cons_of_mem _ (List.mem_append_left _ (List.mem_append_right _ h))) hown hK hP 0 rfl rfl 3 (by decide) (hts (.fieldLink RX0 21 "LeastNeed$Journey" "lostNext" "[J") (List.mem_of_getElem? (i := 2) rfl)) (fun _ h9 => h9) rfl dX0_goOnByChance_105 ?_
          refine lv_iload hx hb dX0_goOnByChance_108 (lv_at hl 7 rfl) ?_
          refine lv_dup2_11 hx hb dX0_goOnByChance_110 rfl rfl ?_
          obtain ⟨hi111, hd⟩ := dn_i hd
          refine k_lald (D := D) (k := x5_19.toNatClampNeg) (by rfl) hx hb hK hP 4 2 rfl rfl hi111 dX0_goOnByChance_111 ?_
          refine lv_lload hx hb dX0_goOnByChance_112 (lv_at hl 0 rfl) ?_
          refine lv_ladd hx hb dX0_goOnByChance_114 ?_
          obtain ⟨hi115, hd⟩ := dn_i hd
          refine k_last (D := D) (k := x5_19.toNatClampNeg) (by rfl) hx hb hK hP hD hS 4 2 rfl rfl hi115 dX0_goOnByChance_115 (fun H locs hP hD hS => ?_)
          have hP : va_P D vwCl (wX0 cs a S (k_wl (k_wl L_19 3 x5_19.toNatClampNeg ((L_19 3 x5_19.toNatClampNeg) + ((L_19 1 x5_19.toNatClampNeg) * (((10 : Int32) - p4).toInt64)))) 4 x5_19.toNatClampNeg (((k_wl L_19 3 x5_19.toNatClampNeg ((L_19 3 x5_19.toNatClampNeg) + ((L_19 1 x5_19.toNatClampNeg) * (((10 : Int32) - p4).toInt64)))) 4 x5_19.toNatClampNeg) + (((L_19 1 x5_19.toNatClampNeg) * p4.toInt64) + ((L_19 2 x5_19.toNatClampNeg) * (10 : Int64))))) ++ wX5 cs b T) _ := k_eq hP (wsX0_X5_a4 cs a b S (k_wl L_19 3 x5_19.toNatClampNeg ((L_19 3 x5_19.toNatClampNeg) + ((L_19 1 x5_19.toNatClampNeg) * (((10 : Int32) - p4).toInt64)))) T x5_19.toNatClampNeg (((k_wl L_19 3 x5_19.toNatClampNeg ((L_19 3 x5_19.toNatClampNeg) + ((L_19 1 x5_19.toNatClampNeg) * (((10 : Int32) - p4).toInt64)))) 4 x5_19.toNatClampNeg) + (((L_19 1 x5_19.toNatClampNeg) * p4.toInt64) + ((L_19 2 x5_19.toNatClampNeg) * (10 : Int64)))))
          have hD := hDA S (k_wl (k_wl L_19 3 x5_19.toNatClampNeg ((L_19 3 x5_19.toNatClampNeg) + ((L_19 1 x5_19.toNatClampNeg) * (((10 : Int32) - p4).toInt64)))) 4 x5_19.toNatClampNeg (((k_wl L_19 3 x5_19.toNatClampNeg ((L_19 3 x5_19.toNatClampNeg) + ((L_19 1 x5_19.toNatClampNeg) * (((10 : Int32) - p4).toInt64)))) 4 x5_19.toNatClampNeg) + (((L_19 1 x5_19.toNatClampNeg) * p4.toInt64) + ((L_19 2 x5_19.toNatClampNeg) * (10 : Int64))))) T
          refine lv_goto (tgt := 131) hx hb dX0_goOnByChance_116 (by decide) ?_
          refine lv_iinc (v := x5_19 + (1 : Int32)) (lv' := [(5, .int (x5_19 + (1 : Int32))), (7, .long (((L_19 1 x5_19.toNatClampNeg) * p4.toInt64) + ((L_19 2 x5_19.toNatClampNeg) * (10 : Int64)))), (6, .int r44), (0, .ref (a 0)), (1, .ref (b 0)), (2, .int p2), (3, .int p3), (4, .int p4)]) hx hb dX0_goOnByChance_131 hl (k := 7) rfl rfl (by decide) rfl (fun ls hl => ?_)
          refine lv_goto (tgt := 19) hx hb dX0_goOnByChance_134 (by decide) ?_
          exact ih1 (x5_19 + (1 : Int32)) (k_wl (k_wl L_19 3 x5_19.toNatClampNeg ((L_19 3 x5_19.toNatClampNeg) + ((L_19 1 x5_19.toNatClampNeg) * (((10 : Int32) - p4).toInt64)))) 4 x5_19.toNatClampNeg (((k_wl L_19 3 x5_19.toNatClampNeg ((L_19 3 x5_19.toNatClampNeg) + ((L_19 1 x5_19.toNatClampNeg) * (((10 : Int32) - p4).toInt64)))) 4 x5_19.toNatClampNeg) + (((L_19 1 x5_19.toNatClampNeg) * p4.toInt64) + ((L_19 2 x5_19.toNatClampNeg) * (10 : Int64))))) _ _ _ (dn_bk hd hy1) (lv_sub hl [3, 4, 5, 6, 7, 0] rfl) hP hS
  unfold nX0_goOnByChance at hd
  refine lv_aload_n hx hb dX0_goOnByChance_0 rfl (lv_at hl 0 rfl) ?_
  refine va_get (D := D) (ci := 0) (v := .ref (a 3)) (C := RX0) (T := TX0) (N := 5) hx hb hts (fun w h => List.mem_cons_of_mem _ (List.mem_append_left _ (List.mem_append_right _ h))) hown hK hP 0 rfl rfl 2 (by decide) (hts (.fieldLink RX0 18 "LeastNeed$Journey" "hasNext" "[J") (List.mem_of_getElem? (i := 1) rfl)) (fun _ h9 => h9) rfl dX0_goOnByChance_1 ?_
  refine lv_lconst (v := (0 : Int64)) hx hb dX0_goOnByChance_4 (by decide) ?_
  obtain ⟨L5, hq5, hd⟩ := dn_b1 hd
  have hPc : va_P D vwCl (wAJ cs 7 (k_wi a 3) (k_wi L 3)) _ := k_sub hP [3] (wcX0_X5_aJ_3 cs a b S L T)
  have hDc : va_D A (wAJ cs 7 (k_wi a 3) (k_wi L 3)) := hD.sub [3] (by decide) (wcX0_X5_aJ_3 cs a b S L T)
  have hF := k_self hDc hS hA
  refine k_run_v (va_runS (As := [.ref (a 3), .long (0 : Int64)]) (rest := []) ⟨hx, hb, hml, hown, hts⟩ (mX0_fill l D cs (k_wi a 3) 7 (k_wi L 3) (0 : Int64) L5 hq5 _) (va_cwS 2 hts gX0_goOnByChance_X0_fill rfl rfl rfl (by decide +kernel) ⟨Nat.le_of_ble_eq_true rfl, Nat.le_of_ble_eq_true rfl⟩) ⟨k_blind, k_pre hPc hK hNn hDc⟩ rfl rfl hl.1 rfl (lv_room (Nat.le_of_ble_eq_true rfl)) dX0_goOnByChance_5 ⟨Nat.le_of_ble_eq_true rfl, Nat.le_of_ble_eq_true rfl⟩) hS hF (fun H locs hP1 hk hS => ?_)
  have hP : va_P D vwCl (wX0 cs a S (k_sp L 3 1 L5) ++ wX5 cs b T) _ := k_back hP hD [3] [0, 1, 2, 4, 5, 6, 7, 8, 9, 10, 11, 12, 13, 14, 15, 16, 17, 18, 19, 20] [0, 1, 2, 20, 3, 4, 5, 6, 7, 8, 9, 10, 11, 12, 13, 14, 15, 16, 17, 18, 19] (wcX0_X5_aJ_3 cs a b S L T) (by decide) hk hP1 (wbX0_X5_aJ_3_L0 cs a b S L T L5)
  have hD := hDA S (k_sp L 3 1 L5) T
  refine lv_aload_n hx hb dX0_goOnByChance_8 rfl (lv_at hl 0 rfl) ?_
  refine va_get (D := D) (ci := 0) (v := .ref (a 4)) (C := RX0) (T := TX0) (N := 5) hx hb hts (fun w h => List.mem_cons_of_mem _ (List.mem_append_left _ (List.mem_append_right _ h))) hown hK hP 0 rfl rfl 3 (by decide) (hts (.fieldLink RX0 21 "LeastNeed$Journey" "lostNext" "[J") (List.mem_of_getElem? (i := 2) rfl)) (fun _ h9 => h9) rfl dX0_goOnByChance_9 ?_
  refine lv_lconst (v := (0 : Int64)) hx hb dX0_goOnByChance_12 (by decide) ?_
  obtain ⟨L13, hq13, hd⟩ := dn_b1 hd
  have hPc : va_P D vwCl (wAJ cs 7 (k_wi a 4) (k_wi (k_sp L 3 1 L5) 4)) _ := k_sub hP [4] (wcX0_X5_aJ_4 cs a b S (k_sp L 3 1 L5) T)
  have hDc : va_D A (wAJ cs 7 (k_wi a 4) (k_wi (k_sp L 3 1 L5) 4)) := hD.sub [4] (by decide) (wcX0_X5_aJ_4 cs a b S (k_sp L 3 1 L5) T)
  have hF := k_self hDc hS hA
  refine k_run_v (va_runS (As := [.ref (a 4), .long (0 : Int64)]) (rest := []) ⟨hx, hb, hml, hown, hts⟩ (mX0_fill l D cs (k_wi a 4) 7 (k_wi (k_sp L 3 1 L5) 4) (0 : Int64) L13 hq13 _) (va_cwS 2 hts gX0_goOnByChance_X0_fill rfl rfl rfl (by decide +kernel) ⟨Nat.le_of_ble_eq_true rfl, Nat.le_of_ble_eq_true rfl⟩) ⟨k_blind, k_pre hPc hK hNn hDc⟩ rfl rfl hl.1 rfl (lv_room (Nat.le_of_ble_eq_true rfl)) dX0_goOnByChance_13 ⟨Nat.le_of_ble_eq_true rfl, Nat.le_of_ble_eq_true rfl⟩) hS hF (fun H locs hP1 hk hS => ?_)
  have hP : va_P D vwCl (wX0 cs a S (k_sp (k_sp L 3 1 L5) 4 1 L13) ++ wX5 cs b T) _ := k_back hP hD [4] [0, 1, 2, 3, 5, 6, 7, 8, 9, 10, 11, 12, 13, 14, 15, 16, 17, 18, 19, 20] [0, 1, 2, 3, 20, 4, 5, 6, 7, 8, 9, 10, 11, 12, 13, 14, 15, 16, 17, 18, 19] (wcX0_X5_aJ_4 cs a b S (k_sp L 3 1 L5) T) (by decide) hk hP1 (wbX0_X5_aJ_4_L0 cs a b S (k_sp L 3 1 L5) T L13)
  have hD := hDA S (k_sp (k_sp L 3 1 L5) 4 1 L13) T
  refine lv_iconst (v := (0 : Int32)) hx hb dX0_goOnByChance_16 (by decide) ?_
  refine lv_istore (lv' := [(5, .int (0 : Int32)), (0, .ref (a 0)), (1, .ref (b 0)), (2, .int p2), (3, .int p3), (4, .int p4)]) hx hb dX0_goOnByChance_17 hl (by decide) rfl (fun ls hl => ?_)
  exact Lo19 1000 (0 : Int32) (k_sp (k_sp L 3 1 L5) 4 1 L13) _ _ _ hd (lv_sub hl [1, 2, 3, 4, 5, 0] rfl) hP hS
-- LeastNeed$Journey.chanceOfTens(LLeastNeed$Valley;IIII)J
set_option maxRecDepth 20000 in
def nX0_chanceOfTens_l11 (p2 : Int32) (p3 : Int32) (p4 : Int32) (p5 : Int32) (x6_11 : Int32) (S : Nat → Nat → Int32) (L_11 : Nat → Nat → Int64) (T : Nat → Nat → Int32) : Option ((Int32 × (Nat → Nat → Int64)) ⊕ (Int64 × (Nat → Nat → Int64))) := if p4 ≤ x6_11 then k_up (if p3 < 0 ∨ 7 ≤ p3.toNatClampNeg then none else some ((L_11 1 p3.toNatClampNeg), L_11)) else k_b1 (nX0_goOnByChance S L_11 T p2 ((T 0 14) + x6_11) p5) (fun L30 => some (.inl ((x6_11 + (1 : Int32)), L30)))
set_option maxRecDepth 20000 in
def nX0_chanceOfTens (S : Nat → Nat → Int32) (L : Nat → Nat → Int64) (T : Nat → Nat → Int32) (p2 : Int32) (p3 : Int32) (p4 : Int32) (p5 : Int32) : Option (Int64 × (Nat → Nat → Int64)) := k_b1 (nX0_setOut S L T p2 (0 : Int64) (1 : Int64)) (fun L5 => k_it (fun st => nX0_chanceOfTens_l11 p2 p3 p4 p5 st.1 S st.2 T) 1000 ((0 : Int32), L5))
set_option maxHeartbeats 4000000 in
set_option maxRecDepth 100000 in
theorem mX0_chanceOfTens (l : Launch) (D : va_G) (cs : Nat → ClassId) (a : Nat → Nat) (b : Nat → Nat) (S : Nat → Nat → Int32) (L : Nat → Nat → Int64) (T : Nat → Nat → Int32) (p2 : Int32) (p3 : Int32) (p4 : Int32) (p5 : Int32) (r9 : Int64) (L9 : (Nat → Nat → Int64)) (hd : nX0_chanceOfTens S L T p2 p3 p4 p5 = some (r9, L9)) : ∀ sz : Nat, Met l yX0_chanceOfTens wsX0_chanceOfTens ({ frames := 4, cells := 0, slots := 0, locals := 112 }) (k_Pc D cs [.ref (a 0), .ref (b 0), .int p2, .int p3, .int p4, .int p5] (wX0 cs a S L ++ wX5 cs b T) sz) (k_Ql D r9 (wX0 cs a S L ++ wX5 cs b T) (wX0 cs a S L9 ++ wX5 cs b T) sz) 0 0 (va_A (wX0 cs a S L ++ wX5 cs b T) sz) := by
  intro sz
  refine Met.ofW (cc := cX0_chanceOfTens) (maxL := 7) (ret := (some .long)) (by decide) rfl ?_
  intro p e s m args below meth c s₁ B hml hv
  obtain ⟨rfl, hsz, hP, hK, hD0, hNn⟩ := hv
  have hx := B.exec
  have hb := B.bytes
  have hr := B.returns
  have hts := atoms_spec (ws := wsX0_chanceOfTens) B.pre
  have hown : s.vm.findClass RX0 = some m.cls := findClass_of_methodNamed B.named
  have hlocks := B.notSynchronized
  subst hsz
  obtain ⟨A, hAe⟩ : ∃ A : Nat → Prop, A = va_A (wX0 cs a S L ++ wX5 cs b T) s.heap.size := ⟨_, rfl⟩
  have hD : va_D A (wX0 cs a S L ++ wX5 cs b T) := by rw [hAe]; exact hD0.self
  have hA : ∀ q : Nat, s.heap.size ≤ q → A q := fun q h => by rw [hAe]; exact Or.inr h
  have hS : va_S A s.heap s.heap [] := va_S.rf
  have hDA : ∀ (S : Nat → Nat → Int32) (L : Nat → Nat → Int64) (T : Nat → Nat → Int32), va_D A (wX0 cs a S L ++ wX5 cs b T) := fun S L T => k_DA hD rfl
  have hl := lv_entry ([.ref (a 0), .ref (b 0), .int p2, .int p3, .int p4, .int p5]) (n := 7) (Nat.le_of_ble_eq_true rfl)
  rw [lg_entry_eq]
  generalize (lg_sl ([.ref (a 0), .ref (b 0), .int p2, .int p3, .int p4, .int p5]) ++ List.replicate (7 - (lg_sl ([.ref (a 0), .ref (b 0), .int p2, .int p3, .int p4, .int p5])).length) Slot.unset).toArray = ls at hl ⊢
  have hl : lv_has ls 7 [(0, .ref (a 0)), (1, .ref (b 0)), (2, .int p2), (3, .int p3), (4, .int p4), (5, .int p5)] := hl
  obtain ⟨Q, hQ⟩ : ∃ Q, Q = MQ below (k_Ql D r9 (wX0 cs a S L ++ wX5 cs b T) (wX0 cs a S L9 ++ wX5 cs b T) s.heap.size) ([.ref (a 0), .ref (b 0), .int p2, .int p3, .int p4, .int p5] : List Value).toArray s 0 0 (va_A (wX0 cs a S L ++ wX5 cs b T) s.heap.size) := ⟨_, rfl⟩
  rw [← hQ]
  have Lo11 : ∀ (n1 : Nat) (x6_11 : Int32) (L_11 : Nat → Nat → Int64) (H : Heap) (locs : List Loc) (ls : Array Slot), k_it (fun st => nX0_chanceOfTens_l11 p2 p3 p4 p5 st.1 S st.2 T) n1 (x6_11, L_11) = some (r9, L9) → lv_has ls 7 [(0, .ref (a 0)), (1, .ref (b 0)), (2, .int p2), (3, .int p3), (4, .int p4), (5, .int p5), (6, .int x6_11)] → va_P D vwCl (wX0 cs a S L_11 ++ wX5 cs b T) H → va_S A s.heap H locs → W p l e (headSpec wsX0_chanceOfTens ({ frames := 4, cells := 0, slots := 0, locals := 112 })).room s m ([.ref (a 0), .ref (b 0), .int p2, .int p3, .int p4, .int p5] : List Value).toArray below meth c H locs 0 0 Q (F0 m 11 ls []) := by
    intro n1
    induction n1 with
    | zero => intro x6_11 L_11 H locs ls hd; exact dn_it0 hd
    | succ n1 ih1 =>
      intro x6_11 L_11 H locs ls hd hl hP hS
      have hD := hDA S L_11 T
      obtain ⟨y1, hd, hy1⟩ := dn_it hd
      have hd : nX0_chanceOfTens_l11 p2 p3 p4 p5 x6_11 S L_11 T = some y1 := hd
      unfold nX0_chanceOfTens_l11 at hd
      refine lv_iload hx hb dX0_chanceOfTens_11 (lv_at hl 6 rfl) ?_
      refine lv_iload hx hb dX0_chanceOfTens_13 (lv_at hl 4 rfl) ?_
      refine lv_icmp_ge (tgt := 39) hx hb dX0_chanceOfTens_15 (by decide) (fun c15 => ?_) (fun c15 => ?_)
      · have hd := dn_t c15 hd
        have hd := dn_up hd hy1
        refine lv_aload_n hx hb dX0_chanceOfTens_39 rfl (lv_at hl 0 rfl) ?_
        refine va_get (D := D) (ci := 0) (v := .ref (a 1)) (C := RX0) (T := TX0) (N := 5) hx hb hts (fun w h => List.mem_cons_of_mem _ (List.mem_append_right _ h)) hown hK hP 0 rfl rfl 0 (by decide) (hts (.fieldLink RX0 9 "LeastNeed$Journey" "has" "[J") (List.mem_of_getElem? (i := 2) rfl)) (fun _ h9 => h9) rfl dX0_chanceOfTens_40 ?_
        refine lv_iload_n hx hb dX0_chanceOfTens_43 rfl (lv_at hl 3 rfl) ?_
        obtain ⟨hi44, hd⟩ := dn_i hd
        refine k_lald (D := D) (k := p3.toNatClampNeg) (by rfl) hx hb hK hP 1 2 rfl rfl hi44 dX0_chanceOfTens_44 ?_
        obtain ⟨e1, e2⟩ := dn_s2 hd
        exact k_lret hx hb hr hQ hAe e1 (by rw [e2]) hP hS hlocks dX0_chanceOfTens_45
      · have hd := dn_f c15 hd
        refine lv_aload_n hx hb dX0_chanceOfTens_18 rfl (lv_at hl 0 rfl) ?_
        refine lv_aload_n hx hb dX0_chanceOfTens_19 rfl (lv_at hl 1 rfl) ?_
        refine lv_iload_n hx hb dX0_chanceOfTens_20 rfl (lv_at hl 2 rfl) ?_
        refine lv_aload_n hx hb dX0_chanceOfTens_21 rfl (lv_at hl 1 rfl) ?_
        refine va_get (D := D) (ci := 3) (v := .int (T 0 14)) (C := RX5) (T := TX5) (N := 15) hx hb hts (fun w h => List.mem_cons_of_mem _ (List.mem_append_left _ (List.mem_append_right _ h))) hown hK hP 5 rfl rfl 14 (by decide) (hts (.fieldLink RX0 34 "LeastNeed$Valley" "today" "I") (List.mem_of_getElem? (i := 1) rfl)) (fun _ h9 => h9) rfl dX0_chanceOfTens_22 ?_
        refine lv_iload hx hb dX0_chanceOfTens_25 (lv_at hl 6 rfl) ?_
        refine lv_iadd hx hb dX0_chanceOfTens_27 ?_
        refine lv_iload hx hb dX0_chanceOfTens_28 (lv_at hl 5 rfl) ?_
        obtain ⟨L30, hq30, hd⟩ := dn_b1 hd
        have hF := k_self hD hS hA
        refine k_run_v (va_runV (As := [.ref (b 0), .int p2, .int ((T 0 14) + x6_11), .int p5]) (rest := []) ⟨hx, hb, hml, hown, hts⟩ (mX0_goOnByChance l D cs a b S L_11 T p2 ((T 0 14) + x6_11) p5 L30 hq30 _) (cwV 4 hts gX0_chanceOfTens_X0_goOnByChance rfl rfl rfl (by decide +kernel) ⟨Nat.le_of_ble_eq_true rfl, Nat.le_of_ble_eq_true rfl⟩) ⟨k_blind, va_recv hK hP (ci := 0) (q0 := 0) rfl rfl, k_pre hP hK hNn hD⟩ rfl rfl hl.1 rfl (lv_room (Nat.le_of_ble_eq_true rfl)) dX0_chanceOfTens_30 ⟨Nat.le_of_ble_eq_true rfl, Nat.le_of_ble_eq_true rfl⟩) hS hF (fun H locs hP1 hk hS => ?_)
        have hP : va_P D vwCl (wX0 cs a S L30 ++ wX5 cs b T) _ := hP1
        have hD := hDA S L30 T
        refine lv_iinc (v := x6_11 + (1 : Int32)) (lv' := [(6, .int (x6_11 + (1 : Int32))), (0, .ref (a 0)), (1, .ref (b 0)), (2, .int p2), (3, .int p3), (4, .int p4), (5, .int p5)]) hx hb dX0_chanceOfTens_33 hl (k := 6) rfl rfl (by decide) rfl (fun ls hl => ?_)
        refine lv_goto (tgt := 11) hx hb dX0_chanceOfTens_36 (by decide) ?_
        exact ih1 (x6_11 + (1 : Int32)) L30 _ _ _ (dn_bk hd hy1) (lv_sub hl [1, 2, 3, 4, 5, 6, 0] rfl) hP hS
  unfold nX0_chanceOfTens at hd
  refine lv_aload_n hx hb dX0_chanceOfTens_0 rfl (lv_at hl 0 rfl) ?_
  refine lv_aload_n hx hb dX0_chanceOfTens_1 rfl (lv_at hl 1 rfl) ?_
  refine lv_iload_n hx hb dX0_chanceOfTens_2 rfl (lv_at hl 2 rfl) ?_
  refine lv_lconst (v := (0 : Int64)) hx hb dX0_chanceOfTens_3 (by decide) ?_
  refine lv_lconst (v := (1 : Int64)) hx hb dX0_chanceOfTens_4 (by decide) ?_
  obtain ⟨L5, hq5, hd⟩ := dn_b1 hd
  have hF := k_self hD hS hA
  refine k_run_v (va_runV (As := [.ref (b 0), .int p2, .long (0 : Int64), .long (1 : Int64)]) (rest := []) ⟨hx, hb, hml, hown, hts⟩ (mX0_setOut l D cs a b S L T p2 (0 : Int64) (1 : Int64) L5 hq5 _) (cwV 4 hts gX0_chanceOfTens_X0_setOut rfl rfl rfl (by decide +kernel) ⟨Nat.le_of_ble_eq_true rfl, Nat.le_of_ble_eq_true rfl⟩) ⟨k_blind, va_recv hK hP (ci := 0) (q0 := 0) rfl rfl, k_pre hP hK hNn hD⟩ rfl rfl hl.1 rfl (lv_room (Nat.le_of_ble_eq_true rfl)) dX0_chanceOfTens_5 ⟨Nat.le_of_ble_eq_true rfl, Nat.le_of_ble_eq_true rfl⟩) hS hF (fun H locs hP1 hk hS => ?_)
  have hP : va_P D vwCl (wX0 cs a S L5 ++ wX5 cs b T) _ := hP1
  have hD := hDA S L5 T
  refine lv_iconst (v := (0 : Int32)) hx hb dX0_chanceOfTens_8 (by decide) ?_
  refine lv_istore (lv' := [(6, .int (0 : Int32)), (0, .ref (a 0)), (1, .ref (b 0)), (2, .int p2), (3, .int p3), (4, .int p4), (5, .int p5)]) hx hb dX0_chanceOfTens_9 hl (by decide) rfl (fun ls hl => ?_)
  exact Lo11 1000 (0 : Int32) L5 _ _ _ hd (lv_sub hl [1, 2, 3, 4, 5, 6, 0] rfl) hP hS
-- LeastNeed$Reader.put(C)V
set_option maxRecDepth 20000 in
def nX2_put (S : Nat → Nat → Int32) (p1 : Int32) : Option ((Nat → Nat → Int32)) := if (S 0 2) < (150 : Int32) then if (S 0 2) < 0 ∨ 150 ≤ (S 0 2).toNatClampNeg then none else some (k_w (k_w S 1 ((S 0 2).toNatClampNeg) (vp_nar .char p1)) 0 2 (((k_w S 1 ((S 0 2).toNatClampNeg) (vp_nar .char p1)) 0 2) + (1 : Int32))) else some S
set_option maxHeartbeats 4000000 in
set_option maxRecDepth 100000 in
theorem mX2_put (l : Launch) (D : va_G) (cs : Nat → ClassId) (a : Nat → Nat) (S : Nat → Nat → Int32) (p1 : Int32) (S9 : (Nat → Nat → Int32)) (hd : nX2_put S p1 = some S9) : ∀ sz : Nat, Met l yX2_put wsX2_put ({ frames := 0, cells := 0, slots := 0, locals := 0 }) (k_Pc D cs [.ref (a 0), .int p1] (wX2 cs a S) sz) (k_Qv D (wX2 cs a S) (wX2 cs a S9) sz) 0 0 (va_A (wX2 cs a S) sz) := by
  intro sz
  refine Met.ofW (cc := cX2_put) (maxL := 2) (ret := none) (by decide) rfl ?_
  intro p e s m args below meth c s₁ B hml hv
  obtain ⟨rfl, hsz, hP, hK, hD0, hNn⟩ := hv
  have hx := B.exec
  have hb := B.bytes
  have hr := B.returns
  have hts := atoms_spec (ws := wsX2_put) B.pre
  have hown : s.vm.findClass RX2 = some m.cls := findClass_of_methodNamed B.named
  have hlocks := B.notSynchronized
  subst hsz
  obtain ⟨A, hAe⟩ : ∃ A : Nat → Prop, A = va_A (wX2 cs a S) s.heap.size := ⟨_, rfl⟩
  have hD : va_D A (wX2 cs a S) := by rw [hAe]; exact hD0.self
  have hA : ∀ q : Nat, s.heap.size ≤ q → A q := fun q h => by rw [hAe]; exact Or.inr h
  have hS : va_S A s.heap s.heap [] := va_S.rf
  have hDA : ∀ (S : Nat → Nat → Int32), va_D A (wX2 cs a S) := fun S => k_DA hD rfl
  have hl := lv_entry ([.ref (a 0), .int p1]) (n := 2) (Nat.le_of_ble_eq_true rfl)
  rw [lg_entry_eq]
  generalize (lg_sl ([.ref (a 0), .int p1]) ++ List.replicate (2 - (lg_sl ([.ref (a 0), .int p1])).length) Slot.unset).toArray = ls at hl ⊢
  have hl : lv_has ls 2 [(0, .ref (a 0)), (1, .int p1)] := hl
  obtain ⟨Q, hQ⟩ : ∃ Q, Q = MQ below (k_Qv D (wX2 cs a S) (wX2 cs a S9) s.heap.size) ([.ref (a 0), .int p1] : List Value).toArray s 0 0 (va_A (wX2 cs a S) s.heap.size) := ⟨_, rfl⟩
  rw [← hQ]
  unfold nX2_put at hd
  refine lv_aload_n hx hb dX2_put_0 rfl (lv_at hl 0 rfl) ?_
  refine va_get (D := D) (ci := 1) (v := .int (S 0 2)) (C := RX2) (T := TX2) (N := 6) hx hb hts (fun w h => List.mem_cons_of_mem _ (List.mem_append_right _ h)) hown hK hP 0 rfl rfl 2 (by decide) (hts (.fieldLink RX2 19 "LeastNeed$Reader" "length" "I") (List.mem_of_getElem? (i := 1) rfl)) (fun _ h9 => h9) rfl dX2_put_1 ?_
  refine lv_sipush (v := (150 : Int32)) hx hb dX2_put_4 (by decide) ?_
  refine lv_icmp_lt (tgt := 11) hx hb dX2_put_7 (by decide) (fun c7 => ?_) (fun c7 => ?_)
  · have hd := dn_t c7 hd
    refine lv_aload_n hx hb dX2_put_11 rfl (lv_at hl 0 rfl) ?_
    refine va_get (D := D) (ci := 1) (v := .ref (a 1)) (C := RX2) (T := TX2) (N := 6) hx hb hts (fun w h => List.mem_cons_of_mem _ (List.mem_append_right _ h)) hown hK hP 0 rfl rfl 0 (by decide) (hts (.fieldLink RX2 9 "LeastNeed$Reader" "text" "[C") (List.mem_of_getElem? (i := 2) rfl)) (fun _ h9 => h9) rfl dX2_put_12 ?_
    refine lv_aload_n hx hb dX2_put_15 rfl (lv_at hl 0 rfl) ?_
    refine va_get (D := D) (ci := 1) (v := .int (S 0 2)) (C := RX2) (T := TX2) (N := 6) hx hb hts (fun w h => List.mem_cons_of_mem _ (List.mem_append_right _ h)) hown hK hP 0 rfl rfl 2 (by decide) (hts (.fieldLink RX2 19 "LeastNeed$Reader" "length" "I") (List.mem_of_getElem? (i := 1) rfl)) (fun _ h9 => h9) rfl dX2_put_16 ?_
    refine lv_iload_n hx hb dX2_put_19 rfl (lv_at hl 1 rfl) ?_
    obtain ⟨hi20, hd⟩ := dn_i hd
    refine k_cast (D := D) (k := (S 0 2).toNatClampNeg) (by rfl) hx hb hK hP hD hS 1 0 rfl rfl hi20 dX2_put_20 (fun H locs hP hD hS => ?_)
    have hP : va_P D vwCl (wX2 cs a (k_w S 1 ((S 0 2).toNatClampNeg) (vp_nar .char p1))) _ := k_eq hP (wsX2_a1 cs a S ((S 0 2).toNatClampNeg) (vp_nar .char p1))
    have hD := hDA (k_w S 1 ((S 0 2).toNatClampNeg) (vp_nar .char p1))
    refine lv_aload_n hx hb dX2_put_21 rfl (lv_at hl 0 rfl) ?_
    refine lv_dup hx hb dX2_put_22 rfl ?_
    refine va_get (D := D) (ci := 1) (v := .int ((k_w S 1 ((S 0 2).toNatClampNeg) (vp_nar .char p1)) 0 2)) (C := RX2) (T := TX2) (N := 6) hx hb hts (fun w h => List.mem_cons_of_mem _ (List.mem_append_right _ h)) hown hK hP 0 rfl rfl 2 (by decide) (hts (.fieldLink RX2 19 "LeastNeed$Reader" "length" "I") (List.mem_of_getElem? (i := 1) rfl)) (fun _ h9 => h9) rfl dX2_put_23 ?_
    refine lv_iconst (v := (1 : Int32)) hx hb dX2_put_26 (by decide) ?_
    refine lv_iadd hx hb dX2_put_27 ?_
    refine va_put (D := D) (ci := 1) (v := .int (((k_w S 1 ((S 0 2).toNatClampNeg) (vp_nar .char p1)) 0 2) + (1 : Int32))) (ty := .int) (C := RX2) (T := TX2) (N := 6) hx hb hts (fun w h => List.mem_cons_of_mem _ (List.mem_append_right _ h)) tyX2 tyX2_ok nmX2 hown hK hP hD hS 0 rfl rfl 2 (by decide) (hts (.fieldLink RX2 19 "LeastNeed$Reader" "length" "I") (List.mem_of_getElem? (i := 1) rfl)) (fun _ h9 => h9) rfl (by decide +kernel) rfl rfl (Nat.le_of_ble_eq_true rfl) dX2_put_28 (fun H locs hP hD hS => ?_)
    have hP : va_P D vwCl (wX2 cs a (k_w (k_w S 1 ((S 0 2).toNatClampNeg) (vp_nar .char p1)) 0 2 (((k_w S 1 ((S 0 2).toNatClampNeg) (vp_nar .char p1)) 0 2) + (1 : Int32)))) _ := k_eq hP (wsX2_f0_2 cs a (k_w S 1 ((S 0 2).toNatClampNeg) (vp_nar .char p1)) (((k_w S 1 ((S 0 2).toNatClampNeg) (vp_nar .char p1)) 0 2) + (1 : Int32)))
    have hD := hDA (k_w (k_w S 1 ((S 0 2).toNatClampNeg) (vp_nar .char p1)) 0 2 (((k_w S 1 ((S 0 2).toNatClampNeg) (vp_nar .char p1)) 0 2) + (1 : Int32)))
    have e1 := dn_s1 hd
    exact k_vret hx hb hr hQ hAe (by rw [e1]) hP hS hlocks dX2_put_31
  · have hd := dn_f c7 hd
    have e1 := dn_s1 hd
    exact k_vret hx hb hr hQ hAe (by rw [e1]) hP hS hlocks dX2_put_10
-- LeastNeed$Reader.isLetter(C)Z
set_option maxRecDepth 20000 in
def nX2_isLetter (p0 : Int32) : Option (Int32) := if p0 < (97 : Int32) then some (0 : Int32) else if (122 : Int32) < p0 then some (0 : Int32) else some (1 : Int32)
set_option maxHeartbeats 4000000 in
set_option maxRecDepth 100000 in
theorem mX2_isLetter (l : Launch) (D : va_G) (cs : Nat → ClassId) (p0 : Int32) (r9 : Int32) (hd : nX2_isLetter p0 = some r9) : ∀ sz : Nat, Met l yX2_isLetter wsX2_isLetter ({ frames := 0, cells := 0, slots := 0, locals := 0 }) (k_Pc D cs [.int p0] ([] : va_W) sz) (k_Qi D r9 ([] : va_W) ([] : va_W) sz) 0 0 (va_A ([] : va_W) sz) := by
  intro sz
  refine Met.ofW (cc := cX2_isLetter) (maxL := 1) (ret := (some .boolean)) (by decide) rfl ?_
  intro p e s m args below meth c s₁ B hml hv
  obtain ⟨rfl, hsz, hP, hK, hD0, hNn⟩ := hv
  have hx := B.exec
  have hb := B.bytes
  have hr := B.returns
  have hts := atoms_spec (ws := wsX2_isLetter) B.pre
  have hown : s.vm.findClass RX2 = some m.cls := findClass_of_methodNamed B.named
  have hlocks := B.notSynchronized
  subst hsz
  obtain ⟨A, hAe⟩ : ∃ A : Nat → Prop, A = va_A ([] : va_W) s.heap.size := ⟨_, rfl⟩
  have hD : va_D A ([] : va_W) := by rw [hAe]; exact hD0.self
  have hA : ∀ q : Nat, s.heap.size ≤ q → A q := fun q h => by rw [hAe]; exact Or.inr h
  have hS : va_S A s.heap s.heap [] := va_S.rf
  have hl := lv_entry ([.int p0]) (n := 1) (Nat.le_of_ble_eq_true rfl)
  rw [lg_entry_eq]
  generalize (lg_sl ([.int p0]) ++ List.replicate (1 - (lg_sl ([.int p0])).length) Slot.unset).toArray = ls at hl ⊢
  have hl : lv_has ls 1 [(0, .int p0)] := hl
  obtain ⟨Q, hQ⟩ : ∃ Q, Q = MQ below (k_Qi D r9 ([] : va_W) ([] : va_W) s.heap.size) ([.int p0] : List Value).toArray s 0 0 (va_A ([] : va_W) s.heap.size) := ⟨_, rfl⟩
  rw [← hQ]
  unfold nX2_isLetter at hd
  refine lv_iload_n hx hb dX2_isLetter_0 rfl (lv_at hl 0 rfl) ?_
  refine lv_bipush (v := (97 : Int32)) hx hb dX2_isLetter_1 (by decide) ?_
  refine lv_icmp_lt (tgt := 16) hx hb dX2_isLetter_3 (by decide) (fun c3 => ?_) (fun c3 => ?_)
  · have hd := dn_t c3 hd
    refine lv_iconst (v := (0 : Int32)) hx hb dX2_isLetter_16 (by decide) ?_
    have e1 := dn_s1 hd
    exact k_zret hx hb hr rfl hQ hAe e1 rfl hP hS hlocks dX2_isLetter_17
  · have hd := dn_f c3 hd
    refine lv_iload_n hx hb dX2_isLetter_6 rfl (lv_at hl 0 rfl) ?_
    refine lv_bipush (v := (122 : Int32)) hx hb dX2_isLetter_7 (by decide) ?_
    refine lv_icmp_gt (tgt := 16) hx hb dX2_isLetter_9 (by decide) (fun c9 => ?_) (fun c9 => ?_)
    · have hd := dn_t c9 hd
      refine lv_iconst (v := (0 : Int32)) hx hb dX2_isLetter_16 (by decide) ?_
      have e1 := dn_s1 hd
      exact k_zret hx hb hr rfl hQ hAe e1 rfl hP hS hlocks dX2_isLetter_17
    · have hd := dn_f c9 hd
      refine lv_iconst (v := (1 : Int32)) hx hb dX2_isLetter_12 (by decide) ?_
      refine lv_goto (tgt := 17) hx hb dX2_isLetter_13 (by decide) ?_
      have e1 := dn_s1 hd
      exact k_zret hx hb hr rfl hQ hAe e1 rfl hP hS hlocks dX2_isLetter_17
-- LeastNeed$Reader.isFigure(C)Z
set_option maxRecDepth 20000 in
def nX2_isFigure (p0 : Int32) : Option (Int32) := if p0 < (48 : Int32) then some (0 : Int32) else if (57 : Int32) < p0 then some (0 : Int32) else some (1 : Int32)
set_option maxHeartbeats 4000000 in
set_option maxRecDepth 100000 in
theorem mX2_isFigure (l : Launch) (D : va_G) (cs : Nat → ClassId) (p0 : Int32) (r9 : Int32) (hd : nX2_isFigure p0 = some r9) : ∀ sz : Nat, Met l yX2_isFigure wsX2_isFigure ({ frames := 0, cells := 0, slots := 0, locals := 0 }) (k_Pc D cs [.int p0] ([] : va_W) sz) (k_Qi D r9 ([] : va_W) ([] : va_W) sz) 0 0 (va_A ([] : va_W) sz) := by
  intro sz
  refine Met.ofW (cc := cX2_isFigure) (maxL := 1) (ret := (some .boolean)) (by decide) rfl ?_
  intro p e s m args below meth c s₁ B hml hv
  obtain ⟨rfl, hsz, hP, hK, hD0, hNn⟩ := hv
  have hx := B.exec
  have hb := B.bytes
  have hr := B.returns
  have hts := atoms_spec (ws := wsX2_isFigure) B.pre
  have hown : s.vm.findClass RX2 = some m.cls := findClass_of_methodNamed B.named
  have hlocks := B.notSynchronized
  subst hsz
  obtain ⟨A, hAe⟩ : ∃ A : Nat → Prop, A = va_A ([] : va_W) s.heap.size := ⟨_, rfl⟩
  have hD : va_D A ([] : va_W) := by rw [hAe]; exact hD0.self
  have hA : ∀ q : Nat, s.heap.size ≤ q → A q := fun q h => by rw [hAe]; exact Or.inr h
  have hS : va_S A s.heap s.heap [] := va_S.rf
  have hl := lv_entry ([.int p0]) (n := 1) (Nat.le_of_ble_eq_true rfl)
  rw [lg_entry_eq]
  generalize (lg_sl ([.int p0]) ++ List.replicate (1 - (lg_sl ([.int p0])).length) Slot.unset).toArray = ls at hl ⊢
  have hl : lv_has ls 1 [(0, .int p0)] := hl
  obtain ⟨Q, hQ⟩ : ∃ Q, Q = MQ below (k_Qi D r9 ([] : va_W) ([] : va_W) s.heap.size) ([.int p0] : List Value).toArray s 0 0 (va_A ([] : va_W) s.heap.size) := ⟨_, rfl⟩
  rw [← hQ]
  unfold nX2_isFigure at hd
  refine lv_iload_n hx hb dX2_isFigure_0 rfl (lv_at hl 0 rfl) ?_
  refine lv_bipush (v := (48 : Int32)) hx hb dX2_isFigure_1 (by decide) ?_
  refine lv_icmp_lt (tgt := 16) hx hb dX2_isFigure_3 (by decide) (fun c3 => ?_) (fun c3 => ?_)
  · have hd := dn_t c3 hd
    refine lv_iconst (v := (0 : Int32)) hx hb dX2_isFigure_16 (by decide) ?_
    have e1 := dn_s1 hd
    exact k_zret hx hb hr rfl hQ hAe e1 rfl hP hS hlocks dX2_isFigure_17
  · have hd := dn_f c3 hd
    refine lv_iload_n hx hb dX2_isFigure_6 rfl (lv_at hl 0 rfl) ?_
    refine lv_bipush (v := (57 : Int32)) hx hb dX2_isFigure_7 (by decide) ?_
    refine lv_icmp_gt (tgt := 16) hx hb dX2_isFigure_9 (by decide) (fun c9 => ?_) (fun c9 => ?_)
    · have hd := dn_t c9 hd
      refine lv_iconst (v := (0 : Int32)) hx hb dX2_isFigure_16 (by decide) ?_
      have e1 := dn_s1 hd
      exact k_zret hx hb hr rfl hQ hAe e1 rfl hP hS hlocks dX2_isFigure_17
    · have hd := dn_f c9 hd
      refine lv_iconst (v := (1 : Int32)) hx hb dX2_isFigure_12 (by decide) ?_
      refine lv_goto (tgt := 17) hx hb dX2_isFigure_13 (by decide) ?_
      have e1 := dn_s1 hd
      exact k_zret hx hb hr rfl hQ hAe e1 rfl hP hS hlocks dX2_isFigure_17
-- LeastNeed$Reader.toNextToken()V
set_option maxRecDepth 20000 in
def nX2_toNextToken_j223 (w0_223 : Int32) (S_223 : Nat → Nat → Int32) : Option ((Nat → Nat → Int32)) := some (k_w (k_w S_223 0 3 w0_223) 0 5 (((k_w S_223 0 3 w0_223) 0 5) + (1 : Int32)))
set_option maxRecDepth 20000 in
def nX2_toNextToken_j197 (w0_197 : Int32) (S_197 : Nat → Nat → Int32) : Option ((Nat → Nat → Int32)) := some (k_w S_197 0 3 w0_197)
set_option maxRecDepth 20000 in
def nX2_toNextToken_j178 (S_178 : Nat → Nat → Int32) : Option ((Nat → Nat → Int32)) := if ((S_178 0 5) - (S_178 0 4)) ≤ (2 : Int32) then nX2_toNextToken_j197 (1 : Int32) S_178 else nX2_toNextToken_j197 (4 : Int32) S_178
set_option maxRecDepth 20000 in
def nX2_toNextToken_l139 (S_139 : Nat → Nat → Int32) : Option (((Nat → Nat → Int32)) ⊕ ((Nat → Nat → Int32))) := if (S_139 0 2) ≤ (S_139 0 5) then k_up (nX2_toNextToken_j178 S_139) else if (S_139 0 5) < 0 ∨ 150 ≤ (S_139 0 5).toNatClampNeg then none else k_b1 (nX2_isFigure (S_139 1 (S_139 0 5).toNatClampNeg)) (fun r159 => if r159 = 0 then k_up (nX2_toNextToken_j178 S_139) else some (.inl (k_w S_139 0 5 ((S_139 0 5) + (1 : Int32)))))
set_option maxRecDepth 20000 in
def nX2_toNextToken_l85 (S_85 : Nat → Nat → Int32) : Option (((Nat → Nat → Int32)) ⊕ ((Nat → Nat → Int32))) := if (S_85 0 2) ≤ (S_85 0 5) then k_up (some S_85) else if (S_85 0 5) < 0 ∨ 150 ≤ (S_85 0 5).toNatClampNeg then none else k_b1 (nX2_isLetter (S_85 1 (S_85 0 5).toNatClampNeg)) (fun r105 => if r105 = 0 then k_up (some S_85) else some (.inl (k_w S_85 0 5 ((S_85 0 5) + (1 : Int32)))))
set_option maxRecDepth 20000 in
def nX2_toNextToken_j38 (S_38 : Nat → Nat → Int32) : Option ((Nat → Nat → Int32)) := if ((k_w S_38 0 4 (S_38 0 5)) 0 4) < ((k_w S_38 0 4 (S_38 0 5)) 0 2) then if ((k_w S_38 0 4 (S_38 0 5)) 0 4) < 0 ∨ 150 ≤ ((k_w S_38 0 4 (S_38 0 5)) 0 4).toNatClampNeg then none else k_b1 (nX2_isLetter ((k_w S_38 0 4 (S_38 0 5)) 1 ((k_w S_38 0 4 (S_38 0 5)) 0 4).toNatClampNeg)) (fun r74 => if r74 = 0 then if ((k_w S_38 0 4 (S_38 0 5)) 0 4) < 0 ∨ 150 ≤ ((k_w S_38 0 4 (S_38 0 5)) 0 4).toNatClampNeg then none else k_b1 (nX2_isFigure ((k_w S_38 0 4 (S_38 0 5)) 1 ((k_w S_38 0 4 (S_38 0 5)) 0 4).toNatClampNeg)) (fun r133 => if r133 = 0 then if ((k_w S_38 0 4 (S_38 0 5)) 0 4) < 0 ∨ 150 ≤ ((k_w S_38 0 4 (S_38 0 5)) 0 4).toNatClampNeg then none else if ((k_w S_38 0 4 (S_38 0 5)) 1 ((k_w S_38 0 4 (S_38 0 5)) 0 4).toNatClampNeg) = (59 : Int32) then nX2_toNextToken_j223 (2 : Int32) (k_w S_38 0 4 (S_38 0 5)) else nX2_toNextToken_j223 (4 : Int32) (k_w S_38 0 4 (S_38 0 5)) else k_it (fun st => nX2_toNextToken_l139 st) 1000 (k_w S_38 0 4 (S_38 0 5))) else k_it (fun st => nX2_toNextToken_l85 st) 1000 (k_w (k_w S_38 0 4 (S_38 0 5)) 0 3 (0 : Int32))) else some (k_w (k_w S_38 0 4 (S_38 0 5)) 0 3 (3 : Int32))
set_option maxRecDepth 20000 in
def nX2_toNextToken_l0 (S_0 : Nat → Nat → Int32) : Option (((Nat → Nat → Int32)) ⊕ ((Nat → Nat → Int32))) := if (S_0 0 2) ≤ (S_0 0 5) then k_up (nX2_toNextToken_j38 S_0) else if (S_0 0 5) < 0 ∨ 150 ≤ (S_0 0 5).toNatClampNeg then none else if (S_0 1 (S_0 0 5).toNatClampNeg) = (32 : Int32) then some (.inl (k_w S_0 0 5 ((S_0 0 5) + (1 : Int32)))) else k_up (nX2_toNextToken_j38 S_0)
set_option maxRecDepth 20000 in
def nX2_toNextToken (S : Nat → Nat → Int32) : Option ((Nat → Nat → Int32)) := k_it (fun st => nX2_toNextToken_l0 st) 1000 S
set_option maxHeartbeats 4000000 in
set_option maxRecDepth 100000 in
theorem mX2_toNextToken (l : Launch) (D : va_G) (cs : Nat → ClassId) (a : Nat → Nat) (S : Nat → Nat → Int32) (S9 : (Nat → Nat → Int32)) (hd : nX2_toNextToken S = some S9) : ∀ sz : Nat, Met l yX2_toNextToken wsX2_toNextToken ({ frames := 1, cells := 0, slots := 0, locals := 20 }) (k_Pc D cs [.ref (a 0)] (wX2 cs a S) sz) (k_Qv D (wX2 cs a S) (wX2 cs a S9) sz) 0 0 (va_A (wX2 cs a S) sz) := by
  intro sz
  refine Met.ofW (cc := cX2_toNextToken) (maxL := 1) (ret := none) (by decide) rfl ?_
  intro p e s m args below meth c s₁ B hml hv
  obtain ⟨rfl, hsz, hP, hK, hD0, hNn⟩ := hv
  have hx := B.exec
  have hb := B.bytes
  have hr := B.returns
  have hts := atoms_spec (ws := wsX2_toNextToken) B.pre
  have hown : s.vm.findClass RX2 = some m.cls := findClass_of_methodNamed B.named
  have hlocks := B.notSynchronized
  subst hsz
  obtain ⟨A, hAe⟩ : ∃ A : Nat → Prop, A = va_A (wX2 cs a S) s.heap.size := ⟨_, rfl⟩
  have hD : va_D A (wX2 cs a S) := by rw [hAe]; exact hD0.self
  have hA : ∀ q : Nat, s.heap.size ≤ q → A q := fun q h => by rw [hAe]; exact Or.inr h
  have hS : va_S A s.heap s.heap [] := va_S.rf
  have hDA : ∀ (S : Nat → Nat → Int32), va_D A (wX2 cs a S) := fun S => k_DA hD rfl
  have hl := lv_entry ([.ref (a 0)]) (n := 1) (Nat.le_of_ble_eq_true rfl)
  rw [lg_entry_eq]
  generalize (lg_sl ([.ref (a 0)]) ++ List.replicate (1 - (lg_sl ([.ref (a 0)])).length) Slot.unset).toArray = ls at hl ⊢
  have hl : lv_has ls 1 [(0, .ref (a 0))] := hl
  obtain ⟨Q, hQ⟩ : ∃ Q, Q = MQ below (k_Qv D (wX2 cs a S) (wX2 cs a S9) s.heap.size) ([.ref (a 0)] : List Value).toArray s 0 0 (va_A (wX2 cs a S) s.heap.size) := ⟨_, rfl⟩
  rw [← hQ]
  have Jo223 : ∀ (w0_223 : Int32) (S_223 : Nat → Nat → Int32) (H : Heap) (locs : List Loc) (ls : Array Slot), nX2_toNextToken_j223 w0_223 S_223 = some S9 → lv_has ls 1 [(0, .ref (a 0))] → va_P D vwCl (wX2 cs a S_223) H → va_S A s.heap H locs → W p l e (headSpec wsX2_toNextToken ({ frames := 1, cells := 0, slots := 0, locals := 20 })).room s m ([.ref (a 0)] : List Value).toArray below meth c H locs 0 0 Q (F0 m 223 ls [.int w0_223, .ref (a 0)]) := by
    intro w0_223 S_223 H locs ls hd hl hP hS
    have hD := hDA S_223
    unfold nX2_toNextToken_j223 at hd
    refine va_put (D := D) (ci := 1) (v := .int w0_223) (ty := .int) (C := RX2) (T := TX2) (N := 6) hx hb hts (fun w h => List.mem_cons_of_mem _ (List.mem_append_right _ h)) tyX2 tyX2_ok nmX2 hown hK hP hD hS 0 rfl rfl 3 (by decide) (hts (.fieldLink RX2 47 "LeastNeed$Reader" "token" "I") (List.mem_of_getElem? (i := 5) rfl)) (fun _ h9 => h9) rfl (by decide +kernel) rfl rfl (Nat.le_of_ble_eq_true rfl) dX2_toNextToken_223 (fun H locs hP hD hS => ?_)
    have hP : va_P D vwCl (wX2 cs a (k_w S_223 0 3 w0_223)) _ := k_eq hP (wsX2_f0_3 cs a S_223 w0_223)
    have hD := hDA (k_w S_223 0 3 w0_223)
    refine lv_aload_n hx hb dX2_toNextToken_226 rfl (lv_at hl 0 rfl) ?_
    refine lv_dup hx hb dX2_toNextToken_227 rfl ?_
    refine va_get (D := D) (ci := 1) (v := .int ((k_w S_223 0 3 w0_223) 0 5)) (C := RX2) (T := TX2) (N := 6) hx hb hts (fun w h => List.mem_cons_of_mem _ (List.mem_append_right _ h)) hown hK hP 0 rfl rfl 5 (by decide) (hts (.fieldLink RX2 28 "LeastNeed$Reader" "next" "I") (List.mem_of_getElem? (i := 1) rfl)) (fun _ h9 => h9) rfl dX2_toNextToken_228 ?_
    refine lv_iconst (v := (1 : Int32)) hx hb dX2_toNextToken_231 (by decide) ?_
    refine lv_iadd hx hb dX2_toNextToken_232 ?_
    refine va_put (D := D) (ci := 1) (v := .int (((k_w S_223 0 3 w0_223) 0 5) + (1 : Int32))) (ty := .int) (C := RX2) (T := TX2) (N := 6) hx hb hts (fun w h => List.mem_cons_of_mem _ (List.mem_append_right _ h)) tyX2 tyX2_ok nmX2 hown hK hP hD hS 0 rfl rfl 5 (by decide) (hts (.fieldLink RX2 28 "LeastNeed$Reader" "next" "I") (List.mem_of_getElem? (i := 1) rfl)) (fun _ h9 => h9) rfl (by decide +kernel) rfl rfl (Nat.le_of_ble_eq_true rfl) dX2_toNextToken_233 (fun H locs hP hD hS => ?_)
    have hP : va_P D vwCl (wX2 cs a (k_w (k_w S_223 0 3 w0_223) 0 5 (((k_w S_223 0 3 w0_223) 0 5) + (1 : Int32)))) _ := k_eq hP (wsX2_f0_5 cs a (k_w S_223 0 3 w0_223) (((k_w S_223 0 3 w0_223) 0 5) + (1 : Int32)))
    have hD := hDA (k_w (k_w S_223 0 3 w0_223) 0 5 (((k_w S_223 0 3 w0_223) 0 5) + (1 : Int32)))
    have e1 := dn_s1 hd
    exact k_vret hx hb hr hQ hAe (by rw [e1]) hP hS hlocks dX2_toNextToken_236
  have Jo197 : ∀ (w0_197 : Int32) (S_197 : Nat → Nat → Int32) (H : Heap) (locs : List Loc) (ls : Array Slot), nX2_toNextToken_j197 w0_197 S_197 = some S9 → lv_has ls 1 [] → va_P D vwCl (wX2 cs a S_197) H → va_S A s.heap H locs → W p l e (headSpec wsX2_toNextToken ({ frames := 1, cells := 0, slots := 0, locals := 20 })).room s m ([.ref (a 0)] : List Value).toArray below meth c H locs 0 0 Q (F0 m 197 ls [.int w0_197, .ref (a 0)]) := by
    intro w0_197 S_197 H locs ls hd hl hP hS
    have hD := hDA S_197
    unfold nX2_toNextToken_j197 at hd
    refine va_put (D := D) (ci := 1) (v := .int w0_197) (ty := .int) (C := RX2) (T := TX2) (N := 6) hx hb hts (fun w h => List.mem_cons_of_mem _ (List.mem_append_right _ h)) tyX2 tyX2_ok nmX2 hown hK hP hD hS 0 rfl rfl 3 (by decide) (hts (.fieldLink RX2 47 "LeastNeed$Reader" "token" "I") (List.mem_of_getElem? (i := 5) rfl)) (fun _ h9 => h9) rfl (by decide +kernel) rfl rfl (Nat.le_of_ble_eq_true rfl) dX2_toNextToken_197 (fun H locs hP hD hS => ?_)
    have hP : va_P D vwCl (wX2 cs a (k_w S_197 0 3 w0_197)) _ := k_eq hP (wsX2_f0_3 cs a S_197 w0_197)
    have hD := hDA (k_w S_197 0 3 w0_197)
    refine lv_goto (tgt := 236) hx hb dX2_toNextToken_200 (by decide) ?_
    have e1 := dn_s1 hd
    exact k_vret hx hb hr hQ hAe (by rw [e1]) hP hS hlocks dX2_toNextToken_236
  have Jo178 : ∀ (S_178 : Nat → Nat → Int32) (H : Heap) (locs : List Loc) (ls : Array Slot), nX2_toNextToken_j178 S_178 = some S9 → lv_has ls 1 [(0, .ref (a 0))] → va_P D vwCl (wX2 cs a S_178) H → va_S A s.heap H locs → W p l e (headSpec wsX2_toNextToken ({ frames := 1, cells := 0, slots := 0, locals := 20 })).room s m ([.ref (a 0)] : List Value).toArray below meth c H locs 0 0 Q (F0 m 178 ls []) := by
    intro S_178 H locs ls hd hl hP hS
    have hD := hDA S_178
    unfold nX2_toNextToken_j178 at hd
    refine lv_aload_n hx hb dX2_toNextToken_178 rfl (lv_at hl 0 rfl) ?_
    refine lv_aload_n hx hb dX2_toNextToken_179 rfl (lv_at hl 0 rfl) ?_
    refine va_get (D := D) (ci := 1) (v := .int (S_178 0 5)) (C := RX2) (T := TX2) (N := 6) hx hb hts (fun w h => List.mem_cons_of_mem _ (List.mem_append_right _ h)) hown hK hP 0 rfl rfl 5 (by decide) (hts (.fieldLink RX2 28 "LeastNeed$Reader" "next" "I") (List.mem_of_getElem? (i := 1) rfl)) (fun _ h9 => h9) rfl dX2_toNextToken_180 ?_
    refine lv_aload_n hx hb dX2_toNextToken_183 rfl (lv_at hl 0 rfl) ?_
    refine va_get (D := D) (ci := 1) (v := .int (S_178 0 4)) (C := RX2) (T := TX2) (N := 6) hx hb hts (fun w h => List.mem_cons_of_mem _ (List.mem_append_right _ h)) hown hK hP 0 rfl rfl 4 (by decide) (hts (.fieldLink RX2 44 "LeastNeed$Reader" "start" "I") (List.mem_of_getElem? (i := 4) rfl)) (fun _ h9 => h9) rfl dX2_toNextToken_184 ?_
    refine lv_isub hx hb dX2_toNextToken_187 ?_
    refine lv_iconst (v := (2 : Int32)) hx hb dX2_toNextToken_188 (by decide) ?_
    refine lv_icmp_le (tgt := 196) hx hb dX2_toNextToken_189 (by decide) (fun c189 => ?_) (fun c189 => ?_)
    · have hd := dn_t c189 hd
      refine lv_iconst (v := (1 : Int32)) hx hb dX2_toNextToken_196 (by decide) ?_
      exact Jo197 (1 : Int32) S_178 _ _ _ hd (lv_sub hl [] rfl) hP hS
    · have hd := dn_f c189 hd
      refine lv_iconst (v := (4 : Int32)) hx hb dX2_toNextToken_192 (by decide) ?_
      refine lv_goto (tgt := 197) hx hb dX2_toNextToken_193 (by decide) ?_
      exact Jo197 (4 : Int32) S_178 _ _ _ hd (lv_sub hl [] rfl) hP hS
  have Lo139 : ∀ (n1 : Nat) (S_139 : Nat → Nat → Int32) (H : Heap) (locs : List Loc) (ls : Array Slot), k_it (fun st => nX2_toNextToken_l139 st) n1 S_139 = some S9 → lv_has ls 1 [(0, .ref (a 0))] → va_P D vwCl (wX2 cs a S_139) H → va_S A s.heap H locs → W p l e (headSpec wsX2_toNextToken ({ frames := 1, cells := 0, slots := 0, locals := 20 })).room s m ([.ref (a 0)] : List Value).toArray below meth c H locs 0 0 Q (F0 m 139 ls []) := by
    intro n1
    induction n1 with
    | zero => intro S_139 H locs ls hd; exact dn_it0 hd
    | succ n1 ih1 =>
      intro S_139 H locs ls hd hl hP hS
      have hD := hDA S_139
      obtain ⟨y1, hd, hy1⟩ := dn_it hd
      have hd : nX2_toNextToken_l139 S_139 = some y1 := hd
      unfold nX2_toNextToken_l139 at hd
      refine lv_aload_n hx hb dX2_toNextToken_139 rfl (lv_at hl 0 rfl) ?_
      refine va_get (D := D) (ci := 1) (v := .int (S_139 0 5)) (C := RX2) (T := TX2) (N := 6) hx hb hts (fun w h => List.mem_cons_of_mem _ (List.mem_append_right _ h)) hown hK hP 0 rfl rfl 5 (by decide) (hts (.fieldLink RX2 28 "LeastNeed$Reader" "next" "I") (List.mem_of_getElem? (i := 1) rfl)) (fun _ h9 => h9) rfl dX2_toNextToken_140 ?_
      refine lv_aload_n hx hb dX2_toNextToken_143 rfl (lv_at hl 0 rfl) ?_
      refine va_get (D := D) (ci := 1) (v := .int (S_139 0 2)) (C := RX2) (T := TX2) (N := 6) hx hb hts (fun w h => List.mem_cons_of_mem _ (List.mem_append_right _ h)) hown hK hP 0 rfl rfl 2 (by decide) (hts (.fieldLink RX2 19 "LeastNeed$Reader" "length" "I") (List.mem_of_getElem? (i := 2) rfl)) (fun _ h9 => h9) rfl dX2_toNextToken_144 ?_
      refine lv_icmp_ge (tgt := 178) hx hb dX2_toNextToken_147 (by decide) (fun c147 => ?_) (fun c147 => ?_)
      · have hd := dn_t c147 hd
        have hd := dn_up hd hy1
        exact Jo178 S_139 _ _ _ hd (lv_sub hl [0] rfl) hP hS
      · have hd := dn_f c147 hd
        refine lv_aload_n hx hb dX2_toNextToken_150 rfl (lv_at hl 0 rfl) ?_
        refine va_get (D := D) (ci := 1) (v := .ref (a 1)) (C := RX2) (T := TX2) (N := 6) hx hb hts (fun w h => List.mem_cons_of_mem _ (List.mem_append_right _ h)) hown hK hP 0 rfl rfl 0 (by decide) (hts (.fieldLink RX2 9 "LeastNeed$Reader" "text" "[C") (List.mem_of_getElem? (i := 3) rfl)) (fun _ h9 => h9) rfl dX2_toNextToken_151 ?_
        refine lv_aload_n hx hb dX2_toNextToken_154 rfl (lv_at hl 0 rfl) ?_
        refine va_get (D := D) (ci := 1) (v := .int (S_139 0 5)) (C := RX2) (T := TX2) (N := 6) hx hb hts (fun w h => List.mem_cons_of_mem _ (List.mem_append_right _ h)) hown hK hP 0 rfl rfl 5 (by decide) (hts (.fieldLink RX2 28 "LeastNeed$Reader" "next" "I") (List.mem_of_getElem? (i := 1) rfl)) (fun _ h9 => h9) rfl dX2_toNextToken_155 ?_
        obtain ⟨hi158, hd⟩ := dn_i hd
        refine k_cald (D := D) (k := (S_139 0 5).toNatClampNeg) (by rfl) hx hb hK hP 1 0 rfl rfl hi158 dX2_toNextToken_158 ?_
        obtain ⟨r159, hq159, hd⟩ := dn_b1 hd
        have hPc := k_P0 hP
        have hDc : va_D A ([] : va_W) := k_D0
        have hF := k_self hDc hS hA
        refine k_run_i (va_runS (As := [.int (S_139 1 (S_139 0 5).toNatClampNeg)]) (rest := []) ⟨hx, hb, hml, hown, hts⟩ (mX2_isFigure l D cs  (S_139 1 (S_139 0 5).toNatClampNeg) r159 hq159 _) (va_cwS 1 hts gX2_toNextToken_X2_isFigure rfl rfl rfl (by decide +kernel) ⟨Nat.le_of_ble_eq_true rfl, Nat.le_of_ble_eq_true rfl⟩) ⟨k_blind, k_pre hPc hK hNn hDc⟩ rfl rfl hl.1 rfl (lv_room (Nat.le_of_ble_eq_true rfl)) dX2_toNextToken_159 ⟨Nat.le_of_ble_eq_true rfl, Nat.le_of_ble_eq_true rfl⟩) hS hF (fun H locs hP1 hk hS => ?_)
        have hP : va_P D vwCl (wX2 cs a S_139) _ := k_keep hP hk
        refine lv_if_eq (tgt := 178) hx hb dX2_toNextToken_162 (by decide) (fun c162 => ?_) (fun c162 => ?_)
        · have hd := dn_t c162 hd
          have hd := dn_up hd hy1
          exact Jo178 S_139 _ _ _ hd (lv_sub hl [0] rfl) hP hS
        · have hd := dn_f c162 hd
          refine lv_aload_n hx hb dX2_toNextToken_165 rfl (lv_at hl 0 rfl) ?_
          refine lv_dup hx hb dX2_toNextToken_166 rfl ?_
          refine va_get (D := D) (ci := 1) (v := .int (S_139 0 5)) (C := RX2) (T := TX2) (N := 6) hx hb hts (fun w h => List.mem_cons_of_mem _ (List.mem_append_right _ h)) hown hK hP 0 rfl rfl 5 (by decide) (hts (.fieldLink RX2 28 "LeastNeed$Reader" "next" "I") (List.mem_of_getElem? (i := 1) rfl)) (fun _ h9 => h9) rfl dX2_toNextToken_167 ?_
          refine lv_iconst (v := (1 : Int32)) hx hb dX2_toNextToken_170 (by decide) ?_
          refine lv_iadd hx hb dX2_toNextToken_171 ?_
          refine va_put (D := D) (ci := 1) (v := .int ((S_139 0 5) + (1 : Int32))) (ty := .int) (C := RX2) (T := TX2) (N := 6) hx hb hts (fun w h => List.mem_cons_of_mem _ (List.mem_append_right _ h)) tyX2 tyX2_ok nmX2 hown hK hP hD hS 0 rfl rfl 5 (by decide) (hts (.fieldLink RX2 28 "LeastNeed$Reader" "next" "I") (List.mem_of_getElem? (i := 1) rfl)) (fun _ h9 => h9) rfl (by decide +kernel) rfl rfl (Nat.le_of_ble_eq_true rfl) dX2_toNextToken_172 (fun H locs hP hD hS => ?_)
          have hP : va_P D vwCl (wX2 cs a (k_w S_139 0 5 ((S_139 0 5) + (1 : Int32)))) _ := k_eq hP (wsX2_f0_5 cs a S_139 ((S_139 0 5) + (1 : Int32)))
          have hD := hDA (k_w S_139 0 5 ((S_139 0 5) + (1 : Int32)))
          refine lv_goto (tgt := 139) hx hb dX2_toNextToken_175 (by decide) ?_
          exact ih1 (k_w S_139 0 5 ((S_139 0 5) + (1 : Int32))) _ _ _ (dn_bk hd hy1) (lv_sub hl [0] rfl) hP hS
  have Lo85 : ∀ (n1 : Nat) (S_85 : Nat → Nat → Int32) (H : Heap) (locs : List Loc) (ls : Array Slot), k_it (fun st => nX2_toNextToken_l85 st) n1 S_85 = some S9 → lv_has ls 1 [(0, .ref (a 0))] → va_P D vwCl (wX2 cs a S_85) H → va_S A s.heap H locs → W p l e (headSpec wsX2_toNextToken ({ frames := 1, cells := 0, slots := 0, locals := 20 })).room s m ([.ref (a 0)] : List Value).toArray below meth c H locs 0 0 Q (F0 m 85 ls []) := by
    intro n1
    induction n1 with
    | zero => intro S_85 H locs ls hd; exact dn_it0 hd
    | succ n1 ih1 =>
      intro S_85 H locs ls hd hl hP hS
      have hD := hDA S_85
      obtain ⟨y1, hd, hy1⟩ := dn_it hd
      have hd : nX2_toNextToken_l85 S_85 = some y1 := hd
      unfold nX2_toNextToken_l85 at hd
      refine lv_aload_n hx hb dX2_toNextToken_85 rfl (lv_at hl 0 rfl) ?_
      refine va_get (D := D) (ci := 1) (v := .int (S_85 0 5)) (C := RX2) (T := TX2) (N := 6) hx hb hts (fun w h => List.mem_cons_of_mem _ (List.mem_append_right _ h)) hown hK hP 0 rfl rfl 5 (by decide) (hts (.fieldLink RX2 28 "LeastNeed$Reader" "next" "I") (List.mem_of_getElem? (i := 1) rfl)) (fun _ h9 => h9) rfl dX2_toNextToken_86 ?_
      refine lv_aload_n hx hb dX2_toNextToken_89 rfl (lv_at hl 0 rfl) ?_
      refine va_get (D := D) (ci := 1) (v := .int (S_85 0 2)) (C := RX2) (T := TX2) (N := 6) hx hb hts (fun w h => List.mem_cons_of_mem _ (List.mem_append_right _ h)) hown hK hP 0 rfl rfl 2 (by decide) (hts (.fieldLink RX2 19 "LeastNeed$Reader" "length" "I") (List.mem_of_getElem? (i := 2) rfl)) (fun _ h9 => h9) rfl dX2_toNextToken_90 ?_
      refine lv_icmp_ge (tgt := 236) hx hb dX2_toNextToken_93 (by decide) (fun c93 => ?_) (fun c93 => ?_)
      · have hd := dn_t c93 hd
        have hd := dn_up hd hy1
        have e1 := dn_s1 hd
        exact k_vret hx hb hr hQ hAe (by rw [e1]) hP hS hlocks dX2_toNextToken_236
      · have hd := dn_f c93 hd
        refine lv_aload_n hx hb dX2_toNextToken_96 rfl (lv_at hl 0 rfl) ?_
        refine va_get (D := D) (ci := 1) (v := .ref (a 1)) (C := RX2) (T := TX2) (N := 6) hx hb hts (fun w h => List.mem_cons_of_mem _ (List.mem_append_right _ h)) hown hK hP 0 rfl rfl 0 (by decide) (hts (.fieldLink RX2 9 "LeastNeed$Reader" "text" "[C") (List.mem_of_getElem? (i := 3) rfl)) (fun _ h9 => h9) rfl dX2_toNextToken_97 ?_
        refine lv_aload_n hx hb dX2_toNextToken_100 rfl (lv_at hl 0 rfl) ?_
        refine va_get (D := D) (ci := 1) (v := .int (S_85 0 5)) (C := RX2) (T := TX2) (N := 6) hx hb hts (fun w h => List.mem_cons_of_mem _ (List.mem_append_right _ h)) hown hK hP 0 rfl rfl 5 (by decide) (hts (.fieldLink RX2 28 "LeastNeed$Reader" "next" "I") (List.mem_of_getElem? (i := 1) rfl)) (fun _ h9 => h9) rfl dX2_toNextToken_101 ?_
        obtain ⟨hi104, hd⟩ := dn_i hd
        refine k_cald (D := D) (k := (S_85 0 5).toNatClampNeg) (by rfl) hx hb hK hP 1 0 rfl rfl hi104 dX2_toNextToken_104 ?_
        obtain ⟨r105, hq105, hd⟩ := dn_b1 hd
        have hPc := k_P0 hP
        have hDc : va_D A ([] : va_W) := k_D0
        have hF := k_self hDc hS hA
        refine k_run_i (va_runS (As := [.int (S_85 1 (S_85 0 5).toNatClampNeg)]) (rest := []) ⟨hx, hb, hml, hown, hts⟩ (mX2_isLetter l D cs  (S_85 1 (S_85 0 5).toNatClampNeg) r105 hq105 _) (va_cwS 1 hts gX2_toNextToken_X2_isLetter rfl rfl rfl (by decide +kernel) ⟨Nat.le_of_ble_eq_true rfl, Nat.le_of_ble_eq_true rfl⟩) ⟨k_blind, k_pre hPc hK hNn hDc⟩ rfl rfl hl.1 rfl (lv_room (Nat.le_of_ble_eq_true rfl)) dX2_toNextToken_105 ⟨Nat.le_of_ble_eq_true rfl, Nat.le_of_ble_eq_true rfl⟩) hS hF (fun H locs hP1 hk hS => ?_)
        have hP : va_P D vwCl (wX2 cs a S_85) _ := k_keep hP hk
        refine lv_if_eq (tgt := 236) hx hb dX2_toNextToken_108 (by decide) (fun c108 => ?_) (fun c108 => ?_)
        · have hd := dn_t c108 hd
          have hd := dn_up hd hy1
          have e1 := dn_s1 hd
          exact k_vret hx hb hr hQ hAe (by rw [e1]) hP hS hlocks dX2_toNextToken_236
        · have hd := dn_f c108 hd
          refine lv_aload_n hx hb dX2_toNextToken_111 rfl (lv_at hl 0 rfl) ?_
          refine lv_dup hx hb dX2_toNextToken_112 rfl ?_
          refine va_get (D := D) (ci := 1) (v := .int (S_85 0 5)) (C := RX2) (T := TX2) (N := 6) hx hb hts (fun w h => List.mem_cons_of_mem _ (List.mem_append_right _ h)) hown hK hP 0 rfl rfl 5 (by decide) (hts (.fieldLink RX2 28 "LeastNeed$Reader" "next" "I") (List.mem_of_getElem? (i := 1) rfl)) (fun _ h9 => h9) rfl dX2_toNextToken_113 ?_
          refine lv_iconst (v := (1 : Int32)) hx hb dX2_toNextToken_116 (by decide) ?_
          refine lv_iadd hx hb dX2_toNextToken_117 ?_
          refine va_put (D := D) (ci := 1) (v := .int ((S_85 0 5) + (1 : Int32))) (ty := .int) (C := RX2) (T := TX2) (N := 6) hx hb hts (fun w h => List.mem_cons_of_mem _ (List.mem_append_right _ h)) tyX2 tyX2_ok nmX2 hown hK hP hD hS 0 rfl rfl 5 (by decide) (hts (.fieldLink RX2 28 "LeastNeed$Reader" "next" "I") (List.mem_of_getElem? (i := 1) rfl)) (fun _ h9 => h9) rfl (by decide +kernel) rfl rfl (Nat.le_of_ble_eq_true rfl) dX2_toNextToken_118 (fun H locs hP hD hS => ?_)
          have hP : va_P D vwCl (wX2 cs a (k_w S_85 0 5 ((S_85 0 5) + (1 : Int32)))) _ := k_eq hP (wsX2_f0_5 cs a S_85 ((S_85 0 5) + (1 : Int32)))
          have hD := hDA (k_w S_85 0 5 ((S_85 0 5) + (1 : Int32)))
          refine lv_goto (tgt := 85) hx hb dX2_toNextToken_121 (by decide) ?_
          exact ih1 (k_w S_85 0 5 ((S_85 0 5) + (1 : Int32))) _ _ _ (dn_bk hd hy1) (lv_sub hl [0] rfl) hP hS
  have Jo38 : ∀ (S_38 : Nat → Nat → Int32) (H : Heap) (locs : List Loc) (ls : Array Slot), nX2_toNextToken_j38 S_38 = some S9 → lv_has ls 1 [(0, .ref (a 0))] → va_P D vwCl (wX2 cs a S_38) H → va_S A s.heap H locs → W p l e (headSpec wsX2_toNextToken ({ frames := 1, cells := 0, slots := 0, locals := 20 })).room s m ([.ref (a 0)] : List Value).toArray below meth c H locs 0 0 Q (F0 m 38 ls []) := by
    intro S_38 H locs ls hd hl hP hS
    have hD := hDA S_38
    unfold nX2_toNextToken_j38 at hd
    refine lv_aload_n hx hb dX2_toNextToken_38 rfl (lv_at hl 0 rfl) ?_
    refine lv_aload_n hx hb dX2_toNextToken_39 rfl (lv_at hl 0 rfl) ?_
    refine va_get (D := D) (ci := 1) (v := .int (S_38 0 5)) (C := RX2) (T := TX2) (N := 6) hx hb hts (fun w h => List.mem_cons_of_mem _ (List.mem_append_right _ h)) hown hK hP 0 rfl rfl 5 (by decide) (hts (.fieldLink RX2 28 "LeastNeed$Reader" "next" "I") (List.mem_of_getElem? (i := 1) rfl)) (fun _ h9 => h9) rfl dX2_toNextToken_40 ?_
    refine va_put (D := D) (ci := 1) (v := .int (S_38 0 5)) (ty := .int) (C := RX2) (T := TX2) (N := 6) hx hb hts (fun w h => List.mem_cons_of_mem _ (List.mem_append_right _ h)) tyX2 tyX2_ok nmX2 hown hK hP hD hS 0 rfl rfl 4 (by decide) (hts (.fieldLink RX2 44 "LeastNeed$Reader" "start" "I") (List.mem_of_getElem? (i := 4) rfl)) (fun _ h9 => h9) rfl (by decide +kernel) rfl rfl (Nat.le_of_ble_eq_true rfl) dX2_toNextToken_43 (fun H locs hP hD hS => ?_)
    have hP : va_P D vwCl (wX2 cs a (k_w S_38 0 4 (S_38 0 5))) _ := k_eq hP (wsX2_f0_4 cs a S_38 (S_38 0 5))
    have hD := hDA (k_w S_38 0 4 (S_38 0 5))
    refine lv_aload_n hx hb dX2_toNextToken_46 rfl (lv_at hl 0 rfl) ?_
    refine va_get (D := D) (ci := 1) (v := .int ((k_w S_38 0 4 (S_38 0 5)) 0 4)) (C := RX2) (T := TX2) (N := 6) hx hb hts (fun w h => List.mem_cons_of_mem _ (List.mem_append_right _ h)) hown hK hP 0 rfl rfl 4 (by decide) (hts (.fieldLink RX2 44 "LeastNeed$Reader" "start" "I") (List.mem_of_getElem? (i := 4) rfl)) (fun _ h9 => h9) rfl dX2_toNextToken_47 ?_
    refine lv_aload_n hx hb dX2_toNextToken_50 rfl (lv_at hl 0 rfl) ?_
    refine va_get (D := D) (ci := 1) (v := .int ((k_w S_38 0 4 (S_38 0 5)) 0 2)) (C := RX2) (T := TX2) (N := 6) hx hb hts (fun w h => List.mem_cons_of_mem _ (List.mem_append_right _ h)) hown hK hP 0 rfl rfl 2 (by decide) (hts (.fieldLink RX2 19 "LeastNeed$Reader" "length" "I") (List.mem_of_getElem? (i := 2) rfl)) (fun _ h9 => h9) rfl dX2_toNextToken_51 ?_
    refine lv_icmp_lt (tgt := 65) hx hb dX2_toNextToken_54 (by decide) (fun c54 => ?_) (fun c54 => ?_)
    · have hd := dn_t c54 hd
      refine lv_aload_n hx hb dX2_toNextToken_65 rfl (lv_at hl 0 rfl) ?_
      refine va_get (D := D) (ci := 1) (v := .ref (a 1)) (C := RX2) (T := TX2) (N := 6) hx hb hts (fun w h => List.mem_cons_of_mem _ (List.mem_append_right _ h)) hown hK hP 0 rfl rfl 0 (by decide) (hts (.fieldLink RX2 9 "LeastNeed$Reader" "text" "[C") (List.mem_of_getElem? (i := 3) rfl)) (fun _ h9 => h9) rfl dX2_toNextToken_66 ?_
      refine lv_aload_n hx hb dX2_toNextToken_69 rfl (lv_at hl 0 rfl) ?_
      refine va_get (D := D) (ci := 1) (v := .int ((k_w S_38 0 4 (S_38 0 5)) 0 4)) (C := RX2) (T := TX2) (N := 6) hx hb hts (fun w h => List.mem_cons_of_mem _ (List.mem_append_right _ h)) hown hK hP 0 rfl rfl 4 (by decide) (hts (.fieldLink RX2 44 "LeastNeed$Reader" "start" "I") (List.mem_of_getElem? (i := 4) rfl)) (fun _ h9 => h9) rfl dX2_toNextToken_70 ?_
      obtain ⟨hi73, hd⟩ := dn_i hd
      refine k_cald (D := D) (k := ((k_w S_38 0 4 (S_38 0 5)) 0 4).toNatClampNeg) (by rfl) hx hb hK hP 1 0 rfl rfl hi73 dX2_toNextToken_73 ?_
      obtain ⟨r74, hq74, hd⟩ := dn_b1 hd
      have hPc := k_P0 hP
      have hDc : va_D A ([] : va_W) := k_D0
      have hF := k_self hDc hS hA
      refine k_run_i (va_runS (As := [.int ((k_w S_38 0 4 (S_38 0 5)) 1 ((k_w S_38 0 4 (S_38 0 5)) 0 4).toNatClampNeg)]) (rest := []) ⟨hx, hb, hml, hown, hts⟩ (mX2_isLetter l D cs  ((k_w S_38 0 4 (S_38 0 5)) 1 ((k_w S_38 0 4 (S_38 0 5)) 0 4).toNatClampNeg) r74 hq74 _) (va_cwS 1 hts gX2_toNextToken_X2_isLetter rfl rfl rfl (by decide +kernel) ⟨Nat.le_of_ble_eq_true rfl, Nat.le_of_ble_eq_true rfl⟩) ⟨k_blind, k_pre hPc hK hNn hDc⟩ rfl rfl hl.1 rfl (lv_room (Nat.le_of_ble_eq_true rfl)) dX2_toNextToken_74 ⟨Nat.le_of_ble_eq_true rfl, Nat.le_of_ble_eq_true rfl⟩) hS hF (fun H locs hP1 hk hS => ?_)
      have hP : va_P D vwCl (wX2 cs a (k_w S_38 0 4 (S_38 0 5))) _ := k_keep hP hk
      refine lv_if_eq (tgt := 124) hx hb dX2_toNextToken_77 (by decide) (fun c77 => ?_) (fun c77 => ?_)
      · have hd := dn_t c77 hd
        refine lv_aload_n hx hb dX2_toNextToken_124 rfl (lv_at hl 0 rfl) ?_
        refine va_get (D := D) (ci := 1) (v := .ref (a 1)) (C := RX2) (T := TX2) (N := 6) hx hb hts (fun w h => List.mem_cons_of_mem _ (List.mem_append_right _ h)) hown hK hP 0 rfl rfl 0 (by decide) (hts (.fieldLink RX2 9 "LeastNeed$Reader" "text" "[C") (List.mem_of_getElem? (i := 3) rfl)) (fun _ h9 => h9) rfl dX2_toNextToken_125 ?_
        refine lv_aload_n hx hb dX2_toNextToken_128 rfl (lv_at hl 0 rfl) ?_
        refine va_get (D := D) (ci := 1) (v := .int ((k_w S_38 0 4 (S_38 0 5)) 0 4)) (C := RX2) (T := TX2) (N := 6) hx hb hts (fun w h => List.mem_cons_of_mem _ (List.mem_append_right _ h)) hown hK hP 0 rfl rfl 4 (by decide) (hts (.fieldLink RX2 44 "LeastNeed$Reader" "start" "I") (List.mem_of_getElem? (i := 4) rfl)) (fun _ h9 => h9) rfl dX2_toNextToken_129 ?_
        obtain ⟨hi132, hd⟩ := dn_i hd
        refine k_cald (D := D) (k := ((k_w S_38 0 4 (S_38 0 5)) 0 4).toNatClampNeg) (by rfl) hx hb hK hP 1 0 rfl rfl hi132 dX2_toNextToken_132 ?_
        obtain ⟨r133, hq133, hd⟩ := dn_b1 hd
        have hPc := k_P0 hP
        have hDc : va_D A ([] : va_W) := k_D0
        have hF := k_self hDc hS hA
        refine k_run_i (va_runS (As := [.int ((k_w S_38 0 4 (S_38 0 5)) 1 ((k_w S_38 0 4 (S_38 0 5)) 0 4).toNatClampNeg)]) (rest := []) ⟨hx, hb, hml, hown, hts⟩ (mX2_isFigure l D cs  ((k_w S_38 0 4 (S_38 0 5)) 1 ((k_w S_38 0 4 (S_38 0 5)) 0 4).toNatClampNeg) r133 hq133 _) (va_cwS 1 hts gX2_toNextToken_X2_isFigure rfl rfl rfl (by decide +kernel) ⟨Nat.le_of_ble_eq_true rfl, Nat.le_of_ble_eq_true rfl⟩) ⟨k_blind, k_pre hPc hK hNn hDc⟩ rfl rfl hl.1 rfl (lv_room (Nat.le_of_ble_eq_true rfl)) dX2_toNextToken_133 ⟨Nat.le_of_ble_eq_true rfl, Nat.le_of_ble_eq_true rfl⟩) hS hF (fun H locs hP1 hk hS => ?_)
        have hP : va_P D vwCl (wX2 cs a (k_w S_38 0 4 (S_38 0 5))) _ := k_keep hP hk
        refine lv_if_eq (tgt := 203) hx hb dX2_toNextToken_136 (by decide) (fun c136 => ?_) (fun c136 => ?_)
        · have hd := dn_t c136 hd
          refine lv_aload_n hx hb dX2_toNextToken_203 rfl (lv_at hl 0 rfl) ?_
          refine lv_aload_n hx hb dX2_toNextToken_204 rfl (lv_at hl 0 rfl) ?_
          refine va_get (D := D) (ci := 1) (v := .ref (a 1)) (C := RX2) (T := TX2) (N := 6) hx hb hts (fun w h => List.mem_cons_of_mem _ (List.mem_append_right _ h)) hown hK hP 0 rfl rfl 0 (by decide) (hts (.fieldLink RX2 9 "LeastNeed$Reader" "text" "[C") (List.mem_of_getElem? (i := 3) rfl)) (fun _ h9 => h9) rfl dX2_toNextToken_205 ?_
          refine lv_aload_n hx hb dX2_toNextToken_208 rfl (lv_at hl 0 rfl) ?_
          refine va_get (D := D) (ci := 1) (v := .int ((k_w S_38 0 4 (S_38 0 5)) 0 4)) (C := RX2) (T := TX2) (N := 6) hx hb hts (fun w h => List.mem_cons_of_mem _ (List.mem_append_right _ h)) hown hK hP 0 rfl rfl 4 (by decide) (hts (.fieldLink RX2 44 "LeastNeed$Reader" "start" "I") (List.mem_of_getElem? (i := 4) rfl)) (fun _ h9 => h9) rfl dX2_toNextToken_209 ?_
          obtain ⟨hi212, hd⟩ := dn_i hd
          refine k_cald (D := D) (k := ((k_w S_38 0 4 (S_38 0 5)) 0 4).toNatClampNeg) (by rfl) hx hb hK hP 1 0 rfl rfl hi212 dX2_toNextToken_212 ?_
          refine lv_bipush (v := (59 : Int32)) hx hb dX2_toNextToken_213 (by decide) ?_
          refine lv_icmp_ne (tgt := 222) hx hb dX2_toNextToken_215 (by decide) (fun c215 => ?_) (fun c215 => ?_)
          · have hd := dn_f c215 hd
            refine lv_iconst (v := (4 : Int32)) hx hb dX2_toNextToken_222 (by decide) ?_
            exact Jo223 (4 : Int32) (k_w S_38 0 4 (S_38 0 5)) _ _ _ hd (lv_sub hl [0] rfl) hP hS
          · have hd := dn_t c215 hd
            refine lv_iconst (v := (2 : Int32)) hx hb dX2_toNextToken_218 (by decide) ?_
            refine lv_goto (tgt := 223) hx hb dX2_toNextToken_219 (by decide) ?_
            exact Jo223 (2 : Int32) (k_w S_38 0 4 (S_38 0 5)) _ _ _ hd (lv_sub hl [0] rfl) hP hS
        · have hd := dn_f c136 hd
          exact Lo139 1000 (k_w S_38 0 4 (S_38 0 5)) _ _ _ hd (lv_sub hl [0] rfl) hP hS
      · have hd := dn_f c77 hd
        refine lv_aload_n hx hb dX2_toNextToken_80 rfl (lv_at hl 0 rfl) ?_
        refine lv_iconst (v := (0 : Int32)) hx hb dX2_toNextToken_81 (by decide) ?_
        refine va_put (D := D) (ci := 1) (v := .int (0 : Int32)) (ty := .int) (C := RX2) (T := TX2) (N := 6) hx hb hts (fun w h => List.mem_cons_of_mem _ (List.mem_append_right _ h)) tyX2 tyX2_ok nmX2 hown hK hP hD hS 0 rfl rfl 3 (by decide) (hts (.fieldLink RX2 47 "LeastNeed$Reader" "token" "I") (List.mem_of_getElem? (i := 5) rfl)) (fun _ h9 => h9) rfl (by decide +kernel) rfl rfl (Nat.le_of_ble_eq_true rfl) dX2_toNextToken_82 (fun H locs hP hD hS => ?_)
        have hP : va_P D vwCl (wX2 cs a (k_w (k_w S_38 0 4 (S_38 0 5)) 0 3 (0 : Int32))) _ := k_eq hP (wsX2_f0_3 cs a (k_w S_38 0 4 (S_38 0 5)) (0 : Int32))
        have hD := hDA (k_w (k_w S_38 0 4 (S_38 0 5)) 0 3 (0 : Int32))
        exact Lo85 1000 (k_w (k_w S_38 0 4 (S_38 0 5)) 0 3 (0 : Int32)) _ _ _ hd (lv_sub hl [0] rfl) hP hS
    · have hd := dn_f c54 hd
      refine lv_aload_n hx hb dX2_toNextToken_57 rfl (lv_at hl 0 rfl) ?_
      refine lv_iconst (v := (3 : Int32)) hx hb dX2_toNextToken_58 (by decide) ?_
      refine va_put (D := D) (ci := 1) (v := .int (3 : Int32)) (ty := .int) (C := RX2) (T := TX2) (N := 6) hx hb hts (fun w h => List.mem_cons_of_mem _ (List.mem_append_right _ h)) tyX2 tyX2_ok nmX2 hown hK hP hD hS 0 rfl rfl 3 (by decide) (hts (.fieldLink RX2 47 "LeastNeed$Reader" "token" "I") (List.mem_of_getElem? (i := 5) rfl)) (fun _ h9 => h9) rfl (by decide +kernel) rfl rfl (Nat.le_of_ble_eq_true rfl) dX2_toNextToken_59 (fun H locs hP hD hS => ?_)
      have hP : va_P D vwCl (wX2 cs a (k_w (k_w S_38 0 4 (S_38 0 5)) 0 3 (3 : Int32))) _ := k_eq hP (wsX2_f0_3 cs a (k_w S_38 0 4 (S_38 0 5)) (3 : Int32))
      have hD := hDA (k_w (k_w S_38 0 4 (S_38 0 5)) 0 3 (3 : Int32))
      refine lv_goto (tgt := 236) hx hb dX2_toNextToken_62 (by decide) ?_
      have e1 := dn_s1 hd
      exact k_vret hx hb hr hQ hAe (by rw [e1]) hP hS hlocks dX2_toNextToken_236
  have Lo0 : ∀ (n1 : Nat) (S_0 : Nat → Nat → Int32) (H : Heap) (locs : List Loc) (ls : Array Slot), k_it (fun st => nX2_toNextToken_l0 st) n1 S_0 = some S9 → lv_has ls 1 [(0, .ref (a 0))] → va_P D vwCl (wX2 cs a S_0) H → va_S A s.heap H locs → W p l e (headSpec wsX2_toNextToken ({ frames := 1, cells := 0, slots := 0, locals := 20 })).room s m ([.ref (a 0)] : List Value).toArray below meth c H locs 0 0 Q (F0 m 0 ls []) := by
    intro n1
    induction n1 with
    | zero => intro S_0 H locs ls hd; exact dn_it0 hd
    | succ n1 ih1 =>
      intro S_0 H locs ls hd hl hP hS
      have hD := hDA S_0
      obtain ⟨y1, hd, hy1⟩ := dn_it hd
      have hd : nX2_toNextToken_l0 S_0 = some y1 := hd
      unfold nX2_toNextToken_l0 at hd
      refine lv_aload_n hx hb dX2_toNextToken_0 rfl (lv_at hl 0 rfl) ?_
      refine va_get (D := D) (ci := 1) (v := .int (S_0 0 5)) (C := RX2) (T := TX2) (N := 6) hx hb hts (fun w h => List.mem_cons_of_mem _ (List.mem_append_right _ h)) hown hK hP 0 rfl rfl 5 (by decide) (hts (.fieldLink RX2 28 "LeastNeed$Reader" "next" "I") (List.mem_of_getElem? (i := 1) rfl)) (fun _ h9 => h9) rfl dX2_toNextToken_1 ?_
      refine lv_aload_n hx hb dX2_toNextToken_4 rfl (lv_at hl 0 rfl) ?_
      refine va_get (D := D) (ci := 1) (v := .int (S_0 0 2)) (C := RX2) (T := TX2) (N := 6) hx hb hts (fun w h => List.mem_cons_of_mem _ (List.mem_append_right _ h)) hown hK hP 0 rfl rfl 2 (by decide) (hts (.fieldLink RX2 19 "LeastNeed$Reader" "length" "I") (List.mem_of_getElem? (i := 2) rfl)) (fun _ h9 => h9) rfl dX2_toNextToken_5 ?_
      refine lv_icmp_ge (tgt := 38) hx hb dX2_toNextToken_8 (by decide) (fun c8 => ?_) (fun c8 => ?_)
      · have hd := dn_t c8 hd
        have hd := dn_up hd hy1
        exact Jo38 S_0 _ _ _ hd (lv_sub hl [0] rfl) hP hS
      · have hd := dn_f c8 hd
        refine lv_aload_n hx hb dX2_toNextToken_11 rfl (lv_at hl 0 rfl) ?_
        refine va_get (D := D) (ci := 1) (v := .ref (a 1)) (C := RX2) (T := TX2) (N := 6) hx hb hts (fun w h => List.mem_cons_of_mem _ (List.mem_append_right _ h)) hown hK hP 0 rfl rfl 0 (by decide) (hts (.fieldLink RX2 9 "LeastNeed$Reader" "text" "[C") (List.mem_of_getElem? (i := 3) rfl)) (fun _ h9 => h9) rfl dX2_toNextToken_12 ?_
        refine lv_aload_n hx hb dX2_toNextToken_15 rfl (lv_at hl 0 rfl) ?_
        refine va_get (D := D) (ci := 1) (v := .int (S_0 0 5)) (C := RX2) (T := TX2) (N := 6) hx hb hts (fun w h => List.mem_cons_of_mem _ (List.mem_append_right _ h)) hown hK hP 0 rfl rfl 5 (by decide) (hts (.fieldLink RX2 28 "LeastNeed$Reader" "next" "I") (List.mem_of_getElem? (i := 1) rfl)) (fun _ h9 => h9) rfl dX2_toNextToken_16 ?_
        obtain ⟨hi19, hd⟩ := dn_i hd
        refine k_cald (D := D) (k := (S_0 0 5).toNatClampNeg) (by rfl) hx hb hK hP 1 0 rfl rfl hi19 dX2_toNextToken_19 ?_
        refine lv_bipush (v := (32 : Int32)) hx hb dX2_toNextToken_20 (by decide) ?_
        refine lv_icmp_ne (tgt := 38) hx hb dX2_toNextToken_22 (by decide) (fun c22 => ?_) (fun c22 => ?_)
        · have hd := dn_f c22 hd
          have hd := dn_up hd hy1
          exact Jo38 S_0 _ _ _ hd (lv_sub hl [0] rfl) hP hS
        · have hd := dn_t c22 hd
          refine lv_aload_n hx hb dX2_toNextToken_25 rfl (lv_at hl 0 rfl) ?_
          refine lv_dup hx hb dX2_toNextToken_26 rfl ?_
          refine va_get (D := D) (ci := 1) (v := .int (S_0 0 5)) (C := RX2) (T := TX2) (N := 6) hx hb hts (fun w h => List.mem_cons_of_mem _ (List.mem_append_right _ h)) hown hK hP 0 rfl rfl 5 (by decide) (hts (.fieldLink RX2 28 "LeastNeed$Reader" "next" "I") (List.mem_of_getElem? (i := 1) rfl)) (fun _ h9 => h9) rfl dX2_toNextToken_27 ?_
          refine lv_iconst (v := (1 : Int32)) hx hb dX2_toNextToken_30 (by decide) ?_
          refine lv_iadd hx hb dX2_toNextToken_31 ?_
          refine va_put (D := D) (ci := 1) (v := .int ((S_0 0 5) + (1 : Int32))) (ty := .int) (C := RX2) (T := TX2) (N := 6) hx hb hts (fun w h => List.mem_cons_of_mem _ (List.mem_append_right _ h)) tyX2 tyX2_ok nmX2 hown hK hP hD hS 0 rfl rfl 5 (by decide) (hts (.fieldLink RX2 28 "LeastNeed$Reader" "next" "I") (List.mem_of_getElem? (i := 1) rfl)) (fun _ h9 => h9) rfl (by decide +kernel) rfl rfl (Nat.le_of_ble_eq_true rfl) dX2_toNextToken_32 (fun H locs hP hD hS => ?_)
          have hP : va_P D vwCl (wX2 cs a (k_w S_0 0 5 ((S_0 0 5) + (1 : Int32)))) _ := k_eq hP (wsX2_f0_5 cs a S_0 ((S_0 0 5) + (1 : Int32)))
          have hD := hDA (k_w S_0 0 5 ((S_0 0 5) + (1 : Int32)))
          refine lv_goto (tgt := 0) hx hb dX2_toNextToken_35 (by decide) ?_
          exact ih1 (k_w S_0 0 5 ((S_0 0 5) + (1 : Int32))) _ _ _ (dn_bk hd hy1) (lv_sub hl [0] rfl) hP hS
  unfold nX2_toNextToken at hd
  exact Lo0 1000 S _ _ _ hd (lv_sub hl [0] rfl) hP hS
-- LeastNeed$Reader.number(III)Z
set_option maxRecDepth 20000 in
def nX2_number_j63 (p1 : Int32) (p2 : Int32) (p3 : Int32) (x4_63 : Int32) (S_63 : Nat → Nat → Int32) : Option (Int32 × (Nat → Nat → Int32)) := if p1 < 0 ∨ 6 ≤ p1.toNatClampNeg then none else if x4_63 < p2 then some ((0 : Int32), (k_w S_63 2 p1.toNatClampNeg x4_63)) else if p3 < x4_63 then some ((0 : Int32), (k_w S_63 2 p1.toNatClampNeg x4_63)) else some ((1 : Int32), (k_w S_63 2 p1.toNatClampNeg x4_63))
set_option maxRecDepth 20000 in
def nX2_number (S : Nat → Nat → Int32) (p1 : Int32) (p2 : Int32) (p3 : Int32) : Option (Int32 × (Nat → Nat → Int32)) := k_b1 (nX2_toNextToken S) (fun S1 => if (S1 0 3) = (1 : Int32) then if (S1 0 4) < 0 ∨ 150 ≤ (S1 0 4).toNatClampNeg then none else if ((S1 0 5) - (S1 0 4)) = (2 : Int32) then if ((S1 0 4) + (1 : Int32)) < 0 ∨ 150 ≤ ((S1 0 4) + (1 : Int32)).toNatClampNeg then none else nX2_number_j63 p1 p2 p3 ((((10 : Int32) * ((S1 1 (S1 0 4).toNatClampNeg) - (48 : Int32))) + (S1 1 ((S1 0 4) + (1 : Int32)).toNatClampNeg)) - (48 : Int32)) S1 else nX2_number_j63 p1 p2 p3 ((S1 1 (S1 0 4).toNatClampNeg) - (48 : Int32)) S1 else some ((0 : Int32), S1))
set_option maxHeartbeats 4000000 in
set_option maxRecDepth 100000 in
theorem mX2_number (l : Launch) (D : va_G) (cs : Nat → ClassId) (a : Nat → Nat) (S : Nat → Nat → Int32) (p1 : Int32) (p2 : Int32) (p3 : Int32) (r9 : Int32) (S9 : (Nat → Nat → Int32)) (hd : nX2_number S p1 p2 p3 = some (r9, S9)) : ∀ sz : Nat, Met l yX2_number wsX2_number ({ frames := 2, cells := 0, slots := 0, locals := 40 }) (k_Pc D cs [.ref (a 0), .int p1, .int p2, .int p3] (wX2 cs a S) sz) (k_Qi D r9 (wX2 cs a S) (wX2 cs a S9) sz) 0 0 (va_A (wX2 cs a S) sz) := by
  intro sz
  refine Met.ofW (cc := cX2_number) (maxL := 5) (ret := (some .boolean)) (by decide) rfl ?_
  intro p e s m args below meth c s₁ B hml hv
  obtain ⟨rfl, hsz, hP, hK, hD0, hNn⟩ := hv
  have hx := B.exec
  have hb := B.bytes
  have hr := B.returns
  have hts := atoms_spec (ws := wsX2_number) B.pre
  have hown : s.vm.findClass RX2 = some m.cls := findClass_of_methodNamed B.named
  have hlocks := B.notSynchronized
  subst hsz
  obtain ⟨A, hAe⟩ : ∃ A : Nat → Prop, A = va_A (wX2 cs a S) s.heap.size := ⟨_, rfl⟩
  have hD : va_D A (wX2 cs a S) := by rw [hAe]; exact hD0.self
  have hA : ∀ q : Nat, s.heap.size ≤ q → A q := fun q h => by rw [hAe]; exact Or.inr h
  have hS : va_S A s.heap s.heap [] := va_S.rf
  have hDA : ∀ (S : Nat → Nat → Int32), va_D A (wX2 cs a S) := fun S => k_DA hD rfl
  have hl := lv_entry ([.ref (a 0), .int p1, .int p2, .int p3]) (n := 5) (Nat.le_of_ble_eq_true rfl)
  rw [lg_entry_eq]
  generalize (lg_sl ([.ref (a 0), .int p1, .int p2, .int p3]) ++ List.replicate (5 - (lg_sl ([.ref (a 0), .int p1, .int p2, .int p3])).length) Slot.unset).toArray = ls at hl ⊢
  have hl : lv_has ls 5 [(0, .ref (a 0)), (1, .int p1), (2, .int p2), (3, .int p3)] := hl
  obtain ⟨Q, hQ⟩ : ∃ Q, Q = MQ below (k_Qi D r9 (wX2 cs a S) (wX2 cs a S9) s.heap.size) ([.ref (a 0), .int p1, .int p2, .int p3] : List Value).toArray s 0 0 (va_A (wX2 cs a S) s.heap.size) := ⟨_, rfl⟩
  rw [← hQ]
  have Jo63 : ∀ (x4_63 : Int32) (S_63 : Nat → Nat → Int32) (H : Heap) (locs : List Loc) (ls : Array Slot), nX2_number_j63 p1 p2 p3 x4_63 S_63 = some (r9, S9) → lv_has ls 5 [(0, .ref (a 0)), (1, .int p1), (2, .int p2), (3, .int p3), (4, .int x4_63)] → va_P D vwCl (wX2 cs a S_63) H → va_S A s.heap H locs → W p l e (headSpec wsX2_number ({ frames := 2, cells := 0, slots := 0, locals := 40 })).room s m ([.ref (a 0), .int p1, .int p2, .int p3] : List Value).toArray below meth c H locs 0 0 Q (F0 m 63 ls []) := by
    intro x4_63 S_63 H locs ls hd hl hP hS
    have hD := hDA S_63
    unfold nX2_number_j63 at hd
    refine lv_aload_n hx hb dX2_number_63 rfl (lv_at hl 0 rfl) ?_
    refine va_get (D := D) (ci := 1) (v := .ref (a 2)) (C := RX2) (T := TX2) (N := 6) hx hb hts (fun w h => List.mem_cons_of_mem _ (List.mem_append_right _ h)) hown hK hP 0 rfl rfl 1 (by decide) (hts (.fieldLink RX2 15 "LeastNeed$Reader" "numbers" "[I") (List.mem_of_getElem? (i := 5) rfl)) (fun _ h9 => h9) rfl dX2_number_64 ?_
    refine lv_iload_n hx hb dX2_number_67 rfl (lv_at hl 1 rfl) ?_
    refine lv_iload hx hb dX2_number_68 (lv_at hl 4 rfl) ?_
    obtain ⟨hi70, hd⟩ := dn_i hd
    refine k_iast (D := D) (k := p1.toNatClampNeg) (by rfl) hx hb hK hP hD hS 2 1 rfl rfl hi70 dX2_number_70 (fun H locs hP hD hS => ?_)
    have hP : va_P D vwCl (wX2 cs a (k_w S_63 2 p1.toNatClampNeg x4_63)) _ := k_eq hP (wsX2_a2 cs a S_63 p1.toNatClampNeg x4_63)
    have hD := hDA (k_w S_63 2 p1.toNatClampNeg x4_63)
    refine lv_iload hx hb dX2_number_71 (lv_at hl 4 rfl) ?_
    refine lv_iload_n hx hb dX2_number_73 rfl (lv_at hl 2 rfl) ?_
    refine lv_icmp_lt (tgt := 87) hx hb dX2_number_74 (by decide) (fun c74 => ?_) (fun c74 => ?_)
    · have hd := dn_t c74 hd
      refine lv_iconst (v := (0 : Int32)) hx hb dX2_number_87 (by decide) ?_
      obtain ⟨e1, e2⟩ := dn_s2 hd
      exact k_zret hx hb hr rfl hQ hAe e1 (by rw [e2]) hP hS hlocks dX2_number_88
    · have hd := dn_f c74 hd
      refine lv_iload hx hb dX2_number_77 (lv_at hl 4 rfl) ?_
      refine lv_iload_n hx hb dX2_number_79 rfl (lv_at hl 3 rfl) ?_
      refine lv_icmp_gt (tgt := 87) hx hb dX2_number_80 (by decide) (fun c80 => ?_) (fun c80 => ?_)
      · have hd := dn_t c80 hd
        refine lv_iconst (v := (0 : Int32)) hx hb dX2_number_87 (by decide) ?_
        obtain ⟨e1, e2⟩ := dn_s2 hd
        exact k_zret hx hb hr rfl hQ hAe e1 (by rw [e2]) hP hS hlocks dX2_number_88
      · have hd := dn_f c80 hd
        refine lv_iconst (v := (1 : Int32)) hx hb dX2_number_83 (by decide) ?_
        refine lv_goto (tgt := 88) hx hb dX2_number_84 (by decide) ?_
        obtain ⟨e1, e2⟩ := dn_s2 hd
        exact k_zret hx hb hr rfl hQ hAe e1 (by rw [e2]) hP hS hlocks dX2_number_88
  unfold nX2_number at hd
  refine lv_aload_n hx hb dX2_number_0 rfl (lv_at hl 0 rfl) ?_
  obtain ⟨S1, hq1, hd⟩ := dn_b1 hd
  have hF := k_self hD hS hA
  refine k_run_v (va_runV (As := []) (rest := []) ⟨hx, hb, hml, hown, hts⟩ (mX2_toNextToken l D cs a S S1 hq1 _) (cwV 0 hts gX2_number_X2_toNextToken rfl rfl rfl (by decide +kernel) ⟨Nat.le_of_ble_eq_true rfl, Nat.le_of_ble_eq_true rfl⟩) ⟨k_blind, va_recv hK hP (ci := 1) (q0 := 0) rfl rfl, k_pre hP hK hNn hD⟩ rfl rfl hl.1 rfl (lv_room (Nat.le_of_ble_eq_true rfl)) dX2_number_1 ⟨Nat.le_of_ble_eq_true rfl, Nat.le_of_ble_eq_true rfl⟩) hS hF (fun H locs hP1 hk hS => ?_)
  have hP : va_P D vwCl (wX2 cs a S1) _ := hP1
  have hD := hDA S1
  refine lv_aload_n hx hb dX2_number_4 rfl (lv_at hl 0 rfl) ?_
  refine va_get (D := D) (ci := 1) (v := .int (S1 0 3)) (C := RX2) (T := TX2) (N := 6) hx hb hts (fun w h => List.mem_cons_of_mem _ (List.mem_append_right _ h)) hown hK hP 0 rfl rfl 3 (by decide) (hts (.fieldLink RX2 47 "LeastNeed$Reader" "token" "I") (List.mem_of_getElem? (i := 1) rfl)) (fun _ h9 => h9) rfl dX2_number_5 ?_
  refine lv_iconst (v := (1 : Int32)) hx hb dX2_number_8 (by decide) ?_
  refine lv_icmp_eq (tgt := 14) hx hb dX2_number_9 (by decide) (fun c9 => ?_) (fun c9 => ?_)
  · have hd := dn_t c9 hd
    refine lv_aload_n hx hb dX2_number_14 rfl (lv_at hl 0 rfl) ?_
    refine va_get (D := D) (ci := 1) (v := .ref (a 1)) (C := RX2) (T := TX2) (N := 6) hx hb hts (fun w h => List.mem_cons_of_mem _ (List.mem_append_right _ h)) hown hK hP 0 rfl rfl 0 (by decide) (hts (.fieldLink RX2 9 "LeastNeed$Reader" "text" "[C") (List.mem_of_getElem? (i := 2) rfl)) (fun _ h9 => h9) rfl dX2_number_15 ?_
    refine lv_aload_n hx hb dX2_number_18 rfl (lv_at hl 0 rfl) ?_
    refine va_get (D := D) (ci := 1) (v := .int (S1 0 4)) (C := RX2) (T := TX2) (N := 6) hx hb hts (fun w h => List.mem_cons_of_mem _ (List.mem_append_right _ h)) hown hK hP 0 rfl rfl 4 (by decide) (hts (.fieldLink RX2 44 "LeastNeed$Reader" "start" "I") (List.mem_of_getElem? (i := 3) rfl)) (fun _ h9 => h9) rfl dX2_number_19 ?_
    obtain ⟨hi22, hd⟩ := dn_i hd
    refine k_cald (D := D) (k := (S1 0 4).toNatClampNeg) (by rfl) hx hb hK hP 1 0 rfl rfl hi22 dX2_number_22 ?_
    refine lv_bipush (v := (48 : Int32)) hx hb dX2_number_23 (by decide) ?_
    refine lv_isub hx hb dX2_number_25 ?_
    refine lv_istore (lv' := [(4, .int ((S1 1 (S1 0 4).toNatClampNeg) - (48 : Int32))), (0, .ref (a 0)), (1, .int p1), (2, .int p2), (3, .int p3)]) hx hb dX2_number_26 hl (by decide) rfl (fun ls hl => ?_)
    refine lv_aload_n hx hb dX2_number_28 rfl (lv_at hl 1 rfl) ?_
    refine va_get (D := D) (ci := 1) (v := .int (S1 0 5)) (C := RX2) (T := TX2) (N := 6) hx hb hts (fun w h => List.mem_cons_of_mem _ (List.mem_append_right _ h)) hown hK hP 0 rfl rfl 5 (by decide) (hts (.fieldLink RX2 28 "LeastNeed$Reader" "next" "I") (List.mem_of_getElem? (i := 4) rfl)) (fun _ h9 => h9) rfl dX2_number_29 ?_
    refine lv_aload_n hx hb dX2_number_32 rfl (lv_at hl 1 rfl) ?_
    refine va_get (D := D) (ci := 1) (v := .int (S1 0 4)) (C := RX2) (T := TX2) (N := 6) hx hb hts (fun w h => List.mem_cons_of_mem _ (List.mem_append_right _ h)) hown hK hP 0 rfl rfl 4 (by decide) (hts (.fieldLink RX2 44 "LeastNeed$Reader" "start" "I") (List.mem_of_getElem? (i := 3) rfl)) (fun _ h9 => h9) rfl dX2_number_33 ?_
    refine lv_isub hx hb dX2_number_36 ?_
    refine lv_iconst (v := (2 : Int32)) hx hb dX2_number_37 (by decide) ?_
    refine lv_icmp_ne (tgt := 63) hx hb dX2_number_38 (by decide) (fun c38 => ?_) (fun c38 => ?_)
    · have hd := dn_f c38 hd
      exact Jo63 ((S1 1 (S1 0 4).toNatClampNeg) - (48 : Int32)) S1 _ _ _ hd (lv_sub hl [1, 2, 3, 4, 0] rfl) hP hS
    · have hd := dn_t c38 hd
      refine lv_bipush (v := (10 : Int32)) hx hb dX2_number_41 (by decide) ?_
      refine lv_iload hx hb dX2_number_43 (lv_at hl 0 rfl) ?_
      refine lv_imul hx hb dX2_number_45 ?_
      refine lv_aload_n hx hb dX2_number_46 rfl (lv_at hl 1 rfl) ?_
      refine va_get (D := D) (ci := 1) (v := .ref (a 1)) (C := RX2) (T := TX2) (N := 6) hx hb hts (fun w h => List.mem_cons_of_mem _ (List.mem_append_right _ h)) hown hK hP 0 rfl rfl 0 (by decide) (hts (.fieldLink RX2 9 "LeastNeed$Reader" "text" "[C") (List.mem_of_getElem? (i := 2) rfl)) (fun _ h9 => h9) rfl dX2_number_47 ?_
      refine lv_aload_n hx hb dX2_number_50 rfl (lv_at hl 1 rfl) ?_
      refine va_get (D := D) (ci := 1) (v := .int (S1 0 4)) (C := RX2) (T := TX2) (N := 6) hx hb hts (fun w h => List.mem_cons_of_mem _ (List.mem_append_right _ h)) hown hK hP 0 rfl rfl 4 (by decide) (hts (.fieldLink RX2 44 "LeastNeed$Reader" "start" "I") (List.mem_of_getElem? (i := 3) rfl)) (fun _ h9 => h9) rfl dX2_number_51 ?_
      refine lv_iconst (v := (1 : Int32)) hx hb dX2_number_54 (by decide) ?_
      refine lv_iadd hx hb dX2_number_55 ?_
      obtain ⟨hi56, hd⟩ := dn_i hd
      refine k_cald (D := D) (k := ((S1 0 4) + (1 : Int32)).toNatClampNeg) (by rfl) hx hb hK hP 1 0 rfl rfl hi56 dX2_number_56 ?_
      refine lv_iadd hx hb dX2_number_57 ?_
      refine lv_bipush (v := (48 : Int32)) hx hb dX2_number_58 (by decide) ?_
      refine lv_isub hx hb dX2_number_60 ?_
      refine lv_istore (lv' := [(4, .int ((((10 : Int32) * ((S1 1 (S1 0 4).toNatClampNeg) - (48 : Int32))) + (S1 1 ((S1 0 4) + (1 : Int32)).toNatClampNeg)) - (48 : Int32))), (0, .ref (a 0)), (1, .int p1), (2, .int p2), (3, .int p3)]) hx hb dX2_number_61 hl (by decide) rfl (fun ls hl => ?_)
      exact Jo63 ((((10 : Int32) * ((S1 1 (S1 0 4).toNatClampNeg) - (48 : Int32))) + (S1 1 ((S1 0 4) + (1 : Int32)).toNatClampNeg)) - (48 : Int32)) S1 _ _ _ hd (lv_sub hl [1, 2, 3, 4, 0] rfl) hP hS
  · have hd := dn_f c9 hd
    refine lv_iconst (v := (0 : Int32)) hx hb dX2_number_12 (by decide) ?_
    obtain ⟨e1, e2⟩ := dn_s2 hd
    exact k_zret hx hb hr rfl hQ hAe e1 (by rw [e2]) hP hS hlocks dX2_number_13
-- LeastNeed$Reader.itemEnds()Z
set_option maxRecDepth 20000 in
def nX2_itemEnds (S : Nat → Nat → Int32) : Option (Int32 × (Nat → Nat → Int32)) := k_b1 (nX2_toNextToken S) (fun S1 => if (S1 0 3) = (2 : Int32) then k_b1 (nX2_toNextToken S1) (fun S15 => some ((1 : Int32), S15)) else some ((0 : Int32), S1))
set_option maxHeartbeats 4000000 in
set_option maxRecDepth 100000 in
theorem mX2_itemEnds (l : Launch) (D : va_G) (cs : Nat → ClassId) (a : Nat → Nat) (S : Nat → Nat → Int32) (r9 : Int32) (S9 : (Nat → Nat → Int32)) (hd : nX2_itemEnds S = some (r9, S9)) : ∀ sz : Nat, Met l yX2_itemEnds wsX2_itemEnds ({ frames := 2, cells := 0, slots := 0, locals := 40 }) (k_Pc D cs [.ref (a 0)] (wX2 cs a S) sz) (k_Qi D r9 (wX2 cs a S) (wX2 cs a S9) sz) 0 0 (va_A (wX2 cs a S) sz) := by
  intro sz
  refine Met.ofW (cc := cX2_itemEnds) (maxL := 1) (ret := (some .boolean)) (by decide) rfl ?_
  intro p e s m args below meth c s₁ B hml hv
  obtain ⟨rfl, hsz, hP, hK, hD0, hNn⟩ := hv
  have hx := B.exec
  have hb := B.bytes
  have hr := B.returns
  have hts := atoms_spec (ws := wsX2_itemEnds) B.pre
  have hown : s.vm.findClass RX2 = some m.cls := findClass_of_methodNamed B.named
  have hlocks := B.notSynchronized
  subst hsz
  obtain ⟨A, hAe⟩ : ∃ A : Nat → Prop, A = va_A (wX2 cs a S) s.heap.size := ⟨_, rfl⟩
  have hD : va_D A (wX2 cs a S) := by rw [hAe]; exact hD0.self
  have hA : ∀ q : Nat, s.heap.size ≤ q → A q := fun q h => by rw [hAe]; exact Or.inr h
  have hS : va_S A s.heap s.heap [] := va_S.rf
  have hDA : ∀ (S : Nat → Nat → Int32), va_D A (wX2 cs a S) := fun S => k_DA hD rfl
  have hl := lv_entry ([.ref (a 0)]) (n := 1) (Nat.le_of_ble_eq_true rfl)
  rw [lg_entry_eq]
  generalize (lg_sl ([.ref (a 0)]) ++ List.replicate (1 - (lg_sl ([.ref (a 0)])).length) Slot.unset).toArray = ls at hl ⊢
  have hl : lv_has ls 1 [(0, .ref (a 0))] := hl
  obtain ⟨Q, hQ⟩ : ∃ Q, Q = MQ below (k_Qi D r9 (wX2 cs a S) (wX2 cs a S9) s.heap.size) ([.ref (a 0)] : List Value).toArray s 0 0 (va_A (wX2 cs a S) s.heap.size) := ⟨_, rfl⟩
  rw [← hQ]
  unfold nX2_itemEnds at hd
  refine lv_aload_n hx hb dX2_itemEnds_0 rfl (lv_at hl 0 rfl) ?_
  obtain ⟨S1, hq1, hd⟩ := dn_b1 hd
  have hF := k_self hD hS hA
  refine k_run_v (va_runV (As := []) (rest := []) ⟨hx, hb, hml, hown, hts⟩ (mX2_toNextToken l D cs a S S1 hq1 _) (cwV 0 hts gX2_itemEnds_X2_toNextToken rfl rfl rfl (by decide +kernel) ⟨Nat.le_of_ble_eq_true rfl, Nat.le_of_ble_eq_true rfl⟩) ⟨k_blind, va_recv hK hP (ci := 1) (q0 := 0) rfl rfl, k_pre hP hK hNn hD⟩ rfl rfl hl.1 rfl (lv_room (Nat.le_of_ble_eq_true rfl)) dX2_itemEnds_1 ⟨Nat.le_of_ble_eq_true rfl, Nat.le_of_ble_eq_true rfl⟩) hS hF (fun H locs hP1 hk hS => ?_)
  have hP : va_P D vwCl (wX2 cs a S1) _ := hP1
  have hD := hDA S1
  refine lv_aload_n hx hb dX2_itemEnds_4 rfl (lv_at hl 0 rfl) ?_
  refine va_get (D := D) (ci := 1) (v := .int (S1 0 3)) (C := RX2) (T := TX2) (N := 6) hx hb hts (fun w h => List.mem_cons_of_mem _ (List.mem_append_right _ h)) hown hK hP 0 rfl rfl 3 (by decide) (hts (.fieldLink RX2 47 "LeastNeed$Reader" "token" "I") (List.mem_of_getElem? (i := 1) rfl)) (fun _ h9 => h9) rfl dX2_itemEnds_5 ?_
  refine lv_iconst (v := (2 : Int32)) hx hb dX2_itemEnds_8 (by decide) ?_
  refine lv_icmp_eq (tgt := 14) hx hb dX2_itemEnds_9 (by decide) (fun c9 => ?_) (fun c9 => ?_)
  · have hd := dn_t c9 hd
    refine lv_aload_n hx hb dX2_itemEnds_14 rfl (lv_at hl 0 rfl) ?_
    obtain ⟨S15, hq15, hd⟩ := dn_b1 hd
    have hF := k_self hD hS hA
    refine k_run_v (va_runV (As := []) (rest := []) ⟨hx, hb, hml, hown, hts⟩ (mX2_toNextToken l D cs a S1 S15 hq15 _) (cwV 0 hts gX2_itemEnds_X2_toNextToken rfl rfl rfl (by decide +kernel) ⟨Nat.le_of_ble_eq_true rfl, Nat.le_of_ble_eq_true rfl⟩) ⟨k_blind, va_recv hK hP (ci := 1) (q0 := 0) rfl rfl, k_pre hP hK hNn hD⟩ rfl rfl hl.1 rfl (lv_room (Nat.le_of_ble_eq_true rfl)) dX2_itemEnds_15 ⟨Nat.le_of_ble_eq_true rfl, Nat.le_of_ble_eq_true rfl⟩) hS hF (fun H locs hP1 hk hS => ?_)
    have hP : va_P D vwCl (wX2 cs a S15) _ := hP1
    have hD := hDA S15
    refine lv_iconst (v := (1 : Int32)) hx hb dX2_itemEnds_18 (by decide) ?_
    obtain ⟨e1, e2⟩ := dn_s2 hd
    exact k_zret hx hb hr rfl hQ hAe e1 (by rw [e2]) hP hS hlocks dX2_itemEnds_19
  · have hd := dn_f c9 hd
    refine lv_iconst (v := (0 : Int32)) hx hb dX2_itemEnds_12 (by decide) ?_
    obtain ⟨e1, e2⟩ := dn_s2 hd
    exact k_zret hx hb hr rfl hQ hAe e1 (by rw [e2]) hP hS hlocks dX2_itemEnds_13
-- LeastNeed$Reader.personIsTold(LLeastNeed$Valley;)Z
set_option maxRecDepth 20000 in
def nX2_personIsTold_l36 (x2_36 : Int32) (S_36 : Nat → Nat → Int32) (T_36 : Nat → Nat → Int32) : Option ((Int32 × (Nat → Nat → Int32)) ⊕ (Int32 × (Nat → Nat → Int32) × (Nat → Nat → Int32))) := if (4 : Int32) ≤ x2_36 then k_up (k_b2 (nX2_itemEnds S_36) (fun r63 S63 => if r63 = 0 then some ((0 : Int32), S63, T_36) else k_b1 (nX5_addPerson T_36 (S63 2 0) (S63 2 1) (S63 2 2) (S63 2 3) (S63 2 4) (S63 2 5)) (fun S108 => some ((1 : Int32), S63, S108)))) else k_b2 (nX2_number S_36 ((2 : Int32) + x2_36) (0 : Int32) (9 : Int32)) (fun r48 S48 => if r48 = 0 then k_up (some ((0 : Int32), S48, T_36)) else some (.inl ((x2_36 + (1 : Int32)), S48)))
set_option maxRecDepth 20000 in
def nX2_personIsTold (S : Nat → Nat → Int32) (T : Nat → Nat → Int32) : Option (Int32 × (Nat → Nat → Int32) × (Nat → Nat → Int32)) := if (T 0 12) < (7 : Int32) then k_b2 (nX2_number S (0 : Int32) (0 : Int32) (5 : Int32)) (fun r15 S15 => if r15 = 0 then some ((0 : Int32), S15, T) else k_b2 (nX2_number S15 (1 : Int32) (0 : Int32) (19 : Int32)) (fun r26 S26 => if r26 = 0 then some ((0 : Int32), S26, T) else k_it (fun st => nX2_personIsTold_l36 st.1 st.2 T) 1000 ((0 : Int32), S26))) else some ((0 : Int32), S, T)
set_option maxHeartbeats 4000000 in
set_option maxRecDepth 100000 in
theorem mX2_personIsTold (l : Launch) (D : va_G) (cs : Nat → ClassId) (a : Nat → Nat) (b : Nat → Nat) (S : Nat → Nat → Int32) (T : Nat → Nat → Int32) (r9 : Int32) (S9 : (Nat → Nat → Int32)) (T9 : (Nat → Nat → Int32)) (hd : nX2_personIsTold S T = some (r9, S9, T9)) : ∀ sz : Nat, Met l yX2_personIsTold wsX2_personIsTold ({ frames := 3, cells := 0, slots := 0, locals := 64 }) (k_Pc D cs [.ref (a 0), .ref (b 0)] (wX2 cs a S ++ wX5 cs b T) sz) (k_Qi D r9 (wX2 cs a S ++ wX5 cs b T) (wX2 cs a S9 ++ wX5 cs b T9) sz) 0 0 (va_A (wX2 cs a S ++ wX5 cs b T) sz) := by
  intro sz
  refine Met.ofW (cc := cX2_personIsTold) (maxL := 3) (ret := (some .boolean)) (by decide) rfl ?_
  intro p e s m args below meth c s₁ B hml hv
  obtain ⟨rfl, hsz, hP, hK, hD0, hNn⟩ := hv
  have hx := B.exec
  have hb := B.bytes
  have hr := B.returns
  have hts := atoms_spec (ws := wsX2_personIsTold) B.pre
  have hown : s.vm.findClass RX2 = some m.cls := findClass_of_methodNamed B.named
  have hlocks := B.notSynchronized
  subst hsz
  obtain ⟨A, hAe⟩ : ∃ A : Nat → Prop, A = va_A (wX2 cs a S ++ wX5 cs b T) s.heap.size := ⟨_, rfl⟩
  have hD : va_D A (wX2 cs a S ++ wX5 cs b T) := by rw [hAe]; exact hD0.self
  have hA : ∀ q : Nat, s.heap.size ≤ q → A q := fun q h => by rw [hAe]; exact Or.inr h
  have hS : va_S A s.heap s.heap [] := va_S.rf
  have hDA : ∀ (S : Nat → Nat → Int32) (T : Nat → Nat → Int32), va_D A (wX2 cs a S ++ wX5 cs b T) := fun S T => k_DA hD rfl
  have hl := lv_entry ([.ref (a 0), .ref (b 0)]) (n := 3) (Nat.le_of_ble_eq_true rfl)
  rw [lg_entry_eq]
  generalize (lg_sl ([.ref (a 0), .ref (b 0)]) ++ List.replicate (3 - (lg_sl ([.ref (a 0), .ref (b 0)])).length) Slot.unset).toArray = ls at hl ⊢
  have hl : lv_has ls 3 [(0, .ref (a 0)), (1, .ref (b 0))] := hl
  obtain ⟨Q, hQ⟩ : ∃ Q, Q = MQ below (k_Qi D r9 (wX2 cs a S ++ wX5 cs b T) (wX2 cs a S9 ++ wX5 cs b T9) s.heap.size) ([.ref (a 0), .ref (b 0)] : List Value).toArray s 0 0 (va_A (wX2 cs a S ++ wX5 cs b T) s.heap.size) := ⟨_, rfl⟩
  rw [← hQ]
  have Lo36 : ∀ (n1 : Nat) (x2_36 : Int32) (S_36 : Nat → Nat → Int32) (T_36 : Nat → Nat → Int32) (H : Heap) (locs : List Loc) (ls : Array Slot), k_it (fun st => nX2_personIsTold_l36 st.1 st.2 T_36) n1 (x2_36, S_36) = some (r9, S9, T9) → lv_has ls 3 [(0, .ref (a 0)), (1, .ref (b 0)), (2, .int x2_36)] → va_P D vwCl (wX2 cs a S_36 ++ wX5 cs b T_36) H → va_S A s.heap H locs → W p l e (headSpec wsX2_personIsTold ({ frames := 3, cells := 0, slots := 0, locals := 64 })).room s m ([.ref (a 0), .ref (b 0)] : List Value).toArray below meth c H locs 0 0 Q (F0 m 36 ls []) := by
    intro n1
    induction n1 with
    | zero => intro x2_36 S_36 T_36 H locs ls hd; exact dn_it0 hd
    | succ n1 ih1 =>
      intro x2_36 S_36 T_36 H locs ls hd hl hP hS
      have hD := hDA S_36 T_36
      obtain ⟨y1, hd, hy1⟩ := dn_it hd
      have hd : nX2_personIsTold_l36 x2_36 S_36 T_36 = some y1 := hd
      unfold nX2_personIsTold_l36 at hd
      refine lv_iload_n hx hb dX2_personIsTold_36 rfl (lv_at hl 2 rfl) ?_
      refine lv_iconst (v := (4 : Int32)) hx hb dX2_personIsTold_37 (by decide) ?_
      refine lv_icmp_ge (tgt := 62) hx hb dX2_personIsTold_38 (by decide) (fun c38 => ?_) (fun c38 => ?_)
      · have hd := dn_t c38 hd
        have hd := dn_up hd hy1
        refine lv_aload_n hx hb dX2_personIsTold_62 rfl (lv_at hl 0 rfl) ?_
        obtain ⟨r63, S63, hq63, hd⟩ := dn_b2 hd
        have hPc : va_P D vwCl (wX2 cs a S_36) _ := k_sub hP [0, 1, 2] (wcX2_X5_X2_0 cs a b S_36 T_36)
        have hDc : va_D A (wX2 cs a S_36) := hD.sub [0, 1, 2] (by decide) (wcX2_X5_X2_0 cs a b S_36 T_36)
        have hF := k_self hDc hS hA
        refine k_run_i (va_runV (As := []) (rest := []) ⟨hx, hb, hml, hown, hts⟩ (mX2_itemEnds l D cs a S_36 r63 S63 hq63 _) (cwV 0 hts gX2_personIsTold_X2_itemEnds rfl rfl rfl (by decide +kernel) ⟨Nat.le_of_ble_eq_true rfl, Nat.le_of_ble_eq_true rfl⟩) ⟨k_blind, va_recv hK hP (ci := 1) (q0 := 0) rfl rfl, k_pre hPc hK hNn hDc⟩ rfl rfl hl.1 rfl (lv_room (Nat.le_of_ble_eq_true rfl)) dX2_personIsTold_63 ⟨Nat.le_of_ble_eq_true rfl, Nat.le_of_ble_eq_true rfl⟩) hS hF (fun H locs hP1 hk hS => ?_)
        have hP : va_P D vwCl (wX2 cs a S63 ++ wX5 cs b T_36) _ := k_back hP hD [0, 1, 2] [3, 4, 5, 6, 7, 8, 9, 10, 11, 12, 13, 14, 15, 16, 17, 18] [16, 17, 18, 0, 1, 2, 3, 4, 5, 6, 7, 8, 9, 10, 11, 12, 13, 14, 15] (wcX2_X5_X2_0 cs a b S_36 T_36) (by decide) hk hP1 (wbX2_X5_X2_0_S0 cs a b S_36 T_36 S63)
        have hD := hDA S63 T_36
        refine lv_if_ne (tgt := 71) hx hb dX2_personIsTold_66 (by decide) (fun c66 => ?_) (fun c66 => ?_)
        · have hd := dn_f c66 hd
          refine lv_aload_n hx hb dX2_personIsTold_71 rfl (lv_at hl 1 rfl) ?_
          refine lv_aload_n hx hb dX2_personIsTold_72 rfl (lv_at hl 0 rfl) ?_
          refine va_get (D := D) (ci := 1) (v := .ref (a 2)) (C := RX2) (T := TX2) (N := 6) hx hb hts (fun w h => List.mem_cons_of_mem _ (List.mem_append_left _ (List.mem_append_right _ h))) hown hK hP 0 rfl rfl 1 (by decide) (hts (.fieldLink RX2 15 "LeastNeed$Reader" "numbers" "[I") (List.mem_of_getElem? (i := 2) rfl)) (fun _ h9 => h9) rfl dX2_personIsTold_73 ?_
          refine lv_iconst (v := (0 : Int32)) hx hb dX2_personIsTold_76 (by decide) ?_
          refine k_iald (D := D) (k := 0) (by rfl) hx hb hK hP 2 1 rfl rfl (k_in (by decide)) dX2_personIsTold_77 ?_
          refine lv_aload_n hx hb dX2_personIsTold_78 rfl (lv_at hl 0 rfl) ?_
          refine va_get (D := D) (ci := 1) (v := .ref (a 2)) (C := RX2) (T := TX2) (N := 6) hx hb hts (fun w h => List.mem_cons_of_mem _ (List.mem_append_left _ (List.mem_append_right _ h))) hown hK hP 0 rfl rfl 1 (by decide) (hts (.fieldLink RX2 15 "LeastNeed$Reader" "numbers" "[I") (List.mem_of_getElem? (i := 2) rfl)) (fun _ h9 => h9) rfl dX2_personIsTold_79 ?_
          refine lv_iconst (v := (1 : Int32)) hx hb dX2_personIsTold_82 (by decide) ?_
          refine k_iald (D := D) (k := 1) (by rfl) hx hb hK hP 2 1 rfl rfl (k_in (by decide)) dX2_personIsTold_83 ?_
          refine lv_aload_n hx hb dX2_personIsTold_84 rfl (lv_at hl 0 rfl) ?_
          refine va_get (D := D) (ci := 1) (v := .ref (a 2)) (C := RX2) (T := TX2) (N := 6) hx hb hts (fun w h => List.mem_cons_of_mem _ (List.mem_append_left _ (List.mem_append_right _ h))) hown hK hP 0 rfl rfl 1 (by decide) (hts (.fieldLink RX2 15 "LeastNeed$Reader" "numbers" "[I") (List.mem_of_getElem? (i := 2) rfl)) (fun _ h9 => h9) rfl dX2_personIsTold_85 ?_
          refine lv_iconst (v := (2 : Int32)) hx hb dX2_personIsTold_88 (by decide) ?_
          refine k_iald (D := D) (k := 2) (by rfl) hx hb hK hP 2 1 rfl rfl (k_in (by decide)) dX2_personIsTold_89 ?_
          refine lv_aload_n hx hb dX2_personIsTold_90 rfl (lv_at hl 0 rfl) ?_
          refine va_get (D := D) (ci := 1) (v := .ref (a 2)) (C := RX2) (T := TX2) (N := 6) hx hb hts (fun w h => List.mem_cons_of_mem _ (List.mem_append_left _ (List.mem_append_right _ h))) hown hK hP 0 rfl rfl 1 (by decide) (hts (.fieldLink RX2 15 "LeastNeed$Reader" "numbers" "[I") (List.mem_of_getElem? (i := 2) rfl)) (fun _ h9 => h9) rfl dX2_personIsTold_91 ?_
          refine lv_iconst (v := (3 : Int32)) hx hb dX2_personIsTold_94 (by decide) ?_
          refine k_iald (D := D) (k := 3) (by rfl) hx hb hK hP 2 1 rfl rfl (k_in (by decide)) dX2_personIsTold_95 ?_
          refine lv_aload_n hx hb dX2_personIsTold_96 rfl (lv_at hl 0 rfl) ?_
          refine va_get (D := D) (ci := 1) (v := .ref (a 2)) (C := RX2) (T := TX2) (N := 6) hx hb hts (fun w h => List.mem_cons_of_mem _ (List.mem_append_left _ (List.mem_append_right _ h))) hown hK hP 0 rfl rfl 1 (by decide) (hts (.fieldLink RX2 15 "LeastNeed$Reader" "numbers" "[I") (List.mem_of_getElem? (i := 2) rfl)) (fun _ h9 => h9) rfl dX2_personIsTold_97 ?_
          refine lv_iconst (v := (4 : Int32)) hx hb dX2_personIsTold_100 (by decide) ?_
          refine k_iald (D := D) (k := 4) (by rfl) hx hb hK hP 2 1 rfl rfl (k_in (by decide)) dX2_personIsTold_101 ?_
          refine lv_aload_n hx hb dX2_personIsTold_102 rfl (lv_at hl 0 rfl) ?_
          refine va_get (D := D) (ci := 1) (v := .ref (a 2)) (C := RX2) (T := TX2) (N := 6) hx hb hts (fun w h => List.mem_cons_of_mem _ (List.mem_append_left _ (List.mem_append_right _ h))) hown hK hP 0 rfl rfl 1 (by decide) (hts (.fieldLink RX2 15 "LeastNeed$Reader" "numbers" "[I") (List.mem_of_getElem? (i := 2) rfl)) (fun _ h9 => h9) rfl dX2_personIsTold_103 ?_
          refine lv_iconst (v := (5 : Int32)) hx hb dX2_personIsTold_106 (by decide) ?_
          refine k_iald (D := D) (k := 5) (by rfl) hx hb hK hP 2 1 rfl rfl (k_in (by decide)) dX2_personIsTold_107 ?_
          obtain ⟨S108, hq108, hd⟩ := dn_b1 hd
          have hPc : va_P D vwCl (wX5 cs b T_36) _ := k_sub hP [3, 4, 5, 6, 7, 8, 9, 10, 11, 12, 13, 14, 15, 16, 17, 18] (wcX2_X5_X5_0b cs a b S63 T_36)
          have hDc : va_D A (wX5 cs b T_36) := hD.sub [3, 4, 5, 6, 7, 8, 9, 10, 11, 12, 13, 14, 15, 16, 17, 18] (by decide) (wcX2_X5_X5_0b cs a b S63 T_36)
          have hF := k_self hDc hS hA
          refine k_run_v (va_runV (As := [.int (S63 2 0), .int (S63 2 1), .int (S63 2 2), .int (S63 2 3), .int (S63 2 4), .int (S63 2 5)]) (rest := []) ⟨hx, hb, hml, hown, hts⟩ (mX5_addPerson l D cs b T_36 (S63 2 0) (S63 2 1) (S63 2 2) (S63 2 3) (S63 2 4) (S63 2 5) S108 hq108 _) (cwV 6 hts gX2_personIsTold_X5_addPerson rfl rfl rfl (by decide +kernel) ⟨Nat.le_of_ble_eq_true rfl, Nat.le_of_ble_eq_true rfl⟩) ⟨k_blind, va_recv hK hP (ci := 3) (q0 := 3) rfl rfl, k_pre hPc hK hNn hDc⟩ rfl rfl hl.1 rfl (lv_room (Nat.le_of_ble_eq_true rfl)) dX2_personIsTold_108 ⟨Nat.le_of_ble_eq_true rfl, Nat.le_of_ble_eq_true rfl⟩) hS hF (fun H locs hP1 hk hS => ?_)
          have hP : va_P D vwCl (wX2 cs a S63 ++ wX5 cs b S108) _ := k_back hP hD [3, 4, 5, 6, 7, 8, 9, 10, 11, 12, 13, 14, 15, 16, 17, 18] [0, 1, 2] [0, 1, 2, 3, 4, 5, 6, 7, 8, 9, 10, 11, 12, 13, 14, 15, 16, 17, 18] (wcX2_X5_X5_0b cs a b S63 T_36) (by decide) hk hP1 (wbX2_X5_X5_0b_S0 cs a b S63 T_36 S108)
          have hD := hDA S63 S108
          refine lv_iconst (v := (1 : Int32)) hx hb dX2_personIsTold_111 (by decide) ?_
          obtain ⟨e1, e2, e3⟩ := dn_s3 hd
          exact k_zret hx hb hr rfl hQ hAe e1 (by rw [← e2, ← e3]) hP hS hlocks dX2_personIsTold_112
        · have hd := dn_t c66 hd
          refine lv_iconst (v := (0 : Int32)) hx hb dX2_personIsTold_69 (by decide) ?_
          obtain ⟨e1, e2, e3⟩ := dn_s3 hd
          exact k_zret hx hb hr rfl hQ hAe e1 (by rw [← e2, ← e3]) hP hS hlocks dX2_personIsTold_70
      · have hd := dn_f c38 hd
        refine lv_aload_n hx hb dX2_personIsTold_41 rfl (lv_at hl 0 rfl) ?_
        refine lv_iconst (v := (2 : Int32)) hx hb dX2_personIsTold_42 (by decide) ?_
        refine lv_iload_n hx hb dX2_personIsTold_43 rfl (lv_at hl 2 rfl) ?_
        refine lv_iadd hx hb dX2_personIsTold_44 ?_
        refine lv_iconst (v := (0 : Int32)) hx hb dX2_personIsTold_45 (by decide) ?_
        refine lv_bipush (v := (9 : Int32)) hx hb dX2_personIsTold_46 (by decide) ?_
        obtain ⟨r48, S48, hq48, hd⟩ := dn_b2 hd
        have hPc : va_P D vwCl (wX2 cs a S_36) _ := k_sub hP [0, 1, 2] (wcX2_X5_X2_0 cs a b S_36 T_36)
        have hDc : va_D A (wX2 cs a S_36) := hD.sub [0, 1, 2] (by decide) (wcX2_X5_X2_0 cs a b S_36 T_36)
        have hF := k_self hDc hS hA
        refine k_run_i (va_runV (As := [.int ((2 : Int32) + x2_36), .int (0 : Int32), .int (9 : Int32)]) (rest := []) ⟨hx, hb, hml, hown, hts⟩ (mX2_number l D cs a S_36 ((2 : Int32) + x2_36) (0 : Int32) (9 : Int32) r48 S48 hq48 _) (cwV 3 hts gX2_personIsTold_X2_number rfl rfl rfl (by decide +kernel) ⟨Nat.le_of_ble_eq_true rfl, Nat.le_of_ble_eq_true rfl⟩) ⟨k_blind, va_recv hK hP (ci := 1) (q0 := 0) rfl rfl, k_pre hPc hK hNn hDc⟩ rfl rfl hl.1 rfl (lv_room (Nat.le_of_ble_eq_true rfl)) dX2_personIsTold_48 ⟨Nat.le_of_ble_eq_true rfl, Nat.le_of_ble_eq_true rfl⟩) hS hF (fun H locs hP1 hk hS => ?_)
        have hP : va_P D vwCl (wX2 cs a S48 ++ wX5 cs b T_36) _ := k_back hP hD [0, 1, 2] [3, 4, 5, 6, 7, 8, 9, 10, 11, 12, 13, 14, 15, 16, 17, 18] [16, 17, 18, 0, 1, 2, 3, 4, 5, 6, 7, 8, 9, 10, 11, 12, 13, 14, 15] (wcX2_X5_X2_0 cs a b S_36 T_36) (by decide) hk hP1 (wbX2_X5_X2_0_S0 cs a b S_36 T_36 S48)
        have hD := hDA S48 T_36
        refine lv_if_ne (tgt := 56) hx hb dX2_personIsTold_51 (by decide) (fun c51 => ?_) (fun c51 => ?_)
        · have hd := dn_f c51 hd
          refine lv_iinc (v := x2_36 + (1 : Int32)) (lv' := [(2, .int (x2_36 + (1 : Int32))), (0, .ref (a 0)), (1, .ref (b 0))]) hx hb dX2_personIsTold_56 hl (k := 2) rfl rfl (by decide) rfl (fun ls hl => ?_)
          refine lv_goto (tgt := 36) hx hb dX2_personIsTold_59 (by decide) ?_
          exact ih1 (x2_36 + (1 : Int32)) S48 T_36 _ _ _ (dn_bk hd hy1) (lv_sub hl [1, 2, 0] rfl) hP hS
        · have hd := dn_t c51 hd
          have hd := dn_up hd hy1
          refine lv_iconst (v := (0 : Int32)) hx hb dX2_personIsTold_54 (by decide) ?_
          obtain ⟨e1, e2, e3⟩ := dn_s3 hd
          exact k_zret hx hb hr rfl hQ hAe e1 (by rw [← e2, ← e3]) hP hS hlocks dX2_personIsTold_55
  unfold nX2_personIsTold at hd
  refine lv_aload_n hx hb dX2_personIsTold_0 rfl (lv_at hl 1 rfl) ?_
  refine va_get (D := D) (ci := 3) (v := .int (T 0 12)) (C := RX5) (T := TX5) (N := 15) hx hb hts (fun w h => List.mem_cons_of_mem _ (List.mem_append_left _ (List.mem_append_left _ (List.mem_append_right _ h)))) hown hK hP 3 rfl rfl 12 (by decide) (hts (.fieldLink RX2 76 "LeastNeed$Valley" "people" "I") (List.mem_of_getElem? (i := 1) rfl)) (fun _ h9 => h9) rfl dX2_personIsTold_1 ?_
  refine lv_bipush (v := (7 : Int32)) hx hb dX2_personIsTold_4 (by decide) ?_
  refine lv_icmp_lt (tgt := 11) hx hb dX2_personIsTold_6 (by decide) (fun c6 => ?_) (fun c6 => ?_)
  · have hd := dn_t c6 hd
    refine lv_aload_n hx hb dX2_personIsTold_11 rfl (lv_at hl 0 rfl) ?_
    refine lv_iconst (v := (0 : Int32)) hx hb dX2_personIsTold_12 (by decide) ?_
    refine lv_iconst (v := (0 : Int32)) hx hb dX2_personIsTold_13 (by decide) ?_
    refine lv_iconst (v := (5 : Int32)) hx hb dX2_personIsTold_14 (by decide) ?_
    obtain ⟨r15, S15, hq15, hd⟩ := dn_b2 hd
    have hPc : va_P D vwCl (wX2 cs a S) _ := k_sub hP [0, 1, 2] (wcX2_X5_X2_0 cs a b S T)
    have hDc : va_D A (wX2 cs a S) := hD.sub [0, 1, 2] (by decide) (wcX2_X5_X2_0 cs a b S T)
    have hF := k_self hDc hS hA
    refine k_run_i (va_runV (As := [.int (0 : Int32), .int (0 : Int32), .int (5 : Int32)]) (rest := []) ⟨hx, hb, hml, hown, hts⟩ (mX2_number l D cs a S (0 : Int32) (0 : Int32) (5 : Int32) r15 S15 hq15 _) (cwV 3 hts gX2_personIsTold_X2_number rfl rfl rfl (by decide +kernel) ⟨Nat.le_of_ble_eq_true rfl, Nat.le_of_ble_eq_true rfl⟩) ⟨k_blind, va_recv hK hP (ci := 1) (q0 := 0) rfl rfl, k_pre hPc hK hNn hDc⟩ rfl rfl hl.1 rfl (lv_room (Nat.le_of_ble_eq_true rfl)) dX2_personIsTold_15 ⟨Nat.le_of_ble_eq_true rfl, Nat.le_of_ble_eq_true rfl⟩) hS hF (fun H locs hP1 hk hS => ?_)
    have hP : va_P D vwCl (wX2 cs a S15 ++ wX5 cs b T) _ := k_back hP hD [0, 1, 2] [3, 4, 5, 6, 7, 8, 9, 10, 11, 12, 13, 14, 15, 16, 17, 18] [16, 17, 18, 0, 1, 2, 3, 4, 5, 6, 7, 8, 9, 10, 11, 12, 13, 14, 15] (wcX2_X5_X2_0 cs a b S T) (by decide) hk hP1 (wbX2_X5_X2_0_S0 cs a b S T S15)
    have hD := hDA S15 T
    refine lv_if_eq (tgt := 32) hx hb dX2_personIsTold_18 (by decide) (fun c18 => ?_) (fun c18 => ?_)
    · have hd := dn_t c18 hd
      refine lv_iconst (v := (0 : Int32)) hx hb dX2_personIsTold_32 (by decide) ?_
      obtain ⟨e1, e2, e3⟩ := dn_s3 hd
      exact k_zret hx hb hr rfl hQ hAe e1 (by rw [← e2, ← e3]) hP hS hlocks dX2_personIsTold_33
    · have hd := dn_f c18 hd
      refine lv_aload_n hx hb dX2_personIsTold_21 rfl (lv_at hl 0 rfl) ?_
      refine lv_iconst (v := (1 : Int32)) hx hb dX2_personIsTold_22 (by decide) ?_
      refine lv_iconst (v := (0 : Int32)) hx hb dX2_personIsTold_23 (by decide) ?_
      refine lv_bipush (v := (19 : Int32)) hx hb dX2_personIsTold_24 (by decide) ?_
      obtain ⟨r26, S26, hq26, hd⟩ := dn_b2 hd
      have hPc : va_P D vwCl (wX2 cs a S15) _ := k_sub hP [0, 1, 2] (wcX2_X5_X2_0 cs a b S15 T)
      have hDc : va_D A (wX2 cs a S15) := hD.sub [0, 1, 2] (by decide) (wcX2_X5_X2_0 cs a b S15 T)
      have hF := k_self hDc hS hA
      refine k_run_i (va_runV (As := [.int (1 : Int32), .int (0 : Int32), .int (19 : Int32)]) (rest := []) ⟨hx, hb, hml, hown, hts⟩ (mX2_number l D cs a S15 (1 : Int32) (0 : Int32) (19 : Int32) r26 S26 hq26 _) (cwV 3 hts gX2_personIsTold_X2_number rfl rfl rfl (by decide +kernel) ⟨Nat.le_of_ble_eq_true rfl, Nat.le_of_ble_eq_true rfl⟩) ⟨k_blind, va_recv hK hP (ci := 1) (q0 := 0) rfl rfl, k_pre hPc hK hNn hDc⟩ rfl rfl hl.1 rfl (lv_room (Nat.le_of_ble_eq_true rfl)) dX2_personIsTold_26 ⟨Nat.le_of_ble_eq_true rfl, Nat.le_of_ble_eq_true rfl⟩) hS hF (fun H locs hP1 hk hS => ?_)
      have hP : va_P D vwCl (wX2 cs a S26 ++ wX5 cs b T) _ := k_back hP hD [0, 1, 2] [3, 4, 5, 6, 7, 8, 9, 10, 11, 12, 13, 14, 15, 16, 17, 18] [16, 17, 18, 0, 1, 2, 3, 4, 5, 6, 7, 8, 9, 10, 11, 12, 13, 14, 15] (wcX2_X5_X2_0 cs a b S15 T) (by decide) hk hP1 (wbX2_X5_X2_0_S0 cs a b S15 T S26)
      have hD := hDA S26 T
      refine lv_if_ne (tgt := 34) hx hb dX2_personIsTold_29 (by decide) (fun c29 => ?_) (fun c29 => ?_)
      · have hd := dn_f c29 hd
        refine lv_iconst (v := (0 : Int32)) hx hb dX2_personIsTold_34 (by decide) ?_
        refine lv_istore_n (lv' := [(2, .int (0 : Int32)), (0, .ref (a 0)), (1, .ref (b 0))]) hx hb dX2_personIsTold_35 rfl hl (by decide) rfl (fun ls hl => ?_)
        exact Lo36 1000 (0 : Int32) S26 T _ _ _ hd (lv_sub hl [1, 2, 0] rfl) hP hS
      · have hd := dn_t c29 hd
        refine lv_iconst (v := (0 : Int32)) hx hb dX2_personIsTold_32 (by decide) ?_
        obtain ⟨e1, e2, e3⟩ := dn_s3 hd
        exact k_zret hx hb hr rfl hQ hAe e1 (by rw [← e2, ← e3]) hP hS hlocks dX2_personIsTold_33
  · have hd := dn_f c6 hd
    refine lv_iconst (v := (0 : Int32)) hx hb dX2_personIsTold_9 (by decide) ?_
    obtain ⟨e1, e2, e3⟩ := dn_s3 hd
    exact k_zret hx hb hr rfl hQ hAe e1 (by rw [← e2, ← e3]) hP hS hlocks dX2_personIsTold_10
-- LeastNeed$Reader.coatIsTold(LLeastNeed$Valley;)Z
set_option maxRecDepth 20000 in
def nX2_coatIsTold (S : Nat → Nat → Int32) (T : Nat → Nat → Int32) : Option (Int32 × (Nat → Nat → Int32) × (Nat → Nat → Int32)) := k_b2 (nX2_number S (0 : Int32) (0 : Int32) ((T 0 12) - (1 : Int32))) (fun r9 S9 => if r9 = 0 then some ((0 : Int32), S9, T) else k_b2 (nX2_number S9 (1 : Int32) (0 : Int32) (9 : Int32)) (fun r20 S20 => if r20 = 0 then some ((0 : Int32), S20, T) else k_b2 (nX2_itemEnds S20) (fun r27 S27 => if r27 = 0 then some ((0 : Int32), S27, T) else if (S27 2 0) < 0 ∨ 7 ≤ (S27 2 0).toNatClampNeg then none else some ((1 : Int32), S27, (k_w T 3 ((S27 2 0).toNatClampNeg) (S27 2 1))))))
set_option maxHeartbeats 4000000 in
set_option maxRecDepth 100000 in
theorem mX2_coatIsTold (l : Launch) (D : va_G) (cs : Nat → ClassId) (a : Nat → Nat) (b : Nat → Nat) (S : Nat → Nat → Int32) (T : Nat → Nat → Int32) (r9 : Int32) (S9 : (Nat → Nat → Int32)) (T9 : (Nat → Nat → Int32)) (hd : nX2_coatIsTold S T = some (r9, S9, T9)) : ∀ sz : Nat, Met l yX2_coatIsTold wsX2_coatIsTold ({ frames := 3, cells := 0, slots := 0, locals := 64 }) (k_Pc D cs [.ref (a 0), .ref (b 0)] (wX2 cs a S ++ wX5 cs b T) sz) (k_Qi D r9 (wX2 cs a S ++ wX5 cs b T) (wX2 cs a S9 ++ wX5 cs b T9) sz) 0 0 (va_A (wX2 cs a S ++ wX5 cs b T) sz) := by
  intro sz
  refine Met.ofW (cc := cX2_coatIsTold) (maxL := 2) (ret := (some .boolean)) (by decide) rfl ?_
  intro p e s m args below meth c s₁ B hml hv
  obtain ⟨rfl, hsz, hP, hK, hD0, hNn⟩ := hv
  have hx := B.exec
  have hb := B.bytes
  have hr := B.returns
  have hts := atoms_spec (ws := wsX2_coatIsTold) B.pre
  have hown : s.vm.findClass RX2 = some m.cls := findClass_of_methodNamed B.named
  have hlocks := B.notSynchronized
  subst hsz
  obtain ⟨A, hAe⟩ : ∃ A : Nat → Prop, A = va_A (wX2 cs a S ++ wX5 cs b T) s.heap.size := ⟨_, rfl⟩
  have hD : va_D A (wX2 cs a S ++ wX5 cs b T) := by rw [hAe]; exact hD0.self
  have hA : ∀ q : Nat, s.heap.size ≤ q → A q := fun q h => by rw [hAe]; exact Or.inr h
  have hS : va_S A s.heap s.heap [] := va_S.rf
  have hDA : ∀ (S : Nat → Nat → Int32) (T : Nat → Nat → Int32), va_D A (wX2 cs a S ++ wX5 cs b T) := fun S T => k_DA hD rfl
  have hl := lv_entry ([.ref (a 0), .ref (b 0)]) (n := 2) (Nat.le_of_ble_eq_true rfl)
  rw [lg_entry_eq]
  generalize (lg_sl ([.ref (a 0), .ref (b 0)]) ++ List.replicate (2 - (lg_sl ([.ref (a 0), .ref (b 0)])).length) Slot.unset).toArray = ls at hl ⊢
  have hl : lv_has ls 2 [(0, .ref (a 0)), (1, .ref (b 0))] := hl
  obtain ⟨Q, hQ⟩ : ∃ Q, Q = MQ below (k_Qi D r9 (wX2 cs a S ++ wX5 cs b T) (wX2 cs a S9 ++ wX5 cs b T9) s.heap.size) ([.ref (a 0), .ref (b 0)] : List Value).toArray s 0 0 (va_A (wX2 cs a S ++ wX5 cs b T) s.heap.size) := ⟨_, rfl⟩
  rw [← hQ]
  unfold nX2_coatIsTold at hd
  refine lv_aload_n hx hb dX2_coatIsTold_0 rfl (lv_at hl 0 rfl) ?_
  refine lv_iconst (v := (0 : Int32)) hx hb dX2_coatIsTold_1 (by decide) ?_
  refine lv_iconst (v := (0 : Int32)) hx hb dX2_coatIsTold_2 (by decide) ?_
  refine lv_aload_n hx hb dX2_coatIsTold_3 rfl (lv_at hl 1 rfl) ?_
  refine va_get (D := D) (ci := 3) (v := .int (T 0 12)) (C := RX5) (T := TX5) (N := 15) hx hb hts (fun w h => List.mem_cons_of_mem _ (List.mem_append_left _ (List.mem_append_right _ h))) hown hK hP 3 rfl rfl 12 (by decide) (hts (.fieldLink RX2 76 "LeastNeed$Valley" "people" "I") (List.mem_of_getElem? (i := 1) rfl)) (fun _ h9 => h9) rfl dX2_coatIsTold_4 ?_
  refine lv_iconst (v := (1 : Int32)) hx hb dX2_coatIsTold_7 (by decide) ?_
  refine lv_isub hx hb dX2_coatIsTold_8 ?_
  obtain ⟨r9, S9, hq9, hd⟩ := dn_b2 hd
  have hPc : va_P D vwCl (wX2 cs a S) _ := k_sub hP [0, 1, 2] (wcX2_X5_X2_0 cs a b S T)
  have hDc : va_D A (wX2 cs a S) := hD.sub [0, 1, 2] (by decide) (wcX2_X5_X2_0 cs a b S T)
  have hF := k_self hDc hS hA
  refine k_run_i (va_runV (As := [.int (0 : Int32), .int (0 : Int32), .int ((T 0 12) - (1 : Int32))]) (rest := []) ⟨hx, hb, hml, hown, hts⟩ (mX2_number l D cs a S (0 : Int32) (0 : Int32) ((T 0 12) - (1 : Int32)) r9 S9 hq9 _) (cwV 3 hts gX2_coatIsTold_X2_number rfl rfl rfl (by decide +kernel) ⟨Nat.le_of_ble_eq_true rfl, Nat.le_of_ble_eq_true rfl⟩) ⟨k_blind, va_recv hK hP (ci := 1) (q0 := 0) rfl rfl, k_pre hPc hK hNn hDc⟩ rfl rfl hl.1 rfl (lv_room (Nat.le_of_ble_eq_true rfl)) dX2_coatIsTold_9 ⟨Nat.le_of_ble_eq_true rfl, Nat.le_of_ble_eq_true rfl⟩) hS hF (fun H locs hP1 hk hS => ?_)
  have hP : va_P D vwCl (wX2 cs a S9 ++ wX5 cs b T) _ := k_back hP hD [0, 1, 2] [3, 4, 5, 6, 7, 8, 9, 10, 11, 12, 13, 14, 15, 16, 17, 18] [16, 17, 18, 0, 1, 2, 3, 4, 5, 6, 7, 8, 9, 10, 11, 12, 13, 14, 15] (wcX2_X5_X2_0 cs a b S T) (by decide) hk hP1 (wbX2_X5_X2_0_S0 cs a b S T S9)
  have hD := hDA S9 T
  refine lv_if_eq (tgt := 33) hx hb dX2_coatIsTold_12 (by decide) (fun c12 => ?_) (fun c12 => ?_)
  · have hd := dn_t c12 hd
    refine lv_iconst (v := (0 : Int32)) hx hb dX2_coatIsTold_33 (by decide) ?_
    obtain ⟨e1, e2, e3⟩ := dn_s3 hd
    exact k_zret hx hb hr rfl hQ hAe e1 (by rw [← e2, ← e3]) hP hS hlocks dX2_coatIsTold_34
  · have hd := dn_f c12 hd
    refine lv_aload_n hx hb dX2_coatIsTold_15 rfl (lv_at hl 0 rfl) ?_
    refine lv_iconst (v := (1 : Int32)) hx hb dX2_coatIsTold_16 (by decide) ?_
    refine lv_iconst (v := (0 : Int32)) hx hb dX2_coatIsTold_17 (by decide) ?_
    refine lv_bipush (v := (9 : Int32)) hx hb dX2_coatIsTold_18 (by decide) ?_
    obtain ⟨r20, S20, hq20, hd⟩ := dn_b2 hd
    have hPc : va_P D vwCl (wX2 cs a S9) _ := k_sub hP [0, 1, 2] (wcX2_X5_X2_0 cs a b S9 T)
    have hDc : va_D A (wX2 cs a S9) := hD.sub [0, 1, 2] (by decide) (wcX2_X5_X2_0 cs a b S9 T)
    have hF := k_self hDc hS hA
    refine k_run_i (va_runV (As := [.int (1 : Int32), .int (0 : Int32), .int (9 : Int32)]) (rest := []) ⟨hx, hb, hml, hown, hts⟩ (mX2_number l D cs a S9 (1 : Int32) (0 : Int32) (9 : Int32) r20 S20 hq20 _) (cwV 3 hts gX2_coatIsTold_X2_number rfl rfl rfl (by decide +kernel) ⟨Nat.le_of_ble_eq_true rfl, Nat.le_of_ble_eq_true rfl⟩) ⟨k_blind, va_recv hK hP (ci := 1) (q0 := 0) rfl rfl, k_pre hPc hK hNn hDc⟩ rfl rfl hl.1 rfl (lv_room (Nat.le_of_ble_eq_true rfl)) dX2_coatIsTold_20 ⟨Nat.le_of_ble_eq_true rfl, Nat.le_of_ble_eq_true rfl⟩) hS hF (fun H locs hP1 hk hS => ?_)
    have hP : va_P D vwCl (wX2 cs a S20 ++ wX5 cs b T) _ := k_back hP hD [0, 1, 2] [3, 4, 5, 6, 7, 8, 9, 10, 11, 12, 13, 14, 15, 16, 17, 18] [16, 17, 18, 0, 1, 2, 3, 4, 5, 6, 7, 8, 9, 10, 11, 12, 13, 14, 15] (wcX2_X5_X2_0 cs a b S9 T) (by decide) hk hP1 (wbX2_X5_X2_0_S0 cs a b S9 T S20)
    have hD := hDA S20 T
    refine lv_if_eq (tgt := 33) hx hb dX2_coatIsTold_23 (by decide) (fun c23 => ?_) (fun c23 => ?_)
    · have hd := dn_t c23 hd
      refine lv_iconst (v := (0 : Int32)) hx hb dX2_coatIsTold_33 (by decide) ?_
      obtain ⟨e1, e2, e3⟩ := dn_s3 hd
      exact k_zret hx hb hr rfl hQ hAe e1 (by rw [← e2, ← e3]) hP hS hlocks dX2_coatIsTold_34
    · have hd := dn_f c23 hd
      refine lv_aload_n hx hb dX2_coatIsTold_26 rfl (lv_at hl 0 rfl) ?_
      obtain ⟨r27, S27, hq27, hd⟩ := dn_b2 hd
      have hPc : va_P D vwCl (wX2 cs a S20) _ := k_sub hP [0, 1, 2] (wcX2_X5_X2_0 cs a b S20 T)
      have hDc : va_D A (wX2 cs a S20) := hD.sub [0, 1, 2] (by decide) (wcX2_X5_X2_0 cs a b S20 T)
      have hF := k_self hDc hS hA
      refine k_run_i (va_runV (As := []) (rest := []) ⟨hx, hb, hml, hown, hts⟩ (mX2_itemEnds l D cs a S20 r27 S27 hq27 _) (cwV 0 hts gX2_coatIsTold_X2_itemEnds rfl rfl rfl (by decide +kernel) ⟨Nat.le_of_ble_eq_true rfl, Nat.le_of_ble_eq_true rfl⟩) ⟨k_blind, va_recv hK hP (ci := 1) (q0 := 0) rfl rfl, k_pre hPc hK hNn hDc⟩ rfl rfl hl.1 rfl (lv_room (Nat.le_of_ble_eq_true rfl)) dX2_coatIsTold_27 ⟨Nat.le_of_ble_eq_true rfl, Nat.le_of_ble_eq_true rfl⟩) hS hF (fun H locs hP1 hk hS => ?_)
      have hP : va_P D vwCl (wX2 cs a S27 ++ wX5 cs b T) _ := k_back hP hD [0, 1, 2] [3, 4, 5, 6, 7, 8, 9, 10, 11, 12, 13, 14, 15, 16, 17, 18] [16, 17, 18, 0, 1, 2, 3, 4, 5, 6, 7, 8, 9, 10, 11, 12, 13, 14, 15] (wcX2_X5_X2_0 cs a b S20 T) (by decide) hk hP1 (wbX2_X5_X2_0_S0 cs a b S20 T S27)
      have hD := hDA S27 T
      refine lv_if_ne (tgt := 35) hx hb dX2_coatIsTold_30 (by decide) (fun c30 => ?_) (fun c30 => ?_)
      · have hd := dn_f c30 hd
        refine lv_aload_n hx hb dX2_coatIsTold_35 rfl (lv_at hl 1 rfl) ?_
        refine va_get (D := D) (ci := 3) (v := .ref (b 3)) (C := RX5) (T := TX5) (N := 15) hx hb hts (fun w h => List.mem_cons_of_mem _ (List.mem_append_left _ (List.mem_append_right _ h))) hown hK hP 3 rfl rfl 2 (by decide) (hts (.fieldLink RX2 87 "LeastNeed$Valley" "worn" "[I") (List.mem_of_getElem? (i := 2) rfl)) (fun _ h9 => h9) rfl dX2_coatIsTold_36 ?_
        refine lv_aload_n hx hb dX2_coatIsTold_39 rfl (lv_at hl 0 rfl) ?_
        refine va_get (D := D) (ci := 1) (v := .ref (a 2)) (C := RX2) (T := TX2) (N := 6) hx hb hts (fun w h => List.mem_cons_of_mem _ (List.mem_append_right _ h)) hown hK hP 0 rfl rfl 1 (by decide) (hts (.fieldLink RX2 15 "LeastNeed$Reader" "numbers" "[I") (List.mem_of_getElem? (i := 3) rfl)) (fun _ h9 => h9) rfl dX2_coatIsTold_40 ?_
        refine lv_iconst (v := (0 : Int32)) hx hb dX2_coatIsTold_43 (by decide) ?_
        refine k_iald (D := D) (k := 0) (by rfl) hx hb hK hP 2 1 rfl rfl (k_in (by decide)) dX2_coatIsTold_44 ?_
        refine lv_aload_n hx hb dX2_coatIsTold_45 rfl (lv_at hl 0 rfl) ?_
        refine va_get (D := D) (ci := 1) (v := .ref (a 2)) (C := RX2) (T := TX2) (N := 6) hx hb hts (fun w h => List.mem_cons_of_mem _ (List.mem_append_right _ h)) hown hK hP 0 rfl rfl 1 (by decide) (hts (.fieldLink RX2 15 "LeastNeed$Reader" "numbers" "[I") (List.mem_of_getElem? (i := 3) rfl)) (fun _ h9 => h9) rfl dX2_coatIsTold_46 ?_
        refine lv_iconst (v := (1 : Int32)) hx hb dX2_coatIsTold_49 (by decide) ?_
        refine k_iald (D := D) (k := 1) (by rfl) hx hb hK hP 2 1 rfl rfl (k_in (by decide)) dX2_coatIsTold_50 ?_
        obtain ⟨hi51, hd⟩ := dn_i hd
        refine k_iast (D := D) (k := (S27 2 0).toNatClampNeg) (by rfl) hx hb hK hP hD hS 6 1 rfl rfl hi51 dX2_coatIsTold_51 (fun H locs hP hD hS => ?_)
        have hP : va_P D vwCl (wX2 cs a S27 ++ wX5 cs b (k_w T 3 ((S27 2 0).toNatClampNeg) (S27 2 1))) _ := k_eq hP (wsX2_X5_a6 cs a b S27 T ((S27 2 0).toNatClampNeg) (S27 2 1))
        have hD := hDA S27 (k_w T 3 ((S27 2 0).toNatClampNeg) (S27 2 1))
        refine lv_iconst (v := (1 : Int32)) hx hb dX2_coatIsTold_52 (by decide) ?_
        obtain ⟨e1, e2, e3⟩ := dn_s3 hd
        exact k_zret hx hb hr rfl hQ hAe e1 (by rw [← e2, ← e3]) hP hS hlocks dX2_coatIsTold_53
      · have hd := dn_t c30 hd
        refine lv_iconst (v := (0 : Int32)) hx hb dX2_coatIsTold_33 (by decide) ?_
        obtain ⟨e1, e2, e3⟩ := dn_s3 hd
        exact k_zret hx hb hr rfl hQ hAe e1 (by rw [← e2, ← e3]) hP hS hlocks dX2_coatIsTold_34
-- LeastNeed$Reader.thingIsTold(LLeastNeed$Valley;)Z
set_option maxRecDepth 20000 in
def nX2_thingIsTold (S : Nat → Nat → Int32) (T : Nat → Nat → Int32) : Option (Int32 × (Nat → Nat → Int32) × (Nat → Nat → Int32)) := if (T 0 13) < (5 : Int32) then k_b2 (nX2_number S (0 : Int32) (0 : Int32) (5 : Int32)) (fun r14 S14 => if r14 = 0 then some ((0 : Int32), S14, T) else k_b2 (nX2_number S14 (1 : Int32) (0 : Int32) (3 : Int32)) (fun r24 S24 => if r24 = 0 then some ((0 : Int32), S24, T) else k_b2 (nX2_number S24 (2 : Int32) (0 : Int32) ((T 0 12) - (1 : Int32))) (fun r41 S41 => if r41 = 0 then some ((0 : Int32), S41, T) else k_b2 (nX2_itemEnds S41) (fun r48 S48 => if r48 = 0 then some ((0 : Int32), S48, T) else k_b1 (nX5_addThing T (S48 2 0) (S48 2 1) (S48 2 2)) (fun S75 => some ((1 : Int32), S48, S75)))))) else some ((0 : Int32), S, T)
set_option maxHeartbeats 4000000 in
set_option maxRecDepth 100000 in
theorem mX2_thingIsTold (l : Launch) (D : va_G) (cs : Nat → ClassId) (a : Nat → Nat) (b : Nat → Nat) (S : Nat → Nat → Int32) (T : Nat → Nat → Int32) (r9 : Int32) (S9 : (Nat → Nat → Int32)) (T9 : (Nat → Nat → Int32)) (hd : nX2_thingIsTold S T = some (r9, S9, T9)) : ∀ sz : Nat, Met l yX2_thingIsTold wsX2_thingIsTold ({ frames := 3, cells := 0, slots := 0, locals := 64 }) (k_Pc D cs [.ref (a 0), .ref (b 0)] (wX2 cs a S ++ wX5 cs b T) sz) (k_Qi D r9 (wX2 cs a S ++ wX5 cs b T) (wX2 cs a S9 ++ wX5 cs b T9) sz) 0 0 (va_A (wX2 cs a S ++ wX5 cs b T) sz) := by
  intro sz
  refine Met.ofW (cc := cX2_thingIsTold) (maxL := 2) (ret := (some .boolean)) (by decide) rfl ?_
  intro p e s m args below meth c s₁ B hml hv
  obtain ⟨rfl, hsz, hP, hK, hD0, hNn⟩ := hv
  have hx := B.exec
  have hb := B.bytes
  have hr := B.returns
  have hts := atoms_spec (ws := wsX2_thingIsTold) B.pre
  have hown : s.vm.findClass RX2 = some m.cls := findClass_of_methodNamed B.named
  have hlocks := B.notSynchronized
  subst hsz
  obtain ⟨A, hAe⟩ : ∃ A : Nat → Prop, A = va_A (wX2 cs a S ++ wX5 cs b T) s.heap.size := ⟨_, rfl⟩
  have hD : va_D A (wX2 cs a S ++ wX5 cs b T) := by rw [hAe]; exact hD0.self
  have hA : ∀ q : Nat, s.heap.size ≤ q → A q := fun q h => by rw [hAe]; exact Or.inr h
  have hS : va_S A s.heap s.heap [] := va_S.rf
  have hDA : ∀ (S : Nat → Nat → Int32) (T : Nat → Nat → Int32), va_D A (wX2 cs a S ++ wX5 cs b T) := fun S T => k_DA hD rfl
  have hl := lv_entry ([.ref (a 0), .ref (b 0)]) (n := 2) (Nat.le_of_ble_eq_true rfl)
  rw [lg_entry_eq]
  generalize (lg_sl ([.ref (a 0), .ref (b 0)]) ++ List.replicate (2 - (lg_sl ([.ref (a 0), .ref (b 0)])).length) Slot.unset).toArray = ls at hl ⊢
  have hl : lv_has ls 2 [(0, .ref (a 0)), (1, .ref (b 0))] := hl
  obtain ⟨Q, hQ⟩ : ∃ Q, Q = MQ below (k_Qi D r9 (wX2 cs a S ++ wX5 cs b T) (wX2 cs a S9 ++ wX5 cs b T9) s.heap.size) ([.ref (a 0), .ref (b 0)] : List Value).toArray s 0 0 (va_A (wX2 cs a S ++ wX5 cs b T) s.heap.size) := ⟨_, rfl⟩
  rw [← hQ]
  unfold nX2_thingIsTold at hd
  refine lv_aload_n hx hb dX2_thingIsTold_0 rfl (lv_at hl 1 rfl) ?_
  refine va_get (D := D) (ci := 3) (v := .int (T 0 13)) (C := RX5) (T := TX5) (N := 15) hx hb hts (fun w h => List.mem_cons_of_mem _ (List.mem_append_left _ (List.mem_append_left _ (List.mem_append_right _ h)))) hown hK hP 3 rfl rfl 13 (by decide) (hts (.fieldLink RX2 90 "LeastNeed$Valley" "things" "I") (List.mem_of_getElem? (i := 1) rfl)) (fun _ h9 => h9) rfl dX2_thingIsTold_1 ?_
  refine lv_iconst (v := (5 : Int32)) hx hb dX2_thingIsTold_4 (by decide) ?_
  refine lv_icmp_lt (tgt := 10) hx hb dX2_thingIsTold_5 (by decide) (fun c5 => ?_) (fun c5 => ?_)
  · have hd := dn_t c5 hd
    refine lv_aload_n hx hb dX2_thingIsTold_10 rfl (lv_at hl 0 rfl) ?_
    refine lv_iconst (v := (0 : Int32)) hx hb dX2_thingIsTold_11 (by decide) ?_
    refine lv_iconst (v := (0 : Int32)) hx hb dX2_thingIsTold_12 (by decide) ?_
    refine lv_iconst (v := (5 : Int32)) hx hb dX2_thingIsTold_13 (by decide) ?_
    obtain ⟨r14, S14, hq14, hd⟩ := dn_b2 hd
    have hPc : va_P D vwCl (wX2 cs a S) _ := k_sub hP [0, 1, 2] (wcX2_X5_X2_0 cs a b S T)
    have hDc : va_D A (wX2 cs a S) := hD.sub [0, 1, 2] (by decide) (wcX2_X5_X2_0 cs a b S T)
    have hF := k_self hDc hS hA
    refine k_run_i (va_runV (As := [.int (0 : Int32), .int (0 : Int32), .int (5 : Int32)]) (rest := []) ⟨hx, hb, hml, hown, hts⟩ (mX2_number l D cs a S (0 : Int32) (0 : Int32) (5 : Int32) r14 S14 hq14 _) (cwV 3 hts gX2_thingIsTold_X2_number rfl rfl rfl (by decide +kernel) ⟨Nat.le_of_ble_eq_true rfl, Nat.le_of_ble_eq_true rfl⟩) ⟨k_blind, va_recv hK hP (ci := 1) (q0 := 0) rfl rfl, k_pre hPc hK hNn hDc⟩ rfl rfl hl.1 rfl (lv_room (Nat.le_of_ble_eq_true rfl)) dX2_thingIsTold_14 ⟨Nat.le_of_ble_eq_true rfl, Nat.le_of_ble_eq_true rfl⟩) hS hF (fun H locs hP1 hk hS => ?_)
    have hP : va_P D vwCl (wX2 cs a S14 ++ wX5 cs b T) _ := k_back hP hD [0, 1, 2] [3, 4, 5, 6, 7, 8, 9, 10, 11, 12, 13, 14, 15, 16, 17, 18] [16, 17, 18, 0, 1, 2, 3, 4, 5, 6, 7, 8, 9, 10, 11, 12, 13, 14, 15] (wcX2_X5_X2_0 cs a b S T) (by decide) hk hP1 (wbX2_X5_X2_0_S0 cs a b S T S14)
    have hD := hDA S14 T
    refine lv_if_eq (tgt := 30) hx hb dX2_thingIsTold_17 (by decide) (fun c17 => ?_) (fun c17 => ?_)
    · have hd := dn_t c17 hd
      refine lv_iconst (v := (0 : Int32)) hx hb dX2_thingIsTold_30 (by decide) ?_
      obtain ⟨e1, e2, e3⟩ := dn_s3 hd
      exact k_zret hx hb hr rfl hQ hAe e1 (by rw [← e2, ← e3]) hP hS hlocks dX2_thingIsTold_31
    · have hd := dn_f c17 hd
      refine lv_aload_n hx hb dX2_thingIsTold_20 rfl (lv_at hl 0 rfl) ?_
      refine lv_iconst (v := (1 : Int32)) hx hb dX2_thingIsTold_21 (by decide) ?_
      refine lv_iconst (v := (0 : Int32)) hx hb dX2_thingIsTold_22 (by decide) ?_
      refine lv_iconst (v := (3 : Int32)) hx hb dX2_thingIsTold_23 (by decide) ?_
      obtain ⟨r24, S24, hq24, hd⟩ := dn_b2 hd
      have hPc : va_P D vwCl (wX2 cs a S14) _ := k_sub hP [0, 1, 2] (wcX2_X5_X2_0 cs a b S14 T)
      have hDc : va_D A (wX2 cs a S14) := hD.sub [0, 1, 2] (by decide) (wcX2_X5_X2_0 cs a b S14 T)
      have hF := k_self hDc hS hA
      refine k_run_i (va_runV (As := [.int (1 : Int32), .int (0 : Int32), .int (3 : Int32)]) (rest := []) ⟨hx, hb, hml, hown, hts⟩ (mX2_number l D cs a S14 (1 : Int32) (0 : Int32) (3 : Int32) r24 S24 hq24 _) (cwV 3 hts gX2_thingIsTold_X2_number rfl rfl rfl (by decide +kernel) ⟨Nat.le_of_ble_eq_true rfl, Nat.le_of_ble_eq_true rfl⟩) ⟨k_blind, va_recv hK hP (ci := 1) (q0 := 0) rfl rfl, k_pre hPc hK hNn hDc⟩ rfl rfl hl.1 rfl (lv_room (Nat.le_of_ble_eq_true rfl)) dX2_thingIsTold_24 ⟨Nat.le_of_ble_eq_true rfl, Nat.le_of_ble_eq_true rfl⟩) hS hF (fun H locs hP1 hk hS => ?_)
      have hP : va_P D vwCl (wX2 cs a S24 ++ wX5 cs b T) _ := k_back hP hD [0, 1, 2] [3, 4, 5, 6, 7, 8, 9, 10, 11, 12, 13, 14, 15, 16, 17, 18] [16, 17, 18, 0, 1, 2, 3, 4, 5, 6, 7, 8, 9, 10, 11, 12, 13, 14, 15] (wcX2_X5_X2_0 cs a b S14 T) (by decide) hk hP1 (wbX2_X5_X2_0_S0 cs a b S14 T S24)
      have hD := hDA S24 T
      refine lv_if_ne (tgt := 32) hx hb dX2_thingIsTold_27 (by decide) (fun c27 => ?_) (fun c27 => ?_)
      · have hd := dn_f c27 hd
        refine lv_aload_n hx hb dX2_thingIsTold_32 rfl (lv_at hl 0 rfl) ?_
        refine lv_iconst (v := (2 : Int32)) hx hb dX2_thingIsTold_33 (by decide) ?_
        refine lv_iconst (v := (0 : Int32)) hx hb dX2_thingIsTold_34 (by decide) ?_
        refine lv_aload_n hx hb dX2_thingIsTold_35 rfl (lv_at hl 1 rfl) ?_
        refine va_get (D := D) (ci := 3) (v := .int (T 0 12)) (C := RX5) (T := TX5) (N := 15) hx hb hts (fun w h => List.mem_cons_of_mem _ (List.mem_append_left _ (List.mem_append_left _ (List.mem_append_right _ h)))) hown hK hP 3 rfl rfl 12 (by decide) (hts (.fieldLink RX2 76 "LeastNeed$Valley" "people" "I") (List.mem_of_getElem? (i := 2) rfl)) (fun _ h9 => h9) rfl dX2_thingIsTold_36 ?_
        refine lv_iconst (v := (1 : Int32)) hx hb dX2_thingIsTold_39 (by decide) ?_
        refine lv_isub hx hb dX2_thingIsTold_40 ?_
        obtain ⟨r41, S41, hq41, hd⟩ := dn_b2 hd
        have hPc : va_P D vwCl (wX2 cs a S24) _ := k_sub hP [0, 1, 2] (wcX2_X5_X2_0 cs a b S24 T)
        have hDc : va_D A (wX2 cs a S24) := hD.sub [0, 1, 2] (by decide) (wcX2_X5_X2_0 cs a b S24 T)
        have hF := k_self hDc hS hA
        refine k_run_i (va_runV (As := [.int (2 : Int32), .int (0 : Int32), .int ((T 0 12) - (1 : Int32))]) (rest := []) ⟨hx, hb, hml, hown, hts⟩ (mX2_number l D cs a S24 (2 : Int32) (0 : Int32) ((T 0 12) - (1 : Int32)) r41 S41 hq41 _) (cwV 3 hts gX2_thingIsTold_X2_number rfl rfl rfl (by decide +kernel) ⟨Nat.le_of_ble_eq_true rfl, Nat.le_of_ble_eq_true rfl⟩) ⟨k_blind, va_recv hK hP (ci := 1) (q0 := 0) rfl rfl, k_pre hPc hK hNn hDc⟩ rfl rfl hl.1 rfl (lv_room (Nat.le_of_ble_eq_true rfl)) dX2_thingIsTold_41 ⟨Nat.le_of_ble_eq_true rfl, Nat.le_of_ble_eq_true rfl⟩) hS hF (fun H locs hP1 hk hS => ?_)
        have hP : va_P D vwCl (wX2 cs a S41 ++ wX5 cs b T) _ := k_back hP hD [0, 1, 2] [3, 4, 5, 6, 7, 8, 9, 10, 11, 12, 13, 14, 15, 16, 17, 18] [16, 17, 18, 0, 1, 2, 3, 4, 5, 6, 7, 8, 9, 10, 11, 12, 13, 14, 15] (wcX2_X5_X2_0 cs a b S24 T) (by decide) hk hP1 (wbX2_X5_X2_0_S0 cs a b S24 T S41)
        have hD := hDA S41 T
        refine lv_if_eq (tgt := 54) hx hb dX2_thingIsTold_44 (by decide) (fun c44 => ?_) (fun c44 => ?_)
        · have hd := dn_t c44 hd
          refine lv_iconst (v := (0 : Int32)) hx hb dX2_thingIsTold_54 (by decide) ?_
          obtain ⟨e1, e2, e3⟩ := dn_s3 hd
          exact k_zret hx hb hr rfl hQ hAe e1 (by rw [← e2, ← e3]) hP hS hlocks dX2_thingIsTold_55
        · have hd := dn_f c44 hd
          refine lv_aload_n hx hb dX2_thingIsTold_47 rfl (lv_at hl 0 rfl) ?_
          obtain ⟨r48, S48, hq48, hd⟩ := dn_b2 hd
          have hPc : va_P D vwCl (wX2 cs a S41) _ := k_sub hP [0, 1, 2] (wcX2_X5_X2_0 cs a b S41 T)
          have hDc : va_D A (wX2 cs a S41) := hD.sub [0, 1, 2] (by decide) (wcX2_X5_X2_0 cs a b S41 T)
          have hF := k_self hDc hS hA
          refine k_run_i (va_runV (As := []) (rest := []) ⟨hx, hb, hml, hown, hts⟩ (mX2_itemEnds l D cs a S41 r48 S48 hq48 _) (cwV 0 hts gX2_thingIsTold_X2_itemEnds rfl rfl rfl (by decide +kernel) ⟨Nat.le_of_ble_eq_true rfl, Nat.le_of_ble_eq_true rfl⟩) ⟨k_blind, va_recv hK hP (ci := 1) (q0 := 0) rfl rfl, k_pre hPc hK hNn hDc⟩ rfl rfl hl.1 rfl (lv_room (Nat.le_of_ble_eq_true rfl)) dX2_thingIsTold_48 ⟨Nat.le_of_ble_eq_true rfl, Nat.le_of_ble_eq_true rfl⟩) hS hF (fun H locs hP1 hk hS => ?_)
          have hP : va_P D vwCl (wX2 cs a S48 ++ wX5 cs b T) _ := k_back hP hD [0, 1, 2] [3, 4, 5, 6, 7, 8, 9, 10, 11, 12, 13, 14, 15, 16, 17, 18] [16, 17, 18, 0, 1, 2, 3, 4, 5, 6, 7, 8, 9, 10, 11, 12, 13, 14, 15] (wcX2_X5_X2_0 cs a b S41 T) (by decide) hk hP1 (wbX2_X5_X2_0_S0 cs a b S41 T S48)
          have hD := hDA S48 T
          refine lv_if_ne (tgt := 56) hx hb dX2_thingIsTold_51 (by decide) (fun c51 => ?_) (fun c51 => ?_)
          · have hd := dn_f c51 hd
            refine lv_aload_n hx hb dX2_thingIsTold_56 rfl (lv_at hl 1 rfl) ?_
            refine lv_aload_n hx hb dX2_thingIsTold_57 rfl (lv_at hl 0 rfl) ?_
            refine va_get (D := D) (ci := 1) (v := .ref (a 2)) (C := RX2) (T := TX2) (N := 6) hx hb hts (fun w h => List.mem_cons_of_mem _ (List.mem_append_left _ (List.mem_append_right _ h))) hown hK hP 0 rfl rfl 1 (by decide) (hts (.fieldLink RX2 15 "LeastNeed$Reader" "numbers" "[I") (List.mem_of_getElem? (i := 3) rfl)) (fun _ h9 => h9) rfl dX2_thingIsTold_58 ?_
            refine lv_iconst (v := (0 : Int32)) hx hb dX2_thingIsTold_61 (by decide) ?_
            refine k_iald (D := D) (k := 0) (by rfl) hx hb hK hP 2 1 rfl rfl (k_in (by decide)) dX2_thingIsTold_62 ?_
            refine lv_aload_n hx hb dX2_thingIsTold_63 rfl (lv_at hl 0 rfl) ?_
            refine va_get (D := D) (ci := 1) (v := .ref (a 2)) (C := RX2) (T := TX2) (N := 6) hx hb hts (fun w h => List.mem_cons_of_mem _ (List.mem_append_left _ (List.mem_append_right _ h))) hown hK hP 0 rfl rfl 1 (by decide) (hts (.fieldLink RX2 15 "LeastNeed$Reader" "numbers" "[I") (List.mem_of_getElem? (i := 3) rfl)) (fun _ h9 => h9) rfl dX2_thingIsTold_64 ?_
            refine lv_iconst (v := (1 : Int32)) hx hb dX2_thingIsTold_67 (by decide) ?_
            refine k_iald (D := D) (k := 1) (by rfl) hx hb hK hP 2 1 rfl rfl (k_in (by decide)) dX2_thingIsTold_68 ?_
            refine lv_aload_n hx hb dX2_thingIsTold_69 rfl (lv_at hl 0 rfl) ?_
            refine va_get (D := D) (ci := 1) (v := .ref (a 2)) (C := RX2) (T := TX2) (N := 6) hx hb hts (fun w h => List.mem_cons_of_mem _ (List.mem_append_left _ (List.mem_append_right _ h))) hown hK hP 0 rfl rfl 1 (by decide) (hts (.fieldLink RX2 15 "LeastNeed$Reader" "numbers" "[I") (List.mem_of_getElem? (i := 3) rfl)) (fun _ h9 => h9) rfl dX2_thingIsTold_70 ?_
            refine lv_iconst (v := (2 : Int32)) hx hb dX2_thingIsTold_73 (by decide) ?_
            refine k_iald (D := D) (k := 2) (by rfl) hx hb hK hP 2 1 rfl rfl (k_in (by decide)) dX2_thingIsTold_74 ?_
            obtain ⟨S75, hq75, hd⟩ := dn_b1 hd
            have hPc : va_P D vwCl (wX5 cs b T) _ := k_sub hP [3, 4, 5, 6, 7, 8, 9, 10, 11, 12, 13, 14, 15, 16, 17, 18] (wcX2_X5_X5_0b cs a b S48 T)
            have hDc : va_D A (wX5 cs b T) := hD.sub [3, 4, 5, 6, 7, 8, 9, 10, 11, 12, 13, 14, 15, 16, 17, 18] (by decide) (wcX2_X5_X5_0b cs a b S48 T)
            have hF := k_self hDc hS hA
            refine k_run_v (va_runV (As := [.int (S48 2 0), .int (S48 2 1), .int (S48 2 2)]) (rest := []) ⟨hx, hb, hml, hown, hts⟩ (mX5_addThing l D cs b T (S48 2 0) (S48 2 1) (S48 2 2) S75 hq75 _) (cwV 3 hts gX2_thingIsTold_X5_addThing rfl rfl rfl (by decide +kernel) ⟨Nat.le_of_ble_eq_true rfl, Nat.le_of_ble_eq_true rfl⟩) ⟨k_blind, va_recv hK hP (ci := 3) (q0 := 3) rfl rfl, k_pre hPc hK hNn hDc⟩ rfl rfl hl.1 rfl (lv_room (Nat.le_of_ble_eq_true rfl)) dX2_thingIsTold_75 ⟨Nat.le_of_ble_eq_true rfl, Nat.le_of_ble_eq_true rfl⟩) hS hF (fun H locs hP1 hk hS => ?_)
            have hP : va_P D vwCl (wX2 cs a S48 ++ wX5 cs b S75) _ := k_back hP hD [3, 4, 5, 6, 7, 8, 9, 10, 11, 12, 13, 14, 15, 16, 17, 18] [0, 1, 2] [0, 1, 2, 3, 4, 5, 6, 7, 8, 9, 10, 11, 12, 13, 14, 15, 16, 17, 18] (wcX2_X5_X5_0b cs a b S48 T) (by decide) hk hP1 (wbX2_X5_X5_0b_S0 cs a b S48 T S75)
            have hD := hDA S48 S75
            refine lv_iconst (v := (1 : Int32)) hx hb dX2_thingIsTold_78 (by decide) ?_
            obtain ⟨e1, e2, e3⟩ := dn_s3 hd
            exact k_zret hx hb hr rfl hQ hAe e1 (by rw [← e2, ← e3]) hP hS hlocks dX2_thingIsTold_79
          · have hd := dn_t c51 hd
            refine lv_iconst (v := (0 : Int32)) hx hb dX2_thingIsTold_54 (by decide) ?_
            obtain ⟨e1, e2, e3⟩ := dn_s3 hd
            exact k_zret hx hb hr rfl hQ hAe e1 (by rw [← e2, ← e3]) hP hS hlocks dX2_thingIsTold_55
      · have hd := dn_t c27 hd
        refine lv_iconst (v := (0 : Int32)) hx hb dX2_thingIsTold_30 (by decide) ?_
        obtain ⟨e1, e2, e3⟩ := dn_s3 hd
        exact k_zret hx hb hr rfl hQ hAe e1 (by rw [← e2, ← e3]) hP hS hlocks dX2_thingIsTold_31
  · have hd := dn_f c5 hd
    refine lv_iconst (v := (0 : Int32)) hx hb dX2_thingIsTold_8 (by decide) ?_
    obtain ⟨e1, e2, e3⟩ := dn_s3 hd
    exact k_zret hx hb hr rfl hQ hAe e1 (by rw [← e2, ← e3]) hP hS hlocks dX2_thingIsTold_9
-- LeastNeed$Reader.lossIsTold(LLeastNeed$Valley;)Z
set_option maxRecDepth 20000 in
def nX2_lossIsTold (S : Nat → Nat → Int32) (T : Nat → Nat → Int32) : Option (Int32 × (Nat → Nat → Int32) × (Nat → Nat → Int32)) := k_b2 (nX2_number S (0 : Int32) (0 : Int32) ((T 0 13) - (1 : Int32))) (fun r9 S9 => if r9 = 0 then some ((0 : Int32), S9, T) else if (S9 2 0) < 0 ∨ 5 ≤ (S9 2 0).toNatClampNeg then none else if (T 9 (S9 2 0).toNatClampNeg) = 0 then k_b2 (nX2_itemEnds S9) (fun r34 S34 => if r34 = 0 then some ((0 : Int32), S34, T) else if (S9 2 0) < 0 ∨ 5 ≤ (S9 2 0).toNatClampNeg then none else some ((1 : Int32), S34, (k_w T 9 ((S9 2 0).toNatClampNeg) (1 : Int32)))) else some ((0 : Int32), S9, T))
set_option maxHeartbeats 4000000 in
set_option maxRecDepth 100000 in
theorem mX2_lossIsTold (l : Launch) (D : va_G) (cs : Nat → ClassId) (a : Nat → Nat) (b : Nat → Nat) (S : Nat → Nat → Int32) (T : Nat → Nat → Int32) (r9 : Int32) (S9 : (Nat → Nat → Int32)) (T9 : (Nat → Nat → Int32)) (hd : nX2_lossIsTold S T = some (r9, S9, T9)) : ∀ sz : Nat, Met l yX2_lossIsTold wsX2_lossIsTold ({ frames := 3, cells := 0, slots := 0, locals := 64 }) (k_Pc D cs [.ref (a 0), .ref (b 0)] (wX2 cs a S ++ wX5 cs b T) sz) (k_Qi D r9 (wX2 cs a S ++ wX5 cs b T) (wX2 cs a S9 ++ wX5 cs b T9) sz) 0 0 (va_A (wX2 cs a S ++ wX5 cs b T) sz) := by
  intro sz
  refine Met.ofW (cc := cX2_lossIsTold) (maxL := 3) (ret := (some .boolean)) (by decide) rfl ?_
  intro p e s m args below meth c s₁ B hml hv
  obtain ⟨rfl, hsz, hP, hK, hD0, hNn⟩ := hv
  have hx := B.exec
  have hb := B.bytes
  have hr := B.returns
  have hts := atoms_spec (ws := wsX2_lossIsTold) B.pre
  have hown : s.vm.findClass RX2 = some m.cls := findClass_of_methodNamed B.named
  have hlocks := B.notSynchronized
  subst hsz
  obtain ⟨A, hAe⟩ : ∃ A : Nat → Prop, A = va_A (wX2 cs a S ++ wX5 cs b T) s.heap.size := ⟨_, rfl⟩
  have hD : va_D A (wX2 cs a S ++ wX5 cs b T) := by rw [hAe]; exact hD0.self
  have hA : ∀ q : Nat, s.heap.size ≤ q → A q := fun q h => by rw [hAe]; exact Or.inr h
  have hS : va_S A s.heap s.heap [] := va_S.rf
  have hDA : ∀ (S : Nat → Nat → Int32) (T : Nat → Nat → Int32), va_D A (wX2 cs a S ++ wX5 cs b T) := fun S T => k_DA hD rfl
  have hl := lv_entry ([.ref (a 0), .ref (b 0)]) (n := 3) (Nat.le_of_ble_eq_true rfl)
  rw [lg_entry_eq]
  generalize (lg_sl ([.ref (a 0), .ref (b 0)]) ++ List.replicate (3 - (lg_sl ([.ref (a 0), .ref (b 0)])).length) Slot.unset).toArray = ls at hl ⊢
  have hl : lv_has ls 3 [(0, .ref (a 0)), (1, .ref (b 0))] := hl
  obtain ⟨Q, hQ⟩ : ∃ Q, Q = MQ below (k_Qi D r9 (wX2 cs a S ++ wX5 cs b T) (wX2 cs a S9 ++ wX5 cs b T9) s.heap.size) ([.ref (a 0), .ref (b 0)] : List Value).toArray s 0 0 (va_A (wX2 cs a S ++ wX5 cs b T) s.heap.size) := ⟨_, rfl⟩
  rw [← hQ]
  unfold nX2_lossIsTold at hd
  refine lv_aload_n hx hb dX2_lossIsTold_0 rfl (lv_at hl 0 rfl) ?_
  refine lv_iconst (v := (0 : Int32)) hx hb dX2_lossIsTold_1 (by decide) ?_
  refine lv_iconst (v := (0 : Int32)) hx hb dX2_lossIsTold_2 (by decide) ?_
  refine lv_aload_n hx hb dX2_lossIsTold_3 rfl (lv_at hl 1 rfl) ?_
  refine va_get (D := D) (ci := 3) (v := .int (T 0 13)) (C := RX5) (T := TX5) (N := 15) hx hb hts (fun w h => List.mem_cons_of_mem _ (List.mem_append_left _ (List.mem_append_right _ h))) hown hK hP 3 rfl rfl 13 (by decide) (hts (.fieldLink RX2 90 "LeastNeed$Valley" "things" "I") (List.mem_of_getElem? (i := 1) rfl)) (fun _ h9 => h9) rfl dX2_lossIsTold_4 ?_
  refine lv_iconst (v := (1 : Int32)) hx hb dX2_lossIsTold_7 (by decide) ?_
  refine lv_isub hx hb dX2_lossIsTold_8 ?_
  obtain ⟨r9, S9, hq9, hd⟩ := dn_b2 hd
  have hPc : va_P D vwCl (wX2 cs a S) _ := k_sub hP [0, 1, 2] (wcX2_X5_X2_0 cs a b S T)
  have hDc : va_D A (wX2 cs a S) := hD.sub [0, 1, 2] (by decide) (wcX2_X5_X2_0 cs a b S T)
  have hF := k_self hDc hS hA
  refine k_run_i (va_runV (As := [.int (0 : Int32), .int (0 : Int32), .int ((T 0 13) - (1 : Int32))]) (rest := []) ⟨hx, hb, hml, hown, hts⟩ (mX2_number l D cs a S (0 : Int32) (0 : Int32) ((T 0 13) - (1 : Int32)) r9 S9 hq9 _) (cwV 3 hts gX2_lossIsTold_X2_number rfl rfl rfl (by decide +kernel) ⟨Nat.le_of_ble_eq_true rfl, Nat.le_of_ble_eq_true rfl⟩) ⟨k_blind, va_recv hK hP (ci := 1) (q0 := 0) rfl rfl, k_pre hPc hK hNn hDc⟩ rfl rfl hl.1 rfl (lv_room (Nat.le_of_ble_eq_true rfl)) dX2_lossIsTold_9 ⟨Nat.le_of_ble_eq_true rfl, Nat.le_of_ble_eq_true rfl⟩) hS hF (fun H locs hP1 hk hS => ?_)
  have hP : va_P D vwCl (wX2 cs a S9 ++ wX5 cs b T) _ := k_back hP hD [0, 1, 2] [3, 4, 5, 6, 7, 8, 9, 10, 11, 12, 13, 14, 15, 16, 17, 18] [16, 17, 18, 0, 1, 2, 3, 4, 5, 6, 7, 8, 9, 10, 11, 12, 13, 14, 15] (wcX2_X5_X2_0 cs a b S T) (by decide) hk hP1 (wbX2_X5_X2_0_S0 cs a b S T S9)
  have hD := hDA S9 T
  refine lv_if_ne (tgt := 17) hx hb dX2_lossIsTold_12 (by decide) (fun c12 => ?_) (fun c12 => ?_)
  · have hd := dn_f c12 hd
    refine lv_aload_n hx hb dX2_lossIsTold_17 rfl (lv_at hl 0 rfl) ?_
    refine va_get (D := D) (ci := 1) (v := .ref (a 2)) (C := RX2) (T := TX2) (N := 6) hx hb hts (fun w h => List.mem_cons_of_mem _ (List.mem_append_right _ h)) hown hK hP 0 rfl rfl 1 (by decide) (hts (.fieldLink RX2 15 "LeastNeed$Reader" "numbers" "[I") (List.mem_of_getElem? (i := 2) rfl)) (fun _ h9 => h9) rfl dX2_lossIsTold_18 ?_
    refine lv_iconst (v := (0 : Int32)) hx hb dX2_lossIsTold_21 (by decide) ?_
    refine k_iald (D := D) (k := 0) (by rfl) hx hb hK hP 2 1 rfl rfl (k_in (by decide)) dX2_lossIsTold_22 ?_
    refine lv_istore_n (lv' := [(2, .int (S9 2 0)), (0, .ref (a 0)), (1, .ref (b 0))]) hx hb dX2_lossIsTold_23 rfl hl (by decide) rfl (fun ls hl => ?_)
    refine lv_aload_n hx hb dX2_lossIsTold_24 rfl (lv_at hl 2 rfl) ?_
    refine va_get (D := D) (ci := 3) (v := .ref (b 9)) (C := RX5) (T := TX5) (N := 15) hx hb hts (fun w h => List.mem_cons_of_mem _ (List.mem_append_left _ (List.mem_append_right _ h))) hown hK hP 3 rfl rfl 8 (by decide) (hts (.fieldLink RX2 97 "LeastNeed$Valley" "place" "[I") (List.mem_of_getElem? (i := 3) rfl)) (fun _ h9 => h9) rfl dX2_lossIsTold_25 ?_
    refine lv_iload_n hx hb dX2_lossIsTold_28 rfl (lv_at hl 0 rfl) ?_
    obtain ⟨hi29, hd⟩ := dn_i hd
    refine k_iald (D := D) (k := (S9 2 0).toNatClampNeg) (by rfl) hx hb hK hP 12 1 rfl rfl hi29 dX2_lossIsTold_29 ?_
    refine lv_if_ne (tgt := 40) hx hb dX2_lossIsTold_30 (by decide) (fun c30 => ?_) (fun c30 => ?_)
    · have hd := dn_f c30 hd
      refine lv_iconst (v := (0 : Int32)) hx hb dX2_lossIsTold_40 (by decide) ?_
      obtain ⟨e1, e2, e3⟩ := dn_s3 hd
      exact k_zret hx hb hr rfl hQ hAe e1 (by rw [← e2, ← e3]) hP hS hlocks dX2_lossIsTold_41
    · have hd := dn_t c30 hd
      refine lv_aload_n hx hb dX2_lossIsTold_33 rfl (lv_at hl 1 rfl) ?_
      obtain ⟨r34, S34, hq34, hd⟩ := dn_b2 hd
      have hPc : va_P D vwCl (wX2 cs a S9) _ := k_sub hP [0, 1, 2] (wcX2_X5_X2_0 cs a b S9 T)
      have hDc : va_D A (wX2 cs a S9) := hD.sub [0, 1, 2] (by decide) (wcX2_X5_X2_0 cs a b S9 T)
      have hF := k_self hDc hS hA
      refine k_run_i (va_runV (As := []) (rest := []) ⟨hx, hb, hml, hown, hts⟩ (mX2_itemEnds l D cs a S9 r34 S34 hq34 _) (cwV 0 hts gX2_lossIsTold_X2_itemEnds rfl rfl rfl (by decide +kernel) ⟨Nat.le_of_ble_eq_true rfl, Nat.le_of_ble_eq_true rfl⟩) ⟨k_blind, va_recv hK hP (ci := 1) (q0 := 0) rfl rfl, k_pre hPc hK hNn hDc⟩ rfl rfl hl.1 rfl (lv_room (Nat.le_of_ble_eq_true rfl)) dX2_lossIsTold_34 ⟨Nat.le_of_ble_eq_true rfl, Nat.le_of_ble_eq_true rfl⟩) hS hF (fun H locs hP1 hk hS => ?_)
      have hP : va_P D vwCl (wX2 cs a S34 ++ wX5 cs b T) _ := k_back hP hD [0, 1, 2] [3, 4, 5, 6, 7, 8, 9, 10, 11, 12, 13, 14, 15, 16, 17, 18] [16, 17, 18, 0, 1, 2, 3, 4, 5, 6, 7, 8, 9, 10, 11, 12, 13, 14, 15] (wcX2_X5_X2_0 cs a b S9 T) (by decide) hk hP1 (wbX2_X5_X2_0_S0 cs a b S9 T S34)
      have hD := hDA S34 T
      refine lv_if_ne (tgt := 42) hx hb dX2_lossIsTold_37 (by decide) (fun c37 => ?_) (fun c37 => ?_)
      · have hd := dn_f c37 hd
        refine lv_aload_n hx hb dX2_lossIsTold_42 rfl (lv_at hl 2 rfl) ?_
        refine va_get (D := D) (ci := 3) (v := .ref (b 9)) (C := RX5) (T := TX5) (N := 15) hx hb hts (fun w h => List.mem_cons_of_mem _ (List.mem_append_left _ (List.mem_append_right _ h))) hown hK hP 3 rfl rfl 8 (by decide) (hts (.fieldLink RX2 97 "LeastNeed$Valley" "place" "[I") (List.mem_of_getElem? (i := 3) rfl)) (fun _ h9 => h9) rfl dX2_lossIsTold_43 ?_
        refine lv_iload_n hx hb dX2_lossIsTold_46 rfl (lv_at hl 0 rfl) ?_
        refine lv_iconst (v := (1 : Int32)) hx hb dX2_lossIsTold_47 (by decide) ?_
        obtain ⟨hi48, hd⟩ := dn_i hd
        refine k_iast (D := D) (k := (S9 2 0).toNatClampNeg) (by rfl) hx hb hK hP hD hS 12 1 rfl rfl hi48 dX2_lossIsTold_48 (fun H locs hP hD hS => ?_)
        have hP : va_P D vwCl (wX2 cs a S34 ++ wX5 cs b (k_w T 9 ((S9 2 0).toNatClampNeg) (1 : Int32))) _ := k_eq hP (wsX2_X5_a12 cs a b S34 T ((S9 2 0).toNatClampNeg) (1 : Int32))
        have hD := hDA S34 (k_w T 9 ((S9 2 0).toNatClampNeg) (1 : Int32))
        refine lv_iconst (v := (1 : Int32)) hx hb dX2_lossIsTold_49 (by decide) ?_
        obtain ⟨e1, e2, e3⟩ := dn_s3 hd
        exact k_zret hx hb hr rfl hQ hAe e1 (by rw [← e2, ← e3]) hP hS hlocks dX2_lossIsTold_50
      · have hd := dn_t c37 hd
        refine lv_iconst (v := (0 : Int32)) hx hb dX2_lossIsTold_40 (by decide) ?_
        obtain ⟨e1, e2, e3⟩ := dn_s3 hd
        exact k_zret hx hb hr rfl hQ hAe e1 (by rw [← e2, ← e3]) hP hS hlocks dX2_lossIsTold_41
  · have hd := dn_t c12 hd
    refine lv_iconst (v := (0 : Int32)) hx hb dX2_lossIsTold_15 (by decide) ?_
    obtain ⟨e1, e2, e3⟩ := dn_s3 hd
    exact k_zret hx hb hr rfl hQ hAe e1 (by rw [← e2, ← e3]) hP hS hlocks dX2_lossIsTold_16
-- LeastNeed$Reader.daysAreTold(LLeastNeed$Valley;)Z
set_option maxRecDepth 20000 in
def nX2_daysAreTold_l22 (x2_22 : Int32) (S_22 : Nat → Nat → Int32) (T_22 : Nat → Nat → Int32) : Option ((Int32 × (Nat → Nat → Int32)) ⊕ (Int32 × (Nat → Nat → Int32) × (Nat → Nat → Int32))) := if (S_22 2 0) ≤ x2_22 then k_up (some ((1 : Int32), S_22, T_22)) else k_b1 (nX5_dayGoesBy T_22) (fun S33 => some (.inl ((x2_22 + (1 : Int32)), S33)))
set_option maxRecDepth 20000 in
def nX2_daysAreTold (S : Nat → Nat → Int32) (T : Nat → Nat → Int32) : Option (Int32 × (Nat → Nat → Int32) × (Nat → Nat → Int32)) := k_b2 (nX2_number S (0 : Int32) (1 : Int32) (99 : Int32)) (fun r5 S5 => if r5 = 0 then some ((0 : Int32), S5, T) else k_b2 (nX2_itemEnds S5) (fun r12 S12 => if r12 = 0 then some ((0 : Int32), S12, T) else k_it (fun st => nX2_daysAreTold_l22 st.1 S12 st.2) 1000 ((0 : Int32), T)))
set_option maxHeartbeats 4000000 in
set_option maxRecDepth 100000 in
theorem mX2_daysAreTold (l : Launch) (D : va_G) (cs : Nat → ClassId) (a : Nat → Nat) (b : Nat → Nat) (S : Nat → Nat → Int32) (T : Nat → Nat → Int32) (r9 : Int32) (S9 : (Nat → Nat → Int32)) (T9 : (Nat → Nat → Int32)) (hd : nX2_daysAreTold S T = some (r9, S9, T9)) : ∀ sz : Nat, Met l yX2_daysAreTold wsX2_daysAreTold ({ frames := 4, cells := 0, slots := 0, locals := 106 }) (k_Pc D cs [.ref (a 0), .ref (b 0)] (wX2 cs a S ++ wX5 cs b T) sz) (k_Qi D r9 (wX2 cs a S ++ wX5 cs b T) (wX2 cs a S9 ++ wX5 cs b T9) sz) 0 0 (va_A (wX2 cs a S ++ wX5 cs b T) sz) := by
  intro sz
  refine Met.ofW (cc := cX2_daysAreTold) (maxL := 3) (ret := (some .boolean)) (by decide) rfl ?_
  intro p e s m args below meth c s₁ B hml hv
  obtain ⟨rfl, hsz, hP, hK, hD0, hNn⟩ := hv
  have hx := B.exec
  have hb := B.bytes
  have hr := B.returns
  have hts := atoms_spec (ws := wsX2_daysAreTold) B.pre
  have hown : s.vm.findClass RX2 = some m.cls := findClass_of_methodNamed B.named
  have hlocks := B.notSynchronized
  subst hsz
  obtain ⟨A, hAe⟩ : ∃ A : Nat → Prop, A = va_A (wX2 cs a S ++ wX5 cs b T) s.heap.size := ⟨_, rfl⟩
  have hD : va_D A (wX2 cs a S ++ wX5 cs b T) := by rw [hAe]; exact hD0.self
  have hA : ∀ q : Nat, s.heap.size ≤ q → A q := fun q h => by rw [hAe]; exact Or.inr h
  have hS : va_S A s.heap s.heap [] := va_S.rf
  have hDA : ∀ (S : Nat → Nat → Int32) (T : Nat → Nat → Int32), va_D A (wX2 cs a S ++ wX5 cs b T) := fun S T => k_DA hD rfl
  have hl := lv_entry ([.ref (a 0), .ref (b 0)]) (n := 3) (Nat.le_of_ble_eq_true rfl)
  rw [lg_entry_eq]
  generalize (lg_sl ([.ref (a 0), .ref (b 0)]) ++ List.replicate (3 - (lg_sl ([.ref (a 0), .ref (b 0)])).length) Slot.unset).toArray = ls at hl ⊢
  have hl : lv_has ls 3 [(0, .ref (a 0)), (1, .ref (b 0))] := hl
  obtain ⟨Q, hQ⟩ : ∃ Q, Q = MQ below (k_Qi D r9 (wX2 cs a S ++ wX5 cs b T) (wX2 cs a S9 ++ wX5 cs b T9) s.heap.size) ([.ref (a 0), .ref (b 0)] : List Value).toArray s 0 0 (va_A (wX2 cs a S ++ wX5 cs b T) s.heap.size) := ⟨_, rfl⟩
  rw [← hQ]
  have Lo22 : ∀ (n1 : Nat) (x2_22 : Int32) (S_22 : Nat → Nat → Int32) (T_22 : Nat → Nat → Int32) (H : Heap) (locs : List Loc) (ls : Array Slot), k_it (fun st => nX2_daysAreTold_l22 st.1 S_22 st.2) n1 (x2_22, T_22) = some (r9, S9, T9) → lv_has ls 3 [(0, .ref (a 0)), (1, .ref (b 0)), (2, .int x2_22)] → va_P D vwCl (wX2 cs a S_22 ++ wX5 cs b T_22) H → va_S A s.heap H locs → W p l e (headSpec wsX2_daysAreTold ({ frames := 4, cells := 0, slots := 0, locals := 106 })).room s m ([.ref (a 0), .ref (b 0)] : List Value).toArray below meth c H locs 0 0 Q (F0 m 22 ls []) := by
    intro n1
    induction n1 with
    | zero => intro x2_22 S_22 T_22 H locs ls hd; exact dn_it0 hd
    | succ n1 ih1 =>
      intro x2_22 S_22 T_22 H locs ls hd hl hP hS
      have hD := hDA S_22 T_22
      obtain ⟨y1, hd, hy1⟩ := dn_it hd
      have hd : nX2_daysAreTold_l22 x2_22 S_22 T_22 = some y1 := hd
      unfold nX2_daysAreTold_l22 at hd
      refine lv_iload_n hx hb dX2_daysAreTold_22 rfl (lv_at hl 2 rfl) ?_
      refine lv_aload_n hx hb dX2_daysAreTold_23 rfl (lv_at hl 0 rfl) ?_
      refine va_get (D := D) (ci := 1) (v := .ref (a 2)) (C := RX2) (T := TX2) (N := 6) hx hb hts (fun w h => List.mem_cons_of_mem _ (List.mem_append_left _ (List.mem_append_right _ h))) hown hK hP 0 rfl rfl 1 (by decide) (hts (.fieldLink RX2 15 "LeastNeed$Reader" "numbers" "[I") (List.mem_of_getElem? (i := 1) rfl)) (fun _ h9 => h9) rfl dX2_daysAreTold_24 ?_
      refine lv_iconst (v := (0 : Int32)) hx hb dX2_daysAreTold_27 (by decide) ?_
      refine k_iald (D := D) (k := 0) (by rfl) hx hb hK hP 2 1 rfl rfl (k_in (by decide)) dX2_daysAreTold_28 ?_
      refine lv_icmp_ge (tgt := 42) hx hb dX2_daysAreTold_29 (by decide) (fun c29 => ?_) (fun c29 => ?_)
      · have hd := dn_t c29 hd
        have hd := dn_up hd hy1
        refine lv_iconst (v := (1 : Int32)) hx hb dX2_daysAreTold_42 (by decide) ?_
        obtain ⟨e1, e2, e3⟩ := dn_s3 hd
        exact k_zret hx hb hr rfl hQ hAe e1 (by rw [← e2, ← e3]) hP hS hlocks dX2_daysAreTold_43
      · have hd := dn_f c29 hd
        refine lv_aload_n hx hb dX2_daysAreTold_32 rfl (lv_at hl 1 rfl) ?_
        obtain ⟨S33, hq33, hd⟩ := dn_b1 hd
        have hPc : va_P D vwCl (wX5 cs b T_22) _ := k_sub hP [3, 4, 5, 6, 7, 8, 9, 10, 11, 12, 13, 14, 15, 16, 17, 18] (wcX2_X5_X5_0b cs a b S_22 T_22)
        have hDc : va_D A (wX5 cs b T_22) := hD.sub [3, 4, 5, 6, 7, 8, 9, 10, 11, 12, 13, 14, 15, 16, 17, 18] (by decide) (wcX2_X5_X5_0b cs a b S_22 T_22)
        have hF := k_self hDc hS hA
        refine k_run_v (va_runV (As := []) (rest := []) ⟨hx, hb, hml, hown, hts⟩ (mX5_dayGoesBy l D cs b T_22 S33 hq33 _) (cwV 0 hts gX2_daysAreTold_X5_dayGoesBy rfl rfl rfl (by decide +kernel) ⟨Nat.le_of_ble_eq_true rfl, Nat.le_of_ble_eq_true rfl⟩) ⟨k_blind, va_recv hK hP (ci := 3) (q0 := 3) rfl rfl, k_pre hPc hK hNn hDc⟩ rfl rfl hl.1 rfl (lv_room (Nat.le_of_ble_eq_true rfl)) dX2_daysAreTold_33 ⟨Nat.le_of_ble_eq_true rfl, Nat.le_of_ble_eq_true rfl⟩) hS hF (fun H locs hP1 hk hS => ?_)
        have hP : va_P D vwCl (wX2 cs a S_22 ++ wX5 cs b S33) _ := k_back hP hD [3, 4, 5, 6, 7, 8, 9, 10, 11, 12, 13, 14, 15, 16, 17, 18] [0, 1, 2] [0, 1, 2, 3, 4, 5, 6, 7, 8, 9, 10, 11, 12, 13, 14, 15, 16, 17, 18] (wcX2_X5_X5_0b cs a b S_22 T_22) (by decide) hk hP1 (wbX2_X5_X5_0b_S0 cs a b S_22 T_22 S33)
        have hD := hDA S_22 S33
        refine lv_iinc (v := x2_22 + (1 : Int32)) (lv' := [(2, .int (x2_22 + (1 : Int32))), (0, .ref (a 0)), (1, .ref (b 0))]) hx hb dX2_daysAreTold_36 hl (k := 2) rfl rfl (by decide) rfl (fun ls hl => ?_)
        refine lv_goto (tgt := 22) hx hb dX2_daysAreTold_39 (by decide) ?_
        exact ih1 (x2_22 + (1 : Int32)) S_22 S33 _ _ _ (dn_bk hd hy1) (lv_sub hl [1, 2, 0] rfl) hP hS
  unfold nX2_daysAreTold at hd
  refine lv_aload_n hx hb dX2_daysAreTold_0 rfl (lv_at hl 0 rfl) ?_
  refine lv_iconst (v := (0 : Int32)) hx hb dX2_daysAreTold_1 (by decide) ?_
  refine lv_iconst (v := (1 : Int32)) hx hb dX2_daysAreTold_2 (by decide) ?_
  refine lv_bipush (v := (99 : Int32)) hx hb dX2_daysAreTold_3 (by decide) ?_
  obtain ⟨r5, S5, hq5, hd⟩ := dn_b2 hd
  have hPc : va_P D vwCl (wX2 cs a S) _ := k_sub hP [0, 1, 2] (wcX2_X5_X2_0 cs a b S T)
  have hDc : va_D A (wX2 cs a S) := hD.sub [0, 1, 2] (by decide) (wcX2_X5_X2_0 cs a b S T)
  have hF := k_self hDc hS hA
  refine k_run_i (va_runV (As := [.int (0 : Int32), .int (1 : Int32), .int (99 : Int32)]) (rest := []) ⟨hx, hb, hml, hown, hts⟩ (mX2_number l D cs a S (0 : Int32) (1 : Int32) (99 : Int32) r5 S5 hq5 _) (cwV 3 hts gX2_daysAreTold_X2_number rfl rfl rfl (by decide +kernel) ⟨Nat.le_of_ble_eq_true rfl, Nat.le_of_ble_eq_true rfl⟩) ⟨k_blind, va_recv hK hP (ci := 1) (q0 := 0) rfl rfl, k_pre hPc hK hNn hDc⟩ rfl rfl hl.1 rfl (lv_room (Nat.le_of_ble_eq_true rfl)) dX2_daysAreTold_5 ⟨Nat.le_of_ble_eq_true rfl, Nat.le_of_ble_eq_true rfl⟩) hS hF (fun H locs hP1 hk hS => ?_)
  have hP : va_P D vwCl (wX2 cs a S5 ++ wX5 cs b T) _ := k_back hP hD [0, 1, 2] [3, 4, 5, 6, 7, 8, 9, 10, 11, 12, 13, 14, 15, 16, 17, 18] [16, 17, 18, 0, 1, 2, 3, 4, 5, 6, 7, 8, 9, 10, 11, 12, 13, 14, 15] (wcX2_X5_X2_0 cs a b S T) (by decide) hk hP1 (wbX2_X5_X2_0_S0 cs a b S T S5)
  have hD := hDA S5 T
  refine lv_if_eq (tgt := 18) hx hb dX2_daysAreTold_8 (by decide) (fun c8 => ?_) (fun c8 => ?_)
  · have hd := dn_t c8 hd
    refine lv_iconst (v := (0 : Int32)) hx hb dX2_daysAreTold_18 (by decide) ?_
    obtain ⟨e1, e2, e3⟩ := dn_s3 hd
    exact k_zret hx hb hr rfl hQ hAe e1 (by rw [← e2, ← e3]) hP hS hlocks dX2_daysAreTold_19
  · have hd := dn_f c8 hd
    refine lv_aload_n hx hb dX2_daysAreTold_11 rfl (lv_at hl 0 rfl) ?_
    obtain ⟨r12, S12, hq12, hd⟩ := dn_b2 hd
    have hPc : va_P D vwCl (wX2 cs a S5) _ := k_sub hP [0, 1, 2] (wcX2_X5_X2_0 cs a b S5 T)
    have hDc : va_D A (wX2 cs a S5) := hD.sub [0, 1, 2] (by decide) (wcX2_X5_X2_0 cs a b S5 T)
    have hF := k_self hDc hS hA
    refine k_run_i (va_runV (As := []) (rest := []) ⟨hx, hb, hml, hown, hts⟩ (mX2_itemEnds l D cs a S5 r12 S12 hq12 _) (cwV 0 hts gX2_daysAreTold_X2_itemEnds rfl rfl rfl (by decide +kernel) ⟨Nat.le_of_ble_eq_true rfl, Nat.le_of_ble_eq_true rfl⟩) ⟨k_blind, va_recv hK hP (ci := 1) (q0 := 0) rfl rfl, k_pre hPc hK hNn hDc⟩ rfl rfl hl.1 rfl (lv_room (Nat.le_of_ble_eq_true rfl)) dX2_daysAreTold_12 ⟨Nat.le_of_ble_eq_true rfl, Nat.le_of_ble_eq_true rfl⟩) hS hF (fun H locs hP1 hk hS => ?_)
    have hP : va_P D vwCl (wX2 cs a S12 ++ wX5 cs b T) _ := k_back hP hD [0, 1, 2] [3, 4, 5, 6, 7, 8, 9, 10, 11, 12, 13, 14, 15, 16, 17, 18] [16, 17, 18, 0, 1, 2, 3, 4, 5, 6, 7, 8, 9, 10, 11, 12, 13, 14, 15] (wcX2_X5_X2_0 cs a b S5 T) (by decide) hk hP1 (wbX2_X5_X2_0_S0 cs a b S5 T S12)
    have hD := hDA S12 T
    refine lv_if_ne (tgt := 20) hx hb dX2_daysAreTold_15 (by decide) (fun c15 => ?_) (fun c15 => ?_)
    · have hd := dn_f c15 hd
      refine lv_iconst (v := (0 : Int32)) hx hb dX2_daysAreTold_20 (by decide) ?_
      refine lv_istore_n (lv' := [(2, .int (0 : Int32)), (0, .ref (a 0)), (1, .ref (b 0))]) hx hb dX2_daysAreTold_21 rfl hl (by decide) rfl (fun ls hl => ?_)
      exact Lo22 1000 (0 : Int32) S12 T _ _ _ hd (lv_sub hl [1, 2, 0] rfl) hP hS
    · have hd := dn_t c15 hd
      refine lv_iconst (v := (0 : Int32)) hx hb dX2_daysAreTold_18 (by decide) ?_
      obtain ⟨e1, e2, e3⟩ := dn_s3 hd
      exact k_zret hx hb hr rfl hQ hAe e1 (by rw [← e2, ← e3]) hP hS hlocks dX2_daysAreTold_19
