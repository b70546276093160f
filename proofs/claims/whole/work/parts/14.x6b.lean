-- LeastNeed.costs()I
set_option maxRecDepth 20000 in
def nX6_costs_l4 (x1_4 : Int32) (x2_4 : Int32) (S : Nat → Nat → Int32) (L : Nat → Nat → Int64) : Option ((Int32 × Int32) ⊕ (Int32)) := if (S 1 13) ≤ x2_4 then k_up (some x1_4) else k_b1 (nX5_isAway (k_wi S 1) x2_4) (fun r20 => if r20 = 0 then some (.inl (x1_4, (x2_4 + (1 : Int32)))) else k_b1 (nX5_askedFor (k_wi S 1) x2_4) (fun r32 => some (.inl ((x1_4 + r32), (x2_4 + (1 : Int32))))))
set_option maxRecDepth 20000 in
def nX6_costs (S : Nat → Nat → Int32) (L : Nat → Nat → Int64) : Option (Int32) := k_it (fun st => nX6_costs_l4 st.1 st.2 S L) 1000 ((0 : Int32), (0 : Int32))
set_option maxHeartbeats 4000000 in
set_option maxRecDepth 100000 in
theorem mX6_costs (l : Launch) (D : va_G) (cs : Nat → ClassId) (a : Nat → Nat) (S : Nat → Nat → Int32) (L : Nat → Nat → Int64) (r9 : Int32) (hd : nX6_costs S L = some r9) : ∀ sz : Nat, Met l yX6_costs wsX6_costs ({ frames := 3, cells := 0, slots := 0, locals := 71 }) (k_Pc D cs [.ref (a 0)] (wX6 cs a S L) sz) (k_Qi D r9 (wX6 cs a S L) (wX6 cs a S L) sz) 0 0 (va_A (wX6 cs a S L) sz) := by
  intro sz
  refine Met.ofW (cc := cX6_costs) (maxL := 3) (ret := (some .int)) (by decide) rfl ?_
  intro p e s m args below meth c s₁ B hml hv
  obtain ⟨rfl, hsz, hP, hK, hD0, hNn⟩ := hv
  have hx := B.exec
  have hb := B.bytes
  have hr := B.returns
  have hts := atoms_spec (ws := wsX6_costs) B.pre
  have hown : s.vm.findClass RX6 = some m.cls := findClass_of_methodNamed B.named
  have hlocks := B.notSynchronized
  subst hsz
  obtain ⟨A, hAe⟩ : ∃ A : Nat → Prop, A = va_A (wX6 cs a S L) s.heap.size := ⟨_, rfl⟩
  have hD : va_D A (wX6 cs a S L) := by rw [hAe]; exact hD0.self
  have hA : ∀ q : Nat, s.heap.size ≤ q → A q := fun q h => by rw [hAe]; exact Or.inr h
  have hS : va_S A s.heap s.heap [] := va_S.rf
  have hDA : ∀ (S : Nat → Nat → Int32) (L : Nat → Nat → Int64), va_D A (wX6 cs a S L) := fun S L => k_DA hD rfl
  have hl := lv_entry ([.ref (a 0)]) (n := 3) (Nat.le_of_ble_eq_true rfl)
  rw [lg_entry_eq]
  generalize (lg_sl ([.ref (a 0)]) ++ List.replicate (3 - (lg_sl ([.ref (a 0)])).length) Slot.unset).toArray = ls at hl ⊢
  have hl : lv_has ls 3 [(0, .ref (a 0))] := hl
  obtain ⟨Q, hQ⟩ : ∃ Q, Q = MQ below (k_Qi D r9 (wX6 cs a S L) (wX6 cs a S L) s.heap.size) ([.ref (a 0)] : List Value).toArray s 0 0 (va_A (wX6 cs a S L) s.heap.size) := ⟨_, rfl⟩
  rw [← hQ]
  have Lo4 : ∀ (n1 : Nat) (x1_4 : Int32) (x2_4 : Int32) (H : Heap) (locs : List Loc) (ls : Array Slot), k_it (fun st => nX6_costs_l4 st.1 st.2 S L) n1 (x1_4, x2_4) = some r9 → lv_has ls 3 [(0, .ref (a 0)), (1, .int x1_4), (2, .int x2_4)] → va_P D vwCl (wX6 cs a S L) H → va_S A s.heap H locs → W p l e (headSpec wsX6_costs ({ frames := 3, cells := 0, slots := 0, locals := 71 })).room s m ([.ref (a 0)] : List Value).toArray below meth c H locs 0 0 Q (F0 m 4 ls []) := by
    intro n1
    induction n1 with
    | zero => intro x1_4 x2_4 H locs ls hd; exact dn_it0 hd
    | succ n1 ih1 =>
      intro x1_4 x2_4 H locs ls hd hl hP hS
      have hD := hDA S L
      obtain ⟨y1, hd, hy1⟩ := dn_it hd
      have hd : nX6_costs_l4 x1_4 x2_4 S L = some y1 := hd
      unfold nX6_costs_l4 at hd
      refine lv_iload_n hx hb dX6_costs_4 rfl (lv_at hl 2 rfl) ?_
      refine lv_aload_n hx hb dX6_costs_5 rfl (lv_at hl 0 rfl) ?_
      refine va_get (D := D) (ci := 4) (v := .ref (a 1)) (C := RX6) (T := TX6) (N := 12) hx hb hts (fun w h => List.mem_cons_of_mem _ (List.mem_append_left _ (List.mem_append_right _ h))) hown hK hP 0 rfl rfl 0 (by decide) (hts (.fieldLink RX6 12 "LeastNeed" "now" "LLeastNeed$Valley;") (List.mem_of_getElem? (i := 1) rfl)) (fun _ h9 => h9) rfl dX6_costs_6 ?_
      refine va_get (D := D) (ci := 3) (v := .int (S 1 13)) (C := RX5) (T := TX5) (N := 15) hx hb hts (fun w h => List.mem_cons_of_mem _ (List.mem_append_right _ h)) hown hK hP 1 rfl rfl 13 (by decide) (hts (.fieldLink RX6 87 "LeastNeed$Valley" "things" "I") (List.mem_of_getElem? (i := 2) rfl)) (fun _ h9 => h9) rfl dX6_costs_9 ?_
      refine lv_icmp_ge (tgt := 43) hx hb dX6_costs_12 (by decide) (fun c12 => ?_) (fun c12 => ?_)
      · have hd := dn_t c12 hd
        have hd := dn_up hd hy1
        refine lv_iload_n hx hb dX6_costs_43 rfl (lv_at hl 1 rfl) ?_
        have e1 := dn_s1 hd
        exact k_iret hx hb hr hQ hAe e1 rfl hP hS hlocks dX6_costs_44
      · have hd := dn_f c12 hd
        refine lv_aload_n hx hb dX6_costs_15 rfl (lv_at hl 0 rfl) ?_
        refine va_get (D := D) (ci := 4) (v := .ref (a 1)) (C := RX6) (T := TX6) (N := 12) hx hb hts (fun w h => List.mem_cons_of_mem _ (List.mem_append_left _ (List.mem_append_right _ h))) hown hK hP 0 rfl rfl 0 (by decide) (hts (.fieldLink RX6 12 "LeastNeed" "now" "LLeastNeed$Valley;") (List.mem_of_getElem? (i := 1) rfl)) (fun _ h9 => h9) rfl dX6_costs_16 ?_
        refine lv_iload_n hx hb dX6_costs_19 rfl (lv_at hl 2 rfl) ?_
        obtain ⟨r20, hq20, hd⟩ := dn_b1 hd
        have hPc : va_P D vwCl (wX5 cs (k_wi a 1) (k_wi S 1)) _ := k_sub hP [1, 2, 3, 4, 5, 6, 7, 8, 9, 10, 11, 12, 13, 14, 15, 16] (wcX6_X5_1 cs a S L)
        have hDc : va_D A (wX5 cs (k_wi a 1) (k_wi S 1)) := hD.sub [1, 2, 3, 4, 5, 6, 7, 8, 9, 10, 11, 12, 13, 14, 15, 16] (by decide) (wcX6_X5_1 cs a S L)
        have hF := k_self hDc hS hA
        refine k_run_i (va_runV (As := [.int x2_4]) (rest := []) ⟨hx, hb, hml, hown, hts⟩ (mX5_isAway l D cs (k_wi a 1) (k_wi S 1) x2_4 r20 hq20 _) (cwV 1 hts gX6_costs_X5_isAway rfl rfl rfl (by decide +kernel) ⟨Nat.le_of_ble_eq_true rfl, Nat.le_of_ble_eq_true rfl⟩) ⟨k_blind, va_recv hK hP (ci := 3) (q0 := 1) rfl rfl, k_pre hPc hK hNn hDc⟩ rfl rfl hl.1 rfl (lv_room (Nat.le_of_ble_eq_true rfl)) dX6_costs_20 ⟨Nat.le_of_ble_eq_true rfl, Nat.le_of_ble_eq_true rfl⟩) hS hF (fun H locs hP1 hk hS => ?_)
        have hP : va_P D vwCl (wX6 cs a S L) _ := k_back hP hD [1, 2, 3, 4, 5, 6, 7, 8, 9, 10, 11, 12, 13, 14, 15, 16] [0, 17, 18, 19, 20, 21, 22, 23, 24, 25, 26, 27, 28, 29, 30, 31, 32, 33, 34, 35, 36, 37, 38, 39, 40, 41, 42, 43, 44, 45, 46, 47, 48, 49, 50, 51, 52, 53, 54, 55, 56, 57, 58, 59, 60, 61, 62, 63, 64, 65, 66, 67, 68, 69, 70, 71, 72, 73, 74, 75, 76, 77, 78] [0, 63, 64, 65, 66, 67, 68, 69, 70, 71, 72, 73, 74, 75, 76, 77, 78, 1, 2, 3, 4, 5, 6, 7, 8, 9, 10, 11, 12, 13, 14, 15, 16, 17, 18, 19, 20, 21, 22, 23, 24, 25, 26, 27, 28, 29, 30, 31, 32, 33, 34, 35, 36, 37, 38, 39, 40, 41, 42, 43, 44, 45, 46, 47, 48, 49, 50, 51, 52, 53, 54, 55, 56, 57, 58, 59, 60, 61, 62] (wcX6_X5_1 cs a S L) (by decide) hk hP1 (wbX6_X5_1 cs a S L)
        have hD := hDA S L
        refine lv_if_eq (tgt := 37) hx hb dX6_costs_23 (by decide) (fun c23 => ?_) (fun c23 => ?_)
        · have hd := dn_t c23 hd
          refine lv_iinc (v := x2_4 + (1 : Int32)) (lv' := [(2, .int (x2_4 + (1 : Int32))), (0, .ref (a 0)), (1, .int x1_4)]) hx hb dX6_costs_37 hl (k := 2) rfl rfl (by decide) rfl (fun ls hl => ?_)
          refine lv_goto (tgt := 4) hx hb dX6_costs_40 (by decide) ?_
          exact ih1 x1_4 (x2_4 + (1 : Int32)) _ _ _ (dn_bk hd hy1) (lv_sub hl [1, 2, 0] rfl) hP hS
        · have hd := dn_f c23 hd
          refine lv_iload_n hx hb dX6_costs_26 rfl (lv_at hl 1 rfl) ?_
          refine lv_aload_n hx hb dX6_costs_27 rfl (lv_at hl 0 rfl) ?_
          refine va_get (D := D) (ci := 4) (v := .ref (a 1)) (C := RX6) (T := TX6) (N := 12) hx hb hts (fun w h => List.mem_cons_of_mem _ (List.mem_append_left _ (List.mem_append_right _ h))) hown hK hP 0 rfl rfl 0 (by decide) (hts (.fieldLink RX6 12 "LeastNeed" "now" "LLeastNeed$Valley;") (List.mem_of_getElem? (i := 1) rfl)) (fun _ h9 => h9) rfl dX6_costs_28 ?_
          refine lv_iload_n hx hb dX6_costs_31 rfl (lv_at hl 2 rfl) ?_
          obtain ⟨r32, hq32, hd⟩ := dn_b1 hd
          have hPc : va_P D vwCl (wX5 cs (k_wi a 1) (k_wi S 1)) _ := k_sub hP [1, 2, 3, 4, 5, 6, 7, 8, 9, 10, 11, 12, 13, 14, 15, 16] (wcX6_X5_1 cs a S L)
          have hDc : va_D A (wX5 cs (k_wi a 1) (k_wi S 1)) := hD.sub [1, 2, 3, 4, 5, 6, 7, 8, 9, 10, 11, 12, 13, 14, 15, 16] (by decide) (wcX6_X5_1 cs a S L)
          have hF := k_self hDc hS hA
          refine k_run_i (va_runV (As := [.int x2_4]) (rest := [.int x1_4]) ⟨hx, hb, hml, hown, hts⟩ (mX5_askedFor l D cs (k_wi a 1) (k_wi S 1) x2_4 r32 hq32 _) (cwV 1 hts gX6_costs_X5_askedFor rfl rfl rfl (by decide +kernel) ⟨Nat.le_of_ble_eq_true rfl, Nat.le_of_ble_eq_true rfl⟩) ⟨k_blind, va_recv hK hP (ci := 3) (q0 := 1) rfl rfl, k_pre hPc hK hNn hDc⟩ rfl rfl hl.1 rfl (lv_room (Nat.le_of_ble_eq_true rfl)) dX6_costs_32 ⟨Nat.le_of_ble_eq_true rfl, Nat.le_of_ble_eq_true rfl⟩) hS hF (fun H locs hP1 hk hS => ?_)
          have hP : va_P D vwCl (wX6 cs a S L) _ := k_back hP hD [1, 2, 3, 4, 5, 6, 7, 8, 9, 10, 11, 12, 13, 14, 15, 16] [0, 17, 18, 19, 20, 21, 22, 23, 24, 25, 26, 27, 28, 29, 30, 31, 32, 33, 34, 35, 36, 37, 38, 39, 40, 41, 42, 43, 44, 45, 46, 47, 48, 49, 50, 51, 52, 53, 54, 55, 56, 57, 58, 59, 60, 61, 62, 63, 64, 65, 66, 67, 68, 69, 70, 71, 72, 73, 74, 75, 76, 77, 78] [0, 63, 64, 65, 66, 67, 68, 69, 70, 71, 72, 73, 74, 75, 76, 77, 78, 1, 2, 3, 4, 5, 6, 7, 8, 9, 10, 11, 12, 13, 14, 15, 16, 17, 18, 19, 20, 21, 22, 23, 24, 25, 26, 27, 28, 29, 30, 31, 32, 33, 34, 35, 36, 37, 38, 39, 40, 41, 42, 43, 44, 45, 46, 47, 48, 49, 50, 51, 52, 53, 54, 55, 56, 57, 58, 59, 60, 61, 62] (wcX6_X5_1 cs a S L) (by decide) hk hP1 (wbX6_X5_1 cs a S L)
          have hD := hDA S L
          refine lv_iadd hx hb dX6_costs_35 ?_
          refine lv_istore_n (lv' := [(1, .int (x1_4 + r32)), (0, .ref (a 0)), (2, .int x2_4)]) hx hb dX6_costs_36 rfl hl (by decide) rfl (fun ls hl => ?_)
          refine lv_iinc (v := x2_4 + (1 : Int32)) (lv' := [(2, .int (x2_4 + (1 : Int32))), (1, .int (x1_4 + r32)), (0, .ref (a 0))]) hx hb dX6_costs_37 hl (k := 2) rfl rfl (by decide) rfl (fun ls hl => ?_)
          refine lv_goto (tgt := 4) hx hb dX6_costs_40 (by decide) ?_
          exact ih1 (x1_4 + r32) (x2_4 + (1 : Int32)) _ _ _ (dn_bk hd hy1) (lv_sub hl [2, 1, 0] rfl) hP hS
  unfold nX6_costs at hd
  refine lv_iconst (v := (0 : Int32)) hx hb dX6_costs_0 (by decide) ?_
  refine lv_istore_n (lv' := [(1, .int (0 : Int32)), (0, .ref (a 0))]) hx hb dX6_costs_1 rfl hl (by decide) rfl (fun ls hl => ?_)
  refine lv_iconst (v := (0 : Int32)) hx hb dX6_costs_2 (by decide) ?_
  refine lv_istore_n (lv' := [(2, .int (0 : Int32)), (1, .int (0 : Int32)), (0, .ref (a 0))]) hx hb dX6_costs_3 rfl hl (by decide) rfl (fun ls hl => ?_)
  exact Lo4 1000 (0 : Int32) (0 : Int32) _ _ _ hd (lv_sub hl [2, 1, 0] rfl) hP hS
-- LeastNeed.sortAsked()I
set_option maxRecDepth 20000 in
def nX6_sortAsked_i4_j81 (x1_81 : Int32) (x2_81 : Int32) (x3_81 : Int32) (x4_81 : Int32) (S_81 : Nat → Nat → Int32) (L : Nat → Nat → Int64) : Option ((Int32 × Int32 × (Nat → Nat → Int32)) ⊕ (Int32 × (Nat → Nat → Int32))) := if x4_81 < 0 ∨ 8 ≤ x4_81.toNatClampNeg then none else some (.inl ((x1_81 + (1 : Int32)), (x2_81 + (1 : Int32)), (k_w S_81 77 x4_81.toNatClampNeg x3_81)))
set_option maxRecDepth 20000 in
def nX6_sortAsked_i4_l41 (x1_41 : Int32) (x2_41 : Int32) (x3_41 : Int32) (x4_41 : Int32) (S_41 : Nat → Nat → Int32) (L : Nat → Nat → Int64) : Option ((Int32 × (Nat → Nat → Int32)) ⊕ ((Int32 × Int32 × (Nat → Nat → Int32)) ⊕ (Int32 × (Nat → Nat → Int32)))) := if x4_41 ≤ 0 then k_up (nX6_sortAsked_i4_j81 x1_41 x2_41 x3_41 x4_41 S_41 L) else if (x4_41 - (1 : Int32)) < 0 ∨ 8 ≤ (x4_41 - (1 : Int32)).toNatClampNeg then none else if (S_41 77 (x4_41 - (1 : Int32)).toNatClampNeg) ≤ x3_41 then k_up (nX6_sortAsked_i4_j81 x1_41 x2_41 x3_41 x4_41 S_41 L) else if (x4_41 - (1 : Int32)) < 0 ∨ 8 ≤ (x4_41 - (1 : Int32)).toNatClampNeg then none else if x4_41 < 0 ∨ 8 ≤ x4_41.toNatClampNeg then none else some (.inl ((x4_41 + (-1 : Int32)), (k_w S_41 77 x4_41.toNatClampNeg (S_41 77 (x4_41 - (1 : Int32)).toNatClampNeg))))
set_option maxRecDepth 20000 in
def nX6_sortAsked_l4 (x1_4 : Int32) (x2_4 : Int32) (S_4 : Nat → Nat → Int32) (L : Nat → Nat → Int64) : Option ((Int32 × Int32 × (Nat → Nat → Int32)) ⊕ (Int32 × (Nat → Nat → Int32))) := if (S_4 1 13) ≤ x2_4 then k_up (some (x1_4, S_4)) else k_b1 (nX5_isAway (k_wi S_4 1) x2_4) (fun r20 => if r20 = 0 then some (.inl (x1_4, (x2_4 + (1 : Int32)), S_4)) else k_b1 (nX5_askedFor (k_wi S_4 1) x2_4) (fun r34 => k_it (fun st => nX6_sortAsked_i4_l41 x1_4 x2_4 r34 st.1 st.2 L) 1000 (x1_4, S_4)))
set_option maxRecDepth 20000 in
def nX6_sortAsked (S : Nat → Nat → Int32) (L : Nat → Nat → Int64) : Option (Int32 × (Nat → Nat → Int32)) := k_it (fun st => nX6_sortAsked_l4 st.1 st.2.1 st.2.2 L) 1000 ((0 : Int32), (0 : Int32), S)
set_option maxHeartbeats 4000000 in
set_option maxRecDepth 100000 in
theorem mX6_sortAsked (l : Launch) (D : va_G) (cs : Nat → ClassId) (a : Nat → Nat) (S : Nat → Nat → Int32) (L : Nat → Nat → Int64) (r9 : Int32) (S9 : (Nat → Nat → Int32)) (hd : nX6_sortAsked S L = some (r9, S9)) : ∀ sz : Nat, Met l yX6_sortAsked wsX6_sortAsked ({ frames := 3, cells := 0, slots := 0, locals := 71 }) (k_Pc D cs [.ref (a 0)] (wX6 cs a S L) sz) (k_Qi D r9 (wX6 cs a S L) (wX6 cs a S9 L) sz) 0 0 (va_A (wX6 cs a S L) sz) := by
  intro sz
  refine Met.ofW (cc := cX6_sortAsked) (maxL := 5) (ret := (some .int)) (by decide) rfl ?_
  intro p e s m args below meth c s₁ B hml hv
  obtain ⟨rfl, hsz, hP, hK, hD0, hNn⟩ := hv
  have hx := B.exec
  have hb := B.bytes
  have hr := B.returns
  have hts := atoms_spec (ws := wsX6_sortAsked) B.pre
  have hown : s.vm.findClass RX6 = some m.cls := findClass_of_methodNamed B.named
  have hlocks := B.notSynchronized
  subst hsz
  obtain ⟨A, hAe⟩ : ∃ A : Nat → Prop, A = va_A (wX6 cs a S L) s.heap.size := ⟨_, rfl⟩
  have hD : va_D A (wX6 cs a S L) := by rw [hAe]; exact hD0.self
  have hA : ∀ q : Nat, s.heap.size ≤ q → A q := fun q h => by rw [hAe]; exact Or.inr h
  have hS : va_S A s.heap s.heap [] := va_S.rf
  have hDA : ∀ (S : Nat → Nat → Int32) (L : Nat → Nat → Int64), va_D A (wX6 cs a S L) := fun S L => k_DA hD rfl
  have hl := lv_entry ([.ref (a 0)]) (n := 5) (Nat.le_of_ble_eq_true rfl)
  rw [lg_entry_eq]
  generalize (lg_sl ([.ref (a 0)]) ++ List.replicate (5 - (lg_sl ([.ref (a 0)])).length) Slot.unset).toArray = ls at hl ⊢
  have hl : lv_has ls 5 [(0, .ref (a 0))] := hl
  obtain ⟨Q, hQ⟩ : ∃ Q, Q = MQ below (k_Qi D r9 (wX6 cs a S L) (wX6 cs a S9 L) s.heap.size) ([.ref (a 0)] : List Value).toArray s 0 0 (va_A (wX6 cs a S L) s.heap.size) := ⟨_, rfl⟩
  rw [← hQ]
  have Lo4 : ∀ (n1 : Nat) (x1_4 : Int32) (x2_4 : Int32) (S_4 : Nat → Nat → Int32) (H : Heap) (locs : List Loc) (ls : Array Slot), k_it (fun st => nX6_sortAsked_l4 st.1 st.2.1 st.2.2 L) n1 (x1_4, x2_4, S_4) = some (r9, S9) → lv_has ls 5 [(0, .ref (a 0)), (1, .int x1_4), (2, .int x2_4)] → va_P D vwCl (wX6 cs a S_4 L) H → va_S A s.heap H locs → W p l e (headSpec wsX6_sortAsked ({ frames := 3, cells := 0, slots := 0, locals := 71 })).room s m ([.ref (a 0)] : List Value).toArray below meth c H locs 0 0 Q (F0 m 4 ls []) := by
    intro n1
    induction n1 with
    | zero => intro x1_4 x2_4 S_4 H locs ls hd; exact dn_it0 hd
    | succ n1 ih1 =>
      intro x1_4 x2_4 S_4 H locs ls hd hl hP hS
      have hD := hDA S_4 L
      obtain ⟨y1, hd, hy1⟩ := dn_it hd
      have hd : nX6_sortAsked_l4 x1_4 x2_4 S_4 L = some y1 := hd
      have Jo81 : ∀ (x1_81 : Int32) (x2_81 : Int32) (x3_81 : Int32) (x4_81 : Int32) (S_81 : Nat → Nat → Int32) (H : Heap) (locs : List Loc) (ls : Array Slot), nX6_sortAsked_i4_j81 x1_81 x2_81 x3_81 x4_81 S_81 L = some y1 → lv_has ls 5 [(0, .ref (a 0)), (1, .int x1_81), (2, .int x2_81), (3, .int x3_81), (4, .int x4_81)] → va_P D vwCl (wX6 cs a S_81 L) H → va_S A s.heap H locs → W p l e (headSpec wsX6_sortAsked ({ frames := 3, cells := 0, slots := 0, locals := 71 })).room s m ([.ref (a 0)] : List Value).toArray below meth c H locs 0 0 Q (F0 m 81 ls []) := by
        intro x1_81 x2_81 x3_81 x4_81 S_81 H locs ls hd hl hP hS
        have hD := hDA S_81 L
        unfold nX6_sortAsked_i4_j81 at hd
        refine lv_aload_n hx hb dX6_sortAsked_81 rfl (lv_at hl 0 rfl) ?_
        refine va_get (D := D) (ci := 4) (v := .ref (a 77)) (C := RX6) (T := TX6) (N := 12) hx hb hts (fun w h => List.mem_cons_of_mem _ (List.mem_append_left _ (List.mem_append_right _ h))) hown hK hP 0 rfl rfl 8 (by decide) (hts (.fieldLink RX6 48 "LeastNeed" "order" "[I") (List.mem_of_getElem? (i := 3) rfl)) (fun _ h9 => h9) rfl dX6_sortAsked_82 ?_
        refine lv_iload hx hb dX6_sortAsked_85 (lv_at hl 4 rfl) ?_
        refine lv_iload_n hx hb dX6_sortAsked_87 rfl (lv_at hl 3 rfl) ?_
        obtain ⟨hi88, hd⟩ := dn_i hd
        refine k_iast (D := D) (k := x4_81.toNatClampNeg) (by rfl) hx hb hK hP hD hS 77 1 rfl rfl hi88 dX6_sortAsked_88 (fun H locs hP hD hS => ?_)
        have hP : va_P D vwCl (wX6 cs a (k_w S_81 77 x4_81.toNatClampNeg x3_81) L) _ := k_eq hP (wsX6_a77 cs a S_81 L x4_81.toNatClampNeg x3_81)
        have hD := hDA (k_w S_81 77 x4_81.toNatClampNeg x3_81) L
        refine lv_iinc (v := x1_81 + (1 : Int32)) (lv' := [(1, .int (x1_81 + (1 : Int32))), (0, .ref (a 0)), (2, .int x2_81), (3, .int x3_81), (4, .int x4_81)]) hx hb dX6_sortAsked_89 hl (k := 1) rfl rfl (by decide) rfl (fun ls hl => ?_)
        refine lv_iinc (v := x2_81 + (1 : Int32)) (lv' := [(2, .int (x2_81 + (1 : Int32))), (1, .int (x1_81 + (1 : Int32))), (0, .ref (a 0)), (3, .int x3_81), (4, .int x4_81)]) hx hb dX6_sortAsked_92 hl (k := 2) rfl rfl (by decide) rfl (fun ls hl => ?_)
        refine lv_goto (tgt := 4) hx hb dX6_sortAsked_95 (by decide) ?_
        exact ih1 (x1_81 + (1 : Int32)) (x2_81 + (1 : Int32)) (k_w S_81 77 x4_81.toNatClampNeg x3_81) _ _ _ (dn_bk hd hy1) (lv_sub hl [2, 1, 0] rfl) hP hS
      have Lo41 : ∀ (n2 : Nat) (x1_41 : Int32) (x2_41 : Int32) (x3_41 : Int32) (x4_41 : Int32) (S_41 : Nat → Nat → Int32) (H : Heap) (locs : List Loc) (ls : Array Slot), k_it (fun st => nX6_sortAsked_i4_l41 x1_41 x2_41 x3_41 st.1 st.2 L) n2 (x4_41, S_41) = some y1 → lv_has ls 5 [(0, .ref (a 0)), (1, .int x1_41), (2, .int x2_41), (3, .int x3_41), (4, .int x4_41)] → va_P D vwCl (wX6 cs a S_41 L) H → va_S A s.heap H locs → W p l e (headSpec wsX6_sortAsked ({ frames := 3, cells := 0, slots := 0, locals := 71 })).room s m ([.ref (a 0)] : List Value).toArray below meth c H locs 0 0 Q (F0 m 41 ls []) := by
        intro n2
        induction n2 with
        | zero => intro x1_41 x2_41 x3_41 x4_41 S_41 H locs ls hd; exact dn_it0 hd
        | succ n2 ih2 =>
          intro x1_41 x2_41 x3_41 x4_41 S_41 H locs ls hd hl hP hS
          have hD := hDA S_41 L
          obtain ⟨y2, hd, hy2⟩ := dn_it hd
          have hd : nX6_sortAsked_i4_l41 x1_41 x2_41 x3_41 x4_41 S_41 L = some y2 := hd
          unfold nX6_sortAsked_i4_l41 at hd
          refine lv_iload hx hb dX6_sortAsked_41 (lv_at hl 4 rfl) ?_
          refine lv_if_le (tgt := 81) hx hb dX6_sortAsked_43 (by decide) (fun c43 => ?_) (fun c43 => ?_)
          · have hd := dn_t c43 hd
            have hd := dn_up hd hy2
            exact Jo81 x1_41 x2_41 x3_41 x4_41 S_41 _ _ _ hd (lv_sub hl [0, 1, 2, 3, 4] rfl) hP hS
          · have hd := dn_f c43 hd
            refine lv_aload_n hx hb dX6_sortAsked_46 rfl (lv_at hl 0 rfl) ?_
            refine va_get (D := D) (ci := 4) (v := .ref (a 77)) (C := RX6) (T := TX6) (N := 12) hx hb hts (fun w h => List.mem_cons_of_mem _ (List.mem_append_left _ (List.mem_append_right _ h))) hown hK hP 0 rfl rfl 8 (by decide) (hts (.fieldLink RX6 48 "LeastNeed" "order" "[I") (List.mem_of_getElem? (i := 3) rfl)) (fun _ h9 => h9) rfl dX6_sortAsked_47 ?_
            refine lv_iload hx hb dX6_sortAsked_50 (lv_at hl 4 rfl) ?_
            refine lv_iconst (v := (1 : Int32)) hx hb dX6_sortAsked_52 (by decide) ?_
            refine lv_isub hx hb dX6_sortAsked_53 ?_
            obtain ⟨hi54, hd⟩ := dn_i hd
            refine k_iald (D := D) (k := (x4_41 - (1 : Int32)).toNatClampNeg) (by rfl) hx hb hK hP 77 1 rfl rfl hi54 dX6_sortAsked_54 ?_
            refine lv_iload_n hx hb dX6_sortAsked_55 rfl (lv_at hl 3 rfl) ?_
            refine lv_icmp_le (tgt := 81) hx hb dX6_sortAsked_56 (by decide) (fun c56 => ?_) (fun c56 => ?_)
            · have hd := dn_t c56 hd
              have hd := dn_up hd hy2
              exact Jo81 x1_41 x2_41 x3_41 x4_41 S_41 _ _ _ hd (lv_sub hl [0, 1, 2, 3, 4] rfl) hP hS
            · have hd := dn_f c56 hd
              refine lv_aload_n hx hb dX6_sortAsked_59 rfl (lv_at hl 0 rfl) ?_
              refine va_get (D := D) (ci := 4) (v := .ref (a 77)) (C := RX6) (T := TX6) (N := 12) hx hb hts (fun w h => List.mem_cons_of_mem _ (List.mem_append_left _ (List.mem_append_right _ h))) hown hK hP 0 rfl rfl 8 (by decide) (hts (.fieldLink RX6 48 "LeastNeed" "order" "[I") (List.mem_of_getElem? (i := 3) rfl)) (fun _ h9 => h9) rfl dX6_sortAsked_60 ?_
              refine lv_iload hx hb dX6_sortAsked_63 (lv_at hl 4 rfl) ?_
              refine lv_aload_n hx hb dX6_sortAsked_65 rfl (lv_at hl 0 rfl) ?_
              refine va_get (D := D) (ci := 4) (v := .ref (a 77)) (C := RX6) (T := TX6) (N := 12) hx hb hts (fun w h => List.mem_cons_of_mem _ (List.mem_append_left _ (List.mem_append_right _ h))) hown hK hP 0 rfl rfl 8 (by decide) (hts (.fieldLink RX6 48 "LeastNeed" "order" "[I") (List.mem_of_getElem? (i := 3) rfl)) (fun _ h9 => h9) rfl dX6_sortAsked_66 ?_
              refine lv_iload hx hb dX6_sortAsked_69 (lv_at hl 4 rfl) ?_
              refine lv_iconst (v := (1 : Int32)) hx hb dX6_sortAsked_71 (by decide) ?_
              refine lv_isub hx hb dX6_sortAsked_72 ?_
              obtain ⟨hi73, hd⟩ := dn_i hd
              refine k_iald (D := D) (k := (x4_41 - (1 : Int32)).toNatClampNeg) (by rfl) hx hb hK hP 77 1 rfl rfl hi73 dX6_sortAsked_73 ?_
              obtain ⟨hi74, hd⟩ := dn_i hd
              refine k_iast (D := D) (k := x4_41.toNatClampNeg) (by rfl) hx hb hK hP hD hS 77 1 rfl rfl hi74 dX6_sortAsked_74 (fun H locs hP hD hS => ?_)
              have hP : va_P D vwCl (wX6 cs a (k_w S_41 77 x4_41.toNatClampNeg (S_41 77 (x4_41 - (1 : Int32)).toNatClampNeg)) L) _ := k_eq hP (wsX6_a77 cs a S_41 L x4_41.toNatClampNeg (S_41 77 (x4_41 - (1 : Int32)).toNatClampNeg))
              have hD := hDA (k_w S_41 77 x4_41.toNatClampNeg (S_41 77 (x4_41 - (1 : Int32)).toNatClampNeg)) L
              refine lv_iinc (v := x4_41 + (-1 : Int32)) (lv' := [(4, .int (x4_41 + (-1 : Int32))), (0, .ref (a 0)), (1, .int x1_41), (2, .int x2_41), (3, .int x3_41)]) hx hb dX6_sortAsked_75 hl (k := 4) rfl rfl (by decide) rfl (fun ls hl => ?_)
              refine lv_goto (tgt := 41) hx hb dX6_sortAsked_78 (by decide) ?_
              exact ih2 x1_41 x2_41 x3_41 (x4_41 + (-1 : Int32)) (k_w S_41 77 x4_41.toNatClampNeg (S_41 77 (x4_41 - (1 : Int32)).toNatClampNeg)) _ _ _ (dn_bk hd hy2) (lv_sub hl [1, 2, 3, 4, 0] rfl) hP hS
      unfold nX6_sortAsked_l4 at hd
      refine lv_iload_n hx hb dX6_sortAsked_4 rfl (lv_at hl 2 rfl) ?_
      refine lv_aload_n hx hb dX6_sortAsked_5 rfl (lv_at hl 0 rfl) ?_
      refine va_get (D := D) (ci := 4) (v := .ref (a 1)) (C := RX6) (T := TX6) (N := 12) hx hb hts (fun w h => List.mem_cons_of_mem _ (List.mem_append_left _ (List.mem_append_right _ h))) hown hK hP 0 rfl rfl 0 (by decide) (hts (.fieldLink RX6 12 "LeastNeed" "now" "LLeastNeed$Valley;") (List.mem_of_getElem? (i := 1) rfl)) (fun _ h9 => h9) rfl dX6_sortAsked_6 ?_
      refine va_get (D := D) (ci := 3) (v := .int (S_4 1 13)) (C := RX5) (T := TX5) (N := 15) hx hb hts (fun w h => List.mem_cons_of_mem _ (List.mem_append_right _ h)) hown hK hP 1 rfl rfl 13 (by decide) (hts (.fieldLink RX6 87 "LeastNeed$Valley" "things" "I") (List.mem_of_getElem? (i := 2) rfl)) (fun _ h9 => h9) rfl dX6_sortAsked_9 ?_
      refine lv_icmp_ge (tgt := 98) hx hb dX6_sortAsked_12 (by decide) (fun c12 => ?_) (fun c12 => ?_)
      · have hd := dn_t c12 hd
        have hd := dn_up hd hy1
        refine lv_iload_n hx hb dX6_sortAsked_98 rfl (lv_at hl 1 rfl) ?_
        obtain ⟨e1, e2⟩ := dn_s2 hd
        exact k_iret hx hb hr hQ hAe e1 (by rw [e2]) hP hS hlocks dX6_sortAsked_99
      · have hd := dn_f c12 hd
        refine lv_aload_n hx hb dX6_sortAsked_15 rfl (lv_at hl 0 rfl) ?_
        refine va_get (D := D) (ci := 4) (v := .ref (a 1)) (C := RX6) (T := TX6) (N := 12) hx hb hts (fun w h => List.mem_cons_of_mem _ (List.mem_append_left _ (List.mem_append_right _ h))) hown hK hP 0 rfl rfl 0 (by decide) (hts (.fieldLink RX6 12 "LeastNeed" "now" "LLeastNeed$Valley;") (List.mem_of_getElem? (i := 1) rfl)) (fun _ h9 => h9) rfl dX6_sortAsked_16 ?_
        refine lv_iload_n hx hb dX6_sortAsked_19 rfl (lv_at hl 2 rfl) ?_
        obtain ⟨r20, hq20, hd⟩ := dn_b1 hd
        have hPc : va_P D vwCl (wX5 cs (k_wi a 1) (k_wi S_4 1)) _ := k_sub hP [1, 2, 3, 4, 5, 6, 7, 8, 9, 10, 11, 12, 13, 14, 15, 16] (wcX6_X5_1 cs a S_4 L)
        have hDc : va_D A (wX5 cs (k_wi a 1) (k_wi S_4 1)) := hD.sub [1, 2, 3, 4, 5, 6, 7, 8, 9, 10, 11, 12, 13, 14, 15, 16] (by decide) (wcX6_X5_1 cs a S_4 L)
        have hF := k_self hDc hS hA
        refine k_run_i (va_runV (As := [.int x2_4]) (rest := []) ⟨hx, hb, hml, hown, hts⟩ (mX5_isAway l D cs (k_wi a 1) (k_wi S_4 1) x2_4 r20 hq20 _) (cwV 1 hts gX6_sortAsked_X5_isAway rfl rfl rfl (by decide +kernel) ⟨Nat.le_of_ble_eq_true rfl, Nat.le_of_ble_eq_true rfl⟩) ⟨k_blind, va_recv hK hP (ci := 3) (q0 := 1) rfl rfl, k_pre hPc hK hNn hDc⟩ rfl rfl hl.1 rfl (lv_room (Nat.le_of_ble_eq_true rfl)) dX6_sortAsked_20 ⟨Nat.le_of_ble_eq_true rfl, Nat.le_of_ble_eq_true rfl⟩) hS hF (fun H locs hP1 hk hS => ?_)
        have hP : va_P D vwCl (wX6 cs a S_4 L) _ := k_back hP hD [1, 2, 3, 4, 5, 6, 7, 8, 9, 10, 11, 12, 13, 14, 15, 16] [0, 17, 18, 19, 20, 21, 22, 23, 24, 25, 26, 27, 28, 29, 30, 31, 32, 33, 34, 35, 36, 37, 38, 39, 40, 41, 42, 43, 44, 45, 46, 47, 48, 49, 50, 51, 52, 53, 54, 55, 56, 57, 58, 59, 60, 61, 62, 63, 64, 65, 66, 67, 68, 69, 70, 71, 72, 73, 74, 75, 76, 77, 78] [0, 63, 64, 65, 66, 67, 68, 69, 70, 71, 72, 73, 74, 75, 76, 77, 78, 1, 2, 3, 4, 5, 6, 7, 8, 9, 10, 11, 12, 13, 14, 15, 16, 17, 18, 19, 20, 21, 22, 23, 24, 25, 26, 27, 28, 29, 30, 31, 32, 33, 34, 35, 36, 37, 38, 39, 40, 41, 42, 43, 44, 45, 46, 47, 48, 49, 50, 51, 52, 53, 54, 55, 56, 57, 58, 59, 60, 61, 62] (wcX6_X5_1 cs a S_4 L) (by decide) hk hP1 (wbX6_X5_1 cs a S_4 L)
        have hD := hDA S_4 L
        refine lv_if_ne (tgt := 29) hx hb dX6_sortAsked_23 (by decide) (fun c23 => ?_) (fun c23 => ?_)
        · have hd := dn_f c23 hd
          refine lv_aload_n hx hb dX6_sortAsked_29 rfl (lv_at hl 0 rfl) ?_
          refine va_get (D := D) (ci := 4) (v := .ref (a 1)) (C := RX6) (T := TX6) (N := 12) hx hb hts (fun w h => List.mem_cons_of_mem _ (List.mem_append_left _ (List.mem_append_right _ h))) hown hK hP 0 rfl rfl 0 (by decide) (hts (.fieldLink RX6 12 "LeastNeed" "now" "LLeastNeed$Valley;") (List.mem_of_getElem? (i := 1) rfl)) (fun _ h9 => h9) rfl dX6_sortAsked_30 ?_
          refine lv_iload_n hx hb dX6_sortAsked_33 rfl (lv_at hl 2 rfl) ?_
          obtain ⟨r34, hq34, hd⟩ := dn_b1 hd
          have hPc : va_P D vwCl (wX5 cs (k_wi a 1) (k_wi S_4 1)) _ := k_sub hP [1, 2, 3, 4, 5, 6, 7, 8, 9, 10, 11, 12, 13, 14, 15, 16] (wcX6_X5_1 cs a S_4 L)
          have hDc : va_D A (wX5 cs (k_wi a 1) (k_wi S_4 1)) := hD.sub [1, 2, 3, 4, 5, 6, 7, 8, 9, 10, 11, 12, 13, 14, 15, 16] (by decide) (wcX6_X5_1 cs a S_4 L)
          have hF := k_self hDc hS hA
          refine k_run_i (va_runV (As := [.int x2_4]) (rest := []) ⟨hx, hb, hml, hown, hts⟩ (mX5_askedFor l D cs (k_wi a 1) (k_wi S_4 1) x2_4 r34 hq34 _) (cwV 1 hts gX6_sortAsked_X5_askedFor rfl rfl rfl (by decide +kernel) ⟨Nat.le_of_ble_eq_true rfl, Nat.le_of_ble_eq_true rfl⟩) ⟨k_blind, va_recv hK hP (ci := 3) (q0 := 1) rfl rfl, k_pre hPc hK hNn hDc⟩ rfl rfl hl.1 rfl (lv_room (Nat.le_of_ble_eq_true rfl)) dX6_sortAsked_34 ⟨Nat.le_of_ble_eq_true rfl, Nat.le_of_ble_eq_true rfl⟩) hS hF (fun H locs hP1 hk hS => ?_)
          have hP : va_P D vwCl (wX6 cs a S_4 L) _ := k_back hP hD [1, 2, 3, 4, 5, 6, 7, 8, 9, 10, 11, 12, 13, 14, 15, 16] [0, 17, 18, 19, 20, 21, 22, 23, 24, 25, 26, 27, 28, 29, 30, 31, 32, 33, 34, 35, 36, 37, 38, 39, 40, 41, 42, 43, 44, 45, 46, 47, 48, 49, 50, 51, 52, 53, 54, 55, 56, 57, 58, 59, 60, 61, 62, 63, 64, 65, 66, 67, 68, 69, 70, 71, 72, 73, 74, 75, 76, 77, 78] [0, 63, 64, 65, 66, 67, 68, 69, 70, 71, 72, 73, 74, 75, 76, 77, 78, 1, 2, 3, 4, 5, 6, 7, 8, 9, 10, 11, 12, 13, 14, 15, 16, 17, 18, 19, 20, 21, 22, 23, 24, 25, 26, 27, 28, 29, 30, 31, 32, 33, 34, 35, 36, 37, 38, 39, 40, 41, 42, 43, 44, 45, 46, 47, 48, 49, 50, 51, 52, 53, 54, 55, 56, 57, 58, 59, 60, 61, 62] (wcX6_X5_1 cs a S_4 L) (by decide) hk hP1 (wbX6_X5_1 cs a S_4 L)
          have hD := hDA S_4 L
          refine lv_istore_n (lv' := [(3, .int r34), (0, .ref (a 0)), (1, .int x1_4), (2, .int x2_4)]) hx hb dX6_sortAsked_37 rfl hl (by decide) rfl (fun ls hl => ?_)
          refine lv_iload_n hx hb dX6_sortAsked_38 rfl (lv_at hl 2 rfl) ?_
          refine lv_istore (lv' := [(4, .int x1_4), (3, .int r34), (0, .ref (a 0)), (1, .int x1_4), (2, .int x2_4)]) hx hb dX6_sortAsked_39 hl (by decide) rfl (fun ls hl => ?_)
          exact Lo41 1000 x1_4 x2_4 r34 x1_4 S_4 _ _ _ hd (lv_sub hl [2, 3, 4, 1, 0] rfl) hP hS
        · have hd := dn_t c23 hd
          refine lv_goto (tgt := 92) hx hb dX6_sortAsked_26 (by decide) ?_
          refine lv_iinc (v := x2_4 + (1 : Int32)) (lv' := [(2, .int (x2_4 + (1 : Int32))), (0, .ref (a 0)), (1, .int x1_4)]) hx hb dX6_sortAsked_92 hl (k := 2) rfl rfl (by decide) rfl (fun ls hl => ?_)
          refine lv_goto (tgt := 4) hx hb dX6_sortAsked_95 (by decide) ?_
          exact ih1 x1_4 (x2_4 + (1 : Int32)) S_4 _ _ _ (dn_bk hd hy1) (lv_sub hl [1, 2, 0] rfl) hP hS
  unfold nX6_sortAsked at hd
  refine lv_iconst (v := (0 : Int32)) hx hb dX6_sortAsked_0 (by decide) ?_
  refine lv_istore_n (lv' := [(1, .int (0 : Int32)), (0, .ref (a 0))]) hx hb dX6_sortAsked_1 rfl hl (by decide) rfl (fun ls hl => ?_)
  refine lv_iconst (v := (0 : Int32)) hx hb dX6_sortAsked_2 (by decide) ?_
  refine lv_istore_n (lv' := [(2, .int (0 : Int32)), (1, .int (0 : Int32)), (0, .ref (a 0))]) hx hb dX6_sortAsked_3 rfl hl (by decide) rfl (fun ls hl => ?_)
  exact Lo4 1000 (0 : Int32) (0 : Int32) S _ _ _ hd (lv_sub hl [2, 1, 0] rfl) hP hS
-- LeastNeed.few(I)I
set_option maxRecDepth 20000 in
def nX6_few_l25 (x2_25 : Int32) (x3_25 : Int32) (x4_25 : Int32) (S_25 : Nat → Nat → Int32) (L : Nat → Nat → Int64) : Option ((Int32 × Int32) ⊕ (Int32 × (Nat → Nat → Int32))) := if x2_25 ≤ x4_25 then k_up (some (x4_25, S_25)) else if x4_25 < 0 ∨ 8 ≤ x4_25.toNatClampNeg then none else if x3_25 < (S_25 77 x4_25.toNatClampNeg) then k_up (some (x4_25, S_25)) else if x4_25 < 0 ∨ 8 ≤ x4_25.toNatClampNeg then none else some (.inl ((x3_25 - (S_25 77 x4_25.toNatClampNeg)), (x4_25 + (1 : Int32))))
set_option maxRecDepth 20000 in
def nX6_few (S : Nat → Nat → Int32) (L : Nat → Nat → Int64) (p1 : Int32) : Option (Int32 × (Nat → Nat → Int32)) := k_b1 (nX6_upTo p1 (201 : Int32)) (fun r4 => if r4 = 0 then k_b2 (nX6_refusedAsBad S L) (fun r11 S11 => some (r11, S11)) else k_b2 (nX6_sortAsked S L) (fun r16 S16 => k_it (fun st => nX6_few_l25 r16 st.1 st.2 S16 L) 1000 (p1, (0 : Int32))))
set_option maxHeartbeats 4000000 in
set_option maxRecDepth 100000 in
theorem mX6_few (l : Launch) (D : va_G) (cs : Nat → ClassId) (a : Nat → Nat) (S : Nat → Nat → Int32) (L : Nat → Nat → Int64) (p1 : Int32) (r9 : Int32) (S9 : (Nat → Nat → Int32)) (hd : nX6_few S L p1 = some (r9, S9)) : ∀ sz : Nat, Met l yX6_few wsX6_few ({ frames := 4, cells := 0, slots := 0, locals := 95 }) (k_Pc D cs [.ref (a 0), .int p1] (wX6 cs a S L) sz) (k_Qi D r9 (wX6 cs a S L) (wX6 cs a S9 L) sz) 0 0 (va_A (wX6 cs a S L) sz) := by
  intro sz
  refine Met.ofW (cc := cX6_few) (maxL := 5) (ret := (some .int)) (by decide) rfl ?_
  intro p e s m args below meth c s₁ B hml hv
  obtain ⟨rfl, hsz, hP, hK, hD0, hNn⟩ := hv
  have hx := B.exec
  have hb := B.bytes
  have hr := B.returns
  have hts := atoms_spec (ws := wsX6_few) B.pre
  have hown : s.vm.findClass RX6 = some m.cls := findClass_of_methodNamed B.named
  have hlocks := B.notSynchronized
  subst hsz
  obtain ⟨A, hAe⟩ : ∃ A : Nat → Prop, A = va_A (wX6 cs a S L) s.heap.size := ⟨_, rfl⟩
  have hD : va_D A (wX6 cs a S L) := by rw [hAe]; exact hD0.self
  have hA : ∀ q : Nat, s.heap.size ≤ q → A q := fun q h => by rw [hAe]; exact Or.inr h
  have hS : va_S A s.heap s.heap [] := va_S.rf
  have hDA : ∀ (S : Nat → Nat → Int32) (L : Nat → Nat → Int64), va_D A (wX6 cs a S L) := fun S L => k_DA hD rfl
  have hl := lv_entry ([.ref (a 0), .int p1]) (n := 5) (Nat.le_of_ble_eq_true rfl)
  rw [lg_entry_eq]
  generalize (lg_sl ([.ref (a 0), .int p1]) ++ List.replicate (5 - (lg_sl ([.ref (a 0), .int p1])).length) Slot.unset).toArray = ls at hl ⊢
  have hl : lv_has ls 5 [(0, .ref (a 0)), (1, .int p1)] := hl
  obtain ⟨Q, hQ⟩ : ∃ Q, Q = MQ below (k_Qi D r9 (wX6 cs a S L) (wX6 cs a S9 L) s.heap.size) ([.ref (a 0), .int p1] : List Value).toArray s 0 0 (va_A (wX6 cs a S L) s.heap.size) := ⟨_, rfl⟩
  rw [← hQ]
  have Lo25 : ∀ (n1 : Nat) (x2_25 : Int32) (x3_25 : Int32) (x4_25 : Int32) (S_25 : Nat → Nat → Int32) (H : Heap) (locs : List Loc) (ls : Array Slot), k_it (fun st => nX6_few_l25 x2_25 st.1 st.2 S_25 L) n1 (x3_25, x4_25) = some (r9, S9) → lv_has ls 5 [(0, .ref (a 0)), (2, .int x2_25), (3, .int x3_25), (4, .int x4_25)] → va_P D vwCl (wX6 cs a S_25 L) H → va_S A s.heap H locs → W p l e (headSpec wsX6_few ({ frames := 4, cells := 0, slots := 0, locals := 95 })).room s m ([.ref (a 0), .int p1] : List Value).toArray below meth c H locs 0 0 Q (F0 m 25 ls []) := by
    intro n1
    induction n1 with
    | zero => intro x2_25 x3_25 x4_25 S_25 H locs ls hd; exact dn_it0 hd
    | succ n1 ih1 =>
      intro x2_25 x3_25 x4_25 S_25 H locs ls hd hl hP hS
      have hD := hDA S_25 L
      obtain ⟨y1, hd, hy1⟩ := dn_it hd
      have hd : nX6_few_l25 x2_25 x3_25 x4_25 S_25 L = some y1 := hd
      unfold nX6_few_l25 at hd
      refine lv_iload hx hb dX6_few_25 (lv_at hl 3 rfl) ?_
      refine lv_iload_n hx hb dX6_few_27 rfl (lv_at hl 1 rfl) ?_
      refine lv_icmp_ge (tgt := 58) hx hb dX6_few_28 (by decide) (fun c28 => ?_) (fun c28 => ?_)
      · have hd := dn_t c28 hd
        have hd := dn_up hd hy1
        refine lv_iload hx hb dX6_few_58 (lv_at hl 3 rfl) ?_
        obtain ⟨e1, e2⟩ := dn_s2 hd
        exact k_iret hx hb hr hQ hAe e1 (by rw [e2]) hP hS hlocks dX6_few_60
      · have hd := dn_f c28 hd
        refine lv_aload_n hx hb dX6_few_31 rfl (lv_at hl 0 rfl) ?_
        refine va_get (D := D) (ci := 4) (v := .ref (a 77)) (C := RX6) (T := TX6) (N := 12) hx hb hts (fun w h => List.mem_cons_of_mem _ (List.mem_append_left _ (List.mem_append_right _ h))) hown hK hP 0 rfl rfl 8 (by decide) (hts (.fieldLink RX6 48 "LeastNeed" "order" "[I") (List.mem_of_getElem? (i := 1) rfl)) (fun _ h9 => h9) rfl dX6_few_32 ?_
        refine lv_iload hx hb dX6_few_35 (lv_at hl 3 rfl) ?_
        obtain ⟨hi37, hd⟩ := dn_i hd
        refine k_iald (D := D) (k := x4_25.toNatClampNeg) (by rfl) hx hb hK hP 77 1 rfl rfl hi37 dX6_few_37 ?_
        refine lv_iload_n hx hb dX6_few_38 rfl (lv_at hl 2 rfl) ?_
        refine lv_icmp_gt (tgt := 58) hx hb dX6_few_39 (by decide) (fun c39 => ?_) (fun c39 => ?_)
        · have hd := dn_t c39 hd
          have hd := dn_up hd hy1
          refine lv_iload hx hb dX6_few_58 (lv_at hl 3 rfl) ?_
          obtain ⟨e1, e2⟩ := dn_s2 hd
          exact k_iret hx hb hr hQ hAe e1 (by rw [e2]) hP hS hlocks dX6_few_60
        · have hd := dn_f c39 hd
          refine lv_iload_n hx hb dX6_few_42 rfl (lv_at hl 2 rfl) ?_
          refine lv_aload_n hx hb dX6_few_43 rfl (lv_at hl 0 rfl) ?_
          refine va_get (D := D) (ci := 4) (v := .ref (a 77)) (C := RX6) (T := TX6) (N := 12) hx hb hts (fun w h => List.mem_cons_of_mem _ (List.mem_append_left _ (List.mem_append_right _ h))) hown hK hP 0 rfl rfl 8 (by decide) (hts (.fieldLink RX6 48 "LeastNeed" "order" "[I") (List.mem_of_getElem? (i := 1) rfl)) (fun _ h9 => h9) rfl dX6_few_44 ?_
          refine lv_iload hx hb dX6_few_47 (lv_at hl 3 rfl) ?_
          obtain ⟨hi49, hd⟩ := dn_i hd
          refine k_iald (D := D) (k := x4_25.toNatClampNeg) (by rfl) hx hb hK hP 77 1 rfl rfl hi49 dX6_few_49 ?_
          refine lv_isub hx hb dX6_few_50 ?_
          refine lv_istore_n (lv' := [(3, .int (x3_25 - (S_25 77 x4_25.toNatClampNeg))), (0, .ref (a 0)), (2, .int x2_25), (4, .int x4_25)]) hx hb dX6_few_51 rfl hl (by decide) rfl (fun ls hl => ?_)
          refine lv_iinc (v := x4_25 + (1 : Int32)) (lv' := [(4, .int (x4_25 + (1 : Int32))), (3, .int (x3_25 - (S_25 77 x4_25.toNatClampNeg))), (0, .ref (a 0)), (2, .int x2_25)]) hx hb dX6_few_52 hl (k := 3) rfl rfl (by decide) rfl (fun ls hl => ?_)
          refine lv_goto (tgt := 25) hx hb dX6_few_55 (by decide) ?_
          exact ih1 x2_25 (x3_25 - (S_25 77 x4_25.toNatClampNeg)) (x4_25 + (1 : Int32)) S_25 _ _ _ (dn_bk hd hy1) (lv_sub hl [2, 3, 1, 0] rfl) hP hS
  unfold nX6_few at hd
  refine lv_iload_n hx hb dX6_few_0 rfl (lv_at hl 1 rfl) ?_
  refine lv_sipush (v := (201 : Int32)) hx hb dX6_few_1 (by decide) ?_
  obtain ⟨r4, hq4, hd⟩ := dn_b1 hd
  have hPc := k_P0 hP
  have hDc : va_D A ([] : va_W) := k_D0
  have hF := k_self hDc hS hA
  refine k_run_i (va_runS (As := [.int p1, .int (201 : Int32)]) (rest := []) ⟨hx, hb, hml, hown, hts⟩ (mX6_upTo l D cs  p1 (201 : Int32) r4 hq4 _) (va_cwS 2 hts gX6_few_X6_upTo rfl rfl rfl (by decide +kernel) ⟨Nat.le_of_ble_eq_true rfl, Nat.le_of_ble_eq_true rfl⟩) ⟨k_blind, k_pre hPc hK hNn hDc⟩ rfl rfl hl.1 rfl (lv_room (Nat.le_of_ble_eq_true rfl)) dX6_few_4 ⟨Nat.le_of_ble_eq_true rfl, Nat.le_of_ble_eq_true rfl⟩) hS hF (fun H locs hP1 hk hS => ?_)
  have hP : va_P D vwCl (wX6 cs a S L) _ := k_keep hP hk
  refine lv_if_ne (tgt := 15) hx hb dX6_few_7 (by decide) (fun c7 => ?_) (fun c7 => ?_)
  · have hd := dn_f c7 hd
    refine lv_aload_n hx hb dX6_few_15 rfl (lv_at hl 0 rfl) ?_
    obtain ⟨r16, S16, hq16, hd⟩ := dn_b2 hd
    have hF := k_self hD hS hA
    refine k_run_i (va_runV (As := []) (rest := []) ⟨hx, hb, hml, hown, hts⟩ (mX6_sortAsked l D cs a S L r16 S16 hq16 _) (cwV 0 hts gX6_few_X6_sortAsked rfl rfl rfl (by decide +kernel) ⟨Nat.le_of_ble_eq_true rfl, Nat.le_of_ble_eq_true rfl⟩) ⟨k_blind, va_recv hK hP (ci := 4) (q0 := 0) rfl rfl, k_pre hP hK hNn hD⟩ rfl rfl hl.1 rfl (lv_room (Nat.le_of_ble_eq_true rfl)) dX6_few_16 ⟨Nat.le_of_ble_eq_true rfl, Nat.le_of_ble_eq_true rfl⟩) hS hF (fun H locs hP1 hk hS => ?_)
    have hP : va_P D vwCl (wX6 cs a S16 L) _ := hP1
    have hD := hDA S16 L
    refine lv_istore_n (lv' := [(2, .int r16), (0, .ref (a 0)), (1, .int p1)]) hx hb dX6_few_19 rfl hl (by decide) rfl (fun ls hl => ?_)
    refine lv_iload_n hx hb dX6_few_20 rfl (lv_at hl 2 rfl) ?_
    refine lv_istore_n (lv' := [(3, .int p1), (2, .int r16), (0, .ref (a 0)), (1, .int p1)]) hx hb dX6_few_21 rfl hl (by decide) rfl (fun ls hl => ?_)
    refine lv_iconst (v := (0 : Int32)) hx hb dX6_few_22 (by decide) ?_
    refine lv_istore (lv' := [(4, .int (0 : Int32)), (3, .int p1), (2, .int r16), (0, .ref (a 0)), (1, .int p1)]) hx hb dX6_few_23 hl (by decide) rfl (fun ls hl => ?_)
    exact Lo25 1000 r16 p1 (0 : Int32) S16 _ _ _ hd (lv_sub hl [3, 2, 1, 0] rfl) hP hS
  · have hd := dn_t c7 hd
    refine lv_aload_n hx hb dX6_few_10 rfl (lv_at hl 0 rfl) ?_
    obtain ⟨r11, S11, hq11, hd⟩ := dn_b2 hd
    have hF := k_self hD hS hA
    refine k_run_i (va_runV (As := []) (rest := []) ⟨hx, hb, hml, hown, hts⟩ (mX6_refusedAsBad l D cs a S L r11 S11 hq11 _) (cwV 0 hts gX6_few_X6_refusedAsBad rfl rfl rfl (by decide +kernel) ⟨Nat.le_of_ble_eq_true rfl, Nat.le_of_ble_eq_true rfl⟩) ⟨k_blind, va_recv hK hP (ci := 4) (q0 := 0) rfl rfl, k_pre hP hK hNn hD⟩ rfl rfl hl.1 rfl (lv_room (Nat.le_of_ble_eq_true rfl)) dX6_few_11 ⟨Nat.le_of_ble_eq_true rfl, Nat.le_of_ble_eq_true rfl⟩) hS hF (fun H locs hP1 hk hS => ?_)
    have hP : va_P D vwCl (wX6 cs a S11 L) _ := hP1
    have hD := hDA S11 L
    obtain ⟨e1, e2⟩ := dn_s2 hd
    exact k_iret hx hb hr hQ hAe e1 (by rw [e2]) hP hS hlocks dX6_few_14
-- LeastNeed.loser(II)I
set_option maxRecDepth 20000 in
def nX6_loser_l26 (p1 : Int32) (p2 : Int32) (x3_26 : Int32) (x4_26 : Int32) (S_26 : Nat → Nat → Int32) (L : Nat → Nat → Int64) : Option ((Int32 × Int32) ⊕ (Int32 × (Nat → Nat → Int32))) := if (S_26 1 12) ≤ x4_26 then k_up (some (x3_26, S_26)) else k_b1 (nX5_nextOf (k_wi S_26 1) p1 x4_26) (fun r45 => if r45 = p2 then some (.inl ((x3_26 ||| ((1 : Int32) <<< (x4_26 &&& 31))), (x4_26 + (1 : Int32)))) else some (.inl (x3_26, (x4_26 + (1 : Int32)))))
set_option maxRecDepth 20000 in
def nX6_loser_j16 (S_16 : Nat → Nat → Int32) (L : Nat → Nat → Int64) : Option (Int32 × (Nat → Nat → Int32)) := k_b2 (nX6_refusedAsBad S_16 L) (fun r17 S17 => some (r17, S17))
set_option maxRecDepth 20000 in
def nX6_loser (S : Nat → Nat → Int32) (L : Nat → Nat → Int64) (p1 : Int32) (p2 : Int32) : Option (Int32 × (Nat → Nat → Int32)) := k_b1 (nX6_isThing S L p1) (fun r2 => if r2 = 0 then nX6_loser_j16 S L else k_b1 (nX6_isPerson S L p2) (fun r10 => if r10 = 0 then nX6_loser_j16 S L else k_it (fun st => nX6_loser_l26 p1 p2 st.1 st.2 S L) 1000 ((0 : Int32), (0 : Int32))))
set_option maxHeartbeats 4000000 in
set_option maxRecDepth 100000 in
theorem mX6_loser (l : Launch) (D : va_G) (cs : Nat → ClassId) (a : Nat → Nat) (S : Nat → Nat → Int32) (L : Nat → Nat → Int64) (p1 : Int32) (p2 : Int32) (r9 : Int32) (S9 : (Nat → Nat → Int32)) (hd : nX6_loser S L p1 p2 = some (r9, S9)) : ∀ sz : Nat, Met l yX6_loser wsX6_loser ({ frames := 4, cells := 0, slots := 0, locals := 106 }) (k_Pc D cs [.ref (a 0), .int p1, .int p2] (wX6 cs a S L) sz) (k_Qi D r9 (wX6 cs a S L) (wX6 cs a S9 L) sz) 0 0 (va_A (wX6 cs a S L) sz) := by
  intro sz
  refine Met.ofW (cc := cX6_loser) (maxL := 5) (ret := (some .int)) (by decide) rfl ?_
  intro p e s m args below meth c s₁ B hml hv
  obtain ⟨rfl, hsz, hP, hK, hD0, hNn⟩ := hv
  have hx := B.exec
  have hb := B.bytes
  have hr := B.returns
  have hts := atoms_spec (ws := wsX6_loser) B.pre
  have hown : s.vm.findClass RX6 = some m.cls := findClass_of_methodNamed B.named
  have hlocks := B.notSynchronized
  subst hsz
  obtain ⟨A, hAe⟩ : ∃ A : Nat → Prop, A = va_A (wX6 cs a S L) s.heap.size := ⟨_, rfl⟩
  have hD : va_D A (wX6 cs a S L) := by rw [hAe]; exact hD0.self
  have hA : ∀ q : Nat, s.heap.size ≤ q → A q := fun q h => by rw [hAe]; exact Or.inr h
  have hS : va_S A s.heap s.heap [] := va_S.rf
  have hDA : ∀ (S : Nat → Nat → Int32) (L : Nat → Nat → Int64), va_D A (wX6 cs a S L) := fun S L => k_DA hD rfl
  have hl := lv_entry ([.ref (a 0), .int p1, .int p2]) (n := 5) (Nat.le_of_ble_eq_true rfl)
  rw [lg_entry_eq]
  generalize (lg_sl ([.ref (a 0), .int p1, .int p2]) ++ List.replicate (5 - (lg_sl ([.ref (a 0), .int p1, .int p2])).length) Slot.unset).toArray = ls at hl ⊢
  have hl : lv_has ls 5 [(0, .ref (a 0)), (1, .int p1), (2, .int p2)] := hl
  obtain ⟨Q, hQ⟩ : ∃ Q, Q = MQ below (k_Qi D r9 (wX6 cs a S L) (wX6 cs a S9 L) s.heap.size) ([.ref (a 0), .int p1, .int p2] : List Value).toArray s 0 0 (va_A (wX6 cs a S L) s.heap.size) := ⟨_, rfl⟩
  rw [← hQ]
  have Lo26 : ∀ (n1 : Nat) (x3_26 : Int32) (x4_26 : Int32) (S_26 : Nat → Nat → Int32) (H : Heap) (locs : List Loc) (ls : Array Slot), k_it (fun st => nX6_loser_l26 p1 p2 st.1 st.2 S_26 L) n1 (x3_26, x4_26) = some (r9, S9) → lv_has ls 5 [(0, .ref (a 0)), (1, .int p1), (2, .int p2), (3, .int x3_26), (4, .int x4_26)] → va_P D vwCl (wX6 cs a S_26 L) H → va_S A s.heap H locs → W p l e (headSpec wsX6_loser ({ frames := 4, cells := 0, slots := 0, locals := 106 })).room s m ([.ref (a 0), .int p1, .int p2] : List Value).toArray below meth c H locs 0 0 Q (F0 m 26 ls []) := by
    intro n1
    induction n1 with
    | zero => intro x3_26 x4_26 S_26 H locs ls hd; exact dn_it0 hd
    | succ n1 ih1 =>
      intro x3_26 x4_26 S_26 H locs ls hd hl hP hS
      have hD := hDA S_26 L
      obtain ⟨y1, hd, hy1⟩ := dn_it hd
      have hd : nX6_loser_l26 p1 p2 x3_26 x4_26 S_26 L = some y1 := hd
      unfold nX6_loser_l26 at hd
      refine lv_iload hx hb dX6_loser_26 (lv_at hl 4 rfl) ?_
      refine lv_aload_n hx hb dX6_loser_28 rfl (lv_at hl 0 rfl) ?_
      refine va_get (D := D) (ci := 4) (v := .ref (a 1)) (C := RX6) (T := TX6) (N := 12) hx hb hts (fun w h => List.mem_cons_of_mem _ (List.mem_append_left _ (List.mem_append_right _ h))) hown hK hP 0 rfl rfl 0 (by decide) (hts (.fieldLink RX6 12 "LeastNeed" "now" "LLeastNeed$Valley;") (List.mem_of_getElem? (i := 1) rfl)) (fun _ h9 => h9) rfl dX6_loser_29 ?_
      refine va_get (D := D) (ci := 3) (v := .int (S_26 1 12)) (C := RX5) (T := TX5) (N := 15) hx hb hts (fun w h => List.mem_cons_of_mem _ (List.mem_append_right _ h)) hown hK hP 1 rfl rfl 12 (by decide) (hts (.fieldLink RX6 61 "LeastNeed$Valley" "people" "I") (List.mem_of_getElem? (i := 2) rfl)) (fun _ h9 => h9) rfl dX6_loser_32 ?_
      refine lv_icmp_ge (tgt := 65) hx hb dX6_loser_35 (by decide) (fun c35 => ?_) (fun c35 => ?_)
      · have hd := dn_t c35 hd
        have hd := dn_up hd hy1
        refine lv_iload_n hx hb dX6_loser_65 rfl (lv_at hl 3 rfl) ?_
        obtain ⟨e1, e2⟩ := dn_s2 hd
        exact k_iret hx hb hr hQ hAe e1 (by rw [e2]) hP hS hlocks dX6_loser_66
      · have hd := dn_f c35 hd
        refine lv_aload_n hx hb dX6_loser_38 rfl (lv_at hl 0 rfl) ?_
        refine va_get (D := D) (ci := 4) (v := .ref (a 1)) (C := RX6) (T := TX6) (N := 12) hx hb hts (fun w h => List.mem_cons_of_mem _ (List.mem_append_left _ (List.mem_append_right _ h))) hown hK hP 0 rfl rfl 0 (by decide) (hts (.fieldLink RX6 12 "LeastNeed" "now" "LLeastNeed$Valley;") (List.mem_of_getElem? (i := 1) rfl)) (fun _ h9 => h9) rfl dX6_loser_39 ?_
        refine lv_iload_n hx hb dX6_loser_42 rfl (lv_at hl 1 rfl) ?_
        refine lv_iload hx hb dX6_loser_43 (lv_at hl 4 rfl) ?_
        obtain ⟨r45, hq45, hd⟩ := dn_b1 hd
        have hPc : va_P D vwCl (wX5 cs (k_wi a 1) (k_wi S_26 1)) _ := k_sub hP [1, 2, 3, 4, 5, 6, 7, 8, 9, 10, 11, 12, 13, 14, 15, 16] (wcX6_X5_1 cs a S_26 L)
        have hDc : va_D A (wX5 cs (k_wi a 1) (k_wi S_26 1)) := hD.sub [1, 2, 3, 4, 5, 6, 7, 8, 9, 10, 11, 12, 13, 14, 15, 16] (by decide) (wcX6_X5_1 cs a S_26 L)
        have hF := k_self hDc hS hA
        refine k_run_i (va_runV (As := [.int p1, .int x4_26]) (rest := []) ⟨hx, hb, hml, hown, hts⟩ (mX5_nextOf l D cs (k_wi a 1) (k_wi S_26 1) p1 x4_26 r45 hq45 _) (cwV 2 hts gX6_loser_X5_nextOf rfl rfl rfl (by decide +kernel) ⟨Nat.le_of_ble_eq_true rfl, Nat.le_of_ble_eq_true rfl⟩) ⟨k_blind, va_recv hK hP (ci := 3) (q0 := 1) rfl rfl, k_pre hPc hK hNn hDc⟩ rfl rfl hl.1 rfl (lv_room (Nat.le_of_ble_eq_true rfl)) dX6_loser_45 ⟨Nat.le_of_ble_eq_true rfl, Nat.le_of_ble_eq_true rfl⟩) hS hF (fun H locs hP1 hk hS => ?_)
        have hP : va_P D vwCl (wX6 cs a S_26 L) _ := k_back hP hD [1, 2, 3, 4, 5, 6, 7, 8, 9, 10, 11, 12, 13, 14, 15, 16] [0, 17, 18, 19, 20, 21, 22, 23, 24, 25, 26, 27, 28, 29, 30, 31, 32, 33, 34, 35, 36, 37, 38, 39, 40, 41, 42, 43, 44, 45, 46, 47, 48, 49, 50, 51, 52, 53, 54, 55, 56, 57, 58, 59, 60, 61, 62, 63, 64, 65, 66, 67, 68, 69, 70, 71, 72, 73, 74, 75, 76, 77, 78] [0, 63, 64, 65, 66, 67, 68, 69, 70, 71, 72, 73, 74, 75, 76, 77, 78, 1, 2, 3, 4, 5, 6, 7, 8, 9, 10, 11, 12, 13, 14, 15, 16, 17, 18, 19, 20, 21, 22, 23, 24, 25, 26, 27, 28, 29, 30, 31, 32, 33, 34, 35, 36, 37, 38, 39, 40, 41, 42, 43, 44, 45, 46, 47, 48, 49, 50, 51, 52, 53, 54, 55, 56, 57, 58, 59, 60, 61, 62] (wcX6_X5_1 cs a S_26 L) (by decide) hk hP1 (wbX6_X5_1 cs a S_26 L)
        have hD := hDA S_26 L
        refine lv_iload_n hx hb dX6_loser_48 rfl (lv_at hl 2 rfl) ?_
        refine lv_icmp_ne (tgt := 59) hx hb dX6_loser_49 (by decide) (fun c49 => ?_) (fun c49 => ?_)
        · have hd := dn_f c49 hd
          refine lv_iinc (v := x4_26 + (1 : Int32)) (lv' := [(4, .int (x4_26 + (1 : Int32))), (0, .ref (a 0)), (1, .int p1), (2, .int p2), (3, .int x3_26)]) hx hb dX6_loser_59 hl (k := 4) rfl rfl (by decide) rfl (fun ls hl => ?_)
          refine lv_goto (tgt := 26) hx hb dX6_loser_62 (by decide) ?_
          exact ih1 x3_26 (x4_26 + (1 : Int32)) S_26 _ _ _ (dn_bk hd hy1) (lv_sub hl [1, 2, 3, 4, 0] rfl) hP hS
        · have hd := dn_t c49 hd
          refine lv_iload_n hx hb dX6_loser_52 rfl (lv_at hl 3 rfl) ?_
          refine lv_iconst (v := (1 : Int32)) hx hb dX6_loser_53 (by decide) ?_
          refine lv_iload hx hb dX6_loser_54 (lv_at hl 4 rfl) ?_
          refine lv_ishl hx hb dX6_loser_56 ?_
          refine lv_ior hx hb dX6_loser_57 ?_
          refine lv_istore_n (lv' := [(3, .int (x3_26 ||| ((1 : Int32) <<< (x4_26 &&& 31)))), (0, .ref (a 0)), (1, .int p1), (2, .int p2), (4, .int x4_26)]) hx hb dX6_loser_58 rfl hl (by decide) rfl (fun ls hl => ?_)
          refine lv_iinc (v := x4_26 + (1 : Int32)) (lv' := [(4, .int (x4_26 + (1 : Int32))), (3, .int (x3_26 ||| ((1 : Int32) <<< (x4_26 &&& 31)))), (0, .ref (a 0)), (1, .int p1), (2, .int p2)]) hx hb dX6_loser_59 hl (k := 4) rfl rfl (by decide) rfl (fun ls hl => ?_)
          refine lv_goto (tgt := 26) hx hb dX6_loser_62 (by decide) ?_
          exact ih1 (x3_26 ||| ((1 : Int32) <<< (x4_26 &&& 31))) (x4_26 + (1 : Int32)) S_26 _ _ _ (dn_bk hd hy1) (lv_sub hl [2, 3, 4, 1, 0] rfl) hP hS
  have Jo16 : ∀ (S_16 : Nat → Nat → Int32) (H : Heap) (locs : List Loc) (ls : Array Slot), nX6_loser_j16 S_16 L = some (r9, S9) → lv_has ls 5 [(0, .ref (a 0))] → va_P D vwCl (wX6 cs a S_16 L) H → va_S A s.heap H locs → W p l e (headSpec wsX6_loser ({ frames := 4, cells := 0, slots := 0, locals := 106 })).room s m ([.ref (a 0), .int p1, .int p2] : List Value).toArray below meth c H locs 0 0 Q (F0 m 16 ls []) := by
    intro S_16 H locs ls hd hl hP hS
    have hD := hDA S_16 L
    unfold nX6_loser_j16 at hd
    refine lv_aload_n hx hb dX6_loser_16 rfl (lv_at hl 0 rfl) ?_
    obtain ⟨r17, S17, hq17, hd⟩ := dn_b2 hd
    have hF := k_self hD hS hA
    refine k_run_i (va_runV (As := []) (rest := []) ⟨hx, hb, hml, hown, hts⟩ (mX6_refusedAsBad l D cs a S_16 L r17 S17 hq17 _) (cwV 0 hts gX6_loser_X6_refusedAsBad rfl rfl rfl (by decide +kernel) ⟨Nat.le_of_ble_eq_true rfl, Nat.le_of_ble_eq_true rfl⟩) ⟨k_blind, va_recv hK hP (ci := 4) (q0 := 0) rfl rfl, k_pre hP hK hNn hD⟩ rfl rfl hl.1 rfl (lv_room (Nat.le_of_ble_eq_true rfl)) dX6_loser_17 ⟨Nat.le_of_ble_eq_true rfl, Nat.le_of_ble_eq_true rfl⟩) hS hF (fun H locs hP1 hk hS => ?_)
    have hP : va_P D vwCl (wX6 cs a S17 L) _ := hP1
    have hD := hDA S17 L
    obtain ⟨e1, e2⟩ := dn_s2 hd
    exact k_iret hx hb hr hQ hAe e1 (by rw [e2]) hP hS hlocks dX6_loser_20
  unfold nX6_loser at hd
  refine lv_aload_n hx hb dX6_loser_0 rfl (lv_at hl 0 rfl) ?_
  refine lv_iload_n hx hb dX6_loser_1 rfl (lv_at hl 1 rfl) ?_
  obtain ⟨r2, hq2, hd⟩ := dn_b1 hd
  have hF := k_self hD hS hA
  refine k_run_i (va_runV (As := [.int p1]) (rest := []) ⟨hx, hb, hml, hown, hts⟩ (mX6_isThing l D cs a S L p1 r2 hq2 _) (cwV 1 hts gX6_loser_X6_isThing rfl rfl rfl (by decide +kernel) ⟨Nat.le_of_ble_eq_true rfl, Nat.le_of_ble_eq_true rfl⟩) ⟨k_blind, va_recv hK hP (ci := 4) (q0 := 0) rfl rfl, k_pre hP hK hNn hD⟩ rfl rfl hl.1 rfl (lv_room (Nat.le_of_ble_eq_true rfl)) dX6_loser_2 ⟨Nat.le_of_ble_eq_true rfl, Nat.le_of_ble_eq_true rfl⟩) hS hF (fun H locs hP1 hk hS => ?_)
  have hP : va_P D vwCl (wX6 cs a S L) _ := hP1
  have hD := hDA S L
  refine lv_if_eq (tgt := 16) hx hb dX6_loser_5 (by decide) (fun c5 => ?_) (fun c5 => ?_)
  · have hd := dn_t c5 hd
    exact Jo16 S _ _ _ hd (lv_sub hl [0] rfl) hP hS
  · have hd := dn_f c5 hd
    refine lv_aload_n hx hb dX6_loser_8 rfl (lv_at hl 0 rfl) ?_
    refine lv_iload_n hx hb dX6_loser_9 rfl (lv_at hl 2 rfl) ?_
    obtain ⟨r10, hq10, hd⟩ := dn_b1 hd
    have hF := k_self hD hS hA
    refine k_run_i (va_runV (As := [.int p2]) (rest := []) ⟨hx, hb, hml, hown, hts⟩ (mX6_isPerson l D cs a S L p2 r10 hq10 _) (cwV 1 hts gX6_loser_X6_isPerson rfl rfl rfl (by decide +kernel) ⟨Nat.le_of_ble_eq_true rfl, Nat.le_of_ble_eq_true rfl⟩) ⟨k_blind, va_recv hK hP (ci := 4) (q0 := 0) rfl rfl, k_pre hP hK hNn hD⟩ rfl rfl hl.1 rfl (lv_room (Nat.le_of_ble_eq_true rfl)) dX6_loser_10 ⟨Nat.le_of_ble_eq_true rfl, Nat.le_of_ble_eq_true rfl⟩) hS hF (fun H locs hP1 hk hS => ?_)
    have hP : va_P D vwCl (wX6 cs a S L) _ := hP1
    have hD := hDA S L
    refine lv_if_ne (tgt := 21) hx hb dX6_loser_13 (by decide) (fun c13 => ?_) (fun c13 => ?_)
    · have hd := dn_f c13 hd
      refine lv_iconst (v := (0 : Int32)) hx hb dX6_loser_21 (by decide) ?_
      refine lv_istore_n (lv' := [(3, .int (0 : Int32)), (0, .ref (a 0)), (1, .int p1), (2, .int p2)]) hx hb dX6_loser_22 rfl hl (by decide) rfl (fun ls hl => ?_)
      refine lv_iconst (v := (0 : Int32)) hx hb dX6_loser_23 (by decide) ?_
      refine lv_istore (lv' := [(4, .int (0 : Int32)), (3, .int (0 : Int32)), (0, .ref (a 0)), (1, .int p1), (2, .int p2)]) hx hb dX6_loser_24 hl (by decide) rfl (fun ls hl => ?_)
      exact Lo26 1000 (0 : Int32) (0 : Int32) S _ _ _ hd (lv_sub hl [2, 3, 4, 1, 0] rfl) hP hS
    · have hd := dn_t c13 hd
      exact Jo16 S _ _ _ hd (lv_sub hl [0] rfl) hP hS
-- LeastNeed.note(IIIIII)I
set_option maxRecDepth 20000 in
def nX6_note_j67 (S_67 : Nat → Nat → Int32) (L : Nat → Nat → Int64) : Option (Int32 × (Nat → Nat → Int32)) := k_b2 (nX6_refusedAsBad S_67 L) (fun r68 S68 => some (r68, S68))
set_option maxRecDepth 20000 in
def nX6_note_j31 (p1 : Int32) (p2 : Int32) (p3 : Int32) (p4 : Int32) (p5 : Int32) (p6 : Int32) (w0_31 : Int32) (S_31 : Nat → Nat → Int32) (L : Nat → Nat → Int64) : Option (Int32 × (Nat → Nat → Int32)) := if w0_31 = 0 then nX6_note_j67 S_31 L else k_b1 (nX6_upTo p4 (4 : Int32)) (fun r41 => if r41 = 0 then nX6_note_j67 S_31 L else k_b1 (nX6_upTo p5 (100 : Int32)) (fun r51 => if r51 = 0 then nX6_note_j67 S_31 L else k_b1 (nX6_upTo p6 (31 : Int32)) (fun r61 => if r61 = 0 then nX6_note_j67 S_31 L else k_b1 (nX3_isFull 36 (6 : Int32) (6 : Int32) (k_wi S_31 11)) (fun r79 => if r79 = 0 then k_b1 (nX3_begin 36 (6 : Int32) (6 : Int32) (k_wi S_31 11)) (fun S97 => k_b1 (nX3_put 36 (6 : Int32) (6 : Int32) (k_wi (k_sp S_31 11 2 S97) 11) (0 : Int32) p1) (fun S109 => k_b1 (nX3_put 36 (6 : Int32) (6 : Int32) (k_wi (k_sp (k_sp S_31 11 2 S97) 11 2 S109) 11) (1 : Int32) p2) (fun S121 => k_b1 (nX3_put 36 (6 : Int32) (6 : Int32) (k_wi (k_sp (k_sp (k_sp S_31 11 2 S97) 11 2 S109) 11 2 S121) 11) (2 : Int32) p3) (fun S133 => k_b1 (nX3_put 36 (6 : Int32) (6 : Int32) (k_wi (k_sp (k_sp (k_sp (k_sp S_31 11 2 S97) 11 2 S109) 11 2 S121) 11 2 S133) 11) (3 : Int32) p4) (fun S146 => k_b1 (nX3_put 36 (6 : Int32) (6 : Int32) (k_wi (k_sp (k_sp (k_sp (k_sp (k_sp S_31 11 2 S97) 11 2 S109) 11 2 S121) 11 2 S133) 11 2 S146) 11) (4 : Int32) p5) (fun S159 => k_b1 (nX3_put 36 (6 : Int32) (6 : Int32) (k_wi (k_sp (k_sp (k_sp (k_sp (k_sp (k_sp S_31 11 2 S97) 11 2 S109) 11 2 S121) 11 2 S133) 11 2 S146) 11 2 S159) 11) (5 : Int32) p6) (fun S172 => some (((k_sp (k_sp (k_sp (k_sp (k_sp (k_sp (k_sp S_31 11 2 S97) 11 2 S109) 11 2 S121) 11 2 S133) 11 2 S146) 11 2 S159) 11 2 S172) 11 3), (k_sp (k_sp (k_sp (k_sp (k_sp (k_sp (k_sp S_31 11 2 S97) 11 2 S109) 11 2 S121) 11 2 S133) 11 2 S146) 11 2 S159) 11 2 S172))))))))) else k_b2 (nX6_refusedAsFull S_31 L) (fun r86 S86 => some (r86, S86))))))
set_option maxRecDepth 20000 in
def nX6_note_j30 (p1 : Int32) (p2 : Int32) (p3 : Int32) (p4 : Int32) (p5 : Int32) (p6 : Int32) (S_30 : Nat → Nat → Int32) (L : Nat → Nat → Int64) : Option (Int32 × (Nat → Nat → Int32)) := nX6_note_j31 p1 p2 p3 p4 p5 p6 (0 : Int32) S_30 L
set_option maxRecDepth 20000 in
def nX6_note (S : Nat → Nat → Int32) (L : Nat → Nat → Int64) (p1 : Int32) (p2 : Int32) (p3 : Int32) (p4 : Int32) (p5 : Int32) (p6 : Int32) : Option (Int32 × (Nat → Nat → Int32)) := k_b1 (nX6_isPerson S L p1) (fun r2 => if r2 = 0 then nX6_note_j30 p1 p2 p3 p4 p5 p6 S L else k_b1 (nX6_upTo p2 (10 : Int32)) (fun r11 => if r11 = 0 then nX6_note_j30 p1 p2 p3 p4 p5 p6 S L else k_b1 (nX6_upTo p3 (10 : Int32)) (fun r20 => if r20 = 0 then nX6_note_j30 p1 p2 p3 p4 p5 p6 S L else nX6_note_j31 p1 p2 p3 p4 p5 p6 (1 : Int32) S L)))
set_option maxHeartbeats 4000000 in
set_option maxRecDepth 100000 in
theorem mX6_note (l : Launch) (D : va_G) (cs : Nat → ClassId) (a : Nat → Nat) (S : Nat → Nat → Int32) (L : Nat → Nat → Int64) (p1 : Int32) (p2 : Int32) (p3 : Int32) (p4 : Int32) (p5 : Int32) (p6 : Int32) (r9 : Int32) (S9 : (Nat → Nat → Int32)) (hd : nX6_note S L p1 p2 p3 p4 p5 p6 = some (r9, S9)) : ∀ sz : Nat, Met l yX6_note wsX6_note ({ frames := 2, cells := 0, slots := 0, locals := 42 }) (k_Pc D cs [.ref (a 0), .int p1, .int p2, .int p3, .int p4, .int p5, .int p6] (wX6 cs a S L) sz) (k_Qi D r9 (wX6 cs a S L) (wX6 cs a S9 L) sz) 0 0 (va_A (wX6 cs a S L) sz) := by
  intro sz
  refine Met.ofW (cc := cX6_note) (maxL := 8) (ret := (some .int)) (by decide) rfl ?_
  intro p e s m args below meth c s₁ B hml hv
  obtain ⟨rfl, hsz, hP, hK, hD0, hNn⟩ := hv
  have hx := B.exec
  have hb := B.bytes
  have hr := B.returns
  have hts := atoms_spec (ws := wsX6_note) B.pre
  have hown : s.vm.findClass RX6 = some m.cls := findClass_of_methodNamed B.named
  have hlocks := B.notSynchronized
  subst hsz
  obtain ⟨A, hAe⟩ : ∃ A : Nat → Prop, A = va_A (wX6 cs a S L) s.heap.size := ⟨_, rfl⟩
  have hD : va_D A (wX6 cs a S L) := by rw [hAe]; exact hD0.self
  have hA : ∀ q : Nat, s.heap.size ≤ q → A q := fun q h => by rw [hAe]; exact Or.inr h
  have hS : va_S A s.heap s.heap [] := va_S.rf
  have hDA : ∀ (S : Nat → Nat → Int32) (L : Nat → Nat → Int64), va_D A (wX6 cs a S L) := fun S L => k_DA hD rfl
  have hl := lv_entry ([.ref (a 0), .int p1, .int p2, .int p3, .int p4, .int p5, .int p6]) (n := 8) (Nat.le_of_ble_eq_true rfl)
  rw [lg_entry_eq]
  generalize (lg_sl ([.ref (a 0), .int p1, .int p2, .int p3, .int p4, .int p5, .int p6]) ++ List.replicate (8 - (lg_sl ([.ref (a 0), .int p1, .int p2, .int p3, .int p4, .int p5, .int p6])).length) Slot.unset).toArray = ls at hl ⊢
  have hl : lv_has ls 8 [(0, .ref (a 0)), (1, .int p1), (2, .int p2), (3, .int p3), (4, .int p4), (5, .int p5), (6, .int p6)] := hl
  obtain ⟨Q, hQ⟩ : ∃ Q, Q = MQ below (k_Qi D r9 (wX6 cs a S L) (wX6 cs a S9 L) s.heap.size) ([.ref (a 0), .int p1, .int p2, .int p3, .int p4, .int p5, .int p6] : List Value).toArray s 0 0 (va_A (wX6 cs a S L) s.heap.size) := ⟨_, rfl⟩
  rw [← hQ]
  have Jo67 : ∀ (S_67 : Nat → Nat → Int32) (H : Heap) (locs : List Loc) (ls : Array Slot), nX6_note_j67 S_67 L = some (r9, S9) → lv_has ls 8 [(0, .ref (a 0))] → va_P D vwCl (wX6 cs a S_67 L) H → va_S A s.heap H locs → W p l e (headSpec wsX6_note ({ frames := 2, cells := 0, slots := 0, locals := 42 })).room s m ([.ref (a 0), .int p1, .int p2, .int p3, .int p4, .int p5, .int p6] : List Value).toArray below meth c H locs 0 0 Q (F0 m 67 ls []) := by
    intro S_67 H locs ls hd hl hP hS
    have hD := hDA S_67 L
    unfold nX6_note_j67 at hd
    refine lv_aload_n hx hb dX6_note_67 rfl (lv_at hl 0 rfl) ?_
    obtain ⟨r68, S68, hq68, hd⟩ := dn_b2 hd
    have hF := k_self hD hS hA
    refine k_run_i (va_runV (As := []) (rest := []) ⟨hx, hb, hml, hown, hts⟩ (mX6_refusedAsBad l D cs a S_67 L r68 S68 hq68 _) (cwV 0 hts gX6_note_X6_refusedAsBad rfl rfl rfl (by decide +kernel) ⟨Nat.le_of_ble_eq_true rfl, Nat.le_of_ble_eq_true rfl⟩) ⟨k_blind, va_recv hK hP (ci := 4) (q0 := 0) rfl rfl, k_pre hP hK hNn hD⟩ rfl rfl hl.1 rfl (lv_room (Nat.le_of_ble_eq_true rfl)) dX6_note_68 ⟨Nat.le_of_ble_eq_true rfl, Nat.le_of_ble_eq_true rfl⟩) hS hF (fun H locs hP1 hk hS => ?_)
    have hP : va_P D vwCl (wX6 cs a S68 L) _ := hP1
    have hD := hDA S68 L
    obtain ⟨e1, e2⟩ := dn_s2 hd
    exact k_iret hx hb hr hQ hAe e1 (by rw [e2]) hP hS hlocks dX6_note_71
  have Jo31 : ∀ (w0_31 : Int32) (S_31 : Nat → Nat → Int32) (H : Heap) (locs : List Loc) (ls : Array Slot), nX6_note_j31 p1 p2 p3 p4 p5 p6 w0_31 S_31 L = some (r9, S9) → lv_has ls 8 [(0, .ref (a 0)), (1, .int p1), (2, .int p2), (3, .int p3), (4, .int p4), (5, .int p5), (6, .int p6)] → va_P D vwCl (wX6 cs a S_31 L) H → va_S A s.heap H locs → W p l e (headSpec wsX6_note ({ frames := 2, cells := 0, slots := 0, locals := 42 })).room s m ([.ref (a 0), .int p1, .int p2, .int p3, .int p4, .int p5, .int p6] : List Value).toArray below meth c H locs 0 0 Q (F0 m 31 ls [.int w0_31]) := by
    intro w0_31 S_31 H locs ls hd hl hP hS
    have hD := hDA S_31 L
    unfold nX6_note_j31 at hd
    refine lv_istore (lv' := [(7, .int w0_31), (0, .ref (a 0)), (1, .int p1), (2, .int p2), (3, .int p3), (4, .int p4), (5, .int p5), (6, .int p6)]) hx hb dX6_note_31 hl (by decide) rfl (fun ls hl => ?_)
    refine lv_iload hx hb dX6_note_33 (lv_at hl 0 rfl) ?_
    refine lv_if_eq (tgt := 67) hx hb dX6_note_35 (by decide) (fun c35 => ?_) (fun c35 => ?_)
    · have hd := dn_t c35 hd
      exact Jo67 S_31 _ _ _ hd (lv_sub hl [1] rfl) hP hS
    · have hd := dn_f c35 hd
      refine lv_iload hx hb dX6_note_38 (lv_at hl 5 rfl) ?_
      refine lv_iconst (v := (4 : Int32)) hx hb dX6_note_40 (by decide) ?_
      obtain ⟨r41, hq41, hd⟩ := dn_b1 hd
      have hPc := k_P0 hP
      have hDc : va_D A ([] : va_W) := k_D0
      have hF := k_self hDc hS hA
      refine k_run_i (va_runS (As := [.int p4, .int (4 : Int32)]) (rest := []) ⟨hx, hb, hml, hown, hts⟩ (mX6_upTo l D cs  p4 (4 : Int32) r41 hq41 _) (va_cwS 2 hts gX6_note_X6_upTo rfl rfl rfl (by decide +kernel) ⟨Nat.le_of_ble_eq_true rfl, Nat.le_of_ble_eq_true rfl⟩) ⟨k_blind, k_pre hPc hK hNn hDc⟩ rfl rfl hl.1 rfl (lv_room (Nat.le_of_ble_eq_true rfl)) dX6_note_41 ⟨Nat.le_of_ble_eq_true rfl, Nat.le_of_ble_eq_true rfl⟩) hS hF (fun H locs hP1 hk hS => ?_)
      have hP : va_P D vwCl (wX6 cs a S_31 L) _ := k_keep hP hk
      refine lv_if_eq (tgt := 67) hx hb dX6_note_44 (by decide) (fun c44 => ?_) (fun c44 => ?_)
      · have hd := dn_t c44 hd
        exact Jo67 S_31 _ _ _ hd (lv_sub hl [1] rfl) hP hS
      · have hd := dn_f c44 hd
        refine lv_iload hx hb dX6_note_47 (lv_at hl 6 rfl) ?_
        refine lv_bipush (v := (100 : Int32)) hx hb dX6_note_49 (by decide) ?_
        obtain ⟨r51, hq51, hd⟩ := dn_b1 hd
        have hPc := k_P0 hP
        have hDc : va_D A ([] : va_W) := k_D0
        have hF := k_self hDc hS hA
        refine k_run_i (va_runS (As := [.int p5, .int (100 : Int32)]) (rest := []) ⟨hx, hb, hml, hown, hts⟩ (mX6_upTo l D cs  p5 (100 : Int32) r51 hq51 _) (va_cwS 2 hts gX6_note_X6_upTo rfl rfl rfl (by decide +kernel) ⟨Nat.le_of_ble_eq_true rfl, Nat.le_of_ble_eq_true rfl⟩) ⟨k_blind, k_pre hPc hK hNn hDc⟩ rfl rfl hl.1 rfl (lv_room (Nat.le_of_ble_eq_true rfl)) dX6_note_51 ⟨Nat.le_of_ble_eq_true rfl, Nat.le_of_ble_eq_true rfl⟩) hS hF (fun H locs hP1 hk hS => ?_)
        have hP : va_P D vwCl (wX6 cs a S_31 L) _ := k_keep hP hk
        refine lv_if_eq (tgt := 67) hx hb dX6_note_54 (by decide) (fun c54 => ?_) (fun c54 => ?_)
        · have hd := dn_t c54 hd
          exact Jo67 S_31 _ _ _ hd (lv_sub hl [1] rfl) hP hS
        · have hd := dn_f c54 hd
          refine lv_iload hx hb dX6_note_57 (lv_at hl 7 rfl) ?_
          refine lv_bipush (v := (31 : Int32)) hx hb dX6_note_59 (by decide) ?_
          obtain ⟨r61, hq61, hd⟩ := dn_b1 hd
          have hPc := k_P0 hP
          have hDc : va_D A ([] : va_W) := k_D0
          have hF := k_self hDc hS hA
          refine k_run_i (va_runS (As := [.int p6, .int (31 : Int32)]) (rest := []) ⟨hx, hb, hml, hown, hts⟩ (mX6_upTo l D cs  p6 (31 : Int32) r61 hq61 _) (va_cwS 2 hts gX6_note_X6_upTo rfl rfl rfl (by decide +kernel) ⟨Nat.le_of_ble_eq_true rfl, Nat.le_of_ble_eq_true rfl⟩) ⟨k_blind, k_pre hPc hK hNn hDc⟩ rfl rfl hl.1 rfl (lv_room (Nat.le_of_ble_eq_true rfl)) dX6_note_61 ⟨Nat.le_of_ble_eq_true rfl, Nat.le_of_ble_eq_true rfl⟩) hS hF (fun H locs hP1 hk hS => ?_)
          have hP : va_P D vwCl (wX6 cs a S_31 L) _ := k_keep hP hk
          refine lv_if_ne (tgt := 72) hx hb dX6_note_64 (by decide) (fun c64 => ?_) (fun c64 => ?_)
          · have hd := dn_f c64 hd
            refine lv_aload_n hx hb dX6_note_72 rfl (lv_at hl 1 rfl) ?_
            refine va_get (D := D) (ci := 4) (v := .ref (a 1)) (C := RX6) (T := TX6) (N := 12) hx hb hts (fun w h => List.mem_cons_of_mem _ (List.mem_append_left _ (List.mem_append_left _ (List.mem_append_right _ h)))) hown hK hP 0 rfl rfl 0 (by decide) (hts (.fieldLink RX6 12 "LeastNeed" "now" "LLeastNeed$Valley;") (List.mem_of_getElem? (i := 1) rfl)) (fun _ h9 => h9) rfl dX6_note_73 ?_
            refine va_get (D := D) (ci := 3) (v := .ref (a 11)) (C := RX5) (T := TX5) (N := 15) hx hb hts (fun w h => List.mem_cons_of_mem _ (List.mem_append_left _ (List.mem_append_right _ h))) hown hK hP 1 rfl rfl 9 (by decide) (hts (.fieldLink RX6 198 "LeastNeed$Valley" "notes" "LLeastNeed$Rows;") (List.mem_of_getElem? (i := 2) rfl)) (fun _ h9 => h9) rfl dX6_note_76 ?_
            obtain ⟨r79, hq79, hd⟩ := dn_b1 hd
            have hPc : va_P D vwCl (wX3 cs 36 (6 : Int32) (6 : Int32) (k_wi a 11) (k_wi S_31 11)) _ := k_sub hP [11, 12] (wcX6_X3_11 cs a S_31 L)
            have hDc : va_D A (wX3 cs 36 (6 : Int32) (6 : Int32) (k_wi a 11) (k_wi S_31 11)) := hD.sub [11, 12] (by decide) (wcX6_X3_11 cs a S_31 L)
            have hF := k_self hDc hS hA
            refine k_run_i (va_runV (As := []) (rest := []) ⟨hx, hb, hml, hown, hts⟩ (mX3_isFull l D cs (k_wi a 11) 36 (6 : Int32) (6 : Int32) (k_wi S_31 11) r79 hq79 _) (cwV 0 hts gX6_note_X3_isFull rfl rfl rfl (by decide +kernel) ⟨Nat.le_of_ble_eq_true rfl, Nat.le_of_ble_eq_true rfl⟩) ⟨k_blind, va_recv hK hP (ci := 2) (q0 := 11) rfl rfl, k_pre hPc hK hNn hDc⟩ rfl rfl hl.1 rfl (lv_room (Nat.le_of_ble_eq_true rfl)) dX6_note_79 ⟨Nat.le_of_ble_eq_true rfl, Nat.le_of_ble_eq_true rfl⟩) hS hF (fun H locs hP1 hk hS => ?_)
            have hP : va_P D vwCl (wX6 cs a S_31 L) _ := k_back hP hD [11, 12] [0, 1, 2, 3, 4, 5, 6, 7, 8, 9, 10, 13, 14, 15, 16, 17, 18, 19, 20, 21, 22, 23, 24, 25, 26, 27, 28, 29, 30, 31, 32, 33, 34, 35, 36, 37, 38, 39, 40, 41, 42, 43, 44, 45, 46, 47, 48, 49, 50, 51, 52, 53, 54, 55, 56, 57, 58, 59, 60, 61, 62, 63, 64, 65, 66, 67, 68, 69, 70, 71, 72, 73, 74, 75, 76, 77, 78] [0, 1, 2, 3, 4, 5, 6, 7, 8, 9, 10, 77, 78, 11, 12, 13, 14, 15, 16, 17, 18, 19, 20, 21, 22, 23, 24, 25, 26, 27, 28, 29, 30, 31, 32, 33, 34, 35, 36, 37, 38, 39, 40, 41, 42, 43, 44, 45, 46, 47, 48, 49, 50, 51, 52, 53, 54, 55, 56, 57, 58, 59, 60, 61, 62, 63, 64, 65, 66, 67, 68, 69, 70, 71, 72, 73, 74, 75, 76] (wcX6_X3_11 cs a S_31 L) (by decide) hk hP1 (wbX6_X3_11 cs a S_31 L)
            have hD := hDA S_31 L
            refine lv_if_eq (tgt := 90) hx hb dX6_note_82 (by decide) (fun c82 => ?_) (fun c82 => ?_)
            · have hd := dn_t c82 hd
              refine lv_aload_n hx hb dX6_note_90 rfl (lv_at hl 1 rfl) ?_
              refine va_get (D := D) (ci := 4) (v := .ref (a 1)) (C := RX6) (T := TX6) (N := 12) hx hb hts (fun w h => List.mem_cons_of_mem _ (List.mem_append_left _ (List.mem_append_left _ (List.mem_append_right _ h)))) hown hK hP 0 rfl rfl 0 (by decide) (hts (.fieldLink RX6 12 "LeastNeed" "now" "LLeastNeed$Valley;") (List.mem_of_getElem? (i := 1) rfl)) (fun _ h9 => h9) rfl dX6_note_91 ?_
              refine va_get (D := D) (ci := 3) (v := .ref (a 11)) (C := RX5) (T := TX5) (N := 15) hx hb hts (fun w h => List.mem_cons_of_mem _ (List.mem_append_left _ (List.mem_append_right _ h))) hown hK hP 1 rfl rfl 9 (by decide) (hts (.fieldLink RX6 198 "LeastNeed$Valley" "notes" "LLeastNeed$Rows;") (List.mem_of_getElem? (i := 2) rfl)) (fun _ h9 => h9) rfl dX6_note_94 ?_
              obtain ⟨S97, hq97, hd⟩ := dn_b1 hd
              have hPc : va_P D vwCl (wX3 cs 36 (6 : Int32) (6 : Int32) (k_wi a 11) (k_wi S_31 11)) _ := k_sub hP [11, 12] (wcX6_X3_11 cs a S_31 L)
              have hDc : va_D A (wX3 cs 36 (6 : Int32) (6 : Int32) (k_wi a 11) (k_wi S_31 11)) := hD.sub [11, 12] (by decide) (wcX6_X3_11 cs a S_31 L)
              have hF := k_self hDc hS hA
              refine k_run_v (va_runV (As := []) (rest := []) ⟨hx, hb, hml, hown, hts⟩ (mX3_begin l D cs (k_wi a 11) 36 (6 : Int32) (6 : Int32) (k_wi S_31 11) S97 hq97 _) (cwV 0 hts gX6_note_X3_begin rfl rfl rfl (by decide +kernel) ⟨Nat.le_of_ble_eq_true rfl, Nat.le_of_ble_eq_true rfl⟩) ⟨k_blind, va_recv hK hP (ci := 2) (q0 := 11) rfl rfl, k_pre hPc hK hNn hDc⟩ rfl rfl hl.1 rfl (lv_room (Nat.le_of_ble_eq_true rfl)) dX6_note_97 ⟨Nat.le_of_ble_eq_true rfl, Nat.le_of_ble_eq_true rfl⟩) hS hF (fun H locs hP1 hk hS => ?_)
              have hP : va_P D vwCl (wX6 cs a (k_sp S_31 11 2 S97) L) _ := k_back hP hD [11, 12] [0, 1, 2, 3, 4, 5, 6, 7, 8, 9, 10, 13, 14, 15, 16, 17, 18, 19, 20, 21, 22, 23, 24, 25, 26, 27, 28, 29, 30, 31, 32, 33, 34, 35, 36, 37, 38, 39, 40, 41, 42, 43, 44, 45, 46, 47, 48, 49, 50, 51, 52, 53, 54, 55, 56, 57, 58, 59, 60, 61, 62, 63, 64, 65, 66, 67, 68, 69, 70, 71, 72, 73, 74, 75, 76, 77, 78] [0, 1, 2, 3, 4, 5, 6, 7, 8, 9, 10, 77, 78, 11, 12, 13, 14, 15, 16, 17, 18, 19, 20, 21, 22, 23, 24, 25, 26, 27, 28, 29, 30, 31, 32, 33, 34, 35, 36, 37, 38, 39, 40, 41, 42, 43, 44, 45, 46, 47, 48, 49, 50, 51, 52, 53, 54, 55, 56, 57, 58, 59, 60, 61, 62, 63, 64, 65, 66, 67, 68, 69, 70, 71, 72, 73, 74, 75, 76] (wcX6_X3_11 cs a S_31 L) (by decide) hk hP1 (wbX6_X3_11_S0 cs a S_31 L S97)
              have hD := hDA (k_sp S_31 11 2 S97) L
              refine lv_aload_n hx hb dX6_note_100 rfl (lv_at hl 1 rfl) ?_
              refine va_get (D := D) (ci := 4) (v := .ref (a 1)) (C := RX6) (T := TX6) (N := 12) hx hb hts (fun w h => List.mem_cons_of_mem _ (List.mem_append_left _ (List.mem_append_left _ (List.mem_append_right _ h)))) hown hK hP 0 rfl rfl 0 (by decide) (hts (.fieldLink RX6 12 "LeastNeed" "now" "LLeastNeed$Valley;") (List.mem_of_getElem? (i := 1) rfl)) (fun _ h9 => h9) rfl dX6_note_101 ?_
              refine va_get (D := D) (ci := 3) (v := .ref (a 11)) (C := RX5) (T := TX5) (N := 15) hx hb hts (fun w h => List.mem_cons_of_mem _ (List.mem_append_left _ (List.mem_append_right _ h))) hown hK hP 1 rfl rfl 9 (by decide) (hts (.fieldLink RX6 198 "LeastNeed$Valley" "notes" "LLeastNeed$Rows;") (List.mem_of_getElem? (i := 2) rfl)) (fun _ h9 => h9) rfl dX6_note_104 ?_
              refine lv_iconst (v := (0 : Int32)) hx hb dX6_note_107 (by decide) ?_
              refine lv_iload_n hx hb dX6_note_108 rfl (lv_at hl 2 rfl) ?_
              obtain ⟨S109, hq109, hd⟩ := dn_b1 hd
              have hPc : va_P D vwCl (wX3 cs 36 (6 : Int32) (6 : Int32) (k_wi a 11) (k_wi (k_sp S_31 11 2 S97) 11)) _ := k_sub hP [11, 12] (wcX6_X3_11 cs a (k_sp S_31 11 2 S97) L)
              have hDc : va_D A (wX3 cs 36 (6 : Int32) (6 : Int32) (k_wi a 11) (k_wi (k_sp S_31 11 2 S97) 11)) := hD.sub [11, 12] (by decide) (wcX6_X3_11 cs a (k_sp S_31 11 2 S97) L)
              have hF := k_self hDc hS hA
              refine k_run_v (va_runV (As := [.int (0 : Int32), .int p1]) (rest := []) ⟨hx, hb, hml, hown, hts⟩ (mX3_put l D cs (k_wi a 11) 36 (6 : Int32) (6 : Int32) (k_wi (k_sp S_31 11 2 S97) 11) (0 : Int32) p1 S109 hq109 _) (cwV 2 hts gX6_note_X3_put rfl rfl rfl (by decide +kernel) ⟨Nat.le_of_ble_eq_true rfl, Nat.le_of_ble_eq_true rfl⟩) ⟨k_blind, va_recv hK hP (ci := 2) (q0 := 11) rfl rfl, k_pre hPc hK hNn hDc⟩ rfl rfl hl.1 rfl (lv_room (Nat.le_of_ble_eq_true rfl)) dX6_note_109 ⟨Nat.le_of_ble_eq_true rfl, Nat.le_of_ble_eq_true rfl⟩) hS hF (fun H locs hP1 hk hS => ?_)
              have hP : va_P D vwCl (wX6 cs a (k_sp (k_sp S_31 11 2 S97) 11 2 S109) L) _ := k_back hP hD [11, 12] [0, 1, 2, 3, 4, 5, 6, 7, 8, 9, 10, 13, 14, 15, 16, 17, 18, 19, 20, 21, 22, 23, 24, 25, 26, 27, 28, 29, 30, 31, 32, 33, 34, 35, 36, 37, 38, 39, 40, 41, 42, 43, 44, 45, 46, 47, 48, 49, 50, 51, 52, 53, 54, 55, 56, 57, 58, 59, 60, 61, 62, 63, 64, 65, 66, 67, 68, 69, 70, 71, 72, 73, 74, 75, 76, 77, 78] [0, 1, 2, 3, 4, 5, 6, 7, 8, 9, 10, 77, 78, 11, 12, 13, 14, 15, 16, 17, 18, 19, 20, 21, 22, 23, 24, 25, 26, 27, 28, 29, 30, 31, 32, 33, 34, 35, 36, 37, 38, 39, 40, 41, 42, 43, 44, 45, 46, 47, 48, 49, 50, 51, 52, 53, 54, 55, 56, 57, 58, 59, 60, 61, 62, 63, 64, 65, 66, 67, 68, 69, 70, 71, 72, 73, 74, 75, 76] (wcX6_X3_11 cs a (k_sp S_31 11 2 S97) L) (by decide) hk hP1 (wbX6_X3_11_S0 cs a (k_sp S_31 11 2 S97) L S109)
              have hD := hDA (k_sp (k_sp S_31 11 2 S97) 11 2 S109) L
              refine lv_aload_n hx hb dX6_note_112 rfl (lv_at hl 1 rfl) ?_
              refine va_get (D := D) (ci := 4) (v := .ref (a 1)) (C := RX6) (T := TX6) (N := 12) hx hb hts (fun w h => List.mem_cons_of_mem _ (List.mem_append_left _ (List.mem_append_left _ (List.mem_append_right _ h)))) hown hK hP 0 rfl rfl 0 (by decide) (hts (.fieldLink RX6 12 "LeastNeed" "now" "LLeastNeed$Valley;") (List.mem_of_getElem? (i := 1) rfl)) (fun _ h9 => h9) rfl dX6_note_113 ?_
              refine va_get (D := D) (ci := 3) (v := .ref (a 11)) (C := RX5) (T := TX5) (N := 15) hx hb hts (fun w h => List.mem_cons_of_mem _ (List.mem_append_left _ (List.mem_append_right _ h))) hown hK hP 1 rfl rfl 9 (by decide) (hts (.fieldLink RX6 198 "LeastNeed$Valley" "notes" "LLeastNeed$Rows;") (List.mem_of_getElem? (i := 2) rfl)) (fun _ h9 => h9) rfl dX6_note_116 ?_
              refine lv_iconst (v := (1 : Int32)) hx hb dX6_note_119 (by decide) ?_
              refine lv_iload_n hx hb dX6_note_120 rfl (lv_at hl 3 rfl) ?_
              obtain ⟨S121, hq121, hd⟩ := dn_b1 hd
              have hPc : va_P D vwCl (wX3 cs 36 (6 : Int32) (6 : Int32) (k_wi a 11) (k_wi (k_sp (k_sp S_31 11 2 S97) 11 2 S109) 11)) _ := k_sub hP [11, 12] (wcX6_X3_11 cs a (k_sp (k_sp S_31 11 2 S97) 11 2 S109) L)
              have hDc : va_D A (wX3 cs 36 (6 : Int32) (6 : Int32) (k_wi a 11) (k_wi (k_sp (k_sp S_31 11 2 S97) 11 2 S109) 11)) := hD.sub [11, 12] (by decide) (wcX6_X3_11 cs a (k_sp (k_sp S_31 11 2 S97) 11 2 S109) L)
              have hF := k_self hDc hS hA
              refine k_run_v (va_runV (As := [.int (1 : Int32), .int p2]) (rest := []) ⟨hx, hb, hml, hown, hts⟩ (mX3_put l D cs (k_wi a 11) 36 (6 : Int32) (6 : Int32) (k_wi (k_sp (k_sp S_31 11 2 S97) 11 2 S109) 11) (1 : Int32) p2 S121 hq121 _) (cwV 2 hts gX6_note_X3_put rfl rfl rfl (by decide +kernel) ⟨Nat.le_of_ble_eq_true rfl, Nat.le_of_ble_eq_true rfl⟩) ⟨k_blind, va_recv hK hP (ci := 2) (q0 := 11) rfl rfl, k_pre hPc hK hNn hDc⟩ rfl rfl hl.1 rfl (lv_room (Nat.le_of_ble_eq_true rfl)) dX6_note_121 ⟨Nat.le_of_ble_eq_true rfl, Nat.le_of_ble_eq_true rfl⟩) hS hF (fun H locs hP1 hk hS => ?_)
              have hP : va_P D vwCl (wX6 cs a (k_sp (k_sp (k_sp S_31 11 2 S97) 11 2 S109) 11 2 S121) L) _ := k_back hP hD [11, 12] [0, 1, 2, 3, 4, 5, 6, 7, 8, 9, 10, 13, 14, 15, 16, 17, 18, 19, 20, 21, 22, 23, 24, 25, 26, 27, 28, 29, 30, 31, 32, 33, 34, 35, 36, 37, 38, 39, 40, 41, 42, 43, 44, 45, 46, 47, 48, 49, 50, 51, 52, 53, 54, 55, 56, 57, 58, 59, 60, 61, 62, 63, 64, 65, 66, 67, 68, 69, 70, 71, 72, 73, 74, 75, 76, 77, 78] [0, 1, 2, 3, 4, 5, 6, 7, 8, 9, 10, 77, 78, 11, 12, 13, 14, 15, 16, 17, 18, 19, 20, 21, 22, 23, 24, 25, 26, 27, 28, 29, 30, 31, 32, 33, 34, 35, 36, 37, 38, 39, 40, 41, 42, 43, 44, 45, 46, 47, 48, 49, 50, 51, 52, 53, 54, 55, 56, 57, 58, 59, 60, 61, 62, 63, 64, 65, 66, 67, 68, 69, 70, 71, 72, 73, 74, 75, 76] (wcX6_X3_11 cs a (k_sp (k_sp S_31 11 2 S97) 11 2 S109) L) (by decide) hk hP1 (wbX6_X3_11_S0 cs a (k_sp (k_sp S_31 11 2 S97) 11 2 S109) L S121)
              have hD := hDA (k_sp (k_sp (k_sp S_31 11 2 S97) 11 2 S109) 11 2 S121) L
              refine lv_aload_n hx hb dX6_note_124 rfl (lv_at hl 1 rfl) ?_
              refine va_get (D := D) (ci := 4) (v := .ref (a 1)) (C := RX6) (T := TX6) (N := 12) hx hb hts (fun w h => List.mem_cons_of_mem _ (List.mem_append_left _ (List.mem_append_left _ (List.mem_append_right _ h)))) hown hK hP 0 rfl rfl 0 (by decide) (hts (.fieldLink RX6 12 "LeastNeed" "now" "LLeastNeed$Valley;") (List.mem_of_getElem? (i := 1) rfl)) (fun _ h9 => h9) rfl dX6_note_125 ?_
              refine va_get (D := D) (ci := 3) (v := .ref (a 11)) (C := RX5) (T := TX5) (N := 15) hx hb hts (fun w h => List.mem_cons_of_mem _ (List.mem_append_left _ (List.mem_append_right _ h))) hown hK hP 1 rfl rfl 9 (by decide) (hts (.fieldLink RX6 198 "LeastNeed$Valley" "notes" "LLeastNeed$Rows;") (List.mem_of_getElem? (i := 2) rfl)) (fun _ h9 => h9) rfl dX6_note_128 ?_
              refine lv_iconst (v := (2 : Int32)) hx hb dX6_note_131 (by decide) ?_
              refine lv_iload_n hx hb dX6_note_132 rfl (lv_at hl 4 rfl) ?_
              obtain ⟨S133, hq133, hd⟩ := dn_b1 hd
              have hPc : va_P D vwCl (wX3 cs 36 (6 : Int32) (6 : Int32) (k_wi a 11) (k_wi (k_sp (k_sp (k_sp S_31 11 2 S97) 11 2 S109) 11 2 S121) 11)) _ := k_sub hP [11, 12] (wcX6_X3_11 cs a (k_sp (k_sp (k_sp S_31 11 2 S97) 11 2 S109) 11 2 S121) L)
              have hDc : va_D A (wX3 cs 36 (6 : Int32) (6 : Int32) (k_wi a 11) (k_wi (k_sp (k_sp (k_sp S_31 11 2 S97) 11 2 S109) 11 2 S121) 11)) := hD.sub [11, 12] (by decide) (wcX6_X3_11 cs a (k_sp (k_sp (k_sp S_31 11 2 S97) 11 2 S109) 11 2 S121) L)
              have hF := k_self hDc hS hA
              refine k_run_v (va_runV (As := [.int (2 : Int32), .int p3]) (rest := []) ⟨hx, hb, hml, hown, hts⟩ (mX3_put l D cs (k_wi a 11) 36 (6 : Int32) (6 : Int32) (k_wi (k_sp (k_sp (k_sp S_31 11 2 S97) 11 2 S109) 11 2 S121) 11) (2 : Int32) p3 S133 hq133 _) (cwV 2 hts gX6_note_X3_put rfl rfl rfl (by decide +kernel) ⟨Nat.le_of_ble_eq_true rfl, Nat.le_of_ble_eq_true rfl⟩) ⟨k_blind, va_recv hK hP (ci := 2) (q0 := 11) rfl rfl, k_pre hPc hK hNn hDc⟩ rfl rfl hl.1 rfl (lv_room (Nat.le_of_ble_eq_true rfl)) dX6_note_133 ⟨Nat.le_of_ble_eq_true rfl, Nat.le_of_ble_eq_true rfl⟩) hS hF (fun H locs hP1 hk hS => ?_)
              have hP : va_P D vwCl (wX6 cs a (k_sp (k_sp (k_sp (k_sp S_31 11 2 S97) 11 2 S109) 11 2 S121) 11 2 S133) L) _ := k_back hP hD [11, 12] [0, 1, 2, 3, 4, 5, 6, 7, 8, 9, 10, 13, 14, 15, 16, 17, 18, 19, 20, 21, 22, 23, 24, 25, 26, 27, 28, 29, 30, 31, 32, 33, 34, 35, 36, 37, 38, 39, 40, 41, 42, 43, 44, 45, 46, 47, 48, 49, 50, 51, 52, 53, 54, 55, 56, 57, 58, 59, 60, 61, 62, 63, 64, 65, 66, 67, 68, 69, 70, 71, 72, 73, 74, 75, 76, 77, 78] [0, 1, 2, 3, 4, 5, 6, 7, 8, 9, 10, 77, 78, 11, 12, 13, 14, 15, 16, 17, 18, 19, 20, 21, 22, 23, 24, 25, 26, 27, 28, 29, 30, 31, 32, 33, 34, 35, 36, 37, 38, 39, 40, 41, 42, 43, 44, 45, 46, 47, 48, 49, 50, 51, 52, 53, 54, 55, 56, 57, 58, 59, 60, 61, 62, 63, 64, 65, 66, 67, 68, 69, 70, 71, 72, 73, 74, 75, 76] (wcX6_X3_11 cs a (k_sp (k_sp (k_sp S_31 11 2 S97) 11 2 S109) 11 2 S121) L) (by decide) hk hP1 (wbX6_X3_11_S0 cs a (k_sp (k_sp (k_sp S_31 11 2 S97) 11 2 S109) 11 2 S121) L S133)
              have hD := hDA (k_sp (k_sp (k_sp (k_sp S_31 11 2 S97) 11 2 S109) 11 2 S121) 11 2 S133) L
              refine lv_aload_n hx hb dX6_note_136 rfl (lv_at hl 1 rfl) ?_
              refine va_get (D := D) (ci := 4) (v := .ref (a 1)) (C := RX6) (T := TX6) (N := 12) hx hb hts (fun w h => List.mem_cons_of_mem _ (List.mem_append_left _ (List.mem_append_left _ (List.mem_append_right _ h)))) hown hK hP 0 rfl rfl 0 (by decide) (hts (.fieldLink RX6 12 "LeastNeed" "now" "LLeastNeed$Valley;") (List.mem_of_getElem? (i := 1) rfl)) (fun _ h9 => h9) rfl dX6_note_137 ?_
              refine va_get (D := D) (ci := 3) (v := .ref (a 11)) (C := RX5) (T := TX5) (N := 15) hx hb hts (fun w h => List.mem_cons_of_mem _ (List.mem_append_left _ (List.mem_append_right _ h))) hown hK hP 1 rfl rfl 9 (by decide) (hts (.fieldLink RX6 198 "LeastNeed$Valley" "notes" "LLeastNeed$Rows;") (List.mem_of_getElem? (i := 2) rfl)) (fun _ h9 => h9) rfl dX6_note_140 ?_
              refine lv_iconst (v := (3 : Int32)) hx hb dX6_note_143 (by decide) ?_
              refine lv_iload hx hb dX6_note_144 (lv_at hl 5 rfl) ?_
              obtain ⟨S146, hq146, hd⟩ := dn_b1 hd
              have hPc : va_P D vwCl (wX3 cs 36 (6 : Int32) (6 : Int32) (k_wi a 11) (k_wi (k_sp (k_sp (k_sp (k_sp S_31 11 2 S97) 11 2 S109) 11 2 S121) 11 2 S133) 11)) _ := k_sub hP [11, 12] (wcX6_X3_11 cs a (k_sp (k_sp (k_sp (k_sp S_31 11 2 S97) 11 2 S109) 11 2 S121) 11 2 S133) L)
              have hDc : va_D A (wX3 cs 36 (6 : Int32) (6 : Int32) (k_wi a 11) (k_wi (k_sp (k_sp (k_sp (k_sp S_31 11 2 S97) 11 2 S109) 11 2 S121) 11 2 S133) 11)) := hD.sub [11, 12] (by decide) (wcX6_X3_11 cs a (k_sp (k_sp (k_sp (k_sp S_31 11 2 S97) 11 2 S109) 11 2 S121) 11 2 S133) L)
              have hF := k_self hDc hS hA
              refine k_run_v (va_runV (As := [.int (3 : Int32), .int p4]) (rest := []) ⟨hx, hb, hml, hown, hts⟩ (mX3_put l D cs (k_wi a 11) 36 (6 : Int32) (6 : Int32) (k_wi (k_sp (k_sp (k_sp (k_sp S_31 11 2 S97) 11 2 S109) 11 2 S121) 11 2 S133) 11) (3 : Int32) p4 S146 hq146 _) (cwV 2 hts gX6_note_X3_put rfl rfl rfl (by decide +kernel) ⟨Nat.le_of_ble_eq_true rfl, Nat.le_of_ble_eq_true rfl⟩) ⟨k_blind, va_recv hK hP (ci := 2) (q0 := 11) rfl rfl, k_pre hPc hK hNn hDc⟩ rfl rfl hl.1 rfl (lv_room (Nat.le_of_ble_eq_true rfl)) dX6_note_146 ⟨Nat.le_of_ble_eq_true rfl, Nat.le_of_ble_eq_true rfl⟩) hS hF (fun H locs hP1 hk hS => ?_)
              have hP : va_P D vwCl (wX6 cs a (k_sp (k_sp (k_sp (k_sp (k_sp S_31 11 2 S97) 11 2 S109) 11 2 S121) 11 2 S133) 11 2 S146) L) _ := k_back hP hD [11, 12] [0, 1, 2, 3, 4, 5, 6, 7, 8, 9, 10, 13, 14, 15, 16, 17, 18, 19, 20, 21, 22, 23, 24, 25, 26, 27, 28, 29, 30, 31, 32, 33, 34, 35, 36, 37, 38, 39, 40, 41, 42, 43, 44, 45, 46, 47, 48, 49, 50, 51, 52, 53, 54, 55, 56, 57, 58, 59, 60, 61, 62, 63, 64, 65, 66, 67, 68, 69, 70, 71, 72, 73, 74, 75, 76, 77, 78] [0, 1, 2, 3, 4, 5, 6, 7, 8, 9, 10, 77, 78, 11, 12, 13, 14, 15, 16, 17, 18, 19, 20, 21, 22, 23, 24, 25, 26, 27, 28, 29, 30, 31, 32, 33, 34, 35, 36, 37, 38, 39, 40, 41, 42, 43, 44, 45, 46, 47, 48, 49, 50, 51, 52, 53, 54, 55, 56, 57, 58, 59, 60, 61, 62, 63, 64, 65, 66, 67, 68, 69, 70, 71, 72, 73, 74, 75, 76] (wcX6_X3_11 cs a (k_sp (k_sp (k_sp (k_sp S_31 11 2 S97) 11 2 S109) 11 2 S121) 11 2 S133) L) (by decide) hk hP1 (wbX6_X3_11_S0 cs a (k_sp (k_sp (k_sp (k_sp S_31 11 2 S97) 11 2 S109) 11 2 S121) 11 2 S133) L S146)
              have hD := hDA (k_sp (k_sp (k_sp (k_sp (k_sp S_31 11 2 S97) 11 2 S109) 11 2 S121) 11 2 S133) 11 2 S146) L
              refine lv_aload_n hx hb dX6_note_149 rfl (lv_at hl 1 rfl) ?_
              refine va_get (D := D) (ci := 4) (v := .ref (a 1)) (C := RX6) (T := TX6) (N := 12) hx hb hts (fun w h => List.mem_cons_of_mem _ (List.mem_append_left _ (List.mem_append_left _ (List.mem_append_right _ h)))) hown hK hP 0 rfl rfl 0 (by decide) (hts (.fieldLink RX6 12 "LeastNeed" "now" "LLeastNeed$Valley;") (List.mem_of_getElem? (i := 1) rfl)) (fun _ h9 => h9) rfl dX6_note_150 ?_
              refine va_get (D := D) (ci := 3) (v := .ref (a 11)) (C := RX5) (T := TX5) (N := 15) hx hb hts (fun w h => List.mem_cons_of_mem _ (List.mem_append_left _ (List.mem_append_right _ h))) hown hK hP 1 rfl rfl 9 (by decide) (hts (.fieldLink RX6 198 "LeastNeed$Valley" "notes" "LLeastNeed$Rows;") (List.mem_of_getElem? (i := 2) rfl)) (fun _ h9 => h9) rfl dX6_note_153 ?_
              refine lv_iconst (v := (4 : Int32)) hx hb dX6_note_156 (by decide) ?_
              refine lv_iload hx hb dX6_note_157 (lv_at hl 6 rfl) ?_
              obtain ⟨S159, hq159, hd⟩ := dn_b1 hd
              have hPc : va_P D vwCl (wX3 cs 36 (6 : Int32) (6 : Int32) (k_wi a 11) (k_wi (k_sp (k_sp (k_sp (k_sp (k_sp S_31 11 2 S97) 11 2 S109) 11 2 S121) 11 2 S133) 11 2 S146) 11)) _ := k_sub hP [11, 12] (wcX6_X3_11 cs a (k_sp (k_sp (k_sp (k_sp (k_sp S_31 11 2 S97) 11 2 S109) 11 2 S121) 11 2 S133) 11 2 S146) L)
              have hDc : va_D A (wX3 cs 36 (6 : Int32) (6 : Int32) (k_wi a 11) (k_wi (k_sp (k_sp (k_sp (k_sp (k_sp S_31 11 2 S97) 11 2 S109) 11 2 S121) 11 2 S133) 11 2 S146) 11)) := hD.sub [11, 12] (by decide) (wcX6_X3_11 cs a (k_sp (k_sp (k_sp (k_sp (k_sp S_31 11 2 S97) 11 2 S109) 11 2 S121) 11 2 S133) 11 2 S146) L)
              have hF := k_self hDc hS hA
              refine k_run_v (va_runV (As := [.int (4 : Int32), .int p5]) (rest := []) ⟨hx, hb, hml, hown, hts⟩ (mX3_put l D cs (k_wi a 11) 36 (6 : Int32) (6 : Int32) (k_wi (k_sp (k_sp (k_sp (k_sp (k_sp S_31 11 2 S97) 11 2 S109) 11 2 S121) 11 2 S133) 11 2 S146) 11) (4 : Int32) p5 S159 hq159 _) (cwV 2 hts gX6_note_X3_put rfl rfl rfl (by decide +kernel) ⟨Nat.le_of_ble_eq_true rfl, Nat.le_of_ble_eq_true rfl⟩) ⟨k_blind, va_recv hK hP (ci := 2) (q0 := 11) rfl rfl, k_pre hPc hK hNn hDc⟩ rfl rfl hl.1 rfl (lv_room (Nat.le_of_ble_eq_true rfl)) dX6_note_159 ⟨Nat.le_of_ble_eq_true rfl, Nat.le_of_ble_eq_true rfl⟩) hS hF (fun H locs hP1 hk hS => ?_)
              have hP : va_P D vwCl (wX6 cs a (k_sp (k_sp (k_sp (k_sp (k_sp (k_sp S_31 11 2 S97) 11 2 S109) 11 2 S121) 11 2 S133) 11 2 S146) 11 2 S159) L) _ := k_back hP hD [11, 12] [0, 1, 2, 3, 4, 5, 6, 7, 8, 9, 10, 13, 14, 15, 16, 17, 18, 19, 20, 21, 22, 23, 24, 25, 26, 27, 28, 29, 30, 31, 32, 33, 34, 35, 36, 37, 38, 39, 40, 41, 42, 43, 44, 45, 46, 47, 48, 49, 50, 51, 52, 53, 54, 55, 56, 57, 58, 59, 60, 61, 62, 63, 64, 65, 66, 67, 68, 69, 70, 71, 72, 73, 74, 75, 76, 77, 78] [0, 1, 2, 3, 4, 5, 6, 7, 8, 9, 10, 77, 78, 11, 12, 13, 14, 15, 16, 17, 18, 19, 20, 21, 22, 23, 24, 25, 26, 27, 28, 29, 30, 31, 32, 33, 34, 35, 36, 37, 38, 39, 40, 41, 42, 43, 44, 45, 46, 47, 48, 49, 50, 51, 52, 53, 54, 55, 56, 57, 58, 59, 60, 61, 62, 63, 64, 65, 66, 67, 68, 69, 70, 71, 72, 73, 74, 75, 76] (wcX6_X3_11 cs a (k_sp (k_sp (k_sp (k_sp (k_sp S_31 11 2 S97) 11 2 S109) 11 2 S121) 11 2 S133) 11 2 S146) L) (by decide) hk hP1 (wbX6_X3_11_S0 cs a (k_sp (k_sp (k_sp (k_sp (k_sp S_31 11 2 S97) 11 2 S109) 11 2 S121) 11 2 S133) 11 2 S146) L S159)
              have hD := hDA (k_sp (k_sp (k_sp (k_sp (k_sp (k_sp S_31 11 2 S97) 11 2 S109) 11 2 S121) 11 2 S133) 11 2 S146) 11 2 S159) L
              refine lv_aload_n hx hb dX6_note_162 rfl (lv_at hl 1 rfl) ?_
              refine va_get (D := D) (ci := 4) (v := .ref (a 1)) (C := RX6) (T := TX6) (N := 12) hx hb hts (fun w h => List.mem_cons_of_mem _ (List.mem_append_left _ (List.mem_append_left _ (List.mem_append_right _ h)))) hown hK hP 0 rfl rfl 0 (by decide) (hts (.fieldLink RX6 12 "LeastNeed" "now" "LLeastNeed$Valley;") (List.mem_of_getElem? (i := 1) rfl)) (fun _ h9 => h9) rfl dX6_note_163 ?_
              refine va_get (D := D) (ci := 3) (v := .ref (a 11)) (C := RX5) (T := TX5) (N := 15) hx hb hts (fun w h => List.mem_cons_of_mem _ (List.mem_append_left _ (List.mem_append_right _ h))) hown hK hP 1 rfl rfl 9 (by decide) (hts (.fieldLink RX6 198 "LeastNeed$Valley" "notes" "LLeastNeed$Rows;") (List.mem_of_getElem? (i := 2) rfl)) (fun _ h9 => h9) rfl dX6_note_166 ?_
              refine lv_iconst (v := (5 : Int32)) hx hb dX6_note_169 (by decide) ?_
              refine lv_iload hx hb dX6_note_170 (lv_at hl 7 rfl) ?_
              obtain ⟨S172, hq172, hd⟩ := dn_b1 hd
              have hPc : va_P D vwCl (wX3 cs 36 (6 : Int32) (6 : Int32) (k_wi a 11) (k_wi (k_sp (k_sp (k_sp (k_sp (k_sp (k_sp S_31 11 2 S97) 11 2 S109) 11 2 S121) 11 2 S133) 11 2 S146) 11 2 S159) 11)) _ := k_sub hP [11, 12] (wcX6_X3_11 cs a (k_sp (k_sp (k_sp (k_sp (k_sp (k_sp S_31 11 2 S97) 11 2 S109) 11 2 S121) 11 2 S133) 11 2 S146) 11 2 S159) L)
              have hDc : va_D A (wX3 cs 36 (6 : Int32) (6 : Int32) (k_wi a 11) (k_wi (k_sp (k_sp (k_sp (k_sp (k_sp (k_sp S_31 11 2 S97) 11 2 S109) 11 2 S121) 11 2 S133) 11 2 S146) 11 2 S159) 11)) := hD.sub [11, 12] (by decide) (wcX6_X3_11 cs a (k_sp (k_sp (k_sp (k_sp (k_sp (k_sp S_31 11 2 S97) 11 2 S109) 11 2 S121) 11 2 S133) 11 2 S146) 11 2 S159) L)
              have hF := k_self hDc hS hA
              refine k_run_v (va_runV (As := [.int (5 : Int32), .int p6]) (rest := []) ⟨hx, hb, hml, hown, hts⟩ (mX3_put l D cs (k_wi a 11) 36 (6 : Int32) (6 : Int32) (k_wi (k_sp (k_sp (k_sp (k_sp (k_sp (k_sp S_31 11 2 S97) 11 2 S109) 11 2 S121) 11 2 S133) 11 2 S146) 11 2 S159) 11) (5 : Int32) p6 S172 hq172 _) (cwV 2 hts gX6_note_X3_put rfl rfl rfl (by decide +kernel) ⟨Nat.le_of_ble_eq_true rfl, Nat.le_of_ble_eq_true rfl⟩) ⟨k_blind, va_recv hK hP (ci := 2) (q0 := 11) rfl rfl, k_pre hPc hK hNn hDc⟩ rfl rfl hl.1 rfl (lv_room (Nat.le_of_ble_eq_true rfl)) dX6_note_172 ⟨Nat.le_of_ble_eq_true rfl, Nat.le_of_ble_eq_true rfl⟩) hS hF (fun H locs hP1 hk hS => ?_)
              have hP : va_P D vwCl (wX6 cs a (k_sp (k_sp (k_sp (k_sp (k_sp (k_sp (k_sp S_31 11 2 S97) 11 2 S109) 11 2 S121) 11 2 S133) 11 2 S146) 11 2 S159) 11 2 S172) L) _ := k_back hP hD [11, 12] [0, 1, 2, 3, 4, 5, 6, 7, 8, 9, 10, 13, 14, 15, 16, 17, 18, 19, 20, 21, 22, 23, 24, 25, 26, 27, 28, 29, 30, 31, 32, 33, 34, 35, 36, 37, 38, 39, 40, 41, 42, 43, 44, 45, 46, 47, 48, 49, 50, 51, 52, 53, 54, 55, 56, 57, 58, 59, 60, 61, 62, 63, 64, 65, 66, 67, 68, 69, 70, 71, 72, 73, 74, 75, 76, 77, 78] [0, 1, 2, 3, 4, 5, 6, 7, 8, 9, 10, 77, 78, 11, 12, 13, 14, 15, 16, 17, 18, 19, 20, 21, 22, 23, 24, 25, 26, 27, 28, 29, 30, 31, 32, 33, 34, 35, 36, 37, 38, 39, 40, 41, 42, 43, 44, 45, 46, 47, 48, 49, 50, 51, 52, 53, 54, 55, 56, 57, 58, 59, 60, 61, 62, 63, 64, 65, 66, 67, 68, 69, 70, 71, 72, 73, 74, 75, 76] (wcX6_X3_11 cs a (k_sp (k_sp (k_sp (k_sp (k_sp (k_sp S_31 11 2 S97) 11 2 S109) 11 2 S121) 11 2 S133) 11 2 S146) 11 2 S159) L) (by decide) hk hP1 (wbX6_X3_11_S0 cs a (k_sp (k_sp (k_sp (k_sp (k_sp (k_sp S_31 11 2 S97) 11 2 S109) 11 2 S121) 11 2 S133) 11 2 S146) 11 2 S159) L S172)
              have hD := hDA (k_sp (k_sp (k_sp (k_sp (k_sp (k_sp (k_sp S_31 11 2 S97) 11 2 S109) 11 2 S121) 11 2 S133) 11 2 S146) 11 2 S159) 11 2 S172) L
              refine lv_aload_n hx hb dX6_note_175 rfl (lv_at hl 1 rfl) ?_
              refine va_get (D := D) (ci := 4) (v := .ref (a 1)) (C := RX6) (T := TX6) (N := 12) hx hb hts (fun w h => List.mem_cons_of_mem _ (List.mem_append_left _ (List.mem_append_left _ (List.mem_append_right _ h)))) hown hK hP 0 rfl rfl 0 (by decide) (hts (.fieldLink RX6 12 "LeastNeed" "now" "LLeastNeed$Valley;") (List.mem_of_getElem? (i := 1) rfl)) (fun _ h9 => h9) rfl dX6_note_176 ?_
              refine va_get (D := D) (ci := 3) (v := .ref (a 11)) (C := RX5) (T := TX5) (N := 15) hx hb hts (fun w h => List.mem_cons_of_mem _ (List.mem_append_left _ (List.mem_append_right _ h))) hown hK hP 1 rfl rfl 9 (by decide) (hts (.fieldLink RX6 198 "LeastNeed$Valley" "notes" "LLeastNeed$Rows;") (List.mem_of_getElem? (i := 2) rfl)) (fun _ h9 => h9) rfl dX6_note_179 ?_
              refine va_get (D := D) (ci := 2) (v := .int ((k_sp (k_sp (k_sp (k_sp (k_sp (k_sp (k_sp S_31 11 2 S97) 11 2 S109) 11 2 S121) 11 2 S133) 11 2 S146) 11 2 S159) 11 2 S172) 11 3)) (C := RX3) (T := TX3) (N := 4) hx hb hts (fun w h => List.mem_cons_of_mem _ (List.mem_append_right _ h)) hown hK hP 11 rfl rfl 3 (by decide) (hts (.fieldLink RX6 150 "LeastNeed$Rows" "used" "I") (List.mem_of_getElem? (i := 3) rfl)) (fun _ h9 => h9) rfl dX6_note_182 ?_
              obtain ⟨e1, e2⟩ := dn_s2 hd
              exact k_iret hx hb hr hQ hAe e1 (by rw [e2]) hP hS hlocks dX6_note_185
            · have hd := dn_f c82 hd
              refine lv_aload_n hx hb dX6_note_85 rfl (lv_at hl 1 rfl) ?_
              obtain ⟨r86, S86, hq86, hd⟩ := dn_b2 hd
              have hF := k_self hD hS hA
              refine k_run_i (va_runV (As := []) (rest := []) ⟨hx, hb, hml, hown, hts⟩ (mX6_refusedAsFull l D cs a S_31 L r86 S86 hq86 _) (cwV 0 hts gX6_note_X6_refusedAsFull rfl rfl rfl (by decide +kernel) ⟨Nat.le_of_ble_eq_true rfl, Nat.le_of_ble_eq_true rfl⟩) ⟨k_blind, va_recv hK hP (ci := 4) (q0 := 0) rfl rfl, k_pre hP hK hNn hD⟩ rfl rfl hl.1 rfl (lv_room (Nat.le_of_ble_eq_true rfl)) dX6_note_86 ⟨Nat.le_of_ble_eq_true rfl, Nat.le_of_ble_eq_true rfl⟩) hS hF (fun H locs hP1 hk hS => ?_)
              have hP : va_P D vwCl (wX6 cs a S86 L) _ := hP1
              have hD := hDA S86 L
              obtain ⟨e1, e2⟩ := dn_s2 hd
              exact k_iret hx hb hr hQ hAe e1 (by rw [e2]) hP hS hlocks dX6_note_89
          · have hd := dn_t c64 hd
            exact Jo67 S_31 _ _ _ hd (lv_sub hl [1] rfl) hP hS
  have Jo30 : ∀ (S_30 : Nat → Nat → Int32) (H : Heap) (locs : List Loc) (ls : Array Slot), nX6_note_j30 p1 p2 p3 p4 p5 p6 S_30 L = some (r9, S9) → lv_has ls 8 [(0, .ref (a 0)), (1, .int p1), (2, .int p2), (3, .int p3), (4, .int p4), (5, .int p5), (6, .int p6)] → va_P D vwCl (wX6 cs a S_30 L) H → va_S A s.heap H locs → W p l e (headSpec wsX6_note ({ frames := 2, cells := 0, slots := 0, locals := 42 })).room s m ([.ref (a 0), .int p1, .int p2, .int p3, .int p4, .int p5, .int p6] : List Value).toArray below meth c H locs 0 0 Q (F0 m 30 ls []) := by
    intro S_30 H locs ls hd hl hP hS
    have hD := hDA S_30 L
    unfold nX6_note_j30 at hd
    refine lv_iconst (v := (0 : Int32)) hx hb dX6_note_30 (by decide) ?_
    exact Jo31 (0 : Int32) S_30 _ _ _ hd (lv_sub hl [0, 1, 2, 3, 4, 5, 6] rfl) hP hS
  unfold nX6_note at hd
  refine lv_aload_n hx hb dX6_note_0 rfl (lv_at hl 0 rfl) ?_
  refine lv_iload_n hx hb dX6_note_1 rfl (lv_at hl 1 rfl) ?_
  obtain ⟨r2, hq2, hd⟩ := dn_b1 hd
  have hF := k_self hD hS hA
  refine k_run_i (va_runV (As := [.int p1]) (rest := []) ⟨hx, hb, hml, hown, hts⟩ (mX6_isPerson l D cs a S L p1 r2 hq2 _) (cwV 1 hts gX6_note_X6_isPerson rfl rfl rfl (by decide +kernel) ⟨Nat.le_of_ble_eq_true rfl, Nat.le_of_ble_eq_true rfl⟩) ⟨k_blind, va_recv hK hP (ci := 4) (q0 := 0) rfl rfl, k_pre hP hK hNn hD⟩ rfl rfl hl.1 rfl (lv_room (Nat.le_of_ble_eq_true rfl)) dX6_note_2 ⟨Nat.le_of_ble_eq_true rfl, Nat.le_of_ble_eq_true rfl⟩) hS hF (fun H locs hP1 hk hS => ?_)
  have hP : va_P D vwCl (wX6 cs a S L) _ := hP1
  have hD := hDA S L
  refine lv_if_eq (tgt := 30) hx hb dX6_note_5 (by decide) (fun c5 => ?_) (fun c5 => ?_)
  · have hd := dn_t c5 hd
    exact Jo30 S _ _ _ hd (lv_sub hl [0, 1, 2, 3, 4, 5, 6] rfl) hP hS
  · have hd := dn_f c5 hd
    refine lv_iload_n hx hb dX6_note_8 rfl (lv_at hl 2 rfl) ?_
    refine lv_bipush (v := (10 : Int32)) hx hb dX6_note_9 (by decide) ?_
    obtain ⟨r11, hq11, hd⟩ := dn_b1 hd
    have hPc := k_P0 hP
    have hDc : va_D A ([] : va_W) := k_D0
    have hF := k_self hDc hS hA
    refine k_run_i (va_runS (As := [.int p2, .int (10 : Int32)]) (rest := []) ⟨hx, hb, hml, hown, hts⟩ (mX6_upTo l D cs  p2 (10 : Int32) r11 hq11 _) (va_cwS 2 hts gX6_note_X6_upTo rfl rfl rfl (by decide +kernel) ⟨Nat.le_of_ble_eq_true rfl, Nat.le_of_ble_eq_true rfl⟩) ⟨k_blind, k_pre hPc hK hNn hDc⟩ rfl rfl hl.1 rfl (lv_room (Nat.le_of_ble_eq_true rfl)) dX6_note_11 ⟨Nat.le_of_ble_eq_true rfl, Nat.le_of_ble_eq_true rfl⟩) hS hF (fun H locs hP1 hk hS => ?_)
    have hP : va_P D vwCl (wX6 cs a S L) _ := k_keep hP hk
    refine lv_if_eq (tgt := 30) hx hb dX6_note_14 (by decide) (fun c14 => ?_) (fun c14 => ?_)
    · have hd := dn_t c14 hd
      exact Jo30 S _ _ _ hd (lv_sub hl [0, 1, 2, 3, 4, 5, 6] rfl) hP hS
    · have hd := dn_f c14 hd
      refine lv_iload_n hx hb dX6_note_17 rfl (lv_at hl 3 rfl) ?_
      refine lv_bipush (v := (10 : Int32)) hx hb dX6_note_18 (by decide) ?_
      obtain ⟨r20, hq20, hd⟩ := dn_b1 hd
      have hPc := k_P0 hP
      have hDc : va_D A ([] : va_W) := k_D0
      have hF := k_self hDc hS hA
      refine k_run_i (va_runS (As := [.int p3, .int (10 : Int32)]) (rest := []) ⟨hx, hb, hml, hown, hts⟩ (mX6_upTo l D cs  p3 (10 : Int32) r20 hq20 _) (va_cwS 2 hts gX6_note_X6_upTo rfl rfl rfl (by decide +kernel) ⟨Nat.le_of_ble_eq_true rfl, Nat.le_of_ble_eq_true rfl⟩) ⟨k_blind, k_pre hPc hK hNn hDc⟩ rfl rfl hl.1 rfl (lv_room (Nat.le_of_ble_eq_true rfl)) dX6_note_20 ⟨Nat.le_of_ble_eq_true rfl, Nat.le_of_ble_eq_true rfl⟩) hS hF (fun H locs hP1 hk hS => ?_)
      have hP : va_P D vwCl (wX6 cs a S L) _ := k_keep hP hk
      refine lv_if_eq (tgt := 30) hx hb dX6_note_23 (by decide) (fun c23 => ?_) (fun c23 => ?_)
      · have hd := dn_t c23 hd
        exact Jo30 S _ _ _ hd (lv_sub hl [0, 1, 2, 3, 4, 5, 6] rfl) hP hS
      · have hd := dn_f c23 hd
        refine lv_iconst (v := (1 : Int32)) hx hb dX6_note_26 (by decide) ?_
        refine lv_goto (tgt := 31) hx hb dX6_note_27 (by decide) ?_
        exact Jo31 (1 : Int32) S _ _ _ hd (lv_sub hl [0, 1, 2, 3, 4, 5, 6] rfl) hP hS
-- LeastNeed.came(IIII)I
set_option maxRecDepth 20000 in
def nX6_came_j63 (p1 : Int32) (p2 : Int32) (p3 : Int32) (p4 : Int32) (S_63 : Nat → Nat → Int32) (L : Nat → Nat → Int64) : Option (Int32 × (Nat → Nat → Int32)) := k_b1 (nX3_isFull 24 (4 : Int32) (6 : Int32) (k_wi S_63 13)) (fun r70 => if r70 = 0 then k_b1 (nX3_begin 24 (4 : Int32) (6 : Int32) (k_wi S_63 13)) (fun S88 => k_b1 (nX3_put 24 (4 : Int32) (6 : Int32) (k_wi (k_sp S_63 13 2 S88) 13) (0 : Int32) p1) (fun S100 => k_b1 (nX3_put 24 (4 : Int32) (6 : Int32) (k_wi (k_sp (k_sp S_63 13 2 S88) 13 2 S100) 13) (1 : Int32) p2) (fun S112 => k_b1 (nX3_put 24 (4 : Int32) (6 : Int32) (k_wi (k_sp (k_sp (k_sp S_63 13 2 S88) 13 2 S100) 13 2 S112) 13) (2 : Int32) p3) (fun S124 => k_b1 (nX3_put 24 (4 : Int32) (6 : Int32) (k_wi (k_sp (k_sp (k_sp (k_sp S_63 13 2 S88) 13 2 S100) 13 2 S112) 13 2 S124) 13) (3 : Int32) p4) (fun S137 => some (((k_sp (k_sp (k_sp (k_sp (k_sp S_63 13 2 S88) 13 2 S100) 13 2 S112) 13 2 S124) 13 2 S137) 13 3), (k_sp (k_sp (k_sp (k_sp (k_sp S_63 13 2 S88) 13 2 S100) 13 2 S112) 13 2 S124) 13 2 S137))))))) else k_b2 (nX6_refusedAsFull S_63 L) (fun r77 S77 => some (r77, S77)))
set_option maxRecDepth 20000 in
def nX6_came_j58 (S_58 : Nat → Nat → Int32) (L : Nat → Nat → Int64) : Option (Int32 × (Nat → Nat → Int32)) := k_b2 (nX6_refusedAsBad S_58 L) (fun r59 S59 => some (r59, S59))
set_option maxRecDepth 20000 in
def nX6_came_j30 (p1 : Int32) (p2 : Int32) (p3 : Int32) (p4 : Int32) (w0_30 : Int32) (S_30 : Nat → Nat → Int32) (L : Nat → Nat → Int64) : Option (Int32 × (Nat → Nat → Int32)) := if w0_30 = 0 then nX6_came_j58 S_30 L else if p2 = p4 then nX6_came_j58 S_30 L else if p4 = (-1 : Int32) then nX6_came_j63 p1 p2 p3 p4 S_30 L else k_b1 (nX6_isPerson S_30 L p4) (fun r52 => if r52 = 0 then nX6_came_j58 S_30 L else nX6_came_j63 p1 p2 p3 p4 S_30 L)
set_option maxRecDepth 20000 in
def nX6_came_j29 (p1 : Int32) (p2 : Int32) (p3 : Int32) (p4 : Int32) (S_29 : Nat → Nat → Int32) (L : Nat → Nat → Int64) : Option (Int32 × (Nat → Nat → Int32)) := nX6_came_j30 p1 p2 p3 p4 (0 : Int32) S_29 L
set_option maxRecDepth 20000 in
def nX6_came (S : Nat → Nat → Int32) (L : Nat → Nat → Int64) (p1 : Int32) (p2 : Int32) (p3 : Int32) (p4 : Int32) : Option (Int32 × (Nat → Nat → Int32)) := k_b1 (nX6_isThing S L p1) (fun r2 => if r2 = 0 then nX6_came_j29 p1 p2 p3 p4 S L else k_b1 (nX6_isPerson S L p2) (fun r10 => if r10 = 0 then nX6_came_j29 p1 p2 p3 p4 S L else k_b1 (nX6_upTo p3 (100 : Int32)) (fun r19 => if r19 = 0 then nX6_came_j29 p1 p2 p3 p4 S L else nX6_came_j30 p1 p2 p3 p4 (1 : Int32) S L)))
set_option maxHeartbeats 4000000 in
set_option maxRecDepth 100000 in
theorem mX6_came (l : Launch) (D : va_G) (cs : Nat → ClassId) (a : Nat → Nat) (S : Nat → Nat → Int32) (L : Nat → Nat → Int64) (p1 : Int32) (p2 : Int32) (p3 : Int32) (p4 : Int32) (r9 : Int32) (S9 : (Nat → Nat → Int32)) (hd : nX6_came S L p1 p2 p3 p4 = some (r9, S9)) : ∀ sz : Nat, Met l yX6_came wsX6_came ({ frames := 2, cells := 0, slots := 0, locals := 42 }) (k_Pc D cs [.ref (a 0), .int p1, .int p2, .int p3, .int p4] (wX6 cs a S L) sz) (k_Qi D r9 (wX6 cs a S L) (wX6 cs a S9 L) sz) 0 0 (va_A (wX6 cs a S L) sz) := by
  intro sz
  refine Met.ofW (cc := cX6_came) (maxL := 6) (ret := (some .int)) (by decide) rfl ?_
  intro p e s m args below meth c s₁ B hml hv
  obtain ⟨rfl, hsz, hP, hK, hD0, hNn⟩ := hv
  have hx := B.exec
  have hb := B.bytes
  have hr := B.returns
  have hts := atoms_spec (ws := wsX6_came) B.pre
  have hown : s.vm.findClass RX6 = some m.cls := findClass_of_methodNamed B.named
  have hlocks := B.notSynchronized
  subst hsz
  obtain ⟨A, hAe⟩ : ∃ A : Nat → Prop, A = va_A (wX6 cs a S L) s.heap.size := ⟨_, rfl⟩
  have hD : va_D A (wX6 cs a S L) := by rw [hAe]; exact hD0.self
  have hA : ∀ q : Nat, s.heap.size ≤ q → A q := fun q h => by rw [hAe]; exact Or.inr h
  have hS : va_S A s.heap s.heap [] := va_S.rf
  have hDA : ∀ (S : Nat → Nat → Int32) (L : Nat → Nat → Int64), va_D A (wX6 cs a S L) := fun S L => k_DA hD rfl
  have hl := lv_entry ([.ref (a 0), .int p1, .int p2, .int p3, .int p4]) (n := 6) (Nat.le_of_ble_eq_true rfl)
  rw [lg_entry_eq]
  generalize (lg_sl ([.ref (a 0), .int p1, .int p2, .int p3, .int p4]) ++ List.replicate (6 - (lg_sl ([.ref (a 0), .int p1, .int p2, .int p3, .int p4])).length) Slot.unset).toArray = ls at hl ⊢
  have hl : lv_has ls 6 [(0, .ref (a 0)), (1, .int p1), (2, .int p2), (3, .int p3), (4, .int p4)] := hl
  obtain ⟨Q, hQ⟩ : ∃ Q, Q = MQ below (k_Qi D r9 (wX6 cs a S L) (wX6 cs a S9 L) s.heap.size) ([.ref (a 0), .int p1, .int p2, .int p3, .int p4] : List Value).toArray s 0 0 (va_A (wX6 cs a S L) s.heap.size) := ⟨_, rfl⟩
  rw [← hQ]
  have Jo63 : ∀ (S_63 : Nat → Nat → Int32) (H : Heap) (locs : List Loc) (ls : Array Slot), nX6_came_j63 p1 p2 p3 p4 S_63 L = some (r9, S9) → lv_has ls 6 [(0, .ref (a 0)), (1, .int p1), (2, .int p2), (3, .int p3), (4, .int p4)] → va_P D vwCl (wX6 cs a S_63 L) H → va_S A s.heap H locs → W p l e (headSpec wsX6_came ({ frames := 2, cells := 0, slots := 0, locals := 42 })).room s m ([.ref (a 0), .int p1, .int p2, .int p3, .int p4] : List Value).toArray below meth c H locs 0 0 Q (F0 m 63 ls []) := by
    intro S_63 H locs ls hd hl hP hS
    have hD := hDA S_63 L
    unfold nX6_came_j63 at hd
    refine lv_aload_n hx hb dX6_came_63 rfl (lv_at hl 0 rfl) ?_
    refine va_get (D := D) (ci := 4) (v := .ref (a 1)) (C := RX6) (T := TX6) (N := 12) hx hb hts (fun w h => List.mem_cons_of_mem _ (List.mem_append_left _ (List.mem_append_left _ (List.mem_append_right _ h)))) hown hK hP 0 rfl rfl 0 (by decide) (hts (.fieldLink RX6 12 "LeastNeed" "now" "LLeastNeed$Valley;") (List.mem_of_getElem? (i := 1) rfl)) (fun _ h9 => h9) rfl dX6_came_64 ?_
    refine va_get (D := D) (ci := 3) (v := .ref (a 13)) (C := RX5) (T := TX5) (N := 15) hx hb hts (fun w h => List.mem_cons_of_mem _ (List.mem_append_left _ (List.mem_append_right _ h))) hown hK hP 1 rfl rfl 10 (by decide) (hts (.fieldLink RX6 211 "LeastNeed$Valley" "cames" "LLeastNeed$Rows;") (List.mem_of_getElem? (i := 2) rfl)) (fun _ h9 => h9) rfl dX6_came_67 ?_
    obtain ⟨r70, hq70, hd⟩ := dn_b1 hd
    have hPc : va_P D vwCl (wX3 cs 24 (4 : Int32) (6 : Int32) (k_wi a 13) (k_wi S_63 13)) _ := k_sub hP [13, 14] (wcX6_X3_13 cs a S_63 L)
    have hDc : va_D A (wX3 cs 24 (4 : Int32) (6 : Int32) (k_wi a 13) (k_wi S_63 13)) := hD.sub [13, 14] (by decide) (wcX6_X3_13 cs a S_63 L)
    have hF := k_self hDc hS hA
    refine k_run_i (va_runV (As := []) (rest := []) ⟨hx, hb, hml, hown, hts⟩ (mX3_isFull l D cs (k_wi a 13) 24 (4 : Int32) (6 : Int32) (k_wi S_63 13) r70 hq70 _) (cwV 0 hts gX6_came_X3_isFull rfl rfl rfl (by decide +kernel) ⟨Nat.le_of_ble_eq_true rfl, Nat.le_of_ble_eq_true rfl⟩) ⟨k_blind, va_recv hK hP (ci := 2) (q0 := 13) rfl rfl, k_pre hPc hK hNn hDc⟩ rfl rfl hl.1 rfl (lv_room (Nat.le_of_ble_eq_true rfl)) dX6_came_70 ⟨Nat.le_of_ble_eq_true rfl, Nat.le_of_ble_eq_true rfl⟩) hS hF (fun H locs hP1 hk hS => ?_)
    have hP : va_P D vwCl (wX6 cs a S_63 L) _ := k_back hP hD [13, 14] [0, 1, 2, 3, 4, 5, 6, 7, 8, 9, 10, 11, 12, 15, 16, 17, 18, 19, 20, 21, 22, 23, 24, 25, 26, 27, 28, 29, 30, 31, 32, 33, 34, 35, 36, 37, 38, 39, 40, 41, 42, 43, 44, 45, 46, 47, 48, 49, 50, 51, 52, 53, 54, 55, 56, 57, 58, 59, 60, 61, 62, 63, 64, 65, 66, 67, 68, 69, 70, 71, 72, 73, 74, 75, 76, 77, 78] [0, 1, 2, 3, 4, 5, 6, 7, 8, 9, 10, 11, 12, 77, 78, 13, 14, 15, 16, 17, 18, 19, 20, 21, 22, 23, 24, 25, 26, 27, 28, 29, 30, 31, 32, 33, 34, 35, 36, 37, 38, 39, 40, 41, 42, 43, 44, 45, 46, 47, 48, 49, 50, 51, 52, 53, 54, 55, 56, 57, 58, 59, 60, 61, 62, 63, 64, 65, 66, 67, 68, 69, 70, 71, 72, 73, 74, 75, 76] (wcX6_X3_13 cs a S_63 L) (by decide) hk hP1 (wbX6_X3_13 cs a S_63 L)
    have hD := hDA S_63 L
    refine lv_if_eq (tgt := 81) hx hb dX6_came_73 (by decide) (fun c73 => ?_) (fun c73 => ?_)
    · have hd := dn_t c73 hd
      refine lv_aload_n hx hb dX6_came_81 rfl (lv_at hl 0 rfl) ?_
      refine va_get (D := D) (ci := 4) (v := .ref (a 1)) (C := RX6) (T := TX6) (N := 12) hx hb hts (fun w h => List.mem_cons_of_mem _ (List.mem_append_left _ (List.mem_append_left _ (List.mem_append_right _ h)))) hown hK hP 0 rfl rfl 0 (by decide) (hts (.fieldLink RX6 12 "LeastNeed" "now" "LLeastNeed$Valley;") (List.mem_of_getElem? (i := 1) rfl)) (fun _ h9 => h9) rfl dX6_came_82 ?_
      refine va_get (D := D) (ci := 3) (v := .ref (a 13)) (C := RX5) (T := TX5) (N := 15) hx hb hts (fun w h => List.mem_cons_of_mem _ (List.mem_append_left _ (List.mem_append_right _ h))) hown hK hP 1 rfl rfl 10 (by decide) (hts (.fieldLink RX6 211 "LeastNeed$Valley" "cames" "LLeastNeed$Rows;") (List.mem_of_getElem? (i := 2) rfl)) (fun _ h9 => h9) rfl dX6_came_85 ?_
      obtain ⟨S88, hq88, hd⟩ := dn_b1 hd
      have hPc : va_P D vwCl (wX3 cs 24 (4 : Int32) (6 : Int32) (k_wi a 13) (k_wi S_63 13)) _ := k_sub hP [13, 14] (wcX6_X3_13 cs a S_63 L)
      have hDc : va_D A (wX3 cs 24 (4 : Int32) (6 : Int32) (k_wi a 13) (k_wi S_63 13)) := hD.sub [13, 14] (by decide) (wcX6_X3_13 cs a S_63 L)
      have hF := k_self hDc hS hA
      refine k_run_v (va_runV (As := []) (rest := []) ⟨hx, hb, hml, hown, hts⟩ (mX3_begin l D cs (k_wi a 13) 24 (4 : Int32) (6 : Int32) (k_wi S_63 13) S88 hq88 _) (cwV 0 hts gX6_came_X3_begin rfl rfl rfl (by decide +kernel) ⟨Nat.le_of_ble_eq_true rfl, Nat.le_of_ble_eq_true rfl⟩) ⟨k_blind, va_recv hK hP (ci := 2) (q0 := 13) rfl rfl, k_pre hPc hK hNn hDc⟩ rfl rfl hl.1 rfl (lv_room (Nat.le_of_ble_eq_true rfl)) dX6_came_88 ⟨Nat.le_of_ble_eq_true rfl, Nat.le_of_ble_eq_true rfl⟩) hS hF (fun H locs hP1 hk hS => ?_)
      have hP : va_P D vwCl (wX6 cs a (k_sp S_63 13 2 S88) L) _ := k_back hP hD [13, 14] [0, 1, 2, 3, 4, 5, 6, 7, 8, 9, 10, 11, 12, 15, 16, 17, 18, 19, 20, 21, 22, 23, 24, 25, 26, 27, 28, 29, 30, 31, 32, 33, 34, 35, 36, 37, 38, 39, 40, 41, 42, 43, 44, 45, 46, 47, 48, 49, 50, 51, 52, 53, 54, 55, 56, 57, 58, 59, 60, 61, 62, 63, 64, 65, 66, 67, 68, 69, 70, 71, 72, 73, 74, 75, 76, 77, 78] [0, 1, 2, 3, 4, 5, 6, 7, 8, 9, 10, 11, 12, 77, 78, 13, 14, 15, 16, 17, 18, 19, 20, 21, 22, 23, 24, 25, 26, 27, 28, 29, 30, 31, 32, 33, 34, 35, 36, 37, 38, 39, 40, 41, 42, 43, 44, 45, 46, 47, 48, 49, 50, 51, 52, 53, 54, 55, 56, 57, 58, 59, 60, 61, 62, 63, 64, 65, 66, 67, 68, 69, 70, 71, 72, 73, 74, 75, 76] (wcX6_X3_13 cs a S_63 L) (by decide) hk hP1 (wbX6_X3_13_S0 cs a S_63 L S88)
      have hD := hDA (k_sp S_63 13 2 S88) L
      refine lv_aload_n hx hb dX6_came_91 rfl (lv_at hl 0 rfl) ?_
      refine va_get (D := D) (ci := 4) (v := .ref (a 1)) (C := RX6) (T := TX6) (N := 12) hx hb hts (fun w h => List.mem_cons_of_mem _ (List.mem_append_left _ (List.mem_append_left _ (List.mem_append_right _ h)))) hown hK hP 0 rfl rfl 0 (by decide) (hts (.fieldLink RX6 12 "LeastNeed" "now" "LLeastNeed$Valley;") (List.mem_of_getElem? (i := 1) rfl)) (fun _ h9 => h9) rfl dX6_came_92 ?_
      refine va_get (D := D) (ci := 3) (v := .ref (a 13)) (C := RX5) (T := TX5) (N := 15) hx hb hts (fun w h => List.mem_cons_of_mem _ (List.mem_append_left _ (List.mem_append_right _ h))) hown hK hP 1 rfl rfl 10 (by decide) (hts (.fieldLink RX6 211 "LeastNeed$Valley" "cames" "LLeastNeed$Rows;") (List.mem_of_getElem? (i := 2) rfl)) (fun _ h9 => h9) rfl dX6_came_95 ?_
      refine lv_iconst (v := (0 : Int32)) hx hb dX6_came_98 (by decide) ?_
      refine lv_iload_n hx hb dX6_came_99 rfl (lv_at hl 1 rfl) ?_
      obtain ⟨S100, hq100, hd⟩ := dn_b1 hd
      have hPc : va_P D vwCl (wX3 cs 24 (4 : Int32) (6 : Int32) (k_wi a 13) (k_wi (k_sp S_63 13 2 S88) 13)) _ := k_sub hP [13, 14] (wcX6_X3_13 cs a (k_sp S_63 13 2 S88) L)
      have hDc : va_D A (wX3 cs 24 (4 : Int32) (6 : Int32) (k_wi a 13) (k_wi (k_sp S_63 13 2 S88) 13)) := hD.sub [13, 14] (by decide) (wcX6_X3_13 cs a (k_sp S_63 13 2 S88) L)
      have hF := k_self hDc hS hA
      refine k_run_v (va_runV (As := [.int (0 : Int32), .int p1]) (rest := []) ⟨hx, hb, hml, hown, hts⟩ (mX3_put l D cs (k_wi a 13) 24 (4 : Int32) (6 : Int32) (k_wi (k_sp S_63 13 2 S88) 13) (0 : Int32) p1 S100 hq100 _) (cwV 2 hts gX6_came_X3_put rfl rfl rfl (by decide +kernel) ⟨Nat.le_of_ble_eq_true rfl, Nat.le_of_ble_eq_true rfl⟩) ⟨k_blind, va_recv hK hP (ci := 2) (q0 := 13) rfl rfl, k_pre hPc hK hNn hDc⟩ rfl rfl hl.1 rfl (lv_room (Nat.le_of_ble_eq_true rfl)) dX6_came_100 ⟨Nat.le_of_ble_eq_true rfl, Nat.le_of_ble_eq_true rfl⟩) hS hF (fun H locs hP1 hk hS => ?_)
      have hP : va_P D vwCl (wX6 cs a (k_sp (k_sp S_63 13 2 S88) 13 2 S100) L) _ := k_back hP hD [13, 14] [0, 1, 2, 3, 4, 5, 6, 7, 8, 9, 10, 11, 12, 15, 16, 17, 18, 19, 20, 21, 22, 23, 24, 25, 26, 27, 28, 29, 30, 31, 32, 33, 34, 35, 36, 37, 38, 39, 40, 41, 42, 43, 44, 45, 46, 47, 48, 49, 50, 51, 52, 53, 54, 55, 56, 57, 58, 59, 60, 61, 62, 63, 64, 65, 66, 67, 68, 69, 70, 71, 72, 73, 74, 75, 76, 77, 78] [0, 1, 2, 3, 4, 5, 6, 7, 8, 9, 10, 11, 12, 77, 78, 13, 14, 15, 16, 17, 18, 19, 20, 21, 22, 23, 24, 25, 26, 27, 28, 29, 30, 31, 32, 33, 34, 35, 36, 37, 38, 39, 40, 41, 42, 43, 44, 45, 46, 47, 48, 49, 50, 51, 52, 53, 54, 55, 56, 57, 58, 59, 60, 61, 62, 63, 64, 65, 66, 67, 68, 69, 70, 71, 72, 73, 74, 75, 76] (wcX6_X3_13 cs a (k_sp S_63 13 2 S88) L) (by decide) hk hP1 (wbX6_X3_13_S0 cs a (k_sp S_63 13 2 S88) L S100)
      have hD := hDA (k_sp (k_sp S_63 13 2 S88) 13 2 S100) L
      refine lv_aload_n hx hb dX6_came_103 rfl (lv_at hl 0 rfl) ?_
      refine va_get (D := D) (ci := 4) (v := .ref (a 1)) (C := RX6) (T := TX6) (N := 12) hx hb hts (fun w h => List.mem_cons_of_mem _ (List.mem_append_left _ (List.mem_append_left _ (List.mem_append_right _ h)))) hown hK hP 0 rfl rfl 0 (by decide) (hts (.fieldLink RX6 12 "LeastNeed" "now" "LLeastNeed$Valley;") (List.mem_of_getElem? (i := 1) rfl)) (fun _ h9 => h9) rfl dX6_came_104 ?_
      refine va_get (D := D) (ci := 3) (v := .ref (a 13)) (C := RX5) (T := TX5) (N := 15) hx hb hts (fun w h => List.mem_cons_of_mem _ (List.mem_append_left _ (List.mem_append_right _ h))) hown hK hP 1 rfl rfl 10 (by decide) (hts (.fieldLink RX6 211 "LeastNeed$Valley" "cames" "LLeastNeed$Rows;") (List.mem_of_getElem? (i := 2) rfl)) (fun _ h9 => h9) rfl dX6_came_107 ?_
      refine lv_iconst (v := (1 : Int32)) hx hb dX6_came_110 (by decide) ?_
      refine lv_iload_n hx hb dX6_came_111 rfl (lv_at hl 2 rfl) ?_
      obtain ⟨S112, hq112, hd⟩ := dn_b1 hd
      have hPc : va_P D vwCl (wX3 cs 24 (4 : Int32) (6 : Int32) (k_wi a 13) (k_wi (k_sp (k_sp S_63 13 2 S88) 13 2 S100) 13)) _ := k_sub hP [13, 14] (wcX6_X3_13 cs a (k_sp (k_sp S_63 13 2 S88) 13 2 S100) L)
      have hDc : va_D A (wX3 cs 24 (4 : Int32) (6 : Int32) (k_wi a 13) (k_wi (k_sp (k_sp S_63 13 2 S88) 13 2 S100) 13)) := hD.sub [13, 14] (by decide) (wcX6_X3_13 cs a (k_sp (k_sp S_63 13 2 S88) 13 2 S100) L)
      have hF := k_self hDc hS hA
      refine k_run_v (va_runV (As := [.int (1 : Int32), .int p2]) (rest := []) ⟨hx, hb, hml, hown, hts⟩ (mX3_put l D cs (k_wi a 13) 24 (4 : Int32) (6 : Int32) (k_wi (k_sp (k_sp S_63 13 2 S88) 13 2 S100) 13) (1 : Int32) p2 S112 hq112 _) (cwV 2 hts gX6_came_X3_put rfl rfl rfl (by decide +kernel) ⟨Nat.le_of_ble_eq_true rfl, Nat.le_of_ble_eq_true rfl⟩) ⟨k_blind, va_recv hK hP (ci := 2) (q0 := 13) rfl rfl, k_pre hPc hK hNn hDc⟩ rfl rfl hl.1 rfl (lv_room (Nat.le_of_ble_eq_true rfl)) dX6_came_112 ⟨Nat.le_of_ble_eq_true rfl, Nat.le_of_ble_eq_true rfl⟩) hS hF (fun H locs hP1 hk hS => ?_)
      have hP : va_P D vwCl (wX6 cs a (k_sp (k_sp (k_sp S_63 13 2 S88) 13 2 S100) 13 2 S112) L) _ := k_back hP hD [13, 14] [0, 1, 2, 3, 4, 5, 6, 7, 8, 9, 10, 11, 12, 15, 16, 17, 18, 19, 20, 21, 22, 23, 24, 25, 26, 27, 28, 29, 30, 31, 32, 33, 34, 35, 36, 37, 38, 39, 40, 41, 42, 43, 44, 45, 46, 47, 48, 49, 50, 51, 52, 53, 54, 55, 56, 57, 58, 59, 60, 61, 62, 63, 64, 65, 66, 67, 68, 69, 70, 71, 72, 73, 74, 75, 76, 77, 78] [0, 1, 2, 3, 4, 5, 6, 7, 8, 9, 10, 11, 12, 77, 78, 13, 14, 15, 16, 17, 18, 19, 20, 21, 22, 23, 24, 25, 26, 27, 28, 29, 30, 31, 32, 33, 34, 35, 36, 37, 38, 39, 40, 41, 42, 43, 44, 45, 46, 47, 48, 49, 50, 51, 52, 53, 54, 55, 56, 57, 58, 59, 60, 61, 62, 63, 64, 65, 66, 67, 68, 69, 70, 71, 72, 73, 74, 75, 76] (wcX6_X3_13 cs a (k_sp (k_sp S_63 13 2 S88) 13 2 S100) L) (by decide) hk hP1 (wbX6_X3_13_S0 cs a (k_sp (k_sp S_63 13 2 S88) 13 2 S100) L S112)
      have hD := hDA (k_sp (k_sp (k_sp S_63 13 2 S88) 13 2 S100) 13 2 S112) L
      refine lv_aload_n hx hb dX6_came_115 rfl (lv_at hl 0 rfl) ?_
      refine va_get (D := D) (ci := 4) (v := .ref (a 1)) (C := RX6) (T := TX6) (N := 12) hx hb hts (fun w h => List.mem_cons_of_mem _ (List.mem_append_left _ (List.mem_append_left _ (List.mem_append_right _ h)))) hown hK hP 0 rfl rfl 0 (by decide) (hts (.fieldLink RX6 12 "LeastNeed" "now" "LLeastNeed$Valley;") (List.mem_of_getElem? (i := 1) rfl)) (fun _ h9 => h9) rfl dX6_came_116 ?_
      refine va_get (D := D) (ci := 3) (v := .ref (a 13)) (C := RX5) (T := TX5) (N := 15) hx hb hts (fun w h => List.mem_cons_of_mem _ (List.mem_append_left _ (List.mem_append_right _ h))) hown hK hP 1 rfl rfl 10 (by decide) (hts (.fieldLink RX6 211 "LeastNeed$Valley" "cames" "LLeastNeed$Rows;") (List.mem_of_getElem? (i := 2) rfl)) (fun _ h9 => h9) rfl dX6_came_119 ?_
      refine lv_iconst (v := (2 : Int32)) hx hb dX6_came_122 (by decide) ?_
      refine lv_iload_n hx hb dX6_came_123 rfl (lv_at hl 3 rfl) ?_
      obtain ⟨S124, hq124, hd⟩ := dn_b1 hd
      have hPc : va_P D vwCl (wX3 cs 24 (4 : Int32) (6 : Int32) (k_wi a 13) (k_wi (k_sp (k_sp (k_sp S_63 13 2 S88) 13 2 S100) 13 2 S112) 13)) _ := k_sub hP [13, 14] (wcX6_X3_13 cs a (k_sp (k_sp (k_sp S_63 13 2 S88) 13 2 S100) 13 2 S112) L)
      have hDc : va_D A (wX3 cs 24 (4 : Int32) (6 : Int32) (k_wi a 13) (k_wi (k_sp (k_sp (k_sp S_63 13 2 S88) 13 2 S100) 13 2 S112) 13)) := hD.sub [13, 14] (by decide) (wcX6_X3_13 cs a (k_sp (k_sp (k_sp S_63 13 2 S88) 13 2 S100) 13 2 S112) L)
      have hF := k_self hDc hS hA
      refine k_run_v (va_runV (As := [.int (2 : Int32), .int p3]) (rest := []) ⟨hx, hb, hml, hown, hts⟩ (mX3_put l D cs (k_wi a 13) 24 (4 : Int32) (6 : Int32) (k_wi (k_sp (k_sp (k_sp S_63 13 2 S88) 13 2 S100) 13 2 S112) 13) (2 : Int32) p3 S124 hq124 _) (cwV 2 hts gX6_came_X3_put rfl rfl rfl (by decide +kernel) ⟨Nat.le_of_ble_eq_true rfl, Nat.le_of_ble_eq_true rfl⟩) ⟨k_blind, va_recv hK hP (ci := 2) (q0 := 13) rfl rfl, k_pre hPc hK hNn hDc⟩ rfl rfl hl.1 rfl (lv_room (Nat.le_of_ble_eq_true rfl)) dX6_came_124 ⟨Nat.le_of_ble_eq_true rfl, Nat.le_of_ble_eq_true rfl⟩) hS hF (fun H locs hP1 hk hS => ?_)
      have hP : va_P D vwCl (wX6 cs a (k_sp (k_sp (k_sp (k_sp S_63 13 2 S88) 13 2 S100) 13 2 S112) 13 2 S124) L) _ := k_back hP hD [13, 14] [0, 1, 2, 3, 4, 5, 6, 7, 8, 9, 10, 11, 12, 15, 16, 17, 18, 19, 20, 21, 22, 23, 24, 25, 26, 27, 28, 29, 30, 31, 32, 33, 34, 35, 36, 37, 38, 39, 40, 41, 42, 43, 44, 45, 46, 47, 48, 49, 50, 51, 52, 53, 54, 55, 56, 57, 58, 59, 60, 61, 62, 63, 64, 65, 66, 67, 68, 69, 70, 71, 72, 73, 74, 75, 76, 77, 78] [0, 1, 2, 3, 4, 5, 6, 7, 8, 9, 10, 11, 12, 77, 78, 13, 14, 15, 16, 17, 18, 19, 20, 21, 22, 23, 24, 25, 26, 27, 28, 29, 30, 31, 32, 33, 34, 35, 36, 37, 38, 39, 40, 41, 42, 43, 44, 45, 46, 47, 48, 49, 50, 51, 52, 53, 54, 55, 56, 57, 58, 59, 60, 61, 62, 63, 64, 65, 66, 67, 68, 69, 70, 71, 72, 73, 74, 75, 76] (wcX6_X3_13 cs a (k_sp (k_sp (k_sp S_63 13 2 S88) 13 2 S100) 13 2 S112) L) (by decide) hk hP1 (wbX6_X3_13_S0 cs a (k_sp (k_sp (k_sp S_63 13 2 S88) 13 2 S100) 13 2 S112) L S124)
      have hD := hDA (k_sp (k_sp (k_sp (k_sp S_63 13 2 S88) 13 2 S100) 13 2 S112) 13 2 S124) L
      refine lv_aload_n hx hb dX6_came_127 rfl (lv_at hl 0 rfl) ?_
      refine va_get (D := D) (ci := 4) (v := .ref (a 1)) (C := RX6) (T := TX6) (N := 12) hx hb hts (fun w h => List.mem_cons_of_mem _ (List.mem_append_left _ (List.mem_append_left _ (List.mem_append_right _ h)))) hown hK hP 0 rfl rfl 0 (by decide) (hts (.fieldLink RX6 12 "LeastNeed" "now" "LLeastNeed$Valley;") (List.mem_of_getElem? (i := 1) rfl)) (fun _ h9 => h9) rfl dX6_came_128 ?_
      refine va_get (D := D) (ci := 3) (v := .ref (a 13)) (C := RX5) (T := TX5) (N := 15) hx hb hts (fun w h => List.mem_cons_of_mem _ (List.mem_append_left _ (List.mem_append_right _ h))) hown hK hP 1 rfl rfl 10 (by decide) (hts (.fieldLink RX6 211 "LeastNeed$Valley" "cames" "LLeastNeed$Rows;") (List.mem_of_getElem? (i := 2) rfl)) (fun _ h9 => h9) rfl dX6_came_131 ?_
      refine lv_iconst (v := (3 : Int32)) hx hb dX6_came_134 (by decide) ?_
      refine lv_iload hx hb dX6_came_135 (lv_at hl 4 rfl) ?_
      obtain ⟨S137, hq137, hd⟩ := dn_b1 hd
      have hPc : va_P D vwCl (wX3 cs 24 (4 : Int32) (6 : Int32) (k_wi a 13) (k_wi (k_sp (k_sp (k_sp (k_sp S_63 13 2 S88) 13 2 S100) 13 2 S112) 13 2 S124) 13)) _ := k_sub hP [13, 14] (wcX6_X3_13 cs a (k_sp (k_sp (k_sp (k_sp S_63 13 2 S88) 13 2 S100) 13 2 S112) 13 2 S124) L)
      have hDc : va_D A (wX3 cs 24 (4 : Int32) (6 : Int32) (k_wi a 13) (k_wi (k_sp (k_sp (k_sp (k_sp S_63 13 2 S88) 13 2 S100) 13 2 S112) 13 2 S124) 13)) := hD.sub [13, 14] (by decide) (wcX6_X3_13 cs a (k_sp (k_sp (k_sp (k_sp S_63 13 2 S88) 13 2 S100) 13 2 S112) 13 2 S124) L)
      have hF := k_self hDc hS hA
      refine k_run_v (va_runV (As := [.int (3 : Int32), .int p4]) (rest := []) ⟨hx, hb, hml, hown, hts⟩ (mX3_put l D cs (k_wi a 13) 24 (4 : Int32) (6 : Int32) (k_wi (k_sp (k_sp (k_sp (k_sp S_63 13 2 S88) 13 2 S100) 13 2 S112) 13 2 S124) 13) (3 : Int32) p4 S137 hq137 _) (cwV 2 hts gX6_came_X3_put rfl rfl rfl (by decide +kernel) ⟨Nat.le_of_ble_eq_true rfl, Nat.le_of_ble_eq_true rfl⟩) ⟨k_blind, va_recv hK hP (ci := 2) (q0 := 13) rfl rfl, k_pre hPc hK hNn hDc⟩ rfl rfl hl.1 rfl (lv_room (Nat.le_of_ble_eq_true rfl)) dX6_came_137 ⟨Nat.le_of_ble_eq_true rfl, Nat.le_of_ble_eq_true rfl⟩) hS hF (fun H locs hP1 hk hS => ?_)
      have hP : va_P D vwCl (wX6 cs a (k_sp (k_sp (k_sp (k_sp (k_sp S_63 13 2 S88) 13 2 S100) 13 2 S112) 13 2 S124) 13 2 S137) L) _ := k_back hP hD [13, 14] [0, 1, 2, 3, 4, 5, 6, 7, 8, 9, 10, 11, 12, 15, 16, 17, 18, 19, 20, 21, 22, 23, 24, 25, 26, 27, 28, 29, 30, 31, 32, 33, 34, 35, 36, 37, 38, 39, 40, 41, 42, 43, 44, 45, 46, 47, 48, 49, 50, 51, 52, 53, 54, 55, 56, 57, 58, 59, 60, 61, 62, 63, 64, 65, 66, 67, 68, 69, 70, 71, 72, 73, 74, 75, 76, 77, 78] [0, 1, 2, 3, 4, 5, 6, 7, 8, 9, 10, 11, 12, 77, 78, 13, 14, 15, 16, 17, 18, 19, 20, 21, 22, 23, 24, 25, 26, 27, 28, 29, 30, 31, 32, 33, 34, 35, 36, 37, 38, 39, 40, 41, 42, 43, 44, 45, 46, 47, 48, 49, 50, 51, 52, 53, 54, 55, 56, 57, 58, 59, 60, 61, 62, 63, 64, 65, 66, 67, 68, 69, 70, 71, 72, 73, 74, 75, 76] (wcX6_X3_13 cs a (k_sp (k_sp (k_sp (k_sp S_63 13 2 S88) 13 2 S100) 13 2 S112) 13 2 S124) L) (by decide) hk hP1 (wbX6_X3_13_S0 cs a (k_sp (k_sp (k_sp (k_sp S_63 13 2 S88) 13 2 S100) 13 2 S112) 13 2 S124) L S137)
      have hD := hDA (k_sp (k_sp (k_sp (k_sp (k_sp S_63 13 2 S88) 13 2 S100) 13 2 S112) 13 2 S124) 13 2 S137) L
      refine lv_aload_n hx hb dX6_came_140 rfl (lv_at hl 0 rfl) ?_
      refine va_get (D := D) (ci := 4) (v := .ref (a 1)) (C := RX6) (T := TX6) (N := 12) hx hb hts (fun w h => List.mem_cons_of_mem _ (List.mem_append_left _ (List.mem_append_left _ (List.mem_append_right _ h)))) hown hK hP 0 rfl rfl 0 (by decide) (hts (.fieldLink RX6 12 "LeastNeed" "now" "LLeastNeed$Valley;") (List.mem_of_getElem? (i := 1) rfl)) (fun _ h9 => h9) rfl dX6_came_141 ?_
      refine va_get (D := D) (ci := 3) (v := .ref (a 13)) (C := RX5) (T := TX5) (N := 15) hx hb hts (fun w h => List.mem_cons_of_mem _ (List.mem_append_left _ (List.mem_append_right _ h))) hown hK hP 1 rfl rfl 10 (by decide) (hts (.fieldLink RX6 211 "LeastNeed$Valley" "cames" "LLeastNeed$Rows;") (List.mem_of_getElem? (i := 2) rfl)) (fun _ h9 => h9) rfl dX6_came_144 ?_
      refine va_get (D := D) (ci := 2) (v := .int ((k_sp (k_sp (k_sp (k_sp (k_sp S_63 13 2 S88) 13 2 S100) 13 2 S112) 13 2 S124) 13 2 S137) 13 3)) (C := RX3) (T := TX3) (N := 4) hx hb hts (fun w h => List.mem_cons_of_mem _ (List.mem_append_right _ h)) hown hK hP 13 rfl rfl 3 (by decide) (hts (.fieldLink RX6 150 "LeastNeed$Rows" "used" "I") (List.mem_of_getElem? (i := 3) rfl)) (fun _ h9 => h9) rfl dX6_came_147 ?_
      obtain ⟨e1, e2⟩ := dn_s2 hd
      exact k_iret hx hb hr hQ hAe e1 (by rw [e2]) hP hS hlocks dX6_came_150
    · have hd := dn_f c73 hd
      refine lv_aload_n hx hb dX6_came_76 rfl (lv_at hl 0 rfl) ?_
      obtain ⟨r77, S77, hq77, hd⟩ := dn_b2 hd
      have hF := k_self hD hS hA
      refine k_run_i (va_runV (As := []) (rest := []) ⟨hx, hb, hml, hown, hts⟩ (mX6_refusedAsFull l D cs a S_63 L r77 S77 hq77 _) (cwV 0 hts gX6_came_X6_refusedAsFull rfl rfl rfl (by decide +kernel) ⟨Nat.le_of_ble_eq_true rfl, Nat.le_of_ble_eq_true rfl⟩) ⟨k_blind, va_recv hK hP (ci := 4) (q0 := 0) rfl rfl, k_pre hP hK hNn hD⟩ rfl rfl hl.1 rfl (lv_room (Nat.le_of_ble_eq_true rfl)) dX6_came_77 ⟨Nat.le_of_ble_eq_true rfl, Nat.le_of_ble_eq_true rfl⟩) hS hF (fun H locs hP1 hk hS => ?_)
      have hP : va_P D vwCl (wX6 cs a S77 L) _ := hP1
      have hD := hDA S77 L
      obtain ⟨e1, e2⟩ := dn_s2 hd
      exact k_iret hx hb hr hQ hAe e1 (by rw [e2]) hP hS hlocks dX6_came_80
  have Jo58 : ∀ (S_58 : Nat → Nat → Int32) (H : Heap) (locs : List Loc) (ls : Array Slot), nX6_came_j58 S_58 L = some (r9, S9) → lv_has ls 6 [(0, .ref (a 0))] → va_P D vwCl (wX6 cs a S_58 L) H → va_S A s.heap H locs → W p l e (headSpec wsX6_came ({ frames := 2, cells := 0, slots := 0, locals := 42 })).room s m ([.ref (a 0), .int p1, .int p2, .int p3, .int p4] : List Value).toArray below meth c H locs 0 0 Q (F0 m 58 ls []) := by
    intro S_58 H locs ls hd hl hP hS
    have hD := hDA S_58 L
    unfold nX6_came_j58 at hd
    refine lv_aload_n hx hb dX6_came_58 rfl (lv_at hl 0 rfl) ?_
    obtain ⟨r59, S59, hq59, hd⟩ := dn_b2 hd
    have hF := k_self hD hS hA
    refine k_run_i (va_runV (As := []) (rest := []) ⟨hx, hb, hml, hown, hts⟩ (mX6_refusedAsBad l D cs a S_58 L r59 S59 hq59 _) (cwV 0 hts gX6_came_X6_refusedAsBad rfl rfl rfl (by decide +kernel) ⟨Nat.le_of_ble_eq_true rfl, Nat.le_of_ble_eq_true rfl⟩) ⟨k_blind, va_recv hK hP (ci := 4) (q0 := 0) rfl rfl, k_pre hP hK hNn hD⟩ rfl rfl hl.1 rfl (lv_room (Nat.le_of_ble_eq_true rfl)) dX6_came_59 ⟨Nat.le_of_ble_eq_true rfl, Nat.le_of_ble_eq_true rfl⟩) hS hF (fun H locs hP1 hk hS => ?_)
    have hP : va_P D vwCl (wX6 cs a S59 L) _ := hP1
    have hD := hDA S59 L
    obtain ⟨e1, e2⟩ := dn_s2 hd
    exact k_iret hx hb hr hQ hAe e1 (by rw [e2]) hP hS hlocks dX6_came_62
  have Jo30 : ∀ (w0_30 : Int32) (S_30 : Nat → Nat → Int32) (H : Heap) (locs : List Loc) (ls : Array Slot), nX6_came_j30 p1 p2 p3 p4 w0_30 S_30 L = some (r9, S9) → lv_has ls 6 [(0, .ref (a 0)), (1, .int p1), (2, .int p2), (3, .int p3), (4, .int p4)] → va_P D vwCl (wX6 cs a S_30 L) H → va_S A s.heap H locs → W p l e (headSpec wsX6_came ({ frames := 2, cells := 0, slots := 0, locals := 42 })).room s m ([.ref (a 0), .int p1, .int p2, .int p3, .int p4] : List Value).toArray below meth c H locs 0 0 Q (F0 m 30 ls [.int w0_30]) := by
    intro w0_30 S_30 H locs ls hd hl hP hS
    have hD := hDA S_30 L
    unfold nX6_came_j30 at hd
    refine lv_istore (lv' := [(5, .int w0_30), (0, .ref (a 0)), (1, .int p1), (2, .int p2), (3, .int p3), (4, .int p4)]) hx hb dX6_came_30 hl (by decide) rfl (fun ls hl => ?_)
    refine lv_iload hx hb dX6_came_32 (lv_at hl 0 rfl) ?_
    refine lv_if_eq (tgt := 58) hx hb dX6_came_34 (by decide) (fun c34 => ?_) (fun c34 => ?_)
    · have hd := dn_t c34 hd
      exact Jo58 S_30 _ _ _ hd (lv_sub hl [1] rfl) hP hS
    · have hd := dn_f c34 hd
      refine lv_iload_n hx hb dX6_came_37 rfl (lv_at hl 3 rfl) ?_
      refine lv_iload hx hb dX6_came_38 (lv_at hl 5 rfl) ?_
      refine lv_icmp_eq (tgt := 58) hx hb dX6_came_40 (by decide) (fun c40 => ?_) (fun c40 => ?_)
      · have hd := dn_t c40 hd
        exact Jo58 S_30 _ _ _ hd (lv_sub hl [1] rfl) hP hS
      · have hd := dn_f c40 hd
        refine lv_iload hx hb dX6_came_43 (lv_at hl 5 rfl) ?_
        refine lv_iconst (v := (-1 : Int32)) hx hb dX6_came_45 (by decide) ?_
        refine lv_icmp_eq (tgt := 63) hx hb dX6_came_46 (by decide) (fun c46 => ?_) (fun c46 => ?_)
        · have hd := dn_t c46 hd
          exact Jo63 S_30 _ _ _ hd (lv_sub hl [1, 2, 3, 4, 5] rfl) hP hS
        · have hd := dn_f c46 hd
          refine lv_aload_n hx hb dX6_came_49 rfl (lv_at hl 1 rfl) ?_
          refine lv_iload hx hb dX6_came_50 (lv_at hl 5 rfl) ?_
          obtain ⟨r52, hq52, hd⟩ := dn_b1 hd
          have hF := k_self hD hS hA
          refine k_run_i (va_runV (As := [.int p4]) (rest := []) ⟨hx, hb, hml, hown, hts⟩ (mX6_isPerson l D cs a S_30 L p4 r52 hq52 _) (cwV 1 hts gX6_came_X6_isPerson rfl rfl rfl (by decide +kernel) ⟨Nat.le_of_ble_eq_true rfl, Nat.le_of_ble_eq_true rfl⟩) ⟨k_blind, va_recv hK hP (ci := 4) (q0 := 0) rfl rfl, k_pre hP hK hNn hD⟩ rfl rfl hl.1 rfl (lv_room (Nat.le_of_ble_eq_true rfl)) dX6_came_52 ⟨Nat.le_of_ble_eq_true rfl, Nat.le_of_ble_eq_true rfl⟩) hS hF (fun H locs hP1 hk hS => ?_)
          have hP : va_P D vwCl (wX6 cs a S_30 L) _ := hP1
          have hD := hDA S_30 L
          refine lv_if_ne (tgt := 63) hx hb dX6_came_55 (by decide) (fun c55 => ?_) (fun c55 => ?_)
          · have hd := dn_f c55 hd
            exact Jo63 S_30 _ _ _ hd (lv_sub hl [1, 2, 3, 4, 5] rfl) hP hS
          · have hd := dn_t c55 hd
            exact Jo58 S_30 _ _ _ hd (lv_sub hl [1] rfl) hP hS
  have Jo29 : ∀ (S_29 : Nat → Nat → Int32) (H : Heap) (locs : List Loc) (ls : Array Slot), nX6_came_j29 p1 p2 p3 p4 S_29 L = some (r9, S9) → lv_has ls 6 [(0, .ref (a 0)), (1, .int p1), (2, .int p2), (3, .int p3), (4, .int p4)] → va_P D vwCl (wX6 cs a S_29 L) H → va_S A s.heap H locs → W p l e (headSpec wsX6_came ({ frames := 2, cells := 0, slots := 0, locals := 42 })).room s m ([.ref (a 0), .int p1, .int p2, .int p3, .int p4] : List Value).toArray below meth c H locs 0 0 Q (F0 m 29 ls []) := by
    intro S_29 H locs ls hd hl hP hS
    have hD := hDA S_29 L
    unfold nX6_came_j29 at hd
    refine lv_iconst (v := (0 : Int32)) hx hb dX6_came_29 (by decide) ?_
    exact Jo30 (0 : Int32) S_29 _ _ _ hd (lv_sub hl [0, 1, 2, 3, 4] rfl) hP hS
  unfold nX6_came at hd
  refine lv_aload_n hx hb dX6_came_0 rfl (lv_at hl 0 rfl) ?_
  refine lv_iload_n hx hb dX6_came_1 rfl (lv_at hl 1 rfl) ?_
  obtain ⟨r2, hq2, hd⟩ := dn_b1 hd
  have hF := k_self hD hS hA
  refine k_run_i (va_runV (As := [.int p1]) (rest := []) ⟨hx, hb, hml, hown, hts⟩ (mX6_isThing l D cs a S L p1 r2 hq2 _) (cwV 1 hts gX6_came_X6_isThing rfl rfl rfl (by decide +kernel) ⟨Nat.le_of_ble_eq_true rfl, Nat.le_of_ble_eq_true rfl⟩) ⟨k_blind, va_recv hK hP (ci := 4) (q0 := 0) rfl rfl, k_pre hP hK hNn hD⟩ rfl rfl hl.1 rfl (lv_room (Nat.le_of_ble_eq_true rfl)) dX6_came_2 ⟨Nat.le_of_ble_eq_true rfl, Nat.le_of_ble_eq_true rfl⟩) hS hF (fun H locs hP1 hk hS => ?_)
  have hP : va_P D vwCl (wX6 cs a S L) _ := hP1
  have hD := hDA S L
  refine lv_if_eq (tgt := 29) hx hb dX6_came_5 (by decide) (fun c5 => ?_) (fun c5 => ?_)
  · have hd := dn_t c5 hd
    exact Jo29 S _ _ _ hd (lv_sub hl [0, 1, 2, 3, 4] rfl) hP hS
  · have hd := dn_f c5 hd
    refine lv_aload_n hx hb dX6_came_8 rfl (lv_at hl 0 rfl) ?_
    refine lv_iload_n hx hb dX6_came_9 rfl (lv_at hl 2 rfl) ?_
    obtain ⟨r10, hq10, hd⟩ := dn_b1 hd
    have hF := k_self hD hS hA
    refine k_run_i (va_runV (As := [.int p2]) (rest := []) ⟨hx, hb, hml, hown, hts⟩ (mX6_isPerson l D cs a S L p2 r10 hq10 _) (cwV 1 hts gX6_came_X6_isPerson rfl rfl rfl (by decide +kernel) ⟨Nat.le_of_ble_eq_true rfl, Nat.le_of_ble_eq_true rfl⟩) ⟨k_blind, va_recv hK hP (ci := 4) (q0 := 0) rfl rfl, k_pre hP hK hNn hD⟩ rfl rfl hl.1 rfl (lv_room (Nat.le_of_ble_eq_true rfl)) dX6_came_10 ⟨Nat.le_of_ble_eq_true rfl, Nat.le_of_ble_eq_true rfl⟩) hS hF (fun H locs hP1 hk hS => ?_)
    have hP : va_P D vwCl (wX6 cs a S L) _ := hP1
    have hD := hDA S L
    refine lv_if_eq (tgt := 29) hx hb dX6_came_13 (by decide) (fun c13 => ?_) (fun c13 => ?_)
    · have hd := dn_t c13 hd
      exact Jo29 S _ _ _ hd (lv_sub hl [0, 1, 2, 3, 4] rfl) hP hS
    · have hd := dn_f c13 hd
      refine lv_iload_n hx hb dX6_came_16 rfl (lv_at hl 3 rfl) ?_
      refine lv_bipush (v := (100 : Int32)) hx hb dX6_came_17 (by decide) ?_
      obtain ⟨r19, hq19, hd⟩ := dn_b1 hd
      have hPc := k_P0 hP
      have hDc : va_D A ([] : va_W) := k_D0
      have hF := k_self hDc hS hA
      refine k_run_i (va_runS (As := [.int p3, .int (100 : Int32)]) (rest := []) ⟨hx, hb, hml, hown, hts⟩ (mX6_upTo l D cs  p3 (100 : Int32) r19 hq19 _) (va_cwS 2 hts gX6_came_X6_upTo rfl rfl rfl (by decide +kernel) ⟨Nat.le_of_ble_eq_true rfl, Nat.le_of_ble_eq_true rfl⟩) ⟨k_blind, k_pre hPc hK hNn hDc⟩ rfl rfl hl.1 rfl (lv_room (Nat.le_of_ble_eq_true rfl)) dX6_came_19 ⟨Nat.le_of_ble_eq_true rfl, Nat.le_of_ble_eq_true rfl⟩) hS hF (fun H locs hP1 hk hS => ?_)
      have hP : va_P D vwCl (wX6 cs a S L) _ := k_keep hP hk
      refine lv_if_eq (tgt := 29) hx hb dX6_came_22 (by decide) (fun c22 => ?_) (fun c22 => ?_)
      · have hd := dn_t c22 hd
        exact Jo29 S _ _ _ hd (lv_sub hl [0, 1, 2, 3, 4] rfl) hP hS
      · have hd := dn_f c22 hd
        refine lv_iconst (v := (1 : Int32)) hx hb dX6_came_25 (by decide) ?_
        refine lv_goto (tgt := 30) hx hb dX6_came_26 (by decide) ?_
        exact Jo30 (1 : Int32) S _ _ _ hd (lv_sub hl [0, 1, 2, 3, 4] rfl) hP hS
-- LeastNeed.forget(I)I
set_option maxRecDepth 20000 in
def nX6_forget_j34a (S_34a : Nat → Nat → Int32) (L : Nat → Nat → Int64) : Option (Int32 × (Nat → Nat → Int32)) := some ((S_34a 11 3), (k_w S_34a 11 3 (0 : Int32)))
set_option maxRecDepth 20000 in
def nX6_forget_j34 (S_34 : Nat → Nat → Int32) (L : Nat → Nat → Int64) : Option (Int32 × (Nat → Nat → Int32)) := some ((S_34 13 3), (k_w S_34 13 3 (0 : Int32)))
set_option maxRecDepth 20000 in
def nX6_forget (S : Nat → Nat → Int32) (L : Nat → Nat → Int64) (p1 : Int32) : Option (Int32 × (Nat → Nat → Int32)) := k_b1 (nX6_upTo p1 (2 : Int32)) (fun r2 => if r2 = 0 then k_b2 (nX6_refusedAsBad S L) (fun r9 S9 => some (r9, S9)) else if p1 = 0 then nX6_forget_j34a S L else nX6_forget_j34 S L)
set_option maxHeartbeats 4000000 in
set_option maxRecDepth 100000 in
theorem mX6_forget (l : Launch) (D : va_G) (cs : Nat → ClassId) (a : Nat → Nat) (S : Nat → Nat → Int32) (L : Nat → Nat → Int64) (p1 : Int32) (r9 : Int32) (S9 : (Nat → Nat → Int32)) (hd : nX6_forget S L p1 = some (r9, S9)) : ∀ sz : Nat, Met l yX6_forget wsX6_forget ({ frames := 1, cells := 0, slots := 0, locals := 21 }) (k_Pc D cs [.ref (a 0), .int p1] (wX6 cs a S L) sz) (k_Qi D r9 (wX6 cs a S L) (wX6 cs a S9 L) sz) 0 0 (va_A (wX6 cs a S L) sz) := by
  intro sz
  refine Met.ofW (cc := cX6_forget) (maxL := 4) (ret := (some .int)) (by decide) rfl ?_
  intro p e s m args below meth c s₁ B hml hv
  obtain ⟨rfl, hsz, hP, hK, hD0, hNn⟩ := hv
  have hx := B.exec
  have hb := B.bytes
  have hr := B.returns
  have hts := atoms_spec (ws := wsX6_forget) B.pre
  have hown : s.vm.findClass RX6 = some m.cls := findClass_of_methodNamed B.named
  have hlocks := B.notSynchronized
  subst hsz
  obtain ⟨A, hAe⟩ : ∃ A : Nat → Prop, A = va_A (wX6 cs a S L) s.heap.size := ⟨_, rfl⟩
  have hD : va_D A (wX6 cs a S L) := by rw [hAe]; exact hD0.self
  have hA : ∀ q : Nat, s.heap.size ≤ q → A q := fun q h => by rw [hAe]; exact Or.inr h
  have hS : va_S A s.heap s.heap [] := va_S.rf
  have hDA : ∀ (S : Nat → Nat → Int32) (L : Nat → Nat → Int64), va_D A (wX6 cs a S L) := fun S L => k_DA hD rfl
  have hl := lv_entry ([.ref (a 0), .int p1]) (n := 4) (Nat.le_of_ble_eq_true rfl)
  rw [lg_entry_eq]
  generalize (lg_sl ([.ref (a 0), .int p1]) ++ List.replicate (4 - (lg_sl ([.ref (a 0), .int p1])).length) Slot.unset).toArray = ls at hl ⊢
  have hl : lv_has ls 4 [(0, .ref (a 0)), (1, .int p1)] := hl
  obtain ⟨Q, hQ⟩ : ∃ Q, Q = MQ below (k_Qi D r9 (wX6 cs a S L) (wX6 cs a S9 L) s.heap.size) ([.ref (a 0), .int p1] : List Value).toArray s 0 0 (va_A (wX6 cs a S L) s.heap.size) := ⟨_, rfl⟩
  rw [← hQ]
  have Jo34a : ∀ (S_34a : Nat → Nat → Int32) (H : Heap) (locs : List Loc) (ls : Array Slot), nX6_forget_j34a S_34a L = some (r9, S9) → lv_has ls 4 [] → va_P D vwCl (wX6 cs a S_34a L) H → va_S A s.heap H locs → W p l e (headSpec wsX6_forget ({ frames := 1, cells := 0, slots := 0, locals := 21 })).room s m ([.ref (a 0), .int p1] : List Value).toArray below meth c H locs 0 0 Q (F0 m 34 ls [.ref (a 11)]) := by
    intro S_34a H locs ls hd hl hP hS
    have hD := hDA S_34a L
    unfold nX6_forget_j34a at hd
    refine lv_astore_n (lv' := [(2, .ref (a 11))]) hx hb dX6_forget_34 rfl hl (by decide) rfl (fun ls hl => ?_)
    refine lv_aload_n hx hb dX6_forget_35 rfl (lv_at hl 0 rfl) ?_
    refine va_get (D := D) (ci := 2) (v := .int (S_34a 11 3)) (C := RX3) (T := TX3) (N := 4) hx hb hts (fun w h => List.mem_cons_of_mem _ (List.mem_append_right _ h)) hown hK hP 11 rfl rfl 3 (by decide) (hts (.fieldLink RX6 150 "LeastNeed$Rows" "used" "I") (List.mem_of_getElem? (i := 4) rfl)) (fun _ h9 => h9) rfl dX6_forget_36 ?_
    refine lv_istore_n (lv' := [(3, .int (S_34a 11 3)), (2, .ref (a 11))]) hx hb dX6_forget_39 rfl hl (by decide) rfl (fun ls hl => ?_)
    refine lv_aload_n hx hb dX6_forget_40 rfl (lv_at hl 1 rfl) ?_
    refine lv_iconst (v := (0 : Int32)) hx hb dX6_forget_41 (by decide) ?_
    refine va_put (D := D) (ci := 2) (v := .int (0 : Int32)) (ty := .int) (C := RX3) (T := TX3) (N := 4) hx hb hts (fun w h => List.mem_cons_of_mem _ (List.mem_append_right _ h)) tyX3 tyX3_ok nmX3 hown hK hP hD hS 11 rfl rfl 3 (by decide) (hts (.fieldLink RX6 150 "LeastNeed$Rows" "used" "I") (List.mem_of_getElem? (i := 4) rfl)) (fun _ h9 => h9) rfl (by decide +kernel) rfl rfl (Nat.le_of_ble_eq_true rfl) dX6_forget_42 (fun H locs hP hD hS => ?_)
    have hP : va_P D vwCl (wX6 cs a (k_w S_34a 11 3 (0 : Int32)) L) _ := k_eq hP (wsX6_f11_3 cs a S_34a L (0 : Int32))
    have hD := hDA (k_w S_34a 11 3 (0 : Int32)) L
    refine lv_iload_n hx hb dX6_forget_45 rfl (lv_at hl 0 rfl) ?_
    obtain ⟨e1, e2⟩ := dn_s2 hd
    exact k_iret hx hb hr hQ hAe e1 (by rw [e2]) hP hS hlocks dX6_forget_46
  have Jo34 : ∀ (S_34 : Nat → Nat → Int32) (H : Heap) (locs : List Loc) (ls : Array Slot), nX6_forget_j34 S_34 L = some (r9, S9) → lv_has ls 4 [] → va_P D vwCl (wX6 cs a S_34 L) H → va_S A s.heap H locs → W p l e (headSpec wsX6_forget ({ frames := 1, cells := 0, slots := 0, locals := 21 })).room s m ([.ref (a 0), .int p1] : List Value).toArray below meth c H locs 0 0 Q (F0 m 34 ls [.ref (a 13)]) := by
    intro S_34 H locs ls hd hl hP hS
    have hD := hDA S_34 L
    unfold nX6_forget_j34 at hd
    refine lv_astore_n (lv' := [(2, .ref (a 13))]) hx hb dX6_forget_34 rfl hl (by decide) rfl (fun ls hl => ?_)
    refine lv_aload_n hx hb dX6_forget_35 rfl (lv_at hl 0 rfl) ?_
    refine va_get (D := D) (ci := 2) (v := .int (S_34 13 3)) (C := RX3) (T := TX3) (N := 4) hx hb hts (fun w h => List.mem_cons_of_mem _ (List.mem_append_right _ h)) hown hK hP 13 rfl rfl 3 (by decide) (hts (.fieldLink RX6 150 "LeastNeed$Rows" "used" "I") (List.mem_of_getElem? (i := 4) rfl)) (fun _ h9 => h9) rfl dX6_forget_36 ?_
    refine lv_istore_n (lv' := [(3, .int (S_34 13 3)), (2, .ref (a 13))]) hx hb dX6_forget_39 rfl hl (by decide) rfl (fun ls hl => ?_)
    refine lv_aload_n hx hb dX6_forget_40 rfl (lv_at hl 1 rfl) ?_
    refine lv_iconst (v := (0 : Int32)) hx hb dX6_forget_41 (by decide) ?_
    refine va_put (D := D) (ci := 2) (v := .int (0 : Int32)) (ty := .int) (C := RX3) (T := TX3) (N := 4) hx hb hts (fun w h => List.mem_cons_of_mem _ (List.mem_append_right _ h)) tyX3 tyX3_ok nmX3 hown hK hP hD hS 13 rfl rfl 3 (by decide) (hts (.fieldLink RX6 150 "LeastNeed$Rows" "used" "I") (List.mem_of_getElem? (i := 4) rfl)) (fun _ h9 => h9) rfl (by decide +kernel) rfl rfl (Nat.le_of_ble_eq_true rfl) dX6_forget_42 (fun H locs hP hD hS => ?_)
    have hP : va_P D vwCl (wX6 cs a (k_w S_34 13 3 (0 : Int32)) L) _ := k_eq hP (wsX6_f13_3 cs a S_34 L (0 : Int32))
    have hD := hDA (k_w S_34 13 3 (0 : Int32)) L
    refine lv_iload_n hx hb dX6_forget_45 rfl (lv_at hl 0 rfl) ?_
    obtain ⟨e1, e2⟩ := dn_s2 hd
    exact k_iret hx hb hr hQ hAe e1 (by rw [e2]) hP hS hlocks dX6_forget_46
  unfold nX6_forget at hd
  refine lv_iload_n hx hb dX6_forget_0 rfl (lv_at hl 1 rfl) ?_
  refine lv_iconst (v := (2 : Int32)) hx hb dX6_forget_1 (by decide) ?_
  obtain ⟨r2, hq2, hd⟩ := dn_b1 hd
  have hPc := k_P0 hP
  have hDc : va_D A ([] : va_W) := k_D0
  have hF := k_self hDc hS hA
  refine k_run_i (va_runS (As := [.int p1, .int (2 : Int32)]) (rest := []) ⟨hx, hb, hml, hown, hts⟩ (mX6_upTo l D cs  p1 (2 : Int32) r2 hq2 _) (va_cwS 2 hts gX6_forget_X6_upTo rfl rfl rfl (by decide +kernel) ⟨Nat.le_of_ble_eq_true rfl, Nat.le_of_ble_eq_true rfl⟩) ⟨k_blind, k_pre hPc hK hNn hDc⟩ rfl rfl hl.1 rfl (lv_room (Nat.le_of_ble_eq_true rfl)) dX6_forget_2 ⟨Nat.le_of_ble_eq_true rfl, Nat.le_of_ble_eq_true rfl⟩) hS hF (fun H locs hP1 hk hS => ?_)
  have hP : va_P D vwCl (wX6 cs a S L) _ := k_keep hP hk
  refine lv_if_ne (tgt := 13) hx hb dX6_forget_5 (by decide) (fun c5 => ?_) (fun c5 => ?_)
  · have hd := dn_f c5 hd
    refine lv_iload_n hx hb dX6_forget_13 rfl (lv_at hl 1 rfl) ?_
    refine lv_if_ne (tgt := 27) hx hb dX6_forget_14 (by decide) (fun c14 => ?_) (fun c14 => ?_)
    · have hd := dn_f c14 hd
      refine lv_aload_n hx hb dX6_forget_27 rfl (lv_at hl 0 rfl) ?_
      refine va_get (D := D) (ci := 4) (v := .ref (a 1)) (C := RX6) (T := TX6) (N := 12) hx hb hts (fun w h => List.mem_cons_of_mem _ (List.mem_append_left _ (List.mem_append_left _ (List.mem_append_right _ h)))) hown hK hP 0 rfl rfl 0 (by decide) (hts (.fieldLink RX6 12 "LeastNeed" "now" "LLeastNeed$Valley;") (List.mem_of_getElem? (i := 1) rfl)) (fun _ h9 => h9) rfl dX6_forget_28 ?_
      refine va_get (D := D) (ci := 3) (v := .ref (a 13)) (C := RX5) (T := TX5) (N := 15) hx hb hts (fun w h => List.mem_cons_of_mem _ (List.mem_append_left _ (List.mem_append_right _ h))) hown hK hP 1 rfl rfl 10 (by decide) (hts (.fieldLink RX6 211 "LeastNeed$Valley" "cames" "LLeastNeed$Rows;") (List.mem_of_getElem? (i := 3) rfl)) (fun _ h9 => h9) rfl dX6_forget_31 ?_
      exact Jo34 S _ _ _ hd (lv_sub hl [] rfl) hP hS
    · have hd := dn_t c14 hd
      refine lv_aload_n hx hb dX6_forget_17 rfl (lv_at hl 0 rfl) ?_
      refine va_get (D := D) (ci := 4) (v := .ref (a 1)) (C := RX6) (T := TX6) (N := 12) hx hb hts (fun w h => List.mem_cons_of_mem _ (List.mem_append_left _ (List.mem_append_left _ (List.mem_append_right _ h)))) hown hK hP 0 rfl rfl 0 (by decide) (hts (.fieldLink RX6 12 "LeastNeed" "now" "LLeastNeed$Valley;") (List.mem_of_getElem? (i := 1) rfl)) (fun _ h9 => h9) rfl dX6_forget_18 ?_
      refine va_get (D := D) (ci := 3) (v := .ref (a 11)) (C := RX5) (T := TX5) (N := 15) hx hb hts (fun w h => List.mem_cons_of_mem _ (List.mem_append_left _ (List.mem_append_right _ h))) hown hK hP 1 rfl rfl 9 (by decide) (hts (.fieldLink RX6 198 "LeastNeed$Valley" "notes" "LLeastNeed$Rows;") (List.mem_of_getElem? (i := 2) rfl)) (fun _ h9 => h9) rfl dX6_forget_21 ?_
      refine lv_goto (tgt := 34) hx hb dX6_forget_24 (by decide) ?_
      exact Jo34a S _ _ _ hd (lv_sub hl [] rfl) hP hS
  · have hd := dn_t c5 hd
    refine lv_aload_n hx hb dX6_forget_8 rfl (lv_at hl 0 rfl) ?_
    obtain ⟨r9, S9, hq9, hd⟩ := dn_b2 hd
    have hF := k_self hD hS hA
    refine k_run_i (va_runV (As := []) (rest := []) ⟨hx, hb, hml, hown, hts⟩ (mX6_refusedAsBad l D cs a S L r9 S9 hq9 _) (cwV 0 hts gX6_forget_X6_refusedAsBad rfl rfl rfl (by decide +kernel) ⟨Nat.le_of_ble_eq_true rfl, Nat.le_of_ble_eq_true rfl⟩) ⟨k_blind, va_recv hK hP (ci := 4) (q0 := 0) rfl rfl, k_pre hP hK hNn hD⟩ rfl rfl hl.1 rfl (lv_room (Nat.le_of_ble_eq_true rfl)) dX6_forget_9 ⟨Nat.le_of_ble_eq_true rfl, Nat.le_of_ble_eq_true rfl⟩) hS hF (fun H locs hP1 hk hS => ?_)
    have hP : va_P D vwCl (wX6 cs a S9 L) _ := hP1
    have hD := hDA S9 L
    obtain ⟨e1, e2⟩ := dn_s2 hd
    exact k_iret hx hb hr hQ hAe e1 (by rw [e2]) hP hS hlocks dX6_forget_12
-- LeastNeed.is(I)I
set_option maxRecDepth 20000 in
def nX6_is (S : Nat → Nat → Int32) (L : Nat → Nat → Int64) (p1 : Int32) : Option (Int32 × (Nat → Nat → Int32)) := k_b1 (nX6_isPerson S L p1) (fun r2 => if r2 = 0 then k_b2 (nX6_refusedAsBad S L) (fun r9 S9 => some (r9, S9)) else k_b1 (nX5_kindsByNotes (k_wi S 1) p1) (fun r18 => some (r18, S)))
set_option maxHeartbeats 4000000 in
set_option maxRecDepth 100000 in
theorem mX6_is (l : Launch) (D : va_G) (cs : Nat → ClassId) (a : Nat → Nat) (S : Nat → Nat → Int32) (L : Nat → Nat → Int64) (p1 : Int32) (r9 : Int32) (S9 : (Nat → Nat → Int32)) (hd : nX6_is S L p1 = some (r9, S9)) : ∀ sz : Nat, Met l yX6_is wsX6_is ({ frames := 3, cells := 0, slots := 0, locals := 74 }) (k_Pc D cs [.ref (a 0), .int p1] (wX6 cs a S L) sz) (k_Qi D r9 (wX6 cs a S L) (wX6 cs a S9 L) sz) 0 0 (va_A (wX6 cs a S L) sz) := by
  intro sz
  refine Met.ofW (cc := cX6_is) (maxL := 2) (ret := (some .int)) (by decide) rfl ?_
  intro p e s m args below meth c s₁ B hml hv
  obtain ⟨rfl, hsz, hP, hK, hD0, hNn⟩ := hv
  have hx := B.exec
  have hb := B.bytes
  have hr := B.returns
  have hts := atoms_spec (ws := wsX6_is) B.pre
  have hown : s.vm.findClass RX6 = some m.cls := findClass_of_methodNamed B.named
  have hlocks := B.notSynchronized
  subst hsz
  obtain ⟨A, hAe⟩ : ∃ A : Nat → Prop, A = va_A (wX6 cs a S L) s.heap.size := ⟨_, rfl⟩
  have hD : va_D A (wX6 cs a S L) := by rw [hAe]; exact hD0.self
  have hA : ∀ q : Nat, s.heap.size ≤ q → A q := fun q h => by rw [hAe]; exact Or.inr h
  have hS : va_S A s.heap s.heap [] := va_S.rf
  have hDA : ∀ (S : Nat → Nat → Int32) (L : Nat → Nat → Int64), va_D A (wX6 cs a S L) := fun S L => k_DA hD rfl
  have hl := lv_entry ([.ref (a 0), .int p1]) (n := 2) (Nat.le_of_ble_eq_true rfl)
  rw [lg_entry_eq]
  generalize (lg_sl ([.ref (a 0), .int p1]) ++ List.replicate (2 - (lg_sl ([.ref (a 0), .int p1])).length) Slot.unset).toArray = ls at hl ⊢
  have hl : lv_has ls 2 [(0, .ref (a 0)), (1, .int p1)] := hl
  obtain ⟨Q, hQ⟩ : ∃ Q, Q = MQ below (k_Qi D r9 (wX6 cs a S L) (wX6 cs a S9 L) s.heap.size) ([.ref (a 0), .int p1] : List Value).toArray s 0 0 (va_A (wX6 cs a S L) s.heap.size) := ⟨_, rfl⟩
  rw [← hQ]
  unfold nX6_is at hd
  refine lv_aload_n hx hb dX6_is_0 rfl (lv_at hl 0 rfl) ?_
  refine lv_iload_n hx hb dX6_is_1 rfl (lv_at hl 1 rfl) ?_
  obtain ⟨r2, hq2, hd⟩ := dn_b1 hd
  have hF := k_self hD hS hA
  refine k_run_i (va_runV (As := [.int p1]) (rest := []) ⟨hx, hb, hml, hown, hts⟩ (mX6_isPerson l D cs a S L p1 r2 hq2 _) (cwV 1 hts gX6_is_X6_isPerson rfl rfl rfl (by decide +kernel) ⟨Nat.le_of_ble_eq_true rfl, Nat.le_of_ble_eq_true rfl⟩) ⟨k_blind, va_recv hK hP (ci := 4) (q0 := 0) rfl rfl, k_pre hP hK hNn hD⟩ rfl rfl hl.1 rfl (lv_room (Nat.le_of_ble_eq_true rfl)) dX6_is_2 ⟨Nat.le_of_ble_eq_true rfl, Nat.le_of_ble_eq_true rfl⟩) hS hF (fun H locs hP1 hk hS => ?_)
  have hP : va_P D vwCl (wX6 cs a S L) _ := hP1
  have hD := hDA S L
  refine lv_if_ne (tgt := 13) hx hb dX6_is_5 (by decide) (fun c5 => ?_) (fun c5 => ?_)
  · have hd := dn_f c5 hd
    refine lv_aload_n hx hb dX6_is_13 rfl (lv_at hl 0 rfl) ?_
    refine va_get (D := D) (ci := 4) (v := .ref (a 1)) (C := RX6) (T := TX6) (N := 12) hx hb hts (fun w h => List.mem_cons_of_mem _ (List.mem_append_left _ (List.mem_append_left _ (List.mem_append_right _ h)))) hown hK hP 0 rfl rfl 0 (by decide) (hts (.fieldLink RX6 12 "LeastNeed" "now" "LLeastNeed$Valley;") (List.mem_of_getElem? (i := 1) rfl)) (fun _ h9 => h9) rfl dX6_is_14 ?_
    refine lv_iload_n hx hb dX6_is_17 rfl (lv_at hl 1 rfl) ?_
    obtain ⟨r18, hq18, hd⟩ := dn_b1 hd
    have hPc : va_P D vwCl (wX5 cs (k_wi a 1) (k_wi S 1)) _ := k_sub hP [1, 2, 3, 4, 5, 6, 7, 8, 9, 10, 11, 12, 13, 14, 15, 16] (wcX6_X5_1 cs a S L)
    have hDc : va_D A (wX5 cs (k_wi a 1) (k_wi S 1)) := hD.sub [1, 2, 3, 4, 5, 6, 7, 8, 9, 10, 11, 12, 13, 14, 15, 16] (by decide) (wcX6_X5_1 cs a S L)
    have hF := k_self hDc hS hA
    refine k_run_i (va_runV (As := [.int p1]) (rest := []) ⟨hx, hb, hml, hown, hts⟩ (mX5_kindsByNotes l D cs (k_wi a 1) (k_wi S 1) p1 r18 hq18 _) (cwV 1 hts gX6_is_X5_kindsByNotes rfl rfl rfl (by decide +kernel) ⟨Nat.le_of_ble_eq_true rfl, Nat.le_of_ble_eq_true rfl⟩) ⟨k_blind, va_recv hK hP (ci := 3) (q0 := 1) rfl rfl, k_pre hPc hK hNn hDc⟩ rfl rfl hl.1 rfl (lv_room (Nat.le_of_ble_eq_true rfl)) dX6_is_18 ⟨Nat.le_of_ble_eq_true rfl, Nat.le_of_ble_eq_true rfl⟩) hS hF (fun H locs hP1 hk hS => ?_)
    have hP : va_P D vwCl (wX6 cs a S L) _ := k_back hP hD [1, 2, 3, 4, 5, 6, 7, 8, 9, 10, 11, 12, 13, 14, 15, 16] [0, 17, 18, 19, 20, 21, 22, 23, 24, 25, 26, 27, 28, 29, 30, 31, 32, 33, 34, 35, 36, 37, 38, 39, 40, 41, 42, 43, 44, 45, 46, 47, 48, 49, 50, 51, 52, 53, 54, 55, 56, 57, 58, 59, 60, 61, 62, 63, 64, 65, 66, 67, 68, 69, 70, 71, 72, 73, 74, 75, 76, 77, 78] [0, 63, 64, 65, 66, 67, 68, 69, 70, 71, 72, 73, 74, 75, 76, 77, 78, 1, 2, 3, 4, 5, 6, 7, 8, 9, 10, 11, 12, 13, 14, 15, 16, 17, 18, 19, 20, 21, 22, 23, 24, 25, 26, 27, 28, 29, 30, 31, 32, 33, 34, 35, 36, 37, 38, 39, 40, 41, 42, 43, 44, 45, 46, 47, 48, 49, 50, 51, 52, 53, 54, 55, 56, 57, 58, 59, 60, 61, 62] (wcX6_X5_1 cs a S L) (by decide) hk hP1 (wbX6_X5_1 cs a S L)
    have hD := hDA S L
    obtain ⟨e1, e2⟩ := dn_s2 hd
    exact k_iret hx hb hr hQ hAe e1 (by rw [e2]) hP hS hlocks dX6_is_21
  · have hd := dn_t c5 hd
    refine lv_aload_n hx hb dX6_is_8 rfl (lv_at hl 0 rfl) ?_
    obtain ⟨r9, S9, hq9, hd⟩ := dn_b2 hd
    have hF := k_self hD hS hA
    refine k_run_i (va_runV (As := []) (rest := []) ⟨hx, hb, hml, hown, hts⟩ (mX6_refusedAsBad l D cs a S L r9 S9 hq9 _) (cwV 0 hts gX6_is_X6_refusedAsBad rfl rfl rfl (by decide +kernel) ⟨Nat.le_of_ble_eq_true rfl, Nat.le_of_ble_eq_true rfl⟩) ⟨k_blind, va_recv hK hP (ci := 4) (q0 := 0) rfl rfl, k_pre hP hK hNn hD⟩ rfl rfl hl.1 rfl (lv_room (Nat.le_of_ble_eq_true rfl)) dX6_is_9 ⟨Nat.le_of_ble_eq_true rfl, Nat.le_of_ble_eq_true rfl⟩) hS hF (fun H locs hP1 hk hS => ?_)
    have hP : va_P D vwCl (wX6 cs a S9 L) _ := hP1
    have hD := hDA S9 L
    obtain ⟨e1, e2⟩ := dn_s2 hd
    exact k_iret hx hb hr hQ hAe e1 (by rw [e2]) hP hS hlocks dX6_is_12
-- LeastNeed.mostAlike([II)I
set_option maxRecDepth 20000 in
def nX6_mostAlike_i4_l16 (N : Nat) (p1 : Int32) (x2_16 : Int32) (x3_16 : Int32) (x4_16 : Int32) (x5_16 : Int32) (S : Nat → Nat → Int32) : Option ((Int32 × Int32) ⊕ ((Int32 × Int32) ⊕ (Int32))) := if (Int32.ofNat N) ≤ x5_16 then k_up (if ((p1 >>> (x3_16 &&& 31)) &&& (1 : Int32)) = (1 : Int32) then if x4_16 ≤ x2_16 then some (.inl (x2_16, (x3_16 + (1 : Int32)))) else some (.inl (x4_16, (x3_16 + (1 : Int32)))) else some (.inl (x2_16, (x3_16 + (1 : Int32))))) else if ((p1 >>> (x5_16 &&& 31)) &&& (1 : Int32)) = (1 : Int32) then if x5_16 < 0 ∨ N ≤ x5_16.toNatClampNeg then none else if x3_16 < 0 ∨ N ≤ x3_16.toNatClampNeg then none else if (S 0 x5_16.toNatClampNeg) = (S 0 x3_16.toNatClampNeg) then some (.inl ((x4_16 + (1 : Int32)), (x5_16 + (1 : Int32)))) else some (.inl (x4_16, (x5_16 + (1 : Int32)))) else some (.inl (x4_16, (x5_16 + (1 : Int32))))
set_option maxRecDepth 20000 in
def nX6_mostAlike_l4 (N : Nat) (p1 : Int32) (x2_4 : Int32) (x3_4 : Int32) (S : Nat → Nat → Int32) : Option ((Int32 × Int32) ⊕ (Int32)) := if (Int32.ofNat N) ≤ x3_4 then k_up (some x2_4) else k_it (fun st => nX6_mostAlike_i4_l16 N p1 x2_4 x3_4 st.1 st.2 S) 1000 ((0 : Int32), (0 : Int32))
set_option maxRecDepth 20000 in
def nX6_mostAlike (N : Nat) (S : Nat → Nat → Int32) (p1 : Int32) : Option (Int32) := k_it (fun st => nX6_mostAlike_l4 N p1 st.1 st.2 S) 1000 ((0 : Int32), (0 : Int32))
set_option maxHeartbeats 4000000 in
set_option maxRecDepth 100000 in
theorem mX6_mostAlike (l : Launch) (D : va_G) (cs : Nat → ClassId) (a : Nat → Nat) (N : Nat) (S : Nat → Nat → Int32) (p1 : Int32) (r9 : Int32) (hd : nX6_mostAlike N S p1 = some r9) : ∀ sz : Nat, Met l yX6_mostAlike wsX6_mostAlike ({ frames := 0, cells := 0, slots := 0, locals := 0 }) (k_Pc D cs [.ref (a 0), .int p1] (wAI cs N a S) sz) (k_Qi D r9 (wAI cs N a S) (wAI cs N a S) sz) 0 0 (va_A (wAI cs N a S) sz) := by
  intro sz
  refine Met.ofW (cc := cX6_mostAlike) (maxL := 6) (ret := (some .int)) (by decide) rfl ?_
  intro p e s m args below meth c s₁ B hml hv
  obtain ⟨rfl, hsz, hP, hK, hD0, hNn⟩ := hv
  have hx := B.exec
  have hb := B.bytes
  have hr := B.returns
  have hts := atoms_spec (ws := wsX6_mostAlike) B.pre
  have hown : s.vm.findClass RX6 = some m.cls := findClass_of_methodNamed B.named
  have hlocks := B.notSynchronized
  subst hsz
  obtain ⟨A, hAe⟩ : ∃ A : Nat → Prop, A = va_A (wAI cs N a S) s.heap.size := ⟨_, rfl⟩
  have hD : va_D A (wAI cs N a S) := by rw [hAe]; exact hD0.self
  have hA : ∀ q : Nat, s.heap.size ≤ q → A q := fun q h => by rw [hAe]; exact Or.inr h
  have hS : va_S A s.heap s.heap [] := va_S.rf
  have hDA : ∀ (S : Nat → Nat → Int32), va_D A (wAI cs N a S) := fun S => k_DA hD rfl
  have hl := lv_entry ([.ref (a 0), .int p1]) (n := 6) (Nat.le_of_ble_eq_true rfl)
  rw [lg_entry_eq]
  generalize (lg_sl ([.ref (a 0), .int p1]) ++ List.replicate (6 - (lg_sl ([.ref (a 0), .int p1])).length) Slot.unset).toArray = ls at hl ⊢
  have hl : lv_has ls 6 [(0, .ref (a 0)), (1, .int p1)] := hl
  obtain ⟨Q, hQ⟩ : ∃ Q, Q = MQ below (k_Qi D r9 (wAI cs N a S) (wAI cs N a S) s.heap.size) ([.ref (a 0), .int p1] : List Value).toArray s 0 0 (va_A (wAI cs N a S) s.heap.size) := ⟨_, rfl⟩
  rw [← hQ]
  have Lo4 : ∀ (n1 : Nat) (x2_4 : Int32) (x3_4 : Int32) (H : Heap) (locs : List Loc) (ls : Array Slot), k_it (fun st => nX6_mostAlike_l4 N p1 st.1 st.2 S) n1 (x2_4, x3_4) = some r9 → lv_has ls 6 [(0, .ref (a 0)), (1, .int p1), (2, .int x2_4), (3, .int x3_4)] → va_P D vwCl (wAI cs N a S) H → va_S A s.heap H locs → W p l e (headSpec wsX6_mostAlike ({ frames := 0, cells := 0, slots := 0, locals := 0 })).room s m ([.ref (a 0), .int p1] : List Value).toArray below meth c H locs 0 0 Q (F0 m 4 ls []) := by
    intro n1
    induction n1 with
    | zero => intro x2_4 x3_4 H locs ls hd; exact dn_it0 hd
    | succ n1 ih1 =>
      intro x2_4 x3_4 H locs ls hd hl hP hS
      have hD := hDA S
      obtain ⟨y1, hd, hy1⟩ := dn_it hd
      have hd : nX6_mostAlike_l4 N p1 x2_4 x3_4 S = some y1 := hd
      have Lo16 : ∀ (n2 : Nat) (x2_16 : Int32) (x3_16 : Int32) (x4_16 : Int32) (x5_16 : Int32) (H : Heap) (locs : List Loc) (ls : Array Slot), k_it (fun st => nX6_mostAlike_i4_l16 N p1 x2_16 x3_16 st.1 st.2 S) n2 (x4_16, x5_16) = some y1 → lv_has ls 6 [(0, .ref (a 0)), (1, .int p1), (2, .int x2_16), (3, .int x3_16), (4, .int x4_16), (5, .int x5_16)] → va_P D vwCl (wAI cs N a S) H → va_S A s.heap H locs → W p l e (headSpec wsX6_mostAlike ({ frames := 0, cells := 0, slots := 0, locals := 0 })).room s m ([.ref (a 0), .int p1] : List Value).toArray below meth c H locs 0 0 Q (F0 m 16 ls []) := by
        intro n2
        induction n2 with
        | zero => intro x2_16 x3_16 x4_16 x5_16 H locs ls hd; exact dn_it0 hd
        | succ n2 ih2 =>
          intro x2_16 x3_16 x4_16 x5_16 H locs ls hd hl hP hS
          have hD := hDA S
          obtain ⟨y2, hd, hy2⟩ := dn_it hd
          have hd : nX6_mostAlike_i4_l16 N p1 x2_16 x3_16 x4_16 x5_16 S = some y2 := hd
          unfold nX6_mostAlike_i4_l16 at hd
          refine lv_iload hx hb dX6_mostAlike_16 (lv_at hl 5 rfl) ?_
          refine lv_aload_n hx hb dX6_mostAlike_18 rfl (lv_at hl 0 rfl) ?_
          refine va_alen (D := D) (v := Int32.ofNat N) hx hb hK hP 0 1 rfl rfl rfl dX6_mostAlike_19 ?_
          refine lv_icmp_ge (tgt := 52) hx hb dX6_mostAlike_20 (by decide) (fun c20 => ?_) (fun c20 => ?_)
          · have hd := dn_t c20 hd
            have hd := dn_up hd hy2
            refine lv_iload_n hx hb dX6_mostAlike_52 rfl (lv_at hl 1 rfl) ?_
            refine lv_iload_n hx hb dX6_mostAlike_53 rfl (lv_at hl 3 rfl) ?_
            refine lv_ishr hx hb dX6_mostAlike_54 ?_
            refine lv_iconst (v := (1 : Int32)) hx hb dX6_mostAlike_55 (by decide) ?_
            refine lv_iand hx hb dX6_mostAlike_56 ?_
            refine lv_iconst (v := (1 : Int32)) hx hb dX6_mostAlike_57 (by decide) ?_
            refine lv_icmp_ne (tgt := 70) hx hb dX6_mostAlike_58 (by decide) (fun c58 => ?_) (fun c58 => ?_)
            · have hd := dn_f c58 hd
              refine lv_iinc (v := x3_16 + (1 : Int32)) (lv' := [(3, .int (x3_16 + (1 : Int32))), (0, .ref (a 0)), (1, .int p1), (2, .int x2_16), (4, .int x4_16), (5, .int x5_16)]) hx hb dX6_mostAlike_70 hl (k := 3) rfl rfl (by decide) rfl (fun ls hl => ?_)
              refine lv_goto (tgt := 4) hx hb dX6_mostAlike_73 (by decide) ?_
              exact ih1 x2_16 (x3_16 + (1 : Int32)) _ _ _ (dn_bk hd hy1) (lv_sub hl [1, 2, 3, 0] rfl) hP hS
            · have hd := dn_t c58 hd
              refine lv_iload hx hb dX6_mostAlike_61 (lv_at hl 4 rfl) ?_
              refine lv_iload_n hx hb dX6_mostAlike_63 rfl (lv_at hl 2 rfl) ?_
              refine lv_icmp_le (tgt := 70) hx hb dX6_mostAlike_64 (by decide) (fun c64 => ?_) (fun c64 => ?_)
              · have hd := dn_t c64 hd
                refine lv_iinc (v := x3_16 + (1 : Int32)) (lv' := [(3, .int (x3_16 + (1 : Int32))), (0, .ref (a 0)), (1, .int p1), (2, .int x2_16), (4, .int x4_16), (5, .int x5_16)]) hx hb dX6_mostAlike_70 hl (k := 3) rfl rfl (by decide) rfl (fun ls hl => ?_)
                refine lv_goto (tgt := 4) hx hb dX6_mostAlike_73 (by decide) ?_
                exact ih1 x2_16 (x3_16 + (1 : Int32)) _ _ _ (dn_bk hd hy1) (lv_sub hl [1, 2, 3, 0] rfl) hP hS
              · have hd := dn_f c64 hd
                refine lv_iload hx hb dX6_mostAlike_67 (lv_at hl 4 rfl) ?_
                refine lv_istore_n (lv' := [(2, .int x4_16), (0, .ref (a 0)), (1, .int p1), (3, .int x3_16), (4, .int x4_16), (5, .int x5_16)]) hx hb dX6_mostAlike_69 rfl hl (by decide) rfl (fun ls hl => ?_)
                refine lv_iinc (v := x3_16 + (1 : Int32)) (lv' := [(3, .int (x3_16 + (1 : Int32))), (2, .int x4_16), (0, .ref (a 0)), (1, .int p1), (4, .int x4_16), (5, .int x5_16)]) hx hb dX6_mostAlike_70 hl (k := 3) rfl rfl (by decide) rfl (fun ls hl => ?_)
                refine lv_goto (tgt := 4) hx hb dX6_mostAlike_73 (by decide) ?_
                exact ih1 x4_16 (x3_16 + (1 : Int32)) _ _ _ (dn_bk hd hy1) (lv_sub hl [2, 3, 1, 0] rfl) hP hS
          · have hd := dn_f c20 hd
            refine lv_iload_n hx hb dX6_mostAlike_23 rfl (lv_at hl 1 rfl) ?_
            refine lv_iload hx hb dX6_mostAlike_24 (lv_at hl 5 rfl) ?_
            refine lv_ishr hx hb dX6_mostAlike_26 ?_
            refine lv_iconst (v := (1 : Int32)) hx hb dX6_mostAlike_27 (by decide) ?_
            refine lv_iand hx hb dX6_mostAlike_28 ?_
            refine lv_iconst (v := (1 : Int32)) hx hb dX6_mostAlike_29 (by decide) ?_
            refine lv_icmp_ne (tgt := 46) hx hb dX6_mostAlike_30 (by decide) (fun c30 => ?_) (fun c30 => ?_)
            · have hd := dn_f c30 hd
              refine lv_iinc (v := x5_16 + (1 : Int32)) (lv' := [(5, .int (x5_16 + (1 : Int32))), (0, .ref (a 0)), (1, .int p1), (2, .int x2_16), (3, .int x3_16), (4, .int x4_16)]) hx hb dX6_mostAlike_46 hl (k := 5) rfl rfl (by decide) rfl (fun ls hl => ?_)
              refine lv_goto (tgt := 16) hx hb dX6_mostAlike_49 (by decide) ?_
              exact ih2 x2_16 x3_16 x4_16 (x5_16 + (1 : Int32)) _ _ _ (dn_bk hd hy2) (lv_sub hl [1, 2, 3, 4, 5, 0] rfl) hP hS
            · have hd := dn_t c30 hd
              refine lv_aload_n hx hb dX6_mostAlike_33 rfl (lv_at hl 0 rfl) ?_
              refine lv_iload hx hb dX6_mostAlike_34 (lv_at hl 5 rfl) ?_
              obtain ⟨hi36, hd⟩ := dn_i hd
              refine k_iald (D := D) (k := x5_16.toNatClampNeg) (by rfl) hx hb hK hP 0 1 rfl rfl hi36 dX6_mostAlike_36 ?_
              refine lv_aload_n hx hb dX6_mostAlike_37 rfl (lv_at hl 0 rfl) ?_
              refine lv_iload_n hx hb dX6_mostAlike_38 rfl (lv_at hl 3 rfl) ?_
              obtain ⟨hi39, hd⟩ := dn_i hd
              refine k_iald (D := D) (k := x3_16.toNatClampNeg) (by rfl) hx hb hK hP 0 1 rfl rfl hi39 dX6_mostAlike_39 ?_
              refine lv_icmp_ne (tgt := 46) hx hb dX6_mostAlike_40 (by decide) (fun c40 => ?_) (fun c40 => ?_)
              · have hd := dn_f c40 hd
                refine lv_iinc (v := x5_16 + (1 : Int32)) (lv' := [(5, .int (x5_16 + (1 : Int32))), (0, .ref (a 0)), (1, .int p1), (2, .int x2_16), (3, .int x3_16), (4, .int x4_16)]) hx hb dX6_mostAlike_46 hl (k := 5) rfl rfl (by decide) rfl (fun ls hl => ?_)
                refine lv_goto (tgt := 16) hx hb dX6_mostAlike_49 (by decide) ?_
                exact ih2 x2_16 x3_16 x4_16 (x5_16 + (1 : Int32)) _ _ _ (dn_bk hd hy2) (lv_sub hl [1, 2, 3, 4, 5, 0] rfl) hP hS
              · have hd := dn_t c40 hd
                refine lv_iinc (v := x4_16 + (1 : Int32)) (lv' := [(4, .int (x4_16 + (1 : Int32))), (0, .ref (a 0)), (1, .int p1), (2, .int x2_16), (3, .int x3_16), (5, .int x5_16)]) hx hb dX6_mostAlike_43 hl (k := 4) rfl rfl (by decide) rfl (fun ls hl => ?_)
                refine lv_iinc (v := x5_16 + (1 : Int32)) (lv' := [(5, .int (x5_16 + (1 : Int32))), (4, .int (x4_16 + (1 : Int32))), (0, .ref (a 0)), (1, .int p1), (2, .int x2_16), (3, .int x3_16)]) hx hb dX6_mostAlike_46 hl (k := 5) rfl rfl (by decide) rfl (fun ls hl => ?_)
                refine lv_goto (tgt := 16) hx hb dX6_mostAlike_49 (by decide) ?_
                exact ih2 x2_16 x3_16 (x4_16 + (1 : Int32)) (x5_16 + (1 : Int32)) _ _ _ (dn_bk hd hy2) (lv_sub hl [2, 3, 4, 5, 1, 0] rfl) hP hS
      unfold nX6_mostAlike_l4 at hd
      refine lv_iload_n hx hb dX6_mostAlike_4 rfl (lv_at hl 3 rfl) ?_
      refine lv_aload_n hx hb dX6_mostAlike_5 rfl (lv_at hl 0 rfl) ?_
      refine va_alen (D := D) (v := Int32.ofNat N) hx hb hK hP 0 1 rfl rfl rfl dX6_mostAlike_6 ?_
      refine lv_icmp_ge (tgt := 76) hx hb dX6_mostAlike_7 (by decide) (fun c7 => ?_) (fun c7 => ?_)
      · have hd := dn_t c7 hd
        have hd := dn_up hd hy1
        refine lv_iload_n hx hb dX6_mostAlike_76 rfl (lv_at hl 2 rfl) ?_
        have e1 := dn_s1 hd
        exact k_iret hx hb hr hQ hAe e1 rfl hP hS hlocks dX6_mostAlike_77
      · have hd := dn_f c7 hd
        refine lv_iconst (v := (0 : Int32)) hx hb dX6_mostAlike_10 (by decide) ?_
        refine lv_istore (lv' := [(4, .int (0 : Int32)), (0, .ref (a 0)), (1, .int p1), (2, .int x2_4), (3, .int x3_4)]) hx hb dX6_mostAlike_11 hl (by decide) rfl (fun ls hl => ?_)
        refine lv_iconst (v := (0 : Int32)) hx hb dX6_mostAlike_13 (by decide) ?_
        refine lv_istore (lv' := [(5, .int (0 : Int32)), (4, .int (0 : Int32)), (0, .ref (a 0)), (1, .int p1), (2, .int x2_4), (3, .int x3_4)]) hx hb dX6_mostAlike_14 hl (by decide) rfl (fun ls hl => ?_)
        exact Lo16 1000 x2_4 x3_4 (0 : Int32) (0 : Int32) _ _ _ hd (lv_sub hl [2, 3, 4, 5, 1, 0] rfl) hP hS
  unfold nX6_mostAlike at hd
  refine lv_iconst (v := (0 : Int32)) hx hb dX6_mostAlike_0 (by decide) ?_
  refine lv_istore_n (lv' := [(2, .int (0 : Int32)), (0, .ref (a 0)), (1, .int p1)]) hx hb dX6_mostAlike_1 rfl hl (by decide) rfl (fun ls hl => ?_)
  refine lv_iconst (v := (0 : Int32)) hx hb dX6_mostAlike_2 (by decide) ?_
  refine lv_istore_n (lv' := [(3, .int (0 : Int32)), (2, .int (0 : Int32)), (0, .ref (a 0)), (1, .int p1)]) hx hb dX6_mostAlike_3 rfl hl (by decide) rfl (fun ls hl => ?_)
  exact Lo4 1000 (0 : Int32) (0 : Int32) _ _ _ hd (lv_sub hl [2, 3, 1, 0] rfl) hP hS
-- LeastNeed.watch(I)I
set_option maxRecDepth 20000 in
def nX6_watch_i31_l52 (p1 : Int32) (x2_31 : Int32) (x3_52 : Int32) (x4_52 : Int32) (x5_52 : Int32) (x6_52 : Int32) (x7_52 : Int32) (S_52 : Nat → Nat → Int32) (L : Nat → Nat → Int64) : Option ((Int32 × (Nat → Nat → Int32)) ⊕ ((Int32 × Int32 × Int32 × (Nat → Nat → Int32)) ⊕ (Int32 × (Nat → Nat → Int32)))) := if (6 : Int32) ≤ x7_52 then k_up (k_b1 (nX6_mostAlike 6 (k_wi S_52 76) x2_31) (fun r112 => if x4_52 ≤ r112 then some (.inl (x3_52, x4_52, (x5_52 + (1 : Int32)), S_52)) else some (.inl (x5_52, r112, (x5_52 + (1 : Int32)), S_52)))) else if (((4 : Int32) * p1) + x6_52) < 0 ∨ 28 ≤ (((4 : Int32) * p1) + x6_52).toNatClampNeg then none else if p1 < 0 ∨ 7 ≤ p1.toNatClampNeg then none else k_b1 (nX1_shown x7_52 (S_52 5 (((4 : Int32) * p1) + x6_52).toNatClampNeg) (S_52 4 p1.toNatClampNeg) x6_52 (x5_52 - x5_52 / (10 : Int32) * (10 : Int32))) (fun r97 => if x7_52 < 0 ∨ 6 ≤ x7_52.toNatClampNeg then none else some (.inl ((x7_52 + (1 : Int32)), (k_w S_52 76 x7_52.toNatClampNeg r97))))
set_option maxRecDepth 20000 in
def nX6_watch_l31 (p1 : Int32) (x2_31 : Int32) (x3_31 : Int32) (x4_31 : Int32) (x5_31 : Int32) (S_31 : Nat → Nat → Int32) (L : Nat → Nat → Int64) : Option ((Int32 × Int32 × Int32 × (Nat → Nat → Int32)) ⊕ (Int32 × (Nat → Nat → Int32))) := if (40 : Int32) ≤ x5_31 then k_up (some (x3_31, S_31)) else if x2_31 = 0 then k_up (some (x3_31, S_31)) else k_it (fun st => nX6_watch_i31_l52 p1 x2_31 x3_31 x4_31 x5_31 (x5_31 / (10 : Int32)) st.1 st.2 L) 1000 ((0 : Int32), S_31)
set_option maxRecDepth 20000 in
def nX6_watch (S : Nat → Nat → Int32) (L : Nat → Nat → Int64) (p1 : Int32) : Option (Int32 × (Nat → Nat → Int32)) := k_b1 (nX6_isPerson S L p1) (fun r2 => if r2 = 0 then k_b2 (nX6_refusedAsBad S L) (fun r9 S9 => some (r9, S9)) else k_b1 (nX5_kindsByNotes (k_wi S 1) p1) (fun r18 => k_it (fun st => nX6_watch_l31 p1 r18 st.1 st.2.1 st.2.2.1 st.2.2.2 L) 1000 ((-1 : Int32), (7 : Int32), (0 : Int32), S)))
set_option maxHeartbeats 4000000 in
set_option maxRecDepth 100000 in
theorem mX6_watch (l : Launch) (D : va_G) (cs : Nat → ClassId) (a : Nat → Nat) (S : Nat → Nat → Int32) (L : Nat → Nat → Int64) (p1 : Int32) (r9 : Int32) (S9 : (Nat → Nat → Int32)) (hd : nX6_watch S L p1 = some (r9, S9)) : ∀ sz : Nat, Met l yX6_watch wsX6_watch ({ frames := 3, cells := 0, slots := 0, locals := 74 }) (k_Pc D cs [.ref (a 0), .int p1] (wX6 cs a S L) sz) (k_Qi D r9 (wX6 cs a S L) (wX6 cs a S9 L) sz) 0 0 (va_A (wX6 cs a S L) sz) := by
  intro sz
  refine Met.ofW (cc := cX6_watch) (maxL := 8) (ret := (some .int)) (by decide) rfl ?_
  intro p e s m args below meth c s₁ B hml hv
  obtain ⟨rfl, hsz, hP, hK, hD0, hNn⟩ := hv
  have hx := B.exec
  have hb := B.bytes
  have hr := B.returns
  have hts := atoms_spec (ws := wsX6_watch) B.pre
  have hown : s.vm.findClass RX6 = some m.cls := findClass_of_methodNamed B.named
  have hlocks := B.notSynchronized
  subst hsz
  obtain ⟨A, hAe⟩ : ∃ A : Nat → Prop, A = va_A (wX6 cs a S L) s.heap.size := ⟨_, rfl⟩
  have hD : va_D A (wX6 cs a S L) := by rw [hAe]; exact hD0.self
  have hA : ∀ q : Nat, s.heap.size ≤ q → A q := fun q h => by rw [hAe]; exact Or.inr h
  have hS : va_S A s.heap s.heap [] := va_S.rf
  have hDA : ∀ (S : Nat → Nat → Int32) (L : Nat → Nat → Int64), va_D A (wX6 cs a S L) := fun S L => k_DA hD rfl
  have hl := lv_entry ([.ref (a 0), .int p1]) (n := 8) (Nat.le_of_ble_eq_true rfl)
  rw [lg_entry_eq]
  generalize (lg_sl ([.ref (a 0), .int p1]) ++ List.replicate (8 - (lg_sl ([.ref (a 0), .int p1])).length) Slot.unset).toArray = ls at hl ⊢
  have hl : lv_has ls 8 [(0, .ref (a 0)), (1, .int p1)] := hl
  obtain ⟨Q, hQ⟩ : ∃ Q, Q = MQ below (k_Qi D r9 (wX6 cs a S L) (wX6 cs a S9 L) s.heap.size) ([.ref (a 0), .int p1] : List Value).toArray s 0 0 (va_A (wX6 cs a S L) s.heap.size) := ⟨_, rfl⟩
  rw [← hQ]
  have Lo31 : ∀ (n1 : Nat) (x2_31 : Int32) (x3_31 : Int32) (x4_31 : Int32) (x5_31 : Int32) (S_31 : Nat → Nat → Int32) (H : Heap) (locs : List Loc) (ls : Array Slot), k_it (fun st => nX6_watch_l31 p1 x2_31 st.1 st.2.1 st.2.2.1 st.2.2.2 L) n1 (x3_31, x4_31, x5_31, S_31) = some (r9, S9) → lv_has ls 8 [(0, .ref (a 0)), (1, .int p1), (2, .int x2_31), (3, .int x3_31), (4, .int x4_31), (5, .int x5_31)] → va_P D vwCl (wX6 cs a S_31 L) H → va_S A s.heap H locs → W p l e (headSpec wsX6_watch ({ frames := 3, cells := 0, slots := 0, locals := 74 })).room s m ([.ref (a 0), .int p1] : List Value).toArray below meth c H locs 0 0 Q (F0 m 31 ls []) := by
    intro n1
    induction n1 with
    | zero => intro x2_31 x3_31 x4_31 x5_31 S_31 H locs ls hd; exact dn_it0 hd
    | succ n1 ih1 =>
      intro x2_31 x3_31 x4_31 x5_31 S_31 H locs ls hd hl hP hS
      have hD := hDA S_31 L
      obtain ⟨y1, hd, hy1⟩ := dn_it hd
      have hd : nX6_watch_l31 p1 x2_31 x3_31 x4_31 x5_31 S_31 L = some y1 := hd
      have Lo52 : ∀ (n2 : Nat) (x3_52 : Int32) (x4_52 : Int32) (x5_52 : Int32) (x6_52 : Int32) (x7_52 : Int32) (S_52 : Nat → Nat → Int32) (H : Heap) (locs : List Loc) (ls : Array Slot), k_it (fun st => nX6_watch_i31_l52 p1 x2_31 x3_52 x4_52 x5_52 x6_52 st.1 st.2 L) n2 (x7_52, S_52) = some y1 → lv_has ls 8 [(0, .ref (a 0)), (1, .int p1), (2, .int x2_31), (3, .int x3_52), (4, .int x4_52), (5, .int x5_52), (6, .int x6_52), (7, .int x7_52)] → va_P D vwCl (wX6 cs a S_52 L) H → va_S A s.heap H locs → W p l e (headSpec wsX6_watch ({ frames := 3, cells := 0, slots := 0, locals := 74 })).room s m ([.ref (a 0), .int p1] : List Value).toArray below meth c H locs 0 0 Q (F0 m 52 ls []) := by
        intro n2
        induction n2 with
        | zero => intro x3_52 x4_52 x5_52 x6_52 x7_52 S_52 H locs ls hd; exact dn_it0 hd
        | succ n2 ih2 =>
          intro x3_52 x4_52 x5_52 x6_52 x7_52 S_52 H locs ls hd hl hP hS
          have hD := hDA S_52 L
          obtain ⟨y2, hd, hy2⟩ := dn_it hd
          have hd : nX6_watch_i31_l52 p1 x2_31 x3_52 x4_52 x5_52 x6_52 x7_52 S_52 L = some y2 := hd
          unfold nX6_watch_i31_l52 at hd
          refine lv_iload hx hb dX6_watch_52 (lv_at hl 7 rfl) ?_
          refine lv_bipush (v := (6 : Int32)) hx hb dX6_watch_54 (by decide) ?_
          refine lv_icmp_ge (tgt := 107) hx hb dX6_watch_56 (by decide) (fun c56 => ?_) (fun c56 => ?_)
          · have hd := dn_t c56 hd
            have hd := dn_up hd hy2
            refine lv_aload_n hx hb dX6_watch_107 rfl (lv_at hl 0 rfl) ?_
            refine va_get (D := D) (ci := 4) (v := .ref (a 76)) (C := RX6) (T := TX6) (N := 12) hx hb hts (fun w h => List.mem_cons_of_mem _ (List.mem_append_left _ (List.mem_append_left _ (List.mem_append_right _ h)))) hown hK hP 0 rfl rfl 7 (by decide) (hts (.fieldLink RX6 45 "LeastNeed" "answers" "[I") (List.mem_of_getElem? (i := 2) rfl)) (fun _ h9 => h9) rfl dX6_watch_108 ?_
            refine lv_iload_n hx hb dX6_watch_111 rfl (lv_at hl 2 rfl) ?_
            obtain ⟨r112, hq112, hd⟩ := dn_b1 hd
            have hPc : va_P D vwCl (wAI cs 6 (k_wi a 76) (k_wi S_52 76)) _ := k_sub hP [76] (wcX6_aI_76 cs a S_52 L)
            have hDc : va_D A (wAI cs 6 (k_wi a 76) (k_wi S_52 76)) := hD.sub [76] (by decide) (wcX6_aI_76 cs a S_52 L)
            have hF := k_self hDc hS hA
            refine k_run_i (va_runS (As := [.ref (a 76), .int x2_31]) (rest := []) ⟨hx, hb, hml, hown, hts⟩ (mX6_mostAlike l D cs (k_wi a 76) 6 (k_wi S_52 76) x2_31 r112 hq112 _) (va_cwS 2 hts gX6_watch_X6_mostAlike rfl rfl rfl (by decide +kernel) ⟨Nat.le_of_ble_eq_true rfl, Nat.le_of_ble_eq_true rfl⟩) ⟨k_blind, k_pre hPc hK hNn hDc⟩ rfl rfl hl.1 rfl (lv_room (Nat.le_of_ble_eq_true rfl)) dX6_watch_112 ⟨Nat.le_of_ble_eq_true rfl, Nat.le_of_ble_eq_true rfl⟩) hS hF (fun H locs hP1 hk hS => ?_)
            have hP : va_P D vwCl (wX6 cs a S_52 L) _ := k_back hP hD [76] [0, 1, 2, 3, 4, 5, 6, 7, 8, 9, 10, 11, 12, 13, 14, 15, 16, 17, 18, 19, 20, 21, 22, 23, 24, 25, 26, 27, 28, 29, 30, 31, 32, 33, 34, 35, 36, 37, 38, 39, 40, 41, 42, 43, 44, 45, 46, 47, 48, 49, 50, 51, 52, 53, 54, 55, 56, 57, 58, 59, 60, 61, 62, 63, 64, 65, 66, 67, 68, 69, 70, 71, 72, 73, 74, 75, 77, 78] [0, 1, 2, 3, 4, 5, 6, 7, 8, 9, 10, 11, 12, 13, 14, 15, 16, 17, 18, 19, 20, 21, 22, 23, 24, 25, 26, 27, 28, 29, 30, 31, 32, 33, 34, 35, 36, 37, 38, 39, 40, 41, 42, 43, 44, 45, 46, 47, 48, 49, 50, 51, 52, 53, 54, 55, 56, 57, 58, 59, 60, 61, 62, 63, 64, 65, 66, 67, 68, 69, 70, 71, 72, 73, 74, 75, 78, 76, 77] (wcX6_aI_76 cs a S_52 L) (by decide) hk hP1 (wbX6_aI_76 cs a S_52 L)
            have hD := hDA S_52 L
            refine lv_istore (lv' := [(7, .int r112), (0, .ref (a 0)), (1, .int p1), (2, .int x2_31), (3, .int x3_52), (4, .int x4_52), (5, .int x5_52), (6, .int x6_52)]) hx hb dX6_watch_115 hl (by decide) rfl (fun ls hl => ?_)
            refine lv_iload hx hb dX6_watch_117 (lv_at hl 0 rfl) ?_
            refine lv_iload hx hb dX6_watch_119 (lv_at hl 5 rfl) ?_
            refine lv_icmp_ge (tgt := 131) hx hb dX6_watch_121 (by decide) (fun c121 => ?_) (fun c121 => ?_)
            · have hd := dn_t c121 hd
              refine lv_iinc (v := x5_52 + (1 : Int32)) (lv' := [(5, .int (x5_52 + (1 : Int32))), (7, .int r112), (0, .ref (a 0)), (1, .int p1), (2, .int x2_31), (3, .int x3_52), (4, .int x4_52), (6, .int x6_52)]) hx hb dX6_watch_131 hl (k := 6) rfl rfl (by decide) rfl (fun ls hl => ?_)
              refine lv_goto (tgt := 31) hx hb dX6_watch_134 (by decide) ?_
              exact ih1 x2_31 x3_52 x4_52 (x5_52 + (1 : Int32)) S_52 _ _ _ (dn_bk hd hy1) (lv_sub hl [2, 3, 4, 5, 6, 0] rfl) hP hS
            · have hd := dn_f c121 hd
              refine lv_iload hx hb dX6_watch_124 (lv_at hl 0 rfl) ?_
              refine lv_istore (lv' := [(4, .int r112), (7, .int r112), (0, .ref (a 0)), (1, .int p1), (2, .int x2_31), (3, .int x3_52), (5, .int x5_52), (6, .int x6_52)]) hx hb dX6_watch_126 hl (by decide) rfl (fun ls hl => ?_)
              refine lv_iload hx hb dX6_watch_128 (lv_at hl 6 rfl) ?_
              refine lv_istore_n (lv' := [(3, .int x5_52), (4, .int r112), (7, .int r112), (0, .ref (a 0)), (1, .int p1), (2, .int x2_31), (5, .int x5_52), (6, .int x6_52)]) hx hb dX6_watch_130 rfl hl (by decide) rfl (fun ls hl => ?_)
              refine lv_iinc (v := x5_52 + (1 : Int32)) (lv' := [(5, .int (x5_52 + (1 : Int32))), (3, .int x5_52), (4, .int r112), (7, .int r112), (0, .ref (a 0)), (1, .int p1), (2, .int x2_31), (6, .int x6_52)]) hx hb dX6_watch_131 hl (k := 6) rfl rfl (by decide) rfl (fun ls hl => ?_)
              refine lv_goto (tgt := 31) hx hb dX6_watch_134 (by decide) ?_
              exact ih1 x2_31 x5_52 r112 (x5_52 + (1 : Int32)) S_52 _ _ _ (dn_bk hd hy1) (lv_sub hl [4, 5, 6, 1, 2, 0] rfl) hP hS
          · have hd := dn_f c56 hd
            refine lv_aload_n hx hb dX6_watch_59 rfl (lv_at hl 0 rfl) ?_
            refine va_get (D := D) (ci := 4) (v := .ref (a 76)) (C := RX6) (T := TX6) (N := 12) hx hb hts (fun w h => List.mem_cons_of_mem _ (List.mem_append_left _ (List.mem_append_left _ (List.mem_append_right _ h)))) hown hK hP 0 rfl rfl 7 (by decide) (hts (.fieldLink RX6 45 "LeastNeed" "answers" "[I") (List.mem_of_getElem? (i := 2) rfl)) (fun _ h9 => h9) rfl dX6_watch_60 ?_
            refine lv_iload hx hb dX6_watch_63 (lv_at hl 7 rfl) ?_
            refine lv_iload hx hb dX6_watch_65 (lv_at hl 7 rfl) ?_
            refine lv_aload_n hx hb dX6_watch_67 rfl (lv_at hl 0 rfl) ?_
            refine va_get (D := D) (ci := 4) (v := .ref (a 1)) (C := RX6) (T := TX6) (N := 12) hx hb hts (fun w h => List.mem_cons_of_mem _ (List.mem_append_left _ (List.mem_append_left _ (List.mem_append_right _ h)))) hown hK hP 0 rfl rfl 0 (by decide) (hts (.fieldLink RX6 12 "LeastNeed" "now" "LLeastNeed$Valley;") (List.mem_of_getElem? (i := 1) rfl)) (fun _ h9 => h9) rfl dX6_watch_68 ?_
            refine va_get (D := D) (ci := 3) (v := .ref (a 5)) (C := RX5) (T := TX5) (N := 15) hx hb hts (fun w h => List.mem_cons_of_mem _ (List.mem_append_left _ (List.mem_append_right _ h))) hown hK hP 1 rfl rfl 3 (by decide) (hts (.fieldLink RX6 167 "LeastNeed$Valley" "need" "[I") (List.mem_of_getElem? (i := 3) rfl)) (fun _ h9 => h9) rfl dX6_watch_71 ?_
            refine lv_iconst (v := (4 : Int32)) hx hb dX6_watch_74 (by decide) ?_
            refine lv_iload_n hx hb dX6_watch_75 rfl (lv_at hl 1 rfl) ?_
            refine lv_imul hx hb dX6_watch_76 ?_
            refine lv_iload hx hb dX6_watch_77 (lv_at hl 6 rfl) ?_
            refine lv_iadd hx hb dX6_watch_79 ?_
            obtain ⟨hi80, hd⟩ := dn_i hd
            refine k_iald (D := D) (k := (((4 : Int32) * p1) + x6_52).toNatClampNeg) (by rfl) hx hb hK hP 5 1 rfl rfl hi80 dX6_watch_80 ?_
            refine lv_aload_n hx hb dX6_watch_81 rfl (lv_at hl 0 rfl) ?_
            refine va_get (D := D) (ci := 4) (v := .ref (a 1)) (C := RX6) (T := TX6) (N := 12) hx hb hts (fun w h => List.mem_cons_of_mem _ (List.mem_append_left _ (List.mem_append_left _ (List.mem_append_right _ h)))) hown hK hP 0 rfl rfl 0 (by decide) (hts (.fieldLink RX6 12 "LeastNeed" "now" "LLeastNeed$Valley;") (List.mem_of_getElem? (i := 1) rfl)) (fun _ h9 => h9) rfl dX6_watch_82 ?_
            refine va_get (D := D) (ci := 3) (v := .ref (a 4)) (C := RX5) (T := TX5) (N := 15) hx hb hts (fun w h => List.mem_cons_of_mem _ (List.mem_append_left _ (List.mem_append_right _ h))) hown hK hP 1 rfl rfl 2 (by decide) (hts (.fieldLink RX6 134 "LeastNeed$Valley" "worn" "[I") (List.mem_of_getElem? (i := 4) rfl)) (fun _ h9 => h9) rfl dX6_watch_85 ?_
            refine lv_iload_n hx hb dX6_watch_88 rfl (lv_at hl 1 rfl) ?_
            obtain ⟨hi89, hd⟩ := dn_i hd
            refine k_iald (D := D) (k := p1.toNatClampNeg) (by rfl) hx hb hK hP 4 1 rfl rfl hi89 dX6_watch_89 ?_
            refine lv_iload hx hb dX6_watch_90 (lv_at hl 6 rfl) ?_
            refine lv_iload hx hb dX6_watch_92 (lv_at hl 5 rfl) ?_
            refine lv_bipush (v := (10 : Int32)) hx hb dX6_watch_94 (by decide) ?_
            refine lv_irem hx hb dX6_watch_96 (by decide) ?_
            obtain ⟨r97, hq97, hd⟩ := dn_b1 hd
            have hPc := k_P0 hP
            have hDc : va_D A ([] : va_W) := k_D0
            have hF := k_self hDc hS hA
            refine k_run_i (va_runS (As := [.int x7_52, .int (S_52 5 (((4 : Int32) * p1) + x6_52).toNatClampNeg), .int (S_52 4 p1.toNatClampNeg), .int x6_52, .int (x5_52 - x5_52 / (10 : Int32) * (10 : Int32))]) (rest := [.int x7_52, .ref (a 76)]) ⟨hx, hb, hml, hown, hts⟩ (mX1_shown l D cs  x7_52 (S_52 5 (((4 : Int32) * p1) + x6_52).toNatClampNeg) (S_52 4 p1.toNatClampNeg) x6_52 (x5_52 - x5_52 / (10 : Int32) * (10 : Int32)) r97 hq97 _) (va_cwS 5 hts gX6_watch_X1_shown rfl rfl rfl (by decide +kernel) ⟨Nat.le_of_ble_eq_true rfl, Nat.le_of_ble_eq_true rfl⟩) ⟨k_blind, k_pre hPc hK hNn hDc⟩ rfl rfl hl.1 rfl (lv_room (Nat.le_of_ble_eq_true rfl)) dX6_watch_97 ⟨Nat.le_of_ble_eq_true rfl, Nat.le_of_ble_eq_true rfl⟩) hS hF (fun H locs hP1 hk hS => ?_)
            have hP : va_P D vwCl (wX6 cs a S_52 L) _ := k_keep hP hk
            obtain ⟨hi100, hd⟩ := dn_i hd
            refine k_iast (D := D) (k := x7_52.toNatClampNeg) (by rfl) hx hb hK hP hD hS 76 1 rfl rfl hi100 dX6_watch_100 (fun H locs hP hD hS => ?_)
            have hP : va_P D vwCl (wX6 cs a (k_w S_52 76 x7_52.toNatClampNeg r97) L) _ := k_eq hP (wsX6_a76 cs a S_52 L x7_52.toNatClampNeg r97)
            have hD := hDA (k_w S_52 76 x7_52.toNatClampNeg r97) L
            refine lv_iinc (v := x7_52 + (1 : Int32)) (lv' := [(7, .int (x7_52 + (1 : Int32))), (0, .ref (a 0)), (1, .int p1), (2, .int x2_31), (3, .int x3_52), (4, .int x4_52), (5, .int x5_52), (6, .int x6_52)]) hx hb dX6_watch_101 hl (k := 7) rfl rfl (by decide) rfl (fun ls hl => ?_)
            refine lv_goto (tgt := 52) hx hb dX6_watch_104 (by decide) ?_
            exact ih2 x3_52 x4_52 x5_52 x6_52 (x7_52 + (1 : Int32)) (k_w S_52 76 x7_52.toNatClampNeg r97) _ _ _ (dn_bk hd hy2) (lv_sub hl [1, 2, 3, 4, 5, 6, 7, 0] rfl) hP hS
      unfold nX6_watch_l31 at hd
      refine lv_iload hx hb dX6_watch_31 (lv_at hl 5 rfl) ?_
      refine lv_bipush (v := (40 : Int32)) hx hb dX6_watch_33 (by decide) ?_
      refine lv_icmp_ge (tgt := 137) hx hb dX6_watch_35 (by decide) (fun c35 => ?_) (fun c35 => ?_)
      · have hd := dn_t c35 hd
        have hd := dn_up hd hy1
        refine lv_iload_n hx hb dX6_watch_137 rfl (lv_at hl 3 rfl) ?_
        obtain ⟨e1, e2⟩ := dn_s2 hd
        exact k_iret hx hb hr hQ hAe e1 (by rw [e2]) hP hS hlocks dX6_watch_138
      · have hd := dn_f c35 hd
        refine lv_iload_n hx hb dX6_watch_38 rfl (lv_at hl 2 rfl) ?_
        refine lv_if_eq (tgt := 137) hx hb dX6_watch_39 (by decide) (fun c39 => ?_) (fun c39 => ?_)
        · have hd := dn_t c39 hd
          have hd := dn_up hd hy1
          refine lv_iload_n hx hb dX6_watch_137 rfl (lv_at hl 3 rfl) ?_
          obtain ⟨e1, e2⟩ := dn_s2 hd
          exact k_iret hx hb hr hQ hAe e1 (by rw [e2]) hP hS hlocks dX6_watch_138
        · have hd := dn_f c39 hd
          refine lv_iload hx hb dX6_watch_42 (lv_at hl 5 rfl) ?_
          refine lv_bipush (v := (10 : Int32)) hx hb dX6_watch_44 (by decide) ?_
          refine lv_idiv hx hb dX6_watch_46 (by decide) ?_
          refine lv_istore (lv' := [(6, .int (x5_31 / (10 : Int32))), (0, .ref (a 0)), (1, .int p1), (2, .int x2_31), (3, .int x3_31), (4, .int x4_31), (5, .int x5_31)]) hx hb dX6_watch_47 hl (by decide) rfl (fun ls hl => ?_)
          refine lv_iconst (v := (0 : Int32)) hx hb dX6_watch_49 (by decide) ?_
          refine lv_istore (lv' := [(7, .int (0 : Int32)), (6, .int (x5_31 / (10 : Int32))), (0, .ref (a 0)), (1, .int p1), (2, .int x2_31), (3, .int x3_31), (4, .int x4_31), (5, .int x5_31)]) hx hb dX6_watch_50 hl (by decide) rfl (fun ls hl => ?_)
          exact Lo52 1000 x3_31 x4_31 x5_31 (x5_31 / (10 : Int32)) (0 : Int32) S_31 _ _ _ hd (lv_sub hl [2, 3, 4, 5, 6, 7, 1, 0] rfl) hP hS
  unfold nX6_watch at hd
  refine lv_aload_n hx hb dX6_watch_0 rfl (lv_at hl 0 rfl) ?_
  refine lv_iload_n hx hb dX6_watch_1 rfl (lv_at hl 1 rfl) ?_
  obtain ⟨r2, hq2, hd⟩ := dn_b1 hd
  have hF := k_self hD hS hA
  refine k_run_i (va_runV (As := [.int p1]) (rest := []) ⟨hx, hb, hml, hown, hts⟩ (mX6_isPerson l D cs a S L p1 r2 hq2 _) (cwV 1 hts gX6_watch_X6_isPerson rfl rfl rfl (by decide +kernel) ⟨Nat.le_of_ble_eq_true rfl, Nat.le_of_ble_eq_true rfl⟩) ⟨k_blind, va_recv hK hP (ci := 4) (q0 := 0) rfl rfl, k_pre hP hK hNn hD⟩ rfl rfl hl.1 rfl (lv_room (Nat.le_of_ble_eq_true rfl)) dX6_watch_2 ⟨Nat.le_of_ble_eq_true rfl, Nat.le_of_ble_eq_true rfl⟩) hS hF (fun H locs hP1 hk hS => ?_)
  have hP : va_P D vwCl (wX6 cs a S L) _ := hP1
  have hD := hDA S L
  refine lv_if_ne (tgt := 13) hx hb dX6_watch_5 (by decide) (fun c5 => ?_) (fun c5 => ?_)
  · have hd := dn_f c5 hd
    refine lv_aload_n hx hb dX6_watch_13 rfl (lv_at hl 0 rfl) ?_
    refine va_get (D := D) (ci := 4) (v := .ref (a 1)) (C := RX6) (T := TX6) (N := 12) hx hb hts (fun w h => List.mem_cons_of_mem _ (List.mem_append_left _ (List.mem_append_left _ (List.mem_append_right _ h)))) hown hK hP 0 rfl rfl 0 (by decide) (hts (.fieldLink RX6 12 "LeastNeed" "now" "LLeastNeed$Valley;") (List.mem_of_getElem? (i := 1) rfl)) (fun _ h9 => h9) rfl dX6_watch_14 ?_
    refine lv_iload_n hx hb dX6_watch_17 rfl (lv_at hl 1 rfl) ?_
    obtain ⟨r18, hq18, hd⟩ := dn_b1 hd
    have hPc : va_P D vwCl (wX5 cs (k_wi a 1) (k_wi S 1)) _ := k_sub hP [1, 2, 3, 4, 5, 6, 7, 8, 9, 10, 11, 12, 13, 14, 15, 16] (wcX6_X5_1 cs a S L)
    have hDc : va_D A (wX5 cs (k_wi a 1) (k_wi S 1)) := hD.sub [1, 2, 3, 4, 5, 6, 7, 8, 9, 10, 11, 12, 13, 14, 15, 16] (by decide) (wcX6_X5_1 cs a S L)
    have hF := k_self hDc hS hA
    refine k_run_i (va_runV (As := [.int p1]) (rest := []) ⟨hx, hb, hml, hown, hts⟩ (mX5_kindsByNotes l D cs (k_wi a 1) (k_wi S 1) p1 r18 hq18 _) (cwV 1 hts gX6_watch_X5_kindsByNotes rfl rfl rfl (by decide +kernel) ⟨Nat.le_of_ble_eq_true rfl, Nat.le_of_ble_eq_true rfl⟩) ⟨k_blind, va_recv hK hP (ci := 3) (q0 := 1) rfl rfl, k_pre hPc hK hNn hDc⟩ rfl rfl hl.1 rfl (lv_room (Nat.le_of_ble_eq_true rfl)) dX6_watch_18 ⟨Nat.le_of_ble_eq_true rfl, Nat.le_of_ble_eq_true rfl⟩) hS hF (fun H locs hP1 hk hS => ?_)
    have hP : va_P D vwCl (wX6 cs a S L) _ := k_back hP hD [1, 2, 3, 4, 5, 6, 7, 8, 9, 10, 11, 12, 13, 14, 15, 16] [0, 17, 18, 19, 20, 21, 22, 23, 24, 25, 26, 27, 28, 29, 30, 31, 32, 33, 34, 35, 36, 37, 38, 39, 40, 41, 42, 43, 44, 45, 46, 47, 48, 49, 50, 51, 52, 53, 54, 55, 56, 57, 58, 59, 60, 61, 62, 63, 64, 65, 66, 67, 68, 69, 70, 71, 72, 73, 74, 75, 76, 77, 78] [0, 63, 64, 65, 66, 67, 68, 69, 70, 71, 72, 73, 74, 75, 76, 77, 78, 1, 2, 3, 4, 5, 6, 7, 8, 9, 10, 11, 12, 13, 14, 15, 16, 17, 18, 19, 20, 21, 22, 23, 24, 25, 26, 27, 28, 29, 30, 31, 32, 33, 34, 35, 36, 37, 38, 39, 40, 41, 42, 43, 44, 45, 46, 47, 48, 49, 50, 51, 52, 53, 54, 55, 56, 57, 58, 59, 60, 61, 62] (wcX6_X5_1 cs a S L) (by decide) hk hP1 (wbX6_X5_1 cs a S L)
    have hD := hDA S L
    refine lv_istore_n (lv' := [(2, .int r18), (0, .ref (a 0)), (1, .int p1)]) hx hb dX6_watch_21 rfl hl (by decide) rfl (fun ls hl => ?_)
    refine lv_iconst (v := (-1 : Int32)) hx hb dX6_watch_22 (by decide) ?_
    refine lv_istore_n (lv' := [(3, .int (-1 : Int32)), (2, .int r18), (0, .ref (a 0)), (1, .int p1)]) hx hb dX6_watch_23 rfl hl (by decide) rfl (fun ls hl => ?_)
    refine lv_bipush (v := (7 : Int32)) hx hb dX6_watch_24 (by decide) ?_
    refine lv_istore (lv' := [(4, .int (7 : Int32)), (3, .int (-1 : Int32)), (2, .int r18), (0, .ref (a 0)), (1, .int p1)]) hx hb dX6_watch_26 hl (by decide) rfl (fun ls hl => ?_)
    refine lv_iconst (v := (0 : Int32)) hx hb dX6_watch_28 (by decide) ?_
    refine lv_istore (lv' := [(5, .int (0 : Int32)), (4, .int (7 : Int32)), (3, .int (-1 : Int32)), (2, .int r18), (0, .ref (a 0)), (1, .int p1)]) hx hb dX6_watch_29 hl (by decide) rfl (fun ls hl => ?_)
    exact Lo31 1000 r18 (-1 : Int32) (7 : Int32) (0 : Int32) S _ _ _ hd (lv_sub hl [4, 5, 3, 2, 1, 0] rfl) hP hS
  · have hd := dn_t c5 hd
    refine lv_aload_n hx hb dX6_watch_8 rfl (lv_at hl 0 rfl) ?_
    obtain ⟨r9, S9, hq9, hd⟩ := dn_b2 hd
    have hF := k_self hD hS hA
    refine k_run_i (va_runV (As := []) (rest := []) ⟨hx, hb, hml, hown, hts⟩ (mX6_refusedAsBad l D cs a S L r9 S9 hq9 _) (cwV 0 hts gX6_watch_X6_refusedAsBad rfl rfl rfl (by decide +kernel) ⟨Nat.le_of_ble_eq_true rfl, Nat.le_of_ble_eq_true rfl⟩) ⟨k_blind, va_recv hK hP (ci := 4) (q0 := 0) rfl rfl, k_pre hP hK hNn hD⟩ rfl rfl hl.1 rfl (lv_room (Nat.le_of_ble_eq_true rfl)) dX6_watch_9 ⟨Nat.le_of_ble_eq_true rfl, Nat.le_of_ble_eq_true rfl⟩) hS hF (fun H locs hP1 hk hS => ?_)
    have hP : va_P D vwCl (wX6 cs a S9 L) _ := hP1
    have hD := hDA S9 L
    obtain ⟨e1, e2⟩ := dn_s2 hd
    exact k_iret hx hb hr hQ hAe e1 (by rw [e2]) hP hS hlocks dX6_watch_12
-- LeastNeed.kinds(I)I
set_option maxRecDepth 20000 in
def nX6_kinds (S : Nat → Nat → Int32) (L : Nat → Nat → Int64) (p1 : Int32) : Option (Int32 × (Nat → Nat → Int32)) := k_b1 (nX6_isThing S L p1) (fun r2 => if r2 = 0 then k_b2 (nX6_refusedAsBad S L) (fun r9 S9 => some (r9, S9)) else k_b1 (nX5_kindsByComings (k_wi S 1) p1) (fun r18 => some (r18, S)))
set_option maxHeartbeats 4000000 in
set_option maxRecDepth 100000 in
theorem mX6_kinds (l : Launch) (D : va_G) (cs : Nat → ClassId) (a : Nat → Nat) (S : Nat → Nat → Int32) (L : Nat → Nat → Int64) (p1 : Int32) (r9 : Int32) (S9 : (Nat → Nat → Int32)) (hd : nX6_kinds S L p1 = some (r9, S9)) : ∀ sz : Nat, Met l yX6_kinds wsX6_kinds ({ frames := 5, cells := 0, slots := 0, locals := 131 }) (k_Pc D cs [.ref (a 0), .int p1] (wX6 cs a S L) sz) (k_Qi D r9 (wX6 cs a S L) (wX6 cs a S9 L) sz) 0 0 (va_A (wX6 cs a S L) sz) := by
  intro sz
  refine Met.ofW (cc := cX6_kinds) (maxL := 2) (ret := (some .int)) (by decide) rfl ?_
  intro p e s m args below meth c s₁ B hml hv
  obtain ⟨rfl, hsz, hP, hK, hD0, hNn⟩ := hv
  have hx := B.exec
  have hb := B.bytes
  have hr := B.returns
  have hts := atoms_spec (ws := wsX6_kinds) B.pre
  have hown : s.vm.findClass RX6 = some m.cls := findClass_of_methodNamed B.named
  have hlocks := B.notSynchronized
  subst hsz
  obtain ⟨A, hAe⟩ : ∃ A : Nat → Prop, A = va_A (wX6 cs a S L) s.heap.size := ⟨_, rfl⟩
  have hD : va_D A (wX6 cs a S L) := by rw [hAe]; exact hD0.self
  have hA : ∀ q : Nat, s.heap.size ≤ q → A q := fun q h => by rw [hAe]; exact Or.inr h
  have hS : va_S A s.heap s.heap [] := va_S.rf
  have hDA : ∀ (S : Nat → Nat → Int32) (L : Nat → Nat → Int64), va_D A (wX6 cs a S L) := fun S L => k_DA hD rfl
  have hl := lv_entry ([.ref (a 0), .int p1]) (n := 2) (Nat.le_of_ble_eq_true rfl)
  rw [lg_entry_eq]
  generalize (lg_sl ([.ref (a 0), .int p1]) ++ List.replicate (2 - (lg_sl ([.ref (a 0), .int p1])).length) Slot.unset).toArray = ls at hl ⊢
  have hl : lv_has ls 2 [(0, .ref (a 0)), (1, .int p1)] := hl
  obtain ⟨Q, hQ⟩ : ∃ Q, Q = MQ below (k_Qi D r9 (wX6 cs a S L) (wX6 cs a S9 L) s.heap.size) ([.ref (a 0), .int p1] : List Value).toArray s 0 0 (va_A (wX6 cs a S L) s.heap.size) := ⟨_, rfl⟩
  rw [← hQ]
  unfold nX6_kinds at hd
  refine lv_aload_n hx hb dX6_kinds_0 rfl (lv_at hl 0 rfl) ?_
  refine lv_iload_n hx hb dX6_kinds_1 rfl (lv_at hl 1 rfl) ?_
  obtain ⟨r2, hq2, hd⟩ := dn_b1 hd
  have hF := k_self hD hS hA
  refine k_run_i (va_runV (As := [.int p1]) (rest := []) ⟨hx, hb, hml, hown, hts⟩ (mX6_isThing l D cs a S L p1 r2 hq2 _) (cwV 1 hts gX6_kinds_X6_isThing rfl rfl rfl (by decide +kernel) ⟨Nat.le_of_ble_eq_true rfl, Nat.le_of_ble_eq_true rfl⟩) ⟨k_blind, va_recv hK hP (ci := 4) (q0 := 0) rfl rfl, k_pre hP hK hNn hD⟩ rfl rfl hl.1 rfl (lv_room (Nat.le_of_ble_eq_true rfl)) dX6_kinds_2 ⟨Nat.le_of_ble_eq_true rfl, Nat.le_of_ble_eq_true rfl⟩) hS hF (fun H locs hP1 hk hS => ?_)
  have hP : va_P D vwCl (wX6 cs a S L) _ := hP1
  have hD := hDA S L
  refine lv_if_ne (tgt := 13) hx hb dX6_kinds_5 (by decide) (fun c5 => ?_) (fun c5 => ?_)
  · have hd := dn_f c5 hd
    refine lv_aload_n hx hb dX6_kinds_13 rfl (lv_at hl 0 rfl) ?_
    refine va_get (D := D) (ci := 4) (v := .ref (a 1)) (C := RX6) (T := TX6) (N := 12) hx hb hts (fun w h => List.mem_cons_of_mem _ (List.mem_append_left _ (List.mem_append_left _ (List.mem_append_right _ h)))) hown hK hP 0 rfl rfl 0 (by decide) (hts (.fieldLink RX6 12 "LeastNeed" "now" "LLeastNeed$Valley;") (List.mem_of_getElem? (i := 1) rfl)) (fun _ h9 => h9) rfl dX6_kinds_14 ?_
    refine lv_iload_n hx hb dX6_kinds_17 rfl (lv_at hl 1 rfl) ?_
    obtain ⟨r18, hq18, hd⟩ := dn_b1 hd
    have hPc : va_P D vwCl (wX5 cs (k_wi a 1) (k_wi S 1)) _ := k_sub hP [1, 2, 3, 4, 5, 6, 7, 8, 9, 10, 11, 12, 13, 14, 15, 16] (wcX6_X5_1 cs a S L)
    have hDc : va_D A (wX5 cs (k_wi a 1) (k_wi S 1)) := hD.sub [1, 2, 3, 4, 5, 6, 7, 8, 9, 10, 11, 12, 13, 14, 15, 16] (by decide) (wcX6_X5_1 cs a S L)
    have hF := k_self hDc hS hA
    refine k_run_i (va_runV (As := [.int p1]) (rest := []) ⟨hx, hb, hml, hown, hts⟩ (mX5_kindsByComings l D cs (k_wi a 1) (k_wi S 1) p1 r18 hq18 _) (cwV 1 hts gX6_kinds_X5_kindsByComings rfl rfl rfl (by decide +kernel) ⟨Nat.le_of_ble_eq_true rfl, Nat.le_of_ble_eq_true rfl⟩) ⟨k_blind, va_recv hK hP (ci := 3) (q0 := 1) rfl rfl, k_pre hPc hK hNn hDc⟩ rfl rfl hl.1 rfl (lv_room (Nat.le_of_ble_eq_true rfl)) dX6_kinds_18 ⟨Nat.le_of_ble_eq_true rfl, Nat.le_of_ble_eq_true rfl⟩) hS hF (fun H locs hP1 hk hS => ?_)
    have hP : va_P D vwCl (wX6 cs a S L) _ := k_back hP hD [1, 2, 3, 4, 5, 6, 7, 8, 9, 10, 11, 12, 13, 14, 15, 16] [0, 17, 18, 19, 20, 21, 22, 23, 24, 25, 26, 27, 28, 29, 30, 31, 32, 33, 34, 35, 36, 37, 38, 39, 40, 41, 42, 43, 44, 45, 46, 47, 48, 49, 50, 51, 52, 53, 54, 55, 56, 57, 58, 59, 60, 61, 62, 63, 64, 65, 66, 67, 68, 69, 70, 71, 72, 73, 74, 75, 76, 77, 78] [0, 63, 64, 65, 66, 67, 68, 69, 70, 71, 72, 73, 74, 75, 76, 77, 78, 1, 2, 3, 4, 5, 6, 7, 8, 9, 10, 11, 12, 13, 14, 15, 16, 17, 18, 19, 20, 21, 22, 23, 24, 25, 26, 27, 28, 29, 30, 31, 32, 33, 34, 35, 36, 37, 38, 39, 40, 41, 42, 43, 44, 45, 46, 47, 48, 49, 50, 51, 52, 53, 54, 55, 56, 57, 58, 59, 60, 61, 62] (wcX6_X5_1 cs a S L) (by decide) hk hP1 (wbX6_X5_1 cs a S L)
    have hD := hDA S L
    obtain ⟨e1, e2⟩ := dn_s2 hd
    exact k_iret hx hb hr hQ hAe e1 (by rw [e2]) hP hS hlocks dX6_kinds_21
  · have hd := dn_t c5 hd
    refine lv_aload_n hx hb dX6_kinds_8 rfl (lv_at hl 0 rfl) ?_
    obtain ⟨r9, S9, hq9, hd⟩ := dn_b2 hd
    have hF := k_self hD hS hA
    refine k_run_i (va_runV (As := []) (rest := []) ⟨hx, hb, hml, hown, hts⟩ (mX6_refusedAsBad l D cs a S L r9 S9 hq9 _) (cwV 0 hts gX6_kinds_X6_refusedAsBad rfl rfl rfl (by decide +kernel) ⟨Nat.le_of_ble_eq_true rfl, Nat.le_of_ble_eq_true rfl⟩) ⟨k_blind, va_recv hK hP (ci := 4) (q0 := 0) rfl rfl, k_pre hP hK hNn hD⟩ rfl rfl hl.1 rfl (lv_room (Nat.le_of_ble_eq_true rfl)) dX6_kinds_9 ⟨Nat.le_of_ble_eq_true rfl, Nat.le_of_ble_eq_true rfl⟩) hS hF (fun H locs hP1 hk hS => ?_)
    have hP : va_P D vwCl (wX6 cs a S9 L) _ := hP1
    have hD := hDA S9 L
    obtain ⟨e1, e2⟩ := dn_s2 hd
    exact k_iret hx hb hr hQ hAe e1 (by rw [e2]) hP hS hlocks dX6_kinds_12
-- LeastNeed.by(I)I
set_option maxRecDepth 20000 in
def nX6_by_i31_l50 (p1 : Int32) (x2_31 : Int32) (x3_50 : Int32) (x4_50 : Int32) (x5_50 : Int32) (x6_50 : Int32) (S_50 : Nat → Nat → Int32) (L : Nat → Nat → Int64) : Option ((Int32 × (Nat → Nat → Int32)) ⊕ ((Int32 × Int32 × Int32 × (Nat → Nat → Int32)) ⊕ (Int32 × (Nat → Nat → Int32)))) := if (6 : Int32) ≤ x6_50 then k_up (k_b1 (nX6_mostAlike 6 (k_wi S_50 76) x2_31) (fun r102 => if x4_50 ≤ r102 then some (.inl (x3_50, x4_50, (x5_50 + (1 : Int32)), S_50)) else some (.inl (x5_50, r102, (x5_50 + (1 : Int32)), S_50)))) else if p1 < 0 ∨ 5 ≤ p1.toNatClampNeg then none else k_b1 (nX5_goesTo (k_wi S_50 1) x6_50 (S_50 7 p1.toNatClampNeg) x5_50 (S_50 1 14)) (fun r87 => if x6_50 < 0 ∨ 6 ≤ x6_50.toNatClampNeg then none else some (.inl ((x6_50 + (1 : Int32)), (k_w S_50 76 x6_50.toNatClampNeg r87))))
set_option maxRecDepth 20000 in
def nX6_by_l31 (p1 : Int32) (x2_31 : Int32) (x3_31 : Int32) (x4_31 : Int32) (x5_31 : Int32) (S_31 : Nat → Nat → Int32) (L : Nat → Nat → Int64) : Option ((Int32 × Int32 × Int32 × (Nat → Nat → Int32)) ⊕ (Int32 × (Nat → Nat → Int32))) := if (S_31 1 12) ≤ x5_31 then k_up (some (x3_31, S_31)) else if x2_31 = 0 then k_up (some (x3_31, S_31)) else k_it (fun st => nX6_by_i31_l50 p1 x2_31 x3_31 x4_31 x5_31 st.1 st.2 L) 1000 ((0 : Int32), S_31)
set_option maxRecDepth 20000 in
def nX6_by (S : Nat → Nat → Int32) (L : Nat → Nat → Int64) (p1 : Int32) : Option (Int32 × (Nat → Nat → Int32)) := k_b1 (nX6_isThing S L p1) (fun r2 => if r2 = 0 then k_b2 (nX6_refusedAsBad S L) (fun r9 S9 => some (r9, S9)) else k_b1 (nX5_kindsByComings (k_wi S 1) p1) (fun r18 => k_it (fun st => nX6_by_l31 p1 r18 st.1 st.2.1 st.2.2.1 st.2.2.2 L) 1000 ((-1 : Int32), (7 : Int32), (0 : Int32), S)))
set_option maxHeartbeats 4000000 in
set_option maxRecDepth 100000 in
theorem mX6_by (l : Launch) (D : va_G) (cs : Nat → ClassId) (a : Nat → Nat) (S : Nat → Nat → Int32) (L : Nat → Nat → Int64) (p1 : Int32) (r9 : Int32) (S9 : (Nat → Nat → Int32)) (hd : nX6_by S L p1 = some (r9, S9)) : ∀ sz : Nat, Met l yX6_by wsX6_by ({ frames := 5, cells := 0, slots := 0, locals := 131 }) (k_Pc D cs [.ref (a 0), .int p1] (wX6 cs a S L) sz) (k_Qi D r9 (wX6 cs a S L) (wX6 cs a S9 L) sz) 0 0 (va_A (wX6 cs a S L) sz) := by
  intro sz
  refine Met.ofW (cc := cX6_by) (maxL := 7) (ret := (some .int)) (by decide) rfl ?_
  intro p e s m args below meth c s₁ B hml hv
  obtain ⟨rfl, hsz, hP, hK, hD0, hNn⟩ := hv
  have hx := B.exec
  have hb := B.bytes
  have hr := B.returns
  have hts := atoms_spec (ws := wsX6_by) B.pre
  have hown : s.vm.findClass RX6 = some m.cls := findClass_of_methodNamed B.named
  have hlocks := B.notSynchronized
  subst hsz
  obtain ⟨A, hAe⟩ : ∃ A : Nat → Prop, A = va_A (wX6 cs a S L) s.heap.size := ⟨_, rfl⟩
  have hD : va_D A (wX6 cs a S L) := by rw [hAe]; exact hD0.self
  have hA : ∀ q : Nat, s.heap.size ≤ q → A q := fun q h => by rw [hAe]; exact Or.inr h
  have hS : va_S A s.heap s.heap [] := va_S.rf
  have hDA : ∀ (S : Nat → Nat → Int32) (L : Nat → Nat → Int64), va_D A (wX6 cs a S L) := fun S L => k_DA hD rfl
  have hl := lv_entry ([.ref (a 0), .int p1]) (n := 7) (Nat.le_of_ble_eq_true rfl)
  rw [lg_entry_eq]
  generalize (lg_sl ([.ref (a 0), .int p1]) ++ List.replicate (7 - (lg_sl ([.ref (a 0), .int p1])).length) Slot.unset).toArray = ls at hl ⊢
  have hl : lv_has ls 7 [(0, .ref (a 0)), (1, .int p1)] := hl
  obtain ⟨Q, hQ⟩ : ∃ Q, Q = MQ below (k_Qi D r9 (wX6 cs a S L) (wX6 cs a S9 L) s.heap.size) ([.ref (a 0), .int p1] : List Value).toArray s 0 0 (va_A (wX6 cs a S L) s.heap.size) := ⟨_, rfl⟩
  rw [← hQ]
  have Lo31 : ∀ (n1 : Nat) (x2_31 : Int32) (x3_31 : Int32) (x4_31 : Int32) (x5_31 : Int32) (S_31 : Nat → Nat → Int32) (H : Heap) (locs : List Loc) (ls : Array Slot), k_it (fun st => nX6_by_l31 p1 x2_31 st.1 st.2.1 st.2.2.1 st.2.2.2 L) n1 (x3_31, x4_31, x5_31, S_31) = some (r9, S9) → lv_has ls 7 [(0, .ref (a 0)), (1, .int p1), (2, .int x2_31), (3, .int x3_31), (4, .int x4_31), (5, .int x5_31)] → va_P D vwCl (wX6 cs a S_31 L) H → va_S A s.heap H locs → W p l e (headSpec wsX6_by ({ frames := 5, cells := 0, slots := 0, locals := 131 })).room s m ([.ref (a 0), .int p1] : List Value).toArray below meth c H locs 0 0 Q (F0 m 31 ls []) := by
    intro n1
    induction n1 with
    | zero => intro x2_31 x3_31 x4_31 x5_31 S_31 H locs ls hd; exact dn_it0 hd
    | succ n1 ih1 =>
      intro x2_31 x3_31 x4_31 x5_31 S_31 H locs ls hd hl hP hS
      have hD := hDA S_31 L
      obtain ⟨y1, hd, hy1⟩ := dn_it hd
      have hd : nX6_by_l31 p1 x2_31 x3_31 x4_31 x5_31 S_31 L = some y1 := hd
      have Lo50 : ∀ (n2 : Nat) (x3_50 : Int32) (x4_50 : Int32) (x5_50 : Int32) (x6_50 : Int32) (S_50 : Nat → Nat → Int32) (H : Heap) (locs : List Loc) (ls : Array Slot), k_it (fun st => nX6_by_i31_l50 p1 x2_31 x3_50 x4_50 x5_50 st.1 st.2 L) n2 (x6_50, S_50) = some y1 → lv_has ls 7 [(0, .ref (a 0)), (1, .int p1), (2, .int x2_31), (3, .int x3_50), (4, .int x4_50), (5, .int x5_50), (6, .int x6_50)] → va_P D vwCl (wX6 cs a S_50 L) H → va_S A s.heap H locs → W p l e (headSpec wsX6_by ({ frames := 5, cells := 0, slots := 0, locals := 131 })).room s m ([.ref (a 0), .int p1] : List Value).toArray below meth c H locs 0 0 Q (F0 m 50 ls []) := by
        intro n2
        induction n2 with
        | zero => intro x3_50 x4_50 x5_50 x6_50 S_50 H locs ls hd; exact dn_it0 hd
        | succ n2 ih2 =>
          intro x3_50 x4_50 x5_50 x6_50 S_50 H locs ls hd hl hP hS
          have hD := hDA S_50 L
          obtain ⟨y2, hd, hy2⟩ := dn_it hd
          have hd : nX6_by_i31_l50 p1 x2_31 x3_50 x4_50 x5_50 x6_50 S_50 L = some y2 := hd
          unfold nX6_by_i31_l50 at hd
          refine lv_iload hx hb dX6_by_50 (lv_at hl 6 rfl) ?_
          refine lv_bipush (v := (6 : Int32)) hx hb dX6_by_52 (by decide) ?_
          refine lv_icmp_ge (tgt := 97) hx hb dX6_by_54 (by decide) (fun c54 => ?_) (fun c54 => ?_)
          · have hd := dn_t c54 hd
            have hd := dn_up hd hy2
            refine lv_aload_n hx hb dX6_by_97 rfl (lv_at hl 0 rfl) ?_
            refine va_get (D := D) (ci := 4) (v := .ref (a 76)) (C := RX6) (T := TX6) (N := 12) hx hb hts (fun w h => List.mem_cons_of_mem _ (List.mem_append_left _ (List.mem_append_left _ (List.mem_append_right _ h)))) hown hK hP 0 rfl rfl 7 (by decide) (hts (.fieldLink RX6 45 "LeastNeed" "answers" "[I") (List.mem_of_getElem? (i := 3) rfl)) (fun _ h9 => h9) rfl dX6_by_98 ?_
            refine lv_iload_n hx hb dX6_by_101 rfl (lv_at hl 2 rfl) ?_
            obtain ⟨r102, hq102, hd⟩ := dn_b1 hd
            have hPc : va_P D vwCl (wAI cs 6 (k_wi a 76) (k_wi S_50 76)) _ := k_sub hP [76] (wcX6_aI_76 cs a S_50 L)
            have hDc : va_D A (wAI cs 6 (k_wi a 76) (k_wi S_50 76)) := hD.sub [76] (by decide) (wcX6_aI_76 cs a S_50 L)
            have hF := k_self hDc hS hA
            refine k_run_i (va_runS (As := [.ref (a 76), .int x2_31]) (rest := []) ⟨hx, hb, hml, hown, hts⟩ (mX6_mostAlike l D cs (k_wi a 76) 6 (k_wi S_50 76) x2_31 r102 hq102 _) (va_cwS 2 hts gX6_by_X6_mostAlike rfl rfl rfl (by decide +kernel) ⟨Nat.le_of_ble_eq_true rfl, Nat.le_of_ble_eq_true rfl⟩) ⟨k_blind, k_pre hPc hK hNn hDc⟩ rfl rfl hl.1 rfl (lv_room (Nat.le_of_ble_eq_true rfl)) dX6_by_102 ⟨Nat.le_of_ble_eq_true rfl, Nat.le_of_ble_eq_true rfl⟩) hS hF (fun H locs hP1 hk hS => ?_)
            have hP : va_P D vwCl (wX6 cs a S_50 L) _ := k_back hP hD [76] [0, 1, 2, 3, 4, 5, 6, 7, 8, 9, 10, 11, 12, 13, 14, 15, 16, 17, 18, 19, 20, 21, 22, 23, 24, 25, 26, 27, 28, 29, 30, 31, 32, 33, 34, 35, 36, 37, 38, 39, 40, 41, 42, 43, 44, 45, 46, 47, 48, 49, 50, 51, 52, 53, 54, 55, 56, 57, 58, 59, 60, 61, 62, 63, 64, 65, 66, 67, 68, 69, 70, 71, 72, 73, 74, 75, 77, 78] [0, 1, 2, 3, 4, 5, 6, 7, 8, 9, 10, 11, 12, 13, 14, 15, 16, 17, 18, 19, 20, 21, 22, 23, 24, 25, 26, 27, 28, 29, 30, 31, 32, 33, 34, 35, 36, 37, 38, 39, 40, 41, 42, 43, 44, 45, 46, 47, 48, 49, 50, 51, 52, 53, 54, 55, 56, 57, 58, 59, 60, 61, 62, 63, 64, 65, 66, 67, 68, 69, 70, 71, 72, 73, 74, 75, 78, 76, 77] (wcX6_aI_76 cs a S_50 L) (by decide) hk hP1 (wbX6_aI_76 cs a S_50 L)
            have hD := hDA S_50 L
            refine lv_istore (lv' := [(6, .int r102), (0, .ref (a 0)), (1, .int p1), (2, .int x2_31), (3, .int x3_50), (4, .int x4_50), (5, .int x5_50)]) hx hb dX6_by_105 hl (by decide) rfl (fun ls hl => ?_)
            refine lv_iload hx hb dX6_by_107 (lv_at hl 0 rfl) ?_
            refine lv_iload hx hb dX6_by_109 (lv_at hl 5 rfl) ?_
            refine lv_icmp_ge (tgt := 121) hx hb dX6_by_111 (by decide) (fun c111 => ?_) (fun c111 => ?_)
            · have hd := dn_t c111 hd
              refine lv_iinc (v := x5_50 + (1 : Int32)) (lv' := [(5, .int (x5_50 + (1 : Int32))), (6, .int r102), (0, .ref (a 0)), (1, .int p1), (2, .int x2_31), (3, .int x3_50), (4, .int x4_50)]) hx hb dX6_by_121 hl (k := 6) rfl rfl (by decide) rfl (fun ls hl => ?_)
              refine lv_goto (tgt := 31) hx hb dX6_by_124 (by decide) ?_
              exact ih1 x2_31 x3_50 x4_50 (x5_50 + (1 : Int32)) S_50 _ _ _ (dn_bk hd hy1) (lv_sub hl [2, 3, 4, 5, 6, 0] rfl) hP hS
            · have hd := dn_f c111 hd
              refine lv_iload hx hb dX6_by_114 (lv_at hl 0 rfl) ?_
              refine lv_istore (lv' := [(4, .int r102), (6, .int r102), (0, .ref (a 0)), (1, .int p1), (2, .int x2_31), (3, .int x3_50), (5, .int x5_50)]) hx hb dX6_by_116 hl (by decide) rfl (fun ls hl => ?_)
              refine lv_iload hx hb dX6_by_118 (lv_at hl 6 rfl) ?_
              refine lv_istore_n (lv' := [(3, .int x5_50), (4, .int r102), (6, .int r102), (0, .ref (a 0)), (1, .int p1), (2, .int x2_31), (5, .int x5_50)]) hx hb dX6_by_120 rfl hl (by decide) rfl (fun ls hl => ?_)
              refine lv_iinc (v := x5_50 + (1 : Int32)) (lv' := [(5, .int (x5_50 + (1 : Int32))), (3, .int x5_50), (4, .int r102), (6, .int r102), (0, .ref (a 0)), (1, .int p1), (2, .int x2_31)]) hx hb dX6_by_121 hl (k := 6) rfl rfl (by decide) rfl (fun ls hl => ?_)
              refine lv_goto (tgt := 31) hx hb dX6_by_124 (by decide) ?_
              exact ih1 x2_31 x5_50 r102 (x5_50 + (1 : Int32)) S_50 _ _ _ (dn_bk hd hy1) (lv_sub hl [4, 5, 6, 1, 2, 0] rfl) hP hS
          · have hd := dn_f c54 hd
            refine lv_aload_n hx hb dX6_by_57 rfl (lv_at hl 0 rfl) ?_
            refine va_get (D := D) (ci := 4) (v := .ref (a 76)) (C := RX6) (T := TX6) (N := 12) hx hb hts (fun w h => List.mem_cons_of_mem _ (List.mem_append_left _ (List.mem_append_left _ (List.mem_append_right _ h)))) hown hK hP 0 rfl rfl 7 (by decide) (hts (.fieldLink RX6 45 "LeastNeed" "answers" "[I") (List.mem_of_getElem? (i := 3) rfl)) (fun _ h9 => h9) rfl dX6_by_58 ?_
            refine lv_iload hx hb dX6_by_61 (lv_at hl 6 rfl) ?_
            refine lv_aload_n hx hb dX6_by_63 rfl (lv_at hl 0 rfl) ?_
            refine va_get (D := D) (ci := 4) (v := .ref (a 1)) (C := RX6) (T := TX6) (N := 12) hx hb hts (fun w h => List.mem_cons_of_mem _ (List.mem_append_left _ (List.mem_append_left _ (List.mem_append_right _ h)))) hown hK hP 0 rfl rfl 0 (by decide) (hts (.fieldLink RX6 12 "LeastNeed" "now" "LLeastNeed$Valley;") (List.mem_of_getElem? (i := 1) rfl)) (fun _ h9 => h9) rfl dX6_by_64 ?_
            refine lv_iload hx hb dX6_by_67 (lv_at hl 6 rfl) ?_
            refine lv_aload_n hx hb dX6_by_69 rfl (lv_at hl 0 rfl) ?_
            refine va_get (D := D) (ci := 4) (v := .ref (a 1)) (C := RX6) (T := TX6) (N := 12) hx hb hts (fun w h => List.mem_cons_of_mem _ (List.mem_append_left _ (List.mem_append_left _ (List.mem_append_right _ h)))) hown hK hP 0 rfl rfl 0 (by decide) (hts (.fieldLink RX6 12 "LeastNeed" "now" "LLeastNeed$Valley;") (List.mem_of_getElem? (i := 1) rfl)) (fun _ h9 => h9) rfl dX6_by_70 ?_
            refine va_get (D := D) (ci := 3) (v := .ref (a 7)) (C := RX5) (T := TX5) (N := 15) hx hb hts (fun w h => List.mem_cons_of_mem _ (List.mem_append_left _ (List.mem_append_right _ h))) hown hK hP 1 rfl rfl 5 (by decide) (hts (.fieldLink RX6 173 "LeastNeed$Valley" "sort" "[I") (List.mem_of_getElem? (i := 4) rfl)) (fun _ h9 => h9) rfl dX6_by_73 ?_
            refine lv_iload_n hx hb dX6_by_76 rfl (lv_at hl 1 rfl) ?_
            obtain ⟨hi77, hd⟩ := dn_i hd
            refine k_iald (D := D) (k := p1.toNatClampNeg) (by rfl) hx hb hK hP 7 1 rfl rfl hi77 dX6_by_77 ?_
            refine lv_iload hx hb dX6_by_78 (lv_at hl 5 rfl) ?_
            refine lv_aload_n hx hb dX6_by_80 rfl (lv_at hl 0 rfl) ?_
            refine va_get (D := D) (ci := 4) (v := .ref (a 1)) (C := RX6) (T := TX6) (N := 12) hx hb hts (fun w h => List.mem_cons_of_mem _ (List.mem_append_left _ (List.mem_append_left _ (List.mem_append_right _ h)))) hown hK hP 0 rfl rfl 0 (by decide) (hts (.fieldLink RX6 12 "LeastNeed" "now" "LLeastNeed$Valley;") (List.mem_of_getElem? (i := 1) rfl)) (fun _ h9 => h9) rfl dX6_by_81 ?_
            refine va_get (D := D) (ci := 3) (v := .int (S_50 1 14)) (C := RX5) (T := TX5) (N := 15) hx hb hts (fun w h => List.mem_cons_of_mem _ (List.mem_append_left _ (List.mem_append_right _ h))) hown hK hP 1 rfl rfl 14 (by decide) (hts (.fieldLink RX6 137 "LeastNeed$Valley" "today" "I") (List.mem_of_getElem? (i := 5) rfl)) (fun _ h9 => h9) rfl dX6_by_84 ?_
            obtain ⟨r87, hq87, hd⟩ := dn_b1 hd
            have hPc : va_P D vwCl (wX5 cs (k_wi a 1) (k_wi S_50 1)) _ := k_sub hP [1, 2, 3, 4, 5, 6, 7, 8, 9, 10, 11, 12, 13, 14, 15, 16] (wcX6_X5_1 cs a S_50 L)
            have hDc : va_D A (wX5 cs (k_wi a 1) (k_wi S_50 1)) := hD.sub [1, 2, 3, 4, 5, 6, 7, 8, 9, 10, 11, 12, 13, 14, 15, 16] (by decide) (wcX6_X5_1 cs a S_50 L)
            have hF := k_self hDc hS hA
            refine k_run_i (va_runV (As := [.int x6_50, .int (S_50 7 p1.toNatClampNeg), .int x5_50, .int (S_50 1 14)]) (rest := [.int x6_50, .ref (a 76)]) ⟨hx, hb, hml, hown, hts⟩ (mX5_goesTo l D cs (k_wi a 1) (k_wi S_50 1) x6_50 (S_50 7 p1.toNatClampNeg) x5_50 (S_50 1 14) r87 hq87 _) (cwV 4 hts gX6_by_X5_goesTo rfl rfl rfl (by decide +kernel) ⟨Nat.le_of_ble_eq_true rfl, Nat.le_of_ble_eq_true rfl⟩) ⟨k_blind, va_recv hK hP (ci := 3) (q0 := 1) rfl rfl, k_pre hPc hK hNn hDc⟩ rfl rfl hl.1 rfl (lv_room (Nat.le_of_ble_eq_true rfl)) dX6_by_87 ⟨Nat.le_of_ble_eq_true rfl, Nat.le_of_ble_eq_true rfl⟩) hS hF (fun H locs hP1 hk hS => ?_)
            have hP : va_P D vwCl (wX6 cs a S_50 L) _ := k_back hP hD [1, 2, 3, 4, 5, 6, 7, 8, 9, 10, 11, 12, 13, 14, 15, 16] [0, 17, 18, 19, 20, 21, 22, 23, 24, 25, 26, 27, 28, 29, 30, 31, 32, 33, 34, 35, 36, 37, 38, 39, 40, 41, 42, 43, 44, 45, 46, 47, 48, 49, 50, 51, 52, 53, 54, 55, 56, 57, 58, 59, 60, 61, 62, 63, 64, 65, 66, 67, 68, 69, 70, 71, 72, 73, 74, 75, 76, 77, 78] [0, 63, 64, 65, 66, 67, 68, 69, 70, 71, 72, 73, 74, 75, 76, 77, 78, 1, 2, 3, 4, 5, 6, 7, 8, 9, 10, 11, 12, 13, 14, 15, 16, 17, 18, 19, 20, 21, 22, 23, 24, 25, 26, 27, 28, 29, 30, 31, 32, 33, 34, 35, 36, 37, 38, 39, 40, 41, 42, 43, 44, 45, 46, 47, 48, 49, 50, 51, 52, 53, 54, 55, 56, 57, 58, 59, 60, 61, 62] (wcX6_X5_1 cs a S_50 L) (by decide) hk hP1 (wbX6_X5_1 cs a S_50 L)
            have hD := hDA S_50 L
            obtain ⟨hi90, hd⟩ := dn_i hd
            refine k_iast (D := D) (k := x6_50.toNatClampNeg) (by rfl) hx hb hK hP hD hS 76 1 rfl rfl hi90 dX6_by_90 (fun H locs hP hD hS => ?_)
            have hP : va_P D vwCl (wX6 cs a (k_w S_50 76 x6_50.toNatClampNeg r87) L) _ := k_eq hP (wsX6_a76 cs a S_50 L x6_50.toNatClampNeg r87)
            have hD := hDA (k_w S_50 76 x6_50.toNatClampNeg r87) L
            refine lv_iinc (v := x6_50 + (1 : Int32)) (lv' := [(6, .int (x6_50 + (1 : Int32))), (0, .ref (a 0)), (1, .int p1), (2, .int x2_31), (3, .int x3_50), (4, .int x4_50), (5, .int x5_50)]) hx hb dX6_by_91 hl (k := 6) rfl rfl (by decide) rfl (fun ls hl => ?_)
            refine lv_goto (tgt := 50) hx hb dX6_by_94 (by decide) ?_
            exact ih2 x3_50 x4_50 x5_50 (x6_50 + (1 : Int32)) (k_w S_50 76 x6_50.toNatClampNeg r87) _ _ _ (dn_bk hd hy2) (lv_sub hl [1, 2, 3, 4, 5, 6, 0] rfl) hP hS
      unfold nX6_by_l31 at hd
      refine lv_iload hx hb dX6_by_31 (lv_at hl 5 rfl) ?_
      refine lv_aload_n hx hb dX6_by_33 rfl (lv_at hl 0 rfl) ?_
      refine va_get (D := D) (ci := 4) (v := .ref (a 1)) (C := RX6) (T := TX6) (N := 12) hx hb hts (fun w h => List.mem_cons_of_mem _ (List.mem_append_left _ (List.mem_append_left _ (List.mem_append_right _ h)))) hown hK hP 0 rfl rfl 0 (by decide) (hts (.fieldLink RX6 12 "LeastNeed" "now" "LLeastNeed$Valley;") (List.mem_of_getElem? (i := 1) rfl)) (fun _ h9 => h9) rfl dX6_by_34 ?_
      refine va_get (D := D) (ci := 3) (v := .int (S_31 1 12)) (C := RX5) (T := TX5) (N := 15) hx hb hts (fun w h => List.mem_cons_of_mem _ (List.mem_append_left _ (List.mem_append_right _ h))) hown hK hP 1 rfl rfl 12 (by decide) (hts (.fieldLink RX6 61 "LeastNeed$Valley" "people" "I") (List.mem_of_getElem? (i := 2) rfl)) (fun _ h9 => h9) rfl dX6_by_37 ?_
      refine lv_icmp_ge (tgt := 127) hx hb dX6_by_40 (by decide) (fun c40 => ?_) (fun c40 => ?_)
      · have hd := dn_t c40 hd
        have hd := dn_up hd hy1
        refine lv_iload_n hx hb dX6_by_127 rfl (lv_at hl 3 rfl) ?_
        obtain ⟨e1, e2⟩ := dn_s2 hd
        exact k_iret hx hb hr hQ hAe e1 (by rw [e2]) hP hS hlocks dX6_by_128
      · have hd := dn_f c40 hd
        refine lv_iload_n hx hb dX6_by_43 rfl (lv_at hl 2 rfl) ?_
        refine lv_if_eq (tgt := 127) hx hb dX6_by_44 (by decide) (fun c44 => ?_) (fun c44 => ?_)
        · have hd := dn_t c44 hd
          have hd := dn_up hd hy1
          refine lv_iload_n hx hb dX6_by_127 rfl (lv_at hl 3 rfl) ?_
          obtain ⟨e1, e2⟩ := dn_s2 hd
          exact k_iret hx hb hr hQ hAe e1 (by rw [e2]) hP hS hlocks dX6_by_128
        · have hd := dn_f c44 hd
          refine lv_iconst (v := (0 : Int32)) hx hb dX6_by_47 (by decide) ?_
          refine lv_istore (lv' := [(6, .int (0 : Int32)), (0, .ref (a 0)), (1, .int p1), (2, .int x2_31), (3, .int x3_31), (4, .int x4_31), (5, .int x5_31)]) hx hb dX6_by_48 hl (by decide) rfl (fun ls hl => ?_)
          exact Lo50 1000 x3_31 x4_31 x5_31 (0 : Int32) S_31 _ _ _ hd (lv_sub hl [1, 2, 3, 4, 5, 6, 0] rfl) hP hS
  unfold nX6_by at hd
  refine lv_aload_n hx hb dX6_by_0 rfl (lv_at hl 0 rfl) ?_
  refine lv_iload_n hx hb dX6_by_1 rfl (lv_at hl 1 rfl) ?_
  obtain ⟨r2, hq2, hd⟩ := dn_b1 hd
  have hF := k_self hD hS hA
  refine k_run_i (va_runV (As := [.int p1]) (rest := []) ⟨hx, hb, hml, hown, hts⟩ (mX6_isThing l D cs a S L p1 r2 hq2 _) (cwV 1 hts gX6_by_X6_isThing rfl rfl rfl (by decide +kernel) ⟨Nat.le_of_ble_eq_true rfl, Nat.le_of_ble_eq_true rfl⟩) ⟨k_blind, va_recv hK hP (ci := 4) (q0 := 0) rfl rfl, k_pre hP hK hNn hD⟩ rfl rfl hl.1 rfl (lv_room (Nat.le_of_ble_eq_true rfl)) dX6_by_2 ⟨Nat.le_of_ble_eq_true rfl, Nat.le_of_ble_eq_true rfl⟩) hS hF (fun H locs hP1 hk hS => ?_)
  have hP : va_P D vwCl (wX6 cs a S L) _ := hP1
  have hD := hDA S L
  refine lv_if_ne (tgt := 13) hx hb dX6_by_5 (by decide) (fun c5 => ?_) (fun c5 => ?_)
  · have hd := dn_f c5 hd
    refine lv_aload_n hx hb dX6_by_13 rfl (lv_at hl 0 rfl) ?_
    refine va_get (D := D) (ci := 4) (v := .ref (a 1)) (C := RX6) (T := TX6) (N := 12) hx hb hts (fun w h => List.mem_cons_of_mem _ (List.mem_append_left _ (List.mem_append_left _ (List.mem_append_right _ h)))) hown hK hP 0 rfl rfl 0 (by decide) (hts (.fieldLink RX6 12 "LeastNeed" "now" "LLeastNeed$Valley;") (List.mem_of_getElem? (i := 1) rfl)) (fun _ h9 => h9) rfl dX6_by_14 ?_
    refine lv_iload_n hx hb dX6_by_17 rfl (lv_at hl 1 rfl) ?_
    obtain ⟨r18, hq18, hd⟩ := dn_b1 hd
    have hPc : va_P D vwCl (wX5 cs (k_wi a 1) (k_wi S 1)) _ := k_sub hP [1, 2, 3, 4, 5, 6, 7, 8, 9, 10, 11, 12, 13, 14, 15, 16] (wcX6_X5_1 cs a S L)
    have hDc : va_D A (wX5 cs (k_wi a 1) (k_wi S 1)) := hD.sub [1, 2, 3, 4, 5, 6, 7, 8, 9, 10, 11, 12, 13, 14, 15, 16] (by decide) (wcX6_X5_1 cs a S L)
    have hF := k_self hDc hS hA
    refine k_run_i (va_runV (As := [.int p1]) (rest := []) ⟨hx, hb, hml, hown, hts⟩ (mX5_kindsByComings l D cs (k_wi a 1) (k_wi S 1) p1 r18 hq18 _) (cwV 1 hts gX6_by_X5_kindsByComings rfl rfl rfl (by decide +kernel) ⟨Nat.le_of_ble_eq_true rfl, Nat.le_of_ble_eq_true rfl⟩) ⟨k_blind, va_recv hK hP (ci := 3) (q0 := 1) rfl rfl, k_pre hPc hK hNn hDc⟩ rfl rfl hl.1 rfl (lv_room (Nat.le_of_ble_eq_true rfl)) dX6_by_18 ⟨Nat.le_of_ble_eq_true rfl, Nat.le_of_ble_eq_true rfl⟩) hS hF (fun H locs hP1 hk hS => ?_)
    have hP : va_P D vwCl (wX6 cs a S L) _ := k_back hP hD [1, 2, 3, 4, 5, 6, 7, 8, 9, 10, 11, 12, 13, 14, 15, 16] [0, 17, 18, 19, 20, 21, 22, 23, 24, 25, 26, 27, 28, 29, 30, 31, 32, 33, 34, 35, 36, 37, 38, 39, 40, 41, 42, 43, 44, 45, 46, 47, 48, 49, 50, 51, 52, 53, 54, 55, 56, 57, 58, 59, 60, 61, 62, 63, 64, 65, 66, 67, 68, 69, 70, 71, 72, 73, 74, 75, 76, 77, 78] [0, 63, 64, 65, 66, 67, 68, 69, 70, 71, 72, 73, 74, 75, 76, 77, 78, 1, 2, 3, 4, 5, 6, 7, 8, 9, 10, 11, 12, 13, 14, 15, 16, 17, 18, 19, 20, 21, 22, 23, 24, 25, 26, 27, 28, 29, 30, 31, 32, 33, 34, 35, 36, 37, 38, 39, 40, 41, 42, 43, 44, 45, 46, 47, 48, 49, 50, 51, 52, 53, 54, 55, 56, 57, 58, 59, 60, 61, 62] (wcX6_X5_1 cs a S L) (by decide) hk hP1 (wbX6_X5_1 cs a S L)
    have hD := hDA S L
    refine lv_istore_n (lv' := [(2, .int r18), (0, .ref (a 0)), (1, .int p1)]) hx hb dX6_by_21 rfl hl (by decide) rfl (fun ls hl => ?_)
    refine lv_iconst (v := (-1 : Int32)) hx hb dX6_by_22 (by decide) ?_
    refine lv_istore_n (lv' := [(3, .int (-1 : Int32)), (2, .int r18), (0, .ref (a 0)), (1, .int p1)]) hx hb dX6_by_23 rfl hl (by decide) rfl (fun ls hl => ?_)
    refine lv_bipush (v := (7 : Int32)) hx hb dX6_by_24 (by decide) ?_
    refine lv_istore (lv' := [(4, .int (7 : Int32)), (3, .int (-1 : Int32)), (2, .int r18), (0, .ref (a 0)), (1, .int p1)]) hx hb dX6_by_26 hl (by decide) rfl (fun ls hl => ?_)
    refine lv_iconst (v := (0 : Int32)) hx hb dX6_by_28 (by decide) ?_
    refine lv_istore (lv' := [(5, .int (0 : Int32)), (4, .int (7 : Int32)), (3, .int (-1 : Int32)), (2, .int r18), (0, .ref (a 0)), (1, .int p1)]) hx hb dX6_by_29 hl (by decide) rfl (fun ls hl => ?_)
    exact Lo31 1000 r18 (-1 : Int32) (7 : Int32) (0 : Int32) S _ _ _ hd (lv_sub hl [4, 5, 3, 2, 1, 0] rfl) hP hS
  · have hd := dn_t c5 hd
    refine lv_aload_n hx hb dX6_by_8 rfl (lv_at hl 0 rfl) ?_
    obtain ⟨r9, S9, hq9, hd⟩ := dn_b2 hd
    have hF := k_self hD hS hA
    refine k_run_i (va_runV (As := []) (rest := []) ⟨hx, hb, hml, hown, hts⟩ (mX6_refusedAsBad l D cs a S L r9 S9 hq9 _) (cwV 0 hts gX6_by_X6_refusedAsBad rfl rfl rfl (by decide +kernel) ⟨Nat.le_of_ble_eq_true rfl, Nat.le_of_ble_eq_true rfl⟩) ⟨k_blind, va_recv hK hP (ci := 4) (q0 := 0) rfl rfl, k_pre hP hK hNn hD⟩ rfl rfl hl.1 rfl (lv_room (Nat.le_of_ble_eq_true rfl)) dX6_by_9 ⟨Nat.le_of_ble_eq_true rfl, Nat.le_of_ble_eq_true rfl⟩) hS hF (fun H locs hP1 hk hS => ?_)
    have hP : va_P D vwCl (wX6 cs a S9 L) _ := hP1
    have hD := hDA S9 L
    obtain ⟨e1, e2⟩ := dn_s2 hd
    exact k_iret hx hb hr hQ hAe e1 (by rw [e2]) hP hS hlocks dX6_by_12
-- LeastNeed.seeWhoGetsIt(III)V
set_option maxRecDepth 20000 in
def nX6_seeWhoGetsIt_l14 (p1 : Int32) (p2 : Int32) (p3 : Int32) (x4_14 : Int32) (S_14 : Nat → Nat → Int32) (L : Nat → Nat → Int64) : Option ((Int32 × (Nat → Nat → Int32)) ⊕ ((Nat → Nat → Int32))) := if (36 : Int32) ≤ x4_14 then k_up (some S_14) else if p2 < 0 ∨ 7 ≤ p2.toNatClampNeg then none else if p3 < 0 ∨ 7 ≤ p3.toNatClampNeg then none else if p1 < 0 ∨ 5 ≤ p1.toNatClampNeg then none else k_b1 (nX5_nextOf (k_wi (k_w (k_w S_14 20 p2.toNatClampNeg (x4_14 / (6 : Int32))) 20 p3.toNatClampNeg (x4_14 - x4_14 / (6 : Int32) * (6 : Int32))) 17) p1 ((k_w (k_w S_14 20 p2.toNatClampNeg (x4_14 / (6 : Int32))) 20 p3.toNatClampNeg (x4_14 - x4_14 / (6 : Int32) * (6 : Int32))) 25 p1.toNatClampNeg)) (fun r69 => if x4_14 < 0 ∨ 36 ≤ x4_14.toNatClampNeg then none else some (.inl ((x4_14 + (1 : Int32)), (k_w (k_w (k_w S_14 20 p2.toNatClampNeg (x4_14 / (6 : Int32))) 20 p3.toNatClampNeg (x4_14 - x4_14 / (6 : Int32) * (6 : Int32))) 78 x4_14.toNatClampNeg r69))))
set_option maxRecDepth 20000 in
def nX6_seeWhoGetsIt (S : Nat → Nat → Int32) (L : Nat → Nat → Int64) (p1 : Int32) (p2 : Int32) (p3 : Int32) : Option ((Nat → Nat → Int32)) := k_b1 (nX5_copyOf (k_wi S 17) (k_wi S 1)) (fun S8 => k_it (fun st => nX6_seeWhoGetsIt_l14 p1 p2 p3 st.1 st.2 L) 1000 ((0 : Int32), (k_sp S 17 16 S8)))
set_option maxHeartbeats 4000000 in
set_option maxRecDepth 100000 in
theorem mX6_seeWhoGetsIt (l : Launch) (D : va_G) (cs : Nat → ClassId) (a : Nat → Nat) (S : Nat → Nat → Int32) (L : Nat → Nat → Int64) (p1 : Int32) (p2 : Int32) (p3 : Int32) (S9 : (Nat → Nat → Int32)) (hd : nX6_seeWhoGetsIt S L p1 p2 p3 = some S9) : ∀ sz : Nat, Met l yX6_seeWhoGetsIt wsX6_seeWhoGetsIt ({ frames := 4, cells := 0, slots := 0, locals := 106 }) (k_Pc D cs [.ref (a 0), .int p1, .int p2, .int p3] (wX6 cs a S L) sz) (k_Qv D (wX6 cs a S L) (wX6 cs a S9 L) sz) 0 0 (va_A (wX6 cs a S L) sz) := by
  intro sz
  refine Met.ofW (cc := cX6_seeWhoGetsIt) (maxL := 5) (ret := none) (by decide) rfl ?_
  intro p e s m args below meth c s₁ B hml hv
  obtain ⟨rfl, hsz, hP, hK, hD0, hNn⟩ := hv
  have hx := B.exec
  have hb := B.bytes
  have hr := B.returns
  have hts := atoms_spec (ws := wsX6_seeWhoGetsIt) B.pre
  have hown : s.vm.findClass RX6 = some m.cls := findClass_of_methodNamed B.named
  have hlocks := B.notSynchronized
  subst hsz
  obtain ⟨A, hAe⟩ : ∃ A : Nat → Prop, A = va_A (wX6 cs a S L) s.heap.size := ⟨_, rfl⟩
  have hD : va_D A (wX6 cs a S L) := by rw [hAe]; exact hD0.self
  have hA : ∀ q : Nat, s.heap.size ≤ q → A q := fun q h => by rw [hAe]; exact Or.inr h
  have hS : va_S A s.heap s.heap [] := va_S.rf
  have hDA : ∀ (S : Nat → Nat → Int32) (L : Nat → Nat → Int64), va_D A (wX6 cs a S L) := fun S L => k_DA hD rfl
  have hl := lv_entry ([.ref (a 0), .int p1, .int p2, .int p3]) (n := 5) (Nat.le_of_ble_eq_true rfl)
  rw [lg_entry_eq]
  generalize (lg_sl ([.ref (a 0), .int p1, .int p2, .int p3]) ++ List.replicate (5 - (lg_sl ([.ref (a 0), .int p1, .int p2, .int p3])).length) Slot.unset).toArray = ls at hl ⊢
  have hl : lv_has ls 5 [(0, .ref (a 0)), (1, .int p1), (2, .int p2), (3, .int p3)] := hl
  obtain ⟨Q, hQ⟩ : ∃ Q, Q = MQ below (k_Qv D (wX6 cs a S L) (wX6 cs a S9 L) s.heap.size) ([.ref (a 0), .int p1, .int p2, .int p3] : List Value).toArray s 0 0 (va_A (wX6 cs a S L) s.heap.size) := ⟨_, rfl⟩
  rw [← hQ]
  have Lo14 : ∀ (n1 : Nat) (x4_14 : Int32) (S_14 : Nat → Nat → Int32) (H : Heap) (locs : List Loc) (ls : Array Slot), k_it (fun st => nX6_seeWhoGetsIt_l14 p1 p2 p3 st.1 st.2 L) n1 (x4_14, S_14) = some S9 → lv_has ls 5 [(0, .ref (a 0)), (1, .int p1), (2, .int p2), (3, .int p3), (4, .int x4_14)] → va_P D vwCl (wX6 cs a S_14 L) H → va_S A s.heap H locs → W p l e (headSpec wsX6_seeWhoGetsIt ({ frames := 4, cells := 0, slots := 0, locals := 106 })).room s m ([.ref (a 0), .int p1, .int p2, .int p3] : List Value).toArray below meth c H locs 0 0 Q (F0 m 14 ls []) := by
    intro n1
    induction n1 with
    | zero => intro x4_14 S_14 H locs ls hd; exact dn_it0 hd
    | succ n1 ih1 =>
      intro x4_14 S_14 H locs ls hd hl hP hS
      have hD := hDA S_14 L
      obtain ⟨y1, hd, hy1⟩ := dn_it hd
      have hd : nX6_seeWhoGetsIt_l14 p1 p2 p3 x4_14 S_14 L = some y1 := hd
      unfold nX6_seeWhoGetsIt_l14 at hd
      refine lv_iload hx hb dX6_seeWhoGetsIt_14 (lv_at hl 4 rfl) ?_
      refine lv_bipush (v := (36 : Int32)) hx hb dX6_seeWhoGetsIt_16 (by decide) ?_
      refine lv_icmp_ge (tgt := 79) hx hb dX6_seeWhoGetsIt_18 (by decide) (fun c18 => ?_) (fun c18 => ?_)
      · have hd := dn_t c18 hd
        have hd := dn_up hd hy1
        have e1 := dn_s1 hd
        exact k_vret hx hb hr hQ hAe (by rw [e1]) hP hS hlocks dX6_seeWhoGetsIt_79
      · have hd := dn_f c18 hd
        refine lv_aload_n hx hb dX6_seeWhoGetsIt_21 rfl (lv_at hl 0 rfl) ?_
        refine va_get (D := D) (ci := 4) (v := .ref (a 17)) (C := RX6) (T := TX6) (N := 12) hx hb hts (fun w h => List.mem_cons_of_mem _ (List.mem_append_left _ (List.mem_append_left _ (List.mem_append_right _ h)))) hown hK hP 0 rfl rfl 1 (by decide) (hts (.fieldLink RX6 16 "LeastNeed" "trial" "LLeastNeed$Valley;") (List.mem_of_getElem? (i := 1) rfl)) (fun _ h9 => h9) rfl dX6_seeWhoGetsIt_22 ?_
        refine va_get (D := D) (ci := 3) (v := .ref (a 20)) (C := RX5) (T := TX5) (N := 15) hx hb hts (fun w h => List.mem_cons_of_mem _ (List.mem_append_left _ (List.mem_append_right _ h))) hown hK hP 17 rfl rfl 2 (by decide) (hts (.fieldLink RX6 134 "LeastNeed$Valley" "worn" "[I") (List.mem_of_getElem? (i := 3) rfl)) (fun _ h9 => h9) rfl dX6_seeWhoGetsIt_25 ?_
        refine lv_iload_n hx hb dX6_seeWhoGetsIt_28 rfl (lv_at hl 2 rfl) ?_
        refine lv_iload hx hb dX6_seeWhoGetsIt_29 (lv_at hl 4 rfl) ?_
        refine lv_bipush (v := (6 : Int32)) hx hb dX6_seeWhoGetsIt_31 (by decide) ?_
        refine lv_idiv hx hb dX6_seeWhoGetsIt_33 (by decide) ?_
        obtain ⟨hi34, hd⟩ := dn_i hd
        refine k_iast (D := D) (k := p2.toNatClampNeg) (by rfl) hx hb hK hP hD hS 20 1 rfl rfl hi34 dX6_seeWhoGetsIt_34 (fun H locs hP hD hS => ?_)
        have hP : va_P D vwCl (wX6 cs a (k_w S_14 20 p2.toNatClampNeg (x4_14 / (6 : Int32))) L) _ := k_eq hP (wsX6_a20 cs a S_14 L p2.toNatClampNeg (x4_14 / (6 : Int32)))
        have hD := hDA (k_w S_14 20 p2.toNatClampNeg (x4_14 / (6 : Int32))) L
        refine lv_aload_n hx hb dX6_seeWhoGetsIt_35 rfl (lv_at hl 0 rfl) ?_
        refine va_get (D := D) (ci := 4) (v := .ref (a 17)) (C := RX6) (T := TX6) (N := 12) hx hb hts (fun w h => List.mem_cons_of_mem _ (List.mem_append_left _ (List.mem_append_left _ (List.mem_append_right _ h)))) hown hK hP 0 rfl rfl 1 (by decide) (hts (.fieldLink RX6 16 "LeastNeed" "trial" "LLeastNeed$Valley;") (List.mem_of_getElem? (i := 1) rfl)) (fun _ h9 => h9) rfl dX6_seeWhoGetsIt_36 ?_
        refine va_get (D := D) (ci := 3) (v := .ref (a 20)) (C := RX5) (T := TX5) (N := 15) hx hb hts (fun w h => List.mem_cons_of_mem _ (List.mem_append_left _ (List.mem_append_right _ h))) hown hK hP 17 rfl rfl 2 (by decide) (hts (.fieldLink RX6 134 "LeastNeed$Valley" "worn" "[I") (List.mem_of_getElem? (i := 3) rfl)) (fun _ h9 => h9) rfl dX6_seeWhoGetsIt_39 ?_
        refine lv_iload_n hx hb dX6_seeWhoGetsIt_42 rfl (lv_at hl 3 rfl) ?_
        refine lv_iload hx hb dX6_seeWhoGetsIt_43 (lv_at hl 4 rfl) ?_
        refine lv_bipush (v := (6 : Int32)) hx hb dX6_seeWhoGetsIt_45 (by decide) ?_
        refine lv_irem hx hb dX6_seeWhoGetsIt_47 (by decide) ?_
        obtain ⟨hi48, hd⟩ := dn_i hd
        refine k_iast (D := D) (k := p3.toNatClampNeg) (by rfl) hx hb hK hP hD hS 20 1 rfl rfl hi48 dX6_seeWhoGetsIt_48 (fun H locs hP hD hS => ?_)
        have hP : va_P D vwCl (wX6 cs a (k_w (k_w S_14 20 p2.toNatClampNeg (x4_14 / (6 : Int32))) 20 p3.toNatClampNeg (x4_14 - x4_14 / (6 : Int32) * (6 : Int32))) L) _ := k_eq hP (wsX6_a20 cs a (k_w S_14 20 p2.toNatClampNeg (x4_14 / (6 : Int32))) L p3.toNatClampNeg (x4_14 - x4_14 / (6 : Int32) * (6 : Int32)))
        have hD := hDA (k_w (k_w S_14 20 p2.toNatClampNeg (x4_14 / (6 : Int32))) 20 p3.toNatClampNeg (x4_14 - x4_14 / (6 : Int32) * (6 : Int32))) L
        refine lv_aload_n hx hb dX6_seeWhoGetsIt_49 rfl (lv_at hl 0 rfl) ?_
        refine va_get (D := D) (ci := 4) (v := .ref (a 78)) (C := RX6) (T := TX6) (N := 12) hx hb hts (fun w h => List.mem_cons_of_mem _ (List.mem_append_left _ (List.mem_append_left _ (List.mem_append_right _ h)))) hown hK hP 0 rfl rfl 9 (by decide) (hts (.fieldLink RX6 51 "LeastNeed" "goals" "[I") (List.mem_of_getElem? (i := 4) rfl)) (fun _ h9 => h9) rfl dX6_seeWhoGetsIt_50 ?_
        refine lv_iload hx hb dX6_seeWhoGetsIt_53 (lv_at hl 4 rfl) ?_
        refine lv_aload_n hx hb dX6_seeWhoGetsIt_55 rfl (lv_at hl 0 rfl) ?_
        refine va_get (D := D) (ci := 4) (v := .ref (a 17)) (C := RX6) (T := TX6) (N := 12) hx hb hts (fun w h => List.mem_cons_of_mem _ (List.mem_append_left _ (List.mem_append_left _ (List.mem_append_right _ h)))) hown hK hP 0 rfl rfl 1 (by decide) (hts (.fieldLink RX6 16 "LeastNeed" "trial" "LLeastNeed$Valley;") (List.mem_of_getElem? (i := 1) rfl)) (fun _ h9 => h9) rfl dX6_seeWhoGetsIt_56 ?_
        refine lv_iload_n hx hb dX6_seeWhoGetsIt_59 rfl (lv_at hl 1 rfl) ?_
        refine lv_aload_n hx hb dX6_seeWhoGetsIt_60 rfl (lv_at hl 0 rfl) ?_
        refine va_get (D := D) (ci := 4) (v := .ref (a 17)) (C := RX6) (T := TX6) (N := 12) hx hb hts (fun w h => List.mem_cons_of_mem _ (List.mem_append_left _ (List.mem_append_left _ (List.mem_append_right _ h)))) hown hK hP 0 rfl rfl 1 (by decide) (hts (.fieldLink RX6 16 "LeastNeed" "trial" "LLeastNeed$Valley;") (List.mem_of_getElem? (i := 1) rfl)) (fun _ h9 => h9) rfl dX6_seeWhoGetsIt_61 ?_
        refine va_get (D := D) (ci := 3) (v := .ref (a 25)) (C := RX5) (T := TX5) (N := 15) hx hb hts (fun w h => List.mem_cons_of_mem _ (List.mem_append_left _ (List.mem_append_right _ h))) hown hK hP 17 rfl rfl 7 (by decide) (hts (.fieldLink RX6 121 "LeastNeed$Valley" "holder" "[I") (List.mem_of_getElem? (i := 5) rfl)) (fun _ h9 => h9) rfl dX6_seeWhoGetsIt_64 ?_
        refine lv_iload_n hx hb dX6_seeWhoGetsIt_67 rfl (lv_at hl 1 rfl) ?_
        obtain ⟨hi68, hd⟩ := dn_i hd
        refine k_iald (D := D) (k := p1.toNatClampNeg) (by rfl) hx hb hK hP 25 1 rfl rfl hi68 dX6_seeWhoGetsIt_68 ?_
        obtain ⟨r69, hq69, hd⟩ := dn_b1 hd
        have hPc : va_P D vwCl (wX5 cs (k_wi a 17) (k_wi (k_w (k_w S_14 20 p2.toNatClampNeg (x4_14 / (6 : Int32))) 20 p3.toNatClampNeg (x4_14 - x4_14 / (6 : Int32) * (6 : Int32))) 17)) _ := k_sub hP [17, 18, 19, 20, 21, 22, 23, 24, 25, 26, 27, 28, 29, 30, 31, 32] (wcX6_X5_17 cs a (k_w (k_w S_14 20 p2.toNatClampNeg (x4_14 / (6 : Int32))) 20 p3.toNatClampNeg (x4_14 - x4_14 / (6 : Int32) * (6 : Int32))) L)
        have hDc : va_D A (wX5 cs (k_wi a 17) (k_wi (k_w (k_w S_14 20 p2.toNatClampNeg (x4_14 / (6 : Int32))) 20 p3.toNatClampNeg (x4_14 - x4_14 / (6 : Int32) * (6 : Int32))) 17)) := hD.sub [17, 18, 19, 20, 21, 22, 23, 24, 25, 26, 27, 28, 29, 30, 31, 32] (by decide) (wcX6_X5_17 cs a (k_w (k_w S_14 20 p2.toNatClampNeg (x4_14 / (6 : Int32))) 20 p3.toNatClampNeg (x4_14 - x4_14 / (6 : Int32) * (6 : Int32))) L)
        have hF := k_self hDc hS hA
        refine k_run_i (va_runV (As := [.int p1, .int ((k_w (k_w S_14 20 p2.toNatClampNeg (x4_14 / (6 : Int32))) 20 p3.toNatClampNeg (x4_14 - x4_14 / (6 : Int32) * (6 : Int32))) 25 p1.toNatClampNeg)]) (rest := [.int x4_14, .ref (a 78)]) ⟨hx, hb, hml, hown, hts⟩ (mX5_nextOf l D cs (k_wi a 17) (k_wi (k_w (k_w S_14 20 p2.toNatClampNeg (x4_14 / (6 : Int32))) 20 p3.toNatClampNeg (x4_14 - x4_14 / (6 : Int32) * (6 : Int32))) 17) p1 ((k_w (k_w S_14 20 p2.toNatClampNeg (x4_14 / (6 : Int32))) 20 p3.toNatClampNeg (x4_14 - x4_14 / (6 : Int32) * (6 : Int32))) 25 p1.toNatClampNeg) r69 hq69 _) (cwV 2 hts gX6_seeWhoGetsIt_X5_nextOf rfl rfl rfl (by decide +kernel) ⟨Nat.le_of_ble_eq_true rfl, Nat.le_of_ble_eq_true rfl⟩) ⟨k_blind, va_recv hK hP (ci := 3) (q0 := 17) rfl rfl, k_pre hPc hK hNn hDc⟩ rfl rfl hl.1 rfl (lv_room (Nat.le_of_ble_eq_true rfl)) dX6_seeWhoGetsIt_69 ⟨Nat.le_of_ble_eq_true rfl, Nat.le_of_ble_eq_true rfl⟩) hS hF (fun H locs hP1 hk hS => ?_)
        have hP : va_P D vwCl (wX6 cs a (k_w (k_w S_14 20 p2.toNatClampNeg (x4_14 / (6 : Int32))) 20 p3.toNatClampNeg (x4_14 - x4_14 / (6 : Int32) * (6 : Int32))) L) _ := k_back hP hD [17, 18, 19, 20, 21, 22, 23, 24, 25, 26, 27, 28, 29, 30, 31, 32] [0, 1, 2, 3, 4, 5, 6, 7, 8, 9, 10, 11, 12, 13, 14, 15, 16, 33, 34, 35, 36, 37, 38, 39, 40, 41, 42, 43, 44, 45, 46, 47, 48, 49, 50, 51, 52, 53, 54, 55, 56, 57, 58, 59, 60, 61, 62, 63, 64, 65, 66, 67, 68, 69, 70, 71, 72, 73, 74, 75, 76, 77, 78] [0, 1, 2, 3, 4, 5, 6, 7, 8, 9, 10, 11, 12, 13, 14, 15, 16, 63, 64, 65, 66, 67, 68, 69, 70, 71, 72, 73, 74, 75, 76, 77, 78, 17, 18, 19, 20, 21, 22, 23, 24, 25, 26, 27, 28, 29, 30, 31, 32, 33, 34, 35, 36, 37, 38, 39, 40, 41, 42, 43, 44, 45, 46, 47, 48, 49, 50, 51, 52, 53, 54, 55, 56, 57, 58, 59, 60, 61, 62] (wcX6_X5_17 cs a (k_w (k_w S_14 20 p2.toNatClampNeg (x4_14 / (6 : Int32))) 20 p3.toNatClampNeg (x4_14 - x4_14 / (6 : Int32) * (6 : Int32))) L) (by decide) hk hP1 (wbX6_X5_17 cs a (k_w (k_w S_14 20 p2.toNatClampNeg (x4_14 / (6 : Int32))) 20 p3.toNatClampNeg (x4_14 - x4_14 / (6 : Int32) * (6 : Int32))) L)
        have hD := hDA (k_w (k_w S_14 20 p2.toNatClampNeg (x4_14 / (6 : Int32))) 20 p3.toNatClampNeg (x4_14 - x4_14 / (6 : Int32) * (6 : Int32))) L
        obtain ⟨hi72, hd⟩ := dn_i hd
        refine k_iast (D := D) (k := x4_14.toNatClampNeg) (by rfl) hx hb hK hP hD hS 78 1 rfl rfl hi72 dX6_seeWhoGetsIt_72 (fun H locs hP hD hS => ?_)
        have hP : va_P D vwCl (wX6 cs a (k_w (k_w (k_w S_14 20 p2.toNatClampNeg (x4_14 / (6 : Int32))) 20 p3.toNatClampNeg (x4_14 - x4_14 / (6 : Int32) * (6 : Int32))) 78 x4_14.toNatClampNeg r69) L) _ := k_eq hP (wsX6_a78 cs a (k_w (k_w S_14 20 p2.toNatClampNeg (x4_14 / (6 : Int32))) 20 p3.toNatClampNeg (x4_14 - x4_14 / (6 : Int32) * (6 : Int32))) L x4_14.toNatClampNeg r69)
        have hD := hDA (k_w (k_w (k_w S_14 20 p2.toNatClampNeg (x4_14 / (6 : Int32))) 20 p3.toNatClampNeg (x4_14 - x4_14 / (6 : Int32) * (6 : Int32))) 78 x4_14.toNatClampNeg r69) L
        refine lv_iinc (v := x4_14 + (1 : Int32)) (lv' := [(4, .int (x4_14 + (1 : Int32))), (0, .ref (a 0)), (1, .int p1), (2, .int p2), (3, .int p3)]) hx hb dX6_seeWhoGetsIt_73 hl (k := 4) rfl rfl (by decide) rfl (fun ls hl => ?_)
        refine lv_goto (tgt := 14) hx hb dX6_seeWhoGetsIt_76 (by decide) ?_
        exact ih1 (x4_14 + (1 : Int32)) (k_w (k_w (k_w S_14 20 p2.toNatClampNeg (x4_14 / (6 : Int32))) 20 p3.toNatClampNeg (x4_14 - x4_14 / (6 : Int32) * (6 : Int32))) 78 x4_14.toNatClampNeg r69) _ _ _ (dn_bk hd hy1) (lv_sub hl [1, 2, 3, 4, 0] rfl) hP hS
  unfold nX6_seeWhoGetsIt at hd
  refine lv_aload_n hx hb dX6_seeWhoGetsIt_0 rfl (lv_at hl 0 rfl) ?_
  refine va_get (D := D) (ci := 4) (v := .ref (a 17)) (C := RX6) (T := TX6) (N := 12) hx hb hts (fun w h => List.mem_cons_of_mem _ (List.mem_append_left _ (List.mem_append_left _ (List.mem_append_right _ h)))) hown hK hP 0 rfl rfl 1 (by decide) (hts (.fieldLink RX6 16 "LeastNeed" "trial" "LLeastNeed$Valley;") (List.mem_of_getElem? (i := 1) rfl)) (fun _ h9 => h9) rfl dX6_seeWhoGetsIt_1 ?_
  refine lv_aload_n hx hb dX6_seeWhoGetsIt_4 rfl (lv_at hl 0 rfl) ?_
  refine va_get (D := D) (ci := 4) (v := .ref (a 1)) (C := RX6) (T := TX6) (N := 12) hx hb hts (fun w h => List.mem_cons_of_mem _ (List.mem_append_left _ (List.mem_append_left _ (List.mem_append_right _ h)))) hown hK hP 0 rfl rfl 0 (by decide) (hts (.fieldLink RX6 12 "LeastNeed" "now" "LLeastNeed$Valley;") (List.mem_of_getElem? (i := 2) rfl)) (fun _ h9 => h9) rfl dX6_seeWhoGetsIt_5 ?_
  obtain ⟨S8, hq8, hd⟩ := dn_b1 hd
  have hPc : va_P D vwCl (wX5 cs (k_wi a 17) (k_wi S 17) ++ wX5 cs (k_wi a 1) (k_wi S 1)) _ := k_sub hP [17, 18, 19, 20, 21, 22, 23, 24, 25, 26, 27, 28, 29, 30, 31, 32, 1, 2, 3, 4, 5, 6, 7, 8, 9, 10, 11, 12, 13, 14, 15, 16] (wcX6_X5_X5_17_1 cs a S L)
  have hDc : va_D A (wX5 cs (k_wi a 17) (k_wi S 17) ++ wX5 cs (k_wi a 1) (k_wi S 1)) := hD.sub [17, 18, 19, 20, 21, 22, 23, 24, 25, 26, 27, 28, 29, 30, 31, 32, 1, 2, 3, 4, 5, 6, 7, 8, 9, 10, 11, 12, 13, 14, 15, 16] (by decide) (wcX6_X5_X5_17_1 cs a S L)
  have hF := k_self hDc hS hA
  refine k_run_v (va_runV (As := [.ref (a 1)]) (rest := []) ⟨hx, hb, hml, hown, hts⟩ (mX5_copyOf l D cs (k_wi a 17) (k_wi a 1) (k_wi S 17) (k_wi S 1) S8 hq8 _) (cwV 1 hts gX6_seeWhoGetsIt_X5_copyOf rfl rfl rfl (by decide +kernel) ⟨Nat.le_of_ble_eq_true rfl, Nat.le_of_ble_eq_true rfl⟩) ⟨k_blind, va_recv hK hP (ci := 3) (q0 := 17) rfl rfl, k_pre hPc hK hNn hDc⟩ rfl rfl hl.1 rfl (lv_room (Nat.le_of_ble_eq_true rfl)) dX6_seeWhoGetsIt_8 ⟨Nat.le_of_ble_eq_true rfl, Nat.le_of_ble_eq_true rfl⟩) hS hF (fun H locs hP1 hk hS => ?_)
  have hP : va_P D vwCl (wX6 cs a (k_sp S 17 16 S8) L) _ := k_back hP hD [17, 18, 19, 20, 21, 22, 23, 24, 25, 26, 27, 28, 29, 30, 31, 32, 1, 2, 3, 4, 5, 6, 7, 8, 9, 10, 11, 12, 13, 14, 15, 16] [0, 33, 34, 35, 36, 37, 38, 39, 40, 41, 42, 43, 44, 45, 46, 47, 48, 49, 50, 51, 52, 53, 54, 55, 56, 57, 58, 59, 60, 61, 62, 63, 64, 65, 66, 67, 68, 69, 70, 71, 72, 73, 74, 75, 76, 77, 78] [0, 63, 64, 65, 66, 67, 68, 69, 70, 71, 72, 73, 74, 75, 76, 77, 78, 47, 48, 49, 50, 51, 52, 53, 54, 55, 56, 57, 58, 59, 60, 61, 62, 1, 2, 3, 4, 5, 6, 7, 8, 9, 10, 11, 12, 13, 14, 15, 16, 17, 18, 19, 20, 21, 22, 23, 24, 25, 26, 27, 28, 29, 30, 31, 32, 33, 34, 35, 36, 37, 38, 39, 40, 41, 42, 43, 44, 45, 46] (wcX6_X5_X5_17_1 cs a S L) (by decide) hk hP1 (wbX6_X5_X5_17_1_S0 cs a S L S8)
  have hD := hDA (k_sp S 17 16 S8) L
  refine lv_iconst (v := (0 : Int32)) hx hb dX6_seeWhoGetsIt_11 (by decide) ?_
  refine lv_istore (lv' := [(4, .int (0 : Int32)), (0, .ref (a 0)), (1, .int p1), (2, .int p2), (3, .int p3)]) hx hb dX6_seeWhoGetsIt_12 hl (by decide) rfl (fun ls hl => ?_)
  exact Lo14 1000 (0 : Int32) (k_sp S 17 16 S8) _ _ _ hd (lv_sub hl [1, 2, 3, 4, 0] rfl) hP hS
-- LeastNeed.pay(III)I
set_option maxRecDepth 20000 in
def nX6_pay (S : Nat → Nat → Int32) (L : Nat → Nat → Int64) (p1 : Int32) (p2 : Int32) (p3 : Int32) : Option (Int32) := if p1 < 0 ∨ 36 ≤ p1.toNatClampNeg then none else if (S 78 p1.toNatClampNeg) = p2 then some ((-p3) - (6 : Int32)) else some (-p3)
set_option maxHeartbeats 4000000 in
set_option maxRecDepth 100000 in
theorem mX6_pay (l : Launch) (D : va_G) (cs : Nat → ClassId) (a : Nat → Nat) (S : Nat → Nat → Int32) (L : Nat → Nat → Int64) (p1 : Int32) (p2 : Int32) (p3 : Int32) (r9 : Int32) (hd : nX6_pay S L p1 p2 p3 = some r9) : ∀ sz : Nat, Met l yX6_pay wsX6_pay ({ frames := 0, cells := 0, slots := 0, locals := 0 }) (k_Pc D cs [.ref (a 0), .int p1, .int p2, .int p3] (wX6 cs a S L) sz) (k_Qi D r9 (wX6 cs a S L) (wX6 cs a S L) sz) 0 0 (va_A (wX6 cs a S L) sz) := by
  intro sz
  refine Met.ofW (cc := cX6_pay) (maxL := 4) (ret := (some .int)) (by decide) rfl ?_
  intro p e s m args below meth c s₁ B hml hv
  obtain ⟨rfl, hsz, hP, hK, hD0, hNn⟩ := hv
  have hx := B.exec
  have hb := B.bytes
  have hr := B.returns
  have hts := atoms_spec (ws := wsX6_pay) B.pre
  have hown : s.vm.findClass RX6 = some m.cls := findClass_of_methodNamed B.named
  have hlocks := B.notSynchronized
  subst hsz
  obtain ⟨A, hAe⟩ : ∃ A : Nat → Prop, A = va_A (wX6 cs a S L) s.heap.size := ⟨_, rfl⟩
  have hD : va_D A (wX6 cs a S L) := by rw [hAe]; exact hD0.self
  have hA : ∀ q : Nat, s.heap.size ≤ q → A q := fun q h => by rw [hAe]; exact Or.inr h
  have hS : va_S A s.heap s.heap [] := va_S.rf
  have hDA : ∀ (S : Nat → Nat → Int32) (L : Nat → Nat → Int64), va_D A (wX6 cs a S L) := fun S L => k_DA hD rfl
  have hl := lv_entry ([.ref (a 0), .int p1, .int p2, .int p3]) (n := 4) (Nat.le_of_ble_eq_true rfl)
  rw [lg_entry_eq]
  generalize (lg_sl ([.ref (a 0), .int p1, .int p2, .int p3]) ++ List.replicate (4 - (lg_sl ([.ref (a 0), .int p1, .int p2, .int p3])).length) Slot.unset).toArray = ls at hl ⊢
  have hl : lv_has ls 4 [(0, .ref (a 0)), (1, .int p1), (2, .int p2), (3, .int p3)] := hl
  obtain ⟨Q, hQ⟩ : ∃ Q, Q = MQ below (k_Qi D r9 (wX6 cs a S L) (wX6 cs a S L) s.heap.size) ([.ref (a 0), .int p1, .int p2, .int p3] : List Value).toArray s 0 0 (va_A (wX6 cs a S L) s.heap.size) := ⟨_, rfl⟩
  rw [← hQ]
  unfold nX6_pay at hd
  refine lv_aload_n hx hb dX6_pay_0 rfl (lv_at hl 0 rfl) ?_
  refine va_get (D := D) (ci := 4) (v := .ref (a 78)) (C := RX6) (T := TX6) (N := 12) hx hb hts (fun w h => List.mem_cons_of_mem _ (List.mem_append_right _ h)) hown hK hP 0 rfl rfl 9 (by decide) (hts (.fieldLink RX6 51 "LeastNeed" "goals" "[I") (List.mem_of_getElem? (i := 1) rfl)) (fun _ h9 => h9) rfl dX6_pay_1 ?_
  refine lv_iload_n hx hb dX6_pay_4 rfl (lv_at hl 1 rfl) ?_
  obtain ⟨hi5, hd⟩ := dn_i hd
  refine k_iald (D := D) (k := p1.toNatClampNeg) (by rfl) hx hb hK hP 78 1 rfl rfl hi5 dX6_pay_5 ?_
  refine lv_iload_n hx hb dX6_pay_6 rfl (lv_at hl 2 rfl) ?_
  refine lv_icmp_ne (tgt := 18) hx hb dX6_pay_7 (by decide) (fun c7 => ?_) (fun c7 => ?_)
  · have hd := dn_f c7 hd
    refine lv_iload_n hx hb dX6_pay_18 rfl (lv_at hl 3 rfl) ?_
    refine lv_ineg hx hb dX6_pay_19 ?_
    have e1 := dn_s1 hd
    exact k_iret hx hb hr hQ hAe e1 rfl hP hS hlocks dX6_pay_20
  · have hd := dn_t c7 hd
    refine lv_iload_n hx hb dX6_pay_10 rfl (lv_at hl 3 rfl) ?_
    refine lv_ineg hx hb dX6_pay_11 ?_
    refine lv_bipush (v := (6 : Int32)) hx hb dX6_pay_12 (by decide) ?_
    refine lv_isub hx hb dX6_pay_14 ?_
    refine lv_goto (tgt := 20) hx hb dX6_pay_15 (by decide) ?_
    have e1 := dn_s1 hd
    exact k_iret hx hb hr hQ hAe e1 rfl hP hS hlocks dX6_pay_20
-- LeastNeed.rests(III)Z
set_option maxRecDepth 20000 in
def nX6_rests_l35 (p2 : Int32) (p3 : Int32) (x4_35 : Int32) (x5_35 : Int32) (x6_35 : Int32) (x7_35 : Int32) (x8_35 : Int32) (S : Nat → Nat → Int32) (L : Nat → Nat → Int64) : Option ((Int32) ⊕ (Int32)) := if (6 : Int32) ≤ x8_35 then k_up (some (1 : Int32)) else k_b1 (nX6_pay S L (((6 : Int32) * x8_35) + x5_35) p2 x8_35) (fun r54 => if r54 ≤ x6_35 then k_b1 (nX6_pay S L (((6 : Int32) * x4_35) + x8_35) p3 x8_35) (fun r76 => if r76 ≤ x7_35 then some (.inl (x8_35 + (1 : Int32))) else k_up (some (0 : Int32))) else k_up (some (0 : Int32)))
set_option maxRecDepth 20000 in
def nX6_rests (S : Nat → Nat → Int32) (L : Nat → Nat → Int64) (p1 : Int32) (p2 : Int32) (p3 : Int32) : Option (Int32) := k_b1 (nX6_pay S L p1 p2 (p1 / (6 : Int32))) (fun r17 => k_b1 (nX6_pay S L p1 p3 (p1 - p1 / (6 : Int32) * (6 : Int32))) (fun r27 => k_it (fun st => nX6_rests_l35 p2 p3 (p1 / (6 : Int32)) (p1 - p1 / (6 : Int32) * (6 : Int32)) r17 r27 st S L) 1000 (0 : Int32)))
set_option maxHeartbeats 4000000 in
set_option maxRecDepth 100000 in
theorem mX6_rests (l : Launch) (D : va_G) (cs : Nat → ClassId) (a : Nat → Nat) (S : Nat → Nat → Int32) (L : Nat → Nat → Int64) (p1 : Int32) (p2 : Int32) (p3 : Int32) (r9 : Int32) (hd : nX6_rests S L p1 p2 p3 = some r9) : ∀ sz : Nat, Met l yX6_rests wsX6_rests ({ frames := 1, cells := 0, slots := 0, locals := 23 }) (k_Pc D cs [.ref (a 0), .int p1, .int p2, .int p3] (wX6 cs a S L) sz) (k_Qi D r9 (wX6 cs a S L) (wX6 cs a S L) sz) 0 0 (va_A (wX6 cs a S L) sz) := by
  intro sz
  refine Met.ofW (cc := cX6_rests) (maxL := 9) (ret := (some .boolean)) (by decide) rfl ?_
  intro p e s m args below meth c s₁ B hml hv
  obtain ⟨rfl, hsz, hP, hK, hD0, hNn⟩ := hv
  have hx := B.exec
  have hb := B.bytes
  have hr := B.returns
  have hts := atoms_spec (ws := wsX6_rests) B.pre
  have hown : s.vm.findClass RX6 = some m.cls := findClass_of_methodNamed B.named
  have hlocks := B.notSynchronized
  subst hsz
  obtain ⟨A, hAe⟩ : ∃ A : Nat → Prop, A = va_A (wX6 cs a S L) s.heap.size := ⟨_, rfl⟩
  have hD : va_D A (wX6 cs a S L) := by rw [hAe]; exact hD0.self
  have hA : ∀ q : Nat, s.heap.size ≤ q → A q := fun q h => by rw [hAe]; exact Or.inr h
  have hS : va_S A s.heap s.heap [] := va_S.rf
  have hDA : ∀ (S : Nat → Nat → Int32) (L : Nat → Nat → Int64), va_D A (wX6 cs a S L) := fun S L => k_DA hD rfl
  have hl := lv_entry ([.ref (a 0), .int p1, .int p2, .int p3]) (n := 9) (Nat.le_of_ble_eq_true rfl)
  rw [lg_entry_eq]
  generalize (lg_sl ([.ref (a 0), .int p1, .int p2, .int p3]) ++ List.replicate (9 - (lg_sl ([.ref (a 0), .int p1, .int p2, .int p3])).length) Slot.unset).toArray = ls at hl ⊢
  have hl : lv_has ls 9 [(0, .ref (a 0)), (1, .int p1), (2, .int p2), (3, .int p3)] := hl
  obtain ⟨Q, hQ⟩ : ∃ Q, Q = MQ below (k_Qi D r9 (wX6 cs a S L) (wX6 cs a S L) s.heap.size) ([.ref (a 0), .int p1, .int p2, .int p3] : List Value).toArray s 0 0 (va_A (wX6 cs a S L) s.heap.size) := ⟨_, rfl⟩
  rw [← hQ]
  have Lo35 : ∀ (n1 : Nat) (x4_35 : Int32) (x5_35 : Int32) (x6_35 : Int32) (x7_35 : Int32) (x8_35 : Int32) (H : Heap) (locs : List Loc) (ls : Array Slot), k_it (fun st => nX6_rests_l35 p2 p3 x4_35 x5_35 x6_35 x7_35 st S L) n1 x8_35 = some r9 → lv_has ls 9 [(0, .ref (a 0)), (2, .int p2), (3, .int p3), (4, .int x4_35), (5, .int x5_35), (6, .int x6_35), (7, .int x7_35), (8, .int x8_35)] → va_P D vwCl (wX6 cs a S L) H → va_S A s.heap H locs → W p l e (headSpec wsX6_rests ({ frames := 1, cells := 0, slots := 0, locals := 23 })).room s m ([.ref (a 0), .int p1, .int p2, .int p3] : List Value).toArray below meth c H locs 0 0 Q (F0 m 35 ls []) := by
    intro n1
    induction n1 with
    | zero => intro x4_35 x5_35 x6_35 x7_35 x8_35 H locs ls hd; exact dn_it0 hd
    | succ n1 ih1 =>
      intro x4_35 x5_35 x6_35 x7_35 x8_35 H locs ls hd hl hP hS
      have hD := hDA S L
      obtain ⟨y1, hd, hy1⟩ := dn_it hd
      have hd : nX6_rests_l35 p2 p3 x4_35 x5_35 x6_35 x7_35 x8_35 S L = some y1 := hd
      unfold nX6_rests_l35 at hd
      refine lv_iload hx hb dX6_rests_35 (lv_at hl 7 rfl) ?_
      refine lv_bipush (v := (6 : Int32)) hx hb dX6_rests_37 (by decide) ?_
      refine lv_icmp_ge (tgt := 92) hx hb dX6_rests_39 (by decide) (fun c39 => ?_) (fun c39 => ?_)
      · have hd := dn_t c39 hd
        have hd := dn_up hd hy1
        refine lv_iconst (v := (1 : Int32)) hx hb dX6_rests_92 (by decide) ?_
        have e1 := dn_s1 hd
        exact k_zret hx hb hr rfl hQ hAe e1 rfl hP hS hlocks dX6_rests_93
      · have hd := dn_f c39 hd
        refine lv_aload_n hx hb dX6_rests_42 rfl (lv_at hl 0 rfl) ?_
        refine lv_bipush (v := (6 : Int32)) hx hb dX6_rests_43 (by decide) ?_
        refine lv_iload hx hb dX6_rests_45 (lv_at hl 7 rfl) ?_
        refine lv_imul hx hb dX6_rests_47 ?_
        refine lv_iload hx hb dX6_rests_48 (lv_at hl 4 rfl) ?_
        refine lv_iadd hx hb dX6_rests_50 ?_
        refine lv_iload_n hx hb dX6_rests_51 rfl (lv_at hl 1 rfl) ?_
        refine lv_iload hx hb dX6_rests_52 (lv_at hl 7 rfl) ?_
        obtain ⟨r54, hq54, hd⟩ := dn_b1 hd
        have hF := k_self hD hS hA
        refine k_run_i (va_runV (As := [.int (((6 : Int32) * x8_35) + x5_35), .int p2, .int x8_35]) (rest := []) ⟨hx, hb, hml, hown, hts⟩ (mX6_pay l D cs a S L (((6 : Int32) * x8_35) + x5_35) p2 x8_35 r54 hq54 _) (cwV 3 hts gX6_rests_X6_pay rfl rfl rfl (by decide +kernel) ⟨Nat.le_of_ble_eq_true rfl, Nat.le_of_ble_eq_true rfl⟩) ⟨k_blind, va_recv hK hP (ci := 4) (q0 := 0) rfl rfl, k_pre hP hK hNn hD⟩ rfl rfl hl.1 rfl (lv_room (Nat.le_of_ble_eq_true rfl)) dX6_rests_54 ⟨Nat.le_of_ble_eq_true rfl, Nat.le_of_ble_eq_true rfl⟩) hS hF (fun H locs hP1 hk hS => ?_)
        have hP : va_P D vwCl (wX6 cs a S L) _ := hP1
        have hD := hDA S L
        refine lv_iload hx hb dX6_rests_57 (lv_at hl 5 rfl) ?_
        refine lv_icmp_le (tgt := 64) hx hb dX6_rests_59 (by decide) (fun c59 => ?_) (fun c59 => ?_)
        · have hd := dn_t c59 hd
          refine lv_aload_n hx hb dX6_rests_64 rfl (lv_at hl 0 rfl) ?_
          refine lv_bipush (v := (6 : Int32)) hx hb dX6_rests_65 (by decide) ?_
          refine lv_iload hx hb dX6_rests_67 (lv_at hl 3 rfl) ?_
          refine lv_imul hx hb dX6_rests_69 ?_
          refine lv_iload hx hb dX6_rests_70 (lv_at hl 7 rfl) ?_
          refine lv_iadd hx hb dX6_rests_72 ?_
          refine lv_iload_n hx hb dX6_rests_73 rfl (lv_at hl 2 rfl) ?_
          refine lv_iload hx hb dX6_rests_74 (lv_at hl 7 rfl) ?_
          obtain ⟨r76, hq76, hd⟩ := dn_b1 hd
          have hF := k_self hD hS hA
          refine k_run_i (va_runV (As := [.int (((6 : Int32) * x4_35) + x8_35), .int p3, .int x8_35]) (rest := []) ⟨hx, hb, hml, hown, hts⟩ (mX6_pay l D cs a S L (((6 : Int32) * x4_35) + x8_35) p3 x8_35 r76 hq76 _) (cwV 3 hts gX6_rests_X6_pay rfl rfl rfl (by decide +kernel) ⟨Nat.le_of_ble_eq_true rfl, Nat.le_of_ble_eq_true rfl⟩) ⟨k_blind, va_recv hK hP (ci := 4) (q0 := 0) rfl rfl, k_pre hP hK hNn hD⟩ rfl rfl hl.1 rfl (lv_room (Nat.le_of_ble_eq_true rfl)) dX6_rests_76 ⟨Nat.le_of_ble_eq_true rfl, Nat.le_of_ble_eq_true rfl⟩) hS hF (fun H locs hP1 hk hS => ?_)
          have hP : va_P D vwCl (wX6 cs a S L) _ := hP1
          have hD := hDA S L
          refine lv_iload hx hb dX6_rests_79 (lv_at hl 6 rfl) ?_
          refine lv_icmp_le (tgt := 86) hx hb dX6_rests_81 (by decide) (fun c81 => ?_) (fun c81 => ?_)
          · have hd := dn_t c81 hd
            refine lv_iinc (v := x8_35 + (1 : Int32)) (lv' := [(8, .int (x8_35 + (1 : Int32))), (0, .ref (a 0)), (2, .int p2), (3, .int p3), (4, .int x4_35), (5, .int x5_35), (6, .int x6_35), (7, .int x7_35)]) hx hb dX6_rests_86 hl (k := 7) rfl rfl (by decide) rfl (fun ls hl => ?_)
            refine lv_goto (tgt := 35) hx hb dX6_rests_89 (by decide) ?_
            exact ih1 x4_35 x5_35 x6_35 x7_35 (x8_35 + (1 : Int32)) _ _ _ (dn_bk hd hy1) (lv_sub hl [1, 2, 3, 4, 5, 6, 7, 0] rfl) hP hS
          · have hd := dn_f c81 hd
            have hd := dn_up hd hy1
            refine lv_iconst (v := (0 : Int32)) hx hb dX6_rests_84 (by decide) ?_
            have e1 := dn_s1 hd
            exact k_zret hx hb hr rfl hQ hAe e1 rfl hP hS hlocks dX6_rests_85
        · have hd := dn_f c59 hd
          have hd := dn_up hd hy1
          refine lv_iconst (v := (0 : Int32)) hx hb dX6_rests_62 (by decide) ?_
          have e1 := dn_s1 hd
          exact k_zret hx hb hr rfl hQ hAe e1 rfl hP hS hlocks dX6_rests_63
  unfold nX6_rests at hd
  refine lv_iload_n hx hb dX6_rests_0 rfl (lv_at hl 1 rfl) ?_
  refine lv_bipush (v := (6 : Int32)) hx hb dX6_rests_1 (by decide) ?_
  refine lv_idiv hx hb dX6_rests_3 (by decide) ?_
  refine lv_istore (lv' := [(4, .int (p1 / (6 : Int32))), (0, .ref (a 0)), (1, .int p1), (2, .int p2), (3, .int p3)]) hx hb dX6_rests_4 hl (by decide) rfl (fun ls hl => ?_)
  refine lv_iload_n hx hb dX6_rests_6 rfl (lv_at hl 2 rfl) ?_
  refine lv_bipush (v := (6 : Int32)) hx hb dX6_rests_7 (by decide) ?_
  refine lv_irem hx hb dX6_rests_9 (by decide) ?_
  refine lv_istore (lv' := [(5, .int (p1 - p1 / (6 : Int32) * (6 : Int32))), (4, .int (p1 / (6 : Int32))), (0, .ref (a 0)), (1, .int p1), (2, .int p2), (3, .int p3)]) hx hb dX6_rests_10 hl (by decide) rfl (fun ls hl => ?_)
  refine lv_aload_n hx hb dX6_rests_12 rfl (lv_at hl 2 rfl) ?_
  refine lv_iload_n hx hb dX6_rests_13 rfl (lv_at hl 3 rfl) ?_
  refine lv_iload_n hx hb dX6_rests_14 rfl (lv_at hl 4 rfl) ?_
  refine lv_iload hx hb dX6_rests_15 (lv_at hl 1 rfl) ?_
  obtain ⟨r17, hq17, hd⟩ := dn_b1 hd
  have hF := k_self hD hS hA
  refine k_run_i (va_runV (As := [.int p1, .int p2, .int (p1 / (6 : Int32))]) (rest := []) ⟨hx, hb, hml, hown, hts⟩ (mX6_pay l D cs a S L p1 p2 (p1 / (6 : Int32)) r17 hq17 _) (cwV 3 hts gX6_rests_X6_pay rfl rfl rfl (by decide +kernel) ⟨Nat.le_of_ble_eq_true rfl, Nat.le_of_ble_eq_true rfl⟩) ⟨k_blind, va_recv hK hP (ci := 4) (q0 := 0) rfl rfl, k_pre hP hK hNn hD⟩ rfl rfl hl.1 rfl (lv_room (Nat.le_of_ble_eq_true rfl)) dX6_rests_17 ⟨Nat.le_of_ble_eq_true rfl, Nat.le_of_ble_eq_true rfl⟩) hS hF (fun H locs hP1 hk hS => ?_)
  have hP : va_P D vwCl (wX6 cs a S L) _ := hP1
  have hD := hDA S L
  refine lv_istore (lv' := [(6, .int r17), (5, .int (p1 - p1 / (6 : Int32) * (6 : Int32))), (4, .int (p1 / (6 : Int32))), (0, .ref (a 0)), (1, .int p1), (2, .int p2), (3, .int p3)]) hx hb dX6_rests_20 hl (by decide) rfl (fun ls hl => ?_)
  refine lv_aload_n hx hb dX6_rests_22 rfl (lv_at hl 3 rfl) ?_
  refine lv_iload_n hx hb dX6_rests_23 rfl (lv_at hl 4 rfl) ?_
  refine lv_iload_n hx hb dX6_rests_24 rfl (lv_at hl 6 rfl) ?_
  refine lv_iload hx hb dX6_rests_25 (lv_at hl 1 rfl) ?_
  obtain ⟨r27, hq27, hd⟩ := dn_b1 hd
  have hF := k_self hD hS hA
  refine k_run_i (va_runV (As := [.int p1, .int p3, .int (p1 - p1 / (6 : Int32) * (6 : Int32))]) (rest := []) ⟨hx, hb, hml, hown, hts⟩ (mX6_pay l D cs a S L p1 p3 (p1 - p1 / (6 : Int32) * (6 : Int32)) r27 hq27 _) (cwV 3 hts gX6_rests_X6_pay rfl rfl rfl (by decide +kernel) ⟨Nat.le_of_ble_eq_true rfl, Nat.le_of_ble_eq_true rfl⟩) ⟨k_blind, va_recv hK hP (ci := 4) (q0 := 0) rfl rfl, k_pre hP hK hNn hD⟩ rfl rfl hl.1 rfl (lv_room (Nat.le_of_ble_eq_true rfl)) dX6_rests_27 ⟨Nat.le_of_ble_eq_true rfl, Nat.le_of_ble_eq_true rfl⟩) hS hF (fun H locs hP1 hk hS => ?_)
  have hP : va_P D vwCl (wX6 cs a S L) _ := hP1
  have hD := hDA S L
  refine lv_istore (lv' := [(7, .int r27), (6, .int r17), (5, .int (p1 - p1 / (6 : Int32) * (6 : Int32))), (4, .int (p1 / (6 : Int32))), (0, .ref (a 0)), (1, .int p1), (2, .int p2), (3, .int p3)]) hx hb dX6_rests_30 hl (by decide) rfl (fun ls hl => ?_)
  refine lv_iconst (v := (0 : Int32)) hx hb dX6_rests_32 (by decide) ?_
  refine lv_istore (lv' := [(8, .int (0 : Int32)), (7, .int r27), (6, .int r17), (5, .int (p1 - p1 / (6 : Int32) * (6 : Int32))), (4, .int (p1 / (6 : Int32))), (0, .ref (a 0)), (1, .int p1), (2, .int p2), (3, .int p3)]) hx hb dX6_rests_33 hl (by decide) rfl (fun ls hl => ?_)
  exact Lo35 1000 (p1 / (6 : Int32)) (p1 - p1 / (6 : Int32) * (6 : Int32)) r17 r27 (0 : Int32) _ _ _ hd (lv_sub hl [5, 7, 8, 4, 3, 2, 1, 0] rfl) hP hS
-- LeastNeed.coats(IIII)I
set_option maxRecDepth 20000 in
def nX6_coats_l56 (p2 : Int32) (p3 : Int32) (p4 : Int32) (x5_56 : Int32) (x6_56 : Int32) (S_56 : Nat → Nat → Int32) (L : Nat → Nat → Int64) : Option ((Int32 × Int32) ⊕ (Int32 × (Nat → Nat → Int32))) := if (36 : Int32) ≤ x6_56 then k_up (if p4 = (-1 : Int32) then some (x5_56, S_56) else some ((-5 : Int32), S_56)) else k_b1 (nX6_rests S_56 L x6_56 p2 p3) (fun r68 => if r68 = 0 then some (.inl (x5_56, (x6_56 + (1 : Int32)))) else if x5_56 = p4 then k_up (some (x6_56, S_56)) else some (.inl ((x5_56 + (1 : Int32)), (x6_56 + (1 : Int32)))))
set_option maxRecDepth 20000 in
def nX6_coats_j35 (S_35 : Nat → Nat → Int32) (L : Nat → Nat → Int64) : Option (Int32 × (Nat → Nat → Int32)) := k_b2 (nX6_refusedAsBad S_35 L) (fun r36 S36 => some ((-10 : Int32), S36))
set_option maxRecDepth 20000 in
def nX6_coats (S : Nat → Nat → Int32) (L : Nat → Nat → Int64) (p1 : Int32) (p2 : Int32) (p3 : Int32) (p4 : Int32) : Option (Int32 × (Nat → Nat → Int32)) := k_b1 (nX6_isThing S L p1) (fun r2 => if r2 = 0 then nX6_coats_j35 S L else k_b1 (nX6_isPerson S L p2) (fun r10 => if r10 = 0 then nX6_coats_j35 S L else k_b1 (nX6_isPerson S L p3) (fun r18 => if r18 = 0 then nX6_coats_j35 S L else if p2 = p3 then nX6_coats_j35 S L else if (-1 : Int32) ≤ p4 then k_b1 (nX6_seeWhoGetsIt S L p1 p2 p3) (fun S47 => k_it (fun st => nX6_coats_l56 p2 p3 p4 st.1 st.2 S47 L) 1000 ((0 : Int32), (0 : Int32))) else nX6_coats_j35 S L)))
set_option maxHeartbeats 4000000 in
set_option maxRecDepth 100000 in
theorem mX6_coats (l : Launch) (D : va_G) (cs : Nat → ClassId) (a : Nat → Nat) (S : Nat → Nat → Int32) (L : Nat → Nat → Int64) (p1 : Int32) (p2 : Int32) (p3 : Int32) (p4 : Int32) (r9 : Int32) (S9 : (Nat → Nat → Int32)) (hd : nX6_coats S L p1 p2 p3 p4 = some (r9, S9)) : ∀ sz : Nat, Met l yX6_coats wsX6_coats ({ frames := 5, cells := 0, slots := 0, locals := 130 }) (k_Pc D cs [.ref (a 0), .int p1, .int p2, .int p3, .int p4] (wX6 cs a S L) sz) (k_Qi D r9 (wX6 cs a S L) (wX6 cs a S9 L) sz) 0 0 (va_A (wX6 cs a S L) sz) := by
  intro sz
  refine Met.ofW (cc := cX6_coats) (maxL := 7) (ret := (some .int)) (by decide) rfl ?_
  intro p e s m args below meth c s₁ B hml hv
  obtain ⟨rfl, hsz, hP, hK, hD0, hNn⟩ := hv
  have hx := B.exec
  have hb := B.bytes
  have hr := B.returns
  have hts := atoms_spec (ws := wsX6_coats) B.pre
  have hown : s.vm.findClass RX6 = some m.cls := findClass_of_methodNamed B.named
  have hlocks := B.notSynchronized
  subst hsz
  obtain ⟨A, hAe⟩ : ∃ A : Nat → Prop, A = va_A (wX6 cs a S L) s.heap.size := ⟨_, rfl⟩
  have hD : va_D A (wX6 cs a S L) := by rw [hAe]; exact hD0.self
  have hA : ∀ q : Nat, s.heap.size ≤ q → A q := fun q h => by rw [hAe]; exact Or.inr h
  have hS : va_S A s.heap s.heap [] := va_S.rf
  have hDA : ∀ (S : Nat → Nat → Int32) (L : Nat → Nat → Int64), va_D A (wX6 cs a S L) := fun S L => k_DA hD rfl
  have hl := lv_entry ([.ref (a 0), .int p1, .int p2, .int p3, .int p4]) (n := 7) (Nat.le_of_ble_eq_true rfl)
  rw [lg_entry_eq]
  generalize (lg_sl ([.ref (a 0), .int p1, .int p2, .int p3, .int p4]) ++ List.replicate (7 - (lg_sl ([.ref (a 0), .int p1, .int p2, .int p3, .int p4])).length) Slot.unset).toArray = ls at hl ⊢
  have hl : lv_has ls 7 [(0, .ref (a 0)), (1, .int p1), (2, .int p2), (3, .int p3), (4, .int p4)] := hl
  obtain ⟨Q, hQ⟩ : ∃ Q, Q = MQ below (k_Qi D r9 (wX6 cs a S L) (wX6 cs a S9 L) s.heap.size) ([.ref (a 0), .int p1, .int p2, .int p3, .int p4] : List Value).toArray s 0 0 (va_A (wX6 cs a S L) s.heap.size) := ⟨_, rfl⟩
  rw [← hQ]
  have Lo56 : ∀ (n1 : Nat) (x5_56 : Int32) (x6_56 : Int32) (S_56 : Nat → Nat → Int32) (H : Heap) (locs : List Loc) (ls : Array Slot), k_it (fun st => nX6_coats_l56 p2 p3 p4 st.1 st.2 S_56 L) n1 (x5_56, x6_56) = some (r9, S9) → lv_has ls 7 [(0, .ref (a 0)), (2, .int p2), (3, .int p3), (4, .int p4), (5, .int x5_56), (6, .int x6_56)] → va_P D vwCl (wX6 cs a S_56 L) H → va_S A s.heap H locs → W p l e (headSpec wsX6_coats ({ frames := 5, cells := 0, slots := 0, locals := 130 })).room s m ([.ref (a 0), .int p1, .int p2, .int p3, .int p4] : List Value).toArray below meth c H locs 0 0 Q (F0 m 56 ls []) := by
    intro n1
    induction n1 with
    | zero => intro x5_56 x6_56 S_56 H locs ls hd; exact dn_it0 hd
    | succ n1 ih1 =>
      intro x5_56 x6_56 S_56 H locs ls hd hl hP hS
      have hD := hDA S_56 L
      obtain ⟨y1, hd, hy1⟩ := dn_it hd
      have hd : nX6_coats_l56 p2 p3 p4 x5_56 x6_56 S_56 L = some y1 := hd
      unfold nX6_coats_l56 at hd
      refine lv_iload hx hb dX6_coats_56 (lv_at hl 5 rfl) ?_
      refine lv_bipush (v := (36 : Int32)) hx hb dX6_coats_58 (by decide) ?_
      refine lv_icmp_ge (tgt := 96) hx hb dX6_coats_60 (by decide) (fun c60 => ?_) (fun c60 => ?_)
      · have hd := dn_t c60 hd
        have hd := dn_up hd hy1
        refine lv_iload hx hb dX6_coats_96 (lv_at hl 3 rfl) ?_
        refine lv_iconst (v := (-1 : Int32)) hx hb dX6_coats_98 (by decide) ?_
        refine lv_icmp_ne (tgt := 107) hx hb dX6_coats_99 (by decide) (fun c99 => ?_) (fun c99 => ?_)
        · have hd := dn_f c99 hd
          refine lv_bipush (v := (-5 : Int32)) hx hb dX6_coats_107 (by decide) ?_
          obtain ⟨e1, e2⟩ := dn_s2 hd
          exact k_iret hx hb hr hQ hAe e1 (by rw [e2]) hP hS hlocks dX6_coats_109
        · have hd := dn_t c99 hd
          refine lv_iload hx hb dX6_coats_102 (lv_at hl 4 rfl) ?_
          refine lv_goto (tgt := 109) hx hb dX6_coats_104 (by decide) ?_
          obtain ⟨e1, e2⟩ := dn_s2 hd
          exact k_iret hx hb hr hQ hAe e1 (by rw [e2]) hP hS hlocks dX6_coats_109
      · have hd := dn_f c60 hd
        refine lv_aload_n hx hb dX6_coats_63 rfl (lv_at hl 0 rfl) ?_
        refine lv_iload hx hb dX6_coats_64 (lv_at hl 5 rfl) ?_
        refine lv_iload_n hx hb dX6_coats_66 rfl (lv_at hl 1 rfl) ?_
        refine lv_iload_n hx hb dX6_coats_67 rfl (lv_at hl 2 rfl) ?_
        obtain ⟨r68, hq68, hd⟩ := dn_b1 hd
        have hF := k_self hD hS hA
        refine k_run_i (va_runV (As := [.int x6_56, .int p2, .int p3]) (rest := []) ⟨hx, hb, hml, hown, hts⟩ (mX6_rests l D cs a S_56 L x6_56 p2 p3 r68 hq68 _) (cwV 3 hts gX6_coats_X6_rests rfl rfl rfl (by decide +kernel) ⟨Nat.le_of_ble_eq_true rfl, Nat.le_of_ble_eq_true rfl⟩) ⟨k_blind, va_recv hK hP (ci := 4) (q0 := 0) rfl rfl, k_pre hP hK hNn hD⟩ rfl rfl hl.1 rfl (lv_room (Nat.le_of_ble_eq_true rfl)) dX6_coats_68 ⟨Nat.le_of_ble_eq_true rfl, Nat.le_of_ble_eq_true rfl⟩) hS hF (fun H locs hP1 hk hS => ?_)
        have hP : va_P D vwCl (wX6 cs a S_56 L) _ := hP1
        have hD := hDA S_56 L
        refine lv_if_ne (tgt := 77) hx hb dX6_coats_71 (by decide) (fun c71 => ?_) (fun c71 => ?_)
        · have hd := dn_f c71 hd
          refine lv_iload hx hb dX6_coats_77 (lv_at hl 4 rfl) ?_
          refine lv_iload hx hb dX6_coats_79 (lv_at hl 3 rfl) ?_
          refine lv_icmp_ne (tgt := 87) hx hb dX6_coats_81 (by decide) (fun c81 => ?_) (fun c81 => ?_)
          · have hd := dn_f c81 hd
            refine lv_iinc (v := x5_56 + (1 : Int32)) (lv' := [(5, .int (x5_56 + (1 : Int32))), (0, .ref (a 0)), (2, .int p2), (3, .int p3), (4, .int p4), (6, .int x6_56)]) hx hb dX6_coats_87 hl (k := 4) rfl rfl (by decide) rfl (fun ls hl => ?_)
            refine lv_iinc (v := x6_56 + (1 : Int32)) (lv' := [(6, .int (x6_56 + (1 : Int32))), (5, .int (x5_56 + (1 : Int32))), (0, .ref (a 0)), (2, .int p2), (3, .int p3), (4, .int p4)]) hx hb dX6_coats_90 hl (k := 5) rfl rfl (by decide) rfl (fun ls hl => ?_)
            refine lv_goto (tgt := 56) hx hb dX6_coats_93 (by decide) ?_
            exact ih1 (x5_56 + (1 : Int32)) (x6_56 + (1 : Int32)) S_56 _ _ _ (dn_bk hd hy1) (lv_sub hl [2, 3, 4, 5, 1, 0] rfl) hP hS
          · have hd := dn_t c81 hd
            have hd := dn_up hd hy1
            refine lv_iload hx hb dX6_coats_84 (lv_at hl 5 rfl) ?_
            obtain ⟨e1, e2⟩ := dn_s2 hd
            exact k_iret hx hb hr hQ hAe e1 (by rw [e2]) hP hS hlocks dX6_coats_86
        · have hd := dn_t c71 hd
          refine lv_goto (tgt := 90) hx hb dX6_coats_74 (by decide) ?_
          refine lv_iinc (v := x6_56 + (1 : Int32)) (lv' := [(6, .int (x6_56 + (1 : Int32))), (0, .ref (a 0)), (2, .int p2), (3, .int p3), (4, .int p4), (5, .int x5_56)]) hx hb dX6_coats_90 hl (k := 5) rfl rfl (by decide) rfl (fun ls hl => ?_)
          refine lv_goto (tgt := 56) hx hb dX6_coats_93 (by decide) ?_
          exact ih1 x5_56 (x6_56 + (1 : Int32)) S_56 _ _ _ (dn_bk hd hy1) (lv_sub hl [1, 2, 3, 4, 5, 0] rfl) hP hS
  have Jo35 : ∀ (S_35 : Nat → Nat → Int32) (H : Heap) (locs : List Loc) (ls : Array Slot), nX6_coats_j35 S_35 L = some (r9, S9) → lv_has ls 7 [(0, .ref (a 0))] → va_P D vwCl (wX6 cs a S_35 L) H → va_S A s.heap H locs → W p l e (headSpec wsX6_coats ({ frames := 5, cells := 0, slots := 0, locals := 130 })).room s m ([.ref (a 0), .int p1, .int p2, .int p3, .int p4] : List Value).toArray below meth c H locs 0 0 Q (F0 m 35 ls []) := by
    intro S_35 H locs ls hd hl hP hS
    have hD := hDA S_35 L
    unfold nX6_coats_j35 at hd
    refine lv_aload_n hx hb dX6_coats_35 rfl (lv_at hl 0 rfl) ?_
    obtain ⟨r36, S36, hq36, hd⟩ := dn_b2 hd
    have hF := k_self hD hS hA
    refine k_run_i (va_runV (As := []) (rest := []) ⟨hx, hb, hml, hown, hts⟩ (mX6_refusedAsBad l D cs a S_35 L r36 S36 hq36 _) (cwV 0 hts gX6_coats_X6_refusedAsBad rfl rfl rfl (by decide +kernel) ⟨Nat.le_of_ble_eq_true rfl, Nat.le_of_ble_eq_true rfl⟩) ⟨k_blind, va_recv hK hP (ci := 4) (q0 := 0) rfl rfl, k_pre hP hK hNn hD⟩ rfl rfl hl.1 rfl (lv_room (Nat.le_of_ble_eq_true rfl)) dX6_coats_36 ⟨Nat.le_of_ble_eq_true rfl, Nat.le_of_ble_eq_true rfl⟩) hS hF (fun H locs hP1 hk hS => ?_)
    have hP : va_P D vwCl (wX6 cs a S36 L) _ := hP1
    have hD := hDA S36 L
    refine lv_pop hx hb dX6_coats_39 rfl ?_
    refine lv_bipush (v := (-10 : Int32)) hx hb dX6_coats_40 (by decide) ?_
    obtain ⟨e1, e2⟩ := dn_s2 hd
    exact k_iret hx hb hr hQ hAe e1 (by rw [e2]) hP hS hlocks dX6_coats_42
  unfold nX6_coats at hd
  refine lv_aload_n hx hb dX6_coats_0 rfl (lv_at hl 0 rfl) ?_
  refine lv_iload_n hx hb dX6_coats_1 rfl (lv_at hl 1 rfl) ?_
  obtain ⟨r2, hq2, hd⟩ := dn_b1 hd
  have hF := k_self hD hS hA
  refine k_run_i (va_runV (As := [.int p1]) (rest := []) ⟨hx, hb, hml, hown, hts⟩ (mX6_isThing l D cs a S L p1 r2 hq2 _) (cwV 1 hts gX6_coats_X6_isThing rfl rfl rfl (by decide +kernel) ⟨Nat.le_of_ble_eq_true rfl, Nat.le_of_ble_eq_true rfl⟩) ⟨k_blind, va_recv hK hP (ci := 4) (q0 := 0) rfl rfl, k_pre hP hK hNn hD⟩ rfl rfl hl.1 rfl (lv_room (Nat.le_of_ble_eq_true rfl)) dX6_coats_2 ⟨Nat.le_of_ble_eq_true rfl, Nat.le_of_ble_eq_true rfl⟩) hS hF (fun H locs hP1 hk hS => ?_)
  have hP : va_P D vwCl (wX6 cs a S L) _ := hP1
  have hD := hDA S L
  refine lv_if_eq (tgt := 35) hx hb dX6_coats_5 (by decide) (fun c5 => ?_) (fun c5 => ?_)
  · have hd := dn_t c5 hd
    exact Jo35 S _ _ _ hd (lv_sub hl [0] rfl) hP hS
  · have hd := dn_f c5 hd
    refine lv_aload_n hx hb dX6_coats_8 rfl (lv_at hl 0 rfl) ?_
    refine lv_iload_n hx hb dX6_coats_9 rfl (lv_at hl 2 rfl) ?_
    obtain ⟨r10, hq10, hd⟩ := dn_b1 hd
    have hF := k_self hD hS hA
    refine k_run_i (va_runV (As := [.int p2]) (rest := []) ⟨hx, hb, hml, hown, hts⟩ (mX6_isPerson l D cs a S L p2 r10 hq10 _) (cwV 1 hts gX6_coats_X6_isPerson rfl rfl rfl (by decide +kernel) ⟨Nat.le_of_ble_eq_true rfl, Nat.le_of_ble_eq_true rfl⟩) ⟨k_blind, va_recv hK hP (ci := 4) (q0 := 0) rfl rfl, k_pre hP hK hNn hD⟩ rfl rfl hl.1 rfl (lv_room (Nat.le_of_ble_eq_true rfl)) dX6_coats_10 ⟨Nat.le_of_ble_eq_true rfl, Nat.le_of_ble_eq_true rfl⟩) hS hF (fun H locs hP1 hk hS => ?_)
    have hP : va_P D vwCl (wX6 cs a S L) _ := hP1
    have hD := hDA S L
    refine lv_if_eq (tgt := 35) hx hb dX6_coats_13 (by decide) (fun c13 => ?_) (fun c13 => ?_)
    · have hd := dn_t c13 hd
      exact Jo35 S _ _ _ hd (lv_sub hl [0] rfl) hP hS
    · have hd := dn_f c13 hd
      refine lv_aload_n hx hb dX6_coats_16 rfl (lv_at hl 0 rfl) ?_
      refine lv_iload_n hx hb dX6_coats_17 rfl (lv_at hl 3 rfl) ?_
      obtain ⟨r18, hq18, hd⟩ := dn_b1 hd
      have hF := k_self hD hS hA
      refine k_run_i (va_runV (As := [.int p3]) (rest := []) ⟨hx, hb, hml, hown, hts⟩ (mX6_isPerson l D cs a S L p3 r18 hq18 _) (cwV 1 hts gX6_coats_X6_isPerson rfl rfl rfl (by decide +kernel) ⟨Nat.le_of_ble_eq_true rfl, Nat.le_of_ble_eq_true rfl⟩) ⟨k_blind, va_recv hK hP (ci := 4) (q0 := 0) rfl rfl, k_pre hP hK hNn hD⟩ rfl rfl hl.1 rfl (lv_room (Nat.le_of_ble_eq_true rfl)) dX6_coats_18 ⟨Nat.le_of_ble_eq_true rfl, Nat.le_of_ble_eq_true rfl⟩) hS hF (fun H locs hP1 hk hS => ?_)
      have hP : va_P D vwCl (wX6 cs a S L) _ := hP1
      have hD := hDA S L
      refine lv_if_eq (tgt := 35) hx hb dX6_coats_21 (by decide) (fun c21 => ?_) (fun c21 => ?_)
      · have hd := dn_t c21 hd
        exact Jo35 S _ _ _ hd (lv_sub hl [0] rfl) hP hS
      · have hd := dn_f c21 hd
        refine lv_iload_n hx hb dX6_coats_24 rfl (lv_at hl 2 rfl) ?_
        refine lv_iload_n hx hb dX6_coats_25 rfl (lv_at hl 3 rfl) ?_
        refine lv_icmp_eq (tgt := 35) hx hb dX6_coats_26 (by decide) (fun c26 => ?_) (fun c26 => ?_)
        · have hd := dn_t c26 hd
          exact Jo35 S _ _ _ hd (lv_sub hl [0] rfl) hP hS
        · have hd := dn_f c26 hd
          refine lv_iload hx hb dX6_coats_29 (lv_at hl 4 rfl) ?_
          refine lv_iconst (v := (-1 : Int32)) hx hb dX6_coats_31 (by decide) ?_
          refine lv_icmp_ge (tgt := 43) hx hb dX6_coats_32 (by decide) (fun c32 => ?_) (fun c32 => ?_)
          · have hd := dn_t c32 hd
            refine lv_aload_n hx hb dX6_coats_43 rfl (lv_at hl 0 rfl) ?_
            refine lv_iload_n hx hb dX6_coats_44 rfl (lv_at hl 1 rfl) ?_
            refine lv_iload_n hx hb dX6_coats_45 rfl (lv_at hl 2 rfl) ?_
            refine lv_iload_n hx hb dX6_coats_46 rfl (lv_at hl 3 rfl) ?_
            obtain ⟨S47, hq47, hd⟩ := dn_b1 hd
            have hF := k_self hD hS hA
            refine k_run_v (va_runV (As := [.int p1, .int p2, .int p3]) (rest := []) ⟨hx, hb, hml, hown, hts⟩ (mX6_seeWhoGetsIt l D cs a S L p1 p2 p3 S47 hq47 _) (cwV 3 hts gX6_coats_X6_seeWhoGetsIt rfl rfl rfl (by decide +kernel) ⟨Nat.le_of_ble_eq_true rfl, Nat.le_of_ble_eq_true rfl⟩) ⟨k_blind, va_recv hK hP (ci := 4) (q0 := 0) rfl rfl, k_pre hP hK hNn hD⟩ rfl rfl hl.1 rfl (lv_room (Nat.le_of_ble_eq_true rfl)) dX6_coats_47 ⟨Nat.le_of_ble_eq_true rfl, Nat.le_of_ble_eq_true rfl⟩) hS hF (fun H locs hP1 hk hS => ?_)
            have hP : va_P D vwCl (wX6 cs a S47 L) _ := hP1
            have hD := hDA S47 L
            refine lv_iconst (v := (0 : Int32)) hx hb dX6_coats_50 (by decide) ?_
            refine lv_istore (lv' := [(5, .int (0 : Int32)), (0, .ref (a 0)), (1, .int p1), (2, .int p2), (3, .int p3), (4, .int p4)]) hx hb dX6_coats_51 hl (by decide) rfl (fun ls hl => ?_)
            refine lv_iconst (v := (0 : Int32)) hx hb dX6_coats_53 (by decide) ?_
            refine lv_istore (lv' := [(6, .int (0 : Int32)), (5, .int (0 : Int32)), (0, .ref (a 0)), (1, .int p1), (2, .int p2), (3, .int p3), (4, .int p4)]) hx hb dX6_coats_54 hl (by decide) rfl (fun ls hl => ?_)
            exact Lo56 1000 (0 : Int32) (0 : Int32) S47 _ _ _ hd (lv_sub hl [2, 4, 5, 6, 1, 0] rfl) hP hS
          · have hd := dn_f c32 hd
            exact Jo35 S _ _ _ hd (lv_sub hl [0] rfl) hP hS
-- LeastNeed.commonDivisor(JJ)J
set_option maxRecDepth 20000 in
def nX6_commonDivisor_j45 (x4_45 : Int64) : Option (Int64) := if 0 ≤ (lg_cmp x4_45 (1 : Int64)) then some x4_45 else some (1 : Int64)
set_option maxRecDepth 20000 in
def nX6_commonDivisor_l9 (x4_9 : Int64) (x6_9 : Int64) (x8_9 : Int32) : Option ((Int64 × Int64 × Int32) ⊕ (Int64)) := if (200 : Int32) ≤ x8_9 then k_up (nX6_commonDivisor_j45 x4_9) else if (lg_cmp x6_9 (0 : Int64)) = 0 then k_up (nX6_commonDivisor_j45 x4_9) else if x6_9 = 0 then none else some (.inl (x6_9, (x4_9 - x4_9 / x6_9 * x6_9), (x8_9 + (1 : Int32))))
set_option maxRecDepth 20000 in
def nX6_commonDivisor (p0 : Int64) (p2 : Int64) : Option (Int64) := k_it (fun st => nX6_commonDivisor_l9 st.1 st.2.1 st.2.2) 1000 (p0, p2, (0 : Int32))
set_option maxHeartbeats 4000000 in
set_option maxRecDepth 100000 in
theorem mX6_commonDivisor (l : Launch) (D : va_G) (cs : Nat → ClassId) (p0 : Int64) (p2 : Int64) (r9 : Int64) (hd : nX6_commonDivisor p0 p2 = some r9) : ∀ sz : Nat, Met l yX6_commonDivisor wsX6_commonDivisor ({ frames := 0, cells := 0, slots := 0, locals := 0 }) (k_Pc D cs [.long p0, .long p2] ([] : va_W) sz) (k_Ql D r9 ([] : va_W) ([] : va_W) sz) 0 0 (va_A ([] : va_W) sz) := by
  intro sz
  refine Met.ofW (cc := cX6_commonDivisor) (maxL := 11) (ret := (some .long)) (by decide) rfl ?_
  intro p e s m args below meth c s₁ B hml hv
  obtain ⟨rfl, hsz, hP, hK, hD0, hNn⟩ := hv
  have hx := B.exec
  have hb := B.bytes
  have hr := B.returns
  have hts := atoms_spec (ws := wsX6_commonDivisor) B.pre
  have hown : s.vm.findClass RX6 = some m.cls := findClass_of_methodNamed B.named
  have hlocks := B.notSynchronized
  subst hsz
  obtain ⟨A, hAe⟩ : ∃ A : Nat → Prop, A = va_A ([] : va_W) s.heap.size := ⟨_, rfl⟩
  have hD : va_D A ([] : va_W) := by rw [hAe]; exact hD0.self
  have hA : ∀ q : Nat, s.heap.size ≤ q → A q := fun q h => by rw [hAe]; exact Or.inr h
  have hS : va_S A s.heap s.heap [] := va_S.rf
  have hl := lv_entry ([.long p0, .long p2]) (n := 11) (Nat.le_of_ble_eq_true rfl)
  rw [lg_entry_eq]
  generalize (lg_sl ([.long p0, .long p2]) ++ List.replicate (11 - (lg_sl ([.long p0, .long p2])).length) Slot.unset).toArray = ls at hl ⊢
  have hl : lv_has ls 11 [(0, .long p0), (2, .long p2)] := hl
  obtain ⟨Q, hQ⟩ : ∃ Q, Q = MQ below (k_Ql D r9 ([] : va_W) ([] : va_W) s.heap.size) ([.long p0, .long p2] : List Value).toArray s 0 0 (va_A ([] : va_W) s.heap.size) := ⟨_, rfl⟩
  rw [← hQ]
  have Jo45 : ∀ (x4_45 : Int64) (H : Heap) (locs : List Loc) (ls : Array Slot), nX6_commonDivisor_j45 x4_45 = some r9 → lv_has ls 11 [(4, .long x4_45)] → va_P D vwCl ([] : va_W) H → va_S A s.heap H locs → W p l e (headSpec wsX6_commonDivisor ({ frames := 0, cells := 0, slots := 0, locals := 0 })).room s m ([.long p0, .long p2] : List Value).toArray below meth c H locs 0 0 Q (F0 m 45 ls []) := by
    intro x4_45 H locs ls hd hl hP hS
    unfold nX6_commonDivisor_j45 at hd
    refine lv_lload hx hb dX6_commonDivisor_45 (lv_at hl 0 rfl) ?_
    refine lv_lconst (v := (1 : Int64)) hx hb dX6_commonDivisor_47 (by decide) ?_
    refine W.lcmp hx hb dX6_commonDivisor_48 ?_
    refine lv_if_ge (tgt := 56) hx hb dX6_commonDivisor_49 (by decide) (fun c49 => ?_) (fun c49 => ?_)
    · have hd := dn_t c49 hd
      refine lv_lload hx hb dX6_commonDivisor_56 (lv_at hl 0 rfl) ?_
      have e1 := dn_s1 hd
      exact k_lret hx hb hr hQ hAe e1 rfl hP hS hlocks dX6_commonDivisor_58
    · have hd := dn_f c49 hd
      refine lv_lconst (v := (1 : Int64)) hx hb dX6_commonDivisor_52 (by decide) ?_
      refine lv_goto (tgt := 58) hx hb dX6_commonDivisor_53 (by decide) ?_
      have e1 := dn_s1 hd
      exact k_lret hx hb hr hQ hAe e1 rfl hP hS hlocks dX6_commonDivisor_58
  have Lo9 : ∀ (n1 : Nat) (x4_9 : Int64) (x6_9 : Int64) (x8_9 : Int32) (H : Heap) (locs : List Loc) (ls : Array Slot), k_it (fun st => nX6_commonDivisor_l9 st.1 st.2.1 st.2.2) n1 (x4_9, x6_9, x8_9) = some r9 → lv_has ls 11 [(4, .long x4_9), (6, .long x6_9), (8, .int x8_9)] → va_P D vwCl ([] : va_W) H → va_S A s.heap H locs → W p l e (headSpec wsX6_commonDivisor ({ frames := 0, cells := 0, slots := 0, locals := 0 })).room s m ([.long p0, .long p2] : List Value).toArray below meth c H locs 0 0 Q (F0 m 9 ls []) := by
    intro n1
    induction n1 with
    | zero => intro x4_9 x6_9 x8_9 H locs ls hd; exact dn_it0 hd
    | succ n1 ih1 =>
      intro x4_9 x6_9 x8_9 H locs ls hd hl hP hS
      obtain ⟨y1, hd, hy1⟩ := dn_it hd
      have hd : nX6_commonDivisor_l9 x4_9 x6_9 x8_9 = some y1 := hd
      unfold nX6_commonDivisor_l9 at hd
      refine lv_iload hx hb dX6_commonDivisor_9 (lv_at hl 2 rfl) ?_
      refine lv_sipush (v := (200 : Int32)) hx hb dX6_commonDivisor_11 (by decide) ?_
      refine lv_icmp_ge (tgt := 45) hx hb dX6_commonDivisor_14 (by decide) (fun c14 => ?_) (fun c14 => ?_)
      · have hd := dn_t c14 hd
        have hd := dn_up hd hy1
        exact Jo45 x4_9 _ _ _ hd (lv_sub hl [0] rfl) hP hS
      · have hd := dn_f c14 hd
        refine lv_lload hx hb dX6_commonDivisor_17 (lv_at hl 1 rfl) ?_
        refine lv_lconst (v := (0 : Int64)) hx hb dX6_commonDivisor_19 (by decide) ?_
        refine W.lcmp hx hb dX6_commonDivisor_20 ?_
        refine lv_if_eq (tgt := 45) hx hb dX6_commonDivisor_21 (by decide) (fun c21 => ?_) (fun c21 => ?_)
        · have hd := dn_t c21 hd
          have hd := dn_up hd hy1
          exact Jo45 x4_9 _ _ _ hd (lv_sub hl [0] rfl) hP hS
        · have hd := dn_f c21 hd
          refine lv_lload hx hb dX6_commonDivisor_24 (lv_at hl 0 rfl) ?_
          refine lv_lload hx hb dX6_commonDivisor_26 (lv_at hl 1 rfl) ?_
          obtain ⟨hz28, hd⟩ := dn_n hd
          refine lv_lrem hx hb dX6_commonDivisor_28 hz28 ?_
          refine lv_lstore (lv' := [(9, .long (x4_9 - x4_9 / x6_9 * x6_9)), (4, .long x4_9), (6, .long x6_9), (8, .int x8_9)]) hx hb dX6_commonDivisor_29 hl (by decide) rfl (fun ls hl => ?_)
          refine lv_lload hx hb dX6_commonDivisor_31 (lv_at hl 2 rfl) ?_
          refine lv_lstore (lv' := [(4, .long x6_9), (9, .long (x4_9 - x4_9 / x6_9 * x6_9)), (6, .long x6_9), (8, .int x8_9)]) hx hb dX6_commonDivisor_33 hl (by decide) rfl (fun ls hl => ?_)
          refine lv_lload hx hb dX6_commonDivisor_35 (lv_at hl 1 rfl) ?_
          refine lv_lstore (lv' := [(6, .long (x4_9 - x4_9 / x6_9 * x6_9)), (4, .long x6_9), (9, .long (x4_9 - x4_9 / x6_9 * x6_9)), (8, .int x8_9)]) hx hb dX6_commonDivisor_37 hl (by decide) rfl (fun ls hl => ?_)
          refine lv_iinc (v := x8_9 + (1 : Int32)) (lv' := [(8, .int (x8_9 + (1 : Int32))), (6, .long (x4_9 - x4_9 / x6_9 * x6_9)), (4, .long x6_9), (9, .long (x4_9 - x4_9 / x6_9 * x6_9))]) hx hb dX6_commonDivisor_39 hl (k := 3) rfl rfl (by decide) rfl (fun ls hl => ?_)
          refine lv_goto (tgt := 9) hx hb dX6_commonDivisor_42 (by decide) ?_
          exact ih1 x6_9 (x4_9 - x4_9 / x6_9 * x6_9) (x8_9 + (1 : Int32)) _ _ _ (dn_bk hd hy1) (lv_sub hl [2, 1, 0] rfl) hP hS
  unfold nX6_commonDivisor at hd
  refine lv_lload_n hx hb dX6_commonDivisor_0 rfl (lv_at hl 0 rfl) ?_
  refine lv_lstore (lv' := [(4, .long p0), (0, .long p0), (2, .long p2)]) hx hb dX6_commonDivisor_1 hl (by decide) rfl (fun ls hl => ?_)
  refine lv_lload_n hx hb dX6_commonDivisor_3 rfl (lv_at hl 2 rfl) ?_
  refine lv_lstore (lv' := [(6, .long p2), (4, .long p0), (0, .long p0), (2, .long p2)]) hx hb dX6_commonDivisor_4 hl (by decide) rfl (fun ls hl => ?_)
  refine lv_iconst (v := (0 : Int32)) hx hb dX6_commonDivisor_6 (by decide) ?_
  refine lv_istore (lv' := [(8, .int (0 : Int32)), (6, .long p2), (4, .long p0), (0, .long p0), (2, .long p2)]) hx hb dX6_commonDivisor_7 hl (by decide) rfl (fun ls hl => ?_)
  exact Lo9 1000 p0 p2 (0 : Int32) _ _ _ hd (lv_sub hl [2, 1, 0] rfl) hP hS
-- LeastNeed.odds(IIII)I
set_option maxRecDepth 20000 in
def nX6_odds_l64 (p3 : Int32) (x5_64 : Int64) (x7_64 : Int64) (x9_64 : Int32) (S_64 : Nat → Nat → Int32) (L_64 : Nat → Nat → Int64) : Option ((Int64 × Int32) ⊕ (Int32 × (Nat → Nat → Int32) × (Nat → Nat → Int64))) := if p3 ≤ x9_64 then k_up (k_b1 (nX6_commonDivisor x7_64 x5_64) (fun r88 => if r88 = 0 then none else if r88 = 0 then none else some ((1 : Int32), S_64, (k_wl (k_wl L_64 0 10 (x5_64 / r88)) 0 11 (x7_64 / r88))))) else some (.inl ((x7_64 * (10 : Int64)), (x9_64 + (1 : Int32))))
set_option maxRecDepth 20000 in
def nX6_odds_j35 (S_35 : Nat → Nat → Int32) (L_35 : Nat → Nat → Int64) : Option (Int32 × (Nat → Nat → Int32) × (Nat → Nat → Int64)) := k_b2 (nX6_refusedAsBad S_35 L_35) (fun r36 S36 => some (r36, S36, L_35))
set_option maxRecDepth 20000 in
def nX6_odds (S : Nat → Nat → Int32) (L : Nat → Nat → Int64) (p1 : Int32) (p2 : Int32) (p3 : Int32) (p4 : Int32) : Option (Int32 × (Nat → Nat → Int32) × (Nat → Nat → Int64)) := k_b1 (nX6_isThing S L p1) (fun r2 => if r2 = 0 then nX6_odds_j35 S L else k_b1 (nX6_isPerson S L p2) (fun r10 => if r10 = 0 then nX6_odds_j35 S L else k_b1 (nX6_upTo p3 (8 : Int32)) (fun r19 => if r19 = 0 then nX6_odds_j35 S L else k_b1 (nX6_upTo p4 (11 : Int32)) (fun r29 => if r29 = 0 then nX6_odds_j35 S L else k_b2 (nX0_chanceOfTens (k_wi S 70) (k_wi L 70) (k_wi S 1) p1 p2 p3 p4) (fun r53 L53 => k_it (fun st => nX6_odds_l64 p3 r53 st.1 st.2 S (k_sp L 70 5 L53)) 1000 ((1 : Int64), (0 : Int32)))))))
set_option maxHeartbeats 4000000 in
set_option maxRecDepth 100000 in
theorem mX6_odds (l : Launch) (D : va_G) (cs : Nat → ClassId) (a : Nat → Nat) (S : Nat → Nat → Int32) (L : Nat → Nat → Int64) (p1 : Int32) (p2 : Int32) (p3 : Int32) (p4 : Int32) (r9 : Int32) (S9 : (Nat → Nat → Int32)) (L9 : (Nat → Nat → Int64)) (hd : nX6_odds S L p1 p2 p3 p4 = some (r9, S9, L9)) : ∀ sz : Nat, Met l yX6_odds wsX6_odds ({ frames := 5, cells := 0, slots := 0, locals := 138 }) (k_Pc D cs [.ref (a 0), .int p1, .int p2, .int p3, .int p4] (wX6 cs a S L) sz) (k_Qi D r9 (wX6 cs a S L) (wX6 cs a S9 L9) sz) 0 0 (va_A (wX6 cs a S L) sz) := by
  intro sz
  refine Met.ofW (cc := cX6_odds) (maxL := 11) (ret := (some .int)) (by decide) rfl ?_
  intro p e s m args below meth c s₁ B hml hv
  obtain ⟨rfl, hsz, hP, hK, hD0, hNn⟩ := hv
  have hx := B.exec
  have hb := B.bytes
  have hr := B.returns
  have hts := atoms_spec (ws := wsX6_odds) B.pre
  have hown : s.vm.findClass RX6 = some m.cls := findClass_of_methodNamed B.named
  have hlocks := B.notSynchronized
  subst hsz
  obtain ⟨A, hAe⟩ : ∃ A : Nat → Prop, A = va_A (wX6 cs a S L) s.heap.size := ⟨_, rfl⟩
  have hD : va_D A (wX6 cs a S L) := by rw [hAe]; exact hD0.self
  have hA : ∀ q : Nat, s.heap.size ≤ q → A q := fun q h => by rw [hAe]; exact Or.inr h
  have hS : va_S A s.heap s.heap [] := va_S.rf
  have hDA : ∀ (S : Nat → Nat → Int32) (L : Nat → Nat → Int64), va_D A (wX6 cs a S L) := fun S L => k_DA hD rfl
  have hl := lv_entry ([.ref (a 0), .int p1, .int p2, .int p3, .int p4]) (n := 11) (Nat.le_of_ble_eq_true rfl)
  rw [lg_entry_eq]
  generalize (lg_sl ([.ref (a 0), .int p1, .int p2, .int p3, .int p4]) ++ List.replicate (11 - (lg_sl ([.ref (a 0), .int p1, .int p2, .int p3, .int p4])).length) Slot.unset).toArray = ls at hl ⊢
  have hl : lv_has ls 11 [(0, .ref (a 0)), (1, .int p1), (2, .int p2), (3, .int p3), (4, .int p4)] := hl
  obtain ⟨Q, hQ⟩ : ∃ Q, Q = MQ below (k_Qi D r9 (wX6 cs a S L) (wX6 cs a S9 L9) s.heap.size) ([.ref (a 0), .int p1, .int p2, .int p3, .int p4] : List Value).toArray s 0 0 (va_A (wX6 cs a S L) s.heap.size) := ⟨_, rfl⟩
  rw [← hQ]
  have Lo64 : ∀ (n1 : Nat) (x5_64 : Int64) (x7_64 : Int64) (x9_64 : Int32) (S_64 : Nat → Nat → Int32) (L_64 : Nat → Nat → Int64) (H : Heap) (locs : List Loc) (ls : Array Slot), k_it (fun st => nX6_odds_l64 p3 x5_64 st.1 st.2 S_64 L_64) n1 (x7_64, x9_64) = some (r9, S9, L9) → lv_has ls 11 [(0, .ref (a 0)), (3, .int p3), (5, .long x5_64), (7, .long x7_64), (9, .int x9_64)] → va_P D vwCl (wX6 cs a S_64 L_64) H → va_S A s.heap H locs → W p l e (headSpec wsX6_odds ({ frames := 5, cells := 0, slots := 0, locals := 138 })).room s m ([.ref (a 0), .int p1, .int p2, .int p3, .int p4] : List Value).toArray below meth c H locs 0 0 Q (F0 m 64 ls []) := by
    intro n1
    induction n1 with
    | zero => intro x5_64 x7_64 x9_64 S_64 L_64 H locs ls hd; exact dn_it0 hd
    | succ n1 ih1 =>
      intro x5_64 x7_64 x9_64 S_64 L_64 H locs ls hd hl hP hS
      have hD := hDA S_64 L_64
      obtain ⟨y1, hd, hy1⟩ := dn_it hd
      have hd : nX6_odds_l64 p3 x5_64 x7_64 x9_64 S_64 L_64 = some y1 := hd
      unfold nX6_odds_l64 at hd
      refine lv_iload hx hb dX6_odds_64 (lv_at hl 4 rfl) ?_
      refine lv_iload_n hx hb dX6_odds_66 rfl (lv_at hl 1 rfl) ?_
      refine lv_icmp_ge (tgt := 84) hx hb dX6_odds_67 (by decide) (fun c67 => ?_) (fun c67 => ?_)
      · have hd := dn_t c67 hd
        have hd := dn_up hd hy1
        refine lv_lload hx hb dX6_odds_84 (lv_at hl 3 rfl) ?_
        refine lv_lload hx hb dX6_odds_86 (lv_at hl 2 rfl) ?_
        obtain ⟨r88, hq88, hd⟩ := dn_b1 hd
        have hPc := k_P0 hP
        have hDc : va_D A ([] : va_W) := k_D0
        have hF := k_self hDc hS hA
        refine k_run_l (va_runS (As := [.long x7_64, .long x5_64]) (rest := []) ⟨hx, hb, hml, hown, hts⟩ (mX6_commonDivisor l D cs  x7_64 x5_64 r88 hq88 _) (va_cwS 2 hts gX6_odds_X6_commonDivisor rfl rfl rfl (by decide +kernel) ⟨Nat.le_of_ble_eq_true rfl, Nat.le_of_ble_eq_true rfl⟩) ⟨k_blind, k_pre hPc hK hNn hDc⟩ rfl rfl hl.1 rfl (lv_room (Nat.le_of_ble_eq_true rfl)) dX6_odds_88 ⟨Nat.le_of_ble_eq_true rfl, Nat.le_of_ble_eq_true rfl⟩) hS hF (fun H locs hP1 hk hS => ?_)
        have hP : va_P D vwCl (wX6 cs a S_64 L_64) _ := k_keep hP hk
        refine lv_lstore (lv' := [(9, .long r88), (0, .ref (a 0)), (3, .int p3), (5, .long x5_64), (7, .long x7_64)]) hx hb dX6_odds_91 hl (by decide) rfl (fun ls hl => ?_)
        refine lv_aload_n hx hb dX6_odds_93 rfl (lv_at hl 1 rfl) ?_
        refine lv_lload hx hb dX6_odds_94 (lv_at hl 3 rfl) ?_
        refine lv_lload hx hb dX6_odds_96 (lv_at hl 0 rfl) ?_
        obtain ⟨hz98, hd⟩ := dn_n hd
        refine lv_ldiv hx hb dX6_odds_98 hz98 ?_
        refine va_put (D := D) (ci := 4) (v := .long (x5_64 / r88)) (ty := .long) (C := RX6) (T := TX6) (N := 12) hx hb hts (fun w h => List.mem_cons_of_mem _ (List.mem_append_left _ (List.mem_append_left _ (List.mem_append_right _ h)))) tyX6 tyX6_ok nmX6 hown hK hP hD hS 0 rfl rfl 10 (by decide) (hts (.fieldLink RX6 54 "LeastNeed" "above" "J") (List.mem_of_getElem? (i := 4) rfl)) (fun _ h9 => h9) rfl (by decide +kernel) rfl rfl (Nat.le_of_ble_eq_true rfl) dX6_odds_99 (fun H locs hP hD hS => ?_)
        have hP : va_P D vwCl (wX6 cs a S_64 (k_wl L_64 0 10 (x5_64 / r88))) _ := k_eq hP (wsX6_f0_10 cs a S_64 L_64 (x5_64 / r88))
        have hD := hDA S_64 (k_wl L_64 0 10 (x5_64 / r88))
        refine lv_aload_n hx hb dX6_odds_102 rfl (lv_at hl 1 rfl) ?_
        refine lv_lload hx hb dX6_odds_103 (lv_at hl 4 rfl) ?_
        refine lv_lload hx hb dX6_odds_105 (lv_at hl 0 rfl) ?_
        obtain ⟨hz107, hd⟩ := dn_n hd
        refine lv_ldiv hx hb dX6_odds_107 hz107 ?_
        refine va_put (D := D) (ci := 4) (v := .long (x7_64 / r88)) (ty := .long) (C := RX6) (T := TX6) (N := 12) hx hb hts (fun w h => List.mem_cons_of_mem _ (List.mem_append_left _ (List.mem_append_left _ (List.mem_append_right _ h)))) tyX6 tyX6_ok nmX6 hown hK hP hD hS 0 rfl rfl 11 (by decide) (hts (.fieldLink RX6 58 "LeastNeed" "below" "J") (List.mem_of_getElem? (i := 5) rfl)) (fun _ h9 => h9) rfl (by decide +kernel) rfl rfl (Nat.le_of_ble_eq_true rfl) dX6_odds_108 (fun H locs hP hD hS => ?_)
        have hP : va_P D vwCl (wX6 cs a S_64 (k_wl (k_wl L_64 0 10 (x5_64 / r88)) 0 11 (x7_64 / r88))) _ := k_eq hP (wsX6_f0_11 cs a S_64 (k_wl L_64 0 10 (x5_64 / r88)) (x7_64 / r88))
        have hD := hDA S_64 (k_wl (k_wl L_64 0 10 (x5_64 / r88)) 0 11 (x7_64 / r88))
        refine lv_iconst (v := (1 : Int32)) hx hb dX6_odds_111 (by decide) ?_
        obtain ⟨e1, e2, e3⟩ := dn_s3 hd
        exact k_iret hx hb hr hQ hAe e1 (by rw [← e2, ← e3]) hP hS hlocks dX6_odds_112
      · have hd := dn_f c67 hd
        refine lv_lload hx hb dX6_odds_70 (lv_at hl 3 rfl) ?_
        refine lv_ldc2 (v := (10 : Int64)) hx hb hown (hts (.constantLong RX6 244 (10)) (List.mem_of_getElem? (i := 3) rfl)) dX6_odds_72 ?_
        refine lv_lmul hx hb dX6_odds_75 ?_
        refine lv_lstore (lv' := [(7, .long (x7_64 * (10 : Int64))), (0, .ref (a 0)), (3, .int p3), (5, .long x5_64), (9, .int x9_64)]) hx hb dX6_odds_76 hl (by decide) rfl (fun ls hl => ?_)
        refine lv_iinc (v := x9_64 + (1 : Int32)) (lv' := [(9, .int (x9_64 + (1 : Int32))), (7, .long (x7_64 * (10 : Int64))), (0, .ref (a 0)), (3, .int p3), (5, .long x5_64)]) hx hb dX6_odds_78 hl (k := 4) rfl rfl (by decide) rfl (fun ls hl => ?_)
        refine lv_goto (tgt := 64) hx hb dX6_odds_81 (by decide) ?_
        exact ih1 x5_64 (x7_64 * (10 : Int64)) (x9_64 + (1 : Int32)) S_64 L_64 _ _ _ (dn_bk hd hy1) (lv_sub hl [2, 3, 4, 1, 0] rfl) hP hS
  have Jo35 : ∀ (S_35 : Nat → Nat → Int32) (L_35 : Nat → Nat → Int64) (H : Heap) (locs : List Loc) (ls : Array Slot), nX6_odds_j35 S_35 L_35 = some (r9, S9, L9) → lv_has ls 11 [(0, .ref (a 0))] → va_P D vwCl (wX6 cs a S_35 L_35) H → va_S A s.heap H locs → W p l e (headSpec wsX6_odds ({ frames := 5, cells := 0, slots := 0, locals := 138 })).room s m ([.ref (a 0), .int p1, .int p2, .int p3, .int p4] : List Value).toArray below meth c H locs 0 0 Q (F0 m 35 ls []) := by
    intro S_35 L_35 H locs ls hd hl hP hS
    have hD := hDA S_35 L_35
    unfold nX6_odds_j35 at hd
    refine lv_aload_n hx hb dX6_odds_35 rfl (lv_at hl 0 rfl) ?_
    obtain ⟨r36, S36, hq36, hd⟩ := dn_b2 hd
    have hF := k_self hD hS hA
    refine k_run_i (va_runV (As := []) (rest := []) ⟨hx, hb, hml, hown, hts⟩ (mX6_refusedAsBad l D cs a S_35 L_35 r36 S36 hq36 _) (cwV 0 hts gX6_odds_X6_refusedAsBad rfl rfl rfl (by decide +kernel) ⟨Nat.le_of_ble_eq_true rfl, Nat.le_of_ble_eq_true rfl⟩) ⟨k_blind, va_recv hK hP (ci := 4) (q0 := 0) rfl rfl, k_pre hP hK hNn hD⟩ rfl rfl hl.1 rfl (lv_room (Nat.le_of_ble_eq_true rfl)) dX6_odds_36 ⟨Nat.le_of_ble_eq_true rfl, Nat.le_of_ble_eq_true rfl⟩) hS hF (fun H locs hP1 hk hS => ?_)
    have hP : va_P D vwCl (wX6 cs a S36 L_35) _ := hP1
    have hD := hDA S36 L_35
    obtain ⟨e1, e2, e3⟩ := dn_s3 hd
    exact k_iret hx hb hr hQ hAe e1 (by rw [← e2, ← e3]) hP hS hlocks dX6_odds_39
  unfold nX6_odds at hd
  refine lv_aload_n hx hb dX6_odds_0 rfl (lv_at hl 0 rfl) ?_
  refine lv_iload_n hx hb dX6_odds_1 rfl (lv_at hl 1 rfl) ?_
  obtain ⟨r2, hq2, hd⟩ := dn_b1 hd
  have hF := k_self hD hS hA
  refine k_run_i (va_runV (As := [.int p1]) (rest := []) ⟨hx, hb, hml, hown, hts⟩ (mX6_isThing l D cs a S L p1 r2 hq2 _) (cwV 1 hts gX6_odds_X6_isThing rfl rfl rfl (by decide +kernel) ⟨Nat.le_of_ble_eq_true rfl, Nat.le_of_ble_eq_true rfl⟩) ⟨k_blind, va_recv hK hP (ci := 4) (q0 := 0) rfl rfl, k_pre hP hK hNn hD⟩ rfl rfl hl.1 rfl (lv_room (Nat.le_of_ble_eq_true rfl)) dX6_odds_2 ⟨Nat.le_of_ble_eq_true rfl, Nat.le_of_ble_eq_true rfl⟩) hS hF (fun H locs hP1 hk hS => ?_)
  have hP : va_P D vwCl (wX6 cs a S L) _ := hP1
  have hD := hDA S L
  refine lv_if_eq (tgt := 35) hx hb dX6_odds_5 (by decide) (fun c5 => ?_) (fun c5 => ?_)
  · have hd := dn_t c5 hd
    exact Jo35 S L _ _ _ hd (lv_sub hl [0] rfl) hP hS
  · have hd := dn_f c5 hd
    refine lv_aload_n hx hb dX6_odds_8 rfl (lv_at hl 0 rfl) ?_
    refine lv_iload_n hx hb dX6_odds_9 rfl (lv_at hl 2 rfl) ?_
    obtain ⟨r10, hq10, hd⟩ := dn_b1 hd
    have hF := k_self hD hS hA
    refine k_run_i (va_runV (As := [.int p2]) (rest := []) ⟨hx, hb, hml, hown, hts⟩ (mX6_isPerson l D cs a S L p2 r10 hq10 _) (cwV 1 hts gX6_odds_X6_isPerson rfl rfl rfl (by decide +kernel) ⟨Nat.le_of_ble_eq_true rfl, Nat.le_of_ble_eq_true rfl⟩) ⟨k_blind, va_recv hK hP (ci := 4) (q0 := 0) rfl rfl, k_pre hP hK hNn hD⟩ rfl rfl hl.1 rfl (lv_room (Nat.le_of_ble_eq_true rfl)) dX6_odds_10 ⟨Nat.le_of_ble_eq_true rfl, Nat.le_of_ble_eq_true rfl⟩) hS hF (fun H locs hP1 hk hS => ?_)
    have hP : va_P D vwCl (wX6 cs a S L) _ := hP1
    have hD := hDA S L
    refine lv_if_eq (tgt := 35) hx hb dX6_odds_13 (by decide) (fun c13 => ?_) (fun c13 => ?_)
    · have hd := dn_t c13 hd
      exact Jo35 S L _ _ _ hd (lv_sub hl [0] rfl) hP hS
    · have hd := dn_f c13 hd
      refine lv_iload_n hx hb dX6_odds_16 rfl (lv_at hl 3 rfl) ?_
      refine lv_bipush (v := (8 : Int32)) hx hb dX6_odds_17 (by decide) ?_
      obtain ⟨r19, hq19, hd⟩ := dn_b1 hd
      have hPc := k_P0 hP
      have hDc : va_D A ([] : va_W) := k_D0
      have hF := k_self hDc hS hA
      refine k_run_i (va_runS (As := [.int p3, .int (8 : Int32)]) (rest := []) ⟨hx, hb, hml, hown, hts⟩ (mX6_upTo l D cs  p3 (8 : Int32) r19 hq19 _) (va_cwS 2 hts gX6_odds_X6_upTo rfl rfl rfl (by decide +kernel) ⟨Nat.le_of_ble_eq_true rfl, Nat.le_of_ble_eq_true rfl⟩) ⟨k_blind, k_pre hPc hK hNn hDc⟩ rfl rfl hl.1 rfl (lv_room (Nat.le_of_ble_eq_true rfl)) dX6_odds_19 ⟨Nat.le_of_ble_eq_true rfl, Nat.le_of_ble_eq_true rfl⟩) hS hF (fun H locs hP1 hk hS => ?_)
      have hP : va_P D vwCl (wX6 cs a S L) _ := k_keep hP hk
      refine lv_if_eq (tgt := 35) hx hb dX6_odds_22 (by decide) (fun c22 => ?_) (fun c22 => ?_)
      · have hd := dn_t c22 hd
        exact Jo35 S L _ _ _ hd (lv_sub hl [0] rfl) hP hS
      · have hd := dn_f c22 hd
        refine lv_iload hx hb dX6_odds_25 (lv_at hl 4 rfl) ?_
        refine lv_bipush (v := (11 : Int32)) hx hb dX6_odds_27 (by decide) ?_
        obtain ⟨r29, hq29, hd⟩ := dn_b1 hd
        have hPc := k_P0 hP
        have hDc : va_D A ([] : va_W) := k_D0
        have hF := k_self hDc hS hA
        refine k_run_i (va_runS (As := [.int p4, .int (11 : Int32)]) (rest := []) ⟨hx, hb, hml, hown, hts⟩ (mX6_upTo l D cs  p4 (11 : Int32) r29 hq29 _) (va_cwS 2 hts gX6_odds_X6_upTo rfl rfl rfl (by decide +kernel) ⟨Nat.le_of_ble_eq_true rfl, Nat.le_of_ble_eq_true rfl⟩) ⟨k_blind, k_pre hPc hK hNn hDc⟩ rfl rfl hl.1 rfl (lv_room (Nat.le_of_ble_eq_true rfl)) dX6_odds_29 ⟨Nat.le_of_ble_eq_true rfl, Nat.le_of_ble_eq_true rfl⟩) hS hF (fun H locs hP1 hk hS => ?_)
        have hP : va_P D vwCl (wX6 cs a S L) _ := k_keep hP hk
        refine lv_if_ne (tgt := 40) hx hb dX6_odds_32 (by decide) (fun c32 => ?_) (fun c32 => ?_)
        · have hd := dn_f c32 hd
          refine lv_aload_n hx hb dX6_odds_40 rfl (lv_at hl 0 rfl) ?_
          refine va_get (D := D) (ci := 4) (v := .ref (a 70)) (C := RX6) (T := TX6) (N := 12) hx hb hts (fun w h => List.mem_cons_of_mem _ (List.mem_append_left _ (List.mem_append_left _ (List.mem_append_right _ h)))) hown hK hP 0 rfl rfl 5 (by decide) (hts (.fieldLink RX6 37 "LeastNeed" "journey" "LLeastNeed$Journey;") (List.mem_of_getElem? (i := 1) rfl)) (fun _ h9 => h9) rfl dX6_odds_41 ?_
          refine lv_aload_n hx hb dX6_odds_44 rfl (lv_at hl 0 rfl) ?_
          refine va_get (D := D) (ci := 4) (v := .ref (a 1)) (C := RX6) (T := TX6) (N := 12) hx hb hts (fun w h => List.mem_cons_of_mem _ (List.mem_append_left _ (List.mem_append_left _ (List.mem_append_right _ h)))) hown hK hP 0 rfl rfl 0 (by decide) (hts (.fieldLink RX6 12 "LeastNeed" "now" "LLeastNeed$Valley;") (List.mem_of_getElem? (i := 2) rfl)) (fun _ h9 => h9) rfl dX6_odds_45 ?_
          refine lv_iload_n hx hb dX6_odds_48 rfl (lv_at hl 1 rfl) ?_
          refine lv_iload_n hx hb dX6_odds_49 rfl (lv_at hl 2 rfl) ?_
          refine lv_iload_n hx hb dX6_odds_50 rfl (lv_at hl 3 rfl) ?_
          refine lv_iload hx hb dX6_odds_51 (lv_at hl 4 rfl) ?_
          obtain ⟨r53, L53, hq53, hd⟩ := dn_b2 hd
          have hPc : va_P D vwCl (wX0 cs (k_wi a 70) (k_wi S 70) (k_wi L 70) ++ wX5 cs (k_wi a 1) (k_wi S 1)) _ := k_sub hP [70, 71, 72, 73, 74, 1, 2, 3, 4, 5, 6, 7, 8, 9, 10, 11, 12, 13, 14, 15, 16] (wcX6_X0_X5_70_1 cs a S L)
          have hDc : va_D A (wX0 cs (k_wi a 70) (k_wi S 70) (k_wi L 70) ++ wX5 cs (k_wi a 1) (k_wi S 1)) := hD.sub [70, 71, 72, 73, 74, 1, 2, 3, 4, 5, 6, 7, 8, 9, 10, 11, 12, 13, 14, 15, 16] (by decide) (wcX6_X0_X5_70_1 cs a S L)
          have hF := k_self hDc hS hA
          refine k_run_l (va_runV (As := [.ref (a 1), .int p1, .int p2, .int p3, .int p4]) (rest := []) ⟨hx, hb, hml, hown, hts⟩ (mX0_chanceOfTens l D cs (k_wi a 70) (k_wi a 1) (k_wi S 70) (k_wi L 70) (k_wi S 1) p1 p2 p3 p4 r53 L53 hq53 _) (cwV 5 hts gX6_odds_X0_chanceOfTens rfl rfl rfl (by decide +kernel) ⟨Nat.le_of_ble_eq_true rfl, Nat.le_of_ble_eq_true rfl⟩) ⟨k_blind, va_recv hK hP (ci := 0) (q0 := 70) rfl rfl, k_pre hPc hK hNn hDc⟩ rfl rfl hl.1 rfl (lv_room (Nat.le_of_ble_eq_true rfl)) dX6_odds_53 ⟨Nat.le_of_ble_eq_true rfl, Nat.le_of_ble_eq_true rfl⟩) hS hF (fun H locs hP1 hk hS => ?_)
          have hP : va_P D vwCl (wX6 cs a S (k_sp L 70 5 L53)) _ := k_back hP hD [70, 71, 72, 73, 74, 1, 2, 3, 4, 5, 6, 7, 8, 9, 10, 11, 12, 13, 14, 15, 16] [0, 17, 18, 19, 20, 21, 22, 23, 24, 25, 26, 27, 28, 29, 30, 31, 32, 33, 34, 35, 36, 37, 38, 39, 40, 41, 42, 43, 44, 45, 46, 47, 48, 49, 50, 51, 52, 53, 54, 55, 56, 57, 58, 59, 60, 61, 62, 63, 64, 65, 66, 67, 68, 69, 75, 76, 77, 78] [0, 63, 64, 65, 66, 67, 68, 69, 70, 71, 72, 73, 74, 75, 76, 77, 78, 1, 2, 3, 4, 5, 6, 7, 8, 9, 10, 11, 12, 13, 14, 15, 16, 17, 18, 19, 20, 21, 22, 23, 24, 25, 26, 27, 28, 29, 30, 31, 32, 33, 34, 35, 36, 37, 38, 39, 40, 41, 42, 43, 44, 45, 46, 47, 48, 49, 50, 51, 52, 53, 58, 59, 60, 61, 62, 54, 55, 56, 57] (wcX6_X0_X5_70_1 cs a S L) (by decide) hk hP1 (wbX6_X0_X5_70_1_L0 cs a S L L53)
          have hD := hDA S (k_sp L 70 5 L53)
          refine lv_lstore (lv' := [(5, .long r53), (0, .ref (a 0)), (1, .int p1), (2, .int p2), (3, .int p3), (4, .int p4)]) hx hb dX6_odds_56 hl (by decide) rfl (fun ls hl => ?_)
          refine lv_lconst (v := (1 : Int64)) hx hb dX6_odds_58 (by decide) ?_
          refine lv_lstore (lv' := [(7, .long (1 : Int64)), (5, .long r53), (0, .ref (a 0)), (1, .int p1), (2, .int p2), (3, .int p3), (4, .int p4)]) hx hb dX6_odds_59 hl (by decide) rfl (fun ls hl => ?_)
          refine lv_iconst (v := (0 : Int32)) hx hb dX6_odds_61 (by decide) ?_
          refine lv_istore (lv' := [(9, .int (0 : Int32)), (7, .long (1 : Int64)), (5, .long r53), (0, .ref (a 0)), (1, .int p1), (2, .int p2), (3, .int p3), (4, .int p4)]) hx hb dX6_odds_62 hl (by decide) rfl (fun ls hl => ?_)
          exact Lo64 1000 r53 (1 : Int64) (0 : Int32) S (k_sp L 70 5 L53) _ _ _ hd (lv_sub hl [3, 6, 2, 1, 0] rfl) hP hS
        · have hd := dn_t c32 hd
          exact Jo35 S L _ _ _ hd (lv_sub hl [0] rfl) hP hS
-- LeastNeed.years(II)I
set_option maxRecDepth 20000 in
def nX6_years_i40_j108 (p2 : Int32) (x3_108 : Int64) (x5_108 : Int32) (S_108 : Nat → Nat → Int32) (L : Nat → Nat → Int64) : Option ((Int64 × Int32 × (Nat → Nat → Int32)) ⊕ (Int32 × (Nat → Nat → Int32))) := k_b1 (nX5_dayGoesBy (k_wi S_108 17)) (fun S112 => some (.inl (x3_108, (x5_108 + (1 : Int32)), (k_sp S_108 17 16 S112))))
set_option maxRecDepth 20000 in
def nX6_years_l40 (p2 : Int32) (x3_40 : Int64) (x5_40 : Int32) (S_40 : Nat → Nat → Int32) (L : Nat → Nat → Int64) : Option ((Int64 × Int32 × (Nat → Nat → Int32)) ⊕ (Int32 × (Nat → Nat → Int32))) := if p2 ≤ x5_40 then k_up (k_b1 (nX5_howManyAtHome (k_wi S_40 17)) (fun r125 => some (r125, S_40))) else if (S_40 17 13) ≤ ((((((x3_40 * (1103515245 : Int64)) + (12345 : Int64)) - ((x3_40 * (1103515245 : Int64)) + (12345 : Int64)) / (2147483648 : Int64) * (2147483648 : Int64)) / (65536 : Int64)) - ((((x3_40 * (1103515245 : Int64)) + (12345 : Int64)) - ((x3_40 * (1103515245 : Int64)) + (12345 : Int64)) / (2147483648 : Int64) * (2147483648 : Int64)) / (65536 : Int64)) / (5 : Int64) * (5 : Int64)).toInt32) then nX6_years_i40_j108 p2 (((x3_40 * (1103515245 : Int64)) + (12345 : Int64)) - ((x3_40 * (1103515245 : Int64)) + (12345 : Int64)) / (2147483648 : Int64) * (2147483648 : Int64)) x5_40 S_40 L else if ((((((x3_40 * (1103515245 : Int64)) + (12345 : Int64)) - ((x3_40 * (1103515245 : Int64)) + (12345 : Int64)) / (2147483648 : Int64) * (2147483648 : Int64)) / (65536 : Int64)) - ((((x3_40 * (1103515245 : Int64)) + (12345 : Int64)) - ((x3_40 * (1103515245 : Int64)) + (12345 : Int64)) / (2147483648 : Int64) * (2147483648 : Int64)) / (65536 : Int64)) / (5 : Int64) * (5 : Int64)).toInt32) < 0 ∨ 5 ≤ ((((((x3_40 * (1103515245 : Int64)) + (12345 : Int64)) - ((x3_40 * (1103515245 : Int64)) + (12345 : Int64)) / (2147483648 : Int64) * (2147483648 : Int64)) / (65536 : Int64)) - ((((x3_40 * (1103515245 : Int64)) + (12345 : Int64)) - ((x3_40 * (1103515245 : Int64)) + (12345 : Int64)) / (2147483648 : Int64) * (2147483648 : Int64)) / (65536 : Int64)) / (5 : Int64) * (5 : Int64)).toInt32).toNatClampNeg then none else if (S_40 26 ((((((x3_40 * (1103515245 : Int64)) + (12345 : Int64)) - ((x3_40 * (1103515245 : Int64)) + (12345 : Int64)) / (2147483648 : Int64) * (2147483648 : Int64)) / (65536 : Int64)) - ((((x3_40 * (1103515245 : Int64)) + (12345 : Int64)) - ((x3_40 * (1103515245 : Int64)) + (12345 : Int64)) / (2147483648 : Int64) * (2147483648 : Int64)) / (65536 : Int64)) / (5 : Int64) * (5 : Int64)).toInt32).toNatClampNeg) = 0 then if ((((((x3_40 * (1103515245 : Int64)) + (12345 : Int64)) - ((x3_40 * (1103515245 : Int64)) + (12345 : Int64)) / (2147483648 : Int64) * (2147483648 : Int64)) / (65536 : Int64)) - ((((x3_40 * (1103515245 : Int64)) + (12345 : Int64)) - ((x3_40 * (1103515245 : Int64)) + (12345 : Int64)) / (2147483648 : Int64) * (2147483648 : Int64)) / (65536 : Int64)) / (5 : Int64) * (5 : Int64)).toInt32) < 0 ∨ 5 ≤ ((((((x3_40 * (1103515245 : Int64)) + (12345 : Int64)) - ((x3_40 * (1103515245 : Int64)) + (12345 : Int64)) / (2147483648 : Int64) * (2147483648 : Int64)) / (65536 : Int64)) - ((((x3_40 * (1103515245 : Int64)) + (12345 : Int64)) - ((x3_40 * (1103515245 : Int64)) + (12345 : Int64)) / (2147483648 : Int64) * (2147483648 : Int64)) / (65536 : Int64)) / (5 : Int64) * (5 : Int64)).toInt32).toNatClampNeg then none else nX6_years_i40_j108 p2 (((x3_40 * (1103515245 : Int64)) + (12345 : Int64)) - ((x3_40 * (1103515245 : Int64)) + (12345 : Int64)) / (2147483648 : Int64) * (2147483648 : Int64)) x5_40 (k_w S_40 26 (((((((x3_40 * (1103515245 : Int64)) + (12345 : Int64)) - ((x3_40 * (1103515245 : Int64)) + (12345 : Int64)) / (2147483648 : Int64) * (2147483648 : Int64)) / (65536 : Int64)) - ((((x3_40 * (1103515245 : Int64)) + (12345 : Int64)) - ((x3_40 * (1103515245 : Int64)) + (12345 : Int64)) / (2147483648 : Int64) * (2147483648 : Int64)) / (65536 : Int64)) / (5 : Int64) * (5 : Int64)).toInt32).toNatClampNeg) (1 : Int32)) L else nX6_years_i40_j108 p2 (((x3_40 * (1103515245 : Int64)) + (12345 : Int64)) - ((x3_40 * (1103515245 : Int64)) + (12345 : Int64)) / (2147483648 : Int64) * (2147483648 : Int64)) x5_40 S_40 L
set_option maxRecDepth 20000 in
def nX6_years_j18 (S_18 : Nat → Nat → Int32) (L : Nat → Nat → Int64) : Option (Int32 × (Nat → Nat → Int32)) := k_b2 (nX6_refusedAsBad S_18 L) (fun r19 S19 => some (r19, S19))
set_option maxRecDepth 20000 in
def nX6_years (S : Nat → Nat → Int32) (L : Nat → Nat → Int64) (p1 : Int32) (p2 : Int32) : Option (Int32 × (Nat → Nat → Int32)) := k_b1 (nX6_upTo p1 (1000000 : Int32)) (fun r3 => if r3 = 0 then nX6_years_j18 S L else k_b1 (nX6_upTo p2 (61 : Int32)) (fun r12 => if r12 = 0 then nX6_years_j18 S L else k_b1 (nX5_copyOf (k_wi S 17) (k_wi S 1)) (fun S31 => k_it (fun st => nX6_years_l40 p2 st.1 st.2.1 st.2.2 L) 1000 (p1.toInt64, (0 : Int32), (k_sp S 17 16 S31)))))
set_option maxHeartbeats 4000000 in
set_option maxRecDepth 100000 in
theorem mX6_years (l : Launch) (D : va_G) (cs : Nat → ClassId) (a : Nat → Nat) (S : Nat → Nat → Int32) (L : Nat → Nat → Int64) (p1 : Int32) (p2 : Int32) (r9 : Int32) (S9 : (Nat → Nat → Int32)) (hd : nX6_years S L p1 p2 = some (r9, S9)) : ∀ sz : Nat, Met l yX6_years wsX6_years ({ frames := 4, cells := 0, slots := 0, locals := 106 }) (k_Pc D cs [.ref (a 0), .int p1, .int p2] (wX6 cs a S L) sz) (k_Qi D r9 (wX6 cs a S L) (wX6 cs a S9 L) sz) 0 0 (va_A (wX6 cs a S L) sz) := by
  intro sz
  refine Met.ofW (cc := cX6_years) (maxL := 7) (ret := (some .int)) (by decide) rfl ?_
  intro p e s m args below meth c s₁ B hml hv
  obtain ⟨rfl, hsz, hP, hK, hD0, hNn⟩ := hv
  have hx := B.exec
  have hb := B.bytes
  have hr := B.returns
  have hts := atoms_spec (ws := wsX6_years) B.pre
  have hown : s.vm.findClass RX6 = some m.cls := findClass_of_methodNamed B.named
  have hlocks := B.notSynchronized
  subst hsz
  obtain ⟨A, hAe⟩ : ∃ A : Nat → Prop, A = va_A (wX6 cs a S L) s.heap.size := ⟨_, rfl⟩
  have hD : va_D A (wX6 cs a S L) := by rw [hAe]; exact hD0.self
  have hA : ∀ q : Nat, s.heap.size ≤ q → A q := fun q h => by rw [hAe]; exact Or.inr h
  have hS : va_S A s.heap s.heap [] := va_S.rf
  have hDA : ∀ (S : Nat → Nat → Int32) (L : Nat → Nat → Int64), va_D A (wX6 cs a S L) := fun S L => k_DA hD rfl
  have hl := lv_entry ([.ref (a 0), .int p1, .int p2]) (n := 7) (Nat.le_of_ble_eq_true rfl)
  rw [lg_entry_eq]
  generalize (lg_sl ([.ref (a 0), .int p1, .int p2]) ++ List.replicate (7 - (lg_sl ([.ref (a 0), .int p1, .int p2])).length) Slot.unset).toArray = ls at hl ⊢
  have hl : lv_has ls 7 [(0, .ref (a 0)), (1, .int p1), (2, .int p2)] := hl
  obtain ⟨Q, hQ⟩ : ∃ Q, Q = MQ below (k_Qi D r9 (wX6 cs a S L) (wX6 cs a S9 L) s.heap.size) ([.ref (a 0), .int p1, .int p2] : List Value).toArray s 0 0 (va_A (wX6 cs a S L) s.heap.size) := ⟨_, rfl⟩
  rw [← hQ]
  have Lo40 : ∀ (n1 : Nat) (x3_40 : Int64) (x5_40 : Int32) (S_40 : Nat → Nat → Int32) (H : Heap) (locs : List Loc) (ls : Array Slot), k_it (fun st => nX6_years_l40 p2 st.1 st.2.1 st.2.2 L) n1 (x3_40, x5_40, S_40) = some (r9, S9) → lv_has ls 7 [(0, .ref (a 0)), (2, .int p2), (3, .long x3_40), (5, .int x5_40)] → va_P D vwCl (wX6 cs a S_40 L) H → va_S A s.heap H locs → W p l e (headSpec wsX6_years ({ frames := 4, cells := 0, slots := 0, locals := 106 })).room s m ([.ref (a 0), .int p1, .int p2] : List Value).toArray below meth c H locs 0 0 Q (F0 m 40 ls []) := by
    intro n1
    induction n1 with
    | zero => intro x3_40 x5_40 S_40 H locs ls hd; exact dn_it0 hd
    | succ n1 ih1 =>
      intro x3_40 x5_40 S_40 H locs ls hd hl hP hS
      have hD := hDA S_40 L
      obtain ⟨y1, hd, hy1⟩ := dn_it hd
      have hd : nX6_years_l40 p2 x3_40 x5_40 S_40 L = some y1 := hd
      have Jo108 : ∀ (x3_108 : Int64) (x5_108 : Int32) (S_108 : Nat → Nat → Int32) (H : Heap) (locs : List Loc) (ls : Array Slot), nX6_years_i40_j108 p2 x3_108 x5_108 S_108 L = some y1 → lv_has ls 7 [(0, .ref (a 0)), (2, .int p2), (3, .long x3_108), (5, .int x5_108)] → va_P D vwCl (wX6 cs a S_108 L) H → va_S A s.heap H locs → W p l e (headSpec wsX6_years ({ frames := 4, cells := 0, slots := 0, locals := 106 })).room s m ([.ref (a 0), .int p1, .int p2] : List Value).toArray below meth c H locs 0 0 Q (F0 m 108 ls []) := by
        intro x3_108 x5_108 S_108 H locs ls hd hl hP hS
        have hD := hDA S_108 L
        unfold nX6_years_i40_j108 at hd
        refine lv_aload_n hx hb dX6_years_108 rfl (lv_at hl 0 rfl) ?_
        refine va_get (D := D) (ci := 4) (v := .ref (a 17)) (C := RX6) (T := TX6) (N := 12) hx hb hts (fun w h => List.mem_cons_of_mem _ (List.mem_append_left _ (List.mem_append_left _ (List.mem_append_right _ h)))) hown hK hP 0 rfl rfl 1 (by decide) (hts (.fieldLink RX6 16 "LeastNeed" "trial" "LLeastNeed$Valley;") (List.mem_of_getElem? (i := 2) rfl)) (fun _ h9 => h9) rfl dX6_years_109 ?_
        obtain ⟨S112, hq112, hd⟩ := dn_b1 hd
        have hPc : va_P D vwCl (wX5 cs (k_wi a 17) (k_wi S_108 17)) _ := k_sub hP [17, 18, 19, 20, 21, 22, 23, 24, 25, 26, 27, 28, 29, 30, 31, 32] (wcX6_X5_17 cs a S_108 L)
        have hDc : va_D A (wX5 cs (k_wi a 17) (k_wi S_108 17)) := hD.sub [17, 18, 19, 20, 21, 22, 23, 24, 25, 26, 27, 28, 29, 30, 31, 32] (by decide) (wcX6_X5_17 cs a S_108 L)
        have hF := k_self hDc hS hA
        refine k_run_v (va_runV (As := []) (rest := []) ⟨hx, hb, hml, hown, hts⟩ (mX5_dayGoesBy l D cs (k_wi a 17) (k_wi S_108 17) S112 hq112 _) (cwV 0 hts gX6_years_X5_dayGoesBy rfl rfl rfl (by decide +kernel) ⟨Nat.le_of_ble_eq_true rfl, Nat.le_of_ble_eq_true rfl⟩) ⟨k_blind, va_recv hK hP (ci := 3) (q0 := 17) rfl rfl, k_pre hPc hK hNn hDc⟩ rfl rfl hl.1 rfl (lv_room (Nat.le_of_ble_eq_true rfl)) dX6_years_112 ⟨Nat.le_of_ble_eq_true rfl, Nat.le_of_ble_eq_true rfl⟩) hS hF (fun H locs hP1 hk hS => ?_)
        have hP : va_P D vwCl (wX6 cs a (k_sp S_108 17 16 S112) L) _ := k_back hP hD [17, 18, 19, 20, 21, 22, 23, 24, 25, 26, 27, 28, 29, 30, 31, 32] [0, 1, 2, 3, 4, 5, 6, 7, 8, 9, 10, 11, 12, 13, 14, 15, 16, 33, 34, 35, 36, 37, 38, 39, 40, 41, 42, 43, 44, 45, 46, 47, 48, 49, 50, 51, 52, 53, 54, 55, 56, 57, 58, 59, 60, 61, 62, 63, 64, 65, 66, 67, 68, 69, 70, 71, 72, 73, 74, 75, 76, 77, 78] [0, 1, 2, 3, 4, 5, 6, 7, 8, 9, 10, 11, 12, 13, 14, 15, 16, 63, 64, 65, 66, 67, 68, 69, 70, 71, 72, 73, 74, 75, 76, 77, 78, 17, 18, 19, 20, 21, 22, 23, 24, 25, 26, 27, 28, 29, 30, 31, 32, 33, 34, 35, 36, 37, 38, 39, 40, 41, 42, 43, 44, 45, 46, 47, 48, 49, 50, 51, 52, 53, 54, 55, 56, 57, 58, 59, 60, 61, 62] (wcX6_X5_17 cs a S_108 L) (by decide) hk hP1 (wbX6_X5_17_S0 cs a S_108 L S112)
        have hD := hDA (k_sp S_108 17 16 S112) L
        refine lv_iinc (v := x5_108 + (1 : Int32)) (lv' := [(5, .int (x5_108 + (1 : Int32))), (0, .ref (a 0)), (2, .int p2), (3, .long x3_108)]) hx hb dX6_years_115 hl (k := 3) rfl rfl (by decide) rfl (fun ls hl => ?_)
        refine lv_goto (tgt := 40) hx hb dX6_years_118 (by decide) ?_
        exact ih1 x3_108 (x5_108 + (1 : Int32)) (k_sp S_108 17 16 S112) _ _ _ (dn_bk hd hy1) (lv_sub hl [1, 2, 3, 0] rfl) hP hS
      unfold nX6_years_l40 at hd
      refine lv_iload hx hb dX6_years_40 (lv_at hl 3 rfl) ?_
      refine lv_iload_n hx hb dX6_years_42 rfl (lv_at hl 1 rfl) ?_
      refine lv_icmp_ge (tgt := 121) hx hb dX6_years_43 (by decide) (fun c43 => ?_) (fun c43 => ?_)
      · have hd := dn_t c43 hd
        have hd := dn_up hd hy1
        refine lv_aload_n hx hb dX6_years_121 rfl (lv_at hl 0 rfl) ?_
        refine va_get (D := D) (ci := 4) (v := .ref (a 17)) (C := RX6) (T := TX6) (N := 12) hx hb hts (fun w h => List.mem_cons_of_mem _ (List.mem_append_left _ (List.mem_append_left _ (List.mem_append_right _ h)))) hown hK hP 0 rfl rfl 1 (by decide) (hts (.fieldLink RX6 16 "LeastNeed" "trial" "LLeastNeed$Valley;") (List.mem_of_getElem? (i := 2) rfl)) (fun _ h9 => h9) rfl dX6_years_122 ?_
        obtain ⟨r125, hq125, hd⟩ := dn_b1 hd
        have hPc : va_P D vwCl (wX5 cs (k_wi a 17) (k_wi S_40 17)) _ := k_sub hP [17, 18, 19, 20, 21, 22, 23, 24, 25, 26, 27, 28, 29, 30, 31, 32] (wcX6_X5_17 cs a S_40 L)
        have hDc : va_D A (wX5 cs (k_wi a 17) (k_wi S_40 17)) := hD.sub [17, 18, 19, 20, 21, 22, 23, 24, 25, 26, 27, 28, 29, 30, 31, 32] (by decide) (wcX6_X5_17 cs a S_40 L)
        have hF := k_self hDc hS hA
        refine k_run_i (va_runV (As := []) (rest := []) ⟨hx, hb, hml, hown, hts⟩ (mX5_howManyAtHome l D cs (k_wi a 17) (k_wi S_40 17) r125 hq125 _) (cwV 0 hts gX6_years_X5_howManyAtHome rfl rfl rfl (by decide +kernel) ⟨Nat.le_of_ble_eq_true rfl, Nat.le_of_ble_eq_true rfl⟩) ⟨k_blind, va_recv hK hP (ci := 3) (q0 := 17) rfl rfl, k_pre hPc hK hNn hDc⟩ rfl rfl hl.1 rfl (lv_room (Nat.le_of_ble_eq_true rfl)) dX6_years_125 ⟨Nat.le_of_ble_eq_true rfl, Nat.le_of_ble_eq_true rfl⟩) hS hF (fun H locs hP1 hk hS => ?_)
        have hP : va_P D vwCl (wX6 cs a S_40 L) _ := k_back hP hD [17, 18, 19, 20, 21, 22, 23, 24, 25, 26, 27, 28, 29, 30, 31, 32] [0, 1, 2, 3, 4, 5, 6, 7, 8, 9, 10, 11, 12, 13, 14, 15, 16, 33, 34, 35, 36, 37, 38, 39, 40, 41, 42, 43, 44, 45, 46, 47, 48, 49, 50, 51, 52, 53, 54, 55, 56, 57, 58, 59, 60, 61, 62, 63, 64, 65, 66, 67, 68, 69, 70, 71, 72, 73, 74, 75, 76, 77, 78] [0, 1, 2, 3, 4, 5, 6, 7, 8, 9, 10, 11, 12, 13, 14, 15, 16, 63, 64, 65, 66, 67, 68, 69, 70, 71, 72, 73, 74, 75, 76, 77, 78, 17, 18, 19, 20, 21, 22, 23, 24, 25, 26, 27, 28, 29, 30, 31, 32, 33, 34, 35, 36, 37, 38, 39, 40, 41, 42, 43, 44, 45, 46, 47, 48, 49, 50, 51, 52, 53, 54, 55, 56, 57, 58, 59, 60, 61, 62] (wcX6_X5_17 cs a S_40 L) (by decide) hk hP1 (wbX6_X5_17 cs a S_40 L)
        have hD := hDA S_40 L
        obtain ⟨e1, e2⟩ := dn_s2 hd
        exact k_iret hx hb hr hQ hAe e1 (by rw [e2]) hP hS hlocks dX6_years_128
      · have hd := dn_f c43 hd
        refine lv_lload_n hx hb dX6_years_46 rfl (lv_at hl 2 rfl) ?_
        refine lv_ldc2 (v := (1103515245 : Int64)) hx hb hown (hts (.constantLong RX6 251 (1103515245)) (List.mem_of_getElem? (i := 4) rfl)) dX6_years_47 ?_
        refine lv_lmul hx hb dX6_years_50 ?_
        refine lv_ldc2 (v := (12345 : Int64)) hx hb hown (hts (.constantLong RX6 253 (12345)) (List.mem_of_getElem? (i := 5) rfl)) dX6_years_51 ?_
        refine lv_ladd hx hb dX6_years_54 ?_
        refine lv_ldc2 (v := (2147483648 : Int64)) hx hb hown (hts (.constantLong RX6 255 (2147483648)) (List.mem_of_getElem? (i := 6) rfl)) dX6_years_55 ?_
        refine lv_lrem hx hb dX6_years_58 (by decide) ?_
        refine lv_lstore_n (lv' := [(3, .long (((x3_40 * (1103515245 : Int64)) + (12345 : Int64)) - ((x3_40 * (1103515245 : Int64)) + (12345 : Int64)) / (2147483648 : Int64) * (2147483648 : Int64))), (0, .ref (a 0)), (2, .int p2), (5, .int x5_40)]) hx hb dX6_years_59 rfl hl (by decide) rfl (fun ls hl => ?_)
        refine lv_lload_n hx hb dX6_years_60 rfl (lv_at hl 0 rfl) ?_
        refine lv_ldc2 (v := (65536 : Int64)) hx hb hown (hts (.constantLong RX6 257 (65536)) (List.mem_of_getElem? (i := 7) rfl)) dX6_years_61 ?_
        refine lv_ldiv hx hb dX6_years_64 (by decide) ?_
        refine lv_ldc2 (v := (5 : Int64)) hx hb hown (hts (.constantLong RX6 259 (5)) (List.mem_of_getElem? (i := 8) rfl)) dX6_years_65 ?_
        refine lv_lrem hx hb dX6_years_68 (by decide) ?_
        refine lv_l2i hx hb dX6_years_69 rfl ?_
        refine lv_istore (lv' := [(6, .int ((((((x3_40 * (1103515245 : Int64)) + (12345 : Int64)) - ((x3_40 * (1103515245 : Int64)) + (12345 : Int64)) / (2147483648 : Int64) * (2147483648 : Int64)) / (65536 : Int64)) - ((((x3_40 * (1103515245 : Int64)) + (12345 : Int64)) - ((x3_40 * (1103515245 : Int64)) + (12345 : Int64)) / (2147483648 : Int64) * (2147483648 : Int64)) / (65536 : Int64)) / (5 : Int64) * (5 : Int64)).toInt32)), (3, .long (((x3_40 * (1103515245 : Int64)) + (12345 : Int64)) - ((x3_40 * (1103515245 : Int64)) + (12345 : Int64)) / (2147483648 : Int64) * (2147483648 : Int64))), (0, .ref (a 0)), (2, .int p2), (5, .int x5_40)]) hx hb dX6_years_70 hl (by decide) rfl (fun ls hl => ?_)
        refine lv_iload hx hb dX6_years_72 (lv_at hl 0 rfl) ?_
        refine lv_aload_n hx hb dX6_years_74 rfl (lv_at hl 2 rfl) ?_
        refine va_get (D := D) (ci := 4) (v := .ref (a 17)) (C := RX6) (T := TX6) (N := 12) hx hb hts (fun w h => List.mem_cons_of_mem _ (List.mem_append_left _ (List.mem_append_left _ (List.mem_append_right _ h)))) hown hK hP 0 rfl rfl 1 (by decide) (hts (.fieldLink RX6 16 "LeastNeed" "trial" "LLeastNeed$Valley;") (List.mem_of_getElem? (i := 2) rfl)) (fun _ h9 => h9) rfl dX6_years_75 ?_
        refine va_get (D := D) (ci := 3) (v := .int (S_40 17 13)) (C := RX5) (T := TX5) (N := 15) hx hb hts (fun w h => List.mem_cons_of_mem _ (List.mem_append_left _ (List.mem_append_right _ h))) hown hK hP 17 rfl rfl 13 (by decide) (hts (.fieldLink RX6 87 "LeastNeed$Valley" "things" "I") (List.mem_of_getElem? (i := 9) rfl)) (fun _ h9 => h9) rfl dX6_years_78 ?_
        refine lv_icmp_ge (tgt := 108) hx hb dX6_years_81 (by decide) (fun c81 => ?_) (fun c81 => ?_)
        · have hd := dn_t c81 hd
          exact Jo108 (((x3_40 * (1103515245 : Int64)) + (12345 : Int64)) - ((x3_40 * (1103515245 : Int64)) + (12345 : Int64)) / (2147483648 : Int64) * (2147483648 : Int64)) x5_40 S_40 _ _ _ hd (lv_sub hl [2, 3, 1, 4] rfl) hP hS
        · have hd := dn_f c81 hd
          refine lv_aload_n hx hb dX6_years_84 rfl (lv_at hl 2 rfl) ?_
          refine va_get (D := D) (ci := 4) (v := .ref (a 17)) (C := RX6) (T := TX6) (N := 12) hx hb hts (fun w h => List.mem_cons_of_mem _ (List.mem_append_left _ (List.mem_append_left _ (List.mem_append_right _ h)))) hown hK hP 0 rfl rfl 1 (by decide) (hts (.fieldLink RX6 16 "LeastNeed" "trial" "LLeastNeed$Valley;") (List.mem_of_getElem? (i := 2) rfl)) (fun _ h9 => h9) rfl dX6_years_85 ?_
          refine va_get (D := D) (ci := 3) (v := .ref (a 26)) (C := RX5) (T := TX5) (N := 15) hx hb hts (fun w h => List.mem_cons_of_mem _ (List.mem_append_left _ (List.mem_append_right _ h))) hown hK hP 17 rfl rfl 8 (by decide) (hts (.fieldLink RX6 112 "LeastNeed$Valley" "place" "[I") (List.mem_of_getElem? (i := 10) rfl)) (fun _ h9 => h9) rfl dX6_years_88 ?_
          refine lv_iload hx hb dX6_years_91 (lv_at hl 0 rfl) ?_
          obtain ⟨hi93, hd⟩ := dn_i hd
          refine k_iald (D := D) (k := ((((((x3_40 * (1103515245 : Int64)) + (12345 : Int64)) - ((x3_40 * (1103515245 : Int64)) + (12345 : Int64)) / (2147483648 : Int64) * (2147483648 : Int64)) / (65536 : Int64)) - ((((x3_40 * (1103515245 : Int64)) + (12345 : Int64)) - ((x3_40 * (1103515245 : Int64)) + (12345 : Int64)) / (2147483648 : Int64) * (2147483648 : Int64)) / (65536 : Int64)) / (5 : Int64) * (5 : Int64)).toInt32).toNatClampNeg) (by rfl) hx hb hK hP 26 1 rfl rfl hi93 dX6_years_93 ?_
          refine lv_if_ne (tgt := 108) hx hb dX6_years_94 (by decide) (fun c94 => ?_) (fun c94 => ?_)
          · have hd := dn_f c94 hd
            exact Jo108 (((x3_40 * (1103515245 : Int64)) + (12345 : Int64)) - ((x3_40 * (1103515245 : Int64)) + (12345 : Int64)) / (2147483648 : Int64) * (2147483648 : Int64)) x5_40 S_40 _ _ _ hd (lv_sub hl [2, 3, 1, 4] rfl) hP hS
          · have hd := dn_t c94 hd
            refine lv_aload_n hx hb dX6_years_97 rfl (lv_at hl 2 rfl) ?_
            refine va_get (D := D) (ci := 4) (v := .ref (a 17)) (C := RX6) (T := TX6) (N := 12) hx hb hts (fun w h => List.mem_cons_of_mem _ (List.mem_append_left _ (List.mem_append_left _ (List.mem_append_right _ h)))) hown hK hP 0 rfl rfl 1 (by decide) (hts (.fieldLink RX6 16 "LeastNeed" "trial" "LLeastNeed$Valley;") (List.mem_of_getElem? (i := 2) rfl)) (fun _ h9 => h9) rfl dX6_years_98 ?_
            refine va_get (D := D) (ci := 3) (v := .ref (a 26)) (C := RX5) (T := TX5) (N := 15) hx hb hts (fun w h => List.mem_cons_of_mem _ (List.mem_append_left _ (List.mem_append_right _ h))) hown hK hP 17 rfl rfl 8 (by decide) (hts (.fieldLink RX6 112 "LeastNeed$Valley" "place" "[I") (List.mem_of_getElem? (i := 10) rfl)) (fun _ h9 => h9) rfl dX6_years_101 ?_
            refine lv_iload hx hb dX6_years_104 (lv_at hl 0 rfl) ?_
            refine lv_iconst (v := (1 : Int32)) hx hb dX6_years_106 (by decide) ?_
            obtain ⟨hi107, hd⟩ := dn_i hd
            refine k_iast (D := D) (k := ((((((x3_40 * (1103515245 : Int64)) + (12345 : Int64)) - ((x3_40 * (1103515245 : Int64)) + (12345 : Int64)) / (2147483648 : Int64) * (2147483648 : Int64)) / (65536 : Int64)) - ((((x3_40 * (1103515245 : Int64)) + (12345 : Int64)) - ((x3_40 * (1103515245 : Int64)) + (12345 : Int64)) / (2147483648 : Int64) * (2147483648 : Int64)) / (65536 : Int64)) / (5 : Int64) * (5 : Int64)).toInt32).toNatClampNeg) (by rfl) hx hb hK hP hD hS 26 1 rfl rfl hi107 dX6_years_107 (fun H locs hP hD hS => ?_)
            have hP : va_P D vwCl (wX6 cs a (k_w S_40 26 (((((((x3_40 * (1103515245 : Int64)) + (12345 : Int64)) - ((x3_40 * (1103515245 : Int64)) + (12345 : Int64)) / (2147483648 : Int64) * (2147483648 : Int64)) / (65536 : Int64)) - ((((x3_40 * (1103515245 : Int64)) + (12345 : Int64)) - ((x3_40 * (1103515245 : Int64)) + (12345 : Int64)) / (2147483648 : Int64) * (2147483648 : Int64)) / (65536 : Int64)) / (5 : Int64) * (5 : Int64)).toInt32).toNatClampNeg) (1 : Int32)) L) _ := k_eq hP (wsX6_a26 cs a S_40 L (((((((x3_40 * (1103515245 : Int64)) + (12345 : Int64)) - ((x3_40 * (1103515245 : Int64)) + (12345 : Int64)) / (2147483648 : Int64) * (2147483648 : Int64)) / (65536 : Int64)) - ((((x3_40 * (1103515245 : Int64)) + (12345 : Int64)) - ((x3_40 * (1103515245 : Int64)) + (12345 : Int64)) / (2147483648 : Int64) * (2147483648 : Int64)) / (65536 : Int64)) / (5 : Int64) * (5 : Int64)).toInt32).toNatClampNeg) (1 : Int32))
            have hD := hDA (k_w S_40 26 (((((((x3_40 * (1103515245 : Int64)) + (12345 : Int64)) - ((x3_40 * (1103515245 : Int64)) + (12345 : Int64)) / (2147483648 : Int64) * (2147483648 : Int64)) / (65536 : Int64)) - ((((x3_40 * (1103515245 : Int64)) + (12345 : Int64)) - ((x3_40 * (1103515245 : Int64)) + (12345 : Int64)) / (2147483648 : Int64) * (2147483648 : Int64)) / (65536 : Int64)) / (5 : Int64) * (5 : Int64)).toInt32).toNatClampNeg) (1 : Int32)) L
            exact Jo108 (((x3_40 * (1103515245 : Int64)) + (12345 : Int64)) - ((x3_40 * (1103515245 : Int64)) + (12345 : Int64)) / (2147483648 : Int64) * (2147483648 : Int64)) x5_40 (k_w S_40 26 (((((((x3_40 * (1103515245 : Int64)) + (12345 : Int64)) - ((x3_40 * (1103515245 : Int64)) + (12345 : Int64)) / (2147483648 : Int64) * (2147483648 : Int64)) / (65536 : Int64)) - ((((x3_40 * (1103515245 : Int64)) + (12345 : Int64)) - ((x3_40 * (1103515245 : Int64)) + (12345 : Int64)) / (2147483648 : Int64) * (2147483648 : Int64)) / (65536 : Int64)) / (5 : Int64) * (5 : Int64)).toInt32).toNatClampNeg) (1 : Int32)) _ _ _ hd (lv_sub hl [2, 3, 1, 4] rfl) hP hS
  have Jo18 : ∀ (S_18 : Nat → Nat → Int32) (H : Heap) (locs : List Loc) (ls : Array Slot), nX6_years_j18 S_18 L = some (r9, S9) → lv_has ls 7 [(0, .ref (a 0))] → va_P D vwCl (wX6 cs a S_18 L) H → va_S A s.heap H locs → W p l e (headSpec wsX6_years ({ frames := 4, cells := 0, slots := 0, locals := 106 })).room s m ([.ref (a 0), .int p1, .int p2] : List Value).toArray below meth c H locs 0 0 Q (F0 m 18 ls []) := by
    intro S_18 H locs ls hd hl hP hS
    have hD := hDA S_18 L
    unfold nX6_years_j18 at hd
    refine lv_aload_n hx hb dX6_years_18 rfl (lv_at hl 0 rfl) ?_
    obtain ⟨r19, S19, hq19, hd⟩ := dn_b2 hd
    have hF := k_self hD hS hA
    refine k_run_i (va_runV (As := []) (rest := []) ⟨hx, hb, hml, hown, hts⟩ (mX6_refusedAsBad l D cs a S_18 L r19 S19 hq19 _) (cwV 0 hts gX6_years_X6_refusedAsBad rfl rfl rfl (by decide +kernel) ⟨Nat.le_of_ble_eq_true rfl, Nat.le_of_ble_eq_true rfl⟩) ⟨k_blind, va_recv hK hP (ci := 4) (q0 := 0) rfl rfl, k_pre hP hK hNn hD⟩ rfl rfl hl.1 rfl (lv_room (Nat.le_of_ble_eq_true rfl)) dX6_years_19 ⟨Nat.le_of_ble_eq_true rfl, Nat.le_of_ble_eq_true rfl⟩) hS hF (fun H locs hP1 hk hS => ?_)
    have hP : va_P D vwCl (wX6 cs a S19 L) _ := hP1
    have hD := hDA S19 L
    obtain ⟨e1, e2⟩ := dn_s2 hd
    exact k_iret hx hb hr hQ hAe e1 (by rw [e2]) hP hS hlocks dX6_years_22
  unfold nX6_years at hd
  refine lv_iload_n hx hb dX6_years_0 rfl (lv_at hl 1 rfl) ?_
  refine lv_ldc (v := (1000000 : Int32)) hx hb hown (hts (.constant RX6 250 (1000000)) (List.mem_of_getElem? (i := 1) rfl)) dX6_years_1 ?_
  obtain ⟨r3, hq3, hd⟩ := dn_b1 hd
  have hPc := k_P0 hP
  have hDc : va_D A ([] : va_W) := k_D0
  have hF := k_self hDc hS hA
  refine k_run_i (va_runS (As := [.int p1, .int (1000000 : Int32)]) (rest := []) ⟨hx, hb, hml, hown, hts⟩ (mX6_upTo l D cs  p1 (1000000 : Int32) r3 hq3 _) (va_cwS 2 hts gX6_years_X6_upTo rfl rfl rfl (by decide +kernel) ⟨Nat.le_of_ble_eq_true rfl, Nat.le_of_ble_eq_true rfl⟩) ⟨k_blind, k_pre hPc hK hNn hDc⟩ rfl rfl hl.1 rfl (lv_room (Nat.le_of_ble_eq_true rfl)) dX6_years_3 ⟨Nat.le_of_ble_eq_true rfl, Nat.le_of_ble_eq_true rfl⟩) hS hF (fun H locs hP1 hk hS => ?_)
  have hP : va_P D vwCl (wX6 cs a S L) _ := k_keep hP hk
  refine lv_if_eq (tgt := 18) hx hb dX6_years_6 (by decide) (fun c6 => ?_) (fun c6 => ?_)
  · have hd := dn_t c6 hd
    exact Jo18 S _ _ _ hd (lv_sub hl [0] rfl) hP hS
  · have hd := dn_f c6 hd
    refine lv_iload_n hx hb dX6_years_9 rfl (lv_at hl 2 rfl) ?_
    refine lv_bipush (v := (61 : Int32)) hx hb dX6_years_10 (by decide) ?_
    obtain ⟨r12, hq12, hd⟩ := dn_b1 hd
    have hPc := k_P0 hP
    have hDc : va_D A ([] : va_W) := k_D0
    have hF := k_self hDc hS hA
    refine k_run_i (va_runS (As := [.int p2, .int (61 : Int32)]) (rest := []) ⟨hx, hb, hml, hown, hts⟩ (mX6_upTo l D cs  p2 (61 : Int32) r12 hq12 _) (va_cwS 2 hts gX6_years_X6_upTo rfl rfl rfl (by decide +kernel) ⟨Nat.le_of_ble_eq_true rfl, Nat.le_of_ble_eq_true rfl⟩) ⟨k_blind, k_pre hPc hK hNn hDc⟩ rfl rfl hl.1 rfl (lv_room (Nat.le_of_ble_eq_true rfl)) dX6_years_12 ⟨Nat.le_of_ble_eq_true rfl, Nat.le_of_ble_eq_true rfl⟩) hS hF (fun H locs hP1 hk hS => ?_)
    have hP : va_P D vwCl (wX6 cs a S L) _ := k_keep hP hk
    refine lv_if_ne (tgt := 23) hx hb dX6_years_15 (by decide) (fun c15 => ?_) (fun c15 => ?_)
    · have hd := dn_f c15 hd
      refine lv_aload_n hx hb dX6_years_23 rfl (lv_at hl 0 rfl) ?_
      refine va_get (D := D) (ci := 4) (v := .ref (a 17)) (C := RX6) (T := TX6) (N := 12) hx hb hts (fun w h => List.mem_cons_of_mem _ (List.mem_append_left _ (List.mem_append_left _ (List.mem_append_right _ h)))) hown hK hP 0 rfl rfl 1 (by decide) (hts (.fieldLink RX6 16 "LeastNeed" "trial" "LLeastNeed$Valley;") (List.mem_of_getElem? (i := 2) rfl)) (fun _ h9 => h9) rfl dX6_years_24 ?_
      refine lv_aload_n hx hb dX6_years_27 rfl (lv_at hl 0 rfl) ?_
      refine va_get (D := D) (ci := 4) (v := .ref (a 1)) (C := RX6) (T := TX6) (N := 12) hx hb hts (fun w h => List.mem_cons_of_mem _ (List.mem_append_left _ (List.mem_append_left _ (List.mem_append_right _ h)))) hown hK hP 0 rfl rfl 0 (by decide) (hts (.fieldLink RX6 12 "LeastNeed" "now" "LLeastNeed$Valley;") (List.mem_of_getElem? (i := 3) rfl)) (fun _ h9 => h9) rfl dX6_years_28 ?_
      obtain ⟨S31, hq31, hd⟩ := dn_b1 hd
      have hPc : va_P D vwCl (wX5 cs (k_wi a 17) (k_wi S 17) ++ wX5 cs (k_wi a 1) (k_wi S 1)) _ := k_sub hP [17, 18, 19, 20, 21, 22, 23, 24, 25, 26, 27, 28, 29, 30, 31, 32, 1, 2, 3, 4, 5, 6, 7, 8, 9, 10, 11, 12, 13, 14, 15, 16] (wcX6_X5_X5_17_1 cs a S L)
      have hDc : va_D A (wX5 cs (k_wi a 17) (k_wi S 17) ++ wX5 cs (k_wi a 1) (k_wi S 1)) := hD.sub [17, 18, 19, 20, 21, 22, 23, 24, 25, 26, 27, 28, 29, 30, 31, 32, 1, 2, 3, 4, 5, 6, 7, 8, 9, 10, 11, 12, 13, 14, 15, 16] (by decide) (wcX6_X5_X5_17_1 cs a S L)
      have hF := k_self hDc hS hA
      refine k_run_v (va_runV (As := [.ref (a 1)]) (rest := []) ⟨hx, hb, hml, hown, hts⟩ (mX5_copyOf l D cs (k_wi a 17) (k_wi a 1) (k_wi S 17) (k_wi S 1) S31 hq31 _) (cwV 1 hts gX6_years_X5_copyOf rfl rfl rfl (by decide +kernel) ⟨Nat.le_of_ble_eq_true rfl, Nat.le_of_ble_eq_true rfl⟩) ⟨k_blind, va_recv hK hP (ci := 3) (q0 := 17) rfl rfl, k_pre hPc hK hNn hDc⟩ rfl rfl hl.1 rfl (lv_room (Nat.le_of_ble_eq_true rfl)) dX6_years_31 ⟨Nat.le_of_ble_eq_true rfl, Nat.le_of_ble_eq_true rfl⟩) hS hF (fun H locs hP1 hk hS => ?_)
      have hP : va_P D vwCl (wX6 cs a (k_sp S 17 16 S31) L) _ := k_back hP hD [17, 18, 19, 20, 21, 22, 23, 24, 25, 26, 27, 28, 29, 30, 31, 32, 1, 2, 3, 4, 5, 6, 7, 8, 9, 10, 11, 12, 13, 14, 15, 16] [0, 33, 34, 35, 36, 37, 38, 39, 40, 41, 42, 43, 44, 45, 46, 47, 48, 49, 50, 51, 52, 53, 54, 55, 56, 57, 58, 59, 60, 61, 62, 63, 64, 65, 66, 67, 68, 69, 70, 71, 72, 73, 74, 75, 76, 77, 78] [0, 63, 64, 65, 66, 67, 68, 69, 70, 71, 72, 73, 74, 75, 76, 77, 78, 47, 48, 49, 50, 51, 52, 53, 54, 55, 56, 57, 58, 59, 60, 61, 62, 1, 2, 3, 4, 5, 6, 7, 8, 9, 10, 11, 12, 13, 14, 15, 16, 17, 18, 19, 20, 21, 22, 23, 24, 25, 26, 27, 28, 29, 30, 31, 32, 33, 34, 35, 36, 37, 38, 39, 40, 41, 42, 43, 44, 45, 46] (wcX6_X5_X5_17_1 cs a S L) (by decide) hk hP1 (wbX6_X5_X5_17_1_S0 cs a S L S31)
      have hD := hDA (k_sp S 17 16 S31) L
      refine lv_iload_n hx hb dX6_years_34 rfl (lv_at hl 1 rfl) ?_
      refine lv_i2l hx hb dX6_years_35 rfl ?_
      refine lv_lstore_n (lv' := [(3, .long p1.toInt64), (0, .ref (a 0)), (1, .int p1), (2, .int p2)]) hx hb dX6_years_36 rfl hl (by decide) rfl (fun ls hl => ?_)
      refine lv_iconst (v := (0 : Int32)) hx hb dX6_years_37 (by decide) ?_
      refine lv_istore (lv' := [(5, .int (0 : Int32)), (3, .long p1.toInt64), (0, .ref (a 0)), (1, .int p1), (2, .int p2)]) hx hb dX6_years_38 hl (by decide) rfl (fun ls hl => ?_)
      exact Lo40 1000 p1.toInt64 (0 : Int32) (k_sp S 17 16 S31) _ _ _ hd (lv_sub hl [2, 4, 1, 0] rfl) hP hS
    · have hd := dn_t c15 hd
      exact Jo18 S _ _ _ hd (lv_sub hl [0] rfl) hP hS
-- LeastNeed.part(I)J
set_option maxRecDepth 20000 in
def nX6_part (S : Nat → Nat → Int32) (L : Nat → Nat → Int64) (p1 : Int32) : Option (Int64 × (Nat → Nat → Int32)) := k_b1 (nX6_upTo p1 (2 : Int32)) (fun r2 => if r2 = 0 then k_b2 (nX6_refusedAsBad S L) (fun r9 S9 => some (r9.toInt64, S9)) else if p1 = 0 then some ((L 0 10), S) else some ((L 0 11), S))
set_option maxHeartbeats 4000000 in
set_option maxRecDepth 100000 in
theorem mX6_part (l : Launch) (D : va_G) (cs : Nat → ClassId) (a : Nat → Nat) (S : Nat → Nat → Int32) (L : Nat → Nat → Int64) (p1 : Int32) (r9 : Int64) (S9 : (Nat → Nat → Int32)) (hd : nX6_part S L p1 = some (r9, S9)) : ∀ sz : Nat, Met l yX6_part wsX6_part ({ frames := 1, cells := 0, slots := 0, locals := 21 }) (k_Pc D cs [.ref (a 0), .int p1] (wX6 cs a S L) sz) (k_Ql D r9 (wX6 cs a S L) (wX6 cs a S9 L) sz) 0 0 (va_A (wX6 cs a S L) sz) := by
  intro sz
  refine Met.ofW (cc := cX6_part) (maxL := 2) (ret := (some .long)) (by decide) rfl ?_
  intro p e s m args below meth c s₁ B hml hv
  obtain ⟨rfl, hsz, hP, hK, hD0, hNn⟩ := hv
  have hx := B.exec
  have hb := B.bytes
  have hr := B.returns
  have hts := atoms_spec (ws := wsX6_part) B.pre
  have hown : s.vm.findClass RX6 = some m.cls := findClass_of_methodNamed B.named
  have hlocks := B.notSynchronized
  subst hsz
  obtain ⟨A, hAe⟩ : ∃ A : Nat → Prop, A = va_A (wX6 cs a S L) s.heap.size := ⟨_, rfl⟩
  have hD : va_D A (wX6 cs a S L) := by rw [hAe]; exact hD0.self
  have hA : ∀ q : Nat, s.heap.size ≤ q → A q := fun q h => by rw [hAe]; exact Or.inr h
  have hS : va_S A s.heap s.heap [] := va_S.rf
  have hDA : ∀ (S : Nat → Nat → Int32) (L : Nat → Nat → Int64), va_D A (wX6 cs a S L) := fun S L => k_DA hD rfl
  have hl := lv_entry ([.ref (a 0), .int p1]) (n := 2) (Nat.le_of_ble_eq_true rfl)
  rw [lg_entry_eq]
  generalize (lg_sl ([.ref (a 0), .int p1]) ++ List.replicate (2 - (lg_sl ([.ref (a 0), .int p1])).length) Slot.unset).toArray = ls at hl ⊢
  have hl : lv_has ls 2 [(0, .ref (a 0)), (1, .int p1)] := hl
  obtain ⟨Q, hQ⟩ : ∃ Q, Q = MQ below (k_Ql D r9 (wX6 cs a S L) (wX6 cs a S9 L) s.heap.size) ([.ref (a 0), .int p1] : List Value).toArray s 0 0 (va_A (wX6 cs a S L) s.heap.size) := ⟨_, rfl⟩
  rw [← hQ]
  unfold nX6_part at hd
  refine lv_iload_n hx hb dX6_part_0 rfl (lv_at hl 1 rfl) ?_
  refine lv_iconst (v := (2 : Int32)) hx hb dX6_part_1 (by decide) ?_
  obtain ⟨r2, hq2, hd⟩ := dn_b1 hd
  have hPc := k_P0 hP
  have hDc : va_D A ([] : va_W) := k_D0
  have hF := k_self hDc hS hA
  refine k_run_i (va_runS (As := [.int p1, .int (2 : Int32)]) (rest := []) ⟨hx, hb, hml, hown, hts⟩ (mX6_upTo l D cs  p1 (2 : Int32) r2 hq2 _) (va_cwS 2 hts gX6_part_X6_upTo rfl rfl rfl (by decide +kernel) ⟨Nat.le_of_ble_eq_true rfl, Nat.le_of_ble_eq_true rfl⟩) ⟨k_blind, k_pre hPc hK hNn hDc⟩ rfl rfl hl.1 rfl (lv_room (Nat.le_of_ble_eq_true rfl)) dX6_part_2 ⟨Nat.le_of_ble_eq_true rfl, Nat.le_of_ble_eq_true rfl⟩) hS hF (fun H locs hP1 hk hS => ?_)
  have hP : va_P D vwCl (wX6 cs a S L) _ := k_keep hP hk
  refine lv_if_ne (tgt := 14) hx hb dX6_part_5 (by decide) (fun c5 => ?_) (fun c5 => ?_)
  · have hd := dn_f c5 hd
    refine lv_iload_n hx hb dX6_part_14 rfl (lv_at hl 1 rfl) ?_
    refine lv_if_ne (tgt := 25) hx hb dX6_part_15 (by decide) (fun c15 => ?_) (fun c15 => ?_)
    · have hd := dn_f c15 hd
      refine lv_aload_n hx hb dX6_part_25 rfl (lv_at hl 0 rfl) ?_
      refine va_get (D := D) (ci := 4) (v := .long (L 0 11)) (C := RX6) (T := TX6) (N := 12) hx hb hts (fun w h => List.mem_cons_of_mem _ (List.mem_append_right _ h)) hown hK hP 0 rfl rfl 11 (by decide) (hts (.fieldLink RX6 58 "LeastNeed" "below" "J") (List.mem_of_getElem? (i := 2) rfl)) (fun _ h9 => h9) rfl dX6_part_26 ?_
      obtain ⟨e1, e2⟩ := dn_s2 hd
      exact k_lret hx hb hr hQ hAe e1 (by rw [e2]) hP hS hlocks dX6_part_29
    · have hd := dn_t c15 hd
      refine lv_aload_n hx hb dX6_part_18 rfl (lv_at hl 0 rfl) ?_
      refine va_get (D := D) (ci := 4) (v := .long (L 0 10)) (C := RX6) (T := TX6) (N := 12) hx hb hts (fun w h => List.mem_cons_of_mem _ (List.mem_append_right _ h)) hown hK hP 0 rfl rfl 10 (by decide) (hts (.fieldLink RX6 54 "LeastNeed" "above" "J") (List.mem_of_getElem? (i := 1) rfl)) (fun _ h9 => h9) rfl dX6_part_19 ?_
      refine lv_goto (tgt := 29) hx hb dX6_part_22 (by decide) ?_
      obtain ⟨e1, e2⟩ := dn_s2 hd
      exact k_lret hx hb hr hQ hAe e1 (by rw [e2]) hP hS hlocks dX6_part_29
  · have hd := dn_t c5 hd
    refine lv_aload_n hx hb dX6_part_8 rfl (lv_at hl 0 rfl) ?_
    obtain ⟨r9, S9, hq9, hd⟩ := dn_b2 hd
    have hF := k_self hD hS hA
    refine k_run_i (va_runV (As := []) (rest := []) ⟨hx, hb, hml, hown, hts⟩ (mX6_refusedAsBad l D cs a S L r9 S9 hq9 _) (cwV 0 hts gX6_part_X6_refusedAsBad rfl rfl rfl (by decide +kernel) ⟨Nat.le_of_ble_eq_true rfl, Nat.le_of_ble_eq_true rfl⟩) ⟨k_blind, va_recv hK hP (ci := 4) (q0 := 0) rfl rfl, k_pre hP hK hNn hD⟩ rfl rfl hl.1 rfl (lv_room (Nat.le_of_ble_eq_true rfl)) dX6_part_9 ⟨Nat.le_of_ble_eq_true rfl, Nat.le_of_ble_eq_true rfl⟩) hS hF (fun H locs hP1 hk hS => ?_)
    have hP : va_P D vwCl (wX6 cs a S9 L) _ := hP1
    have hD := hDA S9 L
    refine lv_i2l hx hb dX6_part_12 rfl ?_
    obtain ⟨e1, e2⟩ := dn_s2 hd
    exact k_lret hx hb hr hQ hAe e1 (by rw [e2]) hP hS hlocks dX6_part_13
-- LeastNeed.image(I)I
set_option maxRecDepth 20000 in
def nX6_image (S : Nat → Nat → Int32) (L : Nat → Nat → Int64) (p1 : Int32) : Option (Int32 × (Nat → Nat → Int32)) := k_b1 (nX6_upTo p1 (2 : Int32)) (fun r2 => if r2 = 0 then k_b2 (nX6_refusedAsBad S L) (fun r9 S9 => some (r9, S9)) else if p1 = (0 : Int32) then k_b1 (nX5_copyOf (k_wi S 33) (k_wi S 1)) (fun S23 => if p1 < 0 ∨ 2 ≤ p1.toNatClampNeg then none else some ((1 : Int32), (k_w (k_sp S 33 16 S23) 66 p1.toNatClampNeg (vp_nar .boolean (1 : Int32))))) else if p1 = (1 : Int32) then k_b1 (nX5_copyOf (k_wi S 49) (k_wi S 1)) (fun S23 => if p1 < 0 ∨ 2 ≤ p1.toNatClampNeg then none else some ((1 : Int32), (k_w (k_sp S 49 16 S23) 66 p1.toNatClampNeg (vp_nar .boolean (1 : Int32))))) else none)
set_option maxHeartbeats 4000000 in
set_option maxRecDepth 100000 in
theorem mX6_image (l : Launch) (D : va_G) (cs : Nat → ClassId) (a : Nat → Nat) (S : Nat → Nat → Int32) (L : Nat → Nat → Int64) (p1 : Int32) (r9 : Int32) (S9 : (Nat → Nat → Int32)) (hd : nX6_image S L p1 = some (r9, S9)) : ∀ sz : Nat, Met l yX6_image wsX6_image ({ frames := 4, cells := 0, slots := 0, locals := 103 }) (k_Pc D cs [.ref (a 0), .int p1] (wX6 cs a S L) sz) (k_Qi D r9 (wX6 cs a S L) (wX6 cs a S9 L) sz) 0 0 (va_A (wX6 cs a S L) sz) := by
  intro sz
  refine Met.ofW (cc := cX6_image) (maxL := 2) (ret := (some .int)) (by decide) rfl ?_
  intro p e s m args below meth c s₁ B hml hv
  obtain ⟨rfl, hsz, hP, hK, hD0, hNn⟩ := hv
  have hx := B.exec
  have hb := B.bytes
  have hr := B.returns
  have hts := atoms_spec (ws := wsX6_image) B.pre
  have hown : s.vm.findClass RX6 = some m.cls := findClass_of_methodNamed B.named
  have hlocks := B.notSynchronized
  subst hsz
  obtain ⟨A, hAe⟩ : ∃ A : Nat → Prop, A = va_A (wX6 cs a S L) s.heap.size := ⟨_, rfl⟩
  have hD : va_D A (wX6 cs a S L) := by rw [hAe]; exact hD0.self
  have hA : ∀ q : Nat, s.heap.size ≤ q → A q := fun q h => by rw [hAe]; exact Or.inr h
  have hS : va_S A s.heap s.heap [] := va_S.rf
  have hDA : ∀ (S : Nat → Nat → Int32) (L : Nat → Nat → Int64), va_D A (wX6 cs a S L) := fun S L => k_DA hD rfl
  have hl := lv_entry ([.ref (a 0), .int p1]) (n := 2) (Nat.le_of_ble_eq_true rfl)
  rw [lg_entry_eq]
  generalize (lg_sl ([.ref (a 0), .int p1]) ++ List.replicate (2 - (lg_sl ([.ref (a 0), .int p1])).length) Slot.unset).toArray = ls at hl ⊢
  have hl : lv_has ls 2 [(0, .ref (a 0)), (1, .int p1)] := hl
  obtain ⟨Q, hQ⟩ : ∃ Q, Q = MQ below (k_Qi D r9 (wX6 cs a S L) (wX6 cs a S9 L) s.heap.size) ([.ref (a 0), .int p1] : List Value).toArray s 0 0 (va_A (wX6 cs a S L) s.heap.size) := ⟨_, rfl⟩
  rw [← hQ]
  unfold nX6_image at hd
  refine lv_iload_n hx hb dX6_image_0 rfl (lv_at hl 1 rfl) ?_
  refine lv_iconst (v := (2 : Int32)) hx hb dX6_image_1 (by decide) ?_
  obtain ⟨r2, hq2, hd⟩ := dn_b1 hd
  have hPc := k_P0 hP
  have hDc : va_D A ([] : va_W) := k_D0
  have hF := k_self hDc hS hA
  refine k_run_i (va_runS (As := [.int p1, .int (2 : Int32)]) (rest := []) ⟨hx, hb, hml, hown, hts⟩ (mX6_upTo l D cs  p1 (2 : Int32) r2 hq2 _) (va_cwS 2 hts gX6_image_X6_upTo rfl rfl rfl (by decide +kernel) ⟨Nat.le_of_ble_eq_true rfl, Nat.le_of_ble_eq_true rfl⟩) ⟨k_blind, k_pre hPc hK hNn hDc⟩ rfl rfl hl.1 rfl (lv_room (Nat.le_of_ble_eq_true rfl)) dX6_image_2 ⟨Nat.le_of_ble_eq_true rfl, Nat.le_of_ble_eq_true rfl⟩) hS hF (fun H locs hP1 hk hS => ?_)
  have hP : va_P D vwCl (wX6 cs a S L) _ := k_keep hP hk
  refine lv_if_ne (tgt := 13) hx hb dX6_image_5 (by decide) (fun c5 => ?_) (fun c5 => ?_)
  · have hd := dn_f c5 hd
    refine lv_aload_n hx hb dX6_image_13 rfl (lv_at hl 0 rfl) ?_
    refine va_get (D := D) (ci := 4) (v := .ref (a 65)) (C := RX6) (T := TX6) (N := 12) hx hb hts (fun w h => List.mem_cons_of_mem _ (List.mem_append_left _ (List.mem_append_left _ (List.mem_append_right _ h)))) hown hK hP 0 rfl rfl 2 (by decide) (hts (.fieldLink RX6 19 "LeastNeed" "images" "[LLeastNeed$Valley;") (List.mem_of_getElem? (i := 1) rfl)) (fun _ h9 => h9) rfl dX6_image_14 ?_
    refine lv_iload_n hx hb dX6_image_17 rfl (lv_at hl 1 rfl) ?_
    by_cases e18_0 : p1 = (0 : Int32)
    · have hd := dn_t e18_0 hd
      refine k_aldq (D := D) (z := a 33) (by rw [e18_0]; rfl) hx hb hK hP 65 4 rfl rfl (by rw [e18_0]; exact k_in (by decide)) dX6_image_18 ?_
      refine lv_aload_n hx hb dX6_image_19 rfl (lv_at hl 0 rfl) ?_
      refine va_get (D := D) (ci := 4) (v := .ref (a 1)) (C := RX6) (T := TX6) (N := 12) hx hb hts (fun w h => List.mem_cons_of_mem _ (List.mem_append_left _ (List.mem_append_left _ (List.mem_append_right _ h)))) hown hK hP 0 rfl rfl 0 (by decide) (hts (.fieldLink RX6 12 "LeastNeed" "now" "LLeastNeed$Valley;") (List.mem_of_getElem? (i := 2) rfl)) (fun _ h9 => h9) rfl dX6_image_20 ?_
      obtain ⟨S23, hq23, hd⟩ := dn_b1 hd
      have hPc : va_P D vwCl (wX5 cs (k_wi a 33) (k_wi S 33) ++ wX5 cs (k_wi a 1) (k_wi S 1)) _ := k_sub hP [33, 34, 35, 36, 37, 38, 39, 40, 41, 42, 43, 44, 45, 46, 47, 48, 1, 2, 3, 4, 5, 6, 7, 8, 9, 10, 11, 12, 13, 14, 15, 16] (wcX6_X5_X5_33_1 cs a S L)
      have hDc : va_D A (wX5 cs (k_wi a 33) (k_wi S 33) ++ wX5 cs (k_wi a 1) (k_wi S 1)) := hD.sub [33, 34, 35, 36, 37, 38, 39, 40, 41, 42, 43, 44, 45, 46, 47, 48, 1, 2, 3, 4, 5, 6, 7, 8, 9, 10, 11, 12, 13, 14, 15, 16] (by decide) (wcX6_X5_X5_33_1 cs a S L)
      have hF := k_self hDc hS hA
      refine k_run_v (va_runV (As := [.ref (a 1)]) (rest := []) ⟨hx, hb, hml, hown, hts⟩ (mX5_copyOf l D cs (k_wi a 33) (k_wi a 1) (k_wi S 33) (k_wi S 1) S23 hq23 _) (cwV 1 hts gX6_image_X5_copyOf rfl rfl rfl (by decide +kernel) ⟨Nat.le_of_ble_eq_true rfl, Nat.le_of_ble_eq_true rfl⟩) ⟨k_blind, va_recv hK hP (ci := 3) (q0 := 33) rfl rfl, k_pre hPc hK hNn hDc⟩ rfl rfl hl.1 rfl (lv_room (Nat.le_of_ble_eq_true rfl)) dX6_image_23 ⟨Nat.le_of_ble_eq_true rfl, Nat.le_of_ble_eq_true rfl⟩) hS hF (fun H locs hP1 hk hS => ?_)
      have hP : va_P D vwCl (wX6 cs a (k_sp S 33 16 S23) L) _ := k_back hP hD [33, 34, 35, 36, 37, 38, 39, 40, 41, 42, 43, 44, 45, 46, 47, 48, 1, 2, 3, 4, 5, 6, 7, 8, 9, 10, 11, 12, 13, 14, 15, 16] [0, 17, 18, 19, 20, 21, 22, 23, 24, 25, 26, 27, 28, 29, 30, 31, 32, 49, 50, 51, 52, 53, 54, 55, 56, 57, 58, 59, 60, 61, 62, 63, 64, 65, 66, 67, 68, 69, 70, 71, 72, 73, 74, 75, 76, 77, 78] [0, 63, 64, 65, 66, 67, 68, 69, 70, 71, 72, 73, 74, 75, 76, 77, 78, 1, 2, 3, 4, 5, 6, 7, 8, 9, 10, 11, 12, 13, 14, 15, 16, 47, 48, 49, 50, 51, 52, 53, 54, 55, 56, 57, 58, 59, 60, 61, 62, 17, 18, 19, 20, 21, 22, 23, 24, 25, 26, 27, 28, 29, 30, 31, 32, 33, 34, 35, 36, 37, 38, 39, 40, 41, 42, 43, 44, 45, 46] (wcX6_X5_X5_33_1 cs a S L) (by decide) hk hP1 (wbX6_X5_X5_33_1_S0 cs a S L S23)
      have hD := hDA (k_sp S 33 16 S23) L
      refine lv_aload_n hx hb dX6_image_26 rfl (lv_at hl 0 rfl) ?_
      refine va_get (D := D) (ci := 4) (v := .ref (a 66)) (C := RX6) (T := TX6) (N := 12) hx hb hts (fun w h => List.mem_cons_of_mem _ (List.mem_append_left _ (List.mem_append_left _ (List.mem_append_right _ h)))) hown hK hP 0 rfl rfl 3 (by decide) (hts (.fieldLink RX6 23 "LeastNeed" "imageKept" "[Z") (List.mem_of_getElem? (i := 3) rfl)) (fun _ h9 => h9) rfl dX6_image_27 ?_
      refine lv_iload_n hx hb dX6_image_30 rfl (lv_at hl 1 rfl) ?_
      refine lv_iconst (v := (1 : Int32)) hx hb dX6_image_31 (by decide) ?_
      obtain ⟨hi32, hd⟩ := dn_i hd
      refine k_zast (D := D) (k := p1.toNatClampNeg) (by rfl) hx hb hK hP hD hS 66 3 rfl rfl hi32 dX6_image_32 (fun H locs hP hD hS => ?_)
      have hP : va_P D vwCl (wX6 cs a (k_w (k_sp S 33 16 S23) 66 p1.toNatClampNeg (vp_nar .boolean (1 : Int32))) L) _ := k_eq hP (wsX6_a66 cs a (k_sp S 33 16 S23) L p1.toNatClampNeg (vp_nar .boolean (1 : Int32)))
      have hD := hDA (k_w (k_sp S 33 16 S23) 66 p1.toNatClampNeg (vp_nar .boolean (1 : Int32))) L
      refine lv_iconst (v := (1 : Int32)) hx hb dX6_image_33 (by decide) ?_
      obtain ⟨e1, e2⟩ := dn_s2 hd
      exact k_iret hx hb hr hQ hAe e1 (by rw [e2]) hP hS hlocks dX6_image_34
    · have hd := dn_f e18_0 hd
      by_cases e18_1 : p1 = (1 : Int32)
      · have hd := dn_t e18_1 hd
        refine k_aldq (D := D) (z := a 49) (by rw [e18_1]; rfl) hx hb hK hP 65 4 rfl rfl (by rw [e18_1]; exact k_in (by decide)) dX6_image_18 ?_
        refine lv_aload_n hx hb dX6_image_19 rfl (lv_at hl 0 rfl) ?_
        refine va_get (D := D) (ci := 4) (v := .ref (a 1)) (C := RX6) (T := TX6) (N := 12) hx hb hts (fun w h => List.mem_cons_of_mem _ (List.mem_append_left _ (List.mem_append_left _ (List.mem_append_right _ h)))) hown hK hP 0 rfl rfl 0 (by decide) (hts (.fieldLink RX6 12 "LeastNeed" "now" "LLeastNeed$Valley;") (List.mem_of_getElem? (i := 2) rfl)) (fun _ h9 => h9) rfl dX6_image_20 ?_
        obtain ⟨S23, hq23, hd⟩ := dn_b1 hd
        have hPc : va_P D vwCl (wX5 cs (k_wi a 49) (k_wi S 49) ++ wX5 cs (k_wi a 1) (k_wi S 1)) _ := k_sub hP [49, 50, 51, 52, 53, 54, 55, 56, 57, 58, 59, 60, 61, 62, 63, 64, 1, 2, 3, 4, 5, 6, 7, 8, 9, 10, 11, 12, 13, 14, 15, 16] (wcX6_X5_X5_49_1 cs a S L)
        have hDc : va_D A (wX5 cs (k_wi a 49) (k_wi S 49) ++ wX5 cs (k_wi a 1) (k_wi S 1)) := hD.sub [49, 50, 51, 52, 53, 54, 55, 56, 57, 58, 59, 60, 61, 62, 63, 64, 1, 2, 3, 4, 5, 6, 7, 8, 9, 10, 11, 12, 13, 14, 15, 16] (by decide) (wcX6_X5_X5_49_1 cs a S L)
        have hF := k_self hDc hS hA
        refine k_run_v (va_runV (As := [.ref (a 1)]) (rest := []) ⟨hx, hb, hml, hown, hts⟩ (mX5_copyOf l D cs (k_wi a 49) (k_wi a 1) (k_wi S 49) (k_wi S 1) S23 hq23 _) (cwV 1 hts gX6_image_X5_copyOf rfl rfl rfl (by decide +kernel) ⟨Nat.le_of_ble_eq_true rfl, Nat.le_of_ble_eq_true rfl⟩) ⟨k_blind, va_recv hK hP (ci := 3) (q0 := 49) rfl rfl, k_pre hPc hK hNn hDc⟩ rfl rfl hl.1 rfl (lv_room (Nat.le_of_ble_eq_true rfl)) dX6_image_23 ⟨Nat.le_of_ble_eq_true rfl, Nat.le_of_ble_eq_true rfl⟩) hS hF (fun H locs hP1 hk hS => ?_)
        have hP : va_P D vwCl (wX6 cs a (k_sp S 49 16 S23) L) _ := k_back hP hD [49, 50, 51, 52, 53, 54, 55, 56, 57, 58, 59, 60, 61, 62, 63, 64, 1, 2, 3, 4, 5, 6, 7, 8, 9, 10, 11, 12, 13, 14, 15, 16] [0, 17, 18, 19, 20, 21, 22, 23, 24, 25, 26, 27, 28, 29, 30, 31, 32, 33, 34, 35, 36, 37, 38, 39, 40, 41, 42, 43, 44, 45, 46, 47, 48, 65, 66, 67, 68, 69, 70, 71, 72, 73, 74, 75, 76, 77, 78] [0, 63, 64, 65, 66, 67, 68, 69, 70, 71, 72, 73, 74, 75, 76, 77, 78, 1, 2, 3, 4, 5, 6, 7, 8, 9, 10, 11, 12, 13, 14, 15, 16, 17, 18, 19, 20, 21, 22, 23, 24, 25, 26, 27, 28, 29, 30, 31, 32, 47, 48, 49, 50, 51, 52, 53, 54, 55, 56, 57, 58, 59, 60, 61, 62, 33, 34, 35, 36, 37, 38, 39, 40, 41, 42, 43, 44, 45, 46] (wcX6_X5_X5_49_1 cs a S L) (by decide) hk hP1 (wbX6_X5_X5_49_1_S0 cs a S L S23)
        have hD := hDA (k_sp S 49 16 S23) L
        refine lv_aload_n hx hb dX6_image_26 rfl (lv_at hl 0 rfl) ?_
        refine va_get (D := D) (ci := 4) (v := .ref (a 66)) (C := RX6) (T := TX6) (N := 12) hx hb hts (fun w h => List.mem_cons_of_mem _ (List.mem_append_left _ (List.mem_append_left _ (List.mem_append_right _ h)))) hown hK hP 0 rfl rfl 3 (by decide) (hts (.fieldLink RX6 23 "LeastNeed" "imageKept" "[Z") (List.mem_of_getElem? (i := 3) rfl)) (fun _ h9 => h9) rfl dX6_image_27 ?_
        refine lv_iload_n hx hb dX6_image_30 rfl (lv_at hl 1 rfl) ?_
        refine lv_iconst (v := (1 : Int32)) hx hb dX6_image_31 (by decide) ?_
        obtain ⟨hi32, hd⟩ := dn_i hd
        refine k_zast (D := D) (k := p1.toNatClampNeg) (by rfl) hx hb hK hP hD hS 66 3 rfl rfl hi32 dX6_image_32 (fun H locs hP hD hS => ?_)
        have hP : va_P D vwCl (wX6 cs a (k_w (k_sp S 49 16 S23) 66 p1.toNatClampNeg (vp_nar .boolean (1 : Int32))) L) _ := k_eq hP (wsX6_a66 cs a (k_sp S 49 16 S23) L p1.toNatClampNeg (vp_nar .boolean (1 : Int32)))
        have hD := hDA (k_w (k_sp S 49 16 S23) 66 p1.toNatClampNeg (vp_nar .boolean (1 : Int32))) L
        refine lv_iconst (v := (1 : Int32)) hx hb dX6_image_33 (by decide) ?_
        obtain ⟨e1, e2⟩ := dn_s2 hd
        exact k_iret hx hb hr hQ hAe e1 (by rw [e2]) hP hS hlocks dX6_image_34
      · have hd := dn_f e18_1 hd
        cases hd
  · have hd := dn_t c5 hd
    refine lv_aload_n hx hb dX6_image_8 rfl (lv_at hl 0 rfl) ?_
    obtain ⟨r9, S9, hq9, hd⟩ := dn_b2 hd
    have hF := k_self hD hS hA
    refine k_run_i (va_runV (As := []) (rest := []) ⟨hx, hb, hml, hown, hts⟩ (mX6_refusedAsBad l D cs a S L r9 S9 hq9 _) (cwV 0 hts gX6_image_X6_refusedAsBad rfl rfl rfl (by decide +kernel) ⟨Nat.le_of_ble_eq_true rfl, Nat.le_of_ble_eq_true rfl⟩) ⟨k_blind, va_recv hK hP (ci := 4) (q0 := 0) rfl rfl, k_pre hP hK hNn hD⟩ rfl rfl hl.1 rfl (lv_room (Nat.le_of_ble_eq_true rfl)) dX6_image_9 ⟨Nat.le_of_ble_eq_true rfl, Nat.le_of_ble_eq_true rfl⟩) hS hF (fun H locs hP1 hk hS => ?_)
    have hP : va_P D vwCl (wX6 cs a S9 L) _ := hP1
    have hD := hDA S9 L
    obtain ⟨e1, e2⟩ := dn_s2 hd
    exact k_iret hx hb hr hQ hAe e1 (by rw [e2]) hP hS hlocks dX6_image_12
-- LeastNeed.from(I)I
set_option maxRecDepth 20000 in
def nX6_from (S : Nat → Nat → Int32) (L : Nat → Nat → Int64) (p1 : Int32) : Option (Int32 × (Nat → Nat → Int32)) := k_b1 (nX6_upTo p1 (2 : Int32)) (fun r2 => if r2 = 0 then k_b2 (nX6_refusedAsBad S L) (fun r9 S9 => some (r9, S9)) else if p1 < 0 ∨ 2 ≤ p1.toNatClampNeg then none else if (S 66 p1.toNatClampNeg) = 0 then k_b2 (nX6_refusedAsNo S L) (fun r23 S23 => some (r23, S23)) else if p1 = (0 : Int32) then k_b1 (nX5_copyOf (k_wi S 1) (k_wi S 33)) (fun S37 => some ((1 : Int32), (k_sp S 1 16 S37))) else if p1 = (1 : Int32) then k_b1 (nX5_copyOf (k_wi S 1) (k_wi S 49)) (fun S37 => some ((1 : Int32), (k_sp S 1 16 S37))) else none)
set_option maxHeartbeats 4000000 in
set_option maxRecDepth 100000 in
theorem mX6_from (l : Launch) (D : va_G) (cs : Nat → ClassId) (a : Nat → Nat) (S : Nat → Nat → Int32) (L : Nat → Nat → Int64) (p1 : Int32) (r9 : Int32) (S9 : (Nat → Nat → Int32)) (hd : nX6_from S L p1 = some (r9, S9)) : ∀ sz : Nat, Met l yX6_from wsX6_from ({ frames := 4, cells := 0, slots := 0, locals := 103 }) (k_Pc D cs [.ref (a 0), .int p1] (wX6 cs a S L) sz) (k_Qi D r9 (wX6 cs a S L) (wX6 cs a S9 L) sz) 0 0 (va_A (wX6 cs a S L) sz) := by
  intro sz
  refine Met.ofW (cc := cX6_from) (maxL := 2) (ret := (some .int)) (by decide) rfl ?_
  intro p e s m args below meth c s₁ B hml hv
  obtain ⟨rfl, hsz, hP, hK, hD0, hNn⟩ := hv
  have hx := B.exec
  have hb := B.bytes
  have hr := B.returns
  have hts := atoms_spec (ws := wsX6_from) B.pre
  have hown : s.vm.findClass RX6 = some m.cls := findClass_of_methodNamed B.named
  have hlocks := B.notSynchronized
  subst hsz
  obtain ⟨A, hAe⟩ : ∃ A : Nat → Prop, A = va_A (wX6 cs a S L) s.heap.size := ⟨_, rfl⟩
  have hD : va_D A (wX6 cs a S L) := by rw [hAe]; exact hD0.self
  have hA : ∀ q : Nat, s.heap.size ≤ q → A q := fun q h => by rw [hAe]; exact Or.inr h
  have hS : va_S A s.heap s.heap [] := va_S.rf
  have hDA : ∀ (S : Nat → Nat → Int32) (L : Nat → Nat → Int64), va_D A (wX6 cs a S L) := fun S L => k_DA hD rfl
  have hl := lv_entry ([.ref (a 0), .int p1]) (n := 2) (Nat.le_of_ble_eq_true rfl)
  rw [lg_entry_eq]
  generalize (lg_sl ([.ref (a 0), .int p1]) ++ List.replicate (2 - (lg_sl ([.ref (a 0), .int p1])).length) Slot.unset).toArray = ls at hl ⊢
  have hl : lv_has ls 2 [(0, .ref (a 0)), (1, .int p1)] := hl
  obtain ⟨Q, hQ⟩ : ∃ Q, Q = MQ below (k_Qi D r9 (wX6 cs a S L) (wX6 cs a S9 L) s.heap.size) ([.ref (a 0), .int p1] : List Value).toArray s 0 0 (va_A (wX6 cs a S L) s.heap.size) := ⟨_, rfl⟩
  rw [← hQ]
  unfold nX6_from at hd
  refine lv_iload_n hx hb dX6_from_0 rfl (lv_at hl 1 rfl) ?_
  refine lv_iconst (v := (2 : Int32)) hx hb dX6_from_1 (by decide) ?_
  obtain ⟨r2, hq2, hd⟩ := dn_b1 hd
  have hPc := k_P0 hP
  have hDc : va_D A ([] : va_W) := k_D0
  have hF := k_self hDc hS hA
  refine k_run_i (va_runS (As := [.int p1, .int (2 : Int32)]) (rest := []) ⟨hx, hb, hml, hown, hts⟩ (mX6_upTo l D cs  p1 (2 : Int32) r2 hq2 _) (va_cwS 2 hts gX6_from_X6_upTo rfl rfl rfl (by decide +kernel) ⟨Nat.le_of_ble_eq_true rfl, Nat.le_of_ble_eq_true rfl⟩) ⟨k_blind, k_pre hPc hK hNn hDc⟩ rfl rfl hl.1 rfl (lv_room (Nat.le_of_ble_eq_true rfl)) dX6_from_2 ⟨Nat.le_of_ble_eq_true rfl, Nat.le_of_ble_eq_true rfl⟩) hS hF (fun H locs hP1 hk hS => ?_)
  have hP : va_P D vwCl (wX6 cs a S L) _ := k_keep hP hk
  refine lv_if_ne (tgt := 13) hx hb dX6_from_5 (by decide) (fun c5 => ?_) (fun c5 => ?_)
  · have hd := dn_f c5 hd
    refine lv_aload_n hx hb dX6_from_13 rfl (lv_at hl 0 rfl) ?_
    refine va_get (D := D) (ci := 4) (v := .ref (a 66)) (C := RX6) (T := TX6) (N := 12) hx hb hts (fun w h => List.mem_cons_of_mem _ (List.mem_append_left _ (List.mem_append_left _ (List.mem_append_right _ h)))) hown hK hP 0 rfl rfl 3 (by decide) (hts (.fieldLink RX6 23 "LeastNeed" "imageKept" "[Z") (List.mem_of_getElem? (i := 1) rfl)) (fun _ h9 => h9) rfl dX6_from_14 ?_
    refine lv_iload_n hx hb dX6_from_17 rfl (lv_at hl 1 rfl) ?_
    obtain ⟨hi18, hd⟩ := dn_i hd
    refine k_zald (D := D) (k := p1.toNatClampNeg) (by rfl) hx hb hK hP 66 3 rfl rfl hi18 dX6_from_18 ?_
    refine lv_if_ne (tgt := 27) hx hb dX6_from_19 (by decide) (fun c19 => ?_) (fun c19 => ?_)
    · have hd := dn_f c19 hd
      refine lv_aload_n hx hb dX6_from_27 rfl (lv_at hl 0 rfl) ?_
      refine va_get (D := D) (ci := 4) (v := .ref (a 1)) (C := RX6) (T := TX6) (N := 12) hx hb hts (fun w h => List.mem_cons_of_mem _ (List.mem_append_left _ (List.mem_append_left _ (List.mem_append_right _ h)))) hown hK hP 0 rfl rfl 0 (by decide) (hts (.fieldLink RX6 12 "LeastNeed" "now" "LLeastNeed$Valley;") (List.mem_of_getElem? (i := 2) rfl)) (fun _ h9 => h9) rfl dX6_from_28 ?_
      refine lv_aload_n hx hb dX6_from_31 rfl (lv_at hl 0 rfl) ?_
      refine va_get (D := D) (ci := 4) (v := .ref (a 65)) (C := RX6) (T := TX6) (N := 12) hx hb hts (fun w h => List.mem_cons_of_mem _ (List.mem_append_left _ (List.mem_append_left _ (List.mem_append_right _ h)))) hown hK hP 0 rfl rfl 2 (by decide) (hts (.fieldLink RX6 19 "LeastNeed" "images" "[LLeastNeed$Valley;") (List.mem_of_getElem? (i := 3) rfl)) (fun _ h9 => h9) rfl dX6_from_32 ?_
      refine lv_iload_n hx hb dX6_from_35 rfl (lv_at hl 1 rfl) ?_
      by_cases e36_0 : p1 = (0 : Int32)
      · have hd := dn_t e36_0 hd
        refine k_aldq (D := D) (z := a 33) (by rw [e36_0]; rfl) hx hb hK hP 65 4 rfl rfl (by rw [e36_0]; exact k_in (by decide)) dX6_from_36 ?_
        obtain ⟨S37, hq37, hd⟩ := dn_b1 hd
        have hPc : va_P D vwCl (wX5 cs (k_wi a 1) (k_wi S 1) ++ wX5 cs (k_wi a 33) (k_wi S 33)) _ := k_sub hP [1, 2, 3, 4, 5, 6, 7, 8, 9, 10, 11, 12, 13, 14, 15, 16, 33, 34, 35, 36, 37, 38, 39, 40, 41, 42, 43, 44, 45, 46, 47, 48] (wcX6_X5_X5_1_33 cs a S L)
        have hDc : va_D A (wX5 cs (k_wi a 1) (k_wi S 1) ++ wX5 cs (k_wi a 33) (k_wi S 33)) := hD.sub [1, 2, 3, 4, 5, 6, 7, 8, 9, 10, 11, 12, 13, 14, 15, 16, 33, 34, 35, 36, 37, 38, 39, 40, 41, 42, 43, 44, 45, 46, 47, 48] (by decide) (wcX6_X5_X5_1_33 cs a S L)
        have hF := k_self hDc hS hA
        refine k_run_v (va_runV (As := [.ref (a 33)]) (rest := []) ⟨hx, hb, hml, hown, hts⟩ (mX5_copyOf l D cs (k_wi a 1) (k_wi a 33) (k_wi S 1) (k_wi S 33) S37 hq37 _) (cwV 1 hts gX6_from_X5_copyOf rfl rfl rfl (by decide +kernel) ⟨Nat.le_of_ble_eq_true rfl, Nat.le_of_ble_eq_true rfl⟩) ⟨k_blind, va_recv hK hP (ci := 3) (q0 := 1) rfl rfl, k_pre hPc hK hNn hDc⟩ rfl rfl hl.1 rfl (lv_room (Nat.le_of_ble_eq_true rfl)) dX6_from_37 ⟨Nat.le_of_ble_eq_true rfl, Nat.le_of_ble_eq_true rfl⟩) hS hF (fun H locs hP1 hk hS => ?_)
        have hP : va_P D vwCl (wX6 cs a (k_sp S 1 16 S37) L) _ := k_back hP hD [1, 2, 3, 4, 5, 6, 7, 8, 9, 10, 11, 12, 13, 14, 15, 16, 33, 34, 35, 36, 37, 38, 39, 40, 41, 42, 43, 44, 45, 46, 47, 48] [0, 17, 18, 19, 20, 21, 22, 23, 24, 25, 26, 27, 28, 29, 30, 31, 32, 49, 50, 51, 52, 53, 54, 55, 56, 57, 58, 59, 60, 61, 62, 63, 64, 65, 66, 67, 68, 69, 70, 71, 72, 73, 74, 75, 76, 77, 78] [0, 47, 48, 49, 50, 51, 52, 53, 54, 55, 56, 57, 58, 59, 60, 61, 62, 1, 2, 3, 4, 5, 6, 7, 8, 9, 10, 11, 12, 13, 14, 15, 16, 63, 64, 65, 66, 67, 68, 69, 70, 71, 72, 73, 74, 75, 76, 77, 78, 17, 18, 19, 20, 21, 22, 23, 24, 25, 26, 27, 28, 29, 30, 31, 32, 33, 34, 35, 36, 37, 38, 39, 40, 41, 42, 43, 44, 45, 46] (wcX6_X5_X5_1_33 cs a S L) (by decide) hk hP1 (wbX6_X5_X5_1_33_S0 cs a S L S37)
        have hD := hDA (k_sp S 1 16 S37) L
        refine lv_iconst (v := (1 : Int32)) hx hb dX6_from_40 (by decide) ?_
        obtain ⟨e1, e2⟩ := dn_s2 hd
        exact k_iret hx hb hr hQ hAe e1 (by rw [e2]) hP hS hlocks dX6_from_41
      · have hd := dn_f e36_0 hd
        by_cases e36_1 : p1 = (1 : Int32)
        · have hd := dn_t e36_1 hd
          refine k_aldq (D := D) (z := a 49) (by rw [e36_1]; rfl) hx hb hK hP 65 4 rfl rfl (by rw [e36_1]; exact k_in (by decide)) dX6_from_36 ?_
          obtain ⟨S37, hq37, hd⟩ := dn_b1 hd
          have hPc : va_P D vwCl (wX5 cs (k_wi a 1) (k_wi S 1) ++ wX5 cs (k_wi a 49) (k_wi S 49)) _ := k_sub hP [1, 2, 3, 4, 5, 6, 7, 8, 9, 10, 11, 12, 13, 14, 15, 16, 49, 50, 51, 52, 53, 54, 55, 56, 57, 58, 59, 60, 61, 62, 63, 64] (wcX6_X5_X5_1_49 cs a S L)
          have hDc : va_D A (wX5 cs (k_wi a 1) (k_wi S 1) ++ wX5 cs (k_wi a 49) (k_wi S 49)) := hD.sub [1, 2, 3, 4, 5, 6, 7, 8, 9, 10, 11, 12, 13, 14, 15, 16, 49, 50, 51, 52, 53, 54, 55, 56, 57, 58, 59, 60, 61, 62, 63, 64] (by decide) (wcX6_X5_X5_1_49 cs a S L)
          have hF := k_self hDc hS hA
          refine k_run_v (va_runV (As := [.ref (a 49)]) (rest := []) ⟨hx, hb, hml, hown, hts⟩ (mX5_copyOf l D cs (k_wi a 1) (k_wi a 49) (k_wi S 1) (k_wi S 49) S37 hq37 _) (cwV 1 hts gX6_from_X5_copyOf rfl rfl rfl (by decide +kernel) ⟨Nat.le_of_ble_eq_true rfl, Nat.le_of_ble_eq_true rfl⟩) ⟨k_blind, va_recv hK hP (ci := 3) (q0 := 1) rfl rfl, k_pre hPc hK hNn hDc⟩ rfl rfl hl.1 rfl (lv_room (Nat.le_of_ble_eq_true rfl)) dX6_from_37 ⟨Nat.le_of_ble_eq_true rfl, Nat.le_of_ble_eq_true rfl⟩) hS hF (fun H locs hP1 hk hS => ?_)
          have hP : va_P D vwCl (wX6 cs a (k_sp S 1 16 S37) L) _ := k_back hP hD [1, 2, 3, 4, 5, 6, 7, 8, 9, 10, 11, 12, 13, 14, 15, 16, 49, 50, 51, 52, 53, 54, 55, 56, 57, 58, 59, 60, 61, 62, 63, 64] [0, 17, 18, 19, 20, 21, 22, 23, 24, 25, 26, 27, 28, 29, 30, 31, 32, 33, 34, 35, 36, 37, 38, 39, 40, 41, 42, 43, 44, 45, 46, 47, 48, 65, 66, 67, 68, 69, 70, 71, 72, 73, 74, 75, 76, 77, 78] [0, 47, 48, 49, 50, 51, 52, 53, 54, 55, 56, 57, 58, 59, 60, 61, 62, 1, 2, 3, 4, 5, 6, 7, 8, 9, 10, 11, 12, 13, 14, 15, 16, 17, 18, 19, 20, 21, 22, 23, 24, 25, 26, 27, 28, 29, 30, 31, 32, 63, 64, 65, 66, 67, 68, 69, 70, 71, 72, 73, 74, 75, 76, 77, 78, 33, 34, 35, 36, 37, 38, 39, 40, 41, 42, 43, 44, 45, 46] (wcX6_X5_X5_1_49 cs a S L) (by decide) hk hP1 (wbX6_X5_X5_1_49_S0 cs a S L S37)
          have hD := hDA (k_sp S 1 16 S37) L
          refine lv_iconst (v := (1 : Int32)) hx hb dX6_from_40 (by decide) ?_
          obtain ⟨e1, e2⟩ := dn_s2 hd
          exact k_iret hx hb hr hQ hAe e1 (by rw [e2]) hP hS hlocks dX6_from_41
        · have hd := dn_f e36_1 hd
          cases hd
    · have hd := dn_t c19 hd
      refine lv_aload_n hx hb dX6_from_22 rfl (lv_at hl 0 rfl) ?_
      obtain ⟨r23, S23, hq23, hd⟩ := dn_b2 hd
      have hF := k_self hD hS hA
      refine k_run_i (va_runV (As := []) (rest := []) ⟨hx, hb, hml, hown, hts⟩ (mX6_refusedAsNo l D cs a S L r23 S23 hq23 _) (cwV 0 hts gX6_from_X6_refusedAsNo rfl rfl rfl (by decide +kernel) ⟨Nat.le_of_ble_eq_true rfl, Nat.le_of_ble_eq_true rfl⟩) ⟨k_blind, va_recv hK hP (ci := 4) (q0 := 0) rfl rfl, k_pre hP hK hNn hD⟩ rfl rfl hl.1 rfl (lv_room (Nat.le_of_ble_eq_true rfl)) dX6_from_23 ⟨Nat.le_of_ble_eq_true rfl, Nat.le_of_ble_eq_true rfl⟩) hS hF (fun H locs hP1 hk hS => ?_)
      have hP : va_P D vwCl (wX6 cs a S23 L) _ := hP1
      have hD := hDA S23 L
      obtain ⟨e1, e2⟩ := dn_s2 hd
      exact k_iret hx hb hr hQ hAe e1 (by rw [e2]) hP hS hlocks dX6_from_26
  · have hd := dn_t c5 hd
    refine lv_aload_n hx hb dX6_from_8 rfl (lv_at hl 0 rfl) ?_
    obtain ⟨r9, S9, hq9, hd⟩ := dn_b2 hd
    have hF := k_self hD hS hA
    refine k_run_i (va_runV (As := []) (rest := []) ⟨hx, hb, hml, hown, hts⟩ (mX6_refusedAsBad l D cs a S L r9 S9 hq9 _) (cwV 0 hts gX6_from_X6_refusedAsBad rfl rfl rfl (by decide +kernel) ⟨Nat.le_of_ble_eq_true rfl, Nat.le_of_ble_eq_true rfl⟩) ⟨k_blind, va_recv hK hP (ci := 4) (q0 := 0) rfl rfl, k_pre hP hK hNn hD⟩ rfl rfl hl.1 rfl (lv_room (Nat.le_of_ble_eq_true rfl)) dX6_from_9 ⟨Nat.le_of_ble_eq_true rfl, Nat.le_of_ble_eq_true rfl⟩) hS hF (fun H locs hP1 hk hS => ?_)
    have hP : va_P D vwCl (wX6 cs a S9 L) _ := hP1
    have hD := hDA S9 L
    obtain ⟨e1, e2⟩ := dn_s2 hd
    exact k_iret hx hb hr hQ hAe e1 (by rw [e2]) hP hS hlocks dX6_from_12
-- LeastNeed.status(I)I
set_option maxRecDepth 20000 in
def nX6_status (S : Nat → Nat → Int32) (L : Nat → Nat → Int64) (p1 : Int32) : Option (Int32 × (Nat → Nat → Int32)) := k_b1 (nX6_upTo p1 (3 : Int32)) (fun r2 => if r2 = 0 then k_b2 (nX6_refusedAsBad S L) (fun r9 S9 => some ((-1 : Int32), S9)) else if p1 < 0 ∨ 3 ≤ p1.toNatClampNeg then none else some ((S 75 p1.toNatClampNeg), S))
set_option maxHeartbeats 4000000 in
set_option maxRecDepth 100000 in
theorem mX6_status (l : Launch) (D : va_G) (cs : Nat → ClassId) (a : Nat → Nat) (S : Nat → Nat → Int32) (L : Nat → Nat → Int64) (p1 : Int32) (r9 : Int32) (S9 : (Nat → Nat → Int32)) (hd : nX6_status S L p1 = some (r9, S9)) : ∀ sz : Nat, Met l yX6_status wsX6_status ({ frames := 1, cells := 0, slots := 0, locals := 21 }) (k_Pc D cs [.ref (a 0), .int p1] (wX6 cs a S L) sz) (k_Qi D r9 (wX6 cs a S L) (wX6 cs a S9 L) sz) 0 0 (va_A (wX6 cs a S L) sz) := by
  intro sz
  refine Met.ofW (cc := cX6_status) (maxL := 2) (ret := (some .int)) (by decide) rfl ?_
  intro p e s m args below meth c s₁ B hml hv
  obtain ⟨rfl, hsz, hP, hK, hD0, hNn⟩ := hv
  have hx := B.exec
  have hb := B.bytes
  have hr := B.returns
  have hts := atoms_spec (ws := wsX6_status) B.pre
  have hown : s.vm.findClass RX6 = some m.cls := findClass_of_methodNamed B.named
  have hlocks := B.notSynchronized
  subst hsz
  obtain ⟨A, hAe⟩ : ∃ A : Nat → Prop, A = va_A (wX6 cs a S L) s.heap.size := ⟨_, rfl⟩
  have hD : va_D A (wX6 cs a S L) := by rw [hAe]; exact hD0.self
  have hA : ∀ q : Nat, s.heap.size ≤ q → A q := fun q h => by rw [hAe]; exact Or.inr h
  have hS : va_S A s.heap s.heap [] := va_S.rf
  have hDA : ∀ (S : Nat → Nat → Int32) (L : Nat → Nat → Int64), va_D A (wX6 cs a S L) := fun S L => k_DA hD rfl
  have hl := lv_entry ([.ref (a 0), .int p1]) (n := 2) (Nat.le_of_ble_eq_true rfl)
  rw [lg_entry_eq]
  generalize (lg_sl ([.ref (a 0), .int p1]) ++ List.replicate (2 - (lg_sl ([.ref (a 0), .int p1])).length) Slot.unset).toArray = ls at hl ⊢
  have hl : lv_has ls 2 [(0, .ref (a 0)), (1, .int p1)] := hl
  obtain ⟨Q, hQ⟩ : ∃ Q, Q = MQ below (k_Qi D r9 (wX6 cs a S L) (wX6 cs a S9 L) s.heap.size) ([.ref (a 0), .int p1] : List Value).toArray s 0 0 (va_A (wX6 cs a S L) s.heap.size) := ⟨_, rfl⟩
  rw [← hQ]
  unfold nX6_status at hd
  refine lv_iload_n hx hb dX6_status_0 rfl (lv_at hl 1 rfl) ?_
  refine lv_iconst (v := (3 : Int32)) hx hb dX6_status_1 (by decide) ?_
  obtain ⟨r2, hq2, hd⟩ := dn_b1 hd
  have hPc := k_P0 hP
  have hDc : va_D A ([] : va_W) := k_D0
  have hF := k_self hDc hS hA
  refine k_run_i (va_runS (As := [.int p1, .int (3 : Int32)]) (rest := []) ⟨hx, hb, hml, hown, hts⟩ (mX6_upTo l D cs  p1 (3 : Int32) r2 hq2 _) (va_cwS 2 hts gX6_status_X6_upTo rfl rfl rfl (by decide +kernel) ⟨Nat.le_of_ble_eq_true rfl, Nat.le_of_ble_eq_true rfl⟩) ⟨k_blind, k_pre hPc hK hNn hDc⟩ rfl rfl hl.1 rfl (lv_room (Nat.le_of_ble_eq_true rfl)) dX6_status_2 ⟨Nat.le_of_ble_eq_true rfl, Nat.le_of_ble_eq_true rfl⟩) hS hF (fun H locs hP1 hk hS => ?_)
  have hP : va_P D vwCl (wX6 cs a S L) _ := k_keep hP hk
  refine lv_if_ne (tgt := 15) hx hb dX6_status_5 (by decide) (fun c5 => ?_) (fun c5 => ?_)
  · have hd := dn_f c5 hd
    refine lv_aload_n hx hb dX6_status_15 rfl (lv_at hl 0 rfl) ?_
    refine va_get (D := D) (ci := 4) (v := .ref (a 75)) (C := RX6) (T := TX6) (N := 12) hx hb hts (fun w h => List.mem_cons_of_mem _ (List.mem_append_right _ h)) hown hK hP 0 rfl rfl 6 (by decide) (hts (.fieldLink RX6 41 "LeastNeed" "refused" "[I") (List.mem_of_getElem? (i := 1) rfl)) (fun _ h9 => h9) rfl dX6_status_16 ?_
    refine lv_iload_n hx hb dX6_status_19 rfl (lv_at hl 1 rfl) ?_
    obtain ⟨hi20, hd⟩ := dn_i hd
    refine k_iald (D := D) (k := p1.toNatClampNeg) (by rfl) hx hb hK hP 75 1 rfl rfl hi20 dX6_status_20 ?_
    obtain ⟨e1, e2⟩ := dn_s2 hd
    exact k_iret hx hb hr hQ hAe e1 (by rw [e2]) hP hS hlocks dX6_status_21
  · have hd := dn_t c5 hd
    refine lv_aload_n hx hb dX6_status_8 rfl (lv_at hl 0 rfl) ?_
    obtain ⟨r9, S9, hq9, hd⟩ := dn_b2 hd
    have hF := k_self hD hS hA
    refine k_run_i (va_runV (As := []) (rest := []) ⟨hx, hb, hml, hown, hts⟩ (mX6_refusedAsBad l D cs a S L r9 S9 hq9 _) (cwV 0 hts gX6_status_X6_refusedAsBad rfl rfl rfl (by decide +kernel) ⟨Nat.le_of_ble_eq_true rfl, Nat.le_of_ble_eq_true rfl⟩) ⟨k_blind, va_recv hK hP (ci := 4) (q0 := 0) rfl rfl, k_pre hP hK hNn hD⟩ rfl rfl hl.1 rfl (lv_room (Nat.le_of_ble_eq_true rfl)) dX6_status_9 ⟨Nat.le_of_ble_eq_true rfl, Nat.le_of_ble_eq_true rfl⟩) hS hF (fun H locs hP1 hk hS => ?_)
    have hP : va_P D vwCl (wX6 cs a S9 L) _ := hP1
    have hD := hDA S9 L
    refine lv_pop hx hb dX6_status_12 rfl ?_
    refine lv_iconst (v := (-1 : Int32)) hx hb dX6_status_13 (by decide) ?_
    obtain ⟨e1, e2⟩ := dn_s2 hd
    exact k_iret hx hb hr hQ hAe e1 (by rw [e2]) hP hS hlocks dX6_status_14
-- LeastNeed.howMany(I)I
set_option maxRecDepth 20000 in
def nX6_howMany (S : Nat → Nat → Int32) (L : Nat → Nat → Int64) (p1 : Int32) : Option (Int32) := if p1 = (0 : Int32) then some (S 1 12) else if p1 = (1 : Int32) then some (S 1 13) else if p1 = (2 : Int32) then some (S 1 14) else if p1 = (3 : Int32) then k_b1 (nX5_howManyLie (k_wi S 1) (1 : Int32)) (fun r77 => k_b1 (nX5_howManyLie (k_wi S 1) (2 : Int32)) (fun r85 => some (r77 + r85))) else if p1 = (4 : Int32) then k_b1 (nX5_howManyAtHome (k_wi S 1)) (fun r94 => some r94) else if p1 = (5 : Int32) then some (S 11 3) else if p1 = (6 : Int32) then some (S 13 3) else if p1 = (7 : Int32) then some (S 15 3) else some (S 67 2)
set_option maxHeartbeats 4000000 in
set_option maxRecDepth 100000 in
theorem mX6_howMany (l : Launch) (D : va_G) (cs : Nat → ClassId) (a : Nat → Nat) (S : Nat → Nat → Int32) (L : Nat → Nat → Int64) (p1 : Int32) (r9 : Int32) (hd : nX6_howMany S L p1 = some r9) : ∀ sz : Nat, Met l yX6_howMany wsX6_howMany ({ frames := 1, cells := 0, slots := 0, locals := 23 }) (k_Pc D cs [.ref (a 0), .int p1] (wX6 cs a S L) sz) (k_Qi D r9 (wX6 cs a S L) (wX6 cs a S L) sz) 0 0 (va_A (wX6 cs a S L) sz) := by
  intro sz
  refine Met.ofW (cc := cX6_howMany) (maxL := 2) (ret := (some .int)) (by decide) rfl ?_
  intro p e s m args below meth c s₁ B hml hv
  obtain ⟨rfl, hsz, hP, hK, hD0, hNn⟩ := hv
  have hx := B.exec
  have hb := B.bytes
  have hr := B.returns
  have hts := atoms_spec (ws := wsX6_howMany) B.pre
  have hown : s.vm.findClass RX6 = some m.cls := findClass_of_methodNamed B.named
  have hlocks := B.notSynchronized
  subst hsz
  obtain ⟨A, hAe⟩ : ∃ A : Nat → Prop, A = va_A (wX6 cs a S L) s.heap.size := ⟨_, rfl⟩
  have hD : va_D A (wX6 cs a S L) := by rw [hAe]; exact hD0.self
  have hA : ∀ q : Nat, s.heap.size ≤ q → A q := fun q h => by rw [hAe]; exact Or.inr h
  have hS : va_S A s.heap s.heap [] := va_S.rf
  have hDA : ∀ (S : Nat → Nat → Int32) (L : Nat → Nat → Int64), va_D A (wX6 cs a S L) := fun S L => k_DA hD rfl
  have hl := lv_entry ([.ref (a 0), .int p1]) (n := 2) (Nat.le_of_ble_eq_true rfl)
  rw [lg_entry_eq]
  generalize (lg_sl ([.ref (a 0), .int p1]) ++ List.replicate (2 - (lg_sl ([.ref (a 0), .int p1])).length) Slot.unset).toArray = ls at hl ⊢
  have hl : lv_has ls 2 [(0, .ref (a 0)), (1, .int p1)] := hl
  obtain ⟨Q, hQ⟩ : ∃ Q, Q = MQ below (k_Qi D r9 (wX6 cs a S L) (wX6 cs a S L) s.heap.size) ([.ref (a 0), .int p1] : List Value).toArray s 0 0 (va_A (wX6 cs a S L) s.heap.size) := ⟨_, rfl⟩
  rw [← hQ]
  unfold nX6_howMany at hd
  refine lv_iload_n hx hb dX6_howMany_0 rfl (lv_at hl 1 rfl) ?_
  by_cases e1_0 : p1 = (0 : Int32)
  · have hd := dn_t e1_0 hd
    refine lv_tableIn (off := 47) (tgt := 48) hx hb dX6_howMany_1 (by rw [e1_0]; decide) (by rw [e1_0]; decide) (by rw [e1_0]; rfl) (by decide) ?_
    refine lv_aload_n hx hb dX6_howMany_48 rfl (lv_at hl 0 rfl) ?_
    refine va_get (D := D) (ci := 4) (v := .ref (a 1)) (C := RX6) (T := TX6) (N := 12) hx hb hts (fun w h => List.mem_cons_of_mem _ (List.mem_append_left _ (List.mem_append_left _ (List.mem_append_left _ (List.mem_append_right _ h))))) hown hK hP 0 rfl rfl 0 (by decide) (hts (.fieldLink RX6 12 "LeastNeed" "now" "LLeastNeed$Valley;") (List.mem_of_getElem? (i := 1) rfl)) (fun _ h9 => h9) rfl dX6_howMany_49 ?_
    refine va_get (D := D) (ci := 3) (v := .int (S 1 12)) (C := RX5) (T := TX5) (N := 15) hx hb hts (fun w h => List.mem_cons_of_mem _ (List.mem_append_left _ (List.mem_append_left _ (List.mem_append_right _ h)))) hown hK hP 1 rfl rfl 12 (by decide) (hts (.fieldLink RX6 61 "LeastNeed$Valley" "people" "I") (List.mem_of_getElem? (i := 2) rfl)) (fun _ h9 => h9) rfl dX6_howMany_52 ?_
    have e1 := dn_s1 hd
    exact k_iret hx hb hr hQ hAe e1 rfl hP hS hlocks dX6_howMany_55
  · have hd := dn_f e1_0 hd
    by_cases e1_1 : p1 = (1 : Int32)
    · have hd := dn_t e1_1 hd
      refine lv_tableIn (off := 55) (tgt := 56) hx hb dX6_howMany_1 (by rw [e1_1]; decide) (by rw [e1_1]; decide) (by rw [e1_1]; rfl) (by decide) ?_
      refine lv_aload_n hx hb dX6_howMany_56 rfl (lv_at hl 0 rfl) ?_
      refine va_get (D := D) (ci := 4) (v := .ref (a 1)) (C := RX6) (T := TX6) (N := 12) hx hb hts (fun w h => List.mem_cons_of_mem _ (List.mem_append_left _ (List.mem_append_left _ (List.mem_append_left _ (List.mem_append_right _ h))))) hown hK hP 0 rfl rfl 0 (by decide) (hts (.fieldLink RX6 12 "LeastNeed" "now" "LLeastNeed$Valley;") (List.mem_of_getElem? (i := 1) rfl)) (fun _ h9 => h9) rfl dX6_howMany_57 ?_
      refine va_get (D := D) (ci := 3) (v := .int (S 1 13)) (C := RX5) (T := TX5) (N := 15) hx hb hts (fun w h => List.mem_cons_of_mem _ (List.mem_append_left _ (List.mem_append_left _ (List.mem_append_right _ h)))) hown hK hP 1 rfl rfl 13 (by decide) (hts (.fieldLink RX6 87 "LeastNeed$Valley" "things" "I") (List.mem_of_getElem? (i := 3) rfl)) (fun _ h9 => h9) rfl dX6_howMany_60 ?_
      have e1 := dn_s1 hd
      exact k_iret hx hb hr hQ hAe e1 rfl hP hS hlocks dX6_howMany_63
    · have hd := dn_f e1_1 hd
      by_cases e1_2 : p1 = (2 : Int32)
      · have hd := dn_t e1_2 hd
        refine lv_tableIn (off := 63) (tgt := 64) hx hb dX6_howMany_1 (by rw [e1_2]; decide) (by rw [e1_2]; decide) (by rw [e1_2]; rfl) (by decide) ?_
        refine lv_aload_n hx hb dX6_howMany_64 rfl (lv_at hl 0 rfl) ?_
        refine va_get (D := D) (ci := 4) (v := .ref (a 1)) (C := RX6) (T := TX6) (N := 12) hx hb hts (fun w h => List.mem_cons_of_mem _ (List.mem_append_left _ (List.mem_append_left _ (List.mem_append_left _ (List.mem_append_right _ h))))) hown hK hP 0 rfl rfl 0 (by decide) (hts (.fieldLink RX6 12 "LeastNeed" "now" "LLeastNeed$Valley;") (List.mem_of_getElem? (i := 1) rfl)) (fun _ h9 => h9) rfl dX6_howMany_65 ?_
        refine va_get (D := D) (ci := 3) (v := .int (S 1 14)) (C := RX5) (T := TX5) (N := 15) hx hb hts (fun w h => List.mem_cons_of_mem _ (List.mem_append_left _ (List.mem_append_left _ (List.mem_append_right _ h)))) hown hK hP 1 rfl rfl 14 (by decide) (hts (.fieldLink RX6 137 "LeastNeed$Valley" "today" "I") (List.mem_of_getElem? (i := 4) rfl)) (fun _ h9 => h9) rfl dX6_howMany_68 ?_
        have e1 := dn_s1 hd
        exact k_iret hx hb hr hQ hAe e1 rfl hP hS hlocks dX6_howMany_71
      · have hd := dn_f e1_2 hd
        by_cases e1_3 : p1 = (3 : Int32)
        · have hd := dn_t e1_3 hd
          refine lv_tableIn (off := 71) (tgt := 72) hx hb dX6_howMany_1 (by rw [e1_3]; decide) (by rw [e1_3]; decide) (by rw [e1_3]; rfl) (by decide) ?_
          refine lv_aload_n hx hb dX6_howMany_72 rfl (lv_at hl 0 rfl) ?_
          refine va_get (D := D) (ci := 4) (v := .ref (a 1)) (C := RX6) (T := TX6) (N := 12) hx hb hts (fun w h => List.mem_cons_of_mem _ (List.mem_append_left _ (List.mem_append_left _ (List.mem_append_left _ (List.mem_append_right _ h))))) hown hK hP 0 rfl rfl 0 (by decide) (hts (.fieldLink RX6 12 "LeastNeed" "now" "LLeastNeed$Valley;") (List.mem_of_getElem? (i := 1) rfl)) (fun _ h9 => h9) rfl dX6_howMany_73 ?_
          refine lv_iconst (v := (1 : Int32)) hx hb dX6_howMany_76 (by decide) ?_
          obtain ⟨r77, hq77, hd⟩ := dn_b1 hd
          have hPc : va_P D vwCl (wX5 cs (k_wi a 1) (k_wi S 1)) _ := k_sub hP [1, 2, 3, 4, 5, 6, 7, 8, 9, 10, 11, 12, 13, 14, 15, 16] (wcX6_X5_1 cs a S L)
          have hDc : va_D A (wX5 cs (k_wi a 1) (k_wi S 1)) := hD.sub [1, 2, 3, 4, 5, 6, 7, 8, 9, 10, 11, 12, 13, 14, 15, 16] (by decide) (wcX6_X5_1 cs a S L)
          have hF := k_self hDc hS hA
          refine k_run_i (va_runV (As := [.int (1 : Int32)]) (rest := []) ⟨hx, hb, hml, hown, hts⟩ (mX5_howManyLie l D cs (k_wi a 1) (k_wi S 1) (1 : Int32) r77 hq77 _) (cwV 1 hts gX6_howMany_X5_howManyLie rfl rfl rfl (by decide +kernel) ⟨Nat.le_of_ble_eq_true rfl, Nat.le_of_ble_eq_true rfl⟩) ⟨k_blind, va_recv hK hP (ci := 3) (q0 := 1) rfl rfl, k_pre hPc hK hNn hDc⟩ rfl rfl hl.1 rfl (lv_room (Nat.le_of_ble_eq_true rfl)) dX6_howMany_77 ⟨Nat.le_of_ble_eq_true rfl, Nat.le_of_ble_eq_true rfl⟩) hS hF (fun H locs hP1 hk hS => ?_)
          have hP : va_P D vwCl (wX6 cs a S L) _ := k_back hP hD [1, 2, 3, 4, 5, 6, 7, 8, 9, 10, 11, 12, 13, 14, 15, 16] [0, 17, 18, 19, 20, 21, 22, 23, 24, 25, 26, 27, 28, 29, 30, 31, 32, 33, 34, 35, 36, 37, 38, 39, 40, 41, 42, 43, 44, 45, 46, 47, 48, 49, 50, 51, 52, 53, 54, 55, 56, 57, 58, 59, 60, 61, 62, 63, 64, 65, 66, 67, 68, 69, 70, 71, 72, 73, 74, 75, 76, 77, 78] [0, 63, 64, 65, 66, 67, 68, 69, 70, 71, 72, 73, 74, 75, 76, 77, 78, 1, 2, 3, 4, 5, 6, 7, 8, 9, 10, 11, 12, 13, 14, 15, 16, 17, 18, 19, 20, 21, 22, 23, 24, 25, 26, 27, 28, 29, 30, 31, 32, 33, 34, 35, 36, 37, 38, 39, 40, 41, 42, 43, 44, 45, 46, 47, 48, 49, 50, 51, 52, 53, 54, 55, 56, 57, 58, 59, 60, 61, 62] (wcX6_X5_1 cs a S L) (by decide) hk hP1 (wbX6_X5_1 cs a S L)
          have hD := hDA S L
          refine lv_aload_n hx hb dX6_howMany_80 rfl (lv_at hl 0 rfl) ?_
          refine va_get (D := D) (ci := 4) (v := .ref (a 1)) (C := RX6) (T := TX6) (N := 12) hx hb hts (fun w h => List.mem_cons_of_mem _ (List.mem_append_left _ (List.mem_append_left _ (List.mem_append_left _ (List.mem_append_right _ h))))) hown hK hP 0 rfl rfl 0 (by decide) (hts (.fieldLink RX6 12 "LeastNeed" "now" "LLeastNeed$Valley;") (List.mem_of_getElem? (i := 1) rfl)) (fun _ h9 => h9) rfl dX6_howMany_81 ?_
          refine lv_iconst (v := (2 : Int32)) hx hb dX6_howMany_84 (by decide) ?_
          obtain ⟨r85, hq85, hd⟩ := dn_b1 hd
          have hPc : va_P D vwCl (wX5 cs (k_wi a 1) (k_wi S 1)) _ := k_sub hP [1, 2, 3, 4, 5, 6, 7, 8, 9, 10, 11, 12, 13, 14, 15, 16] (wcX6_X5_1 cs a S L)
          have hDc : va_D A (wX5 cs (k_wi a 1) (k_wi S 1)) := hD.sub [1, 2, 3, 4, 5, 6, 7, 8, 9, 10, 11, 12, 13, 14, 15, 16] (by decide) (wcX6_X5_1 cs a S L)
          have hF := k_self hDc hS hA
          refine k_run_i (va_runV (As := [.int (2 : Int32)]) (rest := [.int r77]) ⟨hx, hb, hml, hown, hts⟩ (mX5_howManyLie l D cs (k_wi a 1) (k_wi S 1) (2 : Int32) r85 hq85 _) (cwV 1 hts gX6_howMany_X5_howManyLie rfl rfl rfl (by decide +kernel) ⟨Nat.le_of_ble_eq_true rfl, Nat.le_of_ble_eq_true rfl⟩) ⟨k_blind, va_recv hK hP (ci := 3) (q0 := 1) rfl rfl, k_pre hPc hK hNn hDc⟩ rfl rfl hl.1 rfl (lv_room (Nat.le_of_ble_eq_true rfl)) dX6_howMany_85 ⟨Nat.le_of_ble_eq_true rfl, Nat.le_of_ble_eq_true rfl⟩) hS hF (fun H locs hP1 hk hS => ?_)
          have hP : va_P D vwCl (wX6 cs a S L) _ := k_back hP hD [1, 2, 3, 4, 5, 6, 7, 8, 9, 10, 11, 12, 13, 14, 15, 16] [0, 17, 18, 19, 20, 21, 22, 23, 24, 25, 26, 27, 28, 29, 30, 31, 32, 33, 34, 35, 36, 37, 38, 39, 40, 41, 42, 43, 44, 45, 46, 47, 48, 49, 50, 51, 52, 53, 54, 55, 56, 57, 58, 59, 60, 61, 62, 63, 64, 65, 66, 67, 68, 69, 70, 71, 72, 73, 74, 75, 76, 77, 78] [0, 63, 64, 65, 66, 67, 68, 69, 70, 71, 72, 73, 74, 75, 76, 77, 78, 1, 2, 3, 4, 5, 6, 7, 8, 9, 10, 11, 12, 13, 14, 15, 16, 17, 18, 19, 20, 21, 22, 23, 24, 25, 26, 27, 28, 29, 30, 31, 32, 33, 34, 35, 36, 37, 38, 39, 40, 41, 42, 43, 44, 45, 46, 47, 48, 49, 50, 51, 52, 53, 54, 55, 56, 57, 58, 59, 60, 61, 62] (wcX6_X5_1 cs a S L) (by decide) hk hP1 (wbX6_X5_1 cs a S L)
          have hD := hDA S L
          refine lv_iadd hx hb dX6_howMany_88 ?_
          have e1 := dn_s1 hd
          exact k_iret hx hb hr hQ hAe e1 rfl hP hS hlocks dX6_howMany_89
        · have hd := dn_f e1_3 hd
          by_cases e1_4 : p1 = (4 : Int32)
          · have hd := dn_t e1_4 hd
            refine lv_tableIn (off := 89) (tgt := 90) hx hb dX6_howMany_1 (by rw [e1_4]; decide) (by rw [e1_4]; decide) (by rw [e1_4]; rfl) (by decide) ?_
            refine lv_aload_n hx hb dX6_howMany_90 rfl (lv_at hl 0 rfl) ?_
            refine va_get (D := D) (ci := 4) (v := .ref (a 1)) (C := RX6) (T := TX6) (N := 12) hx hb hts (fun w h => List.mem_cons_of_mem _ (List.mem_append_left _ (List.mem_append_left _ (List.mem_append_left _ (List.mem_append_right _ h))))) hown hK hP 0 rfl rfl 0 (by decide) (hts (.fieldLink RX6 12 "LeastNeed" "now" "LLeastNeed$Valley;") (List.mem_of_getElem? (i := 1) rfl)) (fun _ h9 => h9) rfl dX6_howMany_91 ?_
            obtain ⟨r94, hq94, hd⟩ := dn_b1 hd
            have hPc : va_P D vwCl (wX5 cs (k_wi a 1) (k_wi S 1)) _ := k_sub hP [1, 2, 3, 4, 5, 6, 7, 8, 9, 10, 11, 12, 13, 14, 15, 16] (wcX6_X5_1 cs a S L)
            have hDc : va_D A (wX5 cs (k_wi a 1) (k_wi S 1)) := hD.sub [1, 2, 3, 4, 5, 6, 7, 8, 9, 10, 11, 12, 13, 14, 15, 16] (by decide) (wcX6_X5_1 cs a S L)
            have hF := k_self hDc hS hA
            refine k_run_i (va_runV (As := []) (rest := []) ⟨hx, hb, hml, hown, hts⟩ (mX5_howManyAtHome l D cs (k_wi a 1) (k_wi S 1) r94 hq94 _) (cwV 0 hts gX6_howMany_X5_howManyAtHome rfl rfl rfl (by decide +kernel) ⟨Nat.le_of_ble_eq_true rfl, Nat.le_of_ble_eq_true rfl⟩) ⟨k_blind, va_recv hK hP (ci := 3) (q0 := 1) rfl rfl, k_pre hPc hK hNn hDc⟩ rfl rfl hl.1 rfl (lv_room (Nat.le_of_ble_eq_true rfl)) dX6_howMany_94 ⟨Nat.le_of_ble_eq_true rfl, Nat.le_of_ble_eq_true rfl⟩) hS hF (fun H locs hP1 hk hS => ?_)
            have hP : va_P D vwCl (wX6 cs a S L) _ := k_back hP hD [1, 2, 3, 4, 5, 6, 7, 8, 9, 10, 11, 12, 13, 14, 15, 16] [0, 17, 18, 19, 20, 21, 22, 23, 24, 25, 26, 27, 28, 29, 30, 31, 32, 33, 34, 35, 36, 37, 38, 39, 40, 41, 42, 43, 44, 45, 46, 47, 48, 49, 50, 51, 52, 53, 54, 55, 56, 57, 58, 59, 60, 61, 62, 63, 64, 65, 66, 67, 68, 69, 70, 71, 72, 73, 74, 75, 76, 77, 78] [0, 63, 64, 65, 66, 67, 68, 69, 70, 71, 72, 73, 74, 75, 76, 77, 78, 1, 2, 3, 4, 5, 6, 7, 8, 9, 10, 11, 12, 13, 14, 15, 16, 17, 18, 19, 20, 21, 22, 23, 24, 25, 26, 27, 28, 29, 30, 31, 32, 33, 34, 35, 36, 37, 38, 39, 40, 41, 42, 43, 44, 45, 46, 47, 48, 49, 50, 51, 52, 53, 54, 55, 56, 57, 58, 59, 60, 61, 62] (wcX6_X5_1 cs a S L) (by decide) hk hP1 (wbX6_X5_1 cs a S L)
            have hD := hDA S L
            have e1 := dn_s1 hd
            exact k_iret hx hb hr hQ hAe e1 rfl hP hS hlocks dX6_howMany_97
          · have hd := dn_f e1_4 hd
            by_cases e1_5 : p1 = (5 : Int32)
            · have hd := dn_t e1_5 hd
              refine lv_tableIn (off := 97) (tgt := 98) hx hb dX6_howMany_1 (by rw [e1_5]; decide) (by rw [e1_5]; decide) (by rw [e1_5]; rfl) (by decide) ?_
              refine lv_aload_n hx hb dX6_howMany_98 rfl (lv_at hl 0 rfl) ?_
              refine va_get (D := D) (ci := 4) (v := .ref (a 1)) (C := RX6) (T := TX6) (N := 12) hx hb hts (fun w h => List.mem_cons_of_mem _ (List.mem_append_left _ (List.mem_append_left _ (List.mem_append_left _ (List.mem_append_right _ h))))) hown hK hP 0 rfl rfl 0 (by decide) (hts (.fieldLink RX6 12 "LeastNeed" "now" "LLeastNeed$Valley;") (List.mem_of_getElem? (i := 1) rfl)) (fun _ h9 => h9) rfl dX6_howMany_99 ?_
              refine va_get (D := D) (ci := 3) (v := .ref (a 11)) (C := RX5) (T := TX5) (N := 15) hx hb hts (fun w h => List.mem_cons_of_mem _ (List.mem_append_left _ (List.mem_append_left _ (List.mem_append_right _ h)))) hown hK hP 1 rfl rfl 9 (by decide) (hts (.fieldLink RX6 198 "LeastNeed$Valley" "notes" "LLeastNeed$Rows;") (List.mem_of_getElem? (i := 5) rfl)) (fun _ h9 => h9) rfl dX6_howMany_102 ?_
              refine va_get (D := D) (ci := 2) (v := .int (S 11 3)) (C := RX3) (T := TX3) (N := 4) hx hb hts (fun w h => List.mem_cons_of_mem _ (List.mem_append_left _ (List.mem_append_right _ h))) hown hK hP 11 rfl rfl 3 (by decide) (hts (.fieldLink RX6 150 "LeastNeed$Rows" "used" "I") (List.mem_of_getElem? (i := 6) rfl)) (fun _ h9 => h9) rfl dX6_howMany_105 ?_
              have e1 := dn_s1 hd
              exact k_iret hx hb hr hQ hAe e1 rfl hP hS hlocks dX6_howMany_108
            · have hd := dn_f e1_5 hd
              by_cases e1_6 : p1 = (6 : Int32)
              · have hd := dn_t e1_6 hd
                refine lv_tableIn (off := 108) (tgt := 109) hx hb dX6_howMany_1 (by rw [e1_6]; decide) (by rw [e1_6]; decide) (by rw [e1_6]; rfl) (by decide) ?_
                refine lv_aload_n hx hb dX6_howMany_109 rfl (lv_at hl 0 rfl) ?_
                refine va_get (D := D) (ci := 4) (v := .ref (a 1)) (C := RX6) (T := TX6) (N := 12) hx hb hts (fun w h => List.mem_cons_of_mem _ (List.mem_append_left _ (List.mem_append_left _ (List.mem_append_left _ (List.mem_append_right _ h))))) hown hK hP 0 rfl rfl 0 (by decide) (hts (.fieldLink RX6 12 "LeastNeed" "now" "LLeastNeed$Valley;") (List.mem_of_getElem? (i := 1) rfl)) (fun _ h9 => h9) rfl dX6_howMany_110 ?_
                refine va_get (D := D) (ci := 3) (v := .ref (a 13)) (C := RX5) (T := TX5) (N := 15) hx hb hts (fun w h => List.mem_cons_of_mem _ (List.mem_append_left _ (List.mem_append_left _ (List.mem_append_right _ h)))) hown hK hP 1 rfl rfl 10 (by decide) (hts (.fieldLink RX6 211 "LeastNeed$Valley" "cames" "LLeastNeed$Rows;") (List.mem_of_getElem? (i := 7) rfl)) (fun _ h9 => h9) rfl dX6_howMany_113 ?_
                refine va_get (D := D) (ci := 2) (v := .int (S 13 3)) (C := RX3) (T := TX3) (N := 4) hx hb hts (fun w h => List.mem_cons_of_mem _ (List.mem_append_left _ (List.mem_append_right _ h))) hown hK hP 13 rfl rfl 3 (by decide) (hts (.fieldLink RX6 150 "LeastNeed$Rows" "used" "I") (List.mem_of_getElem? (i := 6) rfl)) (fun _ h9 => h9) rfl dX6_howMany_116 ?_
                have e1 := dn_s1 hd
                exact k_iret hx hb hr hQ hAe e1 rfl hP hS hlocks dX6_howMany_119
              · have hd := dn_f e1_6 hd
                by_cases e1_7 : p1 = (7 : Int32)
                · have hd := dn_t e1_7 hd
                  refine lv_tableIn (off := 119) (tgt := 120) hx hb dX6_howMany_1 (by rw [e1_7]; decide) (by rw [e1_7]; decide) (by rw [e1_7]; rfl) (by decide) ?_
                  refine lv_aload_n hx hb dX6_howMany_120 rfl (lv_at hl 0 rfl) ?_
                  refine va_get (D := D) (ci := 4) (v := .ref (a 1)) (C := RX6) (T := TX6) (N := 12) hx hb hts (fun w h => List.mem_cons_of_mem _ (List.mem_append_left _ (List.mem_append_left _ (List.mem_append_left _ (List.mem_append_right _ h))))) hown hK hP 0 rfl rfl 0 (by decide) (hts (.fieldLink RX6 12 "LeastNeed" "now" "LLeastNeed$Valley;") (List.mem_of_getElem? (i := 1) rfl)) (fun _ h9 => h9) rfl dX6_howMany_121 ?_
                  refine va_get (D := D) (ci := 3) (v := .ref (a 15)) (C := RX5) (T := TX5) (N := 15) hx hb hts (fun w h => List.mem_cons_of_mem _ (List.mem_append_left _ (List.mem_append_left _ (List.mem_append_right _ h)))) hown hK hP 1 rfl rfl 11 (by decide) (hts (.fieldLink RX6 146 "LeastNeed$Valley" "past" "LLeastNeed$Rows;") (List.mem_of_getElem? (i := 8) rfl)) (fun _ h9 => h9) rfl dX6_howMany_124 ?_
                  refine va_get (D := D) (ci := 2) (v := .int (S 15 3)) (C := RX3) (T := TX3) (N := 4) hx hb hts (fun w h => List.mem_cons_of_mem _ (List.mem_append_left _ (List.mem_append_right _ h))) hown hK hP 15 rfl rfl 3 (by decide) (hts (.fieldLink RX6 150 "LeastNeed$Rows" "used" "I") (List.mem_of_getElem? (i := 6) rfl)) (fun _ h9 => h9) rfl dX6_howMany_127 ?_
                  have e1 := dn_s1 hd
                  exact k_iret hx hb hr hQ hAe e1 rfl hP hS hlocks dX6_howMany_130
                · have hd := dn_f e1_7 hd
                  refine lv_tableOut (tgt := 131) hx hb dX6_howMany_1 (by have q0 := lv_neT e1_0 (a := 0) (by decide); have q1 := lv_neT e1_1 (a := 1) (by decide); have q2 := lv_neT e1_2 (a := 2) (by decide); have q3 := lv_neT e1_3 (a := 3) (by decide); have q4 := lv_neT e1_4 (a := 4) (by decide); have q5 := lv_neT e1_5 (a := 5) (by decide); have q6 := lv_neT e1_6 (a := 6) (by decide); have q7 := lv_neT e1_7 (a := 7) (by decide); omega) (by decide) ?_
                  refine lv_aload_n hx hb dX6_howMany_131 rfl (lv_at hl 0 rfl) ?_
                  refine va_get (D := D) (ci := 4) (v := .ref (a 67)) (C := RX6) (T := TX6) (N := 12) hx hb hts (fun w h => List.mem_cons_of_mem _ (List.mem_append_left _ (List.mem_append_left _ (List.mem_append_left _ (List.mem_append_right _ h))))) hown hK hP 0 rfl rfl 4 (by decide) (hts (.fieldLink RX6 30 "LeastNeed" "reader" "LLeastNeed$Reader;") (List.mem_of_getElem? (i := 9) rfl)) (fun _ h9 => h9) rfl dX6_howMany_132 ?_
                  refine va_get (D := D) (ci := 1) (v := .int (S 67 2)) (C := RX2) (T := TX2) (N := 6) hx hb hts (fun w h => List.mem_cons_of_mem _ (List.mem_append_right _ h)) hown hK hP 67 rfl rfl 2 (by decide) (hts (.fieldLink RX6 94 "LeastNeed$Reader" "length" "I") (List.mem_of_getElem? (i := 10) rfl)) (fun _ h9 => h9) rfl dX6_howMany_135 ?_
                  have e1 := dn_s1 hd
                  exact k_iret hx hb hr hQ hAe e1 rfl hP hS hlocks dX6_howMany_138
-- LeastNeed.count(I)I
set_option maxRecDepth 20000 in
def nX6_count (S : Nat → Nat → Int32) (L : Nat → Nat → Int64) (p1 : Int32) : Option (Int32 × (Nat → Nat → Int32)) := k_b1 (nX6_upTo p1 (9 : Int32)) (fun r3 => if r3 = 0 then k_b2 (nX6_refusedAsBad S L) (fun r10 S10 => some (r10, S10)) else k_b1 (nX6_howMany S L p1) (fun r16 => some (r16, S)))
set_option maxHeartbeats 4000000 in
set_option maxRecDepth 100000 in
theorem mX6_count (l : Launch) (D : va_G) (cs : Nat → ClassId) (a : Nat → Nat) (S : Nat → Nat → Int32) (L : Nat → Nat → Int64) (p1 : Int32) (r9 : Int32) (S9 : (Nat → Nat → Int32)) (hd : nX6_count S L p1 = some (r9, S9)) : ∀ sz : Nat, Met l yX6_count wsX6_count ({ frames := 2, cells := 0, slots := 0, locals := 44 }) (k_Pc D cs [.ref (a 0), .int p1] (wX6 cs a S L) sz) (k_Qi D r9 (wX6 cs a S L) (wX6 cs a S9 L) sz) 0 0 (va_A (wX6 cs a S L) sz) := by
  intro sz
  refine Met.ofW (cc := cX6_count) (maxL := 2) (ret := (some .int)) (by decide) rfl ?_
  intro p e s m args below meth c s₁ B hml hv
  obtain ⟨rfl, hsz, hP, hK, hD0, hNn⟩ := hv
  have hx := B.exec
  have hb := B.bytes
  have hr := B.returns
  have hts := atoms_spec (ws := wsX6_count) B.pre
  have hown : s.vm.findClass RX6 = some m.cls := findClass_of_methodNamed B.named
  have hlocks := B.notSynchronized
  subst hsz
  obtain ⟨A, hAe⟩ : ∃ A : Nat → Prop, A = va_A (wX6 cs a S L) s.heap.size := ⟨_, rfl⟩
  have hD : va_D A (wX6 cs a S L) := by rw [hAe]; exact hD0.self
  have hA : ∀ q : Nat, s.heap.size ≤ q → A q := fun q h => by rw [hAe]; exact Or.inr h
  have hS : va_S A s.heap s.heap [] := va_S.rf
  have hDA : ∀ (S : Nat → Nat → Int32) (L : Nat → Nat → Int64), va_D A (wX6 cs a S L) := fun S L => k_DA hD rfl
  have hl := lv_entry ([.ref (a 0), .int p1]) (n := 2) (Nat.le_of_ble_eq_true rfl)
  rw [lg_entry_eq]
  generalize (lg_sl ([.ref (a 0), .int p1]) ++ List.replicate (2 - (lg_sl ([.ref (a 0), .int p1])).length) Slot.unset).toArray = ls at hl ⊢
  have hl : lv_has ls 2 [(0, .ref (a 0)), (1, .int p1)] := hl
  obtain ⟨Q, hQ⟩ : ∃ Q, Q = MQ below (k_Qi D r9 (wX6 cs a S L) (wX6 cs a S9 L) s.heap.size) ([.ref (a 0), .int p1] : List Value).toArray s 0 0 (va_A (wX6 cs a S L) s.heap.size) := ⟨_, rfl⟩
  rw [← hQ]
  unfold nX6_count at hd
  refine lv_iload_n hx hb dX6_count_0 rfl (lv_at hl 1 rfl) ?_
  refine lv_bipush (v := (9 : Int32)) hx hb dX6_count_1 (by decide) ?_
  obtain ⟨r3, hq3, hd⟩ := dn_b1 hd
  have hPc := k_P0 hP
  have hDc : va_D A ([] : va_W) := k_D0
  have hF := k_self hDc hS hA
  refine k_run_i (va_runS (As := [.int p1, .int (9 : Int32)]) (rest := []) ⟨hx, hb, hml, hown, hts⟩ (mX6_upTo l D cs  p1 (9 : Int32) r3 hq3 _) (va_cwS 2 hts gX6_count_X6_upTo rfl rfl rfl (by decide +kernel) ⟨Nat.le_of_ble_eq_true rfl, Nat.le_of_ble_eq_true rfl⟩) ⟨k_blind, k_pre hPc hK hNn hDc⟩ rfl rfl hl.1 rfl (lv_room (Nat.le_of_ble_eq_true rfl)) dX6_count_3 ⟨Nat.le_of_ble_eq_true rfl, Nat.le_of_ble_eq_true rfl⟩) hS hF (fun H locs hP1 hk hS => ?_)
  have hP : va_P D vwCl (wX6 cs a S L) _ := k_keep hP hk
  refine lv_if_ne (tgt := 14) hx hb dX6_count_6 (by decide) (fun c6 => ?_) (fun c6 => ?_)
  · have hd := dn_f c6 hd
    refine lv_aload_n hx hb dX6_count_14 rfl (lv_at hl 0 rfl) ?_
    refine lv_iload_n hx hb dX6_count_15 rfl (lv_at hl 1 rfl) ?_
    obtain ⟨r16, hq16, hd⟩ := dn_b1 hd
    have hF := k_self hD hS hA
    refine k_run_i (va_runV (As := [.int p1]) (rest := []) ⟨hx, hb, hml, hown, hts⟩ (mX6_howMany l D cs a S L p1 r16 hq16 _) (cwV 1 hts gX6_count_X6_howMany rfl rfl rfl (by decide +kernel) ⟨Nat.le_of_ble_eq_true rfl, Nat.le_of_ble_eq_true rfl⟩) ⟨k_blind, va_recv hK hP (ci := 4) (q0 := 0) rfl rfl, k_pre hP hK hNn hD⟩ rfl rfl hl.1 rfl (lv_room (Nat.le_of_ble_eq_true rfl)) dX6_count_16 ⟨Nat.le_of_ble_eq_true rfl, Nat.le_of_ble_eq_true rfl⟩) hS hF (fun H locs hP1 hk hS => ?_)
    have hP : va_P D vwCl (wX6 cs a S L) _ := hP1
    have hD := hDA S L
    obtain ⟨e1, e2⟩ := dn_s2 hd
    exact k_iret hx hb hr hQ hAe e1 (by rw [e2]) hP hS hlocks dX6_count_19
  · have hd := dn_t c6 hd
    refine lv_aload_n hx hb dX6_count_9 rfl (lv_at hl 0 rfl) ?_
    obtain ⟨r10, S10, hq10, hd⟩ := dn_b2 hd
    have hF := k_self hD hS hA
    refine k_run_i (va_runV (As := []) (rest := []) ⟨hx, hb, hml, hown, hts⟩ (mX6_refusedAsBad l D cs a S L r10 S10 hq10 _) (cwV 0 hts gX6_count_X6_refusedAsBad rfl rfl rfl (by decide +kernel) ⟨Nat.le_of_ble_eq_true rfl, Nat.le_of_ble_eq_true rfl⟩) ⟨k_blind, va_recv hK hP (ci := 4) (q0 := 0) rfl rfl, k_pre hP hK hNn hD⟩ rfl rfl hl.1 rfl (lv_room (Nat.le_of_ble_eq_true rfl)) dX6_count_10 ⟨Nat.le_of_ble_eq_true rfl, Nat.le_of_ble_eq_true rfl⟩) hS hF (fun H locs hP1 hk hS => ?_)
    have hP : va_P D vwCl (wX6 cs a S10 L) _ := hP1
    have hD := hDA S10 L
    obtain ⟨e1, e2⟩ := dn_s2 hd
    exact k_iret hx hb hr hQ hAe e1 (by rw [e2]) hP hS hlocks dX6_count_13
-- LeastNeed.digest()J
set_option maxRecDepth 20000 in
def nX6_digest_l6 (x1_6 : Int64) (x3_6 : Int32) (S : Nat → Nat → Int32) (L : Nat → Nat → Int64) : Option ((Int64 × Int32) ⊕ (Int64)) := if (9 : Int32) ≤ x3_6 then k_up (k_b1 (nX5_mixPeople (k_wi S 1) x1_6) (fun r36 => k_b1 (nX5_mixThings (k_wi S 1) r36) (fun r45 => k_b1 (nX3_mix 36 (6 : Int32) (6 : Int32) (k_wi S 11) r45) (fun r57 => k_b1 (nX3_mix 24 (4 : Int32) (6 : Int32) (k_wi S 13) r57) (fun r69 => some (((31 : Int64) * (((31 : Int64) * r69) + (L 0 10))) + (L 0 11))))))) else k_b1 (nX6_howMany S L x3_6) (fun r19 => some (.inl ((((31 : Int64) * x1_6) + r19.toInt64), (x3_6 + (1 : Int32)))))
set_option maxRecDepth 20000 in
def nX6_digest (S : Nat → Nat → Int32) (L : Nat → Nat → Int64) : Option (Int64) := k_it (fun st => nX6_digest_l6 st.1 st.2 S L) 1000 ((1483 : Int64), (0 : Int32))
set_option maxHeartbeats 4000000 in
set_option maxRecDepth 100000 in
theorem mX6_digest (l : Launch) (D : va_G) (cs : Nat → ClassId) (a : Nat → Nat) (S : Nat → Nat → Int32) (L : Nat → Nat → Int64) (r9 : Int64) (hd : nX6_digest S L = some r9) : ∀ sz : Nat, Met l yX6_digest wsX6_digest ({ frames := 2, cells := 0, slots := 0, locals := 44 }) (k_Pc D cs [.ref (a 0)] (wX6 cs a S L) sz) (k_Ql D r9 (wX6 cs a S L) (wX6 cs a S L) sz) 0 0 (va_A (wX6 cs a S L) sz) := by
  intro sz
  refine Met.ofW (cc := cX6_digest) (maxL := 4) (ret := (some .long)) (by decide) rfl ?_
  intro p e s m args below meth c s₁ B hml hv
  obtain ⟨rfl, hsz, hP, hK, hD0, hNn⟩ := hv
  have hx := B.exec
  have hb := B.bytes
  have hr := B.returns
  have hts := atoms_spec (ws := wsX6_digest) B.pre
  have hown : s.vm.findClass RX6 = some m.cls := findClass_of_methodNamed B.named
  have hlocks := B.notSynchronized
  subst hsz
  obtain ⟨A, hAe⟩ : ∃ A : Nat → Prop, A = va_A (wX6 cs a S L) s.heap.size := ⟨_, rfl⟩
  have hD : va_D A (wX6 cs a S L) := by rw [hAe]; exact hD0.self
  have hA : ∀ q : Nat, s.heap.size ≤ q → A q := fun q h => by rw [hAe]; exact Or.inr h
  have hS : va_S A s.heap s.heap [] := va_S.rf
  have hDA : ∀ (S : Nat → Nat → Int32) (L : Nat → Nat → Int64), va_D A (wX6 cs a S L) := fun S L => k_DA hD rfl
  have hl := lv_entry ([.ref (a 0)]) (n := 4) (Nat.le_of_ble_eq_true rfl)
  rw [lg_entry_eq]
  generalize (lg_sl ([.ref (a 0)]) ++ List.replicate (4 - (lg_sl ([.ref (a 0)])).length) Slot.unset).toArray = ls at hl ⊢
  have hl : lv_has ls 4 [(0, .ref (a 0))] := hl
  obtain ⟨Q, hQ⟩ : ∃ Q, Q = MQ below (k_Ql D r9 (wX6 cs a S L) (wX6 cs a S L) s.heap.size) ([.ref (a 0)] : List Value).toArray s 0 0 (va_A (wX6 cs a S L) s.heap.size) := ⟨_, rfl⟩
  rw [← hQ]
  have Lo6 : ∀ (n1 : Nat) (x1_6 : Int64) (x3_6 : Int32) (H : Heap) (locs : List Loc) (ls : Array Slot), k_it (fun st => nX6_digest_l6 st.1 st.2 S L) n1 (x1_6, x3_6) = some r9 → lv_has ls 4 [(0, .ref (a 0)), (1, .long x1_6), (3, .int x3_6)] → va_P D vwCl (wX6 cs a S L) H → va_S A s.heap H locs → W p l e (headSpec wsX6_digest ({ frames := 2, cells := 0, slots := 0, locals := 44 })).room s m ([.ref (a 0)] : List Value).toArray below meth c H locs 0 0 Q (F0 m 6 ls []) := by
    intro n1
    induction n1 with
    | zero => intro x1_6 x3_6 H locs ls hd; exact dn_it0 hd
    | succ n1 ih1 =>
      intro x1_6 x3_6 H locs ls hd hl hP hS
      have hD := hDA S L
      obtain ⟨y1, hd, hy1⟩ := dn_it hd
      have hd : nX6_digest_l6 x1_6 x3_6 S L = some y1 := hd
      unfold nX6_digest_l6 at hd
      refine lv_iload_n hx hb dX6_digest_6 rfl (lv_at hl 2 rfl) ?_
      refine lv_bipush (v := (9 : Int32)) hx hb dX6_digest_7 (by decide) ?_
      refine lv_icmp_ge (tgt := 31) hx hb dX6_digest_9 (by decide) (fun c9 => ?_) (fun c9 => ?_)
      · have hd := dn_t c9 hd
        have hd := dn_up hd hy1
        refine lv_aload_n hx hb dX6_digest_31 rfl (lv_at hl 0 rfl) ?_
        refine va_get (D := D) (ci := 4) (v := .ref (a 1)) (C := RX6) (T := TX6) (N := 12) hx hb hts (fun w h => List.mem_cons_of_mem _ (List.mem_append_left _ (List.mem_append_left _ (List.mem_append_left _ (List.mem_append_right _ h))))) hown hK hP 0 rfl rfl 0 (by decide) (hts (.fieldLink RX6 12 "LeastNeed" "now" "LLeastNeed$Valley;") (List.mem_of_getElem? (i := 3) rfl)) (fun _ h9 => h9) rfl dX6_digest_32 ?_
        refine lv_lload_n hx hb dX6_digest_35 rfl (lv_at hl 1 rfl) ?_
        obtain ⟨r36, hq36, hd⟩ := dn_b1 hd
        have hPc : va_P D vwCl (wX5 cs (k_wi a 1) (k_wi S 1)) _ := k_sub hP [1, 2, 3, 4, 5, 6, 7, 8, 9, 10, 11, 12, 13, 14, 15, 16] (wcX6_X5_1 cs a S L)
        have hDc : va_D A (wX5 cs (k_wi a 1) (k_wi S 1)) := hD.sub [1, 2, 3, 4, 5, 6, 7, 8, 9, 10, 11, 12, 13, 14, 15, 16] (by decide) (wcX6_X5_1 cs a S L)
        have hF := k_self hDc hS hA
        refine k_run_l (va_runV (As := [.long x1_6]) (rest := []) ⟨hx, hb, hml, hown, hts⟩ (mX5_mixPeople l D cs (k_wi a 1) (k_wi S 1) x1_6 r36 hq36 _) (cwV 1 hts gX6_digest_X5_mixPeople rfl rfl rfl (by decide +kernel) ⟨Nat.le_of_ble_eq_true rfl, Nat.le_of_ble_eq_true rfl⟩) ⟨k_blind, va_recv hK hP (ci := 3) (q0 := 1) rfl rfl, k_pre hPc hK hNn hDc⟩ rfl rfl hl.1 rfl (lv_room (Nat.le_of_ble_eq_true rfl)) dX6_digest_36 ⟨Nat.le_of_ble_eq_true rfl, Nat.le_of_ble_eq_true rfl⟩) hS hF (fun H locs hP1 hk hS => ?_)
        have hP : va_P D vwCl (wX6 cs a S L) _ := k_back hP hD [1, 2, 3, 4, 5, 6, 7, 8, 9, 10, 11, 12, 13, 14, 15, 16] [0, 17, 18, 19, 20, 21, 22, 23, 24, 25, 26, 27, 28, 29, 30, 31, 32, 33, 34, 35, 36, 37, 38, 39, 40, 41, 42, 43, 44, 45, 46, 47, 48, 49, 50, 51, 52, 53, 54, 55, 56, 57, 58, 59, 60, 61, 62, 63, 64, 65, 66, 67, 68, 69, 70, 71, 72, 73, 74, 75, 76, 77, 78] [0, 63, 64, 65, 66, 67, 68, 69, 70, 71, 72, 73, 74, 75, 76, 77, 78, 1, 2, 3, 4, 5, 6, 7, 8, 9, 10, 11, 12, 13, 14, 15, 16, 17, 18, 19, 20, 21, 22, 23, 24, 25, 26, 27, 28, 29, 30, 31, 32, 33, 34, 35, 36, 37, 38, 39, 40, 41, 42, 43, 44, 45, 46, 47, 48, 49, 50, 51, 52, 53, 54, 55, 56, 57, 58, 59, 60, 61, 62] (wcX6_X5_1 cs a S L) (by decide) hk hP1 (wbX6_X5_1 cs a S L)
        have hD := hDA S L
        refine lv_lstore_n (lv' := [(1, .long r36), (0, .ref (a 0)), (3, .int x3_6)]) hx hb dX6_digest_39 rfl hl (by decide) rfl (fun ls hl => ?_)
        refine lv_aload_n hx hb dX6_digest_40 rfl (lv_at hl 1 rfl) ?_
        refine va_get (D := D) (ci := 4) (v := .ref (a 1)) (C := RX6) (T := TX6) (N := 12) hx hb hts (fun w h => List.mem_cons_of_mem _ (List.mem_append_left _ (List.mem_append_left _ (List.mem_append_left _ (List.mem_append_right _ h))))) hown hK hP 0 rfl rfl 0 (by decide) (hts (.fieldLink RX6 12 "LeastNeed" "now" "LLeastNeed$Valley;") (List.mem_of_getElem? (i := 3) rfl)) (fun _ h9 => h9) rfl dX6_digest_41 ?_
        refine lv_lload_n hx hb dX6_digest_44 rfl (lv_at hl 0 rfl) ?_
        obtain ⟨r45, hq45, hd⟩ := dn_b1 hd
        have hPc : va_P D vwCl (wX5 cs (k_wi a 1) (k_wi S 1)) _ := k_sub hP [1, 2, 3, 4, 5, 6, 7, 8, 9, 10, 11, 12, 13, 14, 15, 16] (wcX6_X5_1 cs a S L)
        have hDc : va_D A (wX5 cs (k_wi a 1) (k_wi S 1)) := hD.sub [1, 2, 3, 4, 5, 6, 7, 8, 9, 10, 11, 12, 13, 14, 15, 16] (by decide) (wcX6_X5_1 cs a S L)
        have hF := k_self hDc hS hA
        refine k_run_l (va_runV (As := [.long r36]) (rest := []) ⟨hx, hb, hml, hown, hts⟩ (mX5_mixThings l D cs (k_wi a 1) (k_wi S 1) r36 r45 hq45 _) (cwV 1 hts gX6_digest_X5_mixThings rfl rfl rfl (by decide +kernel) ⟨Nat.le_of_ble_eq_true rfl, Nat.le_of_ble_eq_true rfl⟩) ⟨k_blind, va_recv hK hP (ci := 3) (q0 := 1) rfl rfl, k_pre hPc hK hNn hDc⟩ rfl rfl hl.1 rfl (lv_room (Nat.le_of_ble_eq_true rfl)) dX6_digest_45 ⟨Nat.le_of_ble_eq_true rfl, Nat.le_of_ble_eq_true rfl⟩) hS hF (fun H locs hP1 hk hS => ?_)
        have hP : va_P D vwCl (wX6 cs a S L) _ := k_back hP hD [1, 2, 3, 4, 5, 6, 7, 8, 9, 10, 11, 12, 13, 14, 15, 16] [0, 17, 18, 19, 20, 21, 22, 23, 24, 25, 26, 27, 28, 29, 30, 31, 32, 33, 34, 35, 36, 37, 38, 39, 40, 41, 42, 43, 44, 45, 46, 47, 48, 49, 50, 51, 52, 53, 54, 55, 56, 57, 58, 59, 60, 61, 62, 63, 64, 65, 66, 67, 68, 69, 70, 71, 72, 73, 74, 75, 76, 77, 78] [0, 63, 64, 65, 66, 67, 68, 69, 70, 71, 72, 73, 74, 75, 76, 77, 78, 1, 2, 3, 4, 5, 6, 7, 8, 9, 10, 11, 12, 13, 14, 15, 16, 17, 18, 19, 20, 21, 22, 23, 24, 25, 26, 27, 28, 29, 30, 31, 32, 33, 34, 35, 36, 37, 38, 39, 40, 41, 42, 43, 44, 45, 46, 47, 48, 49, 50, 51, 52, 53, 54, 55, 56, 57, 58, 59, 60, 61, 62] (wcX6_X5_1 cs a S L) (by decide) hk hP1 (wbX6_X5_1 cs a S L)
        have hD := hDA S L
        refine lv_lstore_n (lv' := [(1, .long r45), (0, .ref (a 0)), (3, .int x3_6)]) hx hb dX6_digest_48 rfl hl (by decide) rfl (fun ls hl => ?_)
        refine lv_aload_n hx hb dX6_digest_49 rfl (lv_at hl 1 rfl) ?_
        refine va_get (D := D) (ci := 4) (v := .ref (a 1)) (C := RX6) (T := TX6) (N := 12) hx hb hts (fun w h => List.mem_cons_of_mem _ (List.mem_append_left _ (List.mem_append_left _ (List.mem_append_left _ (List.mem_append_right _ h))))) hown hK hP 0 rfl rfl 0 (by decide) (hts (.fieldLink RX6 12 "LeastNeed" "now" "LLeastNeed$Valley;") (List.mem_of_getElem? (i := 3) rfl)) (fun _ h9 => h9) rfl dX6_digest_50 ?_
        refine va_get (D := D) (ci := 3) (v := .ref (a 11)) (C := RX5) (T := TX5) (N := 15) hx hb hts (fun w h => List.mem_cons_of_mem _ (List.mem_append_left _ (List.mem_append_left _ (List.mem_append_right _ h)))) hown hK hP 1 rfl rfl 9 (by decide) (hts (.fieldLink RX6 198 "LeastNeed$Valley" "notes" "LLeastNeed$Rows;") (List.mem_of_getElem? (i := 4) rfl)) (fun _ h9 => h9) rfl dX6_digest_53 ?_
        refine lv_lload_n hx hb dX6_digest_56 rfl (lv_at hl 0 rfl) ?_
        obtain ⟨r57, hq57, hd⟩ := dn_b1 hd
        have hPc : va_P D vwCl (wX3 cs 36 (6 : Int32) (6 : Int32) (k_wi a 11) (k_wi S 11)) _ := k_sub hP [11, 12] (wcX6_X3_11 cs a S L)
        have hDc : va_D A (wX3 cs 36 (6 : Int32) (6 : Int32) (k_wi a 11) (k_wi S 11)) := hD.sub [11, 12] (by decide) (wcX6_X3_11 cs a S L)
        have hF := k_self hDc hS hA
        refine k_run_l (va_runV (As := [.long r45]) (rest := []) ⟨hx, hb, hml, hown, hts⟩ (mX3_mix l D cs (k_wi a 11) 36 (6 : Int32) (6 : Int32) (k_wi S 11) r45 r57 hq57 _) (cwV 1 hts gX6_digest_X3_mix rfl rfl rfl (by decide +kernel) ⟨Nat.le_of_ble_eq_true rfl, Nat.le_of_ble_eq_true rfl⟩) ⟨k_blind, va_recv hK hP (ci := 2) (q0 := 11) rfl rfl, k_pre hPc hK hNn hDc⟩ rfl rfl hl.1 rfl (lv_room (Nat.le_of_ble_eq_true rfl)) dX6_digest_57 ⟨Nat.le_of_ble_eq_true rfl, Nat.le_of_ble_eq_true rfl⟩) hS hF (fun H locs hP1 hk hS => ?_)
        have hP : va_P D vwCl (wX6 cs a S L) _ := k_back hP hD [11, 12] [0, 1, 2, 3, 4, 5, 6, 7, 8, 9, 10, 13, 14, 15, 16, 17, 18, 19, 20, 21, 22, 23, 24, 25, 26, 27, 28, 29, 30, 31, 32, 33, 34, 35, 36, 37, 38, 39, 40, 41, 42, 43, 44, 45, 46, 47, 48, 49, 50, 51, 52, 53, 54, 55, 56, 57, 58, 59, 60, 61, 62, 63, 64, 65, 66, 67, 68, 69, 70, 71, 72, 73, 74, 75, 76, 77, 78] [0, 1, 2, 3, 4, 5, 6, 7, 8, 9, 10, 77, 78, 11, 12, 13, 14, 15, 16, 17, 18, 19, 20, 21, 22, 23, 24, 25, 26, 27, 28, 29, 30, 31, 32, 33, 34, 35, 36, 37, 38, 39, 40, 41, 42, 43, 44, 45, 46, 47, 48, 49, 50, 51, 52, 53, 54, 55, 56, 57, 58, 59, 60, 61, 62, 63, 64, 65, 66, 67, 68, 69, 70, 71, 72, 73, 74, 75, 76] (wcX6_X3_11 cs a S L) (by decide) hk hP1 (wbX6_X3_11 cs a S L)
        have hD := hDA S L
        refine lv_lstore_n (lv' := [(1, .long r57), (0, .ref (a 0)), (3, .int x3_6)]) hx hb dX6_digest_60 rfl hl (by decide) rfl (fun ls hl => ?_)
        refine lv_aload_n hx hb dX6_digest_61 rfl (lv_at hl 1 rfl) ?_
        refine va_get (D := D) (ci := 4) (v := .ref (a 1)) (C := RX6) (T := TX6) (N := 12) hx hb hts (fun w h => List.mem_cons_of_mem _ (List.mem_append_left _ (List.mem_append_left _ (List.mem_append_left _ (List.mem_append_right _ h))))) hown hK hP 0 rfl rfl 0 (by decide) (hts (.fieldLink RX6 12 "LeastNeed" "now" "LLeastNeed$Valley;") (List.mem_of_getElem? (i := 3) rfl)) (fun _ h9 => h9) rfl dX6_digest_62 ?_
        refine va_get (D := D) (ci := 3) (v := .ref (a 13)) (C := RX5) (T := TX5) (N := 15) hx hb hts (fun w h => List.mem_cons_of_mem _ (List.mem_append_left _ (List.mem_append_left _ (List.mem_append_right _ h)))) hown hK hP 1 rfl rfl 10 (by decide) (hts (.fieldLink RX6 211 "LeastNeed$Valley" "cames" "LLeastNeed$Rows;") (List.mem_of_getElem? (i := 5) rfl)) (fun _ h9 => h9) rfl dX6_digest_65 ?_
        refine lv_lload_n hx hb dX6_digest_68 rfl (lv_at hl 0 rfl) ?_
        obtain ⟨r69, hq69, hd⟩ := dn_b1 hd
        have hPc : va_P D vwCl (wX3 cs 24 (4 : Int32) (6 : Int32) (k_wi a 13) (k_wi S 13)) _ := k_sub hP [13, 14] (wcX6_X3_13 cs a S L)
        have hDc : va_D A (wX3 cs 24 (4 : Int32) (6 : Int32) (k_wi a 13) (k_wi S 13)) := hD.sub [13, 14] (by decide) (wcX6_X3_13 cs a S L)
        have hF := k_self hDc hS hA
        refine k_run_l (va_runV (As := [.long r57]) (rest := []) ⟨hx, hb, hml, hown, hts⟩ (mX3_mix l D cs (k_wi a 13) 24 (4 : Int32) (6 : Int32) (k_wi S 13) r57 r69 hq69 _) (cwV 1 hts gX6_digest_X3_mix rfl rfl rfl (by decide +kernel) ⟨Nat.le_of_ble_eq_true rfl, Nat.le_of_ble_eq_true rfl⟩) ⟨k_blind, va_recv hK hP (ci := 2) (q0 := 13) rfl rfl, k_pre hPc hK hNn hDc⟩ rfl rfl hl.1 rfl (lv_room (Nat.le_of_ble_eq_true rfl)) dX6_digest_69 ⟨Nat.le_of_ble_eq_true rfl, Nat.le_of_ble_eq_true rfl⟩) hS hF (fun H locs hP1 hk hS => ?_)
        have hP : va_P D vwCl (wX6 cs a S L) _ := k_back hP hD [13, 14] [0, 1, 2, 3, 4, 5, 6, 7, 8, 9, 10, 11, 12, 15, 16, 17, 18, 19, 20, 21, 22, 23, 24, 25, 26, 27, 28, 29, 30, 31, 32, 33, 34, 35, 36, 37, 38, 39, 40, 41, 42, 43, 44, 45, 46, 47, 48, 49, 50, 51, 52, 53, 54, 55, 56, 57, 58, 59, 60, 61, 62, 63, 64, 65, 66, 67, 68, 69, 70, 71, 72, 73, 74, 75, 76, 77, 78] [0, 1, 2, 3, 4, 5, 6, 7, 8, 9, 10, 11, 12, 77, 78, 13, 14, 15, 16, 17, 18, 19, 20, 21, 22, 23, 24, 25, 26, 27, 28, 29, 30, 31, 32, 33, 34, 35, 36, 37, 38, 39, 40, 41, 42, 43, 44, 45, 46, 47, 48, 49, 50, 51, 52, 53, 54, 55, 56, 57, 58, 59, 60, 61, 62, 63, 64, 65, 66, 67, 68, 69, 70, 71, 72, 73, 74, 75, 76] (wcX6_X3_13 cs a S L) (by decide) hk hP1 (wbX6_X3_13 cs a S L)
        have hD := hDA S L
        refine lv_lstore_n (lv' := [(1, .long r69), (0, .ref (a 0)), (3, .int x3_6)]) hx hb dX6_digest_72 rfl hl (by decide) rfl (fun ls hl => ?_)
        refine lv_ldc2 (v := (31 : Int64)) hx hb hown (hts (.constantLong RX6 269 (31)) (List.mem_of_getElem? (i := 2) rfl)) dX6_digest_73 ?_
        refine lv_lload_n hx hb dX6_digest_76 rfl (lv_at hl 0 rfl) ?_
        refine lv_lmul hx hb dX6_digest_77 ?_
        refine lv_aload_n hx hb dX6_digest_78 rfl (lv_at hl 1 rfl) ?_
        refine va_get (D := D) (ci := 4) (v := .long (L 0 10)) (C := RX6) (T := TX6) (N := 12) hx hb hts (fun w h => List.mem_cons_of_mem _ (List.mem_append_left _ (List.mem_append_left _ (List.mem_append_left _ (List.mem_append_right _ h))))) hown hK hP 0 rfl rfl 10 (by decide) (hts (.fieldLink RX6 54 "LeastNeed" "above" "J") (List.mem_of_getElem? (i := 6) rfl)) (fun _ h9 => h9) rfl dX6_digest_79 ?_
        refine lv_ladd hx hb dX6_digest_82 ?_
        refine lv_lstore_n (lv' := [(1, .long (((31 : Int64) * r69) + (L 0 10))), (0, .ref (a 0)), (3, .int x3_6)]) hx hb dX6_digest_83 rfl hl (by decide) rfl (fun ls hl => ?_)
        refine lv_ldc2 (v := (31 : Int64)) hx hb hown (hts (.constantLong RX6 269 (31)) (List.mem_of_getElem? (i := 2) rfl)) dX6_digest_84 ?_
        refine lv_lload_n hx hb dX6_digest_87 rfl (lv_at hl 0 rfl) ?_
        refine lv_lmul hx hb dX6_digest_88 ?_
        refine lv_aload_n hx hb dX6_digest_89 rfl (lv_at hl 1 rfl) ?_
        refine va_get (D := D) (ci := 4) (v := .long (L 0 11)) (C := RX6) (T := TX6) (N := 12) hx hb hts (fun w h => List.mem_cons_of_mem _ (List.mem_append_left _ (List.mem_append_left _ (List.mem_append_left _ (List.mem_append_right _ h))))) hown hK hP 0 rfl rfl 11 (by decide) (hts (.fieldLink RX6 58 "LeastNeed" "below" "J") (List.mem_of_getElem? (i := 7) rfl)) (fun _ h9 => h9) rfl dX6_digest_90 ?_
        refine lv_ladd hx hb dX6_digest_93 ?_
        have e1 := dn_s1 hd
        exact k_lret hx hb hr hQ hAe e1 rfl hP hS hlocks dX6_digest_94
      · have hd := dn_f c9 hd
        refine lv_ldc2 (v := (31 : Int64)) hx hb hown (hts (.constantLong RX6 269 (31)) (List.mem_of_getElem? (i := 2) rfl)) dX6_digest_12 ?_
        refine lv_lload_n hx hb dX6_digest_15 rfl (lv_at hl 1 rfl) ?_
        refine lv_lmul hx hb dX6_digest_16 ?_
        refine lv_aload_n hx hb dX6_digest_17 rfl (lv_at hl 0 rfl) ?_
        refine lv_iload_n hx hb dX6_digest_18 rfl (lv_at hl 2 rfl) ?_
        obtain ⟨r19, hq19, hd⟩ := dn_b1 hd
        have hF := k_self hD hS hA
        refine k_run_i (va_runV (As := [.int x3_6]) (rest := [.long ((31 : Int64) * x1_6)]) ⟨hx, hb, hml, hown, hts⟩ (mX6_howMany l D cs a S L x3_6 r19 hq19 _) (cwV 1 hts gX6_digest_X6_howMany rfl rfl rfl (by decide +kernel) ⟨Nat.le_of_ble_eq_true rfl, Nat.le_of_ble_eq_true rfl⟩) ⟨k_blind, va_recv hK hP (ci := 4) (q0 := 0) rfl rfl, k_pre hP hK hNn hD⟩ rfl rfl hl.1 rfl (lv_room (Nat.le_of_ble_eq_true rfl)) dX6_digest_19 ⟨Nat.le_of_ble_eq_true rfl, Nat.le_of_ble_eq_true rfl⟩) hS hF (fun H locs hP1 hk hS => ?_)
        have hP : va_P D vwCl (wX6 cs a S L) _ := hP1
        have hD := hDA S L
        refine lv_i2l hx hb dX6_digest_22 rfl ?_
        refine lv_ladd hx hb dX6_digest_23 ?_
        refine lv_lstore_n (lv' := [(1, .long (((31 : Int64) * x1_6) + r19.toInt64)), (0, .ref (a 0)), (3, .int x3_6)]) hx hb dX6_digest_24 rfl hl (by decide) rfl (fun ls hl => ?_)
        refine lv_iinc (v := x3_6 + (1 : Int32)) (lv' := [(3, .int (x3_6 + (1 : Int32))), (1, .long (((31 : Int64) * x1_6) + r19.toInt64)), (0, .ref (a 0))]) hx hb dX6_digest_25 hl (k := 2) rfl rfl (by decide) rfl (fun ls hl => ?_)
        refine lv_goto (tgt := 6) hx hb dX6_digest_28 (by decide) ?_
        exact ih1 (((31 : Int64) * x1_6) + r19.toInt64) (x3_6 + (1 : Int32)) _ _ _ (dn_bk hd hy1) (lv_sub hl [2, 1, 0] rfl) hP hS
  unfold nX6_digest at hd
  refine lv_ldc2 (v := (1483 : Int64)) hx hb hown (hts (.constantLong RX6 267 (1483)) (List.mem_of_getElem? (i := 1) rfl)) dX6_digest_0 ?_
  refine lv_lstore_n (lv' := [(1, .long (1483 : Int64)), (0, .ref (a 0))]) hx hb dX6_digest_3 rfl hl (by decide) rfl (fun ls hl => ?_)
  refine lv_iconst (v := (0 : Int32)) hx hb dX6_digest_4 (by decide) ?_
  refine lv_istore_n (lv' := [(3, .int (0 : Int32)), (1, .long (1483 : Int64)), (0, .ref (a 0))]) hx hb dX6_digest_5 rfl hl (by decide) rfl (fun ls hl => ?_)
  exact Lo6 1000 (1483 : Int64) (0 : Int32) _ _ _ hd (lv_sub hl [2, 1, 0] rfl) hP hS
