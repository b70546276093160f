/-- LeastNeed$Rows.isFull()Z -/
set_option maxRecDepth 20000 in
def nX3_isFull (N : Nat) (S : Nat → Nat → Int32) : Option (Int32) := if (S 0 3) < (S 0 1) then some (0 : Int32) else some (1 : Int32)
set_option maxHeartbeats 4000000 in
set_option maxRecDepth 100000 in
theorem mX3_isFull (l : Launch) (D : va_G) (cs : Nat → ClassId) (a : Nat → Nat) (N : Nat) (S : Nat → Nat → Int32) (r9 : Int32) (hd : nX3_isFull N S = some r9) : ∀ sz : Nat, Met l yX3_isFull wsX3_isFull ({ frames := 0, cells := 0, slots := 0, locals := 0 }) (k_Pc D cs [.ref (a 0)] (wX3 cs N a S) sz) (k_Qi D r9 (wX3 cs N a S) (wX3 cs N a S) sz) 0 0 (va_A (wX3 cs N a S) sz) := by
  intro sz
  refine Met.ofW (cc := cX3_isFull) (maxL := 1) (ret := (some .boolean)) (by decide) rfl ?_
  intro p e s m args below meth c s₁ B hml hv
  obtain ⟨rfl, hsz, hP, hK, hD0, hNn⟩ := hv
  have hx := B.exec
  have hb := B.bytes
  have hr := B.returns
  have hts := atoms_spec (ws := wsX3_isFull) B.pre
  have hown : s.vm.findClass RX3 = some m.cls := findClass_of_methodNamed B.named
  have hlocks := B.notSynchronized
  subst hsz
  obtain ⟨A, hAe⟩ : ∃ A : Nat → Prop, A = va_A (wX3 cs N a S) s.heap.size := ⟨_, rfl⟩
  have hD : va_D A (wX3 cs N a S) := by rw [hAe]; exact hD0.self
  have hA : ∀ q : Nat, s.heap.size ≤ q → A q := fun q h => by rw [hAe]; exact Or.inr h
  have hS : va_S A s.heap s.heap [] := va_S.rf
  have hDA : ∀ (S : Nat → Nat → Int32), va_D A (wX3 cs N a S) := fun S => k_DA hD rfl
  have hl := lv_entry ([.ref (a 0)]) (n := 1) (Nat.le_of_ble_eq_true rfl)
  rw [lg_entry_eq]
  generalize (lg_sl ([.ref (a 0)]) ++ List.replicate (1 - (lg_sl ([.ref (a 0)])).length) Slot.unset).toArray = ls at hl ⊢
  have hl : lv_has ls 1 [(0, .ref (a 0))] := hl
  obtain ⟨Q, hQ⟩ : ∃ Q, Q = MQ below (k_Qi D r9 (wX3 cs N a S) (wX3 cs N a S) s.heap.size) ([.ref (a 0)] : List Value).toArray s 0 0 (va_A (wX3 cs N a S) s.heap.size) := ⟨_, rfl⟩
  rw [← hQ]
  unfold nX3_isFull at hd
  refine lv_aload_n hx hb dX3_isFull_0 rfl (lv_at hl 0 rfl) ?_
  refine va_get (D := D) (ci := 2) (v := .int (S 0 3)) (C := RX3) (T := TX3) (N := 4) hx hb hts (fun w h => List.mem_cons_of_mem _ (List.mem_append_right _ h)) hown hK hP 0 rfl rfl 3 (by decide) (hts (.fieldLink RX3 20 "LeastNeed$Rows" "used" "I") (List.mem_of_getElem? (i := 1) rfl)) (fun _ h9 => h9) rfl dX3_isFull_1 ?_
  refine lv_aload_n hx hb dX3_isFull_4 rfl (lv_at hl 0 rfl) ?_
  refine va_get (D := D) (ci := 2) (v := .int (S 0 1)) (C := RX3) (T := TX3) (N := 4) hx hb hts (fun w h => List.mem_cons_of_mem _ (List.mem_append_right _ h)) hown hK hP 0 rfl rfl 1 (by decide) (hts (.fieldLink RX3 13 "LeastNeed$Rows" "most" "I") (List.mem_of_getElem? (i := 2) rfl)) (fun _ h9 => h9) rfl dX3_isFull_5 ?_
  refine lv_icmp_lt (tgt := 15) hx hb dX3_isFull_8 (by decide) (fun c8 => ?_) (fun c8 => ?_)
  · have hd := dn_t c8 hd
    refine lv_iconst (v := (0 : Int32)) hx hb dX3_isFull_15 (by decide) ?_
    have e1 := dn_s1 hd
    exact k_zret hx hb hr rfl hQ hAe e1 rfl hP hS hlocks dX3_isFull_16
  · have hd := dn_f c8 hd
    refine lv_iconst (v := (1 : Int32)) hx hb dX3_isFull_11 (by decide) ?_
    refine lv_goto (tgt := 16) hx hb dX3_isFull_12 (by decide) ?_
    have e1 := dn_s1 hd
    exact k_zret hx hb hr rfl hQ hAe e1 rfl hP hS hlocks dX3_isFull_16
/-- LeastNeed$Rows.begin()V -/
set_option maxRecDepth 20000 in
def nX3_begin (N : Nat) (S : Nat → Nat → Int32) : Option ((Nat → Nat → Int32)) := if (S 0 1) ≤ (S 0 3) then some S else some (k_w S 0 3 ((S 0 3) + (1 : Int32)))
set_option maxHeartbeats 4000000 in
set_option maxRecDepth 100000 in
theorem mX3_begin (l : Launch) (D : va_G) (cs : Nat → ClassId) (a : Nat → Nat) (N : Nat) (S : Nat → Nat → Int32) (S9 : (Nat → Nat → Int32)) (hd : nX3_begin N S = some S9) : ∀ sz : Nat, Met l yX3_begin wsX3_begin ({ frames := 0, cells := 0, slots := 0, locals := 0 }) (k_Pc D cs [.ref (a 0)] (wX3 cs N a S) sz) (k_Qv D (wX3 cs N a S) (wX3 cs N a S9) sz) 0 0 (va_A (wX3 cs N a S) sz) := by
  intro sz
  refine Met.ofW (cc := cX3_begin) (maxL := 1) (ret := none) (by decide) rfl ?_
  intro p e s m args below meth c s₁ B hml hv
  obtain ⟨rfl, hsz, hP, hK, hD0, hNn⟩ := hv
  have hx := B.exec
  have hb := B.bytes
  have hr := B.returns
  have hts := atoms_spec (ws := wsX3_begin) B.pre
  have hown : s.vm.findClass RX3 = some m.cls := findClass_of_methodNamed B.named
  have hlocks := B.notSynchronized
  subst hsz
  obtain ⟨A, hAe⟩ : ∃ A : Nat → Prop, A = va_A (wX3 cs N a S) s.heap.size := ⟨_, rfl⟩
  have hD : va_D A (wX3 cs N a S) := by rw [hAe]; exact hD0.self
  have hA : ∀ q : Nat, s.heap.size ≤ q → A q := fun q h => by rw [hAe]; exact Or.inr h
  have hS : va_S A s.heap s.heap [] := va_S.rf
  have hDA : ∀ (S : Nat → Nat → Int32), va_D A (wX3 cs N a S) := fun S => k_DA hD rfl
  have hl := lv_entry ([.ref (a 0)]) (n := 1) (Nat.le_of_ble_eq_true rfl)
  rw [lg_entry_eq]
  generalize (lg_sl ([.ref (a 0)]) ++ List.replicate (1 - (lg_sl ([.ref (a 0)])).length) Slot.unset).toArray = ls at hl ⊢
  have hl : lv_has ls 1 [(0, .ref (a 0))] := hl
  obtain ⟨Q, hQ⟩ : ∃ Q, Q = MQ below (k_Qv D (wX3 cs N a S) (wX3 cs N a S9) s.heap.size) ([.ref (a 0)] : List Value).toArray s 0 0 (va_A (wX3 cs N a S) s.heap.size) := ⟨_, rfl⟩
  rw [← hQ]
  unfold nX3_begin at hd
  refine lv_aload_n hx hb dX3_begin_0 rfl (lv_at hl 0 rfl) ?_
  refine va_get (D := D) (ci := 2) (v := .int (S 0 3)) (C := RX3) (T := TX3) (N := 4) hx hb hts (fun w h => List.mem_cons_of_mem _ (List.mem_append_right _ h)) hown hK hP 0 rfl rfl 3 (by decide) (hts (.fieldLink RX3 20 "LeastNeed$Rows" "used" "I") (List.mem_of_getElem? (i := 1) rfl)) (fun _ h9 => h9) rfl dX3_begin_1 ?_
  refine lv_aload_n hx hb dX3_begin_4 rfl (lv_at hl 0 rfl) ?_
  refine va_get (D := D) (ci := 2) (v := .int (S 0 1)) (C := RX3) (T := TX3) (N := 4) hx hb hts (fun w h => List.mem_cons_of_mem _ (List.mem_append_right _ h)) hown hK hP 0 rfl rfl 1 (by decide) (hts (.fieldLink RX3 13 "LeastNeed$Rows" "most" "I") (List.mem_of_getElem? (i := 2) rfl)) (fun _ h9 => h9) rfl dX3_begin_5 ?_
  refine lv_icmp_ge (tgt := 21) hx hb dX3_begin_8 (by decide) (fun c8 => ?_) (fun c8 => ?_)
  · have hd := dn_t c8 hd
    have e1 := dn_s1 hd
    exact k_vret hx hb hr hQ hAe (by rw [e1]) hP hS hlocks dX3_begin_21
  · have hd := dn_f c8 hd
    refine lv_aload_n hx hb dX3_begin_11 rfl (lv_at hl 0 rfl) ?_
    refine lv_dup hx hb dX3_begin_12 rfl ?_
    refine va_get (D := D) (ci := 2) (v := .int (S 0 3)) (C := RX3) (T := TX3) (N := 4) hx hb hts (fun w h => List.mem_cons_of_mem _ (List.mem_append_right _ h)) hown hK hP 0 rfl rfl 3 (by decide) (hts (.fieldLink RX3 20 "LeastNeed$Rows" "used" "I") (List.mem_of_getElem? (i := 1) rfl)) (fun _ h9 => h9) rfl dX3_begin_13 ?_
    refine lv_iconst (v := (1 : Int32)) hx hb dX3_begin_16 (by decide) ?_
    refine lv_iadd hx hb dX3_begin_17 ?_
    refine va_put (D := D) (ci := 2) (v := .int ((S 0 3) + (1 : Int32))) (ty := .int) (C := RX3) (T := TX3) (N := 4) hx hb hts (fun w h => List.mem_cons_of_mem _ (List.mem_append_right _ h)) tyX3 tyX3_ok nmX3 hown hK hP hD hS 0 rfl rfl 3 (by decide) (hts (.fieldLink RX3 20 "LeastNeed$Rows" "used" "I") (List.mem_of_getElem? (i := 1) rfl)) (fun _ h9 => h9) rfl (by decide +kernel) rfl rfl (Nat.le_of_ble_eq_true rfl) dX3_begin_18 (fun H locs hP hD hS => ?_)
    have hP : va_P D vwCl (wX3 cs N a (k_w S 0 3 ((S 0 3) + (1 : Int32)))) H := hP
    have hD : va_D A (wX3 cs N a (k_w S 0 3 ((S 0 3) + (1 : Int32)))) := hD
    have e1 := dn_s1 hd
    exact k_vret hx hb hr hQ hAe (by rw [e1]) hP hS hlocks dX3_begin_21
/-- LeastNeed$Rows.put(II)V -/
set_option maxRecDepth 20000 in
def nX3_put (N : Nat) (S : Nat → Nat → Int32) (x1 : Int32) (x2 : Int32) : Option ((Nat → Nat → Int32)) := if ((((S 0 3) - (1 : Int32)) * (S 0 0)) + x1) < 0 then some S else if (Int32.ofNat N) ≤ ((((S 0 3) - (1 : Int32)) * (S 0 0)) + x1) then some S else if ((((S 0 3) - (1 : Int32)) * (S 0 0)) + x1) < 0 ∨ N ≤ ((((S 0 3) - (1 : Int32)) * (S 0 0)) + x1).toNatClampNeg then none else some (k_w S 1 (((((S 0 3) - (1 : Int32)) * (S 0 0)) + x1).toNatClampNeg) x2)
set_option maxHeartbeats 4000000 in
set_option maxRecDepth 100000 in
theorem mX3_put (l : Launch) (D : va_G) (cs : Nat → ClassId) (a : Nat → Nat) (N : Nat) (S : Nat → Nat → Int32) (x1 : Int32) (x2 : Int32) (S9 : (Nat → Nat → Int32)) (hd : nX3_put N S x1 x2 = some S9) : ∀ sz : Nat, Met l yX3_put wsX3_put ({ frames := 0, cells := 0, slots := 0, locals := 0 }) (k_Pc D cs [.ref (a 0), .int x1, .int x2] (wX3 cs N a S) sz) (k_Qv D (wX3 cs N a S) (wX3 cs N a S9) sz) 0 0 (va_A (wX3 cs N a S) sz) := by
  intro sz
  refine Met.ofW (cc := cX3_put) (maxL := 4) (ret := none) (by decide) rfl ?_
  intro p e s m args below meth c s₁ B hml hv
  obtain ⟨rfl, hsz, hP, hK, hD0, hNn⟩ := hv
  have hx := B.exec
  have hb := B.bytes
  have hr := B.returns
  have hts := atoms_spec (ws := wsX3_put) B.pre
  have hown : s.vm.findClass RX3 = some m.cls := findClass_of_methodNamed B.named
  have hlocks := B.notSynchronized
  subst hsz
  obtain ⟨A, hAe⟩ : ∃ A : Nat → Prop, A = va_A (wX3 cs N a S) s.heap.size := ⟨_, rfl⟩
  have hD : va_D A (wX3 cs N a S) := by rw [hAe]; exact hD0.self
  have hA : ∀ q : Nat, s.heap.size ≤ q → A q := fun q h => by rw [hAe]; exact Or.inr h
  have hS : va_S A s.heap s.heap [] := va_S.rf
  have hDA : ∀ (S : Nat → Nat → Int32), va_D A (wX3 cs N a S) := fun S => k_DA hD rfl
  have hl := lv_entry ([.ref (a 0), .int x1, .int x2]) (n := 4) (Nat.le_of_ble_eq_true rfl)
  rw [lg_entry_eq]
  generalize (lg_sl ([.ref (a 0), .int x1, .int x2]) ++ List.replicate (4 - (lg_sl ([.ref (a 0), .int x1, .int x2])).length) Slot.unset).toArray = ls at hl ⊢
  have hl : lv_has ls 4 [(0, .ref (a 0)), (1, .int x1), (2, .int x2)] := hl
  obtain ⟨Q, hQ⟩ : ∃ Q, Q = MQ below (k_Qv D (wX3 cs N a S) (wX3 cs N a S9) s.heap.size) ([.ref (a 0), .int x1, .int x2] : List Value).toArray s 0 0 (va_A (wX3 cs N a S) s.heap.size) := ⟨_, rfl⟩
  rw [← hQ]
  unfold nX3_put at hd
  refine lv_aload_n hx hb dX3_put_0 rfl (lv_at hl 0 rfl) ?_
  refine va_get (D := D) (ci := 2) (v := .int (S 0 3)) (C := RX3) (T := TX3) (N := 4) hx hb hts (fun w h => List.mem_cons_of_mem _ (List.mem_append_right _ h)) hown hK hP 0 rfl rfl 3 (by decide) (hts (.fieldLink RX3 20 "LeastNeed$Rows" "used" "I") (List.mem_of_getElem? (i := 1) rfl)) (fun _ h9 => h9) rfl dX3_put_1 ?_
  refine lv_iconst (v := (1 : Int32)) hx hb dX3_put_4 (by decide) ?_
  refine lv_isub hx hb dX3_put_5 ?_
  refine lv_aload_n hx hb dX3_put_6 rfl (lv_at hl 0 rfl) ?_
  refine va_get (D := D) (ci := 2) (v := .int (S 0 0)) (C := RX3) (T := TX3) (N := 4) hx hb hts (fun w h => List.mem_cons_of_mem _ (List.mem_append_right _ h)) hown hK hP 0 rfl rfl 0 (by decide) (hts (.fieldLink RX3 7 "LeastNeed$Rows" "width" "I") (List.mem_of_getElem? (i := 2) rfl)) (fun _ h9 => h9) rfl dX3_put_7 ?_
  refine lv_imul hx hb dX3_put_10 ?_
  refine lv_iload_n hx hb dX3_put_11 rfl (lv_at hl 1 rfl) ?_
  refine lv_iadd hx hb dX3_put_12 ?_
  refine lv_istore_n (lv' := [(3, .int ((((S 0 3) - (1 : Int32)) * (S 0 0)) + x1)), (0, .ref (a 0)), (1, .int x1), (2, .int x2)]) hx hb dX3_put_13 rfl hl (by decide) rfl (fun ls hl => ?_)
  refine lv_iload_n hx hb dX3_put_14 rfl (lv_at hl 0 rfl) ?_
  refine lv_if_lt (tgt := 34) hx hb dX3_put_15 (by decide) (fun c15 => ?_) (fun c15 => ?_)
  · have hd := dn_t c15 hd
    have e1 := dn_s1 hd
    exact k_vret hx hb hr hQ hAe (by rw [e1]) hP hS hlocks dX3_put_34
  · have hd := dn_f c15 hd
    refine lv_iload_n hx hb dX3_put_18 rfl (lv_at hl 0 rfl) ?_
    refine lv_aload_n hx hb dX3_put_19 rfl (lv_at hl 1 rfl) ?_
    refine va_get (D := D) (ci := 2) (v := .ref (a 1)) (C := RX3) (T := TX3) (N := 4) hx hb hts (fun w h => List.mem_cons_of_mem _ (List.mem_append_right _ h)) hown hK hP 0 rfl rfl 2 (by decide) (hts (.fieldLink RX3 16 "LeastNeed$Rows" "cells" "[I") (List.mem_of_getElem? (i := 3) rfl)) (fun _ h9 => h9) rfl dX3_put_20 ?_
    refine va_alen (D := D) (v := Int32.ofNat N) hx hb hK hP 1 1 rfl rfl rfl dX3_put_23 ?_
    refine lv_icmp_ge (tgt := 34) hx hb dX3_put_24 (by decide) (fun c24 => ?_) (fun c24 => ?_)
    · have hd := dn_t c24 hd
      have e1 := dn_s1 hd
      exact k_vret hx hb hr hQ hAe (by rw [e1]) hP hS hlocks dX3_put_34
    · have hd := dn_f c24 hd
      refine lv_aload_n hx hb dX3_put_27 rfl (lv_at hl 1 rfl) ?_
      refine va_get (D := D) (ci := 2) (v := .ref (a 1)) (C := RX3) (T := TX3) (N := 4) hx hb hts (fun w h => List.mem_cons_of_mem _ (List.mem_append_right _ h)) hown hK hP 0 rfl rfl 2 (by decide) (hts (.fieldLink RX3 16 "LeastNeed$Rows" "cells" "[I") (List.mem_of_getElem? (i := 3) rfl)) (fun _ h9 => h9) rfl dX3_put_28 ?_
      refine lv_iload_n hx hb dX3_put_31 rfl (lv_at hl 0 rfl) ?_
      refine lv_iload_n hx hb dX3_put_32 rfl (lv_at hl 3 rfl) ?_
      obtain ⟨hi33, hd⟩ := dn_i hd
      refine k_iast (D := D) (k := ((((S 0 3) - (1 : Int32)) * (S 0 0)) + x1).toNatClampNeg) (by rfl) hx hb hK hP hD hS 1 1 rfl rfl hi33 dX3_put_33 (fun H locs hP hD hS => ?_)
      have hP : va_P D vwCl (wX3 cs N a (k_w S 1 (((((S 0 3) - (1 : Int32)) * (S 0 0)) + x1).toNatClampNeg) x2)) H := hP
      have hD : va_D A (wX3 cs N a (k_w S 1 (((((S 0 3) - (1 : Int32)) * (S 0 0)) + x1).toNatClampNeg) x2)) := hD
      have e1 := dn_s1 hd
      exact k_vret hx hb hr hQ hAe (by rw [e1]) hP hS hlocks dX3_put_34
/-- LeastNeed$Rows.cell(II)I -/
set_option maxRecDepth 20000 in
def nX3_cell (N : Nat) (S : Nat → Nat → Int32) (x1 : Int32) (x2 : Int32) : Option (Int32) := if ((x1 * (S 0 0)) + x2) < 0 then some (0 : Int32) else if (Int32.ofNat N) ≤ ((x1 * (S 0 0)) + x2) then some (0 : Int32) else if ((x1 * (S 0 0)) + x2) < 0 ∨ N ≤ ((x1 * (S 0 0)) + x2).toNatClampNeg then none else some (S 1 ((x1 * (S 0 0)) + x2).toNatClampNeg)
set_option maxHeartbeats 4000000 in
set_option maxRecDepth 100000 in
theorem mX3_cell (l : Launch) (D : va_G) (cs : Nat → ClassId) (a : Nat → Nat) (N : Nat) (S : Nat → Nat → Int32) (x1 : Int32) (x2 : Int32) (r9 : Int32) (hd : nX3_cell N S x1 x2 = some r9) : ∀ sz : Nat, Met l yX3_cell wsX3_cell ({ frames := 0, cells := 0, slots := 0, locals := 0 }) (k_Pc D cs [.ref (a 0), .int x1, .int x2] (wX3 cs N a S) sz) (k_Qi D r9 (wX3 cs N a S) (wX3 cs N a S) sz) 0 0 (va_A (wX3 cs N a S) sz) := by
  intro sz
  refine Met.ofW (cc := cX3_cell) (maxL := 4) (ret := (some .int)) (by decide) rfl ?_
  intro p e s m args below meth c s₁ B hml hv
  obtain ⟨rfl, hsz, hP, hK, hD0, hNn⟩ := hv
  have hx := B.exec
  have hb := B.bytes
  have hr := B.returns
  have hts := atoms_spec (ws := wsX3_cell) B.pre
  have hown : s.vm.findClass RX3 = some m.cls := findClass_of_methodNamed B.named
  have hlocks := B.notSynchronized
  subst hsz
  obtain ⟨A, hAe⟩ : ∃ A : Nat → Prop, A = va_A (wX3 cs N a S) s.heap.size := ⟨_, rfl⟩
  have hD : va_D A (wX3 cs N a S) := by rw [hAe]; exact hD0.self
  have hA : ∀ q : Nat, s.heap.size ≤ q → A q := fun q h => by rw [hAe]; exact Or.inr h
  have hS : va_S A s.heap s.heap [] := va_S.rf
  have hDA : ∀ (S : Nat → Nat → Int32), va_D A (wX3 cs N a S) := fun S => k_DA hD rfl
  have hl := lv_entry ([.ref (a 0), .int x1, .int x2]) (n := 4) (Nat.le_of_ble_eq_true rfl)
  rw [lg_entry_eq]
  generalize (lg_sl ([.ref (a 0), .int x1, .int x2]) ++ List.replicate (4 - (lg_sl ([.ref (a 0), .int x1, .int x2])).length) Slot.unset).toArray = ls at hl ⊢
  have hl : lv_has ls 4 [(0, .ref (a 0)), (1, .int x1), (2, .int x2)] := hl
  obtain ⟨Q, hQ⟩ : ∃ Q, Q = MQ below (k_Qi D r9 (wX3 cs N a S) (wX3 cs N a S) s.heap.size) ([.ref (a 0), .int x1, .int x2] : List Value).toArray s 0 0 (va_A (wX3 cs N a S) s.heap.size) := ⟨_, rfl⟩
  rw [← hQ]
  unfold nX3_cell at hd
  refine lv_iload_n hx hb dX3_cell_0 rfl (lv_at hl 1 rfl) ?_
  refine lv_aload_n hx hb dX3_cell_1 rfl (lv_at hl 0 rfl) ?_
  refine va_get (D := D) (ci := 2) (v := .int (S 0 0)) (C := RX3) (T := TX3) (N := 4) hx hb hts (fun w h => List.mem_cons_of_mem _ (List.mem_append_right _ h)) hown hK hP 0 rfl rfl 0 (by decide) (hts (.fieldLink RX3 7 "LeastNeed$Rows" "width" "I") (List.mem_of_getElem? (i := 1) rfl)) (fun _ h9 => h9) rfl dX3_cell_2 ?_
  refine lv_imul hx hb dX3_cell_5 ?_
  refine lv_iload_n hx hb dX3_cell_6 rfl (lv_at hl 2 rfl) ?_
  refine lv_iadd hx hb dX3_cell_7 ?_
  refine lv_istore_n (lv' := [(3, .int ((x1 * (S 0 0)) + x2)), (0, .ref (a 0)), (1, .int x1), (2, .int x2)]) hx hb dX3_cell_8 rfl hl (by decide) rfl (fun ls hl => ?_)
  refine lv_iload_n hx hb dX3_cell_9 rfl (lv_at hl 0 rfl) ?_
  refine lv_if_lt (tgt := 31) hx hb dX3_cell_10 (by decide) (fun c10 => ?_) (fun c10 => ?_)
  · have hd := dn_t c10 hd
    refine lv_iconst (v := (0 : Int32)) hx hb dX3_cell_31 (by decide) ?_
    have e1 := dn_s1 hd
    exact k_iret hx hb hr hQ hAe e1 rfl hP hS hlocks dX3_cell_32
  · have hd := dn_f c10 hd
    refine lv_iload_n hx hb dX3_cell_13 rfl (lv_at hl 0 rfl) ?_
    refine lv_aload_n hx hb dX3_cell_14 rfl (lv_at hl 1 rfl) ?_
    refine va_get (D := D) (ci := 2) (v := .ref (a 1)) (C := RX3) (T := TX3) (N := 4) hx hb hts (fun w h => List.mem_cons_of_mem _ (List.mem_append_right _ h)) hown hK hP 0 rfl rfl 2 (by decide) (hts (.fieldLink RX3 16 "LeastNeed$Rows" "cells" "[I") (List.mem_of_getElem? (i := 2) rfl)) (fun _ h9 => h9) rfl dX3_cell_15 ?_
    refine va_alen (D := D) (v := Int32.ofNat N) hx hb hK hP 1 1 rfl rfl rfl dX3_cell_18 ?_
    refine lv_icmp_ge (tgt := 31) hx hb dX3_cell_19 (by decide) (fun c19 => ?_) (fun c19 => ?_)
    · have hd := dn_t c19 hd
      refine lv_iconst (v := (0 : Int32)) hx hb dX3_cell_31 (by decide) ?_
      have e1 := dn_s1 hd
      exact k_iret hx hb hr hQ hAe e1 rfl hP hS hlocks dX3_cell_32
    · have hd := dn_f c19 hd
      refine lv_aload_n hx hb dX3_cell_22 rfl (lv_at hl 1 rfl) ?_
      refine va_get (D := D) (ci := 2) (v := .ref (a 1)) (C := RX3) (T := TX3) (N := 4) hx hb hts (fun w h => List.mem_cons_of_mem _ (List.mem_append_right _ h)) hown hK hP 0 rfl rfl 2 (by decide) (hts (.fieldLink RX3 16 "LeastNeed$Rows" "cells" "[I") (List.mem_of_getElem? (i := 2) rfl)) (fun _ h9 => h9) rfl dX3_cell_23 ?_
      refine lv_iload_n hx hb dX3_cell_26 rfl (lv_at hl 0 rfl) ?_
      obtain ⟨hi27, hd⟩ := dn_i hd
      refine k_iald (D := D) (k := ((x1 * (S 0 0)) + x2).toNatClampNeg) (by rfl) hx hb hK hP 1 1 rfl rfl hi27 dX3_cell_27 ?_
      refine lv_goto (tgt := 32) hx hb dX3_cell_28 (by decide) ?_
      have e1 := dn_s1 hd
      exact k_iret hx hb hr hQ hAe e1 rfl hP hS hlocks dX3_cell_32
/-- LeastNeed$Rows.dropFirst()V -/
set_option maxRecDepth 20000 in
def nX3_dropFirst (N : Nat) (S : Nat → Nat → Int32) : Option ((Nat → Nat → Int32)) := if (S 0 3) = 0 then some S else if k_cpok (S 0 0) (0 : Int32) ((Int32.ofNat N) - (S 0 0)) N N = false then none else some (k_w (k_r S 1 (va_cpy (S 1) (S 1) (S 0 0).toNatClampNeg (0 : Int32).toNatClampNeg ((Int32.ofNat N) - (S 0 0)).toNatClampNeg)) 0 3 (((k_r S 1 (va_cpy (S 1) (S 1) (S 0 0).toNatClampNeg (0 : Int32).toNatClampNeg ((Int32.ofNat N) - (S 0 0)).toNatClampNeg)) 0 3) - (1 : Int32)))
set_option maxHeartbeats 4000000 in
set_option maxRecDepth 100000 in
theorem mX3_dropFirst (l : Launch) (D : va_G) (cs : Nat → ClassId) (a : Nat → Nat) (N : Nat) (S : Nat → Nat → Int32) (S9 : (Nat → Nat → Int32)) (hd : nX3_dropFirst N S = some S9) : ∀ sz : Nat, Met l yX3_dropFirst wsX3_dropFirst ({ frames := 1, cells := 0, slots := 0, locals := 40 }) (k_Pc D cs [.ref (a 0)] (wX3 cs N a S) sz) (k_Qv D (wX3 cs N a S) (wX3 cs N a S9) sz) 0 0 (va_A (wX3 cs N a S) sz) := by
  intro sz
  refine Met.ofW (cc := cX3_dropFirst) (maxL := 1) (ret := none) (by decide) rfl ?_
  intro p e s m args below meth c s₁ B hml hv
  obtain ⟨rfl, hsz, hP, hK, hD0, hNn⟩ := hv
  have hx := B.exec
  have hb := B.bytes
  have hr := B.returns
  have hts := atoms_spec (ws := wsX3_dropFirst) B.pre
  have hown : s.vm.findClass RX3 = some m.cls := findClass_of_methodNamed B.named
  have hlocks := B.notSynchronized
  subst hsz
  obtain ⟨A, hAe⟩ : ∃ A : Nat → Prop, A = va_A (wX3 cs N a S) s.heap.size := ⟨_, rfl⟩
  have hD : va_D A (wX3 cs N a S) := by rw [hAe]; exact hD0.self
  have hA : ∀ q : Nat, s.heap.size ≤ q → A q := fun q h => by rw [hAe]; exact Or.inr h
  have hS : va_S A s.heap s.heap [] := va_S.rf
  have hDA : ∀ (S : Nat → Nat → Int32), va_D A (wX3 cs N a S) := fun S => k_DA hD rfl
  have hl := lv_entry ([.ref (a 0)]) (n := 1) (Nat.le_of_ble_eq_true rfl)
  rw [lg_entry_eq]
  generalize (lg_sl ([.ref (a 0)]) ++ List.replicate (1 - (lg_sl ([.ref (a 0)])).length) Slot.unset).toArray = ls at hl ⊢
  have hl : lv_has ls 1 [(0, .ref (a 0))] := hl
  obtain ⟨Q, hQ⟩ : ∃ Q, Q = MQ below (k_Qv D (wX3 cs N a S) (wX3 cs N a S9) s.heap.size) ([.ref (a 0)] : List Value).toArray s 0 0 (va_A (wX3 cs N a S) s.heap.size) := ⟨_, rfl⟩
  rw [← hQ]
  unfold nX3_dropFirst at hd
  refine lv_aload_n hx hb dX3_dropFirst_0 rfl (lv_at hl 0 rfl) ?_
  refine va_get (D := D) (ci := 2) (v := .int (S 0 3)) (C := RX3) (T := TX3) (N := 4) hx hb hts (fun w h => List.mem_cons_of_mem _ (List.mem_append_right _ h)) hown hK hP 0 rfl rfl 3 (by decide) (hts (.fieldLink RX3 20 "LeastNeed$Rows" "used" "I") (List.mem_of_getElem? (i := 1) rfl)) (fun _ h9 => h9) rfl dX3_dropFirst_1 ?_
  refine lv_if_ne (tgt := 8) hx hb dX3_dropFirst_4 (by decide) (fun c4 => ?_) (fun c4 => ?_)
  · have hd := dn_f c4 hd
    refine lv_aload_n hx hb dX3_dropFirst_8 rfl (lv_at hl 0 rfl) ?_
    refine va_get (D := D) (ci := 2) (v := .ref (a 1)) (C := RX3) (T := TX3) (N := 4) hx hb hts (fun w h => List.mem_cons_of_mem _ (List.mem_append_right _ h)) hown hK hP 0 rfl rfl 2 (by decide) (hts (.fieldLink RX3 16 "LeastNeed$Rows" "cells" "[I") (List.mem_of_getElem? (i := 2) rfl)) (fun _ h9 => h9) rfl dX3_dropFirst_9 ?_
    refine lv_aload_n hx hb dX3_dropFirst_12 rfl (lv_at hl 0 rfl) ?_
    refine va_get (D := D) (ci := 2) (v := .int (S 0 0)) (C := RX3) (T := TX3) (N := 4) hx hb hts (fun w h => List.mem_cons_of_mem _ (List.mem_append_right _ h)) hown hK hP 0 rfl rfl 0 (by decide) (hts (.fieldLink RX3 7 "LeastNeed$Rows" "width" "I") (List.mem_of_getElem? (i := 3) rfl)) (fun _ h9 => h9) rfl dX3_dropFirst_13 ?_
    refine lv_aload_n hx hb dX3_dropFirst_16 rfl (lv_at hl 0 rfl) ?_
    refine va_get (D := D) (ci := 2) (v := .ref (a 1)) (C := RX3) (T := TX3) (N := 4) hx hb hts (fun w h => List.mem_cons_of_mem _ (List.mem_append_right _ h)) hown hK hP 0 rfl rfl 2 (by decide) (hts (.fieldLink RX3 16 "LeastNeed$Rows" "cells" "[I") (List.mem_of_getElem? (i := 2) rfl)) (fun _ h9 => h9) rfl dX3_dropFirst_17 ?_
    refine lv_iconst (v := (0 : Int32)) hx hb dX3_dropFirst_20 (by decide) ?_
    refine lv_aload_n hx hb dX3_dropFirst_21 rfl (lv_at hl 0 rfl) ?_
    refine va_get (D := D) (ci := 2) (v := .ref (a 1)) (C := RX3) (T := TX3) (N := 4) hx hb hts (fun w h => List.mem_cons_of_mem _ (List.mem_append_right _ h)) hown hK hP 0 rfl rfl 2 (by decide) (hts (.fieldLink RX3 16 "LeastNeed$Rows" "cells" "[I") (List.mem_of_getElem? (i := 2) rfl)) (fun _ h9 => h9) rfl dX3_dropFirst_22 ?_
    refine va_alen (D := D) (v := Int32.ofNat N) hx hb hK hP 1 1 rfl rfl rfl dX3_dropFirst_25 ?_
    refine lv_aload_n hx hb dX3_dropFirst_26 rfl (lv_at hl 0 rfl) ?_
    refine va_get (D := D) (ci := 2) (v := .int (S 0 0)) (C := RX3) (T := TX3) (N := 4) hx hb hts (fun w h => List.mem_cons_of_mem _ (List.mem_append_right _ h)) hown hK hP 0 rfl rfl 0 (by decide) (hts (.fieldLink RX3 7 "LeastNeed$Rows" "width" "I") (List.mem_of_getElem? (i := 3) rfl)) (fun _ h9 => h9) rfl dX3_dropFirst_27 ?_
    refine lv_isub hx hb dX3_dropFirst_30 ?_
    obtain ⟨hc31, hd⟩ := dn_n hd
    refine k_cpi (D := D) hx hb (hml.trans hl.1.symm) hown (hts (.methodLink RX3 23 arraycopyName) (List.mem_of_getElem? (i := 4) rfl)) (hts (.native arraycopyName) (List.mem_of_getElem? (i := 5) rfl)) (hts (.static arraycopyName) (List.mem_of_getElem? (i := 6) rfl)) (hts (.initialized "java/lang/System") (List.mem_of_getElem? (i := 7) rfl)) hK hP hD hS 1 1 1 1 rfl rfl rfl rfl hc31 (Nat.le_of_ble_eq_true rfl) (Nat.le_of_ble_eq_true rfl) dX3_dropFirst_31 (fun H locs hP hD hS => ?_)
    have hP : va_P D vwCl (wX3 cs N a (k_r S 1 (va_cpy (S 1) (S 1) (S 0 0).toNatClampNeg (0 : Int32).toNatClampNeg ((Int32.ofNat N) - (S 0 0)).toNatClampNeg))) H := hP
    have hD : va_D A (wX3 cs N a (k_r S 1 (va_cpy (S 1) (S 1) (S 0 0).toNatClampNeg (0 : Int32).toNatClampNeg ((Int32.ofNat N) - (S 0 0)).toNatClampNeg))) := hD
    refine lv_aload_n hx hb dX3_dropFirst_34 rfl (lv_at hl 0 rfl) ?_
    refine lv_dup hx hb dX3_dropFirst_35 rfl ?_
    refine va_get (D := D) (ci := 2) (v := .int ((k_r S 1 (va_cpy (S 1) (S 1) (S 0 0).toNatClampNeg (0 : Int32).toNatClampNeg ((Int32.ofNat N) - (S 0 0)).toNatClampNeg)) 0 3)) (C := RX3) (T := TX3) (N := 4) hx hb hts (fun w h => List.mem_cons_of_mem _ (List.mem_append_right _ h)) hown hK hP 0 rfl rfl 3 (by decide) (hts (.fieldLink RX3 20 "LeastNeed$Rows" "used" "I") (List.mem_of_getElem? (i := 1) rfl)) (fun _ h9 => h9) rfl dX3_dropFirst_36 ?_
    refine lv_iconst (v := (1 : Int32)) hx hb dX3_dropFirst_39 (by decide) ?_
    refine lv_isub hx hb dX3_dropFirst_40 ?_
    refine va_put (D := D) (ci := 2) (v := .int (((k_r S 1 (va_cpy (S 1) (S 1) (S 0 0).toNatClampNeg (0 : Int32).toNatClampNeg ((Int32.ofNat N) - (S 0 0)).toNatClampNeg)) 0 3) - (1 : Int32))) (ty := .int) (C := RX3) (T := TX3) (N := 4) hx hb hts (fun w h => List.mem_cons_of_mem _ (List.mem_append_right _ h)) tyX3 tyX3_ok nmX3 hown hK hP hD hS 0 rfl rfl 3 (by decide) (hts (.fieldLink RX3 20 "LeastNeed$Rows" "used" "I") (List.mem_of_getElem? (i := 1) rfl)) (fun _ h9 => h9) rfl (by decide +kernel) rfl rfl (Nat.le_of_ble_eq_true rfl) dX3_dropFirst_41 (fun H locs hP hD hS => ?_)
    have hP : va_P D vwCl (wX3 cs N a (k_w (k_r S 1 (va_cpy (S 1) (S 1) (S 0 0).toNatClampNeg (0 : Int32).toNatClampNeg ((Int32.ofNat N) - (S 0 0)).toNatClampNeg)) 0 3 (((k_r S 1 (va_cpy (S 1) (S 1) (S 0 0).toNatClampNeg (0 : Int32).toNatClampNeg ((Int32.ofNat N) - (S 0 0)).toNatClampNeg)) 0 3) - (1 : Int32)))) H := hP
    have hD : va_D A (wX3 cs N a (k_w (k_r S 1 (va_cpy (S 1) (S 1) (S 0 0).toNatClampNeg (0 : Int32).toNatClampNeg ((Int32.ofNat N) - (S 0 0)).toNatClampNeg)) 0 3 (((k_r S 1 (va_cpy (S 1) (S 1) (S 0 0).toNatClampNeg (0 : Int32).toNatClampNeg ((Int32.ofNat N) - (S 0 0)).toNatClampNeg)) 0 3) - (1 : Int32)))) := hD
    have e1 := dn_s1 hd
    exact k_vret hx hb hr hQ hAe (by rw [e1]) hP hS hlocks dX3_dropFirst_44
  · have hd := dn_t c4 hd
    have e1 := dn_s1 hd
    exact k_vret hx hb hr hQ hAe (by rw [e1]) hP hS hlocks dX3_dropFirst_7
/-- LeastNeed.copyRow([I[I)V -/
set_option maxRecDepth 20000 in
def nX6_copyRow (N : Nat) (N2 : Nat) (S : Nat → Nat → Int32) (T : Nat → Nat → Int32) : Option ((Nat → Nat → Int32)) := if k_cpok (0 : Int32) (0 : Int32) (if (Int32.ofNat N2) < (Int32.ofNat N) then (Int32.ofNat N2) else (Int32.ofNat N)) N N2 = false then none else some (k_r T 0 (va_cpy (S 0) (T 0) (0 : Int32).toNatClampNeg (0 : Int32).toNatClampNeg (if (Int32.ofNat N2) < (Int32.ofNat N) then (Int32.ofNat N2) else (Int32.ofNat N)).toNatClampNeg))
set_option maxHeartbeats 4000000 in
set_option maxRecDepth 100000 in
theorem mX6_copyRow (l : Launch) (D : va_G) (cs : Nat → ClassId) (a : Nat → Nat) (b : Nat → Nat) (N : Nat) (N2 : Nat) (S : Nat → Nat → Int32) (T : Nat → Nat → Int32) (T9 : (Nat → Nat → Int32)) (hd : nX6_copyRow N N2 S T = some T9) : ∀ sz : Nat, Met l yX6_copyRow wsX6_copyRow ({ frames := 1, cells := 0, slots := 0, locals := 40 }) (k_Pc D cs [.ref (a 0), .ref (b 0)] (wAI cs N a S ++ wAI cs N2 b T) sz) (k_Qv D (wAI cs N a S ++ wAI cs N2 b T) (wAI cs N a S ++ wAI cs N2 b T9) sz) 0 0 (va_A (wAI cs N a S ++ wAI cs N2 b T) sz) := by
  intro sz
  refine Met.ofW (cc := cX6_copyRow) (maxL := 2) (ret := none) (by decide) rfl ?_
  intro p e s m args below meth c s₁ B hml hv
  obtain ⟨rfl, hsz, hP, hK, hD0, hNn⟩ := hv
  have hx := B.exec
  have hb := B.bytes
  have hr := B.returns
  have hts := atoms_spec (ws := wsX6_copyRow) B.pre
  have hown : s.vm.findClass RX6 = some m.cls := findClass_of_methodNamed B.named
  have hlocks := B.notSynchronized
  subst hsz
  obtain ⟨A, hAe⟩ : ∃ A : Nat → Prop, A = va_A (wAI cs N a S ++ wAI cs N2 b T) s.heap.size := ⟨_, rfl⟩
  have hD : va_D A (wAI cs N a S ++ wAI cs N2 b T) := by rw [hAe]; exact hD0.self
  have hA : ∀ q : Nat, s.heap.size ≤ q → A q := fun q h => by rw [hAe]; exact Or.inr h
  have hS : va_S A s.heap s.heap [] := va_S.rf
  have hDA : ∀ (S : Nat → Nat → Int32) (T : Nat → Nat → Int32), va_D A (wAI cs N a S ++ wAI cs N2 b T) := fun S T => k_DA hD rfl
  have hl := lv_entry ([.ref (a 0), .ref (b 0)]) (n := 2) (Nat.le_of_ble_eq_true rfl)
  rw [lg_entry_eq]
  generalize (lg_sl ([.ref (a 0), .ref (b 0)]) ++ List.replicate (2 - (lg_sl ([.ref (a 0), .ref (b 0)])).length) Slot.unset).toArray = ls at hl ⊢
  have hl : lv_has ls 2 [(0, .ref (a 0)), (1, .ref (b 0))] := hl
  obtain ⟨Q, hQ⟩ : ∃ Q, Q = MQ below (k_Qv D (wAI cs N a S ++ wAI cs N2 b T) (wAI cs N a S ++ wAI cs N2 b T9) s.heap.size) ([.ref (a 0), .ref (b 0)] : List Value).toArray s 0 0 (va_A (wAI cs N a S ++ wAI cs N2 b T) s.heap.size) := ⟨_, rfl⟩
  rw [← hQ]
  unfold nX6_copyRow at hd
  refine lv_aload_n hx hb dX6_copyRow_0 rfl (lv_at hl 0 rfl) ?_
  refine lv_iconst (v := (0 : Int32)) hx hb dX6_copyRow_1 (by decide) ?_
  refine lv_aload_n hx hb dX6_copyRow_2 rfl (lv_at hl 1 rfl) ?_
  refine lv_iconst (v := (0 : Int32)) hx hb dX6_copyRow_3 (by decide) ?_
  refine lv_aload_n hx hb dX6_copyRow_4 rfl (lv_at hl 0 rfl) ?_
  refine va_alen (D := D) (v := Int32.ofNat N) hx hb hK hP 0 1 rfl rfl rfl dX6_copyRow_5 ?_
  refine lv_aload_n hx hb dX6_copyRow_6 rfl (lv_at hl 1 rfl) ?_
  refine va_alen (D := D) (v := Int32.ofNat N2) hx hb hK hP 1 1 rfl rfl rfl dX6_copyRow_7 ?_
  refine va_mmin hx hb (hml.trans hl.1.symm) hown (hts (.methodLink RX6 284 Lib.Math.min.name) (List.mem_of_getElem? (i := 1) rfl)) (hts (.static Lib.Math.min.name) (List.mem_of_getElem? (i := 2) rfl)) (hts (.initialized "java/lang/Math") (List.mem_of_getElem? (i := 3) rfl)) (hts (.code Lib.Math.min.name Lib.Math.min.code 2 (some .int)) (List.mem_of_getElem? (i := 4) rfl)) (Nat.le_of_ble_eq_true rfl) (Nat.le_of_ble_eq_true rfl) (Nat.le_of_ble_eq_true rfl) (Nat.le_of_ble_eq_true rfl) dX6_copyRow_8 ?_
  obtain ⟨hc11, hd⟩ := dn_n hd
  refine k_cpi (D := D) hx hb (hml.trans hl.1.symm) hown (hts (.methodLink RX6 289 arraycopyName) (List.mem_of_getElem? (i := 5) rfl)) (hts (.native arraycopyName) (List.mem_of_getElem? (i := 6) rfl)) (hts (.static arraycopyName) (List.mem_of_getElem? (i := 7) rfl)) (hts (.initialized "java/lang/System") (List.mem_of_getElem? (i := 8) rfl)) hK hP hD hS 0 1 1 1 rfl rfl rfl rfl hc11 (Nat.le_of_ble_eq_true rfl) (Nat.le_of_ble_eq_true rfl) dX6_copyRow_11 (fun H locs hP hD hS => ?_)
  have hP : va_P D vwCl (wAI cs N a S ++ wAI cs N2 b (k_r T 0 (va_cpy (S 0) (T 0) (0 : Int32).toNatClampNeg (0 : Int32).toNatClampNeg (if (Int32.ofNat N2) < (Int32.ofNat N) then (Int32.ofNat N2) else (Int32.ofNat N)).toNatClampNeg))) H := hP
  have hD : va_D A (wAI cs N a S ++ wAI cs N2 b (k_r T 0 (va_cpy (S 0) (T 0) (0 : Int32).toNatClampNeg (0 : Int32).toNatClampNeg (if (Int32.ofNat N2) < (Int32.ofNat N) then (Int32.ofNat N2) else (Int32.ofNat N)).toNatClampNeg))) := hD
  have e1 := dn_s1 hd
  exact k_vret hx hb hr hQ hAe (by rw [e1]) hP hS hlocks dX6_copyRow_14
/-- LeastNeed$Rows.copyOf(LLeastNeed$Rows;)V -/
set_option maxRecDepth 20000 in
def nX3_copyOf (N : Nat) (N2 : Nat) (S : Nat → Nat → Int32) (T : Nat → Nat → Int32) : Option ((Nat → Nat → Int32)) := k_b1 (nX6_copyRow N2 N (k_wi T 1) (k_wi (k_w S 0 3 (T 0 3)) 1)) (fun T16 => some (k_sp (k_w S 0 3 (T 0 3)) 1 1 T16))
set_option maxHeartbeats 4000000 in
set_option maxRecDepth 100000 in
theorem mX3_copyOf (l : Launch) (D : va_G) (cs : Nat → ClassId) (a : Nat → Nat) (b : Nat → Nat) (N : Nat) (N2 : Nat) (S : Nat → Nat → Int32) (T : Nat → Nat → Int32) (S9 : (Nat → Nat → Int32)) (hd : nX3_copyOf N N2 S T = some S9) : ∀ sz : Nat, Met l yX3_copyOf wsX3_copyOf ({ frames := 2, cells := 0, slots := 0, locals := 61 }) (k_Pc D cs [.ref (a 0), .ref (b 0)] (wX3 cs N a S ++ wX3 cs N2 b T) sz) (k_Qv D (wX3 cs N a S ++ wX3 cs N2 b T) (wX3 cs N a S9 ++ wX3 cs N2 b T) sz) 0 0 (va_A (wX3 cs N a S ++ wX3 cs N2 b T) sz) := by
  intro sz
  refine Met.ofW (cc := cX3_copyOf) (maxL := 2) (ret := none) (by decide) rfl ?_
  intro p e s m args below meth c s₁ B hml hv
  obtain ⟨rfl, hsz, hP, hK, hD0, hNn⟩ := hv
  have hx := B.exec
  have hb := B.bytes
  have hr := B.returns
  have hts := atoms_spec (ws := wsX3_copyOf) B.pre
  have hown : s.vm.findClass RX3 = some m.cls := findClass_of_methodNamed B.named
  have hlocks := B.notSynchronized
  subst hsz
  obtain ⟨A, hAe⟩ : ∃ A : Nat → Prop, A = va_A (wX3 cs N a S ++ wX3 cs N2 b T) s.heap.size := ⟨_, rfl⟩
  have hD : va_D A (wX3 cs N a S ++ wX3 cs N2 b T) := by rw [hAe]; exact hD0.self
  have hA : ∀ q : Nat, s.heap.size ≤ q → A q := fun q h => by rw [hAe]; exact Or.inr h
  have hS : va_S A s.heap s.heap [] := va_S.rf
  have hDA : ∀ (S : Nat → Nat → Int32) (T : Nat → Nat → Int32), va_D A (wX3 cs N a S ++ wX3 cs N2 b T) := fun S T => k_DA hD rfl
  have hl := lv_entry ([.ref (a 0), .ref (b 0)]) (n := 2) (Nat.le_of_ble_eq_true rfl)
  rw [lg_entry_eq]
  generalize (lg_sl ([.ref (a 0), .ref (b 0)]) ++ List.replicate (2 - (lg_sl ([.ref (a 0), .ref (b 0)])).length) Slot.unset).toArray = ls at hl ⊢
  have hl : lv_has ls 2 [(0, .ref (a 0)), (1, .ref (b 0))] := hl
  obtain ⟨Q, hQ⟩ : ∃ Q, Q = MQ below (k_Qv D (wX3 cs N a S ++ wX3 cs N2 b T) (wX3 cs N a S9 ++ wX3 cs N2 b T) s.heap.size) ([.ref (a 0), .ref (b 0)] : List Value).toArray s 0 0 (va_A (wX3 cs N a S ++ wX3 cs N2 b T) s.heap.size) := ⟨_, rfl⟩
  rw [← hQ]
  unfold nX3_copyOf at hd
  refine lv_aload_n hx hb dX3_copyOf_0 rfl (lv_at hl 0 rfl) ?_
  refine lv_aload_n hx hb dX3_copyOf_1 rfl (lv_at hl 1 rfl) ?_
  refine va_get (D := D) (ci := 2) (v := .int (T 0 3)) (C := RX3) (T := TX3) (N := 4) hx hb hts (fun w h => List.mem_cons_of_mem _ (List.mem_append_right _ h)) hown hK hP 2 rfl rfl 3 (by decide) (hts (.fieldLink RX3 20 "LeastNeed$Rows" "used" "I") (List.mem_of_getElem? (i := 1) rfl)) (fun _ h9 => h9) rfl dX3_copyOf_2 ?_
  refine va_put (D := D) (ci := 2) (v := .int (T 0 3)) (ty := .int) (C := RX3) (T := TX3) (N := 4) hx hb hts (fun w h => List.mem_cons_of_mem _ (List.mem_append_right _ h)) tyX3 tyX3_ok nmX3 hown hK hP hD hS 0 rfl rfl 3 (by decide) (hts (.fieldLink RX3 20 "LeastNeed$Rows" "used" "I") (List.mem_of_getElem? (i := 1) rfl)) (fun _ h9 => h9) rfl (by decide +kernel) rfl rfl (Nat.le_of_ble_eq_true rfl) dX3_copyOf_5 (fun H locs hP hD hS => ?_)
  have hP : va_P D vwCl (wX3 cs N a (k_w S 0 3 (T 0 3)) ++ wX3 cs N2 b T) H := hP
  have hD : va_D A (wX3 cs N a (k_w S 0 3 (T 0 3)) ++ wX3 cs N2 b T) := hD
  refine lv_aload_n hx hb dX3_copyOf_8 rfl (lv_at hl 1 rfl) ?_
  refine va_get (D := D) (ci := 2) (v := .ref (b 1)) (C := RX3) (T := TX3) (N := 4) hx hb hts (fun w h => List.mem_cons_of_mem _ (List.mem_append_right _ h)) hown hK hP 2 rfl rfl 2 (by decide) (hts (.fieldLink RX3 16 "LeastNeed$Rows" "cells" "[I") (List.mem_of_getElem? (i := 2) rfl)) (fun _ h9 => h9) rfl dX3_copyOf_9 ?_
  refine lv_aload_n hx hb dX3_copyOf_12 rfl (lv_at hl 0 rfl) ?_
  refine va_get (D := D) (ci := 2) (v := .ref (a 1)) (C := RX3) (T := TX3) (N := 4) hx hb hts (fun w h => List.mem_cons_of_mem _ (List.mem_append_right _ h)) hown hK hP 0 rfl rfl 2 (by decide) (hts (.fieldLink RX3 16 "LeastNeed$Rows" "cells" "[I") (List.mem_of_getElem? (i := 2) rfl)) (fun _ h9 => h9) rfl dX3_copyOf_13 ?_
  obtain ⟨T16, hq16, hd⟩ := dn_b1 hd
  have hPc : va_P D vwCl (wAI cs N2 (k_wi b 1) (k_wi T 1) ++ wAI cs N (k_wi a 1) (k_wi (k_w S 0 3 (T 0 3)) 1)) H := k_sub hP [3, 1] rfl
  have hDc : va_D A (wAI cs N2 (k_wi b 1) (k_wi T 1) ++ wAI cs N (k_wi a 1) (k_wi (k_w S 0 3 (T 0 3)) 1)) := hD.sub [3, 1] (by decide) rfl
  have hF := k_self hDc hS hA
  refine k_run_v (va_runSN (As := [.ref (b 1), .ref (a 1)]) (rest := []) ⟨hx, hb, hml, hown, hts⟩ (mX6_copyRow l D cs (k_wi b 1) (k_wi a 1) N2 N (k_wi T 1) (k_wi (k_w S 0 3 (T 0 3)) 1) T16 hq16 _) ⟨va_cnB 2 hts gX3_copyOf_X6_copyRow_n29 rfl rfl rfl hNn.1 (hts (.initialized RX6) (List.mem_of_getElem? (i := 4) rfl)) (by decide +kernel) ⟨Nat.le_of_ble_eq_true rfl, Nat.le_of_ble_eq_true rfl⟩, (hts (.static yX6_copyRow) (List.mem_of_getElem? (i := 3) rfl)), trivial⟩ ⟨k_blind, k_pre hPc hK hNn hDc⟩ rfl rfl hl.1 rfl (lv_room (Nat.le_of_ble_eq_true rfl)) dX3_copyOf_16 ⟨Nat.le_of_ble_eq_true rfl, Nat.le_of_ble_eq_true rfl⟩) hS hF (fun H locs hP1 hk hS => ?_)
  have hP : va_P D vwCl (wX3 cs N a (k_sp (k_w S 0 3 (T 0 3)) 1 1 T16) ++ wX3 cs N2 b T) H := k_back hP hD [3, 1] [0, 2] [0, 3, 1, 2] rfl rfl (by decide) (by decide) hk hP1 rfl
  have hD := hDA (k_sp (k_w S 0 3 (T 0 3)) 1 1 T16) T
  have e1 := dn_s1 hd
  exact k_vret hx hb hr hQ hAe (by rw [e1]) hP hS hlocks dX3_copyOf_19
/-- LeastNeed$Rows.mix(J)J -/
set_option maxRecDepth 20000 in
def nX3_mix_l5 (N : Nat) (x3 : Int64) (x5 : Int32) (S : Nat → Nat → Int32) : Option ((Int64 × Int32) ⊕ (Int64)) := if ((S 0 3) * (S 0 0)) ≤ x5 then k_up (some x3) else if (Int32.ofNat N) ≤ x5 then k_up (some x3) else if x5 < 0 ∨ N ≤ x5.toNatClampNeg then none else some (.inl ((((31 : Int64) * x3) + ((S 1 x5.toNatClampNeg).toInt64)), (x5 + (1 : Int32))))
set_option maxRecDepth 20000 in
def nX3_mix (N : Nat) (S : Nat → Nat → Int32) (x1 : Int64) : Option (Int64) := k_it (fun st => nX3_mix_l5 N st.1 st.2 S) 1000 (x1, (0 : Int32))
set_option maxHeartbeats 4000000 in
set_option maxRecDepth 100000 in
theorem mX3_mix (l : Launch) (D : va_G) (cs : Nat → ClassId) (a : Nat → Nat) (N : Nat) (S : Nat → Nat → Int32) (x1 : Int64) (r9 : Int64) (hd : nX3_mix N S x1 = some r9) : ∀ sz : Nat, Met l yX3_mix wsX3_mix ({ frames := 0, cells := 0, slots := 0, locals := 0 }) (k_Pc D cs [.ref (a 0), .long x1] (wX3 cs N a S) sz) (k_Ql D r9 (wX3 cs N a S) (wX3 cs N a S) sz) 0 0 (va_A (wX3 cs N a S) sz) := by
  intro sz
  refine Met.ofW (cc := cX3_mix) (maxL := 6) (ret := (some .long)) (by decide) rfl ?_
  intro p e s m args below meth c s₁ B hml hv
  obtain ⟨rfl, hsz, hP, hK, hD0, hNn⟩ := hv
  have hx := B.exec
  have hb := B.bytes
  have hr := B.returns
  have hts := atoms_spec (ws := wsX3_mix) B.pre
  have hown : s.vm.findClass RX3 = some m.cls := findClass_of_methodNamed B.named
  have hlocks := B.notSynchronized
  subst hsz
  obtain ⟨A, hAe⟩ : ∃ A : Nat → Prop, A = va_A (wX3 cs N a S) s.heap.size := ⟨_, rfl⟩
  have hD : va_D A (wX3 cs N a S) := by rw [hAe]; exact hD0.self
  have hA : ∀ q : Nat, s.heap.size ≤ q → A q := fun q h => by rw [hAe]; exact Or.inr h
  have hS : va_S A s.heap s.heap [] := va_S.rf
  have hDA : ∀ (S : Nat → Nat → Int32), va_D A (wX3 cs N a S) := fun S => k_DA hD rfl
  have hl := lv_entry ([.ref (a 0), .long x1]) (n := 6) (Nat.le_of_ble_eq_true rfl)
  rw [lg_entry_eq]
  generalize (lg_sl ([.ref (a 0), .long x1]) ++ List.replicate (6 - (lg_sl ([.ref (a 0), .long x1])).length) Slot.unset).toArray = ls at hl ⊢
  have hl : lv_has ls 6 [(0, .ref (a 0)), (1, .long x1)] := hl
  obtain ⟨Q, hQ⟩ : ∃ Q, Q = MQ below (k_Ql D r9 (wX3 cs N a S) (wX3 cs N a S) s.heap.size) ([.ref (a 0), .long x1] : List Value).toArray s 0 0 (va_A (wX3 cs N a S) s.heap.size) := ⟨_, rfl⟩
  rw [← hQ]
  have Lo5 : ∀ (n1 : Nat) (N : Nat) (x3 : Int64) (x5 : Int32) (S : Nat → Nat → Int32) (H : Heap) (locs : List Loc) (ls : Array Slot), k_it (fun st => nX3_mix_l5 N st.1 st.2 S) n1 (x3, x5) = some r9 → lv_has ls 6 [(0, .ref (a 0)), (3, .long x3), (5, .int x5)] → va_P D vwCl (wX3 cs N a S) H → va_S A s.heap H locs → W p l e (headSpec wsX3_mix ({ frames := 0, cells := 0, slots := 0, locals := 0 })).room s m ([.ref (a 0), .long x1] : List Value).toArray below meth c H locs 0 0 Q (F0 m 5 ls []) := by
    intro n1
    induction n1 with
    | zero => intro N x3 x5 S H locs ls hd; exact dn_it0 hd
    | succ n1 ih1 =>
      intro N x3 x5 S H locs ls hd hl hP hS
      have hD := hDA S
      obtain ⟨y1, hd, hy1⟩ := dn_it hd
      have hd : nX3_mix_l5 N x3 x5 S = some y1 := hd
      unfold nX3_mix_l5 at hd
      refine lv_iload hx hb dX3_mix_5 (lv_at hl 2 rfl) ?_
      refine lv_aload_n hx hb dX3_mix_7 rfl (lv_at hl 0 rfl) ?_
      refine va_get (D := D) (ci := 2) (v := .int (S 0 3)) (C := RX3) (T := TX3) (N := 4) hx hb hts (fun w h => List.mem_cons_of_mem _ (List.mem_append_right _ h)) hown hK hP 0 rfl rfl 3 (by decide) (hts (.fieldLink RX3 20 "LeastNeed$Rows" "used" "I") (List.mem_of_getElem? (i := 1) rfl)) (fun _ h9 => h9) rfl dX3_mix_8 ?_
      refine lv_aload_n hx hb dX3_mix_11 rfl (lv_at hl 0 rfl) ?_
      refine va_get (D := D) (ci := 2) (v := .int (S 0 0)) (C := RX3) (T := TX3) (N := 4) hx hb hts (fun w h => List.mem_cons_of_mem _ (List.mem_append_right _ h)) hown hK hP 0 rfl rfl 0 (by decide) (hts (.fieldLink RX3 7 "LeastNeed$Rows" "width" "I") (List.mem_of_getElem? (i := 2) rfl)) (fun _ h9 => h9) rfl dX3_mix_12 ?_
      refine lv_imul hx hb dX3_mix_15 ?_
      refine lv_icmp_ge (tgt := 50) hx hb dX3_mix_16 (by decide) (fun c16 => ?_) (fun c16 => ?_)
      · have hd := dn_t c16 hd
        have hd := dn_up hd hy1
        refine lv_lload_n hx hb dX3_mix_50 rfl (lv_at hl 1 rfl) ?_
        have e1 := dn_s1 hd
        exact k_lret hx hb hr hQ hAe e1 rfl hP hS hlocks dX3_mix_51
      · have hd := dn_f c16 hd
        refine lv_iload hx hb dX3_mix_19 (lv_at hl 2 rfl) ?_
        refine lv_aload_n hx hb dX3_mix_21 rfl (lv_at hl 0 rfl) ?_
        refine va_get (D := D) (ci := 2) (v := .ref (a 1)) (C := RX3) (T := TX3) (N := 4) hx hb hts (fun w h => List.mem_cons_of_mem _ (List.mem_append_right _ h)) hown hK hP 0 rfl rfl 2 (by decide) (hts (.fieldLink RX3 16 "LeastNeed$Rows" "cells" "[I") (List.mem_of_getElem? (i := 3) rfl)) (fun _ h9 => h9) rfl dX3_mix_22 ?_
        refine va_alen (D := D) (v := Int32.ofNat N) hx hb hK hP 1 1 rfl rfl rfl dX3_mix_25 ?_
        refine lv_icmp_ge (tgt := 50) hx hb dX3_mix_26 (by decide) (fun c26 => ?_) (fun c26 => ?_)
        · have hd := dn_t c26 hd
          have hd := dn_up hd hy1
          refine lv_lload_n hx hb dX3_mix_50 rfl (lv_at hl 1 rfl) ?_
          have e1 := dn_s1 hd
          exact k_lret hx hb hr hQ hAe e1 rfl hP hS hlocks dX3_mix_51
        · have hd := dn_f c26 hd
          refine lv_ldc2 (v := (31 : Int64)) hx hb hown (hts (.constantLong RX3 35 (31)) (List.mem_of_getElem? (i := 4) rfl)) dX3_mix_29 ?_
          refine lv_lload_n hx hb dX3_mix_32 rfl (lv_at hl 1 rfl) ?_
          refine lv_lmul hx hb dX3_mix_33 ?_
          refine lv_aload_n hx hb dX3_mix_34 rfl (lv_at hl 0 rfl) ?_
          refine va_get (D := D) (ci := 2) (v := .ref (a 1)) (C := RX3) (T := TX3) (N := 4) hx hb hts (fun w h => List.mem_cons_of_mem _ (List.mem_append_right _ h)) hown hK hP 0 rfl rfl 2 (by decide) (hts (.fieldLink RX3 16 "LeastNeed$Rows" "cells" "[I") (List.mem_of_getElem? (i := 3) rfl)) (fun _ h9 => h9) rfl dX3_mix_35 ?_
          refine lv_iload hx hb dX3_mix_38 (lv_at hl 2 rfl) ?_
          obtain ⟨hi40, hd⟩ := dn_i hd
          refine k_iald (D := D) (k := x5.toNatClampNeg) (by rfl) hx hb hK hP 1 1 rfl rfl hi40 dX3_mix_40 ?_
          refine lv_i2l hx hb dX3_mix_41 rfl ?_
          refine lv_ladd hx hb dX3_mix_42 ?_
          refine lv_lstore_n (lv' := [(3, .long (((31 : Int64) * x3) + ((S 1 x5.toNatClampNeg).toInt64))), (0, .ref (a 0)), (5, .int x5)]) hx hb dX3_mix_43 rfl hl (by decide) rfl (fun ls hl => ?_)
          refine lv_iinc (v := x5 + (1 : Int32)) (lv' := [(5, .int (x5 + (1 : Int32))), (3, .long (((31 : Int64) * x3) + ((S 1 x5.toNatClampNeg).toInt64))), (0, .ref (a 0))]) hx hb dX3_mix_44 hl (k := 2) rfl rfl (by decide) rfl (fun ls hl => ?_)
          refine lv_goto (tgt := 5) hx hb dX3_mix_47 (by decide) ?_
          exact ih1 N (((31 : Int64) * x3) + ((S 1 x5.toNatClampNeg).toInt64)) (x5 + (1 : Int32)) S _ _ _ (dn_bk hd hy1) (lv_sub hl [2, 1, 0] rfl) hP hS
  unfold nX3_mix at hd
  refine lv_lload_n hx hb dX3_mix_0 rfl (lv_at hl 1 rfl) ?_
  refine lv_lstore_n (lv' := [(3, .long x1), (0, .ref (a 0)), (1, .long x1)]) hx hb dX3_mix_1 rfl hl (by decide) rfl (fun ls hl => ?_)
  refine lv_iconst (v := (0 : Int32)) hx hb dX3_mix_2 (by decide) ?_
  refine lv_istore (lv' := [(5, .int (0 : Int32)), (3, .long x1), (0, .ref (a 0)), (1, .long x1)]) hx hb dX3_mix_3 hl (by decide) rfl (fun ls hl => ?_)
  exact Lo5 1000 N x1 (0 : Int32) S _ _ _ hd (lv_sub hl [2, 1, 0] rfl) hP hS
/-- LeastNeed$ThingKinds.likeOnesLeaveIt(I)Z -/
set_option maxRecDepth 20000 in
def nX4_likeOnesLeaveIt (x0 : Int32) : Option (Int32) := if x0 = (4 : Int32) then some (0 : Int32) else some (1 : Int32)
set_option maxHeartbeats 4000000 in
set_option maxRecDepth 100000 in
theorem mX4_likeOnesLeaveIt (l : Launch) (D : va_G) (cs : Nat → ClassId) (x0 : Int32) (r9 : Int32) (hd : nX4_likeOnesLeaveIt x0 = some r9) : ∀ sz : Nat, Met l yX4_likeOnesLeaveIt wsX4_likeOnesLeaveIt ({ frames := 0, cells := 0, slots := 0, locals := 0 }) (k_Pc D cs [.int x0] ([] : va_W) sz) (k_Qi D r9 ([] : va_W) ([] : va_W) sz) 0 0 (va_A ([] : va_W) sz) := by
  intro sz
  refine Met.ofW (cc := cX4_likeOnesLeaveIt) (maxL := 1) (ret := (some .boolean)) (by decide) rfl ?_
  intro p e s m args below meth c s₁ B hml hv
  obtain ⟨rfl, hsz, hP, hK, hD0, hNn⟩ := hv
  have hx := B.exec
  have hb := B.bytes
  have hr := B.returns
  have hts := atoms_spec (ws := wsX4_likeOnesLeaveIt) B.pre
  have hown : s.vm.findClass RX4 = some m.cls := findClass_of_methodNamed B.named
  have hlocks := B.notSynchronized
  subst hsz
  obtain ⟨A, hAe⟩ : ∃ A : Nat → Prop, A = va_A ([] : va_W) s.heap.size := ⟨_, rfl⟩
  have hD : va_D A ([] : va_W) := by rw [hAe]; exact hD0.self
  have hA : ∀ q : Nat, s.heap.size ≤ q → A q := fun q h => by rw [hAe]; exact Or.inr h
  have hS : va_S A s.heap s.heap [] := va_S.rf
  have hl := lv_entry ([.int x0]) (n := 1) (Nat.le_of_ble_eq_true rfl)
  rw [lg_entry_eq]
  generalize (lg_sl ([.int x0]) ++ List.replicate (1 - (lg_sl ([.int x0])).length) Slot.unset).toArray = ls at hl ⊢
  have hl : lv_has ls 1 [(0, .int x0)] := hl
  obtain ⟨Q, hQ⟩ : ∃ Q, Q = MQ below (k_Qi D r9 ([] : va_W) ([] : va_W) s.heap.size) ([.int x0] : List Value).toArray s 0 0 (va_A ([] : va_W) s.heap.size) := ⟨_, rfl⟩
  rw [← hQ]
  unfold nX4_likeOnesLeaveIt at hd
  refine lv_iload_n hx hb dX4_likeOnesLeaveIt_0 rfl (lv_at hl 0 rfl) ?_
  refine lv_iconst (v := (4 : Int32)) hx hb dX4_likeOnesLeaveIt_1 (by decide) ?_
  refine lv_icmp_eq (tgt := 9) hx hb dX4_likeOnesLeaveIt_2 (by decide) (fun c2 => ?_) (fun c2 => ?_)
  · have hd := dn_t c2 hd
    refine lv_iconst (v := (0 : Int32)) hx hb dX4_likeOnesLeaveIt_9 (by decide) ?_
    have e1 := dn_s1 hd
    exact k_zret hx hb hr rfl hQ hAe e1 rfl hP hS hlocks dX4_likeOnesLeaveIt_10
  · have hd := dn_f c2 hd
    refine lv_iconst (v := (1 : Int32)) hx hb dX4_likeOnesLeaveIt_5 (by decide) ?_
    refine lv_goto (tgt := 10) hx hb dX4_likeOnesLeaveIt_6 (by decide) ?_
    have e1 := dn_s1 hd
    exact k_zret hx hb hr rfl hQ hAe e1 rfl hP hS hlocks dX4_likeOnesLeaveIt_10
/-- LeastNeed$PeopleKinds.shown(IIIII)I -/
set_option maxRecDepth 20000 in
def nX1_shown (x0 : Int32) (x1 : Int32) (x2 : Int32) (x3 : Int32) (x4 : Int32) : Option (Int32) := if x0 = (1 : Int32) then some ((x1 + x2) / (2 : Int32)) else if x0 = (2 : Int32) then some x1 else if x0 = (3 : Int32) then if (x4 - x4 / (2 : Int32) * (2 : Int32)) = (1 : Int32) then some ((x1 + x2) + (2 : Int32)) else some (x1 + x2) else if x0 = (4 : Int32) then if x3 = (2 : Int32) then some (0 : Int32) else some ((x1 + x2) / (2 : Int32)) else if x0 = (5 : Int32) then if x3 = (3 : Int32) then some x1 else some (0 : Int32) else some (x1 + x2)
set_option maxHeartbeats 4000000 in
set_option maxRecDepth 100000 in
theorem mX1_shown (l : Launch) (D : va_G) (cs : Nat → ClassId) (x0 : Int32) (x1 : Int32) (x2 : Int32) (x3 : Int32) (x4 : Int32) (r9 : Int32) (hd : nX1_shown x0 x1 x2 x3 x4 = some r9) : ∀ sz : Nat, Met l yX1_shown wsX1_shown ({ frames := 0, cells := 0, slots := 0, locals := 0 }) (k_Pc D cs [.int x0, .int x1, .int x2, .int x3, .int x4] ([] : va_W) sz) (k_Qi D r9 ([] : va_W) ([] : va_W) sz) 0 0 (va_A ([] : va_W) sz) := by
  intro sz
  refine Met.ofW (cc := cX1_shown) (maxL := 8) (ret := (some .int)) (by decide) rfl ?_
  intro p e s m args below meth c s₁ B hml hv
  obtain ⟨rfl, hsz, hP, hK, hD0, hNn⟩ := hv
  have hx := B.exec
  have hb := B.bytes
  have hr := B.returns
  have hts := atoms_spec (ws := wsX1_shown) B.pre
  have hown : s.vm.findClass RX1 = some m.cls := findClass_of_methodNamed B.named
  have hlocks := B.notSynchronized
  subst hsz
  obtain ⟨A, hAe⟩ : ∃ A : Nat → Prop, A = va_A ([] : va_W) s.heap.size := ⟨_, rfl⟩
  have hD : va_D A ([] : va_W) := by rw [hAe]; exact hD0.self
  have hA : ∀ q : Nat, s.heap.size ≤ q → A q := fun q h => by rw [hAe]; exact Or.inr h
  have hS : va_S A s.heap s.heap [] := va_S.rf
  have hl := lv_entry ([.int x0, .int x1, .int x2, .int x3, .int x4]) (n := 8) (Nat.le_of_ble_eq_true rfl)
  rw [lg_entry_eq]
  generalize (lg_sl ([.int x0, .int x1, .int x2, .int x3, .int x4]) ++ List.replicate (8 - (lg_sl ([.int x0, .int x1, .int x2, .int x3, .int x4])).length) Slot.unset).toArray = ls at hl ⊢
  have hl : lv_has ls 8 [(0, .int x0), (1, .int x1), (2, .int x2), (3, .int x3), (4, .int x4)] := hl
  obtain ⟨Q, hQ⟩ : ∃ Q, Q = MQ below (k_Qi D r9 ([] : va_W) ([] : va_W) s.heap.size) ([.int x0, .int x1, .int x2, .int x3, .int x4] : List Value).toArray s 0 0 (va_A ([] : va_W) s.heap.size) := ⟨_, rfl⟩
  rw [← hQ]
  unfold nX1_shown at hd
  refine lv_iload_n hx hb dX1_shown_0 rfl (lv_at hl 1 rfl) ?_
  refine lv_iload_n hx hb dX1_shown_1 rfl (lv_at hl 2 rfl) ?_
  refine lv_iadd hx hb dX1_shown_2 ?_
  refine lv_istore (lv' := [(5, .int (x1 + x2)), (0, .int x0), (1, .int x1), (2, .int x2), (3, .int x3), (4, .int x4)]) hx hb dX1_shown_3 hl (by decide) rfl (fun ls hl => ?_)
  refine lv_iload hx hb dX1_shown_5 (lv_at hl 0 rfl) ?_
  refine lv_iconst (v := (2 : Int32)) hx hb dX1_shown_7 (by decide) ?_
  refine lv_idiv hx hb dX1_shown_8 (by decide) ?_
  refine lv_istore (lv' := [(6, .int ((x1 + x2) / (2 : Int32))), (5, .int (x1 + x2)), (0, .int x0), (1, .int x1), (2, .int x2), (3, .int x3), (4, .int x4)]) hx hb dX1_shown_9 hl (by decide) rfl (fun ls hl => ?_)
  refine lv_iload_n hx hb dX1_shown_11 rfl (lv_at hl 3 rfl) ?_
  refine lv_istore (lv' := [(7, .int x1), (6, .int ((x1 + x2) / (2 : Int32))), (5, .int (x1 + x2)), (0, .int x0), (1, .int x1), (2, .int x2), (3, .int x3), (4, .int x4)]) hx hb dX1_shown_12 hl (by decide) rfl (fun ls hl => ?_)
  refine lv_iload_n hx hb dX1_shown_14 rfl (lv_at hl 3 rfl) ?_
  by_cases e15_1 : x0 = (1 : Int32)
  · have hd := dn_t e15_1 hd
    refine lv_tableIn (off := 33) (tgt := 48) hx hb dX1_shown_15 (by rw [e15_1]; decide) (by rw [e15_1]; decide) (by rw [e15_1]; rfl) (by decide) ?_
    refine lv_iload hx hb dX1_shown_48 (lv_at hl 1 rfl) ?_
    have e1 := dn_s1 hd
    exact k_iret hx hb hr hQ hAe e1 rfl hP hS hlocks dX1_shown_50
  · have hd := dn_f e15_1 hd
    by_cases e15_2 : x0 = (2 : Int32)
    · have hd := dn_t e15_2 hd
      refine lv_tableIn (off := 36) (tgt := 51) hx hb dX1_shown_15 (by rw [e15_2]; decide) (by rw [e15_2]; decide) (by rw [e15_2]; rfl) (by decide) ?_
      refine lv_iload hx hb dX1_shown_51 (lv_at hl 0 rfl) ?_
      have e1 := dn_s1 hd
      exact k_iret hx hb hr hQ hAe e1 rfl hP hS hlocks dX1_shown_53
    · have hd := dn_f e15_2 hd
      by_cases e15_3 : x0 = (3 : Int32)
      · have hd := dn_t e15_3 hd
        refine lv_tableIn (off := 39) (tgt := 54) hx hb dX1_shown_15 (by rw [e15_3]; decide) (by rw [e15_3]; decide) (by rw [e15_3]; rfl) (by decide) ?_
        refine lv_iload hx hb dX1_shown_54 (lv_at hl 7 rfl) ?_
        refine lv_iconst (v := (2 : Int32)) hx hb dX1_shown_56 (by decide) ?_
        refine lv_irem hx hb dX1_shown_57 (by decide) ?_
        refine lv_iconst (v := (1 : Int32)) hx hb dX1_shown_58 (by decide) ?_
        refine lv_icmp_ne (tgt := 69) hx hb dX1_shown_59 (by decide) (fun c59 => ?_) (fun c59 => ?_)
        · have hd := dn_f c59 hd
          refine lv_iload hx hb dX1_shown_69 (lv_at hl 2 rfl) ?_
          have e1 := dn_s1 hd
          exact k_iret hx hb hr hQ hAe e1 rfl hP hS hlocks dX1_shown_71
        · have hd := dn_t c59 hd
          refine lv_iload hx hb dX1_shown_62 (lv_at hl 2 rfl) ?_
          refine lv_iconst (v := (2 : Int32)) hx hb dX1_shown_64 (by decide) ?_
          refine lv_iadd hx hb dX1_shown_65 ?_
          refine lv_goto (tgt := 71) hx hb dX1_shown_66 (by decide) ?_
          have e1 := dn_s1 hd
          exact k_iret hx hb hr hQ hAe e1 rfl hP hS hlocks dX1_shown_71
      · have hd := dn_f e15_3 hd
        by_cases e15_4 : x0 = (4 : Int32)
        · have hd := dn_t e15_4 hd
          refine lv_tableIn (off := 57) (tgt := 72) hx hb dX1_shown_15 (by rw [e15_4]; decide) (by rw [e15_4]; decide) (by rw [e15_4]; rfl) (by decide) ?_
          refine lv_iload_n hx hb dX1_shown_72 rfl (lv_at hl 6 rfl) ?_
          refine lv_iconst (v := (2 : Int32)) hx hb dX1_shown_73 (by decide) ?_
          refine lv_icmp_ne (tgt := 81) hx hb dX1_shown_74 (by decide) (fun c74 => ?_) (fun c74 => ?_)
          · have hd := dn_f c74 hd
            refine lv_iload hx hb dX1_shown_81 (lv_at hl 1 rfl) ?_
            have e1 := dn_s1 hd
            exact k_iret hx hb hr hQ hAe e1 rfl hP hS hlocks dX1_shown_83
          · have hd := dn_t c74 hd
            refine lv_iconst (v := (0 : Int32)) hx hb dX1_shown_77 (by decide) ?_
            refine lv_goto (tgt := 83) hx hb dX1_shown_78 (by decide) ?_
            have e1 := dn_s1 hd
            exact k_iret hx hb hr hQ hAe e1 rfl hP hS hlocks dX1_shown_83
        · have hd := dn_f e15_4 hd
          by_cases e15_5 : x0 = (5 : Int32)
          · have hd := dn_t e15_5 hd
            refine lv_tableIn (off := 69) (tgt := 84) hx hb dX1_shown_15 (by rw [e15_5]; decide) (by rw [e15_5]; decide) (by rw [e15_5]; rfl) (by decide) ?_
            refine lv_iload_n hx hb dX1_shown_84 rfl (lv_at hl 6 rfl) ?_
            refine lv_iconst (v := (3 : Int32)) hx hb dX1_shown_85 (by decide) ?_
            refine lv_icmp_ne (tgt := 94) hx hb dX1_shown_86 (by decide) (fun c86 => ?_) (fun c86 => ?_)
            · have hd := dn_f c86 hd
              refine lv_iconst (v := (0 : Int32)) hx hb dX1_shown_94 (by decide) ?_
              have e1 := dn_s1 hd
              exact k_iret hx hb hr hQ hAe e1 rfl hP hS hlocks dX1_shown_95
            · have hd := dn_t c86 hd
              refine lv_iload hx hb dX1_shown_89 (lv_at hl 0 rfl) ?_
              refine lv_goto (tgt := 95) hx hb dX1_shown_91 (by decide) ?_
              have e1 := dn_s1 hd
              exact k_iret hx hb hr hQ hAe e1 rfl hP hS hlocks dX1_shown_95
          · have hd := dn_f e15_5 hd
            refine lv_tableOut (tgt := 96) hx hb dX1_shown_15 (by have q1 := lv_neT e15_1 (a := 1) (by decide); have q2 := lv_neT e15_2 (a := 2) (by decide); have q3 := lv_neT e15_3 (a := 3) (by decide); have q4 := lv_neT e15_4 (a := 4) (by decide); have q5 := lv_neT e15_5 (a := 5) (by decide); omega) (by decide) ?_
            refine lv_iload hx hb dX1_shown_96 (lv_at hl 2 rfl) ?_
            have e1 := dn_s1 hd
            exact k_iret hx hb hr hQ hAe e1 rfl hP hS hlocks dX1_shown_98
/-- LeastNeed$ThingKinds.counted(IIII)I -/
set_option maxRecDepth 20000 in
def nX4_counted_j11 (x0 : Int32) (x1 : Int32) (x2 : Int32) (x3 : Int32) (w0 : Int32) : Option (Int32) := if x0 = (1 : Int32) then some (x1 + x2) else if x0 = (2 : Int32) then if w0 = 0 then some x1 else some (-1 : Int32) else if x0 = (3 : Int32) then some ((40 : Int32) - x1) else if x0 = (4 : Int32) then some (x1 + x2) else if x0 = (5 : Int32) then if w0 = 0 then some (x1 + x3) else some (-1 : Int32) else some x1
set_option maxRecDepth 20000 in
def nX4_counted (x0 : Int32) (x1 : Int32) (x2 : Int32) (x3 : Int32) : Option (Int32) := if x3 ≤ (6 : Int32) then nX4_counted_j11 x0 x1 x2 x3 (0 : Int32) else nX4_counted_j11 x0 x1 x2 x3 (1 : Int32)
set_option maxHeartbeats 4000000 in
set_option maxRecDepth 100000 in
theorem mX4_counted (l : Launch) (D : va_G) (cs : Nat → ClassId) (x0 : Int32) (x1 : Int32) (x2 : Int32) (x3 : Int32) (r9 : Int32) (hd : nX4_counted x0 x1 x2 x3 = some r9) : ∀ sz : Nat, Met l yX4_counted wsX4_counted ({ frames := 0, cells := 0, slots := 0, locals := 0 }) (k_Pc D cs [.int x0, .int x1, .int x2, .int x3] ([] : va_W) sz) (k_Qi D r9 ([] : va_W) ([] : va_W) sz) 0 0 (va_A ([] : va_W) sz) := by
  intro sz
  refine Met.ofW (cc := cX4_counted) (maxL := 5) (ret := (some .int)) (by decide) rfl ?_
  intro p e s m args below meth c s₁ B hml hv
  obtain ⟨rfl, hsz, hP, hK, hD0, hNn⟩ := hv
  have hx := B.exec
  have hb := B.bytes
  have hr := B.returns
  have hts := atoms_spec (ws := wsX4_counted) B.pre
  have hown : s.vm.findClass RX4 = some m.cls := findClass_of_methodNamed B.named
  have hlocks := B.notSynchronized
  subst hsz
  obtain ⟨A, hAe⟩ : ∃ A : Nat → Prop, A = va_A ([] : va_W) s.heap.size := ⟨_, rfl⟩
  have hD : va_D A ([] : va_W) := by rw [hAe]; exact hD0.self
  have hA : ∀ q : Nat, s.heap.size ≤ q → A q := fun q h => by rw [hAe]; exact Or.inr h
  have hS : va_S A s.heap s.heap [] := va_S.rf
  have hl := lv_entry ([.int x0, .int x1, .int x2, .int x3]) (n := 5) (Nat.le_of_ble_eq_true rfl)
  rw [lg_entry_eq]
  generalize (lg_sl ([.int x0, .int x1, .int x2, .int x3]) ++ List.replicate (5 - (lg_sl ([.int x0, .int x1, .int x2, .int x3])).length) Slot.unset).toArray = ls at hl ⊢
  have hl : lv_has ls 5 [(0, .int x0), (1, .int x1), (2, .int x2), (3, .int x3)] := hl
  obtain ⟨Q, hQ⟩ : ∃ Q, Q = MQ below (k_Qi D r9 ([] : va_W) ([] : va_W) s.heap.size) ([.int x0, .int x1, .int x2, .int x3] : List Value).toArray s 0 0 (va_A ([] : va_W) s.heap.size) := ⟨_, rfl⟩
  rw [← hQ]
  have Jo11 : ∀ (x0 : Int32) (x1 : Int32) (x2 : Int32) (x3 : Int32) (w0 : Int32) (H : Heap) (locs : List Loc) (ls : Array Slot), nX4_counted_j11 x0 x1 x2 x3 w0 = some r9 → lv_has ls 5 [(0, .int x0), (1, .int x1), (2, .int x2), (3, .int x3)] → va_P D vwCl ([] : va_W) H → va_S A s.heap H locs → W p l e (headSpec wsX4_counted ({ frames := 0, cells := 0, slots := 0, locals := 0 })).room s m ([.int x0, .int x1, .int x2, .int x3] : List Value).toArray below meth c H locs 0 0 Q (F0 m 11 ls [.int w0]) := by
    intro x0 x1 x2 x3 w0 H locs ls hd hl hP hS
    unfold nX4_counted_j11 at hd
    refine lv_istore (lv' := [(4, .int w0), (0, .int x0), (1, .int x1), (2, .int x2), (3, .int x3)]) hx hb dX4_counted_11 hl (by decide) rfl (fun ls hl => ?_)
    refine lv_iload_n hx hb dX4_counted_13 rfl (lv_at hl 1 rfl) ?_
    by_cases e14_1 : x0 = (1 : Int32)
    · have hd := dn_t e14_1 hd
      refine lv_tableIn (off := 34) (tgt := 48) hx hb dX4_counted_14 (by rw [e14_1]; decide) (by rw [e14_1]; decide) (by rw [e14_1]; rfl) (by decide) ?_
      refine lv_iload_n hx hb dX4_counted_48 rfl (lv_at hl 2 rfl) ?_
      refine lv_iload_n hx hb dX4_counted_49 rfl (lv_at hl 3 rfl) ?_
      refine lv_iadd hx hb dX4_counted_50 ?_
      have e1 := dn_s1 hd
      exact k_iret hx hb hr hQ hAe e1 rfl hP hS hlocks dX4_counted_51
    · have hd := dn_f e14_1 hd
      by_cases e14_2 : x0 = (2 : Int32)
      · have hd := dn_t e14_2 hd
        refine lv_tableIn (off := 38) (tgt := 52) hx hb dX4_counted_14 (by rw [e14_2]; decide) (by rw [e14_2]; decide) (by rw [e14_2]; rfl) (by decide) ?_
        refine lv_iload hx hb dX4_counted_52 (lv_at hl 0 rfl) ?_
        refine lv_if_eq (tgt := 61) hx hb dX4_counted_54 (by decide) (fun c54 => ?_) (fun c54 => ?_)
        · have hd := dn_t c54 hd
          refine lv_iload_n hx hb dX4_counted_61 rfl (lv_at hl 2 rfl) ?_
          have e1 := dn_s1 hd
          exact k_iret hx hb hr hQ hAe e1 rfl hP hS hlocks dX4_counted_62
        · have hd := dn_f c54 hd
          refine lv_iconst (v := (-1 : Int32)) hx hb dX4_counted_57 (by decide) ?_
          refine lv_goto (tgt := 62) hx hb dX4_counted_58 (by decide) ?_
          have e1 := dn_s1 hd
          exact k_iret hx hb hr hQ hAe e1 rfl hP hS hlocks dX4_counted_62
      · have hd := dn_f e14_2 hd
        by_cases e14_3 : x0 = (3 : Int32)
        · have hd := dn_t e14_3 hd
          refine lv_tableIn (off := 49) (tgt := 63) hx hb dX4_counted_14 (by rw [e14_3]; decide) (by rw [e14_3]; decide) (by rw [e14_3]; rfl) (by decide) ?_
          refine lv_bipush (v := (40 : Int32)) hx hb dX4_counted_63 (by decide) ?_
          refine lv_iload_n hx hb dX4_counted_65 rfl (lv_at hl 2 rfl) ?_
          refine lv_isub hx hb dX4_counted_66 ?_
          have e1 := dn_s1 hd
          exact k_iret hx hb hr hQ hAe e1 rfl hP hS hlocks dX4_counted_67
        · have hd := dn_f e14_3 hd
          by_cases e14_4 : x0 = (4 : Int32)
          · have hd := dn_t e14_4 hd
            refine lv_tableIn (off := 34) (tgt := 48) hx hb dX4_counted_14 (by rw [e14_4]; decide) (by rw [e14_4]; decide) (by rw [e14_4]; rfl) (by decide) ?_
            refine lv_iload_n hx hb dX4_counted_48 rfl (lv_at hl 2 rfl) ?_
            refine lv_iload_n hx hb dX4_counted_49 rfl (lv_at hl 3 rfl) ?_
            refine lv_iadd hx hb dX4_counted_50 ?_
            have e1 := dn_s1 hd
            exact k_iret hx hb hr hQ hAe e1 rfl hP hS hlocks dX4_counted_51
          · have hd := dn_f e14_4 hd
            by_cases e14_5 : x0 = (5 : Int32)
            · have hd := dn_t e14_5 hd
              refine lv_tableIn (off := 54) (tgt := 68) hx hb dX4_counted_14 (by rw [e14_5]; decide) (by rw [e14_5]; decide) (by rw [e14_5]; rfl) (by decide) ?_
              refine lv_iload hx hb dX4_counted_68 (lv_at hl 0 rfl) ?_
              refine lv_if_eq (tgt := 77) hx hb dX4_counted_70 (by decide) (fun c70 => ?_) (fun c70 => ?_)
              · have hd := dn_t c70 hd
                refine lv_iload_n hx hb dX4_counted_77 rfl (lv_at hl 2 rfl) ?_
                refine lv_iload_n hx hb dX4_counted_78 rfl (lv_at hl 4 rfl) ?_
                refine lv_iadd hx hb dX4_counted_79 ?_
                have e1 := dn_s1 hd
                exact k_iret hx hb hr hQ hAe e1 rfl hP hS hlocks dX4_counted_80
              · have hd := dn_f c70 hd
                refine lv_iconst (v := (-1 : Int32)) hx hb dX4_counted_73 (by decide) ?_
                refine lv_goto (tgt := 80) hx hb dX4_counted_74 (by decide) ?_
                have e1 := dn_s1 hd
                exact k_iret hx hb hr hQ hAe e1 rfl hP hS hlocks dX4_counted_80
            · have hd := dn_f e14_5 hd
              refine lv_tableOut (tgt := 81) hx hb dX4_counted_14 (by have q1 := lv_neT e14_1 (a := 1) (by decide); have q2 := lv_neT e14_2 (a := 2) (by decide); have q3 := lv_neT e14_3 (a := 3) (by decide); have q4 := lv_neT e14_4 (a := 4) (by decide); have q5 := lv_neT e14_5 (a := 5) (by decide); omega) (by decide) ?_
              refine lv_iload_n hx hb dX4_counted_81 rfl (lv_at hl 2 rfl) ?_
              have e1 := dn_s1 hd
              exact k_iret hx hb hr hQ hAe e1 rfl hP hS hlocks dX4_counted_82
  unfold nX4_counted at hd
  refine lv_iload_n hx hb dX4_counted_0 rfl (lv_at hl 3 rfl) ?_
  refine lv_bipush (v := (6 : Int32)) hx hb dX4_counted_1 (by decide) ?_
  refine lv_icmp_le (tgt := 10) hx hb dX4_counted_3 (by decide) (fun c3 => ?_) (fun c3 => ?_)
  · have hd := dn_t c3 hd
    refine lv_iconst (v := (0 : Int32)) hx hb dX4_counted_10 (by decide) ?_
    exact Jo11 x0 x1 x2 x3 (0 : Int32) _ _ _ hd (lv_sub hl [0, 1, 2, 3] rfl) hP hS
  · have hd := dn_f c3 hd
    refine lv_iconst (v := (1 : Int32)) hx hb dX4_counted_6 (by decide) ?_
    refine lv_goto (tgt := 11) hx hb dX4_counted_7 (by decide) ?_
    exact Jo11 x0 x1 x2 x3 (1 : Int32) _ _ _ hd (lv_sub hl [0, 1, 2, 3] rfl) hP hS
/-- LeastNeed$Valley.counted(IIIII)I -/
set_option maxRecDepth 20000 in
def nX5_counted (S : Nat → Nat → Int32) (x1 : Int32) (x2 : Int32) (x3 : Int32) (x4 : Int32) (x5 : Int32) : Option (Int32) := if x4 = x3 then some (-1 : Int32) else if x4 < 0 ∨ 7 ≤ x4.toNatClampNeg then none else if (((4 : Int32) * x4) + x2) < 0 ∨ 28 ≤ (((4 : Int32) * x4) + x2).toNatClampNeg then none else if x4 < 0 ∨ 7 ≤ x4.toNatClampNeg then none else k_b1 (nX1_shown (S 1 x4.toNatClampNeg) (S 4 (((4 : Int32) * x4) + x2).toNatClampNeg) (S 3 x4.toNatClampNeg) x2 x5) (fun r43 => if x4 < 0 ∨ 7 ≤ x4.toNatClampNeg then none else if (((4 : Int32) * x4) + ((x2 + (1 : Int32)) - (x2 + (1 : Int32)) / (4 : Int32) * (4 : Int32))) < 0 ∨ 28 ≤ (((4 : Int32) * x4) + ((x2 + (1 : Int32)) - (x2 + (1 : Int32)) / (4 : Int32) * (4 : Int32))).toNatClampNeg then none else if x4 < 0 ∨ 7 ≤ x4.toNatClampNeg then none else k_b1 (nX1_shown (S 1 x4.toNatClampNeg) (S 4 (((4 : Int32) * x4) + ((x2 + (1 : Int32)) - (x2 + (1 : Int32)) / (4 : Int32) * (4 : Int32))).toNatClampNeg) (S 3 x4.toNatClampNeg) ((x2 + (1 : Int32)) - (x2 + (1 : Int32)) / (4 : Int32) * (4 : Int32)) x5) (fun r78 => if x4 < 0 ∨ 7 ≤ x4.toNatClampNeg then none else if x3 < 0 ∨ 7 ≤ x3.toNatClampNeg then none else k_b1 (nX4_counted x1 r43 r78 (if 0 ≤ ((S 2 x4.toNatClampNeg) - (S 2 x3.toNatClampNeg)) then ((S 2 x4.toNatClampNeg) - (S 2 x3.toNatClampNeg)) else 0 - ((S 2 x4.toNatClampNeg) - (S 2 x3.toNatClampNeg)))) (fun r105 => some r105)))
set_option maxHeartbeats 4000000 in
set_option maxRecDepth 100000 in
theorem mX5_counted (l : Launch) (D : va_G) (cs : Nat → ClassId) (a : Nat → Nat) (S : Nat → Nat → Int32) (x1 : Int32) (x2 : Int32) (x3 : Int32) (x4 : Int32) (x5 : Int32) (r9 : Int32) (hd : nX5_counted S x1 x2 x3 x4 x5 = some r9) : ∀ sz : Nat, Met l yX5_counted wsX5_counted ({ frames := 1, cells := 0, slots := 0, locals := 27 }) (k_Pc D cs [.ref (a 0), .int x1, .int x2, .int x3, .int x4, .int x5] (wX5 cs a S) sz) (k_Qi D r9 (wX5 cs a S) (wX5 cs a S) sz) 0 0 (va_A (wX5 cs a S) sz) := by
  intro sz
  refine Met.ofW (cc := cX5_counted) (maxL := 9) (ret := (some .int)) (by decide) rfl ?_
  intro p e s m args below meth c s₁ B hml hv
  obtain ⟨rfl, hsz, hP, hK, hD0, hNn⟩ := hv
  have hx := B.exec
  have hb := B.bytes
  have hr := B.returns
  have hts := atoms_spec (ws := wsX5_counted) B.pre
  have hown : s.vm.findClass RX5 = some m.cls := findClass_of_methodNamed B.named
  have hlocks := B.notSynchronized
  subst hsz
  obtain ⟨A, hAe⟩ : ∃ A : Nat → Prop, A = va_A (wX5 cs a S) s.heap.size := ⟨_, rfl⟩
  have hD : va_D A (wX5 cs a S) := by rw [hAe]; exact hD0.self
  have hA : ∀ q : Nat, s.heap.size ≤ q → A q := fun q h => by rw [hAe]; exact Or.inr h
  have hS : va_S A s.heap s.heap [] := va_S.rf
  have hDA : ∀ (S : Nat → Nat → Int32), va_D A (wX5 cs a S) := fun S => k_DA hD rfl
  have hl := lv_entry ([.ref (a 0), .int x1, .int x2, .int x3, .int x4, .int x5]) (n := 9) (Nat.le_of_ble_eq_true rfl)
  rw [lg_entry_eq]
  generalize (lg_sl ([.ref (a 0), .int x1, .int x2, .int x3, .int x4, .int x5]) ++ List.replicate (9 - (lg_sl ([.ref (a 0), .int x1, .int x2, .int x3, .int x4, .int x5])).length) Slot.unset).toArray = ls at hl ⊢
  have hl : lv_has ls 9 [(0, .ref (a 0)), (1, .int x1), (2, .int x2), (3, .int x3), (4, .int x4), (5, .int x5)] := hl
  obtain ⟨Q, hQ⟩ : ∃ Q, Q = MQ below (k_Qi D r9 (wX5 cs a S) (wX5 cs a S) s.heap.size) ([.ref (a 0), .int x1, .int x2, .int x3, .int x4, .int x5] : List Value).toArray s 0 0 (va_A (wX5 cs a S) s.heap.size) := ⟨_, rfl⟩
  rw [← hQ]
  unfold nX5_counted at hd
  refine lv_iload hx hb dX5_counted_0 (lv_at hl 4 rfl) ?_
  refine lv_iload_n hx hb dX5_counted_2 rfl (lv_at hl 3 rfl) ?_
  refine lv_icmp_ne (tgt := 8) hx hb dX5_counted_3 (by decide) (fun c3 => ?_) (fun c3 => ?_)
  · have hd := dn_f c3 hd
    refine lv_iload_n hx hb dX5_counted_8 rfl (lv_at hl 2 rfl) ?_
    refine lv_iconst (v := (1 : Int32)) hx hb dX5_counted_9 (by decide) ?_
    refine lv_iadd hx hb dX5_counted_10 ?_
    refine lv_iconst (v := (4 : Int32)) hx hb dX5_counted_11 (by decide) ?_
    refine lv_irem hx hb dX5_counted_12 (by decide) ?_
    refine lv_istore (lv' := [(6, .int ((x2 + (1 : Int32)) - (x2 + (1 : Int32)) / (4 : Int32) * (4 : Int32))), (0, .ref (a 0)), (1, .int x1), (2, .int x2), (3, .int x3), (4, .int x4), (5, .int x5)]) hx hb dX5_counted_13 hl (by decide) rfl (fun ls hl => ?_)
    refine lv_aload_n hx hb dX5_counted_15 rfl (lv_at hl 1 rfl) ?_
    refine va_get (D := D) (ci := 3) (v := .ref (a 1)) (C := RX5) (T := TX5) (N := 15) hx hb hts (fun w h => List.mem_cons_of_mem _ (List.mem_append_right _ h)) hown hK hP 0 rfl rfl 0 (by decide) (hts (.fieldLink RX5 9 "LeastNeed$Valley" "kind" "[I") (List.mem_of_getElem? (i := 1) rfl)) (fun _ h9 => h9) rfl dX5_counted_16 ?_
    refine lv_iload hx hb dX5_counted_19 (lv_at hl 5 rfl) ?_
    obtain ⟨hi21, hd⟩ := dn_i hd
    refine k_iald (D := D) (k := x4.toNatClampNeg) (by rfl) hx hb hK hP 1 1 rfl rfl hi21 dX5_counted_21 ?_
    refine lv_aload_n hx hb dX5_counted_22 rfl (lv_at hl 1 rfl) ?_
    refine va_get (D := D) (ci := 3) (v := .ref (a 4)) (C := RX5) (T := TX5) (N := 15) hx hb hts (fun w h => List.mem_cons_of_mem _ (List.mem_append_right _ h)) hown hK hP 0 rfl rfl 3 (by decide) (hts (.fieldLink RX5 21 "LeastNeed$Valley" "need" "[I") (List.mem_of_getElem? (i := 2) rfl)) (fun _ h9 => h9) rfl dX5_counted_23 ?_
    refine lv_iconst (v := (4 : Int32)) hx hb dX5_counted_26 (by decide) ?_
    refine lv_iload hx hb dX5_counted_27 (lv_at hl 5 rfl) ?_
    refine lv_imul hx hb dX5_counted_29 ?_
    refine lv_iload_n hx hb dX5_counted_30 rfl (lv_at hl 3 rfl) ?_
    refine lv_iadd hx hb dX5_counted_31 ?_
    obtain ⟨hi32, hd⟩ := dn_i hd
    refine k_iald (D := D) (k := (((4 : Int32) * x4) + x2).toNatClampNeg) (by rfl) hx hb hK hP 4 1 rfl rfl hi32 dX5_counted_32 ?_
    refine lv_aload_n hx hb dX5_counted_33 rfl (lv_at hl 1 rfl) ?_
    refine va_get (D := D) (ci := 3) (v := .ref (a 3)) (C := RX5) (T := TX5) (N := 15) hx hb hts (fun w h => List.mem_cons_of_mem _ (List.mem_append_right _ h)) hown hK hP 0 rfl rfl 2 (by decide) (hts (.fieldLink RX5 18 "LeastNeed$Valley" "worn" "[I") (List.mem_of_getElem? (i := 3) rfl)) (fun _ h9 => h9) rfl dX5_counted_34 ?_
    refine lv_iload hx hb dX5_counted_37 (lv_at hl 5 rfl) ?_
    obtain ⟨hi39, hd⟩ := dn_i hd
    refine k_iald (D := D) (k := x4.toNatClampNeg) (by rfl) hx hb hK hP 3 1 rfl rfl hi39 dX5_counted_39 ?_
    refine lv_iload_n hx hb dX5_counted_40 rfl (lv_at hl 3 rfl) ?_
    refine lv_iload hx hb dX5_counted_41 (lv_at hl 6 rfl) ?_
    obtain ⟨r43, hq43, hd⟩ := dn_b1 hd
    have hPc : va_P D vwCl ([] : va_W) H := k_sub hP [] rfl
    have hDc : va_D A ([] : va_W) := hD.sub [] (by decide) rfl
    have hF := k_self hDc hS hA
    refine k_run_i (va_runS (As := [.int (S 1 x4.toNatClampNeg), .int (S 4 (((4 : Int32) * x4) + x2).toNatClampNeg), .int (S 3 x4.toNatClampNeg), .int x2, .int x5]) (rest := []) ⟨hx, hb, hml, hown, hts⟩ (mX1_shown l D cs  (S 1 x4.toNatClampNeg) (S 4 (((4 : Int32) * x4) + x2).toNatClampNeg) (S 3 x4.toNatClampNeg) x2 x5 r43 hq43 _) (va_cwS 5 hts gX5_counted_X1_shown rfl rfl rfl (by decide +kernel) ⟨Nat.le_of_ble_eq_true rfl, Nat.le_of_ble_eq_true rfl⟩) ⟨k_blind, k_pre hPc hK hNn hDc⟩ rfl rfl hl.1 rfl (lv_room (Nat.le_of_ble_eq_true rfl)) dX5_counted_43 ⟨Nat.le_of_ble_eq_true rfl, Nat.le_of_ble_eq_true rfl⟩) hS hF (fun H locs hP1 hk hS => ?_)
    have hP : va_P D vwCl (wX5 cs a S) H := k_keep hP hk
    refine lv_istore (lv' := [(7, .int r43), (6, .int ((x2 + (1 : Int32)) - (x2 + (1 : Int32)) / (4 : Int32) * (4 : Int32))), (0, .ref (a 0)), (1, .int x1), (2, .int x2), (3, .int x3), (4, .int x4), (5, .int x5)]) hx hb dX5_counted_46 hl (by decide) rfl (fun ls hl => ?_)
    refine lv_aload_n hx hb dX5_counted_48 rfl (lv_at hl 2 rfl) ?_
    refine va_get (D := D) (ci := 3) (v := .ref (a 1)) (C := RX5) (T := TX5) (N := 15) hx hb hts (fun w h => List.mem_cons_of_mem _ (List.mem_append_right _ h)) hown hK hP 0 rfl rfl 0 (by decide) (hts (.fieldLink RX5 9 "LeastNeed$Valley" "kind" "[I") (List.mem_of_getElem? (i := 1) rfl)) (fun _ h9 => h9) rfl dX5_counted_49 ?_
    refine lv_iload hx hb dX5_counted_52 (lv_at hl 6 rfl) ?_
    obtain ⟨hi54, hd⟩ := dn_i hd
    refine k_iald (D := D) (k := x4.toNatClampNeg) (by rfl) hx hb hK hP 1 1 rfl rfl hi54 dX5_counted_54 ?_
    refine lv_aload_n hx hb dX5_counted_55 rfl (lv_at hl 2 rfl) ?_
    refine va_get (D := D) (ci := 3) (v := .ref (a 4)) (C := RX5) (T := TX5) (N := 15) hx hb hts (fun w h => List.mem_cons_of_mem _ (List.mem_append_right _ h)) hown hK hP 0 rfl rfl 3 (by decide) (hts (.fieldLink RX5 21 "LeastNeed$Valley" "need" "[I") (List.mem_of_getElem? (i := 2) rfl)) (fun _ h9 => h9) rfl dX5_counted_56 ?_
    refine lv_iconst (v := (4 : Int32)) hx hb dX5_counted_59 (by decide) ?_
    refine lv_iload hx hb dX5_counted_60 (lv_at hl 6 rfl) ?_
    refine lv_imul hx hb dX5_counted_62 ?_
    refine lv_iload hx hb dX5_counted_63 (lv_at hl 1 rfl) ?_
    refine lv_iadd hx hb dX5_counted_65 ?_
    obtain ⟨hi66, hd⟩ := dn_i hd
    refine k_iald (D := D) (k := (((4 : Int32) * x4) + ((x2 + (1 : Int32)) - (x2 + (1 : Int32)) / (4 : Int32) * (4 : Int32))).toNatClampNeg) (by rfl) hx hb hK hP 4 1 rfl rfl hi66 dX5_counted_66 ?_
    refine lv_aload_n hx hb dX5_counted_67 rfl (lv_at hl 2 rfl) ?_
    refine va_get (D := D) (ci := 3) (v := .ref (a 3)) (C := RX5) (T := TX5) (N := 15) hx hb hts (fun w h => List.mem_cons_of_mem _ (List.mem_append_right _ h)) hown hK hP 0 rfl rfl 2 (by decide) (hts (.fieldLink RX5 18 "LeastNeed$Valley" "worn" "[I") (List.mem_of_getElem? (i := 3) rfl)) (fun _ h9 => h9) rfl dX5_counted_68 ?_
    refine lv_iload hx hb dX5_counted_71 (lv_at hl 6 rfl) ?_
    obtain ⟨hi73, hd⟩ := dn_i hd
    refine k_iald (D := D) (k := x4.toNatClampNeg) (by rfl) hx hb hK hP 3 1 rfl rfl hi73 dX5_counted_73 ?_
    refine lv_iload hx hb dX5_counted_74 (lv_at hl 1 rfl) ?_
    refine lv_iload hx hb dX5_counted_76 (lv_at hl 7 rfl) ?_
    obtain ⟨r78, hq78, hd⟩ := dn_b1 hd
    have hPc : va_P D vwCl ([] : va_W) H := k_sub hP [] rfl
    have hDc : va_D A ([] : va_W) := hD.sub [] (by decide) rfl
    have hF := k_self hDc hS hA
    refine k_run_i (va_runS (As := [.int (S 1 x4.toNatClampNeg), .int (S 4 (((4 : Int32) * x4) + ((x2 + (1 : Int32)) - (x2 + (1 : Int32)) / (4 : Int32) * (4 : Int32))).toNatClampNeg), .int (S 3 x4.toNatClampNeg), .int ((x2 + (1 : Int32)) - (x2 + (1 : Int32)) / (4 : Int32) * (4 : Int32)), .int x5]) (rest := []) ⟨hx, hb, hml, hown, hts⟩ (mX1_shown l D cs  (S 1 x4.toNatClampNeg) (S 4 (((4 : Int32) * x4) + ((x2 + (1 : Int32)) - (x2 + (1 : Int32)) / (4 : Int32) * (4 : Int32))).toNatClampNeg) (S 3 x4.toNatClampNeg) ((x2 + (1 : Int32)) - (x2 + (1 : Int32)) / (4 : Int32) * (4 : Int32)) x5 r78 hq78 _) (va_cwS 5 hts gX5_counted_X1_shown rfl rfl rfl (by decide +kernel) ⟨Nat.le_of_ble_eq_true rfl, Nat.le_of_ble_eq_true rfl⟩) ⟨k_blind, k_pre hPc hK hNn hDc⟩ rfl rfl hl.1 rfl (lv_room (Nat.le_of_ble_eq_true rfl)) dX5_counted_78 ⟨Nat.le_of_ble_eq_true rfl, Nat.le_of_ble_eq_true rfl⟩) hS hF (fun H locs hP1 hk hS => ?_)
    have hP : va_P D vwCl (wX5 cs a S) H := k_keep hP hk
    refine lv_istore (lv' := [(8, .int r78), (7, .int r43), (6, .int ((x2 + (1 : Int32)) - (x2 + (1 : Int32)) / (4 : Int32) * (4 : Int32))), (0, .ref (a 0)), (1, .int x1), (2, .int x2), (3, .int x3), (4, .int x4), (5, .int x5)]) hx hb dX5_counted_81 hl (by decide) rfl (fun ls hl => ?_)
    refine lv_iload_n hx hb dX5_counted_83 rfl (lv_at hl 4 rfl) ?_
    refine lv_iload hx hb dX5_counted_84 (lv_at hl 1 rfl) ?_
    refine lv_iload hx hb dX5_counted_86 (lv_at hl 0 rfl) ?_
    refine lv_aload_n hx hb dX5_counted_88 rfl (lv_at hl 3 rfl) ?_
    refine va_get (D := D) (ci := 3) (v := .ref (a 2)) (C := RX5) (T := TX5) (N := 15) hx hb hts (fun w h => List.mem_cons_of_mem _ (List.mem_append_right _ h)) hown hK hP 0 rfl rfl 1 (by decide) (hts (.fieldLink RX5 15 "LeastNeed$Valley" "house" "[I") (List.mem_of_getElem? (i := 4) rfl)) (fun _ h9 => h9) rfl dX5_counted_89 ?_
    refine lv_iload hx hb dX5_counted_92 (lv_at hl 7 rfl) ?_
    obtain ⟨hi94, hd⟩ := dn_i hd
    refine k_iald (D := D) (k := x4.toNatClampNeg) (by rfl) hx hb hK hP 2 1 rfl rfl hi94 dX5_counted_94 ?_
    refine lv_aload_n hx hb dX5_counted_95 rfl (lv_at hl 3 rfl) ?_
    refine va_get (D := D) (ci := 3) (v := .ref (a 2)) (C := RX5) (T := TX5) (N := 15) hx hb hts (fun w h => List.mem_cons_of_mem _ (List.mem_append_right _ h)) hown hK hP 0 rfl rfl 1 (by decide) (hts (.fieldLink RX5 15 "LeastNeed$Valley" "house" "[I") (List.mem_of_getElem? (i := 4) rfl)) (fun _ h9 => h9) rfl dX5_counted_96 ?_
    refine lv_iload_n hx hb dX5_counted_99 rfl (lv_at hl 6 rfl) ?_
    obtain ⟨hi100, hd⟩ := dn_i hd
    refine k_iald (D := D) (k := x3.toNatClampNeg) (by rfl) hx hb hK hP 2 1 rfl rfl hi100 dX5_counted_100 ?_
    refine lv_isub hx hb dX5_counted_101 ?_
    refine va_mabs hx hb (hml.trans hl.1.symm) hown (hts (.methodLink RX5 102 Lib.Math.abs.name) (List.mem_of_getElem? (i := 5) rfl)) (hts (.static Lib.Math.abs.name) (List.mem_of_getElem? (i := 6) rfl)) (hts (.initialized "java/lang/Math") (List.mem_of_getElem? (i := 7) rfl)) (hts (.code Lib.Math.abs.name Lib.Math.abs.code 1 (some .int)) (List.mem_of_getElem? (i := 8) rfl)) (Nat.le_of_ble_eq_true rfl) (Nat.le_of_ble_eq_true rfl) (Nat.le_of_ble_eq_true rfl) (Nat.le_of_ble_eq_true rfl) dX5_counted_102 ?_
    obtain ⟨r105, hq105, hd⟩ := dn_b1 hd
    have hPc : va_P D vwCl ([] : va_W) H := k_sub hP [] rfl
    have hDc : va_D A ([] : va_W) := hD.sub [] (by decide) rfl
    have hF := k_self hDc hS hA
    refine k_run_i (va_runS (As := [.int x1, .int r43, .int r78, .int (if 0 ≤ ((S 2 x4.toNatClampNeg) - (S 2 x3.toNatClampNeg)) then ((S 2 x4.toNatClampNeg) - (S 2 x3.toNatClampNeg)) else 0 - ((S 2 x4.toNatClampNeg) - (S 2 x3.toNatClampNeg)))]) (rest := []) ⟨hx, hb, hml, hown, hts⟩ (mX4_counted l D cs  x1 r43 r78 (if 0 ≤ ((S 2 x4.toNatClampNeg) - (S 2 x3.toNatClampNeg)) then ((S 2 x4.toNatClampNeg) - (S 2 x3.toNatClampNeg)) else 0 - ((S 2 x4.toNatClampNeg) - (S 2 x3.toNatClampNeg))) r105 hq105 _) (va_cwS 4 hts gX5_counted_X4_counted rfl rfl rfl (by decide +kernel) ⟨Nat.le_of_ble_eq_true rfl, Nat.le_of_ble_eq_true rfl⟩) ⟨k_blind, k_pre hPc hK hNn hDc⟩ rfl rfl hl.1 rfl (lv_room (Nat.le_of_ble_eq_true rfl)) dX5_counted_105 ⟨Nat.le_of_ble_eq_true rfl, Nat.le_of_ble_eq_true rfl⟩) hS hF (fun H locs hP1 hk hS => ?_)
    have hP : va_P D vwCl (wX5 cs a S) H := k_keep hP hk
    have e1 := dn_s1 hd
    exact k_iret hx hb hr hQ hAe e1 rfl hP hS hlocks dX5_counted_108
  · have hd := dn_t c3 hd
    refine lv_iconst (v := (-1 : Int32)) hx hb dX5_counted_6 (by decide) ?_
    have e1 := dn_s1 hd
    exact k_iret hx hb hr hQ hAe e1 rfl hP hS hlocks dX5_counted_7
/-- LeastNeed$Valley.goesTo(IIII)I -/
set_option maxRecDepth 20000 in
def nX5_goesTo_i12_j56 (x1 : Int32) (x2 : Int32) (x3 : Int32) (x4 : Int32) (x8 : Int32) (x9 : Int32) (S : Nat → Nat → Int32) : Option ((Int32 × Int32 × Int32 × Int32) ⊕ (Int32)) := some (.inl (x8, x9, (0 : Int32), (x8 + (1 : Int32))))
set_option maxRecDepth 20000 in
def nX5_goesTo_l12 (x1 : Int32) (x2 : Int32) (x3 : Int32) (x4 : Int32) (x5 : Int32) (x6 : Int32) (x7 : Int32) (x8 : Int32) (S : Nat → Nat → Int32) : Option ((Int32 × Int32 × Int32 × Int32) ⊕ (Int32)) := if (S 0 12) ≤ x8 then k_up (if x7 = 0 then some x5 else k_b1 (nX4_likeOnesLeaveIt x1) (fun r92 => if r92 = 0 then some x5 else some (-1 : Int32))) else k_b1 (nX5_counted S x1 x2 x3 x8 x4) (fun r29 => if r29 = (-1 : Int32) then some (.inl (x5, x6, x7, (x8 + (1 : Int32)))) else if x5 = (-1 : Int32) then nX5_goesTo_i12_j56 x1 x2 x3 x4 x8 r29 S else if x6 ≤ r29 then if r29 = x6 then some (.inl (x5, x6, (1 : Int32), (x8 + (1 : Int32)))) else some (.inl (x5, x6, x7, (x8 + (1 : Int32)))) else nX5_goesTo_i12_j56 x1 x2 x3 x4 x8 r29 S)
set_option maxRecDepth 20000 in
def nX5_goesTo (S : Nat → Nat → Int32) (x1 : Int32) (x2 : Int32) (x3 : Int32) (x4 : Int32) : Option (Int32) := k_it (fun st => nX5_goesTo_l12 x1 x2 x3 x4 st.1 st.2.1 st.2.2.1 st.2.2.2 S) 1000 ((-1 : Int32), (0 : Int32), (0 : Int32), (0 : Int32))
set_option maxHeartbeats 4000000 in
set_option maxRecDepth 100000 in
theorem mX5_goesTo (l : Launch) (D : va_G) (cs : Nat → ClassId) (a : Nat → Nat) (S : Nat → Nat → Int32) (x1 : Int32) (x2 : Int32) (x3 : Int32) (x4 : Int32) (r9 : Int32) (hd : nX5_goesTo S x1 x2 x3 x4 = some r9) : ∀ sz : Nat, Met l yX5_goesTo wsX5_goesTo ({ frames := 2, cells := 0, slots := 0, locals := 55 }) (k_Pc D cs [.ref (a 0), .int x1, .int x2, .int x3, .int x4] (wX5 cs a S) sz) (k_Qi D r9 (wX5 cs a S) (wX5 cs a S) sz) 0 0 (va_A (wX5 cs a S) sz) := by
  intro sz
  refine Met.ofW (cc := cX5_goesTo) (maxL := 10) (ret := (some .int)) (by decide) rfl ?_
  intro p e s m args below meth c s₁ B hml hv
  obtain ⟨rfl, hsz, hP, hK, hD0, hNn⟩ := hv
  have hx := B.exec
  have hb := B.bytes
  have hr := B.returns
  have hts := atoms_spec (ws := wsX5_goesTo) B.pre
  have hown : s.vm.findClass RX5 = some m.cls := findClass_of_methodNamed B.named
  have hlocks := B.notSynchronized
  subst hsz
  obtain ⟨A, hAe⟩ : ∃ A : Nat → Prop, A = va_A (wX5 cs a S) s.heap.size := ⟨_, rfl⟩
  have hD : va_D A (wX5 cs a S) := by rw [hAe]; exact hD0.self
  have hA : ∀ q : Nat, s.heap.size ≤ q → A q := fun q h => by rw [hAe]; exact Or.inr h
  have hS : va_S A s.heap s.heap [] := va_S.rf
  have hDA : ∀ (S : Nat → Nat → Int32), va_D A (wX5 cs a S) := fun S => k_DA hD rfl
  have hl := lv_entry ([.ref (a 0), .int x1, .int x2, .int x3, .int x4]) (n := 10) (Nat.le_of_ble_eq_true rfl)
  rw [lg_entry_eq]
  generalize (lg_sl ([.ref (a 0), .int x1, .int x2, .int x3, .int x4]) ++ List.replicate (10 - (lg_sl ([.ref (a 0), .int x1, .int x2, .int x3, .int x4])).length) Slot.unset).toArray = ls at hl ⊢
  have hl : lv_has ls 10 [(0, .ref (a 0)), (1, .int x1), (2, .int x2), (3, .int x3), (4, .int x4)] := hl
  obtain ⟨Q, hQ⟩ : ∃ Q, Q = MQ below (k_Qi D r9 (wX5 cs a S) (wX5 cs a S) s.heap.size) ([.ref (a 0), .int x1, .int x2, .int x3, .int x4] : List Value).toArray s 0 0 (va_A (wX5 cs a S) s.heap.size) := ⟨_, rfl⟩
  rw [← hQ]
  have Lo12 : ∀ (n1 : Nat) (x1 : Int32) (x2 : Int32) (x3 : Int32) (x4 : Int32) (x5 : Int32) (x6 : Int32) (x7 : Int32) (x8 : Int32) (S : Nat → Nat → Int32) (H : Heap) (locs : List Loc) (ls : Array Slot), k_it (fun st => nX5_goesTo_l12 x1 x2 x3 x4 st.1 st.2.1 st.2.2.1 st.2.2.2 S) n1 (x5, x6, x7, x8) = some r9 → lv_has ls 10 [(0, .ref (a 0)), (1, .int x1), (2, .int x2), (3, .int x3), (4, .int x4), (5, .int x5), (6, .int x6), (7, .int x7), (8, .int x8)] → va_P D vwCl (wX5 cs a S) H → va_S A s.heap H locs → W p l e (headSpec wsX5_goesTo ({ frames := 2, cells := 0, slots := 0, locals := 55 })).room s m ([.ref (a 0), .int x1, .int x2, .int x3, .int x4] : List Value).toArray below meth c H locs 0 0 Q (F0 m 12 ls []) := by
    intro n1
    induction n1 with
    | zero => intro x1 x2 x3 x4 x5 x6 x7 x8 S H locs ls hd; exact dn_it0 hd
    | succ n1 ih1 =>
      intro x1 x2 x3 x4 x5 x6 x7 x8 S H locs ls hd hl hP hS
      have hD := hDA S
      obtain ⟨y1, hd, hy1⟩ := dn_it hd
      have hd : nX5_goesTo_l12 x1 x2 x3 x4 x5 x6 x7 x8 S = some y1 := hd
      have Jo56 : ∀ (x1 : Int32) (x2 : Int32) (x3 : Int32) (x4 : Int32) (x8 : Int32) (x9 : Int32) (S : Nat → Nat → Int32) (H : Heap) (locs : List Loc) (ls : Array Slot), nX5_goesTo_i12_j56 x1 x2 x3 x4 x8 x9 S = some y1 → lv_has ls 10 [(0, .ref (a 0)), (1, .int x1), (2, .int x2), (3, .int x3), (4, .int x4), (8, .int x8), (9, .int x9)] → va_P D vwCl (wX5 cs a S) H → va_S A s.heap H locs → W p l e (headSpec wsX5_goesTo ({ frames := 2, cells := 0, slots := 0, locals := 55 })).room s m ([.ref (a 0), .int x1, .int x2, .int x3, .int x4] : List Value).toArray below meth c H locs 0 0 Q (F0 m 56 ls []) := by
        intro x1 x2 x3 x4 x8 x9 S H locs ls hd hl hP hS
        have hD := hDA S
        unfold nX5_goesTo_i12_j56 at hd
        refine lv_iload hx hb dX5_goesTo_56 (lv_at hl 5 rfl) ?_
        refine lv_istore (lv' := [(5, .int x8), (0, .ref (a 0)), (1, .int x1), (2, .int x2), (3, .int x3), (4, .int x4), (8, .int x8), (9, .int x9)]) hx hb dX5_goesTo_58 hl (by decide) rfl (fun ls hl => ?_)
        refine lv_iload hx hb dX5_goesTo_60 (lv_at hl 7 rfl) ?_
        refine lv_istore (lv' := [(6, .int x9), (5, .int x8), (0, .ref (a 0)), (1, .int x1), (2, .int x2), (3, .int x3), (4, .int x4), (8, .int x8), (9, .int x9)]) hx hb dX5_goesTo_62 hl (by decide) rfl (fun ls hl => ?_)
        refine lv_iconst (v := (0 : Int32)) hx hb dX5_goesTo_64 (by decide) ?_
        refine lv_istore (lv' := [(7, .int (0 : Int32)), (6, .int x9), (5, .int x8), (0, .ref (a 0)), (1, .int x1), (2, .int x2), (3, .int x3), (4, .int x4), (8, .int x8), (9, .int x9)]) hx hb dX5_goesTo_65 hl (by decide) rfl (fun ls hl => ?_)
        refine lv_goto (tgt := 80) hx hb dX5_goesTo_67 (by decide) ?_
        refine lv_iinc (v := x8 + (1 : Int32)) (lv' := [(8, .int (x8 + (1 : Int32))), (7, .int (0 : Int32)), (6, .int x9), (5, .int x8), (0, .ref (a 0)), (1, .int x1), (2, .int x2), (3, .int x3), (4, .int x4), (9, .int x9)]) hx hb dX5_goesTo_80 hl (k := 8) rfl rfl (by decide) rfl (fun ls hl => ?_)
        refine lv_goto (tgt := 12) hx hb dX5_goesTo_83 (by decide) ?_
        exact ih1 x1 x2 x3 x4 x8 x9 (0 : Int32) (x8 + (1 : Int32)) S _ _ _ (dn_bk hd hy1) (lv_sub hl [4, 5, 6, 7, 8, 3, 2, 1, 0] rfl) hP hS
      unfold nX5_goesTo_l12 at hd
      refine lv_iload hx hb dX5_goesTo_12 (lv_at hl 8 rfl) ?_
      refine lv_aload_n hx hb dX5_goesTo_14 rfl (lv_at hl 0 rfl) ?_
      refine va_get (D := D) (ci := 3) (v := .int (S 0 12)) (C := RX5) (T := TX5) (N := 15) hx hb hts (fun w h => List.mem_cons_of_mem _ (List.mem_append_right _ h)) hown hK hP 0 rfl rfl 12 (by decide) (hts (.fieldLink RX5 54 "LeastNeed$Valley" "people" "I") (List.mem_of_getElem? (i := 1) rfl)) (fun _ h9 => h9) rfl dX5_goesTo_15 ?_
      refine lv_icmp_ge (tgt := 86) hx hb dX5_goesTo_18 (by decide) (fun c18 => ?_) (fun c18 => ?_)
      · have hd := dn_t c18 hd
        have hd := dn_up hd hy1
        refine lv_iload hx hb dX5_goesTo_86 (lv_at hl 7 rfl) ?_
        refine lv_if_eq (tgt := 102) hx hb dX5_goesTo_88 (by decide) (fun c88 => ?_) (fun c88 => ?_)
        · have hd := dn_t c88 hd
          refine lv_iload hx hb dX5_goesTo_102 (lv_at hl 5 rfl) ?_
          have e1 := dn_s1 hd
          exact k_iret hx hb hr hQ hAe e1 rfl hP hS hlocks dX5_goesTo_104
        · have hd := dn_f c88 hd
          refine lv_iload_n hx hb dX5_goesTo_91 rfl (lv_at hl 1 rfl) ?_
          obtain ⟨r92, hq92, hd⟩ := dn_b1 hd
          have hPc : va_P D vwCl ([] : va_W) H := k_sub hP [] rfl
          have hDc : va_D A ([] : va_W) := hD.sub [] (by decide) rfl
          have hF := k_self hDc hS hA
          refine k_run_i (va_runS (As := [.int x1]) (rest := []) ⟨hx, hb, hml, hown, hts⟩ (mX4_likeOnesLeaveIt l D cs  x1 r92 hq92 _) (va_cwS 1 hts gX5_goesTo_X4_likeOnesLeaveIt rfl rfl rfl (by decide +kernel) ⟨Nat.le_of_ble_eq_true rfl, Nat.le_of_ble_eq_true rfl⟩) ⟨k_blind, k_pre hPc hK hNn hDc⟩ rfl rfl hl.1 rfl (lv_room (Nat.le_of_ble_eq_true rfl)) dX5_goesTo_92 ⟨Nat.le_of_ble_eq_true rfl, Nat.le_of_ble_eq_true rfl⟩) hS hF (fun H locs hP1 hk hS => ?_)
          have hP : va_P D vwCl (wX5 cs a S) H := k_keep hP hk
          refine lv_if_eq (tgt := 102) hx hb dX5_goesTo_95 (by decide) (fun c95 => ?_) (fun c95 => ?_)
          · have hd := dn_t c95 hd
            refine lv_iload hx hb dX5_goesTo_102 (lv_at hl 5 rfl) ?_
            have e1 := dn_s1 hd
            exact k_iret hx hb hr hQ hAe e1 rfl hP hS hlocks dX5_goesTo_104
          · have hd := dn_f c95 hd
            refine lv_iconst (v := (-1 : Int32)) hx hb dX5_goesTo_98 (by decide) ?_
            refine lv_goto (tgt := 104) hx hb dX5_goesTo_99 (by decide) ?_
            have e1 := dn_s1 hd
            exact k_iret hx hb hr hQ hAe e1 rfl hP hS hlocks dX5_goesTo_104
      · have hd := dn_f c18 hd
        refine lv_aload_n hx hb dX5_goesTo_21 rfl (lv_at hl 0 rfl) ?_
        refine lv_iload_n hx hb dX5_goesTo_22 rfl (lv_at hl 1 rfl) ?_
        refine lv_iload_n hx hb dX5_goesTo_23 rfl (lv_at hl 2 rfl) ?_
        refine lv_iload_n hx hb dX5_goesTo_24 rfl (lv_at hl 3 rfl) ?_
        refine lv_iload hx hb dX5_goesTo_25 (lv_at hl 8 rfl) ?_
        refine lv_iload hx hb dX5_goesTo_27 (lv_at hl 4 rfl) ?_
        obtain ⟨r29, hq29, hd⟩ := dn_b1 hd
        have hF := k_self hD hS hA
        refine k_run_i (va_runV (As := [.int x1, .int x2, .int x3, .int x8, .int x4]) (rest := []) ⟨hx, hb, hml, hown, hts⟩ (mX5_counted l D cs a S x1 x2 x3 x8 x4 r29 hq29 _) (cwV 5 hts gX5_goesTo_X5_counted rfl rfl rfl (by decide +kernel) ⟨Nat.le_of_ble_eq_true rfl, Nat.le_of_ble_eq_true rfl⟩) ⟨k_blind, va_recv hK hP (ci := 3) (q0 := 0) rfl rfl, k_pre hP hK hNn hD⟩ rfl rfl hl.1 rfl (lv_room (Nat.le_of_ble_eq_true rfl)) dX5_goesTo_29 ⟨Nat.le_of_ble_eq_true rfl, Nat.le_of_ble_eq_true rfl⟩) hS hF (fun H locs hP1 hk hS => ?_)
        have hP : va_P D vwCl (wX5 cs a S) H := hP1
        have hD := hDA S
        refine lv_istore (lv' := [(9, .int r29), (0, .ref (a 0)), (1, .int x1), (2, .int x2), (3, .int x3), (4, .int x4), (5, .int x5), (6, .int x6), (7, .int x7), (8, .int x8)]) hx hb dX5_goesTo_32 hl (by decide) rfl (fun ls hl => ?_)
        refine lv_iload hx hb dX5_goesTo_34 (lv_at hl 0 rfl) ?_
        refine lv_iconst (v := (-1 : Int32)) hx hb dX5_goesTo_36 (by decide) ?_
        refine lv_icmp_ne (tgt := 43) hx hb dX5_goesTo_37 (by decide) (fun c37 => ?_) (fun c37 => ?_)
        · have hd := dn_f c37 hd
          refine lv_iload hx hb dX5_goesTo_43 (lv_at hl 6 rfl) ?_
          refine lv_iconst (v := (-1 : Int32)) hx hb dX5_goesTo_45 (by decide) ?_
          refine lv_icmp_eq (tgt := 56) hx hb dX5_goesTo_46 (by decide) (fun c46 => ?_) (fun c46 => ?_)
          · have hd := dn_t c46 hd
            exact Jo56 x1 x2 x3 x4 x8 r29 S _ _ _ hd (lv_sub hl [1, 2, 3, 4, 5, 9, 0] rfl) hP hS
          · have hd := dn_f c46 hd
            refine lv_iload hx hb dX5_goesTo_49 (lv_at hl 0 rfl) ?_
            refine lv_iload hx hb dX5_goesTo_51 (lv_at hl 7 rfl) ?_
            refine lv_icmp_ge (tgt := 70) hx hb dX5_goesTo_53 (by decide) (fun c53 => ?_) (fun c53 => ?_)
            · have hd := dn_t c53 hd
              refine lv_iload hx hb dX5_goesTo_70 (lv_at hl 0 rfl) ?_
              refine lv_iload hx hb dX5_goesTo_72 (lv_at hl 7 rfl) ?_
              refine lv_icmp_ne (tgt := 80) hx hb dX5_goesTo_74 (by decide) (fun c74 => ?_) (fun c74 => ?_)
              · have hd := dn_f c74 hd
                refine lv_iinc (v := x8 + (1 : Int32)) (lv' := [(8, .int (x8 + (1 : Int32))), (9, .int r29), (0, .ref (a 0)), (1, .int x1), (2, .int x2), (3, .int x3), (4, .int x4), (5, .int x5), (6, .int x6), (7, .int x7)]) hx hb dX5_goesTo_80 hl (k := 9) rfl rfl (by decide) rfl (fun ls hl => ?_)
                refine lv_goto (tgt := 12) hx hb dX5_goesTo_83 (by decide) ?_
                exact ih1 x1 x2 x3 x4 x5 x6 x7 (x8 + (1 : Int32)) S _ _ _ (dn_bk hd hy1) (lv_sub hl [2, 3, 4, 5, 6, 7, 8, 9, 0] rfl) hP hS
              · have hd := dn_t c74 hd
                refine lv_iconst (v := (1 : Int32)) hx hb dX5_goesTo_77 (by decide) ?_
                refine lv_istore (lv' := [(7, .int (1 : Int32)), (9, .int r29), (0, .ref (a 0)), (1, .int x1), (2, .int x2), (3, .int x3), (4, .int x4), (5, .int x5), (6, .int x6), (8, .int x8)]) hx hb dX5_goesTo_78 hl (by decide) rfl (fun ls hl => ?_)
                refine lv_iinc (v := x8 + (1 : Int32)) (lv' := [(8, .int (x8 + (1 : Int32))), (7, .int (1 : Int32)), (9, .int r29), (0, .ref (a 0)), (1, .int x1), (2, .int x2), (3, .int x3), (4, .int x4), (5, .int x5), (6, .int x6)]) hx hb dX5_goesTo_80 hl (k := 9) rfl rfl (by decide) rfl (fun ls hl => ?_)
                refine lv_goto (tgt := 12) hx hb dX5_goesTo_83 (by decide) ?_
                exact ih1 x1 x2 x3 x4 x5 x6 (1 : Int32) (x8 + (1 : Int32)) S _ _ _ (dn_bk hd hy1) (lv_sub hl [3, 4, 5, 6, 7, 8, 9, 1, 0] rfl) hP hS
            · have hd := dn_f c53 hd
              exact Jo56 x1 x2 x3 x4 x8 r29 S _ _ _ hd (lv_sub hl [1, 2, 3, 4, 5, 9, 0] rfl) hP hS
        · have hd := dn_t c37 hd
          refine lv_goto (tgt := 80) hx hb dX5_goesTo_40 (by decide) ?_
          refine lv_iinc (v := x8 + (1 : Int32)) (lv' := [(8, .int (x8 + (1 : Int32))), (9, .int r29), (0, .ref (a 0)), (1, .int x1), (2, .int x2), (3, .int x3), (4, .int x4), (5, .int x5), (6, .int x6), (7, .int x7)]) hx hb dX5_goesTo_80 hl (k := 9) rfl rfl (by decide) rfl (fun ls hl => ?_)
          refine lv_goto (tgt := 12) hx hb dX5_goesTo_83 (by decide) ?_
          exact ih1 x1 x2 x3 x4 x5 x6 x7 (x8 + (1 : Int32)) S _ _ _ (dn_bk hd hy1) (lv_sub hl [2, 3, 4, 5, 6, 7, 8, 9, 0] rfl) hP hS
  unfold nX5_goesTo at hd
  refine lv_iconst (v := (-1 : Int32)) hx hb dX5_goesTo_0 (by decide) ?_
  refine lv_istore (lv' := [(5, .int (-1 : Int32)), (0, .ref (a 0)), (1, .int x1), (2, .int x2), (3, .int x3), (4, .int x4)]) hx hb dX5_goesTo_1 hl (by decide) rfl (fun ls hl => ?_)
  refine lv_iconst (v := (0 : Int32)) hx hb dX5_goesTo_3 (by decide) ?_
  refine lv_istore (lv' := [(6, .int (0 : Int32)), (5, .int (-1 : Int32)), (0, .ref (a 0)), (1, .int x1), (2, .int x2), (3, .int x3), (4, .int x4)]) hx hb dX5_goesTo_4 hl (by decide) rfl (fun ls hl => ?_)
  refine lv_iconst (v := (0 : Int32)) hx hb dX5_goesTo_6 (by decide) ?_
  refine lv_istore (lv' := [(7, .int (0 : Int32)), (6, .int (0 : Int32)), (5, .int (-1 : Int32)), (0, .ref (a 0)), (1, .int x1), (2, .int x2), (3, .int x3), (4, .int x4)]) hx hb dX5_goesTo_7 hl (by decide) rfl (fun ls hl => ?_)
  refine lv_iconst (v := (0 : Int32)) hx hb dX5_goesTo_9 (by decide) ?_
  refine lv_istore (lv' := [(8, .int (0 : Int32)), (7, .int (0 : Int32)), (6, .int (0 : Int32)), (5, .int (-1 : Int32)), (0, .ref (a 0)), (1, .int x1), (2, .int x2), (3, .int x3), (4, .int x4)]) hx hb dX5_goesTo_10 hl (by decide) rfl (fun ls hl => ?_)
  exact Lo12 1000 x1 x2 x3 x4 (-1 : Int32) (0 : Int32) (0 : Int32) (0 : Int32) S _ _ _ hd (lv_sub hl [4, 5, 6, 7, 8, 3, 2, 1, 0] rfl) hP hS
/-- LeastNeed$Valley.dayGoesBy()V -/
set_option maxRecDepth 20000 in
def nX5_dayGoesBy_i2_j64 (x1 : Int32) (x2 : Int32) (w0 : Int32) (w1 : Int32) (S : Nat → Nat → Int32) : Option ((Int32 × (Nat → Nat → Int32)) ⊕ ((Nat → Nat → Int32))) := if w1 < 0 ∨ 5 ≤ w1.toNatClampNeg then none else if x2 = (-1 : Int32) then some (.inl ((x1 + (1 : Int32)), (k_w S 9 w1.toNatClampNeg w0))) else if x1 < 0 ∨ 5 ≤ x1.toNatClampNeg then none else some (.inl ((x1 + (1 : Int32)), (k_w (k_w S 9 w1.toNatClampNeg w0) 8 x1.toNatClampNeg x2)))
set_option maxRecDepth 20000 in
def nX5_dayGoesBy_l2 (x1 : Int32) (S : Nat → Nat → Int32) : Option ((Int32 × (Nat → Nat → Int32)) ⊕ ((Nat → Nat → Int32))) := if (S 0 13) ≤ x1 then k_up (some (k_w S 0 14 ((S 0 14) + (1 : Int32)))) else if x1 < 0 ∨ 5 ≤ x1.toNatClampNeg then none else if (S 9 x1.toNatClampNeg) = 0 then some (.inl ((x1 + (1 : Int32)), S)) else if x1 < 0 ∨ 5 ≤ x1.toNatClampNeg then none else if x1 < 0 ∨ 5 ≤ x1.toNatClampNeg then none else if x1 < 0 ∨ 5 ≤ x1.toNatClampNeg then none else k_b1 (nX5_goesTo S (S 5 x1.toNatClampNeg) (S 6 x1.toNatClampNeg) (S 8 x1.toNatClampNeg) (S 0 14)) (fun r45 => if r45 = (-1 : Int32) then nX5_dayGoesBy_i2_j64 x1 r45 (2 : Int32) x1 S else nX5_dayGoesBy_i2_j64 x1 r45 (0 : Int32) x1 S)
set_option maxRecDepth 20000 in
def nX5_dayGoesBy (S : Nat → Nat → Int32) : Option ((Nat → Nat → Int32)) := k_it (fun st => nX5_dayGoesBy_l2 st.1 st.2) 1000 ((0 : Int32), S)
set_option maxHeartbeats 4000000 in
set_option maxRecDepth 100000 in
theorem mX5_dayGoesBy (l : Launch) (D : va_G) (cs : Nat → ClassId) (a : Nat → Nat) (S : Nat → Nat → Int32) (S9 : (Nat → Nat → Int32)) (hd : nX5_dayGoesBy S = some S9) : ∀ sz : Nat, Met l yX5_dayGoesBy wsX5_dayGoesBy ({ frames := 3, cells := 0, slots := 0, locals := 84 }) (k_Pc D cs [.ref (a 0)] (wX5 cs a S) sz) (k_Qv D (wX5 cs a S) (wX5 cs a S9) sz) 0 0 (va_A (wX5 cs a S) sz) := by
  intro sz
  refine Met.ofW (cc := cX5_dayGoesBy) (maxL := 3) (ret := none) (by decide) rfl ?_
  intro p e s m args below meth c s₁ B hml hv
  obtain ⟨rfl, hsz, hP, hK, hD0, hNn⟩ := hv
  have hx := B.exec
  have hb := B.bytes
  have hr := B.returns
  have hts := atoms_spec (ws := wsX5_dayGoesBy) B.pre
  have hown : s.vm.findClass RX5 = some m.cls := findClass_of_methodNamed B.named
  have hlocks := B.notSynchronized
  subst hsz
  obtain ⟨A, hAe⟩ : ∃ A : Nat → Prop, A = va_A (wX5 cs a S) s.heap.size := ⟨_, rfl⟩
  have hD : va_D A (wX5 cs a S) := by rw [hAe]; exact hD0.self
  have hA : ∀ q : Nat, s.heap.size ≤ q → A q := fun q h => by rw [hAe]; exact Or.inr h
  have hS : va_S A s.heap s.heap [] := va_S.rf
  have hDA : ∀ (S : Nat → Nat → Int32), va_D A (wX5 cs a S) := fun S => k_DA hD rfl
  have hl := lv_entry ([.ref (a 0)]) (n := 3) (Nat.le_of_ble_eq_true rfl)
  rw [lg_entry_eq]
  generalize (lg_sl ([.ref (a 0)]) ++ List.replicate (3 - (lg_sl ([.ref (a 0)])).length) Slot.unset).toArray = ls at hl ⊢
  have hl : lv_has ls 3 [(0, .ref (a 0))] := hl
  obtain ⟨Q, hQ⟩ : ∃ Q, Q = MQ below (k_Qv D (wX5 cs a S) (wX5 cs a S9) s.heap.size) ([.ref (a 0)] : List Value).toArray s 0 0 (va_A (wX5 cs a S) s.heap.size) := ⟨_, rfl⟩
  rw [← hQ]
  have Lo2 : ∀ (n1 : Nat) (x1 : Int32) (S : Nat → Nat → Int32) (H : Heap) (locs : List Loc) (ls : Array Slot), k_it (fun st => nX5_dayGoesBy_l2 st.1 st.2) n1 (x1, S) = some S9 → lv_has ls 3 [(0, .ref (a 0)), (1, .int x1)] → va_P D vwCl (wX5 cs a S) H → va_S A s.heap H locs → W p l e (headSpec wsX5_dayGoesBy ({ frames := 3, cells := 0, slots := 0, locals := 84 })).room s m ([.ref (a 0)] : List Value).toArray below meth c H locs 0 0 Q (F0 m 2 ls []) := by
    intro n1
    induction n1 with
    | zero => intro x1 S H locs ls hd; exact dn_it0 hd
    | succ n1 ih1 =>
      intro x1 S H locs ls hd hl hP hS
      have hD := hDA S
      obtain ⟨y1, hd, hy1⟩ := dn_it hd
      have hd : nX5_dayGoesBy_l2 x1 S = some y1 := hd
      have Jo64 : ∀ (x1 : Int32) (x2 : Int32) (w0 : Int32) (w1 : Int32) (S : Nat → Nat → Int32) (H : Heap) (locs : List Loc) (ls : Array Slot), nX5_dayGoesBy_i2_j64 x1 x2 w0 w1 S = some y1 → lv_has ls 3 [(0, .ref (a 0)), (1, .int x1), (2, .int x2)] → va_P D vwCl (wX5 cs a S) H → va_S A s.heap H locs → W p l e (headSpec wsX5_dayGoesBy ({ frames := 3, cells := 0, slots := 0, locals := 84 })).room s m ([.ref (a 0)] : List Value).toArray below meth c H locs 0 0 Q (F0 m 64 ls [.int w0, .int w1, .ref (a 9)]) := by
        intro x1 x2 w0 w1 S H locs ls hd hl hP hS
        have hD := hDA S
        unfold nX5_dayGoesBy_i2_j64 at hd
        obtain ⟨hi64, hd⟩ := dn_i hd
        refine k_iast (D := D) (k := w1.toNatClampNeg) (by rfl) hx hb hK hP hD hS 9 1 rfl rfl hi64 dX5_dayGoesBy_64 (fun H locs hP hD hS => ?_)
        have hP : va_P D vwCl (wX5 cs a (k_w S 9 w1.toNatClampNeg w0)) H := hP
        have hD : va_D A (wX5 cs a (k_w S 9 w1.toNatClampNeg w0)) := hD
        refine lv_iload_n hx hb dX5_dayGoesBy_65 rfl (lv_at hl 2 rfl) ?_
        refine lv_iconst (v := (-1 : Int32)) hx hb dX5_dayGoesBy_66 (by decide) ?_
        refine lv_icmp_eq (tgt := 77) hx hb dX5_dayGoesBy_67 (by decide) (fun c67 => ?_) (fun c67 => ?_)
        · have hd := dn_t c67 hd
          refine lv_iinc (v := x1 + (1 : Int32)) (lv' := [(1, .int (x1 + (1 : Int32))), (0, .ref (a 0)), (2, .int x2)]) hx hb dX5_dayGoesBy_77 hl (k := 1) rfl rfl (by decide) rfl (fun ls hl => ?_)
          refine lv_goto (tgt := 2) hx hb dX5_dayGoesBy_80 (by decide) ?_
          exact ih1 (x1 + (1 : Int32)) (k_w S 9 w1.toNatClampNeg w0) _ _ _ (dn_bk hd hy1) (lv_sub hl [1, 0] rfl) hP hS
        · have hd := dn_f c67 hd
          refine lv_aload_n hx hb dX5_dayGoesBy_70 rfl (lv_at hl 0 rfl) ?_
          refine va_get (D := D) (ci := 3) (v := .ref (a 8)) (C := RX5) (T := TX5) (N := 15) hx hb hts (fun w h => List.mem_cons_of_mem _ (List.mem_append_right _ h)) hown hK hP 0 rfl rfl 7 (by decide) (hts (.fieldLink RX5 33 "LeastNeed$Valley" "holder" "[I") (List.mem_of_getElem? (i := 5) rfl)) (fun _ h9 => h9) rfl dX5_dayGoesBy_71 ?_
          refine lv_iload_n hx hb dX5_dayGoesBy_74 rfl (lv_at hl 1 rfl) ?_
          refine lv_iload_n hx hb dX5_dayGoesBy_75 rfl (lv_at hl 2 rfl) ?_
          obtain ⟨hi76, hd⟩ := dn_i hd
          refine k_iast (D := D) (k := x1.toNatClampNeg) (by rfl) hx hb hK hP hD hS 8 1 rfl rfl hi76 dX5_dayGoesBy_76 (fun H locs hP hD hS => ?_)
          have hP : va_P D vwCl (wX5 cs a (k_w (k_w S 9 w1.toNatClampNeg w0) 8 x1.toNatClampNeg x2)) H := hP
          have hD : va_D A (wX5 cs a (k_w (k_w S 9 w1.toNatClampNeg w0) 8 x1.toNatClampNeg x2)) := hD
          refine lv_iinc (v := x1 + (1 : Int32)) (lv' := [(1, .int (x1 + (1 : Int32))), (0, .ref (a 0)), (2, .int x2)]) hx hb dX5_dayGoesBy_77 hl (k := 1) rfl rfl (by decide) rfl (fun ls hl => ?_)
          refine lv_goto (tgt := 2) hx hb dX5_dayGoesBy_80 (by decide) ?_
          exact ih1 (x1 + (1 : Int32)) (k_w (k_w S 9 w1.toNatClampNeg w0) 8 x1.toNatClampNeg x2) _ _ _ (dn_bk hd hy1) (lv_sub hl [1, 0] rfl) hP hS
      unfold nX5_dayGoesBy_l2 at hd
      refine lv_iload_n hx hb dX5_dayGoesBy_2 rfl (lv_at hl 1 rfl) ?_
      refine lv_aload_n hx hb dX5_dayGoesBy_3 rfl (lv_at hl 0 rfl) ?_
      refine va_get (D := D) (ci := 3) (v := .int (S 0 13)) (C := RX5) (T := TX5) (N := 15) hx hb hts (fun w h => List.mem_cons_of_mem _ (List.mem_append_right _ h)) hown hK hP 0 rfl rfl 13 (by decide) (hts (.fieldLink RX5 58 "LeastNeed$Valley" "things" "I") (List.mem_of_getElem? (i := 1) rfl)) (fun _ h9 => h9) rfl dX5_dayGoesBy_4 ?_
      refine lv_icmp_ge (tgt := 83) hx hb dX5_dayGoesBy_7 (by decide) (fun c7 => ?_) (fun c7 => ?_)
      · have hd := dn_t c7 hd
        have hd := dn_up hd hy1
        refine lv_aload_n hx hb dX5_dayGoesBy_83 rfl (lv_at hl 0 rfl) ?_
        refine lv_dup hx hb dX5_dayGoesBy_84 rfl ?_
        refine va_get (D := D) (ci := 3) (v := .int (S 0 14)) (C := RX5) (T := TX5) (N := 15) hx hb hts (fun w h => List.mem_cons_of_mem _ (List.mem_append_right _ h)) hown hK hP 0 rfl rfl 14 (by decide) (hts (.fieldLink RX5 61 "LeastNeed$Valley" "today" "I") (List.mem_of_getElem? (i := 6) rfl)) (fun _ h9 => h9) rfl dX5_dayGoesBy_85 ?_
        refine lv_iconst (v := (1 : Int32)) hx hb dX5_dayGoesBy_88 (by decide) ?_
        refine lv_iadd hx hb dX5_dayGoesBy_89 ?_
        refine va_put (D := D) (ci := 3) (v := .int ((S 0 14) + (1 : Int32))) (ty := .int) (C := RX5) (T := TX5) (N := 15) hx hb hts (fun w h => List.mem_cons_of_mem _ (List.mem_append_right _ h)) tyX5 tyX5_ok nmX5 hown hK hP hD hS 0 rfl rfl 14 (by decide) (hts (.fieldLink RX5 61 "LeastNeed$Valley" "today" "I") (List.mem_of_getElem? (i := 6) rfl)) (fun _ h9 => h9) rfl (by decide +kernel) rfl rfl (Nat.le_of_ble_eq_true rfl) dX5_dayGoesBy_90 (fun H locs hP hD hS => ?_)
        have hP : va_P D vwCl (wX5 cs a (k_w S 0 14 ((S 0 14) + (1 : Int32)))) H := hP
        have hD : va_D A (wX5 cs a (k_w S 0 14 ((S 0 14) + (1 : Int32)))) := hD
        have e1 := dn_s1 hd
        exact k_vret hx hb hr hQ hAe (by rw [e1]) hP hS hlocks dX5_dayGoesBy_93
      · have hd := dn_f c7 hd
        refine lv_aload_n hx hb dX5_dayGoesBy_10 rfl (lv_at hl 0 rfl) ?_
        refine va_get (D := D) (ci := 3) (v := .ref (a 9)) (C := RX5) (T := TX5) (N := 15) hx hb hts (fun w h => List.mem_cons_of_mem _ (List.mem_append_right _ h)) hown hK hP 0 rfl rfl 8 (by decide) (hts (.fieldLink RX5 36 "LeastNeed$Valley" "place" "[I") (List.mem_of_getElem? (i := 2) rfl)) (fun _ h9 => h9) rfl dX5_dayGoesBy_11 ?_
        refine lv_iload_n hx hb dX5_dayGoesBy_14 rfl (lv_at hl 1 rfl) ?_
        obtain ⟨hi15, hd⟩ := dn_i hd
        refine k_iald (D := D) (k := x1.toNatClampNeg) (by rfl) hx hb hK hP 9 1 rfl rfl hi15 dX5_dayGoesBy_15 ?_
        refine lv_if_ne (tgt := 22) hx hb dX5_dayGoesBy_16 (by decide) (fun c16 => ?_) (fun c16 => ?_)
        · have hd := dn_f c16 hd
          refine lv_aload_n hx hb dX5_dayGoesBy_22 rfl (lv_at hl 0 rfl) ?_
          refine lv_aload_n hx hb dX5_dayGoesBy_23 rfl (lv_at hl 0 rfl) ?_
          refine va_get (D := D) (ci := 3) (v := .ref (a 5)) (C := RX5) (T := TX5) (N := 15) hx hb hts (fun w h => List.mem_cons_of_mem _ (List.mem_append_right _ h)) hown hK hP 0 rfl rfl 4 (by decide) (hts (.fieldLink RX5 24 "LeastNeed$Valley" "thingKind" "[I") (List.mem_of_getElem? (i := 3) rfl)) (fun _ h9 => h9) rfl dX5_dayGoesBy_24 ?_
          refine lv_iload_n hx hb dX5_dayGoesBy_27 rfl (lv_at hl 1 rfl) ?_
          obtain ⟨hi28, hd⟩ := dn_i hd
          refine k_iald (D := D) (k := x1.toNatClampNeg) (by rfl) hx hb hK hP 5 1 rfl rfl hi28 dX5_dayGoesBy_28 ?_
          refine lv_aload_n hx hb dX5_dayGoesBy_29 rfl (lv_at hl 0 rfl) ?_
          refine va_get (D := D) (ci := 3) (v := .ref (a 6)) (C := RX5) (T := TX5) (N := 15) hx hb hts (fun w h => List.mem_cons_of_mem _ (List.mem_append_right _ h)) hown hK hP 0 rfl rfl 5 (by decide) (hts (.fieldLink RX5 27 "LeastNeed$Valley" "sort" "[I") (List.mem_of_getElem? (i := 4) rfl)) (fun _ h9 => h9) rfl dX5_dayGoesBy_30 ?_
          refine lv_iload_n hx hb dX5_dayGoesBy_33 rfl (lv_at hl 1 rfl) ?_
          obtain ⟨hi34, hd⟩ := dn_i hd
          refine k_iald (D := D) (k := x1.toNatClampNeg) (by rfl) hx hb hK hP 6 1 rfl rfl hi34 dX5_dayGoesBy_34 ?_
          refine lv_aload_n hx hb dX5_dayGoesBy_35 rfl (lv_at hl 0 rfl) ?_
          refine va_get (D := D) (ci := 3) (v := .ref (a 8)) (C := RX5) (T := TX5) (N := 15) hx hb hts (fun w h => List.mem_cons_of_mem _ (List.mem_append_right _ h)) hown hK hP 0 rfl rfl 7 (by decide) (hts (.fieldLink RX5 33 "LeastNeed$Valley" "holder" "[I") (List.mem_of_getElem? (i := 5) rfl)) (fun _ h9 => h9) rfl dX5_dayGoesBy_36 ?_
          refine lv_iload_n hx hb dX5_dayGoesBy_39 rfl (lv_at hl 1 rfl) ?_
          obtain ⟨hi40, hd⟩ := dn_i hd
          refine k_iald (D := D) (k := x1.toNatClampNeg) (by rfl) hx hb hK hP 8 1 rfl rfl hi40 dX5_dayGoesBy_40 ?_
          refine lv_aload_n hx hb dX5_dayGoesBy_41 rfl (lv_at hl 0 rfl) ?_
          refine va_get (D := D) (ci := 3) (v := .int (S 0 14)) (C := RX5) (T := TX5) (N := 15) hx hb hts (fun w h => List.mem_cons_of_mem _ (List.mem_append_right _ h)) hown hK hP 0 rfl rfl 14 (by decide) (hts (.fieldLink RX5 61 "LeastNeed$Valley" "today" "I") (List.mem_of_getElem? (i := 6) rfl)) (fun _ h9 => h9) rfl dX5_dayGoesBy_42 ?_
          obtain ⟨r45, hq45, hd⟩ := dn_b1 hd
          have hF := k_self hD hS hA
          refine k_run_i (va_runV (As := [.int (S 5 x1.toNatClampNeg), .int (S 6 x1.toNatClampNeg), .int (S 8 x1.toNatClampNeg), .int (S 0 14)]) (rest := []) ⟨hx, hb, hml, hown, hts⟩ (mX5_goesTo l D cs a S (S 5 x1.toNatClampNeg) (S 6 x1.toNatClampNeg) (S 8 x1.toNatClampNeg) (S 0 14) r45 hq45 _) (cwV 4 hts gX5_dayGoesBy_X5_goesTo rfl rfl rfl (by decide +kernel) ⟨Nat.le_of_ble_eq_true rfl, Nat.le_of_ble_eq_true rfl⟩) ⟨k_blind, va_recv hK hP (ci := 3) (q0 := 0) rfl rfl, k_pre hP hK hNn hD⟩ rfl rfl hl.1 rfl (lv_room (Nat.le_of_ble_eq_true rfl)) dX5_dayGoesBy_45 ⟨Nat.le_of_ble_eq_true rfl, Nat.le_of_ble_eq_true rfl⟩) hS hF (fun H locs hP1 hk hS => ?_)
          have hP : va_P D vwCl (wX5 cs a S) H := hP1
          have hD := hDA S
          refine lv_istore_n (lv' := [(2, .int r45), (0, .ref (a 0)), (1, .int x1)]) hx hb dX5_dayGoesBy_48 rfl hl (by decide) rfl (fun ls hl => ?_)
          refine lv_aload_n hx hb dX5_dayGoesBy_49 rfl (lv_at hl 1 rfl) ?_
          refine va_get (D := D) (ci := 3) (v := .ref (a 9)) (C := RX5) (T := TX5) (N := 15) hx hb hts (fun w h => List.mem_cons_of_mem _ (List.mem_append_right _ h)) hown hK hP 0 rfl rfl 8 (by decide) (hts (.fieldLink RX5 36 "LeastNeed$Valley" "place" "[I") (List.mem_of_getElem? (i := 2) rfl)) (fun _ h9 => h9) rfl dX5_dayGoesBy_50 ?_
          refine lv_iload_n hx hb dX5_dayGoesBy_53 rfl (lv_at hl 2 rfl) ?_
          refine lv_iload_n hx hb dX5_dayGoesBy_54 rfl (lv_at hl 0 rfl) ?_
          refine lv_iconst (v := (-1 : Int32)) hx hb dX5_dayGoesBy_55 (by decide) ?_
          refine lv_icmp_ne (tgt := 63) hx hb dX5_dayGoesBy_56 (by decide) (fun c56 => ?_) (fun c56 => ?_)
          · have hd := dn_f c56 hd
            refine lv_iconst (v := (0 : Int32)) hx hb dX5_dayGoesBy_63 (by decide) ?_
            exact Jo64 x1 r45 (0 : Int32) x1 S _ _ _ hd (lv_sub hl [1, 2, 0] rfl) hP hS
          · have hd := dn_t c56 hd
            refine lv_iconst (v := (2 : Int32)) hx hb dX5_dayGoesBy_59 (by decide) ?_
            refine lv_goto (tgt := 64) hx hb dX5_dayGoesBy_60 (by decide) ?_
            exact Jo64 x1 r45 (2 : Int32) x1 S _ _ _ hd (lv_sub hl [1, 2, 0] rfl) hP hS
        · have hd := dn_t c16 hd
          refine lv_goto (tgt := 77) hx hb dX5_dayGoesBy_19 (by decide) ?_
          refine lv_iinc (v := x1 + (1 : Int32)) (lv' := [(1, .int (x1 + (1 : Int32))), (0, .ref (a 0))]) hx hb dX5_dayGoesBy_77 hl (k := 1) rfl rfl (by decide) rfl (fun ls hl => ?_)
          refine lv_goto (tgt := 2) hx hb dX5_dayGoesBy_80 (by decide) ?_
          exact ih1 (x1 + (1 : Int32)) S _ _ _ (dn_bk hd hy1) (lv_sub hl [1, 0] rfl) hP hS
  unfold nX5_dayGoesBy at hd
  refine lv_iconst (v := (0 : Int32)) hx hb dX5_dayGoesBy_0 (by decide) ?_
  refine lv_istore_n (lv' := [(1, .int (0 : Int32)), (0, .ref (a 0))]) hx hb dX5_dayGoesBy_1 rfl hl (by decide) rfl (fun ls hl => ?_)
  exact Lo2 1000 (0 : Int32) S _ _ _ hd (lv_sub hl [1, 0] rfl) hP hS
