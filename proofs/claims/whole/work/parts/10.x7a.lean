theorem wsX7_a4 (cs : Nat → ClassId) (a : Nat → Nat) (S : Nat → Nat → Int32) (L : Nat → Nat → Int64) (k : Nat) (x : Int32) : List.set (wX7 cs a S L) 4 (a 4, .inl (cs 1, 3, .inl (upd (S 4) k x))) = (wX7 cs a (k_w S 4 k x) L) := rfl
theorem wsX7_a1 (cs : Nat → ClassId) (a : Nat → Nat) (S : Nat → Nat → Int32) (L : Nat → Nat → Int64) (k : Nat) (x : Int32) : List.set (wX7 cs a S L) 1 (a 1, .inl (cs 1, 284, .inl (upd (S 1) k x))) = (wX7 cs a (k_w S 1 k x) L) := rfl
theorem wsX7_a5 (cs : Nat → ClassId) (a : Nat → Nat) (S : Nat → Nat → Int32) (L : Nat → Nat → Int64) (k : Nat) (x : Int32) : List.set (wX7 cs a S L) 5 (a 5, .inl (cs 1, 7, .inl (upd (S 5) k x))) = (wX7 cs a (k_w S 5 k x) L) := rfl
theorem wsX7_a6 (cs : Nat → ClassId) (a : Nat → Nat) (S : Nat → Nat → Int32) (L : Nat → Nat → Int64) (k : Nat) (x : Int32) : List.set (wX7 cs a S L) 6 (a 6, .inl (cs 1, 7, .inl (upd (S 6) k x))) = (wX7 cs a (k_w S 6 k x) L) := rfl
theorem wsX7_a7 (cs : Nat → ClassId) (a : Nat → Nat) (S : Nat → Nat → Int32) (L : Nat → Nat → Int64) (k : Nat) (x : Int32) : List.set (wX7 cs a S L) 7 (a 7, .inl (cs 1, 14, .inl (upd (S 7) k x))) = (wX7 cs a (k_w S 7 k x) L) := rfl
theorem wsX7_a8 (cs : Nat → ClassId) (a : Nat → Nat) (S : Nat → Nat → Int32) (L : Nat → Nat → Int64) (k : Nat) (x : Int32) : List.set (wX7 cs a S L) 8 (a 8, .inl (cs 1, 14, .inl (upd (S 8) k x))) = (wX7 cs a (k_w S 8 k x) L) := rfl
theorem wsX7_a9 (cs : Nat → ClassId) (a : Nat → Nat) (S : Nat → Nat → Int32) (L : Nat → Nat → Int64) (k : Nat) (x : Int32) : List.set (wX7 cs a S L) 9 (a 9, .inl (cs 1, 5, .inl (upd (S 9) k x))) = (wX7 cs a (k_w S 9 k x) L) := rfl
theorem wsX7_a10 (cs : Nat → ClassId) (a : Nat → Nat) (S : Nat → Nat → Int32) (L : Nat → Nat → Int64) (k : Nat) (x : Int32) : List.set (wX7 cs a S L) 10 (a 10, .inl (cs 1, 6, .inl (upd (S 10) k x))) = (wX7 cs a (k_w S 10 k x) L) := rfl
theorem wsX7_a11 (cs : Nat → ClassId) (a : Nat → Nat) (S : Nat → Nat → Int32) (L : Nat → Nat → Int64) (k : Nat) (x : Int32) : List.set (wX7 cs a S L) 11 (a 11, .inl (cs 1, 36, .inl (upd (S 11) k x))) = (wX7 cs a (k_w S 11 k x) L) := rfl
theorem wsX7_a12 (cs : Nat → ClassId) (a : Nat → Nat) (S : Nat → Nat → Int32) (L : Nat → Nat → Int64) (k : Nat) (x : Int32) : List.set (wX7 cs a S L) 12 (a 12, .inl (cs 1, 36, .inl (upd (S 12) k x))) = (wX7 cs a (k_w S 12 k x) L) := rfl
theorem wsX7_f0_4 (cs : Nat → ClassId) (a : Nat → Nat) (S : Nat → Nat → Int32) (L : Nat → Nat → Int64) (x : Int64) : List.set (wX7 cs a S L) 0 (a 0, .inr (5, ([.ref (a 1), .ref (a 2), .ref (a 3), .ref (a 4), .long (L 0 4), .long (L 0 5), .ref (a 5), .ref (a 6), .ref (a 7), .ref (a 8), .ref (a 9), .ref (a 10), .ref (a 11), .ref (a 12), .ref (a 13), .ref (a 14), .ref (a 15), .ref (a 16), .int (S 0 18), .int (S 0 19), .int (S 0 20), .int (S 0 21), .int (S 0 22), .ref (a 17), .ref (a 18)] : List Value).set 4 (.long x))) = (wX7 cs a S (k_wl L 0 4 x)) := rfl
theorem wsX7_f0_5 (cs : Nat → ClassId) (a : Nat → Nat) (S : Nat → Nat → Int32) (L : Nat → Nat → Int64) (x : Int64) : List.set (wX7 cs a S L) 0 (a 0, .inr (5, ([.ref (a 1), .ref (a 2), .ref (a 3), .ref (a 4), .long (L 0 4), .long (L 0 5), .ref (a 5), .ref (a 6), .ref (a 7), .ref (a 8), .ref (a 9), .ref (a 10), .ref (a 11), .ref (a 12), .ref (a 13), .ref (a 14), .ref (a 15), .ref (a 16), .int (S 0 18), .int (S 0 19), .int (S 0 20), .int (S 0 21), .int (S 0 22), .ref (a 17), .ref (a 18)] : List Value).set 5 (.long x))) = (wX7 cs a S (k_wl L 0 5 x)) := rfl
theorem wsX7_a14 (cs : Nat → ClassId) (a : Nat → Nat) (S : Nat → Nat → Int32) (L : Nat → Nat → Int64) (k : Nat) (x : Int64) : List.set (wX7 cs a S L) 14 (a 14, .inl (cs 2, 14, .inr (.inl (vp_updL (L 14) k x)))) = (wX7 cs a S (k_wl L 14 k x)) := rfl
theorem wsX7_a13 (cs : Nat → ClassId) (a : Nat → Nat) (S : Nat → Nat → Int32) (L : Nat → Nat → Int64) (k : Nat) (x : Int64) : List.set (wX7 cs a S L) 13 (a 13, .inl (cs 2, 14, .inr (.inl (vp_updL (L 13) k x)))) = (wX7 cs a S (k_wl L 13 k x)) := rfl
theorem wsX7_a15 (cs : Nat → ClassId) (a : Nat → Nat) (S : Nat → Nat → Int32) (L : Nat → Nat → Int64) (k : Nat) (x : Int32) : List.set (wX7 cs a S L) 15 (a 15, .inl (cs 1, 80, .inl (upd (S 15) k x))) = (wX7 cs a (k_w S 15 k x) L) := rfl
theorem wsX7_a16 (cs : Nat → ClassId) (a : Nat → Nat) (S : Nat → Nat → Int32) (L : Nat → Nat → Int64) (k : Nat) (x : Int32) : List.set (wX7 cs a S L) 16 (a 16, .inl (cs 1, 150, .inl (upd (S 16) k x))) = (wX7 cs a (k_w S 16 k x) L) := rfl
theorem wsX7_f0_18 (cs : Nat → ClassId) (a : Nat → Nat) (S : Nat → Nat → Int32) (L : Nat → Nat → Int64) (x : Int32) : List.set (wX7 cs a S L) 0 (a 0, .inr (5, ([.ref (a 1), .ref (a 2), .ref (a 3), .ref (a 4), .long (L 0 4), .long (L 0 5), .ref (a 5), .ref (a 6), .ref (a 7), .ref (a 8), .ref (a 9), .ref (a 10), .ref (a 11), .ref (a 12), .ref (a 13), .ref (a 14), .ref (a 15), .ref (a 16), .int (S 0 18), .int (S 0 19), .int (S 0 20), .int (S 0 21), .int (S 0 22), .ref (a 17), .ref (a 18)] : List Value).set 18 (.int x))) = (wX7 cs a (k_w S 0 18 x) L) := rfl
theorem wsX7_f0_19 (cs : Nat → ClassId) (a : Nat → Nat) (S : Nat → Nat → Int32) (L : Nat → Nat → Int64) (x : Int32) : List.set (wX7 cs a S L) 0 (a 0, .inr (5, ([.ref (a 1), .ref (a 2), .ref (a 3), .ref (a 4), .long (L 0 4), .long (L 0 5), .ref (a 5), .ref (a 6), .ref (a 7), .ref (a 8), .ref (a 9), .ref (a 10), .ref (a 11), .ref (a 12), .ref (a 13), .ref (a 14), .ref (a 15), .ref (a 16), .int (S 0 18), .int (S 0 19), .int (S 0 20), .int (S 0 21), .int (S 0 22), .ref (a 17), .ref (a 18)] : List Value).set 19 (.int x))) = (wX7 cs a (k_w S 0 19 x) L) := rfl
theorem wsX7_f0_20 (cs : Nat → ClassId) (a : Nat → Nat) (S : Nat → Nat → Int32) (L : Nat → Nat → Int64) (x : Int32) : List.set (wX7 cs a S L) 0 (a 0, .inr (5, ([.ref (a 1), .ref (a 2), .ref (a 3), .ref (a 4), .long (L 0 4), .long (L 0 5), .ref (a 5), .ref (a 6), .ref (a 7), .ref (a 8), .ref (a 9), .ref (a 10), .ref (a 11), .ref (a 12), .ref (a 13), .ref (a 14), .ref (a 15), .ref (a 16), .int (S 0 18), .int (S 0 19), .int (S 0 20), .int (S 0 21), .int (S 0 22), .ref (a 17), .ref (a 18)] : List Value).set 20 (.int x))) = (wX7 cs a (k_w S 0 20 x) L) := rfl
theorem wsX7_f0_21 (cs : Nat → ClassId) (a : Nat → Nat) (S : Nat → Nat → Int32) (L : Nat → Nat → Int64) (x : Int32) : List.set (wX7 cs a S L) 0 (a 0, .inr (5, ([.ref (a 1), .ref (a 2), .ref (a 3), .ref (a 4), .long (L 0 4), .long (L 0 5), .ref (a 5), .ref (a 6), .ref (a 7), .ref (a 8), .ref (a 9), .ref (a 10), .ref (a 11), .ref (a 12), .ref (a 13), .ref (a 14), .ref (a 15), .ref (a 16), .int (S 0 18), .int (S 0 19), .int (S 0 20), .int (S 0 21), .int (S 0 22), .ref (a 17), .ref (a 18)] : List Value).set 21 (.int x))) = (wX7 cs a (k_w S 0 21 x) L) := rfl
theorem wsX7_f0_22 (cs : Nat → ClassId) (a : Nat → Nat) (S : Nat → Nat → Int32) (L : Nat → Nat → Int64) (x : Int32) : List.set (wX7 cs a S L) 0 (a 0, .inr (5, ([.ref (a 1), .ref (a 2), .ref (a 3), .ref (a 4), .long (L 0 4), .long (L 0 5), .ref (a 5), .ref (a 6), .ref (a 7), .ref (a 8), .ref (a 9), .ref (a 10), .ref (a 11), .ref (a 12), .ref (a 13), .ref (a 14), .ref (a 15), .ref (a 16), .int (S 0 18), .int (S 0 19), .int (S 0 20), .int (S 0 21), .int (S 0 22), .ref (a 17), .ref (a 18)] : List Value).set 22 (.int x))) = (wX7 cs a (k_w S 0 22 x) L) := rfl
theorem wsX7_a18 (cs : Nat → ClassId) (a : Nat → Nat) (S : Nat → Nat → Int32) (L : Nat → Nat → Int64) (k : Nat) (x : Int32) : List.set (wX7 cs a S L) 18 (a 18, .inl (cs 1, 6, .inl (upd (S 18) k x))) = (wX7 cs a (k_w S 18 k x) L) := rfl
theorem wsX7_a17 (cs : Nat → ClassId) (a : Nat → Nat) (S : Nat → Nat → Int32) (L : Nat → Nat → Int64) (k : Nat) (x : Int32) : List.set (wX7 cs a S L) 17 (a 17, .inl (cs 1, 140, .inl (upd (S 17) k x))) = (wX7 cs a (k_w S 17 k x) L) := rfl
theorem wsX7_a3 (cs : Nat → ClassId) (a : Nat → Nat) (S : Nat → Nat → Int32) (L : Nat → Nat → Int64) (k : Nat) (x : Int32) : List.set (wX7 cs a S L) 3 (a 3, .inl (cs 3, 2, .inl (upd (S 3) k x))) = (wX7 cs a (k_w S 3 k x) L) := rfl
theorem wsX7_a2 (cs : Nat → ClassId) (a : Nat → Nat) (S : Nat → Nat → Int32) (L : Nat → Nat → Int64) (k : Nat) (x : Int32) : List.set (wX7 cs a S L) 2 (a 2, .inl (cs 1, 568, .inl (upd (S 2) k x))) = (wX7 cs a (k_w S 2 k x) L) := rfl
-- LeastNeedModel.in(JJJ)Z
set_option maxRecDepth 20000 in
def nX7_in (p0 : Int64) (p2 : Int64) (p4 : Int64) : Option (Int32) := if (lg_cmp p0 p2) < 0 then some (0 : Int32) else if 0 < (lg_cmp p0 p4) then some (0 : Int32) else some (1 : Int32)
set_option maxHeartbeats 4000000 in
set_option maxRecDepth 100000 in
theorem mX7_in (l : Launch) (D : va_G) (cs : Nat → ClassId) (p0 : Int64) (p2 : Int64) (p4 : Int64) (r9 : Int32) (hd : nX7_in p0 p2 p4 = some r9) : ∀ sz : Nat, Met l yX7_in wsX7_in ({ frames := 0, cells := 0, slots := 0, locals := 0 }) (k_Pc D cs [.long p0, .long p2, .long p4] ([] : va_W) sz) (k_Qi D r9 ([] : va_W) ([] : va_W) sz) 0 0 (va_A ([] : va_W) sz) := by
  intro sz
  refine Met.ofW (cc := cX7_in) (maxL := 6) (ret := (some .boolean)) (by decide) rfl ?_
  intro p e s m args below meth c s₁ B hml hv
  obtain ⟨rfl, hsz, hP, hK, hD0, hNn⟩ := hv
  have hx := B.exec
  have hb := B.bytes
  have hr := B.returns
  have hts := atoms_spec (ws := wsX7_in) B.pre
  have hown : s.vm.findClass RX7 = some m.cls := findClass_of_methodNamed B.named
  have hlocks := B.notSynchronized
  subst hsz
  obtain ⟨A, hAe⟩ : ∃ A : Nat → Prop, A = va_A ([] : va_W) s.heap.size := ⟨_, rfl⟩
  have hD : va_D A ([] : va_W) := by rw [hAe]; exact hD0.self
  have hA : ∀ q : Nat, s.heap.size ≤ q → A q := fun q h => by rw [hAe]; exact Or.inr h
  have hS : va_S A s.heap s.heap [] := va_S.rf
  have hl := lv_entry ([.long p0, .long p2, .long p4]) (n := 6) (Nat.le_of_ble_eq_true rfl)
  rw [lg_entry_eq]
  generalize (lg_sl ([.long p0, .long p2, .long p4]) ++ List.replicate (6 - (lg_sl ([.long p0, .long p2, .long p4])).length) Slot.unset).toArray = ls at hl ⊢
  have hl : lv_has ls 6 [(0, .long p0), (2, .long p2), (4, .long p4)] := hl
  obtain ⟨Q, hQ⟩ : ∃ Q, Q = MQ below (k_Qi D r9 ([] : va_W) ([] : va_W) s.heap.size) ([.long p0, .long p2, .long p4] : List Value).toArray s 0 0 (va_A ([] : va_W) s.heap.size) := ⟨_, rfl⟩
  rw [← hQ]
  unfold nX7_in at hd
  refine lv_lload_n hx hb dX7_in_0 rfl (lv_at hl 0 rfl) ?_
  refine lv_lload_n hx hb dX7_in_1 rfl (lv_at hl 1 rfl) ?_
  refine W.lcmp hx hb dX7_in_2 ?_
  refine lv_if_lt (tgt := 17) hx hb dX7_in_3 (by decide) (fun c3 => ?_) (fun c3 => ?_)
  · have hd := dn_t c3 hd
    refine lv_iconst (v := (0 : Int32)) hx hb dX7_in_17 (by decide) ?_
    have e1 := dn_s1 hd
    exact k_zret hx hb hr rfl hQ hAe e1 rfl hP hS hlocks dX7_in_18
  · have hd := dn_f c3 hd
    refine lv_lload_n hx hb dX7_in_6 rfl (lv_at hl 0 rfl) ?_
    refine lv_lload hx hb dX7_in_7 (lv_at hl 2 rfl) ?_
    refine W.lcmp hx hb dX7_in_9 ?_
    refine lv_if_gt (tgt := 17) hx hb dX7_in_10 (by decide) (fun c10 => ?_) (fun c10 => ?_)
    · have hd := dn_t c10 hd
      refine lv_iconst (v := (0 : Int32)) hx hb dX7_in_17 (by decide) ?_
      have e1 := dn_s1 hd
      exact k_zret hx hb hr rfl hQ hAe e1 rfl hP hS hlocks dX7_in_18
    · have hd := dn_f c10 hd
      refine lv_iconst (v := (1 : Int32)) hx hb dX7_in_13 (by decide) ?_
      refine lv_goto (tgt := 18) hx hb dX7_in_14 (by decide) ?_
      have e1 := dn_s1 hd
      exact k_zret hx hb hr rfl hQ hAe e1 rfl hP hS hlocks dX7_in_18
-- LeastNeedModel.bad(I)I
set_option maxRecDepth 20000 in
def nX7_bad (S : Nat → Nat → Int32) (L : Nat → Nat → Int64) (p1 : Int32) : Option (Int32 × (Nat → Nat → Int32)) := some (p1, (k_w S 4 0 ((S 4 0) + (1 : Int32))))
set_option maxHeartbeats 4000000 in
set_option maxRecDepth 100000 in
theorem mX7_bad (l : Launch) (D : va_G) (cs : Nat → ClassId) (a : Nat → Nat) (S : Nat → Nat → Int32) (L : Nat → Nat → Int64) (p1 : Int32) (r9 : Int32) (S9 : (Nat → Nat → Int32)) (hd : nX7_bad S L p1 = some (r9, S9)) : ∀ sz : Nat, Met l yX7_bad wsX7_bad ({ frames := 0, cells := 0, slots := 0, locals := 0 }) (k_Pc D cs [.ref (a 0), .int p1] (wX7 cs a S L) sz) (k_Qi D r9 (wX7 cs a S L) (wX7 cs a S9 L) sz) 0 0 (va_A (wX7 cs a S L) sz) := by
  intro sz
  refine Met.ofW (cc := cX7_bad) (maxL := 2) (ret := (some .int)) (by decide) rfl ?_
  intro p e s m args below meth c s₁ B hml hv
  obtain ⟨rfl, hsz, hP, hK, hD0, hNn⟩ := hv
  have hx := B.exec
  have hb := B.bytes
  have hr := B.returns
  have hts := atoms_spec (ws := wsX7_bad) B.pre
  have hown : s.vm.findClass RX7 = some m.cls := findClass_of_methodNamed B.named
  have hlocks := B.notSynchronized
  subst hsz
  obtain ⟨A, hAe⟩ : ∃ A : Nat → Prop, A = va_A (wX7 cs a S L) s.heap.size := ⟨_, rfl⟩
  have hD : va_D A (wX7 cs a S L) := by rw [hAe]; exact hD0.self
  have hA : ∀ q : Nat, s.heap.size ≤ q → A q := fun q h => by rw [hAe]; exact Or.inr h
  have hS : va_S A s.heap s.heap [] := va_S.rf
  have hDA : ∀ (S : Nat → Nat → Int32) (L : Nat → Nat → Int64), va_D A (wX7 cs a S L) := fun S L => k_DA hD rfl
  have hl := lv_entry ([.ref (a 0), .int p1]) (n := 2) (Nat.le_of_ble_eq_true rfl)
  rw [lg_entry_eq]
  generalize (lg_sl ([.ref (a 0), .int p1]) ++ List.replicate (2 - (lg_sl ([.ref (a 0), .int p1])).length) Slot.unset).toArray = ls at hl ⊢
  have hl : lv_has ls 2 [(0, .ref (a 0)), (1, .int p1)] := hl
  obtain ⟨Q, hQ⟩ : ∃ Q, Q = MQ below (k_Qi D r9 (wX7 cs a S L) (wX7 cs a S9 L) s.heap.size) ([.ref (a 0), .int p1] : List Value).toArray s 0 0 (va_A (wX7 cs a S L) s.heap.size) := ⟨_, rfl⟩
  rw [← hQ]
  unfold nX7_bad at hd
  refine lv_aload_n hx hb dX7_bad_0 rfl (lv_at hl 0 rfl) ?_
  refine va_get (D := D) (ci := 5) (v := .ref (a 4)) (C := RX7) (T := TX7) (N := 25) hx hb hts (fun w h => List.mem_cons_of_mem _ (List.mem_append_right _ h)) hown hK hP 0 rfl rfl 3 (by decide) (hts (.fieldLink RX7 20 "LeastNeedModel" "refused" "[I") (List.mem_of_getElem? (i := 1) rfl)) (fun _ h9 => h9) rfl dX7_bad_1 ?_
  refine lv_iconst (v := (0 : Int32)) hx hb dX7_bad_4 (by decide) ?_
  refine lv_dup2_11 hx hb dX7_bad_5 rfl rfl ?_
  refine k_iald (D := D) (k := 0) (by rfl) hx hb hK hP 4 1 rfl rfl (k_in (by decide)) dX7_bad_6 ?_
  refine lv_iconst (v := (1 : Int32)) hx hb dX7_bad_7 (by decide) ?_
  refine lv_iadd hx hb dX7_bad_8 ?_
  refine k_iast (D := D) (k := 0) (by rfl) hx hb hK hP hD hS 4 1 rfl rfl (k_in (by decide)) dX7_bad_9 (fun H locs hP hD hS => ?_)
  have hP : va_P D vwCl (wX7 cs a (k_w S 4 0 ((S 4 0) + (1 : Int32))) L) _ := k_eq hP (wsX7_a4 cs a S L 0 ((S 4 0) + (1 : Int32)))
  have hD := hDA (k_w S 4 0 ((S 4 0) + (1 : Int32))) L
  refine lv_iload_n hx hb dX7_bad_10 rfl (lv_at hl 1 rfl) ?_
  obtain ⟨e1, e2⟩ := dn_s2 hd
  exact k_iret hx hb hr hQ hAe e1 (by rw [e2]) hP hS hlocks dX7_bad_11
-- LeastNeedModel.no()I
set_option maxRecDepth 20000 in
def nX7_no (S : Nat → Nat → Int32) (L : Nat → Nat → Int64) : Option (Int32 × (Nat → Nat → Int32)) := some ((-3 : Int32), (k_w S 4 1 ((S 4 1) + (1 : Int32))))
set_option maxHeartbeats 4000000 in
set_option maxRecDepth 100000 in
theorem mX7_no (l : Launch) (D : va_G) (cs : Nat → ClassId) (a : Nat → Nat) (S : Nat → Nat → Int32) (L : Nat → Nat → Int64) (r9 : Int32) (S9 : (Nat → Nat → Int32)) (hd : nX7_no S L = some (r9, S9)) : ∀ sz : Nat, Met l yX7_no wsX7_no ({ frames := 0, cells := 0, slots := 0, locals := 0 }) (k_Pc D cs [.ref (a 0)] (wX7 cs a S L) sz) (k_Qi D r9 (wX7 cs a S L) (wX7 cs a S9 L) sz) 0 0 (va_A (wX7 cs a S L) sz) := by
  intro sz
  refine Met.ofW (cc := cX7_no) (maxL := 1) (ret := (some .int)) (by decide) rfl ?_
  intro p e s m args below meth c s₁ B hml hv
  obtain ⟨rfl, hsz, hP, hK, hD0, hNn⟩ := hv
  have hx := B.exec
  have hb := B.bytes
  have hr := B.returns
  have hts := atoms_spec (ws := wsX7_no) B.pre
  have hown : s.vm.findClass RX7 = some m.cls := findClass_of_methodNamed B.named
  have hlocks := B.notSynchronized
  subst hsz
  obtain ⟨A, hAe⟩ : ∃ A : Nat → Prop, A = va_A (wX7 cs a S L) s.heap.size := ⟨_, rfl⟩
  have hD : va_D A (wX7 cs a S L) := by rw [hAe]; exact hD0.self
  have hA : ∀ q : Nat, s.heap.size ≤ q → A q := fun q h => by rw [hAe]; exact Or.inr h
  have hS : va_S A s.heap s.heap [] := va_S.rf
  have hDA : ∀ (S : Nat → Nat → Int32) (L : Nat → Nat → Int64), va_D A (wX7 cs a S L) := fun S L => k_DA hD rfl
  have hl := lv_entry ([.ref (a 0)]) (n := 1) (Nat.le_of_ble_eq_true rfl)
  rw [lg_entry_eq]
  generalize (lg_sl ([.ref (a 0)]) ++ List.replicate (1 - (lg_sl ([.ref (a 0)])).length) Slot.unset).toArray = ls at hl ⊢
  have hl : lv_has ls 1 [(0, .ref (a 0))] := hl
  obtain ⟨Q, hQ⟩ : ∃ Q, Q = MQ below (k_Qi D r9 (wX7 cs a S L) (wX7 cs a S9 L) s.heap.size) ([.ref (a 0)] : List Value).toArray s 0 0 (va_A (wX7 cs a S L) s.heap.size) := ⟨_, rfl⟩
  rw [← hQ]
  unfold nX7_no at hd
  refine lv_aload_n hx hb dX7_no_0 rfl (lv_at hl 0 rfl) ?_
  refine va_get (D := D) (ci := 5) (v := .ref (a 4)) (C := RX7) (T := TX7) (N := 25) hx hb hts (fun w h => List.mem_cons_of_mem _ (List.mem_append_right _ h)) hown hK hP 0 rfl rfl 3 (by decide) (hts (.fieldLink RX7 20 "LeastNeedModel" "refused" "[I") (List.mem_of_getElem? (i := 1) rfl)) (fun _ h9 => h9) rfl dX7_no_1 ?_
  refine lv_iconst (v := (1 : Int32)) hx hb dX7_no_4 (by decide) ?_
  refine lv_dup2_11 hx hb dX7_no_5 rfl rfl ?_
  refine k_iald (D := D) (k := 1) (by rfl) hx hb hK hP 4 1 rfl rfl (k_in (by decide)) dX7_no_6 ?_
  refine lv_iconst (v := (1 : Int32)) hx hb dX7_no_7 (by decide) ?_
  refine lv_iadd hx hb dX7_no_8 ?_
  refine k_iast (D := D) (k := 1) (by rfl) hx hb hK hP hD hS 4 1 rfl rfl (k_in (by decide)) dX7_no_9 (fun H locs hP hD hS => ?_)
  have hP : va_P D vwCl (wX7 cs a (k_w S 4 1 ((S 4 1) + (1 : Int32))) L) _ := k_eq hP (wsX7_a4 cs a S L 1 ((S 4 1) + (1 : Int32)))
  have hD := hDA (k_w S 4 1 ((S 4 1) + (1 : Int32))) L
  refine lv_bipush (v := (-3 : Int32)) hx hb dX7_no_10 (by decide) ?_
  obtain ⟨e1, e2⟩ := dn_s2 hd
  exact k_iret hx hb hr hQ hAe e1 (by rw [e2]) hP hS hlocks dX7_no_12
-- LeastNeedModel.full()I
set_option maxRecDepth 20000 in
def nX7_full (S : Nat → Nat → Int32) (L : Nat → Nat → Int64) : Option (Int32 × (Nat → Nat → Int32)) := some ((-4 : Int32), (k_w S 4 2 ((S 4 2) + (1 : Int32))))
set_option maxHeartbeats 4000000 in
set_option maxRecDepth 100000 in
theorem mX7_full (l : Launch) (D : va_G) (cs : Nat → ClassId) (a : Nat → Nat) (S : Nat → Nat → Int32) (L : Nat → Nat → Int64) (r9 : Int32) (S9 : (Nat → Nat → Int32)) (hd : nX7_full S L = some (r9, S9)) : ∀ sz : Nat, Met l yX7_full wsX7_full ({ frames := 0, cells := 0, slots := 0, locals := 0 }) (k_Pc D cs [.ref (a 0)] (wX7 cs a S L) sz) (k_Qi D r9 (wX7 cs a S L) (wX7 cs a S9 L) sz) 0 0 (va_A (wX7 cs a S L) sz) := by
  intro sz
  refine Met.ofW (cc := cX7_full) (maxL := 1) (ret := (some .int)) (by decide) rfl ?_
  intro p e s m args below meth c s₁ B hml hv
  obtain ⟨rfl, hsz, hP, hK, hD0, hNn⟩ := hv
  have hx := B.exec
  have hb := B.bytes
  have hr := B.returns
  have hts := atoms_spec (ws := wsX7_full) B.pre
  have hown : s.vm.findClass RX7 = some m.cls := findClass_of_methodNamed B.named
  have hlocks := B.notSynchronized
  subst hsz
  obtain ⟨A, hAe⟩ : ∃ A : Nat → Prop, A = va_A (wX7 cs a S L) s.heap.size := ⟨_, rfl⟩
  have hD : va_D A (wX7 cs a S L) := by rw [hAe]; exact hD0.self
  have hA : ∀ q : Nat, s.heap.size ≤ q → A q := fun q h => by rw [hAe]; exact Or.inr h
  have hS : va_S A s.heap s.heap [] := va_S.rf
  have hDA : ∀ (S : Nat → Nat → Int32) (L : Nat → Nat → Int64), va_D A (wX7 cs a S L) := fun S L => k_DA hD rfl
  have hl := lv_entry ([.ref (a 0)]) (n := 1) (Nat.le_of_ble_eq_true rfl)
  rw [lg_entry_eq]
  generalize (lg_sl ([.ref (a 0)]) ++ List.replicate (1 - (lg_sl ([.ref (a 0)])).length) Slot.unset).toArray = ls at hl ⊢
  have hl : lv_has ls 1 [(0, .ref (a 0))] := hl
  obtain ⟨Q, hQ⟩ : ∃ Q, Q = MQ below (k_Qi D r9 (wX7 cs a S L) (wX7 cs a S9 L) s.heap.size) ([.ref (a 0)] : List Value).toArray s 0 0 (va_A (wX7 cs a S L) s.heap.size) := ⟨_, rfl⟩
  rw [← hQ]
  unfold nX7_full at hd
  refine lv_aload_n hx hb dX7_full_0 rfl (lv_at hl 0 rfl) ?_
  refine va_get (D := D) (ci := 5) (v := .ref (a 4)) (C := RX7) (T := TX7) (N := 25) hx hb hts (fun w h => List.mem_cons_of_mem _ (List.mem_append_right _ h)) hown hK hP 0 rfl rfl 3 (by decide) (hts (.fieldLink RX7 20 "LeastNeedModel" "refused" "[I") (List.mem_of_getElem? (i := 1) rfl)) (fun _ h9 => h9) rfl dX7_full_1 ?_
  refine lv_iconst (v := (2 : Int32)) hx hb dX7_full_4 (by decide) ?_
  refine lv_dup2_11 hx hb dX7_full_5 rfl rfl ?_
  refine k_iald (D := D) (k := 2) (by rfl) hx hb hK hP 4 1 rfl rfl (k_in (by decide)) dX7_full_6 ?_
  refine lv_iconst (v := (1 : Int32)) hx hb dX7_full_7 (by decide) ?_
  refine lv_iadd hx hb dX7_full_8 ?_
  refine k_iast (D := D) (k := 2) (by rfl) hx hb hK hP hD hS 4 1 rfl rfl (k_in (by decide)) dX7_full_9 (fun H locs hP hD hS => ?_)
  have hP : va_P D vwCl (wX7 cs a (k_w S 4 2 ((S 4 2) + (1 : Int32))) L) _ := k_eq hP (wsX7_a4 cs a S L 2 ((S 4 2) + (1 : Int32)))
  have hD := hDA (k_w S 4 2 ((S 4 2) + (1 : Int32))) L
  refine lv_bipush (v := (-4 : Int32)) hx hb dX7_full_10 (by decide) ?_
  obtain ⟨e1, e2⟩ := dn_s2 hd
  exact k_iret hx hb hr hQ hAe e1 (by rw [e2]) hP hS hlocks dX7_full_12
-- LeastNeedModel.bits(I)I
set_option maxRecDepth 20000 in
def nX7_bits_l4 (x1_4 : Int32) (x2_4 : Int32) : Option ((Int32 × Int32) ⊕ (Int32)) := if x2_4 ≤ 0 then k_up (some x1_4) else some (.inl ((x1_4 + (x2_4 &&& (1 : Int32))), (x2_4 >>> ((1 : Int32) &&& 31))))
set_option maxRecDepth 20000 in
def nX7_bits (p0 : Int32) : Option (Int32) := k_it (fun st => nX7_bits_l4 st.1 st.2) 1000 ((0 : Int32), p0)
set_option maxHeartbeats 4000000 in
set_option maxRecDepth 100000 in
theorem mX7_bits (l : Launch) (D : va_G) (cs : Nat → ClassId) (p0 : Int32) (r9 : Int32) (hd : nX7_bits p0 = some r9) : ∀ sz : Nat, Met l yX7_bits wsX7_bits ({ frames := 0, cells := 0, slots := 0, locals := 0 }) (k_Pc D cs [.int p0] ([] : va_W) sz) (k_Qi D r9 ([] : va_W) ([] : va_W) sz) 0 0 (va_A ([] : va_W) sz) := by
  intro sz
  refine Met.ofW (cc := cX7_bits) (maxL := 3) (ret := (some .int)) (by decide) rfl ?_
  intro p e s m args below meth c s₁ B hml hv
  obtain ⟨rfl, hsz, hP, hK, hD0, hNn⟩ := hv
  have hx := B.exec
  have hb := B.bytes
  have hr := B.returns
  have hts := atoms_spec (ws := wsX7_bits) B.pre
  have hown : s.vm.findClass RX7 = some m.cls := findClass_of_methodNamed B.named
  have hlocks := B.notSynchronized
  subst hsz
  obtain ⟨A, hAe⟩ : ∃ A : Nat → Prop, A = va_A ([] : va_W) s.heap.size := ⟨_, rfl⟩
  have hD : va_D A ([] : va_W) := by rw [hAe]; exact hD0.self
  have hA : ∀ q : Nat, s.heap.size ≤ q → A q := fun q h => by rw [hAe]; exact Or.inr h
  have hS : va_S A s.heap s.heap [] := va_S.rf
  have hl := lv_entry ([.int p0]) (n := 3) (Nat.le_of_ble_eq_true rfl)
  rw [lg_entry_eq]
  generalize (lg_sl ([.int p0]) ++ List.replicate (3 - (lg_sl ([.int p0])).length) Slot.unset).toArray = ls at hl ⊢
  have hl : lv_has ls 3 [(0, .int p0)] := hl
  obtain ⟨Q, hQ⟩ : ∃ Q, Q = MQ below (k_Qi D r9 ([] : va_W) ([] : va_W) s.heap.size) ([.int p0] : List Value).toArray s 0 0 (va_A ([] : va_W) s.heap.size) := ⟨_, rfl⟩
  rw [← hQ]
  have Lo4 : ∀ (n1 : Nat) (x1_4 : Int32) (x2_4 : Int32) (H : Heap) (locs : List Loc) (ls : Array Slot), k_it (fun st => nX7_bits_l4 st.1 st.2) n1 (x1_4, x2_4) = some r9 → lv_has ls 3 [(1, .int x1_4), (2, .int x2_4)] → va_P D vwCl ([] : va_W) H → va_S A s.heap H locs → W p l e (headSpec wsX7_bits ({ frames := 0, cells := 0, slots := 0, locals := 0 })).room s m ([.int p0] : List Value).toArray below meth c H locs 0 0 Q (F0 m 4 ls []) := by
    intro n1
    induction n1 with
    | zero => intro x1_4 x2_4 H locs ls hd; exact dn_it0 hd
    | succ n1 ih1 =>
      intro x1_4 x2_4 H locs ls hd hl hP hS
      obtain ⟨y1, hd, hy1⟩ := dn_it hd
      have hd : nX7_bits_l4 x1_4 x2_4 = some y1 := hd
      unfold nX7_bits_l4 at hd
      refine lv_iload_n hx hb dX7_bits_4 rfl (lv_at hl 1 rfl) ?_
      refine lv_if_le (tgt := 21) hx hb dX7_bits_5 (by decide) (fun c5 => ?_) (fun c5 => ?_)
      · have hd := dn_t c5 hd
        have hd := dn_up hd hy1
        refine lv_iload_n hx hb dX7_bits_21 rfl (lv_at hl 0 rfl) ?_
        have e1 := dn_s1 hd
        exact k_iret hx hb hr hQ hAe e1 rfl hP hS hlocks dX7_bits_22
      · have hd := dn_f c5 hd
        refine lv_iload_n hx hb dX7_bits_8 rfl (lv_at hl 0 rfl) ?_
        refine lv_iload_n hx hb dX7_bits_9 rfl (lv_at hl 1 rfl) ?_
        refine lv_iconst (v := (1 : Int32)) hx hb dX7_bits_10 (by decide) ?_
        refine lv_iand hx hb dX7_bits_11 ?_
        refine lv_iadd hx hb dX7_bits_12 ?_
        refine lv_istore_n (lv' := [(1, .int (x1_4 + (x2_4 &&& (1 : Int32)))), (2, .int x2_4)]) hx hb dX7_bits_13 rfl hl (by decide) rfl (fun ls hl => ?_)
        refine lv_iload_n hx hb dX7_bits_14 rfl (lv_at hl 1 rfl) ?_
        refine lv_iconst (v := (1 : Int32)) hx hb dX7_bits_15 (by decide) ?_
        refine lv_ishr hx hb dX7_bits_16 ?_
        refine lv_istore_n (lv' := [(2, .int (x2_4 >>> ((1 : Int32) &&& 31))), (1, .int (x1_4 + (x2_4 &&& (1 : Int32))))]) hx hb dX7_bits_17 rfl hl (by decide) rfl (fun ls hl => ?_)
        refine lv_goto (tgt := 4) hx hb dX7_bits_18 (by decide) ?_
        exact ih1 (x1_4 + (x2_4 &&& (1 : Int32))) (x2_4 >>> ((1 : Int32) &&& 31)) _ _ _ (dn_bk hd hy1) (lv_sub hl [1, 0] rfl) hP hS
  unfold nX7_bits at hd
  refine lv_iconst (v := (0 : Int32)) hx hb dX7_bits_0 (by decide) ?_
  refine lv_istore_n (lv' := [(1, .int (0 : Int32)), (0, .int p0)]) hx hb dX7_bits_1 rfl hl (by decide) rfl (fun ls hl => ?_)
  refine lv_iload_n hx hb dX7_bits_2 rfl (lv_at hl 1 rfl) ?_
  refine lv_istore_n (lv' := [(2, .int p0), (1, .int (0 : Int32)), (0, .int p0)]) hx hb dX7_bits_3 rfl hl (by decide) rfl (fun ls hl => ?_)
  exact Lo4 1000 (0 : Int32) p0 _ _ _ hd (lv_sub hl [1, 0] rfl) hP hS
-- LeastNeedModel.has(II)Z
set_option maxRecDepth 20000 in
def nX7_has (p0 : Int32) (p1 : Int32) : Option (Int32) := if ((p0 >>> (p1 &&& 31)) &&& (1 : Int32)) = (1 : Int32) then some (1 : Int32) else some (0 : Int32)
set_option maxHeartbeats 4000000 in
set_option maxRecDepth 100000 in
theorem mX7_has (l : Launch) (D : va_G) (cs : Nat → ClassId) (p0 : Int32) (p1 : Int32) (r9 : Int32) (hd : nX7_has p0 p1 = some r9) : ∀ sz : Nat, Met l yX7_has wsX7_has ({ frames := 0, cells := 0, slots := 0, locals := 0 }) (k_Pc D cs [.int p0, .int p1] ([] : va_W) sz) (k_Qi D r9 ([] : va_W) ([] : va_W) sz) 0 0 (va_A ([] : va_W) sz) := by
  intro sz
  refine Met.ofW (cc := cX7_has) (maxL := 2) (ret := (some .boolean)) (by decide) rfl ?_
  intro p e s m args below meth c s₁ B hml hv
  obtain ⟨rfl, hsz, hP, hK, hD0, hNn⟩ := hv
  have hx := B.exec
  have hb := B.bytes
  have hr := B.returns
  have hts := atoms_spec (ws := wsX7_has) B.pre
  have hown : s.vm.findClass RX7 = some m.cls := findClass_of_methodNamed B.named
  have hlocks := B.notSynchronized
  subst hsz
  obtain ⟨A, hAe⟩ : ∃ A : Nat → Prop, A = va_A ([] : va_W) s.heap.size := ⟨_, rfl⟩
  have hD : va_D A ([] : va_W) := by rw [hAe]; exact hD0.self
  have hA : ∀ q : Nat, s.heap.size ≤ q → A q := fun q h => by rw [hAe]; exact Or.inr h
  have hS : va_S A s.heap s.heap [] := va_S.rf
  have hl := lv_entry ([.int p0, .int p1]) (n := 2) (Nat.le_of_ble_eq_true rfl)
  rw [lg_entry_eq]
  generalize (lg_sl ([.int p0, .int p1]) ++ List.replicate (2 - (lg_sl ([.int p0, .int p1])).length) Slot.unset).toArray = ls at hl ⊢
  have hl : lv_has ls 2 [(0, .int p0), (1, .int p1)] := hl
  obtain ⟨Q, hQ⟩ : ∃ Q, Q = MQ below (k_Qi D r9 ([] : va_W) ([] : va_W) s.heap.size) ([.int p0, .int p1] : List Value).toArray s 0 0 (va_A ([] : va_W) s.heap.size) := ⟨_, rfl⟩
  rw [← hQ]
  unfold nX7_has at hd
  refine lv_iload_n hx hb dX7_has_0 rfl (lv_at hl 0 rfl) ?_
  refine lv_iload_n hx hb dX7_has_1 rfl (lv_at hl 1 rfl) ?_
  refine lv_ishr hx hb dX7_has_2 ?_
  refine lv_iconst (v := (1 : Int32)) hx hb dX7_has_3 (by decide) ?_
  refine lv_iand hx hb dX7_has_4 ?_
  refine lv_iconst (v := (1 : Int32)) hx hb dX7_has_5 (by decide) ?_
  refine lv_icmp_ne (tgt := 13) hx hb dX7_has_6 (by decide) (fun c6 => ?_) (fun c6 => ?_)
  · have hd := dn_f c6 hd
    refine lv_iconst (v := (0 : Int32)) hx hb dX7_has_13 (by decide) ?_
    have e1 := dn_s1 hd
    exact k_zret hx hb hr rfl hQ hAe e1 rfl hP hS hlocks dX7_has_14
  · have hd := dn_t c6 hd
    refine lv_iconst (v := (1 : Int32)) hx hb dX7_has_9 (by decide) ?_
    refine lv_goto (tgt := 14) hx hb dX7_has_10 (by decide) ?_
    have e1 := dn_s1 hd
    exact k_zret hx hb hr rfl hQ hAe e1 rfl hP hS hlocks dX7_has_14
-- LeastNeedModel.many()I
set_option maxRecDepth 20000 in
def nX7_many (S : Nat → Nat → Int32) (L : Nat → Nat → Int64) : Option (Int32) := some (S 1 0)
set_option maxHeartbeats 4000000 in
set_option maxRecDepth 100000 in
theorem mX7_many (l : Launch) (D : va_G) (cs : Nat → ClassId) (a : Nat → Nat) (S : Nat → Nat → Int32) (L : Nat → Nat → Int64) (r9 : Int32) (hd : nX7_many S L = some r9) : ∀ sz : Nat, Met l yX7_many wsX7_many ({ frames := 0, cells := 0, slots := 0, locals := 0 }) (k_Pc D cs [.ref (a 0)] (wX7 cs a S L) sz) (k_Qi D r9 (wX7 cs a S L) (wX7 cs a S L) sz) 0 0 (va_A (wX7 cs a S L) sz) := by
  intro sz
  refine Met.ofW (cc := cX7_many) (maxL := 1) (ret := (some .int)) (by decide) rfl ?_
  intro p e s m args below meth c s₁ B hml hv
  obtain ⟨rfl, hsz, hP, hK, hD0, hNn⟩ := hv
  have hx := B.exec
  have hb := B.bytes
  have hr := B.returns
  have hts := atoms_spec (ws := wsX7_many) B.pre
  have hown : s.vm.findClass RX7 = some m.cls := findClass_of_methodNamed B.named
  have hlocks := B.notSynchronized
  subst hsz
  obtain ⟨A, hAe⟩ : ∃ A : Nat → Prop, A = va_A (wX7 cs a S L) s.heap.size := ⟨_, rfl⟩
  have hD : va_D A (wX7 cs a S L) := by rw [hAe]; exact hD0.self
  have hA : ∀ q : Nat, s.heap.size ≤ q → A q := fun q h => by rw [hAe]; exact Or.inr h
  have hS : va_S A s.heap s.heap [] := va_S.rf
  have hDA : ∀ (S : Nat → Nat → Int32) (L : Nat → Nat → Int64), va_D A (wX7 cs a S L) := fun S L => k_DA hD rfl
  have hl := lv_entry ([.ref (a 0)]) (n := 1) (Nat.le_of_ble_eq_true rfl)
  rw [lg_entry_eq]
  generalize (lg_sl ([.ref (a 0)]) ++ List.replicate (1 - (lg_sl ([.ref (a 0)])).length) Slot.unset).toArray = ls at hl ⊢
  have hl : lv_has ls 1 [(0, .ref (a 0))] := hl
  obtain ⟨Q, hQ⟩ : ∃ Q, Q = MQ below (k_Qi D r9 (wX7 cs a S L) (wX7 cs a S L) s.heap.size) ([.ref (a 0)] : List Value).toArray s 0 0 (va_A (wX7 cs a S L) s.heap.size) := ⟨_, rfl⟩
  rw [← hQ]
  unfold nX7_many at hd
  refine lv_aload_n hx hb dX7_many_0 rfl (lv_at hl 0 rfl) ?_
  refine va_get (D := D) (ci := 5) (v := .ref (a 1)) (C := RX7) (T := TX7) (N := 25) hx hb hts (fun w h => List.mem_cons_of_mem _ (List.mem_append_right _ h)) hown hK hP 0 rfl rfl 0 (by decide) (hts (.fieldLink RX7 7 "LeastNeedModel" "told" "[I") (List.mem_of_getElem? (i := 1) rfl)) (fun _ h9 => h9) rfl dX7_many_1 ?_
  refine lv_iconst (v := (0 : Int32)) hx hb dX7_many_4 (by decide) ?_
  refine k_iald (D := D) (k := 0) (by rfl) hx hb hK hP 1 1 rfl rfl (k_in (by decide)) dX7_many_5 ?_
  have e1 := dn_s1 hd
  exact k_iret hx hb hr hQ hAe e1 rfl hP hS hlocks dX7_many_6
-- LeastNeedModel.manyThings()I
set_option maxRecDepth 20000 in
def nX7_manyThings (S : Nat → Nat → Int32) (L : Nat → Nat → Int64) : Option (Int32) := some (S 1 1)
set_option maxHeartbeats 4000000 in
set_option maxRecDepth 100000 in
theorem mX7_manyThings (l : Launch) (D : va_G) (cs : Nat → ClassId) (a : Nat → Nat) (S : Nat → Nat → Int32) (L : Nat → Nat → Int64) (r9 : Int32) (hd : nX7_manyThings S L = some r9) : ∀ sz : Nat, Met l yX7_manyThings wsX7_manyThings ({ frames := 0, cells := 0, slots := 0, locals := 0 }) (k_Pc D cs [.ref (a 0)] (wX7 cs a S L) sz) (k_Qi D r9 (wX7 cs a S L) (wX7 cs a S L) sz) 0 0 (va_A (wX7 cs a S L) sz) := by
  intro sz
  refine Met.ofW (cc := cX7_manyThings) (maxL := 1) (ret := (some .int)) (by decide) rfl ?_
  intro p e s m args below meth c s₁ B hml hv
  obtain ⟨rfl, hsz, hP, hK, hD0, hNn⟩ := hv
  have hx := B.exec
  have hb := B.bytes
  have hr := B.returns
  have hts := atoms_spec (ws := wsX7_manyThings) B.pre
  have hown : s.vm.findClass RX7 = some m.cls := findClass_of_methodNamed B.named
  have hlocks := B.notSynchronized
  subst hsz
  obtain ⟨A, hAe⟩ : ∃ A : Nat → Prop, A = va_A (wX7 cs a S L) s.heap.size := ⟨_, rfl⟩
  have hD : va_D A (wX7 cs a S L) := by rw [hAe]; exact hD0.self
  have hA : ∀ q : Nat, s.heap.size ≤ q → A q := fun q h => by rw [hAe]; exact Or.inr h
  have hS : va_S A s.heap s.heap [] := va_S.rf
  have hDA : ∀ (S : Nat → Nat → Int32) (L : Nat → Nat → Int64), va_D A (wX7 cs a S L) := fun S L => k_DA hD rfl
  have hl := lv_entry ([.ref (a 0)]) (n := 1) (Nat.le_of_ble_eq_true rfl)
  rw [lg_entry_eq]
  generalize (lg_sl ([.ref (a 0)]) ++ List.replicate (1 - (lg_sl ([.ref (a 0)])).length) Slot.unset).toArray = ls at hl ⊢
  have hl : lv_has ls 1 [(0, .ref (a 0))] := hl
  obtain ⟨Q, hQ⟩ : ∃ Q, Q = MQ below (k_Qi D r9 (wX7 cs a S L) (wX7 cs a S L) s.heap.size) ([.ref (a 0)] : List Value).toArray s 0 0 (va_A (wX7 cs a S L) s.heap.size) := ⟨_, rfl⟩
  rw [← hQ]
  unfold nX7_manyThings at hd
  refine lv_aload_n hx hb dX7_manyThings_0 rfl (lv_at hl 0 rfl) ?_
  refine va_get (D := D) (ci := 5) (v := .ref (a 1)) (C := RX7) (T := TX7) (N := 25) hx hb hts (fun w h => List.mem_cons_of_mem _ (List.mem_append_right _ h)) hown hK hP 0 rfl rfl 0 (by decide) (hts (.fieldLink RX7 7 "LeastNeedModel" "told" "[I") (List.mem_of_getElem? (i := 1) rfl)) (fun _ h9 => h9) rfl dX7_manyThings_1 ?_
  refine lv_iconst (v := (1 : Int32)) hx hb dX7_manyThings_4 (by decide) ?_
  refine k_iald (D := D) (k := 1) (by rfl) hx hb hK hP 1 1 rfl rfl (k_in (by decide)) dX7_manyThings_5 ?_
  have e1 := dn_s1 hd
  exact k_iret hx hb hr hQ hAe e1 rfl hP hS hlocks dX7_manyThings_6
-- LeastNeedModel.isOne(I)Z
set_option maxRecDepth 20000 in
def nX7_isOne (S : Nat → Nat → Int32) (L : Nat → Nat → Int64) (p1 : Int32) : Option (Int32) := k_b1 (nX7_many S L) (fun r4 => k_b1 (nX7_in p1.toInt64 (0 : Int64) ((r4 - (1 : Int32)).toInt64)) (fun r10 => if ¬ (r10 = 0 ∨ r10 = 1) then none else some r10))
set_option maxHeartbeats 4000000 in
set_option maxRecDepth 100000 in
theorem mX7_isOne (l : Launch) (D : va_G) (cs : Nat → ClassId) (a : Nat → Nat) (S : Nat → Nat → Int32) (L : Nat → Nat → Int64) (p1 : Int32) (r9 : Int32) (hd : nX7_isOne S L p1 = some r9) : ∀ sz : Nat, Met l yX7_isOne wsX7_isOne ({ frames := 1, cells := 0, slots := 0, locals := 25 }) (k_Pc D cs [.ref (a 0), .int p1] (wX7 cs a S L) sz) (k_Qi D r9 (wX7 cs a S L) (wX7 cs a S L) sz) 0 0 (va_A (wX7 cs a S L) sz) := by
  intro sz
  refine Met.ofW (cc := cX7_isOne) (maxL := 2) (ret := (some .boolean)) (by decide) rfl ?_
  intro p e s m args below meth c s₁ B hml hv
  obtain ⟨rfl, hsz, hP, hK, hD0, hNn⟩ := hv
  have hx := B.exec
  have hb := B.bytes
  have hr := B.returns
  have hts := atoms_spec (ws := wsX7_isOne) B.pre
  have hown : s.vm.findClass RX7 = some m.cls := findClass_of_methodNamed B.named
  have hlocks := B.notSynchronized
  subst hsz
  obtain ⟨A, hAe⟩ : ∃ A : Nat → Prop, A = va_A (wX7 cs a S L) s.heap.size := ⟨_, rfl⟩
  have hD : va_D A (wX7 cs a S L) := by rw [hAe]; exact hD0.self
  have hA : ∀ q : Nat, s.heap.size ≤ q → A q := fun q h => by rw [hAe]; exact Or.inr h
  have hS : va_S A s.heap s.heap [] := va_S.rf
  have hDA : ∀ (S : Nat → Nat → Int32) (L : Nat → Nat → Int64), va_D A (wX7 cs a S L) := fun S L => k_DA hD rfl
  have hl := lv_entry ([.ref (a 0), .int p1]) (n := 2) (Nat.le_of_ble_eq_true rfl)
  rw [lg_entry_eq]
  generalize (lg_sl ([.ref (a 0), .int p1]) ++ List.replicate (2 - (lg_sl ([.ref (a 0), .int p1])).length) Slot.unset).toArray = ls at hl ⊢
  have hl : lv_has ls 2 [(0, .ref (a 0)), (1, .int p1)] := hl
  obtain ⟨Q, hQ⟩ : ∃ Q, Q = MQ below (k_Qi D r9 (wX7 cs a S L) (wX7 cs a S L) s.heap.size) ([.ref (a 0), .int p1] : List Value).toArray s 0 0 (va_A (wX7 cs a S L) s.heap.size) := ⟨_, rfl⟩
  rw [← hQ]
  unfold nX7_isOne at hd
  refine lv_iload_n hx hb dX7_isOne_0 rfl (lv_at hl 1 rfl) ?_
  refine lv_i2l hx hb dX7_isOne_1 rfl ?_
  refine lv_lconst (v := (0 : Int64)) hx hb dX7_isOne_2 (by decide) ?_
  refine lv_aload_n hx hb dX7_isOne_3 rfl (lv_at hl 0 rfl) ?_
  obtain ⟨r4, hq4, hd⟩ := dn_b1 hd
  have hF := k_self hD hS hA
  refine k_run_i (va_runV (As := []) (rest := [.long (0 : Int64), .long p1.toInt64]) ⟨hx, hb, hml, hown, hts⟩ (mX7_many l D cs a S L r4 hq4 _) (cwV 0 hts gX7_isOne_X7_many rfl rfl rfl (by decide +kernel) ⟨Nat.le_of_ble_eq_true rfl, Nat.le_of_ble_eq_true rfl⟩) ⟨k_blind, va_recv hK hP (ci := 5) (q0 := 0) rfl rfl, k_pre hP hK hNn hD⟩ rfl rfl hl.1 rfl (lv_room (Nat.le_of_ble_eq_true rfl)) dX7_isOne_4 ⟨Nat.le_of_ble_eq_true rfl, Nat.le_of_ble_eq_true rfl⟩) hS hF (fun H locs hP1 hk hS => ?_)
  have hP : va_P D vwCl (wX7 cs a S L) _ := hP1
  have hD := hDA S L
  refine lv_iconst (v := (1 : Int32)) hx hb dX7_isOne_7 (by decide) ?_
  refine lv_isub hx hb dX7_isOne_8 ?_
  refine lv_i2l hx hb dX7_isOne_9 rfl ?_
  obtain ⟨r10, hq10, hd⟩ := dn_b1 hd
  have hPc := k_P0 hP
  have hDc : va_D A ([] : va_W) := k_D0
  have hF := k_self hDc hS hA
  refine k_run_i (va_runS (As := [.long p1.toInt64, .long (0 : Int64), .long ((r4 - (1 : Int32)).toInt64)]) (rest := []) ⟨hx, hb, hml, hown, hts⟩ (mX7_in l D cs  p1.toInt64 (0 : Int64) ((r4 - (1 : Int32)).toInt64) r10 hq10 _) (va_cwS 3 hts gX7_isOne_X7_in rfl rfl rfl (by decide +kernel) ⟨Nat.le_of_ble_eq_true rfl, Nat.le_of_ble_eq_true rfl⟩) ⟨k_blind, k_pre hPc hK hNn hDc⟩ rfl rfl hl.1 rfl (lv_room (Nat.le_of_ble_eq_true rfl)) dX7_isOne_10 ⟨Nat.le_of_ble_eq_true rfl, Nat.le_of_ble_eq_true rfl⟩) hS hF (fun H locs hP1 hk hS => ?_)
  have hP : va_P D vwCl (wX7 cs a S L) _ := k_keep hP hk
  obtain ⟨hz, hd⟩ := dn_n hd
  have e1 := dn_s1 hd
  exact k_zret hx hb hr (dn_z hz) hQ hAe e1 rfl hP hS hlocks dX7_isOne_13
-- LeastNeedModel.isThing(I)Z
set_option maxRecDepth 20000 in
def nX7_isThing (S : Nat → Nat → Int32) (L : Nat → Nat → Int64) (p1 : Int32) : Option (Int32) := k_b1 (nX7_manyThings S L) (fun r4 => k_b1 (nX7_in p1.toInt64 (0 : Int64) ((r4 - (1 : Int32)).toInt64)) (fun r10 => if ¬ (r10 = 0 ∨ r10 = 1) then none else some r10))
set_option maxHeartbeats 4000000 in
set_option maxRecDepth 100000 in
theorem mX7_isThing (l : Launch) (D : va_G) (cs : Nat → ClassId) (a : Nat → Nat) (S : Nat → Nat → Int32) (L : Nat → Nat → Int64) (p1 : Int32) (r9 : Int32) (hd : nX7_isThing S L p1 = some r9) : ∀ sz : Nat, Met l yX7_isThing wsX7_isThing ({ frames := 1, cells := 0, slots := 0, locals := 25 }) (k_Pc D cs [.ref (a 0), .int p1] (wX7 cs a S L) sz) (k_Qi D r9 (wX7 cs a S L) (wX7 cs a S L) sz) 0 0 (va_A (wX7 cs a S L) sz) := by
  intro sz
  refine Met.ofW (cc := cX7_isThing) (maxL := 2) (ret := (some .boolean)) (by decide) rfl ?_
  intro p e s m args below meth c s₁ B hml hv
  obtain ⟨rfl, hsz, hP, hK, hD0, hNn⟩ := hv
  have hx := B.exec
  have hb := B.bytes
  have hr := B.returns
  have hts := atoms_spec (ws := wsX7_isThing) B.pre
  have hown : s.vm.findClass RX7 = some m.cls := findClass_of_methodNamed B.named
  have hlocks := B.notSynchronized
  subst hsz
  obtain ⟨A, hAe⟩ : ∃ A : Nat → Prop, A = va_A (wX7 cs a S L) s.heap.size := ⟨_, rfl⟩
  have hD : va_D A (wX7 cs a S L) := by rw [hAe]; exact hD0.self
  have hA : ∀ q : Nat, s.heap.size ≤ q → A q := fun q h => by rw [hAe]; exact Or.inr h
  have hS : va_S A s.heap s.heap [] := va_S.rf
  have hDA : ∀ (S : Nat → Nat → Int32) (L : Nat → Nat → Int64), va_D A (wX7 cs a S L) := fun S L => k_DA hD rfl
  have hl := lv_entry ([.ref (a 0), .int p1]) (n := 2) (Nat.le_of_ble_eq_true rfl)
  rw [lg_entry_eq]
  generalize (lg_sl ([.ref (a 0), .int p1]) ++ List.replicate (2 - (lg_sl ([.ref (a 0), .int p1])).length) Slot.unset).toArray = ls at hl ⊢
  have hl : lv_has ls 2 [(0, .ref (a 0)), (1, .int p1)] := hl
  obtain ⟨Q, hQ⟩ : ∃ Q, Q = MQ below (k_Qi D r9 (wX7 cs a S L) (wX7 cs a S L) s.heap.size) ([.ref (a 0), .int p1] : List Value).toArray s 0 0 (va_A (wX7 cs a S L) s.heap.size) := ⟨_, rfl⟩
  rw [← hQ]
  unfold nX7_isThing at hd
  refine lv_iload_n hx hb dX7_isThing_0 rfl (lv_at hl 1 rfl) ?_
  refine lv_i2l hx hb dX7_isThing_1 rfl ?_
  refine lv_lconst (v := (0 : Int64)) hx hb dX7_isThing_2 (by decide) ?_
  refine lv_aload_n hx hb dX7_isThing_3 rfl (lv_at hl 0 rfl) ?_
  obtain ⟨r4, hq4, hd⟩ := dn_b1 hd
  have hF := k_self hD hS hA
  refine k_run_i (va_runV (As := []) (rest := [.long (0 : Int64), .long p1.toInt64]) ⟨hx, hb, hml, hown, hts⟩ (mX7_manyThings l D cs a S L r4 hq4 _) (cwV 0 hts gX7_isThing_X7_manyThings rfl rfl rfl (by decide +kernel) ⟨Nat.le_of_ble_eq_true rfl, Nat.le_of_ble_eq_true rfl⟩) ⟨k_blind, va_recv hK hP (ci := 5) (q0 := 0) rfl rfl, k_pre hP hK hNn hD⟩ rfl rfl hl.1 rfl (lv_room (Nat.le_of_ble_eq_true rfl)) dX7_isThing_4 ⟨Nat.le_of_ble_eq_true rfl, Nat.le_of_ble_eq_true rfl⟩) hS hF (fun H locs hP1 hk hS => ?_)
  have hP : va_P D vwCl (wX7 cs a S L) _ := hP1
  have hD := hDA S L
  refine lv_iconst (v := (1 : Int32)) hx hb dX7_isThing_7 (by decide) ?_
  refine lv_isub hx hb dX7_isThing_8 ?_
  refine lv_i2l hx hb dX7_isThing_9 rfl ?_
  obtain ⟨r10, hq10, hd⟩ := dn_b1 hd
  have hPc := k_P0 hP
  have hDc : va_D A ([] : va_W) := k_D0
  have hF := k_self hDc hS hA
  refine k_run_i (va_runS (As := [.long p1.toInt64, .long (0 : Int64), .long ((r4 - (1 : Int32)).toInt64)]) (rest := []) ⟨hx, hb, hml, hown, hts⟩ (mX7_in l D cs  p1.toInt64 (0 : Int64) ((r4 - (1 : Int32)).toInt64) r10 hq10 _) (va_cwS 3 hts gX7_isThing_X7_in rfl rfl rfl (by decide +kernel) ⟨Nat.le_of_ble_eq_true rfl, Nat.le_of_ble_eq_true rfl⟩) ⟨k_blind, k_pre hPc hK hNn hDc⟩ rfl rfl hl.1 rfl (lv_room (Nat.le_of_ble_eq_true rfl)) dX7_isThing_10 ⟨Nat.le_of_ble_eq_true rfl, Nat.le_of_ble_eq_true rfl⟩) hS hF (fun H locs hP1 hk hS => ?_)
  have hP : va_P D vwCl (wX7 cs a S L) _ := k_keep hP hk
  obtain ⟨hz, hd⟩ := dn_n hd
  have e1 := dn_s1 hd
  exact k_zret hx hb hr (dn_z hz) hQ hAe e1 rfl hP hS hlocks dX7_isThing_13
-- LeastNeedModel.isSort(I)Z
set_option maxRecDepth 20000 in
def nX7_isSort (p0 : Int32) : Option (Int32) := k_b1 (nX7_in p0.toInt64 (0 : Int64) (3 : Int64)) (fun r6 => if ¬ (r6 = 0 ∨ r6 = 1) then none else some r6)
set_option maxHeartbeats 4000000 in
set_option maxRecDepth 100000 in
theorem mX7_isSort (l : Launch) (D : va_G) (cs : Nat → ClassId) (p0 : Int32) (r9 : Int32) (hd : nX7_isSort p0 = some r9) : ∀ sz : Nat, Met l yX7_isSort wsX7_isSort ({ frames := 1, cells := 0, slots := 0, locals := 25 }) (k_Pc D cs [.int p0] ([] : va_W) sz) (k_Qi D r9 ([] : va_W) ([] : va_W) sz) 0 0 (va_A ([] : va_W) sz) := by
  intro sz
  refine Met.ofW (cc := cX7_isSort) (maxL := 1) (ret := (some .boolean)) (by decide) rfl ?_
  intro p e s m args below meth c s₁ B hml hv
  obtain ⟨rfl, hsz, hP, hK, hD0, hNn⟩ := hv
  have hx := B.exec
  have hb := B.bytes
  have hr := B.returns
  have hts := atoms_spec (ws := wsX7_isSort) B.pre
  have hown : s.vm.findClass RX7 = some m.cls := findClass_of_methodNamed B.named
  have hlocks := B.notSynchronized
  subst hsz
  obtain ⟨A, hAe⟩ : ∃ A : Nat → Prop, A = va_A ([] : va_W) s.heap.size := ⟨_, rfl⟩
  have hD : va_D A ([] : va_W) := by rw [hAe]; exact hD0.self
  have hA : ∀ q : Nat, s.heap.size ≤ q → A q := fun q h => by rw [hAe]; exact Or.inr h
  have hS : va_S A s.heap s.heap [] := va_S.rf
  have hl := lv_entry ([.int p0]) (n := 1) (Nat.le_of_ble_eq_true rfl)
  rw [lg_entry_eq]
  generalize (lg_sl ([.int p0]) ++ List.replicate (1 - (lg_sl ([.int p0])).length) Slot.unset).toArray = ls at hl ⊢
  have hl : lv_has ls 1 [(0, .int p0)] := hl
  obtain ⟨Q, hQ⟩ : ∃ Q, Q = MQ below (k_Qi D r9 ([] : va_W) ([] : va_W) s.heap.size) ([.int p0] : List Value).toArray s 0 0 (va_A ([] : va_W) s.heap.size) := ⟨_, rfl⟩
  rw [← hQ]
  unfold nX7_isSort at hd
  refine lv_iload_n hx hb dX7_isSort_0 rfl (lv_at hl 0 rfl) ?_
  refine lv_i2l hx hb dX7_isSort_1 rfl ?_
  refine lv_lconst (v := (0 : Int64)) hx hb dX7_isSort_2 (by decide) ?_
  refine lv_ldc2 (v := (3 : Int64)) hx hb hown (hts (.constantLong RX7 85 (3)) (List.mem_of_getElem? (i := 1) rfl)) dX7_isSort_3 ?_
  obtain ⟨r6, hq6, hd⟩ := dn_b1 hd
  have hF := k_self hD hS hA
  refine k_run_i (va_runS (As := [.long p0.toInt64, .long (0 : Int64), .long (3 : Int64)]) (rest := []) ⟨hx, hb, hml, hown, hts⟩ (mX7_in l D cs  p0.toInt64 (0 : Int64) (3 : Int64) r6 hq6 _) (va_cwS 3 hts gX7_isSort_X7_in rfl rfl rfl (by decide +kernel) ⟨Nat.le_of_ble_eq_true rfl, Nat.le_of_ble_eq_true rfl⟩) ⟨k_blind, k_pre hP hK hNn hD⟩ rfl rfl hl.1 rfl (lv_room (Nat.le_of_ble_eq_true rfl)) dX7_isSort_6 ⟨Nat.le_of_ble_eq_true rfl, Nat.le_of_ble_eq_true rfl⟩) hS hF (fun H locs hP1 hk hS => ?_)
  have hP : va_P D vwCl ([] : va_W) _ := hP1
  obtain ⟨hz, hd⟩ := dn_n hd
  have e1 := dn_s1 hd
  exact k_zret hx hb hr (dn_z hz) hQ hAe e1 rfl hP hS hlocks dX7_isSort_9
-- LeastNeedModel.isNeed(I)Z
set_option maxRecDepth 20000 in
def nX7_isNeed (p0 : Int32) : Option (Int32) := k_b1 (nX7_in p0.toInt64 (0 : Int64) (9 : Int64)) (fun r6 => if ¬ (r6 = 0 ∨ r6 = 1) then none else some r6)
set_option maxHeartbeats 4000000 in
set_option maxRecDepth 100000 in
theorem mX7_isNeed (l : Launch) (D : va_G) (cs : Nat → ClassId) (p0 : Int32) (r9 : Int32) (hd : nX7_isNeed p0 = some r9) : ∀ sz : Nat, Met l yX7_isNeed wsX7_isNeed ({ frames := 1, cells := 0, slots := 0, locals := 25 }) (k_Pc D cs [.int p0] ([] : va_W) sz) (k_Qi D r9 ([] : va_W) ([] : va_W) sz) 0 0 (va_A ([] : va_W) sz) := by
  intro sz
  refine Met.ofW (cc := cX7_isNeed) (maxL := 1) (ret := (some .boolean)) (by decide) rfl ?_
  intro p e s m args below meth c s₁ B hml hv
  obtain ⟨rfl, hsz, hP, hK, hD0, hNn⟩ := hv
  have hx := B.exec
  have hb := B.bytes
  have hr := B.returns
  have hts := atoms_spec (ws := wsX7_isNeed) B.pre
  have hown : s.vm.findClass RX7 = some m.cls := findClass_of_methodNamed B.named
  have hlocks := B.notSynchronized
  subst hsz
  obtain ⟨A, hAe⟩ : ∃ A : Nat → Prop, A = va_A ([] : va_W) s.heap.size := ⟨_, rfl⟩
  have hD : va_D A ([] : va_W) := by rw [hAe]; exact hD0.self
  have hA : ∀ q : Nat, s.heap.size ≤ q → A q := fun q h => by rw [hAe]; exact Or.inr h
  have hS : va_S A s.heap s.heap [] := va_S.rf
  have hl := lv_entry ([.int p0]) (n := 1) (Nat.le_of_ble_eq_true rfl)
  rw [lg_entry_eq]
  generalize (lg_sl ([.int p0]) ++ List.replicate (1 - (lg_sl ([.int p0])).length) Slot.unset).toArray = ls at hl ⊢
  have hl : lv_has ls 1 [(0, .int p0)] := hl
  obtain ⟨Q, hQ⟩ : ∃ Q, Q = MQ below (k_Qi D r9 ([] : va_W) ([] : va_W) s.heap.size) ([.int p0] : List Value).toArray s 0 0 (va_A ([] : va_W) s.heap.size) := ⟨_, rfl⟩
  rw [← hQ]
  unfold nX7_isNeed at hd
  refine lv_iload_n hx hb dX7_isNeed_0 rfl (lv_at hl 0 rfl) ?_
  refine lv_i2l hx hb dX7_isNeed_1 rfl ?_
  refine lv_lconst (v := (0 : Int64)) hx hb dX7_isNeed_2 (by decide) ?_
  refine lv_ldc2 (v := (9 : Int64)) hx hb hown (hts (.constantLong RX7 87 (9)) (List.mem_of_getElem? (i := 1) rfl)) dX7_isNeed_3 ?_
  obtain ⟨r6, hq6, hd⟩ := dn_b1 hd
  have hF := k_self hD hS hA
  refine k_run_i (va_runS (As := [.long p0.toInt64, .long (0 : Int64), .long (9 : Int64)]) (rest := []) ⟨hx, hb, hml, hown, hts⟩ (mX7_in l D cs  p0.toInt64 (0 : Int64) (9 : Int64) r6 hq6 _) (va_cwS 3 hts gX7_isNeed_X7_in rfl rfl rfl (by decide +kernel) ⟨Nat.le_of_ble_eq_true rfl, Nat.le_of_ble_eq_true rfl⟩) ⟨k_blind, k_pre hP hK hNn hD⟩ rfl rfl hl.1 rfl (lv_room (Nat.le_of_ble_eq_true rfl)) dX7_isNeed_6 ⟨Nat.le_of_ble_eq_true rfl, Nat.le_of_ble_eq_true rfl⟩) hS hF (fun H locs hP1 hk hS => ?_)
  have hP : va_P D vwCl ([] : va_W) _ := hP1
  obtain ⟨hz, hd⟩ := dn_n hd
  have e1 := dn_s1 hd
  exact k_zret hx hb hr (dn_z hz) hQ hAe e1 rfl hP hS hlocks dX7_isNeed_9
-- LeastNeedModel.begin([I)V
set_option maxRecDepth 20000 in
def nX7_begin_1_l2 (x1_2 : Int32) (S_2 : Nat → Nat → Int32) (L : Nat → Nat → Int64) : Option ((Int32 × (Nat → Nat → Int32)) ⊕ ((Nat → Nat → Int32))) := if (140 : Int32) ≤ x1_2 then k_up (some S_2) else if x1_2 < 0 ∨ 284 ≤ x1_2.toNatClampNeg then none else some (.inl ((x1_2 + (1 : Int32)), (k_w S_2 1 x1_2.toNatClampNeg (0 : Int32))))
set_option maxRecDepth 20000 in
def nX7_begin_1 (S : Nat → Nat → Int32) (L : Nat → Nat → Int64) : Option ((Nat → Nat → Int32)) := k_it (fun st => nX7_begin_1_l2 st.1 st.2 L) 1000 ((0 : Int32), S)
set_option maxHeartbeats 4000000 in
set_option maxRecDepth 100000 in
theorem mX7_begin_1 (l : Launch) (D : va_G) (cs : Nat → ClassId) (a : Nat → Nat) (S : Nat → Nat → Int32) (L : Nat → Nat → Int64) (S9 : (Nat → Nat → Int32)) (hd : nX7_begin_1 S L = some S9) : ∀ sz : Nat, Met l yX7_begin wsX7_begin ({ frames := 0, cells := 0, slots := 0, locals := 0 }) (k_Pc D cs [.ref (a 1)] (wX7 cs a S L) sz) (k_Qv D (wX7 cs a S L) (wX7 cs a S9 L) sz) 0 0 (va_A (wX7 cs a S L) sz) := by
  intro sz
  refine Met.ofW (cc := cX7_begin) (maxL := 2) (ret := none) (by decide) rfl ?_
  intro p e s m args below meth c s₁ B hml hv
  obtain ⟨rfl, hsz, hP, hK, hD0, hNn⟩ := hv
  have hx := B.exec
  have hb := B.bytes
  have hr := B.returns
  have hts := atoms_spec (ws := wsX7_begin) B.pre
  have hown : s.vm.findClass RX7 = some m.cls := findClass_of_methodNamed B.named
  have hlocks := B.notSynchronized
  subst hsz
  obtain ⟨A, hAe⟩ : ∃ A : Nat → Prop, A = va_A (wX7 cs a S L) s.heap.size := ⟨_, rfl⟩
  have hD : va_D A (wX7 cs a S L) := by rw [hAe]; exact hD0.self
  have hA : ∀ q : Nat, s.heap.size ≤ q → A q := fun q h => by rw [hAe]; exact Or.inr h
  have hS : va_S A s.heap s.heap [] := va_S.rf
  have hDA : ∀ (S : Nat → Nat → Int32) (L : Nat → Nat → Int64), va_D A (wX7 cs a S L) := fun S L => k_DA hD rfl
  have hl := lv_entry ([.ref (a 1)]) (n := 2) (Nat.le_of_ble_eq_true rfl)
  rw [lg_entry_eq]
  generalize (lg_sl ([.ref (a 1)]) ++ List.replicate (2 - (lg_sl ([.ref (a 1)])).length) Slot.unset).toArray = ls at hl ⊢
  have hl : lv_has ls 2 [(0, .ref (a 1))] := hl
  obtain ⟨Q, hQ⟩ : ∃ Q, Q = MQ below (k_Qv D (wX7 cs a S L) (wX7 cs a S9 L) s.heap.size) ([.ref (a 1)] : List Value).toArray s 0 0 (va_A (wX7 cs a S L) s.heap.size) := ⟨_, rfl⟩
  rw [← hQ]
  have Lo2 : ∀ (n1 : Nat) (x1_2 : Int32) (S_2 : Nat → Nat → Int32) (H : Heap) (locs : List Loc) (ls : Array Slot), k_it (fun st => nX7_begin_1_l2 st.1 st.2 L) n1 (x1_2, S_2) = some S9 → lv_has ls 2 [(0, .ref (a 1)), (1, .int x1_2)] → va_P D vwCl (wX7 cs a S_2 L) H → va_S A s.heap H locs → W p l e (headSpec wsX7_begin ({ frames := 0, cells := 0, slots := 0, locals := 0 })).room s m ([.ref (a 1)] : List Value).toArray below meth c H locs 0 0 Q (F0 m 2 ls []) := by
    intro n1
    induction n1 with
    | zero => intro x1_2 S_2 H locs ls hd; exact dn_it0 hd
    | succ n1 ih1 =>
      intro x1_2 S_2 H locs ls hd hl hP hS
      have hD := hDA S_2 L
      obtain ⟨y1, hd, hy1⟩ := dn_it hd
      have hd : nX7_begin_1_l2 x1_2 S_2 L = some y1 := hd
      unfold nX7_begin_1_l2 at hd
      refine lv_iload_n hx hb dX7_begin_2 rfl (lv_at hl 1 rfl) ?_
      refine lv_sipush (v := (140 : Int32)) hx hb dX7_begin_3 (by decide) ?_
      refine lv_icmp_ge (tgt := 19) hx hb dX7_begin_6 (by decide) (fun c6 => ?_) (fun c6 => ?_)
      · have hd := dn_t c6 hd
        have hd := dn_up hd hy1
        have e1 := dn_s1 hd
        exact k_vret hx hb hr hQ hAe (by rw [e1]) hP hS hlocks dX7_begin_19
      · have hd := dn_f c6 hd
        refine lv_aload_n hx hb dX7_begin_9 rfl (lv_at hl 0 rfl) ?_
        refine lv_iload_n hx hb dX7_begin_10 rfl (lv_at hl 1 rfl) ?_
        refine lv_iconst (v := (0 : Int32)) hx hb dX7_begin_11 (by decide) ?_
        obtain ⟨hi12, hd⟩ := dn_i hd
        refine k_iast (D := D) (k := x1_2.toNatClampNeg) (by rfl) hx hb hK hP hD hS 1 1 rfl rfl hi12 dX7_begin_12 (fun H locs hP hD hS => ?_)
        have hP : va_P D vwCl (wX7 cs a (k_w S_2 1 x1_2.toNatClampNeg (0 : Int32)) L) _ := k_eq hP (wsX7_a1 cs a S_2 L x1_2.toNatClampNeg (0 : Int32))
        have hD := hDA (k_w S_2 1 x1_2.toNatClampNeg (0 : Int32)) L
        refine lv_iinc (v := x1_2 + (1 : Int32)) (lv' := [(1, .int (x1_2 + (1 : Int32))), (0, .ref (a 1))]) hx hb dX7_begin_13 hl (k := 1) rfl rfl (by decide) rfl (fun ls hl => ?_)
        refine lv_goto (tgt := 2) hx hb dX7_begin_16 (by decide) ?_
        exact ih1 (x1_2 + (1 : Int32)) (k_w S_2 1 x1_2.toNatClampNeg (0 : Int32)) _ _ _ (dn_bk hd hy1) (lv_sub hl [1, 0] rfl) hP hS
  unfold nX7_begin_1 at hd
  refine lv_iconst (v := (0 : Int32)) hx hb dX7_begin_0 (by decide) ?_
  refine lv_istore_n (lv' := [(1, .int (0 : Int32)), (0, .ref (a 1))]) hx hb dX7_begin_1 rfl hl (by decide) rfl (fun ls hl => ?_)
  exact Lo2 1000 (0 : Int32) S _ _ _ hd (lv_sub hl [1, 0] rfl) hP hS
-- LeastNeedModel.valley()I
set_option maxRecDepth 20000 in
def nX7_valley (S : Nat → Nat → Int32) (L : Nat → Nat → Int64) : Option (Int32 × (Nat → Nat → Int32)) := k_b1 (nX7_many S L) (fun r1 => k_b1 (nX7_begin_1 S L) (fun S9 => some (r1, S9)))
set_option maxHeartbeats 4000000 in
set_option maxRecDepth 100000 in
theorem mX7_valley (l : Launch) (D : va_G) (cs : Nat → ClassId) (a : Nat → Nat) (S : Nat → Nat → Int32) (L : Nat → Nat → Int64) (r9 : Int32) (S9 : (Nat → Nat → Int32)) (hd : nX7_valley S L = some (r9, S9)) : ∀ sz : Nat, Met l yX7_valley wsX7_valley ({ frames := 1, cells := 0, slots := 0, locals := 21 }) (k_Pc D cs [.ref (a 0)] (wX7 cs a S L) sz) (k_Qi D r9 (wX7 cs a S L) (wX7 cs a S9 L) sz) 0 0 (va_A (wX7 cs a S L) sz) := by
  intro sz
  refine Met.ofW (cc := cX7_valley) (maxL := 2) (ret := (some .int)) (by decide) rfl ?_
  intro p e s m args below meth c s₁ B hml hv
  obtain ⟨rfl, hsz, hP, hK, hD0, hNn⟩ := hv
  have hx := B.exec
  have hb := B.bytes
  have hr := B.returns
  have hts := atoms_spec (ws := wsX7_valley) B.pre
  have hown : s.vm.findClass RX7 = some m.cls := findClass_of_methodNamed B.named
  have hlocks := B.notSynchronized
  subst hsz
  obtain ⟨A, hAe⟩ : ∃ A : Nat → Prop, A = va_A (wX7 cs a S L) s.heap.size := ⟨_, rfl⟩
  have hD : va_D A (wX7 cs a S L) := by rw [hAe]; exact hD0.self
  have hA : ∀ q : Nat, s.heap.size ≤ q → A q := fun q h => by rw [hAe]; exact Or.inr h
  have hS : va_S A s.heap s.heap [] := va_S.rf
  have hDA : ∀ (S : Nat → Nat → Int32) (L : Nat → Nat → Int64), va_D A (wX7 cs a S L) := fun S L => k_DA hD rfl
  have hl := lv_entry ([.ref (a 0)]) (n := 2) (Nat.le_of_ble_eq_true rfl)
  rw [lg_entry_eq]
  generalize (lg_sl ([.ref (a 0)]) ++ List.replicate (2 - (lg_sl ([.ref (a 0)])).length) Slot.unset).toArray = ls at hl ⊢
  have hl : lv_has ls 2 [(0, .ref (a 0))] := hl
  obtain ⟨Q, hQ⟩ : ∃ Q, Q = MQ below (k_Qi D r9 (wX7 cs a S L) (wX7 cs a S9 L) s.heap.size) ([.ref (a 0)] : List Value).toArray s 0 0 (va_A (wX7 cs a S L) s.heap.size) := ⟨_, rfl⟩
  rw [← hQ]
  unfold nX7_valley at hd
  refine lv_aload_n hx hb dX7_valley_0 rfl (lv_at hl 0 rfl) ?_
  obtain ⟨r1, hq1, hd⟩ := dn_b1 hd
  have hF := k_self hD hS hA
  refine k_run_i (va_runV (As := []) (rest := []) ⟨hx, hb, hml, hown, hts⟩ (mX7_many l D cs a S L r1 hq1 _) (cwV 0 hts gX7_valley_X7_many rfl rfl rfl (by decide +kernel) ⟨Nat.le_of_ble_eq_true rfl, Nat.le_of_ble_eq_true rfl⟩) ⟨k_blind, va_recv hK hP (ci := 5) (q0 := 0) rfl rfl, k_pre hP hK hNn hD⟩ rfl rfl hl.1 rfl (lv_room (Nat.le_of_ble_eq_true rfl)) dX7_valley_1 ⟨Nat.le_of_ble_eq_true rfl, Nat.le_of_ble_eq_true rfl⟩) hS hF (fun H locs hP1 hk hS => ?_)
  have hP : va_P D vwCl (wX7 cs a S L) _ := hP1
  have hD := hDA S L
  refine lv_istore_n (lv' := [(1, .int r1), (0, .ref (a 0))]) hx hb dX7_valley_4 rfl hl (by decide) rfl (fun ls hl => ?_)
  refine lv_aload_n hx hb dX7_valley_5 rfl (lv_at hl 1 rfl) ?_
  refine va_get (D := D) (ci := 5) (v := .ref (a 1)) (C := RX7) (T := TX7) (N := 25) hx hb hts (fun w h => List.mem_cons_of_mem _ (List.mem_append_right _ h)) hown hK hP 0 rfl rfl 0 (by decide) (hts (.fieldLink RX7 7 "LeastNeedModel" "told" "[I") (List.mem_of_getElem? (i := 1) rfl)) (fun _ h9 => h9) rfl dX7_valley_6 ?_
  obtain ⟨S9, hq9, hd⟩ := dn_b1 hd
  have hF := k_self hD hS hA
  refine k_run_v (va_runS (As := [.ref (a 1)]) (rest := []) ⟨hx, hb, hml, hown, hts⟩ (mX7_begin_1 l D cs a S L S9 hq9 _) (va_cwS 1 hts gX7_valley_X7_begin rfl rfl rfl (by decide +kernel) ⟨Nat.le_of_ble_eq_true rfl, Nat.le_of_ble_eq_true rfl⟩) ⟨k_blind, k_pre hP hK hNn hD⟩ rfl rfl hl.1 rfl (lv_room (Nat.le_of_ble_eq_true rfl)) dX7_valley_9 ⟨Nat.le_of_ble_eq_true rfl, Nat.le_of_ble_eq_true rfl⟩) hS hF (fun H locs hP1 hk hS => ?_)
  have hP : va_P D vwCl (wX7 cs a S9 L) _ := hP1
  have hD := hDA S9 L
  refine lv_iload_n hx hb dX7_valley_12 rfl (lv_at hl 0 rfl) ?_
  obtain ⟨e1, e2⟩ := dn_s2 hd
  exact k_iret hx hb hr hQ hAe e1 (by rw [e2]) hP hS hlocks dX7_valley_13
-- LeastNeedModel.layPerson([IIIIIII)V
set_option maxRecDepth 20000 in
def nX7_layPerson_1 (S : Nat → Nat → Int32) (L : Nat → Nat → Int64) (p1 : Int32) (p2 : Int32) (p3 : Int32) (p4 : Int32) (p5 : Int32) (p6 : Int32) : Option ((Nat → Nat → Int32)) := if ((23 : Int32) + (S 1 0)) < 0 ∨ 284 ≤ ((23 : Int32) + (S 1 0)).toNatClampNeg then none else if ((30 : Int32) + (S 1 0)) < 0 ∨ 284 ≤ ((30 : Int32) + (S 1 0)).toNatClampNeg then none else if ((37 : Int32) + ((4 : Int32) * (S 1 0))) < 0 ∨ 284 ≤ ((37 : Int32) + ((4 : Int32) * (S 1 0))).toNatClampNeg then none else if (((37 : Int32) + ((4 : Int32) * (S 1 0))) + (1 : Int32)) < 0 ∨ 284 ≤ (((37 : Int32) + ((4 : Int32) * (S 1 0))) + (1 : Int32)).toNatClampNeg then none else if (((37 : Int32) + ((4 : Int32) * (S 1 0))) + (2 : Int32)) < 0 ∨ 284 ≤ (((37 : Int32) + ((4 : Int32) * (S 1 0))) + (2 : Int32)).toNatClampNeg then none else if (((37 : Int32) + ((4 : Int32) * (S 1 0))) + (3 : Int32)) < 0 ∨ 284 ≤ (((37 : Int32) + ((4 : Int32) * (S 1 0))) + (3 : Int32)).toNatClampNeg then none else if ((15 : Int32) + (S 1 0)) < 0 ∨ 284 ≤ ((15 : Int32) + (S 1 0)).toNatClampNeg then none else some (k_w (k_w (k_w (k_w (k_w (k_w (k_w (k_w S 1 (((23 : Int32) + (S 1 0)).toNatClampNeg) p1) 1 (((30 : Int32) + (S 1 0)).toNatClampNeg) p2) 1 (((37 : Int32) + ((4 : Int32) * (S 1 0))).toNatClampNeg) p3) 1 ((((37 : Int32) + ((4 : Int32) * (S 1 0))) + (1 : Int32)).toNatClampNeg) p4) 1 ((((37 : Int32) + ((4 : Int32) * (S 1 0))) + (2 : Int32)).toNatClampNeg) p5) 1 ((((37 : Int32) + ((4 : Int32) * (S 1 0))) + (3 : Int32)).toNatClampNeg) p6) 1 (((15 : Int32) + (S 1 0)).toNatClampNeg) (0 : Int32)) 1 0 (((k_w (k_w (k_w (k_w (k_w (k_w (k_w S 1 (((23 : Int32) + (S 1 0)).toNatClampNeg) p1) 1 (((30 : Int32) + (S 1 0)).toNatClampNeg) p2) 1 (((37 : Int32) + ((4 : Int32) * (S 1 0))).toNatClampNeg) p3) 1 ((((37 : Int32) + ((4 : Int32) * (S 1 0))) + (1 : Int32)).toNatClampNeg) p4) 1 ((((37 : Int32) + ((4 : Int32) * (S 1 0))) + (2 : Int32)).toNatClampNeg) p5) 1 ((((37 : Int32) + ((4 : Int32) * (S 1 0))) + (3 : Int32)).toNatClampNeg) p6) 1 (((15 : Int32) + (S 1 0)).toNatClampNeg) (0 : Int32)) 1 0) + (1 : Int32)))
set_option maxHeartbeats 4000000 in
set_option maxRecDepth 100000 in
theorem mX7_layPerson_1 (l : Launch) (D : va_G) (cs : Nat → ClassId) (a : Nat → Nat) (S : Nat → Nat → Int32) (L : Nat → Nat → Int64) (p1 : Int32) (p2 : Int32) (p3 : Int32) (p4 : Int32) (p5 : Int32) (p6 : Int32) (S9 : (Nat → Nat → Int32)) (hd : nX7_layPerson_1 S L p1 p2 p3 p4 p5 p6 = some S9) : ∀ sz : Nat, Met l yX7_layPerson wsX7_layPerson ({ frames := 0, cells := 0, slots := 0, locals := 0 }) (k_Pc D cs [.ref (a 1), .int p1, .int p2, .int p3, .int p4, .int p5, .int p6] (wX7 cs a S L) sz) (k_Qv D (wX7 cs a S L) (wX7 cs a S9 L) sz) 0 0 (va_A (wX7 cs a S L) sz) := by
  intro sz
  refine Met.ofW (cc := cX7_layPerson) (maxL := 8) (ret := none) (by decide) rfl ?_
  intro p e s m args below meth c s₁ B hml hv
  obtain ⟨rfl, hsz, hP, hK, hD0, hNn⟩ := hv
  have hx := B.exec
  have hb := B.bytes
  have hr := B.returns
  have hts := atoms_spec (ws := wsX7_layPerson) B.pre
  have hown : s.vm.findClass RX7 = some m.cls := findClass_of_methodNamed B.named
  have hlocks := B.notSynchronized
  subst hsz
  obtain ⟨A, hAe⟩ : ∃ A : Nat → Prop, A = va_A (wX7 cs a S L) s.heap.size := ⟨_, rfl⟩
  have hD : va_D A (wX7 cs a S L) := by rw [hAe]; exact hD0.self
  have hA : ∀ q : Nat, s.heap.size ≤ q → A q := fun q h => by rw [hAe]; exact Or.inr h
  have hS : va_S A s.heap s.heap [] := va_S.rf
  have hDA : ∀ (S : Nat → Nat → Int32) (L : Nat → Nat → Int64), va_D A (wX7 cs a S L) := fun S L => k_DA hD rfl
  have hl := lv_entry ([.ref (a 1), .int p1, .int p2, .int p3, .int p4, .int p5, .int p6]) (n := 8) (Nat.le_of_ble_eq_true rfl)
  rw [lg_entry_eq]
  generalize (lg_sl ([.ref (a 1), .int p1, .int p2, .int p3, .int p4, .int p5, .int p6]) ++ List.replicate (8 - (lg_sl ([.ref (a 1), .int p1, .int p2, .int p3, .int p4, .int p5, .int p6])).length) Slot.unset).toArray = ls at hl ⊢
  have hl : lv_has ls 8 [(0, .ref (a 1)), (1, .int p1), (2, .int p2), (3, .int p3), (4, .int p4), (5, .int p5), (6, .int p6)] := hl
  obtain ⟨Q, hQ⟩ : ∃ Q, Q = MQ below (k_Qv D (wX7 cs a S L) (wX7 cs a S9 L) s.heap.size) ([.ref (a 1), .int p1, .int p2, .int p3, .int p4, .int p5, .int p6] : List Value).toArray s 0 0 (va_A (wX7 cs a S L) s.heap.size) := ⟨_, rfl⟩
  rw [← hQ]
  unfold nX7_layPerson_1 at hd
  refine lv_aload_n hx hb dX7_layPerson_0 rfl (lv_at hl 0 rfl) ?_
  refine lv_iconst (v := (0 : Int32)) hx hb dX7_layPerson_1 (by decide) ?_
  refine k_iald (D := D) (k := 0) (by rfl) hx hb hK hP 1 1 rfl rfl (k_in (by decide)) dX7_layPerson_2 ?_
  refine lv_istore (lv' := [(7, .int (S 1 0)), (0, .ref (a 1)), (1, .int p1), (2, .int p2), (3, .int p3), (4, .int p4), (5, .int p5), (6, .int p6)]) hx hb dX7_layPerson_3 hl (by decide) rfl (fun ls hl => ?_)
  refine lv_aload_n hx hb dX7_layPerson_5 rfl (lv_at hl 1 rfl) ?_
  refine lv_bipush (v := (23 : Int32)) hx hb dX7_layPerson_6 (by decide) ?_
  refine lv_iload hx hb dX7_layPerson_8 (lv_at hl 0 rfl) ?_
  refine lv_iadd hx hb dX7_layPerson_10 ?_
  refine lv_iload_n hx hb dX7_layPerson_11 rfl (lv_at hl 2 rfl) ?_
  obtain ⟨hi12, hd⟩ := dn_i hd
  refine k_iast (D := D) (k := ((23 : Int32) + (S 1 0)).toNatClampNeg) (by rfl) hx hb hK hP hD hS 1 1 rfl rfl hi12 dX7_layPerson_12 (fun H locs hP hD hS => ?_)
  have hP : va_P D vwCl (wX7 cs a (k_w S 1 (((23 : Int32) + (S 1 0)).toNatClampNeg) p1) L) _ := k_eq hP (wsX7_a1 cs a S L (((23 : Int32) + (S 1 0)).toNatClampNeg) p1)
  have hD := hDA (k_w S 1 (((23 : Int32) + (S 1 0)).toNatClampNeg) p1) L
  refine lv_aload_n hx hb dX7_layPerson_13 rfl (lv_at hl 1 rfl) ?_
  refine lv_bipush (v := (30 : Int32)) hx hb dX7_layPerson_14 (by decide) ?_
  refine lv_iload hx hb dX7_layPerson_16 (lv_at hl 0 rfl) ?_
  refine lv_iadd hx hb dX7_layPerson_18 ?_
  refine lv_iload_n hx hb dX7_layPerson_19 rfl (lv_at hl 3 rfl) ?_
  obtain ⟨hi20, hd⟩ := dn_i hd
  refine k_iast (D := D) (k := ((30 : Int32) + (S 1 0)).toNatClampNeg) (by rfl) hx hb hK hP hD hS 1 1 rfl rfl hi20 dX7_layPerson_20 (fun H locs hP hD hS => ?_)
  have hP : va_P D vwCl (wX7 cs a (k_w (k_w S 1 (((23 : Int32) + (S 1 0)).toNatClampNeg) p1) 1 (((30 : Int32) + (S 1 0)).toNatClampNeg) p2) L) _ := k_eq hP (wsX7_a1 cs a (k_w S 1 (((23 : Int32) + (S 1 0)).toNatClampNeg) p1) L (((30 : Int32) + (S 1 0)).toNatClampNeg) p2)
  have hD := hDA (k_w (k_w S 1 (((23 : Int32) + (S 1 0)).toNatClampNeg) p1) 1 (((30 : Int32) + (S 1 0)).toNatClampNeg) p2) L
  refine lv_aload_n hx hb dX7_layPerson_21 rfl (lv_at hl 1 rfl) ?_
  refine lv_bipush (v := (37 : Int32)) hx hb dX7_layPerson_22 (by decide) ?_
  refine lv_iconst (v := (4 : Int32)) hx hb dX7_layPerson_24 (by decide) ?_
  refine lv_iload hx hb dX7_layPerson_25 (lv_at hl 0 rfl) ?_
  refine lv_imul hx hb dX7_layPerson_27 ?_
  refine lv_iadd hx hb dX7_layPerson_28 ?_
  refine lv_iload_n hx hb dX7_layPerson_29 rfl (lv_at hl 4 rfl) ?_
  obtain ⟨hi30, hd⟩ := dn_i hd
  refine k_iast (D := D) (k := ((37 : Int32) + ((4 : Int32) * (S 1 0))).toNatClampNeg) (by rfl) hx hb hK hP hD hS 1 1 rfl rfl hi30 dX7_layPerson_30 (fun H locs hP hD hS => ?_)
  have hP : va_P D vwCl (wX7 cs a (k_w (k_w (k_w S 1 (((23 : Int32) + (S 1 0)).toNatClampNeg) p1) 1 (((30 : Int32) + (S 1 0)).toNatClampNeg) p2) 1 (((37 : Int32) + ((4 : Int32) * (S 1 0))).toNatClampNeg) p3) L) _ := k_eq hP (wsX7_a1 cs a (k_w (k_w S 1 (((23 : Int32) + (S 1 0)).toNatClampNeg) p1) 1 (((30 : Int32) + (S 1 0)).toNatClampNeg) p2) L (((37 : Int32) + ((4 : Int32) * (S 1 0))).toNatClampNeg) p3)
  have hD := hDA (k_w (k_w (k_w S 1 (((23 : Int32) + (S 1 0)).toNatClampNeg) p1) 1 (((30 : Int32) + (S 1 0)).toNatClampNeg) p2) 1 (((37 : Int32) + ((4 : Int32) * (S 1 0))).toNatClampNeg) p3) L
  refine lv_aload_n hx hb dX7_layPerson_31 rfl (lv_at hl 1 rfl) ?_
  refine lv_bipush (v := (37 : Int32)) hx hb dX7_layPerson_32 (by decide) ?_
  refine lv_iconst (v := (4 : Int32)) hx hb dX7_layPerson_34 (by decide) ?_
  refine lv_iload hx hb dX7_layPerson_35 (lv_at hl 0 rfl) ?_
  refine lv_imul hx hb dX7_layPerson_37 ?_
  refine lv_iadd hx hb dX7_layPerson_38 ?_
  refine lv_iconst (v := (1 : Int32)) hx hb dX7_layPerson_39 (by decide) ?_
  refine lv_iadd hx hb dX7_layPerson_40 ?_
  refine lv_iload hx hb dX7_layPerson_41 (lv_at hl 5 rfl) ?_
  obtain ⟨hi43, hd⟩ := dn_i hd
  refine k_iast (D := D) (k := (((37 : Int32) + ((4 : Int32) * (S 1 0))) + (1 : Int32)).toNatClampNeg) (by rfl) hx hb hK hP hD hS 1 1 rfl rfl hi43 dX7_layPerson_43 (fun H locs hP hD hS => ?_)
  have hP : va_P D vwCl (wX7 cs a (k_w (k_w (k_w (k_w S 1 (((23 : Int32) + (S 1 0)).toNatClampNeg) p1) 1 (((30 : Int32) + (S 1 0)).toNatClampNeg) p2) 1 (((37 : Int32) + ((4 : Int32) * (S 1 0))).toNatClampNeg) p3) 1 ((((37 : Int32) + ((4 : Int32) * (S 1 0))) + (1 : Int32)).toNatClampNeg) p4) L) _ := k_eq hP (wsX7_a1 cs a (k_w (k_w (k_w S 1 (((23 : Int32) + (S 1 0)).toNatClampNeg) p1) 1 (((30 : Int32) + (S 1 0)).toNatClampNeg) p2) 1 (((37 : Int32) + ((4 : Int32) * (S 1 0))).toNatClampNeg) p3) L ((((37 : Int32) + ((4 : Int32) * (S 1 0))) + (1 : Int32)).toNatClampNeg) p4)
  have hD := hDA (k_w (k_w (k_w (k_w S 1 (((23 : Int32) + (S 1 0)).toNatClampNeg) p1) 1 (((30 : Int32) + (S 1 0)).toNatClampNeg) p2) 1 (((37 : Int32) + ((4 : Int32) * (S 1 0))).toNatClampNeg) p3) 1 ((((37 : Int32) + ((4 : Int32) * (S 1 0))) + (1 : Int32)).toNatClampNeg) p4) L
  refine lv_aload_n hx hb dX7_layPerson_44 rfl (lv_at hl 1 rfl) ?_
  refine lv_bipush (v := (37 : Int32)) hx hb dX7_layPerson_45 (by decide) ?_
  refine lv_iconst (v := (4 : Int32)) hx hb dX7_layPerson_47 (by decide) ?_
  refine lv_iload hx hb dX7_layPerson_48 (lv_at hl 0 rfl) ?_
  refine lv_imul hx hb dX7_layPerson_50 ?_
  refine lv_iadd hx hb dX7_layPerson_51 ?_
  refine lv_iconst (v := (2 : Int32)) hx hb dX7_layPerson_52 (by decide) ?_
  refine lv_iadd hx hb dX7_layPerson_53 ?_
  refine lv_iload hx hb dX7_layPerson_54 (lv_at hl 6 rfl) ?_
  obtain ⟨hi56, hd⟩ := dn_i hd
  refine k_iast (D := D) (k := (((37 : Int32) + ((4 : Int32) * (S 1 0))) + (2 : Int32)).toNatClampNeg) (by rfl) hx hb hK hP hD hS 1 1 rfl rfl hi56 dX7_layPerson_56 (fun H locs hP hD hS => ?_)
  have hP : va_P D vwCl (wX7 cs a (k_w (k_w (k_w (k_w (k_w S 1 (((23 : Int32) + (S 1 0)).toNatClampNeg) p1) 1 (((30 : Int32) + (S 1 0)).toNatClampNeg) p2) 1 (((37 : Int32) + ((4 : Int32) * (S 1 0))).toNatClampNeg) p3) 1 ((((37 : Int32) + ((4 : Int32) * (S 1 0))) + (1 : Int32)).toNatClampNeg) p4) 1 ((((37 : Int32) + ((4 : Int32) * (S 1 0))) + (2 : Int32)).toNatClampNeg) p5) L) _ := k_eq hP (wsX7_a1 cs a (k_w (k_w (k_w (k_w S 1 (((23 : Int32) + (S 1 0)).toNatClampNeg) p1) 1 (((30 : Int32) + (S 1 0)).toNatClampNeg) p2) 1 (((37 : Int32) + ((4 : Int32) * (S 1 0))).toNatClampNeg) p3) 1 ((((37 : Int32) + ((4 : Int32) * (S 1 0))) + (1 : Int32)).toNatClampNeg) p4) L ((((37 : Int32) + ((4 : Int32) * (S 1 0))) + (2 : Int32)).toNatClampNeg) p5)
  have hD := hDA (k_w (k_w (k_w (k_w (k_w S 1 (((23 : Int32) + (S 1 0)).toNatClampNeg) p1) 1 (((30 : Int32) + (S 1 0)).toNatClampNeg) p2) 1 (((37 : Int32) + ((4 : Int32) * (S 1 0))).toNatClampNeg) p3) 1 ((((37 : Int32) + ((4 : Int32) * (S 1 0))) + (1 : Int32)).toNatClampNeg) p4) 1 ((((37 : Int32) + ((4 : Int32) * (S 1 0))) + (2 : Int32)).toNatClampNeg) p5) L
  refine lv_aload_n hx hb dX7_layPerson_57 rfl (lv_at hl 1 rfl) ?_
  refine lv_bipush (v := (37 : Int32)) hx hb dX7_layPerson_58 (by decide) ?_
  refine lv_iconst (v := (4 : Int32)) hx hb dX7_layPerson_60 (by decide) ?_
  refine lv_iload hx hb dX7_layPerson_61 (lv_at hl 0 rfl) ?_
  refine lv_imul hx hb dX7_layPerson_63 ?_
  refine lv_iadd hx hb dX7_layPerson_64 ?_
  refine lv_iconst (v := (3 : Int32)) hx hb dX7_layPerson_65 (by decide) ?_
  refine lv_iadd hx hb dX7_layPerson_66 ?_
  refine lv_iload hx hb dX7_layPerson_67 (lv_at hl 7 rfl) ?_
  obtain ⟨hi69, hd⟩ := dn_i hd
  refine k_iast (D := D) (k := (((37 : Int32) + ((4 : Int32) * (S 1 0))) + (3 : Int32)).toNatClampNeg) (by rfl) hx hb hK hP hD hS 1 1 rfl rfl hi69 dX7_layPerson_69 (fun H locs hP hD hS => ?_)
  have hP : va_P D vwCl (wX7 cs a (k_w (k_w (k_w (k_w (k_w (k_w S 1 (((23 : Int32) + (S 1 0)).toNatClampNeg) p1) 1 (((30 : Int32) + (S 1 0)).toNatClampNeg) p2) 1 (((37 : Int32) + ((4 : Int32) * (S 1 0))).toNatClampNeg) p3) 1 ((((37 : Int32) + ((4 : Int32) * (S 1 0))) + (1 : Int32)).toNatClampNeg) p4) 1 ((((37 : Int32) + ((4 : Int32) * (S 1 0))) + (2 : Int32)).toNatClampNeg) p5) 1 ((((37 : Int32) + ((4 : Int32) * (S 1 0))) + (3 : Int32)).toNatClampNeg) p6) L) _ := k_eq hP (wsX7_a1 cs a (k_w (k_w (k_w (k_w (k_w S 1 (((23 : Int32) + (S 1 0)).toNatClampNeg) p1) 1 (((30 : Int32) + (S 1 0)).toNatClampNeg) p2) 1 (((37 : Int32) + ((4 : Int32) * (S 1 0))).toNatClampNeg) p3) 1 ((((37 : Int32) + ((4 : Int32) * (S 1 0))) + (1 : Int32)).toNatClampNeg) p4) 1 ((((37 : Int32) + ((4 : Int32) * (S 1 0))) + (2 : Int32)).toNatClampNeg) p5) L ((((37 : Int32) + ((4 : Int32) * (S 1 0))) + (3 : Int32)).toNatClampNeg) p6)
  have hD := hDA (k_w (k_w (k_w (k_w (k_w (k_w S 1 (((23 : Int32) + (S 1 0)).toNatClampNeg) p1) 1 (((30 : Int32) + (S 1 0)).toNatClampNeg) p2) 1 (((37 : Int32) + ((4 : Int32) * (S 1 0))).toNatClampNeg) p3) 1 ((((37 : Int32) + ((4 : Int32) * (S 1 0))) + (1 : Int32)).toNatClampNeg) p4) 1 ((((37 : Int32) + ((4 : Int32) * (S 1 0))) + (2 : Int32)).toNatClampNeg) p5) 1 ((((37 : Int32) + ((4 : Int32) * (S 1 0))) + (3 : Int32)).toNatClampNeg) p6) L
  refine lv_aload_n hx hb dX7_layPerson_70 rfl (lv_at hl 1 rfl) ?_
  refine lv_bipush (v := (15 : Int32)) hx hb dX7_layPerson_71 (by decide) ?_
  refine lv_iload hx hb dX7_layPerson_73 (lv_at hl 0 rfl) ?_
  refine lv_iadd hx hb dX7_layPerson_75 ?_
  refine lv_iconst (v := (0 : Int32)) hx hb dX7_layPerson_76 (by decide) ?_
  obtain ⟨hi77, hd⟩ := dn_i hd
  refine k_iast (D := D) (k := ((15 : Int32) + (S 1 0)).toNatClampNeg) (by rfl) hx hb hK hP hD hS 1 1 rfl rfl hi77 dX7_layPerson_77 (fun H locs hP hD hS => ?_)
  have hP : va_P D vwCl (wX7 cs a (k_w (k_w (k_w (k_w (k_w (k_w (k_w S 1 (((23 : Int32) + (S 1 0)).toNatClampNeg) p1) 1 (((30 : Int32) + (S 1 0)).toNatClampNeg) p2) 1 (((37 : Int32) + ((4 : Int32) * (S 1 0))).toNatClampNeg) p3) 1 ((((37 : Int32) + ((4 : Int32) * (S 1 0))) + (1 : Int32)).toNatClampNeg) p4) 1 ((((37 : Int32) + ((4 : Int32) * (S 1 0))) + (2 : Int32)).toNatClampNeg) p5) 1 ((((37 : Int32) + ((4 : Int32) * (S 1 0))) + (3 : Int32)).toNatClampNeg) p6) 1 (((15 : Int32) + (S 1 0)).toNatClampNeg) (0 : Int32)) L) _ := k_eq hP (wsX7_a1 cs a (k_w (k_w (k_w (k_w (k_w (k_w S 1 (((23 : Int32) + (S 1 0)).toNatClampNeg) p1) 1 (((30 : Int32) + (S 1 0)).toNatClampNeg) p2) 1 (((37 : Int32) + ((4 : Int32) * (S 1 0))).toNatClampNeg) p3) 1 ((((37 : Int32) + ((4 : Int32) * (S 1 0))) + (1 : Int32)).toNatClampNeg) p4) 1 ((((37 : Int32) + ((4 : Int32) * (S 1 0))) + (2 : Int32)).toNatClampNeg) p5) 1 ((((37 : Int32) + ((4 : Int32) * (S 1 0))) + (3 : Int32)).toNatClampNeg) p6) L (((15 : Int32) + (S 1 0)).toNatClampNeg) (0 : Int32))
  have hD := hDA (k_w (k_w (k_w (k_w (k_w (k_w (k_w S 1 (((23 : Int32) + (S 1 0)).toNatClampNeg) p1) 1 (((30 : Int32) + (S 1 0)).toNatClampNeg) p2) 1 (((37 : Int32) + ((4 : Int32) * (S 1 0))).toNatClampNeg) p3) 1 ((((37 : Int32) + ((4 : Int32) * (S 1 0))) + (1 : Int32)).toNatClampNeg) p4) 1 ((((37 : Int32) + ((4 : Int32) * (S 1 0))) + (2 : Int32)).toNatClampNeg) p5) 1 ((((37 : Int32) + ((4 : Int32) * (S 1 0))) + (3 : Int32)).toNatClampNeg) p6) 1 (((15 : Int32) + (S 1 0)).toNatClampNeg) (0 : Int32)) L
  refine lv_aload_n hx hb dX7_layPerson_78 rfl (lv_at hl 1 rfl) ?_
  refine lv_iconst (v := (0 : Int32)) hx hb dX7_layPerson_79 (by decide) ?_
  refine lv_dup2_11 hx hb dX7_layPerson_80 rfl rfl ?_
  refine k_iald (D := D) (k := 0) (by rfl) hx hb hK hP 1 1 rfl rfl (k_in (by decide)) dX7_layPerson_81 ?_
  refine lv_iconst (v := (1 : Int32)) hx hb dX7_layPerson_82 (by decide) ?_
  refine lv_iadd hx hb dX7_layPerson_83 ?_
  refine k_iast (D := D) (k := 0) (by rfl) hx hb hK hP hD hS 1 1 rfl rfl (k_in (by decide)) dX7_layPerson_84 (fun H locs hP hD hS => ?_)
  have hP : va_P D vwCl (wX7 cs a (k_w (k_w (k_w (k_w (k_w (k_w (k_w (k_w S 1 (((23 : Int32) + (S 1 0)).toNatClampNeg) p1) 1 (((30 : Int32) + (S 1 0)).toNatClampNeg) p2) 1 (((37 : Int32) + ((4 : Int32) * (S 1 0))).toNatClampNeg) p3) 1 ((((37 : Int32) + ((4 : Int32) * (S 1 0))) + (1 : Int32)).toNatClampNeg) p4) 1 ((((37 : Int32) + ((4 : Int32) * (S 1 0))) + (2 : Int32)).toNatClampNeg) p5) 1 ((((37 : Int32) + ((4 : Int32) * (S 1 0))) + (3 : Int32)).toNatClampNeg) p6) 1 (((15 : Int32) + (S 1 0)).toNatClampNeg) (0 : Int32)) 1 0 (((k_w (k_w (k_w (k_w (k_w (k_w (k_w S 1 (((23 : Int32) + (S 1 0)).toNatClampNeg) p1) 1 (((30 : Int32) + (S 1 0)).toNatClampNeg) p2) 1 (((37 : Int32) + ((4 : Int32) * (S 1 0))).toNatClampNeg) p3) 1 ((((37 : Int32) + ((4 : Int32) * (S 1 0))) + (1 : Int32)).toNatClampNeg) p4) 1 ((((37 : Int32) + ((4 : Int32) * (S 1 0))) + (2 : Int32)).toNatClampNeg) p5) 1 ((((37 : Int32) + ((4 : Int32) * (S 1 0))) + (3 : Int32)).toNatClampNeg) p6) 1 (((15 : Int32) + (S 1 0)).toNatClampNeg) (0 : Int32)) 1 0) + (1 : Int32))) L) _ := k_eq hP (wsX7_a1 cs a (k_w (k_w (k_w (k_w (k_w (k_w (k_w S 1 (((23 : Int32) + (S 1 0)).toNatClampNeg) p1) 1 (((30 : Int32) + (S 1 0)).toNatClampNeg) p2) 1 (((37 : Int32) + ((4 : Int32) * (S 1 0))).toNatClampNeg) p3) 1 ((((37 : Int32) + ((4 : Int32) * (S 1 0))) + (1 : Int32)).toNatClampNeg) p4) 1 ((((37 : Int32) + ((4 : Int32) * (S 1 0))) + (2 : Int32)).toNatClampNeg) p5) 1 ((((37 : Int32) + ((4 : Int32) * (S 1 0))) + (3 : Int32)).toNatClampNeg) p6) 1 (((15 : Int32) + (S 1 0)).toNatClampNeg) (0 : Int32)) L 0 (((k_w (k_w (k_w (k_w (k_w (k_w (k_w S 1 (((23 : Int32) + (S 1 0)).toNatClampNeg) p1) 1 (((30 : Int32) + (S 1 0)).toNatClampNeg) p2) 1 (((37 : Int32) + ((4 : Int32) * (S 1 0))).toNatClampNeg) p3) 1 ((((37 : Int32) + ((4 : Int32) * (S 1 0))) + (1 : Int32)).toNatClampNeg) p4) 1 ((((37 : Int32) + ((4 : Int32) * (S 1 0))) + (2 : Int32)).toNatClampNeg) p5) 1 ((((37 : Int32) + ((4 : Int32) * (S 1 0))) + (3 : Int32)).toNatClampNeg) p6) 1 (((15 : Int32) + (S 1 0)).toNatClampNeg) (0 : Int32)) 1 0) + (1 : Int32)))
  have hD := hDA (k_w (k_w (k_w (k_w (k_w (k_w (k_w (k_w S 1 (((23 : Int32) + (S 1 0)).toNatClampNeg) p1) 1 (((30 : Int32) + (S 1 0)).toNatClampNeg) p2) 1 (((37 : Int32) + ((4 : Int32) * (S 1 0))).toNatClampNeg) p3) 1 ((((37 : Int32) + ((4 : Int32) * (S 1 0))) + (1 : Int32)).toNatClampNeg) p4) 1 ((((37 : Int32) + ((4 : Int32) * (S 1 0))) + (2 : Int32)).toNatClampNeg) p5) 1 ((((37 : Int32) + ((4 : Int32) * (S 1 0))) + (3 : Int32)).toNatClampNeg) p6) 1 (((15 : Int32) + (S 1 0)).toNatClampNeg) (0 : Int32)) 1 0 (((k_w (k_w (k_w (k_w (k_w (k_w (k_w S 1 (((23 : Int32) + (S 1 0)).toNatClampNeg) p1) 1 (((30 : Int32) + (S 1 0)).toNatClampNeg) p2) 1 (((37 : Int32) + ((4 : Int32) * (S 1 0))).toNatClampNeg) p3) 1 ((((37 : Int32) + ((4 : Int32) * (S 1 0))) + (1 : Int32)).toNatClampNeg) p4) 1 ((((37 : Int32) + ((4 : Int32) * (S 1 0))) + (2 : Int32)).toNatClampNeg) p5) 1 ((((37 : Int32) + ((4 : Int32) * (S 1 0))) + (3 : Int32)).toNatClampNeg) p6) 1 (((15 : Int32) + (S 1 0)).toNatClampNeg) (0 : Int32)) 1 0) + (1 : Int32))) L
  have e1 := dn_s1 hd
  exact k_vret hx hb hr hQ hAe (by rw [e1]) hP hS hlocks dX7_layPerson_85
-- LeastNeedModel.person(IIIIII)I
set_option maxRecDepth 20000 in
def nX7_person_j55 (S_55 : Nat → Nat → Int32) (L : Nat → Nat → Int64) : Option (Int32 × (Nat → Nat → Int32)) := k_b2 (nX7_bad S_55 L (-2 : Int32)) (fun r58 S58 => some (r58, S58))
set_option maxRecDepth 20000 in
def nX7_person (S : Nat → Nat → Int32) (L : Nat → Nat → Int64) (p1 : Int32) (p2 : Int32) (p3 : Int32) (p4 : Int32) (p5 : Int32) (p6 : Int32) : Option (Int32 × (Nat → Nat → Int32)) := k_b1 (nX7_in p1.toInt64 (0 : Int64) (5 : Int64)) (fun r6 => if r6 = 0 then nX7_person_j55 S L else k_b1 (nX7_in p2.toInt64 (0 : Int64) (19 : Int64)) (fun r18 => if r18 = 0 then nX7_person_j55 S L else k_b1 (nX7_isNeed p3) (fun r25 => if r25 = 0 then nX7_person_j55 S L else k_b1 (nX7_isNeed p4) (fun r33 => if r33 = 0 then nX7_person_j55 S L else k_b1 (nX7_isNeed p5) (fun r41 => if r41 = 0 then nX7_person_j55 S L else k_b1 (nX7_isNeed p6) (fun r49 => if r49 = 0 then nX7_person_j55 S L else k_b1 (nX7_many S L) (fun r63 => if r63 = (7 : Int32) then k_b2 (nX7_full S L) (fun r72 S72 => some (r72, S72)) else k_b1 (nX7_layPerson_1 S L p1 p2 p3 p4 p5 p6) (fun S89 => k_b1 (nX7_many (k_w S89 1 4 (0 : Int32)) L) (fun r100 => some ((r100 - (1 : Int32)), (k_w S89 1 4 (0 : Int32))))))))))))
set_option maxHeartbeats 4000000 in
set_option maxRecDepth 100000 in
theorem mX7_person (l : Launch) (D : va_G) (cs : Nat → ClassId) (a : Nat → Nat) (S : Nat → Nat → Int32) (L : Nat → Nat → Int64) (p1 : Int32) (p2 : Int32) (p3 : Int32) (p4 : Int32) (p5 : Int32) (p6 : Int32) (r9 : Int32) (S9 : (Nat → Nat → Int32)) (hd : nX7_person S L p1 p2 p3 p4 p5 p6 = some (r9, S9)) : ∀ sz : Nat, Met l yX7_person wsX7_person ({ frames := 2, cells := 0, slots := 0, locals := 45 }) (k_Pc D cs [.ref (a 0), .int p1, .int p2, .int p3, .int p4, .int p5, .int p6] (wX7 cs a S L) sz) (k_Qi D r9 (wX7 cs a S L) (wX7 cs a S9 L) sz) 0 0 (va_A (wX7 cs a S L) sz) := by
  intro sz
  refine Met.ofW (cc := cX7_person) (maxL := 7) (ret := (some .int)) (by decide) rfl ?_
  intro p e s m args below meth c s₁ B hml hv
  obtain ⟨rfl, hsz, hP, hK, hD0, hNn⟩ := hv
  have hx := B.exec
  have hb := B.bytes
  have hr := B.returns
  have hts := atoms_spec (ws := wsX7_person) B.pre
  have hown : s.vm.findClass RX7 = some m.cls := findClass_of_methodNamed B.named
  have hlocks := B.notSynchronized
  subst hsz
  obtain ⟨A, hAe⟩ : ∃ A : Nat → Prop, A = va_A (wX7 cs a S L) s.heap.size := ⟨_, rfl⟩
  have hD : va_D A (wX7 cs a S L) := by rw [hAe]; exact hD0.self
  have hA : ∀ q : Nat, s.heap.size ≤ q → A q := fun q h => by rw [hAe]; exact Or.inr h
  have hS : va_S A s.heap s.heap [] := va_S.rf
  have hDA : ∀ (S : Nat → Nat → Int32) (L : Nat → Nat → Int64), va_D A (wX7 cs a S L) := fun S L => k_DA hD rfl
  have hl := lv_entry ([.ref (a 0), .int p1, .int p2, .int p3, .int p4, .int p5, .int p6]) (n := 7) (Nat.le_of_ble_eq_true rfl)
  rw [lg_entry_eq]
  generalize (lg_sl ([.ref (a 0), .int p1, .int p2, .int p3, .int p4, .int p5, .int p6]) ++ List.replicate (7 - (lg_sl ([.ref (a 0), .int p1, .int p2, .int p3, .int p4, .int p5, .int p6])).length) Slot.unset).toArray = ls at hl ⊢
  have hl : lv_has ls 7 [(0, .ref (a 0)), (1, .int p1), (2, .int p2), (3, .int p3), (4, .int p4), (5, .int p5), (6, .int p6)] := hl
  obtain ⟨Q, hQ⟩ : ∃ Q, Q = MQ below (k_Qi D r9 (wX7 cs a S L) (wX7 cs a S9 L) s.heap.size) ([.ref (a 0), .int p1, .int p2, .int p3, .int p4, .int p5, .int p6] : List Value).toArray s 0 0 (va_A (wX7 cs a S L) s.heap.size) := ⟨_, rfl⟩
  rw [← hQ]
  have Jo55 : ∀ (S_55 : Nat → Nat → Int32) (H : Heap) (locs : List Loc) (ls : Array Slot), nX7_person_j55 S_55 L = some (r9, S9) → lv_has ls 7 [(0, .ref (a 0))] → va_P D vwCl (wX7 cs a S_55 L) H → va_S A s.heap H locs → W p l e (headSpec wsX7_person ({ frames := 2, cells := 0, slots := 0, locals := 45 })).room s m ([.ref (a 0), .int p1, .int p2, .int p3, .int p4, .int p5, .int p6] : List Value).toArray below meth c H locs 0 0 Q (F0 m 55 ls []) := by
    intro S_55 H locs ls hd hl hP hS
    have hD := hDA S_55 L
    unfold nX7_person_j55 at hd
    refine lv_aload_n hx hb dX7_person_55 rfl (lv_at hl 0 rfl) ?_
    refine lv_bipush (v := (-2 : Int32)) hx hb dX7_person_56 (by decide) ?_
    obtain ⟨r58, S58, hq58, hd⟩ := dn_b2 hd
    have hF := k_self hD hS hA
    refine k_run_i (va_runV (As := [.int (-2 : Int32)]) (rest := []) ⟨hx, hb, hml, hown, hts⟩ (mX7_bad l D cs a S_55 L (-2 : Int32) r58 S58 hq58 _) (cwV 1 hts gX7_person_X7_bad rfl rfl rfl (by decide +kernel) ⟨Nat.le_of_ble_eq_true rfl, Nat.le_of_ble_eq_true rfl⟩) ⟨k_blind, va_recv hK hP (ci := 5) (q0 := 0) rfl rfl, k_pre hP hK hNn hD⟩ rfl rfl hl.1 rfl (lv_room (Nat.le_of_ble_eq_true rfl)) dX7_person_58 ⟨Nat.le_of_ble_eq_true rfl, Nat.le_of_ble_eq_true rfl⟩) hS hF (fun H locs hP1 hk hS => ?_)
    have hP : va_P D vwCl (wX7 cs a S58 L) _ := hP1
    have hD := hDA S58 L
    obtain ⟨e1, e2⟩ := dn_s2 hd
    exact k_iret hx hb hr hQ hAe e1 (by rw [e2]) hP hS hlocks dX7_person_61
  unfold nX7_person at hd
  refine lv_iload_n hx hb dX7_person_0 rfl (lv_at hl 1 rfl) ?_
  refine lv_i2l hx hb dX7_person_1 rfl ?_
  refine lv_lconst (v := (0 : Int64)) hx hb dX7_person_2 (by decide) ?_
  refine lv_ldc2 (v := (5 : Int64)) hx hb hown (hts (.constantLong RX7 89 (5)) (List.mem_of_getElem? (i := 1) rfl)) dX7_person_3 ?_
  obtain ⟨r6, hq6, hd⟩ := dn_b1 hd
  have hPc := k_P0 hP
  have hDc : va_D A ([] : va_W) := k_D0
  have hF := k_self hDc hS hA
  refine k_run_i (va_runS (As := [.long p1.toInt64, .long (0 : Int64), .long (5 : Int64)]) (rest := []) ⟨hx, hb, hml, hown, hts⟩ (mX7_in l D cs  p1.toInt64 (0 : Int64) (5 : Int64) r6 hq6 _) (va_cwS 3 hts gX7_person_X7_in rfl rfl rfl (by decide +kernel) ⟨Nat.le_of_ble_eq_true rfl, Nat.le_of_ble_eq_true rfl⟩) ⟨k_blind, k_pre hPc hK hNn hDc⟩ rfl rfl hl.1 rfl (lv_room (Nat.le_of_ble_eq_true rfl)) dX7_person_6 ⟨Nat.le_of_ble_eq_true rfl, Nat.le_of_ble_eq_true rfl⟩) hS hF (fun H locs hP1 hk hS => ?_)
  have hP : va_P D vwCl (wX7 cs a S L) _ := k_keep hP hk
  refine lv_if_eq (tgt := 55) hx hb dX7_person_9 (by decide) (fun c9 => ?_) (fun c9 => ?_)
  · have hd := dn_t c9 hd
    exact Jo55 S _ _ _ hd (lv_sub hl [0] rfl) hP hS
  · have hd := dn_f c9 hd
    refine lv_iload_n hx hb dX7_person_12 rfl (lv_at hl 2 rfl) ?_
    refine lv_i2l hx hb dX7_person_13 rfl ?_
    refine lv_lconst (v := (0 : Int64)) hx hb dX7_person_14 (by decide) ?_
    refine lv_ldc2 (v := (19 : Int64)) hx hb hown (hts (.constantLong RX7 91 (19)) (List.mem_of_getElem? (i := 2) rfl)) dX7_person_15 ?_
    obtain ⟨r18, hq18, hd⟩ := dn_b1 hd
    have hPc := k_P0 hP
    have hDc : va_D A ([] : va_W) := k_D0
    have hF := k_self hDc hS hA
    refine k_run_i (va_runS (As := [.long p2.toInt64, .long (0 : Int64), .long (19 : Int64)]) (rest := []) ⟨hx, hb, hml, hown, hts⟩ (mX7_in l D cs  p2.toInt64 (0 : Int64) (19 : Int64) r18 hq18 _) (va_cwS 3 hts gX7_person_X7_in rfl rfl rfl (by decide +kernel) ⟨Nat.le_of_ble_eq_true rfl, Nat.le_of_ble_eq_true rfl⟩) ⟨k_blind, k_pre hPc hK hNn hDc⟩ rfl rfl hl.1 rfl (lv_room (Nat.le_of_ble_eq_true rfl)) dX7_person_18 ⟨Nat.le_of_ble_eq_true rfl, Nat.le_of_ble_eq_true rfl⟩) hS hF (fun H locs hP1 hk hS => ?_)
    have hP : va_P D vwCl (wX7 cs a S L) _ := k_keep hP hk
    refine lv_if_eq (tgt := 55) hx hb dX7_person_21 (by decide) (fun c21 => ?_) (fun c21 => ?_)
    · have hd := dn_t c21 hd
      exact Jo55 S _ _ _ hd (lv_sub hl [0] rfl) hP hS
    · have hd := dn_f c21 hd
      refine lv_iload_n hx hb dX7_person_24 rfl (lv_at hl 3 rfl) ?_
      obtain ⟨r25, hq25, hd⟩ := dn_b1 hd
      have hPc := k_P0 hP
      have hDc : va_D A ([] : va_W) := k_D0
      have hF := k_self hDc hS hA
      refine k_run_i (va_runS (As := [.int p3]) (rest := []) ⟨hx, hb, hml, hown, hts⟩ (mX7_isNeed l D cs  p3 r25 hq25 _) (va_cwS 1 hts gX7_person_X7_isNeed rfl rfl rfl (by decide +kernel) ⟨Nat.le_of_ble_eq_true rfl, Nat.le_of_ble_eq_true rfl⟩) ⟨k_blind, k_pre hPc hK hNn hDc⟩ rfl rfl hl.1 rfl (lv_room (Nat.le_of_ble_eq_true rfl)) dX7_person_25 ⟨Nat.le_of_ble_eq_true rfl, Nat.le_of_ble_eq_true rfl⟩) hS hF (fun H locs hP1 hk hS => ?_)
      have hP : va_P D vwCl (wX7 cs a S L) _ := k_keep hP hk
      refine lv_if_eq (tgt := 55) hx hb dX7_person_28 (by decide) (fun c28 => ?_) (fun c28 => ?_)
      · have hd := dn_t c28 hd
        exact Jo55 S _ _ _ hd (lv_sub hl [0] rfl) hP hS
      · have hd := dn_f c28 hd
        refine lv_iload hx hb dX7_person_31 (lv_at hl 4 rfl) ?_
        obtain ⟨r33, hq33, hd⟩ := dn_b1 hd
        have hPc := k_P0 hP
        have hDc : va_D A ([] : va_W) := k_D0
        have hF := k_self hDc hS hA
        refine k_run_i (va_runS (As := [.int p4]) (rest := []) ⟨hx, hb, hml, hown, hts⟩ (mX7_isNeed l D cs  p4 r33 hq33 _) (va_cwS 1 hts gX7_person_X7_isNeed rfl rfl rfl (by decide +kernel) ⟨Nat.le_of_ble_eq_true rfl, Nat.le_of_ble_eq_true rfl⟩) ⟨k_blind, k_pre hPc hK hNn hDc⟩ rfl rfl hl.1 rfl (lv_room (Nat.le_of_ble_eq_true rfl)) dX7_person_33 ⟨Nat.le_of_ble_eq_true rfl, Nat.le_of_ble_eq_true rfl⟩) hS hF (fun H locs hP1 hk hS => ?_)
        have hP : va_P D vwCl (wX7 cs a S L) _ := k_keep hP hk
        refine lv_if_eq (tgt := 55) hx hb dX7_person_36 (by decide) (fun c36 => ?_) (fun c36 => ?_)
        · have hd := dn_t c36 hd
          exact Jo55 S _ _ _ hd (lv_sub hl [0] rfl) hP hS
        · have hd := dn_f c36 hd
          refine lv_iload hx hb dX7_person_39 (lv_at hl 5 rfl) ?_
          obtain ⟨r41, hq41, hd⟩ := dn_b1 hd
          have hPc := k_P0 hP
          have hDc : va_D A ([] : va_W) := k_D0
          have hF := k_self hDc hS hA
          refine k_run_i (va_runS (As := [.int p5]) (rest := []) ⟨hx, hb, hml, hown, hts⟩ (mX7_isNeed l D cs  p5 r41 hq41 _) (va_cwS 1 hts gX7_person_X7_isNeed rfl rfl rfl (by decide +kernel) ⟨Nat.le_of_ble_eq_true rfl, Nat.le_of_ble_eq_true rfl⟩) ⟨k_blind, k_pre hPc hK hNn hDc⟩ rfl rfl hl.1 rfl (lv_room (Nat.le_of_ble_eq_true rfl)) dX7_person_41 ⟨Nat.le_of_ble_eq_true rfl, Nat.le_of_ble_eq_true rfl⟩) hS hF (fun H locs hP1 hk hS => ?_)
          have hP : va_P D vwCl (wX7 cs a S L) _ := k_keep hP hk
          refine lv_if_eq (tgt := 55) hx hb dX7_person_44 (by decide) (fun c44 => ?_) (fun c44 => ?_)
          · have hd := dn_t c44 hd
            exact Jo55 S _ _ _ hd (lv_sub hl [0] rfl) hP hS
          · have hd := dn_f c44 hd
            refine lv_iload hx hb dX7_person_47 (lv_at hl 6 rfl) ?_
            obtain ⟨r49, hq49, hd⟩ := dn_b1 hd
            have hPc := k_P0 hP
            have hDc : va_D A ([] : va_W) := k_D0
            have hF := k_self hDc hS hA
            refine k_run_i (va_runS (As := [.int p6]) (rest := []) ⟨hx, hb, hml, hown, hts⟩ (mX7_isNeed l D cs  p6 r49 hq49 _) (va_cwS 1 hts gX7_person_X7_isNeed rfl rfl rfl (by decide +kernel) ⟨Nat.le_of_ble_eq_true rfl, Nat.le_of_ble_eq_true rfl⟩) ⟨k_blind, k_pre hPc hK hNn hDc⟩ rfl rfl hl.1 rfl (lv_room (Nat.le_of_ble_eq_true rfl)) dX7_person_49 ⟨Nat.le_of_ble_eq_true rfl, Nat.le_of_ble_eq_true rfl⟩) hS hF (fun H locs hP1 hk hS => ?_)
            have hP : va_P D vwCl (wX7 cs a S L) _ := k_keep hP hk
            refine lv_if_ne (tgt := 62) hx hb dX7_person_52 (by decide) (fun c52 => ?_) (fun c52 => ?_)
            · have hd := dn_f c52 hd
              refine lv_aload_n hx hb dX7_person_62 rfl (lv_at hl 0 rfl) ?_
              obtain ⟨r63, hq63, hd⟩ := dn_b1 hd
              have hF := k_self hD hS hA
              refine k_run_i (va_runV (As := []) (rest := []) ⟨hx, hb, hml, hown, hts⟩ (mX7_many l D cs a S L r63 hq63 _) (cwV 0 hts gX7_person_X7_many rfl rfl rfl (by decide +kernel) ⟨Nat.le_of_ble_eq_true rfl, Nat.le_of_ble_eq_true rfl⟩) ⟨k_blind, va_recv hK hP (ci := 5) (q0 := 0) rfl rfl, k_pre hP hK hNn hD⟩ rfl rfl hl.1 rfl (lv_room (Nat.le_of_ble_eq_true rfl)) dX7_person_63 ⟨Nat.le_of_ble_eq_true rfl, Nat.le_of_ble_eq_true rfl⟩) hS hF (fun H locs hP1 hk hS => ?_)
              have hP : va_P D vwCl (wX7 cs a S L) _ := hP1
              have hD := hDA S L
              refine lv_bipush (v := (7 : Int32)) hx hb dX7_person_66 (by decide) ?_
              refine lv_icmp_ne (tgt := 76) hx hb dX7_person_68 (by decide) (fun c68 => ?_) (fun c68 => ?_)
              · have hd := dn_f c68 hd
                refine lv_aload_n hx hb dX7_person_76 rfl (lv_at hl 0 rfl) ?_
                refine va_get (D := D) (ci := 5) (v := .ref (a 1)) (C := RX7) (T := TX7) (N := 25) hx hb hts (fun w h => List.mem_cons_of_mem _ (List.mem_append_right _ h)) hown hK hP 0 rfl rfl 0 (by decide) (hts (.fieldLink RX7 7 "LeastNeedModel" "told" "[I") (List.mem_of_getElem? (i := 3) rfl)) (fun _ h9 => h9) rfl dX7_person_77 ?_
                refine lv_iload_n hx hb dX7_person_80 rfl (lv_at hl 1 rfl) ?_
                refine lv_iload_n hx hb dX7_person_81 rfl (lv_at hl 2 rfl) ?_
                refine lv_iload_n hx hb dX7_person_82 rfl (lv_at hl 3 rfl) ?_
                refine lv_iload hx hb dX7_person_83 (lv_at hl 4 rfl) ?_
                refine lv_iload hx hb dX7_person_85 (lv_at hl 5 rfl) ?_
                refine lv_iload hx hb dX7_person_87 (lv_at hl 6 rfl) ?_
                obtain ⟨S89, hq89, hd⟩ := dn_b1 hd
                have hF := k_self hD hS hA
                refine k_run_v (va_runS (As := [.ref (a 1), .int p1, .int p2, .int p3, .int p4, .int p5, .int p6]) (rest := []) ⟨hx, hb, hml, hown, hts⟩ (mX7_layPerson_1 l D cs a S L p1 p2 p3 p4 p5 p6 S89 hq89 _) (va_cwS 7 hts gX7_person_X7_layPerson rfl rfl rfl (by decide +kernel) ⟨Nat.le_of_ble_eq_true rfl, Nat.le_of_ble_eq_true rfl⟩) ⟨k_blind, k_pre hP hK hNn hD⟩ rfl rfl hl.1 rfl (lv_room (Nat.le_of_ble_eq_true rfl)) dX7_person_89 ⟨Nat.le_of_ble_eq_true rfl, Nat.le_of_ble_eq_true rfl⟩) hS hF (fun H locs hP1 hk hS => ?_)
                have hP : va_P D vwCl (wX7 cs a S89 L) _ := hP1
                have hD := hDA S89 L
                refine lv_aload_n hx hb dX7_person_92 rfl (lv_at hl 0 rfl) ?_
                refine va_get (D := D) (ci := 5) (v := .ref (a 1)) (C := RX7) (T := TX7) (N := 25) hx hb hts (fun w h => List.mem_cons_of_mem _ (List.mem_append_right _ h)) hown hK hP 0 rfl rfl 0 (by decide) (hts (.fieldLink RX7 7 "LeastNeedModel" "told" "[I") (List.mem_of_getElem? (i := 3) rfl)) (fun _ h9 => h9) rfl dX7_person_93 ?_
                refine lv_iconst (v := (4 : Int32)) hx hb dX7_person_96 (by decide) ?_
                refine lv_iconst (v := (0 : Int32)) hx hb dX7_person_97 (by decide) ?_
                refine k_iast (D := D) (k := 4) (by rfl) hx hb hK hP hD hS 1 1 rfl rfl (k_in (by decide)) dX7_person_98 (fun H locs hP hD hS => ?_)
                have hP : va_P D vwCl (wX7 cs a (k_w S89 1 4 (0 : Int32)) L) _ := k_eq hP (wsX7_a1 cs a S89 L 4 (0 : Int32))
                have hD := hDA (k_w S89 1 4 (0 : Int32)) L
                refine lv_aload_n hx hb dX7_person_99 rfl (lv_at hl 0 rfl) ?_
                obtain ⟨r100, hq100, hd⟩ := dn_b1 hd
                have hF := k_self hD hS hA
                refine k_run_i (va_runV (As := []) (rest := []) ⟨hx, hb, hml, hown, hts⟩ (mX7_many l D cs a (k_w S89 1 4 (0 : Int32)) L r100 hq100 _) (cwV 0 hts gX7_person_X7_many rfl rfl rfl (by decide +kernel) ⟨Nat.le_of_ble_eq_true rfl, Nat.le_of_ble_eq_true rfl⟩) ⟨k_blind, va_recv hK hP (ci := 5) (q0 := 0) rfl rfl, k_pre hP hK hNn hD⟩ rfl rfl hl.1 rfl (lv_room (Nat.le_of_ble_eq_true rfl)) dX7_person_100 ⟨Nat.le_of_ble_eq_true rfl, Nat.le_of_ble_eq_true rfl⟩) hS hF (fun H locs hP1 hk hS => ?_)
                have hP : va_P D vwCl (wX7 cs a (k_w S89 1 4 (0 : Int32)) L) _ := hP1
                have hD := hDA (k_w S89 1 4 (0 : Int32)) L
                refine lv_iconst (v := (1 : Int32)) hx hb dX7_person_103 (by decide) ?_
                refine lv_isub hx hb dX7_person_104 ?_
                obtain ⟨e1, e2⟩ := dn_s2 hd
                exact k_iret hx hb hr hQ hAe e1 (by rw [e2]) hP hS hlocks dX7_person_105
              · have hd := dn_t c68 hd
                refine lv_aload_n hx hb dX7_person_71 rfl (lv_at hl 0 rfl) ?_
                obtain ⟨r72, S72, hq72, hd⟩ := dn_b2 hd
                have hF := k_self hD hS hA
                refine k_run_i (va_runV (As := []) (rest := []) ⟨hx, hb, hml, hown, hts⟩ (mX7_full l D cs a S L r72 S72 hq72 _) (cwV 0 hts gX7_person_X7_full rfl rfl rfl (by decide +kernel) ⟨Nat.le_of_ble_eq_true rfl, Nat.le_of_ble_eq_true rfl⟩) ⟨k_blind, va_recv hK hP (ci := 5) (q0 := 0) rfl rfl, k_pre hP hK hNn hD⟩ rfl rfl hl.1 rfl (lv_room (Nat.le_of_ble_eq_true rfl)) dX7_person_72 ⟨Nat.le_of_ble_eq_true rfl, Nat.le_of_ble_eq_true rfl⟩) hS hF (fun H locs hP1 hk hS => ?_)
                have hP : va_P D vwCl (wX7 cs a S72 L) _ := hP1
                have hD := hDA S72 L
                obtain ⟨e1, e2⟩ := dn_s2 hd
                exact k_iret hx hb hr hQ hAe e1 (by rw [e2]) hP hS hlocks dX7_person_75
            · have hd := dn_t c52 hd
              exact Jo55 S _ _ _ hd (lv_sub hl [0] rfl) hP hS
-- LeastNeedModel.layThing([IIII)V
set_option maxRecDepth 20000 in
def nX7_layThing_1 (S : Nat → Nat → Int32) (L : Nat → Nat → Int64) (p1 : Int32) (p2 : Int32) (p3 : Int32) : Option ((Nat → Nat → Int32)) := if ((65 : Int32) + (S 1 1)) < 0 ∨ 284 ≤ ((65 : Int32) + (S 1 1)).toNatClampNeg then none else if ((70 : Int32) + (S 1 1)) < 0 ∨ 284 ≤ ((70 : Int32) + (S 1 1)).toNatClampNeg then none else if ((75 : Int32) + (S 1 1)) < 0 ∨ 284 ≤ ((75 : Int32) + (S 1 1)).toNatClampNeg then none else if ((5 : Int32) + (S 1 1)) < 0 ∨ 284 ≤ ((5 : Int32) + (S 1 1)).toNatClampNeg then none else if ((10 : Int32) + (S 1 1)) < 0 ∨ 284 ≤ ((10 : Int32) + (S 1 1)).toNatClampNeg then none else some (k_w (k_w (k_w (k_w (k_w (k_w S 1 (((65 : Int32) + (S 1 1)).toNatClampNeg) p1) 1 (((70 : Int32) + (S 1 1)).toNatClampNeg) p2) 1 (((75 : Int32) + (S 1 1)).toNatClampNeg) p3) 1 (((5 : Int32) + (S 1 1)).toNatClampNeg) p3) 1 (((10 : Int32) + (S 1 1)).toNatClampNeg) (0 : Int32)) 1 1 (((k_w (k_w (k_w (k_w (k_w S 1 (((65 : Int32) + (S 1 1)).toNatClampNeg) p1) 1 (((70 : Int32) + (S 1 1)).toNatClampNeg) p2) 1 (((75 : Int32) + (S 1 1)).toNatClampNeg) p3) 1 (((5 : Int32) + (S 1 1)).toNatClampNeg) p3) 1 (((10 : Int32) + (S 1 1)).toNatClampNeg) (0 : Int32)) 1 1) + (1 : Int32)))
set_option maxHeartbeats 4000000 in
set_option maxRecDepth 100000 in
theorem mX7_layThing_1 (l : Launch) (D : va_G) (cs : Nat → ClassId) (a : Nat → Nat) (S : Nat → Nat → Int32) (L : Nat → Nat → Int64) (p1 : Int32) (p2 : Int32) (p3 : Int32) (S9 : (Nat → Nat → Int32)) (hd : nX7_layThing_1 S L p1 p2 p3 = some S9) : ∀ sz : Nat, Met l yX7_layThing wsX7_layThing ({ frames := 0, cells := 0, slots := 0, locals := 0 }) (k_Pc D cs [.ref (a 1), .int p1, .int p2, .int p3] (wX7 cs a S L) sz) (k_Qv D (wX7 cs a S L) (wX7 cs a S9 L) sz) 0 0 (va_A (wX7 cs a S L) sz) := by
  intro sz
  refine Met.ofW (cc := cX7_layThing) (maxL := 5) (ret := none) (by decide) rfl ?_
  intro p e s m args below meth c s₁ B hml hv
  obtain ⟨rfl, hsz, hP, hK, hD0, hNn⟩ := hv
  have hx := B.exec
  have hb := B.bytes
  have hr := B.returns
  have hts := atoms_spec (ws := wsX7_layThing) B.pre
  have hown : s.vm.findClass RX7 = some m.cls := findClass_of_methodNamed B.named
  have hlocks := B.notSynchronized
  subst hsz
  obtain ⟨A, hAe⟩ : ∃ A : Nat → Prop, A = va_A (wX7 cs a S L) s.heap.size := ⟨_, rfl⟩
  have hD : va_D A (wX7 cs a S L) := by rw [hAe]; exact hD0.self
  have hA : ∀ q : Nat, s.heap.size ≤ q → A q := fun q h => by rw [hAe]; exact Or.inr h
  have hS : va_S A s.heap s.heap [] := va_S.rf
  have hDA : ∀ (S : Nat → Nat → Int32) (L : Nat → Nat → Int64), va_D A (wX7 cs a S L) := fun S L => k_DA hD rfl
  have hl := lv_entry ([.ref (a 1), .int p1, .int p2, .int p3]) (n := 5) (Nat.le_of_ble_eq_true rfl)
  rw [lg_entry_eq]
  generalize (lg_sl ([.ref (a 1), .int p1, .int p2, .int p3]) ++ List.replicate (5 - (lg_sl ([.ref (a 1), .int p1, .int p2, .int p3])).length) Slot.unset).toArray = ls at hl ⊢
  have hl : lv_has ls 5 [(0, .ref (a 1)), (1, .int p1), (2, .int p2), (3, .int p3)] := hl
  obtain ⟨Q, hQ⟩ : ∃ Q, Q = MQ below (k_Qv D (wX7 cs a S L) (wX7 cs a S9 L) s.heap.size) ([.ref (a 1), .int p1, .int p2, .int p3] : List Value).toArray s 0 0 (va_A (wX7 cs a S L) s.heap.size) := ⟨_, rfl⟩
  rw [← hQ]
  unfold nX7_layThing_1 at hd
  refine lv_aload_n hx hb dX7_layThing_0 rfl (lv_at hl 0 rfl) ?_
  refine lv_iconst (v := (1 : Int32)) hx hb dX7_layThing_1 (by decide) ?_
  refine k_iald (D := D) (k := 1) (by rfl) hx hb hK hP 1 1 rfl rfl (k_in (by decide)) dX7_layThing_2 ?_
  refine lv_istore (lv' := [(4, .int (S 1 1)), (0, .ref (a 1)), (1, .int p1), (2, .int p2), (3, .int p3)]) hx hb dX7_layThing_3 hl (by decide) rfl (fun ls hl => ?_)
  refine lv_aload_n hx hb dX7_layThing_5 rfl (lv_at hl 1 rfl) ?_
  refine lv_bipush (v := (65 : Int32)) hx hb dX7_layThing_6 (by decide) ?_
  refine lv_iload hx hb dX7_layThing_8 (lv_at hl 0 rfl) ?_
  refine lv_iadd hx hb dX7_layThing_10 ?_
  refine lv_iload_n hx hb dX7_layThing_11 rfl (lv_at hl 2 rfl) ?_
  obtain ⟨hi12, hd⟩ := dn_i hd
  refine k_iast (D := D) (k := ((65 : Int32) + (S 1 1)).toNatClampNeg) (by rfl) hx hb hK hP hD hS 1 1 rfl rfl hi12 dX7_layThing_12 (fun H locs hP hD hS => ?_)
  have hP : va_P D vwCl (wX7 cs a (k_w S 1 (((65 : Int32) + (S 1 1)).toNatClampNeg) p1) L) _ := k_eq hP (wsX7_a1 cs a S L (((65 : Int32) + (S 1 1)).toNatClampNeg) p1)
  have hD := hDA (k_w S 1 (((65 : Int32) + (S 1 1)).toNatClampNeg) p1) L
  refine lv_aload_n hx hb dX7_layThing_13 rfl (lv_at hl 1 rfl) ?_
  refine lv_bipush (v := (70 : Int32)) hx hb dX7_layThing_14 (by decide) ?_
  refine lv_iload hx hb dX7_layThing_16 (lv_at hl 0 rfl) ?_
  refine lv_iadd hx hb dX7_layThing_18 ?_
  refine lv_iload_n hx hb dX7_layThing_19 rfl (lv_at hl 3 rfl) ?_
  obtain ⟨hi20, hd⟩ := dn_i hd
  refine k_iast (D := D) (k := ((70 : Int32) + (S 1 1)).toNatClampNeg) (by rfl) hx hb hK hP hD hS 1 1 rfl rfl hi20 dX7_layThing_20 (fun H locs hP hD hS => ?_)
  have hP : va_P D vwCl (wX7 cs a (k_w (k_w S 1 (((65 : Int32) + (S 1 1)).toNatClampNeg) p1) 1 (((70 : Int32) + (S 1 1)).toNatClampNeg) p2) L) _ := k_eq hP (wsX7_a1 cs a (k_w S 1 (((65 : Int32) + (S 1 1)).toNatClampNeg) p1) L (((70 : Int32) + (S 1 1)).toNatClampNeg) p2)
  have hD := hDA (k_w (k_w S 1 (((65 : Int32) + (S 1 1)).toNatClampNeg) p1) 1 (((70 : Int32) + (S 1 1)).toNatClampNeg) p2) L
  refine lv_aload_n hx hb dX7_layThing_21 rfl (lv_at hl 1 rfl) ?_
  refine lv_bipush (v := (75 : Int32)) hx hb dX7_layThing_22 (by decide) ?_
  refine lv_iload hx hb dX7_layThing_24 (lv_at hl 0 rfl) ?_
  refine lv_iadd hx hb dX7_layThing_26 ?_
  refine lv_iload_n hx hb dX7_layThing_27 rfl (lv_at hl 4 rfl) ?_
  obtain ⟨hi28, hd⟩ := dn_i hd
  refine k_iast (D := D) (k := ((75 : Int32) + (S 1 1)).toNatClampNeg) (by rfl) hx hb hK hP hD hS 1 1 rfl rfl hi28 dX7_layThing_28 (fun H locs hP hD hS => ?_)
  have hP : va_P D vwCl (wX7 cs a (k_w (k_w (k_w S 1 (((65 : Int32) + (S 1 1)).toNatClampNeg) p1) 1 (((70 : Int32) + (S 1 1)).toNatClampNeg) p2) 1 (((75 : Int32) + (S 1 1)).toNatClampNeg) p3) L) _ := k_eq hP (wsX7_a1 cs a (k_w (k_w S 1 (((65 : Int32) + (S 1 1)).toNatClampNeg) p1) 1 (((70 : Int32) + (S 1 1)).toNatClampNeg) p2) L (((75 : Int32) + (S 1 1)).toNatClampNeg) p3)
  have hD := hDA (k_w (k_w (k_w S 1 (((65 : Int32) + (S 1 1)).toNatClampNeg) p1) 1 (((70 : Int32) + (S 1 1)).toNatClampNeg) p2) 1 (((75 : Int32) + (S 1 1)).toNatClampNeg) p3) L
  refine lv_aload_n hx hb dX7_layThing_29 rfl (lv_at hl 1 rfl) ?_
  refine lv_iconst (v := (5 : Int32)) hx hb dX7_layThing_30 (by decide) ?_
  refine lv_iload hx hb dX7_layThing_31 (lv_at hl 0 rfl) ?_
  refine lv_iadd hx hb dX7_layThing_33 ?_
  refine lv_iload_n hx hb dX7_layThing_34 rfl (lv_at hl 4 rfl) ?_
  obtain ⟨hi35, hd⟩ := dn_i hd
  refine k_iast (D := D) (k := ((5 : Int32) + (S 1 1)).toNatClampNeg) (by rfl) hx hb hK hP hD hS 1 1 rfl rfl hi35 dX7_layThing_35 (fun H locs hP hD hS => ?_)
  have hP : va_P D vwCl (wX7 cs a (k_w (k_w (k_w (k_w S 1 (((65 : Int32) + (S 1 1)).toNatClampNeg) p1) 1 (((70 : Int32) + (S 1 1)).toNatClampNeg) p2) 1 (((75 : Int32) + (S 1 1)).toNatClampNeg) p3) 1 (((5 : Int32) + (S 1 1)).toNatClampNeg) p3) L) _ := k_eq hP (wsX7_a1 cs a (k_w (k_w (k_w S 1 (((65 : Int32) + (S 1 1)).toNatClampNeg) p1) 1 (((70 : Int32) + (S 1 1)).toNatClampNeg) p2) 1 (((75 : Int32) + (S 1 1)).toNatClampNeg) p3) L (((5 : Int32) + (S 1 1)).toNatClampNeg) p3)
  have hD := hDA (k_w (k_w (k_w (k_w S 1 (((65 : Int32) + (S 1 1)).toNatClampNeg) p1) 1 (((70 : Int32) + (S 1 1)).toNatClampNeg) p2) 1 (((75 : Int32) + (S 1 1)).toNatClampNeg) p3) 1 (((5 : Int32) + (S 1 1)).toNatClampNeg) p3) L
  refine lv_aload_n hx hb dX7_layThing_36 rfl (lv_at hl 1 rfl) ?_
  refine lv_bipush (v := (10 : Int32)) hx hb dX7_layThing_37 (by decide) ?_
  refine lv_iload hx hb dX7_layThing_39 (lv_at hl 0 rfl) ?_
  refine lv_iadd hx hb dX7_layThing_41 ?_
  refine lv_iconst (v := (0 : Int32)) hx hb dX7_layThing_42 (by decide) ?_
  obtain ⟨hi43, hd⟩ := dn_i hd
  refine k_iast (D := D) (k := ((10 : Int32) + (S 1 1)).toNatClampNeg) (by rfl) hx hb hK hP hD hS 1 1 rfl rfl hi43 dX7_layThing_43 (fun H locs hP hD hS => ?_)
  have hP : va_P D vwCl (wX7 cs a (k_w (k_w (k_w (k_w (k_w S 1 (((65 : Int32) + (S 1 1)).toNatClampNeg) p1) 1 (((70 : Int32) + (S 1 1)).toNatClampNeg) p2) 1 (((75 : Int32) + (S 1 1)).toNatClampNeg) p3) 1 (((5 : Int32) + (S 1 1)).toNatClampNeg) p3) 1 (((10 : Int32) + (S 1 1)).toNatClampNeg) (0 : Int32)) L) _ := k_eq hP (wsX7_a1 cs a (k_w (k_w (k_w (k_w S 1 (((65 : Int32) + (S 1 1)).toNatClampNeg) p1) 1 (((70 : Int32) + (S 1 1)).toNatClampNeg) p2) 1 (((75 : Int32) + (S 1 1)).toNatClampNeg) p3) 1 (((5 : Int32) + (S 1 1)).toNatClampNeg) p3) L (((10 : Int32) + (S 1 1)).toNatClampNeg) (0 : Int32))
  have hD := hDA (k_w (k_w (k_w (k_w (k_w S 1 (((65 : Int32) + (S 1 1)).toNatClampNeg) p1) 1 (((70 : Int32) + (S 1 1)).toNatClampNeg) p2) 1 (((75 : Int32) + (S 1 1)).toNatClampNeg) p3) 1 (((5 : Int32) + (S 1 1)).toNatClampNeg) p3) 1 (((10 : Int32) + (S 1 1)).toNatClampNeg) (0 : Int32)) L
  refine lv_aload_n hx hb dX7_layThing_44 rfl (lv_at hl 1 rfl) ?_
  refine lv_iconst (v := (1 : Int32)) hx hb dX7_layThing_45 (by decide) ?_
  refine lv_dup2_11 hx hb dX7_layThing_46 rfl rfl ?_
  refine k_iald (D := D) (k := 1) (by rfl) hx hb hK hP 1 1 rfl rfl (k_in (by decide)) dX7_layThing_47 ?_
  refine lv_iconst (v := (1 : Int32)) hx hb dX7_layThing_48 (by decide) ?_
  refine lv_iadd hx hb dX7_layThing_49 ?_
  refine k_iast (D := D) (k := 1) (by rfl) hx hb hK hP hD hS 1 1 rfl rfl (k_in (by decide)) dX7_layThing_50 (fun H locs hP hD hS => ?_)
  have hP : va_P D vwCl (wX7 cs a (k_w (k_w (k_w (k_w (k_w (k_w S 1 (((65 : Int32) + (S 1 1)).toNatClampNeg) p1) 1 (((70 : Int32) + (S 1 1)).toNatClampNeg) p2) 1 (((75 : Int32) + (S 1 1)).toNatClampNeg) p3) 1 (((5 : Int32) + (S 1 1)).toNatClampNeg) p3) 1 (((10 : Int32) + (S 1 1)).toNatClampNeg) (0 : Int32)) 1 1 (((k_w (k_w (k_w (k_w (k_w S 1 (((65 : Int32) + (S 1 1)).toNatClampNeg) p1) 1 (((70 : Int32) + (S 1 1)).toNatClampNeg) p2) 1 (((75 : Int32) + (S 1 1)).toNatClampNeg) p3) 1 (((5 : Int32) + (S 1 1)).toNatClampNeg) p3) 1 (((10 : Int32) + (S 1 1)).toNatClampNeg) (0 : Int32)) 1 1) + (1 : Int32))) L) _ := k_eq hP (wsX7_a1 cs a (k_w (k_w (k_w (k_w (k_w S 1 (((65 : Int32) + (S 1 1)).toNatClampNeg) p1) 1 (((70 : Int32) + (S 1 1)).toNatClampNeg) p2) 1 (((75 : Int32) + (S 1 1)).toNatClampNeg) p3) 1 (((5 : Int32) + (S 1 1)).toNatClampNeg) p3) 1 (((10 : Int32) + (S 1 1)).toNatClampNeg) (0 : Int32)) L 1 (((k_w (k_w (k_w (k_w (k_w S 1 (((65 : Int32) + (S 1 1)).toNatClampNeg) p1) 1 (((70 : Int32) + (S 1 1)).toNatClampNeg) p2) 1 (((75 : Int32) + (S 1 1)).toNatClampNeg) p3) 1 (((5 : Int32) + (S 1 1)).toNatClampNeg) p3) 1 (((10 : Int32) + (S 1 1)).toNatClampNeg) (0 : Int32)) 1 1) + (1 : Int32)))
  have hD := hDA (k_w (k_w (k_w (k_w (k_w (k_w S 1 (((65 : Int32) + (S 1 1)).toNatClampNeg) p1) 1 (((70 : Int32) + (S 1 1)).toNatClampNeg) p2) 1 (((75 : Int32) + (S 1 1)).toNatClampNeg) p3) 1 (((5 : Int32) + (S 1 1)).toNatClampNeg) p3) 1 (((10 : Int32) + (S 1 1)).toNatClampNeg) (0 : Int32)) 1 1 (((k_w (k_w (k_w (k_w (k_w S 1 (((65 : Int32) + (S 1 1)).toNatClampNeg) p1) 1 (((70 : Int32) + (S 1 1)).toNatClampNeg) p2) 1 (((75 : Int32) + (S 1 1)).toNatClampNeg) p3) 1 (((5 : Int32) + (S 1 1)).toNatClampNeg) p3) 1 (((10 : Int32) + (S 1 1)).toNatClampNeg) (0 : Int32)) 1 1) + (1 : Int32))) L
  have e1 := dn_s1 hd
  exact k_vret hx hb hr hQ hAe (by rw [e1]) hP hS hlocks dX7_layThing_51
-- LeastNeedModel.thing(III)I
set_option maxRecDepth 20000 in
def nX7_thing_j27 (S_27 : Nat → Nat → Int32) (L : Nat → Nat → Int64) : Option (Int32 × (Nat → Nat → Int32)) := k_b2 (nX7_bad S_27 L (-2 : Int32)) (fun r30 S30 => some (r30, S30))
set_option maxRecDepth 20000 in
def nX7_thing (S : Nat → Nat → Int32) (L : Nat → Nat → Int64) (p1 : Int32) (p2 : Int32) (p3 : Int32) : Option (Int32 × (Nat → Nat → Int32)) := k_b1 (nX7_in p1.toInt64 (0 : Int64) (5 : Int64)) (fun r6 => if r6 = 0 then nX7_thing_j27 S L else k_b1 (nX7_isSort p2) (fun r13 => if r13 = 0 then nX7_thing_j27 S L else k_b1 (nX7_isOne S L p3) (fun r21 => if r21 = 0 then nX7_thing_j27 S L else k_b1 (nX7_manyThings S L) (fun r35 => if r35 = (5 : Int32) then k_b2 (nX7_full S L) (fun r43 S43 => some (r43, S43)) else k_b1 (nX7_layThing_1 S L p1 p2 p3) (fun S54 => k_b1 (nX7_manyThings (k_w S54 1 4 (0 : Int32)) L) (fun r65 => some ((r65 - (1 : Int32)), (k_w S54 1 4 (0 : Int32)))))))))
set_option maxHeartbeats 4000000 in
set_option maxRecDepth 100000 in
theorem mX7_thing (l : Launch) (D : va_G) (cs : Nat → ClassId) (a : Nat → Nat) (S : Nat → Nat → Int32) (L : Nat → Nat → Int64) (p1 : Int32) (p2 : Int32) (p3 : Int32) (r9 : Int32) (S9 : (Nat → Nat → Int32)) (hd : nX7_thing S L p1 p2 p3 = some (r9, S9)) : ∀ sz : Nat, Met l yX7_thing wsX7_thing ({ frames := 2, cells := 0, slots := 0, locals := 46 }) (k_Pc D cs [.ref (a 0), .int p1, .int p2, .int p3] (wX7 cs a S L) sz) (k_Qi D r9 (wX7 cs a S L) (wX7 cs a S9 L) sz) 0 0 (va_A (wX7 cs a S L) sz) := by
  intro sz
  refine Met.ofW (cc := cX7_thing) (maxL := 4) (ret := (some .int)) (by decide) rfl ?_
  intro p e s m args below meth c s₁ B hml hv
  obtain ⟨rfl, hsz, hP, hK, hD0, hNn⟩ := hv
  have hx := B.exec
  have hb := B.bytes
  have hr := B.returns
  have hts := atoms_spec (ws := wsX7_thing) B.pre
  have hown : s.vm.findClass RX7 = some m.cls := findClass_of_methodNamed B.named
  have hlocks := B.notSynchronized
  subst hsz
  obtain ⟨A, hAe⟩ : ∃ A : Nat → Prop, A = va_A (wX7 cs a S L) s.heap.size := ⟨_, rfl⟩
  have hD : va_D A (wX7 cs a S L) := by rw [hAe]; exact hD0.self
  have hA : ∀ q : Nat, s.heap.size ≤ q → A q := fun q h => by rw [hAe]; exact Or.inr h
  have hS : va_S A s.heap s.heap [] := va_S.rf
  have hDA : ∀ (S : Nat → Nat → Int32) (L : Nat → Nat → Int64), va_D A (wX7 cs a S L) := fun S L => k_DA hD rfl
  have hl := lv_entry ([.ref (a 0), .int p1, .int p2, .int p3]) (n := 4) (Nat.le_of_ble_eq_true rfl)
  rw [lg_entry_eq]
  generalize (lg_sl ([.ref (a 0), .int p1, .int p2, .int p3]) ++ List.replicate (4 - (lg_sl ([.ref (a 0), .int p1, .int p2, .int p3])).length) Slot.unset).toArray = ls at hl ⊢
  have hl : lv_has ls 4 [(0, .ref (a 0)), (1, .int p1), (2, .int p2), (3, .int p3)] := hl
  obtain ⟨Q, hQ⟩ : ∃ Q, Q = MQ below (k_Qi D r9 (wX7 cs a S L) (wX7 cs a S9 L) s.heap.size) ([.ref (a 0), .int p1, .int p2, .int p3] : List Value).toArray s 0 0 (va_A (wX7 cs a S L) s.heap.size) := ⟨_, rfl⟩
  rw [← hQ]
  have Jo27 : ∀ (S_27 : Nat → Nat → Int32) (H : Heap) (locs : List Loc) (ls : Array Slot), nX7_thing_j27 S_27 L = some (r9, S9) → lv_has ls 4 [(0, .ref (a 0))] → va_P D vwCl (wX7 cs a S_27 L) H → va_S A s.heap H locs → W p l e (headSpec wsX7_thing ({ frames := 2, cells := 0, slots := 0, locals := 46 })).room s m ([.ref (a 0), .int p1, .int p2, .int p3] : List Value).toArray below meth c H locs 0 0 Q (F0 m 27 ls []) := by
    intro S_27 H locs ls hd hl hP hS
    have hD := hDA S_27 L
    unfold nX7_thing_j27 at hd
    refine lv_aload_n hx hb dX7_thing_27 rfl (lv_at hl 0 rfl) ?_
    refine lv_bipush (v := (-2 : Int32)) hx hb dX7_thing_28 (by decide) ?_
    obtain ⟨r30, S30, hq30, hd⟩ := dn_b2 hd
    have hF := k_self hD hS hA
    refine k_run_i (va_runV (As := [.int (-2 : Int32)]) (rest := []) ⟨hx, hb, hml, hown, hts⟩ (mX7_bad l D cs a S_27 L (-2 : Int32) r30 S30 hq30 _) (cwV 1 hts gX7_thing_X7_bad rfl rfl rfl (by decide +kernel) ⟨Nat.le_of_ble_eq_true rfl, Nat.le_of_ble_eq_true rfl⟩) ⟨k_blind, va_recv hK hP (ci := 5) (q0 := 0) rfl rfl, k_pre hP hK hNn hD⟩ rfl rfl hl.1 rfl (lv_room (Nat.le_of_ble_eq_true rfl)) dX7_thing_30 ⟨Nat.le_of_ble_eq_true rfl, Nat.le_of_ble_eq_true rfl⟩) hS hF (fun H locs hP1 hk hS => ?_)
    have hP : va_P D vwCl (wX7 cs a S30 L) _ := hP1
    have hD := hDA S30 L
    obtain ⟨e1, e2⟩ := dn_s2 hd
    exact k_iret hx hb hr hQ hAe e1 (by rw [e2]) hP hS hlocks dX7_thing_33
  unfold nX7_thing at hd
  refine lv_iload_n hx hb dX7_thing_0 rfl (lv_at hl 1 rfl) ?_
  refine lv_i2l hx hb dX7_thing_1 rfl ?_
  refine lv_lconst (v := (0 : Int64)) hx hb dX7_thing_2 (by decide) ?_
  refine lv_ldc2 (v := (5 : Int64)) hx hb hown (hts (.constantLong RX7 89 (5)) (List.mem_of_getElem? (i := 1) rfl)) dX7_thing_3 ?_
  obtain ⟨r6, hq6, hd⟩ := dn_b1 hd
  have hPc := k_P0 hP
  have hDc : va_D A ([] : va_W) := k_D0
  have hF := k_self hDc hS hA
  refine k_run_i (va_runS (As := [.long p1.toInt64, .long (0 : Int64), .long (5 : Int64)]) (rest := []) ⟨hx, hb, hml, hown, hts⟩ (mX7_in l D cs  p1.toInt64 (0 : Int64) (5 : Int64) r6 hq6 _) (va_cwS 3 hts gX7_thing_X7_in rfl rfl rfl (by decide +kernel) ⟨Nat.le_of_ble_eq_true rfl, Nat.le_of_ble_eq_true rfl⟩) ⟨k_blind, k_pre hPc hK hNn hDc⟩ rfl rfl hl.1 rfl (lv_room (Nat.le_of_ble_eq_true rfl)) dX7_thing_6 ⟨Nat.le_of_ble_eq_true rfl, Nat.le_of_ble_eq_true rfl⟩) hS hF (fun H locs hP1 hk hS => ?_)
  have hP : va_P D vwCl (wX7 cs a S L) _ := k_keep hP hk
  refine lv_if_eq (tgt := 27) hx hb dX7_thing_9 (by decide) (fun c9 => ?_) (fun c9 => ?_)
  · have hd := dn_t c9 hd
    exact Jo27 S _ _ _ hd (lv_sub hl [0] rfl) hP hS
  · have hd := dn_f c9 hd
    refine lv_iload_n hx hb dX7_thing_12 rfl (lv_at hl 2 rfl) ?_
    obtain ⟨r13, hq13, hd⟩ := dn_b1 hd
    have hPc := k_P0 hP
    have hDc : va_D A ([] : va_W) := k_D0
    have hF := k_self hDc hS hA
    refine k_run_i (va_runS (As := [.int p2]) (rest := []) ⟨hx, hb, hml, hown, hts⟩ (mX7_isSort l D cs  p2 r13 hq13 _) (va_cwS 1 hts gX7_thing_X7_isSort rfl rfl rfl (by decide +kernel) ⟨Nat.le_of_ble_eq_true rfl, Nat.le_of_ble_eq_true rfl⟩) ⟨k_blind, k_pre hPc hK hNn hDc⟩ rfl rfl hl.1 rfl (lv_room (Nat.le_of_ble_eq_true rfl)) dX7_thing_13 ⟨Nat.le_of_ble_eq_true rfl, Nat.le_of_ble_eq_true rfl⟩) hS hF (fun H locs hP1 hk hS => ?_)
    have hP : va_P D vwCl (wX7 cs a S L) _ := k_keep hP hk
    refine lv_if_eq (tgt := 27) hx hb dX7_thing_16 (by decide) (fun c16 => ?_) (fun c16 => ?_)
    · have hd := dn_t c16 hd
      exact Jo27 S _ _ _ hd (lv_sub hl [0] rfl) hP hS
    · have hd := dn_f c16 hd
      refine lv_aload_n hx hb dX7_thing_19 rfl (lv_at hl 0 rfl) ?_
      refine lv_iload_n hx hb dX7_thing_20 rfl (lv_at hl 3 rfl) ?_
      obtain ⟨r21, hq21, hd⟩ := dn_b1 hd
      have hF := k_self hD hS hA
      refine k_run_i (va_runV (As := [.int p3]) (rest := []) ⟨hx, hb, hml, hown, hts⟩ (mX7_isOne l D cs a S L p3 r21 hq21 _) (cwV 1 hts gX7_thing_X7_isOne rfl rfl rfl (by decide +kernel) ⟨Nat.le_of_ble_eq_true rfl, Nat.le_of_ble_eq_true rfl⟩) ⟨k_blind, va_recv hK hP (ci := 5) (q0 := 0) rfl rfl, k_pre hP hK hNn hD⟩ rfl rfl hl.1 rfl (lv_room (Nat.le_of_ble_eq_true rfl)) dX7_thing_21 ⟨Nat.le_of_ble_eq_true rfl, Nat.le_of_ble_eq_true rfl⟩) hS hF (fun H locs hP1 hk hS => ?_)
      have hP : va_P D vwCl (wX7 cs a S L) _ := hP1
      have hD := hDA S L
      refine lv_if_ne (tgt := 34) hx hb dX7_thing_24 (by decide) (fun c24 => ?_) (fun c24 => ?_)
      · have hd := dn_f c24 hd
        refine lv_aload_n hx hb dX7_thing_34 rfl (lv_at hl 0 rfl) ?_
        obtain ⟨r35, hq35, hd⟩ := dn_b1 hd
        have hF := k_self hD hS hA
        refine k_run_i (va_runV (As := []) (rest := []) ⟨hx, hb, hml, hown, hts⟩ (mX7_manyThings l D cs a S L r35 hq35 _) (cwV 0 hts gX7_thing_X7_manyThings rfl rfl rfl (by decide +kernel) ⟨Nat.le_of_ble_eq_true rfl, Nat.le_of_ble_eq_true rfl⟩) ⟨k_blind, va_recv hK hP (ci := 5) (q0 := 0) rfl rfl, k_pre hP hK hNn hD⟩ rfl rfl hl.1 rfl (lv_room (Nat.le_of_ble_eq_true rfl)) dX7_thing_35 ⟨Nat.le_of_ble_eq_true rfl, Nat.le_of_ble_eq_true rfl⟩) hS hF (fun H locs hP1 hk hS => ?_)
        have hP : va_P D vwCl (wX7 cs a S L) _ := hP1
        have hD := hDA S L
        refine lv_iconst (v := (5 : Int32)) hx hb dX7_thing_38 (by decide) ?_
        refine lv_icmp_ne (tgt := 47) hx hb dX7_thing_39 (by decide) (fun c39 => ?_) (fun c39 => ?_)
        · have hd := dn_f c39 hd
          refine lv_aload_n hx hb dX7_thing_47 rfl (lv_at hl 0 rfl) ?_
          refine va_get (D := D) (ci := 5) (v := .ref (a 1)) (C := RX7) (T := TX7) (N := 25) hx hb hts (fun w h => List.mem_cons_of_mem _ (List.mem_append_right _ h)) hown hK hP 0 rfl rfl 0 (by decide) (hts (.fieldLink RX7 7 "LeastNeedModel" "told" "[I") (List.mem_of_getElem? (i := 2) rfl)) (fun _ h9 => h9) rfl dX7_thing_48 ?_
          refine lv_iload_n hx hb dX7_thing_51 rfl (lv_at hl 1 rfl) ?_
          refine lv_iload_n hx hb dX7_thing_52 rfl (lv_at hl 2 rfl) ?_
          refine lv_iload_n hx hb dX7_thing_53 rfl (lv_at hl 3 rfl) ?_
          obtain ⟨S54, hq54, hd⟩ := dn_b1 hd
          have hF := k_self hD hS hA
          refine k_run_v (va_runS (As := [.ref (a 1), .int p1, .int p2, .int p3]) (rest := []) ⟨hx, hb, hml, hown, hts⟩ (mX7_layThing_1 l D cs a S L p1 p2 p3 S54 hq54 _) (va_cwS 4 hts gX7_thing_X7_layThing rfl rfl rfl (by decide +kernel) ⟨Nat.le_of_ble_eq_true rfl, Nat.le_of_ble_eq_true rfl⟩) ⟨k_blind, k_pre hP hK hNn hD⟩ rfl rfl hl.1 rfl (lv_room (Nat.le_of_ble_eq_true rfl)) dX7_thing_54 ⟨Nat.le_of_ble_eq_true rfl, Nat.le_of_ble_eq_true rfl⟩) hS hF (fun H locs hP1 hk hS => ?_)
          have hP : va_P D vwCl (wX7 cs a S54 L) _ := hP1
          have hD := hDA S54 L
          refine lv_aload_n hx hb dX7_thing_57 rfl (lv_at hl 0 rfl) ?_
          refine va_get (D := D) (ci := 5) (v := .ref (a 1)) (C := RX7) (T := TX7) (N := 25) hx hb hts (fun w h => List.mem_cons_of_mem _ (List.mem_append_right _ h)) hown hK hP 0 rfl rfl 0 (by decide) (hts (.fieldLink RX7 7 "LeastNeedModel" "told" "[I") (List.mem_of_getElem? (i := 2) rfl)) (fun _ h9 => h9) rfl dX7_thing_58 ?_
          refine lv_iconst (v := (4 : Int32)) hx hb dX7_thing_61 (by decide) ?_
          refine lv_iconst (v := (0 : Int32)) hx hb dX7_thing_62 (by decide) ?_
          refine k_iast (D := D) (k := 4) (by rfl) hx hb hK hP hD hS 1 1 rfl rfl (k_in (by decide)) dX7_thing_63 (fun H locs hP hD hS => ?_)
          have hP : va_P D vwCl (wX7 cs a (k_w S54 1 4 (0 : Int32)) L) _ := k_eq hP (wsX7_a1 cs a S54 L 4 (0 : Int32))
          have hD := hDA (k_w S54 1 4 (0 : Int32)) L
          refine lv_aload_n hx hb dX7_thing_64 rfl (lv_at hl 0 rfl) ?_
          obtain ⟨r65, hq65, hd⟩ := dn_b1 hd
          have hF := k_self hD hS hA
          refine k_run_i (va_runV (As := []) (rest := []) ⟨hx, hb, hml, hown, hts⟩ (mX7_manyThings l D cs a (k_w S54 1 4 (0 : Int32)) L r65 hq65 _) (cwV 0 hts gX7_thing_X7_manyThings rfl rfl rfl (by decide +kernel) ⟨Nat.le_of_ble_eq_true rfl, Nat.le_of_ble_eq_true rfl⟩) ⟨k_blind, va_recv hK hP (ci := 5) (q0 := 0) rfl rfl, k_pre hP hK hNn hD⟩ rfl rfl hl.1 rfl (lv_room (Nat.le_of_ble_eq_true rfl)) dX7_thing_65 ⟨Nat.le_of_ble_eq_true rfl, Nat.le_of_ble_eq_true rfl⟩) hS hF (fun H locs hP1 hk hS => ?_)
          have hP : va_P D vwCl (wX7 cs a (k_w S54 1 4 (0 : Int32)) L) _ := hP1
          have hD := hDA (k_w S54 1 4 (0 : Int32)) L
          refine lv_iconst (v := (1 : Int32)) hx hb dX7_thing_68 (by decide) ?_
          refine lv_isub hx hb dX7_thing_69 ?_
          obtain ⟨e1, e2⟩ := dn_s2 hd
          exact k_iret hx hb hr hQ hAe e1 (by rw [e2]) hP hS hlocks dX7_thing_70
        · have hd := dn_t c39 hd
          refine lv_aload_n hx hb dX7_thing_42 rfl (lv_at hl 0 rfl) ?_
          obtain ⟨r43, S43, hq43, hd⟩ := dn_b2 hd
          have hF := k_self hD hS hA
          refine k_run_i (va_runV (As := []) (rest := []) ⟨hx, hb, hml, hown, hts⟩ (mX7_full l D cs a S L r43 S43 hq43 _) (cwV 0 hts gX7_thing_X7_full rfl rfl rfl (by decide +kernel) ⟨Nat.le_of_ble_eq_true rfl, Nat.le_of_ble_eq_true rfl⟩) ⟨k_blind, va_recv hK hP (ci := 5) (q0 := 0) rfl rfl, k_pre hP hK hNn hD⟩ rfl rfl hl.1 rfl (lv_room (Nat.le_of_ble_eq_true rfl)) dX7_thing_43 ⟨Nat.le_of_ble_eq_true rfl, Nat.le_of_ble_eq_true rfl⟩) hS hF (fun H locs hP1 hk hS => ?_)
          have hP : va_P D vwCl (wX7 cs a S43 L) _ := hP1
          have hD := hDA S43 L
          obtain ⟨e1, e2⟩ := dn_s2 hd
          exact k_iret hx hb hr hQ hAe e1 (by rw [e2]) hP hS hlocks dX7_thing_46
      · have hd := dn_t c24 hd
        exact Jo27 S _ _ _ hd (lv_sub hl [0] rfl) hP hS
-- LeastNeedModel.showsAs(IIIII)I
set_option maxRecDepth 20000 in
def nX7_showsAs (p0 : Int32) (p1 : Int32) (p2 : Int32) (p3 : Int32) (p4 : Int32) : Option (Int32) := if p0 = (1 : Int32) then some ((p3 + p4) / (2 : Int32)) else if p0 = (2 : Int32) then some p3 else if p0 = (3 : Int32) then if (p2 - p2 / (2 : Int32) * (2 : Int32)) = (1 : Int32) then some ((p3 + p4) + (2 : Int32)) else some (p3 + p4) else if p0 = (4 : Int32) then if p1 = (2 : Int32) then some (0 : Int32) else some ((p3 + p4) / (2 : Int32)) else if p0 = (5 : Int32) then if p1 = (3 : Int32) then some p3 else some (0 : Int32) else some (p3 + p4)
set_option maxHeartbeats 4000000 in
set_option maxRecDepth 100000 in
theorem mX7_showsAs (l : Launch) (D : va_G) (cs : Nat → ClassId) (p0 : Int32) (p1 : Int32) (p2 : Int32) (p3 : Int32) (p4 : Int32) (r9 : Int32) (hd : nX7_showsAs p0 p1 p2 p3 p4 = some r9) : ∀ sz : Nat, Met l yX7_showsAs wsX7_showsAs ({ frames := 0, cells := 0, slots := 0, locals := 0 }) (k_Pc D cs [.int p0, .int p1, .int p2, .int p3, .int p4] ([] : va_W) sz) (k_Qi D r9 ([] : va_W) ([] : va_W) sz) 0 0 (va_A ([] : va_W) sz) := by
  intro sz
  refine Met.ofW (cc := cX7_showsAs) (maxL := 6) (ret := (some .int)) (by decide) rfl ?_
  intro p e s m args below meth c s₁ B hml hv
  obtain ⟨rfl, hsz, hP, hK, hD0, hNn⟩ := hv
  have hx := B.exec
  have hb := B.bytes
  have hr := B.returns
  have hts := atoms_spec (ws := wsX7_showsAs) B.pre
  have hown : s.vm.findClass RX7 = some m.cls := findClass_of_methodNamed B.named
  have hlocks := B.notSynchronized
  subst hsz
  obtain ⟨A, hAe⟩ : ∃ A : Nat → Prop, A = va_A ([] : va_W) s.heap.size := ⟨_, rfl⟩
  have hD : va_D A ([] : va_W) := by rw [hAe]; exact hD0.self
  have hA : ∀ q : Nat, s.heap.size ≤ q → A q := fun q h => by rw [hAe]; exact Or.inr h
  have hS : va_S A s.heap s.heap [] := va_S.rf
  have hl := lv_entry ([.int p0, .int p1, .int p2, .int p3, .int p4]) (n := 6) (Nat.le_of_ble_eq_true rfl)
  rw [lg_entry_eq]
  generalize (lg_sl ([.int p0, .int p1, .int p2, .int p3, .int p4]) ++ List.replicate (6 - (lg_sl ([.int p0, .int p1, .int p2, .int p3, .int p4])).length) Slot.unset).toArray = ls at hl ⊢
  have hl : lv_has ls 6 [(0, .int p0), (1, .int p1), (2, .int p2), (3, .int p3), (4, .int p4)] := hl
  obtain ⟨Q, hQ⟩ : ∃ Q, Q = MQ below (k_Qi D r9 ([] : va_W) ([] : va_W) s.heap.size) ([.int p0, .int p1, .int p2, .int p3, .int p4] : List Value).toArray s 0 0 (va_A ([] : va_W) s.heap.size) := ⟨_, rfl⟩
  rw [← hQ]
  unfold nX7_showsAs at hd
  refine lv_iload_n hx hb dX7_showsAs_0 rfl (lv_at hl 3 rfl) ?_
  refine lv_iload hx hb dX7_showsAs_1 (lv_at hl 4 rfl) ?_
  refine lv_iadd hx hb dX7_showsAs_3 ?_
  refine lv_istore (lv' := [(5, .int (p3 + p4)), (0, .int p0), (1, .int p1), (2, .int p2), (3, .int p3), (4, .int p4)]) hx hb dX7_showsAs_4 hl (by decide) rfl (fun ls hl => ?_)
  refine lv_iload_n hx hb dX7_showsAs_6 rfl (lv_at hl 1 rfl) ?_
  by_cases e7_1 : p0 = (1 : Int32)
  · have hd := dn_t e7_1 hd
    refine lv_tableIn (off := 33) (tgt := 40) hx hb dX7_showsAs_7 (by rw [e7_1]; decide) (by rw [e7_1]; decide) (by rw [e7_1]; rfl) (by decide) ?_
    refine lv_iload hx hb dX7_showsAs_40 (lv_at hl 0 rfl) ?_
    refine lv_iconst (v := (2 : Int32)) hx hb dX7_showsAs_42 (by decide) ?_
    refine lv_idiv hx hb dX7_showsAs_43 (by decide) ?_
    have e1 := dn_s1 hd
    exact k_iret hx hb hr hQ hAe e1 rfl hP hS hlocks dX7_showsAs_44
  · have hd := dn_f e7_1 hd
    by_cases e7_2 : p0 = (2 : Int32)
    · have hd := dn_t e7_2 hd
      refine lv_tableIn (off := 38) (tgt := 45) hx hb dX7_showsAs_7 (by rw [e7_2]; decide) (by rw [e7_2]; decide) (by rw [e7_2]; rfl) (by decide) ?_
      refine lv_iload_n hx hb dX7_showsAs_45 rfl (lv_at hl 4 rfl) ?_
      have e1 := dn_s1 hd
      exact k_iret hx hb hr hQ hAe e1 rfl hP hS hlocks dX7_showsAs_46
    · have hd := dn_f e7_2 hd
      by_cases e7_3 : p0 = (3 : Int32)
      · have hd := dn_t e7_3 hd
        refine lv_tableIn (off := 40) (tgt := 47) hx hb dX7_showsAs_7 (by rw [e7_3]; decide) (by rw [e7_3]; decide) (by rw [e7_3]; rfl) (by decide) ?_
        refine lv_iload_n hx hb dX7_showsAs_47 rfl (lv_at hl 3 rfl) ?_
        refine lv_iconst (v := (2 : Int32)) hx hb dX7_showsAs_48 (by decide) ?_
        refine lv_irem hx hb dX7_showsAs_49 (by decide) ?_
        refine lv_iconst (v := (1 : Int32)) hx hb dX7_showsAs_50 (by decide) ?_
        refine lv_icmp_ne (tgt := 61) hx hb dX7_showsAs_51 (by decide) (fun c51 => ?_) (fun c51 => ?_)
        · have hd := dn_f c51 hd
          refine lv_iload hx hb dX7_showsAs_61 (lv_at hl 0 rfl) ?_
          have e1 := dn_s1 hd
          exact k_iret hx hb hr hQ hAe e1 rfl hP hS hlocks dX7_showsAs_63
        · have hd := dn_t c51 hd
          refine lv_iload hx hb dX7_showsAs_54 (lv_at hl 0 rfl) ?_
          refine lv_iconst (v := (2 : Int32)) hx hb dX7_showsAs_56 (by decide) ?_
          refine lv_iadd hx hb dX7_showsAs_57 ?_
          refine lv_goto (tgt := 63) hx hb dX7_showsAs_58 (by decide) ?_
          have e1 := dn_s1 hd
          exact k_iret hx hb hr hQ hAe e1 rfl hP hS hlocks dX7_showsAs_63
      · have hd := dn_f e7_3 hd
        by_cases e7_4 : p0 = (4 : Int32)
        · have hd := dn_t e7_4 hd
          refine lv_tableIn (off := 57) (tgt := 64) hx hb dX7_showsAs_7 (by rw [e7_4]; decide) (by rw [e7_4]; decide) (by rw [e7_4]; rfl) (by decide) ?_
          refine lv_iload_n hx hb dX7_showsAs_64 rfl (lv_at hl 2 rfl) ?_
          refine lv_iconst (v := (2 : Int32)) hx hb dX7_showsAs_65 (by decide) ?_
          refine lv_icmp_ne (tgt := 73) hx hb dX7_showsAs_66 (by decide) (fun c66 => ?_) (fun c66 => ?_)
          · have hd := dn_f c66 hd
            refine lv_iload hx hb dX7_showsAs_73 (lv_at hl 0 rfl) ?_
            refine lv_iconst (v := (2 : Int32)) hx hb dX7_showsAs_75 (by decide) ?_
            refine lv_idiv hx hb dX7_showsAs_76 (by decide) ?_
            have e1 := dn_s1 hd
            exact k_iret hx hb hr hQ hAe e1 rfl hP hS hlocks dX7_showsAs_77
          · have hd := dn_t c66 hd
            refine lv_iconst (v := (0 : Int32)) hx hb dX7_showsAs_69 (by decide) ?_
            refine lv_goto (tgt := 77) hx hb dX7_showsAs_70 (by decide) ?_
            have e1 := dn_s1 hd
            exact k_iret hx hb hr hQ hAe e1 rfl hP hS hlocks dX7_showsAs_77
        · have hd := dn_f e7_4 hd
          by_cases e7_5 : p0 = (5 : Int32)
          · have hd := dn_t e7_5 hd
            refine lv_tableIn (off := 71) (tgt := 78) hx hb dX7_showsAs_7 (by rw [e7_5]; decide) (by rw [e7_5]; decide) (by rw [e7_5]; rfl) (by decide) ?_
            refine lv_iload_n hx hb dX7_showsAs_78 rfl (lv_at hl 2 rfl) ?_
            refine lv_iconst (v := (3 : Int32)) hx hb dX7_showsAs_79 (by decide) ?_
            refine lv_icmp_ne (tgt := 87) hx hb dX7_showsAs_80 (by decide) (fun c80 => ?_) (fun c80 => ?_)
            · have hd := dn_f c80 hd
              refine lv_iconst (v := (0 : Int32)) hx hb dX7_showsAs_87 (by decide) ?_
              have e1 := dn_s1 hd
              exact k_iret hx hb hr hQ hAe e1 rfl hP hS hlocks dX7_showsAs_88
            · have hd := dn_t c80 hd
              refine lv_iload_n hx hb dX7_showsAs_83 rfl (lv_at hl 4 rfl) ?_
              refine lv_goto (tgt := 88) hx hb dX7_showsAs_84 (by decide) ?_
              have e1 := dn_s1 hd
              exact k_iret hx hb hr hQ hAe e1 rfl hP hS hlocks dX7_showsAs_88
          · have hd := dn_f e7_5 hd
            refine lv_tableOut (tgt := 89) hx hb dX7_showsAs_7 (by have q1 := lv_neT e7_1 (a := 1) (by decide); have q2 := lv_neT e7_2 (a := 2) (by decide); have q3 := lv_neT e7_3 (a := 3) (by decide); have q4 := lv_neT e7_4 (a := 4) (by decide); have q5 := lv_neT e7_5 (a := 5) (by decide); omega) (by decide) ?_
            refine lv_iload hx hb dX7_showsAs_89 (lv_at hl 0 rfl) ?_
            have e1 := dn_s1 hd
            exact k_iret hx hb hr hQ hAe e1 rfl hP hS hlocks dX7_showsAs_91
-- LeastNeedModel.asksAs(II)I
set_option maxRecDepth 20000 in
def nX7_asksAs_j14 (p0 : Int32) (w0_14 : Int32) : Option (Int32) := if p0 = (5 : Int32) then some (0 : Int32) else if p0 = (1 : Int32) then some ((2 : Int32) * w0_14) else if p0 = (4 : Int32) then some (((2 : Int32) * w0_14) + (3 : Int32)) else some w0_14
set_option maxRecDepth 20000 in
def nX7_asksAs (p0 : Int32) (p1 : Int32) : Option (Int32) := if (9 : Int32) ≤ p1 then nX7_asksAs_j14 p0 (0 : Int32) else nX7_asksAs_j14 p0 ((9 : Int32) - p1)
set_option maxHeartbeats 4000000 in
set_option maxRecDepth 100000 in
theorem mX7_asksAs (l : Launch) (D : va_G) (cs : Nat → ClassId) (p0 : Int32) (p1 : Int32) (r9 : Int32) (hd : nX7_asksAs p0 p1 = some r9) : ∀ sz : Nat, Met l yX7_asksAs wsX7_asksAs ({ frames := 0, cells := 0, slots := 0, locals := 0 }) (k_Pc D cs [.int p0, .int p1] ([] : va_W) sz) (k_Qi D r9 ([] : va_W) ([] : va_W) sz) 0 0 (va_A ([] : va_W) sz) := by
  intro sz
  refine Met.ofW (cc := cX7_asksAs) (maxL := 3) (ret := (some .int)) (by decide) rfl ?_
  intro p e s m args below meth c s₁ B hml hv
  obtain ⟨rfl, hsz, hP, hK, hD0, hNn⟩ := hv
  have hx := B.exec
  have hb := B.bytes
  have hr := B.returns
  have hts := atoms_spec (ws := wsX7_asksAs) B.pre
  have hown : s.vm.findClass RX7 = some m.cls := findClass_of_methodNamed B.named
  have hlocks := B.notSynchronized
  subst hsz
  obtain ⟨A, hAe⟩ : ∃ A : Nat → Prop, A = va_A ([] : va_W) s.heap.size := ⟨_, rfl⟩
  have hD : va_D A ([] : va_W) := by rw [hAe]; exact hD0.self
  have hA : ∀ q : Nat, s.heap.size ≤ q → A q := fun q h => by rw [hAe]; exact Or.inr h
  have hS : va_S A s.heap s.heap [] := va_S.rf
  have hl := lv_entry ([.int p0, .int p1]) (n := 3) (Nat.le_of_ble_eq_true rfl)
  rw [lg_entry_eq]
  generalize (lg_sl ([.int p0, .int p1]) ++ List.replicate (3 - (lg_sl ([.int p0, .int p1])).length) Slot.unset).toArray = ls at hl ⊢
  have hl : lv_has ls 3 [(0, .int p0), (1, .int p1)] := hl
  obtain ⟨Q, hQ⟩ : ∃ Q, Q = MQ below (k_Qi D r9 ([] : va_W) ([] : va_W) s.heap.size) ([.int p0, .int p1] : List Value).toArray s 0 0 (va_A ([] : va_W) s.heap.size) := ⟨_, rfl⟩
  rw [← hQ]
  have Jo14 : ∀ (w0_14 : Int32) (H : Heap) (locs : List Loc) (ls : Array Slot), nX7_asksAs_j14 p0 w0_14 = some r9 → lv_has ls 3 [(0, .int p0)] → va_P D vwCl ([] : va_W) H → va_S A s.heap H locs → W p l e (headSpec wsX7_asksAs ({ frames := 0, cells := 0, slots := 0, locals := 0 })).room s m ([.int p0, .int p1] : List Value).toArray below meth c H locs 0 0 Q (F0 m 14 ls [.int w0_14]) := by
    intro w0_14 H locs ls hd hl hP hS
    unfold nX7_asksAs_j14 at hd
    refine lv_istore_n (lv' := [(2, .int w0_14), (0, .int p0)]) hx hb dX7_asksAs_14 rfl hl (by decide) rfl (fun ls hl => ?_)
    refine lv_iload_n hx hb dX7_asksAs_15 rfl (lv_at hl 1 rfl) ?_
    refine lv_iconst (v := (5 : Int32)) hx hb dX7_asksAs_16 (by decide) ?_
    refine lv_icmp_ne (tgt := 24) hx hb dX7_asksAs_17 (by decide) (fun c17 => ?_) (fun c17 => ?_)
    · have hd := dn_f c17 hd
      refine lv_iload_n hx hb dX7_asksAs_24 rfl (lv_at hl 1 rfl) ?_
      refine lv_iconst (v := (1 : Int32)) hx hb dX7_asksAs_25 (by decide) ?_
      refine lv_icmp_ne (tgt := 35) hx hb dX7_asksAs_26 (by decide) (fun c26 => ?_) (fun c26 => ?_)
      · have hd := dn_f c26 hd
        refine lv_iload_n hx hb dX7_asksAs_35 rfl (lv_at hl 1 rfl) ?_
        refine lv_iconst (v := (4 : Int32)) hx hb dX7_asksAs_36 (by decide) ?_
        refine lv_icmp_ne (tgt := 48) hx hb dX7_asksAs_37 (by decide) (fun c37 => ?_) (fun c37 => ?_)
        · have hd := dn_f c37 hd
          refine lv_iload_n hx hb dX7_asksAs_48 rfl (lv_at hl 0 rfl) ?_
          have e1 := dn_s1 hd
          exact k_iret hx hb hr hQ hAe e1 rfl hP hS hlocks dX7_asksAs_49
        · have hd := dn_t c37 hd
          refine lv_iconst (v := (2 : Int32)) hx hb dX7_asksAs_40 (by decide) ?_
          refine lv_iload_n hx hb dX7_asksAs_41 rfl (lv_at hl 0 rfl) ?_
          refine lv_imul hx hb dX7_asksAs_42 ?_
          refine lv_iconst (v := (3 : Int32)) hx hb dX7_asksAs_43 (by decide) ?_
          refine lv_iadd hx hb dX7_asksAs_44 ?_
          refine lv_goto (tgt := 49) hx hb dX7_asksAs_45 (by decide) ?_
          have e1 := dn_s1 hd
          exact k_iret hx hb hr hQ hAe e1 rfl hP hS hlocks dX7_asksAs_49
      · have hd := dn_t c26 hd
        refine lv_iconst (v := (2 : Int32)) hx hb dX7_asksAs_29 (by decide) ?_
        refine lv_iload_n hx hb dX7_asksAs_30 rfl (lv_at hl 0 rfl) ?_
        refine lv_imul hx hb dX7_asksAs_31 ?_
        refine lv_goto (tgt := 49) hx hb dX7_asksAs_32 (by decide) ?_
        have e1 := dn_s1 hd
        exact k_iret hx hb hr hQ hAe e1 rfl hP hS hlocks dX7_asksAs_49
    · have hd := dn_t c17 hd
      refine lv_iconst (v := (0 : Int32)) hx hb dX7_asksAs_20 (by decide) ?_
      refine lv_goto (tgt := 49) hx hb dX7_asksAs_21 (by decide) ?_
      have e1 := dn_s1 hd
      exact k_iret hx hb hr hQ hAe e1 rfl hP hS hlocks dX7_asksAs_49
  unfold nX7_asksAs at hd
  refine lv_iload_n hx hb dX7_asksAs_0 rfl (lv_at hl 1 rfl) ?_
  refine lv_bipush (v := (9 : Int32)) hx hb dX7_asksAs_1 (by decide) ?_
  refine lv_icmp_ge (tgt := 13) hx hb dX7_asksAs_3 (by decide) (fun c3 => ?_) (fun c3 => ?_)
  · have hd := dn_t c3 hd
    refine lv_iconst (v := (0 : Int32)) hx hb dX7_asksAs_13 (by decide) ?_
    exact Jo14 (0 : Int32) _ _ _ hd (lv_sub hl [0] rfl) hP hS
  · have hd := dn_f c3 hd
    refine lv_bipush (v := (9 : Int32)) hx hb dX7_asksAs_6 (by decide) ?_
    refine lv_iload_n hx hb dX7_asksAs_8 rfl (lv_at hl 1 rfl) ?_
    refine lv_isub hx hb dX7_asksAs_9 ?_
    refine lv_goto (tgt := 14) hx hb dX7_asksAs_10 (by decide) ?_
    exact Jo14 ((9 : Int32) - p1) _ _ _ hd (lv_sub hl [0] rfl) hP hS
-- LeastNeedModel.countsAs(IIII)I
set_option maxRecDepth 20000 in
def nX7_countsAs (p0 : Int32) (p1 : Int32) (p2 : Int32) (p3 : Int32) : Option (Int32) := if p0 = (1 : Int32) then some (p2 + p3) else if p0 = (2 : Int32) then if p1 ≤ (6 : Int32) then some p2 else some (-1 : Int32) else if p0 = (3 : Int32) then some ((40 : Int32) - p2) else if p0 = (4 : Int32) then some (p2 + p3) else if p0 = (5 : Int32) then if p1 ≤ (6 : Int32) then some (p2 + p1) else some (-1 : Int32) else some p2
set_option maxHeartbeats 4000000 in
set_option maxRecDepth 100000 in
theorem mX7_countsAs (l : Launch) (D : va_G) (cs : Nat → ClassId) (p0 : Int32) (p1 : Int32) (p2 : Int32) (p3 : Int32) (r9 : Int32) (hd : nX7_countsAs p0 p1 p2 p3 = some r9) : ∀ sz : Nat, Met l yX7_countsAs wsX7_countsAs ({ frames := 0, cells := 0, slots := 0, locals := 0 }) (k_Pc D cs [.int p0, .int p1, .int p2, .int p3] ([] : va_W) sz) (k_Qi D r9 ([] : va_W) ([] : va_W) sz) 0 0 (va_A ([] : va_W) sz) := by
  intro sz
  refine Met.ofW (cc := cX7_countsAs) (maxL := 4) (ret := (some .int)) (by decide) rfl ?_
  intro p e s m args below meth c s₁ B hml hv
  obtain ⟨rfl, hsz, hP, hK, hD0, hNn⟩ := hv
  have hx := B.exec
  have hb := B.bytes
  have hr := B.returns
  have hts := atoms_spec (ws := wsX7_countsAs) B.pre
  have hown : s.vm.findClass RX7 = some m.cls := findClass_of_methodNamed B.named
  have hlocks := B.notSynchronized
  subst hsz
  obtain ⟨A, hAe⟩ : ∃ A : Nat → Prop, A = va_A ([] : va_W) s.heap.size := ⟨_, rfl⟩
  have hD : va_D A ([] : va_W) := by rw [hAe]; exact hD0.self
  have hA : ∀ q : Nat, s.heap.size ≤ q → A q := fun q h => by rw [hAe]; exact Or.inr h
  have hS : va_S A s.heap s.heap [] := va_S.rf
  have hl := lv_entry ([.int p0, .int p1, .int p2, .int p3]) (n := 4) (Nat.le_of_ble_eq_true rfl)
  rw [lg_entry_eq]
  generalize (lg_sl ([.int p0, .int p1, .int p2, .int p3]) ++ List.replicate (4 - (lg_sl ([.int p0, .int p1, .int p2, .int p3])).length) Slot.unset).toArray = ls at hl ⊢
  have hl : lv_has ls 4 [(0, .int p0), (1, .int p1), (2, .int p2), (3, .int p3)] := hl
  obtain ⟨Q, hQ⟩ : ∃ Q, Q = MQ below (k_Qi D r9 ([] : va_W) ([] : va_W) s.heap.size) ([.int p0, .int p1, .int p2, .int p3] : List Value).toArray s 0 0 (va_A ([] : va_W) s.heap.size) := ⟨_, rfl⟩
  rw [← hQ]
  unfold nX7_countsAs at hd
  refine lv_iload_n hx hb dX7_countsAs_0 rfl (lv_at hl 0 rfl) ?_
  by_cases e1_1 : p0 = (1 : Int32)
  · have hd := dn_t e1_1 hd
    refine lv_tableIn (off := 35) (tgt := 36) hx hb dX7_countsAs_1 (by rw [e1_1]; decide) (by rw [e1_1]; decide) (by rw [e1_1]; rfl) (by decide) ?_
    refine lv_iload_n hx hb dX7_countsAs_36 rfl (lv_at hl 2 rfl) ?_
    refine lv_iload_n hx hb dX7_countsAs_37 rfl (lv_at hl 3 rfl) ?_
    refine lv_iadd hx hb dX7_countsAs_38 ?_
    have e1 := dn_s1 hd
    exact k_iret hx hb hr hQ hAe e1 rfl hP hS hlocks dX7_countsAs_39
  · have hd := dn_f e1_1 hd
    by_cases e1_2 : p0 = (2 : Int32)
    · have hd := dn_t e1_2 hd
      refine lv_tableIn (off := 39) (tgt := 40) hx hb dX7_countsAs_1 (by rw [e1_2]; decide) (by rw [e1_2]; decide) (by rw [e1_2]; rfl) (by decide) ?_
      refine lv_iload_n hx hb dX7_countsAs_40 rfl (lv_at hl 1 rfl) ?_
      refine lv_bipush (v := (6 : Int32)) hx hb dX7_countsAs_41 (by decide) ?_
      refine lv_icmp_le (tgt := 50) hx hb dX7_countsAs_43 (by decide) (fun c43 => ?_) (fun c43 => ?_)
      · have hd := dn_t c43 hd
        refine lv_iload_n hx hb dX7_countsAs_50 rfl (lv_at hl 2 rfl) ?_
        have e1 := dn_s1 hd
        exact k_iret hx hb hr hQ hAe e1 rfl hP hS hlocks dX7_countsAs_51
      · have hd := dn_f c43 hd
        refine lv_iconst (v := (-1 : Int32)) hx hb dX7_countsAs_46 (by decide) ?_
        refine lv_goto (tgt := 51) hx hb dX7_countsAs_47 (by decide) ?_
        have e1 := dn_s1 hd
        exact k_iret hx hb hr hQ hAe e1 rfl hP hS hlocks dX7_countsAs_51
    · have hd := dn_f e1_2 hd
      by_cases e1_3 : p0 = (3 : Int32)
      · have hd := dn_t e1_3 hd
        refine lv_tableIn (off := 51) (tgt := 52) hx hb dX7_countsAs_1 (by rw [e1_3]; decide) (by rw [e1_3]; decide) (by rw [e1_3]; rfl) (by decide) ?_
        refine lv_bipush (v := (40 : Int32)) hx hb dX7_countsAs_52 (by decide) ?_
        refine lv_iload_n hx hb dX7_countsAs_54 rfl (lv_at hl 2 rfl) ?_
        refine lv_isub hx hb dX7_countsAs_55 ?_
        have e1 := dn_s1 hd
        exact k_iret hx hb hr hQ hAe e1 rfl hP hS hlocks dX7_countsAs_56
      · have hd := dn_f e1_3 hd
        by_cases e1_4 : p0 = (4 : Int32)
        · have hd := dn_t e1_4 hd
          refine lv_tableIn (off := 35) (tgt := 36) hx hb dX7_countsAs_1 (by rw [e1_4]; decide) (by rw [e1_4]; decide) (by rw [e1_4]; rfl) (by decide) ?_
          refine lv_iload_n hx hb dX7_countsAs_36 rfl (lv_at hl 2 rfl) ?_
          refine lv_iload_n hx hb dX7_countsAs_37 rfl (lv_at hl 3 rfl) ?_
          refine lv_iadd hx hb dX7_countsAs_38 ?_
          have e1 := dn_s1 hd
          exact k_iret hx hb hr hQ hAe e1 rfl hP hS hlocks dX7_countsAs_39
        · have hd := dn_f e1_4 hd
          by_cases e1_5 : p0 = (5 : Int32)
          · have hd := dn_t e1_5 hd
            refine lv_tableIn (off := 56) (tgt := 57) hx hb dX7_countsAs_1 (by rw [e1_5]; decide) (by rw [e1_5]; decide) (by rw [e1_5]; rfl) (by decide) ?_
            refine lv_iload_n hx hb dX7_countsAs_57 rfl (lv_at hl 1 rfl) ?_
            refine lv_bipush (v := (6 : Int32)) hx hb dX7_countsAs_58 (by decide) ?_
            refine lv_icmp_le (tgt := 67) hx hb dX7_countsAs_60 (by decide) (fun c60 => ?_) (fun c60 => ?_)
            · have hd := dn_t c60 hd
              refine lv_iload_n hx hb dX7_countsAs_67 rfl (lv_at hl 2 rfl) ?_
              refine lv_iload_n hx hb dX7_countsAs_68 rfl (lv_at hl 1 rfl) ?_
              refine lv_iadd hx hb dX7_countsAs_69 ?_
              have e1 := dn_s1 hd
              exact k_iret hx hb hr hQ hAe e1 rfl hP hS hlocks dX7_countsAs_70
            · have hd := dn_f c60 hd
              refine lv_iconst (v := (-1 : Int32)) hx hb dX7_countsAs_63 (by decide) ?_
              refine lv_goto (tgt := 70) hx hb dX7_countsAs_64 (by decide) ?_
              have e1 := dn_s1 hd
              exact k_iret hx hb hr hQ hAe e1 rfl hP hS hlocks dX7_countsAs_70
          · have hd := dn_f e1_5 hd
            refine lv_tableOut (tgt := 71) hx hb dX7_countsAs_1 (by have q1 := lv_neT e1_1 (a := 1) (by decide); have q2 := lv_neT e1_2 (a := 2) (by decide); have q3 := lv_neT e1_3 (a := 3) (by decide); have q4 := lv_neT e1_4 (a := 4) (by decide); have q5 := lv_neT e1_5 (a := 5) (by decide); omega) (by decide) ?_
            refine lv_iload_n hx hb dX7_countsAs_71 rfl (lv_at hl 2 rfl) ?_
            have e1 := dn_s1 hd
            exact k_iret hx hb hr hQ hAe e1 rfl hP hS hlocks dX7_countsAs_72
-- LeastNeedModel.distance(II)I
set_option maxRecDepth 20000 in
def nX7_distance (p0 : Int32) (p1 : Int32) : Option (Int32) := if p1 ≤ p0 then some (p0 - p1) else some (p1 - p0)
set_option maxHeartbeats 4000000 in
set_option maxRecDepth 100000 in
theorem mX7_distance (l : Launch) (D : va_G) (cs : Nat → ClassId) (p0 : Int32) (p1 : Int32) (r9 : Int32) (hd : nX7_distance p0 p1 = some r9) : ∀ sz : Nat, Met l yX7_distance wsX7_distance ({ frames := 0, cells := 0, slots := 0, locals := 0 }) (k_Pc D cs [.int p0, .int p1] ([] : va_W) sz) (k_Qi D r9 ([] : va_W) ([] : va_W) sz) 0 0 (va_A ([] : va_W) sz) := by
  intro sz
  refine Met.ofW (cc := cX7_distance) (maxL := 2) (ret := (some .int)) (by decide) rfl ?_
  intro p e s m args below meth c s₁ B hml hv
  obtain ⟨rfl, hsz, hP, hK, hD0, hNn⟩ := hv
  have hx := B.exec
  have hb := B.bytes
  have hr := B.returns
  have hts := atoms_spec (ws := wsX7_distance) B.pre
  have hown : s.vm.findClass RX7 = some m.cls := findClass_of_methodNamed B.named
  have hlocks := B.notSynchronized
  subst hsz
  obtain ⟨A, hAe⟩ : ∃ A : Nat → Prop, A = va_A ([] : va_W) s.heap.size := ⟨_, rfl⟩
  have hD : va_D A ([] : va_W) := by rw [hAe]; exact hD0.self
  have hA : ∀ q : Nat, s.heap.size ≤ q → A q := fun q h => by rw [hAe]; exact Or.inr h
  have hS : va_S A s.heap s.heap [] := va_S.rf
  have hl := lv_entry ([.int p0, .int p1]) (n := 2) (Nat.le_of_ble_eq_true rfl)
  rw [lg_entry_eq]
  generalize (lg_sl ([.int p0, .int p1]) ++ List.replicate (2 - (lg_sl ([.int p0, .int p1])).length) Slot.unset).toArray = ls at hl ⊢
  have hl : lv_has ls 2 [(0, .int p0), (1, .int p1)] := hl
  obtain ⟨Q, hQ⟩ : ∃ Q, Q = MQ below (k_Qi D r9 ([] : va_W) ([] : va_W) s.heap.size) ([.int p0, .int p1] : List Value).toArray s 0 0 (va_A ([] : va_W) s.heap.size) := ⟨_, rfl⟩
  rw [← hQ]
  unfold nX7_distance at hd
  refine lv_iload_n hx hb dX7_distance_0 rfl (lv_at hl 0 rfl) ?_
  refine lv_iload_n hx hb dX7_distance_1 rfl (lv_at hl 1 rfl) ?_
  refine lv_icmp_ge (tgt := 11) hx hb dX7_distance_2 (by decide) (fun c2 => ?_) (fun c2 => ?_)
  · have hd := dn_t c2 hd
    refine lv_iload_n hx hb dX7_distance_11 rfl (lv_at hl 0 rfl) ?_
    refine lv_iload_n hx hb dX7_distance_12 rfl (lv_at hl 1 rfl) ?_
    refine lv_isub hx hb dX7_distance_13 ?_
    have e1 := dn_s1 hd
    exact k_iret hx hb hr hQ hAe e1 rfl hP hS hlocks dX7_distance_14
  · have hd := dn_f c2 hd
    refine lv_iload_n hx hb dX7_distance_5 rfl (lv_at hl 1 rfl) ?_
    refine lv_iload_n hx hb dX7_distance_6 rfl (lv_at hl 0 rfl) ?_
    refine lv_isub hx hb dX7_distance_7 ?_
    refine lv_goto (tgt := 14) hx hb dX7_distance_8 (by decide) ?_
    have e1 := dn_s1 hd
    exact k_iret hx hb hr hQ hAe e1 rfl hP hS hlocks dX7_distance_14
-- LeastNeedModel.showsOn([IIII)I
set_option maxRecDepth 20000 in
def nX7_showsOn_1 (S : Nat → Nat → Int32) (L : Nat → Nat → Int64) (p2 : Int32) (p3 : Int32) (p4 : Int32) : Option (Int32) := if ((23 : Int32) + p2) < 0 ∨ 284 ≤ ((23 : Int32) + p2).toNatClampNeg then none else if (((37 : Int32) + ((4 : Int32) * p2)) + p3) < 0 ∨ 284 ≤ (((37 : Int32) + ((4 : Int32) * p2)) + p3).toNatClampNeg then none else if p2 < 0 ∨ 7 ≤ p2.toNatClampNeg then none else k_b1 (nX7_showsAs (S 1 ((23 : Int32) + p2).toNatClampNeg) p3 p4 (S 1 (((37 : Int32) + ((4 : Int32) * p2)) + p3).toNatClampNeg) (S 5 p2.toNatClampNeg)) (fun r25 => some r25)
set_option maxHeartbeats 4000000 in
set_option maxRecDepth 100000 in
theorem mX7_showsOn_1 (l : Launch) (D : va_G) (cs : Nat → ClassId) (a : Nat → Nat) (S : Nat → Nat → Int32) (L : Nat → Nat → Int64) (p2 : Int32) (p3 : Int32) (p4 : Int32) (r9 : Int32) (hd : nX7_showsOn_1 S L p2 p3 p4 = some r9) : ∀ sz : Nat, Met l yX7_showsOn wsX7_showsOn ({ frames := 1, cells := 0, slots := 0, locals := 25 }) (k_Pc D cs [.ref (a 0), .ref (a 1), .int p2, .int p3, .int p4] (wX7 cs a S L) sz) (k_Qi D r9 (wX7 cs a S L) (wX7 cs a S L) sz) 0 0 (va_A (wX7 cs a S L) sz) := by
  intro sz
  refine Met.ofW (cc := cX7_showsOn) (maxL := 5) (ret := (some .int)) (by decide) rfl ?_
  intro p e s m args below meth c s₁ B hml hv
  obtain ⟨rfl, hsz, hP, hK, hD0, hNn⟩ := hv
  have hx := B.exec
  have hb := B.bytes
  have hr := B.returns
  have hts := atoms_spec (ws := wsX7_showsOn) B.pre
  have hown : s.vm.findClass RX7 = some m.cls := findClass_of_methodNamed B.named
  have hlocks := B.notSynchronized
  subst hsz
  obtain ⟨A, hAe⟩ : ∃ A : Nat → Prop, A = va_A (wX7 cs a S L) s.heap.size := ⟨_, rfl⟩
  have hD : va_D A (wX7 cs a S L) := by rw [hAe]; exact hD0.self
  have hA : ∀ q : Nat, s.heap.size ≤ q → A q := fun q h => by rw [hAe]; exact Or.inr h
  have hS : va_S A s.heap s.heap [] := va_S.rf
  have hDA : ∀ (S : Nat → Nat → Int32) (L : Nat → Nat → Int64), va_D A (wX7 cs a S L) := fun S L => k_DA hD rfl
  have hl := lv_entry ([.ref (a 0), .ref (a 1), .int p2, .int p3, .int p4]) (n := 5) (Nat.le_of_ble_eq_true rfl)
  rw [lg_entry_eq]
  generalize (lg_sl ([.ref (a 0), .ref (a 1), .int p2, .int p3, .int p4]) ++ List.replicate (5 - (lg_sl ([.ref (a 0), .ref (a 1), .int p2, .int p3, .int p4])).length) Slot.unset).toArray = ls at hl ⊢
  have hl : lv_has ls 5 [(0, .ref (a 0)), (1, .ref (a 1)), (2, .int p2), (3, .int p3), (4, .int p4)] := hl
  obtain ⟨Q, hQ⟩ : ∃ Q, Q = MQ below (k_Qi D r9 (wX7 cs a S L) (wX7 cs a S L) s.heap.size) ([.ref (a 0), .ref (a 1), .int p2, .int p3, .int p4] : List Value).toArray s 0 0 (va_A (wX7 cs a S L) s.heap.size) := ⟨_, rfl⟩
  rw [← hQ]
  unfold nX7_showsOn_1 at hd
  refine lv_aload_n hx hb dX7_showsOn_0 rfl (lv_at hl 1 rfl) ?_
  refine lv_bipush (v := (23 : Int32)) hx hb dX7_showsOn_1 (by decide) ?_
  refine lv_iload_n hx hb dX7_showsOn_3 rfl (lv_at hl 2 rfl) ?_
  refine lv_iadd hx hb dX7_showsOn_4 ?_
  obtain ⟨hi5, hd⟩ := dn_i hd
  refine k_iald (D := D) (k := ((23 : Int32) + p2).toNatClampNeg) (by rfl) hx hb hK hP 1 1 rfl rfl hi5 dX7_showsOn_5 ?_
  refine lv_iload_n hx hb dX7_showsOn_6 rfl (lv_at hl 3 rfl) ?_
  refine lv_iload hx hb dX7_showsOn_7 (lv_at hl 4 rfl) ?_
  refine lv_aload_n hx hb dX7_showsOn_9 rfl (lv_at hl 1 rfl) ?_
  refine lv_bipush (v := (37 : Int32)) hx hb dX7_showsOn_10 (by decide) ?_
  refine lv_iconst (v := (4 : Int32)) hx hb dX7_showsOn_12 (by decide) ?_
  refine lv_iload_n hx hb dX7_showsOn_13 rfl (lv_at hl 2 rfl) ?_
  refine lv_imul hx hb dX7_showsOn_14 ?_
  refine lv_iadd hx hb dX7_showsOn_15 ?_
  refine lv_iload_n hx hb dX7_showsOn_16 rfl (lv_at hl 3 rfl) ?_
  refine lv_iadd hx hb dX7_showsOn_17 ?_
  obtain ⟨hi18, hd⟩ := dn_i hd
  refine k_iald (D := D) (k := (((37 : Int32) + ((4 : Int32) * p2)) + p3).toNatClampNeg) (by rfl) hx hb hK hP 1 1 rfl rfl hi18 dX7_showsOn_18 ?_
  refine lv_aload_n hx hb dX7_showsOn_19 rfl (lv_at hl 0 rfl) ?_
  refine va_get (D := D) (ci := 5) (v := .ref (a 5)) (C := RX7) (T := TX7) (N := 25) hx hb hts (fun w h => List.mem_cons_of_mem _ (List.mem_append_right _ h)) hown hK hP 0 rfl rfl 6 (by decide) (hts (.fieldLink RX7 27 "LeastNeedModel" "coats0" "[I") (List.mem_of_getElem? (i := 1) rfl)) (fun _ h9 => h9) rfl dX7_showsOn_20 ?_
  refine lv_iload_n hx hb dX7_showsOn_23 rfl (lv_at hl 2 rfl) ?_
  obtain ⟨hi24, hd⟩ := dn_i hd
  refine k_iald (D := D) (k := p2.toNatClampNeg) (by rfl) hx hb hK hP 5 1 rfl rfl hi24 dX7_showsOn_24 ?_
  obtain ⟨r25, hq25, hd⟩ := dn_b1 hd
  have hPc := k_P0 hP
  have hDc : va_D A ([] : va_W) := k_D0
  have hF := k_self hDc hS hA
  refine k_run_i (va_runS (As := [.int (S 1 ((23 : Int32) + p2).toNatClampNeg), .int p3, .int p4, .int (S 1 (((37 : Int32) + ((4 : Int32) * p2)) + p3).toNatClampNeg), .int (S 5 p2.toNatClampNeg)]) (rest := []) ⟨hx, hb, hml, hown, hts⟩ (mX7_showsAs l D cs  (S 1 ((23 : Int32) + p2).toNatClampNeg) p3 p4 (S 1 (((37 : Int32) + ((4 : Int32) * p2)) + p3).toNatClampNeg) (S 5 p2.toNatClampNeg) r25 hq25 _) (va_cwS 5 hts gX7_showsOn_X7_showsAs rfl rfl rfl (by decide +kernel) ⟨Nat.le_of_ble_eq_true rfl, Nat.le_of_ble_eq_true rfl⟩) ⟨k_blind, k_pre hPc hK hNn hDc⟩ rfl rfl hl.1 rfl (lv_room (Nat.le_of_ble_eq_true rfl)) dX7_showsOn_25 ⟨Nat.le_of_ble_eq_true rfl, Nat.le_of_ble_eq_true rfl⟩) hS hF (fun H locs hP1 hk hS => ?_)
  have hP : va_P D vwCl (wX7 cs a S L) _ := k_keep hP hk
  have e1 := dn_s1 hd
  exact k_iret hx hb hr hQ hAe e1 rfl hP hS hlocks dX7_showsOn_28
-- LeastNeedModel.countsOn([IIIIII)I
set_option maxRecDepth 20000 in
def nX7_countsOn_1 (S : Nat → Nat → Int32) (L : Nat → Nat → Int64) (p2 : Int32) (p3 : Int32) (p4 : Int32) (p5 : Int32) (p6 : Int32) : Option (Int32) := if ((30 : Int32) + p5) < 0 ∨ 284 ≤ ((30 : Int32) + p5).toNatClampNeg then none else if ((30 : Int32) + p6) < 0 ∨ 284 ≤ ((30 : Int32) + p6).toNatClampNeg then none else k_b1 (nX7_distance (S 1 ((30 : Int32) + p5).toNatClampNeg) (S 1 ((30 : Int32) + p6).toNatClampNeg)) (fun r14 => k_b1 (nX7_showsOn_1 S L p6 p3 p4) (fun r29 => k_b1 (nX7_showsOn_1 S L p6 ((p3 + (1 : Int32)) - (p3 + (1 : Int32)) / (4 : Int32) * (4 : Int32)) p4) (fun r43 => k_b1 (nX7_countsAs p2 r14 r29 r43) (fun r46 => some r46))))
set_option maxHeartbeats 4000000 in
set_option maxRecDepth 100000 in
theorem mX7_countsOn_1 (l : Launch) (D : va_G) (cs : Nat → ClassId) (a : Nat → Nat) (S : Nat → Nat → Int32) (L : Nat → Nat → Int64) (p2 : Int32) (p3 : Int32) (p4 : Int32) (p5 : Int32) (p6 : Int32) (r9 : Int32) (hd : nX7_countsOn_1 S L p2 p3 p4 p5 p6 = some r9) : ∀ sz : Nat, Met l yX7_countsOn wsX7_countsOn ({ frames := 2, cells := 0, slots := 0, locals := 49 }) (k_Pc D cs [.ref (a 0), .ref (a 1), .int p2, .int p3, .int p4, .int p5, .int p6] (wX7 cs a S L) sz) (k_Qi D r9 (wX7 cs a S L) (wX7 cs a S L) sz) 0 0 (va_A (wX7 cs a S L) sz) := by
  intro sz
  refine Met.ofW (cc := cX7_countsOn) (maxL := 8) (ret := (some .int)) (by decide) rfl ?_
  intro p e s m args below meth c s₁ B hml hv
  obtain ⟨rfl, hsz, hP, hK, hD0, hNn⟩ := hv
  have hx := B.exec
  have hb := B.bytes
  have hr := B.returns
  have hts := atoms_spec (ws := wsX7_countsOn) B.pre
  have hown : s.vm.findClass RX7 = some m.cls := findClass_of_methodNamed B.named
  have hlocks := B.notSynchronized
  subst hsz
  obtain ⟨A, hAe⟩ : ∃ A : Nat → Prop, A = va_A (wX7 cs a S L) s.heap.size := ⟨_, rfl⟩
  have hD : va_D A (wX7 cs a S L) := by rw [hAe]; exact hD0.self
  have hA : ∀ q : Nat, s.heap.size ≤ q → A q := fun q h => by rw [hAe]; exact Or.inr h
  have hS : va_S A s.heap s.heap [] := va_S.rf
  have hDA : ∀ (S : Nat → Nat → Int32) (L : Nat → Nat → Int64), va_D A (wX7 cs a S L) := fun S L => k_DA hD rfl
  have hl := lv_entry ([.ref (a 0), .ref (a 1), .int p2, .int p3, .int p4, .int p5, .int p6]) (n := 8) (Nat.le_of_ble_eq_true rfl)
  rw [lg_entry_eq]
  generalize (lg_sl ([.ref (a 0), .ref (a 1), .int p2, .int p3, .int p4, .int p5, .int p6]) ++ List.replicate (8 - (lg_sl ([.ref (a 0), .ref (a 1), .int p2, .int p3, .int p4, .int p5, .int p6])).length) Slot.unset).toArray = ls at hl ⊢
  have hl : lv_has ls 8 [(0, .ref (a 0)), (1, .ref (a 1)), (2, .int p2), (3, .int p3), (4, .int p4), (5, .int p5), (6, .int p6)] := hl
  obtain ⟨Q, hQ⟩ : ∃ Q, Q = MQ below (k_Qi D r9 (wX7 cs a S L) (wX7 cs a S L) s.heap.size) ([.ref (a 0), .ref (a 1), .int p2, .int p3, .int p4, .int p5, .int p6] : List Value).toArray s 0 0 (va_A (wX7 cs a S L) s.heap.size) := ⟨_, rfl⟩
  rw [← hQ]
  unfold nX7_countsOn_1 at hd
  refine lv_aload_n hx hb dX7_countsOn_0 rfl (lv_at hl 1 rfl) ?_
  refine lv_bipush (v := (30 : Int32)) hx hb dX7_countsOn_1 (by decide) ?_
  refine lv_iload hx hb dX7_countsOn_3 (lv_at hl 5 rfl) ?_
  refine lv_iadd hx hb dX7_countsOn_5 ?_
  obtain ⟨hi6, hd⟩ := dn_i hd
  refine k_iald (D := D) (k := ((30 : Int32) + p5).toNatClampNeg) (by rfl) hx hb hK hP 1 1 rfl rfl hi6 dX7_countsOn_6 ?_
  refine lv_aload_n hx hb dX7_countsOn_7 rfl (lv_at hl 1 rfl) ?_
  refine lv_bipush (v := (30 : Int32)) hx hb dX7_countsOn_8 (by decide) ?_
  refine lv_iload hx hb dX7_countsOn_10 (lv_at hl 6 rfl) ?_
  refine lv_iadd hx hb dX7_countsOn_12 ?_
  obtain ⟨hi13, hd⟩ := dn_i hd
  refine k_iald (D := D) (k := ((30 : Int32) + p6).toNatClampNeg) (by rfl) hx hb hK hP 1 1 rfl rfl hi13 dX7_countsOn_13 ?_
  obtain ⟨r14, hq14, hd⟩ := dn_b1 hd
  have hPc := k_P0 hP
  have hDc : va_D A ([] : va_W) := k_D0
  have hF := k_self hDc hS hA
  refine k_run_i (va_runS (As := [.int (S 1 ((30 : Int32) + p5).toNatClampNeg), .int (S 1 ((30 : Int32) + p6).toNatClampNeg)]) (rest := []) ⟨hx, hb, hml, hown, hts⟩ (mX7_distance l D cs  (S 1 ((30 : Int32) + p5).toNatClampNeg) (S 1 ((30 : Int32) + p6).toNatClampNeg) r14 hq14 _) (va_cwS 2 hts gX7_countsOn_X7_distance rfl rfl rfl (by decide +kernel) ⟨Nat.le_of_ble_eq_true rfl, Nat.le_of_ble_eq_true rfl⟩) ⟨k_blind, k_pre hPc hK hNn hDc⟩ rfl rfl hl.1 rfl (lv_room (Nat.le_of_ble_eq_true rfl)) dX7_countsOn_14 ⟨Nat.le_of_ble_eq_true rfl, Nat.le_of_ble_eq_true rfl⟩) hS hF (fun H locs hP1 hk hS => ?_)
  have hP : va_P D vwCl (wX7 cs a S L) _ := k_keep hP hk
  refine lv_istore (lv' := [(7, .int r14), (0, .ref (a 0)), (1, .ref (a 1)), (2, .int p2), (3, .int p3), (4, .int p4), (5, .int p5), (6, .int p6)]) hx hb dX7_countsOn_17 hl (by decide) rfl (fun ls hl => ?_)
  refine lv_iload_n hx hb dX7_countsOn_19 rfl (lv_at hl 3 rfl) ?_
  refine lv_iload hx hb dX7_countsOn_20 (lv_at hl 0 rfl) ?_
  refine lv_aload_n hx hb dX7_countsOn_22 rfl (lv_at hl 1 rfl) ?_
  refine lv_aload_n hx hb dX7_countsOn_23 rfl (lv_at hl 2 rfl) ?_
  refine lv_iload hx hb dX7_countsOn_24 (lv_at hl 7 rfl) ?_
  refine lv_iload_n hx hb dX7_countsOn_26 rfl (lv_at hl 4 rfl) ?_
  refine lv_iload hx hb dX7_countsOn_27 (lv_at hl 5 rfl) ?_
  obtain ⟨r29, hq29, hd⟩ := dn_b1 hd
  have hF := k_self hD hS hA
  refine k_run_i (va_runV (As := [.ref (a 1), .int p6, .int p3, .int p4]) (rest := [.int r14, .int p2]) ⟨hx, hb, hml, hown, hts⟩ (mX7_showsOn_1 l D cs a S L p6 p3 p4 r29 hq29 _) (cwV 4 hts gX7_countsOn_X7_showsOn rfl rfl rfl (by decide +kernel) ⟨Nat.le_of_ble_eq_true rfl, Nat.le_of_ble_eq_true rfl⟩) ⟨k_blind, va_recv hK hP (ci := 5) (q0 := 0) rfl rfl, k_pre hP hK hNn hD⟩ rfl rfl hl.1 rfl (lv_room (Nat.le_of_ble_eq_true rfl)) dX7_countsOn_29 ⟨Nat.le_of_ble_eq_true rfl, Nat.le_of_ble_eq_true rfl⟩) hS hF (fun H locs hP1 hk hS => ?_)
  have hP : va_P D vwCl (wX7 cs a S L) _ := hP1
  have hD := hDA S L
  refine lv_aload_n hx hb dX7_countsOn_32 rfl (lv_at hl 1 rfl) ?_
  refine lv_aload_n hx hb dX7_countsOn_33 rfl (lv_at hl 2 rfl) ?_
  refine lv_iload hx hb dX7_countsOn_34 (lv_at hl 7 rfl) ?_
  refine lv_iload_n hx hb dX7_countsOn_36 rfl (lv_at hl 4 rfl) ?_
  refine lv_iconst (v := (1 : Int32)) hx hb dX7_countsOn_37 (by decide) ?_
  refine lv_iadd hx hb dX7_countsOn_38 ?_
  refine lv_iconst (v := (4 : Int32)) hx hb dX7_countsOn_39 (by decide) ?_
  refine lv_irem hx hb dX7_countsOn_40 (by decide) ?_
  refine lv_iload hx hb dX7_countsOn_41 (lv_at hl 5 rfl) ?_
  obtain ⟨r43, hq43, hd⟩ := dn_b1 hd
  have hF := k_self hD hS hA
  refine k_run_i (va_runV (As := [.ref (a 1), .int p6, .int ((p3 + (1 : Int32)) - (p3 + (1 : Int32)) / (4 : Int32) * (4 : Int32)), .int p4]) (rest := [.int r29, .int r14, .int p2]) ⟨hx, hb, hml, hown, hts⟩ (mX7_showsOn_1 l D cs a S L p6 ((p3 + (1 : Int32)) - (p3 + (1 : Int32)) / (4 : Int32) * (4 : Int32)) p4 r43 hq43 _) (cwV 4 hts gX7_countsOn_X7_showsOn rfl rfl rfl (by decide +kernel) ⟨Nat.le_of_ble_eq_true rfl, Nat.le_of_ble_eq_true rfl⟩) ⟨k_blind, va_recv hK hP (ci := 5) (q0 := 0) rfl rfl, k_pre hP hK hNn hD⟩ rfl rfl hl.1 rfl (lv_room (Nat.le_of_ble_eq_true rfl)) dX7_countsOn_43 ⟨Nat.le_of_ble_eq_true rfl, Nat.le_of_ble_eq_true rfl⟩) hS hF (fun H locs hP1 hk hS => ?_)
  have hP : va_P D vwCl (wX7 cs a S L) _ := hP1
  have hD := hDA S L
  obtain ⟨r46, hq46, hd⟩ := dn_b1 hd
  have hPc := k_P0 hP
  have hDc : va_D A ([] : va_W) := k_D0
  have hF := k_self hDc hS hA
  refine k_run_i (va_runS (As := [.int p2, .int r14, .int r29, .int r43]) (rest := []) ⟨hx, hb, hml, hown, hts⟩ (mX7_countsAs l D cs  p2 r14 r29 r43 r46 hq46 _) (va_cwS 4 hts gX7_countsOn_X7_countsAs rfl rfl rfl (by decide +kernel) ⟨Nat.le_of_ble_eq_true rfl, Nat.le_of_ble_eq_true rfl⟩) ⟨k_blind, k_pre hPc hK hNn hDc⟩ rfl rfl hl.1 rfl (lv_room (Nat.le_of_ble_eq_true rfl)) dX7_countsOn_46 ⟨Nat.le_of_ble_eq_true rfl, Nat.le_of_ble_eq_true rfl⟩) hS hF (fun H locs hP1 hk hS => ?_)
  have hP : va_P D vwCl (wX7 cs a S L) _ := k_keep hP hk
  have e1 := dn_s1 hd
  exact k_iret hx hb hr hQ hAe e1 rfl hP hS hlocks dX7_countsOn_49
-- LeastNeedModel.comesTo([IIIII)I
set_option maxRecDepth 20000 in
def nX7_comesTo_1_i13_j88 (p2 : Int32) (p3 : Int32) (p4 : Int32) (p5 : Int32) (x8_88 : Int32) (x9_88 : Int32) (x10_88 : Int32) (w0_88 : Int32) (S : Nat → Nat → Int32) (L : Nat → Nat → Int64) : Option ((Int32 × Int32 × Int32 × Int32) ⊕ (Int32)) := some (.inl (w0_88, x10_88, x8_88, (x9_88 + (1 : Int32))))
set_option maxRecDepth 20000 in
def nX7_comesTo_1_i13_j72 (p2 : Int32) (p3 : Int32) (p4 : Int32) (p5 : Int32) (x6_72 : Int32) (x7_72 : Int32) (x9_72 : Int32) (x10_72 : Int32) (w0_72 : Int32) (S : Nat → Nat → Int32) (L : Nat → Nat → Int64) : Option ((Int32 × Int32 × Int32 × Int32) ⊕ (Int32)) := if x7_72 ≤ x10_72 then nX7_comesTo_1_i13_j88 p2 p3 p4 p5 w0_72 x9_72 x10_72 x6_72 S L else nX7_comesTo_1_i13_j88 p2 p3 p4 p5 w0_72 x9_72 x10_72 x9_72 S L
set_option maxRecDepth 20000 in
def nX7_comesTo_1_i13_j45 (p2 : Int32) (p3 : Int32) (p4 : Int32) (p5 : Int32) (x6_45 : Int32) (x7_45 : Int32) (x8_45 : Int32) (x9_45 : Int32) (w0_45 : Int32) (S : Nat → Nat → Int32) (L : Nat → Nat → Int64) : Option ((Int32 × Int32 × Int32 × Int32) ⊕ (Int32)) := if w0_45 = (-1 : Int32) then some (.inl (x6_45, x7_45, x8_45, (x9_45 + (1 : Int32)))) else if x7_45 < w0_45 then some (.inl (x6_45, x7_45, x8_45, (x9_45 + (1 : Int32)))) else if w0_45 = x7_45 then nX7_comesTo_1_i13_j72 p2 p3 p4 p5 x6_45 x7_45 x9_45 w0_45 (1 : Int32) S L else nX7_comesTo_1_i13_j72 p2 p3 p4 p5 x6_45 x7_45 x9_45 w0_45 (0 : Int32) S L
set_option maxRecDepth 20000 in
def nX7_comesTo_1_l13 (p2 : Int32) (p3 : Int32) (p4 : Int32) (p5 : Int32) (x6_13 : Int32) (x7_13 : Int32) (x8_13 : Int32) (x9_13 : Int32) (S : Nat → Nat → Int32) (L : Nat → Nat → Int64) : Option ((Int32 × Int32 × Int32 × Int32) ⊕ (Int32)) := if (S 1 0) ≤ x9_13 then k_up (if x8_13 = 0 then some x6_13 else if p2 = (4 : Int32) then some x6_13 else some (-1 : Int32)) else if x9_13 = p5 then nX7_comesTo_1_i13_j45 p2 p3 p4 p5 x6_13 x7_13 x8_13 x9_13 (-1 : Int32) S L else k_b1 (nX7_countsOn_1 S L p2 p3 p4 p5 x9_13) (fun r42 => nX7_comesTo_1_i13_j45 p2 p3 p4 p5 x6_13 x7_13 x8_13 x9_13 r42 S L)
set_option maxRecDepth 20000 in
def nX7_comesTo_1 (S : Nat → Nat → Int32) (L : Nat → Nat → Int64) (p2 : Int32) (p3 : Int32) (p4 : Int32) (p5 : Int32) : Option (Int32) := k_it (fun st => nX7_comesTo_1_l13 p2 p3 p4 p5 st.1 st.2.1 st.2.2.1 st.2.2.2 S L) 1000 ((-1 : Int32), (1000000 : Int32), (0 : Int32), (0 : Int32))
set_option maxHeartbeats 4000000 in
set_option maxRecDepth 100000 in
theorem mX7_comesTo_1 (l : Launch) (D : va_G) (cs : Nat → ClassId) (a : Nat → Nat) (S : Nat → Nat → Int32) (L : Nat → Nat → Int64) (p2 : Int32) (p3 : Int32) (p4 : Int32) (p5 : Int32) (r9 : Int32) (hd : nX7_comesTo_1 S L p2 p3 p4 p5 = some r9) : ∀ sz : Nat, Met l yX7_comesTo wsX7_comesTo ({ frames := 3, cells := 0, slots := 0, locals := 76 }) (k_Pc D cs [.ref (a 0), .ref (a 1), .int p2, .int p3, .int p4, .int p5] (wX7 cs a S L) sz) (k_Qi D r9 (wX7 cs a S L) (wX7 cs a S L) sz) 0 0 (va_A (wX7 cs a S L) sz) := by
  intro sz
  refine Met.ofW (cc := cX7_comesTo) (maxL := 11) (ret := (some .int)) (by decide) rfl ?_
  intro p e s m args below meth c s₁ B hml hv
  obtain ⟨rfl, hsz, hP, hK, hD0, hNn⟩ := hv
  have hx := B.exec
  have hb := B.bytes
  have hr := B.returns
  have hts := atoms_spec (ws := wsX7_comesTo) B.pre
  have hown : s.vm.findClass RX7 = some m.cls := findClass_of_methodNamed B.named
  have hlocks := B.notSynchronized
  subst hsz
  obtain ⟨A, hAe⟩ : ∃ A : Nat → Prop, A = va_A (wX7 cs a S L) s.heap.size := ⟨_, rfl⟩
  have hD : va_D A (wX7 cs a S L) := by rw [hAe]; exact hD0.self
  have hA : ∀ q : Nat, s.heap.size ≤ q → A q := fun q h => by rw [hAe]; exact Or.inr h
  have hS : va_S A s.heap s.heap [] := va_S.rf
  have hDA : ∀ (S : Nat → Nat → Int32) (L : Nat → Nat → Int64), va_D A (wX7 cs a S L) := fun S L => k_DA hD rfl
  have hl := lv_entry ([.ref (a 0), .ref (a 1), .int p2, .int p3, .int p4, .int p5]) (n := 11) (Nat.le_of_ble_eq_true rfl)
  rw [lg_entry_eq]
  generalize (lg_sl ([.ref (a 0), .ref (a 1), .int p2, .int p3, .int p4, .int p5]) ++ List.replicate (11 - (lg_sl ([.ref (a 0), .ref (a 1), .int p2, .int p3, .int p4, .int p5])).length) Slot.unset).toArray = ls at hl ⊢
  have hl : lv_has ls 11 [(0, .ref (a 0)), (1, .ref (a 1)), (2, .int p2), (3, .int p3), (4, .int p4), (5, .int p5)] := hl
  obtain ⟨Q, hQ⟩ : ∃ Q, Q = MQ below (k_Qi D r9 (wX7 cs a S L) (wX7 cs a S L) s.heap.size) ([.ref (a 0), .ref (a 1), .int p2, .int p3, .int p4, .int p5] : List Value).toArray s 0 0 (va_A (wX7 cs a S L) s.heap.size) := ⟨_, rfl⟩
  rw [← hQ]
  have Lo13 : ∀ (n1 : Nat) (x6_13 : Int32) (x7_13 : Int32) (x8_13 : Int32) (x9_13 : Int32) (H : Heap) (locs : List Loc) (ls : Array Slot), k_it (fun st => nX7_comesTo_1_l13 p2 p3 p4 p5 st.1 st.2.1 st.2.2.1 st.2.2.2 S L) n1 (x6_13, x7_13, x8_13, x9_13) = some r9 → lv_has ls 11 [(0, .ref (a 0)), (1, .ref (a 1)), (2, .int p2), (3, .int p3), (4, .int p4), (5, .int p5), (6, .int x6_13), (7, .int x7_13), (8, .int x8_13), (9, .int x9_13)] → va_P D vwCl (wX7 cs a S L) H → va_S A s.heap H locs → W p l e (headSpec wsX7_comesTo ({ frames := 3, cells := 0, slots := 0, locals := 76 })).room s m ([.ref (a 0), .ref (a 1), .int p2, .int p3, .int p4, .int p5] : List Value).toArray below meth c H locs 0 0 Q (F0 m 13 ls []) := by
    intro n1
    induction n1 with
    | zero => intro x6_13 x7_13 x8_13 x9_13 H locs ls hd; exact dn_it0 hd
    | succ n1 ih1 =>
      intro x6_13 x7_13 x8_13 x9_13 H locs ls hd hl hP hS
      have hD := hDA S L
      obtain ⟨y1, hd, hy1⟩ := dn_it hd
      have hd : nX7_comesTo_1_l13 p2 p3 p4 p5 x6_13 x7_13 x8_13 x9_13 S L = some y1 := hd
      have Jo88 : ∀ (x8_88 : Int32) (x9_88 : Int32) (x10_88 : Int32) (w0_88 : Int32) (H : Heap) (locs : List Loc) (ls : Array Slot), nX7_comesTo_1_i13_j88 p2 p3 p4 p5 x8_88 x9_88 x10_88 w0_88 S L = some y1 → lv_has ls 11 [(0, .ref (a 0)), (1, .ref (a 1)), (2, .int p2), (3, .int p3), (4, .int p4), (5, .int p5), (8, .int x8_88), (9, .int x9_88), (10, .int x10_88)] → va_P D vwCl (wX7 cs a S L) H → va_S A s.heap H locs → W p l e (headSpec wsX7_comesTo ({ frames := 3, cells := 0, slots := 0, locals := 76 })).room s m ([.ref (a 0), .ref (a 1), .int p2, .int p3, .int p4, .int p5] : List Value).toArray below meth c H locs 0 0 Q (F0 m 88 ls [.int w0_88]) := by
        intro x8_88 x9_88 x10_88 w0_88 H locs ls hd hl hP hS
        have hD := hDA S L
        unfold nX7_comesTo_1_i13_j88 at hd
        refine lv_istore (lv' := [(6, .int w0_88), (0, .ref (a 0)), (1, .ref (a 1)), (2, .int p2), (3, .int p3), (4, .int p4), (5, .int p5), (8, .int x8_88), (9, .int x9_88), (10, .int x10_88)]) hx hb dX7_comesTo_88 hl (by decide) rfl (fun ls hl => ?_)
        refine lv_iload hx hb dX7_comesTo_90 (lv_at hl 9 rfl) ?_
        refine lv_istore (lv' := [(7, .int x10_88), (6, .int w0_88), (0, .ref (a 0)), (1, .ref (a 1)), (2, .int p2), (3, .int p3), (4, .int p4), (5, .int p5), (8, .int x8_88), (9, .int x9_88), (10, .int x10_88)]) hx hb dX7_comesTo_92 hl (by decide) rfl (fun ls hl => ?_)
        refine lv_iinc (v := x9_88 + (1 : Int32)) (lv' := [(9, .int (x9_88 + (1 : Int32))), (7, .int x10_88), (6, .int w0_88), (0, .ref (a 0)), (1, .ref (a 1)), (2, .int p2), (3, .int p3), (4, .int p4), (5, .int p5), (8, .int x8_88), (10, .int x10_88)]) hx hb dX7_comesTo_94 hl (k := 9) rfl rfl (by decide) rfl (fun ls hl => ?_)
        refine lv_goto (tgt := 13) hx hb dX7_comesTo_97 (by decide) ?_
        exact ih1 w0_88 x10_88 x8_88 (x9_88 + (1 : Int32)) _ _ _ (dn_bk hd hy1) (lv_sub hl [3, 4, 5, 6, 7, 8, 2, 1, 9, 0] rfl) hP hS
      have Jo72 : ∀ (x6_72 : Int32) (x7_72 : Int32) (x9_72 : Int32) (x10_72 : Int32) (w0_72 : Int32) (H : Heap) (locs : List Loc) (ls : Array Slot), nX7_comesTo_1_i13_j72 p2 p3 p4 p5 x6_72 x7_72 x9_72 x10_72 w0_72 S L = some y1 → lv_has ls 11 [(0, .ref (a 0)), (1, .ref (a 1)), (2, .int p2), (3, .int p3), (4, .int p4), (5, .int p5), (6, .int x6_72), (7, .int x7_72), (9, .int x9_72), (10, .int x10_72)] → va_P D vwCl (wX7 cs a S L) H → va_S A s.heap H locs → W p l e (headSpec wsX7_comesTo ({ frames := 3, cells := 0, slots := 0, locals := 76 })).room s m ([.ref (a 0), .ref (a 1), .int p2, .int p3, .int p4, .int p5] : List Value).toArray below meth c H locs 0 0 Q (F0 m 72 ls [.int w0_72]) := by
        intro x6_72 x7_72 x9_72 x10_72 w0_72 H locs ls hd hl hP hS
        have hD := hDA S L
        unfold nX7_comesTo_1_i13_j72 at hd
        refine lv_istore (lv' := [(8, .int w0_72), (0, .ref (a 0)), (1, .ref (a 1)), (2, .int p2), (3, .int p3), (4, .int p4), (5, .int p5), (6, .int x6_72), (7, .int x7_72), (9, .int x9_72), (10, .int x10_72)]) hx hb dX7_comesTo_72 hl (by decide) rfl (fun ls hl => ?_)
        refine lv_iload hx hb dX7_comesTo_74 (lv_at hl 10 rfl) ?_
        refine lv_iload hx hb dX7_comesTo_76 (lv_at hl 8 rfl) ?_
        refine lv_icmp_ge (tgt := 86) hx hb dX7_comesTo_78 (by decide) (fun c78 => ?_) (fun c78 => ?_)
        · have hd := dn_t c78 hd
          refine lv_iload hx hb dX7_comesTo_86 (lv_at hl 7 rfl) ?_
          exact Jo88 w0_72 x9_72 x10_72 x6_72 _ _ _ hd (lv_sub hl [1, 2, 3, 4, 5, 6, 0, 9, 10] rfl) hP hS
        · have hd := dn_f c78 hd
          refine lv_iload hx hb dX7_comesTo_81 (lv_at hl 9 rfl) ?_
          refine lv_goto (tgt := 88) hx hb dX7_comesTo_83 (by decide) ?_
          exact Jo88 w0_72 x9_72 x10_72 x9_72 _ _ _ hd (lv_sub hl [1, 2, 3, 4, 5, 6, 0, 9, 10] rfl) hP hS
      have Jo45 : ∀ (x6_45 : Int32) (x7_45 : Int32) (x8_45 : Int32) (x9_45 : Int32) (w0_45 : Int32) (H : Heap) (locs : List Loc) (ls : Array Slot), nX7_comesTo_1_i13_j45 p2 p3 p4 p5 x6_45 x7_45 x8_45 x9_45 w0_45 S L = some y1 → lv_has ls 11 [(0, .ref (a 0)), (1, .ref (a 1)), (2, .int p2), (3, .int p3), (4, .int p4), (5, .int p5), (6, .int x6_45), (7, .int x7_45), (8, .int x8_45), (9, .int x9_45)] → va_P D vwCl (wX7 cs a S L) H → va_S A s.heap H locs → W p l e (headSpec wsX7_comesTo ({ frames := 3, cells := 0, slots := 0, locals := 76 })).room s m ([.ref (a 0), .ref (a 1), .int p2, .int p3, .int p4, .int p5] : List Value).toArray below meth c H locs 0 0 Q (F0 m 45 ls [.int w0_45]) := by
        intro x6_45 x7_45 x8_45 x9_45 w0_45 H locs ls hd hl hP hS
        have hD := hDA S L
        unfold nX7_comesTo_1_i13_j45 at hd
        refine lv_istore (lv' := [(10, .int w0_45), (0, .ref (a 0)), (1, .ref (a 1)), (2, .int p2), (3, .int p3), (4, .int p4), (5, .int p5), (6, .int x6_45), (7, .int x7_45), (8, .int x8_45), (9, .int x9_45)]) hx hb dX7_comesTo_45 hl (by decide) rfl (fun ls hl => ?_)
        refine lv_iload hx hb dX7_comesTo_47 (lv_at hl 0 rfl) ?_
        refine lv_iconst (v := (-1 : Int32)) hx hb dX7_comesTo_49 (by decide) ?_
        refine lv_icmp_eq (tgt := 94) hx hb dX7_comesTo_50 (by decide) (fun c50 => ?_) (fun c50 => ?_)
        · have hd := dn_t c50 hd
          refine lv_iinc (v := x9_45 + (1 : Int32)) (lv' := [(9, .int (x9_45 + (1 : Int32))), (10, .int w0_45), (0, .ref (a 0)), (1, .ref (a 1)), (2, .int p2), (3, .int p3), (4, .int p4), (5, .int p5), (6, .int x6_45), (7, .int x7_45), (8, .int x8_45)]) hx hb dX7_comesTo_94 hl (k := 10) rfl rfl (by decide) rfl (fun ls hl => ?_)
          refine lv_goto (tgt := 13) hx hb dX7_comesTo_97 (by decide) ?_
          exact ih1 x6_45 x7_45 x8_45 (x9_45 + (1 : Int32)) _ _ _ (dn_bk hd hy1) (lv_sub hl [2, 3, 4, 5, 6, 7, 8, 9, 10, 0] rfl) hP hS
        · have hd := dn_f c50 hd
          refine lv_iload hx hb dX7_comesTo_53 (lv_at hl 0 rfl) ?_
          refine lv_iload hx hb dX7_comesTo_55 (lv_at hl 8 rfl) ?_
          refine lv_icmp_gt (tgt := 94) hx hb dX7_comesTo_57 (by decide) (fun c57 => ?_) (fun c57 => ?_)
          · have hd := dn_t c57 hd
            refine lv_iinc (v := x9_45 + (1 : Int32)) (lv' := [(9, .int (x9_45 + (1 : Int32))), (10, .int w0_45), (0, .ref (a 0)), (1, .ref (a 1)), (2, .int p2), (3, .int p3), (4, .int p4), (5, .int p5), (6, .int x6_45), (7, .int x7_45), (8, .int x8_45)]) hx hb dX7_comesTo_94 hl (k := 10) rfl rfl (by decide) rfl (fun ls hl => ?_)
            refine lv_goto (tgt := 13) hx hb dX7_comesTo_97 (by decide) ?_
            exact ih1 x6_45 x7_45 x8_45 (x9_45 + (1 : Int32)) _ _ _ (dn_bk hd hy1) (lv_sub hl [2, 3, 4, 5, 6, 7, 8, 9, 10, 0] rfl) hP hS
          · have hd := dn_f c57 hd
            refine lv_iload hx hb dX7_comesTo_60 (lv_at hl 0 rfl) ?_
            refine lv_iload hx hb dX7_comesTo_62 (lv_at hl 8 rfl) ?_
            refine lv_icmp_ne (tgt := 71) hx hb dX7_comesTo_64 (by decide) (fun c64 => ?_) (fun c64 => ?_)
            · have hd := dn_f c64 hd
              refine lv_iconst (v := (0 : Int32)) hx hb dX7_comesTo_71 (by decide) ?_
              exact Jo72 x6_45 x7_45 x9_45 w0_45 (0 : Int32) _ _ _ hd (lv_sub hl [1, 2, 3, 4, 5, 6, 7, 8, 10, 0] rfl) hP hS
            · have hd := dn_t c64 hd
              refine lv_iconst (v := (1 : Int32)) hx hb dX7_comesTo_67 (by decide) ?_
              refine lv_goto (tgt := 72) hx hb dX7_comesTo_68 (by decide) ?_
              exact Jo72 x6_45 x7_45 x9_45 w0_45 (1 : Int32) _ _ _ hd (lv_sub hl [1, 2, 3, 4, 5, 6, 7, 8, 10, 0] rfl) hP hS
      unfold nX7_comesTo_1_l13 at hd
      refine lv_iload hx hb dX7_comesTo_13 (lv_at hl 9 rfl) ?_
      refine lv_aload_n hx hb dX7_comesTo_15 rfl (lv_at hl 1 rfl) ?_
      refine lv_iconst (v := (0 : Int32)) hx hb dX7_comesTo_16 (by decide) ?_
      refine k_iald (D := D) (k := 0) (by rfl) hx hb hK hP 1 1 rfl rfl (k_in (by decide)) dX7_comesTo_17 ?_
      refine lv_icmp_ge (tgt := 100) hx hb dX7_comesTo_18 (by decide) (fun c18 => ?_) (fun c18 => ?_)
      · have hd := dn_t c18 hd
        have hd := dn_up hd hy1
        refine lv_iload hx hb dX7_comesTo_100 (lv_at hl 8 rfl) ?_
        refine lv_if_eq (tgt := 114) hx hb dX7_comesTo_102 (by decide) (fun c102 => ?_) (fun c102 => ?_)
        · have hd := dn_t c102 hd
          refine lv_iload hx hb dX7_comesTo_114 (lv_at hl 6 rfl) ?_
          have e1 := dn_s1 hd
          exact k_iret hx hb hr hQ hAe e1 rfl hP hS hlocks dX7_comesTo_116
        · have hd := dn_f c102 hd
          refine lv_iload_n hx hb dX7_comesTo_105 rfl (lv_at hl 2 rfl) ?_
          refine lv_iconst (v := (4 : Int32)) hx hb dX7_comesTo_106 (by decide) ?_
          refine lv_icmp_eq (tgt := 114) hx hb dX7_comesTo_107 (by decide) (fun c107 => ?_) (fun c107 => ?_)
          · have hd := dn_t c107 hd
            refine lv_iload hx hb dX7_comesTo_114 (lv_at hl 6 rfl) ?_
            have e1 := dn_s1 hd
            exact k_iret hx hb hr hQ hAe e1 rfl hP hS hlocks dX7_comesTo_116
          · have hd := dn_f c107 hd
            refine lv_iconst (v := (-1 : Int32)) hx hb dX7_comesTo_110 (by decide) ?_
            refine lv_goto (tgt := 116) hx hb dX7_comesTo_111 (by decide) ?_
            have e1 := dn_s1 hd
            exact k_iret hx hb hr hQ hAe e1 rfl hP hS hlocks dX7_comesTo_116
      · have hd := dn_f c18 hd
        refine lv_iload hx hb dX7_comesTo_21 (lv_at hl 9 rfl) ?_
        refine lv_iload hx hb dX7_comesTo_23 (lv_at hl 5 rfl) ?_
        refine lv_icmp_ne (tgt := 32) hx hb dX7_comesTo_25 (by decide) (fun c25 => ?_) (fun c25 => ?_)
        · have hd := dn_f c25 hd
          refine lv_aload_n hx hb dX7_comesTo_32 rfl (lv_at hl 0 rfl) ?_
          refine lv_aload_n hx hb dX7_comesTo_33 rfl (lv_at hl 1 rfl) ?_
          refine lv_iload_n hx hb dX7_comesTo_34 rfl (lv_at hl 2 rfl) ?_
          refine lv_iload_n hx hb dX7_comesTo_35 rfl (lv_at hl 3 rfl) ?_
          refine lv_iload hx hb dX7_comesTo_36 (lv_at hl 4 rfl) ?_
          refine lv_iload hx hb dX7_comesTo_38 (lv_at hl 5 rfl) ?_
          refine lv_iload hx hb dX7_comesTo_40 (lv_at hl 9 rfl) ?_
          obtain ⟨r42, hq42, hd⟩ := dn_b1 hd
          have hF := k_self hD hS hA
          refine k_run_i (va_runV (As := [.ref (a 1), .int p2, .int p3, .int p4, .int p5, .int x9_13]) (rest := []) ⟨hx, hb, hml, hown, hts⟩ (mX7_countsOn_1 l D cs a S L p2 p3 p4 p5 x9_13 r42 hq42 _) (cwV 6 hts gX7_comesTo_X7_countsOn rfl rfl rfl (by decide +kernel) ⟨Nat.le_of_ble_eq_true rfl, Nat.le_of_ble_eq_true rfl⟩) ⟨k_blind, va_recv hK hP (ci := 5) (q0 := 0) rfl rfl, k_pre hP hK hNn hD⟩ rfl rfl hl.1 rfl (lv_room (Nat.le_of_ble_eq_true rfl)) dX7_comesTo_42 ⟨Nat.le_of_ble_eq_true rfl, Nat.le_of_ble_eq_true rfl⟩) hS hF (fun H locs hP1 hk hS => ?_)
          have hP : va_P D vwCl (wX7 cs a S L) _ := hP1
          have hD := hDA S L
          exact Jo45 x6_13 x7_13 x8_13 x9_13 r42 _ _ _ hd (lv_sub hl [0, 1, 2, 3, 4, 5, 6, 7, 8, 9] rfl) hP hS
        · have hd := dn_t c25 hd
          refine lv_iconst (v := (-1 : Int32)) hx hb dX7_comesTo_28 (by decide) ?_
          refine lv_goto (tgt := 45) hx hb dX7_comesTo_29 (by decide) ?_
          exact Jo45 x6_13 x7_13 x8_13 x9_13 (-1 : Int32) _ _ _ hd (lv_sub hl [0, 1, 2, 3, 4, 5, 6, 7, 8, 9] rfl) hP hS
  unfold nX7_comesTo_1 at hd
  refine lv_iconst (v := (-1 : Int32)) hx hb dX7_comesTo_0 (by decide) ?_
  refine lv_istore (lv' := [(6, .int (-1 : Int32)), (0, .ref (a 0)), (1, .ref (a 1)), (2, .int p2), (3, .int p3), (4, .int p4), (5, .int p5)]) hx hb dX7_comesTo_1 hl (by decide) rfl (fun ls hl => ?_)
  refine lv_ldc (v := (1000000 : Int32)) hx hb hown (hts (.constant RX7 134 (1000000)) (List.mem_of_getElem? (i := 1) rfl)) dX7_comesTo_3 ?_
  refine lv_istore (lv' := [(7, .int (1000000 : Int32)), (6, .int (-1 : Int32)), (0, .ref (a 0)), (1, .ref (a 1)), (2, .int p2), (3, .int p3), (4, .int p4), (5, .int p5)]) hx hb dX7_comesTo_5 hl (by decide) rfl (fun ls hl => ?_)
  refine lv_iconst (v := (0 : Int32)) hx hb dX7_comesTo_7 (by decide) ?_
  refine lv_istore (lv' := [(8, .int (0 : Int32)), (7, .int (1000000 : Int32)), (6, .int (-1 : Int32)), (0, .ref (a 0)), (1, .ref (a 1)), (2, .int p2), (3, .int p3), (4, .int p4), (5, .int p5)]) hx hb dX7_comesTo_8 hl (by decide) rfl (fun ls hl => ?_)
  refine lv_iconst (v := (0 : Int32)) hx hb dX7_comesTo_10 (by decide) ?_
  refine lv_istore (lv' := [(9, .int (0 : Int32)), (8, .int (0 : Int32)), (7, .int (1000000 : Int32)), (6, .int (-1 : Int32)), (0, .ref (a 0)), (1, .ref (a 1)), (2, .int p2), (3, .int p3), (4, .int p4), (5, .int p5)]) hx hb dX7_comesTo_11 hl (by decide) rfl (fun ls hl => ?_)
  exact Lo13 1000 (-1 : Int32) (1000000 : Int32) (0 : Int32) (0 : Int32) _ _ _ hd (lv_sub hl [4, 5, 6, 7, 8, 9, 3, 2, 1, 0] rfl) hP hS
-- LeastNeedModel.comesNow(II)I
set_option maxRecDepth 20000 in
def nX7_comesNow (S : Nat → Nat → Int32) (L : Nat → Nat → Int64) (p1 : Int32) (p2 : Int32) : Option (Int32) := if ((65 : Int32) + p1) < 0 ∨ 284 ≤ ((65 : Int32) + p1).toNatClampNeg then none else if ((70 : Int32) + p1) < 0 ∨ 284 ≤ ((70 : Int32) + p1).toNatClampNeg then none else k_b1 (nX7_comesTo_1 S L (S 1 ((65 : Int32) + p1).toNatClampNeg) (S 1 ((70 : Int32) + p1).toNatClampNeg) (S 1 22) p2) (fun r31 => some r31)
set_option maxHeartbeats 4000000 in
set_option maxRecDepth 100000 in
theorem mX7_comesNow (l : Launch) (D : va_G) (cs : Nat → ClassId) (a : Nat → Nat) (S : Nat → Nat → Int32) (L : Nat → Nat → Int64) (p1 : Int32) (p2 : Int32) (r9 : Int32) (hd : nX7_comesNow S L p1 p2 = some r9) : ∀ sz : Nat, Met l yX7_comesNow wsX7_comesNow ({ frames := 4, cells := 0, slots := 0, locals := 106 }) (k_Pc D cs [.ref (a 0), .int p1, .int p2] (wX7 cs a S L) sz) (k_Qi D r9 (wX7 cs a S L) (wX7 cs a S L) sz) 0 0 (va_A (wX7 cs a S L) sz) := by
  intro sz
  refine Met.ofW (cc := cX7_comesNow) (maxL := 3) (ret := (some .int)) (by decide) rfl ?_
  intro p e s m args below meth c s₁ B hml hv
  obtain ⟨rfl, hsz, hP, hK, hD0, hNn⟩ := hv
  have hx := B.exec
  have hb := B.bytes
  have hr := B.returns
  have hts := atoms_spec (ws := wsX7_comesNow) B.pre
  have hown : s.vm.findClass RX7 = some m.cls := findClass_of_methodNamed B.named
  have hlocks := B.notSynchronized
  subst hsz
  obtain ⟨A, hAe⟩ : ∃ A : Nat → Prop, A = va_A (wX7 cs a S L) s.heap.size := ⟨_, rfl⟩
  have hD : va_D A (wX7 cs a S L) := by rw [hAe]; exact hD0.self
  have hA : ∀ q : Nat, s.heap.size ≤ q → A q := fun q h => by rw [hAe]; exact Or.inr h
  have hS : va_S A s.heap s.heap [] := va_S.rf
  have hDA : ∀ (S : Nat → Nat → Int32) (L : Nat → Nat → Int64), va_D A (wX7 cs a S L) := fun S L => k_DA hD rfl
  have hl := lv_entry ([.ref (a 0), .int p1, .int p2]) (n := 3) (Nat.le_of_ble_eq_true rfl)
  rw [lg_entry_eq]
  generalize (lg_sl ([.ref (a 0), .int p1, .int p2]) ++ List.replicate (3 - (lg_sl ([.ref (a 0), .int p1, .int p2])).length) Slot.unset).toArray = ls at hl ⊢
  have hl : lv_has ls 3 [(0, .ref (a 0)), (1, .int p1), (2, .int p2)] := hl
  obtain ⟨Q, hQ⟩ : ∃ Q, Q = MQ below (k_Qi D r9 (wX7 cs a S L) (wX7 cs a S L) s.heap.size) ([.ref (a 0), .int p1, .int p2] : List Value).toArray s 0 0 (va_A (wX7 cs a S L) s.heap.size) := ⟨_, rfl⟩
  rw [← hQ]
  unfold nX7_comesNow at hd
  refine lv_aload_n hx hb dX7_comesNow_0 rfl (lv_at hl 0 rfl) ?_
  refine lv_aload_n hx hb dX7_comesNow_1 rfl (lv_at hl 0 rfl) ?_
  refine va_get (D := D) (ci := 5) (v := .ref (a 1)) (C := RX7) (T := TX7) (N := 25) hx hb hts (fun w h => List.mem_cons_of_mem _ (List.mem_append_right _ h)) hown hK hP 0 rfl rfl 0 (by decide) (hts (.fieldLink RX7 7 "LeastNeedModel" "told" "[I") (List.mem_of_getElem? (i := 1) rfl)) (fun _ h9 => h9) rfl dX7_comesNow_2 ?_
  refine lv_aload_n hx hb dX7_comesNow_5 rfl (lv_at hl 0 rfl) ?_
  refine va_get (D := D) (ci := 5) (v := .ref (a 1)) (C := RX7) (T := TX7) (N := 25) hx hb hts (fun w h => List.mem_cons_of_mem _ (List.mem_append_right _ h)) hown hK hP 0 rfl rfl 0 (by decide) (hts (.fieldLink RX7 7 "LeastNeedModel" "told" "[I") (List.mem_of_getElem? (i := 1) rfl)) (fun _ h9 => h9) rfl dX7_comesNow_6 ?_
  refine lv_bipush (v := (65 : Int32)) hx hb dX7_comesNow_9 (by decide) ?_
  refine lv_iload_n hx hb dX7_comesNow_11 rfl (lv_at hl 1 rfl) ?_
  refine lv_iadd hx hb dX7_comesNow_12 ?_
  obtain ⟨hi13, hd⟩ := dn_i hd
  refine k_iald (D := D) (k := ((65 : Int32) + p1).toNatClampNeg) (by rfl) hx hb hK hP 1 1 rfl rfl hi13 dX7_comesNow_13 ?_
  refine lv_aload_n hx hb dX7_comesNow_14 rfl (lv_at hl 0 rfl) ?_
  refine va_get (D := D) (ci := 5) (v := .ref (a 1)) (C := RX7) (T := TX7) (N := 25) hx hb hts (fun w h => List.mem_cons_of_mem _ (List.mem_append_right _ h)) hown hK hP 0 rfl rfl 0 (by decide) (hts (.fieldLink RX7 7 "LeastNeedModel" "told" "[I") (List.mem_of_getElem? (i := 1) rfl)) (fun _ h9 => h9) rfl dX7_comesNow_15 ?_
  refine lv_bipush (v := (70 : Int32)) hx hb dX7_comesNow_18 (by decide) ?_
  refine lv_iload_n hx hb dX7_comesNow_20 rfl (lv_at hl 1 rfl) ?_
  refine lv_iadd hx hb dX7_comesNow_21 ?_
  obtain ⟨hi22, hd⟩ := dn_i hd
  refine k_iald (D := D) (k := ((70 : Int32) + p1).toNatClampNeg) (by rfl) hx hb hK hP 1 1 rfl rfl hi22 dX7_comesNow_22 ?_
  refine lv_aload_n hx hb dX7_comesNow_23 rfl (lv_at hl 0 rfl) ?_
  refine va_get (D := D) (ci := 5) (v := .ref (a 1)) (C := RX7) (T := TX7) (N := 25) hx hb hts (fun w h => List.mem_cons_of_mem _ (List.mem_append_right _ h)) hown hK hP 0 rfl rfl 0 (by decide) (hts (.fieldLink RX7 7 "LeastNeedModel" "told" "[I") (List.mem_of_getElem? (i := 1) rfl)) (fun _ h9 => h9) rfl dX7_comesNow_24 ?_
  refine lv_bipush (v := (22 : Int32)) hx hb dX7_comesNow_27 (by decide) ?_
  refine k_iald (D := D) (k := 22) (by rfl) hx hb hK hP 1 1 rfl rfl (k_in (by decide)) dX7_comesNow_29 ?_
  refine lv_iload_n hx hb dX7_comesNow_30 rfl (lv_at hl 2 rfl) ?_
  obtain ⟨r31, hq31, hd⟩ := dn_b1 hd
  have hF := k_self hD hS hA
  refine k_run_i (va_runV (As := [.ref (a 1), .int (S 1 ((65 : Int32) + p1).toNatClampNeg), .int (S 1 ((70 : Int32) + p1).toNatClampNeg), .int (S 1 22), .int p2]) (rest := []) ⟨hx, hb, hml, hown, hts⟩ (mX7_comesTo_1 l D cs a S L (S 1 ((65 : Int32) + p1).toNatClampNeg) (S 1 ((70 : Int32) + p1).toNatClampNeg) (S 1 22) p2 r31 hq31 _) (cwV 5 hts gX7_comesNow_X7_comesTo rfl rfl rfl (by decide +kernel) ⟨Nat.le_of_ble_eq_true rfl, Nat.le_of_ble_eq_true rfl⟩) ⟨k_blind, va_recv hK hP (ci := 5) (q0 := 0) rfl rfl, k_pre hP hK hNn hD⟩ rfl rfl hl.1 rfl (lv_room (Nat.le_of_ble_eq_true rfl)) dX7_comesNow_31 ⟨Nat.le_of_ble_eq_true rfl, Nat.le_of_ble_eq_true rfl⟩) hS hF (fun H locs hP1 hk hS => ?_)
  have hP : va_P D vwCl (wX7 cs a S L) _ := hP1
  have hD := hDA S L
  have e1 := dn_s1 hd
  exact k_iret hx hb hr hQ hAe e1 rfl hP hS hlocks dX7_comesNow_34
-- LeastNeedModel.keep()V
set_option maxRecDepth 20000 in
def nX7_keep_l55 (x1_55 : Int32) (S_55 : Nat → Nat → Int32) (L : Nat → Nat → Int64) : Option ((Int32 × (Nat → Nat → Int32)) ⊕ ((Nat → Nat → Int32))) := if (18 : Int32) ≤ x1_55 then k_up (some (k_w S_55 1 4 ((S_55 1 4) + (1 : Int32)))) else if ((5 : Int32) + x1_55) < 0 ∨ 284 ≤ ((5 : Int32) + x1_55).toNatClampNeg then none else if (((140 : Int32) + ((18 : Int32) * (S_55 1 4))) + x1_55) < 0 ∨ 284 ≤ (((140 : Int32) + ((18 : Int32) * (S_55 1 4))) + x1_55).toNatClampNeg then none else some (.inl ((x1_55 + (1 : Int32)), (k_w S_55 1 ((((140 : Int32) + ((18 : Int32) * (S_55 1 4))) + x1_55).toNatClampNeg) (S_55 1 ((5 : Int32) + x1_55).toNatClampNeg))))
set_option maxRecDepth 20000 in
def nX7_keep_l13 (x1_13 : Int32) (S_13 : Nat → Nat → Int32) (L : Nat → Nat → Int64) : Option ((Int32 × (Nat → Nat → Int32)) ⊕ ((Nat → Nat → Int32))) := if (126 : Int32) ≤ x1_13 then k_up (k_it (fun st => nX7_keep_l55 st.1 st.2 L) 1000 ((0 : Int32), (k_w S_13 1 4 (7 : Int32)))) else if ((158 : Int32) + x1_13) < 0 ∨ 284 ≤ ((158 : Int32) + x1_13).toNatClampNeg then none else if ((140 : Int32) + x1_13) < 0 ∨ 284 ≤ ((140 : Int32) + x1_13).toNatClampNeg then none else some (.inl ((x1_13 + (1 : Int32)), (k_w S_13 1 (((140 : Int32) + x1_13).toNatClampNeg) (S_13 1 ((158 : Int32) + x1_13).toNatClampNeg))))
set_option maxRecDepth 20000 in
def nX7_keep (S : Nat → Nat → Int32) (L : Nat → Nat → Int64) : Option ((Nat → Nat → Int32)) := if (S 1 4) = (8 : Int32) then k_it (fun st => nX7_keep_l13 st.1 st.2 L) 1000 ((0 : Int32), S) else k_it (fun st => nX7_keep_l55 st.1 st.2 L) 1000 ((0 : Int32), S)
set_option maxHeartbeats 4000000 in
set_option maxRecDepth 100000 in
theorem mX7_keep (l : Launch) (D : va_G) (cs : Nat → ClassId) (a : Nat → Nat) (S : Nat → Nat → Int32) (L : Nat → Nat → Int64) (S9 : (Nat → Nat → Int32)) (hd : nX7_keep S L = some S9) : ∀ sz : Nat, Met l yX7_keep wsX7_keep ({ frames := 0, cells := 0, slots := 0, locals := 0 }) (k_Pc D cs [.ref (a 0)] (wX7 cs a S L) sz) (k_Qv D (wX7 cs a S L) (wX7 cs a S9 L) sz) 0 0 (va_A (wX7 cs a S L) sz) := by
  intro sz
  refine Met.ofW (cc := cX7_keep) (maxL := 2) (ret := none) (by decide) rfl ?_
  intro p e s m args below meth c s₁ B hml hv
  obtain ⟨rfl, hsz, hP, hK, hD0, hNn⟩ := hv
  have hx := B.exec
  have hb := B.bytes
  have hr := B.returns
  have hts := atoms_spec (ws := wsX7_keep) B.pre
  have hown : s.vm.findClass RX7 = some m.cls := findClass_of_methodNamed B.named
  have hlocks := B.notSynchronized
  subst hsz
  obtain ⟨A, hAe⟩ : ∃ A : Nat → Prop, A = va_A (wX7 cs a S L) s.heap.size := ⟨_, rfl⟩
  have hD : va_D A (wX7 cs a S L) := by rw [hAe]; exact hD0.self
  have hA : ∀ q : Nat, s.heap.size ≤ q → A q := fun q h => by rw [hAe]; exact Or.inr h
  have hS : va_S A s.heap s.heap [] := va_S.rf
  have hDA : ∀ (S : Nat → Nat → Int32) (L : Nat → Nat → Int64), va_D A (wX7 cs a S L) := fun S L => k_DA hD rfl
  have hl := lv_entry ([.ref (a 0)]) (n := 2) (Nat.le_of_ble_eq_true rfl)
  rw [lg_entry_eq]
  generalize (lg_sl ([.ref (a 0)]) ++ List.replicate (2 - (lg_sl ([.ref (a 0)])).length) Slot.unset).toArray = ls at hl ⊢
  have hl : lv_has ls 2 [(0, .ref (a 0))] := hl
  obtain ⟨Q, hQ⟩ : ∃ Q, Q = MQ below (k_Qv D (wX7 cs a S L) (wX7 cs a S9 L) s.heap.size) ([.ref (a 0)] : List Value).toArray s 0 0 (va_A (wX7 cs a S L) s.heap.size) := ⟨_, rfl⟩
  rw [← hQ]
  have Lo55 : ∀ (n1 : Nat) (x1_55 : Int32) (S_55 : Nat → Nat → Int32) (H : Heap) (locs : List Loc) (ls : Array Slot), k_it (fun st => nX7_keep_l55 st.1 st.2 L) n1 (x1_55, S_55) = some S9 → lv_has ls 2 [(0, .ref (a 0)), (1, .int x1_55)] → va_P D vwCl (wX7 cs a S_55 L) H → va_S A s.heap H locs → W p l e (headSpec wsX7_keep ({ frames := 0, cells := 0, slots := 0, locals := 0 })).room s m ([.ref (a 0)] : List Value).toArray below meth c H locs 0 0 Q (F0 m 55 ls []) := by
    intro n1
    induction n1 with
    | zero => intro x1_55 S_55 H locs ls hd; exact dn_it0 hd
    | succ n1 ih1 =>
      intro x1_55 S_55 H locs ls hd hl hP hS
      have hD := hDA S_55 L
      obtain ⟨y1, hd, hy1⟩ := dn_it hd
      have hd : nX7_keep_l55 x1_55 S_55 L = some y1 := hd
      unfold nX7_keep_l55 at hd
      refine lv_iload_n hx hb dX7_keep_55 rfl (lv_at hl 1 rfl) ?_
      refine lv_bipush (v := (18 : Int32)) hx hb dX7_keep_56 (by decide) ?_
      refine lv_icmp_ge (tgt := 95) hx hb dX7_keep_58 (by decide) (fun c58 => ?_) (fun c58 => ?_)
      · have hd := dn_t c58 hd
        have hd := dn_up hd hy1
        refine lv_aload_n hx hb dX7_keep_95 rfl (lv_at hl 0 rfl) ?_
        refine va_get (D := D) (ci := 5) (v := .ref (a 1)) (C := RX7) (T := TX7) (N := 25) hx hb hts (fun w h => List.mem_cons_of_mem _ (List.mem_append_right _ h)) hown hK hP 0 rfl rfl 0 (by decide) (hts (.fieldLink RX7 7 "LeastNeedModel" "told" "[I") (List.mem_of_getElem? (i := 1) rfl)) (fun _ h9 => h9) rfl dX7_keep_96 ?_
        refine lv_iconst (v := (4 : Int32)) hx hb dX7_keep_99 (by decide) ?_
        refine lv_dup2_11 hx hb dX7_keep_100 rfl rfl ?_
        refine k_iald (D := D) (k := 4) (by rfl) hx hb hK hP 1 1 rfl rfl (k_in (by decide)) dX7_keep_101 ?_
        refine lv_iconst (v := (1 : Int32)) hx hb dX7_keep_102 (by decide) ?_
        refine lv_iadd hx hb dX7_keep_103 ?_
        refine k_iast (D := D) (k := 4) (by rfl) hx hb hK hP hD hS 1 1 rfl rfl (k_in (by decide)) dX7_keep_104 (fun H locs hP hD hS => ?_)
        have hP : va_P D vwCl (wX7 cs a (k_w S_55 1 4 ((S_55 1 4) + (1 : Int32))) L) _ := k_eq hP (wsX7_a1 cs a S_55 L 4 ((S_55 1 4) + (1 : Int32)))
        have hD := hDA (k_w S_55 1 4 ((S_55 1 4) + (1 : Int32))) L
        have e1 := dn_s1 hd
        exact k_vret hx hb hr hQ hAe (by rw [e1]) hP hS hlocks dX7_keep_105
      · have hd := dn_f c58 hd
        refine lv_aload_n hx hb dX7_keep_61 rfl (lv_at hl 0 rfl) ?_
        refine va_get (D := D) (ci := 5) (v := .ref (a 1)) (C := RX7) (T := TX7) (N := 25) hx hb hts (fun w h => List.mem_cons_of_mem _ (List.mem_append_right _ h)) hown hK hP 0 rfl rfl 0 (by decide) (hts (.fieldLink RX7 7 "LeastNeedModel" "told" "[I") (List.mem_of_getElem? (i := 1) rfl)) (fun _ h9 => h9) rfl dX7_keep_62 ?_
        refine lv_sipush (v := (140 : Int32)) hx hb dX7_keep_65 (by decide) ?_
        refine lv_bipush (v := (18 : Int32)) hx hb dX7_keep_68 (by decide) ?_
        refine lv_aload_n hx hb dX7_keep_70 rfl (lv_at hl 0 rfl) ?_
        refine va_get (D := D) (ci := 5) (v := .ref (a 1)) (C := RX7) (T := TX7) (N := 25) hx hb hts (fun w h => List.mem_cons_of_mem _ (List.mem_append_right _ h)) hown hK hP 0 rfl rfl 0 (by decide) (hts (.fieldLink RX7 7 "LeastNeedModel" "told" "[I") (List.mem_of_getElem? (i := 1) rfl)) (fun _ h9 => h9) rfl dX7_keep_71 ?_
        refine lv_iconst (v := (4 : Int32)) hx hb dX7_keep_74 (by decide) ?_
        refine k_iald (D := D) (k := 4) (by rfl) hx hb hK hP 1 1 rfl rfl (k_in (by decide)) dX7_keep_75 ?_
        refine lv_imul hx hb dX7_keep_76 ?_
        refine lv_iadd hx hb dX7_keep_77 ?_
        refine lv_iload_n hx hb dX7_keep_78 rfl (lv_at hl 1 rfl) ?_
        refine lv_iadd hx hb dX7_keep_79 ?_
        refine lv_aload_n hx hb dX7_keep_80 rfl (lv_at hl 0 rfl) ?_
        refine va_get (D := D) (ci := 5) (v := .ref (a 1)) (C := RX7) (T := TX7) (N := 25) hx hb hts (fun w h => List.mem_cons_of_mem _ (List.mem_append_right _ h)) hown hK hP 0 rfl rfl 0 (by decide) (hts (.fieldLink RX7 7 "LeastNeedModel" "told" "[I") (List.mem_of_getElem? (i := 1) rfl)) (fun _ h9 => h9) rfl dX7_keep_81 ?_
        refine lv_iconst (v := (5 : Int32)) hx hb dX7_keep_84 (by decide) ?_
        refine lv_iload_n hx hb dX7_keep_85 rfl (lv_at hl 1 rfl) ?_
        refine lv_iadd hx hb dX7_keep_86 ?_
        obtain ⟨hi87, hd⟩ := dn_i hd
        refine k_iald (D := D) (k := ((5 : Int32) + x1_55).toNatClampNeg) (by rfl) hx hb hK hP 1 1 rfl rfl hi87 dX7_keep_87 ?_
        obtain ⟨hi88, hd⟩ := dn_i hd
        refine k_iast (D := D) (k := (((140 : Int32) + ((18 : Int32) * (S_55 1 4))) + x1_55).toNatClampNeg) (by rfl) hx hb hK hP hD hS 1 1 rfl rfl hi88 dX7_keep_88 (fun H locs hP hD hS => ?_)
        have hP : va_P D vwCl (wX7 cs a (k_w S_55 1 ((((140 : Int32) + ((18 : Int32) * (S_55 1 4))) + x1_55).toNatClampNeg) (S_55 1 ((5 : Int32) + x1_55).toNatClampNeg)) L) _ := k_eq hP (wsX7_a1 cs a S_55 L ((((140 : Int32) + ((18 : Int32) * (S_55 1 4))) + x1_55).toNatClampNeg) (S_55 1 ((5 : Int32) + x1_55).toNatClampNeg))
        have hD := hDA (k_w S_55 1 ((((140 : Int32) + ((18 : Int32) * (S_55 1 4))) + x1_55).toNatClampNeg) (S_55 1 ((5 : Int32) + x1_55).toNatClampNeg)) L
        refine lv_iinc (v := x1_55 + (1 : Int32)) (lv' := [(1, .int (x1_55 + (1 : Int32))), (0, .ref (a 0))]) hx hb dX7_keep_89 hl (k := 1) rfl rfl (by decide) rfl (fun ls hl => ?_)
        refine lv_goto (tgt := 55) hx hb dX7_keep_92 (by decide) ?_
        exact ih1 (x1_55 + (1 : Int32)) (k_w S_55 1 ((((140 : Int32) + ((18 : Int32) * (S_55 1 4))) + x1_55).toNatClampNeg) (S_55 1 ((5 : Int32) + x1_55).toNatClampNeg)) _ _ _ (dn_bk hd hy1) (lv_sub hl [1, 0] rfl) hP hS
  have Lo13 : ∀ (n1 : Nat) (x1_13 : Int32) (S_13 : Nat → Nat → Int32) (H : Heap) (locs : List Loc) (ls : Array Slot), k_it (fun st => nX7_keep_l13 st.1 st.2 L) n1 (x1_13, S_13) = some S9 → lv_has ls 2 [(0, .ref (a 0)), (1, .int x1_13)] → va_P D vwCl (wX7 cs a S_13 L) H → va_S A s.heap H locs → W p l e (headSpec wsX7_keep ({ frames := 0, cells := 0, slots := 0, locals := 0 })).room s m ([.ref (a 0)] : List Value).toArray below meth c H locs 0 0 Q (F0 m 13 ls []) := by
    intro n1
    induction n1 with
    | zero => intro x1_13 S_13 H locs ls hd; exact dn_it0 hd
    | succ n1 ih1 =>
      intro x1_13 S_13 H locs ls hd hl hP hS
      have hD := hDA S_13 L
      obtain ⟨y1, hd, hy1⟩ := dn_it hd
      have hd : nX7_keep_l13 x1_13 S_13 L = some y1 := hd
      unfold nX7_keep_l13 at hd
      refine lv_iload_n hx hb dX7_keep_13 rfl (lv_at hl 1 rfl) ?_
      refine lv_bipush (v := (126 : Int32)) hx hb dX7_keep_14 (by decide) ?_
      refine lv_icmp_ge (tgt := 45) hx hb dX7_keep_16 (by decide) (fun c16 => ?_) (fun c16 => ?_)
      · have hd := dn_t c16 hd
        have hd := dn_up hd hy1
        refine lv_aload_n hx hb dX7_keep_45 rfl (lv_at hl 0 rfl) ?_
        refine va_get (D := D) (ci := 5) (v := .ref (a 1)) (C := RX7) (T := TX7) (N := 25) hx hb hts (fun w h => List.mem_cons_of_mem _ (List.mem_append_right _ h)) hown hK hP 0 rfl rfl 0 (by decide) (hts (.fieldLink RX7 7 "LeastNeedModel" "told" "[I") (List.mem_of_getElem? (i := 1) rfl)) (fun _ h9 => h9) rfl dX7_keep_46 ?_
        refine lv_iconst (v := (4 : Int32)) hx hb dX7_keep_49 (by decide) ?_
        refine lv_bipush (v := (7 : Int32)) hx hb dX7_keep_50 (by decide) ?_
        refine k_iast (D := D) (k := 4) (by rfl) hx hb hK hP hD hS 1 1 rfl rfl (k_in (by decide)) dX7_keep_52 (fun H locs hP hD hS => ?_)
        have hP : va_P D vwCl (wX7 cs a (k_w S_13 1 4 (7 : Int32)) L) _ := k_eq hP (wsX7_a1 cs a S_13 L 4 (7 : Int32))
        have hD := hDA (k_w S_13 1 4 (7 : Int32)) L
        refine lv_iconst (v := (0 : Int32)) hx hb dX7_keep_53 (by decide) ?_
        refine lv_istore_n (lv' := [(1, .int (0 : Int32)), (0, .ref (a 0))]) hx hb dX7_keep_54 rfl hl (by decide) rfl (fun ls hl => ?_)
        exact Lo55 1000 (0 : Int32) (k_w S_13 1 4 (7 : Int32)) _ _ _ hd (lv_sub hl [1, 0] rfl) hP hS
      · have hd := dn_f c16 hd
        refine lv_aload_n hx hb dX7_keep_19 rfl (lv_at hl 0 rfl) ?_
        refine va_get (D := D) (ci := 5) (v := .ref (a 1)) (C := RX7) (T := TX7) (N := 25) hx hb hts (fun w h => List.mem_cons_of_mem _ (List.mem_append_right _ h)) hown hK hP 0 rfl rfl 0 (by decide) (hts (.fieldLink RX7 7 "LeastNeedModel" "told" "[I") (List.mem_of_getElem? (i := 1) rfl)) (fun _ h9 => h9) rfl dX7_keep_20 ?_
        refine lv_sipush (v := (140 : Int32)) hx hb dX7_keep_23 (by decide) ?_
        refine lv_iload_n hx hb dX7_keep_26 rfl (lv_at hl 1 rfl) ?_
        refine lv_iadd hx hb dX7_keep_27 ?_
        refine lv_aload_n hx hb dX7_keep_28 rfl (lv_at hl 0 rfl) ?_
        refine va_get (D := D) (ci := 5) (v := .ref (a 1)) (C := RX7) (T := TX7) (N := 25) hx hb hts (fun w h => List.mem_cons_of_mem _ (List.mem_append_right _ h)) hown hK hP 0 rfl rfl 0 (by decide) (hts (.fieldLink RX7 7 "LeastNeedModel" "told" "[I") (List.mem_of_getElem? (i := 1) rfl)) (fun _ h9 => h9) rfl dX7_keep_29 ?_
        refine lv_sipush (v := (158 : Int32)) hx hb dX7_keep_32 (by decide) ?_
        refine lv_iload_n hx hb dX7_keep_35 rfl (lv_at hl 1 rfl) ?_
        refine lv_iadd hx hb dX7_keep_36 ?_
        obtain ⟨hi37, hd⟩ := dn_i hd
        refine k_iald (D := D) (k := ((158 : Int32) + x1_13).toNatClampNeg) (by rfl) hx hb hK hP 1 1 rfl rfl hi37 dX7_keep_37 ?_
        obtain ⟨hi38, hd⟩ := dn_i hd
        refine k_iast (D := D) (k := ((140 : Int32) + x1_13).toNatClampNeg) (by rfl) hx hb hK hP hD hS 1 1 rfl rfl hi38 dX7_keep_38 (fun H locs hP hD hS => ?_)
        have hP : va_P D vwCl (wX7 cs a (k_w S_13 1 (((140 : Int32) + x1_13).toNatClampNeg) (S_13 1 ((158 : Int32) + x1_13).toNatClampNeg)) L) _ := k_eq hP (wsX7_a1 cs a S_13 L (((140 : Int32) + x1_13).toNatClampNeg) (S_13 1 ((158 : Int32) + x1_13).toNatClampNeg))
        have hD := hDA (k_w S_13 1 (((140 : Int32) + x1_13).toNatClampNeg) (S_13 1 ((158 : Int32) + x1_13).toNatClampNeg)) L
        refine lv_iinc (v := x1_13 + (1 : Int32)) (lv' := [(1, .int (x1_13 + (1 : Int32))), (0, .ref (a 0))]) hx hb dX7_keep_39 hl (k := 1) rfl rfl (by decide) rfl (fun ls hl => ?_)
        refine lv_goto (tgt := 13) hx hb dX7_keep_42 (by decide) ?_
        exact ih1 (x1_13 + (1 : Int32)) (k_w S_13 1 (((140 : Int32) + x1_13).toNatClampNeg) (S_13 1 ((158 : Int32) + x1_13).toNatClampNeg)) _ _ _ (dn_bk hd hy1) (lv_sub hl [1, 0] rfl) hP hS
  unfold nX7_keep at hd
  refine lv_aload_n hx hb dX7_keep_0 rfl (lv_at hl 0 rfl) ?_
  refine va_get (D := D) (ci := 5) (v := .ref (a 1)) (C := RX7) (T := TX7) (N := 25) hx hb hts (fun w h => List.mem_cons_of_mem _ (List.mem_append_right _ h)) hown hK hP 0 rfl rfl 0 (by decide) (hts (.fieldLink RX7 7 "LeastNeedModel" "told" "[I") (List.mem_of_getElem? (i := 1) rfl)) (fun _ h9 => h9) rfl dX7_keep_1 ?_
  refine lv_iconst (v := (4 : Int32)) hx hb dX7_keep_4 (by decide) ?_
  refine k_iald (D := D) (k := 4) (by rfl) hx hb hK hP 1 1 rfl rfl (k_in (by decide)) dX7_keep_5 ?_
  refine lv_bipush (v := (8 : Int32)) hx hb dX7_keep_6 (by decide) ?_
  refine lv_icmp_ne (tgt := 53) hx hb dX7_keep_8 (by decide) (fun c8 => ?_) (fun c8 => ?_)
  · have hd := dn_f c8 hd
    refine lv_iconst (v := (0 : Int32)) hx hb dX7_keep_53 (by decide) ?_
    refine lv_istore_n (lv' := [(1, .int (0 : Int32)), (0, .ref (a 0))]) hx hb dX7_keep_54 rfl hl (by decide) rfl (fun ls hl => ?_)
    exact Lo55 1000 (0 : Int32) S _ _ _ hd (lv_sub hl [1, 0] rfl) hP hS
  · have hd := dn_t c8 hd
    refine lv_iconst (v := (0 : Int32)) hx hb dX7_keep_11 (by decide) ?_
    refine lv_istore_n (lv' := [(1, .int (0 : Int32)), (0, .ref (a 0))]) hx hb dX7_keep_12 rfl hl (by decide) rfl (fun ls hl => ?_)
    exact Lo13 1000 (0 : Int32) S _ _ _ hd (lv_sub hl [1, 0] rfl) hP hS
-- LeastNeedModel.lose(I)I
set_option maxRecDepth 20000 in
def nX7_lose (S : Nat → Nat → Int32) (L : Nat → Nat → Int64) (p1 : Int32) : Option (Int32 × (Nat → Nat → Int32)) := k_b1 (nX7_isThing S L p1) (fun r2 => if r2 = 0 then k_b2 (nX7_bad S L (-2 : Int32)) (fun r11 S11 => some (r11, S11)) else if ((10 : Int32) + p1) < 0 ∨ 284 ≤ ((10 : Int32) + p1).toNatClampNeg then none else if (S 1 ((10 : Int32) + p1).toNatClampNeg) = 0 then k_b1 (nX7_keep S L) (fun S33 => if ((10 : Int32) + p1) < 0 ∨ 284 ≤ ((10 : Int32) + p1).toNatClampNeg then none else if ((5 : Int32) + p1) < 0 ∨ 284 ≤ ((5 : Int32) + p1).toNatClampNeg then none else some (((k_w S33 1 (((10 : Int32) + p1).toNatClampNeg) (1 : Int32)) 1 ((5 : Int32) + p1).toNatClampNeg), (k_w S33 1 (((10 : Int32) + p1).toNatClampNeg) (1 : Int32)))) else k_b2 (nX7_no S L) (fun r28 S28 => some (r28, S28)))
set_option maxHeartbeats 4000000 in
set_option maxRecDepth 100000 in
theorem mX7_lose (l : Launch) (D : va_G) (cs : Nat → ClassId) (a : Nat → Nat) (S : Nat → Nat → Int32) (L : Nat → Nat → Int64) (p1 : Int32) (r9 : Int32) (S9 : (Nat → Nat → Int32)) (hd : nX7_lose S L p1 = some (r9, S9)) : ∀ sz : Nat, Met l yX7_lose wsX7_lose ({ frames := 2, cells := 0, slots := 0, locals := 46 }) (k_Pc D cs [.ref (a 0), .int p1] (wX7 cs a S L) sz) (k_Qi D r9 (wX7 cs a S L) (wX7 cs a S9 L) sz) 0 0 (va_A (wX7 cs a S L) sz) := by
  intro sz
  refine Met.ofW (cc := cX7_lose) (maxL := 2) (ret := (some .int)) (by decide) rfl ?_
  intro p e s m args below meth c s₁ B hml hv
  obtain ⟨rfl, hsz, hP, hK, hD0, hNn⟩ := hv
  have hx := B.exec
  have hb := B.bytes
  have hr := B.returns
  have hts := atoms_spec (ws := wsX7_lose) B.pre
  have hown : s.vm.findClass RX7 = some m.cls := findClass_of_methodNamed B.named
  have hlocks := B.notSynchronized
  subst hsz
  obtain ⟨A, hAe⟩ : ∃ A : Nat → Prop, A = va_A (wX7 cs a S L) s.heap.size := ⟨_, rfl⟩
  have hD : va_D A (wX7 cs a S L) := by rw [hAe]; exact hD0.self
  have hA : ∀ q : Nat, s.heap.size ≤ q → A q := fun q h => by rw [hAe]; exact Or.inr h
  have hS : va_S A s.heap s.heap [] := va_S.rf
  have hDA : ∀ (S : Nat → Nat → Int32) (L : Nat → Nat → Int64), va_D A (wX7 cs a S L) := fun S L => k_DA hD rfl
  have hl := lv_entry ([.ref (a 0), .int p1]) (n := 2) (Nat.le_of_ble_eq_true rfl)
  rw [lg_entry_eq]
  generalize (lg_sl ([.ref (a 0), .int p1]) ++ List.replicate (2 - (lg_sl ([.ref (a 0), .int p1])).length) Slot.unset).toArray = ls at hl ⊢
  have hl : lv_has ls 2 [(0, .ref (a 0)), (1, .int p1)] := hl
  obtain ⟨Q, hQ⟩ : ∃ Q, Q = MQ below (k_Qi D r9 (wX7 cs a S L) (wX7 cs a S9 L) s.heap.size) ([.ref (a 0), .int p1] : List Value).toArray s 0 0 (va_A (wX7 cs a S L) s.heap.size) := ⟨_, rfl⟩
  rw [← hQ]
  unfold nX7_lose at hd
  refine lv_aload_n hx hb dX7_lose_0 rfl (lv_at hl 0 rfl) ?_
  refine lv_iload_n hx hb dX7_lose_1 rfl (lv_at hl 1 rfl) ?_
  obtain ⟨r2, hq2, hd⟩ := dn_b1 hd
  have hF := k_self hD hS hA
  refine k_run_i (va_runV (As := [.int p1]) (rest := []) ⟨hx, hb, hml, hown, hts⟩ (mX7_isThing l D cs a S L p1 r2 hq2 _) (cwV 1 hts gX7_lose_X7_isThing rfl rfl rfl (by decide +kernel) ⟨Nat.le_of_ble_eq_true rfl, Nat.le_of_ble_eq_true rfl⟩) ⟨k_blind, va_recv hK hP (ci := 5) (q0 := 0) rfl rfl, k_pre hP hK hNn hD⟩ rfl rfl hl.1 rfl (lv_room (Nat.le_of_ble_eq_true rfl)) dX7_lose_2 ⟨Nat.le_of_ble_eq_true rfl, Nat.le_of_ble_eq_true rfl⟩) hS hF (fun H locs hP1 hk hS => ?_)
  have hP : va_P D vwCl (wX7 cs a S L) _ := hP1
  have hD := hDA S L
  refine lv_if_ne (tgt := 15) hx hb dX7_lose_5 (by decide) (fun c5 => ?_) (fun c5 => ?_)
  · have hd := dn_f c5 hd
    refine lv_aload_n hx hb dX7_lose_15 rfl (lv_at hl 0 rfl) ?_
    refine va_get (D := D) (ci := 5) (v := .ref (a 1)) (C := RX7) (T := TX7) (N := 25) hx hb hts (fun w h => List.mem_cons_of_mem _ (List.mem_append_right _ h)) hown hK hP 0 rfl rfl 0 (by decide) (hts (.fieldLink RX7 7 "LeastNeedModel" "told" "[I") (List.mem_of_getElem? (i := 1) rfl)) (fun _ h9 => h9) rfl dX7_lose_16 ?_
    refine lv_bipush (v := (10 : Int32)) hx hb dX7_lose_19 (by decide) ?_
    refine lv_iload_n hx hb dX7_lose_21 rfl (lv_at hl 1 rfl) ?_
    refine lv_iadd hx hb dX7_lose_22 ?_
    obtain ⟨hi23, hd⟩ := dn_i hd
    refine k_iald (D := D) (k := ((10 : Int32) + p1).toNatClampNeg) (by rfl) hx hb hK hP 1 1 rfl rfl hi23 dX7_lose_23 ?_
    refine lv_if_eq (tgt := 32) hx hb dX7_lose_24 (by decide) (fun c24 => ?_) (fun c24 => ?_)
    · have hd := dn_t c24 hd
      refine lv_aload_n hx hb dX7_lose_32 rfl (lv_at hl 0 rfl) ?_
      obtain ⟨S33, hq33, hd⟩ := dn_b1 hd
      have hF := k_self hD hS hA
      refine k_run_v (va_runV (As := []) (rest := []) ⟨hx, hb, hml, hown, hts⟩ (mX7_keep l D cs a S L S33 hq33 _) (cwV 0 hts gX7_lose_X7_keep rfl rfl rfl (by decide +kernel) ⟨Nat.le_of_ble_eq_true rfl, Nat.le_of_ble_eq_true rfl⟩) ⟨k_blind, va_recv hK hP (ci := 5) (q0 := 0) rfl rfl, k_pre hP hK hNn hD⟩ rfl rfl hl.1 rfl (lv_room (Nat.le_of_ble_eq_true rfl)) dX7_lose_33 ⟨Nat.le_of_ble_eq_true rfl, Nat.le_of_ble_eq_true rfl⟩) hS hF (fun H locs hP1 hk hS => ?_)
      have hP : va_P D vwCl (wX7 cs a S33 L) _ := hP1
      have hD := hDA S33 L
      refine lv_aload_n hx hb dX7_lose_36 rfl (lv_at hl 0 rfl) ?_
      refine va_get (D := D) (ci := 5) (v := .ref (a 1)) (C := RX7) (T := TX7) (N := 25) hx hb hts (fun w h => List.mem_cons_of_mem _ (List.mem_append_right _ h)) hown hK hP 0 rfl rfl 0 (by decide) (hts (.fieldLink RX7 7 "LeastNeedModel" "told" "[I") (List.mem_of_getElem? (i := 1) rfl)) (fun _ h9 => h9) rfl dX7_lose_37 ?_
      refine lv_bipush (v := (10 : Int32)) hx hb dX7_lose_40 (by decide) ?_
      refine lv_iload_n hx hb dX7_lose_42 rfl (lv_at hl 1 rfl) ?_
      refine lv_iadd hx hb dX7_lose_43 ?_
      refine lv_iconst (v := (1 : Int32)) hx hb dX7_lose_44 (by decide) ?_
      obtain ⟨hi45, hd⟩ := dn_i hd
      refine k_iast (D := D) (k := ((10 : Int32) + p1).toNatClampNeg) (by rfl) hx hb hK hP hD hS 1 1 rfl rfl hi45 dX7_lose_45 (fun H locs hP hD hS => ?_)
      have hP : va_P D vwCl (wX7 cs a (k_w S33 1 (((10 : Int32) + p1).toNatClampNeg) (1 : Int32)) L) _ := k_eq hP (wsX7_a1 cs a S33 L (((10 : Int32) + p1).toNatClampNeg) (1 : Int32))
      have hD := hDA (k_w S33 1 (((10 : Int32) + p1).toNatClampNeg) (1 : Int32)) L
      refine lv_aload_n hx hb dX7_lose_46 rfl (lv_at hl 0 rfl) ?_
      refine va_get (D := D) (ci := 5) (v := .ref (a 1)) (C := RX7) (T := TX7) (N := 25) hx hb hts (fun w h => List.mem_cons_of_mem _ (List.mem_append_right _ h)) hown hK hP 0 rfl rfl 0 (by decide) (hts (.fieldLink RX7 7 "LeastNeedModel" "told" "[I") (List.mem_of_getElem? (i := 1) rfl)) (fun _ h9 => h9) rfl dX7_lose_47 ?_
      refine lv_iconst (v := (5 : Int32)) hx hb dX7_lose_50 (by decide) ?_
      refine lv_iload_n hx hb dX7_lose_51 rfl (lv_at hl 1 rfl) ?_
      refine lv_iadd hx hb dX7_lose_52 ?_
      obtain ⟨hi53, hd⟩ := dn_i hd
      refine k_iald (D := D) (k := ((5 : Int32) + p1).toNatClampNeg) (by rfl) hx hb hK hP 1 1 rfl rfl hi53 dX7_lose_53 ?_
      obtain ⟨e1, e2⟩ := dn_s2 hd
      exact k_iret hx hb hr hQ hAe e1 (by rw [e2]) hP hS hlocks dX7_lose_54
    · have hd := dn_f c24 hd
      refine lv_aload_n hx hb dX7_lose_27 rfl (lv_at hl 0 rfl) ?_
      obtain ⟨r28, S28, hq28, hd⟩ := dn_b2 hd
      have hF := k_self hD hS hA
      refine k_run_i (va_runV (As := []) (rest := []) ⟨hx, hb, hml, hown, hts⟩ (mX7_no l D cs a S L r28 S28 hq28 _) (cwV 0 hts gX7_lose_X7_no rfl rfl rfl (by decide +kernel) ⟨Nat.le_of_ble_eq_true rfl, Nat.le_of_ble_eq_true rfl⟩) ⟨k_blind, va_recv hK hP (ci := 5) (q0 := 0) rfl rfl, k_pre hP hK hNn hD⟩ rfl rfl hl.1 rfl (lv_room (Nat.le_of_ble_eq_true rfl)) dX7_lose_28 ⟨Nat.le_of_ble_eq_true rfl, Nat.le_of_ble_eq_true rfl⟩) hS hF (fun H locs hP1 hk hS => ?_)
      have hP : va_P D vwCl (wX7 cs a S28 L) _ := hP1
      have hD := hDA S28 L
      obtain ⟨e1, e2⟩ := dn_s2 hd
      exact k_iret hx hb hr hQ hAe e1 (by rw [e2]) hP hS hlocks dX7_lose_31
  · have hd := dn_t c5 hd
    refine lv_aload_n hx hb dX7_lose_8 rfl (lv_at hl 0 rfl) ?_
    refine lv_bipush (v := (-2 : Int32)) hx hb dX7_lose_9 (by decide) ?_
    obtain ⟨r11, S11, hq11, hd⟩ := dn_b2 hd
    have hF := k_self hD hS hA
    refine k_run_i (va_runV (As := [.int (-2 : Int32)]) (rest := []) ⟨hx, hb, hml, hown, hts⟩ (mX7_bad l D cs a S L (-2 : Int32) r11 S11 hq11 _) (cwV 1 hts gX7_lose_X7_bad rfl rfl rfl (by decide +kernel) ⟨Nat.le_of_ble_eq_true rfl, Nat.le_of_ble_eq_true rfl⟩) ⟨k_blind, va_recv hK hP (ci := 5) (q0 := 0) rfl rfl, k_pre hP hK hNn hD⟩ rfl rfl hl.1 rfl (lv_room (Nat.le_of_ble_eq_true rfl)) dX7_lose_11 ⟨Nat.le_of_ble_eq_true rfl, Nat.le_of_ble_eq_true rfl⟩) hS hF (fun H locs hP1 hk hS => ?_)
    have hP : va_P D vwCl (wX7 cs a S11 L) _ := hP1
    have hD := hDA S11 L
    obtain ⟨e1, e2⟩ := dn_s2 hd
    exact k_iret hx hb hr hQ hAe e1 (by rw [e2]) hP hS hlocks dX7_lose_14
-- LeastNeedModel.asked(I)I
set_option maxRecDepth 20000 in
def nX7_asked (S : Nat → Nat → Int32) (L : Nat → Nat → Int64) (p1 : Int32) : Option (Int32) := if ((5 : Int32) + p1) < 0 ∨ 284 ≤ ((5 : Int32) + p1).toNatClampNeg then none else if ((23 : Int32) + (S 1 ((5 : Int32) + p1).toNatClampNeg)) < 0 ∨ 284 ≤ ((23 : Int32) + (S 1 ((5 : Int32) + p1).toNatClampNeg)).toNatClampNeg then none else if ((70 : Int32) + p1) < 0 ∨ 284 ≤ ((70 : Int32) + p1).toNatClampNeg then none else k_b1 (nX7_showsOn_1 S L (S 1 ((5 : Int32) + p1).toNatClampNeg) (S 1 ((70 : Int32) + p1).toNatClampNeg) (S 1 22)) (fun r40 => k_b1 (nX7_asksAs (S 1 ((23 : Int32) + (S 1 ((5 : Int32) + p1).toNatClampNeg)).toNatClampNeg) r40) (fun r43 => some r43))
set_option maxHeartbeats 4000000 in
set_option maxRecDepth 100000 in
theorem mX7_asked (l : Launch) (D : va_G) (cs : Nat → ClassId) (a : Nat → Nat) (S : Nat → Nat → Int32) (L : Nat → Nat → Int64) (p1 : Int32) (r9 : Int32) (hd : nX7_asked S L p1 = some r9) : ∀ sz : Nat, Met l yX7_asked wsX7_asked ({ frames := 2, cells := 0, slots := 0, locals := 49 }) (k_Pc D cs [.ref (a 0), .int p1] (wX7 cs a S L) sz) (k_Qi D r9 (wX7 cs a S L) (wX7 cs a S L) sz) 0 0 (va_A (wX7 cs a S L) sz) := by
  intro sz
  refine Met.ofW (cc := cX7_asked) (maxL := 3) (ret := (some .int)) (by decide) rfl ?_
  intro p e s m args below meth c s₁ B hml hv
  obtain ⟨rfl, hsz, hP, hK, hD0, hNn⟩ := hv
  have hx := B.exec
  have hb := B.bytes
  have hr := B.returns
  have hts := atoms_spec (ws := wsX7_asked) B.pre
  have hown : s.vm.findClass RX7 = some m.cls := findClass_of_methodNamed B.named
  have hlocks := B.notSynchronized
  subst hsz
  obtain ⟨A, hAe⟩ : ∃ A : Nat → Prop, A = va_A (wX7 cs a S L) s.heap.size := ⟨_, rfl⟩
  have hD : va_D A (wX7 cs a S L) := by rw [hAe]; exact hD0.self
  have hA : ∀ q : Nat, s.heap.size ≤ q → A q := fun q h => by rw [hAe]; exact Or.inr h
  have hS : va_S A s.heap s.heap [] := va_S.rf
  have hDA : ∀ (S : Nat → Nat → Int32) (L : Nat → Nat → Int64), va_D A (wX7 cs a S L) := fun S L => k_DA hD rfl
  have hl := lv_entry ([.ref (a 0), .int p1]) (n := 3) (Nat.le_of_ble_eq_true rfl)
  rw [lg_entry_eq]
  generalize (lg_sl ([.ref (a 0), .int p1]) ++ List.replicate (3 - (lg_sl ([.ref (a 0), .int p1])).length) Slot.unset).toArray = ls at hl ⊢
  have hl : lv_has ls 3 [(0, .ref (a 0)), (1, .int p1)] := hl
  obtain ⟨Q, hQ⟩ : ∃ Q, Q = MQ below (k_Qi D r9 (wX7 cs a S L) (wX7 cs a S L) s.heap.size) ([.ref (a 0), .int p1] : List Value).toArray s 0 0 (va_A (wX7 cs a S L) s.heap.size) := ⟨_, rfl⟩
  rw [← hQ]
  unfold nX7_asked at hd
  refine lv_aload_n hx hb dX7_asked_0 rfl (lv_at hl 0 rfl) ?_
  refine va_get (D := D) (ci := 5) (v := .ref (a 1)) (C := RX7) (T := TX7) (N := 25) hx hb hts (fun w h => List.mem_cons_of_mem _ (List.mem_append_right _ h)) hown hK hP 0 rfl rfl 0 (by decide) (hts (.fieldLink RX7 7 "LeastNeedModel" "told" "[I") (List.mem_of_getElem? (i := 1) rfl)) (fun _ h9 => h9) rfl dX7_asked_1 ?_
  refine lv_iconst (v := (5 : Int32)) hx hb dX7_asked_4 (by decide) ?_
  refine lv_iload_n hx hb dX7_asked_5 rfl (lv_at hl 1 rfl) ?_
  refine lv_iadd hx hb dX7_asked_6 ?_
  obtain ⟨hi7, hd⟩ := dn_i hd
  refine k_iald (D := D) (k := ((5 : Int32) + p1).toNatClampNeg) (by rfl) hx hb hK hP 1 1 rfl rfl hi7 dX7_asked_7 ?_
  refine lv_istore_n (lv' := [(2, .int (S 1 ((5 : Int32) + p1).toNatClampNeg)), (0, .ref (a 0)), (1, .int p1)]) hx hb dX7_asked_8 rfl hl (by decide) rfl (fun ls hl => ?_)
  refine lv_aload_n hx hb dX7_asked_9 rfl (lv_at hl 1 rfl) ?_
  refine va_get (D := D) (ci := 5) (v := .ref (a 1)) (C := RX7) (T := TX7) (N := 25) hx hb hts (fun w h => List.mem_cons_of_mem _ (List.mem_append_right _ h)) hown hK hP 0 rfl rfl 0 (by decide) (hts (.fieldLink RX7 7 "LeastNeedModel" "told" "[I") (List.mem_of_getElem? (i := 1) rfl)) (fun _ h9 => h9) rfl dX7_asked_10 ?_
  refine lv_bipush (v := (23 : Int32)) hx hb dX7_asked_13 (by decide) ?_
  refine lv_iload_n hx hb dX7_asked_15 rfl (lv_at hl 0 rfl) ?_
  refine lv_iadd hx hb dX7_asked_16 ?_
  obtain ⟨hi17, hd⟩ := dn_i hd
  refine k_iald (D := D) (k := ((23 : Int32) + (S 1 ((5 : Int32) + p1).toNatClampNeg)).toNatClampNeg) (by rfl) hx hb hK hP 1 1 rfl rfl hi17 dX7_asked_17 ?_
  refine lv_aload_n hx hb dX7_asked_18 rfl (lv_at hl 1 rfl) ?_
  refine lv_aload_n hx hb dX7_asked_19 rfl (lv_at hl 1 rfl) ?_
  refine va_get (D := D) (ci := 5) (v := .ref (a 1)) (C := RX7) (T := TX7) (N := 25) hx hb hts (fun w h => List.mem_cons_of_mem _ (List.mem_append_right _ h)) hown hK hP 0 rfl rfl 0 (by decide) (hts (.fieldLink RX7 7 "LeastNeedModel" "told" "[I") (List.mem_of_getElem? (i := 1) rfl)) (fun _ h9 => h9) rfl dX7_asked_20 ?_
  refine lv_iload_n hx hb dX7_asked_23 rfl (lv_at hl 0 rfl) ?_
  refine lv_aload_n hx hb dX7_asked_24 rfl (lv_at hl 1 rfl) ?_
  refine va_get (D := D) (ci := 5) (v := .ref (a 1)) (C := RX7) (T := TX7) (N := 25) hx hb hts (fun w h => List.mem_cons_of_mem _ (List.mem_append_right _ h)) hown hK hP 0 rfl rfl 0 (by decide) (hts (.fieldLink RX7 7 "LeastNeedModel" "told" "[I") (List.mem_of_getElem? (i := 1) rfl)) (fun _ h9 => h9) rfl dX7_asked_25 ?_
  refine lv_bipush (v := (70 : Int32)) hx hb dX7_asked_28 (by decide) ?_
  refine lv_iload_n hx hb dX7_asked_30 rfl (lv_at hl 2 rfl) ?_
  refine lv_iadd hx hb dX7_asked_31 ?_
  obtain ⟨hi32, hd⟩ := dn_i hd
  refine k_iald (D := D) (k := ((70 : Int32) + p1).toNatClampNeg) (by rfl) hx hb hK hP 1 1 rfl rfl hi32 dX7_asked_32 ?_
  refine lv_aload_n hx hb dX7_asked_33 rfl (lv_at hl 1 rfl) ?_
  refine va_get (D := D) (ci := 5) (v := .ref (a 1)) (C := RX7) (T := TX7) (N := 25) hx hb hts (fun w h => List.mem_cons_of_mem _ (List.mem_append_right _ h)) hown hK hP 0 rfl rfl 0 (by decide) (hts (.fieldLink RX7 7 "LeastNeedModel" "told" "[I") (List.mem_of_getElem? (i := 1) rfl)) (fun _ h9 => h9) rfl dX7_asked_34 ?_
  refine lv_bipush (v := (22 : Int32)) hx hb dX7_asked_37 (by decide) ?_
  refine k_iald (D := D) (k := 22) (by rfl) hx hb hK hP 1 1 rfl rfl (k_in (by decide)) dX7_asked_39 ?_
  obtain ⟨r40, hq40, hd⟩ := dn_b1 hd
  have hF := k_self hD hS hA
  refine k_run_i (va_runV (As := [.ref (a 1), .int (S 1 ((5 : Int32) + p1).toNatClampNeg), .int (S 1 ((70 : Int32) + p1).toNatClampNeg), .int (S 1 22)]) (rest := [.int (S 1 ((23 : Int32) + (S 1 ((5 : Int32) + p1).toNatClampNeg)).toNatClampNeg)]) ⟨hx, hb, hml, hown, hts⟩ (mX7_showsOn_1 l D cs a S L (S 1 ((5 : Int32) + p1).toNatClampNeg) (S 1 ((70 : Int32) + p1).toNatClampNeg) (S 1 22) r40 hq40 _) (cwV 4 hts gX7_asked_X7_showsOn rfl rfl rfl (by decide +kernel) ⟨Nat.le_of_ble_eq_true rfl, Nat.le_of_ble_eq_true rfl⟩) ⟨k_blind, va_recv hK hP (ci := 5) (q0 := 0) rfl rfl, k_pre hP hK hNn hD⟩ rfl rfl hl.1 rfl (lv_room (Nat.le_of_ble_eq_true rfl)) dX7_asked_40 ⟨Nat.le_of_ble_eq_true rfl, Nat.le_of_ble_eq_true rfl⟩) hS hF (fun H locs hP1 hk hS => ?_)
  have hP : va_P D vwCl (wX7 cs a S L) _ := hP1
  have hD := hDA S L
  obtain ⟨r43, hq43, hd⟩ := dn_b1 hd
  have hPc := k_P0 hP
  have hDc : va_D A ([] : va_W) := k_D0
  have hF := k_self hDc hS hA
  refine k_run_i (va_runS (As := [.int (S 1 ((23 : Int32) + (S 1 ((5 : Int32) + p1).toNatClampNeg)).toNatClampNeg), .int r40]) (rest := []) ⟨hx, hb, hml, hown, hts⟩ (mX7_asksAs l D cs  (S 1 ((23 : Int32) + (S 1 ((5 : Int32) + p1).toNatClampNeg)).toNatClampNeg) r40 r43 hq43 _) (va_cwS 2 hts gX7_asked_X7_asksAs rfl rfl rfl (by decide +kernel) ⟨Nat.le_of_ble_eq_true rfl, Nat.le_of_ble_eq_true rfl⟩) ⟨k_blind, k_pre hPc hK hNn hDc⟩ rfl rfl hl.1 rfl (lv_room (Nat.le_of_ble_eq_true rfl)) dX7_asked_43 ⟨Nat.le_of_ble_eq_true rfl, Nat.le_of_ble_eq_true rfl⟩) hS hF (fun H locs hP1 hk hS => ?_)
  have hP : va_P D vwCl (wX7 cs a S L) _ := k_keep hP hk
  have e1 := dn_s1 hd
  exact k_iret hx hb hr hQ hAe e1 rfl hP hS hlocks dX7_asked_46
-- LeastNeedModel.layCoats([I)V
set_option maxRecDepth 20000 in
def nX7_layCoats_1_l2 (x2_2 : Int32) (S_2 : Nat → Nat → Int32) (L : Nat → Nat → Int64) : Option ((Int32 × (Nat → Nat → Int32)) ⊕ ((Nat → Nat → Int32))) := if (S_2 1 0) ≤ x2_2 then k_up (some S_2) else if ((15 : Int32) + x2_2) < 0 ∨ 284 ≤ ((15 : Int32) + x2_2).toNatClampNeg then none else if x2_2 < 0 ∨ 7 ≤ x2_2.toNatClampNeg then none else some (.inl ((x2_2 + (1 : Int32)), (k_w S_2 5 x2_2.toNatClampNeg (S_2 1 ((15 : Int32) + x2_2).toNatClampNeg))))
set_option maxRecDepth 20000 in
def nX7_layCoats_1 (S : Nat → Nat → Int32) (L : Nat → Nat → Int64) : Option ((Nat → Nat → Int32)) := k_it (fun st => nX7_layCoats_1_l2 st.1 st.2 L) 1000 ((0 : Int32), S)
set_option maxHeartbeats 4000000 in
set_option maxRecDepth 100000 in
theorem mX7_layCoats_1 (l : Launch) (D : va_G) (cs : Nat → ClassId) (a : Nat → Nat) (S : Nat → Nat → Int32) (L : Nat → Nat → Int64) (S9 : (Nat → Nat → Int32)) (hd : nX7_layCoats_1 S L = some S9) : ∀ sz : Nat, Met l yX7_layCoats wsX7_layCoats ({ frames := 0, cells := 0, slots := 0, locals := 0 }) (k_Pc D cs [.ref (a 0), .ref (a 1)] (wX7 cs a S L) sz) (k_Qv D (wX7 cs a S L) (wX7 cs a S9 L) sz) 0 0 (va_A (wX7 cs a S L) sz) := by
  intro sz
  refine Met.ofW (cc := cX7_layCoats) (maxL := 3) (ret := none) (by decide) rfl ?_
  intro p e s m args below meth c s₁ B hml hv
  obtain ⟨rfl, hsz, hP, hK, hD0, hNn⟩ := hv
  have hx := B.exec
  have hb := B.bytes
  have hr := B.returns
  have hts := atoms_spec (ws := wsX7_layCoats) B.pre
  have hown : s.vm.findClass RX7 = some m.cls := findClass_of_methodNamed B.named
  have hlocks := B.notSynchronized
  subst hsz
  obtain ⟨A, hAe⟩ : ∃ A : Nat → Prop, A = va_A (wX7 cs a S L) s.heap.size := ⟨_, rfl⟩
  have hD : va_D A (wX7 cs a S L) := by rw [hAe]; exact hD0.self
  have hA : ∀ q : Nat, s.heap.size ≤ q → A q := fun q h => by rw [hAe]; exact Or.inr h
  have hS : va_S A s.heap s.heap [] := va_S.rf
  have hDA : ∀ (S : Nat → Nat → Int32) (L : Nat → Nat → Int64), va_D A (wX7 cs a S L) := fun S L => k_DA hD rfl
  have hl := lv_entry ([.ref (a 0), .ref (a 1)]) (n := 3) (Nat.le_of_ble_eq_true rfl)
  rw [lg_entry_eq]
  generalize (lg_sl ([.ref (a 0), .ref (a 1)]) ++ List.replicate (3 - (lg_sl ([.ref (a 0), .ref (a 1)])).length) Slot.unset).toArray = ls at hl ⊢
  have hl : lv_has ls 3 [(0, .ref (a 0)), (1, .ref (a 1))] := hl
  obtain ⟨Q, hQ⟩ : ∃ Q, Q = MQ below (k_Qv D (wX7 cs a S L) (wX7 cs a S9 L) s.heap.size) ([.ref (a 0), .ref (a 1)] : List Value).toArray s 0 0 (va_A (wX7 cs a S L) s.heap.size) := ⟨_, rfl⟩
  rw [← hQ]
  have Lo2 : ∀ (n1 : Nat) (x2_2 : Int32) (S_2 : Nat → Nat → Int32) (H : Heap) (locs : List Loc) (ls : Array Slot), k_it (fun st => nX7_layCoats_1_l2 st.1 st.2 L) n1 (x2_2, S_2) = some S9 → lv_has ls 3 [(0, .ref (a 0)), (1, .ref (a 1)), (2, .int x2_2)] → va_P D vwCl (wX7 cs a S_2 L) H → va_S A s.heap H locs → W p l e (headSpec wsX7_layCoats ({ frames := 0, cells := 0, slots := 0, locals := 0 })).room s m ([.ref (a 0), .ref (a 1)] : List Value).toArray below meth c H locs 0 0 Q (F0 m 2 ls []) := by
    intro n1
    induction n1 with
    | zero => intro x2_2 S_2 H locs ls hd; exact dn_it0 hd
    | succ n1 ih1 =>
      intro x2_2 S_2 H locs ls hd hl hP hS
      have hD := hDA S_2 L
      obtain ⟨y1, hd, hy1⟩ := dn_it hd
      have hd : nX7_layCoats_1_l2 x2_2 S_2 L = some y1 := hd
      unfold nX7_layCoats_1_l2 at hd
      refine lv_iload_n hx hb dX7_layCoats_2 rfl (lv_at hl 2 rfl) ?_
      refine lv_aload_n hx hb dX7_layCoats_3 rfl (lv_at hl 1 rfl) ?_
      refine lv_iconst (v := (0 : Int32)) hx hb dX7_layCoats_4 (by decide) ?_
      refine k_iald (D := D) (k := 0) (by rfl) hx hb hK hP 1 1 rfl rfl (k_in (by decide)) dX7_layCoats_5 ?_
      refine lv_icmp_ge (tgt := 27) hx hb dX7_layCoats_6 (by decide) (fun c6 => ?_) (fun c6 => ?_)
      · have hd := dn_t c6 hd
        have hd := dn_up hd hy1
        have e1 := dn_s1 hd
        exact k_vret hx hb hr hQ hAe (by rw [e1]) hP hS hlocks dX7_layCoats_27
      · have hd := dn_f c6 hd
        refine lv_aload_n hx hb dX7_layCoats_9 rfl (lv_at hl 0 rfl) ?_
        refine va_get (D := D) (ci := 5) (v := .ref (a 5)) (C := RX7) (T := TX7) (N := 25) hx hb hts (fun w h => List.mem_cons_of_mem _ (List.mem_append_right _ h)) hown hK hP 0 rfl rfl 6 (by decide) (hts (.fieldLink RX7 27 "LeastNeedModel" "coats0" "[I") (List.mem_of_getElem? (i := 1) rfl)) (fun _ h9 => h9) rfl dX7_layCoats_10 ?_
        refine lv_iload_n hx hb dX7_layCoats_13 rfl (lv_at hl 2 rfl) ?_
        refine lv_aload_n hx hb dX7_layCoats_14 rfl (lv_at hl 1 rfl) ?_
        refine lv_bipush (v := (15 : Int32)) hx hb dX7_layCoats_15 (by decide) ?_
        refine lv_iload_n hx hb dX7_layCoats_17 rfl (lv_at hl 2 rfl) ?_
        refine lv_iadd hx hb dX7_layCoats_18 ?_
        obtain ⟨hi19, hd⟩ := dn_i hd
        refine k_iald (D := D) (k := ((15 : Int32) + x2_2).toNatClampNeg) (by rfl) hx hb hK hP 1 1 rfl rfl hi19 dX7_layCoats_19 ?_
        obtain ⟨hi20, hd⟩ := dn_i hd
        refine k_iast (D := D) (k := x2_2.toNatClampNeg) (by rfl) hx hb hK hP hD hS 5 1 rfl rfl hi20 dX7_layCoats_20 (fun H locs hP hD hS => ?_)
        have hP : va_P D vwCl (wX7 cs a (k_w S_2 5 x2_2.toNatClampNeg (S_2 1 ((15 : Int32) + x2_2).toNatClampNeg)) L) _ := k_eq hP (wsX7_a5 cs a S_2 L x2_2.toNatClampNeg (S_2 1 ((15 : Int32) + x2_2).toNatClampNeg))
        have hD := hDA (k_w S_2 5 x2_2.toNatClampNeg (S_2 1 ((15 : Int32) + x2_2).toNatClampNeg)) L
        refine lv_iinc (v := x2_2 + (1 : Int32)) (lv' := [(2, .int (x2_2 + (1 : Int32))), (0, .ref (a 0)), (1, .ref (a 1))]) hx hb dX7_layCoats_21 hl (k := 2) rfl rfl (by decide) rfl (fun ls hl => ?_)
        refine lv_goto (tgt := 2) hx hb dX7_layCoats_24 (by decide) ?_
        exact ih1 (x2_2 + (1 : Int32)) (k_w S_2 5 x2_2.toNatClampNeg (S_2 1 ((15 : Int32) + x2_2).toNatClampNeg)) _ _ _ (dn_bk hd hy1) (lv_sub hl [1, 2, 0] rfl) hP hS
  unfold nX7_layCoats_1 at hd
  refine lv_iconst (v := (0 : Int32)) hx hb dX7_layCoats_0 (by decide) ?_
  refine lv_istore_n (lv' := [(2, .int (0 : Int32)), (0, .ref (a 0)), (1, .ref (a 1))]) hx hb dX7_layCoats_1 rfl hl (by decide) rfl (fun ls hl => ?_)
  exact Lo2 1000 (0 : Int32) S _ _ _ hd (lv_sub hl [1, 2, 0] rfl) hP hS
-- LeastNeedModel.back(I)I
set_option maxRecDepth 20000 in
def nX7_back_j47 (S_47 : Nat → Nat → Int32) (L : Nat → Nat → Int64) : Option (Int32 × (Nat → Nat → Int32)) := k_b2 (nX7_no S_47 L) (fun r48 S48 => some (r48, S48))
set_option maxRecDepth 20000 in
def nX7_back (S : Nat → Nat → Int32) (L : Nat → Nat → Int64) (p1 : Int32) : Option (Int32 × (Nat → Nat → Int32)) := k_b1 (nX7_isThing S L p1) (fun r2 => if r2 = 0 then k_b2 (nX7_bad S L (-2 : Int32)) (fun r11 S11 => some (r11, S11)) else if ((10 : Int32) + p1) < 0 ∨ 284 ≤ ((10 : Int32) + p1).toNatClampNeg then none else if (S 1 ((10 : Int32) + p1).toNatClampNeg) = 0 then if ((5 : Int32) + p1) < 0 ∨ 284 ≤ ((5 : Int32) + p1).toNatClampNeg then none else if ((75 : Int32) + p1) < 0 ∨ 284 ≤ ((75 : Int32) + p1).toNatClampNeg then none else if (S 1 ((5 : Int32) + p1).toNatClampNeg) = (S 1 ((75 : Int32) + p1).toNatClampNeg) then nX7_back_j47 S L else k_b1 (nX7_layCoats_1 S L) (fun S57 => k_b1 (nX7_asked S57 L p1) (fun r62 => k_b1 (nX7_keep S57 L) (fun S67 => if ((75 : Int32) + p1) < 0 ∨ 284 ≤ ((75 : Int32) + p1).toNatClampNeg then none else if ((5 : Int32) + p1) < 0 ∨ 284 ≤ ((5 : Int32) + p1).toNatClampNeg then none else some (r62, (k_w S67 1 (((5 : Int32) + p1).toNatClampNeg) (S67 1 ((75 : Int32) + p1).toNatClampNeg)))))) else nX7_back_j47 S L)
set_option maxHeartbeats 4000000 in
set_option maxRecDepth 100000 in
theorem mX7_back (l : Launch) (D : va_G) (cs : Nat → ClassId) (a : Nat → Nat) (S : Nat → Nat → Int32) (L : Nat → Nat → Int64) (p1 : Int32) (r9 : Int32) (S9 : (Nat → Nat → Int32)) (hd : nX7_back S L p1 = some (r9, S9)) : ∀ sz : Nat, Met l yX7_back wsX7_back ({ frames := 3, cells := 0, slots := 0, locals := 71 }) (k_Pc D cs [.ref (a 0), .int p1] (wX7 cs a S L) sz) (k_Qi D r9 (wX7 cs a S L) (wX7 cs a S9 L) sz) 0 0 (va_A (wX7 cs a S L) sz) := by
  intro sz
  refine Met.ofW (cc := cX7_back) (maxL := 3) (ret := (some .int)) (by decide) rfl ?_
  intro p e s m args below meth c s₁ B hml hv
  obtain ⟨rfl, hsz, hP, hK, hD0, hNn⟩ := hv
  have hx := B.exec
  have hb := B.bytes
  have hr := B.returns
  have hts := atoms_spec (ws := wsX7_back) B.pre
  have hown : s.vm.findClass RX7 = some m.cls := findClass_of_methodNamed B.named
  have hlocks := B.notSynchronized
  subst hsz
  obtain ⟨A, hAe⟩ : ∃ A : Nat → Prop, A = va_A (wX7 cs a S L) s.heap.size := ⟨_, rfl⟩
  have hD : va_D A (wX7 cs a S L) := by rw [hAe]; exact hD0.self
  have hA : ∀ q : Nat, s.heap.size ≤ q → A q := fun q h => by rw [hAe]; exact Or.inr h
  have hS : va_S A s.heap s.heap [] := va_S.rf
  have hDA : ∀ (S : Nat → Nat → Int32) (L : Nat → Nat → Int64), va_D A (wX7 cs a S L) := fun S L => k_DA hD rfl
  have hl := lv_entry ([.ref (a 0), .int p1]) (n := 3) (Nat.le_of_ble_eq_true rfl)
  rw [lg_entry_eq]
  generalize (lg_sl ([.ref (a 0), .int p1]) ++ List.replicate (3 - (lg_sl ([.ref (a 0), .int p1])).length) Slot.unset).toArray = ls at hl ⊢
  have hl : lv_has ls 3 [(0, .ref (a 0)), (1, .int p1)] := hl
  obtain ⟨Q, hQ⟩ : ∃ Q, Q = MQ below (k_Qi D r9 (wX7 cs a S L) (wX7 cs a S9 L) s.heap.size) ([.ref (a 0), .int p1] : List Value).toArray s 0 0 (va_A (wX7 cs a S L) s.heap.size) := ⟨_, rfl⟩
  rw [← hQ]
  have Jo47 : ∀ (S_47 : Nat → Nat → Int32) (H : Heap) (locs : List Loc) (ls : Array Slot), nX7_back_j47 S_47 L = some (r9, S9) → lv_has ls 3 [(0, .ref (a 0))] → va_P D vwCl (wX7 cs a S_47 L) H → va_S A s.heap H locs → W p l e (headSpec wsX7_back ({ frames := 3, cells := 0, slots := 0, locals := 71 })).room s m ([.ref (a 0), .int p1] : List Value).toArray below meth c H locs 0 0 Q (F0 m 47 ls []) := by
    intro S_47 H locs ls hd hl hP hS
    have hD := hDA S_47 L
    unfold nX7_back_j47 at hd
    refine lv_aload_n hx hb dX7_back_47 rfl (lv_at hl 0 rfl) ?_
    obtain ⟨r48, S48, hq48, hd⟩ := dn_b2 hd
    have hF := k_self hD hS hA
    refine k_run_i (va_runV (As := []) (rest := []) ⟨hx, hb, hml, hown, hts⟩ (mX7_no l D cs a S_47 L r48 S48 hq48 _) (cwV 0 hts gX7_back_X7_no rfl rfl rfl (by decide +kernel) ⟨Nat.le_of_ble_eq_true rfl, Nat.le_of_ble_eq_true rfl⟩) ⟨k_blind, va_recv hK hP (ci := 5) (q0 := 0) rfl rfl, k_pre hP hK hNn hD⟩ rfl rfl hl.1 rfl (lv_room (Nat.le_of_ble_eq_true rfl)) dX7_back_48 ⟨Nat.le_of_ble_eq_true rfl, Nat.le_of_ble_eq_true rfl⟩) hS hF (fun H locs hP1 hk hS => ?_)
    have hP : va_P D vwCl (wX7 cs a S48 L) _ := hP1
    have hD := hDA S48 L
    obtain ⟨e1, e2⟩ := dn_s2 hd
    exact k_iret hx hb hr hQ hAe e1 (by rw [e2]) hP hS hlocks dX7_back_51
  unfold nX7_back at hd
  refine lv_aload_n hx hb dX7_back_0 rfl (lv_at hl 0 rfl) ?_
  refine lv_iload_n hx hb dX7_back_1 rfl (lv_at hl 1 rfl) ?_
  obtain ⟨r2, hq2, hd⟩ := dn_b1 hd
  have hF := k_self hD hS hA
  refine k_run_i (va_runV (As := [.int p1]) (rest := []) ⟨hx, hb, hml, hown, hts⟩ (mX7_isThing l D cs a S L p1 r2 hq2 _) (cwV 1 hts gX7_back_X7_isThing rfl rfl rfl (by decide +kernel) ⟨Nat.le_of_ble_eq_true rfl, Nat.le_of_ble_eq_true rfl⟩) ⟨k_blind, va_recv hK hP (ci := 5) (q0 := 0) rfl rfl, k_pre hP hK hNn hD⟩ rfl rfl hl.1 rfl (lv_room (Nat.le_of_ble_eq_true rfl)) dX7_back_2 ⟨Nat.le_of_ble_eq_true rfl, Nat.le_of_ble_eq_true rfl⟩) hS hF (fun H locs hP1 hk hS => ?_)
  have hP : va_P D vwCl (wX7 cs a S L) _ := hP1
  have hD := hDA S L
  refine lv_if_ne (tgt := 15) hx hb dX7_back_5 (by decide) (fun c5 => ?_) (fun c5 => ?_)
  · have hd := dn_f c5 hd
    refine lv_aload_n hx hb dX7_back_15 rfl (lv_at hl 0 rfl) ?_
    refine va_get (D := D) (ci := 5) (v := .ref (a 1)) (C := RX7) (T := TX7) (N := 25) hx hb hts (fun w h => List.mem_cons_of_mem _ (List.mem_append_right _ h)) hown hK hP 0 rfl rfl 0 (by decide) (hts (.fieldLink RX7 7 "LeastNeedModel" "told" "[I") (List.mem_of_getElem? (i := 1) rfl)) (fun _ h9 => h9) rfl dX7_back_16 ?_
    refine lv_bipush (v := (10 : Int32)) hx hb dX7_back_19 (by decide) ?_
    refine lv_iload_n hx hb dX7_back_21 rfl (lv_at hl 1 rfl) ?_
    refine lv_iadd hx hb dX7_back_22 ?_
    obtain ⟨hi23, hd⟩ := dn_i hd
    refine k_iald (D := D) (k := ((10 : Int32) + p1).toNatClampNeg) (by rfl) hx hb hK hP 1 1 rfl rfl hi23 dX7_back_23 ?_
    refine lv_if_ne (tgt := 47) hx hb dX7_back_24 (by decide) (fun c24 => ?_) (fun c24 => ?_)
    · have hd := dn_f c24 hd
      exact Jo47 S _ _ _ hd (lv_sub hl [0] rfl) hP hS
    · have hd := dn_t c24 hd
      refine lv_aload_n hx hb dX7_back_27 rfl (lv_at hl 0 rfl) ?_
      refine va_get (D := D) (ci := 5) (v := .ref (a 1)) (C := RX7) (T := TX7) (N := 25) hx hb hts (fun w h => List.mem_cons_of_mem _ (List.mem_append_right _ h)) hown hK hP 0 rfl rfl 0 (by decide) (hts (.fieldLink RX7 7 "LeastNeedModel" "told" "[I") (List.mem_of_getElem? (i := 1) rfl)) (fun _ h9 => h9) rfl dX7_back_28 ?_
      refine lv_iconst (v := (5 : Int32)) hx hb dX7_back_31 (by decide) ?_
      refine lv_iload_n hx hb dX7_back_32 rfl (lv_at hl 1 rfl) ?_
      refine lv_iadd hx hb dX7_back_33 ?_
      obtain ⟨hi34, hd⟩ := dn_i hd
      refine k_iald (D := D) (k := ((5 : Int32) + p1).toNatClampNeg) (by rfl) hx hb hK hP 1 1 rfl rfl hi34 dX7_back_34 ?_
      refine lv_aload_n hx hb dX7_back_35 rfl (lv_at hl 0 rfl) ?_
      refine va_get (D := D) (ci := 5) (v := .ref (a 1)) (C := RX7) (T := TX7) (N := 25) hx hb hts (fun w h => List.mem_cons_of_mem _ (List.mem_append_right _ h)) hown hK hP 0 rfl rfl 0 (by decide) (hts (.fieldLink RX7 7 "LeastNeedModel" "told" "[I") (List.mem_of_getElem? (i := 1) rfl)) (fun _ h9 => h9) rfl dX7_back_36 ?_
      refine lv_bipush (v := (75 : Int32)) hx hb dX7_back_39 (by decide) ?_
      refine lv_iload_n hx hb dX7_back_41 rfl (lv_at hl 1 rfl) ?_
      refine lv_iadd hx hb dX7_back_42 ?_
      obtain ⟨hi43, hd⟩ := dn_i hd
      refine k_iald (D := D) (k := ((75 : Int32) + p1).toNatClampNeg) (by rfl) hx hb hK hP 1 1 rfl rfl hi43 dX7_back_43 ?_
      refine lv_icmp_ne (tgt := 52) hx hb dX7_back_44 (by decide) (fun c44 => ?_) (fun c44 => ?_)
      · have hd := dn_f c44 hd
        refine lv_aload_n hx hb dX7_back_52 rfl (lv_at hl 0 rfl) ?_
        refine lv_aload_n hx hb dX7_back_53 rfl (lv_at hl 0 rfl) ?_
        refine va_get (D := D) (ci := 5) (v := .ref (a 1)) (C := RX7) (T := TX7) (N := 25) hx hb hts (fun w h => List.mem_cons_of_mem _ (List.mem_append_right _ h)) hown hK hP 0 rfl rfl 0 (by decide) (hts (.fieldLink RX7 7 "LeastNeedModel" "told" "[I") (List.mem_of_getElem? (i := 1) rfl)) (fun _ h9 => h9) rfl dX7_back_54 ?_
        obtain ⟨S57, hq57, hd⟩ := dn_b1 hd
        have hF := k_self hD hS hA
        refine k_run_v (va_runV (As := [.ref (a 1)]) (rest := []) ⟨hx, hb, hml, hown, hts⟩ (mX7_layCoats_1 l D cs a S L S57 hq57 _) (cwV 1 hts gX7_back_X7_layCoats rfl rfl rfl (by decide +kernel) ⟨Nat.le_of_ble_eq_true rfl, Nat.le_of_ble_eq_true rfl⟩) ⟨k_blind, va_recv hK hP (ci := 5) (q0 := 0) rfl rfl, k_pre hP hK hNn hD⟩ rfl rfl hl.1 rfl (lv_room (Nat.le_of_ble_eq_true rfl)) dX7_back_57 ⟨Nat.le_of_ble_eq_true rfl, Nat.le_of_ble_eq_true rfl⟩) hS hF (fun H locs hP1 hk hS => ?_)
        have hP : va_P D vwCl (wX7 cs a S57 L) _ := hP1
        have hD := hDA S57 L
        refine lv_aload_n hx hb dX7_back_60 rfl (lv_at hl 0 rfl) ?_
        refine lv_iload_n hx hb dX7_back_61 rfl (lv_at hl 1 rfl) ?_
        obtain ⟨r62, hq62, hd⟩ := dn_b1 hd
        have hF := k_self hD hS hA
        refine k_run_i (va_runV (As := [.int p1]) (rest := []) ⟨hx, hb, hml, hown, hts⟩ (mX7_asked l D cs a S57 L p1 r62 hq62 _) (cwV 1 hts gX7_back_X7_asked rfl rfl rfl (by decide +kernel) ⟨Nat.le_of_ble_eq_true rfl, Nat.le_of_ble_eq_true rfl⟩) ⟨k_blind, va_recv hK hP (ci := 5) (q0 := 0) rfl rfl, k_pre hP hK hNn hD⟩ rfl rfl hl.1 rfl (lv_room (Nat.le_of_ble_eq_true rfl)) dX7_back_62 ⟨Nat.le_of_ble_eq_true rfl, Nat.le_of_ble_eq_true rfl⟩) hS hF (fun H locs hP1 hk hS => ?_)
        have hP : va_P D vwCl (wX7 cs a S57 L) _ := hP1
        have hD := hDA S57 L
        refine lv_istore_n (lv' := [(2, .int r62), (0, .ref (a 0)), (1, .int p1)]) hx hb dX7_back_65 rfl hl (by decide) rfl (fun ls hl => ?_)
        refine lv_aload_n hx hb dX7_back_66 rfl (lv_at hl 1 rfl) ?_
        obtain ⟨S67, hq67, hd⟩ := dn_b1 hd
        have hF := k_self hD hS hA
        refine k_run_v (va_runV (As := []) (rest := []) ⟨hx, hb, hml, hown, hts⟩ (mX7_keep l D cs a S57 L S67 hq67 _) (cwV 0 hts gX7_back_X7_keep rfl rfl rfl (by decide +kernel) ⟨Nat.le_of_ble_eq_true rfl, Nat.le_of_ble_eq_true rfl⟩) ⟨k_blind, va_recv hK hP (ci := 5) (q0 := 0) rfl rfl, k_pre hP hK hNn hD⟩ rfl rfl hl.1 rfl (lv_room (Nat.le_of_ble_eq_true rfl)) dX7_back_67 ⟨Nat.le_of_ble_eq_true rfl, Nat.le_of_ble_eq_true rfl⟩) hS hF (fun H locs hP1 hk hS => ?_)
        have hP : va_P D vwCl (wX7 cs a S67 L) _ := hP1
        have hD := hDA S67 L
        refine lv_aload_n hx hb dX7_back_70 rfl (lv_at hl 1 rfl) ?_
        refine va_get (D := D) (ci := 5) (v := .ref (a 1)) (C := RX7) (T := TX7) (N := 25) hx hb hts (fun w h => List.mem_cons_of_mem _ (List.mem_append_right _ h)) hown hK hP 0 rfl rfl 0 (by decide) (hts (.fieldLink RX7 7 "LeastNeedModel" "told" "[I") (List.mem_of_getElem? (i := 1) rfl)) (fun _ h9 => h9) rfl dX7_back_71 ?_
        refine lv_iconst (v := (5 : Int32)) hx hb dX7_back_74 (by decide) ?_
        refine lv_iload_n hx hb dX7_back_75 rfl (lv_at hl 2 rfl) ?_
        refine lv_iadd hx hb dX7_back_76 ?_
        refine lv_aload_n hx hb dX7_back_77 rfl (lv_at hl 1 rfl) ?_
        refine va_get (D := D) (ci := 5) (v := .ref (a 1)) (C := RX7) (T := TX7) (N := 25) hx hb hts (fun w h => List.mem_cons_of_mem _ (List.mem_append_right _ h)) hown hK hP 0 rfl rfl 0 (by decide) (hts (.fieldLink RX7 7 "LeastNeedModel" "told" "[I") (List.mem_of_getElem? (i := 1) rfl)) (fun _ h9 => h9) rfl dX7_back_78 ?_
        refine lv_bipush (v := (75 : Int32)) hx hb dX7_back_81 (by decide) ?_
        refine lv_iload_n hx hb dX7_back_83 rfl (lv_at hl 2 rfl) ?_
        refine lv_iadd hx hb dX7_back_84 ?_
        obtain ⟨hi85, hd⟩ := dn_i hd
        refine k_iald (D := D) (k := ((75 : Int32) + p1).toNatClampNeg) (by rfl) hx hb hK hP 1 1 rfl rfl hi85 dX7_back_85 ?_
        obtain ⟨hi86, hd⟩ := dn_i hd
        refine k_iast (D := D) (k := ((5 : Int32) + p1).toNatClampNeg) (by rfl) hx hb hK hP hD hS 1 1 rfl rfl hi86 dX7_back_86 (fun H locs hP hD hS => ?_)
        have hP : va_P D vwCl (wX7 cs a (k_w S67 1 (((5 : Int32) + p1).toNatClampNeg) (S67 1 ((75 : Int32) + p1).toNatClampNeg)) L) _ := k_eq hP (wsX7_a1 cs a S67 L (((5 : Int32) + p1).toNatClampNeg) (S67 1 ((75 : Int32) + p1).toNatClampNeg))
        have hD := hDA (k_w S67 1 (((5 : Int32) + p1).toNatClampNeg) (S67 1 ((75 : Int32) + p1).toNatClampNeg)) L
        refine lv_iload_n hx hb dX7_back_87 rfl (lv_at hl 0 rfl) ?_
        obtain ⟨e1, e2⟩ := dn_s2 hd
        exact k_iret hx hb hr hQ hAe e1 (by rw [e2]) hP hS hlocks dX7_back_88
      · have hd := dn_t c44 hd
        exact Jo47 S _ _ _ hd (lv_sub hl [0] rfl) hP hS
  · have hd := dn_t c5 hd
    refine lv_aload_n hx hb dX7_back_8 rfl (lv_at hl 0 rfl) ?_
    refine lv_bipush (v := (-2 : Int32)) hx hb dX7_back_9 (by decide) ?_
    obtain ⟨r11, S11, hq11, hd⟩ := dn_b2 hd
    have hF := k_self hD hS hA
    refine k_run_i (va_runV (As := [.int (-2 : Int32)]) (rest := []) ⟨hx, hb, hml, hown, hts⟩ (mX7_bad l D cs a S L (-2 : Int32) r11 S11 hq11 _) (cwV 1 hts gX7_back_X7_bad rfl rfl rfl (by decide +kernel) ⟨Nat.le_of_ble_eq_true rfl, Nat.le_of_ble_eq_true rfl⟩) ⟨k_blind, va_recv hK hP (ci := 5) (q0 := 0) rfl rfl, k_pre hP hK hNn hD⟩ rfl rfl hl.1 rfl (lv_room (Nat.le_of_ble_eq_true rfl)) dX7_back_11 ⟨Nat.le_of_ble_eq_true rfl, Nat.le_of_ble_eq_true rfl⟩) hS hF (fun H locs hP1 hk hS => ?_)
    have hP : va_P D vwCl (wX7 cs a S11 L) _ := hP1
    have hD := hDA S11 L
    obtain ⟨e1, e2⟩ := dn_s2 hd
    exact k_iret hx hb hr hQ hAe e1 (by rw [e2]) hP hS hlocks dX7_back_14
-- LeastNeedModel.coat(II)I
set_option maxRecDepth 20000 in
def nX7_coat_j15 (S_15 : Nat → Nat → Int32) (L : Nat → Nat → Int64) : Option (Int32 × (Nat → Nat → Int32)) := k_b2 (nX7_bad S_15 L (-2 : Int32)) (fun r18 S18 => some (r18, S18))
set_option maxRecDepth 20000 in
def nX7_coat (S : Nat → Nat → Int32) (L : Nat → Nat → Int64) (p1 : Int32) (p2 : Int32) : Option (Int32 × (Nat → Nat → Int32)) := k_b1 (nX7_isOne S L p1) (fun r2 => if r2 = 0 then nX7_coat_j15 S L else k_b1 (nX7_isNeed p2) (fun r9 => if r9 = 0 then nX7_coat_j15 S L else if ((15 : Int32) + p1) < 0 ∨ 284 ≤ ((15 : Int32) + p1).toNatClampNeg then none else k_b1 (nX7_keep S L) (fun S33 => if ((15 : Int32) + p1) < 0 ∨ 284 ≤ ((15 : Int32) + p1).toNatClampNeg then none else some ((S 1 ((15 : Int32) + p1).toNatClampNeg), (k_w S33 1 (((15 : Int32) + p1).toNatClampNeg) p2)))))
set_option maxHeartbeats 4000000 in
set_option maxRecDepth 100000 in
theorem mX7_coat (l : Launch) (D : va_G) (cs : Nat → ClassId) (a : Nat → Nat) (S : Nat → Nat → Int32) (L : Nat → Nat → Int64) (p1 : Int32) (p2 : Int32) (r9 : Int32) (S9 : (Nat → Nat → Int32)) (hd : nX7_coat S L p1 p2 = some (r9, S9)) : ∀ sz : Nat, Met l yX7_coat wsX7_coat ({ frames := 2, cells := 0, slots := 0, locals := 46 }) (k_Pc D cs [.ref (a 0), .int p1, .int p2] (wX7 cs a S L) sz) (k_Qi D r9 (wX7 cs a S L) (wX7 cs a S9 L) sz) 0 0 (va_A (wX7 cs a S L) sz) := by
  intro sz
  refine Met.ofW (cc := cX7_coat) (maxL := 4) (ret := (some .int)) (by decide) rfl ?_
  intro p e s m args below meth c s₁ B hml hv
  obtain ⟨rfl, hsz, hP, hK, hD0, hNn⟩ := hv
  have hx := B.exec
  have hb := B.bytes
  have hr := B.returns
  have hts := atoms_spec (ws := wsX7_coat) B.pre
  have hown : s.vm.findClass RX7 = some m.cls := findClass_of_methodNamed B.named
  have hlocks := B.notSynchronized
  subst hsz
  obtain ⟨A, hAe⟩ : ∃ A : Nat → Prop, A = va_A (wX7 cs a S L) s.heap.size := ⟨_, rfl⟩
  have hD : va_D A (wX7 cs a S L) := by rw [hAe]; exact hD0.self
  have hA : ∀ q : Nat, s.heap.size ≤ q → A q := fun q h => by rw [hAe]; exact Or.inr h
  have hS : va_S A s.heap s.heap [] := va_S.rf
  have hDA : ∀ (S : Nat → Nat → Int32) (L : Nat → Nat → Int64), va_D A (wX7 cs a S L) := fun S L => k_DA hD rfl
  have hl := lv_entry ([.ref (a 0), .int p1, .int p2]) (n := 4) (Nat.le_of_ble_eq_true rfl)
  rw [lg_entry_eq]
  generalize (lg_sl ([.ref (a 0), .int p1, .int p2]) ++ List.replicate (4 - (lg_sl ([.ref (a 0), .int p1, .int p2])).length) Slot.unset).toArray = ls at hl ⊢
  have hl : lv_has ls 4 [(0, .ref (a 0)), (1, .int p1), (2, .int p2)] := hl
  obtain ⟨Q, hQ⟩ : ∃ Q, Q = MQ below (k_Qi D r9 (wX7 cs a S L) (wX7 cs a S9 L) s.heap.size) ([.ref (a 0), .int p1, .int p2] : List Value).toArray s 0 0 (va_A (wX7 cs a S L) s.heap.size) := ⟨_, rfl⟩
  rw [← hQ]
  have Jo15 : ∀ (S_15 : Nat → Nat → Int32) (H : Heap) (locs : List Loc) (ls : Array Slot), nX7_coat_j15 S_15 L = some (r9, S9) → lv_has ls 4 [(0, .ref (a 0))] → va_P D vwCl (wX7 cs a S_15 L) H → va_S A s.heap H locs → W p l e (headSpec wsX7_coat ({ frames := 2, cells := 0, slots := 0, locals := 46 })).room s m ([.ref (a 0), .int p1, .int p2] : List Value).toArray below meth c H locs 0 0 Q (F0 m 15 ls []) := by
    intro S_15 H locs ls hd hl hP hS
    have hD := hDA S_15 L
    unfold nX7_coat_j15 at hd
    refine lv_aload_n hx hb dX7_coat_15 rfl (lv_at hl 0 rfl) ?_
    refine lv_bipush (v := (-2 : Int32)) hx hb dX7_coat_16 (by decide) ?_
    obtain ⟨r18, S18, hq18, hd⟩ := dn_b2 hd
    have hF := k_self hD hS hA
    refine k_run_i (va_runV (As := [.int (-2 : Int32)]) (rest := []) ⟨hx, hb, hml, hown, hts⟩ (mX7_bad l D cs a S_15 L (-2 : Int32) r18 S18 hq18 _) (cwV 1 hts gX7_coat_X7_bad rfl rfl rfl (by decide +kernel) ⟨Nat.le_of_ble_eq_true rfl, Nat.le_of_ble_eq_true rfl⟩) ⟨k_blind, va_recv hK hP (ci := 5) (q0 := 0) rfl rfl, k_pre hP hK hNn hD⟩ rfl rfl hl.1 rfl (lv_room (Nat.le_of_ble_eq_true rfl)) dX7_coat_18 ⟨Nat.le_of_ble_eq_true rfl, Nat.le_of_ble_eq_true rfl⟩) hS hF (fun H locs hP1 hk hS => ?_)
    have hP : va_P D vwCl (wX7 cs a S18 L) _ := hP1
    have hD := hDA S18 L
    obtain ⟨e1, e2⟩ := dn_s2 hd
    exact k_iret hx hb hr hQ hAe e1 (by rw [e2]) hP hS hlocks dX7_coat_21
  unfold nX7_coat at hd
  refine lv_aload_n hx hb dX7_coat_0 rfl (lv_at hl 0 rfl) ?_
  refine lv_iload_n hx hb dX7_coat_1 rfl (lv_at hl 1 rfl) ?_
  obtain ⟨r2, hq2, hd⟩ := dn_b1 hd
  have hF := k_self hD hS hA
  refine k_run_i (va_runV (As := [.int p1]) (rest := []) ⟨hx, hb, hml, hown, hts⟩ (mX7_isOne l D cs a S L p1 r2 hq2 _) (cwV 1 hts gX7_coat_X7_isOne rfl rfl rfl (by decide +kernel) ⟨Nat.le_of_ble_eq_true rfl, Nat.le_of_ble_eq_true rfl⟩) ⟨k_blind, va_recv hK hP (ci := 5) (q0 := 0) rfl rfl, k_pre hP hK hNn hD⟩ rfl rfl hl.1 rfl (lv_room (Nat.le_of_ble_eq_true rfl)) dX7_coat_2 ⟨Nat.le_of_ble_eq_true rfl, Nat.le_of_ble_eq_true rfl⟩) hS hF (fun H locs hP1 hk hS => ?_)
  have hP : va_P D vwCl (wX7 cs a S L) _ := hP1
  have hD := hDA S L
  refine lv_if_eq (tgt := 15) hx hb dX7_coat_5 (by decide) (fun c5 => ?_) (fun c5 => ?_)
  · have hd := dn_t c5 hd
    exact Jo15 S _ _ _ hd (lv_sub hl [0] rfl) hP hS
  · have hd := dn_f c5 hd
    refine lv_iload_n hx hb dX7_coat_8 rfl (lv_at hl 2 rfl) ?_
    obtain ⟨r9, hq9, hd⟩ := dn_b1 hd
    have hPc := k_P0 hP
    have hDc : va_D A ([] : va_W) := k_D0
    have hF := k_self hDc hS hA
    refine k_run_i (va_runS (As := [.int p2]) (rest := []) ⟨hx, hb, hml, hown, hts⟩ (mX7_isNeed l D cs  p2 r9 hq9 _) (va_cwS 1 hts gX7_coat_X7_isNeed rfl rfl rfl (by decide +kernel) ⟨Nat.le_of_ble_eq_true rfl, Nat.le_of_ble_eq_true rfl⟩) ⟨k_blind, k_pre hPc hK hNn hDc⟩ rfl rfl hl.1 rfl (lv_room (Nat.le_of_ble_eq_true rfl)) dX7_coat_9 ⟨Nat.le_of_ble_eq_true rfl, Nat.le_of_ble_eq_true rfl⟩) hS hF (fun H locs hP1 hk hS => ?_)
    have hP : va_P D vwCl (wX7 cs a S L) _ := k_keep hP hk
    refine lv_if_ne (tgt := 22) hx hb dX7_coat_12 (by decide) (fun c12 => ?_) (fun c12 => ?_)
    · have hd := dn_f c12 hd
      refine lv_aload_n hx hb dX7_coat_22 rfl (lv_at hl 0 rfl) ?_
      refine va_get (D := D) (ci := 5) (v := .ref (a 1)) (C := RX7) (T := TX7) (N := 25) hx hb hts (fun w h => List.mem_cons_of_mem _ (List.mem_append_right _ h)) hown hK hP 0 rfl rfl 0 (by decide) (hts (.fieldLink RX7 7 "LeastNeedModel" "told" "[I") (List.mem_of_getElem? (i := 1) rfl)) (fun _ h9 => h9) rfl dX7_coat_23 ?_
      refine lv_bipush (v := (15 : Int32)) hx hb dX7_coat_26 (by decide) ?_
      refine lv_iload_n hx hb dX7_coat_28 rfl (lv_at hl 1 rfl) ?_
      refine lv_iadd hx hb dX7_coat_29 ?_
      obtain ⟨hi30, hd⟩ := dn_i hd
      refine k_iald (D := D) (k := ((15 : Int32) + p1).toNatClampNeg) (by rfl) hx hb hK hP 1 1 rfl rfl hi30 dX7_coat_30 ?_
      refine lv_istore_n (lv' := [(3, .int (S 1 ((15 : Int32) + p1).toNatClampNeg)), (0, .ref (a 0)), (1, .int p1), (2, .int p2)]) hx hb dX7_coat_31 rfl hl (by decide) rfl (fun ls hl => ?_)
      refine lv_aload_n hx hb dX7_coat_32 rfl (lv_at hl 1 rfl) ?_
      obtain ⟨S33, hq33, hd⟩ := dn_b1 hd
      have hF := k_self hD hS hA
      refine k_run_v (va_runV (As := []) (rest := []) ⟨hx, hb, hml, hown, hts⟩ (mX7_keep l D cs a S L S33 hq33 _) (cwV 0 hts gX7_coat_X7_keep rfl rfl rfl (by decide +kernel) ⟨Nat.le_of_ble_eq_true rfl, Nat.le_of_ble_eq_true rfl⟩) ⟨k_blind, va_recv hK hP (ci := 5) (q0 := 0) rfl rfl, k_pre hP hK hNn hD⟩ rfl rfl hl.1 rfl (lv_room (Nat.le_of_ble_eq_true rfl)) dX7_coat_33 ⟨Nat.le_of_ble_eq_true rfl, Nat.le_of_ble_eq_true rfl⟩) hS hF (fun H locs hP1 hk hS => ?_)
      have hP : va_P D vwCl (wX7 cs a S33 L) _ := hP1
      have hD := hDA S33 L
      refine lv_aload_n hx hb dX7_coat_36 rfl (lv_at hl 1 rfl) ?_
      refine va_get (D := D) (ci := 5) (v := .ref (a 1)) (C := RX7) (T := TX7) (N := 25) hx hb hts (fun w h => List.mem_cons_of_mem _ (List.mem_append_right _ h)) hown hK hP 0 rfl rfl 0 (by decide) (hts (.fieldLink RX7 7 "LeastNeedModel" "told" "[I") (List.mem_of_getElem? (i := 1) rfl)) (fun _ h9 => h9) rfl dX7_coat_37 ?_
      refine lv_bipush (v := (15 : Int32)) hx hb dX7_coat_40 (by decide) ?_
      refine lv_iload_n hx hb dX7_coat_42 rfl (lv_at hl 2 rfl) ?_
      refine lv_iadd hx hb dX7_coat_43 ?_
      refine lv_iload_n hx hb dX7_coat_44 rfl (lv_at hl 3 rfl) ?_
      obtain ⟨hi45, hd⟩ := dn_i hd
      refine k_iast (D := D) (k := ((15 : Int32) + p1).toNatClampNeg) (by rfl) hx hb hK hP hD hS 1 1 rfl rfl hi45 dX7_coat_45 (fun H locs hP hD hS => ?_)
      have hP : va_P D vwCl (wX7 cs a (k_w S33 1 (((15 : Int32) + p1).toNatClampNeg) p2) L) _ := k_eq hP (wsX7_a1 cs a S33 L (((15 : Int32) + p1).toNatClampNeg) p2)
      have hD := hDA (k_w S33 1 (((15 : Int32) + p1).toNatClampNeg) p2) L
      refine lv_iload_n hx hb dX7_coat_46 rfl (lv_at hl 0 rfl) ?_
      obtain ⟨e1, e2⟩ := dn_s2 hd
      exact k_iret hx hb hr hQ hAe e1 (by rw [e2]) hP hS hlocks dX7_coat_47
    · have hd := dn_t c12 hd
      exact Jo15 S _ _ _ hd (lv_sub hl [0] rfl) hP hS
-- LeastNeedModel.goDay([II)V
set_option maxRecDepth 20000 in
def nX7_goDay_1_i7_j64 (p2 : Int32) (x3_64 : Int32) (x4_64 : Int32) (w0_64 : Int32) (w1_64 : Int32) (S_64 : Nat → Nat → Int32) (L : Nat → Nat → Int64) : Option ((Int32 × (Nat → Nat → Int32)) ⊕ ((Nat → Nat → Int32))) := if w1_64 < 0 ∨ 284 ≤ w1_64.toNatClampNeg then none else if x4_64 = (-1 : Int32) then if ((5 : Int32) + x3_64) < 0 ∨ 284 ≤ ((5 : Int32) + x3_64).toNatClampNeg then none else if ((5 : Int32) + x3_64) < 0 ∨ 284 ≤ ((5 : Int32) + x3_64).toNatClampNeg then none else some (.inl ((x3_64 + (1 : Int32)), (k_w (k_w S_64 1 w1_64.toNatClampNeg w0_64) 1 (((5 : Int32) + x3_64).toNatClampNeg) ((k_w S_64 1 w1_64.toNatClampNeg w0_64) 1 ((5 : Int32) + x3_64).toNatClampNeg)))) else if ((5 : Int32) + x3_64) < 0 ∨ 284 ≤ ((5 : Int32) + x3_64).toNatClampNeg then none else some (.inl ((x3_64 + (1 : Int32)), (k_w (k_w S_64 1 w1_64.toNatClampNeg w0_64) 1 (((5 : Int32) + x3_64).toNatClampNeg) x4_64)))
set_option maxRecDepth 20000 in
def nX7_goDay_1_l7 (p2 : Int32) (x3_7 : Int32) (S_7 : Nat → Nat → Int32) (L : Nat → Nat → Int64) : Option ((Int32 × (Nat → Nat → Int32)) ⊕ ((Nat → Nat → Int32))) := if (S_7 1 1) ≤ x3_7 then k_up (some S_7) else if ((10 : Int32) + x3_7) < 0 ∨ 284 ≤ ((10 : Int32) + x3_7).toNatClampNeg then none else if (S_7 1 ((10 : Int32) + x3_7).toNatClampNeg) = 0 then some (.inl ((x3_7 + (1 : Int32)), S_7)) else if ((65 : Int32) + x3_7) < 0 ∨ 284 ≤ ((65 : Int32) + x3_7).toNatClampNeg then none else if ((70 : Int32) + x3_7) < 0 ∨ 284 ≤ ((70 : Int32) + x3_7).toNatClampNeg then none else if ((5 : Int32) + x3_7) < 0 ∨ 284 ≤ ((5 : Int32) + x3_7).toNatClampNeg then none else k_b1 (nX7_comesTo_1 S_7 L (S_7 1 ((65 : Int32) + x3_7).toNatClampNeg) (S_7 1 ((70 : Int32) + x3_7).toNatClampNeg) p2 (S_7 1 ((5 : Int32) + x3_7).toNatClampNeg)) (fun r43 => if r43 = (-1 : Int32) then nX7_goDay_1_i7_j64 p2 x3_7 r43 (2 : Int32) ((10 : Int32) + x3_7) S_7 L else nX7_goDay_1_i7_j64 p2 x3_7 r43 (0 : Int32) ((10 : Int32) + x3_7) S_7 L)
set_option maxRecDepth 20000 in
def nX7_goDay_1 (S : Nat → Nat → Int32) (L : Nat → Nat → Int64) (p2 : Int32) : Option ((Nat → Nat → Int32)) := k_b1 (nX7_layCoats_1 S L) (fun S2 => k_it (fun st => nX7_goDay_1_l7 p2 st.1 st.2 L) 1000 ((0 : Int32), S2))
set_option maxHeartbeats 4000000 in
set_option maxRecDepth 100000 in
theorem mX7_goDay_1 (l : Launch) (D : va_G) (cs : Nat → ClassId) (a : Nat → Nat) (S : Nat → Nat → Int32) (L : Nat → Nat → Int64) (p2 : Int32) (S9 : (Nat → Nat → Int32)) (hd : nX7_goDay_1 S L p2 = some S9) : ∀ sz : Nat, Met l yX7_goDay wsX7_goDay ({ frames := 4, cells := 0, slots := 0, locals := 106 }) (k_Pc D cs [.ref (a 0), .ref (a 1), .int p2] (wX7 cs a S L) sz) (k_Qv D (wX7 cs a S L) (wX7 cs a S9 L) sz) 0 0 (va_A (wX7 cs a S L) sz) := by
  intro sz
  refine Met.ofW (cc := cX7_goDay) (maxL := 5) (ret := none) (by decide) rfl ?_
  intro p e s m args below meth c s₁ B hml hv
  obtain ⟨rfl, hsz, hP, hK, hD0, hNn⟩ := hv
  have hx := B.exec
  have hb := B.bytes
  have hr := B.returns
  have hts := atoms_spec (ws := wsX7_goDay) B.pre
  have hown : s.vm.findClass RX7 = some m.cls := findClass_of_methodNamed B.named
  have hlocks := B.notSynchronized
  subst hsz
  obtain ⟨A, hAe⟩ : ∃ A : Nat → Prop, A = va_A (wX7 cs a S L) s.heap.size := ⟨_, rfl⟩
  have hD : va_D A (wX7 cs a S L) := by rw [hAe]; exact hD0.self
  have hA : ∀ q : Nat, s.heap.size ≤ q → A q := fun q h => by rw [hAe]; exact Or.inr h
  have hS : va_S A s.heap s.heap [] := va_S.rf
  have hDA : ∀ (S : Nat → Nat → Int32) (L : Nat → Nat → Int64), va_D A (wX7 cs a S L) := fun S L => k_DA hD rfl
  have hl := lv_entry ([.ref (a 0), .ref (a 1), .int p2]) (n := 5) (Nat.le_of_ble_eq_true rfl)
  rw [lg_entry_eq]
  generalize (lg_sl ([.ref (a 0), .ref (a 1), .int p2]) ++ List.replicate (5 - (lg_sl ([.ref (a 0), .ref (a 1), .int p2])).length) Slot.unset).toArray = ls at hl ⊢
  have hl : lv_has ls 5 [(0, .ref (a 0)), (1, .ref (a 1)), (2, .int p2)] := hl
  obtain ⟨Q, hQ⟩ : ∃ Q, Q = MQ below (k_Qv D (wX7 cs a S L) (wX7 cs a S9 L) s.heap.size) ([.ref (a 0), .ref (a 1), .int p2] : List Value).toArray s 0 0 (va_A (wX7 cs a S L) s.heap.size) := ⟨_, rfl⟩
  rw [← hQ]
  have Lo7 : ∀ (n1 : Nat) (x3_7 : Int32) (S_7 : Nat → Nat → Int32) (H : Heap) (locs : List Loc) (ls : Array Slot), k_it (fun st => nX7_goDay_1_l7 p2 st.1 st.2 L) n1 (x3_7, S_7) = some S9 → lv_has ls 5 [(0, .ref (a 0)), (1, .ref (a 1)), (2, .int p2), (3, .int x3_7)] → va_P D vwCl (wX7 cs a S_7 L) H → va_S A s.heap H locs → W p l e (headSpec wsX7_goDay ({ frames := 4, cells := 0, slots := 0, locals := 106 })).room s m ([.ref (a 0), .ref (a 1), .int p2] : List Value).toArray below meth c H locs 0 0 Q (F0 m 7 ls []) := by
    intro n1
    induction n1 with
    | zero => intro x3_7 S_7 H locs ls hd; exact dn_it0 hd
    | succ n1 ih1 =>
      intro x3_7 S_7 H locs ls hd hl hP hS
      have hD := hDA S_7 L
      obtain ⟨y1, hd, hy1⟩ := dn_it hd
      have hd : nX7_goDay_1_l7 p2 x3_7 S_7 L = some y1 := hd
      have Jo64 : ∀ (x3_64 : Int32) (x4_64 : Int32) (w0_64 : Int32) (w1_64 : Int32) (S_64 : Nat → Nat → Int32) (H : Heap) (locs : List Loc) (ls : Array Slot), nX7_goDay_1_i7_j64 p2 x3_64 x4_64 w0_64 w1_64 S_64 L = some y1 → lv_has ls 5 [(0, .ref (a 0)), (1, .ref (a 1)), (2, .int p2), (3, .int x3_64), (4, .int x4_64)] → va_P D vwCl (wX7 cs a S_64 L) H → va_S A s.heap H locs → W p l e (headSpec wsX7_goDay ({ frames := 4, cells := 0, slots := 0, locals := 106 })).room s m ([.ref (a 0), .ref (a 1), .int p2] : List Value).toArray below meth c H locs 0 0 Q (F0 m 64 ls [.int w0_64, .int w1_64, .ref (a 1)]) := by
        intro x3_64 x4_64 w0_64 w1_64 S_64 H locs ls hd hl hP hS
        have hD := hDA S_64 L
        unfold nX7_goDay_1_i7_j64 at hd
        obtain ⟨hi64, hd⟩ := dn_i hd
        refine k_iast (D := D) (k := w1_64.toNatClampNeg) (by rfl) hx hb hK hP hD hS 1 1 rfl rfl hi64 dX7_goDay_64 (fun H locs hP hD hS => ?_)
        have hP : va_P D vwCl (wX7 cs a (k_w S_64 1 w1_64.toNatClampNeg w0_64) L) _ := k_eq hP (wsX7_a1 cs a S_64 L w1_64.toNatClampNeg w0_64)
        have hD := hDA (k_w S_64 1 w1_64.toNatClampNeg w0_64) L
        refine lv_aload_n hx hb dX7_goDay_65 rfl (lv_at hl 1 rfl) ?_
        refine lv_iconst (v := (5 : Int32)) hx hb dX7_goDay_66 (by decide) ?_
        refine lv_iload_n hx hb dX7_goDay_67 rfl (lv_at hl 3 rfl) ?_
        refine lv_iadd hx hb dX7_goDay_68 ?_
        refine lv_iload hx hb dX7_goDay_69 (lv_at hl 4 rfl) ?_
        refine lv_iconst (v := (-1 : Int32)) hx hb dX7_goDay_71 (by decide) ?_
        refine lv_icmp_ne (tgt := 83) hx hb dX7_goDay_72 (by decide) (fun c72 => ?_) (fun c72 => ?_)
        · have hd := dn_f c72 hd
          refine lv_iload hx hb dX7_goDay_83 (lv_at hl 4 rfl) ?_
          obtain ⟨hi85, hd⟩ := dn_i hd
          refine k_iast (D := D) (k := ((5 : Int32) + x3_64).toNatClampNeg) (by rfl) hx hb hK hP hD hS 1 1 rfl rfl hi85 dX7_goDay_85 (fun H locs hP hD hS => ?_)
          have hP : va_P D vwCl (wX7 cs a (k_w (k_w S_64 1 w1_64.toNatClampNeg w0_64) 1 (((5 : Int32) + x3_64).toNatClampNeg) x4_64) L) _ := k_eq hP (wsX7_a1 cs a (k_w S_64 1 w1_64.toNatClampNeg w0_64) L (((5 : Int32) + x3_64).toNatClampNeg) x4_64)
          have hD := hDA (k_w (k_w S_64 1 w1_64.toNatClampNeg w0_64) 1 (((5 : Int32) + x3_64).toNatClampNeg) x4_64) L
          refine lv_iinc (v := x3_64 + (1 : Int32)) (lv' := [(3, .int (x3_64 + (1 : Int32))), (0, .ref (a 0)), (1, .ref (a 1)), (2, .int p2), (4, .int x4_64)]) hx hb dX7_goDay_86 hl (k := 3) rfl rfl (by decide) rfl (fun ls hl => ?_)
          refine lv_goto (tgt := 7) hx hb dX7_goDay_89 (by decide) ?_
          exact ih1 (x3_64 + (1 : Int32)) (k_w (k_w S_64 1 w1_64.toNatClampNeg w0_64) 1 (((5 : Int32) + x3_64).toNatClampNeg) x4_64) _ _ _ (dn_bk hd hy1) (lv_sub hl [1, 2, 3, 0] rfl) hP hS
        · have hd := dn_t c72 hd
          refine lv_aload_n hx hb dX7_goDay_75 rfl (lv_at hl 1 rfl) ?_
          refine lv_iconst (v := (5 : Int32)) hx hb dX7_goDay_76 (by decide) ?_
          refine lv_iload_n hx hb dX7_goDay_77 rfl (lv_at hl 3 rfl) ?_
          refine lv_iadd hx hb dX7_goDay_78 ?_
          obtain ⟨hi79, hd⟩ := dn_i hd
          refine k_iald (D := D) (k := ((5 : Int32) + x3_64).toNatClampNeg) (by rfl) hx hb hK hP 1 1 rfl rfl hi79 dX7_goDay_79 ?_
          refine lv_goto (tgt := 85) hx hb dX7_goDay_80 (by decide) ?_
          obtain ⟨hi85, hd⟩ := dn_i hd
          refine k_iast (D := D) (k := ((5 : Int32) + x3_64).toNatClampNeg) (by rfl) hx hb hK hP hD hS 1 1 rfl rfl hi85 dX7_goDay_85 (fun H locs hP hD hS => ?_)
          have hP : va_P D vwCl (wX7 cs a (k_w (k_w S_64 1 w1_64.toNatClampNeg w0_64) 1 (((5 : Int32) + x3_64).toNatClampNeg) ((k_w S_64 1 w1_64.toNatClampNeg w0_64) 1 ((5 : Int32) + x3_64).toNatClampNeg)) L) _ := k_eq hP (wsX7_a1 cs a (k_w S_64 1 w1_64.toNatClampNeg w0_64) L (((5 : Int32) + x3_64).toNatClampNeg) ((k_w S_64 1 w1_64.toNatClampNeg w0_64) 1 ((5 : Int32) + x3_64).toNatClampNeg))
          have hD := hDA (k_w (k_w S_64 1 w1_64.toNatClampNeg w0_64) 1 (((5 : Int32) + x3_64).toNatClampNeg) ((k_w S_64 1 w1_64.toNatClampNeg w0_64) 1 ((5 : Int32) + x3_64).toNatClampNeg)) L
          refine lv_iinc (v := x3_64 + (1 : Int32)) (lv' := [(3, .int (x3_64 + (1 : Int32))), (0, .ref (a 0)), (1, .ref (a 1)), (2, .int p2), (4, .int x4_64)]) hx hb dX7_goDay_86 hl (k := 3) rfl rfl (by decide) rfl (fun ls hl => ?_)
          refine lv_goto (tgt := 7) hx hb dX7_goDay_89 (by decide) ?_
          exact ih1 (x3_64 + (1 : Int32)) (k_w (k_w S_64 1 w1_64.toNatClampNeg w0_64) 1 (((5 : Int32) + x3_64).toNatClampNeg) ((k_w S_64 1 w1_64.toNatClampNeg w0_64) 1 ((5 : Int32) + x3_64).toNatClampNeg)) _ _ _ (dn_bk hd hy1) (lv_sub hl [1, 2, 3, 0] rfl) hP hS
      unfold nX7_goDay_1_l7 at hd
      refine lv_iload_n hx hb dX7_goDay_7 rfl (lv_at hl 3 rfl) ?_
      refine lv_aload_n hx hb dX7_goDay_8 rfl (lv_at hl 1 rfl) ?_
      refine lv_iconst (v := (1 : Int32)) hx hb dX7_goDay_9 (by decide) ?_
      refine k_iald (D := D) (k := 1) (by rfl) hx hb hK hP 1 1 rfl rfl (k_in (by decide)) dX7_goDay_10 ?_
      refine lv_icmp_ge (tgt := 92) hx hb dX7_goDay_11 (by decide) (fun c11 => ?_) (fun c11 => ?_)
      · have hd := dn_t c11 hd
        have hd := dn_up hd hy1
        have e1 := dn_s1 hd
        exact k_vret hx hb hr hQ hAe (by rw [e1]) hP hS hlocks dX7_goDay_92
      · have hd := dn_f c11 hd
        refine lv_aload_n hx hb dX7_goDay_14 rfl (lv_at hl 1 rfl) ?_
        refine lv_bipush (v := (10 : Int32)) hx hb dX7_goDay_15 (by decide) ?_
        refine lv_iload_n hx hb dX7_goDay_17 rfl (lv_at hl 3 rfl) ?_
        refine lv_iadd hx hb dX7_goDay_18 ?_
        obtain ⟨hi19, hd⟩ := dn_i hd
        refine k_iald (D := D) (k := ((10 : Int32) + x3_7).toNatClampNeg) (by rfl) hx hb hK hP 1 1 rfl rfl hi19 dX7_goDay_19 ?_
        refine lv_if_eq (tgt := 86) hx hb dX7_goDay_20 (by decide) (fun c20 => ?_) (fun c20 => ?_)
        · have hd := dn_t c20 hd
          refine lv_iinc (v := x3_7 + (1 : Int32)) (lv' := [(3, .int (x3_7 + (1 : Int32))), (0, .ref (a 0)), (1, .ref (a 1)), (2, .int p2)]) hx hb dX7_goDay_86 hl (k := 3) rfl rfl (by decide) rfl (fun ls hl => ?_)
          refine lv_goto (tgt := 7) hx hb dX7_goDay_89 (by decide) ?_
          exact ih1 (x3_7 + (1 : Int32)) S_7 _ _ _ (dn_bk hd hy1) (lv_sub hl [1, 2, 3, 0] rfl) hP hS
        · have hd := dn_f c20 hd
          refine lv_aload_n hx hb dX7_goDay_23 rfl (lv_at hl 0 rfl) ?_
          refine lv_aload_n hx hb dX7_goDay_24 rfl (lv_at hl 1 rfl) ?_
          refine lv_aload_n hx hb dX7_goDay_25 rfl (lv_at hl 1 rfl) ?_
          refine lv_bipush (v := (65 : Int32)) hx hb dX7_goDay_26 (by decide) ?_
          refine lv_iload_n hx hb dX7_goDay_28 rfl (lv_at hl 3 rfl) ?_
          refine lv_iadd hx hb dX7_goDay_29 ?_
          obtain ⟨hi30, hd⟩ := dn_i hd
          refine k_iald (D := D) (k := ((65 : Int32) + x3_7).toNatClampNeg) (by rfl) hx hb hK hP 1 1 rfl rfl hi30 dX7_goDay_30 ?_
          refine lv_aload_n hx hb dX7_goDay_31 rfl (lv_at hl 1 rfl) ?_
          refine lv_bipush (v := (70 : Int32)) hx hb dX7_goDay_32 (by decide) ?_
          refine lv_iload_n hx hb dX7_goDay_34 rfl (lv_at hl 3 rfl) ?_
          refine lv_iadd hx hb dX7_goDay_35 ?_
          obtain ⟨hi36, hd⟩ := dn_i hd
          refine k_iald (D := D) (k := ((70 : Int32) + x3_7).toNatClampNeg) (by rfl) hx hb hK hP 1 1 rfl rfl hi36 dX7_goDay_36 ?_
          refine lv_iload_n hx hb dX7_goDay_37 rfl (lv_at hl 2 rfl) ?_
          refine lv_aload_n hx hb dX7_goDay_38 rfl (lv_at hl 1 rfl) ?_
          refine lv_iconst (v := (5 : Int32)) hx hb dX7_goDay_39 (by decide) ?_
          refine lv_iload_n hx hb dX7_goDay_40 rfl (lv_at hl 3 rfl) ?_
          refine lv_iadd hx hb dX7_goDay_41 ?_
          obtain ⟨hi42, hd⟩ := dn_i hd
          refine k_iald (D := D) (k := ((5 : Int32) + x3_7).toNatClampNeg) (by rfl) hx hb hK hP 1 1 rfl rfl hi42 dX7_goDay_42 ?_
          obtain ⟨r43, hq43, hd⟩ := dn_b1 hd
          have hF := k_self hD hS hA
          refine k_run_i (va_runV (As := [.ref (a 1), .int (S_7 1 ((65 : Int32) + x3_7).toNatClampNeg), .int (S_7 1 ((70 : Int32) + x3_7).toNatClampNeg), .int p2, .int (S_7 1 ((5 : Int32) + x3_7).toNatClampNeg)]) (rest := []) ⟨hx, hb, hml, hown, hts⟩ (mX7_comesTo_1 l D cs a S_7 L (S_7 1 ((65 : Int32) + x3_7).toNatClampNeg) (S_7 1 ((70 : Int32) + x3_7).toNatClampNeg) p2 (S_7 1 ((5 : Int32) + x3_7).toNatClampNeg) r43 hq43 _) (cwV 5 hts gX7_goDay_X7_comesTo rfl rfl rfl (by decide +kernel) ⟨Nat.le_of_ble_eq_true rfl, Nat.le_of_ble_eq_true rfl⟩) ⟨k_blind, va_recv hK hP (ci := 5) (q0 := 0) rfl rfl, k_pre hP hK hNn hD⟩ rfl rfl hl.1 rfl (lv_room (Nat.le_of_ble_eq_true rfl)) dX7_goDay_43 ⟨Nat.le_of_ble_eq_true rfl, Nat.le_of_ble_eq_true rfl⟩) hS hF (fun H locs hP1 hk hS => ?_)
          have hP : va_P D vwCl (wX7 cs a S_7 L) _ := hP1
          have hD := hDA S_7 L
          refine lv_istore (lv' := [(4, .int r43), (0, .ref (a 0)), (1, .ref (a 1)), (2, .int p2), (3, .int x3_7)]) hx hb dX7_goDay_46 hl (by decide) rfl (fun ls hl => ?_)
          refine lv_aload_n hx hb dX7_goDay_48 rfl (lv_at hl 2 rfl) ?_
          refine lv_bipush (v := (10 : Int32)) hx hb dX7_goDay_49 (by decide) ?_
          refine lv_iload_n hx hb dX7_goDay_51 rfl (lv_at hl 4 rfl) ?_
          refine lv_iadd hx hb dX7_goDay_52 ?_
          refine lv_iload hx hb dX7_goDay_53 (lv_at hl 0 rfl) ?_
          refine lv_iconst (v := (-1 : Int32)) hx hb dX7_goDay_55 (by decide) ?_
          refine lv_icmp_ne (tgt := 63) hx hb dX7_goDay_56 (by decide) (fun c56 => ?_) (fun c56 => ?_)
          · have hd := dn_f c56 hd
            refine lv_iconst (v := (0 : Int32)) hx hb dX7_goDay_63 (by decide) ?_
            exact Jo64 x3_7 r43 (0 : Int32) ((10 : Int32) + x3_7) S_7 _ _ _ hd (lv_sub hl [1, 2, 3, 4, 0] rfl) hP hS
          · have hd := dn_t c56 hd
            refine lv_iconst (v := (2 : Int32)) hx hb dX7_goDay_59 (by decide) ?_
            refine lv_goto (tgt := 64) hx hb dX7_goDay_60 (by decide) ?_
            exact Jo64 x3_7 r43 (2 : Int32) ((10 : Int32) + x3_7) S_7 _ _ _ hd (lv_sub hl [1, 2, 3, 4, 0] rfl) hP hS
  unfold nX7_goDay_1 at hd
  refine lv_aload_n hx hb dX7_goDay_0 rfl (lv_at hl 0 rfl) ?_
  refine lv_aload_n hx hb dX7_goDay_1 rfl (lv_at hl 1 rfl) ?_
  obtain ⟨S2, hq2, hd⟩ := dn_b1 hd
  have hF := k_self hD hS hA
  refine k_run_v (va_runV (As := [.ref (a 1)]) (rest := []) ⟨hx, hb, hml, hown, hts⟩ (mX7_layCoats_1 l D cs a S L S2 hq2 _) (cwV 1 hts gX7_goDay_X7_layCoats rfl rfl rfl (by decide +kernel) ⟨Nat.le_of_ble_eq_true rfl, Nat.le_of_ble_eq_true rfl⟩) ⟨k_blind, va_recv hK hP (ci := 5) (q0 := 0) rfl rfl, k_pre hP hK hNn hD⟩ rfl rfl hl.1 rfl (lv_room (Nat.le_of_ble_eq_true rfl)) dX7_goDay_2 ⟨Nat.le_of_ble_eq_true rfl, Nat.le_of_ble_eq_true rfl⟩) hS hF (fun H locs hP1 hk hS => ?_)
  have hP : va_P D vwCl (wX7 cs a S2 L) _ := hP1
  have hD := hDA S2 L
  refine lv_iconst (v := (0 : Int32)) hx hb dX7_goDay_5 (by decide) ?_
  refine lv_istore_n (lv' := [(3, .int (0 : Int32)), (0, .ref (a 0)), (1, .ref (a 1)), (2, .int p2)]) hx hb dX7_goDay_6 rfl hl (by decide) rfl (fun ls hl => ?_)
  exact Lo7 1000 (0 : Int32) S2 _ _ _ hd (lv_sub hl [1, 2, 3, 0] rfl) hP hS
-- LeastNeedModel.manyIn([II)I
set_option maxRecDepth 20000 in
def nX7_manyIn_1_i5_j30 (p2 : Int32) (x4_30 : Int32) (w0_30 : Int32) (w1_30 : Int32) (S : Nat → Nat → Int32) (L : Nat → Nat → Int64) : Option ((Int32 × Int32) ⊕ (Int32)) := some (.inl ((w1_30 + w0_30), (x4_30 + (1 : Int32))))
set_option maxRecDepth 20000 in
def nX7_manyIn_1_l5 (p2 : Int32) (x3_5 : Int32) (x4_5 : Int32) (S : Nat → Nat → Int32) (L : Nat → Nat → Int64) : Option ((Int32 × Int32) ⊕ (Int32)) := if (S 1 1) ≤ x4_5 then k_up (some x3_5) else if ((10 : Int32) + x4_5) < 0 ∨ 284 ≤ ((10 : Int32) + x4_5).toNatClampNeg then none else if (S 1 ((10 : Int32) + x4_5).toNatClampNeg) = p2 then nX7_manyIn_1_i5_j30 p2 x4_5 (1 : Int32) x3_5 S L else nX7_manyIn_1_i5_j30 p2 x4_5 (0 : Int32) x3_5 S L
set_option maxRecDepth 20000 in
def nX7_manyIn_1 (S : Nat → Nat → Int32) (L : Nat → Nat → Int64) (p2 : Int32) : Option (Int32) := k_it (fun st => nX7_manyIn_1_l5 p2 st.1 st.2 S L) 1000 ((0 : Int32), (0 : Int32))
set_option maxHeartbeats 4000000 in
set_option maxRecDepth 100000 in
theorem mX7_manyIn_1 (l : Launch) (D : va_G) (cs : Nat → ClassId) (a : Nat → Nat) (S : Nat → Nat → Int32) (L : Nat → Nat → Int64) (p2 : Int32) (r9 : Int32) (hd : nX7_manyIn_1 S L p2 = some r9) : ∀ sz : Nat, Met l yX7_manyIn wsX7_manyIn ({ frames := 0, cells := 0, slots := 0, locals := 0 }) (k_Pc D cs [.ref (a 0), .ref (a 1), .int p2] (wX7 cs a S L) sz) (k_Qi D r9 (wX7 cs a S L) (wX7 cs a S L) sz) 0 0 (va_A (wX7 cs a S L) sz) := by
  intro sz
  refine Met.ofW (cc := cX7_manyIn) (maxL := 5) (ret := (some .int)) (by decide) rfl ?_
  intro p e s m args below meth c s₁ B hml hv
  obtain ⟨rfl, hsz, hP, hK, hD0, hNn⟩ := hv
  have hx := B.exec
  have hb := B.bytes
  have hr := B.returns
  have hts := atoms_spec (ws := wsX7_manyIn) B.pre
  have hown : s.vm.findClass RX7 = some m.cls := findClass_of_methodNamed B.named
  have hlocks := B.notSynchronized
  subst hsz
  obtain ⟨A, hAe⟩ : ∃ A : Nat → Prop, A = va_A (wX7 cs a S L) s.heap.size := ⟨_, rfl⟩
  have hD : va_D A (wX7 cs a S L) := by rw [hAe]; exact hD0.self
  have hA : ∀ q : Nat, s.heap.size ≤ q → A q := fun q h => by rw [hAe]; exact Or.inr h
  have hS : va_S A s.heap s.heap [] := va_S.rf
  have hDA : ∀ (S : Nat → Nat → Int32) (L : Nat → Nat → Int64), va_D A (wX7 cs a S L) := fun S L => k_DA hD rfl
  have hl := lv_entry ([.ref (a 0), .ref (a 1), .int p2]) (n := 5) (Nat.le_of_ble_eq_true rfl)
  rw [lg_entry_eq]
  generalize (lg_sl ([.ref (a 0), .ref (a 1), .int p2]) ++ List.replicate (5 - (lg_sl ([.ref (a 0), .ref (a 1), .int p2])).length) Slot.unset).toArray = ls at hl ⊢
  have hl : lv_has ls 5 [(0, .ref (a 0)), (1, .ref (a 1)), (2, .int p2)] := hl
  obtain ⟨Q, hQ⟩ : ∃ Q, Q = MQ below (k_Qi D r9 (wX7 cs a S L) (wX7 cs a S L) s.heap.size) ([.ref (a 0), .ref (a 1), .int p2] : List Value).toArray s 0 0 (va_A (wX7 cs a S L) s.heap.size) := ⟨_, rfl⟩
  rw [← hQ]
  have Lo5 : ∀ (n1 : Nat) (x3_5 : Int32) (x4_5 : Int32) (H : Heap) (locs : List Loc) (ls : Array Slot), k_it (fun st => nX7_manyIn_1_l5 p2 st.1 st.2 S L) n1 (x3_5, x4_5) = some r9 → lv_has ls 5 [(1, .ref (a 1)), (2, .int p2), (3, .int x3_5), (4, .int x4_5)] → va_P D vwCl (wX7 cs a S L) H → va_S A s.heap H locs → W p l e (headSpec wsX7_manyIn ({ frames := 0, cells := 0, slots := 0, locals := 0 })).room s m ([.ref (a 0), .ref (a 1), .int p2] : List Value).toArray below meth c H locs 0 0 Q (F0 m 5 ls []) := by
    intro n1
    induction n1 with
    | zero => intro x3_5 x4_5 H locs ls hd; exact dn_it0 hd
    | succ n1 ih1 =>
      intro x3_5 x4_5 H locs ls hd hl hP hS
      have hD := hDA S L
      obtain ⟨y1, hd, hy1⟩ := dn_it hd
      have hd : nX7_manyIn_1_l5 p2 x3_5 x4_5 S L = some y1 := hd
      have Jo30 : ∀ (x4_30 : Int32) (w0_30 : Int32) (w1_30 : Int32) (H : Heap) (locs : List Loc) (ls : Array Slot), nX7_manyIn_1_i5_j30 p2 x4_30 w0_30 w1_30 S L = some y1 → lv_has ls 5 [(1, .ref (a 1)), (2, .int p2), (4, .int x4_30)] → va_P D vwCl (wX7 cs a S L) H → va_S A s.heap H locs → W p l e (headSpec wsX7_manyIn ({ frames := 0, cells := 0, slots := 0, locals := 0 })).room s m ([.ref (a 0), .ref (a 1), .int p2] : List Value).toArray below meth c H locs 0 0 Q (F0 m 30 ls [.int w0_30, .int w1_30]) := by
        intro x4_30 w0_30 w1_30 H locs ls hd hl hP hS
        have hD := hDA S L
        unfold nX7_manyIn_1_i5_j30 at hd
        refine lv_iadd hx hb dX7_manyIn_30 ?_
        refine lv_istore_n (lv' := [(3, .int (w1_30 + w0_30)), (1, .ref (a 1)), (2, .int p2), (4, .int x4_30)]) hx hb dX7_manyIn_31 rfl hl (by decide) rfl (fun ls hl => ?_)
        refine lv_iinc (v := x4_30 + (1 : Int32)) (lv' := [(4, .int (x4_30 + (1 : Int32))), (3, .int (w1_30 + w0_30)), (1, .ref (a 1)), (2, .int p2)]) hx hb dX7_manyIn_32 hl (k := 3) rfl rfl (by decide) rfl (fun ls hl => ?_)
        refine lv_goto (tgt := 5) hx hb dX7_manyIn_35 (by decide) ?_
        exact ih1 (w1_30 + w0_30) (x4_30 + (1 : Int32)) _ _ _ (dn_bk hd hy1) (lv_sub hl [2, 3, 1, 0] rfl) hP hS
      unfold nX7_manyIn_1_l5 at hd
      refine lv_iload hx hb dX7_manyIn_5 (lv_at hl 3 rfl) ?_
      refine lv_aload_n hx hb dX7_manyIn_7 rfl (lv_at hl 0 rfl) ?_
      refine lv_iconst (v := (1 : Int32)) hx hb dX7_manyIn_8 (by decide) ?_
      refine k_iald (D := D) (k := 1) (by rfl) hx hb hK hP 1 1 rfl rfl (k_in (by decide)) dX7_manyIn_9 ?_
      refine lv_icmp_ge (tgt := 38) hx hb dX7_manyIn_10 (by decide) (fun c10 => ?_) (fun c10 => ?_)
      · have hd := dn_t c10 hd
        have hd := dn_up hd hy1
        refine lv_iload_n hx hb dX7_manyIn_38 rfl (lv_at hl 2 rfl) ?_
        have e1 := dn_s1 hd
        exact k_iret hx hb hr hQ hAe e1 rfl hP hS hlocks dX7_manyIn_39
      · have hd := dn_f c10 hd
        refine lv_iload_n hx hb dX7_manyIn_13 rfl (lv_at hl 2 rfl) ?_
        refine lv_aload_n hx hb dX7_manyIn_14 rfl (lv_at hl 0 rfl) ?_
        refine lv_bipush (v := (10 : Int32)) hx hb dX7_manyIn_15 (by decide) ?_
        refine lv_iload hx hb dX7_manyIn_17 (lv_at hl 3 rfl) ?_
        refine lv_iadd hx hb dX7_manyIn_19 ?_
        obtain ⟨hi20, hd⟩ := dn_i hd
        refine k_iald (D := D) (k := ((10 : Int32) + x4_5).toNatClampNeg) (by rfl) hx hb hK hP 1 1 rfl rfl hi20 dX7_manyIn_20 ?_
        refine lv_iload_n hx hb dX7_manyIn_21 rfl (lv_at hl 1 rfl) ?_
        refine lv_icmp_ne (tgt := 29) hx hb dX7_manyIn_22 (by decide) (fun c22 => ?_) (fun c22 => ?_)
        · have hd := dn_f c22 hd
          refine lv_iconst (v := (0 : Int32)) hx hb dX7_manyIn_29 (by decide) ?_
          exact Jo30 x4_5 (0 : Int32) x3_5 _ _ _ hd (lv_sub hl [0, 1, 3] rfl) hP hS
        · have hd := dn_t c22 hd
          refine lv_iconst (v := (1 : Int32)) hx hb dX7_manyIn_25 (by decide) ?_
          refine lv_goto (tgt := 30) hx hb dX7_manyIn_26 (by decide) ?_
          exact Jo30 x4_5 (1 : Int32) x3_5 _ _ _ hd (lv_sub hl [0, 1, 3] rfl) hP hS
  unfold nX7_manyIn_1 at hd
  refine lv_iconst (v := (0 : Int32)) hx hb dX7_manyIn_0 (by decide) ?_
  refine lv_istore_n (lv' := [(3, .int (0 : Int32)), (0, .ref (a 0)), (1, .ref (a 1)), (2, .int p2)]) hx hb dX7_manyIn_1 rfl hl (by decide) rfl (fun ls hl => ?_)
  refine lv_iconst (v := (0 : Int32)) hx hb dX7_manyIn_2 (by decide) ?_
  refine lv_istore (lv' := [(4, .int (0 : Int32)), (3, .int (0 : Int32)), (0, .ref (a 0)), (1, .ref (a 1)), (2, .int p2)]) hx hb dX7_manyIn_3 hl (by decide) rfl (fun ls hl => ?_)
  exact Lo5 1000 (0 : Int32) (0 : Int32) _ _ _ hd (lv_sub hl [3, 4, 1, 0] rfl) hP hS
-- LeastNeedModel.day(I)I
set_option maxRecDepth 20000 in
def nX7_day_j75 (S_75 : Nat → Nat → Int32) (L : Nat → Nat → Int64) : Option (Int32 × (Nat → Nat → Int32)) := k_b1 (nX7_manyIn_1 S_75 L (2 : Int32)) (fun r81 => some (r81, S_75))
set_option maxRecDepth 20000 in
def nX7_day_l25 (p1 : Int32) (x2_25 : Int32) (S_25 : Nat → Nat → Int32) (L : Nat → Nat → Int64) : Option ((Int32 × (Nat → Nat → Int32)) ⊕ (Int32 × (Nat → Nat → Int32))) := if p1 ≤ x2_25 then k_up (nX7_day_j75 S_25 L) else if (9999 : Int32) ≤ (S_25 1 22) then k_up (nX7_day_j75 S_25 L) else k_b1 (nX7_goDay_1 S_25 L (S_25 1 22)) (fun S55 => some (.inl ((x2_25 + (1 : Int32)), (k_w S55 1 22 ((S55 1 22) + (1 : Int32))))))
set_option maxRecDepth 20000 in
def nX7_day (S : Nat → Nat → Int32) (L : Nat → Nat → Int64) (p1 : Int32) : Option (Int32 × (Nat → Nat → Int32)) := k_b1 (nX7_in p1.toInt64 (1 : Int64) (99 : Int64)) (fun r6 => if r6 = 0 then k_b2 (nX7_bad S L (-2 : Int32)) (fun r15 S15 => some (r15, S15)) else k_b1 (nX7_keep S L) (fun S20 => k_it (fun st => nX7_day_l25 p1 st.1 st.2 L) 1000 ((0 : Int32), S20)))
set_option maxHeartbeats 4000000 in
set_option maxRecDepth 100000 in
theorem mX7_day (l : Launch) (D : va_G) (cs : Nat → ClassId) (a : Nat → Nat) (S : Nat → Nat → Int32) (L : Nat → Nat → Int64) (p1 : Int32) (r9 : Int32) (S9 : (Nat → Nat → Int32)) (hd : nX7_day S L p1 = some (r9, S9)) : ∀ sz : Nat, Met l yX7_day wsX7_day ({ frames := 5, cells := 0, slots := 0, locals := 130 }) (k_Pc D cs [.ref (a 0), .int p1] (wX7 cs a S L) sz) (k_Qi D r9 (wX7 cs a S L) (wX7 cs a S9 L) sz) 0 0 (va_A (wX7 cs a S L) sz) := by
  intro sz
  refine Met.ofW (cc := cX7_day) (maxL := 3) (ret := (some .int)) (by decide) rfl ?_
  intro p e s m args below meth c s₁ B hml hv
  obtain ⟨rfl, hsz, hP, hK, hD0, hNn⟩ := hv
  have hx := B.exec
  have hb := B.bytes
  have hr := B.returns
  have hts := atoms_spec (ws := wsX7_day) B.pre
  have hown : s.vm.findClass RX7 = some m.cls := findClass_of_methodNamed B.named
  have hlocks := B.notSynchronized
  subst hsz
  obtain ⟨A, hAe⟩ : ∃ A : Nat → Prop, A = va_A (wX7 cs a S L) s.heap.size := ⟨_, rfl⟩
  have hD : va_D A (wX7 cs a S L) := by rw [hAe]; exact hD0.self
  have hA : ∀ q : Nat, s.heap.size ≤ q → A q := fun q h => by rw [hAe]; exact Or.inr h
  have hS : va_S A s.heap s.heap [] := va_S.rf
  have hDA : ∀ (S : Nat → Nat → Int32) (L : Nat → Nat → Int64), va_D A (wX7 cs a S L) := fun S L => k_DA hD rfl
  have hl := lv_entry ([.ref (a 0), .int p1]) (n := 3) (Nat.le_of_ble_eq_true rfl)
  rw [lg_entry_eq]
  generalize (lg_sl ([.ref (a 0), .int p1]) ++ List.replicate (3 - (lg_sl ([.ref (a 0), .int p1])).length) Slot.unset).toArray = ls at hl ⊢
  have hl : lv_has ls 3 [(0, .ref (a 0)), (1, .int p1)] := hl
  obtain ⟨Q, hQ⟩ : ∃ Q, Q = MQ below (k_Qi D r9 (wX7 cs a S L) (wX7 cs a S9 L) s.heap.size) ([.ref (a 0), .int p1] : List Value).toArray s 0 0 (va_A (wX7 cs a S L) s.heap.size) := ⟨_, rfl⟩
  rw [← hQ]
  have Jo75 : ∀ (S_75 : Nat → Nat → Int32) (H : Heap) (locs : List Loc) (ls : Array Slot), nX7_day_j75 S_75 L = some (r9, S9) → lv_has ls 3 [(0, .ref (a 0))] → va_P D vwCl (wX7 cs a S_75 L) H → va_S A s.heap H locs → W p l e (headSpec wsX7_day ({ frames := 5, cells := 0, slots := 0, locals := 130 })).room s m ([.ref (a 0), .int p1] : List Value).toArray below meth c H locs 0 0 Q (F0 m 75 ls []) := by
    intro S_75 H locs ls hd hl hP hS
    have hD := hDA S_75 L
    unfold nX7_day_j75 at hd
    refine lv_aload_n hx hb dX7_day_75 rfl (lv_at hl 0 rfl) ?_
    refine lv_aload_n hx hb dX7_day_76 rfl (lv_at hl 0 rfl) ?_
    refine va_get (D := D) (ci := 5) (v := .ref (a 1)) (C := RX7) (T := TX7) (N := 25) hx hb hts (fun w h => List.mem_cons_of_mem _ (List.mem_append_right _ h)) hown hK hP 0 rfl rfl 0 (by decide) (hts (.fieldLink RX7 7 "LeastNeedModel" "told" "[I") (List.mem_of_getElem? (i := 2) rfl)) (fun _ h9 => h9) rfl dX7_day_77 ?_
    refine lv_iconst (v := (2 : Int32)) hx hb dX7_day_80 (by decide) ?_
    obtain ⟨r81, hq81, hd⟩ := dn_b1 hd
    have hF := k_self hD hS hA
    refine k_run_i (va_runV (As := [.ref (a 1), .int (2 : Int32)]) (rest := []) ⟨hx, hb, hml, hown, hts⟩ (mX7_manyIn_1 l D cs a S_75 L (2 : Int32) r81 hq81 _) (cwV 2 hts gX7_day_X7_manyIn rfl rfl rfl (by decide +kernel) ⟨Nat.le_of_ble_eq_true rfl, Nat.le_of_ble_eq_true rfl⟩) ⟨k_blind, va_recv hK hP (ci := 5) (q0 := 0) rfl rfl, k_pre hP hK hNn hD⟩ rfl rfl hl.1 rfl (lv_room (Nat.le_of_ble_eq_true rfl)) dX7_day_81 ⟨Nat.le_of_ble_eq_true rfl, Nat.le_of_ble_eq_true rfl⟩) hS hF (fun H locs hP1 hk hS => ?_)
    have hP : va_P D vwCl (wX7 cs a S_75 L) _ := hP1
    have hD := hDA S_75 L
    obtain ⟨e1, e2⟩ := dn_s2 hd
    exact k_iret hx hb hr hQ hAe e1 (by rw [e2]) hP hS hlocks dX7_day_84
  have Lo25 : ∀ (n1 : Nat) (x2_25 : Int32) (S_25 : Nat → Nat → Int32) (H : Heap) (locs : List Loc) (ls : Array Slot), k_it (fun st => nX7_day_l25 p1 st.1 st.2 L) n1 (x2_25, S_25) = some (r9, S9) → lv_has ls 3 [(0, .ref (a 0)), (1, .int p1), (2, .int x2_25)] → va_P D vwCl (wX7 cs a S_25 L) H → va_S A s.heap H locs → W p l e (headSpec wsX7_day ({ frames := 5, cells := 0, slots := 0, locals := 130 })).room s m ([.ref (a 0), .int p1] : List Value).toArray below meth c H locs 0 0 Q (F0 m 25 ls []) := by
    intro n1
    induction n1 with
    | zero => intro x2_25 S_25 H locs ls hd; exact dn_it0 hd
    | succ n1 ih1 =>
      intro x2_25 S_25 H locs ls hd hl hP hS
      have hD := hDA S_25 L
      obtain ⟨y1, hd, hy1⟩ := dn_it hd
      have hd : nX7_day_l25 p1 x2_25 S_25 L = some y1 := hd
      unfold nX7_day_l25 at hd
      refine lv_iload_n hx hb dX7_day_25 rfl (lv_at hl 2 rfl) ?_
      refine lv_iload_n hx hb dX7_day_26 rfl (lv_at hl 1 rfl) ?_
      refine lv_icmp_ge (tgt := 75) hx hb dX7_day_27 (by decide) (fun c27 => ?_) (fun c27 => ?_)
      · have hd := dn_t c27 hd
        have hd := dn_up hd hy1
        exact Jo75 S_25 _ _ _ hd (lv_sub hl [0] rfl) hP hS
      · have hd := dn_f c27 hd
        refine lv_aload_n hx hb dX7_day_30 rfl (lv_at hl 0 rfl) ?_
        refine va_get (D := D) (ci := 5) (v := .ref (a 1)) (C := RX7) (T := TX7) (N := 25) hx hb hts (fun w h => List.mem_cons_of_mem _ (List.mem_append_right _ h)) hown hK hP 0 rfl rfl 0 (by decide) (hts (.fieldLink RX7 7 "LeastNeedModel" "told" "[I") (List.mem_of_getElem? (i := 2) rfl)) (fun _ h9 => h9) rfl dX7_day_31 ?_
        refine lv_bipush (v := (22 : Int32)) hx hb dX7_day_34 (by decide) ?_
        refine k_iald (D := D) (k := 22) (by rfl) hx hb hK hP 1 1 rfl rfl (k_in (by decide)) dX7_day_36 ?_
        refine lv_sipush (v := (9999 : Int32)) hx hb dX7_day_37 (by decide) ?_
        refine lv_icmp_ge (tgt := 75) hx hb dX7_day_40 (by decide) (fun c40 => ?_) (fun c40 => ?_)
        · have hd := dn_t c40 hd
          have hd := dn_up hd hy1
          exact Jo75 S_25 _ _ _ hd (lv_sub hl [0] rfl) hP hS
        · have hd := dn_f c40 hd
          refine lv_aload_n hx hb dX7_day_43 rfl (lv_at hl 0 rfl) ?_
          refine lv_aload_n hx hb dX7_day_44 rfl (lv_at hl 0 rfl) ?_
          refine va_get (D := D) (ci := 5) (v := .ref (a 1)) (C := RX7) (T := TX7) (N := 25) hx hb hts (fun w h => List.mem_cons_of_mem _ (List.mem_append_right _ h)) hown hK hP 0 rfl rfl 0 (by decide) (hts (.fieldLink RX7 7 "LeastNeedModel" "told" "[I") (List.mem_of_getElem? (i := 2) rfl)) (fun _ h9 => h9) rfl dX7_day_45 ?_
          refine lv_aload_n hx hb dX7_day_48 rfl (lv_at hl 0 rfl) ?_
          refine va_get (D := D) (ci := 5) (v := .ref (a 1)) (C := RX7) (T := TX7) (N := 25) hx hb hts (fun w h => List.mem_cons_of_mem _ (List.mem_append_right _ h)) hown hK hP 0 rfl rfl 0 (by decide) (hts (.fieldLink RX7 7 "LeastNeedModel" "told" "[I") (List.mem_of_getElem? (i := 2) rfl)) (fun _ h9 => h9) rfl dX7_day_49 ?_
          refine lv_bipush (v := (22 : Int32)) hx hb dX7_day_52 (by decide) ?_
          refine k_iald (D := D) (k := 22) (by rfl) hx hb hK hP 1 1 rfl rfl (k_in (by decide)) dX7_day_54 ?_
          obtain ⟨S55, hq55, hd⟩ := dn_b1 hd
          have hF := k_self hD hS hA
          refine k_run_v (va_runV (As := [.ref (a 1), .int (S_25 1 22)]) (rest := []) ⟨hx, hb, hml, hown, hts⟩ (mX7_goDay_1 l D cs a S_25 L (S_25 1 22) S55 hq55 _) (cwV 2 hts gX7_day_X7_goDay rfl rfl rfl (by decide +kernel) ⟨Nat.le_of_ble_eq_true rfl, Nat.le_of_ble_eq_true rfl⟩) ⟨k_blind, va_recv hK hP (ci := 5) (q0 := 0) rfl rfl, k_pre hP hK hNn hD⟩ rfl rfl hl.1 rfl (lv_room (Nat.le_of_ble_eq_true rfl)) dX7_day_55 ⟨Nat.le_of_ble_eq_true rfl, Nat.le_of_ble_eq_true rfl⟩) hS hF (fun H locs hP1 hk hS => ?_)
          have hP : va_P D vwCl (wX7 cs a S55 L) _ := hP1
          have hD := hDA S55 L
          refine lv_aload_n hx hb dX7_day_58 rfl (lv_at hl 0 rfl) ?_
          refine va_get (D := D) (ci := 5) (v := .ref (a 1)) (C := RX7) (T := TX7) (N := 25) hx hb hts (fun w h => List.mem_cons_of_mem _ (List.mem_append_right _ h)) hown hK hP 0 rfl rfl 0 (by decide) (hts (.fieldLink RX7 7 "LeastNeedModel" "told" "[I") (List.mem_of_getElem? (i := 2) rfl)) (fun _ h9 => h9) rfl dX7_day_59 ?_
          refine lv_bipush (v := (22 : Int32)) hx hb dX7_day_62 (by decide) ?_
          refine lv_dup2_11 hx hb dX7_day_64 rfl rfl ?_
          refine k_iald (D := D) (k := 22) (by rfl) hx hb hK hP 1 1 rfl rfl (k_in (by decide)) dX7_day_65 ?_
          refine lv_iconst (v := (1 : Int32)) hx hb dX7_day_66 (by decide) ?_
          refine lv_iadd hx hb dX7_day_67 ?_
          refine k_iast (D := D) (k := 22) (by rfl) hx hb hK hP hD hS 1 1 rfl rfl (k_in (by decide)) dX7_day_68 (fun H locs hP hD hS => ?_)
          have hP : va_P D vwCl (wX7 cs a (k_w S55 1 22 ((S55 1 22) + (1 : Int32))) L) _ := k_eq hP (wsX7_a1 cs a S55 L 22 ((S55 1 22) + (1 : Int32)))
          have hD := hDA (k_w S55 1 22 ((S55 1 22) + (1 : Int32))) L
          refine lv_iinc (v := x2_25 + (1 : Int32)) (lv' := [(2, .int (x2_25 + (1 : Int32))), (0, .ref (a 0)), (1, .int p1)]) hx hb dX7_day_69 hl (k := 2) rfl rfl (by decide) rfl (fun ls hl => ?_)
          refine lv_goto (tgt := 25) hx hb dX7_day_72 (by decide) ?_
          exact ih1 (x2_25 + (1 : Int32)) (k_w S55 1 22 ((S55 1 22) + (1 : Int32))) _ _ _ (dn_bk hd hy1) (lv_sub hl [1, 2, 0] rfl) hP hS
  unfold nX7_day at hd
  refine lv_iload_n hx hb dX7_day_0 rfl (lv_at hl 1 rfl) ?_
  refine lv_i2l hx hb dX7_day_1 rfl ?_
  refine lv_lconst (v := (1 : Int64)) hx hb dX7_day_2 (by decide) ?_
  refine lv_ldc2 (v := (99 : Int64)) hx hb hown (hts (.constantLong RX7 161 (99)) (List.mem_of_getElem? (i := 1) rfl)) dX7_day_3 ?_
  obtain ⟨r6, hq6, hd⟩ := dn_b1 hd
  have hPc := k_P0 hP
  have hDc : va_D A ([] : va_W) := k_D0
  have hF := k_self hDc hS hA
  refine k_run_i (va_runS (As := [.long p1.toInt64, .long (1 : Int64), .long (99 : Int64)]) (rest := []) ⟨hx, hb, hml, hown, hts⟩ (mX7_in l D cs  p1.toInt64 (1 : Int64) (99 : Int64) r6 hq6 _) (va_cwS 3 hts gX7_day_X7_in rfl rfl rfl (by decide +kernel) ⟨Nat.le_of_ble_eq_true rfl, Nat.le_of_ble_eq_true rfl⟩) ⟨k_blind, k_pre hPc hK hNn hDc⟩ rfl rfl hl.1 rfl (lv_room (Nat.le_of_ble_eq_true rfl)) dX7_day_6 ⟨Nat.le_of_ble_eq_true rfl, Nat.le_of_ble_eq_true rfl⟩) hS hF (fun H locs hP1 hk hS => ?_)
  have hP : va_P D vwCl (wX7 cs a S L) _ := k_keep hP hk
  refine lv_if_ne (tgt := 19) hx hb dX7_day_9 (by decide) (fun c9 => ?_) (fun c9 => ?_)
  · have hd := dn_f c9 hd
    refine lv_aload_n hx hb dX7_day_19 rfl (lv_at hl 0 rfl) ?_
    obtain ⟨S20, hq20, hd⟩ := dn_b1 hd
    have hF := k_self hD hS hA
    refine k_run_v (va_runV (As := []) (rest := []) ⟨hx, hb, hml, hown, hts⟩ (mX7_keep l D cs a S L S20 hq20 _) (cwV 0 hts gX7_day_X7_keep rfl rfl rfl (by decide +kernel) ⟨Nat.le_of_ble_eq_true rfl, Nat.le_of_ble_eq_true rfl⟩) ⟨k_blind, va_recv hK hP (ci := 5) (q0 := 0) rfl rfl, k_pre hP hK hNn hD⟩ rfl rfl hl.1 rfl (lv_room (Nat.le_of_ble_eq_true rfl)) dX7_day_20 ⟨Nat.le_of_ble_eq_true rfl, Nat.le_of_ble_eq_true rfl⟩) hS hF (fun H locs hP1 hk hS => ?_)
    have hP : va_P D vwCl (wX7 cs a S20 L) _ := hP1
    have hD := hDA S20 L
    refine lv_iconst (v := (0 : Int32)) hx hb dX7_day_23 (by decide) ?_
    refine lv_istore_n (lv' := [(2, .int (0 : Int32)), (0, .ref (a 0)), (1, .int p1)]) hx hb dX7_day_24 rfl hl (by decide) rfl (fun ls hl => ?_)
    exact Lo25 1000 (0 : Int32) S20 _ _ _ hd (lv_sub hl [1, 2, 0] rfl) hP hS
  · have hd := dn_t c9 hd
    refine lv_aload_n hx hb dX7_day_12 rfl (lv_at hl 0 rfl) ?_
    refine lv_bipush (v := (-2 : Int32)) hx hb dX7_day_13 (by decide) ?_
    obtain ⟨r15, S15, hq15, hd⟩ := dn_b2 hd
    have hF := k_self hD hS hA
    refine k_run_i (va_runV (As := [.int (-2 : Int32)]) (rest := []) ⟨hx, hb, hml, hown, hts⟩ (mX7_bad l D cs a S L (-2 : Int32) r15 S15 hq15 _) (cwV 1 hts gX7_day_X7_bad rfl rfl rfl (by decide +kernel) ⟨Nat.le_of_ble_eq_true rfl, Nat.le_of_ble_eq_true rfl⟩) ⟨k_blind, va_recv hK hP (ci := 5) (q0 := 0) rfl rfl, k_pre hP hK hNn hD⟩ rfl rfl hl.1 rfl (lv_room (Nat.le_of_ble_eq_true rfl)) dX7_day_15 ⟨Nat.le_of_ble_eq_true rfl, Nat.le_of_ble_eq_true rfl⟩) hS hF (fun H locs hP1 hk hS => ?_)
    have hP : va_P D vwCl (wX7 cs a S15 L) _ := hP1
    have hD := hDA S15 L
    obtain ⟨e1, e2⟩ := dn_s2 hd
    exact k_iret hx hb hr hQ hAe e1 (by rw [e2]) hP hS hlocks dX7_day_18
-- LeastNeedModel.undo()I
set_option maxRecDepth 20000 in
def nX7_undo_l26 (x1_26 : Int32) (S_26 : Nat → Nat → Int32) (L : Nat → Nat → Int64) : Option ((Int32 × (Nat → Nat → Int32)) ⊕ (Int32 × (Nat → Nat → Int32))) := if (18 : Int32) ≤ x1_26 then k_up (some ((S_26 1 22), S_26)) else if (((140 : Int32) + ((18 : Int32) * (S_26 1 4))) + x1_26) < 0 ∨ 284 ≤ (((140 : Int32) + ((18 : Int32) * (S_26 1 4))) + x1_26).toNatClampNeg then none else if ((5 : Int32) + x1_26) < 0 ∨ 284 ≤ ((5 : Int32) + x1_26).toNatClampNeg then none else some (.inl ((x1_26 + (1 : Int32)), (k_w S_26 1 (((5 : Int32) + x1_26).toNatClampNeg) (S_26 1 (((140 : Int32) + ((18 : Int32) * (S_26 1 4))) + x1_26).toNatClampNeg))))
set_option maxRecDepth 20000 in
def nX7_undo (S : Nat → Nat → Int32) (L : Nat → Nat → Int64) : Option (Int32 × (Nat → Nat → Int32)) := if (S 1 4) = 0 then k_b2 (nX7_no S L) (fun r10 S10 => some (r10, S10)) else k_it (fun st => nX7_undo_l26 st.1 st.2 L) 1000 ((0 : Int32), (k_w S 1 4 ((S 1 4) - (1 : Int32))))
set_option maxHeartbeats 4000000 in
set_option maxRecDepth 100000 in
theorem mX7_undo (l : Launch) (D : va_G) (cs : Nat → ClassId) (a : Nat → Nat) (S : Nat → Nat → Int32) (L : Nat → Nat → Int64) (r9 : Int32) (S9 : (Nat → Nat → Int32)) (hd : nX7_undo S L = some (r9, S9)) : ∀ sz : Nat, Met l yX7_undo wsX7_undo ({ frames := 1, cells := 0, slots := 0, locals := 20 }) (k_Pc D cs [.ref (a 0)] (wX7 cs a S L) sz) (k_Qi D r9 (wX7 cs a S L) (wX7 cs a S9 L) sz) 0 0 (va_A (wX7 cs a S L) sz) := by
  intro sz
  refine Met.ofW (cc := cX7_undo) (maxL := 2) (ret := (some .int)) (by decide) rfl ?_
  intro p e s m args below meth c s₁ B hml hv
  obtain ⟨rfl, hsz, hP, hK, hD0, hNn⟩ := hv
  have hx := B.exec
  have hb := B.bytes
  have hr := B.returns
  have hts := atoms_spec (ws := wsX7_undo) B.pre
  have hown : s.vm.findClass RX7 = some m.cls := findClass_of_methodNamed B.named
  have hlocks := B.notSynchronized
  subst hsz
  obtain ⟨A, hAe⟩ : ∃ A : Nat → Prop, A = va_A (wX7 cs a S L) s.heap.size := ⟨_, rfl⟩
  have hD : va_D A (wX7 cs a S L) := by rw [hAe]; exact hD0.self
  have hA : ∀ q : Nat, s.heap.size ≤ q → A q := fun q h => by rw [hAe]; exact Or.inr h
  have hS : va_S A s.heap s.heap [] := va_S.rf
  have hDA : ∀ (S : Nat → Nat → Int32) (L : Nat → Nat → Int64), va_D A (wX7 cs a S L) := fun S L => k_DA hD rfl
  have hl := lv_entry ([.ref (a 0)]) (n := 2) (Nat.le_of_ble_eq_true rfl)
  rw [lg_entry_eq]
  generalize (lg_sl ([.ref (a 0)]) ++ List.replicate (2 - (lg_sl ([.ref (a 0)])).length) Slot.unset).toArray = ls at hl ⊢
  have hl : lv_has ls 2 [(0, .ref (a 0))] := hl
  obtain ⟨Q, hQ⟩ : ∃ Q, Q = MQ below (k_Qi D r9 (wX7 cs a S L) (wX7 cs a S9 L) s.heap.size) ([.ref (a 0)] : List Value).toArray s 0 0 (va_A (wX7 cs a S L) s.heap.size) := ⟨_, rfl⟩
  rw [← hQ]
  have Lo26 : ∀ (n1 : Nat) (x1_26 : Int32) (S_26 : Nat → Nat → Int32) (H : Heap) (locs : List Loc) (ls : Array Slot), k_it (fun st => nX7_undo_l26 st.1 st.2 L) n1 (x1_26, S_26) = some (r9, S9) → lv_has ls 2 [(0, .ref (a 0)), (1, .int x1_26)] → va_P D vwCl (wX7 cs a S_26 L) H → va_S A s.heap H locs → W p l e (headSpec wsX7_undo ({ frames := 1, cells := 0, slots := 0, locals := 20 })).room s m ([.ref (a 0)] : List Value).toArray below meth c H locs 0 0 Q (F0 m 26 ls []) := by
    intro n1
    induction n1 with
    | zero => intro x1_26 S_26 H locs ls hd; exact dn_it0 hd
    | succ n1 ih1 =>
      intro x1_26 S_26 H locs ls hd hl hP hS
      have hD := hDA S_26 L
      obtain ⟨y1, hd, hy1⟩ := dn_it hd
      have hd : nX7_undo_l26 x1_26 S_26 L = some y1 := hd
      unfold nX7_undo_l26 at hd
      refine lv_iload_n hx hb dX7_undo_26 rfl (lv_at hl 1 rfl) ?_
      refine lv_bipush (v := (18 : Int32)) hx hb dX7_undo_27 (by decide) ?_
      refine lv_icmp_ge (tgt := 66) hx hb dX7_undo_29 (by decide) (fun c29 => ?_) (fun c29 => ?_)
      · have hd := dn_t c29 hd
        have hd := dn_up hd hy1
        refine lv_aload_n hx hb dX7_undo_66 rfl (lv_at hl 0 rfl) ?_
        refine va_get (D := D) (ci := 5) (v := .ref (a 1)) (C := RX7) (T := TX7) (N := 25) hx hb hts (fun w h => List.mem_cons_of_mem _ (List.mem_append_right _ h)) hown hK hP 0 rfl rfl 0 (by decide) (hts (.fieldLink RX7 7 "LeastNeedModel" "told" "[I") (List.mem_of_getElem? (i := 1) rfl)) (fun _ h9 => h9) rfl dX7_undo_67 ?_
        refine lv_bipush (v := (22 : Int32)) hx hb dX7_undo_70 (by decide) ?_
        refine k_iald (D := D) (k := 22) (by rfl) hx hb hK hP 1 1 rfl rfl (k_in (by decide)) dX7_undo_72 ?_
        obtain ⟨e1, e2⟩ := dn_s2 hd
        exact k_iret hx hb hr hQ hAe e1 (by rw [e2]) hP hS hlocks dX7_undo_73
      · have hd := dn_f c29 hd
        refine lv_aload_n hx hb dX7_undo_32 rfl (lv_at hl 0 rfl) ?_
        refine va_get (D := D) (ci := 5) (v := .ref (a 1)) (C := RX7) (T := TX7) (N := 25) hx hb hts (fun w h => List.mem_cons_of_mem _ (List.mem_append_right _ h)) hown hK hP 0 rfl rfl 0 (by decide) (hts (.fieldLink RX7 7 "LeastNeedModel" "told" "[I") (List.mem_of_getElem? (i := 1) rfl)) (fun _ h9 => h9) rfl dX7_undo_33 ?_
        refine lv_iconst (v := (5 : Int32)) hx hb dX7_undo_36 (by decide) ?_
        refine lv_iload_n hx hb dX7_undo_37 rfl (lv_at hl 1 rfl) ?_
        refine lv_iadd hx hb dX7_undo_38 ?_
        refine lv_aload_n hx hb dX7_undo_39 rfl (lv_at hl 0 rfl) ?_
        refine va_get (D := D) (ci := 5) (v := .ref (a 1)) (C := RX7) (T := TX7) (N := 25) hx hb hts (fun w h => List.mem_cons_of_mem _ (List.mem_append_right _ h)) hown hK hP 0 rfl rfl 0 (by decide) (hts (.fieldLink RX7 7 "LeastNeedModel" "told" "[I") (List.mem_of_getElem? (i := 1) rfl)) (fun _ h9 => h9) rfl dX7_undo_40 ?_
        refine lv_sipush (v := (140 : Int32)) hx hb dX7_undo_43 (by decide) ?_
        refine lv_bipush (v := (18 : Int32)) hx hb dX7_undo_46 (by decide) ?_
        refine lv_aload_n hx hb dX7_undo_48 rfl (lv_at hl 0 rfl) ?_
        refine va_get (D := D) (ci := 5) (v := .ref (a 1)) (C := RX7) (T := TX7) (N := 25) hx hb hts (fun w h => List.mem_cons_of_mem _ (List.mem_append_right _ h)) hown hK hP 0 rfl rfl 0 (by decide) (hts (.fieldLink RX7 7 "LeastNeedModel" "told" "[I") (List.mem_of_getElem? (i := 1) rfl)) (fun _ h9 => h9) rfl dX7_undo_49 ?_
        refine lv_iconst (v := (4 : Int32)) hx hb dX7_undo_52 (by decide) ?_
        refine k_iald (D := D) (k := 4) (by rfl) hx hb hK hP 1 1 rfl rfl (k_in (by decide)) dX7_undo_53 ?_
        refine lv_imul hx hb dX7_undo_54 ?_
        refine lv_iadd hx hb dX7_undo_55 ?_
        refine lv_iload_n hx hb dX7_undo_56 rfl (lv_at hl 1 rfl) ?_
        refine lv_iadd hx hb dX7_undo_57 ?_
        obtain ⟨hi58, hd⟩ := dn_i hd
        refine k_iald (D := D) (k := (((140 : Int32) + ((18 : Int32) * (S_26 1 4))) + x1_26).toNatClampNeg) (by rfl) hx hb hK hP 1 1 rfl rfl hi58 dX7_undo_58 ?_
        obtain ⟨hi59, hd⟩ := dn_i hd
        refine k_iast (D := D) (k := ((5 : Int32) + x1_26).toNatClampNeg) (by rfl) hx hb hK hP hD hS 1 1 rfl rfl hi59 dX7_undo_59 (fun H locs hP hD hS => ?_)
        have hP : va_P D vwCl (wX7 cs a (k_w S_26 1 (((5 : Int32) + x1_26).toNatClampNeg) (S_26 1 (((140 : Int32) + ((18 : Int32) * (S_26 1 4))) + x1_26).toNatClampNeg)) L) _ := k_eq hP (wsX7_a1 cs a S_26 L (((5 : Int32) + x1_26).toNatClampNeg) (S_26 1 (((140 : Int32) + ((18 : Int32) * (S_26 1 4))) + x1_26).toNatClampNeg))
        have hD := hDA (k_w S_26 1 (((5 : Int32) + x1_26).toNatClampNeg) (S_26 1 (((140 : Int32) + ((18 : Int32) * (S_26 1 4))) + x1_26).toNatClampNeg)) L
        refine lv_iinc (v := x1_26 + (1 : Int32)) (lv' := [(1, .int (x1_26 + (1 : Int32))), (0, .ref (a 0))]) hx hb dX7_undo_60 hl (k := 1) rfl rfl (by decide) rfl (fun ls hl => ?_)
        refine lv_goto (tgt := 26) hx hb dX7_undo_63 (by decide) ?_
        exact ih1 (x1_26 + (1 : Int32)) (k_w S_26 1 (((5 : Int32) + x1_26).toNatClampNeg) (S_26 1 (((140 : Int32) + ((18 : Int32) * (S_26 1 4))) + x1_26).toNatClampNeg)) _ _ _ (dn_bk hd hy1) (lv_sub hl [1, 0] rfl) hP hS
  unfold nX7_undo at hd
  refine lv_aload_n hx hb dX7_undo_0 rfl (lv_at hl 0 rfl) ?_
  refine va_get (D := D) (ci := 5) (v := .ref (a 1)) (C := RX7) (T := TX7) (N := 25) hx hb hts (fun w h => List.mem_cons_of_mem _ (List.mem_append_right _ h)) hown hK hP 0 rfl rfl 0 (by decide) (hts (.fieldLink RX7 7 "LeastNeedModel" "told" "[I") (List.mem_of_getElem? (i := 1) rfl)) (fun _ h9 => h9) rfl dX7_undo_1 ?_
  refine lv_iconst (v := (4 : Int32)) hx hb dX7_undo_4 (by decide) ?_
  refine k_iald (D := D) (k := 4) (by rfl) hx hb hK hP 1 1 rfl rfl (k_in (by decide)) dX7_undo_5 ?_
  refine lv_if_ne (tgt := 14) hx hb dX7_undo_6 (by decide) (fun c6 => ?_) (fun c6 => ?_)
  · have hd := dn_f c6 hd
    refine lv_aload_n hx hb dX7_undo_14 rfl (lv_at hl 0 rfl) ?_
    refine va_get (D := D) (ci := 5) (v := .ref (a 1)) (C := RX7) (T := TX7) (N := 25) hx hb hts (fun w h => List.mem_cons_of_mem _ (List.mem_append_right _ h)) hown hK hP 0 rfl rfl 0 (by decide) (hts (.fieldLink RX7 7 "LeastNeedModel" "told" "[I") (List.mem_of_getElem? (i := 1) rfl)) (fun _ h9 => h9) rfl dX7_undo_15 ?_
    refine lv_iconst (v := (4 : Int32)) hx hb dX7_undo_18 (by decide) ?_
    refine lv_dup2_11 hx hb dX7_undo_19 rfl rfl ?_
    refine k_iald (D := D) (k := 4) (by rfl) hx hb hK hP 1 1 rfl rfl (k_in (by decide)) dX7_undo_20 ?_
    refine lv_iconst (v := (1 : Int32)) hx hb dX7_undo_21 (by decide) ?_
    refine lv_isub hx hb dX7_undo_22 ?_
    refine k_iast (D := D) (k := 4) (by rfl) hx hb hK hP hD hS 1 1 rfl rfl (k_in (by decide)) dX7_undo_23 (fun H locs hP hD hS => ?_)
    have hP : va_P D vwCl (wX7 cs a (k_w S 1 4 ((S 1 4) - (1 : Int32))) L) _ := k_eq hP (wsX7_a1 cs a S L 4 ((S 1 4) - (1 : Int32)))
    have hD := hDA (k_w S 1 4 ((S 1 4) - (1 : Int32))) L
    refine lv_iconst (v := (0 : Int32)) hx hb dX7_undo_24 (by decide) ?_
    refine lv_istore_n (lv' := [(1, .int (0 : Int32)), (0, .ref (a 0))]) hx hb dX7_undo_25 rfl hl (by decide) rfl (fun ls hl => ?_)
    exact Lo26 1000 (0 : Int32) (k_w S 1 4 ((S 1 4) - (1 : Int32))) _ _ _ hd (lv_sub hl [1, 0] rfl) hP hS
  · have hd := dn_t c6 hd
    refine lv_aload_n hx hb dX7_undo_9 rfl (lv_at hl 0 rfl) ?_
    obtain ⟨r10, S10, hq10, hd⟩ := dn_b2 hd
    have hF := k_self hD hS hA
    refine k_run_i (va_runV (As := []) (rest := []) ⟨hx, hb, hml, hown, hts⟩ (mX7_no l D cs a S L r10 S10 hq10 _) (cwV 0 hts gX7_undo_X7_no rfl rfl rfl (by decide +kernel) ⟨Nat.le_of_ble_eq_true rfl, Nat.le_of_ble_eq_true rfl⟩) ⟨k_blind, va_recv hK hP (ci := 5) (q0 := 0) rfl rfl, k_pre hP hK hNn hD⟩ rfl rfl hl.1 rfl (lv_room (Nat.le_of_ble_eq_true rfl)) dX7_undo_10 ⟨Nat.le_of_ble_eq_true rfl, Nat.le_of_ble_eq_true rfl⟩) hS hF (fun H locs hP1 hk hS => ?_)
    have hP : va_P D vwCl (wX7 cs a S10 L) _ := hP1
    have hD := hDA S10 L
    obtain ⟨e1, e2⟩ := dn_s2 hd
    exact k_iret hx hb hr hQ hAe e1 (by rw [e2]) hP hS hlocks dX7_undo_13
-- LeastNeedModel.manyHadBy(I)I
set_option maxRecDepth 20000 in
def nX7_manyHadBy_i4_j42 (p1 : Int32) (x3_42 : Int32) (w0_42 : Int32) (w1_42 : Int32) (S : Nat → Nat → Int32) (L : Nat → Nat → Int64) : Option ((Int32 × Int32) ⊕ (Int32)) := some (.inl ((w1_42 + w0_42), (x3_42 + (1 : Int32))))
set_option maxRecDepth 20000 in
def nX7_manyHadBy_i4_j41 (p1 : Int32) (x3_41 : Int32) (w0_41 : Int32) (S : Nat → Nat → Int32) (L : Nat → Nat → Int64) : Option ((Int32 × Int32) ⊕ (Int32)) := nX7_manyHadBy_i4_j42 p1 x3_41 (0 : Int32) w0_41 S L
set_option maxRecDepth 20000 in
def nX7_manyHadBy_l4 (p1 : Int32) (x2_4 : Int32) (x3_4 : Int32) (S : Nat → Nat → Int32) (L : Nat → Nat → Int64) : Option ((Int32 × Int32) ⊕ (Int32)) := k_b1 (nX7_manyThings S L) (fun r6 => if r6 ≤ x3_4 then k_up (some x2_4) else if ((10 : Int32) + x3_4) < 0 ∨ 284 ≤ ((10 : Int32) + x3_4).toNatClampNeg then none else if (S 1 ((10 : Int32) + x3_4).toNatClampNeg) = 0 then if ((5 : Int32) + x3_4) < 0 ∨ 284 ≤ ((5 : Int32) + x3_4).toNatClampNeg then none else if (S 1 ((5 : Int32) + x3_4).toNatClampNeg) = p1 then nX7_manyHadBy_i4_j42 p1 x3_4 (1 : Int32) x2_4 S L else nX7_manyHadBy_i4_j41 p1 x3_4 x2_4 S L else nX7_manyHadBy_i4_j41 p1 x3_4 x2_4 S L)
set_option maxRecDepth 20000 in
def nX7_manyHadBy (S : Nat → Nat → Int32) (L : Nat → Nat → Int64) (p1 : Int32) : Option (Int32) := k_it (fun st => nX7_manyHadBy_l4 p1 st.1 st.2 S L) 1000 ((0 : Int32), (0 : Int32))
set_option maxHeartbeats 4000000 in
set_option maxRecDepth 100000 in
theorem mX7_manyHadBy (l : Launch) (D : va_G) (cs : Nat → ClassId) (a : Nat → Nat) (S : Nat → Nat → Int32) (L : Nat → Nat → Int64) (p1 : Int32) (r9 : Int32) (hd : nX7_manyHadBy S L p1 = some r9) : ∀ sz : Nat, Met l yX7_manyHadBy wsX7_manyHadBy ({ frames := 1, cells := 0, slots := 0, locals := 20 }) (k_Pc D cs [.ref (a 0), .int p1] (wX7 cs a S L) sz) (k_Qi D r9 (wX7 cs a S L) (wX7 cs a S L) sz) 0 0 (va_A (wX7 cs a S L) sz) := by
  intro sz
  refine Met.ofW (cc := cX7_manyHadBy) (maxL := 4) (ret := (some .int)) (by decide) rfl ?_
  intro p e s m args below meth c s₁ B hml hv
  obtain ⟨rfl, hsz, hP, hK, hD0, hNn⟩ := hv
  have hx := B.exec
  have hb := B.bytes
  have hr := B.returns
  have hts := atoms_spec (ws := wsX7_manyHadBy) B.pre
  have hown : s.vm.findClass RX7 = some m.cls := findClass_of_methodNamed B.named
  have hlocks := B.notSynchronized
  subst hsz
  obtain ⟨A, hAe⟩ : ∃ A : Nat → Prop, A = va_A (wX7 cs a S L) s.heap.size := ⟨_, rfl⟩
  have hD : va_D A (wX7 cs a S L) := by rw [hAe]; exact hD0.self
  have hA : ∀ q : Nat, s.heap.size ≤ q → A q := fun q h => by rw [hAe]; exact Or.inr h
  have hS : va_S A s.heap s.heap [] := va_S.rf
  have hDA : ∀ (S : Nat → Nat → Int32) (L : Nat → Nat → Int64), va_D A (wX7 cs a S L) := fun S L => k_DA hD rfl
  have hl := lv_entry ([.ref (a 0), .int p1]) (n := 4) (Nat.le_of_ble_eq_true rfl)
  rw [lg_entry_eq]
  generalize (lg_sl ([.ref (a 0), .int p1]) ++ List.replicate (4 - (lg_sl ([.ref (a 0), .int p1])).length) Slot.unset).toArray = ls at hl ⊢
  have hl : lv_has ls 4 [(0, .ref (a 0)), (1, .int p1)] := hl
  obtain ⟨Q, hQ⟩ : ∃ Q, Q = MQ below (k_Qi D r9 (wX7 cs a S L) (wX7 cs a S L) s.heap.size) ([.ref (a 0), .int p1] : List Value).toArray s 0 0 (va_A (wX7 cs a S L) s.heap.size) := ⟨_, rfl⟩
  rw [← hQ]
  have Lo4 : ∀ (n1 : Nat) (x2_4 : Int32) (x3_4 : Int32) (H : Heap) (locs : List Loc) (ls : Array Slot), k_it (fun st => nX7_manyHadBy_l4 p1 st.1 st.2 S L) n1 (x2_4, x3_4) = some r9 → lv_has ls 4 [(0, .ref (a 0)), (1, .int p1), (2, .int x2_4), (3, .int x3_4)] → va_P D vwCl (wX7 cs a S L) H → va_S A s.heap H locs → W p l e (headSpec wsX7_manyHadBy ({ frames := 1, cells := 0, slots := 0, locals := 20 })).room s m ([.ref (a 0), .int p1] : List Value).toArray below meth c H locs 0 0 Q (F0 m 4 ls []) := by
    intro n1
    induction n1 with
    | zero => intro x2_4 x3_4 H locs ls hd; exact dn_it0 hd
    | succ n1 ih1 =>
      intro x2_4 x3_4 H locs ls hd hl hP hS
      have hD := hDA S L
      obtain ⟨y1, hd, hy1⟩ := dn_it hd
      have hd : nX7_manyHadBy_l4 p1 x2_4 x3_4 S L = some y1 := hd
      have Jo42 : ∀ (x3_42 : Int32) (w0_42 : Int32) (w1_42 : Int32) (H : Heap) (locs : List Loc) (ls : Array Slot), nX7_manyHadBy_i4_j42 p1 x3_42 w0_42 w1_42 S L = some y1 → lv_has ls 4 [(0, .ref (a 0)), (1, .int p1), (3, .int x3_42)] → va_P D vwCl (wX7 cs a S L) H → va_S A s.heap H locs → W p l e (headSpec wsX7_manyHadBy ({ frames := 1, cells := 0, slots := 0, locals := 20 })).room s m ([.ref (a 0), .int p1] : List Value).toArray below meth c H locs 0 0 Q (F0 m 42 ls [.int w0_42, .int w1_42]) := by
        intro x3_42 w0_42 w1_42 H locs ls hd hl hP hS
        have hD := hDA S L
        unfold nX7_manyHadBy_i4_j42 at hd
        refine lv_iadd hx hb dX7_manyHadBy_42 ?_
        refine lv_istore_n (lv' := [(2, .int (w1_42 + w0_42)), (0, .ref (a 0)), (1, .int p1), (3, .int x3_42)]) hx hb dX7_manyHadBy_43 rfl hl (by decide) rfl (fun ls hl => ?_)
        refine lv_iinc (v := x3_42 + (1 : Int32)) (lv' := [(3, .int (x3_42 + (1 : Int32))), (2, .int (w1_42 + w0_42)), (0, .ref (a 0)), (1, .int p1)]) hx hb dX7_manyHadBy_44 hl (k := 3) rfl rfl (by decide) rfl (fun ls hl => ?_)
        refine lv_goto (tgt := 4) hx hb dX7_manyHadBy_47 (by decide) ?_
        exact ih1 (w1_42 + w0_42) (x3_42 + (1 : Int32)) _ _ _ (dn_bk hd hy1) (lv_sub hl [2, 3, 1, 0] rfl) hP hS
      have Jo41 : ∀ (x3_41 : Int32) (w0_41 : Int32) (H : Heap) (locs : List Loc) (ls : Array Slot), nX7_manyHadBy_i4_j41 p1 x3_41 w0_41 S L = some y1 → lv_has ls 4 [(0, .ref (a 0)), (1, .int p1), (3, .int x3_41)] → va_P D vwCl (wX7 cs a S L) H → va_S A s.heap H locs → W p l e (headSpec wsX7_manyHadBy ({ frames := 1, cells := 0, slots := 0, locals := 20 })).room s m ([.ref (a 0), .int p1] : List Value).toArray below meth c H locs 0 0 Q (F0 m 41 ls [.int w0_41]) := by
        intro x3_41 w0_41 H locs ls hd hl hP hS
        have hD := hDA S L
        unfold nX7_manyHadBy_i4_j41 at hd
        refine lv_iconst (v := (0 : Int32)) hx hb dX7_manyHadBy_41 (by decide) ?_
        exact Jo42 x3_41 (0 : Int32) w0_41 _ _ _ hd (lv_sub hl [0, 1, 2] rfl) hP hS
      unfold nX7_manyHadBy_l4 at hd
      refine lv_iload_n hx hb dX7_manyHadBy_4 rfl (lv_at hl 3 rfl) ?_
      refine lv_aload_n hx hb dX7_manyHadBy_5 rfl (lv_at hl 0 rfl) ?_
      obtain ⟨r6, hq6, hd⟩ := dn_b1 hd
      have hF := k_self hD hS hA
      refine k_run_i (va_runV (As := []) (rest := [.int x3_4]) ⟨hx, hb, hml, hown, hts⟩ (mX7_manyThings l D cs a S L r6 hq6 _) (cwV 0 hts gX7_manyHadBy_X7_manyThings rfl rfl rfl (by decide +kernel) ⟨Nat.le_of_ble_eq_true rfl, Nat.le_of_ble_eq_true rfl⟩) ⟨k_blind, va_recv hK hP (ci := 5) (q0 := 0) rfl rfl, k_pre hP hK hNn hD⟩ rfl rfl hl.1 rfl (lv_room (Nat.le_of_ble_eq_true rfl)) dX7_manyHadBy_6 ⟨Nat.le_of_ble_eq_true rfl, Nat.le_of_ble_eq_true rfl⟩) hS hF (fun H locs hP1 hk hS => ?_)
      have hP : va_P D vwCl (wX7 cs a S L) _ := hP1
      have hD := hDA S L
      refine lv_icmp_ge (tgt := 50) hx hb dX7_manyHadBy_9 (by decide) (fun c9 => ?_) (fun c9 => ?_)
      · have hd := dn_t c9 hd
        have hd := dn_up hd hy1
        refine lv_iload_n hx hb dX7_manyHadBy_50 rfl (lv_at hl 2 rfl) ?_
        have e1 := dn_s1 hd
        exact k_iret hx hb hr hQ hAe e1 rfl hP hS hlocks dX7_manyHadBy_51
      · have hd := dn_f c9 hd
        refine lv_iload_n hx hb dX7_manyHadBy_12 rfl (lv_at hl 2 rfl) ?_
        refine lv_aload_n hx hb dX7_manyHadBy_13 rfl (lv_at hl 0 rfl) ?_
        refine va_get (D := D) (ci := 5) (v := .ref (a 1)) (C := RX7) (T := TX7) (N := 25) hx hb hts (fun w h => List.mem_cons_of_mem _ (List.mem_append_right _ h)) hown hK hP 0 rfl rfl 0 (by decide) (hts (.fieldLink RX7 7 "LeastNeedModel" "told" "[I") (List.mem_of_getElem? (i := 1) rfl)) (fun _ h9 => h9) rfl dX7_manyHadBy_14 ?_
        refine lv_bipush (v := (10 : Int32)) hx hb dX7_manyHadBy_17 (by decide) ?_
        refine lv_iload_n hx hb dX7_manyHadBy_19 rfl (lv_at hl 3 rfl) ?_
        refine lv_iadd hx hb dX7_manyHadBy_20 ?_
        obtain ⟨hi21, hd⟩ := dn_i hd
        refine k_iald (D := D) (k := ((10 : Int32) + x3_4).toNatClampNeg) (by rfl) hx hb hK hP 1 1 rfl rfl hi21 dX7_manyHadBy_21 ?_
        refine lv_if_ne (tgt := 41) hx hb dX7_manyHadBy_22 (by decide) (fun c22 => ?_) (fun c22 => ?_)
        · have hd := dn_f c22 hd
          exact Jo41 x3_4 x2_4 _ _ _ hd (lv_sub hl [0, 1, 3] rfl) hP hS
        · have hd := dn_t c22 hd
          refine lv_aload_n hx hb dX7_manyHadBy_25 rfl (lv_at hl 0 rfl) ?_
          refine va_get (D := D) (ci := 5) (v := .ref (a 1)) (C := RX7) (T := TX7) (N := 25) hx hb hts (fun w h => List.mem_cons_of_mem _ (List.mem_append_right _ h)) hown hK hP 0 rfl rfl 0 (by decide) (hts (.fieldLink RX7 7 "LeastNeedModel" "told" "[I") (List.mem_of_getElem? (i := 1) rfl)) (fun _ h9 => h9) rfl dX7_manyHadBy_26 ?_
          refine lv_iconst (v := (5 : Int32)) hx hb dX7_manyHadBy_29 (by decide) ?_
          refine lv_iload_n hx hb dX7_manyHadBy_30 rfl (lv_at hl 3 rfl) ?_
          refine lv_iadd hx hb dX7_manyHadBy_31 ?_
          obtain ⟨hi32, hd⟩ := dn_i hd
          refine k_iald (D := D) (k := ((5 : Int32) + x3_4).toNatClampNeg) (by rfl) hx hb hK hP 1 1 rfl rfl hi32 dX7_manyHadBy_32 ?_
          refine lv_iload_n hx hb dX7_manyHadBy_33 rfl (lv_at hl 1 rfl) ?_
          refine lv_icmp_ne (tgt := 41) hx hb dX7_manyHadBy_34 (by decide) (fun c34 => ?_) (fun c34 => ?_)
          · have hd := dn_f c34 hd
            exact Jo41 x3_4 x2_4 _ _ _ hd (lv_sub hl [0, 1, 3] rfl) hP hS
          · have hd := dn_t c34 hd
            refine lv_iconst (v := (1 : Int32)) hx hb dX7_manyHadBy_37 (by decide) ?_
            refine lv_goto (tgt := 42) hx hb dX7_manyHadBy_38 (by decide) ?_
            exact Jo42 x3_4 (1 : Int32) x2_4 _ _ _ hd (lv_sub hl [0, 1, 3] rfl) hP hS
  unfold nX7_manyHadBy at hd
  refine lv_iconst (v := (0 : Int32)) hx hb dX7_manyHadBy_0 (by decide) ?_
  refine lv_istore_n (lv' := [(2, .int (0 : Int32)), (0, .ref (a 0)), (1, .int p1)]) hx hb dX7_manyHadBy_1 rfl hl (by decide) rfl (fun ls hl => ?_)
  refine lv_iconst (v := (0 : Int32)) hx hb dX7_manyHadBy_2 (by decide) ?_
  refine lv_istore_n (lv' := [(3, .int (0 : Int32)), (2, .int (0 : Int32)), (0, .ref (a 0)), (1, .int p1)]) hx hb dX7_manyHadBy_3 rfl hl (by decide) rfl (fun ls hl => ?_)
  exact Lo4 1000 (0 : Int32) (0 : Int32) _ _ _ hd (lv_sub hl [2, 3, 1, 0] rfl) hP hS
-- LeastNeedModel.of(II)I
set_option maxRecDepth 20000 in
def nX7_of_j20 (S_20 : Nat → Nat → Int32) (L : Nat → Nat → Int64) : Option (Int32 × (Nat → Nat → Int32)) := k_b2 (nX7_bad S_20 L (-2 : Int32)) (fun r23 S23 => some (r23, S23))
set_option maxRecDepth 20000 in
def nX7_of (S : Nat → Nat → Int32) (L : Nat → Nat → Int64) (p1 : Int32) (p2 : Int32) : Option (Int32 × (Nat → Nat → Int32)) := k_b1 (nX7_isOne S L p1) (fun r2 => if r2 = 0 then nX7_of_j20 S L else k_b1 (nX7_in p2.toInt64 (0 : Int64) (7 : Int64)) (fun r14 => if r14 = 0 then nX7_of_j20 S L else if p2 = (0 : Int32) then if ((23 : Int32) + p1) < 0 ∨ 284 ≤ ((23 : Int32) + p1).toNatClampNeg then none else some ((S 1 ((23 : Int32) + p1).toNatClampNeg), S) else if p2 = (1 : Int32) then if ((30 : Int32) + p1) < 0 ∨ 284 ≤ ((30 : Int32) + p1).toNatClampNeg then none else some ((S 1 ((30 : Int32) + p1).toNatClampNeg), S) else if p2 = (2 : Int32) then if ((15 : Int32) + p1) < 0 ∨ 284 ≤ ((15 : Int32) + p1).toNatClampNeg then none else some ((S 1 ((15 : Int32) + p1).toNatClampNeg), S) else if p2 = (3 : Int32) then k_b1 (nX7_manyHadBy S L p1) (fun r92 => some (r92, S)) else if ((((37 : Int32) + ((4 : Int32) * p1)) + p2) - (4 : Int32)) < 0 ∨ 284 ≤ ((((37 : Int32) + ((4 : Int32) * p1)) + p2) - (4 : Int32)).toNatClampNeg then none else some ((S 1 ((((37 : Int32) + ((4 : Int32) * p1)) + p2) - (4 : Int32)).toNatClampNeg), S)))
set_option maxHeartbeats 4000000 in
set_option maxRecDepth 100000 in
theorem mX7_of (l : Launch) (D : va_G) (cs : Nat → ClassId) (a : Nat → Nat) (S : Nat → Nat → Int32) (L : Nat → Nat → Int64) (p1 : Int32) (p2 : Int32) (r9 : Int32) (S9 : (Nat → Nat → Int32)) (hd : nX7_of S L p1 p2 = some (r9, S9)) : ∀ sz : Nat, Met l yX7_of wsX7_of ({ frames := 2, cells := 0, slots := 0, locals := 46 }) (k_Pc D cs [.ref (a 0), .int p1, .int p2] (wX7 cs a S L) sz) (k_Qi D r9 (wX7 cs a S L) (wX7 cs a S9 L) sz) 0 0 (va_A (wX7 cs a S L) sz) := by
  intro sz
  refine Met.ofW (cc := cX7_of) (maxL := 3) (ret := (some .int)) (by decide) rfl ?_
  intro p e s m args below meth c s₁ B hml hv
  obtain ⟨rfl, hsz, hP, hK, hD0, hNn⟩ := hv
  have hx := B.exec
  have hb := B.bytes
  have hr := B.returns
  have hts := atoms_spec (ws := wsX7_of) B.pre
  have hown : s.vm.findClass RX7 = some m.cls := findClass_of_methodNamed B.named
  have hlocks := B.notSynchronized
  subst hsz
  obtain ⟨A, hAe⟩ : ∃ A : Nat → Prop, A = va_A (wX7 cs a S L) s.heap.size := ⟨_, rfl⟩
  have hD : va_D A (wX7 cs a S L) := by rw [hAe]; exact hD0.self
  have hA : ∀ q : Nat, s.heap.size ≤ q → A q := fun q h => by rw [hAe]; exact Or.inr h
  have hS : va_S A s.heap s.heap [] := va_S.rf
  have hDA : ∀ (S : Nat → Nat → Int32) (L : Nat → Nat → Int64), va_D A (wX7 cs a S L) := fun S L => k_DA hD rfl
  have hl := lv_entry ([.ref (a 0), .int p1, .int p2]) (n := 3) (Nat.le_of_ble_eq_true rfl)
  rw [lg_entry_eq]
  generalize (lg_sl ([.ref (a 0), .int p1, .int p2]) ++ List.replicate (3 - (lg_sl ([.ref (a 0), .int p1, .int p2])).length) Slot.unset).toArray = ls at hl ⊢
  have hl : lv_has ls 3 [(0, .ref (a 0)), (1, .int p1), (2, .int p2)] := hl
  obtain ⟨Q, hQ⟩ : ∃ Q, Q = MQ below (k_Qi D r9 (wX7 cs a S L) (wX7 cs a S9 L) s.heap.size) ([.ref (a 0), .int p1, .int p2] : List Value).toArray s 0 0 (va_A (wX7 cs a S L) s.heap.size) := ⟨_, rfl⟩
  rw [← hQ]
  have Jo20 : ∀ (S_20 : Nat → Nat → Int32) (H : Heap) (locs : List Loc) (ls : Array Slot), nX7_of_j20 S_20 L = some (r9, S9) → lv_has ls 3 [(0, .ref (a 0))] → va_P D vwCl (wX7 cs a S_20 L) H → va_S A s.heap H locs → W p l e (headSpec wsX7_of ({ frames := 2, cells := 0, slots := 0, locals := 46 })).room s m ([.ref (a 0), .int p1, .int p2] : List Value).toArray below meth c H locs 0 0 Q (F0 m 20 ls []) := by
    intro S_20 H locs ls hd hl hP hS
    have hD := hDA S_20 L
    unfold nX7_of_j20 at hd
    refine lv_aload_n hx hb dX7_of_20 rfl (lv_at hl 0 rfl) ?_
    refine lv_bipush (v := (-2 : Int32)) hx hb dX7_of_21 (by decide) ?_
    obtain ⟨r23, S23, hq23, hd⟩ := dn_b2 hd
    have hF := k_self hD hS hA
    refine k_run_i (va_runV (As := [.int (-2 : Int32)]) (rest := []) ⟨hx, hb, hml, hown, hts⟩ (mX7_bad l D cs a S_20 L (-2 : Int32) r23 S23 hq23 _) (cwV 1 hts gX7_of_X7_bad rfl rfl rfl (by decide +kernel) ⟨Nat.le_of_ble_eq_true rfl, Nat.le_of_ble_eq_true rfl⟩) ⟨k_blind, va_recv hK hP (ci := 5) (q0 := 0) rfl rfl, k_pre hP hK hNn hD⟩ rfl rfl hl.1 rfl (lv_room (Nat.le_of_ble_eq_true rfl)) dX7_of_23 ⟨Nat.le_of_ble_eq_true rfl, Nat.le_of_ble_eq_true rfl⟩) hS hF (fun H locs hP1 hk hS => ?_)
    have hP : va_P D vwCl (wX7 cs a S23 L) _ := hP1
    have hD := hDA S23 L
    obtain ⟨e1, e2⟩ := dn_s2 hd
    exact k_iret hx hb hr hQ hAe e1 (by rw [e2]) hP hS hlocks dX7_of_26
  unfold nX7_of at hd
  refine lv_aload_n hx hb dX7_of_0 rfl (lv_at hl 0 rfl) ?_
  refine lv_iload_n hx hb dX7_of_1 rfl (lv_at hl 1 rfl) ?_
  obtain ⟨r2, hq2, hd⟩ := dn_b1 hd
  have hF := k_self hD hS hA
  refine k_run_i (va_runV (As := [.int p1]) (rest := []) ⟨hx, hb, hml, hown, hts⟩ (mX7_isOne l D cs a S L p1 r2 hq2 _) (cwV 1 hts gX7_of_X7_isOne rfl rfl rfl (by decide +kernel) ⟨Nat.le_of_ble_eq_true rfl, Nat.le_of_ble_eq_true rfl⟩) ⟨k_blind, va_recv hK hP (ci := 5) (q0 := 0) rfl rfl, k_pre hP hK hNn hD⟩ rfl rfl hl.1 rfl (lv_room (Nat.le_of_ble_eq_true rfl)) dX7_of_2 ⟨Nat.le_of_ble_eq_true rfl, Nat.le_of_ble_eq_true rfl⟩) hS hF (fun H locs hP1 hk hS => ?_)
  have hP : va_P D vwCl (wX7 cs a S L) _ := hP1
  have hD := hDA S L
  refine lv_if_eq (tgt := 20) hx hb dX7_of_5 (by decide) (fun c5 => ?_) (fun c5 => ?_)
  · have hd := dn_t c5 hd
    exact Jo20 S _ _ _ hd (lv_sub hl [0] rfl) hP hS
  · have hd := dn_f c5 hd
    refine lv_iload_n hx hb dX7_of_8 rfl (lv_at hl 2 rfl) ?_
    refine lv_i2l hx hb dX7_of_9 rfl ?_
    refine lv_lconst (v := (0 : Int64)) hx hb dX7_of_10 (by decide) ?_
    refine lv_ldc2 (v := (7 : Int64)) hx hb hown (hts (.constantLong RX7 171 (7)) (List.mem_of_getElem? (i := 1) rfl)) dX7_of_11 ?_
    obtain ⟨r14, hq14, hd⟩ := dn_b1 hd
    have hPc := k_P0 hP
    have hDc : va_D A ([] : va_W) := k_D0
    have hF := k_self hDc hS hA
    refine k_run_i (va_runS (As := [.long p2.toInt64, .long (0 : Int64), .long (7 : Int64)]) (rest := []) ⟨hx, hb, hml, hown, hts⟩ (mX7_in l D cs  p2.toInt64 (0 : Int64) (7 : Int64) r14 hq14 _) (va_cwS 3 hts gX7_of_X7_in rfl rfl rfl (by decide +kernel) ⟨Nat.le_of_ble_eq_true rfl, Nat.le_of_ble_eq_true rfl⟩) ⟨k_blind, k_pre hPc hK hNn hDc⟩ rfl rfl hl.1 rfl (lv_room (Nat.le_of_ble_eq_true rfl)) dX7_of_14 ⟨Nat.le_of_ble_eq_true rfl, Nat.le_of_ble_eq_true rfl⟩) hS hF (fun H locs hP1 hk hS => ?_)
    have hP : va_P D vwCl (wX7 cs a S L) _ := k_keep hP hk
    refine lv_if_ne (tgt := 27) hx hb dX7_of_17 (by decide) (fun c17 => ?_) (fun c17 => ?_)
    · have hd := dn_f c17 hd
      refine lv_iload_n hx hb dX7_of_27 rfl (lv_at hl 2 rfl) ?_
      by_cases e28_0 : p2 = (0 : Int32)
      · have hd := dn_t e28_0 hd
        refine lv_tableIn (off := 32) (tgt := 60) hx hb dX7_of_28 (by rw [e28_0]; decide) (by rw [e28_0]; decide) (by rw [e28_0]; rfl) (by decide) ?_
        refine lv_aload_n hx hb dX7_of_60 rfl (lv_at hl 0 rfl) ?_
        refine va_get (D := D) (ci := 5) (v := .ref (a 1)) (C := RX7) (T := TX7) (N := 25) hx hb hts (fun w h => List.mem_cons_of_mem _ (List.mem_append_right _ h)) hown hK hP 0 rfl rfl 0 (by decide) (hts (.fieldLink RX7 7 "LeastNeedModel" "told" "[I") (List.mem_of_getElem? (i := 2) rfl)) (fun _ h9 => h9) rfl dX7_of_61 ?_
        refine lv_bipush (v := (23 : Int32)) hx hb dX7_of_64 (by decide) ?_
        refine lv_iload_n hx hb dX7_of_66 rfl (lv_at hl 1 rfl) ?_
        refine lv_iadd hx hb dX7_of_67 ?_
        obtain ⟨hi68, hd⟩ := dn_i hd
        refine k_iald (D := D) (k := ((23 : Int32) + p1).toNatClampNeg) (by rfl) hx hb hK hP 1 1 rfl rfl hi68 dX7_of_68 ?_
        obtain ⟨e1, e2⟩ := dn_s2 hd
        exact k_iret hx hb hr hQ hAe e1 (by rw [e2]) hP hS hlocks dX7_of_69
      · have hd := dn_f e28_0 hd
        by_cases e28_1 : p2 = (1 : Int32)
        · have hd := dn_t e28_1 hd
          refine lv_tableIn (off := 42) (tgt := 70) hx hb dX7_of_28 (by rw [e28_1]; decide) (by rw [e28_1]; decide) (by rw [e28_1]; rfl) (by decide) ?_
          refine lv_aload_n hx hb dX7_of_70 rfl (lv_at hl 0 rfl) ?_
          refine va_get (D := D) (ci := 5) (v := .ref (a 1)) (C := RX7) (T := TX7) (N := 25) hx hb hts (fun w h => List.mem_cons_of_mem _ (List.mem_append_right _ h)) hown hK hP 0 rfl rfl 0 (by decide) (hts (.fieldLink RX7 7 "LeastNeedModel" "told" "[I") (List.mem_of_getElem? (i := 2) rfl)) (fun _ h9 => h9) rfl dX7_of_71 ?_
          refine lv_bipush (v := (30 : Int32)) hx hb dX7_of_74 (by decide) ?_
          refine lv_iload_n hx hb dX7_of_76 rfl (lv_at hl 1 rfl) ?_
          refine lv_iadd hx hb dX7_of_77 ?_
          obtain ⟨hi78, hd⟩ := dn_i hd
          refine k_iald (D := D) (k := ((30 : Int32) + p1).toNatClampNeg) (by rfl) hx hb hK hP 1 1 rfl rfl hi78 dX7_of_78 ?_
          obtain ⟨e1, e2⟩ := dn_s2 hd
          exact k_iret hx hb hr hQ hAe e1 (by rw [e2]) hP hS hlocks dX7_of_79
        · have hd := dn_f e28_1 hd
          by_cases e28_2 : p2 = (2 : Int32)
          · have hd := dn_t e28_2 hd
            refine lv_tableIn (off := 52) (tgt := 80) hx hb dX7_of_28 (by rw [e28_2]; decide) (by rw [e28_2]; decide) (by rw [e28_2]; rfl) (by decide) ?_
            refine lv_aload_n hx hb dX7_of_80 rfl (lv_at hl 0 rfl) ?_
            refine va_get (D := D) (ci := 5) (v := .ref (a 1)) (C := RX7) (T := TX7) (N := 25) hx hb hts (fun w h => List.mem_cons_of_mem _ (List.mem_append_right _ h)) hown hK hP 0 rfl rfl 0 (by decide) (hts (.fieldLink RX7 7 "LeastNeedModel" "told" "[I") (List.mem_of_getElem? (i := 2) rfl)) (fun _ h9 => h9) rfl dX7_of_81 ?_
            refine lv_bipush (v := (15 : Int32)) hx hb dX7_of_84 (by decide) ?_
            refine lv_iload_n hx hb dX7_of_86 rfl (lv_at hl 1 rfl) ?_
            refine lv_iadd hx hb dX7_of_87 ?_
            obtain ⟨hi88, hd⟩ := dn_i hd
            refine k_iald (D := D) (k := ((15 : Int32) + p1).toNatClampNeg) (by rfl) hx hb hK hP 1 1 rfl rfl hi88 dX7_of_88 ?_
            obtain ⟨e1, e2⟩ := dn_s2 hd
            exact k_iret hx hb hr hQ hAe e1 (by rw [e2]) hP hS hlocks dX7_of_89
          · have hd := dn_f e28_2 hd
            by_cases e28_3 : p2 = (3 : Int32)
            · have hd := dn_t e28_3 hd
              refine lv_tableIn (off := 62) (tgt := 90) hx hb dX7_of_28 (by rw [e28_3]; decide) (by rw [e28_3]; decide) (by rw [e28_3]; rfl) (by decide) ?_
              refine lv_aload_n hx hb dX7_of_90 rfl (lv_at hl 0 rfl) ?_
              refine lv_iload_n hx hb dX7_of_91 rfl (lv_at hl 1 rfl) ?_
              obtain ⟨r92, hq92, hd⟩ := dn_b1 hd
              have hF := k_self hD hS hA
              refine k_run_i (va_runV (As := [.int p1]) (rest := []) ⟨hx, hb, hml, hown, hts⟩ (mX7_manyHadBy l D cs a S L p1 r92 hq92 _) (cwV 1 hts gX7_of_X7_manyHadBy rfl rfl rfl (by decide +kernel) ⟨Nat.le_of_ble_eq_true rfl, Nat.le_of_ble_eq_true rfl⟩) ⟨k_blind, va_recv hK hP (ci := 5) (q0 := 0) rfl rfl, k_pre hP hK hNn hD⟩ rfl rfl hl.1 rfl (lv_room (Nat.le_of_ble_eq_true rfl)) dX7_of_92 ⟨Nat.le_of_ble_eq_true rfl, Nat.le_of_ble_eq_true rfl⟩) hS hF (fun H locs hP1 hk hS => ?_)
              have hP : va_P D vwCl (wX7 cs a S L) _ := hP1
              have hD := hDA S L
              obtain ⟨e1, e2⟩ := dn_s2 hd
              exact k_iret hx hb hr hQ hAe e1 (by rw [e2]) hP hS hlocks dX7_of_95
            · have hd := dn_f e28_3 hd
              refine lv_tableOut (tgt := 96) hx hb dX7_of_28 (by have q0 := lv_neT e28_0 (a := 0) (by decide); have q1 := lv_neT e28_1 (a := 1) (by decide); have q2 := lv_neT e28_2 (a := 2) (by decide); have q3 := lv_neT e28_3 (a := 3) (by decide); omega) (by decide) ?_
              refine lv_aload_n hx hb dX7_of_96 rfl (lv_at hl 0 rfl) ?_
              refine va_get (D := D) (ci := 5) (v := .ref (a 1)) (C := RX7) (T := TX7) (N := 25) hx hb hts (fun w h => List.mem_cons_of_mem _ (List.mem_append_right _ h)) hown hK hP 0 rfl rfl 0 (by decide) (hts (.fieldLink RX7 7 "LeastNeedModel" "told" "[I") (List.mem_of_getElem? (i := 2) rfl)) (fun _ h9 => h9) rfl dX7_of_97 ?_
              refine lv_bipush (v := (37 : Int32)) hx hb dX7_of_100 (by decide) ?_
              refine lv_iconst (v := (4 : Int32)) hx hb dX7_of_102 (by decide) ?_
              refine lv_iload_n hx hb dX7_of_103 rfl (lv_at hl 1 rfl) ?_
              refine lv_imul hx hb dX7_of_104 ?_
              refine lv_iadd hx hb dX7_of_105 ?_
              refine lv_iload_n hx hb dX7_of_106 rfl (lv_at hl 2 rfl) ?_
              refine lv_iadd hx hb dX7_of_107 ?_
              refine lv_iconst (v := (4 : Int32)) hx hb dX7_of_108 (by decide) ?_
              refine lv_isub hx hb dX7_of_109 ?_
              obtain ⟨hi110, hd⟩ := dn_i hd
              refine k_iald (D := D) (k := ((((37 : Int32) + ((4 : Int32) * p1)) + p2) - (4 : Int32)).toNatClampNeg) (by rfl) hx hb hK hP 1 1 rfl rfl hi110 dX7_of_110 ?_
              obtain ⟨e1, e2⟩ := dn_s2 hd
              exact k_iret hx hb hr hQ hAe e1 (by rw [e2]) hP hS hlocks dX7_of_111
    · have hd := dn_t c17 hd
      exact Jo20 S _ _ _ hd (lv_sub hl [0] rfl) hP hS
-- LeastNeedModel.about(II)I
set_option maxRecDepth 20000 in
def nX7_about_j20 (S_20 : Nat → Nat → Int32) (L : Nat → Nat → Int64) : Option (Int32 × (Nat → Nat → Int32)) := k_b2 (nX7_bad S_20 L (-2 : Int32)) (fun r23 S23 => some (r23, S23))
set_option maxRecDepth 20000 in
def nX7_about (S : Nat → Nat → Int32) (L : Nat → Nat → Int64) (p1 : Int32) (p2 : Int32) : Option (Int32 × (Nat → Nat → Int32)) := k_b1 (nX7_isThing S L p1) (fun r2 => if r2 = 0 then nX7_about_j20 S L else k_b1 (nX7_in p2.toInt64 (0 : Int64) (4 : Int64)) (fun r14 => if r14 = 0 then nX7_about_j20 S L else if p2 = (0 : Int32) then if ((65 : Int32) + p1) < 0 ∨ 284 ≤ ((65 : Int32) + p1).toNatClampNeg then none else some ((S 1 ((65 : Int32) + p1).toNatClampNeg), S) else if p2 = (1 : Int32) then if ((70 : Int32) + p1) < 0 ∨ 284 ≤ ((70 : Int32) + p1).toNatClampNeg then none else some ((S 1 ((70 : Int32) + p1).toNatClampNeg), S) else if p2 = (2 : Int32) then if ((75 : Int32) + p1) < 0 ∨ 284 ≤ ((75 : Int32) + p1).toNatClampNeg then none else some ((S 1 ((75 : Int32) + p1).toNatClampNeg), S) else if p2 = (3 : Int32) then if ((5 : Int32) + p1) < 0 ∨ 284 ≤ ((5 : Int32) + p1).toNatClampNeg then none else some ((S 1 ((5 : Int32) + p1).toNatClampNeg), S) else if ((10 : Int32) + p1) < 0 ∨ 284 ≤ ((10 : Int32) + p1).toNatClampNeg then none else some ((S 1 ((10 : Int32) + p1).toNatClampNeg), S)))
set_option maxHeartbeats 4000000 in
set_option maxRecDepth 100000 in
theorem mX7_about (l : Launch) (D : va_G) (cs : Nat → ClassId) (a : Nat → Nat) (S : Nat → Nat → Int32) (L : Nat → Nat → Int64) (p1 : Int32) (p2 : Int32) (r9 : Int32) (S9 : (Nat → Nat → Int32)) (hd : nX7_about S L p1 p2 = some (r9, S9)) : ∀ sz : Nat, Met l yX7_about wsX7_about ({ frames := 2, cells := 0, slots := 0, locals := 46 }) (k_Pc D cs [.ref (a 0), .int p1, .int p2] (wX7 cs a S L) sz) (k_Qi D r9 (wX7 cs a S L) (wX7 cs a S9 L) sz) 0 0 (va_A (wX7 cs a S L) sz) := by
  intro sz
  refine Met.ofW (cc := cX7_about) (maxL := 3) (ret := (some .int)) (by decide) rfl ?_
  intro p e s m args below meth c s₁ B hml hv
  obtain ⟨rfl, hsz, hP, hK, hD0, hNn⟩ := hv
  have hx := B.exec
  have hb := B.bytes
  have hr := B.returns
  have hts := atoms_spec (ws := wsX7_about) B.pre
  have hown : s.vm.findClass RX7 = some m.cls := findClass_of_methodNamed B.named
  have hlocks := B.notSynchronized
  subst hsz
  obtain ⟨A, hAe⟩ : ∃ A : Nat → Prop, A = va_A (wX7 cs a S L) s.heap.size := ⟨_, rfl⟩
  have hD : va_D A (wX7 cs a S L) := by rw [hAe]; exact hD0.self
  have hA : ∀ q : Nat, s.heap.size ≤ q → A q := fun q h => by rw [hAe]; exact Or.inr h
  have hS : va_S A s.heap s.heap [] := va_S.rf
  have hDA : ∀ (S : Nat → Nat → Int32) (L : Nat → Nat → Int64), va_D A (wX7 cs a S L) := fun S L => k_DA hD rfl
  have hl := lv_entry ([.ref (a 0), .int p1, .int p2]) (n := 3) (Nat.le_of_ble_eq_true rfl)
  rw [lg_entry_eq]
  generalize (lg_sl ([.ref (a 0), .int p1, .int p2]) ++ List.replicate (3 - (lg_sl ([.ref (a 0), .int p1, .int p2])).length) Slot.unset).toArray = ls at hl ⊢
  have hl : lv_has ls 3 [(0, .ref (a 0)), (1, .int p1), (2, .int p2)] := hl
  obtain ⟨Q, hQ⟩ : ∃ Q, Q = MQ below (k_Qi D r9 (wX7 cs a S L) (wX7 cs a S9 L) s.heap.size) ([.ref (a 0), .int p1, .int p2] : List Value).toArray s 0 0 (va_A (wX7 cs a S L) s.heap.size) := ⟨_, rfl⟩
  rw [← hQ]
  have Jo20 : ∀ (S_20 : Nat → Nat → Int32) (H : Heap) (locs : List Loc) (ls : Array Slot), nX7_about_j20 S_20 L = some (r9, S9) → lv_has ls 3 [(0, .ref (a 0))] → va_P D vwCl (wX7 cs a S_20 L) H → va_S A s.heap H locs → W p l e (headSpec wsX7_about ({ frames := 2, cells := 0, slots := 0, locals := 46 })).room s m ([.ref (a 0), .int p1, .int p2] : List Value).toArray below meth c H locs 0 0 Q (F0 m 20 ls []) := by
    intro S_20 H locs ls hd hl hP hS
    have hD := hDA S_20 L
    unfold nX7_about_j20 at hd
    refine lv_aload_n hx hb dX7_about_20 rfl (lv_at hl 0 rfl) ?_
    refine lv_bipush (v := (-2 : Int32)) hx hb dX7_about_21 (by decide) ?_
    obtain ⟨r23, S23, hq23, hd⟩ := dn_b2 hd
    have hF := k_self hD hS hA
    refine k_run_i (va_runV (As := [.int (-2 : Int32)]) (rest := []) ⟨hx, hb, hml, hown, hts⟩ (mX7_bad l D cs a S_20 L (-2 : Int32) r23 S23 hq23 _) (cwV 1 hts gX7_about_X7_bad rfl rfl rfl (by decide +kernel) ⟨Nat.le_of_ble_eq_true rfl, Nat.le_of_ble_eq_true rfl⟩) ⟨k_blind, va_recv hK hP (ci := 5) (q0 := 0) rfl rfl, k_pre hP hK hNn hD⟩ rfl rfl hl.1 rfl (lv_room (Nat.le_of_ble_eq_true rfl)) dX7_about_23 ⟨Nat.le_of_ble_eq_true rfl, Nat.le_of_ble_eq_true rfl⟩) hS hF (fun H locs hP1 hk hS => ?_)
    have hP : va_P D vwCl (wX7 cs a S23 L) _ := hP1
    have hD := hDA S23 L
    obtain ⟨e1, e2⟩ := dn_s2 hd
    exact k_iret hx hb hr hQ hAe e1 (by rw [e2]) hP hS hlocks dX7_about_26
  unfold nX7_about at hd
  refine lv_aload_n hx hb dX7_about_0 rfl (lv_at hl 0 rfl) ?_
  refine lv_iload_n hx hb dX7_about_1 rfl (lv_at hl 1 rfl) ?_
  obtain ⟨r2, hq2, hd⟩ := dn_b1 hd
  have hF := k_self hD hS hA
  refine k_run_i (va_runV (As := [.int p1]) (rest := []) ⟨hx, hb, hml, hown, hts⟩ (mX7_isThing l D cs a S L p1 r2 hq2 _) (cwV 1 hts gX7_about_X7_isThing rfl rfl rfl (by decide +kernel) ⟨Nat.le_of_ble_eq_true rfl, Nat.le_of_ble_eq_true rfl⟩) ⟨k_blind, va_recv hK hP (ci := 5) (q0 := 0) rfl rfl, k_pre hP hK hNn hD⟩ rfl rfl hl.1 rfl (lv_room (Nat.le_of_ble_eq_true rfl)) dX7_about_2 ⟨Nat.le_of_ble_eq_true rfl, Nat.le_of_ble_eq_true rfl⟩) hS hF (fun H locs hP1 hk hS => ?_)
  have hP : va_P D vwCl (wX7 cs a S L) _ := hP1
  have hD := hDA S L
  refine lv_if_eq (tgt := 20) hx hb dX7_about_5 (by decide) (fun c5 => ?_) (fun c5 => ?_)
  · have hd := dn_t c5 hd
    exact Jo20 S _ _ _ hd (lv_sub hl [0] rfl) hP hS
  · have hd := dn_f c5 hd
    refine lv_iload_n hx hb dX7_about_8 rfl (lv_at hl 2 rfl) ?_
    refine lv_i2l hx hb dX7_about_9 rfl ?_
    refine lv_lconst (v := (0 : Int64)) hx hb dX7_about_10 (by decide) ?_
    refine lv_ldc2 (v := (4 : Int64)) hx hb hown (hts (.constantLong RX7 176 (4)) (List.mem_of_getElem? (i := 1) rfl)) dX7_about_11 ?_
    obtain ⟨r14, hq14, hd⟩ := dn_b1 hd
    have hPc := k_P0 hP
    have hDc : va_D A ([] : va_W) := k_D0
    have hF := k_self hDc hS hA
    refine k_run_i (va_runS (As := [.long p2.toInt64, .long (0 : Int64), .long (4 : Int64)]) (rest := []) ⟨hx, hb, hml, hown, hts⟩ (mX7_in l D cs  p2.toInt64 (0 : Int64) (4 : Int64) r14 hq14 _) (va_cwS 3 hts gX7_about_X7_in rfl rfl rfl (by decide +kernel) ⟨Nat.le_of_ble_eq_true rfl, Nat.le_of_ble_eq_true rfl⟩) ⟨k_blind, k_pre hPc hK hNn hDc⟩ rfl rfl hl.1 rfl (lv_room (Nat.le_of_ble_eq_true rfl)) dX7_about_14 ⟨Nat.le_of_ble_eq_true rfl, Nat.le_of_ble_eq_true rfl⟩) hS hF (fun H locs hP1 hk hS => ?_)
    have hP : va_P D vwCl (wX7 cs a S L) _ := k_keep hP hk
    refine lv_if_ne (tgt := 27) hx hb dX7_about_17 (by decide) (fun c17 => ?_) (fun c17 => ?_)
    · have hd := dn_f c17 hd
      refine lv_iload_n hx hb dX7_about_27 rfl (lv_at hl 2 rfl) ?_
      by_cases e28_0 : p2 = (0 : Int32)
      · have hd := dn_t e28_0 hd
        refine lv_tableIn (off := 32) (tgt := 60) hx hb dX7_about_28 (by rw [e28_0]; decide) (by rw [e28_0]; decide) (by rw [e28_0]; rfl) (by decide) ?_
        refine lv_aload_n hx hb dX7_about_60 rfl (lv_at hl 0 rfl) ?_
        refine va_get (D := D) (ci := 5) (v := .ref (a 1)) (C := RX7) (T := TX7) (N := 25) hx hb hts (fun w h => List.mem_cons_of_mem _ (List.mem_append_right _ h)) hown hK hP 0 rfl rfl 0 (by decide) (hts (.fieldLink RX7 7 "LeastNeedModel" "told" "[I") (List.mem_of_getElem? (i := 2) rfl)) (fun _ h9 => h9) rfl dX7_about_61 ?_
        refine lv_bipush (v := (65 : Int32)) hx hb dX7_about_64 (by decide) ?_
        refine lv_iload_n hx hb dX7_about_66 rfl (lv_at hl 1 rfl) ?_
        refine lv_iadd hx hb dX7_about_67 ?_
        obtain ⟨hi68, hd⟩ := dn_i hd
        refine k_iald (D := D) (k := ((65 : Int32) + p1).toNatClampNeg) (by rfl) hx hb hK hP 1 1 rfl rfl hi68 dX7_about_68 ?_
        obtain ⟨e1, e2⟩ := dn_s2 hd
        exact k_iret hx hb hr hQ hAe e1 (by rw [e2]) hP hS hlocks dX7_about_69
      · have hd := dn_f e28_0 hd
        by_cases e28_1 : p2 = (1 : Int32)
        · have hd := dn_t e28_1 hd
          refine lv_tableIn (off := 42) (tgt := 70) hx hb dX7_about_28 (by rw [e28_1]; decide) (by rw [e28_1]; decide) (by rw [e28_1]; rfl) (by decide) ?_
          refine lv_aload_n hx hb dX7_about_70 rfl (lv_at hl 0 rfl) ?_
          refine va_get (D := D) (ci := 5) (v := .ref (a 1)) (C := RX7) (T := TX7) (N := 25) hx hb hts (fun w h => List.mem_cons_of_mem _ (List.mem_append_right _ h)) hown hK hP 0 rfl rfl 0 (by decide) (hts (.fieldLink RX7 7 "LeastNeedModel" "told" "[I") (List.mem_of_getElem? (i := 2) rfl)) (fun _ h9 => h9) rfl dX7_about_71 ?_
          refine lv_bipush (v := (70 : Int32)) hx hb dX7_about_74 (by decide) ?_
          refine lv_iload_n hx hb dX7_about_76 rfl (lv_at hl 1 rfl) ?_
          refine lv_iadd hx hb dX7_about_77 ?_
          obtain ⟨hi78, hd⟩ := dn_i hd
          refine k_iald (D := D) (k := ((70 : Int32) + p1).toNatClampNeg) (by rfl) hx hb hK hP 1 1 rfl rfl hi78 dX7_about_78 ?_
          obtain ⟨e1, e2⟩ := dn_s2 hd
          exact k_iret hx hb hr hQ hAe e1 (by rw [e2]) hP hS hlocks dX7_about_79
        · have hd := dn_f e28_1 hd
          by_cases e28_2 : p2 = (2 : Int32)
          · have hd := dn_t e28_2 hd
            refine lv_tableIn (off := 52) (tgt := 80) hx hb dX7_about_28 (by rw [e28_2]; decide) (by rw [e28_2]; decide) (by rw [e28_2]; rfl) (by decide) ?_
            refine lv_aload_n hx hb dX7_about_80 rfl (lv_at hl 0 rfl) ?_
            refine va_get (D := D) (ci := 5) (v := .ref (a 1)) (C := RX7) (T := TX7) (N := 25) hx hb hts (fun w h => List.mem_cons_of_mem _ (List.mem_append_right _ h)) hown hK hP 0 rfl rfl 0 (by decide) (hts (.fieldLink RX7 7 "LeastNeedModel" "told" "[I") (List.mem_of_getElem? (i := 2) rfl)) (fun _ h9 => h9) rfl dX7_about_81 ?_
            refine lv_bipush (v := (75 : Int32)) hx hb dX7_about_84 (by decide) ?_
            refine lv_iload_n hx hb dX7_about_86 rfl (lv_at hl 1 rfl) ?_
            refine lv_iadd hx hb dX7_about_87 ?_
            obtain ⟨hi88, hd⟩ := dn_i hd
            refine k_iald (D := D) (k := ((75 : Int32) + p1).toNatClampNeg) (by rfl) hx hb hK hP 1 1 rfl rfl hi88 dX7_about_88 ?_
            obtain ⟨e1, e2⟩ := dn_s2 hd
            exact k_iret hx hb hr hQ hAe e1 (by rw [e2]) hP hS hlocks dX7_about_89
          · have hd := dn_f e28_2 hd
            by_cases e28_3 : p2 = (3 : Int32)
            · have hd := dn_t e28_3 hd
              refine lv_tableIn (off := 62) (tgt := 90) hx hb dX7_about_28 (by rw [e28_3]; decide) (by rw [e28_3]; decide) (by rw [e28_3]; rfl) (by decide) ?_
              refine lv_aload_n hx hb dX7_about_90 rfl (lv_at hl 0 rfl) ?_
              refine va_get (D := D) (ci := 5) (v := .ref (a 1)) (C := RX7) (T := TX7) (N := 25) hx hb hts (fun w h => List.mem_cons_of_mem _ (List.mem_append_right _ h)) hown hK hP 0 rfl rfl 0 (by decide) (hts (.fieldLink RX7 7 "LeastNeedModel" "told" "[I") (List.mem_of_getElem? (i := 2) rfl)) (fun _ h9 => h9) rfl dX7_about_91 ?_
              refine lv_iconst (v := (5 : Int32)) hx hb dX7_about_94 (by decide) ?_
              refine lv_iload_n hx hb dX7_about_95 rfl (lv_at hl 1 rfl) ?_
              refine lv_iadd hx hb dX7_about_96 ?_
              obtain ⟨hi97, hd⟩ := dn_i hd
              refine k_iald (D := D) (k := ((5 : Int32) + p1).toNatClampNeg) (by rfl) hx hb hK hP 1 1 rfl rfl hi97 dX7_about_97 ?_
              obtain ⟨e1, e2⟩ := dn_s2 hd
              exact k_iret hx hb hr hQ hAe e1 (by rw [e2]) hP hS hlocks dX7_about_98
            · have hd := dn_f e28_3 hd
              refine lv_tableOut (tgt := 99) hx hb dX7_about_28 (by have q0 := lv_neT e28_0 (a := 0) (by decide); have q1 := lv_neT e28_1 (a := 1) (by decide); have q2 := lv_neT e28_2 (a := 2) (by decide); have q3 := lv_neT e28_3 (a := 3) (by decide); omega) (by decide) ?_
              refine lv_aload_n hx hb dX7_about_99 rfl (lv_at hl 0 rfl) ?_
              refine va_get (D := D) (ci := 5) (v := .ref (a 1)) (C := RX7) (T := TX7) (N := 25) hx hb hts (fun w h => List.mem_cons_of_mem _ (List.mem_append_right _ h)) hown hK hP 0 rfl rfl 0 (by decide) (hts (.fieldLink RX7 7 "LeastNeedModel" "told" "[I") (List.mem_of_getElem? (i := 2) rfl)) (fun _ h9 => h9) rfl dX7_about_100 ?_
              refine lv_bipush (v := (10 : Int32)) hx hb dX7_about_103 (by decide) ?_
              refine lv_iload_n hx hb dX7_about_105 rfl (lv_at hl 1 rfl) ?_
              refine lv_iadd hx hb dX7_about_106 ?_
              obtain ⟨hi107, hd⟩ := dn_i hd
              refine k_iald (D := D) (k := ((10 : Int32) + p1).toNatClampNeg) (by rfl) hx hb hK hP 1 1 rfl rfl hi107 dX7_about_107 ?_
              obtain ⟨e1, e2⟩ := dn_s2 hd
              exact k_iret hx hb hr hQ hAe e1 (by rw [e2]) hP hS hlocks dX7_about_108
    · have hd := dn_t c17 hd
      exact Jo20 S _ _ _ hd (lv_sub hl [0] rfl) hP hS
-- LeastNeedModel.shows(II)I
set_option maxRecDepth 20000 in
def nX7_shows_j15 (S_15 : Nat → Nat → Int32) (L : Nat → Nat → Int64) : Option (Int32 × (Nat → Nat → Int32)) := k_b2 (nX7_bad S_15 L (-2 : Int32)) (fun r18 S18 => some (r18, S18))
set_option maxRecDepth 20000 in
def nX7_shows (S : Nat → Nat → Int32) (L : Nat → Nat → Int64) (p1 : Int32) (p2 : Int32) : Option (Int32 × (Nat → Nat → Int32)) := k_b1 (nX7_isOne S L p1) (fun r2 => if r2 = 0 then nX7_shows_j15 S L else k_b1 (nX7_isSort p2) (fun r9 => if r9 = 0 then nX7_shows_j15 S L else k_b1 (nX7_layCoats_1 S L) (fun S27 => k_b1 (nX7_showsOn_1 S27 L p1 p2 (S27 1 22)) (fun r44 => some (r44, S27)))))
set_option maxHeartbeats 4000000 in
set_option maxRecDepth 100000 in
theorem mX7_shows (l : Launch) (D : va_G) (cs : Nat → ClassId) (a : Nat → Nat) (S : Nat → Nat → Int32) (L : Nat → Nat → Int64) (p1 : Int32) (p2 : Int32) (r9 : Int32) (S9 : (Nat → Nat → Int32)) (hd : nX7_shows S L p1 p2 = some (r9, S9)) : ∀ sz : Nat, Met l yX7_shows wsX7_shows ({ frames := 2, cells := 0, slots := 0, locals := 49 }) (k_Pc D cs [.ref (a 0), .int p1, .int p2] (wX7 cs a S L) sz) (k_Qi D r9 (wX7 cs a S L) (wX7 cs a S9 L) sz) 0 0 (va_A (wX7 cs a S L) sz) := by
  intro sz
  refine Met.ofW (cc := cX7_shows) (maxL := 3) (ret := (some .int)) (by decide) rfl ?_
  intro p e s m args below meth c s₁ B hml hv
  obtain ⟨rfl, hsz, hP, hK, hD0, hNn⟩ := hv
  have hx := B.exec
  have hb := B.bytes
  have hr := B.returns
  have hts := atoms_spec (ws := wsX7_shows) B.pre
  have hown : s.vm.findClass RX7 = some m.cls := findClass_of_methodNamed B.named
  have hlocks := B.notSynchronized
  subst hsz
  obtain ⟨A, hAe⟩ : ∃ A : Nat → Prop, A = va_A (wX7 cs a S L) s.heap.size := ⟨_, rfl⟩
  have hD : va_D A (wX7 cs a S L) := by rw [hAe]; exact hD0.self
  have hA : ∀ q : Nat, s.heap.size ≤ q → A q := fun q h => by rw [hAe]; exact Or.inr h
  have hS : va_S A s.heap s.heap [] := va_S.rf
  have hDA : ∀ (S : Nat → Nat → Int32) (L : Nat → Nat → Int64), va_D A (wX7 cs a S L) := fun S L => k_DA hD rfl
  have hl := lv_entry ([.ref (a 0), .int p1, .int p2]) (n := 3) (Nat.le_of_ble_eq_true rfl)
  rw [lg_entry_eq]
  generalize (lg_sl ([.ref (a 0), .int p1, .int p2]) ++ List.replicate (3 - (lg_sl ([.ref (a 0), .int p1, .int p2])).length) Slot.unset).toArray = ls at hl ⊢
  have hl : lv_has ls 3 [(0, .ref (a 0)), (1, .int p1), (2, .int p2)] := hl
  obtain ⟨Q, hQ⟩ : ∃ Q, Q = MQ below (k_Qi D r9 (wX7 cs a S L) (wX7 cs a S9 L) s.heap.size) ([.ref (a 0), .int p1, .int p2] : List Value).toArray s 0 0 (va_A (wX7 cs a S L) s.heap.size) := ⟨_, rfl⟩
  rw [← hQ]
  have Jo15 : ∀ (S_15 : Nat → Nat → Int32) (H : Heap) (locs : List Loc) (ls : Array Slot), nX7_shows_j15 S_15 L = some (r9, S9) → lv_has ls 3 [(0, .ref (a 0))] → va_P D vwCl (wX7 cs a S_15 L) H → va_S A s.heap H locs → W p l e (headSpec wsX7_shows ({ frames := 2, cells := 0, slots := 0, locals := 49 })).room s m ([.ref (a 0), .int p1, .int p2] : List Value).toArray below meth c H locs 0 0 Q (F0 m 15 ls []) := by
    intro S_15 H locs ls hd hl hP hS
    have hD := hDA S_15 L
    unfold nX7_shows_j15 at hd
    refine lv_aload_n hx hb dX7_shows_15 rfl (lv_at hl 0 rfl) ?_
    refine lv_bipush (v := (-2 : Int32)) hx hb dX7_shows_16 (by decide) ?_
    obtain ⟨r18, S18, hq18, hd⟩ := dn_b2 hd
    have hF := k_self hD hS hA
    refine k_run_i (va_runV (As := [.int (-2 : Int32)]) (rest := []) ⟨hx, hb, hml, hown, hts⟩ (mX7_bad l D cs a S_15 L (-2 : Int32) r18 S18 hq18 _) (cwV 1 hts gX7_shows_X7_bad rfl rfl rfl (by decide +kernel) ⟨Nat.le_of_ble_eq_true rfl, Nat.le_of_ble_eq_true rfl⟩) ⟨k_blind, va_recv hK hP (ci := 5) (q0 := 0) rfl rfl, k_pre hP hK hNn hD⟩ rfl rfl hl.1 rfl (lv_room (Nat.le_of_ble_eq_true rfl)) dX7_shows_18 ⟨Nat.le_of_ble_eq_true rfl, Nat.le_of_ble_eq_true rfl⟩) hS hF (fun H locs hP1 hk hS => ?_)
    have hP : va_P D vwCl (wX7 cs a S18 L) _ := hP1
    have hD := hDA S18 L
    obtain ⟨e1, e2⟩ := dn_s2 hd
    exact k_iret hx hb hr hQ hAe e1 (by rw [e2]) hP hS hlocks dX7_shows_21
  unfold nX7_shows at hd
  refine lv_aload_n hx hb dX7_shows_0 rfl (lv_at hl 0 rfl) ?_
  refine lv_iload_n hx hb dX7_shows_1 rfl (lv_at hl 1 rfl) ?_
  obtain ⟨r2, hq2, hd⟩ := dn_b1 hd
  have hF := k_self hD hS hA
  refine k_run_i (va_runV (As := [.int p1]) (rest := []) ⟨hx, hb, hml, hown, hts⟩ (mX7_isOne l D cs a S L p1 r2 hq2 _) (cwV 1 hts gX7_shows_X7_isOne rfl rfl rfl (by decide +kernel) ⟨Nat.le_of_ble_eq_true rfl, Nat.le_of_ble_eq_true rfl⟩) ⟨k_blind, va_recv hK hP (ci := 5) (q0 := 0) rfl rfl, k_pre hP hK hNn hD⟩ rfl rfl hl.1 rfl (lv_room (Nat.le_of_ble_eq_true rfl)) dX7_shows_2 ⟨Nat.le_of_ble_eq_true rfl, Nat.le_of_ble_eq_true rfl⟩) hS hF (fun H locs hP1 hk hS => ?_)
  have hP : va_P D vwCl (wX7 cs a S L) _ := hP1
  have hD := hDA S L
  refine lv_if_eq (tgt := 15) hx hb dX7_shows_5 (by decide) (fun c5 => ?_) (fun c5 => ?_)
  · have hd := dn_t c5 hd
    exact Jo15 S _ _ _ hd (lv_sub hl [0] rfl) hP hS
  · have hd := dn_f c5 hd
    refine lv_iload_n hx hb dX7_shows_8 rfl (lv_at hl 2 rfl) ?_
    obtain ⟨r9, hq9, hd⟩ := dn_b1 hd
    have hPc := k_P0 hP
    have hDc : va_D A ([] : va_W) := k_D0
    have hF := k_self hDc hS hA
    refine k_run_i (va_runS (As := [.int p2]) (rest := []) ⟨hx, hb, hml, hown, hts⟩ (mX7_isSort l D cs  p2 r9 hq9 _) (va_cwS 1 hts gX7_shows_X7_isSort rfl rfl rfl (by decide +kernel) ⟨Nat.le_of_ble_eq_true rfl, Nat.le_of_ble_eq_true rfl⟩) ⟨k_blind, k_pre hPc hK hNn hDc⟩ rfl rfl hl.1 rfl (lv_room (Nat.le_of_ble_eq_true rfl)) dX7_shows_9 ⟨Nat.le_of_ble_eq_true rfl, Nat.le_of_ble_eq_true rfl⟩) hS hF (fun H locs hP1 hk hS => ?_)
    have hP : va_P D vwCl (wX7 cs a S L) _ := k_keep hP hk
    refine lv_if_ne (tgt := 22) hx hb dX7_shows_12 (by decide) (fun c12 => ?_) (fun c12 => ?_)
    · have hd := dn_f c12 hd
      refine lv_aload_n hx hb dX7_shows_22 rfl (lv_at hl 0 rfl) ?_
      refine lv_aload_n hx hb dX7_shows_23 rfl (lv_at hl 0 rfl) ?_
      refine va_get (D := D) (ci := 5) (v := .ref (a 1)) (C := RX7) (T := TX7) (N := 25) hx hb hts (fun w h => List.mem_cons_of_mem _ (List.mem_append_right _ h)) hown hK hP 0 rfl rfl 0 (by decide) (hts (.fieldLink RX7 7 "LeastNeedModel" "told" "[I") (List.mem_of_getElem? (i := 1) rfl)) (fun _ h9 => h9) rfl dX7_shows_24 ?_
      obtain ⟨S27, hq27, hd⟩ := dn_b1 hd
      have hF := k_self hD hS hA
      refine k_run_v (va_runV (As := [.ref (a 1)]) (rest := []) ⟨hx, hb, hml, hown, hts⟩ (mX7_layCoats_1 l D cs a S L S27 hq27 _) (cwV 1 hts gX7_shows_X7_layCoats rfl rfl rfl (by decide +kernel) ⟨Nat.le_of_ble_eq_true rfl, Nat.le_of_ble_eq_true rfl⟩) ⟨k_blind, va_recv hK hP (ci := 5) (q0 := 0) rfl rfl, k_pre hP hK hNn hD⟩ rfl rfl hl.1 rfl (lv_room (Nat.le_of_ble_eq_true rfl)) dX7_shows_27 ⟨Nat.le_of_ble_eq_true rfl, Nat.le_of_ble_eq_true rfl⟩) hS hF (fun H locs hP1 hk hS => ?_)
      have hP : va_P D vwCl (wX7 cs a S27 L) _ := hP1
      have hD := hDA S27 L
      refine lv_aload_n hx hb dX7_shows_30 rfl (lv_at hl 0 rfl) ?_
      refine lv_aload_n hx hb dX7_shows_31 rfl (lv_at hl 0 rfl) ?_
      refine va_get (D := D) (ci := 5) (v := .ref (a 1)) (C := RX7) (T := TX7) (N := 25) hx hb hts (fun w h => List.mem_cons_of_mem _ (List.mem_append_right _ h)) hown hK hP 0 rfl rfl 0 (by decide) (hts (.fieldLink RX7 7 "LeastNeedModel" "told" "[I") (List.mem_of_getElem? (i := 1) rfl)) (fun _ h9 => h9) rfl dX7_shows_32 ?_
      refine lv_iload_n hx hb dX7_shows_35 rfl (lv_at hl 1 rfl) ?_
      refine lv_iload_n hx hb dX7_shows_36 rfl (lv_at hl 2 rfl) ?_
      refine lv_aload_n hx hb dX7_shows_37 rfl (lv_at hl 0 rfl) ?_
      refine va_get (D := D) (ci := 5) (v := .ref (a 1)) (C := RX7) (T := TX7) (N := 25) hx hb hts (fun w h => List.mem_cons_of_mem _ (List.mem_append_right _ h)) hown hK hP 0 rfl rfl 0 (by decide) (hts (.fieldLink RX7 7 "LeastNeedModel" "told" "[I") (List.mem_of_getElem? (i := 1) rfl)) (fun _ h9 => h9) rfl dX7_shows_38 ?_
      refine lv_bipush (v := (22 : Int32)) hx hb dX7_shows_41 (by decide) ?_
      refine k_iald (D := D) (k := 22) (by rfl) hx hb hK hP 1 1 rfl rfl (k_in (by decide)) dX7_shows_43 ?_
      obtain ⟨r44, hq44, hd⟩ := dn_b1 hd
      have hF := k_self hD hS hA
      refine k_run_i (va_runV (As := [.ref (a 1), .int p1, .int p2, .int (S27 1 22)]) (rest := []) ⟨hx, hb, hml, hown, hts⟩ (mX7_showsOn_1 l D cs a S27 L p1 p2 (S27 1 22) r44 hq44 _) (cwV 4 hts gX7_shows_X7_showsOn rfl rfl rfl (by decide +kernel) ⟨Nat.le_of_ble_eq_true rfl, Nat.le_of_ble_eq_true rfl⟩) ⟨k_blind, va_recv hK hP (ci := 5) (q0 := 0) rfl rfl, k_pre hP hK hNn hD⟩ rfl rfl hl.1 rfl (lv_room (Nat.le_of_ble_eq_true rfl)) dX7_shows_44 ⟨Nat.le_of_ble_eq_true rfl, Nat.le_of_ble_eq_true rfl⟩) hS hF (fun H locs hP1 hk hS => ?_)
      have hP : va_P D vwCl (wX7 cs a S27 L) _ := hP1
      have hD := hDA S27 L
      obtain ⟨e1, e2⟩ := dn_s2 hd
      exact k_iret hx hb hr hQ hAe e1 (by rw [e2]) hP hS hlocks dX7_shows_47
    · have hd := dn_t c12 hd
      exact Jo15 S _ _ _ hd (lv_sub hl [0] rfl) hP hS
-- LeastNeedModel.comes(I)I
set_option maxRecDepth 20000 in
def nX7_comes (S : Nat → Nat → Int32) (L : Nat → Nat → Int64) (p1 : Int32) : Option (Int32 × (Nat → Nat → Int32)) := k_b1 (nX7_isThing S L p1) (fun r2 => if r2 = 0 then k_b2 (nX7_bad S L (-2 : Int32)) (fun r11 S11 => some (r11, S11)) else k_b1 (nX7_layCoats_1 S L) (fun S20 => if ((5 : Int32) + p1) < 0 ∨ 284 ≤ ((5 : Int32) + p1).toNatClampNeg then none else k_b1 (nX7_comesNow S20 L p1 (S20 1 ((5 : Int32) + p1).toNatClampNeg)) (fun r33 => some (r33, S20))))
set_option maxHeartbeats 4000000 in
set_option maxRecDepth 100000 in
theorem mX7_comes (l : Launch) (D : va_G) (cs : Nat → ClassId) (a : Nat → Nat) (S : Nat → Nat → Int32) (L : Nat → Nat → Int64) (p1 : Int32) (r9 : Int32) (S9 : (Nat → Nat → Int32)) (hd : nX7_comes S L p1 = some (r9, S9)) : ∀ sz : Nat, Met l yX7_comes wsX7_comes ({ frames := 5, cells := 0, slots := 0, locals := 128 }) (k_Pc D cs [.ref (a 0), .int p1] (wX7 cs a S L) sz) (k_Qi D r9 (wX7 cs a S L) (wX7 cs a S9 L) sz) 0 0 (va_A (wX7 cs a S L) sz) := by
  intro sz
  refine Met.ofW (cc := cX7_comes) (maxL := 2) (ret := (some .int)) (by decide) rfl ?_
  intro p e s m args below meth c s₁ B hml hv
  obtain ⟨rfl, hsz, hP, hK, hD0, hNn⟩ := hv
  have hx := B.exec
  have hb := B.bytes
  have hr := B.returns
  have hts := atoms_spec (ws := wsX7_comes) B.pre
  have hown : s.vm.findClass RX7 = some m.cls := findClass_of_methodNamed B.named
  have hlocks := B.notSynchronized
  subst hsz
  obtain ⟨A, hAe⟩ : ∃ A : Nat → Prop, A = va_A (wX7 cs a S L) s.heap.size := ⟨_, rfl⟩
  have hD : va_D A (wX7 cs a S L) := by rw [hAe]; exact hD0.self
  have hA : ∀ q : Nat, s.heap.size ≤ q → A q := fun q h => by rw [hAe]; exact Or.inr h
  have hS : va_S A s.heap s.heap [] := va_S.rf
  have hDA : ∀ (S : Nat → Nat → Int32) (L : Nat → Nat → Int64), va_D A (wX7 cs a S L) := fun S L => k_DA hD rfl
  have hl := lv_entry ([.ref (a 0), .int p1]) (n := 2) (Nat.le_of_ble_eq_true rfl)
  rw [lg_entry_eq]
  generalize (lg_sl ([.ref (a 0), .int p1]) ++ List.replicate (2 - (lg_sl ([.ref (a 0), .int p1])).length) Slot.unset).toArray = ls at hl ⊢
  have hl : lv_has ls 2 [(0, .ref (a 0)), (1, .int p1)] := hl
  obtain ⟨Q, hQ⟩ : ∃ Q, Q = MQ below (k_Qi D r9 (wX7 cs a S L) (wX7 cs a S9 L) s.heap.size) ([.ref (a 0), .int p1] : List Value).toArray s 0 0 (va_A (wX7 cs a S L) s.heap.size) := ⟨_, rfl⟩
  rw [← hQ]
  unfold nX7_comes at hd
  refine lv_aload_n hx hb dX7_comes_0 rfl (lv_at hl 0 rfl) ?_
  refine lv_iload_n hx hb dX7_comes_1 rfl (lv_at hl 1 rfl) ?_
  obtain ⟨r2, hq2, hd⟩ := dn_b1 hd
  have hF := k_self hD hS hA
  refine k_run_i (va_runV (As := [.int p1]) (rest := []) ⟨hx, hb, hml, hown, hts⟩ (mX7_isThing l D cs a S L p1 r2 hq2 _) (cwV 1 hts gX7_comes_X7_isThing rfl rfl rfl (by decide +kernel) ⟨Nat.le_of_ble_eq_true rfl, Nat.le_of_ble_eq_true rfl⟩) ⟨k_blind, va_recv hK hP (ci := 5) (q0 := 0) rfl rfl, k_pre hP hK hNn hD⟩ rfl rfl hl.1 rfl (lv_room (Nat.le_of_ble_eq_true rfl)) dX7_comes_2 ⟨Nat.le_of_ble_eq_true rfl, Nat.le_of_ble_eq_true rfl⟩) hS hF (fun H locs hP1 hk hS => ?_)
  have hP : va_P D vwCl (wX7 cs a S L) _ := hP1
  have hD := hDA S L
  refine lv_if_ne (tgt := 15) hx hb dX7_comes_5 (by decide) (fun c5 => ?_) (fun c5 => ?_)
  · have hd := dn_f c5 hd
    refine lv_aload_n hx hb dX7_comes_15 rfl (lv_at hl 0 rfl) ?_
    refine lv_aload_n hx hb dX7_comes_16 rfl (lv_at hl 0 rfl) ?_
    refine va_get (D := D) (ci := 5) (v := .ref (a 1)) (C := RX7) (T := TX7) (N := 25) hx hb hts (fun w h => List.mem_cons_of_mem _ (List.mem_append_right _ h)) hown hK hP 0 rfl rfl 0 (by decide) (hts (.fieldLink RX7 7 "LeastNeedModel" "told" "[I") (List.mem_of_getElem? (i := 1) rfl)) (fun _ h9 => h9) rfl dX7_comes_17 ?_
    obtain ⟨S20, hq20, hd⟩ := dn_b1 hd
    have hF := k_self hD hS hA
    refine k_run_v (va_runV (As := [.ref (a 1)]) (rest := []) ⟨hx, hb, hml, hown, hts⟩ (mX7_layCoats_1 l D cs a S L S20 hq20 _) (cwV 1 hts gX7_comes_X7_layCoats rfl rfl rfl (by decide +kernel) ⟨Nat.le_of_ble_eq_true rfl, Nat.le_of_ble_eq_true rfl⟩) ⟨k_blind, va_recv hK hP (ci := 5) (q0 := 0) rfl rfl, k_pre hP hK hNn hD⟩ rfl rfl hl.1 rfl (lv_room (Nat.le_of_ble_eq_true rfl)) dX7_comes_20 ⟨Nat.le_of_ble_eq_true rfl, Nat.le_of_ble_eq_true rfl⟩) hS hF (fun H locs hP1 hk hS => ?_)
    have hP : va_P D vwCl (wX7 cs a S20 L) _ := hP1
    have hD := hDA S20 L
    refine lv_aload_n hx hb dX7_comes_23 rfl (lv_at hl 0 rfl) ?_
    refine lv_iload_n hx hb dX7_comes_24 rfl (lv_at hl 1 rfl) ?_
    refine lv_aload_n hx hb dX7_comes_25 rfl (lv_at hl 0 rfl) ?_
    refine va_get (D := D) (ci := 5) (v := .ref (a 1)) (C := RX7) (T := TX7) (N := 25) hx hb hts (fun w h => List.mem_cons_of_mem _ (List.mem_append_right _ h)) hown hK hP 0 rfl rfl 0 (by decide) (hts (.fieldLink RX7 7 "LeastNeedModel" "told" "[I") (List.mem_of_getElem? (i := 1) rfl)) (fun _ h9 => h9) rfl dX7_comes_26 ?_
    refine lv_iconst (v := (5 : Int32)) hx hb dX7_comes_29 (by decide) ?_
    refine lv_iload_n hx hb dX7_comes_30 rfl (lv_at hl 1 rfl) ?_
    refine lv_iadd hx hb dX7_comes_31 ?_
    obtain ⟨hi32, hd⟩ := dn_i hd
    refine k_iald (D := D) (k := ((5 : Int32) + p1).toNatClampNeg) (by rfl) hx hb hK hP 1 1 rfl rfl hi32 dX7_comes_32 ?_
    obtain ⟨r33, hq33, hd⟩ := dn_b1 hd
    have hF := k_self hD hS hA
    refine k_run_i (va_runV (As := [.int p1, .int (S20 1 ((5 : Int32) + p1).toNatClampNeg)]) (rest := []) ⟨hx, hb, hml, hown, hts⟩ (mX7_comesNow l D cs a S20 L p1 (S20 1 ((5 : Int32) + p1).toNatClampNeg) r33 hq33 _) (cwV 2 hts gX7_comes_X7_comesNow rfl rfl rfl (by decide +kernel) ⟨Nat.le_of_ble_eq_true rfl, Nat.le_of_ble_eq_true rfl⟩) ⟨k_blind, va_recv hK hP (ci := 5) (q0 := 0) rfl rfl, k_pre hP hK hNn hD⟩ rfl rfl hl.1 rfl (lv_room (Nat.le_of_ble_eq_true rfl)) dX7_comes_33 ⟨Nat.le_of_ble_eq_true rfl, Nat.le_of_ble_eq_true rfl⟩) hS hF (fun H locs hP1 hk hS => ?_)
    have hP : va_P D vwCl (wX7 cs a S20 L) _ := hP1
    have hD := hDA S20 L
    obtain ⟨e1, e2⟩ := dn_s2 hd
    exact k_iret hx hb hr hQ hAe e1 (by rw [e2]) hP hS hlocks dX7_comes_36
  · have hd := dn_t c5 hd
    refine lv_aload_n hx hb dX7_comes_8 rfl (lv_at hl 0 rfl) ?_
    refine lv_bipush (v := (-2 : Int32)) hx hb dX7_comes_9 (by decide) ?_
    obtain ⟨r11, S11, hq11, hd⟩ := dn_b2 hd
    have hF := k_self hD hS hA
    refine k_run_i (va_runV (As := [.int (-2 : Int32)]) (rest := []) ⟨hx, hb, hml, hown, hts⟩ (mX7_bad l D cs a S L (-2 : Int32) r11 S11 hq11 _) (cwV 1 hts gX7_comes_X7_bad rfl rfl rfl (by decide +kernel) ⟨Nat.le_of_ble_eq_true rfl, Nat.le_of_ble_eq_true rfl⟩) ⟨k_blind, va_recv hK hP (ci := 5) (q0 := 0) rfl rfl, k_pre hP hK hNn hD⟩ rfl rfl hl.1 rfl (lv_room (Nat.le_of_ble_eq_true rfl)) dX7_comes_11 ⟨Nat.le_of_ble_eq_true rfl, Nat.le_of_ble_eq_true rfl⟩) hS hF (fun H locs hP1 hk hS => ?_)
    have hP : va_P D vwCl (wX7 cs a S11 L) _ := hP1
    have hD := hDA S11 L
    obtain ⟨e1, e2⟩ := dn_s2 hd
    exact k_iret hx hb hr hQ hAe e1 (by rw [e2]) hP hS hlocks dX7_comes_14
-- LeastNeedModel.chain(II)I
set_option maxRecDepth 20000 in
def nX7_chain_l47 (p1 : Int32) (p2 : Int32) (x3_47 : Int32) (x4_47 : Int32) (S_47 : Nat → Nat → Int32) (L : Nat → Nat → Int64) : Option ((Int32 × Int32) ⊕ (Int32 × (Nat → Nat → Int32))) := if p2 ≤ x4_47 then k_up (some (x3_47, S_47)) else if x3_47 = (-1 : Int32) then k_up (some (x3_47, S_47)) else k_b1 (nX7_comesNow S_47 L p1 x3_47) (fun r61 => some (.inl (r61, (x4_47 + (1 : Int32)))))
set_option maxRecDepth 20000 in
def nX7_chain_j20 (S_20 : Nat → Nat → Int32) (L : Nat → Nat → Int64) : Option (Int32 × (Nat → Nat → Int32)) := k_b2 (nX7_bad S_20 L (-2 : Int32)) (fun r23 S23 => some (r23, S23))
set_option maxRecDepth 20000 in
def nX7_chain (S : Nat → Nat → Int32) (L : Nat → Nat → Int64) (p1 : Int32) (p2 : Int32) : Option (Int32 × (Nat → Nat → Int32)) := k_b1 (nX7_isThing S L p1) (fun r2 => if r2 = 0 then nX7_chain_j20 S L else k_b1 (nX7_in p2.toInt64 (0 : Int64) (50 : Int64)) (fun r14 => if r14 = 0 then nX7_chain_j20 S L else k_b1 (nX7_layCoats_1 S L) (fun S32 => if ((5 : Int32) + p1) < 0 ∨ 284 ≤ ((5 : Int32) + p1).toNatClampNeg then none else k_it (fun st => nX7_chain_l47 p1 p2 st.1 st.2 S32 L) 1000 ((S32 1 ((5 : Int32) + p1).toNatClampNeg), (0 : Int32)))))
set_option maxHeartbeats 4000000 in
set_option maxRecDepth 100000 in
theorem mX7_chain (l : Launch) (D : va_G) (cs : Nat → ClassId) (a : Nat → Nat) (S : Nat → Nat → Int32) (L : Nat → Nat → Int64) (p1 : Int32) (p2 : Int32) (r9 : Int32) (S9 : (Nat → Nat → Int32)) (hd : nX7_chain S L p1 p2 = some (r9, S9)) : ∀ sz : Nat, Met l yX7_chain wsX7_chain ({ frames := 5, cells := 0, slots := 0, locals := 128 }) (k_Pc D cs [.ref (a 0), .int p1, .int p2] (wX7 cs a S L) sz) (k_Qi D r9 (wX7 cs a S L) (wX7 cs a S9 L) sz) 0 0 (va_A (wX7 cs a S L) sz) := by
  intro sz
  refine Met.ofW (cc := cX7_chain) (maxL := 5) (ret := (some .int)) (by decide) rfl ?_
  intro p e s m args below meth c s₁ B hml hv
  obtain ⟨rfl, hsz, hP, hK, hD0, hNn⟩ := hv
  have hx := B.exec
  have hb := B.bytes
  have hr := B.returns
  have hts := atoms_spec (ws := wsX7_chain) B.pre
  have hown : s.vm.findClass RX7 = some m.cls := findClass_of_methodNamed B.named
  have hlocks := B.notSynchronized
  subst hsz
  obtain ⟨A, hAe⟩ : ∃ A : Nat → Prop, A = va_A (wX7 cs a S L) s.heap.size := ⟨_, rfl⟩
  have hD : va_D A (wX7 cs a S L) := by rw [hAe]; exact hD0.self
  have hA : ∀ q : Nat, s.heap.size ≤ q → A q := fun q h => by rw [hAe]; exact Or.inr h
  have hS : va_S A s.heap s.heap [] := va_S.rf
  have hDA : ∀ (S : Nat → Nat → Int32) (L : Nat → Nat → Int64), va_D A (wX7 cs a S L) := fun S L => k_DA hD rfl
  have hl := lv_entry ([.ref (a 0), .int p1, .int p2]) (n := 5) (Nat.le_of_ble_eq_true rfl)
  rw [lg_entry_eq]
  generalize (lg_sl ([.ref (a 0), .int p1, .int p2]) ++ List.replicate (5 - (lg_sl ([.ref (a 0), .int p1, .int p2])).length) Slot.unset).toArray = ls at hl ⊢
  have hl : lv_has ls 5 [(0, .ref (a 0)), (1, .int p1), (2, .int p2)] := hl
  obtain ⟨Q, hQ⟩ : ∃ Q, Q = MQ below (k_Qi D r9 (wX7 cs a S L) (wX7 cs a S9 L) s.heap.size) ([.ref (a 0), .int p1, .int p2] : List Value).toArray s 0 0 (va_A (wX7 cs a S L) s.heap.size) := ⟨_, rfl⟩
  rw [← hQ]
  have Lo47 : ∀ (n1 : Nat) (x3_47 : Int32) (x4_47 : Int32) (S_47 : Nat → Nat → Int32) (H : Heap) (locs : List Loc) (ls : Array Slot), k_it (fun st => nX7_chain_l47 p1 p2 st.1 st.2 S_47 L) n1 (x3_47, x4_47) = some (r9, S9) → lv_has ls 5 [(0, .ref (a 0)), (1, .int p1), (2, .int p2), (3, .int x3_47), (4, .int x4_47)] → va_P D vwCl (wX7 cs a S_47 L) H → va_S A s.heap H locs → W p l e (headSpec wsX7_chain ({ frames := 5, cells := 0, slots := 0, locals := 128 })).room s m ([.ref (a 0), .int p1, .int p2] : List Value).toArray below meth c H locs 0 0 Q (F0 m 47 ls []) := by
    intro n1
    induction n1 with
    | zero => intro x3_47 x4_47 S_47 H locs ls hd; exact dn_it0 hd
    | succ n1 ih1 =>
      intro x3_47 x4_47 S_47 H locs ls hd hl hP hS
      have hD := hDA S_47 L
      obtain ⟨y1, hd, hy1⟩ := dn_it hd
      have hd : nX7_chain_l47 p1 p2 x3_47 x4_47 S_47 L = some y1 := hd
      unfold nX7_chain_l47 at hd
      refine lv_iload hx hb dX7_chain_47 (lv_at hl 4 rfl) ?_
      refine lv_iload_n hx hb dX7_chain_49 rfl (lv_at hl 2 rfl) ?_
      refine lv_icmp_ge (tgt := 71) hx hb dX7_chain_50 (by decide) (fun c50 => ?_) (fun c50 => ?_)
      · have hd := dn_t c50 hd
        have hd := dn_up hd hy1
        refine lv_iload_n hx hb dX7_chain_71 rfl (lv_at hl 3 rfl) ?_
        obtain ⟨e1, e2⟩ := dn_s2 hd
        exact k_iret hx hb hr hQ hAe e1 (by rw [e2]) hP hS hlocks dX7_chain_72
      · have hd := dn_f c50 hd
        refine lv_iload_n hx hb dX7_chain_53 rfl (lv_at hl 3 rfl) ?_
        refine lv_iconst (v := (-1 : Int32)) hx hb dX7_chain_54 (by decide) ?_
        refine lv_icmp_eq (tgt := 71) hx hb dX7_chain_55 (by decide) (fun c55 => ?_) (fun c55 => ?_)
        · have hd := dn_t c55 hd
          have hd := dn_up hd hy1
          refine lv_iload_n hx hb dX7_chain_71 rfl (lv_at hl 3 rfl) ?_
          obtain ⟨e1, e2⟩ := dn_s2 hd
          exact k_iret hx hb hr hQ hAe e1 (by rw [e2]) hP hS hlocks dX7_chain_72
        · have hd := dn_f c55 hd
          refine lv_aload_n hx hb dX7_chain_58 rfl (lv_at hl 0 rfl) ?_
          refine lv_iload_n hx hb dX7_chain_59 rfl (lv_at hl 1 rfl) ?_
          refine lv_iload_n hx hb dX7_chain_60 rfl (lv_at hl 3 rfl) ?_
          obtain ⟨r61, hq61, hd⟩ := dn_b1 hd
          have hF := k_self hD hS hA
          refine k_run_i (va_runV (As := [.int p1, .int x3_47]) (rest := []) ⟨hx, hb, hml, hown, hts⟩ (mX7_comesNow l D cs a S_47 L p1 x3_47 r61 hq61 _) (cwV 2 hts gX7_chain_X7_comesNow rfl rfl rfl (by decide +kernel) ⟨Nat.le_of_ble_eq_true rfl, Nat.le_of_ble_eq_true rfl⟩) ⟨k_blind, va_recv hK hP (ci := 5) (q0 := 0) rfl rfl, k_pre hP hK hNn hD⟩ rfl rfl hl.1 rfl (lv_room (Nat.le_of_ble_eq_true rfl)) dX7_chain_61 ⟨Nat.le_of_ble_eq_true rfl, Nat.le_of_ble_eq_true rfl⟩) hS hF (fun H locs hP1 hk hS => ?_)
          have hP : va_P D vwCl (wX7 cs a S_47 L) _ := hP1
          have hD := hDA S_47 L
          refine lv_istore_n (lv' := [(3, .int r61), (0, .ref (a 0)), (1, .int p1), (2, .int p2), (4, .int x4_47)]) hx hb dX7_chain_64 rfl hl (by decide) rfl (fun ls hl => ?_)
          refine lv_iinc (v := x4_47 + (1 : Int32)) (lv' := [(4, .int (x4_47 + (1 : Int32))), (3, .int r61), (0, .ref (a 0)), (1, .int p1), (2, .int p2)]) hx hb dX7_chain_65 hl (k := 4) rfl rfl (by decide) rfl (fun ls hl => ?_)
          refine lv_goto (tgt := 47) hx hb dX7_chain_68 (by decide) ?_
          exact ih1 r61 (x4_47 + (1 : Int32)) S_47 _ _ _ (dn_bk hd hy1) (lv_sub hl [2, 3, 4, 1, 0] rfl) hP hS
  have Jo20 : ∀ (S_20 : Nat → Nat → Int32) (H : Heap) (locs : List Loc) (ls : Array Slot), nX7_chain_j20 S_20 L = some (r9, S9) → lv_has ls 5 [(0, .ref (a 0))] → va_P D vwCl (wX7 cs a S_20 L) H → va_S A s.heap H locs → W p l e (headSpec wsX7_chain ({ frames := 5, cells := 0, slots := 0, locals := 128 })).room s m ([.ref (a 0), .int p1, .int p2] : List Value).toArray below meth c H locs 0 0 Q (F0 m 20 ls []) := by
    intro S_20 H locs ls hd hl hP hS
    have hD := hDA S_20 L
    unfold nX7_chain_j20 at hd
    refine lv_aload_n hx hb dX7_chain_20 rfl (lv_at hl 0 rfl) ?_
    refine lv_bipush (v := (-2 : Int32)) hx hb dX7_chain_21 (by decide) ?_
    obtain ⟨r23, S23, hq23, hd⟩ := dn_b2 hd
    have hF := k_self hD hS hA
    refine k_run_i (va_runV (As := [.int (-2 : Int32)]) (rest := []) ⟨hx, hb, hml, hown, hts⟩ (mX7_bad l D cs a S_20 L (-2 : Int32) r23 S23 hq23 _) (cwV 1 hts gX7_chain_X7_bad rfl rfl rfl (by decide +kernel) ⟨Nat.le_of_ble_eq_true rfl, Nat.le_of_ble_eq_true rfl⟩) ⟨k_blind, va_recv hK hP (ci := 5) (q0 := 0) rfl rfl, k_pre hP hK hNn hD⟩ rfl rfl hl.1 rfl (lv_room (Nat.le_of_ble_eq_true rfl)) dX7_chain_23 ⟨Nat.le_of_ble_eq_true rfl, Nat.le_of_ble_eq_true rfl⟩) hS hF (fun H locs hP1 hk hS => ?_)
    have hP : va_P D vwCl (wX7 cs a S23 L) _ := hP1
    have hD := hDA S23 L
    obtain ⟨e1, e2⟩ := dn_s2 hd
    exact k_iret hx hb hr hQ hAe e1 (by rw [e2]) hP hS hlocks dX7_chain_26
  unfold nX7_chain at hd
  refine lv_aload_n hx hb dX7_chain_0 rfl (lv_at hl 0 rfl) ?_
  refine lv_iload_n hx hb dX7_chain_1 rfl (lv_at hl 1 rfl) ?_
  obtain ⟨r2, hq2, hd⟩ := dn_b1 hd
  have hF := k_self hD hS hA
  refine k_run_i (va_runV (As := [.int p1]) (rest := []) ⟨hx, hb, hml, hown, hts⟩ (mX7_isThing l D cs a S L p1 r2 hq2 _) (cwV 1 hts gX7_chain_X7_isThing rfl rfl rfl (by decide +kernel) ⟨Nat.le_of_ble_eq_true rfl, Nat.le_of_ble_eq_true rfl⟩) ⟨k_blind, va_recv hK hP (ci := 5) (q0 := 0) rfl rfl, k_pre hP hK hNn hD⟩ rfl rfl hl.1 rfl (lv_room (Nat.le_of_ble_eq_true rfl)) dX7_chain_2 ⟨Nat.le_of_ble_eq_true rfl, Nat.le_of_ble_eq_true rfl⟩) hS hF (fun H locs hP1 hk hS => ?_)
  have hP : va_P D vwCl (wX7 cs a S L) _ := hP1
  have hD := hDA S L
  refine lv_if_eq (tgt := 20) hx hb dX7_chain_5 (by decide) (fun c5 => ?_) (fun c5 => ?_)
  · have hd := dn_t c5 hd
    exact Jo20 S _ _ _ hd (lv_sub hl [0] rfl) hP hS
  · have hd := dn_f c5 hd
    refine lv_iload_n hx hb dX7_chain_8 rfl (lv_at hl 2 rfl) ?_
    refine lv_i2l hx hb dX7_chain_9 rfl ?_
    refine lv_lconst (v := (0 : Int64)) hx hb dX7_chain_10 (by decide) ?_
    refine lv_ldc2 (v := (50 : Int64)) hx hb hown (hts (.constantLong RX7 181 (50)) (List.mem_of_getElem? (i := 1) rfl)) dX7_chain_11 ?_
    obtain ⟨r14, hq14, hd⟩ := dn_b1 hd
    have hPc := k_P0 hP
    have hDc : va_D A ([] : va_W) := k_D0
    have hF := k_self hDc hS hA
    refine k_run_i (va_runS (As := [.long p2.toInt64, .long (0 : Int64), .long (50 : Int64)]) (rest := []) ⟨hx, hb, hml, hown, hts⟩ (mX7_in l D cs  p2.toInt64 (0 : Int64) (50 : Int64) r14 hq14 _) (va_cwS 3 hts gX7_chain_X7_in rfl rfl rfl (by decide +kernel) ⟨Nat.le_of_ble_eq_true rfl, Nat.le_of_ble_eq_true rfl⟩) ⟨k_blind, k_pre hPc hK hNn hDc⟩ rfl rfl hl.1 rfl (lv_room (Nat.le_of_ble_eq_true rfl)) dX7_chain_14 ⟨Nat.le_of_ble_eq_true rfl, Nat.le_of_ble_eq_true rfl⟩) hS hF (fun H locs hP1 hk hS => ?_)
    have hP : va_P D vwCl (wX7 cs a S L) _ := k_keep hP hk
    refine lv_if_ne (tgt := 27) hx hb dX7_chain_17 (by decide) (fun c17 => ?_) (fun c17 => ?_)
    · have hd := dn_f c17 hd
      refine lv_aload_n hx hb dX7_chain_27 rfl (lv_at hl 0 rfl) ?_
      refine lv_aload_n hx hb dX7_chain_28 rfl (lv_at hl 0 rfl) ?_
      refine va_get (D := D) (ci := 5) (v := .ref (a 1)) (C := RX7) (T := TX7) (N := 25) hx hb hts (fun w h => List.mem_cons_of_mem _ (List.mem_append_right _ h)) hown hK hP 0 rfl rfl 0 (by decide) (hts (.fieldLink RX7 7 "LeastNeedModel" "told" "[I") (List.mem_of_getElem? (i := 2) rfl)) (fun _ h9 => h9) rfl dX7_chain_29 ?_
      obtain ⟨S32, hq32, hd⟩ := dn_b1 hd
      have hF := k_self hD hS hA
      refine k_run_v (va_runV (As := [.ref (a 1)]) (rest := []) ⟨hx, hb, hml, hown, hts⟩ (mX7_layCoats_1 l D cs a S L S32 hq32 _) (cwV 1 hts gX7_chain_X7_layCoats rfl rfl rfl (by decide +kernel) ⟨Nat.le_of_ble_eq_true rfl, Nat.le_of_ble_eq_true rfl⟩) ⟨k_blind, va_recv hK hP (ci := 5) (q0 := 0) rfl rfl, k_pre hP hK hNn hD⟩ rfl rfl hl.1 rfl (lv_room (Nat.le_of_ble_eq_true rfl)) dX7_chain_32 ⟨Nat.le_of_ble_eq_true rfl, Nat.le_of_ble_eq_true rfl⟩) hS hF (fun H locs hP1 hk hS => ?_)
      have hP : va_P D vwCl (wX7 cs a S32 L) _ := hP1
      have hD := hDA S32 L
      refine lv_aload_n hx hb dX7_chain_35 rfl (lv_at hl 0 rfl) ?_
      refine va_get (D := D) (ci := 5) (v := .ref (a 1)) (C := RX7) (T := TX7) (N := 25) hx hb hts (fun w h => List.mem_cons_of_mem _ (List.mem_append_right _ h)) hown hK hP 0 rfl rfl 0 (by decide) (hts (.fieldLink RX7 7 "LeastNeedModel" "told" "[I") (List.mem_of_getElem? (i := 2) rfl)) (fun _ h9 => h9) rfl dX7_chain_36 ?_
      refine lv_iconst (v := (5 : Int32)) hx hb dX7_chain_39 (by decide) ?_
      refine lv_iload_n hx hb dX7_chain_40 rfl (lv_at hl 1 rfl) ?_
      refine lv_iadd hx hb dX7_chain_41 ?_
      obtain ⟨hi42, hd⟩ := dn_i hd
      refine k_iald (D := D) (k := ((5 : Int32) + p1).toNatClampNeg) (by rfl) hx hb hK hP 1 1 rfl rfl hi42 dX7_chain_42 ?_
      refine lv_istore_n (lv' := [(3, .int (S32 1 ((5 : Int32) + p1).toNatClampNeg)), (0, .ref (a 0)), (1, .int p1), (2, .int p2)]) hx hb dX7_chain_43 rfl hl (by decide) rfl (fun ls hl => ?_)
      refine lv_iconst (v := (0 : Int32)) hx hb dX7_chain_44 (by decide) ?_
      refine lv_istore (lv' := [(4, .int (0 : Int32)), (3, .int (S32 1 ((5 : Int32) + p1).toNatClampNeg)), (0, .ref (a 0)), (1, .int p1), (2, .int p2)]) hx hb dX7_chain_45 hl (by decide) rfl (fun ls hl => ?_)
      exact Lo47 1000 (S32 1 ((5 : Int32) + p1).toNatClampNeg) (0 : Int32) S32 _ _ _ hd (lv_sub hl [2, 3, 4, 1, 0] rfl) hP hS
    · have hd := dn_t c17 hd
      exact Jo20 S _ _ _ hd (lv_sub hl [0] rfl) hP hS
-- LeastNeedModel.ring(II)I
set_option maxRecDepth 20000 in
def nX7_ring_j107 (p2 : Int32) (x3_107 : Int32) (x4_107 : Int32) (S_107 : Nat → Nat → Int32) (L : Nat → Nat → Int64) : Option (Int32 × (Nat → Nat → Int32)) := if p2 = 0 then some (x4_107, S_107) else if x3_107 = (-1 : Int32) then some ((0 : Int32), S_107) else if x3_107 < 0 ∨ 7 ≤ x3_107.toNatClampNeg then none else some ((x4_107 - (S_107 6 x3_107.toNatClampNeg)), S_107)
set_option maxRecDepth 20000 in
def nX7_ring_l71 (p1 : Int32) (p2 : Int32) (x3_71 : Int32) (x4_71 : Int32) (S_71 : Nat → Nat → Int32) (L : Nat → Nat → Int64) : Option ((Int32 × Int32 × (Nat → Nat → Int32)) ⊕ (Int32 × (Nat → Nat → Int32))) := if x3_71 = (-1 : Int32) then k_up (nX7_ring_j107 p2 x3_71 x4_71 S_71 L) else if x3_71 < 0 ∨ 7 ≤ x3_71.toNatClampNeg then none else if (S_71 6 x3_71.toNatClampNeg) = (-1 : Int32) then if x3_71 < 0 ∨ 7 ≤ x3_71.toNatClampNeg then none else k_b1 (nX7_comesNow (k_w S_71 6 x3_71.toNatClampNeg x4_71) L p1 x3_71) (fun r100 => some (.inl (r100, (x4_71 + (1 : Int32)), (k_w S_71 6 x3_71.toNatClampNeg x4_71)))) else k_up (nX7_ring_j107 p2 x3_71 x4_71 S_71 L)
set_option maxRecDepth 20000 in
def nX7_ring_l48 (p1 : Int32) (p2 : Int32) (x3_48 : Int32) (x4_48 : Int32) (x5_48 : Int32) (S_48 : Nat → Nat → Int32) (L : Nat → Nat → Int64) : Option ((Int32 × (Nat → Nat → Int32)) ⊕ (Int32 × (Nat → Nat → Int32))) := k_b1 (nX7_many S_48 L) (fun r51 => if r51 ≤ x5_48 then k_up (k_it (fun st => nX7_ring_l71 p1 p2 st.1 st.2.1 st.2.2 L) 1000 (x3_48, x4_48, S_48)) else if x5_48 < 0 ∨ 7 ≤ x5_48.toNatClampNeg then none else some (.inl ((x5_48 + (1 : Int32)), (k_w S_48 6 x5_48.toNatClampNeg (-1 : Int32)))))
set_option maxRecDepth 20000 in
def nX7_ring_j18 (S_18 : Nat → Nat → Int32) (L : Nat → Nat → Int64) : Option (Int32 × (Nat → Nat → Int32)) := k_b2 (nX7_bad S_18 L (-2 : Int32)) (fun r21 S21 => some (r21, S21))
set_option maxRecDepth 20000 in
def nX7_ring (S : Nat → Nat → Int32) (L : Nat → Nat → Int64) (p1 : Int32) (p2 : Int32) : Option (Int32 × (Nat → Nat → Int32)) := k_b1 (nX7_isThing S L p1) (fun r2 => if r2 = 0 then nX7_ring_j18 S L else k_b1 (nX7_in p2.toInt64 (0 : Int64) (1 : Int64)) (fun r12 => if r12 = 0 then nX7_ring_j18 S L else if ((5 : Int32) + p1) < 0 ∨ 284 ≤ ((5 : Int32) + p1).toNatClampNeg then none else k_b1 (nX7_layCoats_1 S L) (fun S42 => k_it (fun st => nX7_ring_l48 p1 p2 (S 1 ((5 : Int32) + p1).toNatClampNeg) (0 : Int32) st.1 st.2 L) 1000 ((0 : Int32), S42))))
set_option maxHeartbeats 4000000 in
set_option maxRecDepth 100000 in
theorem mX7_ring (l : Launch) (D : va_G) (cs : Nat → ClassId) (a : Nat → Nat) (S : Nat → Nat → Int32) (L : Nat → Nat → Int64) (p1 : Int32) (p2 : Int32) (r9 : Int32) (S9 : (Nat → Nat → Int32)) (hd : nX7_ring S L p1 p2 = some (r9, S9)) : ∀ sz : Nat, Met l yX7_ring wsX7_ring ({ frames := 5, cells := 0, slots := 0, locals := 128 }) (k_Pc D cs [.ref (a 0), .int p1, .int p2] (wX7 cs a S L) sz) (k_Qi D r9 (wX7 cs a S L) (wX7 cs a S9 L) sz) 0 0 (va_A (wX7 cs a S L) sz) := by
  intro sz
  refine Met.ofW (cc := cX7_ring) (maxL := 6) (ret := (some .int)) (by decide) rfl ?_
  intro p e s m args below meth c s₁ B hml hv
  obtain ⟨rfl, hsz, hP, hK, hD0, hNn⟩ := hv
  have hx := B.exec
  have hb := B.bytes
  have hr := B.returns
  have hts := atoms_spec (ws := wsX7_ring) B.pre
  have hown : s.vm.findClass RX7 = some m.cls := findClass_of_methodNamed B.named
  have hlocks := B.notSynchronized
  subst hsz
  obtain ⟨A, hAe⟩ : ∃ A : Nat → Prop, A = va_A (wX7 cs a S L) s.heap.size := ⟨_, rfl⟩
  have hD : va_D A (wX7 cs a S L) := by rw [hAe]; exact hD0.self
  have hA : ∀ q : Nat, s.heap.size ≤ q → A q := fun q h => by rw [hAe]; exact Or.inr h
  have hS : va_S A s.heap s.heap [] := va_S.rf
  have hDA : ∀ (S : Nat → Nat → Int32) (L : Nat → Nat → Int64), va_D A (wX7 cs a S L) := fun S L => k_DA hD rfl
  have hl := lv_entry ([.ref (a 0), .int p1, .int p2]) (n := 6) (Nat.le_of_ble_eq_true rfl)
  rw [lg_entry_eq]
  generalize (lg_sl ([.ref (a 0), .int p1, .int p2]) ++ List.replicate (6 - (lg_sl ([.ref (a 0), .int p1, .int p2])).length) Slot.unset).toArray = ls at hl ⊢
  have hl : lv_has ls 6 [(0, .ref (a 0)), (1, .int p1), (2, .int p2)] := hl
  obtain ⟨Q, hQ⟩ : ∃ Q, Q = MQ below (k_Qi D r9 (wX7 cs a S L) (wX7 cs a S9 L) s.heap.size) ([.ref (a 0), .int p1, .int p2] : List Value).toArray s 0 0 (va_A (wX7 cs a S L) s.heap.size) := ⟨_, rfl⟩
  rw [← hQ]
  have Jo107 : ∀ (x3_107 : Int32) (x4_107 : Int32) (S_107 : Nat → Nat → Int32) (H : Heap) (locs : List Loc) (ls : Array Slot), nX7_ring_j107 p2 x3_107 x4_107 S_107 L = some (r9, S9) → lv_has ls 6 [(0, .ref (a 0)), (2, .int p2), (3, .int x3_107), (4, .int x4_107)] → va_P D vwCl (wX7 cs a S_107 L) H → va_S A s.heap H locs → W p l e (headSpec wsX7_ring ({ frames := 5, cells := 0, slots := 0, locals := 128 })).room s m ([.ref (a 0), .int p1, .int p2] : List Value).toArray below meth c H locs 0 0 Q (F0 m 107 ls []) := by
    intro x3_107 x4_107 S_107 H locs ls hd hl hP hS
    have hD := hDA S_107 L
    unfold nX7_ring_j107 at hd
    refine lv_iload_n hx hb dX7_ring_107 rfl (lv_at hl 1 rfl) ?_
    refine lv_if_ne (tgt := 116) hx hb dX7_ring_108 (by decide) (fun c108 => ?_) (fun c108 => ?_)
    · have hd := dn_f c108 hd
      refine lv_iload_n hx hb dX7_ring_116 rfl (lv_at hl 2 rfl) ?_
      refine lv_iconst (v := (-1 : Int32)) hx hb dX7_ring_117 (by decide) ?_
      refine lv_icmp_ne (tgt := 125) hx hb dX7_ring_118 (by decide) (fun c118 => ?_) (fun c118 => ?_)
      · have hd := dn_f c118 hd
        refine lv_iload hx hb dX7_ring_125 (lv_at hl 3 rfl) ?_
        refine lv_aload_n hx hb dX7_ring_127 rfl (lv_at hl 0 rfl) ?_
        refine va_get (D := D) (ci := 5) (v := .ref (a 6)) (C := RX7) (T := TX7) (N := 25) hx hb hts (fun w h => List.mem_cons_of_mem _ (List.mem_append_right _ h)) hown hK hP 0 rfl rfl 7 (by decide) (hts (.fieldLink RX7 30 "LeastNeedModel" "first" "[I") (List.mem_of_getElem? (i := 2) rfl)) (fun _ h9 => h9) rfl dX7_ring_128 ?_
        refine lv_iload_n hx hb dX7_ring_131 rfl (lv_at hl 2 rfl) ?_
        obtain ⟨hi132, hd⟩ := dn_i hd
        refine k_iald (D := D) (k := x3_107.toNatClampNeg) (by rfl) hx hb hK hP 6 1 rfl rfl hi132 dX7_ring_132 ?_
        refine lv_isub hx hb dX7_ring_133 ?_
        obtain ⟨e1, e2⟩ := dn_s2 hd
        exact k_iret hx hb hr hQ hAe e1 (by rw [e2]) hP hS hlocks dX7_ring_134
      · have hd := dn_t c118 hd
        refine lv_iconst (v := (0 : Int32)) hx hb dX7_ring_121 (by decide) ?_
        refine lv_goto (tgt := 134) hx hb dX7_ring_122 (by decide) ?_
        obtain ⟨e1, e2⟩ := dn_s2 hd
        exact k_iret hx hb hr hQ hAe e1 (by rw [e2]) hP hS hlocks dX7_ring_134
    · have hd := dn_t c108 hd
      refine lv_iload hx hb dX7_ring_111 (lv_at hl 3 rfl) ?_
      refine lv_goto (tgt := 134) hx hb dX7_ring_113 (by decide) ?_
      obtain ⟨e1, e2⟩ := dn_s2 hd
      exact k_iret hx hb hr hQ hAe e1 (by rw [e2]) hP hS hlocks dX7_ring_134
  have Lo71 : ∀ (n1 : Nat) (x3_71 : Int32) (x4_71 : Int32) (S_71 : Nat → Nat → Int32) (H : Heap) (locs : List Loc) (ls : Array Slot), k_it (fun st => nX7_ring_l71 p1 p2 st.1 st.2.1 st.2.2 L) n1 (x3_71, x4_71, S_71) = some (r9, S9) → lv_has ls 6 [(0, .ref (a 0)), (1, .int p1), (2, .int p2), (3, .int x3_71), (4, .int x4_71)] → va_P D vwCl (wX7 cs a S_71 L) H → va_S A s.heap H locs → W p l e (headSpec wsX7_ring ({ frames := 5, cells := 0, slots := 0, locals := 128 })).room s m ([.ref (a 0), .int p1, .int p2] : List Value).toArray below meth c H locs 0 0 Q (F0 m 71 ls []) := by
    intro n1
    induction n1 with
    | zero => intro x3_71 x4_71 S_71 H locs ls hd; exact dn_it0 hd
    | succ n1 ih1 =>
      intro x3_71 x4_71 S_71 H locs ls hd hl hP hS
      have hD := hDA S_71 L
      obtain ⟨y1, hd, hy1⟩ := dn_it hd
      have hd : nX7_ring_l71 p1 p2 x3_71 x4_71 S_71 L = some y1 := hd
      unfold nX7_ring_l71 at hd
      refine lv_iload_n hx hb dX7_ring_71 rfl (lv_at hl 3 rfl) ?_
      refine lv_iconst (v := (-1 : Int32)) hx hb dX7_ring_72 (by decide) ?_
      refine lv_icmp_eq (tgt := 107) hx hb dX7_ring_73 (by decide) (fun c73 => ?_) (fun c73 => ?_)
      · have hd := dn_t c73 hd
        have hd := dn_up hd hy1
        exact Jo107 x3_71 x4_71 S_71 _ _ _ hd (lv_sub hl [0, 2, 3, 4] rfl) hP hS
      · have hd := dn_f c73 hd
        refine lv_aload_n hx hb dX7_ring_76 rfl (lv_at hl 0 rfl) ?_
        refine va_get (D := D) (ci := 5) (v := .ref (a 6)) (C := RX7) (T := TX7) (N := 25) hx hb hts (fun w h => List.mem_cons_of_mem _ (List.mem_append_right _ h)) hown hK hP 0 rfl rfl 7 (by decide) (hts (.fieldLink RX7 30 "LeastNeedModel" "first" "[I") (List.mem_of_getElem? (i := 2) rfl)) (fun _ h9 => h9) rfl dX7_ring_77 ?_
        refine lv_iload_n hx hb dX7_ring_80 rfl (lv_at hl 3 rfl) ?_
        obtain ⟨hi81, hd⟩ := dn_i hd
        refine k_iald (D := D) (k := x3_71.toNatClampNeg) (by rfl) hx hb hK hP 6 1 rfl rfl hi81 dX7_ring_81 ?_
        refine lv_iconst (v := (-1 : Int32)) hx hb dX7_ring_82 (by decide) ?_
        refine lv_icmp_ne (tgt := 107) hx hb dX7_ring_83 (by decide) (fun c83 => ?_) (fun c83 => ?_)
        · have hd := dn_f c83 hd
          have hd := dn_up hd hy1
          exact Jo107 x3_71 x4_71 S_71 _ _ _ hd (lv_sub hl [0, 2, 3, 4] rfl) hP hS
        · have hd := dn_t c83 hd
          refine lv_aload_n hx hb dX7_ring_86 rfl (lv_at hl 0 rfl) ?_
          refine va_get (D := D) (ci := 5) (v := .ref (a 6)) (C := RX7) (T := TX7) (N := 25) hx hb hts (fun w h => List.mem_cons_of_mem _ (List.mem_append_right _ h)) hown hK hP 0 rfl rfl 7 (by decide) (hts (.fieldLink RX7 30 "LeastNeedModel" "first" "[I") (List.mem_of_getElem? (i := 2) rfl)) (fun _ h9 => h9) rfl dX7_ring_87 ?_
          refine lv_iload_n hx hb dX7_ring_90 rfl (lv_at hl 3 rfl) ?_
          refine lv_iload hx hb dX7_ring_91 (lv_at hl 4 rfl) ?_
          obtain ⟨hi93, hd⟩ := dn_i hd
          refine k_iast (D := D) (k := x3_71.toNatClampNeg) (by rfl) hx hb hK hP hD hS 6 1 rfl rfl hi93 dX7_ring_93 (fun H locs hP hD hS => ?_)
          have hP : va_P D vwCl (wX7 cs a (k_w S_71 6 x3_71.toNatClampNeg x4_71) L) _ := k_eq hP (wsX7_a6 cs a S_71 L x3_71.toNatClampNeg x4_71)
          have hD := hDA (k_w S_71 6 x3_71.toNatClampNeg x4_71) L
          refine lv_iinc (v := x4_71 + (1 : Int32)) (lv' := [(4, .int (x4_71 + (1 : Int32))), (0, .ref (a 0)), (1, .int p1), (2, .int p2), (3, .int x3_71)]) hx hb dX7_ring_94 hl (k := 4) rfl rfl (by decide) rfl (fun ls hl => ?_)
          refine lv_aload_n hx hb dX7_ring_97 rfl (lv_at hl 1 rfl) ?_
          refine lv_iload_n hx hb dX7_ring_98 rfl (lv_at hl 2 rfl) ?_
          refine lv_iload_n hx hb dX7_ring_99 rfl (lv_at hl 4 rfl) ?_
          obtain ⟨r100, hq100, hd⟩ := dn_b1 hd
          have hF := k_self hD hS hA
          refine k_run_i (va_runV (As := [.int p1, .int x3_71]) (rest := []) ⟨hx, hb, hml, hown, hts⟩ (mX7_comesNow l D cs a (k_w S_71 6 x3_71.toNatClampNeg x4_71) L p1 x3_71 r100 hq100 _) (cwV 2 hts gX7_ring_X7_comesNow rfl rfl rfl (by decide +kernel) ⟨Nat.le_of_ble_eq_true rfl, Nat.le_of_ble_eq_true rfl⟩) ⟨k_blind, va_recv hK hP (ci := 5) (q0 := 0) rfl rfl, k_pre hP hK hNn hD⟩ rfl rfl hl.1 rfl (lv_room (Nat.le_of_ble_eq_true rfl)) dX7_ring_100 ⟨Nat.le_of_ble_eq_true rfl, Nat.le_of_ble_eq_true rfl⟩) hS hF (fun H locs hP1 hk hS => ?_)
          have hP : va_P D vwCl (wX7 cs a (k_w S_71 6 x3_71.toNatClampNeg x4_71) L) _ := hP1
          have hD := hDA (k_w S_71 6 x3_71.toNatClampNeg x4_71) L
          refine lv_istore_n (lv' := [(3, .int r100), (4, .int (x4_71 + (1 : Int32))), (0, .ref (a 0)), (1, .int p1), (2, .int p2)]) hx hb dX7_ring_103 rfl hl (by decide) rfl (fun ls hl => ?_)
          refine lv_goto (tgt := 71) hx hb dX7_ring_104 (by decide) ?_
          exact ih1 r100 (x4_71 + (1 : Int32)) (k_w S_71 6 x3_71.toNatClampNeg x4_71) _ _ _ (dn_bk hd hy1) (lv_sub hl [2, 3, 4, 0, 1] rfl) hP hS
  have Lo48 : ∀ (n1 : Nat) (x3_48 : Int32) (x4_48 : Int32) (x5_48 : Int32) (S_48 : Nat → Nat → Int32) (H : Heap) (locs : List Loc) (ls : Array Slot), k_it (fun st => nX7_ring_l48 p1 p2 x3_48 x4_48 st.1 st.2 L) n1 (x5_48, S_48) = some (r9, S9) → lv_has ls 6 [(0, .ref (a 0)), (1, .int p1), (2, .int p2), (3, .int x3_48), (4, .int x4_48), (5, .int x5_48)] → va_P D vwCl (wX7 cs a S_48 L) H → va_S A s.heap H locs → W p l e (headSpec wsX7_ring ({ frames := 5, cells := 0, slots := 0, locals := 128 })).room s m ([.ref (a 0), .int p1, .int p2] : List Value).toArray below meth c H locs 0 0 Q (F0 m 48 ls []) := by
    intro n1
    induction n1 with
    | zero => intro x3_48 x4_48 x5_48 S_48 H locs ls hd; exact dn_it0 hd
    | succ n1 ih1 =>
      intro x3_48 x4_48 x5_48 S_48 H locs ls hd hl hP hS
      have hD := hDA S_48 L
      obtain ⟨y1, hd, hy1⟩ := dn_it hd
      have hd : nX7_ring_l48 p1 p2 x3_48 x4_48 x5_48 S_48 L = some y1 := hd
      unfold nX7_ring_l48 at hd
      refine lv_iload hx hb dX7_ring_48 (lv_at hl 5 rfl) ?_
      refine lv_aload_n hx hb dX7_ring_50 rfl (lv_at hl 0 rfl) ?_
      obtain ⟨r51, hq51, hd⟩ := dn_b1 hd
      have hF := k_self hD hS hA
      refine k_run_i (va_runV (As := []) (rest := [.int x5_48]) ⟨hx, hb, hml, hown, hts⟩ (mX7_many l D cs a S_48 L r51 hq51 _) (cwV 0 hts gX7_ring_X7_many rfl rfl rfl (by decide +kernel) ⟨Nat.le_of_ble_eq_true rfl, Nat.le_of_ble_eq_true rfl⟩) ⟨k_blind, va_recv hK hP (ci := 5) (q0 := 0) rfl rfl, k_pre hP hK hNn hD⟩ rfl rfl hl.1 rfl (lv_room (Nat.le_of_ble_eq_true rfl)) dX7_ring_51 ⟨Nat.le_of_ble_eq_true rfl, Nat.le_of_ble_eq_true rfl⟩) hS hF (fun H locs hP1 hk hS => ?_)
      have hP : va_P D vwCl (wX7 cs a S_48 L) _ := hP1
      have hD := hDA S_48 L
      refine lv_icmp_ge (tgt := 71) hx hb dX7_ring_54 (by decide) (fun c54 => ?_) (fun c54 => ?_)
      · have hd := dn_t c54 hd
        have hd := dn_up hd hy1
        exact Lo71 1000 x3_48 x4_48 S_48 _ _ _ hd (lv_sub hl [0, 1, 2, 3, 4] rfl) hP hS
      · have hd := dn_f c54 hd
        refine lv_aload_n hx hb dX7_ring_57 rfl (lv_at hl 0 rfl) ?_
        refine va_get (D := D) (ci := 5) (v := .ref (a 6)) (C := RX7) (T := TX7) (N := 25) hx hb hts (fun w h => List.mem_cons_of_mem _ (List.mem_append_right _ h)) hown hK hP 0 rfl rfl 7 (by decide) (hts (.fieldLink RX7 30 "LeastNeedModel" "first" "[I") (List.mem_of_getElem? (i := 2) rfl)) (fun _ h9 => h9) rfl dX7_ring_58 ?_
        refine lv_iload hx hb dX7_ring_61 (lv_at hl 5 rfl) ?_
        refine lv_iconst (v := (-1 : Int32)) hx hb dX7_ring_63 (by decide) ?_
        obtain ⟨hi64, hd⟩ := dn_i hd
        refine k_iast (D := D) (k := x5_48.toNatClampNeg) (by rfl) hx hb hK hP hD hS 6 1 rfl rfl hi64 dX7_ring_64 (fun H locs hP hD hS => ?_)
        have hP : va_P D vwCl (wX7 cs a (k_w S_48 6 x5_48.toNatClampNeg (-1 : Int32)) L) _ := k_eq hP (wsX7_a6 cs a S_48 L x5_48.toNatClampNeg (-1 : Int32))
        have hD := hDA (k_w S_48 6 x5_48.toNatClampNeg (-1 : Int32)) L
        refine lv_iinc (v := x5_48 + (1 : Int32)) (lv' := [(5, .int (x5_48 + (1 : Int32))), (0, .ref (a 0)), (1, .int p1), (2, .int p2), (3, .int x3_48), (4, .int x4_48)]) hx hb dX7_ring_65 hl (k := 5) rfl rfl (by decide) rfl (fun ls hl => ?_)
        refine lv_goto (tgt := 48) hx hb dX7_ring_68 (by decide) ?_
        exact ih1 x3_48 x4_48 (x5_48 + (1 : Int32)) (k_w S_48 6 x5_48.toNatClampNeg (-1 : Int32)) _ _ _ (dn_bk hd hy1) (lv_sub hl [1, 2, 3, 4, 5, 0] rfl) hP hS
  have Jo18 : ∀ (S_18 : Nat → Nat → Int32) (H : Heap) (locs : List Loc) (ls : Array Slot), nX7_ring_j18 S_18 L = some (r9, S9) → lv_has ls 6 [(0, .ref (a 0))] → va_P D vwCl (wX7 cs a S_18 L) H → va_S A s.heap H locs → W p l e (headSpec wsX7_ring ({ frames := 5, cells := 0, slots := 0, locals := 128 })).room s m ([.ref (a 0), .int p1, .int p2] : List Value).toArray below meth c H locs 0 0 Q (F0 m 18 ls []) := by
    intro S_18 H locs ls hd hl hP hS
    have hD := hDA S_18 L
    unfold nX7_ring_j18 at hd
    refine lv_aload_n hx hb dX7_ring_18 rfl (lv_at hl 0 rfl) ?_
    refine lv_bipush (v := (-2 : Int32)) hx hb dX7_ring_19 (by decide) ?_
    obtain ⟨r21, S21, hq21, hd⟩ := dn_b2 hd
    have hF := k_self hD hS hA
    refine k_run_i (va_runV (As := [.int (-2 : Int32)]) (rest := []) ⟨hx, hb, hml, hown, hts⟩ (mX7_bad l D cs a S_18 L (-2 : Int32) r21 S21 hq21 _) (cwV 1 hts gX7_ring_X7_bad rfl rfl rfl (by decide +kernel) ⟨Nat.le_of_ble_eq_true rfl, Nat.le_of_ble_eq_true rfl⟩) ⟨k_blind, va_recv hK hP (ci := 5) (q0 := 0) rfl rfl, k_pre hP hK hNn hD⟩ rfl rfl hl.1 rfl (lv_room (Nat.le_of_ble_eq_true rfl)) dX7_ring_21 ⟨Nat.le_of_ble_eq_true rfl, Nat.le_of_ble_eq_true rfl⟩) hS hF (fun H locs hP1 hk hS => ?_)
    have hP : va_P D vwCl (wX7 cs a S21 L) _ := hP1
    have hD := hDA S21 L
    obtain ⟨e1, e2⟩ := dn_s2 hd
    exact k_iret hx hb hr hQ hAe e1 (by rw [e2]) hP hS hlocks dX7_ring_24
  unfold nX7_ring at hd
  refine lv_aload_n hx hb dX7_ring_0 rfl (lv_at hl 0 rfl) ?_
  refine lv_iload_n hx hb dX7_ring_1 rfl (lv_at hl 1 rfl) ?_
  obtain ⟨r2, hq2, hd⟩ := dn_b1 hd
  have hF := k_self hD hS hA
  refine k_run_i (va_runV (As := [.int p1]) (rest := []) ⟨hx, hb, hml, hown, hts⟩ (mX7_isThing l D cs a S L p1 r2 hq2 _) (cwV 1 hts gX7_ring_X7_isThing rfl rfl rfl (by decide +kernel) ⟨Nat.le_of_ble_eq_true rfl, Nat.le_of_ble_eq_true rfl⟩) ⟨k_blind, va_recv hK hP (ci := 5) (q0 := 0) rfl rfl, k_pre hP hK hNn hD⟩ rfl rfl hl.1 rfl (lv_room (Nat.le_of_ble_eq_true rfl)) dX7_ring_2 ⟨Nat.le_of_ble_eq_true rfl, Nat.le_of_ble_eq_true rfl⟩) hS hF (fun H locs hP1 hk hS => ?_)
  have hP : va_P D vwCl (wX7 cs a S L) _ := hP1
  have hD := hDA S L
  refine lv_if_eq (tgt := 18) hx hb dX7_ring_5 (by decide) (fun c5 => ?_) (fun c5 => ?_)
  · have hd := dn_t c5 hd
    exact Jo18 S _ _ _ hd (lv_sub hl [0] rfl) hP hS
  · have hd := dn_f c5 hd
    refine lv_iload_n hx hb dX7_ring_8 rfl (lv_at hl 2 rfl) ?_
    refine lv_i2l hx hb dX7_ring_9 rfl ?_
    refine lv_lconst (v := (0 : Int64)) hx hb dX7_ring_10 (by decide) ?_
    refine lv_lconst (v := (1 : Int64)) hx hb dX7_ring_11 (by decide) ?_
    obtain ⟨r12, hq12, hd⟩ := dn_b1 hd
    have hPc := k_P0 hP
    have hDc : va_D A ([] : va_W) := k_D0
    have hF := k_self hDc hS hA
    refine k_run_i (va_runS (As := [.long p2.toInt64, .long (0 : Int64), .long (1 : Int64)]) (rest := []) ⟨hx, hb, hml, hown, hts⟩ (mX7_in l D cs  p2.toInt64 (0 : Int64) (1 : Int64) r12 hq12 _) (va_cwS 3 hts gX7_ring_X7_in rfl rfl rfl (by decide +kernel) ⟨Nat.le_of_ble_eq_true rfl, Nat.le_of_ble_eq_true rfl⟩) ⟨k_blind, k_pre hPc hK hNn hDc⟩ rfl rfl hl.1 rfl (lv_room (Nat.le_of_ble_eq_true rfl)) dX7_ring_12 ⟨Nat.le_of_ble_eq_true rfl, Nat.le_of_ble_eq_true rfl⟩) hS hF (fun H locs hP1 hk hS => ?_)
    have hP : va_P D vwCl (wX7 cs a S L) _ := k_keep hP hk
    refine lv_if_ne (tgt := 25) hx hb dX7_ring_15 (by decide) (fun c15 => ?_) (fun c15 => ?_)
    · have hd := dn_f c15 hd
      refine lv_aload_n hx hb dX7_ring_25 rfl (lv_at hl 0 rfl) ?_
      refine va_get (D := D) (ci := 5) (v := .ref (a 1)) (C := RX7) (T := TX7) (N := 25) hx hb hts (fun w h => List.mem_cons_of_mem _ (List.mem_append_right _ h)) hown hK hP 0 rfl rfl 0 (by decide) (hts (.fieldLink RX7 7 "LeastNeedModel" "told" "[I") (List.mem_of_getElem? (i := 1) rfl)) (fun _ h9 => h9) rfl dX7_ring_26 ?_
      refine lv_iconst (v := (5 : Int32)) hx hb dX7_ring_29 (by decide) ?_
      refine lv_iload_n hx hb dX7_ring_30 rfl (lv_at hl 1 rfl) ?_
      refine lv_iadd hx hb dX7_ring_31 ?_
      obtain ⟨hi32, hd⟩ := dn_i hd
      refine k_iald (D := D) (k := ((5 : Int32) + p1).toNatClampNeg) (by rfl) hx hb hK hP 1 1 rfl rfl hi32 dX7_ring_32 ?_
      refine lv_istore_n (lv' := [(3, .int (S 1 ((5 : Int32) + p1).toNatClampNeg)), (0, .ref (a 0)), (1, .int p1), (2, .int p2)]) hx hb dX7_ring_33 rfl hl (by decide) rfl (fun ls hl => ?_)
      refine lv_iconst (v := (0 : Int32)) hx hb dX7_ring_34 (by decide) ?_
      refine lv_istore (lv' := [(4, .int (0 : Int32)), (3, .int (S 1 ((5 : Int32) + p1).toNatClampNeg)), (0, .ref (a 0)), (1, .int p1), (2, .int p2)]) hx hb dX7_ring_35 hl (by decide) rfl (fun ls hl => ?_)
      refine lv_aload_n hx hb dX7_ring_37 rfl (lv_at hl 2 rfl) ?_
      refine lv_aload_n hx hb dX7_ring_38 rfl (lv_at hl 2 rfl) ?_
      refine va_get (D := D) (ci := 5) (v := .ref (a 1)) (C := RX7) (T := TX7) (N := 25) hx hb hts (fun w h => List.mem_cons_of_mem _ (List.mem_append_right _ h)) hown hK hP 0 rfl rfl 0 (by decide) (hts (.fieldLink RX7 7 "LeastNeedModel" "told" "[I") (List.mem_of_getElem? (i := 1) rfl)) (fun _ h9 => h9) rfl dX7_ring_39 ?_
      obtain ⟨S42, hq42, hd⟩ := dn_b1 hd
      have hF := k_self hD hS hA
      refine k_run_v (va_runV (As := [.ref (a 1)]) (rest := []) ⟨hx, hb, hml, hown, hts⟩ (mX7_layCoats_1 l D cs a S L S42 hq42 _) (cwV 1 hts gX7_ring_X7_layCoats rfl rfl rfl (by decide +kernel) ⟨Nat.le_of_ble_eq_true rfl, Nat.le_of_ble_eq_true rfl⟩) ⟨k_blind, va_recv hK hP (ci := 5) (q0 := 0) rfl rfl, k_pre hP hK hNn hD⟩ rfl rfl hl.1 rfl (lv_room (Nat.le_of_ble_eq_true rfl)) dX7_ring_42 ⟨Nat.le_of_ble_eq_true rfl, Nat.le_of_ble_eq_true rfl⟩) hS hF (fun H locs hP1 hk hS => ?_)
      have hP : va_P D vwCl (wX7 cs a S42 L) _ := hP1
      have hD := hDA S42 L
      refine lv_iconst (v := (0 : Int32)) hx hb dX7_ring_45 (by decide) ?_
      refine lv_istore (lv' := [(5, .int (0 : Int32)), (4, .int (0 : Int32)), (3, .int (S 1 ((5 : Int32) + p1).toNatClampNeg)), (0, .ref (a 0)), (1, .int p1), (2, .int p2)]) hx hb dX7_ring_46 hl (by decide) rfl (fun ls hl => ?_)
      exact Lo48 1000 (S 1 ((5 : Int32) + p1).toNatClampNeg) (0 : Int32) (0 : Int32) S42 _ _ _ hd (lv_sub hl [3, 4, 5, 2, 1, 0] rfl) hP hS
    · have hd := dn_t c15 hd
      exact Jo18 S _ _ _ hd (lv_sub hl [0] rfl) hP hS
-- LeastNeedModel.layStart(I)V
set_option maxRecDepth 20000 in
def nX7_layStart_l2 (p1 : Int32) (x2_2 : Int32) (S_2 : Nat → Nat → Int32) (L : Nat → Nat → Int64) : Option ((Int32 × (Nat → Nat → Int32)) ⊕ ((Nat → Nat → Int32))) := if (14 : Int32) ≤ x2_2 then k_up (if ((10 : Int32) + p1) < 0 ∨ 284 ≤ ((10 : Int32) + p1).toNatClampNeg then none else if (S_2 1 ((10 : Int32) + p1).toNatClampNeg) = 0 then if ((5 : Int32) + p1) < 0 ∨ 284 ≤ ((5 : Int32) + p1).toNatClampNeg then none else if (S_2 1 ((5 : Int32) + p1).toNatClampNeg) < 0 ∨ 14 ≤ (S_2 1 ((5 : Int32) + p1).toNatClampNeg).toNatClampNeg then none else some (k_w S_2 7 ((S_2 1 ((5 : Int32) + p1).toNatClampNeg).toNatClampNeg) (0 : Int32)) else if ((5 : Int32) + p1) < 0 ∨ 284 ≤ ((5 : Int32) + p1).toNatClampNeg then none else if ((7 : Int32) + (S_2 1 ((5 : Int32) + p1).toNatClampNeg)) < 0 ∨ 14 ≤ ((7 : Int32) + (S_2 1 ((5 : Int32) + p1).toNatClampNeg)).toNatClampNeg then none else some (k_w S_2 7 (((7 : Int32) + (S_2 1 ((5 : Int32) + p1).toNatClampNeg)).toNatClampNeg) (0 : Int32))) else if x2_2 < 0 ∨ 14 ≤ x2_2.toNatClampNeg then none else some (.inl ((x2_2 + (1 : Int32)), (k_w S_2 7 x2_2.toNatClampNeg (1000000 : Int32))))
set_option maxRecDepth 20000 in
def nX7_layStart (S : Nat → Nat → Int32) (L : Nat → Nat → Int64) (p1 : Int32) : Option ((Nat → Nat → Int32)) := k_it (fun st => nX7_layStart_l2 p1 st.1 st.2 L) 1000 ((0 : Int32), S)
set_option maxHeartbeats 4000000 in
set_option maxRecDepth 100000 in
theorem mX7_layStart (l : Launch) (D : va_G) (cs : Nat → ClassId) (a : Nat → Nat) (S : Nat → Nat → Int32) (L : Nat → Nat → Int64) (p1 : Int32) (S9 : (Nat → Nat → Int32)) (hd : nX7_layStart S L p1 = some S9) : ∀ sz : Nat, Met l yX7_layStart wsX7_layStart ({ frames := 0, cells := 0, slots := 0, locals := 0 }) (k_Pc D cs [.ref (a 0), .int p1] (wX7 cs a S L) sz) (k_Qv D (wX7 cs a S L) (wX7 cs a S9 L) sz) 0 0 (va_A (wX7 cs a S L) sz) := by
  intro sz
  refine Met.ofW (cc := cX7_layStart) (maxL := 3) (ret := none) (by decide) rfl ?_
  intro p e s m args below meth c s₁ B hml hv
  obtain ⟨rfl, hsz, hP, hK, hD0, hNn⟩ := hv
  have hx := B.exec
  have hb := B.bytes
  have hr := B.returns
  have hts := atoms_spec (ws := wsX7_layStart) B.pre
  have hown : s.vm.findClass RX7 = some m.cls := findClass_of_methodNamed B.named
  have hlocks := B.notSynchronized
  subst hsz
  obtain ⟨A, hAe⟩ : ∃ A : Nat → Prop, A = va_A (wX7 cs a S L) s.heap.size := ⟨_, rfl⟩
  have hD : va_D A (wX7 cs a S L) := by rw [hAe]; exact hD0.self
  have hA : ∀ q : Nat, s.heap.size ≤ q → A q := fun q h => by rw [hAe]; exact Or.inr h
  have hS : va_S A s.heap s.heap [] := va_S.rf
  have hDA : ∀ (S : Nat → Nat → Int32) (L : Nat → Nat → Int64), va_D A (wX7 cs a S L) := fun S L => k_DA hD rfl
  have hl := lv_entry ([.ref (a 0), .int p1]) (n := 3) (Nat.le_of_ble_eq_true rfl)
  rw [lg_entry_eq]
  generalize (lg_sl ([.ref (a 0), .int p1]) ++ List.replicate (3 - (lg_sl ([.ref (a 0), .int p1])).length) Slot.unset).toArray = ls at hl ⊢
  have hl : lv_has ls 3 [(0, .ref (a 0)), (1, .int p1)] := hl
  obtain ⟨Q, hQ⟩ : ∃ Q, Q = MQ below (k_Qv D (wX7 cs a S L) (wX7 cs a S9 L) s.heap.size) ([.ref (a 0), .int p1] : List Value).toArray s 0 0 (va_A (wX7 cs a S L) s.heap.size) := ⟨_, rfl⟩
  rw [← hQ]
  have Lo2 : ∀ (n1 : Nat) (x2_2 : Int32) (S_2 : Nat → Nat → Int32) (H : Heap) (locs : List Loc) (ls : Array Slot), k_it (fun st => nX7_layStart_l2 p1 st.1 st.2 L) n1 (x2_2, S_2) = some S9 → lv_has ls 3 [(0, .ref (a 0)), (1, .int p1), (2, .int x2_2)] → va_P D vwCl (wX7 cs a S_2 L) H → va_S A s.heap H locs → W p l e (headSpec wsX7_layStart ({ frames := 0, cells := 0, slots := 0, locals := 0 })).room s m ([.ref (a 0), .int p1] : List Value).toArray below meth c H locs 0 0 Q (F0 m 2 ls []) := by
    intro n1
    induction n1 with
    | zero => intro x2_2 S_2 H locs ls hd; exact dn_it0 hd
    | succ n1 ih1 =>
      intro x2_2 S_2 H locs ls hd hl hP hS
      have hD := hDA S_2 L
      obtain ⟨y1, hd, hy1⟩ := dn_it hd
      have hd : nX7_layStart_l2 p1 x2_2 S_2 L = some y1 := hd
      unfold nX7_layStart_l2 at hd
      refine lv_iload_n hx hb dX7_layStart_2 rfl (lv_at hl 2 rfl) ?_
      refine lv_bipush (v := (14 : Int32)) hx hb dX7_layStart_3 (by decide) ?_
      refine lv_icmp_ge (tgt := 22) hx hb dX7_layStart_5 (by decide) (fun c5 => ?_) (fun c5 => ?_)
      · have hd := dn_t c5 hd
        have hd := dn_up hd hy1
        refine lv_aload_n hx hb dX7_layStart_22 rfl (lv_at hl 0 rfl) ?_
        refine va_get (D := D) (ci := 5) (v := .ref (a 7)) (C := RX7) (T := TX7) (N := 25) hx hb hts (fun w h => List.mem_cons_of_mem _ (List.mem_append_right _ h)) hown hK hP 0 rfl rfl 8 (by decide) (hts (.fieldLink RX7 33 "LeastNeedModel" "losses" "[I") (List.mem_of_getElem? (i := 1) rfl)) (fun _ h9 => h9) rfl dX7_layStart_23 ?_
        refine lv_aload_n hx hb dX7_layStart_26 rfl (lv_at hl 0 rfl) ?_
        refine va_get (D := D) (ci := 5) (v := .ref (a 1)) (C := RX7) (T := TX7) (N := 25) hx hb hts (fun w h => List.mem_cons_of_mem _ (List.mem_append_right _ h)) hown hK hP 0 rfl rfl 0 (by decide) (hts (.fieldLink RX7 7 "LeastNeedModel" "told" "[I") (List.mem_of_getElem? (i := 3) rfl)) (fun _ h9 => h9) rfl dX7_layStart_27 ?_
        refine lv_bipush (v := (10 : Int32)) hx hb dX7_layStart_30 (by decide) ?_
        refine lv_iload_n hx hb dX7_layStart_32 rfl (lv_at hl 1 rfl) ?_
        refine lv_iadd hx hb dX7_layStart_33 ?_
        obtain ⟨hi34, hd⟩ := dn_i hd
        refine k_iald (D := D) (k := ((10 : Int32) + p1).toNatClampNeg) (by rfl) hx hb hK hP 1 1 rfl rfl hi34 dX7_layStart_34 ?_
        refine lv_if_ne (tgt := 49) hx hb dX7_layStart_35 (by decide) (fun c35 => ?_) (fun c35 => ?_)
        · have hd := dn_f c35 hd
          refine lv_bipush (v := (7 : Int32)) hx hb dX7_layStart_49 (by decide) ?_
          refine lv_aload_n hx hb dX7_layStart_51 rfl (lv_at hl 0 rfl) ?_
          refine va_get (D := D) (ci := 5) (v := .ref (a 1)) (C := RX7) (T := TX7) (N := 25) hx hb hts (fun w h => List.mem_cons_of_mem _ (List.mem_append_right _ h)) hown hK hP 0 rfl rfl 0 (by decide) (hts (.fieldLink RX7 7 "LeastNeedModel" "told" "[I") (List.mem_of_getElem? (i := 3) rfl)) (fun _ h9 => h9) rfl dX7_layStart_52 ?_
          refine lv_iconst (v := (5 : Int32)) hx hb dX7_layStart_55 (by decide) ?_
          refine lv_iload_n hx hb dX7_layStart_56 rfl (lv_at hl 1 rfl) ?_
          refine lv_iadd hx hb dX7_layStart_57 ?_
          obtain ⟨hi58, hd⟩ := dn_i hd
          refine k_iald (D := D) (k := ((5 : Int32) + p1).toNatClampNeg) (by rfl) hx hb hK hP 1 1 rfl rfl hi58 dX7_layStart_58 ?_
          refine lv_iadd hx hb dX7_layStart_59 ?_
          refine lv_iconst (v := (0 : Int32)) hx hb dX7_layStart_60 (by decide) ?_
          obtain ⟨hi61, hd⟩ := dn_i hd
          refine k_iast (D := D) (k := ((7 : Int32) + (S_2 1 ((5 : Int32) + p1).toNatClampNeg)).toNatClampNeg) (by rfl) hx hb hK hP hD hS 7 1 rfl rfl hi61 dX7_layStart_61 (fun H locs hP hD hS => ?_)
          have hP : va_P D vwCl (wX7 cs a (k_w S_2 7 (((7 : Int32) + (S_2 1 ((5 : Int32) + p1).toNatClampNeg)).toNatClampNeg) (0 : Int32)) L) _ := k_eq hP (wsX7_a7 cs a S_2 L (((7 : Int32) + (S_2 1 ((5 : Int32) + p1).toNatClampNeg)).toNatClampNeg) (0 : Int32))
          have hD := hDA (k_w S_2 7 (((7 : Int32) + (S_2 1 ((5 : Int32) + p1).toNatClampNeg)).toNatClampNeg) (0 : Int32)) L
          have e1 := dn_s1 hd
          exact k_vret hx hb hr hQ hAe (by rw [e1]) hP hS hlocks dX7_layStart_62
        · have hd := dn_t c35 hd
          refine lv_aload_n hx hb dX7_layStart_38 rfl (lv_at hl 0 rfl) ?_
          refine va_get (D := D) (ci := 5) (v := .ref (a 1)) (C := RX7) (T := TX7) (N := 25) hx hb hts (fun w h => List.mem_cons_of_mem _ (List.mem_append_right _ h)) hown hK hP 0 rfl rfl 0 (by decide) (hts (.fieldLink RX7 7 "LeastNeedModel" "told" "[I") (List.mem_of_getElem? (i := 3) rfl)) (fun _ h9 => h9) rfl dX7_layStart_39 ?_
          refine lv_iconst (v := (5 : Int32)) hx hb dX7_layStart_42 (by decide) ?_
          refine lv_iload_n hx hb dX7_layStart_43 rfl (lv_at hl 1 rfl) ?_
          refine lv_iadd hx hb dX7_layStart_44 ?_
          obtain ⟨hi45, hd⟩ := dn_i hd
          refine k_iald (D := D) (k := ((5 : Int32) + p1).toNatClampNeg) (by rfl) hx hb hK hP 1 1 rfl rfl hi45 dX7_layStart_45 ?_
          refine lv_goto (tgt := 60) hx hb dX7_layStart_46 (by decide) ?_
          refine lv_iconst (v := (0 : Int32)) hx hb dX7_layStart_60 (by decide) ?_
          obtain ⟨hi61, hd⟩ := dn_i hd
          refine k_iast (D := D) (k := (S_2 1 ((5 : Int32) + p1).toNatClampNeg).toNatClampNeg) (by rfl) hx hb hK hP hD hS 7 1 rfl rfl hi61 dX7_layStart_61 (fun H locs hP hD hS => ?_)
          have hP : va_P D vwCl (wX7 cs a (k_w S_2 7 ((S_2 1 ((5 : Int32) + p1).toNatClampNeg).toNatClampNeg) (0 : Int32)) L) _ := k_eq hP (wsX7_a7 cs a S_2 L ((S_2 1 ((5 : Int32) + p1).toNatClampNeg).toNatClampNeg) (0 : Int32))
          have hD := hDA (k_w S_2 7 ((S_2 1 ((5 : Int32) + p1).toNatClampNeg).toNatClampNeg) (0 : Int32)) L
          have e1 := dn_s1 hd
          exact k_vret hx hb hr hQ hAe (by rw [e1]) hP hS hlocks dX7_layStart_62
      · have hd := dn_f c5 hd
        refine lv_aload_n hx hb dX7_layStart_8 rfl (lv_at hl 0 rfl) ?_
        refine va_get (D := D) (ci := 5) (v := .ref (a 7)) (C := RX7) (T := TX7) (N := 25) hx hb hts (fun w h => List.mem_cons_of_mem _ (List.mem_append_right _ h)) hown hK hP 0 rfl rfl 8 (by decide) (hts (.fieldLink RX7 33 "LeastNeedModel" "losses" "[I") (List.mem_of_getElem? (i := 1) rfl)) (fun _ h9 => h9) rfl dX7_layStart_9 ?_
        refine lv_iload_n hx hb dX7_layStart_12 rfl (lv_at hl 2 rfl) ?_
        refine lv_ldc (v := (1000000 : Int32)) hx hb hown (hts (.constant RX7 134 (1000000)) (List.mem_of_getElem? (i := 2) rfl)) dX7_layStart_13 ?_
        obtain ⟨hi15, hd⟩ := dn_i hd
        refine k_iast (D := D) (k := x2_2.toNatClampNeg) (by rfl) hx hb hK hP hD hS 7 1 rfl rfl hi15 dX7_layStart_15 (fun H locs hP hD hS => ?_)
        have hP : va_P D vwCl (wX7 cs a (k_w S_2 7 x2_2.toNatClampNeg (1000000 : Int32)) L) _ := k_eq hP (wsX7_a7 cs a S_2 L x2_2.toNatClampNeg (1000000 : Int32))
        have hD := hDA (k_w S_2 7 x2_2.toNatClampNeg (1000000 : Int32)) L
        refine lv_iinc (v := x2_2 + (1 : Int32)) (lv' := [(2, .int (x2_2 + (1 : Int32))), (0, .ref (a 0)), (1, .int p1)]) hx hb dX7_layStart_16 hl (k := 2) rfl rfl (by decide) rfl (fun ls hl => ?_)
        refine lv_goto (tgt := 2) hx hb dX7_layStart_19 (by decide) ?_
        exact ih1 (x2_2 + (1 : Int32)) (k_w S_2 7 x2_2.toNatClampNeg (1000000 : Int32)) _ _ _ (dn_bk hd hy1) (lv_sub hl [1, 2, 0] rfl) hP hS
  unfold nX7_layStart at hd
  refine lv_iconst (v := (0 : Int32)) hx hb dX7_layStart_0 (by decide) ?_
  refine lv_istore_n (lv' := [(2, .int (0 : Int32)), (0, .ref (a 0)), (1, .int p1)]) hx hb dX7_layStart_1 rfl hl (by decide) rfl (fun ls hl => ?_)
  exact Lo2 1000 (0 : Int32) S _ _ _ hd (lv_sub hl [1, 2, 0] rfl) hP hS
-- LeastNeedModel.reach(II)V
set_option maxRecDepth 20000 in
def nX7_reach (S : Nat → Nat → Int32) (L : Nat → Nat → Int64) (p1 : Int32) (p2 : Int32) : Option ((Nat → Nat → Int32)) := if p1 < 0 ∨ 14 ≤ p1.toNatClampNeg then none else if (S 8 p1.toNatClampNeg) ≤ p2 then if p1 < 0 ∨ 14 ≤ p1.toNatClampNeg then none else if p1 < 0 ∨ 14 ≤ p1.toNatClampNeg then none else some (k_w S 8 p1.toNatClampNeg (S 8 p1.toNatClampNeg)) else if p1 < 0 ∨ 14 ≤ p1.toNatClampNeg then none else some (k_w S 8 p1.toNatClampNeg p2)
set_option maxHeartbeats 4000000 in
set_option maxRecDepth 100000 in
theorem mX7_reach (l : Launch) (D : va_G) (cs : Nat → ClassId) (a : Nat → Nat) (S : Nat → Nat → Int32) (L : Nat → Nat → Int64) (p1 : Int32) (p2 : Int32) (S9 : (Nat → Nat → Int32)) (hd : nX7_reach S L p1 p2 = some S9) : ∀ sz : Nat, Met l yX7_reach wsX7_reach ({ frames := 0, cells := 0, slots := 0, locals := 0 }) (k_Pc D cs [.ref (a 0), .int p1, .int p2] (wX7 cs a S L) sz) (k_Qv D (wX7 cs a S L) (wX7 cs a S9 L) sz) 0 0 (va_A (wX7 cs a S L) sz) := by
  intro sz
  refine Met.ofW (cc := cX7_reach) (maxL := 3) (ret := none) (by decide) rfl ?_
  intro p e s m args below meth c s₁ B hml hv
  obtain ⟨rfl, hsz, hP, hK, hD0, hNn⟩ := hv
  have hx := B.exec
  have hb := B.bytes
  have hr := B.returns
  have hts := atoms_spec (ws := wsX7_reach) B.pre
  have hown : s.vm.findClass RX7 = some m.cls := findClass_of_methodNamed B.named
  have hlocks := B.notSynchronized
  subst hsz
  obtain ⟨A, hAe⟩ : ∃ A : Nat → Prop, A = va_A (wX7 cs a S L) s.heap.size := ⟨_, rfl⟩
  have hD : va_D A (wX7 cs a S L) := by rw [hAe]; exact hD0.self
  have hA : ∀ q : Nat, s.heap.size ≤ q → A q := fun q h => by rw [hAe]; exact Or.inr h
  have hS : va_S A s.heap s.heap [] := va_S.rf
  have hDA : ∀ (S : Nat → Nat → Int32) (L : Nat → Nat → Int64), va_D A (wX7 cs a S L) := fun S L => k_DA hD rfl
  have hl := lv_entry ([.ref (a 0), .int p1, .int p2]) (n := 3) (Nat.le_of_ble_eq_true rfl)
  rw [lg_entry_eq]
  generalize (lg_sl ([.ref (a 0), .int p1, .int p2]) ++ List.replicate (3 - (lg_sl ([.ref (a 0), .int p1, .int p2])).length) Slot.unset).toArray = ls at hl ⊢
  have hl : lv_has ls 3 [(0, .ref (a 0)), (1, .int p1), (2, .int p2)] := hl
  obtain ⟨Q, hQ⟩ : ∃ Q, Q = MQ below (k_Qv D (wX7 cs a S L) (wX7 cs a S9 L) s.heap.size) ([.ref (a 0), .int p1, .int p2] : List Value).toArray s 0 0 (va_A (wX7 cs a S L) s.heap.size) := ⟨_, rfl⟩
  rw [← hQ]
  unfold nX7_reach at hd
  refine lv_aload_n hx hb dX7_reach_0 rfl (lv_at hl 0 rfl) ?_
  refine va_get (D := D) (ci := 5) (v := .ref (a 8)) (C := RX7) (T := TX7) (N := 25) hx hb hts (fun w h => List.mem_cons_of_mem _ (List.mem_append_right _ h)) hown hK hP 0 rfl rfl 9 (by decide) (hts (.fieldLink RX7 36 "LeastNeedModel" "behind" "[I") (List.mem_of_getElem? (i := 1) rfl)) (fun _ h9 => h9) rfl dX7_reach_1 ?_
  refine lv_iload_n hx hb dX7_reach_4 rfl (lv_at hl 1 rfl) ?_
  refine lv_iload_n hx hb dX7_reach_5 rfl (lv_at hl 2 rfl) ?_
  refine lv_aload_n hx hb dX7_reach_6 rfl (lv_at hl 0 rfl) ?_
  refine va_get (D := D) (ci := 5) (v := .ref (a 8)) (C := RX7) (T := TX7) (N := 25) hx hb hts (fun w h => List.mem_cons_of_mem _ (List.mem_append_right _ h)) hown hK hP 0 rfl rfl 9 (by decide) (hts (.fieldLink RX7 36 "LeastNeedModel" "behind" "[I") (List.mem_of_getElem? (i := 1) rfl)) (fun _ h9 => h9) rfl dX7_reach_7 ?_
  refine lv_iload_n hx hb dX7_reach_10 rfl (lv_at hl 1 rfl) ?_
  obtain ⟨hi11, hd⟩ := dn_i hd
  refine k_iald (D := D) (k := p1.toNatClampNeg) (by rfl) hx hb hK hP 8 1 rfl rfl hi11 dX7_reach_11 ?_
  refine lv_icmp_ge (tgt := 19) hx hb dX7_reach_12 (by decide) (fun c12 => ?_) (fun c12 => ?_)
  · have hd := dn_t c12 hd
    refine lv_aload_n hx hb dX7_reach_19 rfl (lv_at hl 0 rfl) ?_
    refine va_get (D := D) (ci := 5) (v := .ref (a 8)) (C := RX7) (T := TX7) (N := 25) hx hb hts (fun w h => List.mem_cons_of_mem _ (List.mem_append_right _ h)) hown hK hP 0 rfl rfl 9 (by decide) (hts (.fieldLink RX7 36 "LeastNeedModel" "behind" "[I") (List.mem_of_getElem? (i := 1) rfl)) (fun _ h9 => h9) rfl dX7_reach_20 ?_
    refine lv_iload_n hx hb dX7_reach_23 rfl (lv_at hl 1 rfl) ?_
    obtain ⟨hi24, hd⟩ := dn_i hd
    refine k_iald (D := D) (k := p1.toNatClampNeg) (by rfl) hx hb hK hP 8 1 rfl rfl hi24 dX7_reach_24 ?_
    obtain ⟨hi25, hd⟩ := dn_i hd
    refine k_iast (D := D) (k := p1.toNatClampNeg) (by rfl) hx hb hK hP hD hS 8 1 rfl rfl hi25 dX7_reach_25 (fun H locs hP hD hS => ?_)
    have hP : va_P D vwCl (wX7 cs a (k_w S 8 p1.toNatClampNeg (S 8 p1.toNatClampNeg)) L) _ := k_eq hP (wsX7_a8 cs a S L p1.toNatClampNeg (S 8 p1.toNatClampNeg))
    have hD := hDA (k_w S 8 p1.toNatClampNeg (S 8 p1.toNatClampNeg)) L
    have e1 := dn_s1 hd
    exact k_vret hx hb hr hQ hAe (by rw [e1]) hP hS hlocks dX7_reach_26
  · have hd := dn_f c12 hd
    refine lv_iload_n hx hb dX7_reach_15 rfl (lv_at hl 2 rfl) ?_
    refine lv_goto (tgt := 25) hx hb dX7_reach_16 (by decide) ?_
    obtain ⟨hi25, hd⟩ := dn_i hd
    refine k_iast (D := D) (k := p1.toNatClampNeg) (by rfl) hx hb hK hP hD hS 8 1 rfl rfl hi25 dX7_reach_25 (fun H locs hP hD hS => ?_)
    have hP : va_P D vwCl (wX7 cs a (k_w S 8 p1.toNatClampNeg p2) L) _ := k_eq hP (wsX7_a8 cs a S L p1.toNatClampNeg p2)
    have hD := hDA (k_w S 8 p1.toNatClampNeg p2) L
    have e1 := dn_s1 hd
    exact k_vret hx hb hr hQ hAe (by rw [e1]) hP hS hlocks dX7_reach_26
-- LeastNeedModel.goSending(II)V
set_option maxRecDepth 20000 in
def nX7_goSending_l152 (x3_152 : Int32) (S_152 : Nat → Nat → Int32) (L : Nat → Nat → Int64) : Option ((Int32 × (Nat → Nat → Int32)) ⊕ ((Nat → Nat → Int32))) := if (14 : Int32) ≤ x3_152 then k_up (some S_152) else if x3_152 < 0 ∨ 14 ≤ x3_152.toNatClampNeg then none else if x3_152 < 0 ∨ 14 ≤ x3_152.toNatClampNeg then none else some (.inl ((x3_152 + (1 : Int32)), (k_w S_152 7 x3_152.toNatClampNeg (S_152 8 x3_152.toNatClampNeg))))
set_option maxRecDepth 20000 in
def nX7_goSending_i24_j115 (p1 : Int32) (p2 : Int32) (x3_115 : Int32) (x5_115 : Int32) (S_115 : Nat → Nat → Int32) (L : Nat → Nat → Int64) : Option ((Int32 × (Nat → Nat → Int32)) ⊕ ((Nat → Nat → Int32))) := if ((7 : Int32) + x3_115) < 0 ∨ 14 ≤ ((7 : Int32) + x3_115).toNatClampNeg then none else if (1000000 : Int32) ≤ (S_115 7 ((7 : Int32) + x3_115).toNatClampNeg) then some (.inl ((x3_115 + (1 : Int32)), S_115)) else if ((7 : Int32) + x3_115) < 0 ∨ 14 ≤ ((7 : Int32) + x3_115).toNatClampNeg then none else k_b1 (nX7_reach S_115 L x5_115 (S_115 7 ((7 : Int32) + x3_115).toNatClampNeg)) (fun S141 => some (.inl ((x3_115 + (1 : Int32)), S141)))
set_option maxRecDepth 20000 in
def nX7_goSending_i24_j77 (p1 : Int32) (p2 : Int32) (x3_77 : Int32) (w0_77 : Int32) (S_77 : Nat → Nat → Int32) (L : Nat → Nat → Int64) : Option ((Int32 × (Nat → Nat → Int32)) ⊕ ((Nat → Nat → Int32))) := if x3_77 < 0 ∨ 14 ≤ x3_77.toNatClampNeg then none else if (1000000 : Int32) ≤ (S_77 7 x3_77.toNatClampNeg) then nX7_goSending_i24_j115 p1 p2 x3_77 w0_77 S_77 L else if x3_77 < 0 ∨ 14 ≤ x3_77.toNatClampNeg then none else k_b1 (nX7_reach S_77 L x3_77 (S_77 7 x3_77.toNatClampNeg)) (fun S98 => if x3_77 < 0 ∨ 14 ≤ x3_77.toNatClampNeg then none else k_b1 (nX7_reach S98 L w0_77 ((S98 7 x3_77.toNatClampNeg) + (1 : Int32))) (fun S112 => nX7_goSending_i24_j115 p1 p2 x3_77 w0_77 S112 L))
set_option maxRecDepth 20000 in
def nX7_goSending_l24 (p1 : Int32) (p2 : Int32) (x3_24 : Int32) (S_24 : Nat → Nat → Int32) (L : Nat → Nat → Int64) : Option ((Int32 × (Nat → Nat → Int32)) ⊕ ((Nat → Nat → Int32))) := k_b1 (nX7_many S_24 L) (fun r26 => if r26 ≤ x3_24 then k_up (k_it (fun st => nX7_goSending_l152 st.1 st.2 L) 1000 ((0 : Int32), S_24)) else if ((65 : Int32) + p1) < 0 ∨ 284 ≤ ((65 : Int32) + p1).toNatClampNeg then none else if ((70 : Int32) + p1) < 0 ∨ 284 ≤ ((70 : Int32) + p1).toNatClampNeg then none else k_b1 (nX7_comesTo_1 S_24 L (S_24 1 ((65 : Int32) + p1).toNatClampNeg) (S_24 1 ((70 : Int32) + p1).toNatClampNeg) p2 x3_24) (fun r57 => if r57 = (-1 : Int32) then nX7_goSending_i24_j77 p1 p2 x3_24 ((7 : Int32) + x3_24) S_24 L else nX7_goSending_i24_j77 p1 p2 x3_24 r57 S_24 L))
set_option maxRecDepth 20000 in
def nX7_goSending_l2 (p1 : Int32) (p2 : Int32) (x3_2 : Int32) (S_2 : Nat → Nat → Int32) (L : Nat → Nat → Int64) : Option ((Int32 × (Nat → Nat → Int32)) ⊕ ((Nat → Nat → Int32))) := if (14 : Int32) ≤ x3_2 then k_up (k_it (fun st => nX7_goSending_l24 p1 p2 st.1 st.2 L) 1000 ((0 : Int32), S_2)) else if x3_2 < 0 ∨ 14 ≤ x3_2.toNatClampNeg then none else some (.inl ((x3_2 + (1 : Int32)), (k_w S_2 8 x3_2.toNatClampNeg (1000000 : Int32))))
set_option maxRecDepth 20000 in
def nX7_goSending (S : Nat → Nat → Int32) (L : Nat → Nat → Int64) (p1 : Int32) (p2 : Int32) : Option ((Nat → Nat → Int32)) := k_it (fun st => nX7_goSending_l2 p1 p2 st.1 st.2 L) 1000 ((0 : Int32), S)
set_option maxHeartbeats 4000000 in
set_option maxRecDepth 100000 in
theorem mX7_goSending (l : Launch) (D : va_G) (cs : Nat → ClassId) (a : Nat → Nat) (S : Nat → Nat → Int32) (L : Nat → Nat → Int64) (p1 : Int32) (p2 : Int32) (S9 : (Nat → Nat → Int32)) (hd : nX7_goSending S L p1 p2 = some S9) : ∀ sz : Nat, Met l yX7_goSending wsX7_goSending ({ frames := 4, cells := 0, slots := 0, locals := 106 }) (k_Pc D cs [.ref (a 0), .int p1, .int p2] (wX7 cs a S L) sz) (k_Qv D (wX7 cs a S L) (wX7 cs a S9 L) sz) 0 0 (va_A (wX7 cs a S L) sz) := by
  intro sz
  refine Met.ofW (cc := cX7_goSending) (maxL := 6) (ret := none) (by decide) rfl ?_
  intro p e s m args below meth c s₁ B hml hv
  obtain ⟨rfl, hsz, hP, hK, hD0, hNn⟩ := hv
  have hx := B.exec
  have hb := B.bytes
  have hr := B.returns
  have hts := atoms_spec (ws := wsX7_goSending) B.pre
  have hown : s.vm.findClass RX7 = some m.cls := findClass_of_methodNamed B.named
  have hlocks := B.notSynchronized
  subst hsz
  obtain ⟨A, hAe⟩ : ∃ A : Nat → Prop, A = va_A (wX7 cs a S L) s.heap.size := ⟨_, rfl⟩
  have hD : va_D A (wX7 cs a S L) := by rw [hAe]; exact hD0.self
  have hA : ∀ q : Nat, s.heap.size ≤ q → A q := fun q h => by rw [hAe]; exact Or.inr h
  have hS : va_S A s.heap s.heap [] := va_S.rf
  have hDA : ∀ (S : Nat → Nat → Int32) (L : Nat → Nat → Int64), va_D A (wX7 cs a S L) := fun S L => k_DA hD rfl
  have hl := lv_entry ([.ref (a 0), .int p1, .int p2]) (n := 6) (Nat.le_of_ble_eq_true rfl)
  rw [lg_entry_eq]
  generalize (lg_sl ([.ref (a 0), .int p1, .int p2]) ++ List.replicate (6 - (lg_sl ([.ref (a 0), .int p1, .int p2])).length) Slot.unset).toArray = ls at hl ⊢
  have hl : lv_has ls 6 [(0, .ref (a 0)), (1, .int p1), (2, .int p2)] := hl
  obtain ⟨Q, hQ⟩ : ∃ Q, Q = MQ below (k_Qv D (wX7 cs a S L) (wX7 cs a S9 L) s.heap.size) ([.ref (a 0), .int p1, .int p2] : List Value).toArray s 0 0 (va_A (wX7 cs a S L) s.heap.size) := ⟨_, rfl⟩
  rw [← hQ]
  have Lo152 : ∀ (n1 : Nat) (x3_152 : Int32) (S_152 : Nat → Nat → Int32) (H : Heap) (locs : List Loc) (ls : Array Slot), k_it (fun st => nX7_goSending_l152 st.1 st.2 L) n1 (x3_152, S_152) = some S9 → lv_has ls 6 [(0, .ref (a 0)), (3, .int x3_152)] → va_P D vwCl (wX7 cs a S_152 L) H → va_S A s.heap H locs → W p l e (headSpec wsX7_goSending ({ frames := 4, cells := 0, slots := 0, locals := 106 })).room s m ([.ref (a 0), .int p1, .int p2] : List Value).toArray below meth c H locs 0 0 Q (F0 m 152 ls []) := by
    intro n1
    induction n1 with
    | zero => intro x3_152 S_152 H locs ls hd; exact dn_it0 hd
    | succ n1 ih1 =>
      intro x3_152 S_152 H locs ls hd hl hP hS
      have hD := hDA S_152 L
      obtain ⟨y1, hd, hy1⟩ := dn_it hd
      have hd : nX7_goSending_l152 x3_152 S_152 L = some y1 := hd
      unfold nX7_goSending_l152 at hd
      refine lv_iload_n hx hb dX7_goSending_152 rfl (lv_at hl 1 rfl) ?_
      refine lv_bipush (v := (14 : Int32)) hx hb dX7_goSending_153 (by decide) ?_
      refine lv_icmp_ge (tgt := 176) hx hb dX7_goSending_155 (by decide) (fun c155 => ?_) (fun c155 => ?_)
      · have hd := dn_t c155 hd
        have hd := dn_up hd hy1
        have e1 := dn_s1 hd
        exact k_vret hx hb hr hQ hAe (by rw [e1]) hP hS hlocks dX7_goSending_176
      · have hd := dn_f c155 hd
        refine lv_aload_n hx hb dX7_goSending_158 rfl (lv_at hl 0 rfl) ?_
        refine va_get (D := D) (ci := 5) (v := .ref (a 7)) (C := RX7) (T := TX7) (N := 25) hx hb hts (fun w h => List.mem_cons_of_mem _ (List.mem_append_right _ h)) hown hK hP 0 rfl rfl 8 (by decide) (hts (.fieldLink RX7 33 "LeastNeedModel" "losses" "[I") (List.mem_of_getElem? (i := 4) rfl)) (fun _ h9 => h9) rfl dX7_goSending_159 ?_
        refine lv_iload_n hx hb dX7_goSending_162 rfl (lv_at hl 1 rfl) ?_
        refine lv_aload_n hx hb dX7_goSending_163 rfl (lv_at hl 0 rfl) ?_
        refine va_get (D := D) (ci := 5) (v := .ref (a 8)) (C := RX7) (T := TX7) (N := 25) hx hb hts (fun w h => List.mem_cons_of_mem _ (List.mem_append_right _ h)) hown hK hP 0 rfl rfl 9 (by decide) (hts (.fieldLink RX7 36 "LeastNeedModel" "behind" "[I") (List.mem_of_getElem? (i := 1) rfl)) (fun _ h9 => h9) rfl dX7_goSending_164 ?_
        refine lv_iload_n hx hb dX7_goSending_167 rfl (lv_at hl 1 rfl) ?_
        obtain ⟨hi168, hd⟩ := dn_i hd
        refine k_iald (D := D) (k := x3_152.toNatClampNeg) (by rfl) hx hb hK hP 8 1 rfl rfl hi168 dX7_goSending_168 ?_
        obtain ⟨hi169, hd⟩ := dn_i hd
        refine k_iast (D := D) (k := x3_152.toNatClampNeg) (by rfl) hx hb hK hP hD hS 7 1 rfl rfl hi169 dX7_goSending_169 (fun H locs hP hD hS => ?_)
        have hP : va_P D vwCl (wX7 cs a (k_w S_152 7 x3_152.toNatClampNeg (S_152 8 x3_152.toNatClampNeg)) L) _ := k_eq hP (wsX7_a7 cs a S_152 L x3_152.toNatClampNeg (S_152 8 x3_152.toNatClampNeg))
        have hD := hDA (k_w S_152 7 x3_152.toNatClampNeg (S_152 8 x3_152.toNatClampNeg)) L
        refine lv_iinc (v := x3_152 + (1 : Int32)) (lv' := [(3, .int (x3_152 + (1 : Int32))), (0, .ref (a 0))]) hx hb dX7_goSending_170 hl (k := 1) rfl rfl (by decide) rfl (fun ls hl => ?_)
        refine lv_goto (tgt := 152) hx hb dX7_goSending_173 (by decide) ?_
        exact ih1 (x3_152 + (1 : Int32)) (k_w S_152 7 x3_152.toNatClampNeg (S_152 8 x3_152.toNatClampNeg)) _ _ _ (dn_bk hd hy1) (lv_sub hl [1, 0] rfl) hP hS
  have Lo24 : ∀ (n1 : Nat) (x3_24 : Int32) (S_24 : Nat → Nat → Int32) (H : Heap) (locs : List Loc) (ls : Array Slot), k_it (fun st => nX7_goSending_l24 p1 p2 st.1 st.2 L) n1 (x3_24, S_24) = some S9 → lv_has ls 6 [(0, .ref (a 0)), (1, .int p1), (2, .int p2), (3, .int x3_24)] → va_P D vwCl (wX7 cs a S_24 L) H → va_S A s.heap H locs → W p l e (headSpec wsX7_goSending ({ frames := 4, cells := 0, slots := 0, locals := 106 })).room s m ([.ref (a 0), .int p1, .int p2] : List Value).toArray below meth c H locs 0 0 Q (F0 m 24 ls []) := by
    intro n1
    induction n1 with
    | zero => intro x3_24 S_24 H locs ls hd; exact dn_it0 hd
    | succ n1 ih1 =>
      intro x3_24 S_24 H locs ls hd hl hP hS
      have hD := hDA S_24 L
      obtain ⟨y1, hd, hy1⟩ := dn_it hd
      have hd : nX7_goSending_l24 p1 p2 x3_24 S_24 L = some y1 := hd
      have Jo115 : ∀ (x3_115 : Int32) (x5_115 : Int32) (S_115 : Nat → Nat → Int32) (H : Heap) (locs : List Loc) (ls : Array Slot), nX7_goSending_i24_j115 p1 p2 x3_115 x5_115 S_115 L = some y1 → lv_has ls 6 [(0, .ref (a 0)), (1, .int p1), (2, .int p2), (3, .int x3_115), (5, .int x5_115)] → va_P D vwCl (wX7 cs a S_115 L) H → va_S A s.heap H locs → W p l e (headSpec wsX7_goSending ({ frames := 4, cells := 0, slots := 0, locals := 106 })).room s m ([.ref (a 0), .int p1, .int p2] : List Value).toArray below meth c H locs 0 0 Q (F0 m 115 ls []) := by
        intro x3_115 x5_115 S_115 H locs ls hd hl hP hS
        have hD := hDA S_115 L
        unfold nX7_goSending_i24_j115 at hd
        refine lv_aload_n hx hb dX7_goSending_115 rfl (lv_at hl 0 rfl) ?_
        refine va_get (D := D) (ci := 5) (v := .ref (a 7)) (C := RX7) (T := TX7) (N := 25) hx hb hts (fun w h => List.mem_cons_of_mem _ (List.mem_append_right _ h)) hown hK hP 0 rfl rfl 8 (by decide) (hts (.fieldLink RX7 33 "LeastNeedModel" "losses" "[I") (List.mem_of_getElem? (i := 4) rfl)) (fun _ h9 => h9) rfl dX7_goSending_116 ?_
        refine lv_bipush (v := (7 : Int32)) hx hb dX7_goSending_119 (by decide) ?_
        refine lv_iload_n hx hb dX7_goSending_121 rfl (lv_at hl 3 rfl) ?_
        refine lv_iadd hx hb dX7_goSending_122 ?_
        obtain ⟨hi123, hd⟩ := dn_i hd
        refine k_iald (D := D) (k := ((7 : Int32) + x3_115).toNatClampNeg) (by rfl) hx hb hK hP 7 1 rfl rfl hi123 dX7_goSending_123 ?_
        refine lv_ldc (v := (1000000 : Int32)) hx hb hown (hts (.constant RX7 134 (1000000)) (List.mem_of_getElem? (i := 2) rfl)) dX7_goSending_124 ?_
        refine lv_icmp_ge (tgt := 144) hx hb dX7_goSending_126 (by decide) (fun c126 => ?_) (fun c126 => ?_)
        · have hd := dn_t c126 hd
          refine lv_iinc (v := x3_115 + (1 : Int32)) (lv' := [(3, .int (x3_115 + (1 : Int32))), (0, .ref (a 0)), (1, .int p1), (2, .int p2), (5, .int x5_115)]) hx hb dX7_goSending_144 hl (k := 3) rfl rfl (by decide) rfl (fun ls hl => ?_)
          refine lv_goto (tgt := 24) hx hb dX7_goSending_147 (by decide) ?_
          exact ih1 (x3_115 + (1 : Int32)) S_115 _ _ _ (dn_bk hd hy1) (lv_sub hl [1, 2, 3, 0] rfl) hP hS
        · have hd := dn_f c126 hd
          refine lv_aload_n hx hb dX7_goSending_129 rfl (lv_at hl 0 rfl) ?_
          refine lv_iload hx hb dX7_goSending_130 (lv_at hl 4 rfl) ?_
          refine lv_aload_n hx hb dX7_goSending_132 rfl (lv_at hl 0 rfl) ?_
          refine va_get (D := D) (ci := 5) (v := .ref (a 7)) (C := RX7) (T := TX7) (N := 25) hx hb hts (fun w h => List.mem_cons_of_mem _ (List.mem_append_right _ h)) hown hK hP 0 rfl rfl 8 (by decide) (hts (.fieldLink RX7 33 "LeastNeedModel" "losses" "[I") (List.mem_of_getElem? (i := 4) rfl)) (fun _ h9 => h9) rfl dX7_goSending_133 ?_
          refine lv_bipush (v := (7 : Int32)) hx hb dX7_goSending_136 (by decide) ?_
          refine lv_iload_n hx hb dX7_goSending_138 rfl (lv_at hl 3 rfl) ?_
          refine lv_iadd hx hb dX7_goSending_139 ?_
          obtain ⟨hi140, hd⟩ := dn_i hd
          refine k_iald (D := D) (k := ((7 : Int32) + x3_115).toNatClampNeg) (by rfl) hx hb hK hP 7 1 rfl rfl hi140 dX7_goSending_140 ?_
          obtain ⟨S141, hq141, hd⟩ := dn_b1 hd
          have hF := k_self hD hS hA
          refine k_run_v (va_runV (As := [.int x5_115, .int (S_115 7 ((7 : Int32) + x3_115).toNatClampNeg)]) (rest := []) ⟨hx, hb, hml, hown, hts⟩ (mX7_reach l D cs a S_115 L x5_115 (S_115 7 ((7 : Int32) + x3_115).toNatClampNeg) S141 hq141 _) (cwV 2 hts gX7_goSending_X7_reach rfl rfl rfl (by decide +kernel) ⟨Nat.le_of_ble_eq_true rfl, Nat.le_of_ble_eq_true rfl⟩) ⟨k_blind, va_recv hK hP (ci := 5) (q0 := 0) rfl rfl, k_pre hP hK hNn hD⟩ rfl rfl hl.1 rfl (lv_room (Nat.le_of_ble_eq_true rfl)) dX7_goSending_141 ⟨Nat.le_of_ble_eq_true rfl, Nat.le_of_ble_eq_true rfl⟩) hS hF (fun H locs hP1 hk hS => ?_)
          have hP : va_P D vwCl (wX7 cs a S141 L) _ := hP1
          have hD := hDA S141 L
          refine lv_iinc (v := x3_115 + (1 : Int32)) (lv' := [(3, .int (x3_115 + (1 : Int32))), (0, .ref (a 0)), (1, .int p1), (2, .int p2), (5, .int x5_115)]) hx hb dX7_goSending_144 hl (k := 3) rfl rfl (by decide) rfl (fun ls hl => ?_)
          refine lv_goto (tgt := 24) hx hb dX7_goSending_147 (by decide) ?_
          exact ih1 (x3_115 + (1 : Int32)) S141 _ _ _ (dn_bk hd hy1) (lv_sub hl [1, 2, 3, 0] rfl) hP hS
      have Jo77 : ∀ (x3_77 : Int32) (w0_77 : Int32) (S_77 : Nat → Nat → Int32) (H : Heap) (locs : List Loc) (ls : Array Slot), nX7_goSending_i24_j77 p1 p2 x3_77 w0_77 S_77 L = some y1 → lv_has ls 6 [(0, .ref (a 0)), (1, .int p1), (2, .int p2), (3, .int x3_77)] → va_P D vwCl (wX7 cs a S_77 L) H → va_S A s.heap H locs → W p l e (headSpec wsX7_goSending ({ frames := 4, cells := 0, slots := 0, locals := 106 })).room s m ([.ref (a 0), .int p1, .int p2] : List Value).toArray below meth c H locs 0 0 Q (F0 m 77 ls [.int w0_77]) := by
        intro x3_77 w0_77 S_77 H locs ls hd hl hP hS
        have hD := hDA S_77 L
        unfold nX7_goSending_i24_j77 at hd
        refine lv_istore (lv' := [(5, .int w0_77), (0, .ref (a 0)), (1, .int p1), (2, .int p2), (3, .int x3_77)]) hx hb dX7_goSending_77 hl (by decide) rfl (fun ls hl => ?_)
        refine lv_aload_n hx hb dX7_goSending_79 rfl (lv_at hl 1 rfl) ?_
        refine va_get (D := D) (ci := 5) (v := .ref (a 7)) (C := RX7) (T := TX7) (N := 25) hx hb hts (fun w h => List.mem_cons_of_mem _ (List.mem_append_right _ h)) hown hK hP 0 rfl rfl 8 (by decide) (hts (.fieldLink RX7 33 "LeastNeedModel" "losses" "[I") (List.mem_of_getElem? (i := 4) rfl)) (fun _ h9 => h9) rfl dX7_goSending_80 ?_
        refine lv_iload_n hx hb dX7_goSending_83 rfl (lv_at hl 4 rfl) ?_
        obtain ⟨hi84, hd⟩ := dn_i hd
        refine k_iald (D := D) (k := x3_77.toNatClampNeg) (by rfl) hx hb hK hP 7 1 rfl rfl hi84 dX7_goSending_84 ?_
        refine lv_ldc (v := (1000000 : Int32)) hx hb hown (hts (.constant RX7 134 (1000000)) (List.mem_of_getElem? (i := 2) rfl)) dX7_goSending_85 ?_
        refine lv_icmp_ge (tgt := 115) hx hb dX7_goSending_87 (by decide) (fun c87 => ?_) (fun c87 => ?_)
        · have hd := dn_t c87 hd
          exact Jo115 x3_77 w0_77 S_77 _ _ _ hd (lv_sub hl [1, 2, 3, 4, 0] rfl) hP hS
        · have hd := dn_f c87 hd
          refine lv_aload_n hx hb dX7_goSending_90 rfl (lv_at hl 1 rfl) ?_
          refine lv_iload_n hx hb dX7_goSending_91 rfl (lv_at hl 4 rfl) ?_
          refine lv_aload_n hx hb dX7_goSending_92 rfl (lv_at hl 1 rfl) ?_
          refine va_get (D := D) (ci := 5) (v := .ref (a 7)) (C := RX7) (T := TX7) (N := 25) hx hb hts (fun w h => List.mem_cons_of_mem _ (List.mem_append_right _ h)) hown hK hP 0 rfl rfl 8 (by decide) (hts (.fieldLink RX7 33 "LeastNeedModel" "losses" "[I") (List.mem_of_getElem? (i := 4) rfl)) (fun _ h9 => h9) rfl dX7_goSending_93 ?_
          refine lv_iload_n hx hb dX7_goSending_96 rfl (lv_at hl 4 rfl) ?_
          obtain ⟨hi97, hd⟩ := dn_i hd
          refine k_iald (D := D) (k := x3_77.toNatClampNeg) (by rfl) hx hb hK hP 7 1 rfl rfl hi97 dX7_goSending_97 ?_
          obtain ⟨S98, hq98, hd⟩ := dn_b1 hd
          have hF := k_self hD hS hA
          refine k_run_v (va_runV (As := [.int x3_77, .int (S_77 7 x3_77.toNatClampNeg)]) (rest := []) ⟨hx, hb, hml, hown, hts⟩ (mX7_reach l D cs a S_77 L x3_77 (S_77 7 x3_77.toNatClampNeg) S98 hq98 _) (cwV 2 hts gX7_goSending_X7_reach rfl rfl rfl (by decide +kernel) ⟨Nat.le_of_ble_eq_true rfl, Nat.le_of_ble_eq_true rfl⟩) ⟨k_blind, va_recv hK hP (ci := 5) (q0 := 0) rfl rfl, k_pre hP hK hNn hD⟩ rfl rfl hl.1 rfl (lv_room (Nat.le_of_ble_eq_true rfl)) dX7_goSending_98 ⟨Nat.le_of_ble_eq_true rfl, Nat.le_of_ble_eq_true rfl⟩) hS hF (fun H locs hP1 hk hS => ?_)
          have hP : va_P D vwCl (wX7 cs a S98 L) _ := hP1
          have hD := hDA S98 L
          refine lv_aload_n hx hb dX7_goSending_101 rfl (lv_at hl 1 rfl) ?_
          refine lv_iload hx hb dX7_goSending_102 (lv_at hl 0 rfl) ?_
          refine lv_aload_n hx hb dX7_goSending_104 rfl (lv_at hl 1 rfl) ?_
          refine va_get (D := D) (ci := 5) (v := .ref (a 7)) (C := RX7) (T := TX7) (N := 25) hx hb hts (fun w h => List.mem_cons_of_mem _ (List.mem_append_right _ h)) hown hK hP 0 rfl rfl 8 (by decide) (hts (.fieldLink RX7 33 "LeastNeedModel" "losses" "[I") (List.mem_of_getElem? (i := 4) rfl)) (fun _ h9 => h9) rfl dX7_goSending_105 ?_
          refine lv_iload_n hx hb dX7_goSending_108 rfl (lv_at hl 4 rfl) ?_
          obtain ⟨hi109, hd⟩ := dn_i hd
          refine k_iald (D := D) (k := x3_77.toNatClampNeg) (by rfl) hx hb hK hP 7 1 rfl rfl hi109 dX7_goSending_109 ?_
          refine lv_iconst (v := (1 : Int32)) hx hb dX7_goSending_110 (by decide) ?_
          refine lv_iadd hx hb dX7_goSending_111 ?_
          obtain ⟨S112, hq112, hd⟩ := dn_b1 hd
          have hF := k_self hD hS hA
          refine k_run_v (va_runV (As := [.int w0_77, .int ((S98 7 x3_77.toNatClampNeg) + (1 : Int32))]) (rest := []) ⟨hx, hb, hml, hown, hts⟩ (mX7_reach l D cs a S98 L w0_77 ((S98 7 x3_77.toNatClampNeg) + (1 : Int32)) S112 hq112 _) (cwV 2 hts gX7_goSending_X7_reach rfl rfl rfl (by decide +kernel) ⟨Nat.le_of_ble_eq_true rfl, Nat.le_of_ble_eq_true rfl⟩) ⟨k_blind, va_recv hK hP (ci := 5) (q0 := 0) rfl rfl, k_pre hP hK hNn hD⟩ rfl rfl hl.1 rfl (lv_room (Nat.le_of_ble_eq_true rfl)) dX7_goSending_112 ⟨Nat.le_of_ble_eq_true rfl, Nat.le_of_ble_eq_true rfl⟩) hS hF (fun H locs hP1 hk hS => ?_)
          have hP : va_P D vwCl (wX7 cs a S112 L) _ := hP1
          have hD := hDA S112 L
          exact Jo115 x3_77 w0_77 S112 _ _ _ hd (lv_sub hl [1, 2, 3, 4, 0] rfl) hP hS
      unfold nX7_goSending_l24 at hd
      refine lv_iload_n hx hb dX7_goSending_24 rfl (lv_at hl 3 rfl) ?_
      refine lv_aload_n hx hb dX7_goSending_25 rfl (lv_at hl 0 rfl) ?_
      obtain ⟨r26, hq26, hd⟩ := dn_b1 hd
      have hF := k_self hD hS hA
      refine k_run_i (va_runV (As := []) (rest := [.int x3_24]) ⟨hx, hb, hml, hown, hts⟩ (mX7_many l D cs a S_24 L r26 hq26 _) (cwV 0 hts gX7_goSending_X7_many rfl rfl rfl (by decide +kernel) ⟨Nat.le_of_ble_eq_true rfl, Nat.le_of_ble_eq_true rfl⟩) ⟨k_blind, va_recv hK hP (ci := 5) (q0 := 0) rfl rfl, k_pre hP hK hNn hD⟩ rfl rfl hl.1 rfl (lv_room (Nat.le_of_ble_eq_true rfl)) dX7_goSending_26 ⟨Nat.le_of_ble_eq_true rfl, Nat.le_of_ble_eq_true rfl⟩) hS hF (fun H locs hP1 hk hS => ?_)
      have hP : va_P D vwCl (wX7 cs a S_24 L) _ := hP1
      have hD := hDA S_24 L
      refine lv_icmp_ge (tgt := 150) hx hb dX7_goSending_29 (by decide) (fun c29 => ?_) (fun c29 => ?_)
      · have hd := dn_t c29 hd
        have hd := dn_up hd hy1
        refine lv_iconst (v := (0 : Int32)) hx hb dX7_goSending_150 (by decide) ?_
        refine lv_istore_n (lv' := [(3, .int (0 : Int32)), (0, .ref (a 0)), (1, .int p1), (2, .int p2)]) hx hb dX7_goSending_151 rfl hl (by decide) rfl (fun ls hl => ?_)
        exact Lo152 1000 (0 : Int32) S_24 _ _ _ hd (lv_sub hl [1, 0] rfl) hP hS
      · have hd := dn_f c29 hd
        refine lv_aload_n hx hb dX7_goSending_32 rfl (lv_at hl 0 rfl) ?_
        refine lv_aload_n hx hb dX7_goSending_33 rfl (lv_at hl 0 rfl) ?_
        refine va_get (D := D) (ci := 5) (v := .ref (a 1)) (C := RX7) (T := TX7) (N := 25) hx hb hts (fun w h => List.mem_cons_of_mem _ (List.mem_append_right _ h)) hown hK hP 0 rfl rfl 0 (by decide) (hts (.fieldLink RX7 7 "LeastNeedModel" "told" "[I") (List.mem_of_getElem? (i := 3) rfl)) (fun _ h9 => h9) rfl dX7_goSending_34 ?_
        refine lv_aload_n hx hb dX7_goSending_37 rfl (lv_at hl 0 rfl) ?_
        refine va_get (D := D) (ci := 5) (v := .ref (a 1)) (C := RX7) (T := TX7) (N := 25) hx hb hts (fun w h => List.mem_cons_of_mem _ (List.mem_append_right _ h)) hown hK hP 0 rfl rfl 0 (by decide) (hts (.fieldLink RX7 7 "LeastNeedModel" "told" "[I") (List.mem_of_getElem? (i := 3) rfl)) (fun _ h9 => h9) rfl dX7_goSending_38 ?_
        refine lv_bipush (v := (65 : Int32)) hx hb dX7_goSending_41 (by decide) ?_
        refine lv_iload_n hx hb dX7_goSending_43 rfl (lv_at hl 1 rfl) ?_
        refine lv_iadd hx hb dX7_goSending_44 ?_
        obtain ⟨hi45, hd⟩ := dn_i hd
        refine k_iald (D := D) (k := ((65 : Int32) + p1).toNatClampNeg) (by rfl) hx hb hK hP 1 1 rfl rfl hi45 dX7_goSending_45 ?_
        refine lv_aload_n hx hb dX7_goSending_46 rfl (lv_at hl 0 rfl) ?_
        refine va_get (D := D) (ci := 5) (v := .ref (a 1)) (C := RX7) (T := TX7) (N := 25) hx hb hts (fun w h => List.mem_cons_of_mem _ (List.mem_append_right _ h)) hown hK hP 0 rfl rfl 0 (by decide) (hts (.fieldLink RX7 7 "LeastNeedModel" "told" "[I") (List.mem_of_getElem? (i := 3) rfl)) (fun _ h9 => h9) rfl dX7_goSending_47 ?_
        refine lv_bipush (v := (70 : Int32)) hx hb dX7_goSending_50 (by decide) ?_
        refine lv_iload_n hx hb dX7_goSending_52 rfl (lv_at hl 1 rfl) ?_
        refine lv_iadd hx hb dX7_goSending_53 ?_
        obtain ⟨hi54, hd⟩ := dn_i hd
        refine k_iald (D := D) (k := ((70 : Int32) + p1).toNatClampNeg) (by rfl) hx hb hK hP 1 1 rfl rfl hi54 dX7_goSending_54 ?_
        refine lv_iload_n hx hb dX7_goSending_55 rfl (lv_at hl 2 rfl) ?_
        refine lv_iload_n hx hb dX7_goSending_56 rfl (lv_at hl 3 rfl) ?_
        obtain ⟨r57, hq57, hd⟩ := dn_b1 hd
        have hF := k_self hD hS hA
        refine k_run_i (va_runV (As := [.ref (a 1), .int (S_24 1 ((65 : Int32) + p1).toNatClampNeg), .int (S_24 1 ((70 : Int32) + p1).toNatClampNeg), .int p2, .int x3_24]) (rest := []) ⟨hx, hb, hml, hown, hts⟩ (mX7_comesTo_1 l D cs a S_24 L (S_24 1 ((65 : Int32) + p1).toNatClampNeg) (S_24 1 ((70 : Int32) + p1).toNatClampNeg) p2 x3_24 r57 hq57 _) (cwV 5 hts gX7_goSending_X7_comesTo rfl rfl rfl (by decide +kernel) ⟨Nat.le_of_ble_eq_true rfl, Nat.le_of_ble_eq_true rfl⟩) ⟨k_blind, va_recv hK hP (ci := 5) (q0 := 0) rfl rfl, k_pre hP hK hNn hD⟩ rfl rfl hl.1 rfl (lv_room (Nat.le_of_ble_eq_true rfl)) dX7_goSending_57 ⟨Nat.le_of_ble_eq_true rfl, Nat.le_of_ble_eq_true rfl⟩) hS hF (fun H locs hP1 hk hS => ?_)
        have hP : va_P D vwCl (wX7 cs a S_24 L) _ := hP1
        have hD := hDA S_24 L
        refine lv_istore (lv' := [(4, .int r57), (0, .ref (a 0)), (1, .int p1), (2, .int p2), (3, .int x3_24)]) hx hb dX7_goSending_60 hl (by decide) rfl (fun ls hl => ?_)
        refine lv_iload hx hb dX7_goSending_62 (lv_at hl 0 rfl) ?_
        refine lv_iconst (v := (-1 : Int32)) hx hb dX7_goSending_64 (by decide) ?_
        refine lv_icmp_ne (tgt := 75) hx hb dX7_goSending_65 (by decide) (fun c65 => ?_) (fun c65 => ?_)
        · have hd := dn_f c65 hd
          refine lv_iload hx hb dX7_goSending_75 (lv_at hl 0 rfl) ?_
          exact Jo77 x3_24 r57 S_24 _ _ _ hd (lv_sub hl [1, 2, 3, 4] rfl) hP hS
        · have hd := dn_t c65 hd
          refine lv_bipush (v := (7 : Int32)) hx hb dX7_goSending_68 (by decide) ?_
          refine lv_iload_n hx hb dX7_goSending_70 rfl (lv_at hl 4 rfl) ?_
          refine lv_iadd hx hb dX7_goSending_71 ?_
          refine lv_goto (tgt := 77) hx hb dX7_goSending_72 (by decide) ?_
          exact Jo77 x3_24 ((7 : Int32) + x3_24) S_24 _ _ _ hd (lv_sub hl [1, 2, 3, 4] rfl) hP hS
  have Lo2 : ∀ (n1 : Nat) (x3_2 : Int32) (S_2 : Nat → Nat → Int32) (H : Heap) (locs : List Loc) (ls : Array Slot), k_it (fun st => nX7_goSending_l2 p1 p2 st.1 st.2 L) n1 (x3_2, S_2) = some S9 → lv_has ls 6 [(0, .ref (a 0)), (1, .int p1), (2, .int p2), (3, .int x3_2)] → va_P D vwCl (wX7 cs a S_2 L) H → va_S A s.heap H locs → W p l e (headSpec wsX7_goSending ({ frames := 4, cells := 0, slots := 0, locals := 106 })).room s m ([.ref (a 0), .int p1, .int p2] : List Value).toArray below meth c H locs 0 0 Q (F0 m 2 ls []) := by
    intro n1
    induction n1 with
    | zero => intro x3_2 S_2 H locs ls hd; exact dn_it0 hd
    | succ n1 ih1 =>
      intro x3_2 S_2 H locs ls hd hl hP hS
      have hD := hDA S_2 L
      obtain ⟨y1, hd, hy1⟩ := dn_it hd
      have hd : nX7_goSending_l2 p1 p2 x3_2 S_2 L = some y1 := hd
      unfold nX7_goSending_l2 at hd
      refine lv_iload_n hx hb dX7_goSending_2 rfl (lv_at hl 3 rfl) ?_
      refine lv_bipush (v := (14 : Int32)) hx hb dX7_goSending_3 (by decide) ?_
      refine lv_icmp_ge (tgt := 22) hx hb dX7_goSending_5 (by decide) (fun c5 => ?_) (fun c5 => ?_)
      · have hd := dn_t c5 hd
        have hd := dn_up hd hy1
        refine lv_iconst (v := (0 : Int32)) hx hb dX7_goSending_22 (by decide) ?_
        refine lv_istore_n (lv' := [(3, .int (0 : Int32)), (0, .ref (a 0)), (1, .int p1), (2, .int p2)]) hx hb dX7_goSending_23 rfl hl (by decide) rfl (fun ls hl => ?_)
        exact Lo24 1000 (0 : Int32) S_2 _ _ _ hd (lv_sub hl [1, 2, 3, 0] rfl) hP hS
      · have hd := dn_f c5 hd
        refine lv_aload_n hx hb dX7_goSending_8 rfl (lv_at hl 0 rfl) ?_
        refine va_get (D := D) (ci := 5) (v := .ref (a 8)) (C := RX7) (T := TX7) (N := 25) hx hb hts (fun w h => List.mem_cons_of_mem _ (List.mem_append_right _ h)) hown hK hP 0 rfl rfl 9 (by decide) (hts (.fieldLink RX7 36 "LeastNeedModel" "behind" "[I") (List.mem_of_getElem? (i := 1) rfl)) (fun _ h9 => h9) rfl dX7_goSending_9 ?_
        refine lv_iload_n hx hb dX7_goSending_12 rfl (lv_at hl 3 rfl) ?_
        refine lv_ldc (v := (1000000 : Int32)) hx hb hown (hts (.constant RX7 134 (1000000)) (List.mem_of_getElem? (i := 2) rfl)) dX7_goSending_13 ?_
        obtain ⟨hi15, hd⟩ := dn_i hd
        refine k_iast (D := D) (k := x3_2.toNatClampNeg) (by rfl) hx hb hK hP hD hS 8 1 rfl rfl hi15 dX7_goSending_15 (fun H locs hP hD hS => ?_)
        have hP : va_P D vwCl (wX7 cs a (k_w S_2 8 x3_2.toNatClampNeg (1000000 : Int32)) L) _ := k_eq hP (wsX7_a8 cs a S_2 L x3_2.toNatClampNeg (1000000 : Int32))
        have hD := hDA (k_w S_2 8 x3_2.toNatClampNeg (1000000 : Int32)) L
        refine lv_iinc (v := x3_2 + (1 : Int32)) (lv' := [(3, .int (x3_2 + (1 : Int32))), (0, .ref (a 0)), (1, .int p1), (2, .int p2)]) hx hb dX7_goSending_16 hl (k := 3) rfl rfl (by decide) rfl (fun ls hl => ?_)
        refine lv_goto (tgt := 2) hx hb dX7_goSending_19 (by decide) ?_
        exact ih1 (x3_2 + (1 : Int32)) (k_w S_2 8 x3_2.toNatClampNeg (1000000 : Int32)) _ _ _ (dn_bk hd hy1) (lv_sub hl [1, 2, 3, 0] rfl) hP hS
  unfold nX7_goSending at hd
  refine lv_iconst (v := (0 : Int32)) hx hb dX7_goSending_0 (by decide) ?_
  refine lv_istore_n (lv' := [(3, .int (0 : Int32)), (0, .ref (a 0)), (1, .int p1), (2, .int p2)]) hx hb dX7_goSending_1 rfl hl (by decide) rfl (fun ls hl => ?_)
  exact Lo2 1000 (0 : Int32) S _ _ _ hd (lv_sub hl [1, 2, 3, 0] rfl) hP hS
-- LeastNeedModel.send(III)I
set_option maxRecDepth 20000 in
def nX7_send_l49 (p1 : Int32) (p2 : Int32) (p3 : Int32) (x4_49 : Int32) (S_49 : Nat → Nat → Int32) (L : Nat → Nat → Int64) : Option ((Int32 × (Nat → Nat → Int32)) ⊕ (Int32 × (Nat → Nat → Int32))) := if (30 : Int32) < x4_49 then k_up (some ((-1 : Int32), S_49)) else if p2 < 0 ∨ 14 ≤ p2.toNatClampNeg then none else if (1000000 : Int32) ≤ (S_49 7 p2.toNatClampNeg) then k_b1 (nX7_goSending S_49 L p1 ((S_49 1 22) + x4_49)) (fun S95 => some (.inl ((x4_49 + (1 : Int32)), S95))) else k_up (if p3 = 0 then some (x4_49, S_49) else if p2 < 0 ∨ 14 ≤ p2.toNatClampNeg then none else some ((S_49 7 p2.toNatClampNeg), S_49))
set_option maxRecDepth 20000 in
def nX7_send_j26 (S_26 : Nat → Nat → Int32) (L : Nat → Nat → Int64) : Option (Int32 × (Nat → Nat → Int32)) := k_b2 (nX7_bad S_26 L (-2 : Int32)) (fun r29 S29 => some (r29, S29))
set_option maxRecDepth 20000 in
def nX7_send (S : Nat → Nat → Int32) (L : Nat → Nat → Int64) (p1 : Int32) (p2 : Int32) (p3 : Int32) : Option (Int32 × (Nat → Nat → Int32)) := k_b1 (nX7_isThing S L p1) (fun r2 => if r2 = 0 then nX7_send_j26 S L else k_b1 (nX7_isOne S L p2) (fun r10 => if r10 = 0 then nX7_send_j26 S L else k_b1 (nX7_in p3.toInt64 (0 : Int64) (1 : Int64)) (fun r20 => if r20 = 0 then nX7_send_j26 S L else k_b1 (nX7_layCoats_1 S L) (fun S38 => k_b1 (nX7_layStart S38 L p1) (fun S43 => k_it (fun st => nX7_send_l49 p1 p2 p3 st.1 st.2 L) 1000 ((0 : Int32), S43))))))
set_option maxHeartbeats 4000000 in
set_option maxRecDepth 100000 in
theorem mX7_send (l : Launch) (D : va_G) (cs : Nat → ClassId) (a : Nat → Nat) (S : Nat → Nat → Int32) (L : Nat → Nat → Int64) (p1 : Int32) (p2 : Int32) (p3 : Int32) (r9 : Int32) (S9 : (Nat → Nat → Int32)) (hd : nX7_send S L p1 p2 p3 = some (r9, S9)) : ∀ sz : Nat, Met l yX7_send wsX7_send ({ frames := 5, cells := 0, slots := 0, locals := 131 }) (k_Pc D cs [.ref (a 0), .int p1, .int p2, .int p3] (wX7 cs a S L) sz) (k_Qi D r9 (wX7 cs a S L) (wX7 cs a S9 L) sz) 0 0 (va_A (wX7 cs a S L) sz) := by
  intro sz
  refine Met.ofW (cc := cX7_send) (maxL := 5) (ret := (some .int)) (by decide) rfl ?_
  intro p e s m args below meth c s₁ B hml hv
  obtain ⟨rfl, hsz, hP, hK, hD0, hNn⟩ := hv
  have hx := B.exec
  have hb := B.bytes
  have hr := B.returns
  have hts := atoms_spec (ws := wsX7_send) B.pre
  have hown : s.vm.findClass RX7 = some m.cls := findClass_of_methodNamed B.named
  have hlocks := B.notSynchronized
  subst hsz
  obtain ⟨A, hAe⟩ : ∃ A : Nat → Prop, A = va_A (wX7 cs a S L) s.heap.size := ⟨_, rfl⟩
  have hD : va_D A (wX7 cs a S L) := by rw [hAe]; exact hD0.self
  have hA : ∀ q : Nat, s.heap.size ≤ q → A q := fun q h => by rw [hAe]; exact Or.inr h
  have hS : va_S A s.heap s.heap [] := va_S.rf
  have hDA : ∀ (S : Nat → Nat → Int32) (L : Nat → Nat → Int64), va_D A (wX7 cs a S L) := fun S L => k_DA hD rfl
  have hl := lv_entry ([.ref (a 0), .int p1, .int p2, .int p3]) (n := 5) (Nat.le_of_ble_eq_true rfl)
  rw [lg_entry_eq]
  generalize (lg_sl ([.ref (a 0), .int p1, .int p2, .int p3]) ++ List.replicate (5 - (lg_sl ([.ref (a 0), .int p1, .int p2, .int p3])).length) Slot.unset).toArray = ls at hl ⊢
  have hl : lv_has ls 5 [(0, .ref (a 0)), (1, .int p1), (2, .int p2), (3, .int p3)] := hl
  obtain ⟨Q, hQ⟩ : ∃ Q, Q = MQ below (k_Qi D r9 (wX7 cs a S L) (wX7 cs a S9 L) s.heap.size) ([.ref (a 0), .int p1, .int p2, .int p3] : List Value).toArray s 0 0 (va_A (wX7 cs a S L) s.heap.size) := ⟨_, rfl⟩
  rw [← hQ]
  have Lo49 : ∀ (n1 : Nat) (x4_49 : Int32) (S_49 : Nat → Nat → Int32) (H : Heap) (locs : List Loc) (ls : Array Slot), k_it (fun st => nX7_send_l49 p1 p2 p3 st.1 st.2 L) n1 (x4_49, S_49) = some (r9, S9) → lv_has ls 5 [(0, .ref (a 0)), (1, .int p1), (2, .int p2), (3, .int p3), (4, .int x4_49)] → va_P D vwCl (wX7 cs a S_49 L) H → va_S A s.heap H locs → W p l e (headSpec wsX7_send ({ frames := 5, cells := 0, slots := 0, locals := 131 })).room s m ([.ref (a 0), .int p1, .int p2, .int p3] : List Value).toArray below meth c H locs 0 0 Q (F0 m 49 ls []) := by
    intro n1
    induction n1 with
    | zero => intro x4_49 S_49 H locs ls hd; exact dn_it0 hd
    | succ n1 ih1 =>
      intro x4_49 S_49 H locs ls hd hl hP hS
      have hD := hDA S_49 L
      obtain ⟨y1, hd, hy1⟩ := dn_it hd
      have hd : nX7_send_l49 p1 p2 p3 x4_49 S_49 L = some y1 := hd
      unfold nX7_send_l49 at hd
      refine lv_iload hx hb dX7_send_49 (lv_at hl 4 rfl) ?_
      refine lv_bipush (v := (30 : Int32)) hx hb dX7_send_51 (by decide) ?_
      refine lv_icmp_gt (tgt := 104) hx hb dX7_send_53 (by decide) (fun c53 => ?_) (fun c53 => ?_)
      · have hd := dn_t c53 hd
        have hd := dn_up hd hy1
        refine lv_iconst (v := (-1 : Int32)) hx hb dX7_send_104 (by decide) ?_
        obtain ⟨e1, e2⟩ := dn_s2 hd
        exact k_iret hx hb hr hQ hAe e1 (by rw [e2]) hP hS hlocks dX7_send_105
      · have hd := dn_f c53 hd
        refine lv_aload_n hx hb dX7_send_56 rfl (lv_at hl 0 rfl) ?_
        refine va_get (D := D) (ci := 5) (v := .ref (a 7)) (C := RX7) (T := TX7) (N := 25) hx hb hts (fun w h => List.mem_cons_of_mem _ (List.mem_append_right _ h)) hown hK hP 0 rfl rfl 8 (by decide) (hts (.fieldLink RX7 33 "LeastNeedModel" "losses" "[I") (List.mem_of_getElem? (i := 2) rfl)) (fun _ h9 => h9) rfl dX7_send_57 ?_
        refine lv_iload_n hx hb dX7_send_60 rfl (lv_at hl 2 rfl) ?_
        obtain ⟨hi61, hd⟩ := dn_i hd
        refine k_iald (D := D) (k := p2.toNatClampNeg) (by rfl) hx hb hK hP 7 1 rfl rfl hi61 dX7_send_61 ?_
        refine lv_ldc (v := (1000000 : Int32)) hx hb hown (hts (.constant RX7 134 (1000000)) (List.mem_of_getElem? (i := 3) rfl)) dX7_send_62 ?_
        refine lv_icmp_ge (tgt := 83) hx hb dX7_send_64 (by decide) (fun c64 => ?_) (fun c64 => ?_)
        · have hd := dn_t c64 hd
          refine lv_aload_n hx hb dX7_send_83 rfl (lv_at hl 0 rfl) ?_
          refine lv_iload_n hx hb dX7_send_84 rfl (lv_at hl 1 rfl) ?_
          refine lv_aload_n hx hb dX7_send_85 rfl (lv_at hl 0 rfl) ?_
          refine va_get (D := D) (ci := 5) (v := .ref (a 1)) (C := RX7) (T := TX7) (N := 25) hx hb hts (fun w h => List.mem_cons_of_mem _ (List.mem_append_right _ h)) hown hK hP 0 rfl rfl 0 (by decide) (hts (.fieldLink RX7 7 "LeastNeedModel" "told" "[I") (List.mem_of_getElem? (i := 1) rfl)) (fun _ h9 => h9) rfl dX7_send_86 ?_
          refine lv_bipush (v := (22 : Int32)) hx hb dX7_send_89 (by decide) ?_
          refine k_iald (D := D) (k := 22) (by rfl) hx hb hK hP 1 1 rfl rfl (k_in (by decide)) dX7_send_91 ?_
          refine lv_iload hx hb dX7_send_92 (lv_at hl 4 rfl) ?_
          refine lv_iadd hx hb dX7_send_94 ?_
          obtain ⟨S95, hq95, hd⟩ := dn_b1 hd
          have hF := k_self hD hS hA
          refine k_run_v (va_runV (As := [.int p1, .int ((S_49 1 22) + x4_49)]) (rest := []) ⟨hx, hb, hml, hown, hts⟩ (mX7_goSending l D cs a S_49 L p1 ((S_49 1 22) + x4_49) S95 hq95 _) (cwV 2 hts gX7_send_X7_goSending rfl rfl rfl (by decide +kernel) ⟨Nat.le_of_ble_eq_true rfl, Nat.le_of_ble_eq_true rfl⟩) ⟨k_blind, va_recv hK hP (ci := 5) (q0 := 0) rfl rfl, k_pre hP hK hNn hD⟩ rfl rfl hl.1 rfl (lv_room (Nat.le_of_ble_eq_true rfl)) dX7_send_95 ⟨Nat.le_of_ble_eq_true rfl, Nat.le_of_ble_eq_true rfl⟩) hS hF (fun H locs hP1 hk hS => ?_)
          have hP : va_P D vwCl (wX7 cs a S95 L) _ := hP1
          have hD := hDA S95 L
          refine lv_iinc (v := x4_49 + (1 : Int32)) (lv' := [(4, .int (x4_49 + (1 : Int32))), (0, .ref (a 0)), (1, .int p1), (2, .int p2), (3, .int p3)]) hx hb dX7_send_98 hl (k := 4) rfl rfl (by decide) rfl (fun ls hl => ?_)
          refine lv_goto (tgt := 49) hx hb dX7_send_101 (by decide) ?_
          exact ih1 (x4_49 + (1 : Int32)) S95 _ _ _ (dn_bk hd hy1) (lv_sub hl [1, 2, 3, 4, 0] rfl) hP hS
        · have hd := dn_f c64 hd
          have hd := dn_up hd hy1
          refine lv_iload_n hx hb dX7_send_67 rfl (lv_at hl 3 rfl) ?_
          refine lv_if_ne (tgt := 76) hx hb dX7_send_68 (by decide) (fun c68 => ?_) (fun c68 => ?_)
          · have hd := dn_f c68 hd
            refine lv_aload_n hx hb dX7_send_76 rfl (lv_at hl 0 rfl) ?_
            refine va_get (D := D) (ci := 5) (v := .ref (a 7)) (C := RX7) (T := TX7) (N := 25) hx hb hts (fun w h => List.mem_cons_of_mem _ (List.mem_append_right _ h)) hown hK hP 0 rfl rfl 8 (by decide) (hts (.fieldLink RX7 33 "LeastNeedModel" "losses" "[I") (List.mem_of_getElem? (i := 2) rfl)) (fun _ h9 => h9) rfl dX7_send_77 ?_
            refine lv_iload_n hx hb dX7_send_80 rfl (lv_at hl 2 rfl) ?_
            obtain ⟨hi81, hd⟩ := dn_i hd
            refine k_iald (D := D) (k := p2.toNatClampNeg) (by rfl) hx hb hK hP 7 1 rfl rfl hi81 dX7_send_81 ?_
            obtain ⟨e1, e2⟩ := dn_s2 hd
            exact k_iret hx hb hr hQ hAe e1 (by rw [e2]) hP hS hlocks dX7_send_82
          · have hd := dn_t c68 hd
            refine lv_iload hx hb dX7_send_71 (lv_at hl 4 rfl) ?_
            refine lv_goto (tgt := 82) hx hb dX7_send_73 (by decide) ?_
            obtain ⟨e1, e2⟩ := dn_s2 hd
            exact k_iret hx hb hr hQ hAe e1 (by rw [e2]) hP hS hlocks dX7_send_82
  have Jo26 : ∀ (S_26 : Nat → Nat → Int32) (H : Heap) (locs : List Loc) (ls : Array Slot), nX7_send_j26 S_26 L = some (r9, S9) → lv_has ls 5 [(0, .ref (a 0))] → va_P D vwCl (wX7 cs a S_26 L) H → va_S A s.heap H locs → W p l e (headSpec wsX7_send ({ frames := 5, cells := 0, slots := 0, locals := 131 })).room s m ([.ref (a 0), .int p1, .int p2, .int p3] : List Value).toArray below meth c H locs 0 0 Q (F0 m 26 ls []) := by
    intro S_26 H locs ls hd hl hP hS
    have hD := hDA S_26 L
    unfold nX7_send_j26 at hd
    refine lv_aload_n hx hb dX7_send_26 rfl (lv_at hl 0 rfl) ?_
    refine lv_bipush (v := (-2 : Int32)) hx hb dX7_send_27 (by decide) ?_
    obtain ⟨r29, S29, hq29, hd⟩ := dn_b2 hd
    have hF := k_self hD hS hA
    refine k_run_i (va_runV (As := [.int (-2 : Int32)]) (rest := []) ⟨hx, hb, hml, hown, hts⟩ (mX7_bad l D cs a S_26 L (-2 : Int32) r29 S29 hq29 _) (cwV 1 hts gX7_send_X7_bad rfl rfl rfl (by decide +kernel) ⟨Nat.le_of_ble_eq_true rfl, Nat.le_of_ble_eq_true rfl⟩) ⟨k_blind, va_recv hK hP (ci := 5) (q0 := 0) rfl rfl, k_pre hP hK hNn hD⟩ rfl rfl hl.1 rfl (lv_room (Nat.le_of_ble_eq_true rfl)) dX7_send_29 ⟨Nat.le_of_ble_eq_true rfl, Nat.le_of_ble_eq_true rfl⟩) hS hF (fun H locs hP1 hk hS => ?_)
    have hP : va_P D vwCl (wX7 cs a S29 L) _ := hP1
    have hD := hDA S29 L
    obtain ⟨e1, e2⟩ := dn_s2 hd
    exact k_iret hx hb hr hQ hAe e1 (by rw [e2]) hP hS hlocks dX7_send_32
  unfold nX7_send at hd
  refine lv_aload_n hx hb dX7_send_0 rfl (lv_at hl 0 rfl) ?_
  refine lv_iload_n hx hb dX7_send_1 rfl (lv_at hl 1 rfl) ?_
  obtain ⟨r2, hq2, hd⟩ := dn_b1 hd
  have hF := k_self hD hS hA
  refine k_run_i (va_runV (As := [.int p1]) (rest := []) ⟨hx, hb, hml, hown, hts⟩ (mX7_isThing l D cs a S L p1 r2 hq2 _) (cwV 1 hts gX7_send_X7_isThing rfl rfl rfl (by decide +kernel) ⟨Nat.le_of_ble_eq_true rfl, Nat.le_of_ble_eq_true rfl⟩) ⟨k_blind, va_recv hK hP (ci := 5) (q0 := 0) rfl rfl, k_pre hP hK hNn hD⟩ rfl rfl hl.1 rfl (lv_room (Nat.le_of_ble_eq_true rfl)) dX7_send_2 ⟨Nat.le_of_ble_eq_true rfl, Nat.le_of_ble_eq_true rfl⟩) hS hF (fun H locs hP1 hk hS => ?_)
  have hP : va_P D vwCl (wX7 cs a S L) _ := hP1
  have hD := hDA S L
  refine lv_if_eq (tgt := 26) hx hb dX7_send_5 (by decide) (fun c5 => ?_) (fun c5 => ?_)
  · have hd := dn_t c5 hd
    exact Jo26 S _ _ _ hd (lv_sub hl [0] rfl) hP hS
  · have hd := dn_f c5 hd
    refine lv_aload_n hx hb dX7_send_8 rfl (lv_at hl 0 rfl) ?_
    refine lv_iload_n hx hb dX7_send_9 rfl (lv_at hl 2 rfl) ?_
    obtain ⟨r10, hq10, hd⟩ := dn_b1 hd
    have hF := k_self hD hS hA
    refine k_run_i (va_runV (As := [.int p2]) (rest := []) ⟨hx, hb, hml, hown, hts⟩ (mX7_isOne l D cs a S L p2 r10 hq10 _) (cwV 1 hts gX7_send_X7_isOne rfl rfl rfl (by decide +kernel) ⟨Nat.le_of_ble_eq_true rfl, Nat.le_of_ble_eq_true rfl⟩) ⟨k_blind, va_recv hK hP (ci := 5) (q0 := 0) rfl rfl, k_pre hP hK hNn hD⟩ rfl rfl hl.1 rfl (lv_room (Nat.le_of_ble_eq_true rfl)) dX7_send_10 ⟨Nat.le_of_ble_eq_true rfl, Nat.le_of_ble_eq_true rfl⟩) hS hF (fun H locs hP1 hk hS => ?_)
    have hP : va_P D vwCl (wX7 cs a S L) _ := hP1
    have hD := hDA S L
    refine lv_if_eq (tgt := 26) hx hb dX7_send_13 (by decide) (fun c13 => ?_) (fun c13 => ?_)
    · have hd := dn_t c13 hd
      exact Jo26 S _ _ _ hd (lv_sub hl [0] rfl) hP hS
    · have hd := dn_f c13 hd
      refine lv_iload_n hx hb dX7_send_16 rfl (lv_at hl 3 rfl) ?_
      refine lv_i2l hx hb dX7_send_17 rfl ?_
      refine lv_lconst (v := (0 : Int64)) hx hb dX7_send_18 (by decide) ?_
      refine lv_lconst (v := (1 : Int64)) hx hb dX7_send_19 (by decide) ?_
      obtain ⟨r20, hq20, hd⟩ := dn_b1 hd
      have hPc := k_P0 hP
      have hDc : va_D A ([] : va_W) := k_D0
      have hF := k_self hDc hS hA
      refine k_run_i (va_runS (As := [.long p3.toInt64, .long (0 : Int64), .long (1 : Int64)]) (rest := []) ⟨hx, hb, hml, hown, hts⟩ (mX7_in l D cs  p3.toInt64 (0 : Int64) (1 : Int64) r20 hq20 _) (va_cwS 3 hts gX7_send_X7_in rfl rfl rfl (by decide +kernel) ⟨Nat.le_of_ble_eq_true rfl, Nat.le_of_ble_eq_true rfl⟩) ⟨k_blind, k_pre hPc hK hNn hDc⟩ rfl rfl hl.1 rfl (lv_room (Nat.le_of_ble_eq_true rfl)) dX7_send_20 ⟨Nat.le_of_ble_eq_true rfl, Nat.le_of_ble_eq_true rfl⟩) hS hF (fun H locs hP1 hk hS => ?_)
      have hP : va_P D vwCl (wX7 cs a S L) _ := k_keep hP hk
      refine lv_if_ne (tgt := 33) hx hb dX7_send_23 (by decide) (fun c23 => ?_) (fun c23 => ?_)
      · have hd := dn_f c23 hd
        refine lv_aload_n hx hb dX7_send_33 rfl (lv_at hl 0 rfl) ?_
        refine lv_aload_n hx hb dX7_send_34 rfl (lv_at hl 0 rfl) ?_
        refine va_get (D := D) (ci := 5) (v := .ref (a 1)) (C := RX7) (T := TX7) (N := 25) hx hb hts (fun w h => List.mem_cons_of_mem _ (List.mem_append_right _ h)) hown hK hP 0 rfl rfl 0 (by decide) (hts (.fieldLink RX7 7 "LeastNeedModel" "told" "[I") (List.mem_of_getElem? (i := 1) rfl)) (fun _ h9 => h9) rfl dX7_send_35 ?_
        obtain ⟨S38, hq38, hd⟩ := dn_b1 hd
        have hF := k_self hD hS hA
        refine k_run_v (va_runV (As := [.ref (a 1)]) (rest := []) ⟨hx, hb, hml, hown, hts⟩ (mX7_layCoats_1 l D cs a S L S38 hq38 _) (cwV 1 hts gX7_send_X7_layCoats rfl rfl rfl (by decide +kernel) ⟨Nat.le_of_ble_eq_true rfl, Nat.le_of_ble_eq_true rfl⟩) ⟨k_blind, va_recv hK hP (ci := 5) (q0 := 0) rfl rfl, k_pre hP hK hNn hD⟩ rfl rfl hl.1 rfl (lv_room (Nat.le_of_ble_eq_true rfl)) dX7_send_38 ⟨Nat.le_of_ble_eq_true rfl, Nat.le_of_ble_eq_true rfl⟩) hS hF (fun H locs hP1 hk hS => ?_)
        have hP : va_P D vwCl (wX7 cs a S38 L) _ := hP1
        have hD := hDA S38 L
        refine lv_aload_n hx hb dX7_send_41 rfl (lv_at hl 0 rfl) ?_
        refine lv_iload_n hx hb dX7_send_42 rfl (lv_at hl 1 rfl) ?_
        obtain ⟨S43, hq43, hd⟩ := dn_b1 hd
        have hF := k_self hD hS hA
        refine k_run_v (va_runV (As := [.int p1]) (rest := []) ⟨hx, hb, hml, hown, hts⟩ (mX7_layStart l D cs a S38 L p1 S43 hq43 _) (cwV 1 hts gX7_send_X7_layStart rfl rfl rfl (by decide +kernel) ⟨Nat.le_of_ble_eq_true rfl, Nat.le_of_ble_eq_true rfl⟩) ⟨k_blind, va_recv hK hP (ci := 5) (q0 := 0) rfl rfl, k_pre hP hK hNn hD⟩ rfl rfl hl.1 rfl (lv_room (Nat.le_of_ble_eq_true rfl)) dX7_send_43 ⟨Nat.le_of_ble_eq_true rfl, Nat.le_of_ble_eq_true rfl⟩) hS hF (fun H locs hP1 hk hS => ?_)
        have hP : va_P D vwCl (wX7 cs a S43 L) _ := hP1
        have hD := hDA S43 L
        refine lv_iconst (v := (0 : Int32)) hx hb dX7_send_46 (by decide) ?_
        refine lv_istore (lv' := [(4, .int (0 : Int32)), (0, .ref (a 0)), (1, .int p1), (2, .int p2), (3, .int p3)]) hx hb dX7_send_47 hl (by decide) rfl (fun ls hl => ?_)
        exact Lo49 1000 (0 : Int32) S43 _ _ _ hd (lv_sub hl [1, 2, 3, 4, 0] rfl) hP hS
      · have hd := dn_t c23 hd
        exact Jo26 S _ _ _ hd (lv_sub hl [0] rfl) hP hS
-- LeastNeedModel.wears(III)I
set_option maxRecDepth 20000 in
def nX7_wears_i58_j109 (p1 : Int32) (p2 : Int32) (p3 : Int32) (x4_109 : Int32) (w0_109 : Int32) (w1_109 : Int32) (S_109 : Nat → Nat → Int32) (L : Nat → Nat → Int64) : Option ((Int32 × (Nat → Nat → Int32)) ⊕ (Int32 × (Nat → Nat → Int32))) := if w1_109 = w0_109 then k_up (some (x4_109, S_109)) else some (.inl ((x4_109 + (1 : Int32)), S_109))
set_option maxRecDepth 20000 in
def nX7_wears_i58_j95 (p1 : Int32) (p2 : Int32) (p3 : Int32) (x4_95 : Int32) (w0_95 : Int32) (S_95 : Nat → Nat → Int32) (L : Nat → Nat → Int64) : Option ((Int32 × (Nat → Nat → Int32)) ⊕ (Int32 × (Nat → Nat → Int32))) := if p3 = (1 : Int32) then nX7_wears_i58_j109 p1 p2 p3 x4_95 (1 : Int32) w0_95 S_95 L else nX7_wears_i58_j109 p1 p2 p3 x4_95 (0 : Int32) w0_95 S_95 L
set_option maxRecDepth 20000 in
def nX7_wears_l58 (p1 : Int32) (p2 : Int32) (p3 : Int32) (x4_58 : Int32) (S_58 : Nat → Nat → Int32) (L : Nat → Nat → Int64) : Option ((Int32 × (Nat → Nat → Int32)) ⊕ (Int32 × (Nat → Nat → Int32))) := if (10 : Int32) ≤ x4_58 then k_up (some ((-1 : Int32), S_58)) else if p1 < 0 ∨ 7 ≤ p1.toNatClampNeg then none else if ((5 : Int32) + p2) < 0 ∨ 284 ≤ ((5 : Int32) + p2).toNatClampNeg then none else k_b1 (nX7_comesNow (k_w S_58 5 p1.toNatClampNeg x4_58) L p2 ((k_w S_58 5 p1.toNatClampNeg x4_58) 1 ((5 : Int32) + p2).toNatClampNeg)) (fun r83 => if r83 = p1 then nX7_wears_i58_j95 p1 p2 p3 x4_58 (1 : Int32) (k_w S_58 5 p1.toNatClampNeg x4_58) L else nX7_wears_i58_j95 p1 p2 p3 x4_58 (0 : Int32) (k_w S_58 5 p1.toNatClampNeg x4_58) L)
set_option maxRecDepth 20000 in
def nX7_wears_j26 (S_26 : Nat → Nat → Int32) (L : Nat → Nat → Int64) : Option (Int32 × (Nat → Nat → Int32)) := k_b2 (nX7_bad S_26 L (-2 : Int32)) (fun r29 S29 => some (r29, S29))
set_option maxRecDepth 20000 in
def nX7_wears (S : Nat → Nat → Int32) (L : Nat → Nat → Int64) (p1 : Int32) (p2 : Int32) (p3 : Int32) : Option (Int32 × (Nat → Nat → Int32)) := k_b1 (nX7_isOne S L p1) (fun r2 => if r2 = 0 then nX7_wears_j26 S L else k_b1 (nX7_isThing S L p2) (fun r10 => if r10 = 0 then nX7_wears_j26 S L else k_b1 (nX7_in p3.toInt64 (0 : Int64) (1 : Int64)) (fun r20 => if r20 = 0 then nX7_wears_j26 S L else if ((5 : Int32) + p2) < 0 ∨ 284 ≤ ((5 : Int32) + p2).toNatClampNeg then none else if p1 = (S 1 ((5 : Int32) + p2).toNatClampNeg) then some ((-1 : Int32), S) else k_b1 (nX7_layCoats_1 S L) (fun S52 => k_it (fun st => nX7_wears_l58 p1 p2 p3 st.1 st.2 L) 1000 ((0 : Int32), S52)))))
set_option maxHeartbeats 4000000 in
set_option maxRecDepth 100000 in
theorem mX7_wears (l : Launch) (D : va_G) (cs : Nat → ClassId) (a : Nat → Nat) (S : Nat → Nat → Int32) (L : Nat → Nat → Int64) (p1 : Int32) (p2 : Int32) (p3 : Int32) (r9 : Int32) (S9 : (Nat → Nat → Int32)) (hd : nX7_wears S L p1 p2 p3 = some (r9, S9)) : ∀ sz : Nat, Met l yX7_wears wsX7_wears ({ frames := 5, cells := 0, slots := 0, locals := 128 }) (k_Pc D cs [.ref (a 0), .int p1, .int p2, .int p3] (wX7 cs a S L) sz) (k_Qi D r9 (wX7 cs a S L) (wX7 cs a S9 L) sz) 0 0 (va_A (wX7 cs a S L) sz) := by
  intro sz
  refine Met.ofW (cc := cX7_wears) (maxL := 6) (ret := (some .int)) (by decide) rfl ?_
  intro p e s m args below meth c s₁ B hml hv
  obtain ⟨rfl, hsz, hP, hK, hD0, hNn⟩ := hv
  have hx := B.exec
  have hb := B.bytes
  have hr := B.returns
  have hts := atoms_spec (ws := wsX7_wears) B.pre
  have hown : s.vm.findClass RX7 = some m.cls := findClass_of_methodNamed B.named
  have hlocks := B.notSynchronized
  subst hsz
  obtain ⟨A, hAe⟩ : ∃ A : Nat → Prop, A = va_A (wX7 cs a S L) s.heap.size := ⟨_, rfl⟩
  have hD : va_D A (wX7 cs a S L) := by rw [hAe]; exact hD0.self
  have hA : ∀ q : Nat, s.heap.size ≤ q → A q := fun q h => by rw [hAe]; exact Or.inr h
  have hS : va_S A s.heap s.heap [] := va_S.rf
  have hDA : ∀ (S : Nat → Nat → Int32) (L : Nat → Nat → Int64), va_D A (wX7 cs a S L) := fun S L => k_DA hD rfl
  have hl := lv_entry ([.ref (a 0), .int p1, .int p2, .int p3]) (n := 6) (Nat.le_of_ble_eq_true rfl)
  rw [lg_entry_eq]
  generalize (lg_sl ([.ref (a 0), .int p1, .int p2, .int p3]) ++ List.replicate (6 - (lg_sl ([.ref (a 0), .int p1, .int p2, .int p3])).length) Slot.unset).toArray = ls at hl ⊢
  have hl : lv_has ls 6 [(0, .ref (a 0)), (1, .int p1), (2, .int p2), (3, .int p3)] := hl
  obtain ⟨Q, hQ⟩ : ∃ Q, Q = MQ below (k_Qi D r9 (wX7 cs a S L) (wX7 cs a S9 L) s.heap.size) ([.ref (a 0), .int p1, .int p2, .int p3] : List Value).toArray s 0 0 (va_A (wX7 cs a S L) s.heap.size) := ⟨_, rfl⟩
  rw [← hQ]
  have Lo58 : ∀ (n1 : Nat) (x4_58 : Int32) (S_58 : Nat → Nat → Int32) (H : Heap) (locs : List Loc) (ls : Array Slot), k_it (fun st => nX7_wears_l58 p1 p2 p3 st.1 st.2 L) n1 (x4_58, S_58) = some (r9, S9) → lv_has ls 6 [(0, .ref (a 0)), (1, .int p1), (2, .int p2), (3, .int p3), (4, .int x4_58)] → va_P D vwCl (wX7 cs a S_58 L) H → va_S A s.heap H locs → W p l e (headSpec wsX7_wears ({ frames := 5, cells := 0, slots := 0, locals := 128 })).room s m ([.ref (a 0), .int p1, .int p2, .int p3] : List Value).toArray below meth c H locs 0 0 Q (F0 m 58 ls []) := by
    intro n1
    induction n1 with
    | zero => intro x4_58 S_58 H locs ls hd; exact dn_it0 hd
    | succ n1 ih1 =>
      intro x4_58 S_58 H locs ls hd hl hP hS
      have hD := hDA S_58 L
      obtain ⟨y1, hd, hy1⟩ := dn_it hd
      have hd : nX7_wears_l58 p1 p2 p3 x4_58 S_58 L = some y1 := hd
      have Jo109 : ∀ (x4_109 : Int32) (w0_109 : Int32) (w1_109 : Int32) (S_109 : Nat → Nat → Int32) (H : Heap) (locs : List Loc) (ls : Array Slot), nX7_wears_i58_j109 p1 p2 p3 x4_109 w0_109 w1_109 S_109 L = some y1 → lv_has ls 6 [(0, .ref (a 0)), (1, .int p1), (2, .int p2), (3, .int p3), (4, .int x4_109)] → va_P D vwCl (wX7 cs a S_109 L) H → va_S A s.heap H locs → W p l e (headSpec wsX7_wears ({ frames := 5, cells := 0, slots := 0, locals := 128 })).room s m ([.ref (a 0), .int p1, .int p2, .int p3] : List Value).toArray below meth c H locs 0 0 Q (F0 m 109 ls [.int w0_109, .int w1_109]) := by
        intro x4_109 w0_109 w1_109 S_109 H locs ls hd hl hP hS
        have hD := hDA S_109 L
        unfold nX7_wears_i58_j109 at hd
        refine lv_icmp_ne (tgt := 115) hx hb dX7_wears_109 (by decide) (fun c109 => ?_) (fun c109 => ?_)
        · have hd := dn_f c109 hd
          refine lv_iinc (v := x4_109 + (1 : Int32)) (lv' := [(4, .int (x4_109 + (1 : Int32))), (0, .ref (a 0)), (1, .int p1), (2, .int p2), (3, .int p3)]) hx hb dX7_wears_115 hl (k := 4) rfl rfl (by decide) rfl (fun ls hl => ?_)
          refine lv_goto (tgt := 58) hx hb dX7_wears_118 (by decide) ?_
          exact ih1 (x4_109 + (1 : Int32)) S_109 _ _ _ (dn_bk hd hy1) (lv_sub hl [1, 2, 3, 4, 0] rfl) hP hS
        · have hd := dn_t c109 hd
          have hd := dn_up hd hy1
          refine lv_iload hx hb dX7_wears_112 (lv_at hl 4 rfl) ?_
          obtain ⟨e1, e2⟩ := dn_s2 hd
          exact k_iret hx hb hr hQ hAe e1 (by rw [e2]) hP hS hlocks dX7_wears_114
      have Jo95 : ∀ (x4_95 : Int32) (w0_95 : Int32) (S_95 : Nat → Nat → Int32) (H : Heap) (locs : List Loc) (ls : Array Slot), nX7_wears_i58_j95 p1 p2 p3 x4_95 w0_95 S_95 L = some y1 → lv_has ls 6 [(0, .ref (a 0)), (1, .int p1), (2, .int p2), (3, .int p3), (4, .int x4_95)] → va_P D vwCl (wX7 cs a S_95 L) H → va_S A s.heap H locs → W p l e (headSpec wsX7_wears ({ frames := 5, cells := 0, slots := 0, locals := 128 })).room s m ([.ref (a 0), .int p1, .int p2, .int p3] : List Value).toArray below meth c H locs 0 0 Q (F0 m 95 ls [.int w0_95]) := by
        intro x4_95 w0_95 S_95 H locs ls hd hl hP hS
        have hD := hDA S_95 L
        unfold nX7_wears_i58_j95 at hd
        refine lv_istore (lv' := [(5, .int w0_95), (0, .ref (a 0)), (1, .int p1), (2, .int p2), (3, .int p3), (4, .int x4_95)]) hx hb dX7_wears_95 hl (by decide) rfl (fun ls hl => ?_)
        refine lv_iload hx hb dX7_wears_97 (lv_at hl 0 rfl) ?_
        refine lv_iload_n hx hb dX7_wears_99 rfl (lv_at hl 4 rfl) ?_
        refine lv_iconst (v := (1 : Int32)) hx hb dX7_wears_100 (by decide) ?_
        refine lv_icmp_ne (tgt := 108) hx hb dX7_wears_101 (by decide) (fun c101 => ?_) (fun c101 => ?_)
        · have hd := dn_f c101 hd
          refine lv_iconst (v := (0 : Int32)) hx hb dX7_wears_108 (by decide) ?_
          exact Jo109 x4_95 (0 : Int32) w0_95 S_95 _ _ _ hd (lv_sub hl [1, 2, 3, 4, 5] rfl) hP hS
        · have hd := dn_t c101 hd
          refine lv_iconst (v := (1 : Int32)) hx hb dX7_wears_104 (by decide) ?_
          refine lv_goto (tgt := 109) hx hb dX7_wears_105 (by decide) ?_
          exact Jo109 x4_95 (1 : Int32) w0_95 S_95 _ _ _ hd (lv_sub hl [1, 2, 3, 4, 5] rfl) hP hS
      unfold nX7_wears_l58 at hd
      refine lv_iload hx hb dX7_wears_58 (lv_at hl 4 rfl) ?_
      refine lv_bipush (v := (10 : Int32)) hx hb dX7_wears_60 (by decide) ?_
      refine lv_icmp_ge (tgt := 121) hx hb dX7_wears_62 (by decide) (fun c62 => ?_) (fun c62 => ?_)
      · have hd := dn_t c62 hd
        have hd := dn_up hd hy1
        refine lv_iconst (v := (-1 : Int32)) hx hb dX7_wears_121 (by decide) ?_
        obtain ⟨e1, e2⟩ := dn_s2 hd
        exact k_iret hx hb hr hQ hAe e1 (by rw [e2]) hP hS hlocks dX7_wears_122
      · have hd := dn_f c62 hd
        refine lv_aload_n hx hb dX7_wears_65 rfl (lv_at hl 0 rfl) ?_
        refine va_get (D := D) (ci := 5) (v := .ref (a 5)) (C := RX7) (T := TX7) (N := 25) hx hb hts (fun w h => List.mem_cons_of_mem _ (List.mem_append_right _ h)) hown hK hP 0 rfl rfl 6 (by decide) (hts (.fieldLink RX7 27 "LeastNeedModel" "coats0" "[I") (List.mem_of_getElem? (i := 2) rfl)) (fun _ h9 => h9) rfl dX7_wears_66 ?_
        refine lv_iload_n hx hb dX7_wears_69 rfl (lv_at hl 1 rfl) ?_
        refine lv_iload hx hb dX7_wears_70 (lv_at hl 4 rfl) ?_
        obtain ⟨hi72, hd⟩ := dn_i hd
        refine k_iast (D := D) (k := p1.toNatClampNeg) (by rfl) hx hb hK hP hD hS 5 1 rfl rfl hi72 dX7_wears_72 (fun H locs hP hD hS => ?_)
        have hP : va_P D vwCl (wX7 cs a (k_w S_58 5 p1.toNatClampNeg x4_58) L) _ := k_eq hP (wsX7_a5 cs a S_58 L p1.toNatClampNeg x4_58)
        have hD := hDA (k_w S_58 5 p1.toNatClampNeg x4_58) L
        refine lv_aload_n hx hb dX7_wears_73 rfl (lv_at hl 0 rfl) ?_
        refine lv_iload_n hx hb dX7_wears_74 rfl (lv_at hl 2 rfl) ?_
        refine lv_aload_n hx hb dX7_wears_75 rfl (lv_at hl 0 rfl) ?_
        refine va_get (D := D) (ci := 5) (v := .ref (a 1)) (C := RX7) (T := TX7) (N := 25) hx hb hts (fun w h => List.mem_cons_of_mem _ (List.mem_append_right _ h)) hown hK hP 0 rfl rfl 0 (by decide) (hts (.fieldLink RX7 7 "LeastNeedModel" "told" "[I") (List.mem_of_getElem? (i := 1) rfl)) (fun _ h9 => h9) rfl dX7_wears_76 ?_
        refine lv_iconst (v := (5 : Int32)) hx hb dX7_wears_79 (by decide) ?_
        refine lv_iload_n hx hb dX7_wears_80 rfl (lv_at hl 2 rfl) ?_
        refine lv_iadd hx hb dX7_wears_81 ?_
        obtain ⟨hi82, hd⟩ := dn_i hd
        refine k_iald (D := D) (k := ((5 : Int32) + p2).toNatClampNeg) (by rfl) hx hb hK hP 1 1 rfl rfl hi82 dX7_wears_82 ?_
        obtain ⟨r83, hq83, hd⟩ := dn_b1 hd
        have hF := k_self hD hS hA
        refine k_run_i (va_runV (As := [.int p2, .int ((k_w S_58 5 p1.toNatClampNeg x4_58) 1 ((5 : Int32) + p2).toNatClampNeg)]) (rest := []) ⟨hx, hb, hml, hown, hts⟩ (mX7_comesNow l D cs a (k_w S_58 5 p1.toNatClampNeg x4_58) L p2 ((k_w S_58 5 p1.toNatClampNeg x4_58) 1 ((5 : Int32) + p2).toNatClampNeg) r83 hq83 _) (cwV 2 hts gX7_wears_X7_comesNow rfl rfl rfl (by decide +kernel) ⟨Nat.le_of_ble_eq_true rfl, Nat.le_of_ble_eq_true rfl⟩) ⟨k_blind, va_recv hK hP (ci := 5) (q0 := 0) rfl rfl, k_pre hP hK hNn hD⟩ rfl rfl hl.1 rfl (lv_room (Nat.le_of_ble_eq_true rfl)) dX7_wears_83 ⟨Nat.le_of_ble_eq_true rfl, Nat.le_of_ble_eq_true rfl⟩) hS hF (fun H locs hP1 hk hS => ?_)
        have hP : va_P D vwCl (wX7 cs a (k_w S_58 5 p1.toNatClampNeg x4_58) L) _ := hP1
        have hD := hDA (k_w S_58 5 p1.toNatClampNeg x4_58) L
        refine lv_iload_n hx hb dX7_wears_86 rfl (lv_at hl 1 rfl) ?_
        refine lv_icmp_ne (tgt := 94) hx hb dX7_wears_87 (by decide) (fun c87 => ?_) (fun c87 => ?_)
        · have hd := dn_f c87 hd
          refine lv_iconst (v := (0 : Int32)) hx hb dX7_wears_94 (by decide) ?_
          exact Jo95 x4_58 (0 : Int32) (k_w S_58 5 p1.toNatClampNeg x4_58) _ _ _ hd (lv_sub hl [0, 1, 2, 3, 4] rfl) hP hS
        · have hd := dn_t c87 hd
          refine lv_iconst (v := (1 : Int32)) hx hb dX7_wears_90 (by decide) ?_
          refine lv_goto (tgt := 95) hx hb dX7_wears_91 (by decide) ?_
          exact Jo95 x4_58 (1 : Int32) (k_w S_58 5 p1.toNatClampNeg x4_58) _ _ _ hd (lv_sub hl [0, 1, 2, 3, 4] rfl) hP hS
  have Jo26 : ∀ (S_26 : Nat → Nat → Int32) (H : Heap) (locs : List Loc) (ls : Array Slot), nX7_wears_j26 S_26 L = some (r9, S9) → lv_has ls 6 [(0, .ref (a 0))] → va_P D vwCl (wX7 cs a S_26 L) H → va_S A s.heap H locs → W p l e (headSpec wsX7_wears ({ frames := 5, cells := 0, slots := 0, locals := 128 })).room s m ([.ref (a 0), .int p1, .int p2, .int p3] : List Value).toArray below meth c H locs 0 0 Q (F0 m 26 ls []) := by
    intro S_26 H locs ls hd hl hP hS
    have hD := hDA S_26 L
    unfold nX7_wears_j26 at hd
    refine lv_aload_n hx hb dX7_wears_26 rfl (lv_at hl 0 rfl) ?_
    refine lv_bipush (v := (-2 : Int32)) hx hb dX7_wears_27 (by decide) ?_
    obtain ⟨r29, S29, hq29, hd⟩ := dn_b2 hd
    have hF := k_self hD hS hA
    refine k_run_i (va_runV (As := [.int (-2 : Int32)]) (rest := []) ⟨hx, hb, hml, hown, hts⟩ (mX7_bad l D cs a S_26 L (-2 : Int32) r29 S29 hq29 _) (cwV 1 hts gX7_wears_X7_bad rfl rfl rfl (by decide +kernel) ⟨Nat.le_of_ble_eq_true rfl, Nat.le_of_ble_eq_true rfl⟩) ⟨k_blind, va_recv hK hP (ci := 5) (q0 := 0) rfl rfl, k_pre hP hK hNn hD⟩ rfl rfl hl.1 rfl (lv_room (Nat.le_of_ble_eq_true rfl)) dX7_wears_29 ⟨Nat.le_of_ble_eq_true rfl, Nat.le_of_ble_eq_true rfl⟩) hS hF (fun H locs hP1 hk hS => ?_)
    have hP : va_P D vwCl (wX7 cs a S29 L) _ := hP1
    have hD := hDA S29 L
    obtain ⟨e1, e2⟩ := dn_s2 hd
    exact k_iret hx hb hr hQ hAe e1 (by rw [e2]) hP hS hlocks dX7_wears_32
  unfold nX7_wears at hd
  refine lv_aload_n hx hb dX7_wears_0 rfl (lv_at hl 0 rfl) ?_
  refine lv_iload_n hx hb dX7_wears_1 rfl (lv_at hl 1 rfl) ?_
  obtain ⟨r2, hq2, hd⟩ := dn_b1 hd
  have hF := k_self hD hS hA
  refine k_run_i (va_runV (As := [.int p1]) (rest := []) ⟨hx, hb, hml, hown, hts⟩ (mX7_isOne l D cs a S L p1 r2 hq2 _) (cwV 1 hts gX7_wears_X7_isOne rfl rfl rfl (by decide +kernel) ⟨Nat.le_of_ble_eq_true rfl, Nat.le_of_ble_eq_true rfl⟩) ⟨k_blind, va_recv hK hP (ci := 5) (q0 := 0) rfl rfl, k_pre hP hK hNn hD⟩ rfl rfl hl.1 rfl (lv_room (Nat.le_of_ble_eq_true rfl)) dX7_wears_2 ⟨Nat.le_of_ble_eq_true rfl, Nat.le_of_ble_eq_true rfl⟩) hS hF (fun H locs hP1 hk hS => ?_)
  have hP : va_P D vwCl (wX7 cs a S L) _ := hP1
  have hD := hDA S L
  refine lv_if_eq (tgt := 26) hx hb dX7_wears_5 (by decide) (fun c5 => ?_) (fun c5 => ?_)
  · have hd := dn_t c5 hd
    exact Jo26 S _ _ _ hd (lv_sub hl [0] rfl) hP hS
  · have hd := dn_f c5 hd
    refine lv_aload_n hx hb dX7_wears_8 rfl (lv_at hl 0 rfl) ?_
    refine lv_iload_n hx hb dX7_wears_9 rfl (lv_at hl 2 rfl) ?_
    obtain ⟨r10, hq10, hd⟩ := dn_b1 hd
    have hF := k_self hD hS hA
    refine k_run_i (va_runV (As := [.int p2]) (rest := []) ⟨hx, hb, hml, hown, hts⟩ (mX7_isThing l D cs a S L p2 r10 hq10 _) (cwV 1 hts gX7_wears_X7_isThing rfl rfl rfl (by decide +kernel) ⟨Nat.le_of_ble_eq_true rfl, Nat.le_of_ble_eq_true rfl⟩) ⟨k_blind, va_recv hK hP (ci := 5) (q0 := 0) rfl rfl, k_pre hP hK hNn hD⟩ rfl rfl hl.1 rfl (lv_room (Nat.le_of_ble_eq_true rfl)) dX7_wears_10 ⟨Nat.le_of_ble_eq_true rfl, Nat.le_of_ble_eq_true rfl⟩) hS hF (fun H locs hP1 hk hS => ?_)
    have hP : va_P D vwCl (wX7 cs a S L) _ := hP1
    have hD := hDA S L
    refine lv_if_eq (tgt := 26) hx hb dX7_wears_13 (by decide) (fun c13 => ?_) (fun c13 => ?_)
    · have hd := dn_t c13 hd
      exact Jo26 S _ _ _ hd (lv_sub hl [0] rfl) hP hS
    · have hd := dn_f c13 hd
      refine lv_iload_n hx hb dX7_wears_16 rfl (lv_at hl 3 rfl) ?_
      refine lv_i2l hx hb dX7_wears_17 rfl ?_
      refine lv_lconst (v := (0 : Int64)) hx hb dX7_wears_18 (by decide) ?_
      refine lv_lconst (v := (1 : Int64)) hx hb dX7_wears_19 (by decide) ?_
      obtain ⟨r20, hq20, hd⟩ := dn_b1 hd
      have hPc := k_P0 hP
      have hDc : va_D A ([] : va_W) := k_D0
      have hF := k_self hDc hS hA
      refine k_run_i (va_runS (As := [.long p3.toInt64, .long (0 : Int64), .long (1 : Int64)]) (rest := []) ⟨hx, hb, hml, hown, hts⟩ (mX7_in l D cs  p3.toInt64 (0 : Int64) (1 : Int64) r20 hq20 _) (va_cwS 3 hts gX7_wears_X7_in rfl rfl rfl (by decide +kernel) ⟨Nat.le_of_ble_eq_true rfl, Nat.le_of_ble_eq_true rfl⟩) ⟨k_blind, k_pre hPc hK hNn hDc⟩ rfl rfl hl.1 rfl (lv_room (Nat.le_of_ble_eq_true rfl)) dX7_wears_20 ⟨Nat.le_of_ble_eq_true rfl, Nat.le_of_ble_eq_true rfl⟩) hS hF (fun H locs hP1 hk hS => ?_)
      have hP : va_P D vwCl (wX7 cs a S L) _ := k_keep hP hk
      refine lv_if_ne (tgt := 33) hx hb dX7_wears_23 (by decide) (fun c23 => ?_) (fun c23 => ?_)
      · have hd := dn_f c23 hd
        refine lv_iload_n hx hb dX7_wears_33 rfl (lv_at hl 1 rfl) ?_
        refine lv_aload_n hx hb dX7_wears_34 rfl (lv_at hl 0 rfl) ?_
        refine va_get (D := D) (ci := 5) (v := .ref (a 1)) (C := RX7) (T := TX7) (N := 25) hx hb hts (fun w h => List.mem_cons_of_mem _ (List.mem_append_right _ h)) hown hK hP 0 rfl rfl 0 (by decide) (hts (.fieldLink RX7 7 "LeastNeedModel" "told" "[I") (List.mem_of_getElem? (i := 1) rfl)) (fun _ h9 => h9) rfl dX7_wears_35 ?_
        refine lv_iconst (v := (5 : Int32)) hx hb dX7_wears_38 (by decide) ?_
        refine lv_iload_n hx hb dX7_wears_39 rfl (lv_at hl 2 rfl) ?_
        refine lv_iadd hx hb dX7_wears_40 ?_
        obtain ⟨hi41, hd⟩ := dn_i hd
        refine k_iald (D := D) (k := ((5 : Int32) + p2).toNatClampNeg) (by rfl) hx hb hK hP 1 1 rfl rfl hi41 dX7_wears_41 ?_
        refine lv_icmp_ne (tgt := 47) hx hb dX7_wears_42 (by decide) (fun c42 => ?_) (fun c42 => ?_)
        · have hd := dn_f c42 hd
          refine lv_aload_n hx hb dX7_wears_47 rfl (lv_at hl 0 rfl) ?_
          refine lv_aload_n hx hb dX7_wears_48 rfl (lv_at hl 0 rfl) ?_
          refine va_get (D := D) (ci := 5) (v := .ref (a 1)) (C := RX7) (T := TX7) (N := 25) hx hb hts (fun w h => List.mem_cons_of_mem _ (List.mem_append_right _ h)) hown hK hP 0 rfl rfl 0 (by decide) (hts (.fieldLink RX7 7 "LeastNeedModel" "told" "[I") (List.mem_of_getElem? (i := 1) rfl)) (fun _ h9 => h9) rfl dX7_wears_49 ?_
          obtain ⟨S52, hq52, hd⟩ := dn_b1 hd
          have hF := k_self hD hS hA
          refine k_run_v (va_runV (As := [.ref (a 1)]) (rest := []) ⟨hx, hb, hml, hown, hts⟩ (mX7_layCoats_1 l D cs a S L S52 hq52 _) (cwV 1 hts gX7_wears_X7_layCoats rfl rfl rfl (by decide +kernel) ⟨Nat.le_of_ble_eq_true rfl, Nat.le_of_ble_eq_true rfl⟩) ⟨k_blind, va_recv hK hP (ci := 5) (q0 := 0) rfl rfl, k_pre hP hK hNn hD⟩ rfl rfl hl.1 rfl (lv_room (Nat.le_of_ble_eq_true rfl)) dX7_wears_52 ⟨Nat.le_of_ble_eq_true rfl, Nat.le_of_ble_eq_true rfl⟩) hS hF (fun H locs hP1 hk hS => ?_)
          have hP : va_P D vwCl (wX7 cs a S52 L) _ := hP1
          have hD := hDA S52 L
          refine lv_iconst (v := (0 : Int32)) hx hb dX7_wears_55 (by decide) ?_
          refine lv_istore (lv' := [(4, .int (0 : Int32)), (0, .ref (a 0)), (1, .int p1), (2, .int p2), (3, .int p3)]) hx hb dX7_wears_56 hl (by decide) rfl (fun ls hl => ?_)
          exact Lo58 1000 (0 : Int32) S52 _ _ _ hd (lv_sub hl [1, 2, 3, 4, 0] rfl) hP hS
        · have hd := dn_t c42 hd
          refine lv_iconst (v := (-1 : Int32)) hx hb dX7_wears_45 (by decide) ?_
          obtain ⟨e1, e2⟩ := dn_s2 hd
          exact k_iret hx hb hr hQ hAe e1 (by rw [e2]) hP hS hlocks dX7_wears_46
      · have hd := dn_t c23 hd
        exact Jo26 S _ _ _ hd (lv_sub hl [0] rfl) hP hS
-- LeastNeedModel.layPrices()I
set_option maxRecDepth 20000 in
def nX7_layPrices_l12 (x1_12 : Int32) (x2_12 : Int32) (S_12 : Nat → Nat → Int32) (L : Nat → Nat → Int64) : Option ((Int32 × Int32 × (Nat → Nat → Int32)) ⊕ (Int32 × (Nat → Nat → Int32))) := k_b1 (nX7_manyThings S_12 L) (fun r14 => if r14 ≤ x2_12 then k_up (some (x1_12, S_12)) else if ((10 : Int32) + x2_12) < 0 ∨ 284 ≤ ((10 : Int32) + x2_12).toNatClampNeg then none else if (S_12 1 ((10 : Int32) + x2_12).toNatClampNeg) = 0 then if ((5 : Int32) + x2_12) < 0 ∨ 284 ≤ ((5 : Int32) + x2_12).toNatClampNeg then none else if ((75 : Int32) + x2_12) < 0 ∨ 284 ≤ ((75 : Int32) + x2_12).toNatClampNeg then none else if (S_12 1 ((5 : Int32) + x2_12).toNatClampNeg) = (S_12 1 ((75 : Int32) + x2_12).toNatClampNeg) then some (.inl (x1_12, (x2_12 + (1 : Int32)), S_12)) else k_b1 (nX7_asked S_12 L x2_12) (fun r59 => if x1_12 < 0 ∨ 5 ≤ x1_12.toNatClampNeg then none else some (.inl ((x1_12 + (1 : Int32)), (x2_12 + (1 : Int32)), (k_w S_12 9 x1_12.toNatClampNeg r59)))) else some (.inl (x1_12, (x2_12 + (1 : Int32)), S_12)))
set_option maxRecDepth 20000 in
def nX7_layPrices (S : Nat → Nat → Int32) (L : Nat → Nat → Int64) : Option (Int32 × (Nat → Nat → Int32)) := k_b1 (nX7_layCoats_1 S L) (fun S7 => k_it (fun st => nX7_layPrices_l12 st.1 st.2.1 st.2.2 L) 1000 ((0 : Int32), (0 : Int32), S7))
set_option maxHeartbeats 4000000 in
set_option maxRecDepth 100000 in
theorem mX7_layPrices (l : Launch) (D : va_G) (cs : Nat → ClassId) (a : Nat → Nat) (S : Nat → Nat → Int32) (L : Nat → Nat → Int64) (r9 : Int32) (S9 : (Nat → Nat → Int32)) (hd : nX7_layPrices S L = some (r9, S9)) : ∀ sz : Nat, Met l yX7_layPrices wsX7_layPrices ({ frames := 3, cells := 0, slots := 0, locals := 71 }) (k_Pc D cs [.ref (a 0)] (wX7 cs a S L) sz) (k_Qi D r9 (wX7 cs a S L) (wX7 cs a S9 L) sz) 0 0 (va_A (wX7 cs a S L) sz) := by
  intro sz
  refine Met.ofW (cc := cX7_layPrices) (maxL := 3) (ret := (some .int)) (by decide) rfl ?_
  intro p e s m args below meth c s₁ B hml hv
  obtain ⟨rfl, hsz, hP, hK, hD0, hNn⟩ := hv
  have hx := B.exec
  have hb := B.bytes
  have hr := B.returns
  have hts := atoms_spec (ws := wsX7_layPrices) B.pre
  have hown : s.vm.findClass RX7 = some m.cls := findClass_of_methodNamed B.named
  have hlocks := B.notSynchronized
  subst hsz
  obtain ⟨A, hAe⟩ : ∃ A : Nat → Prop, A = va_A (wX7 cs a S L) s.heap.size := ⟨_, rfl⟩
  have hD : va_D A (wX7 cs a S L) := by rw [hAe]; exact hD0.self
  have hA : ∀ q : Nat, s.heap.size ≤ q → A q := fun q h => by rw [hAe]; exact Or.inr h
  have hS : va_S A s.heap s.heap [] := va_S.rf
  have hDA : ∀ (S : Nat → Nat → Int32) (L : Nat → Nat → Int64), va_D A (wX7 cs a S L) := fun S L => k_DA hD rfl
  have hl := lv_entry ([.ref (a 0)]) (n := 3) (Nat.le_of_ble_eq_true rfl)
  rw [lg_entry_eq]
  generalize (lg_sl ([.ref (a 0)]) ++ List.replicate (3 - (lg_sl ([.ref (a 0)])).length) Slot.unset).toArray = ls at hl ⊢
  have hl : lv_has ls 3 [(0, .ref (a 0))] := hl
  obtain ⟨Q, hQ⟩ : ∃ Q, Q = MQ below (k_Qi D r9 (wX7 cs a S L) (wX7 cs a S9 L) s.heap.size) ([.ref (a 0)] : List Value).toArray s 0 0 (va_A (wX7 cs a S L) s.heap.size) := ⟨_, rfl⟩
  rw [← hQ]
  have Lo12 : ∀ (n1 : Nat) (x1_12 : Int32) (x2_12 : Int32) (S_12 : Nat → Nat → Int32) (H : Heap) (locs : List Loc) (ls : Array Slot), k_it (fun st => nX7_layPrices_l12 st.1 st.2.1 st.2.2 L) n1 (x1_12, x2_12, S_12) = some (r9, S9) → lv_has ls 3 [(0, .ref (a 0)), (1, .int x1_12), (2, .int x2_12)] → va_P D vwCl (wX7 cs a S_12 L) H → va_S A s.heap H locs → W p l e (headSpec wsX7_layPrices ({ frames := 3, cells := 0, slots := 0, locals := 71 })).room s m ([.ref (a 0)] : List Value).toArray below meth c H locs 0 0 Q (F0 m 12 ls []) := by
    intro n1
    induction n1 with
    | zero => intro x1_12 x2_12 S_12 H locs ls hd; exact dn_it0 hd
    | succ n1 ih1 =>
      intro x1_12 x2_12 S_12 H locs ls hd hl hP hS
      have hD := hDA S_12 L
      obtain ⟨y1, hd, hy1⟩ := dn_it hd
      have hd : nX7_layPrices_l12 x1_12 x2_12 S_12 L = some y1 := hd
      unfold nX7_layPrices_l12 at hd
      refine lv_iload_n hx hb dX7_layPrices_12 rfl (lv_at hl 2 rfl) ?_
      refine lv_aload_n hx hb dX7_layPrices_13 rfl (lv_at hl 0 rfl) ?_
      obtain ⟨r14, hq14, hd⟩ := dn_b1 hd
      have hF := k_self hD hS hA
      refine k_run_i (va_runV (As := []) (rest := [.int x2_12]) ⟨hx, hb, hml, hown, hts⟩ (mX7_manyThings l D cs a S_12 L r14 hq14 _) (cwV 0 hts gX7_layPrices_X7_manyThings rfl rfl rfl (by decide +kernel) ⟨Nat.le_of_ble_eq_true rfl, Nat.le_of_ble_eq_true rfl⟩) ⟨k_blind, va_recv hK hP (ci := 5) (q0 := 0) rfl rfl, k_pre hP hK hNn hD⟩ rfl rfl hl.1 rfl (lv_room (Nat.le_of_ble_eq_true rfl)) dX7_layPrices_14 ⟨Nat.le_of_ble_eq_true rfl, Nat.le_of_ble_eq_true rfl⟩) hS hF (fun H locs hP1 hk hS => ?_)
      have hP : va_P D vwCl (wX7 cs a S_12 L) _ := hP1
      have hD := hDA S_12 L
      refine lv_icmp_ge (tgt := 72) hx hb dX7_layPrices_17 (by decide) (fun c17 => ?_) (fun c17 => ?_)
      · have hd := dn_t c17 hd
        have hd := dn_up hd hy1
        refine lv_iload_n hx hb dX7_layPrices_72 rfl (lv_at hl 1 rfl) ?_
        obtain ⟨e1, e2⟩ := dn_s2 hd
        exact k_iret hx hb hr hQ hAe e1 (by rw [e2]) hP hS hlocks dX7_layPrices_73
      · have hd := dn_f c17 hd
        refine lv_aload_n hx hb dX7_layPrices_20 rfl (lv_at hl 0 rfl) ?_
        refine va_get (D := D) (ci := 5) (v := .ref (a 1)) (C := RX7) (T := TX7) (N := 25) hx hb hts (fun w h => List.mem_cons_of_mem _ (List.mem_append_right _ h)) hown hK hP 0 rfl rfl 0 (by decide) (hts (.fieldLink RX7 7 "LeastNeedModel" "told" "[I") (List.mem_of_getElem? (i := 1) rfl)) (fun _ h9 => h9) rfl dX7_layPrices_21 ?_
        refine lv_bipush (v := (10 : Int32)) hx hb dX7_layPrices_24 (by decide) ?_
        refine lv_iload_n hx hb dX7_layPrices_26 rfl (lv_at hl 2 rfl) ?_
        refine lv_iadd hx hb dX7_layPrices_27 ?_
        obtain ⟨hi28, hd⟩ := dn_i hd
        refine k_iald (D := D) (k := ((10 : Int32) + x2_12).toNatClampNeg) (by rfl) hx hb hK hP 1 1 rfl rfl hi28 dX7_layPrices_28 ?_
        refine lv_if_ne (tgt := 66) hx hb dX7_layPrices_29 (by decide) (fun c29 => ?_) (fun c29 => ?_)
        · have hd := dn_f c29 hd
          refine lv_iinc (v := x2_12 + (1 : Int32)) (lv' := [(2, .int (x2_12 + (1 : Int32))), (0, .ref (a 0)), (1, .int x1_12)]) hx hb dX7_layPrices_66 hl (k := 2) rfl rfl (by decide) rfl (fun ls hl => ?_)
          refine lv_goto (tgt := 12) hx hb dX7_layPrices_69 (by decide) ?_
          exact ih1 x1_12 (x2_12 + (1 : Int32)) S_12 _ _ _ (dn_bk hd hy1) (lv_sub hl [1, 2, 0] rfl) hP hS
        · have hd := dn_t c29 hd
          refine lv_aload_n hx hb dX7_layPrices_32 rfl (lv_at hl 0 rfl) ?_
          refine va_get (D := D) (ci := 5) (v := .ref (a 1)) (C := RX7) (T := TX7) (N := 25) hx hb hts (fun w h => List.mem_cons_of_mem _ (List.mem_append_right _ h)) hown hK hP 0 rfl rfl 0 (by decide) (hts (.fieldLink RX7 7 "LeastNeedModel" "told" "[I") (List.mem_of_getElem? (i := 1) rfl)) (fun _ h9 => h9) rfl dX7_layPrices_33 ?_
          refine lv_iconst (v := (5 : Int32)) hx hb dX7_layPrices_36 (by decide) ?_
          refine lv_iload_n hx hb dX7_layPrices_37 rfl (lv_at hl 2 rfl) ?_
          refine lv_iadd hx hb dX7_layPrices_38 ?_
          obtain ⟨hi39, hd⟩ := dn_i hd
          refine k_iald (D := D) (k := ((5 : Int32) + x2_12).toNatClampNeg) (by rfl) hx hb hK hP 1 1 rfl rfl hi39 dX7_layPrices_39 ?_
          refine lv_aload_n hx hb dX7_layPrices_40 rfl (lv_at hl 0 rfl) ?_
          refine va_get (D := D) (ci := 5) (v := .ref (a 1)) (C := RX7) (T := TX7) (N := 25) hx hb hts (fun w h => List.mem_cons_of_mem _ (List.mem_append_right _ h)) hown hK hP 0 rfl rfl 0 (by decide) (hts (.fieldLink RX7 7 "LeastNeedModel" "told" "[I") (List.mem_of_getElem? (i := 1) rfl)) (fun _ h9 => h9) rfl dX7_layPrices_41 ?_
          refine lv_bipush (v := (75 : Int32)) hx hb dX7_layPrices_44 (by decide) ?_
          refine lv_iload_n hx hb dX7_layPrices_46 rfl (lv_at hl 2 rfl) ?_
          refine lv_iadd hx hb dX7_layPrices_47 ?_
          obtain ⟨hi48, hd⟩ := dn_i hd
          refine k_iald (D := D) (k := ((75 : Int32) + x2_12).toNatClampNeg) (by rfl) hx hb hK hP 1 1 rfl rfl hi48 dX7_layPrices_48 ?_
          refine lv_icmp_eq (tgt := 66) hx hb dX7_layPrices_49 (by decide) (fun c49 => ?_) (fun c49 => ?_)
          · have hd := dn_t c49 hd
            refine lv_iinc (v := x2_12 + (1 : Int32)) (lv' := [(2, .int (x2_12 + (1 : Int32))), (0, .ref (a 0)), (1, .int x1_12)]) hx hb dX7_layPrices_66 hl (k := 2) rfl rfl (by decide) rfl (fun ls hl => ?_)
            refine lv_goto (tgt := 12) hx hb dX7_layPrices_69 (by decide) ?_
            exact ih1 x1_12 (x2_12 + (1 : Int32)) S_12 _ _ _ (dn_bk hd hy1) (lv_sub hl [1, 2, 0] rfl) hP hS
          · have hd := dn_f c49 hd
            refine lv_aload_n hx hb dX7_layPrices_52 rfl (lv_at hl 0 rfl) ?_
            refine va_get (D := D) (ci := 5) (v := .ref (a 9)) (C := RX7) (T := TX7) (N := 25) hx hb hts (fun w h => List.mem_cons_of_mem _ (List.mem_append_right _ h)) hown hK hP 0 rfl rfl 10 (by decide) (hts (.fieldLink RX7 39 "LeastNeedModel" "prices" "[I") (List.mem_of_getElem? (i := 2) rfl)) (fun _ h9 => h9) rfl dX7_layPrices_53 ?_
            refine lv_iload_n hx hb dX7_layPrices_56 rfl (lv_at hl 1 rfl) ?_
            refine lv_aload_n hx hb dX7_layPrices_57 rfl (lv_at hl 0 rfl) ?_
            refine lv_iload_n hx hb dX7_layPrices_58 rfl (lv_at hl 2 rfl) ?_
            obtain ⟨r59, hq59, hd⟩ := dn_b1 hd
            have hF := k_self hD hS hA
            refine k_run_i (va_runV (As := [.int x2_12]) (rest := [.int x1_12, .ref (a 9)]) ⟨hx, hb, hml, hown, hts⟩ (mX7_asked l D cs a S_12 L x2_12 r59 hq59 _) (cwV 1 hts gX7_layPrices_X7_asked rfl rfl rfl (by decide +kernel) ⟨Nat.le_of_ble_eq_true rfl, Nat.le_of_ble_eq_true rfl⟩) ⟨k_blind, va_recv hK hP (ci := 5) (q0 := 0) rfl rfl, k_pre hP hK hNn hD⟩ rfl rfl hl.1 rfl (lv_room (Nat.le_of_ble_eq_true rfl)) dX7_layPrices_59 ⟨Nat.le_of_ble_eq_true rfl, Nat.le_of_ble_eq_true rfl⟩) hS hF (fun H locs hP1 hk hS => ?_)
            have hP : va_P D vwCl (wX7 cs a S_12 L) _ := hP1
            have hD := hDA S_12 L
            obtain ⟨hi62, hd⟩ := dn_i hd
            refine k_iast (D := D) (k := x1_12.toNatClampNeg) (by rfl) hx hb hK hP hD hS 9 1 rfl rfl hi62 dX7_layPrices_62 (fun H locs hP hD hS => ?_)
            have hP : va_P D vwCl (wX7 cs a (k_w S_12 9 x1_12.toNatClampNeg r59) L) _ := k_eq hP (wsX7_a9 cs a S_12 L x1_12.toNatClampNeg r59)
            have hD := hDA (k_w S_12 9 x1_12.toNatClampNeg r59) L
            refine lv_iinc (v := x1_12 + (1 : Int32)) (lv' := [(1, .int (x1_12 + (1 : Int32))), (0, .ref (a 0)), (2, .int x2_12)]) hx hb dX7_layPrices_63 hl (k := 1) rfl rfl (by decide) rfl (fun ls hl => ?_)
            refine lv_iinc (v := x2_12 + (1 : Int32)) (lv' := [(2, .int (x2_12 + (1 : Int32))), (1, .int (x1_12 + (1 : Int32))), (0, .ref (a 0))]) hx hb dX7_layPrices_66 hl (k := 2) rfl rfl (by decide) rfl (fun ls hl => ?_)
            refine lv_goto (tgt := 12) hx hb dX7_layPrices_69 (by decide) ?_
            exact ih1 (x1_12 + (1 : Int32)) (x2_12 + (1 : Int32)) (k_w S_12 9 x1_12.toNatClampNeg r59) _ _ _ (dn_bk hd hy1) (lv_sub hl [2, 1, 0] rfl) hP hS
  unfold nX7_layPrices at hd
  refine lv_iconst (v := (0 : Int32)) hx hb dX7_layPrices_0 (by decide) ?_
  refine lv_istore_n (lv' := [(1, .int (0 : Int32)), (0, .ref (a 0))]) hx hb dX7_layPrices_1 rfl hl (by decide) rfl (fun ls hl => ?_)
  refine lv_aload_n hx hb dX7_layPrices_2 rfl (lv_at hl 1 rfl) ?_
  refine lv_aload_n hx hb dX7_layPrices_3 rfl (lv_at hl 1 rfl) ?_
  refine va_get (D := D) (ci := 5) (v := .ref (a 1)) (C := RX7) (T := TX7) (N := 25) hx hb hts (fun w h => List.mem_cons_of_mem _ (List.mem_append_right _ h)) hown hK hP 0 rfl rfl 0 (by decide) (hts (.fieldLink RX7 7 "LeastNeedModel" "told" "[I") (List.mem_of_getElem? (i := 1) rfl)) (fun _ h9 => h9) rfl dX7_layPrices_4 ?_
  obtain ⟨S7, hq7, hd⟩ := dn_b1 hd
  have hF := k_self hD hS hA
  refine k_run_v (va_runV (As := [.ref (a 1)]) (rest := []) ⟨hx, hb, hml, hown, hts⟩ (mX7_layCoats_1 l D cs a S L S7 hq7 _) (cwV 1 hts gX7_layPrices_X7_layCoats rfl rfl rfl (by decide +kernel) ⟨Nat.le_of_ble_eq_true rfl, Nat.le_of_ble_eq_true rfl⟩) ⟨k_blind, va_recv hK hP (ci := 5) (q0 := 0) rfl rfl, k_pre hP hK hNn hD⟩ rfl rfl hl.1 rfl (lv_room (Nat.le_of_ble_eq_true rfl)) dX7_layPrices_7 ⟨Nat.le_of_ble_eq_true rfl, Nat.le_of_ble_eq_true rfl⟩) hS hF (fun H locs hP1 hk hS => ?_)
  have hP : va_P D vwCl (wX7 cs a S7 L) _ := hP1
  have hD := hDA S7 L
  refine lv_iconst (v := (0 : Int32)) hx hb dX7_layPrices_10 (by decide) ?_
  refine lv_istore_n (lv' := [(2, .int (0 : Int32)), (1, .int (0 : Int32)), (0, .ref (a 0))]) hx hb dX7_layPrices_11 rfl hl (by decide) rfl (fun ls hl => ?_)
  exact Lo12 1000 (0 : Int32) (0 : Int32) S7 _ _ _ hd (lv_sub hl [2, 1, 0] rfl) hP hS
-- LeastNeedModel.costs()I
set_option maxRecDepth 20000 in
def nX7_costs_l9 (x1_9 : Int32) (x2_9 : Int32) (S_9 : Nat → Nat → Int32) (L : Nat → Nat → Int64) : Option ((Int32 × Int32) ⊕ (Int32 × (Nat → Nat → Int32))) := if x2_9 < 0 then k_up (some (x1_9, S_9)) else if x2_9 < 0 ∨ 5 ≤ x2_9.toNatClampNeg then none else some (.inl ((x1_9 + (S_9 9 x2_9.toNatClampNeg)), (x2_9 + (-1 : Int32))))
set_option maxRecDepth 20000 in
def nX7_costs (S : Nat → Nat → Int32) (L : Nat → Nat → Int64) : Option (Int32 × (Nat → Nat → Int32)) := k_b2 (nX7_layPrices S L) (fun r3 S3 => k_it (fun st => nX7_costs_l9 st.1 st.2 S3 L) 1000 ((0 : Int32), (r3 - (1 : Int32))))
set_option maxHeartbeats 4000000 in
set_option maxRecDepth 100000 in
theorem mX7_costs (l : Launch) (D : va_G) (cs : Nat → ClassId) (a : Nat → Nat) (S : Nat → Nat → Int32) (L : Nat → Nat → Int64) (r9 : Int32) (S9 : (Nat → Nat → Int32)) (hd : nX7_costs S L = some (r9, S9)) : ∀ sz : Nat, Met l yX7_costs wsX7_costs ({ frames := 4, cells := 0, slots := 0, locals := 93 }) (k_Pc D cs [.ref (a 0)] (wX7 cs a S L) sz) (k_Qi D r9 (wX7 cs a S L) (wX7 cs a S9 L) sz) 0 0 (va_A (wX7 cs a S L) sz) := by
  intro sz
  refine Met.ofW (cc := cX7_costs) (maxL := 3) (ret := (some .int)) (by decide) rfl ?_
  intro p e s m args below meth c s₁ B hml hv
  obtain ⟨rfl, hsz, hP, hK, hD0, hNn⟩ := hv
  have hx := B.exec
  have hb := B.bytes
  have hr := B.returns
  have hts := atoms_spec (ws := wsX7_costs) B.pre
  have hown : s.vm.findClass RX7 = some m.cls := findClass_of_methodNamed B.named
  have hlocks := B.notSynchronized
  subst hsz
  obtain ⟨A, hAe⟩ : ∃ A : Nat → Prop, A = va_A (wX7 cs a S L) s.heap.size := ⟨_, rfl⟩
  have hD : va_D A (wX7 cs a S L) := by rw [hAe]; exact hD0.self
  have hA : ∀ q : Nat, s.heap.size ≤ q → A q := fun q h => by rw [hAe]; exact Or.inr h
  have hS : va_S A s.heap s.heap [] := va_S.rf
  have hDA : ∀ (S : Nat → Nat → Int32) (L : Nat → Nat → Int64), va_D A (wX7 cs a S L) := fun S L => k_DA hD rfl
  have hl := lv_entry ([.ref (a 0)]) (n := 3) (Nat.le_of_ble_eq_true rfl)
  rw [lg_entry_eq]
  generalize (lg_sl ([.ref (a 0)]) ++ List.replicate (3 - (lg_sl ([.ref (a 0)])).length) Slot.unset).toArray = ls at hl ⊢
  have hl : lv_has ls 3 [(0, .ref (a 0))] := hl
  obtain ⟨Q, hQ⟩ : ∃ Q, Q = MQ below (k_Qi D r9 (wX7 cs a S L) (wX7 cs a S9 L) s.heap.size) ([.ref (a 0)] : List Value).toArray s 0 0 (va_A (wX7 cs a S L) s.heap.size) := ⟨_, rfl⟩
  rw [← hQ]
  have Lo9 : ∀ (n1 : Nat) (x1_9 : Int32) (x2_9 : Int32) (S_9 : Nat → Nat → Int32) (H : Heap) (locs : List Loc) (ls : Array Slot), k_it (fun st => nX7_costs_l9 st.1 st.2 S_9 L) n1 (x1_9, x2_9) = some (r9, S9) → lv_has ls 3 [(0, .ref (a 0)), (1, .int x1_9), (2, .int x2_9)] → va_P D vwCl (wX7 cs a S_9 L) H → va_S A s.heap H locs → W p l e (headSpec wsX7_costs ({ frames := 4, cells := 0, slots := 0, locals := 93 })).room s m ([.ref (a 0)] : List Value).toArray below meth c H locs 0 0 Q (F0 m 9 ls []) := by
    intro n1
    induction n1 with
    | zero => intro x1_9 x2_9 S_9 H locs ls hd; exact dn_it0 hd
    | succ n1 ih1 =>
      intro x1_9 x2_9 S_9 H locs ls hd hl hP hS
      have hD := hDA S_9 L
      obtain ⟨y1, hd, hy1⟩ := dn_it hd
      have hd : nX7_costs_l9 x1_9 x2_9 S_9 L = some y1 := hd
      unfold nX7_costs_l9 at hd
      refine lv_iload_n hx hb dX7_costs_9 rfl (lv_at hl 2 rfl) ?_
      refine lv_if_lt (tgt := 28) hx hb dX7_costs_10 (by decide) (fun c10 => ?_) (fun c10 => ?_)
      · have hd := dn_t c10 hd
        have hd := dn_up hd hy1
        refine lv_iload_n hx hb dX7_costs_28 rfl (lv_at hl 1 rfl) ?_
        obtain ⟨e1, e2⟩ := dn_s2 hd
        exact k_iret hx hb hr hQ hAe e1 (by rw [e2]) hP hS hlocks dX7_costs_29
      · have hd := dn_f c10 hd
        refine lv_iload_n hx hb dX7_costs_13 rfl (lv_at hl 1 rfl) ?_
        refine lv_aload_n hx hb dX7_costs_14 rfl (lv_at hl 0 rfl) ?_
        refine va_get (D := D) (ci := 5) (v := .ref (a 9)) (C := RX7) (T := TX7) (N := 25) hx hb hts (fun w h => List.mem_cons_of_mem _ (List.mem_append_right _ h)) hown hK hP 0 rfl rfl 10 (by decide) (hts (.fieldLink RX7 39 "LeastNeedModel" "prices" "[I") (List.mem_of_getElem? (i := 1) rfl)) (fun _ h9 => h9) rfl dX7_costs_15 ?_
        refine lv_iload_n hx hb dX7_costs_18 rfl (lv_at hl 2 rfl) ?_
        obtain ⟨hi19, hd⟩ := dn_i hd
        refine k_iald (D := D) (k := x2_9.toNatClampNeg) (by rfl) hx hb hK hP 9 1 rfl rfl hi19 dX7_costs_19 ?_
        refine lv_iadd hx hb dX7_costs_20 ?_
        refine lv_istore_n (lv' := [(1, .int (x1_9 + (S_9 9 x2_9.toNatClampNeg))), (0, .ref (a 0)), (2, .int x2_9)]) hx hb dX7_costs_21 rfl hl (by decide) rfl (fun ls hl => ?_)
        refine lv_iinc (v := x2_9 + (-1 : Int32)) (lv' := [(2, .int (x2_9 + (-1 : Int32))), (1, .int (x1_9 + (S_9 9 x2_9.toNatClampNeg))), (0, .ref (a 0))]) hx hb dX7_costs_22 hl (k := 2) rfl rfl (by decide) rfl (fun ls hl => ?_)
        refine lv_goto (tgt := 9) hx hb dX7_costs_25 (by decide) ?_
        exact ih1 (x1_9 + (S_9 9 x2_9.toNatClampNeg)) (x2_9 + (-1 : Int32)) S_9 _ _ _ (dn_bk hd hy1) (lv_sub hl [2, 1, 0] rfl) hP hS
  unfold nX7_costs at hd
  refine lv_iconst (v := (0 : Int32)) hx hb dX7_costs_0 (by decide) ?_
  refine lv_istore_n (lv' := [(1, .int (0 : Int32)), (0, .ref (a 0))]) hx hb dX7_costs_1 rfl hl (by decide) rfl (fun ls hl => ?_)
  refine lv_aload_n hx hb dX7_costs_2 rfl (lv_at hl 1 rfl) ?_
  obtain ⟨r3, S3, hq3, hd⟩ := dn_b2 hd
  have hF := k_self hD hS hA
  refine k_run_i (va_runV (As := []) (rest := []) ⟨hx, hb, hml, hown, hts⟩ (mX7_layPrices l D cs a S L r3 S3 hq3 _) (cwV 0 hts gX7_costs_X7_layPrices rfl rfl rfl (by decide +kernel) ⟨Nat.le_of_ble_eq_true rfl, Nat.le_of_ble_eq_true rfl⟩) ⟨k_blind, va_recv hK hP (ci := 5) (q0 := 0) rfl rfl, k_pre hP hK hNn hD⟩ rfl rfl hl.1 rfl (lv_room (Nat.le_of_ble_eq_true rfl)) dX7_costs_3 ⟨Nat.le_of_ble_eq_true rfl, Nat.le_of_ble_eq_true rfl⟩) hS hF (fun H locs hP1 hk hS => ?_)
  have hP : va_P D vwCl (wX7 cs a S3 L) _ := hP1
  have hD := hDA S3 L
  refine lv_iconst (v := (1 : Int32)) hx hb dX7_costs_6 (by decide) ?_
  refine lv_isub hx hb dX7_costs_7 ?_
  refine lv_istore_n (lv' := [(2, .int (r3 - (1 : Int32))), (1, .int (0 : Int32)), (0, .ref (a 0))]) hx hb dX7_costs_8 rfl hl (by decide) rfl (fun ls hl => ?_)
  exact Lo9 1000 (0 : Int32) (r3 - (1 : Int32)) S3 _ _ _ hd (lv_sub hl [2, 1, 0] rfl) hP hS
-- LeastNeedModel.few(I)I
set_option maxRecDepth 20000 in
def nX7_few_i29_j104 (p1 : Int32) (x2_29 : Int32) (x3_104 : Int32) (x4_104 : Int32) (S_29 : Nat → Nat → Int32) (L : Nat → Nat → Int64) : Option ((Int32 × Int32) ⊕ (Int32 × (Nat → Nat → Int32))) := some (.inl (x3_104, (x4_104 + (1 : Int32))))
set_option maxRecDepth 20000 in
def nX7_few_i29_i43_j72 (p1 : Int32) (x2_29 : Int32) (x3_43 : Int32) (x4_43 : Int32) (x6_72 : Int32) (w0_72 : Int32) (w1_72 : Int32) (S_29 : Nat → Nat → Int32) (L : Nat → Nat → Int64) : Option ((Int32 × Int32) ⊕ ((Int32 × Int32) ⊕ (Int32 × (Nat → Nat → Int32)))) := some (.inl ((w1_72 + w0_72), (x6_72 + (1 : Int32))))
set_option maxRecDepth 20000 in
def nX7_few_i29_l43 (p1 : Int32) (x2_29 : Int32) (x3_43 : Int32) (x4_43 : Int32) (x5_43 : Int32) (x6_43 : Int32) (S_29 : Nat → Nat → Int32) (L : Nat → Nat → Int64) : Option ((Int32 × Int32) ⊕ ((Int32 × Int32) ⊕ (Int32 × (Nat → Nat → Int32)))) := if x2_29 ≤ x6_43 then k_up (if p1 < x5_43 then nX7_few_i29_j104 p1 x2_29 x3_43 x4_43 S_29 L else k_b1 (nX7_bits x4_43) (fun r89 => if r89 ≤ x3_43 then nX7_few_i29_j104 p1 x2_29 x3_43 x4_43 S_29 L else k_b1 (nX7_bits x4_43) (fun r98 => some (.inl (r98, (x4_43 + (1 : Int32))))))) else k_b1 (nX7_has x4_43 x6_43) (fun r55 => if r55 = 0 then nX7_few_i29_i43_j72 p1 x2_29 x3_43 x4_43 x6_43 (0 : Int32) x5_43 S_29 L else if x6_43 < 0 ∨ 5 ≤ x6_43.toNatClampNeg then none else nX7_few_i29_i43_j72 p1 x2_29 x3_43 x4_43 x6_43 (S_29 9 x6_43.toNatClampNeg) x5_43 S_29 L)
set_option maxRecDepth 20000 in
def nX7_few_l29 (p1 : Int32) (x2_29 : Int32) (x3_29 : Int32) (x4_29 : Int32) (S_29 : Nat → Nat → Int32) (L : Nat → Nat → Int64) : Option ((Int32 × Int32) ⊕ (Int32 × (Nat → Nat → Int32))) := if ((1 : Int32) <<< (x2_29 &&& 31)) ≤ x4_29 then k_up (some (x3_29, S_29)) else k_it (fun st => nX7_few_i29_l43 p1 x2_29 x3_29 x4_29 st.1 st.2 S_29 L) 1000 ((0 : Int32), (0 : Int32))
set_option maxRecDepth 20000 in
def nX7_few (S : Nat → Nat → Int32) (L : Nat → Nat → Int64) (p1 : Int32) : Option (Int32 × (Nat → Nat → Int32)) := k_b1 (nX7_in p1.toInt64 (0 : Int64) (200 : Int64)) (fun r6 => if r6 = 0 then k_b2 (nX7_bad S L (-2 : Int32)) (fun r15 S15 => some (r15, S15)) else k_b2 (nX7_layPrices S L) (fun r20 S20 => k_it (fun st => nX7_few_l29 p1 r20 st.1 st.2 S20 L) 1000 ((0 : Int32), (0 : Int32))))
set_option maxHeartbeats 4000000 in
set_option maxRecDepth 100000 in
theorem mX7_few (l : Launch) (D : va_G) (cs : Nat → ClassId) (a : Nat → Nat) (S : Nat → Nat → Int32) (L : Nat → Nat → Int64) (p1 : Int32) (r9 : Int32) (S9 : (Nat → Nat → Int32)) (hd : nX7_few S L p1 = some (r9, S9)) : ∀ sz : Nat, Met l yX7_few wsX7_few ({ frames := 4, cells := 0, slots := 0, locals := 93 }) (k_Pc D cs [.ref (a 0), .int p1] (wX7 cs a S L) sz) (k_Qi D r9 (wX7 cs a S L) (wX7 cs a S9 L) sz) 0 0 (va_A (wX7 cs a S L) sz) := by
  intro sz
  refine Met.ofW (cc := cX7_few) (maxL := 7) (ret := (some .int)) (by decide) rfl ?_
  intro p e s m args below meth c s₁ B hml hv
  obtain ⟨rfl, hsz, hP, hK, hD0, hNn⟩ := hv
  have hx := B.exec
  have hb := B.bytes
  have hr := B.returns
  have hts := atoms_spec (ws := wsX7_few) B.pre
  have hown : s.vm.findClass RX7 = some m.cls := findClass_of_methodNamed B.named
  have hlocks := B.notSynchronized
  subst hsz
  obtain ⟨A, hAe⟩ : ∃ A : Nat → Prop, A = va_A (wX7 cs a S L) s.heap.size := ⟨_, rfl⟩
  have hD : va_D A (wX7 cs a S L) := by rw [hAe]; exact hD0.self
  have hA : ∀ q : Nat, s.heap.size ≤ q → A q := fun q h => by rw [hAe]; exact Or.inr h
  have hS : va_S A s.heap s.heap [] := va_S.rf
  have hDA : ∀ (S : Nat → Nat → Int32) (L : Nat → Nat → Int64), va_D A (wX7 cs a S L) := fun S L => k_DA hD rfl
  have hl := lv_entry ([.ref (a 0), .int p1]) (n := 7) (Nat.le_of_ble_eq_true rfl)
  rw [lg_entry_eq]
  generalize (lg_sl ([.ref (a 0), .int p1]) ++ List.replicate (7 - (lg_sl ([.ref (a 0), .int p1])).length) Slot.unset).toArray = ls at hl ⊢
  have hl : lv_has ls 7 [(0, .ref (a 0)), (1, .int p1)] := hl
  obtain ⟨Q, hQ⟩ : ∃ Q, Q = MQ below (k_Qi D r9 (wX7 cs a S L) (wX7 cs a S9 L) s.heap.size) ([.ref (a 0), .int p1] : List Value).toArray s 0 0 (va_A (wX7 cs a S L) s.heap.size) := ⟨_, rfl⟩
  rw [← hQ]
  have Lo29 : ∀ (n1 : Nat) (x2_29 : Int32) (x3_29 : Int32) (x4_29 : Int32) (S_29 : Nat → Nat → Int32) (H : Heap) (locs : List Loc) (ls : Array Slot), k_it (fun st => nX7_few_l29 p1 x2_29 st.1 st.2 S_29 L) n1 (x3_29, x4_29) = some (r9, S9) → lv_has ls 7 [(0, .ref (a 0)), (1, .int p1), (2, .int x2_29), (3, .int x3_29), (4, .int x4_29)] → va_P D vwCl (wX7 cs a S_29 L) H → va_S A s.heap H locs → W p l e (headSpec wsX7_few ({ frames := 4, cells := 0, slots := 0, locals := 93 })).room s m ([.ref (a 0), .int p1] : List Value).toArray below meth c H locs 0 0 Q (F0 m 29 ls []) := by
    intro n1
    induction n1 with
    | zero => intro x2_29 x3_29 x4_29 S_29 H locs ls hd; exact dn_it0 hd
    | succ n1 ih1 =>
      intro x2_29 x3_29 x4_29 S_29 H locs ls hd hl hP hS
      have hD := hDA S_29 L
      obtain ⟨y1, hd, hy1⟩ := dn_it hd
      have hd : nX7_few_l29 p1 x2_29 x3_29 x4_29 S_29 L = some y1 := hd
      have Jo104 : ∀ (x3_104 : Int32) (x4_104 : Int32) (H : Heap) (locs : List Loc) (ls : Array Slot), nX7_few_i29_j104 p1 x2_29 x3_104 x4_104 S_29 L = some y1 → lv_has ls 7 [(0, .ref (a 0)), (1, .int p1), (2, .int x2_29), (3, .int x3_104), (4, .int x4_104)] → va_P D vwCl (wX7 cs a S_29 L) H → va_S A s.heap H locs → W p l e (headSpec wsX7_few ({ frames := 4, cells := 0, slots := 0, locals := 93 })).room s m ([.ref (a 0), .int p1] : List Value).toArray below meth c H locs 0 0 Q (F0 m 104 ls []) := by
        intro x3_104 x4_104 H locs ls hd hl hP hS
        have hD := hDA S_29 L
        unfold nX7_few_i29_j104 at hd
        refine lv_iload_n hx hb dX7_few_104 rfl (lv_at hl 3 rfl) ?_
        refine lv_istore_n (lv' := [(3, .int x3_104), (0, .ref (a 0)), (1, .int p1), (2, .int x2_29), (4, .int x4_104)]) hx hb dX7_few_105 rfl hl (by decide) rfl (fun ls hl => ?_)
        refine lv_iinc (v := x4_104 + (1 : Int32)) (lv' := [(4, .int (x4_104 + (1 : Int32))), (3, .int x3_104), (0, .ref (a 0)), (1, .int p1), (2, .int x2_29)]) hx hb dX7_few_106 hl (k := 4) rfl rfl (by decide) rfl (fun ls hl => ?_)
        refine lv_goto (tgt := 29) hx hb dX7_few_109 (by decide) ?_
        exact ih1 x2_29 x3_104 (x4_104 + (1 : Int32)) S_29 _ _ _ (dn_bk hd hy1) (lv_sub hl [2, 3, 4, 1, 0] rfl) hP hS
      have Lo43 : ∀ (n2 : Nat) (x3_43 : Int32) (x4_43 : Int32) (x5_43 : Int32) (x6_43 : Int32) (H : Heap) (locs : List Loc) (ls : Array Slot), k_it (fun st => nX7_few_i29_l43 p1 x2_29 x3_43 x4_43 st.1 st.2 S_29 L) n2 (x5_43, x6_43) = some y1 → lv_has ls 7 [(0, .ref (a 0)), (1, .int p1), (2, .int x2_29), (3, .int x3_43), (4, .int x4_43), (5, .int x5_43), (6, .int x6_43)] → va_P D vwCl (wX7 cs a S_29 L) H → va_S A s.heap H locs → W p l e (headSpec wsX7_few ({ frames := 4, cells := 0, slots := 0, locals := 93 })).room s m ([.ref (a 0), .int p1] : List Value).toArray below meth c H locs 0 0 Q (F0 m 43 ls []) := by
        intro n2
        induction n2 with
        | zero => intro x3_43 x4_43 x5_43 x6_43 H locs ls hd; exact dn_it0 hd
        | succ n2 ih2 =>
          intro x3_43 x4_43 x5_43 x6_43 H locs ls hd hl hP hS
          have hD := hDA S_29 L
          obtain ⟨y2, hd, hy2⟩ := dn_it hd
          have hd : nX7_few_i29_l43 p1 x2_29 x3_43 x4_43 x5_43 x6_43 S_29 L = some y2 := hd
          have Jo72 : ∀ (x6_72 : Int32) (w0_72 : Int32) (w1_72 : Int32) (H : Heap) (locs : List Loc) (ls : Array Slot), nX7_few_i29_i43_j72 p1 x2_29 x3_43 x4_43 x6_72 w0_72 w1_72 S_29 L = some y2 → lv_has ls 7 [(0, .ref (a 0)), (1, .int p1), (2, .int x2_29), (3, .int x3_43), (4, .int x4_43), (6, .int x6_72)] → va_P D vwCl (wX7 cs a S_29 L) H → va_S A s.heap H locs → W p l e (headSpec wsX7_few ({ frames := 4, cells := 0, slots := 0, locals := 93 })).room s m ([.ref (a 0), .int p1] : List Value).toArray below meth c H locs 0 0 Q (F0 m 72 ls [.int w0_72, .int w1_72]) := by
            intro x6_72 w0_72 w1_72 H locs ls hd hl hP hS
            have hD := hDA S_29 L
            unfold nX7_few_i29_i43_j72 at hd
            refine lv_iadd hx hb dX7_few_72 ?_
            refine lv_istore (lv' := [(5, .int (w1_72 + w0_72)), (0, .ref (a 0)), (1, .int p1), (2, .int x2_29), (3, .int x3_43), (4, .int x4_43), (6, .int x6_72)]) hx hb dX7_few_73 hl (by decide) rfl (fun ls hl => ?_)
            refine lv_iinc (v := x6_72 + (1 : Int32)) (lv' := [(6, .int (x6_72 + (1 : Int32))), (5, .int (w1_72 + w0_72)), (0, .ref (a 0)), (1, .int p1), (2, .int x2_29), (3, .int x3_43), (4, .int x4_43)]) hx hb dX7_few_75 hl (k := 6) rfl rfl (by decide) rfl (fun ls hl => ?_)
            refine lv_goto (tgt := 43) hx hb dX7_few_78 (by decide) ?_
            exact ih2 x3_43 x4_43 (w1_72 + w0_72) (x6_72 + (1 : Int32)) _ _ _ (dn_bk hd hy2) (lv_sub hl [2, 3, 4, 5, 6, 1, 0] rfl) hP hS
          unfold nX7_few_i29_l43 at hd
          refine lv_iload hx hb dX7_few_43 (lv_at hl 6 rfl) ?_
          refine lv_iload_n hx hb dX7_few_45 rfl (lv_at hl 2 rfl) ?_
          refine lv_icmp_ge (tgt := 81) hx hb dX7_few_46 (by decide) (fun c46 => ?_) (fun c46 => ?_)
          · have hd := dn_t c46 hd
            have hd := dn_up hd hy2
            refine lv_iload hx hb dX7_few_81 (lv_at hl 5 rfl) ?_
            refine lv_iload_n hx hb dX7_few_83 rfl (lv_at hl 1 rfl) ?_
            refine lv_icmp_gt (tgt := 104) hx hb dX7_few_84 (by decide) (fun c84 => ?_) (fun c84 => ?_)
            · have hd := dn_t c84 hd
              exact Jo104 x3_43 x4_43 _ _ _ hd (lv_sub hl [0, 1, 2, 3, 4] rfl) hP hS
            · have hd := dn_f c84 hd
              refine lv_iload hx hb dX7_few_87 (lv_at hl 4 rfl) ?_
              obtain ⟨r89, hq89, hd⟩ := dn_b1 hd
              have hPc := k_P0 hP
              have hDc : va_D A ([] : va_W) := k_D0
              have hF := k_self hDc hS hA
              refine k_run_i (va_runS (As := [.int x4_43]) (rest := []) ⟨hx, hb, hml, hown, hts⟩ (mX7_bits l D cs  x4_43 r89 hq89 _) (va_cwS 1 hts gX7_few_X7_bits rfl rfl rfl (by decide +kernel) ⟨Nat.le_of_ble_eq_true rfl, Nat.le_of_ble_eq_true rfl⟩) ⟨k_blind, k_pre hPc hK hNn hDc⟩ rfl rfl hl.1 rfl (lv_room (Nat.le_of_ble_eq_true rfl)) dX7_few_89 ⟨Nat.le_of_ble_eq_true rfl, Nat.le_of_ble_eq_true rfl⟩) hS hF (fun H locs hP1 hk hS => ?_)
              have hP : va_P D vwCl (wX7 cs a S_29 L) _ := k_keep hP hk
              refine lv_iload_n hx hb dX7_few_92 rfl (lv_at hl 3 rfl) ?_
              refine lv_icmp_le (tgt := 104) hx hb dX7_few_93 (by decide) (fun c93 => ?_) (fun c93 => ?_)
              · have hd := dn_t c93 hd
                exact Jo104 x3_43 x4_43 _ _ _ hd (lv_sub hl [0, 1, 2, 3, 4] rfl) hP hS
              · have hd := dn_f c93 hd
                refine lv_iload hx hb dX7_few_96 (lv_at hl 4 rfl) ?_
                obtain ⟨r98, hq98, hd⟩ := dn_b1 hd
                have hPc := k_P0 hP
                have hDc : va_D A ([] : va_W) := k_D0
                have hF := k_self hDc hS hA
                refine k_run_i (va_runS (As := [.int x4_43]) (rest := []) ⟨hx, hb, hml, hown, hts⟩ (mX7_bits l D cs  x4_43 r98 hq98 _) (va_cwS 1 hts gX7_few_X7_bits rfl rfl rfl (by decide +kernel) ⟨Nat.le_of_ble_eq_true rfl, Nat.le_of_ble_eq_true rfl⟩) ⟨k_blind, k_pre hPc hK hNn hDc⟩ rfl rfl hl.1 rfl (lv_room (Nat.le_of_ble_eq_true rfl)) dX7_few_98 ⟨Nat.le_of_ble_eq_true rfl, Nat.le_of_ble_eq_true rfl⟩) hS hF (fun H locs hP1 hk hS => ?_)
                have hP : va_P D vwCl (wX7 cs a S_29 L) _ := k_keep hP hk
                refine lv_goto (tgt := 105) hx hb dX7_few_101 (by decide) ?_
                refine lv_istore_n (lv' := [(3, .int r98), (0, .ref (a 0)), (1, .int p1), (2, .int x2_29), (4, .int x4_43), (5, .int x5_43), (6, .int x6_43)]) hx hb dX7_few_105 rfl hl (by decide) rfl (fun ls hl => ?_)
                refine lv_iinc (v := x4_43 + (1 : Int32)) (lv' := [(4, .int (x4_43 + (1 : Int32))), (3, .int r98), (0, .ref (a 0)), (1, .int p1), (2, .int x2_29), (5, .int x5_43), (6, .int x6_43)]) hx hb dX7_few_106 hl (k := 4) rfl rfl (by decide) rfl (fun ls hl => ?_)
                refine lv_goto (tgt := 29) hx hb dX7_few_109 (by decide) ?_
                exact ih1 x2_29 r98 (x4_43 + (1 : Int32)) S_29 _ _ _ (dn_bk hd hy1) (lv_sub hl [2, 3, 4, 1, 0] rfl) hP hS
          · have hd := dn_f c46 hd
            refine lv_iload hx hb dX7_few_49 (lv_at hl 5 rfl) ?_
            refine lv_iload hx hb dX7_few_51 (lv_at hl 4 rfl) ?_
            refine lv_iload hx hb dX7_few_53 (lv_at hl 6 rfl) ?_
            obtain ⟨r55, hq55, hd⟩ := dn_b1 hd
            have hPc := k_P0 hP
            have hDc : va_D A ([] : va_W) := k_D0
            have hF := k_self hDc hS hA
            refine k_run_i (va_runS (As := [.int x4_43, .int x6_43]) (rest := [.int x5_43]) ⟨hx, hb, hml, hown, hts⟩ (mX7_has l D cs  x4_43 x6_43 r55 hq55 _) (va_cwS 2 hts gX7_few_X7_has rfl rfl rfl (by decide +kernel) ⟨Nat.le_of_ble_eq_true rfl, Nat.le_of_ble_eq_true rfl⟩) ⟨k_blind, k_pre hPc hK hNn hDc⟩ rfl rfl hl.1 rfl (lv_room (Nat.le_of_ble_eq_true rfl)) dX7_few_55 ⟨Nat.le_of_ble_eq_true rfl, Nat.le_of_ble_eq_true rfl⟩) hS hF (fun H locs hP1 hk hS => ?_)
            have hP : va_P D vwCl (wX7 cs a S_29 L) _ := k_keep hP hk
            refine lv_if_eq (tgt := 71) hx hb dX7_few_58 (by decide) (fun c58 => ?_) (fun c58 => ?_)
            · have hd := dn_t c58 hd
              refine lv_iconst (v := (0 : Int32)) hx hb dX7_few_71 (by decide) ?_
              exact Jo72 x6_43 (0 : Int32) x5_43 _ _ _ hd (lv_sub hl [0, 1, 2, 3, 4, 6] rfl) hP hS
            · have hd := dn_f c58 hd
              refine lv_aload_n hx hb dX7_few_61 rfl (lv_at hl 0 rfl) ?_
              refine va_get (D := D) (ci := 5) (v := .ref (a 9)) (C := RX7) (T := TX7) (N := 25) hx hb hts (fun w h => List.mem_cons_of_mem _ (List.mem_append_right _ h)) hown hK hP 0 rfl rfl 10 (by decide) (hts (.fieldLink RX7 39 "LeastNeedModel" "prices" "[I") (List.mem_of_getElem? (i := 2) rfl)) (fun _ h9 => h9) rfl dX7_few_62 ?_
              refine lv_iload hx hb dX7_few_65 (lv_at hl 6 rfl) ?_
              obtain ⟨hi67, hd⟩ := dn_i hd
              refine k_iald (D := D) (k := x6_43.toNatClampNeg) (by rfl) hx hb hK hP 9 1 rfl rfl hi67 dX7_few_67 ?_
              refine lv_goto (tgt := 72) hx hb dX7_few_68 (by decide) ?_
              exact Jo72 x6_43 (S_29 9 x6_43.toNatClampNeg) x5_43 _ _ _ hd (lv_sub hl [0, 1, 2, 3, 4, 6] rfl) hP hS
      unfold nX7_few_l29 at hd
      refine lv_iload hx hb dX7_few_29 (lv_at hl 4 rfl) ?_
      refine lv_iconst (v := (1 : Int32)) hx hb dX7_few_31 (by decide) ?_
      refine lv_iload_n hx hb dX7_few_32 rfl (lv_at hl 2 rfl) ?_
      refine lv_ishl hx hb dX7_few_33 ?_
      refine lv_icmp_ge (tgt := 112) hx hb dX7_few_34 (by decide) (fun c34 => ?_) (fun c34 => ?_)
      · have hd := dn_t c34 hd
        have hd := dn_up hd hy1
        refine lv_iload_n hx hb dX7_few_112 rfl (lv_at hl 3 rfl) ?_
        obtain ⟨e1, e2⟩ := dn_s2 hd
        exact k_iret hx hb hr hQ hAe e1 (by rw [e2]) hP hS hlocks dX7_few_113
      · have hd := dn_f c34 hd
        refine lv_iconst (v := (0 : Int32)) hx hb dX7_few_37 (by decide) ?_
        refine lv_istore (lv' := [(5, .int (0 : Int32)), (0, .ref (a 0)), (1, .int p1), (2, .int x2_29), (3, .int x3_29), (4, .int x4_29)]) hx hb dX7_few_38 hl (by decide) rfl (fun ls hl => ?_)
        refine lv_iconst (v := (0 : Int32)) hx hb dX7_few_40 (by decide) ?_
        refine lv_istore (lv' := [(6, .int (0 : Int32)), (5, .int (0 : Int32)), (0, .ref (a 0)), (1, .int p1), (2, .int x2_29), (3, .int x3_29), (4, .int x4_29)]) hx hb dX7_few_41 hl (by decide) rfl (fun ls hl => ?_)
        exact Lo43 1000 x3_29 x4_29 (0 : Int32) (0 : Int32) _ _ _ hd (lv_sub hl [2, 3, 4, 5, 6, 1, 0] rfl) hP hS
  unfold nX7_few at hd
  refine lv_iload_n hx hb dX7_few_0 rfl (lv_at hl 1 rfl) ?_
  refine lv_i2l hx hb dX7_few_1 rfl ?_
  refine lv_lconst (v := (0 : Int64)) hx hb dX7_few_2 (by decide) ?_
  refine lv_ldc2 (v := (200 : Int64)) hx hb hown (hts (.constantLong RX7 197 (200)) (List.mem_of_getElem? (i := 1) rfl)) dX7_few_3 ?_
  obtain ⟨r6, hq6, hd⟩ := dn_b1 hd
  have hPc := k_P0 hP
  have hDc : va_D A ([] : va_W) := k_D0
  have hF := k_self hDc hS hA
  refine k_run_i (va_runS (As := [.long p1.toInt64, .long (0 : Int64), .long (200 : Int64)]) (rest := []) ⟨hx, hb, hml, hown, hts⟩ (mX7_in l D cs  p1.toInt64 (0 : Int64) (200 : Int64) r6 hq6 _) (va_cwS 3 hts gX7_few_X7_in rfl rfl rfl (by decide +kernel) ⟨Nat.le_of_ble_eq_true rfl, Nat.le_of_ble_eq_true rfl⟩) ⟨k_blind, k_pre hPc hK hNn hDc⟩ rfl rfl hl.1 rfl (lv_room (Nat.le_of_ble_eq_true rfl)) dX7_few_6 ⟨Nat.le_of_ble_eq_true rfl, Nat.le_of_ble_eq_true rfl⟩) hS hF (fun H locs hP1 hk hS => ?_)
  have hP : va_P D vwCl (wX7 cs a S L) _ := k_keep hP hk
  refine lv_if_ne (tgt := 19) hx hb dX7_few_9 (by decide) (fun c9 => ?_) (fun c9 => ?_)
  · have hd := dn_f c9 hd
    refine lv_aload_n hx hb dX7_few_19 rfl (lv_at hl 0 rfl) ?_
    obtain ⟨r20, S20, hq20, hd⟩ := dn_b2 hd
    have hF := k_self hD hS hA
    refine k_run_i (va_runV (As := []) (rest := []) ⟨hx, hb, hml, hown, hts⟩ (mX7_layPrices l D cs a S L r20 S20 hq20 _) (cwV 0 hts gX7_few_X7_layPrices rfl rfl rfl (by decide +kernel) ⟨Nat.le_of_ble_eq_true rfl, Nat.le_of_ble_eq_true rfl⟩) ⟨k_blind, va_recv hK hP (ci := 5) (q0 := 0) rfl rfl, k_pre hP hK hNn hD⟩ rfl rfl hl.1 rfl (lv_room (Nat.le_of_ble_eq_true rfl)) dX7_few_20 ⟨Nat.le_of_ble_eq_true rfl, Nat.le_of_ble_eq_true rfl⟩) hS hF (fun H locs hP1 hk hS => ?_)
    have hP : va_P D vwCl (wX7 cs a S20 L) _ := hP1
    have hD := hDA S20 L
    refine lv_istore_n (lv' := [(2, .int r20), (0, .ref (a 0)), (1, .int p1)]) hx hb dX7_few_23 rfl hl (by decide) rfl (fun ls hl => ?_)
    refine lv_iconst (v := (0 : Int32)) hx hb dX7_few_24 (by decide) ?_
    refine lv_istore_n (lv' := [(3, .int (0 : Int32)), (2, .int r20), (0, .ref (a 0)), (1, .int p1)]) hx hb dX7_few_25 rfl hl (by decide) rfl (fun ls hl => ?_)
    refine lv_iconst (v := (0 : Int32)) hx hb dX7_few_26 (by decide) ?_
    refine lv_istore (lv' := [(4, .int (0 : Int32)), (3, .int (0 : Int32)), (2, .int r20), (0, .ref (a 0)), (1, .int p1)]) hx hb dX7_few_27 hl (by decide) rfl (fun ls hl => ?_)
    exact Lo29 1000 r20 (0 : Int32) (0 : Int32) S20 _ _ _ hd (lv_sub hl [3, 4, 2, 1, 0] rfl) hP hS
  · have hd := dn_t c9 hd
    refine lv_aload_n hx hb dX7_few_12 rfl (lv_at hl 0 rfl) ?_
    refine lv_bipush (v := (-2 : Int32)) hx hb dX7_few_13 (by decide) ?_
    obtain ⟨r15, S15, hq15, hd⟩ := dn_b2 hd
    have hF := k_self hD hS hA
    refine k_run_i (va_runV (As := [.int (-2 : Int32)]) (rest := []) ⟨hx, hb, hml, hown, hts⟩ (mX7_bad l D cs a S L (-2 : Int32) r15 S15 hq15 _) (cwV 1 hts gX7_few_X7_bad rfl rfl rfl (by decide +kernel) ⟨Nat.le_of_ble_eq_true rfl, Nat.le_of_ble_eq_true rfl⟩) ⟨k_blind, va_recv hK hP (ci := 5) (q0 := 0) rfl rfl, k_pre hP hK hNn hD⟩ rfl rfl hl.1 rfl (lv_room (Nat.le_of_ble_eq_true rfl)) dX7_few_15 ⟨Nat.le_of_ble_eq_true rfl, Nat.le_of_ble_eq_true rfl⟩) hS hF (fun H locs hP1 hk hS => ?_)
    have hP : va_P D vwCl (wX7 cs a S15 L) _ := hP1
    have hD := hDA S15 L
    obtain ⟨e1, e2⟩ := dn_s2 hd
    exact k_iret hx hb hr hQ hAe e1 (by rw [e2]) hP hS hlocks dX7_few_18
-- LeastNeedModel.loser(II)I
set_option maxRecDepth 20000 in
def nX7_loser_i36_j71 (p1 : Int32) (p2 : Int32) (x4_71 : Int32) (w0_71 : Int32) (w1_71 : Int32) (S_36 : Nat → Nat → Int32) (L : Nat → Nat → Int64) : Option ((Int32 × Int32) ⊕ (Int32 × (Nat → Nat → Int32))) := some (.inl ((w1_71 ||| w0_71), (x4_71 + (1 : Int32))))
set_option maxRecDepth 20000 in
def nX7_loser_i36_j70 (p1 : Int32) (p2 : Int32) (x4_70 : Int32) (w0_70 : Int32) (S_36 : Nat → Nat → Int32) (L : Nat → Nat → Int64) : Option ((Int32 × Int32) ⊕ (Int32 × (Nat → Nat → Int32))) := nX7_loser_i36_j71 p1 p2 x4_70 (0 : Int32) w0_70 S_36 L
set_option maxRecDepth 20000 in
def nX7_loser_l36 (p1 : Int32) (p2 : Int32) (x3_36 : Int32) (x4_36 : Int32) (S_36 : Nat → Nat → Int32) (L : Nat → Nat → Int64) : Option ((Int32 × Int32) ⊕ (Int32 × (Nat → Nat → Int32))) := k_b1 (nX7_many S_36 L) (fun r39 => if r39 ≤ x4_36 then k_up (some (x3_36, S_36)) else if x4_36 = p2 then nX7_loser_i36_j70 p1 p2 x4_36 x3_36 S_36 L else k_b1 (nX7_comesNow S_36 L p1 x4_36) (fun r56 => if r56 = p2 then nX7_loser_i36_j71 p1 p2 x4_36 ((1 : Int32) <<< (x4_36 &&& 31)) x3_36 S_36 L else nX7_loser_i36_j70 p1 p2 x4_36 x3_36 S_36 L))
set_option maxRecDepth 20000 in
def nX7_loser_j16 (S_16 : Nat → Nat → Int32) (L : Nat → Nat → Int64) : Option (Int32 × (Nat → Nat → Int32)) := k_b2 (nX7_bad S_16 L (-2 : Int32)) (fun r19 S19 => some (r19, S19))
set_option maxRecDepth 20000 in
def nX7_loser (S : Nat → Nat → Int32) (L : Nat → Nat → Int64) (p1 : Int32) (p2 : Int32) : Option (Int32 × (Nat → Nat → Int32)) := k_b1 (nX7_isThing S L p1) (fun r2 => if r2 = 0 then nX7_loser_j16 S L else k_b1 (nX7_isOne S L p2) (fun r10 => if r10 = 0 then nX7_loser_j16 S L else k_b1 (nX7_layCoats_1 S L) (fun S30 => k_it (fun st => nX7_loser_l36 p1 p2 st.1 st.2 S30 L) 1000 ((0 : Int32), (0 : Int32)))))
set_option maxHeartbeats 4000000 in
set_option maxRecDepth 100000 in
theorem mX7_loser (l : Launch) (D : va_G) (cs : Nat → ClassId) (a : Nat → Nat) (S : Nat → Nat → Int32) (L : Nat → Nat → Int64) (p1 : Int32) (p2 : Int32) (r9 : Int32) (S9 : (Nat → Nat → Int32)) (hd : nX7_loser S L p1 p2 = some (r9, S9)) : ∀ sz : Nat, Met l yX7_loser wsX7_loser ({ frames := 5, cells := 0, slots := 0, locals := 128 }) (k_Pc D cs [.ref (a 0), .int p1, .int p2] (wX7 cs a S L) sz) (k_Qi D r9 (wX7 cs a S L) (wX7 cs a S9 L) sz) 0 0 (va_A (wX7 cs a S L) sz) := by
  intro sz
  refine Met.ofW (cc := cX7_loser) (maxL := 5) (ret := (some .int)) (by decide) rfl ?_
  intro p e s m args below meth c s₁ B hml hv
  obtain ⟨rfl, hsz, hP, hK, hD0, hNn⟩ := hv
  have hx := B.exec
  have hb := B.bytes
  have hr := B.returns
  have hts := atoms_spec (ws := wsX7_loser) B.pre
  have hown : s.vm.findClass RX7 = some m.cls := findClass_of_methodNamed B.named
  have hlocks := B.notSynchronized
  subst hsz
  obtain ⟨A, hAe⟩ : ∃ A : Nat → Prop, A = va_A (wX7 cs a S L) s.heap.size := ⟨_, rfl⟩
  have hD : va_D A (wX7 cs a S L) := by rw [hAe]; exact hD0.self
  have hA : ∀ q : Nat, s.heap.size ≤ q → A q := fun q h => by rw [hAe]; exact Or.inr h
  have hS : va_S A s.heap s.heap [] := va_S.rf
  have hDA : ∀ (S : Nat → Nat → Int32) (L : Nat → Nat → Int64), va_D A (wX7 cs a S L) := fun S L => k_DA hD rfl
  have hl := lv_entry ([.ref (a 0), .int p1, .int p2]) (n := 5) (Nat.le_of_ble_eq_true rfl)
  rw [lg_entry_eq]
  generalize (lg_sl ([.ref (a 0), .int p1, .int p2]) ++ List.replicate (5 - (lg_sl ([.ref (a 0), .int p1, .int p2])).length) Slot.unset).toArray = ls at hl ⊢
  have hl : lv_has ls 5 [(0, .ref (a 0)), (1, .int p1), (2, .int p2)] := hl
  obtain ⟨Q, hQ⟩ : ∃ Q, Q = MQ below (k_Qi D r9 (wX7 cs a S L) (wX7 cs a S9 L) s.heap.size) ([.ref (a 0), .int p1, .int p2] : List Value).toArray s 0 0 (va_A (wX7 cs a S L) s.heap.size) := ⟨_, rfl⟩
  rw [← hQ]
  have Lo36 : ∀ (n1 : Nat) (x3_36 : Int32) (x4_36 : Int32) (S_36 : Nat → Nat → Int32) (H : Heap) (locs : List Loc) (ls : Array Slot), k_it (fun st => nX7_loser_l36 p1 p2 st.1 st.2 S_36 L) n1 (x3_36, x4_36) = some (r9, S9) → lv_has ls 5 [(0, .ref (a 0)), (1, .int p1), (2, .int p2), (3, .int x3_36), (4, .int x4_36)] → va_P D vwCl (wX7 cs a S_36 L) H → va_S A s.heap H locs → W p l e (headSpec wsX7_loser ({ frames := 5, cells := 0, slots := 0, locals := 128 })).room s m ([.ref (a 0), .int p1, .int p2] : List Value).toArray below meth c H locs 0 0 Q (F0 m 36 ls []) := by
    intro n1
    induction n1 with
    | zero => intro x3_36 x4_36 S_36 H locs ls hd; exact dn_it0 hd
    | succ n1 ih1 =>
      intro x3_36 x4_36 S_36 H locs ls hd hl hP hS
      have hD := hDA S_36 L
      obtain ⟨y1, hd, hy1⟩ := dn_it hd
      have hd : nX7_loser_l36 p1 p2 x3_36 x4_36 S_36 L = some y1 := hd
      have Jo71 : ∀ (x4_71 : Int32) (w0_71 : Int32) (w1_71 : Int32) (H : Heap) (locs : List Loc) (ls : Array Slot), nX7_loser_i36_j71 p1 p2 x4_71 w0_71 w1_71 S_36 L = some y1 → lv_has ls 5 [(0, .ref (a 0)), (1, .int p1), (2, .int p2), (4, .int x4_71)] → va_P D vwCl (wX7 cs a S_36 L) H → va_S A s.heap H locs → W p l e (headSpec wsX7_loser ({ frames := 5, cells := 0, slots := 0, locals := 128 })).room s m ([.ref (a 0), .int p1, .int p2] : List Value).toArray below meth c H locs 0 0 Q (F0 m 71 ls [.int w0_71, .int w1_71]) := by
        intro x4_71 w0_71 w1_71 H locs ls hd hl hP hS
        have hD := hDA S_36 L
        unfold nX7_loser_i36_j71 at hd
        refine lv_ior hx hb dX7_loser_71 ?_
        refine lv_istore_n (lv' := [(3, .int (w1_71 ||| w0_71)), (0, .ref (a 0)), (1, .int p1), (2, .int p2), (4, .int x4_71)]) hx hb dX7_loser_72 rfl hl (by decide) rfl (fun ls hl => ?_)
        refine lv_iinc (v := x4_71 + (1 : Int32)) (lv' := [(4, .int (x4_71 + (1 : Int32))), (3, .int (w1_71 ||| w0_71)), (0, .ref (a 0)), (1, .int p1), (2, .int p2)]) hx hb dX7_loser_73 hl (k := 4) rfl rfl (by decide) rfl (fun ls hl => ?_)
        refine lv_goto (tgt := 36) hx hb dX7_loser_76 (by decide) ?_
        exact ih1 (w1_71 ||| w0_71) (x4_71 + (1 : Int32)) S_36 _ _ _ (dn_bk hd hy1) (lv_sub hl [2, 3, 4, 1, 0] rfl) hP hS
      have Jo70 : ∀ (x4_70 : Int32) (w0_70 : Int32) (H : Heap) (locs : List Loc) (ls : Array Slot), nX7_loser_i36_j70 p1 p2 x4_70 w0_70 S_36 L = some y1 → lv_has ls 5 [(0, .ref (a 0)), (1, .int p1), (2, .int p2), (4, .int x4_70)] → va_P D vwCl (wX7 cs a S_36 L) H → va_S A s.heap H locs → W p l e (headSpec wsX7_loser ({ frames := 5, cells := 0, slots := 0, locals := 128 })).room s m ([.ref (a 0), .int p1, .int p2] : List Value).toArray below meth c H locs 0 0 Q (F0 m 70 ls [.int w0_70]) := by
        intro x4_70 w0_70 H locs ls hd hl hP hS
        have hD := hDA S_36 L
        unfold nX7_loser_i36_j70 at hd
        refine lv_iconst (v := (0 : Int32)) hx hb dX7_loser_70 (by decide) ?_
        exact Jo71 x4_70 (0 : Int32) w0_70 _ _ _ hd (lv_sub hl [0, 1, 2, 3] rfl) hP hS
      unfold nX7_loser_l36 at hd
      refine lv_iload hx hb dX7_loser_36 (lv_at hl 4 rfl) ?_
      refine lv_aload_n hx hb dX7_loser_38 rfl (lv_at hl 0 rfl) ?_
      obtain ⟨r39, hq39, hd⟩ := dn_b1 hd
      have hF := k_self hD hS hA
      refine k_run_i (va_runV (As := []) (rest := [.int x4_36]) ⟨hx, hb, hml, hown, hts⟩ (mX7_many l D cs a S_36 L r39 hq39 _) (cwV 0 hts gX7_loser_X7_many rfl rfl rfl (by decide +kernel) ⟨Nat.le_of_ble_eq_true rfl, Nat.le_of_ble_eq_true rfl⟩) ⟨k_blind, va_recv hK hP (ci := 5) (q0 := 0) rfl rfl, k_pre hP hK hNn hD⟩ rfl rfl hl.1 rfl (lv_room (Nat.le_of_ble_eq_true rfl)) dX7_loser_39 ⟨Nat.le_of_ble_eq_true rfl, Nat.le_of_ble_eq_true rfl⟩) hS hF (fun H locs hP1 hk hS => ?_)
      have hP : va_P D vwCl (wX7 cs a S_36 L) _ := hP1
      have hD := hDA S_36 L
      refine lv_icmp_ge (tgt := 79) hx hb dX7_loser_42 (by decide) (fun c42 => ?_) (fun c42 => ?_)
      · have hd := dn_t c42 hd
        have hd := dn_up hd hy1
        refine lv_iload_n hx hb dX7_loser_79 rfl (lv_at hl 3 rfl) ?_
        obtain ⟨e1, e2⟩ := dn_s2 hd
        exact k_iret hx hb hr hQ hAe e1 (by rw [e2]) hP hS hlocks dX7_loser_80
      · have hd := dn_f c42 hd
        refine lv_iload_n hx hb dX7_loser_45 rfl (lv_at hl 3 rfl) ?_
        refine lv_iload hx hb dX7_loser_46 (lv_at hl 4 rfl) ?_
        refine lv_iload_n hx hb dX7_loser_48 rfl (lv_at hl 2 rfl) ?_
        refine lv_icmp_eq (tgt := 70) hx hb dX7_loser_49 (by decide) (fun c49 => ?_) (fun c49 => ?_)
        · have hd := dn_t c49 hd
          exact Jo70 x4_36 x3_36 _ _ _ hd (lv_sub hl [0, 1, 2, 4] rfl) hP hS
        · have hd := dn_f c49 hd
          refine lv_aload_n hx hb dX7_loser_52 rfl (lv_at hl 0 rfl) ?_
          refine lv_iload_n hx hb dX7_loser_53 rfl (lv_at hl 1 rfl) ?_
          refine lv_iload hx hb dX7_loser_54 (lv_at hl 4 rfl) ?_
          obtain ⟨r56, hq56, hd⟩ := dn_b1 hd
          have hF := k_self hD hS hA
          refine k_run_i (va_runV (As := [.int p1, .int x4_36]) (rest := [.int x3_36]) ⟨hx, hb, hml, hown, hts⟩ (mX7_comesNow l D cs a S_36 L p1 x4_36 r56 hq56 _) (cwV 2 hts gX7_loser_X7_comesNow rfl rfl rfl (by decide +kernel) ⟨Nat.le_of_ble_eq_true rfl, Nat.le_of_ble_eq_true rfl⟩) ⟨k_blind, va_recv hK hP (ci := 5) (q0 := 0) rfl rfl, k_pre hP hK hNn hD⟩ rfl rfl hl.1 rfl (lv_room (Nat.le_of_ble_eq_true rfl)) dX7_loser_56 ⟨Nat.le_of_ble_eq_true rfl, Nat.le_of_ble_eq_true rfl⟩) hS hF (fun H locs hP1 hk hS => ?_)
          have hP : va_P D vwCl (wX7 cs a S_36 L) _ := hP1
          have hD := hDA S_36 L
          refine lv_iload_n hx hb dX7_loser_59 rfl (lv_at hl 2 rfl) ?_
          refine lv_icmp_ne (tgt := 70) hx hb dX7_loser_60 (by decide) (fun c60 => ?_) (fun c60 => ?_)
          · have hd := dn_f c60 hd
            exact Jo70 x4_36 x3_36 _ _ _ hd (lv_sub hl [0, 1, 2, 4] rfl) hP hS
          · have hd := dn_t c60 hd
            refine lv_iconst (v := (1 : Int32)) hx hb dX7_loser_63 (by decide) ?_
            refine lv_iload hx hb dX7_loser_64 (lv_at hl 4 rfl) ?_
            refine lv_ishl hx hb dX7_loser_66 ?_
            refine lv_goto (tgt := 71) hx hb dX7_loser_67 (by decide) ?_
            exact Jo71 x4_36 ((1 : Int32) <<< (x4_36 &&& 31)) x3_36 _ _ _ hd (lv_sub hl [0, 1, 2, 4] rfl) hP hS
  have Jo16 : ∀ (S_16 : Nat → Nat → Int32) (H : Heap) (locs : List Loc) (ls : Array Slot), nX7_loser_j16 S_16 L = some (r9, S9) → lv_has ls 5 [(0, .ref (a 0))] → va_P D vwCl (wX7 cs a S_16 L) H → va_S A s.heap H locs → W p l e (headSpec wsX7_loser ({ frames := 5, cells := 0, slots := 0, locals := 128 })).room s m ([.ref (a 0), .int p1, .int p2] : List Value).toArray below meth c H locs 0 0 Q (F0 m 16 ls []) := by
    intro S_16 H locs ls hd hl hP hS
    have hD := hDA S_16 L
    unfold nX7_loser_j16 at hd
    refine lv_aload_n hx hb dX7_loser_16 rfl (lv_at hl 0 rfl) ?_
    refine lv_bipush (v := (-2 : Int32)) hx hb dX7_loser_17 (by decide) ?_
    obtain ⟨r19, S19, hq19, hd⟩ := dn_b2 hd
    have hF := k_self hD hS hA
    refine k_run_i (va_runV (As := [.int (-2 : Int32)]) (rest := []) ⟨hx, hb, hml, hown, hts⟩ (mX7_bad l D cs a S_16 L (-2 : Int32) r19 S19 hq19 _) (cwV 1 hts gX7_loser_X7_bad rfl rfl rfl (by decide +kernel) ⟨Nat.le_of_ble_eq_true rfl, Nat.le_of_ble_eq_true rfl⟩) ⟨k_blind, va_recv hK hP (ci := 5) (q0 := 0) rfl rfl, k_pre hP hK hNn hD⟩ rfl rfl hl.1 rfl (lv_room (Nat.le_of_ble_eq_true rfl)) dX7_loser_19 ⟨Nat.le_of_ble_eq_true rfl, Nat.le_of_ble_eq_true rfl⟩) hS hF (fun H locs hP1 hk hS => ?_)
    have hP : va_P D vwCl (wX7 cs a S19 L) _ := hP1
    have hD := hDA S19 L
    obtain ⟨e1, e2⟩ := dn_s2 hd
    exact k_iret hx hb hr hQ hAe e1 (by rw [e2]) hP hS hlocks dX7_loser_22
  unfold nX7_loser at hd
  refine lv_aload_n hx hb dX7_loser_0 rfl (lv_at hl 0 rfl) ?_
  refine lv_iload_n hx hb dX7_loser_1 rfl (lv_at hl 1 rfl) ?_
  obtain ⟨r2, hq2, hd⟩ := dn_b1 hd
  have hF := k_self hD hS hA
  refine k_run_i (va_runV (As := [.int p1]) (rest := []) ⟨hx, hb, hml, hown, hts⟩ (mX7_isThing l D cs a S L p1 r2 hq2 _) (cwV 1 hts gX7_loser_X7_isThing rfl rfl rfl (by decide +kernel) ⟨Nat.le_of_ble_eq_true rfl, Nat.le_of_ble_eq_true rfl⟩) ⟨k_blind, va_recv hK hP (ci := 5) (q0 := 0) rfl rfl, k_pre hP hK hNn hD⟩ rfl rfl hl.1 rfl (lv_room (Nat.le_of_ble_eq_true rfl)) dX7_loser_2 ⟨Nat.le_of_ble_eq_true rfl, Nat.le_of_ble_eq_true rfl⟩) hS hF (fun H locs hP1 hk hS => ?_)
  have hP : va_P D vwCl (wX7 cs a S L) _ := hP1
  have hD := hDA S L
  refine lv_if_eq (tgt := 16) hx hb dX7_loser_5 (by decide) (fun c5 => ?_) (fun c5 => ?_)
  · have hd := dn_t c5 hd
    exact Jo16 S _ _ _ hd (lv_sub hl [0] rfl) hP hS
  · have hd := dn_f c5 hd
    refine lv_aload_n hx hb dX7_loser_8 rfl (lv_at hl 0 rfl) ?_
    refine lv_iload_n hx hb dX7_loser_9 rfl (lv_at hl 2 rfl) ?_
    obtain ⟨r10, hq10, hd⟩ := dn_b1 hd
    have hF := k_self hD hS hA
    refine k_run_i (va_runV (As := [.int p2]) (rest := []) ⟨hx, hb, hml, hown, hts⟩ (mX7_isOne l D cs a S L p2 r10 hq10 _) (cwV 1 hts gX7_loser_X7_isOne rfl rfl rfl (by decide +kernel) ⟨Nat.le_of_ble_eq_true rfl, Nat.le_of_ble_eq_true rfl⟩) ⟨k_blind, va_recv hK hP (ci := 5) (q0 := 0) rfl rfl, k_pre hP hK hNn hD⟩ rfl rfl hl.1 rfl (lv_room (Nat.le_of_ble_eq_true rfl)) dX7_loser_10 ⟨Nat.le_of_ble_eq_true rfl, Nat.le_of_ble_eq_true rfl⟩) hS hF (fun H locs hP1 hk hS => ?_)
    have hP : va_P D vwCl (wX7 cs a S L) _ := hP1
    have hD := hDA S L
    refine lv_if_ne (tgt := 23) hx hb dX7_loser_13 (by decide) (fun c13 => ?_) (fun c13 => ?_)
    · have hd := dn_f c13 hd
      refine lv_iconst (v := (0 : Int32)) hx hb dX7_loser_23 (by decide) ?_
      refine lv_istore_n (lv' := [(3, .int (0 : Int32)), (0, .ref (a 0)), (1, .int p1), (2, .int p2)]) hx hb dX7_loser_24 rfl hl (by decide) rfl (fun ls hl => ?_)
      refine lv_aload_n hx hb dX7_loser_25 rfl (lv_at hl 1 rfl) ?_
      refine lv_aload_n hx hb dX7_loser_26 rfl (lv_at hl 1 rfl) ?_
      refine va_get (D := D) (ci := 5) (v := .ref (a 1)) (C := RX7) (T := TX7) (N := 25) hx hb hts (fun w h => List.mem_cons_of_mem _ (List.mem_append_right _ h)) hown hK hP 0 rfl rfl 0 (by decide) (hts (.fieldLink RX7 7 "LeastNeedModel" "told" "[I") (List.mem_of_getElem? (i := 1) rfl)) (fun _ h9 => h9) rfl dX7_loser_27 ?_
      obtain ⟨S30, hq30, hd⟩ := dn_b1 hd
      have hF := k_self hD hS hA
      refine k_run_v (va_runV (As := [.ref (a 1)]) (rest := []) ⟨hx, hb, hml, hown, hts⟩ (mX7_layCoats_1 l D cs a S L S30 hq30 _) (cwV 1 hts gX7_loser_X7_layCoats rfl rfl rfl (by decide +kernel) ⟨Nat.le_of_ble_eq_true rfl, Nat.le_of_ble_eq_true rfl⟩) ⟨k_blind, va_recv hK hP (ci := 5) (q0 := 0) rfl rfl, k_pre hP hK hNn hD⟩ rfl rfl hl.1 rfl (lv_room (Nat.le_of_ble_eq_true rfl)) dX7_loser_30 ⟨Nat.le_of_ble_eq_true rfl, Nat.le_of_ble_eq_true rfl⟩) hS hF (fun H locs hP1 hk hS => ?_)
      have hP : va_P D vwCl (wX7 cs a S30 L) _ := hP1
      have hD := hDA S30 L
      refine lv_iconst (v := (0 : Int32)) hx hb dX7_loser_33 (by decide) ?_
      refine lv_istore (lv' := [(4, .int (0 : Int32)), (3, .int (0 : Int32)), (0, .ref (a 0)), (1, .int p1), (2, .int p2)]) hx hb dX7_loser_34 hl (by decide) rfl (fun ls hl => ?_)
      exact Lo36 1000 (0 : Int32) (0 : Int32) S30 _ _ _ hd (lv_sub hl [2, 3, 4, 1, 0] rfl) hP hS
    · have hd := dn_t c13 hd
      exact Jo16 S _ _ _ hd (lv_sub hl [0] rfl) hP hS
-- LeastNeedModel.note(IIIIII)I
set_option maxRecDepth 20000 in
def nX7_note_j56 (S_56 : Nat → Nat → Int32) (L : Nat → Nat → Int64) : Option (Int32 × (Nat → Nat → Int32)) := k_b2 (nX7_bad S_56 L (-2 : Int32)) (fun r59 S59 => some (r59, S59))
set_option maxRecDepth 20000 in
def nX7_note (S : Nat → Nat → Int32) (L : Nat → Nat → Int64) (p1 : Int32) (p2 : Int32) (p3 : Int32) (p4 : Int32) (p5 : Int32) (p6 : Int32) : Option (Int32 × (Nat → Nat → Int32)) := k_b1 (nX7_isOne S L p1) (fun r2 => if r2 = 0 then nX7_note_j56 S L else k_b1 (nX7_isNeed p2) (fun r9 => if r9 = 0 then nX7_note_j56 S L else k_b1 (nX7_isNeed p3) (fun r16 => if r16 = 0 then nX7_note_j56 S L else k_b1 (nX7_isSort p4) (fun r24 => if r24 = 0 then nX7_note_j56 S L else k_b1 (nX7_in p5.toInt64 (0 : Int64) (99 : Int64)) (fun r37 => if r37 = 0 then nX7_note_j56 S L else k_b1 (nX7_in p6.toInt64 (0 : Int64) (30 : Int64)) (fun r50 => if r50 = 0 then nX7_note_j56 S L else if (S 1 2) = (6 : Int32) then k_b2 (nX7_full S L) (fun r75 S75 => some (r75, S75)) else if ((80 : Int32) + ((6 : Int32) * (S 1 2))) < 0 ∨ 284 ≤ ((80 : Int32) + ((6 : Int32) * (S 1 2))).toNatClampNeg then none else if (((80 : Int32) + ((6 : Int32) * (S 1 2))) + (1 : Int32)) < 0 ∨ 284 ≤ (((80 : Int32) + ((6 : Int32) * (S 1 2))) + (1 : Int32)).toNatClampNeg then none else if (((80 : Int32) + ((6 : Int32) * (S 1 2))) + (2 : Int32)) < 0 ∨ 284 ≤ (((80 : Int32) + ((6 : Int32) * (S 1 2))) + (2 : Int32)).toNatClampNeg then none else if (((80 : Int32) + ((6 : Int32) * (S 1 2))) + (3 : Int32)) < 0 ∨ 284 ≤ (((80 : Int32) + ((6 : Int32) * (S 1 2))) + (3 : Int32)).toNatClampNeg then none else if (((80 : Int32) + ((6 : Int32) * (S 1 2))) + (4 : Int32)) < 0 ∨ 284 ≤ (((80 : Int32) + ((6 : Int32) * (S 1 2))) + (4 : Int32)).toNatClampNeg then none else if (((80 : Int32) + ((6 : Int32) * (S 1 2))) + (5 : Int32)) < 0 ∨ 284 ≤ (((80 : Int32) + ((6 : Int32) * (S 1 2))) + (5 : Int32)).toNatClampNeg then none else some (((k_w (k_w (k_w (k_w (k_w (k_w (k_w S 1 (((80 : Int32) + ((6 : Int32) * (S 1 2))).toNatClampNeg) p1) 1 ((((80 : Int32) + ((6 : Int32) * (S 1 2))) + (1 : Int32)).toNatClampNeg) p2) 1 ((((80 : Int32) + ((6 : Int32) * (S 1 2))) + (2 : Int32)).toNatClampNeg) p3) 1 ((((80 : Int32) + ((6 : Int32) * (S 1 2))) + (3 : Int32)).toNatClampNeg) p4) 1 ((((80 : Int32) + ((6 : Int32) * (S 1 2))) + (4 : Int32)).toNatClampNeg) p5) 1 ((((80 : Int32) + ((6 : Int32) * (S 1 2))) + (5 : Int32)).toNatClampNeg) p6) 1 2 (((k_w (k_w (k_w (k_w (k_w (k_w S 1 (((80 : Int32) + ((6 : Int32) * (S 1 2))).toNatClampNeg) p1) 1 ((((80 : Int32) + ((6 : Int32) * (S 1 2))) + (1 : Int32)).toNatClampNeg) p2) 1 ((((80 : Int32) + ((6 : Int32) * (S 1 2))) + (2 : Int32)).toNatClampNeg) p3) 1 ((((80 : Int32) + ((6 : Int32) * (S 1 2))) + (3 : Int32)).toNatClampNeg) p4) 1 ((((80 : Int32) + ((6 : Int32) * (S 1 2))) + (4 : Int32)).toNatClampNeg) p5) 1 ((((80 : Int32) + ((6 : Int32) * (S 1 2))) + (5 : Int32)).toNatClampNeg) p6) 1 2) + (1 : Int32))) 1 2), (k_w (k_w (k_w (k_w (k_w (k_w (k_w S 1 (((80 : Int32) + ((6 : Int32) * (S 1 2))).toNatClampNeg) p1) 1 ((((80 : Int32) + ((6 : Int32) * (S 1 2))) + (1 : Int32)).toNatClampNeg) p2) 1 ((((80 : Int32) + ((6 : Int32) * (S 1 2))) + (2 : Int32)).toNatClampNeg) p3) 1 ((((80 : Int32) + ((6 : Int32) * (S 1 2))) + (3 : Int32)).toNatClampNeg) p4) 1 ((((80 : Int32) + ((6 : Int32) * (S 1 2))) + (4 : Int32)).toNatClampNeg) p5) 1 ((((80 : Int32) + ((6 : Int32) * (S 1 2))) + (5 : Int32)).toNatClampNeg) p6) 1 2 (((k_w (k_w (k_w (k_w (k_w (k_w S 1 (((80 : Int32) + ((6 : Int32) * (S 1 2))).toNatClampNeg) p1) 1 ((((80 : Int32) + ((6 : Int32) * (S 1 2))) + (1 : Int32)).toNatClampNeg) p2) 1 ((((80 : Int32) + ((6 : Int32) * (S 1 2))) + (2 : Int32)).toNatClampNeg) p3) 1 ((((80 : Int32) + ((6 : Int32) * (S 1 2))) + (3 : Int32)).toNatClampNeg) p4) 1 ((((80 : Int32) + ((6 : Int32) * (S 1 2))) + (4 : Int32)).toNatClampNeg) p5) 1 ((((80 : Int32) + ((6 : Int32) * (S 1 2))) + (5 : Int32)).toNatClampNeg) p6) 1 2) + (1 : Int32))))))))))
set_option maxHeartbeats 4000000 in
set_option maxRecDepth 100000 in
theorem mX7_note (l : Launch) (D : va_G) (cs : Nat → ClassId) (a : Nat → Nat) (S : Nat → Nat → Int32) (L : Nat → Nat → Int64) (p1 : Int32) (p2 : Int32) (p3 : Int32) (p4 : Int32) (p5 : Int32) (p6 : Int32) (r9 : Int32) (S9 : (Nat → Nat → Int32)) (hd : nX7_note S L p1 p2 p3 p4 p5 p6 = some (r9, S9)) : ∀ sz : Nat, Met l yX7_note wsX7_note ({ frames := 2, cells := 0, slots := 0, locals := 46 }) (k_Pc D cs [.ref (a 0), .int p1, .int p2, .int p3, .int p4, .int p5, .int p6] (wX7 cs a S L) sz) (k_Qi D r9 (wX7 cs a S L) (wX7 cs a S9 L) sz) 0 0 (va_A (wX7 cs a S L) sz) := by
  intro sz
  refine Met.ofW (cc := cX7_note) (maxL := 8) (ret := (some .int)) (by decide) rfl ?_
  intro p e s m args below meth c s₁ B hml hv
  obtain ⟨rfl, hsz, hP, hK, hD0, hNn⟩ := hv
  have hx := B.exec
  have hb := B.bytes
  have hr := B.returns
  have hts := atoms_spec (ws := wsX7_note) B.pre
  have hown : s.vm.findClass RX7 = some m.cls := findClass_of_methodNamed B.named
  have hlocks := B.notSynchronized
  subst hsz
  obtain ⟨A, hAe⟩ : ∃ A : Nat → Prop, A = va_A (wX7 cs a S L) s.heap.size := ⟨_, rfl⟩
  have hD : va_D A (wX7 cs a S L) := by rw [hAe]; exact hD0.self
  have hA : ∀ q : Nat, s.heap.size ≤ q → A q := fun q h => by rw [hAe]; exact Or.inr h
  have hS : va_S A s.heap s.heap [] := va_S.rf
  have hDA : ∀ (S : Nat → Nat → Int32) (L : Nat → Nat → Int64), va_D A (wX7 cs a S L) := fun S L => k_DA hD rfl
  have hl := lv_entry ([.ref (a 0), .int p1, .int p2, .int p3, .int p4, .int p5, .int p6]) (n := 8) (Nat.le_of_ble_eq_true rfl)
  rw [lg_entry_eq]
  generalize (lg_sl ([.ref (a 0), .int p1, .int p2, .int p3, .int p4, .int p5, .int p6]) ++ List.replicate (8 - (lg_sl ([.ref (a 0), .int p1, .int p2, .int p3, .int p4, .int p5, .int p6])).length) Slot.unset).toArray = ls at hl ⊢
  have hl : lv_has ls 8 [(0, .ref (a 0)), (1, .int p1), (2, .int p2), (3, .int p3), (4, .int p4), (5, .int p5), (6, .int p6)] := hl
  obtain ⟨Q, hQ⟩ : ∃ Q, Q = MQ below (k_Qi D r9 (wX7 cs a S L) (wX7 cs a S9 L) s.heap.size) ([.ref (a 0), .int p1, .int p2, .int p3, .int p4, .int p5, .int p6] : List Value).toArray s 0 0 (va_A (wX7 cs a S L) s.heap.size) := ⟨_, rfl⟩
  rw [← hQ]
  have Jo56 : ∀ (S_56 : Nat → Nat → Int32) (H : Heap) (locs : List Loc) (ls : Array Slot), nX7_note_j56 S_56 L = some (r9, S9) → lv_has ls 8 [(0, .ref (a 0))] → va_P D vwCl (wX7 cs a S_56 L) H → va_S A s.heap H locs → W p l e (headSpec wsX7_note ({ frames := 2, cells := 0, slots := 0, locals := 46 })).room s m ([.ref (a 0), .int p1, .int p2, .int p3, .int p4, .int p5, .int p6] : List Value).toArray below meth c H locs 0 0 Q (F0 m 56 ls []) := by
    intro S_56 H locs ls hd hl hP hS
    have hD := hDA S_56 L
    unfold nX7_note_j56 at hd
    refine lv_aload_n hx hb dX7_note_56 rfl (lv_at hl 0 rfl) ?_
    refine lv_bipush (v := (-2 : Int32)) hx hb dX7_note_57 (by decide) ?_
    obtain ⟨r59, S59, hq59, hd⟩ := dn_b2 hd
    have hF := k_self hD hS hA
    refine k_run_i (va_runV (As := [.int (-2 : Int32)]) (rest := []) ⟨hx, hb, hml, hown, hts⟩ (mX7_bad l D cs a S_56 L (-2 : Int32) r59 S59 hq59 _) (cwV 1 hts gX7_note_X7_bad rfl rfl rfl (by decide +kernel) ⟨Nat.le_of_ble_eq_true rfl, Nat.le_of_ble_eq_true rfl⟩) ⟨k_blind, va_recv hK hP (ci := 5) (q0 := 0) rfl rfl, k_pre hP hK hNn hD⟩ rfl rfl hl.1 rfl (lv_room (Nat.le_of_ble_eq_true rfl)) dX7_note_59 ⟨Nat.le_of_ble_eq_true rfl, Nat.le_of_ble_eq_true rfl⟩) hS hF (fun H locs hP1 hk hS => ?_)
    have hP : va_P D vwCl (wX7 cs a S59 L) _ := hP1
    have hD := hDA S59 L
    obtain ⟨e1, e2⟩ := dn_s2 hd
    exact k_iret hx hb hr hQ hAe e1 (by rw [e2]) hP hS hlocks dX7_note_62
  unfold nX7_note at hd
  refine lv_aload_n hx hb dX7_note_0 rfl (lv_at hl 0 rfl) ?_
  refine lv_iload_n hx hb dX7_note_1 rfl (lv_at hl 1 rfl) ?_
  obtain ⟨r2, hq2, hd⟩ := dn_b1 hd
  have hF := k_self hD hS hA
  refine k_run_i (va_runV (As := [.int p1]) (rest := []) ⟨hx, hb, hml, hown, hts⟩ (mX7_isOne l D cs a S L p1 r2 hq2 _) (cwV 1 hts gX7_note_X7_isOne rfl rfl rfl (by decide +kernel) ⟨Nat.le_of_ble_eq_true rfl, Nat.le_of_ble_eq_true rfl⟩) ⟨k_blind, va_recv hK hP (ci := 5) (q0 := 0) rfl rfl, k_pre hP hK hNn hD⟩ rfl rfl hl.1 rfl (lv_room (Nat.le_of_ble_eq_true rfl)) dX7_note_2 ⟨Nat.le_of_ble_eq_true rfl, Nat.le_of_ble_eq_true rfl⟩) hS hF (fun H locs hP1 hk hS => ?_)
  have hP : va_P D vwCl (wX7 cs a S L) _ := hP1
  have hD := hDA S L
  refine lv_if_eq (tgt := 56) hx hb dX7_note_5 (by decide) (fun c5 => ?_) (fun c5 => ?_)
  · have hd := dn_t c5 hd
    exact Jo56 S _ _ _ hd (lv_sub hl [0] rfl) hP hS
  · have hd := dn_f c5 hd
    refine lv_iload_n hx hb dX7_note_8 rfl (lv_at hl 2 rfl) ?_
    obtain ⟨r9, hq9, hd⟩ := dn_b1 hd
    have hPc := k_P0 hP
    have hDc : va_D A ([] : va_W) := k_D0
    have hF := k_self hDc hS hA
    refine k_run_i (va_runS (As := [.int p2]) (rest := []) ⟨hx, hb, hml, hown, hts⟩ (mX7_isNeed l D cs  p2 r9 hq9 _) (va_cwS 1 hts gX7_note_X7_isNeed rfl rfl rfl (by decide +kernel) ⟨Nat.le_of_ble_eq_true rfl, Nat.le_of_ble_eq_true rfl⟩) ⟨k_blind, k_pre hPc hK hNn hDc⟩ rfl rfl hl.1 rfl (lv_room (Nat.le_of_ble_eq_true rfl)) dX7_note_9 ⟨Nat.le_of_ble_eq_true rfl, Nat.le_of_ble_eq_true rfl⟩) hS hF (fun H locs hP1 hk hS => ?_)
    have hP : va_P D vwCl (wX7 cs a S L) _ := k_keep hP hk
    refine lv_if_eq (tgt := 56) hx hb dX7_note_12 (by decide) (fun c12 => ?_) (fun c12 => ?_)
    · have hd := dn_t c12 hd
      exact Jo56 S _ _ _ hd (lv_sub hl [0] rfl) hP hS
    · have hd := dn_f c12 hd
      refine lv_iload_n hx hb dX7_note_15 rfl (lv_at hl 3 rfl) ?_
      obtain ⟨r16, hq16, hd⟩ := dn_b1 hd
      have hPc := k_P0 hP
      have hDc : va_D A ([] : va_W) := k_D0
      have hF := k_self hDc hS hA
      refine k_run_i (va_runS (As := [.int p3]) (rest := []) ⟨hx, hb, hml, hown, hts⟩ (mX7_isNeed l D cs  p3 r16 hq16 _) (va_cwS 1 hts gX7_note_X7_isNeed rfl rfl rfl (by decide +kernel) ⟨Nat.le_of_ble_eq_true rfl, Nat.le_of_ble_eq_true rfl⟩) ⟨k_blind, k_pre hPc hK hNn hDc⟩ rfl rfl hl.1 rfl (lv_room (Nat.le_of_ble_eq_true rfl)) dX7_note_16 ⟨Nat.le_of_ble_eq_true rfl, Nat.le_of_ble_eq_true rfl⟩) hS hF (fun H locs hP1 hk hS => ?_)
      have hP : va_P D vwCl (wX7 cs a S L) _ := k_keep hP hk
      refine lv_if_eq (tgt := 56) hx hb dX7_note_19 (by decide) (fun c19 => ?_) (fun c19 => ?_)
      · have hd := dn_t c19 hd
        exact Jo56 S _ _ _ hd (lv_sub hl [0] rfl) hP hS
      · have hd := dn_f c19 hd
        refine lv_iload hx hb dX7_note_22 (lv_at hl 4 rfl) ?_
        obtain ⟨r24, hq24, hd⟩ := dn_b1 hd
        have hPc := k_P0 hP
        have hDc : va_D A ([] : va_W) := k_D0
        have hF := k_self hDc hS hA
        refine k_run_i (va_runS (As := [.int p4]) (rest := []) ⟨hx, hb, hml, hown, hts⟩ (mX7_isSort l D cs  p4 r24 hq24 _) (va_cwS 1 hts gX7_note_X7_isSort rfl rfl rfl (by decide +kernel) ⟨Nat.le_of_ble_eq_true rfl, Nat.le_of_ble_eq_true rfl⟩) ⟨k_blind, k_pre hPc hK hNn hDc⟩ rfl rfl hl.1 rfl (lv_room (Nat.le_of_ble_eq_true rfl)) dX7_note_24 ⟨Nat.le_of_ble_eq_true rfl, Nat.le_of_ble_eq_true rfl⟩) hS hF (fun H locs hP1 hk hS => ?_)
        have hP : va_P D vwCl (wX7 cs a S L) _ := k_keep hP hk
        refine lv_if_eq (tgt := 56) hx hb dX7_note_27 (by decide) (fun c27 => ?_) (fun c27 => ?_)
        · have hd := dn_t c27 hd
          exact Jo56 S _ _ _ hd (lv_sub hl [0] rfl) hP hS
        · have hd := dn_f c27 hd
          refine lv_iload hx hb dX7_note_30 (lv_at hl 5 rfl) ?_
          refine lv_i2l hx hb dX7_note_32 rfl ?_
          refine lv_lconst (v := (0 : Int64)) hx hb dX7_note_33 (by decide) ?_
          refine lv_ldc2 (v := (99 : Int64)) hx hb hown (hts (.constantLong RX7 161 (99)) (List.mem_of_getElem? (i := 1) rfl)) dX7_note_34 ?_
          obtain ⟨r37, hq37, hd⟩ := dn_b1 hd
          have hPc := k_P0 hP
          have hDc : va_D A ([] : va_W) := k_D0
          have hF := k_self hDc hS hA
          refine k_run_i (va_runS (As := [.long p5.toInt64, .long (0 : Int64), .long (99 : Int64)]) (rest := []) ⟨hx, hb, hml, hown, hts⟩ (mX7_in l D cs  p5.toInt64 (0 : Int64) (99 : Int64) r37 hq37 _) (va_cwS 3 hts gX7_note_X7_in rfl rfl rfl (by decide +kernel) ⟨Nat.le_of_ble_eq_true rfl, Nat.le_of_ble_eq_true rfl⟩) ⟨k_blind, k_pre hPc hK hNn hDc⟩ rfl rfl hl.1 rfl (lv_room (Nat.le_of_ble_eq_true rfl)) dX7_note_37 ⟨Nat.le_of_ble_eq_true rfl, Nat.le_of_ble_eq_true rfl⟩) hS hF (fun H locs hP1 hk hS => ?_)
          have hP : va_P D vwCl (wX7 cs a S L) _ := k_keep hP hk
          refine lv_if_eq (tgt := 56) hx hb dX7_note_40 (by decide) (fun c40 => ?_) (fun c40 => ?_)
          · have hd := dn_t c40 hd
            exact Jo56 S _ _ _ hd (lv_sub hl [0] rfl) hP hS
          · have hd := dn_f c40 hd
            refine lv_iload hx hb dX7_note_43 (lv_at hl 6 rfl) ?_
            refine lv_i2l hx hb dX7_note_45 rfl ?_
            refine lv_lconst (v := (0 : Int64)) hx hb dX7_note_46 (by decide) ?_
            refine lv_ldc2 (v := (30 : Int64)) hx hb hown (hts (.constantLong RX7 206 (30)) (List.mem_of_getElem? (i := 2) rfl)) dX7_note_47 ?_
            obtain ⟨r50, hq50, hd⟩ := dn_b1 hd
            have hPc := k_P0 hP
            have hDc : va_D A ([] : va_W) := k_D0
            have hF := k_self hDc hS hA
            refine k_run_i (va_runS (As := [.long p6.toInt64, .long (0 : Int64), .long (30 : Int64)]) (rest := []) ⟨hx, hb, hml, hown, hts⟩ (mX7_in l D cs  p6.toInt64 (0 : Int64) (30 : Int64) r50 hq50 _) (va_cwS 3 hts gX7_note_X7_in rfl rfl rfl (by decide +kernel) ⟨Nat.le_of_ble_eq_true rfl, Nat.le_of_ble_eq_true rfl⟩) ⟨k_blind, k_pre hPc hK hNn hDc⟩ rfl rfl hl.1 rfl (lv_room (Nat.le_of_ble_eq_true rfl)) dX7_note_50 ⟨Nat.le_of_ble_eq_true rfl, Nat.le_of_ble_eq_true rfl⟩) hS hF (fun H locs hP1 hk hS => ?_)
            have hP : va_P D vwCl (wX7 cs a S L) _ := k_keep hP hk
            refine lv_if_ne (tgt := 63) hx hb dX7_note_53 (by decide) (fun c53 => ?_) (fun c53 => ?_)
            · have hd := dn_f c53 hd
              refine lv_aload_n hx hb dX7_note_63 rfl (lv_at hl 0 rfl) ?_
              refine va_get (D := D) (ci := 5) (v := .ref (a 1)) (C := RX7) (T := TX7) (N := 25) hx hb hts (fun w h => List.mem_cons_of_mem _ (List.mem_append_right _ h)) hown hK hP 0 rfl rfl 0 (by decide) (hts (.fieldLink RX7 7 "LeastNeedModel" "told" "[I") (List.mem_of_getElem? (i := 3) rfl)) (fun _ h9 => h9) rfl dX7_note_64 ?_
              refine lv_iconst (v := (2 : Int32)) hx hb dX7_note_67 (by decide) ?_
              refine k_iald (D := D) (k := 2) (by rfl) hx hb hK hP 1 1 rfl rfl (k_in (by decide)) dX7_note_68 ?_
              refine lv_bipush (v := (6 : Int32)) hx hb dX7_note_69 (by decide) ?_
              refine lv_icmp_ne (tgt := 79) hx hb dX7_note_71 (by decide) (fun c71 => ?_) (fun c71 => ?_)
              · have hd := dn_f c71 hd
                refine lv_bipush (v := (80 : Int32)) hx hb dX7_note_79 (by decide) ?_
                refine lv_bipush (v := (6 : Int32)) hx hb dX7_note_81 (by decide) ?_
                refine lv_aload_n hx hb dX7_note_83 rfl (lv_at hl 0 rfl) ?_
                refine va_get (D := D) (ci := 5) (v := .ref (a 1)) (C := RX7) (T := TX7) (N := 25) hx hb hts (fun w h => List.mem_cons_of_mem _ (List.mem_append_right _ h)) hown hK hP 0 rfl rfl 0 (by decide) (hts (.fieldLink RX7 7 "LeastNeedModel" "told" "[I") (List.mem_of_getElem? (i := 3) rfl)) (fun _ h9 => h9) rfl dX7_note_84 ?_
                refine lv_iconst (v := (2 : Int32)) hx hb dX7_note_87 (by decide) ?_
                refine k_iald (D := D) (k := 2) (by rfl) hx hb hK hP 1 1 rfl rfl (k_in (by decide)) dX7_note_88 ?_
                refine lv_imul hx hb dX7_note_89 ?_
                refine lv_iadd hx hb dX7_note_90 ?_
                refine lv_istore (lv' := [(7, .int ((80 : Int32) + ((6 : Int32) * (S 1 2)))), (0, .ref (a 0)), (1, .int p1), (2, .int p2), (3, .int p3), (4, .int p4), (5, .int p5), (6, .int p6)]) hx hb dX7_note_91 hl (by decide) rfl (fun ls hl => ?_)
                refine lv_aload_n hx hb dX7_note_93 rfl (lv_at hl 1 rfl) ?_
                refine va_get (D := D) (ci := 5) (v := .ref (a 1)) (C := RX7) (T := TX7) (N := 25) hx hb hts (fun w h => List.mem_cons_of_mem _ (List.mem_append_right _ h)) hown hK hP 0 rfl rfl 0 (by decide) (hts (.fieldLink RX7 7 "LeastNeedModel" "told" "[I") (List.mem_of_getElem? (i := 3) rfl)) (fun _ h9 => h9) rfl dX7_note_94 ?_
                refine lv_iload hx hb dX7_note_97 (lv_at hl 0 rfl) ?_
                refine lv_iload_n hx hb dX7_note_99 rfl (lv_at hl 2 rfl) ?_
                obtain ⟨hi100, hd⟩ := dn_i hd
                refine k_iast (D := D) (k := ((80 : Int32) + ((6 : Int32) * (S 1 2))).toNatClampNeg) (by rfl) hx hb hK hP hD hS 1 1 rfl rfl hi100 dX7_note_100 (fun H locs hP hD hS => ?_)
                have hP : va_P D vwCl (wX7 cs a (k_w S 1 (((80 : Int32) + ((6 : Int32) * (S 1 2))).toNatClampNeg) p1) L) _ := k_eq hP (wsX7_a1 cs a S L (((80 : Int32) + ((6 : Int32) * (S 1 2))).toNatClampNeg) p1)
                have hD := hDA (k_w S 1 (((80 : Int32) + ((6 : Int32) * (S 1 2))).toNatClampNeg) p1) L
                refine lv_aload_n hx hb dX7_note_101 rfl (lv_at hl 1 rfl) ?_
                refine va_get (D := D) (ci := 5) (v := .ref (a 1)) (C := RX7) (T := TX7) (N := 25) hx hb hts (fun w h => List.mem_cons_of_mem _ (List.mem_append_right _ h)) hown hK hP 0 rfl rfl 0 (by decide) (hts (.fieldLink RX7 7 "LeastNeedModel" "told" "[I") (List.mem_of_getElem? (i := 3) rfl)) (fun _ h9 => h9) rfl dX7_note_102 ?_
                refine lv_iload hx hb dX7_note_105 (lv_at hl 0 rfl) ?_
                refine lv_iconst (v := (1 : Int32)) hx hb dX7_note_107 (by decide) ?_
                refine lv_iadd hx hb dX7_note_108 ?_
                refine lv_iload_n hx hb dX7_note_109 rfl (lv_at hl 3 rfl) ?_
                obtain ⟨hi110, hd⟩ := dn_i hd
                refine k_iast (D := D) (k := (((80 : Int32) + ((6 : Int32) * (S 1 2))) + (1 : Int32)).toNatClampNeg) (by rfl) hx hb hK hP hD hS 1 1 rfl rfl hi110 dX7_note_110 (fun H locs hP hD hS => ?_)
                have hP : va_P D vwCl (wX7 cs a (k_w (k_w S 1 (((80 : Int32) + ((6 : Int32) * (S 1 2))).toNatClampNeg) p1) 1 ((((80 : Int32) + ((6 : Int32) * (S 1 2))) + (1 : Int32)).toNatClampNeg) p2) L) _ := k_eq hP (wsX7_a1 cs a (k_w S 1 (((80 : Int32) + ((6 : Int32) * (S 1 2))).toNatClampNeg) p1) L ((((80 : Int32) + ((6 : Int32) * (S 1 2))) + (1 : Int32)).toNatClampNeg) p2)
                have hD := hDA (k_w (k_w S 1 (((80 : Int32) + ((6 : Int32) * (S 1 2))).toNatClampNeg) p1) 1 ((((80 : Int32) + ((6 : Int32) * (S 1 2))) + (1 : Int32)).toNatClampNeg) p2) L
                refine lv_aload_n hx hb dX7_note_111 rfl (lv_at hl 1 rfl) ?_
                refine va_get (D := D) (ci := 5) (v := .ref (a 1)) (C := RX7) (T := TX7) (N := 25) hx hb hts (fun w h => List.mem_cons_of_mem _ (List.mem_append_right _ h)) hown hK hP 0 rfl rfl 0 (by decide) (hts (.fieldLink RX7 7 "LeastNeedModel" "told" "[I") (List.mem_of_getElem? (i := 3) rfl)) (fun _ h9 => h9) rfl dX7_note_112 ?_
                refine lv_iload hx hb dX7_note_115 (lv_at hl 0 rfl) ?_
                refine lv_iconst (v := (2 : Int32)) hx hb dX7_note_117 (by decide) ?_
                refine lv_iadd hx hb dX7_note_118 ?_
                refine lv_iload_n hx hb dX7_note_119 rfl (lv_at hl 4 rfl) ?_
                obtain ⟨hi120, hd⟩ := dn_i hd
                refine k_iast (D := D) (k := (((80 : Int32) + ((6 : Int32) * (S 1 2))) + (2 : Int32)).toNatClampNeg) (by rfl) hx hb hK hP hD hS 1 1 rfl rfl hi120 dX7_note_120 (fun H locs hP hD hS => ?_)
                have hP : va_P D vwCl (wX7 cs a (k_w (k_w (k_w S 1 (((80 : Int32) + ((6 : Int32) * (S 1 2))).toNatClampNeg) p1) 1 ((((80 : Int32) + ((6 : Int32) * (S 1 2))) + (1 : Int32)).toNatClampNeg) p2) 1 ((((80 : Int32) + ((6 : Int32) * (S 1 2))) + (2 : Int32)).toNatClampNeg) p3) L) _ := k_eq hP (wsX7_a1 cs a (k_w (k_w S 1 (((80 : Int32) + ((6 : Int32) * (S 1 2))).toNatClampNeg) p1) 1 ((((80 : Int32) + ((6 : Int32) * (S 1 2))) + (1 : Int32)).toNatClampNeg) p2) L ((((80 : Int32) + ((6 : Int32) * (S 1 2))) + (2 : Int32)).toNatClampNeg) p3)
                have hD := hDA (k_w (k_w (k_w S 1 (((80 : Int32) + ((6 : Int32) * (S 1 2))).toNatClampNeg) p1) 1 ((((80 : Int32) + ((6 : Int32) * (S 1 2))) + (1 : Int32)).toNatClampNeg) p2) 1 ((((80 : Int32) + ((6 : Int32) * (S 1 2))) + (2 : Int32)).toNatClampNeg) p3) L
                refine lv_aload_n hx hb dX7_note_121 rfl (lv_at hl 1 rfl) ?_
                refine va_get (D := D) (ci := 5) (v := .ref (a 1)) (C := RX7) (T := TX7) (N := 25) hx hb hts (fun w h => List.mem_cons_of_mem _ (List.mem_append_right _ h)) hown hK hP 0 rfl rfl 0 (by decide) (hts (.fieldLink RX7 7 "LeastNeedModel" "told" "[I") (List.mem_of_getElem? (i := 3) rfl)) (fun _ h9 => h9) rfl dX7_note_122 ?_
                refine lv_iload hx hb dX7_note_125 (lv_at hl 0 rfl) ?_
                refine lv_iconst (v := (3 : Int32)) hx hb dX7_note_127 (by decide) ?_
                refine lv_iadd hx hb dX7_note_128 ?_
                refine lv_iload hx hb dX7_note_129 (lv_at hl 5 rfl) ?_
                obtain ⟨hi131, hd⟩ := dn_i hd
                refine k_iast (D := D) (k := (((80 : Int32) + ((6 : Int32) * (S 1 2))) + (3 : Int32)).toNatClampNeg) (by rfl) hx hb hK hP hD hS 1 1 rfl rfl hi131 dX7_note_131 (fun H locs hP hD hS => ?_)
                have hP : va_P D vwCl (wX7 cs a (k_w (k_w (k_w (k_w S 1 (((80 : Int32) + ((6 : Int32) * (S 1 2))).toNatClampNeg) p1) 1 ((((80 : Int32) + ((6 : Int32) * (S 1 2))) + (1 : Int32)).toNatClampNeg) p2) 1 ((((80 : Int32) + ((6 : Int32) * (S 1 2))) + (2 : Int32)).toNatClampNeg) p3) 1 ((((80 : Int32) + ((6 : Int32) * (S 1 2))) + (3 : Int32)).toNatClampNeg) p4) L) _ := k_eq hP (wsX7_a1 cs a (k_w (k_w (k_w S 1 (((80 : Int32) + ((6 : Int32) * (S 1 2))).toNatClampNeg) p1) 1 ((((80 : Int32) + ((6 : Int32) * (S 1 2))) + (1 : Int32)).toNatClampNeg) p2) 1 ((((80 : Int32) + ((6 : Int32) * (S 1 2))) + (2 : Int32)).toNatClampNeg) p3) L ((((80 : Int32) + ((6 : Int32) * (S 1 2))) + (3 : Int32)).toNatClampNeg) p4)
                have hD := hDA (k_w (k_w (k_w (k_w S 1 (((80 : Int32) + ((6 : Int32) * (S 1 2))).toNatClampNeg) p1) 1 ((((80 : Int32) + ((6 : Int32) * (S 1 2))) + (1 : Int32)).toNatClampNeg) p2) 1 ((((80 : Int32) + ((6 : Int32) * (S 1 2))) + (2 : Int32)).toNatClampNeg) p3) 1 ((((80 : Int32) + ((6 : Int32) * (S 1 2))) + (3 : Int32)).toNatClampNeg) p4) L
                refine lv_aload_n hx hb dX7_note_132 rfl (lv_at hl 1 rfl) ?_
                refine va_get (D := D) (ci := 5) (v := .ref (a 1)) (C := RX7) (T := TX7) (N := 25) hx hb hts (fun w h => List.mem_cons_of_mem _ (List.mem_append_right _ h)) hown hK hP 0 rfl rfl 0 (by decide) (hts (.fieldLink RX7 7 "LeastNeedModel" "told" "[I") (List.mem_of_getElem? (i := 3) rfl)) (fun _ h9 => h9) rfl dX7_note_133 ?_
                refine lv_iload hx hb dX7_note_136 (lv_at hl 0 rfl) ?_
                refine lv_iconst (v := (4 : Int32)) hx hb dX7_note_138 (by decide) ?_
                refine lv_iadd hx hb dX7_note_139 ?_
                refine lv_iload hx hb dX7_note_140 (lv_at hl 6 rfl) ?_
                obtain ⟨hi142, hd⟩ := dn_i hd
                refine k_iast (D := D) (k := (((80 : Int32) + ((6 : Int32) * (S 1 2))) + (4 : Int32)).toNatClampNeg) (by rfl) hx hb hK hP hD hS 1 1 rfl rfl hi142 dX7_note_142 (fun H locs hP hD hS => ?_)
                have hP : va_P D vwCl (wX7 cs a (k_w (k_w (k_w (k_w (k_w S 1 (((80 : Int32) + ((6 : Int32) * (S 1 2))).toNatClampNeg) p1) 1 ((((80 : Int32) + ((6 : Int32) * (S 1 2))) + (1 : Int32)).toNatClampNeg) p2) 1 ((((80 : Int32) + ((6 : Int32) * (S 1 2))) + (2 : Int32)).toNatClampNeg) p3) 1 ((((80 : Int32) + ((6 : Int32) * (S 1 2))) + (3 : Int32)).toNatClampNeg) p4) 1 ((((80 : Int32) + ((6 : Int32) * (S 1 2))) + (4 : Int32)).toNatClampNeg) p5) L) _ := k_eq hP (wsX7_a1 cs a (k_w (k_w (k_w (k_w S 1 (((80 : Int32) + ((6 : Int32) * (S 1 2))).toNatClampNeg) p1) 1 ((((80 : Int32) + ((6 : Int32) * (S 1 2))) + (1 : Int32)).toNatClampNeg) p2) 1 ((((80 : Int32) + ((6 : Int32) * (S 1 2))) + (2 : Int32)).toNatClampNeg) p3) 1 ((((80 : Int32) + ((6 : Int32) * (S 1 2))) + (3 : Int32)).toNatClampNeg) p4) L ((((80 : Int32) + ((6 : Int32) * (S 1 2))) + (4 : Int32)).toNatClampNeg) p5)
                have hD := hDA (k_w (k_w (k_w (k_w (k_w S 1 (((80 : Int32) + ((6 : Int32) * (S 1 2))).toNatClampNeg) p1) 1 ((((80 : Int32) + ((6 : Int32) * (S 1 2))) + (1 : Int32)).toNatClampNeg) p2) 1 ((((80 : Int32) + ((6 : Int32) * (S 1 2))) + (2 : Int32)).toNatClampNeg) p3) 1 ((((80 : Int32) + ((6 : Int32) * (S 1 2))) + (3 : Int32)).toNatClampNeg) p4) 1 ((((80 : Int32) + ((6 : Int32) * (S 1 2))) + (4 : Int32)).toNatClampNeg) p5) L
                refine lv_aload_n hx hb dX7_note_143 rfl (lv_at hl 1 rfl) ?_
                refine va_get (D := D) (ci := 5) (v := .ref (a 1)) (C := RX7) (T := TX7) (N := 25) hx hb hts (fun w h => List.mem_cons_of_mem _ (List.mem_append_right _ h)) hown hK hP 0 rfl rfl 0 (by decide) (hts (.fieldLink RX7 7 "LeastNeedModel" "told" "[I") (List.mem_of_getElem? (i := 3) rfl)) (fun _ h9 => h9) rfl dX7_note_144 ?_
                refine lv_iload hx hb dX7_note_147 (lv_at hl 0 rfl) ?_
                refine lv_iconst (v := (5 : Int32)) hx hb dX7_note_149 (by decide) ?_
                refine lv_iadd hx hb dX7_note_150 ?_
                refine lv_iload hx hb dX7_note_151 (lv_at hl 7 rfl) ?_
                obtain ⟨hi153, hd⟩ := dn_i hd
                refine k_iast (D := D) (k := (((80 : Int32) + ((6 : Int32) * (S 1 2))) + (5 : Int32)).toNatClampNeg) (by rfl) hx hb hK hP hD hS 1 1 rfl rfl hi153 dX7_note_153 (fun H locs hP hD hS => ?_)
                have hP : va_P D vwCl (wX7 cs a (k_w (k_w (k_w (k_w (k_w (k_w S 1 (((80 : Int32) + ((6 : Int32) * (S 1 2))).toNatClampNeg) p1) 1 ((((80 : Int32) + ((6 : Int32) * (S 1 2))) + (1 : Int32)).toNatClampNeg) p2) 1 ((((80 : Int32) + ((6 : Int32) * (S 1 2))) + (2 : Int32)).toNatClampNeg) p3) 1 ((((80 : Int32) + ((6 : Int32) * (S 1 2))) + (3 : Int32)).toNatClampNeg) p4) 1 ((((80 : Int32) + ((6 : Int32) * (S 1 2))) + (4 : Int32)).toNatClampNeg) p5) 1 ((((80 : Int32) + ((6 : Int32) * (S 1 2))) + (5 : Int32)).toNatClampNeg) p6) L) _ := k_eq hP (wsX7_a1 cs a (k_w (k_w (k_w (k_w (k_w S 1 (((80 : Int32) + ((6 : Int32) * (S 1 2))).toNatClampNeg) p1) 1 ((((80 : Int32) + ((6 : Int32) * (S 1 2))) + (1 : Int32)).toNatClampNeg) p2) 1 ((((80 : Int32) + ((6 : Int32) * (S 1 2))) + (2 : Int32)).toNatClampNeg) p3) 1 ((((80 : Int32) + ((6 : Int32) * (S 1 2))) + (3 : Int32)).toNatClampNeg) p4) 1 ((((80 : Int32) + ((6 : Int32) * (S 1 2))) + (4 : Int32)).toNatClampNeg) p5) L ((((80 : Int32) + ((6 : Int32) * (S 1 2))) + (5 : Int32)).toNatClampNeg) p6)
                have hD := hDA (k_w (k_w (k_w (k_w (k_w (k_w S 1 (((80 : Int32) + ((6 : Int32) * (S 1 2))).toNatClampNeg) p1) 1 ((((80 : Int32) + ((6 : Int32) * (S 1 2))) + (1 : Int32)).toNatClampNeg) p2) 1 ((((80 : Int32) + ((6 : Int32) * (S 1 2))) + (2 : Int32)).toNatClampNeg) p3) 1 ((((80 : Int32) + ((6 : Int32) * (S 1 2))) + (3 : Int32)).toNatClampNeg) p4) 1 ((((80 : Int32) + ((6 : Int32) * (S 1 2))) + (4 : Int32)).toNatClampNeg) p5) 1 ((((80 : Int32) + ((6 : Int32) * (S 1 2))) + (5 : Int32)).toNatClampNeg) p6) L
                refine lv_aload_n hx hb dX7_note_154 rfl (lv_at hl 1 rfl) ?_
                refine va_get (D := D) (ci := 5) (v := .ref (a 1)) (C := RX7) (T := TX7) (N := 25) hx hb hts (fun w h => List.mem_cons_of_mem _ (List.mem_append_right _ h)) hown hK hP 0 rfl rfl 0 (by decide) (hts (.fieldLink RX7 7 "LeastNeedModel" "told" "[I") (List.mem_of_getElem? (i := 3) rfl)) (fun _ h9 => h9) rfl dX7_note_155 ?_
                refine lv_iconst (v := (2 : Int32)) hx hb dX7_note_158 (by decide) ?_
                refine lv_dup2_11 hx hb dX7_note_159 rfl rfl ?_
                refine k_iald (D := D) (k := 2) (by rfl) hx hb hK hP 1 1 rfl rfl (k_in (by decide)) dX7_note_160 ?_
                refine lv_iconst (v := (1 : Int32)) hx hb dX7_note_161 (by decide) ?_
                refine lv_iadd hx hb dX7_note_162 ?_
                refine k_iast (D := D) (k := 2) (by rfl) hx hb hK hP hD hS 1 1 rfl rfl (k_in (by decide)) dX7_note_163 (fun H locs hP hD hS => ?_)
                have hP : va_P D vwCl (wX7 cs a (k_w (k_w (k_w (k_w (k_w (k_w (k_w S 1 (((80 : Int32) + ((6 : Int32) * (S 1 2))).toNatClampNeg) p1) 1 ((((80 : Int32) + ((6 : Int32) * (S 1 2))) + (1 : Int32)).toNatClampNeg) p2) 1 ((((80 : Int32) + ((6 : Int32) * (S 1 2))) + (2 : Int32)).toNatClampNeg) p3) 1 ((((80 : Int32) + ((6 : Int32) * (S 1 2))) + (3 : Int32)).toNatClampNeg) p4) 1 ((((80 : Int32) + ((6 : Int32) * (S 1 2))) + (4 : Int32)).toNatClampNeg) p5) 1 ((((80 : Int32) + ((6 : Int32) * (S 1 2))) + (5 : Int32)).toNatClampNeg) p6) 1 2 (((k_w (k_w (k_w (k_w (k_w (k_w S 1 (((80 : Int32) + ((6 : Int32) * (S 1 2))).toNatClampNeg) p1) 1 ((((80 : Int32) + ((6 : Int32) * (S 1 2))) + (1 : Int32)).toNatClampNeg) p2) 1 ((((80 : Int32) + ((6 : Int32) * (S 1 2))) + (2 : Int32)).toNatClampNeg) p3) 1 ((((80 : Int32) + ((6 : Int32) * (S 1 2))) + (3 : Int32)).toNatClampNeg) p4) 1 ((((80 : Int32) + ((6 : Int32) * (S 1 2))) + (4 : Int32)).toNatClampNeg) p5) 1 ((((80 : Int32) + ((6 : Int32) * (S 1 2))) + (5 : Int32)).toNatClampNeg) p6) 1 2) + (1 : Int32))) L) _ := k_eq hP (wsX7_a1 cs a (k_w (k_w (k_w (k_w (k_w (k_w S 1 (((80 : Int32) + ((6 : Int32) * (S 1 2))).toNatClampNeg) p1) 1 ((((80 : Int32) + ((6 : Int32) * (S 1 2))) + (1 : Int32)).toNatClampNeg) p2) 1 ((((80 : Int32) + ((6 : Int32) * (S 1 2))) + (2 : Int32)).toNatClampNeg) p3) 1 ((((80 : Int32) + ((6 : Int32) * (S 1 2))) + (3 : Int32)).toNatClampNeg) p4) 1 ((((80 : Int32) + ((6 : Int32) * (S 1 2))) + (4 : Int32)).toNatClampNeg) p5) 1 ((((80 : Int32) + ((6 : Int32) * (S 1 2))) + (5 : Int32)).toNatClampNeg) p6) L 2 (((k_w (k_w (k_w (k_w (k_w (k_w S 1 (((80 : Int32) + ((6 : Int32) * (S 1 2))).toNatClampNeg) p1) 1 ((((80 : Int32) + ((6 : Int32) * (S 1 2))) + (1 : Int32)).toNatClampNeg) p2) 1 ((((80 : Int32) + ((6 : Int32) * (S 1 2))) + (2 : Int32)).toNatClampNeg) p3) 1 ((((80 : Int32) + ((6 : Int32) * (S 1 2))) + (3 : Int32)).toNatClampNeg) p4) 1 ((((80 : Int32) + ((6 : Int32) * (S 1 2))) + (4 : Int32)).toNatClampNeg) p5) 1 ((((80 : Int32) + ((6 : Int32) * (S 1 2))) + (5 : Int32)).toNatClampNeg) p6) 1 2) + (1 : Int32)))
                have hD := hDA (k_w (k_w (k_w (k_w (k_w (k_w (k_w S 1 (((80 : Int32) + ((6 : Int32) * (S 1 2))).toNatClampNeg) p1) 1 ((((80 : Int32) + ((6 : Int32) * (S 1 2))) + (1 : Int32)).toNatClampNeg) p2) 1 ((((80 : Int32) + ((6 : Int32) * (S 1 2))) + (2 : Int32)).toNatClampNeg) p3) 1 ((((80 : Int32) + ((6 : Int32) * (S 1 2))) + (3 : Int32)).toNatClampNeg) p4) 1 ((((80 : Int32) + ((6 : Int32) * (S 1 2))) + (4 : Int32)).toNatClampNeg) p5) 1 ((((80 : Int32) + ((6 : Int32) * (S 1 2))) + (5 : Int32)).toNatClampNeg) p6) 1 2 (((k_w (k_w (k_w (k_w (k_w (k_w S 1 (((80 : Int32) + ((6 : Int32) * (S 1 2))).toNatClampNeg) p1) 1 ((((80 : Int32) + ((6 : Int32) * (S 1 2))) + (1 : Int32)).toNatClampNeg) p2) 1 ((((80 : Int32) + ((6 : Int32) * (S 1 2))) + (2 : Int32)).toNatClampNeg) p3) 1 ((((80 : Int32) + ((6 : Int32) * (S 1 2))) + (3 : Int32)).toNatClampNeg) p4) 1 ((((80 : Int32) + ((6 : Int32) * (S 1 2))) + (4 : Int32)).toNatClampNeg) p5) 1 ((((80 : Int32) + ((6 : Int32) * (S 1 2))) + (5 : Int32)).toNatClampNeg) p6) 1 2) + (1 : Int32))) L
                refine lv_aload_n hx hb dX7_note_164 rfl (lv_at hl 1 rfl) ?_
                refine va_get (D := D) (ci := 5) (v := .ref (a 1)) (C := RX7) (T := TX7) (N := 25) hx hb hts (fun w h => List.mem_cons_of_mem _ (List.mem_append_right _ h)) hown hK hP 0 rfl rfl 0 (by decide) (hts (.fieldLink RX7 7 "LeastNeedModel" "told" "[I") (List.mem_of_getElem? (i := 3) rfl)) (fun _ h9 => h9) rfl dX7_note_165 ?_
                refine lv_iconst (v := (2 : Int32)) hx hb dX7_note_168 (by decide) ?_
                refine k_iald (D := D) (k := 2) (by rfl) hx hb hK hP 1 1 rfl rfl (k_in (by decide)) dX7_note_169 ?_
                obtain ⟨e1, e2⟩ := dn_s2 hd
                exact k_iret hx hb hr hQ hAe e1 (by rw [e2]) hP hS hlocks dX7_note_170
              · have hd := dn_t c71 hd
                refine lv_aload_n hx hb dX7_note_74 rfl (lv_at hl 0 rfl) ?_
                obtain ⟨r75, S75, hq75, hd⟩ := dn_b2 hd
                have hF := k_self hD hS hA
                refine k_run_i (va_runV (As := []) (rest := []) ⟨hx, hb, hml, hown, hts⟩ (mX7_full l D cs a S L r75 S75 hq75 _) (cwV 0 hts gX7_note_X7_full rfl rfl rfl (by decide +kernel) ⟨Nat.le_of_ble_eq_true rfl, Nat.le_of_ble_eq_true rfl⟩) ⟨k_blind, va_recv hK hP (ci := 5) (q0 := 0) rfl rfl, k_pre hP hK hNn hD⟩ rfl rfl hl.1 rfl (lv_room (Nat.le_of_ble_eq_true rfl)) dX7_note_75 ⟨Nat.le_of_ble_eq_true rfl, Nat.le_of_ble_eq_true rfl⟩) hS hF (fun H locs hP1 hk hS => ?_)
                have hP : va_P D vwCl (wX7 cs a S75 L) _ := hP1
                have hD := hDA S75 L
                obtain ⟨e1, e2⟩ := dn_s2 hd
                exact k_iret hx hb hr hQ hAe e1 (by rw [e2]) hP hS hlocks dX7_note_78
            · have hd := dn_t c53 hd
              exact Jo56 S _ _ _ hd (lv_sub hl [0] rfl) hP hS
