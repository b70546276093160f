-- LeastNeedModel.came(IIII)I
set_option maxRecDepth 20000 in
def nX7_came_j53 (S_53 : Nat → Nat → Int32) (L : Nat → Nat → Int64) : Option (Int32 × (Nat → Nat → Int32)) := k_b2 (nX7_bad S_53 L (-2 : Int32)) (fun r56 S56 => some (r56, S56))
set_option maxRecDepth 20000 in
def nX7_came (S : Nat → Nat → Int32) (L : Nat → Nat → Int64) (p1 : Int32) (p2 : Int32) (p3 : Int32) (p4 : Int32) : Option (Int32 × (Nat → Nat → Int32)) := k_b1 (nX7_isThing S L p1) (fun r2 => if r2 = 0 then nX7_came_j53 S L else k_b1 (nX7_isOne S L p2) (fun r10 => if r10 = 0 then nX7_came_j53 S L else k_b1 (nX7_in p3.toInt64 (0 : Int64) (99 : Int64)) (fun r22 => if r22 = 0 then nX7_came_j53 S L else k_b1 (nX7_many S L) (fun r35 => k_b1 (nX7_in p4.toInt64 (-1 : Int64) ((r35 - (1 : Int32)).toInt64)) (fun r41 => if r41 = 0 then nX7_came_j53 S L else if p2 = p4 then nX7_came_j53 S L else if (S 1 3) = (6 : Int32) then k_b2 (nX7_full S L) (fun r72 S72 => some (r72, S72)) else if ((116 : Int32) + ((4 : Int32) * (S 1 3))) < 0 ∨ 284 ≤ ((116 : Int32) + ((4 : Int32) * (S 1 3))).toNatClampNeg then none else if (((116 : Int32) + ((4 : Int32) * (S 1 3))) + (1 : Int32)) < 0 ∨ 284 ≤ (((116 : Int32) + ((4 : Int32) * (S 1 3))) + (1 : Int32)).toNatClampNeg then none else if (((116 : Int32) + ((4 : Int32) * (S 1 3))) + (2 : Int32)) < 0 ∨ 284 ≤ (((116 : Int32) + ((4 : Int32) * (S 1 3))) + (2 : Int32)).toNatClampNeg then none else if (((116 : Int32) + ((4 : Int32) * (S 1 3))) + (3 : Int32)) < 0 ∨ 284 ≤ (((116 : Int32) + ((4 : Int32) * (S 1 3))) + (3 : Int32)).toNatClampNeg then none else some (((k_w (k_w (k_w (k_w (k_w S 1 (((116 : Int32) + ((4 : Int32) * (S 1 3))).toNatClampNeg) p1) 1 ((((116 : Int32) + ((4 : Int32) * (S 1 3))) + (1 : Int32)).toNatClampNeg) p2) 1 ((((116 : Int32) + ((4 : Int32) * (S 1 3))) + (2 : Int32)).toNatClampNeg) p3) 1 ((((116 : Int32) + ((4 : Int32) * (S 1 3))) + (3 : Int32)).toNatClampNeg) p4) 1 3 (((k_w (k_w (k_w (k_w S 1 (((116 : Int32) + ((4 : Int32) * (S 1 3))).toNatClampNeg) p1) 1 ((((116 : Int32) + ((4 : Int32) * (S 1 3))) + (1 : Int32)).toNatClampNeg) p2) 1 ((((116 : Int32) + ((4 : Int32) * (S 1 3))) + (2 : Int32)).toNatClampNeg) p3) 1 ((((116 : Int32) + ((4 : Int32) * (S 1 3))) + (3 : Int32)).toNatClampNeg) p4) 1 3) + (1 : Int32))) 1 3), (k_w (k_w (k_w (k_w (k_w S 1 (((116 : Int32) + ((4 : Int32) * (S 1 3))).toNatClampNeg) p1) 1 ((((116 : Int32) + ((4 : Int32) * (S 1 3))) + (1 : Int32)).toNatClampNeg) p2) 1 ((((116 : Int32) + ((4 : Int32) * (S 1 3))) + (2 : Int32)).toNatClampNeg) p3) 1 ((((116 : Int32) + ((4 : Int32) * (S 1 3))) + (3 : Int32)).toNatClampNeg) p4) 1 3 (((k_w (k_w (k_w (k_w S 1 (((116 : Int32) + ((4 : Int32) * (S 1 3))).toNatClampNeg) p1) 1 ((((116 : Int32) + ((4 : Int32) * (S 1 3))) + (1 : Int32)).toNatClampNeg) p2) 1 ((((116 : Int32) + ((4 : Int32) * (S 1 3))) + (2 : Int32)).toNatClampNeg) p3) 1 ((((116 : Int32) + ((4 : Int32) * (S 1 3))) + (3 : Int32)).toNatClampNeg) p4) 1 3) + (1 : Int32)))))))))
set_option maxHeartbeats 4000000 in
set_option maxRecDepth 100000 in
theorem mX7_came (l : Launch) (D : va_G) (cs : Nat → ClassId) (a : Nat → Nat) (S : Nat → Nat → Int32) (L : Nat → Nat → Int64) (p1 : Int32) (p2 : Int32) (p3 : Int32) (p4 : Int32) (r9 : Int32) (S9 : (Nat → Nat → Int32)) (hd : nX7_came S L p1 p2 p3 p4 = some (r9, S9)) : ∀ sz : Nat, Met l yX7_came wsX7_came ({ frames := 2, cells := 0, slots := 0, locals := 46 }) (k_Pc D cs [.ref (a 0), .int p1, .int p2, .int p3, .int p4] (wX7 cs a S L) sz) (k_Qi D r9 (wX7 cs a S L) (wX7 cs a S9 L) sz) 0 0 (va_A (wX7 cs a S L) sz) := by
  intro sz
  refine Met.ofW (cc := cX7_came) (maxL := 6) (ret := (some .int)) (by decide) rfl ?_
  intro p e s m args below meth c s₁ B hml hv
  obtain ⟨rfl, hsz, hP, hK, hD0, hNn⟩ := hv
  have hx := B.exec
  have hb := B.bytes
  have hr := B.returns
  have hts := atoms_spec (ws := wsX7_came) B.pre
  have hown : s.vm.findClass RX7 = some m.cls := findClass_of_methodNamed B.named
  have hlocks := B.notSynchronized
  subst hsz
  obtain ⟨A, hAe⟩ : ∃ A : Nat → Prop, A = va_A (wX7 cs a S L) s.heap.size := ⟨_, rfl⟩
  have hD : va_D A (wX7 cs a S L) := by rw [hAe]; exact hD0.self
  have hA : ∀ q : Nat, s.heap.size ≤ q → A q := fun q h => by rw [hAe]; exact Or.inr h
  have hS : va_S A s.heap s.heap [] := va_S.rf
  have hDA : ∀ (S : Nat → Nat → Int32) (L : Nat → Nat → Int64), va_D A (wX7 cs a S L) := fun S L => k_DA hD rfl
  have hl := lv_entry ([.ref (a 0), .int p1, .int p2, .int p3, .int p4]) (n := 6) (Nat.le_of_ble_eq_true rfl)
  rw [lg_entry_eq]
  generalize (lg_sl ([.ref (a 0), .int p1, .int p2, .int p3, .int p4]) ++ List.replicate (6 - (lg_sl ([.ref (a 0), .int p1, .int p2, .int p3, .int p4])).length) Slot.unset).toArray = ls at hl ⊢
  have hl : lv_has ls 6 [(0, .ref (a 0)), (1, .int p1), (2, .int p2), (3, .int p3), (4, .int p4)] := hl
  obtain ⟨Q, hQ⟩ : ∃ Q, Q = MQ below (k_Qi D r9 (wX7 cs a S L) (wX7 cs a S9 L) s.heap.size) ([.ref (a 0), .int p1, .int p2, .int p3, .int p4] : List Value).toArray s 0 0 (va_A (wX7 cs a S L) s.heap.size) := ⟨_, rfl⟩
  rw [← hQ]
  have Jo53 : ∀ (S_53 : Nat → Nat → Int32) (H : Heap) (locs : List Loc) (ls : Array Slot), nX7_came_j53 S_53 L = some (r9, S9) → lv_has ls 6 [(0, .ref (a 0))] → va_P D vwCl (wX7 cs a S_53 L) H → va_S A s.heap H locs → W p l e (headSpec wsX7_came ({ frames := 2, cells := 0, slots := 0, locals := 46 })).room s m ([.ref (a 0), .int p1, .int p2, .int p3, .int p4] : List Value).toArray below meth c H locs 0 0 Q (F0 m 53 ls []) := by
    intro S_53 H locs ls hd hl hP hS
    have hD := hDA S_53 L
    unfold nX7_came_j53 at hd
    refine lv_aload_n hx hb dX7_came_53 rfl (lv_at hl 0 rfl) ?_
    refine lv_bipush (v := (-2 : Int32)) hx hb dX7_came_54 (by decide) ?_
    obtain ⟨r56, S56, hq56, hd⟩ := dn_b2 hd
    have hF := k_self hD hS hA
    refine k_run_i (va_runV (As := [.int (-2 : Int32)]) (rest := []) ⟨hx, hb, hml, hown, hts⟩ (mX7_bad l D cs a S_53 L (-2 : Int32) r56 S56 hq56 _) (cwV 1 hts gX7_came_X7_bad rfl rfl rfl (by decide +kernel) ⟨Nat.le_of_ble_eq_true rfl, Nat.le_of_ble_eq_true rfl⟩) ⟨k_blind, va_recv hK hP (ci := 5) (q0 := 0) rfl rfl, k_pre hP hK hNn hD⟩ rfl rfl hl.1 rfl (lv_room (Nat.le_of_ble_eq_true rfl)) dX7_came_56 ⟨Nat.le_of_ble_eq_true rfl, Nat.le_of_ble_eq_true rfl⟩) hS hF (fun H locs hP1 hk hS => ?_)
    have hP : va_P D vwCl (wX7 cs a S56 L) _ := hP1
    have hD := hDA S56 L
    obtain ⟨e1, e2⟩ := dn_s2 hd
    exact k_iret hx hb hr hQ hAe e1 (by rw [e2]) hP hS hlocks dX7_came_59
  unfold nX7_came at hd
  refine lv_aload_n hx hb dX7_came_0 rfl (lv_at hl 0 rfl) ?_
  refine lv_iload_n hx hb dX7_came_1 rfl (lv_at hl 1 rfl) ?_
  obtain ⟨r2, hq2, hd⟩ := dn_b1 hd
  have hF := k_self hD hS hA
  refine k_run_i (va_runV (As := [.int p1]) (rest := []) ⟨hx, hb, hml, hown, hts⟩ (mX7_isThing l D cs a S L p1 r2 hq2 _) (cwV 1 hts gX7_came_X7_isThing rfl rfl rfl (by decide +kernel) ⟨Nat.le_of_ble_eq_true rfl, Nat.le_of_ble_eq_true rfl⟩) ⟨k_blind, va_recv hK hP (ci := 5) (q0 := 0) rfl rfl, k_pre hP hK hNn hD⟩ rfl rfl hl.1 rfl (lv_room (Nat.le_of_ble_eq_true rfl)) dX7_came_2 ⟨Nat.le_of_ble_eq_true rfl, Nat.le_of_ble_eq_true rfl⟩) hS hF (fun H locs hP1 hk hS => ?_)
  have hP : va_P D vwCl (wX7 cs a S L) _ := hP1
  have hD := hDA S L
  refine lv_if_eq (tgt := 53) hx hb dX7_came_5 (by decide) (fun c5 => ?_) (fun c5 => ?_)
  · have hd := dn_t c5 hd
    exact Jo53 S _ _ _ hd (lv_sub hl [0] rfl) hP hS
  · have hd := dn_f c5 hd
    refine lv_aload_n hx hb dX7_came_8 rfl (lv_at hl 0 rfl) ?_
    refine lv_iload_n hx hb dX7_came_9 rfl (lv_at hl 2 rfl) ?_
    obtain ⟨r10, hq10, hd⟩ := dn_b1 hd
    have hF := k_self hD hS hA
    refine k_run_i (va_runV (As := [.int p2]) (rest := []) ⟨hx, hb, hml, hown, hts⟩ (mX7_isOne l D cs a S L p2 r10 hq10 _) (cwV 1 hts gX7_came_X7_isOne rfl rfl rfl (by decide +kernel) ⟨Nat.le_of_ble_eq_true rfl, Nat.le_of_ble_eq_true rfl⟩) ⟨k_blind, va_recv hK hP (ci := 5) (q0 := 0) rfl rfl, k_pre hP hK hNn hD⟩ rfl rfl hl.1 rfl (lv_room (Nat.le_of_ble_eq_true rfl)) dX7_came_10 ⟨Nat.le_of_ble_eq_true rfl, Nat.le_of_ble_eq_true rfl⟩) hS hF (fun H locs hP1 hk hS => ?_)
    have hP : va_P D vwCl (wX7 cs a S L) _ := hP1
    have hD := hDA S L
    refine lv_if_eq (tgt := 53) hx hb dX7_came_13 (by decide) (fun c13 => ?_) (fun c13 => ?_)
    · have hd := dn_t c13 hd
      exact Jo53 S _ _ _ hd (lv_sub hl [0] rfl) hP hS
    · have hd := dn_f c13 hd
      refine lv_iload_n hx hb dX7_came_16 rfl (lv_at hl 3 rfl) ?_
      refine lv_i2l hx hb dX7_came_17 rfl ?_
      refine lv_lconst (v := (0 : Int64)) hx hb dX7_came_18 (by decide) ?_
      refine lv_ldc2 (v := (99 : Int64)) hx hb hown (hts (.constantLong RX7 161 (99)) (List.mem_of_getElem? (i := 1) rfl)) dX7_came_19 ?_
      obtain ⟨r22, hq22, hd⟩ := dn_b1 hd
      have hPc := k_P0 hP
      have hDc : va_D A ([] : va_W) := k_D0
      have hF := k_self hDc hS hA
      refine k_run_i (va_runS (As := [.long p3.toInt64, .long (0 : Int64), .long (99 : Int64)]) (rest := []) ⟨hx, hb, hml, hown, hts⟩ (mX7_in l D cs  p3.toInt64 (0 : Int64) (99 : Int64) r22 hq22 _) (va_cwS 3 hts gX7_came_X7_in rfl rfl rfl (by decide +kernel) ⟨Nat.le_of_ble_eq_true rfl, Nat.le_of_ble_eq_true rfl⟩) ⟨k_blind, k_pre hPc hK hNn hDc⟩ rfl rfl hl.1 rfl (lv_room (Nat.le_of_ble_eq_true rfl)) dX7_came_22 ⟨Nat.le_of_ble_eq_true rfl, Nat.le_of_ble_eq_true rfl⟩) hS hF (fun H locs hP1 hk hS => ?_)
      have hP : va_P D vwCl (wX7 cs a S L) _ := k_keep hP hk
      refine lv_if_eq (tgt := 53) hx hb dX7_came_25 (by decide) (fun c25 => ?_) (fun c25 => ?_)
      · have hd := dn_t c25 hd
        exact Jo53 S _ _ _ hd (lv_sub hl [0] rfl) hP hS
      · have hd := dn_f c25 hd
        refine lv_iload hx hb dX7_came_28 (lv_at hl 4 rfl) ?_
        refine lv_i2l hx hb dX7_came_30 rfl ?_
        refine lv_ldc2 (v := (-1 : Int64)) hx hb hown (hts (.constantLong RX7 208 (-1)) (List.mem_of_getElem? (i := 2) rfl)) dX7_came_31 ?_
        refine lv_aload_n hx hb dX7_came_34 rfl (lv_at hl 0 rfl) ?_
        obtain ⟨r35, hq35, hd⟩ := dn_b1 hd
        have hF := k_self hD hS hA
        refine k_run_i (va_runV (As := []) (rest := [.long (-1 : Int64), .long p4.toInt64]) ⟨hx, hb, hml, hown, hts⟩ (mX7_many l D cs a S L r35 hq35 _) (cwV 0 hts gX7_came_X7_many rfl rfl rfl (by decide +kernel) ⟨Nat.le_of_ble_eq_true rfl, Nat.le_of_ble_eq_true rfl⟩) ⟨k_blind, va_recv hK hP (ci := 5) (q0 := 0) rfl rfl, k_pre hP hK hNn hD⟩ rfl rfl hl.1 rfl (lv_room (Nat.le_of_ble_eq_true rfl)) dX7_came_35 ⟨Nat.le_of_ble_eq_true rfl, Nat.le_of_ble_eq_true rfl⟩) hS hF (fun H locs hP1 hk hS => ?_)
        have hP : va_P D vwCl (wX7 cs a S L) _ := hP1
        have hD := hDA S L
        refine lv_iconst (v := (1 : Int32)) hx hb dX7_came_38 (by decide) ?_
        refine lv_isub hx hb dX7_came_39 ?_
        refine lv_i2l hx hb dX7_came_40 rfl ?_
        obtain ⟨r41, hq41, hd⟩ := dn_b1 hd
        have hPc := k_P0 hP
        have hDc : va_D A ([] : va_W) := k_D0
        have hF := k_self hDc hS hA
        refine k_run_i (va_runS (As := [.long p4.toInt64, .long (-1 : Int64), .long ((r35 - (1 : Int32)).toInt64)]) (rest := []) ⟨hx, hb, hml, hown, hts⟩ (mX7_in l D cs  p4.toInt64 (-1 : Int64) ((r35 - (1 : Int32)).toInt64) r41 hq41 _) (va_cwS 3 hts gX7_came_X7_in rfl rfl rfl (by decide +kernel) ⟨Nat.le_of_ble_eq_true rfl, Nat.le_of_ble_eq_true rfl⟩) ⟨k_blind, k_pre hPc hK hNn hDc⟩ rfl rfl hl.1 rfl (lv_room (Nat.le_of_ble_eq_true rfl)) dX7_came_41 ⟨Nat.le_of_ble_eq_true rfl, Nat.le_of_ble_eq_true rfl⟩) hS hF (fun H locs hP1 hk hS => ?_)
        have hP : va_P D vwCl (wX7 cs a S L) _ := k_keep hP hk
        refine lv_if_eq (tgt := 53) hx hb dX7_came_44 (by decide) (fun c44 => ?_) (fun c44 => ?_)
        · have hd := dn_t c44 hd
          exact Jo53 S _ _ _ hd (lv_sub hl [0] rfl) hP hS
        · have hd := dn_f c44 hd
          refine lv_iload_n hx hb dX7_came_47 rfl (lv_at hl 2 rfl) ?_
          refine lv_iload hx hb dX7_came_48 (lv_at hl 4 rfl) ?_
          refine lv_icmp_ne (tgt := 60) hx hb dX7_came_50 (by decide) (fun c50 => ?_) (fun c50 => ?_)
          · have hd := dn_f c50 hd
            refine lv_aload_n hx hb dX7_came_60 rfl (lv_at hl 0 rfl) ?_
            refine va_get (D := D) (ci := 5) (v := .ref (a 1)) (C := RX7) (T := TX7) (N := 25) hx hb hts (fun w h => List.mem_cons_of_mem _ (List.mem_append_right _ h)) hown hK hP 0 rfl rfl 0 (by decide) (hts (.fieldLink RX7 7 "LeastNeedModel" "told" "[I") (List.mem_of_getElem? (i := 3) rfl)) (fun _ h9 => h9) rfl dX7_came_61 ?_
            refine lv_iconst (v := (3 : Int32)) hx hb dX7_came_64 (by decide) ?_
            refine k_iald (D := D) (k := 3) (by rfl) hx hb hK hP 1 1 rfl rfl (k_in (by decide)) dX7_came_65 ?_
            refine lv_bipush (v := (6 : Int32)) hx hb dX7_came_66 (by decide) ?_
            refine lv_icmp_ne (tgt := 76) hx hb dX7_came_68 (by decide) (fun c68 => ?_) (fun c68 => ?_)
            · have hd := dn_f c68 hd
              refine lv_bipush (v := (116 : Int32)) hx hb dX7_came_76 (by decide) ?_
              refine lv_iconst (v := (4 : Int32)) hx hb dX7_came_78 (by decide) ?_
              refine lv_aload_n hx hb dX7_came_79 rfl (lv_at hl 0 rfl) ?_
              refine va_get (D := D) (ci := 5) (v := .ref (a 1)) (C := RX7) (T := TX7) (N := 25) hx hb hts (fun w h => List.mem_cons_of_mem _ (List.mem_append_right _ h)) hown hK hP 0 rfl rfl 0 (by decide) (hts (.fieldLink RX7 7 "LeastNeedModel" "told" "[I") (List.mem_of_getElem? (i := 3) rfl)) (fun _ h9 => h9) rfl dX7_came_80 ?_
              refine lv_iconst (v := (3 : Int32)) hx hb dX7_came_83 (by decide) ?_
              refine k_iald (D := D) (k := 3) (by rfl) hx hb hK hP 1 1 rfl rfl (k_in (by decide)) dX7_came_84 ?_
              refine lv_imul hx hb dX7_came_85 ?_
              refine lv_iadd hx hb dX7_came_86 ?_
              refine lv_istore (lv' := [(5, .int ((116 : Int32) + ((4 : Int32) * (S 1 3)))), (0, .ref (a 0)), (1, .int p1), (2, .int p2), (3, .int p3), (4, .int p4)]) hx hb dX7_came_87 hl (by decide) rfl (fun ls hl => ?_)
              refine lv_aload_n hx hb dX7_came_89 rfl (lv_at hl 1 rfl) ?_
              refine va_get (D := D) (ci := 5) (v := .ref (a 1)) (C := RX7) (T := TX7) (N := 25) hx hb hts (fun w h => List.mem_cons_of_mem _ (List.mem_append_right _ h)) hown hK hP 0 rfl rfl 0 (by decide) (hts (.fieldLink RX7 7 "LeastNeedModel" "told" "[I") (List.mem_of_getElem? (i := 3) rfl)) (fun _ h9 => h9) rfl dX7_came_90 ?_
              refine lv_iload hx hb dX7_came_93 (lv_at hl 0 rfl) ?_
              refine lv_iload_n hx hb dX7_came_95 rfl (lv_at hl 2 rfl) ?_
              obtain ⟨hi96, hd⟩ := dn_i hd
              refine k_iast (D := D) (k := ((116 : Int32) + ((4 : Int32) * (S 1 3))).toNatClampNeg) (by rfl) hx hb hK hP hD hS 1 1 rfl rfl hi96 dX7_came_96 (fun H locs hP hD hS => ?_)
              have hP : va_P D vwCl (wX7 cs a (k_w S 1 (((116 : Int32) + ((4 : Int32) * (S 1 3))).toNatClampNeg) p1) L) _ := k_eq hP (wsX7_a1 cs a S L (((116 : Int32) + ((4 : Int32) * (S 1 3))).toNatClampNeg) p1)
              have hD := hDA (k_w S 1 (((116 : Int32) + ((4 : Int32) * (S 1 3))).toNatClampNeg) p1) L
              refine lv_aload_n hx hb dX7_came_97 rfl (lv_at hl 1 rfl) ?_
              refine va_get (D := D) (ci := 5) (v := .ref (a 1)) (C := RX7) (T := TX7) (N := 25) hx hb hts (fun w h => List.mem_cons_of_mem _ (List.mem_append_right _ h)) hown hK hP 0 rfl rfl 0 (by decide) (hts (.fieldLink RX7 7 "LeastNeedModel" "told" "[I") (List.mem_of_getElem? (i := 3) rfl)) (fun _ h9 => h9) rfl dX7_came_98 ?_
              refine lv_iload hx hb dX7_came_101 (lv_at hl 0 rfl) ?_
              refine lv_iconst (v := (1 : Int32)) hx hb dX7_came_103 (by decide) ?_
              refine lv_iadd hx hb dX7_came_104 ?_
              refine lv_iload_n hx hb dX7_came_105 rfl (lv_at hl 3 rfl) ?_
              obtain ⟨hi106, hd⟩ := dn_i hd
              refine k_iast (D := D) (k := (((116 : Int32) + ((4 : Int32) * (S 1 3))) + (1 : Int32)).toNatClampNeg) (by rfl) hx hb hK hP hD hS 1 1 rfl rfl hi106 dX7_came_106 (fun H locs hP hD hS => ?_)
              have hP : va_P D vwCl (wX7 cs a (k_w (k_w S 1 (((116 : Int32) + ((4 : Int32) * (S 1 3))).toNatClampNeg) p1) 1 ((((116 : Int32) + ((4 : Int32) * (S 1 3))) + (1 : Int32)).toNatClampNeg) p2) L) _ := k_eq hP (wsX7_a1 cs a (k_w S 1 (((116 : Int32) + ((4 : Int32) * (S 1 3))).toNatClampNeg) p1) L ((((116 : Int32) + ((4 : Int32) * (S 1 3))) + (1 : Int32)).toNatClampNeg) p2)
              have hD := hDA (k_w (k_w S 1 (((116 : Int32) + ((4 : Int32) * (S 1 3))).toNatClampNeg) p1) 1 ((((116 : Int32) + ((4 : Int32) * (S 1 3))) + (1 : Int32)).toNatClampNeg) p2) L
              refine lv_aload_n hx hb dX7_came_107 rfl (lv_at hl 1 rfl) ?_
              refine va_get (D := D) (ci := 5) (v := .ref (a 1)) (C := RX7) (T := TX7) (N := 25) hx hb hts (fun w h => List.mem_cons_of_mem _ (List.mem_append_right _ h)) hown hK hP 0 rfl rfl 0 (by decide) (hts (.fieldLink RX7 7 "LeastNeedModel" "told" "[I") (List.mem_of_getElem? (i := 3) rfl)) (fun _ h9 => h9) rfl dX7_came_108 ?_
              refine lv_iload hx hb dX7_came_111 (lv_at hl 0 rfl) ?_
              refine lv_iconst (v := (2 : Int32)) hx hb dX7_came_113 (by decide) ?_
              refine lv_iadd hx hb dX7_came_114 ?_
              refine lv_iload_n hx hb dX7_came_115 rfl (lv_at hl 4 rfl) ?_
              obtain ⟨hi116, hd⟩ := dn_i hd
              refine k_iast (D := D) (k := (((116 : Int32) + ((4 : Int32) * (S 1 3))) + (2 : Int32)).toNatClampNeg) (by rfl) hx hb hK hP hD hS 1 1 rfl rfl hi116 dX7_came_116 (fun H locs hP hD hS => ?_)
              have hP : va_P D vwCl (wX7 cs a (k_w (k_w (k_w S 1 (((116 : Int32) + ((4 : Int32) * (S 1 3))).toNatClampNeg) p1) 1 ((((116 : Int32) + ((4 : Int32) * (S 1 3))) + (1 : Int32)).toNatClampNeg) p2) 1 ((((116 : Int32) + ((4 : Int32) * (S 1 3))) + (2 : Int32)).toNatClampNeg) p3) L) _ := k_eq hP (wsX7_a1 cs a (k_w (k_w S 1 (((116 : Int32) + ((4 : Int32) * (S 1 3))).toNatClampNeg) p1) 1 ((((116 : Int32) + ((4 : Int32) * (S 1 3))) + (1 : Int32)).toNatClampNeg) p2) L ((((116 : Int32) + ((4 : Int32) * (S 1 3))) + (2 : Int32)).toNatClampNeg) p3)
              have hD := hDA (k_w (k_w (k_w S 1 (((116 : Int32) + ((4 : Int32) * (S 1 3))).toNatClampNeg) p1) 1 ((((116 : Int32) + ((4 : Int32) * (S 1 3))) + (1 : Int32)).toNatClampNeg) p2) 1 ((((116 : Int32) + ((4 : Int32) * (S 1 3))) + (2 : Int32)).toNatClampNeg) p3) L
              refine lv_aload_n hx hb dX7_came_117 rfl (lv_at hl 1 rfl) ?_
              refine va_get (D := D) (ci := 5) (v := .ref (a 1)) (C := RX7) (T := TX7) (N := 25) hx hb hts (fun w h => List.mem_cons_of_mem _ (List.mem_append_right _ h)) hown hK hP 0 rfl rfl 0 (by decide) (hts (.fieldLink RX7 7 "LeastNeedModel" "told" "[I") (List.mem_of_getElem? (i := 3) rfl)) (fun _ h9 => h9) rfl dX7_came_118 ?_
              refine lv_iload hx hb dX7_came_121 (lv_at hl 0 rfl) ?_
              refine lv_iconst (v := (3 : Int32)) hx hb dX7_came_123 (by decide) ?_
              refine lv_iadd hx hb dX7_came_124 ?_
              refine lv_iload hx hb dX7_came_125 (lv_at hl 5 rfl) ?_
              obtain ⟨hi127, hd⟩ := dn_i hd
              refine k_iast (D := D) (k := (((116 : Int32) + ((4 : Int32) * (S 1 3))) + (3 : Int32)).toNatClampNeg) (by rfl) hx hb hK hP hD hS 1 1 rfl rfl hi127 dX7_came_127 (fun H locs hP hD hS => ?_)
              have hP : va_P D vwCl (wX7 cs a (k_w (k_w (k_w (k_w S 1 (((116 : Int32) + ((4 : Int32) * (S 1 3))).toNatClampNeg) p1) 1 ((((116 : Int32) + ((4 : Int32) * (S 1 3))) + (1 : Int32)).toNatClampNeg) p2) 1 ((((116 : Int32) + ((4 : Int32) * (S 1 3))) + (2 : Int32)).toNatClampNeg) p3) 1 ((((116 : Int32) + ((4 : Int32) * (S 1 3))) + (3 : Int32)).toNatClampNeg) p4) L) _ := k_eq hP (wsX7_a1 cs a (k_w (k_w (k_w S 1 (((116 : Int32) + ((4 : Int32) * (S 1 3))).toNatClampNeg) p1) 1 ((((116 : Int32) + ((4 : Int32) * (S 1 3))) + (1 : Int32)).toNatClampNeg) p2) 1 ((((116 : Int32) + ((4 : Int32) * (S 1 3))) + (2 : Int32)).toNatClampNeg) p3) L ((((116 : Int32) + ((4 : Int32) * (S 1 3))) + (3 : Int32)).toNatClampNeg) p4)
              have hD := hDA (k_w (k_w (k_w (k_w S 1 (((116 : Int32) + ((4 : Int32) * (S 1 3))).toNatClampNeg) p1) 1 ((((116 : Int32) + ((4 : Int32) * (S 1 3))) + (1 : Int32)).toNatClampNeg) p2) 1 ((((116 : Int32) + ((4 : Int32) * (S 1 3))) + (2 : Int32)).toNatClampNeg) p3) 1 ((((116 : Int32) + ((4 : Int32) * (S 1 3))) + (3 : Int32)).toNatClampNeg) p4) L
              refine lv_aload_n hx hb dX7_came_128 rfl (lv_at hl 1 rfl) ?_
              refine va_get (D := D) (ci := 5) (v := .ref (a 1)) (C := RX7) (T := TX7) (N := 25) hx hb hts (fun w h => List.mem_cons_of_mem _ (List.mem_append_right _ h)) hown hK hP 0 rfl rfl 0 (by decide) (hts (.fieldLink RX7 7 "LeastNeedModel" "told" "[I") (List.mem_of_getElem? (i := 3) rfl)) (fun _ h9 => h9) rfl dX7_came_129 ?_
              refine lv_iconst (v := (3 : Int32)) hx hb dX7_came_132 (by decide) ?_
              refine lv_dup2_11 hx hb dX7_came_133 rfl rfl ?_
              refine k_iald (D := D) (k := 3) (by rfl) hx hb hK hP 1 1 rfl rfl (k_in (by decide)) dX7_came_134 ?_
              refine lv_iconst (v := (1 : Int32)) hx hb dX7_came_135 (by decide) ?_
              refine lv_iadd hx hb dX7_came_136 ?_
              refine k_iast (D := D) (k := 3) (by rfl) hx hb hK hP hD hS 1 1 rfl rfl (k_in (by decide)) dX7_came_137 (fun H locs hP hD hS => ?_)
              have hP : va_P D vwCl (wX7 cs a (k_w (k_w (k_w (k_w (k_w S 1 (((116 : Int32) + ((4 : Int32) * (S 1 3))).toNatClampNeg) p1) 1 ((((116 : Int32) + ((4 : Int32) * (S 1 3))) + (1 : Int32)).toNatClampNeg) p2) 1 ((((116 : Int32) + ((4 : Int32) * (S 1 3))) + (2 : Int32)).toNatClampNeg) p3) 1 ((((116 : Int32) + ((4 : Int32) * (S 1 3))) + (3 : Int32)).toNatClampNeg) p4) 1 3 (((k_w (k_w (k_w (k_w S 1 (((116 : Int32) + ((4 : Int32) * (S 1 3))).toNatClampNeg) p1) 1 ((((116 : Int32) + ((4 : Int32) * (S 1 3))) + (1 : Int32)).toNatClampNeg) p2) 1 ((((116 : Int32) + ((4 : Int32) * (S 1 3))) + (2 : Int32)).toNatClampNeg) p3) 1 ((((116 : Int32) + ((4 : Int32) * (S 1 3))) + (3 : Int32)).toNatClampNeg) p4) 1 3) + (1 : Int32))) L) _ := k_eq hP (wsX7_a1 cs a (k_w (k_w (k_w (k_w S 1 (((116 : Int32) + ((4 : Int32) * (S 1 3))).toNatClampNeg) p1) 1 ((((116 : Int32) + ((4 : Int32) * (S 1 3))) + (1 : Int32)).toNatClampNeg) p2) 1 ((((116 : Int32) + ((4 : Int32) * (S 1 3))) + (2 : Int32)).toNatClampNeg) p3) 1 ((((116 : Int32) + ((4 : Int32) * (S 1 3))) + (3 : Int32)).toNatClampNeg) p4) L 3 (((k_w (k_w (k_w (k_w S 1 (((116 : Int32) + ((4 : Int32) * (S 1 3))).toNatClampNeg) p1) 1 ((((116 : Int32) + ((4 : Int32) * (S 1 3))) + (1 : Int32)).toNatClampNeg) p2) 1 ((((116 : Int32) + ((4 : Int32) * (S 1 3))) + (2 : Int32)).toNatClampNeg) p3) 1 ((((116 : Int32) + ((4 : Int32) * (S 1 3))) + (3 : Int32)).toNatClampNeg) p4) 1 3) + (1 : Int32)))
              have hD := hDA (k_w (k_w (k_w (k_w (k_w S 1 (((116 : Int32) + ((4 : Int32) * (S 1 3))).toNatClampNeg) p1) 1 ((((116 : Int32) + ((4 : Int32) * (S 1 3))) + (1 : Int32)).toNatClampNeg) p2) 1 ((((116 : Int32) + ((4 : Int32) * (S 1 3))) + (2 : Int32)).toNatClampNeg) p3) 1 ((((116 : Int32) + ((4 : Int32) * (S 1 3))) + (3 : Int32)).toNatClampNeg) p4) 1 3 (((k_w (k_w (k_w (k_w S 1 (((116 : Int32) + ((4 : Int32) * (S 1 3))).toNatClampNeg) p1) 1 ((((116 : Int32) + ((4 : Int32) * (S 1 3))) + (1 : Int32)).toNatClampNeg) p2) 1 ((((116 : Int32) + ((4 : Int32) * (S 1 3))) + (2 : Int32)).toNatClampNeg) p3) 1 ((((116 : Int32) + ((4 : Int32) * (S 1 3))) + (3 : Int32)).toNatClampNeg) p4) 1 3) + (1 : Int32))) L
              refine lv_aload_n hx hb dX7_came_138 rfl (lv_at hl 1 rfl) ?_
              refine va_get (D := D) (ci := 5) (v := .ref (a 1)) (C := RX7) (T := TX7) (N := 25) hx hb hts (fun w h => List.mem_cons_of_mem _ (List.mem_append_right _ h)) hown hK hP 0 rfl rfl 0 (by decide) (hts (.fieldLink RX7 7 "LeastNeedModel" "told" "[I") (List.mem_of_getElem? (i := 3) rfl)) (fun _ h9 => h9) rfl dX7_came_139 ?_
              refine lv_iconst (v := (3 : Int32)) hx hb dX7_came_142 (by decide) ?_
              refine k_iald (D := D) (k := 3) (by rfl) hx hb hK hP 1 1 rfl rfl (k_in (by decide)) dX7_came_143 ?_
              obtain ⟨e1, e2⟩ := dn_s2 hd
              exact k_iret hx hb hr hQ hAe e1 (by rw [e2]) hP hS hlocks dX7_came_144
            · have hd := dn_t c68 hd
              refine lv_aload_n hx hb dX7_came_71 rfl (lv_at hl 0 rfl) ?_
              obtain ⟨r72, S72, hq72, hd⟩ := dn_b2 hd
              have hF := k_self hD hS hA
              refine k_run_i (va_runV (As := []) (rest := []) ⟨hx, hb, hml, hown, hts⟩ (mX7_full l D cs a S L r72 S72 hq72 _) (cwV 0 hts gX7_came_X7_full rfl rfl rfl (by decide +kernel) ⟨Nat.le_of_ble_eq_true rfl, Nat.le_of_ble_eq_true rfl⟩) ⟨k_blind, va_recv hK hP (ci := 5) (q0 := 0) rfl rfl, k_pre hP hK hNn hD⟩ rfl rfl hl.1 rfl (lv_room (Nat.le_of_ble_eq_true rfl)) dX7_came_72 ⟨Nat.le_of_ble_eq_true rfl, Nat.le_of_ble_eq_true rfl⟩) hS hF (fun H locs hP1 hk hS => ?_)
              have hP : va_P D vwCl (wX7 cs a S72 L) _ := hP1
              have hD := hDA S72 L
              obtain ⟨e1, e2⟩ := dn_s2 hd
              exact k_iret hx hb hr hQ hAe e1 (by rw [e2]) hP hS hlocks dX7_came_75
          · have hd := dn_t c50 hd
            exact Jo53 S _ _ _ hd (lv_sub hl [0] rfl) hP hS
-- LeastNeedModel.forget(I)I
set_option maxRecDepth 20000 in
def nX7_forget (S : Nat → Nat → Int32) (L : Nat → Nat → Int64) (p1 : Int32) : Option (Int32 × (Nat → Nat → Int32)) := k_b1 (nX7_in p1.toInt64 (0 : Int64) (1 : Int64)) (fun r4 => if r4 = 0 then k_b2 (nX7_bad S L (-2 : Int32)) (fun r13 S13 => some (r13, S13)) else if ((2 : Int32) + p1) < 0 ∨ 284 ≤ ((2 : Int32) + p1).toNatClampNeg then none else if ((2 : Int32) + p1) < 0 ∨ 284 ≤ ((2 : Int32) + p1).toNatClampNeg then none else some ((S 1 ((2 : Int32) + p1).toNatClampNeg), (k_w S 1 (((2 : Int32) + p1).toNatClampNeg) (0 : Int32))))
set_option maxHeartbeats 4000000 in
set_option maxRecDepth 100000 in
theorem mX7_forget (l : Launch) (D : va_G) (cs : Nat → ClassId) (a : Nat → Nat) (S : Nat → Nat → Int32) (L : Nat → Nat → Int64) (p1 : Int32) (r9 : Int32) (S9 : (Nat → Nat → Int32)) (hd : nX7_forget S L p1 = some (r9, S9)) : ∀ sz : Nat, Met l yX7_forget wsX7_forget ({ frames := 1, cells := 0, slots := 0, locals := 25 }) (k_Pc D cs [.ref (a 0), .int p1] (wX7 cs a S L) sz) (k_Qi D r9 (wX7 cs a S L) (wX7 cs a S9 L) sz) 0 0 (va_A (wX7 cs a S L) sz) := by
  intro sz
  refine Met.ofW (cc := cX7_forget) (maxL := 3) (ret := (some .int)) (by decide) rfl ?_
  intro p e s m args below meth c s₁ B hml hv
  obtain ⟨rfl, hsz, hP, hK, hD0, hNn⟩ := hv
  have hx := B.exec
  have hb := B.bytes
  have hr := B.returns
  have hts := atoms_spec (ws := wsX7_forget) B.pre
  have hown : s.vm.findClass RX7 = some m.cls := findClass_of_methodNamed B.named
  have hlocks := B.notSynchronized
  subst hsz
  obtain ⟨A, hAe⟩ : ∃ A : Nat → Prop, A = va_A (wX7 cs a S L) s.heap.size := ⟨_, rfl⟩
  have hD : va_D A (wX7 cs a S L) := by rw [hAe]; exact hD0.self
  have hA : ∀ q : Nat, s.heap.size ≤ q → A q := fun q h => by rw [hAe]; exact Or.inr h
  have hS : va_S A s.heap s.heap [] := va_S.rf
  have hDA : ∀ (S : Nat → Nat → Int32) (L : Nat → Nat → Int64), va_D A (wX7 cs a S L) := fun S L => k_DA hD rfl
  have hl := lv_entry ([.ref (a 0), .int p1]) (n := 3) (Nat.le_of_ble_eq_true rfl)
  rw [lg_entry_eq]
  generalize (lg_sl ([.ref (a 0), .int p1]) ++ List.replicate (3 - (lg_sl ([.ref (a 0), .int p1])).length) Slot.unset).toArray = ls at hl ⊢
  have hl : lv_has ls 3 [(0, .ref (a 0)), (1, .int p1)] := hl
  obtain ⟨Q, hQ⟩ : ∃ Q, Q = MQ below (k_Qi D r9 (wX7 cs a S L) (wX7 cs a S9 L) s.heap.size) ([.ref (a 0), .int p1] : List Value).toArray s 0 0 (va_A (wX7 cs a S L) s.heap.size) := ⟨_, rfl⟩
  rw [← hQ]
  unfold nX7_forget at hd
  refine lv_iload_n hx hb dX7_forget_0 rfl (lv_at hl 1 rfl) ?_
  refine lv_i2l hx hb dX7_forget_1 rfl ?_
  refine lv_lconst (v := (0 : Int64)) hx hb dX7_forget_2 (by decide) ?_
  refine lv_lconst (v := (1 : Int64)) hx hb dX7_forget_3 (by decide) ?_
  obtain ⟨r4, hq4, hd⟩ := dn_b1 hd
  have hPc := k_P0 hP
  have hDc : va_D A ([] : va_W) := k_D0
  have hF := k_self hDc hS hA
  refine k_run_i (va_runS (As := [.long p1.toInt64, .long (0 : Int64), .long (1 : Int64)]) (rest := []) ⟨hx, hb, hml, hown, hts⟩ (mX7_in l D cs  p1.toInt64 (0 : Int64) (1 : Int64) r4 hq4 _) (va_cwS 3 hts gX7_forget_X7_in rfl rfl rfl (by decide +kernel) ⟨Nat.le_of_ble_eq_true rfl, Nat.le_of_ble_eq_true rfl⟩) ⟨k_blind, k_pre hPc hK hNn hDc⟩ rfl rfl hl.1 rfl (lv_room (Nat.le_of_ble_eq_true rfl)) dX7_forget_4 ⟨Nat.le_of_ble_eq_true rfl, Nat.le_of_ble_eq_true rfl⟩) hS hF (fun H locs hP1 hk hS => ?_)
  have hP : va_P D vwCl (wX7 cs a S L) _ := k_keep hP hk
  refine lv_if_ne (tgt := 17) hx hb dX7_forget_7 (by decide) (fun c7 => ?_) (fun c7 => ?_)
  · have hd := dn_f c7 hd
    refine lv_aload_n hx hb dX7_forget_17 rfl (lv_at hl 0 rfl) ?_
    refine va_get (D := D) (ci := 5) (v := .ref (a 1)) (C := RX7) (T := TX7) (N := 25) hx hb hts (fun w h => List.mem_cons_of_mem _ (List.mem_append_right _ h)) hown hK hP 0 rfl rfl 0 (by decide) (hts (.fieldLink RX7 7 "LeastNeedModel" "told" "[I") (List.mem_of_getElem? (i := 1) rfl)) (fun _ h9 => h9) rfl dX7_forget_18 ?_
    refine lv_iconst (v := (2 : Int32)) hx hb dX7_forget_21 (by decide) ?_
    refine lv_iload_n hx hb dX7_forget_22 rfl (lv_at hl 1 rfl) ?_
    refine lv_iadd hx hb dX7_forget_23 ?_
    obtain ⟨hi24, hd⟩ := dn_i hd
    refine k_iald (D := D) (k := ((2 : Int32) + p1).toNatClampNeg) (by rfl) hx hb hK hP 1 1 rfl rfl hi24 dX7_forget_24 ?_
    refine lv_istore_n (lv' := [(2, .int (S 1 ((2 : Int32) + p1).toNatClampNeg)), (0, .ref (a 0)), (1, .int p1)]) hx hb dX7_forget_25 rfl hl (by decide) rfl (fun ls hl => ?_)
    refine lv_aload_n hx hb dX7_forget_26 rfl (lv_at hl 1 rfl) ?_
    refine va_get (D := D) (ci := 5) (v := .ref (a 1)) (C := RX7) (T := TX7) (N := 25) hx hb hts (fun w h => List.mem_cons_of_mem _ (List.mem_append_right _ h)) hown hK hP 0 rfl rfl 0 (by decide) (hts (.fieldLink RX7 7 "LeastNeedModel" "told" "[I") (List.mem_of_getElem? (i := 1) rfl)) (fun _ h9 => h9) rfl dX7_forget_27 ?_
    refine lv_iconst (v := (2 : Int32)) hx hb dX7_forget_30 (by decide) ?_
    refine lv_iload_n hx hb dX7_forget_31 rfl (lv_at hl 2 rfl) ?_
    refine lv_iadd hx hb dX7_forget_32 ?_
    refine lv_iconst (v := (0 : Int32)) hx hb dX7_forget_33 (by decide) ?_
    obtain ⟨hi34, hd⟩ := dn_i hd
    refine k_iast (D := D) (k := ((2 : Int32) + p1).toNatClampNeg) (by rfl) hx hb hK hP hD hS 1 1 rfl rfl hi34 dX7_forget_34 (fun H locs hP hD hS => ?_)
    have hP : va_P D vwCl (wX7 cs a (k_w S 1 (((2 : Int32) + p1).toNatClampNeg) (0 : Int32)) L) _ := k_eq hP (wsX7_a1 cs a S L (((2 : Int32) + p1).toNatClampNeg) (0 : Int32))
    have hD := hDA (k_w S 1 (((2 : Int32) + p1).toNatClampNeg) (0 : Int32)) L
    refine lv_iload_n hx hb dX7_forget_35 rfl (lv_at hl 0 rfl) ?_
    obtain ⟨e1, e2⟩ := dn_s2 hd
    exact k_iret hx hb hr hQ hAe e1 (by rw [e2]) hP hS hlocks dX7_forget_36
  · have hd := dn_t c7 hd
    refine lv_aload_n hx hb dX7_forget_10 rfl (lv_at hl 0 rfl) ?_
    refine lv_bipush (v := (-2 : Int32)) hx hb dX7_forget_11 (by decide) ?_
    obtain ⟨r13, S13, hq13, hd⟩ := dn_b2 hd
    have hF := k_self hD hS hA
    refine k_run_i (va_runV (As := [.int (-2 : Int32)]) (rest := []) ⟨hx, hb, hml, hown, hts⟩ (mX7_bad l D cs a S L (-2 : Int32) r13 S13 hq13 _) (cwV 1 hts gX7_forget_X7_bad rfl rfl rfl (by decide +kernel) ⟨Nat.le_of_ble_eq_true rfl, Nat.le_of_ble_eq_true rfl⟩) ⟨k_blind, va_recv hK hP (ci := 5) (q0 := 0) rfl rfl, k_pre hP hK hNn hD⟩ rfl rfl hl.1 rfl (lv_room (Nat.le_of_ble_eq_true rfl)) dX7_forget_13 ⟨Nat.le_of_ble_eq_true rfl, Nat.le_of_ble_eq_true rfl⟩) hS hF (fun H locs hP1 hk hS => ?_)
    have hP : va_P D vwCl (wX7 cs a S13 L) _ := hP1
    have hD := hDA S13 L
    obtain ⟨e1, e2⟩ := dn_s2 hd
    exact k_iret hx hb hr hQ hAe e1 (by rw [e2]) hP hS hlocks dX7_forget_16
-- LeastNeedModel.kindsOf(I)I
set_option maxRecDepth 20000 in
def nX7_kindsOf_i4_j131 (p1 : Int32) (x3_131 : Int32) (w0_131 : Int32) (w1_131 : Int32) (S : Nat → Nat → Int32) (L : Nat → Nat → Int64) : Option ((Int32 × Int32) ⊕ (Int32)) := some (.inl ((w1_131 ||| w0_131), (x3_131 + (1 : Int32))))
set_option maxRecDepth 20000 in
def nX7_kindsOf_i4_i16_j109 (p1 : Int32) (x2_16 : Int32) (x3_16 : Int32) (x5_109 : Int32) (S : Nat → Nat → Int32) (L : Nat → Nat → Int64) : Option ((Int32 × Int32) ⊕ ((Int32 × Int32) ⊕ (Int32))) := some (.inl ((0 : Int32), (x5_109 + (1 : Int32))))
set_option maxRecDepth 20000 in
def nX7_kindsOf_i4_i16_j105 (p1 : Int32) (x2_16 : Int32) (x3_16 : Int32) (x5_105 : Int32) (S : Nat → Nat → Int32) (L : Nat → Nat → Int64) : Option ((Int32 × Int32) ⊕ ((Int32 × Int32) ⊕ (Int32))) := some (.inl ((1 : Int32), (x5_105 + (1 : Int32))))
set_option maxRecDepth 20000 in
def nX7_kindsOf_i4_l16 (p1 : Int32) (x2_16 : Int32) (x3_16 : Int32) (x4_16 : Int32) (x5_16 : Int32) (S : Nat → Nat → Int32) (L : Nat → Nat → Int64) : Option ((Int32 × Int32) ⊕ ((Int32 × Int32) ⊕ (Int32))) := if (S 1 2) ≤ x5_16 then k_up (if x4_16 = 0 then nX7_kindsOf_i4_j131 p1 x3_16 (0 : Int32) x2_16 S L else nX7_kindsOf_i4_j131 p1 x3_16 ((1 : Int32) <<< (x3_16 &&& 31)) x2_16 S L) else if x4_16 = 0 then nX7_kindsOf_i4_i16_j109 p1 x2_16 x3_16 x5_16 S L else if ((80 : Int32) + ((6 : Int32) * x5_16)) < 0 ∨ 284 ≤ ((80 : Int32) + ((6 : Int32) * x5_16)).toNatClampNeg then none else if (S 1 ((80 : Int32) + ((6 : Int32) * x5_16)).toNatClampNeg) = p1 then if (((80 : Int32) + ((6 : Int32) * x5_16)) + (3 : Int32)) < 0 ∨ 284 ≤ (((80 : Int32) + ((6 : Int32) * x5_16)) + (3 : Int32)).toNatClampNeg then none else if (((80 : Int32) + ((6 : Int32) * x5_16)) + (4 : Int32)) < 0 ∨ 284 ≤ (((80 : Int32) + ((6 : Int32) * x5_16)) + (4 : Int32)).toNatClampNeg then none else if (((80 : Int32) + ((6 : Int32) * x5_16)) + (1 : Int32)) < 0 ∨ 284 ≤ (((80 : Int32) + ((6 : Int32) * x5_16)) + (1 : Int32)).toNatClampNeg then none else if (((80 : Int32) + ((6 : Int32) * x5_16)) + (2 : Int32)) < 0 ∨ 284 ≤ (((80 : Int32) + ((6 : Int32) * x5_16)) + (2 : Int32)).toNatClampNeg then none else k_b1 (nX7_showsAs x3_16 (S 1 (((80 : Int32) + ((6 : Int32) * x5_16)) + (3 : Int32)).toNatClampNeg) (S 1 (((80 : Int32) + ((6 : Int32) * x5_16)) + (4 : Int32)).toNatClampNeg) (S 1 (((80 : Int32) + ((6 : Int32) * x5_16)) + (1 : Int32)).toNatClampNeg) (S 1 (((80 : Int32) + ((6 : Int32) * x5_16)) + (2 : Int32)).toNatClampNeg)) (fun r90 => if (((80 : Int32) + ((6 : Int32) * x5_16)) + (5 : Int32)) < 0 ∨ 284 ≤ (((80 : Int32) + ((6 : Int32) * x5_16)) + (5 : Int32)).toNatClampNeg then none else if r90 = (S 1 (((80 : Int32) + ((6 : Int32) * x5_16)) + (5 : Int32)).toNatClampNeg) then nX7_kindsOf_i4_i16_j105 p1 x2_16 x3_16 x5_16 S L else nX7_kindsOf_i4_i16_j109 p1 x2_16 x3_16 x5_16 S L) else nX7_kindsOf_i4_i16_j105 p1 x2_16 x3_16 x5_16 S L
set_option maxRecDepth 20000 in
def nX7_kindsOf_l4 (p1 : Int32) (x2_4 : Int32) (x3_4 : Int32) (S : Nat → Nat → Int32) (L : Nat → Nat → Int64) : Option ((Int32 × Int32) ⊕ (Int32)) := if (6 : Int32) ≤ x3_4 then k_up (some x2_4) else k_it (fun st => nX7_kindsOf_i4_l16 p1 x2_4 x3_4 st.1 st.2 S L) 1000 ((1 : Int32), (0 : Int32))
set_option maxRecDepth 20000 in
def nX7_kindsOf (S : Nat → Nat → Int32) (L : Nat → Nat → Int64) (p1 : Int32) : Option (Int32) := k_it (fun st => nX7_kindsOf_l4 p1 st.1 st.2 S L) 1000 ((0 : Int32), (0 : Int32))
set_option maxHeartbeats 4000000 in
set_option maxRecDepth 100000 in
theorem mX7_kindsOf (l : Launch) (D : va_G) (cs : Nat → ClassId) (a : Nat → Nat) (S : Nat → Nat → Int32) (L : Nat → Nat → Int64) (p1 : Int32) (r9 : Int32) (hd : nX7_kindsOf S L p1 = some r9) : ∀ sz : Nat, Met l yX7_kindsOf wsX7_kindsOf ({ frames := 1, cells := 0, slots := 0, locals := 25 }) (k_Pc D cs [.ref (a 0), .int p1] (wX7 cs a S L) sz) (k_Qi D r9 (wX7 cs a S L) (wX7 cs a S L) sz) 0 0 (va_A (wX7 cs a S L) sz) := by
  intro sz
  refine Met.ofW (cc := cX7_kindsOf) (maxL := 7) (ret := (some .int)) (by decide) rfl ?_
  intro p e s m args below meth c s₁ B hml hv
  obtain ⟨rfl, hsz, hP, hK, hD0, hNn⟩ := hv
  have hx := B.exec
  have hb := B.bytes
  have hr := B.returns
  have hts := atoms_spec (ws := wsX7_kindsOf) B.pre
  have hown : s.vm.findClass RX7 = some m.cls := findClass_of_methodNamed B.named
  have hlocks := B.notSynchronized
  subst hsz
  obtain ⟨A, hAe⟩ : ∃ A : Nat → Prop, A = va_A (wX7 cs a S L) s.heap.size := ⟨_, rfl⟩
  have hD : va_D A (wX7 cs a S L) := by rw [hAe]; exact hD0.self
  have hA : ∀ q : Nat, s.heap.size ≤ q → A q := fun q h => by rw [hAe]; exact Or.inr h
  have hS : va_S A s.heap s.heap [] := va_S.rf
  have hDA : ∀ (S : Nat → Nat → Int32) (L : Nat → Nat → Int64), va_D A (wX7 cs a S L) := fun S L => k_DA hD rfl
  have hl := lv_entry ([.ref (a 0), .int p1]) (n := 7) (Nat.le_of_ble_eq_true rfl)
  rw [lg_entry_eq]
  generalize (lg_sl ([.ref (a 0), .int p1]) ++ List.replicate (7 - (lg_sl ([.ref (a 0), .int p1])).length) Slot.unset).toArray = ls at hl ⊢
  have hl : lv_has ls 7 [(0, .ref (a 0)), (1, .int p1)] := hl
  obtain ⟨Q, hQ⟩ : ∃ Q, Q = MQ below (k_Qi D r9 (wX7 cs a S L) (wX7 cs a S L) s.heap.size) ([.ref (a 0), .int p1] : List Value).toArray s 0 0 (va_A (wX7 cs a S L) s.heap.size) := ⟨_, rfl⟩
  rw [← hQ]
  have Lo4 : ∀ (n1 : Nat) (x2_4 : Int32) (x3_4 : Int32) (H : Heap) (locs : List Loc) (ls : Array Slot), k_it (fun st => nX7_kindsOf_l4 p1 st.1 st.2 S L) n1 (x2_4, x3_4) = some r9 → lv_has ls 7 [(0, .ref (a 0)), (1, .int p1), (2, .int x2_4), (3, .int x3_4)] → va_P D vwCl (wX7 cs a S L) H → va_S A s.heap H locs → W p l e (headSpec wsX7_kindsOf ({ frames := 1, cells := 0, slots := 0, locals := 25 })).room s m ([.ref (a 0), .int p1] : List Value).toArray below meth c H locs 0 0 Q (F0 m 4 ls []) := by
    intro n1
    induction n1 with
    | zero => intro x2_4 x3_4 H locs ls hd; exact dn_it0 hd
    | succ n1 ih1 =>
      intro x2_4 x3_4 H locs ls hd hl hP hS
      have hD := hDA S L
      obtain ⟨y1, hd, hy1⟩ := dn_it hd
      have hd : nX7_kindsOf_l4 p1 x2_4 x3_4 S L = some y1 := hd
      have Jo131 : ∀ (x3_131 : Int32) (w0_131 : Int32) (w1_131 : Int32) (H : Heap) (locs : List Loc) (ls : Array Slot), nX7_kindsOf_i4_j131 p1 x3_131 w0_131 w1_131 S L = some y1 → lv_has ls 7 [(0, .ref (a 0)), (1, .int p1), (3, .int x3_131)] → va_P D vwCl (wX7 cs a S L) H → va_S A s.heap H locs → W p l e (headSpec wsX7_kindsOf ({ frames := 1, cells := 0, slots := 0, locals := 25 })).room s m ([.ref (a 0), .int p1] : List Value).toArray below meth c H locs 0 0 Q (F0 m 131 ls [.int w0_131, .int w1_131]) := by
        intro x3_131 w0_131 w1_131 H locs ls hd hl hP hS
        have hD := hDA S L
        unfold nX7_kindsOf_i4_j131 at hd
        refine lv_ior hx hb dX7_kindsOf_131 ?_
        refine lv_istore_n (lv' := [(2, .int (w1_131 ||| w0_131)), (0, .ref (a 0)), (1, .int p1), (3, .int x3_131)]) hx hb dX7_kindsOf_132 rfl hl (by decide) rfl (fun ls hl => ?_)
        refine lv_iinc (v := x3_131 + (1 : Int32)) (lv' := [(3, .int (x3_131 + (1 : Int32))), (2, .int (w1_131 ||| w0_131)), (0, .ref (a 0)), (1, .int p1)]) hx hb dX7_kindsOf_133 hl (k := 3) rfl rfl (by decide) rfl (fun ls hl => ?_)
        refine lv_goto (tgt := 4) hx hb dX7_kindsOf_136 (by decide) ?_
        exact ih1 (w1_131 ||| w0_131) (x3_131 + (1 : Int32)) _ _ _ (dn_bk hd hy1) (lv_sub hl [2, 3, 1, 0] rfl) hP hS
      have Lo16 : ∀ (n2 : Nat) (x2_16 : Int32) (x3_16 : Int32) (x4_16 : Int32) (x5_16 : Int32) (H : Heap) (locs : List Loc) (ls : Array Slot), k_it (fun st => nX7_kindsOf_i4_l16 p1 x2_16 x3_16 st.1 st.2 S L) n2 (x4_16, x5_16) = some y1 → lv_has ls 7 [(0, .ref (a 0)), (1, .int p1), (2, .int x2_16), (3, .int x3_16), (4, .int x4_16), (5, .int x5_16)] → va_P D vwCl (wX7 cs a S L) H → va_S A s.heap H locs → W p l e (headSpec wsX7_kindsOf ({ frames := 1, cells := 0, slots := 0, locals := 25 })).room s m ([.ref (a 0), .int p1] : List Value).toArray below meth c H locs 0 0 Q (F0 m 16 ls []) := by
        intro n2
        induction n2 with
        | zero => intro x2_16 x3_16 x4_16 x5_16 H locs ls hd; exact dn_it0 hd
        | succ n2 ih2 =>
          intro x2_16 x3_16 x4_16 x5_16 H locs ls hd hl hP hS
          have hD := hDA S L
          obtain ⟨y2, hd, hy2⟩ := dn_it hd
          have hd : nX7_kindsOf_i4_l16 p1 x2_16 x3_16 x4_16 x5_16 S L = some y2 := hd
          have Jo109 : ∀ (x5_109 : Int32) (H : Heap) (locs : List Loc) (ls : Array Slot), nX7_kindsOf_i4_i16_j109 p1 x2_16 x3_16 x5_109 S L = some y2 → lv_has ls 7 [(0, .ref (a 0)), (1, .int p1), (2, .int x2_16), (3, .int x3_16), (5, .int x5_109)] → va_P D vwCl (wX7 cs a S L) H → va_S A s.heap H locs → W p l e (headSpec wsX7_kindsOf ({ frames := 1, cells := 0, slots := 0, locals := 25 })).room s m ([.ref (a 0), .int p1] : List Value).toArray below meth c H locs 0 0 Q (F0 m 109 ls []) := by
            intro x5_109 H locs ls hd hl hP hS
            have hD := hDA S L
            unfold nX7_kindsOf_i4_i16_j109 at hd
            refine lv_iconst (v := (0 : Int32)) hx hb dX7_kindsOf_109 (by decide) ?_
            refine lv_istore (lv' := [(4, .int (0 : Int32)), (0, .ref (a 0)), (1, .int p1), (2, .int x2_16), (3, .int x3_16), (5, .int x5_109)]) hx hb dX7_kindsOf_110 hl (by decide) rfl (fun ls hl => ?_)
            refine lv_iinc (v := x5_109 + (1 : Int32)) (lv' := [(5, .int (x5_109 + (1 : Int32))), (4, .int (0 : Int32)), (0, .ref (a 0)), (1, .int p1), (2, .int x2_16), (3, .int x3_16)]) hx hb dX7_kindsOf_112 hl (k := 5) rfl rfl (by decide) rfl (fun ls hl => ?_)
            refine lv_goto (tgt := 16) hx hb dX7_kindsOf_115 (by decide) ?_
            exact ih2 x2_16 x3_16 (0 : Int32) (x5_109 + (1 : Int32)) _ _ _ (dn_bk hd hy2) (lv_sub hl [2, 3, 4, 5, 1, 0] rfl) hP hS
          have Jo105 : ∀ (x5_105 : Int32) (H : Heap) (locs : List Loc) (ls : Array Slot), nX7_kindsOf_i4_i16_j105 p1 x2_16 x3_16 x5_105 S L = some y2 → lv_has ls 7 [(0, .ref (a 0)), (1, .int p1), (2, .int x2_16), (3, .int x3_16), (5, .int x5_105)] → va_P D vwCl (wX7 cs a S L) H → va_S A s.heap H locs → W p l e (headSpec wsX7_kindsOf ({ frames := 1, cells := 0, slots := 0, locals := 25 })).room s m ([.ref (a 0), .int p1] : List Value).toArray below meth c H locs 0 0 Q (F0 m 105 ls []) := by
            intro x5_105 H locs ls hd hl hP hS
            have hD := hDA S L
            unfold nX7_kindsOf_i4_i16_j105 at hd
            refine lv_iconst (v := (1 : Int32)) hx hb dX7_kindsOf_105 (by decide) ?_
            refine lv_goto (tgt := 110) hx hb dX7_kindsOf_106 (by decide) ?_
            refine lv_istore (lv' := [(4, .int (1 : Int32)), (0, .ref (a 0)), (1, .int p1), (2, .int x2_16), (3, .int x3_16), (5, .int x5_105)]) hx hb dX7_kindsOf_110 hl (by decide) rfl (fun ls hl => ?_)
            refine lv_iinc (v := x5_105 + (1 : Int32)) (lv' := [(5, .int (x5_105 + (1 : Int32))), (4, .int (1 : Int32)), (0, .ref (a 0)), (1, .int p1), (2, .int x2_16), (3, .int x3_16)]) hx hb dX7_kindsOf_112 hl (k := 5) rfl rfl (by decide) rfl (fun ls hl => ?_)
            refine lv_goto (tgt := 16) hx hb dX7_kindsOf_115 (by decide) ?_
            exact ih2 x2_16 x3_16 (1 : Int32) (x5_105 + (1 : Int32)) _ _ _ (dn_bk hd hy2) (lv_sub hl [2, 3, 4, 5, 1, 0] rfl) hP hS
          unfold nX7_kindsOf_i4_l16 at hd
          refine lv_iload hx hb dX7_kindsOf_16 (lv_at hl 5 rfl) ?_
          refine lv_aload_n hx hb dX7_kindsOf_18 rfl (lv_at hl 0 rfl) ?_
          refine va_get (D := D) (ci := 5) (v := .ref (a 1)) (C := RX7) (T := TX7) (N := 25) hx hb hts (fun w h => List.mem_cons_of_mem _ (List.mem_append_right _ h)) hown hK hP 0 rfl rfl 0 (by decide) (hts (.fieldLink RX7 7 "LeastNeedModel" "told" "[I") (List.mem_of_getElem? (i := 1) rfl)) (fun _ h9 => h9) rfl dX7_kindsOf_19 ?_
          refine lv_iconst (v := (2 : Int32)) hx hb dX7_kindsOf_22 (by decide) ?_
          refine k_iald (D := D) (k := 2) (by rfl) hx hb hK hP 1 1 rfl rfl (k_in (by decide)) dX7_kindsOf_23 ?_
          refine lv_icmp_ge (tgt := 118) hx hb dX7_kindsOf_24 (by decide) (fun c24 => ?_) (fun c24 => ?_)
          · have hd := dn_t c24 hd
            have hd := dn_up hd hy2
            refine lv_iload_n hx hb dX7_kindsOf_118 rfl (lv_at hl 2 rfl) ?_
            refine lv_iload hx hb dX7_kindsOf_119 (lv_at hl 4 rfl) ?_
            refine lv_if_eq (tgt := 130) hx hb dX7_kindsOf_121 (by decide) (fun c121 => ?_) (fun c121 => ?_)
            · have hd := dn_t c121 hd
              refine lv_iconst (v := (0 : Int32)) hx hb dX7_kindsOf_130 (by decide) ?_
              exact Jo131 x3_16 (0 : Int32) x2_16 _ _ _ hd (lv_sub hl [0, 1, 3] rfl) hP hS
            · have hd := dn_f c121 hd
              refine lv_iconst (v := (1 : Int32)) hx hb dX7_kindsOf_124 (by decide) ?_
              refine lv_iload_n hx hb dX7_kindsOf_125 rfl (lv_at hl 3 rfl) ?_
              refine lv_ishl hx hb dX7_kindsOf_126 ?_
              refine lv_goto (tgt := 131) hx hb dX7_kindsOf_127 (by decide) ?_
              exact Jo131 x3_16 ((1 : Int32) <<< (x3_16 &&& 31)) x2_16 _ _ _ hd (lv_sub hl [0, 1, 3] rfl) hP hS
          · have hd := dn_f c24 hd
            refine lv_bipush (v := (80 : Int32)) hx hb dX7_kindsOf_27 (by decide) ?_
            refine lv_bipush (v := (6 : Int32)) hx hb dX7_kindsOf_29 (by decide) ?_
            refine lv_iload hx hb dX7_kindsOf_31 (lv_at hl 5 rfl) ?_
            refine lv_imul hx hb dX7_kindsOf_33 ?_
            refine lv_iadd hx hb dX7_kindsOf_34 ?_
            refine lv_istore (lv' := [(6, .int ((80 : Int32) + ((6 : Int32) * x5_16))), (0, .ref (a 0)), (1, .int p1), (2, .int x2_16), (3, .int x3_16), (4, .int x4_16), (5, .int x5_16)]) hx hb dX7_kindsOf_35 hl (by decide) rfl (fun ls hl => ?_)
            refine lv_iload hx hb dX7_kindsOf_37 (lv_at hl 5 rfl) ?_
            refine lv_if_eq (tgt := 109) hx hb dX7_kindsOf_39 (by decide) (fun c39 => ?_) (fun c39 => ?_)
            · have hd := dn_t c39 hd
              exact Jo109 x5_16 _ _ _ hd (lv_sub hl [1, 2, 3, 4, 6] rfl) hP hS
            · have hd := dn_f c39 hd
              refine lv_aload_n hx hb dX7_kindsOf_42 rfl (lv_at hl 1 rfl) ?_
              refine va_get (D := D) (ci := 5) (v := .ref (a 1)) (C := RX7) (T := TX7) (N := 25) hx hb hts (fun w h => List.mem_cons_of_mem _ (List.mem_append_right _ h)) hown hK hP 0 rfl rfl 0 (by decide) (hts (.fieldLink RX7 7 "LeastNeedModel" "told" "[I") (List.mem_of_getElem? (i := 1) rfl)) (fun _ h9 => h9) rfl dX7_kindsOf_43 ?_
              refine lv_iload hx hb dX7_kindsOf_46 (lv_at hl 0 rfl) ?_
              obtain ⟨hi48, hd⟩ := dn_i hd
              refine k_iald (D := D) (k := ((80 : Int32) + ((6 : Int32) * x5_16)).toNatClampNeg) (by rfl) hx hb hK hP 1 1 rfl rfl hi48 dX7_kindsOf_48 ?_
              refine lv_iload_n hx hb dX7_kindsOf_49 rfl (lv_at hl 2 rfl) ?_
              refine lv_icmp_ne (tgt := 105) hx hb dX7_kindsOf_50 (by decide) (fun c50 => ?_) (fun c50 => ?_)
              · have hd := dn_f c50 hd
                exact Jo105 x5_16 _ _ _ hd (lv_sub hl [1, 2, 3, 4, 6] rfl) hP hS
              · have hd := dn_t c50 hd
                refine lv_iload_n hx hb dX7_kindsOf_53 rfl (lv_at hl 4 rfl) ?_
                refine lv_aload_n hx hb dX7_kindsOf_54 rfl (lv_at hl 1 rfl) ?_
                refine va_get (D := D) (ci := 5) (v := .ref (a 1)) (C := RX7) (T := TX7) (N := 25) hx hb hts (fun w h => List.mem_cons_of_mem _ (List.mem_append_right _ h)) hown hK hP 0 rfl rfl 0 (by decide) (hts (.fieldLink RX7 7 "LeastNeedModel" "told" "[I") (List.mem_of_getElem? (i := 1) rfl)) (fun _ h9 => h9) rfl dX7_kindsOf_55 ?_
                refine lv_iload hx hb dX7_kindsOf_58 (lv_at hl 0 rfl) ?_
                refine lv_iconst (v := (3 : Int32)) hx hb dX7_kindsOf_60 (by decide) ?_
                refine lv_iadd hx hb dX7_kindsOf_61 ?_
                obtain ⟨hi62, hd⟩ := dn_i hd
                refine k_iald (D := D) (k := (((80 : Int32) + ((6 : Int32) * x5_16)) + (3 : Int32)).toNatClampNeg) (by rfl) hx hb hK hP 1 1 rfl rfl hi62 dX7_kindsOf_62 ?_
                refine lv_aload_n hx hb dX7_kindsOf_63 rfl (lv_at hl 1 rfl) ?_
                refine va_get (D := D) (ci := 5) (v := .ref (a 1)) (C := RX7) (T := TX7) (N := 25) hx hb hts (fun w h => List.mem_cons_of_mem _ (List.mem_append_right _ h)) hown hK hP 0 rfl rfl 0 (by decide) (hts (.fieldLink RX7 7 "LeastNeedModel" "told" "[I") (List.mem_of_getElem? (i := 1) rfl)) (fun _ h9 => h9) rfl dX7_kindsOf_64 ?_
                refine lv_iload hx hb dX7_kindsOf_67 (lv_at hl 0 rfl) ?_
                refine lv_iconst (v := (4 : Int32)) hx hb dX7_kindsOf_69 (by decide) ?_
                refine lv_iadd hx hb dX7_kindsOf_70 ?_
                obtain ⟨hi71, hd⟩ := dn_i hd
                refine k_iald (D := D) (k := (((80 : Int32) + ((6 : Int32) * x5_16)) + (4 : Int32)).toNatClampNeg) (by rfl) hx hb hK hP 1 1 rfl rfl hi71 dX7_kindsOf_71 ?_
                refine lv_aload_n hx hb dX7_kindsOf_72 rfl (lv_at hl 1 rfl) ?_
                refine va_get (D := D) (ci := 5) (v := .ref (a 1)) (C := RX7) (T := TX7) (N := 25) hx hb hts (fun w h => List.mem_cons_of_mem _ (List.mem_append_right _ h)) hown hK hP 0 rfl rfl 0 (by decide) (hts (.fieldLink RX7 7 "LeastNeedModel" "told" "[I") (List.mem_of_getElem? (i := 1) rfl)) (fun _ h9 => h9) rfl dX7_kindsOf_73 ?_
                refine lv_iload hx hb dX7_kindsOf_76 (lv_at hl 0 rfl) ?_
                refine lv_iconst (v := (1 : Int32)) hx hb dX7_kindsOf_78 (by decide) ?_
                refine lv_iadd hx hb dX7_kindsOf_79 ?_
                obtain ⟨hi80, hd⟩ := dn_i hd
                refine k_iald (D := D) (k := (((80 : Int32) + ((6 : Int32) * x5_16)) + (1 : Int32)).toNatClampNeg) (by rfl) hx hb hK hP 1 1 rfl rfl hi80 dX7_kindsOf_80 ?_
                refine lv_aload_n hx hb dX7_kindsOf_81 rfl (lv_at hl 1 rfl) ?_
                refine va_get (D := D) (ci := 5) (v := .ref (a 1)) (C := RX7) (T := TX7) (N := 25) hx hb hts (fun w h => List.mem_cons_of_mem _ (List.mem_append_right _ h)) hown hK hP 0 rfl rfl 0 (by decide) (hts (.fieldLink RX7 7 "LeastNeedModel" "told" "[I") (List.mem_of_getElem? (i := 1) rfl)) (fun _ h9 => h9) rfl dX7_kindsOf_82 ?_
                refine lv_iload hx hb dX7_kindsOf_85 (lv_at hl 0 rfl) ?_
                refine lv_iconst (v := (2 : Int32)) hx hb dX7_kindsOf_87 (by decide) ?_
                refine lv_iadd hx hb dX7_kindsOf_88 ?_
                obtain ⟨hi89, hd⟩ := dn_i hd
                refine k_iald (D := D) (k := (((80 : Int32) + ((6 : Int32) * x5_16)) + (2 : Int32)).toNatClampNeg) (by rfl) hx hb hK hP 1 1 rfl rfl hi89 dX7_kindsOf_89 ?_
                obtain ⟨r90, hq90, hd⟩ := dn_b1 hd
                have hPc := k_P0 hP
                have hDc : va_D A ([] : va_W) := k_D0
                have hF := k_self hDc hS hA
                refine k_run_i (va_runS (As := [.int x3_16, .int (S 1 (((80 : Int32) + ((6 : Int32) * x5_16)) + (3 : Int32)).toNatClampNeg), .int (S 1 (((80 : Int32) + ((6 : Int32) * x5_16)) + (4 : Int32)).toNatClampNeg), .int (S 1 (((80 : Int32) + ((6 : Int32) * x5_16)) + (1 : Int32)).toNatClampNeg), .int (S 1 (((80 : Int32) + ((6 : Int32) * x5_16)) + (2 : Int32)).toNatClampNeg)]) (rest := []) ⟨hx, hb, hml, hown, hts⟩ (mX7_showsAs l D cs  x3_16 (S 1 (((80 : Int32) + ((6 : Int32) * x5_16)) + (3 : Int32)).toNatClampNeg) (S 1 (((80 : Int32) + ((6 : Int32) * x5_16)) + (4 : Int32)).toNatClampNeg) (S 1 (((80 : Int32) + ((6 : Int32) * x5_16)) + (1 : Int32)).toNatClampNeg) (S 1 (((80 : Int32) + ((6 : Int32) * x5_16)) + (2 : Int32)).toNatClampNeg) r90 hq90 _) (va_cwS 5 hts gX7_kindsOf_X7_showsAs rfl rfl rfl (by decide +kernel) ⟨Nat.le_of_ble_eq_true rfl, Nat.le_of_ble_eq_true rfl⟩) ⟨k_blind, k_pre hPc hK hNn hDc⟩ rfl rfl hl.1 rfl (lv_room (Nat.le_of_ble_eq_true rfl)) dX7_kindsOf_90 ⟨Nat.le_of_ble_eq_true rfl, Nat.le_of_ble_eq_true rfl⟩) hS hF (fun H locs hP1 hk hS => ?_)
                have hP : va_P D vwCl (wX7 cs a S L) _ := k_keep hP hk
                refine lv_aload_n hx hb dX7_kindsOf_93 rfl (lv_at hl 1 rfl) ?_
                refine va_get (D := D) (ci := 5) (v := .ref (a 1)) (C := RX7) (T := TX7) (N := 25) hx hb hts (fun w h => List.mem_cons_of_mem _ (List.mem_append_right _ h)) hown hK hP 0 rfl rfl 0 (by decide) (hts (.fieldLink RX7 7 "LeastNeedModel" "told" "[I") (List.mem_of_getElem? (i := 1) rfl)) (fun _ h9 => h9) rfl dX7_kindsOf_94 ?_
                refine lv_iload hx hb dX7_kindsOf_97 (lv_at hl 0 rfl) ?_
                refine lv_iconst (v := (5 : Int32)) hx hb dX7_kindsOf_99 (by decide) ?_
                refine lv_iadd hx hb dX7_kindsOf_100 ?_
                obtain ⟨hi101, hd⟩ := dn_i hd
                refine k_iald (D := D) (k := (((80 : Int32) + ((6 : Int32) * x5_16)) + (5 : Int32)).toNatClampNeg) (by rfl) hx hb hK hP 1 1 rfl rfl hi101 dX7_kindsOf_101 ?_
                refine lv_icmp_ne (tgt := 109) hx hb dX7_kindsOf_102 (by decide) (fun c102 => ?_) (fun c102 => ?_)
                · have hd := dn_f c102 hd
                  exact Jo109 x5_16 _ _ _ hd (lv_sub hl [1, 2, 3, 4, 6] rfl) hP hS
                · have hd := dn_t c102 hd
                  exact Jo105 x5_16 _ _ _ hd (lv_sub hl [1, 2, 3, 4, 6] rfl) hP hS
      unfold nX7_kindsOf_l4 at hd
      refine lv_iload_n hx hb dX7_kindsOf_4 rfl (lv_at hl 3 rfl) ?_
      refine lv_bipush (v := (6 : Int32)) hx hb dX7_kindsOf_5 (by decide) ?_
      refine lv_icmp_ge (tgt := 139) hx hb dX7_kindsOf_7 (by decide) (fun c7 => ?_) (fun c7 => ?_)
      · have hd := dn_t c7 hd
        have hd := dn_up hd hy1
        refine lv_iload_n hx hb dX7_kindsOf_139 rfl (lv_at hl 2 rfl) ?_
        have e1 := dn_s1 hd
        exact k_iret hx hb hr hQ hAe e1 rfl hP hS hlocks dX7_kindsOf_140
      · have hd := dn_f c7 hd
        refine lv_iconst (v := (1 : Int32)) hx hb dX7_kindsOf_10 (by decide) ?_
        refine lv_istore (lv' := [(4, .int (1 : Int32)), (0, .ref (a 0)), (1, .int p1), (2, .int x2_4), (3, .int x3_4)]) hx hb dX7_kindsOf_11 hl (by decide) rfl (fun ls hl => ?_)
        refine lv_iconst (v := (0 : Int32)) hx hb dX7_kindsOf_13 (by decide) ?_
        refine lv_istore (lv' := [(5, .int (0 : Int32)), (4, .int (1 : Int32)), (0, .ref (a 0)), (1, .int p1), (2, .int x2_4), (3, .int x3_4)]) hx hb dX7_kindsOf_14 hl (by decide) rfl (fun ls hl => ?_)
        exact Lo16 1000 x2_4 x3_4 (1 : Int32) (0 : Int32) _ _ _ hd (lv_sub hl [2, 3, 4, 5, 1, 0] rfl) hP hS
  unfold nX7_kindsOf at hd
  refine lv_iconst (v := (0 : Int32)) hx hb dX7_kindsOf_0 (by decide) ?_
  refine lv_istore_n (lv' := [(2, .int (0 : Int32)), (0, .ref (a 0)), (1, .int p1)]) hx hb dX7_kindsOf_1 rfl hl (by decide) rfl (fun ls hl => ?_)
  refine lv_iconst (v := (0 : Int32)) hx hb dX7_kindsOf_2 (by decide) ?_
  refine lv_istore_n (lv' := [(3, .int (0 : Int32)), (2, .int (0 : Int32)), (0, .ref (a 0)), (1, .int p1)]) hx hb dX7_kindsOf_3 rfl hl (by decide) rfl (fun ls hl => ?_)
  exact Lo4 1000 (0 : Int32) (0 : Int32) _ _ _ hd (lv_sub hl [2, 3, 1, 0] rfl) hP hS
-- LeastNeedModel.is(I)I
set_option maxRecDepth 20000 in
def nX7_is (S : Nat → Nat → Int32) (L : Nat → Nat → Int64) (p1 : Int32) : Option (Int32 × (Nat → Nat → Int32)) := k_b1 (nX7_isOne S L p1) (fun r2 => if r2 = 0 then k_b2 (nX7_bad S L (-2 : Int32)) (fun r19 S19 => some (r19, S19)) else k_b1 (nX7_kindsOf S L p1) (fun r10 => some (r10, S)))
set_option maxHeartbeats 4000000 in
set_option maxRecDepth 100000 in
theorem mX7_is (l : Launch) (D : va_G) (cs : Nat → ClassId) (a : Nat → Nat) (S : Nat → Nat → Int32) (L : Nat → Nat → Int64) (p1 : Int32) (r9 : Int32) (S9 : (Nat → Nat → Int32)) (hd : nX7_is S L p1 = some (r9, S9)) : ∀ sz : Nat, Met l yX7_is wsX7_is ({ frames := 2, cells := 0, slots := 0, locals := 51 }) (k_Pc D cs [.ref (a 0), .int p1] (wX7 cs a S L) sz) (k_Qi D r9 (wX7 cs a S L) (wX7 cs a S9 L) sz) 0 0 (va_A (wX7 cs a S L) sz) := by
  intro sz
  refine Met.ofW (cc := cX7_is) (maxL := 2) (ret := (some .int)) (by decide) rfl ?_
  intro p e s m args below meth c s₁ B hml hv
  obtain ⟨rfl, hsz, hP, hK, hD0, hNn⟩ := hv
  have hx := B.exec
  have hb := B.bytes
  have hr := B.returns
  have hts := atoms_spec (ws := wsX7_is) B.pre
  have hown : s.vm.findClass RX7 = some m.cls := findClass_of_methodNamed B.named
  have hlocks := B.notSynchronized
  subst hsz
  obtain ⟨A, hAe⟩ : ∃ A : Nat → Prop, A = va_A (wX7 cs a S L) s.heap.size := ⟨_, rfl⟩
  have hD : va_D A (wX7 cs a S L) := by rw [hAe]; exact hD0.self
  have hA : ∀ q : Nat, s.heap.size ≤ q → A q := fun q h => by rw [hAe]; exact Or.inr h
  have hS : va_S A s.heap s.heap [] := va_S.rf
  have hDA : ∀ (S : Nat → Nat → Int32) (L : Nat → Nat → Int64), va_D A (wX7 cs a S L) := fun S L => k_DA hD rfl
  have hl := lv_entry ([.ref (a 0), .int p1]) (n := 2) (Nat.le_of_ble_eq_true rfl)
  rw [lg_entry_eq]
  generalize (lg_sl ([.ref (a 0), .int p1]) ++ List.replicate (2 - (lg_sl ([.ref (a 0), .int p1])).length) Slot.unset).toArray = ls at hl ⊢
  have hl : lv_has ls 2 [(0, .ref (a 0)), (1, .int p1)] := hl
  obtain ⟨Q, hQ⟩ : ∃ Q, Q = MQ below (k_Qi D r9 (wX7 cs a S L) (wX7 cs a S9 L) s.heap.size) ([.ref (a 0), .int p1] : List Value).toArray s 0 0 (va_A (wX7 cs a S L) s.heap.size) := ⟨_, rfl⟩
  rw [← hQ]
  unfold nX7_is at hd
  refine lv_aload_n hx hb dX7_is_0 rfl (lv_at hl 0 rfl) ?_
  refine lv_iload_n hx hb dX7_is_1 rfl (lv_at hl 1 rfl) ?_
  obtain ⟨r2, hq2, hd⟩ := dn_b1 hd
  have hF := k_self hD hS hA
  refine k_run_i (va_runV (As := [.int p1]) (rest := []) ⟨hx, hb, hml, hown, hts⟩ (mX7_isOne l D cs a S L p1 r2 hq2 _) (cwV 1 hts gX7_is_X7_isOne rfl rfl rfl (by decide +kernel) ⟨Nat.le_of_ble_eq_true rfl, Nat.le_of_ble_eq_true rfl⟩) ⟨k_blind, va_recv hK hP (ci := 5) (q0 := 0) rfl rfl, k_pre hP hK hNn hD⟩ rfl rfl hl.1 rfl (lv_room (Nat.le_of_ble_eq_true rfl)) dX7_is_2 ⟨Nat.le_of_ble_eq_true rfl, Nat.le_of_ble_eq_true rfl⟩) hS hF (fun H locs hP1 hk hS => ?_)
  have hP : va_P D vwCl (wX7 cs a S L) _ := hP1
  have hD := hDA S L
  refine lv_if_eq (tgt := 16) hx hb dX7_is_5 (by decide) (fun c5 => ?_) (fun c5 => ?_)
  · have hd := dn_t c5 hd
    refine lv_aload_n hx hb dX7_is_16 rfl (lv_at hl 0 rfl) ?_
    refine lv_bipush (v := (-2 : Int32)) hx hb dX7_is_17 (by decide) ?_
    obtain ⟨r19, S19, hq19, hd⟩ := dn_b2 hd
    have hF := k_self hD hS hA
    refine k_run_i (va_runV (As := [.int (-2 : Int32)]) (rest := []) ⟨hx, hb, hml, hown, hts⟩ (mX7_bad l D cs a S L (-2 : Int32) r19 S19 hq19 _) (cwV 1 hts gX7_is_X7_bad rfl rfl rfl (by decide +kernel) ⟨Nat.le_of_ble_eq_true rfl, Nat.le_of_ble_eq_true rfl⟩) ⟨k_blind, va_recv hK hP (ci := 5) (q0 := 0) rfl rfl, k_pre hP hK hNn hD⟩ rfl rfl hl.1 rfl (lv_room (Nat.le_of_ble_eq_true rfl)) dX7_is_19 ⟨Nat.le_of_ble_eq_true rfl, Nat.le_of_ble_eq_true rfl⟩) hS hF (fun H locs hP1 hk hS => ?_)
    have hP : va_P D vwCl (wX7 cs a S19 L) _ := hP1
    have hD := hDA S19 L
    obtain ⟨e1, e2⟩ := dn_s2 hd
    exact k_iret hx hb hr hQ hAe e1 (by rw [e2]) hP hS hlocks dX7_is_22
  · have hd := dn_f c5 hd
    refine lv_aload_n hx hb dX7_is_8 rfl (lv_at hl 0 rfl) ?_
    refine lv_iload_n hx hb dX7_is_9 rfl (lv_at hl 1 rfl) ?_
    obtain ⟨r10, hq10, hd⟩ := dn_b1 hd
    have hF := k_self hD hS hA
    refine k_run_i (va_runV (As := [.int p1]) (rest := []) ⟨hx, hb, hml, hown, hts⟩ (mX7_kindsOf l D cs a S L p1 r10 hq10 _) (cwV 1 hts gX7_is_X7_kindsOf rfl rfl rfl (by decide +kernel) ⟨Nat.le_of_ble_eq_true rfl, Nat.le_of_ble_eq_true rfl⟩) ⟨k_blind, va_recv hK hP (ci := 5) (q0 := 0) rfl rfl, k_pre hP hK hNn hD⟩ rfl rfl hl.1 rfl (lv_room (Nat.le_of_ble_eq_true rfl)) dX7_is_10 ⟨Nat.le_of_ble_eq_true rfl, Nat.le_of_ble_eq_true rfl⟩) hS hF (fun H locs hP1 hk hS => ?_)
    have hP : va_P D vwCl (wX7 cs a S L) _ := hP1
    have hD := hDA S L
    refine lv_goto (tgt := 22) hx hb dX7_is_13 (by decide) ?_
    obtain ⟨e1, e2⟩ := dn_s2 hd
    exact k_iret hx hb hr hQ hAe e1 (by rw [e2]) hP hS hlocks dX7_is_22
-- LeastNeedModel.watch(I)I
set_option maxRecDepth 20000 in
def nX7_watch_i30_j220 (p1 : Int32) (x2_30 : Int32) (x4_220 : Int32) (x5_220 : Int32) (x7_220 : Int32) (w0_220 : Int32) (S_30 : Nat → Nat → Int32) (L : Nat → Nat → Int64) : Option ((Int32 × Int32 × Int32) ⊕ (Int32 × (Nat → Nat → Int32))) := if x4_220 ≤ x7_220 then some (.inl (w0_220, x4_220, (x5_220 + (1 : Int32)))) else some (.inl (w0_220, x7_220, (x5_220 + (1 : Int32))))
set_option maxRecDepth 20000 in
def nX7_watch_i30_i54_j185 (p1 : Int32) (x2_30 : Int32) (x3_54 : Int32) (x4_54 : Int32) (x5_54 : Int32) (x6_54 : Int32) (x7_185 : Int32) (x8_185 : Int32) (x9_185 : Int32) (S_30 : Nat → Nat → Int32) (L : Nat → Nat → Int64) : Option ((Int32 × Int32) ⊕ ((Int32 × Int32 × Int32) ⊕ (Int32 × (Nat → Nat → Int32)))) := if x9_185 ≤ x7_185 then some (.inl (x7_185, (x8_185 + (1 : Int32)))) else some (.inl (x9_185, (x8_185 + (1 : Int32))))
set_option maxRecDepth 20000 in
def nX7_watch_i30_i54_i104_j176 (p1 : Int32) (x2_30 : Int32) (x3_54 : Int32) (x4_54 : Int32) (x5_54 : Int32) (x6_54 : Int32) (x7_104 : Int32) (x8_104 : Int32) (x10_104 : Int32) (x11_176 : Int32) (w0_176 : Int32) (w1_176 : Int32) (S_30 : Nat → Nat → Int32) (L : Nat → Nat → Int64) : Option ((Int32 × Int32) ⊕ ((Int32 × Int32) ⊕ ((Int32 × Int32 × Int32) ⊕ (Int32 × (Nat → Nat → Int32))))) := some (.inl ((w1_176 + w0_176), (x11_176 + (1 : Int32))))
set_option maxRecDepth 20000 in
def nX7_watch_i30_i54_i104_j175 (p1 : Int32) (x2_30 : Int32) (x3_54 : Int32) (x4_54 : Int32) (x5_54 : Int32) (x6_54 : Int32) (x7_104 : Int32) (x8_104 : Int32) (x10_104 : Int32) (x11_175 : Int32) (w0_175 : Int32) (S_30 : Nat → Nat → Int32) (L : Nat → Nat → Int64) : Option ((Int32 × Int32) ⊕ ((Int32 × Int32) ⊕ ((Int32 × Int32 × Int32) ⊕ (Int32 × (Nat → Nat → Int32))))) := nX7_watch_i30_i54_i104_j176 p1 x2_30 x3_54 x4_54 x5_54 x6_54 x7_104 x8_104 x10_104 x11_175 (0 : Int32) w0_175 S_30 L
set_option maxRecDepth 20000 in
def nX7_watch_i30_i54_l104 (p1 : Int32) (x2_30 : Int32) (x3_54 : Int32) (x4_54 : Int32) (x5_54 : Int32) (x6_54 : Int32) (x7_104 : Int32) (x8_104 : Int32) (x9_104 : Int32) (x10_104 : Int32) (x11_104 : Int32) (S_30 : Nat → Nat → Int32) (L : Nat → Nat → Int64) : Option ((Int32 × Int32) ⊕ ((Int32 × Int32) ⊕ ((Int32 × Int32 × Int32) ⊕ (Int32 × (Nat → Nat → Int32))))) := if (6 : Int32) ≤ x11_104 then k_up (nX7_watch_i30_i54_j185 p1 x2_30 x3_54 x4_54 x5_54 x6_54 x7_104 x8_104 x9_104 S_30 L) else k_b1 (nX7_has x2_30 x8_104) (fun r114 => if r114 = 0 then k_up (nX7_watch_i30_i54_j185 p1 x2_30 x3_54 x4_54 x5_54 x6_54 x7_104 x8_104 x9_104 S_30 L) else k_b1 (nX7_has x2_30 x11_104) (fun r125 => if r125 = 0 then nX7_watch_i30_i54_i104_j175 p1 x2_30 x3_54 x4_54 x5_54 x6_54 x7_104 x8_104 x10_104 x11_104 x9_104 S_30 L else if (((37 : Int32) + ((4 : Int32) * p1)) + x6_54) < 0 ∨ 284 ≤ (((37 : Int32) + ((4 : Int32) * p1)) + x6_54).toNatClampNeg then none else if ((15 : Int32) + p1) < 0 ∨ 284 ≤ ((15 : Int32) + p1).toNatClampNeg then none else k_b1 (nX7_showsAs x11_104 x6_54 (x5_54 - x5_54 / (10 : Int32) * (10 : Int32)) (S_30 1 (((37 : Int32) + ((4 : Int32) * p1)) + x6_54).toNatClampNeg) (S_30 1 ((15 : Int32) + p1).toNatClampNeg)) (fun r163 => if r163 = x10_104 then nX7_watch_i30_i54_i104_j176 p1 x2_30 x3_54 x4_54 x5_54 x6_54 x7_104 x8_104 x10_104 x11_104 (1 : Int32) x9_104 S_30 L else nX7_watch_i30_i54_i104_j175 p1 x2_30 x3_54 x4_54 x5_54 x6_54 x7_104 x8_104 x10_104 x11_104 x9_104 S_30 L)))
set_option maxRecDepth 20000 in
def nX7_watch_i30_l54 (p1 : Int32) (x2_30 : Int32) (x3_54 : Int32) (x4_54 : Int32) (x5_54 : Int32) (x6_54 : Int32) (x7_54 : Int32) (x8_54 : Int32) (S_30 : Nat → Nat → Int32) (L : Nat → Nat → Int64) : Option ((Int32 × Int32) ⊕ ((Int32 × Int32 × Int32) ⊕ (Int32 × (Nat → Nat → Int32)))) := if (6 : Int32) ≤ x8_54 then k_up (if x4_54 ≤ x7_54 then nX7_watch_i30_j220 p1 x2_30 x4_54 x5_54 x7_54 x3_54 S_30 L else nX7_watch_i30_j220 p1 x2_30 x4_54 x5_54 x7_54 x5_54 S_30 L) else if (((37 : Int32) + ((4 : Int32) * p1)) + x6_54) < 0 ∨ 284 ≤ (((37 : Int32) + ((4 : Int32) * p1)) + x6_54).toNatClampNeg then none else if ((15 : Int32) + p1) < 0 ∨ 284 ≤ ((15 : Int32) + p1).toNatClampNeg then none else k_b1 (nX7_showsAs x8_54 x6_54 (x5_54 - x5_54 / (10 : Int32) * (10 : Int32)) (S_30 1 (((37 : Int32) + ((4 : Int32) * p1)) + x6_54).toNatClampNeg) (S_30 1 ((15 : Int32) + p1).toNatClampNeg)) (fun r96 => k_it (fun st => nX7_watch_i30_i54_l104 p1 x2_30 x3_54 x4_54 x5_54 x6_54 x7_54 x8_54 st.1 r96 st.2 S_30 L) 1000 ((0 : Int32), (0 : Int32)))
set_option maxRecDepth 20000 in
def nX7_watch_l30 (p1 : Int32) (x2_30 : Int32) (x3_30 : Int32) (x4_30 : Int32) (x5_30 : Int32) (S_30 : Nat → Nat → Int32) (L : Nat → Nat → Int64) : Option ((Int32 × Int32 × Int32) ⊕ (Int32 × (Nat → Nat → Int32))) := if (40 : Int32) ≤ x5_30 then k_up (some (x3_30, S_30)) else if x2_30 ≤ 0 then k_up (some (x3_30, S_30)) else k_it (fun st => nX7_watch_i30_l54 p1 x2_30 x3_30 x4_30 x5_30 (x5_30 / (10 : Int32)) st.1 st.2 S_30 L) 1000 ((0 : Int32), (0 : Int32))
set_option maxRecDepth 20000 in
def nX7_watch (S : Nat → Nat → Int32) (L : Nat → Nat → Int64) (p1 : Int32) : Option (Int32 × (Nat → Nat → Int32)) := k_b1 (nX7_isOne S L p1) (fun r2 => if r2 = 0 then k_b2 (nX7_bad S L (-2 : Int32)) (fun r11 S11 => some (r11, S11)) else k_b1 (nX7_kindsOf S L p1) (fun r17 => k_it (fun st => nX7_watch_l30 p1 r17 st.1 st.2.1 st.2.2 S L) 1000 ((-1 : Int32), (1000000 : Int32), (0 : Int32))))
set_option maxHeartbeats 4000000 in
set_option maxRecDepth 100000 in
theorem mX7_watch (l : Launch) (D : va_G) (cs : Nat → ClassId) (a : Nat → Nat) (S : Nat → Nat → Int32) (L : Nat → Nat → Int64) (p1 : Int32) (r9 : Int32) (S9 : (Nat → Nat → Int32)) (hd : nX7_watch S L p1 = some (r9, S9)) : ∀ sz : Nat, Met l yX7_watch wsX7_watch ({ frames := 2, cells := 0, slots := 0, locals := 51 }) (k_Pc D cs [.ref (a 0), .int p1] (wX7 cs a S L) sz) (k_Qi D r9 (wX7 cs a S L) (wX7 cs a S9 L) sz) 0 0 (va_A (wX7 cs a S L) sz) := by
  intro sz
  refine Met.ofW (cc := cX7_watch) (maxL := 12) (ret := (some .int)) (by decide) rfl ?_
  intro p e s m args below meth c s₁ B hml hv
  obtain ⟨rfl, hsz, hP, hK, hD0, hNn⟩ := hv
  have hx := B.exec
  have hb := B.bytes
  have hr := B.returns
  have hts := atoms_spec (ws := wsX7_watch) B.pre
  have hown : s.vm.findClass RX7 = some m.cls := findClass_of_methodNamed B.named
  have hlocks := B.notSynchronized
  subst hsz
  obtain ⟨A, hAe⟩ : ∃ A : Nat → Prop, A = va_A (wX7 cs a S L) s.heap.size := ⟨_, rfl⟩
  have hD : va_D A (wX7 cs a S L) := by rw [hAe]; exact hD0.self
  have hA : ∀ q : Nat, s.heap.size ≤ q → A q := fun q h => by rw [hAe]; exact Or.inr h
  have hS : va_S A s.heap s.heap [] := va_S.rf
  have hDA : ∀ (S : Nat → Nat → Int32) (L : Nat → Nat → Int64), va_D A (wX7 cs a S L) := fun S L => k_DA hD rfl
  have hl := lv_entry ([.ref (a 0), .int p1]) (n := 12) (Nat.le_of_ble_eq_true rfl)
  rw [lg_entry_eq]
  generalize (lg_sl ([.ref (a 0), .int p1]) ++ List.replicate (12 - (lg_sl ([.ref (a 0), .int p1])).length) Slot.unset).toArray = ls at hl ⊢
  have hl : lv_has ls 12 [(0, .ref (a 0)), (1, .int p1)] := hl
  obtain ⟨Q, hQ⟩ : ∃ Q, Q = MQ below (k_Qi D r9 (wX7 cs a S L) (wX7 cs a S9 L) s.heap.size) ([.ref (a 0), .int p1] : List Value).toArray s 0 0 (va_A (wX7 cs a S L) s.heap.size) := ⟨_, rfl⟩
  rw [← hQ]
  have Lo30 : ∀ (n1 : Nat) (x2_30 : Int32) (x3_30 : Int32) (x4_30 : Int32) (x5_30 : Int32) (S_30 : Nat → Nat → Int32) (H : Heap) (locs : List Loc) (ls : Array Slot), k_it (fun st => nX7_watch_l30 p1 x2_30 st.1 st.2.1 st.2.2 S_30 L) n1 (x3_30, x4_30, x5_30) = some (r9, S9) → lv_has ls 12 [(0, .ref (a 0)), (1, .int p1), (2, .int x2_30), (3, .int x3_30), (4, .int x4_30), (5, .int x5_30)] → va_P D vwCl (wX7 cs a S_30 L) H → va_S A s.heap H locs → W p l e (headSpec wsX7_watch ({ frames := 2, cells := 0, slots := 0, locals := 51 })).room s m ([.ref (a 0), .int p1] : List Value).toArray below meth c H locs 0 0 Q (F0 m 30 ls []) := by
    intro n1
    induction n1 with
    | zero => intro x2_30 x3_30 x4_30 x5_30 S_30 H locs ls hd; exact dn_it0 hd
    | succ n1 ih1 =>
      intro x2_30 x3_30 x4_30 x5_30 S_30 H locs ls hd hl hP hS
      have hD := hDA S_30 L
      obtain ⟨y1, hd, hy1⟩ := dn_it hd
      have hd : nX7_watch_l30 p1 x2_30 x3_30 x4_30 x5_30 S_30 L = some y1 := hd
      have Jo220 : ∀ (x4_220 : Int32) (x5_220 : Int32) (x7_220 : Int32) (w0_220 : Int32) (H : Heap) (locs : List Loc) (ls : Array Slot), nX7_watch_i30_j220 p1 x2_30 x4_220 x5_220 x7_220 w0_220 S_30 L = some y1 → lv_has ls 12 [(0, .ref (a 0)), (1, .int p1), (2, .int x2_30), (4, .int x4_220), (5, .int x5_220), (7, .int x7_220)] → va_P D vwCl (wX7 cs a S_30 L) H → va_S A s.heap H locs → W p l e (headSpec wsX7_watch ({ frames := 2, cells := 0, slots := 0, locals := 51 })).room s m ([.ref (a 0), .int p1] : List Value).toArray below meth c H locs 0 0 Q (F0 m 220 ls [.int w0_220]) := by
        intro x4_220 x5_220 x7_220 w0_220 H locs ls hd hl hP hS
        have hD := hDA S_30 L
        unfold nX7_watch_i30_j220 at hd
        refine lv_istore_n (lv' := [(3, .int w0_220), (0, .ref (a 0)), (1, .int p1), (2, .int x2_30), (4, .int x4_220), (5, .int x5_220), (7, .int x7_220)]) hx hb dX7_watch_220 rfl hl (by decide) rfl (fun ls hl => ?_)
        refine lv_iload hx hb dX7_watch_221 (lv_at hl 6 rfl) ?_
        refine lv_iload hx hb dX7_watch_223 (lv_at hl 4 rfl) ?_
        refine lv_icmp_ge (tgt := 233) hx hb dX7_watch_225 (by decide) (fun c225 => ?_) (fun c225 => ?_)
        · have hd := dn_t c225 hd
          refine lv_iload hx hb dX7_watch_233 (lv_at hl 4 rfl) ?_
          refine lv_istore (lv' := [(4, .int x4_220), (3, .int w0_220), (0, .ref (a 0)), (1, .int p1), (2, .int x2_30), (5, .int x5_220), (7, .int x7_220)]) hx hb dX7_watch_235 hl (by decide) rfl (fun ls hl => ?_)
          refine lv_iinc (v := x5_220 + (1 : Int32)) (lv' := [(5, .int (x5_220 + (1 : Int32))), (4, .int x4_220), (3, .int w0_220), (0, .ref (a 0)), (1, .int p1), (2, .int x2_30), (7, .int x7_220)]) hx hb dX7_watch_237 hl (k := 5) rfl rfl (by decide) rfl (fun ls hl => ?_)
          refine lv_goto (tgt := 30) hx hb dX7_watch_240 (by decide) ?_
          exact ih1 x2_30 w0_220 x4_220 (x5_220 + (1 : Int32)) S_30 _ _ _ (dn_bk hd hy1) (lv_sub hl [3, 4, 5, 2, 1, 0] rfl) hP hS
        · have hd := dn_f c225 hd
          refine lv_iload hx hb dX7_watch_228 (lv_at hl 6 rfl) ?_
          refine lv_goto (tgt := 235) hx hb dX7_watch_230 (by decide) ?_
          refine lv_istore (lv' := [(4, .int x7_220), (3, .int w0_220), (0, .ref (a 0)), (1, .int p1), (2, .int x2_30), (5, .int x5_220), (7, .int x7_220)]) hx hb dX7_watch_235 hl (by decide) rfl (fun ls hl => ?_)
          refine lv_iinc (v := x5_220 + (1 : Int32)) (lv' := [(5, .int (x5_220 + (1 : Int32))), (4, .int x7_220), (3, .int w0_220), (0, .ref (a 0)), (1, .int p1), (2, .int x2_30), (7, .int x7_220)]) hx hb dX7_watch_237 hl (k := 5) rfl rfl (by decide) rfl (fun ls hl => ?_)
          refine lv_goto (tgt := 30) hx hb dX7_watch_240 (by decide) ?_
          exact ih1 x2_30 w0_220 x7_220 (x5_220 + (1 : Int32)) S_30 _ _ _ (dn_bk hd hy1) (lv_sub hl [3, 4, 5, 2, 1, 0] rfl) hP hS
      have Lo54 : ∀ (n2 : Nat) (x3_54 : Int32) (x4_54 : Int32) (x5_54 : Int32) (x6_54 : Int32) (x7_54 : Int32) (x8_54 : Int32) (H : Heap) (locs : List Loc) (ls : Array Slot), k_it (fun st => nX7_watch_i30_l54 p1 x2_30 x3_54 x4_54 x5_54 x6_54 st.1 st.2 S_30 L) n2 (x7_54, x8_54) = some y1 → lv_has ls 12 [(0, .ref (a 0)), (1, .int p1), (2, .int x2_30), (3, .int x3_54), (4, .int x4_54), (5, .int x5_54), (6, .int x6_54), (7, .int x7_54), (8, .int x8_54)] → va_P D vwCl (wX7 cs a S_30 L) H → va_S A s.heap H locs → W p l e (headSpec wsX7_watch ({ frames := 2, cells := 0, slots := 0, locals := 51 })).room s m ([.ref (a 0), .int p1] : List Value).toArray below meth c H locs 0 0 Q (F0 m 54 ls []) := by
        intro n2
        induction n2 with
        | zero => intro x3_54 x4_54 x5_54 x6_54 x7_54 x8_54 H locs ls hd; exact dn_it0 hd
        | succ n2 ih2 =>
          intro x3_54 x4_54 x5_54 x6_54 x7_54 x8_54 H locs ls hd hl hP hS
          have hD := hDA S_30 L
          obtain ⟨y2, hd, hy2⟩ := dn_it hd
          have hd : nX7_watch_i30_l54 p1 x2_30 x3_54 x4_54 x5_54 x6_54 x7_54 x8_54 S_30 L = some y2 := hd
          have Jo185 : ∀ (x7_185 : Int32) (x8_185 : Int32) (x9_185 : Int32) (H : Heap) (locs : List Loc) (ls : Array Slot), nX7_watch_i30_i54_j185 p1 x2_30 x3_54 x4_54 x5_54 x6_54 x7_185 x8_185 x9_185 S_30 L = some y2 → lv_has ls 12 [(0, .ref (a 0)), (1, .int p1), (2, .int x2_30), (3, .int x3_54), (4, .int x4_54), (5, .int x5_54), (6, .int x6_54), (7, .int x7_185), (8, .int x8_185), (9, .int x9_185)] → va_P D vwCl (wX7 cs a S_30 L) H → va_S A s.heap H locs → W p l e (headSpec wsX7_watch ({ frames := 2, cells := 0, slots := 0, locals := 51 })).room s m ([.ref (a 0), .int p1] : List Value).toArray below meth c H locs 0 0 Q (F0 m 185 ls []) := by
            intro x7_185 x8_185 x9_185 H locs ls hd hl hP hS
            have hD := hDA S_30 L
            unfold nX7_watch_i30_i54_j185 at hd
            refine lv_iload hx hb dX7_watch_185 (lv_at hl 9 rfl) ?_
            refine lv_iload hx hb dX7_watch_187 (lv_at hl 7 rfl) ?_
            refine lv_icmp_le (tgt := 197) hx hb dX7_watch_189 (by decide) (fun c189 => ?_) (fun c189 => ?_)
            · have hd := dn_t c189 hd
              refine lv_iload hx hb dX7_watch_197 (lv_at hl 7 rfl) ?_
              refine lv_istore (lv' := [(7, .int x7_185), (0, .ref (a 0)), (1, .int p1), (2, .int x2_30), (3, .int x3_54), (4, .int x4_54), (5, .int x5_54), (6, .int x6_54), (8, .int x8_185), (9, .int x9_185)]) hx hb dX7_watch_199 hl (by decide) rfl (fun ls hl => ?_)
              refine lv_iinc (v := x8_185 + (1 : Int32)) (lv' := [(8, .int (x8_185 + (1 : Int32))), (7, .int x7_185), (0, .ref (a 0)), (1, .int p1), (2, .int x2_30), (3, .int x3_54), (4, .int x4_54), (5, .int x5_54), (6, .int x6_54), (9, .int x9_185)]) hx hb dX7_watch_201 hl (k := 8) rfl rfl (by decide) rfl (fun ls hl => ?_)
              refine lv_goto (tgt := 54) hx hb dX7_watch_204 (by decide) ?_
              exact ih2 x3_54 x4_54 x5_54 x6_54 x7_185 (x8_185 + (1 : Int32)) _ _ _ (dn_bk hd hy2) (lv_sub hl [2, 3, 4, 5, 6, 7, 8, 1, 0] rfl) hP hS
            · have hd := dn_f c189 hd
              refine lv_iload hx hb dX7_watch_192 (lv_at hl 9 rfl) ?_
              refine lv_goto (tgt := 199) hx hb dX7_watch_194 (by decide) ?_
              refine lv_istore (lv' := [(7, .int x9_185), (0, .ref (a 0)), (1, .int p1), (2, .int x2_30), (3, .int x3_54), (4, .int x4_54), (5, .int x5_54), (6, .int x6_54), (8, .int x8_185), (9, .int x9_185)]) hx hb dX7_watch_199 hl (by decide) rfl (fun ls hl => ?_)
              refine lv_iinc (v := x8_185 + (1 : Int32)) (lv' := [(8, .int (x8_185 + (1 : Int32))), (7, .int x9_185), (0, .ref (a 0)), (1, .int p1), (2, .int x2_30), (3, .int x3_54), (4, .int x4_54), (5, .int x5_54), (6, .int x6_54), (9, .int x9_185)]) hx hb dX7_watch_201 hl (k := 8) rfl rfl (by decide) rfl (fun ls hl => ?_)
              refine lv_goto (tgt := 54) hx hb dX7_watch_204 (by decide) ?_
              exact ih2 x3_54 x4_54 x5_54 x6_54 x9_185 (x8_185 + (1 : Int32)) _ _ _ (dn_bk hd hy2) (lv_sub hl [2, 3, 4, 5, 6, 7, 8, 1, 0] rfl) hP hS
          have Lo104 : ∀ (n3 : Nat) (x7_104 : Int32) (x8_104 : Int32) (x9_104 : Int32) (x10_104 : Int32) (x11_104 : Int32) (H : Heap) (locs : List Loc) (ls : Array Slot), k_it (fun st => nX7_watch_i30_i54_l104 p1 x2_30 x3_54 x4_54 x5_54 x6_54 x7_104 x8_104 st.1 x10_104 st.2 S_30 L) n3 (x9_104, x11_104) = some y2 → lv_has ls 12 [(0, .ref (a 0)), (1, .int p1), (2, .int x2_30), (3, .int x3_54), (4, .int x4_54), (5, .int x5_54), (6, .int x6_54), (7, .int x7_104), (8, .int x8_104), (9, .int x9_104), (10, .int x10_104), (11, .int x11_104)] → va_P D vwCl (wX7 cs a S_30 L) H → va_S A s.heap H locs → W p l e (headSpec wsX7_watch ({ frames := 2, cells := 0, slots := 0, locals := 51 })).room s m ([.ref (a 0), .int p1] : List Value).toArray below meth c H locs 0 0 Q (F0 m 104 ls []) := by
            intro n3
            induction n3 with
            | zero => intro x7_104 x8_104 x9_104 x10_104 x11_104 H locs ls hd; exact dn_it0 hd
            | succ n3 ih3 =>
              intro x7_104 x8_104 x9_104 x10_104 x11_104 H locs ls hd hl hP hS
              have hD := hDA S_30 L
              obtain ⟨y3, hd, hy3⟩ := dn_it hd
              have hd : nX7_watch_i30_i54_l104 p1 x2_30 x3_54 x4_54 x5_54 x6_54 x7_104 x8_104 x9_104 x10_104 x11_104 S_30 L = some y3 := hd
              have Jo176 : ∀ (x11_176 : Int32) (w0_176 : Int32) (w1_176 : Int32) (H : Heap) (locs : List Loc) (ls : Array Slot), nX7_watch_i30_i54_i104_j176 p1 x2_30 x3_54 x4_54 x5_54 x6_54 x7_104 x8_104 x10_104 x11_176 w0_176 w1_176 S_30 L = some y3 → lv_has ls 12 [(0, .ref (a 0)), (1, .int p1), (2, .int x2_30), (3, .int x3_54), (4, .int x4_54), (5, .int x5_54), (6, .int x6_54), (7, .int x7_104), (8, .int x8_104), (10, .int x10_104), (11, .int x11_176)] → va_P D vwCl (wX7 cs a S_30 L) H → va_S A s.heap H locs → W p l e (headSpec wsX7_watch ({ frames := 2, cells := 0, slots := 0, locals := 51 })).room s m ([.ref (a 0), .int p1] : List Value).toArray below meth c H locs 0 0 Q (F0 m 176 ls [.int w0_176, .int w1_176]) := by
                intro x11_176 w0_176 w1_176 H locs ls hd hl hP hS
                have hD := hDA S_30 L
                unfold nX7_watch_i30_i54_i104_j176 at hd
                refine lv_iadd hx hb dX7_watch_176 ?_
                refine lv_istore (lv' := [(9, .int (w1_176 + w0_176)), (0, .ref (a 0)), (1, .int p1), (2, .int x2_30), (3, .int x3_54), (4, .int x4_54), (5, .int x5_54), (6, .int x6_54), (7, .int x7_104), (8, .int x8_104), (10, .int x10_104), (11, .int x11_176)]) hx hb dX7_watch_177 hl (by decide) rfl (fun ls hl => ?_)
                refine lv_iinc (v := x11_176 + (1 : Int32)) (lv' := [(11, .int (x11_176 + (1 : Int32))), (9, .int (w1_176 + w0_176)), (0, .ref (a 0)), (1, .int p1), (2, .int x2_30), (3, .int x3_54), (4, .int x4_54), (5, .int x5_54), (6, .int x6_54), (7, .int x7_104), (8, .int x8_104), (10, .int x10_104)]) hx hb dX7_watch_179 hl (k := 11) rfl rfl (by decide) rfl (fun ls hl => ?_)
                refine lv_goto (tgt := 104) hx hb dX7_watch_182 (by decide) ?_
                exact ih3 x7_104 x8_104 (w1_176 + w0_176) x10_104 (x11_176 + (1 : Int32)) _ _ _ (dn_bk hd hy3) (lv_sub hl [2, 3, 4, 5, 6, 7, 8, 9, 10, 1, 11, 0] rfl) hP hS
              have Jo175 : ∀ (x11_175 : Int32) (w0_175 : Int32) (H : Heap) (locs : List Loc) (ls : Array Slot), nX7_watch_i30_i54_i104_j175 p1 x2_30 x3_54 x4_54 x5_54 x6_54 x7_104 x8_104 x10_104 x11_175 w0_175 S_30 L = some y3 → lv_has ls 12 [(0, .ref (a 0)), (1, .int p1), (2, .int x2_30), (3, .int x3_54), (4, .int x4_54), (5, .int x5_54), (6, .int x6_54), (7, .int x7_104), (8, .int x8_104), (10, .int x10_104), (11, .int x11_175)] → va_P D vwCl (wX7 cs a S_30 L) H → va_S A s.heap H locs → W p l e (headSpec wsX7_watch ({ frames := 2, cells := 0, slots := 0, locals := 51 })).room s m ([.ref (a 0), .int p1] : List Value).toArray below meth c H locs 0 0 Q (F0 m 175 ls [.int w0_175]) := by
                intro x11_175 w0_175 H locs ls hd hl hP hS
                have hD := hDA S_30 L
                unfold nX7_watch_i30_i54_i104_j175 at hd
                refine lv_iconst (v := (0 : Int32)) hx hb dX7_watch_175 (by decide) ?_
                exact Jo176 x11_175 (0 : Int32) w0_175 _ _ _ hd (lv_sub hl [0, 1, 2, 3, 4, 5, 6, 7, 8, 9, 10] rfl) hP hS
              unfold nX7_watch_i30_i54_l104 at hd
              refine lv_iload hx hb dX7_watch_104 (lv_at hl 11 rfl) ?_
              refine lv_bipush (v := (6 : Int32)) hx hb dX7_watch_106 (by decide) ?_
              refine lv_icmp_ge (tgt := 185) hx hb dX7_watch_108 (by decide) (fun c108 => ?_) (fun c108 => ?_)
              · have hd := dn_t c108 hd
                have hd := dn_up hd hy3
                exact Jo185 x7_104 x8_104 x9_104 _ _ _ hd (lv_sub hl [0, 1, 2, 3, 4, 5, 6, 7, 8, 9] rfl) hP hS
              · have hd := dn_f c108 hd
                refine lv_iload_n hx hb dX7_watch_111 rfl (lv_at hl 2 rfl) ?_
                refine lv_iload hx hb dX7_watch_112 (lv_at hl 8 rfl) ?_
                obtain ⟨r114, hq114, hd⟩ := dn_b1 hd
                have hPc := k_P0 hP
                have hDc : va_D A ([] : va_W) := k_D0
                have hF := k_self hDc hS hA
                refine k_run_i (va_runS (As := [.int x2_30, .int x8_104]) (rest := []) ⟨hx, hb, hml, hown, hts⟩ (mX7_has l D cs  x2_30 x8_104 r114 hq114 _) (va_cwS 2 hts gX7_watch_X7_has rfl rfl rfl (by decide +kernel) ⟨Nat.le_of_ble_eq_true rfl, Nat.le_of_ble_eq_true rfl⟩) ⟨k_blind, k_pre hPc hK hNn hDc⟩ rfl rfl hl.1 rfl (lv_room (Nat.le_of_ble_eq_true rfl)) dX7_watch_114 ⟨Nat.le_of_ble_eq_true rfl, Nat.le_of_ble_eq_true rfl⟩) hS hF (fun H locs hP1 hk hS => ?_)
                have hP : va_P D vwCl (wX7 cs a S_30 L) _ := k_keep hP hk
                refine lv_if_eq (tgt := 185) hx hb dX7_watch_117 (by decide) (fun c117 => ?_) (fun c117 => ?_)
                · have hd := dn_t c117 hd
                  have hd := dn_up hd hy3
                  exact Jo185 x7_104 x8_104 x9_104 _ _ _ hd (lv_sub hl [0, 1, 2, 3, 4, 5, 6, 7, 8, 9] rfl) hP hS
                · have hd := dn_f c117 hd
                  refine lv_iload hx hb dX7_watch_120 (lv_at hl 9 rfl) ?_
                  refine lv_iload_n hx hb dX7_watch_122 rfl (lv_at hl 2 rfl) ?_
                  refine lv_iload hx hb dX7_watch_123 (lv_at hl 11 rfl) ?_
                  obtain ⟨r125, hq125, hd⟩ := dn_b1 hd
                  have hPc := k_P0 hP
                  have hDc : va_D A ([] : va_W) := k_D0
                  have hF := k_self hDc hS hA
                  refine k_run_i (va_runS (As := [.int x2_30, .int x11_104]) (rest := [.int x9_104]) ⟨hx, hb, hml, hown, hts⟩ (mX7_has l D cs  x2_30 x11_104 r125 hq125 _) (va_cwS 2 hts gX7_watch_X7_has rfl rfl rfl (by decide +kernel) ⟨Nat.le_of_ble_eq_true rfl, Nat.le_of_ble_eq_true rfl⟩) ⟨k_blind, k_pre hPc hK hNn hDc⟩ rfl rfl hl.1 rfl (lv_room (Nat.le_of_ble_eq_true rfl)) dX7_watch_125 ⟨Nat.le_of_ble_eq_true rfl, Nat.le_of_ble_eq_true rfl⟩) hS hF (fun H locs hP1 hk hS => ?_)
                  have hP : va_P D vwCl (wX7 cs a S_30 L) _ := k_keep hP hk
                  refine lv_if_eq (tgt := 175) hx hb dX7_watch_128 (by decide) (fun c128 => ?_) (fun c128 => ?_)
                  · have hd := dn_t c128 hd
                    exact Jo175 x11_104 x9_104 _ _ _ hd (lv_sub hl [0, 1, 2, 3, 4, 5, 6, 7, 8, 10, 11] rfl) hP hS
                  · have hd := dn_f c128 hd
                    refine lv_iload hx hb dX7_watch_131 (lv_at hl 11 rfl) ?_
                    refine lv_iload hx hb dX7_watch_133 (lv_at hl 6 rfl) ?_
                    refine lv_iload hx hb dX7_watch_135 (lv_at hl 5 rfl) ?_
                    refine lv_bipush (v := (10 : Int32)) hx hb dX7_watch_137 (by decide) ?_
                    refine lv_irem hx hb dX7_watch_139 (by decide) ?_
                    refine lv_aload_n hx hb dX7_watch_140 rfl (lv_at hl 0 rfl) ?_
                    refine va_get (D := D) (ci := 5) (v := .ref (a 1)) (C := RX7) (T := TX7) (N := 25) hx hb hts (fun w h => List.mem_cons_of_mem _ (List.mem_append_right _ h)) hown hK hP 0 rfl rfl 0 (by decide) (hts (.fieldLink RX7 7 "LeastNeedModel" "told" "[I") (List.mem_of_getElem? (i := 2) rfl)) (fun _ h9 => h9) rfl dX7_watch_141 ?_
                    refine lv_bipush (v := (37 : Int32)) hx hb dX7_watch_144 (by decide) ?_
                    refine lv_iconst (v := (4 : Int32)) hx hb dX7_watch_146 (by decide) ?_
                    refine lv_iload_n hx hb dX7_watch_147 rfl (lv_at hl 1 rfl) ?_
                    refine lv_imul hx hb dX7_watch_148 ?_
                    refine lv_iadd hx hb dX7_watch_149 ?_
                    refine lv_iload hx hb dX7_watch_150 (lv_at hl 6 rfl) ?_
                    refine lv_iadd hx hb dX7_watch_152 ?_
                    obtain ⟨hi153, hd⟩ := dn_i hd
                    refine k_iald (D := D) (k := (((37 : Int32) + ((4 : Int32) * p1)) + x6_54).toNatClampNeg) (by rfl) hx hb hK hP 1 1 rfl rfl hi153 dX7_watch_153 ?_
                    refine lv_aload_n hx hb dX7_watch_154 rfl (lv_at hl 0 rfl) ?_
                    refine va_get (D := D) (ci := 5) (v := .ref (a 1)) (C := RX7) (T := TX7) (N := 25) hx hb hts (fun w h => List.mem_cons_of_mem _ (List.mem_append_right _ h)) hown hK hP 0 rfl rfl 0 (by decide) (hts (.fieldLink RX7 7 "LeastNeedModel" "told" "[I") (List.mem_of_getElem? (i := 2) rfl)) (fun _ h9 => h9) rfl dX7_watch_155 ?_
                    refine lv_bipush (v := (15 : Int32)) hx hb dX7_watch_158 (by decide) ?_
                    refine lv_iload_n hx hb dX7_watch_160 rfl (lv_at hl 1 rfl) ?_
                    refine lv_iadd hx hb dX7_watch_161 ?_
                    obtain ⟨hi162, hd⟩ := dn_i hd
                    refine k_iald (D := D) (k := ((15 : Int32) + p1).toNatClampNeg) (by rfl) hx hb hK hP 1 1 rfl rfl hi162 dX7_watch_162 ?_
                    obtain ⟨r163, hq163, hd⟩ := dn_b1 hd
                    have hPc := k_P0 hP
                    have hDc : va_D A ([] : va_W) := k_D0
                    have hF := k_self hDc hS hA
                    refine k_run_i (va_runS (As := [.int x11_104, .int x6_54, .int (x5_54 - x5_54 / (10 : Int32) * (10 : Int32)), .int (S_30 1 (((37 : Int32) + ((4 : Int32) * p1)) + x6_54).toNatClampNeg), .int (S_30 1 ((15 : Int32) + p1).toNatClampNeg)]) (rest := [.int x9_104]) ⟨hx, hb, hml, hown, hts⟩ (mX7_showsAs l D cs  x11_104 x6_54 (x5_54 - x5_54 / (10 : Int32) * (10 : Int32)) (S_30 1 (((37 : Int32) + ((4 : Int32) * p1)) + x6_54).toNatClampNeg) (S_30 1 ((15 : Int32) + p1).toNatClampNeg) r163 hq163 _) (va_cwS 5 hts gX7_watch_X7_showsAs rfl rfl rfl (by decide +kernel) ⟨Nat.le_of_ble_eq_true rfl, Nat.le_of_ble_eq_true rfl⟩) ⟨k_blind, k_pre hPc hK hNn hDc⟩ rfl rfl hl.1 rfl (lv_room (Nat.le_of_ble_eq_true rfl)) dX7_watch_163 ⟨Nat.le_of_ble_eq_true rfl, Nat.le_of_ble_eq_true rfl⟩) hS hF (fun H locs hP1 hk hS => ?_)
                    have hP : va_P D vwCl (wX7 cs a S_30 L) _ := k_keep hP hk
                    refine lv_iload hx hb dX7_watch_166 (lv_at hl 10 rfl) ?_
                    refine lv_icmp_ne (tgt := 175) hx hb dX7_watch_168 (by decide) (fun c168 => ?_) (fun c168 => ?_)
                    · have hd := dn_f c168 hd
                      exact Jo175 x11_104 x9_104 _ _ _ hd (lv_sub hl [0, 1, 2, 3, 4, 5, 6, 7, 8, 10, 11] rfl) hP hS
                    · have hd := dn_t c168 hd
                      refine lv_iconst (v := (1 : Int32)) hx hb dX7_watch_171 (by decide) ?_
                      refine lv_goto (tgt := 176) hx hb dX7_watch_172 (by decide) ?_
                      exact Jo176 x11_104 (1 : Int32) x9_104 _ _ _ hd (lv_sub hl [0, 1, 2, 3, 4, 5, 6, 7, 8, 10, 11] rfl) hP hS
          unfold nX7_watch_i30_l54 at hd
          refine lv_iload hx hb dX7_watch_54 (lv_at hl 8 rfl) ?_
          refine lv_bipush (v := (6 : Int32)) hx hb dX7_watch_56 (by decide) ?_
          refine lv_icmp_ge (tgt := 207) hx hb dX7_watch_58 (by decide) (fun c58 => ?_) (fun c58 => ?_)
          · have hd := dn_t c58 hd
            have hd := dn_up hd hy2
            refine lv_iload hx hb dX7_watch_207 (lv_at hl 7 rfl) ?_
            refine lv_iload hx hb dX7_watch_209 (lv_at hl 4 rfl) ?_
            refine lv_icmp_ge (tgt := 219) hx hb dX7_watch_211 (by decide) (fun c211 => ?_) (fun c211 => ?_)
            · have hd := dn_t c211 hd
              refine lv_iload_n hx hb dX7_watch_219 rfl (lv_at hl 3 rfl) ?_
              exact Jo220 x4_54 x5_54 x7_54 x3_54 _ _ _ hd (lv_sub hl [0, 1, 2, 4, 5, 7] rfl) hP hS
            · have hd := dn_f c211 hd
              refine lv_iload hx hb dX7_watch_214 (lv_at hl 5 rfl) ?_
              refine lv_goto (tgt := 220) hx hb dX7_watch_216 (by decide) ?_
              exact Jo220 x4_54 x5_54 x7_54 x5_54 _ _ _ hd (lv_sub hl [0, 1, 2, 4, 5, 7] rfl) hP hS
          · have hd := dn_f c58 hd
            refine lv_iconst (v := (0 : Int32)) hx hb dX7_watch_61 (by decide) ?_
            refine lv_istore (lv' := [(9, .int (0 : Int32)), (0, .ref (a 0)), (1, .int p1), (2, .int x2_30), (3, .int x3_54), (4, .int x4_54), (5, .int x5_54), (6, .int x6_54), (7, .int x7_54), (8, .int x8_54)]) hx hb dX7_watch_62 hl (by decide) rfl (fun ls hl => ?_)
            refine lv_iload hx hb dX7_watch_64 (lv_at hl 9 rfl) ?_
            refine lv_iload hx hb dX7_watch_66 (lv_at hl 7 rfl) ?_
            refine lv_iload hx hb dX7_watch_68 (lv_at hl 6 rfl) ?_
            refine lv_bipush (v := (10 : Int32)) hx hb dX7_watch_70 (by decide) ?_
            refine lv_irem hx hb dX7_watch_72 (by decide) ?_
            refine lv_aload_n hx hb dX7_watch_73 rfl (lv_at hl 1 rfl) ?_
            refine va_get (D := D) (ci := 5) (v := .ref (a 1)) (C := RX7) (T := TX7) (N := 25) hx hb hts (fun w h => List.mem_cons_of_mem _ (List.mem_append_right _ h)) hown hK hP 0 rfl rfl 0 (by decide) (hts (.fieldLink RX7 7 "LeastNeedModel" "told" "[I") (List.mem_of_getElem? (i := 2) rfl)) (fun _ h9 => h9) rfl dX7_watch_74 ?_
            refine lv_bipush (v := (37 : Int32)) hx hb dX7_watch_77 (by decide) ?_
            refine lv_iconst (v := (4 : Int32)) hx hb dX7_watch_79 (by decide) ?_
            refine lv_iload_n hx hb dX7_watch_80 rfl (lv_at hl 2 rfl) ?_
            refine lv_imul hx hb dX7_watch_81 ?_
            refine lv_iadd hx hb dX7_watch_82 ?_
            refine lv_iload hx hb dX7_watch_83 (lv_at hl 7 rfl) ?_
            refine lv_iadd hx hb dX7_watch_85 ?_
            obtain ⟨hi86, hd⟩ := dn_i hd
            refine k_iald (D := D) (k := (((37 : Int32) + ((4 : Int32) * p1)) + x6_54).toNatClampNeg) (by rfl) hx hb hK hP 1 1 rfl rfl hi86 dX7_watch_86 ?_
            refine lv_aload_n hx hb dX7_watch_87 rfl (lv_at hl 1 rfl) ?_
            refine va_get (D := D) (ci := 5) (v := .ref (a 1)) (C := RX7) (T := TX7) (N := 25) hx hb hts (fun w h => List.mem_cons_of_mem _ (List.mem_append_right _ h)) hown hK hP 0 rfl rfl 0 (by decide) (hts (.fieldLink RX7 7 "LeastNeedModel" "told" "[I") (List.mem_of_getElem? (i := 2) rfl)) (fun _ h9 => h9) rfl dX7_watch_88 ?_
            refine lv_bipush (v := (15 : Int32)) hx hb dX7_watch_91 (by decide) ?_
            refine lv_iload_n hx hb dX7_watch_93 rfl (lv_at hl 2 rfl) ?_
            refine lv_iadd hx hb dX7_watch_94 ?_
            obtain ⟨hi95, hd⟩ := dn_i hd
            refine k_iald (D := D) (k := ((15 : Int32) + p1).toNatClampNeg) (by rfl) hx hb hK hP 1 1 rfl rfl hi95 dX7_watch_95 ?_
            obtain ⟨r96, hq96, hd⟩ := dn_b1 hd
            have hPc := k_P0 hP
            have hDc : va_D A ([] : va_W) := k_D0
            have hF := k_self hDc hS hA
            refine k_run_i (va_runS (As := [.int x8_54, .int x6_54, .int (x5_54 - x5_54 / (10 : Int32) * (10 : Int32)), .int (S_30 1 (((37 : Int32) + ((4 : Int32) * p1)) + x6_54).toNatClampNeg), .int (S_30 1 ((15 : Int32) + p1).toNatClampNeg)]) (rest := []) ⟨hx, hb, hml, hown, hts⟩ (mX7_showsAs l D cs  x8_54 x6_54 (x5_54 - x5_54 / (10 : Int32) * (10 : Int32)) (S_30 1 (((37 : Int32) + ((4 : Int32) * p1)) + x6_54).toNatClampNeg) (S_30 1 ((15 : Int32) + p1).toNatClampNeg) r96 hq96 _) (va_cwS 5 hts gX7_watch_X7_showsAs rfl rfl rfl (by decide +kernel) ⟨Nat.le_of_ble_eq_true rfl, Nat.le_of_ble_eq_true rfl⟩) ⟨k_blind, k_pre hPc hK hNn hDc⟩ rfl rfl hl.1 rfl (lv_room (Nat.le_of_ble_eq_true rfl)) dX7_watch_96 ⟨Nat.le_of_ble_eq_true rfl, Nat.le_of_ble_eq_true rfl⟩) hS hF (fun H locs hP1 hk hS => ?_)
            have hP : va_P D vwCl (wX7 cs a S_30 L) _ := k_keep hP hk
            refine lv_istore (lv' := [(10, .int r96), (9, .int (0 : Int32)), (0, .ref (a 0)), (1, .int p1), (2, .int x2_30), (3, .int x3_54), (4, .int x4_54), (5, .int x5_54), (6, .int x6_54), (7, .int x7_54), (8, .int x8_54)]) hx hb dX7_watch_99 hl (by decide) rfl (fun ls hl => ?_)
            refine lv_iconst (v := (0 : Int32)) hx hb dX7_watch_101 (by decide) ?_
            refine lv_istore (lv' := [(11, .int (0 : Int32)), (10, .int r96), (9, .int (0 : Int32)), (0, .ref (a 0)), (1, .int p1), (2, .int x2_30), (3, .int x3_54), (4, .int x4_54), (5, .int x5_54), (6, .int x6_54), (7, .int x7_54), (8, .int x8_54)]) hx hb dX7_watch_102 hl (by decide) rfl (fun ls hl => ?_)
            exact Lo104 1000 x7_54 x8_54 (0 : Int32) r96 (0 : Int32) _ _ _ hd (lv_sub hl [3, 4, 5, 6, 7, 8, 9, 10, 11, 2, 1, 0] rfl) hP hS
      unfold nX7_watch_l30 at hd
      refine lv_iload hx hb dX7_watch_30 (lv_at hl 5 rfl) ?_
      refine lv_bipush (v := (40 : Int32)) hx hb dX7_watch_32 (by decide) ?_
      refine lv_icmp_ge (tgt := 243) hx hb dX7_watch_34 (by decide) (fun c34 => ?_) (fun c34 => ?_)
      · have hd := dn_t c34 hd
        have hd := dn_up hd hy1
        refine lv_iload_n hx hb dX7_watch_243 rfl (lv_at hl 3 rfl) ?_
        obtain ⟨e1, e2⟩ := dn_s2 hd
        exact k_iret hx hb hr hQ hAe e1 (by rw [e2]) hP hS hlocks dX7_watch_244
      · have hd := dn_f c34 hd
        refine lv_iload_n hx hb dX7_watch_37 rfl (lv_at hl 2 rfl) ?_
        refine lv_if_le (tgt := 243) hx hb dX7_watch_38 (by decide) (fun c38 => ?_) (fun c38 => ?_)
        · have hd := dn_t c38 hd
          have hd := dn_up hd hy1
          refine lv_iload_n hx hb dX7_watch_243 rfl (lv_at hl 3 rfl) ?_
          obtain ⟨e1, e2⟩ := dn_s2 hd
          exact k_iret hx hb hr hQ hAe e1 (by rw [e2]) hP hS hlocks dX7_watch_244
        · have hd := dn_f c38 hd
          refine lv_iload hx hb dX7_watch_41 (lv_at hl 5 rfl) ?_
          refine lv_bipush (v := (10 : Int32)) hx hb dX7_watch_43 (by decide) ?_
          refine lv_idiv hx hb dX7_watch_45 (by decide) ?_
          refine lv_istore (lv' := [(6, .int (x5_30 / (10 : Int32))), (0, .ref (a 0)), (1, .int p1), (2, .int x2_30), (3, .int x3_30), (4, .int x4_30), (5, .int x5_30)]) hx hb dX7_watch_46 hl (by decide) rfl (fun ls hl => ?_)
          refine lv_iconst (v := (0 : Int32)) hx hb dX7_watch_48 (by decide) ?_
          refine lv_istore (lv' := [(7, .int (0 : Int32)), (6, .int (x5_30 / (10 : Int32))), (0, .ref (a 0)), (1, .int p1), (2, .int x2_30), (3, .int x3_30), (4, .int x4_30), (5, .int x5_30)]) hx hb dX7_watch_49 hl (by decide) rfl (fun ls hl => ?_)
          refine lv_iconst (v := (0 : Int32)) hx hb dX7_watch_51 (by decide) ?_
          refine lv_istore (lv' := [(8, .int (0 : Int32)), (7, .int (0 : Int32)), (6, .int (x5_30 / (10 : Int32))), (0, .ref (a 0)), (1, .int p1), (2, .int x2_30), (3, .int x3_30), (4, .int x4_30), (5, .int x5_30)]) hx hb dX7_watch_52 hl (by decide) rfl (fun ls hl => ?_)
          exact Lo54 1000 x3_30 x4_30 x5_30 (x5_30 / (10 : Int32)) (0 : Int32) (0 : Int32) _ _ _ hd (lv_sub hl [3, 4, 5, 6, 7, 8, 2, 1, 0] rfl) hP hS
  unfold nX7_watch at hd
  refine lv_aload_n hx hb dX7_watch_0 rfl (lv_at hl 0 rfl) ?_
  refine lv_iload_n hx hb dX7_watch_1 rfl (lv_at hl 1 rfl) ?_
  obtain ⟨r2, hq2, hd⟩ := dn_b1 hd
  have hF := k_self hD hS hA
  refine k_run_i (va_runV (As := [.int p1]) (rest := []) ⟨hx, hb, hml, hown, hts⟩ (mX7_isOne l D cs a S L p1 r2 hq2 _) (cwV 1 hts gX7_watch_X7_isOne rfl rfl rfl (by decide +kernel) ⟨Nat.le_of_ble_eq_true rfl, Nat.le_of_ble_eq_true rfl⟩) ⟨k_blind, va_recv hK hP (ci := 5) (q0 := 0) rfl rfl, k_pre hP hK hNn hD⟩ rfl rfl hl.1 rfl (lv_room (Nat.le_of_ble_eq_true rfl)) dX7_watch_2 ⟨Nat.le_of_ble_eq_true rfl, Nat.le_of_ble_eq_true rfl⟩) hS hF (fun H locs hP1 hk hS => ?_)
  have hP : va_P D vwCl (wX7 cs a S L) _ := hP1
  have hD := hDA S L
  refine lv_if_ne (tgt := 15) hx hb dX7_watch_5 (by decide) (fun c5 => ?_) (fun c5 => ?_)
  · have hd := dn_f c5 hd
    refine lv_aload_n hx hb dX7_watch_15 rfl (lv_at hl 0 rfl) ?_
    refine lv_iload_n hx hb dX7_watch_16 rfl (lv_at hl 1 rfl) ?_
    obtain ⟨r17, hq17, hd⟩ := dn_b1 hd
    have hF := k_self hD hS hA
    refine k_run_i (va_runV (As := [.int p1]) (rest := []) ⟨hx, hb, hml, hown, hts⟩ (mX7_kindsOf l D cs a S L p1 r17 hq17 _) (cwV 1 hts gX7_watch_X7_kindsOf rfl rfl rfl (by decide +kernel) ⟨Nat.le_of_ble_eq_true rfl, Nat.le_of_ble_eq_true rfl⟩) ⟨k_blind, va_recv hK hP (ci := 5) (q0 := 0) rfl rfl, k_pre hP hK hNn hD⟩ rfl rfl hl.1 rfl (lv_room (Nat.le_of_ble_eq_true rfl)) dX7_watch_17 ⟨Nat.le_of_ble_eq_true rfl, Nat.le_of_ble_eq_true rfl⟩) hS hF (fun H locs hP1 hk hS => ?_)
    have hP : va_P D vwCl (wX7 cs a S L) _ := hP1
    have hD := hDA S L
    refine lv_istore_n (lv' := [(2, .int r17), (0, .ref (a 0)), (1, .int p1)]) hx hb dX7_watch_20 rfl hl (by decide) rfl (fun ls hl => ?_)
    refine lv_iconst (v := (-1 : Int32)) hx hb dX7_watch_21 (by decide) ?_
    refine lv_istore_n (lv' := [(3, .int (-1 : Int32)), (2, .int r17), (0, .ref (a 0)), (1, .int p1)]) hx hb dX7_watch_22 rfl hl (by decide) rfl (fun ls hl => ?_)
    refine lv_ldc (v := (1000000 : Int32)) hx hb hown (hts (.constant RX7 134 (1000000)) (List.mem_of_getElem? (i := 1) rfl)) dX7_watch_23 ?_
    refine lv_istore (lv' := [(4, .int (1000000 : Int32)), (3, .int (-1 : Int32)), (2, .int r17), (0, .ref (a 0)), (1, .int p1)]) hx hb dX7_watch_25 hl (by decide) rfl (fun ls hl => ?_)
    refine lv_iconst (v := (0 : Int32)) hx hb dX7_watch_27 (by decide) ?_
    refine lv_istore (lv' := [(5, .int (0 : Int32)), (4, .int (1000000 : Int32)), (3, .int (-1 : Int32)), (2, .int r17), (0, .ref (a 0)), (1, .int p1)]) hx hb dX7_watch_28 hl (by decide) rfl (fun ls hl => ?_)
    exact Lo30 1000 r17 (-1 : Int32) (1000000 : Int32) (0 : Int32) S _ _ _ hd (lv_sub hl [4, 5, 3, 2, 1, 0] rfl) hP hS
  · have hd := dn_t c5 hd
    refine lv_aload_n hx hb dX7_watch_8 rfl (lv_at hl 0 rfl) ?_
    refine lv_bipush (v := (-2 : Int32)) hx hb dX7_watch_9 (by decide) ?_
    obtain ⟨r11, S11, hq11, hd⟩ := dn_b2 hd
    have hF := k_self hD hS hA
    refine k_run_i (va_runV (As := [.int (-2 : Int32)]) (rest := []) ⟨hx, hb, hml, hown, hts⟩ (mX7_bad l D cs a S L (-2 : Int32) r11 S11 hq11 _) (cwV 1 hts gX7_watch_X7_bad rfl rfl rfl (by decide +kernel) ⟨Nat.le_of_ble_eq_true rfl, Nat.le_of_ble_eq_true rfl⟩) ⟨k_blind, va_recv hK hP (ci := 5) (q0 := 0) rfl rfl, k_pre hP hK hNn hD⟩ rfl rfl hl.1 rfl (lv_room (Nat.le_of_ble_eq_true rfl)) dX7_watch_11 ⟨Nat.le_of_ble_eq_true rfl, Nat.le_of_ble_eq_true rfl⟩) hS hF (fun H locs hP1 hk hS => ?_)
    have hP : va_P D vwCl (wX7 cs a S11 L) _ := hP1
    have hD := hDA S11 L
    obtain ⟨e1, e2⟩ := dn_s2 hd
    exact k_iret hx hb hr hQ hAe e1 (by rw [e2]) hP hS hlocks dX7_watch_14
-- LeastNeedModel.kindsOfThing(I)I
set_option maxRecDepth 20000 in
def nX7_kindsOfThing_i12_j134 (p1 : Int32) (x3_134 : Int32) (w0_134 : Int32) (w1_134 : Int32) (S_12 : Nat → Nat → Int32) (L : Nat → Nat → Int64) : Option ((Int32 × Int32) ⊕ (Int32 × (Nat → Nat → Int32))) := some (.inl ((w1_134 ||| w0_134), (x3_134 + (1 : Int32))))
set_option maxRecDepth 20000 in
def nX7_kindsOfThing_i12_i24_j112 (p1 : Int32) (x2_24 : Int32) (x3_24 : Int32) (x5_112 : Int32) (S_12 : Nat → Nat → Int32) (L : Nat → Nat → Int64) : Option ((Int32 × Int32) ⊕ ((Int32 × Int32) ⊕ (Int32 × (Nat → Nat → Int32)))) := some (.inl ((0 : Int32), (x5_112 + (1 : Int32))))
set_option maxRecDepth 20000 in
def nX7_kindsOfThing_i12_i24_j108 (p1 : Int32) (x2_24 : Int32) (x3_24 : Int32) (x5_108 : Int32) (S_12 : Nat → Nat → Int32) (L : Nat → Nat → Int64) : Option ((Int32 × Int32) ⊕ ((Int32 × Int32) ⊕ (Int32 × (Nat → Nat → Int32)))) := some (.inl ((1 : Int32), (x5_108 + (1 : Int32))))
set_option maxRecDepth 20000 in
def nX7_kindsOfThing_i12_l24 (p1 : Int32) (x2_24 : Int32) (x3_24 : Int32) (x4_24 : Int32) (x5_24 : Int32) (S_12 : Nat → Nat → Int32) (L : Nat → Nat → Int64) : Option ((Int32 × Int32) ⊕ ((Int32 × Int32) ⊕ (Int32 × (Nat → Nat → Int32)))) := if (S_12 1 3) ≤ x5_24 then k_up (if x4_24 = 0 then nX7_kindsOfThing_i12_j134 p1 x3_24 (0 : Int32) x2_24 S_12 L else nX7_kindsOfThing_i12_j134 p1 x3_24 ((1 : Int32) <<< (x3_24 &&& 31)) x2_24 S_12 L) else if x4_24 = 0 then nX7_kindsOfThing_i12_i24_j112 p1 x2_24 x3_24 x5_24 S_12 L else if ((116 : Int32) + ((4 : Int32) * x5_24)) < 0 ∨ 284 ≤ ((116 : Int32) + ((4 : Int32) * x5_24)).toNatClampNeg then none else if (S_12 1 ((116 : Int32) + ((4 : Int32) * x5_24)).toNatClampNeg) = p1 then if ((70 : Int32) + p1) < 0 ∨ 284 ≤ ((70 : Int32) + p1).toNatClampNeg then none else if (((116 : Int32) + ((4 : Int32) * x5_24)) + (2 : Int32)) < 0 ∨ 284 ≤ (((116 : Int32) + ((4 : Int32) * x5_24)) + (2 : Int32)).toNatClampNeg then none else if (((116 : Int32) + ((4 : Int32) * x5_24)) + (1 : Int32)) < 0 ∨ 284 ≤ (((116 : Int32) + ((4 : Int32) * x5_24)) + (1 : Int32)).toNatClampNeg then none else k_b1 (nX7_comesTo_1 S_12 L x3_24 (S_12 1 ((70 : Int32) + p1).toNatClampNeg) (S_12 1 (((116 : Int32) + ((4 : Int32) * x5_24)) + (2 : Int32)).toNatClampNeg) (S_12 1 (((116 : Int32) + ((4 : Int32) * x5_24)) + (1 : Int32)).toNatClampNeg)) (fun r93 => if (((116 : Int32) + ((4 : Int32) * x5_24)) + (3 : Int32)) < 0 ∨ 284 ≤ (((116 : Int32) + ((4 : Int32) * x5_24)) + (3 : Int32)).toNatClampNeg then none else if r93 = (S_12 1 (((116 : Int32) + ((4 : Int32) * x5_24)) + (3 : Int32)).toNatClampNeg) then nX7_kindsOfThing_i12_i24_j108 p1 x2_24 x3_24 x5_24 S_12 L else nX7_kindsOfThing_i12_i24_j112 p1 x2_24 x3_24 x5_24 S_12 L) else nX7_kindsOfThing_i12_i24_j108 p1 x2_24 x3_24 x5_24 S_12 L
set_option maxRecDepth 20000 in
def nX7_kindsOfThing_l12 (p1 : Int32) (x2_12 : Int32) (x3_12 : Int32) (S_12 : Nat → Nat → Int32) (L : Nat → Nat → Int64) : Option ((Int32 × Int32) ⊕ (Int32 × (Nat → Nat → Int32))) := if (6 : Int32) ≤ x3_12 then k_up (some (x2_12, S_12)) else k_it (fun st => nX7_kindsOfThing_i12_l24 p1 x2_12 x3_12 st.1 st.2 S_12 L) 1000 ((1 : Int32), (0 : Int32))
set_option maxRecDepth 20000 in
def nX7_kindsOfThing (S : Nat → Nat → Int32) (L : Nat → Nat → Int64) (p1 : Int32) : Option (Int32 × (Nat → Nat → Int32)) := k_b1 (nX7_layCoats_1 S L) (fun S7 => k_it (fun st => nX7_kindsOfThing_l12 p1 st.1 st.2 S7 L) 1000 ((0 : Int32), (0 : Int32)))
set_option maxHeartbeats 4000000 in
set_option maxRecDepth 100000 in
theorem mX7_kindsOfThing (l : Launch) (D : va_G) (cs : Nat → ClassId) (a : Nat → Nat) (S : Nat → Nat → Int32) (L : Nat → Nat → Int64) (p1 : Int32) (r9 : Int32) (S9 : (Nat → Nat → Int32)) (hd : nX7_kindsOfThing S L p1 = some (r9, S9)) : ∀ sz : Nat, Met l yX7_kindsOfThing wsX7_kindsOfThing ({ frames := 4, cells := 0, slots := 0, locals := 106 }) (k_Pc D cs [.ref (a 0), .int p1] (wX7 cs a S L) sz) (k_Qi D r9 (wX7 cs a S L) (wX7 cs a S9 L) sz) 0 0 (va_A (wX7 cs a S L) sz) := by
  intro sz
  refine Met.ofW (cc := cX7_kindsOfThing) (maxL := 7) (ret := (some .int)) (by decide) rfl ?_
  intro p e s m args below meth c s₁ B hml hv
  obtain ⟨rfl, hsz, hP, hK, hD0, hNn⟩ := hv
  have hx := B.exec
  have hb := B.bytes
  have hr := B.returns
  have hts := atoms_spec (ws := wsX7_kindsOfThing) B.pre
  have hown : s.vm.findClass RX7 = some m.cls := findClass_of_methodNamed B.named
  have hlocks := B.notSynchronized
  subst hsz
  obtain ⟨A, hAe⟩ : ∃ A : Nat → Prop, A = va_A (wX7 cs a S L) s.heap.size := ⟨_, rfl⟩
  have hD : va_D A (wX7 cs a S L) := by rw [hAe]; exact hD0.self
  have hA : ∀ q : Nat, s.heap.size ≤ q → A q := fun q h => by rw [hAe]; exact Or.inr h
  have hS : va_S A s.heap s.heap [] := va_S.rf
  have hDA : ∀ (S : Nat → Nat → Int32) (L : Nat → Nat → Int64), va_D A (wX7 cs a S L) := fun S L => k_DA hD rfl
  have hl := lv_entry ([.ref (a 0), .int p1]) (n := 7) (Nat.le_of_ble_eq_true rfl)
  rw [lg_entry_eq]
  generalize (lg_sl ([.ref (a 0), .int p1]) ++ List.replicate (7 - (lg_sl ([.ref (a 0), .int p1])).length) Slot.unset).toArray = ls at hl ⊢
  have hl : lv_has ls 7 [(0, .ref (a 0)), (1, .int p1)] := hl
  obtain ⟨Q, hQ⟩ : ∃ Q, Q = MQ below (k_Qi D r9 (wX7 cs a S L) (wX7 cs a S9 L) s.heap.size) ([.ref (a 0), .int p1] : List Value).toArray s 0 0 (va_A (wX7 cs a S L) s.heap.size) := ⟨_, rfl⟩
  rw [← hQ]
  have Lo12 : ∀ (n1 : Nat) (x2_12 : Int32) (x3_12 : Int32) (S_12 : Nat → Nat → Int32) (H : Heap) (locs : List Loc) (ls : Array Slot), k_it (fun st => nX7_kindsOfThing_l12 p1 st.1 st.2 S_12 L) n1 (x2_12, x3_12) = some (r9, S9) → lv_has ls 7 [(0, .ref (a 0)), (1, .int p1), (2, .int x2_12), (3, .int x3_12)] → va_P D vwCl (wX7 cs a S_12 L) H → va_S A s.heap H locs → W p l e (headSpec wsX7_kindsOfThing ({ frames := 4, cells := 0, slots := 0, locals := 106 })).room s m ([.ref (a 0), .int p1] : List Value).toArray below meth c H locs 0 0 Q (F0 m 12 ls []) := by
    intro n1
    induction n1 with
    | zero => intro x2_12 x3_12 S_12 H locs ls hd; exact dn_it0 hd
    | succ n1 ih1 =>
      intro x2_12 x3_12 S_12 H locs ls hd hl hP hS
      have hD := hDA S_12 L
      obtain ⟨y1, hd, hy1⟩ := dn_it hd
      have hd : nX7_kindsOfThing_l12 p1 x2_12 x3_12 S_12 L = some y1 := hd
      have Jo134 : ∀ (x3_134 : Int32) (w0_134 : Int32) (w1_134 : Int32) (H : Heap) (locs : List Loc) (ls : Array Slot), nX7_kindsOfThing_i12_j134 p1 x3_134 w0_134 w1_134 S_12 L = some y1 → lv_has ls 7 [(0, .ref (a 0)), (1, .int p1), (3, .int x3_134)] → va_P D vwCl (wX7 cs a S_12 L) H → va_S A s.heap H locs → W p l e (headSpec wsX7_kindsOfThing ({ frames := 4, cells := 0, slots := 0, locals := 106 })).room s m ([.ref (a 0), .int p1] : List Value).toArray below meth c H locs 0 0 Q (F0 m 134 ls [.int w0_134, .int w1_134]) := by
        intro x3_134 w0_134 w1_134 H locs ls hd hl hP hS
        have hD := hDA S_12 L
        unfold nX7_kindsOfThing_i12_j134 at hd
        refine lv_ior hx hb dX7_kindsOfThing_134 ?_
        refine lv_istore_n (lv' := [(2, .int (w1_134 ||| w0_134)), (0, .ref (a 0)), (1, .int p1), (3, .int x3_134)]) hx hb dX7_kindsOfThing_135 rfl hl (by decide) rfl (fun ls hl => ?_)
        refine lv_iinc (v := x3_134 + (1 : Int32)) (lv' := [(3, .int (x3_134 + (1 : Int32))), (2, .int (w1_134 ||| w0_134)), (0, .ref (a 0)), (1, .int p1)]) hx hb dX7_kindsOfThing_136 hl (k := 3) rfl rfl (by decide) rfl (fun ls hl => ?_)
        refine lv_goto (tgt := 12) hx hb dX7_kindsOfThing_139 (by decide) ?_
        exact ih1 (w1_134 ||| w0_134) (x3_134 + (1 : Int32)) S_12 _ _ _ (dn_bk hd hy1) (lv_sub hl [2, 3, 1, 0] rfl) hP hS
      have Lo24 : ∀ (n2 : Nat) (x2_24 : Int32) (x3_24 : Int32) (x4_24 : Int32) (x5_24 : Int32) (H : Heap) (locs : List Loc) (ls : Array Slot), k_it (fun st => nX7_kindsOfThing_i12_l24 p1 x2_24 x3_24 st.1 st.2 S_12 L) n2 (x4_24, x5_24) = some y1 → lv_has ls 7 [(0, .ref (a 0)), (1, .int p1), (2, .int x2_24), (3, .int x3_24), (4, .int x4_24), (5, .int x5_24)] → va_P D vwCl (wX7 cs a S_12 L) H → va_S A s.heap H locs → W p l e (headSpec wsX7_kindsOfThing ({ frames := 4, cells := 0, slots := 0, locals := 106 })).room s m ([.ref (a 0), .int p1] : List Value).toArray below meth c H locs 0 0 Q (F0 m 24 ls []) := by
        intro n2
        induction n2 with
        | zero => intro x2_24 x3_24 x4_24 x5_24 H locs ls hd; exact dn_it0 hd
        | succ n2 ih2 =>
          intro x2_24 x3_24 x4_24 x5_24 H locs ls hd hl hP hS
          have hD := hDA S_12 L
          obtain ⟨y2, hd, hy2⟩ := dn_it hd
          have hd : nX7_kindsOfThing_i12_l24 p1 x2_24 x3_24 x4_24 x5_24 S_12 L = some y2 := hd
          have Jo112 : ∀ (x5_112 : Int32) (H : Heap) (locs : List Loc) (ls : Array Slot), nX7_kindsOfThing_i12_i24_j112 p1 x2_24 x3_24 x5_112 S_12 L = some y2 → lv_has ls 7 [(0, .ref (a 0)), (1, .int p1), (2, .int x2_24), (3, .int x3_24), (5, .int x5_112)] → va_P D vwCl (wX7 cs a S_12 L) H → va_S A s.heap H locs → W p l e (headSpec wsX7_kindsOfThing ({ frames := 4, cells := 0, slots := 0, locals := 106 })).room s m ([.ref (a 0), .int p1] : List Value).toArray below meth c H locs 0 0 Q (F0 m 112 ls []) := by
            intro x5_112 H locs ls hd hl hP hS
            have hD := hDA S_12 L
            unfold nX7_kindsOfThing_i12_i24_j112 at hd
            refine lv_iconst (v := (0 : Int32)) hx hb dX7_kindsOfThing_112 (by decide) ?_
            refine lv_istore (lv' := [(4, .int (0 : Int32)), (0, .ref (a 0)), (1, .int p1), (2, .int x2_24), (3, .int x3_24), (5, .int x5_112)]) hx hb dX7_kindsOfThing_113 hl (by decide) rfl (fun ls hl => ?_)
            refine lv_iinc (v := x5_112 + (1 : Int32)) (lv' := [(5, .int (x5_112 + (1 : Int32))), (4, .int (0 : Int32)), (0, .ref (a 0)), (1, .int p1), (2, .int x2_24), (3, .int x3_24)]) hx hb dX7_kindsOfThing_115 hl (k := 5) rfl rfl (by decide) rfl (fun ls hl => ?_)
            refine lv_goto (tgt := 24) hx hb dX7_kindsOfThing_118 (by decide) ?_
            exact ih2 x2_24 x3_24 (0 : Int32) (x5_112 + (1 : Int32)) _ _ _ (dn_bk hd hy2) (lv_sub hl [2, 3, 4, 5, 1, 0] rfl) hP hS
          have Jo108 : ∀ (x5_108 : Int32) (H : Heap) (locs : List Loc) (ls : Array Slot), nX7_kindsOfThing_i12_i24_j108 p1 x2_24 x3_24 x5_108 S_12 L = some y2 → lv_has ls 7 [(0, .ref (a 0)), (1, .int p1), (2, .int x2_24), (3, .int x3_24), (5, .int x5_108)] → va_P D vwCl (wX7 cs a S_12 L) H → va_S A s.heap H locs → W p l e (headSpec wsX7_kindsOfThing ({ frames := 4, cells := 0, slots := 0, locals := 106 })).room s m ([.ref (a 0), .int p1] : List Value).toArray below meth c H locs 0 0 Q (F0 m 108 ls []) := by
            intro x5_108 H locs ls hd hl hP hS
            have hD := hDA S_12 L
            unfold nX7_kindsOfThing_i12_i24_j108 at hd
            refine lv_iconst (v := (1 : Int32)) hx hb dX7_kindsOfThing_108 (by decide) ?_
            refine lv_goto (tgt := 113) hx hb dX7_kindsOfThing_109 (by decide) ?_
            refine lv_istore (lv' := [(4, .int (1 : Int32)), (0, .ref (a 0)), (1, .int p1), (2, .int x2_24), (3, .int x3_24), (5, .int x5_108)]) hx hb dX7_kindsOfThing_113 hl (by decide) rfl (fun ls hl => ?_)
            refine lv_iinc (v := x5_108 + (1 : Int32)) (lv' := [(5, .int (x5_108 + (1 : Int32))), (4, .int (1 : Int32)), (0, .ref (a 0)), (1, .int p1), (2, .int x2_24), (3, .int x3_24)]) hx hb dX7_kindsOfThing_115 hl (k := 5) rfl rfl (by decide) rfl (fun ls hl => ?_)
            refine lv_goto (tgt := 24) hx hb dX7_kindsOfThing_118 (by decide) ?_
            exact ih2 x2_24 x3_24 (1 : Int32) (x5_108 + (1 : Int32)) _ _ _ (dn_bk hd hy2) (lv_sub hl [2, 3, 4, 5, 1, 0] rfl) hP hS
          unfold nX7_kindsOfThing_i12_l24 at hd
          refine lv_iload hx hb dX7_kindsOfThing_24 (lv_at hl 5 rfl) ?_
          refine lv_aload_n hx hb dX7_kindsOfThing_26 rfl (lv_at hl 0 rfl) ?_
          refine va_get (D := D) (ci := 5) (v := .ref (a 1)) (C := RX7) (T := TX7) (N := 25) hx hb hts (fun w h => List.mem_cons_of_mem _ (List.mem_append_right _ h)) hown hK hP 0 rfl rfl 0 (by decide) (hts (.fieldLink RX7 7 "LeastNeedModel" "told" "[I") (List.mem_of_getElem? (i := 1) rfl)) (fun _ h9 => h9) rfl dX7_kindsOfThing_27 ?_
          refine lv_iconst (v := (3 : Int32)) hx hb dX7_kindsOfThing_30 (by decide) ?_
          refine k_iald (D := D) (k := 3) (by rfl) hx hb hK hP 1 1 rfl rfl (k_in (by decide)) dX7_kindsOfThing_31 ?_
          refine lv_icmp_ge (tgt := 121) hx hb dX7_kindsOfThing_32 (by decide) (fun c32 => ?_) (fun c32 => ?_)
          · have hd := dn_t c32 hd
            have hd := dn_up hd hy2
            refine lv_iload_n hx hb dX7_kindsOfThing_121 rfl (lv_at hl 2 rfl) ?_
            refine lv_iload hx hb dX7_kindsOfThing_122 (lv_at hl 4 rfl) ?_
            refine lv_if_eq (tgt := 133) hx hb dX7_kindsOfThing_124 (by decide) (fun c124 => ?_) (fun c124 => ?_)
            · have hd := dn_t c124 hd
              refine lv_iconst (v := (0 : Int32)) hx hb dX7_kindsOfThing_133 (by decide) ?_
              exact Jo134 x3_24 (0 : Int32) x2_24 _ _ _ hd (lv_sub hl [0, 1, 3] rfl) hP hS
            · have hd := dn_f c124 hd
              refine lv_iconst (v := (1 : Int32)) hx hb dX7_kindsOfThing_127 (by decide) ?_
              refine lv_iload_n hx hb dX7_kindsOfThing_128 rfl (lv_at hl 3 rfl) ?_
              refine lv_ishl hx hb dX7_kindsOfThing_129 ?_
              refine lv_goto (tgt := 134) hx hb dX7_kindsOfThing_130 (by decide) ?_
              exact Jo134 x3_24 ((1 : Int32) <<< (x3_24 &&& 31)) x2_24 _ _ _ hd (lv_sub hl [0, 1, 3] rfl) hP hS
          · have hd := dn_f c32 hd
            refine lv_bipush (v := (116 : Int32)) hx hb dX7_kindsOfThing_35 (by decide) ?_
            refine lv_iconst (v := (4 : Int32)) hx hb dX7_kindsOfThing_37 (by decide) ?_
            refine lv_iload hx hb dX7_kindsOfThing_38 (lv_at hl 5 rfl) ?_
            refine lv_imul hx hb dX7_kindsOfThing_40 ?_
            refine lv_iadd hx hb dX7_kindsOfThing_41 ?_
            refine lv_istore (lv' := [(6, .int ((116 : Int32) + ((4 : Int32) * x5_24))), (0, .ref (a 0)), (1, .int p1), (2, .int x2_24), (3, .int x3_24), (4, .int x4_24), (5, .int x5_24)]) hx hb dX7_kindsOfThing_42 hl (by decide) rfl (fun ls hl => ?_)
            refine lv_iload hx hb dX7_kindsOfThing_44 (lv_at hl 5 rfl) ?_
            refine lv_if_eq (tgt := 112) hx hb dX7_kindsOfThing_46 (by decide) (fun c46 => ?_) (fun c46 => ?_)
            · have hd := dn_t c46 hd
              exact Jo112 x5_24 _ _ _ hd (lv_sub hl [1, 2, 3, 4, 6] rfl) hP hS
            · have hd := dn_f c46 hd
              refine lv_aload_n hx hb dX7_kindsOfThing_49 rfl (lv_at hl 1 rfl) ?_
              refine va_get (D := D) (ci := 5) (v := .ref (a 1)) (C := RX7) (T := TX7) (N := 25) hx hb hts (fun w h => List.mem_cons_of_mem _ (List.mem_append_right _ h)) hown hK hP 0 rfl rfl 0 (by decide) (hts (.fieldLink RX7 7 "LeastNeedModel" "told" "[I") (List.mem_of_getElem? (i := 1) rfl)) (fun _ h9 => h9) rfl dX7_kindsOfThing_50 ?_
              refine lv_iload hx hb dX7_kindsOfThing_53 (lv_at hl 0 rfl) ?_
              obtain ⟨hi55, hd⟩ := dn_i hd
              refine k_iald (D := D) (k := ((116 : Int32) + ((4 : Int32) * x5_24)).toNatClampNeg) (by rfl) hx hb hK hP 1 1 rfl rfl hi55 dX7_kindsOfThing_55 ?_
              refine lv_iload_n hx hb dX7_kindsOfThing_56 rfl (lv_at hl 2 rfl) ?_
              refine lv_icmp_ne (tgt := 108) hx hb dX7_kindsOfThing_57 (by decide) (fun c57 => ?_) (fun c57 => ?_)
              · have hd := dn_f c57 hd
                exact Jo108 x5_24 _ _ _ hd (lv_sub hl [1, 2, 3, 4, 6] rfl) hP hS
              · have hd := dn_t c57 hd
                refine lv_aload_n hx hb dX7_kindsOfThing_60 rfl (lv_at hl 1 rfl) ?_
                refine lv_aload_n hx hb dX7_kindsOfThing_61 rfl (lv_at hl 1 rfl) ?_
                refine va_get (D := D) (ci := 5) (v := .ref (a 1)) (C := RX7) (T := TX7) (N := 25) hx hb hts (fun w h => List.mem_cons_of_mem _ (List.mem_append_right _ h)) hown hK hP 0 rfl rfl 0 (by decide) (hts (.fieldLink RX7 7 "LeastNeedModel" "told" "[I") (List.mem_of_getElem? (i := 1) rfl)) (fun _ h9 => h9) rfl dX7_kindsOfThing_62 ?_
                refine lv_iload_n hx hb dX7_kindsOfThing_65 rfl (lv_at hl 4 rfl) ?_
                refine lv_aload_n hx hb dX7_kindsOfThing_66 rfl (lv_at hl 1 rfl) ?_
                refine va_get (D := D) (ci := 5) (v := .ref (a 1)) (C := RX7) (T := TX7) (N := 25) hx hb hts (fun w h => List.mem_cons_of_mem _ (List.mem_append_right _ h)) hown hK hP 0 rfl rfl 0 (by decide) (hts (.fieldLink RX7 7 "LeastNeedModel" "told" "[I") (List.mem_of_getElem? (i := 1) rfl)) (fun _ h9 => h9) rfl dX7_kindsOfThing_67 ?_
                refine lv_bipush (v := (70 : Int32)) hx hb dX7_kindsOfThing_70 (by decide) ?_
                refine lv_iload_n hx hb dX7_kindsOfThing_72 rfl (lv_at hl 2 rfl) ?_
                refine lv_iadd hx hb dX7_kindsOfThing_73 ?_
                obtain ⟨hi74, hd⟩ := dn_i hd
                refine k_iald (D := D) (k := ((70 : Int32) + p1).toNatClampNeg) (by rfl) hx hb hK hP 1 1 rfl rfl hi74 dX7_kindsOfThing_74 ?_
                refine lv_aload_n hx hb dX7_kindsOfThing_75 rfl (lv_at hl 1 rfl) ?_
                refine va_get (D := D) (ci := 5) (v := .ref (a 1)) (C := RX7) (T := TX7) (N := 25) hx hb hts (fun w h => List.mem_cons_of_mem _ (List.mem_append_right _ h)) hown hK hP 0 rfl rfl 0 (by decide) (hts (.fieldLink RX7 7 "LeastNeedModel" "told" "[I") (List.mem_of_getElem? (i := 1) rfl)) (fun _ h9 => h9) rfl dX7_kindsOfThing_76 ?_
                refine lv_iload hx hb dX7_kindsOfThing_79 (lv_at hl 0 rfl) ?_
                refine lv_iconst (v := (2 : Int32)) hx hb dX7_kindsOfThing_81 (by decide) ?_
                refine lv_iadd hx hb dX7_kindsOfThing_82 ?_
                obtain ⟨hi83, hd⟩ := dn_i hd
                refine k_iald (D := D) (k := (((116 : Int32) + ((4 : Int32) * x5_24)) + (2 : Int32)).toNatClampNeg) (by rfl) hx hb hK hP 1 1 rfl rfl hi83 dX7_kindsOfThing_83 ?_
                refine lv_aload_n hx hb dX7_kindsOfThing_84 rfl (lv_at hl 1 rfl) ?_
                refine va_get (D := D) (ci := 5) (v := .ref (a 1)) (C := RX7) (T := TX7) (N := 25) hx hb hts (fun w h => List.mem_cons_of_mem _ (List.mem_append_right _ h)) hown hK hP 0 rfl rfl 0 (by decide) (hts (.fieldLink RX7 7 "LeastNeedModel" "told" "[I") (List.mem_of_getElem? (i := 1) rfl)) (fun _ h9 => h9) rfl dX7_kindsOfThing_85 ?_
                refine lv_iload hx hb dX7_kindsOfThing_88 (lv_at hl 0 rfl) ?_
                refine lv_iconst (v := (1 : Int32)) hx hb dX7_kindsOfThing_90 (by decide) ?_
                refine lv_iadd hx hb dX7_kindsOfThing_91 ?_
                obtain ⟨hi92, hd⟩ := dn_i hd
                refine k_iald (D := D) (k := (((116 : Int32) + ((4 : Int32) * x5_24)) + (1 : Int32)).toNatClampNeg) (by rfl) hx hb hK hP 1 1 rfl rfl hi92 dX7_kindsOfThing_92 ?_
                obtain ⟨r93, hq93, hd⟩ := dn_b1 hd
                have hF := k_self hD hS hA
                refine k_run_i (va_runV (As := [.ref (a 1), .int x3_24, .int (S_12 1 ((70 : Int32) + p1).toNatClampNeg), .int (S_12 1 (((116 : Int32) + ((4 : Int32) * x5_24)) + (2 : Int32)).toNatClampNeg), .int (S_12 1 (((116 : Int32) + ((4 : Int32) * x5_24)) + (1 : Int32)).toNatClampNeg)]) (rest := []) ⟨hx, hb, hml, hown, hts⟩ (mX7_comesTo_1 l D cs a S_12 L x3_24 (S_12 1 ((70 : Int32) + p1).toNatClampNeg) (S_12 1 (((116 : Int32) + ((4 : Int32) * x5_24)) + (2 : Int32)).toNatClampNeg) (S_12 1 (((116 : Int32) + ((4 : Int32) * x5_24)) + (1 : Int32)).toNatClampNeg) r93 hq93 _) (cwV 5 hts gX7_kindsOfThing_X7_comesTo rfl rfl rfl (by decide +kernel) ⟨Nat.le_of_ble_eq_true rfl, Nat.le_of_ble_eq_true rfl⟩) ⟨k_blind, va_recv hK hP (ci := 5) (q0 := 0) rfl rfl, k_pre hP hK hNn hD⟩ rfl rfl hl.1 rfl (lv_room (Nat.le_of_ble_eq_true rfl)) dX7_kindsOfThing_93 ⟨Nat.le_of_ble_eq_true rfl, Nat.le_of_ble_eq_true rfl⟩) hS hF (fun H locs hP1 hk hS => ?_)
                have hP : va_P D vwCl (wX7 cs a S_12 L) _ := hP1
                have hD := hDA S_12 L
                refine lv_aload_n hx hb dX7_kindsOfThing_96 rfl (lv_at hl 1 rfl) ?_
                refine va_get (D := D) (ci := 5) (v := .ref (a 1)) (C := RX7) (T := TX7) (N := 25) hx hb hts (fun w h => List.mem_cons_of_mem _ (List.mem_append_right _ h)) hown hK hP 0 rfl rfl 0 (by decide) (hts (.fieldLink RX7 7 "LeastNeedModel" "told" "[I") (List.mem_of_getElem? (i := 1) rfl)) (fun _ h9 => h9) rfl dX7_kindsOfThing_97 ?_
                refine lv_iload hx hb dX7_kindsOfThing_100 (lv_at hl 0 rfl) ?_
                refine lv_iconst (v := (3 : Int32)) hx hb dX7_kindsOfThing_102 (by decide) ?_
                refine lv_iadd hx hb dX7_kindsOfThing_103 ?_
                obtain ⟨hi104, hd⟩ := dn_i hd
                refine k_iald (D := D) (k := (((116 : Int32) + ((4 : Int32) * x5_24)) + (3 : Int32)).toNatClampNeg) (by rfl) hx hb hK hP 1 1 rfl rfl hi104 dX7_kindsOfThing_104 ?_
                refine lv_icmp_ne (tgt := 112) hx hb dX7_kindsOfThing_105 (by decide) (fun c105 => ?_) (fun c105 => ?_)
                · have hd := dn_f c105 hd
                  exact Jo112 x5_24 _ _ _ hd (lv_sub hl [1, 2, 3, 4, 6] rfl) hP hS
                · have hd := dn_t c105 hd
                  exact Jo108 x5_24 _ _ _ hd (lv_sub hl [1, 2, 3, 4, 6] rfl) hP hS
      unfold nX7_kindsOfThing_l12 at hd
      refine lv_iload_n hx hb dX7_kindsOfThing_12 rfl (lv_at hl 3 rfl) ?_
      refine lv_bipush (v := (6 : Int32)) hx hb dX7_kindsOfThing_13 (by decide) ?_
      refine lv_icmp_ge (tgt := 142) hx hb dX7_kindsOfThing_15 (by decide) (fun c15 => ?_) (fun c15 => ?_)
      · have hd := dn_t c15 hd
        have hd := dn_up hd hy1
        refine lv_iload_n hx hb dX7_kindsOfThing_142 rfl (lv_at hl 2 rfl) ?_
        obtain ⟨e1, e2⟩ := dn_s2 hd
        exact k_iret hx hb hr hQ hAe e1 (by rw [e2]) hP hS hlocks dX7_kindsOfThing_143
      · have hd := dn_f c15 hd
        refine lv_iconst (v := (1 : Int32)) hx hb dX7_kindsOfThing_18 (by decide) ?_
        refine lv_istore (lv' := [(4, .int (1 : Int32)), (0, .ref (a 0)), (1, .int p1), (2, .int x2_12), (3, .int x3_12)]) hx hb dX7_kindsOfThing_19 hl (by decide) rfl (fun ls hl => ?_)
        refine lv_iconst (v := (0 : Int32)) hx hb dX7_kindsOfThing_21 (by decide) ?_
        refine lv_istore (lv' := [(5, .int (0 : Int32)), (4, .int (1 : Int32)), (0, .ref (a 0)), (1, .int p1), (2, .int x2_12), (3, .int x3_12)]) hx hb dX7_kindsOfThing_22 hl (by decide) rfl (fun ls hl => ?_)
        exact Lo24 1000 x2_12 x3_12 (1 : Int32) (0 : Int32) _ _ _ hd (lv_sub hl [2, 3, 4, 5, 1, 0] rfl) hP hS
  unfold nX7_kindsOfThing at hd
  refine lv_iconst (v := (0 : Int32)) hx hb dX7_kindsOfThing_0 (by decide) ?_
  refine lv_istore_n (lv' := [(2, .int (0 : Int32)), (0, .ref (a 0)), (1, .int p1)]) hx hb dX7_kindsOfThing_1 rfl hl (by decide) rfl (fun ls hl => ?_)
  refine lv_aload_n hx hb dX7_kindsOfThing_2 rfl (lv_at hl 1 rfl) ?_
  refine lv_aload_n hx hb dX7_kindsOfThing_3 rfl (lv_at hl 1 rfl) ?_
  refine va_get (D := D) (ci := 5) (v := .ref (a 1)) (C := RX7) (T := TX7) (N := 25) hx hb hts (fun w h => List.mem_cons_of_mem _ (List.mem_append_right _ h)) hown hK hP 0 rfl rfl 0 (by decide) (hts (.fieldLink RX7 7 "LeastNeedModel" "told" "[I") (List.mem_of_getElem? (i := 1) rfl)) (fun _ h9 => h9) rfl dX7_kindsOfThing_4 ?_
  obtain ⟨S7, hq7, hd⟩ := dn_b1 hd
  have hF := k_self hD hS hA
  refine k_run_v (va_runV (As := [.ref (a 1)]) (rest := []) ⟨hx, hb, hml, hown, hts⟩ (mX7_layCoats_1 l D cs a S L S7 hq7 _) (cwV 1 hts gX7_kindsOfThing_X7_layCoats rfl rfl rfl (by decide +kernel) ⟨Nat.le_of_ble_eq_true rfl, Nat.le_of_ble_eq_true rfl⟩) ⟨k_blind, va_recv hK hP (ci := 5) (q0 := 0) rfl rfl, k_pre hP hK hNn hD⟩ rfl rfl hl.1 rfl (lv_room (Nat.le_of_ble_eq_true rfl)) dX7_kindsOfThing_7 ⟨Nat.le_of_ble_eq_true rfl, Nat.le_of_ble_eq_true rfl⟩) hS hF (fun H locs hP1 hk hS => ?_)
  have hP : va_P D vwCl (wX7 cs a S7 L) _ := hP1
  have hD := hDA S7 L
  refine lv_iconst (v := (0 : Int32)) hx hb dX7_kindsOfThing_10 (by decide) ?_
  refine lv_istore_n (lv' := [(3, .int (0 : Int32)), (2, .int (0 : Int32)), (0, .ref (a 0)), (1, .int p1)]) hx hb dX7_kindsOfThing_11 rfl hl (by decide) rfl (fun ls hl => ?_)
  exact Lo12 1000 (0 : Int32) (0 : Int32) S7 _ _ _ hd (lv_sub hl [2, 3, 1, 0] rfl) hP hS
-- LeastNeedModel.kinds(I)I
set_option maxRecDepth 20000 in
def nX7_kinds (S : Nat → Nat → Int32) (L : Nat → Nat → Int64) (p1 : Int32) : Option (Int32 × (Nat → Nat → Int32)) := k_b1 (nX7_isThing S L p1) (fun r2 => if r2 = 0 then k_b2 (nX7_bad S L (-2 : Int32)) (fun r19 S19 => some (r19, S19)) else k_b2 (nX7_kindsOfThing S L p1) (fun r10 S10 => some (r10, S10)))
set_option maxHeartbeats 4000000 in
set_option maxRecDepth 100000 in
theorem mX7_kinds (l : Launch) (D : va_G) (cs : Nat → ClassId) (a : Nat → Nat) (S : Nat → Nat → Int32) (L : Nat → Nat → Int64) (p1 : Int32) (r9 : Int32) (S9 : (Nat → Nat → Int32)) (hd : nX7_kinds S L p1 = some (r9, S9)) : ∀ sz : Nat, Met l yX7_kinds wsX7_kinds ({ frames := 5, cells := 0, slots := 0, locals := 132 }) (k_Pc D cs [.ref (a 0), .int p1] (wX7 cs a S L) sz) (k_Qi D r9 (wX7 cs a S L) (wX7 cs a S9 L) sz) 0 0 (va_A (wX7 cs a S L) sz) := by
  intro sz
  refine Met.ofW (cc := cX7_kinds) (maxL := 2) (ret := (some .int)) (by decide) rfl ?_
  intro p e s m args below meth c s₁ B hml hv
  obtain ⟨rfl, hsz, hP, hK, hD0, hNn⟩ := hv
  have hx := B.exec
  have hb := B.bytes
  have hr := B.returns
  have hts := atoms_spec (ws := wsX7_kinds) B.pre
  have hown : s.vm.findClass RX7 = some m.cls := findClass_of_methodNamed B.named
  have hlocks := B.notSynchronized
  subst hsz
  obtain ⟨A, hAe⟩ : ∃ A : Nat → Prop, A = va_A (wX7 cs a S L) s.heap.size := ⟨_, rfl⟩
  have hD : va_D A (wX7 cs a S L) := by rw [hAe]; exact hD0.self
  have hA : ∀ q : Nat, s.heap.size ≤ q → A q := fun q h => by rw [hAe]; exact Or.inr h
  have hS : va_S A s.heap s.heap [] := va_S.rf
  have hDA : ∀ (S : Nat → Nat → Int32) (L : Nat → Nat → Int64), va_D A (wX7 cs a S L) := fun S L => k_DA hD rfl
  have hl := lv_entry ([.ref (a 0), .int p1]) (n := 2) (Nat.le_of_ble_eq_true rfl)
  rw [lg_entry_eq]
  generalize (lg_sl ([.ref (a 0), .int p1]) ++ List.replicate (2 - (lg_sl ([.ref (a 0), .int p1])).length) Slot.unset).toArray = ls at hl ⊢
  have hl : lv_has ls 2 [(0, .ref (a 0)), (1, .int p1)] := hl
  obtain ⟨Q, hQ⟩ : ∃ Q, Q = MQ below (k_Qi D r9 (wX7 cs a S L) (wX7 cs a S9 L) s.heap.size) ([.ref (a 0), .int p1] : List Value).toArray s 0 0 (va_A (wX7 cs a S L) s.heap.size) := ⟨_, rfl⟩
  rw [← hQ]
  unfold nX7_kinds at hd
  refine lv_aload_n hx hb dX7_kinds_0 rfl (lv_at hl 0 rfl) ?_
  refine lv_iload_n hx hb dX7_kinds_1 rfl (lv_at hl 1 rfl) ?_
  obtain ⟨r2, hq2, hd⟩ := dn_b1 hd
  have hF := k_self hD hS hA
  refine k_run_i (va_runV (As := [.int p1]) (rest := []) ⟨hx, hb, hml, hown, hts⟩ (mX7_isThing l D cs a S L p1 r2 hq2 _) (cwV 1 hts gX7_kinds_X7_isThing rfl rfl rfl (by decide +kernel) ⟨Nat.le_of_ble_eq_true rfl, Nat.le_of_ble_eq_true rfl⟩) ⟨k_blind, va_recv hK hP (ci := 5) (q0 := 0) rfl rfl, k_pre hP hK hNn hD⟩ rfl rfl hl.1 rfl (lv_room (Nat.le_of_ble_eq_true rfl)) dX7_kinds_2 ⟨Nat.le_of_ble_eq_true rfl, Nat.le_of_ble_eq_true rfl⟩) hS hF (fun H locs hP1 hk hS => ?_)
  have hP : va_P D vwCl (wX7 cs a S L) _ := hP1
  have hD := hDA S L
  refine lv_if_eq (tgt := 16) hx hb dX7_kinds_5 (by decide) (fun c5 => ?_) (fun c5 => ?_)
  · have hd := dn_t c5 hd
    refine lv_aload_n hx hb dX7_kinds_16 rfl (lv_at hl 0 rfl) ?_
    refine lv_bipush (v := (-2 : Int32)) hx hb dX7_kinds_17 (by decide) ?_
    obtain ⟨r19, S19, hq19, hd⟩ := dn_b2 hd
    have hF := k_self hD hS hA
    refine k_run_i (va_runV (As := [.int (-2 : Int32)]) (rest := []) ⟨hx, hb, hml, hown, hts⟩ (mX7_bad l D cs a S L (-2 : Int32) r19 S19 hq19 _) (cwV 1 hts gX7_kinds_X7_bad rfl rfl rfl (by decide +kernel) ⟨Nat.le_of_ble_eq_true rfl, Nat.le_of_ble_eq_true rfl⟩) ⟨k_blind, va_recv hK hP (ci := 5) (q0 := 0) rfl rfl, k_pre hP hK hNn hD⟩ rfl rfl hl.1 rfl (lv_room (Nat.le_of_ble_eq_true rfl)) dX7_kinds_19 ⟨Nat.le_of_ble_eq_true rfl, Nat.le_of_ble_eq_true rfl⟩) hS hF (fun H locs hP1 hk hS => ?_)
    have hP : va_P D vwCl (wX7 cs a S19 L) _ := hP1
    have hD := hDA S19 L
    obtain ⟨e1, e2⟩ := dn_s2 hd
    exact k_iret hx hb hr hQ hAe e1 (by rw [e2]) hP hS hlocks dX7_kinds_22
  · have hd := dn_f c5 hd
    refine lv_aload_n hx hb dX7_kinds_8 rfl (lv_at hl 0 rfl) ?_
    refine lv_iload_n hx hb dX7_kinds_9 rfl (lv_at hl 1 rfl) ?_
    obtain ⟨r10, S10, hq10, hd⟩ := dn_b2 hd
    have hF := k_self hD hS hA
    refine k_run_i (va_runV (As := [.int p1]) (rest := []) ⟨hx, hb, hml, hown, hts⟩ (mX7_kindsOfThing l D cs a S L p1 r10 S10 hq10 _) (cwV 1 hts gX7_kinds_X7_kindsOfThing rfl rfl rfl (by decide +kernel) ⟨Nat.le_of_ble_eq_true rfl, Nat.le_of_ble_eq_true rfl⟩) ⟨k_blind, va_recv hK hP (ci := 5) (q0 := 0) rfl rfl, k_pre hP hK hNn hD⟩ rfl rfl hl.1 rfl (lv_room (Nat.le_of_ble_eq_true rfl)) dX7_kinds_10 ⟨Nat.le_of_ble_eq_true rfl, Nat.le_of_ble_eq_true rfl⟩) hS hF (fun H locs hP1 hk hS => ?_)
    have hP : va_P D vwCl (wX7 cs a S10 L) _ := hP1
    have hD := hDA S10 L
    refine lv_goto (tgt := 22) hx hb dX7_kinds_13 (by decide) ?_
    obtain ⟨e1, e2⟩ := dn_s2 hd
    exact k_iret hx hb hr hQ hAe e1 (by rw [e2]) hP hS hlocks dX7_kinds_22
-- LeastNeedModel.by(I)I
set_option maxRecDepth 20000 in
def nX7_by_i30_j206 (p1 : Int32) (x2_30 : Int32) (x4_206 : Int32) (x5_206 : Int32) (x6_206 : Int32) (w0_206 : Int32) (S_206 : Nat → Nat → Int32) (L : Nat → Nat → Int64) : Option ((Int32 × Int32 × Int32 × (Nat → Nat → Int32)) ⊕ (Int32 × (Nat → Nat → Int32))) := if x4_206 ≤ x6_206 then some (.inl (w0_206, x4_206, (x5_206 + (1 : Int32)), S_206)) else some (.inl (w0_206, x6_206, (x5_206 + (1 : Int32)), S_206))
set_option maxRecDepth 20000 in
def nX7_by_i30_i100_j171 (p1 : Int32) (x2_30 : Int32) (x3_100 : Int32) (x4_100 : Int32) (x5_100 : Int32) (x6_171 : Int32) (x7_171 : Int32) (x8_171 : Int32) (S_100 : Nat → Nat → Int32) (L : Nat → Nat → Int64) : Option ((Int32 × Int32) ⊕ ((Int32 × Int32 × Int32 × (Nat → Nat → Int32)) ⊕ (Int32 × (Nat → Nat → Int32)))) := if x8_171 ≤ x6_171 then some (.inl (x6_171, (x7_171 + (1 : Int32)))) else some (.inl (x8_171, (x7_171 + (1 : Int32))))
set_option maxRecDepth 20000 in
def nX7_by_i30_i100_i113_j162 (p1 : Int32) (x2_30 : Int32) (x3_100 : Int32) (x4_100 : Int32) (x5_100 : Int32) (x6_113 : Int32) (x7_113 : Int32) (x9_162 : Int32) (w0_162 : Int32) (w1_162 : Int32) (S_100 : Nat → Nat → Int32) (L : Nat → Nat → Int64) : Option ((Int32 × Int32) ⊕ ((Int32 × Int32) ⊕ ((Int32 × Int32 × Int32 × (Nat → Nat → Int32)) ⊕ (Int32 × (Nat → Nat → Int32))))) := some (.inl ((w1_162 + w0_162), (x9_162 + (1 : Int32))))
set_option maxRecDepth 20000 in
def nX7_by_i30_i100_i113_j161 (p1 : Int32) (x2_30 : Int32) (x3_100 : Int32) (x4_100 : Int32) (x5_100 : Int32) (x6_113 : Int32) (x7_113 : Int32) (x9_161 : Int32) (w0_161 : Int32) (S_100 : Nat → Nat → Int32) (L : Nat → Nat → Int64) : Option ((Int32 × Int32) ⊕ ((Int32 × Int32) ⊕ ((Int32 × Int32 × Int32 × (Nat → Nat → Int32)) ⊕ (Int32 × (Nat → Nat → Int32))))) := nX7_by_i30_i100_i113_j162 p1 x2_30 x3_100 x4_100 x5_100 x6_113 x7_113 x9_161 (0 : Int32) w0_161 S_100 L
set_option maxRecDepth 20000 in
def nX7_by_i30_i100_l113 (p1 : Int32) (x2_30 : Int32) (x3_100 : Int32) (x4_100 : Int32) (x5_100 : Int32) (x6_113 : Int32) (x7_113 : Int32) (x8_113 : Int32) (x9_113 : Int32) (S_100 : Nat → Nat → Int32) (L : Nat → Nat → Int64) : Option ((Int32 × Int32) ⊕ ((Int32 × Int32) ⊕ ((Int32 × Int32 × Int32 × (Nat → Nat → Int32)) ⊕ (Int32 × (Nat → Nat → Int32))))) := if (6 : Int32) ≤ x9_113 then k_up (nX7_by_i30_i100_j171 p1 x2_30 x3_100 x4_100 x5_100 x6_113 x7_113 x8_113 S_100 L) else k_b1 (nX7_has x2_30 x7_113) (fun r123 => if r123 = 0 then k_up (nX7_by_i30_i100_j171 p1 x2_30 x3_100 x4_100 x5_100 x6_113 x7_113 x8_113 S_100 L) else k_b1 (nX7_has x2_30 x9_113) (fun r134 => if r134 = 0 then nX7_by_i30_i100_i113_j161 p1 x2_30 x3_100 x4_100 x5_100 x6_113 x7_113 x9_113 x8_113 S_100 L else if x9_113 < 0 ∨ 6 ≤ x9_113.toNatClampNeg then none else if x7_113 < 0 ∨ 6 ≤ x7_113.toNatClampNeg then none else if (S_100 10 x9_113.toNatClampNeg) = (S_100 10 x7_113.toNatClampNeg) then nX7_by_i30_i100_i113_j162 p1 x2_30 x3_100 x4_100 x5_100 x6_113 x7_113 x9_113 (1 : Int32) x8_113 S_100 L else nX7_by_i30_i100_i113_j161 p1 x2_30 x3_100 x4_100 x5_100 x6_113 x7_113 x9_113 x8_113 S_100 L))
set_option maxRecDepth 20000 in
def nX7_by_i30_l100 (p1 : Int32) (x2_30 : Int32) (x3_100 : Int32) (x4_100 : Int32) (x5_100 : Int32) (x6_100 : Int32) (x7_100 : Int32) (S_100 : Nat → Nat → Int32) (L : Nat → Nat → Int64) : Option ((Int32 × Int32) ⊕ ((Int32 × Int32 × Int32 × (Nat → Nat → Int32)) ⊕ (Int32 × (Nat → Nat → Int32)))) := if (6 : Int32) ≤ x7_100 then k_up (if x4_100 ≤ x6_100 then nX7_by_i30_j206 p1 x2_30 x4_100 x5_100 x6_100 x3_100 S_100 L else nX7_by_i30_j206 p1 x2_30 x4_100 x5_100 x6_100 x5_100 S_100 L) else k_it (fun st => nX7_by_i30_i100_l113 p1 x2_30 x3_100 x4_100 x5_100 x6_100 x7_100 st.1 st.2 S_100 L) 1000 ((0 : Int32), (0 : Int32))
set_option maxRecDepth 20000 in
def nX7_by_i30_l49 (p1 : Int32) (x2_30 : Int32) (x3_49 : Int32) (x4_49 : Int32) (x5_49 : Int32) (x6_49 : Int32) (x7_49 : Int32) (S_49 : Nat → Nat → Int32) (L : Nat → Nat → Int64) : Option ((Int32 × (Nat → Nat → Int32)) ⊕ ((Int32 × Int32 × Int32 × (Nat → Nat → Int32)) ⊕ (Int32 × (Nat → Nat → Int32)))) := if (6 : Int32) ≤ x7_49 then k_up (k_it (fun st => nX7_by_i30_l100 p1 x2_30 x3_49 x4_49 x5_49 st.1 st.2 S_49 L) 1000 (x6_49, (0 : Int32))) else if ((70 : Int32) + p1) < 0 ∨ 284 ≤ ((70 : Int32) + p1).toNatClampNeg then none else k_b1 (nX7_comesTo_1 S_49 L x7_49 (S_49 1 ((70 : Int32) + p1).toNatClampNeg) (S_49 1 22) x5_49) (fun r87 => if x7_49 < 0 ∨ 6 ≤ x7_49.toNatClampNeg then none else some (.inl ((x7_49 + (1 : Int32)), (k_w S_49 10 x7_49.toNatClampNeg r87))))
set_option maxRecDepth 20000 in
def nX7_by_l30 (p1 : Int32) (x2_30 : Int32) (x3_30 : Int32) (x4_30 : Int32) (x5_30 : Int32) (S_30 : Nat → Nat → Int32) (L : Nat → Nat → Int64) : Option ((Int32 × Int32 × Int32 × (Nat → Nat → Int32)) ⊕ (Int32 × (Nat → Nat → Int32))) := k_b1 (nX7_many S_30 L) (fun r33 => if r33 ≤ x5_30 then k_up (some (x3_30, S_30)) else if x2_30 ≤ 0 then k_up (some (x3_30, S_30)) else k_it (fun st => nX7_by_i30_l49 p1 x2_30 x3_30 x4_30 x5_30 (0 : Int32) st.1 st.2 L) 1000 ((0 : Int32), S_30))
set_option maxRecDepth 20000 in
def nX7_by (S : Nat → Nat → Int32) (L : Nat → Nat → Int64) (p1 : Int32) : Option (Int32 × (Nat → Nat → Int32)) := k_b1 (nX7_isThing S L p1) (fun r2 => if r2 = 0 then k_b2 (nX7_bad S L (-2 : Int32)) (fun r11 S11 => some (r11, S11)) else k_b2 (nX7_kindsOfThing S L p1) (fun r17 S17 => k_it (fun st => nX7_by_l30 p1 r17 st.1 st.2.1 st.2.2.1 st.2.2.2 L) 1000 ((-1 : Int32), (1000000 : Int32), (0 : Int32), S17)))
set_option maxHeartbeats 4000000 in
set_option maxRecDepth 100000 in
theorem mX7_by (l : Launch) (D : va_G) (cs : Nat → ClassId) (a : Nat → Nat) (S : Nat → Nat → Int32) (L : Nat → Nat → Int64) (p1 : Int32) (r9 : Int32) (S9 : (Nat → Nat → Int32)) (hd : nX7_by S L p1 = some (r9, S9)) : ∀ sz : Nat, Met l yX7_by wsX7_by ({ frames := 5, cells := 0, slots := 0, locals := 132 }) (k_Pc D cs [.ref (a 0), .int p1] (wX7 cs a S L) sz) (k_Qi D r9 (wX7 cs a S L) (wX7 cs a S9 L) sz) 0 0 (va_A (wX7 cs a S L) sz) := by
  intro sz
  refine Met.ofW (cc := cX7_by) (maxL := 10) (ret := (some .int)) (by decide) rfl ?_
  intro p e s m args below meth c s₁ B hml hv
  obtain ⟨rfl, hsz, hP, hK, hD0, hNn⟩ := hv
  have hx := B.exec
  have hb := B.bytes
  have hr := B.returns
  have hts := atoms_spec (ws := wsX7_by) B.pre
  have hown : s.vm.findClass RX7 = some m.cls := findClass_of_methodNamed B.named
  have hlocks := B.notSynchronized
  subst hsz
  obtain ⟨A, hAe⟩ : ∃ A : Nat → Prop, A = va_A (wX7 cs a S L) s.heap.size := ⟨_, rfl⟩
  have hD : va_D A (wX7 cs a S L) := by rw [hAe]; exact hD0.self
  have hA : ∀ q : Nat, s.heap.size ≤ q → A q := fun q h => by rw [hAe]; exact Or.inr h
  have hS : va_S A s.heap s.heap [] := va_S.rf
  have hDA : ∀ (S : Nat → Nat → Int32) (L : Nat → Nat → Int64), va_D A (wX7 cs a S L) := fun S L => k_DA hD rfl
  have hl := lv_entry ([.ref (a 0), .int p1]) (n := 10) (Nat.le_of_ble_eq_true rfl)
  rw [lg_entry_eq]
  generalize (lg_sl ([.ref (a 0), .int p1]) ++ List.replicate (10 - (lg_sl ([.ref (a 0), .int p1])).length) Slot.unset).toArray = ls at hl ⊢
  have hl : lv_has ls 10 [(0, .ref (a 0)), (1, .int p1)] := hl
  obtain ⟨Q, hQ⟩ : ∃ Q, Q = MQ below (k_Qi D r9 (wX7 cs a S L) (wX7 cs a S9 L) s.heap.size) ([.ref (a 0), .int p1] : List Value).toArray s 0 0 (va_A (wX7 cs a S L) s.heap.size) := ⟨_, rfl⟩
  rw [← hQ]
  have Lo30 : ∀ (n1 : Nat) (x2_30 : Int32) (x3_30 : Int32) (x4_30 : Int32) (x5_30 : Int32) (S_30 : Nat → Nat → Int32) (H : Heap) (locs : List Loc) (ls : Array Slot), k_it (fun st => nX7_by_l30 p1 x2_30 st.1 st.2.1 st.2.2.1 st.2.2.2 L) n1 (x3_30, x4_30, x5_30, S_30) = some (r9, S9) → lv_has ls 10 [(0, .ref (a 0)), (1, .int p1), (2, .int x2_30), (3, .int x3_30), (4, .int x4_30), (5, .int x5_30)] → va_P D vwCl (wX7 cs a S_30 L) H → va_S A s.heap H locs → W p l e (headSpec wsX7_by ({ frames := 5, cells := 0, slots := 0, locals := 132 })).room s m ([.ref (a 0), .int p1] : List Value).toArray below meth c H locs 0 0 Q (F0 m 30 ls []) := by
    intro n1
    induction n1 with
    | zero => intro x2_30 x3_30 x4_30 x5_30 S_30 H locs ls hd; exact dn_it0 hd
    | succ n1 ih1 =>
      intro x2_30 x3_30 x4_30 x5_30 S_30 H locs ls hd hl hP hS
      have hD := hDA S_30 L
      obtain ⟨y1, hd, hy1⟩ := dn_it hd
      have hd : nX7_by_l30 p1 x2_30 x3_30 x4_30 x5_30 S_30 L = some y1 := hd
      have Jo206 : ∀ (x4_206 : Int32) (x5_206 : Int32) (x6_206 : Int32) (w0_206 : Int32) (S_206 : Nat → Nat → Int32) (H : Heap) (locs : List Loc) (ls : Array Slot), nX7_by_i30_j206 p1 x2_30 x4_206 x5_206 x6_206 w0_206 S_206 L = some y1 → lv_has ls 10 [(0, .ref (a 0)), (1, .int p1), (2, .int x2_30), (4, .int x4_206), (5, .int x5_206), (6, .int x6_206)] → va_P D vwCl (wX7 cs a S_206 L) H → va_S A s.heap H locs → W p l e (headSpec wsX7_by ({ frames := 5, cells := 0, slots := 0, locals := 132 })).room s m ([.ref (a 0), .int p1] : List Value).toArray below meth c H locs 0 0 Q (F0 m 206 ls [.int w0_206]) := by
        intro x4_206 x5_206 x6_206 w0_206 S_206 H locs ls hd hl hP hS
        have hD := hDA S_206 L
        unfold nX7_by_i30_j206 at hd
        refine lv_istore_n (lv' := [(3, .int w0_206), (0, .ref (a 0)), (1, .int p1), (2, .int x2_30), (4, .int x4_206), (5, .int x5_206), (6, .int x6_206)]) hx hb dX7_by_206 rfl hl (by decide) rfl (fun ls hl => ?_)
        refine lv_iload hx hb dX7_by_207 (lv_at hl 6 rfl) ?_
        refine lv_iload hx hb dX7_by_209 (lv_at hl 4 rfl) ?_
        refine lv_icmp_ge (tgt := 219) hx hb dX7_by_211 (by decide) (fun c211 => ?_) (fun c211 => ?_)
        · have hd := dn_t c211 hd
          refine lv_iload hx hb dX7_by_219 (lv_at hl 4 rfl) ?_
          refine lv_istore (lv' := [(4, .int x4_206), (3, .int w0_206), (0, .ref (a 0)), (1, .int p1), (2, .int x2_30), (5, .int x5_206), (6, .int x6_206)]) hx hb dX7_by_221 hl (by decide) rfl (fun ls hl => ?_)
          refine lv_iinc (v := x5_206 + (1 : Int32)) (lv' := [(5, .int (x5_206 + (1 : Int32))), (4, .int x4_206), (3, .int w0_206), (0, .ref (a 0)), (1, .int p1), (2, .int x2_30), (6, .int x6_206)]) hx hb dX7_by_223 hl (k := 5) rfl rfl (by decide) rfl (fun ls hl => ?_)
          refine lv_goto (tgt := 30) hx hb dX7_by_226 (by decide) ?_
          exact ih1 x2_30 w0_206 x4_206 (x5_206 + (1 : Int32)) S_206 _ _ _ (dn_bk hd hy1) (lv_sub hl [3, 4, 5, 2, 1, 0] rfl) hP hS
        · have hd := dn_f c211 hd
          refine lv_iload hx hb dX7_by_214 (lv_at hl 6 rfl) ?_
          refine lv_goto (tgt := 221) hx hb dX7_by_216 (by decide) ?_
          refine lv_istore (lv' := [(4, .int x6_206), (3, .int w0_206), (0, .ref (a 0)), (1, .int p1), (2, .int x2_30), (5, .int x5_206), (6, .int x6_206)]) hx hb dX7_by_221 hl (by decide) rfl (fun ls hl => ?_)
          refine lv_iinc (v := x5_206 + (1 : Int32)) (lv' := [(5, .int (x5_206 + (1 : Int32))), (4, .int x6_206), (3, .int w0_206), (0, .ref (a 0)), (1, .int p1), (2, .int x2_30), (6, .int x6_206)]) hx hb dX7_by_223 hl (k := 5) rfl rfl (by decide) rfl (fun ls hl => ?_)
          refine lv_goto (tgt := 30) hx hb dX7_by_226 (by decide) ?_
          exact ih1 x2_30 w0_206 x6_206 (x5_206 + (1 : Int32)) S_206 _ _ _ (dn_bk hd hy1) (lv_sub hl [3, 4, 5, 2, 1, 0] rfl) hP hS
      have Lo100 : ∀ (n2 : Nat) (x3_100 : Int32) (x4_100 : Int32) (x5_100 : Int32) (x6_100 : Int32) (x7_100 : Int32) (S_100 : Nat → Nat → Int32) (H : Heap) (locs : List Loc) (ls : Array Slot), k_it (fun st => nX7_by_i30_l100 p1 x2_30 x3_100 x4_100 x5_100 st.1 st.2 S_100 L) n2 (x6_100, x7_100) = some y1 → lv_has ls 10 [(0, .ref (a 0)), (1, .int p1), (2, .int x2_30), (3, .int x3_100), (4, .int x4_100), (5, .int x5_100), (6, .int x6_100), (7, .int x7_100)] → va_P D vwCl (wX7 cs a S_100 L) H → va_S A s.heap H locs → W p l e (headSpec wsX7_by ({ frames := 5, cells := 0, slots := 0, locals := 132 })).room s m ([.ref (a 0), .int p1] : List Value).toArray below meth c H locs 0 0 Q (F0 m 100 ls []) := by
        intro n2
        induction n2 with
        | zero => intro x3_100 x4_100 x5_100 x6_100 x7_100 S_100 H locs ls hd; exact dn_it0 hd
        | succ n2 ih2 =>
          intro x3_100 x4_100 x5_100 x6_100 x7_100 S_100 H locs ls hd hl hP hS
          have hD := hDA S_100 L
          obtain ⟨y2, hd, hy2⟩ := dn_it hd
          have hd : nX7_by_i30_l100 p1 x2_30 x3_100 x4_100 x5_100 x6_100 x7_100 S_100 L = some y2 := hd
          have Jo171 : ∀ (x6_171 : Int32) (x7_171 : Int32) (x8_171 : Int32) (H : Heap) (locs : List Loc) (ls : Array Slot), nX7_by_i30_i100_j171 p1 x2_30 x3_100 x4_100 x5_100 x6_171 x7_171 x8_171 S_100 L = some y2 → lv_has ls 10 [(0, .ref (a 0)), (1, .int p1), (2, .int x2_30), (3, .int x3_100), (4, .int x4_100), (5, .int x5_100), (6, .int x6_171), (7, .int x7_171), (8, .int x8_171)] → va_P D vwCl (wX7 cs a S_100 L) H → va_S A s.heap H locs → W p l e (headSpec wsX7_by ({ frames := 5, cells := 0, slots := 0, locals := 132 })).room s m ([.ref (a 0), .int p1] : List Value).toArray below meth c H locs 0 0 Q (F0 m 171 ls []) := by
            intro x6_171 x7_171 x8_171 H locs ls hd hl hP hS
            have hD := hDA S_100 L
            unfold nX7_by_i30_i100_j171 at hd
            refine lv_iload hx hb dX7_by_171 (lv_at hl 8 rfl) ?_
            refine lv_iload hx hb dX7_by_173 (lv_at hl 6 rfl) ?_
            refine lv_icmp_le (tgt := 183) hx hb dX7_by_175 (by decide) (fun c175 => ?_) (fun c175 => ?_)
            · have hd := dn_t c175 hd
              refine lv_iload hx hb dX7_by_183 (lv_at hl 6 rfl) ?_
              refine lv_istore (lv' := [(6, .int x6_171), (0, .ref (a 0)), (1, .int p1), (2, .int x2_30), (3, .int x3_100), (4, .int x4_100), (5, .int x5_100), (7, .int x7_171), (8, .int x8_171)]) hx hb dX7_by_185 hl (by decide) rfl (fun ls hl => ?_)
              refine lv_iinc (v := x7_171 + (1 : Int32)) (lv' := [(7, .int (x7_171 + (1 : Int32))), (6, .int x6_171), (0, .ref (a 0)), (1, .int p1), (2, .int x2_30), (3, .int x3_100), (4, .int x4_100), (5, .int x5_100), (8, .int x8_171)]) hx hb dX7_by_187 hl (k := 7) rfl rfl (by decide) rfl (fun ls hl => ?_)
              refine lv_goto (tgt := 100) hx hb dX7_by_190 (by decide) ?_
              exact ih2 x3_100 x4_100 x5_100 x6_171 (x7_171 + (1 : Int32)) S_100 _ _ _ (dn_bk hd hy2) (lv_sub hl [2, 3, 4, 5, 6, 7, 1, 0] rfl) hP hS
            · have hd := dn_f c175 hd
              refine lv_iload hx hb dX7_by_178 (lv_at hl 8 rfl) ?_
              refine lv_goto (tgt := 185) hx hb dX7_by_180 (by decide) ?_
              refine lv_istore (lv' := [(6, .int x8_171), (0, .ref (a 0)), (1, .int p1), (2, .int x2_30), (3, .int x3_100), (4, .int x4_100), (5, .int x5_100), (7, .int x7_171), (8, .int x8_171)]) hx hb dX7_by_185 hl (by decide) rfl (fun ls hl => ?_)
              refine lv_iinc (v := x7_171 + (1 : Int32)) (lv' := [(7, .int (x7_171 + (1 : Int32))), (6, .int x8_171), (0, .ref (a 0)), (1, .int p1), (2, .int x2_30), (3, .int x3_100), (4, .int x4_100), (5, .int x5_100), (8, .int x8_171)]) hx hb dX7_by_187 hl (k := 7) rfl rfl (by decide) rfl (fun ls hl => ?_)
              refine lv_goto (tgt := 100) hx hb dX7_by_190 (by decide) ?_
              exact ih2 x3_100 x4_100 x5_100 x8_171 (x7_171 + (1 : Int32)) S_100 _ _ _ (dn_bk hd hy2) (lv_sub hl [2, 3, 4, 5, 6, 7, 1, 0] rfl) hP hS
          have Lo113 : ∀ (n3 : Nat) (x6_113 : Int32) (x7_113 : Int32) (x8_113 : Int32) (x9_113 : Int32) (H : Heap) (locs : List Loc) (ls : Array Slot), k_it (fun st => nX7_by_i30_i100_l113 p1 x2_30 x3_100 x4_100 x5_100 x6_113 x7_113 st.1 st.2 S_100 L) n3 (x8_113, x9_113) = some y2 → lv_has ls 10 [(0, .ref (a 0)), (1, .int p1), (2, .int x2_30), (3, .int x3_100), (4, .int x4_100), (5, .int x5_100), (6, .int x6_113), (7, .int x7_113), (8, .int x8_113), (9, .int x9_113)] → va_P D vwCl (wX7 cs a S_100 L) H → va_S A s.heap H locs → W p l e (headSpec wsX7_by ({ frames := 5, cells := 0, slots := 0, locals := 132 })).room s m ([.ref (a 0), .int p1] : List Value).toArray below meth c H locs 0 0 Q (F0 m 113 ls []) := by
            intro n3
            induction n3 with
            | zero => intro x6_113 x7_113 x8_113 x9_113 H locs ls hd; exact dn_it0 hd
            | succ n3 ih3 =>
              intro x6_113 x7_113 x8_113 x9_113 H locs ls hd hl hP hS
              have hD := hDA S_100 L
              obtain ⟨y3, hd, hy3⟩ := dn_it hd
              have hd : nX7_by_i30_i100_l113 p1 x2_30 x3_100 x4_100 x5_100 x6_113 x7_113 x8_113 x9_113 S_100 L = some y3 := hd
              have Jo162 : ∀ (x9_162 : Int32) (w0_162 : Int32) (w1_162 : Int32) (H : Heap) (locs : List Loc) (ls : Array Slot), nX7_by_i30_i100_i113_j162 p1 x2_30 x3_100 x4_100 x5_100 x6_113 x7_113 x9_162 w0_162 w1_162 S_100 L = some y3 → lv_has ls 10 [(0, .ref (a 0)), (1, .int p1), (2, .int x2_30), (3, .int x3_100), (4, .int x4_100), (5, .int x5_100), (6, .int x6_113), (7, .int x7_113), (9, .int x9_162)] → va_P D vwCl (wX7 cs a S_100 L) H → va_S A s.heap H locs → W p l e (headSpec wsX7_by ({ frames := 5, cells := 0, slots := 0, locals := 132 })).room s m ([.ref (a 0), .int p1] : List Value).toArray below meth c H locs 0 0 Q (F0 m 162 ls [.int w0_162, .int w1_162]) := by
                intro x9_162 w0_162 w1_162 H locs ls hd hl hP hS
                have hD := hDA S_100 L
                unfold nX7_by_i30_i100_i113_j162 at hd
                refine lv_iadd hx hb dX7_by_162 ?_
                refine lv_istore (lv' := [(8, .int (w1_162 + w0_162)), (0, .ref (a 0)), (1, .int p1), (2, .int x2_30), (3, .int x3_100), (4, .int x4_100), (5, .int x5_100), (6, .int x6_113), (7, .int x7_113), (9, .int x9_162)]) hx hb dX7_by_163 hl (by decide) rfl (fun ls hl => ?_)
                refine lv_iinc (v := x9_162 + (1 : Int32)) (lv' := [(9, .int (x9_162 + (1 : Int32))), (8, .int (w1_162 + w0_162)), (0, .ref (a 0)), (1, .int p1), (2, .int x2_30), (3, .int x3_100), (4, .int x4_100), (5, .int x5_100), (6, .int x6_113), (7, .int x7_113)]) hx hb dX7_by_165 hl (k := 9) rfl rfl (by decide) rfl (fun ls hl => ?_)
                refine lv_goto (tgt := 113) hx hb dX7_by_168 (by decide) ?_
                exact ih3 x6_113 x7_113 (w1_162 + w0_162) (x9_162 + (1 : Int32)) _ _ _ (dn_bk hd hy3) (lv_sub hl [2, 3, 4, 5, 6, 7, 8, 9, 1, 0] rfl) hP hS
              have Jo161 : ∀ (x9_161 : Int32) (w0_161 : Int32) (H : Heap) (locs : List Loc) (ls : Array Slot), nX7_by_i30_i100_i113_j161 p1 x2_30 x3_100 x4_100 x5_100 x6_113 x7_113 x9_161 w0_161 S_100 L = some y3 → lv_has ls 10 [(0, .ref (a 0)), (1, .int p1), (2, .int x2_30), (3, .int x3_100), (4, .int x4_100), (5, .int x5_100), (6, .int x6_113), (7, .int x7_113), (9, .int x9_161)] → va_P D vwCl (wX7 cs a S_100 L) H → va_S A s.heap H locs → W p l e (headSpec wsX7_by ({ frames := 5, cells := 0, slots := 0, locals := 132 })).room s m ([.ref (a 0), .int p1] : List Value).toArray below meth c H locs 0 0 Q (F0 m 161 ls [.int w0_161]) := by
                intro x9_161 w0_161 H locs ls hd hl hP hS
                have hD := hDA S_100 L
                unfold nX7_by_i30_i100_i113_j161 at hd
                refine lv_iconst (v := (0 : Int32)) hx hb dX7_by_161 (by decide) ?_
                exact Jo162 x9_161 (0 : Int32) w0_161 _ _ _ hd (lv_sub hl [0, 1, 2, 3, 4, 5, 6, 7, 8] rfl) hP hS
              unfold nX7_by_i30_i100_l113 at hd
              refine lv_iload hx hb dX7_by_113 (lv_at hl 9 rfl) ?_
              refine lv_bipush (v := (6 : Int32)) hx hb dX7_by_115 (by decide) ?_
              refine lv_icmp_ge (tgt := 171) hx hb dX7_by_117 (by decide) (fun c117 => ?_) (fun c117 => ?_)
              · have hd := dn_t c117 hd
                have hd := dn_up hd hy3
                exact Jo171 x6_113 x7_113 x8_113 _ _ _ hd (lv_sub hl [0, 1, 2, 3, 4, 5, 6, 7, 8] rfl) hP hS
              · have hd := dn_f c117 hd
                refine lv_iload_n hx hb dX7_by_120 rfl (lv_at hl 2 rfl) ?_
                refine lv_iload hx hb dX7_by_121 (lv_at hl 7 rfl) ?_
                obtain ⟨r123, hq123, hd⟩ := dn_b1 hd
                have hPc := k_P0 hP
                have hDc : va_D A ([] : va_W) := k_D0
                have hF := k_self hDc hS hA
                refine k_run_i (va_runS (As := [.int x2_30, .int x7_113]) (rest := []) ⟨hx, hb, hml, hown, hts⟩ (mX7_has l D cs  x2_30 x7_113 r123 hq123 _) (va_cwS 2 hts gX7_by_X7_has rfl rfl rfl (by decide +kernel) ⟨Nat.le_of_ble_eq_true rfl, Nat.le_of_ble_eq_true rfl⟩) ⟨k_blind, k_pre hPc hK hNn hDc⟩ rfl rfl hl.1 rfl (lv_room (Nat.le_of_ble_eq_true rfl)) dX7_by_123 ⟨Nat.le_of_ble_eq_true rfl, Nat.le_of_ble_eq_true rfl⟩) hS hF (fun H locs hP1 hk hS => ?_)
                have hP : va_P D vwCl (wX7 cs a S_100 L) _ := k_keep hP hk
                refine lv_if_eq (tgt := 171) hx hb dX7_by_126 (by decide) (fun c126 => ?_) (fun c126 => ?_)
                · have hd := dn_t c126 hd
                  have hd := dn_up hd hy3
                  exact Jo171 x6_113 x7_113 x8_113 _ _ _ hd (lv_sub hl [0, 1, 2, 3, 4, 5, 6, 7, 8] rfl) hP hS
                · have hd := dn_f c126 hd
                  refine lv_iload hx hb dX7_by_129 (lv_at hl 8 rfl) ?_
                  refine lv_iload_n hx hb dX7_by_131 rfl (lv_at hl 2 rfl) ?_
                  refine lv_iload hx hb dX7_by_132 (lv_at hl 9 rfl) ?_
                  obtain ⟨r134, hq134, hd⟩ := dn_b1 hd
                  have hPc := k_P0 hP
                  have hDc : va_D A ([] : va_W) := k_D0
                  have hF := k_self hDc hS hA
                  refine k_run_i (va_runS (As := [.int x2_30, .int x9_113]) (rest := [.int x8_113]) ⟨hx, hb, hml, hown, hts⟩ (mX7_has l D cs  x2_30 x9_113 r134 hq134 _) (va_cwS 2 hts gX7_by_X7_has rfl rfl rfl (by decide +kernel) ⟨Nat.le_of_ble_eq_true rfl, Nat.le_of_ble_eq_true rfl⟩) ⟨k_blind, k_pre hPc hK hNn hDc⟩ rfl rfl hl.1 rfl (lv_room (Nat.le_of_ble_eq_true rfl)) dX7_by_134 ⟨Nat.le_of_ble_eq_true rfl, Nat.le_of_ble_eq_true rfl⟩) hS hF (fun H locs hP1 hk hS => ?_)
                  have hP : va_P D vwCl (wX7 cs a S_100 L) _ := k_keep hP hk
                  refine lv_if_eq (tgt := 161) hx hb dX7_by_137 (by decide) (fun c137 => ?_) (fun c137 => ?_)
                  · have hd := dn_t c137 hd
                    exact Jo161 x9_113 x8_113 _ _ _ hd (lv_sub hl [0, 1, 2, 3, 4, 5, 6, 7, 9] rfl) hP hS
                  · have hd := dn_f c137 hd
                    refine lv_aload_n hx hb dX7_by_140 rfl (lv_at hl 0 rfl) ?_
                    refine va_get (D := D) (ci := 5) (v := .ref (a 10)) (C := RX7) (T := TX7) (N := 25) hx hb hts (fun w h => List.mem_cons_of_mem _ (List.mem_append_right _ h)) hown hK hP 0 rfl rfl 11 (by decide) (hts (.fieldLink RX7 42 "LeastNeedModel" "to0" "[I") (List.mem_of_getElem? (i := 2) rfl)) (fun _ h9 => h9) rfl dX7_by_141 ?_
                    refine lv_iload hx hb dX7_by_144 (lv_at hl 9 rfl) ?_
                    obtain ⟨hi146, hd⟩ := dn_i hd
                    refine k_iald (D := D) (k := x9_113.toNatClampNeg) (by rfl) hx hb hK hP 10 1 rfl rfl hi146 dX7_by_146 ?_
                    refine lv_aload_n hx hb dX7_by_147 rfl (lv_at hl 0 rfl) ?_
                    refine va_get (D := D) (ci := 5) (v := .ref (a 10)) (C := RX7) (T := TX7) (N := 25) hx hb hts (fun w h => List.mem_cons_of_mem _ (List.mem_append_right _ h)) hown hK hP 0 rfl rfl 11 (by decide) (hts (.fieldLink RX7 42 "LeastNeedModel" "to0" "[I") (List.mem_of_getElem? (i := 2) rfl)) (fun _ h9 => h9) rfl dX7_by_148 ?_
                    refine lv_iload hx hb dX7_by_151 (lv_at hl 7 rfl) ?_
                    obtain ⟨hi153, hd⟩ := dn_i hd
                    refine k_iald (D := D) (k := x7_113.toNatClampNeg) (by rfl) hx hb hK hP 10 1 rfl rfl hi153 dX7_by_153 ?_
                    refine lv_icmp_ne (tgt := 161) hx hb dX7_by_154 (by decide) (fun c154 => ?_) (fun c154 => ?_)
                    · have hd := dn_f c154 hd
                      exact Jo161 x9_113 x8_113 _ _ _ hd (lv_sub hl [0, 1, 2, 3, 4, 5, 6, 7, 9] rfl) hP hS
                    · have hd := dn_t c154 hd
                      refine lv_iconst (v := (1 : Int32)) hx hb dX7_by_157 (by decide) ?_
                      refine lv_goto (tgt := 162) hx hb dX7_by_158 (by decide) ?_
                      exact Jo162 x9_113 (1 : Int32) x8_113 _ _ _ hd (lv_sub hl [0, 1, 2, 3, 4, 5, 6, 7, 9] rfl) hP hS
          unfold nX7_by_i30_l100 at hd
          refine lv_iload hx hb dX7_by_100 (lv_at hl 7 rfl) ?_
          refine lv_bipush (v := (6 : Int32)) hx hb dX7_by_102 (by decide) ?_
          refine lv_icmp_ge (tgt := 193) hx hb dX7_by_104 (by decide) (fun c104 => ?_) (fun c104 => ?_)
          · have hd := dn_t c104 hd
            have hd := dn_up hd hy2
            refine lv_iload hx hb dX7_by_193 (lv_at hl 6 rfl) ?_
            refine lv_iload hx hb dX7_by_195 (lv_at hl 4 rfl) ?_
            refine lv_icmp_ge (tgt := 205) hx hb dX7_by_197 (by decide) (fun c197 => ?_) (fun c197 => ?_)
            · have hd := dn_t c197 hd
              refine lv_iload_n hx hb dX7_by_205 rfl (lv_at hl 3 rfl) ?_
              exact Jo206 x4_100 x5_100 x6_100 x3_100 S_100 _ _ _ hd (lv_sub hl [0, 1, 2, 4, 5, 6] rfl) hP hS
            · have hd := dn_f c197 hd
              refine lv_iload hx hb dX7_by_200 (lv_at hl 5 rfl) ?_
              refine lv_goto (tgt := 206) hx hb dX7_by_202 (by decide) ?_
              exact Jo206 x4_100 x5_100 x6_100 x5_100 S_100 _ _ _ hd (lv_sub hl [0, 1, 2, 4, 5, 6] rfl) hP hS
          · have hd := dn_f c104 hd
            refine lv_iconst (v := (0 : Int32)) hx hb dX7_by_107 (by decide) ?_
            refine lv_istore (lv' := [(8, .int (0 : Int32)), (0, .ref (a 0)), (1, .int p1), (2, .int x2_30), (3, .int x3_100), (4, .int x4_100), (5, .int x5_100), (6, .int x6_100), (7, .int x7_100)]) hx hb dX7_by_108 hl (by decide) rfl (fun ls hl => ?_)
            refine lv_iconst (v := (0 : Int32)) hx hb dX7_by_110 (by decide) ?_
            refine lv_istore (lv' := [(9, .int (0 : Int32)), (8, .int (0 : Int32)), (0, .ref (a 0)), (1, .int p1), (2, .int x2_30), (3, .int x3_100), (4, .int x4_100), (5, .int x5_100), (6, .int x6_100), (7, .int x7_100)]) hx hb dX7_by_111 hl (by decide) rfl (fun ls hl => ?_)
            exact Lo113 1000 x6_100 x7_100 (0 : Int32) (0 : Int32) _ _ _ hd (lv_sub hl [2, 3, 4, 5, 6, 7, 8, 9, 1, 0] rfl) hP hS
      have Lo49 : ∀ (n2 : Nat) (x3_49 : Int32) (x4_49 : Int32) (x5_49 : Int32) (x6_49 : Int32) (x7_49 : Int32) (S_49 : Nat → Nat → Int32) (H : Heap) (locs : List Loc) (ls : Array Slot), k_it (fun st => nX7_by_i30_l49 p1 x2_30 x3_49 x4_49 x5_49 x6_49 st.1 st.2 L) n2 (x7_49, S_49) = some y1 → lv_has ls 10 [(0, .ref (a 0)), (1, .int p1), (2, .int x2_30), (3, .int x3_49), (4, .int x4_49), (5, .int x5_49), (6, .int x6_49), (7, .int x7_49)] → va_P D vwCl (wX7 cs a S_49 L) H → va_S A s.heap H locs → W p l e (headSpec wsX7_by ({ frames := 5, cells := 0, slots := 0, locals := 132 })).room s m ([.ref (a 0), .int p1] : List Value).toArray below meth c H locs 0 0 Q (F0 m 49 ls []) := by
        intro n2
        induction n2 with
        | zero => intro x3_49 x4_49 x5_49 x6_49 x7_49 S_49 H locs ls hd; exact dn_it0 hd
        | succ n2 ih2 =>
          intro x3_49 x4_49 x5_49 x6_49 x7_49 S_49 H locs ls hd hl hP hS
          have hD := hDA S_49 L
          obtain ⟨y2, hd, hy2⟩ := dn_it hd
          have hd : nX7_by_i30_l49 p1 x2_30 x3_49 x4_49 x5_49 x6_49 x7_49 S_49 L = some y2 := hd
          unfold nX7_by_i30_l49 at hd
          refine lv_iload hx hb dX7_by_49 (lv_at hl 7 rfl) ?_
          refine lv_bipush (v := (6 : Int32)) hx hb dX7_by_51 (by decide) ?_
          refine lv_icmp_ge (tgt := 97) hx hb dX7_by_53 (by decide) (fun c53 => ?_) (fun c53 => ?_)
          · have hd := dn_t c53 hd
            have hd := dn_up hd hy2
            refine lv_iconst (v := (0 : Int32)) hx hb dX7_by_97 (by decide) ?_
            refine lv_istore (lv' := [(7, .int (0 : Int32)), (0, .ref (a 0)), (1, .int p1), (2, .int x2_30), (3, .int x3_49), (4, .int x4_49), (5, .int x5_49), (6, .int x6_49)]) hx hb dX7_by_98 hl (by decide) rfl (fun ls hl => ?_)
            exact Lo100 1000 x3_49 x4_49 x5_49 x6_49 (0 : Int32) S_49 _ _ _ hd (lv_sub hl [1, 2, 3, 4, 5, 6, 7, 0] rfl) hP hS
          · have hd := dn_f c53 hd
            refine lv_aload_n hx hb dX7_by_56 rfl (lv_at hl 0 rfl) ?_
            refine va_get (D := D) (ci := 5) (v := .ref (a 10)) (C := RX7) (T := TX7) (N := 25) hx hb hts (fun w h => List.mem_cons_of_mem _ (List.mem_append_right _ h)) hown hK hP 0 rfl rfl 11 (by decide) (hts (.fieldLink RX7 42 "LeastNeedModel" "to0" "[I") (List.mem_of_getElem? (i := 2) rfl)) (fun _ h9 => h9) rfl dX7_by_57 ?_
            refine lv_iload hx hb dX7_by_60 (lv_at hl 7 rfl) ?_
            refine lv_aload_n hx hb dX7_by_62 rfl (lv_at hl 0 rfl) ?_
            refine lv_aload_n hx hb dX7_by_63 rfl (lv_at hl 0 rfl) ?_
            refine va_get (D := D) (ci := 5) (v := .ref (a 1)) (C := RX7) (T := TX7) (N := 25) hx hb hts (fun w h => List.mem_cons_of_mem _ (List.mem_append_right _ h)) hown hK hP 0 rfl rfl 0 (by decide) (hts (.fieldLink RX7 7 "LeastNeedModel" "told" "[I") (List.mem_of_getElem? (i := 3) rfl)) (fun _ h9 => h9) rfl dX7_by_64 ?_
            refine lv_iload hx hb dX7_by_67 (lv_at hl 7 rfl) ?_
            refine lv_aload_n hx hb dX7_by_69 rfl (lv_at hl 0 rfl) ?_
            refine va_get (D := D) (ci := 5) (v := .ref (a 1)) (C := RX7) (T := TX7) (N := 25) hx hb hts (fun w h => List.mem_cons_of_mem _ (List.mem_append_right _ h)) hown hK hP 0 rfl rfl 0 (by decide) (hts (.fieldLink RX7 7 "LeastNeedModel" "told" "[I") (List.mem_of_getElem? (i := 3) rfl)) (fun _ h9 => h9) rfl dX7_by_70 ?_
            refine lv_bipush (v := (70 : Int32)) hx hb dX7_by_73 (by decide) ?_
            refine lv_iload_n hx hb dX7_by_75 rfl (lv_at hl 1 rfl) ?_
            refine lv_iadd hx hb dX7_by_76 ?_
            obtain ⟨hi77, hd⟩ := dn_i hd
            refine k_iald (D := D) (k := ((70 : Int32) + p1).toNatClampNeg) (by rfl) hx hb hK hP 1 1 rfl rfl hi77 dX7_by_77 ?_
            refine lv_aload_n hx hb dX7_by_78 rfl (lv_at hl 0 rfl) ?_
            refine va_get (D := D) (ci := 5) (v := .ref (a 1)) (C := RX7) (T := TX7) (N := 25) hx hb hts (fun w h => List.mem_cons_of_mem _ (List.mem_append_right _ h)) hown hK hP 0 rfl rfl 0 (by decide) (hts (.fieldLink RX7 7 "LeastNeedModel" "told" "[I") (List.mem_of_getElem? (i := 3) rfl)) (fun _ h9 => h9) rfl dX7_by_79 ?_
            refine lv_bipush (v := (22 : Int32)) hx hb dX7_by_82 (by decide) ?_
            refine k_iald (D := D) (k := 22) (by rfl) hx hb hK hP 1 1 rfl rfl (k_in (by decide)) dX7_by_84 ?_
            refine lv_iload hx hb dX7_by_85 (lv_at hl 5 rfl) ?_
            obtain ⟨r87, hq87, hd⟩ := dn_b1 hd
            have hF := k_self hD hS hA
            refine k_run_i (va_runV (As := [.ref (a 1), .int x7_49, .int (S_49 1 ((70 : Int32) + p1).toNatClampNeg), .int (S_49 1 22), .int x5_49]) (rest := [.int x7_49, .ref (a 10)]) ⟨hx, hb, hml, hown, hts⟩ (mX7_comesTo_1 l D cs a S_49 L x7_49 (S_49 1 ((70 : Int32) + p1).toNatClampNeg) (S_49 1 22) x5_49 r87 hq87 _) (cwV 5 hts gX7_by_X7_comesTo rfl rfl rfl (by decide +kernel) ⟨Nat.le_of_ble_eq_true rfl, Nat.le_of_ble_eq_true rfl⟩) ⟨k_blind, va_recv hK hP (ci := 5) (q0 := 0) rfl rfl, k_pre hP hK hNn hD⟩ rfl rfl hl.1 rfl (lv_room (Nat.le_of_ble_eq_true rfl)) dX7_by_87 ⟨Nat.le_of_ble_eq_true rfl, Nat.le_of_ble_eq_true rfl⟩) hS hF (fun H locs hP1 hk hS => ?_)
            have hP : va_P D vwCl (wX7 cs a S_49 L) _ := hP1
            have hD := hDA S_49 L
            obtain ⟨hi90, hd⟩ := dn_i hd
            refine k_iast (D := D) (k := x7_49.toNatClampNeg) (by rfl) hx hb hK hP hD hS 10 1 rfl rfl hi90 dX7_by_90 (fun H locs hP hD hS => ?_)
            have hP : va_P D vwCl (wX7 cs a (k_w S_49 10 x7_49.toNatClampNeg r87) L) _ := k_eq hP (wsX7_a10 cs a S_49 L x7_49.toNatClampNeg r87)
            have hD := hDA (k_w S_49 10 x7_49.toNatClampNeg r87) L
            refine lv_iinc (v := x7_49 + (1 : Int32)) (lv' := [(7, .int (x7_49 + (1 : Int32))), (0, .ref (a 0)), (1, .int p1), (2, .int x2_30), (3, .int x3_49), (4, .int x4_49), (5, .int x5_49), (6, .int x6_49)]) hx hb dX7_by_91 hl (k := 7) rfl rfl (by decide) rfl (fun ls hl => ?_)
            refine lv_goto (tgt := 49) hx hb dX7_by_94 (by decide) ?_
            exact ih2 x3_49 x4_49 x5_49 x6_49 (x7_49 + (1 : Int32)) (k_w S_49 10 x7_49.toNatClampNeg r87) _ _ _ (dn_bk hd hy2) (lv_sub hl [1, 2, 3, 4, 5, 6, 7, 0] rfl) hP hS
      unfold nX7_by_l30 at hd
      refine lv_iload hx hb dX7_by_30 (lv_at hl 5 rfl) ?_
      refine lv_aload_n hx hb dX7_by_32 rfl (lv_at hl 0 rfl) ?_
      obtain ⟨r33, hq33, hd⟩ := dn_b1 hd
      have hF := k_self hD hS hA
      refine k_run_i (va_runV (As := []) (rest := [.int x5_30]) ⟨hx, hb, hml, hown, hts⟩ (mX7_many l D cs a S_30 L r33 hq33 _) (cwV 0 hts gX7_by_X7_many rfl rfl rfl (by decide +kernel) ⟨Nat.le_of_ble_eq_true rfl, Nat.le_of_ble_eq_true rfl⟩) ⟨k_blind, va_recv hK hP (ci := 5) (q0 := 0) rfl rfl, k_pre hP hK hNn hD⟩ rfl rfl hl.1 rfl (lv_room (Nat.le_of_ble_eq_true rfl)) dX7_by_33 ⟨Nat.le_of_ble_eq_true rfl, Nat.le_of_ble_eq_true rfl⟩) hS hF (fun H locs hP1 hk hS => ?_)
      have hP : va_P D vwCl (wX7 cs a S_30 L) _ := hP1
      have hD := hDA S_30 L
      refine lv_icmp_ge (tgt := 229) hx hb dX7_by_36 (by decide) (fun c36 => ?_) (fun c36 => ?_)
      · have hd := dn_t c36 hd
        have hd := dn_up hd hy1
        refine lv_iload_n hx hb dX7_by_229 rfl (lv_at hl 3 rfl) ?_
        obtain ⟨e1, e2⟩ := dn_s2 hd
        exact k_iret hx hb hr hQ hAe e1 (by rw [e2]) hP hS hlocks dX7_by_230
      · have hd := dn_f c36 hd
        refine lv_iload_n hx hb dX7_by_39 rfl (lv_at hl 2 rfl) ?_
        refine lv_if_le (tgt := 229) hx hb dX7_by_40 (by decide) (fun c40 => ?_) (fun c40 => ?_)
        · have hd := dn_t c40 hd
          have hd := dn_up hd hy1
          refine lv_iload_n hx hb dX7_by_229 rfl (lv_at hl 3 rfl) ?_
          obtain ⟨e1, e2⟩ := dn_s2 hd
          exact k_iret hx hb hr hQ hAe e1 (by rw [e2]) hP hS hlocks dX7_by_230
        · have hd := dn_f c40 hd
          refine lv_iconst (v := (0 : Int32)) hx hb dX7_by_43 (by decide) ?_
          refine lv_istore (lv' := [(6, .int (0 : Int32)), (0, .ref (a 0)), (1, .int p1), (2, .int x2_30), (3, .int x3_30), (4, .int x4_30), (5, .int x5_30)]) hx hb dX7_by_44 hl (by decide) rfl (fun ls hl => ?_)
          refine lv_iconst (v := (0 : Int32)) hx hb dX7_by_46 (by decide) ?_
          refine lv_istore (lv' := [(7, .int (0 : Int32)), (6, .int (0 : Int32)), (0, .ref (a 0)), (1, .int p1), (2, .int x2_30), (3, .int x3_30), (4, .int x4_30), (5, .int x5_30)]) hx hb dX7_by_47 hl (by decide) rfl (fun ls hl => ?_)
          exact Lo49 1000 x3_30 x4_30 x5_30 (0 : Int32) (0 : Int32) S_30 _ _ _ hd (lv_sub hl [2, 3, 4, 5, 6, 7, 1, 0] rfl) hP hS
  unfold nX7_by at hd
  refine lv_aload_n hx hb dX7_by_0 rfl (lv_at hl 0 rfl) ?_
  refine lv_iload_n hx hb dX7_by_1 rfl (lv_at hl 1 rfl) ?_
  obtain ⟨r2, hq2, hd⟩ := dn_b1 hd
  have hF := k_self hD hS hA
  refine k_run_i (va_runV (As := [.int p1]) (rest := []) ⟨hx, hb, hml, hown, hts⟩ (mX7_isThing l D cs a S L p1 r2 hq2 _) (cwV 1 hts gX7_by_X7_isThing rfl rfl rfl (by decide +kernel) ⟨Nat.le_of_ble_eq_true rfl, Nat.le_of_ble_eq_true rfl⟩) ⟨k_blind, va_recv hK hP (ci := 5) (q0 := 0) rfl rfl, k_pre hP hK hNn hD⟩ rfl rfl hl.1 rfl (lv_room (Nat.le_of_ble_eq_true rfl)) dX7_by_2 ⟨Nat.le_of_ble_eq_true rfl, Nat.le_of_ble_eq_true rfl⟩) hS hF (fun H locs hP1 hk hS => ?_)
  have hP : va_P D vwCl (wX7 cs a S L) _ := hP1
  have hD := hDA S L
  refine lv_if_ne (tgt := 15) hx hb dX7_by_5 (by decide) (fun c5 => ?_) (fun c5 => ?_)
  · have hd := dn_f c5 hd
    refine lv_aload_n hx hb dX7_by_15 rfl (lv_at hl 0 rfl) ?_
    refine lv_iload_n hx hb dX7_by_16 rfl (lv_at hl 1 rfl) ?_
    obtain ⟨r17, S17, hq17, hd⟩ := dn_b2 hd
    have hF := k_self hD hS hA
    refine k_run_i (va_runV (As := [.int p1]) (rest := []) ⟨hx, hb, hml, hown, hts⟩ (mX7_kindsOfThing l D cs a S L p1 r17 S17 hq17 _) (cwV 1 hts gX7_by_X7_kindsOfThing rfl rfl rfl (by decide +kernel) ⟨Nat.le_of_ble_eq_true rfl, Nat.le_of_ble_eq_true rfl⟩) ⟨k_blind, va_recv hK hP (ci := 5) (q0 := 0) rfl rfl, k_pre hP hK hNn hD⟩ rfl rfl hl.1 rfl (lv_room (Nat.le_of_ble_eq_true rfl)) dX7_by_17 ⟨Nat.le_of_ble_eq_true rfl, Nat.le_of_ble_eq_true rfl⟩) hS hF (fun H locs hP1 hk hS => ?_)
    have hP : va_P D vwCl (wX7 cs a S17 L) _ := hP1
    have hD := hDA S17 L
    refine lv_istore_n (lv' := [(2, .int r17), (0, .ref (a 0)), (1, .int p1)]) hx hb dX7_by_20 rfl hl (by decide) rfl (fun ls hl => ?_)
    refine lv_iconst (v := (-1 : Int32)) hx hb dX7_by_21 (by decide) ?_
    refine lv_istore_n (lv' := [(3, .int (-1 : Int32)), (2, .int r17), (0, .ref (a 0)), (1, .int p1)]) hx hb dX7_by_22 rfl hl (by decide) rfl (fun ls hl => ?_)
    refine lv_ldc (v := (1000000 : Int32)) hx hb hown (hts (.constant RX7 134 (1000000)) (List.mem_of_getElem? (i := 1) rfl)) dX7_by_23 ?_
    refine lv_istore (lv' := [(4, .int (1000000 : Int32)), (3, .int (-1 : Int32)), (2, .int r17), (0, .ref (a 0)), (1, .int p1)]) hx hb dX7_by_25 hl (by decide) rfl (fun ls hl => ?_)
    refine lv_iconst (v := (0 : Int32)) hx hb dX7_by_27 (by decide) ?_
    refine lv_istore (lv' := [(5, .int (0 : Int32)), (4, .int (1000000 : Int32)), (3, .int (-1 : Int32)), (2, .int r17), (0, .ref (a 0)), (1, .int p1)]) hx hb dX7_by_28 hl (by decide) rfl (fun ls hl => ?_)
    exact Lo30 1000 r17 (-1 : Int32) (1000000 : Int32) (0 : Int32) S17 _ _ _ hd (lv_sub hl [4, 5, 3, 2, 1, 0] rfl) hP hS
  · have hd := dn_t c5 hd
    refine lv_aload_n hx hb dX7_by_8 rfl (lv_at hl 0 rfl) ?_
    refine lv_bipush (v := (-2 : Int32)) hx hb dX7_by_9 (by decide) ?_
    obtain ⟨r11, S11, hq11, hd⟩ := dn_b2 hd
    have hF := k_self hD hS hA
    refine k_run_i (va_runV (As := [.int (-2 : Int32)]) (rest := []) ⟨hx, hb, hml, hown, hts⟩ (mX7_bad l D cs a S L (-2 : Int32) r11 S11 hq11 _) (cwV 1 hts gX7_by_X7_bad rfl rfl rfl (by decide +kernel) ⟨Nat.le_of_ble_eq_true rfl, Nat.le_of_ble_eq_true rfl⟩) ⟨k_blind, va_recv hK hP (ci := 5) (q0 := 0) rfl rfl, k_pre hP hK hNn hD⟩ rfl rfl hl.1 rfl (lv_room (Nat.le_of_ble_eq_true rfl)) dX7_by_11 ⟨Nat.le_of_ble_eq_true rfl, Nat.le_of_ble_eq_true rfl⟩) hS hF (fun H locs hP1 hk hS => ?_)
    have hP : va_P D vwCl (wX7 cs a S11 L) _ := hP1
    have hD := hDA S11 L
    obtain ⟨e1, e2⟩ := dn_s2 hd
    exact k_iret hx hb hr hQ hAe e1 (by rw [e2]) hP hS hlocks dX7_by_14
-- LeastNeedModel.layPairs(III)V
set_option maxRecDepth 20000 in
def nX7_layPairs_i11_j98 (p1 : Int32) (p2 : Int32) (p3 : Int32) (x4_98 : Int32) (w0_98 : Int32) (w1_98 : Int32) (S_98 : Nat → Nat → Int32) (L : Nat → Nat → Int64) : Option ((Int32 × (Nat → Nat → Int32)) ⊕ ((Nat → Nat → Int32))) := if w1_98 < 0 ∨ 36 ≤ w1_98.toNatClampNeg then none else some (.inl ((x4_98 + (1 : Int32)), (k_w S_98 12 w1_98.toNatClampNeg (w0_98 - (x4_98 - x4_98 / (6 : Int32) * (6 : Int32))))))
set_option maxRecDepth 20000 in
def nX7_layPairs_i11_j73 (p1 : Int32) (p2 : Int32) (p3 : Int32) (x4_73 : Int32) (x5_73 : Int32) (w0_73 : Int32) (w1_73 : Int32) (S_73 : Nat → Nat → Int32) (L : Nat → Nat → Int64) : Option ((Int32 × (Nat → Nat → Int32)) ⊕ ((Nat → Nat → Int32))) := if w1_73 < 0 ∨ 36 ≤ w1_73.toNatClampNeg then none else if x5_73 = p3 then nX7_layPairs_i11_j98 p1 p2 p3 x4_73 (-6 : Int32) x4_73 (k_w S_73 11 w1_73.toNatClampNeg (w0_73 - (x4_73 / (6 : Int32)))) L else nX7_layPairs_i11_j98 p1 p2 p3 x4_73 (0 : Int32) x4_73 (k_w S_73 11 w1_73.toNatClampNeg (w0_73 - (x4_73 / (6 : Int32)))) L
set_option maxRecDepth 20000 in
def nX7_layPairs_l11 (p1 : Int32) (p2 : Int32) (p3 : Int32) (x4_11 : Int32) (S_11 : Nat → Nat → Int32) (L : Nat → Nat → Int64) : Option ((Int32 × (Nat → Nat → Int32)) ⊕ ((Nat → Nat → Int32))) := if (36 : Int32) ≤ x4_11 then k_up (some S_11) else if p2 < 0 ∨ 7 ≤ p2.toNatClampNeg then none else if p3 < 0 ∨ 7 ≤ p3.toNatClampNeg then none else if ((5 : Int32) + p1) < 0 ∨ 284 ≤ ((5 : Int32) + p1).toNatClampNeg then none else k_b1 (nX7_comesNow (k_w (k_w S_11 5 p2.toNatClampNeg (x4_11 / (6 : Int32))) 5 p3.toNatClampNeg (x4_11 - x4_11 / (6 : Int32) * (6 : Int32))) L p1 ((k_w (k_w S_11 5 p2.toNatClampNeg (x4_11 / (6 : Int32))) 5 p3.toNatClampNeg (x4_11 - x4_11 / (6 : Int32) * (6 : Int32))) 1 ((5 : Int32) + p1).toNatClampNeg)) (fun r50 => if r50 = p2 then nX7_layPairs_i11_j73 p1 p2 p3 x4_11 r50 (-6 : Int32) x4_11 (k_w (k_w S_11 5 p2.toNatClampNeg (x4_11 / (6 : Int32))) 5 p3.toNatClampNeg (x4_11 - x4_11 / (6 : Int32) * (6 : Int32))) L else nX7_layPairs_i11_j73 p1 p2 p3 x4_11 r50 (0 : Int32) x4_11 (k_w (k_w S_11 5 p2.toNatClampNeg (x4_11 / (6 : Int32))) 5 p3.toNatClampNeg (x4_11 - x4_11 / (6 : Int32) * (6 : Int32))) L)
set_option maxRecDepth 20000 in
def nX7_layPairs (S : Nat → Nat → Int32) (L : Nat → Nat → Int64) (p1 : Int32) (p2 : Int32) (p3 : Int32) : Option ((Nat → Nat → Int32)) := k_b1 (nX7_layCoats_1 S L) (fun S5 => k_it (fun st => nX7_layPairs_l11 p1 p2 p3 st.1 st.2 L) 1000 ((0 : Int32), S5))
set_option maxHeartbeats 4000000 in
set_option maxRecDepth 100000 in
theorem mX7_layPairs (l : Launch) (D : va_G) (cs : Nat → ClassId) (a : Nat → Nat) (S : Nat → Nat → Int32) (L : Nat → Nat → Int64) (p1 : Int32) (p2 : Int32) (p3 : Int32) (S9 : (Nat → Nat → Int32)) (hd : nX7_layPairs S L p1 p2 p3 = some S9) : ∀ sz : Nat, Met l yX7_layPairs wsX7_layPairs ({ frames := 5, cells := 0, slots := 0, locals := 128 }) (k_Pc D cs [.ref (a 0), .int p1, .int p2, .int p3] (wX7 cs a S L) sz) (k_Qv D (wX7 cs a S L) (wX7 cs a S9 L) sz) 0 0 (va_A (wX7 cs a S L) sz) := by
  intro sz
  refine Met.ofW (cc := cX7_layPairs) (maxL := 6) (ret := none) (by decide) rfl ?_
  intro p e s m args below meth c s₁ B hml hv
  obtain ⟨rfl, hsz, hP, hK, hD0, hNn⟩ := hv
  have hx := B.exec
  have hb := B.bytes
  have hr := B.returns
  have hts := atoms_spec (ws := wsX7_layPairs) B.pre
  have hown : s.vm.findClass RX7 = some m.cls := findClass_of_methodNamed B.named
  have hlocks := B.notSynchronized
  subst hsz
  obtain ⟨A, hAe⟩ : ∃ A : Nat → Prop, A = va_A (wX7 cs a S L) s.heap.size := ⟨_, rfl⟩
  have hD : va_D A (wX7 cs a S L) := by rw [hAe]; exact hD0.self
  have hA : ∀ q : Nat, s.heap.size ≤ q → A q := fun q h => by rw [hAe]; exact Or.inr h
  have hS : va_S A s.heap s.heap [] := va_S.rf
  have hDA : ∀ (S : Nat → Nat → Int32) (L : Nat → Nat → Int64), va_D A (wX7 cs a S L) := fun S L => k_DA hD rfl
  have hl := lv_entry ([.ref (a 0), .int p1, .int p2, .int p3]) (n := 6) (Nat.le_of_ble_eq_true rfl)
  rw [lg_entry_eq]
  generalize (lg_sl ([.ref (a 0), .int p1, .int p2, .int p3]) ++ List.replicate (6 - (lg_sl ([.ref (a 0), .int p1, .int p2, .int p3])).length) Slot.unset).toArray = ls at hl ⊢
  have hl : lv_has ls 6 [(0, .ref (a 0)), (1, .int p1), (2, .int p2), (3, .int p3)] := hl
  obtain ⟨Q, hQ⟩ : ∃ Q, Q = MQ below (k_Qv D (wX7 cs a S L) (wX7 cs a S9 L) s.heap.size) ([.ref (a 0), .int p1, .int p2, .int p3] : List Value).toArray s 0 0 (va_A (wX7 cs a S L) s.heap.size) := ⟨_, rfl⟩
  rw [← hQ]
  have Lo11 : ∀ (n1 : Nat) (x4_11 : Int32) (S_11 : Nat → Nat → Int32) (H : Heap) (locs : List Loc) (ls : Array Slot), k_it (fun st => nX7_layPairs_l11 p1 p2 p3 st.1 st.2 L) n1 (x4_11, S_11) = some S9 → lv_has ls 6 [(0, .ref (a 0)), (1, .int p1), (2, .int p2), (3, .int p3), (4, .int x4_11)] → va_P D vwCl (wX7 cs a S_11 L) H → va_S A s.heap H locs → W p l e (headSpec wsX7_layPairs ({ frames := 5, cells := 0, slots := 0, locals := 128 })).room s m ([.ref (a 0), .int p1, .int p2, .int p3] : List Value).toArray below meth c H locs 0 0 Q (F0 m 11 ls []) := by
    intro n1
    induction n1 with
    | zero => intro x4_11 S_11 H locs ls hd; exact dn_it0 hd
    | succ n1 ih1 =>
      intro x4_11 S_11 H locs ls hd hl hP hS
      have hD := hDA S_11 L
      obtain ⟨y1, hd, hy1⟩ := dn_it hd
      have hd : nX7_layPairs_l11 p1 p2 p3 x4_11 S_11 L = some y1 := hd
      have Jo98 : ∀ (x4_98 : Int32) (w0_98 : Int32) (w1_98 : Int32) (S_98 : Nat → Nat → Int32) (H : Heap) (locs : List Loc) (ls : Array Slot), nX7_layPairs_i11_j98 p1 p2 p3 x4_98 w0_98 w1_98 S_98 L = some y1 → lv_has ls 6 [(0, .ref (a 0)), (1, .int p1), (2, .int p2), (3, .int p3), (4, .int x4_98)] → va_P D vwCl (wX7 cs a S_98 L) H → va_S A s.heap H locs → W p l e (headSpec wsX7_layPairs ({ frames := 5, cells := 0, slots := 0, locals := 128 })).room s m ([.ref (a 0), .int p1, .int p2, .int p3] : List Value).toArray below meth c H locs 0 0 Q (F0 m 98 ls [.int w0_98, .int w1_98, .ref (a 12)]) := by
        intro x4_98 w0_98 w1_98 S_98 H locs ls hd hl hP hS
        have hD := hDA S_98 L
        unfold nX7_layPairs_i11_j98 at hd
        refine lv_iload hx hb dX7_layPairs_98 (lv_at hl 4 rfl) ?_
        refine lv_bipush (v := (6 : Int32)) hx hb dX7_layPairs_100 (by decide) ?_
        refine lv_irem hx hb dX7_layPairs_102 (by decide) ?_
        refine lv_isub hx hb dX7_layPairs_103 ?_
        obtain ⟨hi104, hd⟩ := dn_i hd
        refine k_iast (D := D) (k := w1_98.toNatClampNeg) (by rfl) hx hb hK hP hD hS 12 1 rfl rfl hi104 dX7_layPairs_104 (fun H locs hP hD hS => ?_)
        have hP : va_P D vwCl (wX7 cs a (k_w S_98 12 w1_98.toNatClampNeg (w0_98 - (x4_98 - x4_98 / (6 : Int32) * (6 : Int32)))) L) _ := k_eq hP (wsX7_a12 cs a S_98 L w1_98.toNatClampNeg (w0_98 - (x4_98 - x4_98 / (6 : Int32) * (6 : Int32))))
        have hD := hDA (k_w S_98 12 w1_98.toNatClampNeg (w0_98 - (x4_98 - x4_98 / (6 : Int32) * (6 : Int32)))) L
        refine lv_iinc (v := x4_98 + (1 : Int32)) (lv' := [(4, .int (x4_98 + (1 : Int32))), (0, .ref (a 0)), (1, .int p1), (2, .int p2), (3, .int p3)]) hx hb dX7_layPairs_105 hl (k := 4) rfl rfl (by decide) rfl (fun ls hl => ?_)
        refine lv_goto (tgt := 11) hx hb dX7_layPairs_108 (by decide) ?_
        exact ih1 (x4_98 + (1 : Int32)) (k_w S_98 12 w1_98.toNatClampNeg (w0_98 - (x4_98 - x4_98 / (6 : Int32) * (6 : Int32)))) _ _ _ (dn_bk hd hy1) (lv_sub hl [1, 2, 3, 4, 0] rfl) hP hS
      have Jo73 : ∀ (x4_73 : Int32) (x5_73 : Int32) (w0_73 : Int32) (w1_73 : Int32) (S_73 : Nat → Nat → Int32) (H : Heap) (locs : List Loc) (ls : Array Slot), nX7_layPairs_i11_j73 p1 p2 p3 x4_73 x5_73 w0_73 w1_73 S_73 L = some y1 → lv_has ls 6 [(0, .ref (a 0)), (1, .int p1), (2, .int p2), (3, .int p3), (4, .int x4_73), (5, .int x5_73)] → va_P D vwCl (wX7 cs a S_73 L) H → va_S A s.heap H locs → W p l e (headSpec wsX7_layPairs ({ frames := 5, cells := 0, slots := 0, locals := 128 })).room s m ([.ref (a 0), .int p1, .int p2, .int p3] : List Value).toArray below meth c H locs 0 0 Q (F0 m 73 ls [.int w0_73, .int w1_73, .ref (a 11)]) := by
        intro x4_73 x5_73 w0_73 w1_73 S_73 H locs ls hd hl hP hS
        have hD := hDA S_73 L
        unfold nX7_layPairs_i11_j73 at hd
        refine lv_iload hx hb dX7_layPairs_73 (lv_at hl 4 rfl) ?_
        refine lv_bipush (v := (6 : Int32)) hx hb dX7_layPairs_75 (by decide) ?_
        refine lv_idiv hx hb dX7_layPairs_77 (by decide) ?_
        refine lv_isub hx hb dX7_layPairs_78 ?_
        obtain ⟨hi79, hd⟩ := dn_i hd
        refine k_iast (D := D) (k := w1_73.toNatClampNeg) (by rfl) hx hb hK hP hD hS 11 1 rfl rfl hi79 dX7_layPairs_79 (fun H locs hP hD hS => ?_)
        have hP : va_P D vwCl (wX7 cs a (k_w S_73 11 w1_73.toNatClampNeg (w0_73 - (x4_73 / (6 : Int32)))) L) _ := k_eq hP (wsX7_a11 cs a S_73 L w1_73.toNatClampNeg (w0_73 - (x4_73 / (6 : Int32))))
        have hD := hDA (k_w S_73 11 w1_73.toNatClampNeg (w0_73 - (x4_73 / (6 : Int32)))) L
        refine lv_aload_n hx hb dX7_layPairs_80 rfl (lv_at hl 0 rfl) ?_
        refine va_get (D := D) (ci := 5) (v := .ref (a 12)) (C := RX7) (T := TX7) (N := 25) hx hb hts (fun w h => List.mem_cons_of_mem _ (List.mem_append_right _ h)) hown hK hP 0 rfl rfl 13 (by decide) (hts (.fieldLink RX7 48 "LeastNeedModel" "theirs" "[I") (List.mem_of_getElem? (i := 4) rfl)) (fun _ h9 => h9) rfl dX7_layPairs_81 ?_
        refine lv_iload hx hb dX7_layPairs_84 (lv_at hl 4 rfl) ?_
        refine lv_iload hx hb dX7_layPairs_86 (lv_at hl 5 rfl) ?_
        refine lv_iload_n hx hb dX7_layPairs_88 rfl (lv_at hl 3 rfl) ?_
        refine lv_icmp_ne (tgt := 97) hx hb dX7_layPairs_89 (by decide) (fun c89 => ?_) (fun c89 => ?_)
        · have hd := dn_f c89 hd
          refine lv_iconst (v := (0 : Int32)) hx hb dX7_layPairs_97 (by decide) ?_
          exact Jo98 x4_73 (0 : Int32) x4_73 (k_w S_73 11 w1_73.toNatClampNeg (w0_73 - (x4_73 / (6 : Int32)))) _ _ _ hd (lv_sub hl [0, 1, 2, 3, 4] rfl) hP hS
        · have hd := dn_t c89 hd
          refine lv_bipush (v := (-6 : Int32)) hx hb dX7_layPairs_92 (by decide) ?_
          refine lv_goto (tgt := 98) hx hb dX7_layPairs_94 (by decide) ?_
          exact Jo98 x4_73 (-6 : Int32) x4_73 (k_w S_73 11 w1_73.toNatClampNeg (w0_73 - (x4_73 / (6 : Int32)))) _ _ _ hd (lv_sub hl [0, 1, 2, 3, 4] rfl) hP hS
      unfold nX7_layPairs_l11 at hd
      refine lv_iload hx hb dX7_layPairs_11 (lv_at hl 4 rfl) ?_
      refine lv_bipush (v := (36 : Int32)) hx hb dX7_layPairs_13 (by decide) ?_
      refine lv_icmp_ge (tgt := 111) hx hb dX7_layPairs_15 (by decide) (fun c15 => ?_) (fun c15 => ?_)
      · have hd := dn_t c15 hd
        have hd := dn_up hd hy1
        have e1 := dn_s1 hd
        exact k_vret hx hb hr hQ hAe (by rw [e1]) hP hS hlocks dX7_layPairs_111
      · have hd := dn_f c15 hd
        refine lv_aload_n hx hb dX7_layPairs_18 rfl (lv_at hl 0 rfl) ?_
        refine va_get (D := D) (ci := 5) (v := .ref (a 5)) (C := RX7) (T := TX7) (N := 25) hx hb hts (fun w h => List.mem_cons_of_mem _ (List.mem_append_right _ h)) hown hK hP 0 rfl rfl 6 (by decide) (hts (.fieldLink RX7 27 "LeastNeedModel" "coats0" "[I") (List.mem_of_getElem? (i := 2) rfl)) (fun _ h9 => h9) rfl dX7_layPairs_19 ?_
        refine lv_iload_n hx hb dX7_layPairs_22 rfl (lv_at hl 2 rfl) ?_
        refine lv_iload hx hb dX7_layPairs_23 (lv_at hl 4 rfl) ?_
        refine lv_bipush (v := (6 : Int32)) hx hb dX7_layPairs_25 (by decide) ?_
        refine lv_idiv hx hb dX7_layPairs_27 (by decide) ?_
        obtain ⟨hi28, hd⟩ := dn_i hd
        refine k_iast (D := D) (k := p2.toNatClampNeg) (by rfl) hx hb hK hP hD hS 5 1 rfl rfl hi28 dX7_layPairs_28 (fun H locs hP hD hS => ?_)
        have hP : va_P D vwCl (wX7 cs a (k_w S_11 5 p2.toNatClampNeg (x4_11 / (6 : Int32))) L) _ := k_eq hP (wsX7_a5 cs a S_11 L p2.toNatClampNeg (x4_11 / (6 : Int32)))
        have hD := hDA (k_w S_11 5 p2.toNatClampNeg (x4_11 / (6 : Int32))) L
        refine lv_aload_n hx hb dX7_layPairs_29 rfl (lv_at hl 0 rfl) ?_
        refine va_get (D := D) (ci := 5) (v := .ref (a 5)) (C := RX7) (T := TX7) (N := 25) hx hb hts (fun w h => List.mem_cons_of_mem _ (List.mem_append_right _ h)) hown hK hP 0 rfl rfl 6 (by decide) (hts (.fieldLink RX7 27 "LeastNeedModel" "coats0" "[I") (List.mem_of_getElem? (i := 2) rfl)) (fun _ h9 => h9) rfl dX7_layPairs_30 ?_
        refine lv_iload_n hx hb dX7_layPairs_33 rfl (lv_at hl 3 rfl) ?_
        refine lv_iload hx hb dX7_layPairs_34 (lv_at hl 4 rfl) ?_
        refine lv_bipush (v := (6 : Int32)) hx hb dX7_layPairs_36 (by decide) ?_
        refine lv_irem hx hb dX7_layPairs_38 (by decide) ?_
        obtain ⟨hi39, hd⟩ := dn_i hd
        refine k_iast (D := D) (k := p3.toNatClampNeg) (by rfl) hx hb hK hP hD hS 5 1 rfl rfl hi39 dX7_layPairs_39 (fun H locs hP hD hS => ?_)
        have hP : va_P D vwCl (wX7 cs a (k_w (k_w S_11 5 p2.toNatClampNeg (x4_11 / (6 : Int32))) 5 p3.toNatClampNeg (x4_11 - x4_11 / (6 : Int32) * (6 : Int32))) L) _ := k_eq hP (wsX7_a5 cs a (k_w S_11 5 p2.toNatClampNeg (x4_11 / (6 : Int32))) L p3.toNatClampNeg (x4_11 - x4_11 / (6 : Int32) * (6 : Int32)))
        have hD := hDA (k_w (k_w S_11 5 p2.toNatClampNeg (x4_11 / (6 : Int32))) 5 p3.toNatClampNeg (x4_11 - x4_11 / (6 : Int32) * (6 : Int32))) L
        refine lv_aload_n hx hb dX7_layPairs_40 rfl (lv_at hl 0 rfl) ?_
        refine lv_iload_n hx hb dX7_layPairs_41 rfl (lv_at hl 1 rfl) ?_
        refine lv_aload_n hx hb dX7_layPairs_42 rfl (lv_at hl 0 rfl) ?_
        refine va_get (D := D) (ci := 5) (v := .ref (a 1)) (C := RX7) (T := TX7) (N := 25) hx hb hts (fun w h => List.mem_cons_of_mem _ (List.mem_append_right _ h)) hown hK hP 0 rfl rfl 0 (by decide) (hts (.fieldLink RX7 7 "LeastNeedModel" "told" "[I") (List.mem_of_getElem? (i := 1) rfl)) (fun _ h9 => h9) rfl dX7_layPairs_43 ?_
        refine lv_iconst (v := (5 : Int32)) hx hb dX7_layPairs_46 (by decide) ?_
        refine lv_iload_n hx hb dX7_layPairs_47 rfl (lv_at hl 1 rfl) ?_
        refine lv_iadd hx hb dX7_layPairs_48 ?_
        obtain ⟨hi49, hd⟩ := dn_i hd
        refine k_iald (D := D) (k := ((5 : Int32) + p1).toNatClampNeg) (by rfl) hx hb hK hP 1 1 rfl rfl hi49 dX7_layPairs_49 ?_
        obtain ⟨r50, hq50, hd⟩ := dn_b1 hd
        have hF := k_self hD hS hA
        refine k_run_i (va_runV (As := [.int p1, .int ((k_w (k_w S_11 5 p2.toNatClampNeg (x4_11 / (6 : Int32))) 5 p3.toNatClampNeg (x4_11 - x4_11 / (6 : Int32) * (6 : Int32))) 1 ((5 : Int32) + p1).toNatClampNeg)]) (rest := []) ⟨hx, hb, hml, hown, hts⟩ (mX7_comesNow l D cs a (k_w (k_w S_11 5 p2.toNatClampNeg (x4_11 / (6 : Int32))) 5 p3.toNatClampNeg (x4_11 - x4_11 / (6 : Int32) * (6 : Int32))) L p1 ((k_w (k_w S_11 5 p2.toNatClampNeg (x4_11 / (6 : Int32))) 5 p3.toNatClampNeg (x4_11 - x4_11 / (6 : Int32) * (6 : Int32))) 1 ((5 : Int32) + p1).toNatClampNeg) r50 hq50 _) (cwV 2 hts gX7_layPairs_X7_comesNow rfl rfl rfl (by decide +kernel) ⟨Nat.le_of_ble_eq_true rfl, Nat.le_of_ble_eq_true rfl⟩) ⟨k_blind, va_recv hK hP (ci := 5) (q0 := 0) rfl rfl, k_pre hP hK hNn hD⟩ rfl rfl hl.1 rfl (lv_room (Nat.le_of_ble_eq_true rfl)) dX7_layPairs_50 ⟨Nat.le_of_ble_eq_true rfl, Nat.le_of_ble_eq_true rfl⟩) hS hF (fun H locs hP1 hk hS => ?_)
        have hP : va_P D vwCl (wX7 cs a (k_w (k_w S_11 5 p2.toNatClampNeg (x4_11 / (6 : Int32))) 5 p3.toNatClampNeg (x4_11 - x4_11 / (6 : Int32) * (6 : Int32))) L) _ := hP1
        have hD := hDA (k_w (k_w S_11 5 p2.toNatClampNeg (x4_11 / (6 : Int32))) 5 p3.toNatClampNeg (x4_11 - x4_11 / (6 : Int32) * (6 : Int32))) L
        refine lv_istore (lv' := [(5, .int r50), (0, .ref (a 0)), (1, .int p1), (2, .int p2), (3, .int p3), (4, .int x4_11)]) hx hb dX7_layPairs_53 hl (by decide) rfl (fun ls hl => ?_)
        refine lv_aload_n hx hb dX7_layPairs_55 rfl (lv_at hl 1 rfl) ?_
        refine va_get (D := D) (ci := 5) (v := .ref (a 11)) (C := RX7) (T := TX7) (N := 25) hx hb hts (fun w h => List.mem_cons_of_mem _ (List.mem_append_right _ h)) hown hK hP 0 rfl rfl 12 (by decide) (hts (.fieldLink RX7 45 "LeastNeedModel" "his" "[I") (List.mem_of_getElem? (i := 3) rfl)) (fun _ h9 => h9) rfl dX7_layPairs_56 ?_
        refine lv_iload hx hb dX7_layPairs_59 (lv_at hl 5 rfl) ?_
        refine lv_iload hx hb dX7_layPairs_61 (lv_at hl 0 rfl) ?_
        refine lv_iload_n hx hb dX7_layPairs_63 rfl (lv_at hl 3 rfl) ?_
        refine lv_icmp_ne (tgt := 72) hx hb dX7_layPairs_64 (by decide) (fun c64 => ?_) (fun c64 => ?_)
        · have hd := dn_f c64 hd
          refine lv_iconst (v := (0 : Int32)) hx hb dX7_layPairs_72 (by decide) ?_
          exact Jo73 x4_11 r50 (0 : Int32) x4_11 (k_w (k_w S_11 5 p2.toNatClampNeg (x4_11 / (6 : Int32))) 5 p3.toNatClampNeg (x4_11 - x4_11 / (6 : Int32) * (6 : Int32))) _ _ _ hd (lv_sub hl [1, 2, 3, 4, 5, 0] rfl) hP hS
        · have hd := dn_t c64 hd
          refine lv_bipush (v := (-6 : Int32)) hx hb dX7_layPairs_67 (by decide) ?_
          refine lv_goto (tgt := 73) hx hb dX7_layPairs_69 (by decide) ?_
          exact Jo73 x4_11 r50 (-6 : Int32) x4_11 (k_w (k_w S_11 5 p2.toNatClampNeg (x4_11 / (6 : Int32))) 5 p3.toNatClampNeg (x4_11 - x4_11 / (6 : Int32) * (6 : Int32))) _ _ _ hd (lv_sub hl [1, 2, 3, 4, 5, 0] rfl) hP hS
  unfold nX7_layPairs at hd
  refine lv_aload_n hx hb dX7_layPairs_0 rfl (lv_at hl 0 rfl) ?_
  refine lv_aload_n hx hb dX7_layPairs_1 rfl (lv_at hl 0 rfl) ?_
  refine va_get (D := D) (ci := 5) (v := .ref (a 1)) (C := RX7) (T := TX7) (N := 25) hx hb hts (fun w h => List.mem_cons_of_mem _ (List.mem_append_right _ h)) hown hK hP 0 rfl rfl 0 (by decide) (hts (.fieldLink RX7 7 "LeastNeedModel" "told" "[I") (List.mem_of_getElem? (i := 1) rfl)) (fun _ h9 => h9) rfl dX7_layPairs_2 ?_
  obtain ⟨S5, hq5, hd⟩ := dn_b1 hd
  have hF := k_self hD hS hA
  refine k_run_v (va_runV (As := [.ref (a 1)]) (rest := []) ⟨hx, hb, hml, hown, hts⟩ (mX7_layCoats_1 l D cs a S L S5 hq5 _) (cwV 1 hts gX7_layPairs_X7_layCoats rfl rfl rfl (by decide +kernel) ⟨Nat.le_of_ble_eq_true rfl, Nat.le_of_ble_eq_true rfl⟩) ⟨k_blind, va_recv hK hP (ci := 5) (q0 := 0) rfl rfl, k_pre hP hK hNn hD⟩ rfl rfl hl.1 rfl (lv_room (Nat.le_of_ble_eq_true rfl)) dX7_layPairs_5 ⟨Nat.le_of_ble_eq_true rfl, Nat.le_of_ble_eq_true rfl⟩) hS hF (fun H locs hP1 hk hS => ?_)
  have hP : va_P D vwCl (wX7 cs a S5 L) _ := hP1
  have hD := hDA S5 L
  refine lv_iconst (v := (0 : Int32)) hx hb dX7_layPairs_8 (by decide) ?_
  refine lv_istore (lv' := [(4, .int (0 : Int32)), (0, .ref (a 0)), (1, .int p1), (2, .int p2), (3, .int p3)]) hx hb dX7_layPairs_9 hl (by decide) rfl (fun ls hl => ?_)
  exact Lo11 1000 (0 : Int32) S5 _ _ _ hd (lv_sub hl [1, 2, 3, 4, 0] rfl) hP hS
-- LeastNeedModel.rests(I)Z
set_option maxRecDepth 20000 in
def nX7_rests_i4_j64 (p1 : Int32) (x3_64 : Int32) (S : Nat → Nat → Int32) (L : Nat → Nat → Int64) : Option ((Int32 × Int32) ⊕ (Int32)) := some (.inl ((0 : Int32), (x3_64 + (1 : Int32))))
set_option maxRecDepth 20000 in
def nX7_rests_l4 (p1 : Int32) (x2_4 : Int32) (x3_4 : Int32) (S : Nat → Nat → Int32) (L : Nat → Nat → Int64) : Option ((Int32 × Int32) ⊕ (Int32)) := if (6 : Int32) ≤ x3_4 then k_up (if ¬ (x2_4 = 0 ∨ x2_4 = 1) then none else some x2_4) else if x2_4 = 0 then nX7_rests_i4_j64 p1 x3_4 S L else if (((6 : Int32) * x3_4) + (p1 - p1 / (6 : Int32) * (6 : Int32))) < 0 ∨ 36 ≤ (((6 : Int32) * x3_4) + (p1 - p1 / (6 : Int32) * (6 : Int32))).toNatClampNeg then none else if p1 < 0 ∨ 36 ≤ p1.toNatClampNeg then none else if (S 11 p1.toNatClampNeg) < (S 11 (((6 : Int32) * x3_4) + (p1 - p1 / (6 : Int32) * (6 : Int32))).toNatClampNeg) then nX7_rests_i4_j64 p1 x3_4 S L else if (((p1 / (6 : Int32)) * (6 : Int32)) + x3_4) < 0 ∨ 36 ≤ (((p1 / (6 : Int32)) * (6 : Int32)) + x3_4).toNatClampNeg then none else if p1 < 0 ∨ 36 ≤ p1.toNatClampNeg then none else if (S 12 p1.toNatClampNeg) < (S 12 (((p1 / (6 : Int32)) * (6 : Int32)) + x3_4).toNatClampNeg) then nX7_rests_i4_j64 p1 x3_4 S L else some (.inl ((1 : Int32), (x3_4 + (1 : Int32))))
set_option maxRecDepth 20000 in
def nX7_rests (S : Nat → Nat → Int32) (L : Nat → Nat → Int64) (p1 : Int32) : Option (Int32) := k_it (fun st => nX7_rests_l4 p1 st.1 st.2 S L) 1000 ((1 : Int32), (0 : Int32))
set_option maxHeartbeats 4000000 in
set_option maxRecDepth 100000 in
theorem mX7_rests (l : Launch) (D : va_G) (cs : Nat → ClassId) (a : Nat → Nat) (S : Nat → Nat → Int32) (L : Nat → Nat → Int64) (p1 : Int32) (r9 : Int32) (hd : nX7_rests S L p1 = some r9) : ∀ sz : Nat, Met l yX7_rests wsX7_rests ({ frames := 0, cells := 0, slots := 0, locals := 0 }) (k_Pc D cs [.ref (a 0), .int p1] (wX7 cs a S L) sz) (k_Qi D r9 (wX7 cs a S L) (wX7 cs a S L) sz) 0 0 (va_A (wX7 cs a S L) sz) := by
  intro sz
  refine Met.ofW (cc := cX7_rests) (maxL := 4) (ret := (some .boolean)) (by decide) rfl ?_
  intro p e s m args below meth c s₁ B hml hv
  obtain ⟨rfl, hsz, hP, hK, hD0, hNn⟩ := hv
  have hx := B.exec
  have hb := B.bytes
  have hr := B.returns
  have hts := atoms_spec (ws := wsX7_rests) B.pre
  have hown : s.vm.findClass RX7 = some m.cls := findClass_of_methodNamed B.named
  have hlocks := B.notSynchronized
  subst hsz
  obtain ⟨A, hAe⟩ : ∃ A : Nat → Prop, A = va_A (wX7 cs a S L) s.heap.size := ⟨_, rfl⟩
  have hD : va_D A (wX7 cs a S L) := by rw [hAe]; exact hD0.self
  have hA : ∀ q : Nat, s.heap.size ≤ q → A q := fun q h => by rw [hAe]; exact Or.inr h
  have hS : va_S A s.heap s.heap [] := va_S.rf
  have hDA : ∀ (S : Nat → Nat → Int32) (L : Nat → Nat → Int64), va_D A (wX7 cs a S L) := fun S L => k_DA hD rfl
  have hl := lv_entry ([.ref (a 0), .int p1]) (n := 4) (Nat.le_of_ble_eq_true rfl)
  rw [lg_entry_eq]
  generalize (lg_sl ([.ref (a 0), .int p1]) ++ List.replicate (4 - (lg_sl ([.ref (a 0), .int p1])).length) Slot.unset).toArray = ls at hl ⊢
  have hl : lv_has ls 4 [(0, .ref (a 0)), (1, .int p1)] := hl
  obtain ⟨Q, hQ⟩ : ∃ Q, Q = MQ below (k_Qi D r9 (wX7 cs a S L) (wX7 cs a S L) s.heap.size) ([.ref (a 0), .int p1] : List Value).toArray s 0 0 (va_A (wX7 cs a S L) s.heap.size) := ⟨_, rfl⟩
  rw [← hQ]
  have Lo4 : ∀ (n1 : Nat) (x2_4 : Int32) (x3_4 : Int32) (H : Heap) (locs : List Loc) (ls : Array Slot), k_it (fun st => nX7_rests_l4 p1 st.1 st.2 S L) n1 (x2_4, x3_4) = some r9 → lv_has ls 4 [(0, .ref (a 0)), (1, .int p1), (2, .int x2_4), (3, .int x3_4)] → va_P D vwCl (wX7 cs a S L) H → va_S A s.heap H locs → W p l e (headSpec wsX7_rests ({ frames := 0, cells := 0, slots := 0, locals := 0 })).room s m ([.ref (a 0), .int p1] : List Value).toArray below meth c H locs 0 0 Q (F0 m 4 ls []) := by
    intro n1
    induction n1 with
    | zero => intro x2_4 x3_4 H locs ls hd; exact dn_it0 hd
    | succ n1 ih1 =>
      intro x2_4 x3_4 H locs ls hd hl hP hS
      have hD := hDA S L
      obtain ⟨y1, hd, hy1⟩ := dn_it hd
      have hd : nX7_rests_l4 p1 x2_4 x3_4 S L = some y1 := hd
      have Jo64 : ∀ (x3_64 : Int32) (H : Heap) (locs : List Loc) (ls : Array Slot), nX7_rests_i4_j64 p1 x3_64 S L = some y1 → lv_has ls 4 [(0, .ref (a 0)), (1, .int p1), (3, .int x3_64)] → va_P D vwCl (wX7 cs a S L) H → va_S A s.heap H locs → W p l e (headSpec wsX7_rests ({ frames := 0, cells := 0, slots := 0, locals := 0 })).room s m ([.ref (a 0), .int p1] : List Value).toArray below meth c H locs 0 0 Q (F0 m 64 ls []) := by
        intro x3_64 H locs ls hd hl hP hS
        have hD := hDA S L
        unfold nX7_rests_i4_j64 at hd
        refine lv_iconst (v := (0 : Int32)) hx hb dX7_rests_64 (by decide) ?_
        refine lv_istore_n (lv' := [(2, .int (0 : Int32)), (0, .ref (a 0)), (1, .int p1), (3, .int x3_64)]) hx hb dX7_rests_65 rfl hl (by decide) rfl (fun ls hl => ?_)
        refine lv_iinc (v := x3_64 + (1 : Int32)) (lv' := [(3, .int (x3_64 + (1 : Int32))), (2, .int (0 : Int32)), (0, .ref (a 0)), (1, .int p1)]) hx hb dX7_rests_66 hl (k := 3) rfl rfl (by decide) rfl (fun ls hl => ?_)
        refine lv_goto (tgt := 4) hx hb dX7_rests_69 (by decide) ?_
        exact ih1 (0 : Int32) (x3_64 + (1 : Int32)) _ _ _ (dn_bk hd hy1) (lv_sub hl [2, 3, 1, 0] rfl) hP hS
      unfold nX7_rests_l4 at hd
      refine lv_iload_n hx hb dX7_rests_4 rfl (lv_at hl 3 rfl) ?_
      refine lv_bipush (v := (6 : Int32)) hx hb dX7_rests_5 (by decide) ?_
      refine lv_icmp_ge (tgt := 72) hx hb dX7_rests_7 (by decide) (fun c7 => ?_) (fun c7 => ?_)
      · have hd := dn_t c7 hd
        have hd := dn_up hd hy1
        refine lv_iload_n hx hb dX7_rests_72 rfl (lv_at hl 2 rfl) ?_
        obtain ⟨hz, hd⟩ := dn_n hd
        have e1 := dn_s1 hd
        exact k_zret hx hb hr (dn_z hz) hQ hAe e1 rfl hP hS hlocks dX7_rests_73
      · have hd := dn_f c7 hd
        refine lv_iload_n hx hb dX7_rests_10 rfl (lv_at hl 2 rfl) ?_
        refine lv_if_eq (tgt := 64) hx hb dX7_rests_11 (by decide) (fun c11 => ?_) (fun c11 => ?_)
        · have hd := dn_t c11 hd
          exact Jo64 x3_4 _ _ _ hd (lv_sub hl [0, 1, 3] rfl) hP hS
        · have hd := dn_f c11 hd
          refine lv_aload_n hx hb dX7_rests_14 rfl (lv_at hl 0 rfl) ?_
          refine va_get (D := D) (ci := 5) (v := .ref (a 11)) (C := RX7) (T := TX7) (N := 25) hx hb hts (fun w h => List.mem_cons_of_mem _ (List.mem_append_right _ h)) hown hK hP 0 rfl rfl 12 (by decide) (hts (.fieldLink RX7 45 "LeastNeedModel" "his" "[I") (List.mem_of_getElem? (i := 1) rfl)) (fun _ h9 => h9) rfl dX7_rests_15 ?_
          refine lv_bipush (v := (6 : Int32)) hx hb dX7_rests_18 (by decide) ?_
          refine lv_iload_n hx hb dX7_rests_20 rfl (lv_at hl 3 rfl) ?_
          refine lv_imul hx hb dX7_rests_21 ?_
          refine lv_iload_n hx hb dX7_rests_22 rfl (lv_at hl 1 rfl) ?_
          refine lv_bipush (v := (6 : Int32)) hx hb dX7_rests_23 (by decide) ?_
          refine lv_irem hx hb dX7_rests_25 (by decide) ?_
          refine lv_iadd hx hb dX7_rests_26 ?_
          obtain ⟨hi27, hd⟩ := dn_i hd
          refine k_iald (D := D) (k := (((6 : Int32) * x3_4) + (p1 - p1 / (6 : Int32) * (6 : Int32))).toNatClampNeg) (by rfl) hx hb hK hP 11 1 rfl rfl hi27 dX7_rests_27 ?_
          refine lv_aload_n hx hb dX7_rests_28 rfl (lv_at hl 0 rfl) ?_
          refine va_get (D := D) (ci := 5) (v := .ref (a 11)) (C := RX7) (T := TX7) (N := 25) hx hb hts (fun w h => List.mem_cons_of_mem _ (List.mem_append_right _ h)) hown hK hP 0 rfl rfl 12 (by decide) (hts (.fieldLink RX7 45 "LeastNeedModel" "his" "[I") (List.mem_of_getElem? (i := 1) rfl)) (fun _ h9 => h9) rfl dX7_rests_29 ?_
          refine lv_iload_n hx hb dX7_rests_32 rfl (lv_at hl 1 rfl) ?_
          obtain ⟨hi33, hd⟩ := dn_i hd
          refine k_iald (D := D) (k := p1.toNatClampNeg) (by rfl) hx hb hK hP 11 1 rfl rfl hi33 dX7_rests_33 ?_
          refine lv_icmp_gt (tgt := 64) hx hb dX7_rests_34 (by decide) (fun c34 => ?_) (fun c34 => ?_)
          · have hd := dn_t c34 hd
            exact Jo64 x3_4 _ _ _ hd (lv_sub hl [0, 1, 3] rfl) hP hS
          · have hd := dn_f c34 hd
            refine lv_aload_n hx hb dX7_rests_37 rfl (lv_at hl 0 rfl) ?_
            refine va_get (D := D) (ci := 5) (v := .ref (a 12)) (C := RX7) (T := TX7) (N := 25) hx hb hts (fun w h => List.mem_cons_of_mem _ (List.mem_append_right _ h)) hown hK hP 0 rfl rfl 13 (by decide) (hts (.fieldLink RX7 48 "LeastNeedModel" "theirs" "[I") (List.mem_of_getElem? (i := 2) rfl)) (fun _ h9 => h9) rfl dX7_rests_38 ?_
            refine lv_iload_n hx hb dX7_rests_41 rfl (lv_at hl 1 rfl) ?_
            refine lv_bipush (v := (6 : Int32)) hx hb dX7_rests_42 (by decide) ?_
            refine lv_idiv hx hb dX7_rests_44 (by decide) ?_
            refine lv_bipush (v := (6 : Int32)) hx hb dX7_rests_45 (by decide) ?_
            refine lv_imul hx hb dX7_rests_47 ?_
            refine lv_iload_n hx hb dX7_rests_48 rfl (lv_at hl 3 rfl) ?_
            refine lv_iadd hx hb dX7_rests_49 ?_
            obtain ⟨hi50, hd⟩ := dn_i hd
            refine k_iald (D := D) (k := (((p1 / (6 : Int32)) * (6 : Int32)) + x3_4).toNatClampNeg) (by rfl) hx hb hK hP 12 1 rfl rfl hi50 dX7_rests_50 ?_
            refine lv_aload_n hx hb dX7_rests_51 rfl (lv_at hl 0 rfl) ?_
            refine va_get (D := D) (ci := 5) (v := .ref (a 12)) (C := RX7) (T := TX7) (N := 25) hx hb hts (fun w h => List.mem_cons_of_mem _ (List.mem_append_right _ h)) hown hK hP 0 rfl rfl 13 (by decide) (hts (.fieldLink RX7 48 "LeastNeedModel" "theirs" "[I") (List.mem_of_getElem? (i := 2) rfl)) (fun _ h9 => h9) rfl dX7_rests_52 ?_
            refine lv_iload_n hx hb dX7_rests_55 rfl (lv_at hl 1 rfl) ?_
            obtain ⟨hi56, hd⟩ := dn_i hd
            refine k_iald (D := D) (k := p1.toNatClampNeg) (by rfl) hx hb hK hP 12 1 rfl rfl hi56 dX7_rests_56 ?_
            refine lv_icmp_gt (tgt := 64) hx hb dX7_rests_57 (by decide) (fun c57 => ?_) (fun c57 => ?_)
            · have hd := dn_t c57 hd
              exact Jo64 x3_4 _ _ _ hd (lv_sub hl [0, 1, 3] rfl) hP hS
            · have hd := dn_f c57 hd
              refine lv_iconst (v := (1 : Int32)) hx hb dX7_rests_60 (by decide) ?_
              refine lv_goto (tgt := 65) hx hb dX7_rests_61 (by decide) ?_
              refine lv_istore_n (lv' := [(2, .int (1 : Int32)), (0, .ref (a 0)), (1, .int p1), (3, .int x3_4)]) hx hb dX7_rests_65 rfl hl (by decide) rfl (fun ls hl => ?_)
              refine lv_iinc (v := x3_4 + (1 : Int32)) (lv' := [(3, .int (x3_4 + (1 : Int32))), (2, .int (1 : Int32)), (0, .ref (a 0)), (1, .int p1)]) hx hb dX7_rests_66 hl (k := 3) rfl rfl (by decide) rfl (fun ls hl => ?_)
              refine lv_goto (tgt := 4) hx hb dX7_rests_69 (by decide) ?_
              exact ih1 (1 : Int32) (x3_4 + (1 : Int32)) _ _ _ (dn_bk hd hy1) (lv_sub hl [2, 3, 1, 0] rfl) hP hS
  unfold nX7_rests at hd
  refine lv_iconst (v := (1 : Int32)) hx hb dX7_rests_0 (by decide) ?_
  refine lv_istore_n (lv' := [(2, .int (1 : Int32)), (0, .ref (a 0)), (1, .int p1)]) hx hb dX7_rests_1 rfl hl (by decide) rfl (fun ls hl => ?_)
  refine lv_iconst (v := (0 : Int32)) hx hb dX7_rests_2 (by decide) ?_
  refine lv_istore_n (lv' := [(3, .int (0 : Int32)), (2, .int (1 : Int32)), (0, .ref (a 0)), (1, .int p1)]) hx hb dX7_rests_3 rfl hl (by decide) rfl (fun ls hl => ?_)
  exact Lo4 1000 (1 : Int32) (0 : Int32) _ _ _ hd (lv_sub hl [2, 3, 1, 0] rfl) hP hS
-- LeastNeedModel.coats(IIII)I
set_option maxRecDepth 20000 in
def nX7_coats_i59_j89 (p4 : Int32) (x5_89 : Int32) (x7_89 : Int32) (w0_89 : Int32) (S_59 : Nat → Nat → Int32) (L : Nat → Nat → Int64) : Option ((Int32 × Int32 × Int32) ⊕ (Int32 × (Nat → Nat → Int32))) := some (.inl ((x5_89 + (1 : Int32)), w0_89, (x7_89 + (1 : Int32))))
set_option maxRecDepth 20000 in
def nX7_coats_l59 (p4 : Int32) (x5_59 : Int32) (x6_59 : Int32) (x7_59 : Int32) (S_59 : Nat → Nat → Int32) (L : Nat → Nat → Int64) : Option ((Int32 × Int32 × Int32) ⊕ (Int32 × (Nat → Nat → Int32))) := if (36 : Int32) ≤ x7_59 then k_up (if p4 = (-1 : Int32) then some (x5_59, S_59) else some (x6_59, S_59)) else k_b1 (nX7_rests S_59 L x7_59) (fun r69 => if r69 = 0 then some (.inl (x5_59, x6_59, (x7_59 + (1 : Int32)))) else if x5_59 = p4 then nX7_coats_i59_j89 p4 x5_59 x7_59 x7_59 S_59 L else nX7_coats_i59_j89 p4 x5_59 x7_59 x6_59 S_59 L)
set_option maxRecDepth 20000 in
def nX7_coats_j35 (S_35 : Nat → Nat → Int32) (L : Nat → Nat → Int64) : Option (Int32 × (Nat → Nat → Int32)) := k_b2 (nX7_bad S_35 L (-10 : Int32)) (fun r38 S38 => some (r38, S38))
set_option maxRecDepth 20000 in
def nX7_coats (S : Nat → Nat → Int32) (L : Nat → Nat → Int64) (p1 : Int32) (p2 : Int32) (p3 : Int32) (p4 : Int32) : Option (Int32 × (Nat → Nat → Int32)) := k_b1 (nX7_isThing S L p1) (fun r2 => if r2 = 0 then nX7_coats_j35 S L else k_b1 (nX7_isOne S L p2) (fun r10 => if r10 = 0 then nX7_coats_j35 S L else k_b1 (nX7_isOne S L p3) (fun r18 => if r18 = 0 then nX7_coats_j35 S L else if p2 = p3 then nX7_coats_j35 S L else if (-1 : Int32) ≤ p4 then k_b1 (nX7_layPairs S L p1 p2 p3) (fun S53 => k_it (fun st => nX7_coats_l59 p4 st.1 st.2.1 st.2.2 S53 L) 1000 ((0 : Int32), (-5 : Int32), (0 : Int32))) else nX7_coats_j35 S L)))
set_option maxHeartbeats 4000000 in
set_option maxRecDepth 100000 in
theorem mX7_coats (l : Launch) (D : va_G) (cs : Nat → ClassId) (a : Nat → Nat) (S : Nat → Nat → Int32) (L : Nat → Nat → Int64) (p1 : Int32) (p2 : Int32) (p3 : Int32) (p4 : Int32) (r9 : Int32) (S9 : (Nat → Nat → Int32)) (hd : nX7_coats S L p1 p2 p3 p4 = some (r9, S9)) : ∀ sz : Nat, Met l yX7_coats wsX7_coats ({ frames := 6, cells := 0, slots := 0, locals := 153 }) (k_Pc D cs [.ref (a 0), .int p1, .int p2, .int p3, .int p4] (wX7 cs a S L) sz) (k_Qi D r9 (wX7 cs a S L) (wX7 cs a S9 L) sz) 0 0 (va_A (wX7 cs a S L) sz) := by
  intro sz
  refine Met.ofW (cc := cX7_coats) (maxL := 8) (ret := (some .int)) (by decide) rfl ?_
  intro p e s m args below meth c s₁ B hml hv
  obtain ⟨rfl, hsz, hP, hK, hD0, hNn⟩ := hv
  have hx := B.exec
  have hb := B.bytes
  have hr := B.returns
  have hts := atoms_spec (ws := wsX7_coats) B.pre
  have hown : s.vm.findClass RX7 = some m.cls := findClass_of_methodNamed B.named
  have hlocks := B.notSynchronized
  subst hsz
  obtain ⟨A, hAe⟩ : ∃ A : Nat → Prop, A = va_A (wX7 cs a S L) s.heap.size := ⟨_, rfl⟩
  have hD : va_D A (wX7 cs a S L) := by rw [hAe]; exact hD0.self
  have hA : ∀ q : Nat, s.heap.size ≤ q → A q := fun q h => by rw [hAe]; exact Or.inr h
  have hS : va_S A s.heap s.heap [] := va_S.rf
  have hDA : ∀ (S : Nat → Nat → Int32) (L : Nat → Nat → Int64), va_D A (wX7 cs a S L) := fun S L => k_DA hD rfl
  have hl := lv_entry ([.ref (a 0), .int p1, .int p2, .int p3, .int p4]) (n := 8) (Nat.le_of_ble_eq_true rfl)
  rw [lg_entry_eq]
  generalize (lg_sl ([.ref (a 0), .int p1, .int p2, .int p3, .int p4]) ++ List.replicate (8 - (lg_sl ([.ref (a 0), .int p1, .int p2, .int p3, .int p4])).length) Slot.unset).toArray = ls at hl ⊢
  have hl : lv_has ls 8 [(0, .ref (a 0)), (1, .int p1), (2, .int p2), (3, .int p3), (4, .int p4)] := hl
  obtain ⟨Q, hQ⟩ : ∃ Q, Q = MQ below (k_Qi D r9 (wX7 cs a S L) (wX7 cs a S9 L) s.heap.size) ([.ref (a 0), .int p1, .int p2, .int p3, .int p4] : List Value).toArray s 0 0 (va_A (wX7 cs a S L) s.heap.size) := ⟨_, rfl⟩
  rw [← hQ]
  have Lo59 : ∀ (n1 : Nat) (x5_59 : Int32) (x6_59 : Int32) (x7_59 : Int32) (S_59 : Nat → Nat → Int32) (H : Heap) (locs : List Loc) (ls : Array Slot), k_it (fun st => nX7_coats_l59 p4 st.1 st.2.1 st.2.2 S_59 L) n1 (x5_59, x6_59, x7_59) = some (r9, S9) → lv_has ls 8 [(0, .ref (a 0)), (4, .int p4), (5, .int x5_59), (6, .int x6_59), (7, .int x7_59)] → va_P D vwCl (wX7 cs a S_59 L) H → va_S A s.heap H locs → W p l e (headSpec wsX7_coats ({ frames := 6, cells := 0, slots := 0, locals := 153 })).room s m ([.ref (a 0), .int p1, .int p2, .int p3, .int p4] : List Value).toArray below meth c H locs 0 0 Q (F0 m 59 ls []) := by
    intro n1
    induction n1 with
    | zero => intro x5_59 x6_59 x7_59 S_59 H locs ls hd; exact dn_it0 hd
    | succ n1 ih1 =>
      intro x5_59 x6_59 x7_59 S_59 H locs ls hd hl hP hS
      have hD := hDA S_59 L
      obtain ⟨y1, hd, hy1⟩ := dn_it hd
      have hd : nX7_coats_l59 p4 x5_59 x6_59 x7_59 S_59 L = some y1 := hd
      have Jo89 : ∀ (x5_89 : Int32) (x7_89 : Int32) (w0_89 : Int32) (H : Heap) (locs : List Loc) (ls : Array Slot), nX7_coats_i59_j89 p4 x5_89 x7_89 w0_89 S_59 L = some y1 → lv_has ls 8 [(0, .ref (a 0)), (4, .int p4), (5, .int x5_89), (7, .int x7_89)] → va_P D vwCl (wX7 cs a S_59 L) H → va_S A s.heap H locs → W p l e (headSpec wsX7_coats ({ frames := 6, cells := 0, slots := 0, locals := 153 })).room s m ([.ref (a 0), .int p1, .int p2, .int p3, .int p4] : List Value).toArray below meth c H locs 0 0 Q (F0 m 89 ls [.int w0_89]) := by
        intro x5_89 x7_89 w0_89 H locs ls hd hl hP hS
        have hD := hDA S_59 L
        unfold nX7_coats_i59_j89 at hd
        refine lv_istore (lv' := [(6, .int w0_89), (0, .ref (a 0)), (4, .int p4), (5, .int x5_89), (7, .int x7_89)]) hx hb dX7_coats_89 hl (by decide) rfl (fun ls hl => ?_)
        refine lv_iinc (v := x5_89 + (1 : Int32)) (lv' := [(5, .int (x5_89 + (1 : Int32))), (6, .int w0_89), (0, .ref (a 0)), (4, .int p4), (7, .int x7_89)]) hx hb dX7_coats_91 hl (k := 3) rfl rfl (by decide) rfl (fun ls hl => ?_)
        refine lv_iinc (v := x7_89 + (1 : Int32)) (lv' := [(7, .int (x7_89 + (1 : Int32))), (5, .int (x5_89 + (1 : Int32))), (6, .int w0_89), (0, .ref (a 0)), (4, .int p4)]) hx hb dX7_coats_94 hl (k := 4) rfl rfl (by decide) rfl (fun ls hl => ?_)
        refine lv_goto (tgt := 59) hx hb dX7_coats_97 (by decide) ?_
        exact ih1 (x5_89 + (1 : Int32)) w0_89 (x7_89 + (1 : Int32)) S_59 _ _ _ (dn_bk hd hy1) (lv_sub hl [3, 4, 1, 2, 0] rfl) hP hS
      unfold nX7_coats_l59 at hd
      refine lv_iload hx hb dX7_coats_59 (lv_at hl 4 rfl) ?_
      refine lv_bipush (v := (36 : Int32)) hx hb dX7_coats_61 (by decide) ?_
      refine lv_icmp_ge (tgt := 100) hx hb dX7_coats_63 (by decide) (fun c63 => ?_) (fun c63 => ?_)
      · have hd := dn_t c63 hd
        have hd := dn_up hd hy1
        refine lv_iload hx hb dX7_coats_100 (lv_at hl 1 rfl) ?_
        refine lv_iconst (v := (-1 : Int32)) hx hb dX7_coats_102 (by decide) ?_
        refine lv_icmp_ne (tgt := 111) hx hb dX7_coats_103 (by decide) (fun c103 => ?_) (fun c103 => ?_)
        · have hd := dn_f c103 hd
          refine lv_iload hx hb dX7_coats_111 (lv_at hl 3 rfl) ?_
          obtain ⟨e1, e2⟩ := dn_s2 hd
          exact k_iret hx hb hr hQ hAe e1 (by rw [e2]) hP hS hlocks dX7_coats_113
        · have hd := dn_t c103 hd
          refine lv_iload hx hb dX7_coats_106 (lv_at hl 2 rfl) ?_
          refine lv_goto (tgt := 113) hx hb dX7_coats_108 (by decide) ?_
          obtain ⟨e1, e2⟩ := dn_s2 hd
          exact k_iret hx hb hr hQ hAe e1 (by rw [e2]) hP hS hlocks dX7_coats_113
      · have hd := dn_f c63 hd
        refine lv_aload_n hx hb dX7_coats_66 rfl (lv_at hl 0 rfl) ?_
        refine lv_iload hx hb dX7_coats_67 (lv_at hl 4 rfl) ?_
        obtain ⟨r69, hq69, hd⟩ := dn_b1 hd
        have hF := k_self hD hS hA
        refine k_run_i (va_runV (As := [.int x7_59]) (rest := []) ⟨hx, hb, hml, hown, hts⟩ (mX7_rests l D cs a S_59 L x7_59 r69 hq69 _) (cwV 1 hts gX7_coats_X7_rests rfl rfl rfl (by decide +kernel) ⟨Nat.le_of_ble_eq_true rfl, Nat.le_of_ble_eq_true rfl⟩) ⟨k_blind, va_recv hK hP (ci := 5) (q0 := 0) rfl rfl, k_pre hP hK hNn hD⟩ rfl rfl hl.1 rfl (lv_room (Nat.le_of_ble_eq_true rfl)) dX7_coats_69 ⟨Nat.le_of_ble_eq_true rfl, Nat.le_of_ble_eq_true rfl⟩) hS hF (fun H locs hP1 hk hS => ?_)
        have hP : va_P D vwCl (wX7 cs a S_59 L) _ := hP1
        have hD := hDA S_59 L
        refine lv_if_eq (tgt := 94) hx hb dX7_coats_72 (by decide) (fun c72 => ?_) (fun c72 => ?_)
        · have hd := dn_t c72 hd
          refine lv_iinc (v := x7_59 + (1 : Int32)) (lv' := [(7, .int (x7_59 + (1 : Int32))), (0, .ref (a 0)), (4, .int p4), (5, .int x5_59), (6, .int x6_59)]) hx hb dX7_coats_94 hl (k := 4) rfl rfl (by decide) rfl (fun ls hl => ?_)
          refine lv_goto (tgt := 59) hx hb dX7_coats_97 (by decide) ?_
          exact ih1 x5_59 x6_59 (x7_59 + (1 : Int32)) S_59 _ _ _ (dn_bk hd hy1) (lv_sub hl [1, 2, 3, 4, 0] rfl) hP hS
        · have hd := dn_f c72 hd
          refine lv_iload hx hb dX7_coats_75 (lv_at hl 2 rfl) ?_
          refine lv_iload hx hb dX7_coats_77 (lv_at hl 1 rfl) ?_
          refine lv_icmp_ne (tgt := 87) hx hb dX7_coats_79 (by decide) (fun c79 => ?_) (fun c79 => ?_)
          · have hd := dn_f c79 hd
            refine lv_iload hx hb dX7_coats_87 (lv_at hl 3 rfl) ?_
            exact Jo89 x5_59 x7_59 x6_59 _ _ _ hd (lv_sub hl [0, 1, 2, 4] rfl) hP hS
          · have hd := dn_t c79 hd
            refine lv_iload hx hb dX7_coats_82 (lv_at hl 4 rfl) ?_
            refine lv_goto (tgt := 89) hx hb dX7_coats_84 (by decide) ?_
            exact Jo89 x5_59 x7_59 x7_59 _ _ _ hd (lv_sub hl [0, 1, 2, 4] rfl) hP hS
  have Jo35 : ∀ (S_35 : Nat → Nat → Int32) (H : Heap) (locs : List Loc) (ls : Array Slot), nX7_coats_j35 S_35 L = some (r9, S9) → lv_has ls 8 [(0, .ref (a 0))] → va_P D vwCl (wX7 cs a S_35 L) H → va_S A s.heap H locs → W p l e (headSpec wsX7_coats ({ frames := 6, cells := 0, slots := 0, locals := 153 })).room s m ([.ref (a 0), .int p1, .int p2, .int p3, .int p4] : List Value).toArray below meth c H locs 0 0 Q (F0 m 35 ls []) := by
    intro S_35 H locs ls hd hl hP hS
    have hD := hDA S_35 L
    unfold nX7_coats_j35 at hd
    refine lv_aload_n hx hb dX7_coats_35 rfl (lv_at hl 0 rfl) ?_
    refine lv_bipush (v := (-10 : Int32)) hx hb dX7_coats_36 (by decide) ?_
    obtain ⟨r38, S38, hq38, hd⟩ := dn_b2 hd
    have hF := k_self hD hS hA
    refine k_run_i (va_runV (As := [.int (-10 : Int32)]) (rest := []) ⟨hx, hb, hml, hown, hts⟩ (mX7_bad l D cs a S_35 L (-10 : Int32) r38 S38 hq38 _) (cwV 1 hts gX7_coats_X7_bad rfl rfl rfl (by decide +kernel) ⟨Nat.le_of_ble_eq_true rfl, Nat.le_of_ble_eq_true rfl⟩) ⟨k_blind, va_recv hK hP (ci := 5) (q0 := 0) rfl rfl, k_pre hP hK hNn hD⟩ rfl rfl hl.1 rfl (lv_room (Nat.le_of_ble_eq_true rfl)) dX7_coats_38 ⟨Nat.le_of_ble_eq_true rfl, Nat.le_of_ble_eq_true rfl⟩) hS hF (fun H locs hP1 hk hS => ?_)
    have hP : va_P D vwCl (wX7 cs a S38 L) _ := hP1
    have hD := hDA S38 L
    obtain ⟨e1, e2⟩ := dn_s2 hd
    exact k_iret hx hb hr hQ hAe e1 (by rw [e2]) hP hS hlocks dX7_coats_41
  unfold nX7_coats at hd
  refine lv_aload_n hx hb dX7_coats_0 rfl (lv_at hl 0 rfl) ?_
  refine lv_iload_n hx hb dX7_coats_1 rfl (lv_at hl 1 rfl) ?_
  obtain ⟨r2, hq2, hd⟩ := dn_b1 hd
  have hF := k_self hD hS hA
  refine k_run_i (va_runV (As := [.int p1]) (rest := []) ⟨hx, hb, hml, hown, hts⟩ (mX7_isThing l D cs a S L p1 r2 hq2 _) (cwV 1 hts gX7_coats_X7_isThing rfl rfl rfl (by decide +kernel) ⟨Nat.le_of_ble_eq_true rfl, Nat.le_of_ble_eq_true rfl⟩) ⟨k_blind, va_recv hK hP (ci := 5) (q0 := 0) rfl rfl, k_pre hP hK hNn hD⟩ rfl rfl hl.1 rfl (lv_room (Nat.le_of_ble_eq_true rfl)) dX7_coats_2 ⟨Nat.le_of_ble_eq_true rfl, Nat.le_of_ble_eq_true rfl⟩) hS hF (fun H locs hP1 hk hS => ?_)
  have hP : va_P D vwCl (wX7 cs a S L) _ := hP1
  have hD := hDA S L
  refine lv_if_eq (tgt := 35) hx hb dX7_coats_5 (by decide) (fun c5 => ?_) (fun c5 => ?_)
  · have hd := dn_t c5 hd
    exact Jo35 S _ _ _ hd (lv_sub hl [0] rfl) hP hS
  · have hd := dn_f c5 hd
    refine lv_aload_n hx hb dX7_coats_8 rfl (lv_at hl 0 rfl) ?_
    refine lv_iload_n hx hb dX7_coats_9 rfl (lv_at hl 2 rfl) ?_
    obtain ⟨r10, hq10, hd⟩ := dn_b1 hd
    have hF := k_self hD hS hA
    refine k_run_i (va_runV (As := [.int p2]) (rest := []) ⟨hx, hb, hml, hown, hts⟩ (mX7_isOne l D cs a S L p2 r10 hq10 _) (cwV 1 hts gX7_coats_X7_isOne rfl rfl rfl (by decide +kernel) ⟨Nat.le_of_ble_eq_true rfl, Nat.le_of_ble_eq_true rfl⟩) ⟨k_blind, va_recv hK hP (ci := 5) (q0 := 0) rfl rfl, k_pre hP hK hNn hD⟩ rfl rfl hl.1 rfl (lv_room (Nat.le_of_ble_eq_true rfl)) dX7_coats_10 ⟨Nat.le_of_ble_eq_true rfl, Nat.le_of_ble_eq_true rfl⟩) hS hF (fun H locs hP1 hk hS => ?_)
    have hP : va_P D vwCl (wX7 cs a S L) _ := hP1
    have hD := hDA S L
    refine lv_if_eq (tgt := 35) hx hb dX7_coats_13 (by decide) (fun c13 => ?_) (fun c13 => ?_)
    · have hd := dn_t c13 hd
      exact Jo35 S _ _ _ hd (lv_sub hl [0] rfl) hP hS
    · have hd := dn_f c13 hd
      refine lv_aload_n hx hb dX7_coats_16 rfl (lv_at hl 0 rfl) ?_
      refine lv_iload_n hx hb dX7_coats_17 rfl (lv_at hl 3 rfl) ?_
      obtain ⟨r18, hq18, hd⟩ := dn_b1 hd
      have hF := k_self hD hS hA
      refine k_run_i (va_runV (As := [.int p3]) (rest := []) ⟨hx, hb, hml, hown, hts⟩ (mX7_isOne l D cs a S L p3 r18 hq18 _) (cwV 1 hts gX7_coats_X7_isOne rfl rfl rfl (by decide +kernel) ⟨Nat.le_of_ble_eq_true rfl, Nat.le_of_ble_eq_true rfl⟩) ⟨k_blind, va_recv hK hP (ci := 5) (q0 := 0) rfl rfl, k_pre hP hK hNn hD⟩ rfl rfl hl.1 rfl (lv_room (Nat.le_of_ble_eq_true rfl)) dX7_coats_18 ⟨Nat.le_of_ble_eq_true rfl, Nat.le_of_ble_eq_true rfl⟩) hS hF (fun H locs hP1 hk hS => ?_)
      have hP : va_P D vwCl (wX7 cs a S L) _ := hP1
      have hD := hDA S L
      refine lv_if_eq (tgt := 35) hx hb dX7_coats_21 (by decide) (fun c21 => ?_) (fun c21 => ?_)
      · have hd := dn_t c21 hd
        exact Jo35 S _ _ _ hd (lv_sub hl [0] rfl) hP hS
      · have hd := dn_f c21 hd
        refine lv_iload_n hx hb dX7_coats_24 rfl (lv_at hl 2 rfl) ?_
        refine lv_iload_n hx hb dX7_coats_25 rfl (lv_at hl 3 rfl) ?_
        refine lv_icmp_eq (tgt := 35) hx hb dX7_coats_26 (by decide) (fun c26 => ?_) (fun c26 => ?_)
        · have hd := dn_t c26 hd
          exact Jo35 S _ _ _ hd (lv_sub hl [0] rfl) hP hS
        · have hd := dn_f c26 hd
          refine lv_iload hx hb dX7_coats_29 (lv_at hl 4 rfl) ?_
          refine lv_iconst (v := (-1 : Int32)) hx hb dX7_coats_31 (by decide) ?_
          refine lv_icmp_ge (tgt := 42) hx hb dX7_coats_32 (by decide) (fun c32 => ?_) (fun c32 => ?_)
          · have hd := dn_t c32 hd
            refine lv_iconst (v := (0 : Int32)) hx hb dX7_coats_42 (by decide) ?_
            refine lv_istore (lv' := [(5, .int (0 : Int32)), (0, .ref (a 0)), (1, .int p1), (2, .int p2), (3, .int p3), (4, .int p4)]) hx hb dX7_coats_43 hl (by decide) rfl (fun ls hl => ?_)
            refine lv_bipush (v := (-5 : Int32)) hx hb dX7_coats_45 (by decide) ?_
            refine lv_istore (lv' := [(6, .int (-5 : Int32)), (5, .int (0 : Int32)), (0, .ref (a 0)), (1, .int p1), (2, .int p2), (3, .int p3), (4, .int p4)]) hx hb dX7_coats_47 hl (by decide) rfl (fun ls hl => ?_)
            refine lv_aload_n hx hb dX7_coats_49 rfl (lv_at hl 2 rfl) ?_
            refine lv_iload_n hx hb dX7_coats_50 rfl (lv_at hl 3 rfl) ?_
            refine lv_iload_n hx hb dX7_coats_51 rfl (lv_at hl 4 rfl) ?_
            refine lv_iload_n hx hb dX7_coats_52 rfl (lv_at hl 5 rfl) ?_
            obtain ⟨S53, hq53, hd⟩ := dn_b1 hd
            have hF := k_self hD hS hA
            refine k_run_v (va_runV (As := [.int p1, .int p2, .int p3]) (rest := []) ⟨hx, hb, hml, hown, hts⟩ (mX7_layPairs l D cs a S L p1 p2 p3 S53 hq53 _) (cwV 3 hts gX7_coats_X7_layPairs rfl rfl rfl (by decide +kernel) ⟨Nat.le_of_ble_eq_true rfl, Nat.le_of_ble_eq_true rfl⟩) ⟨k_blind, va_recv hK hP (ci := 5) (q0 := 0) rfl rfl, k_pre hP hK hNn hD⟩ rfl rfl hl.1 rfl (lv_room (Nat.le_of_ble_eq_true rfl)) dX7_coats_53 ⟨Nat.le_of_ble_eq_true rfl, Nat.le_of_ble_eq_true rfl⟩) hS hF (fun H locs hP1 hk hS => ?_)
            have hP : va_P D vwCl (wX7 cs a S53 L) _ := hP1
            have hD := hDA S53 L
            refine lv_iconst (v := (0 : Int32)) hx hb dX7_coats_56 (by decide) ?_
            refine lv_istore (lv' := [(7, .int (0 : Int32)), (6, .int (-5 : Int32)), (5, .int (0 : Int32)), (0, .ref (a 0)), (1, .int p1), (2, .int p2), (3, .int p3), (4, .int p4)]) hx hb dX7_coats_57 hl (by decide) rfl (fun ls hl => ?_)
            exact Lo59 1000 (0 : Int32) (-5 : Int32) (0 : Int32) S53 _ _ _ hd (lv_sub hl [3, 7, 2, 1, 0] rfl) hP hS
          · have hd := dn_f c32 hd
            exact Jo35 S _ _ _ hd (lv_sub hl [0] rfl) hP hS
-- LeastNeedModel.fraction(JJ)V
set_option maxRecDepth 20000 in
def nX7_fraction_l6 (p1 : Int64) (p3 : Int64) (x5_6 : Int64) (x7_6 : Int64) (S : Nat → Nat → Int32) (L_6 : Nat → Nat → Int64) : Option ((Int64 × Int64) ⊕ ((Nat → Nat → Int64))) := if (lg_cmp x7_6 (0 : Int64)) = 0 then k_up (if x5_6 = 0 then none else if x5_6 = 0 then none else some (k_wl (k_wl L_6 0 4 (p1 / x5_6)) 0 5 (p3 / x5_6))) else if x7_6 = 0 then none else some (.inl (x7_6, (x5_6 - x5_6 / x7_6 * x7_6)))
set_option maxRecDepth 20000 in
def nX7_fraction (S : Nat → Nat → Int32) (L : Nat → Nat → Int64) (p1 : Int64) (p3 : Int64) : Option ((Nat → Nat → Int64)) := k_it (fun st => nX7_fraction_l6 p1 p3 st.1 st.2 S L) 1000 (p1, p3)
set_option maxHeartbeats 4000000 in
set_option maxRecDepth 100000 in
theorem mX7_fraction (l : Launch) (D : va_G) (cs : Nat → ClassId) (a : Nat → Nat) (S : Nat → Nat → Int32) (L : Nat → Nat → Int64) (p1 : Int64) (p3 : Int64) (L9 : (Nat → Nat → Int64)) (hd : nX7_fraction S L p1 p3 = some L9) : ∀ sz : Nat, Met l yX7_fraction wsX7_fraction ({ frames := 0, cells := 0, slots := 0, locals := 0 }) (k_Pc D cs [.ref (a 0), .long p1, .long p3] (wX7 cs a S L) sz) (k_Qv D (wX7 cs a S L) (wX7 cs a S L9) sz) 0 0 (va_A (wX7 cs a S L) sz) := by
  intro sz
  refine Met.ofW (cc := cX7_fraction) (maxL := 11) (ret := none) (by decide) rfl ?_
  intro p e s m args below meth c s₁ B hml hv
  obtain ⟨rfl, hsz, hP, hK, hD0, hNn⟩ := hv
  have hx := B.exec
  have hb := B.bytes
  have hr := B.returns
  have hts := atoms_spec (ws := wsX7_fraction) B.pre
  have hown : s.vm.findClass RX7 = some m.cls := findClass_of_methodNamed B.named
  have hlocks := B.notSynchronized
  subst hsz
  obtain ⟨A, hAe⟩ : ∃ A : Nat → Prop, A = va_A (wX7 cs a S L) s.heap.size := ⟨_, rfl⟩
  have hD : va_D A (wX7 cs a S L) := by rw [hAe]; exact hD0.self
  have hA : ∀ q : Nat, s.heap.size ≤ q → A q := fun q h => by rw [hAe]; exact Or.inr h
  have hS : va_S A s.heap s.heap [] := va_S.rf
  have hDA : ∀ (S : Nat → Nat → Int32) (L : Nat → Nat → Int64), va_D A (wX7 cs a S L) := fun S L => k_DA hD rfl
  have hl := lv_entry ([.ref (a 0), .long p1, .long p3]) (n := 11) (Nat.le_of_ble_eq_true rfl)
  rw [lg_entry_eq]
  generalize (lg_sl ([.ref (a 0), .long p1, .long p3]) ++ List.replicate (11 - (lg_sl ([.ref (a 0), .long p1, .long p3])).length) Slot.unset).toArray = ls at hl ⊢
  have hl : lv_has ls 11 [(0, .ref (a 0)), (1, .long p1), (3, .long p3)] := hl
  obtain ⟨Q, hQ⟩ : ∃ Q, Q = MQ below (k_Qv D (wX7 cs a S L) (wX7 cs a S L9) s.heap.size) ([.ref (a 0), .long p1, .long p3] : List Value).toArray s 0 0 (va_A (wX7 cs a S L) s.heap.size) := ⟨_, rfl⟩
  rw [← hQ]
  have Lo6 : ∀ (n1 : Nat) (x5_6 : Int64) (x7_6 : Int64) (L_6 : Nat → Nat → Int64) (H : Heap) (locs : List Loc) (ls : Array Slot), k_it (fun st => nX7_fraction_l6 p1 p3 st.1 st.2 S L_6) n1 (x5_6, x7_6) = some L9 → lv_has ls 11 [(0, .ref (a 0)), (1, .long p1), (3, .long p3), (5, .long x5_6), (7, .long x7_6)] → va_P D vwCl (wX7 cs a S L_6) H → va_S A s.heap H locs → W p l e (headSpec wsX7_fraction ({ frames := 0, cells := 0, slots := 0, locals := 0 })).room s m ([.ref (a 0), .long p1, .long p3] : List Value).toArray below meth c H locs 0 0 Q (F0 m 6 ls []) := by
    intro n1
    induction n1 with
    | zero => intro x5_6 x7_6 L_6 H locs ls hd; exact dn_it0 hd
    | succ n1 ih1 =>
      intro x5_6 x7_6 L_6 H locs ls hd hl hP hS
      have hD := hDA S L_6
      obtain ⟨y1, hd, hy1⟩ := dn_it hd
      have hd : nX7_fraction_l6 p1 p3 x5_6 x7_6 S L_6 = some y1 := hd
      unfold nX7_fraction_l6 at hd
      refine lv_lload hx hb dX7_fraction_6 (lv_at hl 4 rfl) ?_
      refine lv_lconst (v := (0 : Int64)) hx hb dX7_fraction_8 (by decide) ?_
      refine W.lcmp hx hb dX7_fraction_9 ?_
      refine lv_if_eq (tgt := 31) hx hb dX7_fraction_10 (by decide) (fun c10 => ?_) (fun c10 => ?_)
      · have hd := dn_t c10 hd
        have hd := dn_up hd hy1
        refine lv_aload_n hx hb dX7_fraction_31 rfl (lv_at hl 0 rfl) ?_
        refine lv_lload_n hx hb dX7_fraction_32 rfl (lv_at hl 1 rfl) ?_
        refine lv_lload hx hb dX7_fraction_33 (lv_at hl 3 rfl) ?_
        obtain ⟨hz35, hd⟩ := dn_n hd
        refine lv_ldiv hx hb dX7_fraction_35 hz35 ?_
        refine va_put (D := D) (ci := 5) (v := .long (p1 / x5_6)) (ty := .long) (C := RX7) (T := TX7) (N := 25) hx hb hts (fun w h => List.mem_cons_of_mem _ (List.mem_append_right _ h)) tyX7 tyX7_ok nmX7 hown hK hP hD hS 0 rfl rfl 4 (by decide) (hts (.fieldLink RX7 223 "LeastNeedModel" "above" "J") (List.mem_of_getElem? (i := 1) rfl)) (fun _ h9 => h9) rfl (by decide +kernel) rfl rfl (Nat.le_of_ble_eq_true rfl) dX7_fraction_36 (fun H locs hP hD hS => ?_)
        have hP : va_P D vwCl (wX7 cs a S (k_wl L_6 0 4 (p1 / x5_6))) _ := k_eq hP (wsX7_f0_4 cs a S L_6 (p1 / x5_6))
        have hD := hDA S (k_wl L_6 0 4 (p1 / x5_6))
        refine lv_aload_n hx hb dX7_fraction_39 rfl (lv_at hl 0 rfl) ?_
        refine lv_lload_n hx hb dX7_fraction_40 rfl (lv_at hl 2 rfl) ?_
        refine lv_lload hx hb dX7_fraction_41 (lv_at hl 3 rfl) ?_
        obtain ⟨hz43, hd⟩ := dn_n hd
        refine lv_ldiv hx hb dX7_fraction_43 hz43 ?_
        refine va_put (D := D) (ci := 5) (v := .long (p3 / x5_6)) (ty := .long) (C := RX7) (T := TX7) (N := 25) hx hb hts (fun w h => List.mem_cons_of_mem _ (List.mem_append_right _ h)) tyX7 tyX7_ok nmX7 hown hK hP hD hS 0 rfl rfl 5 (by decide) (hts (.fieldLink RX7 23 "LeastNeedModel" "below" "J") (List.mem_of_getElem? (i := 2) rfl)) (fun _ h9 => h9) rfl (by decide +kernel) rfl rfl (Nat.le_of_ble_eq_true rfl) dX7_fraction_44 (fun H locs hP hD hS => ?_)
        have hP : va_P D vwCl (wX7 cs a S (k_wl (k_wl L_6 0 4 (p1 / x5_6)) 0 5 (p3 / x5_6))) _ := k_eq hP (wsX7_f0_5 cs a S (k_wl L_6 0 4 (p1 / x5_6)) (p3 / x5_6))
        have hD := hDA S (k_wl (k_wl L_6 0 4 (p1 / x5_6)) 0 5 (p3 / x5_6))
        have e1 := dn_s1 hd
        exact k_vret hx hb hr hQ hAe (by rw [e1]) hP hS hlocks dX7_fraction_47
      · have hd := dn_f c10 hd
        refine lv_lload hx hb dX7_fraction_13 (lv_at hl 3 rfl) ?_
        refine lv_lload hx hb dX7_fraction_15 (lv_at hl 4 rfl) ?_
        obtain ⟨hz17, hd⟩ := dn_n hd
        refine lv_lrem hx hb dX7_fraction_17 hz17 ?_
        refine lv_lstore (lv' := [(9, .long (x5_6 - x5_6 / x7_6 * x7_6)), (0, .ref (a 0)), (1, .long p1), (3, .long p3), (5, .long x5_6), (7, .long x7_6)]) hx hb dX7_fraction_18 hl (by decide) rfl (fun ls hl => ?_)
        refine lv_lload hx hb dX7_fraction_20 (lv_at hl 5 rfl) ?_
        refine lv_lstore (lv' := [(5, .long x7_6), (9, .long (x5_6 - x5_6 / x7_6 * x7_6)), (0, .ref (a 0)), (1, .long p1), (3, .long p3), (7, .long x7_6)]) hx hb dX7_fraction_22 hl (by decide) rfl (fun ls hl => ?_)
        refine lv_lload hx hb dX7_fraction_24 (lv_at hl 1 rfl) ?_
        refine lv_lstore (lv' := [(7, .long (x5_6 - x5_6 / x7_6 * x7_6)), (5, .long x7_6), (9, .long (x5_6 - x5_6 / x7_6 * x7_6)), (0, .ref (a 0)), (1, .long p1), (3, .long p3)]) hx hb dX7_fraction_26 hl (by decide) rfl (fun ls hl => ?_)
        refine lv_goto (tgt := 6) hx hb dX7_fraction_28 (by decide) ?_
        exact ih1 x7_6 (x5_6 - x5_6 / x7_6 * x7_6) L_6 _ _ _ (dn_bk hd hy1) (lv_sub hl [3, 4, 5, 1, 0] rfl) hP hS
  unfold nX7_fraction at hd
  refine lv_lload_n hx hb dX7_fraction_0 rfl (lv_at hl 1 rfl) ?_
  refine lv_lstore (lv' := [(5, .long p1), (0, .ref (a 0)), (1, .long p1), (3, .long p3)]) hx hb dX7_fraction_1 hl (by decide) rfl (fun ls hl => ?_)
  refine lv_lload_n hx hb dX7_fraction_3 rfl (lv_at hl 3 rfl) ?_
  refine lv_lstore (lv' := [(7, .long p3), (5, .long p1), (0, .ref (a 0)), (1, .long p1), (3, .long p3)]) hx hb dX7_fraction_4 hl (by decide) rfl (fun ls hl => ?_)
  exact Lo6 1000 p1 p3 L _ _ _ hd (lv_sub hl [2, 3, 4, 1, 0] rfl) hP hS
-- LeastNeedModel.goOdds(III)V
set_option maxRecDepth 20000 in
def nX7_goOdds_l148 (x4_148 : Int32) (S : Nat → Nat → Int32) (L_148 : Nat → Nat → Int64) : Option ((Int32 × (Nat → Nat → Int64)) ⊕ ((Nat → Nat → Int64))) := if (14 : Int32) ≤ x4_148 then k_up (some L_148) else if x4_148 < 0 ∨ 14 ≤ x4_148.toNatClampNeg then none else if x4_148 < 0 ∨ 14 ≤ x4_148.toNatClampNeg then none else some (.inl ((x4_148 + (1 : Int32)), (k_wl L_148 13 x4_148.toNatClampNeg (L_148 14 x4_148.toNatClampNeg))))
set_option maxRecDepth 20000 in
def nX7_goOdds_i27_j110 (p1 : Int32) (p2 : Int32) (p3 : Int32) (x4_110 : Int32) (w0_110 : Int32) (S : Nat → Nat → Int32) (L_110 : Nat → Nat → Int64) : Option ((Int32 × (Nat → Nat → Int64)) ⊕ ((Nat → Nat → Int64))) := if w0_110 < 0 ∨ 14 ≤ w0_110.toNatClampNeg then none else if x4_110 < 0 ∨ 14 ≤ x4_110.toNatClampNeg then none else if ((7 : Int32) + x4_110) < 0 ∨ 14 ≤ ((7 : Int32) + x4_110).toNatClampNeg then none else if w0_110 < 0 ∨ 14 ≤ w0_110.toNatClampNeg then none else some (.inl ((x4_110 + (1 : Int32)), (k_wl L_110 14 w0_110.toNatClampNeg ((L_110 14 w0_110.toNatClampNeg) + (((L_110 13 x4_110.toNatClampNeg) * p3.toInt64) + ((L_110 13 ((7 : Int32) + x4_110).toNatClampNeg) * (10 : Int64)))))))
set_option maxRecDepth 20000 in
def nX7_goOdds_l27 (p1 : Int32) (p2 : Int32) (p3 : Int32) (x4_27 : Int32) (S : Nat → Nat → Int32) (L_27 : Nat → Nat → Int64) : Option ((Int32 × (Nat → Nat → Int64)) ⊕ ((Nat → Nat → Int64))) := k_b1 (nX7_many S L_27) (fun r30 => if r30 ≤ x4_27 then k_up (k_it (fun st => nX7_goOdds_l148 st.1 S st.2) 1000 ((0 : Int32), L_27)) else if ((65 : Int32) + p1) < 0 ∨ 284 ≤ ((65 : Int32) + p1).toNatClampNeg then none else if ((70 : Int32) + p1) < 0 ∨ 284 ≤ ((70 : Int32) + p1).toNatClampNeg then none else k_b1 (nX7_comesTo_1 S L_27 (S 1 ((65 : Int32) + p1).toNatClampNeg) (S 1 ((70 : Int32) + p1).toNatClampNeg) p2 x4_27) (fun r62 => if x4_27 < 0 ∨ 14 ≤ x4_27.toNatClampNeg then none else if x4_27 < 0 ∨ 14 ≤ x4_27.toNatClampNeg then none else if x4_27 < 0 ∨ 14 ≤ x4_27.toNatClampNeg then none else if r62 = (-1 : Int32) then nX7_goOdds_i27_j110 p1 p2 p3 x4_27 ((7 : Int32) + x4_27) S (k_wl L_27 14 x4_27.toNatClampNeg ((L_27 14 x4_27.toNatClampNeg) + ((L_27 13 x4_27.toNatClampNeg) * (((10 : Int32) - p3).toInt64)))) else nX7_goOdds_i27_j110 p1 p2 p3 x4_27 r62 S (k_wl L_27 14 x4_27.toNatClampNeg ((L_27 14 x4_27.toNatClampNeg) + ((L_27 13 x4_27.toNatClampNeg) * (((10 : Int32) - p3).toInt64))))))
set_option maxRecDepth 20000 in
def nX7_goOdds_l3 (p1 : Int32) (p2 : Int32) (p3 : Int32) (x4_3 : Int32) (S : Nat → Nat → Int32) (L_3 : Nat → Nat → Int64) : Option ((Int32 × (Nat → Nat → Int64)) ⊕ ((Nat → Nat → Int64))) := if (14 : Int32) ≤ x4_3 then k_up (k_it (fun st => nX7_goOdds_l27 p1 p2 p3 st.1 S st.2) 1000 ((0 : Int32), L_3)) else if x4_3 < 0 ∨ 14 ≤ x4_3.toNatClampNeg then none else some (.inl ((x4_3 + (1 : Int32)), (k_wl L_3 14 x4_3.toNatClampNeg (0 : Int64))))
set_option maxRecDepth 20000 in
def nX7_goOdds (S : Nat → Nat → Int32) (L : Nat → Nat → Int64) (p1 : Int32) (p2 : Int32) (p3 : Int32) : Option ((Nat → Nat → Int64)) := k_it (fun st => nX7_goOdds_l3 p1 p2 p3 st.1 S st.2) 1000 ((0 : Int32), L)
set_option maxHeartbeats 4000000 in
set_option maxRecDepth 100000 in
theorem mX7_goOdds (l : Launch) (D : va_G) (cs : Nat → ClassId) (a : Nat → Nat) (S : Nat → Nat → Int32) (L : Nat → Nat → Int64) (p1 : Int32) (p2 : Int32) (p3 : Int32) (L9 : (Nat → Nat → Int64)) (hd : nX7_goOdds S L p1 p2 p3 = some L9) : ∀ sz : Nat, Met l yX7_goOdds wsX7_goOdds ({ frames := 4, cells := 0, slots := 0, locals := 106 }) (k_Pc D cs [.ref (a 0), .int p1, .int p2, .int p3] (wX7 cs a S L) sz) (k_Qv D (wX7 cs a S L) (wX7 cs a S L9) sz) 0 0 (va_A (wX7 cs a S L) sz) := by
  intro sz
  refine Met.ofW (cc := cX7_goOdds) (maxL := 6) (ret := none) (by decide) rfl ?_
  intro p e s m args below meth c s₁ B hml hv
  obtain ⟨rfl, hsz, hP, hK, hD0, hNn⟩ := hv
  have hx := B.exec
  have hb := B.bytes
  have hr := B.returns
  have hts := atoms_spec (ws := wsX7_goOdds) B.pre
  have hown : s.vm.findClass RX7 = some m.cls := findClass_of_methodNamed B.named
  have hlocks := B.notSynchronized
  subst hsz
  obtain ⟨A, hAe⟩ : ∃ A : Nat → Prop, A = va_A (wX7 cs a S L) s.heap.size := ⟨_, rfl⟩
  have hD : va_D A (wX7 cs a S L) := by rw [hAe]; exact hD0.self
  have hA : ∀ q : Nat, s.heap.size ≤ q → A q := fun q h => by rw [hAe]; exact Or.inr h
  have hS : va_S A s.heap s.heap [] := va_S.rf
  have hDA : ∀ (S : Nat → Nat → Int32) (L : Nat → Nat → Int64), va_D A (wX7 cs a S L) := fun S L => k_DA hD rfl
  have hl := lv_entry ([.ref (a 0), .int p1, .int p2, .int p3]) (n := 6) (Nat.le_of_ble_eq_true rfl)
  rw [lg_entry_eq]
  generalize (lg_sl ([.ref (a 0), .int p1, .int p2, .int p3]) ++ List.replicate (6 - (lg_sl ([.ref (a 0), .int p1, .int p2, .int p3])).length) Slot.unset).toArray = ls at hl ⊢
  have hl : lv_has ls 6 [(0, .ref (a 0)), (1, .int p1), (2, .int p2), (3, .int p3)] := hl
  obtain ⟨Q, hQ⟩ : ∃ Q, Q = MQ below (k_Qv D (wX7 cs a S L) (wX7 cs a S L9) s.heap.size) ([.ref (a 0), .int p1, .int p2, .int p3] : List Value).toArray s 0 0 (va_A (wX7 cs a S L) s.heap.size) := ⟨_, rfl⟩
  rw [← hQ]
  have Lo148 : ∀ (n1 : Nat) (x4_148 : Int32) (L_148 : Nat → Nat → Int64) (H : Heap) (locs : List Loc) (ls : Array Slot), k_it (fun st => nX7_goOdds_l148 st.1 S st.2) n1 (x4_148, L_148) = some L9 → lv_has ls 6 [(0, .ref (a 0)), (4, .int x4_148)] → va_P D vwCl (wX7 cs a S L_148) H → va_S A s.heap H locs → W p l e (headSpec wsX7_goOdds ({ frames := 4, cells := 0, slots := 0, locals := 106 })).room s m ([.ref (a 0), .int p1, .int p2, .int p3] : List Value).toArray below meth c H locs 0 0 Q (F0 m 148 ls []) := by
    intro n1
    induction n1 with
    | zero => intro x4_148 L_148 H locs ls hd; exact dn_it0 hd
    | succ n1 ih1 =>
      intro x4_148 L_148 H locs ls hd hl hP hS
      have hD := hDA S L_148
      obtain ⟨y1, hd, hy1⟩ := dn_it hd
      have hd : nX7_goOdds_l148 x4_148 S L_148 = some y1 := hd
      unfold nX7_goOdds_l148 at hd
      refine lv_iload hx hb dX7_goOdds_148 (lv_at hl 1 rfl) ?_
      refine lv_bipush (v := (14 : Int32)) hx hb dX7_goOdds_150 (by decide) ?_
      refine lv_icmp_ge (tgt := 175) hx hb dX7_goOdds_152 (by decide) (fun c152 => ?_) (fun c152 => ?_)
      · have hd := dn_t c152 hd
        have hd := dn_up hd hy1
        have e1 := dn_s1 hd
        exact k_vret hx hb hr hQ hAe (by rw [e1]) hP hS hlocks dX7_goOdds_175
      · have hd := dn_f c152 hd
        refine lv_aload_n hx hb dX7_goOdds_155 rfl (lv_at hl 0 rfl) ?_
        refine va_get (D := D) (ci := 5) (v := .ref (a 13)) (C := RX7) (T := TX7) (N := 25) hx hb hts (fun w h => List.mem_cons_of_mem _ (List.mem_append_right _ h)) hown hK hP 0 rfl rfl 14 (by decide) (hts (.fieldLink RX7 51 "LeastNeedModel" "cases" "[J") (List.mem_of_getElem? (i := 3) rfl)) (fun _ h9 => h9) rfl dX7_goOdds_156 ?_
        refine lv_iload hx hb dX7_goOdds_159 (lv_at hl 1 rfl) ?_
        refine lv_aload_n hx hb dX7_goOdds_161 rfl (lv_at hl 0 rfl) ?_
        refine va_get (D := D) (ci := 5) (v := .ref (a 14)) (C := RX7) (T := TX7) (N := 25) hx hb hts (fun w h => List.mem_cons_of_mem _ (List.mem_append_right _ h)) hown hK hP 0 rfl rfl 15 (by decide) (hts (.fieldLink RX7 55 "LeastNeedModel" "then" "[J") (List.mem_of_getElem? (i := 1) rfl)) (fun _ h9 => h9) rfl dX7_goOdds_162 ?_
        refine lv_iload hx hb dX7_goOdds_165 (lv_at hl 1 rfl) ?_
        obtain ⟨hi167, hd⟩ := dn_i hd
        refine k_lald (D := D) (k := x4_148.toNatClampNeg) (by rfl) hx hb hK hP 14 2 rfl rfl hi167 dX7_goOdds_167 ?_
        obtain ⟨hi168, hd⟩ := dn_i hd
        refine k_last (D := D) (k := x4_148.toNatClampNeg) (by rfl) hx hb hK hP hD hS 13 2 rfl rfl hi168 dX7_goOdds_168 (fun H locs hP hD hS => ?_)
        have hP : va_P D vwCl (wX7 cs a S (k_wl L_148 13 x4_148.toNatClampNeg (L_148 14 x4_148.toNatClampNeg))) _ := k_eq hP (wsX7_a13 cs a S L_148 x4_148.toNatClampNeg (L_148 14 x4_148.toNatClampNeg))
        have hD := hDA S (k_wl L_148 13 x4_148.toNatClampNeg (L_148 14 x4_148.toNatClampNeg))
        refine lv_iinc (v := x4_148 + (1 : Int32)) (lv' := [(4, .int (x4_148 + (1 : Int32))), (0, .ref (a 0))]) hx hb dX7_goOdds_169 hl (k := 1) rfl rfl (by decide) rfl (fun ls hl => ?_)
        refine lv_goto (tgt := 148) hx hb dX7_goOdds_172 (by decide) ?_
        exact ih1 (x4_148 + (1 : Int32)) (k_wl L_148 13 x4_148.toNatClampNeg (L_148 14 x4_148.toNatClampNeg)) _ _ _ (dn_bk hd hy1) (lv_sub hl [1, 0] rfl) hP hS
  have Lo27 : ∀ (n1 : Nat) (x4_27 : Int32) (L_27 : Nat → Nat → Int64) (H : Heap) (locs : List Loc) (ls : Array Slot), k_it (fun st => nX7_goOdds_l27 p1 p2 p3 st.1 S st.2) n1 (x4_27, L_27) = some L9 → lv_has ls 6 [(0, .ref (a 0)), (1, .int p1), (2, .int p2), (3, .int p3), (4, .int x4_27)] → va_P D vwCl (wX7 cs a S L_27) H → va_S A s.heap H locs → W p l e (headSpec wsX7_goOdds ({ frames := 4, cells := 0, slots := 0, locals := 106 })).room s m ([.ref (a 0), .int p1, .int p2, .int p3] : List Value).toArray below meth c H locs 0 0 Q (F0 m 27 ls []) := by
    intro n1
    induction n1 with
    | zero => intro x4_27 L_27 H locs ls hd; exact dn_it0 hd
    | succ n1 ih1 =>
      intro x4_27 L_27 H locs ls hd hl hP hS
      have hD := hDA S L_27
      obtain ⟨y1, hd, hy1⟩ := dn_it hd
      have hd : nX7_goOdds_l27 p1 p2 p3 x4_27 S L_27 = some y1 := hd
      have Jo110 : ∀ (x4_110 : Int32) (w0_110 : Int32) (L_110 : Nat → Nat → Int64) (H : Heap) (locs : List Loc) (ls : Array Slot), nX7_goOdds_i27_j110 p1 p2 p3 x4_110 w0_110 S L_110 = some y1 → lv_has ls 6 [(0, .ref (a 0)), (1, .int p1), (2, .int p2), (3, .int p3), (4, .int x4_110)] → va_P D vwCl (wX7 cs a S L_110) H → va_S A s.heap H locs → W p l e (headSpec wsX7_goOdds ({ frames := 4, cells := 0, slots := 0, locals := 106 })).room s m ([.ref (a 0), .int p1, .int p2, .int p3] : List Value).toArray below meth c H locs 0 0 Q (F0 m 110 ls [.int w0_110, .ref (a 14)]) := by
        intro x4_110 w0_110 L_110 H locs ls hd hl hP hS
        have hD := hDA S L_110
        unfold nX7_goOdds_i27_j110 at hd
        refine lv_dup2_11 hx hb dX7_goOdds_110 rfl rfl ?_
        obtain ⟨hi111, hd⟩ := dn_i hd
        refine k_lald (D := D) (k := w0_110.toNatClampNeg) (by rfl) hx hb hK hP 14 2 rfl rfl hi111 dX7_goOdds_111 ?_
        refine lv_aload_n hx hb dX7_goOdds_112 rfl (lv_at hl 0 rfl) ?_
        refine va_get (D := D) (ci := 5) (v := .ref (a 13)) (C := RX7) (T := TX7) (N := 25) hx hb hts (fun w h => List.mem_cons_of_mem _ (List.mem_append_right _ h)) hown hK hP 0 rfl rfl 14 (by decide) (hts (.fieldLink RX7 51 "LeastNeedModel" "cases" "[J") (List.mem_of_getElem? (i := 3) rfl)) (fun _ h9 => h9) rfl dX7_goOdds_113 ?_
        refine lv_iload hx hb dX7_goOdds_116 (lv_at hl 4 rfl) ?_
        obtain ⟨hi118, hd⟩ := dn_i hd
        refine k_lald (D := D) (k := x4_110.toNatClampNeg) (by rfl) hx hb hK hP 13 2 rfl rfl hi118 dX7_goOdds_118 ?_
        refine lv_iload_n hx hb dX7_goOdds_119 rfl (lv_at hl 3 rfl) ?_
        refine lv_i2l hx hb dX7_goOdds_120 rfl ?_
        refine lv_lmul hx hb dX7_goOdds_121 ?_
        refine lv_aload_n hx hb dX7_goOdds_122 rfl (lv_at hl 0 rfl) ?_
        refine va_get (D := D) (ci := 5) (v := .ref (a 13)) (C := RX7) (T := TX7) (N := 25) hx hb hts (fun w h => List.mem_cons_of_mem _ (List.mem_append_right _ h)) hown hK hP 0 rfl rfl 14 (by decide) (hts (.fieldLink RX7 51 "LeastNeedModel" "cases" "[J") (List.mem_of_getElem? (i := 3) rfl)) (fun _ h9 => h9) rfl dX7_goOdds_123 ?_
        refine lv_bipush (v := (7 : Int32)) hx hb dX7_goOdds_126 (by decide) ?_
        refine lv_iload hx hb dX7_goOdds_128 (lv_at hl 4 rfl) ?_
        refine lv_iadd hx hb dX7_goOdds_130 ?_
        obtain ⟨hi131, hd⟩ := dn_i hd
        refine k_lald (D := D) (k := ((7 : Int32) + x4_110).toNatClampNeg) (by rfl) hx hb hK hP 13 2 rfl rfl hi131 dX7_goOdds_131 ?_
        refine lv_ldc2 (v := (10 : Int64)) hx hb hown (hts (.constantLong RX7 226 (10)) (List.mem_of_getElem? (i := 4) rfl)) dX7_goOdds_132 ?_
        refine lv_lmul hx hb dX7_goOdds_135 ?_
        refine lv_ladd hx hb dX7_goOdds_136 ?_
        refine lv_ladd hx hb dX7_goOdds_137 ?_
        obtain ⟨hi138, hd⟩ := dn_i hd
        refine k_last (D := D) (k := w0_110.toNatClampNeg) (by rfl) hx hb hK hP hD hS 14 2 rfl rfl hi138 dX7_goOdds_138 (fun H locs hP hD hS => ?_)
        have hP : va_P D vwCl (wX7 cs a S (k_wl L_110 14 w0_110.toNatClampNeg ((L_110 14 w0_110.toNatClampNeg) + (((L_110 13 x4_110.toNatClampNeg) * p3.toInt64) + ((L_110 13 ((7 : Int32) + x4_110).toNatClampNeg) * (10 : Int64)))))) _ := k_eq hP (wsX7_a14 cs a S L_110 w0_110.toNatClampNeg ((L_110 14 w0_110.toNatClampNeg) + (((L_110 13 x4_110.toNatClampNeg) * p3.toInt64) + ((L_110 13 ((7 : Int32) + x4_110).toNatClampNeg) * (10 : Int64)))))
        have hD := hDA S (k_wl L_110 14 w0_110.toNatClampNeg ((L_110 14 w0_110.toNatClampNeg) + (((L_110 13 x4_110.toNatClampNeg) * p3.toInt64) + ((L_110 13 ((7 : Int32) + x4_110).toNatClampNeg) * (10 : Int64)))))
        refine lv_iinc (v := x4_110 + (1 : Int32)) (lv' := [(4, .int (x4_110 + (1 : Int32))), (0, .ref (a 0)), (1, .int p1), (2, .int p2), (3, .int p3)]) hx hb dX7_goOdds_139 hl (k := 4) rfl rfl (by decide) rfl (fun ls hl => ?_)
        refine lv_goto (tgt := 27) hx hb dX7_goOdds_142 (by decide) ?_
        exact ih1 (x4_110 + (1 : Int32)) (k_wl L_110 14 w0_110.toNatClampNeg ((L_110 14 w0_110.toNatClampNeg) + (((L_110 13 x4_110.toNatClampNeg) * p3.toInt64) + ((L_110 13 ((7 : Int32) + x4_110).toNatClampNeg) * (10 : Int64))))) _ _ _ (dn_bk hd hy1) (lv_sub hl [1, 2, 3, 4, 0] rfl) hP hS
      unfold nX7_goOdds_l27 at hd
      refine lv_iload hx hb dX7_goOdds_27 (lv_at hl 4 rfl) ?_
      refine lv_aload_n hx hb dX7_goOdds_29 rfl (lv_at hl 0 rfl) ?_
      obtain ⟨r30, hq30, hd⟩ := dn_b1 hd
      have hF := k_self hD hS hA
      refine k_run_i (va_runV (As := []) (rest := [.int x4_27]) ⟨hx, hb, hml, hown, hts⟩ (mX7_many l D cs a S L_27 r30 hq30 _) (cwV 0 hts gX7_goOdds_X7_many rfl rfl rfl (by decide +kernel) ⟨Nat.le_of_ble_eq_true rfl, Nat.le_of_ble_eq_true rfl⟩) ⟨k_blind, va_recv hK hP (ci := 5) (q0 := 0) rfl rfl, k_pre hP hK hNn hD⟩ rfl rfl hl.1 rfl (lv_room (Nat.le_of_ble_eq_true rfl)) dX7_goOdds_30 ⟨Nat.le_of_ble_eq_true rfl, Nat.le_of_ble_eq_true rfl⟩) hS hF (fun H locs hP1 hk hS => ?_)
      have hP : va_P D vwCl (wX7 cs a S L_27) _ := hP1
      have hD := hDA S L_27
      refine lv_icmp_ge (tgt := 145) hx hb dX7_goOdds_33 (by decide) (fun c33 => ?_) (fun c33 => ?_)
      · have hd := dn_t c33 hd
        have hd := dn_up hd hy1
        refine lv_iconst (v := (0 : Int32)) hx hb dX7_goOdds_145 (by decide) ?_
        refine lv_istore (lv' := [(4, .int (0 : Int32)), (0, .ref (a 0)), (1, .int p1), (2, .int p2), (3, .int p3)]) hx hb dX7_goOdds_146 hl (by decide) rfl (fun ls hl => ?_)
        exact Lo148 1000 (0 : Int32) L_27 _ _ _ hd (lv_sub hl [1, 0] rfl) hP hS
      · have hd := dn_f c33 hd
        refine lv_aload_n hx hb dX7_goOdds_36 rfl (lv_at hl 0 rfl) ?_
        refine lv_aload_n hx hb dX7_goOdds_37 rfl (lv_at hl 0 rfl) ?_
        refine va_get (D := D) (ci := 5) (v := .ref (a 1)) (C := RX7) (T := TX7) (N := 25) hx hb hts (fun w h => List.mem_cons_of_mem _ (List.mem_append_right _ h)) hown hK hP 0 rfl rfl 0 (by decide) (hts (.fieldLink RX7 7 "LeastNeedModel" "told" "[I") (List.mem_of_getElem? (i := 2) rfl)) (fun _ h9 => h9) rfl dX7_goOdds_38 ?_
        refine lv_aload_n hx hb dX7_goOdds_41 rfl (lv_at hl 0 rfl) ?_
        refine va_get (D := D) (ci := 5) (v := .ref (a 1)) (C := RX7) (T := TX7) (N := 25) hx hb hts (fun w h => List.mem_cons_of_mem _ (List.mem_append_right _ h)) hown hK hP 0 rfl rfl 0 (by decide) (hts (.fieldLink RX7 7 "LeastNeedModel" "told" "[I") (List.mem_of_getElem? (i := 2) rfl)) (fun _ h9 => h9) rfl dX7_goOdds_42 ?_
        refine lv_bipush (v := (65 : Int32)) hx hb dX7_goOdds_45 (by decide) ?_
        refine lv_iload_n hx hb dX7_goOdds_47 rfl (lv_at hl 1 rfl) ?_
        refine lv_iadd hx hb dX7_goOdds_48 ?_
        obtain ⟨hi49, hd⟩ := dn_i hd
        refine k_iald (D := D) (k := ((65 : Int32) + p1).toNatClampNeg) (by rfl) hx hb hK hP 1 1 rfl rfl hi49 dX7_goOdds_49 ?_
        refine lv_aload_n hx hb dX7_goOdds_50 rfl (lv_at hl 0 rfl) ?_
        refine va_get (D := D) (ci := 5) (v := .ref (a 1)) (C := RX7) (T := TX7) (N := 25) hx hb hts (fun w h => List.mem_cons_of_mem _ (List.mem_append_right _ h)) hown hK hP 0 rfl rfl 0 (by decide) (hts (.fieldLink RX7 7 "LeastNeedModel" "told" "[I") (List.mem_of_getElem? (i := 2) rfl)) (fun _ h9 => h9) rfl dX7_goOdds_51 ?_
        refine lv_bipush (v := (70 : Int32)) hx hb dX7_goOdds_54 (by decide) ?_
        refine lv_iload_n hx hb dX7_goOdds_56 rfl (lv_at hl 1 rfl) ?_
        refine lv_iadd hx hb dX7_goOdds_57 ?_
        obtain ⟨hi58, hd⟩ := dn_i hd
        refine k_iald (D := D) (k := ((70 : Int32) + p1).toNatClampNeg) (by rfl) hx hb hK hP 1 1 rfl rfl hi58 dX7_goOdds_58 ?_
        refine lv_iload_n hx hb dX7_goOdds_59 rfl (lv_at hl 2 rfl) ?_
        refine lv_iload hx hb dX7_goOdds_60 (lv_at hl 4 rfl) ?_
        obtain ⟨r62, hq62, hd⟩ := dn_b1 hd
        have hF := k_self hD hS hA
        refine k_run_i (va_runV (As := [.ref (a 1), .int (S 1 ((65 : Int32) + p1).toNatClampNeg), .int (S 1 ((70 : Int32) + p1).toNatClampNeg), .int p2, .int x4_27]) (rest := []) ⟨hx, hb, hml, hown, hts⟩ (mX7_comesTo_1 l D cs a S L_27 (S 1 ((65 : Int32) + p1).toNatClampNeg) (S 1 ((70 : Int32) + p1).toNatClampNeg) p2 x4_27 r62 hq62 _) (cwV 5 hts gX7_goOdds_X7_comesTo rfl rfl rfl (by decide +kernel) ⟨Nat.le_of_ble_eq_true rfl, Nat.le_of_ble_eq_true rfl⟩) ⟨k_blind, va_recv hK hP (ci := 5) (q0 := 0) rfl rfl, k_pre hP hK hNn hD⟩ rfl rfl hl.1 rfl (lv_room (Nat.le_of_ble_eq_true rfl)) dX7_goOdds_62 ⟨Nat.le_of_ble_eq_true rfl, Nat.le_of_ble_eq_true rfl⟩) hS hF (fun H locs hP1 hk hS => ?_)
        have hP : va_P D vwCl (wX7 cs a S L_27) _ := hP1
        have hD := hDA S L_27
        refine lv_istore (lv' := [(5, .int r62), (0, .ref (a 0)), (1, .int p1), (2, .int p2), (3, .int p3), (4, .int x4_27)]) hx hb dX7_goOdds_65 hl (by decide) rfl (fun ls hl => ?_)
        refine lv_aload_n hx hb dX7_goOdds_67 rfl (lv_at hl 1 rfl) ?_
        refine va_get (D := D) (ci := 5) (v := .ref (a 14)) (C := RX7) (T := TX7) (N := 25) hx hb hts (fun w h => List.mem_cons_of_mem _ (List.mem_append_right _ h)) hown hK hP 0 rfl rfl 15 (by decide) (hts (.fieldLink RX7 55 "LeastNeedModel" "then" "[J") (List.mem_of_getElem? (i := 1) rfl)) (fun _ h9 => h9) rfl dX7_goOdds_68 ?_
        refine lv_iload hx hb dX7_goOdds_71 (lv_at hl 5 rfl) ?_
        refine lv_dup2_11 hx hb dX7_goOdds_73 rfl rfl ?_
        obtain ⟨hi74, hd⟩ := dn_i hd
        refine k_lald (D := D) (k := x4_27.toNatClampNeg) (by rfl) hx hb hK hP 14 2 rfl rfl hi74 dX7_goOdds_74 ?_
        refine lv_aload_n hx hb dX7_goOdds_75 rfl (lv_at hl 1 rfl) ?_
        refine va_get (D := D) (ci := 5) (v := .ref (a 13)) (C := RX7) (T := TX7) (N := 25) hx hb hts (fun w h => List.mem_cons_of_mem _ (List.mem_append_right _ h)) hown hK hP 0 rfl rfl 14 (by decide) (hts (.fieldLink RX7 51 "LeastNeedModel" "cases" "[J") (List.mem_of_getElem? (i := 3) rfl)) (fun _ h9 => h9) rfl dX7_goOdds_76 ?_
        refine lv_iload hx hb dX7_goOdds_79 (lv_at hl 5 rfl) ?_
        obtain ⟨hi81, hd⟩ := dn_i hd
        refine k_lald (D := D) (k := x4_27.toNatClampNeg) (by rfl) hx hb hK hP 13 2 rfl rfl hi81 dX7_goOdds_81 ?_
        refine lv_bipush (v := (10 : Int32)) hx hb dX7_goOdds_82 (by decide) ?_
        refine lv_iload_n hx hb dX7_goOdds_84 rfl (lv_at hl 4 rfl) ?_
        refine lv_isub hx hb dX7_goOdds_85 ?_
        refine lv_i2l hx hb dX7_goOdds_86 rfl ?_
        refine lv_lmul hx hb dX7_goOdds_87 ?_
        refine lv_ladd hx hb dX7_goOdds_88 ?_
        obtain ⟨hi89, hd⟩ := dn_i hd
        refine k_last (D := D) (k := x4_27.toNatClampNeg) (by rfl) hx hb hK hP hD hS 14 2 rfl rfl hi89 dX7_goOdds_89 (fun H locs hP hD hS => ?_)
        have hP : va_P D vwCl (wX7 cs a S (k_wl L_27 14 x4_27.toNatClampNeg ((L_27 14 x4_27.toNatClampNeg) + ((L_27 13 x4_27.toNatClampNeg) * (((10 : Int32) - p3).toInt64))))) _ := k_eq hP (wsX7_a14 cs a S L_27 x4_27.toNatClampNeg ((L_27 14 x4_27.toNatClampNeg) + ((L_27 13 x4_27.toNatClampNeg) * (((10 : Int32) - p3).toInt64))))
        have hD := hDA S (k_wl L_27 14 x4_27.toNatClampNeg ((L_27 14 x4_27.toNatClampNeg) + ((L_27 13 x4_27.toNatClampNeg) * (((10 : Int32) - p3).toInt64))))
        refine lv_aload_n hx hb dX7_goOdds_90 rfl (lv_at hl 1 rfl) ?_
        refine va_get (D := D) (ci := 5) (v := .ref (a 14)) (C := RX7) (T := TX7) (N := 25) hx hb hts (fun w h => List.mem_cons_of_mem _ (List.mem_append_right _ h)) hown hK hP 0 rfl rfl 15 (by decide) (hts (.fieldLink RX7 55 "LeastNeedModel" "then" "[J") (List.mem_of_getElem? (i := 1) rfl)) (fun _ h9 => h9) rfl dX7_goOdds_91 ?_
        refine lv_iload hx hb dX7_goOdds_94 (lv_at hl 0 rfl) ?_
        refine lv_iconst (v := (-1 : Int32)) hx hb dX7_goOdds_96 (by decide) ?_
        refine lv_icmp_ne (tgt := 108) hx hb dX7_goOdds_97 (by decide) (fun c97 => ?_) (fun c97 => ?_)
        · have hd := dn_f c97 hd
          refine lv_iload hx hb dX7_goOdds_108 (lv_at hl 0 rfl) ?_
          exact Jo110 x4_27 r62 (k_wl L_27 14 x4_27.toNatClampNeg ((L_27 14 x4_27.toNatClampNeg) + ((L_27 13 x4_27.toNatClampNeg) * (((10 : Int32) - p3).toInt64)))) _ _ _ hd (lv_sub hl [1, 2, 3, 4, 5] rfl) hP hS
        · have hd := dn_t c97 hd
          refine lv_bipush (v := (7 : Int32)) hx hb dX7_goOdds_100 (by decide) ?_
          refine lv_iload hx hb dX7_goOdds_102 (lv_at hl 5 rfl) ?_
          refine lv_iadd hx hb dX7_goOdds_104 ?_
          refine lv_goto (tgt := 110) hx hb dX7_goOdds_105 (by decide) ?_
          exact Jo110 x4_27 ((7 : Int32) + x4_27) (k_wl L_27 14 x4_27.toNatClampNeg ((L_27 14 x4_27.toNatClampNeg) + ((L_27 13 x4_27.toNatClampNeg) * (((10 : Int32) - p3).toInt64)))) _ _ _ hd (lv_sub hl [1, 2, 3, 4, 5] rfl) hP hS
  have Lo3 : ∀ (n1 : Nat) (x4_3 : Int32) (L_3 : Nat → Nat → Int64) (H : Heap) (locs : List Loc) (ls : Array Slot), k_it (fun st => nX7_goOdds_l3 p1 p2 p3 st.1 S st.2) n1 (x4_3, L_3) = some L9 → lv_has ls 6 [(0, .ref (a 0)), (1, .int p1), (2, .int p2), (3, .int p3), (4, .int x4_3)] → va_P D vwCl (wX7 cs a S L_3) H → va_S A s.heap H locs → W p l e (headSpec wsX7_goOdds ({ frames := 4, cells := 0, slots := 0, locals := 106 })).room s m ([.ref (a 0), .int p1, .int p2, .int p3] : List Value).toArray below meth c H locs 0 0 Q (F0 m 3 ls []) := by
    intro n1
    induction n1 with
    | zero => intro x4_3 L_3 H locs ls hd; exact dn_it0 hd
    | succ n1 ih1 =>
      intro x4_3 L_3 H locs ls hd hl hP hS
      have hD := hDA S L_3
      obtain ⟨y1, hd, hy1⟩ := dn_it hd
      have hd : nX7_goOdds_l3 p1 p2 p3 x4_3 S L_3 = some y1 := hd
      unfold nX7_goOdds_l3 at hd
      refine lv_iload hx hb dX7_goOdds_3 (lv_at hl 4 rfl) ?_
      refine lv_bipush (v := (14 : Int32)) hx hb dX7_goOdds_5 (by decide) ?_
      refine lv_icmp_ge (tgt := 24) hx hb dX7_goOdds_7 (by decide) (fun c7 => ?_) (fun c7 => ?_)
      · have hd := dn_t c7 hd
        have hd := dn_up hd hy1
        refine lv_iconst (v := (0 : Int32)) hx hb dX7_goOdds_24 (by decide) ?_
        refine lv_istore (lv' := [(4, .int (0 : Int32)), (0, .ref (a 0)), (1, .int p1), (2, .int p2), (3, .int p3)]) hx hb dX7_goOdds_25 hl (by decide) rfl (fun ls hl => ?_)
        exact Lo27 1000 (0 : Int32) L_3 _ _ _ hd (lv_sub hl [1, 2, 3, 4, 0] rfl) hP hS
      · have hd := dn_f c7 hd
        refine lv_aload_n hx hb dX7_goOdds_10 rfl (lv_at hl 0 rfl) ?_
        refine va_get (D := D) (ci := 5) (v := .ref (a 14)) (C := RX7) (T := TX7) (N := 25) hx hb hts (fun w h => List.mem_cons_of_mem _ (List.mem_append_right _ h)) hown hK hP 0 rfl rfl 15 (by decide) (hts (.fieldLink RX7 55 "LeastNeedModel" "then" "[J") (List.mem_of_getElem? (i := 1) rfl)) (fun _ h9 => h9) rfl dX7_goOdds_11 ?_
        refine lv_iload hx hb dX7_goOdds_14 (lv_at hl 4 rfl) ?_
        refine lv_lconst (v := (0 : Int64)) hx hb dX7_goOdds_16 (by decide) ?_
        obtain ⟨hi17, hd⟩ := dn_i hd
        refine k_last (D := D) (k := x4_3.toNatClampNeg) (by rfl) hx hb hK hP hD hS 14 2 rfl rfl hi17 dX7_goOdds_17 (fun H locs hP hD hS => ?_)
        have hP : va_P D vwCl (wX7 cs a S (k_wl L_3 14 x4_3.toNatClampNeg (0 : Int64))) _ := k_eq hP (wsX7_a14 cs a S L_3 x4_3.toNatClampNeg (0 : Int64))
        have hD := hDA S (k_wl L_3 14 x4_3.toNatClampNeg (0 : Int64))
        refine lv_iinc (v := x4_3 + (1 : Int32)) (lv' := [(4, .int (x4_3 + (1 : Int32))), (0, .ref (a 0)), (1, .int p1), (2, .int p2), (3, .int p3)]) hx hb dX7_goOdds_18 hl (k := 4) rfl rfl (by decide) rfl (fun ls hl => ?_)
        refine lv_goto (tgt := 3) hx hb dX7_goOdds_21 (by decide) ?_
        exact ih1 (x4_3 + (1 : Int32)) (k_wl L_3 14 x4_3.toNatClampNeg (0 : Int64)) _ _ _ (dn_bk hd hy1) (lv_sub hl [1, 2, 3, 4, 0] rfl) hP hS
  unfold nX7_goOdds at hd
  refine lv_iconst (v := (0 : Int32)) hx hb dX7_goOdds_0 (by decide) ?_
  refine lv_istore (lv' := [(4, .int (0 : Int32)), (0, .ref (a 0)), (1, .int p1), (2, .int p2), (3, .int p3)]) hx hb dX7_goOdds_1 hl (by decide) rfl (fun ls hl => ?_)
  exact Lo3 1000 (0 : Int32) L _ _ _ hd (lv_sub hl [1, 2, 3, 4, 0] rfl) hP hS
-- LeastNeedModel.odds(IIII)I
set_option maxRecDepth 20000 in
def nX7_odds_l126 (p1 : Int32) (p2 : Int32) (p3 : Int32) (p4 : Int32) (x5_126 : Int64) (x7_126 : Int32) (S_126 : Nat → Nat → Int32) (L_126 : Nat → Nat → Int64) : Option ((Int64 × Int32 × (Nat → Nat → Int64)) ⊕ (Int32 × (Nat → Nat → Int32) × (Nat → Nat → Int64))) := if p3 ≤ x7_126 then k_up (if p2 < 0 ∨ 14 ≤ p2.toNatClampNeg then none else k_b1 (nX7_fraction S_126 L_126 (L_126 13 p2.toNatClampNeg) x5_126) (fun L172 => some ((1 : Int32), S_126, L172))) else k_b1 (nX7_goOdds S_126 L_126 p1 ((S_126 1 22) + x7_126) p4) (fun L146 => some (.inl ((x5_126 * (10 : Int64)), (x7_126 + (1 : Int32)), L146)))
set_option maxRecDepth 20000 in
def nX7_odds_l62 (p1 : Int32) (p2 : Int32) (p3 : Int32) (p4 : Int32) (x5_62 : Int64) (x7_62 : Int32) (S_62 : Nat → Nat → Int32) (L_62 : Nat → Nat → Int64) : Option ((Int32 × (Nat → Nat → Int64)) ⊕ (Int32 × (Nat → Nat → Int32) × (Nat → Nat → Int64))) := if (14 : Int32) ≤ x7_62 then k_up (if ((10 : Int32) + p1) < 0 ∨ 284 ≤ ((10 : Int32) + p1).toNatClampNeg then none else if (S_62 1 ((10 : Int32) + p1).toNatClampNeg) = 0 then if ((5 : Int32) + p1) < 0 ∨ 284 ≤ ((5 : Int32) + p1).toNatClampNeg then none else if (S_62 1 ((5 : Int32) + p1).toNatClampNeg) < 0 ∨ 14 ≤ (S_62 1 ((5 : Int32) + p1).toNatClampNeg).toNatClampNeg then none else k_it (fun st => nX7_odds_l126 p1 p2 p3 p4 st.1 st.2.1 S_62 st.2.2) 1000 (x5_62, (0 : Int32), (k_wl L_62 13 ((S_62 1 ((5 : Int32) + p1).toNatClampNeg).toNatClampNeg) (1 : Int64))) else if ((5 : Int32) + p1) < 0 ∨ 284 ≤ ((5 : Int32) + p1).toNatClampNeg then none else if ((7 : Int32) + (S_62 1 ((5 : Int32) + p1).toNatClampNeg)) < 0 ∨ 14 ≤ ((7 : Int32) + (S_62 1 ((5 : Int32) + p1).toNatClampNeg)).toNatClampNeg then none else k_it (fun st => nX7_odds_l126 p1 p2 p3 p4 st.1 st.2.1 S_62 st.2.2) 1000 (x5_62, (0 : Int32), (k_wl L_62 13 (((7 : Int32) + (S_62 1 ((5 : Int32) + p1).toNatClampNeg)).toNatClampNeg) (1 : Int64)))) else if x7_62 < 0 ∨ 14 ≤ x7_62.toNatClampNeg then none else some (.inl ((x7_62 + (1 : Int32)), (k_wl L_62 13 x7_62.toNatClampNeg (0 : Int64))))
set_option maxRecDepth 20000 in
def nX7_odds_j41 (S_41 : Nat → Nat → Int32) (L_41 : Nat → Nat → Int64) : Option (Int32 × (Nat → Nat → Int32) × (Nat → Nat → Int64)) := k_b2 (nX7_bad S_41 L_41 (-2 : Int32)) (fun r44 S44 => some (r44, S44, L_41))
set_option maxRecDepth 20000 in
def nX7_odds (S : Nat → Nat → Int32) (L : Nat → Nat → Int64) (p1 : Int32) (p2 : Int32) (p3 : Int32) (p4 : Int32) : Option (Int32 × (Nat → Nat → Int32) × (Nat → Nat → Int64)) := k_b1 (nX7_isThing S L p1) (fun r2 => if r2 = 0 then nX7_odds_j41 S L else k_b1 (nX7_isOne S L p2) (fun r10 => if r10 = 0 then nX7_odds_j41 S L else k_b1 (nX7_in p3.toInt64 (0 : Int64) (7 : Int64)) (fun r22 => if r22 = 0 then nX7_odds_j41 S L else k_b1 (nX7_in p4.toInt64 (0 : Int64) (10 : Int64)) (fun r35 => if r35 = 0 then nX7_odds_j41 S L else k_b1 (nX7_layCoats_1 S L) (fun S56 => k_it (fun st => nX7_odds_l62 p1 p2 p3 p4 (1 : Int64) st.1 S56 st.2) 1000 ((0 : Int32), L))))))
set_option maxHeartbeats 4000000 in
set_option maxRecDepth 100000 in
theorem mX7_odds (l : Launch) (D : va_G) (cs : Nat → ClassId) (a : Nat → Nat) (S : Nat → Nat → Int32) (L : Nat → Nat → Int64) (p1 : Int32) (p2 : Int32) (p3 : Int32) (p4 : Int32) (r9 : Int32) (S9 : (Nat → Nat → Int32)) (L9 : (Nat → Nat → Int64)) (hd : nX7_odds S L p1 p2 p3 p4 = some (r9, S9, L9)) : ∀ sz : Nat, Met l yX7_odds wsX7_odds ({ frames := 5, cells := 0, slots := 0, locals := 131 }) (k_Pc D cs [.ref (a 0), .int p1, .int p2, .int p3, .int p4] (wX7 cs a S L) sz) (k_Qi D r9 (wX7 cs a S L) (wX7 cs a S9 L9) sz) 0 0 (va_A (wX7 cs a S L) sz) := by
  intro sz
  refine Met.ofW (cc := cX7_odds) (maxL := 8) (ret := (some .int)) (by decide) rfl ?_
  intro p e s m args below meth c s₁ B hml hv
  obtain ⟨rfl, hsz, hP, hK, hD0, hNn⟩ := hv
  have hx := B.exec
  have hb := B.bytes
  have hr := B.returns
  have hts := atoms_spec (ws := wsX7_odds) B.pre
  have hown : s.vm.findClass RX7 = some m.cls := findClass_of_methodNamed B.named
  have hlocks := B.notSynchronized
  subst hsz
  obtain ⟨A, hAe⟩ : ∃ A : Nat → Prop, A = va_A (wX7 cs a S L) s.heap.size := ⟨_, rfl⟩
  have hD : va_D A (wX7 cs a S L) := by rw [hAe]; exact hD0.self
  have hA : ∀ q : Nat, s.heap.size ≤ q → A q := fun q h => by rw [hAe]; exact Or.inr h
  have hS : va_S A s.heap s.heap [] := va_S.rf
  have hDA : ∀ (S : Nat → Nat → Int32) (L : Nat → Nat → Int64), va_D A (wX7 cs a S L) := fun S L => k_DA hD rfl
  have hl := lv_entry ([.ref (a 0), .int p1, .int p2, .int p3, .int p4]) (n := 8) (Nat.le_of_ble_eq_true rfl)
  rw [lg_entry_eq]
  generalize (lg_sl ([.ref (a 0), .int p1, .int p2, .int p3, .int p4]) ++ List.replicate (8 - (lg_sl ([.ref (a 0), .int p1, .int p2, .int p3, .int p4])).length) Slot.unset).toArray = ls at hl ⊢
  have hl : lv_has ls 8 [(0, .ref (a 0)), (1, .int p1), (2, .int p2), (3, .int p3), (4, .int p4)] := hl
  obtain ⟨Q, hQ⟩ : ∃ Q, Q = MQ below (k_Qi D r9 (wX7 cs a S L) (wX7 cs a S9 L9) s.heap.size) ([.ref (a 0), .int p1, .int p2, .int p3, .int p4] : List Value).toArray s 0 0 (va_A (wX7 cs a S L) s.heap.size) := ⟨_, rfl⟩
  rw [← hQ]
  have Lo126 : ∀ (n1 : Nat) (x5_126 : Int64) (x7_126 : Int32) (S_126 : Nat → Nat → Int32) (L_126 : Nat → Nat → Int64) (H : Heap) (locs : List Loc) (ls : Array Slot), k_it (fun st => nX7_odds_l126 p1 p2 p3 p4 st.1 st.2.1 S_126 st.2.2) n1 (x5_126, x7_126, L_126) = some (r9, S9, L9) → lv_has ls 8 [(0, .ref (a 0)), (1, .int p1), (2, .int p2), (3, .int p3), (4, .int p4), (5, .long x5_126), (7, .int x7_126)] → va_P D vwCl (wX7 cs a S_126 L_126) H → va_S A s.heap H locs → W p l e (headSpec wsX7_odds ({ frames := 5, cells := 0, slots := 0, locals := 131 })).room s m ([.ref (a 0), .int p1, .int p2, .int p3, .int p4] : List Value).toArray below meth c H locs 0 0 Q (F0 m 126 ls []) := by
    intro n1
    induction n1 with
    | zero => intro x5_126 x7_126 S_126 L_126 H locs ls hd; exact dn_it0 hd
    | succ n1 ih1 =>
      intro x5_126 x7_126 S_126 L_126 H locs ls hd hl hP hS
      have hD := hDA S_126 L_126
      obtain ⟨y1, hd, hy1⟩ := dn_it hd
      have hd : nX7_odds_l126 p1 p2 p3 p4 x5_126 x7_126 S_126 L_126 = some y1 := hd
      unfold nX7_odds_l126 at hd
      refine lv_iload hx hb dX7_odds_126 (lv_at hl 6 rfl) ?_
      refine lv_iload_n hx hb dX7_odds_128 rfl (lv_at hl 3 rfl) ?_
      refine lv_icmp_ge (tgt := 163) hx hb dX7_odds_129 (by decide) (fun c129 => ?_) (fun c129 => ?_)
      · have hd := dn_t c129 hd
        have hd := dn_up hd hy1
        refine lv_aload_n hx hb dX7_odds_163 rfl (lv_at hl 0 rfl) ?_
        refine lv_aload_n hx hb dX7_odds_164 rfl (lv_at hl 0 rfl) ?_
        refine va_get (D := D) (ci := 5) (v := .ref (a 13)) (C := RX7) (T := TX7) (N := 25) hx hb hts (fun w h => List.mem_cons_of_mem _ (List.mem_append_right _ h)) hown hK hP 0 rfl rfl 14 (by decide) (hts (.fieldLink RX7 51 "LeastNeedModel" "cases" "[J") (List.mem_of_getElem? (i := 4) rfl)) (fun _ h9 => h9) rfl dX7_odds_165 ?_
        refine lv_iload_n hx hb dX7_odds_168 rfl (lv_at hl 2 rfl) ?_
        obtain ⟨hi169, hd⟩ := dn_i hd
        refine k_lald (D := D) (k := p2.toNatClampNeg) (by rfl) hx hb hK hP 13 2 rfl rfl hi169 dX7_odds_169 ?_
        refine lv_lload hx hb dX7_odds_170 (lv_at hl 5 rfl) ?_
        obtain ⟨L172, hq172, hd⟩ := dn_b1 hd
        have hF := k_self hD hS hA
        refine k_run_v (va_runV (As := [.long (L_126 13 p2.toNatClampNeg), .long x5_126]) (rest := []) ⟨hx, hb, hml, hown, hts⟩ (mX7_fraction l D cs a S_126 L_126 (L_126 13 p2.toNatClampNeg) x5_126 L172 hq172 _) (cwV 2 hts gX7_odds_X7_fraction rfl rfl rfl (by decide +kernel) ⟨Nat.le_of_ble_eq_true rfl, Nat.le_of_ble_eq_true rfl⟩) ⟨k_blind, va_recv hK hP (ci := 5) (q0 := 0) rfl rfl, k_pre hP hK hNn hD⟩ rfl rfl hl.1 rfl (lv_room (Nat.le_of_ble_eq_true rfl)) dX7_odds_172 ⟨Nat.le_of_ble_eq_true rfl, Nat.le_of_ble_eq_true rfl⟩) hS hF (fun H locs hP1 hk hS => ?_)
        have hP : va_P D vwCl (wX7 cs a S_126 L172) _ := hP1
        have hD := hDA S_126 L172
        refine lv_iconst (v := (1 : Int32)) hx hb dX7_odds_175 (by decide) ?_
        obtain ⟨e1, e2, e3⟩ := dn_s3 hd
        exact k_iret hx hb hr hQ hAe e1 (by rw [← e2, ← e3]) hP hS hlocks dX7_odds_176
      · have hd := dn_f c129 hd
        refine lv_aload_n hx hb dX7_odds_132 rfl (lv_at hl 0 rfl) ?_
        refine lv_iload_n hx hb dX7_odds_133 rfl (lv_at hl 1 rfl) ?_
        refine lv_aload_n hx hb dX7_odds_134 rfl (lv_at hl 0 rfl) ?_
        refine va_get (D := D) (ci := 5) (v := .ref (a 1)) (C := RX7) (T := TX7) (N := 25) hx hb hts (fun w h => List.mem_cons_of_mem _ (List.mem_append_right _ h)) hown hK hP 0 rfl rfl 0 (by decide) (hts (.fieldLink RX7 7 "LeastNeedModel" "told" "[I") (List.mem_of_getElem? (i := 3) rfl)) (fun _ h9 => h9) rfl dX7_odds_135 ?_
        refine lv_bipush (v := (22 : Int32)) hx hb dX7_odds_138 (by decide) ?_
        refine k_iald (D := D) (k := 22) (by rfl) hx hb hK hP 1 1 rfl rfl (k_in (by decide)) dX7_odds_140 ?_
        refine lv_iload hx hb dX7_odds_141 (lv_at hl 6 rfl) ?_
        refine lv_iadd hx hb dX7_odds_143 ?_
        refine lv_iload hx hb dX7_odds_144 (lv_at hl 4 rfl) ?_
        obtain ⟨L146, hq146, hd⟩ := dn_b1 hd
        have hF := k_self hD hS hA
        refine k_run_v (va_runV (As := [.int p1, .int ((S_126 1 22) + x7_126), .int p4]) (rest := []) ⟨hx, hb, hml, hown, hts⟩ (mX7_goOdds l D cs a S_126 L_126 p1 ((S_126 1 22) + x7_126) p4 L146 hq146 _) (cwV 3 hts gX7_odds_X7_goOdds rfl rfl rfl (by decide +kernel) ⟨Nat.le_of_ble_eq_true rfl, Nat.le_of_ble_eq_true rfl⟩) ⟨k_blind, va_recv hK hP (ci := 5) (q0 := 0) rfl rfl, k_pre hP hK hNn hD⟩ rfl rfl hl.1 rfl (lv_room (Nat.le_of_ble_eq_true rfl)) dX7_odds_146 ⟨Nat.le_of_ble_eq_true rfl, Nat.le_of_ble_eq_true rfl⟩) hS hF (fun H locs hP1 hk hS => ?_)
        have hP : va_P D vwCl (wX7 cs a S_126 L146) _ := hP1
        have hD := hDA S_126 L146
        refine lv_lload hx hb dX7_odds_149 (lv_at hl 5 rfl) ?_
        refine lv_ldc2 (v := (10 : Int64)) hx hb hown (hts (.constantLong RX7 226 (10)) (List.mem_of_getElem? (i := 2) rfl)) dX7_odds_151 ?_
        refine lv_lmul hx hb dX7_odds_154 ?_
        refine lv_lstore (lv' := [(5, .long (x5_126 * (10 : Int64))), (0, .ref (a 0)), (1, .int p1), (2, .int p2), (3, .int p3), (4, .int p4), (7, .int x7_126)]) hx hb dX7_odds_155 hl (by decide) rfl (fun ls hl => ?_)
        refine lv_iinc (v := x7_126 + (1 : Int32)) (lv' := [(7, .int (x7_126 + (1 : Int32))), (5, .long (x5_126 * (10 : Int64))), (0, .ref (a 0)), (1, .int p1), (2, .int p2), (3, .int p3), (4, .int p4)]) hx hb dX7_odds_157 hl (k := 6) rfl rfl (by decide) rfl (fun ls hl => ?_)
        refine lv_goto (tgt := 126) hx hb dX7_odds_160 (by decide) ?_
        exact ih1 (x5_126 * (10 : Int64)) (x7_126 + (1 : Int32)) S_126 L146 _ _ _ (dn_bk hd hy1) (lv_sub hl [2, 3, 4, 5, 6, 1, 0] rfl) hP hS
  have Lo62 : ∀ (n1 : Nat) (x5_62 : Int64) (x7_62 : Int32) (S_62 : Nat → Nat → Int32) (L_62 : Nat → Nat → Int64) (H : Heap) (locs : List Loc) (ls : Array Slot), k_it (fun st => nX7_odds_l62 p1 p2 p3 p4 x5_62 st.1 S_62 st.2) n1 (x7_62, L_62) = some (r9, S9, L9) → lv_has ls 8 [(0, .ref (a 0)), (1, .int p1), (2, .int p2), (3, .int p3), (4, .int p4), (5, .long x5_62), (7, .int x7_62)] → va_P D vwCl (wX7 cs a S_62 L_62) H → va_S A s.heap H locs → W p l e (headSpec wsX7_odds ({ frames := 5, cells := 0, slots := 0, locals := 131 })).room s m ([.ref (a 0), .int p1, .int p2, .int p3, .int p4] : List Value).toArray below meth c H locs 0 0 Q (F0 m 62 ls []) := by
    intro n1
    induction n1 with
    | zero => intro x5_62 x7_62 S_62 L_62 H locs ls hd; exact dn_it0 hd
    | succ n1 ih1 =>
      intro x5_62 x7_62 S_62 L_62 H locs ls hd hl hP hS
      have hD := hDA S_62 L_62
      obtain ⟨y1, hd, hy1⟩ := dn_it hd
      have hd : nX7_odds_l62 p1 p2 p3 p4 x5_62 x7_62 S_62 L_62 = some y1 := hd
      unfold nX7_odds_l62 at hd
      refine lv_iload hx hb dX7_odds_62 (lv_at hl 6 rfl) ?_
      refine lv_bipush (v := (14 : Int32)) hx hb dX7_odds_64 (by decide) ?_
      refine lv_icmp_ge (tgt := 83) hx hb dX7_odds_66 (by decide) (fun c66 => ?_) (fun c66 => ?_)
      · have hd := dn_t c66 hd
        have hd := dn_up hd hy1
        refine lv_aload_n hx hb dX7_odds_83 rfl (lv_at hl 0 rfl) ?_
        refine va_get (D := D) (ci := 5) (v := .ref (a 13)) (C := RX7) (T := TX7) (N := 25) hx hb hts (fun w h => List.mem_cons_of_mem _ (List.mem_append_right _ h)) hown hK hP 0 rfl rfl 14 (by decide) (hts (.fieldLink RX7 51 "LeastNeedModel" "cases" "[J") (List.mem_of_getElem? (i := 4) rfl)) (fun _ h9 => h9) rfl dX7_odds_84 ?_
        refine lv_aload_n hx hb dX7_odds_87 rfl (lv_at hl 0 rfl) ?_
        refine va_get (D := D) (ci := 5) (v := .ref (a 1)) (C := RX7) (T := TX7) (N := 25) hx hb hts (fun w h => List.mem_cons_of_mem _ (List.mem_append_right _ h)) hown hK hP 0 rfl rfl 0 (by decide) (hts (.fieldLink RX7 7 "LeastNeedModel" "told" "[I") (List.mem_of_getElem? (i := 3) rfl)) (fun _ h9 => h9) rfl dX7_odds_88 ?_
        refine lv_bipush (v := (10 : Int32)) hx hb dX7_odds_91 (by decide) ?_
        refine lv_iload_n hx hb dX7_odds_93 rfl (lv_at hl 1 rfl) ?_
        refine lv_iadd hx hb dX7_odds_94 ?_
        obtain ⟨hi95, hd⟩ := dn_i hd
        refine k_iald (D := D) (k := ((10 : Int32) + p1).toNatClampNeg) (by rfl) hx hb hK hP 1 1 rfl rfl hi95 dX7_odds_95 ?_
        refine lv_if_ne (tgt := 110) hx hb dX7_odds_96 (by decide) (fun c96 => ?_) (fun c96 => ?_)
        · have hd := dn_f c96 hd
          refine lv_bipush (v := (7 : Int32)) hx hb dX7_odds_110 (by decide) ?_
          refine lv_aload_n hx hb dX7_odds_112 rfl (lv_at hl 0 rfl) ?_
          refine va_get (D := D) (ci := 5) (v := .ref (a 1)) (C := RX7) (T := TX7) (N := 25) hx hb hts (fun w h => List.mem_cons_of_mem _ (List.mem_append_right _ h)) hown hK hP 0 rfl rfl 0 (by decide) (hts (.fieldLink RX7 7 "LeastNeedModel" "told" "[I") (List.mem_of_getElem? (i := 3) rfl)) (fun _ h9 => h9) rfl dX7_odds_113 ?_
          refine lv_iconst (v := (5 : Int32)) hx hb dX7_odds_116 (by decide) ?_
          refine lv_iload_n hx hb dX7_odds_117 rfl (lv_at hl 1 rfl) ?_
          refine lv_iadd hx hb dX7_odds_118 ?_
          obtain ⟨hi119, hd⟩ := dn_i hd
          refine k_iald (D := D) (k := ((5 : Int32) + p1).toNatClampNeg) (by rfl) hx hb hK hP 1 1 rfl rfl hi119 dX7_odds_119 ?_
          refine lv_iadd hx hb dX7_odds_120 ?_
          refine lv_lconst (v := (1 : Int64)) hx hb dX7_odds_121 (by decide) ?_
          obtain ⟨hi122, hd⟩ := dn_i hd
          refine k_last (D := D) (k := ((7 : Int32) + (S_62 1 ((5 : Int32) + p1).toNatClampNeg)).toNatClampNeg) (by rfl) hx hb hK hP hD hS 13 2 rfl rfl hi122 dX7_odds_122 (fun H locs hP hD hS => ?_)
          have hP : va_P D vwCl (wX7 cs a S_62 (k_wl L_62 13 (((7 : Int32) + (S_62 1 ((5 : Int32) + p1).toNatClampNeg)).toNatClampNeg) (1 : Int64))) _ := k_eq hP (wsX7_a13 cs a S_62 L_62 (((7 : Int32) + (S_62 1 ((5 : Int32) + p1).toNatClampNeg)).toNatClampNeg) (1 : Int64))
          have hD := hDA S_62 (k_wl L_62 13 (((7 : Int32) + (S_62 1 ((5 : Int32) + p1).toNatClampNeg)).toNatClampNeg) (1 : Int64))
          refine lv_iconst (v := (0 : Int32)) hx hb dX7_odds_123 (by decide) ?_
          refine lv_istore (lv' := [(7, .int (0 : Int32)), (0, .ref (a 0)), (1, .int p1), (2, .int p2), (3, .int p3), (4, .int p4), (5, .long x5_62)]) hx hb dX7_odds_124 hl (by decide) rfl (fun ls hl => ?_)
          exact Lo126 1000 x5_62 (0 : Int32) S_62 (k_wl L_62 13 (((7 : Int32) + (S_62 1 ((5 : Int32) + p1).toNatClampNeg)).toNatClampNeg) (1 : Int64)) _ _ _ hd (lv_sub hl [1, 2, 3, 4, 5, 6, 0] rfl) hP hS
        · have hd := dn_t c96 hd
          refine lv_aload_n hx hb dX7_odds_99 rfl (lv_at hl 0 rfl) ?_
          refine va_get (D := D) (ci := 5) (v := .ref (a 1)) (C := RX7) (T := TX7) (N := 25) hx hb hts (fun w h => List.mem_cons_of_mem _ (List.mem_append_right _ h)) hown hK hP 0 rfl rfl 0 (by decide) (hts (.fieldLink RX7 7 "LeastNeedModel" "told" "[I") (List.mem_of_getElem? (i := 3) rfl)) (fun _ h9 => h9) rfl dX7_odds_100 ?_
          refine lv_iconst (v := (5 : Int32)) hx hb dX7_odds_103 (by decide) ?_
          refine lv_iload_n hx hb dX7_odds_104 rfl (lv_at hl 1 rfl) ?_
          refine lv_iadd hx hb dX7_odds_105 ?_
          obtain ⟨hi106, hd⟩ := dn_i hd
          refine k_iald (D := D) (k := ((5 : Int32) + p1).toNatClampNeg) (by rfl) hx hb hK hP 1 1 rfl rfl hi106 dX7_odds_106 ?_
          refine lv_goto (tgt := 121) hx hb dX7_odds_107 (by decide) ?_
          refine lv_lconst (v := (1 : Int64)) hx hb dX7_odds_121 (by decide) ?_
          obtain ⟨hi122, hd⟩ := dn_i hd
          refine k_last (D := D) (k := (S_62 1 ((5 : Int32) + p1).toNatClampNeg).toNatClampNeg) (by rfl) hx hb hK hP hD hS 13 2 rfl rfl hi122 dX7_odds_122 (fun H locs hP hD hS => ?_)
          have hP : va_P D vwCl (wX7 cs a S_62 (k_wl L_62 13 ((S_62 1 ((5 : Int32) + p1).toNatClampNeg).toNatClampNeg) (1 : Int64))) _ := k_eq hP (wsX7_a13 cs a S_62 L_62 ((S_62 1 ((5 : Int32) + p1).toNatClampNeg).toNatClampNeg) (1 : Int64))
          have hD := hDA S_62 (k_wl L_62 13 ((S_62 1 ((5 : Int32) + p1).toNatClampNeg).toNatClampNeg) (1 : Int64))
          refine lv_iconst (v := (0 : Int32)) hx hb dX7_odds_123 (by decide) ?_
          refine lv_istore (lv' := [(7, .int (0 : Int32)), (0, .ref (a 0)), (1, .int p1), (2, .int p2), (3, .int p3), (4, .int p4), (5, .long x5_62)]) hx hb dX7_odds_124 hl (by decide) rfl (fun ls hl => ?_)
          exact Lo126 1000 x5_62 (0 : Int32) S_62 (k_wl L_62 13 ((S_62 1 ((5 : Int32) + p1).toNatClampNeg).toNatClampNeg) (1 : Int64)) _ _ _ hd (lv_sub hl [1, 2, 3, 4, 5, 6, 0] rfl) hP hS
      · have hd := dn_f c66 hd
        refine lv_aload_n hx hb dX7_odds_69 rfl (lv_at hl 0 rfl) ?_
        refine va_get (D := D) (ci := 5) (v := .ref (a 13)) (C := RX7) (T := TX7) (N := 25) hx hb hts (fun w h => List.mem_cons_of_mem _ (List.mem_append_right _ h)) hown hK hP 0 rfl rfl 14 (by decide) (hts (.fieldLink RX7 51 "LeastNeedModel" "cases" "[J") (List.mem_of_getElem? (i := 4) rfl)) (fun _ h9 => h9) rfl dX7_odds_70 ?_
        refine lv_iload hx hb dX7_odds_73 (lv_at hl 6 rfl) ?_
        refine lv_lconst (v := (0 : Int64)) hx hb dX7_odds_75 (by decide) ?_
        obtain ⟨hi76, hd⟩ := dn_i hd
        refine k_last (D := D) (k := x7_62.toNatClampNeg) (by rfl) hx hb hK hP hD hS 13 2 rfl rfl hi76 dX7_odds_76 (fun H locs hP hD hS => ?_)
        have hP : va_P D vwCl (wX7 cs a S_62 (k_wl L_62 13 x7_62.toNatClampNeg (0 : Int64))) _ := k_eq hP (wsX7_a13 cs a S_62 L_62 x7_62.toNatClampNeg (0 : Int64))
        have hD := hDA S_62 (k_wl L_62 13 x7_62.toNatClampNeg (0 : Int64))
        refine lv_iinc (v := x7_62 + (1 : Int32)) (lv' := [(7, .int (x7_62 + (1 : Int32))), (0, .ref (a 0)), (1, .int p1), (2, .int p2), (3, .int p3), (4, .int p4), (5, .long x5_62)]) hx hb dX7_odds_77 hl (k := 6) rfl rfl (by decide) rfl (fun ls hl => ?_)
        refine lv_goto (tgt := 62) hx hb dX7_odds_80 (by decide) ?_
        exact ih1 x5_62 (x7_62 + (1 : Int32)) S_62 (k_wl L_62 13 x7_62.toNatClampNeg (0 : Int64)) _ _ _ (dn_bk hd hy1) (lv_sub hl [1, 2, 3, 4, 5, 6, 0] rfl) hP hS
  have Jo41 : ∀ (S_41 : Nat → Nat → Int32) (L_41 : Nat → Nat → Int64) (H : Heap) (locs : List Loc) (ls : Array Slot), nX7_odds_j41 S_41 L_41 = some (r9, S9, L9) → lv_has ls 8 [(0, .ref (a 0))] → va_P D vwCl (wX7 cs a S_41 L_41) H → va_S A s.heap H locs → W p l e (headSpec wsX7_odds ({ frames := 5, cells := 0, slots := 0, locals := 131 })).room s m ([.ref (a 0), .int p1, .int p2, .int p3, .int p4] : List Value).toArray below meth c H locs 0 0 Q (F0 m 41 ls []) := by
    intro S_41 L_41 H locs ls hd hl hP hS
    have hD := hDA S_41 L_41
    unfold nX7_odds_j41 at hd
    refine lv_aload_n hx hb dX7_odds_41 rfl (lv_at hl 0 rfl) ?_
    refine lv_bipush (v := (-2 : Int32)) hx hb dX7_odds_42 (by decide) ?_
    obtain ⟨r44, S44, hq44, hd⟩ := dn_b2 hd
    have hF := k_self hD hS hA
    refine k_run_i (va_runV (As := [.int (-2 : Int32)]) (rest := []) ⟨hx, hb, hml, hown, hts⟩ (mX7_bad l D cs a S_41 L_41 (-2 : Int32) r44 S44 hq44 _) (cwV 1 hts gX7_odds_X7_bad rfl rfl rfl (by decide +kernel) ⟨Nat.le_of_ble_eq_true rfl, Nat.le_of_ble_eq_true rfl⟩) ⟨k_blind, va_recv hK hP (ci := 5) (q0 := 0) rfl rfl, k_pre hP hK hNn hD⟩ rfl rfl hl.1 rfl (lv_room (Nat.le_of_ble_eq_true rfl)) dX7_odds_44 ⟨Nat.le_of_ble_eq_true rfl, Nat.le_of_ble_eq_true rfl⟩) hS hF (fun H locs hP1 hk hS => ?_)
    have hP : va_P D vwCl (wX7 cs a S44 L_41) _ := hP1
    have hD := hDA S44 L_41
    obtain ⟨e1, e2, e3⟩ := dn_s3 hd
    exact k_iret hx hb hr hQ hAe e1 (by rw [← e2, ← e3]) hP hS hlocks dX7_odds_47
  unfold nX7_odds at hd
  refine lv_aload_n hx hb dX7_odds_0 rfl (lv_at hl 0 rfl) ?_
  refine lv_iload_n hx hb dX7_odds_1 rfl (lv_at hl 1 rfl) ?_
  obtain ⟨r2, hq2, hd⟩ := dn_b1 hd
  have hF := k_self hD hS hA
  refine k_run_i (va_runV (As := [.int p1]) (rest := []) ⟨hx, hb, hml, hown, hts⟩ (mX7_isThing l D cs a S L p1 r2 hq2 _) (cwV 1 hts gX7_odds_X7_isThing rfl rfl rfl (by decide +kernel) ⟨Nat.le_of_ble_eq_true rfl, Nat.le_of_ble_eq_true rfl⟩) ⟨k_blind, va_recv hK hP (ci := 5) (q0 := 0) rfl rfl, k_pre hP hK hNn hD⟩ rfl rfl hl.1 rfl (lv_room (Nat.le_of_ble_eq_true rfl)) dX7_odds_2 ⟨Nat.le_of_ble_eq_true rfl, Nat.le_of_ble_eq_true rfl⟩) hS hF (fun H locs hP1 hk hS => ?_)
  have hP : va_P D vwCl (wX7 cs a S L) _ := hP1
  have hD := hDA S L
  refine lv_if_eq (tgt := 41) hx hb dX7_odds_5 (by decide) (fun c5 => ?_) (fun c5 => ?_)
  · have hd := dn_t c5 hd
    exact Jo41 S L _ _ _ hd (lv_sub hl [0] rfl) hP hS
  · have hd := dn_f c5 hd
    refine lv_aload_n hx hb dX7_odds_8 rfl (lv_at hl 0 rfl) ?_
    refine lv_iload_n hx hb dX7_odds_9 rfl (lv_at hl 2 rfl) ?_
    obtain ⟨r10, hq10, hd⟩ := dn_b1 hd
    have hF := k_self hD hS hA
    refine k_run_i (va_runV (As := [.int p2]) (rest := []) ⟨hx, hb, hml, hown, hts⟩ (mX7_isOne l D cs a S L p2 r10 hq10 _) (cwV 1 hts gX7_odds_X7_isOne rfl rfl rfl (by decide +kernel) ⟨Nat.le_of_ble_eq_true rfl, Nat.le_of_ble_eq_true rfl⟩) ⟨k_blind, va_recv hK hP (ci := 5) (q0 := 0) rfl rfl, k_pre hP hK hNn hD⟩ rfl rfl hl.1 rfl (lv_room (Nat.le_of_ble_eq_true rfl)) dX7_odds_10 ⟨Nat.le_of_ble_eq_true rfl, Nat.le_of_ble_eq_true rfl⟩) hS hF (fun H locs hP1 hk hS => ?_)
    have hP : va_P D vwCl (wX7 cs a S L) _ := hP1
    have hD := hDA S L
    refine lv_if_eq (tgt := 41) hx hb dX7_odds_13 (by decide) (fun c13 => ?_) (fun c13 => ?_)
    · have hd := dn_t c13 hd
      exact Jo41 S L _ _ _ hd (lv_sub hl [0] rfl) hP hS
    · have hd := dn_f c13 hd
      refine lv_iload_n hx hb dX7_odds_16 rfl (lv_at hl 3 rfl) ?_
      refine lv_i2l hx hb dX7_odds_17 rfl ?_
      refine lv_lconst (v := (0 : Int64)) hx hb dX7_odds_18 (by decide) ?_
      refine lv_ldc2 (v := (7 : Int64)) hx hb hown (hts (.constantLong RX7 171 (7)) (List.mem_of_getElem? (i := 1) rfl)) dX7_odds_19 ?_
      obtain ⟨r22, hq22, hd⟩ := dn_b1 hd
      have hPc := k_P0 hP
      have hDc : va_D A ([] : va_W) := k_D0
      have hF := k_self hDc hS hA
      refine k_run_i (va_runS (As := [.long p3.toInt64, .long (0 : Int64), .long (7 : Int64)]) (rest := []) ⟨hx, hb, hml, hown, hts⟩ (mX7_in l D cs  p3.toInt64 (0 : Int64) (7 : Int64) r22 hq22 _) (va_cwS 3 hts gX7_odds_X7_in rfl rfl rfl (by decide +kernel) ⟨Nat.le_of_ble_eq_true rfl, Nat.le_of_ble_eq_true rfl⟩) ⟨k_blind, k_pre hPc hK hNn hDc⟩ rfl rfl hl.1 rfl (lv_room (Nat.le_of_ble_eq_true rfl)) dX7_odds_22 ⟨Nat.le_of_ble_eq_true rfl, Nat.le_of_ble_eq_true rfl⟩) hS hF (fun H locs hP1 hk hS => ?_)
      have hP : va_P D vwCl (wX7 cs a S L) _ := k_keep hP hk
      refine lv_if_eq (tgt := 41) hx hb dX7_odds_25 (by decide) (fun c25 => ?_) (fun c25 => ?_)
      · have hd := dn_t c25 hd
        exact Jo41 S L _ _ _ hd (lv_sub hl [0] rfl) hP hS
      · have hd := dn_f c25 hd
        refine lv_iload hx hb dX7_odds_28 (lv_at hl 4 rfl) ?_
        refine lv_i2l hx hb dX7_odds_30 rfl ?_
        refine lv_lconst (v := (0 : Int64)) hx hb dX7_odds_31 (by decide) ?_
        refine lv_ldc2 (v := (10 : Int64)) hx hb hown (hts (.constantLong RX7 226 (10)) (List.mem_of_getElem? (i := 2) rfl)) dX7_odds_32 ?_
        obtain ⟨r35, hq35, hd⟩ := dn_b1 hd
        have hPc := k_P0 hP
        have hDc : va_D A ([] : va_W) := k_D0
        have hF := k_self hDc hS hA
        refine k_run_i (va_runS (As := [.long p4.toInt64, .long (0 : Int64), .long (10 : Int64)]) (rest := []) ⟨hx, hb, hml, hown, hts⟩ (mX7_in l D cs  p4.toInt64 (0 : Int64) (10 : Int64) r35 hq35 _) (va_cwS 3 hts gX7_odds_X7_in rfl rfl rfl (by decide +kernel) ⟨Nat.le_of_ble_eq_true rfl, Nat.le_of_ble_eq_true rfl⟩) ⟨k_blind, k_pre hPc hK hNn hDc⟩ rfl rfl hl.1 rfl (lv_room (Nat.le_of_ble_eq_true rfl)) dX7_odds_35 ⟨Nat.le_of_ble_eq_true rfl, Nat.le_of_ble_eq_true rfl⟩) hS hF (fun H locs hP1 hk hS => ?_)
        have hP : va_P D vwCl (wX7 cs a S L) _ := k_keep hP hk
        refine lv_if_ne (tgt := 48) hx hb dX7_odds_38 (by decide) (fun c38 => ?_) (fun c38 => ?_)
        · have hd := dn_f c38 hd
          refine lv_lconst (v := (1 : Int64)) hx hb dX7_odds_48 (by decide) ?_
          refine lv_lstore (lv' := [(5, .long (1 : Int64)), (0, .ref (a 0)), (1, .int p1), (2, .int p2), (3, .int p3), (4, .int p4)]) hx hb dX7_odds_49 hl (by decide) rfl (fun ls hl => ?_)
          refine lv_aload_n hx hb dX7_odds_51 rfl (lv_at hl 1 rfl) ?_
          refine lv_aload_n hx hb dX7_odds_52 rfl (lv_at hl 1 rfl) ?_
          refine va_get (D := D) (ci := 5) (v := .ref (a 1)) (C := RX7) (T := TX7) (N := 25) hx hb hts (fun w h => List.mem_cons_of_mem _ (List.mem_append_right _ h)) hown hK hP 0 rfl rfl 0 (by decide) (hts (.fieldLink RX7 7 "LeastNeedModel" "told" "[I") (List.mem_of_getElem? (i := 3) rfl)) (fun _ h9 => h9) rfl dX7_odds_53 ?_
          obtain ⟨S56, hq56, hd⟩ := dn_b1 hd
          have hF := k_self hD hS hA
          refine k_run_v (va_runV (As := [.ref (a 1)]) (rest := []) ⟨hx, hb, hml, hown, hts⟩ (mX7_layCoats_1 l D cs a S L S56 hq56 _) (cwV 1 hts gX7_odds_X7_layCoats rfl rfl rfl (by decide +kernel) ⟨Nat.le_of_ble_eq_true rfl, Nat.le_of_ble_eq_true rfl⟩) ⟨k_blind, va_recv hK hP (ci := 5) (q0 := 0) rfl rfl, k_pre hP hK hNn hD⟩ rfl rfl hl.1 rfl (lv_room (Nat.le_of_ble_eq_true rfl)) dX7_odds_56 ⟨Nat.le_of_ble_eq_true rfl, Nat.le_of_ble_eq_true rfl⟩) hS hF (fun H locs hP1 hk hS => ?_)
          have hP : va_P D vwCl (wX7 cs a S56 L) _ := hP1
          have hD := hDA S56 L
          refine lv_iconst (v := (0 : Int32)) hx hb dX7_odds_59 (by decide) ?_
          refine lv_istore (lv' := [(7, .int (0 : Int32)), (5, .long (1 : Int64)), (0, .ref (a 0)), (1, .int p1), (2, .int p2), (3, .int p3), (4, .int p4)]) hx hb dX7_odds_60 hl (by decide) rfl (fun ls hl => ?_)
          exact Lo62 1000 (1 : Int64) (0 : Int32) S56 L _ _ _ hd (lv_sub hl [2, 3, 4, 5, 6, 1, 0] rfl) hP hS
        · have hd := dn_t c38 hd
          exact Jo41 S L _ _ _ hd (lv_sub hl [0] rfl) hP hS
-- LeastNeedModel.manyAtHome([I)I
set_option maxRecDepth 20000 in
def nX7_manyAtHome_15_i4_j40 (x3_40 : Int32) (w0_40 : Int32) (w1_40 : Int32) (S : Nat → Nat → Int32) (L : Nat → Nat → Int64) : Option ((Int32 × Int32) ⊕ (Int32)) := some (.inl ((w1_40 + w0_40), (x3_40 + (1 : Int32))))
set_option maxRecDepth 20000 in
def nX7_manyAtHome_15_i4_j39 (x3_39 : Int32) (w0_39 : Int32) (S : Nat → Nat → Int32) (L : Nat → Nat → Int64) : Option ((Int32 × Int32) ⊕ (Int32)) := nX7_manyAtHome_15_i4_j40 x3_39 (0 : Int32) w0_39 S L
set_option maxRecDepth 20000 in
def nX7_manyAtHome_15_l4 (x2_4 : Int32) (x3_4 : Int32) (S : Nat → Nat → Int32) (L : Nat → Nat → Int64) : Option ((Int32 × Int32) ⊕ (Int32)) := if (S 15 1) ≤ x3_4 then k_up (some x2_4) else if ((10 : Int32) + x3_4) < 0 ∨ 80 ≤ ((10 : Int32) + x3_4).toNatClampNeg then none else if (S 15 ((10 : Int32) + x3_4).toNatClampNeg) = 0 then if ((5 : Int32) + x3_4) < 0 ∨ 80 ≤ ((5 : Int32) + x3_4).toNatClampNeg then none else if ((75 : Int32) + x3_4) < 0 ∨ 80 ≤ ((75 : Int32) + x3_4).toNatClampNeg then none else if (S 15 ((5 : Int32) + x3_4).toNatClampNeg) = (S 15 ((75 : Int32) + x3_4).toNatClampNeg) then nX7_manyAtHome_15_i4_j40 x3_4 (1 : Int32) x2_4 S L else nX7_manyAtHome_15_i4_j39 x3_4 x2_4 S L else nX7_manyAtHome_15_i4_j39 x3_4 x2_4 S L
set_option maxRecDepth 20000 in
def nX7_manyAtHome_15 (S : Nat → Nat → Int32) (L : Nat → Nat → Int64) : Option (Int32) := k_it (fun st => nX7_manyAtHome_15_l4 st.1 st.2 S L) 1000 ((0 : Int32), (0 : Int32))
set_option maxHeartbeats 4000000 in
set_option maxRecDepth 100000 in
theorem mX7_manyAtHome_15 (l : Launch) (D : va_G) (cs : Nat → ClassId) (a : Nat → Nat) (S : Nat → Nat → Int32) (L : Nat → Nat → Int64) (r9 : Int32) (hd : nX7_manyAtHome_15 S L = some r9) : ∀ sz : Nat, Met l yX7_manyAtHome wsX7_manyAtHome ({ frames := 0, cells := 0, slots := 0, locals := 0 }) (k_Pc D cs [.ref (a 0), .ref (a 15)] (wX7 cs a S L) sz) (k_Qi D r9 (wX7 cs a S L) (wX7 cs a S L) sz) 0 0 (va_A (wX7 cs a S L) sz) := by
  intro sz
  refine Met.ofW (cc := cX7_manyAtHome) (maxL := 4) (ret := (some .int)) (by decide) rfl ?_
  intro p e s m args below meth c s₁ B hml hv
  obtain ⟨rfl, hsz, hP, hK, hD0, hNn⟩ := hv
  have hx := B.exec
  have hb := B.bytes
  have hr := B.returns
  have hts := atoms_spec (ws := wsX7_manyAtHome) B.pre
  have hown : s.vm.findClass RX7 = some m.cls := findClass_of_methodNamed B.named
  have hlocks := B.notSynchronized
  subst hsz
  obtain ⟨A, hAe⟩ : ∃ A : Nat → Prop, A = va_A (wX7 cs a S L) s.heap.size := ⟨_, rfl⟩
  have hD : va_D A (wX7 cs a S L) := by rw [hAe]; exact hD0.self
  have hA : ∀ q : Nat, s.heap.size ≤ q → A q := fun q h => by rw [hAe]; exact Or.inr h
  have hS : va_S A s.heap s.heap [] := va_S.rf
  have hDA : ∀ (S : Nat → Nat → Int32) (L : Nat → Nat → Int64), va_D A (wX7 cs a S L) := fun S L => k_DA hD rfl
  have hl := lv_entry ([.ref (a 0), .ref (a 15)]) (n := 4) (Nat.le_of_ble_eq_true rfl)
  rw [lg_entry_eq]
  generalize (lg_sl ([.ref (a 0), .ref (a 15)]) ++ List.replicate (4 - (lg_sl ([.ref (a 0), .ref (a 15)])).length) Slot.unset).toArray = ls at hl ⊢
  have hl : lv_has ls 4 [(0, .ref (a 0)), (1, .ref (a 15))] := hl
  obtain ⟨Q, hQ⟩ : ∃ Q, Q = MQ below (k_Qi D r9 (wX7 cs a S L) (wX7 cs a S L) s.heap.size) ([.ref (a 0), .ref (a 15)] : List Value).toArray s 0 0 (va_A (wX7 cs a S L) s.heap.size) := ⟨_, rfl⟩
  rw [← hQ]
  have Lo4 : ∀ (n1 : Nat) (x2_4 : Int32) (x3_4 : Int32) (H : Heap) (locs : List Loc) (ls : Array Slot), k_it (fun st => nX7_manyAtHome_15_l4 st.1 st.2 S L) n1 (x2_4, x3_4) = some r9 → lv_has ls 4 [(1, .ref (a 15)), (2, .int x2_4), (3, .int x3_4)] → va_P D vwCl (wX7 cs a S L) H → va_S A s.heap H locs → W p l e (headSpec wsX7_manyAtHome ({ frames := 0, cells := 0, slots := 0, locals := 0 })).room s m ([.ref (a 0), .ref (a 15)] : List Value).toArray below meth c H locs 0 0 Q (F0 m 4 ls []) := by
    intro n1
    induction n1 with
    | zero => intro x2_4 x3_4 H locs ls hd; exact dn_it0 hd
    | succ n1 ih1 =>
      intro x2_4 x3_4 H locs ls hd hl hP hS
      have hD := hDA S L
      obtain ⟨y1, hd, hy1⟩ := dn_it hd
      have hd : nX7_manyAtHome_15_l4 x2_4 x3_4 S L = some y1 := hd
      have Jo40 : ∀ (x3_40 : Int32) (w0_40 : Int32) (w1_40 : Int32) (H : Heap) (locs : List Loc) (ls : Array Slot), nX7_manyAtHome_15_i4_j40 x3_40 w0_40 w1_40 S L = some y1 → lv_has ls 4 [(1, .ref (a 15)), (3, .int x3_40)] → va_P D vwCl (wX7 cs a S L) H → va_S A s.heap H locs → W p l e (headSpec wsX7_manyAtHome ({ frames := 0, cells := 0, slots := 0, locals := 0 })).room s m ([.ref (a 0), .ref (a 15)] : List Value).toArray below meth c H locs 0 0 Q (F0 m 40 ls [.int w0_40, .int w1_40]) := by
        intro x3_40 w0_40 w1_40 H locs ls hd hl hP hS
        have hD := hDA S L
        unfold nX7_manyAtHome_15_i4_j40 at hd
        refine lv_iadd hx hb dX7_manyAtHome_40 ?_
        refine lv_istore_n (lv' := [(2, .int (w1_40 + w0_40)), (1, .ref (a 15)), (3, .int x3_40)]) hx hb dX7_manyAtHome_41 rfl hl (by decide) rfl (fun ls hl => ?_)
        refine lv_iinc (v := x3_40 + (1 : Int32)) (lv' := [(3, .int (x3_40 + (1 : Int32))), (2, .int (w1_40 + w0_40)), (1, .ref (a 15))]) hx hb dX7_manyAtHome_42 hl (k := 2) rfl rfl (by decide) rfl (fun ls hl => ?_)
        refine lv_goto (tgt := 4) hx hb dX7_manyAtHome_45 (by decide) ?_
        exact ih1 (w1_40 + w0_40) (x3_40 + (1 : Int32)) _ _ _ (dn_bk hd hy1) (lv_sub hl [2, 1, 0] rfl) hP hS
      have Jo39 : ∀ (x3_39 : Int32) (w0_39 : Int32) (H : Heap) (locs : List Loc) (ls : Array Slot), nX7_manyAtHome_15_i4_j39 x3_39 w0_39 S L = some y1 → lv_has ls 4 [(1, .ref (a 15)), (3, .int x3_39)] → va_P D vwCl (wX7 cs a S L) H → va_S A s.heap H locs → W p l e (headSpec wsX7_manyAtHome ({ frames := 0, cells := 0, slots := 0, locals := 0 })).room s m ([.ref (a 0), .ref (a 15)] : List Value).toArray below meth c H locs 0 0 Q (F0 m 39 ls [.int w0_39]) := by
        intro x3_39 w0_39 H locs ls hd hl hP hS
        have hD := hDA S L
        unfold nX7_manyAtHome_15_i4_j39 at hd
        refine lv_iconst (v := (0 : Int32)) hx hb dX7_manyAtHome_39 (by decide) ?_
        exact Jo40 x3_39 (0 : Int32) w0_39 _ _ _ hd (lv_sub hl [0, 1] rfl) hP hS
      unfold nX7_manyAtHome_15_l4 at hd
      refine lv_iload_n hx hb dX7_manyAtHome_4 rfl (lv_at hl 2 rfl) ?_
      refine lv_aload_n hx hb dX7_manyAtHome_5 rfl (lv_at hl 0 rfl) ?_
      refine lv_iconst (v := (1 : Int32)) hx hb dX7_manyAtHome_6 (by decide) ?_
      refine k_iald (D := D) (k := 1) (by rfl) hx hb hK hP 15 1 rfl rfl (k_in (by decide)) dX7_manyAtHome_7 ?_
      refine lv_icmp_ge (tgt := 48) hx hb dX7_manyAtHome_8 (by decide) (fun c8 => ?_) (fun c8 => ?_)
      · have hd := dn_t c8 hd
        have hd := dn_up hd hy1
        refine lv_iload_n hx hb dX7_manyAtHome_48 rfl (lv_at hl 1 rfl) ?_
        have e1 := dn_s1 hd
        exact k_iret hx hb hr hQ hAe e1 rfl hP hS hlocks dX7_manyAtHome_49
      · have hd := dn_f c8 hd
        refine lv_iload_n hx hb dX7_manyAtHome_11 rfl (lv_at hl 1 rfl) ?_
        refine lv_aload_n hx hb dX7_manyAtHome_12 rfl (lv_at hl 0 rfl) ?_
        refine lv_bipush (v := (10 : Int32)) hx hb dX7_manyAtHome_13 (by decide) ?_
        refine lv_iload_n hx hb dX7_manyAtHome_15 rfl (lv_at hl 2 rfl) ?_
        refine lv_iadd hx hb dX7_manyAtHome_16 ?_
        obtain ⟨hi17, hd⟩ := dn_i hd
        refine k_iald (D := D) (k := ((10 : Int32) + x3_4).toNatClampNeg) (by rfl) hx hb hK hP 15 1 rfl rfl hi17 dX7_manyAtHome_17 ?_
        refine lv_if_ne (tgt := 39) hx hb dX7_manyAtHome_18 (by decide) (fun c18 => ?_) (fun c18 => ?_)
        · have hd := dn_f c18 hd
          exact Jo39 x3_4 x2_4 _ _ _ hd (lv_sub hl [0, 2] rfl) hP hS
        · have hd := dn_t c18 hd
          refine lv_aload_n hx hb dX7_manyAtHome_21 rfl (lv_at hl 0 rfl) ?_
          refine lv_iconst (v := (5 : Int32)) hx hb dX7_manyAtHome_22 (by decide) ?_
          refine lv_iload_n hx hb dX7_manyAtHome_23 rfl (lv_at hl 2 rfl) ?_
          refine lv_iadd hx hb dX7_manyAtHome_24 ?_
          obtain ⟨hi25, hd⟩ := dn_i hd
          refine k_iald (D := D) (k := ((5 : Int32) + x3_4).toNatClampNeg) (by rfl) hx hb hK hP 15 1 rfl rfl hi25 dX7_manyAtHome_25 ?_
          refine lv_aload_n hx hb dX7_manyAtHome_26 rfl (lv_at hl 0 rfl) ?_
          refine lv_bipush (v := (75 : Int32)) hx hb dX7_manyAtHome_27 (by decide) ?_
          refine lv_iload_n hx hb dX7_manyAtHome_29 rfl (lv_at hl 2 rfl) ?_
          refine lv_iadd hx hb dX7_manyAtHome_30 ?_
          obtain ⟨hi31, hd⟩ := dn_i hd
          refine k_iald (D := D) (k := ((75 : Int32) + x3_4).toNatClampNeg) (by rfl) hx hb hK hP 15 1 rfl rfl hi31 dX7_manyAtHome_31 ?_
          refine lv_icmp_ne (tgt := 39) hx hb dX7_manyAtHome_32 (by decide) (fun c32 => ?_) (fun c32 => ?_)
          · have hd := dn_f c32 hd
            exact Jo39 x3_4 x2_4 _ _ _ hd (lv_sub hl [0, 2] rfl) hP hS
          · have hd := dn_t c32 hd
            refine lv_iconst (v := (1 : Int32)) hx hb dX7_manyAtHome_35 (by decide) ?_
            refine lv_goto (tgt := 40) hx hb dX7_manyAtHome_36 (by decide) ?_
            exact Jo40 x3_4 (1 : Int32) x2_4 _ _ _ hd (lv_sub hl [0, 2] rfl) hP hS
  unfold nX7_manyAtHome_15 at hd
  refine lv_iconst (v := (0 : Int32)) hx hb dX7_manyAtHome_0 (by decide) ?_
  refine lv_istore_n (lv' := [(2, .int (0 : Int32)), (0, .ref (a 0)), (1, .ref (a 15))]) hx hb dX7_manyAtHome_1 rfl hl (by decide) rfl (fun ls hl => ?_)
  refine lv_iconst (v := (0 : Int32)) hx hb dX7_manyAtHome_2 (by decide) ?_
  refine lv_istore_n (lv' := [(3, .int (0 : Int32)), (2, .int (0 : Int32)), (0, .ref (a 0)), (1, .ref (a 15))]) hx hb dX7_manyAtHome_3 rfl hl (by decide) rfl (fun ls hl => ?_)
  exact Lo4 1000 (0 : Int32) (0 : Int32) _ _ _ hd (lv_sub hl [3, 1, 0] rfl) hP hS
-- LeastNeedModel.layCoats([I)V
set_option maxRecDepth 20000 in
def nX7_layCoats_15_l2 (x2_2 : Int32) (S_2 : Nat → Nat → Int32) (L : Nat → Nat → Int64) : Option ((Int32 × (Nat → Nat → Int32)) ⊕ ((Nat → Nat → Int32))) := if (S_2 15 0) ≤ x2_2 then k_up (some S_2) else if ((15 : Int32) + x2_2) < 0 ∨ 80 ≤ ((15 : Int32) + x2_2).toNatClampNeg then none else if x2_2 < 0 ∨ 7 ≤ x2_2.toNatClampNeg then none else some (.inl ((x2_2 + (1 : Int32)), (k_w S_2 5 x2_2.toNatClampNeg (S_2 15 ((15 : Int32) + x2_2).toNatClampNeg))))
set_option maxRecDepth 20000 in
def nX7_layCoats_15 (S : Nat → Nat → Int32) (L : Nat → Nat → Int64) : Option ((Nat → Nat → Int32)) := k_it (fun st => nX7_layCoats_15_l2 st.1 st.2 L) 1000 ((0 : Int32), S)
set_option maxHeartbeats 4000000 in
set_option maxRecDepth 100000 in
theorem mX7_layCoats_15 (l : Launch) (D : va_G) (cs : Nat → ClassId) (a : Nat → Nat) (S : Nat → Nat → Int32) (L : Nat → Nat → Int64) (S9 : (Nat → Nat → Int32)) (hd : nX7_layCoats_15 S L = some S9) : ∀ sz : Nat, Met l yX7_layCoats wsX7_layCoats ({ frames := 0, cells := 0, slots := 0, locals := 0 }) (k_Pc D cs [.ref (a 0), .ref (a 15)] (wX7 cs a S L) sz) (k_Qv D (wX7 cs a S L) (wX7 cs a S9 L) sz) 0 0 (va_A (wX7 cs a S L) sz) := by
  intro sz
  refine Met.ofW (cc := cX7_layCoats) (maxL := 3) (ret := none) (by decide) rfl ?_
  intro p e s m args below meth c s₁ B hml hv
  obtain ⟨rfl, hsz, hP, hK, hD0, hNn⟩ := hv
  have hx := B.exec
  have hb := B.bytes
  have hr := B.returns
  have hts := atoms_spec (ws := wsX7_layCoats) B.pre
  have hown : s.vm.findClass RX7 = some m.cls := findClass_of_methodNamed B.named
  have hlocks := B.notSynchronized
  subst hsz
  obtain ⟨A, hAe⟩ : ∃ A : Nat → Prop, A = va_A (wX7 cs a S L) s.heap.size := ⟨_, rfl⟩
  have hD : va_D A (wX7 cs a S L) := by rw [hAe]; exact hD0.self
  have hA : ∀ q : Nat, s.heap.size ≤ q → A q := fun q h => by rw [hAe]; exact Or.inr h
  have hS : va_S A s.heap s.heap [] := va_S.rf
  have hDA : ∀ (S : Nat → Nat → Int32) (L : Nat → Nat → Int64), va_D A (wX7 cs a S L) := fun S L => k_DA hD rfl
  have hl := lv_entry ([.ref (a 0), .ref (a 15)]) (n := 3) (Nat.le_of_ble_eq_true rfl)
  rw [lg_entry_eq]
  generalize (lg_sl ([.ref (a 0), .ref (a 15)]) ++ List.replicate (3 - (lg_sl ([.ref (a 0), .ref (a 15)])).length) Slot.unset).toArray = ls at hl ⊢
  have hl : lv_has ls 3 [(0, .ref (a 0)), (1, .ref (a 15))] := hl
  obtain ⟨Q, hQ⟩ : ∃ Q, Q = MQ below (k_Qv D (wX7 cs a S L) (wX7 cs a S9 L) s.heap.size) ([.ref (a 0), .ref (a 15)] : List Value).toArray s 0 0 (va_A (wX7 cs a S L) s.heap.size) := ⟨_, rfl⟩
  rw [← hQ]
  have Lo2 : ∀ (n1 : Nat) (x2_2 : Int32) (S_2 : Nat → Nat → Int32) (H : Heap) (locs : List Loc) (ls : Array Slot), k_it (fun st => nX7_layCoats_15_l2 st.1 st.2 L) n1 (x2_2, S_2) = some S9 → lv_has ls 3 [(0, .ref (a 0)), (1, .ref (a 15)), (2, .int x2_2)] → va_P D vwCl (wX7 cs a S_2 L) H → va_S A s.heap H locs → W p l e (headSpec wsX7_layCoats ({ frames := 0, cells := 0, slots := 0, locals := 0 })).room s m ([.ref (a 0), .ref (a 15)] : List Value).toArray below meth c H locs 0 0 Q (F0 m 2 ls []) := by
    intro n1
    induction n1 with
    | zero => intro x2_2 S_2 H locs ls hd; exact dn_it0 hd
    | succ n1 ih1 =>
      intro x2_2 S_2 H locs ls hd hl hP hS
      have hD := hDA S_2 L
      obtain ⟨y1, hd, hy1⟩ := dn_it hd
      have hd : nX7_layCoats_15_l2 x2_2 S_2 L = some y1 := hd
      unfold nX7_layCoats_15_l2 at hd
      refine lv_iload_n hx hb dX7_layCoats_2 rfl (lv_at hl 2 rfl) ?_
      refine lv_aload_n hx hb dX7_layCoats_3 rfl (lv_at hl 1 rfl) ?_
      refine lv_iconst (v := (0 : Int32)) hx hb dX7_layCoats_4 (by decide) ?_
      refine k_iald (D := D) (k := 0) (by rfl) hx hb hK hP 15 1 rfl rfl (k_in (by decide)) dX7_layCoats_5 ?_
      refine lv_icmp_ge (tgt := 27) hx hb dX7_layCoats_6 (by decide) (fun c6 => ?_) (fun c6 => ?_)
      · have hd := dn_t c6 hd
        have hd := dn_up hd hy1
        have e1 := dn_s1 hd
        exact k_vret hx hb hr hQ hAe (by rw [e1]) hP hS hlocks dX7_layCoats_27
      · have hd := dn_f c6 hd
        refine lv_aload_n hx hb dX7_layCoats_9 rfl (lv_at hl 0 rfl) ?_
        refine va_get (D := D) (ci := 5) (v := .ref (a 5)) (C := RX7) (T := TX7) (N := 25) hx hb hts (fun w h => List.mem_cons_of_mem _ (List.mem_append_right _ h)) hown hK hP 0 rfl rfl 6 (by decide) (hts (.fieldLink RX7 27 "LeastNeedModel" "coats0" "[I") (List.mem_of_getElem? (i := 1) rfl)) (fun _ h9 => h9) rfl dX7_layCoats_10 ?_
        refine lv_iload_n hx hb dX7_layCoats_13 rfl (lv_at hl 2 rfl) ?_
        refine lv_aload_n hx hb dX7_layCoats_14 rfl (lv_at hl 1 rfl) ?_
        refine lv_bipush (v := (15 : Int32)) hx hb dX7_layCoats_15 (by decide) ?_
        refine lv_iload_n hx hb dX7_layCoats_17 rfl (lv_at hl 2 rfl) ?_
        refine lv_iadd hx hb dX7_layCoats_18 ?_
        obtain ⟨hi19, hd⟩ := dn_i hd
        refine k_iald (D := D) (k := ((15 : Int32) + x2_2).toNatClampNeg) (by rfl) hx hb hK hP 15 1 rfl rfl hi19 dX7_layCoats_19 ?_
        obtain ⟨hi20, hd⟩ := dn_i hd
        refine k_iast (D := D) (k := x2_2.toNatClampNeg) (by rfl) hx hb hK hP hD hS 5 1 rfl rfl hi20 dX7_layCoats_20 (fun H locs hP hD hS => ?_)
        have hP : va_P D vwCl (wX7 cs a (k_w S_2 5 x2_2.toNatClampNeg (S_2 15 ((15 : Int32) + x2_2).toNatClampNeg)) L) _ := k_eq hP (wsX7_a5 cs a S_2 L x2_2.toNatClampNeg (S_2 15 ((15 : Int32) + x2_2).toNatClampNeg))
        have hD := hDA (k_w S_2 5 x2_2.toNatClampNeg (S_2 15 ((15 : Int32) + x2_2).toNatClampNeg)) L
        refine lv_iinc (v := x2_2 + (1 : Int32)) (lv' := [(2, .int (x2_2 + (1 : Int32))), (0, .ref (a 0)), (1, .ref (a 15))]) hx hb dX7_layCoats_21 hl (k := 2) rfl rfl (by decide) rfl (fun ls hl => ?_)
        refine lv_goto (tgt := 2) hx hb dX7_layCoats_24 (by decide) ?_
        exact ih1 (x2_2 + (1 : Int32)) (k_w S_2 5 x2_2.toNatClampNeg (S_2 15 ((15 : Int32) + x2_2).toNatClampNeg)) _ _ _ (dn_bk hd hy1) (lv_sub hl [1, 2, 0] rfl) hP hS
  unfold nX7_layCoats_15 at hd
  refine lv_iconst (v := (0 : Int32)) hx hb dX7_layCoats_0 (by decide) ?_
  refine lv_istore_n (lv' := [(2, .int (0 : Int32)), (0, .ref (a 0)), (1, .ref (a 15))]) hx hb dX7_layCoats_1 rfl hl (by decide) rfl (fun ls hl => ?_)
  exact Lo2 1000 (0 : Int32) S _ _ _ hd (lv_sub hl [1, 2, 0] rfl) hP hS
-- LeastNeedModel.showsOn([IIII)I
set_option maxRecDepth 20000 in
def nX7_showsOn_15 (S : Nat → Nat → Int32) (L : Nat → Nat → Int64) (p2 : Int32) (p3 : Int32) (p4 : Int32) : Option (Int32) := if ((23 : Int32) + p2) < 0 ∨ 80 ≤ ((23 : Int32) + p2).toNatClampNeg then none else if (((37 : Int32) + ((4 : Int32) * p2)) + p3) < 0 ∨ 80 ≤ (((37 : Int32) + ((4 : Int32) * p2)) + p3).toNatClampNeg then none else if p2 < 0 ∨ 7 ≤ p2.toNatClampNeg then none else k_b1 (nX7_showsAs (S 15 ((23 : Int32) + p2).toNatClampNeg) p3 p4 (S 15 (((37 : Int32) + ((4 : Int32) * p2)) + p3).toNatClampNeg) (S 5 p2.toNatClampNeg)) (fun r25 => some r25)
set_option maxHeartbeats 4000000 in
set_option maxRecDepth 100000 in
theorem mX7_showsOn_15 (l : Launch) (D : va_G) (cs : Nat → ClassId) (a : Nat → Nat) (S : Nat → Nat → Int32) (L : Nat → Nat → Int64) (p2 : Int32) (p3 : Int32) (p4 : Int32) (r9 : Int32) (hd : nX7_showsOn_15 S L p2 p3 p4 = some r9) : ∀ sz : Nat, Met l yX7_showsOn wsX7_showsOn ({ frames := 1, cells := 0, slots := 0, locals := 25 }) (k_Pc D cs [.ref (a 0), .ref (a 15), .int p2, .int p3, .int p4] (wX7 cs a S L) sz) (k_Qi D r9 (wX7 cs a S L) (wX7 cs a S L) sz) 0 0 (va_A (wX7 cs a S L) sz) := by
  intro sz
  refine Met.ofW (cc := cX7_showsOn) (maxL := 5) (ret := (some .int)) (by decide) rfl ?_
  intro p e s m args below meth c s₁ B hml hv
  obtain ⟨rfl, hsz, hP, hK, hD0, hNn⟩ := hv
  have hx := B.exec
  have hb := B.bytes
  have hr := B.returns
  have hts := atoms_spec (ws := wsX7_showsOn) B.pre
  have hown : s.vm.findClass RX7 = some m.cls := findClass_of_methodNamed B.named
  have hlocks := B.notSynchronized
  subst hsz
  obtain ⟨A, hAe⟩ : ∃ A : Nat → Prop, A = va_A (wX7 cs a S L) s.heap.size := ⟨_, rfl⟩
  have hD : va_D A (wX7 cs a S L) := by rw [hAe]; exact hD0.self
  have hA : ∀ q : Nat, s.heap.size ≤ q → A q := fun q h => by rw [hAe]; exact Or.inr h
  have hS : va_S A s.heap s.heap [] := va_S.rf
  have hDA : ∀ (S : Nat → Nat → Int32) (L : Nat → Nat → Int64), va_D A (wX7 cs a S L) := fun S L => k_DA hD rfl
  have hl := lv_entry ([.ref (a 0), .ref (a 15), .int p2, .int p3, .int p4]) (n := 5) (Nat.le_of_ble_eq_true rfl)
  rw [lg_entry_eq]
  generalize (lg_sl ([.ref (a 0), .ref (a 15), .int p2, .int p3, .int p4]) ++ List.replicate (5 - (lg_sl ([.ref (a 0), .ref (a 15), .int p2, .int p3, .int p4])).length) Slot.unset).toArray = ls at hl ⊢
  have hl : lv_has ls 5 [(0, .ref (a 0)), (1, .ref (a 15)), (2, .int p2), (3, .int p3), (4, .int p4)] := hl
  obtain ⟨Q, hQ⟩ : ∃ Q, Q = MQ below (k_Qi D r9 (wX7 cs a S L) (wX7 cs a S L) s.heap.size) ([.ref (a 0), .ref (a 15), .int p2, .int p3, .int p4] : List Value).toArray s 0 0 (va_A (wX7 cs a S L) s.heap.size) := ⟨_, rfl⟩
  rw [← hQ]
  unfold nX7_showsOn_15 at hd
  refine lv_aload_n hx hb dX7_showsOn_0 rfl (lv_at hl 1 rfl) ?_
  refine lv_bipush (v := (23 : Int32)) hx hb dX7_showsOn_1 (by decide) ?_
  refine lv_iload_n hx hb dX7_showsOn_3 rfl (lv_at hl 2 rfl) ?_
  refine lv_iadd hx hb dX7_showsOn_4 ?_
  obtain ⟨hi5, hd⟩ := dn_i hd
  refine k_iald (D := D) (k := ((23 : Int32) + p2).toNatClampNeg) (by rfl) hx hb hK hP 15 1 rfl rfl hi5 dX7_showsOn_5 ?_
  refine lv_iload_n hx hb dX7_showsOn_6 rfl (lv_at hl 3 rfl) ?_
  refine lv_iload hx hb dX7_showsOn_7 (lv_at hl 4 rfl) ?_
  refine lv_aload_n hx hb dX7_showsOn_9 rfl (lv_at hl 1 rfl) ?_
  refine lv_bipush (v := (37 : Int32)) hx hb dX7_showsOn_10 (by decide) ?_
  refine lv_iconst (v := (4 : Int32)) hx hb dX7_showsOn_12 (by decide) ?_
  refine lv_iload_n hx hb dX7_showsOn_13 rfl (lv_at hl 2 rfl) ?_
  refine lv_imul hx hb dX7_showsOn_14 ?_
  refine lv_iadd hx hb dX7_showsOn_15 ?_
  refine lv_iload_n hx hb dX7_showsOn_16 rfl (lv_at hl 3 rfl) ?_
  refine lv_iadd hx hb dX7_showsOn_17 ?_
  obtain ⟨hi18, hd⟩ := dn_i hd
  refine k_iald (D := D) (k := (((37 : Int32) + ((4 : Int32) * p2)) + p3).toNatClampNeg) (by rfl) hx hb hK hP 15 1 rfl rfl hi18 dX7_showsOn_18 ?_
  refine lv_aload_n hx hb dX7_showsOn_19 rfl (lv_at hl 0 rfl) ?_
  refine va_get (D := D) (ci := 5) (v := .ref (a 5)) (C := RX7) (T := TX7) (N := 25) hx hb hts (fun w h => List.mem_cons_of_mem _ (List.mem_append_right _ h)) hown hK hP 0 rfl rfl 6 (by decide) (hts (.fieldLink RX7 27 "LeastNeedModel" "coats0" "[I") (List.mem_of_getElem? (i := 1) rfl)) (fun _ h9 => h9) rfl dX7_showsOn_20 ?_
  refine lv_iload_n hx hb dX7_showsOn_23 rfl (lv_at hl 2 rfl) ?_
  obtain ⟨hi24, hd⟩ := dn_i hd
  refine k_iald (D := D) (k := p2.toNatClampNeg) (by rfl) hx hb hK hP 5 1 rfl rfl hi24 dX7_showsOn_24 ?_
  obtain ⟨r25, hq25, hd⟩ := dn_b1 hd
  have hPc := k_P0 hP
  have hDc : va_D A ([] : va_W) := k_D0
  have hF := k_self hDc hS hA
  refine k_run_i (va_runS (As := [.int (S 15 ((23 : Int32) + p2).toNatClampNeg), .int p3, .int p4, .int (S 15 (((37 : Int32) + ((4 : Int32) * p2)) + p3).toNatClampNeg), .int (S 5 p2.toNatClampNeg)]) (rest := []) ⟨hx, hb, hml, hown, hts⟩ (mX7_showsAs l D cs  (S 15 ((23 : Int32) + p2).toNatClampNeg) p3 p4 (S 15 (((37 : Int32) + ((4 : Int32) * p2)) + p3).toNatClampNeg) (S 5 p2.toNatClampNeg) r25 hq25 _) (va_cwS 5 hts gX7_showsOn_X7_showsAs rfl rfl rfl (by decide +kernel) ⟨Nat.le_of_ble_eq_true rfl, Nat.le_of_ble_eq_true rfl⟩) ⟨k_blind, k_pre hPc hK hNn hDc⟩ rfl rfl hl.1 rfl (lv_room (Nat.le_of_ble_eq_true rfl)) dX7_showsOn_25 ⟨Nat.le_of_ble_eq_true rfl, Nat.le_of_ble_eq_true rfl⟩) hS hF (fun H locs hP1 hk hS => ?_)
  have hP : va_P D vwCl (wX7 cs a S L) _ := k_keep hP hk
  have e1 := dn_s1 hd
  exact k_iret hx hb hr hQ hAe e1 rfl hP hS hlocks dX7_showsOn_28
-- LeastNeedModel.countsOn([IIIIII)I
set_option maxRecDepth 20000 in
def nX7_countsOn_15 (S : Nat → Nat → Int32) (L : Nat → Nat → Int64) (p2 : Int32) (p3 : Int32) (p4 : Int32) (p5 : Int32) (p6 : Int32) : Option (Int32) := if ((30 : Int32) + p5) < 0 ∨ 80 ≤ ((30 : Int32) + p5).toNatClampNeg then none else if ((30 : Int32) + p6) < 0 ∨ 80 ≤ ((30 : Int32) + p6).toNatClampNeg then none else k_b1 (nX7_distance (S 15 ((30 : Int32) + p5).toNatClampNeg) (S 15 ((30 : Int32) + p6).toNatClampNeg)) (fun r14 => k_b1 (nX7_showsOn_15 S L p6 p3 p4) (fun r29 => k_b1 (nX7_showsOn_15 S L p6 ((p3 + (1 : Int32)) - (p3 + (1 : Int32)) / (4 : Int32) * (4 : Int32)) p4) (fun r43 => k_b1 (nX7_countsAs p2 r14 r29 r43) (fun r46 => some r46))))
set_option maxHeartbeats 4000000 in
set_option maxRecDepth 100000 in
theorem mX7_countsOn_15 (l : Launch) (D : va_G) (cs : Nat → ClassId) (a : Nat → Nat) (S : Nat → Nat → Int32) (L : Nat → Nat → Int64) (p2 : Int32) (p3 : Int32) (p4 : Int32) (p5 : Int32) (p6 : Int32) (r9 : Int32) (hd : nX7_countsOn_15 S L p2 p3 p4 p5 p6 = some r9) : ∀ sz : Nat, Met l yX7_countsOn wsX7_countsOn ({ frames := 2, cells := 0, slots := 0, locals := 49 }) (k_Pc D cs [.ref (a 0), .ref (a 15), .int p2, .int p3, .int p4, .int p5, .int p6] (wX7 cs a S L) sz) (k_Qi D r9 (wX7 cs a S L) (wX7 cs a S L) sz) 0 0 (va_A (wX7 cs a S L) sz) := by
  intro sz
  refine Met.ofW (cc := cX7_countsOn) (maxL := 8) (ret := (some .int)) (by decide) rfl ?_
  intro p e s m args below meth c s₁ B hml hv
  obtain ⟨rfl, hsz, hP, hK, hD0, hNn⟩ := hv
  have hx := B.exec
  have hb := B.bytes
  have hr := B.returns
  have hts := atoms_spec (ws := wsX7_countsOn) B.pre
  have hown : s.vm.findClass RX7 = some m.cls := findClass_of_methodNamed B.named
  have hlocks := B.notSynchronized
  subst hsz
  obtain ⟨A, hAe⟩ : ∃ A : Nat → Prop, A = va_A (wX7 cs a S L) s.heap.size := ⟨_, rfl⟩
  have hD : va_D A (wX7 cs a S L) := by rw [hAe]; exact hD0.self
  have hA : ∀ q : Nat, s.heap.size ≤ q → A q := fun q h => by rw [hAe]; exact Or.inr h
  have hS : va_S A s.heap s.heap [] := va_S.rf
  have hDA : ∀ (S : Nat → Nat → Int32) (L : Nat → Nat → Int64), va_D A (wX7 cs a S L) := fun S L => k_DA hD rfl
  have hl := lv_entry ([.ref (a 0), .ref (a 15), .int p2, .int p3, .int p4, .int p5, .int p6]) (n := 8) (Nat.le_of_ble_eq_true rfl)
  rw [lg_entry_eq]
  generalize (lg_sl ([.ref (a 0), .ref (a 15), .int p2, .int p3, .int p4, .int p5, .int p6]) ++ List.replicate (8 - (lg_sl ([.ref (a 0), .ref (a 15), .int p2, .int p3, .int p4, .int p5, .int p6])).length) Slot.unset).toArray = ls at hl ⊢
  have hl : lv_has ls 8 [(0, .ref (a 0)), (1, .ref (a 15)), (2, .int p2), (3, .int p3), (4, .int p4), (5, .int p5), (6, .int p6)] := hl
  obtain ⟨Q, hQ⟩ : ∃ Q, Q = MQ below (k_Qi D r9 (wX7 cs a S L) (wX7 cs a S L) s.heap.size) ([.ref (a 0), .ref (a 15), .int p2, .int p3, .int p4, .int p5, .int p6] : List Value).toArray s 0 0 (va_A (wX7 cs a S L) s.heap.size) := ⟨_, rfl⟩
  rw [← hQ]
  unfold nX7_countsOn_15 at hd
  refine lv_aload_n hx hb dX7_countsOn_0 rfl (lv_at hl 1 rfl) ?_
  refine lv_bipush (v := (30 : Int32)) hx hb dX7_countsOn_1 (by decide) ?_
  refine lv_iload hx hb dX7_countsOn_3 (lv_at hl 5 rfl) ?_
  refine lv_iadd hx hb dX7_countsOn_5 ?_
  obtain ⟨hi6, hd⟩ := dn_i hd
  refine k_iald (D := D) (k := ((30 : Int32) + p5).toNatClampNeg) (by rfl) hx hb hK hP 15 1 rfl rfl hi6 dX7_countsOn_6 ?_
  refine lv_aload_n hx hb dX7_countsOn_7 rfl (lv_at hl 1 rfl) ?_
  refine lv_bipush (v := (30 : Int32)) hx hb dX7_countsOn_8 (by decide) ?_
  refine lv_iload hx hb dX7_countsOn_10 (lv_at hl 6 rfl) ?_
  refine lv_iadd hx hb dX7_countsOn_12 ?_
  obtain ⟨hi13, hd⟩ := dn_i hd
  refine k_iald (D := D) (k := ((30 : Int32) + p6).toNatClampNeg) (by rfl) hx hb hK hP 15 1 rfl rfl hi13 dX7_countsOn_13 ?_
  obtain ⟨r14, hq14, hd⟩ := dn_b1 hd
  have hPc := k_P0 hP
  have hDc : va_D A ([] : va_W) := k_D0
  have hF := k_self hDc hS hA
  refine k_run_i (va_runS (As := [.int (S 15 ((30 : Int32) + p5).toNatClampNeg), .int (S 15 ((30 : Int32) + p6).toNatClampNeg)]) (rest := []) ⟨hx, hb, hml, hown, hts⟩ (mX7_distance l D cs  (S 15 ((30 : Int32) + p5).toNatClampNeg) (S 15 ((30 : Int32) + p6).toNatClampNeg) r14 hq14 _) (va_cwS 2 hts gX7_countsOn_X7_distance rfl rfl rfl (by decide +kernel) ⟨Nat.le_of_ble_eq_true rfl, Nat.le_of_ble_eq_true rfl⟩) ⟨k_blind, k_pre hPc hK hNn hDc⟩ rfl rfl hl.1 rfl (lv_room (Nat.le_of_ble_eq_true rfl)) dX7_countsOn_14 ⟨Nat.le_of_ble_eq_true rfl, Nat.le_of_ble_eq_true rfl⟩) hS hF (fun H locs hP1 hk hS => ?_)
  have hP : va_P D vwCl (wX7 cs a S L) _ := k_keep hP hk
  refine lv_istore (lv' := [(7, .int r14), (0, .ref (a 0)), (1, .ref (a 15)), (2, .int p2), (3, .int p3), (4, .int p4), (5, .int p5), (6, .int p6)]) hx hb dX7_countsOn_17 hl (by decide) rfl (fun ls hl => ?_)
  refine lv_iload_n hx hb dX7_countsOn_19 rfl (lv_at hl 3 rfl) ?_
  refine lv_iload hx hb dX7_countsOn_20 (lv_at hl 0 rfl) ?_
  refine lv_aload_n hx hb dX7_countsOn_22 rfl (lv_at hl 1 rfl) ?_
  refine lv_aload_n hx hb dX7_countsOn_23 rfl (lv_at hl 2 rfl) ?_
  refine lv_iload hx hb dX7_countsOn_24 (lv_at hl 7 rfl) ?_
  refine lv_iload_n hx hb dX7_countsOn_26 rfl (lv_at hl 4 rfl) ?_
  refine lv_iload hx hb dX7_countsOn_27 (lv_at hl 5 rfl) ?_
  obtain ⟨r29, hq29, hd⟩ := dn_b1 hd
  have hF := k_self hD hS hA
  refine k_run_i (va_runV (As := [.ref (a 15), .int p6, .int p3, .int p4]) (rest := [.int r14, .int p2]) ⟨hx, hb, hml, hown, hts⟩ (mX7_showsOn_15 l D cs a S L p6 p3 p4 r29 hq29 _) (cwV 4 hts gX7_countsOn_X7_showsOn rfl rfl rfl (by decide +kernel) ⟨Nat.le_of_ble_eq_true rfl, Nat.le_of_ble_eq_true rfl⟩) ⟨k_blind, va_recv hK hP (ci := 5) (q0 := 0) rfl rfl, k_pre hP hK hNn hD⟩ rfl rfl hl.1 rfl (lv_room (Nat.le_of_ble_eq_true rfl)) dX7_countsOn_29 ⟨Nat.le_of_ble_eq_true rfl, Nat.le_of_ble_eq_true rfl⟩) hS hF (fun H locs hP1 hk hS => ?_)
  have hP : va_P D vwCl (wX7 cs a S L) _ := hP1
  have hD := hDA S L
  refine lv_aload_n hx hb dX7_countsOn_32 rfl (lv_at hl 1 rfl) ?_
  refine lv_aload_n hx hb dX7_countsOn_33 rfl (lv_at hl 2 rfl) ?_
  refine lv_iload hx hb dX7_countsOn_34 (lv_at hl 7 rfl) ?_
  refine lv_iload_n hx hb dX7_countsOn_36 rfl (lv_at hl 4 rfl) ?_
  refine lv_iconst (v := (1 : Int32)) hx hb dX7_countsOn_37 (by decide) ?_
  refine lv_iadd hx hb dX7_countsOn_38 ?_
  refine lv_iconst (v := (4 : Int32)) hx hb dX7_countsOn_39 (by decide) ?_
  refine lv_irem hx hb dX7_countsOn_40 (by decide) ?_
  refine lv_iload hx hb dX7_countsOn_41 (lv_at hl 5 rfl) ?_
  obtain ⟨r43, hq43, hd⟩ := dn_b1 hd
  have hF := k_self hD hS hA
  refine k_run_i (va_runV (As := [.ref (a 15), .int p6, .int ((p3 + (1 : Int32)) - (p3 + (1 : Int32)) / (4 : Int32) * (4 : Int32)), .int p4]) (rest := [.int r29, .int r14, .int p2]) ⟨hx, hb, hml, hown, hts⟩ (mX7_showsOn_15 l D cs a S L p6 ((p3 + (1 : Int32)) - (p3 + (1 : Int32)) / (4 : Int32) * (4 : Int32)) p4 r43 hq43 _) (cwV 4 hts gX7_countsOn_X7_showsOn rfl rfl rfl (by decide +kernel) ⟨Nat.le_of_ble_eq_true rfl, Nat.le_of_ble_eq_true rfl⟩) ⟨k_blind, va_recv hK hP (ci := 5) (q0 := 0) rfl rfl, k_pre hP hK hNn hD⟩ rfl rfl hl.1 rfl (lv_room (Nat.le_of_ble_eq_true rfl)) dX7_countsOn_43 ⟨Nat.le_of_ble_eq_true rfl, Nat.le_of_ble_eq_true rfl⟩) hS hF (fun H locs hP1 hk hS => ?_)
  have hP : va_P D vwCl (wX7 cs a S L) _ := hP1
  have hD := hDA S L
  obtain ⟨r46, hq46, hd⟩ := dn_b1 hd
  have hPc := k_P0 hP
  have hDc : va_D A ([] : va_W) := k_D0
  have hF := k_self hDc hS hA
  refine k_run_i (va_runS (As := [.int p2, .int r14, .int r29, .int r43]) (rest := []) ⟨hx, hb, hml, hown, hts⟩ (mX7_countsAs l D cs  p2 r14 r29 r43 r46 hq46 _) (va_cwS 4 hts gX7_countsOn_X7_countsAs rfl rfl rfl (by decide +kernel) ⟨Nat.le_of_ble_eq_true rfl, Nat.le_of_ble_eq_true rfl⟩) ⟨k_blind, k_pre hPc hK hNn hDc⟩ rfl rfl hl.1 rfl (lv_room (Nat.le_of_ble_eq_true rfl)) dX7_countsOn_46 ⟨Nat.le_of_ble_eq_true rfl, Nat.le_of_ble_eq_true rfl⟩) hS hF (fun H locs hP1 hk hS => ?_)
  have hP : va_P D vwCl (wX7 cs a S L) _ := k_keep hP hk
  have e1 := dn_s1 hd
  exact k_iret hx hb hr hQ hAe e1 rfl hP hS hlocks dX7_countsOn_49
-- LeastNeedModel.comesTo([IIIII)I
set_option maxRecDepth 20000 in
def nX7_comesTo_15_i13_j88 (p2 : Int32) (p3 : Int32) (p4 : Int32) (p5 : Int32) (x8_88 : Int32) (x9_88 : Int32) (x10_88 : Int32) (w0_88 : Int32) (S : Nat → Nat → Int32) (L : Nat → Nat → Int64) : Option ((Int32 × Int32 × Int32 × Int32) ⊕ (Int32)) := some (.inl (w0_88, x10_88, x8_88, (x9_88 + (1 : Int32))))
set_option maxRecDepth 20000 in
def nX7_comesTo_15_i13_j72 (p2 : Int32) (p3 : Int32) (p4 : Int32) (p5 : Int32) (x6_72 : Int32) (x7_72 : Int32) (x9_72 : Int32) (x10_72 : Int32) (w0_72 : Int32) (S : Nat → Nat → Int32) (L : Nat → Nat → Int64) : Option ((Int32 × Int32 × Int32 × Int32) ⊕ (Int32)) := if x7_72 ≤ x10_72 then nX7_comesTo_15_i13_j88 p2 p3 p4 p5 w0_72 x9_72 x10_72 x6_72 S L else nX7_comesTo_15_i13_j88 p2 p3 p4 p5 w0_72 x9_72 x10_72 x9_72 S L
set_option maxRecDepth 20000 in
def nX7_comesTo_15_i13_j45 (p2 : Int32) (p3 : Int32) (p4 : Int32) (p5 : Int32) (x6_45 : Int32) (x7_45 : Int32) (x8_45 : Int32) (x9_45 : Int32) (w0_45 : Int32) (S : Nat → Nat → Int32) (L : Nat → Nat → Int64) : Option ((Int32 × Int32 × Int32 × Int32) ⊕ (Int32)) := if w0_45 = (-1 : Int32) then some (.inl (x6_45, x7_45, x8_45, (x9_45 + (1 : Int32)))) else if x7_45 < w0_45 then some (.inl (x6_45, x7_45, x8_45, (x9_45 + (1 : Int32)))) else if w0_45 = x7_45 then nX7_comesTo_15_i13_j72 p2 p3 p4 p5 x6_45 x7_45 x9_45 w0_45 (1 : Int32) S L else nX7_comesTo_15_i13_j72 p2 p3 p4 p5 x6_45 x7_45 x9_45 w0_45 (0 : Int32) S L
set_option maxRecDepth 20000 in
def nX7_comesTo_15_l13 (p2 : Int32) (p3 : Int32) (p4 : Int32) (p5 : Int32) (x6_13 : Int32) (x7_13 : Int32) (x8_13 : Int32) (x9_13 : Int32) (S : Nat → Nat → Int32) (L : Nat → Nat → Int64) : Option ((Int32 × Int32 × Int32 × Int32) ⊕ (Int32)) := if (S 15 0) ≤ x9_13 then k_up (if x8_13 = 0 then some x6_13 else if p2 = (4 : Int32) then some x6_13 else some (-1 : Int32)) else if x9_13 = p5 then nX7_comesTo_15_i13_j45 p2 p3 p4 p5 x6_13 x7_13 x8_13 x9_13 (-1 : Int32) S L else k_b1 (nX7_countsOn_15 S L p2 p3 p4 p5 x9_13) (fun r42 => nX7_comesTo_15_i13_j45 p2 p3 p4 p5 x6_13 x7_13 x8_13 x9_13 r42 S L)
set_option maxRecDepth 20000 in
def nX7_comesTo_15 (S : Nat → Nat → Int32) (L : Nat → Nat → Int64) (p2 : Int32) (p3 : Int32) (p4 : Int32) (p5 : Int32) : Option (Int32) := k_it (fun st => nX7_comesTo_15_l13 p2 p3 p4 p5 st.1 st.2.1 st.2.2.1 st.2.2.2 S L) 1000 ((-1 : Int32), (1000000 : Int32), (0 : Int32), (0 : Int32))
set_option maxHeartbeats 4000000 in
set_option maxRecDepth 100000 in
theorem mX7_comesTo_15 (l : Launch) (D : va_G) (cs : Nat → ClassId) (a : Nat → Nat) (S : Nat → Nat → Int32) (L : Nat → Nat → Int64) (p2 : Int32) (p3 : Int32) (p4 : Int32) (p5 : Int32) (r9 : Int32) (hd : nX7_comesTo_15 S L p2 p3 p4 p5 = some r9) : ∀ sz : Nat, Met l yX7_comesTo wsX7_comesTo ({ frames := 3, cells := 0, slots := 0, locals := 76 }) (k_Pc D cs [.ref (a 0), .ref (a 15), .int p2, .int p3, .int p4, .int p5] (wX7 cs a S L) sz) (k_Qi D r9 (wX7 cs a S L) (wX7 cs a S L) sz) 0 0 (va_A (wX7 cs a S L) sz) := by
  intro sz
  refine Met.ofW (cc := cX7_comesTo) (maxL := 11) (ret := (some .int)) (by decide) rfl ?_
  intro p e s m args below meth c s₁ B hml hv
  obtain ⟨rfl, hsz, hP, hK, hD0, hNn⟩ := hv
  have hx := B.exec
  have hb := B.bytes
  have hr := B.returns
  have hts := atoms_spec (ws := wsX7_comesTo) B.pre
  have hown : s.vm.findClass RX7 = some m.cls := findClass_of_methodNamed B.named
  have hlocks := B.notSynchronized
  subst hsz
  obtain ⟨A, hAe⟩ : ∃ A : Nat → Prop, A = va_A (wX7 cs a S L) s.heap.size := ⟨_, rfl⟩
  have hD : va_D A (wX7 cs a S L) := by rw [hAe]; exact hD0.self
  have hA : ∀ q : Nat, s.heap.size ≤ q → A q := fun q h => by rw [hAe]; exact Or.inr h
  have hS : va_S A s.heap s.heap [] := va_S.rf
  have hDA : ∀ (S : Nat → Nat → Int32) (L : Nat → Nat → Int64), va_D A (wX7 cs a S L) := fun S L => k_DA hD rfl
  have hl := lv_entry ([.ref (a 0), .ref (a 15), .int p2, .int p3, .int p4, .int p5]) (n := 11) (Nat.le_of_ble_eq_true rfl)
  rw [lg_entry_eq]
  generalize (lg_sl ([.ref (a 0), .ref (a 15), .int p2, .int p3, .int p4, .int p5]) ++ List.replicate (11 - (lg_sl ([.ref (a 0), .ref (a 15), .int p2, .int p3, .int p4, .int p5])).length) Slot.unset).toArray = ls at hl ⊢
  have hl : lv_has ls 11 [(0, .ref (a 0)), (1, .ref (a 15)), (2, .int p2), (3, .int p3), (4, .int p4), (5, .int p5)] := hl
  obtain ⟨Q, hQ⟩ : ∃ Q, Q = MQ below (k_Qi D r9 (wX7 cs a S L) (wX7 cs a S L) s.heap.size) ([.ref (a 0), .ref (a 15), .int p2, .int p3, .int p4, .int p5] : List Value).toArray s 0 0 (va_A (wX7 cs a S L) s.heap.size) := ⟨_, rfl⟩
  rw [← hQ]
  have Lo13 : ∀ (n1 : Nat) (x6_13 : Int32) (x7_13 : Int32) (x8_13 : Int32) (x9_13 : Int32) (H : Heap) (locs : List Loc) (ls : Array Slot), k_it (fun st => nX7_comesTo_15_l13 p2 p3 p4 p5 st.1 st.2.1 st.2.2.1 st.2.2.2 S L) n1 (x6_13, x7_13, x8_13, x9_13) = some r9 → lv_has ls 11 [(0, .ref (a 0)), (1, .ref (a 15)), (2, .int p2), (3, .int p3), (4, .int p4), (5, .int p5), (6, .int x6_13), (7, .int x7_13), (8, .int x8_13), (9, .int x9_13)] → va_P D vwCl (wX7 cs a S L) H → va_S A s.heap H locs → W p l e (headSpec wsX7_comesTo ({ frames := 3, cells := 0, slots := 0, locals := 76 })).room s m ([.ref (a 0), .ref (a 15), .int p2, .int p3, .int p4, .int p5] : List Value).toArray below meth c H locs 0 0 Q (F0 m 13 ls []) := by
    intro n1
    induction n1 with
    | zero => intro x6_13 x7_13 x8_13 x9_13 H locs ls hd; exact dn_it0 hd
    | succ n1 ih1 =>
      intro x6_13 x7_13 x8_13 x9_13 H locs ls hd hl hP hS
      have hD := hDA S L
      obtain ⟨y1, hd, hy1⟩ := dn_it hd
      have hd : nX7_comesTo_15_l13 p2 p3 p4 p5 x6_13 x7_13 x8_13 x9_13 S L = some y1 := hd
      have Jo88 : ∀ (x8_88 : Int32) (x9_88 : Int32) (x10_88 : Int32) (w0_88 : Int32) (H : Heap) (locs : List Loc) (ls : Array Slot), nX7_comesTo_15_i13_j88 p2 p3 p4 p5 x8_88 x9_88 x10_88 w0_88 S L = some y1 → lv_has ls 11 [(0, .ref (a 0)), (1, .ref (a 15)), (2, .int p2), (3, .int p3), (4, .int p4), (5, .int p5), (8, .int x8_88), (9, .int x9_88), (10, .int x10_88)] → va_P D vwCl (wX7 cs a S L) H → va_S A s.heap H locs → W p l e (headSpec wsX7_comesTo ({ frames := 3, cells := 0, slots := 0, locals := 76 })).room s m ([.ref (a 0), .ref (a 15), .int p2, .int p3, .int p4, .int p5] : List Value).toArray below meth c H locs 0 0 Q (F0 m 88 ls [.int w0_88]) := by
        intro x8_88 x9_88 x10_88 w0_88 H locs ls hd hl hP hS
        have hD := hDA S L
        unfold nX7_comesTo_15_i13_j88 at hd
        refine lv_istore (lv' := [(6, .int w0_88), (0, .ref (a 0)), (1, .ref (a 15)), (2, .int p2), (3, .int p3), (4, .int p4), (5, .int p5), (8, .int x8_88), (9, .int x9_88), (10, .int x10_88)]) hx hb dX7_comesTo_88 hl (by decide) rfl (fun ls hl => ?_)
        refine lv_iload hx hb dX7_comesTo_90 (lv_at hl 9 rfl) ?_
        refine lv_istore (lv' := [(7, .int x10_88), (6, .int w0_88), (0, .ref (a 0)), (1, .ref (a 15)), (2, .int p2), (3, .int p3), (4, .int p4), (5, .int p5), (8, .int x8_88), (9, .int x9_88), (10, .int x10_88)]) hx hb dX7_comesTo_92 hl (by decide) rfl (fun ls hl => ?_)
        refine lv_iinc (v := x9_88 + (1 : Int32)) (lv' := [(9, .int (x9_88 + (1 : Int32))), (7, .int x10_88), (6, .int w0_88), (0, .ref (a 0)), (1, .ref (a 15)), (2, .int p2), (3, .int p3), (4, .int p4), (5, .int p5), (8, .int x8_88), (10, .int x10_88)]) hx hb dX7_comesTo_94 hl (k := 9) rfl rfl (by decide) rfl (fun ls hl => ?_)
        refine lv_goto (tgt := 13) hx hb dX7_comesTo_97 (by decide) ?_
        exact ih1 w0_88 x10_88 x8_88 (x9_88 + (1 : Int32)) _ _ _ (dn_bk hd hy1) (lv_sub hl [3, 4, 5, 6, 7, 8, 2, 1, 9, 0] rfl) hP hS
      have Jo72 : ∀ (x6_72 : Int32) (x7_72 : Int32) (x9_72 : Int32) (x10_72 : Int32) (w0_72 : Int32) (H : Heap) (locs : List Loc) (ls : Array Slot), nX7_comesTo_15_i13_j72 p2 p3 p4 p5 x6_72 x7_72 x9_72 x10_72 w0_72 S L = some y1 → lv_has ls 11 [(0, .ref (a 0)), (1, .ref (a 15)), (2, .int p2), (3, .int p3), (4, .int p4), (5, .int p5), (6, .int x6_72), (7, .int x7_72), (9, .int x9_72), (10, .int x10_72)] → va_P D vwCl (wX7 cs a S L) H → va_S A s.heap H locs → W p l e (headSpec wsX7_comesTo ({ frames := 3, cells := 0, slots := 0, locals := 76 })).room s m ([.ref (a 0), .ref (a 15), .int p2, .int p3, .int p4, .int p5] : List Value).toArray below meth c H locs 0 0 Q (F0 m 72 ls [.int w0_72]) := by
        intro x6_72 x7_72 x9_72 x10_72 w0_72 H locs ls hd hl hP hS
        have hD := hDA S L
        unfold nX7_comesTo_15_i13_j72 at hd
        refine lv_istore (lv' := [(8, .int w0_72), (0, .ref (a 0)), (1, .ref (a 15)), (2, .int p2), (3, .int p3), (4, .int p4), (5, .int p5), (6, .int x6_72), (7, .int x7_72), (9, .int x9_72), (10, .int x10_72)]) hx hb dX7_comesTo_72 hl (by decide) rfl (fun ls hl => ?_)
        refine lv_iload hx hb dX7_comesTo_74 (lv_at hl 10 rfl) ?_
        refine lv_iload hx hb dX7_comesTo_76 (lv_at hl 8 rfl) ?_
        refine lv_icmp_ge (tgt := 86) hx hb dX7_comesTo_78 (by decide) (fun c78 => ?_) (fun c78 => ?_)
        · have hd := dn_t c78 hd
          refine lv_iload hx hb dX7_comesTo_86 (lv_at hl 7 rfl) ?_
          exact Jo88 w0_72 x9_72 x10_72 x6_72 _ _ _ hd (lv_sub hl [1, 2, 3, 4, 5, 6, 0, 9, 10] rfl) hP hS
        · have hd := dn_f c78 hd
          refine lv_iload hx hb dX7_comesTo_81 (lv_at hl 9 rfl) ?_
          refine lv_goto (tgt := 88) hx hb dX7_comesTo_83 (by decide) ?_
          exact Jo88 w0_72 x9_72 x10_72 x9_72 _ _ _ hd (lv_sub hl [1, 2, 3, 4, 5, 6, 0, 9, 10] rfl) hP hS
      have Jo45 : ∀ (x6_45 : Int32) (x7_45 : Int32) (x8_45 : Int32) (x9_45 : Int32) (w0_45 : Int32) (H : Heap) (locs : List Loc) (ls : Array Slot), nX7_comesTo_15_i13_j45 p2 p3 p4 p5 x6_45 x7_45 x8_45 x9_45 w0_45 S L = some y1 → lv_has ls 11 [(0, .ref (a 0)), (1, .ref (a 15)), (2, .int p2), (3, .int p3), (4, .int p4), (5, .int p5), (6, .int x6_45), (7, .int x7_45), (8, .int x8_45), (9, .int x9_45)] → va_P D vwCl (wX7 cs a S L) H → va_S A s.heap H locs → W p l e (headSpec wsX7_comesTo ({ frames := 3, cells := 0, slots := 0, locals := 76 })).room s m ([.ref (a 0), .ref (a 15), .int p2, .int p3, .int p4, .int p5] : List Value).toArray below meth c H locs 0 0 Q (F0 m 45 ls [.int w0_45]) := by
        intro x6_45 x7_45 x8_45 x9_45 w0_45 H locs ls hd hl hP hS
        have hD := hDA S L
        unfold nX7_comesTo_15_i13_j45 at hd
        refine lv_istore (lv' := [(10, .int w0_45), (0, .ref (a 0)), (1, .ref (a 15)), (2, .int p2), (3, .int p3), (4, .int p4), (5, .int p5), (6, .int x6_45), (7, .int x7_45), (8, .int x8_45), (9, .int x9_45)]) hx hb dX7_comesTo_45 hl (by decide) rfl (fun ls hl => ?_)
        refine lv_iload hx hb dX7_comesTo_47 (lv_at hl 0 rfl) ?_
        refine lv_iconst (v := (-1 : Int32)) hx hb dX7_comesTo_49 (by decide) ?_
        refine lv_icmp_eq (tgt := 94) hx hb dX7_comesTo_50 (by decide) (fun c50 => ?_) (fun c50 => ?_)
        · have hd := dn_t c50 hd
          refine lv_iinc (v := x9_45 + (1 : Int32)) (lv' := [(9, .int (x9_45 + (1 : Int32))), (10, .int w0_45), (0, .ref (a 0)), (1, .ref (a 15)), (2, .int p2), (3, .int p3), (4, .int p4), (5, .int p5), (6, .int x6_45), (7, .int x7_45), (8, .int x8_45)]) hx hb dX7_comesTo_94 hl (k := 10) rfl rfl (by decide) rfl (fun ls hl => ?_)
          refine lv_goto (tgt := 13) hx hb dX7_comesTo_97 (by decide) ?_
          exact ih1 x6_45 x7_45 x8_45 (x9_45 + (1 : Int32)) _ _ _ (dn_bk hd hy1) (lv_sub hl [2, 3, 4, 5, 6, 7, 8, 9, 10, 0] rfl) hP hS
        · have hd := dn_f c50 hd
          refine lv_iload hx hb dX7_comesTo_53 (lv_at hl 0 rfl) ?_
          refine lv_iload hx hb dX7_comesTo_55 (lv_at hl 8 rfl) ?_
          refine lv_icmp_gt (tgt := 94) hx hb dX7_comesTo_57 (by decide) (fun c57 => ?_) (fun c57 => ?_)
          · have hd := dn_t c57 hd
            refine lv_iinc (v := x9_45 + (1 : Int32)) (lv' := [(9, .int (x9_45 + (1 : Int32))), (10, .int w0_45), (0, .ref (a 0)), (1, .ref (a 15)), (2, .int p2), (3, .int p3), (4, .int p4), (5, .int p5), (6, .int x6_45), (7, .int x7_45), (8, .int x8_45)]) hx hb dX7_comesTo_94 hl (k := 10) rfl rfl (by decide) rfl (fun ls hl => ?_)
            refine lv_goto (tgt := 13) hx hb dX7_comesTo_97 (by decide) ?_
            exact ih1 x6_45 x7_45 x8_45 (x9_45 + (1 : Int32)) _ _ _ (dn_bk hd hy1) (lv_sub hl [2, 3, 4, 5, 6, 7, 8, 9, 10, 0] rfl) hP hS
          · have hd := dn_f c57 hd
            refine lv_iload hx hb dX7_comesTo_60 (lv_at hl 0 rfl) ?_
            refine lv_iload hx hb dX7_comesTo_62 (lv_at hl 8 rfl) ?_
            refine lv_icmp_ne (tgt := 71) hx hb dX7_comesTo_64 (by decide) (fun c64 => ?_) (fun c64 => ?_)
            · have hd := dn_f c64 hd
              refine lv_iconst (v := (0 : Int32)) hx hb dX7_comesTo_71 (by decide) ?_
              exact Jo72 x6_45 x7_45 x9_45 w0_45 (0 : Int32) _ _ _ hd (lv_sub hl [1, 2, 3, 4, 5, 6, 7, 8, 10, 0] rfl) hP hS
            · have hd := dn_t c64 hd
              refine lv_iconst (v := (1 : Int32)) hx hb dX7_comesTo_67 (by decide) ?_
              refine lv_goto (tgt := 72) hx hb dX7_comesTo_68 (by decide) ?_
              exact Jo72 x6_45 x7_45 x9_45 w0_45 (1 : Int32) _ _ _ hd (lv_sub hl [1, 2, 3, 4, 5, 6, 7, 8, 10, 0] rfl) hP hS
      unfold nX7_comesTo_15_l13 at hd
      refine lv_iload hx hb dX7_comesTo_13 (lv_at hl 9 rfl) ?_
      refine lv_aload_n hx hb dX7_comesTo_15 rfl (lv_at hl 1 rfl) ?_
      refine lv_iconst (v := (0 : Int32)) hx hb dX7_comesTo_16 (by decide) ?_
      refine k_iald (D := D) (k := 0) (by rfl) hx hb hK hP 15 1 rfl rfl (k_in (by decide)) dX7_comesTo_17 ?_
      refine lv_icmp_ge (tgt := 100) hx hb dX7_comesTo_18 (by decide) (fun c18 => ?_) (fun c18 => ?_)
      · have hd := dn_t c18 hd
        have hd := dn_up hd hy1
        refine lv_iload hx hb dX7_comesTo_100 (lv_at hl 8 rfl) ?_
        refine lv_if_eq (tgt := 114) hx hb dX7_comesTo_102 (by decide) (fun c102 => ?_) (fun c102 => ?_)
        · have hd := dn_t c102 hd
          refine lv_iload hx hb dX7_comesTo_114 (lv_at hl 6 rfl) ?_
          have e1 := dn_s1 hd
          exact k_iret hx hb hr hQ hAe e1 rfl hP hS hlocks dX7_comesTo_116
        · have hd := dn_f c102 hd
          refine lv_iload_n hx hb dX7_comesTo_105 rfl (lv_at hl 2 rfl) ?_
          refine lv_iconst (v := (4 : Int32)) hx hb dX7_comesTo_106 (by decide) ?_
          refine lv_icmp_eq (tgt := 114) hx hb dX7_comesTo_107 (by decide) (fun c107 => ?_) (fun c107 => ?_)
          · have hd := dn_t c107 hd
            refine lv_iload hx hb dX7_comesTo_114 (lv_at hl 6 rfl) ?_
            have e1 := dn_s1 hd
            exact k_iret hx hb hr hQ hAe e1 rfl hP hS hlocks dX7_comesTo_116
          · have hd := dn_f c107 hd
            refine lv_iconst (v := (-1 : Int32)) hx hb dX7_comesTo_110 (by decide) ?_
            refine lv_goto (tgt := 116) hx hb dX7_comesTo_111 (by decide) ?_
            have e1 := dn_s1 hd
            exact k_iret hx hb hr hQ hAe e1 rfl hP hS hlocks dX7_comesTo_116
      · have hd := dn_f c18 hd
        refine lv_iload hx hb dX7_comesTo_21 (lv_at hl 9 rfl) ?_
        refine lv_iload hx hb dX7_comesTo_23 (lv_at hl 5 rfl) ?_
        refine lv_icmp_ne (tgt := 32) hx hb dX7_comesTo_25 (by decide) (fun c25 => ?_) (fun c25 => ?_)
        · have hd := dn_f c25 hd
          refine lv_aload_n hx hb dX7_comesTo_32 rfl (lv_at hl 0 rfl) ?_
          refine lv_aload_n hx hb dX7_comesTo_33 rfl (lv_at hl 1 rfl) ?_
          refine lv_iload_n hx hb dX7_comesTo_34 rfl (lv_at hl 2 rfl) ?_
          refine lv_iload_n hx hb dX7_comesTo_35 rfl (lv_at hl 3 rfl) ?_
          refine lv_iload hx hb dX7_comesTo_36 (lv_at hl 4 rfl) ?_
          refine lv_iload hx hb dX7_comesTo_38 (lv_at hl 5 rfl) ?_
          refine lv_iload hx hb dX7_comesTo_40 (lv_at hl 9 rfl) ?_
          obtain ⟨r42, hq42, hd⟩ := dn_b1 hd
          have hF := k_self hD hS hA
          refine k_run_i (va_runV (As := [.ref (a 15), .int p2, .int p3, .int p4, .int p5, .int x9_13]) (rest := []) ⟨hx, hb, hml, hown, hts⟩ (mX7_countsOn_15 l D cs a S L p2 p3 p4 p5 x9_13 r42 hq42 _) (cwV 6 hts gX7_comesTo_X7_countsOn rfl rfl rfl (by decide +kernel) ⟨Nat.le_of_ble_eq_true rfl, Nat.le_of_ble_eq_true rfl⟩) ⟨k_blind, va_recv hK hP (ci := 5) (q0 := 0) rfl rfl, k_pre hP hK hNn hD⟩ rfl rfl hl.1 rfl (lv_room (Nat.le_of_ble_eq_true rfl)) dX7_comesTo_42 ⟨Nat.le_of_ble_eq_true rfl, Nat.le_of_ble_eq_true rfl⟩) hS hF (fun H locs hP1 hk hS => ?_)
          have hP : va_P D vwCl (wX7 cs a S L) _ := hP1
          have hD := hDA S L
          exact Jo45 x6_13 x7_13 x8_13 x9_13 r42 _ _ _ hd (lv_sub hl [0, 1, 2, 3, 4, 5, 6, 7, 8, 9] rfl) hP hS
        · have hd := dn_t c25 hd
          refine lv_iconst (v := (-1 : Int32)) hx hb dX7_comesTo_28 (by decide) ?_
          refine lv_goto (tgt := 45) hx hb dX7_comesTo_29 (by decide) ?_
          exact Jo45 x6_13 x7_13 x8_13 x9_13 (-1 : Int32) _ _ _ hd (lv_sub hl [0, 1, 2, 3, 4, 5, 6, 7, 8, 9] rfl) hP hS
  unfold nX7_comesTo_15 at hd
  refine lv_iconst (v := (-1 : Int32)) hx hb dX7_comesTo_0 (by decide) ?_
  refine lv_istore (lv' := [(6, .int (-1 : Int32)), (0, .ref (a 0)), (1, .ref (a 15)), (2, .int p2), (3, .int p3), (4, .int p4), (5, .int p5)]) hx hb dX7_comesTo_1 hl (by decide) rfl (fun ls hl => ?_)
  refine lv_ldc (v := (1000000 : Int32)) hx hb hown (hts (.constant RX7 134 (1000000)) (List.mem_of_getElem? (i := 1) rfl)) dX7_comesTo_3 ?_
  refine lv_istore (lv' := [(7, .int (1000000 : Int32)), (6, .int (-1 : Int32)), (0, .ref (a 0)), (1, .ref (a 15)), (2, .int p2), (3, .int p3), (4, .int p4), (5, .int p5)]) hx hb dX7_comesTo_5 hl (by decide) rfl (fun ls hl => ?_)
  refine lv_iconst (v := (0 : Int32)) hx hb dX7_comesTo_7 (by decide) ?_
  refine lv_istore (lv' := [(8, .int (0 : Int32)), (7, .int (1000000 : Int32)), (6, .int (-1 : Int32)), (0, .ref (a 0)), (1, .ref (a 15)), (2, .int p2), (3, .int p3), (4, .int p4), (5, .int p5)]) hx hb dX7_comesTo_8 hl (by decide) rfl (fun ls hl => ?_)
  refine lv_iconst (v := (0 : Int32)) hx hb dX7_comesTo_10 (by decide) ?_
  refine lv_istore (lv' := [(9, .int (0 : Int32)), (8, .int (0 : Int32)), (7, .int (1000000 : Int32)), (6, .int (-1 : Int32)), (0, .ref (a 0)), (1, .ref (a 15)), (2, .int p2), (3, .int p3), (4, .int p4), (5, .int p5)]) hx hb dX7_comesTo_11 hl (by decide) rfl (fun ls hl => ?_)
  exact Lo13 1000 (-1 : Int32) (1000000 : Int32) (0 : Int32) (0 : Int32) _ _ _ hd (lv_sub hl [4, 5, 6, 7, 8, 9, 3, 2, 1, 0] rfl) hP hS
-- LeastNeedModel.goDay([II)V
set_option maxRecDepth 20000 in
def nX7_goDay_15_i7_j64 (p2 : Int32) (x3_64 : Int32) (x4_64 : Int32) (w0_64 : Int32) (w1_64 : Int32) (S_64 : Nat → Nat → Int32) (L : Nat → Nat → Int64) : Option ((Int32 × (Nat → Nat → Int32)) ⊕ ((Nat → Nat → Int32))) := if w1_64 < 0 ∨ 80 ≤ w1_64.toNatClampNeg then none else if x4_64 = (-1 : Int32) then if ((5 : Int32) + x3_64) < 0 ∨ 80 ≤ ((5 : Int32) + x3_64).toNatClampNeg then none else if ((5 : Int32) + x3_64) < 0 ∨ 80 ≤ ((5 : Int32) + x3_64).toNatClampNeg then none else some (.inl ((x3_64 + (1 : Int32)), (k_w (k_w S_64 15 w1_64.toNatClampNeg w0_64) 15 (((5 : Int32) + x3_64).toNatClampNeg) ((k_w S_64 15 w1_64.toNatClampNeg w0_64) 15 ((5 : Int32) + x3_64).toNatClampNeg)))) else if ((5 : Int32) + x3_64) < 0 ∨ 80 ≤ ((5 : Int32) + x3_64).toNatClampNeg then none else some (.inl ((x3_64 + (1 : Int32)), (k_w (k_w S_64 15 w1_64.toNatClampNeg w0_64) 15 (((5 : Int32) + x3_64).toNatClampNeg) x4_64)))
set_option maxRecDepth 20000 in
def nX7_goDay_15_l7 (p2 : Int32) (x3_7 : Int32) (S_7 : Nat → Nat → Int32) (L : Nat → Nat → Int64) : Option ((Int32 × (Nat → Nat → Int32)) ⊕ ((Nat → Nat → Int32))) := if (S_7 15 1) ≤ x3_7 then k_up (some S_7) else if ((10 : Int32) + x3_7) < 0 ∨ 80 ≤ ((10 : Int32) + x3_7).toNatClampNeg then none else if (S_7 15 ((10 : Int32) + x3_7).toNatClampNeg) = 0 then some (.inl ((x3_7 + (1 : Int32)), S_7)) else if ((65 : Int32) + x3_7) < 0 ∨ 80 ≤ ((65 : Int32) + x3_7).toNatClampNeg then none else if ((70 : Int32) + x3_7) < 0 ∨ 80 ≤ ((70 : Int32) + x3_7).toNatClampNeg then none else if ((5 : Int32) + x3_7) < 0 ∨ 80 ≤ ((5 : Int32) + x3_7).toNatClampNeg then none else k_b1 (nX7_comesTo_15 S_7 L (S_7 15 ((65 : Int32) + x3_7).toNatClampNeg) (S_7 15 ((70 : Int32) + x3_7).toNatClampNeg) p2 (S_7 15 ((5 : Int32) + x3_7).toNatClampNeg)) (fun r43 => if r43 = (-1 : Int32) then nX7_goDay_15_i7_j64 p2 x3_7 r43 (2 : Int32) ((10 : Int32) + x3_7) S_7 L else nX7_goDay_15_i7_j64 p2 x3_7 r43 (0 : Int32) ((10 : Int32) + x3_7) S_7 L)
set_option maxRecDepth 20000 in
def nX7_goDay_15 (S : Nat → Nat → Int32) (L : Nat → Nat → Int64) (p2 : Int32) : Option ((Nat → Nat → Int32)) := k_b1 (nX7_layCoats_15 S L) (fun S2 => k_it (fun st => nX7_goDay_15_l7 p2 st.1 st.2 L) 1000 ((0 : Int32), S2))
set_option maxHeartbeats 4000000 in
set_option maxRecDepth 100000 in
theorem mX7_goDay_15 (l : Launch) (D : va_G) (cs : Nat → ClassId) (a : Nat → Nat) (S : Nat → Nat → Int32) (L : Nat → Nat → Int64) (p2 : Int32) (S9 : (Nat → Nat → Int32)) (hd : nX7_goDay_15 S L p2 = some S9) : ∀ sz : Nat, Met l yX7_goDay wsX7_goDay ({ frames := 4, cells := 0, slots := 0, locals := 106 }) (k_Pc D cs [.ref (a 0), .ref (a 15), .int p2] (wX7 cs a S L) sz) (k_Qv D (wX7 cs a S L) (wX7 cs a S9 L) sz) 0 0 (va_A (wX7 cs a S L) sz) := by
  intro sz
  refine Met.ofW (cc := cX7_goDay) (maxL := 5) (ret := none) (by decide) rfl ?_
  intro p e s m args below meth c s₁ B hml hv
  obtain ⟨rfl, hsz, hP, hK, hD0, hNn⟩ := hv
  have hx := B.exec
  have hb := B.bytes
  have hr := B.returns
  have hts := atoms_spec (ws := wsX7_goDay) B.pre
  have hown : s.vm.findClass RX7 = some m.cls := findClass_of_methodNamed B.named
  have hlocks := B.notSynchronized
  subst hsz
  obtain ⟨A, hAe⟩ : ∃ A : Nat → Prop, A = va_A (wX7 cs a S L) s.heap.size := ⟨_, rfl⟩
  have hD : va_D A (wX7 cs a S L) := by rw [hAe]; exact hD0.self
  have hA : ∀ q : Nat, s.heap.size ≤ q → A q := fun q h => by rw [hAe]; exact Or.inr h
  have hS : va_S A s.heap s.heap [] := va_S.rf
  have hDA : ∀ (S : Nat → Nat → Int32) (L : Nat → Nat → Int64), va_D A (wX7 cs a S L) := fun S L => k_DA hD rfl
  have hl := lv_entry ([.ref (a 0), .ref (a 15), .int p2]) (n := 5) (Nat.le_of_ble_eq_true rfl)
  rw [lg_entry_eq]
  generalize (lg_sl ([.ref (a 0), .ref (a 15), .int p2]) ++ List.replicate (5 - (lg_sl ([.ref (a 0), .ref (a 15), .int p2])).length) Slot.unset).toArray = ls at hl ⊢
  have hl : lv_has ls 5 [(0, .ref (a 0)), (1, .ref (a 15)), (2, .int p2)] := hl
  obtain ⟨Q, hQ⟩ : ∃ Q, Q = MQ below (k_Qv D (wX7 cs a S L) (wX7 cs a S9 L) s.heap.size) ([.ref (a 0), .ref (a 15), .int p2] : List Value).toArray s 0 0 (va_A (wX7 cs a S L) s.heap.size) := ⟨_, rfl⟩
  rw [← hQ]
  have Lo7 : ∀ (n1 : Nat) (x3_7 : Int32) (S_7 : Nat → Nat → Int32) (H : Heap) (locs : List Loc) (ls : Array Slot), k_it (fun st => nX7_goDay_15_l7 p2 st.1 st.2 L) n1 (x3_7, S_7) = some S9 → lv_has ls 5 [(0, .ref (a 0)), (1, .ref (a 15)), (2, .int p2), (3, .int x3_7)] → va_P D vwCl (wX7 cs a S_7 L) H → va_S A s.heap H locs → W p l e (headSpec wsX7_goDay ({ frames := 4, cells := 0, slots := 0, locals := 106 })).room s m ([.ref (a 0), .ref (a 15), .int p2] : List Value).toArray below meth c H locs 0 0 Q (F0 m 7 ls []) := by
    intro n1
    induction n1 with
    | zero => intro x3_7 S_7 H locs ls hd; exact dn_it0 hd
    | succ n1 ih1 =>
      intro x3_7 S_7 H locs ls hd hl hP hS
      have hD := hDA S_7 L
      obtain ⟨y1, hd, hy1⟩ := dn_it hd
      have hd : nX7_goDay_15_l7 p2 x3_7 S_7 L = some y1 := hd
      have Jo64 : ∀ (x3_64 : Int32) (x4_64 : Int32) (w0_64 : Int32) (w1_64 : Int32) (S_64 : Nat → Nat → Int32) (H : Heap) (locs : List Loc) (ls : Array Slot), nX7_goDay_15_i7_j64 p2 x3_64 x4_64 w0_64 w1_64 S_64 L = some y1 → lv_has ls 5 [(0, .ref (a 0)), (1, .ref (a 15)), (2, .int p2), (3, .int x3_64), (4, .int x4_64)] → va_P D vwCl (wX7 cs a S_64 L) H → va_S A s.heap H locs → W p l e (headSpec wsX7_goDay ({ frames := 4, cells := 0, slots := 0, locals := 106 })).room s m ([.ref (a 0), .ref (a 15), .int p2] : List Value).toArray below meth c H locs 0 0 Q (F0 m 64 ls [.int w0_64, .int w1_64, .ref (a 15)]) := by
        intro x3_64 x4_64 w0_64 w1_64 S_64 H locs ls hd hl hP hS
        have hD := hDA S_64 L
        unfold nX7_goDay_15_i7_j64 at hd
        obtain ⟨hi64, hd⟩ := dn_i hd
        refine k_iast (D := D) (k := w1_64.toNatClampNeg) (by rfl) hx hb hK hP hD hS 15 1 rfl rfl hi64 dX7_goDay_64 (fun H locs hP hD hS => ?_)
        have hP : va_P D vwCl (wX7 cs a (k_w S_64 15 w1_64.toNatClampNeg w0_64) L) _ := k_eq hP (wsX7_a15 cs a S_64 L w1_64.toNatClampNeg w0_64)
        have hD := hDA (k_w S_64 15 w1_64.toNatClampNeg w0_64) L
        refine lv_aload_n hx hb dX7_goDay_65 rfl (lv_at hl 1 rfl) ?_
        refine lv_iconst (v := (5 : Int32)) hx hb dX7_goDay_66 (by decide) ?_
        refine lv_iload_n hx hb dX7_goDay_67 rfl (lv_at hl 3 rfl) ?_
        refine lv_iadd hx hb dX7_goDay_68 ?_
        refine lv_iload hx hb dX7_goDay_69 (lv_at hl 4 rfl) ?_
        refine lv_iconst (v := (-1 : Int32)) hx hb dX7_goDay_71 (by decide) ?_
        refine lv_icmp_ne (tgt := 83) hx hb dX7_goDay_72 (by decide) (fun c72 => ?_) (fun c72 => ?_)
        · have hd := dn_f c72 hd
          refine lv_iload hx hb dX7_goDay_83 (lv_at hl 4 rfl) ?_
          obtain ⟨hi85, hd⟩ := dn_i hd
          refine k_iast (D := D) (k := ((5 : Int32) + x3_64).toNatClampNeg) (by rfl) hx hb hK hP hD hS 15 1 rfl rfl hi85 dX7_goDay_85 (fun H locs hP hD hS => ?_)
          have hP : va_P D vwCl (wX7 cs a (k_w (k_w S_64 15 w1_64.toNatClampNeg w0_64) 15 (((5 : Int32) + x3_64).toNatClampNeg) x4_64) L) _ := k_eq hP (wsX7_a15 cs a (k_w S_64 15 w1_64.toNatClampNeg w0_64) L (((5 : Int32) + x3_64).toNatClampNeg) x4_64)
          have hD := hDA (k_w (k_w S_64 15 w1_64.toNatClampNeg w0_64) 15 (((5 : Int32) + x3_64).toNatClampNeg) x4_64) L
          refine lv_iinc (v := x3_64 + (1 : Int32)) (lv' := [(3, .int (x3_64 + (1 : Int32))), (0, .ref (a 0)), (1, .ref (a 15)), (2, .int p2), (4, .int x4_64)]) hx hb dX7_goDay_86 hl (k := 3) rfl rfl (by decide) rfl (fun ls hl => ?_)
          refine lv_goto (tgt := 7) hx hb dX7_goDay_89 (by decide) ?_
          exact ih1 (x3_64 + (1 : Int32)) (k_w (k_w S_64 15 w1_64.toNatClampNeg w0_64) 15 (((5 : Int32) + x3_64).toNatClampNeg) x4_64) _ _ _ (dn_bk hd hy1) (lv_sub hl [1, 2, 3, 0] rfl) hP hS
        · have hd := dn_t c72 hd
          refine lv_aload_n hx hb dX7_goDay_75 rfl (lv_at hl 1 rfl) ?_
          refine lv_iconst (v := (5 : Int32)) hx hb dX7_goDay_76 (by decide) ?_
          refine lv_iload_n hx hb dX7_goDay_77 rfl (lv_at hl 3 rfl) ?_
          refine lv_iadd hx hb dX7_goDay_78 ?_
          obtain ⟨hi79, hd⟩ := dn_i hd
          refine k_iald (D := D) (k := ((5 : Int32) + x3_64).toNatClampNeg) (by rfl) hx hb hK hP 15 1 rfl rfl hi79 dX7_goDay_79 ?_
          refine lv_goto (tgt := 85) hx hb dX7_goDay_80 (by decide) ?_
          obtain ⟨hi85, hd⟩ := dn_i hd
          refine k_iast (D := D) (k := ((5 : Int32) + x3_64).toNatClampNeg) (by rfl) hx hb hK hP hD hS 15 1 rfl rfl hi85 dX7_goDay_85 (fun H locs hP hD hS => ?_)
          have hP : va_P D vwCl (wX7 cs a (k_w (k_w S_64 15 w1_64.toNatClampNeg w0_64) 15 (((5 : Int32) + x3_64).toNatClampNeg) ((k_w S_64 15 w1_64.toNatClampNeg w0_64) 15 ((5 : Int32) + x3_64).toNatClampNeg)) L) _ := k_eq hP (wsX7_a15 cs a (k_w S_64 15 w1_64.toNatClampNeg w0_64) L (((5 : Int32) + x3_64).toNatClampNeg) ((k_w S_64 15 w1_64.toNatClampNeg w0_64) 15 ((5 : Int32) + x3_64).toNatClampNeg))
          have hD := hDA (k_w (k_w S_64 15 w1_64.toNatClampNeg w0_64) 15 (((5 : Int32) + x3_64).toNatClampNeg) ((k_w S_64 15 w1_64.toNatClampNeg w0_64) 15 ((5 : Int32) + x3_64).toNatClampNeg)) L
          refine lv_iinc (v := x3_64 + (1 : Int32)) (lv' := [(3, .int (x3_64 + (1 : Int32))), (0, .ref (a 0)), (1, .ref (a 15)), (2, .int p2), (4, .int x4_64)]) hx hb dX7_goDay_86 hl (k := 3) rfl rfl (by decide) rfl (fun ls hl => ?_)
          refine lv_goto (tgt := 7) hx hb dX7_goDay_89 (by decide) ?_
          exact ih1 (x3_64 + (1 : Int32)) (k_w (k_w S_64 15 w1_64.toNatClampNeg w0_64) 15 (((5 : Int32) + x3_64).toNatClampNeg) ((k_w S_64 15 w1_64.toNatClampNeg w0_64) 15 ((5 : Int32) + x3_64).toNatClampNeg)) _ _ _ (dn_bk hd hy1) (lv_sub hl [1, 2, 3, 0] rfl) hP hS
      unfold nX7_goDay_15_l7 at hd
      refine lv_iload_n hx hb dX7_goDay_7 rfl (lv_at hl 3 rfl) ?_
      refine lv_aload_n hx hb dX7_goDay_8 rfl (lv_at hl 1 rfl) ?_
      refine lv_iconst (v := (1 : Int32)) hx hb dX7_goDay_9 (by decide) ?_
      refine k_iald (D := D) (k := 1) (by rfl) hx hb hK hP 15 1 rfl rfl (k_in (by decide)) dX7_goDay_10 ?_
      refine lv_icmp_ge (tgt := 92) hx hb dX7_goDay_11 (by decide) (fun c11 => ?_) (fun c11 => ?_)
      · have hd := dn_t c11 hd
        have hd := dn_up hd hy1
        have e1 := dn_s1 hd
        exact k_vret hx hb hr hQ hAe (by rw [e1]) hP hS hlocks dX7_goDay_92
      · have hd := dn_f c11 hd
        refine lv_aload_n hx hb dX7_goDay_14 rfl (lv_at hl 1 rfl) ?_
        refine lv_bipush (v := (10 : Int32)) hx hb dX7_goDay_15 (by decide) ?_
        refine lv_iload_n hx hb dX7_goDay_17 rfl (lv_at hl 3 rfl) ?_
        refine lv_iadd hx hb dX7_goDay_18 ?_
        obtain ⟨hi19, hd⟩ := dn_i hd
        refine k_iald (D := D) (k := ((10 : Int32) + x3_7).toNatClampNeg) (by rfl) hx hb hK hP 15 1 rfl rfl hi19 dX7_goDay_19 ?_
        refine lv_if_eq (tgt := 86) hx hb dX7_goDay_20 (by decide) (fun c20 => ?_) (fun c20 => ?_)
        · have hd := dn_t c20 hd
          refine lv_iinc (v := x3_7 + (1 : Int32)) (lv' := [(3, .int (x3_7 + (1 : Int32))), (0, .ref (a 0)), (1, .ref (a 15)), (2, .int p2)]) hx hb dX7_goDay_86 hl (k := 3) rfl rfl (by decide) rfl (fun ls hl => ?_)
          refine lv_goto (tgt := 7) hx hb dX7_goDay_89 (by decide) ?_
          exact ih1 (x3_7 + (1 : Int32)) S_7 _ _ _ (dn_bk hd hy1) (lv_sub hl [1, 2, 3, 0] rfl) hP hS
        · have hd := dn_f c20 hd
          refine lv_aload_n hx hb dX7_goDay_23 rfl (lv_at hl 0 rfl) ?_
          refine lv_aload_n hx hb dX7_goDay_24 rfl (lv_at hl 1 rfl) ?_
          refine lv_aload_n hx hb dX7_goDay_25 rfl (lv_at hl 1 rfl) ?_
          refine lv_bipush (v := (65 : Int32)) hx hb dX7_goDay_26 (by decide) ?_
          refine lv_iload_n hx hb dX7_goDay_28 rfl (lv_at hl 3 rfl) ?_
          refine lv_iadd hx hb dX7_goDay_29 ?_
          obtain ⟨hi30, hd⟩ := dn_i hd
          refine k_iald (D := D) (k := ((65 : Int32) + x3_7).toNatClampNeg) (by rfl) hx hb hK hP 15 1 rfl rfl hi30 dX7_goDay_30 ?_
          refine lv_aload_n hx hb dX7_goDay_31 rfl (lv_at hl 1 rfl) ?_
          refine lv_bipush (v := (70 : Int32)) hx hb dX7_goDay_32 (by decide) ?_
          refine lv_iload_n hx hb dX7_goDay_34 rfl (lv_at hl 3 rfl) ?_
          refine lv_iadd hx hb dX7_goDay_35 ?_
          obtain ⟨hi36, hd⟩ := dn_i hd
          refine k_iald (D := D) (k := ((70 : Int32) + x3_7).toNatClampNeg) (by rfl) hx hb hK hP 15 1 rfl rfl hi36 dX7_goDay_36 ?_
          refine lv_iload_n hx hb dX7_goDay_37 rfl (lv_at hl 2 rfl) ?_
          refine lv_aload_n hx hb dX7_goDay_38 rfl (lv_at hl 1 rfl) ?_
          refine lv_iconst (v := (5 : Int32)) hx hb dX7_goDay_39 (by decide) ?_
          refine lv_iload_n hx hb dX7_goDay_40 rfl (lv_at hl 3 rfl) ?_
          refine lv_iadd hx hb dX7_goDay_41 ?_
          obtain ⟨hi42, hd⟩ := dn_i hd
          refine k_iald (D := D) (k := ((5 : Int32) + x3_7).toNatClampNeg) (by rfl) hx hb hK hP 15 1 rfl rfl hi42 dX7_goDay_42 ?_
          obtain ⟨r43, hq43, hd⟩ := dn_b1 hd
          have hF := k_self hD hS hA
          refine k_run_i (va_runV (As := [.ref (a 15), .int (S_7 15 ((65 : Int32) + x3_7).toNatClampNeg), .int (S_7 15 ((70 : Int32) + x3_7).toNatClampNeg), .int p2, .int (S_7 15 ((5 : Int32) + x3_7).toNatClampNeg)]) (rest := []) ⟨hx, hb, hml, hown, hts⟩ (mX7_comesTo_15 l D cs a S_7 L (S_7 15 ((65 : Int32) + x3_7).toNatClampNeg) (S_7 15 ((70 : Int32) + x3_7).toNatClampNeg) p2 (S_7 15 ((5 : Int32) + x3_7).toNatClampNeg) r43 hq43 _) (cwV 5 hts gX7_goDay_X7_comesTo rfl rfl rfl (by decide +kernel) ⟨Nat.le_of_ble_eq_true rfl, Nat.le_of_ble_eq_true rfl⟩) ⟨k_blind, va_recv hK hP (ci := 5) (q0 := 0) rfl rfl, k_pre hP hK hNn hD⟩ rfl rfl hl.1 rfl (lv_room (Nat.le_of_ble_eq_true rfl)) dX7_goDay_43 ⟨Nat.le_of_ble_eq_true rfl, Nat.le_of_ble_eq_true rfl⟩) hS hF (fun H locs hP1 hk hS => ?_)
          have hP : va_P D vwCl (wX7 cs a S_7 L) _ := hP1
          have hD := hDA S_7 L
          refine lv_istore (lv' := [(4, .int r43), (0, .ref (a 0)), (1, .ref (a 15)), (2, .int p2), (3, .int x3_7)]) hx hb dX7_goDay_46 hl (by decide) rfl (fun ls hl => ?_)
          refine lv_aload_n hx hb dX7_goDay_48 rfl (lv_at hl 2 rfl) ?_
          refine lv_bipush (v := (10 : Int32)) hx hb dX7_goDay_49 (by decide) ?_
          refine lv_iload_n hx hb dX7_goDay_51 rfl (lv_at hl 4 rfl) ?_
          refine lv_iadd hx hb dX7_goDay_52 ?_
          refine lv_iload hx hb dX7_goDay_53 (lv_at hl 0 rfl) ?_
          refine lv_iconst (v := (-1 : Int32)) hx hb dX7_goDay_55 (by decide) ?_
          refine lv_icmp_ne (tgt := 63) hx hb dX7_goDay_56 (by decide) (fun c56 => ?_) (fun c56 => ?_)
          · have hd := dn_f c56 hd
            refine lv_iconst (v := (0 : Int32)) hx hb dX7_goDay_63 (by decide) ?_
            exact Jo64 x3_7 r43 (0 : Int32) ((10 : Int32) + x3_7) S_7 _ _ _ hd (lv_sub hl [1, 2, 3, 4, 0] rfl) hP hS
          · have hd := dn_t c56 hd
            refine lv_iconst (v := (2 : Int32)) hx hb dX7_goDay_59 (by decide) ?_
            refine lv_goto (tgt := 64) hx hb dX7_goDay_60 (by decide) ?_
            exact Jo64 x3_7 r43 (2 : Int32) ((10 : Int32) + x3_7) S_7 _ _ _ hd (lv_sub hl [1, 2, 3, 4, 0] rfl) hP hS
  unfold nX7_goDay_15 at hd
  refine lv_aload_n hx hb dX7_goDay_0 rfl (lv_at hl 0 rfl) ?_
  refine lv_aload_n hx hb dX7_goDay_1 rfl (lv_at hl 1 rfl) ?_
  obtain ⟨S2, hq2, hd⟩ := dn_b1 hd
  have hF := k_self hD hS hA
  refine k_run_v (va_runV (As := [.ref (a 15)]) (rest := []) ⟨hx, hb, hml, hown, hts⟩ (mX7_layCoats_15 l D cs a S L S2 hq2 _) (cwV 1 hts gX7_goDay_X7_layCoats rfl rfl rfl (by decide +kernel) ⟨Nat.le_of_ble_eq_true rfl, Nat.le_of_ble_eq_true rfl⟩) ⟨k_blind, va_recv hK hP (ci := 5) (q0 := 0) rfl rfl, k_pre hP hK hNn hD⟩ rfl rfl hl.1 rfl (lv_room (Nat.le_of_ble_eq_true rfl)) dX7_goDay_2 ⟨Nat.le_of_ble_eq_true rfl, Nat.le_of_ble_eq_true rfl⟩) hS hF (fun H locs hP1 hk hS => ?_)
  have hP : va_P D vwCl (wX7 cs a S2 L) _ := hP1
  have hD := hDA S2 L
  refine lv_iconst (v := (0 : Int32)) hx hb dX7_goDay_5 (by decide) ?_
  refine lv_istore_n (lv' := [(3, .int (0 : Int32)), (0, .ref (a 0)), (1, .ref (a 15)), (2, .int p2)]) hx hb dX7_goDay_6 rfl hl (by decide) rfl (fun ls hl => ?_)
  exact Lo7 1000 (0 : Int32) S2 _ _ _ hd (lv_sub hl [1, 2, 3, 0] rfl) hP hS
-- LeastNeedModel.years(II)I
set_option maxRecDepth 20000 in
def nX7_years_i67_j132 (p2 : Int32) (x3_132 : Int64) (x5_132 : Int32) (S_132 : Nat → Nat → Int32) (L : Nat → Nat → Int64) : Option ((Int64 × Int32 × (Nat → Nat → Int32)) ⊕ (Int32 × (Nat → Nat → Int32))) := k_b1 (nX7_goDay_15 S_132 L ((S_132 1 22) + x5_132)) (fun S147 => some (.inl (x3_132, (x5_132 + (1 : Int32)), S147)))
set_option maxRecDepth 20000 in
def nX7_years_l67 (p2 : Int32) (x3_67 : Int64) (x5_67 : Int32) (S_67 : Nat → Nat → Int32) (L : Nat → Nat → Int64) : Option ((Int64 × Int32 × (Nat → Nat → Int32)) ⊕ (Int32 × (Nat → Nat → Int32))) := if p2 ≤ x5_67 then k_up (k_b1 (nX7_manyAtHome_15 S_67 L) (fun r161 => some (r161, S_67))) else k_b1 (nX7_isThing S_67 L ((((((x3_67 * (1103515245 : Int64)) + (12345 : Int64)) - ((x3_67 * (1103515245 : Int64)) + (12345 : Int64)) / (2147483648 : Int64) * (2147483648 : Int64)) / (65536 : Int64)) - ((((x3_67 * (1103515245 : Int64)) + (12345 : Int64)) - ((x3_67 * (1103515245 : Int64)) + (12345 : Int64)) / (2147483648 : Int64) * (2147483648 : Int64)) / (65536 : Int64)) / (5 : Int64) * (5 : Int64)).toInt32)) (fun r102 => if r102 = 0 then nX7_years_i67_j132 p2 (((x3_67 * (1103515245 : Int64)) + (12345 : Int64)) - ((x3_67 * (1103515245 : Int64)) + (12345 : Int64)) / (2147483648 : Int64) * (2147483648 : Int64)) x5_67 S_67 L else if ((10 : Int32) + ((((((x3_67 * (1103515245 : Int64)) + (12345 : Int64)) - ((x3_67 * (1103515245 : Int64)) + (12345 : Int64)) / (2147483648 : Int64) * (2147483648 : Int64)) / (65536 : Int64)) - ((((x3_67 * (1103515245 : Int64)) + (12345 : Int64)) - ((x3_67 * (1103515245 : Int64)) + (12345 : Int64)) / (2147483648 : Int64) * (2147483648 : Int64)) / (65536 : Int64)) / (5 : Int64) * (5 : Int64)).toInt32)) < 0 ∨ 80 ≤ ((10 : Int32) + ((((((x3_67 * (1103515245 : Int64)) + (12345 : Int64)) - ((x3_67 * (1103515245 : Int64)) + (12345 : Int64)) / (2147483648 : Int64) * (2147483648 : Int64)) / (65536 : Int64)) - ((((x3_67 * (1103515245 : Int64)) + (12345 : Int64)) - ((x3_67 * (1103515245 : Int64)) + (12345 : Int64)) / (2147483648 : Int64) * (2147483648 : Int64)) / (65536 : Int64)) / (5 : Int64) * (5 : Int64)).toInt32)).toNatClampNeg then none else if (S_67 15 ((10 : Int32) + ((((((x3_67 * (1103515245 : Int64)) + (12345 : Int64)) - ((x3_67 * (1103515245 : Int64)) + (12345 : Int64)) / (2147483648 : Int64) * (2147483648 : Int64)) / (65536 : Int64)) - ((((x3_67 * (1103515245 : Int64)) + (12345 : Int64)) - ((x3_67 * (1103515245 : Int64)) + (12345 : Int64)) / (2147483648 : Int64) * (2147483648 : Int64)) / (65536 : Int64)) / (5 : Int64) * (5 : Int64)).toInt32)).toNatClampNeg) = 0 then if ((10 : Int32) + ((((((x3_67 * (1103515245 : Int64)) + (12345 : Int64)) - ((x3_67 * (1103515245 : Int64)) + (12345 : Int64)) / (2147483648 : Int64) * (2147483648 : Int64)) / (65536 : Int64)) - ((((x3_67 * (1103515245 : Int64)) + (12345 : Int64)) - ((x3_67 * (1103515245 : Int64)) + (12345 : Int64)) / (2147483648 : Int64) * (2147483648 : Int64)) / (65536 : Int64)) / (5 : Int64) * (5 : Int64)).toInt32)) < 0 ∨ 80 ≤ ((10 : Int32) + ((((((x3_67 * (1103515245 : Int64)) + (12345 : Int64)) - ((x3_67 * (1103515245 : Int64)) + (12345 : Int64)) / (2147483648 : Int64) * (2147483648 : Int64)) / (65536 : Int64)) - ((((x3_67 * (1103515245 : Int64)) + (12345 : Int64)) - ((x3_67 * (1103515245 : Int64)) + (12345 : Int64)) / (2147483648 : Int64) * (2147483648 : Int64)) / (65536 : Int64)) / (5 : Int64) * (5 : Int64)).toInt32)).toNatClampNeg then none else nX7_years_i67_j132 p2 (((x3_67 * (1103515245 : Int64)) + (12345 : Int64)) - ((x3_67 * (1103515245 : Int64)) + (12345 : Int64)) / (2147483648 : Int64) * (2147483648 : Int64)) x5_67 (k_w S_67 15 (((10 : Int32) + ((((((x3_67 * (1103515245 : Int64)) + (12345 : Int64)) - ((x3_67 * (1103515245 : Int64)) + (12345 : Int64)) / (2147483648 : Int64) * (2147483648 : Int64)) / (65536 : Int64)) - ((((x3_67 * (1103515245 : Int64)) + (12345 : Int64)) - ((x3_67 * (1103515245 : Int64)) + (12345 : Int64)) / (2147483648 : Int64) * (2147483648 : Int64)) / (65536 : Int64)) / (5 : Int64) * (5 : Int64)).toInt32)).toNatClampNeg) (1 : Int32)) L else nX7_years_i67_j132 p2 (((x3_67 * (1103515245 : Int64)) + (12345 : Int64)) - ((x3_67 * (1103515245 : Int64)) + (12345 : Int64)) / (2147483648 : Int64) * (2147483648 : Int64)) x5_67 S_67 L)
set_option maxRecDepth 20000 in
def nX7_years_l37 (p2 : Int32) (x3_37 : Int64) (x5_37 : Int32) (S_37 : Nat → Nat → Int32) (L : Nat → Nat → Int64) : Option ((Int32 × (Nat → Nat → Int32)) ⊕ (Int32 × (Nat → Nat → Int32))) := if (80 : Int32) ≤ x5_37 then k_up (k_it (fun st => nX7_years_l67 p2 st.1 st.2.1 st.2.2 L) 1000 (x3_37, (0 : Int32), S_37)) else if x5_37 < 0 ∨ 284 ≤ x5_37.toNatClampNeg then none else if x5_37 < 0 ∨ 80 ≤ x5_37.toNatClampNeg then none else some (.inl ((x5_37 + (1 : Int32)), (k_w S_37 15 x5_37.toNatClampNeg (S_37 1 x5_37.toNatClampNeg))))
set_option maxRecDepth 20000 in
def nX7_years_j24 (S_24 : Nat → Nat → Int32) (L : Nat → Nat → Int64) : Option (Int32 × (Nat → Nat → Int32)) := k_b2 (nX7_bad S_24 L (-2 : Int32)) (fun r27 S27 => some (r27, S27))
set_option maxRecDepth 20000 in
def nX7_years (S : Nat → Nat → Int32) (L : Nat → Nat → Int64) (p1 : Int32) (p2 : Int32) : Option (Int32 × (Nat → Nat → Int32)) := k_b1 (nX7_in p1.toInt64 (0 : Int64) (999999 : Int64)) (fun r6 => if r6 = 0 then nX7_years_j24 S L else k_b1 (nX7_in p2.toInt64 (0 : Int64) (60 : Int64)) (fun r18 => if r18 = 0 then nX7_years_j24 S L else k_it (fun st => nX7_years_l37 p2 p1.toInt64 st.1 st.2 L) 1000 ((0 : Int32), S)))
set_option maxHeartbeats 4000000 in
set_option maxRecDepth 100000 in
theorem mX7_years (l : Launch) (D : va_G) (cs : Nat → ClassId) (a : Nat → Nat) (S : Nat → Nat → Int32) (L : Nat → Nat → Int64) (p1 : Int32) (p2 : Int32) (r9 : Int32) (S9 : (Nat → Nat → Int32)) (hd : nX7_years S L p1 p2 = some (r9, S9)) : ∀ sz : Nat, Met l yX7_years wsX7_years ({ frames := 5, cells := 0, slots := 0, locals := 130 }) (k_Pc D cs [.ref (a 0), .int p1, .int p2] (wX7 cs a S L) sz) (k_Qi D r9 (wX7 cs a S L) (wX7 cs a S9 L) sz) 0 0 (va_A (wX7 cs a S L) sz) := by
  intro sz
  refine Met.ofW (cc := cX7_years) (maxL := 7) (ret := (some .int)) (by decide) rfl ?_
  intro p e s m args below meth c s₁ B hml hv
  obtain ⟨rfl, hsz, hP, hK, hD0, hNn⟩ := hv
  have hx := B.exec
  have hb := B.bytes
  have hr := B.returns
  have hts := atoms_spec (ws := wsX7_years) B.pre
  have hown : s.vm.findClass RX7 = some m.cls := findClass_of_methodNamed B.named
  have hlocks := B.notSynchronized
  subst hsz
  obtain ⟨A, hAe⟩ : ∃ A : Nat → Prop, A = va_A (wX7 cs a S L) s.heap.size := ⟨_, rfl⟩
  have hD : va_D A (wX7 cs a S L) := by rw [hAe]; exact hD0.self
  have hA : ∀ q : Nat, s.heap.size ≤ q → A q := fun q h => by rw [hAe]; exact Or.inr h
  have hS : va_S A s.heap s.heap [] := va_S.rf
  have hDA : ∀ (S : Nat → Nat → Int32) (L : Nat → Nat → Int64), va_D A (wX7 cs a S L) := fun S L => k_DA hD rfl
  have hl := lv_entry ([.ref (a 0), .int p1, .int p2]) (n := 7) (Nat.le_of_ble_eq_true rfl)
  rw [lg_entry_eq]
  generalize (lg_sl ([.ref (a 0), .int p1, .int p2]) ++ List.replicate (7 - (lg_sl ([.ref (a 0), .int p1, .int p2])).length) Slot.unset).toArray = ls at hl ⊢
  have hl : lv_has ls 7 [(0, .ref (a 0)), (1, .int p1), (2, .int p2)] := hl
  obtain ⟨Q, hQ⟩ : ∃ Q, Q = MQ below (k_Qi D r9 (wX7 cs a S L) (wX7 cs a S9 L) s.heap.size) ([.ref (a 0), .int p1, .int p2] : List Value).toArray s 0 0 (va_A (wX7 cs a S L) s.heap.size) := ⟨_, rfl⟩
  rw [← hQ]
  have Lo67 : ∀ (n1 : Nat) (x3_67 : Int64) (x5_67 : Int32) (S_67 : Nat → Nat → Int32) (H : Heap) (locs : List Loc) (ls : Array Slot), k_it (fun st => nX7_years_l67 p2 st.1 st.2.1 st.2.2 L) n1 (x3_67, x5_67, S_67) = some (r9, S9) → lv_has ls 7 [(0, .ref (a 0)), (2, .int p2), (3, .long x3_67), (5, .int x5_67)] → va_P D vwCl (wX7 cs a S_67 L) H → va_S A s.heap H locs → W p l e (headSpec wsX7_years ({ frames := 5, cells := 0, slots := 0, locals := 130 })).room s m ([.ref (a 0), .int p1, .int p2] : List Value).toArray below meth c H locs 0 0 Q (F0 m 67 ls []) := by
    intro n1
    induction n1 with
    | zero => intro x3_67 x5_67 S_67 H locs ls hd; exact dn_it0 hd
    | succ n1 ih1 =>
      intro x3_67 x5_67 S_67 H locs ls hd hl hP hS
      have hD := hDA S_67 L
      obtain ⟨y1, hd, hy1⟩ := dn_it hd
      have hd : nX7_years_l67 p2 x3_67 x5_67 S_67 L = some y1 := hd
      have Jo132 : ∀ (x3_132 : Int64) (x5_132 : Int32) (S_132 : Nat → Nat → Int32) (H : Heap) (locs : List Loc) (ls : Array Slot), nX7_years_i67_j132 p2 x3_132 x5_132 S_132 L = some y1 → lv_has ls 7 [(0, .ref (a 0)), (2, .int p2), (3, .long x3_132), (5, .int x5_132)] → va_P D vwCl (wX7 cs a S_132 L) H → va_S A s.heap H locs → W p l e (headSpec wsX7_years ({ frames := 5, cells := 0, slots := 0, locals := 130 })).room s m ([.ref (a 0), .int p1, .int p2] : List Value).toArray below meth c H locs 0 0 Q (F0 m 132 ls []) := by
        intro x3_132 x5_132 S_132 H locs ls hd hl hP hS
        have hD := hDA S_132 L
        unfold nX7_years_i67_j132 at hd
        refine lv_aload_n hx hb dX7_years_132 rfl (lv_at hl 0 rfl) ?_
        refine lv_aload_n hx hb dX7_years_133 rfl (lv_at hl 0 rfl) ?_
        refine va_get (D := D) (ci := 5) (v := .ref (a 15)) (C := RX7) (T := TX7) (N := 25) hx hb hts (fun w h => List.mem_cons_of_mem _ (List.mem_append_right _ h)) hown hK hP 0 rfl rfl 16 (by decide) (hts (.fieldLink RX7 58 "LeastNeedModel" "hand" "[I") (List.mem_of_getElem? (i := 3) rfl)) (fun _ h9 => h9) rfl dX7_years_134 ?_
        refine lv_aload_n hx hb dX7_years_137 rfl (lv_at hl 0 rfl) ?_
        refine va_get (D := D) (ci := 5) (v := .ref (a 1)) (C := RX7) (T := TX7) (N := 25) hx hb hts (fun w h => List.mem_cons_of_mem _ (List.mem_append_right _ h)) hown hK hP 0 rfl rfl 0 (by decide) (hts (.fieldLink RX7 7 "LeastNeedModel" "told" "[I") (List.mem_of_getElem? (i := 4) rfl)) (fun _ h9 => h9) rfl dX7_years_138 ?_
        refine lv_bipush (v := (22 : Int32)) hx hb dX7_years_141 (by decide) ?_
        refine k_iald (D := D) (k := 22) (by rfl) hx hb hK hP 1 1 rfl rfl (k_in (by decide)) dX7_years_143 ?_
        refine lv_iload hx hb dX7_years_144 (lv_at hl 3 rfl) ?_
        refine lv_iadd hx hb dX7_years_146 ?_
        obtain ⟨S147, hq147, hd⟩ := dn_b1 hd
        have hF := k_self hD hS hA
        refine k_run_v (va_runV (As := [.ref (a 15), .int ((S_132 1 22) + x5_132)]) (rest := []) ⟨hx, hb, hml, hown, hts⟩ (mX7_goDay_15 l D cs a S_132 L ((S_132 1 22) + x5_132) S147 hq147 _) (cwV 2 hts gX7_years_X7_goDay rfl rfl rfl (by decide +kernel) ⟨Nat.le_of_ble_eq_true rfl, Nat.le_of_ble_eq_true rfl⟩) ⟨k_blind, va_recv hK hP (ci := 5) (q0 := 0) rfl rfl, k_pre hP hK hNn hD⟩ rfl rfl hl.1 rfl (lv_room (Nat.le_of_ble_eq_true rfl)) dX7_years_147 ⟨Nat.le_of_ble_eq_true rfl, Nat.le_of_ble_eq_true rfl⟩) hS hF (fun H locs hP1 hk hS => ?_)
        have hP : va_P D vwCl (wX7 cs a S147 L) _ := hP1
        have hD := hDA S147 L
        refine lv_iinc (v := x5_132 + (1 : Int32)) (lv' := [(5, .int (x5_132 + (1 : Int32))), (0, .ref (a 0)), (2, .int p2), (3, .long x3_132)]) hx hb dX7_years_150 hl (k := 3) rfl rfl (by decide) rfl (fun ls hl => ?_)
        refine lv_goto (tgt := 67) hx hb dX7_years_153 (by decide) ?_
        exact ih1 x3_132 (x5_132 + (1 : Int32)) S147 _ _ _ (dn_bk hd hy1) (lv_sub hl [1, 2, 3, 0] rfl) hP hS
      unfold nX7_years_l67 at hd
      refine lv_iload hx hb dX7_years_67 (lv_at hl 3 rfl) ?_
      refine lv_iload_n hx hb dX7_years_69 rfl (lv_at hl 1 rfl) ?_
      refine lv_icmp_ge (tgt := 156) hx hb dX7_years_70 (by decide) (fun c70 => ?_) (fun c70 => ?_)
      · have hd := dn_t c70 hd
        have hd := dn_up hd hy1
        refine lv_aload_n hx hb dX7_years_156 rfl (lv_at hl 0 rfl) ?_
        refine lv_aload_n hx hb dX7_years_157 rfl (lv_at hl 0 rfl) ?_
        refine va_get (D := D) (ci := 5) (v := .ref (a 15)) (C := RX7) (T := TX7) (N := 25) hx hb hts (fun w h => List.mem_cons_of_mem _ (List.mem_append_right _ h)) hown hK hP 0 rfl rfl 16 (by decide) (hts (.fieldLink RX7 58 "LeastNeedModel" "hand" "[I") (List.mem_of_getElem? (i := 3) rfl)) (fun _ h9 => h9) rfl dX7_years_158 ?_
        obtain ⟨r161, hq161, hd⟩ := dn_b1 hd
        have hF := k_self hD hS hA
        refine k_run_i (va_runV (As := [.ref (a 15)]) (rest := []) ⟨hx, hb, hml, hown, hts⟩ (mX7_manyAtHome_15 l D cs a S_67 L r161 hq161 _) (cwV 1 hts gX7_years_X7_manyAtHome rfl rfl rfl (by decide +kernel) ⟨Nat.le_of_ble_eq_true rfl, Nat.le_of_ble_eq_true rfl⟩) ⟨k_blind, va_recv hK hP (ci := 5) (q0 := 0) rfl rfl, k_pre hP hK hNn hD⟩ rfl rfl hl.1 rfl (lv_room (Nat.le_of_ble_eq_true rfl)) dX7_years_161 ⟨Nat.le_of_ble_eq_true rfl, Nat.le_of_ble_eq_true rfl⟩) hS hF (fun H locs hP1 hk hS => ?_)
        have hP : va_P D vwCl (wX7 cs a S_67 L) _ := hP1
        have hD := hDA S_67 L
        obtain ⟨e1, e2⟩ := dn_s2 hd
        exact k_iret hx hb hr hQ hAe e1 (by rw [e2]) hP hS hlocks dX7_years_164
      · have hd := dn_f c70 hd
        refine lv_lload_n hx hb dX7_years_73 rfl (lv_at hl 2 rfl) ?_
        refine lv_ldc2 (v := (1103515245 : Int64)) hx hb hown (hts (.constantLong RX7 239 (1103515245)) (List.mem_of_getElem? (i := 5) rfl)) dX7_years_74 ?_
        refine lv_lmul hx hb dX7_years_77 ?_
        refine lv_ldc2 (v := (12345 : Int64)) hx hb hown (hts (.constantLong RX7 241 (12345)) (List.mem_of_getElem? (i := 6) rfl)) dX7_years_78 ?_
        refine lv_ladd hx hb dX7_years_81 ?_
        refine lv_ldc2 (v := (2147483648 : Int64)) hx hb hown (hts (.constantLong RX7 243 (2147483648)) (List.mem_of_getElem? (i := 7) rfl)) dX7_years_82 ?_
        refine lv_lrem hx hb dX7_years_85 (by decide) ?_
        refine lv_lstore_n (lv' := [(3, .long (((x3_67 * (1103515245 : Int64)) + (12345 : Int64)) - ((x3_67 * (1103515245 : Int64)) + (12345 : Int64)) / (2147483648 : Int64) * (2147483648 : Int64))), (0, .ref (a 0)), (2, .int p2), (5, .int x5_67)]) hx hb dX7_years_86 rfl hl (by decide) rfl (fun ls hl => ?_)
        refine lv_lload_n hx hb dX7_years_87 rfl (lv_at hl 0 rfl) ?_
        refine lv_ldc2 (v := (65536 : Int64)) hx hb hown (hts (.constantLong RX7 245 (65536)) (List.mem_of_getElem? (i := 8) rfl)) dX7_years_88 ?_
        refine lv_ldiv hx hb dX7_years_91 (by decide) ?_
        refine lv_ldc2 (v := (5 : Int64)) hx hb hown (hts (.constantLong RX7 89 (5)) (List.mem_of_getElem? (i := 9) rfl)) dX7_years_92 ?_
        refine lv_lrem hx hb dX7_years_95 (by decide) ?_
        refine lv_l2i hx hb dX7_years_96 rfl ?_
        refine lv_istore (lv' := [(6, .int ((((((x3_67 * (1103515245 : Int64)) + (12345 : Int64)) - ((x3_67 * (1103515245 : Int64)) + (12345 : Int64)) / (2147483648 : Int64) * (2147483648 : Int64)) / (65536 : Int64)) - ((((x3_67 * (1103515245 : Int64)) + (12345 : Int64)) - ((x3_67 * (1103515245 : Int64)) + (12345 : Int64)) / (2147483648 : Int64) * (2147483648 : Int64)) / (65536 : Int64)) / (5 : Int64) * (5 : Int64)).toInt32)), (3, .long (((x3_67 * (1103515245 : Int64)) + (12345 : Int64)) - ((x3_67 * (1103515245 : Int64)) + (12345 : Int64)) / (2147483648 : Int64) * (2147483648 : Int64))), (0, .ref (a 0)), (2, .int p2), (5, .int x5_67)]) hx hb dX7_years_97 hl (by decide) rfl (fun ls hl => ?_)
        refine lv_aload_n hx hb dX7_years_99 rfl (lv_at hl 2 rfl) ?_
        refine lv_iload hx hb dX7_years_100 (lv_at hl 0 rfl) ?_
        obtain ⟨r102, hq102, hd⟩ := dn_b1 hd
        have hF := k_self hD hS hA
        refine k_run_i (va_runV (As := [.int ((((((x3_67 * (1103515245 : Int64)) + (12345 : Int64)) - ((x3_67 * (1103515245 : Int64)) + (12345 : Int64)) / (2147483648 : Int64) * (2147483648 : Int64)) / (65536 : Int64)) - ((((x3_67 * (1103515245 : Int64)) + (12345 : Int64)) - ((x3_67 * (1103515245 : Int64)) + (12345 : Int64)) / (2147483648 : Int64) * (2147483648 : Int64)) / (65536 : Int64)) / (5 : Int64) * (5 : Int64)).toInt32)]) (rest := []) ⟨hx, hb, hml, hown, hts⟩ (mX7_isThing l D cs a S_67 L ((((((x3_67 * (1103515245 : Int64)) + (12345 : Int64)) - ((x3_67 * (1103515245 : Int64)) + (12345 : Int64)) / (2147483648 : Int64) * (2147483648 : Int64)) / (65536 : Int64)) - ((((x3_67 * (1103515245 : Int64)) + (12345 : Int64)) - ((x3_67 * (1103515245 : Int64)) + (12345 : Int64)) / (2147483648 : Int64) * (2147483648 : Int64)) / (65536 : Int64)) / (5 : Int64) * (5 : Int64)).toInt32) r102 hq102 _) (cwV 1 hts gX7_years_X7_isThing rfl rfl rfl (by decide +kernel) ⟨Nat.le_of_ble_eq_true rfl, Nat.le_of_ble_eq_true rfl⟩) ⟨k_blind, va_recv hK hP (ci := 5) (q0 := 0) rfl rfl, k_pre hP hK hNn hD⟩ rfl rfl hl.1 rfl (lv_room (Nat.le_of_ble_eq_true rfl)) dX7_years_102 ⟨Nat.le_of_ble_eq_true rfl, Nat.le_of_ble_eq_true rfl⟩) hS hF (fun H locs hP1 hk hS => ?_)
        have hP : va_P D vwCl (wX7 cs a S_67 L) _ := hP1
        have hD := hDA S_67 L
        refine lv_if_eq (tgt := 132) hx hb dX7_years_105 (by decide) (fun c105 => ?_) (fun c105 => ?_)
        · have hd := dn_t c105 hd
          exact Jo132 (((x3_67 * (1103515245 : Int64)) + (12345 : Int64)) - ((x3_67 * (1103515245 : Int64)) + (12345 : Int64)) / (2147483648 : Int64) * (2147483648 : Int64)) x5_67 S_67 _ _ _ hd (lv_sub hl [2, 3, 1, 4] rfl) hP hS
        · have hd := dn_f c105 hd
          refine lv_aload_n hx hb dX7_years_108 rfl (lv_at hl 2 rfl) ?_
          refine va_get (D := D) (ci := 5) (v := .ref (a 15)) (C := RX7) (T := TX7) (N := 25) hx hb hts (fun w h => List.mem_cons_of_mem _ (List.mem_append_right _ h)) hown hK hP 0 rfl rfl 16 (by decide) (hts (.fieldLink RX7 58 "LeastNeedModel" "hand" "[I") (List.mem_of_getElem? (i := 3) rfl)) (fun _ h9 => h9) rfl dX7_years_109 ?_
          refine lv_bipush (v := (10 : Int32)) hx hb dX7_years_112 (by decide) ?_
          refine lv_iload hx hb dX7_years_114 (lv_at hl 0 rfl) ?_
          refine lv_iadd hx hb dX7_years_116 ?_
          obtain ⟨hi117, hd⟩ := dn_i hd
          refine k_iald (D := D) (k := ((10 : Int32) + ((((((x3_67 * (1103515245 : Int64)) + (12345 : Int64)) - ((x3_67 * (1103515245 : Int64)) + (12345 : Int64)) / (2147483648 : Int64) * (2147483648 : Int64)) / (65536 : Int64)) - ((((x3_67 * (1103515245 : Int64)) + (12345 : Int64)) - ((x3_67 * (1103515245 : Int64)) + (12345 : Int64)) / (2147483648 : Int64) * (2147483648 : Int64)) / (65536 : Int64)) / (5 : Int64) * (5 : Int64)).toInt32)).toNatClampNeg) (by rfl) hx hb hK hP 15 1 rfl rfl hi117 dX7_years_117 ?_
          refine lv_if_ne (tgt := 132) hx hb dX7_years_118 (by decide) (fun c118 => ?_) (fun c118 => ?_)
          · have hd := dn_f c118 hd
            exact Jo132 (((x3_67 * (1103515245 : Int64)) + (12345 : Int64)) - ((x3_67 * (1103515245 : Int64)) + (12345 : Int64)) / (2147483648 : Int64) * (2147483648 : Int64)) x5_67 S_67 _ _ _ hd (lv_sub hl [2, 3, 1, 4] rfl) hP hS
          · have hd := dn_t c118 hd
            refine lv_aload_n hx hb dX7_years_121 rfl (lv_at hl 2 rfl) ?_
            refine va_get (D := D) (ci := 5) (v := .ref (a 15)) (C := RX7) (T := TX7) (N := 25) hx hb hts (fun w h => List.mem_cons_of_mem _ (List.mem_append_right _ h)) hown hK hP 0 rfl rfl 16 (by decide) (hts (.fieldLink RX7 58 "LeastNeedModel" "hand" "[I") (List.mem_of_getElem? (i := 3) rfl)) (fun _ h9 => h9) rfl dX7_years_122 ?_
            refine lv_bipush (v := (10 : Int32)) hx hb dX7_years_125 (by decide) ?_
            refine lv_iload hx hb dX7_years_127 (lv_at hl 0 rfl) ?_
            refine lv_iadd hx hb dX7_years_129 ?_
            refine lv_iconst (v := (1 : Int32)) hx hb dX7_years_130 (by decide) ?_
            obtain ⟨hi131, hd⟩ := dn_i hd
            refine k_iast (D := D) (k := ((10 : Int32) + ((((((x3_67 * (1103515245 : Int64)) + (12345 : Int64)) - ((x3_67 * (1103515245 : Int64)) + (12345 : Int64)) / (2147483648 : Int64) * (2147483648 : Int64)) / (65536 : Int64)) - ((((x3_67 * (1103515245 : Int64)) + (12345 : Int64)) - ((x3_67 * (1103515245 : Int64)) + (12345 : Int64)) / (2147483648 : Int64) * (2147483648 : Int64)) / (65536 : Int64)) / (5 : Int64) * (5 : Int64)).toInt32)).toNatClampNeg) (by rfl) hx hb hK hP hD hS 15 1 rfl rfl hi131 dX7_years_131 (fun H locs hP hD hS => ?_)
            have hP : va_P D vwCl (wX7 cs a (k_w S_67 15 (((10 : Int32) + ((((((x3_67 * (1103515245 : Int64)) + (12345 : Int64)) - ((x3_67 * (1103515245 : Int64)) + (12345 : Int64)) / (2147483648 : Int64) * (2147483648 : Int64)) / (65536 : Int64)) - ((((x3_67 * (1103515245 : Int64)) + (12345 : Int64)) - ((x3_67 * (1103515245 : Int64)) + (12345 : Int64)) / (2147483648 : Int64) * (2147483648 : Int64)) / (65536 : Int64)) / (5 : Int64) * (5 : Int64)).toInt32)).toNatClampNeg) (1 : Int32)) L) _ := k_eq hP (wsX7_a15 cs a S_67 L (((10 : Int32) + ((((((x3_67 * (1103515245 : Int64)) + (12345 : Int64)) - ((x3_67 * (1103515245 : Int64)) + (12345 : Int64)) / (2147483648 : Int64) * (2147483648 : Int64)) / (65536 : Int64)) - ((((x3_67 * (1103515245 : Int64)) + (12345 : Int64)) - ((x3_67 * (1103515245 : Int64)) + (12345 : Int64)) / (2147483648 : Int64) * (2147483648 : Int64)) / (65536 : Int64)) / (5 : Int64) * (5 : Int64)).toInt32)).toNatClampNeg) (1 : Int32))
            have hD := hDA (k_w S_67 15 (((10 : Int32) + ((((((x3_67 * (1103515245 : Int64)) + (12345 : Int64)) - ((x3_67 * (1103515245 : Int64)) + (12345 : Int64)) / (2147483648 : Int64) * (2147483648 : Int64)) / (65536 : Int64)) - ((((x3_67 * (1103515245 : Int64)) + (12345 : Int64)) - ((x3_67 * (1103515245 : Int64)) + (12345 : Int64)) / (2147483648 : Int64) * (2147483648 : Int64)) / (65536 : Int64)) / (5 : Int64) * (5 : Int64)).toInt32)).toNatClampNeg) (1 : Int32)) L
            exact Jo132 (((x3_67 * (1103515245 : Int64)) + (12345 : Int64)) - ((x3_67 * (1103515245 : Int64)) + (12345 : Int64)) / (2147483648 : Int64) * (2147483648 : Int64)) x5_67 (k_w S_67 15 (((10 : Int32) + ((((((x3_67 * (1103515245 : Int64)) + (12345 : Int64)) - ((x3_67 * (1103515245 : Int64)) + (12345 : Int64)) / (2147483648 : Int64) * (2147483648 : Int64)) / (65536 : Int64)) - ((((x3_67 * (1103515245 : Int64)) + (12345 : Int64)) - ((x3_67 * (1103515245 : Int64)) + (12345 : Int64)) / (2147483648 : Int64) * (2147483648 : Int64)) / (65536 : Int64)) / (5 : Int64) * (5 : Int64)).toInt32)).toNatClampNeg) (1 : Int32)) _ _ _ hd (lv_sub hl [2, 3, 1, 4] rfl) hP hS
  have Lo37 : ∀ (n1 : Nat) (x3_37 : Int64) (x5_37 : Int32) (S_37 : Nat → Nat → Int32) (H : Heap) (locs : List Loc) (ls : Array Slot), k_it (fun st => nX7_years_l37 p2 x3_37 st.1 st.2 L) n1 (x5_37, S_37) = some (r9, S9) → lv_has ls 7 [(0, .ref (a 0)), (2, .int p2), (3, .long x3_37), (5, .int x5_37)] → va_P D vwCl (wX7 cs a S_37 L) H → va_S A s.heap H locs → W p l e (headSpec wsX7_years ({ frames := 5, cells := 0, slots := 0, locals := 130 })).room s m ([.ref (a 0), .int p1, .int p2] : List Value).toArray below meth c H locs 0 0 Q (F0 m 37 ls []) := by
    intro n1
    induction n1 with
    | zero => intro x3_37 x5_37 S_37 H locs ls hd; exact dn_it0 hd
    | succ n1 ih1 =>
      intro x3_37 x5_37 S_37 H locs ls hd hl hP hS
      have hD := hDA S_37 L
      obtain ⟨y1, hd, hy1⟩ := dn_it hd
      have hd : nX7_years_l37 p2 x3_37 x5_37 S_37 L = some y1 := hd
      unfold nX7_years_l37 at hd
      refine lv_iload hx hb dX7_years_37 (lv_at hl 3 rfl) ?_
      refine lv_bipush (v := (80 : Int32)) hx hb dX7_years_39 (by decide) ?_
      refine lv_icmp_ge (tgt := 64) hx hb dX7_years_41 (by decide) (fun c41 => ?_) (fun c41 => ?_)
      · have hd := dn_t c41 hd
        have hd := dn_up hd hy1
        refine lv_iconst (v := (0 : Int32)) hx hb dX7_years_64 (by decide) ?_
        refine lv_istore (lv' := [(5, .int (0 : Int32)), (0, .ref (a 0)), (2, .int p2), (3, .long x3_37)]) hx hb dX7_years_65 hl (by decide) rfl (fun ls hl => ?_)
        exact Lo67 1000 x3_37 (0 : Int32) S_37 _ _ _ hd (lv_sub hl [1, 2, 3, 0] rfl) hP hS
      · have hd := dn_f c41 hd
        refine lv_aload_n hx hb dX7_years_44 rfl (lv_at hl 0 rfl) ?_
        refine va_get (D := D) (ci := 5) (v := .ref (a 15)) (C := RX7) (T := TX7) (N := 25) hx hb hts (fun w h => List.mem_cons_of_mem _ (List.mem_append_right _ h)) hown hK hP 0 rfl rfl 16 (by decide) (hts (.fieldLink RX7 58 "LeastNeedModel" "hand" "[I") (List.mem_of_getElem? (i := 3) rfl)) (fun _ h9 => h9) rfl dX7_years_45 ?_
        refine lv_iload hx hb dX7_years_48 (lv_at hl 3 rfl) ?_
        refine lv_aload_n hx hb dX7_years_50 rfl (lv_at hl 0 rfl) ?_
        refine va_get (D := D) (ci := 5) (v := .ref (a 1)) (C := RX7) (T := TX7) (N := 25) hx hb hts (fun w h => List.mem_cons_of_mem _ (List.mem_append_right _ h)) hown hK hP 0 rfl rfl 0 (by decide) (hts (.fieldLink RX7 7 "LeastNeedModel" "told" "[I") (List.mem_of_getElem? (i := 4) rfl)) (fun _ h9 => h9) rfl dX7_years_51 ?_
        refine lv_iload hx hb dX7_years_54 (lv_at hl 3 rfl) ?_
        obtain ⟨hi56, hd⟩ := dn_i hd
        refine k_iald (D := D) (k := x5_37.toNatClampNeg) (by rfl) hx hb hK hP 1 1 rfl rfl hi56 dX7_years_56 ?_
        obtain ⟨hi57, hd⟩ := dn_i hd
        refine k_iast (D := D) (k := x5_37.toNatClampNeg) (by rfl) hx hb hK hP hD hS 15 1 rfl rfl hi57 dX7_years_57 (fun H locs hP hD hS => ?_)
        have hP : va_P D vwCl (wX7 cs a (k_w S_37 15 x5_37.toNatClampNeg (S_37 1 x5_37.toNatClampNeg)) L) _ := k_eq hP (wsX7_a15 cs a S_37 L x5_37.toNatClampNeg (S_37 1 x5_37.toNatClampNeg))
        have hD := hDA (k_w S_37 15 x5_37.toNatClampNeg (S_37 1 x5_37.toNatClampNeg)) L
        refine lv_iinc (v := x5_37 + (1 : Int32)) (lv' := [(5, .int (x5_37 + (1 : Int32))), (0, .ref (a 0)), (2, .int p2), (3, .long x3_37)]) hx hb dX7_years_58 hl (k := 3) rfl rfl (by decide) rfl (fun ls hl => ?_)
        refine lv_goto (tgt := 37) hx hb dX7_years_61 (by decide) ?_
        exact ih1 x3_37 (x5_37 + (1 : Int32)) (k_w S_37 15 x5_37.toNatClampNeg (S_37 1 x5_37.toNatClampNeg)) _ _ _ (dn_bk hd hy1) (lv_sub hl [1, 2, 3, 0] rfl) hP hS
  have Jo24 : ∀ (S_24 : Nat → Nat → Int32) (H : Heap) (locs : List Loc) (ls : Array Slot), nX7_years_j24 S_24 L = some (r9, S9) → lv_has ls 7 [(0, .ref (a 0))] → va_P D vwCl (wX7 cs a S_24 L) H → va_S A s.heap H locs → W p l e (headSpec wsX7_years ({ frames := 5, cells := 0, slots := 0, locals := 130 })).room s m ([.ref (a 0), .int p1, .int p2] : List Value).toArray below meth c H locs 0 0 Q (F0 m 24 ls []) := by
    intro S_24 H locs ls hd hl hP hS
    have hD := hDA S_24 L
    unfold nX7_years_j24 at hd
    refine lv_aload_n hx hb dX7_years_24 rfl (lv_at hl 0 rfl) ?_
    refine lv_bipush (v := (-2 : Int32)) hx hb dX7_years_25 (by decide) ?_
    obtain ⟨r27, S27, hq27, hd⟩ := dn_b2 hd
    have hF := k_self hD hS hA
    refine k_run_i (va_runV (As := [.int (-2 : Int32)]) (rest := []) ⟨hx, hb, hml, hown, hts⟩ (mX7_bad l D cs a S_24 L (-2 : Int32) r27 S27 hq27 _) (cwV 1 hts gX7_years_X7_bad rfl rfl rfl (by decide +kernel) ⟨Nat.le_of_ble_eq_true rfl, Nat.le_of_ble_eq_true rfl⟩) ⟨k_blind, va_recv hK hP (ci := 5) (q0 := 0) rfl rfl, k_pre hP hK hNn hD⟩ rfl rfl hl.1 rfl (lv_room (Nat.le_of_ble_eq_true rfl)) dX7_years_27 ⟨Nat.le_of_ble_eq_true rfl, Nat.le_of_ble_eq_true rfl⟩) hS hF (fun H locs hP1 hk hS => ?_)
    have hP : va_P D vwCl (wX7 cs a S27 L) _ := hP1
    have hD := hDA S27 L
    obtain ⟨e1, e2⟩ := dn_s2 hd
    exact k_iret hx hb hr hQ hAe e1 (by rw [e2]) hP hS hlocks dX7_years_30
  unfold nX7_years at hd
  refine lv_iload_n hx hb dX7_years_0 rfl (lv_at hl 1 rfl) ?_
  refine lv_i2l hx hb dX7_years_1 rfl ?_
  refine lv_lconst (v := (0 : Int64)) hx hb dX7_years_2 (by decide) ?_
  refine lv_ldc2 (v := (999999 : Int64)) hx hb hown (hts (.constantLong RX7 235 (999999)) (List.mem_of_getElem? (i := 1) rfl)) dX7_years_3 ?_
  obtain ⟨r6, hq6, hd⟩ := dn_b1 hd
  have hPc := k_P0 hP
  have hDc : va_D A ([] : va_W) := k_D0
  have hF := k_self hDc hS hA
  refine k_run_i (va_runS (As := [.long p1.toInt64, .long (0 : Int64), .long (999999 : Int64)]) (rest := []) ⟨hx, hb, hml, hown, hts⟩ (mX7_in l D cs  p1.toInt64 (0 : Int64) (999999 : Int64) r6 hq6 _) (va_cwS 3 hts gX7_years_X7_in rfl rfl rfl (by decide +kernel) ⟨Nat.le_of_ble_eq_true rfl, Nat.le_of_ble_eq_true rfl⟩) ⟨k_blind, k_pre hPc hK hNn hDc⟩ rfl rfl hl.1 rfl (lv_room (Nat.le_of_ble_eq_true rfl)) dX7_years_6 ⟨Nat.le_of_ble_eq_true rfl, Nat.le_of_ble_eq_true rfl⟩) hS hF (fun H locs hP1 hk hS => ?_)
  have hP : va_P D vwCl (wX7 cs a S L) _ := k_keep hP hk
  refine lv_if_eq (tgt := 24) hx hb dX7_years_9 (by decide) (fun c9 => ?_) (fun c9 => ?_)
  · have hd := dn_t c9 hd
    exact Jo24 S _ _ _ hd (lv_sub hl [0] rfl) hP hS
  · have hd := dn_f c9 hd
    refine lv_iload_n hx hb dX7_years_12 rfl (lv_at hl 2 rfl) ?_
    refine lv_i2l hx hb dX7_years_13 rfl ?_
    refine lv_lconst (v := (0 : Int64)) hx hb dX7_years_14 (by decide) ?_
    refine lv_ldc2 (v := (60 : Int64)) hx hb hown (hts (.constantLong RX7 237 (60)) (List.mem_of_getElem? (i := 2) rfl)) dX7_years_15 ?_
    obtain ⟨r18, hq18, hd⟩ := dn_b1 hd
    have hPc := k_P0 hP
    have hDc : va_D A ([] : va_W) := k_D0
    have hF := k_self hDc hS hA
    refine k_run_i (va_runS (As := [.long p2.toInt64, .long (0 : Int64), .long (60 : Int64)]) (rest := []) ⟨hx, hb, hml, hown, hts⟩ (mX7_in l D cs  p2.toInt64 (0 : Int64) (60 : Int64) r18 hq18 _) (va_cwS 3 hts gX7_years_X7_in rfl rfl rfl (by decide +kernel) ⟨Nat.le_of_ble_eq_true rfl, Nat.le_of_ble_eq_true rfl⟩) ⟨k_blind, k_pre hPc hK hNn hDc⟩ rfl rfl hl.1 rfl (lv_room (Nat.le_of_ble_eq_true rfl)) dX7_years_18 ⟨Nat.le_of_ble_eq_true rfl, Nat.le_of_ble_eq_true rfl⟩) hS hF (fun H locs hP1 hk hS => ?_)
    have hP : va_P D vwCl (wX7 cs a S L) _ := k_keep hP hk
    refine lv_if_ne (tgt := 31) hx hb dX7_years_21 (by decide) (fun c21 => ?_) (fun c21 => ?_)
    · have hd := dn_f c21 hd
      refine lv_iload_n hx hb dX7_years_31 rfl (lv_at hl 1 rfl) ?_
      refine lv_i2l hx hb dX7_years_32 rfl ?_
      refine lv_lstore_n (lv' := [(3, .long p1.toInt64), (0, .ref (a 0)), (1, .int p1), (2, .int p2)]) hx hb dX7_years_33 rfl hl (by decide) rfl (fun ls hl => ?_)
      refine lv_iconst (v := (0 : Int32)) hx hb dX7_years_34 (by decide) ?_
      refine lv_istore (lv' := [(5, .int (0 : Int32)), (3, .long p1.toInt64), (0, .ref (a 0)), (1, .int p1), (2, .int p2)]) hx hb dX7_years_35 hl (by decide) rfl (fun ls hl => ?_)
      exact Lo37 1000 p1.toInt64 (0 : Int32) S _ _ _ hd (lv_sub hl [2, 4, 1, 0] rfl) hP hS
    · have hd := dn_t c21 hd
      exact Jo24 S _ _ _ hd (lv_sub hl [0] rfl) hP hS
-- LeastNeedModel.type(I)I
set_option maxRecDepth 20000 in
def nX7_type (S : Nat → Nat → Int32) (L : Nat → Nat → Int64) (p1 : Int32) : Option (Int32 × (Nat → Nat → Int32)) := k_b1 (nX7_in p1.toInt64 (0 : Int64) (127 : Int64)) (fun r6 => if r6 = 0 then k_b2 (nX7_bad S L (-2 : Int32)) (fun r15 S15 => some (r15, S15)) else if (S 0 18) = (150 : Int32) then k_b2 (nX7_full S L) (fun r30 S30 => some (r30, S30)) else if (S 0 18) < 0 ∨ 150 ≤ (S 0 18).toNatClampNeg then none else some (((k_w (k_w S 16 ((S 0 18).toNatClampNeg) p1) 0 18 (((k_w S 16 ((S 0 18).toNatClampNeg) p1) 0 18) + (1 : Int32))) 0 18), (k_w (k_w S 16 ((S 0 18).toNatClampNeg) p1) 0 18 (((k_w S 16 ((S 0 18).toNatClampNeg) p1) 0 18) + (1 : Int32)))))
set_option maxHeartbeats 4000000 in
set_option maxRecDepth 100000 in
theorem mX7_type (l : Launch) (D : va_G) (cs : Nat → ClassId) (a : Nat → Nat) (S : Nat → Nat → Int32) (L : Nat → Nat → Int64) (p1 : Int32) (r9 : Int32) (S9 : (Nat → Nat → Int32)) (hd : nX7_type S L p1 = some (r9, S9)) : ∀ sz : Nat, Met l yX7_type wsX7_type ({ frames := 1, cells := 0, slots := 0, locals := 25 }) (k_Pc D cs [.ref (a 0), .int p1] (wX7 cs a S L) sz) (k_Qi D r9 (wX7 cs a S L) (wX7 cs a S9 L) sz) 0 0 (va_A (wX7 cs a S L) sz) := by
  intro sz
  refine Met.ofW (cc := cX7_type) (maxL := 2) (ret := (some .int)) (by decide) rfl ?_
  intro p e s m args below meth c s₁ B hml hv
  obtain ⟨rfl, hsz, hP, hK, hD0, hNn⟩ := hv
  have hx := B.exec
  have hb := B.bytes
  have hr := B.returns
  have hts := atoms_spec (ws := wsX7_type) B.pre
  have hown : s.vm.findClass RX7 = some m.cls := findClass_of_methodNamed B.named
  have hlocks := B.notSynchronized
  subst hsz
  obtain ⟨A, hAe⟩ : ∃ A : Nat → Prop, A = va_A (wX7 cs a S L) s.heap.size := ⟨_, rfl⟩
  have hD : va_D A (wX7 cs a S L) := by rw [hAe]; exact hD0.self
  have hA : ∀ q : Nat, s.heap.size ≤ q → A q := fun q h => by rw [hAe]; exact Or.inr h
  have hS : va_S A s.heap s.heap [] := va_S.rf
  have hDA : ∀ (S : Nat → Nat → Int32) (L : Nat → Nat → Int64), va_D A (wX7 cs a S L) := fun S L => k_DA hD rfl
  have hl := lv_entry ([.ref (a 0), .int p1]) (n := 2) (Nat.le_of_ble_eq_true rfl)
  rw [lg_entry_eq]
  generalize (lg_sl ([.ref (a 0), .int p1]) ++ List.replicate (2 - (lg_sl ([.ref (a 0), .int p1])).length) Slot.unset).toArray = ls at hl ⊢
  have hl : lv_has ls 2 [(0, .ref (a 0)), (1, .int p1)] := hl
  obtain ⟨Q, hQ⟩ : ∃ Q, Q = MQ below (k_Qi D r9 (wX7 cs a S L) (wX7 cs a S9 L) s.heap.size) ([.ref (a 0), .int p1] : List Value).toArray s 0 0 (va_A (wX7 cs a S L) s.heap.size) := ⟨_, rfl⟩
  rw [← hQ]
  unfold nX7_type at hd
  refine lv_iload_n hx hb dX7_type_0 rfl (lv_at hl 1 rfl) ?_
  refine lv_i2l hx hb dX7_type_1 rfl ?_
  refine lv_lconst (v := (0 : Int64)) hx hb dX7_type_2 (by decide) ?_
  refine lv_ldc2 (v := (127 : Int64)) hx hb hown (hts (.constantLong RX7 251 (127)) (List.mem_of_getElem? (i := 1) rfl)) dX7_type_3 ?_
  obtain ⟨r6, hq6, hd⟩ := dn_b1 hd
  have hPc := k_P0 hP
  have hDc : va_D A ([] : va_W) := k_D0
  have hF := k_self hDc hS hA
  refine k_run_i (va_runS (As := [.long p1.toInt64, .long (0 : Int64), .long (127 : Int64)]) (rest := []) ⟨hx, hb, hml, hown, hts⟩ (mX7_in l D cs  p1.toInt64 (0 : Int64) (127 : Int64) r6 hq6 _) (va_cwS 3 hts gX7_type_X7_in rfl rfl rfl (by decide +kernel) ⟨Nat.le_of_ble_eq_true rfl, Nat.le_of_ble_eq_true rfl⟩) ⟨k_blind, k_pre hPc hK hNn hDc⟩ rfl rfl hl.1 rfl (lv_room (Nat.le_of_ble_eq_true rfl)) dX7_type_6 ⟨Nat.le_of_ble_eq_true rfl, Nat.le_of_ble_eq_true rfl⟩) hS hF (fun H locs hP1 hk hS => ?_)
  have hP : va_P D vwCl (wX7 cs a S L) _ := k_keep hP hk
  refine lv_if_ne (tgt := 19) hx hb dX7_type_9 (by decide) (fun c9 => ?_) (fun c9 => ?_)
  · have hd := dn_f c9 hd
    refine lv_aload_n hx hb dX7_type_19 rfl (lv_at hl 0 rfl) ?_
    refine va_get (D := D) (ci := 5) (v := .int (S 0 18)) (C := RX7) (T := TX7) (N := 25) hx hb hts (fun w h => List.mem_cons_of_mem _ (List.mem_append_right _ h)) hown hK hP 0 rfl rfl 18 (by decide) (hts (.fieldLink RX7 253 "LeastNeedModel" "bytesLong" "I") (List.mem_of_getElem? (i := 2) rfl)) (fun _ h9 => h9) rfl dX7_type_20 ?_
    refine lv_sipush (v := (150 : Int32)) hx hb dX7_type_23 (by decide) ?_
    refine lv_icmp_ne (tgt := 34) hx hb dX7_type_26 (by decide) (fun c26 => ?_) (fun c26 => ?_)
    · have hd := dn_f c26 hd
      refine lv_aload_n hx hb dX7_type_34 rfl (lv_at hl 0 rfl) ?_
      refine va_get (D := D) (ci := 5) (v := .ref (a 16)) (C := RX7) (T := TX7) (N := 25) hx hb hts (fun w h => List.mem_cons_of_mem _ (List.mem_append_right _ h)) hown hK hP 0 rfl rfl 17 (by decide) (hts (.fieldLink RX7 61 "LeastNeedModel" "bytes" "[I") (List.mem_of_getElem? (i := 3) rfl)) (fun _ h9 => h9) rfl dX7_type_35 ?_
      refine lv_aload_n hx hb dX7_type_38 rfl (lv_at hl 0 rfl) ?_
      refine va_get (D := D) (ci := 5) (v := .int (S 0 18)) (C := RX7) (T := TX7) (N := 25) hx hb hts (fun w h => List.mem_cons_of_mem _ (List.mem_append_right _ h)) hown hK hP 0 rfl rfl 18 (by decide) (hts (.fieldLink RX7 253 "LeastNeedModel" "bytesLong" "I") (List.mem_of_getElem? (i := 2) rfl)) (fun _ h9 => h9) rfl dX7_type_39 ?_
      refine lv_iload_n hx hb dX7_type_42 rfl (lv_at hl 1 rfl) ?_
      obtain ⟨hi43, hd⟩ := dn_i hd
      refine k_iast (D := D) (k := (S 0 18).toNatClampNeg) (by rfl) hx hb hK hP hD hS 16 1 rfl rfl hi43 dX7_type_43 (fun H locs hP hD hS => ?_)
      have hP : va_P D vwCl (wX7 cs a (k_w S 16 ((S 0 18).toNatClampNeg) p1) L) _ := k_eq hP (wsX7_a16 cs a S L ((S 0 18).toNatClampNeg) p1)
      have hD := hDA (k_w S 16 ((S 0 18).toNatClampNeg) p1) L
      refine lv_aload_n hx hb dX7_type_44 rfl (lv_at hl 0 rfl) ?_
      refine lv_dup hx hb dX7_type_45 rfl ?_
      refine va_get (D := D) (ci := 5) (v := .int ((k_w S 16 ((S 0 18).toNatClampNeg) p1) 0 18)) (C := RX7) (T := TX7) (N := 25) hx hb hts (fun w h => List.mem_cons_of_mem _ (List.mem_append_right _ h)) hown hK hP 0 rfl rfl 18 (by decide) (hts (.fieldLink RX7 253 "LeastNeedModel" "bytesLong" "I") (List.mem_of_getElem? (i := 2) rfl)) (fun _ h9 => h9) rfl dX7_type_46 ?_
      refine lv_iconst (v := (1 : Int32)) hx hb dX7_type_49 (by decide) ?_
      refine lv_iadd hx hb dX7_type_50 ?_
      refine va_put (D := D) (ci := 5) (v := .int (((k_w S 16 ((S 0 18).toNatClampNeg) p1) 0 18) + (1 : Int32))) (ty := .int) (C := RX7) (T := TX7) (N := 25) hx hb hts (fun w h => List.mem_cons_of_mem _ (List.mem_append_right _ h)) tyX7 tyX7_ok nmX7 hown hK hP hD hS 0 rfl rfl 18 (by decide) (hts (.fieldLink RX7 253 "LeastNeedModel" "bytesLong" "I") (List.mem_of_getElem? (i := 2) rfl)) (fun _ h9 => h9) rfl (by decide +kernel) rfl rfl (Nat.le_of_ble_eq_true rfl) dX7_type_51 (fun H locs hP hD hS => ?_)
      have hP : va_P D vwCl (wX7 cs a (k_w (k_w S 16 ((S 0 18).toNatClampNeg) p1) 0 18 (((k_w S 16 ((S 0 18).toNatClampNeg) p1) 0 18) + (1 : Int32))) L) _ := k_eq hP (wsX7_f0_18 cs a (k_w S 16 ((S 0 18).toNatClampNeg) p1) L (((k_w S 16 ((S 0 18).toNatClampNeg) p1) 0 18) + (1 : Int32)))
      have hD := hDA (k_w (k_w S 16 ((S 0 18).toNatClampNeg) p1) 0 18 (((k_w S 16 ((S 0 18).toNatClampNeg) p1) 0 18) + (1 : Int32))) L
      refine lv_aload_n hx hb dX7_type_54 rfl (lv_at hl 0 rfl) ?_
      refine va_get (D := D) (ci := 5) (v := .int ((k_w (k_w S 16 ((S 0 18).toNatClampNeg) p1) 0 18 (((k_w S 16 ((S 0 18).toNatClampNeg) p1) 0 18) + (1 : Int32))) 0 18)) (C := RX7) (T := TX7) (N := 25) hx hb hts (fun w h => List.mem_cons_of_mem _ (List.mem_append_right _ h)) hown hK hP 0 rfl rfl 18 (by decide) (hts (.fieldLink RX7 253 "LeastNeedModel" "bytesLong" "I") (List.mem_of_getElem? (i := 2) rfl)) (fun _ h9 => h9) rfl dX7_type_55 ?_
      obtain ⟨e1, e2⟩ := dn_s2 hd
      exact k_iret hx hb hr hQ hAe e1 (by rw [e2]) hP hS hlocks dX7_type_58
    · have hd := dn_t c26 hd
      refine lv_aload_n hx hb dX7_type_29 rfl (lv_at hl 0 rfl) ?_
      obtain ⟨r30, S30, hq30, hd⟩ := dn_b2 hd
      have hF := k_self hD hS hA
      refine k_run_i (va_runV (As := []) (rest := []) ⟨hx, hb, hml, hown, hts⟩ (mX7_full l D cs a S L r30 S30 hq30 _) (cwV 0 hts gX7_type_X7_full rfl rfl rfl (by decide +kernel) ⟨Nat.le_of_ble_eq_true rfl, Nat.le_of_ble_eq_true rfl⟩) ⟨k_blind, va_recv hK hP (ci := 5) (q0 := 0) rfl rfl, k_pre hP hK hNn hD⟩ rfl rfl hl.1 rfl (lv_room (Nat.le_of_ble_eq_true rfl)) dX7_type_30 ⟨Nat.le_of_ble_eq_true rfl, Nat.le_of_ble_eq_true rfl⟩) hS hF (fun H locs hP1 hk hS => ?_)
      have hP : va_P D vwCl (wX7 cs a S30 L) _ := hP1
      have hD := hDA S30 L
      obtain ⟨e1, e2⟩ := dn_s2 hd
      exact k_iret hx hb hr hQ hAe e1 (by rw [e2]) hP hS hlocks dX7_type_33
  · have hd := dn_t c9 hd
    refine lv_aload_n hx hb dX7_type_12 rfl (lv_at hl 0 rfl) ?_
    refine lv_bipush (v := (-2 : Int32)) hx hb dX7_type_13 (by decide) ?_
    obtain ⟨r15, S15, hq15, hd⟩ := dn_b2 hd
    have hF := k_self hD hS hA
    refine k_run_i (va_runV (As := [.int (-2 : Int32)]) (rest := []) ⟨hx, hb, hml, hown, hts⟩ (mX7_bad l D cs a S L (-2 : Int32) r15 S15 hq15 _) (cwV 1 hts gX7_type_X7_bad rfl rfl rfl (by decide +kernel) ⟨Nat.le_of_ble_eq_true rfl, Nat.le_of_ble_eq_true rfl⟩) ⟨k_blind, va_recv hK hP (ci := 5) (q0 := 0) rfl rfl, k_pre hP hK hNn hD⟩ rfl rfl hl.1 rfl (lv_room (Nat.le_of_ble_eq_true rfl)) dX7_type_15 ⟨Nat.le_of_ble_eq_true rfl, Nat.le_of_ble_eq_true rfl⟩) hS hF (fun H locs hP1 hk hS => ?_)
    have hP : va_P D vwCl (wX7 cs a S15 L) _ := hP1
    have hD := hDA S15 L
    obtain ⟨e1, e2⟩ := dn_s2 hd
    exact k_iret hx hb hr hQ hAe e1 (by rw [e2]) hP hS hlocks dX7_type_18
-- LeastNeedModel.clear()I
set_option maxRecDepth 20000 in
def nX7_clear (S : Nat → Nat → Int32) (L : Nat → Nat → Int64) : Option (Int32 × (Nat → Nat → Int32)) := some ((S 0 18), (k_w S 0 18 (0 : Int32)))
set_option maxHeartbeats 4000000 in
set_option maxRecDepth 100000 in
theorem mX7_clear (l : Launch) (D : va_G) (cs : Nat → ClassId) (a : Nat → Nat) (S : Nat → Nat → Int32) (L : Nat → Nat → Int64) (r9 : Int32) (S9 : (Nat → Nat → Int32)) (hd : nX7_clear S L = some (r9, S9)) : ∀ sz : Nat, Met l yX7_clear wsX7_clear ({ frames := 0, cells := 0, slots := 0, locals := 0 }) (k_Pc D cs [.ref (a 0)] (wX7 cs a S L) sz) (k_Qi D r9 (wX7 cs a S L) (wX7 cs a S9 L) sz) 0 0 (va_A (wX7 cs a S L) sz) := by
  intro sz
  refine Met.ofW (cc := cX7_clear) (maxL := 2) (ret := (some .int)) (by decide) rfl ?_
  intro p e s m args below meth c s₁ B hml hv
  obtain ⟨rfl, hsz, hP, hK, hD0, hNn⟩ := hv
  have hx := B.exec
  have hb := B.bytes
  have hr := B.returns
  have hts := atoms_spec (ws := wsX7_clear) B.pre
  have hown : s.vm.findClass RX7 = some m.cls := findClass_of_methodNamed B.named
  have hlocks := B.notSynchronized
  subst hsz
  obtain ⟨A, hAe⟩ : ∃ A : Nat → Prop, A = va_A (wX7 cs a S L) s.heap.size := ⟨_, rfl⟩
  have hD : va_D A (wX7 cs a S L) := by rw [hAe]; exact hD0.self
  have hA : ∀ q : Nat, s.heap.size ≤ q → A q := fun q h => by rw [hAe]; exact Or.inr h
  have hS : va_S A s.heap s.heap [] := va_S.rf
  have hDA : ∀ (S : Nat → Nat → Int32) (L : Nat → Nat → Int64), va_D A (wX7 cs a S L) := fun S L => k_DA hD rfl
  have hl := lv_entry ([.ref (a 0)]) (n := 2) (Nat.le_of_ble_eq_true rfl)
  rw [lg_entry_eq]
  generalize (lg_sl ([.ref (a 0)]) ++ List.replicate (2 - (lg_sl ([.ref (a 0)])).length) Slot.unset).toArray = ls at hl ⊢
  have hl : lv_has ls 2 [(0, .ref (a 0))] := hl
  obtain ⟨Q, hQ⟩ : ∃ Q, Q = MQ below (k_Qi D r9 (wX7 cs a S L) (wX7 cs a S9 L) s.heap.size) ([.ref (a 0)] : List Value).toArray s 0 0 (va_A (wX7 cs a S L) s.heap.size) := ⟨_, rfl⟩
  rw [← hQ]
  unfold nX7_clear at hd
  refine lv_aload_n hx hb dX7_clear_0 rfl (lv_at hl 0 rfl) ?_
  refine va_get (D := D) (ci := 5) (v := .int (S 0 18)) (C := RX7) (T := TX7) (N := 25) hx hb hts (fun w h => List.mem_cons_of_mem _ (List.mem_append_right _ h)) hown hK hP 0 rfl rfl 18 (by decide) (hts (.fieldLink RX7 253 "LeastNeedModel" "bytesLong" "I") (List.mem_of_getElem? (i := 1) rfl)) (fun _ h9 => h9) rfl dX7_clear_1 ?_
  refine lv_istore_n (lv' := [(1, .int (S 0 18)), (0, .ref (a 0))]) hx hb dX7_clear_4 rfl hl (by decide) rfl (fun ls hl => ?_)
  refine lv_aload_n hx hb dX7_clear_5 rfl (lv_at hl 1 rfl) ?_
  refine lv_iconst (v := (0 : Int32)) hx hb dX7_clear_6 (by decide) ?_
  refine va_put (D := D) (ci := 5) (v := .int (0 : Int32)) (ty := .int) (C := RX7) (T := TX7) (N := 25) hx hb hts (fun w h => List.mem_cons_of_mem _ (List.mem_append_right _ h)) tyX7 tyX7_ok nmX7 hown hK hP hD hS 0 rfl rfl 18 (by decide) (hts (.fieldLink RX7 253 "LeastNeedModel" "bytesLong" "I") (List.mem_of_getElem? (i := 1) rfl)) (fun _ h9 => h9) rfl (by decide +kernel) rfl rfl (Nat.le_of_ble_eq_true rfl) dX7_clear_7 (fun H locs hP hD hS => ?_)
  have hP : va_P D vwCl (wX7 cs a (k_w S 0 18 (0 : Int32)) L) _ := k_eq hP (wsX7_f0_18 cs a S L (0 : Int32))
  have hD := hDA (k_w S 0 18 (0 : Int32)) L
  refine lv_iload_n hx hb dX7_clear_10 rfl (lv_at hl 0 rfl) ?_
  obtain ⟨e1, e2⟩ := dn_s2 hd
  exact k_iret hx hb hr hQ hAe e1 (by rw [e2]) hP hS hlocks dX7_clear_11
-- LeastNeedModel.isSmall(I)Z
set_option maxRecDepth 20000 in
def nX7_isSmall (p0 : Int32) : Option (Int32) := k_b1 (nX7_in p0.toInt64 (97 : Int64) (122 : Int64)) (fun r8 => if ¬ (r8 = 0 ∨ r8 = 1) then none else some r8)
set_option maxHeartbeats 4000000 in
set_option maxRecDepth 100000 in
theorem mX7_isSmall (l : Launch) (D : va_G) (cs : Nat → ClassId) (p0 : Int32) (r9 : Int32) (hd : nX7_isSmall p0 = some r9) : ∀ sz : Nat, Met l yX7_isSmall wsX7_isSmall ({ frames := 1, cells := 0, slots := 0, locals := 25 }) (k_Pc D cs [.int p0] ([] : va_W) sz) (k_Qi D r9 ([] : va_W) ([] : va_W) sz) 0 0 (va_A ([] : va_W) sz) := by
  intro sz
  refine Met.ofW (cc := cX7_isSmall) (maxL := 1) (ret := (some .boolean)) (by decide) rfl ?_
  intro p e s m args below meth c s₁ B hml hv
  obtain ⟨rfl, hsz, hP, hK, hD0, hNn⟩ := hv
  have hx := B.exec
  have hb := B.bytes
  have hr := B.returns
  have hts := atoms_spec (ws := wsX7_isSmall) B.pre
  have hown : s.vm.findClass RX7 = some m.cls := findClass_of_methodNamed B.named
  have hlocks := B.notSynchronized
  subst hsz
  obtain ⟨A, hAe⟩ : ∃ A : Nat → Prop, A = va_A ([] : va_W) s.heap.size := ⟨_, rfl⟩
  have hD : va_D A ([] : va_W) := by rw [hAe]; exact hD0.self
  have hA : ∀ q : Nat, s.heap.size ≤ q → A q := fun q h => by rw [hAe]; exact Or.inr h
  have hS : va_S A s.heap s.heap [] := va_S.rf
  have hl := lv_entry ([.int p0]) (n := 1) (Nat.le_of_ble_eq_true rfl)
  rw [lg_entry_eq]
  generalize (lg_sl ([.int p0]) ++ List.replicate (1 - (lg_sl ([.int p0])).length) Slot.unset).toArray = ls at hl ⊢
  have hl : lv_has ls 1 [(0, .int p0)] := hl
  obtain ⟨Q, hQ⟩ : ∃ Q, Q = MQ below (k_Qi D r9 ([] : va_W) ([] : va_W) s.heap.size) ([.int p0] : List Value).toArray s 0 0 (va_A ([] : va_W) s.heap.size) := ⟨_, rfl⟩
  rw [← hQ]
  unfold nX7_isSmall at hd
  refine lv_iload_n hx hb dX7_isSmall_0 rfl (lv_at hl 0 rfl) ?_
  refine lv_i2l hx hb dX7_isSmall_1 rfl ?_
  refine lv_ldc2 (v := (97 : Int64)) hx hb hown (hts (.constantLong RX7 257 (97)) (List.mem_of_getElem? (i := 1) rfl)) dX7_isSmall_2 ?_
  refine lv_ldc2 (v := (122 : Int64)) hx hb hown (hts (.constantLong RX7 259 (122)) (List.mem_of_getElem? (i := 2) rfl)) dX7_isSmall_5 ?_
  obtain ⟨r8, hq8, hd⟩ := dn_b1 hd
  have hF := k_self hD hS hA
  refine k_run_i (va_runS (As := [.long p0.toInt64, .long (97 : Int64), .long (122 : Int64)]) (rest := []) ⟨hx, hb, hml, hown, hts⟩ (mX7_in l D cs  p0.toInt64 (97 : Int64) (122 : Int64) r8 hq8 _) (va_cwS 3 hts gX7_isSmall_X7_in rfl rfl rfl (by decide +kernel) ⟨Nat.le_of_ble_eq_true rfl, Nat.le_of_ble_eq_true rfl⟩) ⟨k_blind, k_pre hP hK hNn hD⟩ rfl rfl hl.1 rfl (lv_room (Nat.le_of_ble_eq_true rfl)) dX7_isSmall_8 ⟨Nat.le_of_ble_eq_true rfl, Nat.le_of_ble_eq_true rfl⟩) hS hF (fun H locs hP1 hk hS => ?_)
  have hP : va_P D vwCl ([] : va_W) _ := hP1
  obtain ⟨hz, hd⟩ := dn_n hd
  have e1 := dn_s1 hd
  exact k_zret hx hb hr (dn_z hz) hQ hAe e1 rfl hP hS hlocks dX7_isSmall_11
-- LeastNeedModel.isFigure(I)Z
set_option maxRecDepth 20000 in
def nX7_isFigure (p0 : Int32) : Option (Int32) := k_b1 (nX7_in p0.toInt64 (48 : Int64) (57 : Int64)) (fun r8 => if ¬ (r8 = 0 ∨ r8 = 1) then none else some r8)
set_option maxHeartbeats 4000000 in
set_option maxRecDepth 100000 in
theorem mX7_isFigure (l : Launch) (D : va_G) (cs : Nat → ClassId) (p0 : Int32) (r9 : Int32) (hd : nX7_isFigure p0 = some r9) : ∀ sz : Nat, Met l yX7_isFigure wsX7_isFigure ({ frames := 1, cells := 0, slots := 0, locals := 25 }) (k_Pc D cs [.int p0] ([] : va_W) sz) (k_Qi D r9 ([] : va_W) ([] : va_W) sz) 0 0 (va_A ([] : va_W) sz) := by
  intro sz
  refine Met.ofW (cc := cX7_isFigure) (maxL := 1) (ret := (some .boolean)) (by decide) rfl ?_
  intro p e s m args below meth c s₁ B hml hv
  obtain ⟨rfl, hsz, hP, hK, hD0, hNn⟩ := hv
  have hx := B.exec
  have hb := B.bytes
  have hr := B.returns
  have hts := atoms_spec (ws := wsX7_isFigure) B.pre
  have hown : s.vm.findClass RX7 = some m.cls := findClass_of_methodNamed B.named
  have hlocks := B.notSynchronized
  subst hsz
  obtain ⟨A, hAe⟩ : ∃ A : Nat → Prop, A = va_A ([] : va_W) s.heap.size := ⟨_, rfl⟩
  have hD : va_D A ([] : va_W) := by rw [hAe]; exact hD0.self
  have hA : ∀ q : Nat, s.heap.size ≤ q → A q := fun q h => by rw [hAe]; exact Or.inr h
  have hS : va_S A s.heap s.heap [] := va_S.rf
  have hl := lv_entry ([.int p0]) (n := 1) (Nat.le_of_ble_eq_true rfl)
  rw [lg_entry_eq]
  generalize (lg_sl ([.int p0]) ++ List.replicate (1 - (lg_sl ([.int p0])).length) Slot.unset).toArray = ls at hl ⊢
  have hl : lv_has ls 1 [(0, .int p0)] := hl
  obtain ⟨Q, hQ⟩ : ∃ Q, Q = MQ below (k_Qi D r9 ([] : va_W) ([] : va_W) s.heap.size) ([.int p0] : List Value).toArray s 0 0 (va_A ([] : va_W) s.heap.size) := ⟨_, rfl⟩
  rw [← hQ]
  unfold nX7_isFigure at hd
  refine lv_iload_n hx hb dX7_isFigure_0 rfl (lv_at hl 0 rfl) ?_
  refine lv_i2l hx hb dX7_isFigure_1 rfl ?_
  refine lv_ldc2 (v := (48 : Int64)) hx hb hown (hts (.constantLong RX7 261 (48)) (List.mem_of_getElem? (i := 1) rfl)) dX7_isFigure_2 ?_
  refine lv_ldc2 (v := (57 : Int64)) hx hb hown (hts (.constantLong RX7 263 (57)) (List.mem_of_getElem? (i := 2) rfl)) dX7_isFigure_5 ?_
  obtain ⟨r8, hq8, hd⟩ := dn_b1 hd
  have hF := k_self hD hS hA
  refine k_run_i (va_runS (As := [.long p0.toInt64, .long (48 : Int64), .long (57 : Int64)]) (rest := []) ⟨hx, hb, hml, hown, hts⟩ (mX7_in l D cs  p0.toInt64 (48 : Int64) (57 : Int64) r8 hq8 _) (va_cwS 3 hts gX7_isFigure_X7_in rfl rfl rfl (by decide +kernel) ⟨Nat.le_of_ble_eq_true rfl, Nat.le_of_ble_eq_true rfl⟩) ⟨k_blind, k_pre hP hK hNn hD⟩ rfl rfl hl.1 rfl (lv_room (Nat.le_of_ble_eq_true rfl)) dX7_isFigure_8 ⟨Nat.le_of_ble_eq_true rfl, Nat.le_of_ble_eq_true rfl⟩) hS hF (fun H locs hP1 hk hS => ?_)
  have hP : va_P D vwCl ([] : va_W) _ := hP1
  obtain ⟨hz, hd⟩ := dn_n hd
  have e1 := dn_s1 hd
  exact k_zret hx hb hr (dn_z hz) hQ hAe e1 rfl hP hS hlocks dX7_isFigure_11
-- LeastNeedModel.lookAt(I)V
set_option maxRecDepth 20000 in
def nX7_lookAt_j274 (S_274 : Nat → Nat → Int32) (L : Nat → Nat → Int64) : Option ((Nat → Nat → Int32)) := if (S_274 0 21) = (2 : Int32) then if (S_274 0 20) ≤ (2 : Int32) then some (k_w S_274 0 21 (S_274 0 21)) else some (k_w S_274 0 21 (4 : Int32)) else some (k_w S_274 0 21 (S_274 0 21))
set_option maxRecDepth 20000 in
def nX7_lookAt_l218 (x4_218 : Int32) (S_218 : Nat → Nat → Int32) (L : Nat → Nat → Int64) : Option ((Int32 × (Nat → Nat → Int32)) ⊕ ((Nat → Nat → Int32))) := if (S_218 0 20) ≤ x4_218 then k_up (nX7_lookAt_j274 S_218 L) else if (2 : Int32) ≤ x4_218 then k_up (nX7_lookAt_j274 S_218 L) else if (S_218 0 21) = (2 : Int32) then if ((S_218 0 19) + x4_218) < 0 ∨ 150 ≤ ((S_218 0 19) + x4_218).toNatClampNeg then none else some (.inl ((x4_218 + (1 : Int32)), (k_w S_218 0 22 ((((10 : Int32) * (S_218 0 22)) + (S_218 16 ((S_218 0 19) + x4_218).toNatClampNeg)) - (48 : Int32))))) else k_up (nX7_lookAt_j274 S_218 L)
set_option maxRecDepth 20000 in
def nX7_lookAt_i136_j193 (w0_193 : Int32) (S_193 : Nat → Nat → Int32) (L : Nat → Nat → Int64) : Option ((Int32 × (Nat → Nat → Int32)) ⊕ ((Nat → Nat → Int32))) := if w0_193 = 0 then some (.inl (w0_193, (k_w S_193 0 20 ((S_193 0 20) + (0 : Int32))))) else some (.inl (w0_193, (k_w S_193 0 20 ((S_193 0 20) + (1 : Int32)))))
set_option maxRecDepth 20000 in
def nX7_lookAt_l136 (x3_136 : Int32) (S_136 : Nat → Nat → Int32) (L : Nat → Nat → Int64) : Option ((Int32 × (Nat → Nat → Int32)) ⊕ ((Nat → Nat → Int32))) := if x3_136 = 0 then k_up (k_it (fun st => nX7_lookAt_l218 st.1 st.2 L) 1000 ((0 : Int32), S_136)) else if (S_136 0 18) ≤ ((S_136 0 19) + (S_136 0 20)) then k_up (k_it (fun st => nX7_lookAt_l218 st.1 st.2 L) 1000 ((0 : Int32), S_136)) else if ((S_136 0 19) + (S_136 0 20)) < 0 ∨ 150 ≤ ((S_136 0 19) + (S_136 0 20)).toNatClampNeg then none else if (S_136 0 21) = (1 : Int32) then k_b1 (nX7_isSmall (S_136 16 ((S_136 0 19) + (S_136 0 20)).toNatClampNeg)) (fun r182 => nX7_lookAt_i136_j193 r182 S_136 L) else k_b1 (nX7_isFigure (S_136 16 ((S_136 0 19) + (S_136 0 20)).toNatClampNeg)) (fun r190 => nX7_lookAt_i136_j193 r190 S_136 L)
set_option maxRecDepth 20000 in
def nX7_lookAt_j114 (w0_114 : Int32) (S_114 : Nat → Nat → Int32) (L : Nat → Nat → Int64) : Option ((Nat → Nat → Int32)) := if (3 : Int32) ≤ ((k_w (k_w S_114 0 21 w0_114) 0 20 (1 : Int32)) 0 21) then k_it (fun st => nX7_lookAt_l136 st.1 st.2 L) 1000 ((0 : Int32), (k_w (k_w S_114 0 21 w0_114) 0 20 (1 : Int32))) else k_it (fun st => nX7_lookAt_l136 st.1 st.2 L) 1000 ((1 : Int32), (k_w (k_w S_114 0 21 w0_114) 0 20 (1 : Int32)))
set_option maxRecDepth 20000 in
def nX7_lookAt_j43 (S_43 : Nat → Nat → Int32) (L : Nat → Nat → Int64) : Option ((Nat → Nat → Int32)) := if ((k_w (k_w (k_w S_43 0 20 (0 : Int32)) 0 21 (0 : Int32)) 0 22 (0 : Int32)) 0 19) = ((k_w (k_w (k_w S_43 0 20 (0 : Int32)) 0 21 (0 : Int32)) 0 22 (0 : Int32)) 0 18) then some (k_w (k_w (k_w S_43 0 20 (0 : Int32)) 0 21 (0 : Int32)) 0 22 (0 : Int32)) else if ((k_w (k_w (k_w S_43 0 20 (0 : Int32)) 0 21 (0 : Int32)) 0 22 (0 : Int32)) 0 19) < 0 ∨ 150 ≤ ((k_w (k_w (k_w S_43 0 20 (0 : Int32)) 0 21 (0 : Int32)) 0 22 (0 : Int32)) 0 19).toNatClampNeg then none else k_b1 (nX7_isSmall ((k_w (k_w (k_w S_43 0 20 (0 : Int32)) 0 21 (0 : Int32)) 0 22 (0 : Int32)) 16 ((k_w (k_w (k_w S_43 0 20 (0 : Int32)) 0 21 (0 : Int32)) 0 22 (0 : Int32)) 0 19).toNatClampNeg)) (fun r82 => if r82 = 0 then k_b1 (nX7_isFigure ((k_w (k_w (k_w S_43 0 20 (0 : Int32)) 0 21 (0 : Int32)) 0 22 (0 : Int32)) 16 ((k_w (k_w (k_w S_43 0 20 (0 : Int32)) 0 21 (0 : Int32)) 0 22 (0 : Int32)) 0 19).toNatClampNeg)) (fun r93 => if r93 = 0 then if ((k_w (k_w (k_w S_43 0 20 (0 : Int32)) 0 21 (0 : Int32)) 0 22 (0 : Int32)) 16 ((k_w (k_w (k_w S_43 0 20 (0 : Int32)) 0 21 (0 : Int32)) 0 22 (0 : Int32)) 0 19).toNatClampNeg) = (59 : Int32) then nX7_lookAt_j114 (3 : Int32) (k_w (k_w (k_w S_43 0 20 (0 : Int32)) 0 21 (0 : Int32)) 0 22 (0 : Int32)) L else nX7_lookAt_j114 (4 : Int32) (k_w (k_w (k_w S_43 0 20 (0 : Int32)) 0 21 (0 : Int32)) 0 22 (0 : Int32)) L else nX7_lookAt_j114 (2 : Int32) (k_w (k_w (k_w S_43 0 20 (0 : Int32)) 0 21 (0 : Int32)) 0 22 (0 : Int32)) L) else nX7_lookAt_j114 (1 : Int32) (k_w (k_w (k_w S_43 0 20 (0 : Int32)) 0 21 (0 : Int32)) 0 22 (0 : Int32)) L)
set_option maxRecDepth 20000 in
def nX7_lookAt_l5 (S_5 : Nat → Nat → Int32) (L : Nat → Nat → Int64) : Option (((Nat → Nat → Int32)) ⊕ ((Nat → Nat → Int32))) := if (S_5 0 18) ≤ (S_5 0 19) then k_up (nX7_lookAt_j43 S_5 L) else if (S_5 0 19) < 0 ∨ 150 ≤ (S_5 0 19).toNatClampNeg then none else if (S_5 16 (S_5 0 19).toNatClampNeg) = (32 : Int32) then some (.inl (k_w S_5 0 19 ((S_5 0 19) + (1 : Int32)))) else k_up (nX7_lookAt_j43 S_5 L)
set_option maxRecDepth 20000 in
def nX7_lookAt (S : Nat → Nat → Int32) (L : Nat → Nat → Int64) (p1 : Int32) : Option ((Nat → Nat → Int32)) := k_it (fun st => nX7_lookAt_l5 st L) 1000 (k_w S 0 19 p1)
set_option maxHeartbeats 4000000 in
set_option maxRecDepth 100000 in
theorem mX7_lookAt (l : Launch) (D : va_G) (cs : Nat → ClassId) (a : Nat → Nat) (S : Nat → Nat → Int32) (L : Nat → Nat → Int64) (p1 : Int32) (S9 : (Nat → Nat → Int32)) (hd : nX7_lookAt S L p1 = some S9) : ∀ sz : Nat, Met l yX7_lookAt wsX7_lookAt ({ frames := 2, cells := 0, slots := 0, locals := 45 }) (k_Pc D cs [.ref (a 0), .int p1] (wX7 cs a S L) sz) (k_Qv D (wX7 cs a S L) (wX7 cs a S9 L) sz) 0 0 (va_A (wX7 cs a S L) sz) := by
  intro sz
  refine Met.ofW (cc := cX7_lookAt) (maxL := 5) (ret := none) (by decide) rfl ?_
  intro p e s m args below meth c s₁ B hml hv
  obtain ⟨rfl, hsz, hP, hK, hD0, hNn⟩ := hv
  have hx := B.exec
  have hb := B.bytes
  have hr := B.returns
  have hts := atoms_spec (ws := wsX7_lookAt) B.pre
  have hown : s.vm.findClass RX7 = some m.cls := findClass_of_methodNamed B.named
  have hlocks := B.notSynchronized
  subst hsz
  obtain ⟨A, hAe⟩ : ∃ A : Nat → Prop, A = va_A (wX7 cs a S L) s.heap.size := ⟨_, rfl⟩
  have hD : va_D A (wX7 cs a S L) := by rw [hAe]; exact hD0.self
  have hA : ∀ q : Nat, s.heap.size ≤ q → A q := fun q h => by rw [hAe]; exact Or.inr h
  have hS : va_S A s.heap s.heap [] := va_S.rf
  have hDA : ∀ (S : Nat → Nat → Int32) (L : Nat → Nat → Int64), va_D A (wX7 cs a S L) := fun S L => k_DA hD rfl
  have hl := lv_entry ([.ref (a 0), .int p1]) (n := 5) (Nat.le_of_ble_eq_true rfl)
  rw [lg_entry_eq]
  generalize (lg_sl ([.ref (a 0), .int p1]) ++ List.replicate (5 - (lg_sl ([.ref (a 0), .int p1])).length) Slot.unset).toArray = ls at hl ⊢
  have hl : lv_has ls 5 [(0, .ref (a 0)), (1, .int p1)] := hl
  obtain ⟨Q, hQ⟩ : ∃ Q, Q = MQ below (k_Qv D (wX7 cs a S L) (wX7 cs a S9 L) s.heap.size) ([.ref (a 0), .int p1] : List Value).toArray s 0 0 (va_A (wX7 cs a S L) s.heap.size) := ⟨_, rfl⟩
  rw [← hQ]
  have Jo274 : ∀ (S_274 : Nat → Nat → Int32) (H : Heap) (locs : List Loc) (ls : Array Slot), nX7_lookAt_j274 S_274 L = some S9 → lv_has ls 5 [(0, .ref (a 0))] → va_P D vwCl (wX7 cs a S_274 L) H → va_S A s.heap H locs → W p l e (headSpec wsX7_lookAt ({ frames := 2, cells := 0, slots := 0, locals := 45 })).room s m ([.ref (a 0), .int p1] : List Value).toArray below meth c H locs 0 0 Q (F0 m 274 ls []) := by
    intro S_274 H locs ls hd hl hP hS
    have hD := hDA S_274 L
    unfold nX7_lookAt_j274 at hd
    refine lv_aload_n hx hb dX7_lookAt_274 rfl (lv_at hl 0 rfl) ?_
    refine lv_aload_n hx hb dX7_lookAt_275 rfl (lv_at hl 0 rfl) ?_
    refine va_get (D := D) (ci := 5) (v := .int (S_274 0 21)) (C := RX7) (T := TX7) (N := 25) hx hb hts (fun w h => List.mem_cons_of_mem _ (List.mem_append_right _ h)) hown hK hP 0 rfl rfl 21 (by decide) (hts (.fieldLink RX7 271 "LeastNeedModel" "token" "I") (List.mem_of_getElem? (i := 5) rfl)) (fun _ h9 => h9) rfl dX7_lookAt_276 ?_
    refine lv_iconst (v := (2 : Int32)) hx hb dX7_lookAt_279 (by decide) ?_
    refine lv_icmp_ne (tgt := 295) hx hb dX7_lookAt_280 (by decide) (fun c280 => ?_) (fun c280 => ?_)
    · have hd := dn_f c280 hd
      refine lv_aload_n hx hb dX7_lookAt_295 rfl (lv_at hl 0 rfl) ?_
      refine va_get (D := D) (ci := 5) (v := .int (S_274 0 21)) (C := RX7) (T := TX7) (N := 25) hx hb hts (fun w h => List.mem_cons_of_mem _ (List.mem_append_right _ h)) hown hK hP 0 rfl rfl 21 (by decide) (hts (.fieldLink RX7 271 "LeastNeedModel" "token" "I") (List.mem_of_getElem? (i := 5) rfl)) (fun _ h9 => h9) rfl dX7_lookAt_296 ?_
      refine va_put (D := D) (ci := 5) (v := .int (S_274 0 21)) (ty := .int) (C := RX7) (T := TX7) (N := 25) hx hb hts (fun w h => List.mem_cons_of_mem _ (List.mem_append_right _ h)) tyX7 tyX7_ok nmX7 hown hK hP hD hS 0 rfl rfl 21 (by decide) (hts (.fieldLink RX7 271 "LeastNeedModel" "token" "I") (List.mem_of_getElem? (i := 5) rfl)) (fun _ h9 => h9) rfl (by decide +kernel) rfl rfl (Nat.le_of_ble_eq_true rfl) dX7_lookAt_299 (fun H locs hP hD hS => ?_)
      have hP : va_P D vwCl (wX7 cs a (k_w S_274 0 21 (S_274 0 21)) L) _ := k_eq hP (wsX7_f0_21 cs a S_274 L (S_274 0 21))
      have hD := hDA (k_w S_274 0 21 (S_274 0 21)) L
      have e1 := dn_s1 hd
      exact k_vret hx hb hr hQ hAe (by rw [e1]) hP hS hlocks dX7_lookAt_302
    · have hd := dn_t c280 hd
      refine lv_aload_n hx hb dX7_lookAt_283 rfl (lv_at hl 0 rfl) ?_
      refine va_get (D := D) (ci := 5) (v := .int (S_274 0 20)) (C := RX7) (T := TX7) (N := 25) hx hb hts (fun w h => List.mem_cons_of_mem _ (List.mem_append_right _ h)) hown hK hP 0 rfl rfl 20 (by decide) (hts (.fieldLink RX7 268 "LeastNeedModel" "tokenLong" "I") (List.mem_of_getElem? (i := 4) rfl)) (fun _ h9 => h9) rfl dX7_lookAt_284 ?_
      refine lv_iconst (v := (2 : Int32)) hx hb dX7_lookAt_287 (by decide) ?_
      refine lv_icmp_le (tgt := 295) hx hb dX7_lookAt_288 (by decide) (fun c288 => ?_) (fun c288 => ?_)
      · have hd := dn_t c288 hd
        refine lv_aload_n hx hb dX7_lookAt_295 rfl (lv_at hl 0 rfl) ?_
        refine va_get (D := D) (ci := 5) (v := .int (S_274 0 21)) (C := RX7) (T := TX7) (N := 25) hx hb hts (fun w h => List.mem_cons_of_mem _ (List.mem_append_right _ h)) hown hK hP 0 rfl rfl 21 (by decide) (hts (.fieldLink RX7 271 "LeastNeedModel" "token" "I") (List.mem_of_getElem? (i := 5) rfl)) (fun _ h9 => h9) rfl dX7_lookAt_296 ?_
        refine va_put (D := D) (ci := 5) (v := .int (S_274 0 21)) (ty := .int) (C := RX7) (T := TX7) (N := 25) hx hb hts (fun w h => List.mem_cons_of_mem _ (List.mem_append_right _ h)) tyX7 tyX7_ok nmX7 hown hK hP hD hS 0 rfl rfl 21 (by decide) (hts (.fieldLink RX7 271 "LeastNeedModel" "token" "I") (List.mem_of_getElem? (i := 5) rfl)) (fun _ h9 => h9) rfl (by decide +kernel) rfl rfl (Nat.le_of_ble_eq_true rfl) dX7_lookAt_299 (fun H locs hP hD hS => ?_)
        have hP : va_P D vwCl (wX7 cs a (k_w S_274 0 21 (S_274 0 21)) L) _ := k_eq hP (wsX7_f0_21 cs a S_274 L (S_274 0 21))
        have hD := hDA (k_w S_274 0 21 (S_274 0 21)) L
        have e1 := dn_s1 hd
        exact k_vret hx hb hr hQ hAe (by rw [e1]) hP hS hlocks dX7_lookAt_302
      · have hd := dn_f c288 hd
        refine lv_iconst (v := (4 : Int32)) hx hb dX7_lookAt_291 (by decide) ?_
        refine lv_goto (tgt := 299) hx hb dX7_lookAt_292 (by decide) ?_
        refine va_put (D := D) (ci := 5) (v := .int (4 : Int32)) (ty := .int) (C := RX7) (T := TX7) (N := 25) hx hb hts (fun w h => List.mem_cons_of_mem _ (List.mem_append_right _ h)) tyX7 tyX7_ok nmX7 hown hK hP hD hS 0 rfl rfl 21 (by decide) (hts (.fieldLink RX7 271 "LeastNeedModel" "token" "I") (List.mem_of_getElem? (i := 5) rfl)) (fun _ h9 => h9) rfl (by decide +kernel) rfl rfl (Nat.le_of_ble_eq_true rfl) dX7_lookAt_299 (fun H locs hP hD hS => ?_)
        have hP : va_P D vwCl (wX7 cs a (k_w S_274 0 21 (4 : Int32)) L) _ := k_eq hP (wsX7_f0_21 cs a S_274 L (4 : Int32))
        have hD := hDA (k_w S_274 0 21 (4 : Int32)) L
        have e1 := dn_s1 hd
        exact k_vret hx hb hr hQ hAe (by rw [e1]) hP hS hlocks dX7_lookAt_302
  have Lo218 : ∀ (n1 : Nat) (x4_218 : Int32) (S_218 : Nat → Nat → Int32) (H : Heap) (locs : List Loc) (ls : Array Slot), k_it (fun st => nX7_lookAt_l218 st.1 st.2 L) n1 (x4_218, S_218) = some S9 → lv_has ls 5 [(0, .ref (a 0)), (4, .int x4_218)] → va_P D vwCl (wX7 cs a S_218 L) H → va_S A s.heap H locs → W p l e (headSpec wsX7_lookAt ({ frames := 2, cells := 0, slots := 0, locals := 45 })).room s m ([.ref (a 0), .int p1] : List Value).toArray below meth c H locs 0 0 Q (F0 m 218 ls []) := by
    intro n1
    induction n1 with
    | zero => intro x4_218 S_218 H locs ls hd; exact dn_it0 hd
    | succ n1 ih1 =>
      intro x4_218 S_218 H locs ls hd hl hP hS
      have hD := hDA S_218 L
      obtain ⟨y1, hd, hy1⟩ := dn_it hd
      have hd : nX7_lookAt_l218 x4_218 S_218 L = some y1 := hd
      unfold nX7_lookAt_l218 at hd
      refine lv_iload hx hb dX7_lookAt_218 (lv_at hl 1 rfl) ?_
      refine lv_aload_n hx hb dX7_lookAt_220 rfl (lv_at hl 0 rfl) ?_
      refine va_get (D := D) (ci := 5) (v := .int (S_218 0 20)) (C := RX7) (T := TX7) (N := 25) hx hb hts (fun w h => List.mem_cons_of_mem _ (List.mem_append_right _ h)) hown hK hP 0 rfl rfl 20 (by decide) (hts (.fieldLink RX7 268 "LeastNeedModel" "tokenLong" "I") (List.mem_of_getElem? (i := 4) rfl)) (fun _ h9 => h9) rfl dX7_lookAt_221 ?_
      refine lv_icmp_ge (tgt := 274) hx hb dX7_lookAt_224 (by decide) (fun c224 => ?_) (fun c224 => ?_)
      · have hd := dn_t c224 hd
        have hd := dn_up hd hy1
        exact Jo274 S_218 _ _ _ hd (lv_sub hl [0] rfl) hP hS
      · have hd := dn_f c224 hd
        refine lv_iload hx hb dX7_lookAt_227 (lv_at hl 1 rfl) ?_
        refine lv_iconst (v := (2 : Int32)) hx hb dX7_lookAt_229 (by decide) ?_
        refine lv_icmp_ge (tgt := 274) hx hb dX7_lookAt_230 (by decide) (fun c230 => ?_) (fun c230 => ?_)
        · have hd := dn_t c230 hd
          have hd := dn_up hd hy1
          exact Jo274 S_218 _ _ _ hd (lv_sub hl [0] rfl) hP hS
        · have hd := dn_f c230 hd
          refine lv_aload_n hx hb dX7_lookAt_233 rfl (lv_at hl 0 rfl) ?_
          refine va_get (D := D) (ci := 5) (v := .int (S_218 0 21)) (C := RX7) (T := TX7) (N := 25) hx hb hts (fun w h => List.mem_cons_of_mem _ (List.mem_append_right _ h)) hown hK hP 0 rfl rfl 21 (by decide) (hts (.fieldLink RX7 271 "LeastNeedModel" "token" "I") (List.mem_of_getElem? (i := 5) rfl)) (fun _ h9 => h9) rfl dX7_lookAt_234 ?_
          refine lv_iconst (v := (2 : Int32)) hx hb dX7_lookAt_237 (by decide) ?_
          refine lv_icmp_ne (tgt := 274) hx hb dX7_lookAt_238 (by decide) (fun c238 => ?_) (fun c238 => ?_)
          · have hd := dn_f c238 hd
            have hd := dn_up hd hy1
            exact Jo274 S_218 _ _ _ hd (lv_sub hl [0] rfl) hP hS
          · have hd := dn_t c238 hd
            refine lv_aload_n hx hb dX7_lookAt_241 rfl (lv_at hl 0 rfl) ?_
            refine lv_bipush (v := (10 : Int32)) hx hb dX7_lookAt_242 (by decide) ?_
            refine lv_aload_n hx hb dX7_lookAt_244 rfl (lv_at hl 0 rfl) ?_
            refine va_get (D := D) (ci := 5) (v := .int (S_218 0 22)) (C := RX7) (T := TX7) (N := 25) hx hb hts (fun w h => List.mem_cons_of_mem _ (List.mem_append_right _ h)) hown hK hP 0 rfl rfl 22 (by decide) (hts (.fieldLink RX7 274 "LeastNeedModel" "value" "I") (List.mem_of_getElem? (i := 6) rfl)) (fun _ h9 => h9) rfl dX7_lookAt_245 ?_
            refine lv_imul hx hb dX7_lookAt_248 ?_
            refine lv_aload_n hx hb dX7_lookAt_249 rfl (lv_at hl 0 rfl) ?_
            refine va_get (D := D) (ci := 5) (v := .ref (a 16)) (C := RX7) (T := TX7) (N := 25) hx hb hts (fun w h => List.mem_cons_of_mem _ (List.mem_append_right _ h)) hown hK hP 0 rfl rfl 17 (by decide) (hts (.fieldLink RX7 61 "LeastNeedModel" "bytes" "[I") (List.mem_of_getElem? (i := 3) rfl)) (fun _ h9 => h9) rfl dX7_lookAt_250 ?_
            refine lv_aload_n hx hb dX7_lookAt_253 rfl (lv_at hl 0 rfl) ?_
            refine va_get (D := D) (ci := 5) (v := .int (S_218 0 19)) (C := RX7) (T := TX7) (N := 25) hx hb hts (fun w h => List.mem_cons_of_mem _ (List.mem_append_right _ h)) hown hK hP 0 rfl rfl 19 (by decide) (hts (.fieldLink RX7 265 "LeastNeedModel" "tokenAt" "I") (List.mem_of_getElem? (i := 1) rfl)) (fun _ h9 => h9) rfl dX7_lookAt_254 ?_
            refine lv_iload hx hb dX7_lookAt_257 (lv_at hl 1 rfl) ?_
            refine lv_iadd hx hb dX7_lookAt_259 ?_
            obtain ⟨hi260, hd⟩ := dn_i hd
            refine k_iald (D := D) (k := ((S_218 0 19) + x4_218).toNatClampNeg) (by rfl) hx hb hK hP 16 1 rfl rfl hi260 dX7_lookAt_260 ?_
            refine lv_iadd hx hb dX7_lookAt_261 ?_
            refine lv_bipush (v := (48 : Int32)) hx hb dX7_lookAt_262 (by decide) ?_
            refine lv_isub hx hb dX7_lookAt_264 ?_
            refine va_put (D := D) (ci := 5) (v := .int ((((10 : Int32) * (S_218 0 22)) + (S_218 16 ((S_218 0 19) + x4_218).toNatClampNeg)) - (48 : Int32))) (ty := .int) (C := RX7) (T := TX7) (N := 25) hx hb hts (fun w h => List.mem_cons_of_mem _ (List.mem_append_right _ h)) tyX7 tyX7_ok nmX7 hown hK hP hD hS 0 rfl rfl 22 (by decide) (hts (.fieldLink RX7 274 "LeastNeedModel" "value" "I") (List.mem_of_getElem? (i := 6) rfl)) (fun _ h9 => h9) rfl (by decide +kernel) rfl rfl (Nat.le_of_ble_eq_true rfl) dX7_lookAt_265 (fun H locs hP hD hS => ?_)
            have hP : va_P D vwCl (wX7 cs a (k_w S_218 0 22 ((((10 : Int32) * (S_218 0 22)) + (S_218 16 ((S_218 0 19) + x4_218).toNatClampNeg)) - (48 : Int32))) L) _ := k_eq hP (wsX7_f0_22 cs a S_218 L ((((10 : Int32) * (S_218 0 22)) + (S_218 16 ((S_218 0 19) + x4_218).toNatClampNeg)) - (48 : Int32)))
            have hD := hDA (k_w S_218 0 22 ((((10 : Int32) * (S_218 0 22)) + (S_218 16 ((S_218 0 19) + x4_218).toNatClampNeg)) - (48 : Int32))) L
            refine lv_iinc (v := x4_218 + (1 : Int32)) (lv' := [(4, .int (x4_218 + (1 : Int32))), (0, .ref (a 0))]) hx hb dX7_lookAt_268 hl (k := 1) rfl rfl (by decide) rfl (fun ls hl => ?_)
            refine lv_goto (tgt := 218) hx hb dX7_lookAt_271 (by decide) ?_
            exact ih1 (x4_218 + (1 : Int32)) (k_w S_218 0 22 ((((10 : Int32) * (S_218 0 22)) + (S_218 16 ((S_218 0 19) + x4_218).toNatClampNeg)) - (48 : Int32))) _ _ _ (dn_bk hd hy1) (lv_sub hl [1, 0] rfl) hP hS
  have Lo136 : ∀ (n1 : Nat) (x3_136 : Int32) (S_136 : Nat → Nat → Int32) (H : Heap) (locs : List Loc) (ls : Array Slot), k_it (fun st => nX7_lookAt_l136 st.1 st.2 L) n1 (x3_136, S_136) = some S9 → lv_has ls 5 [(0, .ref (a 0)), (3, .int x3_136)] → va_P D vwCl (wX7 cs a S_136 L) H → va_S A s.heap H locs → W p l e (headSpec wsX7_lookAt ({ frames := 2, cells := 0, slots := 0, locals := 45 })).room s m ([.ref (a 0), .int p1] : List Value).toArray below meth c H locs 0 0 Q (F0 m 136 ls []) := by
    intro n1
    induction n1 with
    | zero => intro x3_136 S_136 H locs ls hd; exact dn_it0 hd
    | succ n1 ih1 =>
      intro x3_136 S_136 H locs ls hd hl hP hS
      have hD := hDA S_136 L
      obtain ⟨y1, hd, hy1⟩ := dn_it hd
      have hd : nX7_lookAt_l136 x3_136 S_136 L = some y1 := hd
      have Jo193 : ∀ (w0_193 : Int32) (S_193 : Nat → Nat → Int32) (H : Heap) (locs : List Loc) (ls : Array Slot), nX7_lookAt_i136_j193 w0_193 S_193 L = some y1 → lv_has ls 5 [(0, .ref (a 0))] → va_P D vwCl (wX7 cs a S_193 L) H → va_S A s.heap H locs → W p l e (headSpec wsX7_lookAt ({ frames := 2, cells := 0, slots := 0, locals := 45 })).room s m ([.ref (a 0), .int p1] : List Value).toArray below meth c H locs 0 0 Q (F0 m 193 ls [.int w0_193]) := by
        intro w0_193 S_193 H locs ls hd hl hP hS
        have hD := hDA S_193 L
        unfold nX7_lookAt_i136_j193 at hd
        refine lv_istore_n (lv' := [(3, .int w0_193), (0, .ref (a 0))]) hx hb dX7_lookAt_193 rfl hl (by decide) rfl (fun ls hl => ?_)
        refine lv_aload_n hx hb dX7_lookAt_194 rfl (lv_at hl 1 rfl) ?_
        refine lv_dup hx hb dX7_lookAt_195 rfl ?_
        refine va_get (D := D) (ci := 5) (v := .int (S_193 0 20)) (C := RX7) (T := TX7) (N := 25) hx hb hts (fun w h => List.mem_cons_of_mem _ (List.mem_append_right _ h)) hown hK hP 0 rfl rfl 20 (by decide) (hts (.fieldLink RX7 268 "LeastNeedModel" "tokenLong" "I") (List.mem_of_getElem? (i := 4) rfl)) (fun _ h9 => h9) rfl dX7_lookAt_196 ?_
        refine lv_iload_n hx hb dX7_lookAt_199 rfl (lv_at hl 0 rfl) ?_
        refine lv_if_eq (tgt := 207) hx hb dX7_lookAt_200 (by decide) (fun c200 => ?_) (fun c200 => ?_)
        · have hd := dn_t c200 hd
          refine lv_iconst (v := (0 : Int32)) hx hb dX7_lookAt_207 (by decide) ?_
          refine lv_iadd hx hb dX7_lookAt_208 ?_
          refine va_put (D := D) (ci := 5) (v := .int ((S_193 0 20) + (0 : Int32))) (ty := .int) (C := RX7) (T := TX7) (N := 25) hx hb hts (fun w h => List.mem_cons_of_mem _ (List.mem_append_right _ h)) tyX7 tyX7_ok nmX7 hown hK hP hD hS 0 rfl rfl 20 (by decide) (hts (.fieldLink RX7 268 "LeastNeedModel" "tokenLong" "I") (List.mem_of_getElem? (i := 4) rfl)) (fun _ h9 => h9) rfl (by decide +kernel) rfl rfl (Nat.le_of_ble_eq_true rfl) dX7_lookAt_209 (fun H locs hP hD hS => ?_)
          have hP : va_P D vwCl (wX7 cs a (k_w S_193 0 20 ((S_193 0 20) + (0 : Int32))) L) _ := k_eq hP (wsX7_f0_20 cs a S_193 L ((S_193 0 20) + (0 : Int32)))
          have hD := hDA (k_w S_193 0 20 ((S_193 0 20) + (0 : Int32))) L
          refine lv_goto (tgt := 136) hx hb dX7_lookAt_212 (by decide) ?_
          exact ih1 w0_193 (k_w S_193 0 20 ((S_193 0 20) + (0 : Int32))) _ _ _ (dn_bk hd hy1) (lv_sub hl [1, 0] rfl) hP hS
        · have hd := dn_f c200 hd
          refine lv_iconst (v := (1 : Int32)) hx hb dX7_lookAt_203 (by decide) ?_
          refine lv_goto (tgt := 208) hx hb dX7_lookAt_204 (by decide) ?_
          refine lv_iadd hx hb dX7_lookAt_208 ?_
          refine va_put (D := D) (ci := 5) (v := .int ((S_193 0 20) + (1 : Int32))) (ty := .int) (C := RX7) (T := TX7) (N := 25) hx hb hts (fun w h => List.mem_cons_of_mem _ (List.mem_append_right _ h)) tyX7 tyX7_ok nmX7 hown hK hP hD hS 0 rfl rfl 20 (by decide) (hts (.fieldLink RX7 268 "LeastNeedModel" "tokenLong" "I") (List.mem_of_getElem? (i := 4) rfl)) (fun _ h9 => h9) rfl (by decide +kernel) rfl rfl (Nat.le_of_ble_eq_true rfl) dX7_lookAt_209 (fun H locs hP hD hS => ?_)
          have hP : va_P D vwCl (wX7 cs a (k_w S_193 0 20 ((S_193 0 20) + (1 : Int32))) L) _ := k_eq hP (wsX7_f0_20 cs a S_193 L ((S_193 0 20) + (1 : Int32)))
          have hD := hDA (k_w S_193 0 20 ((S_193 0 20) + (1 : Int32))) L
          refine lv_goto (tgt := 136) hx hb dX7_lookAt_212 (by decide) ?_
          exact ih1 w0_193 (k_w S_193 0 20 ((S_193 0 20) + (1 : Int32))) _ _ _ (dn_bk hd hy1) (lv_sub hl [1, 0] rfl) hP hS
      unfold nX7_lookAt_l136 at hd
      refine lv_iload_n hx hb dX7_lookAt_136 rfl (lv_at hl 1 rfl) ?_
      refine lv_if_eq (tgt := 215) hx hb dX7_lookAt_137 (by decide) (fun c137 => ?_) (fun c137 => ?_)
      · have hd := dn_t c137 hd
        have hd := dn_up hd hy1
        refine lv_iconst (v := (0 : Int32)) hx hb dX7_lookAt_215 (by decide) ?_
        refine lv_istore (lv' := [(4, .int (0 : Int32)), (0, .ref (a 0)), (3, .int x3_136)]) hx hb dX7_lookAt_216 hl (by decide) rfl (fun ls hl => ?_)
        exact Lo218 1000 (0 : Int32) S_136 _ _ _ hd (lv_sub hl [1, 0] rfl) hP hS
      · have hd := dn_f c137 hd
        refine lv_aload_n hx hb dX7_lookAt_140 rfl (lv_at hl 0 rfl) ?_
        refine va_get (D := D) (ci := 5) (v := .int (S_136 0 19)) (C := RX7) (T := TX7) (N := 25) hx hb hts (fun w h => List.mem_cons_of_mem _ (List.mem_append_right _ h)) hown hK hP 0 rfl rfl 19 (by decide) (hts (.fieldLink RX7 265 "LeastNeedModel" "tokenAt" "I") (List.mem_of_getElem? (i := 1) rfl)) (fun _ h9 => h9) rfl dX7_lookAt_141 ?_
        refine lv_aload_n hx hb dX7_lookAt_144 rfl (lv_at hl 0 rfl) ?_
        refine va_get (D := D) (ci := 5) (v := .int (S_136 0 20)) (C := RX7) (T := TX7) (N := 25) hx hb hts (fun w h => List.mem_cons_of_mem _ (List.mem_append_right _ h)) hown hK hP 0 rfl rfl 20 (by decide) (hts (.fieldLink RX7 268 "LeastNeedModel" "tokenLong" "I") (List.mem_of_getElem? (i := 4) rfl)) (fun _ h9 => h9) rfl dX7_lookAt_145 ?_
        refine lv_iadd hx hb dX7_lookAt_148 ?_
        refine lv_aload_n hx hb dX7_lookAt_149 rfl (lv_at hl 0 rfl) ?_
        refine va_get (D := D) (ci := 5) (v := .int (S_136 0 18)) (C := RX7) (T := TX7) (N := 25) hx hb hts (fun w h => List.mem_cons_of_mem _ (List.mem_append_right _ h)) hown hK hP 0 rfl rfl 18 (by decide) (hts (.fieldLink RX7 253 "LeastNeedModel" "bytesLong" "I") (List.mem_of_getElem? (i := 2) rfl)) (fun _ h9 => h9) rfl dX7_lookAt_150 ?_
        refine lv_icmp_ge (tgt := 215) hx hb dX7_lookAt_153 (by decide) (fun c153 => ?_) (fun c153 => ?_)
        · have hd := dn_t c153 hd
          have hd := dn_up hd hy1
          refine lv_iconst (v := (0 : Int32)) hx hb dX7_lookAt_215 (by decide) ?_
          refine lv_istore (lv' := [(4, .int (0 : Int32)), (0, .ref (a 0)), (3, .int x3_136)]) hx hb dX7_lookAt_216 hl (by decide) rfl (fun ls hl => ?_)
          exact Lo218 1000 (0 : Int32) S_136 _ _ _ hd (lv_sub hl [1, 0] rfl) hP hS
        · have hd := dn_f c153 hd
          refine lv_aload_n hx hb dX7_lookAt_156 rfl (lv_at hl 0 rfl) ?_
          refine va_get (D := D) (ci := 5) (v := .ref (a 16)) (C := RX7) (T := TX7) (N := 25) hx hb hts (fun w h => List.mem_cons_of_mem _ (List.mem_append_right _ h)) hown hK hP 0 rfl rfl 17 (by decide) (hts (.fieldLink RX7 61 "LeastNeedModel" "bytes" "[I") (List.mem_of_getElem? (i := 3) rfl)) (fun _ h9 => h9) rfl dX7_lookAt_157 ?_
          refine lv_aload_n hx hb dX7_lookAt_160 rfl (lv_at hl 0 rfl) ?_
          refine va_get (D := D) (ci := 5) (v := .int (S_136 0 19)) (C := RX7) (T := TX7) (N := 25) hx hb hts (fun w h => List.mem_cons_of_mem _ (List.mem_append_right _ h)) hown hK hP 0 rfl rfl 19 (by decide) (hts (.fieldLink RX7 265 "LeastNeedModel" "tokenAt" "I") (List.mem_of_getElem? (i := 1) rfl)) (fun _ h9 => h9) rfl dX7_lookAt_161 ?_
          refine lv_aload_n hx hb dX7_lookAt_164 rfl (lv_at hl 0 rfl) ?_
          refine va_get (D := D) (ci := 5) (v := .int (S_136 0 20)) (C := RX7) (T := TX7) (N := 25) hx hb hts (fun w h => List.mem_cons_of_mem _ (List.mem_append_right _ h)) hown hK hP 0 rfl rfl 20 (by decide) (hts (.fieldLink RX7 268 "LeastNeedModel" "tokenLong" "I") (List.mem_of_getElem? (i := 4) rfl)) (fun _ h9 => h9) rfl dX7_lookAt_165 ?_
          refine lv_iadd hx hb dX7_lookAt_168 ?_
          obtain ⟨hi169, hd⟩ := dn_i hd
          refine k_iald (D := D) (k := ((S_136 0 19) + (S_136 0 20)).toNatClampNeg) (by rfl) hx hb hK hP 16 1 rfl rfl hi169 dX7_lookAt_169 ?_
          refine lv_istore (lv' := [(4, .int (S_136 16 ((S_136 0 19) + (S_136 0 20)).toNatClampNeg)), (0, .ref (a 0)), (3, .int x3_136)]) hx hb dX7_lookAt_170 hl (by decide) rfl (fun ls hl => ?_)
          refine lv_aload_n hx hb dX7_lookAt_172 rfl (lv_at hl 1 rfl) ?_
          refine va_get (D := D) (ci := 5) (v := .int (S_136 0 21)) (C := RX7) (T := TX7) (N := 25) hx hb hts (fun w h => List.mem_cons_of_mem _ (List.mem_append_right _ h)) hown hK hP 0 rfl rfl 21 (by decide) (hts (.fieldLink RX7 271 "LeastNeedModel" "token" "I") (List.mem_of_getElem? (i := 5) rfl)) (fun _ h9 => h9) rfl dX7_lookAt_173 ?_
          refine lv_iconst (v := (1 : Int32)) hx hb dX7_lookAt_176 (by decide) ?_
          refine lv_icmp_ne (tgt := 188) hx hb dX7_lookAt_177 (by decide) (fun c177 => ?_) (fun c177 => ?_)
          · have hd := dn_f c177 hd
            refine lv_iload hx hb dX7_lookAt_188 (lv_at hl 0 rfl) ?_
            obtain ⟨r190, hq190, hd⟩ := dn_b1 hd
            have hPc := k_P0 hP
            have hDc : va_D A ([] : va_W) := k_D0
            have hF := k_self hDc hS hA
            refine k_run_i (va_runS (As := [.int (S_136 16 ((S_136 0 19) + (S_136 0 20)).toNatClampNeg)]) (rest := []) ⟨hx, hb, hml, hown, hts⟩ (mX7_isFigure l D cs  (S_136 16 ((S_136 0 19) + (S_136 0 20)).toNatClampNeg) r190 hq190 _) (va_cwS 1 hts gX7_lookAt_X7_isFigure rfl rfl rfl (by decide +kernel) ⟨Nat.le_of_ble_eq_true rfl, Nat.le_of_ble_eq_true rfl⟩) ⟨k_blind, k_pre hPc hK hNn hDc⟩ rfl rfl hl.1 rfl (lv_room (Nat.le_of_ble_eq_true rfl)) dX7_lookAt_190 ⟨Nat.le_of_ble_eq_true rfl, Nat.le_of_ble_eq_true rfl⟩) hS hF (fun H locs hP1 hk hS => ?_)
            have hP : va_P D vwCl (wX7 cs a S_136 L) _ := k_keep hP hk
            exact Jo193 r190 S_136 _ _ _ hd (lv_sub hl [1] rfl) hP hS
          · have hd := dn_t c177 hd
            refine lv_iload hx hb dX7_lookAt_180 (lv_at hl 0 rfl) ?_
            obtain ⟨r182, hq182, hd⟩ := dn_b1 hd
            have hPc := k_P0 hP
            have hDc : va_D A ([] : va_W) := k_D0
            have hF := k_self hDc hS hA
            refine k_run_i (va_runS (As := [.int (S_136 16 ((S_136 0 19) + (S_136 0 20)).toNatClampNeg)]) (rest := []) ⟨hx, hb, hml, hown, hts⟩ (mX7_isSmall l D cs  (S_136 16 ((S_136 0 19) + (S_136 0 20)).toNatClampNeg) r182 hq182 _) (va_cwS 1 hts gX7_lookAt_X7_isSmall rfl rfl rfl (by decide +kernel) ⟨Nat.le_of_ble_eq_true rfl, Nat.le_of_ble_eq_true rfl⟩) ⟨k_blind, k_pre hPc hK hNn hDc⟩ rfl rfl hl.1 rfl (lv_room (Nat.le_of_ble_eq_true rfl)) dX7_lookAt_182 ⟨Nat.le_of_ble_eq_true rfl, Nat.le_of_ble_eq_true rfl⟩) hS hF (fun H locs hP1 hk hS => ?_)
            have hP : va_P D vwCl (wX7 cs a S_136 L) _ := k_keep hP hk
            refine lv_goto (tgt := 193) hx hb dX7_lookAt_185 (by decide) ?_
            exact Jo193 r182 S_136 _ _ _ hd (lv_sub hl [1] rfl) hP hS
  have Jo114 : ∀ (w0_114 : Int32) (S_114 : Nat → Nat → Int32) (H : Heap) (locs : List Loc) (ls : Array Slot), nX7_lookAt_j114 w0_114 S_114 L = some S9 → lv_has ls 5 [(0, .ref (a 0))] → va_P D vwCl (wX7 cs a S_114 L) H → va_S A s.heap H locs → W p l e (headSpec wsX7_lookAt ({ frames := 2, cells := 0, slots := 0, locals := 45 })).room s m ([.ref (a 0), .int p1] : List Value).toArray below meth c H locs 0 0 Q (F0 m 114 ls [.int w0_114, .ref (a 0)]) := by
    intro w0_114 S_114 H locs ls hd hl hP hS
    have hD := hDA S_114 L
    unfold nX7_lookAt_j114 at hd
    refine va_put (D := D) (ci := 5) (v := .int w0_114) (ty := .int) (C := RX7) (T := TX7) (N := 25) hx hb hts (fun w h => List.mem_cons_of_mem _ (List.mem_append_right _ h)) tyX7 tyX7_ok nmX7 hown hK hP hD hS 0 rfl rfl 21 (by decide) (hts (.fieldLink RX7 271 "LeastNeedModel" "token" "I") (List.mem_of_getElem? (i := 5) rfl)) (fun _ h9 => h9) rfl (by decide +kernel) rfl rfl (Nat.le_of_ble_eq_true rfl) dX7_lookAt_114 (fun H locs hP hD hS => ?_)
    have hP : va_P D vwCl (wX7 cs a (k_w S_114 0 21 w0_114) L) _ := k_eq hP (wsX7_f0_21 cs a S_114 L w0_114)
    have hD := hDA (k_w S_114 0 21 w0_114) L
    refine lv_aload_n hx hb dX7_lookAt_117 rfl (lv_at hl 0 rfl) ?_
    refine lv_iconst (v := (1 : Int32)) hx hb dX7_lookAt_118 (by decide) ?_
    refine va_put (D := D) (ci := 5) (v := .int (1 : Int32)) (ty := .int) (C := RX7) (T := TX7) (N := 25) hx hb hts (fun w h => List.mem_cons_of_mem _ (List.mem_append_right _ h)) tyX7 tyX7_ok nmX7 hown hK hP hD hS 0 rfl rfl 20 (by decide) (hts (.fieldLink RX7 268 "LeastNeedModel" "tokenLong" "I") (List.mem_of_getElem? (i := 4) rfl)) (fun _ h9 => h9) rfl (by decide +kernel) rfl rfl (Nat.le_of_ble_eq_true rfl) dX7_lookAt_119 (fun H locs hP hD hS => ?_)
    have hP : va_P D vwCl (wX7 cs a (k_w (k_w S_114 0 21 w0_114) 0 20 (1 : Int32)) L) _ := k_eq hP (wsX7_f0_20 cs a (k_w S_114 0 21 w0_114) L (1 : Int32))
    have hD := hDA (k_w (k_w S_114 0 21 w0_114) 0 20 (1 : Int32)) L
    refine lv_aload_n hx hb dX7_lookAt_122 rfl (lv_at hl 0 rfl) ?_
    refine va_get (D := D) (ci := 5) (v := .int ((k_w (k_w S_114 0 21 w0_114) 0 20 (1 : Int32)) 0 21)) (C := RX7) (T := TX7) (N := 25) hx hb hts (fun w h => List.mem_cons_of_mem _ (List.mem_append_right _ h)) hown hK hP 0 rfl rfl 21 (by decide) (hts (.fieldLink RX7 271 "LeastNeedModel" "token" "I") (List.mem_of_getElem? (i := 5) rfl)) (fun _ h9 => h9) rfl dX7_lookAt_123 ?_
    refine lv_iconst (v := (3 : Int32)) hx hb dX7_lookAt_126 (by decide) ?_
    refine lv_icmp_ge (tgt := 134) hx hb dX7_lookAt_127 (by decide) (fun c127 => ?_) (fun c127 => ?_)
    · have hd := dn_t c127 hd
      refine lv_iconst (v := (0 : Int32)) hx hb dX7_lookAt_134 (by decide) ?_
      refine lv_istore_n (lv' := [(3, .int (0 : Int32)), (0, .ref (a 0))]) hx hb dX7_lookAt_135 rfl hl (by decide) rfl (fun ls hl => ?_)
      exact Lo136 1000 (0 : Int32) (k_w (k_w S_114 0 21 w0_114) 0 20 (1 : Int32)) _ _ _ hd (lv_sub hl [1, 0] rfl) hP hS
    · have hd := dn_f c127 hd
      refine lv_iconst (v := (1 : Int32)) hx hb dX7_lookAt_130 (by decide) ?_
      refine lv_goto (tgt := 135) hx hb dX7_lookAt_131 (by decide) ?_
      refine lv_istore_n (lv' := [(3, .int (1 : Int32)), (0, .ref (a 0))]) hx hb dX7_lookAt_135 rfl hl (by decide) rfl (fun ls hl => ?_)
      exact Lo136 1000 (1 : Int32) (k_w (k_w S_114 0 21 w0_114) 0 20 (1 : Int32)) _ _ _ hd (lv_sub hl [1, 0] rfl) hP hS
  have Jo43 : ∀ (S_43 : Nat → Nat → Int32) (H : Heap) (locs : List Loc) (ls : Array Slot), nX7_lookAt_j43 S_43 L = some S9 → lv_has ls 5 [(0, .ref (a 0))] → va_P D vwCl (wX7 cs a S_43 L) H → va_S A s.heap H locs → W p l e (headSpec wsX7_lookAt ({ frames := 2, cells := 0, slots := 0, locals := 45 })).room s m ([.ref (a 0), .int p1] : List Value).toArray below meth c H locs 0 0 Q (F0 m 43 ls []) := by
    intro S_43 H locs ls hd hl hP hS
    have hD := hDA S_43 L
    unfold nX7_lookAt_j43 at hd
    refine lv_aload_n hx hb dX7_lookAt_43 rfl (lv_at hl 0 rfl) ?_
    refine lv_iconst (v := (0 : Int32)) hx hb dX7_lookAt_44 (by decide) ?_
    refine va_put (D := D) (ci := 5) (v := .int (0 : Int32)) (ty := .int) (C := RX7) (T := TX7) (N := 25) hx hb hts (fun w h => List.mem_cons_of_mem _ (List.mem_append_right _ h)) tyX7 tyX7_ok nmX7 hown hK hP hD hS 0 rfl rfl 20 (by decide) (hts (.fieldLink RX7 268 "LeastNeedModel" "tokenLong" "I") (List.mem_of_getElem? (i := 4) rfl)) (fun _ h9 => h9) rfl (by decide +kernel) rfl rfl (Nat.le_of_ble_eq_true rfl) dX7_lookAt_45 (fun H locs hP hD hS => ?_)
    have hP : va_P D vwCl (wX7 cs a (k_w S_43 0 20 (0 : Int32)) L) _ := k_eq hP (wsX7_f0_20 cs a S_43 L (0 : Int32))
    have hD := hDA (k_w S_43 0 20 (0 : Int32)) L
    refine lv_aload_n hx hb dX7_lookAt_48 rfl (lv_at hl 0 rfl) ?_
    refine lv_iconst (v := (0 : Int32)) hx hb dX7_lookAt_49 (by decide) ?_
    refine va_put (D := D) (ci := 5) (v := .int (0 : Int32)) (ty := .int) (C := RX7) (T := TX7) (N := 25) hx hb hts (fun w h => List.mem_cons_of_mem _ (List.mem_append_right _ h)) tyX7 tyX7_ok nmX7 hown hK hP hD hS 0 rfl rfl 21 (by decide) (hts (.fieldLink RX7 271 "LeastNeedModel" "token" "I") (List.mem_of_getElem? (i := 5) rfl)) (fun _ h9 => h9) rfl (by decide +kernel) rfl rfl (Nat.le_of_ble_eq_true rfl) dX7_lookAt_50 (fun H locs hP hD hS => ?_)
    have hP : va_P D vwCl (wX7 cs a (k_w (k_w S_43 0 20 (0 : Int32)) 0 21 (0 : Int32)) L) _ := k_eq hP (wsX7_f0_21 cs a (k_w S_43 0 20 (0 : Int32)) L (0 : Int32))
    have hD := hDA (k_w (k_w S_43 0 20 (0 : Int32)) 0 21 (0 : Int32)) L
    refine lv_aload_n hx hb dX7_lookAt_53 rfl (lv_at hl 0 rfl) ?_
    refine lv_iconst (v := (0 : Int32)) hx hb dX7_lookAt_54 (by decide) ?_
    refine va_put (D := D) (ci := 5) (v := .int (0 : Int32)) (ty := .int) (C := RX7) (T := TX7) (N := 25) hx hb hts (fun w h => List.mem_cons_of_mem _ (List.mem_append_right _ h)) tyX7 tyX7_ok nmX7 hown hK hP hD hS 0 rfl rfl 22 (by decide) (hts (.fieldLink RX7 274 "LeastNeedModel" "value" "I") (List.mem_of_getElem? (i := 6) rfl)) (fun _ h9 => h9) rfl (by decide +kernel) rfl rfl (Nat.le_of_ble_eq_true rfl) dX7_lookAt_55 (fun H locs hP hD hS => ?_)
    have hP : va_P D vwCl (wX7 cs a (k_w (k_w (k_w S_43 0 20 (0 : Int32)) 0 21 (0 : Int32)) 0 22 (0 : Int32)) L) _ := k_eq hP (wsX7_f0_22 cs a (k_w (k_w S_43 0 20 (0 : Int32)) 0 21 (0 : Int32)) L (0 : Int32))
    have hD := hDA (k_w (k_w (k_w S_43 0 20 (0 : Int32)) 0 21 (0 : Int32)) 0 22 (0 : Int32)) L
    refine lv_aload_n hx hb dX7_lookAt_58 rfl (lv_at hl 0 rfl) ?_
    refine va_get (D := D) (ci := 5) (v := .int ((k_w (k_w (k_w S_43 0 20 (0 : Int32)) 0 21 (0 : Int32)) 0 22 (0 : Int32)) 0 19)) (C := RX7) (T := TX7) (N := 25) hx hb hts (fun w h => List.mem_cons_of_mem _ (List.mem_append_right _ h)) hown hK hP 0 rfl rfl 19 (by decide) (hts (.fieldLink RX7 265 "LeastNeedModel" "tokenAt" "I") (List.mem_of_getElem? (i := 1) rfl)) (fun _ h9 => h9) rfl dX7_lookAt_59 ?_
    refine lv_aload_n hx hb dX7_lookAt_62 rfl (lv_at hl 0 rfl) ?_
    refine va_get (D := D) (ci := 5) (v := .int ((k_w (k_w (k_w S_43 0 20 (0 : Int32)) 0 21 (0 : Int32)) 0 22 (0 : Int32)) 0 18)) (C := RX7) (T := TX7) (N := 25) hx hb hts (fun w h => List.mem_cons_of_mem _ (List.mem_append_right _ h)) hown hK hP 0 rfl rfl 18 (by decide) (hts (.fieldLink RX7 253 "LeastNeedModel" "bytesLong" "I") (List.mem_of_getElem? (i := 2) rfl)) (fun _ h9 => h9) rfl dX7_lookAt_63 ?_
    refine lv_icmp_ne (tgt := 70) hx hb dX7_lookAt_66 (by decide) (fun c66 => ?_) (fun c66 => ?_)
    · have hd := dn_f c66 hd
      refine lv_aload_n hx hb dX7_lookAt_70 rfl (lv_at hl 0 rfl) ?_
      refine va_get (D := D) (ci := 5) (v := .ref (a 16)) (C := RX7) (T := TX7) (N := 25) hx hb hts (fun w h => List.mem_cons_of_mem _ (List.mem_append_right _ h)) hown hK hP 0 rfl rfl 17 (by decide) (hts (.fieldLink RX7 61 "LeastNeedModel" "bytes" "[I") (List.mem_of_getElem? (i := 3) rfl)) (fun _ h9 => h9) rfl dX7_lookAt_71 ?_
      refine lv_aload_n hx hb dX7_lookAt_74 rfl (lv_at hl 0 rfl) ?_
      refine va_get (D := D) (ci := 5) (v := .int ((k_w (k_w (k_w S_43 0 20 (0 : Int32)) 0 21 (0 : Int32)) 0 22 (0 : Int32)) 0 19)) (C := RX7) (T := TX7) (N := 25) hx hb hts (fun w h => List.mem_cons_of_mem _ (List.mem_append_right _ h)) hown hK hP 0 rfl rfl 19 (by decide) (hts (.fieldLink RX7 265 "LeastNeedModel" "tokenAt" "I") (List.mem_of_getElem? (i := 1) rfl)) (fun _ h9 => h9) rfl dX7_lookAt_75 ?_
      obtain ⟨hi78, hd⟩ := dn_i hd
      refine k_iald (D := D) (k := ((k_w (k_w (k_w S_43 0 20 (0 : Int32)) 0 21 (0 : Int32)) 0 22 (0 : Int32)) 0 19).toNatClampNeg) (by rfl) hx hb hK hP 16 1 rfl rfl hi78 dX7_lookAt_78 ?_
      refine lv_istore_n (lv' := [(2, .int ((k_w (k_w (k_w S_43 0 20 (0 : Int32)) 0 21 (0 : Int32)) 0 22 (0 : Int32)) 16 ((k_w (k_w (k_w S_43 0 20 (0 : Int32)) 0 21 (0 : Int32)) 0 22 (0 : Int32)) 0 19).toNatClampNeg)), (0, .ref (a 0))]) hx hb dX7_lookAt_79 rfl hl (by decide) rfl (fun ls hl => ?_)
      refine lv_aload_n hx hb dX7_lookAt_80 rfl (lv_at hl 1 rfl) ?_
      refine lv_iload_n hx hb dX7_lookAt_81 rfl (lv_at hl 0 rfl) ?_
      obtain ⟨r82, hq82, hd⟩ := dn_b1 hd
      have hPc := k_P0 hP
      have hDc : va_D A ([] : va_W) := k_D0
      have hF := k_self hDc hS hA
      refine k_run_i (va_runS (As := [.int ((k_w (k_w (k_w S_43 0 20 (0 : Int32)) 0 21 (0 : Int32)) 0 22 (0 : Int32)) 16 ((k_w (k_w (k_w S_43 0 20 (0 : Int32)) 0 21 (0 : Int32)) 0 22 (0 : Int32)) 0 19).toNatClampNeg)]) (rest := [.ref (a 0)]) ⟨hx, hb, hml, hown, hts⟩ (mX7_isSmall l D cs  ((k_w (k_w (k_w S_43 0 20 (0 : Int32)) 0 21 (0 : Int32)) 0 22 (0 : Int32)) 16 ((k_w (k_w (k_w S_43 0 20 (0 : Int32)) 0 21 (0 : Int32)) 0 22 (0 : Int32)) 0 19).toNatClampNeg) r82 hq82 _) (va_cwS 1 hts gX7_lookAt_X7_isSmall rfl rfl rfl (by decide +kernel) ⟨Nat.le_of_ble_eq_true rfl, Nat.le_of_ble_eq_true rfl⟩) ⟨k_blind, k_pre hPc hK hNn hDc⟩ rfl rfl hl.1 rfl (lv_room (Nat.le_of_ble_eq_true rfl)) dX7_lookAt_82 ⟨Nat.le_of_ble_eq_true rfl, Nat.le_of_ble_eq_true rfl⟩) hS hF (fun H locs hP1 hk hS => ?_)
      have hP : va_P D vwCl (wX7 cs a (k_w (k_w (k_w S_43 0 20 (0 : Int32)) 0 21 (0 : Int32)) 0 22 (0 : Int32)) L) _ := k_keep hP hk
      refine lv_if_eq (tgt := 92) hx hb dX7_lookAt_85 (by decide) (fun c85 => ?_) (fun c85 => ?_)
      · have hd := dn_t c85 hd
        refine lv_iload_n hx hb dX7_lookAt_92 rfl (lv_at hl 0 rfl) ?_
        obtain ⟨r93, hq93, hd⟩ := dn_b1 hd
        have hPc := k_P0 hP
        have hDc : va_D A ([] : va_W) := k_D0
        have hF := k_self hDc hS hA
        refine k_run_i (va_runS (As := [.int ((k_w (k_w (k_w S_43 0 20 (0 : Int32)) 0 21 (0 : Int32)) 0 22 (0 : Int32)) 16 ((k_w (k_w (k_w S_43 0 20 (0 : Int32)) 0 21 (0 : Int32)) 0 22 (0 : Int32)) 0 19).toNatClampNeg)]) (rest := [.ref (a 0)]) ⟨hx, hb, hml, hown, hts⟩ (mX7_isFigure l D cs  ((k_w (k_w (k_w S_43 0 20 (0 : Int32)) 0 21 (0 : Int32)) 0 22 (0 : Int32)) 16 ((k_w (k_w (k_w S_43 0 20 (0 : Int32)) 0 21 (0 : Int32)) 0 22 (0 : Int32)) 0 19).toNatClampNeg) r93 hq93 _) (va_cwS 1 hts gX7_lookAt_X7_isFigure rfl rfl rfl (by decide +kernel) ⟨Nat.le_of_ble_eq_true rfl, Nat.le_of_ble_eq_true rfl⟩) ⟨k_blind, k_pre hPc hK hNn hDc⟩ rfl rfl hl.1 rfl (lv_room (Nat.le_of_ble_eq_true rfl)) dX7_lookAt_93 ⟨Nat.le_of_ble_eq_true rfl, Nat.le_of_ble_eq_true rfl⟩) hS hF (fun H locs hP1 hk hS => ?_)
        have hP : va_P D vwCl (wX7 cs a (k_w (k_w (k_w S_43 0 20 (0 : Int32)) 0 21 (0 : Int32)) 0 22 (0 : Int32)) L) _ := k_keep hP hk
        refine lv_if_eq (tgt := 103) hx hb dX7_lookAt_96 (by decide) (fun c96 => ?_) (fun c96 => ?_)
        · have hd := dn_t c96 hd
          refine lv_iload_n hx hb dX7_lookAt_103 rfl (lv_at hl 0 rfl) ?_
          refine lv_bipush (v := (59 : Int32)) hx hb dX7_lookAt_104 (by decide) ?_
          refine lv_icmp_ne (tgt := 113) hx hb dX7_lookAt_106 (by decide) (fun c106 => ?_) (fun c106 => ?_)
          · have hd := dn_f c106 hd
            refine lv_iconst (v := (4 : Int32)) hx hb dX7_lookAt_113 (by decide) ?_
            exact Jo114 (4 : Int32) (k_w (k_w (k_w S_43 0 20 (0 : Int32)) 0 21 (0 : Int32)) 0 22 (0 : Int32)) _ _ _ hd (lv_sub hl [1] rfl) hP hS
          · have hd := dn_t c106 hd
            refine lv_iconst (v := (3 : Int32)) hx hb dX7_lookAt_109 (by decide) ?_
            refine lv_goto (tgt := 114) hx hb dX7_lookAt_110 (by decide) ?_
            exact Jo114 (3 : Int32) (k_w (k_w (k_w S_43 0 20 (0 : Int32)) 0 21 (0 : Int32)) 0 22 (0 : Int32)) _ _ _ hd (lv_sub hl [1] rfl) hP hS
        · have hd := dn_f c96 hd
          refine lv_iconst (v := (2 : Int32)) hx hb dX7_lookAt_99 (by decide) ?_
          refine lv_goto (tgt := 114) hx hb dX7_lookAt_100 (by decide) ?_
          exact Jo114 (2 : Int32) (k_w (k_w (k_w S_43 0 20 (0 : Int32)) 0 21 (0 : Int32)) 0 22 (0 : Int32)) _ _ _ hd (lv_sub hl [1] rfl) hP hS
      · have hd := dn_f c85 hd
        refine lv_iconst (v := (1 : Int32)) hx hb dX7_lookAt_88 (by decide) ?_
        refine lv_goto (tgt := 114) hx hb dX7_lookAt_89 (by decide) ?_
        exact Jo114 (1 : Int32) (k_w (k_w (k_w S_43 0 20 (0 : Int32)) 0 21 (0 : Int32)) 0 22 (0 : Int32)) _ _ _ hd (lv_sub hl [1] rfl) hP hS
    · have hd := dn_t c66 hd
      have e1 := dn_s1 hd
      exact k_vret hx hb hr hQ hAe (by rw [e1]) hP hS hlocks dX7_lookAt_69
  have Lo5 : ∀ (n1 : Nat) (S_5 : Nat → Nat → Int32) (H : Heap) (locs : List Loc) (ls : Array Slot), k_it (fun st => nX7_lookAt_l5 st L) n1 S_5 = some S9 → lv_has ls 5 [(0, .ref (a 0))] → va_P D vwCl (wX7 cs a S_5 L) H → va_S A s.heap H locs → W p l e (headSpec wsX7_lookAt ({ frames := 2, cells := 0, slots := 0, locals := 45 })).room s m ([.ref (a 0), .int p1] : List Value).toArray below meth c H locs 0 0 Q (F0 m 5 ls []) := by
    intro n1
    induction n1 with
    | zero => intro S_5 H locs ls hd; exact dn_it0 hd
    | succ n1 ih1 =>
      intro S_5 H locs ls hd hl hP hS
      have hD := hDA S_5 L
      obtain ⟨y1, hd, hy1⟩ := dn_it hd
      have hd : nX7_lookAt_l5 S_5 L = some y1 := hd
      unfold nX7_lookAt_l5 at hd
      refine lv_aload_n hx hb dX7_lookAt_5 rfl (lv_at hl 0 rfl) ?_
      refine va_get (D := D) (ci := 5) (v := .int (S_5 0 19)) (C := RX7) (T := TX7) (N := 25) hx hb hts (fun w h => List.mem_cons_of_mem _ (List.mem_append_right _ h)) hown hK hP 0 rfl rfl 19 (by decide) (hts (.fieldLink RX7 265 "LeastNeedModel" "tokenAt" "I") (List.mem_of_getElem? (i := 1) rfl)) (fun _ h9 => h9) rfl dX7_lookAt_6 ?_
      refine lv_aload_n hx hb dX7_lookAt_9 rfl (lv_at hl 0 rfl) ?_
      refine va_get (D := D) (ci := 5) (v := .int (S_5 0 18)) (C := RX7) (T := TX7) (N := 25) hx hb hts (fun w h => List.mem_cons_of_mem _ (List.mem_append_right _ h)) hown hK hP 0 rfl rfl 18 (by decide) (hts (.fieldLink RX7 253 "LeastNeedModel" "bytesLong" "I") (List.mem_of_getElem? (i := 2) rfl)) (fun _ h9 => h9) rfl dX7_lookAt_10 ?_
      refine lv_icmp_ge (tgt := 43) hx hb dX7_lookAt_13 (by decide) (fun c13 => ?_) (fun c13 => ?_)
      · have hd := dn_t c13 hd
        have hd := dn_up hd hy1
        exact Jo43 S_5 _ _ _ hd (lv_sub hl [0] rfl) hP hS
      · have hd := dn_f c13 hd
        refine lv_aload_n hx hb dX7_lookAt_16 rfl (lv_at hl 0 rfl) ?_
        refine va_get (D := D) (ci := 5) (v := .ref (a 16)) (C := RX7) (T := TX7) (N := 25) hx hb hts (fun w h => List.mem_cons_of_mem _ (List.mem_append_right _ h)) hown hK hP 0 rfl rfl 17 (by decide) (hts (.fieldLink RX7 61 "LeastNeedModel" "bytes" "[I") (List.mem_of_getElem? (i := 3) rfl)) (fun _ h9 => h9) rfl dX7_lookAt_17 ?_
        refine lv_aload_n hx hb dX7_lookAt_20 rfl (lv_at hl 0 rfl) ?_
        refine va_get (D := D) (ci := 5) (v := .int (S_5 0 19)) (C := RX7) (T := TX7) (N := 25) hx hb hts (fun w h => List.mem_cons_of_mem _ (List.mem_append_right _ h)) hown hK hP 0 rfl rfl 19 (by decide) (hts (.fieldLink RX7 265 "LeastNeedModel" "tokenAt" "I") (List.mem_of_getElem? (i := 1) rfl)) (fun _ h9 => h9) rfl dX7_lookAt_21 ?_
        obtain ⟨hi24, hd⟩ := dn_i hd
        refine k_iald (D := D) (k := (S_5 0 19).toNatClampNeg) (by rfl) hx hb hK hP 16 1 rfl rfl hi24 dX7_lookAt_24 ?_
        refine lv_bipush (v := (32 : Int32)) hx hb dX7_lookAt_25 (by decide) ?_
        refine lv_icmp_ne (tgt := 43) hx hb dX7_lookAt_27 (by decide) (fun c27 => ?_) (fun c27 => ?_)
        · have hd := dn_f c27 hd
          have hd := dn_up hd hy1
          exact Jo43 S_5 _ _ _ hd (lv_sub hl [0] rfl) hP hS
        · have hd := dn_t c27 hd
          refine lv_aload_n hx hb dX7_lookAt_30 rfl (lv_at hl 0 rfl) ?_
          refine lv_dup hx hb dX7_lookAt_31 rfl ?_
          refine va_get (D := D) (ci := 5) (v := .int (S_5 0 19)) (C := RX7) (T := TX7) (N := 25) hx hb hts (fun w h => List.mem_cons_of_mem _ (List.mem_append_right _ h)) hown hK hP 0 rfl rfl 19 (by decide) (hts (.fieldLink RX7 265 "LeastNeedModel" "tokenAt" "I") (List.mem_of_getElem? (i := 1) rfl)) (fun _ h9 => h9) rfl dX7_lookAt_32 ?_
          refine lv_iconst (v := (1 : Int32)) hx hb dX7_lookAt_35 (by decide) ?_
          refine lv_iadd hx hb dX7_lookAt_36 ?_
          refine va_put (D := D) (ci := 5) (v := .int ((S_5 0 19) + (1 : Int32))) (ty := .int) (C := RX7) (T := TX7) (N := 25) hx hb hts (fun w h => List.mem_cons_of_mem _ (List.mem_append_right _ h)) tyX7 tyX7_ok nmX7 hown hK hP hD hS 0 rfl rfl 19 (by decide) (hts (.fieldLink RX7 265 "LeastNeedModel" "tokenAt" "I") (List.mem_of_getElem? (i := 1) rfl)) (fun _ h9 => h9) rfl (by decide +kernel) rfl rfl (Nat.le_of_ble_eq_true rfl) dX7_lookAt_37 (fun H locs hP hD hS => ?_)
          have hP : va_P D vwCl (wX7 cs a (k_w S_5 0 19 ((S_5 0 19) + (1 : Int32))) L) _ := k_eq hP (wsX7_f0_19 cs a S_5 L ((S_5 0 19) + (1 : Int32)))
          have hD := hDA (k_w S_5 0 19 ((S_5 0 19) + (1 : Int32))) L
          refine lv_goto (tgt := 5) hx hb dX7_lookAt_40 (by decide) ?_
          exact ih1 (k_w S_5 0 19 ((S_5 0 19) + (1 : Int32))) _ _ _ (dn_bk hd hy1) (lv_sub hl [0] rfl) hP hS
  unfold nX7_lookAt at hd
  refine lv_aload_n hx hb dX7_lookAt_0 rfl (lv_at hl 0 rfl) ?_
  refine lv_iload_n hx hb dX7_lookAt_1 rfl (lv_at hl 1 rfl) ?_
  refine va_put (D := D) (ci := 5) (v := .int p1) (ty := .int) (C := RX7) (T := TX7) (N := 25) hx hb hts (fun w h => List.mem_cons_of_mem _ (List.mem_append_right _ h)) tyX7 tyX7_ok nmX7 hown hK hP hD hS 0 rfl rfl 19 (by decide) (hts (.fieldLink RX7 265 "LeastNeedModel" "tokenAt" "I") (List.mem_of_getElem? (i := 1) rfl)) (fun _ h9 => h9) rfl (by decide +kernel) rfl rfl (Nat.le_of_ble_eq_true rfl) dX7_lookAt_2 (fun H locs hP hD hS => ?_)
  have hP : va_P D vwCl (wX7 cs a (k_w S 0 19 p1) L) _ := k_eq hP (wsX7_f0_19 cs a S L p1)
  have hD := hDA (k_w S 0 19 p1) L
  exact Lo5 1000 (k_w S 0 19 p1) _ _ _ hd (lv_sub hl [0] rfl) hP hS
-- LeastNeedModel.goBehind()V
set_option maxRecDepth 20000 in
def nX7_goBehind (S : Nat → Nat → Int32) (L : Nat → Nat → Int64) : Option ((Nat → Nat → Int32)) := k_b1 (nX7_lookAt S L ((S 0 19) + (S 0 20))) (fun S10 => some S10)
set_option maxHeartbeats 4000000 in
set_option maxRecDepth 100000 in
theorem mX7_goBehind (l : Launch) (D : va_G) (cs : Nat → ClassId) (a : Nat → Nat) (S : Nat → Nat → Int32) (L : Nat → Nat → Int64) (S9 : (Nat → Nat → Int32)) (hd : nX7_goBehind S L = some S9) : ∀ sz : Nat, Met l yX7_goBehind wsX7_goBehind ({ frames := 3, cells := 0, slots := 0, locals := 69 }) (k_Pc D cs [.ref (a 0)] (wX7 cs a S L) sz) (k_Qv D (wX7 cs a S L) (wX7 cs a S9 L) sz) 0 0 (va_A (wX7 cs a S L) sz) := by
  intro sz
  refine Met.ofW (cc := cX7_goBehind) (maxL := 1) (ret := none) (by decide) rfl ?_
  intro p e s m args below meth c s₁ B hml hv
  obtain ⟨rfl, hsz, hP, hK, hD0, hNn⟩ := hv
  have hx := B.exec
  have hb := B.bytes
  have hr := B.returns
  have hts := atoms_spec (ws := wsX7_goBehind) B.pre
  have hown : s.vm.findClass RX7 = some m.cls := findClass_of_methodNamed B.named
  have hlocks := B.notSynchronized
  subst hsz
  obtain ⟨A, hAe⟩ : ∃ A : Nat → Prop, A = va_A (wX7 cs a S L) s.heap.size := ⟨_, rfl⟩
  have hD : va_D A (wX7 cs a S L) := by rw [hAe]; exact hD0.self
  have hA : ∀ q : Nat, s.heap.size ≤ q → A q := fun q h => by rw [hAe]; exact Or.inr h
  have hS : va_S A s.heap s.heap [] := va_S.rf
  have hDA : ∀ (S : Nat → Nat → Int32) (L : Nat → Nat → Int64), va_D A (wX7 cs a S L) := fun S L => k_DA hD rfl
  have hl := lv_entry ([.ref (a 0)]) (n := 1) (Nat.le_of_ble_eq_true rfl)
  rw [lg_entry_eq]
  generalize (lg_sl ([.ref (a 0)]) ++ List.replicate (1 - (lg_sl ([.ref (a 0)])).length) Slot.unset).toArray = ls at hl ⊢
  have hl : lv_has ls 1 [(0, .ref (a 0))] := hl
  obtain ⟨Q, hQ⟩ : ∃ Q, Q = MQ below (k_Qv D (wX7 cs a S L) (wX7 cs a S9 L) s.heap.size) ([.ref (a 0)] : List Value).toArray s 0 0 (va_A (wX7 cs a S L) s.heap.size) := ⟨_, rfl⟩
  rw [← hQ]
  unfold nX7_goBehind at hd
  refine lv_aload_n hx hb dX7_goBehind_0 rfl (lv_at hl 0 rfl) ?_
  refine lv_aload_n hx hb dX7_goBehind_1 rfl (lv_at hl 0 rfl) ?_
  refine va_get (D := D) (ci := 5) (v := .int (S 0 19)) (C := RX7) (T := TX7) (N := 25) hx hb hts (fun w h => List.mem_cons_of_mem _ (List.mem_append_right _ h)) hown hK hP 0 rfl rfl 19 (by decide) (hts (.fieldLink RX7 265 "LeastNeedModel" "tokenAt" "I") (List.mem_of_getElem? (i := 1) rfl)) (fun _ h9 => h9) rfl dX7_goBehind_2 ?_
  refine lv_aload_n hx hb dX7_goBehind_5 rfl (lv_at hl 0 rfl) ?_
  refine va_get (D := D) (ci := 5) (v := .int (S 0 20)) (C := RX7) (T := TX7) (N := 25) hx hb hts (fun w h => List.mem_cons_of_mem _ (List.mem_append_right _ h)) hown hK hP 0 rfl rfl 20 (by decide) (hts (.fieldLink RX7 268 "LeastNeedModel" "tokenLong" "I") (List.mem_of_getElem? (i := 2) rfl)) (fun _ h9 => h9) rfl dX7_goBehind_6 ?_
  refine lv_iadd hx hb dX7_goBehind_9 ?_
  obtain ⟨S10, hq10, hd⟩ := dn_b1 hd
  have hF := k_self hD hS hA
  refine k_run_v (va_runV (As := [.int ((S 0 19) + (S 0 20))]) (rest := []) ⟨hx, hb, hml, hown, hts⟩ (mX7_lookAt l D cs a S L ((S 0 19) + (S 0 20)) S10 hq10 _) (cwV 1 hts gX7_goBehind_X7_lookAt rfl rfl rfl (by decide +kernel) ⟨Nat.le_of_ble_eq_true rfl, Nat.le_of_ble_eq_true rfl⟩) ⟨k_blind, va_recv hK hP (ci := 5) (q0 := 0) rfl rfl, k_pre hP hK hNn hD⟩ rfl rfl hl.1 rfl (lv_room (Nat.le_of_ble_eq_true rfl)) dX7_goBehind_10 ⟨Nat.le_of_ble_eq_true rfl, Nat.le_of_ble_eq_true rfl⟩) hS hF (fun H locs hP1 hk hS => ?_)
  have hP : va_P D vwCl (wX7 cs a S10 L) _ := hP1
  have hD := hDA S10 L
  have e1 := dn_s1 hd
  exact k_vret hx hb hr hQ hAe (by rw [e1]) hP hS hlocks dX7_goBehind_13
-- LeastNeedModel.spells(IIIIIII)Z
set_option maxRecDepth 20000 in
def nX7_spells_i26_j103 (p1 : Int32) (p2 : Int32) (p3 : Int32) (p4 : Int32) (p5 : Int32) (p6 : Int32) (p7 : Int32) (x9_103 : Int32) (w0_103 : Int32) (w1_103 : Int32) (S : Nat → Nat → Int32) (L : Nat → Nat → Int64) : Option ((Int32 × Int32) ⊕ (Int32)) := if w1_103 = w0_103 then some (.inl ((1 : Int32), (x9_103 + (1 : Int32)))) else some (.inl ((0 : Int32), (x9_103 + (1 : Int32))))
set_option maxRecDepth 20000 in
def nX7_spells_l26 (p1 : Int32) (p2 : Int32) (p3 : Int32) (p4 : Int32) (p5 : Int32) (p6 : Int32) (p7 : Int32) (x8_26 : Int32) (x9_26 : Int32) (S : Nat → Nat → Int32) (L : Nat → Nat → Int64) : Option ((Int32 × Int32) ⊕ (Int32)) := if p1 ≤ x9_26 then k_up (if ¬ (x8_26 = 0 ∨ x8_26 = 1) then none else some x8_26) else if x8_26 = 0 then k_up (if ¬ (x8_26 = 0 ∨ x8_26 = 1) then none else some x8_26) else if ((S 0 19) + x9_26) < 0 ∨ 150 ≤ ((S 0 19) + x9_26).toNatClampNeg then none else if x9_26 = 0 then nX7_spells_i26_j103 p1 p2 p3 p4 p5 p6 p7 x9_26 p2 (S 16 ((S 0 19) + x9_26).toNatClampNeg) S L else if x9_26 = (1 : Int32) then nX7_spells_i26_j103 p1 p2 p3 p4 p5 p6 p7 x9_26 p3 (S 16 ((S 0 19) + x9_26).toNatClampNeg) S L else if x9_26 = (2 : Int32) then nX7_spells_i26_j103 p1 p2 p3 p4 p5 p6 p7 x9_26 p4 (S 16 ((S 0 19) + x9_26).toNatClampNeg) S L else if x9_26 = (3 : Int32) then nX7_spells_i26_j103 p1 p2 p3 p4 p5 p6 p7 x9_26 p5 (S 16 ((S 0 19) + x9_26).toNatClampNeg) S L else if x9_26 = (4 : Int32) then nX7_spells_i26_j103 p1 p2 p3 p4 p5 p6 p7 x9_26 p6 (S 16 ((S 0 19) + x9_26).toNatClampNeg) S L else nX7_spells_i26_j103 p1 p2 p3 p4 p5 p6 p7 x9_26 p7 (S 16 ((S 0 19) + x9_26).toNatClampNeg) S L
set_option maxRecDepth 20000 in
def nX7_spells (S : Nat → Nat → Int32) (L : Nat → Nat → Int64) (p1 : Int32) (p2 : Int32) (p3 : Int32) (p4 : Int32) (p5 : Int32) (p6 : Int32) (p7 : Int32) : Option (Int32) := if (S 0 21) = (1 : Int32) then if (S 0 20) = p1 then k_it (fun st => nX7_spells_l26 p1 p2 p3 p4 p5 p6 p7 st.1 st.2 S L) 1000 ((1 : Int32), (0 : Int32)) else k_it (fun st => nX7_spells_l26 p1 p2 p3 p4 p5 p6 p7 st.1 st.2 S L) 1000 ((0 : Int32), (0 : Int32)) else k_it (fun st => nX7_spells_l26 p1 p2 p3 p4 p5 p6 p7 st.1 st.2 S L) 1000 ((0 : Int32), (0 : Int32))
set_option maxHeartbeats 4000000 in
set_option maxRecDepth 100000 in
theorem mX7_spells (l : Launch) (D : va_G) (cs : Nat → ClassId) (a : Nat → Nat) (S : Nat → Nat → Int32) (L : Nat → Nat → Int64) (p1 : Int32) (p2 : Int32) (p3 : Int32) (p4 : Int32) (p5 : Int32) (p6 : Int32) (p7 : Int32) (r9 : Int32) (hd : nX7_spells S L p1 p2 p3 p4 p5 p6 p7 = some r9) : ∀ sz : Nat, Met l yX7_spells wsX7_spells ({ frames := 0, cells := 0, slots := 0, locals := 0 }) (k_Pc D cs [.ref (a 0), .int p1, .int p2, .int p3, .int p4, .int p5, .int p6, .int p7] (wX7 cs a S L) sz) (k_Qi D r9 (wX7 cs a S L) (wX7 cs a S L) sz) 0 0 (va_A (wX7 cs a S L) sz) := by
  intro sz
  refine Met.ofW (cc := cX7_spells) (maxL := 10) (ret := (some .boolean)) (by decide) rfl ?_
  intro p e s m args below meth c s₁ B hml hv
  obtain ⟨rfl, hsz, hP, hK, hD0, hNn⟩ := hv
  have hx := B.exec
  have hb := B.bytes
  have hr := B.returns
  have hts := atoms_spec (ws := wsX7_spells) B.pre
  have hown : s.vm.findClass RX7 = some m.cls := findClass_of_methodNamed B.named
  have hlocks := B.notSynchronized
  subst hsz
  obtain ⟨A, hAe⟩ : ∃ A : Nat → Prop, A = va_A (wX7 cs a S L) s.heap.size := ⟨_, rfl⟩
  have hD : va_D A (wX7 cs a S L) := by rw [hAe]; exact hD0.self
  have hA : ∀ q : Nat, s.heap.size ≤ q → A q := fun q h => by rw [hAe]; exact Or.inr h
  have hS : va_S A s.heap s.heap [] := va_S.rf
  have hDA : ∀ (S : Nat → Nat → Int32) (L : Nat → Nat → Int64), va_D A (wX7 cs a S L) := fun S L => k_DA hD rfl
  have hl := lv_entry ([.ref (a 0), .int p1, .int p2, .int p3, .int p4, .int p5, .int p6, .int p7]) (n := 10) (Nat.le_of_ble_eq_true rfl)
  rw [lg_entry_eq]
  generalize (lg_sl ([.ref (a 0), .int p1, .int p2, .int p3, .int p4, .int p5, .int p6, .int p7]) ++ List.replicate (10 - (lg_sl ([.ref (a 0), .int p1, .int p2, .int p3, .int p4, .int p5, .int p6, .int p7])).length) Slot.unset).toArray = ls at hl ⊢
  have hl : lv_has ls 10 [(0, .ref (a 0)), (1, .int p1), (2, .int p2), (3, .int p3), (4, .int p4), (5, .int p5), (6, .int p6), (7, .int p7)] := hl
  obtain ⟨Q, hQ⟩ : ∃ Q, Q = MQ below (k_Qi D r9 (wX7 cs a S L) (wX7 cs a S L) s.heap.size) ([.ref (a 0), .int p1, .int p2, .int p3, .int p4, .int p5, .int p6, .int p7] : List Value).toArray s 0 0 (va_A (wX7 cs a S L) s.heap.size) := ⟨_, rfl⟩
  rw [← hQ]
  have Lo26 : ∀ (n1 : Nat) (x8_26 : Int32) (x9_26 : Int32) (H : Heap) (locs : List Loc) (ls : Array Slot), k_it (fun st => nX7_spells_l26 p1 p2 p3 p4 p5 p6 p7 st.1 st.2 S L) n1 (x8_26, x9_26) = some r9 → lv_has ls 10 [(0, .ref (a 0)), (1, .int p1), (2, .int p2), (3, .int p3), (4, .int p4), (5, .int p5), (6, .int p6), (7, .int p7), (8, .int x8_26), (9, .int x9_26)] → va_P D vwCl (wX7 cs a S L) H → va_S A s.heap H locs → W p l e (headSpec wsX7_spells ({ frames := 0, cells := 0, slots := 0, locals := 0 })).room s m ([.ref (a 0), .int p1, .int p2, .int p3, .int p4, .int p5, .int p6, .int p7] : List Value).toArray below meth c H locs 0 0 Q (F0 m 26 ls []) := by
    intro n1
    induction n1 with
    | zero => intro x8_26 x9_26 H locs ls hd; exact dn_it0 hd
    | succ n1 ih1 =>
      intro x8_26 x9_26 H locs ls hd hl hP hS
      have hD := hDA S L
      obtain ⟨y1, hd, hy1⟩ := dn_it hd
      have hd : nX7_spells_l26 p1 p2 p3 p4 p5 p6 p7 x8_26 x9_26 S L = some y1 := hd
      have Jo103 : ∀ (x9_103 : Int32) (w0_103 : Int32) (w1_103 : Int32) (H : Heap) (locs : List Loc) (ls : Array Slot), nX7_spells_i26_j103 p1 p2 p3 p4 p5 p6 p7 x9_103 w0_103 w1_103 S L = some y1 → lv_has ls 10 [(0, .ref (a 0)), (1, .int p1), (2, .int p2), (3, .int p3), (4, .int p4), (5, .int p5), (6, .int p6), (7, .int p7), (9, .int x9_103)] → va_P D vwCl (wX7 cs a S L) H → va_S A s.heap H locs → W p l e (headSpec wsX7_spells ({ frames := 0, cells := 0, slots := 0, locals := 0 })).room s m ([.ref (a 0), .int p1, .int p2, .int p3, .int p4, .int p5, .int p6, .int p7] : List Value).toArray below meth c H locs 0 0 Q (F0 m 103 ls [.int w0_103, .int w1_103]) := by
        intro x9_103 w0_103 w1_103 H locs ls hd hl hP hS
        have hD := hDA S L
        unfold nX7_spells_i26_j103 at hd
        refine lv_icmp_ne (tgt := 110) hx hb dX7_spells_103 (by decide) (fun c103 => ?_) (fun c103 => ?_)
        · have hd := dn_f c103 hd
          refine lv_iconst (v := (0 : Int32)) hx hb dX7_spells_110 (by decide) ?_
          refine lv_istore (lv' := [(8, .int (0 : Int32)), (0, .ref (a 0)), (1, .int p1), (2, .int p2), (3, .int p3), (4, .int p4), (5, .int p5), (6, .int p6), (7, .int p7), (9, .int x9_103)]) hx hb dX7_spells_111 hl (by decide) rfl (fun ls hl => ?_)
          refine lv_iinc (v := x9_103 + (1 : Int32)) (lv' := [(9, .int (x9_103 + (1 : Int32))), (8, .int (0 : Int32)), (0, .ref (a 0)), (1, .int p1), (2, .int p2), (3, .int p3), (4, .int p4), (5, .int p5), (6, .int p6), (7, .int p7)]) hx hb dX7_spells_113 hl (k := 9) rfl rfl (by decide) rfl (fun ls hl => ?_)
          refine lv_goto (tgt := 26) hx hb dX7_spells_116 (by decide) ?_
          exact ih1 (0 : Int32) (x9_103 + (1 : Int32)) _ _ _ (dn_bk hd hy1) (lv_sub hl [2, 3, 4, 5, 6, 7, 8, 9, 1, 0] rfl) hP hS
        · have hd := dn_t c103 hd
          refine lv_iconst (v := (1 : Int32)) hx hb dX7_spells_106 (by decide) ?_
          refine lv_goto (tgt := 111) hx hb dX7_spells_107 (by decide) ?_
          refine lv_istore (lv' := [(8, .int (1 : Int32)), (0, .ref (a 0)), (1, .int p1), (2, .int p2), (3, .int p3), (4, .int p4), (5, .int p5), (6, .int p6), (7, .int p7), (9, .int x9_103)]) hx hb dX7_spells_111 hl (by decide) rfl (fun ls hl => ?_)
          refine lv_iinc (v := x9_103 + (1 : Int32)) (lv' := [(9, .int (x9_103 + (1 : Int32))), (8, .int (1 : Int32)), (0, .ref (a 0)), (1, .int p1), (2, .int p2), (3, .int p3), (4, .int p4), (5, .int p5), (6, .int p6), (7, .int p7)]) hx hb dX7_spells_113 hl (k := 9) rfl rfl (by decide) rfl (fun ls hl => ?_)
          refine lv_goto (tgt := 26) hx hb dX7_spells_116 (by decide) ?_
          exact ih1 (1 : Int32) (x9_103 + (1 : Int32)) _ _ _ (dn_bk hd hy1) (lv_sub hl [2, 3, 4, 5, 6, 7, 8, 9, 1, 0] rfl) hP hS
      unfold nX7_spells_l26 at hd
      refine lv_iload hx hb dX7_spells_26 (lv_at hl 9 rfl) ?_
      refine lv_iload_n hx hb dX7_spells_28 rfl (lv_at hl 1 rfl) ?_
      refine lv_icmp_ge (tgt := 119) hx hb dX7_spells_29 (by decide) (fun c29 => ?_) (fun c29 => ?_)
      · have hd := dn_t c29 hd
        have hd := dn_up hd hy1
        refine lv_iload hx hb dX7_spells_119 (lv_at hl 8 rfl) ?_
        obtain ⟨hz, hd⟩ := dn_n hd
        have e1 := dn_s1 hd
        exact k_zret hx hb hr (dn_z hz) hQ hAe e1 rfl hP hS hlocks dX7_spells_121
      · have hd := dn_f c29 hd
        refine lv_iload hx hb dX7_spells_32 (lv_at hl 8 rfl) ?_
        refine lv_if_eq (tgt := 119) hx hb dX7_spells_34 (by decide) (fun c34 => ?_) (fun c34 => ?_)
        · have hd := dn_t c34 hd
          have hd := dn_up hd hy1
          refine lv_iload hx hb dX7_spells_119 (lv_at hl 8 rfl) ?_
          obtain ⟨hz, hd⟩ := dn_n hd
          have e1 := dn_s1 hd
          exact k_zret hx hb hr (dn_z hz) hQ hAe e1 rfl hP hS hlocks dX7_spells_121
        · have hd := dn_f c34 hd
          refine lv_aload_n hx hb dX7_spells_37 rfl (lv_at hl 0 rfl) ?_
          refine va_get (D := D) (ci := 5) (v := .ref (a 16)) (C := RX7) (T := TX7) (N := 25) hx hb hts (fun w h => List.mem_cons_of_mem _ (List.mem_append_right _ h)) hown hK hP 0 rfl rfl 17 (by decide) (hts (.fieldLink RX7 61 "LeastNeedModel" "bytes" "[I") (List.mem_of_getElem? (i := 3) rfl)) (fun _ h9 => h9) rfl dX7_spells_38 ?_
          refine lv_aload_n hx hb dX7_spells_41 rfl (lv_at hl 0 rfl) ?_
          refine va_get (D := D) (ci := 5) (v := .int (S 0 19)) (C := RX7) (T := TX7) (N := 25) hx hb hts (fun w h => List.mem_cons_of_mem _ (List.mem_append_right _ h)) hown hK hP 0 rfl rfl 19 (by decide) (hts (.fieldLink RX7 265 "LeastNeedModel" "tokenAt" "I") (List.mem_of_getElem? (i := 4) rfl)) (fun _ h9 => h9) rfl dX7_spells_42 ?_
          refine lv_iload hx hb dX7_spells_45 (lv_at hl 9 rfl) ?_
          refine lv_iadd hx hb dX7_spells_47 ?_
          obtain ⟨hi48, hd⟩ := dn_i hd
          refine k_iald (D := D) (k := ((S 0 19) + x9_26).toNatClampNeg) (by rfl) hx hb hK hP 16 1 rfl rfl hi48 dX7_spells_48 ?_
          refine lv_iload hx hb dX7_spells_49 (lv_at hl 9 rfl) ?_
          refine lv_if_ne (tgt := 58) hx hb dX7_spells_51 (by decide) (fun c51 => ?_) (fun c51 => ?_)
          · have hd := dn_f c51 hd
            refine lv_iload hx hb dX7_spells_58 (lv_at hl 9 rfl) ?_
            refine lv_iconst (v := (1 : Int32)) hx hb dX7_spells_60 (by decide) ?_
            refine lv_icmp_ne (tgt := 68) hx hb dX7_spells_61 (by decide) (fun c61 => ?_) (fun c61 => ?_)
            · have hd := dn_f c61 hd
              refine lv_iload hx hb dX7_spells_68 (lv_at hl 9 rfl) ?_
              refine lv_iconst (v := (2 : Int32)) hx hb dX7_spells_70 (by decide) ?_
              refine lv_icmp_ne (tgt := 79) hx hb dX7_spells_71 (by decide) (fun c71 => ?_) (fun c71 => ?_)
              · have hd := dn_f c71 hd
                refine lv_iload hx hb dX7_spells_79 (lv_at hl 9 rfl) ?_
                refine lv_iconst (v := (3 : Int32)) hx hb dX7_spells_81 (by decide) ?_
                refine lv_icmp_ne (tgt := 90) hx hb dX7_spells_82 (by decide) (fun c82 => ?_) (fun c82 => ?_)
                · have hd := dn_f c82 hd
                  refine lv_iload hx hb dX7_spells_90 (lv_at hl 9 rfl) ?_
                  refine lv_iconst (v := (4 : Int32)) hx hb dX7_spells_92 (by decide) ?_
                  refine lv_icmp_ne (tgt := 101) hx hb dX7_spells_93 (by decide) (fun c93 => ?_) (fun c93 => ?_)
                  · have hd := dn_f c93 hd
                    refine lv_iload hx hb dX7_spells_101 (lv_at hl 7 rfl) ?_
                    exact Jo103 x9_26 p7 (S 16 ((S 0 19) + x9_26).toNatClampNeg) _ _ _ hd (lv_sub hl [0, 1, 2, 3, 4, 5, 6, 7, 9] rfl) hP hS
                  · have hd := dn_t c93 hd
                    refine lv_iload hx hb dX7_spells_96 (lv_at hl 6 rfl) ?_
                    refine lv_goto (tgt := 103) hx hb dX7_spells_98 (by decide) ?_
                    exact Jo103 x9_26 p6 (S 16 ((S 0 19) + x9_26).toNatClampNeg) _ _ _ hd (lv_sub hl [0, 1, 2, 3, 4, 5, 6, 7, 9] rfl) hP hS
                · have hd := dn_t c82 hd
                  refine lv_iload hx hb dX7_spells_85 (lv_at hl 5 rfl) ?_
                  refine lv_goto (tgt := 103) hx hb dX7_spells_87 (by decide) ?_
                  exact Jo103 x9_26 p5 (S 16 ((S 0 19) + x9_26).toNatClampNeg) _ _ _ hd (lv_sub hl [0, 1, 2, 3, 4, 5, 6, 7, 9] rfl) hP hS
              · have hd := dn_t c71 hd
                refine lv_iload hx hb dX7_spells_74 (lv_at hl 4 rfl) ?_
                refine lv_goto (tgt := 103) hx hb dX7_spells_76 (by decide) ?_
                exact Jo103 x9_26 p4 (S 16 ((S 0 19) + x9_26).toNatClampNeg) _ _ _ hd (lv_sub hl [0, 1, 2, 3, 4, 5, 6, 7, 9] rfl) hP hS
            · have hd := dn_t c61 hd
              refine lv_iload_n hx hb dX7_spells_64 rfl (lv_at hl 3 rfl) ?_
              refine lv_goto (tgt := 103) hx hb dX7_spells_65 (by decide) ?_
              exact Jo103 x9_26 p3 (S 16 ((S 0 19) + x9_26).toNatClampNeg) _ _ _ hd (lv_sub hl [0, 1, 2, 3, 4, 5, 6, 7, 9] rfl) hP hS
          · have hd := dn_t c51 hd
            refine lv_iload_n hx hb dX7_spells_54 rfl (lv_at hl 2 rfl) ?_
            refine lv_goto (tgt := 103) hx hb dX7_spells_55 (by decide) ?_
            exact Jo103 x9_26 p2 (S 16 ((S 0 19) + x9_26).toNatClampNeg) _ _ _ hd (lv_sub hl [0, 1, 2, 3, 4, 5, 6, 7, 9] rfl) hP hS
  unfold nX7_spells at hd
  refine lv_aload_n hx hb dX7_spells_0 rfl (lv_at hl 0 rfl) ?_
  refine va_get (D := D) (ci := 5) (v := .int (S 0 21)) (C := RX7) (T := TX7) (N := 25) hx hb hts (fun w h => List.mem_cons_of_mem _ (List.mem_append_right _ h)) hown hK hP 0 rfl rfl 21 (by decide) (hts (.fieldLink RX7 271 "LeastNeedModel" "token" "I") (List.mem_of_getElem? (i := 1) rfl)) (fun _ h9 => h9) rfl dX7_spells_1 ?_
  refine lv_iconst (v := (1 : Int32)) hx hb dX7_spells_4 (by decide) ?_
  refine lv_icmp_ne (tgt := 20) hx hb dX7_spells_5 (by decide) (fun c5 => ?_) (fun c5 => ?_)
  · have hd := dn_f c5 hd
    refine lv_iconst (v := (0 : Int32)) hx hb dX7_spells_20 (by decide) ?_
    refine lv_istore (lv' := [(8, .int (0 : Int32)), (0, .ref (a 0)), (1, .int p1), (2, .int p2), (3, .int p3), (4, .int p4), (5, .int p5), (6, .int p6), (7, .int p7)]) hx hb dX7_spells_21 hl (by decide) rfl (fun ls hl => ?_)
    refine lv_iconst (v := (0 : Int32)) hx hb dX7_spells_23 (by decide) ?_
    refine lv_istore (lv' := [(9, .int (0 : Int32)), (8, .int (0 : Int32)), (0, .ref (a 0)), (1, .int p1), (2, .int p2), (3, .int p3), (4, .int p4), (5, .int p5), (6, .int p6), (7, .int p7)]) hx hb dX7_spells_24 hl (by decide) rfl (fun ls hl => ?_)
    exact Lo26 1000 (0 : Int32) (0 : Int32) _ _ _ hd (lv_sub hl [2, 3, 4, 5, 6, 7, 8, 9, 1, 0] rfl) hP hS
  · have hd := dn_t c5 hd
    refine lv_aload_n hx hb dX7_spells_8 rfl (lv_at hl 0 rfl) ?_
    refine va_get (D := D) (ci := 5) (v := .int (S 0 20)) (C := RX7) (T := TX7) (N := 25) hx hb hts (fun w h => List.mem_cons_of_mem _ (List.mem_append_right _ h)) hown hK hP 0 rfl rfl 20 (by decide) (hts (.fieldLink RX7 268 "LeastNeedModel" "tokenLong" "I") (List.mem_of_getElem? (i := 2) rfl)) (fun _ h9 => h9) rfl dX7_spells_9 ?_
    refine lv_iload_n hx hb dX7_spells_12 rfl (lv_at hl 1 rfl) ?_
    refine lv_icmp_ne (tgt := 20) hx hb dX7_spells_13 (by decide) (fun c13 => ?_) (fun c13 => ?_)
    · have hd := dn_f c13 hd
      refine lv_iconst (v := (0 : Int32)) hx hb dX7_spells_20 (by decide) ?_
      refine lv_istore (lv' := [(8, .int (0 : Int32)), (0, .ref (a 0)), (1, .int p1), (2, .int p2), (3, .int p3), (4, .int p4), (5, .int p5), (6, .int p6), (7, .int p7)]) hx hb dX7_spells_21 hl (by decide) rfl (fun ls hl => ?_)
      refine lv_iconst (v := (0 : Int32)) hx hb dX7_spells_23 (by decide) ?_
      refine lv_istore (lv' := [(9, .int (0 : Int32)), (8, .int (0 : Int32)), (0, .ref (a 0)), (1, .int p1), (2, .int p2), (3, .int p3), (4, .int p4), (5, .int p5), (6, .int p6), (7, .int p7)]) hx hb dX7_spells_24 hl (by decide) rfl (fun ls hl => ?_)
      exact Lo26 1000 (0 : Int32) (0 : Int32) _ _ _ hd (lv_sub hl [2, 3, 4, 5, 6, 7, 8, 9, 1, 0] rfl) hP hS
    · have hd := dn_t c13 hd
      refine lv_iconst (v := (1 : Int32)) hx hb dX7_spells_16 (by decide) ?_
      refine lv_goto (tgt := 21) hx hb dX7_spells_17 (by decide) ?_
      refine lv_istore (lv' := [(8, .int (1 : Int32)), (0, .ref (a 0)), (1, .int p1), (2, .int p2), (3, .int p3), (4, .int p4), (5, .int p5), (6, .int p6), (7, .int p7)]) hx hb dX7_spells_21 hl (by decide) rfl (fun ls hl => ?_)
      refine lv_iconst (v := (0 : Int32)) hx hb dX7_spells_23 (by decide) ?_
      refine lv_istore (lv' := [(9, .int (0 : Int32)), (8, .int (1 : Int32)), (0, .ref (a 0)), (1, .int p1), (2, .int p2), (3, .int p3), (4, .int p4), (5, .int p5), (6, .int p6), (7, .int p7)]) hx hb dX7_spells_24 hl (by decide) rfl (fun ls hl => ?_)
      exact Lo26 1000 (1 : Int32) (0 : Int32) _ _ _ hd (lv_sub hl [2, 3, 4, 5, 6, 7, 8, 9, 1, 0] rfl) hP hS
-- LeastNeedModel.takes(III)Z
set_option maxRecDepth 20000 in
def nX7_takes (S : Nat → Nat → Int32) (L : Nat → Nat → Int64) (p1 : Int32) (p2 : Int32) (p3 : Int32) : Option (Int32 × (Nat → Nat → Int32)) := if (S 0 21) = (2 : Int32) then k_b1 (nX7_in ((S 0 22).toInt64) p2.toInt64 p3.toInt64) (fun r17 => if r17 = 0 then some ((0 : Int32), S) else if p1 < 0 ∨ 6 ≤ p1.toNatClampNeg then none else k_b1 (nX7_goBehind (k_w S 18 p1.toNatClampNeg (S 0 22)) L) (fun S36 => some ((1 : Int32), S36))) else some ((0 : Int32), S)
set_option maxHeartbeats 4000000 in
set_option maxRecDepth 100000 in
theorem mX7_takes (l : Launch) (D : va_G) (cs : Nat → ClassId) (a : Nat → Nat) (S : Nat → Nat → Int32) (L : Nat → Nat → Int64) (p1 : Int32) (p2 : Int32) (p3 : Int32) (r9 : Int32) (S9 : (Nat → Nat → Int32)) (hd : nX7_takes S L p1 p2 p3 = some (r9, S9)) : ∀ sz : Nat, Met l yX7_takes wsX7_takes ({ frames := 4, cells := 0, slots := 0, locals := 89 }) (k_Pc D cs [.ref (a 0), .int p1, .int p2, .int p3] (wX7 cs a S L) sz) (k_Qi D r9 (wX7 cs a S L) (wX7 cs a S9 L) sz) 0 0 (va_A (wX7 cs a S L) sz) := by
  intro sz
  refine Met.ofW (cc := cX7_takes) (maxL := 4) (ret := (some .boolean)) (by decide) rfl ?_
  intro p e s m args below meth c s₁ B hml hv
  obtain ⟨rfl, hsz, hP, hK, hD0, hNn⟩ := hv
  have hx := B.exec
  have hb := B.bytes
  have hr := B.returns
  have hts := atoms_spec (ws := wsX7_takes) B.pre
  have hown : s.vm.findClass RX7 = some m.cls := findClass_of_methodNamed B.named
  have hlocks := B.notSynchronized
  subst hsz
  obtain ⟨A, hAe⟩ : ∃ A : Nat → Prop, A = va_A (wX7 cs a S L) s.heap.size := ⟨_, rfl⟩
  have hD : va_D A (wX7 cs a S L) := by rw [hAe]; exact hD0.self
  have hA : ∀ q : Nat, s.heap.size ≤ q → A q := fun q h => by rw [hAe]; exact Or.inr h
  have hS : va_S A s.heap s.heap [] := va_S.rf
  have hDA : ∀ (S : Nat → Nat → Int32) (L : Nat → Nat → Int64), va_D A (wX7 cs a S L) := fun S L => k_DA hD rfl
  have hl := lv_entry ([.ref (a 0), .int p1, .int p2, .int p3]) (n := 4) (Nat.le_of_ble_eq_true rfl)
  rw [lg_entry_eq]
  generalize (lg_sl ([.ref (a 0), .int p1, .int p2, .int p3]) ++ List.replicate (4 - (lg_sl ([.ref (a 0), .int p1, .int p2, .int p3])).length) Slot.unset).toArray = ls at hl ⊢
  have hl : lv_has ls 4 [(0, .ref (a 0)), (1, .int p1), (2, .int p2), (3, .int p3)] := hl
  obtain ⟨Q, hQ⟩ : ∃ Q, Q = MQ below (k_Qi D r9 (wX7 cs a S L) (wX7 cs a S9 L) s.heap.size) ([.ref (a 0), .int p1, .int p2, .int p3] : List Value).toArray s 0 0 (va_A (wX7 cs a S L) s.heap.size) := ⟨_, rfl⟩
  rw [← hQ]
  unfold nX7_takes at hd
  refine lv_aload_n hx hb dX7_takes_0 rfl (lv_at hl 0 rfl) ?_
  refine va_get (D := D) (ci := 5) (v := .int (S 0 21)) (C := RX7) (T := TX7) (N := 25) hx hb hts (fun w h => List.mem_cons_of_mem _ (List.mem_append_right _ h)) hown hK hP 0 rfl rfl 21 (by decide) (hts (.fieldLink RX7 271 "LeastNeedModel" "token" "I") (List.mem_of_getElem? (i := 1) rfl)) (fun _ h9 => h9) rfl dX7_takes_1 ?_
  refine lv_iconst (v := (2 : Int32)) hx hb dX7_takes_4 (by decide) ?_
  refine lv_icmp_ne (tgt := 23) hx hb dX7_takes_5 (by decide) (fun c5 => ?_) (fun c5 => ?_)
  · have hd := dn_f c5 hd
    refine lv_iconst (v := (0 : Int32)) hx hb dX7_takes_23 (by decide) ?_
    obtain ⟨e1, e2⟩ := dn_s2 hd
    exact k_zret hx hb hr rfl hQ hAe e1 (by rw [e2]) hP hS hlocks dX7_takes_24
  · have hd := dn_t c5 hd
    refine lv_aload_n hx hb dX7_takes_8 rfl (lv_at hl 0 rfl) ?_
    refine va_get (D := D) (ci := 5) (v := .int (S 0 22)) (C := RX7) (T := TX7) (N := 25) hx hb hts (fun w h => List.mem_cons_of_mem _ (List.mem_append_right _ h)) hown hK hP 0 rfl rfl 22 (by decide) (hts (.fieldLink RX7 274 "LeastNeedModel" "value" "I") (List.mem_of_getElem? (i := 2) rfl)) (fun _ h9 => h9) rfl dX7_takes_9 ?_
    refine lv_i2l hx hb dX7_takes_12 rfl ?_
    refine lv_iload_n hx hb dX7_takes_13 rfl (lv_at hl 2 rfl) ?_
    refine lv_i2l hx hb dX7_takes_14 rfl ?_
    refine lv_iload_n hx hb dX7_takes_15 rfl (lv_at hl 3 rfl) ?_
    refine lv_i2l hx hb dX7_takes_16 rfl ?_
    obtain ⟨r17, hq17, hd⟩ := dn_b1 hd
    have hPc := k_P0 hP
    have hDc : va_D A ([] : va_W) := k_D0
    have hF := k_self hDc hS hA
    refine k_run_i (va_runS (As := [.long ((S 0 22).toInt64), .long p2.toInt64, .long p3.toInt64]) (rest := []) ⟨hx, hb, hml, hown, hts⟩ (mX7_in l D cs  ((S 0 22).toInt64) p2.toInt64 p3.toInt64 r17 hq17 _) (va_cwS 3 hts gX7_takes_X7_in rfl rfl rfl (by decide +kernel) ⟨Nat.le_of_ble_eq_true rfl, Nat.le_of_ble_eq_true rfl⟩) ⟨k_blind, k_pre hPc hK hNn hDc⟩ rfl rfl hl.1 rfl (lv_room (Nat.le_of_ble_eq_true rfl)) dX7_takes_17 ⟨Nat.le_of_ble_eq_true rfl, Nat.le_of_ble_eq_true rfl⟩) hS hF (fun H locs hP1 hk hS => ?_)
    have hP : va_P D vwCl (wX7 cs a S L) _ := k_keep hP hk
    refine lv_if_ne (tgt := 25) hx hb dX7_takes_20 (by decide) (fun c20 => ?_) (fun c20 => ?_)
    · have hd := dn_f c20 hd
      refine lv_aload_n hx hb dX7_takes_25 rfl (lv_at hl 0 rfl) ?_
      refine va_get (D := D) (ci := 5) (v := .ref (a 18)) (C := RX7) (T := TX7) (N := 25) hx hb hts (fun w h => List.mem_cons_of_mem _ (List.mem_append_right _ h)) hown hK hP 0 rfl rfl 24 (by decide) (hts (.fieldLink RX7 67 "LeastNeedModel" "values" "[I") (List.mem_of_getElem? (i := 3) rfl)) (fun _ h9 => h9) rfl dX7_takes_26 ?_
      refine lv_iload_n hx hb dX7_takes_29 rfl (lv_at hl 1 rfl) ?_
      refine lv_aload_n hx hb dX7_takes_30 rfl (lv_at hl 0 rfl) ?_
      refine va_get (D := D) (ci := 5) (v := .int (S 0 22)) (C := RX7) (T := TX7) (N := 25) hx hb hts (fun w h => List.mem_cons_of_mem _ (List.mem_append_right _ h)) hown hK hP 0 rfl rfl 22 (by decide) (hts (.fieldLink RX7 274 "LeastNeedModel" "value" "I") (List.mem_of_getElem? (i := 2) rfl)) (fun _ h9 => h9) rfl dX7_takes_31 ?_
      obtain ⟨hi34, hd⟩ := dn_i hd
      refine k_iast (D := D) (k := p1.toNatClampNeg) (by rfl) hx hb hK hP hD hS 18 1 rfl rfl hi34 dX7_takes_34 (fun H locs hP hD hS => ?_)
      have hP : va_P D vwCl (wX7 cs a (k_w S 18 p1.toNatClampNeg (S 0 22)) L) _ := k_eq hP (wsX7_a18 cs a S L p1.toNatClampNeg (S 0 22))
      have hD := hDA (k_w S 18 p1.toNatClampNeg (S 0 22)) L
      refine lv_aload_n hx hb dX7_takes_35 rfl (lv_at hl 0 rfl) ?_
      obtain ⟨S36, hq36, hd⟩ := dn_b1 hd
      have hF := k_self hD hS hA
      refine k_run_v (va_runV (As := []) (rest := []) ⟨hx, hb, hml, hown, hts⟩ (mX7_goBehind l D cs a (k_w S 18 p1.toNatClampNeg (S 0 22)) L S36 hq36 _) (cwV 0 hts gX7_takes_X7_goBehind rfl rfl rfl (by decide +kernel) ⟨Nat.le_of_ble_eq_true rfl, Nat.le_of_ble_eq_true rfl⟩) ⟨k_blind, va_recv hK hP (ci := 5) (q0 := 0) rfl rfl, k_pre hP hK hNn hD⟩ rfl rfl hl.1 rfl (lv_room (Nat.le_of_ble_eq_true rfl)) dX7_takes_36 ⟨Nat.le_of_ble_eq_true rfl, Nat.le_of_ble_eq_true rfl⟩) hS hF (fun H locs hP1 hk hS => ?_)
      have hP : va_P D vwCl (wX7 cs a S36 L) _ := hP1
      have hD := hDA S36 L
      refine lv_iconst (v := (1 : Int32)) hx hb dX7_takes_39 (by decide) ?_
      obtain ⟨e1, e2⟩ := dn_s2 hd
      exact k_zret hx hb hr rfl hQ hAe e1 (by rw [e2]) hP hS hlocks dX7_takes_40
    · have hd := dn_t c20 hd
      refine lv_iconst (v := (0 : Int32)) hx hb dX7_takes_23 (by decide) ?_
      obtain ⟨e1, e2⟩ := dn_s2 hd
      exact k_zret hx hb hr rfl hQ hAe e1 (by rw [e2]) hP hS hlocks dX7_takes_24
-- LeastNeedModel.layPerson([IIIIIII)V
set_option maxRecDepth 20000 in
def nX7_layPerson_17 (S : Nat → Nat → Int32) (L : Nat → Nat → Int64) (p1 : Int32) (p2 : Int32) (p3 : Int32) (p4 : Int32) (p5 : Int32) (p6 : Int32) : Option ((Nat → Nat → Int32)) := if ((23 : Int32) + (S 17 0)) < 0 ∨ 140 ≤ ((23 : Int32) + (S 17 0)).toNatClampNeg then none else if ((30 : Int32) + (S 17 0)) < 0 ∨ 140 ≤ ((30 : Int32) + (S 17 0)).toNatClampNeg then none else if ((37 : Int32) + ((4 : Int32) * (S 17 0))) < 0 ∨ 140 ≤ ((37 : Int32) + ((4 : Int32) * (S 17 0))).toNatClampNeg then none else if (((37 : Int32) + ((4 : Int32) * (S 17 0))) + (1 : Int32)) < 0 ∨ 140 ≤ (((37 : Int32) + ((4 : Int32) * (S 17 0))) + (1 : Int32)).toNatClampNeg then none else if (((37 : Int32) + ((4 : Int32) * (S 17 0))) + (2 : Int32)) < 0 ∨ 140 ≤ (((37 : Int32) + ((4 : Int32) * (S 17 0))) + (2 : Int32)).toNatClampNeg then none else if (((37 : Int32) + ((4 : Int32) * (S 17 0))) + (3 : Int32)) < 0 ∨ 140 ≤ (((37 : Int32) + ((4 : Int32) * (S 17 0))) + (3 : Int32)).toNatClampNeg then none else if ((15 : Int32) + (S 17 0)) < 0 ∨ 140 ≤ ((15 : Int32) + (S 17 0)).toNatClampNeg then none else some (k_w (k_w (k_w (k_w (k_w (k_w (k_w (k_w S 17 (((23 : Int32) + (S 17 0)).toNatClampNeg) p1) 17 (((30 : Int32) + (S 17 0)).toNatClampNeg) p2) 17 (((37 : Int32) + ((4 : Int32) * (S 17 0))).toNatClampNeg) p3) 17 ((((37 : Int32) + ((4 : Int32) * (S 17 0))) + (1 : Int32)).toNatClampNeg) p4) 17 ((((37 : Int32) + ((4 : Int32) * (S 17 0))) + (2 : Int32)).toNatClampNeg) p5) 17 ((((37 : Int32) + ((4 : Int32) * (S 17 0))) + (3 : Int32)).toNatClampNeg) p6) 17 (((15 : Int32) + (S 17 0)).toNatClampNeg) (0 : Int32)) 17 0 (((k_w (k_w (k_w (k_w (k_w (k_w (k_w S 17 (((23 : Int32) + (S 17 0)).toNatClampNeg) p1) 17 (((30 : Int32) + (S 17 0)).toNatClampNeg) p2) 17 (((37 : Int32) + ((4 : Int32) * (S 17 0))).toNatClampNeg) p3) 17 ((((37 : Int32) + ((4 : Int32) * (S 17 0))) + (1 : Int32)).toNatClampNeg) p4) 17 ((((37 : Int32) + ((4 : Int32) * (S 17 0))) + (2 : Int32)).toNatClampNeg) p5) 17 ((((37 : Int32) + ((4 : Int32) * (S 17 0))) + (3 : Int32)).toNatClampNeg) p6) 17 (((15 : Int32) + (S 17 0)).toNatClampNeg) (0 : Int32)) 17 0) + (1 : Int32)))
set_option maxHeartbeats 4000000 in
set_option maxRecDepth 100000 in
theorem mX7_layPerson_17 (l : Launch) (D : va_G) (cs : Nat → ClassId) (a : Nat → Nat) (S : Nat → Nat → Int32) (L : Nat → Nat → Int64) (p1 : Int32) (p2 : Int32) (p3 : Int32) (p4 : Int32) (p5 : Int32) (p6 : Int32) (S9 : (Nat → Nat → Int32)) (hd : nX7_layPerson_17 S L p1 p2 p3 p4 p5 p6 = some S9) : ∀ sz : Nat, Met l yX7_layPerson wsX7_layPerson ({ frames := 0, cells := 0, slots := 0, locals := 0 }) (k_Pc D cs [.ref (a 17), .int p1, .int p2, .int p3, .int p4, .int p5, .int p6] (wX7 cs a S L) sz) (k_Qv D (wX7 cs a S L) (wX7 cs a S9 L) sz) 0 0 (va_A (wX7 cs a S L) sz) := by
  intro sz
  refine Met.ofW (cc := cX7_layPerson) (maxL := 8) (ret := none) (by decide) rfl ?_
  intro p e s m args below meth c s₁ B hml hv
  obtain ⟨rfl, hsz, hP, hK, hD0, hNn⟩ := hv
  have hx := B.exec
  have hb := B.bytes
  have hr := B.returns
  have hts := atoms_spec (ws := wsX7_layPerson) B.pre
  have hown : s.vm.findClass RX7 = some m.cls := findClass_of_methodNamed B.named
  have hlocks := B.notSynchronized
  subst hsz
  obtain ⟨A, hAe⟩ : ∃ A : Nat → Prop, A = va_A (wX7 cs a S L) s.heap.size := ⟨_, rfl⟩
  have hD : va_D A (wX7 cs a S L) := by rw [hAe]; exact hD0.self
  have hA : ∀ q : Nat, s.heap.size ≤ q → A q := fun q h => by rw [hAe]; exact Or.inr h
  have hS : va_S A s.heap s.heap [] := va_S.rf
  have hDA : ∀ (S : Nat → Nat → Int32) (L : Nat → Nat → Int64), va_D A (wX7 cs a S L) := fun S L => k_DA hD rfl
  have hl := lv_entry ([.ref (a 17), .int p1, .int p2, .int p3, .int p4, .int p5, .int p6]) (n := 8) (Nat.le_of_ble_eq_true rfl)
  rw [lg_entry_eq]
  generalize (lg_sl ([.ref (a 17), .int p1, .int p2, .int p3, .int p4, .int p5, .int p6]) ++ List.replicate (8 - (lg_sl ([.ref (a 17), .int p1, .int p2, .int p3, .int p4, .int p5, .int p6])).length) Slot.unset).toArray = ls at hl ⊢
  have hl : lv_has ls 8 [(0, .ref (a 17)), (1, .int p1), (2, .int p2), (3, .int p3), (4, .int p4), (5, .int p5), (6, .int p6)] := hl
  obtain ⟨Q, hQ⟩ : ∃ Q, Q = MQ below (k_Qv D (wX7 cs a S L) (wX7 cs a S9 L) s.heap.size) ([.ref (a 17), .int p1, .int p2, .int p3, .int p4, .int p5, .int p6] : List Value).toArray s 0 0 (va_A (wX7 cs a S L) s.heap.size) := ⟨_, rfl⟩
  rw [← hQ]
  unfold nX7_layPerson_17 at hd
  refine lv_aload_n hx hb dX7_layPerson_0 rfl (lv_at hl 0 rfl) ?_
  refine lv_iconst (v := (0 : Int32)) hx hb dX7_layPerson_1 (by decide) ?_
  refine k_iald (D := D) (k := 0) (by rfl) hx hb hK hP 17 1 rfl rfl (k_in (by decide)) dX7_layPerson_2 ?_
  refine lv_istore (lv' := [(7, .int (S 17 0)), (0, .ref (a 17)), (1, .int p1), (2, .int p2), (3, .int p3), (4, .int p4), (5, .int p5), (6, .int p6)]) hx hb dX7_layPerson_3 hl (by decide) rfl (fun ls hl => ?_)
  refine lv_aload_n hx hb dX7_layPerson_5 rfl (lv_at hl 1 rfl) ?_
  refine lv_bipush (v := (23 : Int32)) hx hb dX7_layPerson_6 (by decide) ?_
  refine lv_iload hx hb dX7_layPerson_8 (lv_at hl 0 rfl) ?_
  refine lv_iadd hx hb dX7_layPerson_10 ?_
  refine lv_iload_n hx hb dX7_layPerson_11 rfl (lv_at hl 2 rfl) ?_
  obtain ⟨hi12, hd⟩ := dn_i hd
  refine k_iast (D := D) (k := ((23 : Int32) + (S 17 0)).toNatClampNeg) (by rfl) hx hb hK hP hD hS 17 1 rfl rfl hi12 dX7_layPerson_12 (fun H locs hP hD hS => ?_)
  have hP : va_P D vwCl (wX7 cs a (k_w S 17 (((23 : Int32) + (S 17 0)).toNatClampNeg) p1) L) _ := k_eq hP (wsX7_a17 cs a S L (((23 : Int32) + (S 17 0)).toNatClampNeg) p1)
  have hD := hDA (k_w S 17 (((23 : Int32) + (S 17 0)).toNatClampNeg) p1) L
  refine lv_aload_n hx hb dX7_layPerson_13 rfl (lv_at hl 1 rfl) ?_
  refine lv_bipush (v := (30 : Int32)) hx hb dX7_layPerson_14 (by decide) ?_
  refine lv_iload hx hb dX7_layPerson_16 (lv_at hl 0 rfl) ?_
  refine lv_iadd hx hb dX7_layPerson_18 ?_
  refine lv_iload_n hx hb dX7_layPerson_19 rfl (lv_at hl 3 rfl) ?_
  obtain ⟨hi20, hd⟩ := dn_i hd
  refine k_iast (D := D) (k := ((30 : Int32) + (S 17 0)).toNatClampNeg) (by rfl) hx hb hK hP hD hS 17 1 rfl rfl hi20 dX7_layPerson_20 (fun H locs hP hD hS => ?_)
  have hP : va_P D vwCl (wX7 cs a (k_w (k_w S 17 (((23 : Int32) + (S 17 0)).toNatClampNeg) p1) 17 (((30 : Int32) + (S 17 0)).toNatClampNeg) p2) L) _ := k_eq hP (wsX7_a17 cs a (k_w S 17 (((23 : Int32) + (S 17 0)).toNatClampNeg) p1) L (((30 : Int32) + (S 17 0)).toNatClampNeg) p2)
  have hD := hDA (k_w (k_w S 17 (((23 : Int32) + (S 17 0)).toNatClampNeg) p1) 17 (((30 : Int32) + (S 17 0)).toNatClampNeg) p2) L
  refine lv_aload_n hx hb dX7_layPerson_21 rfl (lv_at hl 1 rfl) ?_
  refine lv_bipush (v := (37 : Int32)) hx hb dX7_layPerson_22 (by decide) ?_
  refine lv_iconst (v := (4 : Int32)) hx hb dX7_layPerson_24 (by decide) ?_
  refine lv_iload hx hb dX7_layPerson_25 (lv_at hl 0 rfl) ?_
  refine lv_imul hx hb dX7_layPerson_27 ?_
  refine lv_iadd hx hb dX7_layPerson_28 ?_
  refine lv_iload_n hx hb dX7_layPerson_29 rfl (lv_at hl 4 rfl) ?_
  obtain ⟨hi30, hd⟩ := dn_i hd
  refine k_iast (D := D) (k := ((37 : Int32) + ((4 : Int32) * (S 17 0))).toNatClampNeg) (by rfl) hx hb hK hP hD hS 17 1 rfl rfl hi30 dX7_layPerson_30 (fun H locs hP hD hS => ?_)
  have hP : va_P D vwCl (wX7 cs a (k_w (k_w (k_w S 17 (((23 : Int32) + (S 17 0)).toNatClampNeg) p1) 17 (((30 : Int32) + (S 17 0)).toNatClampNeg) p2) 17 (((37 : Int32) + ((4 : Int32) * (S 17 0))).toNatClampNeg) p3) L) _ := k_eq hP (wsX7_a17 cs a (k_w (k_w S 17 (((23 : Int32) + (S 17 0)).toNatClampNeg) p1) 17 (((30 : Int32) + (S 17 0)).toNatClampNeg) p2) L (((37 : Int32) + ((4 : Int32) * (S 17 0))).toNatClampNeg) p3)
  have hD := hDA (k_w (k_w (k_w S 17 (((23 : Int32) + (S 17 0)).toNatClampNeg) p1) 17 (((30 : Int32) + (S 17 0)).toNatClampNeg) p2) 17 (((37 : Int32) + ((4 : Int32) * (S 17 0))).toNatClampNeg) p3) L
  refine lv_aload_n hx hb dX7_layPerson_31 rfl (lv_at hl 1 rfl) ?_
  refine lv_bipush (v := (37 : Int32)) hx hb dX7_layPerson_32 (by decide) ?_
  refine lv_iconst (v := (4 : Int32)) hx hb dX7_layPerson_34 (by decide) ?_
  refine lv_iload hx hb dX7_layPerson_35 (lv_at hl 0 rfl) ?_
  refine lv_imul hx hb dX7_layPerson_37 ?_
  refine lv_iadd hx hb dX7_layPerson_38 ?_
  refine lv_iconst (v := (1 : Int32)) hx hb dX7_layPerson_39 (by decide) ?_
  refine lv_iadd hx hb dX7_layPerson_40 ?_
  refine lv_iload hx hb dX7_layPerson_41 (lv_at hl 5 rfl) ?_
  obtain ⟨hi43, hd⟩ := dn_i hd
  refine k_iast (D := D) (k := (((37 : Int32) + ((4 : Int32) * (S 17 0))) + (1 : Int32)).toNatClampNeg) (by rfl) hx hb hK hP hD hS 17 1 rfl rfl hi43 dX7_layPerson_43 (fun H locs hP hD hS => ?_)
  have hP : va_P D vwCl (wX7 cs a (k_w (k_w (k_w (k_w S 17 (((23 : Int32) + (S 17 0)).toNatClampNeg) p1) 17 (((30 : Int32) + (S 17 0)).toNatClampNeg) p2) 17 (((37 : Int32) + ((4 : Int32) * (S 17 0))).toNatClampNeg) p3) 17 ((((37 : Int32) + ((4 : Int32) * (S 17 0))) + (1 : Int32)).toNatClampNeg) p4) L) _ := k_eq hP (wsX7_a17 cs a (k_w (k_w (k_w S 17 (((23 : Int32) + (S 17 0)).toNatClampNeg) p1) 17 (((30 : Int32) + (S 17 0)).toNatClampNeg) p2) 17 (((37 : Int32) + ((4 : Int32) * (S 17 0))).toNatClampNeg) p3) L ((((37 : Int32) + ((4 : Int32) * (S 17 0))) + (1 : Int32)).toNatClampNeg) p4)
  have hD := hDA (k_w (k_w (k_w (k_w S 17 (((23 : Int32) + (S 17 0)).toNatClampNeg) p1) 17 (((30 : Int32) + (S 17 0)).toNatClampNeg) p2) 17 (((37 : Int32) + ((4 : Int32) * (S 17 0))).toNatClampNeg) p3) 17 ((((37 : Int32) + ((4 : Int32) * (S 17 0))) + (1 : Int32)).toNatClampNeg) p4) L
  refine lv_aload_n hx hb dX7_layPerson_44 rfl (lv_at hl 1 rfl) ?_
  refine lv_bipush (v := (37 : Int32)) hx hb dX7_layPerson_45 (by decide) ?_
  refine lv_iconst (v := (4 : Int32)) hx hb dX7_layPerson_47 (by decide) ?_
  refine lv_iload hx hb dX7_layPerson_48 (lv_at hl 0 rfl) ?_
  refine lv_imul hx hb dX7_layPerson_50 ?_
  refine lv_iadd hx hb dX7_layPerson_51 ?_
  refine lv_iconst (v := (2 : Int32)) hx hb dX7_layPerson_52 (by decide) ?_
  refine lv_iadd hx hb dX7_layPerson_53 ?_
  refine lv_iload hx hb dX7_layPerson_54 (lv_at hl 6 rfl) ?_
  obtain ⟨hi56, hd⟩ := dn_i hd
  refine k_iast (D := D) (k := (((37 : Int32) + ((4 : Int32) * (S 17 0))) + (2 : Int32)).toNatClampNeg) (by rfl) hx hb hK hP hD hS 17 1 rfl rfl hi56 dX7_layPerson_56 (fun H locs hP hD hS => ?_)
  have hP : va_P D vwCl (wX7 cs a (k_w (k_w (k_w (k_w (k_w S 17 (((23 : Int32) + (S 17 0)).toNatClampNeg) p1) 17 (((30 : Int32) + (S 17 0)).toNatClampNeg) p2) 17 (((37 : Int32) + ((4 : Int32) * (S 17 0))).toNatClampNeg) p3) 17 ((((37 : Int32) + ((4 : Int32) * (S 17 0))) + (1 : Int32)).toNatClampNeg) p4) 17 ((((37 : Int32) + ((4 : Int32) * (S 17 0))) + (2 : Int32)).toNatClampNeg) p5) L) _ := k_eq hP (wsX7_a17 cs a (k_w (k_w (k_w (k_w S 17 (((23 : Int32) + (S 17 0)).toNatClampNeg) p1) 17 (((30 : Int32) + (S 17 0)).toNatClampNeg) p2) 17 (((37 : Int32) + ((4 : Int32) * (S 17 0))).toNatClampNeg) p3) 17 ((((37 : Int32) + ((4 : Int32) * (S 17 0))) + (1 : Int32)).toNatClampNeg) p4) L ((((37 : Int32) + ((4 : Int32) * (S 17 0))) + (2 : Int32)).toNatClampNeg) p5)
  have hD := hDA (k_w (k_w (k_w (k_w (k_w S 17 (((23 : Int32) + (S 17 0)).toNatClampNeg) p1) 17 (((30 : Int32) + (S 17 0)).toNatClampNeg) p2) 17 (((37 : Int32) + ((4 : Int32) * (S 17 0))).toNatClampNeg) p3) 17 ((((37 : Int32) + ((4 : Int32) * (S 17 0))) + (1 : Int32)).toNatClampNeg) p4) 17 ((((37 : Int32) + ((4 : Int32) * (S 17 0))) + (2 : Int32)).toNatClampNeg) p5) L
  refine lv_aload_n hx hb dX7_layPerson_57 rfl (lv_at hl 1 rfl) ?_
  refine lv_bipush (v := (37 : Int32)) hx hb dX7_layPerson_58 (by decide) ?_
  refine lv_iconst (v := (4 : Int32)) hx hb dX7_layPerson_60 (by decide) ?_
  refine lv_iload hx hb dX7_layPerson_61 (lv_at hl 0 rfl) ?_
  refine lv_imul hx hb dX7_layPerson_63 ?_
  refine lv_iadd hx hb dX7_layPerson_64 ?_
  refine lv_iconst (v := (3 : Int32)) hx hb dX7_layPerson_65 (by decide) ?_
  refine lv_iadd hx hb dX7_layPerson_66 ?_
  refine lv_iload hx hb dX7_layPerson_67 (lv_at hl 7 rfl) ?_
  obtain ⟨hi69, hd⟩ := dn_i hd
  refine k_iast (D := D) (k := (((37 : Int32) + ((4 : Int32) * (S 17 0))) + (3 : Int32)).toNatClampNeg) (by rfl) hx hb hK hP hD hS 17 1 rfl rfl hi69 dX7_layPerson_69 (fun H locs hP hD hS => ?_)
  have hP : va_P D vwCl (wX7 cs a (k_w (k_w (k_w (k_w (k_w (k_w S 17 (((23 : Int32) + (S 17 0)).toNatClampNeg) p1) 17 (((30 : Int32) + (S 17 0)).toNatClampNeg) p2) 17 (((37 : Int32) + ((4 : Int32) * (S 17 0))).toNatClampNeg) p3) 17 ((((37 : Int32) + ((4 : Int32) * (S 17 0))) + (1 : Int32)).toNatClampNeg) p4) 17 ((((37 : Int32) + ((4 : Int32) * (S 17 0))) + (2 : Int32)).toNatClampNeg) p5) 17 ((((37 : Int32) + ((4 : Int32) * (S 17 0))) + (3 : Int32)).toNatClampNeg) p6) L) _ := k_eq hP (wsX7_a17 cs a (k_w (k_w (k_w (k_w (k_w S 17 (((23 : Int32) + (S 17 0)).toNatClampNeg) p1) 17 (((30 : Int32) + (S 17 0)).toNatClampNeg) p2) 17 (((37 : Int32) + ((4 : Int32) * (S 17 0))).toNatClampNeg) p3) 17 ((((37 : Int32) + ((4 : Int32) * (S 17 0))) + (1 : Int32)).toNatClampNeg) p4) 17 ((((37 : Int32) + ((4 : Int32) * (S 17 0))) + (2 : Int32)).toNatClampNeg) p5) L ((((37 : Int32) + ((4 : Int32) * (S 17 0))) + (3 : Int32)).toNatClampNeg) p6)
  have hD := hDA (k_w (k_w (k_w (k_w (k_w (k_w S 17 (((23 : Int32) + (S 17 0)).toNatClampNeg) p1) 17 (((30 : Int32) + (S 17 0)).toNatClampNeg) p2) 17 (((37 : Int32) + ((4 : Int32) * (S 17 0))).toNatClampNeg) p3) 17 ((((37 : Int32) + ((4 : Int32) * (S 17 0))) + (1 : Int32)).toNatClampNeg) p4) 17 ((((37 : Int32) + ((4 : Int32) * (S 17 0))) + (2 : Int32)).toNatClampNeg) p5) 17 ((((37 : Int32) + ((4 : Int32) * (S 17 0))) + (3 : Int32)).toNatClampNeg) p6) L
  refine lv_aload_n hx hb dX7_layPerson_70 rfl (lv_at hl 1 rfl) ?_
  refine lv_bipush (v := (15 : Int32)) hx hb dX7_layPerson_71 (by decide) ?_
  refine lv_iload hx hb dX7_layPerson_73 (lv_at hl 0 rfl) ?_
  refine lv_iadd hx hb dX7_layPerson_75 ?_
  refine lv_iconst (v := (0 : Int32)) hx hb dX7_layPerson_76 (by decide) ?_
  obtain ⟨hi77, hd⟩ := dn_i hd
  refine k_iast (D := D) (k := ((15 : Int32) + (S 17 0)).toNatClampNeg) (by rfl) hx hb hK hP hD hS 17 1 rfl rfl hi77 dX7_layPerson_77 (fun H locs hP hD hS => ?_)
  have hP : va_P D vwCl (wX7 cs a (k_w (k_w (k_w (k_w (k_w (k_w (k_w S 17 (((23 : Int32) + (S 17 0)).toNatClampNeg) p1) 17 (((30 : Int32) + (S 17 0)).toNatClampNeg) p2) 17 (((37 : Int32) + ((4 : Int32) * (S 17 0))).toNatClampNeg) p3) 17 ((((37 : Int32) + ((4 : Int32) * (S 17 0))) + (1 : Int32)).toNatClampNeg) p4) 17 ((((37 : Int32) + ((4 : Int32) * (S 17 0))) + (2 : Int32)).toNatClampNeg) p5) 17 ((((37 : Int32) + ((4 : Int32) * (S 17 0))) + (3 : Int32)).toNatClampNeg) p6) 17 (((15 : Int32) + (S 17 0)).toNatClampNeg) (0 : Int32)) L) _ := k_eq hP (wsX7_a17 cs a (k_w (k_w (k_w (k_w (k_w (k_w S 17 (((23 : Int32) + (S 17 0)).toNatClampNeg) p1) 17 (((30 : Int32) + (S 17 0)).toNatClampNeg) p2) 17 (((37 : Int32) + ((4 : Int32) * (S 17 0))).toNatClampNeg) p3) 17 ((((37 : Int32) + ((4 : Int32) * (S 17 0))) + (1 : Int32)).toNatClampNeg) p4) 17 ((((37 : Int32) + ((4 : Int32) * (S 17 0))) + (2 : Int32)).toNatClampNeg) p5) 17 ((((37 : Int32) + ((4 : Int32) * (S 17 0))) + (3 : Int32)).toNatClampNeg) p6) L (((15 : Int32) + (S 17 0)).toNatClampNeg) (0 : Int32))
  have hD := hDA (k_w (k_w (k_w (k_w (k_w (k_w (k_w S 17 (((23 : Int32) + (S 17 0)).toNatClampNeg) p1) 17 (((30 : Int32) + (S 17 0)).toNatClampNeg) p2) 17 (((37 : Int32) + ((4 : Int32) * (S 17 0))).toNatClampNeg) p3) 17 ((((37 : Int32) + ((4 : Int32) * (S 17 0))) + (1 : Int32)).toNatClampNeg) p4) 17 ((((37 : Int32) + ((4 : Int32) * (S 17 0))) + (2 : Int32)).toNatClampNeg) p5) 17 ((((37 : Int32) + ((4 : Int32) * (S 17 0))) + (3 : Int32)).toNatClampNeg) p6) 17 (((15 : Int32) + (S 17 0)).toNatClampNeg) (0 : Int32)) L
  refine lv_aload_n hx hb dX7_layPerson_78 rfl (lv_at hl 1 rfl) ?_
  refine lv_iconst (v := (0 : Int32)) hx hb dX7_layPerson_79 (by decide) ?_
  refine lv_dup2_11 hx hb dX7_layPerson_80 rfl rfl ?_
  refine k_iald (D := D) (k := 0) (by rfl) hx hb hK hP 17 1 rfl rfl (k_in (by decide)) dX7_layPerson_81 ?_
  refine lv_iconst (v := (1 : Int32)) hx hb dX7_layPerson_82 (by decide) ?_
  refine lv_iadd hx hb dX7_layPerson_83 ?_
  refine k_iast (D := D) (k := 0) (by rfl) hx hb hK hP hD hS 17 1 rfl rfl (k_in (by decide)) dX7_layPerson_84 (fun H locs hP hD hS => ?_)
  have hP : va_P D vwCl (wX7 cs a (k_w (k_w (k_w (k_w (k_w (k_w (k_w (k_w S 17 (((23 : Int32) + (S 17 0)).toNatClampNeg) p1) 17 (((30 : Int32) + (S 17 0)).toNatClampNeg) p2) 17 (((37 : Int32) + ((4 : Int32) * (S 17 0))).toNatClampNeg) p3) 17 ((((37 : Int32) + ((4 : Int32) * (S 17 0))) + (1 : Int32)).toNatClampNeg) p4) 17 ((((37 : Int32) + ((4 : Int32) * (S 17 0))) + (2 : Int32)).toNatClampNeg) p5) 17 ((((37 : Int32) + ((4 : Int32) * (S 17 0))) + (3 : Int32)).toNatClampNeg) p6) 17 (((15 : Int32) + (S 17 0)).toNatClampNeg) (0 : Int32)) 17 0 (((k_w (k_w (k_w (k_w (k_w (k_w (k_w S 17 (((23 : Int32) + (S 17 0)).toNatClampNeg) p1) 17 (((30 : Int32) + (S 17 0)).toNatClampNeg) p2) 17 (((37 : Int32) + ((4 : Int32) * (S 17 0))).toNatClampNeg) p3) 17 ((((37 : Int32) + ((4 : Int32) * (S 17 0))) + (1 : Int32)).toNatClampNeg) p4) 17 ((((37 : Int32) + ((4 : Int32) * (S 17 0))) + (2 : Int32)).toNatClampNeg) p5) 17 ((((37 : Int32) + ((4 : Int32) * (S 17 0))) + (3 : Int32)).toNatClampNeg) p6) 17 (((15 : Int32) + (S 17 0)).toNatClampNeg) (0 : Int32)) 17 0) + (1 : Int32))) L) _ := k_eq hP (wsX7_a17 cs a (k_w (k_w (k_w (k_w (k_w (k_w (k_w S 17 (((23 : Int32) + (S 17 0)).toNatClampNeg) p1) 17 (((30 : Int32) + (S 17 0)).toNatClampNeg) p2) 17 (((37 : Int32) + ((4 : Int32) * (S 17 0))).toNatClampNeg) p3) 17 ((((37 : Int32) + ((4 : Int32) * (S 17 0))) + (1 : Int32)).toNatClampNeg) p4) 17 ((((37 : Int32) + ((4 : Int32) * (S 17 0))) + (2 : Int32)).toNatClampNeg) p5) 17 ((((37 : Int32) + ((4 : Int32) * (S 17 0))) + (3 : Int32)).toNatClampNeg) p6) 17 (((15 : Int32) + (S 17 0)).toNatClampNeg) (0 : Int32)) L 0 (((k_w (k_w (k_w (k_w (k_w (k_w (k_w S 17 (((23 : Int32) + (S 17 0)).toNatClampNeg) p1) 17 (((30 : Int32) + (S 17 0)).toNatClampNeg) p2) 17 (((37 : Int32) + ((4 : Int32) * (S 17 0))).toNatClampNeg) p3) 17 ((((37 : Int32) + ((4 : Int32) * (S 17 0))) + (1 : Int32)).toNatClampNeg) p4) 17 ((((37 : Int32) + ((4 : Int32) * (S 17 0))) + (2 : Int32)).toNatClampNeg) p5) 17 ((((37 : Int32) + ((4 : Int32) * (S 17 0))) + (3 : Int32)).toNatClampNeg) p6) 17 (((15 : Int32) + (S 17 0)).toNatClampNeg) (0 : Int32)) 17 0) + (1 : Int32)))
  have hD := hDA (k_w (k_w (k_w (k_w (k_w (k_w (k_w (k_w S 17 (((23 : Int32) + (S 17 0)).toNatClampNeg) p1) 17 (((30 : Int32) + (S 17 0)).toNatClampNeg) p2) 17 (((37 : Int32) + ((4 : Int32) * (S 17 0))).toNatClampNeg) p3) 17 ((((37 : Int32) + ((4 : Int32) * (S 17 0))) + (1 : Int32)).toNatClampNeg) p4) 17 ((((37 : Int32) + ((4 : Int32) * (S 17 0))) + (2 : Int32)).toNatClampNeg) p5) 17 ((((37 : Int32) + ((4 : Int32) * (S 17 0))) + (3 : Int32)).toNatClampNeg) p6) 17 (((15 : Int32) + (S 17 0)).toNatClampNeg) (0 : Int32)) 17 0 (((k_w (k_w (k_w (k_w (k_w (k_w (k_w S 17 (((23 : Int32) + (S 17 0)).toNatClampNeg) p1) 17 (((30 : Int32) + (S 17 0)).toNatClampNeg) p2) 17 (((37 : Int32) + ((4 : Int32) * (S 17 0))).toNatClampNeg) p3) 17 ((((37 : Int32) + ((4 : Int32) * (S 17 0))) + (1 : Int32)).toNatClampNeg) p4) 17 ((((37 : Int32) + ((4 : Int32) * (S 17 0))) + (2 : Int32)).toNatClampNeg) p5) 17 ((((37 : Int32) + ((4 : Int32) * (S 17 0))) + (3 : Int32)).toNatClampNeg) p6) 17 (((15 : Int32) + (S 17 0)).toNatClampNeg) (0 : Int32)) 17 0) + (1 : Int32))) L
  have e1 := dn_s1 hd
  exact k_vret hx hb hr hQ hAe (by rw [e1]) hP hS hlocks dX7_layPerson_85
-- LeastNeedModel.takesPerson()Z
set_option maxRecDepth 20000 in
def nX7_takesPerson (S : Nat → Nat → Int32) (L : Nat → Nat → Int64) : Option (Int32 × (Nat → Nat → Int32)) := if (S 17 0) = (7 : Int32) then some ((0 : Int32), S) else k_b1 (nX7_goBehind S L) (fun S14 => k_b2 (nX7_takes S14 L (0 : Int32) (0 : Int32) (5 : Int32)) (fun r21 S21 => if r21 = 0 then some ((0 : Int32), S21) else k_b2 (nX7_takes S21 L (1 : Int32) (0 : Int32) (19 : Int32)) (fun r32 S32 => if r32 = 0 then some ((0 : Int32), S32) else k_b2 (nX7_takes S32 L (2 : Int32) (0 : Int32) (9 : Int32)) (fun r43 S43 => if r43 = 0 then some ((0 : Int32), S43) else k_b2 (nX7_takes S43 L (3 : Int32) (0 : Int32) (9 : Int32)) (fun r54 S54 => if r54 = 0 then some ((0 : Int32), S54) else k_b2 (nX7_takes S54 L (4 : Int32) (0 : Int32) (9 : Int32)) (fun r65 S65 => if r65 = 0 then some ((0 : Int32), S65) else k_b2 (nX7_takes S65 L (5 : Int32) (0 : Int32) (9 : Int32)) (fun r76 S76 => if r76 = 0 then some ((0 : Int32), S76) else k_b1 (nX7_layPerson_17 S76 L (S76 18 0) (S76 18 1) (S76 18 2) (S76 18 3) (S76 18 4) (S76 18 5)) (fun S124 => some ((1 : Int32), S124)))))))))
set_option maxHeartbeats 4000000 in
set_option maxRecDepth 100000 in
theorem mX7_takesPerson (l : Launch) (D : va_G) (cs : Nat → ClassId) (a : Nat → Nat) (S : Nat → Nat → Int32) (L : Nat → Nat → Int64) (r9 : Int32) (S9 : (Nat → Nat → Int32)) (hd : nX7_takesPerson S L = some (r9, S9)) : ∀ sz : Nat, Met l yX7_takesPerson wsX7_takesPerson ({ frames := 5, cells := 0, slots := 0, locals := 112 }) (k_Pc D cs [.ref (a 0)] (wX7 cs a S L) sz) (k_Qi D r9 (wX7 cs a S L) (wX7 cs a S9 L) sz) 0 0 (va_A (wX7 cs a S L) sz) := by
  intro sz
  refine Met.ofW (cc := cX7_takesPerson) (maxL := 1) (ret := (some .boolean)) (by decide) rfl ?_
  intro p e s m args below meth c s₁ B hml hv
  obtain ⟨rfl, hsz, hP, hK, hD0, hNn⟩ := hv
  have hx := B.exec
  have hb := B.bytes
  have hr := B.returns
  have hts := atoms_spec (ws := wsX7_takesPerson) B.pre
  have hown : s.vm.findClass RX7 = some m.cls := findClass_of_methodNamed B.named
  have hlocks := B.notSynchronized
  subst hsz
  obtain ⟨A, hAe⟩ : ∃ A : Nat → Prop, A = va_A (wX7 cs a S L) s.heap.size := ⟨_, rfl⟩
  have hD : va_D A (wX7 cs a S L) := by rw [hAe]; exact hD0.self
  have hA : ∀ q : Nat, s.heap.size ≤ q → A q := fun q h => by rw [hAe]; exact Or.inr h
  have hS : va_S A s.heap s.heap [] := va_S.rf
  have hDA : ∀ (S : Nat → Nat → Int32) (L : Nat → Nat → Int64), va_D A (wX7 cs a S L) := fun S L => k_DA hD rfl
  have hl := lv_entry ([.ref (a 0)]) (n := 1) (Nat.le_of_ble_eq_true rfl)
  rw [lg_entry_eq]
  generalize (lg_sl ([.ref (a 0)]) ++ List.replicate (1 - (lg_sl ([.ref (a 0)])).length) Slot.unset).toArray = ls at hl ⊢
  have hl : lv_has ls 1 [(0, .ref (a 0))] := hl
  obtain ⟨Q, hQ⟩ : ∃ Q, Q = MQ below (k_Qi D r9 (wX7 cs a S L) (wX7 cs a S9 L) s.heap.size) ([.ref (a 0)] : List Value).toArray s 0 0 (va_A (wX7 cs a S L) s.heap.size) := ⟨_, rfl⟩
  rw [← hQ]
  unfold nX7_takesPerson at hd
  refine lv_aload_n hx hb dX7_takesPerson_0 rfl (lv_at hl 0 rfl) ?_
  refine va_get (D := D) (ci := 5) (v := .ref (a 17)) (C := RX7) (T := TX7) (N := 25) hx hb hts (fun w h => List.mem_cons_of_mem _ (List.mem_append_right _ h)) hown hK hP 0 rfl rfl 23 (by decide) (hts (.fieldLink RX7 64 "LeastNeedModel" "anew" "[I") (List.mem_of_getElem? (i := 1) rfl)) (fun _ h9 => h9) rfl dX7_takesPerson_1 ?_
  refine lv_iconst (v := (0 : Int32)) hx hb dX7_takesPerson_4 (by decide) ?_
  refine k_iald (D := D) (k := 0) (by rfl) hx hb hK hP 17 1 rfl rfl (k_in (by decide)) dX7_takesPerson_5 ?_
  refine lv_bipush (v := (7 : Int32)) hx hb dX7_takesPerson_6 (by decide) ?_
  refine lv_icmp_ne (tgt := 13) hx hb dX7_takesPerson_8 (by decide) (fun c8 => ?_) (fun c8 => ?_)
  · have hd := dn_f c8 hd
    refine lv_aload_n hx hb dX7_takesPerson_13 rfl (lv_at hl 0 rfl) ?_
    obtain ⟨S14, hq14, hd⟩ := dn_b1 hd
    have hF := k_self hD hS hA
    refine k_run_v (va_runV (As := []) (rest := []) ⟨hx, hb, hml, hown, hts⟩ (mX7_goBehind l D cs a S L S14 hq14 _) (cwV 0 hts gX7_takesPerson_X7_goBehind rfl rfl rfl (by decide +kernel) ⟨Nat.le_of_ble_eq_true rfl, Nat.le_of_ble_eq_true rfl⟩) ⟨k_blind, va_recv hK hP (ci := 5) (q0 := 0) rfl rfl, k_pre hP hK hNn hD⟩ rfl rfl hl.1 rfl (lv_room (Nat.le_of_ble_eq_true rfl)) dX7_takesPerson_14 ⟨Nat.le_of_ble_eq_true rfl, Nat.le_of_ble_eq_true rfl⟩) hS hF (fun H locs hP1 hk hS => ?_)
    have hP : va_P D vwCl (wX7 cs a S14 L) _ := hP1
    have hD := hDA S14 L
    refine lv_aload_n hx hb dX7_takesPerson_17 rfl (lv_at hl 0 rfl) ?_
    refine lv_iconst (v := (0 : Int32)) hx hb dX7_takesPerson_18 (by decide) ?_
    refine lv_iconst (v := (0 : Int32)) hx hb dX7_takesPerson_19 (by decide) ?_
    refine lv_iconst (v := (5 : Int32)) hx hb dX7_takesPerson_20 (by decide) ?_
    obtain ⟨r21, S21, hq21, hd⟩ := dn_b2 hd
    have hF := k_self hD hS hA
    refine k_run_i (va_runV (As := [.int (0 : Int32), .int (0 : Int32), .int (5 : Int32)]) (rest := []) ⟨hx, hb, hml, hown, hts⟩ (mX7_takes l D cs a S14 L (0 : Int32) (0 : Int32) (5 : Int32) r21 S21 hq21 _) (cwV 3 hts gX7_takesPerson_X7_takes rfl rfl rfl (by decide +kernel) ⟨Nat.le_of_ble_eq_true rfl, Nat.le_of_ble_eq_true rfl⟩) ⟨k_blind, va_recv hK hP (ci := 5) (q0 := 0) rfl rfl, k_pre hP hK hNn hD⟩ rfl rfl hl.1 rfl (lv_room (Nat.le_of_ble_eq_true rfl)) dX7_takesPerson_21 ⟨Nat.le_of_ble_eq_true rfl, Nat.le_of_ble_eq_true rfl⟩) hS hF (fun H locs hP1 hk hS => ?_)
    have hP : va_P D vwCl (wX7 cs a S21 L) _ := hP1
    have hD := hDA S21 L
    refine lv_if_eq (tgt := 82) hx hb dX7_takesPerson_24 (by decide) (fun c24 => ?_) (fun c24 => ?_)
    · have hd := dn_t c24 hd
      refine lv_iconst (v := (0 : Int32)) hx hb dX7_takesPerson_82 (by decide) ?_
      obtain ⟨e1, e2⟩ := dn_s2 hd
      exact k_zret hx hb hr rfl hQ hAe e1 (by rw [e2]) hP hS hlocks dX7_takesPerson_83
    · have hd := dn_f c24 hd
      refine lv_aload_n hx hb dX7_takesPerson_27 rfl (lv_at hl 0 rfl) ?_
      refine lv_iconst (v := (1 : Int32)) hx hb dX7_takesPerson_28 (by decide) ?_
      refine lv_iconst (v := (0 : Int32)) hx hb dX7_takesPerson_29 (by decide) ?_
      refine lv_bipush (v := (19 : Int32)) hx hb dX7_takesPerson_30 (by decide) ?_
      obtain ⟨r32, S32, hq32, hd⟩ := dn_b2 hd
      have hF := k_self hD hS hA
      refine k_run_i (va_runV (As := [.int (1 : Int32), .int (0 : Int32), .int (19 : Int32)]) (rest := []) ⟨hx, hb, hml, hown, hts⟩ (mX7_takes l D cs a S21 L (1 : Int32) (0 : Int32) (19 : Int32) r32 S32 hq32 _) (cwV 3 hts gX7_takesPerson_X7_takes rfl rfl rfl (by decide +kernel) ⟨Nat.le_of_ble_eq_true rfl, Nat.le_of_ble_eq_true rfl⟩) ⟨k_blind, va_recv hK hP (ci := 5) (q0 := 0) rfl rfl, k_pre hP hK hNn hD⟩ rfl rfl hl.1 rfl (lv_room (Nat.le_of_ble_eq_true rfl)) dX7_takesPerson_32 ⟨Nat.le_of_ble_eq_true rfl, Nat.le_of_ble_eq_true rfl⟩) hS hF (fun H locs hP1 hk hS => ?_)
      have hP : va_P D vwCl (wX7 cs a S32 L) _ := hP1
      have hD := hDA S32 L
      refine lv_if_eq (tgt := 82) hx hb dX7_takesPerson_35 (by decide) (fun c35 => ?_) (fun c35 => ?_)
      · have hd := dn_t c35 hd
        refine lv_iconst (v := (0 : Int32)) hx hb dX7_takesPerson_82 (by decide) ?_
        obtain ⟨e1, e2⟩ := dn_s2 hd
        exact k_zret hx hb hr rfl hQ hAe e1 (by rw [e2]) hP hS hlocks dX7_takesPerson_83
      · have hd := dn_f c35 hd
        refine lv_aload_n hx hb dX7_takesPerson_38 rfl (lv_at hl 0 rfl) ?_
        refine lv_iconst (v := (2 : Int32)) hx hb dX7_takesPerson_39 (by decide) ?_
        refine lv_iconst (v := (0 : Int32)) hx hb dX7_takesPerson_40 (by decide) ?_
        refine lv_bipush (v := (9 : Int32)) hx hb dX7_takesPerson_41 (by decide) ?_
        obtain ⟨r43, S43, hq43, hd⟩ := dn_b2 hd
        have hF := k_self hD hS hA
        refine k_run_i (va_runV (As := [.int (2 : Int32), .int (0 : Int32), .int (9 : Int32)]) (rest := []) ⟨hx, hb, hml, hown, hts⟩ (mX7_takes l D cs a S32 L (2 : Int32) (0 : Int32) (9 : Int32) r43 S43 hq43 _) (cwV 3 hts gX7_takesPerson_X7_takes rfl rfl rfl (by decide +kernel) ⟨Nat.le_of_ble_eq_true rfl, Nat.le_of_ble_eq_true rfl⟩) ⟨k_blind, va_recv hK hP (ci := 5) (q0 := 0) rfl rfl, k_pre hP hK hNn hD⟩ rfl rfl hl.1 rfl (lv_room (Nat.le_of_ble_eq_true rfl)) dX7_takesPerson_43 ⟨Nat.le_of_ble_eq_true rfl, Nat.le_of_ble_eq_true rfl⟩) hS hF (fun H locs hP1 hk hS => ?_)
        have hP : va_P D vwCl (wX7 cs a S43 L) _ := hP1
        have hD := hDA S43 L
        refine lv_if_eq (tgt := 82) hx hb dX7_takesPerson_46 (by decide) (fun c46 => ?_) (fun c46 => ?_)
        · have hd := dn_t c46 hd
          refine lv_iconst (v := (0 : Int32)) hx hb dX7_takesPerson_82 (by decide) ?_
          obtain ⟨e1, e2⟩ := dn_s2 hd
          exact k_zret hx hb hr rfl hQ hAe e1 (by rw [e2]) hP hS hlocks dX7_takesPerson_83
        · have hd := dn_f c46 hd
          refine lv_aload_n hx hb dX7_takesPerson_49 rfl (lv_at hl 0 rfl) ?_
          refine lv_iconst (v := (3 : Int32)) hx hb dX7_takesPerson_50 (by decide) ?_
          refine lv_iconst (v := (0 : Int32)) hx hb dX7_takesPerson_51 (by decide) ?_
          refine lv_bipush (v := (9 : Int32)) hx hb dX7_takesPerson_52 (by decide) ?_
          obtain ⟨r54, S54, hq54, hd⟩ := dn_b2 hd
          have hF := k_self hD hS hA
          refine k_run_i (va_runV (As := [.int (3 : Int32), .int (0 : Int32), .int (9 : Int32)]) (rest := []) ⟨hx, hb, hml, hown, hts⟩ (mX7_takes l D cs a S43 L (3 : Int32) (0 : Int32) (9 : Int32) r54 S54 hq54 _) (cwV 3 hts gX7_takesPerson_X7_takes rfl rfl rfl (by decide +kernel) ⟨Nat.le_of_ble_eq_true rfl, Nat.le_of_ble_eq_true rfl⟩) ⟨k_blind, va_recv hK hP (ci := 5) (q0 := 0) rfl rfl, k_pre hP hK hNn hD⟩ rfl rfl hl.1 rfl (lv_room (Nat.le_of_ble_eq_true rfl)) dX7_takesPerson_54 ⟨Nat.le_of_ble_eq_true rfl, Nat.le_of_ble_eq_true rfl⟩) hS hF (fun H locs hP1 hk hS => ?_)
          have hP : va_P D vwCl (wX7 cs a S54 L) _ := hP1
          have hD := hDA S54 L
          refine lv_if_eq (tgt := 82) hx hb dX7_takesPerson_57 (by decide) (fun c57 => ?_) (fun c57 => ?_)
          · have hd := dn_t c57 hd
            refine lv_iconst (v := (0 : Int32)) hx hb dX7_takesPerson_82 (by decide) ?_
            obtain ⟨e1, e2⟩ := dn_s2 hd
            exact k_zret hx hb hr rfl hQ hAe e1 (by rw [e2]) hP hS hlocks dX7_takesPerson_83
          · have hd := dn_f c57 hd
            refine lv_aload_n hx hb dX7_takesPerson_60 rfl (lv_at hl 0 rfl) ?_
            refine lv_iconst (v := (4 : Int32)) hx hb dX7_takesPerson_61 (by decide) ?_
            refine lv_iconst (v := (0 : Int32)) hx hb dX7_takesPerson_62 (by decide) ?_
            refine lv_bipush (v := (9 : Int32)) hx hb dX7_takesPerson_63 (by decide) ?_
            obtain ⟨r65, S65, hq65, hd⟩ := dn_b2 hd
            have hF := k_self hD hS hA
            refine k_run_i (va_runV (As := [.int (4 : Int32), .int (0 : Int32), .int (9 : Int32)]) (rest := []) ⟨hx, hb, hml, hown, hts⟩ (mX7_takes l D cs a S54 L (4 : Int32) (0 : Int32) (9 : Int32) r65 S65 hq65 _) (cwV 3 hts gX7_takesPerson_X7_takes rfl rfl rfl (by decide +kernel) ⟨Nat.le_of_ble_eq_true rfl, Nat.le_of_ble_eq_true rfl⟩) ⟨k_blind, va_recv hK hP (ci := 5) (q0 := 0) rfl rfl, k_pre hP hK hNn hD⟩ rfl rfl hl.1 rfl (lv_room (Nat.le_of_ble_eq_true rfl)) dX7_takesPerson_65 ⟨Nat.le_of_ble_eq_true rfl, Nat.le_of_ble_eq_true rfl⟩) hS hF (fun H locs hP1 hk hS => ?_)
            have hP : va_P D vwCl (wX7 cs a S65 L) _ := hP1
            have hD := hDA S65 L
            refine lv_if_eq (tgt := 82) hx hb dX7_takesPerson_68 (by decide) (fun c68 => ?_) (fun c68 => ?_)
            · have hd := dn_t c68 hd
              refine lv_iconst (v := (0 : Int32)) hx hb dX7_takesPerson_82 (by decide) ?_
              obtain ⟨e1, e2⟩ := dn_s2 hd
              exact k_zret hx hb hr rfl hQ hAe e1 (by rw [e2]) hP hS hlocks dX7_takesPerson_83
            · have hd := dn_f c68 hd
              refine lv_aload_n hx hb dX7_takesPerson_71 rfl (lv_at hl 0 rfl) ?_
              refine lv_iconst (v := (5 : Int32)) hx hb dX7_takesPerson_72 (by decide) ?_
              refine lv_iconst (v := (0 : Int32)) hx hb dX7_takesPerson_73 (by decide) ?_
              refine lv_bipush (v := (9 : Int32)) hx hb dX7_takesPerson_74 (by decide) ?_
              obtain ⟨r76, S76, hq76, hd⟩ := dn_b2 hd
              have hF := k_self hD hS hA
              refine k_run_i (va_runV (As := [.int (5 : Int32), .int (0 : Int32), .int (9 : Int32)]) (rest := []) ⟨hx, hb, hml, hown, hts⟩ (mX7_takes l D cs a S65 L (5 : Int32) (0 : Int32) (9 : Int32) r76 S76 hq76 _) (cwV 3 hts gX7_takesPerson_X7_takes rfl rfl rfl (by decide +kernel) ⟨Nat.le_of_ble_eq_true rfl, Nat.le_of_ble_eq_true rfl⟩) ⟨k_blind, va_recv hK hP (ci := 5) (q0 := 0) rfl rfl, k_pre hP hK hNn hD⟩ rfl rfl hl.1 rfl (lv_room (Nat.le_of_ble_eq_true rfl)) dX7_takesPerson_76 ⟨Nat.le_of_ble_eq_true rfl, Nat.le_of_ble_eq_true rfl⟩) hS hF (fun H locs hP1 hk hS => ?_)
              have hP : va_P D vwCl (wX7 cs a S76 L) _ := hP1
              have hD := hDA S76 L
              refine lv_if_ne (tgt := 84) hx hb dX7_takesPerson_79 (by decide) (fun c79 => ?_) (fun c79 => ?_)
              · have hd := dn_f c79 hd
                refine lv_aload_n hx hb dX7_takesPerson_84 rfl (lv_at hl 0 rfl) ?_
                refine va_get (D := D) (ci := 5) (v := .ref (a 17)) (C := RX7) (T := TX7) (N := 25) hx hb hts (fun w h => List.mem_cons_of_mem _ (List.mem_append_right _ h)) hown hK hP 0 rfl rfl 23 (by decide) (hts (.fieldLink RX7 64 "LeastNeedModel" "anew" "[I") (List.mem_of_getElem? (i := 1) rfl)) (fun _ h9 => h9) rfl dX7_takesPerson_85 ?_
                refine lv_aload_n hx hb dX7_takesPerson_88 rfl (lv_at hl 0 rfl) ?_
                refine va_get (D := D) (ci := 5) (v := .ref (a 18)) (C := RX7) (T := TX7) (N := 25) hx hb hts (fun w h => List.mem_cons_of_mem _ (List.mem_append_right _ h)) hown hK hP 0 rfl rfl 24 (by decide) (hts (.fieldLink RX7 67 "LeastNeedModel" "values" "[I") (List.mem_of_getElem? (i := 2) rfl)) (fun _ h9 => h9) rfl dX7_takesPerson_89 ?_
                refine lv_iconst (v := (0 : Int32)) hx hb dX7_takesPerson_92 (by decide) ?_
                refine k_iald (D := D) (k := 0) (by rfl) hx hb hK hP 18 1 rfl rfl (k_in (by decide)) dX7_takesPerson_93 ?_
                refine lv_aload_n hx hb dX7_takesPerson_94 rfl (lv_at hl 0 rfl) ?_
                refine va_get (D := D) (ci := 5) (v := .ref (a 18)) (C := RX7) (T := TX7) (N := 25) hx hb hts (fun w h => List.mem_cons_of_mem _ (List.mem_append_right _ h)) hown hK hP 0 rfl rfl 24 (by decide) (hts (.fieldLink RX7 67 "LeastNeedModel" "values" "[I") (List.mem_of_getElem? (i := 2) rfl)) (fun _ h9 => h9) rfl dX7_takesPerson_95 ?_
                refine lv_iconst (v := (1 : Int32)) hx hb dX7_takesPerson_98 (by decide) ?_
                refine k_iald (D := D) (k := 1) (by rfl) hx hb hK hP 18 1 rfl rfl (k_in (by decide)) dX7_takesPerson_99 ?_
                refine lv_aload_n hx hb dX7_takesPerson_100 rfl (lv_at hl 0 rfl) ?_
                refine va_get (D := D) (ci := 5) (v := .ref (a 18)) (C := RX7) (T := TX7) (N := 25) hx hb hts (fun w h => List.mem_cons_of_mem _ (List.mem_append_right _ h)) hown hK hP 0 rfl rfl 24 (by decide) (hts (.fieldLink RX7 67 "LeastNeedModel" "values" "[I") (List.mem_of_getElem? (i := 2) rfl)) (fun _ h9 => h9) rfl dX7_takesPerson_101 ?_
                refine lv_iconst (v := (2 : Int32)) hx hb dX7_takesPerson_104 (by decide) ?_
                refine k_iald (D := D) (k := 2) (by rfl) hx hb hK hP 18 1 rfl rfl (k_in (by decide)) dX7_takesPerson_105 ?_
                refine lv_aload_n hx hb dX7_takesPerson_106 rfl (lv_at hl 0 rfl) ?_
                refine va_get (D := D) (ci := 5) (v := .ref (a 18)) (C := RX7) (T := TX7) (N := 25) hx hb hts (fun w h => List.mem_cons_of_mem _ (List.mem_append_right _ h)) hown hK hP 0 rfl rfl 24 (by decide) (hts (.fieldLink RX7 67 "LeastNeedModel" "values" "[I") (List.mem_of_getElem? (i := 2) rfl)) (fun _ h9 => h9) rfl dX7_takesPerson_107 ?_
                refine lv_iconst (v := (3 : Int32)) hx hb dX7_takesPerson_110 (by decide) ?_
                refine k_iald (D := D) (k := 3) (by rfl) hx hb hK hP 18 1 rfl rfl (k_in (by decide)) dX7_takesPerson_111 ?_
                refine lv_aload_n hx hb dX7_takesPerson_112 rfl (lv_at hl 0 rfl) ?_
                refine va_get (D := D) (ci := 5) (v := .ref (a 18)) (C := RX7) (T := TX7) (N := 25) hx hb hts (fun w h => List.mem_cons_of_mem _ (List.mem_append_right _ h)) hown hK hP 0 rfl rfl 24 (by decide) (hts (.fieldLink RX7 67 "LeastNeedModel" "values" "[I") (List.mem_of_getElem? (i := 2) rfl)) (fun _ h9 => h9) rfl dX7_takesPerson_113 ?_
                refine lv_iconst (v := (4 : Int32)) hx hb dX7_takesPerson_116 (by decide) ?_
                refine k_iald (D := D) (k := 4) (by rfl) hx hb hK hP 18 1 rfl rfl (k_in (by decide)) dX7_takesPerson_117 ?_
                refine lv_aload_n hx hb dX7_takesPerson_118 rfl (lv_at hl 0 rfl) ?_
                refine va_get (D := D) (ci := 5) (v := .ref (a 18)) (C := RX7) (T := TX7) (N := 25) hx hb hts (fun w h => List.mem_cons_of_mem _ (List.mem_append_right _ h)) hown hK hP 0 rfl rfl 24 (by decide) (hts (.fieldLink RX7 67 "LeastNeedModel" "values" "[I") (List.mem_of_getElem? (i := 2) rfl)) (fun _ h9 => h9) rfl dX7_takesPerson_119 ?_
                refine lv_iconst (v := (5 : Int32)) hx hb dX7_takesPerson_122 (by decide) ?_
                refine k_iald (D := D) (k := 5) (by rfl) hx hb hK hP 18 1 rfl rfl (k_in (by decide)) dX7_takesPerson_123 ?_
                obtain ⟨S124, hq124, hd⟩ := dn_b1 hd
                have hF := k_self hD hS hA
                refine k_run_v (va_runS (As := [.ref (a 17), .int (S76 18 0), .int (S76 18 1), .int (S76 18 2), .int (S76 18 3), .int (S76 18 4), .int (S76 18 5)]) (rest := []) ⟨hx, hb, hml, hown, hts⟩ (mX7_layPerson_17 l D cs a S76 L (S76 18 0) (S76 18 1) (S76 18 2) (S76 18 3) (S76 18 4) (S76 18 5) S124 hq124 _) (va_cwS 7 hts gX7_takesPerson_X7_layPerson rfl rfl rfl (by decide +kernel) ⟨Nat.le_of_ble_eq_true rfl, Nat.le_of_ble_eq_true rfl⟩) ⟨k_blind, k_pre hP hK hNn hD⟩ rfl rfl hl.1 rfl (lv_room (Nat.le_of_ble_eq_true rfl)) dX7_takesPerson_124 ⟨Nat.le_of_ble_eq_true rfl, Nat.le_of_ble_eq_true rfl⟩) hS hF (fun H locs hP1 hk hS => ?_)
                have hP : va_P D vwCl (wX7 cs a S124 L) _ := hP1
                have hD := hDA S124 L
                refine lv_iconst (v := (1 : Int32)) hx hb dX7_takesPerson_127 (by decide) ?_
                obtain ⟨e1, e2⟩ := dn_s2 hd
                exact k_zret hx hb hr rfl hQ hAe e1 (by rw [e2]) hP hS hlocks dX7_takesPerson_128
              · have hd := dn_t c79 hd
                refine lv_iconst (v := (0 : Int32)) hx hb dX7_takesPerson_82 (by decide) ?_
                obtain ⟨e1, e2⟩ := dn_s2 hd
                exact k_zret hx hb hr rfl hQ hAe e1 (by rw [e2]) hP hS hlocks dX7_takesPerson_83
  · have hd := dn_t c8 hd
    refine lv_iconst (v := (0 : Int32)) hx hb dX7_takesPerson_11 (by decide) ?_
    obtain ⟨e1, e2⟩ := dn_s2 hd
    exact k_zret hx hb hr rfl hQ hAe e1 (by rw [e2]) hP hS hlocks dX7_takesPerson_12
-- LeastNeedModel.takesCoat()Z
set_option maxRecDepth 20000 in
def nX7_takesCoat (S : Nat → Nat → Int32) (L : Nat → Nat → Int64) : Option (Int32 × (Nat → Nat → Int32)) := k_b1 (nX7_goBehind S L) (fun S1 => k_b2 (nX7_takes S1 L (0 : Int32) (0 : Int32) ((S1 17 0) - (1 : Int32))) (fun r15 S15 => if r15 = 0 then some ((0 : Int32), S15) else k_b2 (nX7_takes S15 L (1 : Int32) (0 : Int32) (9 : Int32)) (fun r26 S26 => if r26 = 0 then some ((0 : Int32), S26) else if ((15 : Int32) + (S26 18 0)) < 0 ∨ 140 ≤ ((15 : Int32) + (S26 18 0)).toNatClampNeg then none else some ((1 : Int32), (k_w S26 17 (((15 : Int32) + (S26 18 0)).toNatClampNeg) (S26 18 1))))))
set_option maxHeartbeats 4000000 in
set_option maxRecDepth 100000 in
theorem mX7_takesCoat (l : Launch) (D : va_G) (cs : Nat → ClassId) (a : Nat → Nat) (S : Nat → Nat → Int32) (L : Nat → Nat → Int64) (r9 : Int32) (S9 : (Nat → Nat → Int32)) (hd : nX7_takesCoat S L = some (r9, S9)) : ∀ sz : Nat, Met l yX7_takesCoat wsX7_takesCoat ({ frames := 5, cells := 0, slots := 0, locals := 112 }) (k_Pc D cs [.ref (a 0)] (wX7 cs a S L) sz) (k_Qi D r9 (wX7 cs a S L) (wX7 cs a S9 L) sz) 0 0 (va_A (wX7 cs a S L) sz) := by
  intro sz
  refine Met.ofW (cc := cX7_takesCoat) (maxL := 1) (ret := (some .boolean)) (by decide) rfl ?_
  intro p e s m args below meth c s₁ B hml hv
  obtain ⟨rfl, hsz, hP, hK, hD0, hNn⟩ := hv
  have hx := B.exec
  have hb := B.bytes
  have hr := B.returns
  have hts := atoms_spec (ws := wsX7_takesCoat) B.pre
  have hown : s.vm.findClass RX7 = some m.cls := findClass_of_methodNamed B.named
  have hlocks := B.notSynchronized
  subst hsz
  obtain ⟨A, hAe⟩ : ∃ A : Nat → Prop, A = va_A (wX7 cs a S L) s.heap.size := ⟨_, rfl⟩
  have hD : va_D A (wX7 cs a S L) := by rw [hAe]; exact hD0.self
  have hA : ∀ q : Nat, s.heap.size ≤ q → A q := fun q h => by rw [hAe]; exact Or.inr h
  have hS : va_S A s.heap s.heap [] := va_S.rf
  have hDA : ∀ (S : Nat → Nat → Int32) (L : Nat → Nat → Int64), va_D A (wX7 cs a S L) := fun S L => k_DA hD rfl
  have hl := lv_entry ([.ref (a 0)]) (n := 1) (Nat.le_of_ble_eq_true rfl)
  rw [lg_entry_eq]
  generalize (lg_sl ([.ref (a 0)]) ++ List.replicate (1 - (lg_sl ([.ref (a 0)])).length) Slot.unset).toArray = ls at hl ⊢
  have hl : lv_has ls 1 [(0, .ref (a 0))] := hl
  obtain ⟨Q, hQ⟩ : ∃ Q, Q = MQ below (k_Qi D r9 (wX7 cs a S L) (wX7 cs a S9 L) s.heap.size) ([.ref (a 0)] : List Value).toArray s 0 0 (va_A (wX7 cs a S L) s.heap.size) := ⟨_, rfl⟩
  rw [← hQ]
  unfold nX7_takesCoat at hd
  refine lv_aload_n hx hb dX7_takesCoat_0 rfl (lv_at hl 0 rfl) ?_
  obtain ⟨S1, hq1, hd⟩ := dn_b1 hd
  have hF := k_self hD hS hA
  refine k_run_v (va_runV (As := []) (rest := []) ⟨hx, hb, hml, hown, hts⟩ (mX7_goBehind l D cs a S L S1 hq1 _) (cwV 0 hts gX7_takesCoat_X7_goBehind rfl rfl rfl (by decide +kernel) ⟨Nat.le_of_ble_eq_true rfl, Nat.le_of_ble_eq_true rfl⟩) ⟨k_blind, va_recv hK hP (ci := 5) (q0 := 0) rfl rfl, k_pre hP hK hNn hD⟩ rfl rfl hl.1 rfl (lv_room (Nat.le_of_ble_eq_true rfl)) dX7_takesCoat_1 ⟨Nat.le_of_ble_eq_true rfl, Nat.le_of_ble_eq_true rfl⟩) hS hF (fun H locs hP1 hk hS => ?_)
  have hP : va_P D vwCl (wX7 cs a S1 L) _ := hP1
  have hD := hDA S1 L
  refine lv_aload_n hx hb dX7_takesCoat_4 rfl (lv_at hl 0 rfl) ?_
  refine lv_iconst (v := (0 : Int32)) hx hb dX7_takesCoat_5 (by decide) ?_
  refine lv_iconst (v := (0 : Int32)) hx hb dX7_takesCoat_6 (by decide) ?_
  refine lv_aload_n hx hb dX7_takesCoat_7 rfl (lv_at hl 0 rfl) ?_
  refine va_get (D := D) (ci := 5) (v := .ref (a 17)) (C := RX7) (T := TX7) (N := 25) hx hb hts (fun w h => List.mem_cons_of_mem _ (List.mem_append_right _ h)) hown hK hP 0 rfl rfl 23 (by decide) (hts (.fieldLink RX7 64 "LeastNeedModel" "anew" "[I") (List.mem_of_getElem? (i := 1) rfl)) (fun _ h9 => h9) rfl dX7_takesCoat_8 ?_
  refine lv_iconst (v := (0 : Int32)) hx hb dX7_takesCoat_11 (by decide) ?_
  refine k_iald (D := D) (k := 0) (by rfl) hx hb hK hP 17 1 rfl rfl (k_in (by decide)) dX7_takesCoat_12 ?_
  refine lv_iconst (v := (1 : Int32)) hx hb dX7_takesCoat_13 (by decide) ?_
  refine lv_isub hx hb dX7_takesCoat_14 ?_
  obtain ⟨r15, S15, hq15, hd⟩ := dn_b2 hd
  have hF := k_self hD hS hA
  refine k_run_i (va_runV (As := [.int (0 : Int32), .int (0 : Int32), .int ((S1 17 0) - (1 : Int32))]) (rest := []) ⟨hx, hb, hml, hown, hts⟩ (mX7_takes l D cs a S1 L (0 : Int32) (0 : Int32) ((S1 17 0) - (1 : Int32)) r15 S15 hq15 _) (cwV 3 hts gX7_takesCoat_X7_takes rfl rfl rfl (by decide +kernel) ⟨Nat.le_of_ble_eq_true rfl, Nat.le_of_ble_eq_true rfl⟩) ⟨k_blind, va_recv hK hP (ci := 5) (q0 := 0) rfl rfl, k_pre hP hK hNn hD⟩ rfl rfl hl.1 rfl (lv_room (Nat.le_of_ble_eq_true rfl)) dX7_takesCoat_15 ⟨Nat.le_of_ble_eq_true rfl, Nat.le_of_ble_eq_true rfl⟩) hS hF (fun H locs hP1 hk hS => ?_)
  have hP : va_P D vwCl (wX7 cs a S15 L) _ := hP1
  have hD := hDA S15 L
  refine lv_if_eq (tgt := 32) hx hb dX7_takesCoat_18 (by decide) (fun c18 => ?_) (fun c18 => ?_)
  · have hd := dn_t c18 hd
    refine lv_iconst (v := (0 : Int32)) hx hb dX7_takesCoat_32 (by decide) ?_
    obtain ⟨e1, e2⟩ := dn_s2 hd
    exact k_zret hx hb hr rfl hQ hAe e1 (by rw [e2]) hP hS hlocks dX7_takesCoat_33
  · have hd := dn_f c18 hd
    refine lv_aload_n hx hb dX7_takesCoat_21 rfl (lv_at hl 0 rfl) ?_
    refine lv_iconst (v := (1 : Int32)) hx hb dX7_takesCoat_22 (by decide) ?_
    refine lv_iconst (v := (0 : Int32)) hx hb dX7_takesCoat_23 (by decide) ?_
    refine lv_bipush (v := (9 : Int32)) hx hb dX7_takesCoat_24 (by decide) ?_
    obtain ⟨r26, S26, hq26, hd⟩ := dn_b2 hd
    have hF := k_self hD hS hA
    refine k_run_i (va_runV (As := [.int (1 : Int32), .int (0 : Int32), .int (9 : Int32)]) (rest := []) ⟨hx, hb, hml, hown, hts⟩ (mX7_takes l D cs a S15 L (1 : Int32) (0 : Int32) (9 : Int32) r26 S26 hq26 _) (cwV 3 hts gX7_takesCoat_X7_takes rfl rfl rfl (by decide +kernel) ⟨Nat.le_of_ble_eq_true rfl, Nat.le_of_ble_eq_true rfl⟩) ⟨k_blind, va_recv hK hP (ci := 5) (q0 := 0) rfl rfl, k_pre hP hK hNn hD⟩ rfl rfl hl.1 rfl (lv_room (Nat.le_of_ble_eq_true rfl)) dX7_takesCoat_26 ⟨Nat.le_of_ble_eq_true rfl, Nat.le_of_ble_eq_true rfl⟩) hS hF (fun H locs hP1 hk hS => ?_)
    have hP : va_P D vwCl (wX7 cs a S26 L) _ := hP1
    have hD := hDA S26 L
    refine lv_if_ne (tgt := 34) hx hb dX7_takesCoat_29 (by decide) (fun c29 => ?_) (fun c29 => ?_)
    · have hd := dn_f c29 hd
      refine lv_aload_n hx hb dX7_takesCoat_34 rfl (lv_at hl 0 rfl) ?_
      refine va_get (D := D) (ci := 5) (v := .ref (a 17)) (C := RX7) (T := TX7) (N := 25) hx hb hts (fun w h => List.mem_cons_of_mem _ (List.mem_append_right _ h)) hown hK hP 0 rfl rfl 23 (by decide) (hts (.fieldLink RX7 64 "LeastNeedModel" "anew" "[I") (List.mem_of_getElem? (i := 1) rfl)) (fun _ h9 => h9) rfl dX7_takesCoat_35 ?_
      refine lv_bipush (v := (15 : Int32)) hx hb dX7_takesCoat_38 (by decide) ?_
      refine lv_aload_n hx hb dX7_takesCoat_40 rfl (lv_at hl 0 rfl) ?_
      refine va_get (D := D) (ci := 5) (v := .ref (a 18)) (C := RX7) (T := TX7) (N := 25) hx hb hts (fun w h => List.mem_cons_of_mem _ (List.mem_append_right _ h)) hown hK hP 0 rfl rfl 24 (by decide) (hts (.fieldLink RX7 67 "LeastNeedModel" "values" "[I") (List.mem_of_getElem? (i := 2) rfl)) (fun _ h9 => h9) rfl dX7_takesCoat_41 ?_
      refine lv_iconst (v := (0 : Int32)) hx hb dX7_takesCoat_44 (by decide) ?_
      refine k_iald (D := D) (k := 0) (by rfl) hx hb hK hP 18 1 rfl rfl (k_in (by decide)) dX7_takesCoat_45 ?_
      refine lv_iadd hx hb dX7_takesCoat_46 ?_
      refine lv_aload_n hx hb dX7_takesCoat_47 rfl (lv_at hl 0 rfl) ?_
      refine va_get (D := D) (ci := 5) (v := .ref (a 18)) (C := RX7) (T := TX7) (N := 25) hx hb hts (fun w h => List.mem_cons_of_mem _ (List.mem_append_right _ h)) hown hK hP 0 rfl rfl 24 (by decide) (hts (.fieldLink RX7 67 "LeastNeedModel" "values" "[I") (List.mem_of_getElem? (i := 2) rfl)) (fun _ h9 => h9) rfl dX7_takesCoat_48 ?_
      refine lv_iconst (v := (1 : Int32)) hx hb dX7_takesCoat_51 (by decide) ?_
      refine k_iald (D := D) (k := 1) (by rfl) hx hb hK hP 18 1 rfl rfl (k_in (by decide)) dX7_takesCoat_52 ?_
      obtain ⟨hi53, hd⟩ := dn_i hd
      refine k_iast (D := D) (k := ((15 : Int32) + (S26 18 0)).toNatClampNeg) (by rfl) hx hb hK hP hD hS 17 1 rfl rfl hi53 dX7_takesCoat_53 (fun H locs hP hD hS => ?_)
      have hP : va_P D vwCl (wX7 cs a (k_w S26 17 (((15 : Int32) + (S26 18 0)).toNatClampNeg) (S26 18 1)) L) _ := k_eq hP (wsX7_a17 cs a S26 L (((15 : Int32) + (S26 18 0)).toNatClampNeg) (S26 18 1))
      have hD := hDA (k_w S26 17 (((15 : Int32) + (S26 18 0)).toNatClampNeg) (S26 18 1)) L
      refine lv_iconst (v := (1 : Int32)) hx hb dX7_takesCoat_54 (by decide) ?_
      obtain ⟨e1, e2⟩ := dn_s2 hd
      exact k_zret hx hb hr rfl hQ hAe e1 (by rw [e2]) hP hS hlocks dX7_takesCoat_55
    · have hd := dn_t c29 hd
      refine lv_iconst (v := (0 : Int32)) hx hb dX7_takesCoat_32 (by decide) ?_
      obtain ⟨e1, e2⟩ := dn_s2 hd
      exact k_zret hx hb hr rfl hQ hAe e1 (by rw [e2]) hP hS hlocks dX7_takesCoat_33
-- LeastNeedModel.layThing([IIII)V
set_option maxRecDepth 20000 in
def nX7_layThing_17 (S : Nat → Nat → Int32) (L : Nat → Nat → Int64) (p1 : Int32) (p2 : Int32) (p3 : Int32) : Option ((Nat → Nat → Int32)) := if ((65 : Int32) + (S 17 1)) < 0 ∨ 140 ≤ ((65 : Int32) + (S 17 1)).toNatClampNeg then none else if ((70 : Int32) + (S 17 1)) < 0 ∨ 140 ≤ ((70 : Int32) + (S 17 1)).toNatClampNeg then none else if ((75 : Int32) + (S 17 1)) < 0 ∨ 140 ≤ ((75 : Int32) + (S 17 1)).toNatClampNeg then none else if ((5 : Int32) + (S 17 1)) < 0 ∨ 140 ≤ ((5 : Int32) + (S 17 1)).toNatClampNeg then none else if ((10 : Int32) + (S 17 1)) < 0 ∨ 140 ≤ ((10 : Int32) + (S 17 1)).toNatClampNeg then none else some (k_w (k_w (k_w (k_w (k_w (k_w S 17 (((65 : Int32) + (S 17 1)).toNatClampNeg) p1) 17 (((70 : Int32) + (S 17 1)).toNatClampNeg) p2) 17 (((75 : Int32) + (S 17 1)).toNatClampNeg) p3) 17 (((5 : Int32) + (S 17 1)).toNatClampNeg) p3) 17 (((10 : Int32) + (S 17 1)).toNatClampNeg) (0 : Int32)) 17 1 (((k_w (k_w (k_w (k_w (k_w S 17 (((65 : Int32) + (S 17 1)).toNatClampNeg) p1) 17 (((70 : Int32) + (S 17 1)).toNatClampNeg) p2) 17 (((75 : Int32) + (S 17 1)).toNatClampNeg) p3) 17 (((5 : Int32) + (S 17 1)).toNatClampNeg) p3) 17 (((10 : Int32) + (S 17 1)).toNatClampNeg) (0 : Int32)) 17 1) + (1 : Int32)))
set_option maxHeartbeats 4000000 in
set_option maxRecDepth 100000 in
theorem mX7_layThing_17 (l : Launch) (D : va_G) (cs : Nat → ClassId) (a : Nat → Nat) (S : Nat → Nat → Int32) (L : Nat → Nat → Int64) (p1 : Int32) (p2 : Int32) (p3 : Int32) (S9 : (Nat → Nat → Int32)) (hd : nX7_layThing_17 S L p1 p2 p3 = some S9) : ∀ sz : Nat, Met l yX7_layThing wsX7_layThing ({ frames := 0, cells := 0, slots := 0, locals := 0 }) (k_Pc D cs [.ref (a 17), .int p1, .int p2, .int p3] (wX7 cs a S L) sz) (k_Qv D (wX7 cs a S L) (wX7 cs a S9 L) sz) 0 0 (va_A (wX7 cs a S L) sz) := by
  intro sz
  refine Met.ofW (cc := cX7_layThing) (maxL := 5) (ret := none) (by decide) rfl ?_
  intro p e s m args below meth c s₁ B hml hv
  obtain ⟨rfl, hsz, hP, hK, hD0, hNn⟩ := hv
  have hx := B.exec
  have hb := B.bytes
  have hr := B.returns
  have hts := atoms_spec (ws := wsX7_layThing) B.pre
  have hown : s.vm.findClass RX7 = some m.cls := findClass_of_methodNamed B.named
  have hlocks := B.notSynchronized
  subst hsz
  obtain ⟨A, hAe⟩ : ∃ A : Nat → Prop, A = va_A (wX7 cs a S L) s.heap.size := ⟨_, rfl⟩
  have hD : va_D A (wX7 cs a S L) := by rw [hAe]; exact hD0.self
  have hA : ∀ q : Nat, s.heap.size ≤ q → A q := fun q h => by rw [hAe]; exact Or.inr h
  have hS : va_S A s.heap s.heap [] := va_S.rf
  have hDA : ∀ (S : Nat → Nat → Int32) (L : Nat → Nat → Int64), va_D A (wX7 cs a S L) := fun S L => k_DA hD rfl
  have hl := lv_entry ([.ref (a 17), .int p1, .int p2, .int p3]) (n := 5) (Nat.le_of_ble_eq_true rfl)
  rw [lg_entry_eq]
  generalize (lg_sl ([.ref (a 17), .int p1, .int p2, .int p3]) ++ List.replicate (5 - (lg_sl ([.ref (a 17), .int p1, .int p2, .int p3])).length) Slot.unset).toArray = ls at hl ⊢
  have hl : lv_has ls 5 [(0, .ref (a 17)), (1, .int p1), (2, .int p2), (3, .int p3)] := hl
  obtain ⟨Q, hQ⟩ : ∃ Q, Q = MQ below (k_Qv D (wX7 cs a S L) (wX7 cs a S9 L) s.heap.size) ([.ref (a 17), .int p1, .int p2, .int p3] : List Value).toArray s 0 0 (va_A (wX7 cs a S L) s.heap.size) := ⟨_, rfl⟩
  rw [← hQ]
  unfold nX7_layThing_17 at hd
  refine lv_aload_n hx hb dX7_layThing_0 rfl (lv_at hl 0 rfl) ?_
  refine lv_iconst (v := (1 : Int32)) hx hb dX7_layThing_1 (by decide) ?_
  refine k_iald (D := D) (k := 1) (by rfl) hx hb hK hP 17 1 rfl rfl (k_in (by decide)) dX7_layThing_2 ?_
  refine lv_istore (lv' := [(4, .int (S 17 1)), (0, .ref (a 17)), (1, .int p1), (2, .int p2), (3, .int p3)]) hx hb dX7_layThing_3 hl (by decide) rfl (fun ls hl => ?_)
  refine lv_aload_n hx hb dX7_layThing_5 rfl (lv_at hl 1 rfl) ?_
  refine lv_bipush (v := (65 : Int32)) hx hb dX7_layThing_6 (by decide) ?_
  refine lv_iload hx hb dX7_layThing_8 (lv_at hl 0 rfl) ?_
  refine lv_iadd hx hb dX7_layThing_10 ?_
  refine lv_iload_n hx hb dX7_layThing_11 rfl (lv_at hl 2 rfl) ?_
  obtain ⟨hi12, hd⟩ := dn_i hd
  refine k_iast (D := D) (k := ((65 : Int32) + (S 17 1)).toNatClampNeg) (by rfl) hx hb hK hP hD hS 17 1 rfl rfl hi12 dX7_layThing_12 (fun H locs hP hD hS => ?_)
  have hP : va_P D vwCl (wX7 cs a (k_w S 17 (((65 : Int32) + (S 17 1)).toNatClampNeg) p1) L) _ := k_eq hP (wsX7_a17 cs a S L (((65 : Int32) + (S 17 1)).toNatClampNeg) p1)
  have hD := hDA (k_w S 17 (((65 : Int32) + (S 17 1)).toNatClampNeg) p1) L
  refine lv_aload_n hx hb dX7_layThing_13 rfl (lv_at hl 1 rfl) ?_
  refine lv_bipush (v := (70 : Int32)) hx hb dX7_layThing_14 (by decide) ?_
  refine lv_iload hx hb dX7_layThing_16 (lv_at hl 0 rfl) ?_
  refine lv_iadd hx hb dX7_layThing_18 ?_
  refine lv_iload_n hx hb dX7_layThing_19 rfl (lv_at hl 3 rfl) ?_
  obtain ⟨hi20, hd⟩ := dn_i hd
  refine k_iast (D := D) (k := ((70 : Int32) + (S 17 1)).toNatClampNeg) (by rfl) hx hb hK hP hD hS 17 1 rfl rfl hi20 dX7_layThing_20 (fun H locs hP hD hS => ?_)
  have hP : va_P D vwCl (wX7 cs a (k_w (k_w S 17 (((65 : Int32) + (S 17 1)).toNatClampNeg) p1) 17 (((70 : Int32) + (S 17 1)).toNatClampNeg) p2) L) _ := k_eq hP (wsX7_a17 cs a (k_w S 17 (((65 : Int32) + (S 17 1)).toNatClampNeg) p1) L (((70 : Int32) + (S 17 1)).toNatClampNeg) p2)
  have hD := hDA (k_w (k_w S 17 (((65 : Int32) + (S 17 1)).toNatClampNeg) p1) 17 (((70 : Int32) + (S 17 1)).toNatClampNeg) p2) L
  refine lv_aload_n hx hb dX7_layThing_21 rfl (lv_at hl 1 rfl) ?_
  refine lv_bipush (v := (75 : Int32)) hx hb dX7_layThing_22 (by decide) ?_
  refine lv_iload hx hb dX7_layThing_24 (lv_at hl 0 rfl) ?_
  refine lv_iadd hx hb dX7_layThing_26 ?_
  refine lv_iload_n hx hb dX7_layThing_27 rfl (lv_at hl 4 rfl) ?_
  obtain ⟨hi28, hd⟩ := dn_i hd
  refine k_iast (D := D) (k := ((75 : Int32) + (S 17 1)).toNatClampNeg) (by rfl) hx hb hK hP hD hS 17 1 rfl rfl hi28 dX7_layThing_28 (fun H locs hP hD hS => ?_)
  have hP : va_P D vwCl (wX7 cs a (k_w (k_w (k_w S 17 (((65 : Int32) + (S 17 1)).toNatClampNeg) p1) 17 (((70 : Int32) + (S 17 1)).toNatClampNeg) p2) 17 (((75 : Int32) + (S 17 1)).toNatClampNeg) p3) L) _ := k_eq hP (wsX7_a17 cs a (k_w (k_w S 17 (((65 : Int32) + (S 17 1)).toNatClampNeg) p1) 17 (((70 : Int32) + (S 17 1)).toNatClampNeg) p2) L (((75 : Int32) + (S 17 1)).toNatClampNeg) p3)
  have hD := hDA (k_w (k_w (k_w S 17 (((65 : Int32) + (S 17 1)).toNatClampNeg) p1) 17 (((70 : Int32) + (S 17 1)).toNatClampNeg) p2) 17 (((75 : Int32) + (S 17 1)).toNatClampNeg) p3) L
  refine lv_aload_n hx hb dX7_layThing_29 rfl (lv_at hl 1 rfl) ?_
  refine lv_iconst (v := (5 : Int32)) hx hb dX7_layThing_30 (by decide) ?_
  refine lv_iload hx hb dX7_layThing_31 (lv_at hl 0 rfl) ?_
  refine lv_iadd hx hb dX7_layThing_33 ?_
  refine lv_iload_n hx hb dX7_layThing_34 rfl (lv_at hl 4 rfl) ?_
  obtain ⟨hi35, hd⟩ := dn_i hd
  refine k_iast (D := D) (k := ((5 : Int32) + (S 17 1)).toNatClampNeg) (by rfl) hx hb hK hP hD hS 17 1 rfl rfl hi35 dX7_layThing_35 (fun H locs hP hD hS => ?_)
  have hP : va_P D vwCl (wX7 cs a (k_w (k_w (k_w (k_w S 17 (((65 : Int32) + (S 17 1)).toNatClampNeg) p1) 17 (((70 : Int32) + (S 17 1)).toNatClampNeg) p2) 17 (((75 : Int32) + (S 17 1)).toNatClampNeg) p3) 17 (((5 : Int32) + (S 17 1)).toNatClampNeg) p3) L) _ := k_eq hP (wsX7_a17 cs a (k_w (k_w (k_w S 17 (((65 : Int32) + (S 17 1)).toNatClampNeg) p1) 17 (((70 : Int32) + (S 17 1)).toNatClampNeg) p2) 17 (((75 : Int32) + (S 17 1)).toNatClampNeg) p3) L (((5 : Int32) + (S 17 1)).toNatClampNeg) p3)
  have hD := hDA (k_w (k_w (k_w (k_w S 17 (((65 : Int32) + (S 17 1)).toNatClampNeg) p1) 17 (((70 : Int32) + (S 17 1)).toNatClampNeg) p2) 17 (((75 : Int32) + (S 17 1)).toNatClampNeg) p3) 17 (((5 : Int32) + (S 17 1)).toNatClampNeg) p3) L
  refine lv_aload_n hx hb dX7_layThing_36 rfl (lv_at hl 1 rfl) ?_
  refine lv_bipush (v := (10 : Int32)) hx hb dX7_layThing_37 (by decide) ?_
  refine lv_iload hx hb dX7_layThing_39 (lv_at hl 0 rfl) ?_
  refine lv_iadd hx hb dX7_layThing_41 ?_
  refine lv_iconst (v := (0 : Int32)) hx hb dX7_layThing_42 (by decide) ?_
  obtain ⟨hi43, hd⟩ := dn_i hd
  refine k_iast (D := D) (k := ((10 : Int32) + (S 17 1)).toNatClampNeg) (by rfl) hx hb hK hP hD hS 17 1 rfl rfl hi43 dX7_layThing_43 (fun H locs hP hD hS => ?_)
  have hP : va_P D vwCl (wX7 cs a (k_w (k_w (k_w (k_w (k_w S 17 (((65 : Int32) + (S 17 1)).toNatClampNeg) p1) 17 (((70 : Int32) + (S 17 1)).toNatClampNeg) p2) 17 (((75 : Int32) + (S 17 1)).toNatClampNeg) p3) 17 (((5 : Int32) + (S 17 1)).toNatClampNeg) p3) 17 (((10 : Int32) + (S 17 1)).toNatClampNeg) (0 : Int32)) L) _ := k_eq hP (wsX7_a17 cs a (k_w (k_w (k_w (k_w S 17 (((65 : Int32) + (S 17 1)).toNatClampNeg) p1) 17 (((70 : Int32) + (S 17 1)).toNatClampNeg) p2) 17 (((75 : Int32) + (S 17 1)).toNatClampNeg) p3) 17 (((5 : Int32) + (S 17 1)).toNatClampNeg) p3) L (((10 : Int32) + (S 17 1)).toNatClampNeg) (0 : Int32))
  have hD := hDA (k_w (k_w (k_w (k_w (k_w S 17 (((65 : Int32) + (S 17 1)).toNatClampNeg) p1) 17 (((70 : Int32) + (S 17 1)).toNatClampNeg) p2) 17 (((75 : Int32) + (S 17 1)).toNatClampNeg) p3) 17 (((5 : Int32) + (S 17 1)).toNatClampNeg) p3) 17 (((10 : Int32) + (S 17 1)).toNatClampNeg) (0 : Int32)) L
  refine lv_aload_n hx hb dX7_layThing_44 rfl (lv_at hl 1 rfl) ?_
  refine lv_iconst (v := (1 : Int32)) hx hb dX7_layThing_45 (by decide) ?_
  refine lv_dup2_11 hx hb dX7_layThing_46 rfl rfl ?_
  refine k_iald (D := D) (k := 1) (by rfl) hx hb hK hP 17 1 rfl rfl (k_in (by decide)) dX7_layThing_47 ?_
  refine lv_iconst (v := (1 : Int32)) hx hb dX7_layThing_48 (by decide) ?_
  refine lv_iadd hx hb dX7_layThing_49 ?_
  refine k_iast (D := D) (k := 1) (by rfl) hx hb hK hP hD hS 17 1 rfl rfl (k_in (by decide)) dX7_layThing_50 (fun H locs hP hD hS => ?_)
  have hP : va_P D vwCl (wX7 cs a (k_w (k_w (k_w (k_w (k_w (k_w S 17 (((65 : Int32) + (S 17 1)).toNatClampNeg) p1) 17 (((70 : Int32) + (S 17 1)).toNatClampNeg) p2) 17 (((75 : Int32) + (S 17 1)).toNatClampNeg) p3) 17 (((5 : Int32) + (S 17 1)).toNatClampNeg) p3) 17 (((10 : Int32) + (S 17 1)).toNatClampNeg) (0 : Int32)) 17 1 (((k_w (k_w (k_w (k_w (k_w S 17 (((65 : Int32) + (S 17 1)).toNatClampNeg) p1) 17 (((70 : Int32) + (S 17 1)).toNatClampNeg) p2) 17 (((75 : Int32) + (S 17 1)).toNatClampNeg) p3) 17 (((5 : Int32) + (S 17 1)).toNatClampNeg) p3) 17 (((10 : Int32) + (S 17 1)).toNatClampNeg) (0 : Int32)) 17 1) + (1 : Int32))) L) _ := k_eq hP (wsX7_a17 cs a (k_w (k_w (k_w (k_w (k_w S 17 (((65 : Int32) + (S 17 1)).toNatClampNeg) p1) 17 (((70 : Int32) + (S 17 1)).toNatClampNeg) p2) 17 (((75 : Int32) + (S 17 1)).toNatClampNeg) p3) 17 (((5 : Int32) + (S 17 1)).toNatClampNeg) p3) 17 (((10 : Int32) + (S 17 1)).toNatClampNeg) (0 : Int32)) L 1 (((k_w (k_w (k_w (k_w (k_w S 17 (((65 : Int32) + (S 17 1)).toNatClampNeg) p1) 17 (((70 : Int32) + (S 17 1)).toNatClampNeg) p2) 17 (((75 : Int32) + (S 17 1)).toNatClampNeg) p3) 17 (((5 : Int32) + (S 17 1)).toNatClampNeg) p3) 17 (((10 : Int32) + (S 17 1)).toNatClampNeg) (0 : Int32)) 17 1) + (1 : Int32)))
  have hD := hDA (k_w (k_w (k_w (k_w (k_w (k_w S 17 (((65 : Int32) + (S 17 1)).toNatClampNeg) p1) 17 (((70 : Int32) + (S 17 1)).toNatClampNeg) p2) 17 (((75 : Int32) + (S 17 1)).toNatClampNeg) p3) 17 (((5 : Int32) + (S 17 1)).toNatClampNeg) p3) 17 (((10 : Int32) + (S 17 1)).toNatClampNeg) (0 : Int32)) 17 1 (((k_w (k_w (k_w (k_w (k_w S 17 (((65 : Int32) + (S 17 1)).toNatClampNeg) p1) 17 (((70 : Int32) + (S 17 1)).toNatClampNeg) p2) 17 (((75 : Int32) + (S 17 1)).toNatClampNeg) p3) 17 (((5 : Int32) + (S 17 1)).toNatClampNeg) p3) 17 (((10 : Int32) + (S 17 1)).toNatClampNeg) (0 : Int32)) 17 1) + (1 : Int32))) L
  have e1 := dn_s1 hd
  exact k_vret hx hb hr hQ hAe (by rw [e1]) hP hS hlocks dX7_layThing_51
-- LeastNeedModel.takesThing()Z
set_option maxRecDepth 20000 in
def nX7_takesThing (S : Nat → Nat → Int32) (L : Nat → Nat → Int64) : Option (Int32 × (Nat → Nat → Int32)) := if (S 17 1) = (5 : Int32) then some ((0 : Int32), S) else k_b1 (nX7_goBehind S L) (fun S13 => k_b2 (nX7_takes S13 L (0 : Int32) (0 : Int32) (5 : Int32)) (fun r20 S20 => if r20 = 0 then some ((0 : Int32), S20) else k_b2 (nX7_takes S20 L (1 : Int32) (0 : Int32) (3 : Int32)) (fun r30 S30 => if r30 = 0 then some ((0 : Int32), S30) else k_b2 (nX7_takes S30 L (2 : Int32) (0 : Int32) ((S30 17 0) - (1 : Int32))) (fun r47 S47 => if r47 = 0 then some ((0 : Int32), S47) else k_b1 (nX7_layThing_17 S47 L (S47 18 0) (S47 18 1) (S47 18 2)) (fun S77 => some ((1 : Int32), S77))))))
set_option maxHeartbeats 4000000 in
set_option maxRecDepth 100000 in
theorem mX7_takesThing (l : Launch) (D : va_G) (cs : Nat → ClassId) (a : Nat → Nat) (S : Nat → Nat → Int32) (L : Nat → Nat → Int64) (r9 : Int32) (S9 : (Nat → Nat → Int32)) (hd : nX7_takesThing S L = some (r9, S9)) : ∀ sz : Nat, Met l yX7_takesThing wsX7_takesThing ({ frames := 5, cells := 0, slots := 0, locals := 112 }) (k_Pc D cs [.ref (a 0)] (wX7 cs a S L) sz) (k_Qi D r9 (wX7 cs a S L) (wX7 cs a S9 L) sz) 0 0 (va_A (wX7 cs a S L) sz) := by
  intro sz
  refine Met.ofW (cc := cX7_takesThing) (maxL := 1) (ret := (some .boolean)) (by decide) rfl ?_
  intro p e s m args below meth c s₁ B hml hv
  obtain ⟨rfl, hsz, hP, hK, hD0, hNn⟩ := hv
  have hx := B.exec
  have hb := B.bytes
  have hr := B.returns
  have hts := atoms_spec (ws := wsX7_takesThing) B.pre
  have hown : s.vm.findClass RX7 = some m.cls := findClass_of_methodNamed B.named
  have hlocks := B.notSynchronized
  subst hsz
  obtain ⟨A, hAe⟩ : ∃ A : Nat → Prop, A = va_A (wX7 cs a S L) s.heap.size := ⟨_, rfl⟩
  have hD : va_D A (wX7 cs a S L) := by rw [hAe]; exact hD0.self
  have hA : ∀ q : Nat, s.heap.size ≤ q → A q := fun q h => by rw [hAe]; exact Or.inr h
  have hS : va_S A s.heap s.heap [] := va_S.rf
  have hDA : ∀ (S : Nat → Nat → Int32) (L : Nat → Nat → Int64), va_D A (wX7 cs a S L) := fun S L => k_DA hD rfl
  have hl := lv_entry ([.ref (a 0)]) (n := 1) (Nat.le_of_ble_eq_true rfl)
  rw [lg_entry_eq]
  generalize (lg_sl ([.ref (a 0)]) ++ List.replicate (1 - (lg_sl ([.ref (a 0)])).length) Slot.unset).toArray = ls at hl ⊢
  have hl : lv_has ls 1 [(0, .ref (a 0))] := hl
  obtain ⟨Q, hQ⟩ : ∃ Q, Q = MQ below (k_Qi D r9 (wX7 cs a S L) (wX7 cs a S9 L) s.heap.size) ([.ref (a 0)] : List Value).toArray s 0 0 (va_A (wX7 cs a S L) s.heap.size) := ⟨_, rfl⟩
  rw [← hQ]
  unfold nX7_takesThing at hd
  refine lv_aload_n hx hb dX7_takesThing_0 rfl (lv_at hl 0 rfl) ?_
  refine va_get (D := D) (ci := 5) (v := .ref (a 17)) (C := RX7) (T := TX7) (N := 25) hx hb hts (fun w h => List.mem_cons_of_mem _ (List.mem_append_right _ h)) hown hK hP 0 rfl rfl 23 (by decide) (hts (.fieldLink RX7 64 "LeastNeedModel" "anew" "[I") (List.mem_of_getElem? (i := 1) rfl)) (fun _ h9 => h9) rfl dX7_takesThing_1 ?_
  refine lv_iconst (v := (1 : Int32)) hx hb dX7_takesThing_4 (by decide) ?_
  refine k_iald (D := D) (k := 1) (by rfl) hx hb hK hP 17 1 rfl rfl (k_in (by decide)) dX7_takesThing_5 ?_
  refine lv_iconst (v := (5 : Int32)) hx hb dX7_takesThing_6 (by decide) ?_
  refine lv_icmp_ne (tgt := 12) hx hb dX7_takesThing_7 (by decide) (fun c7 => ?_) (fun c7 => ?_)
  · have hd := dn_f c7 hd
    refine lv_aload_n hx hb dX7_takesThing_12 rfl (lv_at hl 0 rfl) ?_
    obtain ⟨S13, hq13, hd⟩ := dn_b1 hd
    have hF := k_self hD hS hA
    refine k_run_v (va_runV (As := []) (rest := []) ⟨hx, hb, hml, hown, hts⟩ (mX7_goBehind l D cs a S L S13 hq13 _) (cwV 0 hts gX7_takesThing_X7_goBehind rfl rfl rfl (by decide +kernel) ⟨Nat.le_of_ble_eq_true rfl, Nat.le_of_ble_eq_true rfl⟩) ⟨k_blind, va_recv hK hP (ci := 5) (q0 := 0) rfl rfl, k_pre hP hK hNn hD⟩ rfl rfl hl.1 rfl (lv_room (Nat.le_of_ble_eq_true rfl)) dX7_takesThing_13 ⟨Nat.le_of_ble_eq_true rfl, Nat.le_of_ble_eq_true rfl⟩) hS hF (fun H locs hP1 hk hS => ?_)
    have hP : va_P D vwCl (wX7 cs a S13 L) _ := hP1
    have hD := hDA S13 L
    refine lv_aload_n hx hb dX7_takesThing_16 rfl (lv_at hl 0 rfl) ?_
    refine lv_iconst (v := (0 : Int32)) hx hb dX7_takesThing_17 (by decide) ?_
    refine lv_iconst (v := (0 : Int32)) hx hb dX7_takesThing_18 (by decide) ?_
    refine lv_iconst (v := (5 : Int32)) hx hb dX7_takesThing_19 (by decide) ?_
    obtain ⟨r20, S20, hq20, hd⟩ := dn_b2 hd
    have hF := k_self hD hS hA
    refine k_run_i (va_runV (As := [.int (0 : Int32), .int (0 : Int32), .int (5 : Int32)]) (rest := []) ⟨hx, hb, hml, hown, hts⟩ (mX7_takes l D cs a S13 L (0 : Int32) (0 : Int32) (5 : Int32) r20 S20 hq20 _) (cwV 3 hts gX7_takesThing_X7_takes rfl rfl rfl (by decide +kernel) ⟨Nat.le_of_ble_eq_true rfl, Nat.le_of_ble_eq_true rfl⟩) ⟨k_blind, va_recv hK hP (ci := 5) (q0 := 0) rfl rfl, k_pre hP hK hNn hD⟩ rfl rfl hl.1 rfl (lv_room (Nat.le_of_ble_eq_true rfl)) dX7_takesThing_20 ⟨Nat.le_of_ble_eq_true rfl, Nat.le_of_ble_eq_true rfl⟩) hS hF (fun H locs hP1 hk hS => ?_)
    have hP : va_P D vwCl (wX7 cs a S20 L) _ := hP1
    have hD := hDA S20 L
    refine lv_if_eq (tgt := 53) hx hb dX7_takesThing_23 (by decide) (fun c23 => ?_) (fun c23 => ?_)
    · have hd := dn_t c23 hd
      refine lv_iconst (v := (0 : Int32)) hx hb dX7_takesThing_53 (by decide) ?_
      obtain ⟨e1, e2⟩ := dn_s2 hd
      exact k_zret hx hb hr rfl hQ hAe e1 (by rw [e2]) hP hS hlocks dX7_takesThing_54
    · have hd := dn_f c23 hd
      refine lv_aload_n hx hb dX7_takesThing_26 rfl (lv_at hl 0 rfl) ?_
      refine lv_iconst (v := (1 : Int32)) hx hb dX7_takesThing_27 (by decide) ?_
      refine lv_iconst (v := (0 : Int32)) hx hb dX7_takesThing_28 (by decide) ?_
      refine lv_iconst (v := (3 : Int32)) hx hb dX7_takesThing_29 (by decide) ?_
      obtain ⟨r30, S30, hq30, hd⟩ := dn_b2 hd
      have hF := k_self hD hS hA
      refine k_run_i (va_runV (As := [.int (1 : Int32), .int (0 : Int32), .int (3 : Int32)]) (rest := []) ⟨hx, hb, hml, hown, hts⟩ (mX7_takes l D cs a S20 L (1 : Int32) (0 : Int32) (3 : Int32) r30 S30 hq30 _) (cwV 3 hts gX7_takesThing_X7_takes rfl rfl rfl (by decide +kernel) ⟨Nat.le_of_ble_eq_true rfl, Nat.le_of_ble_eq_true rfl⟩) ⟨k_blind, va_recv hK hP (ci := 5) (q0 := 0) rfl rfl, k_pre hP hK hNn hD⟩ rfl rfl hl.1 rfl (lv_room (Nat.le_of_ble_eq_true rfl)) dX7_takesThing_30 ⟨Nat.le_of_ble_eq_true rfl, Nat.le_of_ble_eq_true rfl⟩) hS hF (fun H locs hP1 hk hS => ?_)
      have hP : va_P D vwCl (wX7 cs a S30 L) _ := hP1
      have hD := hDA S30 L
      refine lv_if_eq (tgt := 53) hx hb dX7_takesThing_33 (by decide) (fun c33 => ?_) (fun c33 => ?_)
      · have hd := dn_t c33 hd
        refine lv_iconst (v := (0 : Int32)) hx hb dX7_takesThing_53 (by decide) ?_
        obtain ⟨e1, e2⟩ := dn_s2 hd
        exact k_zret hx hb hr rfl hQ hAe e1 (by rw [e2]) hP hS hlocks dX7_takesThing_54
      · have hd := dn_f c33 hd
        refine lv_aload_n hx hb dX7_takesThing_36 rfl (lv_at hl 0 rfl) ?_
        refine lv_iconst (v := (2 : Int32)) hx hb dX7_takesThing_37 (by decide) ?_
        refine lv_iconst (v := (0 : Int32)) hx hb dX7_takesThing_38 (by decide) ?_
        refine lv_aload_n hx hb dX7_takesThing_39 rfl (lv_at hl 0 rfl) ?_
        refine va_get (D := D) (ci := 5) (v := .ref (a 17)) (C := RX7) (T := TX7) (N := 25) hx hb hts (fun w h => List.mem_cons_of_mem _ (List.mem_append_right _ h)) hown hK hP 0 rfl rfl 23 (by decide) (hts (.fieldLink RX7 64 "LeastNeedModel" "anew" "[I") (List.mem_of_getElem? (i := 1) rfl)) (fun _ h9 => h9) rfl dX7_takesThing_40 ?_
        refine lv_iconst (v := (0 : Int32)) hx hb dX7_takesThing_43 (by decide) ?_
        refine k_iald (D := D) (k := 0) (by rfl) hx hb hK hP 17 1 rfl rfl (k_in (by decide)) dX7_takesThing_44 ?_
        refine lv_iconst (v := (1 : Int32)) hx hb dX7_takesThing_45 (by decide) ?_
        refine lv_isub hx hb dX7_takesThing_46 ?_
        obtain ⟨r47, S47, hq47, hd⟩ := dn_b2 hd
        have hF := k_self hD hS hA
        refine k_run_i (va_runV (As := [.int (2 : Int32), .int (0 : Int32), .int ((S30 17 0) - (1 : Int32))]) (rest := []) ⟨hx, hb, hml, hown, hts⟩ (mX7_takes l D cs a S30 L (2 : Int32) (0 : Int32) ((S30 17 0) - (1 : Int32)) r47 S47 hq47 _) (cwV 3 hts gX7_takesThing_X7_takes rfl rfl rfl (by decide +kernel) ⟨Nat.le_of_ble_eq_true rfl, Nat.le_of_ble_eq_true rfl⟩) ⟨k_blind, va_recv hK hP (ci := 5) (q0 := 0) rfl rfl, k_pre hP hK hNn hD⟩ rfl rfl hl.1 rfl (lv_room (Nat.le_of_ble_eq_true rfl)) dX7_takesThing_47 ⟨Nat.le_of_ble_eq_true rfl, Nat.le_of_ble_eq_true rfl⟩) hS hF (fun H locs hP1 hk hS => ?_)
        have hP : va_P D vwCl (wX7 cs a S47 L) _ := hP1
        have hD := hDA S47 L
        refine lv_if_ne (tgt := 55) hx hb dX7_takesThing_50 (by decide) (fun c50 => ?_) (fun c50 => ?_)
        · have hd := dn_f c50 hd
          refine lv_aload_n hx hb dX7_takesThing_55 rfl (lv_at hl 0 rfl) ?_
          refine va_get (D := D) (ci := 5) (v := .ref (a 17)) (C := RX7) (T := TX7) (N := 25) hx hb hts (fun w h => List.mem_cons_of_mem _ (List.mem_append_right _ h)) hown hK hP 0 rfl rfl 23 (by decide) (hts (.fieldLink RX7 64 "LeastNeedModel" "anew" "[I") (List.mem_of_getElem? (i := 1) rfl)) (fun _ h9 => h9) rfl dX7_takesThing_56 ?_
          refine lv_aload_n hx hb dX7_takesThing_59 rfl (lv_at hl 0 rfl) ?_
          refine va_get (D := D) (ci := 5) (v := .ref (a 18)) (C := RX7) (T := TX7) (N := 25) hx hb hts (fun w h => List.mem_cons_of_mem _ (List.mem_append_right _ h)) hown hK hP 0 rfl rfl 24 (by decide) (hts (.fieldLink RX7 67 "LeastNeedModel" "values" "[I") (List.mem_of_getElem? (i := 2) rfl)) (fun _ h9 => h9) rfl dX7_takesThing_60 ?_
          refine lv_iconst (v := (0 : Int32)) hx hb dX7_takesThing_63 (by decide) ?_
          refine k_iald (D := D) (k := 0) (by rfl) hx hb hK hP 18 1 rfl rfl (k_in (by decide)) dX7_takesThing_64 ?_
          refine lv_aload_n hx hb dX7_takesThing_65 rfl (lv_at hl 0 rfl) ?_
          refine va_get (D := D) (ci := 5) (v := .ref (a 18)) (C := RX7) (T := TX7) (N := 25) hx hb hts (fun w h => List.mem_cons_of_mem _ (List.mem_append_right _ h)) hown hK hP 0 rfl rfl 24 (by decide) (hts (.fieldLink RX7 67 "LeastNeedModel" "values" "[I") (List.mem_of_getElem? (i := 2) rfl)) (fun _ h9 => h9) rfl dX7_takesThing_66 ?_
          refine lv_iconst (v := (1 : Int32)) hx hb dX7_takesThing_69 (by decide) ?_
          refine k_iald (D := D) (k := 1) (by rfl) hx hb hK hP 18 1 rfl rfl (k_in (by decide)) dX7_takesThing_70 ?_
          refine lv_aload_n hx hb dX7_takesThing_71 rfl (lv_at hl 0 rfl) ?_
          refine va_get (D := D) (ci := 5) (v := .ref (a 18)) (C := RX7) (T := TX7) (N := 25) hx hb hts (fun w h => List.mem_cons_of_mem _ (List.mem_append_right _ h)) hown hK hP 0 rfl rfl 24 (by decide) (hts (.fieldLink RX7 67 "LeastNeedModel" "values" "[I") (List.mem_of_getElem? (i := 2) rfl)) (fun _ h9 => h9) rfl dX7_takesThing_72 ?_
          refine lv_iconst (v := (2 : Int32)) hx hb dX7_takesThing_75 (by decide) ?_
          refine k_iald (D := D) (k := 2) (by rfl) hx hb hK hP 18 1 rfl rfl (k_in (by decide)) dX7_takesThing_76 ?_
          obtain ⟨S77, hq77, hd⟩ := dn_b1 hd
          have hF := k_self hD hS hA
          refine k_run_v (va_runS (As := [.ref (a 17), .int (S47 18 0), .int (S47 18 1), .int (S47 18 2)]) (rest := []) ⟨hx, hb, hml, hown, hts⟩ (mX7_layThing_17 l D cs a S47 L (S47 18 0) (S47 18 1) (S47 18 2) S77 hq77 _) (va_cwS 4 hts gX7_takesThing_X7_layThing rfl rfl rfl (by decide +kernel) ⟨Nat.le_of_ble_eq_true rfl, Nat.le_of_ble_eq_true rfl⟩) ⟨k_blind, k_pre hP hK hNn hD⟩ rfl rfl hl.1 rfl (lv_room (Nat.le_of_ble_eq_true rfl)) dX7_takesThing_77 ⟨Nat.le_of_ble_eq_true rfl, Nat.le_of_ble_eq_true rfl⟩) hS hF (fun H locs hP1 hk hS => ?_)
          have hP : va_P D vwCl (wX7 cs a S77 L) _ := hP1
          have hD := hDA S77 L
          refine lv_iconst (v := (1 : Int32)) hx hb dX7_takesThing_80 (by decide) ?_
          obtain ⟨e1, e2⟩ := dn_s2 hd
          exact k_zret hx hb hr rfl hQ hAe e1 (by rw [e2]) hP hS hlocks dX7_takesThing_81
        · have hd := dn_t c50 hd
          refine lv_iconst (v := (0 : Int32)) hx hb dX7_takesThing_53 (by decide) ?_
          obtain ⟨e1, e2⟩ := dn_s2 hd
          exact k_zret hx hb hr rfl hQ hAe e1 (by rw [e2]) hP hS hlocks dX7_takesThing_54
  · have hd := dn_t c7 hd
    refine lv_iconst (v := (0 : Int32)) hx hb dX7_takesThing_10 (by decide) ?_
    obtain ⟨e1, e2⟩ := dn_s2 hd
    exact k_zret hx hb hr rfl hQ hAe e1 (by rw [e2]) hP hS hlocks dX7_takesThing_11
-- LeastNeedModel.takesLose()Z
set_option maxRecDepth 20000 in
def nX7_takesLose (S : Nat → Nat → Int32) (L : Nat → Nat → Int64) : Option (Int32 × (Nat → Nat → Int32)) := k_b1 (nX7_goBehind S L) (fun S1 => if (S1 0 21) = (2 : Int32) then k_b1 (nX7_in ((S1 0 22).toInt64) (0 : Int64) (((S1 17 1) - (1 : Int32)).toInt64)) (fun r27 => if r27 = 0 then some ((0 : Int32), S1) else if ((10 : Int32) + (S1 0 22)) < 0 ∨ 140 ≤ ((10 : Int32) + (S1 0 22)).toNatClampNeg then none else if (S1 17 ((10 : Int32) + (S1 0 22)).toNatClampNeg) = 0 then k_b2 (nX7_takes S1 L (0 : Int32) (0 : Int32) (4 : Int32)) (fun r52 S52 => if r52 = 0 then some ((0 : Int32), S52) else if ((10 : Int32) + (S52 18 0)) < 0 ∨ 140 ≤ ((10 : Int32) + (S52 18 0)).toNatClampNeg then none else some ((1 : Int32), (k_w S52 17 (((10 : Int32) + (S52 18 0)).toNatClampNeg) (1 : Int32)))) else some ((0 : Int32), S1)) else some ((0 : Int32), S1))
set_option maxHeartbeats 4000000 in
set_option maxRecDepth 100000 in
theorem mX7_takesLose (l : Launch) (D : va_G) (cs : Nat → ClassId) (a : Nat → Nat) (S : Nat → Nat → Int32) (L : Nat → Nat → Int64) (r9 : Int32) (S9 : (Nat → Nat → Int32)) (hd : nX7_takesLose S L = some (r9, S9)) : ∀ sz : Nat, Met l yX7_takesLose wsX7_takesLose ({ frames := 5, cells := 0, slots := 0, locals := 112 }) (k_Pc D cs [.ref (a 0)] (wX7 cs a S L) sz) (k_Qi D r9 (wX7 cs a S L) (wX7 cs a S9 L) sz) 0 0 (va_A (wX7 cs a S L) sz) := by
  intro sz
  refine Met.ofW (cc := cX7_takesLose) (maxL := 1) (ret := (some .boolean)) (by decide) rfl ?_
  intro p e s m args below meth c s₁ B hml hv
  obtain ⟨rfl, hsz, hP, hK, hD0, hNn⟩ := hv
  have hx := B.exec
  have hb := B.bytes
  have hr := B.returns
  have hts := atoms_spec (ws := wsX7_takesLose) B.pre
  have hown : s.vm.findClass RX7 = some m.cls := findClass_of_methodNamed B.named
  have hlocks := B.notSynchronized
  subst hsz
  obtain ⟨A, hAe⟩ : ∃ A : Nat → Prop, A = va_A (wX7 cs a S L) s.heap.size := ⟨_, rfl⟩
  have hD : va_D A (wX7 cs a S L) := by rw [hAe]; exact hD0.self
  have hA : ∀ q : Nat, s.heap.size ≤ q → A q := fun q h => by rw [hAe]; exact Or.inr h
  have hS : va_S A s.heap s.heap [] := va_S.rf
  have hDA : ∀ (S : Nat → Nat → Int32) (L : Nat → Nat → Int64), va_D A (wX7 cs a S L) := fun S L => k_DA hD rfl
  have hl := lv_entry ([.ref (a 0)]) (n := 1) (Nat.le_of_ble_eq_true rfl)
  rw [lg_entry_eq]
  generalize (lg_sl ([.ref (a 0)]) ++ List.replicate (1 - (lg_sl ([.ref (a 0)])).length) Slot.unset).toArray = ls at hl ⊢
  have hl : lv_has ls 1 [(0, .ref (a 0))] := hl
  obtain ⟨Q, hQ⟩ : ∃ Q, Q = MQ below (k_Qi D r9 (wX7 cs a S L) (wX7 cs a S9 L) s.heap.size) ([.ref (a 0)] : List Value).toArray s 0 0 (va_A (wX7 cs a S L) s.heap.size) := ⟨_, rfl⟩
  rw [← hQ]
  unfold nX7_takesLose at hd
  refine lv_aload_n hx hb dX7_takesLose_0 rfl (lv_at hl 0 rfl) ?_
  obtain ⟨S1, hq1, hd⟩ := dn_b1 hd
  have hF := k_self hD hS hA
  refine k_run_v (va_runV (As := []) (rest := []) ⟨hx, hb, hml, hown, hts⟩ (mX7_goBehind l D cs a S L S1 hq1 _) (cwV 0 hts gX7_takesLose_X7_goBehind rfl rfl rfl (by decide +kernel) ⟨Nat.le_of_ble_eq_true rfl, Nat.le_of_ble_eq_true rfl⟩) ⟨k_blind, va_recv hK hP (ci := 5) (q0 := 0) rfl rfl, k_pre hP hK hNn hD⟩ rfl rfl hl.1 rfl (lv_room (Nat.le_of_ble_eq_true rfl)) dX7_takesLose_1 ⟨Nat.le_of_ble_eq_true rfl, Nat.le_of_ble_eq_true rfl⟩) hS hF (fun H locs hP1 hk hS => ?_)
  have hP : va_P D vwCl (wX7 cs a S1 L) _ := hP1
  have hD := hDA S1 L
  refine lv_aload_n hx hb dX7_takesLose_4 rfl (lv_at hl 0 rfl) ?_
  refine va_get (D := D) (ci := 5) (v := .int (S1 0 21)) (C := RX7) (T := TX7) (N := 25) hx hb hts (fun w h => List.mem_cons_of_mem _ (List.mem_append_right _ h)) hown hK hP 0 rfl rfl 21 (by decide) (hts (.fieldLink RX7 271 "LeastNeedModel" "token" "I") (List.mem_of_getElem? (i := 1) rfl)) (fun _ h9 => h9) rfl dX7_takesLose_5 ?_
  refine lv_iconst (v := (2 : Int32)) hx hb dX7_takesLose_8 (by decide) ?_
  refine lv_icmp_ne (tgt := 58) hx hb dX7_takesLose_9 (by decide) (fun c9 => ?_) (fun c9 => ?_)
  · have hd := dn_f c9 hd
    refine lv_iconst (v := (0 : Int32)) hx hb dX7_takesLose_58 (by decide) ?_
    obtain ⟨e1, e2⟩ := dn_s2 hd
    exact k_zret hx hb hr rfl hQ hAe e1 (by rw [e2]) hP hS hlocks dX7_takesLose_59
  · have hd := dn_t c9 hd
    refine lv_aload_n hx hb dX7_takesLose_12 rfl (lv_at hl 0 rfl) ?_
    refine va_get (D := D) (ci := 5) (v := .int (S1 0 22)) (C := RX7) (T := TX7) (N := 25) hx hb hts (fun w h => List.mem_cons_of_mem _ (List.mem_append_right _ h)) hown hK hP 0 rfl rfl 22 (by decide) (hts (.fieldLink RX7 274 "LeastNeedModel" "value" "I") (List.mem_of_getElem? (i := 2) rfl)) (fun _ h9 => h9) rfl dX7_takesLose_13 ?_
    refine lv_i2l hx hb dX7_takesLose_16 rfl ?_
    refine lv_lconst (v := (0 : Int64)) hx hb dX7_takesLose_17 (by decide) ?_
    refine lv_aload_n hx hb dX7_takesLose_18 rfl (lv_at hl 0 rfl) ?_
    refine va_get (D := D) (ci := 5) (v := .ref (a 17)) (C := RX7) (T := TX7) (N := 25) hx hb hts (fun w h => List.mem_cons_of_mem _ (List.mem_append_right _ h)) hown hK hP 0 rfl rfl 23 (by decide) (hts (.fieldLink RX7 64 "LeastNeedModel" "anew" "[I") (List.mem_of_getElem? (i := 3) rfl)) (fun _ h9 => h9) rfl dX7_takesLose_19 ?_
    refine lv_iconst (v := (1 : Int32)) hx hb dX7_takesLose_22 (by decide) ?_
    refine k_iald (D := D) (k := 1) (by rfl) hx hb hK hP 17 1 rfl rfl (k_in (by decide)) dX7_takesLose_23 ?_
    refine lv_iconst (v := (1 : Int32)) hx hb dX7_takesLose_24 (by decide) ?_
    refine lv_isub hx hb dX7_takesLose_25 ?_
    refine lv_i2l hx hb dX7_takesLose_26 rfl ?_
    obtain ⟨r27, hq27, hd⟩ := dn_b1 hd
    have hPc := k_P0 hP
    have hDc : va_D A ([] : va_W) := k_D0
    have hF := k_self hDc hS hA
    refine k_run_i (va_runS (As := [.long ((S1 0 22).toInt64), .long (0 : Int64), .long (((S1 17 1) - (1 : Int32)).toInt64)]) (rest := []) ⟨hx, hb, hml, hown, hts⟩ (mX7_in l D cs  ((S1 0 22).toInt64) (0 : Int64) (((S1 17 1) - (1 : Int32)).toInt64) r27 hq27 _) (va_cwS 3 hts gX7_takesLose_X7_in rfl rfl rfl (by decide +kernel) ⟨Nat.le_of_ble_eq_true rfl, Nat.le_of_ble_eq_true rfl⟩) ⟨k_blind, k_pre hPc hK hNn hDc⟩ rfl rfl hl.1 rfl (lv_room (Nat.le_of_ble_eq_true rfl)) dX7_takesLose_27 ⟨Nat.le_of_ble_eq_true rfl, Nat.le_of_ble_eq_true rfl⟩) hS hF (fun H locs hP1 hk hS => ?_)
    have hP : va_P D vwCl (wX7 cs a S1 L) _ := k_keep hP hk
    refine lv_if_eq (tgt := 58) hx hb dX7_takesLose_30 (by decide) (fun c30 => ?_) (fun c30 => ?_)
    · have hd := dn_t c30 hd
      refine lv_iconst (v := (0 : Int32)) hx hb dX7_takesLose_58 (by decide) ?_
      obtain ⟨e1, e2⟩ := dn_s2 hd
      exact k_zret hx hb hr rfl hQ hAe e1 (by rw [e2]) hP hS hlocks dX7_takesLose_59
    · have hd := dn_f c30 hd
      refine lv_aload_n hx hb dX7_takesLose_33 rfl (lv_at hl 0 rfl) ?_
      refine va_get (D := D) (ci := 5) (v := .ref (a 17)) (C := RX7) (T := TX7) (N := 25) hx hb hts (fun w h => List.mem_cons_of_mem _ (List.mem_append_right _ h)) hown hK hP 0 rfl rfl 23 (by decide) (hts (.fieldLink RX7 64 "LeastNeedModel" "anew" "[I") (List.mem_of_getElem? (i := 3) rfl)) (fun _ h9 => h9) rfl dX7_takesLose_34 ?_
      refine lv_bipush (v := (10 : Int32)) hx hb dX7_takesLose_37 (by decide) ?_
      refine lv_aload_n hx hb dX7_takesLose_39 rfl (lv_at hl 0 rfl) ?_
      refine va_get (D := D) (ci := 5) (v := .int (S1 0 22)) (C := RX7) (T := TX7) (N := 25) hx hb hts (fun w h => List.mem_cons_of_mem _ (List.mem_append_right _ h)) hown hK hP 0 rfl rfl 22 (by decide) (hts (.fieldLink RX7 274 "LeastNeedModel" "value" "I") (List.mem_of_getElem? (i := 2) rfl)) (fun _ h9 => h9) rfl dX7_takesLose_40 ?_
      refine lv_iadd hx hb dX7_takesLose_43 ?_
      obtain ⟨hi44, hd⟩ := dn_i hd
      refine k_iald (D := D) (k := ((10 : Int32) + (S1 0 22)).toNatClampNeg) (by rfl) hx hb hK hP 17 1 rfl rfl hi44 dX7_takesLose_44 ?_
      refine lv_if_ne (tgt := 58) hx hb dX7_takesLose_45 (by decide) (fun c45 => ?_) (fun c45 => ?_)
      · have hd := dn_f c45 hd
        refine lv_iconst (v := (0 : Int32)) hx hb dX7_takesLose_58 (by decide) ?_
        obtain ⟨e1, e2⟩ := dn_s2 hd
        exact k_zret hx hb hr rfl hQ hAe e1 (by rw [e2]) hP hS hlocks dX7_takesLose_59
      · have hd := dn_t c45 hd
        refine lv_aload_n hx hb dX7_takesLose_48 rfl (lv_at hl 0 rfl) ?_
        refine lv_iconst (v := (0 : Int32)) hx hb dX7_takesLose_49 (by decide) ?_
        refine lv_iconst (v := (0 : Int32)) hx hb dX7_takesLose_50 (by decide) ?_
        refine lv_iconst (v := (4 : Int32)) hx hb dX7_takesLose_51 (by decide) ?_
        obtain ⟨r52, S52, hq52, hd⟩ := dn_b2 hd
        have hF := k_self hD hS hA
        refine k_run_i (va_runV (As := [.int (0 : Int32), .int (0 : Int32), .int (4 : Int32)]) (rest := []) ⟨hx, hb, hml, hown, hts⟩ (mX7_takes l D cs a S1 L (0 : Int32) (0 : Int32) (4 : Int32) r52 S52 hq52 _) (cwV 3 hts gX7_takesLose_X7_takes rfl rfl rfl (by decide +kernel) ⟨Nat.le_of_ble_eq_true rfl, Nat.le_of_ble_eq_true rfl⟩) ⟨k_blind, va_recv hK hP (ci := 5) (q0 := 0) rfl rfl, k_pre hP hK hNn hD⟩ rfl rfl hl.1 rfl (lv_room (Nat.le_of_ble_eq_true rfl)) dX7_takesLose_52 ⟨Nat.le_of_ble_eq_true rfl, Nat.le_of_ble_eq_true rfl⟩) hS hF (fun H locs hP1 hk hS => ?_)
        have hP : va_P D vwCl (wX7 cs a S52 L) _ := hP1
        have hD := hDA S52 L
        refine lv_if_ne (tgt := 60) hx hb dX7_takesLose_55 (by decide) (fun c55 => ?_) (fun c55 => ?_)
        · have hd := dn_f c55 hd
          refine lv_aload_n hx hb dX7_takesLose_60 rfl (lv_at hl 0 rfl) ?_
          refine va_get (D := D) (ci := 5) (v := .ref (a 17)) (C := RX7) (T := TX7) (N := 25) hx hb hts (fun w h => List.mem_cons_of_mem _ (List.mem_append_right _ h)) hown hK hP 0 rfl rfl 23 (by decide) (hts (.fieldLink RX7 64 "LeastNeedModel" "anew" "[I") (List.mem_of_getElem? (i := 3) rfl)) (fun _ h9 => h9) rfl dX7_takesLose_61 ?_
          refine lv_bipush (v := (10 : Int32)) hx hb dX7_takesLose_64 (by decide) ?_
          refine lv_aload_n hx hb dX7_takesLose_66 rfl (lv_at hl 0 rfl) ?_
          refine va_get (D := D) (ci := 5) (v := .ref (a 18)) (C := RX7) (T := TX7) (N := 25) hx hb hts (fun w h => List.mem_cons_of_mem _ (List.mem_append_right _ h)) hown hK hP 0 rfl rfl 24 (by decide) (hts (.fieldLink RX7 67 "LeastNeedModel" "values" "[I") (List.mem_of_getElem? (i := 4) rfl)) (fun _ h9 => h9) rfl dX7_takesLose_67 ?_
          refine lv_iconst (v := (0 : Int32)) hx hb dX7_takesLose_70 (by decide) ?_
          refine k_iald (D := D) (k := 0) (by rfl) hx hb hK hP 18 1 rfl rfl (k_in (by decide)) dX7_takesLose_71 ?_
          refine lv_iadd hx hb dX7_takesLose_72 ?_
          refine lv_iconst (v := (1 : Int32)) hx hb dX7_takesLose_73 (by decide) ?_
          obtain ⟨hi74, hd⟩ := dn_i hd
          refine k_iast (D := D) (k := ((10 : Int32) + (S52 18 0)).toNatClampNeg) (by rfl) hx hb hK hP hD hS 17 1 rfl rfl hi74 dX7_takesLose_74 (fun H locs hP hD hS => ?_)
          have hP : va_P D vwCl (wX7 cs a (k_w S52 17 (((10 : Int32) + (S52 18 0)).toNatClampNeg) (1 : Int32)) L) _ := k_eq hP (wsX7_a17 cs a S52 L (((10 : Int32) + (S52 18 0)).toNatClampNeg) (1 : Int32))
          have hD := hDA (k_w S52 17 (((10 : Int32) + (S52 18 0)).toNatClampNeg) (1 : Int32)) L
          refine lv_iconst (v := (1 : Int32)) hx hb dX7_takesLose_75 (by decide) ?_
          obtain ⟨e1, e2⟩ := dn_s2 hd
          exact k_zret hx hb hr rfl hQ hAe e1 (by rw [e2]) hP hS hlocks dX7_takesLose_76
        · have hd := dn_t c55 hd
          refine lv_iconst (v := (0 : Int32)) hx hb dX7_takesLose_58 (by decide) ?_
          obtain ⟨e1, e2⟩ := dn_s2 hd
          exact k_zret hx hb hr rfl hQ hAe e1 (by rw [e2]) hP hS hlocks dX7_takesLose_59
-- LeastNeedModel.layCoats([I)V
set_option maxRecDepth 20000 in
def nX7_layCoats_17_l2 (x2_2 : Int32) (S_2 : Nat → Nat → Int32) (L : Nat → Nat → Int64) : Option ((Int32 × (Nat → Nat → Int32)) ⊕ ((Nat → Nat → Int32))) := if (S_2 17 0) ≤ x2_2 then k_up (some S_2) else if ((15 : Int32) + x2_2) < 0 ∨ 140 ≤ ((15 : Int32) + x2_2).toNatClampNeg then none else if x2_2 < 0 ∨ 7 ≤ x2_2.toNatClampNeg then none else some (.inl ((x2_2 + (1 : Int32)), (k_w S_2 5 x2_2.toNatClampNeg (S_2 17 ((15 : Int32) + x2_2).toNatClampNeg))))
set_option maxRecDepth 20000 in
def nX7_layCoats_17 (S : Nat → Nat → Int32) (L : Nat → Nat → Int64) : Option ((Nat → Nat → Int32)) := k_it (fun st => nX7_layCoats_17_l2 st.1 st.2 L) 1000 ((0 : Int32), S)
set_option maxHeartbeats 4000000 in
set_option maxRecDepth 100000 in
theorem mX7_layCoats_17 (l : Launch) (D : va_G) (cs : Nat → ClassId) (a : Nat → Nat) (S : Nat → Nat → Int32) (L : Nat → Nat → Int64) (S9 : (Nat → Nat → Int32)) (hd : nX7_layCoats_17 S L = some S9) : ∀ sz : Nat, Met l yX7_layCoats wsX7_layCoats ({ frames := 0, cells := 0, slots := 0, locals := 0 }) (k_Pc D cs [.ref (a 0), .ref (a 17)] (wX7 cs a S L) sz) (k_Qv D (wX7 cs a S L) (wX7 cs a S9 L) sz) 0 0 (va_A (wX7 cs a S L) sz) := by
  intro sz
  refine Met.ofW (cc := cX7_layCoats) (maxL := 3) (ret := none) (by decide) rfl ?_
  intro p e s m args below meth c s₁ B hml hv
  obtain ⟨rfl, hsz, hP, hK, hD0, hNn⟩ := hv
  have hx := B.exec
  have hb := B.bytes
  have hr := B.returns
  have hts := atoms_spec (ws := wsX7_layCoats) B.pre
  have hown : s.vm.findClass RX7 = some m.cls := findClass_of_methodNamed B.named
  have hlocks := B.notSynchronized
  subst hsz
  obtain ⟨A, hAe⟩ : ∃ A : Nat → Prop, A = va_A (wX7 cs a S L) s.heap.size := ⟨_, rfl⟩
  have hD : va_D A (wX7 cs a S L) := by rw [hAe]; exact hD0.self
  have hA : ∀ q : Nat, s.heap.size ≤ q → A q := fun q h => by rw [hAe]; exact Or.inr h
  have hS : va_S A s.heap s.heap [] := va_S.rf
  have hDA : ∀ (S : Nat → Nat → Int32) (L : Nat → Nat → Int64), va_D A (wX7 cs a S L) := fun S L => k_DA hD rfl
  have hl := lv_entry ([.ref (a 0), .ref (a 17)]) (n := 3) (Nat.le_of_ble_eq_true rfl)
  rw [lg_entry_eq]
  generalize (lg_sl ([.ref (a 0), .ref (a 17)]) ++ List.replicate (3 - (lg_sl ([.ref (a 0), .ref (a 17)])).length) Slot.unset).toArray = ls at hl ⊢
  have hl : lv_has ls 3 [(0, .ref (a 0)), (1, .ref (a 17))] := hl
  obtain ⟨Q, hQ⟩ : ∃ Q, Q = MQ below (k_Qv D (wX7 cs a S L) (wX7 cs a S9 L) s.heap.size) ([.ref (a 0), .ref (a 17)] : List Value).toArray s 0 0 (va_A (wX7 cs a S L) s.heap.size) := ⟨_, rfl⟩
  rw [← hQ]
  have Lo2 : ∀ (n1 : Nat) (x2_2 : Int32) (S_2 : Nat → Nat → Int32) (H : Heap) (locs : List Loc) (ls : Array Slot), k_it (fun st => nX7_layCoats_17_l2 st.1 st.2 L) n1 (x2_2, S_2) = some S9 → lv_has ls 3 [(0, .ref (a 0)), (1, .ref (a 17)), (2, .int x2_2)] → va_P D vwCl (wX7 cs a S_2 L) H → va_S A s.heap H locs → W p l e (headSpec wsX7_layCoats ({ frames := 0, cells := 0, slots := 0, locals := 0 })).room s m ([.ref (a 0), .ref (a 17)] : List Value).toArray below meth c H locs 0 0 Q (F0 m 2 ls []) := by
    intro n1
    induction n1 with
    | zero => intro x2_2 S_2 H locs ls hd; exact dn_it0 hd
    | succ n1 ih1 =>
      intro x2_2 S_2 H locs ls hd hl hP hS
      have hD := hDA S_2 L
      obtain ⟨y1, hd, hy1⟩ := dn_it hd
      have hd : nX7_layCoats_17_l2 x2_2 S_2 L = some y1 := hd
      unfold nX7_layCoats_17_l2 at hd
      refine lv_iload_n hx hb dX7_layCoats_2 rfl (lv_at hl 2 rfl) ?_
      refine lv_aload_n hx hb dX7_layCoats_3 rfl (lv_at hl 1 rfl) ?_
      refine lv_iconst (v := (0 : Int32)) hx hb dX7_layCoats_4 (by decide) ?_
      refine k_iald (D := D) (k := 0) (by rfl) hx hb hK hP 17 1 rfl rfl (k_in (by decide)) dX7_layCoats_5 ?_
      refine lv_icmp_ge (tgt := 27) hx hb dX7_layCoats_6 (by decide) (fun c6 => ?_) (fun c6 => ?_)
      · have hd := dn_t c6 hd
        have hd := dn_up hd hy1
        have e1 := dn_s1 hd
        exact k_vret hx hb hr hQ hAe (by rw [e1]) hP hS hlocks dX7_layCoats_27
      · have hd := dn_f c6 hd
        refine lv_aload_n hx hb dX7_layCoats_9 rfl (lv_at hl 0 rfl) ?_
        refine va_get (D := D) (ci := 5) (v := .ref (a 5)) (C := RX7) (T := TX7) (N := 25) hx hb hts (fun w h => List.mem_cons_of_mem _ (List.mem_append_right _ h)) hown hK hP 0 rfl rfl 6 (by decide) (hts (.fieldLink RX7 27 "LeastNeedModel" "coats0" "[I") (List.mem_of_getElem? (i := 1) rfl)) (fun _ h9 => h9) rfl dX7_layCoats_10 ?_
        refine lv_iload_n hx hb dX7_layCoats_13 rfl (lv_at hl 2 rfl) ?_
        refine lv_aload_n hx hb dX7_layCoats_14 rfl (lv_at hl 1 rfl) ?_
        refine lv_bipush (v := (15 : Int32)) hx hb dX7_layCoats_15 (by decide) ?_
        refine lv_iload_n hx hb dX7_layCoats_17 rfl (lv_at hl 2 rfl) ?_
        refine lv_iadd hx hb dX7_layCoats_18 ?_
        obtain ⟨hi19, hd⟩ := dn_i hd
        refine k_iald (D := D) (k := ((15 : Int32) + x2_2).toNatClampNeg) (by rfl) hx hb hK hP 17 1 rfl rfl hi19 dX7_layCoats_19 ?_
        obtain ⟨hi20, hd⟩ := dn_i hd
        refine k_iast (D := D) (k := x2_2.toNatClampNeg) (by rfl) hx hb hK hP hD hS 5 1 rfl rfl hi20 dX7_layCoats_20 (fun H locs hP hD hS => ?_)
        have hP : va_P D vwCl (wX7 cs a (k_w S_2 5 x2_2.toNatClampNeg (S_2 17 ((15 : Int32) + x2_2).toNatClampNeg)) L) _ := k_eq hP (wsX7_a5 cs a S_2 L x2_2.toNatClampNeg (S_2 17 ((15 : Int32) + x2_2).toNatClampNeg))
        have hD := hDA (k_w S_2 5 x2_2.toNatClampNeg (S_2 17 ((15 : Int32) + x2_2).toNatClampNeg)) L
        refine lv_iinc (v := x2_2 + (1 : Int32)) (lv' := [(2, .int (x2_2 + (1 : Int32))), (0, .ref (a 0)), (1, .ref (a 17))]) hx hb dX7_layCoats_21 hl (k := 2) rfl rfl (by decide) rfl (fun ls hl => ?_)
        refine lv_goto (tgt := 2) hx hb dX7_layCoats_24 (by decide) ?_
        exact ih1 (x2_2 + (1 : Int32)) (k_w S_2 5 x2_2.toNatClampNeg (S_2 17 ((15 : Int32) + x2_2).toNatClampNeg)) _ _ _ (dn_bk hd hy1) (lv_sub hl [1, 2, 0] rfl) hP hS
  unfold nX7_layCoats_17 at hd
  refine lv_iconst (v := (0 : Int32)) hx hb dX7_layCoats_0 (by decide) ?_
  refine lv_istore_n (lv' := [(2, .int (0 : Int32)), (0, .ref (a 0)), (1, .ref (a 17))]) hx hb dX7_layCoats_1 rfl hl (by decide) rfl (fun ls hl => ?_)
  exact Lo2 1000 (0 : Int32) S _ _ _ hd (lv_sub hl [1, 2, 0] rfl) hP hS
-- LeastNeedModel.showsOn([IIII)I
set_option maxRecDepth 20000 in
def nX7_showsOn_17 (S : Nat → Nat → Int32) (L : Nat → Nat → Int64) (p2 : Int32) (p3 : Int32) (p4 : Int32) : Option (Int32) := if ((23 : Int32) + p2) < 0 ∨ 140 ≤ ((23 : Int32) + p2).toNatClampNeg then none else if (((37 : Int32) + ((4 : Int32) * p2)) + p3) < 0 ∨ 140 ≤ (((37 : Int32) + ((4 : Int32) * p2)) + p3).toNatClampNeg then none else if p2 < 0 ∨ 7 ≤ p2.toNatClampNeg then none else k_b1 (nX7_showsAs (S 17 ((23 : Int32) + p2).toNatClampNeg) p3 p4 (S 17 (((37 : Int32) + ((4 : Int32) * p2)) + p3).toNatClampNeg) (S 5 p2.toNatClampNeg)) (fun r25 => some r25)
set_option maxHeartbeats 4000000 in
set_option maxRecDepth 100000 in
theorem mX7_showsOn_17 (l : Launch) (D : va_G) (cs : Nat → ClassId) (a : Nat → Nat) (S : Nat → Nat → Int32) (L : Nat → Nat → Int64) (p2 : Int32) (p3 : Int32) (p4 : Int32) (r9 : Int32) (hd : nX7_showsOn_17 S L p2 p3 p4 = some r9) : ∀ sz : Nat, Met l yX7_showsOn wsX7_showsOn ({ frames := 1, cells := 0, slots := 0, locals := 25 }) (k_Pc D cs [.ref (a 0), .ref (a 17), .int p2, .int p3, .int p4] (wX7 cs a S L) sz) (k_Qi D r9 (wX7 cs a S L) (wX7 cs a S L) sz) 0 0 (va_A (wX7 cs a S L) sz) := by
  intro sz
  refine Met.ofW (cc := cX7_showsOn) (maxL := 5) (ret := (some .int)) (by decide) rfl ?_
  intro p e s m args below meth c s₁ B hml hv
  obtain ⟨rfl, hsz, hP, hK, hD0, hNn⟩ := hv
  have hx := B.exec
  have hb := B.bytes
  have hr := B.returns
  have hts := atoms_spec (ws := wsX7_showsOn) B.pre
  have hown : s.vm.findClass RX7 = some m.cls := findClass_of_methodNamed B.named
  have hlocks := B.notSynchronized
  subst hsz
  obtain ⟨A, hAe⟩ : ∃ A : Nat → Prop, A = va_A (wX7 cs a S L) s.heap.size := ⟨_, rfl⟩
  have hD : va_D A (wX7 cs a S L) := by rw [hAe]; exact hD0.self
  have hA : ∀ q : Nat, s.heap.size ≤ q → A q := fun q h => by rw [hAe]; exact Or.inr h
  have hS : va_S A s.heap s.heap [] := va_S.rf
  have hDA : ∀ (S : Nat → Nat → Int32) (L : Nat → Nat → Int64), va_D A (wX7 cs a S L) := fun S L => k_DA hD rfl
  have hl := lv_entry ([.ref (a 0), .ref (a 17), .int p2, .int p3, .int p4]) (n := 5) (Nat.le_of_ble_eq_true rfl)
  rw [lg_entry_eq]
  generalize (lg_sl ([.ref (a 0), .ref (a 17), .int p2, .int p3, .int p4]) ++ List.replicate (5 - (lg_sl ([.ref (a 0), .ref (a 17), .int p2, .int p3, .int p4])).length) Slot.unset).toArray = ls at hl ⊢
  have hl : lv_has ls 5 [(0, .ref (a 0)), (1, .ref (a 17)), (2, .int p2), (3, .int p3), (4, .int p4)] := hl
  obtain ⟨Q, hQ⟩ : ∃ Q, Q = MQ below (k_Qi D r9 (wX7 cs a S L) (wX7 cs a S L) s.heap.size) ([.ref (a 0), .ref (a 17), .int p2, .int p3, .int p4] : List Value).toArray s 0 0 (va_A (wX7 cs a S L) s.heap.size) := ⟨_, rfl⟩
  rw [← hQ]
  unfold nX7_showsOn_17 at hd
  refine lv_aload_n hx hb dX7_showsOn_0 rfl (lv_at hl 1 rfl) ?_
  refine lv_bipush (v := (23 : Int32)) hx hb dX7_showsOn_1 (by decide) ?_
  refine lv_iload_n hx hb dX7_showsOn_3 rfl (lv_at hl 2 rfl) ?_
  refine lv_iadd hx hb dX7_showsOn_4 ?_
  obtain ⟨hi5, hd⟩ := dn_i hd
  refine k_iald (D := D) (k := ((23 : Int32) + p2).toNatClampNeg) (by rfl) hx hb hK hP 17 1 rfl rfl hi5 dX7_showsOn_5 ?_
  refine lv_iload_n hx hb dX7_showsOn_6 rfl (lv_at hl 3 rfl) ?_
  refine lv_iload hx hb dX7_showsOn_7 (lv_at hl 4 rfl) ?_
  refine lv_aload_n hx hb dX7_showsOn_9 rfl (lv_at hl 1 rfl) ?_
  refine lv_bipush (v := (37 : Int32)) hx hb dX7_showsOn_10 (by decide) ?_
  refine lv_iconst (v := (4 : Int32)) hx hb dX7_showsOn_12 (by decide) ?_
  refine lv_iload_n hx hb dX7_showsOn_13 rfl (lv_at hl 2 rfl) ?_
  refine lv_imul hx hb dX7_showsOn_14 ?_
  refine lv_iadd hx hb dX7_showsOn_15 ?_
  refine lv_iload_n hx hb dX7_showsOn_16 rfl (lv_at hl 3 rfl) ?_
  refine lv_iadd hx hb dX7_showsOn_17 ?_
  obtain ⟨hi18, hd⟩ := dn_i hd
  refine k_iald (D := D) (k := (((37 : Int32) + ((4 : Int32) * p2)) + p3).toNatClampNeg) (by rfl) hx hb hK hP 17 1 rfl rfl hi18 dX7_showsOn_18 ?_
  refine lv_aload_n hx hb dX7_showsOn_19 rfl (lv_at hl 0 rfl) ?_
  refine va_get (D := D) (ci := 5) (v := .ref (a 5)) (C := RX7) (T := TX7) (N := 25) hx hb hts (fun w h => List.mem_cons_of_mem _ (List.mem_append_right _ h)) hown hK hP 0 rfl rfl 6 (by decide) (hts (.fieldLink RX7 27 "LeastNeedModel" "coats0" "[I") (List.mem_of_getElem? (i := 1) rfl)) (fun _ h9 => h9) rfl dX7_showsOn_20 ?_
  refine lv_iload_n hx hb dX7_showsOn_23 rfl (lv_at hl 2 rfl) ?_
  obtain ⟨hi24, hd⟩ := dn_i hd
  refine k_iald (D := D) (k := p2.toNatClampNeg) (by rfl) hx hb hK hP 5 1 rfl rfl hi24 dX7_showsOn_24 ?_
  obtain ⟨r25, hq25, hd⟩ := dn_b1 hd
  have hPc := k_P0 hP
  have hDc : va_D A ([] : va_W) := k_D0
  have hF := k_self hDc hS hA
  refine k_run_i (va_runS (As := [.int (S 17 ((23 : Int32) + p2).toNatClampNeg), .int p3, .int p4, .int (S 17 (((37 : Int32) + ((4 : Int32) * p2)) + p3).toNatClampNeg), .int (S 5 p2.toNatClampNeg)]) (rest := []) ⟨hx, hb, hml, hown, hts⟩ (mX7_showsAs l D cs  (S 17 ((23 : Int32) + p2).toNatClampNeg) p3 p4 (S 17 (((37 : Int32) + ((4 : Int32) * p2)) + p3).toNatClampNeg) (S 5 p2.toNatClampNeg) r25 hq25 _) (va_cwS 5 hts gX7_showsOn_X7_showsAs rfl rfl rfl (by decide +kernel) ⟨Nat.le_of_ble_eq_true rfl, Nat.le_of_ble_eq_true rfl⟩) ⟨k_blind, k_pre hPc hK hNn hDc⟩ rfl rfl hl.1 rfl (lv_room (Nat.le_of_ble_eq_true rfl)) dX7_showsOn_25 ⟨Nat.le_of_ble_eq_true rfl, Nat.le_of_ble_eq_true rfl⟩) hS hF (fun H locs hP1 hk hS => ?_)
  have hP : va_P D vwCl (wX7 cs a S L) _ := k_keep hP hk
  have e1 := dn_s1 hd
  exact k_iret hx hb hr hQ hAe e1 rfl hP hS hlocks dX7_showsOn_28
-- LeastNeedModel.countsOn([IIIIII)I
set_option maxRecDepth 20000 in
def nX7_countsOn_17 (S : Nat → Nat → Int32) (L : Nat → Nat → Int64) (p2 : Int32) (p3 : Int32) (p4 : Int32) (p5 : Int32) (p6 : Int32) : Option (Int32) := if ((30 : Int32) + p5) < 0 ∨ 140 ≤ ((30 : Int32) + p5).toNatClampNeg then none else if ((30 : Int32) + p6) < 0 ∨ 140 ≤ ((30 : Int32) + p6).toNatClampNeg then none else k_b1 (nX7_distance (S 17 ((30 : Int32) + p5).toNatClampNeg) (S 17 ((30 : Int32) + p6).toNatClampNeg)) (fun r14 => k_b1 (nX7_showsOn_17 S L p6 p3 p4) (fun r29 => k_b1 (nX7_showsOn_17 S L p6 ((p3 + (1 : Int32)) - (p3 + (1 : Int32)) / (4 : Int32) * (4 : Int32)) p4) (fun r43 => k_b1 (nX7_countsAs p2 r14 r29 r43) (fun r46 => some r46))))
set_option maxHeartbeats 4000000 in
set_option maxRecDepth 100000 in
theorem mX7_countsOn_17 (l : Launch) (D : va_G) (cs : Nat → ClassId) (a : Nat → Nat) (S : Nat → Nat → Int32) (L : Nat → Nat → Int64) (p2 : Int32) (p3 : Int32) (p4 : Int32) (p5 : Int32) (p6 : Int32) (r9 : Int32) (hd : nX7_countsOn_17 S L p2 p3 p4 p5 p6 = some r9) : ∀ sz : Nat, Met l yX7_countsOn wsX7_countsOn ({ frames := 2, cells := 0, slots := 0, locals := 49 }) (k_Pc D cs [.ref (a 0), .ref (a 17), .int p2, .int p3, .int p4, .int p5, .int p6] (wX7 cs a S L) sz) (k_Qi D r9 (wX7 cs a S L) (wX7 cs a S L) sz) 0 0 (va_A (wX7 cs a S L) sz) := by
  intro sz
  refine Met.ofW (cc := cX7_countsOn) (maxL := 8) (ret := (some .int)) (by decide) rfl ?_
  intro p e s m args below meth c s₁ B hml hv
  obtain ⟨rfl, hsz, hP, hK, hD0, hNn⟩ := hv
  have hx := B.exec
  have hb := B.bytes
  have hr := B.returns
  have hts := atoms_spec (ws := wsX7_countsOn) B.pre
  have hown : s.vm.findClass RX7 = some m.cls := findClass_of_methodNamed B.named
  have hlocks := B.notSynchronized
  subst hsz
  obtain ⟨A, hAe⟩ : ∃ A : Nat → Prop, A = va_A (wX7 cs a S L) s.heap.size := ⟨_, rfl⟩
  have hD : va_D A (wX7 cs a S L) := by rw [hAe]; exact hD0.self
  have hA : ∀ q : Nat, s.heap.size ≤ q → A q := fun q h => by rw [hAe]; exact Or.inr h
  have hS : va_S A s.heap s.heap [] := va_S.rf
  have hDA : ∀ (S : Nat → Nat → Int32) (L : Nat → Nat → Int64), va_D A (wX7 cs a S L) := fun S L => k_DA hD rfl
  have hl := lv_entry ([.ref (a 0), .ref (a 17), .int p2, .int p3, .int p4, .int p5, .int p6]) (n := 8) (Nat.le_of_ble_eq_true rfl)
  rw [lg_entry_eq]
  generalize (lg_sl ([.ref (a 0), .ref (a 17), .int p2, .int p3, .int p4, .int p5, .int p6]) ++ List.replicate (8 - (lg_sl ([.ref (a 0), .ref (a 17), .int p2, .int p3, .int p4, .int p5, .int p6])).length) Slot.unset).toArray = ls at hl ⊢
  have hl : lv_has ls 8 [(0, .ref (a 0)), (1, .ref (a 17)), (2, .int p2), (3, .int p3), (4, .int p4), (5, .int p5), (6, .int p6)] := hl
  obtain ⟨Q, hQ⟩ : ∃ Q, Q = MQ below (k_Qi D r9 (wX7 cs a S L) (wX7 cs a S L) s.heap.size) ([.ref (a 0), .ref (a 17), .int p2, .int p3, .int p4, .int p5, .int p6] : List Value).toArray s 0 0 (va_A (wX7 cs a S L) s.heap.size) := ⟨_, rfl⟩
  rw [← hQ]
  unfold nX7_countsOn_17 at hd
  refine lv_aload_n hx hb dX7_countsOn_0 rfl (lv_at hl 1 rfl) ?_
  refine lv_bipush (v := (30 : Int32)) hx hb dX7_countsOn_1 (by decide) ?_
  refine lv_iload hx hb dX7_countsOn_3 (lv_at hl 5 rfl) ?_
  refine lv_iadd hx hb dX7_countsOn_5 ?_
  obtain ⟨hi6, hd⟩ := dn_i hd
  refine k_iald (D := D) (k := ((30 : Int32) + p5).toNatClampNeg) (by rfl) hx hb hK hP 17 1 rfl rfl hi6 dX7_countsOn_6 ?_
  refine lv_aload_n hx hb dX7_countsOn_7 rfl (lv_at hl 1 rfl) ?_
  refine lv_bipush (v := (30 : Int32)) hx hb dX7_countsOn_8 (by decide) ?_
  refine lv_iload hx hb dX7_countsOn_10 (lv_at hl 6 rfl) ?_
  refine lv_iadd hx hb dX7_countsOn_12 ?_
  obtain ⟨hi13, hd⟩ := dn_i hd
  refine k_iald (D := D) (k := ((30 : Int32) + p6).toNatClampNeg) (by rfl) hx hb hK hP 17 1 rfl rfl hi13 dX7_countsOn_13 ?_
  obtain ⟨r14, hq14, hd⟩ := dn_b1 hd
  have hPc := k_P0 hP
  have hDc : va_D A ([] : va_W) := k_D0
  have hF := k_self hDc hS hA
  refine k_run_i (va_runS (As := [.int (S 17 ((30 : Int32) + p5).toNatClampNeg), .int (S 17 ((30 : Int32) + p6).toNatClampNeg)]) (rest := []) ⟨hx, hb, hml, hown, hts⟩ (mX7_distance l D cs  (S 17 ((30 : Int32) + p5).toNatClampNeg) (S 17 ((30 : Int32) + p6).toNatClampNeg) r14 hq14 _) (va_cwS 2 hts gX7_countsOn_X7_distance rfl rfl rfl (by decide +kernel) ⟨Nat.le_of_ble_eq_true rfl, Nat.le_of_ble_eq_true rfl⟩) ⟨k_blind, k_pre hPc hK hNn hDc⟩ rfl rfl hl.1 rfl (lv_room (Nat.le_of_ble_eq_true rfl)) dX7_countsOn_14 ⟨Nat.le_of_ble_eq_true rfl, Nat.le_of_ble_eq_true rfl⟩) hS hF (fun H locs hP1 hk hS => ?_)
  have hP : va_P D vwCl (wX7 cs a S L) _ := k_keep hP hk
  refine lv_istore (lv' := [(7, .int r14), (0, .ref (a 0)), (1, .ref (a 17)), (2, .int p2), (3, .int p3), (4, .int p4), (5, .int p5), (6, .int p6)]) hx hb dX7_countsOn_17 hl (by decide) rfl (fun ls hl => ?_)
  refine lv_iload_n hx hb dX7_countsOn_19 rfl (lv_at hl 3 rfl) ?_
  refine lv_iload hx hb dX7_countsOn_20 (lv_at hl 0 rfl) ?_
  refine lv_aload_n hx hb dX7_countsOn_22 rfl (lv_at hl 1 rfl) ?_
  refine lv_aload_n hx hb dX7_countsOn_23 rfl (lv_at hl 2 rfl) ?_
  refine lv_iload hx hb dX7_countsOn_24 (lv_at hl 7 rfl) ?_
  refine lv_iload_n hx hb dX7_countsOn_26 rfl (lv_at hl 4 rfl) ?_
  refine lv_iload hx hb dX7_countsOn_27 (lv_at hl 5 rfl) ?_
  obtain ⟨r29, hq29, hd⟩ := dn_b1 hd
  have hF := k_self hD hS hA
  refine k_run_i (va_runV (As := [.ref (a 17), .int p6, .int p3, .int p4]) (rest := [.int r14, .int p2]) ⟨hx, hb, hml, hown, hts⟩ (mX7_showsOn_17 l D cs a S L p6 p3 p4 r29 hq29 _) (cwV 4 hts gX7_countsOn_X7_showsOn rfl rfl rfl (by decide +kernel) ⟨Nat.le_of_ble_eq_true rfl, Nat.le_of_ble_eq_true rfl⟩) ⟨k_blind, va_recv hK hP (ci := 5) (q0 := 0) rfl rfl, k_pre hP hK hNn hD⟩ rfl rfl hl.1 rfl (lv_room (Nat.le_of_ble_eq_true rfl)) dX7_countsOn_29 ⟨Nat.le_of_ble_eq_true rfl, Nat.le_of_ble_eq_true rfl⟩) hS hF (fun H locs hP1 hk hS => ?_)
  have hP : va_P D vwCl (wX7 cs a S L) _ := hP1
  have hD := hDA S L
  refine lv_aload_n hx hb dX7_countsOn_32 rfl (lv_at hl 1 rfl) ?_
  refine lv_aload_n hx hb dX7_countsOn_33 rfl (lv_at hl 2 rfl) ?_
  refine lv_iload hx hb dX7_countsOn_34 (lv_at hl 7 rfl) ?_
  refine lv_iload_n hx hb dX7_countsOn_36 rfl (lv_at hl 4 rfl) ?_
  refine lv_iconst (v := (1 : Int32)) hx hb dX7_countsOn_37 (by decide) ?_
  refine lv_iadd hx hb dX7_countsOn_38 ?_
  refine lv_iconst (v := (4 : Int32)) hx hb dX7_countsOn_39 (by decide) ?_
  refine lv_irem hx hb dX7_countsOn_40 (by decide) ?_
  refine lv_iload hx hb dX7_countsOn_41 (lv_at hl 5 rfl) ?_
  obtain ⟨r43, hq43, hd⟩ := dn_b1 hd
  have hF := k_self hD hS hA
  refine k_run_i (va_runV (As := [.ref (a 17), .int p6, .int ((p3 + (1 : Int32)) - (p3 + (1 : Int32)) / (4 : Int32) * (4 : Int32)), .int p4]) (rest := [.int r29, .int r14, .int p2]) ⟨hx, hb, hml, hown, hts⟩ (mX7_showsOn_17 l D cs a S L p6 ((p3 + (1 : Int32)) - (p3 + (1 : Int32)) / (4 : Int32) * (4 : Int32)) p4 r43 hq43 _) (cwV 4 hts gX7_countsOn_X7_showsOn rfl rfl rfl (by decide +kernel) ⟨Nat.le_of_ble_eq_true rfl, Nat.le_of_ble_eq_true rfl⟩) ⟨k_blind, va_recv hK hP (ci := 5) (q0 := 0) rfl rfl, k_pre hP hK hNn hD⟩ rfl rfl hl.1 rfl (lv_room (Nat.le_of_ble_eq_true rfl)) dX7_countsOn_43 ⟨Nat.le_of_ble_eq_true rfl, Nat.le_of_ble_eq_true rfl⟩) hS hF (fun H locs hP1 hk hS => ?_)
  have hP : va_P D vwCl (wX7 cs a S L) _ := hP1
  have hD := hDA S L
  obtain ⟨r46, hq46, hd⟩ := dn_b1 hd
  have hPc := k_P0 hP
  have hDc : va_D A ([] : va_W) := k_D0
  have hF := k_self hDc hS hA
  refine k_run_i (va_runS (As := [.int p2, .int r14, .int r29, .int r43]) (rest := []) ⟨hx, hb, hml, hown, hts⟩ (mX7_countsAs l D cs  p2 r14 r29 r43 r46 hq46 _) (va_cwS 4 hts gX7_countsOn_X7_countsAs rfl rfl rfl (by decide +kernel) ⟨Nat.le_of_ble_eq_true rfl, Nat.le_of_ble_eq_true rfl⟩) ⟨k_blind, k_pre hPc hK hNn hDc⟩ rfl rfl hl.1 rfl (lv_room (Nat.le_of_ble_eq_true rfl)) dX7_countsOn_46 ⟨Nat.le_of_ble_eq_true rfl, Nat.le_of_ble_eq_true rfl⟩) hS hF (fun H locs hP1 hk hS => ?_)
  have hP : va_P D vwCl (wX7 cs a S L) _ := k_keep hP hk
  have e1 := dn_s1 hd
  exact k_iret hx hb hr hQ hAe e1 rfl hP hS hlocks dX7_countsOn_49
-- LeastNeedModel.comesTo([IIIII)I
set_option maxRecDepth 20000 in
def nX7_comesTo_17_i13_j88 (p2 : Int32) (p3 : Int32) (p4 : Int32) (p5 : Int32) (x8_88 : Int32) (x9_88 : Int32) (x10_88 : Int32) (w0_88 : Int32) (S : Nat → Nat → Int32) (L : Nat → Nat → Int64) : Option ((Int32 × Int32 × Int32 × Int32) ⊕ (Int32)) := some (.inl (w0_88, x10_88, x8_88, (x9_88 + (1 : Int32))))
set_option maxRecDepth 20000 in
def nX7_comesTo_17_i13_j72 (p2 : Int32) (p3 : Int32) (p4 : Int32) (p5 : Int32) (x6_72 : Int32) (x7_72 : Int32) (x9_72 : Int32) (x10_72 : Int32) (w0_72 : Int32) (S : Nat → Nat → Int32) (L : Nat → Nat → Int64) : Option ((Int32 × Int32 × Int32 × Int32) ⊕ (Int32)) := if x7_72 ≤ x10_72 then nX7_comesTo_17_i13_j88 p2 p3 p4 p5 w0_72 x9_72 x10_72 x6_72 S L else nX7_comesTo_17_i13_j88 p2 p3 p4 p5 w0_72 x9_72 x10_72 x9_72 S L
set_option maxRecDepth 20000 in
def nX7_comesTo_17_i13_j45 (p2 : Int32) (p3 : Int32) (p4 : Int32) (p5 : Int32) (x6_45 : Int32) (x7_45 : Int32) (x8_45 : Int32) (x9_45 : Int32) (w0_45 : Int32) (S : Nat → Nat → Int32) (L : Nat → Nat → Int64) : Option ((Int32 × Int32 × Int32 × Int32) ⊕ (Int32)) := if w0_45 = (-1 : Int32) then some (.inl (x6_45, x7_45, x8_45, (x9_45 + (1 : Int32)))) else if x7_45 < w0_45 then some (.inl (x6_45, x7_45, x8_45, (x9_45 + (1 : Int32)))) else if w0_45 = x7_45 then nX7_comesTo_17_i13_j72 p2 p3 p4 p5 x6_45 x7_45 x9_45 w0_45 (1 : Int32) S L else nX7_comesTo_17_i13_j72 p2 p3 p4 p5 x6_45 x7_45 x9_45 w0_45 (0 : Int32) S L
set_option maxRecDepth 20000 in
def nX7_comesTo_17_l13 (p2 : Int32) (p3 : Int32) (p4 : Int32) (p5 : Int32) (x6_13 : Int32) (x7_13 : Int32) (x8_13 : Int32) (x9_13 : Int32) (S : Nat → Nat → Int32) (L : Nat → Nat → Int64) : Option ((Int32 × Int32 × Int32 × Int32) ⊕ (Int32)) := if (S 17 0) ≤ x9_13 then k_up (if x8_13 = 0 then some x6_13 else if p2 = (4 : Int32) then some x6_13 else some (-1 : Int32)) else if x9_13 = p5 then nX7_comesTo_17_i13_j45 p2 p3 p4 p5 x6_13 x7_13 x8_13 x9_13 (-1 : Int32) S L else k_b1 (nX7_countsOn_17 S L p2 p3 p4 p5 x9_13) (fun r42 => nX7_comesTo_17_i13_j45 p2 p3 p4 p5 x6_13 x7_13 x8_13 x9_13 r42 S L)
set_option maxRecDepth 20000 in
def nX7_comesTo_17 (S : Nat → Nat → Int32) (L : Nat → Nat → Int64) (p2 : Int32) (p3 : Int32) (p4 : Int32) (p5 : Int32) : Option (Int32) := k_it (fun st => nX7_comesTo_17_l13 p2 p3 p4 p5 st.1 st.2.1 st.2.2.1 st.2.2.2 S L) 1000 ((-1 : Int32), (1000000 : Int32), (0 : Int32), (0 : Int32))
set_option maxHeartbeats 4000000 in
set_option maxRecDepth 100000 in
theorem mX7_comesTo_17 (l : Launch) (D : va_G) (cs : Nat → ClassId) (a : Nat → Nat) (S : Nat → Nat → Int32) (L : Nat → Nat → Int64) (p2 : Int32) (p3 : Int32) (p4 : Int32) (p5 : Int32) (r9 : Int32) (hd : nX7_comesTo_17 S L p2 p3 p4 p5 = some r9) : ∀ sz : Nat, Met l yX7_comesTo wsX7_comesTo ({ frames := 3, cells := 0, slots := 0, locals := 76 }) (k_Pc D cs [.ref (a 0), .ref (a 17), .int p2, .int p3, .int p4, .int p5] (wX7 cs a S L) sz) (k_Qi D r9 (wX7 cs a S L) (wX7 cs a S L) sz) 0 0 (va_A (wX7 cs a S L) sz) := by
  intro sz
  refine Met.ofW (cc := cX7_comesTo) (maxL := 11) (ret := (some .int)) (by decide) rfl ?_
  intro p e s m args below meth c s₁ B hml hv
  obtain ⟨rfl, hsz, hP, hK, hD0, hNn⟩ := hv
  have hx := B.exec
  have hb := B.bytes
  have hr := B.returns
  have hts := atoms_spec (ws := wsX7_comesTo) B.pre
  have hown : s.vm.findClass RX7 = some m.cls := findClass_of_methodNamed B.named
  have hlocks := B.notSynchronized
  subst hsz
  obtain ⟨A, hAe⟩ : ∃ A : Nat → Prop, A = va_A (wX7 cs a S L) s.heap.size := ⟨_, rfl⟩
  have hD : va_D A (wX7 cs a S L) := by rw [hAe]; exact hD0.self
  have hA : ∀ q : Nat, s.heap.size ≤ q → A q := fun q h => by rw [hAe]; exact Or.inr h
  have hS : va_S A s.heap s.heap [] := va_S.rf
  have hDA : ∀ (S : Nat → Nat → Int32) (L : Nat → Nat → Int64), va_D A (wX7 cs a S L) := fun S L => k_DA hD rfl
  have hl := lv_entry ([.ref (a 0), .ref (a 17), .int p2, .int p3, .int p4, .int p5]) (n := 11) (Nat.le_of_ble_eq_true rfl)
  rw [lg_entry_eq]
  generalize (lg_sl ([.ref (a 0), .ref (a 17), .int p2, .int p3, .int p4, .int p5]) ++ List.replicate (11 - (lg_sl ([.ref (a 0), .ref (a 17), .int p2, .int p3, .int p4, .int p5])).length) Slot.unset).toArray = ls at hl ⊢
  have hl : lv_has ls 11 [(0, .ref (a 0)), (1, .ref (a 17)), (2, .int p2), (3, .int p3), (4, .int p4), (5, .int p5)] := hl
  obtain ⟨Q, hQ⟩ : ∃ Q, Q = MQ below (k_Qi D r9 (wX7 cs a S L) (wX7 cs a S L) s.heap.size) ([.ref (a 0), .ref (a 17), .int p2, .int p3, .int p4, .int p5] : List Value).toArray s 0 0 (va_A (wX7 cs a S L) s.heap.size) := ⟨_, rfl⟩
  rw [← hQ]
  have Lo13 : ∀ (n1 : Nat) (x6_13 : Int32) (x7_13 : Int32) (x8_13 : Int32) (x9_13 : Int32) (H : Heap) (locs : List Loc) (ls : Array Slot), k_it (fun st => nX7_comesTo_17_l13 p2 p3 p4 p5 st.1 st.2.1 st.2.2.1 st.2.2.2 S L) n1 (x6_13, x7_13, x8_13, x9_13) = some r9 → lv_has ls 11 [(0, .ref (a 0)), (1, .ref (a 17)), (2, .int p2), (3, .int p3), (4, .int p4), (5, .int p5), (6, .int x6_13), (7, .int x7_13), (8, .int x8_13), (9, .int x9_13)] → va_P D vwCl (wX7 cs a S L) H → va_S A s.heap H locs → W p l e (headSpec wsX7_comesTo ({ frames := 3, cells := 0, slots := 0, locals := 76 })).room s m ([.ref (a 0), .ref (a 17), .int p2, .int p3, .int p4, .int p5] : List Value).toArray below meth c H locs 0 0 Q (F0 m 13 ls []) := by
    intro n1
    induction n1 with
    | zero => intro x6_13 x7_13 x8_13 x9_13 H locs ls hd; exact dn_it0 hd
    | succ n1 ih1 =>
      intro x6_13 x7_13 x8_13 x9_13 H locs ls hd hl hP hS
      have hD := hDA S L
      obtain ⟨y1, hd, hy1⟩ := dn_it hd
      have hd : nX7_comesTo_17_l13 p2 p3 p4 p5 x6_13 x7_13 x8_13 x9_13 S L = some y1 := hd
      have Jo88 : ∀ (x8_88 : Int32) (x9_88 : Int32) (x10_88 : Int32) (w0_88 : Int32) (H : Heap) (locs : List Loc) (ls : Array Slot), nX7_comesTo_17_i13_j88 p2 p3 p4 p5 x8_88 x9_88 x10_88 w0_88 S L = some y1 → lv_has ls 11 [(0, .ref (a 0)), (1, .ref (a 17)), (2, .int p2), (3, .int p3), (4, .int p4), (5, .int p5), (8, .int x8_88), (9, .int x9_88), (10, .int x10_88)] → va_P D vwCl (wX7 cs a S L) H → va_S A s.heap H locs → W p l e (headSpec wsX7_comesTo ({ frames := 3, cells := 0, slots := 0, locals := 76 })).room s m ([.ref (a 0), .ref (a 17), .int p2, .int p3, .int p4, .int p5] : List Value).toArray below meth c H locs 0 0 Q (F0 m 88 ls [.int w0_88]) := by
        intro x8_88 x9_88 x10_88 w0_88 H locs ls hd hl hP hS
        have hD := hDA S L
        unfold nX7_comesTo_17_i13_j88 at hd
        refine lv_istore (lv' := [(6, .int w0_88), (0, .ref (a 0)), (1, .ref (a 17)), (2, .int p2), (3, .int p3), (4, .int p4), (5, .int p5), (8, .int x8_88), (9, .int x9_88), (10, .int x10_88)]) hx hb dX7_comesTo_88 hl (by decide) rfl (fun ls hl => ?_)
        refine lv_iload hx hb dX7_comesTo_90 (lv_at hl 9 rfl) ?_
        refine lv_istore (lv' := [(7, .int x10_88), (6, .int w0_88), (0, .ref (a 0)), (1, .ref (a 17)), (2, .int p2), (3, .int p3), (4, .int p4), (5, .int p5), (8, .int x8_88), (9, .int x9_88), (10, .int x10_88)]) hx hb dX7_comesTo_92 hl (by decide) rfl (fun ls hl => ?_)
        refine lv_iinc (v := x9_88 + (1 : Int32)) (lv' := [(9, .int (x9_88 + (1 : Int32))), (7, .int x10_88), (6, .int w0_88), (0, .ref (a 0)), (1, .ref (a 17)), (2, .int p2), (3, .int p3), (4, .int p4), (5, .int p5), (8, .int x8_88), (10, .int x10_88)]) hx hb dX7_comesTo_94 hl (k := 9) rfl rfl (by decide) rfl (fun ls hl => ?_)
        refine lv_goto (tgt := 13) hx hb dX7_comesTo_97 (by decide) ?_
        exact ih1 w0_88 x10_88 x8_88 (x9_88 + (1 : Int32)) _ _ _ (dn_bk hd hy1) (lv_sub hl [3, 4, 5, 6, 7, 8, 2, 1, 9, 0] rfl) hP hS
      have Jo72 : ∀ (x6_72 : Int32) (x7_72 : Int32) (x9_72 : Int32) (x10_72 : Int32) (w0_72 : Int32) (H : Heap) (locs : List Loc) (ls : Array Slot), nX7_comesTo_17_i13_j72 p2 p3 p4 p5 x6_72 x7_72 x9_72 x10_72 w0_72 S L = some y1 → lv_has ls 11 [(0, .ref (a 0)), (1, .ref (a 17)), (2, .int p2), (3, .int p3), (4, .int p4), (5, .int p5), (6, .int x6_72), (7, .int x7_72), (9, .int x9_72), (10, .int x10_72)] → va_P D vwCl (wX7 cs a S L) H → va_S A s.heap H locs → W p l e (headSpec wsX7_comesTo ({ frames := 3, cells := 0, slots := 0, locals := 76 })).room s m ([.ref (a 0), .ref (a 17), .int p2, .int p3, .int p4, .int p5] : List Value).toArray below meth c H locs 0 0 Q (F0 m 72 ls [.int w0_72]) := by
        intro x6_72 x7_72 x9_72 x10_72 w0_72 H locs ls hd hl hP hS
        have hD := hDA S L
        unfold nX7_comesTo_17_i13_j72 at hd
        refine lv_istore (lv' := [(8, .int w0_72), (0, .ref (a 0)), (1, .ref (a 17)), (2, .int p2), (3, .int p3), (4, .int p4), (5, .int p5), (6, .int x6_72), (7, .int x7_72), (9, .int x9_72), (10, .int x10_72)]) hx hb dX7_comesTo_72 hl (by decide) rfl (fun ls hl => ?_)
        refine lv_iload hx hb dX7_comesTo_74 (lv_at hl 10 rfl) ?_
        refine lv_iload hx hb dX7_comesTo_76 (lv_at hl 8 rfl) ?_
        refine lv_icmp_ge (tgt := 86) hx hb dX7_comesTo_78 (by decide) (fun c78 => ?_) (fun c78 => ?_)
        · have hd := dn_t c78 hd
          refine lv_iload hx hb dX7_comesTo_86 (lv_at hl 7 rfl) ?_
          exact Jo88 w0_72 x9_72 x10_72 x6_72 _ _ _ hd (lv_sub hl [1, 2, 3, 4, 5, 6, 0, 9, 10] rfl) hP hS
        · have hd := dn_f c78 hd
          refine lv_iload hx hb dX7_comesTo_81 (lv_at hl 9 rfl) ?_
          refine lv_goto (tgt := 88) hx hb dX7_comesTo_83 (by decide) ?_
          exact Jo88 w0_72 x9_72 x10_72 x9_72 _ _ _ hd (lv_sub hl [1, 2, 3, 4, 5, 6, 0, 9, 10] rfl) hP hS
      have Jo45 : ∀ (x6_45 : Int32) (x7_45 : Int32) (x8_45 : Int32) (x9_45 : Int32) (w0_45 : Int32) (H : Heap) (locs : List Loc) (ls : Array Slot), nX7_comesTo_17_i13_j45 p2 p3 p4 p5 x6_45 x7_45 x8_45 x9_45 w0_45 S L = some y1 → lv_has ls 11 [(0, .ref (a 0)), (1, .ref (a 17)), (2, .int p2), (3, .int p3), (4, .int p4), (5, .int p5), (6, .int x6_45), (7, .int x7_45), (8, .int x8_45), (9, .int x9_45)] → va_P D vwCl (wX7 cs a S L) H → va_S A s.heap H locs → W p l e (headSpec wsX7_comesTo ({ frames := 3, cells := 0, slots := 0, locals := 76 })).room s m ([.ref (a 0), .ref (a 17), .int p2, .int p3, .int p4, .int p5] : List Value).toArray below meth c H locs 0 0 Q (F0 m 45 ls [.int w0_45]) := by
        intro x6_45 x7_45 x8_45 x9_45 w0_45 H locs ls hd hl hP hS
        have hD := hDA S L
        unfold nX7_comesTo_17_i13_j45 at hd
        refine lv_istore (lv' := [(10, .int w0_45), (0, .ref (a 0)), (1, .ref (a 17)), (2, .int p2), (3, .int p3), (4, .int p4), (5, .int p5), (6, .int x6_45), (7, .int x7_45), (8, .int x8_45), (9, .int x9_45)]) hx hb dX7_comesTo_45 hl (by decide) rfl (fun ls hl => ?_)
        refine lv_iload hx hb dX7_comesTo_47 (lv_at hl 0 rfl) ?_
        refine lv_iconst (v := (-1 : Int32)) hx hb dX7_comesTo_49 (by decide) ?_
        refine lv_icmp_eq (tgt := 94) hx hb dX7_comesTo_50 (by decide) (fun c50 => ?_) (fun c50 => ?_)
        · have hd := dn_t c50 hd
          refine lv_iinc (v := x9_45 + (1 : Int32)) (lv' := [(9, .int (x9_45 + (1 : Int32))), (10, .int w0_45), (0, .ref (a 0)), (1, .ref (a 17)), (2, .int p2), (3, .int p3), (4, .int p4), (5, .int p5), (6, .int x6_45), (7, .int x7_45), (8, .int x8_45)]) hx hb dX7_comesTo_94 hl (k := 10) rfl rfl (by decide) rfl (fun ls hl => ?_)
          refine lv_goto (tgt := 13) hx hb dX7_comesTo_97 (by decide) ?_
          exact ih1 x6_45 x7_45 x8_45 (x9_45 + (1 : Int32)) _ _ _ (dn_bk hd hy1) (lv_sub hl [2, 3, 4, 5, 6, 7, 8, 9, 10, 0] rfl) hP hS
        · have hd := dn_f c50 hd
          refine lv_iload hx hb dX7_comesTo_53 (lv_at hl 0 rfl) ?_
          refine lv_iload hx hb dX7_comesTo_55 (lv_at hl 8 rfl) ?_
          refine lv_icmp_gt (tgt := 94) hx hb dX7_comesTo_57 (by decide) (fun c57 => ?_) (fun c57 => ?_)
          · have hd := dn_t c57 hd
            refine lv_iinc (v := x9_45 + (1 : Int32)) (lv' := [(9, .int (x9_45 + (1 : Int32))), (10, .int w0_45), (0, .ref (a 0)), (1, .ref (a 17)), (2, .int p2), (3, .int p3), (4, .int p4), (5, .int p5), (6, .int x6_45), (7, .int x7_45), (8, .int x8_45)]) hx hb dX7_comesTo_94 hl (k := 10) rfl rfl (by decide) rfl (fun ls hl => ?_)
            refine lv_goto (tgt := 13) hx hb dX7_comesTo_97 (by decide) ?_
            exact ih1 x6_45 x7_45 x8_45 (x9_45 + (1 : Int32)) _ _ _ (dn_bk hd hy1) (lv_sub hl [2, 3, 4, 5, 6, 7, 8, 9, 10, 0] rfl) hP hS
          · have hd := dn_f c57 hd
            refine lv_iload hx hb dX7_comesTo_60 (lv_at hl 0 rfl) ?_
            refine lv_iload hx hb dX7_comesTo_62 (lv_at hl 8 rfl) ?_
            refine lv_icmp_ne (tgt := 71) hx hb dX7_comesTo_64 (by decide) (fun c64 => ?_) (fun c64 => ?_)
            · have hd := dn_f c64 hd
              refine lv_iconst (v := (0 : Int32)) hx hb dX7_comesTo_71 (by decide) ?_
              exact Jo72 x6_45 x7_45 x9_45 w0_45 (0 : Int32) _ _ _ hd (lv_sub hl [1, 2, 3, 4, 5, 6, 7, 8, 10, 0] rfl) hP hS
            · have hd := dn_t c64 hd
              refine lv_iconst (v := (1 : Int32)) hx hb dX7_comesTo_67 (by decide) ?_
              refine lv_goto (tgt := 72) hx hb dX7_comesTo_68 (by decide) ?_
              exact Jo72 x6_45 x7_45 x9_45 w0_45 (1 : Int32) _ _ _ hd (lv_sub hl [1, 2, 3, 4, 5, 6, 7, 8, 10, 0] rfl) hP hS
      unfold nX7_comesTo_17_l13 at hd
      refine lv_iload hx hb dX7_comesTo_13 (lv_at hl 9 rfl) ?_
      refine lv_aload_n hx hb dX7_comesTo_15 rfl (lv_at hl 1 rfl) ?_
      refine lv_iconst (v := (0 : Int32)) hx hb dX7_comesTo_16 (by decide) ?_
      refine k_iald (D := D) (k := 0) (by rfl) hx hb hK hP 17 1 rfl rfl (k_in (by decide)) dX7_comesTo_17 ?_
      refine lv_icmp_ge (tgt := 100) hx hb dX7_comesTo_18 (by decide) (fun c18 => ?_) (fun c18 => ?_)
      · have hd := dn_t c18 hd
        have hd := dn_up hd hy1
        refine lv_iload hx hb dX7_comesTo_100 (lv_at hl 8 rfl) ?_
        refine lv_if_eq (tgt := 114) hx hb dX7_comesTo_102 (by decide) (fun c102 => ?_) (fun c102 => ?_)
        · have hd := dn_t c102 hd
          refine lv_iload hx hb dX7_comesTo_114 (lv_at hl 6 rfl) ?_
          have e1 := dn_s1 hd
          exact k_iret hx hb hr hQ hAe e1 rfl hP hS hlocks dX7_comesTo_116
        · have hd := dn_f c102 hd
          refine lv_iload_n hx hb dX7_comesTo_105 rfl (lv_at hl 2 rfl) ?_
          refine lv_iconst (v := (4 : Int32)) hx hb dX7_comesTo_106 (by decide) ?_
          refine lv_icmp_eq (tgt := 114) hx hb dX7_comesTo_107 (by decide) (fun c107 => ?_) (fun c107 => ?_)
          · have hd := dn_t c107 hd
            refine lv_iload hx hb dX7_comesTo_114 (lv_at hl 6 rfl) ?_
            have e1 := dn_s1 hd
            exact k_iret hx hb hr hQ hAe e1 rfl hP hS hlocks dX7_comesTo_116
          · have hd := dn_f c107 hd
            refine lv_iconst (v := (-1 : Int32)) hx hb dX7_comesTo_110 (by decide) ?_
            refine lv_goto (tgt := 116) hx hb dX7_comesTo_111 (by decide) ?_
            have e1 := dn_s1 hd
            exact k_iret hx hb hr hQ hAe e1 rfl hP hS hlocks dX7_comesTo_116
      · have hd := dn_f c18 hd
        refine lv_iload hx hb dX7_comesTo_21 (lv_at hl 9 rfl) ?_
        refine lv_iload hx hb dX7_comesTo_23 (lv_at hl 5 rfl) ?_
        refine lv_icmp_ne (tgt := 32) hx hb dX7_comesTo_25 (by decide) (fun c25 => ?_) (fun c25 => ?_)
        · have hd := dn_f c25 hd
          refine lv_aload_n hx hb dX7_comesTo_32 rfl (lv_at hl 0 rfl) ?_
          refine lv_aload_n hx hb dX7_comesTo_33 rfl (lv_at hl 1 rfl) ?_
          refine lv_iload_n hx hb dX7_comesTo_34 rfl (lv_at hl 2 rfl) ?_
          refine lv_iload_n hx hb dX7_comesTo_35 rfl (lv_at hl 3 rfl) ?_
          refine lv_iload hx hb dX7_comesTo_36 (lv_at hl 4 rfl) ?_
          refine lv_iload hx hb dX7_comesTo_38 (lv_at hl 5 rfl) ?_
          refine lv_iload hx hb dX7_comesTo_40 (lv_at hl 9 rfl) ?_
          obtain ⟨r42, hq42, hd⟩ := dn_b1 hd
          have hF := k_self hD hS hA
          refine k_run_i (va_runV (As := [.ref (a 17), .int p2, .int p3, .int p4, .int p5, .int x9_13]) (rest := []) ⟨hx, hb, hml, hown, hts⟩ (mX7_countsOn_17 l D cs a S L p2 p3 p4 p5 x9_13 r42 hq42 _) (cwV 6 hts gX7_comesTo_X7_countsOn rfl rfl rfl (by decide +kernel) ⟨Nat.le_of_ble_eq_true rfl, Nat.le_of_ble_eq_true rfl⟩) ⟨k_blind, va_recv hK hP (ci := 5) (q0 := 0) rfl rfl, k_pre hP hK hNn hD⟩ rfl rfl hl.1 rfl (lv_room (Nat.le_of_ble_eq_true rfl)) dX7_comesTo_42 ⟨Nat.le_of_ble_eq_true rfl, Nat.le_of_ble_eq_true rfl⟩) hS hF (fun H locs hP1 hk hS => ?_)
          have hP : va_P D vwCl (wX7 cs a S L) _ := hP1
          have hD := hDA S L
          exact Jo45 x6_13 x7_13 x8_13 x9_13 r42 _ _ _ hd (lv_sub hl [0, 1, 2, 3, 4, 5, 6, 7, 8, 9] rfl) hP hS
        · have hd := dn_t c25 hd
          refine lv_iconst (v := (-1 : Int32)) hx hb dX7_comesTo_28 (by decide) ?_
          refine lv_goto (tgt := 45) hx hb dX7_comesTo_29 (by decide) ?_
          exact Jo45 x6_13 x7_13 x8_13 x9_13 (-1 : Int32) _ _ _ hd (lv_sub hl [0, 1, 2, 3, 4, 5, 6, 7, 8, 9] rfl) hP hS
  unfold nX7_comesTo_17 at hd
  refine lv_iconst (v := (-1 : Int32)) hx hb dX7_comesTo_0 (by decide) ?_
  refine lv_istore (lv' := [(6, .int (-1 : Int32)), (0, .ref (a 0)), (1, .ref (a 17)), (2, .int p2), (3, .int p3), (4, .int p4), (5, .int p5)]) hx hb dX7_comesTo_1 hl (by decide) rfl (fun ls hl => ?_)
  refine lv_ldc (v := (1000000 : Int32)) hx hb hown (hts (.constant RX7 134 (1000000)) (List.mem_of_getElem? (i := 1) rfl)) dX7_comesTo_3 ?_
  refine lv_istore (lv' := [(7, .int (1000000 : Int32)), (6, .int (-1 : Int32)), (0, .ref (a 0)), (1, .ref (a 17)), (2, .int p2), (3, .int p3), (4, .int p4), (5, .int p5)]) hx hb dX7_comesTo_5 hl (by decide) rfl (fun ls hl => ?_)
  refine lv_iconst (v := (0 : Int32)) hx hb dX7_comesTo_7 (by decide) ?_
  refine lv_istore (lv' := [(8, .int (0 : Int32)), (7, .int (1000000 : Int32)), (6, .int (-1 : Int32)), (0, .ref (a 0)), (1, .ref (a 17)), (2, .int p2), (3, .int p3), (4, .int p4), (5, .int p5)]) hx hb dX7_comesTo_8 hl (by decide) rfl (fun ls hl => ?_)
  refine lv_iconst (v := (0 : Int32)) hx hb dX7_comesTo_10 (by decide) ?_
  refine lv_istore (lv' := [(9, .int (0 : Int32)), (8, .int (0 : Int32)), (7, .int (1000000 : Int32)), (6, .int (-1 : Int32)), (0, .ref (a 0)), (1, .ref (a 17)), (2, .int p2), (3, .int p3), (4, .int p4), (5, .int p5)]) hx hb dX7_comesTo_11 hl (by decide) rfl (fun ls hl => ?_)
  exact Lo13 1000 (-1 : Int32) (1000000 : Int32) (0 : Int32) (0 : Int32) _ _ _ hd (lv_sub hl [4, 5, 6, 7, 8, 9, 3, 2, 1, 0] rfl) hP hS
-- LeastNeedModel.goDay([II)V
set_option maxRecDepth 20000 in
def nX7_goDay_17_i7_j64 (p2 : Int32) (x3_64 : Int32) (x4_64 : Int32) (w0_64 : Int32) (w1_64 : Int32) (S_64 : Nat → Nat → Int32) (L : Nat → Nat → Int64) : Option ((Int32 × (Nat → Nat → Int32)) ⊕ ((Nat → Nat → Int32))) := if w1_64 < 0 ∨ 140 ≤ w1_64.toNatClampNeg then none else if x4_64 = (-1 : Int32) then if ((5 : Int32) + x3_64) < 0 ∨ 140 ≤ ((5 : Int32) + x3_64).toNatClampNeg then none else if ((5 : Int32) + x3_64) < 0 ∨ 140 ≤ ((5 : Int32) + x3_64).toNatClampNeg then none else some (.inl ((x3_64 + (1 : Int32)), (k_w (k_w S_64 17 w1_64.toNatClampNeg w0_64) 17 (((5 : Int32) + x3_64).toNatClampNeg) ((k_w S_64 17 w1_64.toNatClampNeg w0_64) 17 ((5 : Int32) + x3_64).toNatClampNeg)))) else if ((5 : Int32) + x3_64) < 0 ∨ 140 ≤ ((5 : Int32) + x3_64).toNatClampNeg then none else some (.inl ((x3_64 + (1 : Int32)), (k_w (k_w S_64 17 w1_64.toNatClampNeg w0_64) 17 (((5 : Int32) + x3_64).toNatClampNeg) x4_64)))
set_option maxRecDepth 20000 in
def nX7_goDay_17_l7 (p2 : Int32) (x3_7 : Int32) (S_7 : Nat → Nat → Int32) (L : Nat → Nat → Int64) : Option ((Int32 × (Nat → Nat → Int32)) ⊕ ((Nat → Nat → Int32))) := if (S_7 17 1) ≤ x3_7 then k_up (some S_7) else if ((10 : Int32) + x3_7) < 0 ∨ 140 ≤ ((10 : Int32) + x3_7).toNatClampNeg then none else if (S_7 17 ((10 : Int32) + x3_7).toNatClampNeg) = 0 then some (.inl ((x3_7 + (1 : Int32)), S_7)) else if ((65 : Int32) + x3_7) < 0 ∨ 140 ≤ ((65 : Int32) + x3_7).toNatClampNeg then none else if ((70 : Int32) + x3_7) < 0 ∨ 140 ≤ ((70 : Int32) + x3_7).toNatClampNeg then none else if ((5 : Int32) + x3_7) < 0 ∨ 140 ≤ ((5 : Int32) + x3_7).toNatClampNeg then none else k_b1 (nX7_comesTo_17 S_7 L (S_7 17 ((65 : Int32) + x3_7).toNatClampNeg) (S_7 17 ((70 : Int32) + x3_7).toNatClampNeg) p2 (S_7 17 ((5 : Int32) + x3_7).toNatClampNeg)) (fun r43 => if r43 = (-1 : Int32) then nX7_goDay_17_i7_j64 p2 x3_7 r43 (2 : Int32) ((10 : Int32) + x3_7) S_7 L else nX7_goDay_17_i7_j64 p2 x3_7 r43 (0 : Int32) ((10 : Int32) + x3_7) S_7 L)
set_option maxRecDepth 20000 in
def nX7_goDay_17 (S : Nat → Nat → Int32) (L : Nat → Nat → Int64) (p2 : Int32) : Option ((Nat → Nat → Int32)) := k_b1 (nX7_layCoats_17 S L) (fun S2 => k_it (fun st => nX7_goDay_17_l7 p2 st.1 st.2 L) 1000 ((0 : Int32), S2))
set_option maxHeartbeats 4000000 in
set_option maxRecDepth 100000 in
theorem mX7_goDay_17 (l : Launch) (D : va_G) (cs : Nat → ClassId) (a : Nat → Nat) (S : Nat → Nat → Int32) (L : Nat → Nat → Int64) (p2 : Int32) (S9 : (Nat → Nat → Int32)) (hd : nX7_goDay_17 S L p2 = some S9) : ∀ sz : Nat, Met l yX7_goDay wsX7_goDay ({ frames := 4, cells := 0, slots := 0, locals := 106 }) (k_Pc D cs [.ref (a 0), .ref (a 17), .int p2] (wX7 cs a S L) sz) (k_Qv D (wX7 cs a S L) (wX7 cs a S9 L) sz) 0 0 (va_A (wX7 cs a S L) sz) := by
  intro sz
  refine Met.ofW (cc := cX7_goDay) (maxL := 5) (ret := none) (by decide) rfl ?_
  intro p e s m args below meth c s₁ B hml hv
  obtain ⟨rfl, hsz, hP, hK, hD0, hNn⟩ := hv
  have hx := B.exec
  have hb := B.bytes
  have hr := B.returns
  have hts := atoms_spec (ws := wsX7_goDay) B.pre
  have hown : s.vm.findClass RX7 = some m.cls := findClass_of_methodNamed B.named
  have hlocks := B.notSynchronized
  subst hsz
  obtain ⟨A, hAe⟩ : ∃ A : Nat → Prop, A = va_A (wX7 cs a S L) s.heap.size := ⟨_, rfl⟩
  have hD : va_D A (wX7 cs a S L) := by rw [hAe]; exact hD0.self
  have hA : ∀ q : Nat, s.heap.size ≤ q → A q := fun q h => by rw [hAe]; exact Or.inr h
  have hS : va_S A s.heap s.heap [] := va_S.rf
  have hDA : ∀ (S : Nat → Nat → Int32) (L : Nat → Nat → Int64), va_D A (wX7 cs a S L) := fun S L => k_DA hD rfl
  have hl := lv_entry ([.ref (a 0), .ref (a 17), .int p2]) (n := 5) (Nat.le_of_ble_eq_true rfl)
  rw [lg_entry_eq]
  generalize (lg_sl ([.ref (a 0), .ref (a 17), .int p2]) ++ List.replicate (5 - (lg_sl ([.ref (a 0), .ref (a 17), .int p2])).length) Slot.unset).toArray = ls at hl ⊢
  have hl : lv_has ls 5 [(0, .ref (a 0)), (1, .ref (a 17)), (2, .int p2)] := hl
  obtain ⟨Q, hQ⟩ : ∃ Q, Q = MQ below (k_Qv D (wX7 cs a S L) (wX7 cs a S9 L) s.heap.size) ([.ref (a 0), .ref (a 17), .int p2] : List Value).toArray s 0 0 (va_A (wX7 cs a S L) s.heap.size) := ⟨_, rfl⟩
  rw [← hQ]
  have Lo7 : ∀ (n1 : Nat) (x3_7 : Int32) (S_7 : Nat → Nat → Int32) (H : Heap) (locs : List Loc) (ls : Array Slot), k_it (fun st => nX7_goDay_17_l7 p2 st.1 st.2 L) n1 (x3_7, S_7) = some S9 → lv_has ls 5 [(0, .ref (a 0)), (1, .ref (a 17)), (2, .int p2), (3, .int x3_7)] → va_P D vwCl (wX7 cs a S_7 L) H → va_S A s.heap H locs → W p l e (headSpec wsX7_goDay ({ frames := 4, cells := 0, slots := 0, locals := 106 })).room s m ([.ref (a 0), .ref (a 17), .int p2] : List Value).toArray below meth c H locs 0 0 Q (F0 m 7 ls []) := by
    intro n1
    induction n1 with
    | zero => intro x3_7 S_7 H locs ls hd; exact dn_it0 hd
    | succ n1 ih1 =>
      intro x3_7 S_7 H locs ls hd hl hP hS
      have hD := hDA S_7 L
      obtain ⟨y1, hd, hy1⟩ := dn_it hd
      have hd : nX7_goDay_17_l7 p2 x3_7 S_7 L = some y1 := hd
      have Jo64 : ∀ (x3_64 : Int32) (x4_64 : Int32) (w0_64 : Int32) (w1_64 : Int32) (S_64 : Nat → Nat → Int32) (H : Heap) (locs : List Loc) (ls : Array Slot), nX7_goDay_17_i7_j64 p2 x3_64 x4_64 w0_64 w1_64 S_64 L = some y1 → lv_has ls 5 [(0, .ref (a 0)), (1, .ref (a 17)), (2, .int p2), (3, .int x3_64), (4, .int x4_64)] → va_P D vwCl (wX7 cs a S_64 L) H → va_S A s.heap H locs → W p l e (headSpec wsX7_goDay ({ frames := 4, cells := 0, slots := 0, locals := 106 })).room s m ([.ref (a 0), .ref (a 17), .int p2] : List Value).toArray below meth c H locs 0 0 Q (F0 m 64 ls [.int w0_64, .int w1_64, .ref (a 17)]) := by
        intro x3_64 x4_64 w0_64 w1_64 S_64 H locs ls hd hl hP hS
        have hD := hDA S_64 L
        unfold nX7_goDay_17_i7_j64 at hd
        obtain ⟨hi64, hd⟩ := dn_i hd
        refine k_iast (D := D) (k := w1_64.toNatClampNeg) (by rfl) hx hb hK hP hD hS 17 1 rfl rfl hi64 dX7_goDay_64 (fun H locs hP hD hS => ?_)
        have hP : va_P D vwCl (wX7 cs a (k_w S_64 17 w1_64.toNatClampNeg w0_64) L) _ := k_eq hP (wsX7_a17 cs a S_64 L w1_64.toNatClampNeg w0_64)
        have hD := hDA (k_w S_64 17 w1_64.toNatClampNeg w0_64) L
        refine lv_aload_n hx hb dX7_goDay_65 rfl (lv_at hl 1 rfl) ?_
        refine lv_iconst (v := (5 : Int32)) hx hb dX7_goDay_66 (by decide) ?_
        refine lv_iload_n hx hb dX7_goDay_67 rfl (lv_at hl 3 rfl) ?_
        refine lv_iadd hx hb dX7_goDay_68 ?_
        refine lv_iload hx hb dX7_goDay_69 (lv_at hl 4 rfl) ?_
        refine lv_iconst (v := (-1 : Int32)) hx hb dX7_goDay_71 (by decide) ?_
        refine lv_icmp_ne (tgt := 83) hx hb dX7_goDay_72 (by decide) (fun c72 => ?_) (fun c72 => ?_)
        · have hd := dn_f c72 hd
          refine lv_iload hx hb dX7_goDay_83 (lv_at hl 4 rfl) ?_
          obtain ⟨hi85, hd⟩ := dn_i hd
          refine k_iast (D := D) (k := ((5 : Int32) + x3_64).toNatClampNeg) (by rfl) hx hb hK hP hD hS 17 1 rfl rfl hi85 dX7_goDay_85 (fun H locs hP hD hS => ?_)
          have hP : va_P D vwCl (wX7 cs a (k_w (k_w S_64 17 w1_64.toNatClampNeg w0_64) 17 (((5 : Int32) + x3_64).toNatClampNeg) x4_64) L) _ := k_eq hP (wsX7_a17 cs a (k_w S_64 17 w1_64.toNatClampNeg w0_64) L (((5 : Int32) + x3_64).toNatClampNeg) x4_64)
          have hD := hDA (k_w (k_w S_64 17 w1_64.toNatClampNeg w0_64) 17 (((5 : Int32) + x3_64).toNatClampNeg) x4_64) L
          refine lv_iinc (v := x3_64 + (1 : Int32)) (lv' := [(3, .int (x3_64 + (1 : Int32))), (0, .ref (a 0)), (1, .ref (a 17)), (2, .int p2), (4, .int x4_64)]) hx hb dX7_goDay_86 hl (k := 3) rfl rfl (by decide) rfl (fun ls hl => ?_)
          refine lv_goto (tgt := 7) hx hb dX7_goDay_89 (by decide) ?_
          exact ih1 (x3_64 + (1 : Int32)) (k_w (k_w S_64 17 w1_64.toNatClampNeg w0_64) 17 (((5 : Int32) + x3_64).toNatClampNeg) x4_64) _ _ _ (dn_bk hd hy1) (lv_sub hl [1, 2, 3, 0] rfl) hP hS
        · have hd := dn_t c72 hd
          refine lv_aload_n hx hb dX7_goDay_75 rfl (lv_at hl 1 rfl) ?_
          refine lv_iconst (v := (5 : Int32)) hx hb dX7_goDay_76 (by decide) ?_
          refine lv_iload_n hx hb dX7_goDay_77 rfl (lv_at hl 3 rfl) ?_
          refine lv_iadd hx hb dX7_goDay_78 ?_
          obtain ⟨hi79, hd⟩ := dn_i hd
          refine k_iald (D := D) (k := ((5 : Int32) + x3_64).toNatClampNeg) (by rfl) hx hb hK hP 17 1 rfl rfl hi79 dX7_goDay_79 ?_
          refine lv_goto (tgt := 85) hx hb dX7_goDay_80 (by decide) ?_
          obtain ⟨hi85, hd⟩ := dn_i hd
          refine k_iast (D := D) (k := ((5 : Int32) + x3_64).toNatClampNeg) (by rfl) hx hb hK hP hD hS 17 1 rfl rfl hi85 dX7_goDay_85 (fun H locs hP hD hS => ?_)
          have hP : va_P D vwCl (wX7 cs a (k_w (k_w S_64 17 w1_64.toNatClampNeg w0_64) 17 (((5 : Int32) + x3_64).toNatClampNeg) ((k_w S_64 17 w1_64.toNatClampNeg w0_64) 17 ((5 : Int32) + x3_64).toNatClampNeg)) L) _ := k_eq hP (wsX7_a17 cs a (k_w S_64 17 w1_64.toNatClampNeg w0_64) L (((5 : Int32) + x3_64).toNatClampNeg) ((k_w S_64 17 w1_64.toNatClampNeg w0_64) 17 ((5 : Int32) + x3_64).toNatClampNeg))
          have hD := hDA (k_w (k_w S_64 17 w1_64.toNatClampNeg w0_64) 17 (((5 : Int32) + x3_64).toNatClampNeg) ((k_w S_64 17 w1_64.toNatClampNeg w0_64) 17 ((5 : Int32) + x3_64).toNatClampNeg)) L
          refine lv_iinc (v := x3_64 + (1 : Int32)) (lv' := [(3, .int (x3_64 + (1 : Int32))), (0, .ref (a 0)), (1, .ref (a 17)), (2, .int p2), (4, .int x4_64)]) hx hb dX7_goDay_86 hl (k := 3) rfl rfl (by decide) rfl (fun ls hl => ?_)
          refine lv_goto (tgt := 7) hx hb dX7_goDay_89 (by decide) ?_
          exact ih1 (x3_64 + (1 : Int32)) (k_w (k_w S_64 17 w1_64.toNatClampNeg w0_64) 17 (((5 : Int32) + x3_64).toNatClampNeg) ((k_w S_64 17 w1_64.toNatClampNeg w0_64) 17 ((5 : Int32) + x3_64).toNatClampNeg)) _ _ _ (dn_bk hd hy1) (lv_sub hl [1, 2, 3, 0] rfl) hP hS
      unfold nX7_goDay_17_l7 at hd
      refine lv_iload_n hx hb dX7_goDay_7 rfl (lv_at hl 3 rfl) ?_
      refine lv_aload_n hx hb dX7_goDay_8 rfl (lv_at hl 1 rfl) ?_
      refine lv_iconst (v := (1 : Int32)) hx hb dX7_goDay_9 (by decide) ?_
      refine k_iald (D := D) (k := 1) (by rfl) hx hb hK hP 17 1 rfl rfl (k_in (by decide)) dX7_goDay_10 ?_
      refine lv_icmp_ge (tgt := 92) hx hb dX7_goDay_11 (by decide) (fun c11 => ?_) (fun c11 => ?_)
      · have hd := dn_t c11 hd
        have hd := dn_up hd hy1
        have e1 := dn_s1 hd
        exact k_vret hx hb hr hQ hAe (by rw [e1]) hP hS hlocks dX7_goDay_92
      · have hd := dn_f c11 hd
        refine lv_aload_n hx hb dX7_goDay_14 rfl (lv_at hl 1 rfl) ?_
        refine lv_bipush (v := (10 : Int32)) hx hb dX7_goDay_15 (by decide) ?_
        refine lv_iload_n hx hb dX7_goDay_17 rfl (lv_at hl 3 rfl) ?_
        refine lv_iadd hx hb dX7_goDay_18 ?_
        obtain ⟨hi19, hd⟩ := dn_i hd
        refine k_iald (D := D) (k := ((10 : Int32) + x3_7).toNatClampNeg) (by rfl) hx hb hK hP 17 1 rfl rfl hi19 dX7_goDay_19 ?_
        refine lv_if_eq (tgt := 86) hx hb dX7_goDay_20 (by decide) (fun c20 => ?_) (fun c20 => ?_)
        · have hd := dn_t c20 hd
          refine lv_iinc (v := x3_7 + (1 : Int32)) (lv' := [(3, .int (x3_7 + (1 : Int32))), (0, .ref (a 0)), (1, .ref (a 17)), (2, .int p2)]) hx hb dX7_goDay_86 hl (k := 3) rfl rfl (by decide) rfl (fun ls hl => ?_)
          refine lv_goto (tgt := 7) hx hb dX7_goDay_89 (by decide) ?_
          exact ih1 (x3_7 + (1 : Int32)) S_7 _ _ _ (dn_bk hd hy1) (lv_sub hl [1, 2, 3, 0] rfl) hP hS
        · have hd := dn_f c20 hd
          refine lv_aload_n hx hb dX7_goDay_23 rfl (lv_at hl 0 rfl) ?_
          refine lv_aload_n hx hb dX7_goDay_24 rfl (lv_at hl 1 rfl) ?_
          refine lv_aload_n hx hb dX7_goDay_25 rfl (lv_at hl 1 rfl) ?_
          refine lv_bipush (v := (65 : Int32)) hx hb dX7_goDay_26 (by decide) ?_
          refine lv_iload_n hx hb dX7_goDay_28 rfl (lv_at hl 3 rfl) ?_
          refine lv_iadd hx hb dX7_goDay_29 ?_
          obtain ⟨hi30, hd⟩ := dn_i hd
          refine k_iald (D := D) (k := ((65 : Int32) + x3_7).toNatClampNeg) (by rfl) hx hb hK hP 17 1 rfl rfl hi30 dX7_goDay_30 ?_
          refine lv_aload_n hx hb dX7_goDay_31 rfl (lv_at hl 1 rfl) ?_
          refine lv_bipush (v := (70 : Int32)) hx hb dX7_goDay_32 (by decide) ?_
          refine lv_iload_n hx hb dX7_goDay_34 rfl (lv_at hl 3 rfl) ?_
          refine lv_iadd hx hb dX7_goDay_35 ?_
          obtain ⟨hi36, hd⟩ := dn_i hd
          refine k_iald (D := D) (k := ((70 : Int32) + x3_7).toNatClampNeg) (by rfl) hx hb hK hP 17 1 rfl rfl hi36 dX7_goDay_36 ?_
          refine lv_iload_n hx hb dX7_goDay_37 rfl (lv_at hl 2 rfl) ?_
          refine lv_aload_n hx hb dX7_goDay_38 rfl (lv_at hl 1 rfl) ?_
          refine lv_iconst (v := (5 : Int32)) hx hb dX7_goDay_39 (by decide) ?_
          refine lv_iload_n hx hb dX7_goDay_40 rfl (lv_at hl 3 rfl) ?_
          refine lv_iadd hx hb dX7_goDay_41 ?_
          obtain ⟨hi42, hd⟩ := dn_i hd
          refine k_iald (D := D) (k := ((5 : Int32) + x3_7).toNatClampNeg) (by rfl) hx hb hK hP 17 1 rfl rfl hi42 dX7_goDay_42 ?_
          obtain ⟨r43, hq43, hd⟩ := dn_b1 hd
          have hF := k_self hD hS hA
          refine k_run_i (va_runV (As := [.ref (a 17), .int (S_7 17 ((65 : Int32) + x3_7).toNatClampNeg), .int (S_7 17 ((70 : Int32) + x3_7).toNatClampNeg), .int p2, .int (S_7 17 ((5 : Int32) + x3_7).toNatClampNeg)]) (rest := []) ⟨hx, hb, hml, hown, hts⟩ (mX7_comesTo_17 l D cs a S_7 L (S_7 17 ((65 : Int32) + x3_7).toNatClampNeg) (S_7 17 ((70 : Int32) + x3_7).toNatClampNeg) p2 (S_7 17 ((5 : Int32) + x3_7).toNatClampNeg) r43 hq43 _) (cwV 5 hts gX7_goDay_X7_comesTo rfl rfl rfl (by decide +kernel) ⟨Nat.le_of_ble_eq_true rfl, Nat.le_of_ble_eq_true rfl⟩) ⟨k_blind, va_recv hK hP (ci := 5) (q0 := 0) rfl rfl, k_pre hP hK hNn hD⟩ rfl rfl hl.1 rfl (lv_room (Nat.le_of_ble_eq_true rfl)) dX7_goDay_43 ⟨Nat.le_of_ble_eq_true rfl, Nat.le_of_ble_eq_true rfl⟩) hS hF (fun H locs hP1 hk hS => ?_)
          have hP : va_P D vwCl (wX7 cs a S_7 L) _ := hP1
          have hD := hDA S_7 L
          refine lv_istore (lv' := [(4, .int r43), (0, .ref (a 0)), (1, .ref (a 17)), (2, .int p2), (3, .int x3_7)]) hx hb dX7_goDay_46 hl (by decide) rfl (fun ls hl => ?_)
          refine lv_aload_n hx hb dX7_goDay_48 rfl (lv_at hl 2 rfl) ?_
          refine lv_bipush (v := (10 : Int32)) hx hb dX7_goDay_49 (by decide) ?_
          refine lv_iload_n hx hb dX7_goDay_51 rfl (lv_at hl 4 rfl) ?_
          refine lv_iadd hx hb dX7_goDay_52 ?_
          refine lv_iload hx hb dX7_goDay_53 (lv_at hl 0 rfl) ?_
          refine lv_iconst (v := (-1 : Int32)) hx hb dX7_goDay_55 (by decide) ?_
          refine lv_icmp_ne (tgt := 63) hx hb dX7_goDay_56 (by decide) (fun c56 => ?_) (fun c56 => ?_)
          · have hd := dn_f c56 hd
            refine lv_iconst (v := (0 : Int32)) hx hb dX7_goDay_63 (by decide) ?_
            exact Jo64 x3_7 r43 (0 : Int32) ((10 : Int32) + x3_7) S_7 _ _ _ hd (lv_sub hl [1, 2, 3, 4, 0] rfl) hP hS
          · have hd := dn_t c56 hd
            refine lv_iconst (v := (2 : Int32)) hx hb dX7_goDay_59 (by decide) ?_
            refine lv_goto (tgt := 64) hx hb dX7_goDay_60 (by decide) ?_
            exact Jo64 x3_7 r43 (2 : Int32) ((10 : Int32) + x3_7) S_7 _ _ _ hd (lv_sub hl [1, 2, 3, 4, 0] rfl) hP hS
  unfold nX7_goDay_17 at hd
  refine lv_aload_n hx hb dX7_goDay_0 rfl (lv_at hl 0 rfl) ?_
  refine lv_aload_n hx hb dX7_goDay_1 rfl (lv_at hl 1 rfl) ?_
  obtain ⟨S2, hq2, hd⟩ := dn_b1 hd
  have hF := k_self hD hS hA
  refine k_run_v (va_runV (As := [.ref (a 17)]) (rest := []) ⟨hx, hb, hml, hown, hts⟩ (mX7_layCoats_17 l D cs a S L S2 hq2 _) (cwV 1 hts gX7_goDay_X7_layCoats rfl rfl rfl (by decide +kernel) ⟨Nat.le_of_ble_eq_true rfl, Nat.le_of_ble_eq_true rfl⟩) ⟨k_blind, va_recv hK hP (ci := 5) (q0 := 0) rfl rfl, k_pre hP hK hNn hD⟩ rfl rfl hl.1 rfl (lv_room (Nat.le_of_ble_eq_true rfl)) dX7_goDay_2 ⟨Nat.le_of_ble_eq_true rfl, Nat.le_of_ble_eq_true rfl⟩) hS hF (fun H locs hP1 hk hS => ?_)
  have hP : va_P D vwCl (wX7 cs a S2 L) _ := hP1
  have hD := hDA S2 L
  refine lv_iconst (v := (0 : Int32)) hx hb dX7_goDay_5 (by decide) ?_
  refine lv_istore_n (lv' := [(3, .int (0 : Int32)), (0, .ref (a 0)), (1, .ref (a 17)), (2, .int p2)]) hx hb dX7_goDay_6 rfl hl (by decide) rfl (fun ls hl => ?_)
  exact Lo7 1000 (0 : Int32) S2 _ _ _ hd (lv_sub hl [1, 2, 3, 0] rfl) hP hS
-- LeastNeedModel.takesDays()Z
set_option maxRecDepth 20000 in
def nX7_takesDays_l19 (x1_19 : Int32) (S_19 : Nat → Nat → Int32) (L : Nat → Nat → Int64) : Option ((Int32 × (Nat → Nat → Int32)) ⊕ (Int32 × (Nat → Nat → Int32))) := if (S_19 18 0) ≤ x1_19 then k_up (some ((1 : Int32), S_19)) else k_b1 (nX7_goDay_17 S_19 L (S_19 17 22)) (fun S41 => some (.inl ((x1_19 + (1 : Int32)), (k_w S41 17 22 ((S41 17 22) + (1 : Int32))))))
set_option maxRecDepth 20000 in
def nX7_takesDays (S : Nat → Nat → Int32) (L : Nat → Nat → Int64) : Option (Int32 × (Nat → Nat → Int32)) := k_b1 (nX7_goBehind S L) (fun S1 => k_b2 (nX7_takes S1 L (0 : Int32) (1 : Int32) (99 : Int32)) (fun r9 S9 => if r9 = 0 then some ((0 : Int32), S9) else k_it (fun st => nX7_takesDays_l19 st.1 st.2 L) 1000 ((0 : Int32), S9)))
set_option maxHeartbeats 4000000 in
set_option maxRecDepth 100000 in
theorem mX7_takesDays (l : Launch) (D : va_G) (cs : Nat → ClassId) (a : Nat → Nat) (S : Nat → Nat → Int32) (L : Nat → Nat → Int64) (r9 : Int32) (S9 : (Nat → Nat → Int32)) (hd : nX7_takesDays S L = some (r9, S9)) : ∀ sz : Nat, Met l yX7_takesDays wsX7_takesDays ({ frames := 5, cells := 0, slots := 0, locals := 130 }) (k_Pc D cs [.ref (a 0)] (wX7 cs a S L) sz) (k_Qi D r9 (wX7 cs a S L) (wX7 cs a S9 L) sz) 0 0 (va_A (wX7 cs a S L) sz) := by
  intro sz
  refine Met.ofW (cc := cX7_takesDays) (maxL := 2) (ret := (some .boolean)) (by decide) rfl ?_
  intro p e s m args below meth c s₁ B hml hv
  obtain ⟨rfl, hsz, hP, hK, hD0, hNn⟩ := hv
  have hx := B.exec
  have hb := B.bytes
  have hr := B.returns
  have hts := atoms_spec (ws := wsX7_takesDays) B.pre
  have hown : s.vm.findClass RX7 = some m.cls := findClass_of_methodNamed B.named
  have hlocks := B.notSynchronized
  subst hsz
  obtain ⟨A, hAe⟩ : ∃ A : Nat → Prop, A = va_A (wX7 cs a S L) s.heap.size := ⟨_, rfl⟩
  have hD : va_D A (wX7 cs a S L) := by rw [hAe]; exact hD0.self
  have hA : ∀ q : Nat, s.heap.size ≤ q → A q := fun q h => by rw [hAe]; exact Or.inr h
  have hS : va_S A s.heap s.heap [] := va_S.rf
  have hDA : ∀ (S : Nat → Nat → Int32) (L : Nat → Nat → Int64), va_D A (wX7 cs a S L) := fun S L => k_DA hD rfl
  have hl := lv_entry ([.ref (a 0)]) (n := 2) (Nat.le_of_ble_eq_true rfl)
  rw [lg_entry_eq]
  generalize (lg_sl ([.ref (a 0)]) ++ List.replicate (2 - (lg_sl ([.ref (a 0)])).length) Slot.unset).toArray = ls at hl ⊢
  have hl : lv_has ls 2 [(0, .ref (a 0))] := hl
  obtain ⟨Q, hQ⟩ : ∃ Q, Q = MQ below (k_Qi D r9 (wX7 cs a S L) (wX7 cs a S9 L) s.heap.size) ([.ref (a 0)] : List Value).toArray s 0 0 (va_A (wX7 cs a S L) s.heap.size) := ⟨_, rfl⟩
  rw [← hQ]
  have Lo19 : ∀ (n1 : Nat) (x1_19 : Int32) (S_19 : Nat → Nat → Int32) (H : Heap) (locs : List Loc) (ls : Array Slot), k_it (fun st => nX7_takesDays_l19 st.1 st.2 L) n1 (x1_19, S_19) = some (r9, S9) → lv_has ls 2 [(0, .ref (a 0)), (1, .int x1_19)] → va_P D vwCl (wX7 cs a S_19 L) H → va_S A s.heap H locs → W p l e (headSpec wsX7_takesDays ({ frames := 5, cells := 0, slots := 0, locals := 130 })).room s m ([.ref (a 0)] : List Value).toArray below meth c H locs 0 0 Q (F0 m 19 ls []) := by
    intro n1
    induction n1 with
    | zero => intro x1_19 S_19 H locs ls hd; exact dn_it0 hd
    | succ n1 ih1 =>
      intro x1_19 S_19 H locs ls hd hl hP hS
      have hD := hDA S_19 L
      obtain ⟨y1, hd, hy1⟩ := dn_it hd
      have hd : nX7_takesDays_l19 x1_19 S_19 L = some y1 := hd
      unfold nX7_takesDays_l19 at hd
      refine lv_iload_n hx hb dX7_takesDays_19 rfl (lv_at hl 1 rfl) ?_
      refine lv_aload_n hx hb dX7_takesDays_20 rfl (lv_at hl 0 rfl) ?_
      refine va_get (D := D) (ci := 5) (v := .ref (a 18)) (C := RX7) (T := TX7) (N := 25) hx hb hts (fun w h => List.mem_cons_of_mem _ (List.mem_append_right _ h)) hown hK hP 0 rfl rfl 24 (by decide) (hts (.fieldLink RX7 67 "LeastNeedModel" "values" "[I") (List.mem_of_getElem? (i := 1) rfl)) (fun _ h9 => h9) rfl dX7_takesDays_21 ?_
      refine lv_iconst (v := (0 : Int32)) hx hb dX7_takesDays_24 (by decide) ?_
      refine k_iald (D := D) (k := 0) (by rfl) hx hb hK hP 18 1 rfl rfl (k_in (by decide)) dX7_takesDays_25 ?_
      refine lv_icmp_ge (tgt := 61) hx hb dX7_takesDays_26 (by decide) (fun c26 => ?_) (fun c26 => ?_)
      · have hd := dn_t c26 hd
        have hd := dn_up hd hy1
        refine lv_iconst (v := (1 : Int32)) hx hb dX7_takesDays_61 (by decide) ?_
        obtain ⟨e1, e2⟩ := dn_s2 hd
        exact k_zret hx hb hr rfl hQ hAe e1 (by rw [e2]) hP hS hlocks dX7_takesDays_62
      · have hd := dn_f c26 hd
        refine lv_aload_n hx hb dX7_takesDays_29 rfl (lv_at hl 0 rfl) ?_
        refine lv_aload_n hx hb dX7_takesDays_30 rfl (lv_at hl 0 rfl) ?_
        refine va_get (D := D) (ci := 5) (v := .ref (a 17)) (C := RX7) (T := TX7) (N := 25) hx hb hts (fun w h => List.mem_cons_of_mem _ (List.mem_append_right _ h)) hown hK hP 0 rfl rfl 23 (by decide) (hts (.fieldLink RX7 64 "LeastNeedModel" "anew" "[I") (List.mem_of_getElem? (i := 2) rfl)) (fun _ h9 => h9) rfl dX7_takesDays_31 ?_
        refine lv_aload_n hx hb dX7_takesDays_34 rfl (lv_at hl 0 rfl) ?_
        refine va_get (D := D) (ci := 5) (v := .ref (a 17)) (C := RX7) (T := TX7) (N := 25) hx hb hts (fun w h => List.mem_cons_of_mem _ (List.mem_append_right _ h)) hown hK hP 0 rfl rfl 23 (by decide) (hts (.fieldLink RX7 64 "LeastNeedModel" "anew" "[I") (List.mem_of_getElem? (i := 2) rfl)) (fun _ h9 => h9) rfl dX7_takesDays_35 ?_
        refine lv_bipush (v := (22 : Int32)) hx hb dX7_takesDays_38 (by decide) ?_
        refine k_iald (D := D) (k := 22) (by rfl) hx hb hK hP 17 1 rfl rfl (k_in (by decide)) dX7_takesDays_40 ?_
        obtain ⟨S41, hq41, hd⟩ := dn_b1 hd
        have hF := k_self hD hS hA
        refine k_run_v (va_runV (As := [.ref (a 17), .int (S_19 17 22)]) (rest := []) ⟨hx, hb, hml, hown, hts⟩ (mX7_goDay_17 l D cs a S_19 L (S_19 17 22) S41 hq41 _) (cwV 2 hts gX7_takesDays_X7_goDay rfl rfl rfl (by decide +kernel) ⟨Nat.le_of_ble_eq_true rfl, Nat.le_of_ble_eq_true rfl⟩) ⟨k_blind, va_recv hK hP (ci := 5) (q0 := 0) rfl rfl, k_pre hP hK hNn hD⟩ rfl rfl hl.1 rfl (lv_room (Nat.le_of_ble_eq_true rfl)) dX7_takesDays_41 ⟨Nat.le_of_ble_eq_true rfl, Nat.le_of_ble_eq_true rfl⟩) hS hF (fun H locs hP1 hk hS => ?_)
        have hP : va_P D vwCl (wX7 cs a S41 L) _ := hP1
        have hD := hDA S41 L
        refine lv_aload_n hx hb dX7_takesDays_44 rfl (lv_at hl 0 rfl) ?_
        refine va_get (D := D) (ci := 5) (v := .ref (a 17)) (C := RX7) (T := TX7) (N := 25) hx hb hts (fun w h => List.mem_cons_of_mem _ (List.mem_append_right _ h)) hown hK hP 0 rfl rfl 23 (by decide) (hts (.fieldLink RX7 64 "LeastNeedModel" "anew" "[I") (List.mem_of_getElem? (i := 2) rfl)) (fun _ h9 => h9) rfl dX7_takesDays_45 ?_
        refine lv_bipush (v := (22 : Int32)) hx hb dX7_takesDays_48 (by decide) ?_
        refine lv_dup2_11 hx hb dX7_takesDays_50 rfl rfl ?_
        refine k_iald (D := D) (k := 22) (by rfl) hx hb hK hP 17 1 rfl rfl (k_in (by decide)) dX7_takesDays_51 ?_
        refine lv_iconst (v := (1 : Int32)) hx hb dX7_takesDays_52 (by decide) ?_
        refine lv_iadd hx hb dX7_takesDays_53 ?_
        refine k_iast (D := D) (k := 22) (by rfl) hx hb hK hP hD hS 17 1 rfl rfl (k_in (by decide)) dX7_takesDays_54 (fun H locs hP hD hS => ?_)
        have hP : va_P D vwCl (wX7 cs a (k_w S41 17 22 ((S41 17 22) + (1 : Int32))) L) _ := k_eq hP (wsX7_a17 cs a S41 L 22 ((S41 17 22) + (1 : Int32)))
        have hD := hDA (k_w S41 17 22 ((S41 17 22) + (1 : Int32))) L
        refine lv_iinc (v := x1_19 + (1 : Int32)) (lv' := [(1, .int (x1_19 + (1 : Int32))), (0, .ref (a 0))]) hx hb dX7_takesDays_55 hl (k := 1) rfl rfl (by decide) rfl (fun ls hl => ?_)
        refine lv_goto (tgt := 19) hx hb dX7_takesDays_58 (by decide) ?_
        exact ih1 (x1_19 + (1 : Int32)) (k_w S41 17 22 ((S41 17 22) + (1 : Int32))) _ _ _ (dn_bk hd hy1) (lv_sub hl [1, 0] rfl) hP hS
  unfold nX7_takesDays at hd
  refine lv_aload_n hx hb dX7_takesDays_0 rfl (lv_at hl 0 rfl) ?_
  obtain ⟨S1, hq1, hd⟩ := dn_b1 hd
  have hF := k_self hD hS hA
  refine k_run_v (va_runV (As := []) (rest := []) ⟨hx, hb, hml, hown, hts⟩ (mX7_goBehind l D cs a S L S1 hq1 _) (cwV 0 hts gX7_takesDays_X7_goBehind rfl rfl rfl (by decide +kernel) ⟨Nat.le_of_ble_eq_true rfl, Nat.le_of_ble_eq_true rfl⟩) ⟨k_blind, va_recv hK hP (ci := 5) (q0 := 0) rfl rfl, k_pre hP hK hNn hD⟩ rfl rfl hl.1 rfl (lv_room (Nat.le_of_ble_eq_true rfl)) dX7_takesDays_1 ⟨Nat.le_of_ble_eq_true rfl, Nat.le_of_ble_eq_true rfl⟩) hS hF (fun H locs hP1 hk hS => ?_)
  have hP : va_P D vwCl (wX7 cs a S1 L) _ := hP1
  have hD := hDA S1 L
  refine lv_aload_n hx hb dX7_takesDays_4 rfl (lv_at hl 0 rfl) ?_
  refine lv_iconst (v := (0 : Int32)) hx hb dX7_takesDays_5 (by decide) ?_
  refine lv_iconst (v := (1 : Int32)) hx hb dX7_takesDays_6 (by decide) ?_
  refine lv_bipush (v := (99 : Int32)) hx hb dX7_takesDays_7 (by decide) ?_
  obtain ⟨r9, S9, hq9, hd⟩ := dn_b2 hd
  have hF := k_self hD hS hA
  refine k_run_i (va_runV (As := [.int (0 : Int32), .int (1 : Int32), .int (99 : Int32)]) (rest := []) ⟨hx, hb, hml, hown, hts⟩ (mX7_takes l D cs a S1 L (0 : Int32) (1 : Int32) (99 : Int32) r9 S9 hq9 _) (cwV 3 hts gX7_takesDays_X7_takes rfl rfl rfl (by decide +kernel) ⟨Nat.le_of_ble_eq_true rfl, Nat.le_of_ble_eq_true rfl⟩) ⟨k_blind, va_recv hK hP (ci := 5) (q0 := 0) rfl rfl, k_pre hP hK hNn hD⟩ rfl rfl hl.1 rfl (lv_room (Nat.le_of_ble_eq_true rfl)) dX7_takesDays_9 ⟨Nat.le_of_ble_eq_true rfl, Nat.le_of_ble_eq_true rfl⟩) hS hF (fun H locs hP1 hk hS => ?_)
  have hP : va_P D vwCl (wX7 cs a S9 L) _ := hP1
  have hD := hDA S9 L
  refine lv_if_ne (tgt := 17) hx hb dX7_takesDays_12 (by decide) (fun c12 => ?_) (fun c12 => ?_)
  · have hd := dn_f c12 hd
    refine lv_iconst (v := (0 : Int32)) hx hb dX7_takesDays_17 (by decide) ?_
    refine lv_istore_n (lv' := [(1, .int (0 : Int32)), (0, .ref (a 0))]) hx hb dX7_takesDays_18 rfl hl (by decide) rfl (fun ls hl => ?_)
    exact Lo19 1000 (0 : Int32) S9 _ _ _ hd (lv_sub hl [1, 0] rfl) hP hS
  · have hd := dn_t c12 hd
    refine lv_iconst (v := (0 : Int32)) hx hb dX7_takesDays_15 (by decide) ?_
    obtain ⟨e1, e2⟩ := dn_s2 hd
    exact k_zret hx hb hr rfl hQ hAe e1 (by rw [e2]) hP hS hlocks dX7_takesDays_16
-- LeastNeedModel.takesItem()Z
set_option maxRecDepth 20000 in
def nX7_takesItem (S : Nat → Nat → Int32) (L : Nat → Nat → Int64) : Option (Int32 × (Nat → Nat → Int32)) := k_b1 (nX7_spells S L (6 : Int32) (112 : Int32) (101 : Int32) (114 : Int32) (115 : Int32) (111 : Int32) (110 : Int32)) (fun r15 => if r15 = 0 then k_b1 (nX7_spells S L (4 : Int32) (99 : Int32) (111 : Int32) (97 : Int32) (116 : Int32) (0 : Int32) (0 : Int32)) (fun r38 => if r38 = 0 then k_b1 (nX7_spells S L (5 : Int32) (116 : Int32) (104 : Int32) (105 : Int32) (110 : Int32) (103 : Int32) (0 : Int32)) (fun r62 => if r62 = 0 then k_b1 (nX7_spells S L (4 : Int32) (108 : Int32) (111 : Int32) (115 : Int32) (101 : Int32) (0 : Int32) (0 : Int32)) (fun r85 => if r85 = 0 then k_b1 (nX7_spells S L (4 : Int32) (100 : Int32) (97 : Int32) (121 : Int32) (115 : Int32) (0 : Int32) (0 : Int32)) (fun r108 => if r108 = 0 then some ((0 : Int32), S) else k_b2 (nX7_takesDays S L) (fun r115 S115 => if r115 = 0 then some ((0 : Int32), S115) else some ((1 : Int32), S115))) else k_b2 (nX7_takesLose S L) (fun r92 S92 => if ¬ (r92 = 0 ∨ r92 = 1) then none else some (r92, S92))) else k_b2 (nX7_takesThing S L) (fun r69 S69 => if ¬ (r69 = 0 ∨ r69 = 1) then none else some (r69, S69))) else k_b2 (nX7_takesCoat S L) (fun r45 S45 => if ¬ (r45 = 0 ∨ r45 = 1) then none else some (r45, S45))) else k_b2 (nX7_takesPerson S L) (fun r22 S22 => if ¬ (r22 = 0 ∨ r22 = 1) then none else some (r22, S22)))
set_option maxHeartbeats 4000000 in
set_option maxRecDepth 100000 in
theorem mX7_takesItem (l : Launch) (D : va_G) (cs : Nat → ClassId) (a : Nat → Nat) (S : Nat → Nat → Int32) (L : Nat → Nat → Int64) (r9 : Int32) (S9 : (Nat → Nat → Int32)) (hd : nX7_takesItem S L = some (r9, S9)) : ∀ sz : Nat, Met l yX7_takesItem wsX7_takesItem ({ frames := 6, cells := 0, slots := 0, locals := 151 }) (k_Pc D cs [.ref (a 0)] (wX7 cs a S L) sz) (k_Qi D r9 (wX7 cs a S L) (wX7 cs a S9 L) sz) 0 0 (va_A (wX7 cs a S L) sz) := by
  intro sz
  refine Met.ofW (cc := cX7_takesItem) (maxL := 1) (ret := (some .boolean)) (by decide) rfl ?_
  intro p e s m args below meth c s₁ B hml hv
  obtain ⟨rfl, hsz, hP, hK, hD0, hNn⟩ := hv
  have hx := B.exec
  have hb := B.bytes
  have hr := B.returns
  have hts := atoms_spec (ws := wsX7_takesItem) B.pre
  have hown : s.vm.findClass RX7 = some m.cls := findClass_of_methodNamed B.named
  have hlocks := B.notSynchronized
  subst hsz
  obtain ⟨A, hAe⟩ : ∃ A : Nat → Prop, A = va_A (wX7 cs a S L) s.heap.size := ⟨_, rfl⟩
  have hD : va_D A (wX7 cs a S L) := by rw [hAe]; exact hD0.self
  have hA : ∀ q : Nat, s.heap.size ≤ q → A q := fun q h => by rw [hAe]; exact Or.inr h
  have hS : va_S A s.heap s.heap [] := va_S.rf
  have hDA : ∀ (S : Nat → Nat → Int32) (L : Nat → Nat → Int64), va_D A (wX7 cs a S L) := fun S L => k_DA hD rfl
  have hl := lv_entry ([.ref (a 0)]) (n := 1) (Nat.le_of_ble_eq_true rfl)
  rw [lg_entry_eq]
  generalize (lg_sl ([.ref (a 0)]) ++ List.replicate (1 - (lg_sl ([.ref (a 0)])).length) Slot.unset).toArray = ls at hl ⊢
  have hl : lv_has ls 1 [(0, .ref (a 0))] := hl
  obtain ⟨Q, hQ⟩ : ∃ Q, Q = MQ below (k_Qi D r9 (wX7 cs a S L) (wX7 cs a S9 L) s.heap.size) ([.ref (a 0)] : List Value).toArray s 0 0 (va_A (wX7 cs a S L) s.heap.size) := ⟨_, rfl⟩
  rw [← hQ]
  unfold nX7_takesItem at hd
  refine lv_aload_n hx hb dX7_takesItem_0 rfl (lv_at hl 0 rfl) ?_
  refine lv_bipush (v := (6 : Int32)) hx hb dX7_takesItem_1 (by decide) ?_
  refine lv_bipush (v := (112 : Int32)) hx hb dX7_takesItem_3 (by decide) ?_
  refine lv_bipush (v := (101 : Int32)) hx hb dX7_takesItem_5 (by decide) ?_
  refine lv_bipush (v := (114 : Int32)) hx hb dX7_takesItem_7 (by decide) ?_
  refine lv_bipush (v := (115 : Int32)) hx hb dX7_takesItem_9 (by decide) ?_
  refine lv_bipush (v := (111 : Int32)) hx hb dX7_takesItem_11 (by decide) ?_
  refine lv_bipush (v := (110 : Int32)) hx hb dX7_takesItem_13 (by decide) ?_
  obtain ⟨r15, hq15, hd⟩ := dn_b1 hd
  have hF := k_self hD hS hA
  refine k_run_i (va_runV (As := [.int (6 : Int32), .int (112 : Int32), .int (101 : Int32), .int (114 : Int32), .int (115 : Int32), .int (111 : Int32), .int (110 : Int32)]) (rest := []) ⟨hx, hb, hml, hown, hts⟩ (mX7_spells l D cs a S L (6 : Int32) (112 : Int32) (101 : Int32) (114 : Int32) (115 : Int32) (111 : Int32) (110 : Int32) r15 hq15 _) (cwV 7 hts gX7_takesItem_X7_spells rfl rfl rfl (by decide +kernel) ⟨Nat.le_of_ble_eq_true rfl, Nat.le_of_ble_eq_true rfl⟩) ⟨k_blind, va_recv hK hP (ci := 5) (q0 := 0) rfl rfl, k_pre hP hK hNn hD⟩ rfl rfl hl.1 rfl (lv_room (Nat.le_of_ble_eq_true rfl)) dX7_takesItem_15 ⟨Nat.le_of_ble_eq_true rfl, Nat.le_of_ble_eq_true rfl⟩) hS hF (fun H locs hP1 hk hS => ?_)
  have hP : va_P D vwCl (wX7 cs a S L) _ := hP1
  have hD := hDA S L
  refine lv_if_eq (tgt := 26) hx hb dX7_takesItem_18 (by decide) (fun c18 => ?_) (fun c18 => ?_)
  · have hd := dn_t c18 hd
    refine lv_aload_n hx hb dX7_takesItem_26 rfl (lv_at hl 0 rfl) ?_
    refine lv_iconst (v := (4 : Int32)) hx hb dX7_takesItem_27 (by decide) ?_
    refine lv_bipush (v := (99 : Int32)) hx hb dX7_takesItem_28 (by decide) ?_
    refine lv_bipush (v := (111 : Int32)) hx hb dX7_takesItem_30 (by decide) ?_
    refine lv_bipush (v := (97 : Int32)) hx hb dX7_takesItem_32 (by decide) ?_
    refine lv_bipush (v := (116 : Int32)) hx hb dX7_takesItem_34 (by decide) ?_
    refine lv_iconst (v := (0 : Int32)) hx hb dX7_takesItem_36 (by decide) ?_
    refine lv_iconst (v := (0 : Int32)) hx hb dX7_takesItem_37 (by decide) ?_
    obtain ⟨r38, hq38, hd⟩ := dn_b1 hd
    have hF := k_self hD hS hA
    refine k_run_i (va_runV (As := [.int (4 : Int32), .int (99 : Int32), .int (111 : Int32), .int (97 : Int32), .int (116 : Int32), .int (0 : Int32), .int (0 : Int32)]) (rest := []) ⟨hx, hb, hml, hown, hts⟩ (mX7_spells l D cs a S L (4 : Int32) (99 : Int32) (111 : Int32) (97 : Int32) (116 : Int32) (0 : Int32) (0 : Int32) r38 hq38 _) (cwV 7 hts gX7_takesItem_X7_spells rfl rfl rfl (by decide +kernel) ⟨Nat.le_of_ble_eq_true rfl, Nat.le_of_ble_eq_true rfl⟩) ⟨k_blind, va_recv hK hP (ci := 5) (q0 := 0) rfl rfl, k_pre hP hK hNn hD⟩ rfl rfl hl.1 rfl (lv_room (Nat.le_of_ble_eq_true rfl)) dX7_takesItem_38 ⟨Nat.le_of_ble_eq_true rfl, Nat.le_of_ble_eq_true rfl⟩) hS hF (fun H locs hP1 hk hS => ?_)
    have hP : va_P D vwCl (wX7 cs a S L) _ := hP1
    have hD := hDA S L
    refine lv_if_eq (tgt := 49) hx hb dX7_takesItem_41 (by decide) (fun c41 => ?_) (fun c41 => ?_)
    · have hd := dn_t c41 hd
      refine lv_aload_n hx hb dX7_takesItem_49 rfl (lv_at hl 0 rfl) ?_
      refine lv_iconst (v := (5 : Int32)) hx hb dX7_takesItem_50 (by decide) ?_
      refine lv_bipush (v := (116 : Int32)) hx hb dX7_takesItem_51 (by decide) ?_
      refine lv_bipush (v := (104 : Int32)) hx hb dX7_takesItem_53 (by decide) ?_
      refine lv_bipush (v := (105 : Int32)) hx hb dX7_takesItem_55 (by decide) ?_
      refine lv_bipush (v := (110 : Int32)) hx hb dX7_takesItem_57 (by decide) ?_
      refine lv_bipush (v := (103 : Int32)) hx hb dX7_takesItem_59 (by decide) ?_
      refine lv_iconst (v := (0 : Int32)) hx hb dX7_takesItem_61 (by decide) ?_
      obtain ⟨r62, hq62, hd⟩ := dn_b1 hd
      have hF := k_self hD hS hA
      refine k_run_i (va_runV (As := [.int (5 : Int32), .int (116 : Int32), .int (104 : Int32), .int (105 : Int32), .int (110 : Int32), .int (103 : Int32), .int (0 : Int32)]) (rest := []) ⟨hx, hb, hml, hown, hts⟩ (mX7_spells l D cs a S L (5 : Int32) (116 : Int32) (104 : Int32) (105 : Int32) (110 : Int32) (103 : Int32) (0 : Int32) r62 hq62 _) (cwV 7 hts gX7_takesItem_X7_spells rfl rfl rfl (by decide +kernel) ⟨Nat.le_of_ble_eq_true rfl, Nat.le_of_ble_eq_true rfl⟩) ⟨k_blind, va_recv hK hP (ci := 5) (q0 := 0) rfl rfl, k_pre hP hK hNn hD⟩ rfl rfl hl.1 rfl (lv_room (Nat.le_of_ble_eq_true rfl)) dX7_takesItem_62 ⟨Nat.le_of_ble_eq_true rfl, Nat.le_of_ble_eq_true rfl⟩) hS hF (fun H locs hP1 hk hS => ?_)
      have hP : va_P D vwCl (wX7 cs a S L) _ := hP1
      have hD := hDA S L
      refine lv_if_eq (tgt := 73) hx hb dX7_takesItem_65 (by decide) (fun c65 => ?_) (fun c65 => ?_)
      · have hd := dn_t c65 hd
        refine lv_aload_n hx hb dX7_takesItem_73 rfl (lv_at hl 0 rfl) ?_
        refine lv_iconst (v := (4 : Int32)) hx hb dX7_takesItem_74 (by decide) ?_
        refine lv_bipush (v := (108 : Int32)) hx hb dX7_takesItem_75 (by decide) ?_
        refine lv_bipush (v := (111 : Int32)) hx hb dX7_takesItem_77 (by decide) ?_
        refine lv_bipush (v := (115 : Int32)) hx hb dX7_takesItem_79 (by decide) ?_
        refine lv_bipush (v := (101 : Int32)) hx hb dX7_takesItem_81 (by decide) ?_
        refine lv_iconst (v := (0 : Int32)) hx hb dX7_takesItem_83 (by decide) ?_
        refine lv_iconst (v := (0 : Int32)) hx hb dX7_takesItem_84 (by decide) ?_
        obtain ⟨r85, hq85, hd⟩ := dn_b1 hd
        have hF := k_self hD hS hA
        refine k_run_i (va_runV (As := [.int (4 : Int32), .int (108 : Int32), .int (111 : Int32), .int (115 : Int32), .int (101 : Int32), .int (0 : Int32), .int (0 : Int32)]) (rest := []) ⟨hx, hb, hml, hown, hts⟩ (mX7_spells l D cs a S L (4 : Int32) (108 : Int32) (111 : Int32) (115 : Int32) (101 : Int32) (0 : Int32) (0 : Int32) r85 hq85 _) (cwV 7 hts gX7_takesItem_X7_spells rfl rfl rfl (by decide +kernel) ⟨Nat.le_of_ble_eq_true rfl, Nat.le_of_ble_eq_true rfl⟩) ⟨k_blind, va_recv hK hP (ci := 5) (q0 := 0) rfl rfl, k_pre hP hK hNn hD⟩ rfl rfl hl.1 rfl (lv_room (Nat.le_of_ble_eq_true rfl)) dX7_takesItem_85 ⟨Nat.le_of_ble_eq_true rfl, Nat.le_of_ble_eq_true rfl⟩) hS hF (fun H locs hP1 hk hS => ?_)
        have hP : va_P D vwCl (wX7 cs a S L) _ := hP1
        have hD := hDA S L
        refine lv_if_eq (tgt := 96) hx hb dX7_takesItem_88 (by decide) (fun c88 => ?_) (fun c88 => ?_)
        · have hd := dn_t c88 hd
          refine lv_aload_n hx hb dX7_takesItem_96 rfl (lv_at hl 0 rfl) ?_
          refine lv_iconst (v := (4 : Int32)) hx hb dX7_takesItem_97 (by decide) ?_
          refine lv_bipush (v := (100 : Int32)) hx hb dX7_takesItem_98 (by decide) ?_
          refine lv_bipush (v := (97 : Int32)) hx hb dX7_takesItem_100 (by decide) ?_
          refine lv_bipush (v := (121 : Int32)) hx hb dX7_takesItem_102 (by decide) ?_
          refine lv_bipush (v := (115 : Int32)) hx hb dX7_takesItem_104 (by decide) ?_
          refine lv_iconst (v := (0 : Int32)) hx hb dX7_takesItem_106 (by decide) ?_
          refine lv_iconst (v := (0 : Int32)) hx hb dX7_takesItem_107 (by decide) ?_
          obtain ⟨r108, hq108, hd⟩ := dn_b1 hd
          have hF := k_self hD hS hA
          refine k_run_i (va_runV (As := [.int (4 : Int32), .int (100 : Int32), .int (97 : Int32), .int (121 : Int32), .int (115 : Int32), .int (0 : Int32), .int (0 : Int32)]) (rest := []) ⟨hx, hb, hml, hown, hts⟩ (mX7_spells l D cs a S L (4 : Int32) (100 : Int32) (97 : Int32) (121 : Int32) (115 : Int32) (0 : Int32) (0 : Int32) r108 hq108 _) (cwV 7 hts gX7_takesItem_X7_spells rfl rfl rfl (by decide +kernel) ⟨Nat.le_of_ble_eq_true rfl, Nat.le_of_ble_eq_true rfl⟩) ⟨k_blind, va_recv hK hP (ci := 5) (q0 := 0) rfl rfl, k_pre hP hK hNn hD⟩ rfl rfl hl.1 rfl (lv_room (Nat.le_of_ble_eq_true rfl)) dX7_takesItem_108 ⟨Nat.le_of_ble_eq_true rfl, Nat.le_of_ble_eq_true rfl⟩) hS hF (fun H locs hP1 hk hS => ?_)
          have hP : va_P D vwCl (wX7 cs a S L) _ := hP1
          have hD := hDA S L
          refine lv_if_eq (tgt := 125) hx hb dX7_takesItem_111 (by decide) (fun c111 => ?_) (fun c111 => ?_)
          · have hd := dn_t c111 hd
            refine lv_iconst (v := (0 : Int32)) hx hb dX7_takesItem_125 (by decide) ?_
            obtain ⟨e1, e2⟩ := dn_s2 hd
            exact k_zret hx hb hr rfl hQ hAe e1 (by rw [e2]) hP hS hlocks dX7_takesItem_126
          · have hd := dn_f c111 hd
            refine lv_aload_n hx hb dX7_takesItem_114 rfl (lv_at hl 0 rfl) ?_
            obtain ⟨r115, S115, hq115, hd⟩ := dn_b2 hd
            have hF := k_self hD hS hA
            refine k_run_i (va_runV (As := []) (rest := []) ⟨hx, hb, hml, hown, hts⟩ (mX7_takesDays l D cs a S L r115 S115 hq115 _) (cwV 0 hts gX7_takesItem_X7_takesDays rfl rfl rfl (by decide +kernel) ⟨Nat.le_of_ble_eq_true rfl, Nat.le_of_ble_eq_true rfl⟩) ⟨k_blind, va_recv hK hP (ci := 5) (q0 := 0) rfl rfl, k_pre hP hK hNn hD⟩ rfl rfl hl.1 rfl (lv_room (Nat.le_of_ble_eq_true rfl)) dX7_takesItem_115 ⟨Nat.le_of_ble_eq_true rfl, Nat.le_of_ble_eq_true rfl⟩) hS hF (fun H locs hP1 hk hS => ?_)
            have hP : va_P D vwCl (wX7 cs a S115 L) _ := hP1
            have hD := hDA S115 L
            refine lv_if_eq (tgt := 125) hx hb dX7_takesItem_118 (by decide) (fun c118 => ?_) (fun c118 => ?_)
            · have hd := dn_t c118 hd
              refine lv_iconst (v := (0 : Int32)) hx hb dX7_takesItem_125 (by decide) ?_
              obtain ⟨e1, e2⟩ := dn_s2 hd
              exact k_zret hx hb hr rfl hQ hAe e1 (by rw [e2]) hP hS hlocks dX7_takesItem_126
            · have hd := dn_f c118 hd
              refine lv_iconst (v := (1 : Int32)) hx hb dX7_takesItem_121 (by decide) ?_
              refine lv_goto (tgt := 126) hx hb dX7_takesItem_122 (by decide) ?_
              obtain ⟨e1, e2⟩ := dn_s2 hd
              exact k_zret hx hb hr rfl hQ hAe e1 (by rw [e2]) hP hS hlocks dX7_takesItem_126
        · have hd := dn_f c88 hd
          refine lv_aload_n hx hb dX7_takesItem_91 rfl (lv_at hl 0 rfl) ?_
          obtain ⟨r92, S92, hq92, hd⟩ := dn_b2 hd
          have hF := k_self hD hS hA
          refine k_run_i (va_runV (As := []) (rest := []) ⟨hx, hb, hml, hown, hts⟩ (mX7_takesLose l D cs a S L r92 S92 hq92 _) (cwV 0 hts gX7_takesItem_X7_takesLose rfl rfl rfl (by decide +kernel) ⟨Nat.le_of_ble_eq_true rfl, Nat.le_of_ble_eq_true rfl⟩) ⟨k_blind, va_recv hK hP (ci := 5) (q0 := 0) rfl rfl, k_pre hP hK hNn hD⟩ rfl rfl hl.1 rfl (lv_room (Nat.le_of_ble_eq_true rfl)) dX7_takesItem_92 ⟨Nat.le_of_ble_eq_true rfl, Nat.le_of_ble_eq_true rfl⟩) hS hF (fun H locs hP1 hk hS => ?_)
          have hP : va_P D vwCl (wX7 cs a S92 L) _ := hP1
          have hD := hDA S92 L
          obtain ⟨hz, hd⟩ := dn_n hd
          obtain ⟨e1, e2⟩ := dn_s2 hd
          exact k_zret hx hb hr (dn_z hz) hQ hAe e1 (by rw [e2]) hP hS hlocks dX7_takesItem_95
      · have hd := dn_f c65 hd
        refine lv_aload_n hx hb dX7_takesItem_68 rfl (lv_at hl 0 rfl) ?_
        obtain ⟨r69, S69, hq69, hd⟩ := dn_b2 hd
        have hF := k_self hD hS hA
        refine k_run_i (va_runV (As := []) (rest := []) ⟨hx, hb, hml, hown, hts⟩ (mX7_takesThing l D cs a S L r69 S69 hq69 _) (cwV 0 hts gX7_takesItem_X7_takesThing rfl rfl rfl (by decide +kernel) ⟨Nat.le_of_ble_eq_true rfl, Nat.le_of_ble_eq_true rfl⟩) ⟨k_blind, va_recv hK hP (ci := 5) (q0 := 0) rfl rfl, k_pre hP hK hNn hD⟩ rfl rfl hl.1 rfl (lv_room (Nat.le_of_ble_eq_true rfl)) dX7_takesItem_69 ⟨Nat.le_of_ble_eq_true rfl, Nat.le_of_ble_eq_true rfl⟩) hS hF (fun H locs hP1 hk hS => ?_)
        have hP : va_P D vwCl (wX7 cs a S69 L) _ := hP1
        have hD := hDA S69 L
        obtain ⟨hz, hd⟩ := dn_n hd
        obtain ⟨e1, e2⟩ := dn_s2 hd
        exact k_zret hx hb hr (dn_z hz) hQ hAe e1 (by rw [e2]) hP hS hlocks dX7_takesItem_72
    · have hd := dn_f c41 hd
      refine lv_aload_n hx hb dX7_takesItem_44 rfl (lv_at hl 0 rfl) ?_
      obtain ⟨r45, S45, hq45, hd⟩ := dn_b2 hd
      have hF := k_self hD hS hA
      refine k_run_i (va_runV (As := []) (rest := []) ⟨hx, hb, hml, hown, hts⟩ (mX7_takesCoat l D cs a S L r45 S45 hq45 _) (cwV 0 hts gX7_takesItem_X7_takesCoat rfl rfl rfl (by decide +kernel) ⟨Nat.le_of_ble_eq_true rfl, Nat.le_of_ble_eq_true rfl⟩) ⟨k_blind, va_recv hK hP (ci := 5) (q0 := 0) rfl rfl, k_pre hP hK hNn hD⟩ rfl rfl hl.1 rfl (lv_room (Nat.le_of_ble_eq_true rfl)) dX7_takesItem_45 ⟨Nat.le_of_ble_eq_true rfl, Nat.le_of_ble_eq_true rfl⟩) hS hF (fun H locs hP1 hk hS => ?_)
      have hP : va_P D vwCl (wX7 cs a S45 L) _ := hP1
      have hD := hDA S45 L
      obtain ⟨hz, hd⟩ := dn_n hd
      obtain ⟨e1, e2⟩ := dn_s2 hd
      exact k_zret hx hb hr (dn_z hz) hQ hAe e1 (by rw [e2]) hP hS hlocks dX7_takesItem_48
  · have hd := dn_f c18 hd
    refine lv_aload_n hx hb dX7_takesItem_21 rfl (lv_at hl 0 rfl) ?_
    obtain ⟨r22, S22, hq22, hd⟩ := dn_b2 hd
    have hF := k_self hD hS hA
    refine k_run_i (va_runV (As := []) (rest := []) ⟨hx, hb, hml, hown, hts⟩ (mX7_takesPerson l D cs a S L r22 S22 hq22 _) (cwV 0 hts gX7_takesItem_X7_takesPerson rfl rfl rfl (by decide +kernel) ⟨Nat.le_of_ble_eq_true rfl, Nat.le_of_ble_eq_true rfl⟩) ⟨k_blind, va_recv hK hP (ci := 5) (q0 := 0) rfl rfl, k_pre hP hK hNn hD⟩ rfl rfl hl.1 rfl (lv_room (Nat.le_of_ble_eq_true rfl)) dX7_takesItem_22 ⟨Nat.le_of_ble_eq_true rfl, Nat.le_of_ble_eq_true rfl⟩) hS hF (fun H locs hP1 hk hS => ?_)
    have hP : va_P D vwCl (wX7 cs a S22 L) _ := hP1
    have hD := hDA S22 L
    obtain ⟨hz, hd⟩ := dn_n hd
    obtain ⟨e1, e2⟩ := dn_s2 hd
    exact k_zret hx hb hr (dn_z hz) hQ hAe e1 (by rw [e2]) hP hS hlocks dX7_takesItem_25
-- LeastNeedModel.begin([I)V
set_option maxRecDepth 20000 in
def nX7_begin_17_l2 (x1_2 : Int32) (S_2 : Nat → Nat → Int32) (L : Nat → Nat → Int64) : Option ((Int32 × (Nat → Nat → Int32)) ⊕ ((Nat → Nat → Int32))) := if (140 : Int32) ≤ x1_2 then k_up (some S_2) else if x1_2 < 0 ∨ 140 ≤ x1_2.toNatClampNeg then none else some (.inl ((x1_2 + (1 : Int32)), (k_w S_2 17 x1_2.toNatClampNeg (0 : Int32))))
set_option maxRecDepth 20000 in
def nX7_begin_17 (S : Nat → Nat → Int32) (L : Nat → Nat → Int64) : Option ((Nat → Nat → Int32)) := k_it (fun st => nX7_begin_17_l2 st.1 st.2 L) 1000 ((0 : Int32), S)
set_option maxHeartbeats 4000000 in
set_option maxRecDepth 100000 in
theorem mX7_begin_17 (l : Launch) (D : va_G) (cs : Nat → ClassId) (a : Nat → Nat) (S : Nat → Nat → Int32) (L : Nat → Nat → Int64) (S9 : (Nat → Nat → Int32)) (hd : nX7_begin_17 S L = some S9) : ∀ sz : Nat, Met l yX7_begin wsX7_begin ({ frames := 0, cells := 0, slots := 0, locals := 0 }) (k_Pc D cs [.ref (a 17)] (wX7 cs a S L) sz) (k_Qv D (wX7 cs a S L) (wX7 cs a S9 L) sz) 0 0 (va_A (wX7 cs a S L) sz) := by
  intro sz
  refine Met.ofW (cc := cX7_begin) (maxL := 2) (ret := none) (by decide) rfl ?_
  intro p e s m args below meth c s₁ B hml hv
  obtain ⟨rfl, hsz, hP, hK, hD0, hNn⟩ := hv
  have hx := B.exec
  have hb := B.bytes
  have hr := B.returns
  have hts := atoms_spec (ws := wsX7_begin) B.pre
  have hown : s.vm.findClass RX7 = some m.cls := findClass_of_methodNamed B.named
  have hlocks := B.notSynchronized
  subst hsz
  obtain ⟨A, hAe⟩ : ∃ A : Nat → Prop, A = va_A (wX7 cs a S L) s.heap.size := ⟨_, rfl⟩
  have hD : va_D A (wX7 cs a S L) := by rw [hAe]; exact hD0.self
  have hA : ∀ q : Nat, s.heap.size ≤ q → A q := fun q h => by rw [hAe]; exact Or.inr h
  have hS : va_S A s.heap s.heap [] := va_S.rf
  have hDA : ∀ (S : Nat → Nat → Int32) (L : Nat → Nat → Int64), va_D A (wX7 cs a S L) := fun S L => k_DA hD rfl
  have hl := lv_entry ([.ref (a 17)]) (n := 2) (Nat.le_of_ble_eq_true rfl)
  rw [lg_entry_eq]
  generalize (lg_sl ([.ref (a 17)]) ++ List.replicate (2 - (lg_sl ([.ref (a 17)])).length) Slot.unset).toArray = ls at hl ⊢
  have hl : lv_has ls 2 [(0, .ref (a 17))] := hl
  obtain ⟨Q, hQ⟩ : ∃ Q, Q = MQ below (k_Qv D (wX7 cs a S L) (wX7 cs a S9 L) s.heap.size) ([.ref (a 17)] : List Value).toArray s 0 0 (va_A (wX7 cs a S L) s.heap.size) := ⟨_, rfl⟩
  rw [← hQ]
  have Lo2 : ∀ (n1 : Nat) (x1_2 : Int32) (S_2 : Nat → Nat → Int32) (H : Heap) (locs : List Loc) (ls : Array Slot), k_it (fun st => nX7_begin_17_l2 st.1 st.2 L) n1 (x1_2, S_2) = some S9 → lv_has ls 2 [(0, .ref (a 17)), (1, .int x1_2)] → va_P D vwCl (wX7 cs a S_2 L) H → va_S A s.heap H locs → W p l e (headSpec wsX7_begin ({ frames := 0, cells := 0, slots := 0, locals := 0 })).room s m ([.ref (a 17)] : List Value).toArray below meth c H locs 0 0 Q (F0 m 2 ls []) := by
    intro n1
    induction n1 with
    | zero => intro x1_2 S_2 H locs ls hd; exact dn_it0 hd
    | succ n1 ih1 =>
      intro x1_2 S_2 H locs ls hd hl hP hS
      have hD := hDA S_2 L
      obtain ⟨y1, hd, hy1⟩ := dn_it hd
      have hd : nX7_begin_17_l2 x1_2 S_2 L = some y1 := hd
      unfold nX7_begin_17_l2 at hd
      refine lv_iload_n hx hb dX7_begin_2 rfl (lv_at hl 1 rfl) ?_
      refine lv_sipush (v := (140 : Int32)) hx hb dX7_begin_3 (by decide) ?_
      refine lv_icmp_ge (tgt := 19) hx hb dX7_begin_6 (by decide) (fun c6 => ?_) (fun c6 => ?_)
      · have hd := dn_t c6 hd
        have hd := dn_up hd hy1
        have e1 := dn_s1 hd
        exact k_vret hx hb hr hQ hAe (by rw [e1]) hP hS hlocks dX7_begin_19
      · have hd := dn_f c6 hd
        refine lv_aload_n hx hb dX7_begin_9 rfl (lv_at hl 0 rfl) ?_
        refine lv_iload_n hx hb dX7_begin_10 rfl (lv_at hl 1 rfl) ?_
        refine lv_iconst (v := (0 : Int32)) hx hb dX7_begin_11 (by decide) ?_
        obtain ⟨hi12, hd⟩ := dn_i hd
        refine k_iast (D := D) (k := x1_2.toNatClampNeg) (by rfl) hx hb hK hP hD hS 17 1 rfl rfl hi12 dX7_begin_12 (fun H locs hP hD hS => ?_)
        have hP : va_P D vwCl (wX7 cs a (k_w S_2 17 x1_2.toNatClampNeg (0 : Int32)) L) _ := k_eq hP (wsX7_a17 cs a S_2 L x1_2.toNatClampNeg (0 : Int32))
        have hD := hDA (k_w S_2 17 x1_2.toNatClampNeg (0 : Int32)) L
        refine lv_iinc (v := x1_2 + (1 : Int32)) (lv' := [(1, .int (x1_2 + (1 : Int32))), (0, .ref (a 17))]) hx hb dX7_begin_13 hl (k := 1) rfl rfl (by decide) rfl (fun ls hl => ?_)
        refine lv_goto (tgt := 2) hx hb dX7_begin_16 (by decide) ?_
        exact ih1 (x1_2 + (1 : Int32)) (k_w S_2 17 x1_2.toNatClampNeg (0 : Int32)) _ _ _ (dn_bk hd hy1) (lv_sub hl [1, 0] rfl) hP hS
  unfold nX7_begin_17 at hd
  refine lv_iconst (v := (0 : Int32)) hx hb dX7_begin_0 (by decide) ?_
  refine lv_istore_n (lv' := [(1, .int (0 : Int32)), (0, .ref (a 17))]) hx hb dX7_begin_1 rfl hl (by decide) rfl (fun ls hl => ?_)
  exact Lo2 1000 (0 : Int32) S _ _ _ hd (lv_sub hl [1, 0] rfl) hP hS
-- LeastNeedModel.read()I
set_option maxRecDepth 20000 in
def nX7_read_l109 (x1_109 : Int32) (x2_109 : Int32) (S_109 : Nat → Nat → Int32) (L : Nat → Nat → Int64) : Option ((Int32 × (Nat → Nat → Int32)) ⊕ (Int32 × (Nat → Nat → Int32))) := if (140 : Int32) ≤ x2_109 then k_up (some (x1_109, S_109)) else if x2_109 < 0 ∨ 140 ≤ x2_109.toNatClampNeg then none else if x2_109 < 0 ∨ 284 ≤ x2_109.toNatClampNeg then none else some (.inl ((x2_109 + (1 : Int32)), (k_w S_109 1 x2_109.toNatClampNeg (S_109 17 x2_109.toNatClampNeg))))
set_option maxRecDepth 20000 in
def nX7_read_l67 (x1_67 : Int32) (S_67 : Nat → Nat → Int32) (L : Nat → Nat → Int64) : Option ((Int32 × (Nat → Nat → Int32)) ⊕ (Int32 × (Nat → Nat → Int32))) := if (S_67 0 21) = 0 then k_up (k_it (fun st => nX7_read_l109 x1_67 st.1 st.2 L) 1000 ((0 : Int32), S_67)) else k_b2 (nX7_takesItem S_67 L) (fun r75 S75 => if r75 = 0 then k_up (some (((-10 : Int32) - (S75 0 19)), S75)) else if (S75 0 21) = (3 : Int32) then k_b1 (nX7_goBehind S75 L) (fun S98 => some (.inl ((x1_67 + (1 : Int32)), S98))) else k_up (some (((-10 : Int32) - (S75 0 19)), S75)))
set_option maxRecDepth 20000 in
def nX7_read (S : Nat → Nat → Int32) (L : Nat → Nat → Int64) : Option (Int32 × (Nat → Nat → Int32)) := k_b1 (nX7_lookAt S L (0 : Int32)) (fun S2 => k_b1 (nX7_spells S2 L (6 : Int32) (118 : Int32) (97 : Int32) (108 : Int32) (108 : Int32) (101 : Int32) (121 : Int32)) (fun r20 => if r20 = 0 then some (((-10 : Int32) - (S2 0 19)), S2) else k_b1 (nX7_goBehind S2 L) (fun S35 => if (S35 0 21) = (3 : Int32) then k_b1 (nX7_goBehind S35 L) (fun S55 => k_b1 (nX7_begin_17 S55 L) (fun S62 => k_it (fun st => nX7_read_l67 st.1 st.2 L) 1000 ((1 : Int32), S62))) else some (((-10 : Int32) - (S35 0 19)), S35))))
set_option maxHeartbeats 4000000 in
set_option maxRecDepth 100000 in
theorem mX7_read (l : Launch) (D : va_G) (cs : Nat → ClassId) (a : Nat → Nat) (S : Nat → Nat → Int32) (L : Nat → Nat → Int64) (r9 : Int32) (S9 : (Nat → Nat → Int32)) (hd : nX7_read S L = some (r9, S9)) : ∀ sz : Nat, Met l yX7_read wsX7_read ({ frames := 7, cells := 0, slots := 0, locals := 171 }) (k_Pc D cs [.ref (a 0)] (wX7 cs a S L) sz) (k_Qi D r9 (wX7 cs a S L) (wX7 cs a S9 L) sz) 0 0 (va_A (wX7 cs a S L) sz) := by
  intro sz
  refine Met.ofW (cc := cX7_read) (maxL := 3) (ret := (some .int)) (by decide) rfl ?_
  intro p e s m args below meth c s₁ B hml hv
  obtain ⟨rfl, hsz, hP, hK, hD0, hNn⟩ := hv
  have hx := B.exec
  have hb := B.bytes
  have hr := B.returns
  have hts := atoms_spec (ws := wsX7_read) B.pre
  have hown : s.vm.findClass RX7 = some m.cls := findClass_of_methodNamed B.named
  have hlocks := B.notSynchronized
  subst hsz
  obtain ⟨A, hAe⟩ : ∃ A : Nat → Prop, A = va_A (wX7 cs a S L) s.heap.size := ⟨_, rfl⟩
  have hD : va_D A (wX7 cs a S L) := by rw [hAe]; exact hD0.self
  have hA : ∀ q : Nat, s.heap.size ≤ q → A q := fun q h => by rw [hAe]; exact Or.inr h
  have hS : va_S A s.heap s.heap [] := va_S.rf
  have hDA : ∀ (S : Nat → Nat → Int32) (L : Nat → Nat → Int64), va_D A (wX7 cs a S L) := fun S L => k_DA hD rfl
  have hl := lv_entry ([.ref (a 0)]) (n := 3) (Nat.le_of_ble_eq_true rfl)
  rw [lg_entry_eq]
  generalize (lg_sl ([.ref (a 0)]) ++ List.replicate (3 - (lg_sl ([.ref (a 0)])).length) Slot.unset).toArray = ls at hl ⊢
  have hl : lv_has ls 3 [(0, .ref (a 0))] := hl
  obtain ⟨Q, hQ⟩ : ∃ Q, Q = MQ below (k_Qi D r9 (wX7 cs a S L) (wX7 cs a S9 L) s.heap.size) ([.ref (a 0)] : List Value).toArray s 0 0 (va_A (wX7 cs a S L) s.heap.size) := ⟨_, rfl⟩
  rw [← hQ]
  have Lo109 : ∀ (n1 : Nat) (x1_109 : Int32) (x2_109 : Int32) (S_109 : Nat → Nat → Int32) (H : Heap) (locs : List Loc) (ls : Array Slot), k_it (fun st => nX7_read_l109 x1_109 st.1 st.2 L) n1 (x2_109, S_109) = some (r9, S9) → lv_has ls 3 [(0, .ref (a 0)), (1, .int x1_109), (2, .int x2_109)] → va_P D vwCl (wX7 cs a S_109 L) H → va_S A s.heap H locs → W p l e (headSpec wsX7_read ({ frames := 7, cells := 0, slots := 0, locals := 171 })).room s m ([.ref (a 0)] : List Value).toArray below meth c H locs 0 0 Q (F0 m 109 ls []) := by
    intro n1
    induction n1 with
    | zero => intro x1_109 x2_109 S_109 H locs ls hd; exact dn_it0 hd
    | succ n1 ih1 =>
      intro x1_109 x2_109 S_109 H locs ls hd hl hP hS
      have hD := hDA S_109 L
      obtain ⟨y1, hd, hy1⟩ := dn_it hd
      have hd : nX7_read_l109 x1_109 x2_109 S_109 L = some y1 := hd
      unfold nX7_read_l109 at hd
      refine lv_iload_n hx hb dX7_read_109 rfl (lv_at hl 2 rfl) ?_
      refine lv_sipush (v := (140 : Int32)) hx hb dX7_read_110 (by decide) ?_
      refine lv_icmp_ge (tgt := 134) hx hb dX7_read_113 (by decide) (fun c113 => ?_) (fun c113 => ?_)
      · have hd := dn_t c113 hd
        have hd := dn_up hd hy1
        refine lv_iload_n hx hb dX7_read_134 rfl (lv_at hl 1 rfl) ?_
        obtain ⟨e1, e2⟩ := dn_s2 hd
        exact k_iret hx hb hr hQ hAe e1 (by rw [e2]) hP hS hlocks dX7_read_135
      · have hd := dn_f c113 hd
        refine lv_aload_n hx hb dX7_read_116 rfl (lv_at hl 0 rfl) ?_
        refine va_get (D := D) (ci := 5) (v := .ref (a 1)) (C := RX7) (T := TX7) (N := 25) hx hb hts (fun w h => List.mem_cons_of_mem _ (List.mem_append_right _ h)) hown hK hP 0 rfl rfl 0 (by decide) (hts (.fieldLink RX7 7 "LeastNeedModel" "told" "[I") (List.mem_of_getElem? (i := 4) rfl)) (fun _ h9 => h9) rfl dX7_read_117 ?_
        refine lv_iload_n hx hb dX7_read_120 rfl (lv_at hl 2 rfl) ?_
        refine lv_aload_n hx hb dX7_read_121 rfl (lv_at hl 0 rfl) ?_
        refine va_get (D := D) (ci := 5) (v := .ref (a 17)) (C := RX7) (T := TX7) (N := 25) hx hb hts (fun w h => List.mem_cons_of_mem _ (List.mem_append_right _ h)) hown hK hP 0 rfl rfl 23 (by decide) (hts (.fieldLink RX7 64 "LeastNeedModel" "anew" "[I") (List.mem_of_getElem? (i := 3) rfl)) (fun _ h9 => h9) rfl dX7_read_122 ?_
        refine lv_iload_n hx hb dX7_read_125 rfl (lv_at hl 2 rfl) ?_
        obtain ⟨hi126, hd⟩ := dn_i hd
        refine k_iald (D := D) (k := x2_109.toNatClampNeg) (by rfl) hx hb hK hP 17 1 rfl rfl hi126 dX7_read_126 ?_
        obtain ⟨hi127, hd⟩ := dn_i hd
        refine k_iast (D := D) (k := x2_109.toNatClampNeg) (by rfl) hx hb hK hP hD hS 1 1 rfl rfl hi127 dX7_read_127 (fun H locs hP hD hS => ?_)
        have hP : va_P D vwCl (wX7 cs a (k_w S_109 1 x2_109.toNatClampNeg (S_109 17 x2_109.toNatClampNeg)) L) _ := k_eq hP (wsX7_a1 cs a S_109 L x2_109.toNatClampNeg (S_109 17 x2_109.toNatClampNeg))
        have hD := hDA (k_w S_109 1 x2_109.toNatClampNeg (S_109 17 x2_109.toNatClampNeg)) L
        refine lv_iinc (v := x2_109 + (1 : Int32)) (lv' := [(2, .int (x2_109 + (1 : Int32))), (0, .ref (a 0)), (1, .int x1_109)]) hx hb dX7_read_128 hl (k := 2) rfl rfl (by decide) rfl (fun ls hl => ?_)
        refine lv_goto (tgt := 109) hx hb dX7_read_131 (by decide) ?_
        exact ih1 x1_109 (x2_109 + (1 : Int32)) (k_w S_109 1 x2_109.toNatClampNeg (S_109 17 x2_109.toNatClampNeg)) _ _ _ (dn_bk hd hy1) (lv_sub hl [1, 2, 0] rfl) hP hS
  have Lo67 : ∀ (n1 : Nat) (x1_67 : Int32) (S_67 : Nat → Nat → Int32) (H : Heap) (locs : List Loc) (ls : Array Slot), k_it (fun st => nX7_read_l67 st.1 st.2 L) n1 (x1_67, S_67) = some (r9, S9) → lv_has ls 3 [(0, .ref (a 0)), (1, .int x1_67)] → va_P D vwCl (wX7 cs a S_67 L) H → va_S A s.heap H locs → W p l e (headSpec wsX7_read ({ frames := 7, cells := 0, slots := 0, locals := 171 })).room s m ([.ref (a 0)] : List Value).toArray below meth c H locs 0 0 Q (F0 m 67 ls []) := by
    intro n1
    induction n1 with
    | zero => intro x1_67 S_67 H locs ls hd; exact dn_it0 hd
    | succ n1 ih1 =>
      intro x1_67 S_67 H locs ls hd hl hP hS
      have hD := hDA S_67 L
      obtain ⟨y1, hd, hy1⟩ := dn_it hd
      have hd : nX7_read_l67 x1_67 S_67 L = some y1 := hd
      unfold nX7_read_l67 at hd
      refine lv_aload_n hx hb dX7_read_67 rfl (lv_at hl 0 rfl) ?_
      refine va_get (D := D) (ci := 5) (v := .int (S_67 0 21)) (C := RX7) (T := TX7) (N := 25) hx hb hts (fun w h => List.mem_cons_of_mem _ (List.mem_append_right _ h)) hown hK hP 0 rfl rfl 21 (by decide) (hts (.fieldLink RX7 271 "LeastNeedModel" "token" "I") (List.mem_of_getElem? (i := 2) rfl)) (fun _ h9 => h9) rfl dX7_read_68 ?_
      refine lv_if_eq (tgt := 107) hx hb dX7_read_71 (by decide) (fun c71 => ?_) (fun c71 => ?_)
      · have hd := dn_t c71 hd
        have hd := dn_up hd hy1
        refine lv_iconst (v := (0 : Int32)) hx hb dX7_read_107 (by decide) ?_
        refine lv_istore_n (lv' := [(2, .int (0 : Int32)), (0, .ref (a 0)), (1, .int x1_67)]) hx hb dX7_read_108 rfl hl (by decide) rfl (fun ls hl => ?_)
        exact Lo109 1000 x1_67 (0 : Int32) S_67 _ _ _ hd (lv_sub hl [1, 2, 0] rfl) hP hS
      · have hd := dn_f c71 hd
        refine lv_aload_n hx hb dX7_read_74 rfl (lv_at hl 0 rfl) ?_
        obtain ⟨r75, S75, hq75, hd⟩ := dn_b2 hd
        have hF := k_self hD hS hA
        refine k_run_i (va_runV (As := []) (rest := []) ⟨hx, hb, hml, hown, hts⟩ (mX7_takesItem l D cs a S_67 L r75 S75 hq75 _) (cwV 0 hts gX7_read_X7_takesItem rfl rfl rfl (by decide +kernel) ⟨Nat.le_of_ble_eq_true rfl, Nat.le_of_ble_eq_true rfl⟩) ⟨k_blind, va_recv hK hP (ci := 5) (q0 := 0) rfl rfl, k_pre hP hK hNn hD⟩ rfl rfl hl.1 rfl (lv_room (Nat.le_of_ble_eq_true rfl)) dX7_read_75 ⟨Nat.le_of_ble_eq_true rfl, Nat.le_of_ble_eq_true rfl⟩) hS hF (fun H locs hP1 hk hS => ?_)
        have hP : va_P D vwCl (wX7 cs a S75 L) _ := hP1
        have hD := hDA S75 L
        refine lv_if_eq (tgt := 89) hx hb dX7_read_78 (by decide) (fun c78 => ?_) (fun c78 => ?_)
        · have hd := dn_t c78 hd
          have hd := dn_up hd hy1
          refine lv_bipush (v := (-10 : Int32)) hx hb dX7_read_89 (by decide) ?_
          refine lv_aload_n hx hb dX7_read_91 rfl (lv_at hl 0 rfl) ?_
          refine va_get (D := D) (ci := 5) (v := .int (S75 0 19)) (C := RX7) (T := TX7) (N := 25) hx hb hts (fun w h => List.mem_cons_of_mem _ (List.mem_append_right _ h)) hown hK hP 0 rfl rfl 19 (by decide) (hts (.fieldLink RX7 265 "LeastNeedModel" "tokenAt" "I") (List.mem_of_getElem? (i := 1) rfl)) (fun _ h9 => h9) rfl dX7_read_92 ?_
          refine lv_isub hx hb dX7_read_95 ?_
          obtain ⟨e1, e2⟩ := dn_s2 hd
          exact k_iret hx hb hr hQ hAe e1 (by rw [e2]) hP hS hlocks dX7_read_96
        · have hd := dn_f c78 hd
          refine lv_aload_n hx hb dX7_read_81 rfl (lv_at hl 0 rfl) ?_
          refine va_get (D := D) (ci := 5) (v := .int (S75 0 21)) (C := RX7) (T := TX7) (N := 25) hx hb hts (fun w h => List.mem_cons_of_mem _ (List.mem_append_right _ h)) hown hK hP 0 rfl rfl 21 (by decide) (hts (.fieldLink RX7 271 "LeastNeedModel" "token" "I") (List.mem_of_getElem? (i := 2) rfl)) (fun _ h9 => h9) rfl dX7_read_82 ?_
          refine lv_iconst (v := (3 : Int32)) hx hb dX7_read_85 (by decide) ?_
          refine lv_icmp_eq (tgt := 97) hx hb dX7_read_86 (by decide) (fun c86 => ?_) (fun c86 => ?_)
          · have hd := dn_t c86 hd
            refine lv_aload_n hx hb dX7_read_97 rfl (lv_at hl 0 rfl) ?_
            obtain ⟨S98, hq98, hd⟩ := dn_b1 hd
            have hF := k_self hD hS hA
            refine k_run_v (va_runV (As := []) (rest := []) ⟨hx, hb, hml, hown, hts⟩ (mX7_goBehind l D cs a S75 L S98 hq98 _) (cwV 0 hts gX7_read_X7_goBehind rfl rfl rfl (by decide +kernel) ⟨Nat.le_of_ble_eq_true rfl, Nat.le_of_ble_eq_true rfl⟩) ⟨k_blind, va_recv hK hP (ci := 5) (q0 := 0) rfl rfl, k_pre hP hK hNn hD⟩ rfl rfl hl.1 rfl (lv_room (Nat.le_of_ble_eq_true rfl)) dX7_read_98 ⟨Nat.le_of_ble_eq_true rfl, Nat.le_of_ble_eq_true rfl⟩) hS hF (fun H locs hP1 hk hS => ?_)
            have hP : va_P D vwCl (wX7 cs a S98 L) _ := hP1
            have hD := hDA S98 L
            refine lv_iinc (v := x1_67 + (1 : Int32)) (lv' := [(1, .int (x1_67 + (1 : Int32))), (0, .ref (a 0))]) hx hb dX7_read_101 hl (k := 1) rfl rfl (by decide) rfl (fun ls hl => ?_)
            refine lv_goto (tgt := 67) hx hb dX7_read_104 (by decide) ?_
            exact ih1 (x1_67 + (1 : Int32)) S98 _ _ _ (dn_bk hd hy1) (lv_sub hl [1, 0] rfl) hP hS
          · have hd := dn_f c86 hd
            have hd := dn_up hd hy1
            refine lv_bipush (v := (-10 : Int32)) hx hb dX7_read_89 (by decide) ?_
            refine lv_aload_n hx hb dX7_read_91 rfl (lv_at hl 0 rfl) ?_
            refine va_get (D := D) (ci := 5) (v := .int (S75 0 19)) (C := RX7) (T := TX7) (N := 25) hx hb hts (fun w h => List.mem_cons_of_mem _ (List.mem_append_right _ h)) hown hK hP 0 rfl rfl 19 (by decide) (hts (.fieldLink RX7 265 "LeastNeedModel" "tokenAt" "I") (List.mem_of_getElem? (i := 1) rfl)) (fun _ h9 => h9) rfl dX7_read_92 ?_
            refine lv_isub hx hb dX7_read_95 ?_
            obtain ⟨e1, e2⟩ := dn_s2 hd
            exact k_iret hx hb hr hQ hAe e1 (by rw [e2]) hP hS hlocks dX7_read_96
  unfold nX7_read at hd
  refine lv_aload_n hx hb dX7_read_0 rfl (lv_at hl 0 rfl) ?_
  refine lv_iconst (v := (0 : Int32)) hx hb dX7_read_1 (by decide) ?_
  obtain ⟨S2, hq2, hd⟩ := dn_b1 hd
  have hF := k_self hD hS hA
  refine k_run_v (va_runV (As := [.int (0 : Int32)]) (rest := []) ⟨hx, hb, hml, hown, hts⟩ (mX7_lookAt l D cs a S L (0 : Int32) S2 hq2 _) (cwV 1 hts gX7_read_X7_lookAt rfl rfl rfl (by decide +kernel) ⟨Nat.le_of_ble_eq_true rfl, Nat.le_of_ble_eq_true rfl⟩) ⟨k_blind, va_recv hK hP (ci := 5) (q0 := 0) rfl rfl, k_pre hP hK hNn hD⟩ rfl rfl hl.1 rfl (lv_room (Nat.le_of_ble_eq_true rfl)) dX7_read_2 ⟨Nat.le_of_ble_eq_true rfl, Nat.le_of_ble_eq_true rfl⟩) hS hF (fun H locs hP1 hk hS => ?_)
  have hP : va_P D vwCl (wX7 cs a S2 L) _ := hP1
  have hD := hDA S2 L
  refine lv_aload_n hx hb dX7_read_5 rfl (lv_at hl 0 rfl) ?_
  refine lv_bipush (v := (6 : Int32)) hx hb dX7_read_6 (by decide) ?_
  refine lv_bipush (v := (118 : Int32)) hx hb dX7_read_8 (by decide) ?_
  refine lv_bipush (v := (97 : Int32)) hx hb dX7_read_10 (by decide) ?_
  refine lv_bipush (v := (108 : Int32)) hx hb dX7_read_12 (by decide) ?_
  refine lv_bipush (v := (108 : Int32)) hx hb dX7_read_14 (by decide) ?_
  refine lv_bipush (v := (101 : Int32)) hx hb dX7_read_16 (by decide) ?_
  refine lv_bipush (v := (121 : Int32)) hx hb dX7_read_18 (by decide) ?_
  obtain ⟨r20, hq20, hd⟩ := dn_b1 hd
  have hF := k_self hD hS hA
  refine k_run_i (va_runV (As := [.int (6 : Int32), .int (118 : Int32), .int (97 : Int32), .int (108 : Int32), .int (108 : Int32), .int (101 : Int32), .int (121 : Int32)]) (rest := []) ⟨hx, hb, hml, hown, hts⟩ (mX7_spells l D cs a S2 L (6 : Int32) (118 : Int32) (97 : Int32) (108 : Int32) (108 : Int32) (101 : Int32) (121 : Int32) r20 hq20 _) (cwV 7 hts gX7_read_X7_spells rfl rfl rfl (by decide +kernel) ⟨Nat.le_of_ble_eq_true rfl, Nat.le_of_ble_eq_true rfl⟩) ⟨k_blind, va_recv hK hP (ci := 5) (q0 := 0) rfl rfl, k_pre hP hK hNn hD⟩ rfl rfl hl.1 rfl (lv_room (Nat.le_of_ble_eq_true rfl)) dX7_read_20 ⟨Nat.le_of_ble_eq_true rfl, Nat.le_of_ble_eq_true rfl⟩) hS hF (fun H locs hP1 hk hS => ?_)
  have hP : va_P D vwCl (wX7 cs a S2 L) _ := hP1
  have hD := hDA S2 L
  refine lv_if_ne (tgt := 34) hx hb dX7_read_23 (by decide) (fun c23 => ?_) (fun c23 => ?_)
  · have hd := dn_f c23 hd
    refine lv_aload_n hx hb dX7_read_34 rfl (lv_at hl 0 rfl) ?_
    obtain ⟨S35, hq35, hd⟩ := dn_b1 hd
    have hF := k_self hD hS hA
    refine k_run_v (va_runV (As := []) (rest := []) ⟨hx, hb, hml, hown, hts⟩ (mX7_goBehind l D cs a S2 L S35 hq35 _) (cwV 0 hts gX7_read_X7_goBehind rfl rfl rfl (by decide +kernel) ⟨Nat.le_of_ble_eq_true rfl, Nat.le_of_ble_eq_true rfl⟩) ⟨k_blind, va_recv hK hP (ci := 5) (q0 := 0) rfl rfl, k_pre hP hK hNn hD⟩ rfl rfl hl.1 rfl (lv_room (Nat.le_of_ble_eq_true rfl)) dX7_read_35 ⟨Nat.le_of_ble_eq_true rfl, Nat.le_of_ble_eq_true rfl⟩) hS hF (fun H locs hP1 hk hS => ?_)
    have hP : va_P D vwCl (wX7 cs a S35 L) _ := hP1
    have hD := hDA S35 L
    refine lv_aload_n hx hb dX7_read_38 rfl (lv_at hl 0 rfl) ?_
    refine va_get (D := D) (ci := 5) (v := .int (S35 0 21)) (C := RX7) (T := TX7) (N := 25) hx hb hts (fun w h => List.mem_cons_of_mem _ (List.mem_append_right _ h)) hown hK hP 0 rfl rfl 21 (by decide) (hts (.fieldLink RX7 271 "LeastNeedModel" "token" "I") (List.mem_of_getElem? (i := 2) rfl)) (fun _ h9 => h9) rfl dX7_read_39 ?_
    refine lv_iconst (v := (3 : Int32)) hx hb dX7_read_42 (by decide) ?_
    refine lv_icmp_eq (tgt := 54) hx hb dX7_read_43 (by decide) (fun c43 => ?_) (fun c43 => ?_)
    · have hd := dn_t c43 hd
      refine lv_aload_n hx hb dX7_read_54 rfl (lv_at hl 0 rfl) ?_
      obtain ⟨S55, hq55, hd⟩ := dn_b1 hd
      have hF := k_self hD hS hA
      refine k_run_v (va_runV (As := []) (rest := []) ⟨hx, hb, hml, hown, hts⟩ (mX7_goBehind l D cs a S35 L S55 hq55 _) (cwV 0 hts gX7_read_X7_goBehind rfl rfl rfl (by decide +kernel) ⟨Nat.le_of_ble_eq_true rfl, Nat.le_of_ble_eq_true rfl⟩) ⟨k_blind, va_recv hK hP (ci := 5) (q0 := 0) rfl rfl, k_pre hP hK hNn hD⟩ rfl rfl hl.1 rfl (lv_room (Nat.le_of_ble_eq_true rfl)) dX7_read_55 ⟨Nat.le_of_ble_eq_true rfl, Nat.le_of_ble_eq_true rfl⟩) hS hF (fun H locs hP1 hk hS => ?_)
      have hP : va_P D vwCl (wX7 cs a S55 L) _ := hP1
      have hD := hDA S55 L
      refine lv_aload_n hx hb dX7_read_58 rfl (lv_at hl 0 rfl) ?_
      refine va_get (D := D) (ci := 5) (v := .ref (a 17)) (C := RX7) (T := TX7) (N := 25) hx hb hts (fun w h => List.mem_cons_of_mem _ (List.mem_append_right _ h)) hown hK hP 0 rfl rfl 23 (by decide) (hts (.fieldLink RX7 64 "LeastNeedModel" "anew" "[I") (List.mem_of_getElem? (i := 3) rfl)) (fun _ h9 => h9) rfl dX7_read_59 ?_
      obtain ⟨S62, hq62, hd⟩ := dn_b1 hd
      have hF := k_self hD hS hA
      refine k_run_v (va_runS (As := [.ref (a 17)]) (rest := []) ⟨hx, hb, hml, hown, hts⟩ (mX7_begin_17 l D cs a S55 L S62 hq62 _) (va_cwS 1 hts gX7_read_X7_begin rfl rfl rfl (by decide +kernel) ⟨Nat.le_of_ble_eq_true rfl, Nat.le_of_ble_eq_true rfl⟩) ⟨k_blind, k_pre hP hK hNn hD⟩ rfl rfl hl.1 rfl (lv_room (Nat.le_of_ble_eq_true rfl)) dX7_read_62 ⟨Nat.le_of_ble_eq_true rfl, Nat.le_of_ble_eq_true rfl⟩) hS hF (fun H locs hP1 hk hS => ?_)
      have hP : va_P D vwCl (wX7 cs a S62 L) _ := hP1
      have hD := hDA S62 L
      refine lv_iconst (v := (1 : Int32)) hx hb dX7_read_65 (by decide) ?_
      refine lv_istore_n (lv' := [(1, .int (1 : Int32)), (0, .ref (a 0))]) hx hb dX7_read_66 rfl hl (by decide) rfl (fun ls hl => ?_)
      exact Lo67 1000 (1 : Int32) S62 _ _ _ hd (lv_sub hl [1, 0] rfl) hP hS
    · have hd := dn_f c43 hd
      refine lv_bipush (v := (-10 : Int32)) hx hb dX7_read_46 (by decide) ?_
      refine lv_aload_n hx hb dX7_read_48 rfl (lv_at hl 0 rfl) ?_
      refine va_get (D := D) (ci := 5) (v := .int (S35 0 19)) (C := RX7) (T := TX7) (N := 25) hx hb hts (fun w h => List.mem_cons_of_mem _ (List.mem_append_right _ h)) hown hK hP 0 rfl rfl 19 (by decide) (hts (.fieldLink RX7 265 "LeastNeedModel" "tokenAt" "I") (List.mem_of_getElem? (i := 1) rfl)) (fun _ h9 => h9) rfl dX7_read_49 ?_
      refine lv_isub hx hb dX7_read_52 ?_
      obtain ⟨e1, e2⟩ := dn_s2 hd
      exact k_iret hx hb hr hQ hAe e1 (by rw [e2]) hP hS hlocks dX7_read_53
  · have hd := dn_t c23 hd
    refine lv_bipush (v := (-10 : Int32)) hx hb dX7_read_26 (by decide) ?_
    refine lv_aload_n hx hb dX7_read_28 rfl (lv_at hl 0 rfl) ?_
    refine va_get (D := D) (ci := 5) (v := .int (S2 0 19)) (C := RX7) (T := TX7) (N := 25) hx hb hts (fun w h => List.mem_cons_of_mem _ (List.mem_append_right _ h)) hown hK hP 0 rfl rfl 19 (by decide) (hts (.fieldLink RX7 265 "LeastNeedModel" "tokenAt" "I") (List.mem_of_getElem? (i := 1) rfl)) (fun _ h9 => h9) rfl dX7_read_29 ?_
    refine lv_isub hx hb dX7_read_32 ?_
    obtain ⟨e1, e2⟩ := dn_s2 hd
    exact k_iret hx hb hr hQ hAe e1 (by rw [e2]) hP hS hlocks dX7_read_33
-- LeastNeedModel.part(I)J
set_option maxRecDepth 20000 in
def nX7_part (S : Nat → Nat → Int32) (L : Nat → Nat → Int64) (p1 : Int32) : Option (Int64 × (Nat → Nat → Int32)) := if p1 = 0 then some ((L 0 4), S) else if p1 = (1 : Int32) then some ((L 0 5), S) else k_b2 (nX7_bad S L (-2 : Int32)) (fun r26 S26 => some (r26.toInt64, S26))
set_option maxHeartbeats 4000000 in
set_option maxRecDepth 100000 in
theorem mX7_part (l : Launch) (D : va_G) (cs : Nat → ClassId) (a : Nat → Nat) (S : Nat → Nat → Int32) (L : Nat → Nat → Int64) (p1 : Int32) (r9 : Int64) (S9 : (Nat → Nat → Int32)) (hd : nX7_part S L p1 = some (r9, S9)) : ∀ sz : Nat, Met l yX7_part wsX7_part ({ frames := 1, cells := 0, slots := 0, locals := 21 }) (k_Pc D cs [.ref (a 0), .int p1] (wX7 cs a S L) sz) (k_Ql D r9 (wX7 cs a S L) (wX7 cs a S9 L) sz) 0 0 (va_A (wX7 cs a S L) sz) := by
  intro sz
  refine Met.ofW (cc := cX7_part) (maxL := 2) (ret := (some .long)) (by decide) rfl ?_
  intro p e s m args below meth c s₁ B hml hv
  obtain ⟨rfl, hsz, hP, hK, hD0, hNn⟩ := hv
  have hx := B.exec
  have hb := B.bytes
  have hr := B.returns
  have hts := atoms_spec (ws := wsX7_part) B.pre
  have hown : s.vm.findClass RX7 = some m.cls := findClass_of_methodNamed B.named
  have hlocks := B.notSynchronized
  subst hsz
  obtain ⟨A, hAe⟩ : ∃ A : Nat → Prop, A = va_A (wX7 cs a S L) s.heap.size := ⟨_, rfl⟩
  have hD : va_D A (wX7 cs a S L) := by rw [hAe]; exact hD0.self
  have hA : ∀ q : Nat, s.heap.size ≤ q → A q := fun q h => by rw [hAe]; exact Or.inr h
  have hS : va_S A s.heap s.heap [] := va_S.rf
  have hDA : ∀ (S : Nat → Nat → Int32) (L : Nat → Nat → Int64), va_D A (wX7 cs a S L) := fun S L => k_DA hD rfl
  have hl := lv_entry ([.ref (a 0), .int p1]) (n := 2) (Nat.le_of_ble_eq_true rfl)
  rw [lg_entry_eq]
  generalize (lg_sl ([.ref (a 0), .int p1]) ++ List.replicate (2 - (lg_sl ([.ref (a 0), .int p1])).length) Slot.unset).toArray = ls at hl ⊢
  have hl : lv_has ls 2 [(0, .ref (a 0)), (1, .int p1)] := hl
  obtain ⟨Q, hQ⟩ : ∃ Q, Q = MQ below (k_Ql D r9 (wX7 cs a S L) (wX7 cs a S9 L) s.heap.size) ([.ref (a 0), .int p1] : List Value).toArray s 0 0 (va_A (wX7 cs a S L) s.heap.size) := ⟨_, rfl⟩
  rw [← hQ]
  unfold nX7_part at hd
  refine lv_iload_n hx hb dX7_part_0 rfl (lv_at hl 1 rfl) ?_
  refine lv_if_ne (tgt := 11) hx hb dX7_part_1 (by decide) (fun c1 => ?_) (fun c1 => ?_)
  · have hd := dn_f c1 hd
    refine lv_iload_n hx hb dX7_part_11 rfl (lv_at hl 1 rfl) ?_
    refine lv_iconst (v := (1 : Int32)) hx hb dX7_part_12 (by decide) ?_
    refine lv_icmp_ne (tgt := 23) hx hb dX7_part_13 (by decide) (fun c13 => ?_) (fun c13 => ?_)
    · have hd := dn_f c13 hd
      refine lv_aload_n hx hb dX7_part_23 rfl (lv_at hl 0 rfl) ?_
      refine lv_bipush (v := (-2 : Int32)) hx hb dX7_part_24 (by decide) ?_
      obtain ⟨r26, S26, hq26, hd⟩ := dn_b2 hd
      have hF := k_self hD hS hA
      refine k_run_i (va_runV (As := [.int (-2 : Int32)]) (rest := []) ⟨hx, hb, hml, hown, hts⟩ (mX7_bad l D cs a S L (-2 : Int32) r26 S26 hq26 _) (cwV 1 hts gX7_part_X7_bad rfl rfl rfl (by decide +kernel) ⟨Nat.le_of_ble_eq_true rfl, Nat.le_of_ble_eq_true rfl⟩) ⟨k_blind, va_recv hK hP (ci := 5) (q0 := 0) rfl rfl, k_pre hP hK hNn hD⟩ rfl rfl hl.1 rfl (lv_room (Nat.le_of_ble_eq_true rfl)) dX7_part_26 ⟨Nat.le_of_ble_eq_true rfl, Nat.le_of_ble_eq_true rfl⟩) hS hF (fun H locs hP1 hk hS => ?_)
      have hP : va_P D vwCl (wX7 cs a S26 L) _ := hP1
      have hD := hDA S26 L
      refine lv_i2l hx hb dX7_part_29 rfl ?_
      obtain ⟨e1, e2⟩ := dn_s2 hd
      exact k_lret hx hb hr hQ hAe e1 (by rw [e2]) hP hS hlocks dX7_part_30
    · have hd := dn_t c13 hd
      refine lv_aload_n hx hb dX7_part_16 rfl (lv_at hl 0 rfl) ?_
      refine va_get (D := D) (ci := 5) (v := .long (L 0 5)) (C := RX7) (T := TX7) (N := 25) hx hb hts (fun w h => List.mem_cons_of_mem _ (List.mem_append_right _ h)) hown hK hP 0 rfl rfl 5 (by decide) (hts (.fieldLink RX7 23 "LeastNeedModel" "below" "J") (List.mem_of_getElem? (i := 2) rfl)) (fun _ h9 => h9) rfl dX7_part_17 ?_
      refine lv_goto (tgt := 30) hx hb dX7_part_20 (by decide) ?_
      obtain ⟨e1, e2⟩ := dn_s2 hd
      exact k_lret hx hb hr hQ hAe e1 (by rw [e2]) hP hS hlocks dX7_part_30
  · have hd := dn_t c1 hd
    refine lv_aload_n hx hb dX7_part_4 rfl (lv_at hl 0 rfl) ?_
    refine va_get (D := D) (ci := 5) (v := .long (L 0 4)) (C := RX7) (T := TX7) (N := 25) hx hb hts (fun w h => List.mem_cons_of_mem _ (List.mem_append_right _ h)) hown hK hP 0 rfl rfl 4 (by decide) (hts (.fieldLink RX7 223 "LeastNeedModel" "above" "J") (List.mem_of_getElem? (i := 1) rfl)) (fun _ h9 => h9) rfl dX7_part_5 ?_
    refine lv_goto (tgt := 30) hx hb dX7_part_8 (by decide) ?_
    obtain ⟨e1, e2⟩ := dn_s2 hd
    exact k_lret hx hb hr hQ hAe e1 (by rw [e2]) hP hS hlocks dX7_part_30
-- LeastNeedModel.image(I)I
set_option maxRecDepth 20000 in
def nX7_image_l19 (p1 : Int32) (x2_19 : Int32) (S_19 : Nat → Nat → Int32) (L : Nat → Nat → Int64) : Option ((Int32 × (Nat → Nat → Int32)) ⊕ (Int32 × (Nat → Nat → Int32))) := if (284 : Int32) ≤ x2_19 then k_up (if p1 < 0 ∨ 2 ≤ p1.toNatClampNeg then none else some ((1 : Int32), (k_w S_19 3 p1.toNatClampNeg (vp_nar .boolean (1 : Int32))))) else if x2_19 < 0 ∨ 284 ≤ x2_19.toNatClampNeg then none else if (((284 : Int32) * p1) + x2_19) < 0 ∨ 568 ≤ (((284 : Int32) * p1) + x2_19).toNatClampNeg then none else some (.inl ((x2_19 + (1 : Int32)), (k_w S_19 2 ((((284 : Int32) * p1) + x2_19).toNatClampNeg) (S_19 1 x2_19.toNatClampNeg))))
set_option maxRecDepth 20000 in
def nX7_image (S : Nat → Nat → Int32) (L : Nat → Nat → Int64) (p1 : Int32) : Option (Int32 × (Nat → Nat → Int32)) := k_b1 (nX7_in p1.toInt64 (0 : Int64) (1 : Int64)) (fun r4 => if r4 = 0 then k_b2 (nX7_bad S L (-2 : Int32)) (fun r13 S13 => some (r13, S13)) else k_it (fun st => nX7_image_l19 p1 st.1 st.2 L) 1000 ((0 : Int32), S))
set_option maxHeartbeats 4000000 in
set_option maxRecDepth 100000 in
theorem mX7_image (l : Launch) (D : va_G) (cs : Nat → ClassId) (a : Nat → Nat) (S : Nat → Nat → Int32) (L : Nat → Nat → Int64) (p1 : Int32) (r9 : Int32) (S9 : (Nat → Nat → Int32)) (hd : nX7_image S L p1 = some (r9, S9)) : ∀ sz : Nat, Met l yX7_image wsX7_image ({ frames := 1, cells := 0, slots := 0, locals := 25 }) (k_Pc D cs [.ref (a 0), .int p1] (wX7 cs a S L) sz) (k_Qi D r9 (wX7 cs a S L) (wX7 cs a S9 L) sz) 0 0 (va_A (wX7 cs a S L) sz) := by
  intro sz
  refine Met.ofW (cc := cX7_image) (maxL := 3) (ret := (some .int)) (by decide) rfl ?_
  intro p e s m args below meth c s₁ B hml hv
  obtain ⟨rfl, hsz, hP, hK, hD0, hNn⟩ := hv
  have hx := B.exec
  have hb := B.bytes
  have hr := B.returns
  have hts := atoms_spec (ws := wsX7_image) B.pre
  have hown : s.vm.findClass RX7 = some m.cls := findClass_of_methodNamed B.named
  have hlocks := B.notSynchronized
  subst hsz
  obtain ⟨A, hAe⟩ : ∃ A : Nat → Prop, A = va_A (wX7 cs a S L) s.heap.size := ⟨_, rfl⟩
  have hD : va_D A (wX7 cs a S L) := by rw [hAe]; exact hD0.self
  have hA : ∀ q : Nat, s.heap.size ≤ q → A q := fun q h => by rw [hAe]; exact Or.inr h
  have hS : va_S A s.heap s.heap [] := va_S.rf
  have hDA : ∀ (S : Nat → Nat → Int32) (L : Nat → Nat → Int64), va_D A (wX7 cs a S L) := fun S L => k_DA hD rfl
  have hl := lv_entry ([.ref (a 0), .int p1]) (n := 3) (Nat.le_of_ble_eq_true rfl)
  rw [lg_entry_eq]
  generalize (lg_sl ([.ref (a 0), .int p1]) ++ List.replicate (3 - (lg_sl ([.ref (a 0), .int p1])).length) Slot.unset).toArray = ls at hl ⊢
  have hl : lv_has ls 3 [(0, .ref (a 0)), (1, .int p1)] := hl
  obtain ⟨Q, hQ⟩ : ∃ Q, Q = MQ below (k_Qi D r9 (wX7 cs a S L) (wX7 cs a S9 L) s.heap.size) ([.ref (a 0), .int p1] : List Value).toArray s 0 0 (va_A (wX7 cs a S L) s.heap.size) := ⟨_, rfl⟩
  rw [← hQ]
  have Lo19 : ∀ (n1 : Nat) (x2_19 : Int32) (S_19 : Nat → Nat → Int32) (H : Heap) (locs : List Loc) (ls : Array Slot), k_it (fun st => nX7_image_l19 p1 st.1 st.2 L) n1 (x2_19, S_19) = some (r9, S9) → lv_has ls 3 [(0, .ref (a 0)), (1, .int p1), (2, .int x2_19)] → va_P D vwCl (wX7 cs a S_19 L) H → va_S A s.heap H locs → W p l e (headSpec wsX7_image ({ frames := 1, cells := 0, slots := 0, locals := 25 })).room s m ([.ref (a 0), .int p1] : List Value).toArray below meth c H locs 0 0 Q (F0 m 19 ls []) := by
    intro n1
    induction n1 with
    | zero => intro x2_19 S_19 H locs ls hd; exact dn_it0 hd
    | succ n1 ih1 =>
      intro x2_19 S_19 H locs ls hd hl hP hS
      have hD := hDA S_19 L
      obtain ⟨y1, hd, hy1⟩ := dn_it hd
      have hd : nX7_image_l19 p1 x2_19 S_19 L = some y1 := hd
      unfold nX7_image_l19 at hd
      refine lv_iload_n hx hb dX7_image_19 rfl (lv_at hl 2 rfl) ?_
      refine lv_sipush (v := (284 : Int32)) hx hb dX7_image_20 (by decide) ?_
      refine lv_icmp_ge (tgt := 50) hx hb dX7_image_23 (by decide) (fun c23 => ?_) (fun c23 => ?_)
      · have hd := dn_t c23 hd
        have hd := dn_up hd hy1
        refine lv_aload_n hx hb dX7_image_50 rfl (lv_at hl 0 rfl) ?_
        refine va_get (D := D) (ci := 5) (v := .ref (a 3)) (C := RX7) (T := TX7) (N := 25) hx hb hts (fun w h => List.mem_cons_of_mem _ (List.mem_append_right _ h)) hown hK hP 0 rfl rfl 2 (by decide) (hts (.fieldLink RX7 16 "LeastNeedModel" "isKept" "[Z") (List.mem_of_getElem? (i := 3) rfl)) (fun _ h9 => h9) rfl dX7_image_51 ?_
        refine lv_iload_n hx hb dX7_image_54 rfl (lv_at hl 1 rfl) ?_
        refine lv_iconst (v := (1 : Int32)) hx hb dX7_image_55 (by decide) ?_
        obtain ⟨hi56, hd⟩ := dn_i hd
        refine k_zast (D := D) (k := p1.toNatClampNeg) (by rfl) hx hb hK hP hD hS 3 3 rfl rfl hi56 dX7_image_56 (fun H locs hP hD hS => ?_)
        have hP : va_P D vwCl (wX7 cs a (k_w S_19 3 p1.toNatClampNeg (vp_nar .boolean (1 : Int32))) L) _ := k_eq hP (wsX7_a3 cs a S_19 L p1.toNatClampNeg (vp_nar .boolean (1 : Int32)))
        have hD := hDA (k_w S_19 3 p1.toNatClampNeg (vp_nar .boolean (1 : Int32))) L
        refine lv_iconst (v := (1 : Int32)) hx hb dX7_image_57 (by decide) ?_
        obtain ⟨e1, e2⟩ := dn_s2 hd
        exact k_iret hx hb hr hQ hAe e1 (by rw [e2]) hP hS hlocks dX7_image_58
      · have hd := dn_f c23 hd
        refine lv_aload_n hx hb dX7_image_26 rfl (lv_at hl 0 rfl) ?_
        refine va_get (D := D) (ci := 5) (v := .ref (a 2)) (C := RX7) (T := TX7) (N := 25) hx hb hts (fun w h => List.mem_cons_of_mem _ (List.mem_append_right _ h)) hown hK hP 0 rfl rfl 1 (by decide) (hts (.fieldLink RX7 13 "LeastNeedModel" "kept" "[I") (List.mem_of_getElem? (i := 1) rfl)) (fun _ h9 => h9) rfl dX7_image_27 ?_
        refine lv_sipush (v := (284 : Int32)) hx hb dX7_image_30 (by decide) ?_
        refine lv_iload_n hx hb dX7_image_33 rfl (lv_at hl 1 rfl) ?_
        refine lv_imul hx hb dX7_image_34 ?_
        refine lv_iload_n hx hb dX7_image_35 rfl (lv_at hl 2 rfl) ?_
        refine lv_iadd hx hb dX7_image_36 ?_
        refine lv_aload_n hx hb dX7_image_37 rfl (lv_at hl 0 rfl) ?_
        refine va_get (D := D) (ci := 5) (v := .ref (a 1)) (C := RX7) (T := TX7) (N := 25) hx hb hts (fun w h => List.mem_cons_of_mem _ (List.mem_append_right _ h)) hown hK hP 0 rfl rfl 0 (by decide) (hts (.fieldLink RX7 7 "LeastNeedModel" "told" "[I") (List.mem_of_getElem? (i := 2) rfl)) (fun _ h9 => h9) rfl dX7_image_38 ?_
        refine lv_iload_n hx hb dX7_image_41 rfl (lv_at hl 2 rfl) ?_
        obtain ⟨hi42, hd⟩ := dn_i hd
        refine k_iald (D := D) (k := x2_19.toNatClampNeg) (by rfl) hx hb hK hP 1 1 rfl rfl hi42 dX7_image_42 ?_
        obtain ⟨hi43, hd⟩ := dn_i hd
        refine k_iast (D := D) (k := (((284 : Int32) * p1) + x2_19).toNatClampNeg) (by rfl) hx hb hK hP hD hS 2 1 rfl rfl hi43 dX7_image_43 (fun H locs hP hD hS => ?_)
        have hP : va_P D vwCl (wX7 cs a (k_w S_19 2 ((((284 : Int32) * p1) + x2_19).toNatClampNeg) (S_19 1 x2_19.toNatClampNeg)) L) _ := k_eq hP (wsX7_a2 cs a S_19 L ((((284 : Int32) * p1) + x2_19).toNatClampNeg) (S_19 1 x2_19.toNatClampNeg))
        have hD := hDA (k_w S_19 2 ((((284 : Int32) * p1) + x2_19).toNatClampNeg) (S_19 1 x2_19.toNatClampNeg)) L
        refine lv_iinc (v := x2_19 + (1 : Int32)) (lv' := [(2, .int (x2_19 + (1 : Int32))), (0, .ref (a 0)), (1, .int p1)]) hx hb dX7_image_44 hl (k := 2) rfl rfl (by decide) rfl (fun ls hl => ?_)
        refine lv_goto (tgt := 19) hx hb dX7_image_47 (by decide) ?_
        exact ih1 (x2_19 + (1 : Int32)) (k_w S_19 2 ((((284 : Int32) * p1) + x2_19).toNatClampNeg) (S_19 1 x2_19.toNatClampNeg)) _ _ _ (dn_bk hd hy1) (lv_sub hl [1, 2, 0] rfl) hP hS
  unfold nX7_image at hd
  refine lv_iload_n hx hb dX7_image_0 rfl (lv_at hl 1 rfl) ?_
  refine lv_i2l hx hb dX7_image_1 rfl ?_
  refine lv_lconst (v := (0 : Int64)) hx hb dX7_image_2 (by decide) ?_
  refine lv_lconst (v := (1 : Int64)) hx hb dX7_image_3 (by decide) ?_
  obtain ⟨r4, hq4, hd⟩ := dn_b1 hd
  have hPc := k_P0 hP
  have hDc : va_D A ([] : va_W) := k_D0
  have hF := k_self hDc hS hA
  refine k_run_i (va_runS (As := [.long p1.toInt64, .long (0 : Int64), .long (1 : Int64)]) (rest := []) ⟨hx, hb, hml, hown, hts⟩ (mX7_in l D cs  p1.toInt64 (0 : Int64) (1 : Int64) r4 hq4 _) (va_cwS 3 hts gX7_image_X7_in rfl rfl rfl (by decide +kernel) ⟨Nat.le_of_ble_eq_true rfl, Nat.le_of_ble_eq_true rfl⟩) ⟨k_blind, k_pre hPc hK hNn hDc⟩ rfl rfl hl.1 rfl (lv_room (Nat.le_of_ble_eq_true rfl)) dX7_image_4 ⟨Nat.le_of_ble_eq_true rfl, Nat.le_of_ble_eq_true rfl⟩) hS hF (fun H locs hP1 hk hS => ?_)
  have hP : va_P D vwCl (wX7 cs a S L) _ := k_keep hP hk
  refine lv_if_ne (tgt := 17) hx hb dX7_image_7 (by decide) (fun c7 => ?_) (fun c7 => ?_)
  · have hd := dn_f c7 hd
    refine lv_iconst (v := (0 : Int32)) hx hb dX7_image_17 (by decide) ?_
    refine lv_istore_n (lv' := [(2, .int (0 : Int32)), (0, .ref (a 0)), (1, .int p1)]) hx hb dX7_image_18 rfl hl (by decide) rfl (fun ls hl => ?_)
    exact Lo19 1000 (0 : Int32) S _ _ _ hd (lv_sub hl [1, 2, 0] rfl) hP hS
  · have hd := dn_t c7 hd
    refine lv_aload_n hx hb dX7_image_10 rfl (lv_at hl 0 rfl) ?_
    refine lv_bipush (v := (-2 : Int32)) hx hb dX7_image_11 (by decide) ?_
    obtain ⟨r13, S13, hq13, hd⟩ := dn_b2 hd
    have hF := k_self hD hS hA
    refine k_run_i (va_runV (As := [.int (-2 : Int32)]) (rest := []) ⟨hx, hb, hml, hown, hts⟩ (mX7_bad l D cs a S L (-2 : Int32) r13 S13 hq13 _) (cwV 1 hts gX7_image_X7_bad rfl rfl rfl (by decide +kernel) ⟨Nat.le_of_ble_eq_true rfl, Nat.le_of_ble_eq_true rfl⟩) ⟨k_blind, va_recv hK hP (ci := 5) (q0 := 0) rfl rfl, k_pre hP hK hNn hD⟩ rfl rfl hl.1 rfl (lv_room (Nat.le_of_ble_eq_true rfl)) dX7_image_13 ⟨Nat.le_of_ble_eq_true rfl, Nat.le_of_ble_eq_true rfl⟩) hS hF (fun H locs hP1 hk hS => ?_)
    have hP : va_P D vwCl (wX7 cs a S13 L) _ := hP1
    have hD := hDA S13 L
    obtain ⟨e1, e2⟩ := dn_s2 hd
    exact k_iret hx hb hr hQ hAe e1 (by rw [e2]) hP hS hlocks dX7_image_16
-- LeastNeedModel.from(I)I
set_option maxRecDepth 20000 in
def nX7_from_l33 (p1 : Int32) (x2_33 : Int32) (S_33 : Nat → Nat → Int32) (L : Nat → Nat → Int64) : Option ((Int32 × (Nat → Nat → Int32)) ⊕ (Int32 × (Nat → Nat → Int32))) := if (284 : Int32) ≤ x2_33 then k_up (some ((1 : Int32), S_33)) else if (((284 : Int32) * p1) + x2_33) < 0 ∨ 568 ≤ (((284 : Int32) * p1) + x2_33).toNatClampNeg then none else if x2_33 < 0 ∨ 284 ≤ x2_33.toNatClampNeg then none else some (.inl ((x2_33 + (1 : Int32)), (k_w S_33 1 x2_33.toNatClampNeg (S_33 2 (((284 : Int32) * p1) + x2_33).toNatClampNeg))))
set_option maxRecDepth 20000 in
def nX7_from (S : Nat → Nat → Int32) (L : Nat → Nat → Int64) (p1 : Int32) : Option (Int32 × (Nat → Nat → Int32)) := k_b1 (nX7_in p1.toInt64 (0 : Int64) (1 : Int64)) (fun r4 => if r4 = 0 then k_b2 (nX7_bad S L (-2 : Int32)) (fun r13 S13 => some (r13, S13)) else if p1 < 0 ∨ 2 ≤ p1.toNatClampNeg then none else if (S 3 p1.toNatClampNeg) = 0 then k_b2 (nX7_no S L) (fun r27 S27 => some (r27, S27)) else k_it (fun st => nX7_from_l33 p1 st.1 st.2 L) 1000 ((0 : Int32), S))
set_option maxHeartbeats 4000000 in
set_option maxRecDepth 100000 in
theorem mX7_from (l : Launch) (D : va_G) (cs : Nat → ClassId) (a : Nat → Nat) (S : Nat → Nat → Int32) (L : Nat → Nat → Int64) (p1 : Int32) (r9 : Int32) (S9 : (Nat → Nat → Int32)) (hd : nX7_from S L p1 = some (r9, S9)) : ∀ sz : Nat, Met l yX7_from wsX7_from ({ frames := 1, cells := 0, slots := 0, locals := 25 }) (k_Pc D cs [.ref (a 0), .int p1] (wX7 cs a S L) sz) (k_Qi D r9 (wX7 cs a S L) (wX7 cs a S9 L) sz) 0 0 (va_A (wX7 cs a S L) sz) := by
  intro sz
  refine Met.ofW (cc := cX7_from) (maxL := 3) (ret := (some .int)) (by decide) rfl ?_
  intro p e s m args below meth c s₁ B hml hv
  obtain ⟨rfl, hsz, hP, hK, hD0, hNn⟩ := hv
  have hx := B.exec
  have hb := B.bytes
  have hr := B.returns
  have hts := atoms_spec (ws := wsX7_from) B.pre
  have hown : s.vm.findClass RX7 = some m.cls := findClass_of_methodNamed B.named
  have hlocks := B.notSynchronized
  subst hsz
  obtain ⟨A, hAe⟩ : ∃ A : Nat → Prop, A = va_A (wX7 cs a S L) s.heap.size := ⟨_, rfl⟩
  have hD : va_D A (wX7 cs a S L) := by rw [hAe]; exact hD0.self
  have hA : ∀ q : Nat, s.heap.size ≤ q → A q := fun q h => by rw [hAe]; exact Or.inr h
  have hS : va_S A s.heap s.heap [] := va_S.rf
  have hDA : ∀ (S : Nat → Nat → Int32) (L : Nat → Nat → Int64), va_D A (wX7 cs a S L) := fun S L => k_DA hD rfl
  have hl := lv_entry ([.ref (a 0), .int p1]) (n := 3) (Nat.le_of_ble_eq_true rfl)
  rw [lg_entry_eq]
  generalize (lg_sl ([.ref (a 0), .int p1]) ++ List.replicate (3 - (lg_sl ([.ref (a 0), .int p1])).length) Slot.unset).toArray = ls at hl ⊢
  have hl : lv_has ls 3 [(0, .ref (a 0)), (1, .int p1)] := hl
  obtain ⟨Q, hQ⟩ : ∃ Q, Q = MQ below (k_Qi D r9 (wX7 cs a S L) (wX7 cs a S9 L) s.heap.size) ([.ref (a 0), .int p1] : List Value).toArray s 0 0 (va_A (wX7 cs a S L) s.heap.size) := ⟨_, rfl⟩
  rw [← hQ]
  have Lo33 : ∀ (n1 : Nat) (x2_33 : Int32) (S_33 : Nat → Nat → Int32) (H : Heap) (locs : List Loc) (ls : Array Slot), k_it (fun st => nX7_from_l33 p1 st.1 st.2 L) n1 (x2_33, S_33) = some (r9, S9) → lv_has ls 3 [(0, .ref (a 0)), (1, .int p1), (2, .int x2_33)] → va_P D vwCl (wX7 cs a S_33 L) H → va_S A s.heap H locs → W p l e (headSpec wsX7_from ({ frames := 1, cells := 0, slots := 0, locals := 25 })).room s m ([.ref (a 0), .int p1] : List Value).toArray below meth c H locs 0 0 Q (F0 m 33 ls []) := by
    intro n1
    induction n1 with
    | zero => intro x2_33 S_33 H locs ls hd; exact dn_it0 hd
    | succ n1 ih1 =>
      intro x2_33 S_33 H locs ls hd hl hP hS
      have hD := hDA S_33 L
      obtain ⟨y1, hd, hy1⟩ := dn_it hd
      have hd : nX7_from_l33 p1 x2_33 S_33 L = some y1 := hd
      unfold nX7_from_l33 at hd
      refine lv_iload_n hx hb dX7_from_33 rfl (lv_at hl 2 rfl) ?_
      refine lv_sipush (v := (284 : Int32)) hx hb dX7_from_34 (by decide) ?_
      refine lv_icmp_ge (tgt := 64) hx hb dX7_from_37 (by decide) (fun c37 => ?_) (fun c37 => ?_)
      · have hd := dn_t c37 hd
        have hd := dn_up hd hy1
        refine lv_iconst (v := (1 : Int32)) hx hb dX7_from_64 (by decide) ?_
        obtain ⟨e1, e2⟩ := dn_s2 hd
        exact k_iret hx hb hr hQ hAe e1 (by rw [e2]) hP hS hlocks dX7_from_65
      · have hd := dn_f c37 hd
        refine lv_aload_n hx hb dX7_from_40 rfl (lv_at hl 0 rfl) ?_
        refine va_get (D := D) (ci := 5) (v := .ref (a 1)) (C := RX7) (T := TX7) (N := 25) hx hb hts (fun w h => List.mem_cons_of_mem _ (List.mem_append_right _ h)) hown hK hP 0 rfl rfl 0 (by decide) (hts (.fieldLink RX7 7 "LeastNeedModel" "told" "[I") (List.mem_of_getElem? (i := 2) rfl)) (fun _ h9 => h9) rfl dX7_from_41 ?_
        refine lv_iload_n hx hb dX7_from_44 rfl (lv_at hl 2 rfl) ?_
        refine lv_aload_n hx hb dX7_from_45 rfl (lv_at hl 0 rfl) ?_
        refine va_get (D := D) (ci := 5) (v := .ref (a 2)) (C := RX7) (T := TX7) (N := 25) hx hb hts (fun w h => List.mem_cons_of_mem _ (List.mem_append_right _ h)) hown hK hP 0 rfl rfl 1 (by decide) (hts (.fieldLink RX7 13 "LeastNeedModel" "kept" "[I") (List.mem_of_getElem? (i := 3) rfl)) (fun _ h9 => h9) rfl dX7_from_46 ?_
        refine lv_sipush (v := (284 : Int32)) hx hb dX7_from_49 (by decide) ?_
        refine lv_iload_n hx hb dX7_from_52 rfl (lv_at hl 1 rfl) ?_
        refine lv_imul hx hb dX7_from_53 ?_
        refine lv_iload_n hx hb dX7_from_54 rfl (lv_at hl 2 rfl) ?_
        refine lv_iadd hx hb dX7_from_55 ?_
        obtain ⟨hi56, hd⟩ := dn_i hd
        refine k_iald (D := D) (k := (((284 : Int32) * p1) + x2_33).toNatClampNeg) (by rfl) hx hb hK hP 2 1 rfl rfl hi56 dX7_from_56 ?_
        obtain ⟨hi57, hd⟩ := dn_i hd
        refine k_iast (D := D) (k := x2_33.toNatClampNeg) (by rfl) hx hb hK hP hD hS 1 1 rfl rfl hi57 dX7_from_57 (fun H locs hP hD hS => ?_)
        have hP : va_P D vwCl (wX7 cs a (k_w S_33 1 x2_33.toNatClampNeg (S_33 2 (((284 : Int32) * p1) + x2_33).toNatClampNeg)) L) _ := k_eq hP (wsX7_a1 cs a S_33 L x2_33.toNatClampNeg (S_33 2 (((284 : Int32) * p1) + x2_33).toNatClampNeg))
        have hD := hDA (k_w S_33 1 x2_33.toNatClampNeg (S_33 2 (((284 : Int32) * p1) + x2_33).toNatClampNeg)) L
        refine lv_iinc (v := x2_33 + (1 : Int32)) (lv' := [(2, .int (x2_33 + (1 : Int32))), (0, .ref (a 0)), (1, .int p1)]) hx hb dX7_from_58 hl (k := 2) rfl rfl (by decide) rfl (fun ls hl => ?_)
        refine lv_goto (tgt := 33) hx hb dX7_from_61 (by decide) ?_
        exact ih1 (x2_33 + (1 : Int32)) (k_w S_33 1 x2_33.toNatClampNeg (S_33 2 (((284 : Int32) * p1) + x2_33).toNatClampNeg)) _ _ _ (dn_bk hd hy1) (lv_sub hl [1, 2, 0] rfl) hP hS
  unfold nX7_from at hd
  refine lv_iload_n hx hb dX7_from_0 rfl (lv_at hl 1 rfl) ?_
  refine lv_i2l hx hb dX7_from_1 rfl ?_
  refine lv_lconst (v := (0 : Int64)) hx hb dX7_from_2 (by decide) ?_
  refine lv_lconst (v := (1 : Int64)) hx hb dX7_from_3 (by decide) ?_
  obtain ⟨r4, hq4, hd⟩ := dn_b1 hd
  have hPc := k_P0 hP
  have hDc : va_D A ([] : va_W) := k_D0
  have hF := k_self hDc hS hA
  refine k_run_i (va_runS (As := [.long p1.toInt64, .long (0 : Int64), .long (1 : Int64)]) (rest := []) ⟨hx, hb, hml, hown, hts⟩ (mX7_in l D cs  p1.toInt64 (0 : Int64) (1 : Int64) r4 hq4 _) (va_cwS 3 hts gX7_from_X7_in rfl rfl rfl (by decide +kernel) ⟨Nat.le_of_ble_eq_true rfl, Nat.le_of_ble_eq_true rfl⟩) ⟨k_blind, k_pre hPc hK hNn hDc⟩ rfl rfl hl.1 rfl (lv_room (Nat.le_of_ble_eq_true rfl)) dX7_from_4 ⟨Nat.le_of_ble_eq_true rfl, Nat.le_of_ble_eq_true rfl⟩) hS hF (fun H locs hP1 hk hS => ?_)
  have hP : va_P D vwCl (wX7 cs a S L) _ := k_keep hP hk
  refine lv_if_ne (tgt := 17) hx hb dX7_from_7 (by decide) (fun c7 => ?_) (fun c7 => ?_)
  · have hd := dn_f c7 hd
    refine lv_aload_n hx hb dX7_from_17 rfl (lv_at hl 0 rfl) ?_
    refine va_get (D := D) (ci := 5) (v := .ref (a 3)) (C := RX7) (T := TX7) (N := 25) hx hb hts (fun w h => List.mem_cons_of_mem _ (List.mem_append_right _ h)) hown hK hP 0 rfl rfl 2 (by decide) (hts (.fieldLink RX7 16 "LeastNeedModel" "isKept" "[Z") (List.mem_of_getElem? (i := 1) rfl)) (fun _ h9 => h9) rfl dX7_from_18 ?_
    refine lv_iload_n hx hb dX7_from_21 rfl (lv_at hl 1 rfl) ?_
    obtain ⟨hi22, hd⟩ := dn_i hd
    refine k_zald (D := D) (k := p1.toNatClampNeg) (by rfl) hx hb hK hP 3 3 rfl rfl hi22 dX7_from_22 ?_
    refine lv_if_ne (tgt := 31) hx hb dX7_from_23 (by decide) (fun c23 => ?_) (fun c23 => ?_)
    · have hd := dn_f c23 hd
      refine lv_iconst (v := (0 : Int32)) hx hb dX7_from_31 (by decide) ?_
      refine lv_istore_n (lv' := [(2, .int (0 : Int32)), (0, .ref (a 0)), (1, .int p1)]) hx hb dX7_from_32 rfl hl (by decide) rfl (fun ls hl => ?_)
      exact Lo33 1000 (0 : Int32) S _ _ _ hd (lv_sub hl [1, 2, 0] rfl) hP hS
    · have hd := dn_t c23 hd
      refine lv_aload_n hx hb dX7_from_26 rfl (lv_at hl 0 rfl) ?_
      obtain ⟨r27, S27, hq27, hd⟩ := dn_b2 hd
      have hF := k_self hD hS hA
      refine k_run_i (va_runV (As := []) (rest := []) ⟨hx, hb, hml, hown, hts⟩ (mX7_no l D cs a S L r27 S27 hq27 _) (cwV 0 hts gX7_from_X7_no rfl rfl rfl (by decide +kernel) ⟨Nat.le_of_ble_eq_true rfl, Nat.le_of_ble_eq_true rfl⟩) ⟨k_blind, va_recv hK hP (ci := 5) (q0 := 0) rfl rfl, k_pre hP hK hNn hD⟩ rfl rfl hl.1 rfl (lv_room (Nat.le_of_ble_eq_true rfl)) dX7_from_27 ⟨Nat.le_of_ble_eq_true rfl, Nat.le_of_ble_eq_true rfl⟩) hS hF (fun H locs hP1 hk hS => ?_)
      have hP : va_P D vwCl (wX7 cs a S27 L) _ := hP1
      have hD := hDA S27 L
      obtain ⟨e1, e2⟩ := dn_s2 hd
      exact k_iret hx hb hr hQ hAe e1 (by rw [e2]) hP hS hlocks dX7_from_30
  · have hd := dn_t c7 hd
    refine lv_aload_n hx hb dX7_from_10 rfl (lv_at hl 0 rfl) ?_
    refine lv_bipush (v := (-2 : Int32)) hx hb dX7_from_11 (by decide) ?_
    obtain ⟨r13, S13, hq13, hd⟩ := dn_b2 hd
    have hF := k_self hD hS hA
    refine k_run_i (va_runV (As := [.int (-2 : Int32)]) (rest := []) ⟨hx, hb, hml, hown, hts⟩ (mX7_bad l D cs a S L (-2 : Int32) r13 S13 hq13 _) (cwV 1 hts gX7_from_X7_bad rfl rfl rfl (by decide +kernel) ⟨Nat.le_of_ble_eq_true rfl, Nat.le_of_ble_eq_true rfl⟩) ⟨k_blind, va_recv hK hP (ci := 5) (q0 := 0) rfl rfl, k_pre hP hK hNn hD⟩ rfl rfl hl.1 rfl (lv_room (Nat.le_of_ble_eq_true rfl)) dX7_from_13 ⟨Nat.le_of_ble_eq_true rfl, Nat.le_of_ble_eq_true rfl⟩) hS hF (fun H locs hP1 hk hS => ?_)
    have hP : va_P D vwCl (wX7 cs a S13 L) _ := hP1
    have hD := hDA S13 L
    obtain ⟨e1, e2⟩ := dn_s2 hd
    exact k_iret hx hb hr hQ hAe e1 (by rw [e2]) hP hS hlocks dX7_from_16
-- LeastNeedModel.status(I)I
set_option maxRecDepth 20000 in
def nX7_status (S : Nat → Nat → Int32) (L : Nat → Nat → Int64) (p1 : Int32) : Option (Int32 × (Nat → Nat → Int32)) := k_b1 (nX7_in p1.toInt64 (0 : Int64) (2 : Int64)) (fun r6 => if r6 = 0 then k_b2 (nX7_bad S L (-1 : Int32)) (fun r23 S23 => some (r23, S23)) else if p1 < 0 ∨ 3 ≤ p1.toNatClampNeg then none else some ((S 4 p1.toNatClampNeg), S))
set_option maxHeartbeats 4000000 in
set_option maxRecDepth 100000 in
theorem mX7_status (l : Launch) (D : va_G) (cs : Nat → ClassId) (a : Nat → Nat) (S : Nat → Nat → Int32) (L : Nat → Nat → Int64) (p1 : Int32) (r9 : Int32) (S9 : (Nat → Nat → Int32)) (hd : nX7_status S L p1 = some (r9, S9)) : ∀ sz : Nat, Met l yX7_status wsX7_status ({ frames := 1, cells := 0, slots := 0, locals := 25 }) (k_Pc D cs [.ref (a 0), .int p1] (wX7 cs a S L) sz) (k_Qi D r9 (wX7 cs a S L) (wX7 cs a S9 L) sz) 0 0 (va_A (wX7 cs a S L) sz) := by
  intro sz
  refine Met.ofW (cc := cX7_status) (maxL := 2) (ret := (some .int)) (by decide) rfl ?_
  intro p e s m args below meth c s₁ B hml hv
  obtain ⟨rfl, hsz, hP, hK, hD0, hNn⟩ := hv
  have hx := B.exec
  have hb := B.bytes
  have hr := B.returns
  have hts := atoms_spec (ws := wsX7_status) B.pre
  have hown : s.vm.findClass RX7 = some m.cls := findClass_of_methodNamed B.named
  have hlocks := B.notSynchronized
  subst hsz
  obtain ⟨A, hAe⟩ : ∃ A : Nat → Prop, A = va_A (wX7 cs a S L) s.heap.size := ⟨_, rfl⟩
  have hD : va_D A (wX7 cs a S L) := by rw [hAe]; exact hD0.self
  have hA : ∀ q : Nat, s.heap.size ≤ q → A q := fun q h => by rw [hAe]; exact Or.inr h
  have hS : va_S A s.heap s.heap [] := va_S.rf
  have hDA : ∀ (S : Nat → Nat → Int32) (L : Nat → Nat → Int64), va_D A (wX7 cs a S L) := fun S L => k_DA hD rfl
  have hl := lv_entry ([.ref (a 0), .int p1]) (n := 2) (Nat.le_of_ble_eq_true rfl)
  rw [lg_entry_eq]
  generalize (lg_sl ([.ref (a 0), .int p1]) ++ List.replicate (2 - (lg_sl ([.ref (a 0), .int p1])).length) Slot.unset).toArray = ls at hl ⊢
  have hl : lv_has ls 2 [(0, .ref (a 0)), (1, .int p1)] := hl
  obtain ⟨Q, hQ⟩ : ∃ Q, Q = MQ below (k_Qi D r9 (wX7 cs a S L) (wX7 cs a S9 L) s.heap.size) ([.ref (a 0), .int p1] : List Value).toArray s 0 0 (va_A (wX7 cs a S L) s.heap.size) := ⟨_, rfl⟩
  rw [← hQ]
  unfold nX7_status at hd
  refine lv_iload_n hx hb dX7_status_0 rfl (lv_at hl 1 rfl) ?_
  refine lv_i2l hx hb dX7_status_1 rfl ?_
  refine lv_lconst (v := (0 : Int64)) hx hb dX7_status_2 (by decide) ?_
  refine lv_ldc2 (v := (2 : Int64)) hx hb hown (hts (.constantLong RX7 316 (2)) (List.mem_of_getElem? (i := 1) rfl)) dX7_status_3 ?_
  obtain ⟨r6, hq6, hd⟩ := dn_b1 hd
  have hPc := k_P0 hP
  have hDc : va_D A ([] : va_W) := k_D0
  have hF := k_self hDc hS hA
  refine k_run_i (va_runS (As := [.long p1.toInt64, .long (0 : Int64), .long (2 : Int64)]) (rest := []) ⟨hx, hb, hml, hown, hts⟩ (mX7_in l D cs  p1.toInt64 (0 : Int64) (2 : Int64) r6 hq6 _) (va_cwS 3 hts gX7_status_X7_in rfl rfl rfl (by decide +kernel) ⟨Nat.le_of_ble_eq_true rfl, Nat.le_of_ble_eq_true rfl⟩) ⟨k_blind, k_pre hPc hK hNn hDc⟩ rfl rfl hl.1 rfl (lv_room (Nat.le_of_ble_eq_true rfl)) dX7_status_6 ⟨Nat.le_of_ble_eq_true rfl, Nat.le_of_ble_eq_true rfl⟩) hS hF (fun H locs hP1 hk hS => ?_)
  have hP : va_P D vwCl (wX7 cs a S L) _ := k_keep hP hk
  refine lv_if_eq (tgt := 21) hx hb dX7_status_9 (by decide) (fun c9 => ?_) (fun c9 => ?_)
  · have hd := dn_t c9 hd
    refine lv_aload_n hx hb dX7_status_21 rfl (lv_at hl 0 rfl) ?_
    refine lv_iconst (v := (-1 : Int32)) hx hb dX7_status_22 (by decide) ?_
    obtain ⟨r23, S23, hq23, hd⟩ := dn_b2 hd
    have hF := k_self hD hS hA
    refine k_run_i (va_runV (As := [.int (-1 : Int32)]) (rest := []) ⟨hx, hb, hml, hown, hts⟩ (mX7_bad l D cs a S L (-1 : Int32) r23 S23 hq23 _) (cwV 1 hts gX7_status_X7_bad rfl rfl rfl (by decide +kernel) ⟨Nat.le_of_ble_eq_true rfl, Nat.le_of_ble_eq_true rfl⟩) ⟨k_blind, va_recv hK hP (ci := 5) (q0 := 0) rfl rfl, k_pre hP hK hNn hD⟩ rfl rfl hl.1 rfl (lv_room (Nat.le_of_ble_eq_true rfl)) dX7_status_23 ⟨Nat.le_of_ble_eq_true rfl, Nat.le_of_ble_eq_true rfl⟩) hS hF (fun H locs hP1 hk hS => ?_)
    have hP : va_P D vwCl (wX7 cs a S23 L) _ := hP1
    have hD := hDA S23 L
    obtain ⟨e1, e2⟩ := dn_s2 hd
    exact k_iret hx hb hr hQ hAe e1 (by rw [e2]) hP hS hlocks dX7_status_26
  · have hd := dn_f c9 hd
    refine lv_aload_n hx hb dX7_status_12 rfl (lv_at hl 0 rfl) ?_
    refine va_get (D := D) (ci := 5) (v := .ref (a 4)) (C := RX7) (T := TX7) (N := 25) hx hb hts (fun w h => List.mem_cons_of_mem _ (List.mem_append_right _ h)) hown hK hP 0 rfl rfl 3 (by decide) (hts (.fieldLink RX7 20 "LeastNeedModel" "refused" "[I") (List.mem_of_getElem? (i := 2) rfl)) (fun _ h9 => h9) rfl dX7_status_13 ?_
    refine lv_iload_n hx hb dX7_status_16 rfl (lv_at hl 1 rfl) ?_
    obtain ⟨hi17, hd⟩ := dn_i hd
    refine k_iald (D := D) (k := p1.toNatClampNeg) (by rfl) hx hb hK hP 4 1 rfl rfl hi17 dX7_status_17 ?_
    refine lv_goto (tgt := 26) hx hb dX7_status_18 (by decide) ?_
    obtain ⟨e1, e2⟩ := dn_s2 hd
    exact k_iret hx hb hr hQ hAe e1 (by rw [e2]) hP hS hlocks dX7_status_26
-- LeastNeedModel.manyAtHome([I)I
set_option maxRecDepth 20000 in
def nX7_manyAtHome_1_i4_j40 (x3_40 : Int32) (w0_40 : Int32) (w1_40 : Int32) (S : Nat → Nat → Int32) (L : Nat → Nat → Int64) : Option ((Int32 × Int32) ⊕ (Int32)) := some (.inl ((w1_40 + w0_40), (x3_40 + (1 : Int32))))
set_option maxRecDepth 20000 in
def nX7_manyAtHome_1_i4_j39 (x3_39 : Int32) (w0_39 : Int32) (S : Nat → Nat → Int32) (L : Nat → Nat → Int64) : Option ((Int32 × Int32) ⊕ (Int32)) := nX7_manyAtHome_1_i4_j40 x3_39 (0 : Int32) w0_39 S L
set_option maxRecDepth 20000 in
def nX7_manyAtHome_1_l4 (x2_4 : Int32) (x3_4 : Int32) (S : Nat → Nat → Int32) (L : Nat → Nat → Int64) : Option ((Int32 × Int32) ⊕ (Int32)) := if (S 1 1) ≤ x3_4 then k_up (some x2_4) else if ((10 : Int32) + x3_4) < 0 ∨ 284 ≤ ((10 : Int32) + x3_4).toNatClampNeg then none else if (S 1 ((10 : Int32) + x3_4).toNatClampNeg) = 0 then if ((5 : Int32) + x3_4) < 0 ∨ 284 ≤ ((5 : Int32) + x3_4).toNatClampNeg then none else if ((75 : Int32) + x3_4) < 0 ∨ 284 ≤ ((75 : Int32) + x3_4).toNatClampNeg then none else if (S 1 ((5 : Int32) + x3_4).toNatClampNeg) = (S 1 ((75 : Int32) + x3_4).toNatClampNeg) then nX7_manyAtHome_1_i4_j40 x3_4 (1 : Int32) x2_4 S L else nX7_manyAtHome_1_i4_j39 x3_4 x2_4 S L else nX7_manyAtHome_1_i4_j39 x3_4 x2_4 S L
set_option maxRecDepth 20000 in
def nX7_manyAtHome_1 (S : Nat → Nat → Int32) (L : Nat → Nat → Int64) : Option (Int32) := k_it (fun st => nX7_manyAtHome_1_l4 st.1 st.2 S L) 1000 ((0 : Int32), (0 : Int32))
set_option maxHeartbeats 4000000 in
set_option maxRecDepth 100000 in
theorem mX7_manyAtHome_1 (l : Launch) (D : va_G) (cs : Nat → ClassId) (a : Nat → Nat) (S : Nat → Nat → Int32) (L : Nat → Nat → Int64) (r9 : Int32) (hd : nX7_manyAtHome_1 S L = some r9) : ∀ sz : Nat, Met l yX7_manyAtHome wsX7_manyAtHome ({ frames := 0, cells := 0, slots := 0, locals := 0 }) (k_Pc D cs [.ref (a 0), .ref (a 1)] (wX7 cs a S L) sz) (k_Qi D r9 (wX7 cs a S L) (wX7 cs a S L) sz) 0 0 (va_A (wX7 cs a S L) sz) := by
  intro sz
  refine Met.ofW (cc := cX7_manyAtHome) (maxL := 4) (ret := (some .int)) (by decide) rfl ?_
  intro p e s m args below meth c s₁ B hml hv
  obtain ⟨rfl, hsz, hP, hK, hD0, hNn⟩ := hv
  have hx := B.exec
  have hb := B.bytes
  have hr := B.returns
  have hts := atoms_spec (ws := wsX7_manyAtHome) B.pre
  have hown : s.vm.findClass RX7 = some m.cls := findClass_of_methodNamed B.named
  have hlocks := B.notSynchronized
  subst hsz
  obtain ⟨A, hAe⟩ : ∃ A : Nat → Prop, A = va_A (wX7 cs a S L) s.heap.size := ⟨_, rfl⟩
  have hD : va_D A (wX7 cs a S L) := by rw [hAe]; exact hD0.self
  have hA : ∀ q : Nat, s.heap.size ≤ q → A q := fun q h => by rw [hAe]; exact Or.inr h
  have hS : va_S A s.heap s.heap [] := va_S.rf
  have hDA : ∀ (S : Nat → Nat → Int32) (L : Nat → Nat → Int64), va_D A (wX7 cs a S L) := fun S L => k_DA hD rfl
  have hl := lv_entry ([.ref (a 0), .ref (a 1)]) (n := 4) (Nat.le_of_ble_eq_true rfl)
  rw [lg_entry_eq]
  generalize (lg_sl ([.ref (a 0), .ref (a 1)]) ++ List.replicate (4 - (lg_sl ([.ref (a 0), .ref (a 1)])).length) Slot.unset).toArray = ls at hl ⊢
  have hl : lv_has ls 4 [(0, .ref (a 0)), (1, .ref (a 1))] := hl
  obtain ⟨Q, hQ⟩ : ∃ Q, Q = MQ below (k_Qi D r9 (wX7 cs a S L) (wX7 cs a S L) s.heap.size) ([.ref (a 0), .ref (a 1)] : List Value).toArray s 0 0 (va_A (wX7 cs a S L) s.heap.size) := ⟨_, rfl⟩
  rw [← hQ]
  have Lo4 : ∀ (n1 : Nat) (x2_4 : Int32) (x3_4 : Int32) (H : Heap) (locs : List Loc) (ls : Array Slot), k_it (fun st => nX7_manyAtHome_1_l4 st.1 st.2 S L) n1 (x2_4, x3_4) = some r9 → lv_has ls 4 [(1, .ref (a 1)), (2, .int x2_4), (3, .int x3_4)] → va_P D vwCl (wX7 cs a S L) H → va_S A s.heap H locs → W p l e (headSpec wsX7_manyAtHome ({ frames := 0, cells := 0, slots := 0, locals := 0 })).room s m ([.ref (a 0), .ref (a 1)] : List Value).toArray below meth c H locs 0 0 Q (F0 m 4 ls []) := by
    intro n1
    induction n1 with
    | zero => intro x2_4 x3_4 H locs ls hd; exact dn_it0 hd
    | succ n1 ih1 =>
      intro x2_4 x3_4 H locs ls hd hl hP hS
      have hD := hDA S L
      obtain ⟨y1, hd, hy1⟩ := dn_it hd
      have hd : nX7_manyAtHome_1_l4 x2_4 x3_4 S L = some y1 := hd
      have Jo40 : ∀ (x3_40 : Int32) (w0_40 : Int32) (w1_40 : Int32) (H : Heap) (locs : List Loc) (ls : Array Slot), nX7_manyAtHome_1_i4_j40 x3_40 w0_40 w1_40 S L = some y1 → lv_has ls 4 [(1, .ref (a 1)), (3, .int x3_40)] → va_P D vwCl (wX7 cs a S L) H → va_S A s.heap H locs → W p l e (headSpec wsX7_manyAtHome ({ frames := 0, cells := 0, slots := 0, locals := 0 })).room s m ([.ref (a 0), .ref (a 1)] : List Value).toArray below meth c H locs 0 0 Q (F0 m 40 ls [.int w0_40, .int w1_40]) := by
        intro x3_40 w0_40 w1_40 H locs ls hd hl hP hS
        have hD := hDA S L
        unfold nX7_manyAtHome_1_i4_j40 at hd
        refine lv_iadd hx hb dX7_manyAtHome_40 ?_
        refine lv_istore_n (lv' := [(2, .int (w1_40 + w0_40)), (1, .ref (a 1)), (3, .int x3_40)]) hx hb dX7_manyAtHome_41 rfl hl (by decide) rfl (fun ls hl => ?_)
        refine lv_iinc (v := x3_40 + (1 : Int32)) (lv' := [(3, .int (x3_40 + (1 : Int32))), (2, .int (w1_40 + w0_40)), (1, .ref (a 1))]) hx hb dX7_manyAtHome_42 hl (k := 2) rfl rfl (by decide) rfl (fun ls hl => ?_)
        refine lv_goto (tgt := 4) hx hb dX7_manyAtHome_45 (by decide) ?_
        exact ih1 (w1_40 + w0_40) (x3_40 + (1 : Int32)) _ _ _ (dn_bk hd hy1) (lv_sub hl [2, 1, 0] rfl) hP hS
      have Jo39 : ∀ (x3_39 : Int32) (w0_39 : Int32) (H : Heap) (locs : List Loc) (ls : Array Slot), nX7_manyAtHome_1_i4_j39 x3_39 w0_39 S L = some y1 → lv_has ls 4 [(1, .ref (a 1)), (3, .int x3_39)] → va_P D vwCl (wX7 cs a S L) H → va_S A s.heap H locs → W p l e (headSpec wsX7_manyAtHome ({ frames := 0, cells := 0, slots := 0, locals := 0 })).room s m ([.ref (a 0), .ref (a 1)] : List Value).toArray below meth c H locs 0 0 Q (F0 m 39 ls [.int w0_39]) := by
        intro x3_39 w0_39 H locs ls hd hl hP hS
        have hD := hDA S L
        unfold nX7_manyAtHome_1_i4_j39 at hd
        refine lv_iconst (v := (0 : Int32)) hx hb dX7_manyAtHome_39 (by decide) ?_
        exact Jo40 x3_39 (0 : Int32) w0_39 _ _ _ hd (lv_sub hl [0, 1] rfl) hP hS
      unfold nX7_manyAtHome_1_l4 at hd
      refine lv_iload_n hx hb dX7_manyAtHome_4 rfl (lv_at hl 2 rfl) ?_
      refine lv_aload_n hx hb dX7_manyAtHome_5 rfl (lv_at hl 0 rfl) ?_
      refine lv_iconst (v := (1 : Int32)) hx hb dX7_manyAtHome_6 (by decide) ?_
      refine k_iald (D := D) (k := 1) (by rfl) hx hb hK hP 1 1 rfl rfl (k_in (by decide)) dX7_manyAtHome_7 ?_
      refine lv_icmp_ge (tgt := 48) hx hb dX7_manyAtHome_8 (by decide) (fun c8 => ?_) (fun c8 => ?_)
      · have hd := dn_t c8 hd
        have hd := dn_up hd hy1
        refine lv_iload_n hx hb dX7_manyAtHome_48 rfl (lv_at hl 1 rfl) ?_
        have e1 := dn_s1 hd
        exact k_iret hx hb hr hQ hAe e1 rfl hP hS hlocks dX7_manyAtHome_49
      · have hd := dn_f c8 hd
        refine lv_iload_n hx hb dX7_manyAtHome_11 rfl (lv_at hl 1 rfl) ?_
        refine lv_aload_n hx hb dX7_manyAtHome_12 rfl (lv_at hl 0 rfl) ?_
        refine lv_bipush (v := (10 : Int32)) hx hb dX7_manyAtHome_13 (by decide) ?_
        refine lv_iload_n hx hb dX7_manyAtHome_15 rfl (lv_at hl 2 rfl) ?_
        refine lv_iadd hx hb dX7_manyAtHome_16 ?_
        obtain ⟨hi17, hd⟩ := dn_i hd
        refine k_iald (D := D) (k := ((10 : Int32) + x3_4).toNatClampNeg) (by rfl) hx hb hK hP 1 1 rfl rfl hi17 dX7_manyAtHome_17 ?_
        refine lv_if_ne (tgt := 39) hx hb dX7_manyAtHome_18 (by decide) (fun c18 => ?_) (fun c18 => ?_)
        · have hd := dn_f c18 hd
          exact Jo39 x3_4 x2_4 _ _ _ hd (lv_sub hl [0, 2] rfl) hP hS
        · have hd := dn_t c18 hd
          refine lv_aload_n hx hb dX7_manyAtHome_21 rfl (lv_at hl 0 rfl) ?_
          refine lv_iconst (v := (5 : Int32)) hx hb dX7_manyAtHome_22 (by decide) ?_
          refine lv_iload_n hx hb dX7_manyAtHome_23 rfl (lv_at hl 2 rfl) ?_
          refine lv_iadd hx hb dX7_manyAtHome_24 ?_
          obtain ⟨hi25, hd⟩ := dn_i hd
          refine k_iald (D := D) (k := ((5 : Int32) + x3_4).toNatClampNeg) (by rfl) hx hb hK hP 1 1 rfl rfl hi25 dX7_manyAtHome_25 ?_
          refine lv_aload_n hx hb dX7_manyAtHome_26 rfl (lv_at hl 0 rfl) ?_
          refine lv_bipush (v := (75 : Int32)) hx hb dX7_manyAtHome_27 (by decide) ?_
          refine lv_iload_n hx hb dX7_manyAtHome_29 rfl (lv_at hl 2 rfl) ?_
          refine lv_iadd hx hb dX7_manyAtHome_30 ?_
          obtain ⟨hi31, hd⟩ := dn_i hd
          refine k_iald (D := D) (k := ((75 : Int32) + x3_4).toNatClampNeg) (by rfl) hx hb hK hP 1 1 rfl rfl hi31 dX7_manyAtHome_31 ?_
          refine lv_icmp_ne (tgt := 39) hx hb dX7_manyAtHome_32 (by decide) (fun c32 => ?_) (fun c32 => ?_)
          · have hd := dn_f c32 hd
            exact Jo39 x3_4 x2_4 _ _ _ hd (lv_sub hl [0, 2] rfl) hP hS
          · have hd := dn_t c32 hd
            refine lv_iconst (v := (1 : Int32)) hx hb dX7_manyAtHome_35 (by decide) ?_
            refine lv_goto (tgt := 40) hx hb dX7_manyAtHome_36 (by decide) ?_
            exact Jo40 x3_4 (1 : Int32) x2_4 _ _ _ hd (lv_sub hl [0, 2] rfl) hP hS
  unfold nX7_manyAtHome_1 at hd
  refine lv_iconst (v := (0 : Int32)) hx hb dX7_manyAtHome_0 (by decide) ?_
  refine lv_istore_n (lv' := [(2, .int (0 : Int32)), (0, .ref (a 0)), (1, .ref (a 1))]) hx hb dX7_manyAtHome_1 rfl hl (by decide) rfl (fun ls hl => ?_)
  refine lv_iconst (v := (0 : Int32)) hx hb dX7_manyAtHome_2 (by decide) ?_
  refine lv_istore_n (lv' := [(3, .int (0 : Int32)), (2, .int (0 : Int32)), (0, .ref (a 0)), (1, .ref (a 1))]) hx hb dX7_manyAtHome_3 rfl hl (by decide) rfl (fun ls hl => ?_)
  exact Lo4 1000 (0 : Int32) (0 : Int32) _ _ _ hd (lv_sub hl [3, 1, 0] rfl) hP hS
-- LeastNeedModel.counted(I)I
set_option maxRecDepth 20000 in
def nX7_counted (S : Nat → Nat → Int32) (L : Nat → Nat → Int64) (p1 : Int32) : Option (Int32) := if p1 = (0 : Int32) then k_b1 (nX7_many S L) (fun r49 => some r49) else if p1 = (1 : Int32) then k_b1 (nX7_manyThings S L) (fun r54 => some r54) else if p1 = (2 : Int32) then some (S 1 22) else if p1 = (3 : Int32) then k_b1 (nX7_manyThings S L) (fun r67 => k_b1 (nX7_manyIn_1 S L (0 : Int32)) (fun r76 => some (r67 - r76))) else if p1 = (4 : Int32) then k_b1 (nX7_manyAtHome_1 S L) (fun r86 => some r86) else if p1 = (5 : Int32) then some (S 1 2) else if p1 = (6 : Int32) then some (S 1 3) else if p1 = (7 : Int32) then some (S 1 4) else some (S 0 18)
set_option maxHeartbeats 4000000 in
set_option maxRecDepth 100000 in
theorem mX7_counted (l : Launch) (D : va_G) (cs : Nat → ClassId) (a : Nat → Nat) (S : Nat → Nat → Int32) (L : Nat → Nat → Int64) (p1 : Int32) (r9 : Int32) (hd : nX7_counted S L p1 = some r9) : ∀ sz : Nat, Met l yX7_counted wsX7_counted ({ frames := 1, cells := 0, slots := 0, locals := 24 }) (k_Pc D cs [.ref (a 0), .int p1] (wX7 cs a S L) sz) (k_Qi D r9 (wX7 cs a S L) (wX7 cs a S L) sz) 0 0 (va_A (wX7 cs a S L) sz) := by
  intro sz
  refine Met.ofW (cc := cX7_counted) (maxL := 2) (ret := (some .int)) (by decide) rfl ?_
  intro p e s m args below meth c s₁ B hml hv
  obtain ⟨rfl, hsz, hP, hK, hD0, hNn⟩ := hv
  have hx := B.exec
  have hb := B.bytes
  have hr := B.returns
  have hts := atoms_spec (ws := wsX7_counted) B.pre
  have hown : s.vm.findClass RX7 = some m.cls := findClass_of_methodNamed B.named
  have hlocks := B.notSynchronized
  subst hsz
  obtain ⟨A, hAe⟩ : ∃ A : Nat → Prop, A = va_A (wX7 cs a S L) s.heap.size := ⟨_, rfl⟩
  have hD : va_D A (wX7 cs a S L) := by rw [hAe]; exact hD0.self
  have hA : ∀ q : Nat, s.heap.size ≤ q → A q := fun q h => by rw [hAe]; exact Or.inr h
  have hS : va_S A s.heap s.heap [] := va_S.rf
  have hDA : ∀ (S : Nat → Nat → Int32) (L : Nat → Nat → Int64), va_D A (wX7 cs a S L) := fun S L => k_DA hD rfl
  have hl := lv_entry ([.ref (a 0), .int p1]) (n := 2) (Nat.le_of_ble_eq_true rfl)
  rw [lg_entry_eq]
  generalize (lg_sl ([.ref (a 0), .int p1]) ++ List.replicate (2 - (lg_sl ([.ref (a 0), .int p1])).length) Slot.unset).toArray = ls at hl ⊢
  have hl : lv_has ls 2 [(0, .ref (a 0)), (1, .int p1)] := hl
  obtain ⟨Q, hQ⟩ : ∃ Q, Q = MQ below (k_Qi D r9 (wX7 cs a S L) (wX7 cs a S L) s.heap.size) ([.ref (a 0), .int p1] : List Value).toArray s 0 0 (va_A (wX7 cs a S L) s.heap.size) := ⟨_, rfl⟩
  rw [← hQ]
  unfold nX7_counted at hd
  refine lv_iload_n hx hb dX7_counted_0 rfl (lv_at hl 1 rfl) ?_
  by_cases e1_0 : p1 = (0 : Int32)
  · have hd := dn_t e1_0 hd
    refine lv_tableIn (off := 47) (tgt := 48) hx hb dX7_counted_1 (by rw [e1_0]; decide) (by rw [e1_0]; decide) (by rw [e1_0]; rfl) (by decide) ?_
    refine lv_aload_n hx hb dX7_counted_48 rfl (lv_at hl 0 rfl) ?_
    obtain ⟨r49, hq49, hd⟩ := dn_b1 hd
    have hF := k_self hD hS hA
    refine k_run_i (va_runV (As := []) (rest := []) ⟨hx, hb, hml, hown, hts⟩ (mX7_many l D cs a S L r49 hq49 _) (cwV 0 hts gX7_counted_X7_many rfl rfl rfl (by decide +kernel) ⟨Nat.le_of_ble_eq_true rfl, Nat.le_of_ble_eq_true rfl⟩) ⟨k_blind, va_recv hK hP (ci := 5) (q0 := 0) rfl rfl, k_pre hP hK hNn hD⟩ rfl rfl hl.1 rfl (lv_room (Nat.le_of_ble_eq_true rfl)) dX7_counted_49 ⟨Nat.le_of_ble_eq_true rfl, Nat.le_of_ble_eq_true rfl⟩) hS hF (fun H locs hP1 hk hS => ?_)
    have hP : va_P D vwCl (wX7 cs a S L) _ := hP1
    have hD := hDA S L
    have e1 := dn_s1 hd
    exact k_iret hx hb hr hQ hAe e1 rfl hP hS hlocks dX7_counted_52
  · have hd := dn_f e1_0 hd
    by_cases e1_1 : p1 = (1 : Int32)
    · have hd := dn_t e1_1 hd
      refine lv_tableIn (off := 52) (tgt := 53) hx hb dX7_counted_1 (by rw [e1_1]; decide) (by rw [e1_1]; decide) (by rw [e1_1]; rfl) (by decide) ?_
      refine lv_aload_n hx hb dX7_counted_53 rfl (lv_at hl 0 rfl) ?_
      obtain ⟨r54, hq54, hd⟩ := dn_b1 hd
      have hF := k_self hD hS hA
      refine k_run_i (va_runV (As := []) (rest := []) ⟨hx, hb, hml, hown, hts⟩ (mX7_manyThings l D cs a S L r54 hq54 _) (cwV 0 hts gX7_counted_X7_manyThings rfl rfl rfl (by decide +kernel) ⟨Nat.le_of_ble_eq_true rfl, Nat.le_of_ble_eq_true rfl⟩) ⟨k_blind, va_recv hK hP (ci := 5) (q0 := 0) rfl rfl, k_pre hP hK hNn hD⟩ rfl rfl hl.1 rfl (lv_room (Nat.le_of_ble_eq_true rfl)) dX7_counted_54 ⟨Nat.le_of_ble_eq_true rfl, Nat.le_of_ble_eq_true rfl⟩) hS hF (fun H locs hP1 hk hS => ?_)
      have hP : va_P D vwCl (wX7 cs a S L) _ := hP1
      have hD := hDA S L
      have e1 := dn_s1 hd
      exact k_iret hx hb hr hQ hAe e1 rfl hP hS hlocks dX7_counted_57
    · have hd := dn_f e1_1 hd
      by_cases e1_2 : p1 = (2 : Int32)
      · have hd := dn_t e1_2 hd
        refine lv_tableIn (off := 57) (tgt := 58) hx hb dX7_counted_1 (by rw [e1_2]; decide) (by rw [e1_2]; decide) (by rw [e1_2]; rfl) (by decide) ?_
        refine lv_aload_n hx hb dX7_counted_58 rfl (lv_at hl 0 rfl) ?_
        refine va_get (D := D) (ci := 5) (v := .ref (a 1)) (C := RX7) (T := TX7) (N := 25) hx hb hts (fun w h => List.mem_cons_of_mem _ (List.mem_append_right _ h)) hown hK hP 0 rfl rfl 0 (by decide) (hts (.fieldLink RX7 7 "LeastNeedModel" "told" "[I") (List.mem_of_getElem? (i := 1) rfl)) (fun _ h9 => h9) rfl dX7_counted_59 ?_
        refine lv_bipush (v := (22 : Int32)) hx hb dX7_counted_62 (by decide) ?_
        refine k_iald (D := D) (k := 22) (by rfl) hx hb hK hP 1 1 rfl rfl (k_in (by decide)) dX7_counted_64 ?_
        have e1 := dn_s1 hd
        exact k_iret hx hb hr hQ hAe e1 rfl hP hS hlocks dX7_counted_65
      · have hd := dn_f e1_2 hd
        by_cases e1_3 : p1 = (3 : Int32)
        · have hd := dn_t e1_3 hd
          refine lv_tableIn (off := 65) (tgt := 66) hx hb dX7_counted_1 (by rw [e1_3]; decide) (by rw [e1_3]; decide) (by rw [e1_3]; rfl) (by decide) ?_
          refine lv_aload_n hx hb dX7_counted_66 rfl (lv_at hl 0 rfl) ?_
          obtain ⟨r67, hq67, hd⟩ := dn_b1 hd
          have hF := k_self hD hS hA
          refine k_run_i (va_runV (As := []) (rest := []) ⟨hx, hb, hml, hown, hts⟩ (mX7_manyThings l D cs a S L r67 hq67 _) (cwV 0 hts gX7_counted_X7_manyThings rfl rfl rfl (by decide +kernel) ⟨Nat.le_of_ble_eq_true rfl, Nat.le_of_ble_eq_true rfl⟩) ⟨k_blind, va_recv hK hP (ci := 5) (q0 := 0) rfl rfl, k_pre hP hK hNn hD⟩ rfl rfl hl.1 rfl (lv_room (Nat.le_of_ble_eq_true rfl)) dX7_counted_67 ⟨Nat.le_of_ble_eq_true rfl, Nat.le_of_ble_eq_true rfl⟩) hS hF (fun H locs hP1 hk hS => ?_)
          have hP : va_P D vwCl (wX7 cs a S L) _ := hP1
          have hD := hDA S L
          refine lv_aload_n hx hb dX7_counted_70 rfl (lv_at hl 0 rfl) ?_
          refine lv_aload_n hx hb dX7_counted_71 rfl (lv_at hl 0 rfl) ?_
          refine va_get (D := D) (ci := 5) (v := .ref (a 1)) (C := RX7) (T := TX7) (N := 25) hx hb hts (fun w h => List.mem_cons_of_mem _ (List.mem_append_right _ h)) hown hK hP 0 rfl rfl 0 (by decide) (hts (.fieldLink RX7 7 "LeastNeedModel" "told" "[I") (List.mem_of_getElem? (i := 1) rfl)) (fun _ h9 => h9) rfl dX7_counted_72 ?_
          refine lv_iconst (v := (0 : Int32)) hx hb dX7_counted_75 (by decide) ?_
          obtain ⟨r76, hq76, hd⟩ := dn_b1 hd
          have hF := k_self hD hS hA
          refine k_run_i (va_runV (As := [.ref (a 1), .int (0 : Int32)]) (rest := [.int r67]) ⟨hx, hb, hml, hown, hts⟩ (mX7_manyIn_1 l D cs a S L (0 : Int32) r76 hq76 _) (cwV 2 hts gX7_counted_X7_manyIn rfl rfl rfl (by decide +kernel) ⟨Nat.le_of_ble_eq_true rfl, Nat.le_of_ble_eq_true rfl⟩) ⟨k_blind, va_recv hK hP (ci := 5) (q0 := 0) rfl rfl, k_pre hP hK hNn hD⟩ rfl rfl hl.1 rfl (lv_room (Nat.le_of_ble_eq_true rfl)) dX7_counted_76 ⟨Nat.le_of_ble_eq_true rfl, Nat.le_of_ble_eq_true rfl⟩) hS hF (fun H locs hP1 hk hS => ?_)
          have hP : va_P D vwCl (wX7 cs a S L) _ := hP1
          have hD := hDA S L
          refine lv_isub hx hb dX7_counted_79 ?_
          have e1 := dn_s1 hd
          exact k_iret hx hb hr hQ hAe e1 rfl hP hS hlocks dX7_counted_80
        · have hd := dn_f e1_3 hd
          by_cases e1_4 : p1 = (4 : Int32)
          · have hd := dn_t e1_4 hd
            refine lv_tableIn (off := 80) (tgt := 81) hx hb dX7_counted_1 (by rw [e1_4]; decide) (by rw [e1_4]; decide) (by rw [e1_4]; rfl) (by decide) ?_
            refine lv_aload_n hx hb dX7_counted_81 rfl (lv_at hl 0 rfl) ?_
            refine lv_aload_n hx hb dX7_counted_82 rfl (lv_at hl 0 rfl) ?_
            refine va_get (D := D) (ci := 5) (v := .ref (a 1)) (C := RX7) (T := TX7) (N := 25) hx hb hts (fun w h => List.mem_cons_of_mem _ (List.mem_append_right _ h)) hown hK hP 0 rfl rfl 0 (by decide) (hts (.fieldLink RX7 7 "LeastNeedModel" "told" "[I") (List.mem_of_getElem? (i := 1) rfl)) (fun _ h9 => h9) rfl dX7_counted_83 ?_
            obtain ⟨r86, hq86, hd⟩ := dn_b1 hd
            have hF := k_self hD hS hA
            refine k_run_i (va_runV (As := [.ref (a 1)]) (rest := []) ⟨hx, hb, hml, hown, hts⟩ (mX7_manyAtHome_1 l D cs a S L r86 hq86 _) (cwV 1 hts gX7_counted_X7_manyAtHome rfl rfl rfl (by decide +kernel) ⟨Nat.le_of_ble_eq_true rfl, Nat.le_of_ble_eq_true rfl⟩) ⟨k_blind, va_recv hK hP (ci := 5) (q0 := 0) rfl rfl, k_pre hP hK hNn hD⟩ rfl rfl hl.1 rfl (lv_room (Nat.le_of_ble_eq_true rfl)) dX7_counted_86 ⟨Nat.le_of_ble_eq_true rfl, Nat.le_of_ble_eq_true rfl⟩) hS hF (fun H locs hP1 hk hS => ?_)
            have hP : va_P D vwCl (wX7 cs a S L) _ := hP1
            have hD := hDA S L
            have e1 := dn_s1 hd
            exact k_iret hx hb hr hQ hAe e1 rfl hP hS hlocks dX7_counted_89
          · have hd := dn_f e1_4 hd
            by_cases e1_5 : p1 = (5 : Int32)
            · have hd := dn_t e1_5 hd
              refine lv_tableIn (off := 89) (tgt := 90) hx hb dX7_counted_1 (by rw [e1_5]; decide) (by rw [e1_5]; decide) (by rw [e1_5]; rfl) (by decide) ?_
              refine lv_aload_n hx hb dX7_counted_90 rfl (lv_at hl 0 rfl) ?_
              refine va_get (D := D) (ci := 5) (v := .ref (a 1)) (C := RX7) (T := TX7) (N := 25) hx hb hts (fun w h => List.mem_cons_of_mem _ (List.mem_append_right _ h)) hown hK hP 0 rfl rfl 0 (by decide) (hts (.fieldLink RX7 7 "LeastNeedModel" "told" "[I") (List.mem_of_getElem? (i := 1) rfl)) (fun _ h9 => h9) rfl dX7_counted_91 ?_
              refine lv_iconst (v := (2 : Int32)) hx hb dX7_counted_94 (by decide) ?_
              refine k_iald (D := D) (k := 2) (by rfl) hx hb hK hP 1 1 rfl rfl (k_in (by decide)) dX7_counted_95 ?_
              have e1 := dn_s1 hd
              exact k_iret hx hb hr hQ hAe e1 rfl hP hS hlocks dX7_counted_96
            · have hd := dn_f e1_5 hd
              by_cases e1_6 : p1 = (6 : Int32)
              · have hd := dn_t e1_6 hd
                refine lv_tableIn (off := 96) (tgt := 97) hx hb dX7_counted_1 (by rw [e1_6]; decide) (by rw [e1_6]; decide) (by rw [e1_6]; rfl) (by decide) ?_
                refine lv_aload_n hx hb dX7_counted_97 rfl (lv_at hl 0 rfl) ?_
                refine va_get (D := D) (ci := 5) (v := .ref (a 1)) (C := RX7) (T := TX7) (N := 25) hx hb hts (fun w h => List.mem_cons_of_mem _ (List.mem_append_right _ h)) hown hK hP 0 rfl rfl 0 (by decide) (hts (.fieldLink RX7 7 "LeastNeedModel" "told" "[I") (List.mem_of_getElem? (i := 1) rfl)) (fun _ h9 => h9) rfl dX7_counted_98 ?_
                refine lv_iconst (v := (3 : Int32)) hx hb dX7_counted_101 (by decide) ?_
                refine k_iald (D := D) (k := 3) (by rfl) hx hb hK hP 1 1 rfl rfl (k_in (by decide)) dX7_counted_102 ?_
                have e1 := dn_s1 hd
                exact k_iret hx hb hr hQ hAe e1 rfl hP hS hlocks dX7_counted_103
              · have hd := dn_f e1_6 hd
                by_cases e1_7 : p1 = (7 : Int32)
                · have hd := dn_t e1_7 hd
                  refine lv_tableIn (off := 103) (tgt := 104) hx hb dX7_counted_1 (by rw [e1_7]; decide) (by rw [e1_7]; decide) (by rw [e1_7]; rfl) (by decide) ?_
                  refine lv_aload_n hx hb dX7_counted_104 rfl (lv_at hl 0 rfl) ?_
                  refine va_get (D := D) (ci := 5) (v := .ref (a 1)) (C := RX7) (T := TX7) (N := 25) hx hb hts (fun w h => List.mem_cons_of_mem _ (List.mem_append_right _ h)) hown hK hP 0 rfl rfl 0 (by decide) (hts (.fieldLink RX7 7 "LeastNeedModel" "told" "[I") (List.mem_of_getElem? (i := 1) rfl)) (fun _ h9 => h9) rfl dX7_counted_105 ?_
                  refine lv_iconst (v := (4 : Int32)) hx hb dX7_counted_108 (by decide) ?_
                  refine k_iald (D := D) (k := 4) (by rfl) hx hb hK hP 1 1 rfl rfl (k_in (by decide)) dX7_counted_109 ?_
                  have e1 := dn_s1 hd
                  exact k_iret hx hb hr hQ hAe e1 rfl hP hS hlocks dX7_counted_110
                · have hd := dn_f e1_7 hd
                  refine lv_tableOut (tgt := 111) hx hb dX7_counted_1 (by have q0 := lv_neT e1_0 (a := 0) (by decide); have q1 := lv_neT e1_1 (a := 1) (by decide); have q2 := lv_neT e1_2 (a := 2) (by decide); have q3 := lv_neT e1_3 (a := 3) (by decide); have q4 := lv_neT e1_4 (a := 4) (by decide); have q5 := lv_neT e1_5 (a := 5) (by decide); have q6 := lv_neT e1_6 (a := 6) (by decide); have q7 := lv_neT e1_7 (a := 7) (by decide); omega) (by decide) ?_
                  refine lv_aload_n hx hb dX7_counted_111 rfl (lv_at hl 0 rfl) ?_
                  refine va_get (D := D) (ci := 5) (v := .int (S 0 18)) (C := RX7) (T := TX7) (N := 25) hx hb hts (fun w h => List.mem_cons_of_mem _ (List.mem_append_right _ h)) hown hK hP 0 rfl rfl 18 (by decide) (hts (.fieldLink RX7 253 "LeastNeedModel" "bytesLong" "I") (List.mem_of_getElem? (i := 2) rfl)) (fun _ h9 => h9) rfl dX7_counted_112 ?_
                  have e1 := dn_s1 hd
                  exact k_iret hx hb hr hQ hAe e1 rfl hP hS hlocks dX7_counted_115
-- LeastNeedModel.count(I)I
set_option maxRecDepth 20000 in
def nX7_count (S : Nat → Nat → Int32) (L : Nat → Nat → Int64) (p1 : Int32) : Option (Int32 × (Nat → Nat → Int32)) := k_b1 (nX7_in p1.toInt64 (0 : Int64) (8 : Int64)) (fun r6 => if r6 = 0 then k_b2 (nX7_bad S L (-2 : Int32)) (fun r23 S23 => some (r23, S23)) else k_b1 (nX7_counted S L p1) (fun r14 => some (r14, S)))
set_option maxHeartbeats 4000000 in
set_option maxRecDepth 100000 in
theorem mX7_count (l : Launch) (D : va_G) (cs : Nat → ClassId) (a : Nat → Nat) (S : Nat → Nat → Int32) (L : Nat → Nat → Int64) (p1 : Int32) (r9 : Int32) (S9 : (Nat → Nat → Int32)) (hd : nX7_count S L p1 = some (r9, S9)) : ∀ sz : Nat, Met l yX7_count wsX7_count ({ frames := 2, cells := 0, slots := 0, locals := 45 }) (k_Pc D cs [.ref (a 0), .int p1] (wX7 cs a S L) sz) (k_Qi D r9 (wX7 cs a S L) (wX7 cs a S9 L) sz) 0 0 (va_A (wX7 cs a S L) sz) := by
  intro sz
  refine Met.ofW (cc := cX7_count) (maxL := 2) (ret := (some .int)) (by decide) rfl ?_
  intro p e s m args below meth c s₁ B hml hv
  obtain ⟨rfl, hsz, hP, hK, hD0, hNn⟩ := hv
  have hx := B.exec
  have hb := B.bytes
  have hr := B.returns
  have hts := atoms_spec (ws := wsX7_count) B.pre
  have hown : s.vm.findClass RX7 = some m.cls := findClass_of_methodNamed B.named
  have hlocks := B.notSynchronized
  subst hsz
  obtain ⟨A, hAe⟩ : ∃ A : Nat → Prop, A = va_A (wX7 cs a S L) s.heap.size := ⟨_, rfl⟩
  have hD : va_D A (wX7 cs a S L) := by rw [hAe]; exact hD0.self
  have hA : ∀ q : Nat, s.heap.size ≤ q → A q := fun q h => by rw [hAe]; exact Or.inr h
  have hS : va_S A s.heap s.heap [] := va_S.rf
  have hDA : ∀ (S : Nat → Nat → Int32) (L : Nat → Nat → Int64), va_D A (wX7 cs a S L) := fun S L => k_DA hD rfl
  have hl := lv_entry ([.ref (a 0), .int p1]) (n := 2) (Nat.le_of_ble_eq_true rfl)
  rw [lg_entry_eq]
  generalize (lg_sl ([.ref (a 0), .int p1]) ++ List.replicate (2 - (lg_sl ([.ref (a 0), .int p1])).length) Slot.unset).toArray = ls at hl ⊢
  have hl : lv_has ls 2 [(0, .ref (a 0)), (1, .int p1)] := hl
  obtain ⟨Q, hQ⟩ : ∃ Q, Q = MQ below (k_Qi D r9 (wX7 cs a S L) (wX7 cs a S9 L) s.heap.size) ([.ref (a 0), .int p1] : List Value).toArray s 0 0 (va_A (wX7 cs a S L) s.heap.size) := ⟨_, rfl⟩
  rw [← hQ]
  unfold nX7_count at hd
  refine lv_iload_n hx hb dX7_count_0 rfl (lv_at hl 1 rfl) ?_
  refine lv_i2l hx hb dX7_count_1 rfl ?_
  refine lv_lconst (v := (0 : Int64)) hx hb dX7_count_2 (by decide) ?_
  refine lv_ldc2 (v := (8 : Int64)) hx hb hown (hts (.constantLong RX7 318 (8)) (List.mem_of_getElem? (i := 1) rfl)) dX7_count_3 ?_
  obtain ⟨r6, hq6, hd⟩ := dn_b1 hd
  have hPc := k_P0 hP
  have hDc : va_D A ([] : va_W) := k_D0
  have hF := k_self hDc hS hA
  refine k_run_i (va_runS (As := [.long p1.toInt64, .long (0 : Int64), .long (8 : Int64)]) (rest := []) ⟨hx, hb, hml, hown, hts⟩ (mX7_in l D cs  p1.toInt64 (0 : Int64) (8 : Int64) r6 hq6 _) (va_cwS 3 hts gX7_count_X7_in rfl rfl rfl (by decide +kernel) ⟨Nat.le_of_ble_eq_true rfl, Nat.le_of_ble_eq_true rfl⟩) ⟨k_blind, k_pre hPc hK hNn hDc⟩ rfl rfl hl.1 rfl (lv_room (Nat.le_of_ble_eq_true rfl)) dX7_count_6 ⟨Nat.le_of_ble_eq_true rfl, Nat.le_of_ble_eq_true rfl⟩) hS hF (fun H locs hP1 hk hS => ?_)
  have hP : va_P D vwCl (wX7 cs a S L) _ := k_keep hP hk
  refine lv_if_eq (tgt := 20) hx hb dX7_count_9 (by decide) (fun c9 => ?_) (fun c9 => ?_)
  · have hd := dn_t c9 hd
    refine lv_aload_n hx hb dX7_count_20 rfl (lv_at hl 0 rfl) ?_
    refine lv_bipush (v := (-2 : Int32)) hx hb dX7_count_21 (by decide) ?_
    obtain ⟨r23, S23, hq23, hd⟩ := dn_b2 hd
    have hF := k_self hD hS hA
    refine k_run_i (va_runV (As := [.int (-2 : Int32)]) (rest := []) ⟨hx, hb, hml, hown, hts⟩ (mX7_bad l D cs a S L (-2 : Int32) r23 S23 hq23 _) (cwV 1 hts gX7_count_X7_bad rfl rfl rfl (by decide +kernel) ⟨Nat.le_of_ble_eq_true rfl, Nat.le_of_ble_eq_true rfl⟩) ⟨k_blind, va_recv hK hP (ci := 5) (q0 := 0) rfl rfl, k_pre hP hK hNn hD⟩ rfl rfl hl.1 rfl (lv_room (Nat.le_of_ble_eq_true rfl)) dX7_count_23 ⟨Nat.le_of_ble_eq_true rfl, Nat.le_of_ble_eq_true rfl⟩) hS hF (fun H locs hP1 hk hS => ?_)
    have hP : va_P D vwCl (wX7 cs a S23 L) _ := hP1
    have hD := hDA S23 L
    obtain ⟨e1, e2⟩ := dn_s2 hd
    exact k_iret hx hb hr hQ hAe e1 (by rw [e2]) hP hS hlocks dX7_count_26
  · have hd := dn_f c9 hd
    refine lv_aload_n hx hb dX7_count_12 rfl (lv_at hl 0 rfl) ?_
    refine lv_iload_n hx hb dX7_count_13 rfl (lv_at hl 1 rfl) ?_
    obtain ⟨r14, hq14, hd⟩ := dn_b1 hd
    have hF := k_self hD hS hA
    refine k_run_i (va_runV (As := [.int p1]) (rest := []) ⟨hx, hb, hml, hown, hts⟩ (mX7_counted l D cs a S L p1 r14 hq14 _) (cwV 1 hts gX7_count_X7_counted rfl rfl rfl (by decide +kernel) ⟨Nat.le_of_ble_eq_true rfl, Nat.le_of_ble_eq_true rfl⟩) ⟨k_blind, va_recv hK hP (ci := 5) (q0 := 0) rfl rfl, k_pre hP hK hNn hD⟩ rfl rfl hl.1 rfl (lv_room (Nat.le_of_ble_eq_true rfl)) dX7_count_14 ⟨Nat.le_of_ble_eq_true rfl, Nat.le_of_ble_eq_true rfl⟩) hS hF (fun H locs hP1 hk hS => ?_)
    have hP : va_P D vwCl (wX7 cs a S L) _ := hP1
    have hD := hDA S L
    refine lv_goto (tgt := 26) hx hb dX7_count_17 (by decide) ?_
    obtain ⟨e1, e2⟩ := dn_s2 hd
    exact k_iret hx hb hr hQ hAe e1 (by rw [e2]) hP hS hlocks dX7_count_26
-- LeastNeedModel.sums(JII)J
set_option maxRecDepth 20000 in
def nX7_sums_l6 (p3 : Int32) (p4 : Int32) (x5_6 : Int64) (x7_6 : Int32) (S : Nat → Nat → Int32) (L : Nat → Nat → Int64) : Option ((Int64 × Int32) ⊕ (Int64)) := if p4 ≤ x7_6 then k_up (some x5_6) else if (p3 + x7_6) < 0 ∨ 284 ≤ (p3 + x7_6).toNatClampNeg then none else some (.inl ((((31 : Int64) * x5_6) + ((S 1 (p3 + x7_6).toNatClampNeg).toInt64)), (x7_6 + (1 : Int32))))
set_option maxRecDepth 20000 in
def nX7_sums (S : Nat → Nat → Int32) (L : Nat → Nat → Int64) (p1 : Int64) (p3 : Int32) (p4 : Int32) : Option (Int64) := k_it (fun st => nX7_sums_l6 p3 p4 st.1 st.2 S L) 1000 (p1, (0 : Int32))
set_option maxHeartbeats 4000000 in
set_option maxRecDepth 100000 in
theorem mX7_sums (l : Launch) (D : va_G) (cs : Nat → ClassId) (a : Nat → Nat) (S : Nat → Nat → Int32) (L : Nat → Nat → Int64) (p1 : Int64) (p3 : Int32) (p4 : Int32) (r9 : Int64) (hd : nX7_sums S L p1 p3 p4 = some r9) : ∀ sz : Nat, Met l yX7_sums wsX7_sums ({ frames := 0, cells := 0, slots := 0, locals := 0 }) (k_Pc D cs [.ref (a 0), .long p1, .int p3, .int p4] (wX7 cs a S L) sz) (k_Ql D r9 (wX7 cs a S L) (wX7 cs a S L) sz) 0 0 (va_A (wX7 cs a S L) sz) := by
  intro sz
  refine Met.ofW (cc := cX7_sums) (maxL := 8) (ret := (some .long)) (by decide) rfl ?_
  intro p e s m args below meth c s₁ B hml hv
  obtain ⟨rfl, hsz, hP, hK, hD0, hNn⟩ := hv
  have hx := B.exec
  have hb := B.bytes
  have hr := B.returns
  have hts := atoms_spec (ws := wsX7_sums) B.pre
  have hown : s.vm.findClass RX7 = some m.cls := findClass_of_methodNamed B.named
  have hlocks := B.notSynchronized
  subst hsz
  obtain ⟨A, hAe⟩ : ∃ A : Nat → Prop, A = va_A (wX7 cs a S L) s.heap.size := ⟨_, rfl⟩
  have hD : va_D A (wX7 cs a S L) := by rw [hAe]; exact hD0.self
  have hA : ∀ q : Nat, s.heap.size ≤ q → A q := fun q h => by rw [hAe]; exact Or.inr h
  have hS : va_S A s.heap s.heap [] := va_S.rf
  have hDA : ∀ (S : Nat → Nat → Int32) (L : Nat → Nat → Int64), va_D A (wX7 cs a S L) := fun S L => k_DA hD rfl
  have hl := lv_entry ([.ref (a 0), .long p1, .int p3, .int p4]) (n := 8) (Nat.le_of_ble_eq_true rfl)
  rw [lg_entry_eq]
  generalize (lg_sl ([.ref (a 0), .long p1, .int p3, .int p4]) ++ List.replicate (8 - (lg_sl ([.ref (a 0), .long p1, .int p3, .int p4])).length) Slot.unset).toArray = ls at hl ⊢
  have hl : lv_has ls 8 [(0, .ref (a 0)), (1, .long p1), (3, .int p3), (4, .int p4)] := hl
  obtain ⟨Q, hQ⟩ : ∃ Q, Q = MQ below (k_Ql D r9 (wX7 cs a S L) (wX7 cs a S L) s.heap.size) ([.ref (a 0), .long p1, .int p3, .int p4] : List Value).toArray s 0 0 (va_A (wX7 cs a S L) s.heap.size) := ⟨_, rfl⟩
  rw [← hQ]
  have Lo6 : ∀ (n1 : Nat) (x5_6 : Int64) (x7_6 : Int32) (H : Heap) (locs : List Loc) (ls : Array Slot), k_it (fun st => nX7_sums_l6 p3 p4 st.1 st.2 S L) n1 (x5_6, x7_6) = some r9 → lv_has ls 8 [(0, .ref (a 0)), (3, .int p3), (4, .int p4), (5, .long x5_6), (7, .int x7_6)] → va_P D vwCl (wX7 cs a S L) H → va_S A s.heap H locs → W p l e (headSpec wsX7_sums ({ frames := 0, cells := 0, slots := 0, locals := 0 })).room s m ([.ref (a 0), .long p1, .int p3, .int p4] : List Value).toArray below meth c H locs 0 0 Q (F0 m 6 ls []) := by
    intro n1
    induction n1 with
    | zero => intro x5_6 x7_6 H locs ls hd; exact dn_it0 hd
    | succ n1 ih1 =>
      intro x5_6 x7_6 H locs ls hd hl hP hS
      have hD := hDA S L
      obtain ⟨y1, hd, hy1⟩ := dn_it hd
      have hd : nX7_sums_l6 p3 p4 x5_6 x7_6 S L = some y1 := hd
      unfold nX7_sums_l6 at hd
      refine lv_iload hx hb dX7_sums_6 (lv_at hl 4 rfl) ?_
      refine lv_iload hx hb dX7_sums_8 (lv_at hl 2 rfl) ?_
      refine lv_icmp_ge (tgt := 38) hx hb dX7_sums_10 (by decide) (fun c10 => ?_) (fun c10 => ?_)
      · have hd := dn_t c10 hd
        have hd := dn_up hd hy1
        refine lv_lload hx hb dX7_sums_38 (lv_at hl 3 rfl) ?_
        have e1 := dn_s1 hd
        exact k_lret hx hb hr hQ hAe e1 rfl hP hS hlocks dX7_sums_40
      · have hd := dn_f c10 hd
        refine lv_ldc2 (v := (31 : Int64)) hx hb hown (hts (.constantLong RX7 323 (31)) (List.mem_of_getElem? (i := 1) rfl)) dX7_sums_13 ?_
        refine lv_lload hx hb dX7_sums_16 (lv_at hl 3 rfl) ?_
        refine lv_lmul hx hb dX7_sums_18 ?_
        refine lv_aload_n hx hb dX7_sums_19 rfl (lv_at hl 0 rfl) ?_
        refine va_get (D := D) (ci := 5) (v := .ref (a 1)) (C := RX7) (T := TX7) (N := 25) hx hb hts (fun w h => List.mem_cons_of_mem _ (List.mem_append_right _ h)) hown hK hP 0 rfl rfl 0 (by decide) (hts (.fieldLink RX7 7 "LeastNeedModel" "told" "[I") (List.mem_of_getElem? (i := 2) rfl)) (fun _ h9 => h9) rfl dX7_sums_20 ?_
        refine lv_iload_n hx hb dX7_sums_23 rfl (lv_at hl 1 rfl) ?_
        refine lv_iload hx hb dX7_sums_24 (lv_at hl 4 rfl) ?_
        refine lv_iadd hx hb dX7_sums_26 ?_
        obtain ⟨hi27, hd⟩ := dn_i hd
        refine k_iald (D := D) (k := (p3 + x7_6).toNatClampNeg) (by rfl) hx hb hK hP 1 1 rfl rfl hi27 dX7_sums_27 ?_
        refine lv_i2l hx hb dX7_sums_28 rfl ?_
        refine lv_ladd hx hb dX7_sums_29 ?_
        refine lv_lstore (lv' := [(5, .long (((31 : Int64) * x5_6) + ((S 1 (p3 + x7_6).toNatClampNeg).toInt64))), (0, .ref (a 0)), (3, .int p3), (4, .int p4), (7, .int x7_6)]) hx hb dX7_sums_30 hl (by decide) rfl (fun ls hl => ?_)
        refine lv_iinc (v := x7_6 + (1 : Int32)) (lv' := [(7, .int (x7_6 + (1 : Int32))), (5, .long (((31 : Int64) * x5_6) + ((S 1 (p3 + x7_6).toNatClampNeg).toInt64))), (0, .ref (a 0)), (3, .int p3), (4, .int p4)]) hx hb dX7_sums_32 hl (k := 4) rfl rfl (by decide) rfl (fun ls hl => ?_)
        refine lv_goto (tgt := 6) hx hb dX7_sums_35 (by decide) ?_
        exact ih1 (((31 : Int64) * x5_6) + ((S 1 (p3 + x7_6).toNatClampNeg).toInt64)) (x7_6 + (1 : Int32)) _ _ _ (dn_bk hd hy1) (lv_sub hl [2, 3, 4, 1, 0] rfl) hP hS
  unfold nX7_sums at hd
  refine lv_lload_n hx hb dX7_sums_0 rfl (lv_at hl 1 rfl) ?_
  refine lv_lstore (lv' := [(5, .long p1), (0, .ref (a 0)), (1, .long p1), (3, .int p3), (4, .int p4)]) hx hb dX7_sums_1 hl (by decide) rfl (fun ls hl => ?_)
  refine lv_iconst (v := (0 : Int32)) hx hb dX7_sums_3 (by decide) ?_
  refine lv_istore (lv' := [(7, .int (0 : Int32)), (5, .long p1), (0, .ref (a 0)), (1, .long p1), (3, .int p3), (4, .int p4)]) hx hb dX7_sums_4 hl (by decide) rfl (fun ls hl => ?_)
  exact Lo6 1000 p1 (0 : Int32) _ _ _ hd (lv_sub hl [2, 4, 5, 1, 0] rfl) hP hS
-- LeastNeedModel.digest()J
set_option maxRecDepth 20000 in
def nX7_digest_l109 (x1_109 : Int64) (x3_109 : Int32) (S : Nat → Nat → Int32) (L : Nat → Nat → Int64) : Option ((Int64 × Int32) ⊕ (Int64)) := k_b1 (nX7_manyThings S L) (fun r111 => if r111 ≤ x3_109 then k_up (k_b1 (nX7_sums S L x1_109 (80 : Int32) ((6 : Int32) * (S 1 2))) (fun r214 => k_b1 (nX7_sums S L r214 (116 : Int32) ((4 : Int32) * (S 1 3))) (fun r230 => some (((31 : Int64) * (((31 : Int64) * r230) + (L 0 4))) + (L 0 5))))) else if ((65 : Int32) + x3_109) < 0 ∨ 284 ≤ ((65 : Int32) + x3_109).toNatClampNeg then none else if ((70 : Int32) + x3_109) < 0 ∨ 284 ≤ ((70 : Int32) + x3_109).toNatClampNeg then none else if ((75 : Int32) + x3_109) < 0 ∨ 284 ≤ ((75 : Int32) + x3_109).toNatClampNeg then none else if ((5 : Int32) + x3_109) < 0 ∨ 284 ≤ ((5 : Int32) + x3_109).toNatClampNeg then none else if ((10 : Int32) + x3_109) < 0 ∨ 284 ≤ ((10 : Int32) + x3_109).toNatClampNeg then none else some (.inl ((((31 : Int64) * (((31 : Int64) * (((31 : Int64) * (((31 : Int64) * (((31 : Int64) * x1_109) + ((S 1 ((65 : Int32) + x3_109).toNatClampNeg).toInt64))) + ((S 1 ((70 : Int32) + x3_109).toNatClampNeg).toInt64))) + ((S 1 ((75 : Int32) + x3_109).toNatClampNeg).toInt64))) + ((S 1 ((5 : Int32) + x3_109).toNatClampNeg).toInt64))) + ((S 1 ((10 : Int32) + x3_109).toNatClampNeg).toInt64)), (x3_109 + (1 : Int32)))))
set_option maxRecDepth 20000 in
def nX7_digest_l33 (x1_33 : Int64) (x3_33 : Int32) (S : Nat → Nat → Int32) (L : Nat → Nat → Int64) : Option ((Int64 × Int32) ⊕ (Int64)) := k_b1 (nX7_many S L) (fun r35 => if r35 ≤ x3_33 then k_up (k_it (fun st => nX7_digest_l109 st.1 st.2 S L) 1000 (x1_33, (0 : Int32))) else if ((23 : Int32) + x3_33) < 0 ∨ 284 ≤ ((23 : Int32) + x3_33).toNatClampNeg then none else if ((30 : Int32) + x3_33) < 0 ∨ 284 ≤ ((30 : Int32) + x3_33).toNatClampNeg then none else if ((15 : Int32) + x3_33) < 0 ∨ 284 ≤ ((15 : Int32) + x3_33).toNatClampNeg then none else k_b1 (nX7_sums S L (((31 : Int64) * (((31 : Int64) * (((31 : Int64) * x1_33) + ((S 1 ((23 : Int32) + x3_33).toNatClampNeg).toInt64))) + ((S 1 ((30 : Int32) + x3_33).toNatClampNeg).toInt64))) + ((S 1 ((15 : Int32) + x3_33).toNatClampNeg).toInt64)) ((37 : Int32) + ((4 : Int32) * x3_33)) (4 : Int32)) (fun r97 => some (.inl (r97, (x3_33 + (1 : Int32))))))
set_option maxRecDepth 20000 in
def nX7_digest_l6 (x1_6 : Int64) (x3_6 : Int32) (S : Nat → Nat → Int32) (L : Nat → Nat → Int64) : Option ((Int64 × Int32) ⊕ (Int64)) := if (9 : Int32) ≤ x3_6 then k_up (k_it (fun st => nX7_digest_l33 st.1 st.2 S L) 1000 (x1_6, (0 : Int32))) else k_b1 (nX7_counted S L x3_6) (fun r19 => some (.inl ((((31 : Int64) * x1_6) + r19.toInt64), (x3_6 + (1 : Int32)))))
set_option maxRecDepth 20000 in
def nX7_digest (S : Nat → Nat → Int32) (L : Nat → Nat → Int64) : Option (Int64) := k_it (fun st => nX7_digest_l6 st.1 st.2 S L) 1000 ((1483 : Int64), (0 : Int32))
set_option maxHeartbeats 4000000 in
set_option maxRecDepth 100000 in
theorem mX7_digest (l : Launch) (D : va_G) (cs : Nat → ClassId) (a : Nat → Nat) (S : Nat → Nat → Int32) (L : Nat → Nat → Int64) (r9 : Int64) (hd : nX7_digest S L = some r9) : ∀ sz : Nat, Met l yX7_digest wsX7_digest ({ frames := 2, cells := 0, slots := 0, locals := 45 }) (k_Pc D cs [.ref (a 0)] (wX7 cs a S L) sz) (k_Ql D r9 (wX7 cs a S L) (wX7 cs a S L) sz) 0 0 (va_A (wX7 cs a S L) sz) := by
  intro sz
  refine Met.ofW (cc := cX7_digest) (maxL := 4) (ret := (some .long)) (by decide) rfl ?_
  intro p e s m args below meth c s₁ B hml hv
  obtain ⟨rfl, hsz, hP, hK, hD0, hNn⟩ := hv
  have hx := B.exec
  have hb := B.bytes
  have hr := B.returns
  have hts := atoms_spec (ws := wsX7_digest) B.pre
  have hown : s.vm.findClass RX7 = some m.cls := findClass_of_methodNamed B.named
  have hlocks := B.notSynchronized
  subst hsz
  obtain ⟨A, hAe⟩ : ∃ A : Nat → Prop, A = va_A (wX7 cs a S L) s.heap.size := ⟨_, rfl⟩
  have hD : va_D A (wX7 cs a S L) := by rw [hAe]; exact hD0.self
  have hA : ∀ q : Nat, s.heap.size ≤ q → A q := fun q h => by rw [hAe]; exact Or.inr h
  have hS : va_S A s.heap s.heap [] := va_S.rf
  have hDA : ∀ (S : Nat → Nat → Int32) (L : Nat → Nat → Int64), va_D A (wX7 cs a S L) := fun S L => k_DA hD rfl
  have hl := lv_entry ([.ref (a 0)]) (n := 4) (Nat.le_of_ble_eq_true rfl)
  rw [lg_entry_eq]
  generalize (lg_sl ([.ref (a 0)]) ++ List.replicate (4 - (lg_sl ([.ref (a 0)])).length) Slot.unset).toArray = ls at hl ⊢
  have hl : lv_has ls 4 [(0, .ref (a 0))] := hl
  obtain ⟨Q, hQ⟩ : ∃ Q, Q = MQ below (k_Ql D r9 (wX7 cs a S L) (wX7 cs a S L) s.heap.size) ([.ref (a 0)] : List Value).toArray s 0 0 (va_A (wX7 cs a S L) s.heap.size) := ⟨_, rfl⟩
  rw [← hQ]
  have Lo109 : ∀ (n1 : Nat) (x1_109 : Int64) (x3_109 : Int32) (H : Heap) (locs : List Loc) (ls : Array Slot), k_it (fun st => nX7_digest_l109 st.1 st.2 S L) n1 (x1_109, x3_109) = some r9 → lv_has ls 4 [(0, .ref (a 0)), (1, .long x1_109), (3, .int x3_109)] → va_P D vwCl (wX7 cs a S L) H → va_S A s.heap H locs → W p l e (headSpec wsX7_digest ({ frames := 2, cells := 0, slots := 0, locals := 45 })).room s m ([.ref (a 0)] : List Value).toArray below meth c H locs 0 0 Q (F0 m 109 ls []) := by
    intro n1
    induction n1 with
    | zero => intro x1_109 x3_109 H locs ls hd; exact dn_it0 hd
    | succ n1 ih1 =>
      intro x1_109 x3_109 H locs ls hd hl hP hS
      have hD := hDA S L
      obtain ⟨y1, hd, hy1⟩ := dn_it hd
      have hd : nX7_digest_l109 x1_109 x3_109 S L = some y1 := hd
      unfold nX7_digest_l109 at hd
      refine lv_iload_n hx hb dX7_digest_109 rfl (lv_at hl 2 rfl) ?_
      refine lv_aload_n hx hb dX7_digest_110 rfl (lv_at hl 0 rfl) ?_
      obtain ⟨r111, hq111, hd⟩ := dn_b1 hd
      have hF := k_self hD hS hA
      refine k_run_i (va_runV (As := []) (rest := [.int x3_109]) ⟨hx, hb, hml, hown, hts⟩ (mX7_manyThings l D cs a S L r111 hq111 _) (cwV 0 hts gX7_digest_X7_manyThings rfl rfl rfl (by decide +kernel) ⟨Nat.le_of_ble_eq_true rfl, Nat.le_of_ble_eq_true rfl⟩) ⟨k_blind, va_recv hK hP (ci := 5) (q0 := 0) rfl rfl, k_pre hP hK hNn hD⟩ rfl rfl hl.1 rfl (lv_room (Nat.le_of_ble_eq_true rfl)) dX7_digest_111 ⟨Nat.le_of_ble_eq_true rfl, Nat.le_of_ble_eq_true rfl⟩) hS hF (fun H locs hP1 hk hS => ?_)
      have hP : va_P D vwCl (wX7 cs a S L) _ := hP1
      have hD := hDA S L
      refine lv_icmp_ge (tgt := 201) hx hb dX7_digest_114 (by decide) (fun c114 => ?_) (fun c114 => ?_)
      · have hd := dn_t c114 hd
        have hd := dn_up hd hy1
        refine lv_aload_n hx hb dX7_digest_201 rfl (lv_at hl 0 rfl) ?_
        refine lv_lload_n hx hb dX7_digest_202 rfl (lv_at hl 1 rfl) ?_
        refine lv_bipush (v := (80 : Int32)) hx hb dX7_digest_203 (by decide) ?_
        refine lv_bipush (v := (6 : Int32)) hx hb dX7_digest_205 (by decide) ?_
        refine lv_aload_n hx hb dX7_digest_207 rfl (lv_at hl 0 rfl) ?_
        refine va_get (D := D) (ci := 5) (v := .ref (a 1)) (C := RX7) (T := TX7) (N := 25) hx hb hts (fun w h => List.mem_cons_of_mem _ (List.mem_append_right _ h)) hown hK hP 0 rfl rfl 0 (by decide) (hts (.fieldLink RX7 7 "LeastNeedModel" "told" "[I") (List.mem_of_getElem? (i := 3) rfl)) (fun _ h9 => h9) rfl dX7_digest_208 ?_
        refine lv_iconst (v := (2 : Int32)) hx hb dX7_digest_211 (by decide) ?_
        refine k_iald (D := D) (k := 2) (by rfl) hx hb hK hP 1 1 rfl rfl (k_in (by decide)) dX7_digest_212 ?_
        refine lv_imul hx hb dX7_digest_213 ?_
        obtain ⟨r214, hq214, hd⟩ := dn_b1 hd
        have hF := k_self hD hS hA
        refine k_run_l (va_runV (As := [.long x1_109, .int (80 : Int32), .int ((6 : Int32) * (S 1 2))]) (rest := []) ⟨hx, hb, hml, hown, hts⟩ (mX7_sums l D cs a S L x1_109 (80 : Int32) ((6 : Int32) * (S 1 2)) r214 hq214 _) (cwV 3 hts gX7_digest_X7_sums rfl rfl rfl (by decide +kernel) ⟨Nat.le_of_ble_eq_true rfl, Nat.le_of_ble_eq_true rfl⟩) ⟨k_blind, va_recv hK hP (ci := 5) (q0 := 0) rfl rfl, k_pre hP hK hNn hD⟩ rfl rfl hl.1 rfl (lv_room (Nat.le_of_ble_eq_true rfl)) dX7_digest_214 ⟨Nat.le_of_ble_eq_true rfl, Nat.le_of_ble_eq_true rfl⟩) hS hF (fun H locs hP1 hk hS => ?_)
        have hP : va_P D vwCl (wX7 cs a S L) _ := hP1
        have hD := hDA S L
        refine lv_lstore_n (lv' := [(1, .long r214), (0, .ref (a 0)), (3, .int x3_109)]) hx hb dX7_digest_217 rfl hl (by decide) rfl (fun ls hl => ?_)
        refine lv_aload_n hx hb dX7_digest_218 rfl (lv_at hl 1 rfl) ?_
        refine lv_lload_n hx hb dX7_digest_219 rfl (lv_at hl 0 rfl) ?_
        refine lv_bipush (v := (116 : Int32)) hx hb dX7_digest_220 (by decide) ?_
        refine lv_iconst (v := (4 : Int32)) hx hb dX7_digest_222 (by decide) ?_
        refine lv_aload_n hx hb dX7_digest_223 rfl (lv_at hl 1 rfl) ?_
        refine va_get (D := D) (ci := 5) (v := .ref (a 1)) (C := RX7) (T := TX7) (N := 25) hx hb hts (fun w h => List.mem_cons_of_mem _ (List.mem_append_right _ h)) hown hK hP 0 rfl rfl 0 (by decide) (hts (.fieldLink RX7 7 "LeastNeedModel" "told" "[I") (List.mem_of_getElem? (i := 3) rfl)) (fun _ h9 => h9) rfl dX7_digest_224 ?_
        refine lv_iconst (v := (3 : Int32)) hx hb dX7_digest_227 (by decide) ?_
        refine k_iald (D := D) (k := 3) (by rfl) hx hb hK hP 1 1 rfl rfl (k_in (by decide)) dX7_digest_228 ?_
        refine lv_imul hx hb dX7_digest_229 ?_
        obtain ⟨r230, hq230, hd⟩ := dn_b1 hd
        have hF := k_self hD hS hA
        refine k_run_l (va_runV (As := [.long r214, .int (116 : Int32), .int ((4 : Int32) * (S 1 3))]) (rest := []) ⟨hx, hb, hml, hown, hts⟩ (mX7_sums l D cs a S L r214 (116 : Int32) ((4 : Int32) * (S 1 3)) r230 hq230 _) (cwV 3 hts gX7_digest_X7_sums rfl rfl rfl (by decide +kernel) ⟨Nat.le_of_ble_eq_true rfl, Nat.le_of_ble_eq_true rfl⟩) ⟨k_blind, va_recv hK hP (ci := 5) (q0 := 0) rfl rfl, k_pre hP hK hNn hD⟩ rfl rfl hl.1 rfl (lv_room (Nat.le_of_ble_eq_true rfl)) dX7_digest_230 ⟨Nat.le_of_ble_eq_true rfl, Nat.le_of_ble_eq_true rfl⟩) hS hF (fun H locs hP1 hk hS => ?_)
        have hP : va_P D vwCl (wX7 cs a S L) _ := hP1
        have hD := hDA S L
        refine lv_lstore_n (lv' := [(1, .long r230), (0, .ref (a 0)), (3, .int x3_109)]) hx hb dX7_digest_233 rfl hl (by decide) rfl (fun ls hl => ?_)
        refine lv_ldc2 (v := (31 : Int64)) hx hb hown (hts (.constantLong RX7 323 (31)) (List.mem_of_getElem? (i := 2) rfl)) dX7_digest_234 ?_
        refine lv_ldc2 (v := (31 : Int64)) hx hb hown (hts (.constantLong RX7 323 (31)) (List.mem_of_getElem? (i := 2) rfl)) dX7_digest_237 ?_
        refine lv_lload_n hx hb dX7_digest_240 rfl (lv_at hl 0 rfl) ?_
        refine lv_lmul hx hb dX7_digest_241 ?_
        refine lv_aload_n hx hb dX7_digest_242 rfl (lv_at hl 1 rfl) ?_
        refine va_get (D := D) (ci := 5) (v := .long (L 0 4)) (C := RX7) (T := TX7) (N := 25) hx hb hts (fun w h => List.mem_cons_of_mem _ (List.mem_append_right _ h)) hown hK hP 0 rfl rfl 4 (by decide) (hts (.fieldLink RX7 223 "LeastNeedModel" "above" "J") (List.mem_of_getElem? (i := 4) rfl)) (fun _ h9 => h9) rfl dX7_digest_243 ?_
        refine lv_ladd hx hb dX7_digest_246 ?_
        refine lv_lmul hx hb dX7_digest_247 ?_
        refine lv_aload_n hx hb dX7_digest_248 rfl (lv_at hl 1 rfl) ?_
        refine va_get (D := D) (ci := 5) (v := .long (L 0 5)) (C := RX7) (T := TX7) (N := 25) hx hb hts (fun w h => List.mem_cons_of_mem _ (List.mem_append_right _ h)) hown hK hP 0 rfl rfl 5 (by decide) (hts (.fieldLink RX7 23 "LeastNeedModel" "below" "J") (List.mem_of_getElem? (i := 5) rfl)) (fun _ h9 => h9) rfl dX7_digest_249 ?_
        refine lv_ladd hx hb dX7_digest_252 ?_
        have e1 := dn_s1 hd
        exact k_lret hx hb hr hQ hAe e1 rfl hP hS hlocks dX7_digest_253
      · have hd := dn_f c114 hd
        refine lv_ldc2 (v := (31 : Int64)) hx hb hown (hts (.constantLong RX7 323 (31)) (List.mem_of_getElem? (i := 2) rfl)) dX7_digest_117 ?_
        refine lv_ldc2 (v := (31 : Int64)) hx hb hown (hts (.constantLong RX7 323 (31)) (List.mem_of_getElem? (i := 2) rfl)) dX7_digest_120 ?_
        refine lv_ldc2 (v := (31 : Int64)) hx hb hown (hts (.constantLong RX7 323 (31)) (List.mem_of_getElem? (i := 2) rfl)) dX7_digest_123 ?_
        refine lv_lload_n hx hb dX7_digest_126 rfl (lv_at hl 1 rfl) ?_
        refine lv_lmul hx hb dX7_digest_127 ?_
        refine lv_aload_n hx hb dX7_digest_128 rfl (lv_at hl 0 rfl) ?_
        refine va_get (D := D) (ci := 5) (v := .ref (a 1)) (C := RX7) (T := TX7) (N := 25) hx hb hts (fun w h => List.mem_cons_of_mem _ (List.mem_append_right _ h)) hown hK hP 0 rfl rfl 0 (by decide) (hts (.fieldLink RX7 7 "LeastNeedModel" "told" "[I") (List.mem_of_getElem? (i := 3) rfl)) (fun _ h9 => h9) rfl dX7_digest_129 ?_
        refine lv_bipush (v := (65 : Int32)) hx hb dX7_digest_132 (by decide) ?_
        refine lv_iload_n hx hb dX7_digest_134 rfl (lv_at hl 2 rfl) ?_
        refine lv_iadd hx hb dX7_digest_135 ?_
        obtain ⟨hi136, hd⟩ := dn_i hd
        refine k_iald (D := D) (k := ((65 : Int32) + x3_109).toNatClampNeg) (by rfl) hx hb hK hP 1 1 rfl rfl hi136 dX7_digest_136 ?_
        refine lv_i2l hx hb dX7_digest_137 rfl ?_
        refine lv_ladd hx hb dX7_digest_138 ?_
        refine lv_lmul hx hb dX7_digest_139 ?_
        refine lv_aload_n hx hb dX7_digest_140 rfl (lv_at hl 0 rfl) ?_
        refine va_get (D := D) (ci := 5) (v := .ref (a 1)) (C := RX7) (T := TX7) (N := 25) hx hb hts (fun w h => List.mem_cons_of_mem _ (List.mem_append_right _ h)) hown hK hP 0 rfl rfl 0 (by decide) (hts (.fieldLink RX7 7 "LeastNeedModel" "told" "[I") (List.mem_of_getElem? (i := 3) rfl)) (fun _ h9 => h9) rfl dX7_digest_141 ?_
        refine lv_bipush (v := (70 : Int32)) hx hb dX7_digest_144 (by decide) ?_
        refine lv_iload_n hx hb dX7_digest_146 rfl (lv_at hl 2 rfl) ?_
        refine lv_iadd hx hb dX7_digest_147 ?_
        obtain ⟨hi148, hd⟩ := dn_i hd
        refine k_iald (D := D) (k := ((70 : Int32) + x3_109).toNatClampNeg) (by rfl) hx hb hK hP 1 1 rfl rfl hi148 dX7_digest_148 ?_
        refine lv_i2l hx hb dX7_digest_149 rfl ?_
        refine lv_ladd hx hb dX7_digest_150 ?_
        refine lv_lmul hx hb dX7_digest_151 ?_
        refine lv_aload_n hx hb dX7_digest_152 rfl (lv_at hl 0 rfl) ?_
        refine va_get (D := D) (ci := 5) (v := .ref (a 1)) (C := RX7) (T := TX7) (N := 25) hx hb hts (fun w h => List.mem_cons_of_mem _ (List.mem_append_right _ h)) hown hK hP 0 rfl rfl 0 (by decide) (hts (.fieldLink RX7 7 "LeastNeedModel" "told" "[I") (List.mem_of_getElem? (i := 3) rfl)) (fun _ h9 => h9) rfl dX7_digest_153 ?_
        refine lv_bipush (v := (75 : Int32)) hx hb dX7_digest_156 (by decide) ?_
        refine lv_iload_n hx hb dX7_digest_158 rfl (lv_at hl 2 rfl) ?_
        refine lv_iadd hx hb dX7_digest_159 ?_
        obtain ⟨hi160, hd⟩ := dn_i hd
        refine k_iald (D := D) (k := ((75 : Int32) + x3_109).toNatClampNeg) (by rfl) hx hb hK hP 1 1 rfl rfl hi160 dX7_digest_160 ?_
        refine lv_i2l hx hb dX7_digest_161 rfl ?_
        refine lv_ladd hx hb dX7_digest_162 ?_
        refine lv_lstore_n (lv' := [(1, .long (((31 : Int64) * (((31 : Int64) * (((31 : Int64) * x1_109) + ((S 1 ((65 : Int32) + x3_109).toNatClampNeg).toInt64))) + ((S 1 ((70 : Int32) + x3_109).toNatClampNeg).toInt64))) + ((S 1 ((75 : Int32) + x3_109).toNatClampNeg).toInt64))), (0, .ref (a 0)), (3, .int x3_109)]) hx hb dX7_digest_163 rfl hl (by decide) rfl (fun ls hl => ?_)
        refine lv_ldc2 (v := (31 : Int64)) hx hb hown (hts (.constantLong RX7 323 (31)) (List.mem_of_getElem? (i := 2) rfl)) dX7_digest_164 ?_
        refine lv_ldc2 (v := (31 : Int64)) hx hb hown (hts (.constantLong RX7 323 (31)) (List.mem_of_getElem? (i := 2) rfl)) dX7_digest_167 ?_
        refine lv_lload_n hx hb dX7_digest_170 rfl (lv_at hl 0 rfl) ?_
        refine lv_lmul hx hb dX7_digest_171 ?_
        refine lv_aload_n hx hb dX7_digest_172 rfl (lv_at hl 1 rfl) ?_
        refine va_get (D := D) (ci := 5) (v := .ref (a 1)) (C := RX7) (T := TX7) (N := 25) hx hb hts (fun w h => List.mem_cons_of_mem _ (List.mem_append_right _ h)) hown hK hP 0 rfl rfl 0 (by decide) (hts (.fieldLink RX7 7 "LeastNeedModel" "told" "[I") (List.mem_of_getElem? (i := 3) rfl)) (fun _ h9 => h9) rfl dX7_digest_173 ?_
        refine lv_iconst (v := (5 : Int32)) hx hb dX7_digest_176 (by decide) ?_
        refine lv_iload_n hx hb dX7_digest_177 rfl (lv_at hl 2 rfl) ?_
        refine lv_iadd hx hb dX7_digest_178 ?_
        obtain ⟨hi179, hd⟩ := dn_i hd
        refine k_iald (D := D) (k := ((5 : Int32) + x3_109).toNatClampNeg) (by rfl) hx hb hK hP 1 1 rfl rfl hi179 dX7_digest_179 ?_
        refine lv_i2l hx hb dX7_digest_180 rfl ?_
        refine lv_ladd hx hb dX7_digest_181 ?_
        refine lv_lmul hx hb dX7_digest_182 ?_
        refine lv_aload_n hx hb dX7_digest_183 rfl (lv_at hl 1 rfl) ?_
        refine va_get (D := D) (ci := 5) (v := .ref (a 1)) (C := RX7) (T := TX7) (N := 25) hx hb hts (fun w h => List.mem_cons_of_mem _ (List.mem_append_right _ h)) hown hK hP 0 rfl rfl 0 (by decide) (hts (.fieldLink RX7 7 "LeastNeedModel" "told" "[I") (List.mem_of_getElem? (i := 3) rfl)) (fun _ h9 => h9) rfl dX7_digest_184 ?_
        refine lv_bipush (v := (10 : Int32)) hx hb dX7_digest_187 (by decide) ?_
        refine lv_iload_n hx hb dX7_digest_189 rfl (lv_at hl 2 rfl) ?_
        refine lv_iadd hx hb dX7_digest_190 ?_
        obtain ⟨hi191, hd⟩ := dn_i hd
        refine k_iald (D := D) (k := ((10 : Int32) + x3_109).toNatClampNeg) (by rfl) hx hb hK hP 1 1 rfl rfl hi191 dX7_digest_191 ?_
        refine lv_i2l hx hb dX7_digest_192 rfl ?_
        refine lv_ladd hx hb dX7_digest_193 ?_
        refine lv_lstore_n (lv' := [(1, .long (((31 : Int64) * (((31 : Int64) * (((31 : Int64) * (((31 : Int64) * (((31 : Int64) * x1_109) + ((S 1 ((65 : Int32) + x3_109).toNatClampNeg).toInt64))) + ((S 1 ((70 : Int32) + x3_109).toNatClampNeg).toInt64))) + ((S 1 ((75 : Int32) + x3_109).toNatClampNeg).toInt64))) + ((S 1 ((5 : Int32) + x3_109).toNatClampNeg).toInt64))) + ((S 1 ((10 : Int32) + x3_109).toNatClampNeg).toInt64))), (0, .ref (a 0)), (3, .int x3_109)]) hx hb dX7_digest_194 rfl hl (by decide) rfl (fun ls hl => ?_)
        refine lv_iinc (v := x3_109 + (1 : Int32)) (lv' := [(3, .int (x3_109 + (1 : Int32))), (1, .long (((31 : Int64) * (((31 : Int64) * (((31 : Int64) * (((31 : Int64) * (((31 : Int64) * x1_109) + ((S 1 ((65 : Int32) + x3_109).toNatClampNeg).toInt64))) + ((S 1 ((70 : Int32) + x3_109).toNatClampNeg).toInt64))) + ((S 1 ((75 : Int32) + x3_109).toNatClampNeg).toInt64))) + ((S 1 ((5 : Int32) + x3_109).toNatClampNeg).toInt64))) + ((S 1 ((10 : Int32) + x3_109).toNatClampNeg).toInt64))), (0, .ref (a 0))]) hx hb dX7_digest_195 hl (k := 2) rfl rfl (by decide) rfl (fun ls hl => ?_)
        refine lv_goto (tgt := 109) hx hb dX7_digest_198 (by decide) ?_
        exact ih1 (((31 : Int64) * (((31 : Int64) * (((31 : Int64) * (((31 : Int64) * (((31 : Int64) * x1_109) + ((S 1 ((65 : Int32) + x3_109).toNatClampNeg).toInt64))) + ((S 1 ((70 : Int32) + x3_109).toNatClampNeg).toInt64))) + ((S 1 ((75 : Int32) + x3_109).toNatClampNeg).toInt64))) + ((S 1 ((5 : Int32) + x3_109).toNatClampNeg).toInt64))) + ((S 1 ((10 : Int32) + x3_109).toNatClampNeg).toInt64)) (x3_109 + (1 : Int32)) _ _ _ (dn_bk hd hy1) (lv_sub hl [2, 1, 0] rfl) hP hS
  have Lo33 : ∀ (n1 : Nat) (x1_33 : Int64) (x3_33 : Int32) (H : Heap) (locs : List Loc) (ls : Array Slot), k_it (fun st => nX7_digest_l33 st.1 st.2 S L) n1 (x1_33, x3_33) = some r9 → lv_has ls 4 [(0, .ref (a 0)), (1, .long x1_33), (3, .int x3_33)] → va_P D vwCl (wX7 cs a S L) H → va_S A s.heap H locs → W p l e (headSpec wsX7_digest ({ frames := 2, cells := 0, slots := 0, locals := 45 })).room s m ([.ref (a 0)] : List Value).toArray below meth c H locs 0 0 Q (F0 m 33 ls []) := by
    intro n1
    induction n1 with
    | zero => intro x1_33 x3_33 H locs ls hd; exact dn_it0 hd
    | succ n1 ih1 =>
      intro x1_33 x3_33 H locs ls hd hl hP hS
      have hD := hDA S L
      obtain ⟨y1, hd, hy1⟩ := dn_it hd
      have hd : nX7_digest_l33 x1_33 x3_33 S L = some y1 := hd
      unfold nX7_digest_l33 at hd
      refine lv_iload_n hx hb dX7_digest_33 rfl (lv_at hl 2 rfl) ?_
      refine lv_aload_n hx hb dX7_digest_34 rfl (lv_at hl 0 rfl) ?_
      obtain ⟨r35, hq35, hd⟩ := dn_b1 hd
      have hF := k_self hD hS hA
      refine k_run_i (va_runV (As := []) (rest := [.int x3_33]) ⟨hx, hb, hml, hown, hts⟩ (mX7_many l D cs a S L r35 hq35 _) (cwV 0 hts gX7_digest_X7_many rfl rfl rfl (by decide +kernel) ⟨Nat.le_of_ble_eq_true rfl, Nat.le_of_ble_eq_true rfl⟩) ⟨k_blind, va_recv hK hP (ci := 5) (q0 := 0) rfl rfl, k_pre hP hK hNn hD⟩ rfl rfl hl.1 rfl (lv_room (Nat.le_of_ble_eq_true rfl)) dX7_digest_35 ⟨Nat.le_of_ble_eq_true rfl, Nat.le_of_ble_eq_true rfl⟩) hS hF (fun H locs hP1 hk hS => ?_)
      have hP : va_P D vwCl (wX7 cs a S L) _ := hP1
      have hD := hDA S L
      refine lv_icmp_ge (tgt := 107) hx hb dX7_digest_38 (by decide) (fun c38 => ?_) (fun c38 => ?_)
      · have hd := dn_t c38 hd
        have hd := dn_up hd hy1
        refine lv_iconst (v := (0 : Int32)) hx hb dX7_digest_107 (by decide) ?_
        refine lv_istore_n (lv' := [(3, .int (0 : Int32)), (0, .ref (a 0)), (1, .long x1_33)]) hx hb dX7_digest_108 rfl hl (by decide) rfl (fun ls hl => ?_)
        exact Lo109 1000 x1_33 (0 : Int32) _ _ _ hd (lv_sub hl [1, 2, 0] rfl) hP hS
      · have hd := dn_f c38 hd
        refine lv_ldc2 (v := (31 : Int64)) hx hb hown (hts (.constantLong RX7 323 (31)) (List.mem_of_getElem? (i := 2) rfl)) dX7_digest_41 ?_
        refine lv_ldc2 (v := (31 : Int64)) hx hb hown (hts (.constantLong RX7 323 (31)) (List.mem_of_getElem? (i := 2) rfl)) dX7_digest_44 ?_
        refine lv_ldc2 (v := (31 : Int64)) hx hb hown (hts (.constantLong RX7 323 (31)) (List.mem_of_getElem? (i := 2) rfl)) dX7_digest_47 ?_
        refine lv_lload_n hx hb dX7_digest_50 rfl (lv_at hl 1 rfl) ?_
        refine lv_lmul hx hb dX7_digest_51 ?_
        refine lv_aload_n hx hb dX7_digest_52 rfl (lv_at hl 0 rfl) ?_
        refine va_get (D := D) (ci := 5) (v := .ref (a 1)) (C := RX7) (T := TX7) (N := 25) hx hb hts (fun w h => List.mem_cons_of_mem _ (List.mem_append_right _ h)) hown hK hP 0 rfl rfl 0 (by decide) (hts (.fieldLink RX7 7 "LeastNeedModel" "told" "[I") (List.mem_of_getElem? (i := 3) rfl)) (fun _ h9 => h9) rfl dX7_digest_53 ?_
        refine lv_bipush (v := (23 : Int32)) hx hb dX7_digest_56 (by decide) ?_
        refine lv_iload_n hx hb dX7_digest_58 rfl (lv_at hl 2 rfl) ?_
        refine lv_iadd hx hb dX7_digest_59 ?_
        obtain ⟨hi60, hd⟩ := dn_i hd
        refine k_iald (D := D) (k := ((23 : Int32) + x3_33).toNatClampNeg) (by rfl) hx hb hK hP 1 1 rfl rfl hi60 dX7_digest_60 ?_
        refine lv_i2l hx hb dX7_digest_61 rfl ?_
        refine lv_ladd hx hb dX7_digest_62 ?_
        refine lv_lmul hx hb dX7_digest_63 ?_
        refine lv_aload_n hx hb dX7_digest_64 rfl (lv_at hl 0 rfl) ?_
        refine va_get (D := D) (ci := 5) (v := .ref (a 1)) (C := RX7) (T := TX7) (N := 25) hx hb hts (fun w h => List.mem_cons_of_mem _ (List.mem_append_right _ h)) hown hK hP 0 rfl rfl 0 (by decide) (hts (.fieldLink RX7 7 "LeastNeedModel" "told" "[I") (List.mem_of_getElem? (i := 3) rfl)) (fun _ h9 => h9) rfl dX7_digest_65 ?_
        refine lv_bipush (v := (30 : Int32)) hx hb dX7_digest_68 (by decide) ?_
        refine lv_iload_n hx hb dX7_digest_70 rfl (lv_at hl 2 rfl) ?_
        refine lv_iadd hx hb dX7_digest_71 ?_
        obtain ⟨hi72, hd⟩ := dn_i hd
        refine k_iald (D := D) (k := ((30 : Int32) + x3_33).toNatClampNeg) (by rfl) hx hb hK hP 1 1 rfl rfl hi72 dX7_digest_72 ?_
        refine lv_i2l hx hb dX7_digest_73 rfl ?_
        refine lv_ladd hx hb dX7_digest_74 ?_
        refine lv_lmul hx hb dX7_digest_75 ?_
        refine lv_aload_n hx hb dX7_digest_76 rfl (lv_at hl 0 rfl) ?_
        refine va_get (D := D) (ci := 5) (v := .ref (a 1)) (C := RX7) (T := TX7) (N := 25) hx hb hts (fun w h => List.mem_cons_of_mem _ (List.mem_append_right _ h)) hown hK hP 0 rfl rfl 0 (by decide) (hts (.fieldLink RX7 7 "LeastNeedModel" "told" "[I") (List.mem_of_getElem? (i := 3) rfl)) (fun _ h9 => h9) rfl dX7_digest_77 ?_
        refine lv_bipush (v := (15 : Int32)) hx hb dX7_digest_80 (by decide) ?_
        refine lv_iload_n hx hb dX7_digest_82 rfl (lv_at hl 2 rfl) ?_
        refine lv_iadd hx hb dX7_digest_83 ?_
        obtain ⟨hi84, hd⟩ := dn_i hd
        refine k_iald (D := D) (k := ((15 : Int32) + x3_33).toNatClampNeg) (by rfl) hx hb hK hP 1 1 rfl rfl hi84 dX7_digest_84 ?_
        refine lv_i2l hx hb dX7_digest_85 rfl ?_
        refine lv_ladd hx hb dX7_digest_86 ?_
        refine lv_lstore_n (lv' := [(1, .long (((31 : Int64) * (((31 : Int64) * (((31 : Int64) * x1_33) + ((S 1 ((23 : Int32) + x3_33).toNatClampNeg).toInt64))) + ((S 1 ((30 : Int32) + x3_33).toNatClampNeg).toInt64))) + ((S 1 ((15 : Int32) + x3_33).toNatClampNeg).toInt64))), (0, .ref (a 0)), (3, .int x3_33)]) hx hb dX7_digest_87 rfl hl (by decide) rfl (fun ls hl => ?_)
        refine lv_aload_n hx hb dX7_digest_88 rfl (lv_at hl 1 rfl) ?_
        refine lv_lload_n hx hb dX7_digest_89 rfl (lv_at hl 0 rfl) ?_
        refine lv_bipush (v := (37 : Int32)) hx hb dX7_digest_90 (by decide) ?_
        refine lv_iconst (v := (4 : Int32)) hx hb dX7_digest_92 (by decide) ?_
        refine lv_iload_n hx hb dX7_digest_93 rfl (lv_at hl 2 rfl) ?_
        refine lv_imul hx hb dX7_digest_94 ?_
        refine lv_iadd hx hb dX7_digest_95 ?_
        refine lv_iconst (v := (4 : Int32)) hx hb dX7_digest_96 (by decide) ?_
        obtain ⟨r97, hq97, hd⟩ := dn_b1 hd
        have hF := k_self hD hS hA
        refine k_run_l (va_runV (As := [.long (((31 : Int64) * (((31 : Int64) * (((31 : Int64) * x1_33) + ((S 1 ((23 : Int32) + x3_33).toNatClampNeg).toInt64))) + ((S 1 ((30 : Int32) + x3_33).toNatClampNeg).toInt64))) + ((S 1 ((15 : Int32) + x3_33).toNatClampNeg).toInt64)), .int ((37 : Int32) + ((4 : Int32) * x3_33)), .int (4 : Int32)]) (rest := []) ⟨hx, hb, hml, hown, hts⟩ (mX7_sums l D cs a S L (((31 : Int64) * (((31 : Int64) * (((31 : Int64) * x1_33) + ((S 1 ((23 : Int32) + x3_33).toNatClampNeg).toInt64))) + ((S 1 ((30 : Int32) + x3_33).toNatClampNeg).toInt64))) + ((S 1 ((15 : Int32) + x3_33).toNatClampNeg).toInt64)) ((37 : Int32) + ((4 : Int32) * x3_33)) (4 : Int32) r97 hq97 _) (cwV 3 hts gX7_digest_X7_sums rfl rfl rfl (by decide +kernel) ⟨Nat.le_of_ble_eq_true rfl, Nat.le_of_ble_eq_true rfl⟩) ⟨k_blind, va_recv hK hP (ci := 5) (q0 := 0) rfl rfl, k_pre hP hK hNn hD⟩ rfl rfl hl.1 rfl (lv_room (Nat.le_of_ble_eq_true rfl)) dX7_digest_97 ⟨Nat.le_of_ble_eq_true rfl, Nat.le_of_ble_eq_true rfl⟩) hS hF (fun H locs hP1 hk hS => ?_)
        have hP : va_P D vwCl (wX7 cs a S L) _ := hP1
        have hD := hDA S L
        refine lv_lstore_n (lv' := [(1, .long r97), (0, .ref (a 0)), (3, .int x3_33)]) hx hb dX7_digest_100 rfl hl (by decide) rfl (fun ls hl => ?_)
        refine lv_iinc (v := x3_33 + (1 : Int32)) (lv' := [(3, .int (x3_33 + (1 : Int32))), (1, .long r97), (0, .ref (a 0))]) hx hb dX7_digest_101 hl (k := 2) rfl rfl (by decide) rfl (fun ls hl => ?_)
        refine lv_goto (tgt := 33) hx hb dX7_digest_104 (by decide) ?_
        exact ih1 r97 (x3_33 + (1 : Int32)) _ _ _ (dn_bk hd hy1) (lv_sub hl [2, 1, 0] rfl) hP hS
  have Lo6 : ∀ (n1 : Nat) (x1_6 : Int64) (x3_6 : Int32) (H : Heap) (locs : List Loc) (ls : Array Slot), k_it (fun st => nX7_digest_l6 st.1 st.2 S L) n1 (x1_6, x3_6) = some r9 → lv_has ls 4 [(0, .ref (a 0)), (1, .long x1_6), (3, .int x3_6)] → va_P D vwCl (wX7 cs a S L) H → va_S A s.heap H locs → W p l e (headSpec wsX7_digest ({ frames := 2, cells := 0, slots := 0, locals := 45 })).room s m ([.ref (a 0)] : List Value).toArray below meth c H locs 0 0 Q (F0 m 6 ls []) := by
    intro n1
    induction n1 with
    | zero => intro x1_6 x3_6 H locs ls hd; exact dn_it0 hd
    | succ n1 ih1 =>
      intro x1_6 x3_6 H locs ls hd hl hP hS
      have hD := hDA S L
      obtain ⟨y1, hd, hy1⟩ := dn_it hd
      have hd : nX7_digest_l6 x1_6 x3_6 S L = some y1 := hd
      unfold nX7_digest_l6 at hd
      refine lv_iload_n hx hb dX7_digest_6 rfl (lv_at hl 2 rfl) ?_
      refine lv_bipush (v := (9 : Int32)) hx hb dX7_digest_7 (by decide) ?_
      refine lv_icmp_ge (tgt := 31) hx hb dX7_digest_9 (by decide) (fun c9 => ?_) (fun c9 => ?_)
      · have hd := dn_t c9 hd
        have hd := dn_up hd hy1
        refine lv_iconst (v := (0 : Int32)) hx hb dX7_digest_31 (by decide) ?_
        refine lv_istore_n (lv' := [(3, .int (0 : Int32)), (0, .ref (a 0)), (1, .long x1_6)]) hx hb dX7_digest_32 rfl hl (by decide) rfl (fun ls hl => ?_)
        exact Lo33 1000 x1_6 (0 : Int32) _ _ _ hd (lv_sub hl [1, 2, 0] rfl) hP hS
      · have hd := dn_f c9 hd
        refine lv_ldc2 (v := (31 : Int64)) hx hb hown (hts (.constantLong RX7 323 (31)) (List.mem_of_getElem? (i := 2) rfl)) dX7_digest_12 ?_
        refine lv_lload_n hx hb dX7_digest_15 rfl (lv_at hl 1 rfl) ?_
        refine lv_lmul hx hb dX7_digest_16 ?_
        refine lv_aload_n hx hb dX7_digest_17 rfl (lv_at hl 0 rfl) ?_
        refine lv_iload_n hx hb dX7_digest_18 rfl (lv_at hl 2 rfl) ?_
        obtain ⟨r19, hq19, hd⟩ := dn_b1 hd
        have hF := k_self hD hS hA
        refine k_run_i (va_runV (As := [.int x3_6]) (rest := [.long ((31 : Int64) * x1_6)]) ⟨hx, hb, hml, hown, hts⟩ (mX7_counted l D cs a S L x3_6 r19 hq19 _) (cwV 1 hts gX7_digest_X7_counted rfl rfl rfl (by decide +kernel) ⟨Nat.le_of_ble_eq_true rfl, Nat.le_of_ble_eq_true rfl⟩) ⟨k_blind, va_recv hK hP (ci := 5) (q0 := 0) rfl rfl, k_pre hP hK hNn hD⟩ rfl rfl hl.1 rfl (lv_room (Nat.le_of_ble_eq_true rfl)) dX7_digest_19 ⟨Nat.le_of_ble_eq_true rfl, Nat.le_of_ble_eq_true rfl⟩) hS hF (fun H locs hP1 hk hS => ?_)
        have hP : va_P D vwCl (wX7 cs a S L) _ := hP1
        have hD := hDA S L
        refine lv_i2l hx hb dX7_digest_22 rfl ?_
        refine lv_ladd hx hb dX7_digest_23 ?_
        refine lv_lstore_n (lv' := [(1, .long (((31 : Int64) * x1_6) + r19.toInt64)), (0, .ref (a 0)), (3, .int x3_6)]) hx hb dX7_digest_24 rfl hl (by decide) rfl (fun ls hl => ?_)
        refine lv_iinc (v := x3_6 + (1 : Int32)) (lv' := [(3, .int (x3_6 + (1 : Int32))), (1, .long (((31 : Int64) * x1_6) + r19.toInt64)), (0, .ref (a 0))]) hx hb dX7_digest_25 hl (k := 2) rfl rfl (by decide) rfl (fun ls hl => ?_)
        refine lv_goto (tgt := 6) hx hb dX7_digest_28 (by decide) ?_
        exact ih1 (((31 : Int64) * x1_6) + r19.toInt64) (x3_6 + (1 : Int32)) _ _ _ (dn_bk hd hy1) (lv_sub hl [2, 1, 0] rfl) hP hS
  unfold nX7_digest at hd
  refine lv_ldc2 (v := (1483 : Int64)) hx hb hown (hts (.constantLong RX7 325 (1483)) (List.mem_of_getElem? (i := 1) rfl)) dX7_digest_0 ?_
  refine lv_lstore_n (lv' := [(1, .long (1483 : Int64)), (0, .ref (a 0))]) hx hb dX7_digest_3 rfl hl (by decide) rfl (fun ls hl => ?_)
  refine lv_iconst (v := (0 : Int32)) hx hb dX7_digest_4 (by decide) ?_
  refine lv_istore_n (lv' := [(3, .int (0 : Int32)), (1, .long (1483 : Int64)), (0, .ref (a 0))]) hx hb dX7_digest_5 rfl hl (by decide) rfl (fun ls hl => ?_)
  exact Lo6 1000 (1483 : Int64) (0 : Int32) _ _ _ hd (lv_sub hl [2, 1, 0] rfl) hP hS
