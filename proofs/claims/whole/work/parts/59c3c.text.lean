-- LeastNeed$Reader.tell(LLeastNeed$Valley;)I
set_option maxHeartbeats 4000000 in
set_option maxRecDepth 100000 in
theorem mX2_tell (l : Launch) (D : va_G) (cs : Nat → ClassId) (adK adV : Nat → Nat) (zt : Option Nat) (a : Nat → Nat) (b : Nat → Nat) (S : Nat → Nat → Int32) (T : Nat → Nat → Int32) (r9 : Int32) (S9 : (Nat → Nat → Int32)) (T9 : (Nat → Nat → Int32)) (hd : nX2_tell S T = some (r9, S9, T9)) : ∀ sz : Nat, Met l yX2_tell wsX2_tell ({ frames := 5, cells := 0, slots := 0, locals := 128 }) (k_PcT D cs adK adV zt [.ref (a 0), .ref (b 0)] (wX2 cs a S ++ wX5 cs b T) sz) (k_Qi D r9 (wX2 cs a S ++ wX5 cs b T) (wX2 cs a S9 ++ wX5 cs b T9) sz) 0 0 (va_A (wX2 cs a S ++ wX5 cs b T) sz) := by
  intro sz
  refine Met.ofW (cc := cX2_tell) (maxL := 4) (ret := (some .int)) (by decide) rfl ?_
  intro p e s m args below meth c s₁ B hml hv
  obtain ⟨⟨rfl, hsz, hP, hK, hD0, hNn⟩, hT⟩ := hv
  have hx := B.exec
  have hb := B.bytes
  have hr := B.returns
  have hts := atoms_spec (ws := wsX2_tell) B.pre
  have hown : s.vm.findClass RX2 = some m.cls := findClass_of_methodNamed B.named
  have hlocks := B.notSynchronized
  subst hsz
  obtain ⟨A, hAe⟩ : ∃ A : Nat → Prop, A = va_A (wX2 cs a S ++ wX5 cs b T) s.heap.size := ⟨_, rfl⟩
  rw [← hAe] at hT
  have hD : va_D A (wX2 cs a S ++ wX5 cs b T) := by rw [hAe]; exact hD0.self
  have hA : ∀ q : Nat, s.heap.size ≤ q → A q := fun q h => by rw [hAe]; exact Or.inr h
  have hS : va_S A s.heap s.heap [] := va_S.rf
  have hDA : ∀ (S : Nat → Nat → Int32) (T : Nat → Nat → Int32), va_D A (wX2 cs a S ++ wX5 cs b T) := fun S T => k_DA hD rfl
  have hl := lv_entry ([.ref (a 0), .ref (b 0)]) (n := 4) (Nat.le_of_ble_eq_true rfl)
  rw [lg_entry_eq]
  generalize (lg_sl ([.ref (a 0), .ref (b 0)]) ++ List.replicate (4 - (lg_sl ([.ref (a 0), .ref (b 0)])).length) Slot.unset).toArray = ls at hl ⊢
  have hl : lv_has ls 4 [(0, .ref (a 0)), (1, .ref (b 0))] := hl
  obtain ⟨Q, hQ⟩ : ∃ Q, Q = MQ below (k_Qi D r9 (wX2 cs a S ++ wX5 cs b T) (wX2 cs a S9 ++ wX5 cs b T9) s.heap.size) ([.ref (a 0), .ref (b 0)] : List Value).toArray s 0 0 (va_A (wX2 cs a S ++ wX5 cs b T) s.heap.size) := ⟨_, rfl⟩
  rw [← hQ]
  have Lo39 : ∀ (n1 : Nat) (x2_39 : Int32) (S_39 : Nat → Nat → Int32) (T_39 : Nat → Nat → Int32) (H : Heap) (locs : List Loc) (ls : Array Slot), k_it (fun st => nX2_tell_l39 st.1 st.2.1 st.2.2) n1 (x2_39, S_39, T_39) = some (r9, S9, T9) → lv_has ls 4 [(0, .ref (a 0)), (1, .ref (b 0)), (2, .int x2_39)] → va_P D vwCl (wX2 cs a S_39 ++ wX5 cs b T_39) H → va_S A s.heap H locs → W p l e (headSpec wsX2_tell ({ frames := 5, cells := 0, slots := 0, locals := 128 })).room s m ([.ref (a 0), .ref (b 0)] : List Value).toArray below meth c H locs 0 0 Q (F0 m 39 ls []) := by
    intro n1
    induction n1 with
    | zero => intro x2_39 S_39 T_39 H locs ls hd; exact dn_it0 hd
    | succ n1 ih1 =>
      intro x2_39 S_39 T_39 H locs ls hd hl hP hS
      have hD := hDA S_39 T_39
      obtain ⟨y1, hd, hy1⟩ := dn_it hd
      have hd : nX2_tell_l39 x2_39 S_39 T_39 = some y1 := hd
      have Jo143 : ∀ (x2_143 : Int32) (x3_143 : Int32) (S_143 : Nat → Nat → Int32) (T_143 : Nat → Nat → Int32) (H : Heap) (locs : List Loc) (ls : Array Slot), nX2_tell_i39_j143 x2_143 x3_143 S_143 T_143 = some y1 → lv_has ls 4 [(0, .ref (a 0)), (1, .ref (b 0)), (2, .int x2_143), (3, .int x3_143)] → va_P D vwCl (wX2 cs a S_143 ++ wX5 cs b T_143) H → va_S A s.heap H locs → W p l e (headSpec wsX2_tell ({ frames := 5, cells := 0, slots := 0, locals := 128 })).room s m ([.ref (a 0), .ref (b 0)] : List Value).toArray below meth c H locs 0 0 Q (F0 m 143 ls []) := by
        intro x2_143 x3_143 S_143 T_143 H locs ls hd hl hP hS
        have hD := hDA S_143 T_143
        unfold nX2_tell_i39_j143 at hd
        refine lv_iload_n hx hb dX2_tell_143 rfl (lv_at hl 3 rfl) ?_
        refine lv_if_ne (tgt := 155) hx hb dX2_tell_144 (by decide) (fun c144 => ?_) (fun c144 => ?_)
        · have hd := dn_f c144 hd
          refine lv_iinc (v := x2_143 + (1 : Int32)) (lv' := [(2, .int (x2_143 + (1 : Int32))), (0, .ref (a 0)), (1, .ref (b 0)), (3, .int x3_143)]) hx hb dX2_tell_155 hl (k := 2) rfl rfl (by decide) rfl (fun ls hl => ?_)
          refine lv_goto (tgt := 39) hx hb dX2_tell_158 (by decide) ?_
          exact ih1 (x2_143 + (1 : Int32)) S_143 T_143 _ _ _ (dn_bk hd hy1) (lv_sub hl [1, 2, 0] rfl) hP hS
        · have hd := dn_t c144 hd
          have hd := dn_up hd hy1
          refine lv_bipush (v := (-10 : Int32)) hx hb dX2_tell_147 (by decide) ?_
          refine lv_aload_n hx hb dX2_tell_149 rfl (lv_at hl 0 rfl) ?_
          refine va_get (D := D) (ci := 1) (v := .int (S_143 0 4)) (C := RX2) (T := TX2) (N := 6) hx hb hts (fun w h => List.mem_cons_of_mem _ (List.mem_append_left _ (List.mem_append_left _ (List.mem_append_right _ h)))) hown hK hP 0 rfl rfl 4 (by decide) (hts (.fieldLink RX2 44 "LeastNeed$Reader" "start" "I") (List.mem_of_getElem? (i := 2) rfl)) (fun _ h9 => h9) rfl dX2_tell_150 ?_
          refine lv_isub hx hb dX2_tell_153 ?_
          obtain ⟨e1, e2, e3⟩ := dn_s3 hd
          exact k_iret hx hb hr hQ hAe e1 (by rw [← e2, ← e3]) hP hS hlocks dX2_tell_154
      unfold nX2_tell_l39 at hd
      refine lv_iload_n hx hb dX2_tell_39 rfl (lv_at hl 2 rfl) ?_
      refine lv_sipush (v := (150 : Int32)) hx hb dX2_tell_40 (by decide) ?_
      refine lv_icmp_gt (tgt := 161) hx hb dX2_tell_43 (by decide) (fun c43 => ?_) (fun c43 => ?_)
      · have hd := dn_t c43 hd
        have hd := dn_up hd hy1
        refine lv_iload_n hx hb dX2_tell_161 rfl (lv_at hl 2 rfl) ?_
        obtain ⟨e1, e2, e3⟩ := dn_s3 hd
        exact k_iret hx hb hr hQ hAe e1 (by rw [← e2, ← e3]) hP hS hlocks dX2_tell_162
      · have hd := dn_f c43 hd
        refine lv_aload_n hx hb dX2_tell_46 rfl (lv_at hl 0 rfl) ?_
        refine va_get (D := D) (ci := 1) (v := .int (S_39 0 3)) (C := RX2) (T := TX2) (N := 6) hx hb hts (fun w h => List.mem_cons_of_mem _ (List.mem_append_left _ (List.mem_append_left _ (List.mem_append_right _ h)))) hown hK hP 0 rfl rfl 3 (by decide) (hts (.fieldLink RX2 47 "LeastNeed$Reader" "token" "I") (List.mem_of_getElem? (i := 3) rfl)) (fun _ h9 => h9) rfl dX2_tell_47 ?_
        refine lv_iconst (v := (3 : Int32)) hx hb dX2_tell_50 (by decide) ?_
        refine lv_icmp_eq (tgt := 161) hx hb dX2_tell_51 (by decide) (fun c51 => ?_) (fun c51 => ?_)
        · have hd := dn_t c51 hd
          have hd := dn_up hd hy1
          refine lv_iload_n hx hb dX2_tell_161 rfl (lv_at hl 2 rfl) ?_
          obtain ⟨e1, e2, e3⟩ := dn_s3 hd
          exact k_iret hx hb hr hQ hAe e1 (by rw [← e2, ← e3]) hP hS hlocks dX2_tell_162
        · have hd := dn_f c51 hd
          refine lv_iconst (v := (0 : Int32)) hx hb dX2_tell_54 (by decide) ?_
          refine lv_istore_n (lv' := [(3, .int (0 : Int32)), (0, .ref (a 0)), (1, .ref (b 0)), (2, .int x2_39)]) hx hb dX2_tell_55 rfl hl (by decide) rfl (fun ls hl => ?_)
          refine lv_aload_n hx hb dX2_tell_56 rfl (lv_at hl 1 rfl) ?_
          refine va_ldcS hx hb hown hT.2.2.2.2.1 dX2_tell_57 ?_
          obtain ⟨r59, hq59, hd⟩ := dn_b1 hd
          have hPc : va_P D vwCl (wX2 cs a S_39) _ := k_sub hP [0, 1, 2] (wcX2_X5_X2_0 cs a b S_39 T_39)
          have hDc : va_D A (wX2 cs a S_39) := hD.sub [0, 1, 2] (by decide) (wcX2_X5_X2_0 cs a b S_39 T_39)
          have hF := k_self hDc hS hA
          refine k_run_i (va_runV (As := [.ref (adK 1)]) (rest := []) ⟨hx, hb, hml, hown, hts⟩ (mX2_isWord l D cs adK adV zt a 1 S_39 r59 (by decide) hq59 _) (cwV 1 hts gX2_tell_X2_isWord rfl rfl rfl (by decide +kernel) ⟨Nat.le_of_ble_eq_true rfl, Nat.le_of_ble_eq_true rfl⟩) ⟨k_blindT, va_recv hK hP (ci := 1) (q0 := 0) rfl rfl, k_preT hPc hK hNn hDc hT hS hF⟩ rfl rfl hl.1 rfl (lv_room (Nat.le_of_ble_eq_true rfl)) dX2_tell_59 ⟨Nat.le_of_ble_eq_true rfl, Nat.le_of_ble_eq_true rfl⟩) hS hF (fun H locs hP1 hk hS => ?_)
          have hP : va_P D vwCl (wX2 cs a S_39 ++ wX5 cs b T_39) _ := k_back hP hD [0, 1, 2] [3, 4, 5, 6, 7, 8, 9, 10, 11, 12, 13, 14, 15, 16, 17, 18] [16, 17, 18, 0, 1, 2, 3, 4, 5, 6, 7, 8, 9, 10, 11, 12, 13, 14, 15] (wcX2_X5_X2_0 cs a b S_39 T_39) (by decide) hk hP1 (wbX2_X5_X2_0 cs a b S_39 T_39)
          have hD := hDA S_39 T_39
          refine lv_if_eq (tgt := 74) hx hb dX2_tell_62 (by decide) (fun c62 => ?_) (fun c62 => ?_)
          · have hd := dn_t c62 hd
            refine lv_aload_n hx hb dX2_tell_74 rfl (lv_at hl 1 rfl) ?_
            refine va_ldcS hx hb hown hT.2.2.2.2.2.1 dX2_tell_75 ?_
            obtain ⟨r77, hq77, hd⟩ := dn_b1 hd
            have hPc : va_P D vwCl (wX2 cs a S_39) _ := k_sub hP [0, 1, 2] (wcX2_X5_X2_0 cs a b S_39 T_39)
            have hDc : va_D A (wX2 cs a S_39) := hD.sub [0, 1, 2] (by decide) (wcX2_X5_X2_0 cs a b S_39 T_39)
            have hF := k_self hDc hS hA
            refine k_run_i (va_runV (As := [.ref (adK 2)]) (rest := []) ⟨hx, hb, hml, hown, hts⟩ (mX2_isWord l D cs adK adV zt a 2 S_39 r77 (by decide) hq77 _) (cwV 1 hts gX2_tell_X2_isWord rfl rfl rfl (by decide +kernel) ⟨Nat.le_of_ble_eq_true rfl, Nat.le_of_ble_eq_true rfl⟩) ⟨k_blindT, va_recv hK hP (ci := 1) (q0 := 0) rfl rfl, k_preT hPc hK hNn hDc hT hS hF⟩ rfl rfl hl.1 rfl (lv_room (Nat.le_of_ble_eq_true rfl)) dX2_tell_77 ⟨Nat.le_of_ble_eq_true rfl, Nat.le_of_ble_eq_true rfl⟩) hS hF (fun H locs hP1 hk hS => ?_)
            have hP : va_P D vwCl (wX2 cs a S_39 ++ wX5 cs b T_39) _ := k_back hP hD [0, 1, 2] [3, 4, 5, 6, 7, 8, 9, 10, 11, 12, 13, 14, 15, 16, 17, 18] [16, 17, 18, 0, 1, 2, 3, 4, 5, 6, 7, 8, 9, 10, 11, 12, 13, 14, 15] (wcX2_X5_X2_0 cs a b S_39 T_39) (by decide) hk hP1 (wbX2_X5_X2_0 cs a b S_39 T_39)
            have hD := hDA S_39 T_39
            refine lv_if_eq (tgt := 92) hx hb dX2_tell_80 (by decide) (fun c80 => ?_) (fun c80 => ?_)
            · have hd := dn_t c80 hd
              refine lv_aload_n hx hb dX2_tell_92 rfl (lv_at hl 1 rfl) ?_
              refine va_ldcS hx hb hown hT.2.2.2.2.2.2.1 dX2_tell_93 ?_
              obtain ⟨r95, hq95, hd⟩ := dn_b1 hd
              have hPc : va_P D vwCl (wX2 cs a S_39) _ := k_sub hP [0, 1, 2] (wcX2_X5_X2_0 cs a b S_39 T_39)
              have hDc : va_D A (wX2 cs a S_39) := hD.sub [0, 1, 2] (by decide) (wcX2_X5_X2_0 cs a b S_39 T_39)
              have hF := k_self hDc hS hA
              refine k_run_i (va_runV (As := [.ref (adK 3)]) (rest := []) ⟨hx, hb, hml, hown, hts⟩ (mX2_isWord l D cs adK adV zt a 3 S_39 r95 (by decide) hq95 _) (cwV 1 hts gX2_tell_X2_isWord rfl rfl rfl (by decide +kernel) ⟨Nat.le_of_ble_eq_true rfl, Nat.le_of_ble_eq_true rfl⟩) ⟨k_blindT, va_recv hK hP (ci := 1) (q0 := 0) rfl rfl, k_preT hPc hK hNn hDc hT hS hF⟩ rfl rfl hl.1 rfl (lv_room (Nat.le_of_ble_eq_true rfl)) dX2_tell_95 ⟨Nat.le_of_ble_eq_true rfl, Nat.le_of_ble_eq_true rfl⟩) hS hF (fun H locs hP1 hk hS => ?_)
              have hP : va_P D vwCl (wX2 cs a S_39 ++ wX5 cs b T_39) _ := k_back hP hD [0, 1, 2] [3, 4, 5, 6, 7, 8, 9, 10, 11, 12, 13, 14, 15, 16, 17, 18] [16, 17, 18, 0, 1, 2, 3, 4, 5, 6, 7, 8, 9, 10, 11, 12, 13, 14, 15] (wcX2_X5_X2_0 cs a b S_39 T_39) (by decide) hk hP1 (wbX2_X5_X2_0 cs a b S_39 T_39)
              have hD := hDA S_39 T_39
              refine lv_if_eq (tgt := 110) hx hb dX2_tell_98 (by decide) (fun c98 => ?_) (fun c98 => ?_)
              · have hd := dn_t c98 hd
                refine lv_aload_n hx hb dX2_tell_110 rfl (lv_at hl 1 rfl) ?_
                refine va_ldcS hx hb hown hT.2.2.2.2.2.2.2.1 dX2_tell_111 ?_
                obtain ⟨r113, hq113, hd⟩ := dn_b1 hd
                have hPc : va_P D vwCl (wX2 cs a S_39) _ := k_sub hP [0, 1, 2] (wcX2_X5_X2_0 cs a b S_39 T_39)
                have hDc : va_D A (wX2 cs a S_39) := hD.sub [0, 1, 2] (by decide) (wcX2_X5_X2_0 cs a b S_39 T_39)
                have hF := k_self hDc hS hA
                refine k_run_i (va_runV (As := [.ref (adK 4)]) (rest := []) ⟨hx, hb, hml, hown, hts⟩ (mX2_isWord l D cs adK adV zt a 4 S_39 r113 (by decide) hq113 _) (cwV 1 hts gX2_tell_X2_isWord rfl rfl rfl (by decide +kernel) ⟨Nat.le_of_ble_eq_true rfl, Nat.le_of_ble_eq_true rfl⟩) ⟨k_blindT, va_recv hK hP (ci := 1) (q0 := 0) rfl rfl, k_preT hPc hK hNn hDc hT hS hF⟩ rfl rfl hl.1 rfl (lv_room (Nat.le_of_ble_eq_true rfl)) dX2_tell_113 ⟨Nat.le_of_ble_eq_true rfl, Nat.le_of_ble_eq_true rfl⟩) hS hF (fun H locs hP1 hk hS => ?_)
                have hP : va_P D vwCl (wX2 cs a S_39 ++ wX5 cs b T_39) _ := k_back hP hD [0, 1, 2] [3, 4, 5, 6, 7, 8, 9, 10, 11, 12, 13, 14, 15, 16, 17, 18] [16, 17, 18, 0, 1, 2, 3, 4, 5, 6, 7, 8, 9, 10, 11, 12, 13, 14, 15] (wcX2_X5_X2_0 cs a b S_39 T_39) (by decide) hk hP1 (wbX2_X5_X2_0 cs a b S_39 T_39)
                have hD := hDA S_39 T_39
                refine lv_if_eq (tgt := 128) hx hb dX2_tell_116 (by decide) (fun c116 => ?_) (fun c116 => ?_)
                · have hd := dn_t c116 hd
                  refine lv_aload_n hx hb dX2_tell_128 rfl (lv_at hl 1 rfl) ?_
                  refine va_ldcS hx hb hown hT.2.2.2.2.2.2.2.2 dX2_tell_129 ?_
                  obtain ⟨r131, hq131, hd⟩ := dn_b1 hd
                  have hPc : va_P D vwCl (wX2 cs a S_39) _ := k_sub hP [0, 1, 2] (wcX2_X5_X2_0 cs a b S_39 T_39)
                  have hDc : va_D A (wX2 cs a S_39) := hD.sub [0, 1, 2] (by decide) (wcX2_X5_X2_0 cs a b S_39 T_39)
                  have hF := k_self hDc hS hA
                  refine k_run_i (va_runV (As := [.ref (adK 5)]) (rest := []) ⟨hx, hb, hml, hown, hts⟩ (mX2_isWord l D cs adK adV zt a 5 S_39 r131 (by decide) hq131 _) (cwV 1 hts gX2_tell_X2_isWord rfl rfl rfl (by decide +kernel) ⟨Nat.le_of_ble_eq_true rfl, Nat.le_of_ble_eq_true rfl⟩) ⟨k_blindT, va_recv hK hP (ci := 1) (q0 := 0) rfl rfl, k_preT hPc hK hNn hDc hT hS hF⟩ rfl rfl hl.1 rfl (lv_room (Nat.le_of_ble_eq_true rfl)) dX2_tell_131 ⟨Nat.le_of_ble_eq_true rfl, Nat.le_of_ble_eq_true rfl⟩) hS hF (fun H locs hP1 hk hS => ?_)
                  have hP : va_P D vwCl (wX2 cs a S_39 ++ wX5 cs b T_39) _ := k_back hP hD [0, 1, 2] [3, 4, 5, 6, 7, 8, 9, 10, 11, 12, 13, 14, 15, 16, 17, 18] [16, 17, 18, 0, 1, 2, 3, 4, 5, 6, 7, 8, 9, 10, 11, 12, 13, 14, 15] (wcX2_X5_X2_0 cs a b S_39 T_39) (by decide) hk hP1 (wbX2_X5_X2_0 cs a b S_39 T_39)
                  have hD := hDA S_39 T_39
                  refine lv_if_eq (tgt := 143) hx hb dX2_tell_134 (by decide) (fun c134 => ?_) (fun c134 => ?_)
                  · have hd := dn_t c134 hd
                    exact Jo143 x2_39 (0 : Int32) S_39 T_39 _ _ _ hd (lv_sub hl [1, 2, 3, 0] rfl) hP hS
                  · have hd := dn_f c134 hd
                    refine lv_aload_n hx hb dX2_tell_137 rfl (lv_at hl 1 rfl) ?_
                    refine lv_aload_n hx hb dX2_tell_138 rfl (lv_at hl 2 rfl) ?_
                    obtain ⟨r139, S139, T139, hq139, hd⟩ := dn_b3 hd
                    have hF := k_self hD hS hA
                    refine k_run_i (va_runV (As := [.ref (b 0)]) (rest := []) ⟨hx, hb, hml, hown, hts⟩ (mX2_daysAreTold l D cs a b S_39 T_39 r139 S139 T139 hq139 _) (cwV 1 hts gX2_tell_X2_daysAreTold rfl rfl rfl (by decide +kernel) ⟨Nat.le_of_ble_eq_true rfl, Nat.le_of_ble_eq_true rfl⟩) ⟨k_blind, va_recv hK hP (ci := 1) (q0 := 0) rfl rfl, k_pre hP hK hNn hD⟩ rfl rfl hl.1 rfl (lv_room (Nat.le_of_ble_eq_true rfl)) dX2_tell_139 ⟨Nat.le_of_ble_eq_true rfl, Nat.le_of_ble_eq_true rfl⟩) hS hF (fun H locs hP1 hk hS => ?_)
                    have hP : va_P D vwCl (wX2 cs a S139 ++ wX5 cs b T139) _ := hP1
                    have hD := hDA S139 T139
                    refine lv_istore_n (lv' := [(3, .int r139), (0, .ref (a 0)), (1, .ref (b 0)), (2, .int x2_39)]) hx hb dX2_tell_142 rfl hl (by decide) rfl (fun ls hl => ?_)
                    exact Jo143 x2_39 r139 S139 T139 _ _ _ hd (lv_sub hl [1, 2, 3, 0] rfl) hP hS
                · have hd := dn_f c116 hd
                  refine lv_aload_n hx hb dX2_tell_119 rfl (lv_at hl 1 rfl) ?_
                  refine lv_aload_n hx hb dX2_tell_120 rfl (lv_at hl 2 rfl) ?_
                  obtain ⟨r121, S121, T121, hq121, hd⟩ := dn_b3 hd
                  have hF := k_self hD hS hA
                  refine k_run_i (va_runV (As := [.ref (b 0)]) (rest := []) ⟨hx, hb, hml, hown, hts⟩ (mX2_lossIsTold l D cs a b S_39 T_39 r121 S121 T121 hq121 _) (cwV 1 hts gX2_tell_X2_lossIsTold rfl rfl rfl (by decide +kernel) ⟨Nat.le_of_ble_eq_true rfl, Nat.le_of_ble_eq_true rfl⟩) ⟨k_blind, va_recv hK hP (ci := 1) (q0 := 0) rfl rfl, k_pre hP hK hNn hD⟩ rfl rfl hl.1 rfl (lv_room (Nat.le_of_ble_eq_true rfl)) dX2_tell_121 ⟨Nat.le_of_ble_eq_true rfl, Nat.le_of_ble_eq_true rfl⟩) hS hF (fun H locs hP1 hk hS => ?_)
                  have hP : va_P D vwCl (wX2 cs a S121 ++ wX5 cs b T121) _ := hP1
                  have hD := hDA S121 T121
                  refine lv_istore_n (lv' := [(3, .int r121), (0, .ref (a 0)), (1, .ref (b 0)), (2, .int x2_39)]) hx hb dX2_tell_124 rfl hl (by decide) rfl (fun ls hl => ?_)
                  refine lv_goto (tgt := 143) hx hb dX2_tell_125 (by decide) ?_
                  exact Jo143 x2_39 r121 S121 T121 _ _ _ hd (lv_sub hl [1, 2, 3, 0] rfl) hP hS
              · have hd := dn_f c98 hd
                refine lv_aload_n hx hb dX2_tell_101 rfl (lv_at hl 1 rfl) ?_
                refine lv_aload_n hx hb dX2_tell_102 rfl (lv_at hl 2 rfl) ?_
                obtain ⟨r103, S103, T103, hq103, hd⟩ := dn_b3 hd
                have hF := k_self hD hS hA
                refine k_run_i (va_runV (As := [.ref (b 0)]) (rest := []) ⟨hx, hb, hml, hown, hts⟩ (mX2_thingIsTold l D cs a b S_39 T_39 r103 S103 T103 hq103 _) (cwV 1 hts gX2_tell_X2_thingIsTold rfl rfl rfl (by decide +kernel) ⟨Nat.le_of_ble_eq_true rfl, Nat.le_of_ble_eq_true rfl⟩) ⟨k_blind, va_recv hK hP (ci := 1) (q0 := 0) rfl rfl, k_pre hP hK hNn hD⟩ rfl rfl hl.1 rfl (lv_room (Nat.le_of_ble_eq_true rfl)) dX2_tell_103 ⟨Nat.le_of_ble_eq_true rfl, Nat.le_of_ble_eq_true rfl⟩) hS hF (fun H locs hP1 hk hS => ?_)
                have hP : va_P D vwCl (wX2 cs a S103 ++ wX5 cs b T103) _ := hP1
                have hD := hDA S103 T103
                refine lv_istore_n (lv' := [(3, .int r103), (0, .ref (a 0)), (1, .ref (b 0)), (2, .int x2_39)]) hx hb dX2_tell_106 rfl hl (by decide) rfl (fun ls hl => ?_)
                refine lv_goto (tgt := 143) hx hb dX2_tell_107 (by decide) ?_
                exact Jo143 x2_39 r103 S103 T103 _ _ _ hd (lv_sub hl [1, 2, 3, 0] rfl) hP hS
            · have hd := dn_f c80 hd
              refine lv_aload_n hx hb dX2_tell_83 rfl (lv_at hl 1 rfl) ?_
              refine lv_aload_n hx hb dX2_tell_84 rfl (lv_at hl 2 rfl) ?_
              obtain ⟨r85, S85, T85, hq85, hd⟩ := dn_b3 hd
              have hF := k_self hD hS hA
              refine k_run_i (va_runV (As := [.ref (b 0)]) (rest := []) ⟨hx, hb, hml, hown, hts⟩ (mX2_coatIsTold l D cs a b S_39 T_39 r85 S85 T85 hq85 _) (cwV 1 hts gX2_tell_X2_coatIsTold rfl rfl rfl (by decide +kernel) ⟨Nat.le_of_ble_eq_true rfl, Nat.le_of_ble_eq_true rfl⟩) ⟨k_blind, va_recv hK hP (ci := 1) (q0 := 0) rfl rfl, k_pre hP hK hNn hD⟩ rfl rfl hl.1 rfl (lv_room (Nat.le_of_ble_eq_true rfl)) dX2_tell_85 ⟨Nat.le_of_ble_eq_true rfl, Nat.le_of_ble_eq_true rfl⟩) hS hF (fun H locs hP1 hk hS => ?_)
              have hP : va_P D vwCl (wX2 cs a S85 ++ wX5 cs b T85) _ := hP1
              have hD := hDA S85 T85
              refine lv_istore_n (lv' := [(3, .int r85), (0, .ref (a 0)), (1, .ref (b 0)), (2, .int x2_39)]) hx hb dX2_tell_88 rfl hl (by decide) rfl (fun ls hl => ?_)
              refine lv_goto (tgt := 143) hx hb dX2_tell_89 (by decide) ?_
              exact Jo143 x2_39 r85 S85 T85 _ _ _ hd (lv_sub hl [1, 2, 3, 0] rfl) hP hS
          · have hd := dn_f c62 hd
            refine lv_aload_n hx hb dX2_tell_65 rfl (lv_at hl 1 rfl) ?_
            refine lv_aload_n hx hb dX2_tell_66 rfl (lv_at hl 2 rfl) ?_
            obtain ⟨r67, S67, T67, hq67, hd⟩ := dn_b3 hd
            have hF := k_self hD hS hA
            refine k_run_i (va_runV (As := [.ref (b 0)]) (rest := []) ⟨hx, hb, hml, hown, hts⟩ (mX2_personIsTold l D cs a b S_39 T_39 r67 S67 T67 hq67 _) (cwV 1 hts gX2_tell_X2_personIsTold rfl rfl rfl (by decide +kernel) ⟨Nat.le_of_ble_eq_true rfl, Nat.le_of_ble_eq_true rfl⟩) ⟨k_blind, va_recv hK hP (ci := 1) (q0 := 0) rfl rfl, k_pre hP hK hNn hD⟩ rfl rfl hl.1 rfl (lv_room (Nat.le_of_ble_eq_true rfl)) dX2_tell_67 ⟨Nat.le_of_ble_eq_true rfl, Nat.le_of_ble_eq_true rfl⟩) hS hF (fun H locs hP1 hk hS => ?_)
            have hP : va_P D vwCl (wX2 cs a S67 ++ wX5 cs b T67) _ := hP1
            have hD := hDA S67 T67
            refine lv_istore_n (lv' := [(3, .int r67), (0, .ref (a 0)), (1, .ref (b 0)), (2, .int x2_39)]) hx hb dX2_tell_70 rfl hl (by decide) rfl (fun ls hl => ?_)
            refine lv_goto (tgt := 143) hx hb dX2_tell_71 (by decide) ?_
            exact Jo143 x2_39 r67 S67 T67 _ _ _ hd (lv_sub hl [1, 2, 3, 0] rfl) hP hS
  unfold nX2_tell at hd
  refine lv_aload_n hx hb dX2_tell_0 rfl (lv_at hl 1 rfl) ?_
  obtain ⟨S1, hq1, hd⟩ := dn_b1 hd
  have hPc : va_P D vwCl (wX5 cs b T) _ := k_sub hP [3, 4, 5, 6, 7, 8, 9, 10, 11, 12, 13, 14, 15, 16, 17, 18] (wcX2_X5_X5_0b cs a b S T)
  have hDc : va_D A (wX5 cs b T) := hD.sub [3, 4, 5, 6, 7, 8, 9, 10, 11, 12, 13, 14, 15, 16, 17, 18] (by decide) (wcX2_X5_X5_0b cs a b S T)
  have hF := k_self hDc hS hA
  refine k_run_v (va_runV (As := []) (rest := []) ⟨hx, hb, hml, hown, hts⟩ (mX5_empty l D cs b T S1 hq1 _) (cwV 0 hts gX2_tell_X5_empty rfl rfl rfl (by decide +kernel) ⟨Nat.le_of_ble_eq_true rfl, Nat.le_of_ble_eq_true rfl⟩) ⟨k_blind, va_recv hK hP (ci := 3) (q0 := 3) rfl rfl, k_pre hPc hK hNn hDc⟩ rfl rfl hl.1 rfl (lv_room (Nat.le_of_ble_eq_true rfl)) dX2_tell_1 ⟨Nat.le_of_ble_eq_true rfl, Nat.le_of_ble_eq_true rfl⟩) hS hF (fun H locs hP1 hk hS => ?_)
  have hP : va_P D vwCl (wX2 cs a S ++ wX5 cs b S1) _ := k_back hP hD [3, 4, 5, 6, 7, 8, 9, 10, 11, 12, 13, 14, 15, 16, 17, 18] [0, 1, 2] [0, 1, 2, 3, 4, 5, 6, 7, 8, 9, 10, 11, 12, 13, 14, 15, 16, 17, 18] (wcX2_X5_X5_0b cs a b S T) (by decide) hk hP1 (wbX2_X5_X5_0b_S0 cs a b S T S1)
  have hD := hDA S S1
  refine lv_aload_n hx hb dX2_tell_4 rfl (lv_at hl 0 rfl) ?_
  refine lv_iconst (v := (0 : Int32)) hx hb dX2_tell_5 (by decide) ?_
  refine va_put (D := D) (ci := 1) (v := .int (0 : Int32)) (ty := .int) (C := RX2) (T := TX2) (N := 6) hx hb hts (fun w h => List.mem_cons_of_mem _ (List.mem_append_left _ (List.mem_append_left _ (List.mem_append_right _ h)))) tyX2 tyX2_ok nmX2 hown hK hP hD hS 0 rfl rfl 5 (by decide) (hts (.fieldLink RX2 28 "LeastNeed$Reader" "next" "I") (List.mem_of_getElem? (i := 1) rfl)) (fun _ h9 => h9) rfl (by decide +kernel) rfl rfl (Nat.le_of_ble_eq_true rfl) dX2_tell_6 (fun H locs hP hD hS => ?_)
  have hP : va_P D vwCl (wX2 cs a (k_w S 0 5 (0 : Int32)) ++ wX5 cs b S1) _ := k_eq hP (wsX2_X5_f0_5 cs a b S S1 (0 : Int32))
  have hD := hDA (k_w S 0 5 (0 : Int32)) S1
  refine lv_aload_n hx hb dX2_tell_9 rfl (lv_at hl 0 rfl) ?_
  obtain ⟨S10, hq10, hd⟩ := dn_b1 hd
  have hPc : va_P D vwCl (wX2 cs a (k_w S 0 5 (0 : Int32))) _ := k_sub hP [0, 1, 2] (wcX2_X5_X2_0 cs a b (k_w S 0 5 (0 : Int32)) S1)
  have hDc : va_D A (wX2 cs a (k_w S 0 5 (0 : Int32))) := hD.sub [0, 1, 2] (by decide) (wcX2_X5_X2_0 cs a b (k_w S 0 5 (0 : Int32)) S1)
  have hF := k_self hDc hS hA
  refine k_run_v (va_runV (As := []) (rest := []) ⟨hx, hb, hml, hown, hts⟩ (mX2_toNextToken l D cs a (k_w S 0 5 (0 : Int32)) S10 hq10 _) (cwV 0 hts gX2_tell_X2_toNextToken rfl rfl rfl (by decide +kernel) ⟨Nat.le_of_ble_eq_true rfl, Nat.le_of_ble_eq_true rfl⟩) ⟨k_blind, va_recv hK hP (ci := 1) (q0 := 0) rfl rfl, k_pre hPc hK hNn hDc⟩ rfl rfl hl.1 rfl (lv_room (Nat.le_of_ble_eq_true rfl)) dX2_tell_10 ⟨Nat.le_of_ble_eq_true rfl, Nat.le_of_ble_eq_true rfl⟩) hS hF (fun H locs hP1 hk hS => ?_)
  have hP : va_P D vwCl (wX2 cs a S10 ++ wX5 cs b S1) _ := k_back hP hD [0, 1, 2] [3, 4, 5, 6, 7, 8, 9, 10, 11, 12, 13, 14, 15, 16, 17, 18] [16, 17, 18, 0, 1, 2, 3, 4, 5, 6, 7, 8, 9, 10, 11, 12, 13, 14, 15] (wcX2_X5_X2_0 cs a b (k_w S 0 5 (0 : Int32)) S1) (by decide) hk hP1 (wbX2_X5_X2_0_S0 cs a b (k_w S 0 5 (0 : Int32)) S1 S10)
  have hD := hDA S10 S1
  refine lv_aload_n hx hb dX2_tell_13 rfl (lv_at hl 0 rfl) ?_
  refine va_ldcS hx hb hown hT.2.2.2.1 dX2_tell_14 ?_
  obtain ⟨r16, hq16, hd⟩ := dn_b1 hd
  have hPc : va_P D vwCl (wX2 cs a S10) _ := k_sub hP [0, 1, 2] (wcX2_X5_X2_0 cs a b S10 S1)
  have hDc : va_D A (wX2 cs a S10) := hD.sub [0, 1, 2] (by decide) (wcX2_X5_X2_0 cs a b S10 S1)
  have hF := k_self hDc hS hA
  refine k_run_i (va_runV (As := [.ref (adK 0)]) (rest := []) ⟨hx, hb, hml, hown, hts⟩ (mX2_isWord l D cs adK adV zt a 0 S10 r16 (by decide) hq16 _) (cwV 1 hts gX2_tell_X2_isWord rfl rfl rfl (by decide +kernel) ⟨Nat.le_of_ble_eq_true rfl, Nat.le_of_ble_eq_true rfl⟩) ⟨k_blindT, va_recv hK hP (ci := 1) (q0 := 0) rfl rfl, k_preT hPc hK hNn hDc hT hS hF⟩ rfl rfl hl.1 rfl (lv_room (Nat.le_of_ble_eq_true rfl)) dX2_tell_16 ⟨Nat.le_of_ble_eq_true rfl, Nat.le_of_ble_eq_true rfl⟩) hS hF (fun H locs hP1 hk hS => ?_)
  have hP : va_P D vwCl (wX2 cs a S10 ++ wX5 cs b S1) _ := k_back hP hD [0, 1, 2] [3, 4, 5, 6, 7, 8, 9, 10, 11, 12, 13, 14, 15, 16, 17, 18] [16, 17, 18, 0, 1, 2, 3, 4, 5, 6, 7, 8, 9, 10, 11, 12, 13, 14, 15] (wcX2_X5_X2_0 cs a b S10 S1) (by decide) hk hP1 (wbX2_X5_X2_0 cs a b S10 S1)
  have hD := hDA S10 S1
  refine lv_if_eq (tgt := 29) hx hb dX2_tell_19 (by decide) (fun c19 => ?_) (fun c19 => ?_)
  · have hd := dn_t c19 hd
    refine lv_bipush (v := (-10 : Int32)) hx hb dX2_tell_29 (by decide) ?_
    refine lv_aload_n hx hb dX2_tell_31 rfl (lv_at hl 0 rfl) ?_
    refine va_get (D := D) (ci := 1) (v := .int (S10 0 4)) (C := RX2) (T := TX2) (N := 6) hx hb hts (fun w h => List.mem_cons_of_mem _ (List.mem_append_left _ (List.mem_append_left _ (List.mem_append_right _ h)))) hown hK hP 0 rfl rfl 4 (by decide) (hts (.fieldLink RX2 44 "LeastNeed$Reader" "start" "I") (List.mem_of_getElem? (i := 2) rfl)) (fun _ h9 => h9) rfl dX2_tell_32 ?_
    refine lv_isub hx hb dX2_tell_35 ?_
    obtain ⟨e1, e2, e3⟩ := dn_s3 hd
    exact k_iret hx hb hr hQ hAe e1 (by rw [← e2, ← e3]) hP hS hlocks dX2_tell_36
  · have hd := dn_f c19 hd
    refine lv_aload_n hx hb dX2_tell_22 rfl (lv_at hl 0 rfl) ?_
    obtain ⟨r23, S23, hq23, hd⟩ := dn_b2 hd
    have hPc : va_P D vwCl (wX2 cs a S10) _ := k_sub hP [0, 1, 2] (wcX2_X5_X2_0 cs a b S10 S1)
    have hDc : va_D A (wX2 cs a S10) := hD.sub [0, 1, 2] (by decide) (wcX2_X5_X2_0 cs a b S10 S1)
    have hF := k_self hDc hS hA
    refine k_run_i (va_runV (As := []) (rest := []) ⟨hx, hb, hml, hown, hts⟩ (mX2_itemEnds l D cs a S10 r23 S23 hq23 _) (cwV 0 hts gX2_tell_X2_itemEnds rfl rfl rfl (by decide +kernel) ⟨Nat.le_of_ble_eq_true rfl, Nat.le_of_ble_eq_true rfl⟩) ⟨k_blind, va_recv hK hP (ci := 1) (q0 := 0) rfl rfl, k_pre hPc hK hNn hDc⟩ rfl rfl hl.1 rfl (lv_room (Nat.le_of_ble_eq_true rfl)) dX2_tell_23 ⟨Nat.le_of_ble_eq_true rfl, Nat.le_of_ble_eq_true rfl⟩) hS hF (fun H locs hP1 hk hS => ?_)
    have hP : va_P D vwCl (wX2 cs a S23 ++ wX5 cs b S1) _ := k_back hP hD [0, 1, 2] [3, 4, 5, 6, 7, 8, 9, 10, 11, 12, 13, 14, 15, 16, 17, 18] [16, 17, 18, 0, 1, 2, 3, 4, 5, 6, 7, 8, 9, 10, 11, 12, 13, 14, 15] (wcX2_X5_X2_0 cs a b S10 S1) (by decide) hk hP1 (wbX2_X5_X2_0_S0 cs a b S10 S1 S23)
    have hD := hDA S23 S1
    refine lv_if_ne (tgt := 37) hx hb dX2_tell_26 (by decide) (fun c26 => ?_) (fun c26 => ?_)
    · have hd := dn_f c26 hd
      refine lv_iconst (v := (1 : Int32)) hx hb dX2_tell_37 (by decide) ?_
      refine lv_istore_n (lv' := [(2, .int (1 : Int32)), (0, .ref (a 0)), (1, .ref (b 0))]) hx hb dX2_tell_38 rfl hl (by decide) rfl (fun ls hl => ?_)
      exact Lo39 1000 (1 : Int32) S23 S1 _ _ _ hd (lv_sub hl [1, 2, 0] rfl) hP hS
    · have hd := dn_t c26 hd
      refine lv_bipush (v := (-10 : Int32)) hx hb dX2_tell_29 (by decide) ?_
      refine lv_aload_n hx hb dX2_tell_31 rfl (lv_at hl 0 rfl) ?_
      refine va_get (D := D) (ci := 1) (v := .int (S23 0 4)) (C := RX2) (T := TX2) (N := 6) hx hb hts (fun w h => List.mem_cons_of_mem _ (List.mem_append_left _ (List.mem_append_left _ (List.mem_append_right _ h)))) hown hK hP 0 rfl rfl 4 (by decide) (hts (.fieldLink RX2 44 "LeastNeed$Reader" "start" "I") (List.mem_of_getElem? (i := 2) rfl)) (fun _ h9 => h9) rfl dX2_tell_32 ?_
      refine lv_isub hx hb dX2_tell_35 ?_
      obtain ⟨e1, e2, e3⟩ := dn_s3 hd
      exact k_iret hx hb hr hQ hAe e1 (by rw [← e2, ← e3]) hP hS hlocks dX2_tell_36
