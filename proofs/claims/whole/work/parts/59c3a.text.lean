def k_vz : Option Nat → Value
  | some z => .ref z
  | none => .null
def k_T (adK adV : Nat → Nat) (zt : Option Nat) (A : Nat → Prop) (U : State) : Prop := vk_S 6 k_len k_byt adK adV A U U.heap ∧ va_Z "java/lang/String" "COMPACT_STRINGS" "Z" (.int 1) A U U.heap ∧ va_Z "jdk/internal/util/Preconditions" "SIOOBE_FORMATTER" "Ljava/util/function/BiFunction;" (k_vz zt) A U U.heap ∧ vk_R RX2 34 "valley" (adK 0) U ∧ vk_R RX2 50 "person" (adK 1) U ∧ vk_R RX2 56 "coat" (adK 2) U ∧ vk_R RX2 61 "thing" (adK 3) U ∧ vk_R RX2 66 "lose" (adK 4) U ∧ vk_R RX2 71 "days" (adK 5) U
theorem k_T.same {adK adV : Nat → Nat} {zt : Option Nat} {A : Nat → Prop} {u U : State} (hv : U.vm = u.vm) (hh : U.heap = u.heap) (h : k_T adK adV zt A u) : k_T adK adV zt A U := by
  have ha : u.vm.Alike U.vm := by rw [hv]; exact Vm.Alike.refl u.vm
  unfold k_T at h ⊢
  rw [hh]
  exact ⟨vk_S.moved ha h.1, va_Z.moved ha h.2.1, va_Z.moved ha h.2.2.1, vk_R.same hv h.2.2.2.1, vk_R.same hv h.2.2.2.2.1, vk_R.same hv h.2.2.2.2.2.1, vk_R.same hv h.2.2.2.2.2.2.1, vk_R.same hv h.2.2.2.2.2.2.2.1, vk_R.same hv h.2.2.2.2.2.2.2.2⟩
theorem k_T.warm {adK adV : Nat → Nat} {zt : Option Nat} {A B : Nat → Prop} {s U : State} {H : Heap} {locs : List Loc} (hW : s.WarmedH U.vm) (hH : U.heap = H) (hS : va_S A s.heap H locs) (hF : ∀ q, B q → A q) (h : k_T adK adV zt A s) : k_T adK adV zt B U := by
  unfold k_T at h ⊢
  rw [hH]
  exact ⟨((h.1.kept hS.2.1).moved hW.alike).narrow hF, ((h.2.1.kept hS.2.1).moved hW.alike).narrow hF, ((h.2.2.1.kept hS.2.1).moved hW.alike).narrow hF, vk_R.warm hW h.2.2.2.1, vk_R.warm hW h.2.2.2.2.1, vk_R.warm hW h.2.2.2.2.2.1, vk_R.warm hW h.2.2.2.2.2.2.1, vk_R.warm hW h.2.2.2.2.2.2.2.1, vk_R.warm hW h.2.2.2.2.2.2.2.2⟩
def k_PcT (D : va_G) (cs : Nat → ClassId) (adK adV : Nat → Nat) (zt : Option Nat) (av : List Value) (ws : va_W) (sz : Nat) : Array Value → State → Prop := fun v U => k_Pc D cs av ws sz v U ∧ k_T adK adV zt (va_A ws sz) U
theorem k_blindT {D : va_G} {cs : Nat → ClassId} {adK adV : Nat → Nat} {zt : Option Nat} {av : List Value} {ws : va_W} {sz : Nat} : FrameBlind (k_PcT D cs adK adV zt av ws sz) := fun a U g mk q => ⟨k_blind a U g mk q.1, k_T.same (u := U) (U := U.calling g mk a) rfl rfl q.2⟩
theorem k_preT {D : va_G} {cs : Nat → ClassId} {adK adV : Nat → Nat} {zt : Option Nat} {av : List Value} {ws : va_W} {s : State} {H : Heap} {A : Nat → Prop} {locs : List Loc} (hP : va_P D vwCl ws H) (hK : va_K D vwCl (k_tys cs) s) (hN : k_N s) (hD : va_D A ws) (hT : k_T adK adV zt A s) (hS : va_S A s.heap H locs) (hF : ∀ q, va_A ws H.size q → A q) : ∀ U : State, U.heap = H → s.WarmedH U.vm → k_PcT D cs adK adV zt av ws H.size av.toArray U :=
  fun U hU hW => ⟨k_pre hP hK hN hD U hU hW, k_T.warm hW hU hS hF hT⟩
theorem k_ch : ∀ i, i < 6 → ∀ j, j < k_len.getD i 0 → ((((k_byt.getD i []).getD j 0 &&& 255).toUInt32 % 65536).toInt32 = (k_byt.getD i []).getD j 0 ∧ narrow .char (.int ((k_byt.getD i []).getD j 0)) = .int ((k_byt.getD i []).getD j 0)) := by
  intro i hi j hj
  have h1 : ∀ i : Fin 6, ∀ j : Fin 6, j.val < k_len.getD i.val 0 → ((((k_byt.getD i.val []).getD j.val 0 &&& 255).toUInt32 % 65536).toInt32 = (k_byt.getD i.val []).getD j.val 0) := by decide +kernel
  have h2 : ∀ i : Fin 6, ∀ j : Fin 6, j.val < k_len.getD i.val 0 → narrow .char (.int ((k_byt.getD i.val []).getD j.val 0)) = .int ((k_byt.getD i.val []).getD j.val 0) := by decide +kernel
  have h3 : ∀ i : Fin 6, k_len.getD i.val 0 ≤ 6 := by decide +kernel
  have hj6 : j < 6 := Nat.lt_of_lt_of_le hj (h3 ⟨i, hi⟩)
  exact ⟨h1 ⟨i, hi⟩ ⟨j, hj6⟩ hj, h2 ⟨i, hi⟩ ⟨j, hj6⟩ hj⟩
theorem k_len_le : ∀ i, i < 6 → k_len.getD i 0 ≤ 6 := by
  intro i hi
  have h3 : ∀ i : Fin 6, k_len.getD i.val 0 ≤ 6 := by decide +kernel
  exact h3 ⟨i, hi⟩
theorem sc_sh0 (x : Int32) : x >>> (0 : Int32) = x := by
  have h := sb_shr0 x
  rw [show ((0 : Int32) &&& 31) = 0 from by decide] at h
  exact h

set_option maxHeartbeats 4000000 in
set_option maxRecDepth 100000 in
theorem mJ0_coder_7d493 (l : Launch) (D : va_G) (cs : Nat → ClassId) (adK adV : Nat → Nat) (zt : Option Nat) (wi : Nat) (hwi : wi < 6) : ∀ sz : Nat, Met l yJ0_coder_7d493 wsJ0_coder_7d493 ({ frames := 0, cells := 0, slots := 0, locals := 0 }) (k_PcT D cs adK adV zt [.ref (adK wi)] ([] : va_W) sz) (k_Qi D ((0 : Int32)) ([] : va_W) ([] : va_W) sz) 0 0 (va_A ([] : va_W) sz) := by
  intro sz
  refine Met.ofW (cc := cJ0_coder_7d493) (maxL := 1) (ret := (some .byte)) (by decide) rfl ?_
  intro p e s m args below meth c s₁ B hml hv
  obtain ⟨⟨rfl, hsz, hP, hK, hD0, hNn⟩, hT⟩ := hv
  have hx := B.exec
  have hb := B.bytes
  have hr := B.returns
  have hts := atoms_spec (ws := wsJ0_coder_7d493) B.pre
  have hown : s.vm.findClass RJ0 = some m.cls := findClass_of_methodNamed B.named
  have hlocks := B.notSynchronized
  subst hsz
  obtain ⟨A, hAe⟩ : ∃ A : Nat → Prop, A = va_A ([] : va_W) s.heap.size := ⟨_, rfl⟩
  rw [← hAe] at hT
  have hD : va_D A ([] : va_W) := k_D0
  have hA : ∀ q : Nat, s.heap.size ≤ q → A q := fun q h => by rw [hAe]; exact Or.inr h
  have hS : va_S A s.heap s.heap [] := va_S.rf
  have hl := lv_entry ([.ref (adK wi)]) (n := 1) (Nat.le_of_ble_eq_true rfl)
  rw [lg_entry_eq]
  generalize (lg_sl ([.ref (adK wi)]) ++ List.replicate (1 - (lg_sl ([.ref (adK wi)])).length) Slot.unset).toArray = ls at hl ⊢
  have hl : lv_has ls 1 [(0, .ref (adK wi))] := hl
  obtain ⟨Q, hQ⟩ : ∃ Q, Q = MQ below (k_Qi D ((0 : Int32)) ([] : va_W) ([] : va_W) s.heap.size) ([.ref (adK wi)] : List Value).toArray s 0 0 (va_A ([] : va_W) s.heap.size) := ⟨_, rfl⟩
  rw [← hQ]
  refine va_gets hx hb hT.2.1 hS hown (hts (.fieldLink RJ0 38 "java/lang/String" "COMPACT_STRINGS" "Z") (List.mem_of_getElem? (i := 1) rfl)) (fun _ h9 => h9) dJ0_coder_7d493_0 ?_
  refine lv_if_eq (tgt := 13) hx hb dJ0_coder_7d493_3 (by decide) (fun c3 => absurd c3 (by decide)) (fun _ => ?_)
  refine lv_aload_n hx hb dJ0_coder_7d493_6 rfl (lv_at hl 0 rfl) ?_
  refine vk_getf hx hb (hT.1.1 wi hwi).2.1 hS hown (hts (.fieldLink RJ0 15 "java/lang/String" "coder" "B") (List.mem_of_getElem? (i := 2) rfl)) (fun _ h9 => h9) dJ0_coder_7d493_7 ?_
  refine lv_goto (tgt := 14) hx hb dJ0_coder_7d493_10 (by decide) ?_
  exact k_zret (ty := .byte) hx hb hr rfl hQ hAe rfl rfl hP hS hlocks dJ0_coder_7d493_14
set_option maxHeartbeats 4000000 in
set_option maxRecDepth 100000 in
theorem mJ0_isLatin1_aae02 (l : Launch) (D : va_G) (cs : Nat → ClassId) (adK adV : Nat → Nat) (zt : Option Nat) (wi : Nat) (hwi : wi < 6) : ∀ sz : Nat, Met l yJ0_isLatin1_aae02 wsJ0_isLatin1_aae02 ({ frames := 0, cells := 0, slots := 0, locals := 0 }) (k_PcT D cs adK adV zt [.ref (adK wi)] ([] : va_W) sz) (k_Qi D ((1 : Int32)) ([] : va_W) ([] : va_W) sz) 0 0 (va_A ([] : va_W) sz) := by
  intro sz
  refine Met.ofW (cc := cJ0_isLatin1_aae02) (maxL := 1) (ret := (some .boolean)) (by decide) rfl ?_
  intro p e s m args below meth c s₁ B hml hv
  obtain ⟨⟨rfl, hsz, hP, hK, hD0, hNn⟩, hT⟩ := hv
  have hx := B.exec
  have hb := B.bytes
  have hr := B.returns
  have hts := atoms_spec (ws := wsJ0_isLatin1_aae02) B.pre
  have hown : s.vm.findClass RJ0 = some m.cls := findClass_of_methodNamed B.named
  have hlocks := B.notSynchronized
  subst hsz
  obtain ⟨A, hAe⟩ : ∃ A : Nat → Prop, A = va_A ([] : va_W) s.heap.size := ⟨_, rfl⟩
  rw [← hAe] at hT
  have hD : va_D A ([] : va_W) := k_D0
  have hA : ∀ q : Nat, s.heap.size ≤ q → A q := fun q h => by rw [hAe]; exact Or.inr h
  have hS : va_S A s.heap s.heap [] := va_S.rf
  have hl := lv_entry ([.ref (adK wi)]) (n := 1) (Nat.le_of_ble_eq_true rfl)
  rw [lg_entry_eq]
  generalize (lg_sl ([.ref (adK wi)]) ++ List.replicate (1 - (lg_sl ([.ref (adK wi)])).length) Slot.unset).toArray = ls at hl ⊢
  have hl : lv_has ls 1 [(0, .ref (adK wi))] := hl
  obtain ⟨Q, hQ⟩ : ∃ Q, Q = MQ below (k_Qi D ((1 : Int32)) ([] : va_W) ([] : va_W) s.heap.size) ([.ref (adK wi)] : List Value).toArray s 0 0 (va_A ([] : va_W) s.heap.size) := ⟨_, rfl⟩
  rw [← hQ]
  refine va_gets hx hb hT.2.1 hS hown (hts (.fieldLink RJ0 38 "java/lang/String" "COMPACT_STRINGS" "Z") (List.mem_of_getElem? (i := 1) rfl)) (fun _ h9 => h9) dJ0_isLatin1_aae02_0 ?_
  refine lv_if_eq (tgt := 17) hx hb dJ0_isLatin1_aae02_3 (by decide) (fun c3 => absurd c3 (by decide)) (fun _ => ?_)
  refine lv_aload_n hx hb dJ0_isLatin1_aae02_6 rfl (lv_at hl 0 rfl) ?_
  refine vk_getf hx hb (hT.1.1 wi hwi).2.1 hS hown (hts (.fieldLink RJ0 15 "java/lang/String" "coder" "B") (List.mem_of_getElem? (i := 2) rfl)) (fun _ h9 => h9) dJ0_isLatin1_aae02_7 ?_
  refine lv_if_ne (tgt := 17) hx hb dJ0_isLatin1_aae02_10 (by decide) (fun c10 => absurd rfl c10) (fun _ => ?_)
  refine lv_iconst (v := (1 : Int32)) hx hb dJ0_isLatin1_aae02_13 (by decide) ?_
  refine lv_goto (tgt := 18) hx hb dJ0_isLatin1_aae02_14 (by decide) ?_
  exact k_zret (ty := .boolean) hx hb hr rfl hQ hAe rfl rfl hP hS hlocks dJ0_isLatin1_aae02_18
set_option maxHeartbeats 4000000 in
set_option maxRecDepth 100000 in
theorem mJ0_length_8abf5 (l : Launch) (D : va_G) (cs : Nat → ClassId) (adK adV : Nat → Nat) (zt : Option Nat) (wi : Nat) (hwi : wi < 6) : ∀ sz : Nat, Met l yJ0_length_8abf5 wsJ0_length_8abf5 ({ frames := 1, cells := 0, slots := 0, locals := 20 }) (k_PcT D cs adK adV zt [.ref (adK wi)] ([] : va_W) sz) (k_Qi D (Int32.ofNat (k_len.getD wi 0)) ([] : va_W) ([] : va_W) sz) 0 0 (va_A ([] : va_W) sz) := by
  intro sz
  refine Met.ofW (cc := cJ0_length_8abf5) (maxL := 1) (ret := (some .int)) (by decide) rfl ?_
  intro p e s m args below meth c s₁ B hml hv
  obtain ⟨⟨rfl, hsz, hP, hK, hD0, hNn⟩, hT⟩ := hv
  have hx := B.exec
  have hb := B.bytes
  have hr := B.returns
  have hts := atoms_spec (ws := wsJ0_length_8abf5) B.pre
  have hown : s.vm.findClass RJ0 = some m.cls := findClass_of_methodNamed B.named
  have hlocks := B.notSynchronized
  subst hsz
  obtain ⟨A, hAe⟩ : ∃ A : Nat → Prop, A = va_A ([] : va_W) s.heap.size := ⟨_, rfl⟩
  rw [← hAe] at hT
  have hD : va_D A ([] : va_W) := k_D0
  have hA : ∀ q : Nat, s.heap.size ≤ q → A q := fun q h => by rw [hAe]; exact Or.inr h
  have hS : va_S A s.heap s.heap [] := va_S.rf
  have hl := lv_entry ([.ref (adK wi)]) (n := 1) (Nat.le_of_ble_eq_true rfl)
  rw [lg_entry_eq]
  generalize (lg_sl ([.ref (adK wi)]) ++ List.replicate (1 - (lg_sl ([.ref (adK wi)])).length) Slot.unset).toArray = ls at hl ⊢
  have hl : lv_has ls 1 [(0, .ref (adK wi))] := hl
  obtain ⟨Q, hQ⟩ : ∃ Q, Q = MQ below (k_Qi D (Int32.ofNat (k_len.getD wi 0)) ([] : va_W) ([] : va_W) s.heap.size) ([.ref (adK wi)] : List Value).toArray s 0 0 (va_A ([] : va_W) s.heap.size) := ⟨_, rfl⟩
  rw [← hQ]
  refine lv_aload_n hx hb dJ0_length_8abf5_0 rfl (lv_at hl 0 rfl) ?_
  refine vk_getf hx hb (hT.1.1 wi hwi).2.2.1 hS hown (hts (.fieldLink RJ0 9 "java/lang/String" "value" "[B") (List.mem_of_getElem? (i := 1) rfl)) (fun _ h9 => h9) dJ0_length_8abf5_1 ?_
  refine va_tlen (v := Int32.ofNat (k_len.getD wi 0)) hx hb (hT.1.1 wi hwi).2.2.2 hS rfl dJ0_length_8abf5_4 ?_
  refine lv_aload_n hx hb dJ0_length_8abf5_5 rfl (lv_at hl 0 rfl) ?_
  have hPc := k_P0 hP
  have hDc : va_D A ([] : va_W) := k_D0
  have hF := k_self hDc hS hA
  refine k_run_i (va_runV (As := []) (rest := [.int (Int32.ofNat (k_len.getD wi 0))]) ⟨hx, hb, hml, hown, hts⟩ (mJ0_coder_7d493 l D cs adK adV zt wi hwi _) (cwV 0 hts gJ0_length_8abf5_J0_coder_7d493 rfl rfl rfl (by decide +kernel) ⟨Nat.le_of_ble_eq_true rfl, Nat.le_of_ble_eq_true rfl⟩) ⟨k_blindT, vk_recv hT.1 hwi hS, k_preT hPc hK hNn hDc hT hS hF⟩ rfl rfl hl.1 rfl (lv_room (Nat.le_of_ble_eq_true rfl)) dJ0_length_8abf5_6 ⟨Nat.le_of_ble_eq_true rfl, Nat.le_of_ble_eq_true rfl⟩) hS hF (fun H locs hP1 hk hS => ?_)
  have hP := k_keep hP hk
  refine lv_ishr hx hb dJ0_length_8abf5_9 ?_
  exact k_iret hx hb hr hQ hAe (by rw [show ((0 : Int32) &&& 31) = 0 from by decide]; exact sc_sh0 _) rfl hP hS hlocks dJ0_length_8abf5_10
set_option maxHeartbeats 4000000 in
set_option maxRecDepth 100000 in
theorem mJ3_checkIndex_8e157_R (l : Launch) (D : va_G) (cs : Nat → ClassId) (adK adV : Nat → Nat) (z : Nat) (i n : Int32) (h0 : ¬ i < 0) (h1 : i < n) : ∀ sz : Nat, Met l yJ3_checkIndex_8e157 wsJ3_checkIndex_8e157 ({ frames := 0, cells := 0, slots := 0, locals := 0 }) (k_PcT D cs adK adV (some z) [.int i, .int n, .ref z] ([] : va_W) sz) (k_Qi D (i) ([] : va_W) ([] : va_W) sz) 0 0 (va_A ([] : va_W) sz) := by
  intro sz
  refine Met.ofW (cc := cJ3_checkIndex_8e157) (maxL := 3) (ret := (some .int)) (by decide) rfl ?_
  intro p e s m args below meth c s₁ B hml hv
  obtain ⟨⟨rfl, hsz, hP, hK, hD0, hNn⟩, hT⟩ := hv
  have hx := B.exec
  have hb := B.bytes
  have hr := B.returns
  have hts := atoms_spec (ws := wsJ3_checkIndex_8e157) B.pre
  have hown : s.vm.findClass RJ3 = some m.cls := findClass_of_methodNamed B.named
  have hlocks := B.notSynchronized
  subst hsz
  obtain ⟨A, hAe⟩ : ∃ A : Nat → Prop, A = va_A ([] : va_W) s.heap.size := ⟨_, rfl⟩
  rw [← hAe] at hT
  have hD : va_D A ([] : va_W) := k_D0
  have hA : ∀ q : Nat, s.heap.size ≤ q → A q := fun q h => by rw [hAe]; exact Or.inr h
  have hS : va_S A s.heap s.heap [] := va_S.rf
  have hl := lv_entry ([.int i, .int n, .ref z]) (n := 3) (Nat.le_of_ble_eq_true rfl)
  rw [lg_entry_eq]
  generalize (lg_sl ([.int i, .int n, .ref z]) ++ List.replicate (3 - (lg_sl ([.int i, .int n, .ref z])).length) Slot.unset).toArray = ls at hl ⊢
  have hl : lv_has ls 3 [(0, .int i), (1, .int n), (2, .ref z)] := hl
  obtain ⟨Q, hQ⟩ : ∃ Q, Q = MQ below (k_Qi D (i) ([] : va_W) ([] : va_W) s.heap.size) ([.int i, .int n, .ref z] : List Value).toArray s 0 0 (va_A ([] : va_W) s.heap.size) := ⟨_, rfl⟩
  rw [← hQ]
  refine lv_iload_n hx hb dJ3_checkIndex_8e157_0 rfl (lv_at hl 0 rfl) ?_
  refine lv_if_lt (tgt := 9) hx hb dJ3_checkIndex_8e157_1 (by decide) (fun q => absurd q h0) (fun _ => ?_)
  refine lv_iload_n hx hb dJ3_checkIndex_8e157_4 rfl (lv_at hl 0 rfl) ?_
  refine lv_iload_n hx hb dJ3_checkIndex_8e157_5 rfl (lv_at hl 1 rfl) ?_
  refine lv_icmp_lt (tgt := 16) hx hb dJ3_checkIndex_8e157_6 (by decide) (fun _ => ?_) (fun q => absurd h1 q)
  refine lv_iload_n hx hb dJ3_checkIndex_8e157_16 rfl (lv_at hl 0 rfl) ?_
  exact k_iret hx hb hr hQ hAe rfl rfl hP hS hlocks dJ3_checkIndex_8e157_17
set_option maxHeartbeats 4000000 in
set_option maxRecDepth 100000 in
theorem mJ3_checkIndex_8e157_N (l : Launch) (D : va_G) (cs : Nat → ClassId) (adK adV : Nat → Nat) (i n : Int32) (h0 : ¬ i < 0) (h1 : i < n) : ∀ sz : Nat, Met l yJ3_checkIndex_8e157 wsJ3_checkIndex_8e157 ({ frames := 0, cells := 0, slots := 0, locals := 0 }) (k_PcT D cs adK adV none [.int i, .int n, .null] ([] : va_W) sz) (k_Qi D (i) ([] : va_W) ([] : va_W) sz) 0 0 (va_A ([] : va_W) sz) := by
  intro sz
  refine Met.ofW (cc := cJ3_checkIndex_8e157) (maxL := 3) (ret := (some .int)) (by decide) rfl ?_
  intro p e s m args below meth c s₁ B hml hv
  obtain ⟨⟨rfl, hsz, hP, hK, hD0, hNn⟩, hT⟩ := hv
  have hx := B.exec
  have hb := B.bytes
  have hr := B.returns
  have hts := atoms_spec (ws := wsJ3_checkIndex_8e157) B.pre
  have hown : s.vm.findClass RJ3 = some m.cls := findClass_of_methodNamed B.named
  have hlocks := B.notSynchronized
  subst hsz
  obtain ⟨A, hAe⟩ : ∃ A : Nat → Prop, A = va_A ([] : va_W) s.heap.size := ⟨_, rfl⟩
  rw [← hAe] at hT
  have hD : va_D A ([] : va_W) := k_D0
  have hA : ∀ q : Nat, s.heap.size ≤ q → A q := fun q h => by rw [hAe]; exact Or.inr h
  have hS : va_S A s.heap s.heap [] := va_S.rf
  have hl := lv_entry ([.int i, .int n, .null]) (n := 3) (Nat.le_of_ble_eq_true rfl)
  rw [lg_entry_eq]
  generalize (lg_sl ([.int i, .int n, .null]) ++ List.replicate (3 - (lg_sl ([.int i, .int n, .null])).length) Slot.unset).toArray = ls at hl ⊢
  have hl : lv_has ls 3 [(0, .int i), (1, .int n), (2, .null)] := hl
  obtain ⟨Q, hQ⟩ : ∃ Q, Q = MQ below (k_Qi D (i) ([] : va_W) ([] : va_W) s.heap.size) ([.int i, .int n, .null] : List Value).toArray s 0 0 (va_A ([] : va_W) s.heap.size) := ⟨_, rfl⟩
  rw [← hQ]
  refine lv_iload_n hx hb dJ3_checkIndex_8e157_0 rfl (lv_at hl 0 rfl) ?_
  refine lv_if_lt (tgt := 9) hx hb dJ3_checkIndex_8e157_1 (by decide) (fun q => absurd q h0) (fun _ => ?_)
  refine lv_iload_n hx hb dJ3_checkIndex_8e157_4 rfl (lv_at hl 0 rfl) ?_
  refine lv_iload_n hx hb dJ3_checkIndex_8e157_5 rfl (lv_at hl 1 rfl) ?_
  refine lv_icmp_lt (tgt := 16) hx hb dJ3_checkIndex_8e157_6 (by decide) (fun _ => ?_) (fun q => absurd h1 q)
  refine lv_iload_n hx hb dJ3_checkIndex_8e157_16 rfl (lv_at hl 0 rfl) ?_
  exact k_iret hx hb hr hQ hAe rfl rfl hP hS hlocks dJ3_checkIndex_8e157_17
set_option maxHeartbeats 4000000 in
set_option maxRecDepth 100000 in
theorem mJ0_checkIndex_df160_R (l : Launch) (D : va_G) (cs : Nat → ClassId) (adK adV : Nat → Nat) (z : Nat) (i n : Int32) (h0 : ¬ i < 0) (h1 : i < n) : ∀ sz : Nat, Met l yJ0_checkIndex_df160 wsJ0_checkIndex_df160 ({ frames := 1, cells := 0, slots := 0, locals := 22 }) (k_PcT D cs adK adV (some z) [.int i, .int n] ([] : va_W) sz) (k_Qv D ([] : va_W) ([] : va_W) sz) 0 0 (va_A ([] : va_W) sz) := by
  intro sz
  refine Met.ofW (cc := cJ0_checkIndex_df160) (maxL := 2) (ret := none) (by decide) rfl ?_
  intro p e s m args below meth c s₁ B hml hv
  obtain ⟨⟨rfl, hsz, hP, hK, hD0, hNn⟩, hT⟩ := hv
  have hx := B.exec
  have hb := B.bytes
  have hr := B.returns
  have hts := atoms_spec (ws := wsJ0_checkIndex_df160) B.pre
  have hown : s.vm.findClass RJ0 = some m.cls := findClass_of_methodNamed B.named
  have hlocks := B.notSynchronized
  subst hsz
  obtain ⟨A, hAe⟩ : ∃ A : Nat → Prop, A = va_A ([] : va_W) s.heap.size := ⟨_, rfl⟩
  rw [← hAe] at hT
  have hD : va_D A ([] : va_W) := k_D0
  have hA : ∀ q : Nat, s.heap.size ≤ q → A q := fun q h => by rw [hAe]; exact Or.inr h
  have hS : va_S A s.heap s.heap [] := va_S.rf
  have hl := lv_entry ([.int i, .int n]) (n := 2) (Nat.le_of_ble_eq_true rfl)
  rw [lg_entry_eq]
  generalize (lg_sl ([.int i, .int n]) ++ List.replicate (2 - (lg_sl ([.int i, .int n])).length) Slot.unset).toArray = ls at hl ⊢
  have hl : lv_has ls 2 [(0, .int i), (1, .int n)] := hl
  obtain ⟨Q, hQ⟩ : ∃ Q, Q = MQ below (k_Qv D ([] : va_W) ([] : va_W) s.heap.size) ([.int i, .int n] : List Value).toArray s 0 0 (va_A ([] : va_W) s.heap.size) := ⟨_, rfl⟩
  rw [← hQ]
  refine lv_iload_n hx hb dJ0_checkIndex_df160_0 rfl (lv_at hl 0 rfl) ?_
  refine lv_iload_n hx hb dJ0_checkIndex_df160_1 rfl (lv_at hl 1 rfl) ?_
  refine va_gets hx hb hT.2.2.1 hS hown (hts (.fieldLink RJ0 1053 "jdk/internal/util/Preconditions" "SIOOBE_FORMATTER" "Ljava/util/function/BiFunction;") (List.mem_of_getElem? (i := 1) rfl)) (fun _ h9 => h9) dJ0_checkIndex_df160_2 ?_
  have hPc := k_P0 hP
  have hDc : va_D A ([] : va_W) := k_D0
  have hF := k_self hDc hS hA
  refine k_run_i (va_runS (As := [.int i, .int n, .ref z]) (rest := []) ⟨hx, hb, hml, hown, hts⟩ (mJ3_checkIndex_8e157_R l D cs adK adV z i n h0 h1 _) (va_cwS 3 hts gJ0_checkIndex_df160_J3_checkIndex_8e157 rfl rfl rfl (by decide +kernel) ⟨Nat.le_of_ble_eq_true rfl, Nat.le_of_ble_eq_true rfl⟩) ⟨k_blindT, k_preT hPc hK hNn hDc hT hS hF⟩ rfl rfl hl.1 rfl (lv_room (Nat.le_of_ble_eq_true rfl)) dJ0_checkIndex_df160_5 ⟨Nat.le_of_ble_eq_true rfl, Nat.le_of_ble_eq_true rfl⟩) hS hF (fun H locs hP1 hk hS => ?_)
  have hP := k_keep hP hk
  refine lv_pop hx hb dJ0_checkIndex_df160_8 rfl ?_
  exact k_vret hx hb hr hQ hAe rfl hP hS hlocks dJ0_checkIndex_df160_9
set_option maxHeartbeats 4000000 in
set_option maxRecDepth 100000 in
theorem mJ0_checkIndex_df160_N (l : Launch) (D : va_G) (cs : Nat → ClassId) (adK adV : Nat → Nat) (i n : Int32) (h0 : ¬ i < 0) (h1 : i < n) : ∀ sz : Nat, Met l yJ0_checkIndex_df160 wsJ0_checkIndex_df160 ({ frames := 1, cells := 0, slots := 0, locals := 22 }) (k_PcT D cs adK adV none [.int i, .int n] ([] : va_W) sz) (k_Qv D ([] : va_W) ([] : va_W) sz) 0 0 (va_A ([] : va_W) sz) := by
  intro sz
  refine Met.ofW (cc := cJ0_checkIndex_df160) (maxL := 2) (ret := none) (by decide) rfl ?_
  intro p e s m args below meth c s₁ B hml hv
  obtain ⟨⟨rfl, hsz, hP, hK, hD0, hNn⟩, hT⟩ := hv
  have hx := B.exec
  have hb := B.bytes
  have hr := B.returns
  have hts := atoms_spec (ws := wsJ0_checkIndex_df160) B.pre
  have hown : s.vm.findClass RJ0 = some m.cls := findClass_of_methodNamed B.named
  have hlocks := B.notSynchronized
  subst hsz
  obtain ⟨A, hAe⟩ : ∃ A : Nat → Prop, A = va_A ([] : va_W) s.heap.size := ⟨_, rfl⟩
  rw [← hAe] at hT
  have hD : va_D A ([] : va_W) := k_D0
  have hA : ∀ q : Nat, s.heap.size ≤ q → A q := fun q h => by rw [hAe]; exact Or.inr h
  have hS : va_S A s.heap s.heap [] := va_S.rf
  have hl := lv_entry ([.int i, .int n]) (n := 2) (Nat.le_of_ble_eq_true rfl)
  rw [lg_entry_eq]
  generalize (lg_sl ([.int i, .int n]) ++ List.replicate (2 - (lg_sl ([.int i, .int n])).length) Slot.unset).toArray = ls at hl ⊢
  have hl : lv_has ls 2 [(0, .int i), (1, .int n)] := hl
  obtain ⟨Q, hQ⟩ : ∃ Q, Q = MQ below (k_Qv D ([] : va_W) ([] : va_W) s.heap.size) ([.int i, .int n] : List Value).toArray s 0 0 (va_A ([] : va_W) s.heap.size) := ⟨_, rfl⟩
  rw [← hQ]
  refine lv_iload_n hx hb dJ0_checkIndex_df160_0 rfl (lv_at hl 0 rfl) ?_
  refine lv_iload_n hx hb dJ0_checkIndex_df160_1 rfl (lv_at hl 1 rfl) ?_
  refine va_gets hx hb hT.2.2.1 hS hown (hts (.fieldLink RJ0 1053 "jdk/internal/util/Preconditions" "SIOOBE_FORMATTER" "Ljava/util/function/BiFunction;") (List.mem_of_getElem? (i := 1) rfl)) (fun _ h9 => h9) dJ0_checkIndex_df160_2 ?_
  have hPc := k_P0 hP
  have hDc : va_D A ([] : va_W) := k_D0
  have hF := k_self hDc hS hA
  refine k_run_i (va_runS (As := [.int i, .int n, .null]) (rest := []) ⟨hx, hb, hml, hown, hts⟩ (mJ3_checkIndex_8e157_N l D cs adK adV i n h0 h1 _) (va_cwS 3 hts gJ0_checkIndex_df160_J3_checkIndex_8e157 rfl rfl rfl (by decide +kernel) ⟨Nat.le_of_ble_eq_true rfl, Nat.le_of_ble_eq_true rfl⟩) ⟨k_blindT, k_preT hPc hK hNn hDc hT hS hF⟩ rfl rfl hl.1 rfl (lv_room (Nat.le_of_ble_eq_true rfl)) dJ0_checkIndex_df160_5 ⟨Nat.le_of_ble_eq_true rfl, Nat.le_of_ble_eq_true rfl⟩) hS hF (fun H locs hP1 hk hS => ?_)
  have hP := k_keep hP hk
  refine lv_pop hx hb dJ0_checkIndex_df160_8 rfl ?_
  exact k_vret hx hb hr hQ hAe rfl hP hS hlocks dJ0_checkIndex_df160_9
theorem mJ0_checkIndex_df160 (l : Launch) (D : va_G) (cs : Nat → ClassId) (adK adV : Nat → Nat) (zt : Option Nat) (i n : Int32) (h0 : ¬ i < 0) (h1 : i < n) : ∀ sz : Nat, Met l yJ0_checkIndex_df160 wsJ0_checkIndex_df160 ({ frames := 1, cells := 0, slots := 0, locals := 22 }) (k_PcT D cs adK adV zt [.int i, .int n] ([] : va_W) sz) (k_Qv D ([] : va_W) ([] : va_W) sz) 0 0 (va_A ([] : va_W) sz) := by
  cases zt with
  | none => exact mJ0_checkIndex_df160_N l D cs adK adV i n h0 h1
  | some z => exact mJ0_checkIndex_df160_R l D cs adK adV z i n h0 h1
set_option maxHeartbeats 4000000 in
set_option maxRecDepth 100000 in
theorem mJ1_charAt_3b067 (l : Launch) (D : va_G) (cs : Nat → ClassId) (adK adV : Nat → Nat) (zt : Option Nat) (wi : Nat) (hwi : wi < 6) (i : Int32) (hi : vp_in i (k_len.getD wi 0)) : ∀ sz : Nat, Met l yJ1_charAt_3b067 wsJ1_charAt_3b067 ({ frames := 2, cells := 0, slots := 0, locals := 43 }) (k_PcT D cs adK adV zt [.ref (adV wi), .int i] ([] : va_W) sz) (k_Qi D ((k_byt.getD wi []).getD i.toNatClampNeg 0) ([] : va_W) ([] : va_W) sz) 0 0 (va_A ([] : va_W) sz) := by
  intro sz
  refine Met.ofW (cc := cJ1_charAt_3b067) (maxL := 2) (ret := (some .char)) (by decide) rfl ?_
  intro p e s m args below meth c s₁ B hml hv
  obtain ⟨⟨rfl, hsz, hP, hK, hD0, hNn⟩, hT⟩ := hv
  have hx := B.exec
  have hb := B.bytes
  have hr := B.returns
  have hts := atoms_spec (ws := wsJ1_charAt_3b067) B.pre
  have hown : s.vm.findClass RJ1 = some m.cls := findClass_of_methodNamed B.named
  have hlocks := B.notSynchronized
  subst hsz
  obtain ⟨A, hAe⟩ : ∃ A : Nat → Prop, A = va_A ([] : va_W) s.heap.size := ⟨_, rfl⟩
  rw [← hAe] at hT
  have hD : va_D A ([] : va_W) := k_D0
  have hA : ∀ q : Nat, s.heap.size ≤ q → A q := fun q h => by rw [hAe]; exact Or.inr h
  have hS : va_S A s.heap s.heap [] := va_S.rf
  have hl := lv_entry ([.ref (adV wi), .int i]) (n := 2) (Nat.le_of_ble_eq_true rfl)
  rw [lg_entry_eq]
  generalize (lg_sl ([.ref (adV wi), .int i]) ++ List.replicate (2 - (lg_sl ([.ref (adV wi), .int i])).length) Slot.unset).toArray = ls at hl ⊢
  have hl : lv_has ls 2 [(0, .ref (adV wi)), (1, .int i)] := hl
  obtain ⟨Q, hQ⟩ : ∃ Q, Q = MQ below (k_Qi D ((k_byt.getD wi []).getD i.toNatClampNeg 0) ([] : va_W) ([] : va_W) s.heap.size) ([.ref (adV wi), .int i] : List Value).toArray s 0 0 (va_A ([] : va_W) s.heap.size) := ⟨_, rfl⟩
  rw [← hQ]
  obtain ⟨j, hj, rfl⟩ := vp_in_of hi (Nat.lt_of_le_of_lt (k_len_le wi hwi) (by decide))
  have hj31 : k_len.getD wi 0 < 2 ^ 31 := Nat.lt_of_le_of_lt (k_len_le wi hwi) (by decide)
  have hcl : (nI j).toNatClampNeg = j := nI_clamp (Nat.lt_trans hj hj31)
  rw [hcl] at hQ
  refine lv_iload_n hx hb dJ1_charAt_3b067_0 rfl (lv_at hl 1 rfl) ?_
  refine lv_aload_n hx hb dJ1_charAt_3b067_1 rfl (lv_at hl 0 rfl) ?_
  refine va_tlen (v := nI (k_len.getD wi 0)) hx hb (hT.1.1 wi hwi).2.2.2 hS rfl dJ1_charAt_3b067_2 ?_
  have hPc := k_P0 hP
  have hDc : va_D A ([] : va_W) := k_D0
  have hF := k_self hDc hS hA
  refine k_run_v (va_runS (As := [.int (nI j), .int (nI (k_len.getD wi 0))]) (rest := []) ⟨hx, hb, hml, hown, hts⟩ (mJ0_checkIndex_df160 l D cs adK adV zt (nI j) (nI (k_len.getD wi 0)) (nI_pos (Nat.lt_trans hj hj31)) (nI_lt hj hj31) _) (va_cwS 2 hts gJ1_charAt_3b067_J0_checkIndex_df160 rfl rfl rfl (by decide +kernel) ⟨Nat.le_of_ble_eq_true rfl, Nat.le_of_ble_eq_true rfl⟩) ⟨k_blindT, k_preT hPc hK hNn hDc hT hS hF⟩ rfl rfl hl.1 rfl (lv_room (Nat.le_of_ble_eq_true rfl)) dJ1_charAt_3b067_3 ⟨Nat.le_of_ble_eq_true rfl, Nat.le_of_ble_eq_true rfl⟩) hS hF (fun H locs hP1 hk hS => ?_)
  have hP := k_keep hP hk
  refine lv_aload_n hx hb dJ1_charAt_3b067_6 rfl (lv_at hl 0 rfl) ?_
  refine lv_iload_n hx hb dJ1_charAt_3b067_7 rfl (lv_at hl 1 rfl) ?_
  refine va_tb (v := .int ((k_byt.getD wi []).getD j 0)) hx hb (hT.1.1 wi hwi).2.2.2 hS hi (by rw [hcl]) dJ1_charAt_3b067_8 ?_
  refine lv_sipush (v := (255 : Int32)) hx hb dJ1_charAt_3b067_9 (by decide) ?_
  refine lv_iand hx hb dJ1_charAt_3b067_12 ?_
  refine lv_i2c (v := (k_byt.getD wi []).getD j 0) hx hb dJ1_charAt_3b067_13 (k_ch wi hwi j hj).1 ?_
  exact k_zret (ty := .char) hx hb hr (k_ch wi hwi j hj).2 hQ hAe rfl rfl hP hS hlocks dJ1_charAt_3b067_14
set_option maxHeartbeats 4000000 in
set_option maxRecDepth 100000 in
theorem mJ0_charAt_5068e (l : Launch) (D : va_G) (cs : Nat → ClassId) (adK adV : Nat → Nat) (zt : Option Nat) (wi : Nat) (hwi : wi < 6) (i : Int32) (hi : vp_in i (k_len.getD wi 0)) : ∀ sz : Nat, Met l yJ0_charAt_5068e wsJ0_charAt_5068e ({ frames := 3, cells := 0, slots := 0, locals := 64 }) (k_PcT D cs adK adV zt [.ref (adK wi), .int i] ([] : va_W) sz) (k_Qi D ((k_byt.getD wi []).getD i.toNatClampNeg 0) ([] : va_W) ([] : va_W) sz) 0 0 (va_A ([] : va_W) sz) := by
  intro sz
  refine Met.ofW (cc := cJ0_charAt_5068e) (maxL := 2) (ret := (some .char)) (by decide) rfl ?_
  intro p e s m args below meth c s₁ B hml hv
  obtain ⟨⟨rfl, hsz, hP, hK, hD0, hNn⟩, hT⟩ := hv
  have hx := B.exec
  have hb := B.bytes
  have hr := B.returns
  have hts := atoms_spec (ws := wsJ0_charAt_5068e) B.pre
  have hown : s.vm.findClass RJ0 = some m.cls := findClass_of_methodNamed B.named
  have hlocks := B.notSynchronized
  subst hsz
  obtain ⟨A, hAe⟩ : ∃ A : Nat → Prop, A = va_A ([] : va_W) s.heap.size := ⟨_, rfl⟩
  rw [← hAe] at hT
  have hD : va_D A ([] : va_W) := k_D0
  have hA : ∀ q : Nat, s.heap.size ≤ q → A q := fun q h => by rw [hAe]; exact Or.inr h
  have hS : va_S A s.heap s.heap [] := va_S.rf
  have hl := lv_entry ([.ref (adK wi), .int i]) (n := 2) (Nat.le_of_ble_eq_true rfl)
  rw [lg_entry_eq]
  generalize (lg_sl ([.ref (adK wi), .int i]) ++ List.replicate (2 - (lg_sl ([.ref (adK wi), .int i])).length) Slot.unset).toArray = ls at hl ⊢
  have hl : lv_has ls 2 [(0, .ref (adK wi)), (1, .int i)] := hl
  obtain ⟨Q, hQ⟩ : ∃ Q, Q = MQ below (k_Qi D ((k_byt.getD wi []).getD i.toNatClampNeg 0) ([] : va_W) ([] : va_W) s.heap.size) ([.ref (adK wi), .int i] : List Value).toArray s 0 0 (va_A ([] : va_W) s.heap.size) := ⟨_, rfl⟩
  rw [← hQ]
  have hnar : narrow .char (.int ((k_byt.getD wi []).getD i.toNatClampNeg 0)) = .int ((k_byt.getD wi []).getD i.toNatClampNeg 0) := by
    obtain ⟨j, hj, rfl⟩ := vp_in_of hi (Nat.lt_of_le_of_lt (k_len_le wi hwi) (by decide))
    rw [nI_clamp (Nat.lt_trans hj (Nat.lt_of_le_of_lt (k_len_le wi hwi) (by decide)))]
    exact (k_ch wi hwi j hj).2
  refine lv_aload_n hx hb dJ0_charAt_5068e_0 rfl (lv_at hl 0 rfl) ?_
  have hPc := k_P0 hP
  have hDc : va_D A ([] : va_W) := k_D0
  have hF := k_self hDc hS hA
  refine k_run_i (va_runV (As := []) (rest := []) ⟨hx, hb, hml, hown, hts⟩ (mJ0_isLatin1_aae02 l D cs adK adV zt wi hwi _) (cwV 0 hts gJ0_charAt_5068e_J0_isLatin1_aae02 rfl rfl rfl (by decide +kernel) ⟨Nat.le_of_ble_eq_true rfl, Nat.le_of_ble_eq_true rfl⟩) ⟨k_blindT, vk_recv hT.1 hwi hS, k_preT hPc hK hNn hDc hT hS hF⟩ rfl rfl hl.1 rfl (lv_room (Nat.le_of_ble_eq_true rfl)) dJ0_charAt_5068e_1 ⟨Nat.le_of_ble_eq_true rfl, Nat.le_of_ble_eq_true rfl⟩) hS hF (fun H locs hP1 hk hS => ?_)
  have hP := k_keep hP hk
  refine lv_if_eq (tgt := 16) hx hb dJ0_charAt_5068e_4 (by decide) (fun c3 => absurd c3 (by decide)) (fun _ => ?_)
  refine lv_aload_n hx hb dJ0_charAt_5068e_7 rfl (lv_at hl 0 rfl) ?_
  refine vk_getf hx hb (hT.1.1 wi hwi).2.2.1 hS hown (hts (.fieldLink RJ0 9 "java/lang/String" "value" "[B") (List.mem_of_getElem? (i := 1) rfl)) (fun _ h9 => h9) dJ0_charAt_5068e_8 ?_
  refine lv_iload_n hx hb dJ0_charAt_5068e_11 rfl (lv_at hl 1 rfl) ?_
  have hPc := k_P0 hP
  have hDc : va_D A ([] : va_W) := k_D0
  have hF := k_self hDc hS hA
  refine k_run_i (va_runS (As := [.ref (adV wi), .int i]) (rest := []) ⟨hx, hb, hml, hown, hts⟩ (mJ1_charAt_3b067 l D cs adK adV zt wi hwi i hi _) (va_cwS 2 hts gJ0_charAt_5068e_J1_charAt_3b067 rfl rfl rfl (by decide +kernel) ⟨Nat.le_of_ble_eq_true rfl, Nat.le_of_ble_eq_true rfl⟩) ⟨k_blindT, k_preT hPc hK hNn hDc hT hS hF⟩ rfl rfl hl.1 rfl (lv_room (Nat.le_of_ble_eq_true rfl)) dJ0_charAt_5068e_12 ⟨Nat.le_of_ble_eq_true rfl, Nat.le_of_ble_eq_true rfl⟩) hS hF (fun H locs hP1 hk hS => ?_)
  have hP := k_keep hP hk
  exact k_zret (ty := .char) hx hb hr hnar hQ hAe rfl rfl hP hS hlocks dJ0_charAt_5068e_15
