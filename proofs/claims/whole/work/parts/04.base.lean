/-! The pure pictures: a window of cells holds ints S (cell, place) and longs L (cell, place); what a method does to them is a function that may answer none where the machine would throw. -/
def k_w (S : Nat → Nat → Int32) (c k : Nat) (x : Int32) : Nat → Nat → Int32 := fun i => if i = c then upd (S c) k x else S i
def k_wl (S : Nat → Nat → Int64) (c k : Nat) (x : Int64) : Nat → Nat → Int64 := fun i => if i = c then vp_updL (S c) k x else S i
/-- a whole cell anew -/
def k_r {α : Type} (S : Nat → Nat → α) (c : Nat) (f : Nat → α) : Nat → Nat → α := fun i => if i = c then f else S i
/-- a window within a window, from b on -/
def k_wi {α : Type} (S : Nat → α) (b : Nat) : Nat → α := fun i => S (b + i)
/-- n cells from b on are those of V -/
def k_sp {α : Type} (S : Nat → α) (b n : Nat) (V : Nat → α) : Nat → α := fun i => if b ≤ i ∧ i < b + n then V (i - b) else S i
def k_b1 {α γ : Type} (o : Option α) (f : α → Option γ) : Option γ := match o with | some a => f a | none => none
def k_b2 {α β γ : Type} (o : Option (α × β)) (f : α → β → Option γ) : Option γ := match o with | some (a, b) => f a b | none => none
def k_b3 {α β δ γ : Type} (o : Option (α × β × δ)) (f : α → β → δ → Option γ) : Option γ := match o with | some (a, b, d) => f a b d | none => none
def k_b4 {α β δ ε γ : Type} (o : Option (α × β × δ × ε)) (f : α → β → δ → ε → Option γ) : Option γ := match o with | some (a, b, d, e) => f a b d e | none => none
theorem dn_b1 {α γ : Type} {o : Option α} {f : α → Option γ} {x : γ} (h : k_b1 o f = some x) : ∃ a, o = some a ∧ f a = some x := by
  cases o with
  | none => cases h
  | some a => exact ⟨a, rfl, h⟩
theorem dn_b2 {α β γ : Type} {o : Option (α × β)} {f : α → β → Option γ} {x : γ} (h : k_b2 o f = some x) : ∃ a b, o = some (a, b) ∧ f a b = some x := by
  cases o with
  | none => cases h
  | some a => exact ⟨a.1, a.2, rfl, h⟩
theorem dn_b3 {α β δ γ : Type} {o : Option (α × β × δ)} {f : α → β → δ → Option γ} {x : γ} (h : k_b3 o f = some x) : ∃ a b d, o = some (a, b, d) ∧ f a b d = some x := by
  cases o with
  | none => cases h
  | some a => exact ⟨a.1, a.2.1, a.2.2, rfl, h⟩
theorem dn_b4 {α β δ ε γ : Type} {o : Option (α × β × δ × ε)} {f : α → β → δ → ε → Option γ} {x : γ} (h : k_b4 o f = some x) : ∃ a b d e, o = some (a, b, d, e) ∧ f a b d e = some x := by
  cases o with
  | none => cases h
  | some a => exact ⟨a.1, a.2.1, a.2.2.1, a.2.2.2, rfl, h⟩
/-- a loop: a step goes on (inl) or ends (inr) -/
def k_it {σ ρ : Type} (f : σ → Option (σ ⊕ ρ)) : Nat → σ → Option ρ
  | 0, _ => none
  | n + 1, s => match f s with
    | none => none
    | some (.inl s') => k_it f n s'
    | some (.inr x) => some x
def k_up {σ ρ : Type} (o : Option ρ) : Option (σ ⊕ ρ) := match o with | some x => some (.inr x) | none => none
def k_nx {σ ρ : Type} (f : σ → Option (σ ⊕ ρ)) (n : Nat) (R : ρ) : σ ⊕ ρ → Prop
  | .inl s => k_it f n s = some R
  | .inr x => x = R
theorem dn_it0 {σ ρ : Type} {f : σ → Option (σ ⊕ ρ)} {s : σ} {R : ρ} {P : Prop} (h : k_it f 0 s = some R) : P := by cases h
theorem dn_it {σ ρ : Type} {f : σ → Option (σ ⊕ ρ)} {n : Nat} {s : σ} {R : ρ} (h : k_it f (n + 1) s = some R) : ∃ y, f s = some y ∧ k_nx f n R y := by
  unfold k_it at h
  cases hf : f s with
  | none => rw [hf] at h; cases h
  | some y =>
    rw [hf] at h
    cases y with
    | inl s' => exact ⟨_, rfl, h⟩
    | inr x => exact ⟨_, rfl, Option.some.inj h⟩
theorem dn_up {σ ρ : Type} {f : σ → Option (σ ⊕ ρ)} {n : Nat} {R : ρ} {y : σ ⊕ ρ} {o : Option ρ} (h : k_up o = some y) (hy : k_nx f n R y) : o = some R := by
  cases o with
  | none => cases h
  | some x => cases h; exact congrArg some hy
theorem dn_bk {σ ρ : Type} {f : σ → Option (σ ⊕ ρ)} {n : Nat} {R : ρ} {y : σ ⊕ ρ} {s : σ} (h : some (Sum.inl s) = some y) (hy : k_nx f n R y) : k_it f n s = some R := by
  cases h; exact hy
theorem dn_t {α : Type} {c : Prop} [Decidable c] {A B : Option α} {x : α} (h : c) (e : (if c then A else B) = some x) : A = some x := by rw [if_pos h] at e; exact e
theorem dn_f {α : Type} {c : Prop} [Decidable c] {A B : Option α} {x : α} (h : ¬ c) (e : (if c then A else B) = some x) : B = some x := by rw [if_neg h] at e; exact e
/-- where none is the other way -/
theorem dn_n {α : Type} {c : Prop} [Decidable c] {B : Option α} {x : α} (e : (if c then none else B) = some x) : ¬ c ∧ B = some x := by
  by_cases h : c
  · rw [if_pos h] at e; cases e
  · rw [if_neg h] at e; exact ⟨h, e⟩
theorem dn_i {α : Type} {i : Int32} {n : Nat} {B : Option α} {x : α} (e : (if i < 0 ∨ n ≤ i.toNatClampNeg then none else B) = some x) : vp_in i n ∧ B = some x := dn_n e
theorem dn_s1 {α : Type} {a b : α} (h : some a = some b) : a = b := Option.some.inj h
theorem dn_s2 {α β : Type} {a b : α} {c d : β} (h : some (a, c) = some (b, d)) : a = b ∧ c = d := Prod.mk.inj (Option.some.inj h)
theorem dn_s3 {α β γ : Type} {a b : α} {c d : β} {e f : γ} (h : some (a, c, e) = some (b, d, f)) : a = b ∧ c = d ∧ e = f := by cases h; exact ⟨rfl, rfl, rfl⟩
theorem dn_s4 {α β γ δ : Type} {a b : α} {c d : β} {e f : γ} {g h : δ} (q : some (a, c, e, g) = some (b, d, f, h)) : a = b ∧ c = d ∧ e = f ∧ g = h := by cases q; exact ⟨rfl, rfl, rfl, rfl⟩
/-- a boolean's cells -/
theorem dn_z {v : Int32} (h : ¬ ¬ (v = 0 ∨ v = 1)) : narrow .boolean (.int v) = .int v := by
  rcases Decidable.not_not.mp h with rfl | rfl <;> rfl
theorem k_DA {A : Nat → Prop} {ws ws' : va_W} (h : va_D A ws) (e : ws'.map Prod.fst = ws.map Prod.fst) : va_D A ws' := by
  have at' : ∀ (i : Nat) (q : Nat × va_E), ws'[i]? = some q → ∃ r : Nat × va_E, ws[i]? = some r ∧ r.1 = q.1 := by
    intro i q hq
    have h1 : (ws'.map Prod.fst)[i]? = some q.1 := by rw [List.getElem?_map, hq]; rfl
    rw [e, List.getElem?_map] at h1
    cases hw : ws[i]? with
    | none => rw [hw] at h1; cases h1
    | some r => rw [hw] at h1; exact ⟨r, rfl, Option.some.inj h1⟩
  refine ⟨fun i j p q hp hq hpq => ?_, fun k q hq => ?_⟩
  · obtain ⟨p', h1, h2⟩ := at' i p hp
    obtain ⟨q', h3, h4⟩ := at' j q hq
    exact h.1 i j p' q' h1 h3 (by rw [h2, h4, hpq])
  · obtain ⟨r, h1, h2⟩ := at' k q hq
    rw [← h2]
    exact h.2 k r h1
/-- the arrays' classes: char, int, long, boolean, Valley -/
abbrev k_tys (cs : Nat → ClassId) : List (ClassId × FieldType) := [(cs 0, .char), (cs 1, .int), (cs 2, .long), (cs 3, .boolean), (cs 4, .object "LeastNeed$Valley")]
/-- the nest's links -/
def k_N (U : State) : Prop := va_Nw (.methodLinkNest RX3 29 yX6_copyRow "LeastNeed") U ∧ va_Nw (.methodLinkNest RX5 67 yX6_copyRow "LeastNeed") U ∧ va_Nw (.methodLinkNest RX6 11 yX5_init "LeastNeed") U ∧ va_Nw (.methodLinkNest RX6 29 yX2_init "LeastNeed") U ∧ va_Nw (.methodLinkNest RX6 36 yX0_init "LeastNeed") U
theorem k_N.same {u U : State} (h : u.vm = U.vm) (hN : k_N u) : k_N U := ⟨va_Nw.same rfl h hN.1, va_Nw.same rfl h hN.2.1, va_Nw.same rfl h hN.2.2.1, va_Nw.same rfl h hN.2.2.2.1, va_Nw.same rfl h hN.2.2.2.2⟩
theorem k_N.warm {s U : State} (hW : s.WarmedH U.vm) (hN : k_N s) : k_N U := ⟨va_Nw.warmM hW hN.1, va_Nw.warmM hW hN.2.1, va_Nw.warmM hW hN.2.2.1, va_Nw.warmM hW hN.2.2.2.1, va_Nw.warmM hW hN.2.2.2.2⟩
def k_Pc (D : va_G) (cs : Nat → ClassId) (av : List Value) (ws : va_W) (sz : Nat) : Array Value → State → Prop := va_Pc av (fun U => U.heap.size = sz ∧ va_P D vwCl ws U.heap ∧ va_K D vwCl (k_tys cs) U ∧ va_D (fun _ => True) ws ∧ k_N U)
def k_Qi (D : va_G) (r : Int32) (w0 w1 : va_W) (sz : Nat) : Array Value → State → Outcome → State → Prop := va_Qi (S := Unit) (fun r' _ => r' = r) (fun _ t => va_P D vwCl w1 t.heap) (va_A w0 sz)
def k_Ql (D : va_G) (r : Int64) (w0 w1 : va_W) (sz : Nat) : Array Value → State → Outcome → State → Prop := va_Ql (S := Unit) (fun r' _ => r' = r) (fun _ t => va_P D vwCl w1 t.heap) (va_A w0 sz)
def k_Qv (D : va_G) (w0 w1 : va_W) (sz : Nat) : Array Value → State → Outcome → State → Prop := va_Qv (S := Unit) (fun _ => True) (fun _ t => va_P D vwCl w1 t.heap) (va_A w0 sz)
theorem k_blind {D : va_G} {cs : Nat → ClassId} {av : List Value} {ws : va_W} {sz : Nat} : FrameBlind (k_Pc D cs av ws sz) := fun a U g mk q => by
  obtain ⟨q0, q1, qP, qK, qD, qN⟩ := q
  exact ⟨q0, q1, qP, va_K.moved (u := U) (U := U.calling g mk a) (Vm.Alike.refl U.vm) qK, qD, k_N.same (u := U) (U := U.calling g mk a) rfl qN⟩
theorem k_pre {D : va_G} {cs : Nat → ClassId} {av : List Value} {ws : va_W} {s : State} {H : Heap} {A : Nat → Prop} (hP : va_P D vwCl ws H) (hK : va_K D vwCl (k_tys cs) s) (hN : k_N s) (hD : va_D A ws) : ∀ U : State, U.heap = H → s.WarmedH U.vm → k_Pc D cs av ws H.size av.toArray U :=
  fun U hU hW => ⟨rfl, by rw [hU], by rw [hU]; exact hP, va_K.moved hW.alike hK, hD.weaken (fun _ _ _ _ => trivial), k_N.warm hW hN⟩
/-- behind a call on some of the cells: the caller's world anew -/
theorem k_back {A : Nat → Prop} {D : va_G} {ws wc w1 ws1 : va_W} {H H1 : Heap} (hP : va_P D vwCl ws H) (hD : va_D A ws) (isC isR pm : List Nat) (hC : isC.map (fun i => ws[i]?) = wc.map some) (hdis : ∀ i ∈ isR, i ∉ isC)
    (hk : ∀ q : Nat, q < H.size → ¬ va_A wc H.size q → H1[q]? = H[q]?) (hP1 : va_P D vwCl w1 H1) (hpm : pm.map (fun i => (isR.filterMap (fun i => ws[i]?) ++ w1)[i]?) = ws1.map some) : va_P D vwCl ws1 H1 := by
  have at' : ∀ {is : List Nat} {w v : va_W}, is.map (fun i => v[i]?) = w.map some → ∀ (k : Nat) (q : Nat × va_E), w[k]? = some q → ∃ i, is[k]? = some i ∧ v[i]? = some q := by
    intro is w v hs k q hq
    have h1 : (is.map (fun i => v[i]?))[k]? = some (some q) := by rw [hs, List.getElem?_map, hq]; rfl
    rw [List.getElem?_map] at h1
    cases hi : is[k]? with
    | none => rw [hi] at h1; cases h1
    | some i => rw [hi] at h1; exact ⟨i, rfl, Option.some.inj h1⟩
  have hold : va_P D vwCl (isR.filterMap (fun i => ws[i]?)) H1 := by
    intro k q hq
    obtain ⟨i, hi, h2⟩ := List.mem_filterMap.mp (List.mem_of_getElem? hq)
    have hl := (hP i q h2).lt
    refine (hP i q h2).kept (hk q.1 hl (fun h => ?_))
    rcases h with ⟨k2, e, h⟩ | h
    · obtain ⟨j, h3, h4⟩ := at' hC k2 (q.1, e) h
      have hij := hD.1 i j q (q.1, e) h2 h4 rfl
      subst hij
      exact hdis i hi (List.mem_of_getElem? h3)
    · omega
  have hall := va_P.app hold hP1
  intro k q hq
  obtain ⟨i, h1, h2⟩ := at' hpm k q hq
  exact hall i q h2
theorem k_sub {D : va_G} {ws wc : va_W} {H : Heap} (hP : va_P D vwCl ws H) (isC : List Nat) (hC : isC.map (fun i => ws[i]?) = wc.map some) : va_P D vwCl wc H := by
  intro k q hq
  have h1 : (isC.map (fun i => ws[i]?))[k]? = some (some q) := by rw [hC, List.getElem?_map, hq]; rfl
  rw [List.getElem?_map] at h1
  cases hi : isC[k]? with
  | none => rw [hi] at h1; cases h1
  | some i => rw [hi] at h1; exact hP i q (Option.some.inj h1)
section KC
variable {p : Program} {l : Launch} {e : Env} {R : Room} {s : State} {m : MethodId} {args : Array Value} {below : List Frame} {meth : Method} {c : Code} {H : Heap} {locs : List Loc} {Q : State → Prop}
variable {D : va_G} {cs : Nat → ClassId} {A : Nat → Prop} {ws w0 w1 : va_W} {pc : Nat} {ls : Array Slot} {rest st0 : List Value} {free : Addr → Prop}
theorem k_run_i {a : Array Value} {r : Int32} (hr : va_Run p l e R s m args below meth c H locs 0 0 0 0 (F0 m pc ls st0) rest (k_Qi D r w0 w1 H.size a) (va_A w0 H.size)) (hS : va_S A s.heap H locs) (hF : ∀ q, va_A w0 H.size q → A q)
    (kk : ∀ (H1 : Heap) (locs1 : List Loc), va_P D vwCl w1 H1 → (∀ q : Nat, q < H.size → ¬ va_A w0 H.size q → H1[q]? = H[q]?) → va_S A s.heap H1 locs1 → W p l e R s m args below meth c H1 locs1 0 0 Q (F0 m (pc + 3) ls (.int r :: rest))) : W p l e R s m args below meth c H locs 0 0 Q (F0 m pc ls st0) :=
  va_calli (S := Unit) hr hS (fun q _ h => hF q h) hF (fun r' u t H1 locs1 ht _ hw hB _ hk hS1 => by
    rw [show r' = r from hw]
    exact kk H1 locs1 (by rw [← ht]; exact hB) hk hS1)
theorem k_run_l {a : Array Value} {r : Int64} (hr : va_Run p l e R s m args below meth c H locs 0 0 0 0 (F0 m pc ls st0) rest (k_Ql D r w0 w1 H.size a) (va_A w0 H.size)) (hS : va_S A s.heap H locs) (hF : ∀ q, va_A w0 H.size q → A q)
    (kk : ∀ (H1 : Heap) (locs1 : List Loc), va_P D vwCl w1 H1 → (∀ q : Nat, q < H.size → ¬ va_A w0 H.size q → H1[q]? = H[q]?) → va_S A s.heap H1 locs1 → W p l e R s m args below meth c H1 locs1 0 0 Q (F0 m (pc + 3) ls (.long r :: rest))) : W p l e R s m args below meth c H locs 0 0 Q (F0 m pc ls st0) :=
  va_calll (S := Unit) hr hS (fun q _ h => hF q h) hF (fun r' u t H1 locs1 ht _ hw hB _ hk hS1 => by
    rw [show r' = r from hw]
    exact kk H1 locs1 (by rw [← ht]; exact hB) hk hS1)
theorem k_run_v {a : Array Value} (hr : va_Run p l e R s m args below meth c H locs 0 0 0 0 (F0 m pc ls st0) rest (k_Qv D w0 w1 H.size a) (va_A w0 H.size)) (hS : va_S A s.heap H locs) (hF : ∀ q, va_A w0 H.size q → A q)
    (kk : ∀ (H1 : Heap) (locs1 : List Loc), va_P D vwCl w1 H1 → (∀ q : Nat, q < H.size → ¬ va_A w0 H.size q → H1[q]? = H[q]?) → va_S A s.heap H1 locs1 → W p l e R s m args below meth c H1 locs1 0 0 Q (F0 m (pc + 3) ls rest)) : W p l e R s m args below meth c H locs 0 0 Q (F0 m pc ls st0) :=
  va_callv (S := Unit) hr hS (fun q _ h => hF q h) hF (fun u t H1 locs1 ht _ hw hB _ hk hS1 => kk H1 locs1 (by rw [← ht]; exact hB) hk hS1)
theorem k_self (hD : va_D A ws) (hS : va_S A s.heap H locs) (hA : ∀ q : Nat, s.heap.size ≤ q → A q) : ∀ q, va_A ws H.size q → A q := by
  intro q h
  rcases h with ⟨k, e, h⟩ | h
  · exact hD.2 k (q, e) h
  · exact hA q (Nat.le_trans hS.1 h)
theorem k_iret {cc : ByteArray} {v r : Int32} {w : va_W} (hexec : p.tables.exec = Jvm.exec) (hb : c.code = cc) (hr : meth.sig.returnType = some .int) (hQ : Q = MQ below (k_Qi D r w0 w1 s.heap.size) args s 0 0 (va_A w0 s.heap.size)) (hAe : A = va_A w0 s.heap.size) (e1 : v = r) (e2 : w = w1) (hP : va_P D vwCl w H) (hS : va_S A s.heap H locs)
    (hlocks : meth.locks = false) (hdg : decode cc pc = .ok (.ireturn, 1)) : W p l e R s m args below meth c H locs 0 0 Q (F0 m pc ls [.int v]) := by
  subst hQ; subst hAe; subst e1; subst e2
  exact W.iret (v := v) hexec hb hr (fun t ht hW => ⟨⟨v, (), rfl, rfl, by show va_P D vwCl w t.heap; rw [ht]; exact hP⟩, hS.F ht⟩) hS.2.2 hdg hlocks
theorem k_zret {cc : ByteArray} {v r : Int32} {w : va_W} {ty : FieldType} (hexec : p.tables.exec = Jvm.exec) (hb : c.code = cc) (hr : meth.sig.returnType = some ty) (hn : narrow ty (.int v) = .int v) (hQ : Q = MQ below (k_Qi D r w0 w1 s.heap.size) args s 0 0 (va_A w0 s.heap.size)) (hAe : A = va_A w0 s.heap.size) (e1 : v = r) (e2 : w = w1) (hP : va_P D vwCl w H) (hS : va_S A s.heap H locs)
    (hlocks : meth.locks = false) (hdg : decode cc pc = .ok (.ireturn, 1)) : W p l e R s m args below meth c H locs 0 0 Q (F0 m pc ls [.int v]) := by
  subst hQ; subst hAe; subst e1; subst e2
  exact W.zret (v := v) hexec hb hr hn (fun t ht hW => ⟨⟨v, (), rfl, rfl, by show va_P D vwCl w t.heap; rw [ht]; exact hP⟩, hS.F ht⟩) hS.2.2 hdg hlocks
theorem k_lret {cc : ByteArray} {v r : Int64} {w : va_W} (hexec : p.tables.exec = Jvm.exec) (hb : c.code = cc) (hr : meth.sig.returnType = some .long) (hQ : Q = MQ below (k_Ql D r w0 w1 s.heap.size) args s 0 0 (va_A w0 s.heap.size)) (hAe : A = va_A w0 s.heap.size) (e1 : v = r) (e2 : w = w1) (hP : va_P D vwCl w H) (hS : va_S A s.heap H locs)
    (hlocks : meth.locks = false) (hdg : decode cc pc = .ok (.lreturn, 1)) : W p l e R s m args below meth c H locs 0 0 Q (F0 m pc ls [.long v]) := by
  subst hQ; subst hAe; subst e1; subst e2
  exact W.lret (v := v) hexec hb hr (fun t ht hW => ⟨⟨v, (), rfl, rfl, by show va_P D vwCl w t.heap; rw [ht]; exact hP⟩, hS.F ht⟩) hS.2.2 hdg hlocks
theorem k_vret {cc : ByteArray} {w : va_W} (hexec : p.tables.exec = Jvm.exec) (hb : c.code = cc) (hr : meth.sig.returnType = none) (hQ : Q = MQ below (k_Qv D w0 w1 s.heap.size) args s 0 0 (va_A w0 s.heap.size)) (hAe : A = va_A w0 s.heap.size) (e2 : w = w1) (hP : va_P D vwCl w H) (hS : va_S A s.heap H locs)
    (hlocks : meth.locks = false) (hdg : decode cc pc = .ok (.return_, 1)) : W p l e R s m args below meth c H locs 0 0 Q (F0 m pc ls []) := by
  subst hQ; subst hAe; subst e2
  exact W.vret hexec hb hr (fun t ht hW => ⟨⟨(), rfl, trivial, by show va_P D vwCl w t.heap; rw [ht]; exact hP⟩, hS.F ht⟩) hS.2.2 hdg hlocks
end KC
/-- a switch's other way -/
theorem k_out {x : Int32} {lo hi : Int} (n : Nat) (hn : lo + n = hi + 1) (h : ∀ k : Nat, k < n → ¬ x.toInt = lo + k) : x.toInt < lo ∨ hi < x.toInt := by
  rcases Int.lt_or_le x.toInt lo with q | q
  · exact Or.inl q
  · rcases Int.lt_or_le hi x.toInt with r | r
    · exact Or.inr r
    · exact absurd (by omega) (h (x.toInt - lo).toNat (by omega))
theorem k_in {i : Int32} {n : Nat} (h : (decide (i < 0) || decide (n ≤ i.toNatClampNeg)) = false) : vp_in i n := by
  have h1 := Bool.or_eq_false_iff.mp h
  exact fun q => q.elim (fun q => of_decide_eq_false h1.1 q) (fun q => of_decide_eq_false h1.2 q)
/-- what System.arraycopy looks at -/
def k_cpok (sp dp n : Int32) (n0 n1 : Nat) : Bool := !decide (sp < 0) && !decide (dp < 0) && !decide (n < 0) && decide (sp.toNatClampNeg + n.toNatClampNeg ≤ n0) && decide (dp.toNatClampNeg + n.toNatClampNeg ≤ n1)
theorem k_cpok_spec {sp dp n : Int32} {n0 n1 : Nat} (h : ¬ k_cpok sp dp n n0 n1 = false) : ¬ sp < 0 ∧ ¬ dp < 0 ∧ ¬ n < 0 ∧ sp.toNatClampNeg + n.toNatClampNeg ≤ n0 ∧ dp.toNatClampNeg + n.toNatClampNeg ≤ n1 := by
  have h1 : k_cpok sp dp n n0 n1 = true := by
    cases hq : k_cpok sp dp n n0 n1 with
    | false => exact absurd hq h
    | true => rfl
  unfold k_cpok at h1
  simp only [Bool.and_eq_true, Bool.not_eq_true', decide_eq_false_iff_not, decide_eq_true_eq] at h1
  exact ⟨h1.1.1.1.1, h1.1.1.1.2, h1.1.1.2, h1.1.2, h1.2⟩
theorem k_keep {D : va_G} {ws : va_W} {H H1 : Heap} (hP : va_P D vwCl ws H) (hk : ∀ q : Nat, q < H.size → ¬ va_A ([] : va_W) H.size q → H1[q]? = H[q]?) : va_P D vwCl ws H1 := by
  intro k q hq
  have hl := (hP k q hq).lt
  refine (hP k q hq).kept (hk q.1 hl (fun h => ?_))
  rcases h with ⟨k2, e, h⟩ | h
  · simp at h
  · omega
section KR
variable {p : Program} {l : Launch} {e : Env} {R : Room} {s : State} {m : MethodId} {args : Array Value} {below : List Frame} {meth : Method} {c : Code} {H : Heap} {locs : List Loc} {cells slots : Nat} {Q : State → Prop}
variable {cc : ByteArray} {pc : Nat} {ls : Array Slot} {rest : List Value} {D : va_G} {A : Nat → Prop} {a : Nat} {tys : List (ClassId × FieldType)} {ws : va_W} {H0 : Heap}
theorem k_iald {k : Nat} {i : Int32} (hk : i.toNatClampNeg = k) (hexec : p.tables.exec = Jvm.exec) (hb : c.code = cc) (hK : va_K D vwCl tys s) (hP : va_P D vwCl ws H) (q0 t0 : Nat) {cA : ClassId} {n : Nat} {f : Nat → Int32} (ha : ws[q0]? = some (a, .inl (cA, n, .inl f))) (ht : tys[t0]? = some (cA, .int)) (hin : vp_in i n) (hdg : decode cc pc = .ok (.iaload, 1))
    (kk : W p l e R s m args below meth c H locs cells slots Q (F0 m (pc + 1) ls (.int (f k) :: rest))) : W p l e R s m args below meth c H locs cells slots Q (F0 m pc ls (.int i :: .ref a :: rest)) := by
  subst hk; exact va_iald hexec hb hK hP q0 t0 ha ht hin hdg kk
theorem k_cald {k : Nat} {i : Int32} (hk : i.toNatClampNeg = k) (hexec : p.tables.exec = Jvm.exec) (hb : c.code = cc) (hK : va_K D vwCl tys s) (hP : va_P D vwCl ws H) (q0 t0 : Nat) {cA : ClassId} {n : Nat} {f : Nat → Int32} (ha : ws[q0]? = some (a, .inl (cA, n, .inl f))) (ht : tys[t0]? = some (cA, .char)) (hin : vp_in i n) (hdg : decode cc pc = .ok (.caload, 1))
    (kk : W p l e R s m args below meth c H locs cells slots Q (F0 m (pc + 1) ls (.int (f k) :: rest))) : W p l e R s m args below meth c H locs cells slots Q (F0 m pc ls (.int i :: .ref a :: rest)) := by
  subst hk; exact va_cald hexec hb hK hP q0 t0 ha ht hin hdg kk
theorem k_zald {k : Nat} {i : Int32} (hk : i.toNatClampNeg = k) (hexec : p.tables.exec = Jvm.exec) (hb : c.code = cc) (hK : va_K D vwCl tys s) (hP : va_P D vwCl ws H) (q0 t0 : Nat) {cA : ClassId} {n : Nat} {f : Nat → Int32} (ha : ws[q0]? = some (a, .inl (cA, n, .inl f))) (ht : tys[t0]? = some (cA, .boolean)) (hin : vp_in i n) (hdg : decode cc pc = .ok (.baload, 1))
    (kk : W p l e R s m args below meth c H locs cells slots Q (F0 m (pc + 1) ls (.int (f k) :: rest))) : W p l e R s m args below meth c H locs cells slots Q (F0 m pc ls (.int i :: .ref a :: rest)) := by
  subst hk; exact va_zald hexec hb hK hP q0 t0 ha ht hin hdg kk
theorem k_lald {k : Nat} {i : Int32} (hk : i.toNatClampNeg = k) (hexec : p.tables.exec = Jvm.exec) (hb : c.code = cc) (hK : va_K D vwCl tys s) (hP : va_P D vwCl ws H) (q0 t0 : Nat) {cA : ClassId} {n : Nat} {f : Nat → Int64} (ha : ws[q0]? = some (a, .inl (cA, n, .inr (.inl f)))) (ht : tys[t0]? = some (cA, .long)) (hin : vp_in i n) (hdg : decode cc pc = .ok (.laload, 1))
    (kk : W p l e R s m args below meth c H locs cells slots Q (F0 m (pc + 1) ls (.long (f k) :: rest))) : W p l e R s m args below meth c H locs cells slots Q (F0 m pc ls (.int i :: .ref a :: rest)) := by
  subst hk; exact va_lald hexec hb hK hP q0 t0 ha ht hin hdg kk
theorem k_iast {k : Nat} {i : Int32} (hk : i.toNatClampNeg = k) (hexec : p.tables.exec = Jvm.exec) (hb : c.code = cc) (hK : va_K D vwCl tys s) (hP : va_P D vwCl ws H) (hD : va_D A ws) (hS : va_S A H0 H locs) (q0 t0 : Nat) {cA : ClassId} {n : Nat} {f : Nat → Int32} (ha : ws[q0]? = some (a, .inl (cA, n, .inl f))) (ht : tys[t0]? = some (cA, .int)) {x : Int32} (hin : vp_in i n) (hdg : decode cc pc = .ok (.iastore, 1))
    (kk : ∀ (H1 : Heap) (locs1 : List Loc), va_P D vwCl (ws.set q0 (a, .inl (cA, n, .inl (upd f k x)))) H1 → va_D A (ws.set q0 (a, .inl (cA, n, .inl (upd f k x)))) → va_S A H0 H1 locs1 → W p l e R s m args below meth c H1 locs1 cells slots Q (F0 m (pc + 1) ls rest)) : W p l e R s m args below meth c H locs cells slots Q (F0 m pc ls (.int x :: .int i :: .ref a :: rest)) := by
  subst hk; exact va_iast hexec hb hK hP hD hS q0 t0 ha ht hin hdg kk
theorem k_cast {k : Nat} {i : Int32} (hk : i.toNatClampNeg = k) (hexec : p.tables.exec = Jvm.exec) (hb : c.code = cc) (hK : va_K D vwCl tys s) (hP : va_P D vwCl ws H) (hD : va_D A ws) (hS : va_S A H0 H locs) (q0 t0 : Nat) {cA : ClassId} {n : Nat} {f : Nat → Int32} (ha : ws[q0]? = some (a, .inl (cA, n, .inl f))) (ht : tys[t0]? = some (cA, .char)) {x : Int32} (hin : vp_in i n) (hdg : decode cc pc = .ok (.castore, 1))
    (kk : ∀ (H1 : Heap) (locs1 : List Loc), va_P D vwCl (ws.set q0 (a, .inl (cA, n, .inl (upd f k (vp_nar .char x))))) H1 → va_D A (ws.set q0 (a, .inl (cA, n, .inl (upd f k (vp_nar .char x))))) → va_S A H0 H1 locs1 → W p l e R s m args below meth c H1 locs1 cells slots Q (F0 m (pc + 1) ls rest)) : W p l e R s m args below meth c H locs cells slots Q (F0 m pc ls (.int x :: .int i :: .ref a :: rest)) := by
  subst hk; exact va_cast hexec hb hK hP hD hS q0 t0 ha ht hin hdg kk
theorem k_zast {k : Nat} {i : Int32} (hk : i.toNatClampNeg = k) (hexec : p.tables.exec = Jvm.exec) (hb : c.code = cc) (hK : va_K D vwCl tys s) (hP : va_P D vwCl ws H) (hD : va_D A ws) (hS : va_S A H0 H locs) (q0 t0 : Nat) {cA : ClassId} {n : Nat} {f : Nat → Int32} (ha : ws[q0]? = some (a, .inl (cA, n, .inl f))) (ht : tys[t0]? = some (cA, .boolean)) {x : Int32} (hin : vp_in i n) (hdg : decode cc pc = .ok (.bastore, 1))
    (kk : ∀ (H1 : Heap) (locs1 : List Loc), va_P D vwCl (ws.set q0 (a, .inl (cA, n, .inl (upd f k (vp_nar .boolean x))))) H1 → va_D A (ws.set q0 (a, .inl (cA, n, .inl (upd f k (vp_nar .boolean x))))) → va_S A H0 H1 locs1 → W p l e R s m args below meth c H1 locs1 cells slots Q (F0 m (pc + 1) ls rest)) : W p l e R s m args below meth c H locs cells slots Q (F0 m pc ls (.int x :: .int i :: .ref a :: rest)) := by
  subst hk; exact va_zast hexec hb hK hP hD hS q0 t0 ha ht hin hdg kk
theorem k_last {k : Nat} {i : Int32} (hk : i.toNatClampNeg = k) (hexec : p.tables.exec = Jvm.exec) (hb : c.code = cc) (hK : va_K D vwCl tys s) (hP : va_P D vwCl ws H) (hD : va_D A ws) (hS : va_S A H0 H locs) (q0 t0 : Nat) {cA : ClassId} {n : Nat} {f : Nat → Int64} (ha : ws[q0]? = some (a, .inl (cA, n, .inr (.inl f)))) (ht : tys[t0]? = some (cA, .long)) {x : Int64} (hin : vp_in i n) (hdg : decode cc pc = .ok (.lastore, 1))
    (kk : ∀ (H1 : Heap) (locs1 : List Loc), va_P D vwCl (ws.set q0 (a, .inl (cA, n, .inr (.inl (vp_updL f k x))))) H1 → va_D A (ws.set q0 (a, .inl (cA, n, .inr (.inl (vp_updL f k x))))) → va_S A H0 H1 locs1 → W p l e R s m args below meth c H1 locs1 cells slots Q (F0 m (pc + 1) ls rest)) : W p l e R s m args below meth c H locs cells slots Q (F0 m pc ls (.long x :: .int i :: .ref a :: rest)) := by
  subst hk; exact va_last hexec hb hK hP hD hS q0 t0 ha ht hin hdg kk
theorem k_aldq {z : Nat} {i : Int32} {f : Nat → Option Nat} (hz : va_rf (f i.toNatClampNeg) = .ref z) (hexec : p.tables.exec = Jvm.exec) (hb : c.code = cc) (hK : va_K D vwCl tys s) (hP : va_P D vwCl ws H) (q0 t0 : Nat) {cA : ClassId} {C : String} {n : Nat} (ha : ws[q0]? = some (a, .inl (cA, n, .inr (.inr (.inr (.inr f)))))) (ht : tys[t0]? = some (cA, .object C)) (hin : vp_in i n) (hdg : decode cc pc = .ok (.aaload, 1))
    (kk : W p l e R s m args below meth c H locs cells slots Q (F0 m (pc + 1) ls (.ref z :: rest))) : W p l e R s m args below meth c H locs cells slots Q (F0 m pc ls (.int i :: .ref a :: rest)) := by
  refine va_aldq hexec hb hK hP q0 t0 ha ht hin hdg ?_
  rw [hz]; exact kk
theorem k_cpi (hexec : p.tables.exec = Jvm.exec) (hb : c.code = cc) (hml : c.maxLocals = ls.size) {own : String} {index : Nat} (hown : s.vm.findClass own = some m.cls) (hlink : (Cond.methodLink own index arraycopyName).before args s = true) (hnat : (Cond.native arraycopyName).before args s = true) (hstat : (Cond.static arraycopyName).before args s = true) (hini : (Cond.initialized "java/lang/System").before args s = true)
    (hK : va_K D vwCl tys s) (hP : va_P D vwCl ws H) (hD : va_D A ws) (hS : va_S A H0 H locs) (q0 q1 t0 t1 : Nat) {a0 : Nat} {c0 c1 : ClassId} {n0 n1 : Nat} {f g : Nat → Int32} (ha0 : ws[q0]? = some (a0, .inl (c0, n0, .inl f))) (ha1 : ws[q1]? = some (a, .inl (c1, n1, .inl g))) (ht0 : tys[t0]? = some (c0, .int)) (ht1 : tys[t1]? = some (c1, .int))
    {sp dp n : Int32} (hc : ¬ k_cpok sp dp n n0 n1 = false)
    (hframes : 1 ≤ R.frames) (hlocals : (rest.map fun v => v.category).sum + (nativeFrameWords "java/lang/System" "arraycopy" 5 + 11) ≤ R.locals) (hdg : decode cc pc = .ok (.invokestatic index, 3))
    (kk : ∀ (H1 : Heap) (locs1 : List Loc), va_P D vwCl (ws.set q1 (a, .inl (c1, n1, .inl (va_cpy f g sp.toNatClampNeg dp.toNatClampNeg n.toNatClampNeg)))) H1 → va_D A (ws.set q1 (a, .inl (c1, n1, .inl (va_cpy f g sp.toNatClampNeg dp.toNatClampNeg n.toNatClampNeg)))) → va_S A H0 H1 locs1 → W p l e R s m args below meth c H1 locs1 cells slots Q (F0 m (pc + 3) ls rest)) : W p l e R s m args below meth c H locs cells slots Q (F0 m pc ls (.int n :: .int dp :: .ref a :: .int sp :: .ref a0 :: rest)) := by
  obtain ⟨h1, h2, h3, h4, h5⟩ := k_cpok_spec hc
  exact va_copyi hexec hb hml hown hlink hnat hstat hini hK hP hD hS q0 q1 t0 t1 ha0 ha1 ht0 ht1 rfl h1 h2 h3 h4 h5 (fun _ _ => rfl) hframes hlocals hdg kk
theorem k_cpl (hexec : p.tables.exec = Jvm.exec) (hb : c.code = cc) (hml : c.maxLocals = ls.size) {own : String} {index : Nat} (hown : s.vm.findClass own = some m.cls) (hlink : (Cond.methodLink own index arraycopyName).before args s = true) (hnat : (Cond.native arraycopyName).before args s = true) (hstat : (Cond.static arraycopyName).before args s = true) (hini : (Cond.initialized "java/lang/System").before args s = true)
    (hK : va_K D vwCl tys s) (hP : va_P D vwCl ws H) (hD : va_D A ws) (hS : va_S A H0 H locs) (q0 q1 t0 t1 : Nat) {a0 : Nat} {c0 c1 : ClassId} {n0 n1 : Nat} {f g : Nat → Int64} (ha0 : ws[q0]? = some (a0, .inl (c0, n0, .inr (.inl f)))) (ha1 : ws[q1]? = some (a, .inl (c1, n1, .inr (.inl g)))) (ht0 : tys[t0]? = some (c0, .long)) (ht1 : tys[t1]? = some (c1, .long))
    {sp dp n : Int32} (hc : ¬ k_cpok sp dp n n0 n1 = false)
    (hframes : 1 ≤ R.frames) (hlocals : (rest.map fun v => v.category).sum + (nativeFrameWords "java/lang/System" "arraycopy" 5 + 11) ≤ R.locals) (hdg : decode cc pc = .ok (.invokestatic index, 3))
    (kk : ∀ (H1 : Heap) (locs1 : List Loc), va_P D vwCl (ws.set q1 (a, .inl (c1, n1, .inr (.inl (va_cpy f g sp.toNatClampNeg dp.toNatClampNeg n.toNatClampNeg))))) H1 → va_D A (ws.set q1 (a, .inl (c1, n1, .inr (.inl (va_cpy f g sp.toNatClampNeg dp.toNatClampNeg n.toNatClampNeg))))) → va_S A H0 H1 locs1 → W p l e R s m args below meth c H1 locs1 cells slots Q (F0 m (pc + 3) ls rest)) : W p l e R s m args below meth c H locs cells slots Q (F0 m pc ls (.int n :: .int dp :: .ref a :: .int sp :: .ref a0 :: rest)) := by
  obtain ⟨h1, h2, h3, h4, h5⟩ := k_cpok_spec hc
  exact va_copyl hexec hb hml hown hlink hnat hstat hini hK hP hD hS q0 q1 t0 t1 ha0 ha1 ht0 ht1 rfl h1 h2 h3 h4 h5 (fun _ _ => rfl) hframes hlocals hdg kk
end KR
theorem k_eq {D : va_G} {ws ws' : va_W} {H : Heap} (h : va_P D vwCl ws H) (e : ws = ws') : va_P D vwCl ws' H := e ▸ h
theorem k_D0 {A : Nat → Prop} : va_D A ([] : va_W) := ⟨fun i j p q h => by simp at h, fun k q h => by simp at h⟩
theorem k_P0 {D : va_G} {ws : va_W} {H : Heap} (_ : va_P D vwCl ws H) : va_P D vwCl ([] : va_W) H := fun k q h => by simp at h
