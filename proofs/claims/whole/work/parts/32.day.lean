/-! a day goes by -/
def nxD (n : Nat) (t ct : Nat → Int32) (d : Int32) (k q : Nat) : Int32 := cmF n (fun p => t (23 + p)) (fun p => t (30 + p)) (fun j => t (37 + j)) ct (t (65 + k)) (t (70 + k)).toNatClampNeg q d
theorem nxD_who (n : Nat) (t ct : Nat → Int32) (d : Int32) (k q : Nat) : nxD n t ct d k q = -1 ∨ ∃ j, j < n ∧ j ≠ q ∧ nxD n t ct d k q = nI j := cmF_who _ _ _ _ _ _ _ _ _
def vq (V : Nat → Nat → Int32) (t : Nat → Int32) (n m : Nat) : Prop := (t 0 = nI n ∧ t 1 = nI m ∧ V 0 12 = nI n ∧ V 0 13 = nI m ∧ n ≤ 7 ∧ m ≤ 5) ∧
  (∀ p, p < n → V 1 p = t (23 + p) ∧ V 2 p = t (30 + p) ∧ V 3 p = t (15 + p) ∧ pz (t (23 + p)) 6 ∧ pz (t (30 + p)) 20 ∧ pz (t (15 + p)) 10) ∧
  (∀ j, j < 4 * n → V 4 j = t (37 + j) ∧ pz (t (37 + j)) 10) ∧
  (∀ k, k < m → V 5 k = t (65 + k) ∧ V 6 k = t (70 + k) ∧ V 7 k = t (75 + k) ∧ V 8 k = t (5 + k) ∧ V 9 k = t (10 + k) ∧ pz (t (65 + k)) 6 ∧ pz (t (70 + k)) 4 ∧ pz (t (75 + k)) n ∧ pz (t (5 + k)) n ∧ pz (t (10 + k)) 3)
theorem vq_of {V : Nat → Nat → Int32} {t : Nat → Int32} {n m un uc up d dm : Nat} (h : vr V t n m un uc up d dm) : vq V t n m := by
  obtain ⟨⟨t0, t1, t2, t3, t4, t22⟩, ⟨b1, b2, b3, b4, b5, b6⟩, ⟨v0, v1, v2, v3, v4, v5⟩, hp, hnd, hth, -⟩ := h
  exact ⟨⟨t0, t1, v0, v1, b1, b2⟩, hp, hnd, hth⟩
def dayX (n : Nat) (t : Nat → Int32) (d : Int32) (k : Nat) : Int32 := nxD n t (fun p => t (15 + p)) d k (t (5 + k)).toNatClampNeg
def dayH (n : Nat) (t : Nat → Int32) (d : Int32) (k : Nat) : Int32 := if t (10 + k) = 0 then t (5 + k) else if dayX n t d k = -1 then t (5 + k) else dayX n t d k
def dayP (n : Nat) (t : Nat → Int32) (d : Int32) (k : Nat) : Int32 := if t (10 + k) = 0 then t (10 + k) else if dayX n t d k = -1 then 2 else 0
def dgS (V : Nat → Nat → Int32) (t : Nat → Int32) (n : Nat) (d : Int32) (i : Nat) : Nat → Nat → Int32 := fun c => if c = 8 then (fun k => if k < i then dayH n t d k else V 8 k) else if c = 9 then (fun k => if k < i then dayP n t d k else V 9 k) else V c
theorem dgS_8 (V : Nat → Nat → Int32) (t : Nat → Int32) (n : Nat) (d : Int32) (i k : Nat) : dgS V t n d i 8 k = if k < i then dayH n t d k else V 8 k := rfl
theorem dgS_9 (V : Nat → Nat → Int32) (t : Nat → Int32) (n : Nat) (d : Int32) (i k : Nat) : dgS V t n d i 9 k = if k < i then dayP n t d k else V 9 k := rfl
theorem dgS_o {V : Nat → Nat → Int32} {t : Nat → Int32} {n : Nat} {d : Int32} {i c : Nat} (h1 : c ≠ 8) (h2 : c ≠ 9) : dgS V t n d i c = V c := by unfold dgS; rw [if_neg h1, if_neg h2]
theorem dgS_0 (V : Nat → Nat → Int32) (t : Nat → Int32) (n : Nat) (d : Int32) : dgS V t n d 0 = V := by
  funext c
  by_cases h : c = 8
  · subst h; funext k; rw [dgS_8, if_neg (by omega)]
  · by_cases h9 : c = 9
    · subst h9; funext k; rw [dgS_9, if_neg (by omega)]
    · rw [dgS_o h h9]
theorem dgS_step {V : Nat → Nat → Int32} {t : Nat → Int32} {n : Nat} {d : Int32} {i : Nat} {W : Nat → Nat → Int32} (h8 : ∀ k, W 8 k = if k = i then dayH n t d i else dgS V t n d i 8 k) (h9 : ∀ k, W 9 k = if k = i then dayP n t d i else dgS V t n d i 9 k) (ho : ∀ c, c ≠ 8 → c ≠ 9 → W c = dgS V t n d i c) : W = dgS V t n d (i + 1) := by
  funext c
  by_cases h : c = 8
  · subst h
    funext k
    rw [h8, dgS_8, dgS_8]
    by_cases q : k = i
    · subst q; rw [if_pos rfl, if_pos (by omega)]
    · rw [if_neg q]
      by_cases q2 : k < i
      · rw [if_pos q2, if_pos (by omega)]
      · rw [if_neg q2, if_neg (by omega)]
  · by_cases g : c = 9
    · subst g
      funext k
      rw [h9, dgS_9, dgS_9]
      by_cases q : k = i
      · subst q; rw [if_pos rfl, if_pos (by omega)]
      · rw [if_neg q]
        by_cases q2 : k < i
        · rw [if_pos q2, if_pos (by omega)]
        · rw [if_neg q2, if_neg (by omega)]
    · rw [ho c h g, dgS_o h g, dgS_o h g]
theorem dgS_at8 {V : Nat → Nat → Int32} {t : Nat → Int32} {n : Nat} {d : Int32} {i : Nat} : dgS V t n d i 8 i = V 8 i := by rw [dgS_8, if_neg (by omega)]
theorem dgS_at9 {V : Nat → Nat → Int32} {t : Nat → Int32} {n : Nat} {d : Int32} {i : Nat} : dgS V t n d i 9 i = V 9 i := by rw [dgS_9, if_neg (by omega)]
theorem same_if {x : Int32} {f : Nat → Int32} {i : Nat} (h : f i = x) (k : Nat) : f k = if k = i then x else f k := by
  by_cases q : k = i
  · rw [if_pos q, q, h]
  · rw [if_neg q]
theorem X5_dayGoesBy_spec {V : Nat → Nat → Int32} {t : Nat → Int32} {n m : Nat} {d : Int32} (h : vq V t n m) (hd : V 0 14 = d) : nX5_dayGoesBy V = some (k_w (dgS V t n d m) 0 14 (d + 1)) := by
  obtain ⟨⟨t0, t1, v0, v1, b1, b2⟩, hp, hnd, hth⟩ := h
  unfold nX5_dayGoesBy
  rw [show ((0 : Int32), V) = (nI 0, dgS V t n d 0) from by rw [dgS_0]; rfl]
  refine it_for (fun i => (nI i, dgS V t n d i)) m (by omega) (fun i hi => ?_) ?_
  · obtain ⟨g1, g2, g3, g4, g5, g6, ⟨s, hs, es⟩, g8, ⟨q, hq, eq⟩, g10⟩ := hth i hi
    show nX5_dayGoesBy_l2 (nI i) (dgS V t n d i) = _
    unfold nX5_dayGoesBy_l2
    have hi5 : ¬ (nI i < 0 ∨ 5 ≤ i) := fun c => by
      rcases c with c | c
      · exact nI_pos (show i < 2 ^ 31 by omega) c
      · omega
    rw [dgS_o (c := 0) (by decide) (by decide), v1, if_leF hi (by omega), if_ok (show i < 5 by omega) (by decide), nI_clamp (show i < 2 ^ 31 by omega), dgS_at9, g5]
    by_cases c0 : t (10 + i) = 0
    · rw [if_pos c0, nI_1]
      have e : dgS V t n d i = dgS V t n d (i + 1) := dgS_step (fun k => same_if (by rw [dgS_at8, g4]; unfold dayH; rw [if_pos c0]) k) (fun k => same_if (by rw [dgS_at9, g5]; unfold dayP; rw [if_pos c0]) k) (fun _ _ _ => rfl)
      rw [← e]
    · have hg : nX5_goesTo (dgS V t n d i) (dgS V t n d i 5 i) (dgS V t n d i 6 i) (dgS V t n d i 8 i) (V 0 14) = some (dayX n t d i) := by
        rw [dgS_o (c := 5) (by decide) (by decide), dgS_o (c := 6) (by decide) (by decide), dgS_at8, g1, g2, g4, es, eq, hd]
        rw [X5_goesTo_spec (n := n) b1 (by rw [dgS_o (c := 0) (by decide) (by decide)]; exact v0) hq hs (fun j hj => by rw [dgS_o (c := 2) (by decide) (by decide), (hp j hj).2.1]; exact (hp j hj).2.2.2.2.1)]
        unfold dayX nxD
        rw [eq, es, nI_clamp (show q < 2 ^ 31 by omega), nI_clamp (show s < 2 ^ 31 by omega), dgS_o (c := 1) (by decide) (by decide), dgS_o (c := 2) (by decide) (by decide), dgS_o (c := 4) (by decide) (by decide), dgS_o (c := 3) (by decide) (by decide)]
        rw [cmF_congr (n := n) (kd' := fun p => t (23 + p)) (hs' := fun p => t (30 + p)) (nd' := fun j => t (37 + j)) (ct' := fun p => t (15 + p)) (fun p hp' => (hp p hp').1) (fun p hp' => (hp p hp').2.1) (fun j hj => (hnd j hj).1) (fun p hp' => (hp p hp').2.2.1) _ hs hq _]
      rw [if_neg c0, if_neg hi5, if_neg hi5, if_neg hi5, hg, b1_some]
      unfold nX5_dayGoesBy_i2_j64
      rw [if_ok (show i < 5 by omega) (by decide), nI_clamp (show i < 2 ^ 31 by omega), nI_1]
      by_cases cx : dayX n t d i = -1
      · rw [if_pos cx, if_pos cx]
        have e : k_w (dgS V t n d i) 9 i (2 : Int32) = dgS V t n d (i + 1) := dgS_step (fun k => by rw [w_ne _ _ (by decide)]; exact same_if (by rw [dgS_at8, g4]; unfold dayH; rw [if_neg c0, if_pos cx]) k) (fun k => by rw [w_eq]; unfold dayP; rw [if_neg c0, if_pos cx]; rfl) (fun c _ h9 => w_ne _ _ h9)
        rw [e]
      · rw [if_neg cx, if_neg hi5, if_neg cx, if_neg hi5]
        have e : k_w (k_w (dgS V t n d i) 9 i (0 : Int32)) 8 i (dayX n t d i) = dgS V t n d (i + 1) := dgS_step (fun k => by rw [w_eq, w_ne _ _ (by decide)]; unfold dayH; rw [if_neg c0, if_neg cx]; rfl) (fun k => by rw [w_ne _ _ (by decide), w_eq]; unfold dayP; rw [if_neg c0, if_neg cx]; rfl) (fun c h8 h9 => by rw [w_ne _ _ h8, w_ne _ _ h9])
        rw [e]
  · show nX5_dayGoesBy_l2 (nI m) (dgS V t n d m) = _
    unfold nX5_dayGoesBy_l2
    rw [dgS_o (c := 0) (by decide) (by decide), v1, if_pos (by rw [e_le (by omega) (by omega)]; exact Nat.le_refl m), hd]
    rfl
def gdS (T : Nat → Nat → Int32) (o n : Nat) (d : Int32) (i : Nat) : Nat → Nat → Int32 := k_r T o (fun j => if 5 ≤ j ∧ j < 5 + i then dayH n (T o) d (j - 5) else if 10 ≤ j ∧ j < 10 + i then dayP n (T o) d (j - 10) else T o j)
theorem gdS_at (T : Nat → Nat → Int32) (o n : Nat) (d : Int32) (i j : Nat) : gdS T o n d i o j = if 5 ≤ j ∧ j < 5 + i then dayH n (T o) d (j - 5) else if 10 ≤ j ∧ j < 10 + i then dayP n (T o) d (j - 10) else T o j := by unfold gdS; rw [r_eq]
theorem gdS_o {T : Nat → Nat → Int32} {o n : Nat} {d : Int32} {i c : Nat} (h : c ≠ o) : gdS T o n d i c = T c := r_ne _ h
theorem gdS_0 (T : Nat → Nat → Int32) (o n : Nat) (d : Int32) : gdS T o n d 0 = T := by
  funext c
  by_cases h : c = o
  · subst h; funext j; rw [gdS_at, if_neg (by omega), if_neg (by omega)]
  · rw [gdS_o h]
theorem gdS_step {T : Nat → Nat → Int32} {o n : Nat} {d : Int32} {i : Nat} (hi : i < 5) {W : Nat → Nat → Int32} (h1 : ∀ j, W o j = if j = 5 + i then dayH n (T o) d i else if j = 10 + i then dayP n (T o) d i else gdS T o n d i o j) (ho : ∀ c, c ≠ o → W c = T c) : W = gdS T o n d (i + 1) := by
  funext c
  by_cases h : c = o
  · subst h
    funext j
    rw [h1, gdS_at, gdS_at]
    by_cases q : j = 5 + i
    · subst q; rw [if_pos rfl, if_pos (by omega), Nat.add_sub_cancel_left]
    · rw [if_neg q]
      by_cases q10 : j = 10 + i
      · subst q10; rw [if_pos rfl, if_neg (by omega), if_pos (by omega), Nat.add_sub_cancel_left]
      · rw [if_neg q10]
        by_cases q2 : 5 ≤ j ∧ j < 5 + i
        · rw [if_pos q2, if_pos (by omega)]
        · rw [if_neg q2, if_neg (show ¬ (5 ≤ j ∧ j < 5 + (i + 1)) by omega)]
          by_cases q3 : 10 ≤ j ∧ j < 10 + i
          · rw [if_pos q3, if_pos (by omega)]
          · rw [if_neg q3, if_neg (by omega)]
  · rw [ho c h, gdS_o h]
theorem dayH_small {V : Nat → Nat → Int32} {t : Nat → Int32} {n m : Nat} (h : vq V t n m) (d : Int32) {k : Nat} (hk : k < m) : pz (dayH n t d k) n ∧ pz (dayP n t d k) 3 := by
  obtain ⟨-, -, -, hth⟩ := h
  obtain ⟨-, -, -, -, -, -, -, -, g9, g10⟩ := hth k hk
  unfold dayH dayP
  by_cases c0 : t (10 + k) = 0
  · rw [if_pos c0, if_pos c0]; exact ⟨g9, g10⟩
  · rw [if_neg c0, if_neg c0]
    by_cases cx : dayX n t d k = -1
    · rw [if_pos cx, if_pos cx]; exact ⟨g9, ⟨2, by decide, rfl⟩⟩
    · rw [if_neg cx, if_neg cx]
      rcases nxD_who n t (fun p => t (15 + p)) d k (t (5 + k)).toNatClampNeg with e | ⟨j, hj, -, e⟩
      · exact absurd e cx
      · exact ⟨⟨j, hj, e⟩, ⟨0, by decide, rfl⟩⟩
theorem vq_day {V : Nat → Nat → Int32} {t : Nat → Int32} {n m : Nat} (h : vq V t n m) (d x : Int32) {t' : Nat → Int32} (ht : ∀ j, j < 80 → j ≠ 22 → t' j = if 5 ≤ j ∧ j < 5 + m then dayH n t d (j - 5) else if 10 ≤ j ∧ j < 10 + m then dayP n t d (j - 10) else t j) : vq (k_w (dgS V t n d m) 0 14 x) t' n m := by
  have hs := fun k hk => dayH_small h d (k := k) hk
  obtain ⟨⟨t0, t1, v0, v1, b1, b2⟩, hp, hnd, hth⟩ := h
  have ho : ∀ j, j < 80 → j ≠ 22 → (j < 5 ∨ 15 ≤ j) → t' j = t j := by
    intro j h1 h2 h3
    rw [ht j h1 h2, if_neg (by omega), if_neg (by omega)]
  have hc : ∀ c, c ≠ 0 → c ≠ 8 → c ≠ 9 → k_w (dgS V t n d m) 0 14 x c = V c := fun c h0 h8 h9 => by rw [w_ne _ _ h0, dgS_o h8 h9]
  refine ⟨⟨?_, ?_, v0, v1, b1, b2⟩, fun p hpn => ?_, fun j hj => ?_, fun k hk => ?_⟩
  · rw [ho 0 (by decide) (by decide) (by decide)]; exact t0
  · rw [ho 1 (by decide) (by decide) (by decide)]; exact t1
  · rw [hc 1 (by decide) (by decide) (by decide), hc 2 (by decide) (by decide) (by decide), hc 3 (by decide) (by decide) (by decide), ho (23 + p) (by omega) (by omega) (by omega), ho (30 + p) (by omega) (by omega) (by omega), ho (15 + p) (by omega) (by omega) (by omega)]; exact hp p hpn
  · rw [hc 4 (by decide) (by decide) (by decide), ho (37 + j) (by omega) (by omega) (by omega)]; exact hnd j hj
  · obtain ⟨g1, g2, g3, g4, g5, g6, g7, g8, g9, g10⟩ := hth k hk
    rw [hc 5 (by decide) (by decide) (by decide), hc 6 (by decide) (by decide) (by decide), hc 7 (by decide) (by decide) (by decide), ho (65 + k) (by omega) (by omega) (by omega), ho (70 + k) (by omega) (by omega) (by omega), ho (75 + k) (by omega) (by omega) (by omega), w_ne (i := 8) _ _ (by decide), w_ne (i := 9) _ _ (by decide), dgS_8, dgS_9, if_pos hk, if_pos hk, ht (5 + k) (by omega) (by omega), ht (10 + k) (by omega) (by omega), if_pos (by omega), if_neg (by omega), if_pos (by omega), Nat.add_sub_cancel_left, Nat.add_sub_cancel_left]
    exact ⟨g1, g2, g3, rfl, rfl, g6, g7, g8, (hs k hk).1, (hs k hk).2⟩

theorem X7_layCoats_15_spec {T : Nat → Nat → Int32} {M : Nat → Nat → Int64} {n : Nat} (hn : n ≤ 7) (hT : T 15 0 = nI n) : nX7_layCoats_15 T M = some (lcF T 15 n) := by
  unfold nX7_layCoats_15
  rw [show ((0 : Int32), T) = (nI 0, lcF T 15 0) from by rw [lcF_0]; rfl]
  refine it_for (fun i => (nI i, lcF T 15 i)) n (by omega) (fun i hi => ?_) ?_
  · show nX7_layCoats_15_l2 (nI i) (lcF T 15 i) M = _
    unfold nX7_layCoats_15_l2
    rw [lcF_ne (by decide), hT, if_leF hi (by omega), show (15 : Int32) + nI i = nI (15 + i) from nI_add 15 i, if_ok (show 15 + i < 80 by omega) (by decide), if_ok (show i < 7 by omega) (by decide), nI_clamp (show 15 + i < 2 ^ 31 by omega), nI_clamp (show i < 2 ^ 31 by omega), lcF_step, nI_1]
  · show nX7_layCoats_15_l2 (nI n) (lcF T 15 n) M = _
    unfold nX7_layCoats_15_l2
    rw [lcF_ne (by decide), hT, if_pos (by rw [e_le (by omega) (by omega)]; exact Nat.le_refl n)]
    rfl

theorem X7_layCoats_17_spec {T : Nat → Nat → Int32} {M : Nat → Nat → Int64} {n : Nat} (hn : n ≤ 7) (hT : T 17 0 = nI n) : nX7_layCoats_17 T M = some (lcF T 17 n) := by
  unfold nX7_layCoats_17
  rw [show ((0 : Int32), T) = (nI 0, lcF T 17 0) from by rw [lcF_0]; rfl]
  refine it_for (fun i => (nI i, lcF T 17 i)) n (by omega) (fun i hi => ?_) ?_
  · show nX7_layCoats_17_l2 (nI i) (lcF T 17 i) M = _
    unfold nX7_layCoats_17_l2
    rw [lcF_ne (by decide), hT, if_leF hi (by omega), show (15 : Int32) + nI i = nI (15 + i) from nI_add 15 i, if_ok (show 15 + i < 140 by omega) (by decide), if_ok (show i < 7 by omega) (by decide), nI_clamp (show 15 + i < 2 ^ 31 by omega), nI_clamp (show i < 2 ^ 31 by omega), lcF_step, nI_1]
  · show nX7_layCoats_17_l2 (nI n) (lcF T 17 n) M = _
    unfold nX7_layCoats_17_l2
    rw [lcF_ne (by decide), hT, if_pos (by rw [e_le (by omega) (by omega)]; exact Nat.le_refl n)]
    rfl

theorem X7_goDay_1_spec {V T : Nat → Nat → Int32} {M : Nat → Nat → Int64} {n m : Nat} (d : Int32) (h : vq V (T 1) n m) : nX7_goDay_1 T M d = some (gdS (lcF T 1 n) 1 n d m) := by
  obtain ⟨⟨t0, t1, v0, v1, b1, b2⟩, hp, hnd, hth⟩ := h
  have el : lcF T 1 n 1 = T 1 := lcF_ne (by decide)
  unfold nX7_goDay_1
  rw [X7_layCoats_1_spec b1 t0, b1_some, show ((0 : Int32), lcF T 1 n) = (nI 0, gdS (lcF T 1 n) 1 n d 0) from by rw [gdS_0]; rfl]
  refine it_for (fun i => (nI i, gdS (lcF T 1 n) 1 n d i)) m (by omega) (fun i hi => ?_) ?_
  · obtain ⟨g1, g2, g3, g4, g5, g6, ⟨s, hs, es⟩, g8, ⟨q, hq, eq⟩, g10⟩ := hth i hi
    show nX7_goDay_1_l7 d (nI i) (gdS (lcF T 1 n) 1 n d i) M = _
    unfold nX7_goDay_1_l7
    have ho : ∀ j, (j < 5 ∨ 15 ≤ j ∨ j = 5 + i ∨ j = 10 + i) → gdS (lcF T 1 n) 1 n d i 1 j = T 1 j := by
      intro j hj
      rw [gdS_at, if_neg (by omega), if_neg (by omega), el]
    rw [ho 1 (by omega), t1, if_leF hi (by omega), show (10 : Int32) + nI i = nI (10 + i) from nI_add 10 i, show (65 : Int32) + nI i = nI (65 + i) from nI_add 65 i, show (70 : Int32) + nI i = nI (70 + i) from nI_add 70 i, show (5 : Int32) + nI i = nI (5 + i) from nI_add 5 i, if_ok (show 10 + i < 284 by omega) (by decide), nI_clamp (show 10 + i < 2 ^ 31 by omega), ho (10 + i) (by omega)]
    by_cases c0 : T 1 (10 + i) = 0
    · rw [if_pos c0, nI_1]
      have e : gdS (lcF T 1 n) 1 n d i = gdS (lcF T 1 n) 1 n d (i + 1) := by
        refine gdS_step (by omega) (fun j => ?_) (fun c hc => gdS_o hc)
        by_cases q5 : j = 5 + i
        · subst q5; rw [if_pos rfl, ho (5 + i) (by omega), el]; unfold dayH; rw [if_pos c0]
        · rw [if_neg q5]
          by_cases q6 : j = 10 + i
          · subst q6; rw [if_pos rfl, ho (10 + i) (by omega), el]; unfold dayP; rw [if_pos c0]
          · rw [if_neg q6]
      rw [← e]
    · have hg : nX7_comesTo_1 (gdS (lcF T 1 n) 1 n d i) M (T 1 (65 + i)) (T 1 (70 + i)) d (T 1 (5 + i)) = some (dayX n (T 1) d i) := by
        rw [es, eq]
        rw [X7_comesTo_1_spec (n := n) b1 (by rw [ho 0 (by omega)]; exact t0) hq hs (fun j hj => by rw [ho (30 + j) (by omega)]; exact (hp j hj).2.2.2.2.1) (fun j hj => by rw [ho (37 + j) (by omega)]; exact (hnd j hj).2) (fun j hj => by rw [gdS_o (by decide), lcF_5]; simp only [if_pos hj]; exact (hp j hj).2.2.2.2.2)]
        unfold dayX nxD
        rw [eq, es, nI_clamp (show q < 2 ^ 31 by omega), nI_clamp (show s < 2 ^ 31 by omega)]
        rw [cmF_congr (n := n) (kd' := fun p => T 1 (23 + p)) (hs' := fun p => T 1 (30 + p)) (nd' := fun j => T 1 (37 + j)) (ct' := fun p => T 1 (15 + p)) (fun p hp' => ho (23 + p) (by omega)) (fun p hp' => ho (30 + p) (by omega)) (fun j hj => ho (37 + j) (by omega)) (fun p hp' => by rw [gdS_o (by decide), lcF_5]; simp only [if_pos hp']) _ hs hq _]
      rw [if_neg c0, if_ok (show 65 + i < 284 by omega) (by decide), if_ok (show 70 + i < 284 by omega) (by decide), if_ok (show 5 + i < 284 by omega) (by decide), nI_clamp (show 65 + i < 2 ^ 31 by omega), nI_clamp (show 70 + i < 2 ^ 31 by omega), nI_clamp (show 5 + i < 2 ^ 31 by omega), ho (65 + i) (by omega), ho (70 + i) (by omega), ho (5 + i) (by omega), hg, b1_some]
      unfold nX7_goDay_1_i7_j64
      rw [show (5 : Int32) + nI i = nI (5 + i) from nI_add 5 i, if_ok (show 10 + i < 284 by omega) (by decide), nI_clamp (show 10 + i < 2 ^ 31 by omega), nI_1]
      by_cases cx : dayX n (T 1) d i = -1
      · rw [if_pos cx, if_pos cx, if_ok (show 5 + i < 284 by omega) (by decide), if_ok (show 5 + i < 284 by omega) (by decide), nI_clamp (show 5 + i < 2 ^ 31 by omega), w_off _ (show 5 + i ≠ 10 + i by omega), ho (5 + i) (by omega)]
        have e : k_w (k_w (gdS (lcF T 1 n) 1 n d i) 1 (10 + i) (2 : Int32)) 1 (5 + i) (T 1 (5 + i)) = gdS (lcF T 1 n) 1 n d (i + 1) := by
          refine gdS_step (by omega) (fun j => ?_) (fun c hc => by rw [w_ne _ _ hc, w_ne _ _ hc, gdS_o hc])
          rw [w_eq, w_eq, el]
          unfold dayH dayP
          rw [if_neg c0, if_pos cx, if_neg c0, if_pos cx]
          rfl
        rw [e]
      · rw [if_neg cx, if_neg (show ¬ (nI (10 + i) < 0 ∨ 284 ≤ 10 + i) from fun c => by rcases c with c | c; exact nI_pos (show 10 + i < 2 ^ 31 by omega) c; omega), if_neg cx, if_ok (show 5 + i < 284 by omega) (by decide), nI_clamp (show 5 + i < 2 ^ 31 by omega)]
        have e : k_w (k_w (gdS (lcF T 1 n) 1 n d i) 1 (10 + i) (0 : Int32)) 1 (5 + i) (dayX n (T 1) d i) = gdS (lcF T 1 n) 1 n d (i + 1) := by
          refine gdS_step (by omega) (fun j => ?_) (fun c hc => by rw [w_ne _ _ hc, w_ne _ _ hc, gdS_o hc])
          rw [w_eq, w_eq, el]
          unfold dayH dayP
          rw [if_neg c0, if_neg cx, if_neg c0, if_neg cx]
          rfl
        rw [e]
  · show nX7_goDay_1_l7 d (nI m) (gdS (lcF T 1 n) 1 n d m) M = _
    unfold nX7_goDay_1_l7
    rw [show gdS (lcF T 1 n) 1 n d m 1 1 = nI m from by rw [gdS_at, if_neg (by omega), if_neg (by omega), el]; exact t1, if_pos (by rw [e_le (by omega) (by omega)]; exact Nat.le_refl m)]
    rfl

theorem X7_goDay_15_spec {V T : Nat → Nat → Int32} {M : Nat → Nat → Int64} {n m : Nat} (d : Int32) (h : vq V (T 15) n m) : nX7_goDay_15 T M d = some (gdS (lcF T 15 n) 15 n d m) := by
  obtain ⟨⟨t0, t1, v0, v1, b1, b2⟩, hp, hnd, hth⟩ := h
  have el : lcF T 15 n 15 = T 15 := lcF_ne (by decide)
  unfold nX7_goDay_15
  rw [X7_layCoats_15_spec b1 t0, b1_some, show ((0 : Int32), lcF T 15 n) = (nI 0, gdS (lcF T 15 n) 15 n d 0) from by rw [gdS_0]; rfl]
  refine it_for (fun i => (nI i, gdS (lcF T 15 n) 15 n d i)) m (by omega) (fun i hi => ?_) ?_
  · obtain ⟨g1, g2, g3, g4, g5, g6, ⟨s, hs, es⟩, g8, ⟨q, hq, eq⟩, g10⟩ := hth i hi
    show nX7_goDay_15_l7 d (nI i) (gdS (lcF T 15 n) 15 n d i) M = _
    unfold nX7_goDay_15_l7
    have ho : ∀ j, (j < 5 ∨ 15 ≤ j ∨ j = 5 + i ∨ j = 10 + i) → gdS (lcF T 15 n) 15 n d i 15 j = T 15 j := by
      intro j hj
      rw [gdS_at, if_neg (by omega), if_neg (by omega), el]
    rw [ho 1 (by omega), t1, if_leF hi (by omega), show (10 : Int32) + nI i = nI (10 + i) from nI_add 10 i, show (65 : Int32) + nI i = nI (65 + i) from nI_add 65 i, show (70 : Int32) + nI i = nI (70 + i) from nI_add 70 i, show (5 : Int32) + nI i = nI (5 + i) from nI_add 5 i, if_ok (show 10 + i < 80 by omega) (by decide), nI_clamp (show 10 + i < 2 ^ 31 by omega), ho (10 + i) (by omega)]
    by_cases c0 : T 15 (10 + i) = 0
    · rw [if_pos c0, nI_1]
      have e : gdS (lcF T 15 n) 15 n d i = gdS (lcF T 15 n) 15 n d (i + 1) := by
        refine gdS_step (by omega) (fun j => ?_) (fun c hc => gdS_o hc)
        by_cases q5 : j = 5 + i
        · subst q5; rw [if_pos rfl, ho (5 + i) (by omega), el]; unfold dayH; rw [if_pos c0]
        · rw [if_neg q5]
          by_cases q6 : j = 10 + i
          · subst q6; rw [if_pos rfl, ho (10 + i) (by omega), el]; unfold dayP; rw [if_pos c0]
          · rw [if_neg q6]
      rw [← e]
    · have hg : nX7_comesTo_15 (gdS (lcF T 15 n) 15 n d i) M (T 15 (65 + i)) (T 15 (70 + i)) d (T 15 (5 + i)) = some (dayX n (T 15) d i) := by
        rw [es, eq]
        rw [X7_comesTo_15_spec (n := n) b1 (by rw [ho 0 (by omega)]; exact t0) hq hs (fun j hj => by rw [ho (30 + j) (by omega)]; exact (hp j hj).2.2.2.2.1) (fun j hj => by rw [ho (37 + j) (by omega)]; exact (hnd j hj).2) (fun j hj => by rw [gdS_o (by decide), lcF_5]; simp only [if_pos hj]; exact (hp j hj).2.2.2.2.2)]
        unfold dayX nxD
        rw [eq, es, nI_clamp (show q < 2 ^ 31 by omega), nI_clamp (show s < 2 ^ 31 by omega)]
        rw [cmF_congr (n := n) (kd' := fun p => T 15 (23 + p)) (hs' := fun p => T 15 (30 + p)) (nd' := fun j => T 15 (37 + j)) (ct' := fun p => T 15 (15 + p)) (fun p hp' => ho (23 + p) (by omega)) (fun p hp' => ho (30 + p) (by omega)) (fun j hj => ho (37 + j) (by omega)) (fun p hp' => by rw [gdS_o (by decide), lcF_5]; simp only [if_pos hp']) _ hs hq _]
      rw [if_neg c0, if_ok (show 65 + i < 80 by omega) (by decide), if_ok (show 70 + i < 80 by omega) (by decide), if_ok (show 5 + i < 80 by omega) (by decide), nI_clamp (show 65 + i < 2 ^ 31 by omega), nI_clamp (show 70 + i < 2 ^ 31 by omega), nI_clamp (show 5 + i < 2 ^ 31 by omega), ho (65 + i) (by omega), ho (70 + i) (by omega), ho (5 + i) (by omega), hg, b1_some]
      unfold nX7_goDay_15_i7_j64
      rw [show (5 : Int32) + nI i = nI (5 + i) from nI_add 5 i, if_ok (show 10 + i < 80 by omega) (by decide), nI_clamp (show 10 + i < 2 ^ 31 by omega), nI_1]
      by_cases cx : dayX n (T 15) d i = -1
      · rw [if_pos cx, if_pos cx, if_ok (show 5 + i < 80 by omega) (by decide), if_ok (show 5 + i < 80 by omega) (by decide), nI_clamp (show 5 + i < 2 ^ 31 by omega), w_off _ (show 5 + i ≠ 10 + i by omega), ho (5 + i) (by omega)]
        have e : k_w (k_w (gdS (lcF T 15 n) 15 n d i) 15 (10 + i) (2 : Int32)) 15 (5 + i) (T 15 (5 + i)) = gdS (lcF T 15 n) 15 n d (i + 1) := by
          refine gdS_step (by omega) (fun j => ?_) (fun c hc => by rw [w_ne _ _ hc, w_ne _ _ hc, gdS_o hc])
          rw [w_eq, w_eq, el]
          unfold dayH dayP
          rw [if_neg c0, if_pos cx, if_neg c0, if_pos cx]
          rfl
        rw [e]
      · rw [if_neg cx, if_neg (show ¬ (nI (10 + i) < 0 ∨ 80 ≤ 10 + i) from fun c => by rcases c with c | c; exact nI_pos (show 10 + i < 2 ^ 31 by omega) c; omega), if_neg cx, if_ok (show 5 + i < 80 by omega) (by decide), nI_clamp (show 5 + i < 2 ^ 31 by omega)]
        have e : k_w (k_w (gdS (lcF T 15 n) 15 n d i) 15 (10 + i) (0 : Int32)) 15 (5 + i) (dayX n (T 15) d i) = gdS (lcF T 15 n) 15 n d (i + 1) := by
          refine gdS_step (by omega) (fun j => ?_) (fun c hc => by rw [w_ne _ _ hc, w_ne _ _ hc, gdS_o hc])
          rw [w_eq, w_eq, el]
          unfold dayH dayP
          rw [if_neg c0, if_neg cx, if_neg c0, if_neg cx]
          rfl
        rw [e]
  · show nX7_goDay_15_l7 d (nI m) (gdS (lcF T 15 n) 15 n d m) M = _
    unfold nX7_goDay_15_l7
    rw [show gdS (lcF T 15 n) 15 n d m 15 1 = nI m from by rw [gdS_at, if_neg (by omega), if_neg (by omega), el]; exact t1, if_pos (by rw [e_le (by omega) (by omega)]; exact Nat.le_refl m)]
    rfl

theorem X7_goDay_17_spec {V T : Nat → Nat → Int32} {M : Nat → Nat → Int64} {n m : Nat} (d : Int32) (h : vq V (T 17) n m) : nX7_goDay_17 T M d = some (gdS (lcF T 17 n) 17 n d m) := by
  obtain ⟨⟨t0, t1, v0, v1, b1, b2⟩, hp, hnd, hth⟩ := h
  have el : lcF T 17 n 17 = T 17 := lcF_ne (by decide)
  unfold nX7_goDay_17
  rw [X7_layCoats_17_spec b1 t0, b1_some, show ((0 : Int32), lcF T 17 n) = (nI 0, gdS (lcF T 17 n) 17 n d 0) from by rw [gdS_0]; rfl]
  refine it_for (fun i => (nI i, gdS (lcF T 17 n) 17 n d i)) m (by omega) (fun i hi => ?_) ?_
  · obtain ⟨g1, g2, g3, g4, g5, g6, ⟨s, hs, es⟩, g8, ⟨q, hq, eq⟩, g10⟩ := hth i hi
    show nX7_goDay_17_l7 d (nI i) (gdS (lcF T 17 n) 17 n d i) M = _
    unfold nX7_goDay_17_l7
    have ho : ∀ j, (j < 5 ∨ 15 ≤ j ∨ j = 5 + i ∨ j = 10 + i) → gdS (lcF T 17 n) 17 n d i 17 j = T 17 j := by
      intro j hj
      rw [gdS_at, if_neg (by omega), if_neg (by omega), el]
    rw [ho 1 (by omega), t1, if_leF hi (by omega), show (10 : Int32) + nI i = nI (10 + i) from nI_add 10 i, show (65 : Int32) + nI i = nI (65 + i) from nI_add 65 i, show (70 : Int32) + nI i = nI (70 + i) from nI_add 70 i, show (5 : Int32) + nI i = nI (5 + i) from nI_add 5 i, if_ok (show 10 + i < 140 by omega) (by decide), nI_clamp (show 10 + i < 2 ^ 31 by omega), ho (10 + i) (by omega)]
    by_cases c0 : T 17 (10 + i) = 0
    · rw [if_pos c0, nI_1]
      have e : gdS (lcF T 17 n) 17 n d i = gdS (lcF T 17 n) 17 n d (i + 1) := by
        refine gdS_step (by omega) (fun j => ?_) (fun c hc => gdS_o hc)
        by_cases q5 : j = 5 + i
        · subst q5; rw [if_pos rfl, ho (5 + i) (by omega), el]; unfold dayH; rw [if_pos c0]
        · rw [if_neg q5]
          by_cases q6 : j = 10 + i
          · subst q6; rw [if_pos rfl, ho (10 + i) (by omega), el]; unfold dayP; rw [if_pos c0]
          · rw [if_neg q6]
      rw [← e]
    · have hg : nX7_comesTo_17 (gdS (lcF T 17 n) 17 n d i) M (T 17 (65 + i)) (T 17 (70 + i)) d (T 17 (5 + i)) = some (dayX n (T 17) d i) := by
        rw [es, eq]
        rw [X7_comesTo_17_spec (n := n) b1 (by rw [ho 0 (by omega)]; exact t0) hq hs (fun j hj => by rw [ho (30 + j) (by omega)]; exact (hp j hj).2.2.2.2.1) (fun j hj => by rw [ho (37 + j) (by omega)]; exact (hnd j hj).2) (fun j hj => by rw [gdS_o (by decide), lcF_5]; simp only [if_pos hj]; exact (hp j hj).2.2.2.2.2)]
        unfold dayX nxD
        rw [eq, es, nI_clamp (show q < 2 ^ 31 by omega), nI_clamp (show s < 2 ^ 31 by omega)]
        rw [cmF_congr (n := n) (kd' := fun p => T 17 (23 + p)) (hs' := fun p => T 17 (30 + p)) (nd' := fun j => T 17 (37 + j)) (ct' := fun p => T 17 (15 + p)) (fun p hp' => ho (23 + p) (by omega)) (fun p hp' => ho (30 + p) (by omega)) (fun j hj => ho (37 + j) (by omega)) (fun p hp' => by rw [gdS_o (by decide), lcF_5]; simp only [if_pos hp']) _ hs hq _]
      rw [if_neg c0, if_ok (show 65 + i < 140 by omega) (by decide), if_ok (show 70 + i < 140 by omega) (by decide), if_ok (show 5 + i < 140 by omega) (by decide), nI_clamp (show 65 + i < 2 ^ 31 by omega), nI_clamp (show 70 + i < 2 ^ 31 by omega), nI_clamp (show 5 + i < 2 ^ 31 by omega), ho (65 + i) (by omega), ho (70 + i) (by omega), ho (5 + i) (by omega), hg, b1_some]
      unfold nX7_goDay_17_i7_j64
      rw [show (5 : Int32) + nI i = nI (5 + i) from nI_add 5 i, if_ok (show 10 + i < 140 by omega) (by decide), nI_clamp (show 10 + i < 2 ^ 31 by omega), nI_1]
      by_cases cx : dayX n (T 17) d i = -1
      · rw [if_pos cx, if_pos cx, if_ok (show 5 + i < 140 by omega) (by decide), if_ok (show 5 + i < 140 by omega) (by decide), nI_clamp (show 5 + i < 2 ^ 31 by omega), w_off _ (show 5 + i ≠ 10 + i by omega), ho (5 + i) (by omega)]
        have e : k_w (k_w (gdS (lcF T 17 n) 17 n d i) 17 (10 + i) (2 : Int32)) 17 (5 + i) (T 17 (5 + i)) = gdS (lcF T 17 n) 17 n d (i + 1) := by
          refine gdS_step (by omega) (fun j => ?_) (fun c hc => by rw [w_ne _ _ hc, w_ne _ _ hc, gdS_o hc])
          rw [w_eq, w_eq, el]
          unfold dayH dayP
          rw [if_neg c0, if_pos cx, if_neg c0, if_pos cx]
          rfl
        rw [e]
      · rw [if_neg cx, if_neg (show ¬ (nI (10 + i) < 0 ∨ 140 ≤ 10 + i) from fun c => by rcases c with c | c; exact nI_pos (show 10 + i < 2 ^ 31 by omega) c; omega), if_neg cx, if_ok (show 5 + i < 140 by omega) (by decide), nI_clamp (show 5 + i < 2 ^ 31 by omega)]
        have e : k_w (k_w (gdS (lcF T 17 n) 17 n d i) 17 (10 + i) (0 : Int32)) 17 (5 + i) (dayX n (T 17) d i) = gdS (lcF T 17 n) 17 n d (i + 1) := by
          refine gdS_step (by omega) (fun j => ?_) (fun c hc => by rw [w_ne _ _ hc, w_ne _ _ hc, gdS_o hc])
          rw [w_eq, w_eq, el]
          unfold dayH dayP
          rw [if_neg c0, if_neg cx, if_neg c0, if_neg cx]
          rfl
        rw [e]
  · show nX7_goDay_17_l7 d (nI m) (gdS (lcF T 17 n) 17 n d m) M = _
    unfold nX7_goDay_17_l7
    rw [show gdS (lcF T 17 n) 17 n d m 17 1 = nI m from by rw [gdS_at, if_neg (by omega), if_neg (by omega), el]; exact t1, if_pos (by rw [e_le (by omega) (by omega)]; exact Nat.le_refl m)]
    rfl
