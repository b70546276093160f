/-! what was before is kept: up to eight -/
def kpB (V : Nat → Nat → Int32) (up : Nat) : Nat → Int32 := if up = 8 then (fun j => if j < 126 then V 15 (18 + j) else V 15 j) else V 15
def kpU (up : Nat) : Nat := if up = 8 then 7 else up
def kpV (V : Nat → Nat → Int32) (x : Nat) : Int32 := if x = 0 then V 0 14 else if x < 8 then V 3 (x - 1) else if (x - 8) % 2 = 0 then V 8 ((x - 8) / 2) else V 9 ((x - 8) / 2)
def kpS (V : Nat → Nat → Int32) (u : Nat) (B : Nat → Int32) (i : Nat) : Nat → Nat → Int32 := fun c => if c = 15 then (fun j => if 18 * u ≤ j ∧ j < 18 * u + i then kpV V (j - 18 * u) else B j) else if c = 14 then upd (V 14) 3 (nI (u + 1)) else V c
theorem kpU_lt {up : Nat} (h : up ≤ 8) : kpU up < 8 := by
  unfold kpU
  by_cases q : up = 8
  · rw [if_pos q]; decide
  · rw [if_neg q]; omega
theorem kpS_15 (V : Nat → Nat → Int32) (u : Nat) (B : Nat → Int32) (i : Nat) : kpS V u B i 15 = fun j => if 18 * u ≤ j ∧ j < 18 * u + i then kpV V (j - 18 * u) else B j := rfl
theorem kpS_14 (V : Nat → Nat → Int32) (u : Nat) (B : Nat → Int32) (i : Nat) : kpS V u B i 14 = upd (V 14) 3 (nI (u + 1)) := rfl
theorem kpS_o {V : Nat → Nat → Int32} {u : Nat} {B : Nat → Int32} {i c : Nat} (h1 : c ≠ 15) (h2 : c ≠ 14) : kpS V u B i c = V c := by
  unfold kpS
  rw [if_neg h1, if_neg h2]
theorem kpS_step {V : Nat → Nat → Int32} {u : Nat} {B : Nat → Int32} {i : Nat} {x : Int32} (hx : x = kpV V i) : k_w (kpS V u B i) 15 (18 * u + i) x = kpS V u B (i + 1) := by
  funext c
  by_cases h : c = 15
  · subst h
    rw [w_eq, kpS_15, kpS_15]
    funext j
    show (if j = 18 * u + i then x else if 18 * u ≤ j ∧ j < 18 * u + i then kpV V (j - 18 * u) else B j) = if 18 * u ≤ j ∧ j < 18 * u + (i + 1) then kpV V (j - 18 * u) else B j
    by_cases q : j = 18 * u + i
    · rw [if_pos q, if_pos (by omega), hx, q, Nat.add_sub_cancel_left]
    · rw [if_neg q]
      by_cases q2 : 18 * u ≤ j ∧ j < 18 * u + i
      · rw [if_pos q2, if_pos (by omega)]
      · rw [if_neg q2, if_neg (by omega)]
  · rw [w_ne _ _ h]
    unfold kpS
    rw [if_neg h, if_neg h]
theorem put_spec {S : Nat → Nat → Int32} {u x : Nat} (h : S 14 3 = nI (u + 1)) (hu : u < 8) (hx : x < 18) (v : Int32) : nX3_put 144 (18 : Int32) (8 : Int32) (k_wi S 14) (nI x) v = some (k_w (k_wi S 14) 1 (18 * u + x) v) := by
  have e0 : k_wi S 14 0 3 = nI (u + 1) := h
  have e : ((k_wi S 14 0 3 - (1 : Int32)) * (18 : Int32)) + nI x = nI (18 * u + x) := by
    rw [e0, show (1 : Int32) = nI 1 from rfl, pk_sub (by omega), Nat.add_sub_cancel, show (18 : Int32) = nI 18 from rfl, pk_mul, nI_add, Nat.mul_comm u 18]
  unfold nX3_put
  rw [e, if_neg (nI_pos (by omega)), show (Int32.ofNat 144) = nI 144 from rfl, if_leF (by omega) (by decide), if_ok (show 18 * u + x < 144 by omega) (by decide), nI_clamp (by omega)]
theorem sp_put (S : Nat → Nat → Int32) (j : Nat) (v : Int32) : k_sp S 14 2 (k_w (k_wi S 14) 1 j v) = k_w S 15 j v := by
  funext c
  by_cases h : 14 ≤ c ∧ c < 14 + 2
  · rw [sp_in h.1 h.2]
    rcases (show c = 14 ∨ c = 15 by omega) with rfl | rfl
    · exact (w_ne (S := k_wi S 14) (c := 1) (i := 0) j v (by decide)).trans (w_ne (S := S) (c := 15) (i := 14) j v (by decide)).symm
    · exact (w_eq (k_wi S 14) 1 j v).trans (w_eq S 15 j v).symm
  · rw [sp_out (by omega), w_ne _ _ (by omega)]
theorem put_kp {V : Nat → Nat → Int32} {u : Nat} {B : Nat → Int32} (i : Nat) (hu : u < 8) (hi : i < 18) {x : Int32} {y : Int32} (hy : y = nI i) : nX3_put 144 (18 : Int32) (8 : Int32) (k_wi (kpS V u B i) 14) y x = some (k_w (k_wi (kpS V u B i) 14) 1 (18 * u + i) x) := by
  rw [hy, put_spec (S := kpS V u B i) (u := u) (by rw [kpS_14]; rfl) hu hi x]
theorem put_sp {V : Nat → Nat → Int32} {u : Nat} {B : Nat → Int32} {i : Nat} {x : Int32} (hx : x = kpV V i) : k_sp (kpS V u B i) 14 2 (k_w (k_wi (kpS V u B i) 14) 1 (18 * u + i) x) = kpS V u B (i + 1) := by
  rw [sp_put, kpS_step hx]
theorem X5_keepPast_j17_spec {V : Nat → Nat → Int32} {u : Nat} {B : Nat → Int32} (hu : u < 8) (h14 : V 14 3 = nI u) (hB : V 15 = B) : nX5_keepPast_j17 V = some (kpS V u B 18) := by
  have hbeg : nX3_begin 144 (18 : Int32) (8 : Int32) (k_wi V 14) = some (k_w (k_wi V 14) 0 3 (nI (u + 1))) := by
    have e0 : k_wi V 14 0 3 = nI u := h14
    unfold nX3_begin
    rw [e0, show (8 : Int32) = nI 8 from rfl, if_leF hu (by decide), nI_1]
  have hs0 : k_sp V 14 2 (k_w (k_wi V 14) 0 3 (nI (u + 1))) = kpS V u B 0 := by
    funext c
    by_cases h : 14 ≤ c ∧ c < 14 + 2
    · rw [sp_in h.1 h.2]
      rcases (show c = 14 ∨ c = 15 by omega) with rfl | rfl
      · rw [kpS_14]
        exact w_eq _ _ _ _
      · rw [kpS_15]
        funext j
        rw [if_neg (by omega), ← hB]
        rfl
    · rw [sp_out (by omega), kpS_o (by omega) (by omega)]
  unfold nX5_keepPast_j17
  rw [hbeg, b1_some, hs0]
  rw [put_kp 0 (y := (0 : Int32)) hu (by decide) rfl, b1_some, put_sp (by unfold kpV; rw [if_pos rfl, kpS_o (by decide) (by decide)])]
  refine it_for (fun i => (nI i, kpS V u B (1 + i))) 7 (by decide) (fun i hi => ?_) ?_
  · show nX5_keepPast_l38 (nI i) (kpS V u B (1 + i)) = _
    unfold nX5_keepPast_l38
    rw [show (7 : Int32) = nI 7 from rfl, if_leF hi (by decide), show (7 : Nat) = 7 from rfl, if_ok hi (by decide), nI_clamp (by omega)]
    rw [put_kp (1 + i) (y := (1 : Int32) + nI i) hu (by omega) (nI_add 1 i), b1_some, put_sp (by unfold kpV; rw [if_neg (by omega), if_pos (by omega), kpS_o (by decide) (by decide), Nat.add_sub_cancel_left]), nI_1]
    rfl
  · show nX5_keepPast_l38 (nI 7) (kpS V u B (1 + 7)) = _
    unfold nX5_keepPast_l38
    rw [if_pos (by decide)]
    have hl : k_it (fun st => nX5_keepPast_l68 st.1 st.2) 1000 ((0 : Int32), kpS V u B (1 + 7)) = some (kpS V u B 18) := by
      refine it_for (fun i => (nI i, kpS V u B (8 + 2 * i))) 5 (by decide) (fun i hi => ?_) ?_
      · show nX5_keepPast_l68 (nI i) (kpS V u B (8 + 2 * i)) = _
        unfold nX5_keepPast_l68
        have e2 : (2 : Int32) * nI i = nI (2 * i) := by rw [show (2 : Int32) = nI 2 from rfl, pk_mul]
        rw [show (5 : Int32) = nI 5 from rfl, if_leF hi (by decide), if_ok hi (by decide), nI_clamp (by omega), e2]
        rw [put_kp (8 + 2 * i) (y := (8 : Int32) + nI (2 * i)) hu (by omega) (nI_add 8 (2 * i)), b1_some, put_sp (by unfold kpV; rw [if_neg (by omega), if_neg (by omega), if_pos (by omega), kpS_o (by decide) (by decide), show (8 + 2 * i - 8) / 2 = i by omega])]
        rw [if_neg (show ¬ (nI i < 0 ∨ 5 ≤ i) from fun q => by rcases q with q | q; exact nI_pos (show i < 2 ^ 31 by omega) q; omega)]
        rw [put_kp (8 + 2 * i + 1) (y := (9 : Int32) + nI (2 * i)) hu (by omega) (by rw [show (9 : Int32) = nI 9 from rfl, nI_add]; exact congrArg nI (by omega)), b1_some, put_sp (by unfold kpV; rw [if_neg (by omega), if_neg (by omega), if_neg (by omega), kpS_o (by decide) (by decide), show (8 + 2 * i + 1 - 8) / 2 = i by omega]), nI_1]
        rfl
      · show nX5_keepPast_l68 (nI 5) (kpS V u B (8 + 2 * 5)) = _
        unfold nX5_keepPast_l68
        rw [if_pos (by decide)]
        rfl
    rw [hl]; rfl
theorem X5_keepPast_spec {V : Nat → Nat → Int32} {up : Nat} (hu : up ≤ 8) (h14 : V 14 3 = nI up) : nX5_keepPast V = some (kpS V (kpU up) (kpB V up) 18) := by
  have e0 : k_wi V 14 0 3 = nI up := h14
  unfold nX5_keepPast nX3_isFull
  by_cases q : up = 8
  · subst q
    rw [if_neg (by rw [e0]; decide), b1_some, if_neg (by decide)]
    unfold nX3_dropFirst
    rw [if_neg (by rw [e0]; decide), if_neg (by decide), b1_some]
    have hk : ∀ (Z : Nat → Nat → Int32), Z 14 3 = nI 7 → (∀ c, c ≠ 14 → c ≠ 15 → Z c = V c) → (∀ j, j ≠ 3 → Z 14 j = V 14 j) → (∀ j, Z 15 j = kpB V 8 j) → nX5_keepPast_j17 Z = some (kpS V (kpU 8) (kpB V 8) 18) := by
      intro Z z1 z2 z3 z4
      rw [X5_keepPast_j17_spec (u := 7) (B := kpB V 8) (by decide) z1 (funext z4)]
      have e : kpS Z 7 (kpB V 8) 18 = kpS V 7 (kpB V 8) 18 := by
        funext c
        unfold kpS
        by_cases h : c = 15
        · rw [if_pos h, if_pos h]
          funext j
          unfold kpV
          rw [z2 0 (by decide) (by decide), z2 3 (by decide) (by decide), z2 8 (by decide) (by decide), z2 9 (by decide) (by decide)]
        · rw [if_neg h, if_neg h]
          by_cases h2 : c = 14
          · rw [if_pos h2, if_pos h2]
            funext j
            unfold upd
            by_cases h3 : j = 3
            · rw [if_pos h3, if_pos h3]
            · rw [if_neg h3, if_neg h3, z3 j h3]
          · rw [if_neg h2, if_neg h2, z2 c h2 h]
      rw [e]; rfl
    refine hk _ ?_ (fun c h1 h2 => sp_out (by omega)) (fun j hj => ?_) (fun j => ?_)
    · rw [sp_in (by decide) (by decide)]
      show k_r (k_wi V 14) 1 _ 0 3 - 1 = nI 7
      rw [r_ne _ (by decide), e0]
      decide
    · rw [sp_in (by decide) (by decide)]
      show (if j = 3 then _ else k_r (k_wi V 14) 1 _ 0 j) = V 14 j
      rw [if_neg hj, r_ne _ (by decide)]
      rfl
    · rw [sp_in (by decide) (by decide)]
      refine Eq.trans (show _ = va_cpy (V 15) (V 15) ((18 : Int32).toNatClampNeg) ((0 : Int32).toNatClampNeg) (((Int32.ofNat 144) - (18 : Int32)).toNatClampNeg) j from rfl) ?_
      unfold kpB
      rw [if_pos rfl]
      unfold va_cpy
      have e1 : (0 : Int32).toNatClampNeg = 0 := by decide
      have e2 : ((Int32.ofNat 144) - (18 : Int32)).toNatClampNeg = 126 := by decide
      have e3 : (18 : Int32).toNatClampNeg = 18 := by decide
      rw [e1, e2, e3]
      by_cases c : j < 126
      · rw [if_pos (show 0 ≤ j ∧ j < 0 + 126 from by omega), if_pos c]
        rfl
      · rw [if_neg (show ¬ (0 ≤ j ∧ j < 0 + 126) from by omega), if_neg c]
  · have hu8 : up < 8 := by omega
    rw [if_pos (show k_wi V 14 0 3 < (8 : Int32) from by rw [e0]; exact (nI_ltI (show up < 2 ^ 31 by omega) (show 8 < 2 ^ 31 by decide)).mpr hu8), b1_some, if_pos rfl]
    have e1 : kpU up = up := if_neg q
    have e2 : kpB V up = V 15 := if_neg q
    rw [e1, e2]
    exact X5_keepPast_j17_spec hu8 h14 rfl
/-! the reference keeps it -/
def keF (t : Nat → Int32) (up : Nat) : Nat → Int32 := fun j => if j = 4 then nI (kpU up + 1) else if 140 + 18 * kpU up ≤ j ∧ j < 140 + 18 * kpU up + 18 then t (5 + (j - (140 + 18 * kpU up))) else if up = 8 ∧ 140 ≤ j ∧ j < 266 then t (18 + j) else t j
def keA (T : Nat → Nat → Int32) (i : Nat) : Nat → Nat → Int32 := k_r T 1 (fun j => if 140 ≤ j ∧ j < 140 + i then T 1 (18 + j) else T 1 j)
theorem keA_0 (T : Nat → Nat → Int32) : keA T 0 = T := by
  funext c
  unfold keA k_r
  by_cases h : c = 1
  · rw [if_pos h, h]; funext p; rw [if_neg (by omega)]
  · rw [if_neg h]
theorem keA_1 (T : Nat → Nat → Int32) (i j : Nat) : keA T i 1 j = if 140 ≤ j ∧ j < 140 + i then T 1 (18 + j) else T 1 j := by unfold keA; rw [r_eq]
theorem keA_step (T : Nat → Nat → Int32) (i : Nat) : k_w (keA T i) 1 (140 + i) (T 1 (158 + i)) = keA T (i + 1) := by
  funext c
  by_cases h : c = 1
  · subst h
    rw [w_eq]
    funext j
    show (if j = 140 + i then T 1 (158 + i) else keA T i 1 j) = keA T (i + 1) 1 j
    rw [keA_1, keA_1]
    by_cases q : j = 140 + i
    · subst q; rw [if_pos rfl, if_pos (by omega), show 18 + (140 + i) = 158 + i by omega]
    · rw [if_neg q]
      by_cases q2 : 140 ≤ j ∧ j < 140 + i
      · rw [if_pos q2, if_pos (by omega)]
      · rw [if_neg q2, if_neg (by omega)]
  · unfold keA
    rw [w_ne _ _ h, r_ne _ h, r_ne _ h]
def keC (T : Nat → Nat → Int32) (u i : Nat) : Nat → Nat → Int32 := k_r T 1 (fun j => if 140 + 18 * u ≤ j ∧ j < 140 + 18 * u + i then T 1 (5 + (j - (140 + 18 * u))) else T 1 j)
theorem keC_0 (T : Nat → Nat → Int32) (u : Nat) : keC T u 0 = T := by
  funext c
  unfold keC k_r
  by_cases h : c = 1
  · rw [if_pos h, h]; funext p; rw [if_neg (by omega)]
  · rw [if_neg h]
theorem keC_1 (T : Nat → Nat → Int32) (u i j : Nat) : keC T u i 1 j = if 140 + 18 * u ≤ j ∧ j < 140 + 18 * u + i then T 1 (5 + (j - (140 + 18 * u))) else T 1 j := by unfold keC; rw [r_eq]
theorem keC_step (T : Nat → Nat → Int32) (u i : Nat) : k_w (keC T u i) 1 (140 + 18 * u + i) (T 1 (5 + i)) = keC T u (i + 1) := by
  funext c
  by_cases h : c = 1
  · subst h
    rw [w_eq]
    funext j
    show (if j = 140 + 18 * u + i then T 1 (5 + i) else keC T u i 1 j) = keC T u (i + 1) 1 j
    rw [keC_1, keC_1]
    by_cases q : j = 140 + 18 * u + i
    · subst q; rw [if_pos rfl, if_pos (by omega), Nat.add_sub_cancel_left]
    · rw [if_neg q]
      by_cases q2 : 140 + 18 * u ≤ j ∧ j < 140 + 18 * u + i
      · rw [if_pos q2, if_pos (by omega)]
      · rw [if_neg q2, if_neg (by omega)]
  · unfold keC
    rw [w_ne _ _ h, r_ne _ h, r_ne _ h]
theorem X7_keep_l55_spec {T : Nat → Nat → Int32} {M : Nat → Nat → Int64} {u : Nat} (hu : u < 8) (hT : T 1 4 = nI u) : k_it (fun st => nX7_keep_l55 st.1 st.2 M) 1000 ((0 : Int32), T) = some (k_w (keC T u 18) 1 4 (nI (u + 1))) := by
  rw [show ((0 : Int32), T) = (nI 0, keC T u 0) from by rw [keC_0]; rfl]
  have e4 : ∀ i, keC T u i 1 4 = nI u := fun i => by rw [keC_1, if_neg (by omega), hT]
  refine it_for (fun i => (nI i, keC T u i)) 18 (by decide) (fun i hi => ?_) ?_
  · show nX7_keep_l55 (nI i) (keC T u i) M = _
    unfold nX7_keep_l55
    have e1 : (5 : Int32) + nI i = nI (5 + i) := nI_add 5 i
    have e2 : ((140 : Int32) + ((18 : Int32) * nI u)) + nI i = nI (140 + 18 * u + i) := by
      rw [show (18 : Int32) = nI 18 from rfl, pk_mul, show (140 : Int32) = nI 140 from rfl, nI_add, nI_add]
    rw [e4, e1, e2, show (18 : Int32) = nI 18 from rfl, if_leF hi (by decide), if_ok (show 5 + i < 284 by omega) (by decide), if_ok (show 140 + 18 * u + i < 284 by omega) (by decide), nI_clamp (by omega), nI_clamp (by omega), nI_1, keC_1 T u i (5 + i), if_neg (by omega), keC_step]
  · show nX7_keep_l55 (nI 18) (keC T u 18) M = _
    unfold nX7_keep_l55
    rw [if_pos (by decide), e4, nI_1]
    rfl
theorem X7_keep_spec {T : Nat → Nat → Int32} {M : Nat → Nat → Int64} {up : Nat} (hu : up ≤ 8) (hT : T 1 4 = nI up) : ∃ Z : Nat → Nat → Int32, nX7_keep T M = some Z ∧ (∀ j, Z 1 j = keF (T 1) up j) ∧ ∀ c, c ≠ 1 → Z c = T c := by
  unfold nX7_keep
  by_cases q : up = 8
  · subst q
    rw [if_pos (show T 1 4 = 8 from hT)]
    have hw : k_it (fun st => nX7_keep_l13 st.1 st.2 M) 1000 ((0 : Int32), T) = some (k_w (keC (k_w (keA T 126) 1 4 (nI 7)) 7 18) 1 4 (nI 8)) := by
      rw [show ((0 : Int32), T) = (nI 0, keA T 0) from by rw [keA_0]; rfl]
      refine it_for (fun i => (nI i, keA T i)) 126 (by decide) (fun i hi => ?_) ?_
      · show nX7_keep_l13 (nI i) (keA T i) M = _
        unfold nX7_keep_l13
        rw [show (126 : Int32) = nI 126 from rfl, if_leF hi (by decide), show (158 : Int32) + nI i = nI (158 + i) from nI_add 158 i, show (140 : Int32) + nI i = nI (140 + i) from nI_add 140 i, if_ok (show 158 + i < 284 by omega) (by decide), if_ok (show 140 + i < 284 by omega) (by decide), nI_clamp (by omega), nI_clamp (by omega), keA_1, if_neg (by omega), keA_step, nI_1]
      · show nX7_keep_l13 (nI 126) (keA T 126) M = _
        unfold nX7_keep_l13
        rw [if_pos (by decide), show (7 : Int32) = nI 7 from rfl, X7_keep_l55_spec (u := 7) (by decide) (by rw [w_at])]
        rfl
    refine ⟨_, hw, fun j => ?_, fun c hc => ?_⟩
    · show (if j = 4 then nI 8 else keC _ 7 18 1 j) = keF (T 1) 8 j
      unfold keF
      by_cases q4 : j = 4
      · rw [if_pos q4, if_pos q4]; rfl
      · rw [if_neg q4, if_neg q4, keC_1, show kpU 8 = 7 from rfl]
        by_cases q5 : 140 + 18 * 7 ≤ j ∧ j < 140 + 18 * 7 + 18
        · rw [if_pos q5, if_pos q5, w_off _ (by omega), keA_1, if_neg (by omega)]
        · rw [if_neg q5, if_neg q5, w_off _ q4, keA_1]
          by_cases q6 : 140 ≤ j ∧ j < 140 + 126
          · rw [if_pos q6, if_pos (by omega)]
          · rw [if_neg q6, if_neg (by omega)]
    · unfold keC keA
      rw [w_ne _ _ hc, r_ne _ hc, w_ne _ _ hc, r_ne _ hc]
  · rw [if_neg (show ¬ T 1 4 = 8 from by rw [hT]; exact fun h => q ((nI_eq (show up < 2 ^ 31 by omega) (show 8 < 2 ^ 31 by decide)).mp h)), X7_keep_l55_spec (u := up) (by omega) hT]
    refine ⟨_, rfl, fun j => ?_, fun c hc => ?_⟩
    · show (if j = 4 then nI (up + 1) else keC _ up 18 1 j) = keF (T 1) up j
      unfold keF
      rw [show kpU up = up from if_neg q]
      by_cases q4 : j = 4
      · rw [if_pos q4, if_pos q4]
      · rw [if_neg q4, if_neg q4, keC_1]
        by_cases q5 : 140 + 18 * up ≤ j ∧ j < 140 + 18 * up + 18
        · rw [if_pos q5, if_pos q5]
        · rw [if_neg q5, if_neg q5, if_neg (fun h => q h.1)]
    · unfold keC
      rw [w_ne _ _ hc, r_ne _ hc]
theorem vr_keep {V : Nat → Nat → Int32} {t : Nat → Int32} {n m un uc up d : Nat} (h : vr V t n m un uc up d 9999) {t' : Nat → Int32} (ht : ∀ j, t' j = keF t up j) : vr (kpS V (kpU up) (kpB V up) 18) t' n m un uc (kpU up + 1) d 9999 := by
  obtain ⟨⟨t0, t1, t2, t3, t4, t22⟩, ⟨b1, b2, b3, b4, b5, b6⟩, ⟨v0, v1, v2, v3, v4, v5⟩, hp, hnd, hth, hno, hca, hcq, hpa⟩ := h
  have hu := kpU_lt b5
  have ho : ∀ j, j ≠ 4 → j < 140 → t' j = t j := by
    intro j q1 q2
    rw [ht]
    unfold keF
    rw [if_neg q1, if_neg (by omega), if_neg (by omega)]
  have hc : ∀ c, c ≠ 15 → c ≠ 14 → kpS V (kpU up) (kpB V up) 18 c = V c := fun c h1 h2 => kpS_o h1 h2
  refine ⟨⟨?_, ?_, ?_, ?_, ?_, ?_⟩, ⟨b1, b2, b3, b4, by omega, b6⟩, ⟨?_, ?_, ?_, ?_, ?_, ?_⟩, fun p hpn => ?_, fun j hj => ?_, fun k hk => ?_, fun j hj => ?_, fun j hj => ?_, fun i hi => ?_, fun i hi => ?_⟩
  · rw [ho 0 (by decide) (by decide)]; exact t0
  · rw [ho 1 (by decide) (by decide)]; exact t1
  · rw [ho 2 (by decide) (by decide)]; exact t2
  · rw [ho 3 (by decide) (by decide)]; exact t3
  · rw [ht]; unfold keF; rw [if_pos rfl]
  · rw [ho 22 (by decide) (by decide)]; exact t22
  · rw [hc 0 (by decide) (by decide)]; exact v0
  · rw [hc 0 (by decide) (by decide)]; exact v1
  · rw [hc 10 (by decide) (by decide)]; exact v2
  · rw [hc 12 (by decide) (by decide)]; exact v3
  · rw [kpS_14]; rfl
  · rw [hc 0 (by decide) (by decide)]; exact v5
  · rw [hc 1 (by decide) (by decide), hc 2 (by decide) (by decide), hc 3 (by decide) (by decide), ho (23 + p) (by omega) (by omega), ho (30 + p) (by omega) (by omega), ho (15 + p) (by omega) (by omega)]; exact hp p hpn
  · rw [hc 4 (by decide) (by decide), ho (37 + j) (by omega) (by omega)]; exact hnd j hj
  · rw [hc 5 (by decide) (by decide), hc 6 (by decide) (by decide), hc 7 (by decide) (by decide), hc 8 (by decide) (by decide), hc 9 (by decide) (by decide), ho (65 + k) (by omega) (by omega), ho (70 + k) (by omega) (by omega), ho (75 + k) (by omega) (by omega), ho (5 + k) (by omega) (by omega), ho (10 + k) (by omega) (by omega)]; exact hth k hk
  · rw [hc 11 (by decide) (by decide), ho (80 + j) (by omega) (by omega)]; exact hno j hj
  · rw [hc 13 (by decide) (by decide), ho (116 + j) (by omega) (by omega)]; exact hca j hj
  · rw [ho (116 + 4 * i + 1) (by omega) (by omega)]; exact hcq i hi
  · by_cases q : i = kpU up
    · have e1 : ∀ x, x < 18 → kpS V (kpU up) (kpB V up) 18 15 (18 * i + x) = kpV V x := by
        intro x hx
        rw [kpS_15, q]
        show (if 18 * kpU up ≤ 18 * kpU up + x ∧ 18 * kpU up + x < 18 * kpU up + 18 then kpV V (18 * kpU up + x - 18 * kpU up) else _) = _
        rw [if_pos (by omega), Nat.add_sub_cancel_left]
      have e2 : ∀ x, x < 18 → t' (140 + 18 * i + x) = t (5 + x) := by
        intro x hx
        rw [ht, q]
        unfold keF
        rw [if_neg (by omega), if_pos (by omega), Nat.add_sub_cancel_left]
      refine ⟨?_, ?_, fun p hpn => ?_, fun k hk => ?_⟩
      · have := e1 0 (by decide)
        rw [Nat.add_zero] at this
        rw [this, e2 17 (by decide)]
        show V 0 14 = t 22
        rw [v5, t22]
      · rw [e2 17 (by decide), show 5 + 17 = 22 from rfl, t22]
        exact z_nI (by omega)
      · rw [show 18 * i + 1 + p = 18 * i + (1 + p) by omega, e1 (1 + p) (by omega), show 140 + 18 * i + 10 + p = 140 + 18 * i + (10 + p) by omega, e2 (10 + p) (by omega), show 5 + (10 + p) = 15 + p by omega]
        unfold kpV
        rw [if_neg (by omega), if_pos (by omega), Nat.add_sub_cancel_left]
        exact ⟨(hp p hpn).2.2.1, (hp p hpn).2.2.2.2.2⟩
      · rw [show 18 * i + 8 + 2 * k = 18 * i + (8 + 2 * k) by omega, e1 (8 + 2 * k) (by omega), show 18 * i + 9 + 2 * k = 18 * i + (9 + 2 * k) by omega, e1 (9 + 2 * k) (by omega), e2 k (by omega), show 140 + 18 * i + 5 + k = 140 + 18 * i + (5 + k) by omega, e2 (5 + k) (by omega), show 5 + (5 + k) = 10 + k by omega]
        unfold kpV
        rw [if_neg (by omega), if_neg (by omega), if_pos (by omega), if_neg (by omega), if_neg (by omega), if_neg (by omega), show (8 + 2 * k - 8) / 2 = k by omega, show (9 + 2 * k - 8) / 2 = k by omega]
        obtain ⟨-, -, -, g4, g5, -, -, -, g9, g10⟩ := hth k hk
        exact ⟨g4, g5, g9, g10⟩
    · have hlt : i < kpU up := by omega
      have hup : kpU up ≤ up ∧ (up = 8 → kpU up = 7) ∧ (up ≠ 8 → kpU up = up) := by
        unfold kpU
        by_cases c : up = 8
        · rw [if_pos c]; omega
        · rw [if_neg c]; omega
      have hs : ∃ i', i' < up ∧ (∀ x, x < 18 → kpS V (kpU up) (kpB V up) 18 15 (18 * i + x) = V 15 (18 * i' + x)) ∧ ∀ x, x < 18 → t' (140 + 18 * i + x) = t (140 + 18 * i' + x) := by
        by_cases c : up = 8
        · refine ⟨i + 1, by omega, fun x hx => ?_, fun x hx => ?_⟩
          · rw [kpS_15]
            show (if 18 * kpU up ≤ 18 * i + x ∧ 18 * i + x < 18 * kpU up + 18 then _ else kpB V up (18 * i + x)) = _
            rw [if_neg (by omega)]
            unfold kpB
            rw [if_pos c]
            show (if 18 * i + x < 126 then V 15 (18 + (18 * i + x)) else _) = _
            rw [if_pos (by omega)]
            exact congrArg (V 15) (by omega)
          · rw [ht]
            unfold keF
            rw [if_neg (by omega), if_neg (by omega), if_pos (by omega)]
            exact congrArg t (by omega)
        · refine ⟨i, by omega, fun x hx => ?_, fun x hx => ?_⟩
          · rw [kpS_15]
            show (if 18 * kpU up ≤ 18 * i + x ∧ 18 * i + x < 18 * kpU up + 18 then _ else kpB V up (18 * i + x)) = _
            rw [if_neg (by omega)]
            unfold kpB
            rw [if_neg c]
          · rw [ht]
            unfold keF
            rw [if_neg (by omega), if_neg (by omega), if_neg (by omega)]
      obtain ⟨i', hi', f1, f2⟩ := hs
      obtain ⟨q1, q2, q3, q4⟩ := hpa i' hi'
      refine ⟨?_, ?_, fun p hpn => ?_, fun k hk => ?_⟩
      · have := f1 0 (by decide)
        rw [Nat.add_zero, Nat.add_zero] at this
        rw [this, f2 17 (by decide)]; exact q1
      · rw [f2 17 (by decide)]; exact q2
      · rw [show 18 * i + 1 + p = 18 * i + (1 + p) by omega, f1 (1 + p) (by omega), show 140 + 18 * i + 10 + p = 140 + 18 * i + (10 + p) by omega, f2 (10 + p) (by omega), show 18 * i' + (1 + p) = 18 * i' + 1 + p by omega, show 140 + 18 * i' + (10 + p) = 140 + 18 * i' + 10 + p by omega]
        exact q3 p hpn
      · rw [show 18 * i + 8 + 2 * k = 18 * i + (8 + 2 * k) by omega, f1 (8 + 2 * k) (by omega), show 18 * i + 9 + 2 * k = 18 * i + (9 + 2 * k) by omega, f1 (9 + 2 * k) (by omega), f2 k (by omega), show 140 + 18 * i + 5 + k = 140 + 18 * i + (5 + k) by omega, f2 (5 + k) (by omega), show 18 * i' + (8 + 2 * k) = 18 * i' + 8 + 2 * k by omega, show 18 * i' + (9 + 2 * k) = 18 * i' + 9 + 2 * k by omega, show 140 + 18 * i' + (5 + k) = 140 + 18 * i' + 5 + k by omega]
        exact q4 k hk
