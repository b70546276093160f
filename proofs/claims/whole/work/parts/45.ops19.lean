/-! two who put on coats -/
theorem d6 {x : Nat} (h : x < 36) : nI x / 6 = nI (x / 6) ∧ nI x - nI x / 6 * 6 = nI (x % 6) := by
  have hh : ∀ x : Fin 36, nI x.val / 6 = nI (x.val / 6) ∧ nI x.val - nI x.val / 6 * 6 = nI (x.val % 6) := by decide +kernel
  exact hh ⟨x, h⟩
def cwF (f : Nat → Int32) (p q x : Nat) : Nat → Int32 := fun j => if j = q then nI (x % 6) else if j = p then nI (x / 6) else f j
def cwW (f : Nat → Int32) (p q x : Nat) : Nat → Int32 := if x = 0 then f else cwF f p q (x - 1)
theorem cwW_s (f : Nat → Int32) (p q x : Nat) : upd (upd (cwW f p q x) p (nI (x / 6))) q (nI (x % 6)) = cwW f p q (x + 1) := by
  funext j
  unfold cwW
  rw [if_neg (Nat.succ_ne_zero x), Nat.add_sub_cancel]
  show (if j = q then nI (x % 6) else if j = p then nI (x / 6) else (if x = 0 then f else cwF f p q (x - 1)) j) = if j = q then nI (x % 6) else if j = p then nI (x / 6) else f j
  by_cases c1 : j = q
  · rw [if_pos c1, if_pos c1]
  · rw [if_neg c1, if_neg c1]
    by_cases c2 : j = p
    · rw [if_pos c2, if_pos c2]
    · rw [if_neg c2, if_neg c2]
      by_cases h0 : x = 0
      · rw [if_pos h0]
      · rw [if_neg h0]
        show (if j = q then _ else if j = p then _ else f j) = f j
        rw [if_neg c1, if_neg c2]
/-- whom it comes to, at the pair x of coats -/
def cpN (n : Nat) (t : Nat → Int32) (k h p q x : Nat) : Int32 := nxF n t (cwF (fun j => t (15 + j)) p q x) k h
def seS (S0 : Nat → Nat → Int32) (N : Nat → Int32) (p q x : Nat) : Nat → Nat → Int32 := fun c => if c = 78 then (fun i => if i < x then N i else S0 78 i) else if c = 20 then cwW (S0 20) p q x else S0 c
theorem seS_78 (S0 : Nat → Nat → Int32) (N : Nat → Int32) (p q x i : Nat) : seS S0 N p q x 78 i = if i < x then N i else S0 78 i := rfl
theorem seS_20 (S0 : Nat → Nat → Int32) (N : Nat → Int32) (p q x : Nat) : seS S0 N p q x 20 = cwW (S0 20) p q x := rfl
theorem seS_o {S0 : Nat → Nat → Int32} {N : Nat → Int32} {p q x c : Nat} (h1 : c ≠ 78) (h2 : c ≠ 20) : seS S0 N p q x c = S0 c := by unfold seS; rw [if_neg h1, if_neg h2]
theorem seS_0 (S0 : Nat → Nat → Int32) (N : Nat → Int32) (p q : Nat) : seS S0 N p q 0 = S0 := by
  funext c
  by_cases h : c = 78
  · subst h; funext i; rw [seS_78, if_neg (Nat.not_lt_zero i)]
  · by_cases h2 : c = 20
    · subst h2; rw [seS_20]; rfl
    · rw [seS_o h h2]
theorem seS_mid (S0 : Nat → Nat → Int32) (N : Nat → Int32) (p q x c : Nat) (h : c ≠ 78) : k_w (k_w (seS S0 N p q x) 20 p (nI (x / 6))) 20 q (nI (x % 6)) c = seS S0 N p q (x + 1) c := by
  by_cases h2 : c = 20
  · subst h2
    rw [w_eq, w_eq, seS_20, seS_20, cwW_s]
  · rw [w_ne _ _ h2, w_ne _ _ h2, seS_o h h2, seS_o h h2]
theorem seS_s (S0 : Nat → Nat → Int32) (N : Nat → Int32) (p q x : Nat) : k_w (k_w (k_w (seS S0 N p q x) 20 p (nI (x / 6))) 20 q (nI (x % 6))) 78 x (N x) = seS S0 N p q (x + 1) := by
  funext c
  by_cases h : c = 78
  · subst h
    rw [w_eq, w_ne _ _ (by decide), w_ne _ _ (by decide)]
    funext i
    show (if i = x then N x else seS S0 N p q x 78 i) = seS S0 N p q (x + 1) 78 i
    rw [seS_78, seS_78]
    by_cases c1 : i = x
    · subst c1; rw [if_pos rfl, if_pos (by omega)]
    · rw [if_neg c1]
      by_cases c2 : i < x
      · rw [if_pos c2, if_pos (by omega)]
      · rw [if_neg c2, if_neg (by omega)]
  · rw [w_ne _ _ h, seS_mid S0 N p q x c h]
theorem X6_see_spec {S : Nat → Nat → Int32} {L : Nat → Nat → Int64} {t : Nat → Int32} {n m un uc up d k h p q : Nat} (hv : vr (k_wi S 1) t n m un uc up d 9999) (hk : k < m) (hh : t (5 + k) = nI h) (hhn : h < n) (hp : p < n) (hq : q < n) : nX6_seeWhoGetsIt S L (nI k) (nI p) (nI q) = some (seS (k_sp S 17 16 (cpV (k_wi S 17) (k_wi S 1))) (cpN n t k h p q) p q 36) := by
  obtain ⟨S0, hS0⟩ : ∃ S0, S0 = k_sp S 17 16 (cpV (k_wi S 17) (k_wi S 1)) := ⟨_, rfl⟩
  rw [← hS0]
  have hv17 : ∀ i, i < 16 → S0 (17 + i) = cpV (k_wi S 17) (k_wi S 1) i := fun i hi => by rw [hS0, sp_in (by omega) (by omega), Nat.add_sub_cancel_left]
  have hvc := vr_copy (W := k_wi S 17) hv
  obtain ⟨⟨t0, t1, t2, t3, t4, t22⟩, ⟨b1, b2, b3, b4, b5, b6⟩, ⟨w0, w1, w2, w3, w4, w5⟩, hp', hnd', hth', -⟩ := hvc
  obtain ⟨g1, g2, g3, g4, -, -, gs, -⟩ := hth' k hk
  unfold nX6_seeWhoGetsIt
  rw [X5_copyOf_spec, b1_some, ← hS0, show ((0 : Int32), S0) = (nI 0, seS S0 (cpN n t k h p q) p q 0) from by rw [seS_0]; rfl]
  refine it_for (fun i => (nI i, seS S0 (cpN n t k h p q) p q i)) 36 (by decide) (fun x hx => ?_) ?_
  · show nX6_seeWhoGetsIt_l14 (nI k) (nI p) (nI q) (nI x) (seS S0 (cpN n t k h p q) p q x) L = _
    unfold nX6_seeWhoGetsIt_l14
    obtain ⟨e1, e2⟩ := d6 hx
    have e25 : k_w (k_w (seS S0 (cpN n t k h p q) p q x) 20 p (nI (x / 6))) 20 q (nI (x % 6)) 25 k = nI h := by
      rw [seS_mid _ _ _ _ _ _ (by decide), seS_o (by decide) (by decide), show (25 : Nat) = 17 + 8 from rfl, hv17 8 (by decide), g4, hh]
    have hw : ∀ c, c < 16 → c ≠ 3 → k_wi (k_w (k_w (seS S0 (cpN n t k h p q) p q x) 20 p (nI (x / 6))) 20 q (nI (x % 6))) 17 c = cpV (k_wi S 17) (k_wi S 1) c := by
      intro c hc h3
      rw [wi_at, seS_mid _ _ _ _ _ _ (by omega), seS_o (by omega) (by omega), hv17 c hc]
    have hnx : nX5_nextOf (k_wi (k_w (k_w (seS S0 (cpN n t k h p q) p q x) 20 p (nI (x / 6))) 20 q (nI (x % 6))) 17) (nI k) (nI h) = some (cpN n t k h p q x) := by
      refine X5_nextOf_spec b1 (by omega) hhn (by rw [hw 0 (by decide) (by decide)]; exact w0) (fun y hy => by rw [hw 1 (by decide) (by decide)]; exact (hp' y hy).1) (fun y hy => by rw [hw 2 (by decide) (by decide)]; exact (hp' y hy).2.1) (fun y hy => ?_) (fun y hy => by rw [hw 4 (by decide) (by decide)]; exact (hnd' y hy).1) (by rw [hw 5 (by decide) (by decide)]; exact g1) (by rw [hw 6 (by decide) (by decide)]; exact g2) (by rw [hw 0 (by decide) (by decide), w5, t22]) (fun y hy => (hp' y hy).2.2.2.2.1) gs
      show k_w (k_w (seS S0 (cpN n t k h p q) p q x) 20 p (nI (x / 6))) 20 q (nI (x % 6)) 20 y = _
      rw [seS_mid _ _ _ _ _ _ (by decide), seS_20]
      unfold cwW
      rw [if_neg (Nat.succ_ne_zero x), Nat.add_sub_cancel]
      unfold cwF
      by_cases c1 : y = q
      · rw [if_pos c1, if_pos c1]
      · rw [if_neg c1, if_neg c1]
        by_cases c2 : y = p
        · rw [if_pos c2, if_pos c2]
        · rw [if_neg c2, if_neg c2, show (20 : Nat) = 17 + 3 from rfl, hv17 3 (by decide)]
          exact (hp' y hy).2.2.1
    rw [show (36 : Int32) = nI 36 from rfl, if_leF hx (by decide), if_ok (show p < 7 by omega) (by decide), if_ok (show q < 7 by omega) (by decide), if_ok (show k < 5 by omega) (by decide), nI_clamp (show p < 2 ^ 31 by omega), nI_clamp (show q < 2 ^ 31 by omega), nI_clamp (show k < 2 ^ 31 by omega), e2, e1, e25, hnx, b1_some, if_ok hx (by decide), nI_clamp (show x < 2 ^ 31 by omega), seS_s, nI_1]
  · show nX6_seeWhoGetsIt_l14 (nI k) (nI p) (nI q) (nI 36) (seS S0 (cpN n t k h p q) p q 36) L = _
    unfold nX6_seeWhoGetsIt_l14
    rw [if_pos (by decide)]
    rfl
/-- what the two get out of it -/
def hiF (N : Nat → Int32) (p i : Nat) : Int32 := (if N i = nI p then (-6 : Int32) else 0) - nI (i / 6)
def thF (N : Nat → Int32) (q i : Nat) : Int32 := (if N i = nI q then (-6 : Int32) else 0) - nI (i % 6)
def laS (T0 : Nat → Nat → Int32) (N : Nat → Int32) (p q x : Nat) : Nat → Nat → Int32 := fun c => if c = 11 then (fun i => if i < x then hiF N p i else T0 11 i) else if c = 12 then (fun i => if i < x then thF N q i else T0 12 i) else if c = 5 then cwW (T0 5) p q x else T0 c
theorem laS_11 (T0 : Nat → Nat → Int32) (N : Nat → Int32) (p q x i : Nat) : laS T0 N p q x 11 i = if i < x then hiF N p i else T0 11 i := rfl
theorem laS_12 (T0 : Nat → Nat → Int32) (N : Nat → Int32) (p q x i : Nat) : laS T0 N p q x 12 i = if i < x then thF N q i else T0 12 i := rfl
theorem laS_5 (T0 : Nat → Nat → Int32) (N : Nat → Int32) (p q x : Nat) : laS T0 N p q x 5 = cwW (T0 5) p q x := rfl
theorem laS_o {T0 : Nat → Nat → Int32} {N : Nat → Int32} {p q x c : Nat} (h1 : c ≠ 11) (h2 : c ≠ 12) (h3 : c ≠ 5) : laS T0 N p q x c = T0 c := by unfold laS; rw [if_neg h1, if_neg h2, if_neg h3]
theorem laS_0 (T0 : Nat → Nat → Int32) (N : Nat → Int32) (p q : Nat) : laS T0 N p q 0 = T0 := by
  funext c
  by_cases h : c = 11
  · subst h; funext i; rw [laS_11, if_neg (Nat.not_lt_zero i)]
  · by_cases h2 : c = 12
    · subst h2; funext i; rw [laS_12, if_neg (Nat.not_lt_zero i)]
    · by_cases h3 : c = 5
      · subst h3; rw [laS_5]; rfl
      · rw [laS_o h h2 h3]
theorem laS_mid (T0 : Nat → Nat → Int32) (N : Nat → Int32) (p q x c : Nat) (h : c ≠ 11) (h' : c ≠ 12) : k_w (k_w (laS T0 N p q x) 5 p (nI (x / 6))) 5 q (nI (x % 6)) c = laS T0 N p q (x + 1) c := by
  by_cases h2 : c = 5
  · subst h2
    rw [w_eq, w_eq, laS_5, laS_5, cwW_s]
  · rw [w_ne _ _ h2, w_ne _ _ h2, laS_o h h' h2, laS_o h h' h2]
theorem laS_s (T0 : Nat → Nat → Int32) (N : Nat → Int32) (p q x : Nat) : k_w (k_w (k_w (k_w (laS T0 N p q x) 5 p (nI (x / 6))) 5 q (nI (x % 6))) 11 x (hiF N p x)) 12 x (thF N q x) = laS T0 N p q (x + 1) := by
  funext c
  by_cases h : c = 12
  · subst h
    rw [w_eq, w_ne _ _ (by decide), w_ne _ _ (by decide), w_ne _ _ (by decide)]
    funext i
    show (if i = x then thF N q x else laS T0 N p q x 12 i) = laS T0 N p q (x + 1) 12 i
    rw [laS_12, laS_12]
    by_cases c1 : i = x
    · subst c1; rw [if_pos rfl, if_pos (by omega)]
    · rw [if_neg c1]
      by_cases c2 : i < x
      · rw [if_pos c2, if_pos (by omega)]
      · rw [if_neg c2, if_neg (by omega)]
  · rw [w_ne _ _ h]
    by_cases h1 : c = 11
    · subst h1
      rw [w_eq, w_ne _ _ (by decide), w_ne _ _ (by decide)]
      funext i
      show (if i = x then hiF N p x else laS T0 N p q x 11 i) = laS T0 N p q (x + 1) 11 i
      rw [laS_11, laS_11]
      by_cases c1 : i = x
      · subst c1; rw [if_pos rfl, if_pos (by omega)]
      · rw [if_neg c1]
        by_cases c2 : i < x
        · rw [if_pos c2, if_pos (by omega)]
        · rw [if_neg c2, if_neg (by omega)]
    · rw [w_ne _ _ h1, laS_mid T0 N p q x c h1 h]
theorem X7_layPairs_spec {V T : Nat → Nat → Int32} {M : Nat → Nat → Int64} {n m un uc up d k h p q : Nat} (hv : vr V (T 1) n m un uc up d 9999) (hk : k < m) (hh : T 1 (5 + k) = nI h) (hhn : h < n) (hp : p < n) (hq : q < n) : nX7_layPairs T M (nI k) (nI p) (nI q) = some (laS (lcF T 1 n) (cpN n (T 1) k h p q) p q 36) := by
  obtain ⟨⟨t0, t1, t2, t3, t4, t22⟩, ⟨b1, b2, b3, b4, b5, b6⟩, -, hp', hnd', hth', -⟩ := hv
  obtain ⟨g1, g2, g3, g4, -, -, gs, -⟩ := hth' k hk
  unfold nX7_layPairs
  rw [X7_layCoats_1_spec b1 t0, b1_some, show ((0 : Int32), lcF T 1 n) = (nI 0, laS (lcF T 1 n) (cpN n (T 1) k h p q) p q 0) from by rw [laS_0]; rfl]
  refine it_for (fun i => (nI i, laS (lcF T 1 n) (cpN n (T 1) k h p q) p q i)) 36 (by decide) (fun x hx => ?_) ?_
  · show nX7_layPairs_l11 (nI k) (nI p) (nI q) (nI x) (laS (lcF T 1 n) (cpN n (T 1) k h p q) p q x) M = _
    unfold nX7_layPairs_l11 nX7_layPairs_i11_j73 nX7_layPairs_i11_j98
    obtain ⟨e1, e2⟩ := d6 hx
    have em1 : k_w (k_w (laS (lcF T 1 n) (cpN n (T 1) k h p q) p q x) 5 p (nI (x / 6))) 5 q (nI (x % 6)) 1 = T 1 := by
      rw [laS_mid _ _ _ _ _ _ (by decide) (by decide), laS_o (by decide) (by decide) (by decide), lcF_ne (by decide)]
    have em5 : ∀ y, y < n → k_w (k_w (laS (lcF T 1 n) (cpN n (T 1) k h p q) p q x) 5 p (nI (x / 6))) 5 q (nI (x % 6)) 5 y = cwF (fun j => T 1 (15 + j)) p q x y := by
      intro y hy
      rw [laS_mid _ _ _ _ _ _ (by decide) (by decide), laS_5]
      unfold cwW
      rw [if_neg (Nat.succ_ne_zero x), Nat.add_sub_cancel]
      unfold cwF
      by_cases c1 : y = q
      · rw [if_pos c1, if_pos c1]
      · rw [if_neg c1, if_neg c1]
        by_cases c2 : y = p
        · rw [if_pos c2, if_pos c2]
        · rw [if_neg c2, if_neg c2, lcF_5]
          simp only [if_pos hy]
    have hnx : nX7_comesNow (k_w (k_w (laS (lcF T 1 n) (cpN n (T 1) k h p q) p q x) 5 p (nI (x / 6))) 5 q (nI (x % 6))) M (nI k) (nI h) = some (cpN n (T 1) k h p q x) := by
      rw [X7_comesNow_spec b1 (by omega) hhn (by rw [em1]; exact t0) (fun y hy => by rw [em1]; exact (hp' y hy).2.2.2.2.1) (fun y hy => by rw [em1]; exact (hnd' y hy).2) (fun y hy => by
        rw [em5 y hy]
        unfold cwF
        by_cases c1 : y = q
        · rw [if_pos c1]; exact z_nI (by omega)
        · rw [if_neg c1]
          by_cases c2 : y = p
          · rw [if_pos c2]; exact z_nI (by omega)
          · rw [if_neg c2]; exact (hp' y hy).2.2.2.2.2) (by rw [em1]; exact gs), em1]
      rw [nxF_congr gs hhn em5]
      rfl
    rw [show (36 : Int32) = nI 36 from rfl, if_leF hx (by decide), if_ok (show p < 7 by omega) (by decide), if_ok (show q < 7 by omega) (by decide), show (5 : Int32) + nI k = nI (5 + k) from nI_add 5 k, if_ok (show 5 + k < 284 by omega) (by decide), nI_clamp (show p < 2 ^ 31 by omega), nI_clamp (show q < 2 ^ 31 by omega), nI_clamp (show 5 + k < 2 ^ 31 by omega), e2, e1, em1, hh, hnx, b1_some]
    have hx36 : ¬ (nI x < 0 ∨ 36 ≤ (nI x).toNatClampNeg) := nI_in hx (by decide)
    rw [← laS_s, nI_1 x]
    unfold hiF thF
    by_cases c1 : cpN n (T 1) k h p q x = nI p
    · rw [if_pos c1, if_neg hx36, nI_clamp (show x < 2 ^ 31 by omega)]
      by_cases c2 : cpN n (T 1) k h p q x = nI q
      · simp only [if_pos c1, if_pos c2, if_neg (show ¬ (nI x < 0 ∨ 36 ≤ x) from fun c => by rcases c with c | c; exact nI_pos (show x < 2 ^ 31 by omega) c; omega)]
      · simp only [if_pos c1, if_neg c2, if_neg (show ¬ (nI x < 0 ∨ 36 ≤ x) from fun c => by rcases c with c | c; exact nI_pos (show x < 2 ^ 31 by omega) c; omega)]
    · rw [if_neg c1, if_neg hx36, nI_clamp (show x < 2 ^ 31 by omega)]
      by_cases c2 : cpN n (T 1) k h p q x = nI q
      · simp only [if_neg c1, if_pos c2, if_neg (show ¬ (nI x < 0 ∨ 36 ≤ x) from fun c => by rcases c with c | c; exact nI_pos (show x < 2 ^ 31 by omega) c; omega)]
      · simp only [if_neg c1, if_neg c2, if_neg (show ¬ (nI x < 0 ∨ 36 ≤ x) from fun c => by rcases c with c | c; exact nI_pos (show x < 2 ^ 31 by omega) c; omega)]
  · show nX7_layPairs_l11 (nI k) (nI p) (nI q) (nI 36) (laS (lcF T 1 n) (cpN n (T 1) k h p q) p q 36) M = _
    unfold nX7_layPairs_l11
    rw [if_pos (by decide)]
    rfl
