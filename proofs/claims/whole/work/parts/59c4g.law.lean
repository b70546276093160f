set_option maxHeartbeats 8000000 in
set_option maxRecDepth 100000 in
theorem law_loop (R : (Nat → Nat → Int32) → (Nat → Nat → Int64) → (Nat → Nat → Int32) → (Nat → Nat → Int64) → Prop) (hO : k_Ops R) {p : Program} {l : Launch} {e : Env} {s : State} {m : MethodId} {below : List Frame} {meth : Method} {c : Code} {D : va_G} {cs : Nat → ClassId} {a b adK adV : Nat → Nat} {zt : Option Nat} {b0 L0 : Nat} {xs : Nat → Int32} (hL : L0 ≤ 448) (C0 : lw_At p s m meth c b0 L0 xs) (hK : va_K D vwCl (k_tys cs) s) (hNn : k_N s) (hT : k_T adK adV zt (fun q : Nat => s.heap.size ≤ q) s) (hDA : ∀ (S : Nat → Nat → Int32) (L : Nat → Nat → Int64) (T : Nat → Nat → Int32) (M : Nat → Nat → Int64), va_D (fun q : Nat => s.heap.size ≤ q) (wX6 cs a S L ++ wX7 cs b T M)) : ∀ (n i : Nat) (S : Nat → Nat → Int32) (L : Nat → Nat → Int64) (T : Nat → Nat → Int32) (M : Nat → Nat → Int64), i ≤ L0 → L0 + 1 ≤ i + n → R S L T M → ∀ (H : Heap) (locs : List Loc) (ls : Array Slot), lv_has ls 4 [(0, .ref b0), (1, .ref (a 0)), (2, .ref (b 0)), (3, .int (nI i))] → va_P D vwCl (wX6 cs a S L ++ wX7 cs b T M) H → va_S (fun q : Nat => s.heap.size ≤ q) s.heap H locs → W p l e room_1 s m #[Value.ref b0] below meth c H locs 98 2895 (lw_Z below #[Value.ref b0] s) (F0 m 18 ls []) := by
  have C1 := C0
  obtain ⟨hx, hb, hr, hml, hown, hts0, hX, hbl, hlocks, hgv⟩ := C0
  have hts : ∀ w ∈ wsL_law, w.before #[Value.ref b0] s = true := fun w h => hts0 w (wsL_law_in w h)
  have hA : ∀ q : Nat, s.heap.size ≤ q → (fun q : Nat => s.heap.size ≤ q) q := fun _ h => h
  have hbA : ¬ (fun q : Nat => s.heap.size ≤ q) b0 := Nat.not_le.mpr hbl
  intro n
  induction n with
  | zero => intro i S L T M h1 h2; exact absurd h2 (by omega)
  | succ n ih =>
    intro i S L T M hi hin hR H locs ls hl hP hS
    refine lv_iload_n hx hb dL_law_18 rfl (lv_at hl 3 rfl) ?_
    refine lv_aload_n hx hb dL_law_19 rfl (lv_at hl 0 rfl) ?_
    refine va_slen hx hb hX hbl hbA hS dL_law_20 ?_
    refine lv_bipush (v := (7 : Int32)) hx hb dL_law_21 (by decide) ?_
    refine lv_isub hx hb dL_law_23 ?_
    have hcmp : nI L0 - (7 : Int32) < nI i ↔ L0 < i + 7 := by
      rw [Int32.lt_iff_toInt_lt, show (7 : Int32) = nI 7 from rfl, pk_sub_toInt (by omega) (by decide), nI_toInt (by omega)]
      omega
    refine lv_icmp_gt (tgt := 1356) hx hb dL_law_24 (by decide) (fun cg => ?_) (fun cg => ?_)
    · refine lv_iconst (v := (1 : Int32)) hx hb dL_law_1356 (by decide) ?_
      refine va_forget (fun q hq => hS.2.2 q hq) ?_
      refine W.widen (k := 600000) (n := 7302250) (by decide) (by decide) ?_
      exact lw_ret hx hb hr hlocks dL_law_1357
    · have hi7 : i + 7 ≤ L0 := by
        have cg : ¬ nI L0 - (7 : Int32) < nI i := cg
        rw [hcmp] at cg
        omega
      have hv0 : vp_in (nI i) L0 := vp_in_nI (by omega) (by omega)
      refine lv_aload_n hx hb dL_law_27 rfl (lv_at hl 0 rfl) ?_
      refine lv_iload_n hx hb dL_law_28 rfl (lv_at hl 3 rfl) ?_
      refine va_sld hx hb hX hbl hbA hS hv0 dL_law_29 ?_
      refine lv_bipush (v := (63 : Int32)) hx hb dL_law_30 (by decide) ?_
      refine lv_iand hx hb dL_law_32 ?_
      have back : ∀ (S : Nat → Nat → Int32) (L : Nat → Nat → Int64) (T : Nat → Nat → Int32) (M : Nat → Nat → Int64), R S L T M → ∀ (H : Heap) (locs : List Loc) (ls : Array Slot), lv_has ls 4 [(0, .ref b0), (1, .ref (a 0)), (2, .ref (b 0)), (3, .int (nI i))] → va_P D vwCl (wX6 cs a S L ++ wX7 cs b T M) H → va_S (fun q : Nat => s.heap.size ≤ q) s.heap H locs → W p l e room_1 s m #[Value.ref b0] below meth c H locs 98 2895 (lw_Z below #[Value.ref b0] s) (F0 m 1350 ls []) := by
        intro S L T M hR H locs ls hl hP hS
        refine lv_iinc (v := nI (i + 7)) (lv' := [(3, .int (nI (i + 7))), (0, .ref b0), (1, .ref (a 0)), (2, .ref (b 0))]) hx hb dL_law_1350 hl (k := 3) rfl (nI_add i 7) (by decide) rfl (fun ls hl => ?_)
        refine lv_goto (tgt := 18) hx hb dL_law_1353 (by decide) ?_
        exact ih (i + 7) S L T M hi7 (by omega) hR _ _ _ (lv_sub hl [1, 2, 3, 0] rfl) hP hS
      generalize hxe : xs (nI i).toNatClampNeg &&& (63 : Int32) = x
      by_cases e0 : x = (0 : Int32)
      · refine lv_tableIn (off := 167) (tgt := 200) hx hb dL_law_33 (by rw [e0]; decide) (by rw [e0]; decide) (by rw [e0]; rfl) (by decide) ?_
        obtain ⟨r, S', T', h6, h7, hR'⟩ := hO.1 S L T M  hR
        exact law_valley hL C1 hK hNn hT hDA i hi7 S L T M r S' T' h6 h7 (back S' L T' M hR') _ _ _ hl hP hS
      by_cases e1 : x = (1 : Int32)
      · refine lv_tableIn (off := 180) (tgt := 213) hx hb dL_law_33 (by rw [e1]; decide) (by rw [e1]; decide) (by rw [e1]; rfl) (by decide) ?_
        obtain ⟨r, S', T', h6, h7, hR'⟩ := hO.2.1 S L T M (xs (nI i + (1 : Int32)).toNatClampNeg) (xs (nI i + (2 : Int32)).toNatClampNeg) (xs (nI i + (3 : Int32)).toNatClampNeg) (xs (nI i + (4 : Int32)).toNatClampNeg) (xs (nI i + (5 : Int32)).toNatClampNeg) (xs (nI i + (6 : Int32)).toNatClampNeg) hR
        exact law_person hL C1 hK hNn hT hDA i hi7 S L T M r S' T' h6 h7 (back S' L T' M hR') _ _ _ hl hP hS
      by_cases e2 : x = (2 : Int32)
      · refine lv_tableIn (off := 255) (tgt := 288) hx hb dL_law_33 (by rw [e2]; decide) (by rw [e2]; decide) (by rw [e2]; rfl) (by decide) ?_
        obtain ⟨r, S', T', h6, h7, hR'⟩ := hO.2.2.1 S L T M (xs (nI i + (1 : Int32)).toNatClampNeg) (xs (nI i + (2 : Int32)).toNatClampNeg) (xs (nI i + (3 : Int32)).toNatClampNeg) hR
        exact law_thing hL C1 hK hNn hT hDA i hi7 S L T M r S' T' h6 h7 (back S' L T' M hR') _ _ _ hl hP hS
      by_cases e3 : x = (3 : Int32)
      · refine lv_tableIn (off := 298) (tgt := 331) hx hb dL_law_33 (by rw [e3]; decide) (by rw [e3]; decide) (by rw [e3]; rfl) (by decide) ?_
        obtain ⟨r, S', T', h6, h7, hR'⟩ := hO.2.2.2.1 S L T M (xs (nI i + (1 : Int32)).toNatClampNeg) hR
        exact law_type hL C1 hK hNn hT hDA i hi7 S L T M r S' T' h6 h7 (back S' L T' M hR') _ _ _ hl hP hS
      by_cases e4 : x = (4 : Int32)
      · refine lv_tableIn (off := 321) (tgt := 354) hx hb dL_law_33 (by rw [e4]; decide) (by rw [e4]; decide) (by rw [e4]; rfl) (by decide) ?_
        obtain ⟨r, S', T', h6, h7, hR'⟩ := hO.2.2.2.2.1 S L T M  hR
        exact law_clear hL C1 hK hNn hT hDA i hi7 S L T M r S' T' h6 h7 (back S' L T' M hR') _ _ _ hl hP hS
      by_cases e5 : x = (5 : Int32)
      · refine lv_tableIn (off := 334) (tgt := 367) hx hb dL_law_33 (by rw [e5]; decide) (by rw [e5]; decide) (by rw [e5]; rfl) (by decide) ?_
        obtain ⟨r, S', T', h6, h7, hR'⟩ := hO.2.2.2.2.2.1 S L T M  hR
        exact law_read hL C1 hK hNn hT hDA i hi7 S L T M r S' T' h6 h7 (back S' L T' M hR') _ _ _ hl hP hS
      by_cases e6 : x = (6 : Int32)
      · refine lv_tableIn (off := 347) (tgt := 380) hx hb dL_law_33 (by rw [e6]; decide) (by rw [e6]; decide) (by rw [e6]; rfl) (by decide) ?_
        obtain ⟨r, S', T', h6, h7, hR'⟩ := hO.2.2.2.2.2.2.1 S L T M (xs (nI i + (1 : Int32)).toNatClampNeg) hR
        exact law_lose hL C1 hK hNn hT hDA i hi7 S L T M r S' T' h6 h7 (back S' L T' M hR') _ _ _ hl hP hS
      by_cases e7 : x = (7 : Int32)
      · refine lv_tableIn (off := 370) (tgt := 403) hx hb dL_law_33 (by rw [e7]; decide) (by rw [e7]; decide) (by rw [e7]; rfl) (by decide) ?_
        obtain ⟨r, S', T', h6, h7, hR'⟩ := hO.2.2.2.2.2.2.2.1 S L T M (xs (nI i + (1 : Int32)).toNatClampNeg) hR
        exact law_back hL C1 hK hNn hT hDA i hi7 S L T M r S' T' h6 h7 (back S' L T' M hR') _ _ _ hl hP hS
      by_cases e8 : x = (8 : Int32)
      · refine lv_tableIn (off := 393) (tgt := 426) hx hb dL_law_33 (by rw [e8]; decide) (by rw [e8]; decide) (by rw [e8]; rfl) (by decide) ?_
        obtain ⟨r, S', T', h6, h7, hR'⟩ := hO.2.2.2.2.2.2.2.2.1 S L T M (xs (nI i + (1 : Int32)).toNatClampNeg) (xs (nI i + (2 : Int32)).toNatClampNeg) hR
        exact law_coat hL C1 hK hNn hT hDA i hi7 S L T M r S' T' h6 h7 (back S' L T' M hR') _ _ _ hl hP hS
      by_cases e9 : x = (9 : Int32)
      · refine lv_tableIn (off := 426) (tgt := 459) hx hb dL_law_33 (by rw [e9]; decide) (by rw [e9]; decide) (by rw [e9]; rfl) (by decide) ?_
        obtain ⟨r, S', T', h6, h7, hR'⟩ := hO.2.2.2.2.2.2.2.2.2.1 S L T M (xs (nI i + (1 : Int32)).toNatClampNeg) hR
        exact law_day hL C1 hK hNn hT hDA i hi7 S L T M r S' T' h6 h7 (back S' L T' M hR') _ _ _ hl hP hS
      by_cases e10 : x = (10 : Int32)
      · refine lv_tableIn (off := 449) (tgt := 482) hx hb dL_law_33 (by rw [e10]; decide) (by rw [e10]; decide) (by rw [e10]; rfl) (by decide) ?_
        obtain ⟨r, S', T', h6, h7, hR'⟩ := hO.2.2.2.2.2.2.2.2.2.2.1 S L T M  hR
        exact law_undo hL C1 hK hNn hT hDA i hi7 S L T M r S' T' h6 h7 (back S' L T' M hR') _ _ _ hl hP hS
      by_cases e11 : x = (11 : Int32)
      · refine lv_tableIn (off := 462) (tgt := 495) hx hb dL_law_33 (by rw [e11]; decide) (by rw [e11]; decide) (by rw [e11]; rfl) (by decide) ?_
        obtain ⟨r, S', T', h6, h7, hR'⟩ := hO.2.2.2.2.2.2.2.2.2.2.2.1 S L T M (xs (nI i + (1 : Int32)).toNatClampNeg) (xs (nI i + (2 : Int32)).toNatClampNeg) hR
        exact law_of hL C1 hK hNn hT hDA i hi7 S L T M r S' T' h6 h7 (back S' L T' M hR') _ _ _ hl hP hS
      by_cases e12 : x = (12 : Int32)
      · refine lv_tableIn (off := 495) (tgt := 528) hx hb dL_law_33 (by rw [e12]; decide) (by rw [e12]; decide) (by rw [e12]; rfl) (by decide) ?_
        obtain ⟨r, S', T', h6, h7, hR'⟩ := hO.2.2.2.2.2.2.2.2.2.2.2.2.1 S L T M (xs (nI i + (1 : Int32)).toNatClampNeg) (xs (nI i + (2 : Int32)).toNatClampNeg) hR
        exact law_about hL C1 hK hNn hT hDA i hi7 S L T M r S' T' h6 h7 (back S' L T' M hR') _ _ _ hl hP hS
      by_cases e13 : x = (13 : Int32)
      · refine lv_tableIn (off := 528) (tgt := 561) hx hb dL_law_33 (by rw [e13]; decide) (by rw [e13]; decide) (by rw [e13]; rfl) (by decide) ?_
        obtain ⟨r, S', T', h6, h7, hR'⟩ := hO.2.2.2.2.2.2.2.2.2.2.2.2.2.1 S L T M (xs (nI i + (1 : Int32)).toNatClampNeg) (xs (nI i + (2 : Int32)).toNatClampNeg) hR
        exact law_shows hL C1 hK hNn hT hDA i hi7 S L T M r S' T' h6 h7 (back S' L T' M hR') _ _ _ hl hP hS
      by_cases e14 : x = (14 : Int32)
      · refine lv_tableIn (off := 561) (tgt := 594) hx hb dL_law_33 (by rw [e14]; decide) (by rw [e14]; decide) (by rw [e14]; rfl) (by decide) ?_
        obtain ⟨r, S', T', h6, h7, hR'⟩ := hO.2.2.2.2.2.2.2.2.2.2.2.2.2.2.1 S L T M (xs (nI i + (1 : Int32)).toNatClampNeg) hR
        exact law_comes hL C1 hK hNn hT hDA i hi7 S L T M r S' T' h6 h7 (back S' L T' M hR') _ _ _ hl hP hS
      by_cases e15 : x = (15 : Int32)
      · refine lv_tableIn (off := 584) (tgt := 617) hx hb dL_law_33 (by rw [e15]; decide) (by rw [e15]; decide) (by rw [e15]; rfl) (by decide) ?_
        obtain ⟨r, S', T', h6, h7, hR'⟩ := hO.2.2.2.2.2.2.2.2.2.2.2.2.2.2.2.1 S L T M (xs (nI i + (1 : Int32)).toNatClampNeg) (xs (nI i + (2 : Int32)).toNatClampNeg) hR
        exact law_chain hL C1 hK hNn hT hDA i hi7 S L T M r S' T' h6 h7 (back S' L T' M hR') _ _ _ hl hP hS
      by_cases e16 : x = (16 : Int32)
      · refine lv_tableIn (off := 617) (tgt := 650) hx hb dL_law_33 (by rw [e16]; decide) (by rw [e16]; decide) (by rw [e16]; rfl) (by decide) ?_
        obtain ⟨r, S', T', h6, h7, hR'⟩ := hO.2.2.2.2.2.2.2.2.2.2.2.2.2.2.2.2.1 S L T M (xs (nI i + (1 : Int32)).toNatClampNeg) (xs (nI i + (2 : Int32)).toNatClampNeg) hR
        exact law_ring hL C1 hK hNn hT hDA i hi7 S L T M r S' T' h6 h7 (back S' L T' M hR') _ _ _ hl hP hS
      by_cases e17 : x = (17 : Int32)
      · refine lv_tableIn (off := 650) (tgt := 683) hx hb dL_law_33 (by rw [e17]; decide) (by rw [e17]; decide) (by rw [e17]; rfl) (by decide) ?_
        obtain ⟨r, S', L', T', h6, h7, hR'⟩ := hO.2.2.2.2.2.2.2.2.2.2.2.2.2.2.2.2.2.1 S L T M (xs (nI i + (1 : Int32)).toNatClampNeg) (xs (nI i + (2 : Int32)).toNatClampNeg) (xs (nI i + (3 : Int32)).toNatClampNeg) hR
        exact law_send hL C1 hK hNn hT hDA i hi7 S L T M r S' L' T' h6 h7 (back S' L' T' M hR') _ _ _ hl hP hS
      by_cases e18 : x = (18 : Int32)
      · refine lv_tableIn (off := 693) (tgt := 726) hx hb dL_law_33 (by rw [e18]; decide) (by rw [e18]; decide) (by rw [e18]; rfl) (by decide) ?_
        obtain ⟨r, S', T', h6, h7, hR'⟩ := hO.2.2.2.2.2.2.2.2.2.2.2.2.2.2.2.2.2.2.1 S L T M (xs (nI i + (1 : Int32)).toNatClampNeg) (xs (nI i + (2 : Int32)).toNatClampNeg) (xs (nI i + (3 : Int32)).toNatClampNeg) hR
        exact law_wears hL C1 hK hNn hT hDA i hi7 S L T M r S' T' h6 h7 (back S' L T' M hR') _ _ _ hl hP hS
      by_cases e19 : x = (19 : Int32)
      · refine lv_tableIn (off := 736) (tgt := 769) hx hb dL_law_33 (by rw [e19]; decide) (by rw [e19]; decide) (by rw [e19]; rfl) (by decide) ?_
        obtain ⟨r, T', h6, h7, hR'⟩ := hO.2.2.2.2.2.2.2.2.2.2.2.2.2.2.2.2.2.2.2.1 S L T M  hR
        exact law_costs hL C1 hK hNn hT hDA i hi7 S L T M r T' h6 h7 (back S L T' M hR') _ _ _ hl hP hS
      by_cases e20 : x = (20 : Int32)
      · refine lv_tableIn (off := 749) (tgt := 782) hx hb dL_law_33 (by rw [e20]; decide) (by rw [e20]; decide) (by rw [e20]; rfl) (by decide) ?_
        obtain ⟨r, S', T', h6, h7, hR'⟩ := hO.2.2.2.2.2.2.2.2.2.2.2.2.2.2.2.2.2.2.2.2.1 S L T M (xs (nI i + (1 : Int32)).toNatClampNeg) hR
        exact law_few hL C1 hK hNn hT hDA i hi7 S L T M r S' T' h6 h7 (back S' L T' M hR') _ _ _ hl hP hS
      by_cases e21 : x = (21 : Int32)
      · refine lv_tableIn (off := 772) (tgt := 805) hx hb dL_law_33 (by rw [e21]; decide) (by rw [e21]; decide) (by rw [e21]; rfl) (by decide) ?_
        obtain ⟨r, S', T', h6, h7, hR'⟩ := hO.2.2.2.2.2.2.2.2.2.2.2.2.2.2.2.2.2.2.2.2.2.1 S L T M (xs (nI i + (1 : Int32)).toNatClampNeg) (xs (nI i + (2 : Int32)).toNatClampNeg) hR
        exact law_loser hL C1 hK hNn hT hDA i hi7 S L T M r S' T' h6 h7 (back S' L T' M hR') _ _ _ hl hP hS
      by_cases e22 : x = (22 : Int32)
      · refine lv_tableIn (off := 805) (tgt := 838) hx hb dL_law_33 (by rw [e22]; decide) (by rw [e22]; decide) (by rw [e22]; rfl) (by decide) ?_
        obtain ⟨r, S', T', h6, h7, hR'⟩ := hO.2.2.2.2.2.2.2.2.2.2.2.2.2.2.2.2.2.2.2.2.2.2.1 S L T M (xs (nI i + (1 : Int32)).toNatClampNeg) (xs (nI i + (2 : Int32)).toNatClampNeg) (xs (nI i + (3 : Int32)).toNatClampNeg) (xs (nI i + (4 : Int32)).toNatClampNeg) (xs (nI i + (5 : Int32)).toNatClampNeg) (xs (nI i + (6 : Int32)).toNatClampNeg) hR
        exact law_note hL C1 hK hNn hT hDA i hi7 S L T M r S' T' h6 h7 (back S' L T' M hR') _ _ _ hl hP hS
      by_cases e23 : x = (23 : Int32)
      · refine lv_tableIn (off := 880) (tgt := 913) hx hb dL_law_33 (by rw [e23]; decide) (by rw [e23]; decide) (by rw [e23]; rfl) (by decide) ?_
        obtain ⟨r, S', T', h6, h7, hR'⟩ := hO.2.2.2.2.2.2.2.2.2.2.2.2.2.2.2.2.2.2.2.2.2.2.2.1 S L T M (xs (nI i + (1 : Int32)).toNatClampNeg) (xs (nI i + (2 : Int32)).toNatClampNeg) (xs (nI i + (3 : Int32)).toNatClampNeg) (xs (nI i + (4 : Int32)).toNatClampNeg) hR
        exact law_came hL C1 hK hNn hT hDA i hi7 S L T M r S' T' h6 h7 (back S' L T' M hR') _ _ _ hl hP hS
      by_cases e24 : x = (24 : Int32)
      · refine lv_tableIn (off := 933) (tgt := 966) hx hb dL_law_33 (by rw [e24]; decide) (by rw [e24]; decide) (by rw [e24]; rfl) (by decide) ?_
        obtain ⟨r, S', T', h6, h7, hR'⟩ := hO.2.2.2.2.2.2.2.2.2.2.2.2.2.2.2.2.2.2.2.2.2.2.2.2.1 S L T M (xs (nI i + (1 : Int32)).toNatClampNeg) hR
        exact law_forget hL C1 hK hNn hT hDA i hi7 S L T M r S' T' h6 h7 (back S' L T' M hR') _ _ _ hl hP hS
      by_cases e25 : x = (25 : Int32)
      · refine lv_tableIn (off := 956) (tgt := 989) hx hb dL_law_33 (by rw [e25]; decide) (by rw [e25]; decide) (by rw [e25]; rfl) (by decide) ?_
        obtain ⟨r, S', T', h6, h7, hR'⟩ := hO.2.2.2.2.2.2.2.2.2.2.2.2.2.2.2.2.2.2.2.2.2.2.2.2.2.1 S L T M (xs (nI i + (1 : Int32)).toNatClampNeg) hR
        exact law_is hL C1 hK hNn hT hDA i hi7 S L T M r S' T' h6 h7 (back S' L T' M hR') _ _ _ hl hP hS
      by_cases e26 : x = (26 : Int32)
      · refine lv_tableIn (off := 979) (tgt := 1012) hx hb dL_law_33 (by rw [e26]; decide) (by rw [e26]; decide) (by rw [e26]; rfl) (by decide) ?_
        obtain ⟨r, S', T', h6, h7, hR'⟩ := hO.2.2.2.2.2.2.2.2.2.2.2.2.2.2.2.2.2.2.2.2.2.2.2.2.2.2.1 S L T M (xs (nI i + (1 : Int32)).toNatClampNeg) hR
        exact law_watch hL C1 hK hNn hT hDA i hi7 S L T M r S' T' h6 h7 (back S' L T' M hR') _ _ _ hl hP hS
      by_cases e27 : x = (27 : Int32)
      · refine lv_tableIn (off := 1002) (tgt := 1035) hx hb dL_law_33 (by rw [e27]; decide) (by rw [e27]; decide) (by rw [e27]; rfl) (by decide) ?_
        obtain ⟨r, S', T', h6, h7, hR'⟩ := hO.2.2.2.2.2.2.2.2.2.2.2.2.2.2.2.2.2.2.2.2.2.2.2.2.2.2.2.1 S L T M (xs (nI i + (1 : Int32)).toNatClampNeg) hR
        exact law_kinds hL C1 hK hNn hT hDA i hi7 S L T M r S' T' h6 h7 (back S' L T' M hR') _ _ _ hl hP hS
      by_cases e28 : x = (28 : Int32)
      · refine lv_tableIn (off := 1025) (tgt := 1058) hx hb dL_law_33 (by rw [e28]; decide) (by rw [e28]; decide) (by rw [e28]; rfl) (by decide) ?_
        obtain ⟨r, S', T', h6, h7, hR'⟩ := hO.2.2.2.2.2.2.2.2.2.2.2.2.2.2.2.2.2.2.2.2.2.2.2.2.2.2.2.2.1 S L T M (xs (nI i + (1 : Int32)).toNatClampNeg) hR
        exact law_by hL C1 hK hNn hT hDA i hi7 S L T M r S' T' h6 h7 (back S' L T' M hR') _ _ _ hl hP hS
      by_cases e29 : x = (29 : Int32)
      · refine lv_tableIn (off := 1048) (tgt := 1081) hx hb dL_law_33 (by rw [e29]; decide) (by rw [e29]; decide) (by rw [e29]; rfl) (by decide) ?_
        obtain ⟨r, S', T', h6, h7, hR'⟩ := hO.2.2.2.2.2.2.2.2.2.2.2.2.2.2.2.2.2.2.2.2.2.2.2.2.2.2.2.2.2.1 S L T M (xs (nI i + (1 : Int32)).toNatClampNeg) (xs (nI i + (2 : Int32)).toNatClampNeg) (xs (nI i + (3 : Int32)).toNatClampNeg) (xs (nI i + (4 : Int32)).toNatClampNeg) hR
        exact law_coats hL C1 hK hNn hT hDA i hi7 S L T M r S' T' h6 h7 (back S' L T' M hR') _ _ _ hl hP hS
      by_cases e30 : x = (30 : Int32)
      · refine lv_tableIn (off := 1101) (tgt := 1134) hx hb dL_law_33 (by rw [e30]; decide) (by rw [e30]; decide) (by rw [e30]; rfl) (by decide) ?_
        obtain ⟨r, S', L', T', M', h6, h7, hR'⟩ := hO.2.2.2.2.2.2.2.2.2.2.2.2.2.2.2.2.2.2.2.2.2.2.2.2.2.2.2.2.2.2.1 S L T M (xs (nI i + (1 : Int32)).toNatClampNeg) (xs (nI i + (2 : Int32)).toNatClampNeg) (xs (nI i + (3 : Int32)).toNatClampNeg) (xs (nI i + (4 : Int32)).toNatClampNeg) hR
        exact law_odds hL C1 hK hNn hT hDA i hi7 S L T M r S' L' T' M' h6 h7 (back S' L' T' M' hR') _ _ _ hl hP hS
      by_cases e31 : x = (31 : Int32)
      · refine lv_tableIn (off := 1154) (tgt := 1187) hx hb dL_law_33 (by rw [e31]; decide) (by rw [e31]; decide) (by rw [e31]; rfl) (by decide) ?_
        obtain ⟨r, S', T', h6, h7, hR'⟩ := hO.2.2.2.2.2.2.2.2.2.2.2.2.2.2.2.2.2.2.2.2.2.2.2.2.2.2.2.2.2.2.2.1 S L T M (xs (nI i + (1 : Int32)).toNatClampNeg) (xs (nI i + (2 : Int32)).toNatClampNeg) hR
        exact law_years hL C1 hK hNn hT hDA i hi7 S L T M r S' T' h6 h7 (back S' L T' M hR') _ _ _ hl hP hS
      by_cases e32 : x = (32 : Int32)
      · refine lv_tableIn (off := 1187) (tgt := 1220) hx hb dL_law_33 (by rw [e32]; decide) (by rw [e32]; decide) (by rw [e32]; rfl) (by decide) ?_
        obtain ⟨r, S', T', h6, h7, hR'⟩ := hO.2.2.2.2.2.2.2.2.2.2.2.2.2.2.2.2.2.2.2.2.2.2.2.2.2.2.2.2.2.2.2.2.1 S L T M (xs (nI i + (1 : Int32)).toNatClampNeg) hR
        exact law_part hL C1 hK hNn hT hDA i hi7 S L T M r S' T' h6 h7 (back S' L T' M hR') _ _ _ hl hP hS
      by_cases e33 : x = (33 : Int32)
      · refine lv_tableIn (off := 1211) (tgt := 1244) hx hb dL_law_33 (by rw [e33]; decide) (by rw [e33]; decide) (by rw [e33]; rfl) (by decide) ?_
        obtain ⟨r, S', T', h6, h7, hR'⟩ := hO.2.2.2.2.2.2.2.2.2.2.2.2.2.2.2.2.2.2.2.2.2.2.2.2.2.2.2.2.2.2.2.2.2.1 S L T M (xs (nI i + (1 : Int32)).toNatClampNeg) hR
        exact law_image hL C1 hK hNn hT hDA i hi7 S L T M r S' T' h6 h7 (back S' L T' M hR') _ _ _ hl hP hS
      by_cases e34 : x = (34 : Int32)
      · refine lv_tableIn (off := 1234) (tgt := 1267) hx hb dL_law_33 (by rw [e34]; decide) (by rw [e34]; decide) (by rw [e34]; rfl) (by decide) ?_
        obtain ⟨r, S', T', h6, h7, hR'⟩ := hO.2.2.2.2.2.2.2.2.2.2.2.2.2.2.2.2.2.2.2.2.2.2.2.2.2.2.2.2.2.2.2.2.2.2.1 S L T M (xs (nI i + (1 : Int32)).toNatClampNeg) hR
        exact law_from hL C1 hK hNn hT hDA i hi7 S L T M r S' T' h6 h7 (back S' L T' M hR') _ _ _ hl hP hS
      by_cases e35 : x = (35 : Int32)
      · refine lv_tableIn (off := 1257) (tgt := 1290) hx hb dL_law_33 (by rw [e35]; decide) (by rw [e35]; decide) (by rw [e35]; rfl) (by decide) ?_
        obtain ⟨r, S', T', h6, h7, hR'⟩ := hO.2.2.2.2.2.2.2.2.2.2.2.2.2.2.2.2.2.2.2.2.2.2.2.2.2.2.2.2.2.2.2.2.2.2.2.1 S L T M (xs (nI i + (1 : Int32)).toNatClampNeg) hR
        exact law_status hL C1 hK hNn hT hDA i hi7 S L T M r S' T' h6 h7 (back S' L T' M hR') _ _ _ hl hP hS
      by_cases e36 : x = (36 : Int32)
      · refine lv_tableIn (off := 1280) (tgt := 1313) hx hb dL_law_33 (by rw [e36]; decide) (by rw [e36]; decide) (by rw [e36]; rfl) (by decide) ?_
        obtain ⟨r, S', T', h6, h7, hR'⟩ := hO.2.2.2.2.2.2.2.2.2.2.2.2.2.2.2.2.2.2.2.2.2.2.2.2.2.2.2.2.2.2.2.2.2.2.2.2.1 S L T M (xs (nI i + (1 : Int32)).toNatClampNeg) hR
        exact law_count hL C1 hK hNn hT hDA i hi7 S L T M r S' T' h6 h7 (back S' L T' M hR') _ _ _ hl hP hS
      by_cases e37 : x = (37 : Int32)
      · refine lv_tableIn (off := 1303) (tgt := 1336) hx hb dL_law_33 (by rw [e37]; decide) (by rw [e37]; decide) (by rw [e37]; rfl) (by decide) ?_
        obtain ⟨r, h6, h7, hR'⟩ := hO.2.2.2.2.2.2.2.2.2.2.2.2.2.2.2.2.2.2.2.2.2.2.2.2.2.2.2.2.2.2.2.2.2.2.2.2.2 S L T M  hR
        exact law_digest hL C1 hK hNn hT hDA i hi7 S L T M r  h6 h7 (back S L T M hR') _ _ _ hl hP hS
      refine lv_tableOut (tgt := 1350) hx hb dL_law_33 (by have q0 := lv_neT e0 (a := 0) (by decide); have q1 := lv_neT e1 (a := 1) (by decide); have q2 := lv_neT e2 (a := 2) (by decide); have q3 := lv_neT e3 (a := 3) (by decide); have q4 := lv_neT e4 (a := 4) (by decide); have q5 := lv_neT e5 (a := 5) (by decide); have q6 := lv_neT e6 (a := 6) (by decide); have q7 := lv_neT e7 (a := 7) (by decide); have q8 := lv_neT e8 (a := 8) (by decide); have q9 := lv_neT e9 (a := 9) (by decide); have q10 := lv_neT e10 (a := 10) (by decide); have q11 := lv_neT e11 (a := 11) (by decide); have q12 := lv_neT e12 (a := 12) (by decide); have q13 := lv_neT e13 (a := 13) (by decide); have q14 := lv_neT e14 (a := 14) (by decide); have q15 := lv_neT e15 (a := 15) (by decide); have q16 := lv_neT e16 (a := 16) (by decide); have q17 := lv_neT e17 (a := 17) (by decide); have q18 := lv_neT e18 (a := 18) (by decide); have q19 := lv_neT e19 (a := 19) (by decide); have q20 := lv_neT e20 (a := 20) (by decide); have q21 := lv_neT e21 (a := 21) (by decide); have q22 := lv_neT e22 (a := 22) (by decide); have q23 := lv_neT e23 (a := 23) (by decide); have q24 := lv_neT e24 (a := 24) (by decide); have q25 := lv_neT e25 (a := 25) (by decide); have q26 := lv_neT e26 (a := 26) (by decide); have q27 := lv_neT e27 (a := 27) (by decide); have q28 := lv_neT e28 (a := 28) (by decide); have q29 := lv_neT e29 (a := 29) (by decide); have q30 := lv_neT e30 (a := 30) (by decide); have q31 := lv_neT e31 (a := 31) (by decide); have q32 := lv_neT e32 (a := 32) (by decide); have q33 := lv_neT e33 (a := 33) (by decide); have q34 := lv_neT e34 (a := 34) (by decide); have q35 := lv_neT e35 (a := 35) (by decide); have q36 := lv_neT e36 (a := 36) (by decide); have q37 := lv_neT e37 (a := 37) (by decide); omega) (by decide) ?_
      exact back S L T M hR _ _ _ hl hP hS

