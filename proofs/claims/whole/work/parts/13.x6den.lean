-- LeastNeed.valley()I
set_option maxRecDepth 20000 in
def nX6_valley (S : Nat → Nat → Int32) (L : Nat → Nat → Int64) : Option (Int32 × (Nat → Nat → Int32)) := k_b1 (nX5_empty (k_wi S 1)) (fun S12 => some ((S 1 12), (k_sp S 1 16 S12)))
-- LeastNeed.upTo(II)Z
set_option maxRecDepth 20000 in
def nX6_upTo (p0 : Int32) (p1 : Int32) : Option (Int32) := if p0 < 0 then some (0 : Int32) else if p1 ≤ p0 then some (0 : Int32) else some (1 : Int32)
-- LeastNeed.refusedAsFull()I
set_option maxRecDepth 20000 in
def nX6_refusedAsFull (S : Nat → Nat → Int32) (L : Nat → Nat → Int64) : Option (Int32 × (Nat → Nat → Int32)) := some ((-4 : Int32), (k_w S 75 2 ((S 75 2) + (1 : Int32))))
-- LeastNeed.refusedAsBad()I
set_option maxRecDepth 20000 in
def nX6_refusedAsBad (S : Nat → Nat → Int32) (L : Nat → Nat → Int64) : Option (Int32 × (Nat → Nat → Int32)) := some ((-2 : Int32), (k_w S 75 0 ((S 75 0) + (1 : Int32))))
-- LeastNeed.person(IIIIII)I
set_option maxRecDepth 20000 in
def nX6_person_j69 (S_69 : Nat → Nat → Int32) (L : Nat → Nat → Int64) : Option (Int32 × (Nat → Nat → Int32)) := k_b2 (nX6_refusedAsBad S_69 L) (fun r70 S70 => some (r70, S70))
set_option maxRecDepth 20000 in
def nX6_person_j23 (p1 : Int32) (p2 : Int32) (p3 : Int32) (p4 : Int32) (p5 : Int32) (p6 : Int32) (w0_23 : Int32) (S_23 : Nat → Nat → Int32) (L : Nat → Nat → Int64) : Option (Int32 × (Nat → Nat → Int32)) := if w0_23 = 0 then nX6_person_j69 S_23 L else k_b1 (nX6_upTo p3 (10 : Int32)) (fun r33 => if r33 = 0 then nX6_person_j69 S_23 L else k_b1 (nX6_upTo p4 (10 : Int32)) (fun r43 => if r43 = 0 then nX6_person_j69 S_23 L else k_b1 (nX6_upTo p5 (10 : Int32)) (fun r53 => if r53 = 0 then nX6_person_j69 S_23 L else k_b1 (nX6_upTo p6 (10 : Int32)) (fun r63 => if r63 = 0 then nX6_person_j69 S_23 L else if (S_23 1 12) < (7 : Int32) then k_b1 (nX5_addPerson (k_wi S_23 1) p1 p2 p3 p4 p5 p6) (fun S104 => some ((((k_sp S_23 1 16 S104) 1 12) - (1 : Int32)), (k_sp S_23 1 16 S104))) else k_b2 (nX6_refusedAsFull S_23 L) (fun r87 S87 => some (r87, S87))))))
set_option maxRecDepth 20000 in
def nX6_person_j22 (p1 : Int32) (p2 : Int32) (p3 : Int32) (p4 : Int32) (p5 : Int32) (p6 : Int32) (S_22 : Nat → Nat → Int32) (L : Nat → Nat → Int64) : Option (Int32 × (Nat → Nat → Int32)) := nX6_person_j23 p1 p2 p3 p4 p5 p6 (0 : Int32) S_22 L
set_option maxRecDepth 20000 in
def nX6_person (S : Nat → Nat → Int32) (L : Nat → Nat → Int64) (p1 : Int32) (p2 : Int32) (p3 : Int32) (p4 : Int32) (p5 : Int32) (p6 : Int32) : Option (Int32 × (Nat → Nat → Int32)) := k_b1 (nX6_upTo p1 (6 : Int32)) (fun r3 => if r3 = 0 then nX6_person_j22 p1 p2 p3 p4 p5 p6 S L else k_b1 (nX6_upTo p2 (20 : Int32)) (fun r12 => if r12 = 0 then nX6_person_j22 p1 p2 p3 p4 p5 p6 S L else nX6_person_j23 p1 p2 p3 p4 p5 p6 (1 : Int32) S L))
-- LeastNeed.isPerson(I)Z
set_option maxRecDepth 20000 in
def nX6_isPerson (S : Nat → Nat → Int32) (L : Nat → Nat → Int64) (p1 : Int32) : Option (Int32) := k_b1 (nX6_upTo p1 (S 1 12)) (fun r8 => if ¬ (r8 = 0 ∨ r8 = 1) then none else some r8)
-- LeastNeed.thing(III)I
set_option maxRecDepth 20000 in
def nX6_thing_j25 (S_25 : Nat → Nat → Int32) (L : Nat → Nat → Int64) : Option (Int32 × (Nat → Nat → Int32)) := k_b2 (nX6_refusedAsBad S_25 L) (fun r26 S26 => some (r26, S26))
set_option maxRecDepth 20000 in
def nX6_thing (S : Nat → Nat → Int32) (L : Nat → Nat → Int64) (p1 : Int32) (p2 : Int32) (p3 : Int32) : Option (Int32 × (Nat → Nat → Int32)) := k_b1 (nX6_upTo p1 (6 : Int32)) (fun r3 => if r3 = 0 then nX6_thing_j25 S L else k_b1 (nX6_upTo p2 (4 : Int32)) (fun r11 => if r11 = 0 then nX6_thing_j25 S L else k_b1 (nX6_isPerson S L p3) (fun r19 => if r19 = 0 then nX6_thing_j25 S L else if (S 1 13) < (5 : Int32) then k_b1 (nX5_addThing (k_wi S 1) p1 p2 p3) (fun S53 => some ((((k_sp S 1 16 S53) 1 13) - (1 : Int32)), (k_sp S 1 16 S53))) else k_b2 (nX6_refusedAsFull S L) (fun r42 S42 => some (r42, S42)))))
-- LeastNeed.type(I)I
set_option maxRecDepth 20000 in
def nX6_type (S : Nat → Nat → Int32) (L : Nat → Nat → Int64) (p1 : Int32) : Option (Int32 × (Nat → Nat → Int32)) := k_b1 (nX6_upTo p1 (128 : Int32)) (fun r4 => if r4 = 0 then k_b2 (nX6_refusedAsBad S L) (fun r11 S11 => some (r11, S11)) else if (S 67 2) < (150 : Int32) then k_b1 (nX2_put (k_wi S 67) ((p1.toUInt32 % 65536).toInt32)) (fun S39 => some (((k_sp S 67 3 S39) 67 2), (k_sp S 67 3 S39))) else k_b2 (nX6_refusedAsFull S L) (fun r29 S29 => some (r29, S29)))
-- LeastNeed.clear()I
set_option maxRecDepth 20000 in
def nX6_clear (S : Nat → Nat → Int32) (L : Nat → Nat → Int64) : Option (Int32 × (Nat → Nat → Int32)) := some ((S 67 2), (k_w S 67 2 (0 : Int32)))
-- LeastNeed.isThing(I)Z
set_option maxRecDepth 20000 in
def nX6_isThing (S : Nat → Nat → Int32) (L : Nat → Nat → Int64) (p1 : Int32) : Option (Int32) := k_b1 (nX6_upTo p1 (S 1 13)) (fun r8 => if ¬ (r8 = 0 ∨ r8 = 1) then none else some r8)
-- LeastNeed.refusedAsNo()I
set_option maxRecDepth 20000 in
def nX6_refusedAsNo (S : Nat → Nat → Int32) (L : Nat → Nat → Int64) : Option (Int32 × (Nat → Nat → Int32)) := some ((-3 : Int32), (k_w S 75 1 ((S 75 1) + (1 : Int32))))
-- LeastNeed.lose(I)I
set_option maxRecDepth 20000 in
def nX6_lose (S : Nat → Nat → Int32) (L : Nat → Nat → Int64) (p1 : Int32) : Option (Int32 × (Nat → Nat → Int32)) := k_b1 (nX6_isThing S L p1) (fun r2 => if r2 = 0 then k_b2 (nX6_refusedAsBad S L) (fun r9 S9 => some (r9, S9)) else if p1 < 0 ∨ 5 ≤ p1.toNatClampNeg then none else if (S 10 p1.toNatClampNeg) = 0 then k_b1 (nX5_keepPast (k_wi S 1)) (fun S34 => if p1 < 0 ∨ 5 ≤ p1.toNatClampNeg then none else if p1 < 0 ∨ 5 ≤ p1.toNatClampNeg then none else some (((k_w (k_sp S 1 16 S34) 10 p1.toNatClampNeg (1 : Int32)) 9 p1.toNatClampNeg), (k_w (k_sp S 1 16 S34) 10 p1.toNatClampNeg (1 : Int32)))) else k_b2 (nX6_refusedAsNo S L) (fun r26 S26 => some (r26, S26)))
-- LeastNeed.back(I)I
set_option maxRecDepth 20000 in
def nX6_back (S : Nat → Nat → Int32) (L : Nat → Nat → Int64) (p1 : Int32) : Option (Int32 × (Nat → Nat → Int32)) := k_b1 (nX6_isThing S L p1) (fun r2 => if r2 = 0 then k_b2 (nX6_refusedAsBad S L) (fun r9 S9 => some (r9, S9)) else k_b1 (nX5_isAway (k_wi S 1) p1) (fun r18 => if r18 = 0 then k_b2 (nX6_refusedAsNo S L) (fun r25 S25 => some (r25, S25)) else k_b1 (nX5_askedFor (k_wi S 1) p1) (fun r34 => k_b1 (nX5_keepPast (k_wi S 1)) (fun S42 => if p1 < 0 ∨ 5 ≤ p1.toNatClampNeg then none else if p1 < 0 ∨ 5 ≤ p1.toNatClampNeg then none else some (r34, (k_w (k_sp S 1 16 S42) 9 p1.toNatClampNeg ((k_sp S 1 16 S42) 8 p1.toNatClampNeg)))))))
-- LeastNeed.coat(II)I
set_option maxRecDepth 20000 in
def nX6_coat_j17 (S_17 : Nat → Nat → Int32) (L : Nat → Nat → Int64) : Option (Int32 × (Nat → Nat → Int32)) := k_b2 (nX6_refusedAsBad S_17 L) (fun r18 S18 => some (r18, S18))
set_option maxRecDepth 20000 in
def nX6_coat (S : Nat → Nat → Int32) (L : Nat → Nat → Int64) (p1 : Int32) (p2 : Int32) : Option (Int32 × (Nat → Nat → Int32)) := k_b1 (nX6_isPerson S L p1) (fun r2 => if r2 = 0 then nX6_coat_j17 S L else k_b1 (nX6_upTo p2 (10 : Int32)) (fun r11 => if r11 = 0 then nX6_coat_j17 S L else k_b1 (nX5_keepPast (k_wi S 1)) (fun S26 => if p1 < 0 ∨ 7 ≤ p1.toNatClampNeg then none else if p1 < 0 ∨ 7 ≤ p1.toNatClampNeg then none else some (((k_sp S 1 16 S26) 4 p1.toNatClampNeg), (k_w (k_sp S 1 16 S26) 4 p1.toNatClampNeg p2)))))
-- LeastNeed.day(I)I
set_option maxRecDepth 20000 in
def nX6_day_j56 (S_56 : Nat → Nat → Int32) (L : Nat → Nat → Int64) : Option (Int32 × (Nat → Nat → Int32)) := k_b1 (nX5_howManyLie (k_wi S_56 1) (2 : Int32)) (fun r61 => some (r61, S_56))
set_option maxRecDepth 20000 in
def nX6_day_l25 (p1 : Int32) (x2_25 : Int32) (S_25 : Nat → Nat → Int32) (L : Nat → Nat → Int64) : Option ((Int32 × (Nat → Nat → Int32)) ⊕ (Int32 × (Nat → Nat → Int32))) := if p1 ≤ x2_25 then k_up (nX6_day_j56 S_25 L) else if (9999 : Int32) ≤ (S_25 1 14) then k_up (nX6_day_j56 S_25 L) else k_b1 (nX5_dayGoesBy (k_wi S_25 1)) (fun S47 => some (.inl ((x2_25 + (1 : Int32)), (k_sp S_25 1 16 S47))))
set_option maxRecDepth 20000 in
def nX6_day_j11 (S_11 : Nat → Nat → Int32) (L : Nat → Nat → Int64) : Option (Int32 × (Nat → Nat → Int32)) := k_b2 (nX6_refusedAsBad S_11 L) (fun r12 S12 => some (r12, S12))
set_option maxRecDepth 20000 in
def nX6_day (S : Nat → Nat → Int32) (L : Nat → Nat → Int64) (p1 : Int32) : Option (Int32 × (Nat → Nat → Int32)) := if p1 < (1 : Int32) then nX6_day_j11 S L else if p1 ≤ (99 : Int32) then k_b1 (nX5_keepPast (k_wi S 1)) (fun S20 => k_it (fun st => nX6_day_l25 p1 st.1 st.2 L) 1000 ((0 : Int32), (k_sp S 1 16 S20))) else nX6_day_j11 S L
-- LeastNeed.undo()I
set_option maxRecDepth 20000 in
def nX6_undo (S : Nat → Nat → Int32) (L : Nat → Nat → Int64) : Option (Int32 × (Nat → Nat → Int32)) := if (S 15 3) = 0 then k_b2 (nX6_refusedAsNo S L) (fun r14 S14 => some (r14, S14)) else k_b1 (nX5_takePast (k_wi S 1)) (fun S22 => some (((k_sp S 1 16 S22) 1 14), (k_sp S 1 16 S22)))
-- LeastNeed.of(II)I
set_option maxRecDepth 20000 in
def nX6_of_j17 (S_17 : Nat → Nat → Int32) (L : Nat → Nat → Int64) : Option (Int32 × (Nat → Nat → Int32)) := k_b2 (nX6_refusedAsBad S_17 L) (fun r18 S18 => some (r18, S18))
set_option maxRecDepth 20000 in
def nX6_of (S : Nat → Nat → Int32) (L : Nat → Nat → Int64) (p1 : Int32) (p2 : Int32) : Option (Int32 × (Nat → Nat → Int32)) := k_b1 (nX6_isPerson S L p1) (fun r2 => if r2 = 0 then nX6_of_j17 S L else k_b1 (nX6_upTo p2 (8 : Int32)) (fun r11 => if r11 = 0 then nX6_of_j17 S L else if p2 = (0 : Int32) then if p1 < 0 ∨ 7 ≤ p1.toNatClampNeg then none else some ((S 2 p1.toNatClampNeg), S) else if p2 = (1 : Int32) then if p1 < 0 ∨ 7 ≤ p1.toNatClampNeg then none else some ((S 3 p1.toNatClampNeg), S) else if p2 = (2 : Int32) then if p1 < 0 ∨ 7 ≤ p1.toNatClampNeg then none else some ((S 4 p1.toNatClampNeg), S) else if p2 = (3 : Int32) then k_b1 (nX5_howManyHas (k_wi S 1) p1) (fun r87 => some (r87, S)) else if ((((4 : Int32) * p1) + p2) - (4 : Int32)) < 0 ∨ 28 ≤ ((((4 : Int32) * p1) + p2) - (4 : Int32)).toNatClampNeg then none else some ((S 5 ((((4 : Int32) * p1) + p2) - (4 : Int32)).toNatClampNeg), S)))
-- LeastNeed.about(II)I
set_option maxRecDepth 20000 in
def nX6_about_j16 (S_16 : Nat → Nat → Int32) (L : Nat → Nat → Int64) : Option (Int32 × (Nat → Nat → Int32)) := k_b2 (nX6_refusedAsBad S_16 L) (fun r17 S17 => some (r17, S17))
set_option maxRecDepth 20000 in
def nX6_about (S : Nat → Nat → Int32) (L : Nat → Nat → Int64) (p1 : Int32) (p2 : Int32) : Option (Int32 × (Nat → Nat → Int32)) := k_b1 (nX6_isThing S L p1) (fun r2 => if r2 = 0 then nX6_about_j16 S L else k_b1 (nX6_upTo p2 (5 : Int32)) (fun r10 => if r10 = 0 then nX6_about_j16 S L else if p2 = (0 : Int32) then if p1 < 0 ∨ 5 ≤ p1.toNatClampNeg then none else some ((S 6 p1.toNatClampNeg), S) else if p2 = (1 : Int32) then if p1 < 0 ∨ 5 ≤ p1.toNatClampNeg then none else some ((S 7 p1.toNatClampNeg), S) else if p2 = (2 : Int32) then if p1 < 0 ∨ 5 ≤ p1.toNatClampNeg then none else some ((S 8 p1.toNatClampNeg), S) else if p2 = (3 : Int32) then if p1 < 0 ∨ 5 ≤ p1.toNatClampNeg then none else some ((S 9 p1.toNatClampNeg), S) else if p1 < 0 ∨ 5 ≤ p1.toNatClampNeg then none else some ((S 10 p1.toNatClampNeg), S)))
-- LeastNeed.shows(II)I
set_option maxRecDepth 20000 in
def nX6_shows_j16 (S_16 : Nat → Nat → Int32) (L : Nat → Nat → Int64) : Option (Int32 × (Nat → Nat → Int32)) := k_b2 (nX6_refusedAsBad S_16 L) (fun r17 S17 => some (r17, S17))
set_option maxRecDepth 20000 in
def nX6_shows (S : Nat → Nat → Int32) (L : Nat → Nat → Int64) (p1 : Int32) (p2 : Int32) : Option (Int32 × (Nat → Nat → Int32)) := k_b1 (nX6_isPerson S L p1) (fun r2 => if r2 = 0 then nX6_shows_j16 S L else k_b1 (nX6_upTo p2 (4 : Int32)) (fun r10 => if r10 = 0 then nX6_shows_j16 S L else k_b1 (nX5_shown (k_wi S 1) p1 p2 (S 1 14)) (fun r34 => some (r34, S))))
-- LeastNeed.comes(I)I
set_option maxRecDepth 20000 in
def nX6_comes (S : Nat → Nat → Int32) (L : Nat → Nat → Int64) (p1 : Int32) : Option (Int32 × (Nat → Nat → Int32)) := k_b1 (nX6_isThing S L p1) (fun r2 => if r2 = 0 then k_b2 (nX6_refusedAsBad S L) (fun r9 S9 => some (r9, S9)) else if p1 < 0 ∨ 5 ≤ p1.toNatClampNeg then none else k_b1 (nX5_nextOf (k_wi S 1) p1 (S 9 p1.toNatClampNeg)) (fun r27 => some (r27, S)))
-- LeastNeed.chain(II)I
set_option maxRecDepth 20000 in
def nX6_chain_l35 (p1 : Int32) (p2 : Int32) (x3_35 : Int32) (x4_35 : Int32) (S_35 : Nat → Nat → Int32) (L : Nat → Nat → Int64) : Option ((Int32 × Int32) ⊕ (Int32 × (Nat → Nat → Int32))) := if p2 ≤ x4_35 then k_up (some (x3_35, S_35)) else if x3_35 = (-1 : Int32) then k_up (some (x3_35, S_35)) else k_b1 (nX5_nextOf (k_wi S_35 1) p1 x3_35) (fun r52 => some (.inl (r52, (x4_35 + (1 : Int32)))))
set_option maxRecDepth 20000 in
def nX6_chain_j17 (S_17 : Nat → Nat → Int32) (L : Nat → Nat → Int64) : Option (Int32 × (Nat → Nat → Int32)) := k_b2 (nX6_refusedAsBad S_17 L) (fun r18 S18 => some (r18, S18))
set_option maxRecDepth 20000 in
def nX6_chain (S : Nat → Nat → Int32) (L : Nat → Nat → Int64) (p1 : Int32) (p2 : Int32) : Option (Int32 × (Nat → Nat → Int32)) := k_b1 (nX6_isThing S L p1) (fun r2 => if r2 = 0 then nX6_chain_j17 S L else k_b1 (nX6_upTo p2 (51 : Int32)) (fun r11 => if r11 = 0 then nX6_chain_j17 S L else if p1 < 0 ∨ 5 ≤ p1.toNatClampNeg then none else k_it (fun st => nX6_chain_l35 p1 p2 st.1 st.2 S L) 1000 ((S 9 p1.toNatClampNeg), (0 : Int32))))
-- LeastNeed.placeIn([III)I
set_option maxRecDepth 20000 in
def nX6_placeIn_l2 (N : Nat) (p1 : Int32) (p2 : Int32) (x3_2 : Int32) (S : Nat → Nat → Int32) : Option ((Int32) ⊕ (Int32)) := if p1 ≤ x3_2 then k_up (some (-1 : Int32)) else if (Int32.ofNat N) ≤ x3_2 then k_up (some (-1 : Int32)) else if x3_2 < 0 ∨ N ≤ x3_2.toNatClampNeg then none else if (S 0 x3_2.toNatClampNeg) = p2 then k_up (some x3_2) else some (.inl (x3_2 + (1 : Int32)))
set_option maxRecDepth 20000 in
def nX6_placeIn (N : Nat) (S : Nat → Nat → Int32) (p1 : Int32) (p2 : Int32) : Option (Int32) := k_it (fun st => nX6_placeIn_l2 N p1 p2 st S) 1000 (0 : Int32)
-- LeastNeed.ring(II)I
set_option maxRecDepth 20000 in
def nX6_ring_j93 (p2 : Int32) (x3_93 : Int32) (x5_93 : Int32) (S_93 : Nat → Nat → Int32) (L : Nat → Nat → Int64) : Option (Int32 × (Nat → Nat → Int32)) := if p2 = 0 then some (x3_93, S_93) else if x5_93 = (-1 : Int32) then some ((0 : Int32), S_93) else some ((x3_93 - x5_93), S_93)
set_option maxRecDepth 20000 in
def nX6_ring_l37 (p1 : Int32) (p2 : Int32) (x3_37 : Int32) (x4_37 : Int32) (x5_37 : Int32) (S_37 : Nat → Nat → Int32) (L : Nat → Nat → Int64) : Option ((Int32 × Int32 × Int32 × (Nat → Nat → Int32)) ⊕ (Int32 × (Nat → Nat → Int32))) := if (7 : Int32) ≤ x3_37 then k_up (nX6_ring_j93 p2 x3_37 x5_37 S_37 L) else if x4_37 = (-1 : Int32) then k_up (nX6_ring_j93 p2 x3_37 x5_37 S_37 L) else if x5_37 = (-1 : Int32) then if x3_37 < 0 ∨ 8 ≤ x3_37.toNatClampNeg then none else k_b1 (nX5_nextOf (k_wi (k_w S_37 77 x3_37.toNatClampNeg x4_37) 1) p1 x4_37) (fun r73 => k_b1 (nX6_placeIn 8 (k_wi (k_w S_37 77 x3_37.toNatClampNeg x4_37) 77) (x3_37 + (1 : Int32)) r73) (fun r85 => some (.inl ((x3_37 + (1 : Int32)), r73, r85, (k_w S_37 77 x3_37.toNatClampNeg x4_37))))) else k_up (nX6_ring_j93 p2 x3_37 x5_37 S_37 L)
set_option maxRecDepth 20000 in
def nX6_ring_j16 (S_16 : Nat → Nat → Int32) (L : Nat → Nat → Int64) : Option (Int32 × (Nat → Nat → Int32)) := k_b2 (nX6_refusedAsBad S_16 L) (fun r17 S17 => some (r17, S17))
set_option maxRecDepth 20000 in
def nX6_ring (S : Nat → Nat → Int32) (L : Nat → Nat → Int64) (p1 : Int32) (p2 : Int32) : Option (Int32 × (Nat → Nat → Int32)) := k_b1 (nX6_isThing S L p1) (fun r2 => if r2 = 0 then nX6_ring_j16 S L else k_b1 (nX6_upTo p2 (2 : Int32)) (fun r10 => if r10 = 0 then nX6_ring_j16 S L else if p1 < 0 ∨ 5 ≤ p1.toNatClampNeg then none else k_it (fun st => nX6_ring_l37 p1 p2 st.1 st.2.1 st.2.2.1 st.2.2.2 L) 1000 ((0 : Int32), (S 9 p1.toNatClampNeg), (-1 : Int32), S)))
-- LeastNeed.send(III)I
set_option maxRecDepth 20000 in
def nX6_send_j24 (S_24 : Nat → Nat → Int32) (L_24 : Nat → Nat → Int64) : Option (Int32 × (Nat → Nat → Int32) × (Nat → Nat → Int64)) := k_b2 (nX6_refusedAsBad S_24 L_24) (fun r25 S25 => some (r25, S25, L_24))
set_option maxRecDepth 20000 in
def nX6_send (S : Nat → Nat → Int32) (L : Nat → Nat → Int64) (p1 : Int32) (p2 : Int32) (p3 : Int32) : Option (Int32 × (Nat → Nat → Int32) × (Nat → Nat → Int64)) := k_b1 (nX6_isThing S L p1) (fun r2 => if r2 = 0 then nX6_send_j24 S L else k_b1 (nX6_isPerson S L p2) (fun r10 => if r10 = 0 then nX6_send_j24 S L else k_b1 (nX6_upTo p3 (2 : Int32)) (fun r18 => if r18 = 0 then nX6_send_j24 S L else k_b3 (nX0_fewestDays (k_wi S 70) (k_wi L 70) (k_wi S 1) p1 p2) (fun r39 S39 L39 => if r39 = (-1 : Int32) then some (r39, (k_sp S 70 5 S39), (k_sp L 70 5 L39)) else if p3 = 0 then some (r39, (k_sp S 70 5 S39), (k_sp L 70 5 L39)) else some (((k_sp S 70 5 S39) 70 4), (k_sp S 70 5 S39), (k_sp L 70 5 L39))))))
-- LeastNeed.wears(III)I
set_option maxRecDepth 20000 in
def nX6_wears_i58_j116 (p1 : Int32) (p2 : Int32) (p3 : Int32) (x4_116 : Int32) (w0_116 : Int32) (w1_116 : Int32) (S_116 : Nat → Nat → Int32) (L : Nat → Nat → Int64) : Option ((Int32 × (Nat → Nat → Int32)) ⊕ (Int32 × (Nat → Nat → Int32))) := if w1_116 = w0_116 then k_up (some (x4_116, S_116)) else some (.inl ((x4_116 + (1 : Int32)), S_116))
set_option maxRecDepth 20000 in
def nX6_wears_i58_j102 (p1 : Int32) (p2 : Int32) (p3 : Int32) (x4_102 : Int32) (w0_102 : Int32) (S_102 : Nat → Nat → Int32) (L : Nat → Nat → Int64) : Option ((Int32 × (Nat → Nat → Int32)) ⊕ (Int32 × (Nat → Nat → Int32))) := if p3 = (1 : Int32) then nX6_wears_i58_j116 p1 p2 p3 x4_102 (1 : Int32) w0_102 S_102 L else nX6_wears_i58_j116 p1 p2 p3 x4_102 (0 : Int32) w0_102 S_102 L
set_option maxRecDepth 20000 in
def nX6_wears_l58 (p1 : Int32) (p2 : Int32) (p3 : Int32) (x4_58 : Int32) (S_58 : Nat → Nat → Int32) (L : Nat → Nat → Int64) : Option ((Int32 × (Nat → Nat → Int32)) ⊕ (Int32 × (Nat → Nat → Int32))) := if (10 : Int32) ≤ x4_58 then k_up (some ((-1 : Int32), S_58)) else if p1 < 0 ∨ 7 ≤ p1.toNatClampNeg then none else if p2 < 0 ∨ 5 ≤ p2.toNatClampNeg then none else k_b1 (nX5_nextOf (k_wi (k_w S_58 20 p1.toNatClampNeg x4_58) 17) p2 ((k_w S_58 20 p1.toNatClampNeg x4_58) 25 p2.toNatClampNeg)) (fun r90 => if r90 = p1 then nX6_wears_i58_j102 p1 p2 p3 x4_58 (1 : Int32) (k_w S_58 20 p1.toNatClampNeg x4_58) L else nX6_wears_i58_j102 p1 p2 p3 x4_58 (0 : Int32) (k_w S_58 20 p1.toNatClampNeg x4_58) L)
set_option maxRecDepth 20000 in
def nX6_wears_j24 (S_24 : Nat → Nat → Int32) (L : Nat → Nat → Int64) : Option (Int32 × (Nat → Nat → Int32)) := k_b2 (nX6_refusedAsBad S_24 L) (fun r25 S25 => some (r25, S25))
set_option maxRecDepth 20000 in
def nX6_wears (S : Nat → Nat → Int32) (L : Nat → Nat → Int64) (p1 : Int32) (p2 : Int32) (p3 : Int32) : Option (Int32 × (Nat → Nat → Int32)) := k_b1 (nX6_isPerson S L p1) (fun r2 => if r2 = 0 then nX6_wears_j24 S L else k_b1 (nX6_isThing S L p2) (fun r10 => if r10 = 0 then nX6_wears_j24 S L else k_b1 (nX6_upTo p3 (2 : Int32)) (fun r18 => if r18 = 0 then nX6_wears_j24 S L else if p2 < 0 ∨ 5 ≤ p2.toNatClampNeg then none else if (S 9 p2.toNatClampNeg) = p1 then some ((-1 : Int32), S) else k_b1 (nX5_copyOf (k_wi S 17) (k_wi S 1)) (fun S52 => k_it (fun st => nX6_wears_l58 p1 p2 p3 st.1 st.2 L) 1000 ((0 : Int32), (k_sp S 17 16 S52))))))
-- LeastNeed.costs()I
set_option maxRecDepth 20000 in
def nX6_costs_l4 (x1_4 : Int32) (x2_4 : Int32) (S : Nat → Nat → Int32) (L : Nat → Nat → Int64) : Option ((Int32 × Int32) ⊕ (Int32)) := if (S 1 13) ≤ x2_4 then k_up (some x1_4) else k_b1 (nX5_isAway (k_wi S 1) x2_4) (fun r20 => if r20 = 0 then some (.inl (x1_4, (x2_4 + (1 : Int32)))) else k_b1 (nX5_askedFor (k_wi S 1) x2_4) (fun r32 => some (.inl ((x1_4 + r32), (x2_4 + (1 : Int32))))))
set_option maxRecDepth 20000 in
def nX6_costs (S : Nat → Nat → Int32) (L : Nat → Nat → Int64) : Option (Int32) := k_it (fun st => nX6_costs_l4 st.1 st.2 S L) 1000 ((0 : Int32), (0 : Int32))
-- LeastNeed.sortAsked()I
set_option maxRecDepth 20000 in
def nX6_sortAsked_i4_j81 (x1_81 : Int32) (x2_81 : Int32) (x3_81 : Int32) (x4_81 : Int32) (S_81 : Nat → Nat → Int32) (L : Nat → Nat → Int64) : Option ((Int32 × Int32 × (Nat → Nat → Int32)) ⊕ (Int32 × (Nat → Nat → Int32))) := if x4_81 < 0 ∨ 8 ≤ x4_81.toNatClampNeg then none else some (.inl ((x1_81 + (1 : Int32)), (x2_81 + (1 : Int32)), (k_w S_81 77 x4_81.toNatClampNeg x3_81)))
set_option maxRecDepth 20000 in
def nX6_sortAsked_i4_l41 (x1_41 : Int32) (x2_41 : Int32) (x3_41 : Int32) (x4_41 : Int32) (S_41 : Nat → Nat → Int32) (L : Nat → Nat → Int64) : Option ((Int32 × (Nat → Nat → Int32)) ⊕ ((Int32 × Int32 × (Nat → Nat → Int32)) ⊕ (Int32 × (Nat → Nat → Int32)))) := if x4_41 ≤ 0 then k_up (nX6_sortAsked_i4_j81 x1_41 x2_41 x3_41 x4_41 S_41 L) else if (x4_41 - (1 : Int32)) < 0 ∨ 8 ≤ (x4_41 - (1 : Int32)).toNatClampNeg then none else if (S_41 77 (x4_41 - (1 : Int32)).toNatClampNeg) ≤ x3_41 then k_up (nX6_sortAsked_i4_j81 x1_41 x2_41 x3_41 x4_41 S_41 L) else if (x4_41 - (1 : Int32)) < 0 ∨ 8 ≤ (x4_41 - (1 : Int32)).toNatClampNeg then none else if x4_41 < 0 ∨ 8 ≤ x4_41.toNatClampNeg then none else some (.inl ((x4_41 + (-1 : Int32)), (k_w S_41 77 x4_41.toNatClampNeg (S_41 77 (x4_41 - (1 : Int32)).toNatClampNeg))))
set_option maxRecDepth 20000 in
def nX6_sortAsked_l4 (x1_4 : Int32) (x2_4 : Int32) (S_4 : Nat → Nat → Int32) (L : Nat → Nat → Int64) : Option ((Int32 × Int32 × (Nat → Nat → Int32)) ⊕ (Int32 × (Nat → Nat → Int32))) := if (S_4 1 13) ≤ x2_4 then k_up (some (x1_4, S_4)) else k_b1 (nX5_isAway (k_wi S_4 1) x2_4) (fun r20 => if r20 = 0 then some (.inl (x1_4, (x2_4 + (1 : Int32)), S_4)) else k_b1 (nX5_askedFor (k_wi S_4 1) x2_4) (fun r34 => k_it (fun st => nX6_sortAsked_i4_l41 x1_4 x2_4 r34 st.1 st.2 L) 1000 (x1_4, S_4)))
set_option maxRecDepth 20000 in
def nX6_sortAsked (S : Nat → Nat → Int32) (L : Nat → Nat → Int64) : Option (Int32 × (Nat → Nat → Int32)) := k_it (fun st => nX6_sortAsked_l4 st.1 st.2.1 st.2.2 L) 1000 ((0 : Int32), (0 : Int32), S)
-- LeastNeed.few(I)I
set_option maxRecDepth 20000 in
def nX6_few_l25 (x2_25 : Int32) (x3_25 : Int32) (x4_25 : Int32) (S_25 : Nat → Nat → Int32) (L : Nat → Nat → Int64) : Option ((Int32 × Int32) ⊕ (Int32 × (Nat → Nat → Int32))) := if x2_25 ≤ x4_25 then k_up (some (x4_25, S_25)) else if x4_25 < 0 ∨ 8 ≤ x4_25.toNatClampNeg then none else if x3_25 < (S_25 77 x4_25.toNatClampNeg) then k_up (some (x4_25, S_25)) else if x4_25 < 0 ∨ 8 ≤ x4_25.toNatClampNeg then none else some (.inl ((x3_25 - (S_25 77 x4_25.toNatClampNeg)), (x4_25 + (1 : Int32))))
set_option maxRecDepth 20000 in
def nX6_few (S : Nat → Nat → Int32) (L : Nat → Nat → Int64) (p1 : Int32) : Option (Int32 × (Nat → Nat → Int32)) := k_b1 (nX6_upTo p1 (201 : Int32)) (fun r4 => if r4 = 0 then k_b2 (nX6_refusedAsBad S L) (fun r11 S11 => some (r11, S11)) else k_b2 (nX6_sortAsked S L) (fun r16 S16 => k_it (fun st => nX6_few_l25 r16 st.1 st.2 S16 L) 1000 (p1, (0 : Int32))))
-- LeastNeed.loser(II)I
set_option maxRecDepth 20000 in
def nX6_loser_l26 (p1 : Int32) (p2 : Int32) (x3_26 : Int32) (x4_26 : Int32) (S_26 : Nat → Nat → Int32) (L : Nat → Nat → Int64) : Option ((Int32 × Int32) ⊕ (Int32 × (Nat → Nat → Int32))) := if (S_26 1 12) ≤ x4_26 then k_up (some (x3_26, S_26)) else k_b1 (nX5_nextOf (k_wi S_26 1) p1 x4_26) (fun r45 => if r45 = p2 then some (.inl ((x3_26 ||| ((1 : Int32) <<< (x4_26 &&& 31))), (x4_26 + (1 : Int32)))) else some (.inl (x3_26, (x4_26 + (1 : Int32)))))
set_option maxRecDepth 20000 in
def nX6_loser_j16 (S_16 : Nat → Nat → Int32) (L : Nat → Nat → Int64) : Option (Int32 × (Nat → Nat → Int32)) := k_b2 (nX6_refusedAsBad S_16 L) (fun r17 S17 => some (r17, S17))
set_option maxRecDepth 20000 in
def nX6_loser (S : Nat → Nat → Int32) (L : Nat → Nat → Int64) (p1 : Int32) (p2 : Int32) : Option (Int32 × (Nat → Nat → Int32)) := k_b1 (nX6_isThing S L p1) (fun r2 => if r2 = 0 then nX6_loser_j16 S L else k_b1 (nX6_isPerson S L p2) (fun r10 => if r10 = 0 then nX6_loser_j16 S L else k_it (fun st => nX6_loser_l26 p1 p2 st.1 st.2 S L) 1000 ((0 : Int32), (0 : Int32))))
-- LeastNeed.note(IIIIII)I
set_option maxRecDepth 20000 in
def nX6_note_j67 (S_67 : Nat → Nat → Int32) (L : Nat → Nat → Int64) : Option (Int32 × (Nat → Nat → Int32)) := k_b2 (nX6_refusedAsBad S_67 L) (fun r68 S68 => some (r68, S68))
set_option maxRecDepth 20000 in
def nX6_note_j31 (p1 : Int32) (p2 : Int32) (p3 : Int32) (p4 : Int32) (p5 : Int32) (p6 : Int32) (w0_31 : Int32) (S_31 : Nat → Nat → Int32) (L : Nat → Nat → Int64) : Option (Int32 × (Nat → Nat → Int32)) := if w0_31 = 0 then nX6_note_j67 S_31 L else k_b1 (nX6_upTo p4 (4 : Int32)) (fun r41 => if r41 = 0 then nX6_note_j67 S_31 L else k_b1 (nX6_upTo p5 (100 : Int32)) (fun r51 => if r51 = 0 then nX6_note_j67 S_31 L else k_b1 (nX6_upTo p6 (31 : Int32)) (fun r61 => if r61 = 0 then nX6_note_j67 S_31 L else k_b1 (nX3_isFull 36 (6 : Int32) (6 : Int32) (k_wi S_31 11)) (fun r79 => if r79 = 0 then k_b1 (nX3_begin 36 (6 : Int32) (6 : Int32) (k_wi S_31 11)) (fun S97 => k_b1 (nX3_put 36 (6 : Int32) (6 : Int32) (k_wi (k_sp S_31 11 2 S97) 11) (0 : Int32) p1) (fun S109 => k_b1 (nX3_put 36 (6 : Int32) (6 : Int32) (k_wi (k_sp (k_sp S_31 11 2 S97) 11 2 S109) 11) (1 : Int32) p2) (fun S121 => k_b1 (nX3_put 36 (6 : Int32) (6 : Int32) (k_wi (k_sp (k_sp (k_sp S_31 11 2 S97) 11 2 S109) 11 2 S121) 11) (2 : Int32) p3) (fun S133 => k_b1 (nX3_put 36 (6 : Int32) (6 : Int32) (k_wi (k_sp (k_sp (k_sp (k_sp S_31 11 2 S97) 11 2 S109) 11 2 S121) 11 2 S133) 11) (3 : Int32) p4) (fun S146 => k_b1 (nX3_put 36 (6 : Int32) (6 : Int32) (k_wi (k_sp (k_sp (k_sp (k_sp (k_sp S_31 11 2 S97) 11 2 S109) 11 2 S121) 11 2 S133) 11 2 S146) 11) (4 : Int32) p5) (fun S159 => k_b1 (nX3_put 36 (6 : Int32) (6 : Int32) (k_wi (k_sp (k_sp (k_sp (k_sp (k_sp (k_sp S_31 11 2 S97) 11 2 S109) 11 2 S121) 11 2 S133) 11 2 S146) 11 2 S159) 11) (5 : Int32) p6) (fun S172 => some (((k_sp (k_sp (k_sp (k_sp (k_sp (k_sp (k_sp S_31 11 2 S97) 11 2 S109) 11 2 S121) 11 2 S133) 11 2 S146) 11 2 S159) 11 2 S172) 11 3), (k_sp (k_sp (k_sp (k_sp (k_sp (k_sp (k_sp S_31 11 2 S97) 11 2 S109) 11 2 S121) 11 2 S133) 11 2 S146) 11 2 S159) 11 2 S172))))))))) else k_b2 (nX6_refusedAsFull S_31 L) (fun r86 S86 => some (r86, S86))))))
set_option maxRecDepth 20000 in
def nX6_note_j30 (p1 : Int32) (p2 : Int32) (p3 : Int32) (p4 : Int32) (p5 : Int32) (p6 : Int32) (S_30 : Nat → Nat → Int32) (L : Nat → Nat → Int64) : Option (Int32 × (Nat → Nat → Int32)) := nX6_note_j31 p1 p2 p3 p4 p5 p6 (0 : Int32) S_30 L
set_option maxRecDepth 20000 in
def nX6_note (S : Nat → Nat → Int32) (L : Nat → Nat → Int64) (p1 : Int32) (p2 : Int32) (p3 : Int32) (p4 : Int32) (p5 : Int32) (p6 : Int32) : Option (Int32 × (Nat → Nat → Int32)) := k_b1 (nX6_isPerson S L p1) (fun r2 => if r2 = 0 then nX6_note_j30 p1 p2 p3 p4 p5 p6 S L else k_b1 (nX6_upTo p2 (10 : Int32)) (fun r11 => if r11 = 0 then nX6_note_j30 p1 p2 p3 p4 p5 p6 S L else k_b1 (nX6_upTo p3 (10 : Int32)) (fun r20 => if r20 = 0 then nX6_note_j30 p1 p2 p3 p4 p5 p6 S L else nX6_note_j31 p1 p2 p3 p4 p5 p6 (1 : Int32) S L)))
-- LeastNeed.came(IIII)I
set_option maxRecDepth 20000 in
def nX6_came_j63 (p1 : Int32) (p2 : Int32) (p3 : Int32) (p4 : Int32) (S_63 : Nat → Nat → Int32) (L : Nat → Nat → Int64) : Option (Int32 × (Nat → Nat → Int32)) := k_b1 (nX3_isFull 24 (4 : Int32) (6 : Int32) (k_wi S_63 13)) (fun r70 => if r70 = 0 then k_b1 (nX3_begin 24 (4 : Int32) (6 : Int32) (k_wi S_63 13)) (fun S88 => k_b1 (nX3_put 24 (4 : Int32) (6 : Int32) (k_wi (k_sp S_63 13 2 S88) 13) (0 : Int32) p1) (fun S100 => k_b1 (nX3_put 24 (4 : Int32) (6 : Int32) (k_wi (k_sp (k_sp S_63 13 2 S88) 13 2 S100) 13) (1 : Int32) p2) (fun S112 => k_b1 (nX3_put 24 (4 : Int32) (6 : Int32) (k_wi (k_sp (k_sp (k_sp S_63 13 2 S88) 13 2 S100) 13 2 S112) 13) (2 : Int32) p3) (fun S124 => k_b1 (nX3_put 24 (4 : Int32) (6 : Int32) (k_wi (k_sp (k_sp (k_sp (k_sp S_63 13 2 S88) 13 2 S100) 13 2 S112) 13 2 S124) 13) (3 : Int32) p4) (fun S137 => some (((k_sp (k_sp (k_sp (k_sp (k_sp S_63 13 2 S88) 13 2 S100) 13 2 S112) 13 2 S124) 13 2 S137) 13 3), (k_sp (k_sp (k_sp (k_sp (k_sp S_63 13 2 S88) 13 2 S100) 13 2 S112) 13 2 S124) 13 2 S137))))))) else k_b2 (nX6_refusedAsFull S_63 L) (fun r77 S77 => some (r77, S77)))
set_option maxRecDepth 20000 in
def nX6_came_j58 (S_58 : Nat → Nat → Int32) (L : Nat → Nat → Int64) : Option (Int32 × (Nat → Nat → Int32)) := k_b2 (nX6_refusedAsBad S_58 L) (fun r59 S59 => some (r59, S59))
set_option maxRecDepth 20000 in
def nX6_came_j30 (p1 : Int32) (p2 : Int32) (p3 : Int32) (p4 : Int32) (w0_30 : Int32) (S_30 : Nat → Nat → Int32) (L : Nat → Nat → Int64) : Option (Int32 × (Nat → Nat → Int32)) := if w0_30 = 0 then nX6_came_j58 S_30 L else if p2 = p4 then nX6_came_j58 S_30 L else if p4 = (-1 : Int32) then nX6_came_j63 p1 p2 p3 p4 S_30 L else k_b1 (nX6_isPerson S_30 L p4) (fun r52 => if r52 = 0 then nX6_came_j58 S_30 L else nX6_came_j63 p1 p2 p3 p4 S_30 L)
set_option maxRecDepth 20000 in
def nX6_came_j29 (p1 : Int32) (p2 : Int32) (p3 : Int32) (p4 : Int32) (S_29 : Nat → Nat → Int32) (L : Nat → Nat → Int64) : Option (Int32 × (Nat → Nat → Int32)) := nX6_came_j30 p1 p2 p3 p4 (0 : Int32) S_29 L
set_option maxRecDepth 20000 in
def nX6_came (S : Nat → Nat → Int32) (L : Nat → Nat → Int64) (p1 : Int32) (p2 : Int32) (p3 : Int32) (p4 : Int32) : Option (Int32 × (Nat → Nat → Int32)) := k_b1 (nX6_isThing S L p1) (fun r2 => if r2 = 0 then nX6_came_j29 p1 p2 p3 p4 S L else k_b1 (nX6_isPerson S L p2) (fun r10 => if r10 = 0 then nX6_came_j29 p1 p2 p3 p4 S L else k_b1 (nX6_upTo p3 (100 : Int32)) (fun r19 => if r19 = 0 then nX6_came_j29 p1 p2 p3 p4 S L else nX6_came_j30 p1 p2 p3 p4 (1 : Int32) S L)))
-- LeastNeed.forget(I)I
set_option maxRecDepth 20000 in
def nX6_forget_j34a (S_34a : Nat → Nat → Int32) (L : Nat → Nat → Int64) : Option (Int32 × (Nat → Nat → Int32)) := some ((S_34a 11 3), (k_w S_34a 11 3 (0 : Int32)))
set_option maxRecDepth 20000 in
def nX6_forget_j34 (S_34 : Nat → Nat → Int32) (L : Nat → Nat → Int64) : Option (Int32 × (Nat → Nat → Int32)) := some ((S_34 13 3), (k_w S_34 13 3 (0 : Int32)))
set_option maxRecDepth 20000 in
def nX6_forget (S : Nat → Nat → Int32) (L : Nat → Nat → Int64) (p1 : Int32) : Option (Int32 × (Nat → Nat → Int32)) := k_b1 (nX6_upTo p1 (2 : Int32)) (fun r2 => if r2 = 0 then k_b2 (nX6_refusedAsBad S L) (fun r9 S9 => some (r9, S9)) else if p1 = 0 then nX6_forget_j34a S L else nX6_forget_j34 S L)
-- LeastNeed.is(I)I
set_option maxRecDepth 20000 in
def nX6_is (S : Nat → Nat → Int32) (L : Nat → Nat → Int64) (p1 : Int32) : Option (Int32 × (Nat → Nat → Int32)) := k_b1 (nX6_isPerson S L p1) (fun r2 => if r2 = 0 then k_b2 (nX6_refusedAsBad S L) (fun r9 S9 => some (r9, S9)) else k_b1 (nX5_kindsByNotes (k_wi S 1) p1) (fun r18 => some (r18, S)))
-- LeastNeed.mostAlike([II)I
set_option maxRecDepth 20000 in
def nX6_mostAlike_i4_l16 (N : Nat) (p1 : Int32) (x2_16 : Int32) (x3_16 : Int32) (x4_16 : Int32) (x5_16 : Int32) (S : Nat → Nat → Int32) : Option ((Int32 × Int32) ⊕ ((Int32 × Int32) ⊕ (Int32))) := if (Int32.ofNat N) ≤ x5_16 then k_up (if ((p1 >>> (x3_16 &&& 31)) &&& (1 : Int32)) = (1 : Int32) then if x4_16 ≤ x2_16 then some (.inl (x2_16, (x3_16 + (1 : Int32)))) else some (.inl (x4_16, (x3_16 + (1 : Int32)))) else some (.inl (x2_16, (x3_16 + (1 : Int32))))) else if ((p1 >>> (x5_16 &&& 31)) &&& (1 : Int32)) = (1 : Int32) then if x5_16 < 0 ∨ N ≤ x5_16.toNatClampNeg then none else if x3_16 < 0 ∨ N ≤ x3_16.toNatClampNeg then none else if (S 0 x5_16.toNatClampNeg) = (S 0 x3_16.toNatClampNeg) then some (.inl ((x4_16 + (1 : Int32)), (x5_16 + (1 : Int32)))) else some (.inl (x4_16, (x5_16 + (1 : Int32)))) else some (.inl (x4_16, (x5_16 + (1 : Int32))))
set_option maxRecDepth 20000 in
def nX6_mostAlike_l4 (N : Nat) (p1 : Int32) (x2_4 : Int32) (x3_4 : Int32) (S : Nat → Nat → Int32) : Option ((Int32 × Int32) ⊕ (Int32)) := if (Int32.ofNat N) ≤ x3_4 then k_up (some x2_4) else k_it (fun st => nX6_mostAlike_i4_l16 N p1 x2_4 x3_4 st.1 st.2 S) 1000 ((0 : Int32), (0 : Int32))
set_option maxRecDepth 20000 in
def nX6_mostAlike (N : Nat) (S : Nat → Nat → Int32) (p1 : Int32) : Option (Int32) := k_it (fun st => nX6_mostAlike_l4 N p1 st.1 st.2 S) 1000 ((0 : Int32), (0 : Int32))
-- LeastNeed.watch(I)I
set_option maxRecDepth 20000 in
def nX6_watch_i31_l52 (p1 : Int32) (x2_31 : Int32) (x3_52 : Int32) (x4_52 : Int32) (x5_52 : Int32) (x6_52 : Int32) (x7_52 : Int32) (S_52 : Nat → Nat → Int32) (L : Nat → Nat → Int64) : Option ((Int32 × (Nat → Nat → Int32)) ⊕ ((Int32 × Int32 × Int32 × (Nat → Nat → Int32)) ⊕ (Int32 × (Nat → Nat → Int32)))) := if (6 : Int32) ≤ x7_52 then k_up (k_b1 (nX6_mostAlike 6 (k_wi S_52 76) x2_31) (fun r112 => if x4_52 ≤ r112 then some (.inl (x3_52, x4_52, (x5_52 + (1 : Int32)), S_52)) else some (.inl (x5_52, r112, (x5_52 + (1 : Int32)), S_52)))) else if (((4 : Int32) * p1) + x6_52) < 0 ∨ 28 ≤ (((4 : Int32) * p1) + x6_52).toNatClampNeg then none else if p1 < 0 ∨ 7 ≤ p1.toNatClampNeg then none else k_b1 (nX1_shown x7_52 (S_52 5 (((4 : Int32) * p1) + x6_52).toNatClampNeg) (S_52 4 p1.toNatClampNeg) x6_52 (x5_52 - x5_52 / (10 : Int32) * (10 : Int32))) (fun r97 => if x7_52 < 0 ∨ 6 ≤ x7_52.toNatClampNeg then none else some (.inl ((x7_52 + (1 : Int32)), (k_w S_52 76 x7_52.toNatClampNeg r97))))
set_option maxRecDepth 20000 in
def nX6_watch_l31 (p1 : Int32) (x2_31 : Int32) (x3_31 : Int32) (x4_31 : Int32) (x5_31 : Int32) (S_31 : Nat → Nat → Int32) (L : Nat → Nat → Int64) : Option ((Int32 × Int32 × Int32 × (Nat → Nat → Int32)) ⊕ (Int32 × (Nat → Nat → Int32))) := if (40 : Int32) ≤ x5_31 then k_up (some (x3_31, S_31)) else if x2_31 = 0 then k_up (some (x3_31, S_31)) else k_it (fun st => nX6_watch_i31_l52 p1 x2_31 x3_31 x4_31 x5_31 (x5_31 / (10 : Int32)) st.1 st.2 L) 1000 ((0 : Int32), S_31)
set_option maxRecDepth 20000 in
def nX6_watch (S : Nat → Nat → Int32) (L : Nat → Nat → Int64) (p1 : Int32) : Option (Int32 × (Nat → Nat → Int32)) := k_b1 (nX6_isPerson S L p1) (fun r2 => if r2 = 0 then k_b2 (nX6_refusedAsBad S L) (fun r9 S9 => some (r9, S9)) else k_b1 (nX5_kindsByNotes (k_wi S 1) p1) (fun r18 => k_it (fun st => nX6_watch_l31 p1 r18 st.1 st.2.1 st.2.2.1 st.2.2.2 L) 1000 ((-1 : Int32), (7 : Int32), (0 : Int32), S)))
-- LeastNeed.kinds(I)I
set_option maxRecDepth 20000 in
def nX6_kinds (S : Nat → Nat → Int32) (L : Nat → Nat → Int64) (p1 : Int32) : Option (Int32 × (Nat → Nat → Int32)) := k_b1 (nX6_isThing S L p1) (fun r2 => if r2 = 0 then k_b2 (nX6_refusedAsBad S L) (fun r9 S9 => some (r9, S9)) else k_b1 (nX5_kindsByComings (k_wi S 1) p1) (fun r18 => some (r18, S)))
-- LeastNeed.by(I)I
set_option maxRecDepth 20000 in
def nX6_by_i31_l50 (p1 : Int32) (x2_31 : Int32) (x3_50 : Int32) (x4_50 : Int32) (x5_50 : Int32) (x6_50 : Int32) (S_50 : Nat → Nat → Int32) (L : Nat → Nat → Int64) : Option ((Int32 × (Nat → Nat → Int32)) ⊕ ((Int32 × Int32 × Int32 × (Nat → Nat → Int32)) ⊕ (Int32 × (Nat → Nat → Int32)))) := if (6 : Int32) ≤ x6_50 then k_up (k_b1 (nX6_mostAlike 6 (k_wi S_50 76) x2_31) (fun r102 => if x4_50 ≤ r102 then some (.inl (x3_50, x4_50, (x5_50 + (1 : Int32)), S_50)) else some (.inl (x5_50, r102, (x5_50 + (1 : Int32)), S_50)))) else if p1 < 0 ∨ 5 ≤ p1.toNatClampNeg then none else k_b1 (nX5_goesTo (k_wi S_50 1) x6_50 (S_50 7 p1.toNatClampNeg) x5_50 (S_50 1 14)) (fun r87 => if x6_50 < 0 ∨ 6 ≤ x6_50.toNatClampNeg then none else some (.inl ((x6_50 + (1 : Int32)), (k_w S_50 76 x6_50.toNatClampNeg r87))))
set_option maxRecDepth 20000 in
def nX6_by_l31 (p1 : Int32) (x2_31 : Int32) (x3_31 : Int32) (x4_31 : Int32) (x5_31 : Int32) (S_31 : Nat → Nat → Int32) (L : Nat → Nat → Int64) : Option ((Int32 × Int32 × Int32 × (Nat → Nat → Int32)) ⊕ (Int32 × (Nat → Nat → Int32))) := if (S_31 1 12) ≤ x5_31 then k_up (some (x3_31, S_31)) else if x2_31 = 0 then k_up (some (x3_31, S_31)) else k_it (fun st => nX6_by_i31_l50 p1 x2_31 x3_31 x4_31 x5_31 st.1 st.2 L) 1000 ((0 : Int32), S_31)
set_option maxRecDepth 20000 in
def nX6_by (S : Nat → Nat → Int32) (L : Nat → Nat → Int64) (p1 : Int32) : Option (Int32 × (Nat → Nat → Int32)) := k_b1 (nX6_isThing S L p1) (fun r2 => if r2 = 0 then k_b2 (nX6_refusedAsBad S L) (fun r9 S9 => some (r9, S9)) else k_b1 (nX5_kindsByComings (k_wi S 1) p1) (fun r18 => k_it (fun st => nX6_by_l31 p1 r18 st.1 st.2.1 st.2.2.1 st.2.2.2 L) 1000 ((-1 : Int32), (7 : Int32), (0 : Int32), S)))
-- LeastNeed.seeWhoGetsIt(III)V
set_option maxRecDepth 20000 in
def nX6_seeWhoGetsIt_l14 (p1 : Int32) (p2 : Int32) (p3 : Int32) (x4_14 : Int32) (S_14 : Nat → Nat → Int32) (L : Nat → Nat → Int64) : Option ((Int32 × (Nat → Nat → Int32)) ⊕ ((Nat → Nat → Int32))) := if (36 : Int32) ≤ x4_14 then k_up (some S_14) else if p2 < 0 ∨ 7 ≤ p2.toNatClampNeg then none else if p3 < 0 ∨ 7 ≤ p3.toNatClampNeg then none else if p1 < 0 ∨ 5 ≤ p1.toNatClampNeg then none else k_b1 (nX5_nextOf (k_wi (k_w (k_w S_14 20 p2.toNatClampNeg (x4_14 / (6 : Int32))) 20 p3.toNatClampNeg (x4_14 - x4_14 / (6 : Int32) * (6 : Int32))) 17) p1 ((k_w (k_w S_14 20 p2.toNatClampNeg (x4_14 / (6 : Int32))) 20 p3.toNatClampNeg (x4_14 - x4_14 / (6 : Int32) * (6 : Int32))) 25 p1.toNatClampNeg)) (fun r69 => if x4_14 < 0 ∨ 36 ≤ x4_14.toNatClampNeg then none else some (.inl ((x4_14 + (1 : Int32)), (k_w (k_w (k_w S_14 20 p2.toNatClampNeg (x4_14 / (6 : Int32))) 20 p3.toNatClampNeg (x4_14 - x4_14 / (6 : Int32) * (6 : Int32))) 78 x4_14.toNatClampNeg r69))))
set_option maxRecDepth 20000 in
def nX6_seeWhoGetsIt (S : Nat → Nat → Int32) (L : Nat → Nat → Int64) (p1 : Int32) (p2 : Int32) (p3 : Int32) : Option ((Nat → Nat → Int32)) := k_b1 (nX5_copyOf (k_wi S 17) (k_wi S 1)) (fun S8 => k_it (fun st => nX6_seeWhoGetsIt_l14 p1 p2 p3 st.1 st.2 L) 1000 ((0 : Int32), (k_sp S 17 16 S8)))
-- LeastNeed.pay(III)I
set_option maxRecDepth 20000 in
def nX6_pay (S : Nat → Nat → Int32) (L : Nat → Nat → Int64) (p1 : Int32) (p2 : Int32) (p3 : Int32) : Option (Int32) := if p1 < 0 ∨ 36 ≤ p1.toNatClampNeg then none else if (S 78 p1.toNatClampNeg) = p2 then some ((-p3) - (6 : Int32)) else some (-p3)
-- LeastNeed.rests(III)Z
set_option maxRecDepth 20000 in
def nX6_rests_l35 (p2 : Int32) (p3 : Int32) (x4_35 : Int32) (x5_35 : Int32) (x6_35 : Int32) (x7_35 : Int32) (x8_35 : Int32) (S : Nat → Nat → Int32) (L : Nat → Nat → Int64) : Option ((Int32) ⊕ (Int32)) := if (6 : Int32) ≤ x8_35 then k_up (some (1 : Int32)) else k_b1 (nX6_pay S L (((6 : Int32) * x8_35) + x5_35) p2 x8_35) (fun r54 => if r54 ≤ x6_35 then k_b1 (nX6_pay S L (((6 : Int32) * x4_35) + x8_35) p3 x8_35) (fun r76 => if r76 ≤ x7_35 then some (.inl (x8_35 + (1 : Int32))) else k_up (some (0 : Int32))) else k_up (some (0 : Int32)))
set_option maxRecDepth 20000 in
def nX6_rests (S : Nat → Nat → Int32) (L : Nat → Nat → Int64) (p1 : Int32) (p2 : Int32) (p3 : Int32) : Option (Int32) := k_b1 (nX6_pay S L p1 p2 (p1 / (6 : Int32))) (fun r17 => k_b1 (nX6_pay S L p1 p3 (p1 - p1 / (6 : Int32) * (6 : Int32))) (fun r27 => k_it (fun st => nX6_rests_l35 p2 p3 (p1 / (6 : Int32)) (p1 - p1 / (6 : Int32) * (6 : Int32)) r17 r27 st S L) 1000 (0 : Int32)))
-- LeastNeed.coats(IIII)I
set_option maxRecDepth 20000 in
def nX6_coats_l56 (p2 : Int32) (p3 : Int32) (p4 : Int32) (x5_56 : Int32) (x6_56 : Int32) (S_56 : Nat → Nat → Int32) (L : Nat → Nat → Int64) : Option ((Int32 × Int32) ⊕ (Int32 × (Nat → Nat → Int32))) := if (36 : Int32) ≤ x6_56 then k_up (if p4 = (-1 : Int32) then some (x5_56, S_56) else some ((-5 : Int32), S_56)) else k_b1 (nX6_rests S_56 L x6_56 p2 p3) (fun r68 => if r68 = 0 then some (.inl (x5_56, (x6_56 + (1 : Int32)))) else if x5_56 = p4 then k_up (some (x6_56, S_56)) else some (.inl ((x5_56 + (1 : Int32)), (x6_56 + (1 : Int32)))))
set_option maxRecDepth 20000 in
def nX6_coats_j35 (S_35 : Nat → Nat → Int32) (L : Nat → Nat → Int64) : Option (Int32 × (Nat → Nat → Int32)) := k_b2 (nX6_refusedAsBad S_35 L) (fun r36 S36 => some ((-10 : Int32), S36))
set_option maxRecDepth 20000 in
def nX6_coats (S : Nat → Nat → Int32) (L : Nat → Nat → Int64) (p1 : Int32) (p2 : Int32) (p3 : Int32) (p4 : Int32) : Option (Int32 × (Nat → Nat → Int32)) := k_b1 (nX6_isThing S L p1) (fun r2 => if r2 = 0 then nX6_coats_j35 S L else k_b1 (nX6_isPerson S L p2) (fun r10 => if r10 = 0 then nX6_coats_j35 S L else k_b1 (nX6_isPerson S L p3) (fun r18 => if r18 = 0 then nX6_coats_j35 S L else if p2 = p3 then nX6_coats_j35 S L else if (-1 : Int32) ≤ p4 then k_b1 (nX6_seeWhoGetsIt S L p1 p2 p3) (fun S47 => k_it (fun st => nX6_coats_l56 p2 p3 p4 st.1 st.2 S47 L) 1000 ((0 : Int32), (0 : Int32))) else nX6_coats_j35 S L)))
-- LeastNeed.commonDivisor(JJ)J
set_option maxRecDepth 20000 in
def nX6_commonDivisor_j45 (x4_45 : Int64) : Option (Int64) := if 0 ≤ (lg_cmp x4_45 (1 : Int64)) then some x4_45 else some (1 : Int64)
set_option maxRecDepth 20000 in
def nX6_commonDivisor_l9 (x4_9 : Int64) (x6_9 : Int64) (x8_9 : Int32) : Option ((Int64 × Int64 × Int32) ⊕ (Int64)) := if (200 : Int32) ≤ x8_9 then k_up (nX6_commonDivisor_j45 x4_9) else if (lg_cmp x6_9 (0 : Int64)) = 0 then k_up (nX6_commonDivisor_j45 x4_9) else if x6_9 = 0 then none else some (.inl (x6_9, (x4_9 - x4_9 / x6_9 * x6_9), (x8_9 + (1 : Int32))))
set_option maxRecDepth 20000 in
def nX6_commonDivisor (p0 : Int64) (p2 : Int64) : Option (Int64) := k_it (fun st => nX6_commonDivisor_l9 st.1 st.2.1 st.2.2) 1000 (p0, p2, (0 : Int32))
-- LeastNeed.odds(IIII)I
set_option maxRecDepth 20000 in
def nX6_odds_l64 (p3 : Int32) (x5_64 : Int64) (x7_64 : Int64) (x9_64 : Int32) (S_64 : Nat → Nat → Int32) (L_64 : Nat → Nat → Int64) : Option ((Int64 × Int32) ⊕ (Int32 × (Nat → Nat → Int32) × (Nat → Nat → Int64))) := if p3 ≤ x9_64 then k_up (k_b1 (nX6_commonDivisor x7_64 x5_64) (fun r88 => if r88 = 0 then none else if r88 = 0 then none else some ((1 : Int32), S_64, (k_wl (k_wl L_64 0 10 (x5_64 / r88)) 0 11 (x7_64 / r88))))) else some (.inl ((x7_64 * (10 : Int64)), (x9_64 + (1 : Int32))))
set_option maxRecDepth 20000 in
def nX6_odds_j35 (S_35 : Nat → Nat → Int32) (L_35 : Nat → Nat → Int64) : Option (Int32 × (Nat → Nat → Int32) × (Nat → Nat → Int64)) := k_b2 (nX6_refusedAsBad S_35 L_35) (fun r36 S36 => some (r36, S36, L_35))
set_option maxRecDepth 20000 in
def nX6_odds (S : Nat → Nat → Int32) (L : Nat → Nat → Int64) (p1 : Int32) (p2 : Int32) (p3 : Int32) (p4 : Int32) : Option (Int32 × (Nat → Nat → Int32) × (Nat → Nat → Int64)) := k_b1 (nX6_isThing S L p1) (fun r2 => if r2 = 0 then nX6_odds_j35 S L else k_b1 (nX6_isPerson S L p2) (fun r10 => if r10 = 0 then nX6_odds_j35 S L else k_b1 (nX6_upTo p3 (8 : Int32)) (fun r19 => if r19 = 0 then nX6_odds_j35 S L else k_b1 (nX6_upTo p4 (11 : Int32)) (fun r29 => if r29 = 0 then nX6_odds_j35 S L else k_b2 (nX0_chanceOfTens (k_wi S 70) (k_wi L 70) (k_wi S 1) p1 p2 p3 p4) (fun r53 L53 => k_it (fun st => nX6_odds_l64 p3 r53 st.1 st.2 S (k_sp L 70 5 L53)) 1000 ((1 : Int64), (0 : Int32)))))))
-- LeastNeed.years(II)I
set_option maxRecDepth 20000 in
def nX6_years_i40_j108 (p2 : Int32) (x3_108 : Int64) (x5_108 : Int32) (S_108 : Nat → Nat → Int32) (L : Nat → Nat → Int64) : Option ((Int64 × Int32 × (Nat → Nat → Int32)) ⊕ (Int32 × (Nat → Nat → Int32))) := k_b1 (nX5_dayGoesBy (k_wi S_108 17)) (fun S112 => some (.inl (x3_108, (x5_108 + (1 : Int32)), (k_sp S_108 17 16 S112))))
set_option maxRecDepth 20000 in
def nX6_years_l40 (p2 : Int32) (x3_40 : Int64) (x5_40 : Int32) (S_40 : Nat → Nat → Int32) (L : Nat → Nat → Int64) : Option ((Int64 × Int32 × (Nat → Nat → Int32)) ⊕ (Int32 × (Nat → Nat → Int32))) := if p2 ≤ x5_40 then k_up (k_b1 (nX5_howManyAtHome (k_wi S_40 17)) (fun r125 => some (r125, S_40))) else if (S_40 17 13) ≤ ((((((x3_40 * (1103515245 : Int64)) + (12345 : Int64)) - ((x3_40 * (1103515245 : Int64)) + (12345 : Int64)) / (2147483648 : Int64) * (2147483648 : Int64)) / (65536 : Int64)) - ((((x3_40 * (1103515245 : Int64)) + (12345 : Int64)) - ((x3_40 * (1103515245 : Int64)) + (12345 : Int64)) / (2147483648 : Int64) * (2147483648 : Int64)) / (65536 : Int64)) / (5 : Int64) * (5 : Int64)).toInt32) then nX6_years_i40_j108 p2 (((x3_40 * (1103515245 : Int64)) + (12345 : Int64)) - ((x3_40 * (1103515245 : Int64)) + (12345 : Int64)) / (2147483648 : Int64) * (2147483648 : Int64)) x5_40 S_40 L else if ((((((x3_40 * (1103515245 : Int64)) + (12345 : Int64)) - ((x3_40 * (1103515245 : Int64)) + (12345 : Int64)) / (2147483648 : Int64) * (2147483648 : Int64)) / (65536 : Int64)) - ((((x3_40 * (1103515245 : Int64)) + (12345 : Int64)) - ((x3_40 * (1103515245 : Int64)) + (12345 : Int64)) / (2147483648 : Int64) * (2147483648 : Int64)) / (65536 : Int64)) / (5 : Int64) * (5 : Int64)).toInt32) < 0 ∨ 5 ≤ ((((((x3_40 * (1103515245 : Int64)) + (12345 : Int64)) - ((x3_40 * (1103515245 : Int64)) + (12345 : Int64)) / (2147483648 : Int64) * (2147483648 : Int64)) / (65536 : Int64)) - ((((x3_40 * (1103515245 : Int64)) + (12345 : Int64)) - ((x3_40 * (1103515245 : Int64)) + (12345 : Int64)) / (2147483648 : Int64) * (2147483648 : Int64)) / (65536 : Int64)) / (5 : Int64) * (5 : Int64)).toInt32).toNatClampNeg then none else if (S_40 26 ((((((x3_40 * (1103515245 : Int64)) + (12345 : Int64)) - ((x3_40 * (1103515245 : Int64)) + (12345 : Int64)) / (2147483648 : Int64) * (2147483648 : Int64)) / (65536 : Int64)) - ((((x3_40 * (1103515245 : Int64)) + (12345 : Int64)) - ((x3_40 * (1103515245 : Int64)) + (12345 : Int64)) / (2147483648 : Int64) * (2147483648 : Int64)) / (65536 : Int64)) / (5 : Int64) * (5 : Int64)).toInt32).toNatClampNeg) = 0 then if ((((((x3_40 * (1103515245 : Int64)) + (12345 : Int64)) - ((x3_40 * (1103515245 : Int64)) + (12345 : Int64)) / (2147483648 : Int64) * (2147483648 : Int64)) / (65536 : Int64)) - ((((x3_40 * (1103515245 : Int64)) + (12345 : Int64)) - ((x3_40 * (1103515245 : Int64)) + (12345 : Int64)) / (2147483648 : Int64) * (2147483648 : Int64)) / (65536 : Int64)) / (5 : Int64) * (5 : Int64)).toInt32) < 0 ∨ 5 ≤ ((((((x3_40 * (1103515245 : Int64)) + (12345 : Int64)) - ((x3_40 * (1103515245 : Int64)) + (12345 : Int64)) / (2147483648 : Int64) * (2147483648 : Int64)) / (65536 : Int64)) - ((((x3_40 * (1103515245 : Int64)) + (12345 : Int64)) - ((x3_40 * (1103515245 : Int64)) + (12345 : Int64)) / (2147483648 : Int64) * (2147483648 : Int64)) / (65536 : Int64)) / (5 : Int64) * (5 : Int64)).toInt32).toNatClampNeg then none else nX6_years_i40_j108 p2 (((x3_40 * (1103515245 : Int64)) + (12345 : Int64)) - ((x3_40 * (1103515245 : Int64)) + (12345 : Int64)) / (2147483648 : Int64) * (2147483648 : Int64)) x5_40 (k_w S_40 26 (((((((x3_40 * (1103515245 : Int64)) + (12345 : Int64)) - ((x3_40 * (1103515245 : Int64)) + (12345 : Int64)) / (2147483648 : Int64) * (2147483648 : Int64)) / (65536 : Int64)) - ((((x3_40 * (1103515245 : Int64)) + (12345 : Int64)) - ((x3_40 * (1103515245 : Int64)) + (12345 : Int64)) / (2147483648 : Int64) * (2147483648 : Int64)) / (65536 : Int64)) / (5 : Int64) * (5 : Int64)).toInt32).toNatClampNeg) (1 : Int32)) L else nX6_years_i40_j108 p2 (((x3_40 * (1103515245 : Int64)) + (12345 : Int64)) - ((x3_40 * (1103515245 : Int64)) + (12345 : Int64)) / (2147483648 : Int64) * (2147483648 : Int64)) x5_40 S_40 L
set_option maxRecDepth 20000 in
def nX6_years_j18 (S_18 : Nat → Nat → Int32) (L : Nat → Nat → Int64) : Option (Int32 × (Nat → Nat → Int32)) := k_b2 (nX6_refusedAsBad S_18 L) (fun r19 S19 => some (r19, S19))
set_option maxRecDepth 20000 in
def nX6_years (S : Nat → Nat → Int32) (L : Nat → Nat → Int64) (p1 : Int32) (p2 : Int32) : Option (Int32 × (Nat → Nat → Int32)) := k_b1 (nX6_upTo p1 (1000000 : Int32)) (fun r3 => if r3 = 0 then nX6_years_j18 S L else k_b1 (nX6_upTo p2 (61 : Int32)) (fun r12 => if r12 = 0 then nX6_years_j18 S L else k_b1 (nX5_copyOf (k_wi S 17) (k_wi S 1)) (fun S31 => k_it (fun st => nX6_years_l40 p2 st.1 st.2.1 st.2.2 L) 1000 (p1.toInt64, (0 : Int32), (k_sp S 17 16 S31)))))
-- LeastNeed.part(I)J
set_option maxRecDepth 20000 in
def nX6_part (S : Nat → Nat → Int32) (L : Nat → Nat → Int64) (p1 : Int32) : Option (Int64 × (Nat → Nat → Int32)) := k_b1 (nX6_upTo p1 (2 : Int32)) (fun r2 => if r2 = 0 then k_b2 (nX6_refusedAsBad S L) (fun r9 S9 => some (r9.toInt64, S9)) else if p1 = 0 then some ((L 0 10), S) else some ((L 0 11), S))
-- LeastNeed.image(I)I
set_option maxRecDepth 20000 in
def nX6_image (S : Nat → Nat → Int32) (L : Nat → Nat → Int64) (p1 : Int32) : Option (Int32 × (Nat → Nat → Int32)) := k_b1 (nX6_upTo p1 (2 : Int32)) (fun r2 => if r2 = 0 then k_b2 (nX6_refusedAsBad S L) (fun r9 S9 => some (r9, S9)) else if p1 = (0 : Int32) then k_b1 (nX5_copyOf (k_wi S 33) (k_wi S 1)) (fun S23 => if p1 < 0 ∨ 2 ≤ p1.toNatClampNeg then none else some ((1 : Int32), (k_w (k_sp S 33 16 S23) 66 p1.toNatClampNeg (vp_nar .boolean (1 : Int32))))) else if p1 = (1 : Int32) then k_b1 (nX5_copyOf (k_wi S 49) (k_wi S 1)) (fun S23 => if p1 < 0 ∨ 2 ≤ p1.toNatClampNeg then none else some ((1 : Int32), (k_w (k_sp S 49 16 S23) 66 p1.toNatClampNeg (vp_nar .boolean (1 : Int32))))) else none)
-- LeastNeed.from(I)I
set_option maxRecDepth 20000 in
def nX6_from (S : Nat → Nat → Int32) (L : Nat → Nat → Int64) (p1 : Int32) : Option (Int32 × (Nat → Nat → Int32)) := k_b1 (nX6_upTo p1 (2 : Int32)) (fun r2 => if r2 = 0 then k_b2 (nX6_refusedAsBad S L) (fun r9 S9 => some (r9, S9)) else if p1 < 0 ∨ 2 ≤ p1.toNatClampNeg then none else if (S 66 p1.toNatClampNeg) = 0 then k_b2 (nX6_refusedAsNo S L) (fun r23 S23 => some (r23, S23)) else if p1 = (0 : Int32) then k_b1 (nX5_copyOf (k_wi S 1) (k_wi S 33)) (fun S37 => some ((1 : Int32), (k_sp S 1 16 S37))) else if p1 = (1 : Int32) then k_b1 (nX5_copyOf (k_wi S 1) (k_wi S 49)) (fun S37 => some ((1 : Int32), (k_sp S 1 16 S37))) else none)
-- LeastNeed.status(I)I
set_option maxRecDepth 20000 in
def nX6_status (S : Nat → Nat → Int32) (L : Nat → Nat → Int64) (p1 : Int32) : Option (Int32 × (Nat → Nat → Int32)) := k_b1 (nX6_upTo p1 (3 : Int32)) (fun r2 => if r2 = 0 then k_b2 (nX6_refusedAsBad S L) (fun r9 S9 => some ((-1 : Int32), S9)) else if p1 < 0 ∨ 3 ≤ p1.toNatClampNeg then none else some ((S 75 p1.toNatClampNeg), S))
-- LeastNeed.howMany(I)I
set_option maxRecDepth 20000 in
def nX6_howMany (S : Nat → Nat → Int32) (L : Nat → Nat → Int64) (p1 : Int32) : Option (Int32) := if p1 = (0 : Int32) then some (S 1 12) else if p1 = (1 : Int32) then some (S 1 13) else if p1 = (2 : Int32) then some (S 1 14) else if p1 = (3 : Int32) then k_b1 (nX5_howManyLie (k_wi S 1) (1 : Int32)) (fun r77 => k_b1 (nX5_howManyLie (k_wi S 1) (2 : Int32)) (fun r85 => some (r77 + r85))) else if p1 = (4 : Int32) then k_b1 (nX5_howManyAtHome (k_wi S 1)) (fun r94 => some r94) else if p1 = (5 : Int32) then some (S 11 3) else if p1 = (6 : Int32) then some (S 13 3) else if p1 = (7 : Int32) then some (S 15 3) else some (S 67 2)
-- LeastNeed.count(I)I
set_option maxRecDepth 20000 in
def nX6_count (S : Nat → Nat → Int32) (L : Nat → Nat → Int64) (p1 : Int32) : Option (Int32 × (Nat → Nat → Int32)) := k_b1 (nX6_upTo p1 (9 : Int32)) (fun r3 => if r3 = 0 then k_b2 (nX6_refusedAsBad S L) (fun r10 S10 => some (r10, S10)) else k_b1 (nX6_howMany S L p1) (fun r16 => some (r16, S)))
-- LeastNeed.digest()J
set_option maxRecDepth 20000 in
def nX6_digest_l6 (x1_6 : Int64) (x3_6 : Int32) (S : Nat → Nat → Int32) (L : Nat → Nat → Int64) : Option ((Int64 × Int32) ⊕ (Int64)) := if (9 : Int32) ≤ x3_6 then k_up (k_b1 (nX5_mixPeople (k_wi S 1) x1_6) (fun r36 => k_b1 (nX5_mixThings (k_wi S 1) r36) (fun r45 => k_b1 (nX3_mix 36 (6 : Int32) (6 : Int32) (k_wi S 11) r45) (fun r57 => k_b1 (nX3_mix 24 (4 : Int32) (6 : Int32) (k_wi S 13) r57) (fun r69 => some (((31 : Int64) * (((31 : Int64) * r69) + (L 0 10))) + (L 0 11))))))) else k_b1 (nX6_howMany S L x3_6) (fun r19 => some (.inl ((((31 : Int64) * x1_6) + r19.toInt64), (x3_6 + (1 : Int32)))))
set_option maxRecDepth 20000 in
def nX6_digest (S : Nat → Nat → Int32) (L : Nat → Nat → Int64) : Option (Int64) := k_it (fun st => nX6_digest_l6 st.1 st.2 S L) 1000 ((1483 : Int64), (0 : Int32))
