set_option maxHeartbeats 4000000 in
set_option maxRecDepth 100000 in
theorem lc_switch {p : Program} {e : Env} {s : State} {m : MethodId} {below : List Frame} {meth : Method} {c : Code} (l : Launch) {bs : Nat} {xs : Nat → Int32} (hst : l.stackTraces = false) (C0 : lw_At p s m meth c bs 6 xs) {A : Nat → Prop} (hA : ∀ q : Nat, s.heap.size ≤ q → A q) (hA2 : ∀ q : Nat, A q → s.heap.size ≤ q) (hN : nx A s) {D : va_G} {a : Nat → Nat} {cA : Nat → ClassId} {f : Nat → Nat → Int32} {b : Nat → Nat} {cB : Nat → ClassId} {fB : Nat → Nat → Int32} {q3 : Nat} (hK : va_K D vwCl [((cA 2), .int), ((cA 11), .int), ((cA 12), .int), ((cA 13), .int), ((cA 14), .int), ((cA 15), .int), ((cA 16), .int), ((cA 17), .int), ((cA 18), .int), ((cA 19), .int), ((cB 1), .int), ((cB 8), .int), ((cB 9), .int), ((cB 19), .int)] s) {H : Heap} {locs : List Loc} (hP : va_P D vwCl [((a 0), .inr (10, [.ref (a 1), .ref (a 3), .ref (a 40), .int 0, .int (-1), .ref (a 4), .ref (a 5), .ref (a 6), .ref (a 7), .ref (a 8), .ref (a 9), .ref (a 10), .null, .null, .int 0, .int (-1), .ref (a 41)])), ((a 1), .inr (6, [.ref (a 2), .int 0, .int 0])), ((a 2), .inl ((cA 2), 160, .inl (f 2))), ((a 3), .inr (3, [.ref (a 1), .ref (a 42), .int 0, .int 0])), ((a 4), .inr (4, [.int 0, .int 0, .ref (a 43), .ref (a 44), .ref (a 45), .ref (a 46), .ref (a 47), .ref (a 48), .ref (a 49), .ref (a 50), .ref (a 51)])), ((a 5), .inr (4, [.int 0, .int 0, .ref (a 11), .ref (a 12), .ref (a 13), .ref (a 14), .ref (a 15), .ref (a 16), .ref (a 17), .ref (a 18), .ref (a 19)])), ((a 6), .inr (5, [.ref (a 52), .int 0, .ref (a 53), .int 0, .int 0, .int 0])), ((a 7), .inr (5, [.ref (a 54), .int 0, .ref (a 55), .int 0, .int 0, .int 0])), ((a 8), .inr (1, [.ref (a 56), .int 0, .int 0, .ref (a 57), .int 0, .ref (a 58)])), ((a 9), .inr (7, [.ref (a 59), .ref (a 60), .ref (a 61)])), ((a 11), .inl ((cA 11), 12, .inl (f 11))), ((a 12), .inl ((cA 12), 12, .inl (f 12))), ((a 13), .inl ((cA 13), 144, .inl (f 13))), ((a 14), .inl ((cA 14), 12, .inl (f 14))), ((a 15), .inl ((cA 15), 12, .inl (f 15))), ((a 16), .inl ((cA 16), 12, .inl (f 16))), ((a 17), .inl ((cA 17), 12, .inl (f 17))), ((a 18), .inl ((cA 18), 12, .inl (f 18))), ((a 19), .inl ((cA 19), 144, .inl (f 19))), ((b 0), .inr (11, [.int 0, .ref (b 1), .int 0, .int 0, .int 0, .int 0, .ref (b 6), .ref (b 7), .ref (b 8), .ref (b 9), .ref (b 10), .ref (b 11), .ref (b 12), .int 0, .int 0, .ref (b 15), .ref (b 16), .ref (b 17), .ref (b 18), .ref (b 19), .int 0, .int 0, .ref (b 22), .ref (b 23), .ref (b 24), .int 0, .int 0, .ref (b 27), .int 0, .ref (b 29), .int (-1), .ref (b 31), .ref (b 32), .int (-1), .ref (b 34), .ref (b 35), .int 0, .int 0, .ref (b 38), .ref (b 39), .ref (b 40), .ref (b 41), .ref (b 42), .ref (b 43), .ref (b 44), .ref (b 45), .ref (b 46), .ref (b 47), .int 0, .int 0, .ref (b 50), .ref (b 51), .ref (b 52), .ref (b 53), .ref (b 54), .int (-1), .int 0, .ref (b 57), .ref (b 58), .ref (b 59), .ref (b 60), .ref (b 61), .ref (b 62), .int 0, .int 0, .int 0])), ((b 1), .inl ((cB 1), 160, .inl (fB 1))), ((b 8), .inl ((cB 8), 5, .inl (fB 8))), ((b 9), .inl ((cB 9), 5, .inl (fB 9))), ((b 19), .inl ((cB 19), 12, .inl (fB 19)))] H) (hD : va_D A [((a 0), .inr (10, [.ref (a 1), .ref (a 3), .ref (a 40), .int 0, .int (-1), .ref (a 4), .ref (a 5), .ref (a 6), .ref (a 7), .ref (a 8), .ref (a 9), .ref (a 10), .null, .null, .int 0, .int (-1), .ref (a 41)])), ((a 1), .inr (6, [.ref (a 2), .int 0, .int 0])), ((a 2), .inl ((cA 2), 160, .inl (f 2))), ((a 3), .inr (3, [.ref (a 1), .ref (a 42), .int 0, .int 0])), ((a 4), .inr (4, [.int 0, .int 0, .ref (a 43), .ref (a 44), .ref (a 45), .ref (a 46), .ref (a 47), .ref (a 48), .ref (a 49), .ref (a 50), .ref (a 51)])), ((a 5), .inr (4, [.int 0, .int 0, .ref (a 11), .ref (a 12), .ref (a 13), .ref (a 14), .ref (a 15), .ref (a 16), .ref (a 17), .ref (a 18), .ref (a 19)])), ((a 6), .inr (5, [.ref (a 52), .int 0, .ref (a 53), .int 0, .int 0, .int 0])), ((a 7), .inr (5, [.ref (a 54), .int 0, .ref (a 55), .int 0, .int 0, .int 0])), ((a 8), .inr (1, [.ref (a 56), .int 0, .int 0, .ref (a 57), .int 0, .ref (a 58)])), ((a 9), .inr (7, [.ref (a 59), .ref (a 60), .ref (a 61)])), ((a 11), .inl ((cA 11), 12, .inl (f 11))), ((a 12), .inl ((cA 12), 12, .inl (f 12))), ((a 13), .inl ((cA 13), 144, .inl (f 13))), ((a 14), .inl ((cA 14), 12, .inl (f 14))), ((a 15), .inl ((cA 15), 12, .inl (f 15))), ((a 16), .inl ((cA 16), 12, .inl (f 16))), ((a 17), .inl ((cA 17), 12, .inl (f 17))), ((a 18), .inl ((cA 18), 12, .inl (f 18))), ((a 19), .inl ((cA 19), 144, .inl (f 19))), ((b 0), .inr (11, [.int 0, .ref (b 1), .int 0, .int 0, .int 0, .int 0, .ref (b 6), .ref (b 7), .ref (b 8), .ref (b 9), .ref (b 10), .ref (b 11), .ref (b 12), .int 0, .int 0, .ref (b 15), .ref (b 16), .ref (b 17), .ref (b 18), .ref (b 19), .int 0, .int 0, .ref (b 22), .ref (b 23), .ref (b 24), .int 0, .int 0, .ref (b 27), .int 0, .ref (b 29), .int (-1), .ref (b 31), .ref (b 32), .int (-1), .ref (b 34), .ref (b 35), .int 0, .int 0, .ref (b 38), .ref (b 39), .ref (b 40), .ref (b 41), .ref (b 42), .ref (b 43), .ref (b 44), .ref (b 45), .ref (b 46), .ref (b 47), .int 0, .int 0, .ref (b 50), .ref (b 51), .ref (b 52), .ref (b 53), .ref (b 54), .int (-1), .int 0, .ref (b 57), .ref (b 58), .ref (b 59), .ref (b 60), .ref (b 61), .ref (b 62), .int 0, .int 0, .int 0])), ((b 1), .inl ((cB 1), 160, .inl (fB 1))), ((b 8), .inl ((cB 8), 5, .inl (fB 8))), ((b 9), .inl ((cB 9), 5, .inl (fB 9))), ((b 19), .inl ((cB 19), 12, .inl (fB 19)))]) (hS : va_S A s.heap H locs) {ls : Array Slot} (hl : lv_has ls 7 [(4, .int 0), (3, .ref q3), (2, .ref (b 0)), (1, .ref (a 0)), (0, .ref bs)]) : W p l e room_1 s m #[Value.ref bs] below meth c H locs 95 1035423 (lw_Z below #[Value.ref bs] s) (F0 m 23 ls []) := by
  obtain ⟨hx, hb, hr, hml, hown, hts, hX, hbl, hlocks, hgv⟩ := id C0
  have htg : ∀ w ∈ gw, w.before #[Value.ref bs] s = true := fun w h => hts w (gw_in w h)
  have hbA : ¬ A bs := fun h => Nat.not_le.mpr hbl (hA2 bs h)
  refine lv_iload hx hb dL_law_23 (lv_at hl 0 rfl) ?_
  refine lv_aload_n hx hb dL_law_25 rfl (lv_at hl 4 rfl) ?_
  refine va_slen hx hb hX hbl hbA hS dL_law_26 ?_
  refine lv_bipush (v := 6) hx hb dL_law_27 (by decide) ?_
  refine lv_isub hx hb dL_law_29 ?_
  refine lv_val (y := 0) (by decide) ?_
  refine lv_icmp_gt (tgt := 1216) hx hb dL_law_30 (by decide) (fun h9 => absurd h9 (by decide)) (fun _ => ?_)
  refine lv_aload_n hx hb dL_law_33 rfl (lv_at hl 4 rfl) ?_
  refine lv_iload hx hb dL_law_34 (lv_at hl 0 rfl) ?_
  refine va_sld hx hb hX hbl hbA hS (i := 0) (vp_k (by decide)) dL_law_36 ?_
  refine lv_bipush (v := 63) hx hb dL_law_37 (by decide) ?_
  refine lv_iand hx hb dL_law_39 ?_
  refine lv_topi (fun z ez => ?_)
  by_cases h0 : z = 0
  · subst h0
    refine lv_tableIn (off := 156) (tgt := 196) hx hb dL_law_40 (by decide) (by decide) rfl (by decide) ?_
    exact lc_0 l hst C0 hA hA2 hN hK hP hD hS hl
  by_cases h1 : z = 1
  · subst h1
    refine lv_tableIn (off := 229) (tgt := 269) hx hb dL_law_40 (by decide) (by decide) rfl (by decide) ?_
    exact lc_1 l hst C0 hA hA2 hN hK hP hD hS hl
  by_cases h2 : z = 2
  · subst h2
    refine lv_tableIn (off := 254) (tgt := 294) hx hb dL_law_40 (by decide) (by decide) rfl (by decide) ?_
    exact lc_2 l hst C0 hA hA2 hN hK hP hD hS hl
  by_cases h3 : z = 3
  · subst h3
    refine lv_tableIn (off := 279) (tgt := 319) hx hb dL_law_40 (by decide) (by decide) rfl (by decide) ?_
    exact lc_3 l hst C0 hA hA2 hN hK hP hD hS hl
  by_cases h4 : z = 4
  · subst h4
    refine lv_tableIn (off := 304) (tgt := 344) hx hb dL_law_40 (by decide) (by decide) rfl (by decide) ?_
    exact lc_4 l hst C0 hA hA2 hN hK hP hD hS hl
  by_cases h5 : z = 5
  · subst h5
    refine lv_tableIn (off := 360) (tgt := 400) hx hb dL_law_40 (by decide) (by decide) rfl (by decide) ?_
    exact lc_5 l hst C0 hA hA2 hN hK hP hD hS hl
  by_cases h6 : z = 6
  · subst h6
    refine lv_tableIn (off := 397) (tgt := 437) hx hb dL_law_40 (by decide) (by decide) rfl (by decide) ?_
    exact lc_6 l hst C0 hA hA2 hN hK hP hD hS hl
  by_cases h7 : z = 7
  · subst h7
    refine lv_tableIn (off := 434) (tgt := 474) hx hb dL_law_40 (by decide) (by decide) rfl (by decide) ?_
    exact lc_7 l hst C0 hA hA2 hN hK hP hD hS hl
  by_cases h8 : z = 8
  · subst h8
    refine lv_tableIn (off := 483) (tgt := 523) hx hb dL_law_40 (by decide) (by decide) rfl (by decide) ?_
    exact lc_8 l hst C0 hA hA2 hN hK hP hD hS hl
  by_cases h9 : z = 9
  · subst h9
    refine lv_tableIn (off := 520) (tgt := 560) hx hb dL_law_40 (by decide) (by decide) rfl (by decide) ?_
    exact lc_9 l hst C0 hA hA2 hN hK hP hD hS hl
  by_cases h10 : z = 10
  · subst h10
    refine lv_tableIn (off := 545) (tgt := 585) hx hb dL_law_40 (by decide) (by decide) rfl (by decide) ?_
    exact lc_10 l hst C0 hA hA2 hN hK hP hD hS hl
  by_cases h11 : z = 11
  · subst h11
    refine lv_tableIn (off := 582) (tgt := 622) hx hb dL_law_40 (by decide) (by decide) rfl (by decide) ?_
    exact lc_11 l hst C0 hA hA2 hN hK hP hD hS hl
  by_cases h12 : z = 12
  · subst h12
    refine lv_tableIn (off := 619) (tgt := 659) hx hb dL_law_40 (by decide) (by decide) rfl (by decide) ?_
    exact lc_12 l hst C0 hA hA2 hN hK hP hD hS hl
  by_cases h13 : z = 13
  · subst h13
    refine lv_tableIn (off := 632) (tgt := 672) hx hb dL_law_40 (by decide) (by decide) rfl (by decide) ?_
    exact lc_13 l hst C0 hA hA2 hN hK hP hD hS hl
  by_cases h14 : z = 14
  · subst h14
    refine lv_tableIn (off := 657) (tgt := 697) hx hb dL_law_40 (by decide) (by decide) rfl (by decide) ?_
    exact lc_14 l hst C0 hA hA2 hN hK hP hD hS hl
  by_cases h15 : z = 15
  · subst h15
    refine lv_tableIn (off := 694) (tgt := 734) hx hb dL_law_40 (by decide) (by decide) rfl (by decide) ?_
    exact lc_15 l hst C0 hA hA2 hN hK hP hD hS hl
  by_cases h16 : z = 16
  · subst h16
    refine lv_tableIn (off := 731) (tgt := 771) hx hb dL_law_40 (by decide) (by decide) rfl (by decide) ?_
    exact lc_16 l hst C0 hA hA2 hN hK hP hD hS hl
  by_cases h17 : z = 17
  · subst h17
    refine lv_tableIn (off := 744) (tgt := 784) hx hb dL_law_40 (by decide) (by decide) rfl (by decide) ?_
    exact lc_17 l hst C0 hA hA2 hN hK hP hD hS hl
  by_cases h18 : z = 18
  · subst h18
    refine lv_tableIn (off := 769) (tgt := 809) hx hb dL_law_40 (by decide) (by decide) rfl (by decide) ?_
    exact lc_18 l hst C0 hA hA2 hN hK hP hD hS hl
  by_cases h19 : z = 19
  · subst h19
    refine lv_tableIn (off := 782) (tgt := 822) hx hb dL_law_40 (by decide) (by decide) rfl (by decide) ?_
    exact lc_19 l hst C0 hA hA2 hN hK hP hD hS hl
  by_cases h20 : z = 20
  · subst h20
    refine lv_tableIn (off := 807) (tgt := 847) hx hb dL_law_40 (by decide) (by decide) rfl (by decide) ?_
    exact lc_20 l hst C0 hA hA2 hN hK hP hD hS hl
  by_cases h21 : z = 21
  · subst h21
    refine lv_tableIn (off := 832) (tgt := 872) hx hb dL_law_40 (by decide) (by decide) rfl (by decide) ?_
    exact lc_21 l hst C0 hA hA2 hN hK hP hD hS hl
  by_cases h22 : z = 22
  · subst h22
    refine lv_tableIn (off := 857) (tgt := 897) hx hb dL_law_40 (by decide) (by decide) rfl (by decide) ?_
    exact lc_22 l hst C0 hA hA2 hN hK hP hD hS hl
  by_cases h23 : z = 23
  · subst h23
    refine lv_tableIn (off := 870) (tgt := 910) hx hb dL_law_40 (by decide) (by decide) rfl (by decide) ?_
    exact lc_23 l hst C0 hA hA2 hN hK hP hD hS hl
  by_cases h24 : z = 24
  · subst h24
    refine lv_tableIn (off := 883) (tgt := 923) hx hb dL_law_40 (by decide) (by decide) rfl (by decide) ?_
    exact lc_24 l hst C0 hA hA2 hN hK hP hD hS hl
  by_cases h25 : z = 25
  · subst h25
    refine lv_tableIn (off := 896) (tgt := 936) hx hb dL_law_40 (by decide) (by decide) rfl (by decide) ?_
    exact lc_25 l hst C0 hA hA2 hN hK hP hD hS hl
  by_cases h26 : z = 26
  · subst h26
    refine lv_tableIn (off := 945) (tgt := 985) hx hb dL_law_40 (by decide) (by decide) rfl (by decide) ?_
    exact lc_26 l hst C0 hA hA2 hN hK hP hD hS hl
  by_cases h27 : z = 27
  · subst h27
    refine lv_tableIn (off := 970) (tgt := 1010) hx hb dL_law_40 (by decide) (by decide) rfl (by decide) ?_
    exact lc_27 l hst C0 hA hA2 hN hK hP hD hS hl
  by_cases h28 : z = 28
  · subst h28
    refine lv_tableIn (off := 995) (tgt := 1035) hx hb dL_law_40 (by decide) (by decide) rfl (by decide) ?_
    exact lc_28 l hst C0 hA hA2 hN hK hP hD hS hl
  by_cases h29 : z = 29
  · subst h29
    refine lv_tableIn (off := 1032) (tgt := 1072) hx hb dL_law_40 (by decide) (by decide) rfl (by decide) ?_
    exact lc_29 l hst C0 hA hA2 hN hK hP hD hS hl
  by_cases h30 : z = 30
  · subst h30
    refine lv_tableIn (off := 1057) (tgt := 1097) hx hb dL_law_40 (by decide) (by decide) rfl (by decide) ?_
    exact lc_30 l hst C0 hA hA2 hN hK hP hD hS hl
  by_cases h31 : z = 31
  · subst h31
    refine lv_tableIn (off := 1082) (tgt := 1122) hx hb dL_law_40 (by decide) (by decide) rfl (by decide) ?_
    exact lc_31 l hst C0 hA hA2 hN hK hP hD hS hl
  by_cases h32 : z = 32
  · subst h32
    refine lv_tableIn (off := 1119) (tgt := 1159) hx hb dL_law_40 (by decide) (by decide) rfl (by decide) ?_
    exact lc_32 l hst C0 hA hA2 hN hK hP hD hS hl
  by_cases h33 : z = 33
  · subst h33
    refine lv_tableIn (off := 1132) (tgt := 1172) hx hb dL_law_40 (by decide) (by decide) rfl (by decide) ?_
    exact lc_33 l hst C0 hA hA2 hN hK hP hD hS hl
  by_cases h34 : z = 34
  · subst h34
    refine lv_tableIn (off := 1145) (tgt := 1185) hx hb dL_law_40 (by decide) (by decide) rfl (by decide) ?_
    exact lc_34 l hst C0 hA hA2 hN hK hP hD hS hl
  refine lv_tableOut (tgt := 1210) hx hb dL_law_40 (by have := lv_neT (a := 0) h0 (by decide); have := lv_neT (a := 1) h1 (by decide); have := lv_neT (a := 2) h2 (by decide); have := lv_neT (a := 3) h3 (by decide); have := lv_neT (a := 4) h4 (by decide); have := lv_neT (a := 5) h5 (by decide); have := lv_neT (a := 6) h6 (by decide); have := lv_neT (a := 7) h7 (by decide); have := lv_neT (a := 8) h8 (by decide); have := lv_neT (a := 9) h9 (by decide); have := lv_neT (a := 10) h10 (by decide); have := lv_neT (a := 11) h11 (by decide); have := lv_neT (a := 12) h12 (by decide); have := lv_neT (a := 13) h13 (by decide); have := lv_neT (a := 14) h14 (by decide); have := lv_neT (a := 15) h15 (by decide); have := lv_neT (a := 16) h16 (by decide); have := lv_neT (a := 17) h17 (by decide); have := lv_neT (a := 18) h18 (by decide); have := lv_neT (a := 19) h19 (by decide); have := lv_neT (a := 20) h20 (by decide); have := lv_neT (a := 21) h21 (by decide); have := lv_neT (a := 22) h22 (by decide); have := lv_neT (a := 23) h23 (by decide); have := lv_neT (a := 24) h24 (by decide); have := lv_neT (a := 25) h25 (by decide); have := lv_neT (a := 26) h26 (by decide); have := lv_neT (a := 27) h27 (by decide); have := lv_neT (a := 28) h28 (by decide); have := lv_neT (a := 29) h29 (by decide); have := lv_neT (a := 30) h30 (by decide); have := lv_neT (a := 31) h31 (by decide); have := lv_neT (a := 32) h32 (by decide); have := lv_neT (a := 33) h33 (by decide); have := lv_neT (a := 34) h34 (by decide); omega) (by decide) ?_
  exact lc_end l C0 hA hA2 hS (lv_sub hl [0, 4] rfl) (Nat.le_of_ble_eq_true rfl) (Nat.le_of_ble_eq_true rfl)
