theorem lc_short {L : Nat} (h : L < 6) : Int32.ofNat L - 6 < 0 := by
  rcases (show L = 0 ∨ L = 1 ∨ L = 2 ∨ L = 3 ∨ L = 4 ∨ L = 5 by omega) with h | h | h | h | h | h <;> subst h <;> decide
theorem df_X11 : ∀ j : Nat, j < 66 → defaultValue (tyX11 j) = vp_V [.int 0, .null, .int 0, .int 0, .int 0, .int 0, .null, .null, .null, .null, .null, .null, .null, .int 0, .int 0, .null, .null, .null, .null, .null, .int 0, .int 0, .null, .null, .null, .int 0, .int 0, .null, .int 0, .null, .int 0, .null, .null, .int 0, .null, .null, .int 0, .int 0, .null, .null, .null, .null, .null, .null, .null, .null, .null, .null, .int 0, .int 0, .null, .null, .null, .null, .null, .int 0, .int 0, .null, .null, .null, .null, .null, .null, .int 0, .int 0, .int 0] j := fun j hj => match j, hj with
  | 0, _ => rfl
  | 1, _ => rfl
  | 2, _ => rfl
  | 3, _ => rfl
  | 4, _ => rfl
  | 5, _ => rfl
  | 6, _ => rfl
  | 7, _ => rfl
  | 8, _ => rfl
  | 9, _ => rfl
  | 10, _ => rfl
  | 11, _ => rfl
  | 12, _ => rfl
  | 13, _ => rfl
  | 14, _ => rfl
  | 15, _ => rfl
  | 16, _ => rfl
  | 17, _ => rfl
  | 18, _ => rfl
  | 19, _ => rfl
  | 20, _ => rfl
  | 21, _ => rfl
  | 22, _ => rfl
  | 23, _ => rfl
  | 24, _ => rfl
  | 25, _ => rfl
  | 26, _ => rfl
  | 27, _ => rfl
  | 28, _ => rfl
  | 29, _ => rfl
  | 30, _ => rfl
  | 31, _ => rfl
  | 32, _ => rfl
  | 33, _ => rfl
  | 34, _ => rfl
  | 35, _ => rfl
  | 36, _ => rfl
  | 37, _ => rfl
  | 38, _ => rfl
  | 39, _ => rfl
  | 40, _ => rfl
  | 41, _ => rfl
  | 42, _ => rfl
  | 43, _ => rfl
  | 44, _ => rfl
  | 45, _ => rfl
  | 46, _ => rfl
  | 47, _ => rfl
  | 48, _ => rfl
  | 49, _ => rfl
  | 50, _ => rfl
  | 51, _ => rfl
  | 52, _ => rfl
  | 53, _ => rfl
  | 54, _ => rfl
  | 55, _ => rfl
  | 56, _ => rfl
  | 57, _ => rfl
  | 58, _ => rfl
  | 59, _ => rfl
  | 60, _ => rfl
  | 61, _ => rfl
  | 62, _ => rfl
  | 63, _ => rfl
  | 64, _ => rfl
  | 65, _ => rfl
  | n + 66, h => absurd h (by omega)
set_option maxHeartbeats 4000000 in
set_option maxRecDepth 100000 in
theorem whole_start {p : Program} {e : Env} {s : State} {m : MethodId} {below : List Frame} {meth : Method} {c : Code} (l : Launch) (hst : l.stackTraces = false) {bs L : Nat} {xs : Nat → Int32} (hL : L ≤ 6) (C0 : lw_At p s m meth c bs L xs) : W p l e room_1 s m #[Value.ref bs] below meth c s.heap [] 0 0 (lw_Z below #[Value.ref bs] s) (entryFrame m ([Value.ref bs] : List Value).toArray 7) := by
  obtain ⟨hx, hb, hr, hml, hown, hts, hX, hbl, hlocks, hgv⟩ := id C0
  have htg : ∀ w ∈ gw, w.before #[Value.ref bs] s = true := fun w h => hts w (gw_in w h)
  obtain ⟨A, hAe⟩ : ∃ A : Nat → Prop, A = (fun q => s.heap.size ≤ q) := ⟨_, rfl⟩
  have hA : ∀ q : Nat, s.heap.size ≤ q → A q := fun q h => by rw [hAe]; exact h
  have hA2 : ∀ q : Nat, A q → s.heap.size ≤ q := fun q h => by rw [hAe] at h; exact h
  have hbA : ¬ A bs := fun h => Nat.not_le.mpr hbl (hA2 bs h)
  obtain ⟨k0, i0, hk0⟩ := u_known (C := RX0) (T := TX0) (N := 5) (n := 5) hts (gf_tb gf_X0) (htg _ mw_342)
  obtain ⟨k1, i1, hk1⟩ := u_known (C := RX1) (T := TX1) (N := 6) (n := 6) hts (gf_tb gf_X1) (htg _ mw_279)
  obtain ⟨k2, i2, hk2⟩ := u_known (C := RX2) (T := TX2) (N := 5) (n := 5) hts (gf_tb gf_X2) (htg _ mw_343)
  obtain ⟨k3, i3, hk3⟩ := u_known (C := RX3) (T := TX3) (N := 4) (n := 4) hts (gf_tb gf_X3) (htg _ mw_262)
  obtain ⟨k4, i4, hk4⟩ := u_known (C := RX4) (T := TX4) (N := 11) (n := 11) hts (gf_tb gf_X4) (htg _ mw_269)
  obtain ⟨k5, i5, hk5⟩ := u_known (C := RX5) (T := TX5) (N := 6) (n := 6) hts (gf_tb gf_X5) (htg _ mw_274)
  obtain ⟨k6, i6, hk6⟩ := u_known (C := RX6) (T := TX6) (N := 3) (n := 3) hts (gf_tb gf_X6) (htg _ mw_257)
  obtain ⟨k7, i7, hk7⟩ := u_known (C := RX7) (T := TX7) (N := 3) (n := 3) hts (gf_tb gf_X7) (htg _ mw_284)
  obtain ⟨k8, i8, hk8⟩ := u_known (C := RX8) (T := TX8) (N := 19) (n := 19) hts (gf_tb gf_X8) (htg _ mw_344)
  obtain ⟨k9, i9, hk9⟩ := u_known (C := RX9) (T := TX9) (N := 14) (n := 14) hts (gf_tb gf_X9) (htg _ mw_289)
  obtain ⟨k10, i10, hk10⟩ := u_known (C := RX10) (T := TX10) (N := 17) (n := 17) hts (gf_tb gf_X10) (htg _ mw_345)
  obtain ⟨k11, i11, hk11⟩ := u_known (C := RX11) (T := TX11) (N := 66) (n := 66) hts (gf_tb gf_X11) (htg _ mw_346)
  obtain ⟨D, hKc⟩ : ∃ D : va_G, ∀ (k : Nat) (q : vw_C), vwCl[k]? = some q → u_Kn s q.1 q.2.1 q.2.2 (D.1 k) (D.2 k) := by
    refine ⟨(fun k => [k0, k1, k2, k3, k4, k5, k6, k7, k8, k9, k10, k11].getD k k0, fun k => [i0, i1, i2, i3, i4, i5, i6, i7, i8, i9, i10, i11].getD k i0), ?_⟩
    intro k q hq
    match k, hq with
    | 0, hq => cases hq; exact hk0
    | 1, hq => cases hq; exact hk1
    | 2, hq => cases hq; exact hk2
    | 3, hq => cases hq; exact hk3
    | 4, hq => cases hq; exact hk4
    | 5, hq => cases hq; exact hk5
    | 6, hq => cases hq; exact hk6
    | 7, hq => cases hq; exact hk7
    | 8, hq => cases hq; exact hk8
    | 9, hq => cases hq; exact hk9
    | 10, hq => cases hq; exact hk10
    | 11, hq => cases hq; exact hk11
    | k + 12, hq => simp [vwCl] at hq
  have hK : va_K D vwCl [] s := ⟨hKc, fun k q h => by simp at h⟩
  have hP : va_P D vwCl [] s.heap := nl_P
  have hD : va_D A [] := nl_D
  have hS : va_S A s.heap s.heap [] := va_S.rf
  have hAO : va_AO RX2 s := va_AO.of (hts (.arrayOver (.object RX2)) (by decide +kernel))
  have hN : nx A s := ⟨va_Nw.of rfl (hts _ (show Cond.castable "java/util/NoSuchElementException" "java/util/NoSuchElementException" ∈ lw_tbl by decide +kernel)), va_Nw.of rfl (hts _ (show Cond.declares (Bundle.init0 "java/lang/RuntimeException") ∈ lw_tbl by decide +kernel)), va_Nw.of rfl (hts _ (show Cond.declares (Bundle.init0 "java/lang/Exception") ∈ lw_tbl by decide +kernel)), va_Nw.of rfl (hts _ (show Cond.declares (Bundle.init0 Bundle.tN) ∈ lw_tbl by decide +kernel)), vx_Zqof (hts _ (show Cond.laysStatic Bundle.tN "UNASSIGNED_STACK" Bundle.steD ∈ lw_tbl by decide +kernel)) (hts _ (show Cond.initialized Bundle.tN ∈ lw_tbl by decide +kernel)) (flat_of_before _ hgv _ (by decide +kernel)) (fun q h z => Nat.not_le.mpr h (hA2 q z)), vx_Zqof (hts _ (show Cond.laysStatic Bundle.tN "SUPPRESSED_SENTINEL" Bundle.listD ∈ lw_tbl by decide +kernel)) (hts _ (show Cond.initialized Bundle.tN ∈ lw_tbl by decide +kernel)) (flat_of_before _ hgv _ (by decide +kernel)) (fun q h z => Nat.not_le.mpr h (hA2 q z))⟩
  have hl := lv_entry ([.ref bs]) (n := 7) (Nat.le_of_ble_eq_true rfl)
  rw [lg_entry_eq]
  generalize (lg_sl ([.ref bs]) ++ List.replicate (7 - (lg_sl ([.ref bs])).length) Slot.unset).toArray = ls at hl ⊢
  have hl : lv_has ls 7 [(0, .ref bs)] := hl
  refine va_new (ci := 10) (fs := [.null, .null, .null, .int 0, .int 0, .null, .null, .null, .null, .null, .null, .null, .null, .null, .int 0, .int 0, .null]) (C := RX10) (T := TX10) (N := 17) hx hb htg in_X10 tyX10 tyX10_ok hown (htg _ mw_638) (htg _ mw_345) (htg _ mw_23) hK hP hD hS hA rfl (fun j hj => by rcases (show j = 0 ∨ j = 1 ∨ j = 2 ∨ j = 3 ∨ j = 4 ∨ j = 5 ∨ j = 6 ∨ j = 7 ∨ j = 8 ∨ j = 9 ∨ j = 10 ∨ j = 11 ∨ j = 12 ∨ j = 13 ∨ j = 14 ∨ j = 15 ∨ j = 16 by omega) with rfl | rfl | rfl | rfl | rfl | rfl | rfl | rfl | rfl | rfl | rfl | rfl | rfl | rfl | rfl | rfl | rfl <;> rfl) (Nat.le_of_ble_eq_true rfl) (Nat.le_of_ble_eq_true rfl) dL_law_0 (fun q_1 H hP hD hS => ?_)
  have hP : va_P D vwCl [(q_1, .inr (10, [.null, .null, .null, .int 0, .int 0, .null, .null, .null, .null, .null, .null, .null, .null, .null, .int 0, .int 0, .null]))] H := hP
  have hD : va_D A [(q_1, .inr (10, [.null, .null, .null, .int 0, .int 0, .null, .null, .null, .null, .null, .null, .null, .null, .null, .int 0, .int 0, .null]))] := hD
  refine W.widen (k := 1) (n := 17) (Nat.le_of_ble_eq_true rfl) (Nat.le_of_ble_eq_true rfl) ?_
  refine lv_dup hx hb dL_law_3 rfl ?_
  have hPc := hP.sub (ws' := [(q_1, .inr (10, [.null, .null, .null, .int 0, .int 0, .null, .null, .null, .null, .null, .null, .null, .null, .null, .int 0, .int 0, .null]))]) [0] rfl
  have hDc := hD.sub (ws' := [(q_1, .inr (10, [.null, .null, .null, .int 0, .int 0, .null, .null, .null, .null, .null, .null, .null, .null, .null, .int 0, .int 0, .null]))]) [0] (by decide) rfl
  have hKc := hK.sub (tys' := []) [] rfl
  have hFc := va_free (wc := [(q_1, .inr (10, [.null, .null, .null, .int 0, .int 0, .null, .null, .null, .null, .null, .null, .null, .null, .null, .int 0, .int 0, .null]))]) hD hS hA [0] rfl
  refine va_callv (va_runI (As := []) (rest := [.ref q_1]) ⟨hx, hb, hml, hown, htg⟩ (c_X10_init l D q_1  H.size) (cI 0 htg mw_641 kv_X10_init rfl rfl ⟨(Nat.le_of_ble_eq_true rfl), (Nat.le_of_ble_eq_true rfl)⟩) ⟨bl_a, us_a hAO hPc hKc hDc⟩ rfl rfl hl.1 rfl (lv_room (Nat.le_of_ble_eq_true rfl)) dL_law_4 ⟨(Nat.le_of_ble_eq_true rfl), (Nat.le_of_ble_eq_true rfl)⟩) hS (fun q _ h => hFc q h) hFc (fun u t H locs ht hvm hw hB hz1 hk1 hS => ?_)
  obtain ⟨a, cA, f⟩ := u
  obtain ⟨hP1, hK1, hD1⟩ := hB
  rw [ht] at hP1
  have hK1 := va_K.moved hvm.symm hK1
  obtain ⟨hP, hD⟩ := va_join (wr := []) (w1 := [((a 0), .inr (10, [.ref (a 1), .ref (a 3), .ref (a 40), .int 0, .int (-1), .ref (a 4), .ref (a 5), .ref (a 6), .ref (a 7), .ref (a 8), .ref (a 9), .ref (a 10), .null, .null, .int 0, .int (-1), .ref (a 41)])), ((a 1), .inr (6, [.ref (a 2), .int 0, .int 0])), ((a 2), .inl ((cA 2), 160, .inl (f 2))), ((a 3), .inr (3, [.ref (a 1), .ref (a 42), .int 0, .int 0])), ((a 4), .inr (4, [.int 0, .int 0, .ref (a 43), .ref (a 44), .ref (a 45), .ref (a 46), .ref (a 47), .ref (a 48), .ref (a 49), .ref (a 50), .ref (a 51)])), ((a 5), .inr (4, [.int 0, .int 0, .ref (a 11), .ref (a 12), .ref (a 13), .ref (a 14), .ref (a 15), .ref (a 16), .ref (a 17), .ref (a 18), .ref (a 19)])), ((a 6), .inr (5, [.ref (a 52), .int 0, .ref (a 53), .int 0, .int 0, .int 0])), ((a 7), .inr (5, [.ref (a 54), .int 0, .ref (a 55), .int 0, .int 0, .int 0])), ((a 8), .inr (1, [.ref (a 56), .int 0, .int 0, .ref (a 57), .int 0, .ref (a 58)])), ((a 9), .inr (7, [.ref (a 59), .ref (a 60), .ref (a 61)])), ((a 11), .inl ((cA 11), 12, .inl (f 11))), ((a 12), .inl ((cA 12), 12, .inl (f 12))), ((a 13), .inl ((cA 13), 144, .inl (f 13))), ((a 14), .inl ((cA 14), 12, .inl (f 14))), ((a 15), .inl ((cA 15), 12, .inl (f 15))), ((a 16), .inl ((cA 16), 12, .inl (f 16))), ((a 17), .inl ((cA 17), 12, .inl (f 17))), ((a 18), .inl ((cA 18), 12, .inl (f 18))), ((a 19), .inl ((cA 19), 144, .inl (f 19)))]) hP hD [0] [] rfl rfl (by decide) (by decide) hk1 hFc hP1 hD1
  have hK : va_K D vwCl [((cA 2), .int), ((cA 11), .int), ((cA 12), .int), ((cA 13), .int), ((cA 14), .int), ((cA 15), .int), ((cA 16), .int), ((cA 17), .int), ((cA 18), .int), ((cA 19), .int)] s := hK.app hK1
  have hP : va_P D vwCl [((a 0), .inr (10, [.ref (a 1), .ref (a 3), .ref (a 40), .int 0, .int (-1), .ref (a 4), .ref (a 5), .ref (a 6), .ref (a 7), .ref (a 8), .ref (a 9), .ref (a 10), .null, .null, .int 0, .int (-1), .ref (a 41)])), ((a 1), .inr (6, [.ref (a 2), .int 0, .int 0])), ((a 2), .inl ((cA 2), 160, .inl (f 2))), ((a 3), .inr (3, [.ref (a 1), .ref (a 42), .int 0, .int 0])), ((a 4), .inr (4, [.int 0, .int 0, .ref (a 43), .ref (a 44), .ref (a 45), .ref (a 46), .ref (a 47), .ref (a 48), .ref (a 49), .ref (a 50), .ref (a 51)])), ((a 5), .inr (4, [.int 0, .int 0, .ref (a 11), .ref (a 12), .ref (a 13), .ref (a 14), .ref (a 15), .ref (a 16), .ref (a 17), .ref (a 18), .ref (a 19)])), ((a 6), .inr (5, [.ref (a 52), .int 0, .ref (a 53), .int 0, .int 0, .int 0])), ((a 7), .inr (5, [.ref (a 54), .int 0, .ref (a 55), .int 0, .int 0, .int 0])), ((a 8), .inr (1, [.ref (a 56), .int 0, .int 0, .ref (a 57), .int 0, .ref (a 58)])), ((a 9), .inr (7, [.ref (a 59), .ref (a 60), .ref (a 61)])), ((a 11), .inl ((cA 11), 12, .inl (f 11))), ((a 12), .inl ((cA 12), 12, .inl (f 12))), ((a 13), .inl ((cA 13), 144, .inl (f 13))), ((a 14), .inl ((cA 14), 12, .inl (f 14))), ((a 15), .inl ((cA 15), 12, .inl (f 15))), ((a 16), .inl ((cA 16), 12, .inl (f 16))), ((a 17), .inl ((cA 17), 12, .inl (f 17))), ((a 18), .inl ((cA 18), 12, .inl (f 18))), ((a 19), .inl ((cA 19), 144, .inl (f 19)))] H := hP
  have hD : va_D A [((a 0), .inr (10, [.ref (a 1), .ref (a 3), .ref (a 40), .int 0, .int (-1), .ref (a 4), .ref (a 5), .ref (a 6), .ref (a 7), .ref (a 8), .ref (a 9), .ref (a 10), .null, .null, .int 0, .int (-1), .ref (a 41)])), ((a 1), .inr (6, [.ref (a 2), .int 0, .int 0])), ((a 2), .inl ((cA 2), 160, .inl (f 2))), ((a 3), .inr (3, [.ref (a 1), .ref (a 42), .int 0, .int 0])), ((a 4), .inr (4, [.int 0, .int 0, .ref (a 43), .ref (a 44), .ref (a 45), .ref (a 46), .ref (a 47), .ref (a 48), .ref (a 49), .ref (a 50), .ref (a 51)])), ((a 5), .inr (4, [.int 0, .int 0, .ref (a 11), .ref (a 12), .ref (a 13), .ref (a 14), .ref (a 15), .ref (a 16), .ref (a 17), .ref (a 18), .ref (a 19)])), ((a 6), .inr (5, [.ref (a 52), .int 0, .ref (a 53), .int 0, .int 0, .int 0])), ((a 7), .inr (5, [.ref (a 54), .int 0, .ref (a 55), .int 0, .int 0, .int 0])), ((a 8), .inr (1, [.ref (a 56), .int 0, .int 0, .ref (a 57), .int 0, .ref (a 58)])), ((a 9), .inr (7, [.ref (a 59), .ref (a 60), .ref (a 61)])), ((a 11), .inl ((cA 11), 12, .inl (f 11))), ((a 12), .inl ((cA 12), 12, .inl (f 12))), ((a 13), .inl ((cA 13), 144, .inl (f 13))), ((a 14), .inl ((cA 14), 12, .inl (f 14))), ((a 15), .inl ((cA 15), 12, .inl (f 15))), ((a 16), .inl ((cA 16), 12, .inl (f 16))), ((a 17), .inl ((cA 17), 12, .inl (f 17))), ((a 18), .inl ((cA 18), 12, .inl (f 18))), ((a 19), .inl ((cA 19), 144, .inl (f 19)))] := hD
  refine W.widen (k := 50) (n := 1735) (Nat.le_of_ble_eq_true rfl) (Nat.le_of_ble_eq_true rfl) ?_
  have hw : a 0 = q_1 := hw
  rw [← hw]
  refine lv_astore_n (lv' := [(1, .ref (a 0)), (0, .ref bs)]) hx hb dL_law_7 rfl hl (by decide) rfl (fun ls hl => ?_)
  refine va_new (ci := 11) (fs := [.int 0, .null, .int 0, .int 0, .int 0, .int 0, .null, .null, .null, .null, .null, .null, .null, .int 0, .int 0, .null, .null, .null, .null, .null, .int 0, .int 0, .null, .null, .null, .int 0, .int 0, .null, .int 0, .null, .int 0, .null, .null, .int 0, .null, .null, .int 0, .int 0, .null, .null, .null, .null, .null, .null, .null, .null, .null, .null, .int 0, .int 0, .null, .null, .null, .null, .null, .int 0, .int 0, .null, .null, .null, .null, .null, .null, .int 0, .int 0, .int 0]) (C := RX11) (T := TX11) (N := 66) hx hb htg in_X11 tyX11 tyX11_ok hown (htg _ mw_642) (htg _ mw_346) (htg _ mw_58) hK hP hD hS hA rfl df_X11 (Nat.le_of_ble_eq_true rfl) (Nat.le_of_ble_eq_true rfl) dL_law_8 (fun q_2 H hP hD hS => ?_)
  have hP : va_P D vwCl [((a 0), .inr (10, [.ref (a 1), .ref (a 3), .ref (a 40), .int 0, .int (-1), .ref (a 4), .ref (a 5), .ref (a 6), .ref (a 7), .ref (a 8), .ref (a 9), .ref (a 10), .null, .null, .int 0, .int (-1), .ref (a 41)])), ((a 1), .inr (6, [.ref (a 2), .int 0, .int 0])), ((a 2), .inl ((cA 2), 160, .inl (f 2))), ((a 3), .inr (3, [.ref (a 1), .ref (a 42), .int 0, .int 0])), ((a 4), .inr (4, [.int 0, .int 0, .ref (a 43), .ref (a 44), .ref (a 45), .ref (a 46), .ref (a 47), .ref (a 48), .ref (a 49), .ref (a 50), .ref (a 51)])), ((a 5), .inr (4, [.int 0, .int 0, .ref (a 11), .ref (a 12), .ref (a 13), .ref (a 14), .ref (a 15), .ref (a 16), .ref (a 17), .ref (a 18), .ref (a 19)])), ((a 6), .inr (5, [.ref (a 52), .int 0, .ref (a 53), .int 0, .int 0, .int 0])), ((a 7), .inr (5, [.ref (a 54), .int 0, .ref (a 55), .int 0, .int 0, .int 0])), ((a 8), .inr (1, [.ref (a 56), .int 0, .int 0, .ref (a 57), .int 0, .ref (a 58)])), ((a 9), .inr (7, [.ref (a 59), .ref (a 60), .ref (a 61)])), ((a 11), .inl ((cA 11), 12, .inl (f 11))), ((a 12), .inl ((cA 12), 12, .inl (f 12))), ((a 13), .inl ((cA 13), 144, .inl (f 13))), ((a 14), .inl ((cA 14), 12, .inl (f 14))), ((a 15), .inl ((cA 15), 12, .inl (f 15))), ((a 16), .inl ((cA 16), 12, .inl (f 16))), ((a 17), .inl ((cA 17), 12, .inl (f 17))), ((a 18), .inl ((cA 18), 12, .inl (f 18))), ((a 19), .inl ((cA 19), 144, .inl (f 19))), (q_2, .inr (11, [.int 0, .null, .int 0, .int 0, .int 0, .int 0, .null, .null, .null, .null, .null, .null, .null, .int 0, .int 0, .null, .null, .null, .null, .null, .int 0, .int 0, .null, .null, .null, .int 0, .int 0, .null, .int 0, .null, .int 0, .null, .null, .int 0, .null, .null, .int 0, .int 0, .null, .null, .null, .null, .null, .null, .null, .null, .null, .null, .int 0, .int 0, .null, .null, .null, .null, .null, .int 0, .int 0, .null, .null, .null, .null, .null, .null, .int 0, .int 0, .int 0]))] H := hP
  have hD : va_D A [((a 0), .inr (10, [.ref (a 1), .ref (a 3), .ref (a 40), .int 0, .int (-1), .ref (a 4), .ref (a 5), .ref (a 6), .ref (a 7), .ref (a 8), .ref (a 9), .ref (a 10), .null, .null, .int 0, .int (-1), .ref (a 41)])), ((a 1), .inr (6, [.ref (a 2), .int 0, .int 0])), ((a 2), .inl ((cA 2), 160, .inl (f 2))), ((a 3), .inr (3, [.ref (a 1), .ref (a 42), .int 0, .int 0])), ((a 4), .inr (4, [.int 0, .int 0, .ref (a 43), .ref (a 44), .ref (a 45), .ref (a 46), .ref (a 47), .ref (a 48), .ref (a 49), .ref (a 50), .ref (a 51)])), ((a 5), .inr (4, [.int 0, .int 0, .ref (a 11), .ref (a 12), .ref (a 13), .ref (a 14), .ref (a 15), .ref (a 16), .ref (a 17), .ref (a 18), .ref (a 19)])), ((a 6), .inr (5, [.ref (a 52), .int 0, .ref (a 53), .int 0, .int 0, .int 0])), ((a 7), .inr (5, [.ref (a 54), .int 0, .ref (a 55), .int 0, .int 0, .int 0])), ((a 8), .inr (1, [.ref (a 56), .int 0, .int 0, .ref (a 57), .int 0, .ref (a 58)])), ((a 9), .inr (7, [.ref (a 59), .ref (a 60), .ref (a 61)])), ((a 11), .inl ((cA 11), 12, .inl (f 11))), ((a 12), .inl ((cA 12), 12, .inl (f 12))), ((a 13), .inl ((cA 13), 144, .inl (f 13))), ((a 14), .inl ((cA 14), 12, .inl (f 14))), ((a 15), .inl ((cA 15), 12, .inl (f 15))), ((a 16), .inl ((cA 16), 12, .inl (f 16))), ((a 17), .inl ((cA 17), 12, .inl (f 17))), ((a 18), .inl ((cA 18), 12, .inl (f 18))), ((a 19), .inl ((cA 19), 144, .inl (f 19))), (q_2, .inr (11, [.int 0, .null, .int 0, .int 0, .int 0, .int 0, .null, .null, .null, .null, .null, .null, .null, .int 0, .int 0, .null, .null, .null, .null, .null, .int 0, .int 0, .null, .null, .null, .int 0, .int 0, .null, .int 0, .null, .int 0, .null, .null, .int 0, .null, .null, .int 0, .int 0, .null, .null, .null, .null, .null, .null, .null, .null, .null, .null, .int 0, .int 0, .null, .null, .null, .null, .null, .int 0, .int 0, .null, .null, .null, .null, .null, .null, .int 0, .int 0, .int 0]))] := hD
  refine W.widen (k := 51) (n := 1801) (Nat.le_of_ble_eq_true rfl) (Nat.le_of_ble_eq_true rfl) ?_
  refine lv_dup hx hb dL_law_11 rfl ?_
  have hPc := hP.sub (ws' := [(q_2, .inr (11, [.int 0, .null, .int 0, .int 0, .int 0, .int 0, .null, .null, .null, .null, .null, .null, .null, .int 0, .int 0, .null, .null, .null, .null, .null, .int 0, .int 0, .null, .null, .null, .int 0, .int 0, .null, .int 0, .null, .int 0, .null, .null, .int 0, .null, .null, .int 0, .int 0, .null, .null, .null, .null, .null, .null, .null, .null, .null, .null, .int 0, .int 0, .null, .null, .null, .null, .null, .int 0, .int 0, .null, .null, .null, .null, .null, .null, .int 0, .int 0, .int 0]))]) [19] rfl
  have hDc := hD.sub (ws' := [(q_2, .inr (11, [.int 0, .null, .int 0, .int 0, .int 0, .int 0, .null, .null, .null, .null, .null, .null, .null, .int 0, .int 0, .null, .null, .null, .null, .null, .int 0, .int 0, .null, .null, .null, .int 0, .int 0, .null, .int 0, .null, .int 0, .null, .null, .int 0, .null, .null, .int 0, .int 0, .null, .null, .null, .null, .null, .null, .null, .null, .null, .null, .int 0, .int 0, .null, .null, .null, .null, .null, .int 0, .int 0, .null, .null, .null, .null, .null, .null, .int 0, .int 0, .int 0]))]) [19] (by decide) rfl
  have hKc := hK.sub (tys' := []) [] rfl
  have hFc := va_free (wc := [(q_2, .inr (11, [.int 0, .null, .int 0, .int 0, .int 0, .int 0, .null, .null, .null, .null, .null, .null, .null, .int 0, .int 0, .null, .null, .null, .null, .null, .int 0, .int 0, .null, .null, .null, .int 0, .int 0, .null, .int 0, .null, .int 0, .null, .null, .int 0, .null, .null, .int 0, .int 0, .null, .null, .null, .null, .null, .null, .null, .null, .null, .null, .int 0, .int 0, .null, .null, .null, .null, .null, .int 0, .int 0, .null, .null, .null, .null, .null, .null, .int 0, .int 0, .int 0]))]) hD hS hA [19] rfl
  refine va_callv (va_runI (As := []) (rest := [.ref q_2]) ⟨hx, hb, hml, hown, htg⟩ (c_X11_init l D q_2  H.size) (cI 0 htg mw_645 kv_X11_init rfl rfl ⟨(Nat.le_of_ble_eq_true rfl), (Nat.le_of_ble_eq_true rfl)⟩) ⟨bl_n, us_n hPc hKc hDc⟩ rfl rfl hl.1 rfl (lv_room (Nat.le_of_ble_eq_true rfl)) dL_law_12 ⟨(Nat.le_of_ble_eq_true rfl), (Nat.le_of_ble_eq_true rfl)⟩) hS (fun q _ h => hFc q h) hFc (fun u t H locs ht hvm hw hB hz1 hk1 hS => ?_)
  obtain ⟨b, cB, fB⟩ := u
  obtain ⟨hP1, hK1, hD1⟩ := hB
  rw [ht] at hP1
  have hK1 := va_K.moved hvm.symm hK1
  obtain ⟨hP, hD⟩ := va_join (wr := [((a 0), .inr (10, [.ref (a 1), .ref (a 3), .ref (a 40), .int 0, .int (-1), .ref (a 4), .ref (a 5), .ref (a 6), .ref (a 7), .ref (a 8), .ref (a 9), .ref (a 10), .null, .null, .int 0, .int (-1), .ref (a 41)])), ((a 1), .inr (6, [.ref (a 2), .int 0, .int 0])), ((a 2), .inl ((cA 2), 160, .inl (f 2))), ((a 3), .inr (3, [.ref (a 1), .ref (a 42), .int 0, .int 0])), ((a 4), .inr (4, [.int 0, .int 0, .ref (a 43), .ref (a 44), .ref (a 45), .ref (a 46), .ref (a 47), .ref (a 48), .ref (a 49), .ref (a 50), .ref (a 51)])), ((a 5), .inr (4, [.int 0, .int 0, .ref (a 11), .ref (a 12), .ref (a 13), .ref (a 14), .ref (a 15), .ref (a 16), .ref (a 17), .ref (a 18), .ref (a 19)])), ((a 6), .inr (5, [.ref (a 52), .int 0, .ref (a 53), .int 0, .int 0, .int 0])), ((a 7), .inr (5, [.ref (a 54), .int 0, .ref (a 55), .int 0, .int 0, .int 0])), ((a 8), .inr (1, [.ref (a 56), .int 0, .int 0, .ref (a 57), .int 0, .ref (a 58)])), ((a 9), .inr (7, [.ref (a 59), .ref (a 60), .ref (a 61)])), ((a 11), .inl ((cA 11), 12, .inl (f 11))), ((a 12), .inl ((cA 12), 12, .inl (f 12))), ((a 13), .inl ((cA 13), 144, .inl (f 13))), ((a 14), .inl ((cA 14), 12, .inl (f 14))), ((a 15), .inl ((cA 15), 12, .inl (f 15))), ((a 16), .inl ((cA 16), 12, .inl (f 16))), ((a 17), .inl ((cA 17), 12, .inl (f 17))), ((a 18), .inl ((cA 18), 12, .inl (f 18))), ((a 19), .inl ((cA 19), 144, .inl (f 19)))]) (w1 := [((b 0), .inr (11, [.int 0, .ref (b 1), .int 0, .int 0, .int 0, .int 0, .ref (b 6), .ref (b 7), .ref (b 8), .ref (b 9), .ref (b 10), .ref (b 11), .ref (b 12), .int 0, .int 0, .ref (b 15), .ref (b 16), .ref (b 17), .ref (b 18), .ref (b 19), .int 0, .int 0, .ref (b 22), .ref (b 23), .ref (b 24), .int 0, .int 0, .ref (b 27), .int 0, .ref (b 29), .int (-1), .ref (b 31), .ref (b 32), .int (-1), .ref (b 34), .ref (b 35), .int 0, .int 0, .ref (b 38), .ref (b 39), .ref (b 40), .ref (b 41), .ref (b 42), .ref (b 43), .ref (b 44), .ref (b 45), .ref (b 46), .ref (b 47), .int 0, .int 0, .ref (b 50), .ref (b 51), .ref (b 52), .ref (b 53), .ref (b 54), .int (-1), .int 0, .ref (b 57), .ref (b 58), .ref (b 59), .ref (b 60), .ref (b 61), .ref (b 62), .int 0, .int 0, .int 0])), ((b 1), .inl ((cB 1), 160, .inl (fB 1))), ((b 8), .inl ((cB 8), 5, .inl (fB 8))), ((b 9), .inl ((cB 9), 5, .inl (fB 9))), ((b 19), .inl ((cB 19), 12, .inl (fB 19)))]) hP hD [19] [0, 1, 2, 3, 4, 5, 6, 7, 8, 9, 10, 11, 12, 13, 14, 15, 16, 17, 18] rfl rfl (by decide) (by decide) hk1 hFc hP1 hD1
  have hK : va_K D vwCl [((cA 2), .int), ((cA 11), .int), ((cA 12), .int), ((cA 13), .int), ((cA 14), .int), ((cA 15), .int), ((cA 16), .int), ((cA 17), .int), ((cA 18), .int), ((cA 19), .int), ((cB 1), .int), ((cB 8), .int), ((cB 9), .int), ((cB 19), .int)] s := hK.app hK1
  have hP : va_P D vwCl [((a 0), .inr (10, [.ref (a 1), .ref (a 3), .ref (a 40), .int 0, .int (-1), .ref (a 4), .ref (a 5), .ref (a 6), .ref (a 7), .ref (a 8), .ref (a 9), .ref (a 10), .null, .null, .int 0, .int (-1), .ref (a 41)])), ((a 1), .inr (6, [.ref (a 2), .int 0, .int 0])), ((a 2), .inl ((cA 2), 160, .inl (f 2))), ((a 3), .inr (3, [.ref (a 1), .ref (a 42), .int 0, .int 0])), ((a 4), .inr (4, [.int 0, .int 0, .ref (a 43), .ref (a 44), .ref (a 45), .ref (a 46), .ref (a 47), .ref (a 48), .ref (a 49), .ref (a 50), .ref (a 51)])), ((a 5), .inr (4, [.int 0, .int 0, .ref (a 11), .ref (a 12), .ref (a 13), .ref (a 14), .ref (a 15), .ref (a 16), .ref (a 17), .ref (a 18), .ref (a 19)])), ((a 6), .inr (5, [.ref (a 52), .int 0, .ref (a 53), .int 0, .int 0, .int 0])), ((a 7), .inr (5, [.ref (a 54), .int 0, .ref (a 55), .int 0, .int 0, .int 0])), ((a 8), .inr (1, [.ref (a 56), .int 0, .int 0, .ref (a 57), .int 0, .ref (a 58)])), ((a 9), .inr (7, [.ref (a 59), .ref (a 60), .ref (a 61)])), ((a 11), .inl ((cA 11), 12, .inl (f 11))), ((a 12), .inl ((cA 12), 12, .inl (f 12))), ((a 13), .inl ((cA 13), 144, .inl (f 13))), ((a 14), .inl ((cA 14), 12, .inl (f 14))), ((a 15), .inl ((cA 15), 12, .inl (f 15))), ((a 16), .inl ((cA 16), 12, .inl (f 16))), ((a 17), .inl ((cA 17), 12, .inl (f 17))), ((a 18), .inl ((cA 18), 12, .inl (f 18))), ((a 19), .inl ((cA 19), 144, .inl (f 19))), ((b 0), .inr (11, [.int 0, .ref (b 1), .int 0, .int 0, .int 0, .int 0, .ref (b 6), .ref (b 7), .ref (b 8), .ref (b 9), .ref (b 10), .ref (b 11), .ref (b 12), .int 0, .int 0, .ref (b 15), .ref (b 16), .ref (b 17), .ref (b 18), .ref (b 19), .int 0, .int 0, .ref (b 22), .ref (b 23), .ref (b 24), .int 0, .int 0, .ref (b 27), .int 0, .ref (b 29), .int (-1), .ref (b 31), .ref (b 32), .int (-1), .ref (b 34), .ref (b 35), .int 0, .int 0, .ref (b 38), .ref (b 39), .ref (b 40), .ref (b 41), .ref (b 42), .ref (b 43), .ref (b 44), .ref (b 45), .ref (b 46), .ref (b 47), .int 0, .int 0, .ref (b 50), .ref (b 51), .ref (b 52), .ref (b 53), .ref (b 54), .int (-1), .int 0, .ref (b 57), .ref (b 58), .ref (b 59), .ref (b 60), .ref (b 61), .ref (b 62), .int 0, .int 0, .int 0])), ((b 1), .inl ((cB 1), 160, .inl (fB 1))), ((b 8), .inl ((cB 8), 5, .inl (fB 8))), ((b 9), .inl ((cB 9), 5, .inl (fB 9))), ((b 19), .inl ((cB 19), 12, .inl (fB 19)))] H := hP
  have hD : va_D A [((a 0), .inr (10, [.ref (a 1), .ref (a 3), .ref (a 40), .int 0, .int (-1), .ref (a 4), .ref (a 5), .ref (a 6), .ref (a 7), .ref (a 8), .ref (a 9), .ref (a 10), .null, .null, .int 0, .int (-1), .ref (a 41)])), ((a 1), .inr (6, [.ref (a 2), .int 0, .int 0])), ((a 2), .inl ((cA 2), 160, .inl (f 2))), ((a 3), .inr (3, [.ref (a 1), .ref (a 42), .int 0, .int 0])), ((a 4), .inr (4, [.int 0, .int 0, .ref (a 43), .ref (a 44), .ref (a 45), .ref (a 46), .ref (a 47), .ref (a 48), .ref (a 49), .ref (a 50), .ref (a 51)])), ((a 5), .inr (4, [.int 0, .int 0, .ref (a 11), .ref (a 12), .ref (a 13), .ref (a 14), .ref (a 15), .ref (a 16), .ref (a 17), .ref (a 18), .ref (a 19)])), ((a 6), .inr (5, [.ref (a 52), .int 0, .ref (a 53), .int 0, .int 0, .int 0])), ((a 7), .inr (5, [.ref (a 54), .int 0, .ref (a 55), .int 0, .int 0, .int 0])), ((a 8), .inr (1, [.ref (a 56), .int 0, .int 0, .ref (a 57), .int 0, .ref (a 58)])), ((a 9), .inr (7, [.ref (a 59), .ref (a 60), .ref (a 61)])), ((a 11), .inl ((cA 11), 12, .inl (f 11))), ((a 12), .inl ((cA 12), 12, .inl (f 12))), ((a 13), .inl ((cA 13), 144, .inl (f 13))), ((a 14), .inl ((cA 14), 12, .inl (f 14))), ((a 15), .inl ((cA 15), 12, .inl (f 15))), ((a 16), .inl ((cA 16), 12, .inl (f 16))), ((a 17), .inl ((cA 17), 12, .inl (f 17))), ((a 18), .inl ((cA 18), 12, .inl (f 18))), ((a 19), .inl ((cA 19), 144, .inl (f 19))), ((b 0), .inr (11, [.int 0, .ref (b 1), .int 0, .int 0, .int 0, .int 0, .ref (b 6), .ref (b 7), .ref (b 8), .ref (b 9), .ref (b 10), .ref (b 11), .ref (b 12), .int 0, .int 0, .ref (b 15), .ref (b 16), .ref (b 17), .ref (b 18), .ref (b 19), .int 0, .int 0, .ref (b 22), .ref (b 23), .ref (b 24), .int 0, .int 0, .ref (b 27), .int 0, .ref (b 29), .int (-1), .ref (b 31), .ref (b 32), .int (-1), .ref (b 34), .ref (b 35), .int 0, .int 0, .ref (b 38), .ref (b 39), .ref (b 40), .ref (b 41), .ref (b 42), .ref (b 43), .ref (b 44), .ref (b 45), .ref (b 46), .ref (b 47), .int 0, .int 0, .ref (b 50), .ref (b 51), .ref (b 52), .ref (b 53), .ref (b 54), .int (-1), .int 0, .ref (b 57), .ref (b 58), .ref (b 59), .ref (b 60), .ref (b 61), .ref (b 62), .int 0, .int 0, .int 0])), ((b 1), .inl ((cB 1), 160, .inl (fB 1))), ((b 8), .inl ((cB 8), 5, .inl (fB 8))), ((b 9), .inl ((cB 9), 5, .inl (fB 9))), ((b 19), .inl ((cB 19), 12, .inl (fB 19)))] := hD
  refine W.widen (k := 94) (n := 1035422) (Nat.le_of_ble_eq_true rfl) (Nat.le_of_ble_eq_true rfl) ?_
  have hw : b 0 = q_2 := hw
  rw [← hw]
  refine lv_astore_n (lv' := [(2, .ref (b 0)), (1, .ref (a 0)), (0, .ref bs)]) hx hb dL_law_15 rfl hl (by decide) rfl (fun ls hl => ?_)
  refine lv_iconst (v := 1) hx hb dL_law_16 (by decide) ?_
  refine va_newa (atype := .long) (a0 := (1, .inr (.inl (fun _ => 0)))) (ty := .long) hx hb (htg _ mw_646) rfl hK hP hD hS hA (N' := 1) (fun _ => rfl) (by decide) (by decide) (by decide) (Nat.le_of_ble_eq_true rfl) (Nat.le_of_ble_eq_true rfl) dL_law_17 (fun q3 cO H _ hP hD hS => ?_)
  have hP := hP.sub (ws' := [((a 0), .inr (10, [.ref (a 1), .ref (a 3), .ref (a 40), .int 0, .int (-1), .ref (a 4), .ref (a 5), .ref (a 6), .ref (a 7), .ref (a 8), .ref (a 9), .ref (a 10), .null, .null, .int 0, .int (-1), .ref (a 41)])), ((a 1), .inr (6, [.ref (a 2), .int 0, .int 0])), ((a 2), .inl ((cA 2), 160, .inl (f 2))), ((a 3), .inr (3, [.ref (a 1), .ref (a 42), .int 0, .int 0])), ((a 4), .inr (4, [.int 0, .int 0, .ref (a 43), .ref (a 44), .ref (a 45), .ref (a 46), .ref (a 47), .ref (a 48), .ref (a 49), .ref (a 50), .ref (a 51)])), ((a 5), .inr (4, [.int 0, .int 0, .ref (a 11), .ref (a 12), .ref (a 13), .ref (a 14), .ref (a 15), .ref (a 16), .ref (a 17), .ref (a 18), .ref (a 19)])), ((a 6), .inr (5, [.ref (a 52), .int 0, .ref (a 53), .int 0, .int 0, .int 0])), ((a 7), .inr (5, [.ref (a 54), .int 0, .ref (a 55), .int 0, .int 0, .int 0])), ((a 8), .inr (1, [.ref (a 56), .int 0, .int 0, .ref (a 57), .int 0, .ref (a 58)])), ((a 9), .inr (7, [.ref (a 59), .ref (a 60), .ref (a 61)])), ((a 11), .inl ((cA 11), 12, .inl (f 11))), ((a 12), .inl ((cA 12), 12, .inl (f 12))), ((a 13), .inl ((cA 13), 144, .inl (f 13))), ((a 14), .inl ((cA 14), 12, .inl (f 14))), ((a 15), .inl ((cA 15), 12, .inl (f 15))), ((a 16), .inl ((cA 16), 12, .inl (f 16))), ((a 17), .inl ((cA 17), 12, .inl (f 17))), ((a 18), .inl ((cA 18), 12, .inl (f 18))), ((a 19), .inl ((cA 19), 144, .inl (f 19))), ((b 0), .inr (11, [.int 0, .ref (b 1), .int 0, .int 0, .int 0, .int 0, .ref (b 6), .ref (b 7), .ref (b 8), .ref (b 9), .ref (b 10), .ref (b 11), .ref (b 12), .int 0, .int 0, .ref (b 15), .ref (b 16), .ref (b 17), .ref (b 18), .ref (b 19), .int 0, .int 0, .ref (b 22), .ref (b 23), .ref (b 24), .int 0, .int 0, .ref (b 27), .int 0, .ref (b 29), .int (-1), .ref (b 31), .ref (b 32), .int (-1), .ref (b 34), .ref (b 35), .int 0, .int 0, .ref (b 38), .ref (b 39), .ref (b 40), .ref (b 41), .ref (b 42), .ref (b 43), .ref (b 44), .ref (b 45), .ref (b 46), .ref (b 47), .int 0, .int 0, .ref (b 50), .ref (b 51), .ref (b 52), .ref (b 53), .ref (b 54), .int (-1), .int 0, .ref (b 57), .ref (b 58), .ref (b 59), .ref (b 60), .ref (b 61), .ref (b 62), .int 0, .int 0, .int 0])), ((b 1), .inl ((cB 1), 160, .inl (fB 1))), ((b 8), .inl ((cB 8), 5, .inl (fB 8))), ((b 9), .inl ((cB 9), 5, .inl (fB 9))), ((b 19), .inl ((cB 19), 12, .inl (fB 19)))]) [0, 1, 2, 3, 4, 5, 6, 7, 8, 9, 10, 11, 12, 13, 14, 15, 16, 17, 18, 19, 20, 21, 22, 23] rfl
  have hD := hD.sub (ws' := [((a 0), .inr (10, [.ref (a 1), .ref (a 3), .ref (a 40), .int 0, .int (-1), .ref (a 4), .ref (a 5), .ref (a 6), .ref (a 7), .ref (a 8), .ref (a 9), .ref (a 10), .null, .null, .int 0, .int (-1), .ref (a 41)])), ((a 1), .inr (6, [.ref (a 2), .int 0, .int 0])), ((a 2), .inl ((cA 2), 160, .inl (f 2))), ((a 3), .inr (3, [.ref (a 1), .ref (a 42), .int 0, .int 0])), ((a 4), .inr (4, [.int 0, .int 0, .ref (a 43), .ref (a 44), .ref (a 45), .ref (a 46), .ref (a 47), .ref (a 48), .ref (a 49), .ref (a 50), .ref (a 51)])), ((a 5), .inr (4, [.int 0, .int 0, .ref (a 11), .ref (a 12), .ref (a 13), .ref (a 14), .ref (a 15), .ref (a 16), .ref (a 17), .ref (a 18), .ref (a 19)])), ((a 6), .inr (5, [.ref (a 52), .int 0, .ref (a 53), .int 0, .int 0, .int 0])), ((a 7), .inr (5, [.ref (a 54), .int 0, .ref (a 55), .int 0, .int 0, .int 0])), ((a 8), .inr (1, [.ref (a 56), .int 0, .int 0, .ref (a 57), .int 0, .ref (a 58)])), ((a 9), .inr (7, [.ref (a 59), .ref (a 60), .ref (a 61)])), ((a 11), .inl ((cA 11), 12, .inl (f 11))), ((a 12), .inl ((cA 12), 12, .inl (f 12))), ((a 13), .inl ((cA 13), 144, .inl (f 13))), ((a 14), .inl ((cA 14), 12, .inl (f 14))), ((a 15), .inl ((cA 15), 12, .inl (f 15))), ((a 16), .inl ((cA 16), 12, .inl (f 16))), ((a 17), .inl ((cA 17), 12, .inl (f 17))), ((a 18), .inl ((cA 18), 12, .inl (f 18))), ((a 19), .inl ((cA 19), 144, .inl (f 19))), ((b 0), .inr (11, [.int 0, .ref (b 1), .int 0, .int 0, .int 0, .int 0, .ref (b 6), .ref (b 7), .ref (b 8), .ref (b 9), .ref (b 10), .ref (b 11), .ref (b 12), .int 0, .int 0, .ref (b 15), .ref (b 16), .ref (b 17), .ref (b 18), .ref (b 19), .int 0, .int 0, .ref (b 22), .ref (b 23), .ref (b 24), .int 0, .int 0, .ref (b 27), .int 0, .ref (b 29), .int (-1), .ref (b 31), .ref (b 32), .int (-1), .ref (b 34), .ref (b 35), .int 0, .int 0, .ref (b 38), .ref (b 39), .ref (b 40), .ref (b 41), .ref (b 42), .ref (b 43), .ref (b 44), .ref (b 45), .ref (b 46), .ref (b 47), .int 0, .int 0, .ref (b 50), .ref (b 51), .ref (b 52), .ref (b 53), .ref (b 54), .int (-1), .int 0, .ref (b 57), .ref (b 58), .ref (b 59), .ref (b 60), .ref (b 61), .ref (b 62), .int 0, .int 0, .int 0])), ((b 1), .inl ((cB 1), 160, .inl (fB 1))), ((b 8), .inl ((cB 8), 5, .inl (fB 8))), ((b 9), .inl ((cB 9), 5, .inl (fB 9))), ((b 19), .inl ((cB 19), 12, .inl (fB 19)))]) [0, 1, 2, 3, 4, 5, 6, 7, 8, 9, 10, 11, 12, 13, 14, 15, 16, 17, 18, 19, 20, 21, 22, 23] (by decide) rfl
  refine W.widen (k := 95) (n := 1035423) (Nat.le_of_ble_eq_true rfl) (Nat.le_of_ble_eq_true rfl) ?_
  refine lv_astore_n (lv' := [(3, .ref q3), (2, .ref (b 0)), (1, .ref (a 0)), (0, .ref bs)]) hx hb dL_law_19 rfl hl (by decide) rfl (fun ls hl => ?_)
  refine lv_iconst (v := 0) hx hb dL_law_20 (by decide) ?_
  refine lv_istore (lv' := [(4, .int 0), (3, .ref q3), (2, .ref (b 0)), (1, .ref (a 0)), (0, .ref bs)]) hx hb dL_law_21 hl (by decide) rfl (fun ls hl => ?_)
  have hP := hP.sub (ws' := [((a 0), .inr (10, [.ref (a 1), .ref (a 3), .ref (a 40), .int 0, .int (-1), .ref (a 4), .ref (a 5), .ref (a 6), .ref (a 7), .ref (a 8), .ref (a 9), .ref (a 10), .null, .null, .int 0, .int (-1), .ref (a 41)])), ((a 1), .inr (6, [.ref (a 2), .int 0, .int 0])), ((a 2), .inl ((cA 2), 160, .inl (f 2))), ((a 3), .inr (3, [.ref (a 1), .ref (a 42), .int 0, .int 0])), ((a 4), .inr (4, [.int 0, .int 0, .ref (a 43), .ref (a 44), .ref (a 45), .ref (a 46), .ref (a 47), .ref (a 48), .ref (a 49), .ref (a 50), .ref (a 51)])), ((a 5), .inr (4, [.int 0, .int 0, .ref (a 11), .ref (a 12), .ref (a 13), .ref (a 14), .ref (a 15), .ref (a 16), .ref (a 17), .ref (a 18), .ref (a 19)])), ((a 6), .inr (5, [.ref (a 52), .int 0, .ref (a 53), .int 0, .int 0, .int 0])), ((a 7), .inr (5, [.ref (a 54), .int 0, .ref (a 55), .int 0, .int 0, .int 0])), ((a 8), .inr (1, [.ref (a 56), .int 0, .int 0, .ref (a 57), .int 0, .ref (a 58)])), ((a 9), .inr (7, [.ref (a 59), .ref (a 60), .ref (a 61)])), ((a 11), .inl ((cA 11), 12, .inl (f 11))), ((a 12), .inl ((cA 12), 12, .inl (f 12))), ((a 13), .inl ((cA 13), 144, .inl (f 13))), ((a 14), .inl ((cA 14), 12, .inl (f 14))), ((a 15), .inl ((cA 15), 12, .inl (f 15))), ((a 16), .inl ((cA 16), 12, .inl (f 16))), ((a 17), .inl ((cA 17), 12, .inl (f 17))), ((a 18), .inl ((cA 18), 12, .inl (f 18))), ((a 19), .inl ((cA 19), 144, .inl (f 19))), ((b 0), .inr (11, [.int 0, .ref (b 1), .int 0, .int 0, .int 0, .int 0, .ref (b 6), .ref (b 7), .ref (b 8), .ref (b 9), .ref (b 10), .ref (b 11), .ref (b 12), .int 0, .int 0, .ref (b 15), .ref (b 16), .ref (b 17), .ref (b 18), .ref (b 19), .int 0, .int 0, .ref (b 22), .ref (b 23), .ref (b 24), .int 0, .int 0, .ref (b 27), .int 0, .ref (b 29), .int (-1), .ref (b 31), .ref (b 32), .int (-1), .ref (b 34), .ref (b 35), .int 0, .int 0, .ref (b 38), .ref (b 39), .ref (b 40), .ref (b 41), .ref (b 42), .ref (b 43), .ref (b 44), .ref (b 45), .ref (b 46), .ref (b 47), .int 0, .int 0, .ref (b 50), .ref (b 51), .ref (b 52), .ref (b 53), .ref (b 54), .int (-1), .int 0, .ref (b 57), .ref (b 58), .ref (b 59), .ref (b 60), .ref (b 61), .ref (b 62), .int 0, .int 0, .int 0])), ((b 1), .inl ((cB 1), 160, .inl (fB 1))), ((b 8), .inl ((cB 8), 5, .inl (fB 8))), ((b 9), .inl ((cB 9), 5, .inl (fB 9))), ((b 19), .inl ((cB 19), 12, .inl (fB 19)))]) [0, 1, 2, 3, 4, 5, 6, 7, 8, 9, 10, 11, 12, 13, 14, 15, 16, 17, 18, 19, 20, 21, 22, 23] rfl
  have hD := hD.sub (ws' := [((a 0), .inr (10, [.ref (a 1), .ref (a 3), .ref (a 40), .int 0, .int (-1), .ref (a 4), .ref (a 5), .ref (a 6), .ref (a 7), .ref (a 8), .ref (a 9), .ref (a 10), .null, .null, .int 0, .int (-1), .ref (a 41)])), ((a 1), .inr (6, [.ref (a 2), .int 0, .int 0])), ((a 2), .inl ((cA 2), 160, .inl (f 2))), ((a 3), .inr (3, [.ref (a 1), .ref (a 42), .int 0, .int 0])), ((a 4), .inr (4, [.int 0, .int 0, .ref (a 43), .ref (a 44), .ref (a 45), .ref (a 46), .ref (a 47), .ref (a 48), .ref (a 49), .ref (a 50), .ref (a 51)])), ((a 5), .inr (4, [.int 0, .int 0, .ref (a 11), .ref (a 12), .ref (a 13), .ref (a 14), .ref (a 15), .ref (a 16), .ref (a 17), .ref (a 18), .ref (a 19)])), ((a 6), .inr (5, [.ref (a 52), .int 0, .ref (a 53), .int 0, .int 0, .int 0])), ((a 7), .inr (5, [.ref (a 54), .int 0, .ref (a 55), .int 0, .int 0, .int 0])), ((a 8), .inr (1, [.ref (a 56), .int 0, .int 0, .ref (a 57), .int 0, .ref (a 58)])), ((a 9), .inr (7, [.ref (a 59), .ref (a 60), .ref (a 61)])), ((a 11), .inl ((cA 11), 12, .inl (f 11))), ((a 12), .inl ((cA 12), 12, .inl (f 12))), ((a 13), .inl ((cA 13), 144, .inl (f 13))), ((a 14), .inl ((cA 14), 12, .inl (f 14))), ((a 15), .inl ((cA 15), 12, .inl (f 15))), ((a 16), .inl ((cA 16), 12, .inl (f 16))), ((a 17), .inl ((cA 17), 12, .inl (f 17))), ((a 18), .inl ((cA 18), 12, .inl (f 18))), ((a 19), .inl ((cA 19), 144, .inl (f 19))), ((b 0), .inr (11, [.int 0, .ref (b 1), .int 0, .int 0, .int 0, .int 0, .ref (b 6), .ref (b 7), .ref (b 8), .ref (b 9), .ref (b 10), .ref (b 11), .ref (b 12), .int 0, .int 0, .ref (b 15), .ref (b 16), .ref (b 17), .ref (b 18), .ref (b 19), .int 0, .int 0, .ref (b 22), .ref (b 23), .ref (b 24), .int 0, .int 0, .ref (b 27), .int 0, .ref (b 29), .int (-1), .ref (b 31), .ref (b 32), .int (-1), .ref (b 34), .ref (b 35), .int 0, .int 0, .ref (b 38), .ref (b 39), .ref (b 40), .ref (b 41), .ref (b 42), .ref (b 43), .ref (b 44), .ref (b 45), .ref (b 46), .ref (b 47), .int 0, .int 0, .ref (b 50), .ref (b 51), .ref (b 52), .ref (b 53), .ref (b 54), .int (-1), .int 0, .ref (b 57), .ref (b 58), .ref (b 59), .ref (b 60), .ref (b 61), .ref (b 62), .int 0, .int 0, .int 0])), ((b 1), .inl ((cB 1), 160, .inl (fB 1))), ((b 8), .inl ((cB 8), 5, .inl (fB 8))), ((b 9), .inl ((cB 9), 5, .inl (fB 9))), ((b 19), .inl ((cB 19), 12, .inl (fB 19)))]) [0, 1, 2, 3, 4, 5, 6, 7, 8, 9, 10, 11, 12, 13, 14, 15, 16, 17, 18, 19, 20, 21, 22, 23] (by decide) rfl
  have hK := hK.sub (tys' := [((cA 2), .int), ((cA 11), .int), ((cA 12), .int), ((cA 13), .int), ((cA 14), .int), ((cA 15), .int), ((cA 16), .int), ((cA 17), .int), ((cA 18), .int), ((cA 19), .int), ((cB 1), .int), ((cB 8), .int), ((cB 9), .int), ((cB 19), .int)]) [0, 1, 2, 3, 4, 5, 6, 7, 8, 9, 10, 11, 12, 13] rfl
  have hl : lv_has ls 7 [(4, .int 0), (3, .ref q3), (2, .ref (b 0)), (1, .ref (a 0)), (0, .ref bs)] := lv_sub hl [0, 1, 2, 3, 4] rfl
  rcases (show L = 6 ∨ L < 6 by omega) with h6 | h6
  · subst h6
    exact lc_switch l hst C0 hA hA2 hN hK hP hD hS hl
  · refine lv_iload hx hb dL_law_23 (lv_at hl 0 rfl) ?_
    refine lv_aload_n hx hb dL_law_25 rfl (lv_at hl 4 rfl) ?_
    refine va_slen hx hb hX hbl hbA hS dL_law_26 ?_
    refine lv_bipush (v := 6) hx hb dL_law_27 (by decide) ?_
    refine lv_isub hx hb dL_law_29 ?_
    refine lv_icmp_gt (tgt := 1216) hx hb dL_law_30 (by decide) (fun _ => ?_) (fun h9 => False.elim (h9 (lc_short h6)))
    refine lv_iconst (v := 1) hx hb dL_law_1216 (by decide) ?_
    refine va_forget (fun q hq => hA2 _ (hS.2.2 q hq)) ?_
    refine W.widen (k := 600002) (n := 7302232) (Nat.le_of_ble_eq_true rfl) (Nat.le_of_ble_eq_true rfl) ?_
    exact lw_ret hx hb hr hlocks dL_law_1217
set_option maxHeartbeats 4000000 in
theorem lw_walk (l : Launch) (hst : l.stackTraces = false) (b : Addr) (xs : List Int32) : MetFree l x (headSpec (Jvm.Cond.code x code maxLocals ret :: tables_1) room_1) (lw_P b xs) (fun _ _ _ _ _ => True) lw_Q := by
  refine MetFree.of_bodyS (code := code) (maxLocals := maxLocals) (ret := ret) (by decide) ?_ ?_
  · intro args s m h hn
    obtain ⟨meth, c, h1, h2, h3, h4, h5, h6, -, -⟩ := Cond.code_spec hn (atoms_spec (ws := Jvm.Cond.code x code maxLocals ret :: tables_1) h _ List.mem_cons_self)
    exact ⟨meth, c, h1, h2, h3, h4, h5, h6⟩
  · intro p e s m args below meth c s₁ B hml0 hP _
    obtain ⟨rfl, hx, hbd, hgv⟩ := hP
    obtain ⟨scr, harrAt, hlist, hof, hsmall⟩ := hx
    obtain ⟨hcb, hkn, -, -⟩ := State.arrayAt?_spec harrAt
    have hown : s.vm.findClass R_law = some m.cls := findClass_of_methodNamed B.named
    have hts0 : ∀ c ∈ (Jvm.Cond.code x code maxLocals ret :: tables_1), c.before #[Value.ref b] s = true := atoms_spec (ws := Jvm.Cond.code x code maxLocals ret :: tables_1) B.pre
    have hts : ∀ w ∈ lw_tbl, w.before #[Value.ref b] s = true := k2_hts_sels lw_privs (fun w hw => hts0 w (List.mem_cons_of_mem _ hw)) lw_privs_ok
    have hml : c.maxLocals = 7 := B.maxLocals_eq (hts0 _ List.mem_cons_self)
    have X₀ : Stand p l e room_1 s m #[Value.ref b] below meth c s₁ [] 0 0 := Stand.of_body B
    have hh0 : s₁.heap = s.heap := by rw [B.state]; rfl
    have hsz : scr.slots.size = xs.length := by rw [← Array.length_toList, hlist, List.length_map]
    have hval : ∀ j : Nat, j < xs.length → scr.slots[j]? = some (.int (xs.getD j 0)) := fun j hj => by
      rw [← Array.getElem?_toList, hlist]
      simp [hj]
    have hbl : b < s.heap.size := (Array.getElem?_eq_some_iff.mp hcb).1
    have hX : va_X b xs.length (fun j => xs.getD j 0) s s.heap := ⟨scr, hcb, hof, hkn, hsz, hval⟩
    have K : W p l e room_1 s m #[Value.ref b] below meth c s₁.heap [] 0 0 (lw_Z below #[Value.ref b] s) (entryFrame m ([Value.ref b] : List Value).toArray 7) := by
      rw [hh0]
      exact whole_start l hst hbd ⟨B.exec, B.bytes, B.returns, hml, hown, hts, hX, hbl, B.notSynchronized, hgv⟩
    obtain ⟨t, a1, o, b1, b2, b3⟩ := K s₁ rfl X₀
    exact ⟨t, o, a1, b1, b2, b3⟩
theorem lw_pre_spec {args : Array Value} {s : State} (h : (Jvm.Cond.and given_1 narrow_1).before args s = true) (hr : rest_1_c.before args s = true) : ∃ (b : Addr) (xs : List Int32), lw_P b xs args s := by
  have hs := flat_of_before _ h
  have hq := flat_of_before _ hr
  have hc : (Cond.count 1).before args s = true := hs _ (by decide +kernel)
  have harr : (Cond.arrayOf (.arg 0) .int).before args s = true := hs _ (by decide +kernel)
  have hle : (Cond.le (.length (.arg 0)) (.int 6)).before args s = true := hs _ (by decide +kernel)
  have hlen : (Cond.isInt (.length (.arg 0))).before args s = true := hq _ (by decide +kernel)
  have hall : (Cond.all (.arg 0) (.isInt (.elem (.arg 0) (.index 0)))).before args s = true := hq _ (by decide +kernel)
  obtain ⟨b, xs, hb, hx⟩ := State.ints_of_pre rfl harr hlen hall
  have hsm : xs.length < 2 ^ 31 := hx.choose_spec.2.2.2
  have hev : (Term.length (.arg 0)).eval args s none [] s = some (.int xs.length.toInt32) := hx.length_eval hb
  have hv := Cond.le_ints hev (show (Term.int 6).eval args s none [] s = some (.int 6) from rfl)
  have hd : xs.length.toInt32 ≤ 6 := by
    simpa [Cond.before, Cond.holds, hv] using hle
  have hN : xs.length ≤ 6 := (Int32.ofNat_le_ofNat hsm (by decide)).mp (show Int32.ofNat xs.length ≤ Int32.ofNat 6 from hd)
  exact ⟨b, xs, Cond.one_arg hc (show args[0]? = some (.ref b) from hb), hx, hN, h⟩
theorem lw_comes (l : Launch) (hst : l.stackTraces = false) : Comes l x (Jvm.Cond.code x code maxLocals ret :: tables_1) room_1 (fun tb e args s => Calls_1 tb e args s ∧ rest_1 tb e args s ∧ Pre_1 tb e args s)
    (fun _ _ args s o t => lw_Q args s o t) := by
  intro p e ha hc hk s m args below hf hfit hheap happ hpre
  obtain ⟨b, xs, hP⟩ := lw_pre_spec hpre.2.2 hpre.2.1
  obtain ⟨k, o, h1, h2, h3, hQ⟩ := lw_walk l hst b xs p e ha hc hk s m args below hf ((Spec.applies_iff_loose hf).mp happ).1 hP trivial
  exact ⟨k, o, h1, h2, h3, hQ⟩
theorem lw_frame {s t : State} {o : Outcome} {args : Array Value} (h : Framed s o t [] 600002 7302232) :
    Framed s o t (fieldLocs frame_1_writes args s ++ arrayLocs frame_1_arrays args s ++ staticLocs frame_1_statics s) 600002 7302232 := h
theorem lw_limb (L : Cond) (hL : ∀ (args : Array Value) (s t : State), L.after args s (.returned (some (.int 1))) t = true) :
    ArmFor flags0 classFile x code maxLocals ret World_1 tables_1 room_1 Calls_1 rest_1 Pre_1
      (fun tb e a s o t => postC L tb e a s o t ∧ Framed s o t (fieldLocs frame_1_writes a s ++ arrayLocs frame_1_arrays a s ++ staticLocs frame_1_statics s) 600002 7302232) := by
  intro l hfl _ _ p e ha hc hk s m args below hf hfit hheap happ hpre
  have hst : l.stackTraces = false := by
    unfold Launch.stackTraces
    rw [hfl]
    decide
  obtain ⟨k, o, h1, h2, h3, rfl, hF⟩ := lw_comes l hst p e ha hc hk s m args below hf hfit hheap happ hpre
  exact ⟨k, _, h1, h2, h3, hL args s _, lw_frame hF⟩
theorem i_vc : Claimed_1_1 ∧ Claimed_1_2 := ⟨lw_limb limb_1_1 (fun args s t => by simp [limb_1_1, Cond.after, Cond.holds, Cond.value]), lw_limb limb_1_2 (fun args s t => Cond.after_iff.mpr (by
  first | (rw [show limb_1_2 = Cond.eq .result (.int 1) from rfl, Cond.eq_ints (x := 1) (y := 1) rfl rfl]; simp; done) | (simp [limb_1_2, Cond.value, Term.eval]; done)))⟩
