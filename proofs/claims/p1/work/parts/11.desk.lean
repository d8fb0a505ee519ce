set_option maxHeartbeats 4000000 in
set_option maxRecDepth 100000 in
theorem c_X10_lawOf (l : Launch) (D : va_G) (a : Nat → Nat) (cA : Nat → ClassId) (f : Nat → Nat → Int32)  : Met l yX10_lawOf (.code yX10_lawOf cX10_lawOf 2 (some (.object "DeskMoves$Law")) :: gw) ({ frames := 0, cells := 0, slots := 0, locals := 0 }) (va_Pc [.ref (a 0), .int (-1)] (pr D [((a 0), .inr (10, [.ref (a 1), .ref (a 3), .ref (a 40), .int 0, .int (-1), .ref (a 4), .ref (a 5), .ref (a 6), .ref (a 7), .ref (a 8), .ref (a 9), .ref (a 10), .null, .null, .int 0, .int (-1), .ref (a 41)])), ((a 1), .inr (6, [.ref (a 2), .int 0, .int 0])), ((a 2), .inl ((cA 2), 160, .inl (f 2))), ((a 3), .inr (3, [.ref (a 1), .ref (a 42), .int 0, .int 0])), ((a 4), .inr (4, [.int 0, .int 0, .ref (a 43), .ref (a 44), .ref (a 45), .ref (a 46), .ref (a 47), .ref (a 48), .ref (a 49), .ref (a 50), .ref (a 51)])), ((a 5), .inr (4, [.int 0, .int 0, .ref (a 11), .ref (a 12), .ref (a 13), .ref (a 14), .ref (a 15), .ref (a 16), .ref (a 17), .ref (a 18), .ref (a 19)])), ((a 6), .inr (5, [.ref (a 52), .int 0, .ref (a 53), .int 0, .int 0, .int 0])), ((a 7), .inr (5, [.ref (a 54), .int 0, .ref (a 55), .int 0, .int 0, .int 0])), ((a 8), .inr (1, [.ref (a 56), .int 0, .int 0, .ref (a 57), .int 0, .ref (a 58)])), ((a 9), .inr (7, [.ref (a 59), .ref (a 60), .ref (a 61)])), ((a 11), .inl ((cA 11), 12, .inl (f 11))), ((a 12), .inl ((cA 12), 12, .inl (f 12))), ((a 13), .inl ((cA 13), 144, .inl (f 13))), ((a 14), .inl ((cA 14), 12, .inl (f 14))), ((a 15), .inl ((cA 15), 12, .inl (f 15))), ((a 16), .inl ((cA 16), 12, .inl (f 16))), ((a 17), .inl ((cA 17), 12, .inl (f 17))), ((a 18), .inl ((cA 18), 12, .inl (f 18))), ((a 19), .inl ((cA 19), 144, .inl (f 19)))] [((cA 2), .int), ((cA 11), .int), ((cA 12), .int), ((cA 13), .int), ((cA 14), .int), ((cA 15), .int), ((cA 16), .int), ((cA 17), .int), ((cA 18), .int), ((cA 19), .int)])) (va_QN (fun _ => False)) 0 0 (fun _ => False) := by
  refine Met.ofW (cc := cX10_lawOf) (maxL := 2) (ret := (some (.object "DeskMoves$Law"))) (by decide) rfl ?_
  intro p e s m args below meth c s₁ B hml hv
  obtain ⟨rfl, hP, hK⟩ := hv
  have hx := B.exec
  have hb := B.bytes
  have hr := B.returns
  have hts := atoms_spec (ws := .code yX10_lawOf cX10_lawOf 2 (some (.object "DeskMoves$Law")) :: gw) B.pre
  have htg := gw_tl hts
  have hown : s.vm.findClass RX10 = some m.cls := findClass_of_methodNamed B.named
  have hlocks := B.notSynchronized
  have hS : va_S (fun _ => False) s.heap s.heap [] := va_S.rf
  have hl := lv_entry ([.ref (a 0), .int (-1)]) (n := 2) (Nat.le_of_ble_eq_true rfl)
  rw [lg_entry_eq]
  generalize (lg_sl ([.ref (a 0), .int (-1)]) ++ List.replicate (2 - (lg_sl ([.ref (a 0), .int (-1)])).length) Slot.unset).toArray = ls at hl ⊢
  have hl : lv_has ls 2 [(0, .ref (a 0)), (1, .int (-1))] := hl
  refine lv_iload_n hx hb dX10_lawOf_0 rfl (lv_at hl 1 rfl) ?_
  refine lv_if_lt (tgt := 21) hx hb dX10_lawOf_1 (by decide) (fun _ => ?_) (fun h9 => False.elim (h9 (by decide)))
  refine lv_null hx hb dX10_lawOf_21 ?_
  exact W.aret (v := .null) hx hb hr (Or.inl ⟨_, rfl⟩) (Or.inl rfl) (fun t ht hW => ⟨rfl, hS.F ht⟩) hS.2.2 dX10_lawOf_22

set_option maxHeartbeats 4000000 in
set_option maxRecDepth 100000 in
theorem c_X10_isSearched (l : Launch) (D : va_G) (a : Nat → Nat) (cA : Nat → ClassId) (f : Nat → Nat → Int32)  : Met l yX10_isSearched (.code yX10_isSearched cX10_isSearched 1 (some .boolean) :: gw) ({ frames := 0, cells := 0, slots := 0, locals := 0 }) (va_Pc [.ref (a 0)] (pr D [((a 0), .inr (10, [.ref (a 1), .ref (a 3), .ref (a 40), .int 0, .int (-1), .ref (a 4), .ref (a 5), .ref (a 6), .ref (a 7), .ref (a 8), .ref (a 9), .ref (a 10), .null, .null, .int 0, .int (-1), .ref (a 41)])), ((a 1), .inr (6, [.ref (a 2), .int 0, .int 0])), ((a 2), .inl ((cA 2), 160, .inl (f 2))), ((a 3), .inr (3, [.ref (a 1), .ref (a 42), .int 0, .int 0])), ((a 4), .inr (4, [.int 0, .int 0, .ref (a 43), .ref (a 44), .ref (a 45), .ref (a 46), .ref (a 47), .ref (a 48), .ref (a 49), .ref (a 50), .ref (a 51)])), ((a 5), .inr (4, [.int 0, .int 0, .ref (a 11), .ref (a 12), .ref (a 13), .ref (a 14), .ref (a 15), .ref (a 16), .ref (a 17), .ref (a 18), .ref (a 19)])), ((a 6), .inr (5, [.ref (a 52), .int 0, .ref (a 53), .int 0, .int 0, .int 0])), ((a 7), .inr (5, [.ref (a 54), .int 0, .ref (a 55), .int 0, .int 0, .int 0])), ((a 8), .inr (1, [.ref (a 56), .int 0, .int 0, .ref (a 57), .int 0, .ref (a 58)])), ((a 9), .inr (7, [.ref (a 59), .ref (a 60), .ref (a 61)])), ((a 11), .inl ((cA 11), 12, .inl (f 11))), ((a 12), .inl ((cA 12), 12, .inl (f 12))), ((a 13), .inl ((cA 13), 144, .inl (f 13))), ((a 14), .inl ((cA 14), 12, .inl (f 14))), ((a 15), .inl ((cA 15), 12, .inl (f 15))), ((a 16), .inl ((cA 16), 12, .inl (f 16))), ((a 17), .inl ((cA 17), 12, .inl (f 17))), ((a 18), .inl ((cA 18), 12, .inl (f 18))), ((a 19), .inl ((cA 19), 144, .inl (f 19)))] [((cA 2), .int), ((cA 11), .int), ((cA 12), .int), ((cA 13), .int), ((cA 14), .int), ((cA 15), .int), ((cA 16), .int), ((cA 17), .int), ((cA 18), .int), ((cA 19), .int)])) (va_Qi (fun r (_ : Unit) => r = 0) (fun _ _ => True) (fun _ => False)) 0 0 (fun _ => False) := by
  refine Met.ofW (cc := cX10_isSearched) (maxL := 1) (ret := (some .boolean)) (by decide) rfl ?_
  intro p e s m args below meth c s₁ B hml hv
  obtain ⟨rfl, hP, hK⟩ := hv
  have hx := B.exec
  have hb := B.bytes
  have hr := B.returns
  have hts := atoms_spec (ws := .code yX10_isSearched cX10_isSearched 1 (some .boolean) :: gw) B.pre
  have htg := gw_tl hts
  have hown : s.vm.findClass RX10 = some m.cls := findClass_of_methodNamed B.named
  have hlocks := B.notSynchronized
  have hS : va_S (fun _ => False) s.heap s.heap [] := va_S.rf
  have hl := lv_entry ([.ref (a 0)]) (n := 1) (Nat.le_of_ble_eq_true rfl)
  rw [lg_entry_eq]
  generalize (lg_sl ([.ref (a 0)]) ++ List.replicate (1 - (lg_sl ([.ref (a 0)])).length) Slot.unset).toArray = ls at hl ⊢
  have hl : lv_has ls 1 [(0, .ref (a 0))] := hl
  refine lv_aload_n hx hb dX10_isSearched_0 rfl (lv_at hl 0 rfl) ?_
  refine va_get (D := D) (ci := 10) (v := .ref (a 4)) (C := RX10) (T := TX10) (N := 17) hx hb htg in_X10 hown hK hP 0 rfl rfl 5 (by decide) (htg _ mw_13) (fun _ h9 => h9) rfl dX10_isSearched_1 ?_
  refine va_get (D := D) (ci := 4) (v := .int 0) (C := RX4) (T := TX4) (N := 11) hx hb htg in_X4 hown hK hP 4 rfl rfl 0 (by decide) (htg _ mw_14) (fun _ h9 => h9) rfl dX10_isSearched_4 ?_
  refine lv_if_le (tgt := 26) hx hb dX10_isSearched_7 (by decide) (fun _ => ?_) (fun h9 => False.elim (h9 (by decide)))
  refine lv_iconst (v := 0) hx hb dX10_isSearched_26 (by decide) ?_
  exact W.zret (v := 0) hx hb hr (by first | rfl | decide | exact ar_nb _) (fun t ht hW => ⟨⟨0, (), rfl, rfl, trivial⟩, hS.F ht⟩) hS.2.2 dX10_isSearched_27

set_option maxHeartbeats 4000000 in
set_option maxRecDepth 100000 in
theorem c_X10_door (l : Launch) (D : va_G) (a : Nat → Nat) (cA : Nat → ClassId) (f : Nat → Nat → Int32) (x y : Int32) : Met l yX10_door (.code yX10_door cX10_door 4 (some .int) :: gw) ({ frames := 2, cells := 0, slots := 0, locals := 80 }) (va_Pc [.ref (a 0), .int x, .int y] (pr D [((a 0), .inr (10, [.ref (a 1), .ref (a 3), .ref (a 40), .int 0, .int (-1), .ref (a 4), .ref (a 5), .ref (a 6), .ref (a 7), .ref (a 8), .ref (a 9), .ref (a 10), .null, .null, .int 0, .int (-1), .ref (a 41)])), ((a 1), .inr (6, [.ref (a 2), .int 0, .int 0])), ((a 2), .inl ((cA 2), 160, .inl (f 2))), ((a 3), .inr (3, [.ref (a 1), .ref (a 42), .int 0, .int 0])), ((a 4), .inr (4, [.int 0, .int 0, .ref (a 43), .ref (a 44), .ref (a 45), .ref (a 46), .ref (a 47), .ref (a 48), .ref (a 49), .ref (a 50), .ref (a 51)])), ((a 5), .inr (4, [.int 0, .int 0, .ref (a 11), .ref (a 12), .ref (a 13), .ref (a 14), .ref (a 15), .ref (a 16), .ref (a 17), .ref (a 18), .ref (a 19)])), ((a 6), .inr (5, [.ref (a 52), .int 0, .ref (a 53), .int 0, .int 0, .int 0])), ((a 7), .inr (5, [.ref (a 54), .int 0, .ref (a 55), .int 0, .int 0, .int 0])), ((a 8), .inr (1, [.ref (a 56), .int 0, .int 0, .ref (a 57), .int 0, .ref (a 58)])), ((a 9), .inr (7, [.ref (a 59), .ref (a 60), .ref (a 61)])), ((a 11), .inl ((cA 11), 12, .inl (f 11))), ((a 12), .inl ((cA 12), 12, .inl (f 12))), ((a 13), .inl ((cA 13), 144, .inl (f 13))), ((a 14), .inl ((cA 14), 12, .inl (f 14))), ((a 15), .inl ((cA 15), 12, .inl (f 15))), ((a 16), .inl ((cA 16), 12, .inl (f 16))), ((a 17), .inl ((cA 17), 12, .inl (f 17))), ((a 18), .inl ((cA 18), 12, .inl (f 18))), ((a 19), .inl ((cA 19), 144, .inl (f 19)))] [((cA 2), .int), ((cA 11), .int), ((cA 12), .int), ((cA 13), .int), ((cA 14), .int), ((cA 15), .int), ((cA 16), .int), ((cA 17), .int), ((cA 18), .int), ((cA 19), .int)])) (va_Qi (fun r (_ : Unit) => r = (-1)) (fun _ _ => True) (fun _ => False)) 0 0 (fun _ => False) := by
  refine Met.ofW (cc := cX10_door) (maxL := 4) (ret := (some .int)) (by decide) rfl ?_
  intro p e s m args below meth c s₁ B hml hv
  obtain ⟨rfl, hP, hK⟩ := hv
  have hx := B.exec
  have hb := B.bytes
  have hr := B.returns
  have hts := atoms_spec (ws := .code yX10_door cX10_door 4 (some .int) :: gw) B.pre
  have htg := gw_tl hts
  have hown : s.vm.findClass RX10 = some m.cls := findClass_of_methodNamed B.named
  have hlocks := B.notSynchronized
  have hS : va_S (fun _ => False) s.heap s.heap [] := va_S.rf
  have hl := lv_entry ([.ref (a 0), .int x, .int y]) (n := 4) (Nat.le_of_ble_eq_true rfl)
  rw [lg_entry_eq]
  generalize (lg_sl ([.ref (a 0), .int x, .int y]) ++ List.replicate (4 - (lg_sl ([.ref (a 0), .int x, .int y])).length) Slot.unset).toArray = ls at hl ⊢
  have hl : lv_has ls 4 [(0, .ref (a 0)), (1, .int x), (2, .int y)] := hl
  refine lv_aload_n hx hb dX10_door_0 rfl (lv_at hl 0 rfl) ?_
  refine va_get (D := D) (ci := 10) (v := .ref (a 4)) (C := RX10) (T := TX10) (N := 17) hx hb htg in_X10 hown hK hP 0 rfl rfl 5 (by decide) (htg _ mw_13) (fun _ h9 => h9) rfl dX10_door_1 ?_
  refine lv_iload_n hx hb dX10_door_4 rfl (lv_at hl 1 rfl) ?_
  refine lv_iload_n hx hb dX10_door_5 rfl (lv_at hl 2 rfl) ?_
  have hPc := hP.sub (ws' := [((a 4), .inr (4, [.int 0, .int 0, .ref (a 43), .ref (a 44), .ref (a 45), .ref (a 46), .ref (a 47), .ref (a 48), .ref (a 49), .ref (a 50), .ref (a 51)]))]) [4] rfl
  have hKc := hK.sub (tys' := []) [] rfl
  refine va_calli (va_runV (As := [.int x, .int y]) (rest := []) ⟨hx, hb, hml, hown, htg⟩ (c_X4_lengthBetween l D (a 4) [.ref (a 43), .ref (a 44), .ref (a 45), .ref (a 46), .ref (a 47), .ref (a 48), .ref (a 49), .ref (a 50), .ref (a 51)] x y) (cV 2 htg mw_18 kv_X4_lengthBetween rfl rfl ⟨(Nat.le_of_ble_eq_true rfl), (Nat.le_of_ble_eq_true rfl)⟩) ⟨bl_r, va_recv hKc hPc (ci := 4) (q0 := 0) rfl rfl, us_r hPc hKc⟩ rfl rfl hl.1 rfl (lv_room (Nat.le_of_ble_eq_true rfl)) dX10_door_6 ⟨(Nat.le_of_ble_eq_true rfl), (Nat.le_of_ble_eq_true rfl)⟩) hS (fun _ _ h9 => False.elim h9) (fun _ h9 => False.elim h9) (fun r_1 u t H locs ht hvm hw hB hz1 hk1 hS => ?_)
  have hP := ro_keep hP hk1
  subst hw
  refine lv_istore_n (lv' := [(3, .int 0), (0, .ref (a 0)), (1, .int x), (2, .int y)]) hx hb dX10_door_9 rfl hl (by decide) rfl (fun ls hl => ?_)
  refine lv_iload_n hx hb dX10_door_10 rfl (lv_at hl 0 rfl) ?_
  refine lv_if_le (tgt := 18) hx hb dX10_door_11 (by decide) (fun _ => ?_) (fun h9 => False.elim (h9 (by decide)))
  refine lv_iconst (v := (-1)) hx hb dX10_door_18 (by decide) ?_
  exact W.iret (v := (-1)) hx hb hr  (fun t ht hW => ⟨⟨(-1), (), rfl, rfl, trivial⟩, hS.F ht⟩) hS.2.2 dX10_door_19

set_option maxHeartbeats 4000000 in
set_option maxRecDepth 100000 in
theorem c_X10_quarrel (l : Launch) (D : va_G) (a : Nat → Nat) (cA : Nat → ClassId) (f : Nat → Nat → Int32) (x y : Int32) : Met l yX10_quarrel (.code yX10_quarrel cX10_quarrel 3 (some .int) :: gw) ({ frames := 1, cells := 0, slots := 0, locals := 40 }) (va_Pc [.ref (a 0), .int x, .int y] (pr D [((a 0), .inr (10, [.ref (a 1), .ref (a 3), .ref (a 40), .int 0, .int (-1), .ref (a 4), .ref (a 5), .ref (a 6), .ref (a 7), .ref (a 8), .ref (a 9), .ref (a 10), .null, .null, .int 0, .int (-1), .ref (a 41)])), ((a 1), .inr (6, [.ref (a 2), .int 0, .int 0])), ((a 2), .inl ((cA 2), 160, .inl (f 2))), ((a 3), .inr (3, [.ref (a 1), .ref (a 42), .int 0, .int 0])), ((a 4), .inr (4, [.int 0, .int 0, .ref (a 43), .ref (a 44), .ref (a 45), .ref (a 46), .ref (a 47), .ref (a 48), .ref (a 49), .ref (a 50), .ref (a 51)])), ((a 5), .inr (4, [.int 0, .int 0, .ref (a 11), .ref (a 12), .ref (a 13), .ref (a 14), .ref (a 15), .ref (a 16), .ref (a 17), .ref (a 18), .ref (a 19)])), ((a 6), .inr (5, [.ref (a 52), .int 0, .ref (a 53), .int 0, .int 0, .int 0])), ((a 7), .inr (5, [.ref (a 54), .int 0, .ref (a 55), .int 0, .int 0, .int 0])), ((a 8), .inr (1, [.ref (a 56), .int 0, .int 0, .ref (a 57), .int 0, .ref (a 58)])), ((a 9), .inr (7, [.ref (a 59), .ref (a 60), .ref (a 61)])), ((a 11), .inl ((cA 11), 12, .inl (f 11))), ((a 12), .inl ((cA 12), 12, .inl (f 12))), ((a 13), .inl ((cA 13), 144, .inl (f 13))), ((a 14), .inl ((cA 14), 12, .inl (f 14))), ((a 15), .inl ((cA 15), 12, .inl (f 15))), ((a 16), .inl ((cA 16), 12, .inl (f 16))), ((a 17), .inl ((cA 17), 12, .inl (f 17))), ((a 18), .inl ((cA 18), 12, .inl (f 18))), ((a 19), .inl ((cA 19), 144, .inl (f 19)))] [((cA 2), .int), ((cA 11), .int), ((cA 12), .int), ((cA 13), .int), ((cA 14), .int), ((cA 15), .int), ((cA 16), .int), ((cA 17), .int), ((cA 18), .int), ((cA 19), .int)])) (va_Qi (fun r (_ : Unit) => r = (-1)) (fun _ _ => True) (fun _ => False)) 0 0 (fun _ => False) := by
  refine Met.ofW (cc := cX10_quarrel) (maxL := 3) (ret := (some .int)) (by decide) rfl ?_
  intro p e s m args below meth c s₁ B hml hv
  obtain ⟨rfl, hP, hK⟩ := hv
  have hx := B.exec
  have hb := B.bytes
  have hr := B.returns
  have hts := atoms_spec (ws := .code yX10_quarrel cX10_quarrel 3 (some .int) :: gw) B.pre
  have htg := gw_tl hts
  have hown : s.vm.findClass RX10 = some m.cls := findClass_of_methodNamed B.named
  have hlocks := B.notSynchronized
  have hS : va_S (fun _ => False) s.heap s.heap [] := va_S.rf
  have hl := lv_entry ([.ref (a 0), .int x, .int y]) (n := 3) (Nat.le_of_ble_eq_true rfl)
  rw [lg_entry_eq]
  generalize (lg_sl ([.ref (a 0), .int x, .int y]) ++ List.replicate (3 - (lg_sl ([.ref (a 0), .int x, .int y])).length) Slot.unset).toArray = ls at hl ⊢
  have hl : lv_has ls 3 [(0, .ref (a 0)), (1, .int x), (2, .int y)] := hl
  refine lv_aload_n hx hb dX10_quarrel_0 rfl (lv_at hl 0 rfl) ?_
  refine va_get (D := D) (ci := 10) (v := .ref (a 4)) (C := RX10) (T := TX10) (N := 17) hx hb htg in_X10 hown hK hP 0 rfl rfl 5 (by decide) (htg _ mw_13) (fun _ h9 => h9) rfl dX10_quarrel_1 ?_
  refine lv_iload_n hx hb dX10_quarrel_4 rfl (lv_at hl 1 rfl) ?_
  have hPc := hP.sub (ws' := [((a 4), .inr (4, [.int 0, .int 0, .ref (a 43), .ref (a 44), .ref (a 45), .ref (a 46), .ref (a 47), .ref (a 48), .ref (a 49), .ref (a 50), .ref (a 51)]))]) [4] rfl
  have hKc := hK.sub (tys' := []) [] rfl
  refine va_calli (va_runV (As := [.int x]) (rest := []) ⟨hx, hb, hml, hown, htg⟩ (c_X4_hasClerk l D (a 4) [.ref (a 43), .ref (a 44), .ref (a 45), .ref (a 46), .ref (a 47), .ref (a 48), .ref (a 49), .ref (a 50), .ref (a 51)] x) (cV 1 htg mw_19 kv_X4_hasClerk rfl rfl ⟨(Nat.le_of_ble_eq_true rfl), (Nat.le_of_ble_eq_true rfl)⟩) ⟨bl_r, va_recv hKc hPc (ci := 4) (q0 := 0) rfl rfl, us_r hPc hKc⟩ rfl rfl hl.1 rfl (lv_room (Nat.le_of_ble_eq_true rfl)) dX10_quarrel_5 ⟨(Nat.le_of_ble_eq_true rfl), (Nat.le_of_ble_eq_true rfl)⟩) hS (fun _ _ h9 => False.elim h9) (fun _ h9 => False.elim h9) (fun r_1 u t H locs ht hvm hw hB hz1 hk1 hS => ?_)
  have hP := ro_keep hP hk1
  subst hw
  refine lv_if_eq (tgt := 27) hx hb dX10_quarrel_8 (by decide) (fun _ => ?_) (fun h9 => False.elim (h9 (by decide)))
  refine lv_iconst (v := (-1)) hx hb dX10_quarrel_27 (by decide) ?_
  exact W.iret (v := (-1)) hx hb hr  (fun t ht hW => ⟨⟨(-1), (), rfl, rfl, trivial⟩, hS.F ht⟩) hS.2.2 dX10_quarrel_28

set_option maxHeartbeats 4000000 in
set_option maxRecDepth 100000 in
theorem c_X10_set (l : Launch) (D : va_G) (a : Nat → Nat) (cA : Nat → ClassId) (f : Nat → Nat → Int32) (x y z : Int32) : Met l yX10_set (.code yX10_set cX10_set 4 (some .boolean) :: gw) ({ frames := 1, cells := 0, slots := 0, locals := 40 }) (va_Pc [.ref (a 0), .int x, .int y, .int z] (pr D [((a 0), .inr (10, [.ref (a 1), .ref (a 3), .ref (a 40), .int 0, .int (-1), .ref (a 4), .ref (a 5), .ref (a 6), .ref (a 7), .ref (a 8), .ref (a 9), .ref (a 10), .null, .null, .int 0, .int (-1), .ref (a 41)])), ((a 1), .inr (6, [.ref (a 2), .int 0, .int 0])), ((a 2), .inl ((cA 2), 160, .inl (f 2))), ((a 3), .inr (3, [.ref (a 1), .ref (a 42), .int 0, .int 0])), ((a 4), .inr (4, [.int 0, .int 0, .ref (a 43), .ref (a 44), .ref (a 45), .ref (a 46), .ref (a 47), .ref (a 48), .ref (a 49), .ref (a 50), .ref (a 51)])), ((a 5), .inr (4, [.int 0, .int 0, .ref (a 11), .ref (a 12), .ref (a 13), .ref (a 14), .ref (a 15), .ref (a 16), .ref (a 17), .ref (a 18), .ref (a 19)])), ((a 6), .inr (5, [.ref (a 52), .int 0, .ref (a 53), .int 0, .int 0, .int 0])), ((a 7), .inr (5, [.ref (a 54), .int 0, .ref (a 55), .int 0, .int 0, .int 0])), ((a 8), .inr (1, [.ref (a 56), .int 0, .int 0, .ref (a 57), .int 0, .ref (a 58)])), ((a 9), .inr (7, [.ref (a 59), .ref (a 60), .ref (a 61)])), ((a 11), .inl ((cA 11), 12, .inl (f 11))), ((a 12), .inl ((cA 12), 12, .inl (f 12))), ((a 13), .inl ((cA 13), 144, .inl (f 13))), ((a 14), .inl ((cA 14), 12, .inl (f 14))), ((a 15), .inl ((cA 15), 12, .inl (f 15))), ((a 16), .inl ((cA 16), 12, .inl (f 16))), ((a 17), .inl ((cA 17), 12, .inl (f 17))), ((a 18), .inl ((cA 18), 12, .inl (f 18))), ((a 19), .inl ((cA 19), 144, .inl (f 19)))] [((cA 2), .int), ((cA 11), .int), ((cA 12), .int), ((cA 13), .int), ((cA 14), .int), ((cA 15), .int), ((cA 16), .int), ((cA 17), .int), ((cA 18), .int), ((cA 19), .int)])) (va_Qi (fun r (_ : Unit) => r = 0) (fun _ _ => True) (fun _ => False)) 0 0 (fun _ => False) := by
  refine Met.ofW (cc := cX10_set) (maxL := 4) (ret := (some .boolean)) (by decide) rfl ?_
  intro p e s m args below meth c s₁ B hml hv
  obtain ⟨rfl, hP, hK⟩ := hv
  have hx := B.exec
  have hb := B.bytes
  have hr := B.returns
  have hts := atoms_spec (ws := .code yX10_set cX10_set 4 (some .boolean) :: gw) B.pre
  have htg := gw_tl hts
  have hown : s.vm.findClass RX10 = some m.cls := findClass_of_methodNamed B.named
  have hlocks := B.notSynchronized
  have hS : va_S (fun _ => False) s.heap s.heap [] := va_S.rf
  have hl := lv_entry ([.ref (a 0), .int x, .int y, .int z]) (n := 4) (Nat.le_of_ble_eq_true rfl)
  rw [lg_entry_eq]
  generalize (lg_sl ([.ref (a 0), .int x, .int y, .int z]) ++ List.replicate (4 - (lg_sl ([.ref (a 0), .int x, .int y, .int z])).length) Slot.unset).toArray = ls at hl ⊢
  have hl : lv_has ls 4 [(0, .ref (a 0)), (1, .int x), (2, .int y), (3, .int z)] := hl
  refine lv_aload_n hx hb dX10_set_0 rfl (lv_at hl 0 rfl) ?_
  refine va_get (D := D) (ci := 10) (v := .ref (a 4)) (C := RX10) (T := TX10) (N := 17) hx hb htg in_X10 hown hK hP 0 rfl rfl 5 (by decide) (htg _ mw_13) (fun _ h9 => h9) rfl dX10_set_1 ?_
  refine lv_iload_n hx hb dX10_set_4 rfl (lv_at hl 1 rfl) ?_
  have hPc := hP.sub (ws' := [((a 4), .inr (4, [.int 0, .int 0, .ref (a 43), .ref (a 44), .ref (a 45), .ref (a 46), .ref (a 47), .ref (a 48), .ref (a 49), .ref (a 50), .ref (a 51)]))]) [4] rfl
  have hKc := hK.sub (tys' := []) [] rfl
  refine va_calli (va_runV (As := [.int x]) (rest := []) ⟨hx, hb, hml, hown, htg⟩ (c_X4_hasClerk l D (a 4) [.ref (a 43), .ref (a 44), .ref (a 45), .ref (a 46), .ref (a 47), .ref (a 48), .ref (a 49), .ref (a 50), .ref (a 51)] x) (cV 1 htg mw_19 kv_X4_hasClerk rfl rfl ⟨(Nat.le_of_ble_eq_true rfl), (Nat.le_of_ble_eq_true rfl)⟩) ⟨bl_r, va_recv hKc hPc (ci := 4) (q0 := 0) rfl rfl, us_r hPc hKc⟩ rfl rfl hl.1 rfl (lv_room (Nat.le_of_ble_eq_true rfl)) dX10_set_5 ⟨(Nat.le_of_ble_eq_true rfl), (Nat.le_of_ble_eq_true rfl)⟩) hS (fun _ _ h9 => False.elim h9) (fun _ h9 => False.elim h9) (fun r_1 u t H locs ht hvm hw hB hz1 hk1 hS => ?_)
  have hP := ro_keep hP hk1
  subst hw
  refine lv_if_eq (tgt := 30) hx hb dX10_set_8 (by decide) (fun _ => ?_) (fun h9 => False.elim (h9 (by decide)))
  refine lv_iconst (v := 0) hx hb dX10_set_30 (by decide) ?_
  exact W.zret (v := 0) hx hb hr (by first | rfl | decide | exact ar_nb _) (fun t ht hW => ⟨⟨0, (), rfl, rfl, trivial⟩, hS.F ht⟩) hS.2.2 dX10_set_31

set_option maxHeartbeats 4000000 in
set_option maxRecDepth 100000 in
theorem c_X10_clerk (l : Launch) (D : va_G) (a : Nat → Nat) (cA : Nat → ClassId) (f : Nat → Nat → Int32) (x y : Int32) : Met l yX10_clerk (.code yX10_clerk cX10_clerk 4 (some .int) :: gw) ({ frames := 1, cells := 0, slots := 0, locals := 40 }) (va_Pc [.ref (a 0), .int x, .int y] (pr D [((a 0), .inr (10, [.ref (a 1), .ref (a 3), .ref (a 40), .int 0, .int (-1), .ref (a 4), .ref (a 5), .ref (a 6), .ref (a 7), .ref (a 8), .ref (a 9), .ref (a 10), .null, .null, .int 0, .int (-1), .ref (a 41)])), ((a 1), .inr (6, [.ref (a 2), .int 0, .int 0])), ((a 2), .inl ((cA 2), 160, .inl (f 2))), ((a 3), .inr (3, [.ref (a 1), .ref (a 42), .int 0, .int 0])), ((a 4), .inr (4, [.int 0, .int 0, .ref (a 43), .ref (a 44), .ref (a 45), .ref (a 46), .ref (a 47), .ref (a 48), .ref (a 49), .ref (a 50), .ref (a 51)])), ((a 5), .inr (4, [.int 0, .int 0, .ref (a 11), .ref (a 12), .ref (a 13), .ref (a 14), .ref (a 15), .ref (a 16), .ref (a 17), .ref (a 18), .ref (a 19)])), ((a 6), .inr (5, [.ref (a 52), .int 0, .ref (a 53), .int 0, .int 0, .int 0])), ((a 7), .inr (5, [.ref (a 54), .int 0, .ref (a 55), .int 0, .int 0, .int 0])), ((a 8), .inr (1, [.ref (a 56), .int 0, .int 0, .ref (a 57), .int 0, .ref (a 58)])), ((a 9), .inr (7, [.ref (a 59), .ref (a 60), .ref (a 61)])), ((a 11), .inl ((cA 11), 12, .inl (f 11))), ((a 12), .inl ((cA 12), 12, .inl (f 12))), ((a 13), .inl ((cA 13), 144, .inl (f 13))), ((a 14), .inl ((cA 14), 12, .inl (f 14))), ((a 15), .inl ((cA 15), 12, .inl (f 15))), ((a 16), .inl ((cA 16), 12, .inl (f 16))), ((a 17), .inl ((cA 17), 12, .inl (f 17))), ((a 18), .inl ((cA 18), 12, .inl (f 18))), ((a 19), .inl ((cA 19), 144, .inl (f 19)))] [((cA 2), .int), ((cA 11), .int), ((cA 12), .int), ((cA 13), .int), ((cA 14), .int), ((cA 15), .int), ((cA 16), .int), ((cA 17), .int), ((cA 18), .int), ((cA 19), .int)])) (va_Qi (fun r (_ : Unit) => r = (-1)) (fun _ _ => True) (fun _ => False)) 0 0 (fun _ => False) := by
  refine Met.ofW (cc := cX10_clerk) (maxL := 4) (ret := (some .int)) (by decide) rfl ?_
  intro p e s m args below meth c s₁ B hml hv
  obtain ⟨rfl, hP, hK⟩ := hv
  have hx := B.exec
  have hb := B.bytes
  have hr := B.returns
  have hts := atoms_spec (ws := .code yX10_clerk cX10_clerk 4 (some .int) :: gw) B.pre
  have htg := gw_tl hts
  have hown : s.vm.findClass RX10 = some m.cls := findClass_of_methodNamed B.named
  have hlocks := B.notSynchronized
  have hS : va_S (fun _ => False) s.heap s.heap [] := va_S.rf
  have hl := lv_entry ([.ref (a 0), .int x, .int y]) (n := 4) (Nat.le_of_ble_eq_true rfl)
  rw [lg_entry_eq]
  generalize (lg_sl ([.ref (a 0), .int x, .int y]) ++ List.replicate (4 - (lg_sl ([.ref (a 0), .int x, .int y])).length) Slot.unset).toArray = ls at hl ⊢
  have hl : lv_has ls 4 [(0, .ref (a 0)), (1, .int x), (2, .int y)] := hl
  refine lv_aload_n hx hb dX10_clerk_0 rfl (lv_at hl 0 rfl) ?_
  refine va_get (D := D) (ci := 10) (v := .ref (a 4)) (C := RX10) (T := TX10) (N := 17) hx hb htg in_X10 hown hK hP 0 rfl rfl 5 (by decide) (htg _ mw_13) (fun _ h9 => h9) rfl dX10_clerk_1 ?_
  refine lv_iload_n hx hb dX10_clerk_4 rfl (lv_at hl 1 rfl) ?_
  have hPc := hP.sub (ws' := [((a 4), .inr (4, [.int 0, .int 0, .ref (a 43), .ref (a 44), .ref (a 45), .ref (a 46), .ref (a 47), .ref (a 48), .ref (a 49), .ref (a 50), .ref (a 51)]))]) [4] rfl
  have hKc := hK.sub (tys' := []) [] rfl
  refine va_calli (va_runV (As := [.int x]) (rest := []) ⟨hx, hb, hml, hown, htg⟩ (c_X4_hasClerk l D (a 4) [.ref (a 43), .ref (a 44), .ref (a 45), .ref (a 46), .ref (a 47), .ref (a 48), .ref (a 49), .ref (a 50), .ref (a 51)] x) (cV 1 htg mw_19 kv_X4_hasClerk rfl rfl ⟨(Nat.le_of_ble_eq_true rfl), (Nat.le_of_ble_eq_true rfl)⟩) ⟨bl_r, va_recv hKc hPc (ci := 4) (q0 := 0) rfl rfl, us_r hPc hKc⟩ rfl rfl hl.1 rfl (lv_room (Nat.le_of_ble_eq_true rfl)) dX10_clerk_5 ⟨(Nat.le_of_ble_eq_true rfl), (Nat.le_of_ble_eq_true rfl)⟩) hS (fun _ _ h9 => False.elim h9) (fun _ h9 => False.elim h9) (fun r_1 u t H locs ht hvm hw hB hz1 hk1 hS => ?_)
  have hP := ro_keep hP hk1
  subst hw
  refine lv_if_ne (tgt := 13) hx hb dX10_clerk_8 (by decide) (fun h9 => False.elim (h9 (by decide))) (fun _ => ?_)
  refine lv_iconst (v := (-1)) hx hb dX10_clerk_11 (by decide) ?_
  exact W.iret (v := (-1)) hx hb hr  (fun t ht hW => ⟨⟨(-1), (), rfl, rfl, trivial⟩, hS.F ht⟩) hS.2.2 dX10_clerk_12

set_option maxHeartbeats 4000000 in
set_option maxRecDepth 100000 in
theorem c_X10_law (l : Launch) (D : va_G) (a : Nat → Nat) (cA : Nat → ClassId) (f : Nat → Nat → Int32) (x : Int32) : Met l yX10_law (.code yX10_law cX10_law 2 (some .boolean) :: gw) ({ frames := 0, cells := 0, slots := 0, locals := 0 }) (va_Pc [.ref (a 0), .int x] (pr D [((a 0), .inr (10, [.ref (a 1), .ref (a 3), .ref (a 40), .int 0, .int (-1), .ref (a 4), .ref (a 5), .ref (a 6), .ref (a 7), .ref (a 8), .ref (a 9), .ref (a 10), .null, .null, .int 0, .int (-1), .ref (a 41)])), ((a 1), .inr (6, [.ref (a 2), .int 0, .int 0])), ((a 2), .inl ((cA 2), 160, .inl (f 2))), ((a 3), .inr (3, [.ref (a 1), .ref (a 42), .int 0, .int 0])), ((a 4), .inr (4, [.int 0, .int 0, .ref (a 43), .ref (a 44), .ref (a 45), .ref (a 46), .ref (a 47), .ref (a 48), .ref (a 49), .ref (a 50), .ref (a 51)])), ((a 5), .inr (4, [.int 0, .int 0, .ref (a 11), .ref (a 12), .ref (a 13), .ref (a 14), .ref (a 15), .ref (a 16), .ref (a 17), .ref (a 18), .ref (a 19)])), ((a 6), .inr (5, [.ref (a 52), .int 0, .ref (a 53), .int 0, .int 0, .int 0])), ((a 7), .inr (5, [.ref (a 54), .int 0, .ref (a 55), .int 0, .int 0, .int 0])), ((a 8), .inr (1, [.ref (a 56), .int 0, .int 0, .ref (a 57), .int 0, .ref (a 58)])), ((a 9), .inr (7, [.ref (a 59), .ref (a 60), .ref (a 61)])), ((a 11), .inl ((cA 11), 12, .inl (f 11))), ((a 12), .inl ((cA 12), 12, .inl (f 12))), ((a 13), .inl ((cA 13), 144, .inl (f 13))), ((a 14), .inl ((cA 14), 12, .inl (f 14))), ((a 15), .inl ((cA 15), 12, .inl (f 15))), ((a 16), .inl ((cA 16), 12, .inl (f 16))), ((a 17), .inl ((cA 17), 12, .inl (f 17))), ((a 18), .inl ((cA 18), 12, .inl (f 18))), ((a 19), .inl ((cA 19), 144, .inl (f 19)))] [((cA 2), .int), ((cA 11), .int), ((cA 12), .int), ((cA 13), .int), ((cA 14), .int), ((cA 15), .int), ((cA 16), .int), ((cA 17), .int), ((cA 18), .int), ((cA 19), .int)])) (va_Qi (fun r (_ : Unit) => r = 0) (fun _ _ => True) (fun _ => False)) 0 0 (fun _ => False) := by
  refine Met.ofW (cc := cX10_law) (maxL := 2) (ret := (some .boolean)) (by decide) rfl ?_
  intro p e s m args below meth c s₁ B hml hv
  obtain ⟨rfl, hP, hK⟩ := hv
  have hx := B.exec
  have hb := B.bytes
  have hr := B.returns
  have hts := atoms_spec (ws := .code yX10_law cX10_law 2 (some .boolean) :: gw) B.pre
  have htg := gw_tl hts
  have hown : s.vm.findClass RX10 = some m.cls := findClass_of_methodNamed B.named
  have hlocks := B.notSynchronized
  have hS : va_S (fun _ => False) s.heap s.heap [] := va_S.rf
  have hl := lv_entry ([.ref (a 0), .int x]) (n := 2) (Nat.le_of_ble_eq_true rfl)
  rw [lg_entry_eq]
  generalize (lg_sl ([.ref (a 0), .int x]) ++ List.replicate (2 - (lg_sl ([.ref (a 0), .int x])).length) Slot.unset).toArray = ls at hl ⊢
  have hl : lv_has ls 2 [(0, .ref (a 0)), (1, .int x)] := hl
  refine lv_aload_n hx hb dX10_law_0 rfl (lv_at hl 0 rfl) ?_
  refine va_get (D := D) (ci := 10) (v := .ref (a 4)) (C := RX10) (T := TX10) (N := 17) hx hb htg in_X10 hown hK hP 0 rfl rfl 5 (by decide) (htg _ mw_13) (fun _ h9 => h9) rfl dX10_law_1 ?_
  refine va_get (D := D) (ci := 4) (v := .int 0) (C := RX4) (T := TX4) (N := 11) hx hb htg in_X4 hown hK hP 4 rfl rfl 0 (by decide) (htg _ mw_14) (fun _ h9 => h9) rfl dX10_law_4 ?_
  refine lv_if_eq (tgt := 23) hx hb dX10_law_7 (by decide) (fun _ => ?_) (fun h9 => False.elim (h9 (by decide)))
  refine lv_iconst (v := 0) hx hb dX10_law_23 (by decide) ?_
  exact W.zret (v := 0) hx hb hr (by first | rfl | decide | exact ar_nb _) (fun t ht hW => ⟨⟨0, (), rfl, rfl, trivial⟩, hS.F ht⟩) hS.2.2 dX10_law_24

set_option maxHeartbeats 4000000 in
set_option maxRecDepth 100000 in
theorem c_X10_let (l : Launch) (D : va_G) (a : Nat → Nat) (cA : Nat → ClassId) (f : Nat → Nat → Int32) (x y : Int32) : Met l yX10_let (.code yX10_let cX10_let 4 (some .int) :: gw) ({ frames := 2, cells := 0, slots := 0, locals := 80 }) (va_Pc [.ref (a 0), .int x, .int y] (pr D [((a 0), .inr (10, [.ref (a 1), .ref (a 3), .ref (a 40), .int 0, .int (-1), .ref (a 4), .ref (a 5), .ref (a 6), .ref (a 7), .ref (a 8), .ref (a 9), .ref (a 10), .null, .null, .int 0, .int (-1), .ref (a 41)])), ((a 1), .inr (6, [.ref (a 2), .int 0, .int 0])), ((a 2), .inl ((cA 2), 160, .inl (f 2))), ((a 3), .inr (3, [.ref (a 1), .ref (a 42), .int 0, .int 0])), ((a 4), .inr (4, [.int 0, .int 0, .ref (a 43), .ref (a 44), .ref (a 45), .ref (a 46), .ref (a 47), .ref (a 48), .ref (a 49), .ref (a 50), .ref (a 51)])), ((a 5), .inr (4, [.int 0, .int 0, .ref (a 11), .ref (a 12), .ref (a 13), .ref (a 14), .ref (a 15), .ref (a 16), .ref (a 17), .ref (a 18), .ref (a 19)])), ((a 6), .inr (5, [.ref (a 52), .int 0, .ref (a 53), .int 0, .int 0, .int 0])), ((a 7), .inr (5, [.ref (a 54), .int 0, .ref (a 55), .int 0, .int 0, .int 0])), ((a 8), .inr (1, [.ref (a 56), .int 0, .int 0, .ref (a 57), .int 0, .ref (a 58)])), ((a 9), .inr (7, [.ref (a 59), .ref (a 60), .ref (a 61)])), ((a 11), .inl ((cA 11), 12, .inl (f 11))), ((a 12), .inl ((cA 12), 12, .inl (f 12))), ((a 13), .inl ((cA 13), 144, .inl (f 13))), ((a 14), .inl ((cA 14), 12, .inl (f 14))), ((a 15), .inl ((cA 15), 12, .inl (f 15))), ((a 16), .inl ((cA 16), 12, .inl (f 16))), ((a 17), .inl ((cA 17), 12, .inl (f 17))), ((a 18), .inl ((cA 18), 12, .inl (f 18))), ((a 19), .inl ((cA 19), 144, .inl (f 19)))] [((cA 2), .int), ((cA 11), .int), ((cA 12), .int), ((cA 13), .int), ((cA 14), .int), ((cA 15), .int), ((cA 16), .int), ((cA 17), .int), ((cA 18), .int), ((cA 19), .int)])) (va_Qi (fun r (_ : Unit) => r = (-1)) (fun _ _ => True) (fun _ => False)) 0 0 (fun _ => False) := by
  refine Met.ofW (cc := cX10_let) (maxL := 4) (ret := (some .int)) (by decide) rfl ?_
  intro p e s m args below meth c s₁ B hml hv
  obtain ⟨rfl, hP, hK⟩ := hv
  have hx := B.exec
  have hb := B.bytes
  have hr := B.returns
  have hts := atoms_spec (ws := .code yX10_let cX10_let 4 (some .int) :: gw) B.pre
  have htg := gw_tl hts
  have hown : s.vm.findClass RX10 = some m.cls := findClass_of_methodNamed B.named
  have hlocks := B.notSynchronized
  have hS : va_S (fun _ => False) s.heap s.heap [] := va_S.rf
  have hl := lv_entry ([.ref (a 0), .int x, .int y]) (n := 4) (Nat.le_of_ble_eq_true rfl)
  rw [lg_entry_eq]
  generalize (lg_sl ([.ref (a 0), .int x, .int y]) ++ List.replicate (4 - (lg_sl ([.ref (a 0), .int x, .int y])).length) Slot.unset).toArray = ls at hl ⊢
  have hl : lv_has ls 4 [(0, .ref (a 0)), (1, .int x), (2, .int y)] := hl
  refine lv_aload_n hx hb dX10_let_0 rfl (lv_at hl 0 rfl) ?_
  refine va_get (D := D) (ci := 10) (v := .ref (a 4)) (C := RX10) (T := TX10) (N := 17) hx hb htg in_X10 hown hK hP 0 rfl rfl 5 (by decide) (htg _ mw_13) (fun _ h9 => h9) rfl dX10_let_1 ?_
  refine lv_aload_n hx hb dX10_let_4 rfl (lv_at hl 0 rfl) ?_
  refine lv_aload_n hx hb dX10_let_5 rfl (lv_at hl 0 rfl) ?_
  refine va_get (D := D) (ci := 10) (v := .int (-1)) (C := RX10) (T := TX10) (N := 17) hx hb htg in_X10 hown hK hP 0 rfl rfl 4 (by decide) (htg _ mw_20) (fun _ h9 => h9) rfl dX10_let_6 ?_
  have hPc := hP.sub (ws' := [((a 0), .inr (10, [.ref (a 1), .ref (a 3), .ref (a 40), .int 0, .int (-1), .ref (a 4), .ref (a 5), .ref (a 6), .ref (a 7), .ref (a 8), .ref (a 9), .ref (a 10), .null, .null, .int 0, .int (-1), .ref (a 41)])), ((a 1), .inr (6, [.ref (a 2), .int 0, .int 0])), ((a 2), .inl ((cA 2), 160, .inl (f 2))), ((a 3), .inr (3, [.ref (a 1), .ref (a 42), .int 0, .int 0])), ((a 4), .inr (4, [.int 0, .int 0, .ref (a 43), .ref (a 44), .ref (a 45), .ref (a 46), .ref (a 47), .ref (a 48), .ref (a 49), .ref (a 50), .ref (a 51)])), ((a 5), .inr (4, [.int 0, .int 0, .ref (a 11), .ref (a 12), .ref (a 13), .ref (a 14), .ref (a 15), .ref (a 16), .ref (a 17), .ref (a 18), .ref (a 19)])), ((a 6), .inr (5, [.ref (a 52), .int 0, .ref (a 53), .int 0, .int 0, .int 0])), ((a 7), .inr (5, [.ref (a 54), .int 0, .ref (a 55), .int 0, .int 0, .int 0])), ((a 8), .inr (1, [.ref (a 56), .int 0, .int 0, .ref (a 57), .int 0, .ref (a 58)])), ((a 9), .inr (7, [.ref (a 59), .ref (a 60), .ref (a 61)])), ((a 11), .inl ((cA 11), 12, .inl (f 11))), ((a 12), .inl ((cA 12), 12, .inl (f 12))), ((a 13), .inl ((cA 13), 144, .inl (f 13))), ((a 14), .inl ((cA 14), 12, .inl (f 14))), ((a 15), .inl ((cA 15), 12, .inl (f 15))), ((a 16), .inl ((cA 16), 12, .inl (f 16))), ((a 17), .inl ((cA 17), 12, .inl (f 17))), ((a 18), .inl ((cA 18), 12, .inl (f 18))), ((a 19), .inl ((cA 19), 144, .inl (f 19)))]) [0, 1, 2, 3, 4, 5, 6, 7, 8, 9, 10, 11, 12, 13, 14, 15, 16, 17, 18] rfl
  have hKc := hK.sub (tys' := [((cA 2), .int), ((cA 11), .int), ((cA 12), .int), ((cA 13), .int), ((cA 14), .int), ((cA 15), .int), ((cA 16), .int), ((cA 17), .int), ((cA 18), .int), ((cA 19), .int)]) [0, 1, 2, 3, 4, 5, 6, 7, 8, 9] rfl
  refine va_callN (va_runV (As := [.int (-1)]) (rest := [.ref (a 4)]) ⟨hx, hb, hml, hown, htg⟩ (c_X10_lawOf l D a cA f ) (cV 1 htg mw_25 kv_X10_lawOf rfl rfl ⟨(Nat.le_of_ble_eq_true rfl), (Nat.le_of_ble_eq_true rfl)⟩) ⟨bl_r, va_recv hKc hPc (ci := 10) (q0 := 0) rfl rfl, us_r hPc hKc⟩ rfl rfl hl.1 rfl (lv_room (Nat.le_of_ble_eq_true rfl)) dX10_let_9 ⟨(Nat.le_of_ble_eq_true rfl), (Nat.le_of_ble_eq_true rfl)⟩) hS (fun _ _ h9 => False.elim h9) (fun _ h9 => False.elim h9) (fun H locs hk1 hS => ?_)
  have hP := ro_keep hP hk1
  refine lv_iload_n hx hb dX10_let_12 rfl (lv_at hl 1 rfl) ?_
  refine lv_iload_n hx hb dX10_let_13 rfl (lv_at hl 2 rfl) ?_
  have hPc := hP.sub (ws' := [((a 4), .inr (4, [.int 0, .int 0, .ref (a 43), .ref (a 44), .ref (a 45), .ref (a 46), .ref (a 47), .ref (a 48), .ref (a 49), .ref (a 50), .ref (a 51)]))]) [4] rfl
  have hKc := hK.sub (tys' := []) [] rfl
  refine va_calli (va_runV (As := [.null, .int x, .int y]) (rest := []) ⟨hx, hb, hml, hown, htg⟩ (c_X4_hindrance l D (a 4) [.ref (a 43), .ref (a 44), .ref (a 45), .ref (a 46), .ref (a 47), .ref (a 48), .ref (a 49), .ref (a 50), .ref (a 51)] x y) (cV 3 htg mw_29 kv_X4_hindrance rfl rfl ⟨(Nat.le_of_ble_eq_true rfl), (Nat.le_of_ble_eq_true rfl)⟩) ⟨bl_r, va_recv hKc hPc (ci := 4) (q0 := 0) rfl rfl, us_r hPc hKc⟩ rfl rfl hl.1 rfl (lv_room (Nat.le_of_ble_eq_true rfl)) dX10_let_14 ⟨(Nat.le_of_ble_eq_true rfl), (Nat.le_of_ble_eq_true rfl)⟩) hS (fun _ _ h9 => False.elim h9) (fun _ h9 => False.elim h9) (fun r_1 u t H locs ht hvm hw hB hz1 hk1 hS => ?_)
  have hP := ro_keep hP hk1
  subst hw
  refine lv_istore_n (lv' := [(3, .int 1), (0, .ref (a 0)), (1, .int x), (2, .int y)]) hx hb dX10_let_17 rfl hl (by decide) rfl (fun ls hl => ?_)
  refine lv_iload_n hx hb dX10_let_18 rfl (lv_at hl 0 rfl) ?_
  refine lv_iconst (v := 4) hx hb dX10_let_19 (by decide) ?_
  refine lv_icmp_ne (tgt := 25) hx hb dX10_let_20 (by decide) (fun _ => ?_) (fun h9 => absurd h9 (by decide))
  refine lv_iload_n hx hb dX10_let_25 rfl (lv_at hl 0 rfl) ?_
  refine lv_if_ne (tgt := 33) hx hb dX10_let_26 (by decide) (fun _ => ?_) (fun h9 => absurd h9 (by decide))
  refine lv_iconst (v := (-1)) hx hb dX10_let_33 (by decide) ?_
  exact W.iret (v := (-1)) hx hb hr  (fun t ht hW => ⟨⟨(-1), (), rfl, rfl, trivial⟩, hS.F ht⟩) hS.2.2 dX10_let_34

set_option maxHeartbeats 4000000 in
set_option maxRecDepth 100000 in
theorem c_X10_move (l : Launch) (D : va_G) (a : Nat → Nat) (cA : Nat → ClassId) (f : Nat → Nat → Int32) (x y : Int32) : Met l yX10_move (.code yX10_move cX10_move 4 (some .int) :: gw) ({ frames := 2, cells := 0, slots := 0, locals := 80 }) (va_Pc [.ref (a 0), .int x, .int y] (pr D [((a 0), .inr (10, [.ref (a 1), .ref (a 3), .ref (a 40), .int 0, .int (-1), .ref (a 4), .ref (a 5), .ref (a 6), .ref (a 7), .ref (a 8), .ref (a 9), .ref (a 10), .null, .null, .int 0, .int (-1), .ref (a 41)])), ((a 1), .inr (6, [.ref (a 2), .int 0, .int 0])), ((a 2), .inl ((cA 2), 160, .inl (f 2))), ((a 3), .inr (3, [.ref (a 1), .ref (a 42), .int 0, .int 0])), ((a 4), .inr (4, [.int 0, .int 0, .ref (a 43), .ref (a 44), .ref (a 45), .ref (a 46), .ref (a 47), .ref (a 48), .ref (a 49), .ref (a 50), .ref (a 51)])), ((a 5), .inr (4, [.int 0, .int 0, .ref (a 11), .ref (a 12), .ref (a 13), .ref (a 14), .ref (a 15), .ref (a 16), .ref (a 17), .ref (a 18), .ref (a 19)])), ((a 6), .inr (5, [.ref (a 52), .int 0, .ref (a 53), .int 0, .int 0, .int 0])), ((a 7), .inr (5, [.ref (a 54), .int 0, .ref (a 55), .int 0, .int 0, .int 0])), ((a 8), .inr (1, [.ref (a 56), .int 0, .int 0, .ref (a 57), .int 0, .ref (a 58)])), ((a 9), .inr (7, [.ref (a 59), .ref (a 60), .ref (a 61)])), ((a 11), .inl ((cA 11), 12, .inl (f 11))), ((a 12), .inl ((cA 12), 12, .inl (f 12))), ((a 13), .inl ((cA 13), 144, .inl (f 13))), ((a 14), .inl ((cA 14), 12, .inl (f 14))), ((a 15), .inl ((cA 15), 12, .inl (f 15))), ((a 16), .inl ((cA 16), 12, .inl (f 16))), ((a 17), .inl ((cA 17), 12, .inl (f 17))), ((a 18), .inl ((cA 18), 12, .inl (f 18))), ((a 19), .inl ((cA 19), 144, .inl (f 19)))] [((cA 2), .int), ((cA 11), .int), ((cA 12), .int), ((cA 13), .int), ((cA 14), .int), ((cA 15), .int), ((cA 16), .int), ((cA 17), .int), ((cA 18), .int), ((cA 19), .int)])) (va_Qi (fun r (_ : Unit) => r = (-1)) (fun _ _ => True) (fun _ => False)) 0 0 (fun _ => False) := by
  refine Met.ofW (cc := cX10_move) (maxL := 4) (ret := (some .int)) (by decide) rfl ?_
  intro p e s m args below meth c s₁ B hml hv
  obtain ⟨rfl, hP, hK⟩ := hv
  have hx := B.exec
  have hb := B.bytes
  have hr := B.returns
  have hts := atoms_spec (ws := .code yX10_move cX10_move 4 (some .int) :: gw) B.pre
  have htg := gw_tl hts
  have hown : s.vm.findClass RX10 = some m.cls := findClass_of_methodNamed B.named
  have hlocks := B.notSynchronized
  have hS : va_S (fun _ => False) s.heap s.heap [] := va_S.rf
  have hl := lv_entry ([.ref (a 0), .int x, .int y]) (n := 4) (Nat.le_of_ble_eq_true rfl)
  rw [lg_entry_eq]
  generalize (lg_sl ([.ref (a 0), .int x, .int y]) ++ List.replicate (4 - (lg_sl ([.ref (a 0), .int x, .int y])).length) Slot.unset).toArray = ls at hl ⊢
  have hl : lv_has ls 4 [(0, .ref (a 0)), (1, .int x), (2, .int y)] := hl
  refine lv_aload_n hx hb dX10_move_0 rfl (lv_at hl 0 rfl) ?_
  refine va_get (D := D) (ci := 10) (v := .ref (a 4)) (C := RX10) (T := TX10) (N := 17) hx hb htg in_X10 hown hK hP 0 rfl rfl 5 (by decide) (htg _ mw_13) (fun _ h9 => h9) rfl dX10_move_1 ?_
  refine lv_aload_n hx hb dX10_move_4 rfl (lv_at hl 0 rfl) ?_
  refine lv_aload_n hx hb dX10_move_5 rfl (lv_at hl 0 rfl) ?_
  refine va_get (D := D) (ci := 10) (v := .int (-1)) (C := RX10) (T := TX10) (N := 17) hx hb htg in_X10 hown hK hP 0 rfl rfl 4 (by decide) (htg _ mw_20) (fun _ h9 => h9) rfl dX10_move_6 ?_
  have hPc := hP.sub (ws' := [((a 0), .inr (10, [.ref (a 1), .ref (a 3), .ref (a 40), .int 0, .int (-1), .ref (a 4), .ref (a 5), .ref (a 6), .ref (a 7), .ref (a 8), .ref (a 9), .ref (a 10), .null, .null, .int 0, .int (-1), .ref (a 41)])), ((a 1), .inr (6, [.ref (a 2), .int 0, .int 0])), ((a 2), .inl ((cA 2), 160, .inl (f 2))), ((a 3), .inr (3, [.ref (a 1), .ref (a 42), .int 0, .int 0])), ((a 4), .inr (4, [.int 0, .int 0, .ref (a 43), .ref (a 44), .ref (a 45), .ref (a 46), .ref (a 47), .ref (a 48), .ref (a 49), .ref (a 50), .ref (a 51)])), ((a 5), .inr (4, [.int 0, .int 0, .ref (a 11), .ref (a 12), .ref (a 13), .ref (a 14), .ref (a 15), .ref (a 16), .ref (a 17), .ref (a 18), .ref (a 19)])), ((a 6), .inr (5, [.ref (a 52), .int 0, .ref (a 53), .int 0, .int 0, .int 0])), ((a 7), .inr (5, [.ref (a 54), .int 0, .ref (a 55), .int 0, .int 0, .int 0])), ((a 8), .inr (1, [.ref (a 56), .int 0, .int 0, .ref (a 57), .int 0, .ref (a 58)])), ((a 9), .inr (7, [.ref (a 59), .ref (a 60), .ref (a 61)])), ((a 11), .inl ((cA 11), 12, .inl (f 11))), ((a 12), .inl ((cA 12), 12, .inl (f 12))), ((a 13), .inl ((cA 13), 144, .inl (f 13))), ((a 14), .inl ((cA 14), 12, .inl (f 14))), ((a 15), .inl ((cA 15), 12, .inl (f 15))), ((a 16), .inl ((cA 16), 12, .inl (f 16))), ((a 17), .inl ((cA 17), 12, .inl (f 17))), ((a 18), .inl ((cA 18), 12, .inl (f 18))), ((a 19), .inl ((cA 19), 144, .inl (f 19)))]) [0, 1, 2, 3, 4, 5, 6, 7, 8, 9, 10, 11, 12, 13, 14, 15, 16, 17, 18] rfl
  have hKc := hK.sub (tys' := [((cA 2), .int), ((cA 11), .int), ((cA 12), .int), ((cA 13), .int), ((cA 14), .int), ((cA 15), .int), ((cA 16), .int), ((cA 17), .int), ((cA 18), .int), ((cA 19), .int)]) [0, 1, 2, 3, 4, 5, 6, 7, 8, 9] rfl
  refine va_callN (va_runV (As := [.int (-1)]) (rest := [.ref (a 4)]) ⟨hx, hb, hml, hown, htg⟩ (c_X10_lawOf l D a cA f ) (cV 1 htg mw_25 kv_X10_lawOf rfl rfl ⟨(Nat.le_of_ble_eq_true rfl), (Nat.le_of_ble_eq_true rfl)⟩) ⟨bl_r, va_recv hKc hPc (ci := 10) (q0 := 0) rfl rfl, us_r hPc hKc⟩ rfl rfl hl.1 rfl (lv_room (Nat.le_of_ble_eq_true rfl)) dX10_move_9 ⟨(Nat.le_of_ble_eq_true rfl), (Nat.le_of_ble_eq_true rfl)⟩) hS (fun _ _ h9 => False.elim h9) (fun _ h9 => False.elim h9) (fun H locs hk1 hS => ?_)
  have hP := ro_keep hP hk1
  refine lv_iload_n hx hb dX10_move_12 rfl (lv_at hl 1 rfl) ?_
  refine lv_iload_n hx hb dX10_move_13 rfl (lv_at hl 2 rfl) ?_
  have hPc := hP.sub (ws' := [((a 4), .inr (4, [.int 0, .int 0, .ref (a 43), .ref (a 44), .ref (a 45), .ref (a 46), .ref (a 47), .ref (a 48), .ref (a 49), .ref (a 50), .ref (a 51)]))]) [4] rfl
  have hKc := hK.sub (tys' := []) [] rfl
  refine va_calli (va_runV (As := [.null, .int x, .int y]) (rest := []) ⟨hx, hb, hml, hown, htg⟩ (c_X4_hindrance l D (a 4) [.ref (a 43), .ref (a 44), .ref (a 45), .ref (a 46), .ref (a 47), .ref (a 48), .ref (a 49), .ref (a 50), .ref (a 51)] x y) (cV 3 htg mw_29 kv_X4_hindrance rfl rfl ⟨(Nat.le_of_ble_eq_true rfl), (Nat.le_of_ble_eq_true rfl)⟩) ⟨bl_r, va_recv hKc hPc (ci := 4) (q0 := 0) rfl rfl, us_r hPc hKc⟩ rfl rfl hl.1 rfl (lv_room (Nat.le_of_ble_eq_true rfl)) dX10_move_14 ⟨(Nat.le_of_ble_eq_true rfl), (Nat.le_of_ble_eq_true rfl)⟩) hS (fun _ _ h9 => False.elim h9) (fun _ h9 => False.elim h9) (fun r_1 u t H locs ht hvm hw hB hz1 hk1 hS => ?_)
  have hP := ro_keep hP hk1
  subst hw
  refine lv_if_eq (tgt := 22) hx hb dX10_move_17 (by decide) (fun h9 => absurd h9 (by decide)) (fun _ => ?_)
  refine lv_iconst (v := (-1)) hx hb dX10_move_20 (by decide) ?_
  exact W.iret (v := (-1)) hx hb hr  (fun t ht hW => ⟨⟨(-1), (), rfl, rfl, trivial⟩, hS.F ht⟩) hS.2.2 dX10_move_21

set_option maxHeartbeats 4000000 in
set_option maxRecDepth 100000 in
theorem c_X10_undo (l : Launch) (D : va_G) (a : Nat → Nat) (cA : Nat → ClassId) (f : Nat → Nat → Int32)  : Met l yX10_undo (.code yX10_undo cX10_undo 1 (some .int) :: gw) ({ frames := 0, cells := 0, slots := 0, locals := 0 }) (va_Pc [.ref (a 0)] (pr D [((a 0), .inr (10, [.ref (a 1), .ref (a 3), .ref (a 40), .int 0, .int (-1), .ref (a 4), .ref (a 5), .ref (a 6), .ref (a 7), .ref (a 8), .ref (a 9), .ref (a 10), .null, .null, .int 0, .int (-1), .ref (a 41)])), ((a 1), .inr (6, [.ref (a 2), .int 0, .int 0])), ((a 2), .inl ((cA 2), 160, .inl (f 2))), ((a 3), .inr (3, [.ref (a 1), .ref (a 42), .int 0, .int 0])), ((a 4), .inr (4, [.int 0, .int 0, .ref (a 43), .ref (a 44), .ref (a 45), .ref (a 46), .ref (a 47), .ref (a 48), .ref (a 49), .ref (a 50), .ref (a 51)])), ((a 5), .inr (4, [.int 0, .int 0, .ref (a 11), .ref (a 12), .ref (a 13), .ref (a 14), .ref (a 15), .ref (a 16), .ref (a 17), .ref (a 18), .ref (a 19)])), ((a 6), .inr (5, [.ref (a 52), .int 0, .ref (a 53), .int 0, .int 0, .int 0])), ((a 7), .inr (5, [.ref (a 54), .int 0, .ref (a 55), .int 0, .int 0, .int 0])), ((a 8), .inr (1, [.ref (a 56), .int 0, .int 0, .ref (a 57), .int 0, .ref (a 58)])), ((a 9), .inr (7, [.ref (a 59), .ref (a 60), .ref (a 61)])), ((a 11), .inl ((cA 11), 12, .inl (f 11))), ((a 12), .inl ((cA 12), 12, .inl (f 12))), ((a 13), .inl ((cA 13), 144, .inl (f 13))), ((a 14), .inl ((cA 14), 12, .inl (f 14))), ((a 15), .inl ((cA 15), 12, .inl (f 15))), ((a 16), .inl ((cA 16), 12, .inl (f 16))), ((a 17), .inl ((cA 17), 12, .inl (f 17))), ((a 18), .inl ((cA 18), 12, .inl (f 18))), ((a 19), .inl ((cA 19), 144, .inl (f 19)))] [((cA 2), .int), ((cA 11), .int), ((cA 12), .int), ((cA 13), .int), ((cA 14), .int), ((cA 15), .int), ((cA 16), .int), ((cA 17), .int), ((cA 18), .int), ((cA 19), .int)])) (va_Qi (fun r (_ : Unit) => r = (-1)) (fun _ _ => True) (fun _ => False)) 0 0 (fun _ => False) := by
  refine Met.ofW (cc := cX10_undo) (maxL := 1) (ret := (some .int)) (by decide) rfl ?_
  intro p e s m args below meth c s₁ B hml hv
  obtain ⟨rfl, hP, hK⟩ := hv
  have hx := B.exec
  have hb := B.bytes
  have hr := B.returns
  have hts := atoms_spec (ws := .code yX10_undo cX10_undo 1 (some .int) :: gw) B.pre
  have htg := gw_tl hts
  have hown : s.vm.findClass RX10 = some m.cls := findClass_of_methodNamed B.named
  have hlocks := B.notSynchronized
  have hS : va_S (fun _ => False) s.heap s.heap [] := va_S.rf
  have hl := lv_entry ([.ref (a 0)]) (n := 1) (Nat.le_of_ble_eq_true rfl)
  rw [lg_entry_eq]
  generalize (lg_sl ([.ref (a 0)]) ++ List.replicate (1 - (lg_sl ([.ref (a 0)])).length) Slot.unset).toArray = ls at hl ⊢
  have hl : lv_has ls 1 [(0, .ref (a 0))] := hl
  refine lv_aload_n hx hb dX10_undo_0 rfl (lv_at hl 0 rfl) ?_
  refine va_get (D := D) (ci := 10) (v := .ref (a 8)) (C := RX10) (T := TX10) (N := 17) hx hb htg in_X10 hown hK hP 0 rfl rfl 9 (by decide) (htg _ mw_30) (fun _ h9 => h9) rfl dX10_undo_1 ?_
  refine va_get (D := D) (ci := 1) (v := .int 0) (C := RX1) (T := TX1) (N := 6) hx hb htg in_X1 hown hK hP 8 rfl rfl 1 (by decide) (htg _ mw_31) (fun _ h9 => h9) rfl dX10_undo_4 ?_
  refine lv_if_ne (tgt := 12) hx hb dX10_undo_7 (by decide) (fun h9 => False.elim (h9 (by decide))) (fun _ => ?_)
  refine lv_iconst (v := (-1)) hx hb dX10_undo_10 (by decide) ?_
  exact W.iret (v := (-1)) hx hb hr  (fun t ht hW => ⟨⟨(-1), (), rfl, rfl, trivial⟩, hS.F ht⟩) hS.2.2 dX10_undo_11

set_option maxHeartbeats 4000000 in
set_option maxRecDepth 100000 in
theorem c_X10_diary (l : Launch) (D : va_G) (a : Nat → Nat) (cA : Nat → ClassId) (f : Nat → Nat → Int32) (x : Int32) : Met l yX10_diary (.code yX10_diary cX10_diary 2 (some .int) :: gw) ({ frames := 1, cells := 0, slots := 0, locals := 40 }) (va_Pc [.ref (a 0), .int x] (pr D [((a 0), .inr (10, [.ref (a 1), .ref (a 3), .ref (a 40), .int 0, .int (-1), .ref (a 4), .ref (a 5), .ref (a 6), .ref (a 7), .ref (a 8), .ref (a 9), .ref (a 10), .null, .null, .int 0, .int (-1), .ref (a 41)])), ((a 1), .inr (6, [.ref (a 2), .int 0, .int 0])), ((a 2), .inl ((cA 2), 160, .inl (f 2))), ((a 3), .inr (3, [.ref (a 1), .ref (a 42), .int 0, .int 0])), ((a 4), .inr (4, [.int 0, .int 0, .ref (a 43), .ref (a 44), .ref (a 45), .ref (a 46), .ref (a 47), .ref (a 48), .ref (a 49), .ref (a 50), .ref (a 51)])), ((a 5), .inr (4, [.int 0, .int 0, .ref (a 11), .ref (a 12), .ref (a 13), .ref (a 14), .ref (a 15), .ref (a 16), .ref (a 17), .ref (a 18), .ref (a 19)])), ((a 6), .inr (5, [.ref (a 52), .int 0, .ref (a 53), .int 0, .int 0, .int 0])), ((a 7), .inr (5, [.ref (a 54), .int 0, .ref (a 55), .int 0, .int 0, .int 0])), ((a 8), .inr (1, [.ref (a 56), .int 0, .int 0, .ref (a 57), .int 0, .ref (a 58)])), ((a 9), .inr (7, [.ref (a 59), .ref (a 60), .ref (a 61)])), ((a 11), .inl ((cA 11), 12, .inl (f 11))), ((a 12), .inl ((cA 12), 12, .inl (f 12))), ((a 13), .inl ((cA 13), 144, .inl (f 13))), ((a 14), .inl ((cA 14), 12, .inl (f 14))), ((a 15), .inl ((cA 15), 12, .inl (f 15))), ((a 16), .inl ((cA 16), 12, .inl (f 16))), ((a 17), .inl ((cA 17), 12, .inl (f 17))), ((a 18), .inl ((cA 18), 12, .inl (f 18))), ((a 19), .inl ((cA 19), 144, .inl (f 19)))] [((cA 2), .int), ((cA 11), .int), ((cA 12), .int), ((cA 13), .int), ((cA 14), .int), ((cA 15), .int), ((cA 16), .int), ((cA 17), .int), ((cA 18), .int), ((cA 19), .int)])) (va_Qi (fun r (_ : Unit) => r = (-1)) (fun _ _ => True) (fun _ => False)) 0 0 (fun _ => False) := by
  refine Met.ofW (cc := cX10_diary) (maxL := 2) (ret := (some .int)) (by decide) rfl ?_
  intro p e s m args below meth c s₁ B hml hv
  obtain ⟨rfl, hP, hK⟩ := hv
  have hx := B.exec
  have hb := B.bytes
  have hr := B.returns
  have hts := atoms_spec (ws := .code yX10_diary cX10_diary 2 (some .int) :: gw) B.pre
  have htg := gw_tl hts
  have hown : s.vm.findClass RX10 = some m.cls := findClass_of_methodNamed B.named
  have hlocks := B.notSynchronized
  have hS : va_S (fun _ => False) s.heap s.heap [] := va_S.rf
  have hl := lv_entry ([.ref (a 0), .int x]) (n := 2) (Nat.le_of_ble_eq_true rfl)
  rw [lg_entry_eq]
  generalize (lg_sl ([.ref (a 0), .int x]) ++ List.replicate (2 - (lg_sl ([.ref (a 0), .int x])).length) Slot.unset).toArray = ls at hl ⊢
  have hl : lv_has ls 2 [(0, .ref (a 0)), (1, .int x)] := hl
  refine lv_aload_n hx hb dX10_diary_0 rfl (lv_at hl 0 rfl) ?_
  refine va_get (D := D) (ci := 10) (v := .ref (a 8)) (C := RX10) (T := TX10) (N := 17) hx hb htg in_X10 hown hK hP 0 rfl rfl 9 (by decide) (htg _ mw_30) (fun _ h9 => h9) rfl dX10_diary_1 ?_
  refine lv_iload_n hx hb dX10_diary_4 rfl (lv_at hl 1 rfl) ?_
  have hPc := hP.sub (ws' := [((a 8), .inr (1, [.ref (a 56), .int 0, .int 0, .ref (a 57), .int 0, .ref (a 58)]))]) [8] rfl
  have hKc := hK.sub (tys' := []) [] rfl
  refine va_calli (va_runV (As := [.int x]) (rest := []) ⟨hx, hb, hml, hown, htg⟩ (c_X1_moveAt l D (a 8) (a 56) [.int 0, .ref (a 57), .int 0, .ref (a 58)] x) (cV 1 htg mw_36 kv_X1_moveAt rfl rfl ⟨(Nat.le_of_ble_eq_true rfl), (Nat.le_of_ble_eq_true rfl)⟩) ⟨bl_r, va_recv hKc hPc (ci := 1) (q0 := 0) rfl rfl, us_r hPc hKc⟩ rfl rfl hl.1 rfl (lv_room (Nat.le_of_ble_eq_true rfl)) dX10_diary_5 ⟨(Nat.le_of_ble_eq_true rfl), (Nat.le_of_ble_eq_true rfl)⟩) hS (fun _ _ h9 => False.elim h9) (fun _ h9 => False.elim h9) (fun r_1 u t H locs ht hvm hw hB hz1 hk1 hS => ?_)
  have hP := ro_keep hP hk1
  subst hw
  exact W.iret (v := (-1)) hx hb hr  (fun t ht hW => ⟨⟨(-1), (), rfl, rfl, trivial⟩, hS.F ht⟩) hS.2.2 dX10_diary_8

set_option maxHeartbeats 4000000 in
set_option maxRecDepth 100000 in
theorem c_X10_judge (l : Launch) (D : va_G) (a : Nat → Nat) (cA : Nat → ClassId) (f : Nat → Nat → Int32) (x y : Int32) : Met l yX10_judge (.code yX10_judge cX10_judge 3 (some .int) :: gw) ({ frames := 0, cells := 0, slots := 0, locals := 0 }) (va_Pc [.ref (a 0), .int x, .int y] (pr D [((a 0), .inr (10, [.ref (a 1), .ref (a 3), .ref (a 40), .int 0, .int (-1), .ref (a 4), .ref (a 5), .ref (a 6), .ref (a 7), .ref (a 8), .ref (a 9), .ref (a 10), .null, .null, .int 0, .int (-1), .ref (a 41)])), ((a 1), .inr (6, [.ref (a 2), .int 0, .int 0])), ((a 2), .inl ((cA 2), 160, .inl (f 2))), ((a 3), .inr (3, [.ref (a 1), .ref (a 42), .int 0, .int 0])), ((a 4), .inr (4, [.int 0, .int 0, .ref (a 43), .ref (a 44), .ref (a 45), .ref (a 46), .ref (a 47), .ref (a 48), .ref (a 49), .ref (a 50), .ref (a 51)])), ((a 5), .inr (4, [.int 0, .int 0, .ref (a 11), .ref (a 12), .ref (a 13), .ref (a 14), .ref (a 15), .ref (a 16), .ref (a 17), .ref (a 18), .ref (a 19)])), ((a 6), .inr (5, [.ref (a 52), .int 0, .ref (a 53), .int 0, .int 0, .int 0])), ((a 7), .inr (5, [.ref (a 54), .int 0, .ref (a 55), .int 0, .int 0, .int 0])), ((a 8), .inr (1, [.ref (a 56), .int 0, .int 0, .ref (a 57), .int 0, .ref (a 58)])), ((a 9), .inr (7, [.ref (a 59), .ref (a 60), .ref (a 61)])), ((a 11), .inl ((cA 11), 12, .inl (f 11))), ((a 12), .inl ((cA 12), 12, .inl (f 12))), ((a 13), .inl ((cA 13), 144, .inl (f 13))), ((a 14), .inl ((cA 14), 12, .inl (f 14))), ((a 15), .inl ((cA 15), 12, .inl (f 15))), ((a 16), .inl ((cA 16), 12, .inl (f 16))), ((a 17), .inl ((cA 17), 12, .inl (f 17))), ((a 18), .inl ((cA 18), 12, .inl (f 18))), ((a 19), .inl ((cA 19), 144, .inl (f 19)))] [((cA 2), .int), ((cA 11), .int), ((cA 12), .int), ((cA 13), .int), ((cA 14), .int), ((cA 15), .int), ((cA 16), .int), ((cA 17), .int), ((cA 18), .int), ((cA 19), .int)])) (va_Qi (fun r (_ : Unit) => r = (-1000000)) (fun _ _ => True) (fun _ => False)) 0 0 (fun _ => False) := by
  refine Met.ofW (cc := cX10_judge) (maxL := 3) (ret := (some .int)) (by decide) rfl ?_
  intro p e s m args below meth c s₁ B hml hv
  obtain ⟨rfl, hP, hK⟩ := hv
  have hx := B.exec
  have hb := B.bytes
  have hr := B.returns
  have hts := atoms_spec (ws := .code yX10_judge cX10_judge 3 (some .int) :: gw) B.pre
  have htg := gw_tl hts
  have hown : s.vm.findClass RX10 = some m.cls := findClass_of_methodNamed B.named
  have hlocks := B.notSynchronized
  have hS : va_S (fun _ => False) s.heap s.heap [] := va_S.rf
  have hl := lv_entry ([.ref (a 0), .int x, .int y]) (n := 3) (Nat.le_of_ble_eq_true rfl)
  rw [lg_entry_eq]
  generalize (lg_sl ([.ref (a 0), .int x, .int y]) ++ List.replicate (3 - (lg_sl ([.ref (a 0), .int x, .int y])).length) Slot.unset).toArray = ls at hl ⊢
  have hl : lv_has ls 3 [(0, .ref (a 0)), (1, .int x), (2, .int y)] := hl
  refine lv_aload_n hx hb dX10_judge_0 rfl (lv_at hl 0 rfl) ?_
  refine va_get (D := D) (ci := 10) (v := .ref (a 6)) (C := RX10) (T := TX10) (N := 17) hx hb htg in_X10 hown hK hP 0 rfl rfl 7 (by decide) (htg _ mw_37) (fun _ h9 => h9) rfl dX10_judge_1 ?_
  refine va_get (D := D) (ci := 5) (v := .int 0) (C := RX5) (T := TX5) (N := 6) hx hb htg in_X5 hown hK hP 6 rfl rfl 1 (by decide) (htg _ mw_38) (fun _ h9 => h9) rfl dX10_judge_4 ?_
  refine lv_if_eq (tgt := 29) hx hb dX10_judge_7 (by decide) (fun _ => ?_) (fun h9 => False.elim (h9 (by decide)))
  refine lv_ldc (v := (-1000000)) hx hb hown (htg _ mw_39) dX10_judge_29 ?_
  exact W.iret (v := (-1000000)) hx hb hr  (fun t ht hW => ⟨⟨(-1000000), (), rfl, rfl, trivial⟩, hS.F ht⟩) hS.2.2 dX10_judge_31

set_option maxHeartbeats 4000000 in
set_option maxRecDepth 100000 in
theorem c_X10_wish (l : Launch) (D : va_G) (a : Nat → Nat) (cA : Nat → ClassId) (f : Nat → Nat → Int32) (x y : Int32) : Met l yX10_wish (.code yX10_wish cX10_wish 3 (some .boolean) :: gw) ({ frames := 1, cells := 0, slots := 0, locals := 40 }) (va_Pc [.ref (a 0), .int x, .int y] (pr D [((a 0), .inr (10, [.ref (a 1), .ref (a 3), .ref (a 40), .int 0, .int (-1), .ref (a 4), .ref (a 5), .ref (a 6), .ref (a 7), .ref (a 8), .ref (a 9), .ref (a 10), .null, .null, .int 0, .int (-1), .ref (a 41)])), ((a 1), .inr (6, [.ref (a 2), .int 0, .int 0])), ((a 2), .inl ((cA 2), 160, .inl (f 2))), ((a 3), .inr (3, [.ref (a 1), .ref (a 42), .int 0, .int 0])), ((a 4), .inr (4, [.int 0, .int 0, .ref (a 43), .ref (a 44), .ref (a 45), .ref (a 46), .ref (a 47), .ref (a 48), .ref (a 49), .ref (a 50), .ref (a 51)])), ((a 5), .inr (4, [.int 0, .int 0, .ref (a 11), .ref (a 12), .ref (a 13), .ref (a 14), .ref (a 15), .ref (a 16), .ref (a 17), .ref (a 18), .ref (a 19)])), ((a 6), .inr (5, [.ref (a 52), .int 0, .ref (a 53), .int 0, .int 0, .int 0])), ((a 7), .inr (5, [.ref (a 54), .int 0, .ref (a 55), .int 0, .int 0, .int 0])), ((a 8), .inr (1, [.ref (a 56), .int 0, .int 0, .ref (a 57), .int 0, .ref (a 58)])), ((a 9), .inr (7, [.ref (a 59), .ref (a 60), .ref (a 61)])), ((a 11), .inl ((cA 11), 12, .inl (f 11))), ((a 12), .inl ((cA 12), 12, .inl (f 12))), ((a 13), .inl ((cA 13), 144, .inl (f 13))), ((a 14), .inl ((cA 14), 12, .inl (f 14))), ((a 15), .inl ((cA 15), 12, .inl (f 15))), ((a 16), .inl ((cA 16), 12, .inl (f 16))), ((a 17), .inl ((cA 17), 12, .inl (f 17))), ((a 18), .inl ((cA 18), 12, .inl (f 18))), ((a 19), .inl ((cA 19), 144, .inl (f 19)))] [((cA 2), .int), ((cA 11), .int), ((cA 12), .int), ((cA 13), .int), ((cA 14), .int), ((cA 15), .int), ((cA 16), .int), ((cA 17), .int), ((cA 18), .int), ((cA 19), .int)])) (va_Qi (fun r (_ : Unit) => r = 0) (fun _ _ => True) (fun _ => False)) 0 0 (fun _ => False) := by
  refine Met.ofW (cc := cX10_wish) (maxL := 3) (ret := (some .boolean)) (by decide) rfl ?_
  intro p e s m args below meth c s₁ B hml hv
  obtain ⟨rfl, hP, hK⟩ := hv
  have hx := B.exec
  have hb := B.bytes
  have hr := B.returns
  have hts := atoms_spec (ws := .code yX10_wish cX10_wish 3 (some .boolean) :: gw) B.pre
  have htg := gw_tl hts
  have hown : s.vm.findClass RX10 = some m.cls := findClass_of_methodNamed B.named
  have hlocks := B.notSynchronized
  have hS : va_S (fun _ => False) s.heap s.heap [] := va_S.rf
  have hl := lv_entry ([.ref (a 0), .int x, .int y]) (n := 3) (Nat.le_of_ble_eq_true rfl)
  rw [lg_entry_eq]
  generalize (lg_sl ([.ref (a 0), .int x, .int y]) ++ List.replicate (3 - (lg_sl ([.ref (a 0), .int x, .int y])).length) Slot.unset).toArray = ls at hl ⊢
  have hl : lv_has ls 3 [(0, .ref (a 0)), (1, .int x), (2, .int y)] := hl
  refine lv_aload_n hx hb dX10_wish_0 rfl (lv_at hl 0 rfl) ?_
  refine va_get (D := D) (ci := 10) (v := .ref (a 4)) (C := RX10) (T := TX10) (N := 17) hx hb htg in_X10 hown hK hP 0 rfl rfl 5 (by decide) (htg _ mw_13) (fun _ h9 => h9) rfl dX10_wish_1 ?_
  refine lv_iload_n hx hb dX10_wish_4 rfl (lv_at hl 1 rfl) ?_
  have hPc := hP.sub (ws' := [((a 4), .inr (4, [.int 0, .int 0, .ref (a 43), .ref (a 44), .ref (a 45), .ref (a 46), .ref (a 47), .ref (a 48), .ref (a 49), .ref (a 50), .ref (a 51)]))]) [4] rfl
  have hKc := hK.sub (tys' := []) [] rfl
  refine va_calli (va_runV (As := [.int x]) (rest := []) ⟨hx, hb, hml, hown, htg⟩ (c_X4_hasDesk l D (a 4) [.ref (a 43), .ref (a 44), .ref (a 45), .ref (a 46), .ref (a 47), .ref (a 48), .ref (a 49), .ref (a 50), .ref (a 51)] x) (cV 1 htg mw_40 kv_X4_hasDesk rfl rfl ⟨(Nat.le_of_ble_eq_true rfl), (Nat.le_of_ble_eq_true rfl)⟩) ⟨bl_r, va_recv hKc hPc (ci := 4) (q0 := 0) rfl rfl, us_r hPc hKc⟩ rfl rfl hl.1 rfl (lv_room (Nat.le_of_ble_eq_true rfl)) dX10_wish_5 ⟨(Nat.le_of_ble_eq_true rfl), (Nat.le_of_ble_eq_true rfl)⟩) hS (fun _ _ h9 => False.elim h9) (fun _ h9 => False.elim h9) (fun r_1 u t H locs ht hvm hw hB hz1 hk1 hS => ?_)
  have hP := ro_keep hP hk1
  subst hw
  refine lv_if_ne (tgt := 13) hx hb dX10_wish_8 (by decide) (fun h9 => False.elim (h9 (by decide))) (fun _ => ?_)
  refine lv_iconst (v := 0) hx hb dX10_wish_11 (by decide) ?_
  exact W.zret (v := 0) hx hb hr (by first | rfl | decide | exact ar_nb _) (fun t ht hW => ⟨⟨0, (), rfl, rfl, trivial⟩, hS.F ht⟩) hS.2.2 dX10_wish_12

set_option maxHeartbeats 4000000 in
set_option maxRecDepth 100000 in
theorem c_X10_done (l : Launch) (D : va_G) (a : Nat → Nat) (cA : Nat → ClassId) (f : Nat → Nat → Int32)  : Met l yX10_done (.code yX10_done cX10_done 1 (some .int) :: gw) ({ frames := 0, cells := 0, slots := 0, locals := 0 }) (va_Pc [.ref (a 0)] (pr D [((a 0), .inr (10, [.ref (a 1), .ref (a 3), .ref (a 40), .int 0, .int (-1), .ref (a 4), .ref (a 5), .ref (a 6), .ref (a 7), .ref (a 8), .ref (a 9), .ref (a 10), .null, .null, .int 0, .int (-1), .ref (a 41)])), ((a 1), .inr (6, [.ref (a 2), .int 0, .int 0])), ((a 2), .inl ((cA 2), 160, .inl (f 2))), ((a 3), .inr (3, [.ref (a 1), .ref (a 42), .int 0, .int 0])), ((a 4), .inr (4, [.int 0, .int 0, .ref (a 43), .ref (a 44), .ref (a 45), .ref (a 46), .ref (a 47), .ref (a 48), .ref (a 49), .ref (a 50), .ref (a 51)])), ((a 5), .inr (4, [.int 0, .int 0, .ref (a 11), .ref (a 12), .ref (a 13), .ref (a 14), .ref (a 15), .ref (a 16), .ref (a 17), .ref (a 18), .ref (a 19)])), ((a 6), .inr (5, [.ref (a 52), .int 0, .ref (a 53), .int 0, .int 0, .int 0])), ((a 7), .inr (5, [.ref (a 54), .int 0, .ref (a 55), .int 0, .int 0, .int 0])), ((a 8), .inr (1, [.ref (a 56), .int 0, .int 0, .ref (a 57), .int 0, .ref (a 58)])), ((a 9), .inr (7, [.ref (a 59), .ref (a 60), .ref (a 61)])), ((a 11), .inl ((cA 11), 12, .inl (f 11))), ((a 12), .inl ((cA 12), 12, .inl (f 12))), ((a 13), .inl ((cA 13), 144, .inl (f 13))), ((a 14), .inl ((cA 14), 12, .inl (f 14))), ((a 15), .inl ((cA 15), 12, .inl (f 15))), ((a 16), .inl ((cA 16), 12, .inl (f 16))), ((a 17), .inl ((cA 17), 12, .inl (f 17))), ((a 18), .inl ((cA 18), 12, .inl (f 18))), ((a 19), .inl ((cA 19), 144, .inl (f 19)))] [((cA 2), .int), ((cA 11), .int), ((cA 12), .int), ((cA 13), .int), ((cA 14), .int), ((cA 15), .int), ((cA 16), .int), ((cA 17), .int), ((cA 18), .int), ((cA 19), .int)])) (va_Qi (fun r (_ : Unit) => r = (-1)) (fun _ _ => True) (fun _ => False)) 0 0 (fun _ => False) := by
  refine Met.ofW (cc := cX10_done) (maxL := 1) (ret := (some .int)) (by decide) rfl ?_
  intro p e s m args below meth c s₁ B hml hv
  obtain ⟨rfl, hP, hK⟩ := hv
  have hx := B.exec
  have hb := B.bytes
  have hr := B.returns
  have hts := atoms_spec (ws := .code yX10_done cX10_done 1 (some .int) :: gw) B.pre
  have htg := gw_tl hts
  have hown : s.vm.findClass RX10 = some m.cls := findClass_of_methodNamed B.named
  have hlocks := B.notSynchronized
  have hS : va_S (fun _ => False) s.heap s.heap [] := va_S.rf
  have hl := lv_entry ([.ref (a 0)]) (n := 1) (Nat.le_of_ble_eq_true rfl)
  rw [lg_entry_eq]
  generalize (lg_sl ([.ref (a 0)]) ++ List.replicate (1 - (lg_sl ([.ref (a 0)])).length) Slot.unset).toArray = ls at hl ⊢
  have hl : lv_has ls 1 [(0, .ref (a 0))] := hl
  refine lv_aload_n hx hb dX10_done_0 rfl (lv_at hl 0 rfl) ?_
  refine va_get (D := D) (ci := 10) (v := .ref (a 4)) (C := RX10) (T := TX10) (N := 17) hx hb htg in_X10 hown hK hP 0 rfl rfl 5 (by decide) (htg _ mw_13) (fun _ h9 => h9) rfl dX10_done_1 ?_
  refine va_get (D := D) (ci := 4) (v := .int 0) (C := RX4) (T := TX4) (N := 11) hx hb htg in_X4 hown hK hP 4 rfl rfl 0 (by decide) (htg _ mw_14) (fun _ h9 => h9) rfl dX10_done_4 ?_
  refine lv_if_ne (tgt := 12) hx hb dX10_done_7 (by decide) (fun h9 => False.elim (h9 (by decide))) (fun _ => ?_)
  refine lv_iconst (v := (-1)) hx hb dX10_done_10 (by decide) ?_
  exact W.iret (v := (-1)) hx hb hr  (fun t ht hW => ⟨⟨(-1), (), rfl, rfl, trivial⟩, hS.F ht⟩) hS.2.2 dX10_done_11

set_option maxHeartbeats 4000000 in
set_option maxRecDepth 100000 in
theorem c_X10_fewest (l : Launch) (D : va_G) (a : Nat → Nat) (cA : Nat → ClassId) (f : Nat → Nat → Int32) (x : Int32) : Met l yX10_fewest (.code yX10_fewest cX10_fewest 4 (some .int) :: gw) ({ frames := 1, cells := 0, slots := 0, locals := 40 }) (va_Pc [.ref (a 0), .int x] (pr D [((a 0), .inr (10, [.ref (a 1), .ref (a 3), .ref (a 40), .int 0, .int (-1), .ref (a 4), .ref (a 5), .ref (a 6), .ref (a 7), .ref (a 8), .ref (a 9), .ref (a 10), .null, .null, .int 0, .int (-1), .ref (a 41)])), ((a 1), .inr (6, [.ref (a 2), .int 0, .int 0])), ((a 2), .inl ((cA 2), 160, .inl (f 2))), ((a 3), .inr (3, [.ref (a 1), .ref (a 42), .int 0, .int 0])), ((a 4), .inr (4, [.int 0, .int 0, .ref (a 43), .ref (a 44), .ref (a 45), .ref (a 46), .ref (a 47), .ref (a 48), .ref (a 49), .ref (a 50), .ref (a 51)])), ((a 5), .inr (4, [.int 0, .int 0, .ref (a 11), .ref (a 12), .ref (a 13), .ref (a 14), .ref (a 15), .ref (a 16), .ref (a 17), .ref (a 18), .ref (a 19)])), ((a 6), .inr (5, [.ref (a 52), .int 0, .ref (a 53), .int 0, .int 0, .int 0])), ((a 7), .inr (5, [.ref (a 54), .int 0, .ref (a 55), .int 0, .int 0, .int 0])), ((a 8), .inr (1, [.ref (a 56), .int 0, .int 0, .ref (a 57), .int 0, .ref (a 58)])), ((a 9), .inr (7, [.ref (a 59), .ref (a 60), .ref (a 61)])), ((a 11), .inl ((cA 11), 12, .inl (f 11))), ((a 12), .inl ((cA 12), 12, .inl (f 12))), ((a 13), .inl ((cA 13), 144, .inl (f 13))), ((a 14), .inl ((cA 14), 12, .inl (f 14))), ((a 15), .inl ((cA 15), 12, .inl (f 15))), ((a 16), .inl ((cA 16), 12, .inl (f 16))), ((a 17), .inl ((cA 17), 12, .inl (f 17))), ((a 18), .inl ((cA 18), 12, .inl (f 18))), ((a 19), .inl ((cA 19), 144, .inl (f 19)))] [((cA 2), .int), ((cA 11), .int), ((cA 12), .int), ((cA 13), .int), ((cA 14), .int), ((cA 15), .int), ((cA 16), .int), ((cA 17), .int), ((cA 18), .int), ((cA 19), .int)])) (va_Qi (fun r (_ : Unit) => r = (-1000000)) (fun _ _ => True) (fun _ => False)) 0 0 (fun _ => False) := by
  refine Met.ofW (cc := cX10_fewest) (maxL := 4) (ret := (some .int)) (by decide) rfl ?_
  intro p e s m args below meth c s₁ B hml hv
  obtain ⟨rfl, hP, hK⟩ := hv
  have hx := B.exec
  have hb := B.bytes
  have hr := B.returns
  have hts := atoms_spec (ws := .code yX10_fewest cX10_fewest 4 (some .int) :: gw) B.pre
  have htg := gw_tl hts
  have hown : s.vm.findClass RX10 = some m.cls := findClass_of_methodNamed B.named
  have hlocks := B.notSynchronized
  have hS : va_S (fun _ => False) s.heap s.heap [] := va_S.rf
  have hl := lv_entry ([.ref (a 0), .int x]) (n := 4) (Nat.le_of_ble_eq_true rfl)
  rw [lg_entry_eq]
  generalize (lg_sl ([.ref (a 0), .int x]) ++ List.replicate (4 - (lg_sl ([.ref (a 0), .int x])).length) Slot.unset).toArray = ls at hl ⊢
  have hl : lv_has ls 4 [(0, .ref (a 0)), (1, .int x)] := hl
  refine lv_aload_n hx hb dX10_fewest_0 rfl (lv_at hl 0 rfl) ?_
  have hPc := hP.sub (ws' := [((a 0), .inr (10, [.ref (a 1), .ref (a 3), .ref (a 40), .int 0, .int (-1), .ref (a 4), .ref (a 5), .ref (a 6), .ref (a 7), .ref (a 8), .ref (a 9), .ref (a 10), .null, .null, .int 0, .int (-1), .ref (a 41)])), ((a 1), .inr (6, [.ref (a 2), .int 0, .int 0])), ((a 2), .inl ((cA 2), 160, .inl (f 2))), ((a 3), .inr (3, [.ref (a 1), .ref (a 42), .int 0, .int 0])), ((a 4), .inr (4, [.int 0, .int 0, .ref (a 43), .ref (a 44), .ref (a 45), .ref (a 46), .ref (a 47), .ref (a 48), .ref (a 49), .ref (a 50), .ref (a 51)])), ((a 5), .inr (4, [.int 0, .int 0, .ref (a 11), .ref (a 12), .ref (a 13), .ref (a 14), .ref (a 15), .ref (a 16), .ref (a 17), .ref (a 18), .ref (a 19)])), ((a 6), .inr (5, [.ref (a 52), .int 0, .ref (a 53), .int 0, .int 0, .int 0])), ((a 7), .inr (5, [.ref (a 54), .int 0, .ref (a 55), .int 0, .int 0, .int 0])), ((a 8), .inr (1, [.ref (a 56), .int 0, .int 0, .ref (a 57), .int 0, .ref (a 58)])), ((a 9), .inr (7, [.ref (a 59), .ref (a 60), .ref (a 61)])), ((a 11), .inl ((cA 11), 12, .inl (f 11))), ((a 12), .inl ((cA 12), 12, .inl (f 12))), ((a 13), .inl ((cA 13), 144, .inl (f 13))), ((a 14), .inl ((cA 14), 12, .inl (f 14))), ((a 15), .inl ((cA 15), 12, .inl (f 15))), ((a 16), .inl ((cA 16), 12, .inl (f 16))), ((a 17), .inl ((cA 17), 12, .inl (f 17))), ((a 18), .inl ((cA 18), 12, .inl (f 18))), ((a 19), .inl ((cA 19), 144, .inl (f 19)))]) [0, 1, 2, 3, 4, 5, 6, 7, 8, 9, 10, 11, 12, 13, 14, 15, 16, 17, 18] rfl
  have hKc := hK.sub (tys' := [((cA 2), .int), ((cA 11), .int), ((cA 12), .int), ((cA 13), .int), ((cA 14), .int), ((cA 15), .int), ((cA 16), .int), ((cA 17), .int), ((cA 18), .int), ((cA 19), .int)]) [0, 1, 2, 3, 4, 5, 6, 7, 8, 9] rfl
  refine va_calli (va_runV (As := []) (rest := []) ⟨hx, hb, hml, hown, htg⟩ (c_X10_isSearched l D a cA f ) (cV 0 htg mw_44 kv_X10_isSearched rfl rfl ⟨(Nat.le_of_ble_eq_true rfl), (Nat.le_of_ble_eq_true rfl)⟩) ⟨bl_r, va_recv hKc hPc (ci := 10) (q0 := 0) rfl rfl, us_r hPc hKc⟩ rfl rfl hl.1 rfl (lv_room (Nat.le_of_ble_eq_true rfl)) dX10_fewest_1 ⟨(Nat.le_of_ble_eq_true rfl), (Nat.le_of_ble_eq_true rfl)⟩) hS (fun _ _ h9 => False.elim h9) (fun _ h9 => False.elim h9) (fun r_1 u t H locs ht hvm hw hB hz1 hk1 hS => ?_)
  have hP := ro_keep hP hk1
  subst hw
  refine lv_if_ne (tgt := 10) hx hb dX10_fewest_4 (by decide) (fun h9 => False.elim (h9 (by decide))) (fun _ => ?_)
  refine lv_ldc (v := (-1000000)) hx hb hown (htg _ mw_39) dX10_fewest_7 ?_
  exact W.iret (v := (-1000000)) hx hb hr  (fun t ht hW => ⟨⟨(-1000000), (), rfl, rfl, trivial⟩, hS.F ht⟩) hS.2.2 dX10_fewest_9

set_option maxHeartbeats 4000000 in
set_option maxRecDepth 100000 in
theorem c_X10_cheapest (l : Launch) (D : va_G) (a : Nat → Nat) (cA : Nat → ClassId) (f : Nat → Nat → Int32)  : Met l yX10_cheapest (.code yX10_cheapest cX10_cheapest 1 (some .int) :: gw) ({ frames := 1, cells := 0, slots := 0, locals := 40 }) (va_Pc [.ref (a 0)] (pr D [((a 0), .inr (10, [.ref (a 1), .ref (a 3), .ref (a 40), .int 0, .int (-1), .ref (a 4), .ref (a 5), .ref (a 6), .ref (a 7), .ref (a 8), .ref (a 9), .ref (a 10), .null, .null, .int 0, .int (-1), .ref (a 41)])), ((a 1), .inr (6, [.ref (a 2), .int 0, .int 0])), ((a 2), .inl ((cA 2), 160, .inl (f 2))), ((a 3), .inr (3, [.ref (a 1), .ref (a 42), .int 0, .int 0])), ((a 4), .inr (4, [.int 0, .int 0, .ref (a 43), .ref (a 44), .ref (a 45), .ref (a 46), .ref (a 47), .ref (a 48), .ref (a 49), .ref (a 50), .ref (a 51)])), ((a 5), .inr (4, [.int 0, .int 0, .ref (a 11), .ref (a 12), .ref (a 13), .ref (a 14), .ref (a 15), .ref (a 16), .ref (a 17), .ref (a 18), .ref (a 19)])), ((a 6), .inr (5, [.ref (a 52), .int 0, .ref (a 53), .int 0, .int 0, .int 0])), ((a 7), .inr (5, [.ref (a 54), .int 0, .ref (a 55), .int 0, .int 0, .int 0])), ((a 8), .inr (1, [.ref (a 56), .int 0, .int 0, .ref (a 57), .int 0, .ref (a 58)])), ((a 9), .inr (7, [.ref (a 59), .ref (a 60), .ref (a 61)])), ((a 11), .inl ((cA 11), 12, .inl (f 11))), ((a 12), .inl ((cA 12), 12, .inl (f 12))), ((a 13), .inl ((cA 13), 144, .inl (f 13))), ((a 14), .inl ((cA 14), 12, .inl (f 14))), ((a 15), .inl ((cA 15), 12, .inl (f 15))), ((a 16), .inl ((cA 16), 12, .inl (f 16))), ((a 17), .inl ((cA 17), 12, .inl (f 17))), ((a 18), .inl ((cA 18), 12, .inl (f 18))), ((a 19), .inl ((cA 19), 144, .inl (f 19)))] [((cA 2), .int), ((cA 11), .int), ((cA 12), .int), ((cA 13), .int), ((cA 14), .int), ((cA 15), .int), ((cA 16), .int), ((cA 17), .int), ((cA 18), .int), ((cA 19), .int)])) (va_Qi (fun r (_ : Unit) => r = (-1000000)) (fun _ _ => True) (fun _ => False)) 0 0 (fun _ => False) := by
  refine Met.ofW (cc := cX10_cheapest) (maxL := 1) (ret := (some .int)) (by decide) rfl ?_
  intro p e s m args below meth c s₁ B hml hv
  obtain ⟨rfl, hP, hK⟩ := hv
  have hx := B.exec
  have hb := B.bytes
  have hr := B.returns
  have hts := atoms_spec (ws := .code yX10_cheapest cX10_cheapest 1 (some .int) :: gw) B.pre
  have htg := gw_tl hts
  have hown : s.vm.findClass RX10 = some m.cls := findClass_of_methodNamed B.named
  have hlocks := B.notSynchronized
  have hS : va_S (fun _ => False) s.heap s.heap [] := va_S.rf
  have hl := lv_entry ([.ref (a 0)]) (n := 1) (Nat.le_of_ble_eq_true rfl)
  rw [lg_entry_eq]
  generalize (lg_sl ([.ref (a 0)]) ++ List.replicate (1 - (lg_sl ([.ref (a 0)])).length) Slot.unset).toArray = ls at hl ⊢
  have hl : lv_has ls 1 [(0, .ref (a 0))] := hl
  refine lv_aload_n hx hb dX10_cheapest_0 rfl (lv_at hl 0 rfl) ?_
  have hPc := hP.sub (ws' := [((a 0), .inr (10, [.ref (a 1), .ref (a 3), .ref (a 40), .int 0, .int (-1), .ref (a 4), .ref (a 5), .ref (a 6), .ref (a 7), .ref (a 8), .ref (a 9), .ref (a 10), .null, .null, .int 0, .int (-1), .ref (a 41)])), ((a 1), .inr (6, [.ref (a 2), .int 0, .int 0])), ((a 2), .inl ((cA 2), 160, .inl (f 2))), ((a 3), .inr (3, [.ref (a 1), .ref (a 42), .int 0, .int 0])), ((a 4), .inr (4, [.int 0, .int 0, .ref (a 43), .ref (a 44), .ref (a 45), .ref (a 46), .ref (a 47), .ref (a 48), .ref (a 49), .ref (a 50), .ref (a 51)])), ((a 5), .inr (4, [.int 0, .int 0, .ref (a 11), .ref (a 12), .ref (a 13), .ref (a 14), .ref (a 15), .ref (a 16), .ref (a 17), .ref (a 18), .ref (a 19)])), ((a 6), .inr (5, [.ref (a 52), .int 0, .ref (a 53), .int 0, .int 0, .int 0])), ((a 7), .inr (5, [.ref (a 54), .int 0, .ref (a 55), .int 0, .int 0, .int 0])), ((a 8), .inr (1, [.ref (a 56), .int 0, .int 0, .ref (a 57), .int 0, .ref (a 58)])), ((a 9), .inr (7, [.ref (a 59), .ref (a 60), .ref (a 61)])), ((a 11), .inl ((cA 11), 12, .inl (f 11))), ((a 12), .inl ((cA 12), 12, .inl (f 12))), ((a 13), .inl ((cA 13), 144, .inl (f 13))), ((a 14), .inl ((cA 14), 12, .inl (f 14))), ((a 15), .inl ((cA 15), 12, .inl (f 15))), ((a 16), .inl ((cA 16), 12, .inl (f 16))), ((a 17), .inl ((cA 17), 12, .inl (f 17))), ((a 18), .inl ((cA 18), 12, .inl (f 18))), ((a 19), .inl ((cA 19), 144, .inl (f 19)))]) [0, 1, 2, 3, 4, 5, 6, 7, 8, 9, 10, 11, 12, 13, 14, 15, 16, 17, 18] rfl
  have hKc := hK.sub (tys' := [((cA 2), .int), ((cA 11), .int), ((cA 12), .int), ((cA 13), .int), ((cA 14), .int), ((cA 15), .int), ((cA 16), .int), ((cA 17), .int), ((cA 18), .int), ((cA 19), .int)]) [0, 1, 2, 3, 4, 5, 6, 7, 8, 9] rfl
  refine va_calli (va_runV (As := []) (rest := []) ⟨hx, hb, hml, hown, htg⟩ (c_X10_isSearched l D a cA f ) (cV 0 htg mw_44 kv_X10_isSearched rfl rfl ⟨(Nat.le_of_ble_eq_true rfl), (Nat.le_of_ble_eq_true rfl)⟩) ⟨bl_r, va_recv hKc hPc (ci := 10) (q0 := 0) rfl rfl, us_r hPc hKc⟩ rfl rfl hl.1 rfl (lv_room (Nat.le_of_ble_eq_true rfl)) dX10_cheapest_1 ⟨(Nat.le_of_ble_eq_true rfl), (Nat.le_of_ble_eq_true rfl)⟩) hS (fun _ _ h9 => False.elim h9) (fun _ h9 => False.elim h9) (fun r_1 u t H locs ht hvm hw hB hz1 hk1 hS => ?_)
  have hP := ro_keep hP hk1
  subst hw
  refine lv_if_eq (tgt := 23) hx hb dX10_cheapest_4 (by decide) (fun _ => ?_) (fun h9 => False.elim (h9 (by decide)))
  refine lv_ldc (v := (-1000000)) hx hb hown (htg _ mw_39) dX10_cheapest_23 ?_
  exact W.iret (v := (-1000000)) hx hb hr  (fun t ht hW => ⟨⟨(-1000000), (), rfl, rfl, trivial⟩, hS.F ht⟩) hS.2.2 dX10_cheapest_25

set_option maxHeartbeats 4000000 in
set_option maxRecDepth 100000 in
theorem c_X10_all (l : Launch) (D : va_G) (a : Nat → Nat) (cA : Nat → ClassId) (f : Nat → Nat → Int32) (x : Int32) : Met l yX10_all (.code yX10_all cX10_all 3 (some .int) :: gw) ({ frames := 1, cells := 0, slots := 0, locals := 40 }) (va_Pc [.ref (a 0), .int x] (pr D [((a 0), .inr (10, [.ref (a 1), .ref (a 3), .ref (a 40), .int 0, .int (-1), .ref (a 4), .ref (a 5), .ref (a 6), .ref (a 7), .ref (a 8), .ref (a 9), .ref (a 10), .null, .null, .int 0, .int (-1), .ref (a 41)])), ((a 1), .inr (6, [.ref (a 2), .int 0, .int 0])), ((a 2), .inl ((cA 2), 160, .inl (f 2))), ((a 3), .inr (3, [.ref (a 1), .ref (a 42), .int 0, .int 0])), ((a 4), .inr (4, [.int 0, .int 0, .ref (a 43), .ref (a 44), .ref (a 45), .ref (a 46), .ref (a 47), .ref (a 48), .ref (a 49), .ref (a 50), .ref (a 51)])), ((a 5), .inr (4, [.int 0, .int 0, .ref (a 11), .ref (a 12), .ref (a 13), .ref (a 14), .ref (a 15), .ref (a 16), .ref (a 17), .ref (a 18), .ref (a 19)])), ((a 6), .inr (5, [.ref (a 52), .int 0, .ref (a 53), .int 0, .int 0, .int 0])), ((a 7), .inr (5, [.ref (a 54), .int 0, .ref (a 55), .int 0, .int 0, .int 0])), ((a 8), .inr (1, [.ref (a 56), .int 0, .int 0, .ref (a 57), .int 0, .ref (a 58)])), ((a 9), .inr (7, [.ref (a 59), .ref (a 60), .ref (a 61)])), ((a 11), .inl ((cA 11), 12, .inl (f 11))), ((a 12), .inl ((cA 12), 12, .inl (f 12))), ((a 13), .inl ((cA 13), 144, .inl (f 13))), ((a 14), .inl ((cA 14), 12, .inl (f 14))), ((a 15), .inl ((cA 15), 12, .inl (f 15))), ((a 16), .inl ((cA 16), 12, .inl (f 16))), ((a 17), .inl ((cA 17), 12, .inl (f 17))), ((a 18), .inl ((cA 18), 12, .inl (f 18))), ((a 19), .inl ((cA 19), 144, .inl (f 19)))] [((cA 2), .int), ((cA 11), .int), ((cA 12), .int), ((cA 13), .int), ((cA 14), .int), ((cA 15), .int), ((cA 16), .int), ((cA 17), .int), ((cA 18), .int), ((cA 19), .int)])) (va_Qi (fun r (_ : Unit) => r = (-1000000)) (fun _ _ => True) (fun _ => False)) 0 0 (fun _ => False) := by
  refine Met.ofW (cc := cX10_all) (maxL := 3) (ret := (some .int)) (by decide) rfl ?_
  intro p e s m args below meth c s₁ B hml hv
  obtain ⟨rfl, hP, hK⟩ := hv
  have hx := B.exec
  have hb := B.bytes
  have hr := B.returns
  have hts := atoms_spec (ws := .code yX10_all cX10_all 3 (some .int) :: gw) B.pre
  have htg := gw_tl hts
  have hown : s.vm.findClass RX10 = some m.cls := findClass_of_methodNamed B.named
  have hlocks := B.notSynchronized
  have hS : va_S (fun _ => False) s.heap s.heap [] := va_S.rf
  have hl := lv_entry ([.ref (a 0), .int x]) (n := 3) (Nat.le_of_ble_eq_true rfl)
  rw [lg_entry_eq]
  generalize (lg_sl ([.ref (a 0), .int x]) ++ List.replicate (3 - (lg_sl ([.ref (a 0), .int x])).length) Slot.unset).toArray = ls at hl ⊢
  have hl : lv_has ls 3 [(0, .ref (a 0)), (1, .int x)] := hl
  refine lv_aload_n hx hb dX10_all_0 rfl (lv_at hl 0 rfl) ?_
  have hPc := hP.sub (ws' := [((a 0), .inr (10, [.ref (a 1), .ref (a 3), .ref (a 40), .int 0, .int (-1), .ref (a 4), .ref (a 5), .ref (a 6), .ref (a 7), .ref (a 8), .ref (a 9), .ref (a 10), .null, .null, .int 0, .int (-1), .ref (a 41)])), ((a 1), .inr (6, [.ref (a 2), .int 0, .int 0])), ((a 2), .inl ((cA 2), 160, .inl (f 2))), ((a 3), .inr (3, [.ref (a 1), .ref (a 42), .int 0, .int 0])), ((a 4), .inr (4, [.int 0, .int 0, .ref (a 43), .ref (a 44), .ref (a 45), .ref (a 46), .ref (a 47), .ref (a 48), .ref (a 49), .ref (a 50), .ref (a 51)])), ((a 5), .inr (4, [.int 0, .int 0, .ref (a 11), .ref (a 12), .ref (a 13), .ref (a 14), .ref (a 15), .ref (a 16), .ref (a 17), .ref (a 18), .ref (a 19)])), ((a 6), .inr (5, [.ref (a 52), .int 0, .ref (a 53), .int 0, .int 0, .int 0])), ((a 7), .inr (5, [.ref (a 54), .int 0, .ref (a 55), .int 0, .int 0, .int 0])), ((a 8), .inr (1, [.ref (a 56), .int 0, .int 0, .ref (a 57), .int 0, .ref (a 58)])), ((a 9), .inr (7, [.ref (a 59), .ref (a 60), .ref (a 61)])), ((a 11), .inl ((cA 11), 12, .inl (f 11))), ((a 12), .inl ((cA 12), 12, .inl (f 12))), ((a 13), .inl ((cA 13), 144, .inl (f 13))), ((a 14), .inl ((cA 14), 12, .inl (f 14))), ((a 15), .inl ((cA 15), 12, .inl (f 15))), ((a 16), .inl ((cA 16), 12, .inl (f 16))), ((a 17), .inl ((cA 17), 12, .inl (f 17))), ((a 18), .inl ((cA 18), 12, .inl (f 18))), ((a 19), .inl ((cA 19), 144, .inl (f 19)))]) [0, 1, 2, 3, 4, 5, 6, 7, 8, 9, 10, 11, 12, 13, 14, 15, 16, 17, 18] rfl
  have hKc := hK.sub (tys' := [((cA 2), .int), ((cA 11), .int), ((cA 12), .int), ((cA 13), .int), ((cA 14), .int), ((cA 15), .int), ((cA 16), .int), ((cA 17), .int), ((cA 18), .int), ((cA 19), .int)]) [0, 1, 2, 3, 4, 5, 6, 7, 8, 9] rfl
  refine va_calli (va_runV (As := []) (rest := []) ⟨hx, hb, hml, hown, htg⟩ (c_X10_isSearched l D a cA f ) (cV 0 htg mw_44 kv_X10_isSearched rfl rfl ⟨(Nat.le_of_ble_eq_true rfl), (Nat.le_of_ble_eq_true rfl)⟩) ⟨bl_r, va_recv hKc hPc (ci := 10) (q0 := 0) rfl rfl, us_r hPc hKc⟩ rfl rfl hl.1 rfl (lv_room (Nat.le_of_ble_eq_true rfl)) dX10_all_1 ⟨(Nat.le_of_ble_eq_true rfl), (Nat.le_of_ble_eq_true rfl)⟩) hS (fun _ _ h9 => False.elim h9) (fun _ h9 => False.elim h9) (fun r_1 u t H locs ht hvm hw hB hz1 hk1 hS => ?_)
  have hP := ro_keep hP hk1
  subst hw
  refine lv_if_eq (tgt := 16) hx hb dX10_all_4 (by decide) (fun _ => ?_) (fun h9 => False.elim (h9 (by decide)))
  refine lv_ldc (v := (-1000000)) hx hb hown (htg _ mw_39) dX10_all_16 ?_
  exact W.iret (v := (-1000000)) hx hb hr  (fun t ht hW => ⟨⟨(-1000000), (), rfl, rfl, trivial⟩, hS.F ht⟩) hS.2.2 dX10_all_18

set_option maxHeartbeats 4000000 in
set_option maxRecDepth 100000 in
theorem c_X10_count (l : Launch) (D : va_G) (a : Nat → Nat) (cA : Nat → ClassId) (f : Nat → Nat → Int32) (x : Int32) : Met l yX10_count (.code yX10_count cX10_count 2 (some .int) :: gw) ({ frames := 1, cells := 0, slots := 0, locals := 40 }) (va_Pc [.ref (a 0), .int x] (pr D [((a 0), .inr (10, [.ref (a 1), .ref (a 3), .ref (a 40), .int 0, .int (-1), .ref (a 4), .ref (a 5), .ref (a 6), .ref (a 7), .ref (a 8), .ref (a 9), .ref (a 10), .null, .null, .int 0, .int (-1), .ref (a 41)])), ((a 1), .inr (6, [.ref (a 2), .int 0, .int 0])), ((a 2), .inl ((cA 2), 160, .inl (f 2))), ((a 3), .inr (3, [.ref (a 1), .ref (a 42), .int 0, .int 0])), ((a 4), .inr (4, [.int 0, .int 0, .ref (a 43), .ref (a 44), .ref (a 45), .ref (a 46), .ref (a 47), .ref (a 48), .ref (a 49), .ref (a 50), .ref (a 51)])), ((a 5), .inr (4, [.int 0, .int 0, .ref (a 11), .ref (a 12), .ref (a 13), .ref (a 14), .ref (a 15), .ref (a 16), .ref (a 17), .ref (a 18), .ref (a 19)])), ((a 6), .inr (5, [.ref (a 52), .int 0, .ref (a 53), .int 0, .int 0, .int 0])), ((a 7), .inr (5, [.ref (a 54), .int 0, .ref (a 55), .int 0, .int 0, .int 0])), ((a 8), .inr (1, [.ref (a 56), .int 0, .int 0, .ref (a 57), .int 0, .ref (a 58)])), ((a 9), .inr (7, [.ref (a 59), .ref (a 60), .ref (a 61)])), ((a 11), .inl ((cA 11), 12, .inl (f 11))), ((a 12), .inl ((cA 12), 12, .inl (f 12))), ((a 13), .inl ((cA 13), 144, .inl (f 13))), ((a 14), .inl ((cA 14), 12, .inl (f 14))), ((a 15), .inl ((cA 15), 12, .inl (f 15))), ((a 16), .inl ((cA 16), 12, .inl (f 16))), ((a 17), .inl ((cA 17), 12, .inl (f 17))), ((a 18), .inl ((cA 18), 12, .inl (f 18))), ((a 19), .inl ((cA 19), 144, .inl (f 19)))] [((cA 2), .int), ((cA 11), .int), ((cA 12), .int), ((cA 13), .int), ((cA 14), .int), ((cA 15), .int), ((cA 16), .int), ((cA 17), .int), ((cA 18), .int), ((cA 19), .int)])) (va_Qi (fun r (_ : Unit) => r = (-1000000)) (fun _ _ => True) (fun _ => False)) 0 0 (fun _ => False) := by
  refine Met.ofW (cc := cX10_count) (maxL := 2) (ret := (some .int)) (by decide) rfl ?_
  intro p e s m args below meth c s₁ B hml hv
  obtain ⟨rfl, hP, hK⟩ := hv
  have hx := B.exec
  have hb := B.bytes
  have hr := B.returns
  have hts := atoms_spec (ws := .code yX10_count cX10_count 2 (some .int) :: gw) B.pre
  have htg := gw_tl hts
  have hown : s.vm.findClass RX10 = some m.cls := findClass_of_methodNamed B.named
  have hlocks := B.notSynchronized
  have hS : va_S (fun _ => False) s.heap s.heap [] := va_S.rf
  have hl := lv_entry ([.ref (a 0), .int x]) (n := 2) (Nat.le_of_ble_eq_true rfl)
  rw [lg_entry_eq]
  generalize (lg_sl ([.ref (a 0), .int x]) ++ List.replicate (2 - (lg_sl ([.ref (a 0), .int x])).length) Slot.unset).toArray = ls at hl ⊢
  have hl : lv_has ls 2 [(0, .ref (a 0)), (1, .int x)] := hl
  refine lv_aload_n hx hb dX10_count_0 rfl (lv_at hl 0 rfl) ?_
  have hPc := hP.sub (ws' := [((a 0), .inr (10, [.ref (a 1), .ref (a 3), .ref (a 40), .int 0, .int (-1), .ref (a 4), .ref (a 5), .ref (a 6), .ref (a 7), .ref (a 8), .ref (a 9), .ref (a 10), .null, .null, .int 0, .int (-1), .ref (a 41)])), ((a 1), .inr (6, [.ref (a 2), .int 0, .int 0])), ((a 2), .inl ((cA 2), 160, .inl (f 2))), ((a 3), .inr (3, [.ref (a 1), .ref (a 42), .int 0, .int 0])), ((a 4), .inr (4, [.int 0, .int 0, .ref (a 43), .ref (a 44), .ref (a 45), .ref (a 46), .ref (a 47), .ref (a 48), .ref (a 49), .ref (a 50), .ref (a 51)])), ((a 5), .inr (4, [.int 0, .int 0, .ref (a 11), .ref (a 12), .ref (a 13), .ref (a 14), .ref (a 15), .ref (a 16), .ref (a 17), .ref (a 18), .ref (a 19)])), ((a 6), .inr (5, [.ref (a 52), .int 0, .ref (a 53), .int 0, .int 0, .int 0])), ((a 7), .inr (5, [.ref (a 54), .int 0, .ref (a 55), .int 0, .int 0, .int 0])), ((a 8), .inr (1, [.ref (a 56), .int 0, .int 0, .ref (a 57), .int 0, .ref (a 58)])), ((a 9), .inr (7, [.ref (a 59), .ref (a 60), .ref (a 61)])), ((a 11), .inl ((cA 11), 12, .inl (f 11))), ((a 12), .inl ((cA 12), 12, .inl (f 12))), ((a 13), .inl ((cA 13), 144, .inl (f 13))), ((a 14), .inl ((cA 14), 12, .inl (f 14))), ((a 15), .inl ((cA 15), 12, .inl (f 15))), ((a 16), .inl ((cA 16), 12, .inl (f 16))), ((a 17), .inl ((cA 17), 12, .inl (f 17))), ((a 18), .inl ((cA 18), 12, .inl (f 18))), ((a 19), .inl ((cA 19), 144, .inl (f 19)))]) [0, 1, 2, 3, 4, 5, 6, 7, 8, 9, 10, 11, 12, 13, 14, 15, 16, 17, 18] rfl
  have hKc := hK.sub (tys' := [((cA 2), .int), ((cA 11), .int), ((cA 12), .int), ((cA 13), .int), ((cA 14), .int), ((cA 15), .int), ((cA 16), .int), ((cA 17), .int), ((cA 18), .int), ((cA 19), .int)]) [0, 1, 2, 3, 4, 5, 6, 7, 8, 9] rfl
  refine va_calli (va_runV (As := []) (rest := []) ⟨hx, hb, hml, hown, htg⟩ (c_X10_isSearched l D a cA f ) (cV 0 htg mw_44 kv_X10_isSearched rfl rfl ⟨(Nat.le_of_ble_eq_true rfl), (Nat.le_of_ble_eq_true rfl)⟩) ⟨bl_r, va_recv hKc hPc (ci := 10) (q0 := 0) rfl rfl, us_r hPc hKc⟩ rfl rfl hl.1 rfl (lv_room (Nat.le_of_ble_eq_true rfl)) dX10_count_1 ⟨(Nat.le_of_ble_eq_true rfl), (Nat.le_of_ble_eq_true rfl)⟩) hS (fun _ _ h9 => False.elim h9) (fun _ h9 => False.elim h9) (fun r_1 u t H locs ht hvm hw hB hz1 hk1 hS => ?_)
  have hP := ro_keep hP hk1
  subst hw
  refine lv_if_eq (tgt := 17) hx hb dX10_count_4 (by decide) (fun _ => ?_) (fun h9 => False.elim (h9 (by decide)))
  refine lv_ldc (v := (-1000000)) hx hb hown (htg _ mw_39) dX10_count_17 ?_
  exact W.iret (v := (-1000000)) hx hb hr  (fun t ht hW => ⟨⟨(-1000000), (), rfl, rfl, trivial⟩, hS.F ht⟩) hS.2.2 dX10_count_19

set_option maxHeartbeats 4000000 in
set_option maxRecDepth 100000 in
theorem c_X10_ill (l : Launch) (D : va_G) (a : Nat → Nat) (cA : Nat → ClassId) (f : Nat → Nat → Int32) (x : Int32) : Met l yX10_ill (.code yX10_ill cX10_ill 2 (some .int) :: gw) ({ frames := 1, cells := 0, slots := 0, locals := 40 }) (va_Pc [.ref (a 0), .int x] (pr D [((a 0), .inr (10, [.ref (a 1), .ref (a 3), .ref (a 40), .int 0, .int (-1), .ref (a 4), .ref (a 5), .ref (a 6), .ref (a 7), .ref (a 8), .ref (a 9), .ref (a 10), .null, .null, .int 0, .int (-1), .ref (a 41)])), ((a 1), .inr (6, [.ref (a 2), .int 0, .int 0])), ((a 2), .inl ((cA 2), 160, .inl (f 2))), ((a 3), .inr (3, [.ref (a 1), .ref (a 42), .int 0, .int 0])), ((a 4), .inr (4, [.int 0, .int 0, .ref (a 43), .ref (a 44), .ref (a 45), .ref (a 46), .ref (a 47), .ref (a 48), .ref (a 49), .ref (a 50), .ref (a 51)])), ((a 5), .inr (4, [.int 0, .int 0, .ref (a 11), .ref (a 12), .ref (a 13), .ref (a 14), .ref (a 15), .ref (a 16), .ref (a 17), .ref (a 18), .ref (a 19)])), ((a 6), .inr (5, [.ref (a 52), .int 0, .ref (a 53), .int 0, .int 0, .int 0])), ((a 7), .inr (5, [.ref (a 54), .int 0, .ref (a 55), .int 0, .int 0, .int 0])), ((a 8), .inr (1, [.ref (a 56), .int 0, .int 0, .ref (a 57), .int 0, .ref (a 58)])), ((a 9), .inr (7, [.ref (a 59), .ref (a 60), .ref (a 61)])), ((a 11), .inl ((cA 11), 12, .inl (f 11))), ((a 12), .inl ((cA 12), 12, .inl (f 12))), ((a 13), .inl ((cA 13), 144, .inl (f 13))), ((a 14), .inl ((cA 14), 12, .inl (f 14))), ((a 15), .inl ((cA 15), 12, .inl (f 15))), ((a 16), .inl ((cA 16), 12, .inl (f 16))), ((a 17), .inl ((cA 17), 12, .inl (f 17))), ((a 18), .inl ((cA 18), 12, .inl (f 18))), ((a 19), .inl ((cA 19), 144, .inl (f 19)))] [((cA 2), .int), ((cA 11), .int), ((cA 12), .int), ((cA 13), .int), ((cA 14), .int), ((cA 15), .int), ((cA 16), .int), ((cA 17), .int), ((cA 18), .int), ((cA 19), .int)])) (va_Qi (fun r (_ : Unit) => r = (-1000000)) (fun _ _ => True) (fun _ => False)) 0 0 (fun _ => False) := by
  refine Met.ofW (cc := cX10_ill) (maxL := 2) (ret := (some .int)) (by decide) rfl ?_
  intro p e s m args below meth c s₁ B hml hv
  obtain ⟨rfl, hP, hK⟩ := hv
  have hx := B.exec
  have hb := B.bytes
  have hr := B.returns
  have hts := atoms_spec (ws := .code yX10_ill cX10_ill 2 (some .int) :: gw) B.pre
  have htg := gw_tl hts
  have hown : s.vm.findClass RX10 = some m.cls := findClass_of_methodNamed B.named
  have hlocks := B.notSynchronized
  have hS : va_S (fun _ => False) s.heap s.heap [] := va_S.rf
  have hl := lv_entry ([.ref (a 0), .int x]) (n := 2) (Nat.le_of_ble_eq_true rfl)
  rw [lg_entry_eq]
  generalize (lg_sl ([.ref (a 0), .int x]) ++ List.replicate (2 - (lg_sl ([.ref (a 0), .int x])).length) Slot.unset).toArray = ls at hl ⊢
  have hl : lv_has ls 2 [(0, .ref (a 0)), (1, .int x)] := hl
  refine lv_aload_n hx hb dX10_ill_0 rfl (lv_at hl 0 rfl) ?_
  have hPc := hP.sub (ws' := [((a 0), .inr (10, [.ref (a 1), .ref (a 3), .ref (a 40), .int 0, .int (-1), .ref (a 4), .ref (a 5), .ref (a 6), .ref (a 7), .ref (a 8), .ref (a 9), .ref (a 10), .null, .null, .int 0, .int (-1), .ref (a 41)])), ((a 1), .inr (6, [.ref (a 2), .int 0, .int 0])), ((a 2), .inl ((cA 2), 160, .inl (f 2))), ((a 3), .inr (3, [.ref (a 1), .ref (a 42), .int 0, .int 0])), ((a 4), .inr (4, [.int 0, .int 0, .ref (a 43), .ref (a 44), .ref (a 45), .ref (a 46), .ref (a 47), .ref (a 48), .ref (a 49), .ref (a 50), .ref (a 51)])), ((a 5), .inr (4, [.int 0, .int 0, .ref (a 11), .ref (a 12), .ref (a 13), .ref (a 14), .ref (a 15), .ref (a 16), .ref (a 17), .ref (a 18), .ref (a 19)])), ((a 6), .inr (5, [.ref (a 52), .int 0, .ref (a 53), .int 0, .int 0, .int 0])), ((a 7), .inr (5, [.ref (a 54), .int 0, .ref (a 55), .int 0, .int 0, .int 0])), ((a 8), .inr (1, [.ref (a 56), .int 0, .int 0, .ref (a 57), .int 0, .ref (a 58)])), ((a 9), .inr (7, [.ref (a 59), .ref (a 60), .ref (a 61)])), ((a 11), .inl ((cA 11), 12, .inl (f 11))), ((a 12), .inl ((cA 12), 12, .inl (f 12))), ((a 13), .inl ((cA 13), 144, .inl (f 13))), ((a 14), .inl ((cA 14), 12, .inl (f 14))), ((a 15), .inl ((cA 15), 12, .inl (f 15))), ((a 16), .inl ((cA 16), 12, .inl (f 16))), ((a 17), .inl ((cA 17), 12, .inl (f 17))), ((a 18), .inl ((cA 18), 12, .inl (f 18))), ((a 19), .inl ((cA 19), 144, .inl (f 19)))]) [0, 1, 2, 3, 4, 5, 6, 7, 8, 9, 10, 11, 12, 13, 14, 15, 16, 17, 18] rfl
  have hKc := hK.sub (tys' := [((cA 2), .int), ((cA 11), .int), ((cA 12), .int), ((cA 13), .int), ((cA 14), .int), ((cA 15), .int), ((cA 16), .int), ((cA 17), .int), ((cA 18), .int), ((cA 19), .int)]) [0, 1, 2, 3, 4, 5, 6, 7, 8, 9] rfl
  refine va_calli (va_runV (As := []) (rest := []) ⟨hx, hb, hml, hown, htg⟩ (c_X10_isSearched l D a cA f ) (cV 0 htg mw_44 kv_X10_isSearched rfl rfl ⟨(Nat.le_of_ble_eq_true rfl), (Nat.le_of_ble_eq_true rfl)⟩) ⟨bl_r, va_recv hKc hPc (ci := 10) (q0 := 0) rfl rfl, us_r hPc hKc⟩ rfl rfl hl.1 rfl (lv_room (Nat.le_of_ble_eq_true rfl)) dX10_ill_1 ⟨(Nat.le_of_ble_eq_true rfl), (Nat.le_of_ble_eq_true rfl)⟩) hS (fun _ _ h9 => False.elim h9) (fun _ h9 => False.elim h9) (fun r_1 u t H locs ht hvm hw hB hz1 hk1 hS => ?_)
  have hP := ro_keep hP hk1
  subst hw
  refine lv_if_eq (tgt := 18) hx hb dX10_ill_4 (by decide) (fun _ => ?_) (fun h9 => False.elim (h9 (by decide)))
  refine lv_ldc (v := (-1000000)) hx hb hown (htg _ mw_39) dX10_ill_18 ?_
  exact W.iret (v := (-1000000)) hx hb hr  (fun t ht hW => ⟨⟨(-1000000), (), rfl, rfl, trivial⟩, hS.F ht⟩) hS.2.2 dX10_ill_20

set_option maxHeartbeats 4000000 in
set_option maxRecDepth 100000 in
theorem c_X10_holds (l : Launch) (D : va_G) (a : Nat → Nat) (cA : Nat → ClassId) (f : Nat → Nat → Int32)  : Met l yX10_holds (.code yX10_holds cX10_holds 5 (some .int) :: gw) ({ frames := 1, cells := 0, slots := 0, locals := 40 }) (va_Pc [.ref (a 0)] (pr D [((a 0), .inr (10, [.ref (a 1), .ref (a 3), .ref (a 40), .int 0, .int (-1), .ref (a 4), .ref (a 5), .ref (a 6), .ref (a 7), .ref (a 8), .ref (a 9), .ref (a 10), .null, .null, .int 0, .int (-1), .ref (a 41)])), ((a 1), .inr (6, [.ref (a 2), .int 0, .int 0])), ((a 2), .inl ((cA 2), 160, .inl (f 2))), ((a 3), .inr (3, [.ref (a 1), .ref (a 42), .int 0, .int 0])), ((a 4), .inr (4, [.int 0, .int 0, .ref (a 43), .ref (a 44), .ref (a 45), .ref (a 46), .ref (a 47), .ref (a 48), .ref (a 49), .ref (a 50), .ref (a 51)])), ((a 5), .inr (4, [.int 0, .int 0, .ref (a 11), .ref (a 12), .ref (a 13), .ref (a 14), .ref (a 15), .ref (a 16), .ref (a 17), .ref (a 18), .ref (a 19)])), ((a 6), .inr (5, [.ref (a 52), .int 0, .ref (a 53), .int 0, .int 0, .int 0])), ((a 7), .inr (5, [.ref (a 54), .int 0, .ref (a 55), .int 0, .int 0, .int 0])), ((a 8), .inr (1, [.ref (a 56), .int 0, .int 0, .ref (a 57), .int 0, .ref (a 58)])), ((a 9), .inr (7, [.ref (a 59), .ref (a 60), .ref (a 61)])), ((a 11), .inl ((cA 11), 12, .inl (f 11))), ((a 12), .inl ((cA 12), 12, .inl (f 12))), ((a 13), .inl ((cA 13), 144, .inl (f 13))), ((a 14), .inl ((cA 14), 12, .inl (f 14))), ((a 15), .inl ((cA 15), 12, .inl (f 15))), ((a 16), .inl ((cA 16), 12, .inl (f 16))), ((a 17), .inl ((cA 17), 12, .inl (f 17))), ((a 18), .inl ((cA 18), 12, .inl (f 18))), ((a 19), .inl ((cA 19), 144, .inl (f 19)))] [((cA 2), .int), ((cA 11), .int), ((cA 12), .int), ((cA 13), .int), ((cA 14), .int), ((cA 15), .int), ((cA 16), .int), ((cA 17), .int), ((cA 18), .int), ((cA 19), .int)])) (va_Qi (fun r (_ : Unit) => r = (-1000000)) (fun _ _ => True) (fun _ => False)) 0 0 (fun _ => False) := by
  refine Met.ofW (cc := cX10_holds) (maxL := 5) (ret := (some .int)) (by decide) rfl ?_
  intro p e s m args below meth c s₁ B hml hv
  obtain ⟨rfl, hP, hK⟩ := hv
  have hx := B.exec
  have hb := B.bytes
  have hr := B.returns
  have hts := atoms_spec (ws := .code yX10_holds cX10_holds 5 (some .int) :: gw) B.pre
  have htg := gw_tl hts
  have hown : s.vm.findClass RX10 = some m.cls := findClass_of_methodNamed B.named
  have hlocks := B.notSynchronized
  have hS : va_S (fun _ => False) s.heap s.heap [] := va_S.rf
  have hl := lv_entry ([.ref (a 0)]) (n := 5) (Nat.le_of_ble_eq_true rfl)
  rw [lg_entry_eq]
  generalize (lg_sl ([.ref (a 0)]) ++ List.replicate (5 - (lg_sl ([.ref (a 0)])).length) Slot.unset).toArray = ls at hl ⊢
  have hl : lv_has ls 5 [(0, .ref (a 0))] := hl
  refine lv_aload_n hx hb dX10_holds_0 rfl (lv_at hl 0 rfl) ?_
  have hPc := hP.sub (ws' := [((a 0), .inr (10, [.ref (a 1), .ref (a 3), .ref (a 40), .int 0, .int (-1), .ref (a 4), .ref (a 5), .ref (a 6), .ref (a 7), .ref (a 8), .ref (a 9), .ref (a 10), .null, .null, .int 0, .int (-1), .ref (a 41)])), ((a 1), .inr (6, [.ref (a 2), .int 0, .int 0])), ((a 2), .inl ((cA 2), 160, .inl (f 2))), ((a 3), .inr (3, [.ref (a 1), .ref (a 42), .int 0, .int 0])), ((a 4), .inr (4, [.int 0, .int 0, .ref (a 43), .ref (a 44), .ref (a 45), .ref (a 46), .ref (a 47), .ref (a 48), .ref (a 49), .ref (a 50), .ref (a 51)])), ((a 5), .inr (4, [.int 0, .int 0, .ref (a 11), .ref (a 12), .ref (a 13), .ref (a 14), .ref (a 15), .ref (a 16), .ref (a 17), .ref (a 18), .ref (a 19)])), ((a 6), .inr (5, [.ref (a 52), .int 0, .ref (a 53), .int 0, .int 0, .int 0])), ((a 7), .inr (5, [.ref (a 54), .int 0, .ref (a 55), .int 0, .int 0, .int 0])), ((a 8), .inr (1, [.ref (a 56), .int 0, .int 0, .ref (a 57), .int 0, .ref (a 58)])), ((a 9), .inr (7, [.ref (a 59), .ref (a 60), .ref (a 61)])), ((a 11), .inl ((cA 11), 12, .inl (f 11))), ((a 12), .inl ((cA 12), 12, .inl (f 12))), ((a 13), .inl ((cA 13), 144, .inl (f 13))), ((a 14), .inl ((cA 14), 12, .inl (f 14))), ((a 15), .inl ((cA 15), 12, .inl (f 15))), ((a 16), .inl ((cA 16), 12, .inl (f 16))), ((a 17), .inl ((cA 17), 12, .inl (f 17))), ((a 18), .inl ((cA 18), 12, .inl (f 18))), ((a 19), .inl ((cA 19), 144, .inl (f 19)))]) [0, 1, 2, 3, 4, 5, 6, 7, 8, 9, 10, 11, 12, 13, 14, 15, 16, 17, 18] rfl
  have hKc := hK.sub (tys' := [((cA 2), .int), ((cA 11), .int), ((cA 12), .int), ((cA 13), .int), ((cA 14), .int), ((cA 15), .int), ((cA 16), .int), ((cA 17), .int), ((cA 18), .int), ((cA 19), .int)]) [0, 1, 2, 3, 4, 5, 6, 7, 8, 9] rfl
  refine va_calli (va_runV (As := []) (rest := []) ⟨hx, hb, hml, hown, htg⟩ (c_X10_isSearched l D a cA f ) (cV 0 htg mw_44 kv_X10_isSearched rfl rfl ⟨(Nat.le_of_ble_eq_true rfl), (Nat.le_of_ble_eq_true rfl)⟩) ⟨bl_r, va_recv hKc hPc (ci := 10) (q0 := 0) rfl rfl, us_r hPc hKc⟩ rfl rfl hl.1 rfl (lv_room (Nat.le_of_ble_eq_true rfl)) dX10_holds_1 ⟨(Nat.le_of_ble_eq_true rfl), (Nat.le_of_ble_eq_true rfl)⟩) hS (fun _ _ h9 => False.elim h9) (fun _ h9 => False.elim h9) (fun r_1 u t H locs ht hvm hw hB hz1 hk1 hS => ?_)
  have hP := ro_keep hP hk1
  subst hw
  refine lv_if_ne (tgt := 10) hx hb dX10_holds_4 (by decide) (fun h9 => False.elim (h9 (by decide))) (fun _ => ?_)
  refine lv_ldc (v := (-1000000)) hx hb hown (htg _ mw_39) dX10_holds_7 ?_
  exact W.iret (v := (-1000000)) hx hb hr  (fun t ht hW => ⟨⟨(-1000000), (), rfl, rfl, trivial⟩, hS.F ht⟩) hS.2.2 dX10_holds_9

set_option maxHeartbeats 4000000 in
set_option maxRecDepth 100000 in
theorem c_X10_sort (l : Launch) (D : va_G) (a : Nat → Nat) (cA : Nat → ClassId) (f : Nat → Nat → Int32)  : Met l yX10_sort (.code yX10_sort cX10_sort 1 (some .int) :: gw) ({ frames := 1, cells := 0, slots := 0, locals := 40 }) (va_Pc [.ref (a 0)] (pr D [((a 0), .inr (10, [.ref (a 1), .ref (a 3), .ref (a 40), .int 0, .int (-1), .ref (a 4), .ref (a 5), .ref (a 6), .ref (a 7), .ref (a 8), .ref (a 9), .ref (a 10), .null, .null, .int 0, .int (-1), .ref (a 41)])), ((a 1), .inr (6, [.ref (a 2), .int 0, .int 0])), ((a 2), .inl ((cA 2), 160, .inl (f 2))), ((a 3), .inr (3, [.ref (a 1), .ref (a 42), .int 0, .int 0])), ((a 4), .inr (4, [.int 0, .int 0, .ref (a 43), .ref (a 44), .ref (a 45), .ref (a 46), .ref (a 47), .ref (a 48), .ref (a 49), .ref (a 50), .ref (a 51)])), ((a 5), .inr (4, [.int 0, .int 0, .ref (a 11), .ref (a 12), .ref (a 13), .ref (a 14), .ref (a 15), .ref (a 16), .ref (a 17), .ref (a 18), .ref (a 19)])), ((a 6), .inr (5, [.ref (a 52), .int 0, .ref (a 53), .int 0, .int 0, .int 0])), ((a 7), .inr (5, [.ref (a 54), .int 0, .ref (a 55), .int 0, .int 0, .int 0])), ((a 8), .inr (1, [.ref (a 56), .int 0, .int 0, .ref (a 57), .int 0, .ref (a 58)])), ((a 9), .inr (7, [.ref (a 59), .ref (a 60), .ref (a 61)])), ((a 11), .inl ((cA 11), 12, .inl (f 11))), ((a 12), .inl ((cA 12), 12, .inl (f 12))), ((a 13), .inl ((cA 13), 144, .inl (f 13))), ((a 14), .inl ((cA 14), 12, .inl (f 14))), ((a 15), .inl ((cA 15), 12, .inl (f 15))), ((a 16), .inl ((cA 16), 12, .inl (f 16))), ((a 17), .inl ((cA 17), 12, .inl (f 17))), ((a 18), .inl ((cA 18), 12, .inl (f 18))), ((a 19), .inl ((cA 19), 144, .inl (f 19)))] [((cA 2), .int), ((cA 11), .int), ((cA 12), .int), ((cA 13), .int), ((cA 14), .int), ((cA 15), .int), ((cA 16), .int), ((cA 17), .int), ((cA 18), .int), ((cA 19), .int)])) (va_Qi (fun r (_ : Unit) => r = (-1)) (fun _ _ => True) (fun _ => False)) 0 0 (fun _ => False) := by
  refine Met.ofW (cc := cX10_sort) (maxL := 1) (ret := (some .int)) (by decide) rfl ?_
  intro p e s m args below meth c s₁ B hml hv
  obtain ⟨rfl, hP, hK⟩ := hv
  have hx := B.exec
  have hb := B.bytes
  have hr := B.returns
  have hts := atoms_spec (ws := .code yX10_sort cX10_sort 1 (some .int) :: gw) B.pre
  have htg := gw_tl hts
  have hown : s.vm.findClass RX10 = some m.cls := findClass_of_methodNamed B.named
  have hlocks := B.notSynchronized
  have hS : va_S (fun _ => False) s.heap s.heap [] := va_S.rf
  have hl := lv_entry ([.ref (a 0)]) (n := 1) (Nat.le_of_ble_eq_true rfl)
  rw [lg_entry_eq]
  generalize (lg_sl ([.ref (a 0)]) ++ List.replicate (1 - (lg_sl ([.ref (a 0)])).length) Slot.unset).toArray = ls at hl ⊢
  have hl : lv_has ls 1 [(0, .ref (a 0))] := hl
  refine lv_aload_n hx hb dX10_sort_0 rfl (lv_at hl 0 rfl) ?_
  refine va_get (D := D) (ci := 10) (v := .ref (a 9)) (C := RX10) (T := TX10) (N := 17) hx hb htg in_X10 hown hK hP 0 rfl rfl 10 (by decide) (htg _ mw_45) (fun _ h9 => h9) rfl dX10_sort_1 ?_
  refine lv_aload_n hx hb dX10_sort_4 rfl (lv_at hl 0 rfl) ?_
  refine va_get (D := D) (ci := 10) (v := .ref (a 4)) (C := RX10) (T := TX10) (N := 17) hx hb htg in_X10 hown hK hP 0 rfl rfl 5 (by decide) (htg _ mw_13) (fun _ h9 => h9) rfl dX10_sort_5 ?_
  have hPc := hP.sub (ws' := [((a 9), .inr (7, [.ref (a 59), .ref (a 60), .ref (a 61)])), ((a 4), .inr (4, [.int 0, .int 0, .ref (a 43), .ref (a 44), .ref (a 45), .ref (a 46), .ref (a 47), .ref (a 48), .ref (a 49), .ref (a 50), .ref (a 51)]))]) [9, 4] rfl
  have hKc := hK.sub (tys' := []) [] rfl
  refine va_calli (va_runV (As := [.ref (a 4)]) (rest := []) ⟨hx, hb, hml, hown, htg⟩ (c_X7_kindOf l D (a 9) [.ref (a 59), .ref (a 60), .ref (a 61)] (a 4) [.ref (a 43), .ref (a 44), .ref (a 45), .ref (a 46), .ref (a 47), .ref (a 48), .ref (a 49), .ref (a 50), .ref (a 51)]) (cV 1 htg mw_50 kv_X7_kindOf rfl rfl ⟨(Nat.le_of_ble_eq_true rfl), (Nat.le_of_ble_eq_true rfl)⟩) ⟨bl_r, va_recv hKc hPc (ci := 7) (q0 := 0) rfl rfl, us_r hPc hKc⟩ rfl rfl hl.1 rfl (lv_room (Nat.le_of_ble_eq_true rfl)) dX10_sort_8 ⟨(Nat.le_of_ble_eq_true rfl), (Nat.le_of_ble_eq_true rfl)⟩) hS (fun _ _ h9 => False.elim h9) (fun _ h9 => False.elim h9) (fun r_1 u t H locs ht hvm hw hB hz1 hk1 hS => ?_)
  have hP := ro_keep hP hk1
  subst hw
  exact W.iret (v := (-1)) hx hb hr  (fun t ht hW => ⟨⟨(-1), (), rfl, rfl, trivial⟩, hS.F ht⟩) hS.2.2 dX10_sort_11

set_option maxHeartbeats 4000000 in
set_option maxRecDepth 100000 in
theorem c_X10_can (l : Launch) (D : va_G) (a : Nat → Nat) (cA : Nat → ClassId) (f : Nat → Nat → Int32)  : Met l yX10_can (.code yX10_can cX10_can 3 (some .int) :: gw) ({ frames := 1, cells := 0, slots := 0, locals := 40 }) (va_Pc [.ref (a 0)] (pr D [((a 0), .inr (10, [.ref (a 1), .ref (a 3), .ref (a 40), .int 0, .int (-1), .ref (a 4), .ref (a 5), .ref (a 6), .ref (a 7), .ref (a 8), .ref (a 9), .ref (a 10), .null, .null, .int 0, .int (-1), .ref (a 41)])), ((a 1), .inr (6, [.ref (a 2), .int 0, .int 0])), ((a 2), .inl ((cA 2), 160, .inl (f 2))), ((a 3), .inr (3, [.ref (a 1), .ref (a 42), .int 0, .int 0])), ((a 4), .inr (4, [.int 0, .int 0, .ref (a 43), .ref (a 44), .ref (a 45), .ref (a 46), .ref (a 47), .ref (a 48), .ref (a 49), .ref (a 50), .ref (a 51)])), ((a 5), .inr (4, [.int 0, .int 0, .ref (a 11), .ref (a 12), .ref (a 13), .ref (a 14), .ref (a 15), .ref (a 16), .ref (a 17), .ref (a 18), .ref (a 19)])), ((a 6), .inr (5, [.ref (a 52), .int 0, .ref (a 53), .int 0, .int 0, .int 0])), ((a 7), .inr (5, [.ref (a 54), .int 0, .ref (a 55), .int 0, .int 0, .int 0])), ((a 8), .inr (1, [.ref (a 56), .int 0, .int 0, .ref (a 57), .int 0, .ref (a 58)])), ((a 9), .inr (7, [.ref (a 59), .ref (a 60), .ref (a 61)])), ((a 11), .inl ((cA 11), 12, .inl (f 11))), ((a 12), .inl ((cA 12), 12, .inl (f 12))), ((a 13), .inl ((cA 13), 144, .inl (f 13))), ((a 14), .inl ((cA 14), 12, .inl (f 14))), ((a 15), .inl ((cA 15), 12, .inl (f 15))), ((a 16), .inl ((cA 16), 12, .inl (f 16))), ((a 17), .inl ((cA 17), 12, .inl (f 17))), ((a 18), .inl ((cA 18), 12, .inl (f 18))), ((a 19), .inl ((cA 19), 144, .inl (f 19)))] [((cA 2), .int), ((cA 11), .int), ((cA 12), .int), ((cA 13), .int), ((cA 14), .int), ((cA 15), .int), ((cA 16), .int), ((cA 17), .int), ((cA 18), .int), ((cA 19), .int)])) (va_Qi (fun r (_ : Unit) => r = (-1)) (fun _ _ => True) (fun _ => False)) 0 0 (fun _ => False) := by
  refine Met.ofW (cc := cX10_can) (maxL := 3) (ret := (some .int)) (by decide) rfl ?_
  intro p e s m args below meth c s₁ B hml hv
  obtain ⟨rfl, hP, hK⟩ := hv
  have hx := B.exec
  have hb := B.bytes
  have hr := B.returns
  have hts := atoms_spec (ws := .code yX10_can cX10_can 3 (some .int) :: gw) B.pre
  have htg := gw_tl hts
  have hown : s.vm.findClass RX10 = some m.cls := findClass_of_methodNamed B.named
  have hlocks := B.notSynchronized
  have hS : va_S (fun _ => False) s.heap s.heap [] := va_S.rf
  have hl := lv_entry ([.ref (a 0)]) (n := 3) (Nat.le_of_ble_eq_true rfl)
  rw [lg_entry_eq]
  generalize (lg_sl ([.ref (a 0)]) ++ List.replicate (3 - (lg_sl ([.ref (a 0)])).length) Slot.unset).toArray = ls at hl ⊢
  have hl : lv_has ls 3 [(0, .ref (a 0))] := hl
  refine lv_aload_n hx hb dX10_can_0 rfl (lv_at hl 0 rfl) ?_
  refine va_get (D := D) (ci := 10) (v := .ref (a 9)) (C := RX10) (T := TX10) (N := 17) hx hb htg in_X10 hown hK hP 0 rfl rfl 10 (by decide) (htg _ mw_45) (fun _ h9 => h9) rfl dX10_can_1 ?_
  refine lv_aload_n hx hb dX10_can_4 rfl (lv_at hl 0 rfl) ?_
  refine va_get (D := D) (ci := 10) (v := .ref (a 4)) (C := RX10) (T := TX10) (N := 17) hx hb htg in_X10 hown hK hP 0 rfl rfl 5 (by decide) (htg _ mw_13) (fun _ h9 => h9) rfl dX10_can_5 ?_
  have hPc := hP.sub (ws' := [((a 9), .inr (7, [.ref (a 59), .ref (a 60), .ref (a 61)])), ((a 4), .inr (4, [.int 0, .int 0, .ref (a 43), .ref (a 44), .ref (a 45), .ref (a 46), .ref (a 47), .ref (a 48), .ref (a 49), .ref (a 50), .ref (a 51)]))]) [9, 4] rfl
  have hKc := hK.sub (tys' := []) [] rfl
  refine va_calli (va_runV (As := [.ref (a 4)]) (rest := []) ⟨hx, hb, hml, hown, htg⟩ (c_X7_kindOf l D (a 9) [.ref (a 59), .ref (a 60), .ref (a 61)] (a 4) [.ref (a 43), .ref (a 44), .ref (a 45), .ref (a 46), .ref (a 47), .ref (a 48), .ref (a 49), .ref (a 50), .ref (a 51)]) (cV 1 htg mw_50 kv_X7_kindOf rfl rfl ⟨(Nat.le_of_ble_eq_true rfl), (Nat.le_of_ble_eq_true rfl)⟩) ⟨bl_r, va_recv hKc hPc (ci := 7) (q0 := 0) rfl rfl, us_r hPc hKc⟩ rfl rfl hl.1 rfl (lv_room (Nat.le_of_ble_eq_true rfl)) dX10_can_8 ⟨(Nat.le_of_ble_eq_true rfl), (Nat.le_of_ble_eq_true rfl)⟩) hS (fun _ _ h9 => False.elim h9) (fun _ h9 => False.elim h9) (fun r_1 u t H locs ht hvm hw hB hz1 hk1 hS => ?_)
  have hP := ro_keep hP hk1
  subst hw
  refine lv_istore_n (lv' := [(1, .int (-1)), (0, .ref (a 0))]) hx hb dX10_can_11 rfl hl (by decide) rfl (fun ls hl => ?_)
  refine lv_iload_n hx hb dX10_can_12 rfl (lv_at hl 0 rfl) ?_
  refine lv_iconst (v := (-1)) hx hb dX10_can_13 (by decide) ?_
  refine lv_icmp_eq (tgt := 27) hx hb dX10_can_14 (by decide) (fun _ => ?_) (fun h9 => False.elim (h9 (by decide)))
  refine lv_iconst (v := (-1)) hx hb dX10_can_27 (by decide) ?_
  exact W.iret (v := (-1)) hx hb hr  (fun t ht hW => ⟨⟨(-1), (), rfl, rfl, trivial⟩, hS.F ht⟩) hS.2.2 dX10_can_28

set_option maxHeartbeats 4000000 in
set_option maxRecDepth 100000 in
theorem c_X10_worth (l : Launch) (D : va_G) (a : Nat → Nat) (cA : Nat → ClassId) (f : Nat → Nat → Int32) (x y z : Int32) : Met l yX10_worth (.code yX10_worth cX10_worth 4 (some .boolean) :: gw) ({ frames := 1, cells := 0, slots := 0, locals := 40 }) (va_Pc [.ref (a 0), .int x, .int y, .int z] (pr D [((a 0), .inr (10, [.ref (a 1), .ref (a 3), .ref (a 40), .int 0, .int (-1), .ref (a 4), .ref (a 5), .ref (a 6), .ref (a 7), .ref (a 8), .ref (a 9), .ref (a 10), .null, .null, .int 0, .int (-1), .ref (a 41)])), ((a 1), .inr (6, [.ref (a 2), .int 0, .int 0])), ((a 2), .inl ((cA 2), 160, .inl (f 2))), ((a 3), .inr (3, [.ref (a 1), .ref (a 42), .int 0, .int 0])), ((a 4), .inr (4, [.int 0, .int 0, .ref (a 43), .ref (a 44), .ref (a 45), .ref (a 46), .ref (a 47), .ref (a 48), .ref (a 49), .ref (a 50), .ref (a 51)])), ((a 5), .inr (4, [.int 0, .int 0, .ref (a 11), .ref (a 12), .ref (a 13), .ref (a 14), .ref (a 15), .ref (a 16), .ref (a 17), .ref (a 18), .ref (a 19)])), ((a 6), .inr (5, [.ref (a 52), .int 0, .ref (a 53), .int 0, .int 0, .int 0])), ((a 7), .inr (5, [.ref (a 54), .int 0, .ref (a 55), .int 0, .int 0, .int 0])), ((a 8), .inr (1, [.ref (a 56), .int 0, .int 0, .ref (a 57), .int 0, .ref (a 58)])), ((a 9), .inr (7, [.ref (a 59), .ref (a 60), .ref (a 61)])), ((a 11), .inl ((cA 11), 12, .inl (f 11))), ((a 12), .inl ((cA 12), 12, .inl (f 12))), ((a 13), .inl ((cA 13), 144, .inl (f 13))), ((a 14), .inl ((cA 14), 12, .inl (f 14))), ((a 15), .inl ((cA 15), 12, .inl (f 15))), ((a 16), .inl ((cA 16), 12, .inl (f 16))), ((a 17), .inl ((cA 17), 12, .inl (f 17))), ((a 18), .inl ((cA 18), 12, .inl (f 18))), ((a 19), .inl ((cA 19), 144, .inl (f 19)))] [((cA 2), .int), ((cA 11), .int), ((cA 12), .int), ((cA 13), .int), ((cA 14), .int), ((cA 15), .int), ((cA 16), .int), ((cA 17), .int), ((cA 18), .int), ((cA 19), .int)])) (va_Qi (fun r (_ : Unit) => r = 0) (fun _ _ => True) (fun _ => False)) 0 0 (fun _ => False) := by
  refine Met.ofW (cc := cX10_worth) (maxL := 4) (ret := (some .boolean)) (by decide) rfl ?_
  intro p e s m args below meth c s₁ B hml hv
  obtain ⟨rfl, hP, hK⟩ := hv
  have hx := B.exec
  have hb := B.bytes
  have hr := B.returns
  have hts := atoms_spec (ws := .code yX10_worth cX10_worth 4 (some .boolean) :: gw) B.pre
  have htg := gw_tl hts
  have hown : s.vm.findClass RX10 = some m.cls := findClass_of_methodNamed B.named
  have hlocks := B.notSynchronized
  have hS : va_S (fun _ => False) s.heap s.heap [] := va_S.rf
  have hl := lv_entry ([.ref (a 0), .int x, .int y, .int z]) (n := 4) (Nat.le_of_ble_eq_true rfl)
  rw [lg_entry_eq]
  generalize (lg_sl ([.ref (a 0), .int x, .int y, .int z]) ++ List.replicate (4 - (lg_sl ([.ref (a 0), .int x, .int y, .int z])).length) Slot.unset).toArray = ls at hl ⊢
  have hl : lv_has ls 4 [(0, .ref (a 0)), (1, .int x), (2, .int y), (3, .int z)] := hl
  refine lv_aload_n hx hb dX10_worth_0 rfl (lv_at hl 0 rfl) ?_
  refine va_get (D := D) (ci := 10) (v := .ref (a 4)) (C := RX10) (T := TX10) (N := 17) hx hb htg in_X10 hown hK hP 0 rfl rfl 5 (by decide) (htg _ mw_13) (fun _ h9 => h9) rfl dX10_worth_1 ?_
  refine lv_iload_n hx hb dX10_worth_4 rfl (lv_at hl 1 rfl) ?_
  have hPc := hP.sub (ws' := [((a 4), .inr (4, [.int 0, .int 0, .ref (a 43), .ref (a 44), .ref (a 45), .ref (a 46), .ref (a 47), .ref (a 48), .ref (a 49), .ref (a 50), .ref (a 51)]))]) [4] rfl
  have hKc := hK.sub (tys' := []) [] rfl
  refine va_calli (va_runV (As := [.int x]) (rest := []) ⟨hx, hb, hml, hown, htg⟩ (c_X4_hasClerk l D (a 4) [.ref (a 43), .ref (a 44), .ref (a 45), .ref (a 46), .ref (a 47), .ref (a 48), .ref (a 49), .ref (a 50), .ref (a 51)] x) (cV 1 htg mw_19 kv_X4_hasClerk rfl rfl ⟨(Nat.le_of_ble_eq_true rfl), (Nat.le_of_ble_eq_true rfl)⟩) ⟨bl_r, va_recv hKc hPc (ci := 4) (q0 := 0) rfl rfl, us_r hPc hKc⟩ rfl rfl hl.1 rfl (lv_room (Nat.le_of_ble_eq_true rfl)) dX10_worth_5 ⟨(Nat.le_of_ble_eq_true rfl), (Nat.le_of_ble_eq_true rfl)⟩) hS (fun _ _ h9 => False.elim h9) (fun _ h9 => False.elim h9) (fun r_1 u t H locs ht hvm hw hB hz1 hk1 hS => ?_)
  have hP := ro_keep hP hk1
  subst hw
  refine lv_if_eq (tgt := 32) hx hb dX10_worth_8 (by decide) (fun _ => ?_) (fun h9 => False.elim (h9 (by decide)))
  refine lv_iconst (v := 0) hx hb dX10_worth_32 (by decide) ?_
  exact W.zret (v := 0) hx hb hr (by first | rfl | decide | exact ar_nb _) (fun t ht hW => ⟨⟨0, (), rfl, rfl, trivial⟩, hS.F ht⟩) hS.2.2 dX10_worth_33

set_option maxHeartbeats 4000000 in
set_option maxRecDepth 100000 in
theorem c_X10_seated (l : Launch) (D : va_G) (a : Nat → Nat) (cA : Nat → ClassId) (f : Nat → Nat → Int32) (x : Int32) : Met l yX10_seated (.code yX10_seated cX10_seated 4 (some .int) :: gw) ({ frames := 1, cells := 0, slots := 0, locals := 40 }) (va_Pc [.ref (a 0), .int x] (pr D [((a 0), .inr (10, [.ref (a 1), .ref (a 3), .ref (a 40), .int 0, .int (-1), .ref (a 4), .ref (a 5), .ref (a 6), .ref (a 7), .ref (a 8), .ref (a 9), .ref (a 10), .null, .null, .int 0, .int (-1), .ref (a 41)])), ((a 1), .inr (6, [.ref (a 2), .int 0, .int 0])), ((a 2), .inl ((cA 2), 160, .inl (f 2))), ((a 3), .inr (3, [.ref (a 1), .ref (a 42), .int 0, .int 0])), ((a 4), .inr (4, [.int 0, .int 0, .ref (a 43), .ref (a 44), .ref (a 45), .ref (a 46), .ref (a 47), .ref (a 48), .ref (a 49), .ref (a 50), .ref (a 51)])), ((a 5), .inr (4, [.int 0, .int 0, .ref (a 11), .ref (a 12), .ref (a 13), .ref (a 14), .ref (a 15), .ref (a 16), .ref (a 17), .ref (a 18), .ref (a 19)])), ((a 6), .inr (5, [.ref (a 52), .int 0, .ref (a 53), .int 0, .int 0, .int 0])), ((a 7), .inr (5, [.ref (a 54), .int 0, .ref (a 55), .int 0, .int 0, .int 0])), ((a 8), .inr (1, [.ref (a 56), .int 0, .int 0, .ref (a 57), .int 0, .ref (a 58)])), ((a 9), .inr (7, [.ref (a 59), .ref (a 60), .ref (a 61)])), ((a 11), .inl ((cA 11), 12, .inl (f 11))), ((a 12), .inl ((cA 12), 12, .inl (f 12))), ((a 13), .inl ((cA 13), 144, .inl (f 13))), ((a 14), .inl ((cA 14), 12, .inl (f 14))), ((a 15), .inl ((cA 15), 12, .inl (f 15))), ((a 16), .inl ((cA 16), 12, .inl (f 16))), ((a 17), .inl ((cA 17), 12, .inl (f 17))), ((a 18), .inl ((cA 18), 12, .inl (f 18))), ((a 19), .inl ((cA 19), 144, .inl (f 19)))] [((cA 2), .int), ((cA 11), .int), ((cA 12), .int), ((cA 13), .int), ((cA 14), .int), ((cA 15), .int), ((cA 16), .int), ((cA 17), .int), ((cA 18), .int), ((cA 19), .int)])) (va_Qi (fun r (_ : Unit) => r = (-1)) (fun _ _ => True) (fun _ => False)) 0 0 (fun _ => False) := by
  refine Met.ofW (cc := cX10_seated) (maxL := 4) (ret := (some .int)) (by decide) rfl ?_
  intro p e s m args below meth c s₁ B hml hv
  obtain ⟨rfl, hP, hK⟩ := hv
  have hx := B.exec
  have hb := B.bytes
  have hr := B.returns
  have hts := atoms_spec (ws := .code yX10_seated cX10_seated 4 (some .int) :: gw) B.pre
  have htg := gw_tl hts
  have hown : s.vm.findClass RX10 = some m.cls := findClass_of_methodNamed B.named
  have hlocks := B.notSynchronized
  have hS : va_S (fun _ => False) s.heap s.heap [] := va_S.rf
  have hl := lv_entry ([.ref (a 0), .int x]) (n := 4) (Nat.le_of_ble_eq_true rfl)
  rw [lg_entry_eq]
  generalize (lg_sl ([.ref (a 0), .int x]) ++ List.replicate (4 - (lg_sl ([.ref (a 0), .int x])).length) Slot.unset).toArray = ls at hl ⊢
  have hl : lv_has ls 4 [(0, .ref (a 0)), (1, .int x)] := hl
  refine lv_iload_n hx hb dX10_seated_0 rfl (lv_at hl 1 rfl) ?_
  refine lv_iconst (v := (-1)) hx hb dX10_seated_1 (by decide) ?_
  refine lv_icmp_ne (tgt := 59) hx hb dX10_seated_2 (by decide) (fun h_1 => ?_) (fun h_1 => ?_)
  · refine lv_aload_n hx hb dX10_seated_59 rfl (lv_at hl 0 rfl) ?_
    refine va_get (D := D) (ci := 10) (v := .ref (a 4)) (C := RX10) (T := TX10) (N := 17) hx hb htg in_X10 hown hK hP 0 rfl rfl 5 (by decide) (htg _ mw_13) (fun _ h9 => h9) rfl dX10_seated_60 ?_
    refine lv_iload_n hx hb dX10_seated_63 rfl (lv_at hl 1 rfl) ?_
    have hPc := hP.sub (ws' := [((a 4), .inr (4, [.int 0, .int 0, .ref (a 43), .ref (a 44), .ref (a 45), .ref (a 46), .ref (a 47), .ref (a 48), .ref (a 49), .ref (a 50), .ref (a 51)]))]) [4] rfl
    have hKc := hK.sub (tys' := []) [] rfl
    refine va_calli (va_runV (As := [.int x]) (rest := []) ⟨hx, hb, hml, hown, htg⟩ (c_X4_hasClerk l D (a 4) [.ref (a 43), .ref (a 44), .ref (a 45), .ref (a 46), .ref (a 47), .ref (a 48), .ref (a 49), .ref (a 50), .ref (a 51)] x) (cV 1 htg mw_19 kv_X4_hasClerk rfl rfl ⟨(Nat.le_of_ble_eq_true rfl), (Nat.le_of_ble_eq_true rfl)⟩) ⟨bl_r, va_recv hKc hPc (ci := 4) (q0 := 0) rfl rfl, us_r hPc hKc⟩ rfl rfl hl.1 rfl (lv_room (Nat.le_of_ble_eq_true rfl)) dX10_seated_64 ⟨(Nat.le_of_ble_eq_true rfl), (Nat.le_of_ble_eq_true rfl)⟩) hS (fun _ _ h9 => False.elim h9) (fun _ h9 => False.elim h9) (fun r_2 u t H locs ht hvm hw hB hz1 hk1 hS => ?_)
    have hP := ro_keep hP hk1
    subst hw
    refine lv_if_eq (tgt := 81) hx hb dX10_seated_67 (by decide) (fun _ => ?_) (fun h9 => False.elim (h9 (by decide)))
    refine lv_iconst (v := (-1)) hx hb dX10_seated_81 (by decide) ?_
    exact W.iret (v := (-1)) hx hb hr  (fun t ht hW => ⟨⟨(-1), (), rfl, rfl, trivial⟩, hS.F ht⟩) hS.2.2 dX10_seated_82
  · refine lv_aload_n hx hb dX10_seated_5 rfl (lv_at hl 0 rfl) ?_
    refine va_get (D := D) (ci := 10) (v := .ref (a 4)) (C := RX10) (T := TX10) (N := 17) hx hb htg in_X10 hown hK hP 0 rfl rfl 5 (by decide) (htg _ mw_13) (fun _ h9 => h9) rfl dX10_seated_6 ?_
    refine va_get (D := D) (ci := 4) (v := .int 0) (C := RX4) (T := TX4) (N := 11) hx hb htg in_X4 hown hK hP 4 rfl rfl 0 (by decide) (htg _ mw_14) (fun _ h9 => h9) rfl dX10_seated_9 ?_
    refine lv_if_le (tgt := 59) hx hb dX10_seated_12 (by decide) (fun _ => ?_) (fun h9 => False.elim (h9 (by decide)))
    refine lv_aload_n hx hb dX10_seated_59 rfl (lv_at hl 0 rfl) ?_
    refine va_get (D := D) (ci := 10) (v := .ref (a 4)) (C := RX10) (T := TX10) (N := 17) hx hb htg in_X10 hown hK hP 0 rfl rfl 5 (by decide) (htg _ mw_13) (fun _ h9 => h9) rfl dX10_seated_60 ?_
    refine lv_iload_n hx hb dX10_seated_63 rfl (lv_at hl 1 rfl) ?_
    have hPc := hP.sub (ws' := [((a 4), .inr (4, [.int 0, .int 0, .ref (a 43), .ref (a 44), .ref (a 45), .ref (a 46), .ref (a 47), .ref (a 48), .ref (a 49), .ref (a 50), .ref (a 51)]))]) [4] rfl
    have hKc := hK.sub (tys' := []) [] rfl
    refine va_calli (va_runV (As := [.int x]) (rest := []) ⟨hx, hb, hml, hown, htg⟩ (c_X4_hasClerk l D (a 4) [.ref (a 43), .ref (a 44), .ref (a 45), .ref (a 46), .ref (a 47), .ref (a 48), .ref (a 49), .ref (a 50), .ref (a 51)] x) (cV 1 htg mw_19 kv_X4_hasClerk rfl rfl ⟨(Nat.le_of_ble_eq_true rfl), (Nat.le_of_ble_eq_true rfl)⟩) ⟨bl_r, va_recv hKc hPc (ci := 4) (q0 := 0) rfl rfl, us_r hPc hKc⟩ rfl rfl hl.1 rfl (lv_room (Nat.le_of_ble_eq_true rfl)) dX10_seated_64 ⟨(Nat.le_of_ble_eq_true rfl), (Nat.le_of_ble_eq_true rfl)⟩) hS (fun _ _ h9 => False.elim h9) (fun _ h9 => False.elim h9) (fun r_3 u t H locs ht hvm hw hB hz1 hk1 hS => ?_)
    have hP := ro_keep hP hk1
    subst hw
    refine lv_if_eq (tgt := 81) hx hb dX10_seated_67 (by decide) (fun _ => ?_) (fun h9 => False.elim (h9 (by decide)))
    refine lv_iconst (v := (-1)) hx hb dX10_seated_81 (by decide) ?_
    exact W.iret (v := (-1)) hx hb hr  (fun t ht hW => ⟨⟨(-1), (), rfl, rfl, trivial⟩, hS.F ht⟩) hS.2.2 dX10_seated_82

set_option maxHeartbeats 4000000 in
set_option maxRecDepth 100000 in
theorem c_X10_best (l : Launch) (D : va_G) (a : Nat → Nat) (cA : Nat → ClassId) (f : Nat → Nat → Int32) (x : Int32) : Met l yX10_best (.code yX10_best cX10_best 2 (some .int) :: gw) ({ frames := 1, cells := 0, slots := 0, locals := 40 }) (va_Pc [.ref (a 0), .int x] (pr D [((a 0), .inr (10, [.ref (a 1), .ref (a 3), .ref (a 40), .int 0, .int (-1), .ref (a 4), .ref (a 5), .ref (a 6), .ref (a 7), .ref (a 8), .ref (a 9), .ref (a 10), .null, .null, .int 0, .int (-1), .ref (a 41)])), ((a 1), .inr (6, [.ref (a 2), .int 0, .int 0])), ((a 2), .inl ((cA 2), 160, .inl (f 2))), ((a 3), .inr (3, [.ref (a 1), .ref (a 42), .int 0, .int 0])), ((a 4), .inr (4, [.int 0, .int 0, .ref (a 43), .ref (a 44), .ref (a 45), .ref (a 46), .ref (a 47), .ref (a 48), .ref (a 49), .ref (a 50), .ref (a 51)])), ((a 5), .inr (4, [.int 0, .int 0, .ref (a 11), .ref (a 12), .ref (a 13), .ref (a 14), .ref (a 15), .ref (a 16), .ref (a 17), .ref (a 18), .ref (a 19)])), ((a 6), .inr (5, [.ref (a 52), .int 0, .ref (a 53), .int 0, .int 0, .int 0])), ((a 7), .inr (5, [.ref (a 54), .int 0, .ref (a 55), .int 0, .int 0, .int 0])), ((a 8), .inr (1, [.ref (a 56), .int 0, .int 0, .ref (a 57), .int 0, .ref (a 58)])), ((a 9), .inr (7, [.ref (a 59), .ref (a 60), .ref (a 61)])), ((a 11), .inl ((cA 11), 12, .inl (f 11))), ((a 12), .inl ((cA 12), 12, .inl (f 12))), ((a 13), .inl ((cA 13), 144, .inl (f 13))), ((a 14), .inl ((cA 14), 12, .inl (f 14))), ((a 15), .inl ((cA 15), 12, .inl (f 15))), ((a 16), .inl ((cA 16), 12, .inl (f 16))), ((a 17), .inl ((cA 17), 12, .inl (f 17))), ((a 18), .inl ((cA 18), 12, .inl (f 18))), ((a 19), .inl ((cA 19), 144, .inl (f 19)))] [((cA 2), .int), ((cA 11), .int), ((cA 12), .int), ((cA 13), .int), ((cA 14), .int), ((cA 15), .int), ((cA 16), .int), ((cA 17), .int), ((cA 18), .int), ((cA 19), .int)])) (va_Qi (fun r (_ : Unit) => r = (-1)) (fun _ _ => True) (fun _ => False)) 0 0 (fun _ => False) := by
  refine Met.ofW (cc := cX10_best) (maxL := 2) (ret := (some .int)) (by decide) rfl ?_
  intro p e s m args below meth c s₁ B hml hv
  obtain ⟨rfl, hP, hK⟩ := hv
  have hx := B.exec
  have hb := B.bytes
  have hr := B.returns
  have hts := atoms_spec (ws := .code yX10_best cX10_best 2 (some .int) :: gw) B.pre
  have htg := gw_tl hts
  have hown : s.vm.findClass RX10 = some m.cls := findClass_of_methodNamed B.named
  have hlocks := B.notSynchronized
  have hS : va_S (fun _ => False) s.heap s.heap [] := va_S.rf
  have hl := lv_entry ([.ref (a 0), .int x]) (n := 2) (Nat.le_of_ble_eq_true rfl)
  rw [lg_entry_eq]
  generalize (lg_sl ([.ref (a 0), .int x]) ++ List.replicate (2 - (lg_sl ([.ref (a 0), .int x])).length) Slot.unset).toArray = ls at hl ⊢
  have hl : lv_has ls 2 [(0, .ref (a 0)), (1, .int x)] := hl
  refine lv_iload_n hx hb dX10_best_0 rfl (lv_at hl 1 rfl) ?_
  refine lv_iconst (v := (-1)) hx hb dX10_best_1 (by decide) ?_
  refine lv_icmp_ne (tgt := 27) hx hb dX10_best_2 (by decide) (fun h_1 => ?_) (fun h_1 => ?_)
  · refine lv_aload_n hx hb dX10_best_27 rfl (lv_at hl 0 rfl) ?_
    refine va_get (D := D) (ci := 10) (v := .ref (a 4)) (C := RX10) (T := TX10) (N := 17) hx hb htg in_X10 hown hK hP 0 rfl rfl 5 (by decide) (htg _ mw_13) (fun _ h9 => h9) rfl dX10_best_28 ?_
    refine lv_iload_n hx hb dX10_best_31 rfl (lv_at hl 1 rfl) ?_
    have hPc := hP.sub (ws' := [((a 4), .inr (4, [.int 0, .int 0, .ref (a 43), .ref (a 44), .ref (a 45), .ref (a 46), .ref (a 47), .ref (a 48), .ref (a 49), .ref (a 50), .ref (a 51)]))]) [4] rfl
    have hKc := hK.sub (tys' := []) [] rfl
    refine va_calli (va_runV (As := [.int x]) (rest := []) ⟨hx, hb, hml, hown, htg⟩ (c_X4_hasClerk l D (a 4) [.ref (a 43), .ref (a 44), .ref (a 45), .ref (a 46), .ref (a 47), .ref (a 48), .ref (a 49), .ref (a 50), .ref (a 51)] x) (cV 1 htg mw_19 kv_X4_hasClerk rfl rfl ⟨(Nat.le_of_ble_eq_true rfl), (Nat.le_of_ble_eq_true rfl)⟩) ⟨bl_r, va_recv hKc hPc (ci := 4) (q0 := 0) rfl rfl, us_r hPc hKc⟩ rfl rfl hl.1 rfl (lv_room (Nat.le_of_ble_eq_true rfl)) dX10_best_32 ⟨(Nat.le_of_ble_eq_true rfl), (Nat.le_of_ble_eq_true rfl)⟩) hS (fun _ _ h9 => False.elim h9) (fun _ h9 => False.elim h9) (fun r_2 u t H locs ht hvm hw hB hz1 hk1 hS => ?_)
    have hP := ro_keep hP hk1
    subst hw
    refine lv_if_eq (tgt := 53) hx hb dX10_best_35 (by decide) (fun _ => ?_) (fun h9 => False.elim (h9 (by decide)))
    refine lv_iconst (v := (-1)) hx hb dX10_best_53 (by decide) ?_
    exact W.iret (v := (-1)) hx hb hr  (fun t ht hW => ⟨⟨(-1), (), rfl, rfl, trivial⟩, hS.F ht⟩) hS.2.2 dX10_best_54
  · refine lv_aload_n hx hb dX10_best_5 rfl (lv_at hl 0 rfl) ?_
    refine va_get (D := D) (ci := 10) (v := .ref (a 4)) (C := RX10) (T := TX10) (N := 17) hx hb htg in_X10 hown hK hP 0 rfl rfl 5 (by decide) (htg _ mw_13) (fun _ h9 => h9) rfl dX10_best_6 ?_
    refine va_get (D := D) (ci := 4) (v := .int 0) (C := RX4) (T := TX4) (N := 11) hx hb htg in_X4 hown hK hP 4 rfl rfl 0 (by decide) (htg _ mw_14) (fun _ h9 => h9) rfl dX10_best_9 ?_
    refine lv_if_le (tgt := 27) hx hb dX10_best_12 (by decide) (fun _ => ?_) (fun h9 => False.elim (h9 (by decide)))
    refine lv_aload_n hx hb dX10_best_27 rfl (lv_at hl 0 rfl) ?_
    refine va_get (D := D) (ci := 10) (v := .ref (a 4)) (C := RX10) (T := TX10) (N := 17) hx hb htg in_X10 hown hK hP 0 rfl rfl 5 (by decide) (htg _ mw_13) (fun _ h9 => h9) rfl dX10_best_28 ?_
    refine lv_iload_n hx hb dX10_best_31 rfl (lv_at hl 1 rfl) ?_
    have hPc := hP.sub (ws' := [((a 4), .inr (4, [.int 0, .int 0, .ref (a 43), .ref (a 44), .ref (a 45), .ref (a 46), .ref (a 47), .ref (a 48), .ref (a 49), .ref (a 50), .ref (a 51)]))]) [4] rfl
    have hKc := hK.sub (tys' := []) [] rfl
    refine va_calli (va_runV (As := [.int x]) (rest := []) ⟨hx, hb, hml, hown, htg⟩ (c_X4_hasClerk l D (a 4) [.ref (a 43), .ref (a 44), .ref (a 45), .ref (a 46), .ref (a 47), .ref (a 48), .ref (a 49), .ref (a 50), .ref (a 51)] x) (cV 1 htg mw_19 kv_X4_hasClerk rfl rfl ⟨(Nat.le_of_ble_eq_true rfl), (Nat.le_of_ble_eq_true rfl)⟩) ⟨bl_r, va_recv hKc hPc (ci := 4) (q0 := 0) rfl rfl, us_r hPc hKc⟩ rfl rfl hl.1 rfl (lv_room (Nat.le_of_ble_eq_true rfl)) dX10_best_32 ⟨(Nat.le_of_ble_eq_true rfl), (Nat.le_of_ble_eq_true rfl)⟩) hS (fun _ _ h9 => False.elim h9) (fun _ h9 => False.elim h9) (fun r_3 u t H locs ht hvm hw hB hz1 hk1 hS => ?_)
    have hP := ro_keep hP hk1
    subst hw
    refine lv_if_eq (tgt := 53) hx hb dX10_best_35 (by decide) (fun _ => ?_) (fun h9 => False.elim (h9 (by decide)))
    refine lv_iconst (v := (-1)) hx hb dX10_best_53 (by decide) ?_
    exact W.iret (v := (-1)) hx hb hr  (fun t ht hW => ⟨⟨(-1), (), rfl, rfl, trivial⟩, hS.F ht⟩) hS.2.2 dX10_best_54

set_option maxHeartbeats 4000000 in
set_option maxRecDepth 100000 in
theorem c_X10_gains (l : Launch) (D : va_G) (a : Nat → Nat) (cA : Nat → ClassId) (f : Nat → Nat → Int32) (x y : Int32) : Met l yX10_gains (.code yX10_gains cX10_gains 3 (some .int) :: gw) ({ frames := 1, cells := 0, slots := 0, locals := 40 }) (va_Pc [.ref (a 0), .int x, .int y] (pr D [((a 0), .inr (10, [.ref (a 1), .ref (a 3), .ref (a 40), .int 0, .int (-1), .ref (a 4), .ref (a 5), .ref (a 6), .ref (a 7), .ref (a 8), .ref (a 9), .ref (a 10), .null, .null, .int 0, .int (-1), .ref (a 41)])), ((a 1), .inr (6, [.ref (a 2), .int 0, .int 0])), ((a 2), .inl ((cA 2), 160, .inl (f 2))), ((a 3), .inr (3, [.ref (a 1), .ref (a 42), .int 0, .int 0])), ((a 4), .inr (4, [.int 0, .int 0, .ref (a 43), .ref (a 44), .ref (a 45), .ref (a 46), .ref (a 47), .ref (a 48), .ref (a 49), .ref (a 50), .ref (a 51)])), ((a 5), .inr (4, [.int 0, .int 0, .ref (a 11), .ref (a 12), .ref (a 13), .ref (a 14), .ref (a 15), .ref (a 16), .ref (a 17), .ref (a 18), .ref (a 19)])), ((a 6), .inr (5, [.ref (a 52), .int 0, .ref (a 53), .int 0, .int 0, .int 0])), ((a 7), .inr (5, [.ref (a 54), .int 0, .ref (a 55), .int 0, .int 0, .int 0])), ((a 8), .inr (1, [.ref (a 56), .int 0, .int 0, .ref (a 57), .int 0, .ref (a 58)])), ((a 9), .inr (7, [.ref (a 59), .ref (a 60), .ref (a 61)])), ((a 11), .inl ((cA 11), 12, .inl (f 11))), ((a 12), .inl ((cA 12), 12, .inl (f 12))), ((a 13), .inl ((cA 13), 144, .inl (f 13))), ((a 14), .inl ((cA 14), 12, .inl (f 14))), ((a 15), .inl ((cA 15), 12, .inl (f 15))), ((a 16), .inl ((cA 16), 12, .inl (f 16))), ((a 17), .inl ((cA 17), 12, .inl (f 17))), ((a 18), .inl ((cA 18), 12, .inl (f 18))), ((a 19), .inl ((cA 19), 144, .inl (f 19)))] [((cA 2), .int), ((cA 11), .int), ((cA 12), .int), ((cA 13), .int), ((cA 14), .int), ((cA 15), .int), ((cA 16), .int), ((cA 17), .int), ((cA 18), .int), ((cA 19), .int)])) (va_Qi (fun r (_ : Unit) => r = (-1)) (fun _ _ => True) (fun _ => False)) 0 0 (fun _ => False) := by
  refine Met.ofW (cc := cX10_gains) (maxL := 3) (ret := (some .int)) (by decide) rfl ?_
  intro p e s m args below meth c s₁ B hml hv
  obtain ⟨rfl, hP, hK⟩ := hv
  have hx := B.exec
  have hb := B.bytes
  have hr := B.returns
  have hts := atoms_spec (ws := .code yX10_gains cX10_gains 3 (some .int) :: gw) B.pre
  have htg := gw_tl hts
  have hown : s.vm.findClass RX10 = some m.cls := findClass_of_methodNamed B.named
  have hlocks := B.notSynchronized
  have hS : va_S (fun _ => False) s.heap s.heap [] := va_S.rf
  have hl := lv_entry ([.ref (a 0), .int x, .int y]) (n := 3) (Nat.le_of_ble_eq_true rfl)
  rw [lg_entry_eq]
  generalize (lg_sl ([.ref (a 0), .int x, .int y]) ++ List.replicate (3 - (lg_sl ([.ref (a 0), .int x, .int y])).length) Slot.unset).toArray = ls at hl ⊢
  have hl : lv_has ls 3 [(0, .ref (a 0)), (1, .int x), (2, .int y)] := hl
  refine lv_aload_n hx hb dX10_gains_0 rfl (lv_at hl 0 rfl) ?_
  refine va_get (D := D) (ci := 10) (v := .ref (a 4)) (C := RX10) (T := TX10) (N := 17) hx hb htg in_X10 hown hK hP 0 rfl rfl 5 (by decide) (htg _ mw_13) (fun _ h9 => h9) rfl dX10_gains_1 ?_
  refine lv_iload_n hx hb dX10_gains_4 rfl (lv_at hl 1 rfl) ?_
  have hPc := hP.sub (ws' := [((a 4), .inr (4, [.int 0, .int 0, .ref (a 43), .ref (a 44), .ref (a 45), .ref (a 46), .ref (a 47), .ref (a 48), .ref (a 49), .ref (a 50), .ref (a 51)]))]) [4] rfl
  have hKc := hK.sub (tys' := []) [] rfl
  refine va_calli (va_runV (As := [.int x]) (rest := []) ⟨hx, hb, hml, hown, htg⟩ (c_X4_hasClerk l D (a 4) [.ref (a 43), .ref (a 44), .ref (a 45), .ref (a 46), .ref (a 47), .ref (a 48), .ref (a 49), .ref (a 50), .ref (a 51)] x) (cV 1 htg mw_19 kv_X4_hasClerk rfl rfl ⟨(Nat.le_of_ble_eq_true rfl), (Nat.le_of_ble_eq_true rfl)⟩) ⟨bl_r, va_recv hKc hPc (ci := 4) (q0 := 0) rfl rfl, us_r hPc hKc⟩ rfl rfl hl.1 rfl (lv_room (Nat.le_of_ble_eq_true rfl)) dX10_gains_5 ⟨(Nat.le_of_ble_eq_true rfl), (Nat.le_of_ble_eq_true rfl)⟩) hS (fun _ _ h9 => False.elim h9) (fun _ h9 => False.elim h9) (fun r_1 u t H locs ht hvm hw hB hz1 hk1 hS => ?_)
  have hP := ro_keep hP hk1
  subst hw
  refine lv_if_eq (tgt := 20) hx hb dX10_gains_8 (by decide) (fun _ => ?_) (fun h9 => False.elim (h9 (by decide)))
  refine lv_iconst (v := (-1)) hx hb dX10_gains_20 (by decide) ?_
  exact W.iret (v := (-1)) hx hb hr  (fun t ht hW => ⟨⟨(-1), (), rfl, rfl, trivial⟩, hS.F ht⟩) hS.2.2 dX10_gains_21

set_option maxHeartbeats 4000000 in
set_option maxRecDepth 100000 in
theorem c_X10_exchange (l : Launch) (D : va_G) (a : Nat → Nat) (cA : Nat → ClassId) (f : Nat → Nat → Int32) (x : Int32) : Met l yX10_exchange (.code yX10_exchange cX10_exchange 2 (some .int) :: gw) ({ frames := 1, cells := 0, slots := 0, locals := 40 }) (va_Pc [.ref (a 0), .int x] (pr D [((a 0), .inr (10, [.ref (a 1), .ref (a 3), .ref (a 40), .int 0, .int (-1), .ref (a 4), .ref (a 5), .ref (a 6), .ref (a 7), .ref (a 8), .ref (a 9), .ref (a 10), .null, .null, .int 0, .int (-1), .ref (a 41)])), ((a 1), .inr (6, [.ref (a 2), .int 0, .int 0])), ((a 2), .inl ((cA 2), 160, .inl (f 2))), ((a 3), .inr (3, [.ref (a 1), .ref (a 42), .int 0, .int 0])), ((a 4), .inr (4, [.int 0, .int 0, .ref (a 43), .ref (a 44), .ref (a 45), .ref (a 46), .ref (a 47), .ref (a 48), .ref (a 49), .ref (a 50), .ref (a 51)])), ((a 5), .inr (4, [.int 0, .int 0, .ref (a 11), .ref (a 12), .ref (a 13), .ref (a 14), .ref (a 15), .ref (a 16), .ref (a 17), .ref (a 18), .ref (a 19)])), ((a 6), .inr (5, [.ref (a 52), .int 0, .ref (a 53), .int 0, .int 0, .int 0])), ((a 7), .inr (5, [.ref (a 54), .int 0, .ref (a 55), .int 0, .int 0, .int 0])), ((a 8), .inr (1, [.ref (a 56), .int 0, .int 0, .ref (a 57), .int 0, .ref (a 58)])), ((a 9), .inr (7, [.ref (a 59), .ref (a 60), .ref (a 61)])), ((a 11), .inl ((cA 11), 12, .inl (f 11))), ((a 12), .inl ((cA 12), 12, .inl (f 12))), ((a 13), .inl ((cA 13), 144, .inl (f 13))), ((a 14), .inl ((cA 14), 12, .inl (f 14))), ((a 15), .inl ((cA 15), 12, .inl (f 15))), ((a 16), .inl ((cA 16), 12, .inl (f 16))), ((a 17), .inl ((cA 17), 12, .inl (f 17))), ((a 18), .inl ((cA 18), 12, .inl (f 18))), ((a 19), .inl ((cA 19), 144, .inl (f 19)))] [((cA 2), .int), ((cA 11), .int), ((cA 12), .int), ((cA 13), .int), ((cA 14), .int), ((cA 15), .int), ((cA 16), .int), ((cA 17), .int), ((cA 18), .int), ((cA 19), .int)])) (va_Qi (fun r (_ : Unit) => r = (-1)) (fun _ _ => True) (fun _ => False)) 0 0 (fun _ => False) := by
  refine Met.ofW (cc := cX10_exchange) (maxL := 2) (ret := (some .int)) (by decide) rfl ?_
  intro p e s m args below meth c s₁ B hml hv
  obtain ⟨rfl, hP, hK⟩ := hv
  have hx := B.exec
  have hb := B.bytes
  have hr := B.returns
  have hts := atoms_spec (ws := .code yX10_exchange cX10_exchange 2 (some .int) :: gw) B.pre
  have htg := gw_tl hts
  have hown : s.vm.findClass RX10 = some m.cls := findClass_of_methodNamed B.named
  have hlocks := B.notSynchronized
  have hS : va_S (fun _ => False) s.heap s.heap [] := va_S.rf
  have hl := lv_entry ([.ref (a 0), .int x]) (n := 2) (Nat.le_of_ble_eq_true rfl)
  rw [lg_entry_eq]
  generalize (lg_sl ([.ref (a 0), .int x]) ++ List.replicate (2 - (lg_sl ([.ref (a 0), .int x])).length) Slot.unset).toArray = ls at hl ⊢
  have hl : lv_has ls 2 [(0, .ref (a 0)), (1, .int x)] := hl
  refine lv_aload_n hx hb dX10_exchange_0 rfl (lv_at hl 0 rfl) ?_
  refine va_get (D := D) (ci := 10) (v := .ref (a 4)) (C := RX10) (T := TX10) (N := 17) hx hb htg in_X10 hown hK hP 0 rfl rfl 5 (by decide) (htg _ mw_13) (fun _ h9 => h9) rfl dX10_exchange_1 ?_
  refine lv_iload_n hx hb dX10_exchange_4 rfl (lv_at hl 1 rfl) ?_
  have hPc := hP.sub (ws' := [((a 4), .inr (4, [.int 0, .int 0, .ref (a 43), .ref (a 44), .ref (a 45), .ref (a 46), .ref (a 47), .ref (a 48), .ref (a 49), .ref (a 50), .ref (a 51)]))]) [4] rfl
  have hKc := hK.sub (tys' := []) [] rfl
  refine va_calli (va_runV (As := [.int x]) (rest := []) ⟨hx, hb, hml, hown, htg⟩ (c_X4_hasClerk l D (a 4) [.ref (a 43), .ref (a 44), .ref (a 45), .ref (a 46), .ref (a 47), .ref (a 48), .ref (a 49), .ref (a 50), .ref (a 51)] x) (cV 1 htg mw_19 kv_X4_hasClerk rfl rfl ⟨(Nat.le_of_ble_eq_true rfl), (Nat.le_of_ble_eq_true rfl)⟩) ⟨bl_r, va_recv hKc hPc (ci := 4) (q0 := 0) rfl rfl, us_r hPc hKc⟩ rfl rfl hl.1 rfl (lv_room (Nat.le_of_ble_eq_true rfl)) dX10_exchange_5 ⟨(Nat.le_of_ble_eq_true rfl), (Nat.le_of_ble_eq_true rfl)⟩) hS (fun _ _ h9 => False.elim h9) (fun _ h9 => False.elim h9) (fun r_1 u t H locs ht hvm hw hB hz1 hk1 hS => ?_)
  have hP := ro_keep hP hk1
  subst hw
  refine lv_if_ne (tgt := 13) hx hb dX10_exchange_8 (by decide) (fun h9 => False.elim (h9 (by decide))) (fun _ => ?_)
  refine lv_iconst (v := (-1)) hx hb dX10_exchange_11 (by decide) ?_
  exact W.iret (v := (-1)) hx hb hr  (fun t ht hW => ⟨⟨(-1), (), rfl, rfl, trivial⟩, hS.F ht⟩) hS.2.2 dX10_exchange_12

set_option maxHeartbeats 4000000 in
set_option maxRecDepth 100000 in
theorem c_X10_agree (l : Launch) (D : va_G) (a : Nat → Nat) (cA : Nat → ClassId) (f : Nat → Nat → Int32) (x : Int32) : Met l yX10_agree (.code yX10_agree cX10_agree 5 (some .int) :: gw) ({ frames := 0, cells := 0, slots := 0, locals := 0 }) (va_Pc [.ref (a 0), .int x] (pr D [((a 0), .inr (10, [.ref (a 1), .ref (a 3), .ref (a 40), .int 0, .int (-1), .ref (a 4), .ref (a 5), .ref (a 6), .ref (a 7), .ref (a 8), .ref (a 9), .ref (a 10), .null, .null, .int 0, .int (-1), .ref (a 41)])), ((a 1), .inr (6, [.ref (a 2), .int 0, .int 0])), ((a 2), .inl ((cA 2), 160, .inl (f 2))), ((a 3), .inr (3, [.ref (a 1), .ref (a 42), .int 0, .int 0])), ((a 4), .inr (4, [.int 0, .int 0, .ref (a 43), .ref (a 44), .ref (a 45), .ref (a 46), .ref (a 47), .ref (a 48), .ref (a 49), .ref (a 50), .ref (a 51)])), ((a 5), .inr (4, [.int 0, .int 0, .ref (a 11), .ref (a 12), .ref (a 13), .ref (a 14), .ref (a 15), .ref (a 16), .ref (a 17), .ref (a 18), .ref (a 19)])), ((a 6), .inr (5, [.ref (a 52), .int 0, .ref (a 53), .int 0, .int 0, .int 0])), ((a 7), .inr (5, [.ref (a 54), .int 0, .ref (a 55), .int 0, .int 0, .int 0])), ((a 8), .inr (1, [.ref (a 56), .int 0, .int 0, .ref (a 57), .int 0, .ref (a 58)])), ((a 9), .inr (7, [.ref (a 59), .ref (a 60), .ref (a 61)])), ((a 11), .inl ((cA 11), 12, .inl (f 11))), ((a 12), .inl ((cA 12), 12, .inl (f 12))), ((a 13), .inl ((cA 13), 144, .inl (f 13))), ((a 14), .inl ((cA 14), 12, .inl (f 14))), ((a 15), .inl ((cA 15), 12, .inl (f 15))), ((a 16), .inl ((cA 16), 12, .inl (f 16))), ((a 17), .inl ((cA 17), 12, .inl (f 17))), ((a 18), .inl ((cA 18), 12, .inl (f 18))), ((a 19), .inl ((cA 19), 144, .inl (f 19)))] [((cA 2), .int), ((cA 11), .int), ((cA 12), .int), ((cA 13), .int), ((cA 14), .int), ((cA 15), .int), ((cA 16), .int), ((cA 17), .int), ((cA 18), .int), ((cA 19), .int)])) (va_Qi (fun r (_ : Unit) => r = (-1)) (fun _ _ => True) (fun _ => False)) 0 0 (fun _ => False) := by
  refine Met.ofW (cc := cX10_agree) (maxL := 5) (ret := (some .int)) (by decide) rfl ?_
  intro p e s m args below meth c s₁ B hml hv
  obtain ⟨rfl, hP, hK⟩ := hv
  have hx := B.exec
  have hb := B.bytes
  have hr := B.returns
  have hts := atoms_spec (ws := .code yX10_agree cX10_agree 5 (some .int) :: gw) B.pre
  have htg := gw_tl hts
  have hown : s.vm.findClass RX10 = some m.cls := findClass_of_methodNamed B.named
  have hlocks := B.notSynchronized
  have hS : va_S (fun _ => False) s.heap s.heap [] := va_S.rf
  have hl := lv_entry ([.ref (a 0), .int x]) (n := 5) (Nat.le_of_ble_eq_true rfl)
  rw [lg_entry_eq]
  generalize (lg_sl ([.ref (a 0), .int x]) ++ List.replicate (5 - (lg_sl ([.ref (a 0), .int x])).length) Slot.unset).toArray = ls at hl ⊢
  have hl : lv_has ls 5 [(0, .ref (a 0)), (1, .int x)] := hl
  refine lv_aload_n hx hb dX10_agree_0 rfl (lv_at hl 0 rfl) ?_
  refine va_get (D := D) (ci := 10) (v := .ref (a 4)) (C := RX10) (T := TX10) (N := 17) hx hb htg in_X10 hown hK hP 0 rfl rfl 5 (by decide) (htg _ mw_13) (fun _ h9 => h9) rfl dX10_agree_1 ?_
  refine va_get (D := D) (ci := 4) (v := .int 0) (C := RX4) (T := TX4) (N := 11) hx hb htg in_X4 hown hK hP 4 rfl rfl 0 (by decide) (htg _ mw_14) (fun _ h9 => h9) rfl dX10_agree_4 ?_
  refine lv_if_eq (tgt := 15) hx hb dX10_agree_7 (by decide) (fun _ => ?_) (fun h9 => False.elim (h9 (by decide)))
  refine lv_iconst (v := (-1)) hx hb dX10_agree_15 (by decide) ?_
  exact W.iret (v := (-1)) hx hb hr  (fun t ht hW => ⟨⟨(-1), (), rfl, rfl, trivial⟩, hS.F ht⟩) hS.2.2 dX10_agree_16

set_option maxHeartbeats 4000000 in
set_option maxRecDepth 100000 in
theorem c_X10_vote (l : Launch) (D : va_G) (a : Nat → Nat) (cA : Nat → ClassId) (f : Nat → Nat → Int32) (x y : Int32) : Met l yX10_vote (.code yX10_vote cX10_vote 3 (some .int) :: gw) ({ frames := 1, cells := 0, slots := 0, locals := 40 }) (va_Pc [.ref (a 0), .int x, .int y] (pr D [((a 0), .inr (10, [.ref (a 1), .ref (a 3), .ref (a 40), .int 0, .int (-1), .ref (a 4), .ref (a 5), .ref (a 6), .ref (a 7), .ref (a 8), .ref (a 9), .ref (a 10), .null, .null, .int 0, .int (-1), .ref (a 41)])), ((a 1), .inr (6, [.ref (a 2), .int 0, .int 0])), ((a 2), .inl ((cA 2), 160, .inl (f 2))), ((a 3), .inr (3, [.ref (a 1), .ref (a 42), .int 0, .int 0])), ((a 4), .inr (4, [.int 0, .int 0, .ref (a 43), .ref (a 44), .ref (a 45), .ref (a 46), .ref (a 47), .ref (a 48), .ref (a 49), .ref (a 50), .ref (a 51)])), ((a 5), .inr (4, [.int 0, .int 0, .ref (a 11), .ref (a 12), .ref (a 13), .ref (a 14), .ref (a 15), .ref (a 16), .ref (a 17), .ref (a 18), .ref (a 19)])), ((a 6), .inr (5, [.ref (a 52), .int 0, .ref (a 53), .int 0, .int 0, .int 0])), ((a 7), .inr (5, [.ref (a 54), .int 0, .ref (a 55), .int 0, .int 0, .int 0])), ((a 8), .inr (1, [.ref (a 56), .int 0, .int 0, .ref (a 57), .int 0, .ref (a 58)])), ((a 9), .inr (7, [.ref (a 59), .ref (a 60), .ref (a 61)])), ((a 11), .inl ((cA 11), 12, .inl (f 11))), ((a 12), .inl ((cA 12), 12, .inl (f 12))), ((a 13), .inl ((cA 13), 144, .inl (f 13))), ((a 14), .inl ((cA 14), 12, .inl (f 14))), ((a 15), .inl ((cA 15), 12, .inl (f 15))), ((a 16), .inl ((cA 16), 12, .inl (f 16))), ((a 17), .inl ((cA 17), 12, .inl (f 17))), ((a 18), .inl ((cA 18), 12, .inl (f 18))), ((a 19), .inl ((cA 19), 144, .inl (f 19)))] [((cA 2), .int), ((cA 11), .int), ((cA 12), .int), ((cA 13), .int), ((cA 14), .int), ((cA 15), .int), ((cA 16), .int), ((cA 17), .int), ((cA 18), .int), ((cA 19), .int)])) (va_Qi (fun r (_ : Unit) => r = (-1000000)) (fun _ _ => True) (fun _ => False)) 0 0 (fun _ => False) := by
  refine Met.ofW (cc := cX10_vote) (maxL := 3) (ret := (some .int)) (by decide) rfl ?_
  intro p e s m args below meth c s₁ B hml hv
  obtain ⟨rfl, hP, hK⟩ := hv
  have hx := B.exec
  have hb := B.bytes
  have hr := B.returns
  have hts := atoms_spec (ws := .code yX10_vote cX10_vote 3 (some .int) :: gw) B.pre
  have htg := gw_tl hts
  have hown : s.vm.findClass RX10 = some m.cls := findClass_of_methodNamed B.named
  have hlocks := B.notSynchronized
  have hS : va_S (fun _ => False) s.heap s.heap [] := va_S.rf
  have hl := lv_entry ([.ref (a 0), .int x, .int y]) (n := 3) (Nat.le_of_ble_eq_true rfl)
  rw [lg_entry_eq]
  generalize (lg_sl ([.ref (a 0), .int x, .int y]) ++ List.replicate (3 - (lg_sl ([.ref (a 0), .int x, .int y])).length) Slot.unset).toArray = ls at hl ⊢
  have hl : lv_has ls 3 [(0, .ref (a 0)), (1, .int x), (2, .int y)] := hl
  refine lv_aload_n hx hb dX10_vote_0 rfl (lv_at hl 0 rfl) ?_
  refine va_get (D := D) (ci := 10) (v := .ref (a 4)) (C := RX10) (T := TX10) (N := 17) hx hb htg in_X10 hown hK hP 0 rfl rfl 5 (by decide) (htg _ mw_13) (fun _ h9 => h9) rfl dX10_vote_1 ?_
  refine lv_iload_n hx hb dX10_vote_4 rfl (lv_at hl 1 rfl) ?_
  have hPc := hP.sub (ws' := [((a 4), .inr (4, [.int 0, .int 0, .ref (a 43), .ref (a 44), .ref (a 45), .ref (a 46), .ref (a 47), .ref (a 48), .ref (a 49), .ref (a 50), .ref (a 51)]))]) [4] rfl
  have hKc := hK.sub (tys' := []) [] rfl
  refine va_calli (va_runV (As := [.int x]) (rest := []) ⟨hx, hb, hml, hown, htg⟩ (c_X4_hasDesk l D (a 4) [.ref (a 43), .ref (a 44), .ref (a 45), .ref (a 46), .ref (a 47), .ref (a 48), .ref (a 49), .ref (a 50), .ref (a 51)] x) (cV 1 htg mw_40 kv_X4_hasDesk rfl rfl ⟨(Nat.le_of_ble_eq_true rfl), (Nat.le_of_ble_eq_true rfl)⟩) ⟨bl_r, va_recv hKc hPc (ci := 4) (q0 := 0) rfl rfl, us_r hPc hKc⟩ rfl rfl hl.1 rfl (lv_room (Nat.le_of_ble_eq_true rfl)) dX10_vote_5 ⟨(Nat.le_of_ble_eq_true rfl), (Nat.le_of_ble_eq_true rfl)⟩) hS (fun _ _ h9 => False.elim h9) (fun _ h9 => False.elim h9) (fun r_1 u t H locs ht hvm hw hB hz1 hk1 hS => ?_)
  have hP := ro_keep hP hk1
  subst hw
  refine lv_if_eq (tgt := 27) hx hb dX10_vote_8 (by decide) (fun _ => ?_) (fun h9 => False.elim (h9 (by decide)))
  refine lv_ldc (v := (-1000000)) hx hb hown (htg _ mw_39) dX10_vote_27 ?_
  exact W.iret (v := (-1000000)) hx hb hr  (fun t ht hW => ⟨⟨(-1000000), (), rfl, rfl, trivial⟩, hS.F ht⟩) hS.2.2 dX10_vote_29

set_option maxHeartbeats 4000000 in
set_option maxRecDepth 100000 in
theorem c_X10_image (l : Launch) (D : va_G) (a : Nat → Nat) (cA : Nat → ClassId) (f : Nat → Nat → Int32)  : Met l yX10_image (.code yX10_image cX10_image 1 (some .int) :: gw) ({ frames := 0, cells := 0, slots := 0, locals := 0 }) (va_Pc [.ref (a 0)] (pr D [((a 0), .inr (10, [.ref (a 1), .ref (a 3), .ref (a 40), .int 0, .int (-1), .ref (a 4), .ref (a 5), .ref (a 6), .ref (a 7), .ref (a 8), .ref (a 9), .ref (a 10), .null, .null, .int 0, .int (-1), .ref (a 41)])), ((a 1), .inr (6, [.ref (a 2), .int 0, .int 0])), ((a 2), .inl ((cA 2), 160, .inl (f 2))), ((a 3), .inr (3, [.ref (a 1), .ref (a 42), .int 0, .int 0])), ((a 4), .inr (4, [.int 0, .int 0, .ref (a 43), .ref (a 44), .ref (a 45), .ref (a 46), .ref (a 47), .ref (a 48), .ref (a 49), .ref (a 50), .ref (a 51)])), ((a 5), .inr (4, [.int 0, .int 0, .ref (a 11), .ref (a 12), .ref (a 13), .ref (a 14), .ref (a 15), .ref (a 16), .ref (a 17), .ref (a 18), .ref (a 19)])), ((a 6), .inr (5, [.ref (a 52), .int 0, .ref (a 53), .int 0, .int 0, .int 0])), ((a 7), .inr (5, [.ref (a 54), .int 0, .ref (a 55), .int 0, .int 0, .int 0])), ((a 8), .inr (1, [.ref (a 56), .int 0, .int 0, .ref (a 57), .int 0, .ref (a 58)])), ((a 9), .inr (7, [.ref (a 59), .ref (a 60), .ref (a 61)])), ((a 11), .inl ((cA 11), 12, .inl (f 11))), ((a 12), .inl ((cA 12), 12, .inl (f 12))), ((a 13), .inl ((cA 13), 144, .inl (f 13))), ((a 14), .inl ((cA 14), 12, .inl (f 14))), ((a 15), .inl ((cA 15), 12, .inl (f 15))), ((a 16), .inl ((cA 16), 12, .inl (f 16))), ((a 17), .inl ((cA 17), 12, .inl (f 17))), ((a 18), .inl ((cA 18), 12, .inl (f 18))), ((a 19), .inl ((cA 19), 144, .inl (f 19)))] [((cA 2), .int), ((cA 11), .int), ((cA 12), .int), ((cA 13), .int), ((cA 14), .int), ((cA 15), .int), ((cA 16), .int), ((cA 17), .int), ((cA 18), .int), ((cA 19), .int)])) (va_Qi (fun r (_ : Unit) => r = (-1)) (fun _ _ => True) (fun _ => False)) 0 0 (fun _ => False) := by
  refine Met.ofW (cc := cX10_image) (maxL := 1) (ret := (some .int)) (by decide) rfl ?_
  intro p e s m args below meth c s₁ B hml hv
  obtain ⟨rfl, hP, hK⟩ := hv
  have hx := B.exec
  have hb := B.bytes
  have hr := B.returns
  have hts := atoms_spec (ws := .code yX10_image cX10_image 1 (some .int) :: gw) B.pre
  have htg := gw_tl hts
  have hown : s.vm.findClass RX10 = some m.cls := findClass_of_methodNamed B.named
  have hlocks := B.notSynchronized
  have hS : va_S (fun _ => False) s.heap s.heap [] := va_S.rf
  have hl := lv_entry ([.ref (a 0)]) (n := 1) (Nat.le_of_ble_eq_true rfl)
  rw [lg_entry_eq]
  generalize (lg_sl ([.ref (a 0)]) ++ List.replicate (1 - (lg_sl ([.ref (a 0)])).length) Slot.unset).toArray = ls at hl ⊢
  have hl : lv_has ls 1 [(0, .ref (a 0))] := hl
  refine lv_aload_n hx hb dX10_image_0 rfl (lv_at hl 0 rfl) ?_
  refine va_get (D := D) (ci := 10) (v := .ref (a 4)) (C := RX10) (T := TX10) (N := 17) hx hb htg in_X10 hown hK hP 0 rfl rfl 5 (by decide) (htg _ mw_13) (fun _ h9 => h9) rfl dX10_image_1 ?_
  refine va_get (D := D) (ci := 4) (v := .int 0) (C := RX4) (T := TX4) (N := 11) hx hb htg in_X4 hown hK hP 4 rfl rfl 0 (by decide) (htg _ mw_14) (fun _ h9 => h9) rfl dX10_image_4 ?_
  refine lv_if_ne (tgt := 12) hx hb dX10_image_7 (by decide) (fun h9 => False.elim (h9 (by decide))) (fun _ => ?_)
  refine lv_iconst (v := (-1)) hx hb dX10_image_10 (by decide) ?_
  exact W.iret (v := (-1)) hx hb hr  (fun t ht hW => ⟨⟨(-1), (), rfl, rfl, trivial⟩, hS.F ht⟩) hS.2.2 dX10_image_11

set_option maxHeartbeats 4000000 in
set_option maxRecDepth 100000 in
theorem c_X10_back (l : Launch) (D : va_G) (a : Nat → Nat) (cA : Nat → ClassId) (f : Nat → Nat → Int32)  : Met l yX10_back (.code yX10_back cX10_back 1 (some .int) :: gw) ({ frames := 0, cells := 0, slots := 0, locals := 0 }) (va_Pc [.ref (a 0)] (pr D [((a 0), .inr (10, [.ref (a 1), .ref (a 3), .ref (a 40), .int 0, .int (-1), .ref (a 4), .ref (a 5), .ref (a 6), .ref (a 7), .ref (a 8), .ref (a 9), .ref (a 10), .null, .null, .int 0, .int (-1), .ref (a 41)])), ((a 1), .inr (6, [.ref (a 2), .int 0, .int 0])), ((a 2), .inl ((cA 2), 160, .inl (f 2))), ((a 3), .inr (3, [.ref (a 1), .ref (a 42), .int 0, .int 0])), ((a 4), .inr (4, [.int 0, .int 0, .ref (a 43), .ref (a 44), .ref (a 45), .ref (a 46), .ref (a 47), .ref (a 48), .ref (a 49), .ref (a 50), .ref (a 51)])), ((a 5), .inr (4, [.int 0, .int 0, .ref (a 11), .ref (a 12), .ref (a 13), .ref (a 14), .ref (a 15), .ref (a 16), .ref (a 17), .ref (a 18), .ref (a 19)])), ((a 6), .inr (5, [.ref (a 52), .int 0, .ref (a 53), .int 0, .int 0, .int 0])), ((a 7), .inr (5, [.ref (a 54), .int 0, .ref (a 55), .int 0, .int 0, .int 0])), ((a 8), .inr (1, [.ref (a 56), .int 0, .int 0, .ref (a 57), .int 0, .ref (a 58)])), ((a 9), .inr (7, [.ref (a 59), .ref (a 60), .ref (a 61)])), ((a 11), .inl ((cA 11), 12, .inl (f 11))), ((a 12), .inl ((cA 12), 12, .inl (f 12))), ((a 13), .inl ((cA 13), 144, .inl (f 13))), ((a 14), .inl ((cA 14), 12, .inl (f 14))), ((a 15), .inl ((cA 15), 12, .inl (f 15))), ((a 16), .inl ((cA 16), 12, .inl (f 16))), ((a 17), .inl ((cA 17), 12, .inl (f 17))), ((a 18), .inl ((cA 18), 12, .inl (f 18))), ((a 19), .inl ((cA 19), 144, .inl (f 19)))] [((cA 2), .int), ((cA 11), .int), ((cA 12), .int), ((cA 13), .int), ((cA 14), .int), ((cA 15), .int), ((cA 16), .int), ((cA 17), .int), ((cA 18), .int), ((cA 19), .int)])) (va_Qi (fun r (_ : Unit) => r = (-1)) (fun _ _ => True) (fun _ => False)) 0 0 (fun _ => False) := by
  refine Met.ofW (cc := cX10_back) (maxL := 1) (ret := (some .int)) (by decide) rfl ?_
  intro p e s m args below meth c s₁ B hml hv
  obtain ⟨rfl, hP, hK⟩ := hv
  have hx := B.exec
  have hb := B.bytes
  have hr := B.returns
  have hts := atoms_spec (ws := .code yX10_back cX10_back 1 (some .int) :: gw) B.pre
  have htg := gw_tl hts
  have hown : s.vm.findClass RX10 = some m.cls := findClass_of_methodNamed B.named
  have hlocks := B.notSynchronized
  have hS : va_S (fun _ => False) s.heap s.heap [] := va_S.rf
  have hl := lv_entry ([.ref (a 0)]) (n := 1) (Nat.le_of_ble_eq_true rfl)
  rw [lg_entry_eq]
  generalize (lg_sl ([.ref (a 0)]) ++ List.replicate (1 - (lg_sl ([.ref (a 0)])).length) Slot.unset).toArray = ls at hl ⊢
  have hl : lv_has ls 1 [(0, .ref (a 0))] := hl
  refine lv_aload_n hx hb dX10_back_0 rfl (lv_at hl 0 rfl) ?_
  refine va_get (D := D) (ci := 10) (v := .ref (a 8)) (C := RX10) (T := TX10) (N := 17) hx hb htg in_X10 hown hK hP 0 rfl rfl 9 (by decide) (htg _ mw_30) (fun _ h9 => h9) rfl dX10_back_1 ?_
  refine va_get (D := D) (ci := 1) (v := .int 0) (C := RX1) (T := TX1) (N := 6) hx hb htg in_X1 hown hK hP 8 rfl rfl 2 (by decide) (htg _ mw_51) (fun _ h9 => h9) rfl dX10_back_4 ?_
  refine lv_if_ne (tgt := 12) hx hb dX10_back_7 (by decide) (fun h9 => False.elim (h9 (by decide))) (fun _ => ?_)
  refine lv_iconst (v := (-1)) hx hb dX10_back_10 (by decide) ?_
  exact W.iret (v := (-1)) hx hb hr  (fun t ht hW => ⟨⟨(-1), (), rfl, rfl, trivial⟩, hS.F ht⟩) hS.2.2 dX10_back_11

set_option maxHeartbeats 4000000 in
set_option maxRecDepth 100000 in
theorem c_X10_told (l : Launch) (D : va_G) (a : Nat → Nat) (cA : Nat → ClassId) (f : Nat → Nat → Int32) (x : Int32) : Met l yX10_told (.code yX10_told cX10_told 2 (some .int) :: gw) ({ frames := 0, cells := 0, slots := 0, locals := 0 }) (va_Pc [.ref (a 0), .int x] (pr D [((a 0), .inr (10, [.ref (a 1), .ref (a 3), .ref (a 40), .int 0, .int (-1), .ref (a 4), .ref (a 5), .ref (a 6), .ref (a 7), .ref (a 8), .ref (a 9), .ref (a 10), .null, .null, .int 0, .int (-1), .ref (a 41)])), ((a 1), .inr (6, [.ref (a 2), .int 0, .int 0])), ((a 2), .inl ((cA 2), 160, .inl (f 2))), ((a 3), .inr (3, [.ref (a 1), .ref (a 42), .int 0, .int 0])), ((a 4), .inr (4, [.int 0, .int 0, .ref (a 43), .ref (a 44), .ref (a 45), .ref (a 46), .ref (a 47), .ref (a 48), .ref (a 49), .ref (a 50), .ref (a 51)])), ((a 5), .inr (4, [.int 0, .int 0, .ref (a 11), .ref (a 12), .ref (a 13), .ref (a 14), .ref (a 15), .ref (a 16), .ref (a 17), .ref (a 18), .ref (a 19)])), ((a 6), .inr (5, [.ref (a 52), .int 0, .ref (a 53), .int 0, .int 0, .int 0])), ((a 7), .inr (5, [.ref (a 54), .int 0, .ref (a 55), .int 0, .int 0, .int 0])), ((a 8), .inr (1, [.ref (a 56), .int 0, .int 0, .ref (a 57), .int 0, .ref (a 58)])), ((a 9), .inr (7, [.ref (a 59), .ref (a 60), .ref (a 61)])), ((a 11), .inl ((cA 11), 12, .inl (f 11))), ((a 12), .inl ((cA 12), 12, .inl (f 12))), ((a 13), .inl ((cA 13), 144, .inl (f 13))), ((a 14), .inl ((cA 14), 12, .inl (f 14))), ((a 15), .inl ((cA 15), 12, .inl (f 15))), ((a 16), .inl ((cA 16), 12, .inl (f 16))), ((a 17), .inl ((cA 17), 12, .inl (f 17))), ((a 18), .inl ((cA 18), 12, .inl (f 18))), ((a 19), .inl ((cA 19), 144, .inl (f 19)))] [((cA 2), .int), ((cA 11), .int), ((cA 12), .int), ((cA 13), .int), ((cA 14), .int), ((cA 15), .int), ((cA 16), .int), ((cA 17), .int), ((cA 18), .int), ((cA 19), .int)])) (va_Qi (fun r (_ : Unit) => r = sp_told x) (fun _ _ => True) (fun _ => False)) 0 0 (fun _ => False) := by
  refine Met.ofW (cc := cX10_told) (maxL := 2) (ret := (some .int)) (by decide) rfl ?_
  intro p e s m args below meth c s₁ B hml hv
  obtain ⟨rfl, hP, hK⟩ := hv
  have hx := B.exec
  have hb := B.bytes
  have hr := B.returns
  have hts := atoms_spec (ws := .code yX10_told cX10_told 2 (some .int) :: gw) B.pre
  have htg := gw_tl hts
  have hown : s.vm.findClass RX10 = some m.cls := findClass_of_methodNamed B.named
  have hlocks := B.notSynchronized
  have hS : va_S (fun _ => False) s.heap s.heap [] := va_S.rf
  have hl := lv_entry ([.ref (a 0), .int x]) (n := 2) (Nat.le_of_ble_eq_true rfl)
  rw [lg_entry_eq]
  generalize (lg_sl ([.ref (a 0), .int x]) ++ List.replicate (2 - (lg_sl ([.ref (a 0), .int x])).length) Slot.unset).toArray = ls at hl ⊢
  have hl : lv_has ls 2 [(0, .ref (a 0)), (1, .int x)] := hl
  refine lv_iload_n hx hb dX10_told_0 rfl (lv_at hl 1 rfl) ?_
  by_cases h_1 : x = 0
  · subst h_1
    have hl : lv_has ls 2 [(0, .ref (a 0)), (1, .int 0)] := hl
    refine lv_tableIn (off := 43) (tgt := 44) hx hb dX10_told_1 (by decide) (by decide) rfl (by decide) ?_
    refine lv_aload_n hx hb dX10_told_44 rfl (lv_at hl 0 rfl) ?_
    refine va_get (D := D) (ci := 10) (v := .ref (a 4)) (C := RX10) (T := TX10) (N := 17) hx hb htg in_X10 hown hK hP 0 rfl rfl 5 (by decide) (htg _ mw_13) (fun _ h9 => h9) rfl dX10_told_45 ?_
    refine va_get (D := D) (ci := 4) (v := .int 0) (C := RX4) (T := TX4) (N := 11) hx hb htg in_X4 hown hK hP 4 rfl rfl 0 (by decide) (htg _ mw_14) (fun _ h9 => h9) rfl dX10_told_48 ?_
    exact W.iret (v := 0) hx hb hr  (fun t ht hW => ⟨⟨0, (), rfl, (by decide), trivial⟩, hS.F ht⟩) hS.2.2 dX10_told_51
  by_cases h_2 : x = 1
  · subst h_2
    have hl : lv_has ls 2 [(0, .ref (a 0)), (1, .int 1)] := hl
    refine lv_tableIn (off := 51) (tgt := 52) hx hb dX10_told_1 (by decide) (by decide) rfl (by decide) ?_
    refine lv_aload_n hx hb dX10_told_52 rfl (lv_at hl 0 rfl) ?_
    refine va_get (D := D) (ci := 10) (v := .ref (a 4)) (C := RX10) (T := TX10) (N := 17) hx hb htg in_X10 hown hK hP 0 rfl rfl 5 (by decide) (htg _ mw_13) (fun _ h9 => h9) rfl dX10_told_53 ?_
    refine va_get (D := D) (ci := 4) (v := .int 0) (C := RX4) (T := TX4) (N := 11) hx hb htg in_X4 hown hK hP 4 rfl rfl 1 (by decide) (htg _ mw_52) (fun _ h9 => h9) rfl dX10_told_56 ?_
    exact W.iret (v := 0) hx hb hr  (fun t ht hW => ⟨⟨0, (), rfl, (by decide), trivial⟩, hS.F ht⟩) hS.2.2 dX10_told_59
  by_cases h_3 : x = 2
  · subst h_3
    have hl : lv_has ls 2 [(0, .ref (a 0)), (1, .int 2)] := hl
    refine lv_tableIn (off := 59) (tgt := 60) hx hb dX10_told_1 (by decide) (by decide) rfl (by decide) ?_
    refine lv_aload_n hx hb dX10_told_60 rfl (lv_at hl 0 rfl) ?_
    refine va_get (D := D) (ci := 10) (v := .int 0) (C := RX10) (T := TX10) (N := 17) hx hb htg in_X10 hown hK hP 0 rfl rfl 3 (by decide) (htg _ mw_53) (fun _ h9 => h9) rfl dX10_told_61 ?_
    exact W.iret (v := 0) hx hb hr  (fun t ht hW => ⟨⟨0, (), rfl, (by decide), trivial⟩, hS.F ht⟩) hS.2.2 dX10_told_64
  by_cases h_4 : x = 3
  · subst h_4
    have hl : lv_has ls 2 [(0, .ref (a 0)), (1, .int 3)] := hl
    refine lv_tableIn (off := 64) (tgt := 65) hx hb dX10_told_1 (by decide) (by decide) rfl (by decide) ?_
    refine lv_aload_n hx hb dX10_told_65 rfl (lv_at hl 0 rfl) ?_
    refine va_get (D := D) (ci := 10) (v := .ref (a 1)) (C := RX10) (T := TX10) (N := 17) hx hb htg in_X10 hown hK hP 0 rfl rfl 0 (by decide) (htg _ mw_54) (fun _ h9 => h9) rfl dX10_told_66 ?_
    refine va_get (D := D) (ci := 6) (v := .int 0) (C := RX6) (T := TX6) (N := 3) hx hb htg in_X6 hown hK hP 1 rfl rfl 1 (by decide) (htg _ mw_55) (fun _ h9 => h9) rfl dX10_told_69 ?_
    exact W.iret (v := 0) hx hb hr  (fun t ht hW => ⟨⟨0, (), rfl, (by decide), trivial⟩, hS.F ht⟩) hS.2.2 dX10_told_72
  by_cases h_5 : x = 4
  · subst h_5
    have hl : lv_has ls 2 [(0, .ref (a 0)), (1, .int 4)] := hl
    refine lv_tableIn (off := 72) (tgt := 73) hx hb dX10_told_1 (by decide) (by decide) rfl (by decide) ?_
    refine lv_aload_n hx hb dX10_told_73 rfl (lv_at hl 0 rfl) ?_
    refine va_get (D := D) (ci := 10) (v := .ref (a 6)) (C := RX10) (T := TX10) (N := 17) hx hb htg in_X10 hown hK hP 0 rfl rfl 7 (by decide) (htg _ mw_37) (fun _ h9 => h9) rfl dX10_told_74 ?_
    refine va_get (D := D) (ci := 5) (v := .int 0) (C := RX5) (T := TX5) (N := 6) hx hb htg in_X5 hown hK hP 6 rfl rfl 1 (by decide) (htg _ mw_38) (fun _ h9 => h9) rfl dX10_told_77 ?_
    refine lv_if_le (tgt := 93) hx hb dX10_told_80 (by decide) (fun _ => ?_) (fun h9 => False.elim (h9 (by decide)))
    refine lv_iconst (v := (-1)) hx hb dX10_told_93 (by decide) ?_
    exact W.iret (v := (-1)) hx hb hr  (fun t ht hW => ⟨⟨(-1), (), rfl, (by decide), trivial⟩, hS.F ht⟩) hS.2.2 dX10_told_94
  by_cases h_6 : x = 5
  · subst h_6
    have hl : lv_has ls 2 [(0, .ref (a 0)), (1, .int 5)] := hl
    refine lv_tableIn (off := 94) (tgt := 95) hx hb dX10_told_1 (by decide) (by decide) rfl (by decide) ?_
    refine lv_aload_n hx hb dX10_told_95 rfl (lv_at hl 0 rfl) ?_
    refine va_get (D := D) (ci := 10) (v := .ref (a 8)) (C := RX10) (T := TX10) (N := 17) hx hb htg in_X10 hown hK hP 0 rfl rfl 9 (by decide) (htg _ mw_30) (fun _ h9 => h9) rfl dX10_told_96 ?_
    refine va_get (D := D) (ci := 1) (v := .int 0) (C := RX1) (T := TX1) (N := 6) hx hb htg in_X1 hown hK hP 8 rfl rfl 1 (by decide) (htg _ mw_31) (fun _ h9 => h9) rfl dX10_told_99 ?_
    exact W.iret (v := 0) hx hb hr  (fun t ht hW => ⟨⟨0, (), rfl, (by decide), trivial⟩, hS.F ht⟩) hS.2.2 dX10_told_102
  by_cases h_7 : x = 6
  · subst h_7
    have hl : lv_has ls 2 [(0, .ref (a 0)), (1, .int 6)] := hl
    refine lv_tableIn (off := 102) (tgt := 103) hx hb dX10_told_1 (by decide) (by decide) rfl (by decide) ?_
    refine lv_aload_n hx hb dX10_told_103 rfl (lv_at hl 0 rfl) ?_
    refine va_get (D := D) (ci := 10) (v := .int (-1)) (C := RX10) (T := TX10) (N := 17) hx hb htg in_X10 hown hK hP 0 rfl rfl 4 (by decide) (htg _ mw_20) (fun _ h9 => h9) rfl dX10_told_104 ?_
    exact W.iret (v := (-1)) hx hb hr  (fun t ht hW => ⟨⟨(-1), (), rfl, (by decide), trivial⟩, hS.F ht⟩) hS.2.2 dX10_told_107
  refine lv_tableOut (tgt := 108) hx hb dX10_told_1 (by have := lv_neT (a := 0) h_1 (by decide); have := lv_neT (a := 1) h_2 (by decide); have := lv_neT (a := 2) h_3 (by decide); have := lv_neT (a := 3) h_4 (by decide); have := lv_neT (a := 4) h_5 (by decide); have := lv_neT (a := 5) h_6 (by decide); have := lv_neT (a := 6) h_7 (by decide); omega) (by decide) ?_
  refine lv_ldc (v := (-1000000)) hx hb hown (htg _ mw_39) dX10_told_108 ?_
  exact W.iret (v := (-1000000)) hx hb hr  (fun t ht hW => ⟨⟨(-1000000), (), rfl, (by rw [sp_told, if_neg h_1, if_neg h_2, if_neg h_3, if_neg h_4, if_neg h_5, if_neg h_6, if_neg h_7]), trivial⟩, hS.F ht⟩) hS.2.2 dX10_told_110
