set_option maxHeartbeats 4000000 in
set_option maxRecDepth 100000 in
theorem c_X4_hasDesk (l : Launch) (D : va_G) (o : Nat) (os : List Value) (x : Int32) : Met l yX4_hasDesk (.code yX4_hasDesk cX4_hasDesk 2 (some .boolean) :: gw) ({ frames := 0, cells := 0, slots := 0, locals := 0 }) (va_Pc [.ref o, .int x] (pr D [(o, .inr (4, .int 0 :: .int 0 :: os))] [])) (va_Qi (fun r (_ : Unit) => r = 0) (fun _ _ => True) (fun _ => False)) 0 0 (fun _ => False) := by
  refine Met.ofW (cc := cX4_hasDesk) (maxL := 2) (ret := (some .boolean)) (by decide) rfl ?_
  intro p e s m args below meth c s₁ B hml hv
  obtain ⟨rfl, hP, hK⟩ := hv
  have hx := B.exec
  have hb := B.bytes
  have hr := B.returns
  have hts := atoms_spec (ws := .code yX4_hasDesk cX4_hasDesk 2 (some .boolean) :: gw) B.pre
  have htg := gw_tl hts
  have hown : s.vm.findClass RX4 = some m.cls := findClass_of_methodNamed B.named
  have hlocks := B.notSynchronized
  have hS : va_S (fun _ => False) s.heap s.heap [] := va_S.rf
  have hl := lv_entry ([.ref o, .int x]) (n := 2) (Nat.le_of_ble_eq_true rfl)
  rw [lg_entry_eq]
  generalize (lg_sl ([.ref o, .int x]) ++ List.replicate (2 - (lg_sl ([.ref o, .int x])).length) Slot.unset).toArray = ls at hl ⊢
  have hl : lv_has ls 2 [(0, .ref o), (1, .int x)] := hl
  refine lv_iload_n hx hb dX4_hasDesk_0 rfl (lv_at hl 1 rfl) ?_
  refine lv_if_lt (tgt := 22) hx hb dX4_hasDesk_1 (by decide) (fun h_1 => ?_) (fun h_1 => ?_)
  · refine lv_iconst (v := 0) hx hb dX4_hasDesk_22 (by decide) ?_
    exact W.zret (v := 0) hx hb hr (by first | rfl | decide | exact ar_nb _) (fun t ht hW => ⟨⟨0, (), rfl, rfl, trivial⟩, hS.F ht⟩) hS.2.2 dX4_hasDesk_23
  · refine lv_iload_n hx hb dX4_hasDesk_4 rfl (lv_at hl 1 rfl) ?_
    refine lv_aload_n hx hb dX4_hasDesk_5 rfl (lv_at hl 0 rfl) ?_
    refine va_get (D := D) (ci := 4) (v := .int 0) (C := RX4) (T := TX4) (N := 11) hx hb htg in_X4 hown hK hP 0 rfl rfl 0 (by decide) (htg _ mw_0) (fun _ h9 => h9) rfl dX4_hasDesk_6 ?_
    refine lv_icmp_ge (tgt := 22) hx hb dX4_hasDesk_9 (by decide) (fun h_2 => ?_) (fun h_2 => ?_)
    · refine lv_iconst (v := 0) hx hb dX4_hasDesk_22 (by decide) ?_
      exact W.zret (v := 0) hx hb hr (by first | rfl | decide | exact ar_nb _) (fun t ht hW => ⟨⟨0, (), rfl, rfl, trivial⟩, hS.F ht⟩) hS.2.2 dX4_hasDesk_23
    · exfalso
      simp only [ar_lt, ar_le, ar_eq, ar_n0, ar_n1, ar_n2, ar_n3, ar_n4, ar_n5, ar_n6, ar_n7, ar_n8, ar_n9, ar_n11, ar_n12, ar_n60, ar_n99, ar_nm1] at h_2 h_1
      omega

set_option maxHeartbeats 4000000 in
set_option maxRecDepth 100000 in
theorem c_X4_hasClerk (l : Launch) (D : va_G) (o : Nat) (os : List Value) (x : Int32) : Met l yX4_hasClerk (.code yX4_hasClerk cX4_hasClerk 2 (some .boolean) :: gw) ({ frames := 0, cells := 0, slots := 0, locals := 0 }) (va_Pc [.ref o, .int x] (pr D [(o, .inr (4, .int 0 :: .int 0 :: os))] [])) (va_Qi (fun r (_ : Unit) => r = 0) (fun _ _ => True) (fun _ => False)) 0 0 (fun _ => False) := by
  refine Met.ofW (cc := cX4_hasClerk) (maxL := 2) (ret := (some .boolean)) (by decide) rfl ?_
  intro p e s m args below meth c s₁ B hml hv
  obtain ⟨rfl, hP, hK⟩ := hv
  have hx := B.exec
  have hb := B.bytes
  have hr := B.returns
  have hts := atoms_spec (ws := .code yX4_hasClerk cX4_hasClerk 2 (some .boolean) :: gw) B.pre
  have htg := gw_tl hts
  have hown : s.vm.findClass RX4 = some m.cls := findClass_of_methodNamed B.named
  have hlocks := B.notSynchronized
  have hS : va_S (fun _ => False) s.heap s.heap [] := va_S.rf
  have hl := lv_entry ([.ref o, .int x]) (n := 2) (Nat.le_of_ble_eq_true rfl)
  rw [lg_entry_eq]
  generalize (lg_sl ([.ref o, .int x]) ++ List.replicate (2 - (lg_sl ([.ref o, .int x])).length) Slot.unset).toArray = ls at hl ⊢
  have hl : lv_has ls 2 [(0, .ref o), (1, .int x)] := hl
  refine lv_iload_n hx hb dX4_hasClerk_0 rfl (lv_at hl 1 rfl) ?_
  refine lv_if_lt (tgt := 25) hx hb dX4_hasClerk_1 (by decide) (fun h_1 => ?_) (fun h_1 => ?_)
  · refine lv_iconst (v := 0) hx hb dX4_hasClerk_25 (by decide) ?_
    exact W.zret (v := 0) hx hb hr (by first | rfl | decide | exact ar_nb _) (fun t ht hW => ⟨⟨0, (), rfl, rfl, trivial⟩, hS.F ht⟩) hS.2.2 dX4_hasClerk_26
  · refine lv_iload_n hx hb dX4_hasClerk_4 rfl (lv_at hl 1 rfl) ?_
    refine lv_bipush (v := 12) hx hb dX4_hasClerk_5 (by decide) ?_
    refine lv_icmp_ge (tgt := 25) hx hb dX4_hasClerk_7 (by decide) (fun h_2 => ?_) (fun h_2 => ?_)
    · refine lv_iconst (v := 0) hx hb dX4_hasClerk_25 (by decide) ?_
      exact W.zret (v := 0) hx hb hr (by first | rfl | decide | exact ar_nb _) (fun t ht hW => ⟨⟨0, (), rfl, rfl, trivial⟩, hS.F ht⟩) hS.2.2 dX4_hasClerk_26
    · refine lv_aload_n hx hb dX4_hasClerk_10 rfl (lv_at hl 0 rfl) ?_
      refine va_get (D := D) (ci := 4) (v := .int 0) (C := RX4) (T := TX4) (N := 11) hx hb htg in_X4 hown hK hP 0 rfl rfl 1 (by decide) (htg _ mw_1) (fun _ h9 => h9) rfl dX4_hasClerk_11 ?_
      refine lv_iload_n hx hb dX4_hasClerk_14 rfl (lv_at hl 1 rfl) ?_
      refine lv_ishr hx hb dX4_hasClerk_15 ?_
      refine lv_val (y := 0) (ar_shr0 _) ?_
      refine lv_iconst (v := 1) hx hb dX4_hasClerk_16 (by decide) ?_
      refine lv_iand hx hb dX4_hasClerk_17 ?_
      refine lv_val (y := 0) (by decide) ?_
      refine lv_if_eq (tgt := 25) hx hb dX4_hasClerk_18 (by decide) (fun _ => ?_) (fun h9 => False.elim (h9 (by decide)))
      refine lv_iconst (v := 0) hx hb dX4_hasClerk_25 (by decide) ?_
      exact W.zret (v := 0) hx hb hr (by first | rfl | decide | exact ar_nb _) (fun t ht hW => ⟨⟨0, (), rfl, rfl, trivial⟩, hS.F ht⟩) hS.2.2 dX4_hasClerk_26

set_option maxHeartbeats 4000000 in
set_option maxRecDepth 100000 in
theorem c_X4_lengthBetween (l : Launch) (D : va_G) (o : Nat) (os : List Value) (x y : Int32) : Met l yX4_lengthBetween (.code yX4_lengthBetween cX4_lengthBetween 3 (some .int) :: gw) ({ frames := 1, cells := 0, slots := 0, locals := 40 }) (va_Pc [.ref o, .int x, .int y] (pr D [(o, .inr (4, .int 0 :: .int 0 :: os))] [])) (va_Qi (fun r (_ : Unit) => r = 0) (fun _ _ => True) (fun _ => False)) 0 0 (fun _ => False) := by
  refine Met.ofW (cc := cX4_lengthBetween) (maxL := 3) (ret := (some .int)) (by decide) rfl ?_
  intro p e s m args below meth c s₁ B hml hv
  obtain ⟨rfl, hP, hK⟩ := hv
  have hx := B.exec
  have hb := B.bytes
  have hr := B.returns
  have hts := atoms_spec (ws := .code yX4_lengthBetween cX4_lengthBetween 3 (some .int) :: gw) B.pre
  have htg := gw_tl hts
  have hown : s.vm.findClass RX4 = some m.cls := findClass_of_methodNamed B.named
  have hlocks := B.notSynchronized
  have hS : va_S (fun _ => False) s.heap s.heap [] := va_S.rf
  have hl := lv_entry ([.ref o, .int x, .int y]) (n := 3) (Nat.le_of_ble_eq_true rfl)
  rw [lg_entry_eq]
  generalize (lg_sl ([.ref o, .int x, .int y]) ++ List.replicate (3 - (lg_sl ([.ref o, .int x, .int y])).length) Slot.unset).toArray = ls at hl ⊢
  have hl : lv_has ls 3 [(0, .ref o), (1, .int x), (2, .int y)] := hl
  refine lv_aload_n hx hb dX4_lengthBetween_0 rfl (lv_at hl 0 rfl) ?_
  refine lv_iload_n hx hb dX4_lengthBetween_1 rfl (lv_at hl 1 rfl) ?_
  have hPc := hP.sub (ws' := [(o, .inr (4, .int 0 :: .int 0 :: os))]) [0] rfl
  have hKc := hK.sub (tys' := []) [] rfl
  refine va_calli (va_runV (As := [.int x]) (rest := []) ⟨hx, hb, hml, hown, htg⟩ (c_X4_hasDesk l D o os x) (cV 1 htg mw_6 kv_X4_hasDesk rfl rfl ⟨(Nat.le_of_ble_eq_true rfl), (Nat.le_of_ble_eq_true rfl)⟩) ⟨bl_r, va_recv hKc hPc (ci := 4) (q0 := 0) rfl rfl, us_r hPc hKc⟩ rfl rfl hl.1 rfl (lv_room (Nat.le_of_ble_eq_true rfl)) dX4_lengthBetween_2 ⟨(Nat.le_of_ble_eq_true rfl), (Nat.le_of_ble_eq_true rfl)⟩) hS (fun _ _ h9 => False.elim h9) (fun _ h9 => False.elim h9) (fun r_1 u t H locs ht hvm hw hB hz1 hk1 hS => ?_)
  have hP := ro_keep hP hk1
  subst hw
  refine lv_if_eq (tgt := 30) hx hb dX4_lengthBetween_5 (by decide) (fun _ => ?_) (fun h9 => False.elim (h9 (by decide)))
  refine lv_iconst (v := 0) hx hb dX4_lengthBetween_30 (by decide) ?_
  exact W.iret (v := 0) hx hb hr  (fun t ht hW => ⟨⟨0, (), rfl, rfl, trivial⟩, hS.F ht⟩) hS.2.2 dX4_lengthBetween_31

set_option maxHeartbeats 4000000 in
set_option maxRecDepth 100000 in
theorem c_X4_hindrance (l : Launch) (D : va_G) (o : Nat) (os : List Value) (x y : Int32) : Met l yX4_hindrance (.code yX4_hindrance cX4_hindrance 5 (some .int) :: gw) ({ frames := 1, cells := 0, slots := 0, locals := 40 }) (va_Pc [.ref o, .null, .int x, .int y] (pr D [(o, .inr (4, .int 0 :: .int 0 :: os))] [])) (va_Qi (fun r (_ : Unit) => r = 1) (fun _ _ => True) (fun _ => False)) 0 0 (fun _ => False) := by
  refine Met.ofW (cc := cX4_hindrance) (maxL := 5) (ret := (some .int)) (by decide) rfl ?_
  intro p e s m args below meth c s₁ B hml hv
  obtain ⟨rfl, hP, hK⟩ := hv
  have hx := B.exec
  have hb := B.bytes
  have hr := B.returns
  have hts := atoms_spec (ws := .code yX4_hindrance cX4_hindrance 5 (some .int) :: gw) B.pre
  have htg := gw_tl hts
  have hown : s.vm.findClass RX4 = some m.cls := findClass_of_methodNamed B.named
  have hlocks := B.notSynchronized
  have hS : va_S (fun _ => False) s.heap s.heap [] := va_S.rf
  have hl := lv_entry ([.ref o, .null, .int x, .int y]) (n := 5) (Nat.le_of_ble_eq_true rfl)
  rw [lg_entry_eq]
  generalize (lg_sl ([.ref o, .null, .int x, .int y]) ++ List.replicate (5 - (lg_sl ([.ref o, .null, .int x, .int y])).length) Slot.unset).toArray = ls at hl ⊢
  have hl : lv_has ls 5 [(0, .ref o), (1, .null), (2, .int x), (3, .int y)] := hl
  refine lv_aload_n hx hb dX4_hindrance_0 rfl (lv_at hl 0 rfl) ?_
  refine lv_iload_n hx hb dX4_hindrance_1 rfl (lv_at hl 2 rfl) ?_
  have hPc := hP.sub (ws' := [(o, .inr (4, .int 0 :: .int 0 :: os))]) [0] rfl
  have hKc := hK.sub (tys' := []) [] rfl
  refine va_calli (va_runV (As := [.int x]) (rest := []) ⟨hx, hb, hml, hown, htg⟩ (c_X4_hasClerk l D o os x) (cV 1 htg mw_10 kv_X4_hasClerk rfl rfl ⟨(Nat.le_of_ble_eq_true rfl), (Nat.le_of_ble_eq_true rfl)⟩) ⟨bl_r, va_recv hKc hPc (ci := 4) (q0 := 0) rfl rfl, us_r hPc hKc⟩ rfl rfl hl.1 rfl (lv_room (Nat.le_of_ble_eq_true rfl)) dX4_hindrance_2 ⟨(Nat.le_of_ble_eq_true rfl), (Nat.le_of_ble_eq_true rfl)⟩) hS (fun _ _ h9 => False.elim h9) (fun _ h9 => False.elim h9) (fun r_1 u t H locs ht hvm hw hB hz1 hk1 hS => ?_)
  have hP := ro_keep hP hk1
  subst hw
  refine lv_if_eq (tgt := 16) hx hb dX4_hindrance_5 (by decide) (fun _ => ?_) (fun h9 => False.elim (h9 (by decide)))
  refine lv_iconst (v := 1) hx hb dX4_hindrance_16 (by decide) ?_
  exact W.iret (v := 1) hx hb hr  (fun t ht hW => ⟨⟨1, (), rfl, rfl, trivial⟩, hS.F ht⟩) hS.2.2 dX4_hindrance_17

set_option maxHeartbeats 4000000 in
set_option maxRecDepth 100000 in
theorem c_X7_kindOf (l : Launch) (D : va_G) (tq : Nat) (ts : List Value) (o : Nat) (os : List Value) : Met l yX7_kindOf (.code yX7_kindOf cX7_kindOf 5 (some .int) :: gw) ({ frames := 0, cells := 0, slots := 0, locals := 0 }) (va_Pc [.ref tq, .ref o] (pr D [(tq, .inr (7, ts)), (o, .inr (4, .int 0 :: .int 0 :: os))] [])) (va_Qi (fun r (_ : Unit) => r = (-1)) (fun _ _ => True) (fun _ => False)) 0 0 (fun _ => False) := by
  refine Met.ofW (cc := cX7_kindOf) (maxL := 5) (ret := (some .int)) (by decide) rfl ?_
  intro p e s m args below meth c s₁ B hml hv
  obtain ⟨rfl, hP, hK⟩ := hv
  have hx := B.exec
  have hb := B.bytes
  have hr := B.returns
  have hts := atoms_spec (ws := .code yX7_kindOf cX7_kindOf 5 (some .int) :: gw) B.pre
  have htg := gw_tl hts
  have hown : s.vm.findClass RX7 = some m.cls := findClass_of_methodNamed B.named
  have hlocks := B.notSynchronized
  have hS : va_S (fun _ => False) s.heap s.heap [] := va_S.rf
  have hl := lv_entry ([.ref tq, .ref o]) (n := 5) (Nat.le_of_ble_eq_true rfl)
  rw [lg_entry_eq]
  generalize (lg_sl ([.ref tq, .ref o]) ++ List.replicate (5 - (lg_sl ([.ref tq, .ref o])).length) Slot.unset).toArray = ls at hl ⊢
  have hl : lv_has ls 5 [(0, .ref tq), (1, .ref o)] := hl
  refine lv_aload_n hx hb dX7_kindOf_0 rfl (lv_at hl 1 rfl) ?_
  refine va_get (D := D) (ci := 4) (v := .int 0) (C := RX4) (T := TX4) (N := 11) hx hb htg in_X4 hown hK hP 1 rfl rfl 0 (by decide) (htg _ mw_11) (fun _ h9 => h9) rfl dX7_kindOf_1 ?_
  refine lv_if_eq (tgt := 23) hx hb dX7_kindOf_4 (by decide) (fun _ => ?_) (fun h9 => False.elim (h9 (by decide)))
  refine lv_iconst (v := (-1)) hx hb dX7_kindOf_23 (by decide) ?_
  exact W.iret (v := (-1)) hx hb hr  (fun t ht hW => ⟨⟨(-1), (), rfl, rfl, trivial⟩, hS.F ht⟩) hS.2.2 dX7_kindOf_24

set_option maxHeartbeats 4000000 in
set_option maxRecDepth 100000 in
theorem c_X1_moveAt (l : Launch) (D : va_G) (o q : Nat) (os : List Value) (x : Int32) : Met l yX1_moveAt (.code yX1_moveAt cX1_moveAt 2 (some .int) :: gw) ({ frames := 0, cells := 0, slots := 0, locals := 0 }) (va_Pc [.ref o, .int x] (pr D [(o, .inr (1, .ref q :: .int 0 :: os))] [])) (va_Qi (fun r (_ : Unit) => r = (-1)) (fun _ _ => True) (fun _ => False)) 0 0 (fun _ => False) := by
  refine Met.ofW (cc := cX1_moveAt) (maxL := 2) (ret := (some .int)) (by decide) rfl ?_
  intro p e s m args below meth c s₁ B hml hv
  obtain ⟨rfl, hP, hK⟩ := hv
  have hx := B.exec
  have hb := B.bytes
  have hr := B.returns
  have hts := atoms_spec (ws := .code yX1_moveAt cX1_moveAt 2 (some .int) :: gw) B.pre
  have htg := gw_tl hts
  have hown : s.vm.findClass RX1 = some m.cls := findClass_of_methodNamed B.named
  have hlocks := B.notSynchronized
  have hS : va_S (fun _ => False) s.heap s.heap [] := va_S.rf
  have hl := lv_entry ([.ref o, .int x]) (n := 2) (Nat.le_of_ble_eq_true rfl)
  rw [lg_entry_eq]
  generalize (lg_sl ([.ref o, .int x]) ++ List.replicate (2 - (lg_sl ([.ref o, .int x])).length) Slot.unset).toArray = ls at hl ⊢
  have hl : lv_has ls 2 [(0, .ref o), (1, .int x)] := hl
  refine lv_iload_n hx hb dX1_moveAt_0 rfl (lv_at hl 1 rfl) ?_
  refine lv_if_lt (tgt := 25) hx hb dX1_moveAt_1 (by decide) (fun h_1 => ?_) (fun h_1 => ?_)
  · refine lv_iconst (v := (-1)) hx hb dX1_moveAt_25 (by decide) ?_
    exact W.iret (v := (-1)) hx hb hr  (fun t ht hW => ⟨⟨(-1), (), rfl, rfl, trivial⟩, hS.F ht⟩) hS.2.2 dX1_moveAt_26
  · refine lv_iload_n hx hb dX1_moveAt_4 rfl (lv_at hl 1 rfl) ?_
    refine lv_aload_n hx hb dX1_moveAt_5 rfl (lv_at hl 0 rfl) ?_
    refine va_get (D := D) (ci := 1) (v := .int 0) (C := RX1) (T := TX1) (N := 6) hx hb htg in_X1 hown hK hP 0 rfl rfl 1 (by decide) (htg _ mw_12) (fun _ h9 => h9) rfl dX1_moveAt_6 ?_
    refine lv_icmp_ge (tgt := 25) hx hb dX1_moveAt_9 (by decide) (fun h_2 => ?_) (fun h_2 => ?_)
    · refine lv_iconst (v := (-1)) hx hb dX1_moveAt_25 (by decide) ?_
      exact W.iret (v := (-1)) hx hb hr  (fun t ht hW => ⟨⟨(-1), (), rfl, rfl, trivial⟩, hS.F ht⟩) hS.2.2 dX1_moveAt_26
    · exfalso
      simp only [ar_lt, ar_le, ar_eq, ar_n0, ar_n1, ar_n2, ar_n3, ar_n4, ar_n5, ar_n6, ar_n7, ar_n8, ar_n9, ar_n11, ar_n12, ar_n60, ar_n99, ar_nm1] at h_2 h_1
      omega
