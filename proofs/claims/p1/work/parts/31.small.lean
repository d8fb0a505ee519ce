set_option maxHeartbeats 4000000 in
set_option maxRecDepth 100000 in
theorem c_X6_look (l : Launch) (D : va_G) (tp tb : Nat) : Met l yX6_look (.code yX6_look cX6_look 1 (some .int) :: gw) ({ frames := 0, cells := 0, slots := 0, locals := 0 }) (va_Pc [.ref tp] (pr D [(tp, .inr (6, [.ref tb, .int 0, .int 0]))] [])) (va_Qi (fun r (_ : Unit) => r = (-1)) (fun _ _ => True) (fun _ => False)) 0 0 (fun _ => False) := by
  refine Met.ofW (cc := cX6_look) (maxL := 1) (ret := (some .int)) (by decide) rfl ?_
  intro p e s m args below meth c s₁ B hml hv
  obtain ⟨rfl, hP, hK⟩ := hv
  have hx := B.exec
  have hb := B.bytes
  have hr := B.returns
  have hts := atoms_spec (ws := .code yX6_look cX6_look 1 (some .int) :: gw) B.pre
  have htg := gw_tl hts
  have hown : s.vm.findClass RX6 = some m.cls := findClass_of_methodNamed B.named
  have hlocks := B.notSynchronized
  have hS : va_S (fun _ => False) s.heap s.heap [] := va_S.rf
  have hl := lv_entry ([.ref tp]) (n := 1) (Nat.le_of_ble_eq_true rfl)
  rw [lg_entry_eq]
  generalize (lg_sl ([.ref tp]) ++ List.replicate (1 - (lg_sl ([.ref tp])).length) Slot.unset).toArray = ls at hl ⊢
  have hl : lv_has ls 1 [(0, .ref tp)] := hl
  refine lv_aload_n hx hb dX6_look_0 rfl (lv_at hl 0 rfl) ?_
  refine va_get (D := D) (ci := 6) (v := .int 0) (C := RX6) (T := TX6) (N := 3) hx hb htg in_X6 hown hK hP 0 rfl rfl 2 (by decide) (htg _ mw_87) (fun _ h9 => h9) rfl dX6_look_1 ?_
  refine lv_aload_n hx hb dX6_look_4 rfl (lv_at hl 0 rfl) ?_
  refine va_get (D := D) (ci := 6) (v := .int 0) (C := RX6) (T := TX6) (N := 3) hx hb htg in_X6 hown hK hP 0 rfl rfl 1 (by decide) (htg _ mw_88) (fun _ h9 => h9) rfl dX6_look_5 ?_
  refine lv_icmp_ge (tgt := 48) hx hb dX6_look_8 (by decide) (fun _ => ?_) (fun h9 => False.elim (h9 (by decide)))
  refine lv_aload_n hx hb dX6_look_48 rfl (lv_at hl 0 rfl) ?_
  refine va_get (D := D) (ci := 6) (v := .int 0) (C := RX6) (T := TX6) (N := 3) hx hb htg in_X6 hown hK hP 0 rfl rfl 2 (by decide) (htg _ mw_87) (fun _ h9 => h9) rfl dX6_look_49 ?_
  refine lv_aload_n hx hb dX6_look_52 rfl (lv_at hl 0 rfl) ?_
  refine va_get (D := D) (ci := 6) (v := .int 0) (C := RX6) (T := TX6) (N := 3) hx hb htg in_X6 hown hK hP 0 rfl rfl 1 (by decide) (htg _ mw_88) (fun _ h9 => h9) rfl dX6_look_53 ?_
  refine lv_icmp_ge (tgt := 81) hx hb dX6_look_56 (by decide) (fun _ => ?_) (fun h9 => False.elim (h9 (by decide)))
  refine lv_iconst (v := (-1)) hx hb dX6_look_81 (by decide) ?_
  exact W.iret (v := (-1)) hx hb hr  (fun t ht hW => ⟨⟨(-1), (), rfl, rfl, trivial⟩, hS.F ht⟩) hS.2.2 dX6_look_82

set_option maxHeartbeats 4000000 in
set_option maxRecDepth 100000 in
theorem c_X6_takes (l : Launch) (D : va_G) (tp tb : Nat) : Met l yX6_takes (.code yX6_takes cX6_takes 2 (some .boolean) :: gw) ({ frames := 1, cells := 0, slots := 0, locals := 40 }) (va_Pc [.ref tp, .int 121] (pr D [(tp, .inr (6, [.ref tb, .int 0, .int 0]))] [])) (va_Qi (fun r (_ : Unit) => r = 0) (fun _ _ => True) (fun _ => False)) 0 0 (fun _ => False) := by
  refine Met.ofW (cc := cX6_takes) (maxL := 2) (ret := (some .boolean)) (by decide) rfl ?_
  intro p e s m args below meth c s₁ B hml hv
  obtain ⟨rfl, hP, hK⟩ := hv
  have hx := B.exec
  have hb := B.bytes
  have hr := B.returns
  have hts := atoms_spec (ws := .code yX6_takes cX6_takes 2 (some .boolean) :: gw) B.pre
  have htg := gw_tl hts
  have hown : s.vm.findClass RX6 = some m.cls := findClass_of_methodNamed B.named
  have hlocks := B.notSynchronized
  have hS : va_S (fun _ => False) s.heap s.heap [] := va_S.rf
  have hl := lv_entry ([.ref tp, .int 121]) (n := 2) (Nat.le_of_ble_eq_true rfl)
  rw [lg_entry_eq]
  generalize (lg_sl ([.ref tp, .int 121]) ++ List.replicate (2 - (lg_sl ([.ref tp, .int 121])).length) Slot.unset).toArray = ls at hl ⊢
  have hl : lv_has ls 2 [(0, .ref tp), (1, .int 121)] := hl
  refine lv_aload_n hx hb dX6_takes_0 rfl (lv_at hl 0 rfl) ?_
  have hPc := hP.sub (ws' := [(tp, .inr (6, [.ref tb, .int 0, .int 0]))]) [0] rfl
  have hKc := hK.sub (tys' := []) [] rfl
  refine va_calli (va_runV (As := []) (rest := []) ⟨hx, hb, hml, hown, htg⟩ (c_X6_look l D tp tb) (cV 0 htg mw_93 kv_X6_look rfl rfl ⟨(Nat.le_of_ble_eq_true rfl), (Nat.le_of_ble_eq_true rfl)⟩) ⟨bl_r, va_recv hKc hPc (ci := 6) (q0 := 0) rfl rfl, us_r hPc hKc⟩ rfl rfl hl.1 rfl (lv_room (Nat.le_of_ble_eq_true rfl)) dX6_takes_1 ⟨(Nat.le_of_ble_eq_true rfl), (Nat.le_of_ble_eq_true rfl)⟩) hS (fun _ _ h9 => False.elim h9) (fun _ h9 => False.elim h9) (fun r_1 u t H locs ht hvm hw hB hz1 hk1 hS => ?_)
  have hP := ro_keep hP hk1
  subst hw
  refine lv_iload_n hx hb dX6_takes_4 rfl (lv_at hl 1 rfl) ?_
  refine lv_icmp_eq (tgt := 10) hx hb dX6_takes_5 (by decide) (fun h9 => absurd h9 (by decide)) (fun _ => ?_)
  refine lv_iconst (v := 0) hx hb dX6_takes_8 (by decide) ?_
  exact W.zret (v := 0) hx hb hr (by first | rfl | decide | exact ar_nb _) (fun t ht hW => ⟨⟨0, (), rfl, rfl, trivial⟩, hS.F ht⟩) hS.2.2 dX6_takes_9

set_option maxHeartbeats 4000000 in
set_option maxRecDepth 100000 in
theorem c_X3_readClause (l : Launch) (D : va_G) (lr it tp tb : Nat) : Met l yX3_readClause (.code yX3_readClause cX3_readClause 3 (some .boolean) :: gw) ({ frames := 2, cells := 0, slots := 0, locals := 80 }) (va_Pc [.ref lr] (pr D [(lr, .inr (3, [.ref tp, .ref it, .int 0, .int 0])), (tp, .inr (6, [.ref tb, .int 0, .int 0]))] [])) (va_Qi (fun r (_ : Unit) => r = 0) (fun _ _ => True) (fun _ => False)) 0 0 (fun _ => False) := by
  refine Met.ofW (cc := cX3_readClause) (maxL := 3) (ret := (some .boolean)) (by decide) rfl ?_
  intro p e s m args below meth c s₁ B hml hv
  obtain ⟨rfl, hP, hK⟩ := hv
  have hx := B.exec
  have hb := B.bytes
  have hr := B.returns
  have hts := atoms_spec (ws := .code yX3_readClause cX3_readClause 3 (some .boolean) :: gw) B.pre
  have htg := gw_tl hts
  have hown : s.vm.findClass RX3 = some m.cls := findClass_of_methodNamed B.named
  have hlocks := B.notSynchronized
  have hS : va_S (fun _ => False) s.heap s.heap [] := va_S.rf
  have hl := lv_entry ([.ref lr]) (n := 3) (Nat.le_of_ble_eq_true rfl)
  rw [lg_entry_eq]
  generalize (lg_sl ([.ref lr]) ++ List.replicate (3 - (lg_sl ([.ref lr])).length) Slot.unset).toArray = ls at hl ⊢
  have hl : lv_has ls 3 [(0, .ref lr)] := hl
  refine lv_aload_n hx hb dX3_readClause_0 rfl (lv_at hl 0 rfl) ?_
  refine va_get (D := D) (ci := 3) (v := .ref tp) (C := RX3) (T := TX3) (N := 4) hx hb htg in_X3 hown hK hP 0 rfl rfl 0 (by decide) (htg _ mw_94) (fun _ h9 => h9) rfl dX3_readClause_1 ?_
  refine lv_bipush (v := 121) hx hb dX3_readClause_4 (by decide) ?_
  have hPc := hP.sub (ws' := [(tp, .inr (6, [.ref tb, .int 0, .int 0]))]) [1] rfl
  have hKc := hK.sub (tys' := []) [] rfl
  refine va_calli (va_runV (As := [.int 121]) (rest := []) ⟨hx, hb, hml, hown, htg⟩ (c_X6_takes l D tp tb) (cV 1 htg mw_98 kv_X6_takes rfl rfl ⟨(Nat.le_of_ble_eq_true rfl), (Nat.le_of_ble_eq_true rfl)⟩) ⟨bl_r, va_recv hKc hPc (ci := 6) (q0 := 0) rfl rfl, us_r hPc hKc⟩ rfl rfl hl.1 rfl (lv_room (Nat.le_of_ble_eq_true rfl)) dX3_readClause_6 ⟨(Nat.le_of_ble_eq_true rfl), (Nat.le_of_ble_eq_true rfl)⟩) hS (fun _ _ h9 => False.elim h9) (fun _ h9 => False.elim h9) (fun r_1 u t H locs ht hvm hw hB hz1 hk1 hS => ?_)
  have hP := ro_keep hP hk1
  subst hw
  refine lv_if_eq (tgt := 24) hx hb dX3_readClause_9 (by decide) (fun _ => ?_) (fun h9 => False.elim (h9 (by decide)))
  refine lv_iconst (v := 0) hx hb dX3_readClause_24 (by decide) ?_
  exact W.zret (v := 0) hx hb hr (by first | rfl | decide | exact ar_nb _) (fun t ht hW => ⟨⟨0, (), rfl, rfl, trivial⟩, hS.F ht⟩) hS.2.2 dX3_readClause_25

set_option maxHeartbeats 4000000 in
set_option maxRecDepth 100000 in
theorem c_X3_isRead (l : Launch) (D : va_G) (lr it tp tb : Nat) (zh : Nat) : Met l yX3_isRead (.code yX3_isRead cX3_isRead 2 (some .boolean) :: gw) ({ frames := 3, cells := 0, slots := 0, locals := 120 }) (va_Pc [.ref lr] (pn D zh [(lr, .inr (3, [.ref tp, .ref it, .int 0, .int 0])), (tp, .inr (6, [.ref tb, .int 0, .int 0]))] [])) (va_Qi (fun r (_ : vU) => r = 0) (fun u t => nw D (va_A [(lr, .inr (3, [.ref tp, .ref it, .int 0, .int 0])), (tp, .inr (6, [.ref tb, .int 0, .int 0]))] zh) [(lr, .inr (3, [.ref tp, .ref it, .int 0, .int 0])), (tp, .inr (6, [.ref tb, .int 0, .int 0]))] [] t) (va_A [(lr, .inr (3, [.ref tp, .ref it, .int 0, .int 0])), (tp, .inr (6, [.ref tb, .int 0, .int 0]))] zh)) 0 0 (va_A [(lr, .inr (3, [.ref tp, .ref it, .int 0, .int 0])), (tp, .inr (6, [.ref tb, .int 0, .int 0]))] zh) := by
  refine Met.ofW (cc := cX3_isRead) (maxL := 2) (ret := (some .boolean)) (by decide) rfl ?_
  intro p e s m args below meth c s₁ B hml hv
  obtain ⟨rfl, hsz, hP, hK, hD0⟩ := hv
  have hx := B.exec
  have hb := B.bytes
  have hr := B.returns
  have hts := atoms_spec (ws := .code yX3_isRead cX3_isRead 2 (some .boolean) :: gw) B.pre
  have htg := gw_tl hts
  have hown : s.vm.findClass RX3 = some m.cls := findClass_of_methodNamed B.named
  have hlocks := B.notSynchronized
  subst hsz
  have hD := hD0.self (sz := s.heap.size)
  generalize hAe : va_A [(lr, .inr (3, [.ref tp, .ref it, .int 0, .int 0])), (tp, .inr (6, [.ref tb, .int 0, .int 0]))] s.heap.size = A at hD ⊢
  have hA : ∀ q : Nat, s.heap.size ≤ q → A q := fun q h => by rw [← hAe]; exact Or.inr h
  have hS : va_S A s.heap s.heap [] := va_S.rf
  have hl := lv_entry ([.ref lr]) (n := 2) (Nat.le_of_ble_eq_true rfl)
  rw [lg_entry_eq]
  generalize (lg_sl ([.ref lr]) ++ List.replicate (2 - (lg_sl ([.ref lr])).length) Slot.unset).toArray = ls at hl ⊢
  have hl : lv_has ls 2 [(0, .ref lr)] := hl
  refine lv_aload_n hx hb dX3_isRead_0 rfl (lv_at hl 0 rfl) ?_
  refine va_get (D := D) (ci := 3) (v := .ref tp) (C := RX3) (T := TX3) (N := 4) hx hb htg in_X3 hown hK hP 0 rfl rfl 0 (by decide) (htg _ mw_94) (fun _ h9 => h9) rfl dX3_isRead_1 ?_
  refine lv_iconst (v := 0) hx hb dX3_isRead_4 (by decide) ?_
  refine va_put (D := D) (ci := 6) (v := .int 0) (ty := .int) (C := RX6) (T := TX6) (N := 3) hx hb htg in_X6 tyX6 tyX6_ok nmX6 hown hK hP hD hS 1 rfl rfl 2 (by decide) (htg _ mw_99) (fun _ h9 => h9) rfl (by decide +kernel) rfl rfl (Nat.le_of_ble_eq_true rfl) dX3_isRead_5 (fun H locs hP hD hS => ?_)
  have hP : va_P D vwCl [(lr, .inr (3, [.ref tp, .ref it, .int 0, .int 0])), (tp, .inr (6, [.ref tb, .int 0, .int 0]))] H := hP
  have hD : va_D A [(lr, .inr (3, [.ref tp, .ref it, .int 0, .int 0])), (tp, .inr (6, [.ref tb, .int 0, .int 0]))] := hD
  refine lv_aload_n hx hb dX3_isRead_8 rfl (lv_at hl 0 rfl) ?_
  refine lv_iconst (v := 0) hx hb dX3_isRead_9 (by decide) ?_
  refine va_put (D := D) (ci := 3) (v := .int 0) (ty := .int) (C := RX3) (T := TX3) (N := 4) hx hb htg in_X3 tyX3 tyX3_ok nmX3 hown hK hP hD hS 0 rfl rfl 2 (by decide) (htg _ mw_100) (fun _ h9 => h9) rfl (by decide +kernel) rfl rfl (Nat.le_of_ble_eq_true rfl) dX3_isRead_10 (fun H locs hP hD hS => ?_)
  have hP : va_P D vwCl [(lr, .inr (3, [.ref tp, .ref it, .int 0, .int 0])), (tp, .inr (6, [.ref tb, .int 0, .int 0]))] H := hP
  have hD : va_D A [(lr, .inr (3, [.ref tp, .ref it, .int 0, .int 0])), (tp, .inr (6, [.ref tb, .int 0, .int 0]))] := hD
  refine lv_aload_n hx hb dX3_isRead_13 rfl (lv_at hl 0 rfl) ?_
  refine lv_iconst (v := 0) hx hb dX3_isRead_14 (by decide) ?_
  refine va_put (D := D) (ci := 3) (v := .int 0) (ty := .boolean) (C := RX3) (T := TX3) (N := 4) hx hb htg in_X3 tyX3 tyX3_ok nmX3 hown hK hP hD hS 0 rfl rfl 3 (by decide) (htg _ mw_101) (fun _ h9 => h9) rfl (by decide +kernel) rfl rfl (Nat.le_of_ble_eq_true rfl) dX3_isRead_15 (fun H locs hP hD hS => ?_)
  have hP : va_P D vwCl [(lr, .inr (3, [.ref tp, .ref it, .int 0, .int 0])), (tp, .inr (6, [.ref tb, .int 0, .int 0]))] H := hP
  have hD : va_D A [(lr, .inr (3, [.ref tp, .ref it, .int 0, .int 0])), (tp, .inr (6, [.ref tb, .int 0, .int 0]))] := hD
  refine lv_iconst (v := 0) hx hb dX3_isRead_18 (by decide) ?_
  refine lv_istore_n (lv' := [(1, .int 0), (0, .ref lr)]) hx hb dX3_isRead_19 rfl hl (by decide) rfl (fun ls hl => ?_)
  refine lv_iload_n hx hb dX3_isRead_20 rfl (lv_at hl 0 rfl) ?_
  refine lv_sipush (v := 160) hx hb dX3_isRead_21 (by decide) ?_
  refine lv_icmp_gt (tgt := 69) hx hb dX3_isRead_24 (by decide) (fun h9 => absurd h9 (by decide)) (fun _ => ?_)
  refine lv_aload_n hx hb dX3_isRead_27 rfl (lv_at hl 1 rfl) ?_
  have hPc := hP.sub (ws' := [(lr, .inr (3, [.ref tp, .ref it, .int 0, .int 0])), (tp, .inr (6, [.ref tb, .int 0, .int 0]))]) [0, 1] rfl
  have hKc := hK.sub (tys' := []) [] rfl
  refine va_calli (va_runV (As := []) (rest := []) ⟨hx, hb, hml, hown, htg⟩ (c_X3_readClause l D lr it tp tb) (cV 0 htg mw_106 kv_X3_readClause rfl rfl ⟨(Nat.le_of_ble_eq_true rfl), (Nat.le_of_ble_eq_true rfl)⟩) ⟨bl_r, va_recv hKc hPc (ci := 3) (q0 := 0) rfl rfl, us_r hPc hKc⟩ rfl rfl hl.1 rfl (lv_room (Nat.le_of_ble_eq_true rfl)) dX3_isRead_28 ⟨(Nat.le_of_ble_eq_true rfl), (Nat.le_of_ble_eq_true rfl)⟩) hS (fun _ _ h9 => False.elim h9) (fun _ h9 => False.elim h9) (fun r_1 u t H locs ht hvm hw hB hz1 hk1 hS => ?_)
  have hP := ro_keep hP hk1
  subst hw
  refine lv_if_ne (tgt := 36) hx hb dX3_isRead_31 (by decide) (fun h9 => False.elim (h9 (by decide))) (fun _ => ?_)
  refine lv_iconst (v := 0) hx hb dX3_isRead_34 (by decide) ?_
  exact W.zret (v := 0) hx hb hr (by first | rfl | decide | exact ar_nb _) (fun t ht hW => ⟨⟨0, ((fun _ => 0), (fun _ => 0), (fun k => [(fun _ => 0), (fun _ => 0)].getD k (fun _ => 0))), rfl, rfl, by rw [ht]; exact hP, va_K.moved hW.alike hK, hD⟩, hS.F ht⟩) hS.2.2 dX3_isRead_35

set_option maxHeartbeats 4000000 in
set_option maxRecDepth 100000 in
theorem c_X5_isReadFrom (l : Launch) (D : va_G) (pq pm pb tp tb : Nat) (zh : Nat) : Met l yX5_isReadFrom (.code yX5_isReadFrom cX5_isReadFrom 5 (some .boolean) :: gw) ({ frames := 1, cells := 0, slots := 0, locals := 40 }) (va_Pc [.ref pq, .ref tp] (pn D zh [(pq, .inr (5, [.ref pm, .int 0, .ref pb, .int 0, .int 0, .int 0])), (tp, .inr (6, [.ref tb, .int 0, .int 0]))] [])) (va_Qi (fun r (_ : vU) => r = 0) (fun u t => nw D (va_A [(pq, .inr (5, [.ref pm, .int 0, .ref pb, .int 0, .int 0, .int 0])), (tp, .inr (6, [.ref tb, .int 0, .int 0]))] zh) [(pq, .inr (5, [.ref pm, .int 0, .ref pb, .int 0, .int 0, .int 0])), (tp, .inr (6, [.ref tb, .int 0, .int 0]))] [] t) (va_A [(pq, .inr (5, [.ref pm, .int 0, .ref pb, .int 0, .int 0, .int 0])), (tp, .inr (6, [.ref tb, .int 0, .int 0]))] zh)) 0 0 (va_A [(pq, .inr (5, [.ref pm, .int 0, .ref pb, .int 0, .int 0, .int 0])), (tp, .inr (6, [.ref tb, .int 0, .int 0]))] zh) := by
  refine Met.ofW (cc := cX5_isReadFrom) (maxL := 5) (ret := (some .boolean)) (by decide) rfl ?_
  intro p e s m args below meth c s₁ B hml hv
  obtain ⟨rfl, hsz, hP, hK, hD0⟩ := hv
  have hx := B.exec
  have hb := B.bytes
  have hr := B.returns
  have hts := atoms_spec (ws := .code yX5_isReadFrom cX5_isReadFrom 5 (some .boolean) :: gw) B.pre
  have htg := gw_tl hts
  have hown : s.vm.findClass RX5 = some m.cls := findClass_of_methodNamed B.named
  have hlocks := B.notSynchronized
  subst hsz
  have hD := hD0.self (sz := s.heap.size)
  generalize hAe : va_A [(pq, .inr (5, [.ref pm, .int 0, .ref pb, .int 0, .int 0, .int 0])), (tp, .inr (6, [.ref tb, .int 0, .int 0]))] s.heap.size = A at hD ⊢
  have hA : ∀ q : Nat, s.heap.size ≤ q → A q := fun q h => by rw [← hAe]; exact Or.inr h
  have hS : va_S A s.heap s.heap [] := va_S.rf
  have hl := lv_entry ([.ref pq, .ref tp]) (n := 5) (Nat.le_of_ble_eq_true rfl)
  rw [lg_entry_eq]
  generalize (lg_sl ([.ref pq, .ref tp]) ++ List.replicate (5 - (lg_sl ([.ref pq, .ref tp])).length) Slot.unset).toArray = ls at hl ⊢
  have hl : lv_has ls 5 [(0, .ref pq), (1, .ref tp)] := hl
  refine lv_aload_n hx hb dX5_isReadFrom_0 rfl (lv_at hl 0 rfl) ?_
  refine lv_iconst (v := 0) hx hb dX5_isReadFrom_1 (by decide) ?_
  refine va_put (D := D) (ci := 5) (v := .int 0) (ty := .int) (C := RX5) (T := TX5) (N := 6) hx hb htg in_X5 tyX5 tyX5_ok nmX5 hown hK hP hD hS 0 rfl rfl 1 (by decide) (htg _ mw_107) (fun _ h9 => h9) rfl (by decide +kernel) rfl rfl (Nat.le_of_ble_eq_true rfl) dX5_isReadFrom_2 (fun H locs hP hD hS => ?_)
  have hP : va_P D vwCl [(pq, .inr (5, [.ref pm, .int 0, .ref pb, .int 0, .int 0, .int 0])), (tp, .inr (6, [.ref tb, .int 0, .int 0]))] H := hP
  have hD : va_D A [(pq, .inr (5, [.ref pm, .int 0, .ref pb, .int 0, .int 0, .int 0])), (tp, .inr (6, [.ref tb, .int 0, .int 0]))] := hD
  refine lv_aload_n hx hb dX5_isReadFrom_5 rfl (lv_at hl 1 rfl) ?_
  refine lv_iconst (v := 0) hx hb dX5_isReadFrom_6 (by decide) ?_
  refine va_put (D := D) (ci := 6) (v := .int 0) (ty := .int) (C := RX6) (T := TX6) (N := 3) hx hb htg in_X6 tyX6 tyX6_ok nmX6 hown hK hP hD hS 1 rfl rfl 2 (by decide) (htg _ mw_108) (fun _ h9 => h9) rfl (by decide +kernel) rfl rfl (Nat.le_of_ble_eq_true rfl) dX5_isReadFrom_7 (fun H locs hP hD hS => ?_)
  have hP : va_P D vwCl [(pq, .inr (5, [.ref pm, .int 0, .ref pb, .int 0, .int 0, .int 0])), (tp, .inr (6, [.ref tb, .int 0, .int 0]))] H := hP
  have hD : va_D A [(pq, .inr (5, [.ref pm, .int 0, .ref pb, .int 0, .int 0, .int 0])), (tp, .inr (6, [.ref tb, .int 0, .int 0]))] := hD
  refine lv_iconst (v := 0) hx hb dX5_isReadFrom_10 (by decide) ?_
  refine lv_istore_n (lv' := [(2, .int 0), (0, .ref pq), (1, .ref tp)]) hx hb dX5_isReadFrom_11 rfl hl (by decide) rfl (fun ls hl => ?_)
  refine lv_iload_n hx hb dX5_isReadFrom_12 rfl (lv_at hl 0 rfl) ?_
  refine lv_bipush (v := 40) hx hb dX5_isReadFrom_13 (by decide) ?_
  refine lv_icmp_ge (tgt := 137) hx hb dX5_isReadFrom_15 (by decide) (fun h9 => absurd h9 (by decide)) (fun _ => ?_)
  refine lv_aload_n hx hb dX5_isReadFrom_18 rfl (lv_at hl 2 rfl) ?_
  have hPc := hP.sub (ws' := [(tp, .inr (6, [.ref tb, .int 0, .int 0]))]) [1] rfl
  have hKc := hK.sub (tys' := []) [] rfl
  refine va_calli (va_runV (As := []) (rest := []) ⟨hx, hb, hml, hown, htg⟩ (c_X6_look l D tp tb) (cV 0 htg mw_109 kv_X6_look rfl rfl ⟨(Nat.le_of_ble_eq_true rfl), (Nat.le_of_ble_eq_true rfl)⟩) ⟨bl_r, va_recv hKc hPc (ci := 6) (q0 := 0) rfl rfl, us_r hPc hKc⟩ rfl rfl hl.1 rfl (lv_room (Nat.le_of_ble_eq_true rfl)) dX5_isReadFrom_19 ⟨(Nat.le_of_ble_eq_true rfl), (Nat.le_of_ble_eq_true rfl)⟩) hS (fun _ _ h9 => False.elim h9) (fun _ h9 => False.elim h9) (fun r_1 u t H locs ht hvm hw hB hz1 hk1 hS => ?_)
  have hP := ro_keep hP hk1
  subst hw
  refine lv_bipush (v := 65) hx hb dX5_isReadFrom_22 (by decide) ?_
  refine lv_isub hx hb dX5_isReadFrom_24 ?_
  refine lv_val (y := (-66)) (by decide) ?_
  refine lv_istore_n (lv' := [(3, .int (-66)), (2, .int 0), (0, .ref pq), (1, .ref tp)]) hx hb dX5_isReadFrom_25 rfl hl (by decide) rfl (fun ls hl => ?_)
  refine lv_iload_n hx hb dX5_isReadFrom_26 rfl (lv_at hl 0 rfl) ?_
  refine lv_if_lt (tgt := 36) hx hb dX5_isReadFrom_27 (by decide) (fun _ => ?_) (fun h9 => False.elim (h9 (by decide)))
  refine lv_iconst (v := 0) hx hb dX5_isReadFrom_36 (by decide) ?_
  exact W.zret (v := 0) hx hb hr (by first | rfl | decide | exact ar_nb _) (fun t ht hW => ⟨⟨0, ((fun _ => 0), (fun _ => 0), (fun k => [(fun _ => 0), (fun _ => 0)].getD k (fun _ => 0))), rfl, rfl, by rw [ht]; exact hP, va_K.moved hW.alike hK, hD⟩, hS.F ht⟩) hS.2.2 dX5_isReadFrom_37

set_option maxHeartbeats 4000000 in
set_option maxRecDepth 100000 in
theorem c_X4_addDesk (l : Launch) (D : va_G) (o : Nat) (os : List Value) : Met l yX4_addDesk (.code yX4_addDesk cX4_addDesk 4 (some .boolean) :: gw) ({ frames := 0, cells := 0, slots := 0, locals := 0 }) (va_Pc [.ref o, .int (-1)] (pr D [(o, .inr (4, .int 0 :: .int 0 :: os))] [])) (va_Qi (fun r (_ : Unit) => r = 0) (fun _ _ => True) (fun _ => False)) 0 0 (fun _ => False) := by
  refine Met.ofW (cc := cX4_addDesk) (maxL := 4) (ret := (some .boolean)) (by decide) rfl ?_
  intro p e s m args below meth c s₁ B hml hv
  obtain ⟨rfl, hP, hK⟩ := hv
  have hx := B.exec
  have hb := B.bytes
  have hr := B.returns
  have hts := atoms_spec (ws := .code yX4_addDesk cX4_addDesk 4 (some .boolean) :: gw) B.pre
  have htg := gw_tl hts
  have hown : s.vm.findClass RX4 = some m.cls := findClass_of_methodNamed B.named
  have hlocks := B.notSynchronized
  have hS : va_S (fun _ => False) s.heap s.heap [] := va_S.rf
  have hl := lv_entry ([.ref o, .int (-1)]) (n := 4) (Nat.le_of_ble_eq_true rfl)
  rw [lg_entry_eq]
  generalize (lg_sl ([.ref o, .int (-1)]) ++ List.replicate (4 - (lg_sl ([.ref o, .int (-1)])).length) Slot.unset).toArray = ls at hl ⊢
  have hl : lv_has ls 4 [(0, .ref o), (1, .int (-1))] := hl
  refine lv_iload_n hx hb dX4_addDesk_0 rfl (lv_at hl 1 rfl) ?_
  refine lv_bipush (v := 65) hx hb dX4_addDesk_1 (by decide) ?_
  refine lv_isub hx hb dX4_addDesk_3 ?_
  refine lv_val (y := (-66)) (by decide) ?_
  refine lv_istore_n (lv' := [(2, .int (-66)), (0, .ref o), (1, .int (-1))]) hx hb dX4_addDesk_4 rfl hl (by decide) rfl (fun ls hl => ?_)
  refine lv_iload_n hx hb dX4_addDesk_5 rfl (lv_at hl 2 rfl) ?_
  refine lv_bipush (v := 46) hx hb dX4_addDesk_6 (by decide) ?_
  refine lv_icmp_ne (tgt := 15) hx hb dX4_addDesk_8 (by decide) (fun _ => ?_) (fun h9 => absurd h9 (by decide))
  refine lv_iconst (v := 0) hx hb dX4_addDesk_15 (by decide) ?_
  refine lv_istore_n (lv' := [(3, .int 0), (2, .int (-66)), (0, .ref o), (1, .int (-1))]) hx hb dX4_addDesk_16 rfl hl (by decide) rfl (fun ls hl => ?_)
  refine lv_aload_n hx hb dX4_addDesk_17 rfl (lv_at hl 2 rfl) ?_
  refine va_get (D := D) (ci := 4) (v := .int 0) (C := RX4) (T := TX4) (N := 11) hx hb htg in_X4 hown hK hP 0 rfl rfl 0 (by decide) (htg _ mw_0) (fun _ h9 => h9) rfl dX4_addDesk_18 ?_
  refine lv_bipush (v := 12) hx hb dX4_addDesk_21 (by decide) ?_
  refine lv_icmp_ge (tgt := 48) hx hb dX4_addDesk_23 (by decide) (fun h9 => absurd h9 (by decide)) (fun _ => ?_)
  refine lv_iload_n hx hb dX4_addDesk_26 rfl (lv_at hl 0 rfl) ?_
  refine lv_if_ne (tgt := 50) hx hb dX4_addDesk_27 (by decide) (fun h9 => False.elim (h9 (by decide))) (fun _ => ?_)
  refine lv_iload_n hx hb dX4_addDesk_30 rfl (lv_at hl 1 rfl) ?_
  refine lv_if_lt (tgt := 48) hx hb dX4_addDesk_31 (by decide) (fun _ => ?_) (fun h9 => False.elim (h9 (by decide)))
  refine lv_iconst (v := 0) hx hb dX4_addDesk_48 (by decide) ?_
  exact W.zret (v := 0) hx hb hr (by first | rfl | decide | exact ar_nb _) (fun t ht hW => ⟨⟨0, (), rfl, rfl, trivial⟩, hS.F ht⟩) hS.2.2 dX4_addDesk_49

set_option maxHeartbeats 4000000 in
set_option maxRecDepth 100000 in
theorem c_X4_readSeats (l : Launch) (D : va_G) (o : Nat) (os : List Value) (tp tb : Nat) : Met l yX4_readSeats (.code yX4_readSeats cX4_readSeats 4 (some .boolean) :: gw) ({ frames := 1, cells := 0, slots := 0, locals := 40 }) (va_Pc [.ref o, .ref tp] (pr D [(o, .inr (4, .int 0 :: .int 0 :: os)), (tp, .inr (6, [.ref tb, .int 0, .int 0]))] [])) (va_Qi (fun r (_ : Unit) => r = 0) (fun _ _ => True) (fun _ => False)) 0 0 (fun _ => False) := by
  refine Met.ofW (cc := cX4_readSeats) (maxL := 4) (ret := (some .boolean)) (by decide) rfl ?_
  intro p e s m args below meth c s₁ B hml hv
  obtain ⟨rfl, hP, hK⟩ := hv
  have hx := B.exec
  have hb := B.bytes
  have hr := B.returns
  have hts := atoms_spec (ws := .code yX4_readSeats cX4_readSeats 4 (some .boolean) :: gw) B.pre
  have htg := gw_tl hts
  have hown : s.vm.findClass RX4 = some m.cls := findClass_of_methodNamed B.named
  have hlocks := B.notSynchronized
  have hS : va_S (fun _ => False) s.heap s.heap [] := va_S.rf
  have hl := lv_entry ([.ref o, .ref tp]) (n := 4) (Nat.le_of_ble_eq_true rfl)
  rw [lg_entry_eq]
  generalize (lg_sl ([.ref o, .ref tp]) ++ List.replicate (4 - (lg_sl ([.ref o, .ref tp])).length) Slot.unset).toArray = ls at hl ⊢
  have hl : lv_has ls 4 [(0, .ref o), (1, .ref tp)] := hl
  refine lv_iconst (v := 0) hx hb dX4_readSeats_0 (by decide) ?_
  refine lv_istore_n (lv' := [(2, .int 0), (0, .ref o), (1, .ref tp)]) hx hb dX4_readSeats_1 rfl hl (by decide) rfl (fun ls hl => ?_)
  refine lv_iload_n hx hb dX4_readSeats_2 rfl (lv_at hl 0 rfl) ?_
  refine lv_bipush (v := 12) hx hb dX4_readSeats_3 (by decide) ?_
  refine lv_icmp_gt (tgt := 63) hx hb dX4_readSeats_5 (by decide) (fun h9 => absurd h9 (by decide)) (fun _ => ?_)
  refine lv_aload_n hx hb dX4_readSeats_8 rfl (lv_at hl 2 rfl) ?_
  have hPc := hP.sub (ws' := [(tp, .inr (6, [.ref tb, .int 0, .int 0]))]) [1] rfl
  have hKc := hK.sub (tys' := []) [] rfl
  refine va_calli (va_runV (As := []) (rest := []) ⟨hx, hb, hml, hown, htg⟩ (c_X6_look l D tp tb) (cV 0 htg mw_110 kv_X6_look rfl rfl ⟨(Nat.le_of_ble_eq_true rfl), (Nat.le_of_ble_eq_true rfl)⟩) ⟨bl_r, va_recv hKc hPc (ci := 6) (q0 := 0) rfl rfl, us_r hPc hKc⟩ rfl rfl hl.1 rfl (lv_room (Nat.le_of_ble_eq_true rfl)) dX4_readSeats_9 ⟨(Nat.le_of_ble_eq_true rfl), (Nat.le_of_ble_eq_true rfl)⟩) hS (fun _ _ h9 => False.elim h9) (fun _ h9 => False.elim h9) (fun r_1 u t H locs ht hvm hw hB hz1 hk1 hS => ?_)
  have hP := ro_keep hP hk1
  subst hw
  refine lv_istore_n (lv' := [(3, .int (-1)), (2, .int 0), (0, .ref o), (1, .ref tp)]) hx hb dX4_readSeats_12 rfl hl (by decide) rfl (fun ls hl => ?_)
  refine lv_iload_n hx hb dX4_readSeats_13 rfl (lv_at hl 0 rfl) ?_
  refine lv_bipush (v := 59) hx hb dX4_readSeats_14 (by decide) ?_
  refine lv_icmp_ne (tgt := 41) hx hb dX4_readSeats_16 (by decide) (fun _ => ?_) (fun h9 => absurd h9 (by decide))
  refine lv_aload_n hx hb dX4_readSeats_41 rfl (lv_at hl 2 rfl) ?_
  refine lv_iload_n hx hb dX4_readSeats_42 rfl (lv_at hl 0 rfl) ?_
  have hPc := hP.sub (ws' := [(o, .inr (4, .int 0 :: .int 0 :: os))]) [0] rfl
  have hKc := hK.sub (tys' := []) [] rfl
  refine va_calli (va_runV (As := [.int (-1)]) (rest := []) ⟨hx, hb, hml, hown, htg⟩ (c_X4_addDesk l D o os ) (cV 1 htg mw_114 kv_X4_addDesk rfl rfl ⟨(Nat.le_of_ble_eq_true rfl), (Nat.le_of_ble_eq_true rfl)⟩) ⟨bl_r, va_recv hKc hPc (ci := 4) (q0 := 0) rfl rfl, us_r hPc hKc⟩ rfl rfl hl.1 rfl (lv_room (Nat.le_of_ble_eq_true rfl)) dX4_readSeats_43 ⟨(Nat.le_of_ble_eq_true rfl), (Nat.le_of_ble_eq_true rfl)⟩) hS (fun _ _ h9 => False.elim h9) (fun _ h9 => False.elim h9) (fun r_2 u t H locs ht hvm hw hB hz1 hk1 hS => ?_)
  have hP := ro_keep hP hk1
  subst hw
  refine lv_if_ne (tgt := 51) hx hb dX4_readSeats_46 (by decide) (fun h9 => False.elim (h9 (by decide))) (fun _ => ?_)
  refine lv_iconst (v := 0) hx hb dX4_readSeats_49 (by decide) ?_
  exact W.zret (v := 0) hx hb hr (by first | rfl | decide | exact ar_nb _) (fun t ht hW => ⟨⟨0, (), rfl, rfl, trivial⟩, hS.F ht⟩) hS.2.2 dX4_readSeats_50

set_option maxHeartbeats 4000000 in
set_option maxRecDepth 100000 in
theorem c_X4_clear (l : Launch) (D : va_G) (o : Nat) (g : Nat → Nat) (cG : Nat → ClassId) (f : Nat → Nat → Int32) (zh : Nat) : Met l yX4_clear (.code yX4_clear cX4_clear 1 none :: gw) ({ frames := 1, cells := 0, slots := 0, locals := 40 }) (va_Pc [.ref o] (pn D zh [(o, .inr (4, [.int 0, .int 0, .ref (g 0), .ref (g 1), .ref (g 2), .ref (g 3), .ref (g 4), .ref (g 5), .ref (g 6), .ref (g 7), .ref (g 8)])), ((g 0), .inl ((cG 0), 12, .inl (f 0))), ((g 1), .inl ((cG 1), 12, .inl (f 1))), ((g 2), .inl ((cG 2), 144, .inl (f 2))), ((g 3), .inl ((cG 3), 12, .inl (f 3))), ((g 4), .inl ((cG 4), 12, .inl (f 4))), ((g 5), .inl ((cG 5), 12, .inl (f 5))), ((g 6), .inl ((cG 6), 12, .inl (f 6))), ((g 7), .inl ((cG 7), 12, .inl (f 7))), ((g 8), .inl ((cG 8), 144, .inl (f 8)))] [((cG 0), .int), ((cG 1), .int), ((cG 2), .int), ((cG 3), .int), ((cG 4), .int), ((cG 5), .int), ((cG 6), .int), ((cG 7), .int), ((cG 8), .int)])) (va_Qv (fun _ : vU => True) (fun u t => nw D (va_A [(o, .inr (4, [.int 0, .int 0, .ref (g 0), .ref (g 1), .ref (g 2), .ref (g 3), .ref (g 4), .ref (g 5), .ref (g 6), .ref (g 7), .ref (g 8)])), ((g 0), .inl ((cG 0), 12, .inl (f 0))), ((g 1), .inl ((cG 1), 12, .inl (f 1))), ((g 2), .inl ((cG 2), 144, .inl (f 2))), ((g 3), .inl ((cG 3), 12, .inl (f 3))), ((g 4), .inl ((cG 4), 12, .inl (f 4))), ((g 5), .inl ((cG 5), 12, .inl (f 5))), ((g 6), .inl ((cG 6), 12, .inl (f 6))), ((g 7), .inl ((cG 7), 12, .inl (f 7))), ((g 8), .inl ((cG 8), 144, .inl (f 8)))] zh) [(o, .inr (4, [.int 0, .int 0, .ref (g 0), .ref (g 1), .ref (g 2), .ref (g 3), .ref (g 4), .ref (g 5), .ref (g 6), .ref (g 7), .ref (g 8)])), ((g 0), .inl ((cG 0), 12, .inl (u.2.2 1))), ((g 1), .inl ((cG 1), 12, .inl (u.2.2 2))), ((g 2), .inl ((cG 2), 144, .inl (u.2.2 3))), ((g 3), .inl ((cG 3), 12, .inl (u.2.2 4))), ((g 4), .inl ((cG 4), 12, .inl (u.2.2 5))), ((g 5), .inl ((cG 5), 12, .inl (u.2.2 6))), ((g 6), .inl ((cG 6), 12, .inl (u.2.2 7))), ((g 7), .inl ((cG 7), 12, .inl (u.2.2 8))), ((g 8), .inl ((cG 8), 144, .inl (u.2.2 9)))] [((cG 0), .int), ((cG 1), .int), ((cG 2), .int), ((cG 3), .int), ((cG 4), .int), ((cG 5), .int), ((cG 6), .int), ((cG 7), .int), ((cG 8), .int)] t) (va_A [(o, .inr (4, [.int 0, .int 0, .ref (g 0), .ref (g 1), .ref (g 2), .ref (g 3), .ref (g 4), .ref (g 5), .ref (g 6), .ref (g 7), .ref (g 8)])), ((g 0), .inl ((cG 0), 12, .inl (f 0))), ((g 1), .inl ((cG 1), 12, .inl (f 1))), ((g 2), .inl ((cG 2), 144, .inl (f 2))), ((g 3), .inl ((cG 3), 12, .inl (f 3))), ((g 4), .inl ((cG 4), 12, .inl (f 4))), ((g 5), .inl ((cG 5), 12, .inl (f 5))), ((g 6), .inl ((cG 6), 12, .inl (f 6))), ((g 7), .inl ((cG 7), 12, .inl (f 7))), ((g 8), .inl ((cG 8), 144, .inl (f 8)))] zh)) 0 0 (va_A [(o, .inr (4, [.int 0, .int 0, .ref (g 0), .ref (g 1), .ref (g 2), .ref (g 3), .ref (g 4), .ref (g 5), .ref (g 6), .ref (g 7), .ref (g 8)])), ((g 0), .inl ((cG 0), 12, .inl (f 0))), ((g 1), .inl ((cG 1), 12, .inl (f 1))), ((g 2), .inl ((cG 2), 144, .inl (f 2))), ((g 3), .inl ((cG 3), 12, .inl (f 3))), ((g 4), .inl ((cG 4), 12, .inl (f 4))), ((g 5), .inl ((cG 5), 12, .inl (f 5))), ((g 6), .inl ((cG 6), 12, .inl (f 6))), ((g 7), .inl ((cG 7), 12, .inl (f 7))), ((g 8), .inl ((cG 8), 144, .inl (f 8)))] zh) := by
  refine Met.ofW (cc := cX4_clear) (maxL := 1) (ret := none) (by decide) rfl ?_
  intro p e s m args below meth c s₁ B hml hv
  obtain ⟨rfl, hsz, hP, hK, hD0⟩ := hv
  have hx := B.exec
  have hb := B.bytes
  have hr := B.returns
  have hts := atoms_spec (ws := .code yX4_clear cX4_clear 1 none :: gw) B.pre
  have htg := gw_tl hts
  have hown : s.vm.findClass RX4 = some m.cls := findClass_of_methodNamed B.named
  have hlocks := B.notSynchronized
  subst hsz
  have hD := hD0.self (sz := s.heap.size)
  generalize hAe : va_A [(o, .inr (4, [.int 0, .int 0, .ref (g 0), .ref (g 1), .ref (g 2), .ref (g 3), .ref (g 4), .ref (g 5), .ref (g 6), .ref (g 7), .ref (g 8)])), ((g 0), .inl ((cG 0), 12, .inl (f 0))), ((g 1), .inl ((cG 1), 12, .inl (f 1))), ((g 2), .inl ((cG 2), 144, .inl (f 2))), ((g 3), .inl ((cG 3), 12, .inl (f 3))), ((g 4), .inl ((cG 4), 12, .inl (f 4))), ((g 5), .inl ((cG 5), 12, .inl (f 5))), ((g 6), .inl ((cG 6), 12, .inl (f 6))), ((g 7), .inl ((cG 7), 12, .inl (f 7))), ((g 8), .inl ((cG 8), 144, .inl (f 8)))] s.heap.size = A at hD ⊢
  have hA : ∀ q : Nat, s.heap.size ≤ q → A q := fun q h => by rw [← hAe]; exact Or.inr h
  have hS : va_S A s.heap s.heap [] := va_S.rf
  have hl := lv_entry ([.ref o]) (n := 1) (Nat.le_of_ble_eq_true rfl)
  rw [lg_entry_eq]
  generalize (lg_sl ([.ref o]) ++ List.replicate (1 - (lg_sl ([.ref o])).length) Slot.unset).toArray = ls at hl ⊢
  have hl : lv_has ls 1 [(0, .ref o)] := hl
  refine lv_aload_n hx hb dX4_clear_0 rfl (lv_at hl 0 rfl) ?_
  refine lv_iconst (v := 0) hx hb dX4_clear_1 (by decide) ?_
  refine va_put (D := D) (ci := 4) (v := .int 0) (ty := .int) (C := RX4) (T := TX4) (N := 11) hx hb htg in_X4 tyX4 tyX4_ok nmX4 hown hK hP hD hS 0 rfl rfl 0 (by decide) (htg _ mw_0) (fun _ h9 => h9) rfl (by decide +kernel) rfl rfl (Nat.le_of_ble_eq_true rfl) dX4_clear_2 (fun H locs hP hD hS => ?_)
  have hP : va_P D vwCl [(o, .inr (4, [.int 0, .int 0, .ref (g 0), .ref (g 1), .ref (g 2), .ref (g 3), .ref (g 4), .ref (g 5), .ref (g 6), .ref (g 7), .ref (g 8)])), ((g 0), .inl ((cG 0), 12, .inl (f 0))), ((g 1), .inl ((cG 1), 12, .inl (f 1))), ((g 2), .inl ((cG 2), 144, .inl (f 2))), ((g 3), .inl ((cG 3), 12, .inl (f 3))), ((g 4), .inl ((cG 4), 12, .inl (f 4))), ((g 5), .inl ((cG 5), 12, .inl (f 5))), ((g 6), .inl ((cG 6), 12, .inl (f 6))), ((g 7), .inl ((cG 7), 12, .inl (f 7))), ((g 8), .inl ((cG 8), 144, .inl (f 8)))] H := hP
  have hD : va_D A [(o, .inr (4, [.int 0, .int 0, .ref (g 0), .ref (g 1), .ref (g 2), .ref (g 3), .ref (g 4), .ref (g 5), .ref (g 6), .ref (g 7), .ref (g 8)])), ((g 0), .inl ((cG 0), 12, .inl (f 0))), ((g 1), .inl ((cG 1), 12, .inl (f 1))), ((g 2), .inl ((cG 2), 144, .inl (f 2))), ((g 3), .inl ((cG 3), 12, .inl (f 3))), ((g 4), .inl ((cG 4), 12, .inl (f 4))), ((g 5), .inl ((cG 5), 12, .inl (f 5))), ((g 6), .inl ((cG 6), 12, .inl (f 6))), ((g 7), .inl ((cG 7), 12, .inl (f 7))), ((g 8), .inl ((cG 8), 144, .inl (f 8)))] := hD
  refine lv_aload_n hx hb dX4_clear_5 rfl (lv_at hl 0 rfl) ?_
  refine lv_iconst (v := 0) hx hb dX4_clear_6 (by decide) ?_
  refine va_put (D := D) (ci := 4) (v := .int 0) (ty := .int) (C := RX4) (T := TX4) (N := 11) hx hb htg in_X4 tyX4 tyX4_ok nmX4 hown hK hP hD hS 0 rfl rfl 1 (by decide) (htg _ mw_1) (fun _ h9 => h9) rfl (by decide +kernel) rfl rfl (Nat.le_of_ble_eq_true rfl) dX4_clear_7 (fun H locs hP hD hS => ?_)
  have hP : va_P D vwCl [(o, .inr (4, [.int 0, .int 0, .ref (g 0), .ref (g 1), .ref (g 2), .ref (g 3), .ref (g 4), .ref (g 5), .ref (g 6), .ref (g 7), .ref (g 8)])), ((g 0), .inl ((cG 0), 12, .inl (f 0))), ((g 1), .inl ((cG 1), 12, .inl (f 1))), ((g 2), .inl ((cG 2), 144, .inl (f 2))), ((g 3), .inl ((cG 3), 12, .inl (f 3))), ((g 4), .inl ((cG 4), 12, .inl (f 4))), ((g 5), .inl ((cG 5), 12, .inl (f 5))), ((g 6), .inl ((cG 6), 12, .inl (f 6))), ((g 7), .inl ((cG 7), 12, .inl (f 7))), ((g 8), .inl ((cG 8), 144, .inl (f 8)))] H := hP
  have hD : va_D A [(o, .inr (4, [.int 0, .int 0, .ref (g 0), .ref (g 1), .ref (g 2), .ref (g 3), .ref (g 4), .ref (g 5), .ref (g 6), .ref (g 7), .ref (g 8)])), ((g 0), .inl ((cG 0), 12, .inl (f 0))), ((g 1), .inl ((cG 1), 12, .inl (f 1))), ((g 2), .inl ((cG 2), 144, .inl (f 2))), ((g 3), .inl ((cG 3), 12, .inl (f 3))), ((g 4), .inl ((cG 4), 12, .inl (f 4))), ((g 5), .inl ((cG 5), 12, .inl (f 5))), ((g 6), .inl ((cG 6), 12, .inl (f 6))), ((g 7), .inl ((cG 7), 12, .inl (f 7))), ((g 8), .inl ((cG 8), 144, .inl (f 8)))] := hD
  refine lv_aload_n hx hb dX4_clear_10 rfl (lv_at hl 0 rfl) ?_
  refine va_get (D := D) (ci := 4) (v := .ref (g 0)) (C := RX4) (T := TX4) (N := 11) hx hb htg in_X4 hown hK hP 0 rfl rfl 2 (by decide) (htg _ mw_115) (fun _ h9 => h9) rfl dX4_clear_11 ?_
  refine lv_iconst (v := (-1)) hx hb dX4_clear_14 (by decide) ?_
  have hPc := hP.sub (ws' := [((g 0), .inl ((cG 0), 12, .inl (f 0)))]) [1] rfl
  have hDc := hD.sub (ws' := [((g 0), .inl ((cG 0), 12, .inl (f 0)))]) [1] (by decide) rfl
  have hKc := hK.sub (tys' := [((cG 0), .int)]) [0] rfl
  have hFc := va_free (wc := [((g 0), .inl ((cG 0), 12, .inl (f 0)))]) hD hS hA [1] rfl
  refine va_callv (va_runS (As := [.ref (g 0), .int (-1)]) (rest := []) ⟨hx, hb, hml, hown, htg⟩ (c_fill l D (g 0) (cG 0) 12 (f 0) (-1) (by decide) H.size) (cS 2 htg mw_119 kv_J7_fill_53178 rfl rfl ⟨(Nat.le_of_ble_eq_true rfl), (Nat.le_of_ble_eq_true rfl)⟩) ⟨bl_n, us_n hPc hKc hDc⟩ rfl rfl hl.1 rfl (lv_room (Nat.le_of_ble_eq_true rfl)) dX4_clear_15 ⟨(Nat.le_of_ble_eq_true rfl), (Nat.le_of_ble_eq_true rfl)⟩) hS (fun q _ h => hFc q h) hFc (fun u t H locs ht hvm hw hB hz1 hk1 hS => ?_)
  obtain ⟨a_1, c_1, f_1⟩ := u
  obtain ⟨hP1, hK1, hD1⟩ := hB
  rw [ht] at hP1
  have hK1 := va_K.moved hvm.symm hK1
  obtain ⟨hP, hD⟩ := va_join (wr := [(o, .inr (4, [.int 0, .int 0, .ref (g 0), .ref (g 1), .ref (g 2), .ref (g 3), .ref (g 4), .ref (g 5), .ref (g 6), .ref (g 7), .ref (g 8)])), ((g 1), .inl ((cG 1), 12, .inl (f 1))), ((g 2), .inl ((cG 2), 144, .inl (f 2))), ((g 3), .inl ((cG 3), 12, .inl (f 3))), ((g 4), .inl ((cG 4), 12, .inl (f 4))), ((g 5), .inl ((cG 5), 12, .inl (f 5))), ((g 6), .inl ((cG 6), 12, .inl (f 6))), ((g 7), .inl ((cG 7), 12, .inl (f 7))), ((g 8), .inl ((cG 8), 144, .inl (f 8)))]) (w1 := [((g 0), .inl ((cG 0), 12, .inl (f_1 0)))]) hP hD [1] [0, 2, 3, 4, 5, 6, 7, 8, 9] rfl rfl (by decide) (by decide) hk1 hFc hP1 hD1
  have hP : va_P D vwCl [(o, .inr (4, [.int 0, .int 0, .ref (g 0), .ref (g 1), .ref (g 2), .ref (g 3), .ref (g 4), .ref (g 5), .ref (g 6), .ref (g 7), .ref (g 8)])), ((g 1), .inl ((cG 1), 12, .inl (f 1))), ((g 2), .inl ((cG 2), 144, .inl (f 2))), ((g 3), .inl ((cG 3), 12, .inl (f 3))), ((g 4), .inl ((cG 4), 12, .inl (f 4))), ((g 5), .inl ((cG 5), 12, .inl (f 5))), ((g 6), .inl ((cG 6), 12, .inl (f 6))), ((g 7), .inl ((cG 7), 12, .inl (f 7))), ((g 8), .inl ((cG 8), 144, .inl (f 8))), ((g 0), .inl ((cG 0), 12, .inl (f_1 0)))] H := hP
  have hD : va_D A [(o, .inr (4, [.int 0, .int 0, .ref (g 0), .ref (g 1), .ref (g 2), .ref (g 3), .ref (g 4), .ref (g 5), .ref (g 6), .ref (g 7), .ref (g 8)])), ((g 1), .inl ((cG 1), 12, .inl (f 1))), ((g 2), .inl ((cG 2), 144, .inl (f 2))), ((g 3), .inl ((cG 3), 12, .inl (f 3))), ((g 4), .inl ((cG 4), 12, .inl (f 4))), ((g 5), .inl ((cG 5), 12, .inl (f 5))), ((g 6), .inl ((cG 6), 12, .inl (f 6))), ((g 7), .inl ((cG 7), 12, .inl (f 7))), ((g 8), .inl ((cG 8), 144, .inl (f 8))), ((g 0), .inl ((cG 0), 12, .inl (f_1 0)))] := hD
  refine lv_aload_n hx hb dX4_clear_18 rfl (lv_at hl 0 rfl) ?_
  refine va_get (D := D) (ci := 4) (v := .ref (g 1)) (C := RX4) (T := TX4) (N := 11) hx hb htg in_X4 hown hK hP 0 rfl rfl 3 (by decide) (htg _ mw_120) (fun _ h9 => h9) rfl dX4_clear_19 ?_
  refine lv_iconst (v := (-1)) hx hb dX4_clear_22 (by decide) ?_
  have hPc := hP.sub (ws' := [((g 1), .inl ((cG 1), 12, .inl (f 1)))]) [1] rfl
  have hDc := hD.sub (ws' := [((g 1), .inl ((cG 1), 12, .inl (f 1)))]) [1] (by decide) rfl
  have hKc := hK.sub (tys' := [((cG 1), .int)]) [1] rfl
  have hFc := va_free (wc := [((g 1), .inl ((cG 1), 12, .inl (f 1)))]) hD hS hA [1] rfl
  refine va_callv (va_runS (As := [.ref (g 1), .int (-1)]) (rest := []) ⟨hx, hb, hml, hown, htg⟩ (c_fill l D (g 1) (cG 1) 12 (f 1) (-1) (by decide) H.size) (cS 2 htg mw_119 kv_J7_fill_53178 rfl rfl ⟨(Nat.le_of_ble_eq_true rfl), (Nat.le_of_ble_eq_true rfl)⟩) ⟨bl_n, us_n hPc hKc hDc⟩ rfl rfl hl.1 rfl (lv_room (Nat.le_of_ble_eq_true rfl)) dX4_clear_23 ⟨(Nat.le_of_ble_eq_true rfl), (Nat.le_of_ble_eq_true rfl)⟩) hS (fun q _ h => hFc q h) hFc (fun u t H locs ht hvm hw hB hz1 hk1 hS => ?_)
  obtain ⟨a_2, c_2, f_2⟩ := u
  obtain ⟨hP1, hK1, hD1⟩ := hB
  rw [ht] at hP1
  have hK1 := va_K.moved hvm.symm hK1
  obtain ⟨hP, hD⟩ := va_join (wr := [(o, .inr (4, [.int 0, .int 0, .ref (g 0), .ref (g 1), .ref (g 2), .ref (g 3), .ref (g 4), .ref (g 5), .ref (g 6), .ref (g 7), .ref (g 8)])), ((g 2), .inl ((cG 2), 144, .inl (f 2))), ((g 3), .inl ((cG 3), 12, .inl (f 3))), ((g 4), .inl ((cG 4), 12, .inl (f 4))), ((g 5), .inl ((cG 5), 12, .inl (f 5))), ((g 6), .inl ((cG 6), 12, .inl (f 6))), ((g 7), .inl ((cG 7), 12, .inl (f 7))), ((g 8), .inl ((cG 8), 144, .inl (f 8))), ((g 0), .inl ((cG 0), 12, .inl (f_1 0)))]) (w1 := [((g 1), .inl ((cG 1), 12, .inl (f_2 0)))]) hP hD [1] [0, 2, 3, 4, 5, 6, 7, 8, 9] rfl rfl (by decide) (by decide) hk1 hFc hP1 hD1
  have hP : va_P D vwCl [(o, .inr (4, [.int 0, .int 0, .ref (g 0), .ref (g 1), .ref (g 2), .ref (g 3), .ref (g 4), .ref (g 5), .ref (g 6), .ref (g 7), .ref (g 8)])), ((g 2), .inl ((cG 2), 144, .inl (f 2))), ((g 3), .inl ((cG 3), 12, .inl (f 3))), ((g 4), .inl ((cG 4), 12, .inl (f 4))), ((g 5), .inl ((cG 5), 12, .inl (f 5))), ((g 6), .inl ((cG 6), 12, .inl (f 6))), ((g 7), .inl ((cG 7), 12, .inl (f 7))), ((g 8), .inl ((cG 8), 144, .inl (f 8))), ((g 0), .inl ((cG 0), 12, .inl (f_1 0))), ((g 1), .inl ((cG 1), 12, .inl (f_2 0)))] H := hP
  have hD : va_D A [(o, .inr (4, [.int 0, .int 0, .ref (g 0), .ref (g 1), .ref (g 2), .ref (g 3), .ref (g 4), .ref (g 5), .ref (g 6), .ref (g 7), .ref (g 8)])), ((g 2), .inl ((cG 2), 144, .inl (f 2))), ((g 3), .inl ((cG 3), 12, .inl (f 3))), ((g 4), .inl ((cG 4), 12, .inl (f 4))), ((g 5), .inl ((cG 5), 12, .inl (f 5))), ((g 6), .inl ((cG 6), 12, .inl (f 6))), ((g 7), .inl ((cG 7), 12, .inl (f 7))), ((g 8), .inl ((cG 8), 144, .inl (f 8))), ((g 0), .inl ((cG 0), 12, .inl (f_1 0))), ((g 1), .inl ((cG 1), 12, .inl (f_2 0)))] := hD
  refine lv_aload_n hx hb dX4_clear_26 rfl (lv_at hl 0 rfl) ?_
  refine va_get (D := D) (ci := 4) (v := .ref (g 2)) (C := RX4) (T := TX4) (N := 11) hx hb htg in_X4 hown hK hP 0 rfl rfl 4 (by decide) (htg _ mw_121) (fun _ h9 => h9) rfl dX4_clear_27 ?_
  refine lv_iconst (v := 0) hx hb dX4_clear_30 (by decide) ?_
  have hPc := hP.sub (ws' := [((g 2), .inl ((cG 2), 144, .inl (f 2)))]) [1] rfl
  have hDc := hD.sub (ws' := [((g 2), .inl ((cG 2), 144, .inl (f 2)))]) [1] (by decide) rfl
  have hKc := hK.sub (tys' := [((cG 2), .int)]) [2] rfl
  have hFc := va_free (wc := [((g 2), .inl ((cG 2), 144, .inl (f 2)))]) hD hS hA [1] rfl
  refine va_callv (va_runS (As := [.ref (g 2), .int 0]) (rest := []) ⟨hx, hb, hml, hown, htg⟩ (c_fill l D (g 2) (cG 2) 144 (f 2) 0 (by decide) H.size) (cS 2 htg mw_119 kv_J7_fill_53178 rfl rfl ⟨(Nat.le_of_ble_eq_true rfl), (Nat.le_of_ble_eq_true rfl)⟩) ⟨bl_n, us_n hPc hKc hDc⟩ rfl rfl hl.1 rfl (lv_room (Nat.le_of_ble_eq_true rfl)) dX4_clear_31 ⟨(Nat.le_of_ble_eq_true rfl), (Nat.le_of_ble_eq_true rfl)⟩) hS (fun q _ h => hFc q h) hFc (fun u t H locs ht hvm hw hB hz1 hk1 hS => ?_)
  obtain ⟨a_3, c_3, f_3⟩ := u
  obtain ⟨hP1, hK1, hD1⟩ := hB
  rw [ht] at hP1
  have hK1 := va_K.moved hvm.symm hK1
  obtain ⟨hP, hD⟩ := va_join (wr := [(o, .inr (4, [.int 0, .int 0, .ref (g 0), .ref (g 1), .ref (g 2), .ref (g 3), .ref (g 4), .ref (g 5), .ref (g 6), .ref (g 7), .ref (g 8)])), ((g 3), .inl ((cG 3), 12, .inl (f 3))), ((g 4), .inl ((cG 4), 12, .inl (f 4))), ((g 5), .inl ((cG 5), 12, .inl (f 5))), ((g 6), .inl ((cG 6), 12, .inl (f 6))), ((g 7), .inl ((cG 7), 12, .inl (f 7))), ((g 8), .inl ((cG 8), 144, .inl (f 8))), ((g 0), .inl ((cG 0), 12, .inl (f_1 0))), ((g 1), .inl ((cG 1), 12, .inl (f_2 0)))]) (w1 := [((g 2), .inl ((cG 2), 144, .inl (f_3 0)))]) hP hD [1] [0, 2, 3, 4, 5, 6, 7, 8, 9] rfl rfl (by decide) (by decide) hk1 hFc hP1 hD1
  have hP : va_P D vwCl [(o, .inr (4, [.int 0, .int 0, .ref (g 0), .ref (g 1), .ref (g 2), .ref (g 3), .ref (g 4), .ref (g 5), .ref (g 6), .ref (g 7), .ref (g 8)])), ((g 3), .inl ((cG 3), 12, .inl (f 3))), ((g 4), .inl ((cG 4), 12, .inl (f 4))), ((g 5), .inl ((cG 5), 12, .inl (f 5))), ((g 6), .inl ((cG 6), 12, .inl (f 6))), ((g 7), .inl ((cG 7), 12, .inl (f 7))), ((g 8), .inl ((cG 8), 144, .inl (f 8))), ((g 0), .inl ((cG 0), 12, .inl (f_1 0))), ((g 1), .inl ((cG 1), 12, .inl (f_2 0))), ((g 2), .inl ((cG 2), 144, .inl (f_3 0)))] H := hP
  have hD : va_D A [(o, .inr (4, [.int 0, .int 0, .ref (g 0), .ref (g 1), .ref (g 2), .ref (g 3), .ref (g 4), .ref (g 5), .ref (g 6), .ref (g 7), .ref (g 8)])), ((g 3), .inl ((cG 3), 12, .inl (f 3))), ((g 4), .inl ((cG 4), 12, .inl (f 4))), ((g 5), .inl ((cG 5), 12, .inl (f 5))), ((g 6), .inl ((cG 6), 12, .inl (f 6))), ((g 7), .inl ((cG 7), 12, .inl (f 7))), ((g 8), .inl ((cG 8), 144, .inl (f 8))), ((g 0), .inl ((cG 0), 12, .inl (f_1 0))), ((g 1), .inl ((cG 1), 12, .inl (f_2 0))), ((g 2), .inl ((cG 2), 144, .inl (f_3 0)))] := hD
  refine lv_aload_n hx hb dX4_clear_34 rfl (lv_at hl 0 rfl) ?_
  refine va_get (D := D) (ci := 4) (v := .ref (g 3)) (C := RX4) (T := TX4) (N := 11) hx hb htg in_X4 hown hK hP 0 rfl rfl 5 (by decide) (htg _ mw_122) (fun _ h9 => h9) rfl dX4_clear_35 ?_
  refine lv_iconst (v := 0) hx hb dX4_clear_38 (by decide) ?_
  have hPc := hP.sub (ws' := [((g 3), .inl ((cG 3), 12, .inl (f 3)))]) [1] rfl
  have hDc := hD.sub (ws' := [((g 3), .inl ((cG 3), 12, .inl (f 3)))]) [1] (by decide) rfl
  have hKc := hK.sub (tys' := [((cG 3), .int)]) [3] rfl
  have hFc := va_free (wc := [((g 3), .inl ((cG 3), 12, .inl (f 3)))]) hD hS hA [1] rfl
  refine va_callv (va_runS (As := [.ref (g 3), .int 0]) (rest := []) ⟨hx, hb, hml, hown, htg⟩ (c_fill l D (g 3) (cG 3) 12 (f 3) 0 (by decide) H.size) (cS 2 htg mw_119 kv_J7_fill_53178 rfl rfl ⟨(Nat.le_of_ble_eq_true rfl), (Nat.le_of_ble_eq_true rfl)⟩) ⟨bl_n, us_n hPc hKc hDc⟩ rfl rfl hl.1 rfl (lv_room (Nat.le_of_ble_eq_true rfl)) dX4_clear_39 ⟨(Nat.le_of_ble_eq_true rfl), (Nat.le_of_ble_eq_true rfl)⟩) hS (fun q _ h => hFc q h) hFc (fun u t H locs ht hvm hw hB hz1 hk1 hS => ?_)
  obtain ⟨a_4, c_4, f_4⟩ := u
  obtain ⟨hP1, hK1, hD1⟩ := hB
  rw [ht] at hP1
  have hK1 := va_K.moved hvm.symm hK1
  obtain ⟨hP, hD⟩ := va_join (wr := [(o, .inr (4, [.int 0, .int 0, .ref (g 0), .ref (g 1), .ref (g 2), .ref (g 3), .ref (g 4), .ref (g 5), .ref (g 6), .ref (g 7), .ref (g 8)])), ((g 4), .inl ((cG 4), 12, .inl (f 4))), ((g 5), .inl ((cG 5), 12, .inl (f 5))), ((g 6), .inl ((cG 6), 12, .inl (f 6))), ((g 7), .inl ((cG 7), 12, .inl (f 7))), ((g 8), .inl ((cG 8), 144, .inl (f 8))), ((g 0), .inl ((cG 0), 12, .inl (f_1 0))), ((g 1), .inl ((cG 1), 12, .inl (f_2 0))), ((g 2), .inl ((cG 2), 144, .inl (f_3 0)))]) (w1 := [((g 3), .inl ((cG 3), 12, .inl (f_4 0)))]) hP hD [1] [0, 2, 3, 4, 5, 6, 7, 8, 9] rfl rfl (by decide) (by decide) hk1 hFc hP1 hD1
  have hP : va_P D vwCl [(o, .inr (4, [.int 0, .int 0, .ref (g 0), .ref (g 1), .ref (g 2), .ref (g 3), .ref (g 4), .ref (g 5), .ref (g 6), .ref (g 7), .ref (g 8)])), ((g 4), .inl ((cG 4), 12, .inl (f 4))), ((g 5), .inl ((cG 5), 12, .inl (f 5))), ((g 6), .inl ((cG 6), 12, .inl (f 6))), ((g 7), .inl ((cG 7), 12, .inl (f 7))), ((g 8), .inl ((cG 8), 144, .inl (f 8))), ((g 0), .inl ((cG 0), 12, .inl (f_1 0))), ((g 1), .inl ((cG 1), 12, .inl (f_2 0))), ((g 2), .inl ((cG 2), 144, .inl (f_3 0))), ((g 3), .inl ((cG 3), 12, .inl (f_4 0)))] H := hP
  have hD : va_D A [(o, .inr (4, [.int 0, .int 0, .ref (g 0), .ref (g 1), .ref (g 2), .ref (g 3), .ref (g 4), .ref (g 5), .ref (g 6), .ref (g 7), .ref (g 8)])), ((g 4), .inl ((cG 4), 12, .inl (f 4))), ((g 5), .inl ((cG 5), 12, .inl (f 5))), ((g 6), .inl ((cG 6), 12, .inl (f 6))), ((g 7), .inl ((cG 7), 12, .inl (f 7))), ((g 8), .inl ((cG 8), 144, .inl (f 8))), ((g 0), .inl ((cG 0), 12, .inl (f_1 0))), ((g 1), .inl ((cG 1), 12, .inl (f_2 0))), ((g 2), .inl ((cG 2), 144, .inl (f_3 0))), ((g 3), .inl ((cG 3), 12, .inl (f_4 0)))] := hD
  refine lv_aload_n hx hb dX4_clear_42 rfl (lv_at hl 0 rfl) ?_
  refine va_get (D := D) (ci := 4) (v := .ref (g 4)) (C := RX4) (T := TX4) (N := 11) hx hb htg in_X4 hown hK hP 0 rfl rfl 6 (by decide) (htg _ mw_123) (fun _ h9 => h9) rfl dX4_clear_43 ?_
  refine lv_iconst (v := 0) hx hb dX4_clear_46 (by decide) ?_
  have hPc := hP.sub (ws' := [((g 4), .inl ((cG 4), 12, .inl (f 4)))]) [1] rfl
  have hDc := hD.sub (ws' := [((g 4), .inl ((cG 4), 12, .inl (f 4)))]) [1] (by decide) rfl
  have hKc := hK.sub (tys' := [((cG 4), .int)]) [4] rfl
  have hFc := va_free (wc := [((g 4), .inl ((cG 4), 12, .inl (f 4)))]) hD hS hA [1] rfl
  refine va_callv (va_runS (As := [.ref (g 4), .int 0]) (rest := []) ⟨hx, hb, hml, hown, htg⟩ (c_fill l D (g 4) (cG 4) 12 (f 4) 0 (by decide) H.size) (cS 2 htg mw_119 kv_J7_fill_53178 rfl rfl ⟨(Nat.le_of_ble_eq_true rfl), (Nat.le_of_ble_eq_true rfl)⟩) ⟨bl_n, us_n hPc hKc hDc⟩ rfl rfl hl.1 rfl (lv_room (Nat.le_of_ble_eq_true rfl)) dX4_clear_47 ⟨(Nat.le_of_ble_eq_true rfl), (Nat.le_of_ble_eq_true rfl)⟩) hS (fun q _ h => hFc q h) hFc (fun u t H locs ht hvm hw hB hz1 hk1 hS => ?_)
  obtain ⟨a_5, c_5, f_5⟩ := u
  obtain ⟨hP1, hK1, hD1⟩ := hB
  rw [ht] at hP1
  have hK1 := va_K.moved hvm.symm hK1
  obtain ⟨hP, hD⟩ := va_join (wr := [(o, .inr (4, [.int 0, .int 0, .ref (g 0), .ref (g 1), .ref (g 2), .ref (g 3), .ref (g 4), .ref (g 5), .ref (g 6), .ref (g 7), .ref (g 8)])), ((g 5), .inl ((cG 5), 12, .inl (f 5))), ((g 6), .inl ((cG 6), 12, .inl (f 6))), ((g 7), .inl ((cG 7), 12, .inl (f 7))), ((g 8), .inl ((cG 8), 144, .inl (f 8))), ((g 0), .inl ((cG 0), 12, .inl (f_1 0))), ((g 1), .inl ((cG 1), 12, .inl (f_2 0))), ((g 2), .inl ((cG 2), 144, .inl (f_3 0))), ((g 3), .inl ((cG 3), 12, .inl (f_4 0)))]) (w1 := [((g 4), .inl ((cG 4), 12, .inl (f_5 0)))]) hP hD [1] [0, 2, 3, 4, 5, 6, 7, 8, 9] rfl rfl (by decide) (by decide) hk1 hFc hP1 hD1
  have hP : va_P D vwCl [(o, .inr (4, [.int 0, .int 0, .ref (g 0), .ref (g 1), .ref (g 2), .ref (g 3), .ref (g 4), .ref (g 5), .ref (g 6), .ref (g 7), .ref (g 8)])), ((g 5), .inl ((cG 5), 12, .inl (f 5))), ((g 6), .inl ((cG 6), 12, .inl (f 6))), ((g 7), .inl ((cG 7), 12, .inl (f 7))), ((g 8), .inl ((cG 8), 144, .inl (f 8))), ((g 0), .inl ((cG 0), 12, .inl (f_1 0))), ((g 1), .inl ((cG 1), 12, .inl (f_2 0))), ((g 2), .inl ((cG 2), 144, .inl (f_3 0))), ((g 3), .inl ((cG 3), 12, .inl (f_4 0))), ((g 4), .inl ((cG 4), 12, .inl (f_5 0)))] H := hP
  have hD : va_D A [(o, .inr (4, [.int 0, .int 0, .ref (g 0), .ref (g 1), .ref (g 2), .ref (g 3), .ref (g 4), .ref (g 5), .ref (g 6), .ref (g 7), .ref (g 8)])), ((g 5), .inl ((cG 5), 12, .inl (f 5))), ((g 6), .inl ((cG 6), 12, .inl (f 6))), ((g 7), .inl ((cG 7), 12, .inl (f 7))), ((g 8), .inl ((cG 8), 144, .inl (f 8))), ((g 0), .inl ((cG 0), 12, .inl (f_1 0))), ((g 1), .inl ((cG 1), 12, .inl (f_2 0))), ((g 2), .inl ((cG 2), 144, .inl (f_3 0))), ((g 3), .inl ((cG 3), 12, .inl (f_4 0))), ((g 4), .inl ((cG 4), 12, .inl (f_5 0)))] := hD
  refine lv_aload_n hx hb dX4_clear_50 rfl (lv_at hl 0 rfl) ?_
  refine va_get (D := D) (ci := 4) (v := .ref (g 5)) (C := RX4) (T := TX4) (N := 11) hx hb htg in_X4 hown hK hP 0 rfl rfl 7 (by decide) (htg _ mw_124) (fun _ h9 => h9) rfl dX4_clear_51 ?_
  refine lv_iconst (v := 0) hx hb dX4_clear_54 (by decide) ?_
  have hPc := hP.sub (ws' := [((g 5), .inl ((cG 5), 12, .inl (f 5)))]) [1] rfl
  have hDc := hD.sub (ws' := [((g 5), .inl ((cG 5), 12, .inl (f 5)))]) [1] (by decide) rfl
  have hKc := hK.sub (tys' := [((cG 5), .int)]) [5] rfl
  have hFc := va_free (wc := [((g 5), .inl ((cG 5), 12, .inl (f 5)))]) hD hS hA [1] rfl
  refine va_callv (va_runS (As := [.ref (g 5), .int 0]) (rest := []) ⟨hx, hb, hml, hown, htg⟩ (c_fill l D (g 5) (cG 5) 12 (f 5) 0 (by decide) H.size) (cS 2 htg mw_119 kv_J7_fill_53178 rfl rfl ⟨(Nat.le_of_ble_eq_true rfl), (Nat.le_of_ble_eq_true rfl)⟩) ⟨bl_n, us_n hPc hKc hDc⟩ rfl rfl hl.1 rfl (lv_room (Nat.le_of_ble_eq_true rfl)) dX4_clear_55 ⟨(Nat.le_of_ble_eq_true rfl), (Nat.le_of_ble_eq_true rfl)⟩) hS (fun q _ h => hFc q h) hFc (fun u t H locs ht hvm hw hB hz1 hk1 hS => ?_)
  obtain ⟨a_6, c_6, f_6⟩ := u
  obtain ⟨hP1, hK1, hD1⟩ := hB
  rw [ht] at hP1
  have hK1 := va_K.moved hvm.symm hK1
  obtain ⟨hP, hD⟩ := va_join (wr := [(o, .inr (4, [.int 0, .int 0, .ref (g 0), .ref (g 1), .ref (g 2), .ref (g 3), .ref (g 4), .ref (g 5), .ref (g 6), .ref (g 7), .ref (g 8)])), ((g 6), .inl ((cG 6), 12, .inl (f 6))), ((g 7), .inl ((cG 7), 12, .inl (f 7))), ((g 8), .inl ((cG 8), 144, .inl (f 8))), ((g 0), .inl ((cG 0), 12, .inl (f_1 0))), ((g 1), .inl ((cG 1), 12, .inl (f_2 0))), ((g 2), .inl ((cG 2), 144, .inl (f_3 0))), ((g 3), .inl ((cG 3), 12, .inl (f_4 0))), ((g 4), .inl ((cG 4), 12, .inl (f_5 0)))]) (w1 := [((g 5), .inl ((cG 5), 12, .inl (f_6 0)))]) hP hD [1] [0, 2, 3, 4, 5, 6, 7, 8, 9] rfl rfl (by decide) (by decide) hk1 hFc hP1 hD1
  have hP : va_P D vwCl [(o, .inr (4, [.int 0, .int 0, .ref (g 0), .ref (g 1), .ref (g 2), .ref (g 3), .ref (g 4), .ref (g 5), .ref (g 6), .ref (g 7), .ref (g 8)])), ((g 6), .inl ((cG 6), 12, .inl (f 6))), ((g 7), .inl ((cG 7), 12, .inl (f 7))), ((g 8), .inl ((cG 8), 144, .inl (f 8))), ((g 0), .inl ((cG 0), 12, .inl (f_1 0))), ((g 1), .inl ((cG 1), 12, .inl (f_2 0))), ((g 2), .inl ((cG 2), 144, .inl (f_3 0))), ((g 3), .inl ((cG 3), 12, .inl (f_4 0))), ((g 4), .inl ((cG 4), 12, .inl (f_5 0))), ((g 5), .inl ((cG 5), 12, .inl (f_6 0)))] H := hP
  have hD : va_D A [(o, .inr (4, [.int 0, .int 0, .ref (g 0), .ref (g 1), .ref (g 2), .ref (g 3), .ref (g 4), .ref (g 5), .ref (g 6), .ref (g 7), .ref (g 8)])), ((g 6), .inl ((cG 6), 12, .inl (f 6))), ((g 7), .inl ((cG 7), 12, .inl (f 7))), ((g 8), .inl ((cG 8), 144, .inl (f 8))), ((g 0), .inl ((cG 0), 12, .inl (f_1 0))), ((g 1), .inl ((cG 1), 12, .inl (f_2 0))), ((g 2), .inl ((cG 2), 144, .inl (f_3 0))), ((g 3), .inl ((cG 3), 12, .inl (f_4 0))), ((g 4), .inl ((cG 4), 12, .inl (f_5 0))), ((g 5), .inl ((cG 5), 12, .inl (f_6 0)))] := hD
  refine lv_aload_n hx hb dX4_clear_58 rfl (lv_at hl 0 rfl) ?_
  refine va_get (D := D) (ci := 4) (v := .ref (g 6)) (C := RX4) (T := TX4) (N := 11) hx hb htg in_X4 hown hK hP 0 rfl rfl 8 (by decide) (htg _ mw_125) (fun _ h9 => h9) rfl dX4_clear_59 ?_
  refine lv_iconst (v := 1) hx hb dX4_clear_62 (by decide) ?_
  have hPc := hP.sub (ws' := [((g 6), .inl ((cG 6), 12, .inl (f 6)))]) [1] rfl
  have hDc := hD.sub (ws' := [((g 6), .inl ((cG 6), 12, .inl (f 6)))]) [1] (by decide) rfl
  have hKc := hK.sub (tys' := [((cG 6), .int)]) [6] rfl
  have hFc := va_free (wc := [((g 6), .inl ((cG 6), 12, .inl (f 6)))]) hD hS hA [1] rfl
  refine va_callv (va_runS (As := [.ref (g 6), .int 1]) (rest := []) ⟨hx, hb, hml, hown, htg⟩ (c_fill l D (g 6) (cG 6) 12 (f 6) 1 (by decide) H.size) (cS 2 htg mw_119 kv_J7_fill_53178 rfl rfl ⟨(Nat.le_of_ble_eq_true rfl), (Nat.le_of_ble_eq_true rfl)⟩) ⟨bl_n, us_n hPc hKc hDc⟩ rfl rfl hl.1 rfl (lv_room (Nat.le_of_ble_eq_true rfl)) dX4_clear_63 ⟨(Nat.le_of_ble_eq_true rfl), (Nat.le_of_ble_eq_true rfl)⟩) hS (fun q _ h => hFc q h) hFc (fun u t H locs ht hvm hw hB hz1 hk1 hS => ?_)
  obtain ⟨a_7, c_7, f_7⟩ := u
  obtain ⟨hP1, hK1, hD1⟩ := hB
  rw [ht] at hP1
  have hK1 := va_K.moved hvm.symm hK1
  obtain ⟨hP, hD⟩ := va_join (wr := [(o, .inr (4, [.int 0, .int 0, .ref (g 0), .ref (g 1), .ref (g 2), .ref (g 3), .ref (g 4), .ref (g 5), .ref (g 6), .ref (g 7), .ref (g 8)])), ((g 7), .inl ((cG 7), 12, .inl (f 7))), ((g 8), .inl ((cG 8), 144, .inl (f 8))), ((g 0), .inl ((cG 0), 12, .inl (f_1 0))), ((g 1), .inl ((cG 1), 12, .inl (f_2 0))), ((g 2), .inl ((cG 2), 144, .inl (f_3 0))), ((g 3), .inl ((cG 3), 12, .inl (f_4 0))), ((g 4), .inl ((cG 4), 12, .inl (f_5 0))), ((g 5), .inl ((cG 5), 12, .inl (f_6 0)))]) (w1 := [((g 6), .inl ((cG 6), 12, .inl (f_7 0)))]) hP hD [1] [0, 2, 3, 4, 5, 6, 7, 8, 9] rfl rfl (by decide) (by decide) hk1 hFc hP1 hD1
  have hP : va_P D vwCl [(o, .inr (4, [.int 0, .int 0, .ref (g 0), .ref (g 1), .ref (g 2), .ref (g 3), .ref (g 4), .ref (g 5), .ref (g 6), .ref (g 7), .ref (g 8)])), ((g 7), .inl ((cG 7), 12, .inl (f 7))), ((g 8), .inl ((cG 8), 144, .inl (f 8))), ((g 0), .inl ((cG 0), 12, .inl (f_1 0))), ((g 1), .inl ((cG 1), 12, .inl (f_2 0))), ((g 2), .inl ((cG 2), 144, .inl (f_3 0))), ((g 3), .inl ((cG 3), 12, .inl (f_4 0))), ((g 4), .inl ((cG 4), 12, .inl (f_5 0))), ((g 5), .inl ((cG 5), 12, .inl (f_6 0))), ((g 6), .inl ((cG 6), 12, .inl (f_7 0)))] H := hP
  have hD : va_D A [(o, .inr (4, [.int 0, .int 0, .ref (g 0), .ref (g 1), .ref (g 2), .ref (g 3), .ref (g 4), .ref (g 5), .ref (g 6), .ref (g 7), .ref (g 8)])), ((g 7), .inl ((cG 7), 12, .inl (f 7))), ((g 8), .inl ((cG 8), 144, .inl (f 8))), ((g 0), .inl ((cG 0), 12, .inl (f_1 0))), ((g 1), .inl ((cG 1), 12, .inl (f_2 0))), ((g 2), .inl ((cG 2), 144, .inl (f_3 0))), ((g 3), .inl ((cG 3), 12, .inl (f_4 0))), ((g 4), .inl ((cG 4), 12, .inl (f_5 0))), ((g 5), .inl ((cG 5), 12, .inl (f_6 0))), ((g 6), .inl ((cG 6), 12, .inl (f_7 0)))] := hD
  refine lv_aload_n hx hb dX4_clear_66 rfl (lv_at hl 0 rfl) ?_
  refine va_get (D := D) (ci := 4) (v := .ref (g 7)) (C := RX4) (T := TX4) (N := 11) hx hb htg in_X4 hown hK hP 0 rfl rfl 9 (by decide) (htg _ mw_126) (fun _ h9 => h9) rfl dX4_clear_67 ?_
  refine lv_iconst (v := (-1)) hx hb dX4_clear_70 (by decide) ?_
  have hPc := hP.sub (ws' := [((g 7), .inl ((cG 7), 12, .inl (f 7)))]) [1] rfl
  have hDc := hD.sub (ws' := [((g 7), .inl ((cG 7), 12, .inl (f 7)))]) [1] (by decide) rfl
  have hKc := hK.sub (tys' := [((cG 7), .int)]) [7] rfl
  have hFc := va_free (wc := [((g 7), .inl ((cG 7), 12, .inl (f 7)))]) hD hS hA [1] rfl
  refine va_callv (va_runS (As := [.ref (g 7), .int (-1)]) (rest := []) ⟨hx, hb, hml, hown, htg⟩ (c_fill l D (g 7) (cG 7) 12 (f 7) (-1) (by decide) H.size) (cS 2 htg mw_119 kv_J7_fill_53178 rfl rfl ⟨(Nat.le_of_ble_eq_true rfl), (Nat.le_of_ble_eq_true rfl)⟩) ⟨bl_n, us_n hPc hKc hDc⟩ rfl rfl hl.1 rfl (lv_room (Nat.le_of_ble_eq_true rfl)) dX4_clear_71 ⟨(Nat.le_of_ble_eq_true rfl), (Nat.le_of_ble_eq_true rfl)⟩) hS (fun q _ h => hFc q h) hFc (fun u t H locs ht hvm hw hB hz1 hk1 hS => ?_)
  obtain ⟨a_8, c_8, f_8⟩ := u
  obtain ⟨hP1, hK1, hD1⟩ := hB
  rw [ht] at hP1
  have hK1 := va_K.moved hvm.symm hK1
  obtain ⟨hP, hD⟩ := va_join (wr := [(o, .inr (4, [.int 0, .int 0, .ref (g 0), .ref (g 1), .ref (g 2), .ref (g 3), .ref (g 4), .ref (g 5), .ref (g 6), .ref (g 7), .ref (g 8)])), ((g 8), .inl ((cG 8), 144, .inl (f 8))), ((g 0), .inl ((cG 0), 12, .inl (f_1 0))), ((g 1), .inl ((cG 1), 12, .inl (f_2 0))), ((g 2), .inl ((cG 2), 144, .inl (f_3 0))), ((g 3), .inl ((cG 3), 12, .inl (f_4 0))), ((g 4), .inl ((cG 4), 12, .inl (f_5 0))), ((g 5), .inl ((cG 5), 12, .inl (f_6 0))), ((g 6), .inl ((cG 6), 12, .inl (f_7 0)))]) (w1 := [((g 7), .inl ((cG 7), 12, .inl (f_8 0)))]) hP hD [1] [0, 2, 3, 4, 5, 6, 7, 8, 9] rfl rfl (by decide) (by decide) hk1 hFc hP1 hD1
  have hP : va_P D vwCl [(o, .inr (4, [.int 0, .int 0, .ref (g 0), .ref (g 1), .ref (g 2), .ref (g 3), .ref (g 4), .ref (g 5), .ref (g 6), .ref (g 7), .ref (g 8)])), ((g 8), .inl ((cG 8), 144, .inl (f 8))), ((g 0), .inl ((cG 0), 12, .inl (f_1 0))), ((g 1), .inl ((cG 1), 12, .inl (f_2 0))), ((g 2), .inl ((cG 2), 144, .inl (f_3 0))), ((g 3), .inl ((cG 3), 12, .inl (f_4 0))), ((g 4), .inl ((cG 4), 12, .inl (f_5 0))), ((g 5), .inl ((cG 5), 12, .inl (f_6 0))), ((g 6), .inl ((cG 6), 12, .inl (f_7 0))), ((g 7), .inl ((cG 7), 12, .inl (f_8 0)))] H := hP
  have hD : va_D A [(o, .inr (4, [.int 0, .int 0, .ref (g 0), .ref (g 1), .ref (g 2), .ref (g 3), .ref (g 4), .ref (g 5), .ref (g 6), .ref (g 7), .ref (g 8)])), ((g 8), .inl ((cG 8), 144, .inl (f 8))), ((g 0), .inl ((cG 0), 12, .inl (f_1 0))), ((g 1), .inl ((cG 1), 12, .inl (f_2 0))), ((g 2), .inl ((cG 2), 144, .inl (f_3 0))), ((g 3), .inl ((cG 3), 12, .inl (f_4 0))), ((g 4), .inl ((cG 4), 12, .inl (f_5 0))), ((g 5), .inl ((cG 5), 12, .inl (f_6 0))), ((g 6), .inl ((cG 6), 12, .inl (f_7 0))), ((g 7), .inl ((cG 7), 12, .inl (f_8 0)))] := hD
  refine lv_aload_n hx hb dX4_clear_74 rfl (lv_at hl 0 rfl) ?_
  refine va_get (D := D) (ci := 4) (v := .ref (g 8)) (C := RX4) (T := TX4) (N := 11) hx hb htg in_X4 hown hK hP 0 rfl rfl 10 (by decide) (htg _ mw_127) (fun _ h9 => h9) rfl dX4_clear_75 ?_
  refine lv_iconst (v := 0) hx hb dX4_clear_78 (by decide) ?_
  have hPc := hP.sub (ws' := [((g 8), .inl ((cG 8), 144, .inl (f 8)))]) [1] rfl
  have hDc := hD.sub (ws' := [((g 8), .inl ((cG 8), 144, .inl (f 8)))]) [1] (by decide) rfl
  have hKc := hK.sub (tys' := [((cG 8), .int)]) [8] rfl
  have hFc := va_free (wc := [((g 8), .inl ((cG 8), 144, .inl (f 8)))]) hD hS hA [1] rfl
  refine va_callv (va_runS (As := [.ref (g 8), .int 0]) (rest := []) ⟨hx, hb, hml, hown, htg⟩ (c_fill l D (g 8) (cG 8) 144 (f 8) 0 (by decide) H.size) (cS 2 htg mw_119 kv_J7_fill_53178 rfl rfl ⟨(Nat.le_of_ble_eq_true rfl), (Nat.le_of_ble_eq_true rfl)⟩) ⟨bl_n, us_n hPc hKc hDc⟩ rfl rfl hl.1 rfl (lv_room (Nat.le_of_ble_eq_true rfl)) dX4_clear_79 ⟨(Nat.le_of_ble_eq_true rfl), (Nat.le_of_ble_eq_true rfl)⟩) hS (fun q _ h => hFc q h) hFc (fun u t H locs ht hvm hw hB hz1 hk1 hS => ?_)
  obtain ⟨a_9, c_9, f_9⟩ := u
  obtain ⟨hP1, hK1, hD1⟩ := hB
  rw [ht] at hP1
  have hK1 := va_K.moved hvm.symm hK1
  obtain ⟨hP, hD⟩ := va_join (wr := [(o, .inr (4, [.int 0, .int 0, .ref (g 0), .ref (g 1), .ref (g 2), .ref (g 3), .ref (g 4), .ref (g 5), .ref (g 6), .ref (g 7), .ref (g 8)])), ((g 0), .inl ((cG 0), 12, .inl (f_1 0))), ((g 1), .inl ((cG 1), 12, .inl (f_2 0))), ((g 2), .inl ((cG 2), 144, .inl (f_3 0))), ((g 3), .inl ((cG 3), 12, .inl (f_4 0))), ((g 4), .inl ((cG 4), 12, .inl (f_5 0))), ((g 5), .inl ((cG 5), 12, .inl (f_6 0))), ((g 6), .inl ((cG 6), 12, .inl (f_7 0))), ((g 7), .inl ((cG 7), 12, .inl (f_8 0)))]) (w1 := [((g 8), .inl ((cG 8), 144, .inl (f_9 0)))]) hP hD [1] [0, 2, 3, 4, 5, 6, 7, 8, 9] rfl rfl (by decide) (by decide) hk1 hFc hP1 hD1
  have hP : va_P D vwCl [(o, .inr (4, [.int 0, .int 0, .ref (g 0), .ref (g 1), .ref (g 2), .ref (g 3), .ref (g 4), .ref (g 5), .ref (g 6), .ref (g 7), .ref (g 8)])), ((g 0), .inl ((cG 0), 12, .inl (f_1 0))), ((g 1), .inl ((cG 1), 12, .inl (f_2 0))), ((g 2), .inl ((cG 2), 144, .inl (f_3 0))), ((g 3), .inl ((cG 3), 12, .inl (f_4 0))), ((g 4), .inl ((cG 4), 12, .inl (f_5 0))), ((g 5), .inl ((cG 5), 12, .inl (f_6 0))), ((g 6), .inl ((cG 6), 12, .inl (f_7 0))), ((g 7), .inl ((cG 7), 12, .inl (f_8 0))), ((g 8), .inl ((cG 8), 144, .inl (f_9 0)))] H := hP
  have hD : va_D A [(o, .inr (4, [.int 0, .int 0, .ref (g 0), .ref (g 1), .ref (g 2), .ref (g 3), .ref (g 4), .ref (g 5), .ref (g 6), .ref (g 7), .ref (g 8)])), ((g 0), .inl ((cG 0), 12, .inl (f_1 0))), ((g 1), .inl ((cG 1), 12, .inl (f_2 0))), ((g 2), .inl ((cG 2), 144, .inl (f_3 0))), ((g 3), .inl ((cG 3), 12, .inl (f_4 0))), ((g 4), .inl ((cG 4), 12, .inl (f_5 0))), ((g 5), .inl ((cG 5), 12, .inl (f_6 0))), ((g 6), .inl ((cG 6), 12, .inl (f_7 0))), ((g 7), .inl ((cG 7), 12, .inl (f_8 0))), ((g 8), .inl ((cG 8), 144, .inl (f_9 0)))] := hD
  exact W.vret hx hb hr (fun t ht hW => ⟨⟨((fun _ => 0), (fun _ => 0), (fun k => [(fun _ => 0), (f_1 0), (f_2 0), (f_3 0), (f_4 0), (f_5 0), (f_6 0), (f_7 0), (f_8 0), (f_9 0)].getD k (fun _ => 0))), rfl, trivial, by rw [ht]; exact hP, va_K.moved hW.alike hK, hD⟩, hS.F ht⟩) hS.2.2 dX4_clear_82

set_option maxHeartbeats 4000000 in
set_option maxRecDepth 100000 in
theorem c_X4_isReadFrom (l : Launch) (D : va_G) (o : Nat) (g : Nat → Nat) (cG : Nat → ClassId) (f : Nat → Nat → Int32) (tp tb : Nat) (zh : Nat) : Met l yX4_isReadFrom (.code yX4_isReadFrom cX4_isReadFrom 2 (some .boolean) :: gw) ({ frames := 2, cells := 0, slots := 0, locals := 80 }) (va_Pc [.ref o, .ref tp] (pn D zh [(o, .inr (4, [.int 0, .int 0, .ref (g 0), .ref (g 1), .ref (g 2), .ref (g 3), .ref (g 4), .ref (g 5), .ref (g 6), .ref (g 7), .ref (g 8)])), ((g 0), .inl ((cG 0), 12, .inl (f 0))), ((g 1), .inl ((cG 1), 12, .inl (f 1))), ((g 2), .inl ((cG 2), 144, .inl (f 2))), ((g 3), .inl ((cG 3), 12, .inl (f 3))), ((g 4), .inl ((cG 4), 12, .inl (f 4))), ((g 5), .inl ((cG 5), 12, .inl (f 5))), ((g 6), .inl ((cG 6), 12, .inl (f 6))), ((g 7), .inl ((cG 7), 12, .inl (f 7))), ((g 8), .inl ((cG 8), 144, .inl (f 8))), (tp, .inr (6, [.ref tb, .int 0, .int 0]))] [((cG 0), .int), ((cG 1), .int), ((cG 2), .int), ((cG 3), .int), ((cG 4), .int), ((cG 5), .int), ((cG 6), .int), ((cG 7), .int), ((cG 8), .int)])) (va_Qi (fun r (_ : vU) => r = 0) (fun u t => nw D (va_A [(o, .inr (4, [.int 0, .int 0, .ref (g 0), .ref (g 1), .ref (g 2), .ref (g 3), .ref (g 4), .ref (g 5), .ref (g 6), .ref (g 7), .ref (g 8)])), ((g 0), .inl ((cG 0), 12, .inl (f 0))), ((g 1), .inl ((cG 1), 12, .inl (f 1))), ((g 2), .inl ((cG 2), 144, .inl (f 2))), ((g 3), .inl ((cG 3), 12, .inl (f 3))), ((g 4), .inl ((cG 4), 12, .inl (f 4))), ((g 5), .inl ((cG 5), 12, .inl (f 5))), ((g 6), .inl ((cG 6), 12, .inl (f 6))), ((g 7), .inl ((cG 7), 12, .inl (f 7))), ((g 8), .inl ((cG 8), 144, .inl (f 8))), (tp, .inr (6, [.ref tb, .int 0, .int 0]))] zh) [(o, .inr (4, [.int 0, .int 0, .ref (g 0), .ref (g 1), .ref (g 2), .ref (g 3), .ref (g 4), .ref (g 5), .ref (g 6), .ref (g 7), .ref (g 8)])), ((g 0), .inl ((cG 0), 12, .inl (u.2.2 1))), ((g 1), .inl ((cG 1), 12, .inl (u.2.2 2))), ((g 2), .inl ((cG 2), 144, .inl (u.2.2 3))), ((g 3), .inl ((cG 3), 12, .inl (u.2.2 4))), ((g 4), .inl ((cG 4), 12, .inl (u.2.2 5))), ((g 5), .inl ((cG 5), 12, .inl (u.2.2 6))), ((g 6), .inl ((cG 6), 12, .inl (u.2.2 7))), ((g 7), .inl ((cG 7), 12, .inl (u.2.2 8))), ((g 8), .inl ((cG 8), 144, .inl (u.2.2 9))), (tp, .inr (6, [.ref tb, .int 0, .int 0]))] [((cG 0), .int), ((cG 1), .int), ((cG 2), .int), ((cG 3), .int), ((cG 4), .int), ((cG 5), .int), ((cG 6), .int), ((cG 7), .int), ((cG 8), .int)] t) (va_A [(o, .inr (4, [.int 0, .int 0, .ref (g 0), .ref (g 1), .ref (g 2), .ref (g 3), .ref (g 4), .ref (g 5), .ref (g 6), .ref (g 7), .ref (g 8)])), ((g 0), .inl ((cG 0), 12, .inl (f 0))), ((g 1), .inl ((cG 1), 12, .inl (f 1))), ((g 2), .inl ((cG 2), 144, .inl (f 2))), ((g 3), .inl ((cG 3), 12, .inl (f 3))), ((g 4), .inl ((cG 4), 12, .inl (f 4))), ((g 5), .inl ((cG 5), 12, .inl (f 5))), ((g 6), .inl ((cG 6), 12, .inl (f 6))), ((g 7), .inl ((cG 7), 12, .inl (f 7))), ((g 8), .inl ((cG 8), 144, .inl (f 8))), (tp, .inr (6, [.ref tb, .int 0, .int 0]))] zh)) 0 0 (va_A [(o, .inr (4, [.int 0, .int 0, .ref (g 0), .ref (g 1), .ref (g 2), .ref (g 3), .ref (g 4), .ref (g 5), .ref (g 6), .ref (g 7), .ref (g 8)])), ((g 0), .inl ((cG 0), 12, .inl (f 0))), ((g 1), .inl ((cG 1), 12, .inl (f 1))), ((g 2), .inl ((cG 2), 144, .inl (f 2))), ((g 3), .inl ((cG 3), 12, .inl (f 3))), ((g 4), .inl ((cG 4), 12, .inl (f 4))), ((g 5), .inl ((cG 5), 12, .inl (f 5))), ((g 6), .inl ((cG 6), 12, .inl (f 6))), ((g 7), .inl ((cG 7), 12, .inl (f 7))), ((g 8), .inl ((cG 8), 144, .inl (f 8))), (tp, .inr (6, [.ref tb, .int 0, .int 0]))] zh) := by
  refine Met.ofW (cc := cX4_isReadFrom) (maxL := 2) (ret := (some .boolean)) (by decide) rfl ?_
  intro p e s m args below meth c s₁ B hml hv
  obtain ⟨rfl, hsz, hP, hK, hD0⟩ := hv
  have hx := B.exec
  have hb := B.bytes
  have hr := B.returns
  have hts := atoms_spec (ws := .code yX4_isReadFrom cX4_isReadFrom 2 (some .boolean) :: gw) B.pre
  have htg := gw_tl hts
  have hown : s.vm.findClass RX4 = some m.cls := findClass_of_methodNamed B.named
  have hlocks := B.notSynchronized
  subst hsz
  have hD := hD0.self (sz := s.heap.size)
  generalize hAe : va_A [(o, .inr (4, [.int 0, .int 0, .ref (g 0), .ref (g 1), .ref (g 2), .ref (g 3), .ref (g 4), .ref (g 5), .ref (g 6), .ref (g 7), .ref (g 8)])), ((g 0), .inl ((cG 0), 12, .inl (f 0))), ((g 1), .inl ((cG 1), 12, .inl (f 1))), ((g 2), .inl ((cG 2), 144, .inl (f 2))), ((g 3), .inl ((cG 3), 12, .inl (f 3))), ((g 4), .inl ((cG 4), 12, .inl (f 4))), ((g 5), .inl ((cG 5), 12, .inl (f 5))), ((g 6), .inl ((cG 6), 12, .inl (f 6))), ((g 7), .inl ((cG 7), 12, .inl (f 7))), ((g 8), .inl ((cG 8), 144, .inl (f 8))), (tp, .inr (6, [.ref tb, .int 0, .int 0]))] s.heap.size = A at hD ⊢
  have hA : ∀ q : Nat, s.heap.size ≤ q → A q := fun q h => by rw [← hAe]; exact Or.inr h
  have hS : va_S A s.heap s.heap [] := va_S.rf
  have hl := lv_entry ([.ref o, .ref tp]) (n := 2) (Nat.le_of_ble_eq_true rfl)
  rw [lg_entry_eq]
  generalize (lg_sl ([.ref o, .ref tp]) ++ List.replicate (2 - (lg_sl ([.ref o, .ref tp])).length) Slot.unset).toArray = ls at hl ⊢
  have hl : lv_has ls 2 [(0, .ref o), (1, .ref tp)] := hl
  refine lv_aload_n hx hb dX4_isReadFrom_0 rfl (lv_at hl 0 rfl) ?_
  have hPc := hP.sub (ws' := [(o, .inr (4, [.int 0, .int 0, .ref (g 0), .ref (g 1), .ref (g 2), .ref (g 3), .ref (g 4), .ref (g 5), .ref (g 6), .ref (g 7), .ref (g 8)])), ((g 0), .inl ((cG 0), 12, .inl (f 0))), ((g 1), .inl ((cG 1), 12, .inl (f 1))), ((g 2), .inl ((cG 2), 144, .inl (f 2))), ((g 3), .inl ((cG 3), 12, .inl (f 3))), ((g 4), .inl ((cG 4), 12, .inl (f 4))), ((g 5), .inl ((cG 5), 12, .inl (f 5))), ((g 6), .inl ((cG 6), 12, .inl (f 6))), ((g 7), .inl ((cG 7), 12, .inl (f 7))), ((g 8), .inl ((cG 8), 144, .inl (f 8)))]) [0, 1, 2, 3, 4, 5, 6, 7, 8, 9] rfl
  have hDc := hD.sub (ws' := [(o, .inr (4, [.int 0, .int 0, .ref (g 0), .ref (g 1), .ref (g 2), .ref (g 3), .ref (g 4), .ref (g 5), .ref (g 6), .ref (g 7), .ref (g 8)])), ((g 0), .inl ((cG 0), 12, .inl (f 0))), ((g 1), .inl ((cG 1), 12, .inl (f 1))), ((g 2), .inl ((cG 2), 144, .inl (f 2))), ((g 3), .inl ((cG 3), 12, .inl (f 3))), ((g 4), .inl ((cG 4), 12, .inl (f 4))), ((g 5), .inl ((cG 5), 12, .inl (f 5))), ((g 6), .inl ((cG 6), 12, .inl (f 6))), ((g 7), .inl ((cG 7), 12, .inl (f 7))), ((g 8), .inl ((cG 8), 144, .inl (f 8)))]) [0, 1, 2, 3, 4, 5, 6, 7, 8, 9] (by decide) rfl
  have hKc := hK.sub (tys' := [((cG 0), .int), ((cG 1), .int), ((cG 2), .int), ((cG 3), .int), ((cG 4), .int), ((cG 5), .int), ((cG 6), .int), ((cG 7), .int), ((cG 8), .int)]) [0, 1, 2, 3, 4, 5, 6, 7, 8] rfl
  have hFc := va_free (wc := [(o, .inr (4, [.int 0, .int 0, .ref (g 0), .ref (g 1), .ref (g 2), .ref (g 3), .ref (g 4), .ref (g 5), .ref (g 6), .ref (g 7), .ref (g 8)])), ((g 0), .inl ((cG 0), 12, .inl (f 0))), ((g 1), .inl ((cG 1), 12, .inl (f 1))), ((g 2), .inl ((cG 2), 144, .inl (f 2))), ((g 3), .inl ((cG 3), 12, .inl (f 3))), ((g 4), .inl ((cG 4), 12, .inl (f 4))), ((g 5), .inl ((cG 5), 12, .inl (f 5))), ((g 6), .inl ((cG 6), 12, .inl (f 6))), ((g 7), .inl ((cG 7), 12, .inl (f 7))), ((g 8), .inl ((cG 8), 144, .inl (f 8)))]) hD hS hA [0, 1, 2, 3, 4, 5, 6, 7, 8, 9] rfl
  refine va_callv (va_runV (As := []) (rest := []) ⟨hx, hb, hml, hown, htg⟩ (c_X4_clear l D o (fun k => [(g 0), (g 1), (g 2), (g 3), (g 4), (g 5), (g 6), (g 7), (g 8)].getD k 0) (fun k => [(cG 0), (cG 1), (cG 2), (cG 3), (cG 4), (cG 5), (cG 6), (cG 7), (cG 8)].getD k 0) (fun k => [(f 0), (f 1), (f 2), (f 3), (f 4), (f 5), (f 6), (f 7), (f 8)].getD k (fun _ => 0)) s.heap.size) (cV 0 htg mw_131 kv_X4_clear rfl rfl ⟨(Nat.le_of_ble_eq_true rfl), (Nat.le_of_ble_eq_true rfl)⟩) ⟨bl_n, va_recv hKc hPc (ci := 4) (q0 := 0) rfl rfl, us_n hPc hKc hDc⟩ rfl rfl hl.1 rfl (lv_room (Nat.le_of_ble_eq_true rfl)) dX4_isReadFrom_1 ⟨(Nat.le_of_ble_eq_true rfl), (Nat.le_of_ble_eq_true rfl)⟩) hS (fun q _ h => hFc q h) hFc (fun u t H locs ht hvm hw hB hz1 hk1 hS => ?_)
  obtain ⟨a_1, c_1, f_1⟩ := u
  obtain ⟨hP1, hK1, hD1⟩ := hB
  rw [ht] at hP1
  have hK1 := va_K.moved hvm.symm hK1
  obtain ⟨hP, hD⟩ := va_join (wr := [(tp, .inr (6, [.ref tb, .int 0, .int 0]))]) (w1 := [(o, .inr (4, [.int 0, .int 0, .ref (g 0), .ref (g 1), .ref (g 2), .ref (g 3), .ref (g 4), .ref (g 5), .ref (g 6), .ref (g 7), .ref (g 8)])), ((g 0), .inl ((cG 0), 12, .inl (f_1 1))), ((g 1), .inl ((cG 1), 12, .inl (f_1 2))), ((g 2), .inl ((cG 2), 144, .inl (f_1 3))), ((g 3), .inl ((cG 3), 12, .inl (f_1 4))), ((g 4), .inl ((cG 4), 12, .inl (f_1 5))), ((g 5), .inl ((cG 5), 12, .inl (f_1 6))), ((g 6), .inl ((cG 6), 12, .inl (f_1 7))), ((g 7), .inl ((cG 7), 12, .inl (f_1 8))), ((g 8), .inl ((cG 8), 144, .inl (f_1 9)))]) hP hD [0, 1, 2, 3, 4, 5, 6, 7, 8, 9] [10] rfl rfl (by decide) (by decide) hk1 hFc hP1 hD1
  have hP : va_P D vwCl [(tp, .inr (6, [.ref tb, .int 0, .int 0])), (o, .inr (4, [.int 0, .int 0, .ref (g 0), .ref (g 1), .ref (g 2), .ref (g 3), .ref (g 4), .ref (g 5), .ref (g 6), .ref (g 7), .ref (g 8)])), ((g 0), .inl ((cG 0), 12, .inl (f_1 1))), ((g 1), .inl ((cG 1), 12, .inl (f_1 2))), ((g 2), .inl ((cG 2), 144, .inl (f_1 3))), ((g 3), .inl ((cG 3), 12, .inl (f_1 4))), ((g 4), .inl ((cG 4), 12, .inl (f_1 5))), ((g 5), .inl ((cG 5), 12, .inl (f_1 6))), ((g 6), .inl ((cG 6), 12, .inl (f_1 7))), ((g 7), .inl ((cG 7), 12, .inl (f_1 8))), ((g 8), .inl ((cG 8), 144, .inl (f_1 9)))] H := hP
  have hD : va_D A [(tp, .inr (6, [.ref tb, .int 0, .int 0])), (o, .inr (4, [.int 0, .int 0, .ref (g 0), .ref (g 1), .ref (g 2), .ref (g 3), .ref (g 4), .ref (g 5), .ref (g 6), .ref (g 7), .ref (g 8)])), ((g 0), .inl ((cG 0), 12, .inl (f_1 1))), ((g 1), .inl ((cG 1), 12, .inl (f_1 2))), ((g 2), .inl ((cG 2), 144, .inl (f_1 3))), ((g 3), .inl ((cG 3), 12, .inl (f_1 4))), ((g 4), .inl ((cG 4), 12, .inl (f_1 5))), ((g 5), .inl ((cG 5), 12, .inl (f_1 6))), ((g 6), .inl ((cG 6), 12, .inl (f_1 7))), ((g 7), .inl ((cG 7), 12, .inl (f_1 8))), ((g 8), .inl ((cG 8), 144, .inl (f_1 9)))] := hD
  refine lv_aload_n hx hb dX4_isReadFrom_4 rfl (lv_at hl 1 rfl) ?_
  refine lv_iconst (v := 0) hx hb dX4_isReadFrom_5 (by decide) ?_
  refine va_put (D := D) (ci := 6) (v := .int 0) (ty := .int) (C := RX6) (T := TX6) (N := 3) hx hb htg in_X6 tyX6 tyX6_ok nmX6 hown hK hP hD hS 0 rfl rfl 2 (by decide) (htg _ mw_132) (fun _ h9 => h9) rfl (by decide +kernel) rfl rfl (Nat.le_of_ble_eq_true rfl) dX4_isReadFrom_6 (fun H locs hP hD hS => ?_)
  have hP : va_P D vwCl [(tp, .inr (6, [.ref tb, .int 0, .int 0])), (o, .inr (4, [.int 0, .int 0, .ref (g 0), .ref (g 1), .ref (g 2), .ref (g 3), .ref (g 4), .ref (g 5), .ref (g 6), .ref (g 7), .ref (g 8)])), ((g 0), .inl ((cG 0), 12, .inl (f_1 1))), ((g 1), .inl ((cG 1), 12, .inl (f_1 2))), ((g 2), .inl ((cG 2), 144, .inl (f_1 3))), ((g 3), .inl ((cG 3), 12, .inl (f_1 4))), ((g 4), .inl ((cG 4), 12, .inl (f_1 5))), ((g 5), .inl ((cG 5), 12, .inl (f_1 6))), ((g 6), .inl ((cG 6), 12, .inl (f_1 7))), ((g 7), .inl ((cG 7), 12, .inl (f_1 8))), ((g 8), .inl ((cG 8), 144, .inl (f_1 9)))] H := hP
  have hD : va_D A [(tp, .inr (6, [.ref tb, .int 0, .int 0])), (o, .inr (4, [.int 0, .int 0, .ref (g 0), .ref (g 1), .ref (g 2), .ref (g 3), .ref (g 4), .ref (g 5), .ref (g 6), .ref (g 7), .ref (g 8)])), ((g 0), .inl ((cG 0), 12, .inl (f_1 1))), ((g 1), .inl ((cG 1), 12, .inl (f_1 2))), ((g 2), .inl ((cG 2), 144, .inl (f_1 3))), ((g 3), .inl ((cG 3), 12, .inl (f_1 4))), ((g 4), .inl ((cG 4), 12, .inl (f_1 5))), ((g 5), .inl ((cG 5), 12, .inl (f_1 6))), ((g 6), .inl ((cG 6), 12, .inl (f_1 7))), ((g 7), .inl ((cG 7), 12, .inl (f_1 8))), ((g 8), .inl ((cG 8), 144, .inl (f_1 9)))] := hD
  refine lv_aload_n hx hb dX4_isReadFrom_9 rfl (lv_at hl 0 rfl) ?_
  refine lv_aload_n hx hb dX4_isReadFrom_10 rfl (lv_at hl 1 rfl) ?_
  have hPc := hP.sub (ws' := [(o, .inr (4, [.int 0, .int 0, .ref (g 0), .ref (g 1), .ref (g 2), .ref (g 3), .ref (g 4), .ref (g 5), .ref (g 6), .ref (g 7), .ref (g 8)])), (tp, .inr (6, [.ref tb, .int 0, .int 0]))]) [1, 0] rfl
  have hKc := hK.sub (tys' := []) [] rfl
  refine va_calli (va_runV (As := [.ref tp]) (rest := []) ⟨hx, hb, hml, hown, htg⟩ (c_X4_readSeats l D o [.ref (g 0), .ref (g 1), .ref (g 2), .ref (g 3), .ref (g 4), .ref (g 5), .ref (g 6), .ref (g 7), .ref (g 8)]  tp tb) (cV 1 htg mw_136 kv_X4_readSeats rfl rfl ⟨(Nat.le_of_ble_eq_true rfl), (Nat.le_of_ble_eq_true rfl)⟩) ⟨bl_r, va_recv hKc hPc (ci := 4) (q0 := 0) rfl rfl, us_r hPc hKc⟩ rfl rfl hl.1 rfl (lv_room (Nat.le_of_ble_eq_true rfl)) dX4_isReadFrom_11 ⟨(Nat.le_of_ble_eq_true rfl), (Nat.le_of_ble_eq_true rfl)⟩) hS (fun _ _ h9 => False.elim h9) (fun _ h9 => False.elim h9) (fun r_2 u t H locs ht hvm hw hB hz1 hk1 hS => ?_)
  have hP := ro_keep hP hk1
  subst hw
  refine lv_if_eq (tgt := 29) hx hb dX4_isReadFrom_14 (by decide) (fun _ => ?_) (fun h9 => False.elim (h9 (by decide)))
  refine lv_iconst (v := 0) hx hb dX4_isReadFrom_29 (by decide) ?_
  have hP := hP.sub (ws' := [(o, .inr (4, [.int 0, .int 0, .ref (g 0), .ref (g 1), .ref (g 2), .ref (g 3), .ref (g 4), .ref (g 5), .ref (g 6), .ref (g 7), .ref (g 8)])), ((g 0), .inl ((cG 0), 12, .inl (f_1 1))), ((g 1), .inl ((cG 1), 12, .inl (f_1 2))), ((g 2), .inl ((cG 2), 144, .inl (f_1 3))), ((g 3), .inl ((cG 3), 12, .inl (f_1 4))), ((g 4), .inl ((cG 4), 12, .inl (f_1 5))), ((g 5), .inl ((cG 5), 12, .inl (f_1 6))), ((g 6), .inl ((cG 6), 12, .inl (f_1 7))), ((g 7), .inl ((cG 7), 12, .inl (f_1 8))), ((g 8), .inl ((cG 8), 144, .inl (f_1 9))), (tp, .inr (6, [.ref tb, .int 0, .int 0]))]) [1, 2, 3, 4, 5, 6, 7, 8, 9, 10, 0] rfl
  have hD := hD.sub (ws' := [(o, .inr (4, [.int 0, .int 0, .ref (g 0), .ref (g 1), .ref (g 2), .ref (g 3), .ref (g 4), .ref (g 5), .ref (g 6), .ref (g 7), .ref (g 8)])), ((g 0), .inl ((cG 0), 12, .inl (f_1 1))), ((g 1), .inl ((cG 1), 12, .inl (f_1 2))), ((g 2), .inl ((cG 2), 144, .inl (f_1 3))), ((g 3), .inl ((cG 3), 12, .inl (f_1 4))), ((g 4), .inl ((cG 4), 12, .inl (f_1 5))), ((g 5), .inl ((cG 5), 12, .inl (f_1 6))), ((g 6), .inl ((cG 6), 12, .inl (f_1 7))), ((g 7), .inl ((cG 7), 12, .inl (f_1 8))), ((g 8), .inl ((cG 8), 144, .inl (f_1 9))), (tp, .inr (6, [.ref tb, .int 0, .int 0]))]) [1, 2, 3, 4, 5, 6, 7, 8, 9, 10, 0] (by decide) rfl
  exact W.zret (v := 0) hx hb hr (by first | rfl | decide | exact ar_nb _) (fun t ht hW => ⟨⟨0, ((fun _ => 0), (fun _ => 0), (fun k => [(fun _ => 0), (f_1 1), (f_1 2), (f_1 3), (f_1 4), (f_1 5), (f_1 6), (f_1 7), (f_1 8), (f_1 9), (fun _ => 0)].getD k (fun _ => 0))), rfl, rfl, by rw [ht]; exact hP, va_K.moved hW.alike hK, hD⟩, hS.F ht⟩) hS.2.2 dX4_isReadFrom_30
