set_option maxHeartbeats 4000000 in
set_option maxRecDepth 100000 in
theorem c_X11_byteOf_0 (l : Launch) (D : va_G) (x y z v w : Int32) : Met l yX11_byteOf (.code yX11_byteOf cX11_byteOf 7 (some .int) :: gw) ({ frames := 0, cells := 0, slots := 0, locals := 0 }) (va_Pc [.int x, .int y, .int z, .int v, .int w, .int 0] (pr D [] [])) (va_Qi (fun r (_ : Unit) => r = us x 24 &&& 255) (fun _ _ => True) (fun _ => False)) 0 0 (fun _ => False) := by
  refine Met.ofW (cc := cX11_byteOf) (maxL := 7) (ret := (some .int)) (by decide) rfl ?_
  intro p e s m args below meth c s₁ B hml hv
  obtain ⟨rfl, hP, hK⟩ := hv
  have hx := B.exec
  have hb := B.bytes
  have hr := B.returns
  have hts := atoms_spec (ws := .code yX11_byteOf cX11_byteOf 7 (some .int) :: gw) B.pre
  have htg := gw_tl hts
  have hown : s.vm.findClass RX11 = some m.cls := findClass_of_methodNamed B.named
  have hlocks := B.notSynchronized
  have hS : va_S (fun _ => False) s.heap s.heap [] := va_S.rf
  have hl := lv_entry ([.int x, .int y, .int z, .int v, .int w, .int 0]) (n := 7) (Nat.le_of_ble_eq_true rfl)
  rw [lg_entry_eq]
  generalize (lg_sl ([.int x, .int y, .int z, .int v, .int w, .int 0]) ++ List.replicate (7 - (lg_sl ([.int x, .int y, .int z, .int v, .int w, .int 0])).length) Slot.unset).toArray = ls at hl ⊢
  have hl : lv_has ls 7 [(0, .int x), (1, .int y), (2, .int z), (3, .int v), (4, .int w), (5, .int 0)] := hl
  refine lv_iload hx hb dX11_byteOf_0 (lv_at hl 5 rfl) ?_
  refine lv_iconst (v := 4) hx hb dX11_byteOf_2 (by decide) ?_
  refine lv_icmp_ge (tgt := 10) hx hb dX11_byteOf_3 (by decide) (fun h9 => absurd h9 (by decide)) (fun _ => ?_)
  refine lv_iload_n hx hb dX11_byteOf_6 rfl (lv_at hl 0 rfl) ?_
  refine lv_goto (tgt := 45) hx hb dX11_byteOf_7 (by decide) ?_
  refine lv_istore (lv' := [(6, .int x), (0, .int x), (1, .int y), (2, .int z), (3, .int v), (4, .int w), (5, .int 0)]) hx hb dX11_byteOf_45 hl (by decide) rfl (fun ls hl => ?_)
  refine lv_iload hx hb dX11_byteOf_47 (lv_at hl 0 rfl) ?_
  refine lv_bipush (v := 24) hx hb dX11_byteOf_49 (by decide) ?_
  refine lv_bipush (v := 8) hx hb dX11_byteOf_51 (by decide) ?_
  refine lv_iload hx hb dX11_byteOf_53 (lv_at hl 6 rfl) ?_
  refine lv_iconst (v := 4) hx hb dX11_byteOf_55 (by decide) ?_
  refine lv_irem hx hb dX11_byteOf_56 (by decide) ?_
  refine lv_val (y := 0) (by decide) ?_
  refine lv_imul hx hb dX11_byteOf_57 ?_
  refine lv_val (y := 0) (by decide) ?_
  refine lv_isub hx hb dX11_byteOf_58 ?_
  refine lv_val (y := 24) (by decide) ?_
  refine lv_ishr hx hb dX11_byteOf_59 ?_
  refine lv_topi (fun x_1 ex_1 => ?_)
  refine lv_sipush (v := 255) hx hb dX11_byteOf_60 (by decide) ?_
  refine lv_iand hx hb dX11_byteOf_63 ?_
  refine lv_topi (fun x_2 ex_2 => ?_)
  exact W.iret (v := x_2) hx hb hr  (fun t ht hW => ⟨⟨x_2, (), rfl, (by rw [ex_2, ex_1]; exact sh_24 _), trivial⟩, hS.F ht⟩) hS.2.2 dX11_byteOf_64

set_option maxHeartbeats 4000000 in
set_option maxRecDepth 100000 in
theorem c_X11_byteOf_1 (l : Launch) (D : va_G) (x y z v w : Int32) : Met l yX11_byteOf (.code yX11_byteOf cX11_byteOf 7 (some .int) :: gw) ({ frames := 0, cells := 0, slots := 0, locals := 0 }) (va_Pc [.int x, .int y, .int z, .int v, .int w, .int 1] (pr D [] [])) (va_Qi (fun r (_ : Unit) => r = us x 16 &&& 255) (fun _ _ => True) (fun _ => False)) 0 0 (fun _ => False) := by
  refine Met.ofW (cc := cX11_byteOf) (maxL := 7) (ret := (some .int)) (by decide) rfl ?_
  intro p e s m args below meth c s₁ B hml hv
  obtain ⟨rfl, hP, hK⟩ := hv
  have hx := B.exec
  have hb := B.bytes
  have hr := B.returns
  have hts := atoms_spec (ws := .code yX11_byteOf cX11_byteOf 7 (some .int) :: gw) B.pre
  have htg := gw_tl hts
  have hown : s.vm.findClass RX11 = some m.cls := findClass_of_methodNamed B.named
  have hlocks := B.notSynchronized
  have hS : va_S (fun _ => False) s.heap s.heap [] := va_S.rf
  have hl := lv_entry ([.int x, .int y, .int z, .int v, .int w, .int 1]) (n := 7) (Nat.le_of_ble_eq_true rfl)
  rw [lg_entry_eq]
  generalize (lg_sl ([.int x, .int y, .int z, .int v, .int w, .int 1]) ++ List.replicate (7 - (lg_sl ([.int x, .int y, .int z, .int v, .int w, .int 1])).length) Slot.unset).toArray = ls at hl ⊢
  have hl : lv_has ls 7 [(0, .int x), (1, .int y), (2, .int z), (3, .int v), (4, .int w), (5, .int 1)] := hl
  refine lv_iload hx hb dX11_byteOf_0 (lv_at hl 5 rfl) ?_
  refine lv_iconst (v := 4) hx hb dX11_byteOf_2 (by decide) ?_
  refine lv_icmp_ge (tgt := 10) hx hb dX11_byteOf_3 (by decide) (fun h9 => absurd h9 (by decide)) (fun _ => ?_)
  refine lv_iload_n hx hb dX11_byteOf_6 rfl (lv_at hl 0 rfl) ?_
  refine lv_goto (tgt := 45) hx hb dX11_byteOf_7 (by decide) ?_
  refine lv_istore (lv' := [(6, .int x), (0, .int x), (1, .int y), (2, .int z), (3, .int v), (4, .int w), (5, .int 1)]) hx hb dX11_byteOf_45 hl (by decide) rfl (fun ls hl => ?_)
  refine lv_iload hx hb dX11_byteOf_47 (lv_at hl 0 rfl) ?_
  refine lv_bipush (v := 24) hx hb dX11_byteOf_49 (by decide) ?_
  refine lv_bipush (v := 8) hx hb dX11_byteOf_51 (by decide) ?_
  refine lv_iload hx hb dX11_byteOf_53 (lv_at hl 6 rfl) ?_
  refine lv_iconst (v := 4) hx hb dX11_byteOf_55 (by decide) ?_
  refine lv_irem hx hb dX11_byteOf_56 (by decide) ?_
  refine lv_val (y := 1) (by decide) ?_
  refine lv_imul hx hb dX11_byteOf_57 ?_
  refine lv_val (y := 8) (by decide) ?_
  refine lv_isub hx hb dX11_byteOf_58 ?_
  refine lv_val (y := 16) (by decide) ?_
  refine lv_ishr hx hb dX11_byteOf_59 ?_
  refine lv_topi (fun x_1 ex_1 => ?_)
  refine lv_sipush (v := 255) hx hb dX11_byteOf_60 (by decide) ?_
  refine lv_iand hx hb dX11_byteOf_63 ?_
  refine lv_topi (fun x_2 ex_2 => ?_)
  exact W.iret (v := x_2) hx hb hr  (fun t ht hW => ⟨⟨x_2, (), rfl, (by rw [ex_2, ex_1]; exact sh_16 _), trivial⟩, hS.F ht⟩) hS.2.2 dX11_byteOf_64

set_option maxHeartbeats 4000000 in
set_option maxRecDepth 100000 in
theorem c_X11_byteOf_2 (l : Launch) (D : va_G) (x y z v w : Int32) : Met l yX11_byteOf (.code yX11_byteOf cX11_byteOf 7 (some .int) :: gw) ({ frames := 0, cells := 0, slots := 0, locals := 0 }) (va_Pc [.int x, .int y, .int z, .int v, .int w, .int 2] (pr D [] [])) (va_Qi (fun r (_ : Unit) => r = us x 8 &&& 255) (fun _ _ => True) (fun _ => False)) 0 0 (fun _ => False) := by
  refine Met.ofW (cc := cX11_byteOf) (maxL := 7) (ret := (some .int)) (by decide) rfl ?_
  intro p e s m args below meth c s₁ B hml hv
  obtain ⟨rfl, hP, hK⟩ := hv
  have hx := B.exec
  have hb := B.bytes
  have hr := B.returns
  have hts := atoms_spec (ws := .code yX11_byteOf cX11_byteOf 7 (some .int) :: gw) B.pre
  have htg := gw_tl hts
  have hown : s.vm.findClass RX11 = some m.cls := findClass_of_methodNamed B.named
  have hlocks := B.notSynchronized
  have hS : va_S (fun _ => False) s.heap s.heap [] := va_S.rf
  have hl := lv_entry ([.int x, .int y, .int z, .int v, .int w, .int 2]) (n := 7) (Nat.le_of_ble_eq_true rfl)
  rw [lg_entry_eq]
  generalize (lg_sl ([.int x, .int y, .int z, .int v, .int w, .int 2]) ++ List.replicate (7 - (lg_sl ([.int x, .int y, .int z, .int v, .int w, .int 2])).length) Slot.unset).toArray = ls at hl ⊢
  have hl : lv_has ls 7 [(0, .int x), (1, .int y), (2, .int z), (3, .int v), (4, .int w), (5, .int 2)] := hl
  refine lv_iload hx hb dX11_byteOf_0 (lv_at hl 5 rfl) ?_
  refine lv_iconst (v := 4) hx hb dX11_byteOf_2 (by decide) ?_
  refine lv_icmp_ge (tgt := 10) hx hb dX11_byteOf_3 (by decide) (fun h9 => absurd h9 (by decide)) (fun _ => ?_)
  refine lv_iload_n hx hb dX11_byteOf_6 rfl (lv_at hl 0 rfl) ?_
  refine lv_goto (tgt := 45) hx hb dX11_byteOf_7 (by decide) ?_
  refine lv_istore (lv' := [(6, .int x), (0, .int x), (1, .int y), (2, .int z), (3, .int v), (4, .int w), (5, .int 2)]) hx hb dX11_byteOf_45 hl (by decide) rfl (fun ls hl => ?_)
  refine lv_iload hx hb dX11_byteOf_47 (lv_at hl 0 rfl) ?_
  refine lv_bipush (v := 24) hx hb dX11_byteOf_49 (by decide) ?_
  refine lv_bipush (v := 8) hx hb dX11_byteOf_51 (by decide) ?_
  refine lv_iload hx hb dX11_byteOf_53 (lv_at hl 6 rfl) ?_
  refine lv_iconst (v := 4) hx hb dX11_byteOf_55 (by decide) ?_
  refine lv_irem hx hb dX11_byteOf_56 (by decide) ?_
  refine lv_val (y := 2) (by decide) ?_
  refine lv_imul hx hb dX11_byteOf_57 ?_
  refine lv_val (y := 16) (by decide) ?_
  refine lv_isub hx hb dX11_byteOf_58 ?_
  refine lv_val (y := 8) (by decide) ?_
  refine lv_ishr hx hb dX11_byteOf_59 ?_
  refine lv_topi (fun x_1 ex_1 => ?_)
  refine lv_sipush (v := 255) hx hb dX11_byteOf_60 (by decide) ?_
  refine lv_iand hx hb dX11_byteOf_63 ?_
  refine lv_topi (fun x_2 ex_2 => ?_)
  exact W.iret (v := x_2) hx hb hr  (fun t ht hW => ⟨⟨x_2, (), rfl, (by rw [ex_2, ex_1]; exact sh_8 _), trivial⟩, hS.F ht⟩) hS.2.2 dX11_byteOf_64

set_option maxHeartbeats 4000000 in
set_option maxRecDepth 100000 in
theorem c_X11_byteOf_3 (l : Launch) (D : va_G) (x y z v w : Int32) : Met l yX11_byteOf (.code yX11_byteOf cX11_byteOf 7 (some .int) :: gw) ({ frames := 0, cells := 0, slots := 0, locals := 0 }) (va_Pc [.int x, .int y, .int z, .int v, .int w, .int 3] (pr D [] [])) (va_Qi (fun r (_ : Unit) => r = us x 0 &&& 255) (fun _ _ => True) (fun _ => False)) 0 0 (fun _ => False) := by
  refine Met.ofW (cc := cX11_byteOf) (maxL := 7) (ret := (some .int)) (by decide) rfl ?_
  intro p e s m args below meth c s₁ B hml hv
  obtain ⟨rfl, hP, hK⟩ := hv
  have hx := B.exec
  have hb := B.bytes
  have hr := B.returns
  have hts := atoms_spec (ws := .code yX11_byteOf cX11_byteOf 7 (some .int) :: gw) B.pre
  have htg := gw_tl hts
  have hown : s.vm.findClass RX11 = some m.cls := findClass_of_methodNamed B.named
  have hlocks := B.notSynchronized
  have hS : va_S (fun _ => False) s.heap s.heap [] := va_S.rf
  have hl := lv_entry ([.int x, .int y, .int z, .int v, .int w, .int 3]) (n := 7) (Nat.le_of_ble_eq_true rfl)
  rw [lg_entry_eq]
  generalize (lg_sl ([.int x, .int y, .int z, .int v, .int w, .int 3]) ++ List.replicate (7 - (lg_sl ([.int x, .int y, .int z, .int v, .int w, .int 3])).length) Slot.unset).toArray = ls at hl ⊢
  have hl : lv_has ls 7 [(0, .int x), (1, .int y), (2, .int z), (3, .int v), (4, .int w), (5, .int 3)] := hl
  refine lv_iload hx hb dX11_byteOf_0 (lv_at hl 5 rfl) ?_
  refine lv_iconst (v := 4) hx hb dX11_byteOf_2 (by decide) ?_
  refine lv_icmp_ge (tgt := 10) hx hb dX11_byteOf_3 (by decide) (fun h9 => absurd h9 (by decide)) (fun _ => ?_)
  refine lv_iload_n hx hb dX11_byteOf_6 rfl (lv_at hl 0 rfl) ?_
  refine lv_goto (tgt := 45) hx hb dX11_byteOf_7 (by decide) ?_
  refine lv_istore (lv' := [(6, .int x), (0, .int x), (1, .int y), (2, .int z), (3, .int v), (4, .int w), (5, .int 3)]) hx hb dX11_byteOf_45 hl (by decide) rfl (fun ls hl => ?_)
  refine lv_iload hx hb dX11_byteOf_47 (lv_at hl 0 rfl) ?_
  refine lv_bipush (v := 24) hx hb dX11_byteOf_49 (by decide) ?_
  refine lv_bipush (v := 8) hx hb dX11_byteOf_51 (by decide) ?_
  refine lv_iload hx hb dX11_byteOf_53 (lv_at hl 6 rfl) ?_
  refine lv_iconst (v := 4) hx hb dX11_byteOf_55 (by decide) ?_
  refine lv_irem hx hb dX11_byteOf_56 (by decide) ?_
  refine lv_val (y := 3) (by decide) ?_
  refine lv_imul hx hb dX11_byteOf_57 ?_
  refine lv_val (y := 24) (by decide) ?_
  refine lv_isub hx hb dX11_byteOf_58 ?_
  refine lv_val (y := 0) (by decide) ?_
  refine lv_ishr hx hb dX11_byteOf_59 ?_
  refine lv_topi (fun x_1 ex_1 => ?_)
  refine lv_sipush (v := 255) hx hb dX11_byteOf_60 (by decide) ?_
  refine lv_iand hx hb dX11_byteOf_63 ?_
  refine lv_topi (fun x_2 ex_2 => ?_)
  exact W.iret (v := x_2) hx hb hr  (fun t ht hW => ⟨⟨x_2, (), rfl, (by rw [ex_2, ex_1]; exact sh_0 _), trivial⟩, hS.F ht⟩) hS.2.2 dX11_byteOf_64

set_option maxHeartbeats 4000000 in
set_option maxRecDepth 100000 in
theorem c_X11_byteOf_4 (l : Launch) (D : va_G) (x y z v w : Int32) : Met l yX11_byteOf (.code yX11_byteOf cX11_byteOf 7 (some .int) :: gw) ({ frames := 0, cells := 0, slots := 0, locals := 0 }) (va_Pc [.int x, .int y, .int z, .int v, .int w, .int 4] (pr D [] [])) (va_Qi (fun r (_ : Unit) => r = us y 24 &&& 255) (fun _ _ => True) (fun _ => False)) 0 0 (fun _ => False) := by
  refine Met.ofW (cc := cX11_byteOf) (maxL := 7) (ret := (some .int)) (by decide) rfl ?_
  intro p e s m args below meth c s₁ B hml hv
  obtain ⟨rfl, hP, hK⟩ := hv
  have hx := B.exec
  have hb := B.bytes
  have hr := B.returns
  have hts := atoms_spec (ws := .code yX11_byteOf cX11_byteOf 7 (some .int) :: gw) B.pre
  have htg := gw_tl hts
  have hown : s.vm.findClass RX11 = some m.cls := findClass_of_methodNamed B.named
  have hlocks := B.notSynchronized
  have hS : va_S (fun _ => False) s.heap s.heap [] := va_S.rf
  have hl := lv_entry ([.int x, .int y, .int z, .int v, .int w, .int 4]) (n := 7) (Nat.le_of_ble_eq_true rfl)
  rw [lg_entry_eq]
  generalize (lg_sl ([.int x, .int y, .int z, .int v, .int w, .int 4]) ++ List.replicate (7 - (lg_sl ([.int x, .int y, .int z, .int v, .int w, .int 4])).length) Slot.unset).toArray = ls at hl ⊢
  have hl : lv_has ls 7 [(0, .int x), (1, .int y), (2, .int z), (3, .int v), (4, .int w), (5, .int 4)] := hl
  refine lv_iload hx hb dX11_byteOf_0 (lv_at hl 5 rfl) ?_
  refine lv_iconst (v := 4) hx hb dX11_byteOf_2 (by decide) ?_
  refine lv_icmp_ge (tgt := 10) hx hb dX11_byteOf_3 (by decide) (fun _ => ?_) (fun h9 => False.elim (h9 (by decide)))
  refine lv_iload hx hb dX11_byteOf_10 (lv_at hl 5 rfl) ?_
  refine lv_bipush (v := 8) hx hb dX11_byteOf_12 (by decide) ?_
  refine lv_icmp_ge (tgt := 21) hx hb dX11_byteOf_14 (by decide) (fun h9 => absurd h9 (by decide)) (fun _ => ?_)
  refine lv_iload_n hx hb dX11_byteOf_17 rfl (lv_at hl 1 rfl) ?_
  refine lv_goto (tgt := 45) hx hb dX11_byteOf_18 (by decide) ?_
  refine lv_istore (lv' := [(6, .int y), (0, .int x), (1, .int y), (2, .int z), (3, .int v), (4, .int w), (5, .int 4)]) hx hb dX11_byteOf_45 hl (by decide) rfl (fun ls hl => ?_)
  refine lv_iload hx hb dX11_byteOf_47 (lv_at hl 0 rfl) ?_
  refine lv_bipush (v := 24) hx hb dX11_byteOf_49 (by decide) ?_
  refine lv_bipush (v := 8) hx hb dX11_byteOf_51 (by decide) ?_
  refine lv_iload hx hb dX11_byteOf_53 (lv_at hl 6 rfl) ?_
  refine lv_iconst (v := 4) hx hb dX11_byteOf_55 (by decide) ?_
  refine lv_irem hx hb dX11_byteOf_56 (by decide) ?_
  refine lv_val (y := 0) (by decide) ?_
  refine lv_imul hx hb dX11_byteOf_57 ?_
  refine lv_val (y := 0) (by decide) ?_
  refine lv_isub hx hb dX11_byteOf_58 ?_
  refine lv_val (y := 24) (by decide) ?_
  refine lv_ishr hx hb dX11_byteOf_59 ?_
  refine lv_topi (fun x_1 ex_1 => ?_)
  refine lv_sipush (v := 255) hx hb dX11_byteOf_60 (by decide) ?_
  refine lv_iand hx hb dX11_byteOf_63 ?_
  refine lv_topi (fun x_2 ex_2 => ?_)
  exact W.iret (v := x_2) hx hb hr  (fun t ht hW => ⟨⟨x_2, (), rfl, (by rw [ex_2, ex_1]; exact sh_24 _), trivial⟩, hS.F ht⟩) hS.2.2 dX11_byteOf_64

set_option maxHeartbeats 4000000 in
set_option maxRecDepth 100000 in
theorem c_X11_byteOf_5 (l : Launch) (D : va_G) (x y z v w : Int32) : Met l yX11_byteOf (.code yX11_byteOf cX11_byteOf 7 (some .int) :: gw) ({ frames := 0, cells := 0, slots := 0, locals := 0 }) (va_Pc [.int x, .int y, .int z, .int v, .int w, .int 5] (pr D [] [])) (va_Qi (fun r (_ : Unit) => r = us y 16 &&& 255) (fun _ _ => True) (fun _ => False)) 0 0 (fun _ => False) := by
  refine Met.ofW (cc := cX11_byteOf) (maxL := 7) (ret := (some .int)) (by decide) rfl ?_
  intro p e s m args below meth c s₁ B hml hv
  obtain ⟨rfl, hP, hK⟩ := hv
  have hx := B.exec
  have hb := B.bytes
  have hr := B.returns
  have hts := atoms_spec (ws := .code yX11_byteOf cX11_byteOf 7 (some .int) :: gw) B.pre
  have htg := gw_tl hts
  have hown : s.vm.findClass RX11 = some m.cls := findClass_of_methodNamed B.named
  have hlocks := B.notSynchronized
  have hS : va_S (fun _ => False) s.heap s.heap [] := va_S.rf
  have hl := lv_entry ([.int x, .int y, .int z, .int v, .int w, .int 5]) (n := 7) (Nat.le_of_ble_eq_true rfl)
  rw [lg_entry_eq]
  generalize (lg_sl ([.int x, .int y, .int z, .int v, .int w, .int 5]) ++ List.replicate (7 - (lg_sl ([.int x, .int y, .int z, .int v, .int w, .int 5])).length) Slot.unset).toArray = ls at hl ⊢
  have hl : lv_has ls 7 [(0, .int x), (1, .int y), (2, .int z), (3, .int v), (4, .int w), (5, .int 5)] := hl
  refine lv_iload hx hb dX11_byteOf_0 (lv_at hl 5 rfl) ?_
  refine lv_iconst (v := 4) hx hb dX11_byteOf_2 (by decide) ?_
  refine lv_icmp_ge (tgt := 10) hx hb dX11_byteOf_3 (by decide) (fun _ => ?_) (fun h9 => False.elim (h9 (by decide)))
  refine lv_iload hx hb dX11_byteOf_10 (lv_at hl 5 rfl) ?_
  refine lv_bipush (v := 8) hx hb dX11_byteOf_12 (by decide) ?_
  refine lv_icmp_ge (tgt := 21) hx hb dX11_byteOf_14 (by decide) (fun h9 => absurd h9 (by decide)) (fun _ => ?_)
  refine lv_iload_n hx hb dX11_byteOf_17 rfl (lv_at hl 1 rfl) ?_
  refine lv_goto (tgt := 45) hx hb dX11_byteOf_18 (by decide) ?_
  refine lv_istore (lv' := [(6, .int y), (0, .int x), (1, .int y), (2, .int z), (3, .int v), (4, .int w), (5, .int 5)]) hx hb dX11_byteOf_45 hl (by decide) rfl (fun ls hl => ?_)
  refine lv_iload hx hb dX11_byteOf_47 (lv_at hl 0 rfl) ?_
  refine lv_bipush (v := 24) hx hb dX11_byteOf_49 (by decide) ?_
  refine lv_bipush (v := 8) hx hb dX11_byteOf_51 (by decide) ?_
  refine lv_iload hx hb dX11_byteOf_53 (lv_at hl 6 rfl) ?_
  refine lv_iconst (v := 4) hx hb dX11_byteOf_55 (by decide) ?_
  refine lv_irem hx hb dX11_byteOf_56 (by decide) ?_
  refine lv_val (y := 1) (by decide) ?_
  refine lv_imul hx hb dX11_byteOf_57 ?_
  refine lv_val (y := 8) (by decide) ?_
  refine lv_isub hx hb dX11_byteOf_58 ?_
  refine lv_val (y := 16) (by decide) ?_
  refine lv_ishr hx hb dX11_byteOf_59 ?_
  refine lv_topi (fun x_1 ex_1 => ?_)
  refine lv_sipush (v := 255) hx hb dX11_byteOf_60 (by decide) ?_
  refine lv_iand hx hb dX11_byteOf_63 ?_
  refine lv_topi (fun x_2 ex_2 => ?_)
  exact W.iret (v := x_2) hx hb hr  (fun t ht hW => ⟨⟨x_2, (), rfl, (by rw [ex_2, ex_1]; exact sh_16 _), trivial⟩, hS.F ht⟩) hS.2.2 dX11_byteOf_64

set_option maxHeartbeats 4000000 in
set_option maxRecDepth 100000 in
theorem c_X11_byteOf_6 (l : Launch) (D : va_G) (x y z v w : Int32) : Met l yX11_byteOf (.code yX11_byteOf cX11_byteOf 7 (some .int) :: gw) ({ frames := 0, cells := 0, slots := 0, locals := 0 }) (va_Pc [.int x, .int y, .int z, .int v, .int w, .int 6] (pr D [] [])) (va_Qi (fun r (_ : Unit) => r = us y 8 &&& 255) (fun _ _ => True) (fun _ => False)) 0 0 (fun _ => False) := by
  refine Met.ofW (cc := cX11_byteOf) (maxL := 7) (ret := (some .int)) (by decide) rfl ?_
  intro p e s m args below meth c s₁ B hml hv
  obtain ⟨rfl, hP, hK⟩ := hv
  have hx := B.exec
  have hb := B.bytes
  have hr := B.returns
  have hts := atoms_spec (ws := .code yX11_byteOf cX11_byteOf 7 (some .int) :: gw) B.pre
  have htg := gw_tl hts
  have hown : s.vm.findClass RX11 = some m.cls := findClass_of_methodNamed B.named
  have hlocks := B.notSynchronized
  have hS : va_S (fun _ => False) s.heap s.heap [] := va_S.rf
  have hl := lv_entry ([.int x, .int y, .int z, .int v, .int w, .int 6]) (n := 7) (Nat.le_of_ble_eq_true rfl)
  rw [lg_entry_eq]
  generalize (lg_sl ([.int x, .int y, .int z, .int v, .int w, .int 6]) ++ List.replicate (7 - (lg_sl ([.int x, .int y, .int z, .int v, .int w, .int 6])).length) Slot.unset).toArray = ls at hl ⊢
  have hl : lv_has ls 7 [(0, .int x), (1, .int y), (2, .int z), (3, .int v), (4, .int w), (5, .int 6)] := hl
  refine lv_iload hx hb dX11_byteOf_0 (lv_at hl 5 rfl) ?_
  refine lv_iconst (v := 4) hx hb dX11_byteOf_2 (by decide) ?_
  refine lv_icmp_ge (tgt := 10) hx hb dX11_byteOf_3 (by decide) (fun _ => ?_) (fun h9 => False.elim (h9 (by decide)))
  refine lv_iload hx hb dX11_byteOf_10 (lv_at hl 5 rfl) ?_
  refine lv_bipush (v := 8) hx hb dX11_byteOf_12 (by decide) ?_
  refine lv_icmp_ge (tgt := 21) hx hb dX11_byteOf_14 (by decide) (fun h9 => absurd h9 (by decide)) (fun _ => ?_)
  refine lv_iload_n hx hb dX11_byteOf_17 rfl (lv_at hl 1 rfl) ?_
  refine lv_goto (tgt := 45) hx hb dX11_byteOf_18 (by decide) ?_
  refine lv_istore (lv' := [(6, .int y), (0, .int x), (1, .int y), (2, .int z), (3, .int v), (4, .int w), (5, .int 6)]) hx hb dX11_byteOf_45 hl (by decide) rfl (fun ls hl => ?_)
  refine lv_iload hx hb dX11_byteOf_47 (lv_at hl 0 rfl) ?_
  refine lv_bipush (v := 24) hx hb dX11_byteOf_49 (by decide) ?_
  refine lv_bipush (v := 8) hx hb dX11_byteOf_51 (by decide) ?_
  refine lv_iload hx hb dX11_byteOf_53 (lv_at hl 6 rfl) ?_
  refine lv_iconst (v := 4) hx hb dX11_byteOf_55 (by decide) ?_
  refine lv_irem hx hb dX11_byteOf_56 (by decide) ?_
  refine lv_val (y := 2) (by decide) ?_
  refine lv_imul hx hb dX11_byteOf_57 ?_
  refine lv_val (y := 16) (by decide) ?_
  refine lv_isub hx hb dX11_byteOf_58 ?_
  refine lv_val (y := 8) (by decide) ?_
  refine lv_ishr hx hb dX11_byteOf_59 ?_
  refine lv_topi (fun x_1 ex_1 => ?_)
  refine lv_sipush (v := 255) hx hb dX11_byteOf_60 (by decide) ?_
  refine lv_iand hx hb dX11_byteOf_63 ?_
  refine lv_topi (fun x_2 ex_2 => ?_)
  exact W.iret (v := x_2) hx hb hr  (fun t ht hW => ⟨⟨x_2, (), rfl, (by rw [ex_2, ex_1]; exact sh_8 _), trivial⟩, hS.F ht⟩) hS.2.2 dX11_byteOf_64

set_option maxHeartbeats 4000000 in
set_option maxRecDepth 100000 in
theorem c_X11_byteOf_7 (l : Launch) (D : va_G) (x y z v w : Int32) : Met l yX11_byteOf (.code yX11_byteOf cX11_byteOf 7 (some .int) :: gw) ({ frames := 0, cells := 0, slots := 0, locals := 0 }) (va_Pc [.int x, .int y, .int z, .int v, .int w, .int 7] (pr D [] [])) (va_Qi (fun r (_ : Unit) => r = us y 0 &&& 255) (fun _ _ => True) (fun _ => False)) 0 0 (fun _ => False) := by
  refine Met.ofW (cc := cX11_byteOf) (maxL := 7) (ret := (some .int)) (by decide) rfl ?_
  intro p e s m args below meth c s₁ B hml hv
  obtain ⟨rfl, hP, hK⟩ := hv
  have hx := B.exec
  have hb := B.bytes
  have hr := B.returns
  have hts := atoms_spec (ws := .code yX11_byteOf cX11_byteOf 7 (some .int) :: gw) B.pre
  have htg := gw_tl hts
  have hown : s.vm.findClass RX11 = some m.cls := findClass_of_methodNamed B.named
  have hlocks := B.notSynchronized
  have hS : va_S (fun _ => False) s.heap s.heap [] := va_S.rf
  have hl := lv_entry ([.int x, .int y, .int z, .int v, .int w, .int 7]) (n := 7) (Nat.le_of_ble_eq_true rfl)
  rw [lg_entry_eq]
  generalize (lg_sl ([.int x, .int y, .int z, .int v, .int w, .int 7]) ++ List.replicate (7 - (lg_sl ([.int x, .int y, .int z, .int v, .int w, .int 7])).length) Slot.unset).toArray = ls at hl ⊢
  have hl : lv_has ls 7 [(0, .int x), (1, .int y), (2, .int z), (3, .int v), (4, .int w), (5, .int 7)] := hl
  refine lv_iload hx hb dX11_byteOf_0 (lv_at hl 5 rfl) ?_
  refine lv_iconst (v := 4) hx hb dX11_byteOf_2 (by decide) ?_
  refine lv_icmp_ge (tgt := 10) hx hb dX11_byteOf_3 (by decide) (fun _ => ?_) (fun h9 => False.elim (h9 (by decide)))
  refine lv_iload hx hb dX11_byteOf_10 (lv_at hl 5 rfl) ?_
  refine lv_bipush (v := 8) hx hb dX11_byteOf_12 (by decide) ?_
  refine lv_icmp_ge (tgt := 21) hx hb dX11_byteOf_14 (by decide) (fun h9 => absurd h9 (by decide)) (fun _ => ?_)
  refine lv_iload_n hx hb dX11_byteOf_17 rfl (lv_at hl 1 rfl) ?_
  refine lv_goto (tgt := 45) hx hb dX11_byteOf_18 (by decide) ?_
  refine lv_istore (lv' := [(6, .int y), (0, .int x), (1, .int y), (2, .int z), (3, .int v), (4, .int w), (5, .int 7)]) hx hb dX11_byteOf_45 hl (by decide) rfl (fun ls hl => ?_)
  refine lv_iload hx hb dX11_byteOf_47 (lv_at hl 0 rfl) ?_
  refine lv_bipush (v := 24) hx hb dX11_byteOf_49 (by decide) ?_
  refine lv_bipush (v := 8) hx hb dX11_byteOf_51 (by decide) ?_
  refine lv_iload hx hb dX11_byteOf_53 (lv_at hl 6 rfl) ?_
  refine lv_iconst (v := 4) hx hb dX11_byteOf_55 (by decide) ?_
  refine lv_irem hx hb dX11_byteOf_56 (by decide) ?_
  refine lv_val (y := 3) (by decide) ?_
  refine lv_imul hx hb dX11_byteOf_57 ?_
  refine lv_val (y := 24) (by decide) ?_
  refine lv_isub hx hb dX11_byteOf_58 ?_
  refine lv_val (y := 0) (by decide) ?_
  refine lv_ishr hx hb dX11_byteOf_59 ?_
  refine lv_topi (fun x_1 ex_1 => ?_)
  refine lv_sipush (v := 255) hx hb dX11_byteOf_60 (by decide) ?_
  refine lv_iand hx hb dX11_byteOf_63 ?_
  refine lv_topi (fun x_2 ex_2 => ?_)
  exact W.iret (v := x_2) hx hb hr  (fun t ht hW => ⟨⟨x_2, (), rfl, (by rw [ex_2, ex_1]; exact sh_0 _), trivial⟩, hS.F ht⟩) hS.2.2 dX11_byteOf_64

set_option maxHeartbeats 4000000 in
set_option maxRecDepth 100000 in
theorem c_X11_byteOf_8 (l : Launch) (D : va_G) (x y z v w : Int32) : Met l yX11_byteOf (.code yX11_byteOf cX11_byteOf 7 (some .int) :: gw) ({ frames := 0, cells := 0, slots := 0, locals := 0 }) (va_Pc [.int x, .int y, .int z, .int v, .int w, .int 8] (pr D [] [])) (va_Qi (fun r (_ : Unit) => r = us z 24 &&& 255) (fun _ _ => True) (fun _ => False)) 0 0 (fun _ => False) := by
  refine Met.ofW (cc := cX11_byteOf) (maxL := 7) (ret := (some .int)) (by decide) rfl ?_
  intro p e s m args below meth c s₁ B hml hv
  obtain ⟨rfl, hP, hK⟩ := hv
  have hx := B.exec
  have hb := B.bytes
  have hr := B.returns
  have hts := atoms_spec (ws := .code yX11_byteOf cX11_byteOf 7 (some .int) :: gw) B.pre
  have htg := gw_tl hts
  have hown : s.vm.findClass RX11 = some m.cls := findClass_of_methodNamed B.named
  have hlocks := B.notSynchronized
  have hS : va_S (fun _ => False) s.heap s.heap [] := va_S.rf
  have hl := lv_entry ([.int x, .int y, .int z, .int v, .int w, .int 8]) (n := 7) (Nat.le_of_ble_eq_true rfl)
  rw [lg_entry_eq]
  generalize (lg_sl ([.int x, .int y, .int z, .int v, .int w, .int 8]) ++ List.replicate (7 - (lg_sl ([.int x, .int y, .int z, .int v, .int w, .int 8])).length) Slot.unset).toArray = ls at hl ⊢
  have hl : lv_has ls 7 [(0, .int x), (1, .int y), (2, .int z), (3, .int v), (4, .int w), (5, .int 8)] := hl
  refine lv_iload hx hb dX11_byteOf_0 (lv_at hl 5 rfl) ?_
  refine lv_iconst (v := 4) hx hb dX11_byteOf_2 (by decide) ?_
  refine lv_icmp_ge (tgt := 10) hx hb dX11_byteOf_3 (by decide) (fun _ => ?_) (fun h9 => False.elim (h9 (by decide)))
  refine lv_iload hx hb dX11_byteOf_10 (lv_at hl 5 rfl) ?_
  refine lv_bipush (v := 8) hx hb dX11_byteOf_12 (by decide) ?_
  refine lv_icmp_ge (tgt := 21) hx hb dX11_byteOf_14 (by decide) (fun _ => ?_) (fun h9 => False.elim (h9 (by decide)))
  refine lv_iload hx hb dX11_byteOf_21 (lv_at hl 5 rfl) ?_
  refine lv_bipush (v := 12) hx hb dX11_byteOf_23 (by decide) ?_
  refine lv_icmp_ge (tgt := 32) hx hb dX11_byteOf_25 (by decide) (fun h9 => absurd h9 (by decide)) (fun _ => ?_)
  refine lv_iload_n hx hb dX11_byteOf_28 rfl (lv_at hl 2 rfl) ?_
  refine lv_goto (tgt := 45) hx hb dX11_byteOf_29 (by decide) ?_
  refine lv_istore (lv' := [(6, .int z), (0, .int x), (1, .int y), (2, .int z), (3, .int v), (4, .int w), (5, .int 8)]) hx hb dX11_byteOf_45 hl (by decide) rfl (fun ls hl => ?_)
  refine lv_iload hx hb dX11_byteOf_47 (lv_at hl 0 rfl) ?_
  refine lv_bipush (v := 24) hx hb dX11_byteOf_49 (by decide) ?_
  refine lv_bipush (v := 8) hx hb dX11_byteOf_51 (by decide) ?_
  refine lv_iload hx hb dX11_byteOf_53 (lv_at hl 6 rfl) ?_
  refine lv_iconst (v := 4) hx hb dX11_byteOf_55 (by decide) ?_
  refine lv_irem hx hb dX11_byteOf_56 (by decide) ?_
  refine lv_val (y := 0) (by decide) ?_
  refine lv_imul hx hb dX11_byteOf_57 ?_
  refine lv_val (y := 0) (by decide) ?_
  refine lv_isub hx hb dX11_byteOf_58 ?_
  refine lv_val (y := 24) (by decide) ?_
  refine lv_ishr hx hb dX11_byteOf_59 ?_
  refine lv_topi (fun x_1 ex_1 => ?_)
  refine lv_sipush (v := 255) hx hb dX11_byteOf_60 (by decide) ?_
  refine lv_iand hx hb dX11_byteOf_63 ?_
  refine lv_topi (fun x_2 ex_2 => ?_)
  exact W.iret (v := x_2) hx hb hr  (fun t ht hW => ⟨⟨x_2, (), rfl, (by rw [ex_2, ex_1]; exact sh_24 _), trivial⟩, hS.F ht⟩) hS.2.2 dX11_byteOf_64

set_option maxHeartbeats 4000000 in
set_option maxRecDepth 100000 in
theorem c_X11_byteOf_9 (l : Launch) (D : va_G) (x y z v w : Int32) : Met l yX11_byteOf (.code yX11_byteOf cX11_byteOf 7 (some .int) :: gw) ({ frames := 0, cells := 0, slots := 0, locals := 0 }) (va_Pc [.int x, .int y, .int z, .int v, .int w, .int 9] (pr D [] [])) (va_Qi (fun r (_ : Unit) => r = us z 16 &&& 255) (fun _ _ => True) (fun _ => False)) 0 0 (fun _ => False) := by
  refine Met.ofW (cc := cX11_byteOf) (maxL := 7) (ret := (some .int)) (by decide) rfl ?_
  intro p e s m args below meth c s₁ B hml hv
  obtain ⟨rfl, hP, hK⟩ := hv
  have hx := B.exec
  have hb := B.bytes
  have hr := B.returns
  have hts := atoms_spec (ws := .code yX11_byteOf cX11_byteOf 7 (some .int) :: gw) B.pre
  have htg := gw_tl hts
  have hown : s.vm.findClass RX11 = some m.cls := findClass_of_methodNamed B.named
  have hlocks := B.notSynchronized
  have hS : va_S (fun _ => False) s.heap s.heap [] := va_S.rf
  have hl := lv_entry ([.int x, .int y, .int z, .int v, .int w, .int 9]) (n := 7) (Nat.le_of_ble_eq_true rfl)
  rw [lg_entry_eq]
  generalize (lg_sl ([.int x, .int y, .int z, .int v, .int w, .int 9]) ++ List.replicate (7 - (lg_sl ([.int x, .int y, .int z, .int v, .int w, .int 9])).length) Slot.unset).toArray = ls at hl ⊢
  have hl : lv_has ls 7 [(0, .int x), (1, .int y), (2, .int z), (3, .int v), (4, .int w), (5, .int 9)] := hl
  refine lv_iload hx hb dX11_byteOf_0 (lv_at hl 5 rfl) ?_
  refine lv_iconst (v := 4) hx hb dX11_byteOf_2 (by decide) ?_
  refine lv_icmp_ge (tgt := 10) hx hb dX11_byteOf_3 (by decide) (fun _ => ?_) (fun h9 => False.elim (h9 (by decide)))
  refine lv_iload hx hb dX11_byteOf_10 (lv_at hl 5 rfl) ?_
  refine lv_bipush (v := 8) hx hb dX11_byteOf_12 (by decide) ?_
  refine lv_icmp_ge (tgt := 21) hx hb dX11_byteOf_14 (by decide) (fun _ => ?_) (fun h9 => False.elim (h9 (by decide)))
  refine lv_iload hx hb dX11_byteOf_21 (lv_at hl 5 rfl) ?_
  refine lv_bipush (v := 12) hx hb dX11_byteOf_23 (by decide) ?_
  refine lv_icmp_ge (tgt := 32) hx hb dX11_byteOf_25 (by decide) (fun h9 => absurd h9 (by decide)) (fun _ => ?_)
  refine lv_iload_n hx hb dX11_byteOf_28 rfl (lv_at hl 2 rfl) ?_
  refine lv_goto (tgt := 45) hx hb dX11_byteOf_29 (by decide) ?_
  refine lv_istore (lv' := [(6, .int z), (0, .int x), (1, .int y), (2, .int z), (3, .int v), (4, .int w), (5, .int 9)]) hx hb dX11_byteOf_45 hl (by decide) rfl (fun ls hl => ?_)
  refine lv_iload hx hb dX11_byteOf_47 (lv_at hl 0 rfl) ?_
  refine lv_bipush (v := 24) hx hb dX11_byteOf_49 (by decide) ?_
  refine lv_bipush (v := 8) hx hb dX11_byteOf_51 (by decide) ?_
  refine lv_iload hx hb dX11_byteOf_53 (lv_at hl 6 rfl) ?_
  refine lv_iconst (v := 4) hx hb dX11_byteOf_55 (by decide) ?_
  refine lv_irem hx hb dX11_byteOf_56 (by decide) ?_
  refine lv_val (y := 1) (by decide) ?_
  refine lv_imul hx hb dX11_byteOf_57 ?_
  refine lv_val (y := 8) (by decide) ?_
  refine lv_isub hx hb dX11_byteOf_58 ?_
  refine lv_val (y := 16) (by decide) ?_
  refine lv_ishr hx hb dX11_byteOf_59 ?_
  refine lv_topi (fun x_1 ex_1 => ?_)
  refine lv_sipush (v := 255) hx hb dX11_byteOf_60 (by decide) ?_
  refine lv_iand hx hb dX11_byteOf_63 ?_
  refine lv_topi (fun x_2 ex_2 => ?_)
  exact W.iret (v := x_2) hx hb hr  (fun t ht hW => ⟨⟨x_2, (), rfl, (by rw [ex_2, ex_1]; exact sh_16 _), trivial⟩, hS.F ht⟩) hS.2.2 dX11_byteOf_64

set_option maxHeartbeats 4000000 in
set_option maxRecDepth 100000 in
theorem c_X11_byteOf_10 (l : Launch) (D : va_G) (x y z v w : Int32) : Met l yX11_byteOf (.code yX11_byteOf cX11_byteOf 7 (some .int) :: gw) ({ frames := 0, cells := 0, slots := 0, locals := 0 }) (va_Pc [.int x, .int y, .int z, .int v, .int w, .int 10] (pr D [] [])) (va_Qi (fun r (_ : Unit) => r = us z 8 &&& 255) (fun _ _ => True) (fun _ => False)) 0 0 (fun _ => False) := by
  refine Met.ofW (cc := cX11_byteOf) (maxL := 7) (ret := (some .int)) (by decide) rfl ?_
  intro p e s m args below meth c s₁ B hml hv
  obtain ⟨rfl, hP, hK⟩ := hv
  have hx := B.exec
  have hb := B.bytes
  have hr := B.returns
  have hts := atoms_spec (ws := .code yX11_byteOf cX11_byteOf 7 (some .int) :: gw) B.pre
  have htg := gw_tl hts
  have hown : s.vm.findClass RX11 = some m.cls := findClass_of_methodNamed B.named
  have hlocks := B.notSynchronized
  have hS : va_S (fun _ => False) s.heap s.heap [] := va_S.rf
  have hl := lv_entry ([.int x, .int y, .int z, .int v, .int w, .int 10]) (n := 7) (Nat.le_of_ble_eq_true rfl)
  rw [lg_entry_eq]
  generalize (lg_sl ([.int x, .int y, .int z, .int v, .int w, .int 10]) ++ List.replicate (7 - (lg_sl ([.int x, .int y, .int z, .int v, .int w, .int 10])).length) Slot.unset).toArray = ls at hl ⊢
  have hl : lv_has ls 7 [(0, .int x), (1, .int y), (2, .int z), (3, .int v), (4, .int w), (5, .int 10)] := hl
  refine lv_iload hx hb dX11_byteOf_0 (lv_at hl 5 rfl) ?_
  refine lv_iconst (v := 4) hx hb dX11_byteOf_2 (by decide) ?_
  refine lv_icmp_ge (tgt := 10) hx hb dX11_byteOf_3 (by decide) (fun _ => ?_) (fun h9 => False.elim (h9 (by decide)))
  refine lv_iload hx hb dX11_byteOf_10 (lv_at hl 5 rfl) ?_
  refine lv_bipush (v := 8) hx hb dX11_byteOf_12 (by decide) ?_
  refine lv_icmp_ge (tgt := 21) hx hb dX11_byteOf_14 (by decide) (fun _ => ?_) (fun h9 => False.elim (h9 (by decide)))
  refine lv_iload hx hb dX11_byteOf_21 (lv_at hl 5 rfl) ?_
  refine lv_bipush (v := 12) hx hb dX11_byteOf_23 (by decide) ?_
  refine lv_icmp_ge (tgt := 32) hx hb dX11_byteOf_25 (by decide) (fun h9 => absurd h9 (by decide)) (fun _ => ?_)
  refine lv_iload_n hx hb dX11_byteOf_28 rfl (lv_at hl 2 rfl) ?_
  refine lv_goto (tgt := 45) hx hb dX11_byteOf_29 (by decide) ?_
  refine lv_istore (lv' := [(6, .int z), (0, .int x), (1, .int y), (2, .int z), (3, .int v), (4, .int w), (5, .int 10)]) hx hb dX11_byteOf_45 hl (by decide) rfl (fun ls hl => ?_)
  refine lv_iload hx hb dX11_byteOf_47 (lv_at hl 0 rfl) ?_
  refine lv_bipush (v := 24) hx hb dX11_byteOf_49 (by decide) ?_
  refine lv_bipush (v := 8) hx hb dX11_byteOf_51 (by decide) ?_
  refine lv_iload hx hb dX11_byteOf_53 (lv_at hl 6 rfl) ?_
  refine lv_iconst (v := 4) hx hb dX11_byteOf_55 (by decide) ?_
  refine lv_irem hx hb dX11_byteOf_56 (by decide) ?_
  refine lv_val (y := 2) (by decide) ?_
  refine lv_imul hx hb dX11_byteOf_57 ?_
  refine lv_val (y := 16) (by decide) ?_
  refine lv_isub hx hb dX11_byteOf_58 ?_
  refine lv_val (y := 8) (by decide) ?_
  refine lv_ishr hx hb dX11_byteOf_59 ?_
  refine lv_topi (fun x_1 ex_1 => ?_)
  refine lv_sipush (v := 255) hx hb dX11_byteOf_60 (by decide) ?_
  refine lv_iand hx hb dX11_byteOf_63 ?_
  refine lv_topi (fun x_2 ex_2 => ?_)
  exact W.iret (v := x_2) hx hb hr  (fun t ht hW => ⟨⟨x_2, (), rfl, (by rw [ex_2, ex_1]; exact sh_8 _), trivial⟩, hS.F ht⟩) hS.2.2 dX11_byteOf_64

set_option maxHeartbeats 4000000 in
set_option maxRecDepth 100000 in
theorem c_X11_byteOf_11 (l : Launch) (D : va_G) (x y z v w : Int32) : Met l yX11_byteOf (.code yX11_byteOf cX11_byteOf 7 (some .int) :: gw) ({ frames := 0, cells := 0, slots := 0, locals := 0 }) (va_Pc [.int x, .int y, .int z, .int v, .int w, .int 11] (pr D [] [])) (va_Qi (fun r (_ : Unit) => r = us z 0 &&& 255) (fun _ _ => True) (fun _ => False)) 0 0 (fun _ => False) := by
  refine Met.ofW (cc := cX11_byteOf) (maxL := 7) (ret := (some .int)) (by decide) rfl ?_
  intro p e s m args below meth c s₁ B hml hv
  obtain ⟨rfl, hP, hK⟩ := hv
  have hx := B.exec
  have hb := B.bytes
  have hr := B.returns
  have hts := atoms_spec (ws := .code yX11_byteOf cX11_byteOf 7 (some .int) :: gw) B.pre
  have htg := gw_tl hts
  have hown : s.vm.findClass RX11 = some m.cls := findClass_of_methodNamed B.named
  have hlocks := B.notSynchronized
  have hS : va_S (fun _ => False) s.heap s.heap [] := va_S.rf
  have hl := lv_entry ([.int x, .int y, .int z, .int v, .int w, .int 11]) (n := 7) (Nat.le_of_ble_eq_true rfl)
  rw [lg_entry_eq]
  generalize (lg_sl ([.int x, .int y, .int z, .int v, .int w, .int 11]) ++ List.replicate (7 - (lg_sl ([.int x, .int y, .int z, .int v, .int w, .int 11])).length) Slot.unset).toArray = ls at hl ⊢
  have hl : lv_has ls 7 [(0, .int x), (1, .int y), (2, .int z), (3, .int v), (4, .int w), (5, .int 11)] := hl
  refine lv_iload hx hb dX11_byteOf_0 (lv_at hl 5 rfl) ?_
  refine lv_iconst (v := 4) hx hb dX11_byteOf_2 (by decide) ?_
  refine lv_icmp_ge (tgt := 10) hx hb dX11_byteOf_3 (by decide) (fun _ => ?_) (fun h9 => False.elim (h9 (by decide)))
  refine lv_iload hx hb dX11_byteOf_10 (lv_at hl 5 rfl) ?_
  refine lv_bipush (v := 8) hx hb dX11_byteOf_12 (by decide) ?_
  refine lv_icmp_ge (tgt := 21) hx hb dX11_byteOf_14 (by decide) (fun _ => ?_) (fun h9 => False.elim (h9 (by decide)))
  refine lv_iload hx hb dX11_byteOf_21 (lv_at hl 5 rfl) ?_
  refine lv_bipush (v := 12) hx hb dX11_byteOf_23 (by decide) ?_
  refine lv_icmp_ge (tgt := 32) hx hb dX11_byteOf_25 (by decide) (fun h9 => absurd h9 (by decide)) (fun _ => ?_)
  refine lv_iload_n hx hb dX11_byteOf_28 rfl (lv_at hl 2 rfl) ?_
  refine lv_goto (tgt := 45) hx hb dX11_byteOf_29 (by decide) ?_
  refine lv_istore (lv' := [(6, .int z), (0, .int x), (1, .int y), (2, .int z), (3, .int v), (4, .int w), (5, .int 11)]) hx hb dX11_byteOf_45 hl (by decide) rfl (fun ls hl => ?_)
  refine lv_iload hx hb dX11_byteOf_47 (lv_at hl 0 rfl) ?_
  refine lv_bipush (v := 24) hx hb dX11_byteOf_49 (by decide) ?_
  refine lv_bipush (v := 8) hx hb dX11_byteOf_51 (by decide) ?_
  refine lv_iload hx hb dX11_byteOf_53 (lv_at hl 6 rfl) ?_
  refine lv_iconst (v := 4) hx hb dX11_byteOf_55 (by decide) ?_
  refine lv_irem hx hb dX11_byteOf_56 (by decide) ?_
  refine lv_val (y := 3) (by decide) ?_
  refine lv_imul hx hb dX11_byteOf_57 ?_
  refine lv_val (y := 24) (by decide) ?_
  refine lv_isub hx hb dX11_byteOf_58 ?_
  refine lv_val (y := 0) (by decide) ?_
  refine lv_ishr hx hb dX11_byteOf_59 ?_
  refine lv_topi (fun x_1 ex_1 => ?_)
  refine lv_sipush (v := 255) hx hb dX11_byteOf_60 (by decide) ?_
  refine lv_iand hx hb dX11_byteOf_63 ?_
  refine lv_topi (fun x_2 ex_2 => ?_)
  exact W.iret (v := x_2) hx hb hr  (fun t ht hW => ⟨⟨x_2, (), rfl, (by rw [ex_2, ex_1]; exact sh_0 _), trivial⟩, hS.F ht⟩) hS.2.2 dX11_byteOf_64

set_option maxHeartbeats 4000000 in
set_option maxRecDepth 100000 in
theorem c_X11_byteOf_12 (l : Launch) (D : va_G) (x y z v w : Int32) : Met l yX11_byteOf (.code yX11_byteOf cX11_byteOf 7 (some .int) :: gw) ({ frames := 0, cells := 0, slots := 0, locals := 0 }) (va_Pc [.int x, .int y, .int z, .int v, .int w, .int 12] (pr D [] [])) (va_Qi (fun r (_ : Unit) => r = us v 24 &&& 255) (fun _ _ => True) (fun _ => False)) 0 0 (fun _ => False) := by
  refine Met.ofW (cc := cX11_byteOf) (maxL := 7) (ret := (some .int)) (by decide) rfl ?_
  intro p e s m args below meth c s₁ B hml hv
  obtain ⟨rfl, hP, hK⟩ := hv
  have hx := B.exec
  have hb := B.bytes
  have hr := B.returns
  have hts := atoms_spec (ws := .code yX11_byteOf cX11_byteOf 7 (some .int) :: gw) B.pre
  have htg := gw_tl hts
  have hown : s.vm.findClass RX11 = some m.cls := findClass_of_methodNamed B.named
  have hlocks := B.notSynchronized
  have hS : va_S (fun _ => False) s.heap s.heap [] := va_S.rf
  have hl := lv_entry ([.int x, .int y, .int z, .int v, .int w, .int 12]) (n := 7) (Nat.le_of_ble_eq_true rfl)
  rw [lg_entry_eq]
  generalize (lg_sl ([.int x, .int y, .int z, .int v, .int w, .int 12]) ++ List.replicate (7 - (lg_sl ([.int x, .int y, .int z, .int v, .int w, .int 12])).length) Slot.unset).toArray = ls at hl ⊢
  have hl : lv_has ls 7 [(0, .int x), (1, .int y), (2, .int z), (3, .int v), (4, .int w), (5, .int 12)] := hl
  refine lv_iload hx hb dX11_byteOf_0 (lv_at hl 5 rfl) ?_
  refine lv_iconst (v := 4) hx hb dX11_byteOf_2 (by decide) ?_
  refine lv_icmp_ge (tgt := 10) hx hb dX11_byteOf_3 (by decide) (fun _ => ?_) (fun h9 => False.elim (h9 (by decide)))
  refine lv_iload hx hb dX11_byteOf_10 (lv_at hl 5 rfl) ?_
  refine lv_bipush (v := 8) hx hb dX11_byteOf_12 (by decide) ?_
  refine lv_icmp_ge (tgt := 21) hx hb dX11_byteOf_14 (by decide) (fun _ => ?_) (fun h9 => False.elim (h9 (by decide)))
  refine lv_iload hx hb dX11_byteOf_21 (lv_at hl 5 rfl) ?_
  refine lv_bipush (v := 12) hx hb dX11_byteOf_23 (by decide) ?_
  refine lv_icmp_ge (tgt := 32) hx hb dX11_byteOf_25 (by decide) (fun _ => ?_) (fun h9 => False.elim (h9 (by decide)))
  refine lv_iload hx hb dX11_byteOf_32 (lv_at hl 5 rfl) ?_
  refine lv_bipush (v := 16) hx hb dX11_byteOf_34 (by decide) ?_
  refine lv_icmp_ge (tgt := 43) hx hb dX11_byteOf_36 (by decide) (fun h9 => absurd h9 (by decide)) (fun _ => ?_)
  refine lv_iload_n hx hb dX11_byteOf_39 rfl (lv_at hl 3 rfl) ?_
  refine lv_goto (tgt := 45) hx hb dX11_byteOf_40 (by decide) ?_
  refine lv_istore (lv' := [(6, .int v), (0, .int x), (1, .int y), (2, .int z), (3, .int v), (4, .int w), (5, .int 12)]) hx hb dX11_byteOf_45 hl (by decide) rfl (fun ls hl => ?_)
  refine lv_iload hx hb dX11_byteOf_47 (lv_at hl 0 rfl) ?_
  refine lv_bipush (v := 24) hx hb dX11_byteOf_49 (by decide) ?_
  refine lv_bipush (v := 8) hx hb dX11_byteOf_51 (by decide) ?_
  refine lv_iload hx hb dX11_byteOf_53 (lv_at hl 6 rfl) ?_
  refine lv_iconst (v := 4) hx hb dX11_byteOf_55 (by decide) ?_
  refine lv_irem hx hb dX11_byteOf_56 (by decide) ?_
  refine lv_val (y := 0) (by decide) ?_
  refine lv_imul hx hb dX11_byteOf_57 ?_
  refine lv_val (y := 0) (by decide) ?_
  refine lv_isub hx hb dX11_byteOf_58 ?_
  refine lv_val (y := 24) (by decide) ?_
  refine lv_ishr hx hb dX11_byteOf_59 ?_
  refine lv_topi (fun x_1 ex_1 => ?_)
  refine lv_sipush (v := 255) hx hb dX11_byteOf_60 (by decide) ?_
  refine lv_iand hx hb dX11_byteOf_63 ?_
  refine lv_topi (fun x_2 ex_2 => ?_)
  exact W.iret (v := x_2) hx hb hr  (fun t ht hW => ⟨⟨x_2, (), rfl, (by rw [ex_2, ex_1]; exact sh_24 _), trivial⟩, hS.F ht⟩) hS.2.2 dX11_byteOf_64

set_option maxHeartbeats 4000000 in
set_option maxRecDepth 100000 in
theorem c_X11_byteOf_13 (l : Launch) (D : va_G) (x y z v w : Int32) : Met l yX11_byteOf (.code yX11_byteOf cX11_byteOf 7 (some .int) :: gw) ({ frames := 0, cells := 0, slots := 0, locals := 0 }) (va_Pc [.int x, .int y, .int z, .int v, .int w, .int 13] (pr D [] [])) (va_Qi (fun r (_ : Unit) => r = us v 16 &&& 255) (fun _ _ => True) (fun _ => False)) 0 0 (fun _ => False) := by
  refine Met.ofW (cc := cX11_byteOf) (maxL := 7) (ret := (some .int)) (by decide) rfl ?_
  intro p e s m args below meth c s₁ B hml hv
  obtain ⟨rfl, hP, hK⟩ := hv
  have hx := B.exec
  have hb := B.bytes
  have hr := B.returns
  have hts := atoms_spec (ws := .code yX11_byteOf cX11_byteOf 7 (some .int) :: gw) B.pre
  have htg := gw_tl hts
  have hown : s.vm.findClass RX11 = some m.cls := findClass_of_methodNamed B.named
  have hlocks := B.notSynchronized
  have hS : va_S (fun _ => False) s.heap s.heap [] := va_S.rf
  have hl := lv_entry ([.int x, .int y, .int z, .int v, .int w, .int 13]) (n := 7) (Nat.le_of_ble_eq_true rfl)
  rw [lg_entry_eq]
  generalize (lg_sl ([.int x, .int y, .int z, .int v, .int w, .int 13]) ++ List.replicate (7 - (lg_sl ([.int x, .int y, .int z, .int v, .int w, .int 13])).length) Slot.unset).toArray = ls at hl ⊢
  have hl : lv_has ls 7 [(0, .int x), (1, .int y), (2, .int z), (3, .int v), (4, .int w), (5, .int 13)] := hl
  refine lv_iload hx hb dX11_byteOf_0 (lv_at hl 5 rfl) ?_
  refine lv_iconst (v := 4) hx hb dX11_byteOf_2 (by decide) ?_
  refine lv_icmp_ge (tgt := 10) hx hb dX11_byteOf_3 (by decide) (fun _ => ?_) (fun h9 => False.elim (h9 (by decide)))
  refine lv_iload hx hb dX11_byteOf_10 (lv_at hl 5 rfl) ?_
  refine lv_bipush (v := 8) hx hb dX11_byteOf_12 (by decide) ?_
  refine lv_icmp_ge (tgt := 21) hx hb dX11_byteOf_14 (by decide) (fun _ => ?_) (fun h9 => False.elim (h9 (by decide)))
  refine lv_iload hx hb dX11_byteOf_21 (lv_at hl 5 rfl) ?_
  refine lv_bipush (v := 12) hx hb dX11_byteOf_23 (by decide) ?_
  refine lv_icmp_ge (tgt := 32) hx hb dX11_byteOf_25 (by decide) (fun _ => ?_) (fun h9 => False.elim (h9 (by decide)))
  refine lv_iload hx hb dX11_byteOf_32 (lv_at hl 5 rfl) ?_
  refine lv_bipush (v := 16) hx hb dX11_byteOf_34 (by decide) ?_
  refine lv_icmp_ge (tgt := 43) hx hb dX11_byteOf_36 (by decide) (fun h9 => absurd h9 (by decide)) (fun _ => ?_)
  refine lv_iload_n hx hb dX11_byteOf_39 rfl (lv_at hl 3 rfl) ?_
  refine lv_goto (tgt := 45) hx hb dX11_byteOf_40 (by decide) ?_
  refine lv_istore (lv' := [(6, .int v), (0, .int x), (1, .int y), (2, .int z), (3, .int v), (4, .int w), (5, .int 13)]) hx hb dX11_byteOf_45 hl (by decide) rfl (fun ls hl => ?_)
  refine lv_iload hx hb dX11_byteOf_47 (lv_at hl 0 rfl) ?_
  refine lv_bipush (v := 24) hx hb dX11_byteOf_49 (by decide) ?_
  refine lv_bipush (v := 8) hx hb dX11_byteOf_51 (by decide) ?_
  refine lv_iload hx hb dX11_byteOf_53 (lv_at hl 6 rfl) ?_
  refine lv_iconst (v := 4) hx hb dX11_byteOf_55 (by decide) ?_
  refine lv_irem hx hb dX11_byteOf_56 (by decide) ?_
  refine lv_val (y := 1) (by decide) ?_
  refine lv_imul hx hb dX11_byteOf_57 ?_
  refine lv_val (y := 8) (by decide) ?_
  refine lv_isub hx hb dX11_byteOf_58 ?_
  refine lv_val (y := 16) (by decide) ?_
  refine lv_ishr hx hb dX11_byteOf_59 ?_
  refine lv_topi (fun x_1 ex_1 => ?_)
  refine lv_sipush (v := 255) hx hb dX11_byteOf_60 (by decide) ?_
  refine lv_iand hx hb dX11_byteOf_63 ?_
  refine lv_topi (fun x_2 ex_2 => ?_)
  exact W.iret (v := x_2) hx hb hr  (fun t ht hW => ⟨⟨x_2, (), rfl, (by rw [ex_2, ex_1]; exact sh_16 _), trivial⟩, hS.F ht⟩) hS.2.2 dX11_byteOf_64

set_option maxHeartbeats 4000000 in
set_option maxRecDepth 100000 in
theorem c_X11_byteOf_14 (l : Launch) (D : va_G) (x y z v w : Int32) : Met l yX11_byteOf (.code yX11_byteOf cX11_byteOf 7 (some .int) :: gw) ({ frames := 0, cells := 0, slots := 0, locals := 0 }) (va_Pc [.int x, .int y, .int z, .int v, .int w, .int 14] (pr D [] [])) (va_Qi (fun r (_ : Unit) => r = us v 8 &&& 255) (fun _ _ => True) (fun _ => False)) 0 0 (fun _ => False) := by
  refine Met.ofW (cc := cX11_byteOf) (maxL := 7) (ret := (some .int)) (by decide) rfl ?_
  intro p e s m args below meth c s₁ B hml hv
  obtain ⟨rfl, hP, hK⟩ := hv
  have hx := B.exec
  have hb := B.bytes
  have hr := B.returns
  have hts := atoms_spec (ws := .code yX11_byteOf cX11_byteOf 7 (some .int) :: gw) B.pre
  have htg := gw_tl hts
  have hown : s.vm.findClass RX11 = some m.cls := findClass_of_methodNamed B.named
  have hlocks := B.notSynchronized
  have hS : va_S (fun _ => False) s.heap s.heap [] := va_S.rf
  have hl := lv_entry ([.int x, .int y, .int z, .int v, .int w, .int 14]) (n := 7) (Nat.le_of_ble_eq_true rfl)
  rw [lg_entry_eq]
  generalize (lg_sl ([.int x, .int y, .int z, .int v, .int w, .int 14]) ++ List.replicate (7 - (lg_sl ([.int x, .int y, .int z, .int v, .int w, .int 14])).length) Slot.unset).toArray = ls at hl ⊢
  have hl : lv_has ls 7 [(0, .int x), (1, .int y), (2, .int z), (3, .int v), (4, .int w), (5, .int 14)] := hl
  refine lv_iload hx hb dX11_byteOf_0 (lv_at hl 5 rfl) ?_
  refine lv_iconst (v := 4) hx hb dX11_byteOf_2 (by decide) ?_
  refine lv_icmp_ge (tgt := 10) hx hb dX11_byteOf_3 (by decide) (fun _ => ?_) (fun h9 => False.elim (h9 (by decide)))
  refine lv_iload hx hb dX11_byteOf_10 (lv_at hl 5 rfl) ?_
  refine lv_bipush (v := 8) hx hb dX11_byteOf_12 (by decide) ?_
  refine lv_icmp_ge (tgt := 21) hx hb dX11_byteOf_14 (by decide) (fun _ => ?_) (fun h9 => False.elim (h9 (by decide)))
  refine lv_iload hx hb dX11_byteOf_21 (lv_at hl 5 rfl) ?_
  refine lv_bipush (v := 12) hx hb dX11_byteOf_23 (by decide) ?_
  refine lv_icmp_ge (tgt := 32) hx hb dX11_byteOf_25 (by decide) (fun _ => ?_) (fun h9 => False.elim (h9 (by decide)))
  refine lv_iload hx hb dX11_byteOf_32 (lv_at hl 5 rfl) ?_
  refine lv_bipush (v := 16) hx hb dX11_byteOf_34 (by decide) ?_
  refine lv_icmp_ge (tgt := 43) hx hb dX11_byteOf_36 (by decide) (fun h9 => absurd h9 (by decide)) (fun _ => ?_)
  refine lv_iload_n hx hb dX11_byteOf_39 rfl (lv_at hl 3 rfl) ?_
  refine lv_goto (tgt := 45) hx hb dX11_byteOf_40 (by decide) ?_
  refine lv_istore (lv' := [(6, .int v), (0, .int x), (1, .int y), (2, .int z), (3, .int v), (4, .int w), (5, .int 14)]) hx hb dX11_byteOf_45 hl (by decide) rfl (fun ls hl => ?_)
  refine lv_iload hx hb dX11_byteOf_47 (lv_at hl 0 rfl) ?_
  refine lv_bipush (v := 24) hx hb dX11_byteOf_49 (by decide) ?_
  refine lv_bipush (v := 8) hx hb dX11_byteOf_51 (by decide) ?_
  refine lv_iload hx hb dX11_byteOf_53 (lv_at hl 6 rfl) ?_
  refine lv_iconst (v := 4) hx hb dX11_byteOf_55 (by decide) ?_
  refine lv_irem hx hb dX11_byteOf_56 (by decide) ?_
  refine lv_val (y := 2) (by decide) ?_
  refine lv_imul hx hb dX11_byteOf_57 ?_
  refine lv_val (y := 16) (by decide) ?_
  refine lv_isub hx hb dX11_byteOf_58 ?_
  refine lv_val (y := 8) (by decide) ?_
  refine lv_ishr hx hb dX11_byteOf_59 ?_
  refine lv_topi (fun x_1 ex_1 => ?_)
  refine lv_sipush (v := 255) hx hb dX11_byteOf_60 (by decide) ?_
  refine lv_iand hx hb dX11_byteOf_63 ?_
  refine lv_topi (fun x_2 ex_2 => ?_)
  exact W.iret (v := x_2) hx hb hr  (fun t ht hW => ⟨⟨x_2, (), rfl, (by rw [ex_2, ex_1]; exact sh_8 _), trivial⟩, hS.F ht⟩) hS.2.2 dX11_byteOf_64

set_option maxHeartbeats 4000000 in
set_option maxRecDepth 100000 in
theorem c_X11_byteOf_15 (l : Launch) (D : va_G) (x y z v w : Int32) : Met l yX11_byteOf (.code yX11_byteOf cX11_byteOf 7 (some .int) :: gw) ({ frames := 0, cells := 0, slots := 0, locals := 0 }) (va_Pc [.int x, .int y, .int z, .int v, .int w, .int 15] (pr D [] [])) (va_Qi (fun r (_ : Unit) => r = us v 0 &&& 255) (fun _ _ => True) (fun _ => False)) 0 0 (fun _ => False) := by
  refine Met.ofW (cc := cX11_byteOf) (maxL := 7) (ret := (some .int)) (by decide) rfl ?_
  intro p e s m args below meth c s₁ B hml hv
  obtain ⟨rfl, hP, hK⟩ := hv
  have hx := B.exec
  have hb := B.bytes
  have hr := B.returns
  have hts := atoms_spec (ws := .code yX11_byteOf cX11_byteOf 7 (some .int) :: gw) B.pre
  have htg := gw_tl hts
  have hown : s.vm.findClass RX11 = some m.cls := findClass_of_methodNamed B.named
  have hlocks := B.notSynchronized
  have hS : va_S (fun _ => False) s.heap s.heap [] := va_S.rf
  have hl := lv_entry ([.int x, .int y, .int z, .int v, .int w, .int 15]) (n := 7) (Nat.le_of_ble_eq_true rfl)
  rw [lg_entry_eq]
  generalize (lg_sl ([.int x, .int y, .int z, .int v, .int w, .int 15]) ++ List.replicate (7 - (lg_sl ([.int x, .int y, .int z, .int v, .int w, .int 15])).length) Slot.unset).toArray = ls at hl ⊢
  have hl : lv_has ls 7 [(0, .int x), (1, .int y), (2, .int z), (3, .int v), (4, .int w), (5, .int 15)] := hl
  refine lv_iload hx hb dX11_byteOf_0 (lv_at hl 5 rfl) ?_
  refine lv_iconst (v := 4) hx hb dX11_byteOf_2 (by decide) ?_
  refine lv_icmp_ge (tgt := 10) hx hb dX11_byteOf_3 (by decide) (fun _ => ?_) (fun h9 => False.elim (h9 (by decide)))
  refine lv_iload hx hb dX11_byteOf_10 (lv_at hl 5 rfl) ?_
  refine lv_bipush (v := 8) hx hb dX11_byteOf_12 (by decide) ?_
  refine lv_icmp_ge (tgt := 21) hx hb dX11_byteOf_14 (by decide) (fun _ => ?_) (fun h9 => False.elim (h9 (by decide)))
  refine lv_iload hx hb dX11_byteOf_21 (lv_at hl 5 rfl) ?_
  refine lv_bipush (v := 12) hx hb dX11_byteOf_23 (by decide) ?_
  refine lv_icmp_ge (tgt := 32) hx hb dX11_byteOf_25 (by decide) (fun _ => ?_) (fun h9 => False.elim (h9 (by decide)))
  refine lv_iload hx hb dX11_byteOf_32 (lv_at hl 5 rfl) ?_
  refine lv_bipush (v := 16) hx hb dX11_byteOf_34 (by decide) ?_
  refine lv_icmp_ge (tgt := 43) hx hb dX11_byteOf_36 (by decide) (fun h9 => absurd h9 (by decide)) (fun _ => ?_)
  refine lv_iload_n hx hb dX11_byteOf_39 rfl (lv_at hl 3 rfl) ?_
  refine lv_goto (tgt := 45) hx hb dX11_byteOf_40 (by decide) ?_
  refine lv_istore (lv' := [(6, .int v), (0, .int x), (1, .int y), (2, .int z), (3, .int v), (4, .int w), (5, .int 15)]) hx hb dX11_byteOf_45 hl (by decide) rfl (fun ls hl => ?_)
  refine lv_iload hx hb dX11_byteOf_47 (lv_at hl 0 rfl) ?_
  refine lv_bipush (v := 24) hx hb dX11_byteOf_49 (by decide) ?_
  refine lv_bipush (v := 8) hx hb dX11_byteOf_51 (by decide) ?_
  refine lv_iload hx hb dX11_byteOf_53 (lv_at hl 6 rfl) ?_
  refine lv_iconst (v := 4) hx hb dX11_byteOf_55 (by decide) ?_
  refine lv_irem hx hb dX11_byteOf_56 (by decide) ?_
  refine lv_val (y := 3) (by decide) ?_
  refine lv_imul hx hb dX11_byteOf_57 ?_
  refine lv_val (y := 24) (by decide) ?_
  refine lv_isub hx hb dX11_byteOf_58 ?_
  refine lv_val (y := 0) (by decide) ?_
  refine lv_ishr hx hb dX11_byteOf_59 ?_
  refine lv_topi (fun x_1 ex_1 => ?_)
  refine lv_sipush (v := 255) hx hb dX11_byteOf_60 (by decide) ?_
  refine lv_iand hx hb dX11_byteOf_63 ?_
  refine lv_topi (fun x_2 ex_2 => ?_)
  exact W.iret (v := x_2) hx hb hr  (fun t ht hW => ⟨⟨x_2, (), rfl, (by rw [ex_2, ex_1]; exact sh_0 _), trivial⟩, hS.F ht⟩) hS.2.2 dX11_byteOf_64

set_option maxHeartbeats 4000000 in
set_option maxRecDepth 100000 in
theorem c_X11_byteOf_16 (l : Launch) (D : va_G) (x y z v w : Int32) : Met l yX11_byteOf (.code yX11_byteOf cX11_byteOf 7 (some .int) :: gw) ({ frames := 0, cells := 0, slots := 0, locals := 0 }) (va_Pc [.int x, .int y, .int z, .int v, .int w, .int 16] (pr D [] [])) (va_Qi (fun r (_ : Unit) => r = us w 24 &&& 255) (fun _ _ => True) (fun _ => False)) 0 0 (fun _ => False) := by
  refine Met.ofW (cc := cX11_byteOf) (maxL := 7) (ret := (some .int)) (by decide) rfl ?_
  intro p e s m args below meth c s₁ B hml hv
  obtain ⟨rfl, hP, hK⟩ := hv
  have hx := B.exec
  have hb := B.bytes
  have hr := B.returns
  have hts := atoms_spec (ws := .code yX11_byteOf cX11_byteOf 7 (some .int) :: gw) B.pre
  have htg := gw_tl hts
  have hown : s.vm.findClass RX11 = some m.cls := findClass_of_methodNamed B.named
  have hlocks := B.notSynchronized
  have hS : va_S (fun _ => False) s.heap s.heap [] := va_S.rf
  have hl := lv_entry ([.int x, .int y, .int z, .int v, .int w, .int 16]) (n := 7) (Nat.le_of_ble_eq_true rfl)
  rw [lg_entry_eq]
  generalize (lg_sl ([.int x, .int y, .int z, .int v, .int w, .int 16]) ++ List.replicate (7 - (lg_sl ([.int x, .int y, .int z, .int v, .int w, .int 16])).length) Slot.unset).toArray = ls at hl ⊢
  have hl : lv_has ls 7 [(0, .int x), (1, .int y), (2, .int z), (3, .int v), (4, .int w), (5, .int 16)] := hl
  refine lv_iload hx hb dX11_byteOf_0 (lv_at hl 5 rfl) ?_
  refine lv_iconst (v := 4) hx hb dX11_byteOf_2 (by decide) ?_
  refine lv_icmp_ge (tgt := 10) hx hb dX11_byteOf_3 (by decide) (fun _ => ?_) (fun h9 => False.elim (h9 (by decide)))
  refine lv_iload hx hb dX11_byteOf_10 (lv_at hl 5 rfl) ?_
  refine lv_bipush (v := 8) hx hb dX11_byteOf_12 (by decide) ?_
  refine lv_icmp_ge (tgt := 21) hx hb dX11_byteOf_14 (by decide) (fun _ => ?_) (fun h9 => False.elim (h9 (by decide)))
  refine lv_iload hx hb dX11_byteOf_21 (lv_at hl 5 rfl) ?_
  refine lv_bipush (v := 12) hx hb dX11_byteOf_23 (by decide) ?_
  refine lv_icmp_ge (tgt := 32) hx hb dX11_byteOf_25 (by decide) (fun _ => ?_) (fun h9 => False.elim (h9 (by decide)))
  refine lv_iload hx hb dX11_byteOf_32 (lv_at hl 5 rfl) ?_
  refine lv_bipush (v := 16) hx hb dX11_byteOf_34 (by decide) ?_
  refine lv_icmp_ge (tgt := 43) hx hb dX11_byteOf_36 (by decide) (fun _ => ?_) (fun h9 => False.elim (h9 (by decide)))
  refine lv_iload hx hb dX11_byteOf_43 (lv_at hl 4 rfl) ?_
  refine lv_istore (lv' := [(6, .int w), (0, .int x), (1, .int y), (2, .int z), (3, .int v), (4, .int w), (5, .int 16)]) hx hb dX11_byteOf_45 hl (by decide) rfl (fun ls hl => ?_)
  refine lv_iload hx hb dX11_byteOf_47 (lv_at hl 0 rfl) ?_
  refine lv_bipush (v := 24) hx hb dX11_byteOf_49 (by decide) ?_
  refine lv_bipush (v := 8) hx hb dX11_byteOf_51 (by decide) ?_
  refine lv_iload hx hb dX11_byteOf_53 (lv_at hl 6 rfl) ?_
  refine lv_iconst (v := 4) hx hb dX11_byteOf_55 (by decide) ?_
  refine lv_irem hx hb dX11_byteOf_56 (by decide) ?_
  refine lv_val (y := 0) (by decide) ?_
  refine lv_imul hx hb dX11_byteOf_57 ?_
  refine lv_val (y := 0) (by decide) ?_
  refine lv_isub hx hb dX11_byteOf_58 ?_
  refine lv_val (y := 24) (by decide) ?_
  refine lv_ishr hx hb dX11_byteOf_59 ?_
  refine lv_topi (fun x_1 ex_1 => ?_)
  refine lv_sipush (v := 255) hx hb dX11_byteOf_60 (by decide) ?_
  refine lv_iand hx hb dX11_byteOf_63 ?_
  refine lv_topi (fun x_2 ex_2 => ?_)
  exact W.iret (v := x_2) hx hb hr  (fun t ht hW => ⟨⟨x_2, (), rfl, (by rw [ex_2, ex_1]; exact sh_24 _), trivial⟩, hS.F ht⟩) hS.2.2 dX11_byteOf_64

set_option maxHeartbeats 4000000 in
set_option maxRecDepth 100000 in
theorem c_X11_byteOf_17 (l : Launch) (D : va_G) (x y z v w : Int32) : Met l yX11_byteOf (.code yX11_byteOf cX11_byteOf 7 (some .int) :: gw) ({ frames := 0, cells := 0, slots := 0, locals := 0 }) (va_Pc [.int x, .int y, .int z, .int v, .int w, .int 17] (pr D [] [])) (va_Qi (fun r (_ : Unit) => r = us w 16 &&& 255) (fun _ _ => True) (fun _ => False)) 0 0 (fun _ => False) := by
  refine Met.ofW (cc := cX11_byteOf) (maxL := 7) (ret := (some .int)) (by decide) rfl ?_
  intro p e s m args below meth c s₁ B hml hv
  obtain ⟨rfl, hP, hK⟩ := hv
  have hx := B.exec
  have hb := B.bytes
  have hr := B.returns
  have hts := atoms_spec (ws := .code yX11_byteOf cX11_byteOf 7 (some .int) :: gw) B.pre
  have htg := gw_tl hts
  have hown : s.vm.findClass RX11 = some m.cls := findClass_of_methodNamed B.named
  have hlocks := B.notSynchronized
  have hS : va_S (fun _ => False) s.heap s.heap [] := va_S.rf
  have hl := lv_entry ([.int x, .int y, .int z, .int v, .int w, .int 17]) (n := 7) (Nat.le_of_ble_eq_true rfl)
  rw [lg_entry_eq]
  generalize (lg_sl ([.int x, .int y, .int z, .int v, .int w, .int 17]) ++ List.replicate (7 - (lg_sl ([.int x, .int y, .int z, .int v, .int w, .int 17])).length) Slot.unset).toArray = ls at hl ⊢
  have hl : lv_has ls 7 [(0, .int x), (1, .int y), (2, .int z), (3, .int v), (4, .int w), (5, .int 17)] := hl
  refine lv_iload hx hb dX11_byteOf_0 (lv_at hl 5 rfl) ?_
  refine lv_iconst (v := 4) hx hb dX11_byteOf_2 (by decide) ?_
  refine lv_icmp_ge (tgt := 10) hx hb dX11_byteOf_3 (by decide) (fun _ => ?_) (fun h9 => False.elim (h9 (by decide)))
  refine lv_iload hx hb dX11_byteOf_10 (lv_at hl 5 rfl) ?_
  refine lv_bipush (v := 8) hx hb dX11_byteOf_12 (by decide) ?_
  refine lv_icmp_ge (tgt := 21) hx hb dX11_byteOf_14 (by decide) (fun _ => ?_) (fun h9 => False.elim (h9 (by decide)))
  refine lv_iload hx hb dX11_byteOf_21 (lv_at hl 5 rfl) ?_
  refine lv_bipush (v := 12) hx hb dX11_byteOf_23 (by decide) ?_
  refine lv_icmp_ge (tgt := 32) hx hb dX11_byteOf_25 (by decide) (fun _ => ?_) (fun h9 => False.elim (h9 (by decide)))
  refine lv_iload hx hb dX11_byteOf_32 (lv_at hl 5 rfl) ?_
  refine lv_bipush (v := 16) hx hb dX11_byteOf_34 (by decide) ?_
  refine lv_icmp_ge (tgt := 43) hx hb dX11_byteOf_36 (by decide) (fun _ => ?_) (fun h9 => False.elim (h9 (by decide)))
  refine lv_iload hx hb dX11_byteOf_43 (lv_at hl 4 rfl) ?_
  refine lv_istore (lv' := [(6, .int w), (0, .int x), (1, .int y), (2, .int z), (3, .int v), (4, .int w), (5, .int 17)]) hx hb dX11_byteOf_45 hl (by decide) rfl (fun ls hl => ?_)
  refine lv_iload hx hb dX11_byteOf_47 (lv_at hl 0 rfl) ?_
  refine lv_bipush (v := 24) hx hb dX11_byteOf_49 (by decide) ?_
  refine lv_bipush (v := 8) hx hb dX11_byteOf_51 (by decide) ?_
  refine lv_iload hx hb dX11_byteOf_53 (lv_at hl 6 rfl) ?_
  refine lv_iconst (v := 4) hx hb dX11_byteOf_55 (by decide) ?_
  refine lv_irem hx hb dX11_byteOf_56 (by decide) ?_
  refine lv_val (y := 1) (by decide) ?_
  refine lv_imul hx hb dX11_byteOf_57 ?_
  refine lv_val (y := 8) (by decide) ?_
  refine lv_isub hx hb dX11_byteOf_58 ?_
  refine lv_val (y := 16) (by decide) ?_
  refine lv_ishr hx hb dX11_byteOf_59 ?_
  refine lv_topi (fun x_1 ex_1 => ?_)
  refine lv_sipush (v := 255) hx hb dX11_byteOf_60 (by decide) ?_
  refine lv_iand hx hb dX11_byteOf_63 ?_
  refine lv_topi (fun x_2 ex_2 => ?_)
  exact W.iret (v := x_2) hx hb hr  (fun t ht hW => ⟨⟨x_2, (), rfl, (by rw [ex_2, ex_1]; exact sh_16 _), trivial⟩, hS.F ht⟩) hS.2.2 dX11_byteOf_64

set_option maxHeartbeats 4000000 in
set_option maxRecDepth 100000 in
theorem c_X11_byteOf_18 (l : Launch) (D : va_G) (x y z v w : Int32) : Met l yX11_byteOf (.code yX11_byteOf cX11_byteOf 7 (some .int) :: gw) ({ frames := 0, cells := 0, slots := 0, locals := 0 }) (va_Pc [.int x, .int y, .int z, .int v, .int w, .int 18] (pr D [] [])) (va_Qi (fun r (_ : Unit) => r = us w 8 &&& 255) (fun _ _ => True) (fun _ => False)) 0 0 (fun _ => False) := by
  refine Met.ofW (cc := cX11_byteOf) (maxL := 7) (ret := (some .int)) (by decide) rfl ?_
  intro p e s m args below meth c s₁ B hml hv
  obtain ⟨rfl, hP, hK⟩ := hv
  have hx := B.exec
  have hb := B.bytes
  have hr := B.returns
  have hts := atoms_spec (ws := .code yX11_byteOf cX11_byteOf 7 (some .int) :: gw) B.pre
  have htg := gw_tl hts
  have hown : s.vm.findClass RX11 = some m.cls := findClass_of_methodNamed B.named
  have hlocks := B.notSynchronized
  have hS : va_S (fun _ => False) s.heap s.heap [] := va_S.rf
  have hl := lv_entry ([.int x, .int y, .int z, .int v, .int w, .int 18]) (n := 7) (Nat.le_of_ble_eq_true rfl)
  rw [lg_entry_eq]
  generalize (lg_sl ([.int x, .int y, .int z, .int v, .int w, .int 18]) ++ List.replicate (7 - (lg_sl ([.int x, .int y, .int z, .int v, .int w, .int 18])).length) Slot.unset).toArray = ls at hl ⊢
  have hl : lv_has ls 7 [(0, .int x), (1, .int y), (2, .int z), (3, .int v), (4, .int w), (5, .int 18)] := hl
  refine lv_iload hx hb dX11_byteOf_0 (lv_at hl 5 rfl) ?_
  refine lv_iconst (v := 4) hx hb dX11_byteOf_2 (by decide) ?_
  refine lv_icmp_ge (tgt := 10) hx hb dX11_byteOf_3 (by decide) (fun _ => ?_) (fun h9 => False.elim (h9 (by decide)))
  refine lv_iload hx hb dX11_byteOf_10 (lv_at hl 5 rfl) ?_
  refine lv_bipush (v := 8) hx hb dX11_byteOf_12 (by decide) ?_
  refine lv_icmp_ge (tgt := 21) hx hb dX11_byteOf_14 (by decide) (fun _ => ?_) (fun h9 => False.elim (h9 (by decide)))
  refine lv_iload hx hb dX11_byteOf_21 (lv_at hl 5 rfl) ?_
  refine lv_bipush (v := 12) hx hb dX11_byteOf_23 (by decide) ?_
  refine lv_icmp_ge (tgt := 32) hx hb dX11_byteOf_25 (by decide) (fun _ => ?_) (fun h9 => False.elim (h9 (by decide)))
  refine lv_iload hx hb dX11_byteOf_32 (lv_at hl 5 rfl) ?_
  refine lv_bipush (v := 16) hx hb dX11_byteOf_34 (by decide) ?_
  refine lv_icmp_ge (tgt := 43) hx hb dX11_byteOf_36 (by decide) (fun _ => ?_) (fun h9 => False.elim (h9 (by decide)))
  refine lv_iload hx hb dX11_byteOf_43 (lv_at hl 4 rfl) ?_
  refine lv_istore (lv' := [(6, .int w), (0, .int x), (1, .int y), (2, .int z), (3, .int v), (4, .int w), (5, .int 18)]) hx hb dX11_byteOf_45 hl (by decide) rfl (fun ls hl => ?_)
  refine lv_iload hx hb dX11_byteOf_47 (lv_at hl 0 rfl) ?_
  refine lv_bipush (v := 24) hx hb dX11_byteOf_49 (by decide) ?_
  refine lv_bipush (v := 8) hx hb dX11_byteOf_51 (by decide) ?_
  refine lv_iload hx hb dX11_byteOf_53 (lv_at hl 6 rfl) ?_
  refine lv_iconst (v := 4) hx hb dX11_byteOf_55 (by decide) ?_
  refine lv_irem hx hb dX11_byteOf_56 (by decide) ?_
  refine lv_val (y := 2) (by decide) ?_
  refine lv_imul hx hb dX11_byteOf_57 ?_
  refine lv_val (y := 16) (by decide) ?_
  refine lv_isub hx hb dX11_byteOf_58 ?_
  refine lv_val (y := 8) (by decide) ?_
  refine lv_ishr hx hb dX11_byteOf_59 ?_
  refine lv_topi (fun x_1 ex_1 => ?_)
  refine lv_sipush (v := 255) hx hb dX11_byteOf_60 (by decide) ?_
  refine lv_iand hx hb dX11_byteOf_63 ?_
  refine lv_topi (fun x_2 ex_2 => ?_)
  exact W.iret (v := x_2) hx hb hr  (fun t ht hW => ⟨⟨x_2, (), rfl, (by rw [ex_2, ex_1]; exact sh_8 _), trivial⟩, hS.F ht⟩) hS.2.2 dX11_byteOf_64

set_option maxHeartbeats 4000000 in
set_option maxRecDepth 100000 in
theorem c_X11_byteOf_19 (l : Launch) (D : va_G) (x y z v w : Int32) : Met l yX11_byteOf (.code yX11_byteOf cX11_byteOf 7 (some .int) :: gw) ({ frames := 0, cells := 0, slots := 0, locals := 0 }) (va_Pc [.int x, .int y, .int z, .int v, .int w, .int 19] (pr D [] [])) (va_Qi (fun r (_ : Unit) => r = us w 0 &&& 255) (fun _ _ => True) (fun _ => False)) 0 0 (fun _ => False) := by
  refine Met.ofW (cc := cX11_byteOf) (maxL := 7) (ret := (some .int)) (by decide) rfl ?_
  intro p e s m args below meth c s₁ B hml hv
  obtain ⟨rfl, hP, hK⟩ := hv
  have hx := B.exec
  have hb := B.bytes
  have hr := B.returns
  have hts := atoms_spec (ws := .code yX11_byteOf cX11_byteOf 7 (some .int) :: gw) B.pre
  have htg := gw_tl hts
  have hown : s.vm.findClass RX11 = some m.cls := findClass_of_methodNamed B.named
  have hlocks := B.notSynchronized
  have hS : va_S (fun _ => False) s.heap s.heap [] := va_S.rf
  have hl := lv_entry ([.int x, .int y, .int z, .int v, .int w, .int 19]) (n := 7) (Nat.le_of_ble_eq_true rfl)
  rw [lg_entry_eq]
  generalize (lg_sl ([.int x, .int y, .int z, .int v, .int w, .int 19]) ++ List.replicate (7 - (lg_sl ([.int x, .int y, .int z, .int v, .int w, .int 19])).length) Slot.unset).toArray = ls at hl ⊢
  have hl : lv_has ls 7 [(0, .int x), (1, .int y), (2, .int z), (3, .int v), (4, .int w), (5, .int 19)] := hl
  refine lv_iload hx hb dX11_byteOf_0 (lv_at hl 5 rfl) ?_
  refine lv_iconst (v := 4) hx hb dX11_byteOf_2 (by decide) ?_
  refine lv_icmp_ge (tgt := 10) hx hb dX11_byteOf_3 (by decide) (fun _ => ?_) (fun h9 => False.elim (h9 (by decide)))
  refine lv_iload hx hb dX11_byteOf_10 (lv_at hl 5 rfl) ?_
  refine lv_bipush (v := 8) hx hb dX11_byteOf_12 (by decide) ?_
  refine lv_icmp_ge (tgt := 21) hx hb dX11_byteOf_14 (by decide) (fun _ => ?_) (fun h9 => False.elim (h9 (by decide)))
  refine lv_iload hx hb dX11_byteOf_21 (lv_at hl 5 rfl) ?_
  refine lv_bipush (v := 12) hx hb dX11_byteOf_23 (by decide) ?_
  refine lv_icmp_ge (tgt := 32) hx hb dX11_byteOf_25 (by decide) (fun _ => ?_) (fun h9 => False.elim (h9 (by decide)))
  refine lv_iload hx hb dX11_byteOf_32 (lv_at hl 5 rfl) ?_
  refine lv_bipush (v := 16) hx hb dX11_byteOf_34 (by decide) ?_
  refine lv_icmp_ge (tgt := 43) hx hb dX11_byteOf_36 (by decide) (fun _ => ?_) (fun h9 => False.elim (h9 (by decide)))
  refine lv_iload hx hb dX11_byteOf_43 (lv_at hl 4 rfl) ?_
  refine lv_istore (lv' := [(6, .int w), (0, .int x), (1, .int y), (2, .int z), (3, .int v), (4, .int w), (5, .int 19)]) hx hb dX11_byteOf_45 hl (by decide) rfl (fun ls hl => ?_)
  refine lv_iload hx hb dX11_byteOf_47 (lv_at hl 0 rfl) ?_
  refine lv_bipush (v := 24) hx hb dX11_byteOf_49 (by decide) ?_
  refine lv_bipush (v := 8) hx hb dX11_byteOf_51 (by decide) ?_
  refine lv_iload hx hb dX11_byteOf_53 (lv_at hl 6 rfl) ?_
  refine lv_iconst (v := 4) hx hb dX11_byteOf_55 (by decide) ?_
  refine lv_irem hx hb dX11_byteOf_56 (by decide) ?_
  refine lv_val (y := 3) (by decide) ?_
  refine lv_imul hx hb dX11_byteOf_57 ?_
  refine lv_val (y := 24) (by decide) ?_
  refine lv_isub hx hb dX11_byteOf_58 ?_
  refine lv_val (y := 0) (by decide) ?_
  refine lv_ishr hx hb dX11_byteOf_59 ?_
  refine lv_topi (fun x_1 ex_1 => ?_)
  refine lv_sipush (v := 255) hx hb dX11_byteOf_60 (by decide) ?_
  refine lv_iand hx hb dX11_byteOf_63 ?_
  refine lv_topi (fun x_2 ex_2 => ?_)
  exact W.iret (v := x_2) hx hb hr  (fun t ht hW => ⟨⟨x_2, (), rfl, (by rw [ex_2, ex_1]; exact sh_0 _), trivial⟩, hS.F ht⟩) hS.2.2 dX11_byteOf_64

set_option maxHeartbeats 4000000 in
set_option maxRecDepth 100000 in
theorem mf_blk {p : Program} {l : Launch} {e : Env} {R : Room} {s : State} {m : MethodId} {args : Array Value} {below : List Frame} {meth : Method} {c : Code} {cells slots : Nat} {Q : State → Prop} (hx : p.tables.exec = Jvm.exec) (hb : c.code = cX11_feed) (htg : ∀ w ∈ gw, w.before args s = true) (hown : s.vm.findClass RX11 = some m.cls) {D : va_G} {A : Nat → Prop} {b : Nat → Nat} {cB : Nat → ClassId} {k : Nat} {f : Nat → Int32} {v : Int32} (hK : va_K D vwCl [((cB 1), .int)] s) {H : Heap} {locs : List Loc} (hP : va_P D vwCl [((b 0), .inr (11, [.int 0, .ref (b 1), .int (nI k), .int 0, .int 0, .int 0, .ref (b 6), .ref (b 7), .ref (b 8), .ref (b 9), .ref (b 10), .ref (b 11), .ref (b 12), .int 0, .int 0, .ref (b 15), .ref (b 16), .ref (b 17), .ref (b 18), .ref (b 19), .int 0, .int 0, .ref (b 22), .ref (b 23), .ref (b 24), .int 0, .int 0, .ref (b 27), .int 0, .ref (b 29), .int (-1), .ref (b 31), .ref (b 32), .int (-1), .ref (b 34), .ref (b 35), .int 0, .int 0, .ref (b 38), .ref (b 39), .ref (b 40), .ref (b 41), .ref (b 42), .ref (b 43), .ref (b 44), .ref (b 45), .ref (b 46), .ref (b 47), .int 0, .int 0, .ref (b 50), .ref (b 51), .ref (b 52), .ref (b 53), .ref (b 54), .int (-1), .int 0, .ref (b 57), .ref (b 58), .ref (b 59), .ref (b 60), .ref (b 61), .ref (b 62), .int 0, .int 0, .int 0])), ((b 1), .inl ((cB 1), 160, .inl f))] H) (hD : va_D A [((b 0), .inr (11, [.int 0, .ref (b 1), .int (nI k), .int 0, .int 0, .int 0, .ref (b 6), .ref (b 7), .ref (b 8), .ref (b 9), .ref (b 10), .ref (b 11), .ref (b 12), .int 0, .int 0, .ref (b 15), .ref (b 16), .ref (b 17), .ref (b 18), .ref (b 19), .int 0, .int 0, .ref (b 22), .ref (b 23), .ref (b 24), .int 0, .int 0, .ref (b 27), .int 0, .ref (b 29), .int (-1), .ref (b 31), .ref (b 32), .int (-1), .ref (b 34), .ref (b 35), .int 0, .int 0, .ref (b 38), .ref (b 39), .ref (b 40), .ref (b 41), .ref (b 42), .ref (b 43), .ref (b 44), .ref (b 45), .ref (b 46), .ref (b 47), .int 0, .int 0, .ref (b 50), .ref (b 51), .ref (b 52), .ref (b 53), .ref (b 54), .int (-1), .int 0, .ref (b 57), .ref (b 58), .ref (b 59), .ref (b 60), .ref (b 61), .ref (b 62), .int 0, .int 0, .int 0])), ((b 1), .inl ((cB 1), 160, .inl f))]) (hS : va_S A s.heap H locs) (hk : k < 160) {ls : Array Slot} (hl : lv_has ls 9 [(0, .ref (b 0)), (8, .int v)])
    (kk : ∀ (g : Nat → Int32) (H : Heap) (locs : List Loc), va_P D vwCl [((b 0), .inr (11, [.int 0, .ref (b 1), .int (nI (k + nzN v)), .int 0, .int 0, .int 0, .ref (b 6), .ref (b 7), .ref (b 8), .ref (b 9), .ref (b 10), .ref (b 11), .ref (b 12), .int 0, .int 0, .ref (b 15), .ref (b 16), .ref (b 17), .ref (b 18), .ref (b 19), .int 0, .int 0, .ref (b 22), .ref (b 23), .ref (b 24), .int 0, .int 0, .ref (b 27), .int 0, .ref (b 29), .int (-1), .ref (b 31), .ref (b 32), .int (-1), .ref (b 34), .ref (b 35), .int 0, .int 0, .ref (b 38), .ref (b 39), .ref (b 40), .ref (b 41), .ref (b 42), .ref (b 43), .ref (b 44), .ref (b 45), .ref (b 46), .ref (b 47), .int 0, .int 0, .ref (b 50), .ref (b 51), .ref (b 52), .ref (b 53), .ref (b 54), .int (-1), .int 0, .ref (b 57), .ref (b 58), .ref (b 59), .ref (b 60), .ref (b 61), .ref (b 62), .int 0, .int 0, .int 0])), ((b 1), .inl ((cB 1), 160, .inl g))] H → va_D A [((b 0), .inr (11, [.int 0, .ref (b 1), .int (nI (k + nzN v)), .int 0, .int 0, .int 0, .ref (b 6), .ref (b 7), .ref (b 8), .ref (b 9), .ref (b 10), .ref (b 11), .ref (b 12), .int 0, .int 0, .ref (b 15), .ref (b 16), .ref (b 17), .ref (b 18), .ref (b 19), .int 0, .int 0, .ref (b 22), .ref (b 23), .ref (b 24), .int 0, .int 0, .ref (b 27), .int 0, .ref (b 29), .int (-1), .ref (b 31), .ref (b 32), .int (-1), .ref (b 34), .ref (b 35), .int 0, .int 0, .ref (b 38), .ref (b 39), .ref (b 40), .ref (b 41), .ref (b 42), .ref (b 43), .ref (b 44), .ref (b 45), .ref (b 46), .ref (b 47), .int 0, .int 0, .ref (b 50), .ref (b 51), .ref (b 52), .ref (b 53), .ref (b 54), .int (-1), .int 0, .ref (b 57), .ref (b 58), .ref (b 59), .ref (b 60), .ref (b 61), .ref (b 62), .int 0, .int 0, .int 0])), ((b 1), .inl ((cB 1), 160, .inl g))] → va_S A s.heap H locs → W p l e R s m args below meth c H locs cells slots Q (F0 m 109 ls [])) : W p l e R s m args below meth c H locs cells slots Q (F0 m 85 ls [.int v]) := by
  refine lv_if_eq (tgt := 109) hx hb dX11_feed_85 (by decide) (fun h => ?_) (fun h => ?_)
  · rw [nzN_z h] at kk
    exact kk f H locs hP hD hS
  · rw [nzN_n h] at kk
    refine lv_aload_n hx hb dX11_feed_88 rfl (lv_at hl 0 rfl) ?_
    refine va_get (D := D) (ci := 11) (v := .ref (b 1)) (C := RX11) (T := TX11) (N := 66) hx hb htg in_X11 hown hK hP 0 rfl rfl 1 (by decide) (htg _ mw_224) (fun _ h9 => h9) rfl dX11_feed_89 ?_
    refine lv_aload_n hx hb dX11_feed_92 rfl (lv_at hl 0 rfl) ?_
    refine va_get (D := D) (ci := 11) (v := .int (nI k)) (C := RX11) (T := TX11) (N := 66) hx hb htg in_X11 hown hK hP 0 rfl rfl 2 (by decide) (htg _ mw_84) (fun _ h9 => h9) rfl dX11_feed_93 ?_
    refine lv_iload hx hb dX11_feed_96 (lv_at hl 1 rfl) ?_
    refine va_iast hx hb hK hP hD hS 1 0 rfl rfl (i := (nI k)) (x := v) (vp_in_nI (by omega) (by decide)) dX11_feed_98 (fun H locs hP hD hS => ?_)
    have hP : va_P D vwCl [((b 0), .inr (11, [.int 0, .ref (b 1), .int (nI k), .int 0, .int 0, .int 0, .ref (b 6), .ref (b 7), .ref (b 8), .ref (b 9), .ref (b 10), .ref (b 11), .ref (b 12), .int 0, .int 0, .ref (b 15), .ref (b 16), .ref (b 17), .ref (b 18), .ref (b 19), .int 0, .int 0, .ref (b 22), .ref (b 23), .ref (b 24), .int 0, .int 0, .ref (b 27), .int 0, .ref (b 29), .int (-1), .ref (b 31), .ref (b 32), .int (-1), .ref (b 34), .ref (b 35), .int 0, .int 0, .ref (b 38), .ref (b 39), .ref (b 40), .ref (b 41), .ref (b 42), .ref (b 43), .ref (b 44), .ref (b 45), .ref (b 46), .ref (b 47), .int 0, .int 0, .ref (b 50), .ref (b 51), .ref (b 52), .ref (b 53), .ref (b 54), .int (-1), .int 0, .ref (b 57), .ref (b 58), .ref (b 59), .ref (b 60), .ref (b 61), .ref (b 62), .int 0, .int 0, .int 0])), ((b 1), .inl ((cB 1), 160, .inl (upd f (Int32.toNatClampNeg (nI k)) v)))] H := hP
    have hD : va_D A [((b 0), .inr (11, [.int 0, .ref (b 1), .int (nI k), .int 0, .int 0, .int 0, .ref (b 6), .ref (b 7), .ref (b 8), .ref (b 9), .ref (b 10), .ref (b 11), .ref (b 12), .int 0, .int 0, .ref (b 15), .ref (b 16), .ref (b 17), .ref (b 18), .ref (b 19), .int 0, .int 0, .ref (b 22), .ref (b 23), .ref (b 24), .int 0, .int 0, .ref (b 27), .int 0, .ref (b 29), .int (-1), .ref (b 31), .ref (b 32), .int (-1), .ref (b 34), .ref (b 35), .int 0, .int 0, .ref (b 38), .ref (b 39), .ref (b 40), .ref (b 41), .ref (b 42), .ref (b 43), .ref (b 44), .ref (b 45), .ref (b 46), .ref (b 47), .int 0, .int 0, .ref (b 50), .ref (b 51), .ref (b 52), .ref (b 53), .ref (b 54), .int (-1), .int 0, .ref (b 57), .ref (b 58), .ref (b 59), .ref (b 60), .ref (b 61), .ref (b 62), .int 0, .int 0, .int 0])), ((b 1), .inl ((cB 1), 160, .inl (upd f (Int32.toNatClampNeg (nI k)) v)))] := hD
    generalize (upd f (Int32.toNatClampNeg (nI k)) v) = g_1 at hP hD
    refine lv_aload_n hx hb dX11_feed_99 rfl (lv_at hl 0 rfl) ?_
    refine lv_dup hx hb dX11_feed_100 rfl ?_
    refine va_get (D := D) (ci := 11) (v := .int (nI k)) (C := RX11) (T := TX11) (N := 66) hx hb htg in_X11 hown hK hP 0 rfl rfl 2 (by decide) (htg _ mw_84) (fun _ h9 => h9) rfl dX11_feed_101 ?_
    refine lv_iconst (v := 1) hx hb dX11_feed_104 (by decide) ?_
    refine lv_iadd hx hb dX11_feed_105 ?_
    refine lv_val (y := (nI (k + 1))) (nI_1 _) ?_
    refine va_put (D := D) (ci := 11) (v := .int (nI (k + 1))) (ty := .int) (C := RX11) (T := TX11) (N := 66) hx hb htg in_X11 tyX11 tyX11_ok nmX11 hown hK hP hD hS 0 rfl rfl 2 (by decide) (htg _ mw_84) (fun _ h9 => h9) rfl (by decide +kernel) rfl rfl (Nat.le_of_ble_eq_true rfl) dX11_feed_106 (fun H locs hP hD hS => ?_)
    have hP : va_P D vwCl [((b 0), .inr (11, [.int 0, .ref (b 1), .int (nI (k + 1)), .int 0, .int 0, .int 0, .ref (b 6), .ref (b 7), .ref (b 8), .ref (b 9), .ref (b 10), .ref (b 11), .ref (b 12), .int 0, .int 0, .ref (b 15), .ref (b 16), .ref (b 17), .ref (b 18), .ref (b 19), .int 0, .int 0, .ref (b 22), .ref (b 23), .ref (b 24), .int 0, .int 0, .ref (b 27), .int 0, .ref (b 29), .int (-1), .ref (b 31), .ref (b 32), .int (-1), .ref (b 34), .ref (b 35), .int 0, .int 0, .ref (b 38), .ref (b 39), .ref (b 40), .ref (b 41), .ref (b 42), .ref (b 43), .ref (b 44), .ref (b 45), .ref (b 46), .ref (b 47), .int 0, .int 0, .ref (b 50), .ref (b 51), .ref (b 52), .ref (b 53), .ref (b 54), .int (-1), .int 0, .ref (b 57), .ref (b 58), .ref (b 59), .ref (b 60), .ref (b 61), .ref (b 62), .int 0, .int 0, .int 0])), ((b 1), .inl ((cB 1), 160, .inl g_1))] H := hP
    have hD : va_D A [((b 0), .inr (11, [.int 0, .ref (b 1), .int (nI (k + 1)), .int 0, .int 0, .int 0, .ref (b 6), .ref (b 7), .ref (b 8), .ref (b 9), .ref (b 10), .ref (b 11), .ref (b 12), .int 0, .int 0, .ref (b 15), .ref (b 16), .ref (b 17), .ref (b 18), .ref (b 19), .int 0, .int 0, .ref (b 22), .ref (b 23), .ref (b 24), .int 0, .int 0, .ref (b 27), .int 0, .ref (b 29), .int (-1), .ref (b 31), .ref (b 32), .int (-1), .ref (b 34), .ref (b 35), .int 0, .int 0, .ref (b 38), .ref (b 39), .ref (b 40), .ref (b 41), .ref (b 42), .ref (b 43), .ref (b 44), .ref (b 45), .ref (b 46), .ref (b 47), .int 0, .int 0, .ref (b 50), .ref (b 51), .ref (b 52), .ref (b 53), .ref (b 54), .int (-1), .int 0, .ref (b 57), .ref (b 58), .ref (b 59), .ref (b 60), .ref (b 61), .ref (b 62), .int 0, .int 0, .int 0])), ((b 1), .inl ((cB 1), 160, .inl g_1))] := hD
    exact kk _ H locs hP hD hS

set_option maxHeartbeats 4000000 in
set_option maxRecDepth 100000 in
theorem c_X11_feed (l : Launch) (D : va_G) (b : Nat → Nat) (cB : Nat → ClassId) (f : Nat → Nat → Int32) (x y z v w : Int32) (zh : Nat) : Met l yX11_feed (.code yX11_feed cX11_feed 9 (some .int) :: gw) ({ frames := 1, cells := 0, slots := 0, locals := 40 }) (va_Pc [.ref (b 0), .int x, .int y, .int z, .int v, .int w] (pn D zh [((b 0), .inr (11, [.int 0, .ref (b 1), .int 0, .int 0, .int 0, .int 0, .ref (b 6), .ref (b 7), .ref (b 8), .ref (b 9), .ref (b 10), .ref (b 11), .ref (b 12), .int 0, .int 0, .ref (b 15), .ref (b 16), .ref (b 17), .ref (b 18), .ref (b 19), .int 0, .int 0, .ref (b 22), .ref (b 23), .ref (b 24), .int 0, .int 0, .ref (b 27), .int 0, .ref (b 29), .int (-1), .ref (b 31), .ref (b 32), .int (-1), .ref (b 34), .ref (b 35), .int 0, .int 0, .ref (b 38), .ref (b 39), .ref (b 40), .ref (b 41), .ref (b 42), .ref (b 43), .ref (b 44), .ref (b 45), .ref (b 46), .ref (b 47), .int 0, .int 0, .ref (b 50), .ref (b 51), .ref (b 52), .ref (b 53), .ref (b 54), .int (-1), .int 0, .ref (b 57), .ref (b 58), .ref (b 59), .ref (b 60), .ref (b 61), .ref (b 62), .int 0, .int 0, .int 0])), ((b 1), .inl ((cB 1), 160, .inl (f 1)))] [((cB 1), .int)])) (va_Qi (fun r (_ : Unit) => r = sp_feed x y z v w) (fun _ _ => True) (va_A [((b 0), .inr (11, [.int 0, .ref (b 1), .int 0, .int 0, .int 0, .int 0, .ref (b 6), .ref (b 7), .ref (b 8), .ref (b 9), .ref (b 10), .ref (b 11), .ref (b 12), .int 0, .int 0, .ref (b 15), .ref (b 16), .ref (b 17), .ref (b 18), .ref (b 19), .int 0, .int 0, .ref (b 22), .ref (b 23), .ref (b 24), .int 0, .int 0, .ref (b 27), .int 0, .ref (b 29), .int (-1), .ref (b 31), .ref (b 32), .int (-1), .ref (b 34), .ref (b 35), .int 0, .int 0, .ref (b 38), .ref (b 39), .ref (b 40), .ref (b 41), .ref (b 42), .ref (b 43), .ref (b 44), .ref (b 45), .ref (b 46), .ref (b 47), .int 0, .int 0, .ref (b 50), .ref (b 51), .ref (b 52), .ref (b 53), .ref (b 54), .int (-1), .int 0, .ref (b 57), .ref (b 58), .ref (b 59), .ref (b 60), .ref (b 61), .ref (b 62), .int 0, .int 0, .int 0])), ((b 1), .inl ((cB 1), 160, .inl (f 1)))] zh)) 0 0 (va_A [((b 0), .inr (11, [.int 0, .ref (b 1), .int 0, .int 0, .int 0, .int 0, .ref (b 6), .ref (b 7), .ref (b 8), .ref (b 9), .ref (b 10), .ref (b 11), .ref (b 12), .int 0, .int 0, .ref (b 15), .ref (b 16), .ref (b 17), .ref (b 18), .ref (b 19), .int 0, .int 0, .ref (b 22), .ref (b 23), .ref (b 24), .int 0, .int 0, .ref (b 27), .int 0, .ref (b 29), .int (-1), .ref (b 31), .ref (b 32), .int (-1), .ref (b 34), .ref (b 35), .int 0, .int 0, .ref (b 38), .ref (b 39), .ref (b 40), .ref (b 41), .ref (b 42), .ref (b 43), .ref (b 44), .ref (b 45), .ref (b 46), .ref (b 47), .int 0, .int 0, .ref (b 50), .ref (b 51), .ref (b 52), .ref (b 53), .ref (b 54), .int (-1), .int 0, .ref (b 57), .ref (b 58), .ref (b 59), .ref (b 60), .ref (b 61), .ref (b 62), .int 0, .int 0, .int 0])), ((b 1), .inl ((cB 1), 160, .inl (f 1)))] zh) := by
  refine Met.ofW (cc := cX11_feed) (maxL := 9) (ret := (some .int)) (by decide) rfl ?_
  intro p e s m args below meth c s₁ B hml hv
  obtain ⟨rfl, hsz, hP, hK, hD0⟩ := hv
  have hx := B.exec
  have hb := B.bytes
  have hr := B.returns
  have hts := atoms_spec (ws := .code yX11_feed cX11_feed 9 (some .int) :: gw) B.pre
  have htg := gw_tl hts
  have hown : s.vm.findClass RX11 = some m.cls := findClass_of_methodNamed B.named
  have hlocks := B.notSynchronized
  subst hsz
  have hD := hD0.self (sz := s.heap.size)
  generalize hAe : va_A [((b 0), .inr (11, [.int 0, .ref (b 1), .int 0, .int 0, .int 0, .int 0, .ref (b 6), .ref (b 7), .ref (b 8), .ref (b 9), .ref (b 10), .ref (b 11), .ref (b 12), .int 0, .int 0, .ref (b 15), .ref (b 16), .ref (b 17), .ref (b 18), .ref (b 19), .int 0, .int 0, .ref (b 22), .ref (b 23), .ref (b 24), .int 0, .int 0, .ref (b 27), .int 0, .ref (b 29), .int (-1), .ref (b 31), .ref (b 32), .int (-1), .ref (b 34), .ref (b 35), .int 0, .int 0, .ref (b 38), .ref (b 39), .ref (b 40), .ref (b 41), .ref (b 42), .ref (b 43), .ref (b 44), .ref (b 45), .ref (b 46), .ref (b 47), .int 0, .int 0, .ref (b 50), .ref (b 51), .ref (b 52), .ref (b 53), .ref (b 54), .int (-1), .int 0, .ref (b 57), .ref (b 58), .ref (b 59), .ref (b 60), .ref (b 61), .ref (b 62), .int 0, .int 0, .int 0])), ((b 1), .inl ((cB 1), 160, .inl (f 1)))] s.heap.size = A at hD ⊢
  have hA : ∀ q : Nat, s.heap.size ≤ q → A q := fun q h => by rw [← hAe]; exact Or.inr h
  have hS : va_S A s.heap s.heap [] := va_S.rf
  have hl := lv_entry ([.ref (b 0), .int x, .int y, .int z, .int v, .int w]) (n := 9) (Nat.le_of_ble_eq_true rfl)
  rw [lg_entry_eq]
  generalize (lg_sl ([.ref (b 0), .int x, .int y, .int z, .int v, .int w]) ++ List.replicate (9 - (lg_sl ([.ref (b 0), .int x, .int y, .int z, .int v, .int w])).length) Slot.unset).toArray = ls at hl ⊢
  have hl : lv_has ls 9 [(0, .ref (b 0)), (1, .int x), (2, .int y), (3, .int z), (4, .int v), (5, .int w)] := hl
  have hnx24 := nzN_le (us x 24 &&& 255)
  have hnx16 := nzN_le (us x 16 &&& 255)
  have hnx8 := nzN_le (us x 8 &&& 255)
  have hnx0 := nzN_le (us x 0 &&& 255)
  have hny24 := nzN_le (us y 24 &&& 255)
  have hny16 := nzN_le (us y 16 &&& 255)
  have hny8 := nzN_le (us y 8 &&& 255)
  have hny0 := nzN_le (us y 0 &&& 255)
  have hnz24 := nzN_le (us z 24 &&& 255)
  have hnz16 := nzN_le (us z 16 &&& 255)
  have hnz8 := nzN_le (us z 8 &&& 255)
  have hnz0 := nzN_le (us z 0 &&& 255)
  have hnv24 := nzN_le (us v 24 &&& 255)
  have hnv16 := nzN_le (us v 16 &&& 255)
  have hnv8 := nzN_le (us v 8 &&& 255)
  have hnv0 := nzN_le (us v 0 &&& 255)
  have hnw24 := nzN_le (us w 24 &&& 255)
  have hnw16 := nzN_le (us w 16 &&& 255)
  have hnw8 := nzN_le (us w 8 &&& 255)
  have hnw0 := nzN_le (us w 0 &&& 255)
  refine lv_iconst (v := 0) hx hb dX11_feed_0 (by decide) ?_
  refine lv_istore (lv' := [(6, .int 0), (0, .ref (b 0)), (1, .int x), (2, .int y), (3, .int z), (4, .int v), (5, .int w)]) hx hb dX11_feed_1 hl (by decide) rfl (fun ls hl => ?_)
  refine lv_iconst (v := 0) hx hb dX11_feed_3 (by decide) ?_
  refine lv_istore (lv' := [(7, .int 0), (6, .int 0), (0, .ref (b 0)), (1, .int x), (2, .int y), (3, .int z), (4, .int v), (5, .int w)]) hx hb dX11_feed_4 hl (by decide) rfl (fun ls hl => ?_)
  refine lv_iload hx hb dX11_feed_6 (lv_at hl 0 rfl) ?_
  refine lv_bipush (v := 20) hx hb dX11_feed_8 (by decide) ?_
  refine lv_icmp_ge (tgt := 44) hx hb dX11_feed_10 (by decide) (fun h9 => absurd h9 (by decide)) (fun _ => ?_)
  refine lv_iload hx hb dX11_feed_13 (lv_at hl 1 rfl) ?_
  refine lv_iload_n hx hb dX11_feed_15 rfl (lv_at hl 3 rfl) ?_
  refine lv_iload_n hx hb dX11_feed_16 rfl (lv_at hl 4 rfl) ?_
  refine lv_iload_n hx hb dX11_feed_17 rfl (lv_at hl 5 rfl) ?_
  refine lv_iload hx hb dX11_feed_18 (lv_at hl 6 rfl) ?_
  refine lv_iload hx hb dX11_feed_20 (lv_at hl 7 rfl) ?_
  refine lv_iload hx hb dX11_feed_22 (lv_at hl 0 rfl) ?_
  have hPc := hP.sub (ws' := []) [] rfl
  have hKc := hK.sub (tys' := []) [] rfl
  refine va_calli (va_runS (As := [.int x, .int y, .int z, .int v, .int w, .int 0]) (rest := [.int 0]) ⟨hx, hb, hml, hown, htg⟩ (c_X11_byteOf_0 l D x y z v w) (cS 6 htg mw_227 kv_X11_byteOf rfl rfl ⟨(Nat.le_of_ble_eq_true rfl), (Nat.le_of_ble_eq_true rfl)⟩) ⟨bl_r, us_r hPc hKc⟩ rfl rfl hl.1 rfl (lv_room (Nat.le_of_ble_eq_true rfl)) dX11_feed_24 ⟨(Nat.le_of_ble_eq_true rfl), (Nat.le_of_ble_eq_true rfl)⟩) hS (fun _ _ h9 => False.elim h9) (fun _ h9 => False.elim h9) (fun r_1 u t H locs ht hvm hw hB hz1 hk1 hS => ?_)
  have hP := ro_keep hP hk1
  subst hw
  refine lv_tern hx hb dX11_feed_27 dX11_feed_30 dX11_feed_31 dX11_feed_34 ?_
  refine lv_iadd hx hb dX11_feed_35 ?_
  refine lv_val (y := (nI (nzN (us x 24 &&& 255)))) (Int32.zero_add _) ?_
  refine lv_istore (lv' := [(6, .int (nI (nzN (us x 24 &&& 255)))), (7, .int 0), (0, .ref (b 0)), (1, .int x), (2, .int y), (3, .int z), (4, .int v), (5, .int w)]) hx hb dX11_feed_36 hl (by decide) rfl (fun ls hl => ?_)
  refine lv_iinc (v := 1) (lv' := [(7, .int 1), (6, .int (nI (nzN (us x 24 &&& 255)))), (0, .ref (b 0)), (1, .int x), (2, .int y), (3, .int z), (4, .int v), (5, .int w)]) hx hb dX11_feed_38 hl (k := 1) rfl (by decide) (by decide) rfl (fun ls hl => ?_)
  refine lv_goto (tgt := 6) hx hb dX11_feed_41 (by decide) ?_
  refine lv_iload hx hb dX11_feed_6 (lv_at hl 0 rfl) ?_
  refine lv_bipush (v := 20) hx hb dX11_feed_8 (by decide) ?_
  refine lv_icmp_ge (tgt := 44) hx hb dX11_feed_10 (by decide) (fun h9 => absurd h9 (by decide)) (fun _ => ?_)
  refine lv_iload hx hb dX11_feed_13 (lv_at hl 1 rfl) ?_
  refine lv_iload_n hx hb dX11_feed_15 rfl (lv_at hl 3 rfl) ?_
  refine lv_iload_n hx hb dX11_feed_16 rfl (lv_at hl 4 rfl) ?_
  refine lv_iload_n hx hb dX11_feed_17 rfl (lv_at hl 5 rfl) ?_
  refine lv_iload hx hb dX11_feed_18 (lv_at hl 6 rfl) ?_
  refine lv_iload hx hb dX11_feed_20 (lv_at hl 7 rfl) ?_
  refine lv_iload hx hb dX11_feed_22 (lv_at hl 0 rfl) ?_
  have hPc := hP.sub (ws' := []) [] rfl
  have hKc := hK.sub (tys' := []) [] rfl
  refine va_calli (va_runS (As := [.int x, .int y, .int z, .int v, .int w, .int 1]) (rest := [.int (nI (nzN (us x 24 &&& 255)))]) ⟨hx, hb, hml, hown, htg⟩ (c_X11_byteOf_1 l D x y z v w) (cS 6 htg mw_227 kv_X11_byteOf rfl rfl ⟨(Nat.le_of_ble_eq_true rfl), (Nat.le_of_ble_eq_true rfl)⟩) ⟨bl_r, us_r hPc hKc⟩ rfl rfl hl.1 rfl (lv_room (Nat.le_of_ble_eq_true rfl)) dX11_feed_24 ⟨(Nat.le_of_ble_eq_true rfl), (Nat.le_of_ble_eq_true rfl)⟩) hS (fun _ _ h9 => False.elim h9) (fun _ h9 => False.elim h9) (fun r_2 u t H locs ht hvm hw hB hz1 hk1 hS => ?_)
  have hP := ro_keep hP hk1
  subst hw
  refine lv_tern hx hb dX11_feed_27 dX11_feed_30 dX11_feed_31 dX11_feed_34 ?_
  refine lv_iadd hx hb dX11_feed_35 ?_
  refine lv_val (y := (nI (nzN (us x 24 &&& 255) + (nzN (us x 16 &&& 255))))) (nI_add _ _) ?_
  refine lv_istore (lv' := [(6, .int (nI (nzN (us x 24 &&& 255) + (nzN (us x 16 &&& 255))))), (7, .int 1), (0, .ref (b 0)), (1, .int x), (2, .int y), (3, .int z), (4, .int v), (5, .int w)]) hx hb dX11_feed_36 hl (by decide) rfl (fun ls hl => ?_)
  refine lv_iinc (v := 2) (lv' := [(7, .int 2), (6, .int (nI (nzN (us x 24 &&& 255) + (nzN (us x 16 &&& 255))))), (0, .ref (b 0)), (1, .int x), (2, .int y), (3, .int z), (4, .int v), (5, .int w)]) hx hb dX11_feed_38 hl (k := 1) rfl (by decide) (by decide) rfl (fun ls hl => ?_)
  refine lv_goto (tgt := 6) hx hb dX11_feed_41 (by decide) ?_
  refine lv_iload hx hb dX11_feed_6 (lv_at hl 0 rfl) ?_
  refine lv_bipush (v := 20) hx hb dX11_feed_8 (by decide) ?_
  refine lv_icmp_ge (tgt := 44) hx hb dX11_feed_10 (by decide) (fun h9 => absurd h9 (by decide)) (fun _ => ?_)
  refine lv_iload hx hb dX11_feed_13 (lv_at hl 1 rfl) ?_
  refine lv_iload_n hx hb dX11_feed_15 rfl (lv_at hl 3 rfl) ?_
  refine lv_iload_n hx hb dX11_feed_16 rfl (lv_at hl 4 rfl) ?_
  refine lv_iload_n hx hb dX11_feed_17 rfl (lv_at hl 5 rfl) ?_
  refine lv_iload hx hb dX11_feed_18 (lv_at hl 6 rfl) ?_
  refine lv_iload hx hb dX11_feed_20 (lv_at hl 7 rfl) ?_
  refine lv_iload hx hb dX11_feed_22 (lv_at hl 0 rfl) ?_
  have hPc := hP.sub (ws' := []) [] rfl
  have hKc := hK.sub (tys' := []) [] rfl
  refine va_calli (va_runS (As := [.int x, .int y, .int z, .int v, .int w, .int 2]) (rest := [.int (nI (nzN (us x 24 &&& 255) + (nzN (us x 16 &&& 255))))]) ⟨hx, hb, hml, hown, htg⟩ (c_X11_byteOf_2 l D x y z v w) (cS 6 htg mw_227 kv_X11_byteOf rfl rfl ⟨(Nat.le_of_ble_eq_true rfl), (Nat.le_of_ble_eq_true rfl)⟩) ⟨bl_r, us_r hPc hKc⟩ rfl rfl hl.1 rfl (lv_room (Nat.le_of_ble_eq_true rfl)) dX11_feed_24 ⟨(Nat.le_of_ble_eq_true rfl), (Nat.le_of_ble_eq_true rfl)⟩) hS (fun _ _ h9 => False.elim h9) (fun _ h9 => False.elim h9) (fun r_3 u t H locs ht hvm hw hB hz1 hk1 hS => ?_)
  have hP := ro_keep hP hk1
  subst hw
  refine lv_tern hx hb dX11_feed_27 dX11_feed_30 dX11_feed_31 dX11_feed_34 ?_
  refine lv_iadd hx hb dX11_feed_35 ?_
  refine lv_val (y := (nI (nzN (us x 24 &&& 255) + (nzN (us x 16 &&& 255)) + (nzN (us x 8 &&& 255))))) (nI_add _ _) ?_
  refine lv_istore (lv' := [(6, .int (nI (nzN (us x 24 &&& 255) + (nzN (us x 16 &&& 255)) + (nzN (us x 8 &&& 255))))), (7, .int 2), (0, .ref (b 0)), (1, .int x), (2, .int y), (3, .int z), (4, .int v), (5, .int w)]) hx hb dX11_feed_36 hl (by decide) rfl (fun ls hl => ?_)
  refine lv_iinc (v := 3) (lv' := [(7, .int 3), (6, .int (nI (nzN (us x 24 &&& 255) + (nzN (us x 16 &&& 255)) + (nzN (us x 8 &&& 255))))), (0, .ref (b 0)), (1, .int x), (2, .int y), (3, .int z), (4, .int v), (5, .int w)]) hx hb dX11_feed_38 hl (k := 1) rfl (by decide) (by decide) rfl (fun ls hl => ?_)
  refine lv_goto (tgt := 6) hx hb dX11_feed_41 (by decide) ?_
  refine lv_iload hx hb dX11_feed_6 (lv_at hl 0 rfl) ?_
  refine lv_bipush (v := 20) hx hb dX11_feed_8 (by decide) ?_
  refine lv_icmp_ge (tgt := 44) hx hb dX11_feed_10 (by decide) (fun h9 => absurd h9 (by decide)) (fun _ => ?_)
  refine lv_iload hx hb dX11_feed_13 (lv_at hl 1 rfl) ?_
  refine lv_iload_n hx hb dX11_feed_15 rfl (lv_at hl 3 rfl) ?_
  refine lv_iload_n hx hb dX11_feed_16 rfl (lv_at hl 4 rfl) ?_
  refine lv_iload_n hx hb dX11_feed_17 rfl (lv_at hl 5 rfl) ?_
  refine lv_iload hx hb dX11_feed_18 (lv_at hl 6 rfl) ?_
  refine lv_iload hx hb dX11_feed_20 (lv_at hl 7 rfl) ?_
  refine lv_iload hx hb dX11_feed_22 (lv_at hl 0 rfl) ?_
  have hPc := hP.sub (ws' := []) [] rfl
  have hKc := hK.sub (tys' := []) [] rfl
  refine va_calli (va_runS (As := [.int x, .int y, .int z, .int v, .int w, .int 3]) (rest := [.int (nI (nzN (us x 24 &&& 255) + (nzN (us x 16 &&& 255)) + (nzN (us x 8 &&& 255))))]) ⟨hx, hb, hml, hown, htg⟩ (c_X11_byteOf_3 l D x y z v w) (cS 6 htg mw_227 kv_X11_byteOf rfl rfl ⟨(Nat.le_of_ble_eq_true rfl), (Nat.le_of_ble_eq_true rfl)⟩) ⟨bl_r, us_r hPc hKc⟩ rfl rfl hl.1 rfl (lv_room (Nat.le_of_ble_eq_true rfl)) dX11_feed_24 ⟨(Nat.le_of_ble_eq_true rfl), (Nat.le_of_ble_eq_true rfl)⟩) hS (fun _ _ h9 => False.elim h9) (fun _ h9 => False.elim h9) (fun r_4 u t H locs ht hvm hw hB hz1 hk1 hS => ?_)
  have hP := ro_keep hP hk1
  subst hw
  refine lv_tern hx hb dX11_feed_27 dX11_feed_30 dX11_feed_31 dX11_feed_34 ?_
  refine lv_iadd hx hb dX11_feed_35 ?_
  refine lv_val (y := (nI (nzN (us x 24 &&& 255) + (nzN (us x 16 &&& 255)) + (nzN (us x 8 &&& 255)) + (nzN (us x 0 &&& 255))))) (nI_add _ _) ?_
  refine lv_istore (lv' := [(6, .int (nI (nzN (us x 24 &&& 255) + (nzN (us x 16 &&& 255)) + (nzN (us x 8 &&& 255)) + (nzN (us x 0 &&& 255))))), (7, .int 3), (0, .ref (b 0)), (1, .int x), (2, .int y), (3, .int z), (4, .int v), (5, .int w)]) hx hb dX11_feed_36 hl (by decide) rfl (fun ls hl => ?_)
  refine lv_iinc (v := 4) (lv' := [(7, .int 4), (6, .int (nI (nzN (us x 24 &&& 255) + (nzN (us x 16 &&& 255)) + (nzN (us x 8 &&& 255)) + (nzN (us x 0 &&& 255))))), (0, .ref (b 0)), (1, .int x), (2, .int y), (3, .int z), (4, .int v), (5, .int w)]) hx hb dX11_feed_38 hl (k := 1) rfl (by decide) (by decide) rfl (fun ls hl => ?_)
  refine lv_goto (tgt := 6) hx hb dX11_feed_41 (by decide) ?_
  refine lv_iload hx hb dX11_feed_6 (lv_at hl 0 rfl) ?_
  refine lv_bipush (v := 20) hx hb dX11_feed_8 (by decide) ?_
  refine lv_icmp_ge (tgt := 44) hx hb dX11_feed_10 (by decide) (fun h9 => absurd h9 (by decide)) (fun _ => ?_)
  refine lv_iload hx hb dX11_feed_13 (lv_at hl 1 rfl) ?_
  refine lv_iload_n hx hb dX11_feed_15 rfl (lv_at hl 3 rfl) ?_
  refine lv_iload_n hx hb dX11_feed_16 rfl (lv_at hl 4 rfl) ?_
  refine lv_iload_n hx hb dX11_feed_17 rfl (lv_at hl 5 rfl) ?_
  refine lv_iload hx hb dX11_feed_18 (lv_at hl 6 rfl) ?_
  refine lv_iload hx hb dX11_feed_20 (lv_at hl 7 rfl) ?_
  refine lv_iload hx hb dX11_feed_22 (lv_at hl 0 rfl) ?_
  have hPc := hP.sub (ws' := []) [] rfl
  have hKc := hK.sub (tys' := []) [] rfl
  refine va_calli (va_runS (As := [.int x, .int y, .int z, .int v, .int w, .int 4]) (rest := [.int (nI (nzN (us x 24 &&& 255) + (nzN (us x 16 &&& 255)) + (nzN (us x 8 &&& 255)) + (nzN (us x 0 &&& 255))))]) ⟨hx, hb, hml, hown, htg⟩ (c_X11_byteOf_4 l D x y z v w) (cS 6 htg mw_227 kv_X11_byteOf rfl rfl ⟨(Nat.le_of_ble_eq_true rfl), (Nat.le_of_ble_eq_true rfl)⟩) ⟨bl_r, us_r hPc hKc⟩ rfl rfl hl.1 rfl (lv_room (Nat.le_of_ble_eq_true rfl)) dX11_feed_24 ⟨(Nat.le_of_ble_eq_true rfl), (Nat.le_of_ble_eq_true rfl)⟩) hS (fun _ _ h9 => False.elim h9) (fun _ h9 => False.elim h9) (fun r_5 u t H locs ht hvm hw hB hz1 hk1 hS => ?_)
  have hP := ro_keep hP hk1
  subst hw
  refine lv_tern hx hb dX11_feed_27 dX11_feed_30 dX11_feed_31 dX11_feed_34 ?_
  refine lv_iadd hx hb dX11_feed_35 ?_
  refine lv_val (y := (nI (nzN (us x 24 &&& 255) + (nzN (us x 16 &&& 255)) + (nzN (us x 8 &&& 255)) + (nzN (us x 0 &&& 255)) + (nzN (us y 24 &&& 255))))) (nI_add _ _) ?_
  refine lv_istore (lv' := [(6, .int (nI (nzN (us x 24 &&& 255) + (nzN (us x 16 &&& 255)) + (nzN (us x 8 &&& 255)) + (nzN (us x 0 &&& 255)) + (nzN (us y 24 &&& 255))))), (7, .int 4), (0, .ref (b 0)), (1, .int x), (2, .int y), (3, .int z), (4, .int v), (5, .int w)]) hx hb dX11_feed_36 hl (by decide) rfl (fun ls hl => ?_)
  refine lv_iinc (v := 5) (lv' := [(7, .int 5), (6, .int (nI (nzN (us x 24 &&& 255) + (nzN (us x 16 &&& 255)) + (nzN (us x 8 &&& 255)) + (nzN (us x 0 &&& 255)) + (nzN (us y 24 &&& 255))))), (0, .ref (b 0)), (1, .int x), (2, .int y), (3, .int z), (4, .int v), (5, .int w)]) hx hb dX11_feed_38 hl (k := 1) rfl (by decide) (by decide) rfl (fun ls hl => ?_)
  refine lv_goto (tgt := 6) hx hb dX11_feed_41 (by decide) ?_
  refine lv_iload hx hb dX11_feed_6 (lv_at hl 0 rfl) ?_
  refine lv_bipush (v := 20) hx hb dX11_feed_8 (by decide) ?_
  refine lv_icmp_ge (tgt := 44) hx hb dX11_feed_10 (by decide) (fun h9 => absurd h9 (by decide)) (fun _ => ?_)
  refine lv_iload hx hb dX11_feed_13 (lv_at hl 1 rfl) ?_
  refine lv_iload_n hx hb dX11_feed_15 rfl (lv_at hl 3 rfl) ?_
  refine lv_iload_n hx hb dX11_feed_16 rfl (lv_at hl 4 rfl) ?_
  refine lv_iload_n hx hb dX11_feed_17 rfl (lv_at hl 5 rfl) ?_
  refine lv_iload hx hb dX11_feed_18 (lv_at hl 6 rfl) ?_
  refine lv_iload hx hb dX11_feed_20 (lv_at hl 7 rfl) ?_
  refine lv_iload hx hb dX11_feed_22 (lv_at hl 0 rfl) ?_
  have hPc := hP.sub (ws' := []) [] rfl
  have hKc := hK.sub (tys' := []) [] rfl
  refine va_calli (va_runS (As := [.int x, .int y, .int z, .int v, .int w, .int 5]) (rest := [.int (nI (nzN (us x 24 &&& 255) + (nzN (us x 16 &&& 255)) + (nzN (us x 8 &&& 255)) + (nzN (us x 0 &&& 255)) + (nzN (us y 24 &&& 255))))]) ⟨hx, hb, hml, hown, htg⟩ (c_X11_byteOf_5 l D x y z v w) (cS 6 htg mw_227 kv_X11_byteOf rfl rfl ⟨(Nat.le_of_ble_eq_true rfl), (Nat.le_of_ble_eq_true rfl)⟩) ⟨bl_r, us_r hPc hKc⟩ rfl rfl hl.1 rfl (lv_room (Nat.le_of_ble_eq_true rfl)) dX11_feed_24 ⟨(Nat.le_of_ble_eq_true rfl), (Nat.le_of_ble_eq_true rfl)⟩) hS (fun _ _ h9 => False.elim h9) (fun _ h9 => False.elim h9) (fun r_6 u t H locs ht hvm hw hB hz1 hk1 hS => ?_)
  have hP := ro_keep hP hk1
  subst hw
  refine lv_tern hx hb dX11_feed_27 dX11_feed_30 dX11_feed_31 dX11_feed_34 ?_
  refine lv_iadd hx hb dX11_feed_35 ?_
  refine lv_val (y := (nI (nzN (us x 24 &&& 255) + (nzN (us x 16 &&& 255)) + (nzN (us x 8 &&& 255)) + (nzN (us x 0 &&& 255)) + (nzN (us y 24 &&& 255)) + (nzN (us y 16 &&& 255))))) (nI_add _ _) ?_
  refine lv_istore (lv' := [(6, .int (nI (nzN (us x 24 &&& 255) + (nzN (us x 16 &&& 255)) + (nzN (us x 8 &&& 255)) + (nzN (us x 0 &&& 255)) + (nzN (us y 24 &&& 255)) + (nzN (us y 16 &&& 255))))), (7, .int 5), (0, .ref (b 0)), (1, .int x), (2, .int y), (3, .int z), (4, .int v), (5, .int w)]) hx hb dX11_feed_36 hl (by decide) rfl (fun ls hl => ?_)
  refine lv_iinc (v := 6) (lv' := [(7, .int 6), (6, .int (nI (nzN (us x 24 &&& 255) + (nzN (us x 16 &&& 255)) + (nzN (us x 8 &&& 255)) + (nzN (us x 0 &&& 255)) + (nzN (us y 24 &&& 255)) + (nzN (us y 16 &&& 255))))), (0, .ref (b 0)), (1, .int x), (2, .int y), (3, .int z), (4, .int v), (5, .int w)]) hx hb dX11_feed_38 hl (k := 1) rfl (by decide) (by decide) rfl (fun ls hl => ?_)
  refine lv_goto (tgt := 6) hx hb dX11_feed_41 (by decide) ?_
  refine lv_iload hx hb dX11_feed_6 (lv_at hl 0 rfl) ?_
  refine lv_bipush (v := 20) hx hb dX11_feed_8 (by decide) ?_
  refine lv_icmp_ge (tgt := 44) hx hb dX11_feed_10 (by decide) (fun h9 => absurd h9 (by decide)) (fun _ => ?_)
  refine lv_iload hx hb dX11_feed_13 (lv_at hl 1 rfl) ?_
  refine lv_iload_n hx hb dX11_feed_15 rfl (lv_at hl 3 rfl) ?_
  refine lv_iload_n hx hb dX11_feed_16 rfl (lv_at hl 4 rfl) ?_
  refine lv_iload_n hx hb dX11_feed_17 rfl (lv_at hl 5 rfl) ?_
  refine lv_iload hx hb dX11_feed_18 (lv_at hl 6 rfl) ?_
  refine lv_iload hx hb dX11_feed_20 (lv_at hl 7 rfl) ?_
  refine lv_iload hx hb dX11_feed_22 (lv_at hl 0 rfl) ?_
  have hPc := hP.sub (ws' := []) [] rfl
  have hKc := hK.sub (tys' := []) [] rfl
  refine va_calli (va_runS (As := [.int x, .int y, .int z, .int v, .int w, .int 6]) (rest := [.int (nI (nzN (us x 24 &&& 255) + (nzN (us x 16 &&& 255)) + (nzN (us x 8 &&& 255)) + (nzN (us x 0 &&& 255)) + (nzN (us y 24 &&& 255)) + (nzN (us y 16 &&& 255))))]) ⟨hx, hb, hml, hown, htg⟩ (c_X11_byteOf_6 l D x y z v w) (cS 6 htg mw_227 kv_X11_byteOf rfl rfl ⟨(Nat.le_of_ble_eq_true rfl), (Nat.le_of_ble_eq_true rfl)⟩) ⟨bl_r, us_r hPc hKc⟩ rfl rfl hl.1 rfl (lv_room (Nat.le_of_ble_eq_true rfl)) dX11_feed_24 ⟨(Nat.le_of_ble_eq_true rfl), (Nat.le_of_ble_eq_true rfl)⟩) hS (fun _ _ h9 => False.elim h9) (fun _ h9 => False.elim h9) (fun r_7 u t H locs ht hvm hw hB hz1 hk1 hS => ?_)
  have hP := ro_keep hP hk1
  subst hw
  refine lv_tern hx hb dX11_feed_27 dX11_feed_30 dX11_feed_31 dX11_feed_34 ?_
  refine lv_iadd hx hb dX11_feed_35 ?_
  refine lv_val (y := (nI (nzN (us x 24 &&& 255) + (nzN (us x 16 &&& 255)) + (nzN (us x 8 &&& 255)) + (nzN (us x 0 &&& 255)) + (nzN (us y 24 &&& 255)) + (nzN (us y 16 &&& 255)) + (nzN (us y 8 &&& 255))))) (nI_add _ _) ?_
  refine lv_istore (lv' := [(6, .int (nI (nzN (us x 24 &&& 255) + (nzN (us x 16 &&& 255)) + (nzN (us x 8 &&& 255)) + (nzN (us x 0 &&& 255)) + (nzN (us y 24 &&& 255)) + (nzN (us y 16 &&& 255)) + (nzN (us y 8 &&& 255))))), (7, .int 6), (0, .ref (b 0)), (1, .int x), (2, .int y), (3, .int z), (4, .int v), (5, .int w)]) hx hb dX11_feed_36 hl (by decide) rfl (fun ls hl => ?_)
  refine lv_iinc (v := 7) (lv' := [(7, .int 7), (6, .int (nI (nzN (us x 24 &&& 255) + (nzN (us x 16 &&& 255)) + (nzN (us x 8 &&& 255)) + (nzN (us x 0 &&& 255)) + (nzN (us y 24 &&& 255)) + (nzN (us y 16 &&& 255)) + (nzN (us y 8 &&& 255))))), (0, .ref (b 0)), (1, .int x), (2, .int y), (3, .int z), (4, .int v), (5, .int w)]) hx hb dX11_feed_38 hl (k := 1) rfl (by decide) (by decide) rfl (fun ls hl => ?_)
  refine lv_goto (tgt := 6) hx hb dX11_feed_41 (by decide) ?_
  refine lv_iload hx hb dX11_feed_6 (lv_at hl 0 rfl) ?_
  refine lv_bipush (v := 20) hx hb dX11_feed_8 (by decide) ?_
  refine lv_icmp_ge (tgt := 44) hx hb dX11_feed_10 (by decide) (fun h9 => absurd h9 (by decide)) (fun _ => ?_)
  refine lv_iload hx hb dX11_feed_13 (lv_at hl 1 rfl) ?_
  refine lv_iload_n hx hb dX11_feed_15 rfl (lv_at hl 3 rfl) ?_
  refine lv_iload_n hx hb dX11_feed_16 rfl (lv_at hl 4 rfl) ?_
  refine lv_iload_n hx hb dX11_feed_17 rfl (lv_at hl 5 rfl) ?_
  refine lv_iload hx hb dX11_feed_18 (lv_at hl 6 rfl) ?_
  refine lv_iload hx hb dX11_feed_20 (lv_at hl 7 rfl) ?_
  refine lv_iload hx hb dX11_feed_22 (lv_at hl 0 rfl) ?_
  have hPc := hP.sub (ws' := []) [] rfl
  have hKc := hK.sub (tys' := []) [] rfl
  refine va_calli (va_runS (As := [.int x, .int y, .int z, .int v, .int w, .int 7]) (rest := [.int (nI (nzN (us x 24 &&& 255) + (nzN (us x 16 &&& 255)) + (nzN (us x 8 &&& 255)) + (nzN (us x 0 &&& 255)) + (nzN (us y 24 &&& 255)) + (nzN (us y 16 &&& 255)) + (nzN (us y 8 &&& 255))))]) ⟨hx, hb, hml, hown, htg⟩ (c_X11_byteOf_7 l D x y z v w) (cS 6 htg mw_227 kv_X11_byteOf rfl rfl ⟨(Nat.le_of_ble_eq_true rfl), (Nat.le_of_ble_eq_true rfl)⟩) ⟨bl_r, us_r hPc hKc⟩ rfl rfl hl.1 rfl (lv_room (Nat.le_of_ble_eq_true rfl)) dX11_feed_24 ⟨(Nat.le_of_ble_eq_true rfl), (Nat.le_of_ble_eq_true rfl)⟩) hS (fun _ _ h9 => False.elim h9) (fun _ h9 => False.elim h9) (fun r_8 u t H locs ht hvm hw hB hz1 hk1 hS => ?_)
  have hP := ro_keep hP hk1
  subst hw
  refine lv_tern hx hb dX11_feed_27 dX11_feed_30 dX11_feed_31 dX11_feed_34 ?_
  refine lv_iadd hx hb dX11_feed_35 ?_
  refine lv_val (y := (nI (nzN (us x 24 &&& 255) + (nzN (us x 16 &&& 255)) + (nzN (us x 8 &&& 255)) + (nzN (us x 0 &&& 255)) + (nzN (us y 24 &&& 255)) + (nzN (us y 16 &&& 255)) + (nzN (us y 8 &&& 255)) + (nzN (us y 0 &&& 255))))) (nI_add _ _) ?_
  refine lv_istore (lv' := [(6, .int (nI (nzN (us x 24 &&& 255) + (nzN (us x 16 &&& 255)) + (nzN (us x 8 &&& 255)) + (nzN (us x 0 &&& 255)) + (nzN (us y 24 &&& 255)) + (nzN (us y 16 &&& 255)) + (nzN (us y 8 &&& 255)) + (nzN (us y 0 &&& 255))))), (7, .int 7), (0, .ref (b 0)), (1, .int x), (2, .int y), (3, .int z), (4, .int v), (5, .int w)]) hx hb dX11_feed_36 hl (by decide) rfl (fun ls hl => ?_)
  refine lv_iinc (v := 8) (lv' := [(7, .int 8), (6, .int (nI (nzN (us x 24 &&& 255) + (nzN (us x 16 &&& 255)) + (nzN (us x 8 &&& 255)) + (nzN (us x 0 &&& 255)) + (nzN (us y 24 &&& 255)) + (nzN (us y 16 &&& 255)) + (nzN (us y 8 &&& 255)) + (nzN (us y 0 &&& 255))))), (0, .ref (b 0)), (1, .int x), (2, .int y), (3, .int z), (4, .int v), (5, .int w)]) hx hb dX11_feed_38 hl (k := 1) rfl (by decide) (by decide) rfl (fun ls hl => ?_)
  refine lv_goto (tgt := 6) hx hb dX11_feed_41 (by decide) ?_
  refine lv_iload hx hb dX11_feed_6 (lv_at hl 0 rfl) ?_
  refine lv_bipush (v := 20) hx hb dX11_feed_8 (by decide) ?_
  refine lv_icmp_ge (tgt := 44) hx hb dX11_feed_10 (by decide) (fun h9 => absurd h9 (by decide)) (fun _ => ?_)
  refine lv_iload hx hb dX11_feed_13 (lv_at hl 1 rfl) ?_
  refine lv_iload_n hx hb dX11_feed_15 rfl (lv_at hl 3 rfl) ?_
  refine lv_iload_n hx hb dX11_feed_16 rfl (lv_at hl 4 rfl) ?_
  refine lv_iload_n hx hb dX11_feed_17 rfl (lv_at hl 5 rfl) ?_
  refine lv_iload hx hb dX11_feed_18 (lv_at hl 6 rfl) ?_
  refine lv_iload hx hb dX11_feed_20 (lv_at hl 7 rfl) ?_
  refine lv_iload hx hb dX11_feed_22 (lv_at hl 0 rfl) ?_
  have hPc := hP.sub (ws' := []) [] rfl
  have hKc := hK.sub (tys' := []) [] rfl
  refine va_calli (va_runS (As := [.int x, .int y, .int z, .int v, .int w, .int 8]) (rest := [.int (nI (nzN (us x 24 &&& 255) + (nzN (us x 16 &&& 255)) + (nzN (us x 8 &&& 255)) + (nzN (us x 0 &&& 255)) + (nzN (us y 24 &&& 255)) + (nzN (us y 16 &&& 255)) + (nzN (us y 8 &&& 255)) + (nzN (us y 0 &&& 255))))]) ⟨hx, hb, hml, hown, htg⟩ (c_X11_byteOf_8 l D x y z v w) (cS 6 htg mw_227 kv_X11_byteOf rfl rfl ⟨(Nat.le_of_ble_eq_true rfl), (Nat.le_of_ble_eq_true rfl)⟩) ⟨bl_r, us_r hPc hKc⟩ rfl rfl hl.1 rfl (lv_room (Nat.le_of_ble_eq_true rfl)) dX11_feed_24 ⟨(Nat.le_of_ble_eq_true rfl), (Nat.le_of_ble_eq_true rfl)⟩) hS (fun _ _ h9 => False.elim h9) (fun _ h9 => False.elim h9) (fun r_9 u t H locs ht hvm hw hB hz1 hk1 hS => ?_)
  have hP := ro_keep hP hk1
  subst hw
  refine lv_tern hx hb dX11_feed_27 dX11_feed_30 dX11_feed_31 dX11_feed_34 ?_
  refine lv_iadd hx hb dX11_feed_35 ?_
  refine lv_val (y := (nI (nzN (us x 24 &&& 255) + (nzN (us x 16 &&& 255)) + (nzN (us x 8 &&& 255)) + (nzN (us x 0 &&& 255)) + (nzN (us y 24 &&& 255)) + (nzN (us y 16 &&& 255)) + (nzN (us y 8 &&& 255)) + (nzN (us y 0 &&& 255)) + (nzN (us z 24 &&& 255))))) (nI_add _ _) ?_
  refine lv_istore (lv' := [(6, .int (nI (nzN (us x 24 &&& 255) + (nzN (us x 16 &&& 255)) + (nzN (us x 8 &&& 255)) + (nzN (us x 0 &&& 255)) + (nzN (us y 24 &&& 255)) + (nzN (us y 16 &&& 255)) + (nzN (us y 8 &&& 255)) + (nzN (us y 0 &&& 255)) + (nzN (us z 24 &&& 255))))), (7, .int 8), (0, .ref (b 0)), (1, .int x), (2, .int y), (3, .int z), (4, .int v), (5, .int w)]) hx hb dX11_feed_36 hl (by decide) rfl (fun ls hl => ?_)
  refine lv_iinc (v := 9) (lv' := [(7, .int 9), (6, .int (nI (nzN (us x 24 &&& 255) + (nzN (us x 16 &&& 255)) + (nzN (us x 8 &&& 255)) + (nzN (us x 0 &&& 255)) + (nzN (us y 24 &&& 255)) + (nzN (us y 16 &&& 255)) + (nzN (us y 8 &&& 255)) + (nzN (us y 0 &&& 255)) + (nzN (us z 24 &&& 255))))), (0, .ref (b 0)), (1, .int x), (2, .int y), (3, .int z), (4, .int v), (5, .int w)]) hx hb dX11_feed_38 hl (k := 1) rfl (by decide) (by decide) rfl (fun ls hl => ?_)
  refine lv_goto (tgt := 6) hx hb dX11_feed_41 (by decide) ?_
  refine lv_iload hx hb dX11_feed_6 (lv_at hl 0 rfl) ?_
  refine lv_bipush (v := 20) hx hb dX11_feed_8 (by decide) ?_
  refine lv_icmp_ge (tgt := 44) hx hb dX11_feed_10 (by decide) (fun h9 => absurd h9 (by decide)) (fun _ => ?_)
  refine lv_iload hx hb dX11_feed_13 (lv_at hl 1 rfl) ?_
  refine lv_iload_n hx hb dX11_feed_15 rfl (lv_at hl 3 rfl) ?_
  refine lv_iload_n hx hb dX11_feed_16 rfl (lv_at hl 4 rfl) ?_
  refine lv_iload_n hx hb dX11_feed_17 rfl (lv_at hl 5 rfl) ?_
  refine lv_iload hx hb dX11_feed_18 (lv_at hl 6 rfl) ?_
  refine lv_iload hx hb dX11_feed_20 (lv_at hl 7 rfl) ?_
  refine lv_iload hx hb dX11_feed_22 (lv_at hl 0 rfl) ?_
  have hPc := hP.sub (ws' := []) [] rfl
  have hKc := hK.sub (tys' := []) [] rfl
  refine va_calli (va_runS (As := [.int x, .int y, .int z, .int v, .int w, .int 9]) (rest := [.int (nI (nzN (us x 24 &&& 255) + (nzN (us x 16 &&& 255)) + (nzN (us x 8 &&& 255)) + (nzN (us x 0 &&& 255)) + (nzN (us y 24 &&& 255)) + (nzN (us y 16 &&& 255)) + (nzN (us y 8 &&& 255)) + (nzN (us y 0 &&& 255)) + (nzN (us z 24 &&& 255))))]) ⟨hx, hb, hml, hown, htg⟩ (c_X11_byteOf_9 l D x y z v w) (cS 6 htg mw_227 kv_X11_byteOf rfl rfl ⟨(Nat.le_of_ble_eq_true rfl), (Nat.le_of_ble_eq_true rfl)⟩) ⟨bl_r, us_r hPc hKc⟩ rfl rfl hl.1 rfl (lv_room (Nat.le_of_ble_eq_true rfl)) dX11_feed_24 ⟨(Nat.le_of_ble_eq_true rfl), (Nat.le_of_ble_eq_true rfl)⟩) hS (fun _ _ h9 => False.elim h9) (fun _ h9 => False.elim h9) (fun r_10 u t H locs ht hvm hw hB hz1 hk1 hS => ?_)
  have hP := ro_keep hP hk1
  subst hw
  refine lv_tern hx hb dX11_feed_27 dX11_feed_30 dX11_feed_31 dX11_feed_34 ?_
  refine lv_iadd hx hb dX11_feed_35 ?_
  refine lv_val (y := (nI (nzN (us x 24 &&& 255) + (nzN (us x 16 &&& 255)) + (nzN (us x 8 &&& 255)) + (nzN (us x 0 &&& 255)) + (nzN (us y 24 &&& 255)) + (nzN (us y 16 &&& 255)) + (nzN (us y 8 &&& 255)) + (nzN (us y 0 &&& 255)) + (nzN (us z 24 &&& 255)) + (nzN (us z 16 &&& 255))))) (nI_add _ _) ?_
  refine lv_istore (lv' := [(6, .int (nI (nzN (us x 24 &&& 255) + (nzN (us x 16 &&& 255)) + (nzN (us x 8 &&& 255)) + (nzN (us x 0 &&& 255)) + (nzN (us y 24 &&& 255)) + (nzN (us y 16 &&& 255)) + (nzN (us y 8 &&& 255)) + (nzN (us y 0 &&& 255)) + (nzN (us z 24 &&& 255)) + (nzN (us z 16 &&& 255))))), (7, .int 9), (0, .ref (b 0)), (1, .int x), (2, .int y), (3, .int z), (4, .int v), (5, .int w)]) hx hb dX11_feed_36 hl (by decide) rfl (fun ls hl => ?_)
  refine lv_iinc (v := 10) (lv' := [(7, .int 10), (6, .int (nI (nzN (us x 24 &&& 255) + (nzN (us x 16 &&& 255)) + (nzN (us x 8 &&& 255)) + (nzN (us x 0 &&& 255)) + (nzN (us y 24 &&& 255)) + (nzN (us y 16 &&& 255)) + (nzN (us y 8 &&& 255)) + (nzN (us y 0 &&& 255)) + (nzN (us z 24 &&& 255)) + (nzN (us z 16 &&& 255))))), (0, .ref (b 0)), (1, .int x), (2, .int y), (3, .int z), (4, .int v), (5, .int w)]) hx hb dX11_feed_38 hl (k := 1) rfl (by decide) (by decide) rfl (fun ls hl => ?_)
  refine lv_goto (tgt := 6) hx hb dX11_feed_41 (by decide) ?_
  refine lv_iload hx hb dX11_feed_6 (lv_at hl 0 rfl) ?_
  refine lv_bipush (v := 20) hx hb dX11_feed_8 (by decide) ?_
  refine lv_icmp_ge (tgt := 44) hx hb dX11_feed_10 (by decide) (fun h9 => absurd h9 (by decide)) (fun _ => ?_)
  refine lv_iload hx hb dX11_feed_13 (lv_at hl 1 rfl) ?_
  refine lv_iload_n hx hb dX11_feed_15 rfl (lv_at hl 3 rfl) ?_
  refine lv_iload_n hx hb dX11_feed_16 rfl (lv_at hl 4 rfl) ?_
  refine lv_iload_n hx hb dX11_feed_17 rfl (lv_at hl 5 rfl) ?_
  refine lv_iload hx hb dX11_feed_18 (lv_at hl 6 rfl) ?_
  refine lv_iload hx hb dX11_feed_20 (lv_at hl 7 rfl) ?_
  refine lv_iload hx hb dX11_feed_22 (lv_at hl 0 rfl) ?_
  have hPc := hP.sub (ws' := []) [] rfl
  have hKc := hK.sub (tys' := []) [] rfl
  refine va_calli (va_runS (As := [.int x, .int y, .int z, .int v, .int w, .int 10]) (rest := [.int (nI (nzN (us x 24 &&& 255) + (nzN (us x 16 &&& 255)) + (nzN (us x 8 &&& 255)) + (nzN (us x 0 &&& 255)) + (nzN (us y 24 &&& 255)) + (nzN (us y 16 &&& 255)) + (nzN (us y 8 &&& 255)) + (nzN (us y 0 &&& 255)) + (nzN (us z 24 &&& 255)) + (nzN (us z 16 &&& 255))))]) ⟨hx, hb, hml, hown, htg⟩ (c_X11_byteOf_10 l D x y z v w) (cS 6 htg mw_227 kv_X11_byteOf rfl rfl ⟨(Nat.le_of_ble_eq_true rfl), (Nat.le_of_ble_eq_true rfl)⟩) ⟨bl_r, us_r hPc hKc⟩ rfl rfl hl.1 rfl (lv_room (Nat.le_of_ble_eq_true rfl)) dX11_feed_24 ⟨(Nat.le_of_ble_eq_true rfl), (Nat.le_of_ble_eq_true rfl)⟩) hS (fun _ _ h9 => False.elim h9) (fun _ h9 => False.elim h9) (fun r_11 u t H locs ht hvm hw hB hz1 hk1 hS => ?_)
  have hP := ro_keep hP hk1
  subst hw
  refine lv_tern hx hb dX11_feed_27 dX11_feed_30 dX11_feed_31 dX11_feed_34 ?_
  refine lv_iadd hx hb dX11_feed_35 ?_
  refine lv_val (y := (nI (nzN (us x 24 &&& 255) + (nzN (us x 16 &&& 255)) + (nzN (us x 8 &&& 255)) + (nzN (us x 0 &&& 255)) + (nzN (us y 24 &&& 255)) + (nzN (us y 16 &&& 255)) + (nzN (us y 8 &&& 255)) + (nzN (us y 0 &&& 255)) + (nzN (us z 24 &&& 255)) + (nzN (us z 16 &&& 255)) + (nzN (us z 8 &&& 255))))) (nI_add _ _) ?_
  refine lv_istore (lv' := [(6, .int (nI (nzN (us x 24 &&& 255) + (nzN (us x 16 &&& 255)) + (nzN (us x 8 &&& 255)) + (nzN (us x 0 &&& 255)) + (nzN (us y 24 &&& 255)) + (nzN (us y 16 &&& 255)) + (nzN (us y 8 &&& 255)) + (nzN (us y 0 &&& 255)) + (nzN (us z 24 &&& 255)) + (nzN (us z 16 &&& 255)) + (nzN (us z 8 &&& 255))))), (7, .int 10), (0, .ref (b 0)), (1, .int x), (2, .int y), (3, .int z), (4, .int v), (5, .int w)]) hx hb dX11_feed_36 hl (by decide) rfl (fun ls hl => ?_)
  refine lv_iinc (v := 11) (lv' := [(7, .int 11), (6, .int (nI (nzN (us x 24 &&& 255) + (nzN (us x 16 &&& 255)) + (nzN (us x 8 &&& 255)) + (nzN (us x 0 &&& 255)) + (nzN (us y 24 &&& 255)) + (nzN (us y 16 &&& 255)) + (nzN (us y 8 &&& 255)) + (nzN (us y 0 &&& 255)) + (nzN (us z 24 &&& 255)) + (nzN (us z 16 &&& 255)) + (nzN (us z 8 &&& 255))))), (0, .ref (b 0)), (1, .int x), (2, .int y), (3, .int z), (4, .int v), (5, .int w)]) hx hb dX11_feed_38 hl (k := 1) rfl (by decide) (by decide) rfl (fun ls hl => ?_)
  refine lv_goto (tgt := 6) hx hb dX11_feed_41 (by decide) ?_
  refine lv_iload hx hb dX11_feed_6 (lv_at hl 0 rfl) ?_
  refine lv_bipush (v := 20) hx hb dX11_feed_8 (by decide) ?_
  refine lv_icmp_ge (tgt := 44) hx hb dX11_feed_10 (by decide) (fun h9 => absurd h9 (by decide)) (fun _ => ?_)
  refine lv_iload hx hb dX11_feed_13 (lv_at hl 1 rfl) ?_
  refine lv_iload_n hx hb dX11_feed_15 rfl (lv_at hl 3 rfl) ?_
  refine lv_iload_n hx hb dX11_feed_16 rfl (lv_at hl 4 rfl) ?_
  refine lv_iload_n hx hb dX11_feed_17 rfl (lv_at hl 5 rfl) ?_
  refine lv_iload hx hb dX11_feed_18 (lv_at hl 6 rfl) ?_
  refine lv_iload hx hb dX11_feed_20 (lv_at hl 7 rfl) ?_
  refine lv_iload hx hb dX11_feed_22 (lv_at hl 0 rfl) ?_
  have hPc := hP.sub (ws' := []) [] rfl
  have hKc := hK.sub (tys' := []) [] rfl
  refine va_calli (va_runS (As := [.int x, .int y, .int z, .int v, .int w, .int 11]) (rest := [.int (nI (nzN (us x 24 &&& 255) + (nzN (us x 16 &&& 255)) + (nzN (us x 8 &&& 255)) + (nzN (us x 0 &&& 255)) + (nzN (us y 24 &&& 255)) + (nzN (us y 16 &&& 255)) + (nzN (us y 8 &&& 255)) + (nzN (us y 0 &&& 255)) + (nzN (us z 24 &&& 255)) + (nzN (us z 16 &&& 255)) + (nzN (us z 8 &&& 255))))]) ⟨hx, hb, hml, hown, htg⟩ (c_X11_byteOf_11 l D x y z v w) (cS 6 htg mw_227 kv_X11_byteOf rfl rfl ⟨(Nat.le_of_ble_eq_true rfl), (Nat.le_of_ble_eq_true rfl)⟩) ⟨bl_r, us_r hPc hKc⟩ rfl rfl hl.1 rfl (lv_room (Nat.le_of_ble_eq_true rfl)) dX11_feed_24 ⟨(Nat.le_of_ble_eq_true rfl), (Nat.le_of_ble_eq_true rfl)⟩) hS (fun _ _ h9 => False.elim h9) (fun _ h9 => False.elim h9) (fun r_12 u t H locs ht hvm hw hB hz1 hk1 hS => ?_)
  have hP := ro_keep hP hk1
  subst hw
  refine lv_tern hx hb dX11_feed_27 dX11_feed_30 dX11_feed_31 dX11_feed_34 ?_
  refine lv_iadd hx hb dX11_feed_35 ?_
  refine lv_val (y := (nI (nzN (us x 24 &&& 255) + (nzN (us x 16 &&& 255)) + (nzN (us x 8 &&& 255)) + (nzN (us x 0 &&& 255)) + (nzN (us y 24 &&& 255)) + (nzN (us y 16 &&& 255)) + (nzN (us y 8 &&& 255)) + (nzN (us y 0 &&& 255)) + (nzN (us z 24 &&& 255)) + (nzN (us z 16 &&& 255)) + (nzN (us z 8 &&& 255)) + (nzN (us z 0 &&& 255))))) (nI_add _ _) ?_
  refine lv_istore (lv' := [(6, .int (nI (nzN (us x 24 &&& 255) + (nzN (us x 16 &&& 255)) + (nzN (us x 8 &&& 255)) + (nzN (us x 0 &&& 255)) + (nzN (us y 24 &&& 255)) + (nzN (us y 16 &&& 255)) + (nzN (us y 8 &&& 255)) + (nzN (us y 0 &&& 255)) + (nzN (us z 24 &&& 255)) + (nzN (us z 16 &&& 255)) + (nzN (us z 8 &&& 255)) + (nzN (us z 0 &&& 255))))), (7, .int 11), (0, .ref (b 0)), (1, .int x), (2, .int y), (3, .int z), (4, .int v), (5, .int w)]) hx hb dX11_feed_36 hl (by decide) rfl (fun ls hl => ?_)
  refine lv_iinc (v := 12) (lv' := [(7, .int 12), (6, .int (nI (nzN (us x 24 &&& 255) + (nzN (us x 16 &&& 255)) + (nzN (us x 8 &&& 255)) + (nzN (us x 0 &&& 255)) + (nzN (us y 24 &&& 255)) + (nzN (us y 16 &&& 255)) + (nzN (us y 8 &&& 255)) + (nzN (us y 0 &&& 255)) + (nzN (us z 24 &&& 255)) + (nzN (us z 16 &&& 255)) + (nzN (us z 8 &&& 255)) + (nzN (us z 0 &&& 255))))), (0, .ref (b 0)), (1, .int x), (2, .int y), (3, .int z), (4, .int v), (5, .int w)]) hx hb dX11_feed_38 hl (k := 1) rfl (by decide) (by decide) rfl (fun ls hl => ?_)
  refine lv_goto (tgt := 6) hx hb dX11_feed_41 (by decide) ?_
  refine lv_iload hx hb dX11_feed_6 (lv_at hl 0 rfl) ?_
  refine lv_bipush (v := 20) hx hb dX11_feed_8 (by decide) ?_
  refine lv_icmp_ge (tgt := 44) hx hb dX11_feed_10 (by decide) (fun h9 => absurd h9 (by decide)) (fun _ => ?_)
  refine lv_iload hx hb dX11_feed_13 (lv_at hl 1 rfl) ?_
  refine lv_iload_n hx hb dX11_feed_15 rfl (lv_at hl 3 rfl) ?_
  refine lv_iload_n hx hb dX11_feed_16 rfl (lv_at hl 4 rfl) ?_
  refine lv_iload_n hx hb dX11_feed_17 rfl (lv_at hl 5 rfl) ?_
  refine lv_iload hx hb dX11_feed_18 (lv_at hl 6 rfl) ?_
  refine lv_iload hx hb dX11_feed_20 (lv_at hl 7 rfl) ?_
  refine lv_iload hx hb dX11_feed_22 (lv_at hl 0 rfl) ?_
  have hPc := hP.sub (ws' := []) [] rfl
  have hKc := hK.sub (tys' := []) [] rfl
  refine va_calli (va_runS (As := [.int x, .int y, .int z, .int v, .int w, .int 12]) (rest := [.int (nI (nzN (us x 24 &&& 255) + (nzN (us x 16 &&& 255)) + (nzN (us x 8 &&& 255)) + (nzN (us x 0 &&& 255)) + (nzN (us y 24 &&& 255)) + (nzN (us y 16 &&& 255)) + (nzN (us y 8 &&& 255)) + (nzN (us y 0 &&& 255)) + (nzN (us z 24 &&& 255)) + (nzN (us z 16 &&& 255)) + (nzN (us z 8 &&& 255)) + (nzN (us z 0 &&& 255))))]) ⟨hx, hb, hml, hown, htg⟩ (c_X11_byteOf_12 l D x y z v w) (cS 6 htg mw_227 kv_X11_byteOf rfl rfl ⟨(Nat.le_of_ble_eq_true rfl), (Nat.le_of_ble_eq_true rfl)⟩) ⟨bl_r, us_r hPc hKc⟩ rfl rfl hl.1 rfl (lv_room (Nat.le_of_ble_eq_true rfl)) dX11_feed_24 ⟨(Nat.le_of_ble_eq_true rfl), (Nat.le_of_ble_eq_true rfl)⟩) hS (fun _ _ h9 => False.elim h9) (fun _ h9 => False.elim h9) (fun r_13 u t H locs ht hvm hw hB hz1 hk1 hS => ?_)
  have hP := ro_keep hP hk1
  subst hw
  refine lv_tern hx hb dX11_feed_27 dX11_feed_30 dX11_feed_31 dX11_feed_34 ?_
  refine lv_iadd hx hb dX11_feed_35 ?_
  refine lv_val (y := (nI (nzN (us x 24 &&& 255) + (nzN (us x 16 &&& 255)) + (nzN (us x 8 &&& 255)) + (nzN (us x 0 &&& 255)) + (nzN (us y 24 &&& 255)) + (nzN (us y 16 &&& 255)) + (nzN (us y 8 &&& 255)) + (nzN (us y 0 &&& 255)) + (nzN (us z 24 &&& 255)) + (nzN (us z 16 &&& 255)) + (nzN (us z 8 &&& 255)) + (nzN (us z 0 &&& 255)) + (nzN (us v 24 &&& 255))))) (nI_add _ _) ?_
  refine lv_istore (lv' := [(6, .int (nI (nzN (us x 24 &&& 255) + (nzN (us x 16 &&& 255)) + (nzN (us x 8 &&& 255)) + (nzN (us x 0 &&& 255)) + (nzN (us y 24 &&& 255)) + (nzN (us y 16 &&& 255)) + (nzN (us y 8 &&& 255)) + (nzN (us y 0 &&& 255)) + (nzN (us z 24 &&& 255)) + (nzN (us z 16 &&& 255)) + (nzN (us z 8 &&& 255)) + (nzN (us z 0 &&& 255)) + (nzN (us v 24 &&& 255))))), (7, .int 12), (0, .ref (b 0)), (1, .int x), (2, .int y), (3, .int z), (4, .int v), (5, .int w)]) hx hb dX11_feed_36 hl (by decide) rfl (fun ls hl => ?_)
  refine lv_iinc (v := 13) (lv' := [(7, .int 13), (6, .int (nI (nzN (us x 24 &&& 255) + (nzN (us x 16 &&& 255)) + (nzN (us x 8 &&& 255)) + (nzN (us x 0 &&& 255)) + (nzN (us y 24 &&& 255)) + (nzN (us y 16 &&& 255)) + (nzN (us y 8 &&& 255)) + (nzN (us y 0 &&& 255)) + (nzN (us z 24 &&& 255)) + (nzN (us z 16 &&& 255)) + (nzN (us z 8 &&& 255)) + (nzN (us z 0 &&& 255)) + (nzN (us v 24 &&& 255))))), (0, .ref (b 0)), (1, .int x), (2, .int y), (3, .int z), (4, .int v), (5, .int w)]) hx hb dX11_feed_38 hl (k := 1) rfl (by decide) (by decide) rfl (fun ls hl => ?_)
  refine lv_goto (tgt := 6) hx hb dX11_feed_41 (by decide) ?_
  refine lv_iload hx hb dX11_feed_6 (lv_at hl 0 rfl) ?_
  refine lv_bipush (v := 20) hx hb dX11_feed_8 (by decide) ?_
  refine lv_icmp_ge (tgt := 44) hx hb dX11_feed_10 (by decide) (fun h9 => absurd h9 (by decide)) (fun _ => ?_)
  refine lv_iload hx hb dX11_feed_13 (lv_at hl 1 rfl) ?_
  refine lv_iload_n hx hb dX11_feed_15 rfl (lv_at hl 3 rfl) ?_
  refine lv_iload_n hx hb dX11_feed_16 rfl (lv_at hl 4 rfl) ?_
  refine lv_iload_n hx hb dX11_feed_17 rfl (lv_at hl 5 rfl) ?_
  refine lv_iload hx hb dX11_feed_18 (lv_at hl 6 rfl) ?_
  refine lv_iload hx hb dX11_feed_20 (lv_at hl 7 rfl) ?_
  refine lv_iload hx hb dX11_feed_22 (lv_at hl 0 rfl) ?_
  have hPc := hP.sub (ws' := []) [] rfl
  have hKc := hK.sub (tys' := []) [] rfl
  refine va_calli (va_runS (As := [.int x, .int y, .int z, .int v, .int w, .int 13]) (rest := [.int (nI (nzN (us x 24 &&& 255) + (nzN (us x 16 &&& 255)) + (nzN (us x 8 &&& 255)) + (nzN (us x 0 &&& 255)) + (nzN (us y 24 &&& 255)) + (nzN (us y 16 &&& 255)) + (nzN (us y 8 &&& 255)) + (nzN (us y 0 &&& 255)) + (nzN (us z 24 &&& 255)) + (nzN (us z 16 &&& 255)) + (nzN (us z 8 &&& 255)) + (nzN (us z 0 &&& 255)) + (nzN (us v 24 &&& 255))))]) ⟨hx, hb, hml, hown, htg⟩ (c_X11_byteOf_13 l D x y z v w) (cS 6 htg mw_227 kv_X11_byteOf rfl rfl ⟨(Nat.le_of_ble_eq_true rfl), (Nat.le_of_ble_eq_true rfl)⟩) ⟨bl_r, us_r hPc hKc⟩ rfl rfl hl.1 rfl (lv_room (Nat.le_of_ble_eq_true rfl)) dX11_feed_24 ⟨(Nat.le_of_ble_eq_true rfl), (Nat.le_of_ble_eq_true rfl)⟩) hS (fun _ _ h9 => False.elim h9) (fun _ h9 => False.elim h9) (fun r_14 u t H locs ht hvm hw hB hz1 hk1 hS => ?_)
  have hP := ro_keep hP hk1
  subst hw
  refine lv_tern hx hb dX11_feed_27 dX11_feed_30 dX11_feed_31 dX11_feed_34 ?_
  refine lv_iadd hx hb dX11_feed_35 ?_
  refine lv_val (y := (nI (nzN (us x 24 &&& 255) + (nzN (us x 16 &&& 255)) + (nzN (us x 8 &&& 255)) + (nzN (us x 0 &&& 255)) + (nzN (us y 24 &&& 255)) + (nzN (us y 16 &&& 255)) + (nzN (us y 8 &&& 255)) + (nzN (us y 0 &&& 255)) + (nzN (us z 24 &&& 255)) + (nzN (us z 16 &&& 255)) + (nzN (us z 8 &&& 255)) + (nzN (us z 0 &&& 255)) + (nzN (us v 24 &&& 255)) + (nzN (us v 16 &&& 255))))) (nI_add _ _) ?_
  refine lv_istore (lv' := [(6, .int (nI (nzN (us x 24 &&& 255) + (nzN (us x 16 &&& 255)) + (nzN (us x 8 &&& 255)) + (nzN (us x 0 &&& 255)) + (nzN (us y 24 &&& 255)) + (nzN (us y 16 &&& 255)) + (nzN (us y 8 &&& 255)) + (nzN (us y 0 &&& 255)) + (nzN (us z 24 &&& 255)) + (nzN (us z 16 &&& 255)) + (nzN (us z 8 &&& 255)) + (nzN (us z 0 &&& 255)) + (nzN (us v 24 &&& 255)) + (nzN (us v 16 &&& 255))))), (7, .int 13), (0, .ref (b 0)), (1, .int x), (2, .int y), (3, .int z), (4, .int v), (5, .int w)]) hx hb dX11_feed_36 hl (by decide) rfl (fun ls hl => ?_)
  refine lv_iinc (v := 14) (lv' := [(7, .int 14), (6, .int (nI (nzN (us x 24 &&& 255) + (nzN (us x 16 &&& 255)) + (nzN (us x 8 &&& 255)) + (nzN (us x 0 &&& 255)) + (nzN (us y 24 &&& 255)) + (nzN (us y 16 &&& 255)) + (nzN (us y 8 &&& 255)) + (nzN (us y 0 &&& 255)) + (nzN (us z 24 &&& 255)) + (nzN (us z 16 &&& 255)) + (nzN (us z 8 &&& 255)) + (nzN (us z 0 &&& 255)) + (nzN (us v 24 &&& 255)) + (nzN (us v 16 &&& 255))))), (0, .ref (b 0)), (1, .int x), (2, .int y), (3, .int z), (4, .int v), (5, .int w)]) hx hb dX11_feed_38 hl (k := 1) rfl (by decide) (by decide) rfl (fun ls hl => ?_)
  refine lv_goto (tgt := 6) hx hb dX11_feed_41 (by decide) ?_
  refine lv_iload hx hb dX11_feed_6 (lv_at hl 0 rfl) ?_
  refine lv_bipush (v := 20) hx hb dX11_feed_8 (by decide) ?_
  refine lv_icmp_ge (tgt := 44) hx hb dX11_feed_10 (by decide) (fun h9 => absurd h9 (by decide)) (fun _ => ?_)
  refine lv_iload hx hb dX11_feed_13 (lv_at hl 1 rfl) ?_
  refine lv_iload_n hx hb dX11_feed_15 rfl (lv_at hl 3 rfl) ?_
  refine lv_iload_n hx hb dX11_feed_16 rfl (lv_at hl 4 rfl) ?_
  refine lv_iload_n hx hb dX11_feed_17 rfl (lv_at hl 5 rfl) ?_
  refine lv_iload hx hb dX11_feed_18 (lv_at hl 6 rfl) ?_
  refine lv_iload hx hb dX11_feed_20 (lv_at hl 7 rfl) ?_
  refine lv_iload hx hb dX11_feed_22 (lv_at hl 0 rfl) ?_
  have hPc := hP.sub (ws' := []) [] rfl
  have hKc := hK.sub (tys' := []) [] rfl
  refine va_calli (va_runS (As := [.int x, .int y, .int z, .int v, .int w, .int 14]) (rest := [.int (nI (nzN (us x 24 &&& 255) + (nzN (us x 16 &&& 255)) + (nzN (us x 8 &&& 255)) + (nzN (us x 0 &&& 255)) + (nzN (us y 24 &&& 255)) + (nzN (us y 16 &&& 255)) + (nzN (us y 8 &&& 255)) + (nzN (us y 0 &&& 255)) + (nzN (us z 24 &&& 255)) + (nzN (us z 16 &&& 255)) + (nzN (us z 8 &&& 255)) + (nzN (us z 0 &&& 255)) + (nzN (us v 24 &&& 255)) + (nzN (us v 16 &&& 255))))]) ⟨hx, hb, hml, hown, htg⟩ (c_X11_byteOf_14 l D x y z v w) (cS 6 htg mw_227 kv_X11_byteOf rfl rfl ⟨(Nat.le_of_ble_eq_true rfl), (Nat.le_of_ble_eq_true rfl)⟩) ⟨bl_r, us_r hPc hKc⟩ rfl rfl hl.1 rfl (lv_room (Nat.le_of_ble_eq_true rfl)) dX11_feed_24 ⟨(Nat.le_of_ble_eq_true rfl), (Nat.le_of_ble_eq_true rfl)⟩) hS (fun _ _ h9 => False.elim h9) (fun _ h9 => False.elim h9) (fun r_15 u t H locs ht hvm hw hB hz1 hk1 hS => ?_)
  have hP := ro_keep hP hk1
  subst hw
  refine lv_tern hx hb dX11_feed_27 dX11_feed_30 dX11_feed_31 dX11_feed_34 ?_
  refine lv_iadd hx hb dX11_feed_35 ?_
  refine lv_val (y := (nI (nzN (us x 24 &&& 255) + (nzN (us x 16 &&& 255)) + (nzN (us x 8 &&& 255)) + (nzN (us x 0 &&& 255)) + (nzN (us y 24 &&& 255)) + (nzN (us y 16 &&& 255)) + (nzN (us y 8 &&& 255)) + (nzN (us y 0 &&& 255)) + (nzN (us z 24 &&& 255)) + (nzN (us z 16 &&& 255)) + (nzN (us z 8 &&& 255)) + (nzN (us z 0 &&& 255)) + (nzN (us v 24 &&& 255)) + (nzN (us v 16 &&& 255)) + (nzN (us v 8 &&& 255))))) (nI_add _ _) ?_
  refine lv_istore (lv' := [(6, .int (nI (nzN (us x 24 &&& 255) + (nzN (us x 16 &&& 255)) + (nzN (us x 8 &&& 255)) + (nzN (us x 0 &&& 255)) + (nzN (us y 24 &&& 255)) + (nzN (us y 16 &&& 255)) + (nzN (us y 8 &&& 255)) + (nzN (us y 0 &&& 255)) + (nzN (us z 24 &&& 255)) + (nzN (us z 16 &&& 255)) + (nzN (us z 8 &&& 255)) + (nzN (us z 0 &&& 255)) + (nzN (us v 24 &&& 255)) + (nzN (us v 16 &&& 255)) + (nzN (us v 8 &&& 255))))), (7, .int 14), (0, .ref (b 0)), (1, .int x), (2, .int y), (3, .int z), (4, .int v), (5, .int w)]) hx hb dX11_feed_36 hl (by decide) rfl (fun ls hl => ?_)
  refine lv_iinc (v := 15) (lv' := [(7, .int 15), (6, .int (nI (nzN (us x 24 &&& 255) + (nzN (us x 16 &&& 255)) + (nzN (us x 8 &&& 255)) + (nzN (us x 0 &&& 255)) + (nzN (us y 24 &&& 255)) + (nzN (us y 16 &&& 255)) + (nzN (us y 8 &&& 255)) + (nzN (us y 0 &&& 255)) + (nzN (us z 24 &&& 255)) + (nzN (us z 16 &&& 255)) + (nzN (us z 8 &&& 255)) + (nzN (us z 0 &&& 255)) + (nzN (us v 24 &&& 255)) + (nzN (us v 16 &&& 255)) + (nzN (us v 8 &&& 255))))), (0, .ref (b 0)), (1, .int x), (2, .int y), (3, .int z), (4, .int v), (5, .int w)]) hx hb dX11_feed_38 hl (k := 1) rfl (by decide) (by decide) rfl (fun ls hl => ?_)
  refine lv_goto (tgt := 6) hx hb dX11_feed_41 (by decide) ?_
  refine lv_iload hx hb dX11_feed_6 (lv_at hl 0 rfl) ?_
  refine lv_bipush (v := 20) hx hb dX11_feed_8 (by decide) ?_
  refine lv_icmp_ge (tgt := 44) hx hb dX11_feed_10 (by decide) (fun h9 => absurd h9 (by decide)) (fun _ => ?_)
  refine lv_iload hx hb dX11_feed_13 (lv_at hl 1 rfl) ?_
  refine lv_iload_n hx hb dX11_feed_15 rfl (lv_at hl 3 rfl) ?_
  refine lv_iload_n hx hb dX11_feed_16 rfl (lv_at hl 4 rfl) ?_
  refine lv_iload_n hx hb dX11_feed_17 rfl (lv_at hl 5 rfl) ?_
  refine lv_iload hx hb dX11_feed_18 (lv_at hl 6 rfl) ?_
  refine lv_iload hx hb dX11_feed_20 (lv_at hl 7 rfl) ?_
  refine lv_iload hx hb dX11_feed_22 (lv_at hl 0 rfl) ?_
  have hPc := hP.sub (ws' := []) [] rfl
  have hKc := hK.sub (tys' := []) [] rfl
  refine va_calli (va_runS (As := [.int x, .int y, .int z, .int v, .int w, .int 15]) (rest := [.int (nI (nzN (us x 24 &&& 255) + (nzN (us x 16 &&& 255)) + (nzN (us x 8 &&& 255)) + (nzN (us x 0 &&& 255)) + (nzN (us y 24 &&& 255)) + (nzN (us y 16 &&& 255)) + (nzN (us y 8 &&& 255)) + (nzN (us y 0 &&& 255)) + (nzN (us z 24 &&& 255)) + (nzN (us z 16 &&& 255)) + (nzN (us z 8 &&& 255)) + (nzN (us z 0 &&& 255)) + (nzN (us v 24 &&& 255)) + (nzN (us v 16 &&& 255)) + (nzN (us v 8 &&& 255))))]) ⟨hx, hb, hml, hown, htg⟩ (c_X11_byteOf_15 l D x y z v w) (cS 6 htg mw_227 kv_X11_byteOf rfl rfl ⟨(Nat.le_of_ble_eq_true rfl), (Nat.le_of_ble_eq_true rfl)⟩) ⟨bl_r, us_r hPc hKc⟩ rfl rfl hl.1 rfl (lv_room (Nat.le_of_ble_eq_true rfl)) dX11_feed_24 ⟨(Nat.le_of_ble_eq_true rfl), (Nat.le_of_ble_eq_true rfl)⟩) hS (fun _ _ h9 => False.elim h9) (fun _ h9 => False.elim h9) (fun r_16 u t H locs ht hvm hw hB hz1 hk1 hS => ?_)
  have hP := ro_keep hP hk1
  subst hw
  refine lv_tern hx hb dX11_feed_27 dX11_feed_30 dX11_feed_31 dX11_feed_34 ?_
  refine lv_iadd hx hb dX11_feed_35 ?_
  refine lv_val (y := (nI (nzN (us x 24 &&& 255) + (nzN (us x 16 &&& 255)) + (nzN (us x 8 &&& 255)) + (nzN (us x 0 &&& 255)) + (nzN (us y 24 &&& 255)) + (nzN (us y 16 &&& 255)) + (nzN (us y 8 &&& 255)) + (nzN (us y 0 &&& 255)) + (nzN (us z 24 &&& 255)) + (nzN (us z 16 &&& 255)) + (nzN (us z 8 &&& 255)) + (nzN (us z 0 &&& 255)) + (nzN (us v 24 &&& 255)) + (nzN (us v 16 &&& 255)) + (nzN (us v 8 &&& 255)) + (nzN (us v 0 &&& 255))))) (nI_add _ _) ?_
  refine lv_istore (lv' := [(6, .int (nI (nzN (us x 24 &&& 255) + (nzN (us x 16 &&& 255)) + (nzN (us x 8 &&& 255)) + (nzN (us x 0 &&& 255)) + (nzN (us y 24 &&& 255)) + (nzN (us y 16 &&& 255)) + (nzN (us y 8 &&& 255)) + (nzN (us y 0 &&& 255)) + (nzN (us z 24 &&& 255)) + (nzN (us z 16 &&& 255)) + (nzN (us z 8 &&& 255)) + (nzN (us z 0 &&& 255)) + (nzN (us v 24 &&& 255)) + (nzN (us v 16 &&& 255)) + (nzN (us v 8 &&& 255)) + (nzN (us v 0 &&& 255))))), (7, .int 15), (0, .ref (b 0)), (1, .int x), (2, .int y), (3, .int z), (4, .int v), (5, .int w)]) hx hb dX11_feed_36 hl (by decide) rfl (fun ls hl => ?_)
  refine lv_iinc (v := 16) (lv' := [(7, .int 16), (6, .int (nI (nzN (us x 24 &&& 255) + (nzN (us x 16 &&& 255)) + (nzN (us x 8 &&& 255)) + (nzN (us x 0 &&& 255)) + (nzN (us y 24 &&& 255)) + (nzN (us y 16 &&& 255)) + (nzN (us y 8 &&& 255)) + (nzN (us y 0 &&& 255)) + (nzN (us z 24 &&& 255)) + (nzN (us z 16 &&& 255)) + (nzN (us z 8 &&& 255)) + (nzN (us z 0 &&& 255)) + (nzN (us v 24 &&& 255)) + (nzN (us v 16 &&& 255)) + (nzN (us v 8 &&& 255)) + (nzN (us v 0 &&& 255))))), (0, .ref (b 0)), (1, .int x), (2, .int y), (3, .int z), (4, .int v), (5, .int w)]) hx hb dX11_feed_38 hl (k := 1) rfl (by decide) (by decide) rfl (fun ls hl => ?_)
  refine lv_goto (tgt := 6) hx hb dX11_feed_41 (by decide) ?_
  refine lv_iload hx hb dX11_feed_6 (lv_at hl 0 rfl) ?_
  refine lv_bipush (v := 20) hx hb dX11_feed_8 (by decide) ?_
  refine lv_icmp_ge (tgt := 44) hx hb dX11_feed_10 (by decide) (fun h9 => absurd h9 (by decide)) (fun _ => ?_)
  refine lv_iload hx hb dX11_feed_13 (lv_at hl 1 rfl) ?_
  refine lv_iload_n hx hb dX11_feed_15 rfl (lv_at hl 3 rfl) ?_
  refine lv_iload_n hx hb dX11_feed_16 rfl (lv_at hl 4 rfl) ?_
  refine lv_iload_n hx hb dX11_feed_17 rfl (lv_at hl 5 rfl) ?_
  refine lv_iload hx hb dX11_feed_18 (lv_at hl 6 rfl) ?_
  refine lv_iload hx hb dX11_feed_20 (lv_at hl 7 rfl) ?_
  refine lv_iload hx hb dX11_feed_22 (lv_at hl 0 rfl) ?_
  have hPc := hP.sub (ws' := []) [] rfl
  have hKc := hK.sub (tys' := []) [] rfl
  refine va_calli (va_runS (As := [.int x, .int y, .int z, .int v, .int w, .int 16]) (rest := [.int (nI (nzN (us x 24 &&& 255) + (nzN (us x 16 &&& 255)) + (nzN (us x 8 &&& 255)) + (nzN (us x 0 &&& 255)) + (nzN (us y 24 &&& 255)) + (nzN (us y 16 &&& 255)) + (nzN (us y 8 &&& 255)) + (nzN (us y 0 &&& 255)) + (nzN (us z 24 &&& 255)) + (nzN (us z 16 &&& 255)) + (nzN (us z 8 &&& 255)) + (nzN (us z 0 &&& 255)) + (nzN (us v 24 &&& 255)) + (nzN (us v 16 &&& 255)) + (nzN (us v 8 &&& 255)) + (nzN (us v 0 &&& 255))))]) ⟨hx, hb, hml, hown, htg⟩ (c_X11_byteOf_16 l D x y z v w) (cS 6 htg mw_227 kv_X11_byteOf rfl rfl ⟨(Nat.le_of_ble_eq_true rfl), (Nat.le_of_ble_eq_true rfl)⟩) ⟨bl_r, us_r hPc hKc⟩ rfl rfl hl.1 rfl (lv_room (Nat.le_of_ble_eq_true rfl)) dX11_feed_24 ⟨(Nat.le_of_ble_eq_true rfl), (Nat.le_of_ble_eq_true rfl)⟩) hS (fun _ _ h9 => False.elim h9) (fun _ h9 => False.elim h9) (fun r_17 u t H locs ht hvm hw hB hz1 hk1 hS => ?_)
  have hP := ro_keep hP hk1
  subst hw
  refine lv_tern hx hb dX11_feed_27 dX11_feed_30 dX11_feed_31 dX11_feed_34 ?_
  refine lv_iadd hx hb dX11_feed_35 ?_
  refine lv_val (y := (nI (nzN (us x 24 &&& 255) + (nzN (us x 16 &&& 255)) + (nzN (us x 8 &&& 255)) + (nzN (us x 0 &&& 255)) + (nzN (us y 24 &&& 255)) + (nzN (us y 16 &&& 255)) + (nzN (us y 8 &&& 255)) + (nzN (us y 0 &&& 255)) + (nzN (us z 24 &&& 255)) + (nzN (us z 16 &&& 255)) + (nzN (us z 8 &&& 255)) + (nzN (us z 0 &&& 255)) + (nzN (us v 24 &&& 255)) + (nzN (us v 16 &&& 255)) + (nzN (us v 8 &&& 255)) + (nzN (us v 0 &&& 255)) + (nzN (us w 24 &&& 255))))) (nI_add _ _) ?_
  refine lv_istore (lv' := [(6, .int (nI (nzN (us x 24 &&& 255) + (nzN (us x 16 &&& 255)) + (nzN (us x 8 &&& 255)) + (nzN (us x 0 &&& 255)) + (nzN (us y 24 &&& 255)) + (nzN (us y 16 &&& 255)) + (nzN (us y 8 &&& 255)) + (nzN (us y 0 &&& 255)) + (nzN (us z 24 &&& 255)) + (nzN (us z 16 &&& 255)) + (nzN (us z 8 &&& 255)) + (nzN (us z 0 &&& 255)) + (nzN (us v 24 &&& 255)) + (nzN (us v 16 &&& 255)) + (nzN (us v 8 &&& 255)) + (nzN (us v 0 &&& 255)) + (nzN (us w 24 &&& 255))))), (7, .int 16), (0, .ref (b 0)), (1, .int x), (2, .int y), (3, .int z), (4, .int v), (5, .int w)]) hx hb dX11_feed_36 hl (by decide) rfl (fun ls hl => ?_)
  refine lv_iinc (v := 17) (lv' := [(7, .int 17), (6, .int (nI (nzN (us x 24 &&& 255) + (nzN (us x 16 &&& 255)) + (nzN (us x 8 &&& 255)) + (nzN (us x 0 &&& 255)) + (nzN (us y 24 &&& 255)) + (nzN (us y 16 &&& 255)) + (nzN (us y 8 &&& 255)) + (nzN (us y 0 &&& 255)) + (nzN (us z 24 &&& 255)) + (nzN (us z 16 &&& 255)) + (nzN (us z 8 &&& 255)) + (nzN (us z 0 &&& 255)) + (nzN (us v 24 &&& 255)) + (nzN (us v 16 &&& 255)) + (nzN (us v 8 &&& 255)) + (nzN (us v 0 &&& 255)) + (nzN (us w 24 &&& 255))))), (0, .ref (b 0)), (1, .int x), (2, .int y), (3, .int z), (4, .int v), (5, .int w)]) hx hb dX11_feed_38 hl (k := 1) rfl (by decide) (by decide) rfl (fun ls hl => ?_)
  refine lv_goto (tgt := 6) hx hb dX11_feed_41 (by decide) ?_
  refine lv_iload hx hb dX11_feed_6 (lv_at hl 0 rfl) ?_
  refine lv_bipush (v := 20) hx hb dX11_feed_8 (by decide) ?_
  refine lv_icmp_ge (tgt := 44) hx hb dX11_feed_10 (by decide) (fun h9 => absurd h9 (by decide)) (fun _ => ?_)
  refine lv_iload hx hb dX11_feed_13 (lv_at hl 1 rfl) ?_
  refine lv_iload_n hx hb dX11_feed_15 rfl (lv_at hl 3 rfl) ?_
  refine lv_iload_n hx hb dX11_feed_16 rfl (lv_at hl 4 rfl) ?_
  refine lv_iload_n hx hb dX11_feed_17 rfl (lv_at hl 5 rfl) ?_
  refine lv_iload hx hb dX11_feed_18 (lv_at hl 6 rfl) ?_
  refine lv_iload hx hb dX11_feed_20 (lv_at hl 7 rfl) ?_
  refine lv_iload hx hb dX11_feed_22 (lv_at hl 0 rfl) ?_
  have hPc := hP.sub (ws' := []) [] rfl
  have hKc := hK.sub (tys' := []) [] rfl
  refine va_calli (va_runS (As := [.int x, .int y, .int z, .int v, .int w, .int 17]) (rest := [.int (nI (nzN (us x 24 &&& 255) + (nzN (us x 16 &&& 255)) + (nzN (us x 8 &&& 255)) + (nzN (us x 0 &&& 255)) + (nzN (us y 24 &&& 255)) + (nzN (us y 16 &&& 255)) + (nzN (us y 8 &&& 255)) + (nzN (us y 0 &&& 255)) + (nzN (us z 24 &&& 255)) + (nzN (us z 16 &&& 255)) + (nzN (us z 8 &&& 255)) + (nzN (us z 0 &&& 255)) + (nzN (us v 24 &&& 255)) + (nzN (us v 16 &&& 255)) + (nzN (us v 8 &&& 255)) + (nzN (us v 0 &&& 255)) + (nzN (us w 24 &&& 255))))]) ⟨hx, hb, hml, hown, htg⟩ (c_X11_byteOf_17 l D x y z v w) (cS 6 htg mw_227 kv_X11_byteOf rfl rfl ⟨(Nat.le_of_ble_eq_true rfl), (Nat.le_of_ble_eq_true rfl)⟩) ⟨bl_r, us_r hPc hKc⟩ rfl rfl hl.1 rfl (lv_room (Nat.le_of_ble_eq_true rfl)) dX11_feed_24 ⟨(Nat.le_of_ble_eq_true rfl), (Nat.le_of_ble_eq_true rfl)⟩) hS (fun _ _ h9 => False.elim h9) (fun _ h9 => False.elim h9) (fun r_18 u t H locs ht hvm hw hB hz1 hk1 hS => ?_)
  have hP := ro_keep hP hk1
  subst hw
  refine lv_tern hx hb dX11_feed_27 dX11_feed_30 dX11_feed_31 dX11_feed_34 ?_
  refine lv_iadd hx hb dX11_feed_35 ?_
  refine lv_val (y := (nI (nzN (us x 24 &&& 255) + (nzN (us x 16 &&& 255)) + (nzN (us x 8 &&& 255)) + (nzN (us x 0 &&& 255)) + (nzN (us y 24 &&& 255)) + (nzN (us y 16 &&& 255)) + (nzN (us y 8 &&& 255)) + (nzN (us y 0 &&& 255)) + (nzN (us z 24 &&& 255)) + (nzN (us z 16 &&& 255)) + (nzN (us z 8 &&& 255)) + (nzN (us z 0 &&& 255)) + (nzN (us v 24 &&& 255)) + (nzN (us v 16 &&& 255)) + (nzN (us v 8 &&& 255)) + (nzN (us v 0 &&& 255)) + (nzN (us w 24 &&& 255)) + (nzN (us w 16 &&& 255))))) (nI_add _ _) ?_
  refine lv_istore (lv' := [(6, .int (nI (nzN (us x 24 &&& 255) + (nzN (us x 16 &&& 255)) + (nzN (us x 8 &&& 255)) + (nzN (us x 0 &&& 255)) + (nzN (us y 24 &&& 255)) + (nzN (us y 16 &&& 255)) + (nzN (us y 8 &&& 255)) + (nzN (us y 0 &&& 255)) + (nzN (us z 24 &&& 255)) + (nzN (us z 16 &&& 255)) + (nzN (us z 8 &&& 255)) + (nzN (us z 0 &&& 255)) + (nzN (us v 24 &&& 255)) + (nzN (us v 16 &&& 255)) + (nzN (us v 8 &&& 255)) + (nzN (us v 0 &&& 255)) + (nzN (us w 24 &&& 255)) + (nzN (us w 16 &&& 255))))), (7, .int 17), (0, .ref (b 0)), (1, .int x), (2, .int y), (3, .int z), (4, .int v), (5, .int w)]) hx hb dX11_feed_36 hl (by decide) rfl (fun ls hl => ?_)
  refine lv_iinc (v := 18) (lv' := [(7, .int 18), (6, .int (nI (nzN (us x 24 &&& 255) + (nzN (us x 16 &&& 255)) + (nzN (us x 8 &&& 255)) + (nzN (us x 0 &&& 255)) + (nzN (us y 24 &&& 255)) + (nzN (us y 16 &&& 255)) + (nzN (us y 8 &&& 255)) + (nzN (us y 0 &&& 255)) + (nzN (us z 24 &&& 255)) + (nzN (us z 16 &&& 255)) + (nzN (us z 8 &&& 255)) + (nzN (us z 0 &&& 255)) + (nzN (us v 24 &&& 255)) + (nzN (us v 16 &&& 255)) + (nzN (us v 8 &&& 255)) + (nzN (us v 0 &&& 255)) + (nzN (us w 24 &&& 255)) + (nzN (us w 16 &&& 255))))), (0, .ref (b 0)), (1, .int x), (2, .int y), (3, .int z), (4, .int v), (5, .int w)]) hx hb dX11_feed_38 hl (k := 1) rfl (by decide) (by decide) rfl (fun ls hl => ?_)
  refine lv_goto (tgt := 6) hx hb dX11_feed_41 (by decide) ?_
  refine lv_iload hx hb dX11_feed_6 (lv_at hl 0 rfl) ?_
  refine lv_bipush (v := 20) hx hb dX11_feed_8 (by decide) ?_
  refine lv_icmp_ge (tgt := 44) hx hb dX11_feed_10 (by decide) (fun h9 => absurd h9 (by decide)) (fun _ => ?_)
  refine lv_iload hx hb dX11_feed_13 (lv_at hl 1 rfl) ?_
  refine lv_iload_n hx hb dX11_feed_15 rfl (lv_at hl 3 rfl) ?_
  refine lv_iload_n hx hb dX11_feed_16 rfl (lv_at hl 4 rfl) ?_
  refine lv_iload_n hx hb dX11_feed_17 rfl (lv_at hl 5 rfl) ?_
  refine lv_iload hx hb dX11_feed_18 (lv_at hl 6 rfl) ?_
  refine lv_iload hx hb dX11_feed_20 (lv_at hl 7 rfl) ?_
  refine lv_iload hx hb dX11_feed_22 (lv_at hl 0 rfl) ?_
  have hPc := hP.sub (ws' := []) [] rfl
  have hKc := hK.sub (tys' := []) [] rfl
  refine va_calli (va_runS (As := [.int x, .int y, .int z, .int v, .int w, .int 18]) (rest := [.int (nI (nzN (us x 24 &&& 255) + (nzN (us x 16 &&& 255)) + (nzN (us x 8 &&& 255)) + (nzN (us x 0 &&& 255)) + (nzN (us y 24 &&& 255)) + (nzN (us y 16 &&& 255)) + (nzN (us y 8 &&& 255)) + (nzN (us y 0 &&& 255)) + (nzN (us z 24 &&& 255)) + (nzN (us z 16 &&& 255)) + (nzN (us z 8 &&& 255)) + (nzN (us z 0 &&& 255)) + (nzN (us v 24 &&& 255)) + (nzN (us v 16 &&& 255)) + (nzN (us v 8 &&& 255)) + (nzN (us v 0 &&& 255)) + (nzN (us w 24 &&& 255)) + (nzN (us w 16 &&& 255))))]) ⟨hx, hb, hml, hown, htg⟩ (c_X11_byteOf_18 l D x y z v w) (cS 6 htg mw_227 kv_X11_byteOf rfl rfl ⟨(Nat.le_of_ble_eq_true rfl), (Nat.le_of_ble_eq_true rfl)⟩) ⟨bl_r, us_r hPc hKc⟩ rfl rfl hl.1 rfl (lv_room (Nat.le_of_ble_eq_true rfl)) dX11_feed_24 ⟨(Nat.le_of_ble_eq_true rfl), (Nat.le_of_ble_eq_true rfl)⟩) hS (fun _ _ h9 => False.elim h9) (fun _ h9 => False.elim h9) (fun r_19 u t H locs ht hvm hw hB hz1 hk1 hS => ?_)
  have hP := ro_keep hP hk1
  subst hw
  refine lv_tern hx hb dX11_feed_27 dX11_feed_30 dX11_feed_31 dX11_feed_34 ?_
  refine lv_iadd hx hb dX11_feed_35 ?_
  refine lv_val (y := (nI (nzN (us x 24 &&& 255) + (nzN (us x 16 &&& 255)) + (nzN (us x 8 &&& 255)) + (nzN (us x 0 &&& 255)) + (nzN (us y 24 &&& 255)) + (nzN (us y 16 &&& 255)) + (nzN (us y 8 &&& 255)) + (nzN (us y 0 &&& 255)) + (nzN (us z 24 &&& 255)) + (nzN (us z 16 &&& 255)) + (nzN (us z 8 &&& 255)) + (nzN (us z 0 &&& 255)) + (nzN (us v 24 &&& 255)) + (nzN (us v 16 &&& 255)) + (nzN (us v 8 &&& 255)) + (nzN (us v 0 &&& 255)) + (nzN (us w 24 &&& 255)) + (nzN (us w 16 &&& 255)) + (nzN (us w 8 &&& 255))))) (nI_add _ _) ?_
  refine lv_istore (lv' := [(6, .int (nI (nzN (us x 24 &&& 255) + (nzN (us x 16 &&& 255)) + (nzN (us x 8 &&& 255)) + (nzN (us x 0 &&& 255)) + (nzN (us y 24 &&& 255)) + (nzN (us y 16 &&& 255)) + (nzN (us y 8 &&& 255)) + (nzN (us y 0 &&& 255)) + (nzN (us z 24 &&& 255)) + (nzN (us z 16 &&& 255)) + (nzN (us z 8 &&& 255)) + (nzN (us z 0 &&& 255)) + (nzN (us v 24 &&& 255)) + (nzN (us v 16 &&& 255)) + (nzN (us v 8 &&& 255)) + (nzN (us v 0 &&& 255)) + (nzN (us w 24 &&& 255)) + (nzN (us w 16 &&& 255)) + (nzN (us w 8 &&& 255))))), (7, .int 18), (0, .ref (b 0)), (1, .int x), (2, .int y), (3, .int z), (4, .int v), (5, .int w)]) hx hb dX11_feed_36 hl (by decide) rfl (fun ls hl => ?_)
  refine lv_iinc (v := 19) (lv' := [(7, .int 19), (6, .int (nI (nzN (us x 24 &&& 255) + (nzN (us x 16 &&& 255)) + (nzN (us x 8 &&& 255)) + (nzN (us x 0 &&& 255)) + (nzN (us y 24 &&& 255)) + (nzN (us y 16 &&& 255)) + (nzN (us y 8 &&& 255)) + (nzN (us y 0 &&& 255)) + (nzN (us z 24 &&& 255)) + (nzN (us z 16 &&& 255)) + (nzN (us z 8 &&& 255)) + (nzN (us z 0 &&& 255)) + (nzN (us v 24 &&& 255)) + (nzN (us v 16 &&& 255)) + (nzN (us v 8 &&& 255)) + (nzN (us v 0 &&& 255)) + (nzN (us w 24 &&& 255)) + (nzN (us w 16 &&& 255)) + (nzN (us w 8 &&& 255))))), (0, .ref (b 0)), (1, .int x), (2, .int y), (3, .int z), (4, .int v), (5, .int w)]) hx hb dX11_feed_38 hl (k := 1) rfl (by decide) (by decide) rfl (fun ls hl => ?_)
  refine lv_goto (tgt := 6) hx hb dX11_feed_41 (by decide) ?_
  refine lv_iload hx hb dX11_feed_6 (lv_at hl 0 rfl) ?_
  refine lv_bipush (v := 20) hx hb dX11_feed_8 (by decide) ?_
  refine lv_icmp_ge (tgt := 44) hx hb dX11_feed_10 (by decide) (fun h9 => absurd h9 (by decide)) (fun _ => ?_)
  refine lv_iload hx hb dX11_feed_13 (lv_at hl 1 rfl) ?_
  refine lv_iload_n hx hb dX11_feed_15 rfl (lv_at hl 3 rfl) ?_
  refine lv_iload_n hx hb dX11_feed_16 rfl (lv_at hl 4 rfl) ?_
  refine lv_iload_n hx hb dX11_feed_17 rfl (lv_at hl 5 rfl) ?_
  refine lv_iload hx hb dX11_feed_18 (lv_at hl 6 rfl) ?_
  refine lv_iload hx hb dX11_feed_20 (lv_at hl 7 rfl) ?_
  refine lv_iload hx hb dX11_feed_22 (lv_at hl 0 rfl) ?_
  have hPc := hP.sub (ws' := []) [] rfl
  have hKc := hK.sub (tys' := []) [] rfl
  refine va_calli (va_runS (As := [.int x, .int y, .int z, .int v, .int w, .int 19]) (rest := [.int (nI (nzN (us x 24 &&& 255) + (nzN (us x 16 &&& 255)) + (nzN (us x 8 &&& 255)) + (nzN (us x 0 &&& 255)) + (nzN (us y 24 &&& 255)) + (nzN (us y 16 &&& 255)) + (nzN (us y 8 &&& 255)) + (nzN (us y 0 &&& 255)) + (nzN (us z 24 &&& 255)) + (nzN (us z 16 &&& 255)) + (nzN (us z 8 &&& 255)) + (nzN (us z 0 &&& 255)) + (nzN (us v 24 &&& 255)) + (nzN (us v 16 &&& 255)) + (nzN (us v 8 &&& 255)) + (nzN (us v 0 &&& 255)) + (nzN (us w 24 &&& 255)) + (nzN (us w 16 &&& 255)) + (nzN (us w 8 &&& 255))))]) ⟨hx, hb, hml, hown, htg⟩ (c_X11_byteOf_19 l D x y z v w) (cS 6 htg mw_227 kv_X11_byteOf rfl rfl ⟨(Nat.le_of_ble_eq_true rfl), (Nat.le_of_ble_eq_true rfl)⟩) ⟨bl_r, us_r hPc hKc⟩ rfl rfl hl.1 rfl (lv_room (Nat.le_of_ble_eq_true rfl)) dX11_feed_24 ⟨(Nat.le_of_ble_eq_true rfl), (Nat.le_of_ble_eq_true rfl)⟩) hS (fun _ _ h9 => False.elim h9) (fun _ h9 => False.elim h9) (fun r_20 u t H locs ht hvm hw hB hz1 hk1 hS => ?_)
  have hP := ro_keep hP hk1
  subst hw
  refine lv_tern hx hb dX11_feed_27 dX11_feed_30 dX11_feed_31 dX11_feed_34 ?_
  refine lv_iadd hx hb dX11_feed_35 ?_
  refine lv_val (y := (nI (nzN (us x 24 &&& 255) + (nzN (us x 16 &&& 255)) + (nzN (us x 8 &&& 255)) + (nzN (us x 0 &&& 255)) + (nzN (us y 24 &&& 255)) + (nzN (us y 16 &&& 255)) + (nzN (us y 8 &&& 255)) + (nzN (us y 0 &&& 255)) + (nzN (us z 24 &&& 255)) + (nzN (us z 16 &&& 255)) + (nzN (us z 8 &&& 255)) + (nzN (us z 0 &&& 255)) + (nzN (us v 24 &&& 255)) + (nzN (us v 16 &&& 255)) + (nzN (us v 8 &&& 255)) + (nzN (us v 0 &&& 255)) + (nzN (us w 24 &&& 255)) + (nzN (us w 16 &&& 255)) + (nzN (us w 8 &&& 255)) + (nzN (us w 0 &&& 255))))) (nI_add _ _) ?_
  refine lv_istore (lv' := [(6, .int (nI (nzN (us x 24 &&& 255) + (nzN (us x 16 &&& 255)) + (nzN (us x 8 &&& 255)) + (nzN (us x 0 &&& 255)) + (nzN (us y 24 &&& 255)) + (nzN (us y 16 &&& 255)) + (nzN (us y 8 &&& 255)) + (nzN (us y 0 &&& 255)) + (nzN (us z 24 &&& 255)) + (nzN (us z 16 &&& 255)) + (nzN (us z 8 &&& 255)) + (nzN (us z 0 &&& 255)) + (nzN (us v 24 &&& 255)) + (nzN (us v 16 &&& 255)) + (nzN (us v 8 &&& 255)) + (nzN (us v 0 &&& 255)) + (nzN (us w 24 &&& 255)) + (nzN (us w 16 &&& 255)) + (nzN (us w 8 &&& 255)) + (nzN (us w 0 &&& 255))))), (7, .int 19), (0, .ref (b 0)), (1, .int x), (2, .int y), (3, .int z), (4, .int v), (5, .int w)]) hx hb dX11_feed_36 hl (by decide) rfl (fun ls hl => ?_)
  refine lv_iinc (v := 20) (lv' := [(7, .int 20), (6, .int (nI (nzN (us x 24 &&& 255) + (nzN (us x 16 &&& 255)) + (nzN (us x 8 &&& 255)) + (nzN (us x 0 &&& 255)) + (nzN (us y 24 &&& 255)) + (nzN (us y 16 &&& 255)) + (nzN (us y 8 &&& 255)) + (nzN (us y 0 &&& 255)) + (nzN (us z 24 &&& 255)) + (nzN (us z 16 &&& 255)) + (nzN (us z 8 &&& 255)) + (nzN (us z 0 &&& 255)) + (nzN (us v 24 &&& 255)) + (nzN (us v 16 &&& 255)) + (nzN (us v 8 &&& 255)) + (nzN (us v 0 &&& 255)) + (nzN (us w 24 &&& 255)) + (nzN (us w 16 &&& 255)) + (nzN (us w 8 &&& 255)) + (nzN (us w 0 &&& 255))))), (0, .ref (b 0)), (1, .int x), (2, .int y), (3, .int z), (4, .int v), (5, .int w)]) hx hb dX11_feed_38 hl (k := 1) rfl (by decide) (by decide) rfl (fun ls hl => ?_)
  refine lv_goto (tgt := 6) hx hb dX11_feed_41 (by decide) ?_
  refine lv_iload hx hb dX11_feed_6 (lv_at hl 0 rfl) ?_
  refine lv_bipush (v := 20) hx hb dX11_feed_8 (by decide) ?_
  refine lv_icmp_ge (tgt := 44) hx hb dX11_feed_10 (by decide) (fun _ => ?_) (fun h9 => False.elim (h9 (by decide)))
  refine lv_aload_n hx hb dX11_feed_44 rfl (lv_at hl 2 rfl) ?_
  refine va_get (D := D) (ci := 11) (v := .int 0) (C := RX11) (T := TX11) (N := 66) hx hb htg in_X11 hown hK hP 0 rfl rfl 2 (by decide) (htg _ mw_84) (fun _ h9 => h9) rfl dX11_feed_45 ?_
  refine lv_iload hx hb dX11_feed_48 (lv_at hl 1 rfl) ?_
  refine lv_iadd hx hb dX11_feed_50 ?_
  refine lv_val (y := (nI (nzN (us x 24 &&& 255) + (nzN (us x 16 &&& 255)) + (nzN (us x 8 &&& 255)) + (nzN (us x 0 &&& 255)) + (nzN (us y 24 &&& 255)) + (nzN (us y 16 &&& 255)) + (nzN (us y 8 &&& 255)) + (nzN (us y 0 &&& 255)) + (nzN (us z 24 &&& 255)) + (nzN (us z 16 &&& 255)) + (nzN (us z 8 &&& 255)) + (nzN (us z 0 &&& 255)) + (nzN (us v 24 &&& 255)) + (nzN (us v 16 &&& 255)) + (nzN (us v 8 &&& 255)) + (nzN (us v 0 &&& 255)) + (nzN (us w 24 &&& 255)) + (nzN (us w 16 &&& 255)) + (nzN (us w 8 &&& 255)) + (nzN (us w 0 &&& 255))))) (Int32.zero_add _) ?_
  refine lv_sipush (v := 160) hx hb dX11_feed_51 (by decide) ?_
  refine lv_icmp_le (tgt := 59) hx hb dX11_feed_54 (by decide) (fun _ => ?_) (fun h9 => absurd (ni_le (by omega)) h9)
  refine lv_iconst (v := 0) hx hb dX11_feed_59 (by decide) ?_
  refine lv_istore (lv' := [(7, .int 0), (6, .int (nI (nzN (us x 24 &&& 255) + (nzN (us x 16 &&& 255)) + (nzN (us x 8 &&& 255)) + (nzN (us x 0 &&& 255)) + (nzN (us y 24 &&& 255)) + (nzN (us y 16 &&& 255)) + (nzN (us y 8 &&& 255)) + (nzN (us y 0 &&& 255)) + (nzN (us z 24 &&& 255)) + (nzN (us z 16 &&& 255)) + (nzN (us z 8 &&& 255)) + (nzN (us z 0 &&& 255)) + (nzN (us v 24 &&& 255)) + (nzN (us v 16 &&& 255)) + (nzN (us v 8 &&& 255)) + (nzN (us v 0 &&& 255)) + (nzN (us w 24 &&& 255)) + (nzN (us w 16 &&& 255)) + (nzN (us w 8 &&& 255)) + (nzN (us w 0 &&& 255))))), (0, .ref (b 0)), (1, .int x), (2, .int y), (3, .int z), (4, .int v), (5, .int w)]) hx hb dX11_feed_60 hl (by decide) rfl (fun ls hl => ?_)
  have hP : va_P D vwCl [((b 0), .inr (11, [.int 0, .ref (b 1), .int (nI 0), .int 0, .int 0, .int 0, .ref (b 6), .ref (b 7), .ref (b 8), .ref (b 9), .ref (b 10), .ref (b 11), .ref (b 12), .int 0, .int 0, .ref (b 15), .ref (b 16), .ref (b 17), .ref (b 18), .ref (b 19), .int 0, .int 0, .ref (b 22), .ref (b 23), .ref (b 24), .int 0, .int 0, .ref (b 27), .int 0, .ref (b 29), .int (-1), .ref (b 31), .ref (b 32), .int (-1), .ref (b 34), .ref (b 35), .int 0, .int 0, .ref (b 38), .ref (b 39), .ref (b 40), .ref (b 41), .ref (b 42), .ref (b 43), .ref (b 44), .ref (b 45), .ref (b 46), .ref (b 47), .int 0, .int 0, .ref (b 50), .ref (b 51), .ref (b 52), .ref (b 53), .ref (b 54), .int (-1), .int 0, .ref (b 57), .ref (b 58), .ref (b 59), .ref (b 60), .ref (b 61), .ref (b 62), .int 0, .int 0, .int 0])), ((b 1), .inl ((cB 1), 160, .inl (f 1)))] H := by rw [nI_0]; exact hP
  have hD : va_D A [((b 0), .inr (11, [.int 0, .ref (b 1), .int (nI 0), .int 0, .int 0, .int 0, .ref (b 6), .ref (b 7), .ref (b 8), .ref (b 9), .ref (b 10), .ref (b 11), .ref (b 12), .int 0, .int 0, .ref (b 15), .ref (b 16), .ref (b 17), .ref (b 18), .ref (b 19), .int 0, .int 0, .ref (b 22), .ref (b 23), .ref (b 24), .int 0, .int 0, .ref (b 27), .int 0, .ref (b 29), .int (-1), .ref (b 31), .ref (b 32), .int (-1), .ref (b 34), .ref (b 35), .int 0, .int 0, .ref (b 38), .ref (b 39), .ref (b 40), .ref (b 41), .ref (b 42), .ref (b 43), .ref (b 44), .ref (b 45), .ref (b 46), .ref (b 47), .int 0, .int 0, .ref (b 50), .ref (b 51), .ref (b 52), .ref (b 53), .ref (b 54), .int (-1), .int 0, .ref (b 57), .ref (b 58), .ref (b 59), .ref (b 60), .ref (b 61), .ref (b 62), .int 0, .int 0, .int 0])), ((b 1), .inl ((cB 1), 160, .inl (f 1)))] := by rw [nI_0]; exact hD
  refine lv_iload hx hb dX11_feed_62 (lv_at hl 0 rfl) ?_
  refine lv_bipush (v := 20) hx hb dX11_feed_64 (by decide) ?_
  refine lv_icmp_ge (tgt := 115) hx hb dX11_feed_66 (by decide) (fun h9 => absurd h9 (by decide)) (fun _ => ?_)
  refine lv_iload_n hx hb dX11_feed_69 rfl (lv_at hl 3 rfl) ?_
  refine lv_iload_n hx hb dX11_feed_70 rfl (lv_at hl 4 rfl) ?_
  refine lv_iload_n hx hb dX11_feed_71 rfl (lv_at hl 5 rfl) ?_
  refine lv_iload hx hb dX11_feed_72 (lv_at hl 6 rfl) ?_
  refine lv_iload hx hb dX11_feed_74 (lv_at hl 7 rfl) ?_
  refine lv_iload hx hb dX11_feed_76 (lv_at hl 0 rfl) ?_
  have hPc := hP.sub (ws' := []) [] rfl
  have hKc := hK.sub (tys' := []) [] rfl
  refine va_calli (va_runS (As := [.int x, .int y, .int z, .int v, .int w, .int 0]) (rest := []) ⟨hx, hb, hml, hown, htg⟩ (c_X11_byteOf_0 l D x y z v w) (cS 6 htg mw_227 kv_X11_byteOf rfl rfl ⟨(Nat.le_of_ble_eq_true rfl), (Nat.le_of_ble_eq_true rfl)⟩) ⟨bl_r, us_r hPc hKc⟩ rfl rfl hl.1 rfl (lv_room (Nat.le_of_ble_eq_true rfl)) dX11_feed_78 ⟨(Nat.le_of_ble_eq_true rfl), (Nat.le_of_ble_eq_true rfl)⟩) hS (fun _ _ h9 => False.elim h9) (fun _ h9 => False.elim h9) (fun r_21 u t H locs ht hvm hw hB hz1 hk1 hS => ?_)
  have hP := ro_keep hP hk1
  subst hw
  refine lv_istore (lv' := [(8, .int (us x 24 &&& 255)), (7, .int 0), (6, .int (nI (nzN (us x 24 &&& 255) + (nzN (us x 16 &&& 255)) + (nzN (us x 8 &&& 255)) + (nzN (us x 0 &&& 255)) + (nzN (us y 24 &&& 255)) + (nzN (us y 16 &&& 255)) + (nzN (us y 8 &&& 255)) + (nzN (us y 0 &&& 255)) + (nzN (us z 24 &&& 255)) + (nzN (us z 16 &&& 255)) + (nzN (us z 8 &&& 255)) + (nzN (us z 0 &&& 255)) + (nzN (us v 24 &&& 255)) + (nzN (us v 16 &&& 255)) + (nzN (us v 8 &&& 255)) + (nzN (us v 0 &&& 255)) + (nzN (us w 24 &&& 255)) + (nzN (us w 16 &&& 255)) + (nzN (us w 8 &&& 255)) + (nzN (us w 0 &&& 255))))), (0, .ref (b 0)), (1, .int x), (2, .int y), (3, .int z), (4, .int v), (5, .int w)]) hx hb dX11_feed_81 hl (by decide) rfl (fun ls hl => ?_)
  refine lv_iload hx hb dX11_feed_83 (lv_at hl 0 rfl) ?_
  have hz0 := nzN_le (us x 24 &&& 255)
  refine mf_blk hx hb htg hown hK hP hD hS (by omega) (lv_sub hl [3, 0] rfl) (fun g_22 H locs hP hD hS => ?_)
  have hP : va_P D vwCl [((b 0), .inr (11, [.int 0, .ref (b 1), .int (nI (0 + nzN (us x 24 &&& 255))), .int 0, .int 0, .int 0, .ref (b 6), .ref (b 7), .ref (b 8), .ref (b 9), .ref (b 10), .ref (b 11), .ref (b 12), .int 0, .int 0, .ref (b 15), .ref (b 16), .ref (b 17), .ref (b 18), .ref (b 19), .int 0, .int 0, .ref (b 22), .ref (b 23), .ref (b 24), .int 0, .int 0, .ref (b 27), .int 0, .ref (b 29), .int (-1), .ref (b 31), .ref (b 32), .int (-1), .ref (b 34), .ref (b 35), .int 0, .int 0, .ref (b 38), .ref (b 39), .ref (b 40), .ref (b 41), .ref (b 42), .ref (b 43), .ref (b 44), .ref (b 45), .ref (b 46), .ref (b 47), .int 0, .int 0, .ref (b 50), .ref (b 51), .ref (b 52), .ref (b 53), .ref (b 54), .int (-1), .int 0, .ref (b 57), .ref (b 58), .ref (b 59), .ref (b 60), .ref (b 61), .ref (b 62), .int 0, .int 0, .int 0])), ((b 1), .inl ((cB 1), 160, .inl g_22))] H := hP
  have hD : va_D A [((b 0), .inr (11, [.int 0, .ref (b 1), .int (nI (0 + nzN (us x 24 &&& 255))), .int 0, .int 0, .int 0, .ref (b 6), .ref (b 7), .ref (b 8), .ref (b 9), .ref (b 10), .ref (b 11), .ref (b 12), .int 0, .int 0, .ref (b 15), .ref (b 16), .ref (b 17), .ref (b 18), .ref (b 19), .int 0, .int 0, .ref (b 22), .ref (b 23), .ref (b 24), .int 0, .int 0, .ref (b 27), .int 0, .ref (b 29), .int (-1), .ref (b 31), .ref (b 32), .int (-1), .ref (b 34), .ref (b 35), .int 0, .int 0, .ref (b 38), .ref (b 39), .ref (b 40), .ref (b 41), .ref (b 42), .ref (b 43), .ref (b 44), .ref (b 45), .ref (b 46), .ref (b 47), .int 0, .int 0, .ref (b 50), .ref (b 51), .ref (b 52), .ref (b 53), .ref (b 54), .int (-1), .int 0, .ref (b 57), .ref (b 58), .ref (b 59), .ref (b 60), .ref (b 61), .ref (b 62), .int 0, .int 0, .int 0])), ((b 1), .inl ((cB 1), 160, .inl g_22))] := hD
  refine lv_iinc (v := 1) (lv' := [(7, .int 1), (8, .int (us x 24 &&& 255)), (6, .int (nI (nzN (us x 24 &&& 255) + (nzN (us x 16 &&& 255)) + (nzN (us x 8 &&& 255)) + (nzN (us x 0 &&& 255)) + (nzN (us y 24 &&& 255)) + (nzN (us y 16 &&& 255)) + (nzN (us y 8 &&& 255)) + (nzN (us y 0 &&& 255)) + (nzN (us z 24 &&& 255)) + (nzN (us z 16 &&& 255)) + (nzN (us z 8 &&& 255)) + (nzN (us z 0 &&& 255)) + (nzN (us v 24 &&& 255)) + (nzN (us v 16 &&& 255)) + (nzN (us v 8 &&& 255)) + (nzN (us v 0 &&& 255)) + (nzN (us w 24 &&& 255)) + (nzN (us w 16 &&& 255)) + (nzN (us w 8 &&& 255)) + (nzN (us w 0 &&& 255))))), (0, .ref (b 0)), (1, .int x), (2, .int y), (3, .int z), (4, .int v), (5, .int w)]) hx hb dX11_feed_109 hl (k := 1) rfl (by decide) (by decide) rfl (fun ls hl => ?_)
  refine lv_goto (tgt := 62) hx hb dX11_feed_112 (by decide) ?_
  refine lv_iload hx hb dX11_feed_62 (lv_at hl 0 rfl) ?_
  refine lv_bipush (v := 20) hx hb dX11_feed_64 (by decide) ?_
  refine lv_icmp_ge (tgt := 115) hx hb dX11_feed_66 (by decide) (fun h9 => absurd h9 (by decide)) (fun _ => ?_)
  refine lv_iload_n hx hb dX11_feed_69 rfl (lv_at hl 4 rfl) ?_
  refine lv_iload_n hx hb dX11_feed_70 rfl (lv_at hl 5 rfl) ?_
  refine lv_iload_n hx hb dX11_feed_71 rfl (lv_at hl 6 rfl) ?_
  refine lv_iload hx hb dX11_feed_72 (lv_at hl 7 rfl) ?_
  refine lv_iload hx hb dX11_feed_74 (lv_at hl 8 rfl) ?_
  refine lv_iload hx hb dX11_feed_76 (lv_at hl 0 rfl) ?_
  have hPc := hP.sub (ws' := []) [] rfl
  have hKc := hK.sub (tys' := []) [] rfl
  refine va_calli (va_runS (As := [.int x, .int y, .int z, .int v, .int w, .int 1]) (rest := []) ⟨hx, hb, hml, hown, htg⟩ (c_X11_byteOf_1 l D x y z v w) (cS 6 htg mw_227 kv_X11_byteOf rfl rfl ⟨(Nat.le_of_ble_eq_true rfl), (Nat.le_of_ble_eq_true rfl)⟩) ⟨bl_r, us_r hPc hKc⟩ rfl rfl hl.1 rfl (lv_room (Nat.le_of_ble_eq_true rfl)) dX11_feed_78 ⟨(Nat.le_of_ble_eq_true rfl), (Nat.le_of_ble_eq_true rfl)⟩) hS (fun _ _ h9 => False.elim h9) (fun _ h9 => False.elim h9) (fun r_23 u t H locs ht hvm hw hB hz1 hk1 hS => ?_)
  have hP := ro_keep hP hk1
  subst hw
  refine lv_istore (lv' := [(8, .int (us x 16 &&& 255)), (7, .int 1), (6, .int (nI (nzN (us x 24 &&& 255) + (nzN (us x 16 &&& 255)) + (nzN (us x 8 &&& 255)) + (nzN (us x 0 &&& 255)) + (nzN (us y 24 &&& 255)) + (nzN (us y 16 &&& 255)) + (nzN (us y 8 &&& 255)) + (nzN (us y 0 &&& 255)) + (nzN (us z 24 &&& 255)) + (nzN (us z 16 &&& 255)) + (nzN (us z 8 &&& 255)) + (nzN (us z 0 &&& 255)) + (nzN (us v 24 &&& 255)) + (nzN (us v 16 &&& 255)) + (nzN (us v 8 &&& 255)) + (nzN (us v 0 &&& 255)) + (nzN (us w 24 &&& 255)) + (nzN (us w 16 &&& 255)) + (nzN (us w 8 &&& 255)) + (nzN (us w 0 &&& 255))))), (0, .ref (b 0)), (1, .int x), (2, .int y), (3, .int z), (4, .int v), (5, .int w)]) hx hb dX11_feed_81 hl (by decide) rfl (fun ls hl => ?_)
  refine lv_iload hx hb dX11_feed_83 (lv_at hl 0 rfl) ?_
  have hz1 := nzN_le (us x 16 &&& 255)
  refine mf_blk hx hb htg hown hK hP hD hS (by omega) (lv_sub hl [3, 0] rfl) (fun g_24 H locs hP hD hS => ?_)
  have hP : va_P D vwCl [((b 0), .inr (11, [.int 0, .ref (b 1), .int (nI (0 + nzN (us x 24 &&& 255) + nzN (us x 16 &&& 255))), .int 0, .int 0, .int 0, .ref (b 6), .ref (b 7), .ref (b 8), .ref (b 9), .ref (b 10), .ref (b 11), .ref (b 12), .int 0, .int 0, .ref (b 15), .ref (b 16), .ref (b 17), .ref (b 18), .ref (b 19), .int 0, .int 0, .ref (b 22), .ref (b 23), .ref (b 24), .int 0, .int 0, .ref (b 27), .int 0, .ref (b 29), .int (-1), .ref (b 31), .ref (b 32), .int (-1), .ref (b 34), .ref (b 35), .int 0, .int 0, .ref (b 38), .ref (b 39), .ref (b 40), .ref (b 41), .ref (b 42), .ref (b 43), .ref (b 44), .ref (b 45), .ref (b 46), .ref (b 47), .int 0, .int 0, .ref (b 50), .ref (b 51), .ref (b 52), .ref (b 53), .ref (b 54), .int (-1), .int 0, .ref (b 57), .ref (b 58), .ref (b 59), .ref (b 60), .ref (b 61), .ref (b 62), .int 0, .int 0, .int 0])), ((b 1), .inl ((cB 1), 160, .inl g_24))] H := hP
  have hD : va_D A [((b 0), .inr (11, [.int 0, .ref (b 1), .int (nI (0 + nzN (us x 24 &&& 255) + nzN (us x 16 &&& 255))), .int 0, .int 0, .int 0, .ref (b 6), .ref (b 7), .ref (b 8), .ref (b 9), .ref (b 10), .ref (b 11), .ref (b 12), .int 0, .int 0, .ref (b 15), .ref (b 16), .ref (b 17), .ref (b 18), .ref (b 19), .int 0, .int 0, .ref (b 22), .ref (b 23), .ref (b 24), .int 0, .int 0, .ref (b 27), .int 0, .ref (b 29), .int (-1), .ref (b 31), .ref (b 32), .int (-1), .ref (b 34), .ref (b 35), .int 0, .int 0, .ref (b 38), .ref (b 39), .ref (b 40), .ref (b 41), .ref (b 42), .ref (b 43), .ref (b 44), .ref (b 45), .ref (b 46), .ref (b 47), .int 0, .int 0, .ref (b 50), .ref (b 51), .ref (b 52), .ref (b 53), .ref (b 54), .int (-1), .int 0, .ref (b 57), .ref (b 58), .ref (b 59), .ref (b 60), .ref (b 61), .ref (b 62), .int 0, .int 0, .int 0])), ((b 1), .inl ((cB 1), 160, .inl g_24))] := hD
  refine lv_iinc (v := 2) (lv' := [(7, .int 2), (8, .int (us x 16 &&& 255)), (6, .int (nI (nzN (us x 24 &&& 255) + (nzN (us x 16 &&& 255)) + (nzN (us x 8 &&& 255)) + (nzN (us x 0 &&& 255)) + (nzN (us y 24 &&& 255)) + (nzN (us y 16 &&& 255)) + (nzN (us y 8 &&& 255)) + (nzN (us y 0 &&& 255)) + (nzN (us z 24 &&& 255)) + (nzN (us z 16 &&& 255)) + (nzN (us z 8 &&& 255)) + (nzN (us z 0 &&& 255)) + (nzN (us v 24 &&& 255)) + (nzN (us v 16 &&& 255)) + (nzN (us v 8 &&& 255)) + (nzN (us v 0 &&& 255)) + (nzN (us w 24 &&& 255)) + (nzN (us w 16 &&& 255)) + (nzN (us w 8 &&& 255)) + (nzN (us w 0 &&& 255))))), (0, .ref (b 0)), (1, .int x), (2, .int y), (3, .int z), (4, .int v), (5, .int w)]) hx hb dX11_feed_109 hl (k := 1) rfl (by decide) (by decide) rfl (fun ls hl => ?_)
  refine lv_goto (tgt := 62) hx hb dX11_feed_112 (by decide) ?_
  refine lv_iload hx hb dX11_feed_62 (lv_at hl 0 rfl) ?_
  refine lv_bipush (v := 20) hx hb dX11_feed_64 (by decide) ?_
  refine lv_icmp_ge (tgt := 115) hx hb dX11_feed_66 (by decide) (fun h9 => absurd h9 (by decide)) (fun _ => ?_)
  refine lv_iload_n hx hb dX11_feed_69 rfl (lv_at hl 4 rfl) ?_
  refine lv_iload_n hx hb dX11_feed_70 rfl (lv_at hl 5 rfl) ?_
  refine lv_iload_n hx hb dX11_feed_71 rfl (lv_at hl 6 rfl) ?_
  refine lv_iload hx hb dX11_feed_72 (lv_at hl 7 rfl) ?_
  refine lv_iload hx hb dX11_feed_74 (lv_at hl 8 rfl) ?_
  refine lv_iload hx hb dX11_feed_76 (lv_at hl 0 rfl) ?_
  have hPc := hP.sub (ws' := []) [] rfl
  have hKc := hK.sub (tys' := []) [] rfl
  refine va_calli (va_runS (As := [.int x, .int y, .int z, .int v, .int w, .int 2]) (rest := []) ⟨hx, hb, hml, hown, htg⟩ (c_X11_byteOf_2 l D x y z v w) (cS 6 htg mw_227 kv_X11_byteOf rfl rfl ⟨(Nat.le_of_ble_eq_true rfl), (Nat.le_of_ble_eq_true rfl)⟩) ⟨bl_r, us_r hPc hKc⟩ rfl rfl hl.1 rfl (lv_room (Nat.le_of_ble_eq_true rfl)) dX11_feed_78 ⟨(Nat.le_of_ble_eq_true rfl), (Nat.le_of_ble_eq_true rfl)⟩) hS (fun _ _ h9 => False.elim h9) (fun _ h9 => False.elim h9) (fun r_25 u t H locs ht hvm hw hB hz1 hk1 hS => ?_)
  have hP := ro_keep hP hk1
  subst hw
  refine lv_istore (lv' := [(8, .int (us x 8 &&& 255)), (7, .int 2), (6, .int (nI (nzN (us x 24 &&& 255) + (nzN (us x 16 &&& 255)) + (nzN (us x 8 &&& 255)) + (nzN (us x 0 &&& 255)) + (nzN (us y 24 &&& 255)) + (nzN (us y 16 &&& 255)) + (nzN (us y 8 &&& 255)) + (nzN (us y 0 &&& 255)) + (nzN (us z 24 &&& 255)) + (nzN (us z 16 &&& 255)) + (nzN (us z 8 &&& 255)) + (nzN (us z 0 &&& 255)) + (nzN (us v 24 &&& 255)) + (nzN (us v 16 &&& 255)) + (nzN (us v 8 &&& 255)) + (nzN (us v 0 &&& 255)) + (nzN (us w 24 &&& 255)) + (nzN (us w 16 &&& 255)) + (nzN (us w 8 &&& 255)) + (nzN (us w 0 &&& 255))))), (0, .ref (b 0)), (1, .int x), (2, .int y), (3, .int z), (4, .int v), (5, .int w)]) hx hb dX11_feed_81 hl (by decide) rfl (fun ls hl => ?_)
  refine lv_iload hx hb dX11_feed_83 (lv_at hl 0 rfl) ?_
  have hz2 := nzN_le (us x 8 &&& 255)
  refine mf_blk hx hb htg hown hK hP hD hS (by omega) (lv_sub hl [3, 0] rfl) (fun g_26 H locs hP hD hS => ?_)
  have hP : va_P D vwCl [((b 0), .inr (11, [.int 0, .ref (b 1), .int (nI (0 + nzN (us x 24 &&& 255) + nzN (us x 16 &&& 255) + nzN (us x 8 &&& 255))), .int 0, .int 0, .int 0, .ref (b 6), .ref (b 7), .ref (b 8), .ref (b 9), .ref (b 10), .ref (b 11), .ref (b 12), .int 0, .int 0, .ref (b 15), .ref (b 16), .ref (b 17), .ref (b 18), .ref (b 19), .int 0, .int 0, .ref (b 22), .ref (b 23), .ref (b 24), .int 0, .int 0, .ref (b 27), .int 0, .ref (b 29), .int (-1), .ref (b 31), .ref (b 32), .int (-1), .ref (b 34), .ref (b 35), .int 0, .int 0, .ref (b 38), .ref (b 39), .ref (b 40), .ref (b 41), .ref (b 42), .ref (b 43), .ref (b 44), .ref (b 45), .ref (b 46), .ref (b 47), .int 0, .int 0, .ref (b 50), .ref (b 51), .ref (b 52), .ref (b 53), .ref (b 54), .int (-1), .int 0, .ref (b 57), .ref (b 58), .ref (b 59), .ref (b 60), .ref (b 61), .ref (b 62), .int 0, .int 0, .int 0])), ((b 1), .inl ((cB 1), 160, .inl g_26))] H := hP
  have hD : va_D A [((b 0), .inr (11, [.int 0, .ref (b 1), .int (nI (0 + nzN (us x 24 &&& 255) + nzN (us x 16 &&& 255) + nzN (us x 8 &&& 255))), .int 0, .int 0, .int 0, .ref (b 6), .ref (b 7), .ref (b 8), .ref (b 9), .ref (b 10), .ref (b 11), .ref (b 12), .int 0, .int 0, .ref (b 15), .ref (b 16), .ref (b 17), .ref (b 18), .ref (b 19), .int 0, .int 0, .ref (b 22), .ref (b 23), .ref (b 24), .int 0, .int 0, .ref (b 27), .int 0, .ref (b 29), .int (-1), .ref (b 31), .ref (b 32), .int (-1), .ref (b 34), .ref (b 35), .int 0, .int 0, .ref (b 38), .ref (b 39), .ref (b 40), .ref (b 41), .ref (b 42), .ref (b 43), .ref (b 44), .ref (b 45), .ref (b 46), .ref (b 47), .int 0, .int 0, .ref (b 50), .ref (b 51), .ref (b 52), .ref (b 53), .ref (b 54), .int (-1), .int 0, .ref (b 57), .ref (b 58), .ref (b 59), .ref (b 60), .ref (b 61), .ref (b 62), .int 0, .int 0, .int 0])), ((b 1), .inl ((cB 1), 160, .inl g_26))] := hD
  refine lv_iinc (v := 3) (lv' := [(7, .int 3), (8, .int (us x 8 &&& 255)), (6, .int (nI (nzN (us x 24 &&& 255) + (nzN (us x 16 &&& 255)) + (nzN (us x 8 &&& 255)) + (nzN (us x 0 &&& 255)) + (nzN (us y 24 &&& 255)) + (nzN (us y 16 &&& 255)) + (nzN (us y 8 &&& 255)) + (nzN (us y 0 &&& 255)) + (nzN (us z 24 &&& 255)) + (nzN (us z 16 &&& 255)) + (nzN (us z 8 &&& 255)) + (nzN (us z 0 &&& 255)) + (nzN (us v 24 &&& 255)) + (nzN (us v 16 &&& 255)) + (nzN (us v 8 &&& 255)) + (nzN (us v 0 &&& 255)) + (nzN (us w 24 &&& 255)) + (nzN (us w 16 &&& 255)) + (nzN (us w 8 &&& 255)) + (nzN (us w 0 &&& 255))))), (0, .ref (b 0)), (1, .int x), (2, .int y), (3, .int z), (4, .int v), (5, .int w)]) hx hb dX11_feed_109 hl (k := 1) rfl (by decide) (by decide) rfl (fun ls hl => ?_)
  refine lv_goto (tgt := 62) hx hb dX11_feed_112 (by decide) ?_
  refine lv_iload hx hb dX11_feed_62 (lv_at hl 0 rfl) ?_
  refine lv_bipush (v := 20) hx hb dX11_feed_64 (by decide) ?_
  refine lv_icmp_ge (tgt := 115) hx hb dX11_feed_66 (by decide) (fun h9 => absurd h9 (by decide)) (fun _ => ?_)
  refine lv_iload_n hx hb dX11_feed_69 rfl (lv_at hl 4 rfl) ?_
  refine lv_iload_n hx hb dX11_feed_70 rfl (lv_at hl 5 rfl) ?_
  refine lv_iload_n hx hb dX11_feed_71 rfl (lv_at hl 6 rfl) ?_
  refine lv_iload hx hb dX11_feed_72 (lv_at hl 7 rfl) ?_
  refine lv_iload hx hb dX11_feed_74 (lv_at hl 8 rfl) ?_
  refine lv_iload hx hb dX11_feed_76 (lv_at hl 0 rfl) ?_
  have hPc := hP.sub (ws' := []) [] rfl
  have hKc := hK.sub (tys' := []) [] rfl
  refine va_calli (va_runS (As := [.int x, .int y, .int z, .int v, .int w, .int 3]) (rest := []) ⟨hx, hb, hml, hown, htg⟩ (c_X11_byteOf_3 l D x y z v w) (cS 6 htg mw_227 kv_X11_byteOf rfl rfl ⟨(Nat.le_of_ble_eq_true rfl), (Nat.le_of_ble_eq_true rfl)⟩) ⟨bl_r, us_r hPc hKc⟩ rfl rfl hl.1 rfl (lv_room (Nat.le_of_ble_eq_true rfl)) dX11_feed_78 ⟨(Nat.le_of_ble_eq_true rfl), (Nat.le_of_ble_eq_true rfl)⟩) hS (fun _ _ h9 => False.elim h9) (fun _ h9 => False.elim h9) (fun r_27 u t H locs ht hvm hw hB hz1 hk1 hS => ?_)
  have hP := ro_keep hP hk1
  subst hw
  refine lv_istore (lv' := [(8, .int (us x 0 &&& 255)), (7, .int 3), (6, .int (nI (nzN (us x 24 &&& 255) + (nzN (us x 16 &&& 255)) + (nzN (us x 8 &&& 255)) + (nzN (us x 0 &&& 255)) + (nzN (us y 24 &&& 255)) + (nzN (us y 16 &&& 255)) + (nzN (us y 8 &&& 255)) + (nzN (us y 0 &&& 255)) + (nzN (us z 24 &&& 255)) + (nzN (us z 16 &&& 255)) + (nzN (us z 8 &&& 255)) + (nzN (us z 0 &&& 255)) + (nzN (us v 24 &&& 255)) + (nzN (us v 16 &&& 255)) + (nzN (us v 8 &&& 255)) + (nzN (us v 0 &&& 255)) + (nzN (us w 24 &&& 255)) + (nzN (us w 16 &&& 255)) + (nzN (us w 8 &&& 255)) + (nzN (us w 0 &&& 255))))), (0, .ref (b 0)), (1, .int x), (2, .int y), (3, .int z), (4, .int v), (5, .int w)]) hx hb dX11_feed_81 hl (by decide) rfl (fun ls hl => ?_)
  refine lv_iload hx hb dX11_feed_83 (lv_at hl 0 rfl) ?_
  have hz3 := nzN_le (us x 0 &&& 255)
  refine mf_blk hx hb htg hown hK hP hD hS (by omega) (lv_sub hl [3, 0] rfl) (fun g_28 H locs hP hD hS => ?_)
  have hP : va_P D vwCl [((b 0), .inr (11, [.int 0, .ref (b 1), .int (nI (0 + nzN (us x 24 &&& 255) + nzN (us x 16 &&& 255) + nzN (us x 8 &&& 255) + nzN (us x 0 &&& 255))), .int 0, .int 0, .int 0, .ref (b 6), .ref (b 7), .ref (b 8), .ref (b 9), .ref (b 10), .ref (b 11), .ref (b 12), .int 0, .int 0, .ref (b 15), .ref (b 16), .ref (b 17), .ref (b 18), .ref (b 19), .int 0, .int 0, .ref (b 22), .ref (b 23), .ref (b 24), .int 0, .int 0, .ref (b 27), .int 0, .ref (b 29), .int (-1), .ref (b 31), .ref (b 32), .int (-1), .ref (b 34), .ref (b 35), .int 0, .int 0, .ref (b 38), .ref (b 39), .ref (b 40), .ref (b 41), .ref (b 42), .ref (b 43), .ref (b 44), .ref (b 45), .ref (b 46), .ref (b 47), .int 0, .int 0, .ref (b 50), .ref (b 51), .ref (b 52), .ref (b 53), .ref (b 54), .int (-1), .int 0, .ref (b 57), .ref (b 58), .ref (b 59), .ref (b 60), .ref (b 61), .ref (b 62), .int 0, .int 0, .int 0])), ((b 1), .inl ((cB 1), 160, .inl g_28))] H := hP
  have hD : va_D A [((b 0), .inr (11, [.int 0, .ref (b 1), .int (nI (0 + nzN (us x 24 &&& 255) + nzN (us x 16 &&& 255) + nzN (us x 8 &&& 255) + nzN (us x 0 &&& 255))), .int 0, .int 0, .int 0, .ref (b 6), .ref (b 7), .ref (b 8), .ref (b 9), .ref (b 10), .ref (b 11), .ref (b 12), .int 0, .int 0, .ref (b 15), .ref (b 16), .ref (b 17), .ref (b 18), .ref (b 19), .int 0, .int 0, .ref (b 22), .ref (b 23), .ref (b 24), .int 0, .int 0, .ref (b 27), .int 0, .ref (b 29), .int (-1), .ref (b 31), .ref (b 32), .int (-1), .ref (b 34), .ref (b 35), .int 0, .int 0, .ref (b 38), .ref (b 39), .ref (b 40), .ref (b 41), .ref (b 42), .ref (b 43), .ref (b 44), .ref (b 45), .ref (b 46), .ref (b 47), .int 0, .int 0, .ref (b 50), .ref (b 51), .ref (b 52), .ref (b 53), .ref (b 54), .int (-1), .int 0, .ref (b 57), .ref (b 58), .ref (b 59), .ref (b 60), .ref (b 61), .ref (b 62), .int 0, .int 0, .int 0])), ((b 1), .inl ((cB 1), 160, .inl g_28))] := hD
  refine lv_iinc (v := 4) (lv' := [(7, .int 4), (8, .int (us x 0 &&& 255)), (6, .int (nI (nzN (us x 24 &&& 255) + (nzN (us x 16 &&& 255)) + (nzN (us x 8 &&& 255)) + (nzN (us x 0 &&& 255)) + (nzN (us y 24 &&& 255)) + (nzN (us y 16 &&& 255)) + (nzN (us y 8 &&& 255)) + (nzN (us y 0 &&& 255)) + (nzN (us z 24 &&& 255)) + (nzN (us z 16 &&& 255)) + (nzN (us z 8 &&& 255)) + (nzN (us z 0 &&& 255)) + (nzN (us v 24 &&& 255)) + (nzN (us v 16 &&& 255)) + (nzN (us v 8 &&& 255)) + (nzN (us v 0 &&& 255)) + (nzN (us w 24 &&& 255)) + (nzN (us w 16 &&& 255)) + (nzN (us w 8 &&& 255)) + (nzN (us w 0 &&& 255))))), (0, .ref (b 0)), (1, .int x), (2, .int y), (3, .int z), (4, .int v), (5, .int w)]) hx hb dX11_feed_109 hl (k := 1) rfl (by decide) (by decide) rfl (fun ls hl => ?_)
  refine lv_goto (tgt := 62) hx hb dX11_feed_112 (by decide) ?_
  refine lv_iload hx hb dX11_feed_62 (lv_at hl 0 rfl) ?_
  refine lv_bipush (v := 20) hx hb dX11_feed_64 (by decide) ?_
  refine lv_icmp_ge (tgt := 115) hx hb dX11_feed_66 (by decide) (fun h9 => absurd h9 (by decide)) (fun _ => ?_)
  refine lv_iload_n hx hb dX11_feed_69 rfl (lv_at hl 4 rfl) ?_
  refine lv_iload_n hx hb dX11_feed_70 rfl (lv_at hl 5 rfl) ?_
  refine lv_iload_n hx hb dX11_feed_71 rfl (lv_at hl 6 rfl) ?_
  refine lv_iload hx hb dX11_feed_72 (lv_at hl 7 rfl) ?_
  refine lv_iload hx hb dX11_feed_74 (lv_at hl 8 rfl) ?_
  refine lv_iload hx hb dX11_feed_76 (lv_at hl 0 rfl) ?_
  have hPc := hP.sub (ws' := []) [] rfl
  have hKc := hK.sub (tys' := []) [] rfl
  refine va_calli (va_runS (As := [.int x, .int y, .int z, .int v, .int w, .int 4]) (rest := []) ⟨hx, hb, hml, hown, htg⟩ (c_X11_byteOf_4 l D x y z v w) (cS 6 htg mw_227 kv_X11_byteOf rfl rfl ⟨(Nat.le_of_ble_eq_true rfl), (Nat.le_of_ble_eq_true rfl)⟩) ⟨bl_r, us_r hPc hKc⟩ rfl rfl hl.1 rfl (lv_room (Nat.le_of_ble_eq_true rfl)) dX11_feed_78 ⟨(Nat.le_of_ble_eq_true rfl), (Nat.le_of_ble_eq_true rfl)⟩) hS (fun _ _ h9 => False.elim h9) (fun _ h9 => False.elim h9) (fun r_29 u t H locs ht hvm hw hB hz1 hk1 hS => ?_)
  have hP := ro_keep hP hk1
  subst hw
  refine lv_istore (lv' := [(8, .int (us y 24 &&& 255)), (7, .int 4), (6, .int (nI (nzN (us x 24 &&& 255) + (nzN (us x 16 &&& 255)) + (nzN (us x 8 &&& 255)) + (nzN (us x 0 &&& 255)) + (nzN (us y 24 &&& 255)) + (nzN (us y 16 &&& 255)) + (nzN (us y 8 &&& 255)) + (nzN (us y 0 &&& 255)) + (nzN (us z 24 &&& 255)) + (nzN (us z 16 &&& 255)) + (nzN (us z 8 &&& 255)) + (nzN (us z 0 &&& 255)) + (nzN (us v 24 &&& 255)) + (nzN (us v 16 &&& 255)) + (nzN (us v 8 &&& 255)) + (nzN (us v 0 &&& 255)) + (nzN (us w 24 &&& 255)) + (nzN (us w 16 &&& 255)) + (nzN (us w 8 &&& 255)) + (nzN (us w 0 &&& 255))))), (0, .ref (b 0)), (1, .int x), (2, .int y), (3, .int z), (4, .int v), (5, .int w)]) hx hb dX11_feed_81 hl (by decide) rfl (fun ls hl => ?_)
  refine lv_iload hx hb dX11_feed_83 (lv_at hl 0 rfl) ?_
  have hz4 := nzN_le (us y 24 &&& 255)
  refine mf_blk hx hb htg hown hK hP hD hS (by omega) (lv_sub hl [3, 0] rfl) (fun g_30 H locs hP hD hS => ?_)
  have hP : va_P D vwCl [((b 0), .inr (11, [.int 0, .ref (b 1), .int (nI (0 + nzN (us x 24 &&& 255) + nzN (us x 16 &&& 255) + nzN (us x 8 &&& 255) + nzN (us x 0 &&& 255) + nzN (us y 24 &&& 255))), .int 0, .int 0, .int 0, .ref (b 6), .ref (b 7), .ref (b 8), .ref (b 9), .ref (b 10), .ref (b 11), .ref (b 12), .int 0, .int 0, .ref (b 15), .ref (b 16), .ref (b 17), .ref (b 18), .ref (b 19), .int 0, .int 0, .ref (b 22), .ref (b 23), .ref (b 24), .int 0, .int 0, .ref (b 27), .int 0, .ref (b 29), .int (-1), .ref (b 31), .ref (b 32), .int (-1), .ref (b 34), .ref (b 35), .int 0, .int 0, .ref (b 38), .ref (b 39), .ref (b 40), .ref (b 41), .ref (b 42), .ref (b 43), .ref (b 44), .ref (b 45), .ref (b 46), .ref (b 47), .int 0, .int 0, .ref (b 50), .ref (b 51), .ref (b 52), .ref (b 53), .ref (b 54), .int (-1), .int 0, .ref (b 57), .ref (b 58), .ref (b 59), .ref (b 60), .ref (b 61), .ref (b 62), .int 0, .int 0, .int 0])), ((b 1), .inl ((cB 1), 160, .inl g_30))] H := hP
  have hD : va_D A [((b 0), .inr (11, [.int 0, .ref (b 1), .int (nI (0 + nzN (us x 24 &&& 255) + nzN (us x 16 &&& 255) + nzN (us x 8 &&& 255) + nzN (us x 0 &&& 255) + nzN (us y 24 &&& 255))), .int 0, .int 0, .int 0, .ref (b 6), .ref (b 7), .ref (b 8), .ref (b 9), .ref (b 10), .ref (b 11), .ref (b 12), .int 0, .int 0, .ref (b 15), .ref (b 16), .ref (b 17), .ref (b 18), .ref (b 19), .int 0, .int 0, .ref (b 22), .ref (b 23), .ref (b 24), .int 0, .int 0, .ref (b 27), .int 0, .ref (b 29), .int (-1), .ref (b 31), .ref (b 32), .int (-1), .ref (b 34), .ref (b 35), .int 0, .int 0, .ref (b 38), .ref (b 39), .ref (b 40), .ref (b 41), .ref (b 42), .ref (b 43), .ref (b 44), .ref (b 45), .ref (b 46), .ref (b 47), .int 0, .int 0, .ref (b 50), .ref (b 51), .ref (b 52), .ref (b 53), .ref (b 54), .int (-1), .int 0, .ref (b 57), .ref (b 58), .ref (b 59), .ref (b 60), .ref (b 61), .ref (b 62), .int 0, .int 0, .int 0])), ((b 1), .inl ((cB 1), 160, .inl g_30))] := hD
  refine lv_iinc (v := 5) (lv' := [(7, .int 5), (8, .int (us y 24 &&& 255)), (6, .int (nI (nzN (us x 24 &&& 255) + (nzN (us x 16 &&& 255)) + (nzN (us x 8 &&& 255)) + (nzN (us x 0 &&& 255)) + (nzN (us y 24 &&& 255)) + (nzN (us y 16 &&& 255)) + (nzN (us y 8 &&& 255)) + (nzN (us y 0 &&& 255)) + (nzN (us z 24 &&& 255)) + (nzN (us z 16 &&& 255)) + (nzN (us z 8 &&& 255)) + (nzN (us z 0 &&& 255)) + (nzN (us v 24 &&& 255)) + (nzN (us v 16 &&& 255)) + (nzN (us v 8 &&& 255)) + (nzN (us v 0 &&& 255)) + (nzN (us w 24 &&& 255)) + (nzN (us w 16 &&& 255)) + (nzN (us w 8 &&& 255)) + (nzN (us w 0 &&& 255))))), (0, .ref (b 0)), (1, .int x), (2, .int y), (3, .int z), (4, .int v), (5, .int w)]) hx hb dX11_feed_109 hl (k := 1) rfl (by decide) (by decide) rfl (fun ls hl => ?_)
  refine lv_goto (tgt := 62) hx hb dX11_feed_112 (by decide) ?_
  refine lv_iload hx hb dX11_feed_62 (lv_at hl 0 rfl) ?_
  refine lv_bipush (v := 20) hx hb dX11_feed_64 (by decide) ?_
  refine lv_icmp_ge (tgt := 115) hx hb dX11_feed_66 (by decide) (fun h9 => absurd h9 (by decide)) (fun _ => ?_)
  refine lv_iload_n hx hb dX11_feed_69 rfl (lv_at hl 4 rfl) ?_
  refine lv_iload_n hx hb dX11_feed_70 rfl (lv_at hl 5 rfl) ?_
  refine lv_iload_n hx hb dX11_feed_71 rfl (lv_at hl 6 rfl) ?_
  refine lv_iload hx hb dX11_feed_72 (lv_at hl 7 rfl) ?_
  refine lv_iload hx hb dX11_feed_74 (lv_at hl 8 rfl) ?_
  refine lv_iload hx hb dX11_feed_76 (lv_at hl 0 rfl) ?_
  have hPc := hP.sub (ws' := []) [] rfl
  have hKc := hK.sub (tys' := []) [] rfl
  refine va_calli (va_runS (As := [.int x, .int y, .int z, .int v, .int w, .int 5]) (rest := []) ⟨hx, hb, hml, hown, htg⟩ (c_X11_byteOf_5 l D x y z v w) (cS 6 htg mw_227 kv_X11_byteOf rfl rfl ⟨(Nat.le_of_ble_eq_true rfl), (Nat.le_of_ble_eq_true rfl)⟩) ⟨bl_r, us_r hPc hKc⟩ rfl rfl hl.1 rfl (lv_room (Nat.le_of_ble_eq_true rfl)) dX11_feed_78 ⟨(Nat.le_of_ble_eq_true rfl), (Nat.le_of_ble_eq_true rfl)⟩) hS (fun _ _ h9 => False.elim h9) (fun _ h9 => False.elim h9) (fun r_31 u t H locs ht hvm hw hB hz1 hk1 hS => ?_)
  have hP := ro_keep hP hk1
  subst hw
  refine lv_istore (lv' := [(8, .int (us y 16 &&& 255)), (7, .int 5), (6, .int (nI (nzN (us x 24 &&& 255) + (nzN (us x 16 &&& 255)) + (nzN (us x 8 &&& 255)) + (nzN (us x 0 &&& 255)) + (nzN (us y 24 &&& 255)) + (nzN (us y 16 &&& 255)) + (nzN (us y 8 &&& 255)) + (nzN (us y 0 &&& 255)) + (nzN (us z 24 &&& 255)) + (nzN (us z 16 &&& 255)) + (nzN (us z 8 &&& 255)) + (nzN (us z 0 &&& 255)) + (nzN (us v 24 &&& 255)) + (nzN (us v 16 &&& 255)) + (nzN (us v 8 &&& 255)) + (nzN (us v 0 &&& 255)) + (nzN (us w 24 &&& 255)) + (nzN (us w 16 &&& 255)) + (nzN (us w 8 &&& 255)) + (nzN (us w 0 &&& 255))))), (0, .ref (b 0)), (1, .int x), (2, .int y), (3, .int z), (4, .int v), (5, .int w)]) hx hb dX11_feed_81 hl (by decide) rfl (fun ls hl => ?_)
  refine lv_iload hx hb dX11_feed_83 (lv_at hl 0 rfl) ?_
  have hz5 := nzN_le (us y 16 &&& 255)
  refine mf_blk hx hb htg hown hK hP hD hS (by omega) (lv_sub hl [3, 0] rfl) (fun g_32 H locs hP hD hS => ?_)
  have hP : va_P D vwCl [((b 0), .inr (11, [.int 0, .ref (b 1), .int (nI (0 + nzN (us x 24 &&& 255) + nzN (us x 16 &&& 255) + nzN (us x 8 &&& 255) + nzN (us x 0 &&& 255) + nzN (us y 24 &&& 255) + nzN (us y 16 &&& 255))), .int 0, .int 0, .int 0, .ref (b 6), .ref (b 7), .ref (b 8), .ref (b 9), .ref (b 10), .ref (b 11), .ref (b 12), .int 0, .int 0, .ref (b 15), .ref (b 16), .ref (b 17), .ref (b 18), .ref (b 19), .int 0, .int 0, .ref (b 22), .ref (b 23), .ref (b 24), .int 0, .int 0, .ref (b 27), .int 0, .ref (b 29), .int (-1), .ref (b 31), .ref (b 32), .int (-1), .ref (b 34), .ref (b 35), .int 0, .int 0, .ref (b 38), .ref (b 39), .ref (b 40), .ref (b 41), .ref (b 42), .ref (b 43), .ref (b 44), .ref (b 45), .ref (b 46), .ref (b 47), .int 0, .int 0, .ref (b 50), .ref (b 51), .ref (b 52), .ref (b 53), .ref (b 54), .int (-1), .int 0, .ref (b 57), .ref (b 58), .ref (b 59), .ref (b 60), .ref (b 61), .ref (b 62), .int 0, .int 0, .int 0])), ((b 1), .inl ((cB 1), 160, .inl g_32))] H := hP
  have hD : va_D A [((b 0), .inr (11, [.int 0, .ref (b 1), .int (nI (0 + nzN (us x 24 &&& 255) + nzN (us x 16 &&& 255) + nzN (us x 8 &&& 255) + nzN (us x 0 &&& 255) + nzN (us y 24 &&& 255) + nzN (us y 16 &&& 255))), .int 0, .int 0, .int 0, .ref (b 6), .ref (b 7), .ref (b 8), .ref (b 9), .ref (b 10), .ref (b 11), .ref (b 12), .int 0, .int 0, .ref (b 15), .ref (b 16), .ref (b 17), .ref (b 18), .ref (b 19), .int 0, .int 0, .ref (b 22), .ref (b 23), .ref (b 24), .int 0, .int 0, .ref (b 27), .int 0, .ref (b 29), .int (-1), .ref (b 31), .ref (b 32), .int (-1), .ref (b 34), .ref (b 35), .int 0, .int 0, .ref (b 38), .ref (b 39), .ref (b 40), .ref (b 41), .ref (b 42), .ref (b 43), .ref (b 44), .ref (b 45), .ref (b 46), .ref (b 47), .int 0, .int 0, .ref (b 50), .ref (b 51), .ref (b 52), .ref (b 53), .ref (b 54), .int (-1), .int 0, .ref (b 57), .ref (b 58), .ref (b 59), .ref (b 60), .ref (b 61), .ref (b 62), .int 0, .int 0, .int 0])), ((b 1), .inl ((cB 1), 160, .inl g_32))] := hD
  refine lv_iinc (v := 6) (lv' := [(7, .int 6), (8, .int (us y 16 &&& 255)), (6, .int (nI (nzN (us x 24 &&& 255) + (nzN (us x 16 &&& 255)) + (nzN (us x 8 &&& 255)) + (nzN (us x 0 &&& 255)) + (nzN (us y 24 &&& 255)) + (nzN (us y 16 &&& 255)) + (nzN (us y 8 &&& 255)) + (nzN (us y 0 &&& 255)) + (nzN (us z 24 &&& 255)) + (nzN (us z 16 &&& 255)) + (nzN (us z 8 &&& 255)) + (nzN (us z 0 &&& 255)) + (nzN (us v 24 &&& 255)) + (nzN (us v 16 &&& 255)) + (nzN (us v 8 &&& 255)) + (nzN (us v 0 &&& 255)) + (nzN (us w 24 &&& 255)) + (nzN (us w 16 &&& 255)) + (nzN (us w 8 &&& 255)) + (nzN (us w 0 &&& 255))))), (0, .ref (b 0)), (1, .int x), (2, .int y), (3, .int z), (4, .int v), (5, .int w)]) hx hb dX11_feed_109 hl (k := 1) rfl (by decide) (by decide) rfl (fun ls hl => ?_)
  refine lv_goto (tgt := 62) hx hb dX11_feed_112 (by decide) ?_
  refine lv_iload hx hb dX11_feed_62 (lv_at hl 0 rfl) ?_
  refine lv_bipush (v := 20) hx hb dX11_feed_64 (by decide) ?_
  refine lv_icmp_ge (tgt := 115) hx hb dX11_feed_66 (by decide) (fun h9 => absurd h9 (by decide)) (fun _ => ?_)
  refine lv_iload_n hx hb dX11_feed_69 rfl (lv_at hl 4 rfl) ?_
  refine lv_iload_n hx hb dX11_feed_70 rfl (lv_at hl 5 rfl) ?_
  refine lv_iload_n hx hb dX11_feed_71 rfl (lv_at hl 6 rfl) ?_
  refine lv_iload hx hb dX11_feed_72 (lv_at hl 7 rfl) ?_
  refine lv_iload hx hb dX11_feed_74 (lv_at hl 8 rfl) ?_
  refine lv_iload hx hb dX11_feed_76 (lv_at hl 0 rfl) ?_
  have hPc := hP.sub (ws' := []) [] rfl
  have hKc := hK.sub (tys' := []) [] rfl
  refine va_calli (va_runS (As := [.int x, .int y, .int z, .int v, .int w, .int 6]) (rest := []) ⟨hx, hb, hml, hown, htg⟩ (c_X11_byteOf_6 l D x y z v w) (cS 6 htg mw_227 kv_X11_byteOf rfl rfl ⟨(Nat.le_of_ble_eq_true rfl), (Nat.le_of_ble_eq_true rfl)⟩) ⟨bl_r, us_r hPc hKc⟩ rfl rfl hl.1 rfl (lv_room (Nat.le_of_ble_eq_true rfl)) dX11_feed_78 ⟨(Nat.le_of_ble_eq_true rfl), (Nat.le_of_ble_eq_true rfl)⟩) hS (fun _ _ h9 => False.elim h9) (fun _ h9 => False.elim h9) (fun r_33 u t H locs ht hvm hw hB hz1 hk1 hS => ?_)
  have hP := ro_keep hP hk1
  subst hw
  refine lv_istore (lv' := [(8, .int (us y 8 &&& 255)), (7, .int 6), (6, .int (nI (nzN (us x 24 &&& 255) + (nzN (us x 16 &&& 255)) + (nzN (us x 8 &&& 255)) + (nzN (us x 0 &&& 255)) + (nzN (us y 24 &&& 255)) + (nzN (us y 16 &&& 255)) + (nzN (us y 8 &&& 255)) + (nzN (us y 0 &&& 255)) + (nzN (us z 24 &&& 255)) + (nzN (us z 16 &&& 255)) + (nzN (us z 8 &&& 255)) + (nzN (us z 0 &&& 255)) + (nzN (us v 24 &&& 255)) + (nzN (us v 16 &&& 255)) + (nzN (us v 8 &&& 255)) + (nzN (us v 0 &&& 255)) + (nzN (us w 24 &&& 255)) + (nzN (us w 16 &&& 255)) + (nzN (us w 8 &&& 255)) + (nzN (us w 0 &&& 255))))), (0, .ref (b 0)), (1, .int x), (2, .int y), (3, .int z), (4, .int v), (5, .int w)]) hx hb dX11_feed_81 hl (by decide) rfl (fun ls hl => ?_)
  refine lv_iload hx hb dX11_feed_83 (lv_at hl 0 rfl) ?_
  have hz6 := nzN_le (us y 8 &&& 255)
  refine mf_blk hx hb htg hown hK hP hD hS (by omega) (lv_sub hl [3, 0] rfl) (fun g_34 H locs hP hD hS => ?_)
  have hP : va_P D vwCl [((b 0), .inr (11, [.int 0, .ref (b 1), .int (nI (0 + nzN (us x 24 &&& 255) + nzN (us x 16 &&& 255) + nzN (us x 8 &&& 255) + nzN (us x 0 &&& 255) + nzN (us y 24 &&& 255) + nzN (us y 16 &&& 255) + nzN (us y 8 &&& 255))), .int 0, .int 0, .int 0, .ref (b 6), .ref (b 7), .ref (b 8), .ref (b 9), .ref (b 10), .ref (b 11), .ref (b 12), .int 0, .int 0, .ref (b 15), .ref (b 16), .ref (b 17), .ref (b 18), .ref (b 19), .int 0, .int 0, .ref (b 22), .ref (b 23), .ref (b 24), .int 0, .int 0, .ref (b 27), .int 0, .ref (b 29), .int (-1), .ref (b 31), .ref (b 32), .int (-1), .ref (b 34), .ref (b 35), .int 0, .int 0, .ref (b 38), .ref (b 39), .ref (b 40), .ref (b 41), .ref (b 42), .ref (b 43), .ref (b 44), .ref (b 45), .ref (b 46), .ref (b 47), .int 0, .int 0, .ref (b 50), .ref (b 51), .ref (b 52), .ref (b 53), .ref (b 54), .int (-1), .int 0, .ref (b 57), .ref (b 58), .ref (b 59), .ref (b 60), .ref (b 61), .ref (b 62), .int 0, .int 0, .int 0])), ((b 1), .inl ((cB 1), 160, .inl g_34))] H := hP
  have hD : va_D A [((b 0), .inr (11, [.int 0, .ref (b 1), .int (nI (0 + nzN (us x 24 &&& 255) + nzN (us x 16 &&& 255) + nzN (us x 8 &&& 255) + nzN (us x 0 &&& 255) + nzN (us y 24 &&& 255) + nzN (us y 16 &&& 255) + nzN (us y 8 &&& 255))), .int 0, .int 0, .int 0, .ref (b 6), .ref (b 7), .ref (b 8), .ref (b 9), .ref (b 10), .ref (b 11), .ref (b 12), .int 0, .int 0, .ref (b 15), .ref (b 16), .ref (b 17), .ref (b 18), .ref (b 19), .int 0, .int 0, .ref (b 22), .ref (b 23), .ref (b 24), .int 0, .int 0, .ref (b 27), .int 0, .ref (b 29), .int (-1), .ref (b 31), .ref (b 32), .int (-1), .ref (b 34), .ref (b 35), .int 0, .int 0, .ref (b 38), .ref (b 39), .ref (b 40), .ref (b 41), .ref (b 42), .ref (b 43), .ref (b 44), .ref (b 45), .ref (b 46), .ref (b 47), .int 0, .int 0, .ref (b 50), .ref (b 51), .ref (b 52), .ref (b 53), .ref (b 54), .int (-1), .int 0, .ref (b 57), .ref (b 58), .ref (b 59), .ref (b 60), .ref (b 61), .ref (b 62), .int 0, .int 0, .int 0])), ((b 1), .inl ((cB 1), 160, .inl g_34))] := hD
  refine lv_iinc (v := 7) (lv' := [(7, .int 7), (8, .int (us y 8 &&& 255)), (6, .int (nI (nzN (us x 24 &&& 255) + (nzN (us x 16 &&& 255)) + (nzN (us x 8 &&& 255)) + (nzN (us x 0 &&& 255)) + (nzN (us y 24 &&& 255)) + (nzN (us y 16 &&& 255)) + (nzN (us y 8 &&& 255)) + (nzN (us y 0 &&& 255)) + (nzN (us z 24 &&& 255)) + (nzN (us z 16 &&& 255)) + (nzN (us z 8 &&& 255)) + (nzN (us z 0 &&& 255)) + (nzN (us v 24 &&& 255)) + (nzN (us v 16 &&& 255)) + (nzN (us v 8 &&& 255)) + (nzN (us v 0 &&& 255)) + (nzN (us w 24 &&& 255)) + (nzN (us w 16 &&& 255)) + (nzN (us w 8 &&& 255)) + (nzN (us w 0 &&& 255))))), (0, .ref (b 0)), (1, .int x), (2, .int y), (3, .int z), (4, .int v), (5, .int w)]) hx hb dX11_feed_109 hl (k := 1) rfl (by decide) (by decide) rfl (fun ls hl => ?_)
  refine lv_goto (tgt := 62) hx hb dX11_feed_112 (by decide) ?_
  refine lv_iload hx hb dX11_feed_62 (lv_at hl 0 rfl) ?_
  refine lv_bipush (v := 20) hx hb dX11_feed_64 (by decide) ?_
  refine lv_icmp_ge (tgt := 115) hx hb dX11_feed_66 (by decide) (fun h9 => absurd h9 (by decide)) (fun _ => ?_)
  refine lv_iload_n hx hb dX11_feed_69 rfl (lv_at hl 4 rfl) ?_
  refine lv_iload_n hx hb dX11_feed_70 rfl (lv_at hl 5 rfl) ?_
  refine lv_iload_n hx hb dX11_feed_71 rfl (lv_at hl 6 rfl) ?_
  refine lv_iload hx hb dX11_feed_72 (lv_at hl 7 rfl) ?_
  refine lv_iload hx hb dX11_feed_74 (lv_at hl 8 rfl) ?_
  refine lv_iload hx hb dX11_feed_76 (lv_at hl 0 rfl) ?_
  have hPc := hP.sub (ws' := []) [] rfl
  have hKc := hK.sub (tys' := []) [] rfl
  refine va_calli (va_runS (As := [.int x, .int y, .int z, .int v, .int w, .int 7]) (rest := []) ⟨hx, hb, hml, hown, htg⟩ (c_X11_byteOf_7 l D x y z v w) (cS 6 htg mw_227 kv_X11_byteOf rfl rfl ⟨(Nat.le_of_ble_eq_true rfl), (Nat.le_of_ble_eq_true rfl)⟩) ⟨bl_r, us_r hPc hKc⟩ rfl rfl hl.1 rfl (lv_room (Nat.le_of_ble_eq_true rfl)) dX11_feed_78 ⟨(Nat.le_of_ble_eq_true rfl), (Nat.le_of_ble_eq_true rfl)⟩) hS (fun _ _ h9 => False.elim h9) (fun _ h9 => False.elim h9) (fun r_35 u t H locs ht hvm hw hB hz1 hk1 hS => ?_)
  have hP := ro_keep hP hk1
  subst hw
  refine lv_istore (lv' := [(8, .int (us y 0 &&& 255)), (7, .int 7), (6, .int (nI (nzN (us x 24 &&& 255) + (nzN (us x 16 &&& 255)) + (nzN (us x 8 &&& 255)) + (nzN (us x 0 &&& 255)) + (nzN (us y 24 &&& 255)) + (nzN (us y 16 &&& 255)) + (nzN (us y 8 &&& 255)) + (nzN (us y 0 &&& 255)) + (nzN (us z 24 &&& 255)) + (nzN (us z 16 &&& 255)) + (nzN (us z 8 &&& 255)) + (nzN (us z 0 &&& 255)) + (nzN (us v 24 &&& 255)) + (nzN (us v 16 &&& 255)) + (nzN (us v 8 &&& 255)) + (nzN (us v 0 &&& 255)) + (nzN (us w 24 &&& 255)) + (nzN (us w 16 &&& 255)) + (nzN (us w 8 &&& 255)) + (nzN (us w 0 &&& 255))))), (0, .ref (b 0)), (1, .int x), (2, .int y), (3, .int z), (4, .int v), (5, .int w)]) hx hb dX11_feed_81 hl (by decide) rfl (fun ls hl => ?_)
  refine lv_iload hx hb dX11_feed_83 (lv_at hl 0 rfl) ?_
  have hz7 := nzN_le (us y 0 &&& 255)
  refine mf_blk hx hb htg hown hK hP hD hS (by omega) (lv_sub hl [3, 0] rfl) (fun g_36 H locs hP hD hS => ?_)
  have hP : va_P D vwCl [((b 0), .inr (11, [.int 0, .ref (b 1), .int (nI (0 + nzN (us x 24 &&& 255) + nzN (us x 16 &&& 255) + nzN (us x 8 &&& 255) + nzN (us x 0 &&& 255) + nzN (us y 24 &&& 255) + nzN (us y 16 &&& 255) + nzN (us y 8 &&& 255) + nzN (us y 0 &&& 255))), .int 0, .int 0, .int 0, .ref (b 6), .ref (b 7), .ref (b 8), .ref (b 9), .ref (b 10), .ref (b 11), .ref (b 12), .int 0, .int 0, .ref (b 15), .ref (b 16), .ref (b 17), .ref (b 18), .ref (b 19), .int 0, .int 0, .ref (b 22), .ref (b 23), .ref (b 24), .int 0, .int 0, .ref (b 27), .int 0, .ref (b 29), .int (-1), .ref (b 31), .ref (b 32), .int (-1), .ref (b 34), .ref (b 35), .int 0, .int 0, .ref (b 38), .ref (b 39), .ref (b 40), .ref (b 41), .ref (b 42), .ref (b 43), .ref (b 44), .ref (b 45), .ref (b 46), .ref (b 47), .int 0, .int 0, .ref (b 50), .ref (b 51), .ref (b 52), .ref (b 53), .ref (b 54), .int (-1), .int 0, .ref (b 57), .ref (b 58), .ref (b 59), .ref (b 60), .ref (b 61), .ref (b 62), .int 0, .int 0, .int 0])), ((b 1), .inl ((cB 1), 160, .inl g_36))] H := hP
  have hD : va_D A [((b 0), .inr (11, [.int 0, .ref (b 1), .int (nI (0 + nzN (us x 24 &&& 255) + nzN (us x 16 &&& 255) + nzN (us x 8 &&& 255) + nzN (us x 0 &&& 255) + nzN (us y 24 &&& 255) + nzN (us y 16 &&& 255) + nzN (us y 8 &&& 255) + nzN (us y 0 &&& 255))), .int 0, .int 0, .int 0, .ref (b 6), .ref (b 7), .ref (b 8), .ref (b 9), .ref (b 10), .ref (b 11), .ref (b 12), .int 0, .int 0, .ref (b 15), .ref (b 16), .ref (b 17), .ref (b 18), .ref (b 19), .int 0, .int 0, .ref (b 22), .ref (b 23), .ref (b 24), .int 0, .int 0, .ref (b 27), .int 0, .ref (b 29), .int (-1), .ref (b 31), .ref (b 32), .int (-1), .ref (b 34), .ref (b 35), .int 0, .int 0, .ref (b 38), .ref (b 39), .ref (b 40), .ref (b 41), .ref (b 42), .ref (b 43), .ref (b 44), .ref (b 45), .ref (b 46), .ref (b 47), .int 0, .int 0, .ref (b 50), .ref (b 51), .ref (b 52), .ref (b 53), .ref (b 54), .int (-1), .int 0, .ref (b 57), .ref (b 58), .ref (b 59), .ref (b 60), .ref (b 61), .ref (b 62), .int 0, .int 0, .int 0])), ((b 1), .inl ((cB 1), 160, .inl g_36))] := hD
  refine lv_iinc (v := 8) (lv' := [(7, .int 8), (8, .int (us y 0 &&& 255)), (6, .int (nI (nzN (us x 24 &&& 255) + (nzN (us x 16 &&& 255)) + (nzN (us x 8 &&& 255)) + (nzN (us x 0 &&& 255)) + (nzN (us y 24 &&& 255)) + (nzN (us y 16 &&& 255)) + (nzN (us y 8 &&& 255)) + (nzN (us y 0 &&& 255)) + (nzN (us z 24 &&& 255)) + (nzN (us z 16 &&& 255)) + (nzN (us z 8 &&& 255)) + (nzN (us z 0 &&& 255)) + (nzN (us v 24 &&& 255)) + (nzN (us v 16 &&& 255)) + (nzN (us v 8 &&& 255)) + (nzN (us v 0 &&& 255)) + (nzN (us w 24 &&& 255)) + (nzN (us w 16 &&& 255)) + (nzN (us w 8 &&& 255)) + (nzN (us w 0 &&& 255))))), (0, .ref (b 0)), (1, .int x), (2, .int y), (3, .int z), (4, .int v), (5, .int w)]) hx hb dX11_feed_109 hl (k := 1) rfl (by decide) (by decide) rfl (fun ls hl => ?_)
  refine lv_goto (tgt := 62) hx hb dX11_feed_112 (by decide) ?_
  refine lv_iload hx hb dX11_feed_62 (lv_at hl 0 rfl) ?_
  refine lv_bipush (v := 20) hx hb dX11_feed_64 (by decide) ?_
  refine lv_icmp_ge (tgt := 115) hx hb dX11_feed_66 (by decide) (fun h9 => absurd h9 (by decide)) (fun _ => ?_)
  refine lv_iload_n hx hb dX11_feed_69 rfl (lv_at hl 4 rfl) ?_
  refine lv_iload_n hx hb dX11_feed_70 rfl (lv_at hl 5 rfl) ?_
  refine lv_iload_n hx hb dX11_feed_71 rfl (lv_at hl 6 rfl) ?_
  refine lv_iload hx hb dX11_feed_72 (lv_at hl 7 rfl) ?_
  refine lv_iload hx hb dX11_feed_74 (lv_at hl 8 rfl) ?_
  refine lv_iload hx hb dX11_feed_76 (lv_at hl 0 rfl) ?_
  have hPc := hP.sub (ws' := []) [] rfl
  have hKc := hK.sub (tys' := []) [] rfl
  refine va_calli (va_runS (As := [.int x, .int y, .int z, .int v, .int w, .int 8]) (rest := []) ⟨hx, hb, hml, hown, htg⟩ (c_X11_byteOf_8 l D x y z v w) (cS 6 htg mw_227 kv_X11_byteOf rfl rfl ⟨(Nat.le_of_ble_eq_true rfl), (Nat.le_of_ble_eq_true rfl)⟩) ⟨bl_r, us_r hPc hKc⟩ rfl rfl hl.1 rfl (lv_room (Nat.le_of_ble_eq_true rfl)) dX11_feed_78 ⟨(Nat.le_of_ble_eq_true rfl), (Nat.le_of_ble_eq_true rfl)⟩) hS (fun _ _ h9 => False.elim h9) (fun _ h9 => False.elim h9) (fun r_37 u t H locs ht hvm hw hB hz1 hk1 hS => ?_)
  have hP := ro_keep hP hk1
  subst hw
  refine lv_istore (lv' := [(8, .int (us z 24 &&& 255)), (7, .int 8), (6, .int (nI (nzN (us x 24 &&& 255) + (nzN (us x 16 &&& 255)) + (nzN (us x 8 &&& 255)) + (nzN (us x 0 &&& 255)) + (nzN (us y 24 &&& 255)) + (nzN (us y 16 &&& 255)) + (nzN (us y 8 &&& 255)) + (nzN (us y 0 &&& 255)) + (nzN (us z 24 &&& 255)) + (nzN (us z 16 &&& 255)) + (nzN (us z 8 &&& 255)) + (nzN (us z 0 &&& 255)) + (nzN (us v 24 &&& 255)) + (nzN (us v 16 &&& 255)) + (nzN (us v 8 &&& 255)) + (nzN (us v 0 &&& 255)) + (nzN (us w 24 &&& 255)) + (nzN (us w 16 &&& 255)) + (nzN (us w 8 &&& 255)) + (nzN (us w 0 &&& 255))))), (0, .ref (b 0)), (1, .int x), (2, .int y), (3, .int z), (4, .int v), (5, .int w)]) hx hb dX11_feed_81 hl (by decide) rfl (fun ls hl => ?_)
  refine lv_iload hx hb dX11_feed_83 (lv_at hl 0 rfl) ?_
  have hz8 := nzN_le (us z 24 &&& 255)
  refine mf_blk hx hb htg hown hK hP hD hS (by omega) (lv_sub hl [3, 0] rfl) (fun g_38 H locs hP hD hS => ?_)
  have hP : va_P D vwCl [((b 0), .inr (11, [.int 0, .ref (b 1), .int (nI (0 + nzN (us x 24 &&& 255) + nzN (us x 16 &&& 255) + nzN (us x 8 &&& 255) + nzN (us x 0 &&& 255) + nzN (us y 24 &&& 255) + nzN (us y 16 &&& 255) + nzN (us y 8 &&& 255) + nzN (us y 0 &&& 255) + nzN (us z 24 &&& 255))), .int 0, .int 0, .int 0, .ref (b 6), .ref (b 7), .ref (b 8), .ref (b 9), .ref (b 10), .ref (b 11), .ref (b 12), .int 0, .int 0, .ref (b 15), .ref (b 16), .ref (b 17), .ref (b 18), .ref (b 19), .int 0, .int 0, .ref (b 22), .ref (b 23), .ref (b 24), .int 0, .int 0, .ref (b 27), .int 0, .ref (b 29), .int (-1), .ref (b 31), .ref (b 32), .int (-1), .ref (b 34), .ref (b 35), .int 0, .int 0, .ref (b 38), .ref (b 39), .ref (b 40), .ref (b 41), .ref (b 42), .ref (b 43), .ref (b 44), .ref (b 45), .ref (b 46), .ref (b 47), .int 0, .int 0, .ref (b 50), .ref (b 51), .ref (b 52), .ref (b 53), .ref (b 54), .int (-1), .int 0, .ref (b 57), .ref (b 58), .ref (b 59), .ref (b 60), .ref (b 61), .ref (b 62), .int 0, .int 0, .int 0])), ((b 1), .inl ((cB 1), 160, .inl g_38))] H := hP
  have hD : va_D A [((b 0), .inr (11, [.int 0, .ref (b 1), .int (nI (0 + nzN (us x 24 &&& 255) + nzN (us x 16 &&& 255) + nzN (us x 8 &&& 255) + nzN (us x 0 &&& 255) + nzN (us y 24 &&& 255) + nzN (us y 16 &&& 255) + nzN (us y 8 &&& 255) + nzN (us y 0 &&& 255) + nzN (us z 24 &&& 255))), .int 0, .int 0, .int 0, .ref (b 6), .ref (b 7), .ref (b 8), .ref (b 9), .ref (b 10), .ref (b 11), .ref (b 12), .int 0, .int 0, .ref (b 15), .ref (b 16), .ref (b 17), .ref (b 18), .ref (b 19), .int 0, .int 0, .ref (b 22), .ref (b 23), .ref (b 24), .int 0, .int 0, .ref (b 27), .int 0, .ref (b 29), .int (-1), .ref (b 31), .ref (b 32), .int (-1), .ref (b 34), .ref (b 35), .int 0, .int 0, .ref (b 38), .ref (b 39), .ref (b 40), .ref (b 41), .ref (b 42), .ref (b 43), .ref (b 44), .ref (b 45), .ref (b 46), .ref (b 47), .int 0, .int 0, .ref (b 50), .ref (b 51), .ref (b 52), .ref (b 53), .ref (b 54), .int (-1), .int 0, .ref (b 57), .ref (b 58), .ref (b 59), .ref (b 60), .ref (b 61), .ref (b 62), .int 0, .int 0, .int 0])), ((b 1), .inl ((cB 1), 160, .inl g_38))] := hD
  refine lv_iinc (v := 9) (lv' := [(7, .int 9), (8, .int (us z 24 &&& 255)), (6, .int (nI (nzN (us x 24 &&& 255) + (nzN (us x 16 &&& 255)) + (nzN (us x 8 &&& 255)) + (nzN (us x 0 &&& 255)) + (nzN (us y 24 &&& 255)) + (nzN (us y 16 &&& 255)) + (nzN (us y 8 &&& 255)) + (nzN (us y 0 &&& 255)) + (nzN (us z 24 &&& 255)) + (nzN (us z 16 &&& 255)) + (nzN (us z 8 &&& 255)) + (nzN (us z 0 &&& 255)) + (nzN (us v 24 &&& 255)) + (nzN (us v 16 &&& 255)) + (nzN (us v 8 &&& 255)) + (nzN (us v 0 &&& 255)) + (nzN (us w 24 &&& 255)) + (nzN (us w 16 &&& 255)) + (nzN (us w 8 &&& 255)) + (nzN (us w 0 &&& 255))))), (0, .ref (b 0)), (1, .int x), (2, .int y), (3, .int z), (4, .int v), (5, .int w)]) hx hb dX11_feed_109 hl (k := 1) rfl (by decide) (by decide) rfl (fun ls hl => ?_)
  refine lv_goto (tgt := 62) hx hb dX11_feed_112 (by decide) ?_
  refine lv_iload hx hb dX11_feed_62 (lv_at hl 0 rfl) ?_
  refine lv_bipush (v := 20) hx hb dX11_feed_64 (by decide) ?_
  refine lv_icmp_ge (tgt := 115) hx hb dX11_feed_66 (by decide) (fun h9 => absurd h9 (by decide)) (fun _ => ?_)
  refine lv_iload_n hx hb dX11_feed_69 rfl (lv_at hl 4 rfl) ?_
  refine lv_iload_n hx hb dX11_feed_70 rfl (lv_at hl 5 rfl) ?_
  refine lv_iload_n hx hb dX11_feed_71 rfl (lv_at hl 6 rfl) ?_
  refine lv_iload hx hb dX11_feed_72 (lv_at hl 7 rfl) ?_
  refine lv_iload hx hb dX11_feed_74 (lv_at hl 8 rfl) ?_
  refine lv_iload hx hb dX11_feed_76 (lv_at hl 0 rfl) ?_
  have hPc := hP.sub (ws' := []) [] rfl
  have hKc := hK.sub (tys' := []) [] rfl
  refine va_calli (va_runS (As := [.int x, .int y, .int z, .int v, .int w, .int 9]) (rest := []) ⟨hx, hb, hml, hown, htg⟩ (c_X11_byteOf_9 l D x y z v w) (cS 6 htg mw_227 kv_X11_byteOf rfl rfl ⟨(Nat.le_of_ble_eq_true rfl), (Nat.le_of_ble_eq_true rfl)⟩) ⟨bl_r, us_r hPc hKc⟩ rfl rfl hl.1 rfl (lv_room (Nat.le_of_ble_eq_true rfl)) dX11_feed_78 ⟨(Nat.le_of_ble_eq_true rfl), (Nat.le_of_ble_eq_true rfl)⟩) hS (fun _ _ h9 => False.elim h9) (fun _ h9 => False.elim h9) (fun r_39 u t H locs ht hvm hw hB hz1 hk1 hS => ?_)
  have hP := ro_keep hP hk1
  subst hw
  refine lv_istore (lv' := [(8, .int (us z 16 &&& 255)), (7, .int 9), (6, .int (nI (nzN (us x 24 &&& 255) + (nzN (us x 16 &&& 255)) + (nzN (us x 8 &&& 255)) + (nzN (us x 0 &&& 255)) + (nzN (us y 24 &&& 255)) + (nzN (us y 16 &&& 255)) + (nzN (us y 8 &&& 255)) + (nzN (us y 0 &&& 255)) + (nzN (us z 24 &&& 255)) + (nzN (us z 16 &&& 255)) + (nzN (us z 8 &&& 255)) + (nzN (us z 0 &&& 255)) + (nzN (us v 24 &&& 255)) + (nzN (us v 16 &&& 255)) + (nzN (us v 8 &&& 255)) + (nzN (us v 0 &&& 255)) + (nzN (us w 24 &&& 255)) + (nzN (us w 16 &&& 255)) + (nzN (us w 8 &&& 255)) + (nzN (us w 0 &&& 255))))), (0, .ref (b 0)), (1, .int x), (2, .int y), (3, .int z), (4, .int v), (5, .int w)]) hx hb dX11_feed_81 hl (by decide) rfl (fun ls hl => ?_)
  refine lv_iload hx hb dX11_feed_83 (lv_at hl 0 rfl) ?_
  have hz9 := nzN_le (us z 16 &&& 255)
  refine mf_blk hx hb htg hown hK hP hD hS (by omega) (lv_sub hl [3, 0] rfl) (fun g_40 H locs hP hD hS => ?_)
  have hP : va_P D vwCl [((b 0), .inr (11, [.int 0, .ref (b 1), .int (nI (0 + nzN (us x 24 &&& 255) + nzN (us x 16 &&& 255) + nzN (us x 8 &&& 255) + nzN (us x 0 &&& 255) + nzN (us y 24 &&& 255) + nzN (us y 16 &&& 255) + nzN (us y 8 &&& 255) + nzN (us y 0 &&& 255) + nzN (us z 24 &&& 255) + nzN (us z 16 &&& 255))), .int 0, .int 0, .int 0, .ref (b 6), .ref (b 7), .ref (b 8), .ref (b 9), .ref (b 10), .ref (b 11), .ref (b 12), .int 0, .int 0, .ref (b 15), .ref (b 16), .ref (b 17), .ref (b 18), .ref (b 19), .int 0, .int 0, .ref (b 22), .ref (b 23), .ref (b 24), .int 0, .int 0, .ref (b 27), .int 0, .ref (b 29), .int (-1), .ref (b 31), .ref (b 32), .int (-1), .ref (b 34), .ref (b 35), .int 0, .int 0, .ref (b 38), .ref (b 39), .ref (b 40), .ref (b 41), .ref (b 42), .ref (b 43), .ref (b 44), .ref (b 45), .ref (b 46), .ref (b 47), .int 0, .int 0, .ref (b 50), .ref (b 51), .ref (b 52), .ref (b 53), .ref (b 54), .int (-1), .int 0, .ref (b 57), .ref (b 58), .ref (b 59), .ref (b 60), .ref (b 61), .ref (b 62), .int 0, .int 0, .int 0])), ((b 1), .inl ((cB 1), 160, .inl g_40))] H := hP
  have hD : va_D A [((b 0), .inr (11, [.int 0, .ref (b 1), .int (nI (0 + nzN (us x 24 &&& 255) + nzN (us x 16 &&& 255) + nzN (us x 8 &&& 255) + nzN (us x 0 &&& 255) + nzN (us y 24 &&& 255) + nzN (us y 16 &&& 255) + nzN (us y 8 &&& 255) + nzN (us y 0 &&& 255) + nzN (us z 24 &&& 255) + nzN (us z 16 &&& 255))), .int 0, .int 0, .int 0, .ref (b 6), .ref (b 7), .ref (b 8), .ref (b 9), .ref (b 10), .ref (b 11), .ref (b 12), .int 0, .int 0, .ref (b 15), .ref (b 16), .ref (b 17), .ref (b 18), .ref (b 19), .int 0, .int 0, .ref (b 22), .ref (b 23), .ref (b 24), .int 0, .int 0, .ref (b 27), .int 0, .ref (b 29), .int (-1), .ref (b 31), .ref (b 32), .int (-1), .ref (b 34), .ref (b 35), .int 0, .int 0, .ref (b 38), .ref (b 39), .ref (b 40), .ref (b 41), .ref (b 42), .ref (b 43), .ref (b 44), .ref (b 45), .ref (b 46), .ref (b 47), .int 0, .int 0, .ref (b 50), .ref (b 51), .ref (b 52), .ref (b 53), .ref (b 54), .int (-1), .int 0, .ref (b 57), .ref (b 58), .ref (b 59), .ref (b 60), .ref (b 61), .ref (b 62), .int 0, .int 0, .int 0])), ((b 1), .inl ((cB 1), 160, .inl g_40))] := hD
  refine lv_iinc (v := 10) (lv' := [(7, .int 10), (8, .int (us z 16 &&& 255)), (6, .int (nI (nzN (us x 24 &&& 255) + (nzN (us x 16 &&& 255)) + (nzN (us x 8 &&& 255)) + (nzN (us x 0 &&& 255)) + (nzN (us y 24 &&& 255)) + (nzN (us y 16 &&& 255)) + (nzN (us y 8 &&& 255)) + (nzN (us y 0 &&& 255)) + (nzN (us z 24 &&& 255)) + (nzN (us z 16 &&& 255)) + (nzN (us z 8 &&& 255)) + (nzN (us z 0 &&& 255)) + (nzN (us v 24 &&& 255)) + (nzN (us v 16 &&& 255)) + (nzN (us v 8 &&& 255)) + (nzN (us v 0 &&& 255)) + (nzN (us w 24 &&& 255)) + (nzN (us w 16 &&& 255)) + (nzN (us w 8 &&& 255)) + (nzN (us w 0 &&& 255))))), (0, .ref (b 0)), (1, .int x), (2, .int y), (3, .int z), (4, .int v), (5, .int w)]) hx hb dX11_feed_109 hl (k := 1) rfl (by decide) (by decide) rfl (fun ls hl => ?_)
  refine lv_goto (tgt := 62) hx hb dX11_feed_112 (by decide) ?_
  refine lv_iload hx hb dX11_feed_62 (lv_at hl 0 rfl) ?_
  refine lv_bipush (v := 20) hx hb dX11_feed_64 (by decide) ?_
  refine lv_icmp_ge (tgt := 115) hx hb dX11_feed_66 (by decide) (fun h9 => absurd h9 (by decide)) (fun _ => ?_)
  refine lv_iload_n hx hb dX11_feed_69 rfl (lv_at hl 4 rfl) ?_
  refine lv_iload_n hx hb dX11_feed_70 rfl (lv_at hl 5 rfl) ?_
  refine lv_iload_n hx hb dX11_feed_71 rfl (lv_at hl 6 rfl) ?_
  refine lv_iload hx hb dX11_feed_72 (lv_at hl 7 rfl) ?_
  refine lv_iload hx hb dX11_feed_74 (lv_at hl 8 rfl) ?_
  refine lv_iload hx hb dX11_feed_76 (lv_at hl 0 rfl) ?_
  have hPc := hP.sub (ws' := []) [] rfl
  have hKc := hK.sub (tys' := []) [] rfl
  refine va_calli (va_runS (As := [.int x, .int y, .int z, .int v, .int w, .int 10]) (rest := []) ⟨hx, hb, hml, hown, htg⟩ (c_X11_byteOf_10 l D x y z v w) (cS 6 htg mw_227 kv_X11_byteOf rfl rfl ⟨(Nat.le_of_ble_eq_true rfl), (Nat.le_of_ble_eq_true rfl)⟩) ⟨bl_r, us_r hPc hKc⟩ rfl rfl hl.1 rfl (lv_room (Nat.le_of_ble_eq_true rfl)) dX11_feed_78 ⟨(Nat.le_of_ble_eq_true rfl), (Nat.le_of_ble_eq_true rfl)⟩) hS (fun _ _ h9 => False.elim h9) (fun _ h9 => False.elim h9) (fun r_41 u t H locs ht hvm hw hB hz1 hk1 hS => ?_)
  have hP := ro_keep hP hk1
  subst hw
  refine lv_istore (lv' := [(8, .int (us z 8 &&& 255)), (7, .int 10), (6, .int (nI (nzN (us x 24 &&& 255) + (nzN (us x 16 &&& 255)) + (nzN (us x 8 &&& 255)) + (nzN (us x 0 &&& 255)) + (nzN (us y 24 &&& 255)) + (nzN (us y 16 &&& 255)) + (nzN (us y 8 &&& 255)) + (nzN (us y 0 &&& 255)) + (nzN (us z 24 &&& 255)) + (nzN (us z 16 &&& 255)) + (nzN (us z 8 &&& 255)) + (nzN (us z 0 &&& 255)) + (nzN (us v 24 &&& 255)) + (nzN (us v 16 &&& 255)) + (nzN (us v 8 &&& 255)) + (nzN (us v 0 &&& 255)) + (nzN (us w 24 &&& 255)) + (nzN (us w 16 &&& 255)) + (nzN (us w 8 &&& 255)) + (nzN (us w 0 &&& 255))))), (0, .ref (b 0)), (1, .int x), (2, .int y), (3, .int z), (4, .int v), (5, .int w)]) hx hb dX11_feed_81 hl (by decide) rfl (fun ls hl => ?_)
  refine lv_iload hx hb dX11_feed_83 (lv_at hl 0 rfl) ?_
  have hz10 := nzN_le (us z 8 &&& 255)
  refine mf_blk hx hb htg hown hK hP hD hS (by omega) (lv_sub hl [3, 0] rfl) (fun g_42 H locs hP hD hS => ?_)
  have hP : va_P D vwCl [((b 0), .inr (11, [.int 0, .ref (b 1), .int (nI (0 + nzN (us x 24 &&& 255) + nzN (us x 16 &&& 255) + nzN (us x 8 &&& 255) + nzN (us x 0 &&& 255) + nzN (us y 24 &&& 255) + nzN (us y 16 &&& 255) + nzN (us y 8 &&& 255) + nzN (us y 0 &&& 255) + nzN (us z 24 &&& 255) + nzN (us z 16 &&& 255) + nzN (us z 8 &&& 255))), .int 0, .int 0, .int 0, .ref (b 6), .ref (b 7), .ref (b 8), .ref (b 9), .ref (b 10), .ref (b 11), .ref (b 12), .int 0, .int 0, .ref (b 15), .ref (b 16), .ref (b 17), .ref (b 18), .ref (b 19), .int 0, .int 0, .ref (b 22), .ref (b 23), .ref (b 24), .int 0, .int 0, .ref (b 27), .int 0, .ref (b 29), .int (-1), .ref (b 31), .ref (b 32), .int (-1), .ref (b 34), .ref (b 35), .int 0, .int 0, .ref (b 38), .ref (b 39), .ref (b 40), .ref (b 41), .ref (b 42), .ref (b 43), .ref (b 44), .ref (b 45), .ref (b 46), .ref (b 47), .int 0, .int 0, .ref (b 50), .ref (b 51), .ref (b 52), .ref (b 53), .ref (b 54), .int (-1), .int 0, .ref (b 57), .ref (b 58), .ref (b 59), .ref (b 60), .ref (b 61), .ref (b 62), .int 0, .int 0, .int 0])), ((b 1), .inl ((cB 1), 160, .inl g_42))] H := hP
  have hD : va_D A [((b 0), .inr (11, [.int 0, .ref (b 1), .int (nI (0 + nzN (us x 24 &&& 255) + nzN (us x 16 &&& 255) + nzN (us x 8 &&& 255) + nzN (us x 0 &&& 255) + nzN (us y 24 &&& 255) + nzN (us y 16 &&& 255) + nzN (us y 8 &&& 255) + nzN (us y 0 &&& 255) + nzN (us z 24 &&& 255) + nzN (us z 16 &&& 255) + nzN (us z 8 &&& 255))), .int 0, .int 0, .int 0, .ref (b 6), .ref (b 7), .ref (b 8), .ref (b 9), .ref (b 10), .ref (b 11), .ref (b 12), .int 0, .int 0, .ref (b 15), .ref (b 16), .ref (b 17), .ref (b 18), .ref (b 19), .int 0, .int 0, .ref (b 22), .ref (b 23), .ref (b 24), .int 0, .int 0, .ref (b 27), .int 0, .ref (b 29), .int (-1), .ref (b 31), .ref (b 32), .int (-1), .ref (b 34), .ref (b 35), .int 0, .int 0, .ref (b 38), .ref (b 39), .ref (b 40), .ref (b 41), .ref (b 42), .ref (b 43), .ref (b 44), .ref (b 45), .ref (b 46), .ref (b 47), .int 0, .int 0, .ref (b 50), .ref (b 51), .ref (b 52), .ref (b 53), .ref (b 54), .int (-1), .int 0, .ref (b 57), .ref (b 58), .ref (b 59), .ref (b 60), .ref (b 61), .ref (b 62), .int 0, .int 0, .int 0])), ((b 1), .inl ((cB 1), 160, .inl g_42))] := hD
  refine lv_iinc (v := 11) (lv' := [(7, .int 11), (8, .int (us z 8 &&& 255)), (6, .int (nI (nzN (us x 24 &&& 255) + (nzN (us x 16 &&& 255)) + (nzN (us x 8 &&& 255)) + (nzN (us x 0 &&& 255)) + (nzN (us y 24 &&& 255)) + (nzN (us y 16 &&& 255)) + (nzN (us y 8 &&& 255)) + (nzN (us y 0 &&& 255)) + (nzN (us z 24 &&& 255)) + (nzN (us z 16 &&& 255)) + (nzN (us z 8 &&& 255)) + (nzN (us z 0 &&& 255)) + (nzN (us v 24 &&& 255)) + (nzN (us v 16 &&& 255)) + (nzN (us v 8 &&& 255)) + (nzN (us v 0 &&& 255)) + (nzN (us w 24 &&& 255)) + (nzN (us w 16 &&& 255)) + (nzN (us w 8 &&& 255)) + (nzN (us w 0 &&& 255))))), (0, .ref (b 0)), (1, .int x), (2, .int y), (3, .int z), (4, .int v), (5, .int w)]) hx hb dX11_feed_109 hl (k := 1) rfl (by decide) (by decide) rfl (fun ls hl => ?_)
  refine lv_goto (tgt := 62) hx hb dX11_feed_112 (by decide) ?_
  refine lv_iload hx hb dX11_feed_62 (lv_at hl 0 rfl) ?_
  refine lv_bipush (v := 20) hx hb dX11_feed_64 (by decide) ?_
  refine lv_icmp_ge (tgt := 115) hx hb dX11_feed_66 (by decide) (fun h9 => absurd h9 (by decide)) (fun _ => ?_)
  refine lv_iload_n hx hb dX11_feed_69 rfl (lv_at hl 4 rfl) ?_
  refine lv_iload_n hx hb dX11_feed_70 rfl (lv_at hl 5 rfl) ?_
  refine lv_iload_n hx hb dX11_feed_71 rfl (lv_at hl 6 rfl) ?_
  refine lv_iload hx hb dX11_feed_72 (lv_at hl 7 rfl) ?_
  refine lv_iload hx hb dX11_feed_74 (lv_at hl 8 rfl) ?_
  refine lv_iload hx hb dX11_feed_76 (lv_at hl 0 rfl) ?_
  have hPc := hP.sub (ws' := []) [] rfl
  have hKc := hK.sub (tys' := []) [] rfl
  refine va_calli (va_runS (As := [.int x, .int y, .int z, .int v, .int w, .int 11]) (rest := []) ⟨hx, hb, hml, hown, htg⟩ (c_X11_byteOf_11 l D x y z v w) (cS 6 htg mw_227 kv_X11_byteOf rfl rfl ⟨(Nat.le_of_ble_eq_true rfl), (Nat.le_of_ble_eq_true rfl)⟩) ⟨bl_r, us_r hPc hKc⟩ rfl rfl hl.1 rfl (lv_room (Nat.le_of_ble_eq_true rfl)) dX11_feed_78 ⟨(Nat.le_of_ble_eq_true rfl), (Nat.le_of_ble_eq_true rfl)⟩) hS (fun _ _ h9 => False.elim h9) (fun _ h9 => False.elim h9) (fun r_43 u t H locs ht hvm hw hB hz1 hk1 hS => ?_)
  have hP := ro_keep hP hk1
  subst hw
  refine lv_istore (lv' := [(8, .int (us z 0 &&& 255)), (7, .int 11), (6, .int (nI (nzN (us x 24 &&& 255) + (nzN (us x 16 &&& 255)) + (nzN (us x 8 &&& 255)) + (nzN (us x 0 &&& 255)) + (nzN (us y 24 &&& 255)) + (nzN (us y 16 &&& 255)) + (nzN (us y 8 &&& 255)) + (nzN (us y 0 &&& 255)) + (nzN (us z 24 &&& 255)) + (nzN (us z 16 &&& 255)) + (nzN (us z 8 &&& 255)) + (nzN (us z 0 &&& 255)) + (nzN (us v 24 &&& 255)) + (nzN (us v 16 &&& 255)) + (nzN (us v 8 &&& 255)) + (nzN (us v 0 &&& 255)) + (nzN (us w 24 &&& 255)) + (nzN (us w 16 &&& 255)) + (nzN (us w 8 &&& 255)) + (nzN (us w 0 &&& 255))))), (0, .ref (b 0)), (1, .int x), (2, .int y), (3, .int z), (4, .int v), (5, .int w)]) hx hb dX11_feed_81 hl (by decide) rfl (fun ls hl => ?_)
  refine lv_iload hx hb dX11_feed_83 (lv_at hl 0 rfl) ?_
  have hz11 := nzN_le (us z 0 &&& 255)
  refine mf_blk hx hb htg hown hK hP hD hS (by omega) (lv_sub hl [3, 0] rfl) (fun g_44 H locs hP hD hS => ?_)
  have hP : va_P D vwCl [((b 0), .inr (11, [.int 0, .ref (b 1), .int (nI (0 + nzN (us x 24 &&& 255) + nzN (us x 16 &&& 255) + nzN (us x 8 &&& 255) + nzN (us x 0 &&& 255) + nzN (us y 24 &&& 255) + nzN (us y 16 &&& 255) + nzN (us y 8 &&& 255) + nzN (us y 0 &&& 255) + nzN (us z 24 &&& 255) + nzN (us z 16 &&& 255) + nzN (us z 8 &&& 255) + nzN (us z 0 &&& 255))), .int 0, .int 0, .int 0, .ref (b 6), .ref (b 7), .ref (b 8), .ref (b 9), .ref (b 10), .ref (b 11), .ref (b 12), .int 0, .int 0, .ref (b 15), .ref (b 16), .ref (b 17), .ref (b 18), .ref (b 19), .int 0, .int 0, .ref (b 22), .ref (b 23), .ref (b 24), .int 0, .int 0, .ref (b 27), .int 0, .ref (b 29), .int (-1), .ref (b 31), .ref (b 32), .int (-1), .ref (b 34), .ref (b 35), .int 0, .int 0, .ref (b 38), .ref (b 39), .ref (b 40), .ref (b 41), .ref (b 42), .ref (b 43), .ref (b 44), .ref (b 45), .ref (b 46), .ref (b 47), .int 0, .int 0, .ref (b 50), .ref (b 51), .ref (b 52), .ref (b 53), .ref (b 54), .int (-1), .int 0, .ref (b 57), .ref (b 58), .ref (b 59), .ref (b 60), .ref (b 61), .ref (b 62), .int 0, .int 0, .int 0])), ((b 1), .inl ((cB 1), 160, .inl g_44))] H := hP
  have hD : va_D A [((b 0), .inr (11, [.int 0, .ref (b 1), .int (nI (0 + nzN (us x 24 &&& 255) + nzN (us x 16 &&& 255) + nzN (us x 8 &&& 255) + nzN (us x 0 &&& 255) + nzN (us y 24 &&& 255) + nzN (us y 16 &&& 255) + nzN (us y 8 &&& 255) + nzN (us y 0 &&& 255) + nzN (us z 24 &&& 255) + nzN (us z 16 &&& 255) + nzN (us z 8 &&& 255) + nzN (us z 0 &&& 255))), .int 0, .int 0, .int 0, .ref (b 6), .ref (b 7), .ref (b 8), .ref (b 9), .ref (b 10), .ref (b 11), .ref (b 12), .int 0, .int 0, .ref (b 15), .ref (b 16), .ref (b 17), .ref (b 18), .ref (b 19), .int 0, .int 0, .ref (b 22), .ref (b 23), .ref (b 24), .int 0, .int 0, .ref (b 27), .int 0, .ref (b 29), .int (-1), .ref (b 31), .ref (b 32), .int (-1), .ref (b 34), .ref (b 35), .int 0, .int 0, .ref (b 38), .ref (b 39), .ref (b 40), .ref (b 41), .ref (b 42), .ref (b 43), .ref (b 44), .ref (b 45), .ref (b 46), .ref (b 47), .int 0, .int 0, .ref (b 50), .ref (b 51), .ref (b 52), .ref (b 53), .ref (b 54), .int (-1), .int 0, .ref (b 57), .ref (b 58), .ref (b 59), .ref (b 60), .ref (b 61), .ref (b 62), .int 0, .int 0, .int 0])), ((b 1), .inl ((cB 1), 160, .inl g_44))] := hD
  refine lv_iinc (v := 12) (lv' := [(7, .int 12), (8, .int (us z 0 &&& 255)), (6, .int (nI (nzN (us x 24 &&& 255) + (nzN (us x 16 &&& 255)) + (nzN (us x 8 &&& 255)) + (nzN (us x 0 &&& 255)) + (nzN (us y 24 &&& 255)) + (nzN (us y 16 &&& 255)) + (nzN (us y 8 &&& 255)) + (nzN (us y 0 &&& 255)) + (nzN (us z 24 &&& 255)) + (nzN (us z 16 &&& 255)) + (nzN (us z 8 &&& 255)) + (nzN (us z 0 &&& 255)) + (nzN (us v 24 &&& 255)) + (nzN (us v 16 &&& 255)) + (nzN (us v 8 &&& 255)) + (nzN (us v 0 &&& 255)) + (nzN (us w 24 &&& 255)) + (nzN (us w 16 &&& 255)) + (nzN (us w 8 &&& 255)) + (nzN (us w 0 &&& 255))))), (0, .ref (b 0)), (1, .int x), (2, .int y), (3, .int z), (4, .int v), (5, .int w)]) hx hb dX11_feed_109 hl (k := 1) rfl (by decide) (by decide) rfl (fun ls hl => ?_)
  refine lv_goto (tgt := 62) hx hb dX11_feed_112 (by decide) ?_
  refine lv_iload hx hb dX11_feed_62 (lv_at hl 0 rfl) ?_
  refine lv_bipush (v := 20) hx hb dX11_feed_64 (by decide) ?_
  refine lv_icmp_ge (tgt := 115) hx hb dX11_feed_66 (by decide) (fun h9 => absurd h9 (by decide)) (fun _ => ?_)
  refine lv_iload_n hx hb dX11_feed_69 rfl (lv_at hl 4 rfl) ?_
  refine lv_iload_n hx hb dX11_feed_70 rfl (lv_at hl 5 rfl) ?_
  refine lv_iload_n hx hb dX11_feed_71 rfl (lv_at hl 6 rfl) ?_
  refine lv_iload hx hb dX11_feed_72 (lv_at hl 7 rfl) ?_
  refine lv_iload hx hb dX11_feed_74 (lv_at hl 8 rfl) ?_
  refine lv_iload hx hb dX11_feed_76 (lv_at hl 0 rfl) ?_
  have hPc := hP.sub (ws' := []) [] rfl
  have hKc := hK.sub (tys' := []) [] rfl
  refine va_calli (va_runS (As := [.int x, .int y, .int z, .int v, .int w, .int 12]) (rest := []) ⟨hx, hb, hml, hown, htg⟩ (c_X11_byteOf_12 l D x y z v w) (cS 6 htg mw_227 kv_X11_byteOf rfl rfl ⟨(Nat.le_of_ble_eq_true rfl), (Nat.le_of_ble_eq_true rfl)⟩) ⟨bl_r, us_r hPc hKc⟩ rfl rfl hl.1 rfl (lv_room (Nat.le_of_ble_eq_true rfl)) dX11_feed_78 ⟨(Nat.le_of_ble_eq_true rfl), (Nat.le_of_ble_eq_true rfl)⟩) hS (fun _ _ h9 => False.elim h9) (fun _ h9 => False.elim h9) (fun r_45 u t H locs ht hvm hw hB hz1 hk1 hS => ?_)
  have hP := ro_keep hP hk1
  subst hw
  refine lv_istore (lv' := [(8, .int (us v 24 &&& 255)), (7, .int 12), (6, .int (nI (nzN (us x 24 &&& 255) + (nzN (us x 16 &&& 255)) + (nzN (us x 8 &&& 255)) + (nzN (us x 0 &&& 255)) + (nzN (us y 24 &&& 255)) + (nzN (us y 16 &&& 255)) + (nzN (us y 8 &&& 255)) + (nzN (us y 0 &&& 255)) + (nzN (us z 24 &&& 255)) + (nzN (us z 16 &&& 255)) + (nzN (us z 8 &&& 255)) + (nzN (us z 0 &&& 255)) + (nzN (us v 24 &&& 255)) + (nzN (us v 16 &&& 255)) + (nzN (us v 8 &&& 255)) + (nzN (us v 0 &&& 255)) + (nzN (us w 24 &&& 255)) + (nzN (us w 16 &&& 255)) + (nzN (us w 8 &&& 255)) + (nzN (us w 0 &&& 255))))), (0, .ref (b 0)), (1, .int x), (2, .int y), (3, .int z), (4, .int v), (5, .int w)]) hx hb dX11_feed_81 hl (by decide) rfl (fun ls hl => ?_)
  refine lv_iload hx hb dX11_feed_83 (lv_at hl 0 rfl) ?_
  have hz12 := nzN_le (us v 24 &&& 255)
  refine mf_blk hx hb htg hown hK hP hD hS (by omega) (lv_sub hl [3, 0] rfl) (fun g_46 H locs hP hD hS => ?_)
  have hP : va_P D vwCl [((b 0), .inr (11, [.int 0, .ref (b 1), .int (nI (0 + nzN (us x 24 &&& 255) + nzN (us x 16 &&& 255) + nzN (us x 8 &&& 255) + nzN (us x 0 &&& 255) + nzN (us y 24 &&& 255) + nzN (us y 16 &&& 255) + nzN (us y 8 &&& 255) + nzN (us y 0 &&& 255) + nzN (us z 24 &&& 255) + nzN (us z 16 &&& 255) + nzN (us z 8 &&& 255) + nzN (us z 0 &&& 255) + nzN (us v 24 &&& 255))), .int 0, .int 0, .int 0, .ref (b 6), .ref (b 7), .ref (b 8), .ref (b 9), .ref (b 10), .ref (b 11), .ref (b 12), .int 0, .int 0, .ref (b 15), .ref (b 16), .ref (b 17), .ref (b 18), .ref (b 19), .int 0, .int 0, .ref (b 22), .ref (b 23), .ref (b 24), .int 0, .int 0, .ref (b 27), .int 0, .ref (b 29), .int (-1), .ref (b 31), .ref (b 32), .int (-1), .ref (b 34), .ref (b 35), .int 0, .int 0, .ref (b 38), .ref (b 39), .ref (b 40), .ref (b 41), .ref (b 42), .ref (b 43), .ref (b 44), .ref (b 45), .ref (b 46), .ref (b 47), .int 0, .int 0, .ref (b 50), .ref (b 51), .ref (b 52), .ref (b 53), .ref (b 54), .int (-1), .int 0, .ref (b 57), .ref (b 58), .ref (b 59), .ref (b 60), .ref (b 61), .ref (b 62), .int 0, .int 0, .int 0])), ((b 1), .inl ((cB 1), 160, .inl g_46))] H := hP
  have hD : va_D A [((b 0), .inr (11, [.int 0, .ref (b 1), .int (nI (0 + nzN (us x 24 &&& 255) + nzN (us x 16 &&& 255) + nzN (us x 8 &&& 255) + nzN (us x 0 &&& 255) + nzN (us y 24 &&& 255) + nzN (us y 16 &&& 255) + nzN (us y 8 &&& 255) + nzN (us y 0 &&& 255) + nzN (us z 24 &&& 255) + nzN (us z 16 &&& 255) + nzN (us z 8 &&& 255) + nzN (us z 0 &&& 255) + nzN (us v 24 &&& 255))), .int 0, .int 0, .int 0, .ref (b 6), .ref (b 7), .ref (b 8), .ref (b 9), .ref (b 10), .ref (b 11), .ref (b 12), .int 0, .int 0, .ref (b 15), .ref (b 16), .ref (b 17), .ref (b 18), .ref (b 19), .int 0, .int 0, .ref (b 22), .ref (b 23), .ref (b 24), .int 0, .int 0, .ref (b 27), .int 0, .ref (b 29), .int (-1), .ref (b 31), .ref (b 32), .int (-1), .ref (b 34), .ref (b 35), .int 0, .int 0, .ref (b 38), .ref (b 39), .ref (b 40), .ref (b 41), .ref (b 42), .ref (b 43), .ref (b 44), .ref (b 45), .ref (b 46), .ref (b 47), .int 0, .int 0, .ref (b 50), .ref (b 51), .ref (b 52), .ref (b 53), .ref (b 54), .int (-1), .int 0, .ref (b 57), .ref (b 58), .ref (b 59), .ref (b 60), .ref (b 61), .ref (b 62), .int 0, .int 0, .int 0])), ((b 1), .inl ((cB 1), 160, .inl g_46))] := hD
  refine lv_iinc (v := 13) (lv' := [(7, .int 13), (8, .int (us v 24 &&& 255)), (6, .int (nI (nzN (us x 24 &&& 255) + (nzN (us x 16 &&& 255)) + (nzN (us x 8 &&& 255)) + (nzN (us x 0 &&& 255)) + (nzN (us y 24 &&& 255)) + (nzN (us y 16 &&& 255)) + (nzN (us y 8 &&& 255)) + (nzN (us y 0 &&& 255)) + (nzN (us z 24 &&& 255)) + (nzN (us z 16 &&& 255)) + (nzN (us z 8 &&& 255)) + (nzN (us z 0 &&& 255)) + (nzN (us v 24 &&& 255)) + (nzN (us v 16 &&& 255)) + (nzN (us v 8 &&& 255)) + (nzN (us v 0 &&& 255)) + (nzN (us w 24 &&& 255)) + (nzN (us w 16 &&& 255)) + (nzN (us w 8 &&& 255)) + (nzN (us w 0 &&& 255))))), (0, .ref (b 0)), (1, .int x), (2, .int y), (3, .int z), (4, .int v), (5, .int w)]) hx hb dX11_feed_109 hl (k := 1) rfl (by decide) (by decide) rfl (fun ls hl => ?_)
  refine lv_goto (tgt := 62) hx hb dX11_feed_112 (by decide) ?_
  refine lv_iload hx hb dX11_feed_62 (lv_at hl 0 rfl) ?_
  refine lv_bipush (v := 20) hx hb dX11_feed_64 (by decide) ?_
  refine lv_icmp_ge (tgt := 115) hx hb dX11_feed_66 (by decide) (fun h9 => absurd h9 (by decide)) (fun _ => ?_)
  refine lv_iload_n hx hb dX11_feed_69 rfl (lv_at hl 4 rfl) ?_
  refine lv_iload_n hx hb dX11_feed_70 rfl (lv_at hl 5 rfl) ?_
  refine lv_iload_n hx hb dX11_feed_71 rfl (lv_at hl 6 rfl) ?_
  refine lv_iload hx hb dX11_feed_72 (lv_at hl 7 rfl) ?_
  refine lv_iload hx hb dX11_feed_74 (lv_at hl 8 rfl) ?_
  refine lv_iload hx hb dX11_feed_76 (lv_at hl 0 rfl) ?_
  have hPc := hP.sub (ws' := []) [] rfl
  have hKc := hK.sub (tys' := []) [] rfl
  refine va_calli (va_runS (As := [.int x, .int y, .int z, .int v, .int w, .int 13]) (rest := []) ⟨hx, hb, hml, hown, htg⟩ (c_X11_byteOf_13 l D x y z v w) (cS 6 htg mw_227 kv_X11_byteOf rfl rfl ⟨(Nat.le_of_ble_eq_true rfl), (Nat.le_of_ble_eq_true rfl)⟩) ⟨bl_r, us_r hPc hKc⟩ rfl rfl hl.1 rfl (lv_room (Nat.le_of_ble_eq_true rfl)) dX11_feed_78 ⟨(Nat.le_of_ble_eq_true rfl), (Nat.le_of_ble_eq_true rfl)⟩) hS (fun _ _ h9 => False.elim h9) (fun _ h9 => False.elim h9) (fun r_47 u t H locs ht hvm hw hB hz1 hk1 hS => ?_)
  have hP := ro_keep hP hk1
  subst hw
  refine lv_istore (lv' := [(8, .int (us v 16 &&& 255)), (7, .int 13), (6, .int (nI (nzN (us x 24 &&& 255) + (nzN (us x 16 &&& 255)) + (nzN (us x 8 &&& 255)) + (nzN (us x 0 &&& 255)) + (nzN (us y 24 &&& 255)) + (nzN (us y 16 &&& 255)) + (nzN (us y 8 &&& 255)) + (nzN (us y 0 &&& 255)) + (nzN (us z 24 &&& 255)) + (nzN (us z 16 &&& 255)) + (nzN (us z 8 &&& 255)) + (nzN (us z 0 &&& 255)) + (nzN (us v 24 &&& 255)) + (nzN (us v 16 &&& 255)) + (nzN (us v 8 &&& 255)) + (nzN (us v 0 &&& 255)) + (nzN (us w 24 &&& 255)) + (nzN (us w 16 &&& 255)) + (nzN (us w 8 &&& 255)) + (nzN (us w 0 &&& 255))))), (0, .ref (b 0)), (1, .int x), (2, .int y), (3, .int z), (4, .int v), (5, .int w)]) hx hb dX11_feed_81 hl (by decide) rfl (fun ls hl => ?_)
  refine lv_iload hx hb dX11_feed_83 (lv_at hl 0 rfl) ?_
  have hz13 := nzN_le (us v 16 &&& 255)
  refine mf_blk hx hb htg hown hK hP hD hS (by omega) (lv_sub hl [3, 0] rfl) (fun g_48 H locs hP hD hS => ?_)
  have hP : va_P D vwCl [((b 0), .inr (11, [.int 0, .ref (b 1), .int (nI (0 + nzN (us x 24 &&& 255) + nzN (us x 16 &&& 255) + nzN (us x 8 &&& 255) + nzN (us x 0 &&& 255) + nzN (us y 24 &&& 255) + nzN (us y 16 &&& 255) + nzN (us y 8 &&& 255) + nzN (us y 0 &&& 255) + nzN (us z 24 &&& 255) + nzN (us z 16 &&& 255) + nzN (us z 8 &&& 255) + nzN (us z 0 &&& 255) + nzN (us v 24 &&& 255) + nzN (us v 16 &&& 255))), .int 0, .int 0, .int 0, .ref (b 6), .ref (b 7), .ref (b 8), .ref (b 9), .ref (b 10), .ref (b 11), .ref (b 12), .int 0, .int 0, .ref (b 15), .ref (b 16), .ref (b 17), .ref (b 18), .ref (b 19), .int 0, .int 0, .ref (b 22), .ref (b 23), .ref (b 24), .int 0, .int 0, .ref (b 27), .int 0, .ref (b 29), .int (-1), .ref (b 31), .ref (b 32), .int (-1), .ref (b 34), .ref (b 35), .int 0, .int 0, .ref (b 38), .ref (b 39), .ref (b 40), .ref (b 41), .ref (b 42), .ref (b 43), .ref (b 44), .ref (b 45), .ref (b 46), .ref (b 47), .int 0, .int 0, .ref (b 50), .ref (b 51), .ref (b 52), .ref (b 53), .ref (b 54), .int (-1), .int 0, .ref (b 57), .ref (b 58), .ref (b 59), .ref (b 60), .ref (b 61), .ref (b 62), .int 0, .int 0, .int 0])), ((b 1), .inl ((cB 1), 160, .inl g_48))] H := hP
  have hD : va_D A [((b 0), .inr (11, [.int 0, .ref (b 1), .int (nI (0 + nzN (us x 24 &&& 255) + nzN (us x 16 &&& 255) + nzN (us x 8 &&& 255) + nzN (us x 0 &&& 255) + nzN (us y 24 &&& 255) + nzN (us y 16 &&& 255) + nzN (us y 8 &&& 255) + nzN (us y 0 &&& 255) + nzN (us z 24 &&& 255) + nzN (us z 16 &&& 255) + nzN (us z 8 &&& 255) + nzN (us z 0 &&& 255) + nzN (us v 24 &&& 255) + nzN (us v 16 &&& 255))), .int 0, .int 0, .int 0, .ref (b 6), .ref (b 7), .ref (b 8), .ref (b 9), .ref (b 10), .ref (b 11), .ref (b 12), .int 0, .int 0, .ref (b 15), .ref (b 16), .ref (b 17), .ref (b 18), .ref (b 19), .int 0, .int 0, .ref (b 22), .ref (b 23), .ref (b 24), .int 0, .int 0, .ref (b 27), .int 0, .ref (b 29), .int (-1), .ref (b 31), .ref (b 32), .int (-1), .ref (b 34), .ref (b 35), .int 0, .int 0, .ref (b 38), .ref (b 39), .ref (b 40), .ref (b 41), .ref (b 42), .ref (b 43), .ref (b 44), .ref (b 45), .ref (b 46), .ref (b 47), .int 0, .int 0, .ref (b 50), .ref (b 51), .ref (b 52), .ref (b 53), .ref (b 54), .int (-1), .int 0, .ref (b 57), .ref (b 58), .ref (b 59), .ref (b 60), .ref (b 61), .ref (b 62), .int 0, .int 0, .int 0])), ((b 1), .inl ((cB 1), 160, .inl g_48))] := hD
  refine lv_iinc (v := 14) (lv' := [(7, .int 14), (8, .int (us v 16 &&& 255)), (6, .int (nI (nzN (us x 24 &&& 255) + (nzN (us x 16 &&& 255)) + (nzN (us x 8 &&& 255)) + (nzN (us x 0 &&& 255)) + (nzN (us y 24 &&& 255)) + (nzN (us y 16 &&& 255)) + (nzN (us y 8 &&& 255)) + (nzN (us y 0 &&& 255)) + (nzN (us z 24 &&& 255)) + (nzN (us z 16 &&& 255)) + (nzN (us z 8 &&& 255)) + (nzN (us z 0 &&& 255)) + (nzN (us v 24 &&& 255)) + (nzN (us v 16 &&& 255)) + (nzN (us v 8 &&& 255)) + (nzN (us v 0 &&& 255)) + (nzN (us w 24 &&& 255)) + (nzN (us w 16 &&& 255)) + (nzN (us w 8 &&& 255)) + (nzN (us w 0 &&& 255))))), (0, .ref (b 0)), (1, .int x), (2, .int y), (3, .int z), (4, .int v), (5, .int w)]) hx hb dX11_feed_109 hl (k := 1) rfl (by decide) (by decide) rfl (fun ls hl => ?_)
  refine lv_goto (tgt := 62) hx hb dX11_feed_112 (by decide) ?_
  refine lv_iload hx hb dX11_feed_62 (lv_at hl 0 rfl) ?_
  refine lv_bipush (v := 20) hx hb dX11_feed_64 (by decide) ?_
  refine lv_icmp_ge (tgt := 115) hx hb dX11_feed_66 (by decide) (fun h9 => absurd h9 (by decide)) (fun _ => ?_)
  refine lv_iload_n hx hb dX11_feed_69 rfl (lv_at hl 4 rfl) ?_
  refine lv_iload_n hx hb dX11_feed_70 rfl (lv_at hl 5 rfl) ?_
  refine lv_iload_n hx hb dX11_feed_71 rfl (lv_at hl 6 rfl) ?_
  refine lv_iload hx hb dX11_feed_72 (lv_at hl 7 rfl) ?_
  refine lv_iload hx hb dX11_feed_74 (lv_at hl 8 rfl) ?_
  refine lv_iload hx hb dX11_feed_76 (lv_at hl 0 rfl) ?_
  have hPc := hP.sub (ws' := []) [] rfl
  have hKc := hK.sub (tys' := []) [] rfl
  refine va_calli (va_runS (As := [.int x, .int y, .int z, .int v, .int w, .int 14]) (rest := []) ⟨hx, hb, hml, hown, htg⟩ (c_X11_byteOf_14 l D x y z v w) (cS 6 htg mw_227 kv_X11_byteOf rfl rfl ⟨(Nat.le_of_ble_eq_true rfl), (Nat.le_of_ble_eq_true rfl)⟩) ⟨bl_r, us_r hPc hKc⟩ rfl rfl hl.1 rfl (lv_room (Nat.le_of_ble_eq_true rfl)) dX11_feed_78 ⟨(Nat.le_of_ble_eq_true rfl), (Nat.le_of_ble_eq_true rfl)⟩) hS (fun _ _ h9 => False.elim h9) (fun _ h9 => False.elim h9) (fun r_49 u t H locs ht hvm hw hB hz1 hk1 hS => ?_)
  have hP := ro_keep hP hk1
  subst hw
  refine lv_istore (lv' := [(8, .int (us v 8 &&& 255)), (7, .int 14), (6, .int (nI (nzN (us x 24 &&& 255) + (nzN (us x 16 &&& 255)) + (nzN (us x 8 &&& 255)) + (nzN (us x 0 &&& 255)) + (nzN (us y 24 &&& 255)) + (nzN (us y 16 &&& 255)) + (nzN (us y 8 &&& 255)) + (nzN (us y 0 &&& 255)) + (nzN (us z 24 &&& 255)) + (nzN (us z 16 &&& 255)) + (nzN (us z 8 &&& 255)) + (nzN (us z 0 &&& 255)) + (nzN (us v 24 &&& 255)) + (nzN (us v 16 &&& 255)) + (nzN (us v 8 &&& 255)) + (nzN (us v 0 &&& 255)) + (nzN (us w 24 &&& 255)) + (nzN (us w 16 &&& 255)) + (nzN (us w 8 &&& 255)) + (nzN (us w 0 &&& 255))))), (0, .ref (b 0)), (1, .int x), (2, .int y), (3, .int z), (4, .int v), (5, .int w)]) hx hb dX11_feed_81 hl (by decide) rfl (fun ls hl => ?_)
  refine lv_iload hx hb dX11_feed_83 (lv_at hl 0 rfl) ?_
  have hz14 := nzN_le (us v 8 &&& 255)
  refine mf_blk hx hb htg hown hK hP hD hS (by omega) (lv_sub hl [3, 0] rfl) (fun g_50 H locs hP hD hS => ?_)
  have hP : va_P D vwCl [((b 0), .inr (11, [.int 0, .ref (b 1), .int (nI (0 + nzN (us x 24 &&& 255) + nzN (us x 16 &&& 255) + nzN (us x 8 &&& 255) + nzN (us x 0 &&& 255) + nzN (us y 24 &&& 255) + nzN (us y 16 &&& 255) + nzN (us y 8 &&& 255) + nzN (us y 0 &&& 255) + nzN (us z 24 &&& 255) + nzN (us z 16 &&& 255) + nzN (us z 8 &&& 255) + nzN (us z 0 &&& 255) + nzN (us v 24 &&& 255) + nzN (us v 16 &&& 255) + nzN (us v 8 &&& 255))), .int 0, .int 0, .int 0, .ref (b 6), .ref (b 7), .ref (b 8), .ref (b 9), .ref (b 10), .ref (b 11), .ref (b 12), .int 0, .int 0, .ref (b 15), .ref (b 16), .ref (b 17), .ref (b 18), .ref (b 19), .int 0, .int 0, .ref (b 22), .ref (b 23), .ref (b 24), .int 0, .int 0, .ref (b 27), .int 0, .ref (b 29), .int (-1), .ref (b 31), .ref (b 32), .int (-1), .ref (b 34), .ref (b 35), .int 0, .int 0, .ref (b 38), .ref (b 39), .ref (b 40), .ref (b 41), .ref (b 42), .ref (b 43), .ref (b 44), .ref (b 45), .ref (b 46), .ref (b 47), .int 0, .int 0, .ref (b 50), .ref (b 51), .ref (b 52), .ref (b 53), .ref (b 54), .int (-1), .int 0, .ref (b 57), .ref (b 58), .ref (b 59), .ref (b 60), .ref (b 61), .ref (b 62), .int 0, .int 0, .int 0])), ((b 1), .inl ((cB 1), 160, .inl g_50))] H := hP
  have hD : va_D A [((b 0), .inr (11, [.int 0, .ref (b 1), .int (nI (0 + nzN (us x 24 &&& 255) + nzN (us x 16 &&& 255) + nzN (us x 8 &&& 255) + nzN (us x 0 &&& 255) + nzN (us y 24 &&& 255) + nzN (us y 16 &&& 255) + nzN (us y 8 &&& 255) + nzN (us y 0 &&& 255) + nzN (us z 24 &&& 255) + nzN (us z 16 &&& 255) + nzN (us z 8 &&& 255) + nzN (us z 0 &&& 255) + nzN (us v 24 &&& 255) + nzN (us v 16 &&& 255) + nzN (us v 8 &&& 255))), .int 0, .int 0, .int 0, .ref (b 6), .ref (b 7), .ref (b 8), .ref (b 9), .ref (b 10), .ref (b 11), .ref (b 12), .int 0, .int 0, .ref (b 15), .ref (b 16), .ref (b 17), .ref (b 18), .ref (b 19), .int 0, .int 0, .ref (b 22), .ref (b 23), .ref (b 24), .int 0, .int 0, .ref (b 27), .int 0, .ref (b 29), .int (-1), .ref (b 31), .ref (b 32), .int (-1), .ref (b 34), .ref (b 35), .int 0, .int 0, .ref (b 38), .ref (b 39), .ref (b 40), .ref (b 41), .ref (b 42), .ref (b 43), .ref (b 44), .ref (b 45), .ref (b 46), .ref (b 47), .int 0, .int 0, .ref (b 50), .ref (b 51), .ref (b 52), .ref (b 53), .ref (b 54), .int (-1), .int 0, .ref (b 57), .ref (b 58), .ref (b 59), .ref (b 60), .ref (b 61), .ref (b 62), .int 0, .int 0, .int 0])), ((b 1), .inl ((cB 1), 160, .inl g_50))] := hD
  refine lv_iinc (v := 15) (lv' := [(7, .int 15), (8, .int (us v 8 &&& 255)), (6, .int (nI (nzN (us x 24 &&& 255) + (nzN (us x 16 &&& 255)) + (nzN (us x 8 &&& 255)) + (nzN (us x 0 &&& 255)) + (nzN (us y 24 &&& 255)) + (nzN (us y 16 &&& 255)) + (nzN (us y 8 &&& 255)) + (nzN (us y 0 &&& 255)) + (nzN (us z 24 &&& 255)) + (nzN (us z 16 &&& 255)) + (nzN (us z 8 &&& 255)) + (nzN (us z 0 &&& 255)) + (nzN (us v 24 &&& 255)) + (nzN (us v 16 &&& 255)) + (nzN (us v 8 &&& 255)) + (nzN (us v 0 &&& 255)) + (nzN (us w 24 &&& 255)) + (nzN (us w 16 &&& 255)) + (nzN (us w 8 &&& 255)) + (nzN (us w 0 &&& 255))))), (0, .ref (b 0)), (1, .int x), (2, .int y), (3, .int z), (4, .int v), (5, .int w)]) hx hb dX11_feed_109 hl (k := 1) rfl (by decide) (by decide) rfl (fun ls hl => ?_)
  refine lv_goto (tgt := 62) hx hb dX11_feed_112 (by decide) ?_
  refine lv_iload hx hb dX11_feed_62 (lv_at hl 0 rfl) ?_
  refine lv_bipush (v := 20) hx hb dX11_feed_64 (by decide) ?_
  refine lv_icmp_ge (tgt := 115) hx hb dX11_feed_66 (by decide) (fun h9 => absurd h9 (by decide)) (fun _ => ?_)
  refine lv_iload_n hx hb dX11_feed_69 rfl (lv_at hl 4 rfl) ?_
  refine lv_iload_n hx hb dX11_feed_70 rfl (lv_at hl 5 rfl) ?_
  refine lv_iload_n hx hb dX11_feed_71 rfl (lv_at hl 6 rfl) ?_
  refine lv_iload hx hb dX11_feed_72 (lv_at hl 7 rfl) ?_
  refine lv_iload hx hb dX11_feed_74 (lv_at hl 8 rfl) ?_
  refine lv_iload hx hb dX11_feed_76 (lv_at hl 0 rfl) ?_
  have hPc := hP.sub (ws' := []) [] rfl
  have hKc := hK.sub (tys' := []) [] rfl
  refine va_calli (va_runS (As := [.int x, .int y, .int z, .int v, .int w, .int 15]) (rest := []) ⟨hx, hb, hml, hown, htg⟩ (c_X11_byteOf_15 l D x y z v w) (cS 6 htg mw_227 kv_X11_byteOf rfl rfl ⟨(Nat.le_of_ble_eq_true rfl), (Nat.le_of_ble_eq_true rfl)⟩) ⟨bl_r, us_r hPc hKc⟩ rfl rfl hl.1 rfl (lv_room (Nat.le_of_ble_eq_true rfl)) dX11_feed_78 ⟨(Nat.le_of_ble_eq_true rfl), (Nat.le_of_ble_eq_true rfl)⟩) hS (fun _ _ h9 => False.elim h9) (fun _ h9 => False.elim h9) (fun r_51 u t H locs ht hvm hw hB hz1 hk1 hS => ?_)
  have hP := ro_keep hP hk1
  subst hw
  refine lv_istore (lv' := [(8, .int (us v 0 &&& 255)), (7, .int 15), (6, .int (nI (nzN (us x 24 &&& 255) + (nzN (us x 16 &&& 255)) + (nzN (us x 8 &&& 255)) + (nzN (us x 0 &&& 255)) + (nzN (us y 24 &&& 255)) + (nzN (us y 16 &&& 255)) + (nzN (us y 8 &&& 255)) + (nzN (us y 0 &&& 255)) + (nzN (us z 24 &&& 255)) + (nzN (us z 16 &&& 255)) + (nzN (us z 8 &&& 255)) + (nzN (us z 0 &&& 255)) + (nzN (us v 24 &&& 255)) + (nzN (us v 16 &&& 255)) + (nzN (us v 8 &&& 255)) + (nzN (us v 0 &&& 255)) + (nzN (us w 24 &&& 255)) + (nzN (us w 16 &&& 255)) + (nzN (us w 8 &&& 255)) + (nzN (us w 0 &&& 255))))), (0, .ref (b 0)), (1, .int x), (2, .int y), (3, .int z), (4, .int v), (5, .int w)]) hx hb dX11_feed_81 hl (by decide) rfl (fun ls hl => ?_)
  refine lv_iload hx hb dX11_feed_83 (lv_at hl 0 rfl) ?_
  have hz15 := nzN_le (us v 0 &&& 255)
  refine mf_blk hx hb htg hown hK hP hD hS (by omega) (lv_sub hl [3, 0] rfl) (fun g_52 H locs hP hD hS => ?_)
  have hP : va_P D vwCl [((b 0), .inr (11, [.int 0, .ref (b 1), .int (nI (0 + nzN (us x 24 &&& 255) + nzN (us x 16 &&& 255) + nzN (us x 8 &&& 255) + nzN (us x 0 &&& 255) + nzN (us y 24 &&& 255) + nzN (us y 16 &&& 255) + nzN (us y 8 &&& 255) + nzN (us y 0 &&& 255) + nzN (us z 24 &&& 255) + nzN (us z 16 &&& 255) + nzN (us z 8 &&& 255) + nzN (us z 0 &&& 255) + nzN (us v 24 &&& 255) + nzN (us v 16 &&& 255) + nzN (us v 8 &&& 255) + nzN (us v 0 &&& 255))), .int 0, .int 0, .int 0, .ref (b 6), .ref (b 7), .ref (b 8), .ref (b 9), .ref (b 10), .ref (b 11), .ref (b 12), .int 0, .int 0, .ref (b 15), .ref (b 16), .ref (b 17), .ref (b 18), .ref (b 19), .int 0, .int 0, .ref (b 22), .ref (b 23), .ref (b 24), .int 0, .int 0, .ref (b 27), .int 0, .ref (b 29), .int (-1), .ref (b 31), .ref (b 32), .int (-1), .ref (b 34), .ref (b 35), .int 0, .int 0, .ref (b 38), .ref (b 39), .ref (b 40), .ref (b 41), .ref (b 42), .ref (b 43), .ref (b 44), .ref (b 45), .ref (b 46), .ref (b 47), .int 0, .int 0, .ref (b 50), .ref (b 51), .ref (b 52), .ref (b 53), .ref (b 54), .int (-1), .int 0, .ref (b 57), .ref (b 58), .ref (b 59), .ref (b 60), .ref (b 61), .ref (b 62), .int 0, .int 0, .int 0])), ((b 1), .inl ((cB 1), 160, .inl g_52))] H := hP
  have hD : va_D A [((b 0), .inr (11, [.int 0, .ref (b 1), .int (nI (0 + nzN (us x 24 &&& 255) + nzN (us x 16 &&& 255) + nzN (us x 8 &&& 255) + nzN (us x 0 &&& 255) + nzN (us y 24 &&& 255) + nzN (us y 16 &&& 255) + nzN (us y 8 &&& 255) + nzN (us y 0 &&& 255) + nzN (us z 24 &&& 255) + nzN (us z 16 &&& 255) + nzN (us z 8 &&& 255) + nzN (us z 0 &&& 255) + nzN (us v 24 &&& 255) + nzN (us v 16 &&& 255) + nzN (us v 8 &&& 255) + nzN (us v 0 &&& 255))), .int 0, .int 0, .int 0, .ref (b 6), .ref (b 7), .ref (b 8), .ref (b 9), .ref (b 10), .ref (b 11), .ref (b 12), .int 0, .int 0, .ref (b 15), .ref (b 16), .ref (b 17), .ref (b 18), .ref (b 19), .int 0, .int 0, .ref (b 22), .ref (b 23), .ref (b 24), .int 0, .int 0, .ref (b 27), .int 0, .ref (b 29), .int (-1), .ref (b 31), .ref (b 32), .int (-1), .ref (b 34), .ref (b 35), .int 0, .int 0, .ref (b 38), .ref (b 39), .ref (b 40), .ref (b 41), .ref (b 42), .ref (b 43), .ref (b 44), .ref (b 45), .ref (b 46), .ref (b 47), .int 0, .int 0, .ref (b 50), .ref (b 51), .ref (b 52), .ref (b 53), .ref (b 54), .int (-1), .int 0, .ref (b 57), .ref (b 58), .ref (b 59), .ref (b 60), .ref (b 61), .ref (b 62), .int 0, .int 0, .int 0])), ((b 1), .inl ((cB 1), 160, .inl g_52))] := hD
  refine lv_iinc (v := 16) (lv' := [(7, .int 16), (8, .int (us v 0 &&& 255)), (6, .int (nI (nzN (us x 24 &&& 255) + (nzN (us x 16 &&& 255)) + (nzN (us x 8 &&& 255)) + (nzN (us x 0 &&& 255)) + (nzN (us y 24 &&& 255)) + (nzN (us y 16 &&& 255)) + (nzN (us y 8 &&& 255)) + (nzN (us y 0 &&& 255)) + (nzN (us z 24 &&& 255)) + (nzN (us z 16 &&& 255)) + (nzN (us z 8 &&& 255)) + (nzN (us z 0 &&& 255)) + (nzN (us v 24 &&& 255)) + (nzN (us v 16 &&& 255)) + (nzN (us v 8 &&& 255)) + (nzN (us v 0 &&& 255)) + (nzN (us w 24 &&& 255)) + (nzN (us w 16 &&& 255)) + (nzN (us w 8 &&& 255)) + (nzN (us w 0 &&& 255))))), (0, .ref (b 0)), (1, .int x), (2, .int y), (3, .int z), (4, .int v), (5, .int w)]) hx hb dX11_feed_109 hl (k := 1) rfl (by decide) (by decide) rfl (fun ls hl => ?_)
  refine lv_goto (tgt := 62) hx hb dX11_feed_112 (by decide) ?_
  refine lv_iload hx hb dX11_feed_62 (lv_at hl 0 rfl) ?_
  refine lv_bipush (v := 20) hx hb dX11_feed_64 (by decide) ?_
  refine lv_icmp_ge (tgt := 115) hx hb dX11_feed_66 (by decide) (fun h9 => absurd h9 (by decide)) (fun _ => ?_)
  refine lv_iload_n hx hb dX11_feed_69 rfl (lv_at hl 4 rfl) ?_
  refine lv_iload_n hx hb dX11_feed_70 rfl (lv_at hl 5 rfl) ?_
  refine lv_iload_n hx hb dX11_feed_71 rfl (lv_at hl 6 rfl) ?_
  refine lv_iload hx hb dX11_feed_72 (lv_at hl 7 rfl) ?_
  refine lv_iload hx hb dX11_feed_74 (lv_at hl 8 rfl) ?_
  refine lv_iload hx hb dX11_feed_76 (lv_at hl 0 rfl) ?_
  have hPc := hP.sub (ws' := []) [] rfl
  have hKc := hK.sub (tys' := []) [] rfl
  refine va_calli (va_runS (As := [.int x, .int y, .int z, .int v, .int w, .int 16]) (rest := []) ⟨hx, hb, hml, hown, htg⟩ (c_X11_byteOf_16 l D x y z v w) (cS 6 htg mw_227 kv_X11_byteOf rfl rfl ⟨(Nat.le_of_ble_eq_true rfl), (Nat.le_of_ble_eq_true rfl)⟩) ⟨bl_r, us_r hPc hKc⟩ rfl rfl hl.1 rfl (lv_room (Nat.le_of_ble_eq_true rfl)) dX11_feed_78 ⟨(Nat.le_of_ble_eq_true rfl), (Nat.le_of_ble_eq_true rfl)⟩) hS (fun _ _ h9 => False.elim h9) (fun _ h9 => False.elim h9) (fun r_53 u t H locs ht hvm hw hB hz1 hk1 hS => ?_)
  have hP := ro_keep hP hk1
  subst hw
  refine lv_istore (lv' := [(8, .int (us w 24 &&& 255)), (7, .int 16), (6, .int (nI (nzN (us x 24 &&& 255) + (nzN (us x 16 &&& 255)) + (nzN (us x 8 &&& 255)) + (nzN (us x 0 &&& 255)) + (nzN (us y 24 &&& 255)) + (nzN (us y 16 &&& 255)) + (nzN (us y 8 &&& 255)) + (nzN (us y 0 &&& 255)) + (nzN (us z 24 &&& 255)) + (nzN (us z 16 &&& 255)) + (nzN (us z 8 &&& 255)) + (nzN (us z 0 &&& 255)) + (nzN (us v 24 &&& 255)) + (nzN (us v 16 &&& 255)) + (nzN (us v 8 &&& 255)) + (nzN (us v 0 &&& 255)) + (nzN (us w 24 &&& 255)) + (nzN (us w 16 &&& 255)) + (nzN (us w 8 &&& 255)) + (nzN (us w 0 &&& 255))))), (0, .ref (b 0)), (1, .int x), (2, .int y), (3, .int z), (4, .int v), (5, .int w)]) hx hb dX11_feed_81 hl (by decide) rfl (fun ls hl => ?_)
  refine lv_iload hx hb dX11_feed_83 (lv_at hl 0 rfl) ?_
  have hz16 := nzN_le (us w 24 &&& 255)
  refine mf_blk hx hb htg hown hK hP hD hS (by omega) (lv_sub hl [3, 0] rfl) (fun g_54 H locs hP hD hS => ?_)
  have hP : va_P D vwCl [((b 0), .inr (11, [.int 0, .ref (b 1), .int (nI (0 + nzN (us x 24 &&& 255) + nzN (us x 16 &&& 255) + nzN (us x 8 &&& 255) + nzN (us x 0 &&& 255) + nzN (us y 24 &&& 255) + nzN (us y 16 &&& 255) + nzN (us y 8 &&& 255) + nzN (us y 0 &&& 255) + nzN (us z 24 &&& 255) + nzN (us z 16 &&& 255) + nzN (us z 8 &&& 255) + nzN (us z 0 &&& 255) + nzN (us v 24 &&& 255) + nzN (us v 16 &&& 255) + nzN (us v 8 &&& 255) + nzN (us v 0 &&& 255) + nzN (us w 24 &&& 255))), .int 0, .int 0, .int 0, .ref (b 6), .ref (b 7), .ref (b 8), .ref (b 9), .ref (b 10), .ref (b 11), .ref (b 12), .int 0, .int 0, .ref (b 15), .ref (b 16), .ref (b 17), .ref (b 18), .ref (b 19), .int 0, .int 0, .ref (b 22), .ref (b 23), .ref (b 24), .int 0, .int 0, .ref (b 27), .int 0, .ref (b 29), .int (-1), .ref (b 31), .ref (b 32), .int (-1), .ref (b 34), .ref (b 35), .int 0, .int 0, .ref (b 38), .ref (b 39), .ref (b 40), .ref (b 41), .ref (b 42), .ref (b 43), .ref (b 44), .ref (b 45), .ref (b 46), .ref (b 47), .int 0, .int 0, .ref (b 50), .ref (b 51), .ref (b 52), .ref (b 53), .ref (b 54), .int (-1), .int 0, .ref (b 57), .ref (b 58), .ref (b 59), .ref (b 60), .ref (b 61), .ref (b 62), .int 0, .int 0, .int 0])), ((b 1), .inl ((cB 1), 160, .inl g_54))] H := hP
  have hD : va_D A [((b 0), .inr (11, [.int 0, .ref (b 1), .int (nI (0 + nzN (us x 24 &&& 255) + nzN (us x 16 &&& 255) + nzN (us x 8 &&& 255) + nzN (us x 0 &&& 255) + nzN (us y 24 &&& 255) + nzN (us y 16 &&& 255) + nzN (us y 8 &&& 255) + nzN (us y 0 &&& 255) + nzN (us z 24 &&& 255) + nzN (us z 16 &&& 255) + nzN (us z 8 &&& 255) + nzN (us z 0 &&& 255) + nzN (us v 24 &&& 255) + nzN (us v 16 &&& 255) + nzN (us v 8 &&& 255) + nzN (us v 0 &&& 255) + nzN (us w 24 &&& 255))), .int 0, .int 0, .int 0, .ref (b 6), .ref (b 7), .ref (b 8), .ref (b 9), .ref (b 10), .ref (b 11), .ref (b 12), .int 0, .int 0, .ref (b 15), .ref (b 16), .ref (b 17), .ref (b 18), .ref (b 19), .int 0, .int 0, .ref (b 22), .ref (b 23), .ref (b 24), .int 0, .int 0, .ref (b 27), .int 0, .ref (b 29), .int (-1), .ref (b 31), .ref (b 32), .int (-1), .ref (b 34), .ref (b 35), .int 0, .int 0, .ref (b 38), .ref (b 39), .ref (b 40), .ref (b 41), .ref (b 42), .ref (b 43), .ref (b 44), .ref (b 45), .ref (b 46), .ref (b 47), .int 0, .int 0, .ref (b 50), .ref (b 51), .ref (b 52), .ref (b 53), .ref (b 54), .int (-1), .int 0, .ref (b 57), .ref (b 58), .ref (b 59), .ref (b 60), .ref (b 61), .ref (b 62), .int 0, .int 0, .int 0])), ((b 1), .inl ((cB 1), 160, .inl g_54))] := hD
  refine lv_iinc (v := 17) (lv' := [(7, .int 17), (8, .int (us w 24 &&& 255)), (6, .int (nI (nzN (us x 24 &&& 255) + (nzN (us x 16 &&& 255)) + (nzN (us x 8 &&& 255)) + (nzN (us x 0 &&& 255)) + (nzN (us y 24 &&& 255)) + (nzN (us y 16 &&& 255)) + (nzN (us y 8 &&& 255)) + (nzN (us y 0 &&& 255)) + (nzN (us z 24 &&& 255)) + (nzN (us z 16 &&& 255)) + (nzN (us z 8 &&& 255)) + (nzN (us z 0 &&& 255)) + (nzN (us v 24 &&& 255)) + (nzN (us v 16 &&& 255)) + (nzN (us v 8 &&& 255)) + (nzN (us v 0 &&& 255)) + (nzN (us w 24 &&& 255)) + (nzN (us w 16 &&& 255)) + (nzN (us w 8 &&& 255)) + (nzN (us w 0 &&& 255))))), (0, .ref (b 0)), (1, .int x), (2, .int y), (3, .int z), (4, .int v), (5, .int w)]) hx hb dX11_feed_109 hl (k := 1) rfl (by decide) (by decide) rfl (fun ls hl => ?_)
  refine lv_goto (tgt := 62) hx hb dX11_feed_112 (by decide) ?_
  refine lv_iload hx hb dX11_feed_62 (lv_at hl 0 rfl) ?_
  refine lv_bipush (v := 20) hx hb dX11_feed_64 (by decide) ?_
  refine lv_icmp_ge (tgt := 115) hx hb dX11_feed_66 (by decide) (fun h9 => absurd h9 (by decide)) (fun _ => ?_)
  refine lv_iload_n hx hb dX11_feed_69 rfl (lv_at hl 4 rfl) ?_
  refine lv_iload_n hx hb dX11_feed_70 rfl (lv_at hl 5 rfl) ?_
  refine lv_iload_n hx hb dX11_feed_71 rfl (lv_at hl 6 rfl) ?_
  refine lv_iload hx hb dX11_feed_72 (lv_at hl 7 rfl) ?_
  refine lv_iload hx hb dX11_feed_74 (lv_at hl 8 rfl) ?_
  refine lv_iload hx hb dX11_feed_76 (lv_at hl 0 rfl) ?_
  have hPc := hP.sub (ws' := []) [] rfl
  have hKc := hK.sub (tys' := []) [] rfl
  refine va_calli (va_runS (As := [.int x, .int y, .int z, .int v, .int w, .int 17]) (rest := []) ⟨hx, hb, hml, hown, htg⟩ (c_X11_byteOf_17 l D x y z v w) (cS 6 htg mw_227 kv_X11_byteOf rfl rfl ⟨(Nat.le_of_ble_eq_true rfl), (Nat.le_of_ble_eq_true rfl)⟩) ⟨bl_r, us_r hPc hKc⟩ rfl rfl hl.1 rfl (lv_room (Nat.le_of_ble_eq_true rfl)) dX11_feed_78 ⟨(Nat.le_of_ble_eq_true rfl), (Nat.le_of_ble_eq_true rfl)⟩) hS (fun _ _ h9 => False.elim h9) (fun _ h9 => False.elim h9) (fun r_55 u t H locs ht hvm hw hB hz1 hk1 hS => ?_)
  have hP := ro_keep hP hk1
  subst hw
  refine lv_istore (lv' := [(8, .int (us w 16 &&& 255)), (7, .int 17), (6, .int (nI (nzN (us x 24 &&& 255) + (nzN (us x 16 &&& 255)) + (nzN (us x 8 &&& 255)) + (nzN (us x 0 &&& 255)) + (nzN (us y 24 &&& 255)) + (nzN (us y 16 &&& 255)) + (nzN (us y 8 &&& 255)) + (nzN (us y 0 &&& 255)) + (nzN (us z 24 &&& 255)) + (nzN (us z 16 &&& 255)) + (nzN (us z 8 &&& 255)) + (nzN (us z 0 &&& 255)) + (nzN (us v 24 &&& 255)) + (nzN (us v 16 &&& 255)) + (nzN (us v 8 &&& 255)) + (nzN (us v 0 &&& 255)) + (nzN (us w 24 &&& 255)) + (nzN (us w 16 &&& 255)) + (nzN (us w 8 &&& 255)) + (nzN (us w 0 &&& 255))))), (0, .ref (b 0)), (1, .int x), (2, .int y), (3, .int z), (4, .int v), (5, .int w)]) hx hb dX11_feed_81 hl (by decide) rfl (fun ls hl => ?_)
  refine lv_iload hx hb dX11_feed_83 (lv_at hl 0 rfl) ?_
  have hz17 := nzN_le (us w 16 &&& 255)
  refine mf_blk hx hb htg hown hK hP hD hS (by omega) (lv_sub hl [3, 0] rfl) (fun g_56 H locs hP hD hS => ?_)
  have hP : va_P D vwCl [((b 0), .inr (11, [.int 0, .ref (b 1), .int (nI (0 + nzN (us x 24 &&& 255) + nzN (us x 16 &&& 255) + nzN (us x 8 &&& 255) + nzN (us x 0 &&& 255) + nzN (us y 24 &&& 255) + nzN (us y 16 &&& 255) + nzN (us y 8 &&& 255) + nzN (us y 0 &&& 255) + nzN (us z 24 &&& 255) + nzN (us z 16 &&& 255) + nzN (us z 8 &&& 255) + nzN (us z 0 &&& 255) + nzN (us v 24 &&& 255) + nzN (us v 16 &&& 255) + nzN (us v 8 &&& 255) + nzN (us v 0 &&& 255) + nzN (us w 24 &&& 255) + nzN (us w 16 &&& 255))), .int 0, .int 0, .int 0, .ref (b 6), .ref (b 7), .ref (b 8), .ref (b 9), .ref (b 10), .ref (b 11), .ref (b 12), .int 0, .int 0, .ref (b 15), .ref (b 16), .ref (b 17), .ref (b 18), .ref (b 19), .int 0, .int 0, .ref (b 22), .ref (b 23), .ref (b 24), .int 0, .int 0, .ref (b 27), .int 0, .ref (b 29), .int (-1), .ref (b 31), .ref (b 32), .int (-1), .ref (b 34), .ref (b 35), .int 0, .int 0, .ref (b 38), .ref (b 39), .ref (b 40), .ref (b 41), .ref (b 42), .ref (b 43), .ref (b 44), .ref (b 45), .ref (b 46), .ref (b 47), .int 0, .int 0, .ref (b 50), .ref (b 51), .ref (b 52), .ref (b 53), .ref (b 54), .int (-1), .int 0, .ref (b 57), .ref (b 58), .ref (b 59), .ref (b 60), .ref (b 61), .ref (b 62), .int 0, .int 0, .int 0])), ((b 1), .inl ((cB 1), 160, .inl g_56))] H := hP
  have hD : va_D A [((b 0), .inr (11, [.int 0, .ref (b 1), .int (nI (0 + nzN (us x 24 &&& 255) + nzN (us x 16 &&& 255) + nzN (us x 8 &&& 255) + nzN (us x 0 &&& 255) + nzN (us y 24 &&& 255) + nzN (us y 16 &&& 255) + nzN (us y 8 &&& 255) + nzN (us y 0 &&& 255) + nzN (us z 24 &&& 255) + nzN (us z 16 &&& 255) + nzN (us z 8 &&& 255) + nzN (us z 0 &&& 255) + nzN (us v 24 &&& 255) + nzN (us v 16 &&& 255) + nzN (us v 8 &&& 255) + nzN (us v 0 &&& 255) + nzN (us w 24 &&& 255) + nzN (us w 16 &&& 255))), .int 0, .int 0, .int 0, .ref (b 6), .ref (b 7), .ref (b 8), .ref (b 9), .ref (b 10), .ref (b 11), .ref (b 12), .int 0, .int 0, .ref (b 15), .ref (b 16), .ref (b 17), .ref (b 18), .ref (b 19), .int 0, .int 0, .ref (b 22), .ref (b 23), .ref (b 24), .int 0, .int 0, .ref (b 27), .int 0, .ref (b 29), .int (-1), .ref (b 31), .ref (b 32), .int (-1), .ref (b 34), .ref (b 35), .int 0, .int 0, .ref (b 38), .ref (b 39), .ref (b 40), .ref (b 41), .ref (b 42), .ref (b 43), .ref (b 44), .ref (b 45), .ref (b 46), .ref (b 47), .int 0, .int 0, .ref (b 50), .ref (b 51), .ref (b 52), .ref (b 53), .ref (b 54), .int (-1), .int 0, .ref (b 57), .ref (b 58), .ref (b 59), .ref (b 60), .ref (b 61), .ref (b 62), .int 0, .int 0, .int 0])), ((b 1), .inl ((cB 1), 160, .inl g_56))] := hD
  refine lv_iinc (v := 18) (lv' := [(7, .int 18), (8, .int (us w 16 &&& 255)), (6, .int (nI (nzN (us x 24 &&& 255) + (nzN (us x 16 &&& 255)) + (nzN (us x 8 &&& 255)) + (nzN (us x 0 &&& 255)) + (nzN (us y 24 &&& 255)) + (nzN (us y 16 &&& 255)) + (nzN (us y 8 &&& 255)) + (nzN (us y 0 &&& 255)) + (nzN (us z 24 &&& 255)) + (nzN (us z 16 &&& 255)) + (nzN (us z 8 &&& 255)) + (nzN (us z 0 &&& 255)) + (nzN (us v 24 &&& 255)) + (nzN (us v 16 &&& 255)) + (nzN (us v 8 &&& 255)) + (nzN (us v 0 &&& 255)) + (nzN (us w 24 &&& 255)) + (nzN (us w 16 &&& 255)) + (nzN (us w 8 &&& 255)) + (nzN (us w 0 &&& 255))))), (0, .ref (b 0)), (1, .int x), (2, .int y), (3, .int z), (4, .int v), (5, .int w)]) hx hb dX11_feed_109 hl (k := 1) rfl (by decide) (by decide) rfl (fun ls hl => ?_)
  refine lv_goto (tgt := 62) hx hb dX11_feed_112 (by decide) ?_
  refine lv_iload hx hb dX11_feed_62 (lv_at hl 0 rfl) ?_
  refine lv_bipush (v := 20) hx hb dX11_feed_64 (by decide) ?_
  refine lv_icmp_ge (tgt := 115) hx hb dX11_feed_66 (by decide) (fun h9 => absurd h9 (by decide)) (fun _ => ?_)
  refine lv_iload_n hx hb dX11_feed_69 rfl (lv_at hl 4 rfl) ?_
  refine lv_iload_n hx hb dX11_feed_70 rfl (lv_at hl 5 rfl) ?_
  refine lv_iload_n hx hb dX11_feed_71 rfl (lv_at hl 6 rfl) ?_
  refine lv_iload hx hb dX11_feed_72 (lv_at hl 7 rfl) ?_
  refine lv_iload hx hb dX11_feed_74 (lv_at hl 8 rfl) ?_
  refine lv_iload hx hb dX11_feed_76 (lv_at hl 0 rfl) ?_
  have hPc := hP.sub (ws' := []) [] rfl
  have hKc := hK.sub (tys' := []) [] rfl
  refine va_calli (va_runS (As := [.int x, .int y, .int z, .int v, .int w, .int 18]) (rest := []) ⟨hx, hb, hml, hown, htg⟩ (c_X11_byteOf_18 l D x y z v w) (cS 6 htg mw_227 kv_X11_byteOf rfl rfl ⟨(Nat.le_of_ble_eq_true rfl), (Nat.le_of_ble_eq_true rfl)⟩) ⟨bl_r, us_r hPc hKc⟩ rfl rfl hl.1 rfl (lv_room (Nat.le_of_ble_eq_true rfl)) dX11_feed_78 ⟨(Nat.le_of_ble_eq_true rfl), (Nat.le_of_ble_eq_true rfl)⟩) hS (fun _ _ h9 => False.elim h9) (fun _ h9 => False.elim h9) (fun r_57 u t H locs ht hvm hw hB hz1 hk1 hS => ?_)
  have hP := ro_keep hP hk1
  subst hw
  refine lv_istore (lv' := [(8, .int (us w 8 &&& 255)), (7, .int 18), (6, .int (nI (nzN (us x 24 &&& 255) + (nzN (us x 16 &&& 255)) + (nzN (us x 8 &&& 255)) + (nzN (us x 0 &&& 255)) + (nzN (us y 24 &&& 255)) + (nzN (us y 16 &&& 255)) + (nzN (us y 8 &&& 255)) + (nzN (us y 0 &&& 255)) + (nzN (us z 24 &&& 255)) + (nzN (us z 16 &&& 255)) + (nzN (us z 8 &&& 255)) + (nzN (us z 0 &&& 255)) + (nzN (us v 24 &&& 255)) + (nzN (us v 16 &&& 255)) + (nzN (us v 8 &&& 255)) + (nzN (us v 0 &&& 255)) + (nzN (us w 24 &&& 255)) + (nzN (us w 16 &&& 255)) + (nzN (us w 8 &&& 255)) + (nzN (us w 0 &&& 255))))), (0, .ref (b 0)), (1, .int x), (2, .int y), (3, .int z), (4, .int v), (5, .int w)]) hx hb dX11_feed_81 hl (by decide) rfl (fun ls hl => ?_)
  refine lv_iload hx hb dX11_feed_83 (lv_at hl 0 rfl) ?_
  have hz18 := nzN_le (us w 8 &&& 255)
  refine mf_blk hx hb htg hown hK hP hD hS (by omega) (lv_sub hl [3, 0] rfl) (fun g_58 H locs hP hD hS => ?_)
  have hP : va_P D vwCl [((b 0), .inr (11, [.int 0, .ref (b 1), .int (nI (0 + nzN (us x 24 &&& 255) + nzN (us x 16 &&& 255) + nzN (us x 8 &&& 255) + nzN (us x 0 &&& 255) + nzN (us y 24 &&& 255) + nzN (us y 16 &&& 255) + nzN (us y 8 &&& 255) + nzN (us y 0 &&& 255) + nzN (us z 24 &&& 255) + nzN (us z 16 &&& 255) + nzN (us z 8 &&& 255) + nzN (us z 0 &&& 255) + nzN (us v 24 &&& 255) + nzN (us v 16 &&& 255) + nzN (us v 8 &&& 255) + nzN (us v 0 &&& 255) + nzN (us w 24 &&& 255) + nzN (us w 16 &&& 255) + nzN (us w 8 &&& 255))), .int 0, .int 0, .int 0, .ref (b 6), .ref (b 7), .ref (b 8), .ref (b 9), .ref (b 10), .ref (b 11), .ref (b 12), .int 0, .int 0, .ref (b 15), .ref (b 16), .ref (b 17), .ref (b 18), .ref (b 19), .int 0, .int 0, .ref (b 22), .ref (b 23), .ref (b 24), .int 0, .int 0, .ref (b 27), .int 0, .ref (b 29), .int (-1), .ref (b 31), .ref (b 32), .int (-1), .ref (b 34), .ref (b 35), .int 0, .int 0, .ref (b 38), .ref (b 39), .ref (b 40), .ref (b 41), .ref (b 42), .ref (b 43), .ref (b 44), .ref (b 45), .ref (b 46), .ref (b 47), .int 0, .int 0, .ref (b 50), .ref (b 51), .ref (b 52), .ref (b 53), .ref (b 54), .int (-1), .int 0, .ref (b 57), .ref (b 58), .ref (b 59), .ref (b 60), .ref (b 61), .ref (b 62), .int 0, .int 0, .int 0])), ((b 1), .inl ((cB 1), 160, .inl g_58))] H := hP
  have hD : va_D A [((b 0), .inr (11, [.int 0, .ref (b 1), .int (nI (0 + nzN (us x 24 &&& 255) + nzN (us x 16 &&& 255) + nzN (us x 8 &&& 255) + nzN (us x 0 &&& 255) + nzN (us y 24 &&& 255) + nzN (us y 16 &&& 255) + nzN (us y 8 &&& 255) + nzN (us y 0 &&& 255) + nzN (us z 24 &&& 255) + nzN (us z 16 &&& 255) + nzN (us z 8 &&& 255) + nzN (us z 0 &&& 255) + nzN (us v 24 &&& 255) + nzN (us v 16 &&& 255) + nzN (us v 8 &&& 255) + nzN (us v 0 &&& 255) + nzN (us w 24 &&& 255) + nzN (us w 16 &&& 255) + nzN (us w 8 &&& 255))), .int 0, .int 0, .int 0, .ref (b 6), .ref (b 7), .ref (b 8), .ref (b 9), .ref (b 10), .ref (b 11), .ref (b 12), .int 0, .int 0, .ref (b 15), .ref (b 16), .ref (b 17), .ref (b 18), .ref (b 19), .int 0, .int 0, .ref (b 22), .ref (b 23), .ref (b 24), .int 0, .int 0, .ref (b 27), .int 0, .ref (b 29), .int (-1), .ref (b 31), .ref (b 32), .int (-1), .ref (b 34), .ref (b 35), .int 0, .int 0, .ref (b 38), .ref (b 39), .ref (b 40), .ref (b 41), .ref (b 42), .ref (b 43), .ref (b 44), .ref (b 45), .ref (b 46), .ref (b 47), .int 0, .int 0, .ref (b 50), .ref (b 51), .ref (b 52), .ref (b 53), .ref (b 54), .int (-1), .int 0, .ref (b 57), .ref (b 58), .ref (b 59), .ref (b 60), .ref (b 61), .ref (b 62), .int 0, .int 0, .int 0])), ((b 1), .inl ((cB 1), 160, .inl g_58))] := hD
  refine lv_iinc (v := 19) (lv' := [(7, .int 19), (8, .int (us w 8 &&& 255)), (6, .int (nI (nzN (us x 24 &&& 255) + (nzN (us x 16 &&& 255)) + (nzN (us x 8 &&& 255)) + (nzN (us x 0 &&& 255)) + (nzN (us y 24 &&& 255)) + (nzN (us y 16 &&& 255)) + (nzN (us y 8 &&& 255)) + (nzN (us y 0 &&& 255)) + (nzN (us z 24 &&& 255)) + (nzN (us z 16 &&& 255)) + (nzN (us z 8 &&& 255)) + (nzN (us z 0 &&& 255)) + (nzN (us v 24 &&& 255)) + (nzN (us v 16 &&& 255)) + (nzN (us v 8 &&& 255)) + (nzN (us v 0 &&& 255)) + (nzN (us w 24 &&& 255)) + (nzN (us w 16 &&& 255)) + (nzN (us w 8 &&& 255)) + (nzN (us w 0 &&& 255))))), (0, .ref (b 0)), (1, .int x), (2, .int y), (3, .int z), (4, .int v), (5, .int w)]) hx hb dX11_feed_109 hl (k := 1) rfl (by decide) (by decide) rfl (fun ls hl => ?_)
  refine lv_goto (tgt := 62) hx hb dX11_feed_112 (by decide) ?_
  refine lv_iload hx hb dX11_feed_62 (lv_at hl 0 rfl) ?_
  refine lv_bipush (v := 20) hx hb dX11_feed_64 (by decide) ?_
  refine lv_icmp_ge (tgt := 115) hx hb dX11_feed_66 (by decide) (fun h9 => absurd h9 (by decide)) (fun _ => ?_)
  refine lv_iload_n hx hb dX11_feed_69 rfl (lv_at hl 4 rfl) ?_
  refine lv_iload_n hx hb dX11_feed_70 rfl (lv_at hl 5 rfl) ?_
  refine lv_iload_n hx hb dX11_feed_71 rfl (lv_at hl 6 rfl) ?_
  refine lv_iload hx hb dX11_feed_72 (lv_at hl 7 rfl) ?_
  refine lv_iload hx hb dX11_feed_74 (lv_at hl 8 rfl) ?_
  refine lv_iload hx hb dX11_feed_76 (lv_at hl 0 rfl) ?_
  have hPc := hP.sub (ws' := []) [] rfl
  have hKc := hK.sub (tys' := []) [] rfl
  refine va_calli (va_runS (As := [.int x, .int y, .int z, .int v, .int w, .int 19]) (rest := []) ⟨hx, hb, hml, hown, htg⟩ (c_X11_byteOf_19 l D x y z v w) (cS 6 htg mw_227 kv_X11_byteOf rfl rfl ⟨(Nat.le_of_ble_eq_true rfl), (Nat.le_of_ble_eq_true rfl)⟩) ⟨bl_r, us_r hPc hKc⟩ rfl rfl hl.1 rfl (lv_room (Nat.le_of_ble_eq_true rfl)) dX11_feed_78 ⟨(Nat.le_of_ble_eq_true rfl), (Nat.le_of_ble_eq_true rfl)⟩) hS (fun _ _ h9 => False.elim h9) (fun _ h9 => False.elim h9) (fun r_59 u t H locs ht hvm hw hB hz1 hk1 hS => ?_)
  have hP := ro_keep hP hk1
  subst hw
  refine lv_istore (lv' := [(8, .int (us w 0 &&& 255)), (7, .int 19), (6, .int (nI (nzN (us x 24 &&& 255) + (nzN (us x 16 &&& 255)) + (nzN (us x 8 &&& 255)) + (nzN (us x 0 &&& 255)) + (nzN (us y 24 &&& 255)) + (nzN (us y 16 &&& 255)) + (nzN (us y 8 &&& 255)) + (nzN (us y 0 &&& 255)) + (nzN (us z 24 &&& 255)) + (nzN (us z 16 &&& 255)) + (nzN (us z 8 &&& 255)) + (nzN (us z 0 &&& 255)) + (nzN (us v 24 &&& 255)) + (nzN (us v 16 &&& 255)) + (nzN (us v 8 &&& 255)) + (nzN (us v 0 &&& 255)) + (nzN (us w 24 &&& 255)) + (nzN (us w 16 &&& 255)) + (nzN (us w 8 &&& 255)) + (nzN (us w 0 &&& 255))))), (0, .ref (b 0)), (1, .int x), (2, .int y), (3, .int z), (4, .int v), (5, .int w)]) hx hb dX11_feed_81 hl (by decide) rfl (fun ls hl => ?_)
  refine lv_iload hx hb dX11_feed_83 (lv_at hl 0 rfl) ?_
  have hz19 := nzN_le (us w 0 &&& 255)
  refine mf_blk hx hb htg hown hK hP hD hS (by omega) (lv_sub hl [3, 0] rfl) (fun g_60 H locs hP hD hS => ?_)
  have hP : va_P D vwCl [((b 0), .inr (11, [.int 0, .ref (b 1), .int (nI (0 + nzN (us x 24 &&& 255) + nzN (us x 16 &&& 255) + nzN (us x 8 &&& 255) + nzN (us x 0 &&& 255) + nzN (us y 24 &&& 255) + nzN (us y 16 &&& 255) + nzN (us y 8 &&& 255) + nzN (us y 0 &&& 255) + nzN (us z 24 &&& 255) + nzN (us z 16 &&& 255) + nzN (us z 8 &&& 255) + nzN (us z 0 &&& 255) + nzN (us v 24 &&& 255) + nzN (us v 16 &&& 255) + nzN (us v 8 &&& 255) + nzN (us v 0 &&& 255) + nzN (us w 24 &&& 255) + nzN (us w 16 &&& 255) + nzN (us w 8 &&& 255) + nzN (us w 0 &&& 255))), .int 0, .int 0, .int 0, .ref (b 6), .ref (b 7), .ref (b 8), .ref (b 9), .ref (b 10), .ref (b 11), .ref (b 12), .int 0, .int 0, .ref (b 15), .ref (b 16), .ref (b 17), .ref (b 18), .ref (b 19), .int 0, .int 0, .ref (b 22), .ref (b 23), .ref (b 24), .int 0, .int 0, .ref (b 27), .int 0, .ref (b 29), .int (-1), .ref (b 31), .ref (b 32), .int (-1), .ref (b 34), .ref (b 35), .int 0, .int 0, .ref (b 38), .ref (b 39), .ref (b 40), .ref (b 41), .ref (b 42), .ref (b 43), .ref (b 44), .ref (b 45), .ref (b 46), .ref (b 47), .int 0, .int 0, .ref (b 50), .ref (b 51), .ref (b 52), .ref (b 53), .ref (b 54), .int (-1), .int 0, .ref (b 57), .ref (b 58), .ref (b 59), .ref (b 60), .ref (b 61), .ref (b 62), .int 0, .int 0, .int 0])), ((b 1), .inl ((cB 1), 160, .inl g_60))] H := hP
  have hD : va_D A [((b 0), .inr (11, [.int 0, .ref (b 1), .int (nI (0 + nzN (us x 24 &&& 255) + nzN (us x 16 &&& 255) + nzN (us x 8 &&& 255) + nzN (us x 0 &&& 255) + nzN (us y 24 &&& 255) + nzN (us y 16 &&& 255) + nzN (us y 8 &&& 255) + nzN (us y 0 &&& 255) + nzN (us z 24 &&& 255) + nzN (us z 16 &&& 255) + nzN (us z 8 &&& 255) + nzN (us z 0 &&& 255) + nzN (us v 24 &&& 255) + nzN (us v 16 &&& 255) + nzN (us v 8 &&& 255) + nzN (us v 0 &&& 255) + nzN (us w 24 &&& 255) + nzN (us w 16 &&& 255) + nzN (us w 8 &&& 255) + nzN (us w 0 &&& 255))), .int 0, .int 0, .int 0, .ref (b 6), .ref (b 7), .ref (b 8), .ref (b 9), .ref (b 10), .ref (b 11), .ref (b 12), .int 0, .int 0, .ref (b 15), .ref (b 16), .ref (b 17), .ref (b 18), .ref (b 19), .int 0, .int 0, .ref (b 22), .ref (b 23), .ref (b 24), .int 0, .int 0, .ref (b 27), .int 0, .ref (b 29), .int (-1), .ref (b 31), .ref (b 32), .int (-1), .ref (b 34), .ref (b 35), .int 0, .int 0, .ref (b 38), .ref (b 39), .ref (b 40), .ref (b 41), .ref (b 42), .ref (b 43), .ref (b 44), .ref (b 45), .ref (b 46), .ref (b 47), .int 0, .int 0, .ref (b 50), .ref (b 51), .ref (b 52), .ref (b 53), .ref (b 54), .int (-1), .int 0, .ref (b 57), .ref (b 58), .ref (b 59), .ref (b 60), .ref (b 61), .ref (b 62), .int 0, .int 0, .int 0])), ((b 1), .inl ((cB 1), 160, .inl g_60))] := hD
  refine lv_iinc (v := 20) (lv' := [(7, .int 20), (8, .int (us w 0 &&& 255)), (6, .int (nI (nzN (us x 24 &&& 255) + (nzN (us x 16 &&& 255)) + (nzN (us x 8 &&& 255)) + (nzN (us x 0 &&& 255)) + (nzN (us y 24 &&& 255)) + (nzN (us y 16 &&& 255)) + (nzN (us y 8 &&& 255)) + (nzN (us y 0 &&& 255)) + (nzN (us z 24 &&& 255)) + (nzN (us z 16 &&& 255)) + (nzN (us z 8 &&& 255)) + (nzN (us z 0 &&& 255)) + (nzN (us v 24 &&& 255)) + (nzN (us v 16 &&& 255)) + (nzN (us v 8 &&& 255)) + (nzN (us v 0 &&& 255)) + (nzN (us w 24 &&& 255)) + (nzN (us w 16 &&& 255)) + (nzN (us w 8 &&& 255)) + (nzN (us w 0 &&& 255))))), (0, .ref (b 0)), (1, .int x), (2, .int y), (3, .int z), (4, .int v), (5, .int w)]) hx hb dX11_feed_109 hl (k := 1) rfl (by decide) (by decide) rfl (fun ls hl => ?_)
  refine lv_goto (tgt := 62) hx hb dX11_feed_112 (by decide) ?_
  refine lv_iload hx hb dX11_feed_62 (lv_at hl 0 rfl) ?_
  refine lv_bipush (v := 20) hx hb dX11_feed_64 (by decide) ?_
  refine lv_icmp_ge (tgt := 115) hx hb dX11_feed_66 (by decide) (fun _ => ?_) (fun h9 => False.elim (h9 (by decide)))
  refine lv_aload_n hx hb dX11_feed_115 rfl (lv_at hl 3 rfl) ?_
  refine va_get (D := D) (ci := 11) (v := .int (nI (0 + nzN (us x 24 &&& 255) + nzN (us x 16 &&& 255) + nzN (us x 8 &&& 255) + nzN (us x 0 &&& 255) + nzN (us y 24 &&& 255) + nzN (us y 16 &&& 255) + nzN (us y 8 &&& 255) + nzN (us y 0 &&& 255) + nzN (us z 24 &&& 255) + nzN (us z 16 &&& 255) + nzN (us z 8 &&& 255) + nzN (us z 0 &&& 255) + nzN (us v 24 &&& 255) + nzN (us v 16 &&& 255) + nzN (us v 8 &&& 255) + nzN (us v 0 &&& 255) + nzN (us w 24 &&& 255) + nzN (us w 16 &&& 255) + nzN (us w 8 &&& 255) + nzN (us w 0 &&& 255)))) (C := RX11) (T := TX11) (N := 66) hx hb htg in_X11 hown hK hP 0 rfl rfl 2 (by decide) (htg _ mw_84) (fun _ h9 => h9) rfl dX11_feed_116 ?_
  exact W.iret (v := (nI (0 + nzN (us x 24 &&& 255) + nzN (us x 16 &&& 255) + nzN (us x 8 &&& 255) + nzN (us x 0 &&& 255) + nzN (us y 24 &&& 255) + nzN (us y 16 &&& 255) + nzN (us y 8 &&& 255) + nzN (us y 0 &&& 255) + nzN (us z 24 &&& 255) + nzN (us z 16 &&& 255) + nzN (us z 8 &&& 255) + nzN (us z 0 &&& 255) + nzN (us v 24 &&& 255) + nzN (us v 16 &&& 255) + nzN (us v 8 &&& 255) + nzN (us v 0 &&& 255) + nzN (us w 24 &&& 255) + nzN (us w 16 &&& 255) + nzN (us w 8 &&& 255) + nzN (us w 0 &&& 255)))) hx hb hr  (fun t ht hW => ⟨⟨(nI (0 + nzN (us x 24 &&& 255) + nzN (us x 16 &&& 255) + nzN (us x 8 &&& 255) + nzN (us x 0 &&& 255) + nzN (us y 24 &&& 255) + nzN (us y 16 &&& 255) + nzN (us y 8 &&& 255) + nzN (us y 0 &&& 255) + nzN (us z 24 &&& 255) + nzN (us z 16 &&& 255) + nzN (us z 8 &&& 255) + nzN (us z 0 &&& 255) + nzN (us v 24 &&& 255) + nzN (us v 16 &&& 255) + nzN (us v 8 &&& 255) + nzN (us v 0 &&& 255) + nzN (us w 24 &&& 255) + nzN (us w 16 &&& 255) + nzN (us w 8 &&& 255) + nzN (us w 0 &&& 255))), (), rfl, (by unfold sp_feed sgN; exact congrArg nI (by omega)), trivial⟩, hS.F ht⟩) hS.2.2 dX11_feed_119
