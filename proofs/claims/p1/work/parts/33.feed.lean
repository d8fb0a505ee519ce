set_option maxHeartbeats 4000000 in
set_option maxRecDepth 100000 in
theorem c_X6_signsIn (l : Launch) (D : va_G) (x : Int32) : Met l yX6_signsIn (.code yX6_signsIn cX6_signsIn 3 (some .int) :: gw) ({ frames := 0, cells := 0, slots := 0, locals := 0 }) (va_Pc [.int x] (pr D [] [])) (va_Qi (fun r (_ : Unit) => r = nI (sgN x)) (fun _ _ => True) (fun _ => False)) 0 0 (fun _ => False) := by
  refine Met.ofW (cc := cX6_signsIn) (maxL := 3) (ret := (some .int)) (by decide) rfl ?_
  intro p e s m args below meth c s₁ B hml hv
  obtain ⟨rfl, hP, hK⟩ := hv
  have hx := B.exec
  have hb := B.bytes
  have hr := B.returns
  have hts := atoms_spec (ws := .code yX6_signsIn cX6_signsIn 3 (some .int) :: gw) B.pre
  have htg := gw_tl hts
  have hown : s.vm.findClass RX6 = some m.cls := findClass_of_methodNamed B.named
  have hlocks := B.notSynchronized
  have hS : va_S (fun _ => False) s.heap s.heap [] := va_S.rf
  have hl := lv_entry ([.int x]) (n := 3) (Nat.le_of_ble_eq_true rfl)
  rw [lg_entry_eq]
  generalize (lg_sl ([.int x]) ++ List.replicate (3 - (lg_sl ([.int x])).length) Slot.unset).toArray = ls at hl ⊢
  have hl : lv_has ls 3 [(0, .int x)] := hl
  refine lv_iconst (v := 0) hx hb dX6_signsIn_0 (by decide) ?_
  refine lv_istore_n (lv' := [(1, .int 0), (0, .int x)]) hx hb dX6_signsIn_1 rfl hl (by decide) rfl (fun ls hl => ?_)
  refine lv_bipush (v := 24) hx hb dX6_signsIn_2 (by decide) ?_
  refine lv_istore_n (lv' := [(2, .int 24), (1, .int 0), (0, .int x)]) hx hb dX6_signsIn_4 rfl hl (by decide) rfl (fun ls hl => ?_)
  refine lv_iload_n hx hb dX6_signsIn_5 rfl (lv_at hl 0 rfl) ?_
  refine lv_if_lt (tgt := 33) hx hb dX6_signsIn_6 (by decide) (fun h9 => absurd h9 (by decide)) (fun _ => ?_)
  refine lv_iload_n hx hb dX6_signsIn_9 rfl (lv_at hl 1 rfl) ?_
  refine lv_iload_n hx hb dX6_signsIn_10 rfl (lv_at hl 2 rfl) ?_
  refine lv_iload_n hx hb dX6_signsIn_11 rfl (lv_at hl 0 rfl) ?_
  refine lv_iushr (v := (us x 24)) hx hb dX6_signsIn_12 rfl ?_
  refine lv_sipush (v := 255) hx hb dX6_signsIn_13 (by decide) ?_
  refine lv_iand hx hb dX6_signsIn_16 ?_
  refine lv_tern hx hb dX6_signsIn_17 dX6_signsIn_20 dX6_signsIn_21 dX6_signsIn_24 ?_
  refine lv_iadd hx hb dX6_signsIn_25 ?_
  refine lv_val (y := (nI (nzN ((us x 24) &&& 255)))) (Int32.zero_add _) ?_
  refine lv_istore_n (lv' := [(1, .int (nI (nzN ((us x 24) &&& 255)))), (2, .int 24), (0, .int x)]) hx hb dX6_signsIn_26 rfl hl (by decide) rfl (fun ls hl => ?_)
  refine lv_iinc (v := 16) (lv' := [(2, .int 16), (1, .int (nI (nzN ((us x 24) &&& 255)))), (0, .int x)]) hx hb dX6_signsIn_27 hl (k := 1) rfl (by decide) (by decide) rfl (fun ls hl => ?_)
  refine lv_goto (tgt := 5) hx hb dX6_signsIn_30 (by decide) ?_
  refine lv_iload_n hx hb dX6_signsIn_5 rfl (lv_at hl 0 rfl) ?_
  refine lv_if_lt (tgt := 33) hx hb dX6_signsIn_6 (by decide) (fun h9 => absurd h9 (by decide)) (fun _ => ?_)
  refine lv_iload_n hx hb dX6_signsIn_9 rfl (lv_at hl 1 rfl) ?_
  refine lv_iload_n hx hb dX6_signsIn_10 rfl (lv_at hl 2 rfl) ?_
  refine lv_iload_n hx hb dX6_signsIn_11 rfl (lv_at hl 0 rfl) ?_
  refine lv_iushr (v := (us x 16)) hx hb dX6_signsIn_12 rfl ?_
  refine lv_sipush (v := 255) hx hb dX6_signsIn_13 (by decide) ?_
  refine lv_iand hx hb dX6_signsIn_16 ?_
  refine lv_tern hx hb dX6_signsIn_17 dX6_signsIn_20 dX6_signsIn_21 dX6_signsIn_24 ?_
  refine lv_iadd hx hb dX6_signsIn_25 ?_
  refine lv_val (y := (nI (nzN ((us x 24) &&& 255) + (nzN ((us x 16) &&& 255))))) (nI_add _ _) ?_
  refine lv_istore_n (lv' := [(1, .int (nI (nzN ((us x 24) &&& 255) + (nzN ((us x 16) &&& 255))))), (2, .int 16), (0, .int x)]) hx hb dX6_signsIn_26 rfl hl (by decide) rfl (fun ls hl => ?_)
  refine lv_iinc (v := 8) (lv' := [(2, .int 8), (1, .int (nI (nzN ((us x 24) &&& 255) + (nzN ((us x 16) &&& 255))))), (0, .int x)]) hx hb dX6_signsIn_27 hl (k := 1) rfl (by decide) (by decide) rfl (fun ls hl => ?_)
  refine lv_goto (tgt := 5) hx hb dX6_signsIn_30 (by decide) ?_
  refine lv_iload_n hx hb dX6_signsIn_5 rfl (lv_at hl 0 rfl) ?_
  refine lv_if_lt (tgt := 33) hx hb dX6_signsIn_6 (by decide) (fun h9 => absurd h9 (by decide)) (fun _ => ?_)
  refine lv_iload_n hx hb dX6_signsIn_9 rfl (lv_at hl 1 rfl) ?_
  refine lv_iload_n hx hb dX6_signsIn_10 rfl (lv_at hl 2 rfl) ?_
  refine lv_iload_n hx hb dX6_signsIn_11 rfl (lv_at hl 0 rfl) ?_
  refine lv_iushr (v := (us x 8)) hx hb dX6_signsIn_12 rfl ?_
  refine lv_sipush (v := 255) hx hb dX6_signsIn_13 (by decide) ?_
  refine lv_iand hx hb dX6_signsIn_16 ?_
  refine lv_tern hx hb dX6_signsIn_17 dX6_signsIn_20 dX6_signsIn_21 dX6_signsIn_24 ?_
  refine lv_iadd hx hb dX6_signsIn_25 ?_
  refine lv_val (y := (nI (nzN ((us x 24) &&& 255) + (nzN ((us x 16) &&& 255)) + (nzN ((us x 8) &&& 255))))) (nI_add _ _) ?_
  refine lv_istore_n (lv' := [(1, .int (nI (nzN ((us x 24) &&& 255) + (nzN ((us x 16) &&& 255)) + (nzN ((us x 8) &&& 255))))), (2, .int 8), (0, .int x)]) hx hb dX6_signsIn_26 rfl hl (by decide) rfl (fun ls hl => ?_)
  refine lv_iinc (v := 0) (lv' := [(2, .int 0), (1, .int (nI (nzN ((us x 24) &&& 255) + (nzN ((us x 16) &&& 255)) + (nzN ((us x 8) &&& 255))))), (0, .int x)]) hx hb dX6_signsIn_27 hl (k := 1) rfl (by decide) (by decide) rfl (fun ls hl => ?_)
  refine lv_goto (tgt := 5) hx hb dX6_signsIn_30 (by decide) ?_
  refine lv_iload_n hx hb dX6_signsIn_5 rfl (lv_at hl 0 rfl) ?_
  refine lv_if_lt (tgt := 33) hx hb dX6_signsIn_6 (by decide) (fun h9 => absurd h9 (by decide)) (fun _ => ?_)
  refine lv_iload_n hx hb dX6_signsIn_9 rfl (lv_at hl 1 rfl) ?_
  refine lv_iload_n hx hb dX6_signsIn_10 rfl (lv_at hl 2 rfl) ?_
  refine lv_iload_n hx hb dX6_signsIn_11 rfl (lv_at hl 0 rfl) ?_
  refine lv_iushr (v := (us x 0)) hx hb dX6_signsIn_12 rfl ?_
  refine lv_sipush (v := 255) hx hb dX6_signsIn_13 (by decide) ?_
  refine lv_iand hx hb dX6_signsIn_16 ?_
  refine lv_tern hx hb dX6_signsIn_17 dX6_signsIn_20 dX6_signsIn_21 dX6_signsIn_24 ?_
  refine lv_iadd hx hb dX6_signsIn_25 ?_
  refine lv_val (y := (nI (nzN ((us x 24) &&& 255) + (nzN ((us x 16) &&& 255)) + (nzN ((us x 8) &&& 255)) + (nzN ((us x 0) &&& 255))))) (nI_add _ _) ?_
  refine lv_istore_n (lv' := [(1, .int (nI (nzN ((us x 24) &&& 255) + (nzN ((us x 16) &&& 255)) + (nzN ((us x 8) &&& 255)) + (nzN ((us x 0) &&& 255))))), (2, .int 0), (0, .int x)]) hx hb dX6_signsIn_26 rfl hl (by decide) rfl (fun ls hl => ?_)
  refine lv_iinc (v := (-8)) (lv' := [(2, .int (-8)), (1, .int (nI (nzN ((us x 24) &&& 255) + (nzN ((us x 16) &&& 255)) + (nzN ((us x 8) &&& 255)) + (nzN ((us x 0) &&& 255))))), (0, .int x)]) hx hb dX6_signsIn_27 hl (k := 1) rfl (by decide) (by decide) rfl (fun ls hl => ?_)
  refine lv_goto (tgt := 5) hx hb dX6_signsIn_30 (by decide) ?_
  refine lv_iload_n hx hb dX6_signsIn_5 rfl (lv_at hl 0 rfl) ?_
  refine lv_if_lt (tgt := 33) hx hb dX6_signsIn_6 (by decide) (fun _ => ?_) (fun h9 => False.elim (h9 (by decide)))
  refine lv_iload_n hx hb dX6_signsIn_33 rfl (lv_at hl 1 rfl) ?_
  exact W.iret (v := (nI (nzN ((us x 24) &&& 255) + (nzN ((us x 16) &&& 255)) + (nzN ((us x 8) &&& 255)) + (nzN ((us x 0) &&& 255))))) hx hb hr  (fun t ht hW => ⟨⟨(nI (nzN ((us x 24) &&& 255) + (nzN ((us x 16) &&& 255)) + (nzN ((us x 8) &&& 255)) + (nzN ((us x 0) &&& 255)))), (), rfl, rfl, trivial⟩, hS.F ht⟩) hS.2.2 dX6_signsIn_34

set_option maxHeartbeats 4000000 in
set_option maxRecDepth 100000 in
theorem ap_blk {p : Program} {l : Launch} {e : Env} {R : Room} {s : State} {m : MethodId} {args : Array Value} {below : List Frame} {meth : Method} {c : Code} {cells slots : Nat} {Q : State → Prop} (hx : p.tables.exec = Jvm.exec) (hb : c.code = cX6_append) (htg : ∀ w ∈ gw, w.before args s = true) (hown : s.vm.findClass RX6 = some m.cls) {D : va_G} {A : Nat → Prop} {tp tb : Nat} {cT : ClassId} {k : Nat} {f : Nat → Int32} {v : Int32} (hK : va_K D vwCl [(cT, .int)] s) {H : Heap} {locs : List Loc} (hP : va_P D vwCl [(tp, .inr (6, [.ref tb, .int (nI k), .int 0])), (tb, .inl (cT, 160, .inl f))] H) (hD : va_D A [(tp, .inr (6, [.ref tb, .int (nI k), .int 0])), (tb, .inl (cT, 160, .inl f))]) (hS : va_S A s.heap H locs) (hk : k < 160) {ls : Array Slot} (hl : lv_has ls 4 [(0, .ref tp), (3, .int v)])
    (kk : ∀ (g : Nat → Int32) (H : Heap) (locs : List Loc), va_P D vwCl [(tp, .inr (6, [.ref tb, .int (nI (k + nzN v)), .int 0])), (tb, .inl (cT, 160, .inl g))] H → va_D A [(tp, .inr (6, [.ref tb, .int (nI (k + nzN v)), .int 0])), (tb, .inl (cT, 160, .inl g))] → va_S A s.heap H locs → W p l e R s m args below meth c H locs cells slots Q (F0 m 49 ls [])) : W p l e R s m args below meth c H locs cells slots Q (F0 m 16 ls [.int v]) := by
  refine lv_if_eq (tgt := 49) hx hb dX6_append_16 (by decide) (fun h => ?_) (fun h => ?_)
  · rw [nzN_z h] at kk
    exact kk f H locs hP hD hS
  · rw [nzN_n h] at kk
    refine lv_aload_n hx hb dX6_append_19 rfl (lv_at hl 0 rfl) ?_
    refine va_get (D := D) (ci := 6) (v := .int (nI k)) (C := RX6) (T := TX6) (N := 3) hx hb htg in_X6 hown hK hP 0 rfl rfl 1 (by decide) (htg _ mw_88) (fun _ h9 => h9) rfl dX6_append_20 ?_
    refine lv_sipush (v := 160) hx hb dX6_append_23 (by decide) ?_
    refine lv_icmp_ge (tgt := 49) hx hb dX6_append_26 (by decide) (fun h9 => absurd h9 (ni_ge (by omega))) (fun _ => ?_)
    refine lv_aload_n hx hb dX6_append_29 rfl (lv_at hl 0 rfl) ?_
    refine va_get (D := D) (ci := 6) (v := .ref tb) (C := RX6) (T := TX6) (N := 3) hx hb htg in_X6 hown hK hP 0 rfl rfl 0 (by decide) (htg _ mw_166) (fun _ h9 => h9) rfl dX6_append_30 ?_
    refine lv_aload_n hx hb dX6_append_33 rfl (lv_at hl 0 rfl) ?_
    refine va_get (D := D) (ci := 6) (v := .int (nI k)) (C := RX6) (T := TX6) (N := 3) hx hb htg in_X6 hown hK hP 0 rfl rfl 1 (by decide) (htg _ mw_88) (fun _ h9 => h9) rfl dX6_append_34 ?_
    refine lv_iload_n hx hb dX6_append_37 rfl (lv_at hl 1 rfl) ?_
    refine va_iast hx hb hK hP hD hS 1 0 rfl rfl (i := (nI k)) (x := v) (vp_in_nI (by omega) (by decide)) dX6_append_38 (fun H locs hP hD hS => ?_)
    have hP : va_P D vwCl [(tp, .inr (6, [.ref tb, .int (nI k), .int 0])), (tb, .inl (cT, 160, .inl (upd f (Int32.toNatClampNeg (nI k)) v)))] H := hP
    have hD : va_D A [(tp, .inr (6, [.ref tb, .int (nI k), .int 0])), (tb, .inl (cT, 160, .inl (upd f (Int32.toNatClampNeg (nI k)) v)))] := hD
    generalize (upd f (Int32.toNatClampNeg (nI k)) v) = g_1 at hP hD
    refine lv_aload_n hx hb dX6_append_39 rfl (lv_at hl 0 rfl) ?_
    refine lv_dup hx hb dX6_append_40 rfl ?_
    refine va_get (D := D) (ci := 6) (v := .int (nI k)) (C := RX6) (T := TX6) (N := 3) hx hb htg in_X6 hown hK hP 0 rfl rfl 1 (by decide) (htg _ mw_88) (fun _ h9 => h9) rfl dX6_append_41 ?_
    refine lv_iconst (v := 1) hx hb dX6_append_44 (by decide) ?_
    refine lv_iadd hx hb dX6_append_45 ?_
    refine lv_val (y := (nI (k + 1))) (nI_1 _) ?_
    refine va_put (D := D) (ci := 6) (v := .int (nI (k + 1))) (ty := .int) (C := RX6) (T := TX6) (N := 3) hx hb htg in_X6 tyX6 tyX6_ok nmX6 hown hK hP hD hS 0 rfl rfl 1 (by decide) (htg _ mw_88) (fun _ h9 => h9) rfl (by decide +kernel) rfl rfl (Nat.le_of_ble_eq_true rfl) dX6_append_46 (fun H locs hP hD hS => ?_)
    have hP : va_P D vwCl [(tp, .inr (6, [.ref tb, .int (nI (k + 1)), .int 0])), (tb, .inl (cT, 160, .inl g_1))] H := hP
    have hD : va_D A [(tp, .inr (6, [.ref tb, .int (nI (k + 1)), .int 0])), (tb, .inl (cT, 160, .inl g_1))] := hD
    exact kk _ H locs hP hD hS

set_option maxHeartbeats 4000000 in
set_option maxRecDepth 100000 in
theorem c_X6_append (l : Launch) (D : va_G) (tp tb k : Nat) (cT : ClassId) (f : Nat → Int32) (x : Int32) (hk : k ≤ 16) (zh : Nat) : Met l yX6_append (.code yX6_append cX6_append 4 none :: gw) ({ frames := 0, cells := 0, slots := 0, locals := 0 }) (va_Pc [.ref tp, .int x] (pn D zh [(tp, .inr (6, [.ref tb, .int (nI k), .int 0])), (tb, .inl (cT, 160, .inl f))] [(cT, .int)])) (va_Qv (fun _ : vU => True) (fun u t => nw D (va_A [(tp, .inr (6, [.ref tb, .int (nI k), .int 0])), (tb, .inl (cT, 160, .inl f))] zh) [(tp, .inr (6, [.ref tb, .int (nI (k + sgN x)), .int 0])), (tb, .inl (cT, 160, .inl (u.2.2 1)))] [(cT, .int)] t) (va_A [(tp, .inr (6, [.ref tb, .int (nI k), .int 0])), (tb, .inl (cT, 160, .inl f))] zh)) 0 0 (va_A [(tp, .inr (6, [.ref tb, .int (nI k), .int 0])), (tb, .inl (cT, 160, .inl f))] zh) := by
  refine Met.ofW (cc := cX6_append) (maxL := 4) (ret := none) (by decide) rfl ?_
  intro p e s m args below meth c s₁ B hml hv
  obtain ⟨rfl, hsz, hP, hK, hD0⟩ := hv
  have hx := B.exec
  have hb := B.bytes
  have hr := B.returns
  have hts := atoms_spec (ws := .code yX6_append cX6_append 4 none :: gw) B.pre
  have htg := gw_tl hts
  have hown : s.vm.findClass RX6 = some m.cls := findClass_of_methodNamed B.named
  have hlocks := B.notSynchronized
  subst hsz
  have hD := hD0.self (sz := s.heap.size)
  generalize hAe : va_A [(tp, .inr (6, [.ref tb, .int (nI k), .int 0])), (tb, .inl (cT, 160, .inl f))] s.heap.size = A at hD ⊢
  have hA : ∀ q : Nat, s.heap.size ≤ q → A q := fun q h => by rw [← hAe]; exact Or.inr h
  have hS : va_S A s.heap s.heap [] := va_S.rf
  have hl := lv_entry ([.ref tp, .int x]) (n := 4) (Nat.le_of_ble_eq_true rfl)
  rw [lg_entry_eq]
  generalize (lg_sl ([.ref tp, .int x]) ++ List.replicate (4 - (lg_sl ([.ref tp, .int x])).length) Slot.unset).toArray = ls at hl ⊢
  have hl : lv_has ls 4 [(0, .ref tp), (1, .int x)] := hl
  refine lv_bipush (v := 24) hx hb dX6_append_0 (by decide) ?_
  refine lv_istore_n (lv' := [(2, .int 24), (0, .ref tp), (1, .int x)]) hx hb dX6_append_2 rfl hl (by decide) rfl (fun ls hl => ?_)
  refine lv_iload_n hx hb dX6_append_3 rfl (lv_at hl 0 rfl) ?_
  refine lv_if_lt (tgt := 55) hx hb dX6_append_4 (by decide) (fun h9 => absurd h9 (by decide)) (fun _ => ?_)
  refine lv_iload_n hx hb dX6_append_7 rfl (lv_at hl 2 rfl) ?_
  refine lv_iload_n hx hb dX6_append_8 rfl (lv_at hl 0 rfl) ?_
  refine lv_iushr (v := (us x 24)) hx hb dX6_append_9 rfl ?_
  refine lv_sipush (v := 255) hx hb dX6_append_10 (by decide) ?_
  refine lv_iand hx hb dX6_append_13 ?_
  refine lv_istore_n (lv' := [(3, .int ((us x 24) &&& 255)), (2, .int 24), (0, .ref tp), (1, .int x)]) hx hb dX6_append_14 rfl hl (by decide) rfl (fun ls hl => ?_)
  refine lv_iload_n hx hb dX6_append_15 rfl (lv_at hl 0 rfl) ?_
  have hz0 := nzN_le ((us x 24) &&& 255)
  refine ap_blk hx hb htg hown hK hP hD hS (by omega) (lv_sub hl [2, 0] rfl) (fun g_1 H locs hP hD hS => ?_)
  have hP : va_P D vwCl [(tp, .inr (6, [.ref tb, .int (nI (k + nzN ((us x 24) &&& 255))), .int 0])), (tb, .inl (cT, 160, .inl g_1))] H := hP
  have hD : va_D A [(tp, .inr (6, [.ref tb, .int (nI (k + nzN ((us x 24) &&& 255))), .int 0])), (tb, .inl (cT, 160, .inl g_1))] := hD
  refine lv_iinc (v := 16) (lv' := [(2, .int 16), (3, .int ((us x 24) &&& 255)), (0, .ref tp), (1, .int x)]) hx hb dX6_append_49 hl (k := 1) rfl (by decide) (by decide) rfl (fun ls hl => ?_)
  refine lv_goto (tgt := 3) hx hb dX6_append_52 (by decide) ?_
  refine lv_iload_n hx hb dX6_append_3 rfl (lv_at hl 0 rfl) ?_
  refine lv_if_lt (tgt := 55) hx hb dX6_append_4 (by decide) (fun h9 => absurd h9 (by decide)) (fun _ => ?_)
  refine lv_iload_n hx hb dX6_append_7 rfl (lv_at hl 3 rfl) ?_
  refine lv_iload_n hx hb dX6_append_8 rfl (lv_at hl 0 rfl) ?_
  refine lv_iushr (v := (us x 16)) hx hb dX6_append_9 rfl ?_
  refine lv_sipush (v := 255) hx hb dX6_append_10 (by decide) ?_
  refine lv_iand hx hb dX6_append_13 ?_
  refine lv_istore_n (lv' := [(3, .int ((us x 16) &&& 255)), (2, .int 16), (0, .ref tp), (1, .int x)]) hx hb dX6_append_14 rfl hl (by decide) rfl (fun ls hl => ?_)
  refine lv_iload_n hx hb dX6_append_15 rfl (lv_at hl 0 rfl) ?_
  have hz1 := nzN_le ((us x 16) &&& 255)
  refine ap_blk hx hb htg hown hK hP hD hS (by omega) (lv_sub hl [2, 0] rfl) (fun g_2 H locs hP hD hS => ?_)
  have hP : va_P D vwCl [(tp, .inr (6, [.ref tb, .int (nI (k + nzN ((us x 24) &&& 255) + nzN ((us x 16) &&& 255))), .int 0])), (tb, .inl (cT, 160, .inl g_2))] H := hP
  have hD : va_D A [(tp, .inr (6, [.ref tb, .int (nI (k + nzN ((us x 24) &&& 255) + nzN ((us x 16) &&& 255))), .int 0])), (tb, .inl (cT, 160, .inl g_2))] := hD
  refine lv_iinc (v := 8) (lv' := [(2, .int 8), (3, .int ((us x 16) &&& 255)), (0, .ref tp), (1, .int x)]) hx hb dX6_append_49 hl (k := 1) rfl (by decide) (by decide) rfl (fun ls hl => ?_)
  refine lv_goto (tgt := 3) hx hb dX6_append_52 (by decide) ?_
  refine lv_iload_n hx hb dX6_append_3 rfl (lv_at hl 0 rfl) ?_
  refine lv_if_lt (tgt := 55) hx hb dX6_append_4 (by decide) (fun h9 => absurd h9 (by decide)) (fun _ => ?_)
  refine lv_iload_n hx hb dX6_append_7 rfl (lv_at hl 3 rfl) ?_
  refine lv_iload_n hx hb dX6_append_8 rfl (lv_at hl 0 rfl) ?_
  refine lv_iushr (v := (us x 8)) hx hb dX6_append_9 rfl ?_
  refine lv_sipush (v := 255) hx hb dX6_append_10 (by decide) ?_
  refine lv_iand hx hb dX6_append_13 ?_
  refine lv_istore_n (lv' := [(3, .int ((us x 8) &&& 255)), (2, .int 8), (0, .ref tp), (1, .int x)]) hx hb dX6_append_14 rfl hl (by decide) rfl (fun ls hl => ?_)
  refine lv_iload_n hx hb dX6_append_15 rfl (lv_at hl 0 rfl) ?_
  have hz2 := nzN_le ((us x 8) &&& 255)
  refine ap_blk hx hb htg hown hK hP hD hS (by omega) (lv_sub hl [2, 0] rfl) (fun g_3 H locs hP hD hS => ?_)
  have hP : va_P D vwCl [(tp, .inr (6, [.ref tb, .int (nI (k + nzN ((us x 24) &&& 255) + nzN ((us x 16) &&& 255) + nzN ((us x 8) &&& 255))), .int 0])), (tb, .inl (cT, 160, .inl g_3))] H := hP
  have hD : va_D A [(tp, .inr (6, [.ref tb, .int (nI (k + nzN ((us x 24) &&& 255) + nzN ((us x 16) &&& 255) + nzN ((us x 8) &&& 255))), .int 0])), (tb, .inl (cT, 160, .inl g_3))] := hD
  refine lv_iinc (v := 0) (lv' := [(2, .int 0), (3, .int ((us x 8) &&& 255)), (0, .ref tp), (1, .int x)]) hx hb dX6_append_49 hl (k := 1) rfl (by decide) (by decide) rfl (fun ls hl => ?_)
  refine lv_goto (tgt := 3) hx hb dX6_append_52 (by decide) ?_
  refine lv_iload_n hx hb dX6_append_3 rfl (lv_at hl 0 rfl) ?_
  refine lv_if_lt (tgt := 55) hx hb dX6_append_4 (by decide) (fun h9 => absurd h9 (by decide)) (fun _ => ?_)
  refine lv_iload_n hx hb dX6_append_7 rfl (lv_at hl 3 rfl) ?_
  refine lv_iload_n hx hb dX6_append_8 rfl (lv_at hl 0 rfl) ?_
  refine lv_iushr (v := (us x 0)) hx hb dX6_append_9 rfl ?_
  refine lv_sipush (v := 255) hx hb dX6_append_10 (by decide) ?_
  refine lv_iand hx hb dX6_append_13 ?_
  refine lv_istore_n (lv' := [(3, .int ((us x 0) &&& 255)), (2, .int 0), (0, .ref tp), (1, .int x)]) hx hb dX6_append_14 rfl hl (by decide) rfl (fun ls hl => ?_)
  refine lv_iload_n hx hb dX6_append_15 rfl (lv_at hl 0 rfl) ?_
  have hz3 := nzN_le ((us x 0) &&& 255)
  refine ap_blk hx hb htg hown hK hP hD hS (by omega) (lv_sub hl [2, 0] rfl) (fun g_4 H locs hP hD hS => ?_)
  have hP : va_P D vwCl [(tp, .inr (6, [.ref tb, .int (nI (k + nzN ((us x 24) &&& 255) + nzN ((us x 16) &&& 255) + nzN ((us x 8) &&& 255) + nzN ((us x 0) &&& 255))), .int 0])), (tb, .inl (cT, 160, .inl g_4))] H := hP
  have hD : va_D A [(tp, .inr (6, [.ref tb, .int (nI (k + nzN ((us x 24) &&& 255) + nzN ((us x 16) &&& 255) + nzN ((us x 8) &&& 255) + nzN ((us x 0) &&& 255))), .int 0])), (tb, .inl (cT, 160, .inl g_4))] := hD
  refine lv_iinc (v := (-8)) (lv' := [(2, .int (-8)), (3, .int ((us x 0) &&& 255)), (0, .ref tp), (1, .int x)]) hx hb dX6_append_49 hl (k := 1) rfl (by decide) (by decide) rfl (fun ls hl => ?_)
  refine lv_goto (tgt := 3) hx hb dX6_append_52 (by decide) ?_
  refine lv_iload_n hx hb dX6_append_3 rfl (lv_at hl 0 rfl) ?_
  refine lv_if_lt (tgt := 55) hx hb dX6_append_4 (by decide) (fun _ => ?_) (fun h9 => False.elim (h9 (by decide)))
  have e9 : k + nzN ((us x 24) &&& 255) + nzN ((us x 16) &&& 255) + nzN ((us x 8) &&& 255) + nzN ((us x 0) &&& 255) = k + sgN x := by unfold sgN; omega
  rw [e9] at hP hD
  exact W.vret hx hb hr (fun t ht hW => ⟨⟨((fun _ => 0), (fun _ => 0), (fun k => [(fun _ => 0), g_4].getD k (fun _ => 0))), rfl, trivial, by rw [ht]; exact hP, va_K.moved hW.alike hK, hD⟩, hS.F ht⟩) hS.2.2 dX6_append_55

set_option maxHeartbeats 4000000 in
set_option maxRecDepth 100000 in
theorem c_X10_feed (l : Launch) (D : va_G) (a : Nat → Nat) (cA : Nat → ClassId) (f : Nat → Nat → Int32) (x y z v w : Int32) (zh : Nat) : Met l yX10_feed (.code yX10_feed cX10_feed 7 (some .int) :: gw) ({ frames := 1, cells := 0, slots := 0, locals := 40 }) (va_Pc [.ref (a 0), .int x, .int y, .int z, .int v, .int w] (pn D zh [((a 0), .inr (10, [.ref (a 1), .ref (a 3), .ref (a 40), .int 0, .int (-1), .ref (a 4), .ref (a 5), .ref (a 6), .ref (a 7), .ref (a 8), .ref (a 9), .ref (a 10), .null, .null, .int 0, .int (-1), .ref (a 41)])), ((a 1), .inr (6, [.ref (a 2), .int 0, .int 0])), ((a 2), .inl ((cA 2), 160, .inl (f 2))), ((a 3), .inr (3, [.ref (a 1), .ref (a 42), .int 0, .int 0])), ((a 4), .inr (4, [.int 0, .int 0, .ref (a 43), .ref (a 44), .ref (a 45), .ref (a 46), .ref (a 47), .ref (a 48), .ref (a 49), .ref (a 50), .ref (a 51)])), ((a 5), .inr (4, [.int 0, .int 0, .ref (a 11), .ref (a 12), .ref (a 13), .ref (a 14), .ref (a 15), .ref (a 16), .ref (a 17), .ref (a 18), .ref (a 19)])), ((a 6), .inr (5, [.ref (a 52), .int 0, .ref (a 53), .int 0, .int 0, .int 0])), ((a 7), .inr (5, [.ref (a 54), .int 0, .ref (a 55), .int 0, .int 0, .int 0])), ((a 8), .inr (1, [.ref (a 56), .int 0, .int 0, .ref (a 57), .int 0, .ref (a 58)])), ((a 9), .inr (7, [.ref (a 59), .ref (a 60), .ref (a 61)])), ((a 11), .inl ((cA 11), 12, .inl (f 11))), ((a 12), .inl ((cA 12), 12, .inl (f 12))), ((a 13), .inl ((cA 13), 144, .inl (f 13))), ((a 14), .inl ((cA 14), 12, .inl (f 14))), ((a 15), .inl ((cA 15), 12, .inl (f 15))), ((a 16), .inl ((cA 16), 12, .inl (f 16))), ((a 17), .inl ((cA 17), 12, .inl (f 17))), ((a 18), .inl ((cA 18), 12, .inl (f 18))), ((a 19), .inl ((cA 19), 144, .inl (f 19)))] [((cA 2), .int), ((cA 11), .int), ((cA 12), .int), ((cA 13), .int), ((cA 14), .int), ((cA 15), .int), ((cA 16), .int), ((cA 17), .int), ((cA 18), .int), ((cA 19), .int)])) (va_Qi (fun r (_ : Unit) => r = sp_feed x y z v w) (fun _ _ => True) (va_A [((a 0), .inr (10, [.ref (a 1), .ref (a 3), .ref (a 40), .int 0, .int (-1), .ref (a 4), .ref (a 5), .ref (a 6), .ref (a 7), .ref (a 8), .ref (a 9), .ref (a 10), .null, .null, .int 0, .int (-1), .ref (a 41)])), ((a 1), .inr (6, [.ref (a 2), .int 0, .int 0])), ((a 2), .inl ((cA 2), 160, .inl (f 2))), ((a 3), .inr (3, [.ref (a 1), .ref (a 42), .int 0, .int 0])), ((a 4), .inr (4, [.int 0, .int 0, .ref (a 43), .ref (a 44), .ref (a 45), .ref (a 46), .ref (a 47), .ref (a 48), .ref (a 49), .ref (a 50), .ref (a 51)])), ((a 5), .inr (4, [.int 0, .int 0, .ref (a 11), .ref (a 12), .ref (a 13), .ref (a 14), .ref (a 15), .ref (a 16), .ref (a 17), .ref (a 18), .ref (a 19)])), ((a 6), .inr (5, [.ref (a 52), .int 0, .ref (a 53), .int 0, .int 0, .int 0])), ((a 7), .inr (5, [.ref (a 54), .int 0, .ref (a 55), .int 0, .int 0, .int 0])), ((a 8), .inr (1, [.ref (a 56), .int 0, .int 0, .ref (a 57), .int 0, .ref (a 58)])), ((a 9), .inr (7, [.ref (a 59), .ref (a 60), .ref (a 61)])), ((a 11), .inl ((cA 11), 12, .inl (f 11))), ((a 12), .inl ((cA 12), 12, .inl (f 12))), ((a 13), .inl ((cA 13), 144, .inl (f 13))), ((a 14), .inl ((cA 14), 12, .inl (f 14))), ((a 15), .inl ((cA 15), 12, .inl (f 15))), ((a 16), .inl ((cA 16), 12, .inl (f 16))), ((a 17), .inl ((cA 17), 12, .inl (f 17))), ((a 18), .inl ((cA 18), 12, .inl (f 18))), ((a 19), .inl ((cA 19), 144, .inl (f 19)))] zh)) 0 0 (va_A [((a 0), .inr (10, [.ref (a 1), .ref (a 3), .ref (a 40), .int 0, .int (-1), .ref (a 4), .ref (a 5), .ref (a 6), .ref (a 7), .ref (a 8), .ref (a 9), .ref (a 10), .null, .null, .int 0, .int (-1), .ref (a 41)])), ((a 1), .inr (6, [.ref (a 2), .int 0, .int 0])), ((a 2), .inl ((cA 2), 160, .inl (f 2))), ((a 3), .inr (3, [.ref (a 1), .ref (a 42), .int 0, .int 0])), ((a 4), .inr (4, [.int 0, .int 0, .ref (a 43), .ref (a 44), .ref (a 45), .ref (a 46), .ref (a 47), .ref (a 48), .ref (a 49), .ref (a 50), .ref (a 51)])), ((a 5), .inr (4, [.int 0, .int 0, .ref (a 11), .ref (a 12), .ref (a 13), .ref (a 14), .ref (a 15), .ref (a 16), .ref (a 17), .ref (a 18), .ref (a 19)])), ((a 6), .inr (5, [.ref (a 52), .int 0, .ref (a 53), .int 0, .int 0, .int 0])), ((a 7), .inr (5, [.ref (a 54), .int 0, .ref (a 55), .int 0, .int 0, .int 0])), ((a 8), .inr (1, [.ref (a 56), .int 0, .int 0, .ref (a 57), .int 0, .ref (a 58)])), ((a 9), .inr (7, [.ref (a 59), .ref (a 60), .ref (a 61)])), ((a 11), .inl ((cA 11), 12, .inl (f 11))), ((a 12), .inl ((cA 12), 12, .inl (f 12))), ((a 13), .inl ((cA 13), 144, .inl (f 13))), ((a 14), .inl ((cA 14), 12, .inl (f 14))), ((a 15), .inl ((cA 15), 12, .inl (f 15))), ((a 16), .inl ((cA 16), 12, .inl (f 16))), ((a 17), .inl ((cA 17), 12, .inl (f 17))), ((a 18), .inl ((cA 18), 12, .inl (f 18))), ((a 19), .inl ((cA 19), 144, .inl (f 19)))] zh) := by
  refine Met.ofW (cc := cX10_feed) (maxL := 7) (ret := (some .int)) (by decide) rfl ?_
  intro p e s m args below meth c s₁ B hml hv
  obtain ⟨rfl, hsz, hP, hK, hD0⟩ := hv
  have hx := B.exec
  have hb := B.bytes
  have hr := B.returns
  have hts := atoms_spec (ws := .code yX10_feed cX10_feed 7 (some .int) :: gw) B.pre
  have htg := gw_tl hts
  have hown : s.vm.findClass RX10 = some m.cls := findClass_of_methodNamed B.named
  have hlocks := B.notSynchronized
  subst hsz
  have hD := hD0.self (sz := s.heap.size)
  generalize hAe : va_A [((a 0), .inr (10, [.ref (a 1), .ref (a 3), .ref (a 40), .int 0, .int (-1), .ref (a 4), .ref (a 5), .ref (a 6), .ref (a 7), .ref (a 8), .ref (a 9), .ref (a 10), .null, .null, .int 0, .int (-1), .ref (a 41)])), ((a 1), .inr (6, [.ref (a 2), .int 0, .int 0])), ((a 2), .inl ((cA 2), 160, .inl (f 2))), ((a 3), .inr (3, [.ref (a 1), .ref (a 42), .int 0, .int 0])), ((a 4), .inr (4, [.int 0, .int 0, .ref (a 43), .ref (a 44), .ref (a 45), .ref (a 46), .ref (a 47), .ref (a 48), .ref (a 49), .ref (a 50), .ref (a 51)])), ((a 5), .inr (4, [.int 0, .int 0, .ref (a 11), .ref (a 12), .ref (a 13), .ref (a 14), .ref (a 15), .ref (a 16), .ref (a 17), .ref (a 18), .ref (a 19)])), ((a 6), .inr (5, [.ref (a 52), .int 0, .ref (a 53), .int 0, .int 0, .int 0])), ((a 7), .inr (5, [.ref (a 54), .int 0, .ref (a 55), .int 0, .int 0, .int 0])), ((a 8), .inr (1, [.ref (a 56), .int 0, .int 0, .ref (a 57), .int 0, .ref (a 58)])), ((a 9), .inr (7, [.ref (a 59), .ref (a 60), .ref (a 61)])), ((a 11), .inl ((cA 11), 12, .inl (f 11))), ((a 12), .inl ((cA 12), 12, .inl (f 12))), ((a 13), .inl ((cA 13), 144, .inl (f 13))), ((a 14), .inl ((cA 14), 12, .inl (f 14))), ((a 15), .inl ((cA 15), 12, .inl (f 15))), ((a 16), .inl ((cA 16), 12, .inl (f 16))), ((a 17), .inl ((cA 17), 12, .inl (f 17))), ((a 18), .inl ((cA 18), 12, .inl (f 18))), ((a 19), .inl ((cA 19), 144, .inl (f 19)))] s.heap.size = A at hD ⊢
  have hA : ∀ q : Nat, s.heap.size ≤ q → A q := fun q h => by rw [← hAe]; exact Or.inr h
  have hS : va_S A s.heap s.heap [] := va_S.rf
  have hl := lv_entry ([.ref (a 0), .int x, .int y, .int z, .int v, .int w]) (n := 7) (Nat.le_of_ble_eq_true rfl)
  rw [lg_entry_eq]
  generalize (lg_sl ([.ref (a 0), .int x, .int y, .int z, .int v, .int w]) ++ List.replicate (7 - (lg_sl ([.ref (a 0), .int x, .int y, .int z, .int v, .int w])).length) Slot.unset).toArray = ls at hl ⊢
  have hl : lv_has ls 7 [(0, .ref (a 0)), (1, .int x), (2, .int y), (3, .int z), (4, .int v), (5, .int w)] := hl
  have hs0 := sgN_le x
  have hs1 := sgN_le y
  have hs2 := sgN_le z
  have hs3 := sgN_le v
  have hs4 := sgN_le w
  refine lv_iload_n hx hb dX10_feed_0 rfl (lv_at hl 1 rfl) ?_
  have hPc := hP.sub (ws' := []) [] rfl
  have hKc := hK.sub (tys' := []) [] rfl
  refine va_calli (va_runS (As := [.int x]) (rest := []) ⟨hx, hb, hml, hown, htg⟩ (c_X6_signsIn l D x) (cS 1 htg mw_169 kv_X6_signsIn rfl rfl ⟨(Nat.le_of_ble_eq_true rfl), (Nat.le_of_ble_eq_true rfl)⟩) ⟨bl_r, us_r hPc hKc⟩ rfl rfl hl.1 rfl (lv_room (Nat.le_of_ble_eq_true rfl)) dX10_feed_1 ⟨(Nat.le_of_ble_eq_true rfl), (Nat.le_of_ble_eq_true rfl)⟩) hS (fun _ _ h9 => False.elim h9) (fun _ h9 => False.elim h9) (fun r_1 u t H locs ht hvm hw hB hz1 hk1 hS => ?_)
  have hP := ro_keep hP hk1
  subst hw
  refine lv_iload_n hx hb dX10_feed_4 rfl (lv_at hl 2 rfl) ?_
  have hPc := hP.sub (ws' := []) [] rfl
  have hKc := hK.sub (tys' := []) [] rfl
  refine va_calli (va_runS (As := [.int y]) (rest := [.int (nI (sgN x))]) ⟨hx, hb, hml, hown, htg⟩ (c_X6_signsIn l D y) (cS 1 htg mw_169 kv_X6_signsIn rfl rfl ⟨(Nat.le_of_ble_eq_true rfl), (Nat.le_of_ble_eq_true rfl)⟩) ⟨bl_r, us_r hPc hKc⟩ rfl rfl hl.1 rfl (lv_room (Nat.le_of_ble_eq_true rfl)) dX10_feed_5 ⟨(Nat.le_of_ble_eq_true rfl), (Nat.le_of_ble_eq_true rfl)⟩) hS (fun _ _ h9 => False.elim h9) (fun _ h9 => False.elim h9) (fun r_2 u t H locs ht hvm hw hB hz1 hk1 hS => ?_)
  have hP := ro_keep hP hk1
  subst hw
  refine lv_iadd hx hb dX10_feed_8 ?_
  refine lv_val (y := (nI (sgN x + (sgN y)))) (nI_add _ _) ?_
  refine lv_iload_n hx hb dX10_feed_9 rfl (lv_at hl 3 rfl) ?_
  have hPc := hP.sub (ws' := []) [] rfl
  have hKc := hK.sub (tys' := []) [] rfl
  refine va_calli (va_runS (As := [.int z]) (rest := [.int (nI (sgN x + (sgN y)))]) ⟨hx, hb, hml, hown, htg⟩ (c_X6_signsIn l D z) (cS 1 htg mw_169 kv_X6_signsIn rfl rfl ⟨(Nat.le_of_ble_eq_true rfl), (Nat.le_of_ble_eq_true rfl)⟩) ⟨bl_r, us_r hPc hKc⟩ rfl rfl hl.1 rfl (lv_room (Nat.le_of_ble_eq_true rfl)) dX10_feed_10 ⟨(Nat.le_of_ble_eq_true rfl), (Nat.le_of_ble_eq_true rfl)⟩) hS (fun _ _ h9 => False.elim h9) (fun _ h9 => False.elim h9) (fun r_3 u t H locs ht hvm hw hB hz1 hk1 hS => ?_)
  have hP := ro_keep hP hk1
  subst hw
  refine lv_iadd hx hb dX10_feed_13 ?_
  refine lv_val (y := (nI (sgN x + (sgN y) + (sgN z)))) (nI_add _ _) ?_
  refine lv_iload hx hb dX10_feed_14 (lv_at hl 4 rfl) ?_
  have hPc := hP.sub (ws' := []) [] rfl
  have hKc := hK.sub (tys' := []) [] rfl
  refine va_calli (va_runS (As := [.int v]) (rest := [.int (nI (sgN x + (sgN y) + (sgN z)))]) ⟨hx, hb, hml, hown, htg⟩ (c_X6_signsIn l D v) (cS 1 htg mw_169 kv_X6_signsIn rfl rfl ⟨(Nat.le_of_ble_eq_true rfl), (Nat.le_of_ble_eq_true rfl)⟩) ⟨bl_r, us_r hPc hKc⟩ rfl rfl hl.1 rfl (lv_room (Nat.le_of_ble_eq_true rfl)) dX10_feed_16 ⟨(Nat.le_of_ble_eq_true rfl), (Nat.le_of_ble_eq_true rfl)⟩) hS (fun _ _ h9 => False.elim h9) (fun _ h9 => False.elim h9) (fun r_4 u t H locs ht hvm hw hB hz1 hk1 hS => ?_)
  have hP := ro_keep hP hk1
  subst hw
  refine lv_iadd hx hb dX10_feed_19 ?_
  refine lv_val (y := (nI (sgN x + (sgN y) + (sgN z) + (sgN v)))) (nI_add _ _) ?_
  refine lv_iload hx hb dX10_feed_20 (lv_at hl 5 rfl) ?_
  have hPc := hP.sub (ws' := []) [] rfl
  have hKc := hK.sub (tys' := []) [] rfl
  refine va_calli (va_runS (As := [.int w]) (rest := [.int (nI (sgN x + (sgN y) + (sgN z) + (sgN v)))]) ⟨hx, hb, hml, hown, htg⟩ (c_X6_signsIn l D w) (cS 1 htg mw_169 kv_X6_signsIn rfl rfl ⟨(Nat.le_of_ble_eq_true rfl), (Nat.le_of_ble_eq_true rfl)⟩) ⟨bl_r, us_r hPc hKc⟩ rfl rfl hl.1 rfl (lv_room (Nat.le_of_ble_eq_true rfl)) dX10_feed_22 ⟨(Nat.le_of_ble_eq_true rfl), (Nat.le_of_ble_eq_true rfl)⟩) hS (fun _ _ h9 => False.elim h9) (fun _ h9 => False.elim h9) (fun r_5 u t H locs ht hvm hw hB hz1 hk1 hS => ?_)
  have hP := ro_keep hP hk1
  subst hw
  refine lv_iadd hx hb dX10_feed_25 ?_
  refine lv_val (y := (nI (sgN x + (sgN y) + (sgN z) + (sgN v) + (sgN w)))) (nI_add _ _) ?_
  refine lv_istore (lv' := [(6, .int (nI (sgN x + (sgN y) + (sgN z) + (sgN v) + (sgN w)))), (0, .ref (a 0)), (1, .int x), (2, .int y), (3, .int z), (4, .int v), (5, .int w)]) hx hb dX10_feed_26 hl (by decide) rfl (fun ls hl => ?_)
  refine lv_aload_n hx hb dX10_feed_28 rfl (lv_at hl 1 rfl) ?_
  refine va_get (D := D) (ci := 10) (v := .ref (a 1)) (C := RX10) (T := TX10) (N := 17) hx hb htg in_X10 hown hK hP 0 rfl rfl 0 (by decide) (htg _ mw_54) (fun _ h9 => h9) rfl dX10_feed_29 ?_
  refine va_get (D := D) (ci := 6) (v := .int 0) (C := RX6) (T := TX6) (N := 3) hx hb htg in_X6 hown hK hP 1 rfl rfl 1 (by decide) (htg _ mw_55) (fun _ h9 => h9) rfl dX10_feed_32 ?_
  refine lv_iload hx hb dX10_feed_35 (lv_at hl 0 rfl) ?_
  refine lv_iadd hx hb dX10_feed_37 ?_
  refine lv_val (y := (nI (sgN x + (sgN y) + (sgN z) + (sgN v) + (sgN w)))) (Int32.zero_add _) ?_
  refine lv_sipush (v := 160) hx hb dX10_feed_38 (by decide) ?_
  refine lv_icmp_le (tgt := 46) hx hb dX10_feed_41 (by decide) (fun _ => ?_) (fun h9 => absurd (ni_le (by omega)) h9)
  have hP : va_P D vwCl [((a 0), .inr (10, [.ref (a 1), .ref (a 3), .ref (a 40), .int 0, .int (-1), .ref (a 4), .ref (a 5), .ref (a 6), .ref (a 7), .ref (a 8), .ref (a 9), .ref (a 10), .null, .null, .int 0, .int (-1), .ref (a 41)])), ((a 1), .inr (6, [.ref (a 2), .int (nI 0), .int 0])), ((a 2), .inl ((cA 2), 160, .inl (f 2))), ((a 3), .inr (3, [.ref (a 1), .ref (a 42), .int 0, .int 0])), ((a 4), .inr (4, [.int 0, .int 0, .ref (a 43), .ref (a 44), .ref (a 45), .ref (a 46), .ref (a 47), .ref (a 48), .ref (a 49), .ref (a 50), .ref (a 51)])), ((a 5), .inr (4, [.int 0, .int 0, .ref (a 11), .ref (a 12), .ref (a 13), .ref (a 14), .ref (a 15), .ref (a 16), .ref (a 17), .ref (a 18), .ref (a 19)])), ((a 6), .inr (5, [.ref (a 52), .int 0, .ref (a 53), .int 0, .int 0, .int 0])), ((a 7), .inr (5, [.ref (a 54), .int 0, .ref (a 55), .int 0, .int 0, .int 0])), ((a 8), .inr (1, [.ref (a 56), .int 0, .int 0, .ref (a 57), .int 0, .ref (a 58)])), ((a 9), .inr (7, [.ref (a 59), .ref (a 60), .ref (a 61)])), ((a 11), .inl ((cA 11), 12, .inl (f 11))), ((a 12), .inl ((cA 12), 12, .inl (f 12))), ((a 13), .inl ((cA 13), 144, .inl (f 13))), ((a 14), .inl ((cA 14), 12, .inl (f 14))), ((a 15), .inl ((cA 15), 12, .inl (f 15))), ((a 16), .inl ((cA 16), 12, .inl (f 16))), ((a 17), .inl ((cA 17), 12, .inl (f 17))), ((a 18), .inl ((cA 18), 12, .inl (f 18))), ((a 19), .inl ((cA 19), 144, .inl (f 19)))] H := by rw [nI_0]; exact hP
  have hD : va_D A [((a 0), .inr (10, [.ref (a 1), .ref (a 3), .ref (a 40), .int 0, .int (-1), .ref (a 4), .ref (a 5), .ref (a 6), .ref (a 7), .ref (a 8), .ref (a 9), .ref (a 10), .null, .null, .int 0, .int (-1), .ref (a 41)])), ((a 1), .inr (6, [.ref (a 2), .int (nI 0), .int 0])), ((a 2), .inl ((cA 2), 160, .inl (f 2))), ((a 3), .inr (3, [.ref (a 1), .ref (a 42), .int 0, .int 0])), ((a 4), .inr (4, [.int 0, .int 0, .ref (a 43), .ref (a 44), .ref (a 45), .ref (a 46), .ref (a 47), .ref (a 48), .ref (a 49), .ref (a 50), .ref (a 51)])), ((a 5), .inr (4, [.int 0, .int 0, .ref (a 11), .ref (a 12), .ref (a 13), .ref (a 14), .ref (a 15), .ref (a 16), .ref (a 17), .ref (a 18), .ref (a 19)])), ((a 6), .inr (5, [.ref (a 52), .int 0, .ref (a 53), .int 0, .int 0, .int 0])), ((a 7), .inr (5, [.ref (a 54), .int 0, .ref (a 55), .int 0, .int 0, .int 0])), ((a 8), .inr (1, [.ref (a 56), .int 0, .int 0, .ref (a 57), .int 0, .ref (a 58)])), ((a 9), .inr (7, [.ref (a 59), .ref (a 60), .ref (a 61)])), ((a 11), .inl ((cA 11), 12, .inl (f 11))), ((a 12), .inl ((cA 12), 12, .inl (f 12))), ((a 13), .inl ((cA 13), 144, .inl (f 13))), ((a 14), .inl ((cA 14), 12, .inl (f 14))), ((a 15), .inl ((cA 15), 12, .inl (f 15))), ((a 16), .inl ((cA 16), 12, .inl (f 16))), ((a 17), .inl ((cA 17), 12, .inl (f 17))), ((a 18), .inl ((cA 18), 12, .inl (f 18))), ((a 19), .inl ((cA 19), 144, .inl (f 19)))] := by rw [nI_0]; exact hD
  refine lv_aload_n hx hb dX10_feed_46 rfl (lv_at hl 1 rfl) ?_
  refine va_get (D := D) (ci := 10) (v := .ref (a 1)) (C := RX10) (T := TX10) (N := 17) hx hb htg in_X10 hown hK hP 0 rfl rfl 0 (by decide) (htg _ mw_54) (fun _ h9 => h9) rfl dX10_feed_47 ?_
  refine lv_iload_n hx hb dX10_feed_50 rfl (lv_at hl 2 rfl) ?_
  have hPc := hP.sub (ws' := [((a 1), .inr (6, [.ref (a 2), .int (nI 0), .int 0])), ((a 2), .inl ((cA 2), 160, .inl (f 2)))]) [1, 2] rfl
  have hDc := hD.sub (ws' := [((a 1), .inr (6, [.ref (a 2), .int (nI 0), .int 0])), ((a 2), .inl ((cA 2), 160, .inl (f 2)))]) [1, 2] (by decide) rfl
  have hKc := hK.sub (tys' := [((cA 2), .int)]) [0] rfl
  have hFc := va_free (wc := [((a 1), .inr (6, [.ref (a 2), .int (nI 0), .int 0])), ((a 2), .inl ((cA 2), 160, .inl (f 2)))]) hD hS hA [1, 2] rfl
  refine va_callv (va_runV (As := [.int x]) (rest := []) ⟨hx, hb, hml, hown, htg⟩ (c_X6_append l D (a 1) (a 2) 0 (cA 2) (f 2) x (by omega) H.size) (cV 1 htg mw_173 kv_X6_append rfl rfl ⟨(Nat.le_of_ble_eq_true rfl), (Nat.le_of_ble_eq_true rfl)⟩) ⟨bl_n, va_recv hKc hPc (ci := 6) (q0 := 0) rfl rfl, us_n hPc hKc hDc⟩ rfl rfl hl.1 rfl (lv_room (Nat.le_of_ble_eq_true rfl)) dX10_feed_51 ⟨(Nat.le_of_ble_eq_true rfl), (Nat.le_of_ble_eq_true rfl)⟩) hS (fun q _ h => hFc q h) hFc (fun u t H locs ht hvm hw hB hz1 hk1 hS => ?_)
  obtain ⟨a_6, c_6, f_6⟩ := u
  obtain ⟨hP1, hK1, hD1⟩ := hB
  rw [ht] at hP1
  have hK1 := va_K.moved hvm.symm hK1
  obtain ⟨hP, hD⟩ := va_join (wr := [((a 0), .inr (10, [.ref (a 1), .ref (a 3), .ref (a 40), .int 0, .int (-1), .ref (a 4), .ref (a 5), .ref (a 6), .ref (a 7), .ref (a 8), .ref (a 9), .ref (a 10), .null, .null, .int 0, .int (-1), .ref (a 41)])), ((a 3), .inr (3, [.ref (a 1), .ref (a 42), .int 0, .int 0])), ((a 4), .inr (4, [.int 0, .int 0, .ref (a 43), .ref (a 44), .ref (a 45), .ref (a 46), .ref (a 47), .ref (a 48), .ref (a 49), .ref (a 50), .ref (a 51)])), ((a 5), .inr (4, [.int 0, .int 0, .ref (a 11), .ref (a 12), .ref (a 13), .ref (a 14), .ref (a 15), .ref (a 16), .ref (a 17), .ref (a 18), .ref (a 19)])), ((a 6), .inr (5, [.ref (a 52), .int 0, .ref (a 53), .int 0, .int 0, .int 0])), ((a 7), .inr (5, [.ref (a 54), .int 0, .ref (a 55), .int 0, .int 0, .int 0])), ((a 8), .inr (1, [.ref (a 56), .int 0, .int 0, .ref (a 57), .int 0, .ref (a 58)])), ((a 9), .inr (7, [.ref (a 59), .ref (a 60), .ref (a 61)])), ((a 11), .inl ((cA 11), 12, .inl (f 11))), ((a 12), .inl ((cA 12), 12, .inl (f 12))), ((a 13), .inl ((cA 13), 144, .inl (f 13))), ((a 14), .inl ((cA 14), 12, .inl (f 14))), ((a 15), .inl ((cA 15), 12, .inl (f 15))), ((a 16), .inl ((cA 16), 12, .inl (f 16))), ((a 17), .inl ((cA 17), 12, .inl (f 17))), ((a 18), .inl ((cA 18), 12, .inl (f 18))), ((a 19), .inl ((cA 19), 144, .inl (f 19)))]) (w1 := [((a 1), .inr (6, [.ref (a 2), .int (nI (0 + sgN x)), .int 0])), ((a 2), .inl ((cA 2), 160, .inl (f_6 1)))]) hP hD [1, 2] [0, 3, 4, 5, 6, 7, 8, 9, 10, 11, 12, 13, 14, 15, 16, 17, 18] rfl rfl (by decide) (by decide) hk1 hFc hP1 hD1
  have hP : va_P D vwCl [((a 0), .inr (10, [.ref (a 1), .ref (a 3), .ref (a 40), .int 0, .int (-1), .ref (a 4), .ref (a 5), .ref (a 6), .ref (a 7), .ref (a 8), .ref (a 9), .ref (a 10), .null, .null, .int 0, .int (-1), .ref (a 41)])), ((a 3), .inr (3, [.ref (a 1), .ref (a 42), .int 0, .int 0])), ((a 4), .inr (4, [.int 0, .int 0, .ref (a 43), .ref (a 44), .ref (a 45), .ref (a 46), .ref (a 47), .ref (a 48), .ref (a 49), .ref (a 50), .ref (a 51)])), ((a 5), .inr (4, [.int 0, .int 0, .ref (a 11), .ref (a 12), .ref (a 13), .ref (a 14), .ref (a 15), .ref (a 16), .ref (a 17), .ref (a 18), .ref (a 19)])), ((a 6), .inr (5, [.ref (a 52), .int 0, .ref (a 53), .int 0, .int 0, .int 0])), ((a 7), .inr (5, [.ref (a 54), .int 0, .ref (a 55), .int 0, .int 0, .int 0])), ((a 8), .inr (1, [.ref (a 56), .int 0, .int 0, .ref (a 57), .int 0, .ref (a 58)])), ((a 9), .inr (7, [.ref (a 59), .ref (a 60), .ref (a 61)])), ((a 11), .inl ((cA 11), 12, .inl (f 11))), ((a 12), .inl ((cA 12), 12, .inl (f 12))), ((a 13), .inl ((cA 13), 144, .inl (f 13))), ((a 14), .inl ((cA 14), 12, .inl (f 14))), ((a 15), .inl ((cA 15), 12, .inl (f 15))), ((a 16), .inl ((cA 16), 12, .inl (f 16))), ((a 17), .inl ((cA 17), 12, .inl (f 17))), ((a 18), .inl ((cA 18), 12, .inl (f 18))), ((a 19), .inl ((cA 19), 144, .inl (f 19))), ((a 1), .inr (6, [.ref (a 2), .int (nI (0 + sgN x)), .int 0])), ((a 2), .inl ((cA 2), 160, .inl (f_6 1)))] H := hP
  have hD : va_D A [((a 0), .inr (10, [.ref (a 1), .ref (a 3), .ref (a 40), .int 0, .int (-1), .ref (a 4), .ref (a 5), .ref (a 6), .ref (a 7), .ref (a 8), .ref (a 9), .ref (a 10), .null, .null, .int 0, .int (-1), .ref (a 41)])), ((a 3), .inr (3, [.ref (a 1), .ref (a 42), .int 0, .int 0])), ((a 4), .inr (4, [.int 0, .int 0, .ref (a 43), .ref (a 44), .ref (a 45), .ref (a 46), .ref (a 47), .ref (a 48), .ref (a 49), .ref (a 50), .ref (a 51)])), ((a 5), .inr (4, [.int 0, .int 0, .ref (a 11), .ref (a 12), .ref (a 13), .ref (a 14), .ref (a 15), .ref (a 16), .ref (a 17), .ref (a 18), .ref (a 19)])), ((a 6), .inr (5, [.ref (a 52), .int 0, .ref (a 53), .int 0, .int 0, .int 0])), ((a 7), .inr (5, [.ref (a 54), .int 0, .ref (a 55), .int 0, .int 0, .int 0])), ((a 8), .inr (1, [.ref (a 56), .int 0, .int 0, .ref (a 57), .int 0, .ref (a 58)])), ((a 9), .inr (7, [.ref (a 59), .ref (a 60), .ref (a 61)])), ((a 11), .inl ((cA 11), 12, .inl (f 11))), ((a 12), .inl ((cA 12), 12, .inl (f 12))), ((a 13), .inl ((cA 13), 144, .inl (f 13))), ((a 14), .inl ((cA 14), 12, .inl (f 14))), ((a 15), .inl ((cA 15), 12, .inl (f 15))), ((a 16), .inl ((cA 16), 12, .inl (f 16))), ((a 17), .inl ((cA 17), 12, .inl (f 17))), ((a 18), .inl ((cA 18), 12, .inl (f 18))), ((a 19), .inl ((cA 19), 144, .inl (f 19))), ((a 1), .inr (6, [.ref (a 2), .int (nI (0 + sgN x)), .int 0])), ((a 2), .inl ((cA 2), 160, .inl (f_6 1)))] := hD
  refine lv_aload_n hx hb dX10_feed_54 rfl (lv_at hl 1 rfl) ?_
  refine va_get (D := D) (ci := 10) (v := .ref (a 1)) (C := RX10) (T := TX10) (N := 17) hx hb htg in_X10 hown hK hP 0 rfl rfl 0 (by decide) (htg _ mw_54) (fun _ h9 => h9) rfl dX10_feed_55 ?_
  refine lv_iload_n hx hb dX10_feed_58 rfl (lv_at hl 3 rfl) ?_
  have hPc := hP.sub (ws' := [((a 1), .inr (6, [.ref (a 2), .int (nI (0 + sgN x)), .int 0])), ((a 2), .inl ((cA 2), 160, .inl (f_6 1)))]) [17, 18] rfl
  have hDc := hD.sub (ws' := [((a 1), .inr (6, [.ref (a 2), .int (nI (0 + sgN x)), .int 0])), ((a 2), .inl ((cA 2), 160, .inl (f_6 1)))]) [17, 18] (by decide) rfl
  have hKc := hK.sub (tys' := [((cA 2), .int)]) [0] rfl
  have hFc := va_free (wc := [((a 1), .inr (6, [.ref (a 2), .int (nI (0 + sgN x)), .int 0])), ((a 2), .inl ((cA 2), 160, .inl (f_6 1)))]) hD hS hA [17, 18] rfl
  refine va_callv (va_runV (As := [.int y]) (rest := []) ⟨hx, hb, hml, hown, htg⟩ (c_X6_append l D (a 1) (a 2) (0 + sgN x) (cA 2) (f_6 1) y (by omega) H.size) (cV 1 htg mw_173 kv_X6_append rfl rfl ⟨(Nat.le_of_ble_eq_true rfl), (Nat.le_of_ble_eq_true rfl)⟩) ⟨bl_n, va_recv hKc hPc (ci := 6) (q0 := 0) rfl rfl, us_n hPc hKc hDc⟩ rfl rfl hl.1 rfl (lv_room (Nat.le_of_ble_eq_true rfl)) dX10_feed_59 ⟨(Nat.le_of_ble_eq_true rfl), (Nat.le_of_ble_eq_true rfl)⟩) hS (fun q _ h => hFc q h) hFc (fun u t H locs ht hvm hw hB hz1 hk1 hS => ?_)
  obtain ⟨a_7, c_7, f_7⟩ := u
  obtain ⟨hP1, hK1, hD1⟩ := hB
  rw [ht] at hP1
  have hK1 := va_K.moved hvm.symm hK1
  obtain ⟨hP, hD⟩ := va_join (wr := [((a 0), .inr (10, [.ref (a 1), .ref (a 3), .ref (a 40), .int 0, .int (-1), .ref (a 4), .ref (a 5), .ref (a 6), .ref (a 7), .ref (a 8), .ref (a 9), .ref (a 10), .null, .null, .int 0, .int (-1), .ref (a 41)])), ((a 3), .inr (3, [.ref (a 1), .ref (a 42), .int 0, .int 0])), ((a 4), .inr (4, [.int 0, .int 0, .ref (a 43), .ref (a 44), .ref (a 45), .ref (a 46), .ref (a 47), .ref (a 48), .ref (a 49), .ref (a 50), .ref (a 51)])), ((a 5), .inr (4, [.int 0, .int 0, .ref (a 11), .ref (a 12), .ref (a 13), .ref (a 14), .ref (a 15), .ref (a 16), .ref (a 17), .ref (a 18), .ref (a 19)])), ((a 6), .inr (5, [.ref (a 52), .int 0, .ref (a 53), .int 0, .int 0, .int 0])), ((a 7), .inr (5, [.ref (a 54), .int 0, .ref (a 55), .int 0, .int 0, .int 0])), ((a 8), .inr (1, [.ref (a 56), .int 0, .int 0, .ref (a 57), .int 0, .ref (a 58)])), ((a 9), .inr (7, [.ref (a 59), .ref (a 60), .ref (a 61)])), ((a 11), .inl ((cA 11), 12, .inl (f 11))), ((a 12), .inl ((cA 12), 12, .inl (f 12))), ((a 13), .inl ((cA 13), 144, .inl (f 13))), ((a 14), .inl ((cA 14), 12, .inl (f 14))), ((a 15), .inl ((cA 15), 12, .inl (f 15))), ((a 16), .inl ((cA 16), 12, .inl (f 16))), ((a 17), .inl ((cA 17), 12, .inl (f 17))), ((a 18), .inl ((cA 18), 12, .inl (f 18))), ((a 19), .inl ((cA 19), 144, .inl (f 19)))]) (w1 := [((a 1), .inr (6, [.ref (a 2), .int (nI (0 + sgN x + sgN y)), .int 0])), ((a 2), .inl ((cA 2), 160, .inl (f_7 1)))]) hP hD [17, 18] [0, 1, 2, 3, 4, 5, 6, 7, 8, 9, 10, 11, 12, 13, 14, 15, 16] rfl rfl (by decide) (by decide) hk1 hFc hP1 hD1
  have hP : va_P D vwCl [((a 0), .inr (10, [.ref (a 1), .ref (a 3), .ref (a 40), .int 0, .int (-1), .ref (a 4), .ref (a 5), .ref (a 6), .ref (a 7), .ref (a 8), .ref (a 9), .ref (a 10), .null, .null, .int 0, .int (-1), .ref (a 41)])), ((a 3), .inr (3, [.ref (a 1), .ref (a 42), .int 0, .int 0])), ((a 4), .inr (4, [.int 0, .int 0, .ref (a 43), .ref (a 44), .ref (a 45), .ref (a 46), .ref (a 47), .ref (a 48), .ref (a 49), .ref (a 50), .ref (a 51)])), ((a 5), .inr (4, [.int 0, .int 0, .ref (a 11), .ref (a 12), .ref (a 13), .ref (a 14), .ref (a 15), .ref (a 16), .ref (a 17), .ref (a 18), .ref (a 19)])), ((a 6), .inr (5, [.ref (a 52), .int 0, .ref (a 53), .int 0, .int 0, .int 0])), ((a 7), .inr (5, [.ref (a 54), .int 0, .ref (a 55), .int 0, .int 0, .int 0])), ((a 8), .inr (1, [.ref (a 56), .int 0, .int 0, .ref (a 57), .int 0, .ref (a 58)])), ((a 9), .inr (7, [.ref (a 59), .ref (a 60), .ref (a 61)])), ((a 11), .inl ((cA 11), 12, .inl (f 11))), ((a 12), .inl ((cA 12), 12, .inl (f 12))), ((a 13), .inl ((cA 13), 144, .inl (f 13))), ((a 14), .inl ((cA 14), 12, .inl (f 14))), ((a 15), .inl ((cA 15), 12, .inl (f 15))), ((a 16), .inl ((cA 16), 12, .inl (f 16))), ((a 17), .inl ((cA 17), 12, .inl (f 17))), ((a 18), .inl ((cA 18), 12, .inl (f 18))), ((a 19), .inl ((cA 19), 144, .inl (f 19))), ((a 1), .inr (6, [.ref (a 2), .int (nI (0 + sgN x + sgN y)), .int 0])), ((a 2), .inl ((cA 2), 160, .inl (f_7 1)))] H := hP
  have hD : va_D A [((a 0), .inr (10, [.ref (a 1), .ref (a 3), .ref (a 40), .int 0, .int (-1), .ref (a 4), .ref (a 5), .ref (a 6), .ref (a 7), .ref (a 8), .ref (a 9), .ref (a 10), .null, .null, .int 0, .int (-1), .ref (a 41)])), ((a 3), .inr (3, [.ref (a 1), .ref (a 42), .int 0, .int 0])), ((a 4), .inr (4, [.int 0, .int 0, .ref (a 43), .ref (a 44), .ref (a 45), .ref (a 46), .ref (a 47), .ref (a 48), .ref (a 49), .ref (a 50), .ref (a 51)])), ((a 5), .inr (4, [.int 0, .int 0, .ref (a 11), .ref (a 12), .ref (a 13), .ref (a 14), .ref (a 15), .ref (a 16), .ref (a 17), .ref (a 18), .ref (a 19)])), ((a 6), .inr (5, [.ref (a 52), .int 0, .ref (a 53), .int 0, .int 0, .int 0])), ((a 7), .inr (5, [.ref (a 54), .int 0, .ref (a 55), .int 0, .int 0, .int 0])), ((a 8), .inr (1, [.ref (a 56), .int 0, .int 0, .ref (a 57), .int 0, .ref (a 58)])), ((a 9), .inr (7, [.ref (a 59), .ref (a 60), .ref (a 61)])), ((a 11), .inl ((cA 11), 12, .inl (f 11))), ((a 12), .inl ((cA 12), 12, .inl (f 12))), ((a 13), .inl ((cA 13), 144, .inl (f 13))), ((a 14), .inl ((cA 14), 12, .inl (f 14))), ((a 15), .inl ((cA 15), 12, .inl (f 15))), ((a 16), .inl ((cA 16), 12, .inl (f 16))), ((a 17), .inl ((cA 17), 12, .inl (f 17))), ((a 18), .inl ((cA 18), 12, .inl (f 18))), ((a 19), .inl ((cA 19), 144, .inl (f 19))), ((a 1), .inr (6, [.ref (a 2), .int (nI (0 + sgN x + sgN y)), .int 0])), ((a 2), .inl ((cA 2), 160, .inl (f_7 1)))] := hD
  refine lv_aload_n hx hb dX10_feed_62 rfl (lv_at hl 1 rfl) ?_
  refine va_get (D := D) (ci := 10) (v := .ref (a 1)) (C := RX10) (T := TX10) (N := 17) hx hb htg in_X10 hown hK hP 0 rfl rfl 0 (by decide) (htg _ mw_54) (fun _ h9 => h9) rfl dX10_feed_63 ?_
  refine lv_iload_n hx hb dX10_feed_66 rfl (lv_at hl 4 rfl) ?_
  have hPc := hP.sub (ws' := [((a 1), .inr (6, [.ref (a 2), .int (nI (0 + sgN x + sgN y)), .int 0])), ((a 2), .inl ((cA 2), 160, .inl (f_7 1)))]) [17, 18] rfl
  have hDc := hD.sub (ws' := [((a 1), .inr (6, [.ref (a 2), .int (nI (0 + sgN x + sgN y)), .int 0])), ((a 2), .inl ((cA 2), 160, .inl (f_7 1)))]) [17, 18] (by decide) rfl
  have hKc := hK.sub (tys' := [((cA 2), .int)]) [0] rfl
  have hFc := va_free (wc := [((a 1), .inr (6, [.ref (a 2), .int (nI (0 + sgN x + sgN y)), .int 0])), ((a 2), .inl ((cA 2), 160, .inl (f_7 1)))]) hD hS hA [17, 18] rfl
  refine va_callv (va_runV (As := [.int z]) (rest := []) ⟨hx, hb, hml, hown, htg⟩ (c_X6_append l D (a 1) (a 2) (0 + sgN x + sgN y) (cA 2) (f_7 1) z (by omega) H.size) (cV 1 htg mw_173 kv_X6_append rfl rfl ⟨(Nat.le_of_ble_eq_true rfl), (Nat.le_of_ble_eq_true rfl)⟩) ⟨bl_n, va_recv hKc hPc (ci := 6) (q0 := 0) rfl rfl, us_n hPc hKc hDc⟩ rfl rfl hl.1 rfl (lv_room (Nat.le_of_ble_eq_true rfl)) dX10_feed_67 ⟨(Nat.le_of_ble_eq_true rfl), (Nat.le_of_ble_eq_true rfl)⟩) hS (fun q _ h => hFc q h) hFc (fun u t H locs ht hvm hw hB hz1 hk1 hS => ?_)
  obtain ⟨a_8, c_8, f_8⟩ := u
  obtain ⟨hP1, hK1, hD1⟩ := hB
  rw [ht] at hP1
  have hK1 := va_K.moved hvm.symm hK1
  obtain ⟨hP, hD⟩ := va_join (wr := [((a 0), .inr (10, [.ref (a 1), .ref (a 3), .ref (a 40), .int 0, .int (-1), .ref (a 4), .ref (a 5), .ref (a 6), .ref (a 7), .ref (a 8), .ref (a 9), .ref (a 10), .null, .null, .int 0, .int (-1), .ref (a 41)])), ((a 3), .inr (3, [.ref (a 1), .ref (a 42), .int 0, .int 0])), ((a 4), .inr (4, [.int 0, .int 0, .ref (a 43), .ref (a 44), .ref (a 45), .ref (a 46), .ref (a 47), .ref (a 48), .ref (a 49), .ref (a 50), .ref (a 51)])), ((a 5), .inr (4, [.int 0, .int 0, .ref (a 11), .ref (a 12), .ref (a 13), .ref (a 14), .ref (a 15), .ref (a 16), .ref (a 17), .ref (a 18), .ref (a 19)])), ((a 6), .inr (5, [.ref (a 52), .int 0, .ref (a 53), .int 0, .int 0, .int 0])), ((a 7), .inr (5, [.ref (a 54), .int 0, .ref (a 55), .int 0, .int 0, .int 0])), ((a 8), .inr (1, [.ref (a 56), .int 0, .int 0, .ref (a 57), .int 0, .ref (a 58)])), ((a 9), .inr (7, [.ref (a 59), .ref (a 60), .ref (a 61)])), ((a 11), .inl ((cA 11), 12, .inl (f 11))), ((a 12), .inl ((cA 12), 12, .inl (f 12))), ((a 13), .inl ((cA 13), 144, .inl (f 13))), ((a 14), .inl ((cA 14), 12, .inl (f 14))), ((a 15), .inl ((cA 15), 12, .inl (f 15))), ((a 16), .inl ((cA 16), 12, .inl (f 16))), ((a 17), .inl ((cA 17), 12, .inl (f 17))), ((a 18), .inl ((cA 18), 12, .inl (f 18))), ((a 19), .inl ((cA 19), 144, .inl (f 19)))]) (w1 := [((a 1), .inr (6, [.ref (a 2), .int (nI (0 + sgN x + sgN y + sgN z)), .int 0])), ((a 2), .inl ((cA 2), 160, .inl (f_8 1)))]) hP hD [17, 18] [0, 1, 2, 3, 4, 5, 6, 7, 8, 9, 10, 11, 12, 13, 14, 15, 16] rfl rfl (by decide) (by decide) hk1 hFc hP1 hD1
  have hP : va_P D vwCl [((a 0), .inr (10, [.ref (a 1), .ref (a 3), .ref (a 40), .int 0, .int (-1), .ref (a 4), .ref (a 5), .ref (a 6), .ref (a 7), .ref (a 8), .ref (a 9), .ref (a 10), .null, .null, .int 0, .int (-1), .ref (a 41)])), ((a 3), .inr (3, [.ref (a 1), .ref (a 42), .int 0, .int 0])), ((a 4), .inr (4, [.int 0, .int 0, .ref (a 43), .ref (a 44), .ref (a 45), .ref (a 46), .ref (a 47), .ref (a 48), .ref (a 49), .ref (a 50), .ref (a 51)])), ((a 5), .inr (4, [.int 0, .int 0, .ref (a 11), .ref (a 12), .ref (a 13), .ref (a 14), .ref (a 15), .ref (a 16), .ref (a 17), .ref (a 18), .ref (a 19)])), ((a 6), .inr (5, [.ref (a 52), .int 0, .ref (a 53), .int 0, .int 0, .int 0])), ((a 7), .inr (5, [.ref (a 54), .int 0, .ref (a 55), .int 0, .int 0, .int 0])), ((a 8), .inr (1, [.ref (a 56), .int 0, .int 0, .ref (a 57), .int 0, .ref (a 58)])), ((a 9), .inr (7, [.ref (a 59), .ref (a 60), .ref (a 61)])), ((a 11), .inl ((cA 11), 12, .inl (f 11))), ((a 12), .inl ((cA 12), 12, .inl (f 12))), ((a 13), .inl ((cA 13), 144, .inl (f 13))), ((a 14), .inl ((cA 14), 12, .inl (f 14))), ((a 15), .inl ((cA 15), 12, .inl (f 15))), ((a 16), .inl ((cA 16), 12, .inl (f 16))), ((a 17), .inl ((cA 17), 12, .inl (f 17))), ((a 18), .inl ((cA 18), 12, .inl (f 18))), ((a 19), .inl ((cA 19), 144, .inl (f 19))), ((a 1), .inr (6, [.ref (a 2), .int (nI (0 + sgN x + sgN y + sgN z)), .int 0])), ((a 2), .inl ((cA 2), 160, .inl (f_8 1)))] H := hP
  have hD : va_D A [((a 0), .inr (10, [.ref (a 1), .ref (a 3), .ref (a 40), .int 0, .int (-1), .ref (a 4), .ref (a 5), .ref (a 6), .ref (a 7), .ref (a 8), .ref (a 9), .ref (a 10), .null, .null, .int 0, .int (-1), .ref (a 41)])), ((a 3), .inr (3, [.ref (a 1), .ref (a 42), .int 0, .int 0])), ((a 4), .inr (4, [.int 0, .int 0, .ref (a 43), .ref (a 44), .ref (a 45), .ref (a 46), .ref (a 47), .ref (a 48), .ref (a 49), .ref (a 50), .ref (a 51)])), ((a 5), .inr (4, [.int 0, .int 0, .ref (a 11), .ref (a 12), .ref (a 13), .ref (a 14), .ref (a 15), .ref (a 16), .ref (a 17), .ref (a 18), .ref (a 19)])), ((a 6), .inr (5, [.ref (a 52), .int 0, .ref (a 53), .int 0, .int 0, .int 0])), ((a 7), .inr (5, [.ref (a 54), .int 0, .ref (a 55), .int 0, .int 0, .int 0])), ((a 8), .inr (1, [.ref (a 56), .int 0, .int 0, .ref (a 57), .int 0, .ref (a 58)])), ((a 9), .inr (7, [.ref (a 59), .ref (a 60), .ref (a 61)])), ((a 11), .inl ((cA 11), 12, .inl (f 11))), ((a 12), .inl ((cA 12), 12, .inl (f 12))), ((a 13), .inl ((cA 13), 144, .inl (f 13))), ((a 14), .inl ((cA 14), 12, .inl (f 14))), ((a 15), .inl ((cA 15), 12, .inl (f 15))), ((a 16), .inl ((cA 16), 12, .inl (f 16))), ((a 17), .inl ((cA 17), 12, .inl (f 17))), ((a 18), .inl ((cA 18), 12, .inl (f 18))), ((a 19), .inl ((cA 19), 144, .inl (f 19))), ((a 1), .inr (6, [.ref (a 2), .int (nI (0 + sgN x + sgN y + sgN z)), .int 0])), ((a 2), .inl ((cA 2), 160, .inl (f_8 1)))] := hD
  refine lv_aload_n hx hb dX10_feed_70 rfl (lv_at hl 1 rfl) ?_
  refine va_get (D := D) (ci := 10) (v := .ref (a 1)) (C := RX10) (T := TX10) (N := 17) hx hb htg in_X10 hown hK hP 0 rfl rfl 0 (by decide) (htg _ mw_54) (fun _ h9 => h9) rfl dX10_feed_71 ?_
  refine lv_iload hx hb dX10_feed_74 (lv_at hl 5 rfl) ?_
  have hPc := hP.sub (ws' := [((a 1), .inr (6, [.ref (a 2), .int (nI (0 + sgN x + sgN y + sgN z)), .int 0])), ((a 2), .inl ((cA 2), 160, .inl (f_8 1)))]) [17, 18] rfl
  have hDc := hD.sub (ws' := [((a 1), .inr (6, [.ref (a 2), .int (nI (0 + sgN x + sgN y + sgN z)), .int 0])), ((a 2), .inl ((cA 2), 160, .inl (f_8 1)))]) [17, 18] (by decide) rfl
  have hKc := hK.sub (tys' := [((cA 2), .int)]) [0] rfl
  have hFc := va_free (wc := [((a 1), .inr (6, [.ref (a 2), .int (nI (0 + sgN x + sgN y + sgN z)), .int 0])), ((a 2), .inl ((cA 2), 160, .inl (f_8 1)))]) hD hS hA [17, 18] rfl
  refine va_callv (va_runV (As := [.int v]) (rest := []) ⟨hx, hb, hml, hown, htg⟩ (c_X6_append l D (a 1) (a 2) (0 + sgN x + sgN y + sgN z) (cA 2) (f_8 1) v (by omega) H.size) (cV 1 htg mw_173 kv_X6_append rfl rfl ⟨(Nat.le_of_ble_eq_true rfl), (Nat.le_of_ble_eq_true rfl)⟩) ⟨bl_n, va_recv hKc hPc (ci := 6) (q0 := 0) rfl rfl, us_n hPc hKc hDc⟩ rfl rfl hl.1 rfl (lv_room (Nat.le_of_ble_eq_true rfl)) dX10_feed_76 ⟨(Nat.le_of_ble_eq_true rfl), (Nat.le_of_ble_eq_true rfl)⟩) hS (fun q _ h => hFc q h) hFc (fun u t H locs ht hvm hw hB hz1 hk1 hS => ?_)
  obtain ⟨a_9, c_9, f_9⟩ := u
  obtain ⟨hP1, hK1, hD1⟩ := hB
  rw [ht] at hP1
  have hK1 := va_K.moved hvm.symm hK1
  obtain ⟨hP, hD⟩ := va_join (wr := [((a 0), .inr (10, [.ref (a 1), .ref (a 3), .ref (a 40), .int 0, .int (-1), .ref (a 4), .ref (a 5), .ref (a 6), .ref (a 7), .ref (a 8), .ref (a 9), .ref (a 10), .null, .null, .int 0, .int (-1), .ref (a 41)])), ((a 3), .inr (3, [.ref (a 1), .ref (a 42), .int 0, .int 0])), ((a 4), .inr (4, [.int 0, .int 0, .ref (a 43), .ref (a 44), .ref (a 45), .ref (a 46), .ref (a 47), .ref (a 48), .ref (a 49), .ref (a 50), .ref (a 51)])), ((a 5), .inr (4, [.int 0, .int 0, .ref (a 11), .ref (a 12), .ref (a 13), .ref (a 14), .ref (a 15), .ref (a 16), .ref (a 17), .ref (a 18), .ref (a 19)])), ((a 6), .inr (5, [.ref (a 52), .int 0, .ref (a 53), .int 0, .int 0, .int 0])), ((a 7), .inr (5, [.ref (a 54), .int 0, .ref (a 55), .int 0, .int 0, .int 0])), ((a 8), .inr (1, [.ref (a 56), .int 0, .int 0, .ref (a 57), .int 0, .ref (a 58)])), ((a 9), .inr (7, [.ref (a 59), .ref (a 60), .ref (a 61)])), ((a 11), .inl ((cA 11), 12, .inl (f 11))), ((a 12), .inl ((cA 12), 12, .inl (f 12))), ((a 13), .inl ((cA 13), 144, .inl (f 13))), ((a 14), .inl ((cA 14), 12, .inl (f 14))), ((a 15), .inl ((cA 15), 12, .inl (f 15))), ((a 16), .inl ((cA 16), 12, .inl (f 16))), ((a 17), .inl ((cA 17), 12, .inl (f 17))), ((a 18), .inl ((cA 18), 12, .inl (f 18))), ((a 19), .inl ((cA 19), 144, .inl (f 19)))]) (w1 := [((a 1), .inr (6, [.ref (a 2), .int (nI (0 + sgN x + sgN y + sgN z + sgN v)), .int 0])), ((a 2), .inl ((cA 2), 160, .inl (f_9 1)))]) hP hD [17, 18] [0, 1, 2, 3, 4, 5, 6, 7, 8, 9, 10, 11, 12, 13, 14, 15, 16] rfl rfl (by decide) (by decide) hk1 hFc hP1 hD1
  have hP : va_P D vwCl [((a 0), .inr (10, [.ref (a 1), .ref (a 3), .ref (a 40), .int 0, .int (-1), .ref (a 4), .ref (a 5), .ref (a 6), .ref (a 7), .ref (a 8), .ref (a 9), .ref (a 10), .null, .null, .int 0, .int (-1), .ref (a 41)])), ((a 3), .inr (3, [.ref (a 1), .ref (a 42), .int 0, .int 0])), ((a 4), .inr (4, [.int 0, .int 0, .ref (a 43), .ref (a 44), .ref (a 45), .ref (a 46), .ref (a 47), .ref (a 48), .ref (a 49), .ref (a 50), .ref (a 51)])), ((a 5), .inr (4, [.int 0, .int 0, .ref (a 11), .ref (a 12), .ref (a 13), .ref (a 14), .ref (a 15), .ref (a 16), .ref (a 17), .ref (a 18), .ref (a 19)])), ((a 6), .inr (5, [.ref (a 52), .int 0, .ref (a 53), .int 0, .int 0, .int 0])), ((a 7), .inr (5, [.ref (a 54), .int 0, .ref (a 55), .int 0, .int 0, .int 0])), ((a 8), .inr (1, [.ref (a 56), .int 0, .int 0, .ref (a 57), .int 0, .ref (a 58)])), ((a 9), .inr (7, [.ref (a 59), .ref (a 60), .ref (a 61)])), ((a 11), .inl ((cA 11), 12, .inl (f 11))), ((a 12), .inl ((cA 12), 12, .inl (f 12))), ((a 13), .inl ((cA 13), 144, .inl (f 13))), ((a 14), .inl ((cA 14), 12, .inl (f 14))), ((a 15), .inl ((cA 15), 12, .inl (f 15))), ((a 16), .inl ((cA 16), 12, .inl (f 16))), ((a 17), .inl ((cA 17), 12, .inl (f 17))), ((a 18), .inl ((cA 18), 12, .inl (f 18))), ((a 19), .inl ((cA 19), 144, .inl (f 19))), ((a 1), .inr (6, [.ref (a 2), .int (nI (0 + sgN x + sgN y + sgN z + sgN v)), .int 0])), ((a 2), .inl ((cA 2), 160, .inl (f_9 1)))] H := hP
  have hD : va_D A [((a 0), .inr (10, [.ref (a 1), .ref (a 3), .ref (a 40), .int 0, .int (-1), .ref (a 4), .ref (a 5), .ref (a 6), .ref (a 7), .ref (a 8), .ref (a 9), .ref (a 10), .null, .null, .int 0, .int (-1), .ref (a 41)])), ((a 3), .inr (3, [.ref (a 1), .ref (a 42), .int 0, .int 0])), ((a 4), .inr (4, [.int 0, .int 0, .ref (a 43), .ref (a 44), .ref (a 45), .ref (a 46), .ref (a 47), .ref (a 48), .ref (a 49), .ref (a 50), .ref (a 51)])), ((a 5), .inr (4, [.int 0, .int 0, .ref (a 11), .ref (a 12), .ref (a 13), .ref (a 14), .ref (a 15), .ref (a 16), .ref (a 17), .ref (a 18), .ref (a 19)])), ((a 6), .inr (5, [.ref (a 52), .int 0, .ref (a 53), .int 0, .int 0, .int 0])), ((a 7), .inr (5, [.ref (a 54), .int 0, .ref (a 55), .int 0, .int 0, .int 0])), ((a 8), .inr (1, [.ref (a 56), .int 0, .int 0, .ref (a 57), .int 0, .ref (a 58)])), ((a 9), .inr (7, [.ref (a 59), .ref (a 60), .ref (a 61)])), ((a 11), .inl ((cA 11), 12, .inl (f 11))), ((a 12), .inl ((cA 12), 12, .inl (f 12))), ((a 13), .inl ((cA 13), 144, .inl (f 13))), ((a 14), .inl ((cA 14), 12, .inl (f 14))), ((a 15), .inl ((cA 15), 12, .inl (f 15))), ((a 16), .inl ((cA 16), 12, .inl (f 16))), ((a 17), .inl ((cA 17), 12, .inl (f 17))), ((a 18), .inl ((cA 18), 12, .inl (f 18))), ((a 19), .inl ((cA 19), 144, .inl (f 19))), ((a 1), .inr (6, [.ref (a 2), .int (nI (0 + sgN x + sgN y + sgN z + sgN v)), .int 0])), ((a 2), .inl ((cA 2), 160, .inl (f_9 1)))] := hD
  refine lv_aload_n hx hb dX10_feed_79 rfl (lv_at hl 1 rfl) ?_
  refine va_get (D := D) (ci := 10) (v := .ref (a 1)) (C := RX10) (T := TX10) (N := 17) hx hb htg in_X10 hown hK hP 0 rfl rfl 0 (by decide) (htg _ mw_54) (fun _ h9 => h9) rfl dX10_feed_80 ?_
  refine lv_iload hx hb dX10_feed_83 (lv_at hl 6 rfl) ?_
  have hPc := hP.sub (ws' := [((a 1), .inr (6, [.ref (a 2), .int (nI (0 + sgN x + sgN y + sgN z + sgN v)), .int 0])), ((a 2), .inl ((cA 2), 160, .inl (f_9 1)))]) [17, 18] rfl
  have hDc := hD.sub (ws' := [((a 1), .inr (6, [.ref (a 2), .int (nI (0 + sgN x + sgN y + sgN z + sgN v)), .int 0])), ((a 2), .inl ((cA 2), 160, .inl (f_9 1)))]) [17, 18] (by decide) rfl
  have hKc := hK.sub (tys' := [((cA 2), .int)]) [0] rfl
  have hFc := va_free (wc := [((a 1), .inr (6, [.ref (a 2), .int (nI (0 + sgN x + sgN y + sgN z + sgN v)), .int 0])), ((a 2), .inl ((cA 2), 160, .inl (f_9 1)))]) hD hS hA [17, 18] rfl
  refine va_callv (va_runV (As := [.int w]) (rest := []) ⟨hx, hb, hml, hown, htg⟩ (c_X6_append l D (a 1) (a 2) (0 + sgN x + sgN y + sgN z + sgN v) (cA 2) (f_9 1) w (by omega) H.size) (cV 1 htg mw_173 kv_X6_append rfl rfl ⟨(Nat.le_of_ble_eq_true rfl), (Nat.le_of_ble_eq_true rfl)⟩) ⟨bl_n, va_recv hKc hPc (ci := 6) (q0 := 0) rfl rfl, us_n hPc hKc hDc⟩ rfl rfl hl.1 rfl (lv_room (Nat.le_of_ble_eq_true rfl)) dX10_feed_85 ⟨(Nat.le_of_ble_eq_true rfl), (Nat.le_of_ble_eq_true rfl)⟩) hS (fun q _ h => hFc q h) hFc (fun u t H locs ht hvm hw hB hz1 hk1 hS => ?_)
  obtain ⟨a_10, c_10, f_10⟩ := u
  obtain ⟨hP1, hK1, hD1⟩ := hB
  rw [ht] at hP1
  have hK1 := va_K.moved hvm.symm hK1
  obtain ⟨hP, hD⟩ := va_join (wr := [((a 0), .inr (10, [.ref (a 1), .ref (a 3), .ref (a 40), .int 0, .int (-1), .ref (a 4), .ref (a 5), .ref (a 6), .ref (a 7), .ref (a 8), .ref (a 9), .ref (a 10), .null, .null, .int 0, .int (-1), .ref (a 41)])), ((a 3), .inr (3, [.ref (a 1), .ref (a 42), .int 0, .int 0])), ((a 4), .inr (4, [.int 0, .int 0, .ref (a 43), .ref (a 44), .ref (a 45), .ref (a 46), .ref (a 47), .ref (a 48), .ref (a 49), .ref (a 50), .ref (a 51)])), ((a 5), .inr (4, [.int 0, .int 0, .ref (a 11), .ref (a 12), .ref (a 13), .ref (a 14), .ref (a 15), .ref (a 16), .ref (a 17), .ref (a 18), .ref (a 19)])), ((a 6), .inr (5, [.ref (a 52), .int 0, .ref (a 53), .int 0, .int 0, .int 0])), ((a 7), .inr (5, [.ref (a 54), .int 0, .ref (a 55), .int 0, .int 0, .int 0])), ((a 8), .inr (1, [.ref (a 56), .int 0, .int 0, .ref (a 57), .int 0, .ref (a 58)])), ((a 9), .inr (7, [.ref (a 59), .ref (a 60), .ref (a 61)])), ((a 11), .inl ((cA 11), 12, .inl (f 11))), ((a 12), .inl ((cA 12), 12, .inl (f 12))), ((a 13), .inl ((cA 13), 144, .inl (f 13))), ((a 14), .inl ((cA 14), 12, .inl (f 14))), ((a 15), .inl ((cA 15), 12, .inl (f 15))), ((a 16), .inl ((cA 16), 12, .inl (f 16))), ((a 17), .inl ((cA 17), 12, .inl (f 17))), ((a 18), .inl ((cA 18), 12, .inl (f 18))), ((a 19), .inl ((cA 19), 144, .inl (f 19)))]) (w1 := [((a 1), .inr (6, [.ref (a 2), .int (nI (0 + sgN x + sgN y + sgN z + sgN v + sgN w)), .int 0])), ((a 2), .inl ((cA 2), 160, .inl (f_10 1)))]) hP hD [17, 18] [0, 1, 2, 3, 4, 5, 6, 7, 8, 9, 10, 11, 12, 13, 14, 15, 16] rfl rfl (by decide) (by decide) hk1 hFc hP1 hD1
  have hP : va_P D vwCl [((a 0), .inr (10, [.ref (a 1), .ref (a 3), .ref (a 40), .int 0, .int (-1), .ref (a 4), .ref (a 5), .ref (a 6), .ref (a 7), .ref (a 8), .ref (a 9), .ref (a 10), .null, .null, .int 0, .int (-1), .ref (a 41)])), ((a 3), .inr (3, [.ref (a 1), .ref (a 42), .int 0, .int 0])), ((a 4), .inr (4, [.int 0, .int 0, .ref (a 43), .ref (a 44), .ref (a 45), .ref (a 46), .ref (a 47), .ref (a 48), .ref (a 49), .ref (a 50), .ref (a 51)])), ((a 5), .inr (4, [.int 0, .int 0, .ref (a 11), .ref (a 12), .ref (a 13), .ref (a 14), .ref (a 15), .ref (a 16), .ref (a 17), .ref (a 18), .ref (a 19)])), ((a 6), .inr (5, [.ref (a 52), .int 0, .ref (a 53), .int 0, .int 0, .int 0])), ((a 7), .inr (5, [.ref (a 54), .int 0, .ref (a 55), .int 0, .int 0, .int 0])), ((a 8), .inr (1, [.ref (a 56), .int 0, .int 0, .ref (a 57), .int 0, .ref (a 58)])), ((a 9), .inr (7, [.ref (a 59), .ref (a 60), .ref (a 61)])), ((a 11), .inl ((cA 11), 12, .inl (f 11))), ((a 12), .inl ((cA 12), 12, .inl (f 12))), ((a 13), .inl ((cA 13), 144, .inl (f 13))), ((a 14), .inl ((cA 14), 12, .inl (f 14))), ((a 15), .inl ((cA 15), 12, .inl (f 15))), ((a 16), .inl ((cA 16), 12, .inl (f 16))), ((a 17), .inl ((cA 17), 12, .inl (f 17))), ((a 18), .inl ((cA 18), 12, .inl (f 18))), ((a 19), .inl ((cA 19), 144, .inl (f 19))), ((a 1), .inr (6, [.ref (a 2), .int (nI (0 + sgN x + sgN y + sgN z + sgN v + sgN w)), .int 0])), ((a 2), .inl ((cA 2), 160, .inl (f_10 1)))] H := hP
  have hD : va_D A [((a 0), .inr (10, [.ref (a 1), .ref (a 3), .ref (a 40), .int 0, .int (-1), .ref (a 4), .ref (a 5), .ref (a 6), .ref (a 7), .ref (a 8), .ref (a 9), .ref (a 10), .null, .null, .int 0, .int (-1), .ref (a 41)])), ((a 3), .inr (3, [.ref (a 1), .ref (a 42), .int 0, .int 0])), ((a 4), .inr (4, [.int 0, .int 0, .ref (a 43), .ref (a 44), .ref (a 45), .ref (a 46), .ref (a 47), .ref (a 48), .ref (a 49), .ref (a 50), .ref (a 51)])), ((a 5), .inr (4, [.int 0, .int 0, .ref (a 11), .ref (a 12), .ref (a 13), .ref (a 14), .ref (a 15), .ref (a 16), .ref (a 17), .ref (a 18), .ref (a 19)])), ((a 6), .inr (5, [.ref (a 52), .int 0, .ref (a 53), .int 0, .int 0, .int 0])), ((a 7), .inr (5, [.ref (a 54), .int 0, .ref (a 55), .int 0, .int 0, .int 0])), ((a 8), .inr (1, [.ref (a 56), .int 0, .int 0, .ref (a 57), .int 0, .ref (a 58)])), ((a 9), .inr (7, [.ref (a 59), .ref (a 60), .ref (a 61)])), ((a 11), .inl ((cA 11), 12, .inl (f 11))), ((a 12), .inl ((cA 12), 12, .inl (f 12))), ((a 13), .inl ((cA 13), 144, .inl (f 13))), ((a 14), .inl ((cA 14), 12, .inl (f 14))), ((a 15), .inl ((cA 15), 12, .inl (f 15))), ((a 16), .inl ((cA 16), 12, .inl (f 16))), ((a 17), .inl ((cA 17), 12, .inl (f 17))), ((a 18), .inl ((cA 18), 12, .inl (f 18))), ((a 19), .inl ((cA 19), 144, .inl (f 19))), ((a 1), .inr (6, [.ref (a 2), .int (nI (0 + sgN x + sgN y + sgN z + sgN v + sgN w)), .int 0])), ((a 2), .inl ((cA 2), 160, .inl (f_10 1)))] := hD
  refine lv_aload_n hx hb dX10_feed_88 rfl (lv_at hl 1 rfl) ?_
  refine va_get (D := D) (ci := 10) (v := .ref (a 1)) (C := RX10) (T := TX10) (N := 17) hx hb htg in_X10 hown hK hP 0 rfl rfl 0 (by decide) (htg _ mw_54) (fun _ h9 => h9) rfl dX10_feed_89 ?_
  refine va_get (D := D) (ci := 6) (v := .int (nI (0 + sgN x + sgN y + sgN z + sgN v + sgN w))) (C := RX6) (T := TX6) (N := 3) hx hb htg in_X6 hown hK hP 17 rfl rfl 1 (by decide) (htg _ mw_55) (fun _ h9 => h9) rfl dX10_feed_92 ?_
  exact W.iret (v := (nI (0 + sgN x + sgN y + sgN z + sgN v + sgN w))) hx hb hr  (fun t ht hW => ⟨⟨(nI (0 + sgN x + sgN y + sgN z + sgN v + sgN w)), (), rfl, (by unfold sp_feed; exact congrArg nI (by omega)), trivial⟩, hS.F ht⟩) hS.2.2 dX10_feed_95
