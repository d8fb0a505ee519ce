/-! what a throw needs that isn't among the good words -/
def nx (A : Nat → Prop) (U : State) : Prop := va_Nw (.castable "java/util/NoSuchElementException" "java/util/NoSuchElementException") U ∧ va_Nw (.declares (Bundle.init0 "java/lang/RuntimeException")) U ∧ va_Nw (.declares (Bundle.init0 "java/lang/Exception")) U ∧ va_Nw (.declares (Bundle.init0 Bundle.tN)) U ∧ vx_Zq Bundle.tN "UNASSIGNED_STACK" Bundle.steD A U U.heap ∧ vx_Zq Bundle.tN "SUPPRESSED_SENTINEL" Bundle.listD A U U.heap
theorem nw_tr {c : Cond} {u U : State} (hc : c.onTables = true) (h : c.before #[] (u.setVm U.vm) = true) : va_Nw c U := by
  have e := Cond.onTables_vm (A := #[]) (A' := #[]) (U := u) (U' := U) U.vm c hc
  have hU : U.setVm U.vm = U := rfl
  rw [hU] at e
  unfold va_Nw
  rw [← e]
  exact h
theorem nw_D {x : MethodName} {u U : State} (hvm : u.vm.Alike U.vm) (h : va_Nw (.declares x) u) : va_Nw (.declares x) U := nw_tr (u := u) rfl (by rw [Cond.declares_setVm hvm]; exact h)
theorem nw_C {x y : String} {u U : State} (hvm : u.vm.Alike U.vm) (h : va_Nw (.castable x y) u) : va_Nw (.castable x y) U := nw_tr (u := u) rfl (by rw [Cond.castable_setVm hvm]; exact h)
theorem nx_at {A B : Nat → Prop} {u U : State} (hvm : u.vm.Alike U.vm) (h : nx A u) (hk : ∀ q : Nat, q < u.heap.size → ¬ A q → U.heap[q]? = u.heap[q]?) (hAB : ∀ q, B q → A q) : nx B U :=
  ⟨nw_C hvm h.1, nw_D hvm h.2.1, nw_D hvm h.2.2.1, nw_D hvm h.2.2.2.1, ((h.2.2.2.2.1.kept hk).narrow hAB).moved hvm, ((h.2.2.2.2.2.kept hk).narrow hAB).moved hvm⟩
theorem bl_x {av : List Value} {D : va_G} {sz : Nat} {A : Nat → Prop} {W : va_W} {ty : List (ClassId × FieldType)} : FrameBlind (va_Pc av (fun U => nx A U ∧ pn D sz W ty U)) := fun a U g mk q => ⟨q.1, nx_at (u := U) (U := U.calling g mk a) (Vm.Alike.refl U.vm) q.2.1 (fun _ _ _ => rfl) (fun _ h => h), (bl_n (av := av) a U g mk ⟨q.1, q.2.2⟩).2⟩
theorem us_x {s : State} {H : Heap} {locs : List Loc} {av : List Value} {D : va_G} {A : Nat → Prop} {W : va_W} {ty : List (ClassId × FieldType)} (hN : nx A s) (hS : va_S A s.heap H locs) (hF : ∀ q, va_A W H.size q → A q) (hP : va_P D vwCl W H) (hK : va_K D vwCl ty s) (hD : va_D A W) : ∀ U : State, U.heap = H → s.WarmedH U.vm → va_Pc av (fun U => nx (va_A W H.size) U ∧ pn D H.size W ty U) av.toArray U := fun U hU hW => ⟨rfl, nx_at hW.alike hN (fun q h1 h2 => by rw [hU]; exact hS.2.1 q h1 h2) hF, (us_n (av := av) hP hK hD U hU hW).2⟩
theorem gx_ot : ∀ w ∈ (Cond.classLink RX10 126 "java/util/NoSuchElementException" :: Cond.initialized "java/util/NoSuchElementException" :: vx_at0 RX10 128 "java/util/NoSuchElementException" ["java/lang/RuntimeException", "java/lang/Exception"]), vx_ot w = true := by decide +kernel
theorem gx_no : ∀ w ∈ (vx_at0 RX10 128 "java/util/NoSuchElementException" ["java/lang/RuntimeException", "java/lang/Exception"]).filter (fun w => !goodWord w), w ∈ [Cond.castable "java/util/NoSuchElementException" "java/util/NoSuchElementException", Cond.declares (Bundle.init0 "java/lang/RuntimeException"), Cond.declares (Bundle.init0 "java/lang/Exception"), Cond.declares (Bundle.init0 Bundle.tN)] := by decide +kernel
theorem gx_at {A : Nat → Prop} {args : Array Value} {s : State} (htg : ∀ w ∈ gw, w.before args s = true) (hN : nx A s) : ∀ w ∈ vx_at0 RX10 128 "java/util/NoSuchElementException" ["java/lang/RuntimeException", "java/lang/Exception"], w.before args s = true :=
  vx_hat (fun w hw => htg w (gx_in w hw)) gx_no (vx_c (va_Nw.use rfl hN.1) (vx_c (va_Nw.use rfl hN.2.1) (vx_c (va_Nw.use rfl hN.2.2.1) (vx_c (va_Nw.use rfl hN.2.2.2.1) vx_n))))
theorem gw_SW {own : String} {index : Nat} {y : MethodName} {c : Cond} (h1 : Cond.methodLink own index y ∈ gw) (h2 : Cond.static y ∈ gw) (h3 : Cond.initialized y.cls ∈ gw) (hc : c ∈ gw) : GoodIn gw (va_wsS own index y (c :: gw)) := by
  intro w h
  unfold va_wsS at h
  rcases List.mem_append.mp h with h | h
  · simp only [List.mem_cons, List.not_mem_nil, or_false] at h
    rcases h with rfl | rfl | rfl
    · exact gw_self _ h1
    · exact gw_self _ h2
    · exact gw_self _ h3
  · exact gw_c hc w h

set_option maxHeartbeats 4000000 in
set_option maxRecDepth 100000 in
theorem c_X10_desk (l : Launch) (hst : l.stackTraces = false) (D : va_G) (a : Nat → Nat) (x : Int32) (zh : Nat) : vx_Met l yX10_desk (.code yX10_desk cX10_desk 2 (some .int) :: gw) ({ frames := 8, cells := 1, slots := 6, locals := 200 }) (va_Pc [.ref (a 0), .int x] (fun U => nx (va_A [((a 0), .inr (10, [.ref (a 1), .ref (a 3), .ref (a 40), .int 0, .int (-1), .ref (a 4), .ref (a 5), .ref (a 6), .ref (a 7), .ref (a 8), .ref (a 9), .ref (a 10), .null, .null, .int 0, .int (-1), .ref (a 41)])), ((a 4), .inr (4, [.int 0, .int 0, .ref (a 43), .ref (a 44), .ref (a 45), .ref (a 46), .ref (a 47), .ref (a 48), .ref (a 49), .ref (a 50), .ref (a 51)]))] zh) U ∧ pn D zh [((a 0), .inr (10, [.ref (a 1), .ref (a 3), .ref (a 40), .int 0, .int (-1), .ref (a 4), .ref (a 5), .ref (a 6), .ref (a 7), .ref (a 8), .ref (a 9), .ref (a 10), .null, .null, .int 0, .int (-1), .ref (a 41)])), ((a 4), .inr (4, [.int 0, .int 0, .ref (a 43), .ref (a 44), .ref (a 45), .ref (a 46), .ref (a 47), .ref (a 48), .ref (a 49), .ref (a 50), .ref (a 51)]))] [] U)) (va_Qi (fun _ (_ : Unit) => False) (fun _ _ => True) (va_A [((a 0), .inr (10, [.ref (a 1), .ref (a 3), .ref (a 40), .int 0, .int (-1), .ref (a 4), .ref (a 5), .ref (a 6), .ref (a 7), .ref (a 8), .ref (a 9), .ref (a 10), .null, .null, .int 0, .int (-1), .ref (a 41)])), ((a 4), .inr (4, [.int 0, .int 0, .ref (a 43), .ref (a 44), .ref (a 45), .ref (a 46), .ref (a 47), .ref (a 48), .ref (a 49), .ref (a 50), .ref (a 51)]))] zh)) (vx_X (fun _ : Unit => True) (fun E _ _ => E = "java/util/NoSuchElementException") (va_A [((a 0), .inr (10, [.ref (a 1), .ref (a 3), .ref (a 40), .int 0, .int (-1), .ref (a 4), .ref (a 5), .ref (a 6), .ref (a 7), .ref (a 8), .ref (a 9), .ref (a 10), .null, .null, .int 0, .int (-1), .ref (a 41)])), ((a 4), .inr (4, [.int 0, .int 0, .ref (a 43), .ref (a 44), .ref (a 45), .ref (a 46), .ref (a 47), .ref (a 48), .ref (a 49), .ref (a 50), .ref (a 51)]))] zh)) 1 6 (va_A [((a 0), .inr (10, [.ref (a 1), .ref (a 3), .ref (a 40), .int 0, .int (-1), .ref (a 4), .ref (a 5), .ref (a 6), .ref (a 7), .ref (a 8), .ref (a 9), .ref (a 10), .null, .null, .int 0, .int (-1), .ref (a 41)])), ((a 4), .inr (4, [.int 0, .int 0, .ref (a 43), .ref (a 44), .ref (a 45), .ref (a 46), .ref (a 47), .ref (a 48), .ref (a 49), .ref (a 50), .ref (a 51)]))] zh) := by
  refine vx_ofW (cc := cX10_desk) (maxL := 2) (ret := (some .int)) (by decide) rfl ?_
  intro p e s m args below meth c s₁ B hml hout hv
  obtain ⟨rfl, hN, hsz, hP, hK, hD0⟩ := hv
  have hx := B.exec
  have hb := B.bytes
  have hr := B.returns
  have hts := atoms_spec (ws := .code yX10_desk cX10_desk 2 (some .int) :: gw) B.pre
  have htg := gw_tl hts
  have hown : s.vm.findClass RX10 = some m.cls := findClass_of_methodNamed B.named
  have hlocks := B.notSynchronized
  subst hsz
  have hD := hD0.self (sz := s.heap.size)
  generalize hAe : va_A [((a 0), .inr (10, [.ref (a 1), .ref (a 3), .ref (a 40), .int 0, .int (-1), .ref (a 4), .ref (a 5), .ref (a 6), .ref (a 7), .ref (a 8), .ref (a 9), .ref (a 10), .null, .null, .int 0, .int (-1), .ref (a 41)])), ((a 4), .inr (4, [.int 0, .int 0, .ref (a 43), .ref (a 44), .ref (a 45), .ref (a 46), .ref (a 47), .ref (a 48), .ref (a 49), .ref (a 50), .ref (a 51)]))] s.heap.size = A at hD hN ⊢
  have hA : ∀ q : Nat, s.heap.size ≤ q → A q := fun q h => by rw [← hAe]; exact Or.inr h
  have hS : va_S A s.heap s.heap [] := va_S.rf
  have hl := lv_entry ([.ref (a 0), .int x]) (n := 2) (Nat.le_of_ble_eq_true rfl)
  rw [lg_entry_eq]
  generalize (lg_sl ([.ref (a 0), .int x]) ++ List.replicate (2 - (lg_sl ([.ref (a 0), .int x])).length) Slot.unset).toArray = ls at hl ⊢
  have hl : lv_has ls 2 [(0, .ref (a 0)), (1, .int x)] := hl
  refine lv_aload_n hx hb dX10_desk_0 rfl (lv_at hl 0 rfl) ?_
  refine va_get (D := D) (ci := 10) (v := .ref (a 4)) (C := RX10) (T := TX10) (N := 17) hx hb htg in_X10 hown hK hP 0 rfl rfl 5 (by decide) (htg _ mw_13) (fun _ h9 => h9) rfl dX10_desk_1 ?_
  refine lv_iload_n hx hb dX10_desk_4 rfl (lv_at hl 1 rfl) ?_
  have hPc := hP.sub (ws' := [((a 4), .inr (4, [.int 0, .int 0, .ref (a 43), .ref (a 44), .ref (a 45), .ref (a 46), .ref (a 47), .ref (a 48), .ref (a 49), .ref (a 50), .ref (a 51)]))]) [1] rfl
  have hKc := hK.sub (tys' := []) [] rfl
  refine va_calli (va_runV (As := [.int x]) (rest := []) ⟨hx, hb, hml, hown, htg⟩ (c_X4_hasDesk l D (a 4) [.ref (a 43), .ref (a 44), .ref (a 45), .ref (a 46), .ref (a 47), .ref (a 48), .ref (a 49), .ref (a 50), .ref (a 51)] x) (cV 1 htg mw_40 kv_X4_hasDesk rfl rfl ⟨(Nat.le_of_ble_eq_true rfl), (Nat.le_of_ble_eq_true rfl)⟩) ⟨bl_r, va_recv hKc hPc (ci := 4) (q0 := 0) rfl rfl, us_r hPc hKc⟩ rfl rfl hl.1 rfl (lv_room (Nat.le_of_ble_eq_true rfl)) dX10_desk_5 ⟨(Nat.le_of_ble_eq_true rfl), (Nat.le_of_ble_eq_true rfl)⟩) hS (fun _ _ h9 => False.elim h9) (fun _ h9 => False.elim h9) (fun r_1 u t H locs ht hvm hw hB hz1 hk1 hS => ?_)
  have hP := ro_keep hP hk1
  subst hw
  refine lv_if_ne (tgt := 19) hx hb dX10_desk_8 (by decide) (fun h9 => False.elim (h9 (by decide))) (fun _ => ?_)
  exact vx_throw0 hx hb hst (own := RX10) (cls := "java/util/NoSuchElementException") (names := ["java/lang/RuntimeException", "java/lang/Exception"]) (A := A) hown (by decide +kernel) (by decide +kernel) (htg _ mw_347) (htg _ mw_348) (gx_at htg hN) gx_ot hN.2.2.2.2.1 hN.2.2.2.2.2 hS (hl.1.trans hml.symm) dX10_desk_11 dX10_desk_14 dX10_desk_15 dX10_desk_18 (fun z hz => (hout z hz).elim) (Nat.le_of_ble_eq_true rfl) (Nat.le_of_ble_eq_true rfl) (Nat.le_of_ble_eq_true rfl) (Nat.le_of_ble_eq_true rfl) hlocks (fun t hvm hz hk => ⟨(), trivial, rfl, Nat.le_trans hS.1 hz, fun q h1 h2 => (hk q (Nat.lt_of_lt_of_le h1 hS.1)).trans (hS.2.1 q h1 h2)⟩) hS.2.2 (Nat.le_of_ble_eq_true rfl) (Nat.le_of_ble_eq_true rfl)

set_option maxHeartbeats 4000000 in
set_option maxRecDepth 100000 in
theorem c_L_desk (l : Launch) (hst : l.stackTraces = false) (D : va_G) (a : Nat → Nat) (x : Int32) (o : Nat) (zh : Nat) : Met l yL_desk (.codeWith yL_desk cL_desk 4 (some .int) [(0, 9, 12, 13)] :: gw) ({ frames := 9, cells := 1, slots := 6, locals := 240 }) (va_Pc [.ref (a 0), .int x, .ref o] (fun U => nx (va_A [((a 0), .inr (10, [.ref (a 1), .ref (a 3), .ref (a 40), .int 0, .int (-1), .ref (a 4), .ref (a 5), .ref (a 6), .ref (a 7), .ref (a 8), .ref (a 9), .ref (a 10), .null, .null, .int 0, .int (-1), .ref (a 41)])), ((a 4), .inr (4, [.int 0, .int 0, .ref (a 43), .ref (a 44), .ref (a 45), .ref (a 46), .ref (a 47), .ref (a 48), .ref (a 49), .ref (a 50), .ref (a 51)]))] zh) U ∧ pn D zh [((a 0), .inr (10, [.ref (a 1), .ref (a 3), .ref (a 40), .int 0, .int (-1), .ref (a 4), .ref (a 5), .ref (a 6), .ref (a 7), .ref (a 8), .ref (a 9), .ref (a 10), .null, .null, .int 0, .int (-1), .ref (a 41)])), ((a 4), .inr (4, [.int 0, .int 0, .ref (a 43), .ref (a 44), .ref (a 45), .ref (a 46), .ref (a 47), .ref (a 48), .ref (a 49), .ref (a 50), .ref (a 51)]))] [] U)) (va_Qi (fun r (_ : Unit) => r = 1) (fun _ _ => True) (va_A [((a 0), .inr (10, [.ref (a 1), .ref (a 3), .ref (a 40), .int 0, .int (-1), .ref (a 4), .ref (a 5), .ref (a 6), .ref (a 7), .ref (a 8), .ref (a 9), .ref (a 10), .null, .null, .int 0, .int (-1), .ref (a 41)])), ((a 4), .inr (4, [.int 0, .int 0, .ref (a 43), .ref (a 44), .ref (a 45), .ref (a 46), .ref (a 47), .ref (a 48), .ref (a 49), .ref (a 50), .ref (a 51)]))] zh)) 1 6 (va_A [((a 0), .inr (10, [.ref (a 1), .ref (a 3), .ref (a 40), .int 0, .int (-1), .ref (a 4), .ref (a 5), .ref (a 6), .ref (a 7), .ref (a 8), .ref (a 9), .ref (a 10), .null, .null, .int 0, .int (-1), .ref (a 41)])), ((a 4), .inr (4, [.int 0, .int 0, .ref (a 43), .ref (a 44), .ref (a 45), .ref (a 46), .ref (a 47), .ref (a 48), .ref (a 49), .ref (a 50), .ref (a 51)]))] zh) := by
  refine va_MetW (cc := cL_desk) (maxL := 4) (ret := (some .int)) (hh := [(0, 9, 12, 13)]) (by decide) rfl ?_
  intro p e s m args below meth c s₁ B hml hv
  obtain ⟨rfl, hN, hsz, hP, hK, hD0⟩ := hv
  have hx := B.exec
  have hb := B.bytes
  have hr := B.returns
  have hts := atoms_spec (ws := .codeWith yL_desk cL_desk 4 (some .int) [(0, 9, 12, 13)] :: gw) B.pre
  have htg := gw_tl hts
  have hown : s.vm.findClass RL = some m.cls := findClass_of_methodNamed B.named
  have hlocks := B.notSynchronized
  have htab := vx_table (x := yL_desk) B (hts _ List.mem_cons_self)
  subst hsz
  have hD := hD0.self (sz := s.heap.size)
  generalize hAe : va_A [((a 0), .inr (10, [.ref (a 1), .ref (a 3), .ref (a 40), .int 0, .int (-1), .ref (a 4), .ref (a 5), .ref (a 6), .ref (a 7), .ref (a 8), .ref (a 9), .ref (a 10), .null, .null, .int 0, .int (-1), .ref (a 41)])), ((a 4), .inr (4, [.int 0, .int 0, .ref (a 43), .ref (a 44), .ref (a 45), .ref (a 46), .ref (a 47), .ref (a 48), .ref (a 49), .ref (a 50), .ref (a 51)]))] s.heap.size = A at hD hN ⊢
  have hA : ∀ q : Nat, s.heap.size ≤ q → A q := fun q h => by rw [← hAe]; exact Or.inr h
  have hS : va_S A s.heap s.heap [] := va_S.rf
  have hl := lv_entry ([.ref (a 0), .int x, .ref o]) (n := 4) (Nat.le_of_ble_eq_true rfl)
  rw [lg_entry_eq]
  generalize (lg_sl ([.ref (a 0), .int x, .ref o]) ++ List.replicate (4 - (lg_sl ([.ref (a 0), .int x, .ref o])).length) Slot.unset).toArray = ls at hl ⊢
  have hl : lv_has ls 4 [(0, .ref (a 0)), (1, .int x), (2, .ref o)] := hl
  refine lv_aload_n hx hb dL_desk_0 rfl (lv_at hl 2 rfl) ?_
  refine lv_iconst (v := 0) hx hb dL_desk_1 (by decide) ?_
  refine lv_aload_n hx hb dL_desk_2 rfl (lv_at hl 0 rfl) ?_
  refine lv_iload_n hx hb dL_desk_3 rfl (lv_at hl 1 rfl) ?_
  have hFc : ∀ q, va_A [((a 0), .inr (10, [.ref (a 1), .ref (a 3), .ref (a 40), .int 0, .int (-1), .ref (a 4), .ref (a 5), .ref (a 6), .ref (a 7), .ref (a 8), .ref (a 9), .ref (a 10), .null, .null, .int 0, .int (-1), .ref (a 41)])), ((a 4), .inr (4, [.int 0, .int 0, .ref (a 43), .ref (a 44), .ref (a 45), .ref (a 46), .ref (a 47), .ref (a 48), .ref (a 49), .ref (a 50), .ref (a 51)]))] s.heap.size q → A q := fun q h => by rw [← hAe]; exact h
  refine vx_calli (vx_runV (As := [.int x]) (rest := [.int 0, .ref o]) ⟨hx, hb, hml, hown, htg⟩ (c_X10_desk l hst D a x s.heap.size) (cV 1 htg mw_352 kv_X10_desk rfl rfl ⟨(Nat.le_of_ble_eq_true rfl), (Nat.le_of_ble_eq_true rfl)⟩) ⟨bl_x, va_recv hK hP (ci := 10) (q0 := 0) rfl rfl, us_x hN hS hFc hP hK hD⟩ rfl rfl hl.1 rfl (lv_room (Nat.le_of_ble_eq_true rfl)) dL_desk_4 ⟨(Nat.le_of_ble_eq_true rfl), (Nat.le_of_ble_eq_true rfl)⟩) hS (fun q _ h => hFc q h) hFc (fun q _ h => hFc q h) (fun E ce q9 u t H locs ht hvm hpx hB hz1 hk1 hS hcell hcv hcl => ?_) (fun r u t H locs ht hvm hw hB hz1 hk1 hS => False.elim hw)
  subst hB
  refine cx_catch hown ⟨0, 9, 12, 13⟩ (by rw [htab]; rfl) (by decide) (by decide) (htg _ mw_353) (va_Nw.use rfl hN.1) hcell hcv hcl ?_
  refine lv_astore_n (lv' := [(3, .ref q9), (0, .ref (a 0)), (1, .int x), (2, .ref o)]) hx hb dL_desk_12 rfl hl (by decide) rfl (fun ls hl => ?_)
  refine lv_iconst (v := 1) hx hb dL_desk_13 (by decide) ?_
  exact W.iret (v := 1) hx hb hr (fun t ht hW => ⟨⟨1, (), rfl, rfl, trivial⟩, hS.F ht⟩) hS.2.2 dL_desk_14
