/-! contracts that write -/
abbrev vU : Type := (Nat → Nat) × (Nat → ClassId) × (Nat → Nat → Int32)
def pn (D : va_G) (sz : Nat) (W : va_W) (ty : List (ClassId × FieldType)) (U : State) : Prop := U.heap.size = sz ∧ va_P D vwCl W U.heap ∧ va_K D vwCl ty U ∧ va_D (fun _ => True) W
def nw (D : va_G) (A : Nat → Prop) (W : va_W) (ty : List (ClassId × FieldType)) (t : State) : Prop := va_P D vwCl W t.heap ∧ va_K D vwCl ty t ∧ va_D A W
theorem bl_n {av : List Value} {D : va_G} {sz : Nat} {W : va_W} {ty : List (ClassId × FieldType)} : FrameBlind (va_Pc av (pn D sz W ty)) := fun a U g mk q => ⟨q.1, q.2.1, q.2.2.1, va_K.moved (u := U) (U := U.calling g mk a) (Vm.Alike.refl U.vm) q.2.2.2.1, q.2.2.2.2⟩
theorem us_n {s : State} {H : Heap} {av : List Value} {D : va_G} {A : Nat → Prop} {W : va_W} {ty : List (ClassId × FieldType)} (hP : va_P D vwCl W H) (hK : va_K D vwCl ty s) (hD : va_D A W) : ∀ U : State, U.heap = H → s.WarmedH U.vm → va_Pc av (pn D H.size W ty) av.toArray U := fun U hU hW => ⟨rfl, by rw [hU], by rw [hU]; exact hP, va_K.moved hW.alike hK, hD.weaken (fun _ _ _ _ => trivial)⟩
theorem nl_P {D : va_G} {cl : List vw_C} {H : Heap} : va_P D cl [] H := fun k q h => by simp at h
theorem nl_D {A : Nat → Prop} : va_D A [] := ⟨fun i j p q h => by simp at h, fun k q h => by simp at h⟩
/-! numbers of signs -/
def us (x y : Int32) : Int32 := (x.toUInt32 >>> (y.toUInt32 &&& Int32.toUInt32 31)).toInt32
def nzN (v : Int32) : Nat := if v = 0 then 0 else 1
theorem nzN_z {v : Int32} (h : v = 0) : nzN v = 0 := if_pos h
theorem nzN_n {v : Int32} (h : ¬ v = 0) : nzN v = 1 := if_neg h
theorem nzN_le (v : Int32) : nzN v ≤ 1 := by
  unfold nzN
  split <;> decide
def sgN (x : Int32) : Nat := nzN (us x 24 &&& 255) + nzN (us x 16 &&& 255) + nzN (us x 8 &&& 255) + nzN (us x 0 &&& 255)
theorem sgN_le (x : Int32) : sgN x ≤ 4 := by
  have h1 := nzN_le (us x 24 &&& 255)
  have h2 := nzN_le (us x 16 &&& 255)
  have h3 := nzN_le (us x 8 &&& 255)
  have h4 := nzN_le (us x 0 &&& 255)
  unfold sgN
  omega
theorem ni_160 : (160 : Int32) = nI 160 := by decide
theorem ni_ge {k : Nat} (h : k < 160) : ¬ (160 : Int32) ≤ nI k := by
  rw [ni_160]
  exact nI_ge h (by decide)
theorem ni_le {k : Nat} (h : k ≤ 160) : nI k ≤ (160 : Int32) := by
  rw [ni_160]
  exact nI_le h (by decide)
def sp_feed (x y z v w : Int32) : Int32 := nI (sgN x + sgN y + sgN z + sgN v + sgN w)
def sp_end (x : Int32) : Int32 := if x < 0 then 0 else if x ≤ 0 then 1 else 0
def sp_fault (x : Int32) : Int32 := if x = 0 then 0 else if x = 1 then 0 else if x = 2 then 0 else -2
theorem sp_fault_in {x : Int32} (h1 : ¬ x < 0) (h2 : x ≤ 2) : 0 = sp_fault x := by
  unfold sp_fault
  by_cases a : x = 0
  · rw [if_pos a]
  · by_cases b : x = 1
    · rw [if_neg a, if_pos b]
    · by_cases d : x = 2
      · rw [if_neg a, if_neg b, if_pos d]
      · exfalso
        simp only [ar_lt, ar_le, ar_eq, ar_n0, ar_n1, ar_n2] at a b d h1 h2
        omega
theorem sp_fault_out {x : Int32} (h : x < 0 ∨ ¬ x ≤ 2) : -2 = sp_fault x := by
  unfold sp_fault
  rw [if_neg, if_neg, if_neg]
  all_goals
    intro e
    simp only [ar_lt, ar_le, ar_eq, ar_n0, ar_n1, ar_n2] at h e
    omega
section TN
variable {p : Program} {l : Launch} {e : Env} {R : Room} {s : State} {m : MethodId} {args : Array Value} {below : List Frame} {meth : Method} {c : Code} {H : Heap} {locs : List Loc} {cells slots : Nat} {Q : State → Prop}
variable {pc : Nat} {ls : Array Slot} {rest : List Value} {cc : ByteArray}
/-- a test for 0 that leaves 1 or 0 -/
theorem lv_tern (hx : p.tables.exec = Jvm.exec) (hb : c.code = cc) {v : Int32} (d0 : decode cc pc = .ok (.ifCond .eq 7, 3)) (d3 : decode cc (pc + 3) = .ok (.iconst 1, 1)) (d4 : decode cc (pc + 4) = .ok (.goto 4, 3)) (d7 : decode cc (pc + 7) = .ok (.iconst 0, 1))
    (k : W p l e R s m args below meth c H locs cells slots Q (F0 m (pc + 8) ls (.int (nI (nzN v)) :: rest))) : W p l e R s m args below meth c H locs cells slots Q (F0 m pc ls (.int v :: rest)) := by
  refine lv_if_eq (tgt := pc + 7) hx hb d0 (by omega) (fun h => ?_) (fun h => ?_)
  · rw [nzN_z h] at k
    refine lv_iconst (v := 0) hx hb d7 (by decide) ?_
    exact k
  · rw [nzN_n h] at k
    refine lv_iconst (v := 1) hx hb d3 (by decide) ?_
    refine lv_goto (tgt := pc + 8) hx hb d4 (by omega) ?_
    exact k
end TN
theorem bl_a {av : List Value} {D : va_G} {sz : Nat} {W : va_W} {ty : List (ClassId × FieldType)} : FrameBlind (va_Pc av (fun U => va_AO RX2 U ∧ pn D sz W ty U)) := fun a U g mk q => ⟨q.1, va_AO.moved (u := U) (U := U.calling g mk a) (Vm.Alike.refl U.vm) q.2.1, (bl_n (av := av) a U g mk ⟨q.1, q.2.2⟩).2⟩
theorem us_a {s : State} {H : Heap} {av : List Value} {D : va_G} {A : Nat → Prop} {W : va_W} {ty : List (ClassId × FieldType)} (hAO : va_AO RX2 s) (hP : va_P D vwCl W H) (hK : va_K D vwCl ty s) (hD : va_D A W) : ∀ U : State, U.heap = H → s.WarmedH U.vm → va_Pc av (fun U => va_AO RX2 U ∧ pn D H.size W ty U) av.toArray U := fun U hU hW => ⟨rfl, va_AO.moved hW.alike hAO, (us_n (av := av) hP hK hD U hU hW).2⟩
theorem vp_k {i : Int32} {n : Nat} (h : ¬ (i < 0 ∨ n ≤ i.toNatClampNeg)) : vp_in i n := h
