/-! numbers -/
theorem ar_lt {x y : Int32} : x < y ↔ x.toInt < y.toInt := Int32.lt_iff_toInt_lt
theorem ar_le {x y : Int32} : x ≤ y ↔ x.toInt ≤ y.toInt := Int32.le_iff_toInt_le
theorem ar_eq {x y : Int32} : x = y ↔ x.toInt = y.toInt := Int32.toInt_inj.symm
theorem ar_n0 : (0 : Int32).toInt = 0 := by decide
theorem ar_n1 : (1 : Int32).toInt = 1 := by decide
theorem ar_n2 : (2 : Int32).toInt = 2 := by decide
theorem ar_n3 : (3 : Int32).toInt = 3 := by decide
theorem ar_n4 : (4 : Int32).toInt = 4 := by decide
theorem ar_n5 : (5 : Int32).toInt = 5 := by decide
theorem ar_n6 : (6 : Int32).toInt = 6 := by decide
theorem ar_n7 : (7 : Int32).toInt = 7 := by decide
theorem ar_n8 : (8 : Int32).toInt = 8 := by decide
theorem ar_n9 : (9 : Int32).toInt = 9 := by decide
theorem ar_n11 : (11 : Int32).toInt = 11 := by decide
theorem ar_n12 : (12 : Int32).toInt = 12 := by decide
theorem ar_n60 : (60 : Int32).toInt = 60 := by decide
theorem ar_n99 : (99 : Int32).toInt = 99 := by decide
theorem ar_nm1 : (-1 : Int32).toInt = -1 := by decide
theorem ar_shr0 (x : Int32) : (0 : Int32) >>> x = 0 := by
  apply Int32.toBitVec_inj.mp
  simp [Int32.toBitVec_shiftRight]
theorem ar_and0 (x : Int32) : (0 : Int32) &&& x = 0 := by
  apply Int32.toBitVec_inj.mp
  simp
def md_in (x y z : Int32) : Int32 := if x < y then 0 else if z < x then 0 else 1
theorem md_in_e (x : Int32) : md_in x 0 (-1) = 0 := by
  unfold md_in
  by_cases h : x < 0
  · rw [if_pos h]
  · rw [if_neg h, if_pos (by simp only [ar_lt, ar_n0, ar_nm1] at h ⊢; omega)]
def sp_told (x : Int32) : Int32 := if x = 0 then 0 else if x = 1 then 0 else if x = 2 then 0 else if x = 3 then 0 else if x = 4 then -1 else if x = 5 then 0 else if x = 6 then -1 else -1000000
/-! the worlds of the class's object and of the model's -/
abbrev fx (a : Nat → Nat) (cA : Nat → ClassId) (f : Nat → Nat → Int32) (n : Int32) : va_W := [((a 0), .inr (10, [.ref (a 1), .ref (a 3), .ref (a 40), .int 0, .int (-1), .ref (a 4), .ref (a 5), .ref (a 6), .ref (a 7), .ref (a 8), .ref (a 9), .ref (a 10), .null, .null, .int 0, .int (-1), .ref (a 41)])), ((a 1), .inr (6, [.ref (a 2), .int n, .int 0])), ((a 2), .inl ((cA 2), 160, .inl (f 2))), ((a 3), .inr (3, [.ref (a 1), .ref (a 42), .int 0, .int 0])), ((a 4), .inr (4, [.int 0, .int 0, .ref (a 43), .ref (a 44), .ref (a 45), .ref (a 46), .ref (a 47), .ref (a 48), .ref (a 49), .ref (a 50), .ref (a 51)])), ((a 5), .inr (4, [.int 0, .int 0, .ref (a 11), .ref (a 12), .ref (a 13), .ref (a 14), .ref (a 15), .ref (a 16), .ref (a 17), .ref (a 18), .ref (a 19)])), ((a 6), .inr (5, [.ref (a 52), .int 0, .ref (a 53), .int 0, .int 0, .int 0])), ((a 7), .inr (5, [.ref (a 54), .int 0, .ref (a 55), .int 0, .int 0, .int 0])), ((a 8), .inr (1, [.ref (a 56), .int 0, .int 0, .ref (a 57), .int 0, .ref (a 58)])), ((a 9), .inr (7, [.ref (a 59), .ref (a 60), .ref (a 61)])), ((a 11), .inl ((cA 11), 12, .inl (f 11))), ((a 12), .inl ((cA 12), 12, .inl (f 12))), ((a 13), .inl ((cA 13), 144, .inl (f 13))), ((a 14), .inl ((cA 14), 12, .inl (f 14))), ((a 15), .inl ((cA 15), 12, .inl (f 15))), ((a 16), .inl ((cA 16), 12, .inl (f 16))), ((a 17), .inl ((cA 17), 12, .inl (f 17))), ((a 18), .inl ((cA 18), 12, .inl (f 18))), ((a 19), .inl ((cA 19), 144, .inl (f 19)))]
abbrev ft (cA : Nat → ClassId) : List (ClassId × FieldType) := [((cA 2), .int), ((cA 11), .int), ((cA 12), .int), ((cA 13), .int), ((cA 14), .int), ((cA 15), .int), ((cA 16), .int), ((cA 17), .int), ((cA 18), .int), ((cA 19), .int)]
abbrev mo (b : Nat → Nat) (th sz at_ wr dp tx rd rc rm : Int32) : List Value := [.int th, .ref (b 1), .int sz, .int at_, .int wr, .int dp, .ref (b 6), .ref (b 7), .ref (b 8), .ref (b 9), .ref (b 10), .ref (b 11), .ref (b 12), .int 0, .int tx, .ref (b 15), .ref (b 16), .ref (b 17), .ref (b 18), .ref (b 19), .int rd, .int rc, .ref (b 22), .ref (b 23), .ref (b 24), .int 0, .int 0, .ref (b 27), .int rm, .ref (b 29), .int (-1), .ref (b 31), .ref (b 32), .int (-1), .ref (b 34), .ref (b 35), .int 0, .int 0, .ref (b 38), .ref (b 39), .ref (b 40), .ref (b 41), .ref (b 42), .ref (b 43), .ref (b 44), .ref (b 45), .ref (b 46), .ref (b 47), .int 0, .int 0, .ref (b 50), .ref (b 51), .ref (b 52), .ref (b 53), .ref (b 54), .int (-1), .int 0, .ref (b 57), .ref (b 58), .ref (b 59), .ref (b 60), .ref (b 61), .ref (b 62), .int 0, .int 0, .int 0]
abbrev fm (b : Nat → Nat) (cB : Nat → ClassId) (f : Nat → Nat → Int32) (th sz at_ wr dp tx rd rc rm : Int32) : va_W := [((b 0), .inr (11, [.int th, .ref (b 1), .int sz, .int at_, .int wr, .int dp, .ref (b 6), .ref (b 7), .ref (b 8), .ref (b 9), .ref (b 10), .ref (b 11), .ref (b 12), .int 0, .int tx, .ref (b 15), .ref (b 16), .ref (b 17), .ref (b 18), .ref (b 19), .int rd, .int rc, .ref (b 22), .ref (b 23), .ref (b 24), .int 0, .int 0, .ref (b 27), .int rm, .ref (b 29), .int (-1), .ref (b 31), .ref (b 32), .int (-1), .ref (b 34), .ref (b 35), .int 0, .int 0, .ref (b 38), .ref (b 39), .ref (b 40), .ref (b 41), .ref (b 42), .ref (b 43), .ref (b 44), .ref (b 45), .ref (b 46), .ref (b 47), .int 0, .int 0, .ref (b 50), .ref (b 51), .ref (b 52), .ref (b 53), .ref (b 54), .int (-1), .int 0, .ref (b 57), .ref (b 58), .ref (b 59), .ref (b 60), .ref (b 61), .ref (b 62), .int 0, .int 0, .int 0])), ((b 1), .inl ((cB 1), 160, .inl (f 1))), ((b 8), .inl ((cB 8), 5, .inl (f 8))), ((b 9), .inl ((cB 9), 5, .inl (f 9))), ((b 19), .inl ((cB 19), 12, .inl (f 19)))]
abbrev fmt (cB : Nat → ClassId) : List (ClassId × FieldType) := [((cB 1), .int), ((cB 8), .int), ((cB 9), .int), ((cB 19), .int)]

def gl_0 : List Cond := [Cond.fieldLink RX4 39 "DeskMoves$Office" "desks" "I", Cond.fieldLink RX4 43 "DeskMoves$Office" "clerks" "I", Cond.instanceMethod yX4_hasDesk, Cond.selects RX4 yX4_hasDesk yX4_hasDesk, Cond.initialized RX4, Cond.code yX4_hasDesk cX4_hasDesk 2 (some .boolean), Cond.methodLink RX4 97 yX4_hasDesk, Cond.instanceMethod yX4_hasClerk, Cond.selects RX4 yX4_hasClerk yX4_hasClerk, Cond.code yX4_hasClerk cX4_hasClerk 2 (some .boolean), Cond.methodLink RX4 88 yX4_hasClerk, Cond.fieldLink RX7 21 "DeskMoves$Office" "desks" "I", Cond.fieldLink RX1 21 "DeskMoves$Diary" "size" "I", Cond.fieldLink RX10 38 "DeskMoves" "office" "LDeskMoves$Office;", Cond.fieldLink RX10 160 "DeskMoves$Office" "desks" "I", Cond.instanceMethod yX4_lengthBetween, Cond.selects RX4 yX4_lengthBetween yX4_lengthBetween, Cond.code yX4_lengthBetween cX4_lengthBetween 3 (some .int), Cond.methodLink RX10 132 yX4_lengthBetween, Cond.methodLink RX10 136 yX4_hasClerk, Cond.fieldLink RX10 31 "DeskMoves" "holding" "I", Cond.instanceMethod yX10_lawOf, Cond.selects RX10 yX10_lawOf yX10_lawOf, Cond.initialized RX10, Cond.code yX10_lawOf cX10_lawOf 2 (some (.object "DeskMoves$Law")), Cond.methodLink RX10 169 yX10_lawOf, Cond.instanceMethod yX4_hindrance, Cond.selects RX4 yX4_hindrance yX4_hindrance, Cond.code yX4_hindrance cX4_hindrance 5 (some .int), Cond.methodLink RX10 173 yX4_hindrance, Cond.fieldLink RX10 58 "DeskMoves" "book" "LDeskMoves$Diary;", Cond.fieldLink RX10 188 "DeskMoves$Diary" "size" "I", Cond.instanceMethod yX1_moveAt, Cond.selects RX1 yX1_moveAt yX1_moveAt, Cond.initialized RX1, Cond.code yX1_moveAt cX1_moveAt 2 (some .int), Cond.methodLink RX10 195 yX1_moveAt, Cond.fieldLink RX10 48 "DeskMoves" "plan" "LDeskMoves$Plan;", Cond.fieldLink RX10 198 "DeskMoves$Plan" "size" "I", Cond.constant RX10 199 (-1000000)]
def gl_1 : List Cond := [Cond.methodLink RX10 122 yX4_hasDesk, Cond.instanceMethod yX10_isSearched, Cond.selects RX10 yX10_isSearched yX10_isSearched, Cond.code yX10_isSearched cX10_isSearched 1 (some .boolean), Cond.methodLink RX10 223 yX10_isSearched, Cond.fieldLink RX10 65 "DeskMoves" "turns" "LDeskMoves$Turns;", Cond.instanceMethod yX7_kindOf, Cond.selects RX7 yX7_kindOf yX7_kindOf, Cond.initialized RX7, Cond.code yX7_kindOf cX7_kindOf 5 (some .int), Cond.methodLink RX10 263 yX7_kindOf, Cond.fieldLink RX10 317 "DeskMoves$Diary" "kept" "Z", Cond.fieldLink RX10 324 "DeskMoves$Office" "clerks" "I", Cond.fieldLink RX10 163 "DeskMoves" "lawCount" "I", Cond.fieldLink RX10 10 "DeskMoves" "tape" "LDeskMoves$Tape;", Cond.fieldLink RX10 93 "DeskMoves$Tape" "length" "I", Cond.fieldLink RX11 303 "DeskMovesModel" "desks" "I", Cond.static yX11_in, Cond.initialized RX11, Cond.code yX11_in cX11_in 3 (some .boolean), Cond.methodLink RX11 274 yX11_in, Cond.instanceMethod yX11_isClerk, Cond.selects RX11 yX11_isClerk yX11_isClerk, Cond.code yX11_isClerk cX11_isClerk 2 (some .boolean), Cond.methodLink RX11 328 yX11_isClerk, Cond.instanceMethod yX11_isDesk, Cond.selects RX11 yX11_isDesk yX11_isDesk, Cond.code yX11_isDesk cX11_isDesk 2 (some .boolean), Cond.methodLink RX11 325 yX11_isDesk, Cond.fieldLink RX11 49 "DeskMovesModel" "seat" "[I", Cond.instanceMethod yX11_bars, Cond.selects RX11 yX11_bars yX11_bars, Cond.code yX11_bars cX11_bars 5 (some .int), Cond.methodLink RX11 346 yX11_bars, Cond.fieldLink RX11 309 "DeskMovesModel" "diaryMany" "I", Cond.fieldLink RX11 64 "DeskMovesModel" "planMoves" "I", Cond.constant RX11 356 (-1000000), Cond.instanceMethod yX11_isSmall, Cond.selects RX11 yX11_isSmall yX11_isSmall, Cond.code yX11_isSmall cX11_isSmall 1 (some .boolean)]
def gl_2 : List Cond := [Cond.methodLink RX11 394 yX11_isSmall, Cond.fieldLink RX11 315 "DeskMovesModel" "hasImage" "Z", Cond.fieldLink RX11 306 "DeskMovesModel" "clerks" "I", Cond.fieldLink RX11 322 "DeskMovesModel" "laws" "I", Cond.fieldLink RX11 160 "DeskMovesModel" "size" "I", Cond.fieldLink RX11 74 "DeskMovesModel" "holding" "I", Cond.fieldLink RX11 153 "DeskMovesModel" "thrown" "I", Cond.fieldLink RX6 17 "DeskMoves$Tape" "at" "I", Cond.fieldLink RX6 13 "DeskMoves$Tape" "length" "I", Cond.instanceMethod yX6_look, Cond.selects RX6 yX6_look yX6_look, Cond.initialized RX6, Cond.code yX6_look cX6_look 1 (some .int), Cond.methodLink RX6 20 yX6_look, Cond.fieldLink RX3 15 "DeskMoves$LawReader" "tape" "LDeskMoves$Tape;", Cond.instanceMethod yX6_takes, Cond.selects RX6 yX6_takes yX6_takes, Cond.code yX6_takes cX6_takes 2 (some .boolean), Cond.methodLink RX3 38 yX6_takes, Cond.fieldLink RX3 19 "DeskMoves$Tape" "at" "I", Cond.fieldLink RX3 23 "DeskMoves$LawReader" "size" "I", Cond.fieldLink RX3 26 "DeskMoves$LawReader" "looksBeside" "Z", Cond.instanceMethod yX3_readClause, Cond.selects RX3 yX3_readClause yX3_readClause, Cond.initialized RX3, Cond.code yX3_readClause cX3_readClause 3 (some .boolean), Cond.methodLink RX3 30 yX3_readClause, Cond.fieldLink RX5 18 "DeskMoves$Plan" "size" "I", Cond.fieldLink RX5 22 "DeskMoves$Tape" "at" "I", Cond.methodLink RX5 27 yX6_look, Cond.methodLink RX4 67 yX6_look, Cond.instanceMethod yX4_addDesk, Cond.selects RX4 yX4_addDesk yX4_addDesk, Cond.code yX4_addDesk cX4_addDesk 4 (some .boolean), Cond.methodLink RX4 79 yX4_addDesk, Cond.fieldLink RX4 9 "DeskMoves$Office" "seat" "[I", Cond.static yJ7_fill_53178, Cond.initialized RJ7, Cond.code yJ7_fill_53178 cJ7_fill_53178 4 none, Cond.methodLink RX4 46 yJ7_fill_53178]
def gl_3 : List Cond := [Cond.fieldLink RX4 15 "DeskMoves$Office" "place" "[I", Cond.fieldLink RX4 18 "DeskMoves$Office" "lengths" "[I", Cond.fieldLink RX4 21 "DeskMoves$Office" "beside" "[I", Cond.fieldLink RX4 24 "DeskMoves$Office" "foes" "[I", Cond.fieldLink RX4 27 "DeskMoves$Office" "rank" "[I", Cond.fieldLink RX4 30 "DeskMoves$Office" "papers" "[I", Cond.fieldLink RX4 33 "DeskMoves$Office" "wishes" "[I", Cond.fieldLink RX4 36 "DeskMoves$Office" "worths" "[I", Cond.instanceMethod yX4_clear, Cond.selects RX4 yX4_clear yX4_clear, Cond.code yX4_clear cX4_clear 1 none, Cond.methodLink RX4 52 yX4_clear, Cond.fieldLink RX4 55 "DeskMoves$Tape" "at" "I", Cond.instanceMethod yX4_readSeats, Cond.selects RX4 yX4_readSeats yX4_readSeats, Cond.code yX4_readSeats cX4_readSeats 4 (some .boolean), Cond.methodLink RX4 60 yX4_readSeats]
abbrev gf : List Cond := wsX10 ++ (wsX30 ++ (wsX40 ++ (wsX50 ++ (wsX60 ++ (wsX70 ++ (wsX100 ++ (wsX110)))))))
def gw : List Cond := gl_0 ++ (gl_1 ++ (gl_2 ++ (gl_3 ++ (gf))))
theorem gl_0_in : ∀ w ∈ gl_0, w ∈ gw := fun w h => by unfold gw; exact List.mem_append_left _ h
theorem gl_1_in : ∀ w ∈ gl_1, w ∈ gw := fun w h => by unfold gw; exact List.mem_append_right _ (List.mem_append_left _ h)
theorem gl_2_in : ∀ w ∈ gl_2, w ∈ gw := fun w h => by unfold gw; exact List.mem_append_right _ (List.mem_append_right _ (List.mem_append_left _ h))
theorem gl_3_in : ∀ w ∈ gl_3, w ∈ gw := fun w h => by unfold gw; exact List.mem_append_right _ (List.mem_append_right _ (List.mem_append_right _ (List.mem_append_left _ h)))
theorem gf_in : ∀ w ∈ gf, w ∈ gw := fun w h => by unfold gw; exact List.mem_append_right _ (List.mem_append_right _ (List.mem_append_right _ (List.mem_append_right _ (h))))
theorem in_X1 : ∀ w ∈ u_ws RX1 TX1 6, w ∈ gw := fun w h => gf_in w (List.mem_append_left _ h)
theorem in_X3 : ∀ w ∈ u_ws RX3 TX3 4, w ∈ gw := fun w h => gf_in w (List.mem_append_right _ (List.mem_append_left _ h))
theorem in_X4 : ∀ w ∈ u_ws RX4 TX4 11, w ∈ gw := fun w h => gf_in w (List.mem_append_right _ (List.mem_append_right _ (List.mem_append_left _ h)))
theorem in_X5 : ∀ w ∈ u_ws RX5 TX5 6, w ∈ gw := fun w h => gf_in w (List.mem_append_right _ (List.mem_append_right _ (List.mem_append_right _ (List.mem_append_left _ h))))
theorem in_X6 : ∀ w ∈ u_ws RX6 TX6 3, w ∈ gw := fun w h => gf_in w (List.mem_append_right _ (List.mem_append_right _ (List.mem_append_right _ (List.mem_append_right _ (List.mem_append_left _ h)))))
theorem in_X7 : ∀ w ∈ u_ws RX7 TX7 3, w ∈ gw := fun w h => gf_in w (List.mem_append_right _ (List.mem_append_right _ (List.mem_append_right _ (List.mem_append_right _ (List.mem_append_right _ (List.mem_append_left _ h))))))
theorem in_X10 : ∀ w ∈ u_ws RX10 TX10 17, w ∈ gw := fun w h => gf_in w (List.mem_append_right _ (List.mem_append_right _ (List.mem_append_right _ (List.mem_append_right _ (List.mem_append_right _ (List.mem_append_right _ (List.mem_append_left _ h)))))))
theorem in_X11 : ∀ w ∈ u_ws RX11 TX11 66, w ∈ gw := fun w h => gf_in w (List.mem_append_right _ (List.mem_append_right _ (List.mem_append_right _ (List.mem_append_right _ (List.mem_append_right _ (List.mem_append_right _ (List.mem_append_right _ (h))))))))
theorem mw_0 : Cond.fieldLink RX4 39 "DeskMoves$Office" "desks" "I" ∈ gw := gl_0_in _ (List.mem_of_getElem? (i := 0) rfl)
theorem mw_1 : Cond.fieldLink RX4 43 "DeskMoves$Office" "clerks" "I" ∈ gw := gl_0_in _ (List.mem_of_getElem? (i := 1) rfl)
theorem mw_2 : Cond.instanceMethod yX4_hasDesk ∈ gw := gl_0_in _ (List.mem_of_getElem? (i := 2) rfl)
theorem mw_3 : Cond.selects RX4 yX4_hasDesk yX4_hasDesk ∈ gw := gl_0_in _ (List.mem_of_getElem? (i := 3) rfl)
theorem mw_4 : Cond.initialized RX4 ∈ gw := gl_0_in _ (List.mem_of_getElem? (i := 4) rfl)
theorem mw_5 : Cond.code yX4_hasDesk cX4_hasDesk 2 (some .boolean) ∈ gw := gl_0_in _ (List.mem_of_getElem? (i := 5) rfl)
theorem mw_6 : Cond.methodLink RX4 97 yX4_hasDesk ∈ gw := gl_0_in _ (List.mem_of_getElem? (i := 6) rfl)
theorem mw_7 : Cond.instanceMethod yX4_hasClerk ∈ gw := gl_0_in _ (List.mem_of_getElem? (i := 7) rfl)
theorem mw_8 : Cond.selects RX4 yX4_hasClerk yX4_hasClerk ∈ gw := gl_0_in _ (List.mem_of_getElem? (i := 8) rfl)
theorem mw_9 : Cond.code yX4_hasClerk cX4_hasClerk 2 (some .boolean) ∈ gw := gl_0_in _ (List.mem_of_getElem? (i := 9) rfl)
theorem mw_10 : Cond.methodLink RX4 88 yX4_hasClerk ∈ gw := gl_0_in _ (List.mem_of_getElem? (i := 10) rfl)
theorem mw_11 : Cond.fieldLink RX7 21 "DeskMoves$Office" "desks" "I" ∈ gw := gl_0_in _ (List.mem_of_getElem? (i := 11) rfl)
theorem mw_12 : Cond.fieldLink RX1 21 "DeskMoves$Diary" "size" "I" ∈ gw := gl_0_in _ (List.mem_of_getElem? (i := 12) rfl)
theorem mw_13 : Cond.fieldLink RX10 38 "DeskMoves" "office" "LDeskMoves$Office;" ∈ gw := gl_0_in _ (List.mem_of_getElem? (i := 13) rfl)
theorem mw_14 : Cond.fieldLink RX10 160 "DeskMoves$Office" "desks" "I" ∈ gw := gl_0_in _ (List.mem_of_getElem? (i := 14) rfl)
theorem mw_15 : Cond.instanceMethod yX4_lengthBetween ∈ gw := gl_0_in _ (List.mem_of_getElem? (i := 15) rfl)
theorem mw_16 : Cond.selects RX4 yX4_lengthBetween yX4_lengthBetween ∈ gw := gl_0_in _ (List.mem_of_getElem? (i := 16) rfl)
theorem mw_17 : Cond.code yX4_lengthBetween cX4_lengthBetween 3 (some .int) ∈ gw := gl_0_in _ (List.mem_of_getElem? (i := 17) rfl)
theorem mw_18 : Cond.methodLink RX10 132 yX4_lengthBetween ∈ gw := gl_0_in _ (List.mem_of_getElem? (i := 18) rfl)
theorem mw_19 : Cond.methodLink RX10 136 yX4_hasClerk ∈ gw := gl_0_in _ (List.mem_of_getElem? (i := 19) rfl)
theorem mw_20 : Cond.fieldLink RX10 31 "DeskMoves" "holding" "I" ∈ gw := gl_0_in _ (List.mem_of_getElem? (i := 20) rfl)
theorem mw_21 : Cond.instanceMethod yX10_lawOf ∈ gw := gl_0_in _ (List.mem_of_getElem? (i := 21) rfl)
theorem mw_22 : Cond.selects RX10 yX10_lawOf yX10_lawOf ∈ gw := gl_0_in _ (List.mem_of_getElem? (i := 22) rfl)
theorem mw_23 : Cond.initialized RX10 ∈ gw := gl_0_in _ (List.mem_of_getElem? (i := 23) rfl)
theorem mw_24 : Cond.code yX10_lawOf cX10_lawOf 2 (some (.object "DeskMoves$Law")) ∈ gw := gl_0_in _ (List.mem_of_getElem? (i := 24) rfl)
theorem mw_25 : Cond.methodLink RX10 169 yX10_lawOf ∈ gw := gl_0_in _ (List.mem_of_getElem? (i := 25) rfl)
theorem mw_26 : Cond.instanceMethod yX4_hindrance ∈ gw := gl_0_in _ (List.mem_of_getElem? (i := 26) rfl)
theorem mw_27 : Cond.selects RX4 yX4_hindrance yX4_hindrance ∈ gw := gl_0_in _ (List.mem_of_getElem? (i := 27) rfl)
theorem mw_28 : Cond.code yX4_hindrance cX4_hindrance 5 (some .int) ∈ gw := gl_0_in _ (List.mem_of_getElem? (i := 28) rfl)
theorem mw_29 : Cond.methodLink RX10 173 yX4_hindrance ∈ gw := gl_0_in _ (List.mem_of_getElem? (i := 29) rfl)
theorem mw_30 : Cond.fieldLink RX10 58 "DeskMoves" "book" "LDeskMoves$Diary;" ∈ gw := gl_0_in _ (List.mem_of_getElem? (i := 30) rfl)
theorem mw_31 : Cond.fieldLink RX10 188 "DeskMoves$Diary" "size" "I" ∈ gw := gl_0_in _ (List.mem_of_getElem? (i := 31) rfl)
theorem mw_32 : Cond.instanceMethod yX1_moveAt ∈ gw := gl_0_in _ (List.mem_of_getElem? (i := 32) rfl)
theorem mw_33 : Cond.selects RX1 yX1_moveAt yX1_moveAt ∈ gw := gl_0_in _ (List.mem_of_getElem? (i := 33) rfl)
theorem mw_34 : Cond.initialized RX1 ∈ gw := gl_0_in _ (List.mem_of_getElem? (i := 34) rfl)
theorem mw_35 : Cond.code yX1_moveAt cX1_moveAt 2 (some .int) ∈ gw := gl_0_in _ (List.mem_of_getElem? (i := 35) rfl)
theorem mw_36 : Cond.methodLink RX10 195 yX1_moveAt ∈ gw := gl_0_in _ (List.mem_of_getElem? (i := 36) rfl)
theorem mw_37 : Cond.fieldLink RX10 48 "DeskMoves" "plan" "LDeskMoves$Plan;" ∈ gw := gl_0_in _ (List.mem_of_getElem? (i := 37) rfl)
theorem mw_38 : Cond.fieldLink RX10 198 "DeskMoves$Plan" "size" "I" ∈ gw := gl_0_in _ (List.mem_of_getElem? (i := 38) rfl)
theorem mw_39 : Cond.constant RX10 199 (-1000000) ∈ gw := gl_0_in _ (List.mem_of_getElem? (i := 39) rfl)
theorem mw_40 : Cond.methodLink RX10 122 yX4_hasDesk ∈ gw := gl_1_in _ (List.mem_of_getElem? (i := 0) rfl)
theorem mw_41 : Cond.instanceMethod yX10_isSearched ∈ gw := gl_1_in _ (List.mem_of_getElem? (i := 1) rfl)
theorem mw_42 : Cond.selects RX10 yX10_isSearched yX10_isSearched ∈ gw := gl_1_in _ (List.mem_of_getElem? (i := 2) rfl)
theorem mw_43 : Cond.code yX10_isSearched cX10_isSearched 1 (some .boolean) ∈ gw := gl_1_in _ (List.mem_of_getElem? (i := 3) rfl)
theorem mw_44 : Cond.methodLink RX10 223 yX10_isSearched ∈ gw := gl_1_in _ (List.mem_of_getElem? (i := 4) rfl)
theorem mw_45 : Cond.fieldLink RX10 65 "DeskMoves" "turns" "LDeskMoves$Turns;" ∈ gw := gl_1_in _ (List.mem_of_getElem? (i := 5) rfl)
theorem mw_46 : Cond.instanceMethod yX7_kindOf ∈ gw := gl_1_in _ (List.mem_of_getElem? (i := 6) rfl)
theorem mw_47 : Cond.selects RX7 yX7_kindOf yX7_kindOf ∈ gw := gl_1_in _ (List.mem_of_getElem? (i := 7) rfl)
theorem mw_48 : Cond.initialized RX7 ∈ gw := gl_1_in _ (List.mem_of_getElem? (i := 8) rfl)
theorem mw_49 : Cond.code yX7_kindOf cX7_kindOf 5 (some .int) ∈ gw := gl_1_in _ (List.mem_of_getElem? (i := 9) rfl)
theorem mw_50 : Cond.methodLink RX10 263 yX7_kindOf ∈ gw := gl_1_in _ (List.mem_of_getElem? (i := 10) rfl)
theorem mw_51 : Cond.fieldLink RX10 317 "DeskMoves$Diary" "kept" "Z" ∈ gw := gl_1_in _ (List.mem_of_getElem? (i := 11) rfl)
theorem mw_52 : Cond.fieldLink RX10 324 "DeskMoves$Office" "clerks" "I" ∈ gw := gl_1_in _ (List.mem_of_getElem? (i := 12) rfl)
theorem mw_53 : Cond.fieldLink RX10 163 "DeskMoves" "lawCount" "I" ∈ gw := gl_1_in _ (List.mem_of_getElem? (i := 13) rfl)
theorem mw_54 : Cond.fieldLink RX10 10 "DeskMoves" "tape" "LDeskMoves$Tape;" ∈ gw := gl_1_in _ (List.mem_of_getElem? (i := 14) rfl)
theorem mw_55 : Cond.fieldLink RX10 93 "DeskMoves$Tape" "length" "I" ∈ gw := gl_1_in _ (List.mem_of_getElem? (i := 15) rfl)
theorem mw_56 : Cond.fieldLink RX11 303 "DeskMovesModel" "desks" "I" ∈ gw := gl_1_in _ (List.mem_of_getElem? (i := 16) rfl)
theorem mw_57 : Cond.static yX11_in ∈ gw := gl_1_in _ (List.mem_of_getElem? (i := 17) rfl)
theorem mw_58 : Cond.initialized RX11 ∈ gw := gl_1_in _ (List.mem_of_getElem? (i := 18) rfl)
theorem mw_59 : Cond.code yX11_in cX11_in 3 (some .boolean) ∈ gw := gl_1_in _ (List.mem_of_getElem? (i := 19) rfl)
theorem mw_60 : Cond.methodLink RX11 274 yX11_in ∈ gw := gl_1_in _ (List.mem_of_getElem? (i := 20) rfl)
theorem mw_61 : Cond.instanceMethod yX11_isClerk ∈ gw := gl_1_in _ (List.mem_of_getElem? (i := 21) rfl)
theorem mw_62 : Cond.selects RX11 yX11_isClerk yX11_isClerk ∈ gw := gl_1_in _ (List.mem_of_getElem? (i := 22) rfl)
theorem mw_63 : Cond.code yX11_isClerk cX11_isClerk 2 (some .boolean) ∈ gw := gl_1_in _ (List.mem_of_getElem? (i := 23) rfl)
theorem mw_64 : Cond.methodLink RX11 328 yX11_isClerk ∈ gw := gl_1_in _ (List.mem_of_getElem? (i := 24) rfl)
theorem mw_65 : Cond.instanceMethod yX11_isDesk ∈ gw := gl_1_in _ (List.mem_of_getElem? (i := 25) rfl)
theorem mw_66 : Cond.selects RX11 yX11_isDesk yX11_isDesk ∈ gw := gl_1_in _ (List.mem_of_getElem? (i := 26) rfl)
theorem mw_67 : Cond.code yX11_isDesk cX11_isDesk 2 (some .boolean) ∈ gw := gl_1_in _ (List.mem_of_getElem? (i := 27) rfl)
theorem mw_68 : Cond.methodLink RX11 325 yX11_isDesk ∈ gw := gl_1_in _ (List.mem_of_getElem? (i := 28) rfl)
theorem mw_69 : Cond.fieldLink RX11 49 "DeskMovesModel" "seat" "[I" ∈ gw := gl_1_in _ (List.mem_of_getElem? (i := 29) rfl)
theorem mw_70 : Cond.instanceMethod yX11_bars ∈ gw := gl_1_in _ (List.mem_of_getElem? (i := 30) rfl)
theorem mw_71 : Cond.selects RX11 yX11_bars yX11_bars ∈ gw := gl_1_in _ (List.mem_of_getElem? (i := 31) rfl)
theorem mw_72 : Cond.code yX11_bars cX11_bars 5 (some .int) ∈ gw := gl_1_in _ (List.mem_of_getElem? (i := 32) rfl)
theorem mw_73 : Cond.methodLink RX11 346 yX11_bars ∈ gw := gl_1_in _ (List.mem_of_getElem? (i := 33) rfl)
theorem mw_74 : Cond.fieldLink RX11 309 "DeskMovesModel" "diaryMany" "I" ∈ gw := gl_1_in _ (List.mem_of_getElem? (i := 34) rfl)
theorem mw_75 : Cond.fieldLink RX11 64 "DeskMovesModel" "planMoves" "I" ∈ gw := gl_1_in _ (List.mem_of_getElem? (i := 35) rfl)
theorem mw_76 : Cond.constant RX11 356 (-1000000) ∈ gw := gl_1_in _ (List.mem_of_getElem? (i := 36) rfl)
theorem mw_77 : Cond.instanceMethod yX11_isSmall ∈ gw := gl_1_in _ (List.mem_of_getElem? (i := 37) rfl)
theorem mw_78 : Cond.selects RX11 yX11_isSmall yX11_isSmall ∈ gw := gl_1_in _ (List.mem_of_getElem? (i := 38) rfl)
theorem mw_79 : Cond.code yX11_isSmall cX11_isSmall 1 (some .boolean) ∈ gw := gl_1_in _ (List.mem_of_getElem? (i := 39) rfl)
theorem mw_80 : Cond.methodLink RX11 394 yX11_isSmall ∈ gw := gl_2_in _ (List.mem_of_getElem? (i := 0) rfl)
theorem mw_81 : Cond.fieldLink RX11 315 "DeskMovesModel" "hasImage" "Z" ∈ gw := gl_2_in _ (List.mem_of_getElem? (i := 1) rfl)
theorem mw_82 : Cond.fieldLink RX11 306 "DeskMovesModel" "clerks" "I" ∈ gw := gl_2_in _ (List.mem_of_getElem? (i := 2) rfl)
theorem mw_83 : Cond.fieldLink RX11 322 "DeskMovesModel" "laws" "I" ∈ gw := gl_2_in _ (List.mem_of_getElem? (i := 3) rfl)
theorem mw_84 : Cond.fieldLink RX11 160 "DeskMovesModel" "size" "I" ∈ gw := gl_2_in _ (List.mem_of_getElem? (i := 4) rfl)
theorem mw_85 : Cond.fieldLink RX11 74 "DeskMovesModel" "holding" "I" ∈ gw := gl_2_in _ (List.mem_of_getElem? (i := 5) rfl)
theorem mw_86 : Cond.fieldLink RX11 153 "DeskMovesModel" "thrown" "I" ∈ gw := gl_2_in _ (List.mem_of_getElem? (i := 6) rfl)
theorem mw_87 : Cond.fieldLink RX6 17 "DeskMoves$Tape" "at" "I" ∈ gw := gl_2_in _ (List.mem_of_getElem? (i := 7) rfl)
theorem mw_88 : Cond.fieldLink RX6 13 "DeskMoves$Tape" "length" "I" ∈ gw := gl_2_in _ (List.mem_of_getElem? (i := 8) rfl)
theorem mw_89 : Cond.instanceMethod yX6_look ∈ gw := gl_2_in _ (List.mem_of_getElem? (i := 9) rfl)
theorem mw_90 : Cond.selects RX6 yX6_look yX6_look ∈ gw := gl_2_in _ (List.mem_of_getElem? (i := 10) rfl)
theorem mw_91 : Cond.initialized RX6 ∈ gw := gl_2_in _ (List.mem_of_getElem? (i := 11) rfl)
theorem mw_92 : Cond.code yX6_look cX6_look 1 (some .int) ∈ gw := gl_2_in _ (List.mem_of_getElem? (i := 12) rfl)
theorem mw_93 : Cond.methodLink RX6 20 yX6_look ∈ gw := gl_2_in _ (List.mem_of_getElem? (i := 13) rfl)
theorem mw_94 : Cond.fieldLink RX3 15 "DeskMoves$LawReader" "tape" "LDeskMoves$Tape;" ∈ gw := gl_2_in _ (List.mem_of_getElem? (i := 14) rfl)
theorem mw_95 : Cond.instanceMethod yX6_takes ∈ gw := gl_2_in _ (List.mem_of_getElem? (i := 15) rfl)
theorem mw_96 : Cond.selects RX6 yX6_takes yX6_takes ∈ gw := gl_2_in _ (List.mem_of_getElem? (i := 16) rfl)
theorem mw_97 : Cond.code yX6_takes cX6_takes 2 (some .boolean) ∈ gw := gl_2_in _ (List.mem_of_getElem? (i := 17) rfl)
theorem mw_98 : Cond.methodLink RX3 38 yX6_takes ∈ gw := gl_2_in _ (List.mem_of_getElem? (i := 18) rfl)
theorem mw_99 : Cond.fieldLink RX3 19 "DeskMoves$Tape" "at" "I" ∈ gw := gl_2_in _ (List.mem_of_getElem? (i := 19) rfl)
theorem mw_100 : Cond.fieldLink RX3 23 "DeskMoves$LawReader" "size" "I" ∈ gw := gl_2_in _ (List.mem_of_getElem? (i := 20) rfl)
theorem mw_101 : Cond.fieldLink RX3 26 "DeskMoves$LawReader" "looksBeside" "Z" ∈ gw := gl_2_in _ (List.mem_of_getElem? (i := 21) rfl)
theorem mw_102 : Cond.instanceMethod yX3_readClause ∈ gw := gl_2_in _ (List.mem_of_getElem? (i := 22) rfl)
theorem mw_103 : Cond.selects RX3 yX3_readClause yX3_readClause ∈ gw := gl_2_in _ (List.mem_of_getElem? (i := 23) rfl)
theorem mw_104 : Cond.initialized RX3 ∈ gw := gl_2_in _ (List.mem_of_getElem? (i := 24) rfl)
theorem mw_105 : Cond.code yX3_readClause cX3_readClause 3 (some .boolean) ∈ gw := gl_2_in _ (List.mem_of_getElem? (i := 25) rfl)
theorem mw_106 : Cond.methodLink RX3 30 yX3_readClause ∈ gw := gl_2_in _ (List.mem_of_getElem? (i := 26) rfl)
theorem mw_107 : Cond.fieldLink RX5 18 "DeskMoves$Plan" "size" "I" ∈ gw := gl_2_in _ (List.mem_of_getElem? (i := 27) rfl)
theorem mw_108 : Cond.fieldLink RX5 22 "DeskMoves$Tape" "at" "I" ∈ gw := gl_2_in _ (List.mem_of_getElem? (i := 28) rfl)
theorem mw_109 : Cond.methodLink RX5 27 yX6_look ∈ gw := gl_2_in _ (List.mem_of_getElem? (i := 29) rfl)
theorem mw_110 : Cond.methodLink RX4 67 yX6_look ∈ gw := gl_2_in _ (List.mem_of_getElem? (i := 30) rfl)
theorem mw_111 : Cond.instanceMethod yX4_addDesk ∈ gw := gl_2_in _ (List.mem_of_getElem? (i := 31) rfl)
theorem mw_112 : Cond.selects RX4 yX4_addDesk yX4_addDesk ∈ gw := gl_2_in _ (List.mem_of_getElem? (i := 32) rfl)
theorem mw_113 : Cond.code yX4_addDesk cX4_addDesk 4 (some .boolean) ∈ gw := gl_2_in _ (List.mem_of_getElem? (i := 33) rfl)
theorem mw_114 : Cond.methodLink RX4 79 yX4_addDesk ∈ gw := gl_2_in _ (List.mem_of_getElem? (i := 34) rfl)
theorem mw_115 : Cond.fieldLink RX4 9 "DeskMoves$Office" "seat" "[I" ∈ gw := gl_2_in _ (List.mem_of_getElem? (i := 35) rfl)
theorem mw_116 : Cond.static yJ7_fill_53178 ∈ gw := gl_2_in _ (List.mem_of_getElem? (i := 36) rfl)
theorem mw_117 : Cond.initialized RJ7 ∈ gw := gl_2_in _ (List.mem_of_getElem? (i := 37) rfl)
theorem mw_118 : Cond.code yJ7_fill_53178 cJ7_fill_53178 4 none ∈ gw := gl_2_in _ (List.mem_of_getElem? (i := 38) rfl)
theorem mw_119 : Cond.methodLink RX4 46 yJ7_fill_53178 ∈ gw := gl_2_in _ (List.mem_of_getElem? (i := 39) rfl)
theorem mw_120 : Cond.fieldLink RX4 15 "DeskMoves$Office" "place" "[I" ∈ gw := gl_3_in _ (List.mem_of_getElem? (i := 0) rfl)
theorem mw_121 : Cond.fieldLink RX4 18 "DeskMoves$Office" "lengths" "[I" ∈ gw := gl_3_in _ (List.mem_of_getElem? (i := 1) rfl)
theorem mw_122 : Cond.fieldLink RX4 21 "DeskMoves$Office" "beside" "[I" ∈ gw := gl_3_in _ (List.mem_of_getElem? (i := 2) rfl)
theorem mw_123 : Cond.fieldLink RX4 24 "DeskMoves$Office" "foes" "[I" ∈ gw := gl_3_in _ (List.mem_of_getElem? (i := 3) rfl)
theorem mw_124 : Cond.fieldLink RX4 27 "DeskMoves$Office" "rank" "[I" ∈ gw := gl_3_in _ (List.mem_of_getElem? (i := 4) rfl)
theorem mw_125 : Cond.fieldLink RX4 30 "DeskMoves$Office" "papers" "[I" ∈ gw := gl_3_in _ (List.mem_of_getElem? (i := 5) rfl)
theorem mw_126 : Cond.fieldLink RX4 33 "DeskMoves$Office" "wishes" "[I" ∈ gw := gl_3_in _ (List.mem_of_getElem? (i := 6) rfl)
theorem mw_127 : Cond.fieldLink RX4 36 "DeskMoves$Office" "worths" "[I" ∈ gw := gl_3_in _ (List.mem_of_getElem? (i := 7) rfl)
theorem mw_128 : Cond.instanceMethod yX4_clear ∈ gw := gl_3_in _ (List.mem_of_getElem? (i := 8) rfl)
theorem mw_129 : Cond.selects RX4 yX4_clear yX4_clear ∈ gw := gl_3_in _ (List.mem_of_getElem? (i := 9) rfl)
theorem mw_130 : Cond.code yX4_clear cX4_clear 1 none ∈ gw := gl_3_in _ (List.mem_of_getElem? (i := 10) rfl)
theorem mw_131 : Cond.methodLink RX4 52 yX4_clear ∈ gw := gl_3_in _ (List.mem_of_getElem? (i := 11) rfl)
theorem mw_132 : Cond.fieldLink RX4 55 "DeskMoves$Tape" "at" "I" ∈ gw := gl_3_in _ (List.mem_of_getElem? (i := 12) rfl)
theorem mw_133 : Cond.instanceMethod yX4_readSeats ∈ gw := gl_3_in _ (List.mem_of_getElem? (i := 13) rfl)
theorem mw_134 : Cond.selects RX4 yX4_readSeats yX4_readSeats ∈ gw := gl_3_in _ (List.mem_of_getElem? (i := 14) rfl)
theorem mw_135 : Cond.code yX4_readSeats cX4_readSeats 4 (some .boolean) ∈ gw := gl_3_in _ (List.mem_of_getElem? (i := 15) rfl)
theorem mw_136 : Cond.methodLink RX4 60 yX4_readSeats ∈ gw := gl_3_in _ (List.mem_of_getElem? (i := 16) rfl)
set_option maxRecDepth 100000 in
theorem gw_good : gw.all goodWord = true := by decide +kernel
theorem tb_1 : ∀ w ∈ tables_1_1, w ∈ lw_tbl := fun w h => List.mem_append_right _ (show w ∈ tables_1 from by unfold tables_1; exact List.mem_append_left _ h)
theorem tb_2 : ∀ w ∈ tables_1_2, w ∈ lw_tbl := fun w h => List.mem_append_right _ (show w ∈ tables_1 from by unfold tables_1; exact List.mem_append_right _ (List.mem_append_left _ h))
theorem tb_3 : ∀ w ∈ tables_1_3, w ∈ lw_tbl := fun w h => List.mem_append_right _ (show w ∈ tables_1 from by unfold tables_1; exact List.mem_append_right _ (List.mem_append_right _ (List.mem_append_left _ h)))
theorem tb_4 : ∀ w ∈ tables_1_4, w ∈ lw_tbl := fun w h => List.mem_append_right _ (show w ∈ tables_1 from by unfold tables_1; exact List.mem_append_right _ (List.mem_append_right _ (List.mem_append_right _ (List.mem_append_left _ h))))
theorem tb_5 : ∀ w ∈ tables_1_5, w ∈ lw_tbl := fun w h => List.mem_append_right _ (show w ∈ tables_1 from by unfold tables_1; exact List.mem_append_right _ (List.mem_append_right _ (List.mem_append_right _ (List.mem_append_right _ (List.mem_append_left _ h)))))
theorem tb_6 : ∀ w ∈ tables_1_6, w ∈ lw_tbl := fun w h => List.mem_append_right _ (show w ∈ tables_1 from by unfold tables_1; exact List.mem_append_right _ (List.mem_append_right _ (List.mem_append_right _ (List.mem_append_right _ (List.mem_append_right _ (List.mem_append_left _ h))))))
theorem tb_7 : ∀ w ∈ tables_1_7, w ∈ lw_tbl := fun w h => List.mem_append_right _ (show w ∈ tables_1 from by unfold tables_1; exact List.mem_append_right _ (List.mem_append_right _ (List.mem_append_right _ (List.mem_append_right _ (List.mem_append_right _ (List.mem_append_right _ (List.mem_append_left _ h)))))))
theorem tb_8 : ∀ w ∈ tables_1_8, w ∈ lw_tbl := fun w h => List.mem_append_right _ (show w ∈ tables_1 from by unfold tables_1; exact List.mem_append_right _ (List.mem_append_right _ (List.mem_append_right _ (List.mem_append_right _ (List.mem_append_right _ (List.mem_append_right _ (List.mem_append_right _ (List.mem_append_left _ h))))))))
theorem tb_9 : ∀ w ∈ tables_1_9, w ∈ lw_tbl := fun w h => List.mem_append_right _ (show w ∈ tables_1 from by unfold tables_1; exact List.mem_append_right _ (List.mem_append_right _ (List.mem_append_right _ (List.mem_append_right _ (List.mem_append_right _ (List.mem_append_right _ (List.mem_append_right _ (List.mem_append_right _ (h)))))))))
theorem wl_0 : Cond.fieldLink RX4 39 "DeskMoves$Office" "desks" "I" ∈ lw_tbl := tb_1 _ (List.mem_of_getElem? (i := 83) rfl)
theorem wl_1 : Cond.fieldLink RX4 43 "DeskMoves$Office" "clerks" "I" ∈ lw_tbl := tb_1 _ (List.mem_of_getElem? (i := 87) rfl)
theorem wl_2 : Cond.instanceMethod yX4_hasDesk ∈ lw_tbl := tb_2 _ (List.mem_of_getElem? (i := 156) rfl)
theorem wl_3 : Cond.selects RX4 yX4_hasDesk yX4_hasDesk ∈ lw_tbl := tb_2 _ (List.mem_of_getElem? (i := 157) rfl)
theorem wl_4 : Cond.initialized RX4 ∈ lw_tbl := tb_1 _ (List.mem_of_getElem? (i := 4) rfl)
theorem wl_5 : Cond.code yX4_hasDesk cX4_hasDesk 2 (some .boolean) ∈ lw_tbl := tb_2 _ (List.mem_of_getElem? (i := 158) rfl)
theorem wl_6 : Cond.methodLink RX4 97 yX4_hasDesk ∈ lw_tbl := tb_2 _ (List.mem_of_getElem? (i := 155) rfl)
theorem wl_7 : Cond.instanceMethod yX4_hasClerk ∈ lw_tbl := tb_2 _ (List.mem_of_getElem? (i := 144) rfl)
theorem wl_8 : Cond.selects RX4 yX4_hasClerk yX4_hasClerk ∈ lw_tbl := tb_2 _ (List.mem_of_getElem? (i := 145) rfl)
theorem wl_9 : Cond.code yX4_hasClerk cX4_hasClerk 2 (some .boolean) ∈ lw_tbl := tb_2 _ (List.mem_of_getElem? (i := 146) rfl)
theorem wl_10 : Cond.methodLink RX4 88 yX4_hasClerk ∈ lw_tbl := tb_2 _ (List.mem_of_getElem? (i := 143) rfl)
theorem wl_11 : Cond.fieldLink RX7 21 "DeskMoves$Office" "desks" "I" ∈ lw_tbl := tb_1 _ (List.mem_of_getElem? (i := 82) rfl)
theorem wl_12 : Cond.fieldLink RX1 21 "DeskMoves$Diary" "size" "I" ∈ lw_tbl := tb_1 _ (List.mem_of_getElem? (i := 185) rfl)
theorem wl_13 : Cond.fieldLink RX10 38 "DeskMoves" "office" "LDeskMoves$Office;" ∈ lw_tbl := tb_2 _ (List.mem_of_getElem? (i := 41) rfl)
theorem wl_14 : Cond.fieldLink RX10 160 "DeskMoves$Office" "desks" "I" ∈ lw_tbl := tb_1 _ (List.mem_of_getElem? (i := 85) rfl)
theorem wl_15 : Cond.instanceMethod yX4_lengthBetween ∈ lw_tbl := tb_3 _ (List.mem_of_getElem? (i := 115) rfl)
theorem wl_16 : Cond.selects RX4 yX4_lengthBetween yX4_lengthBetween ∈ lw_tbl := tb_3 _ (List.mem_of_getElem? (i := 116) rfl)
theorem wl_17 : Cond.code yX4_lengthBetween cX4_lengthBetween 3 (some .int) ∈ lw_tbl := tb_3 _ (List.mem_of_getElem? (i := 117) rfl)
theorem wl_18 : Cond.methodLink RX10 132 yX4_lengthBetween ∈ lw_tbl := tb_3 _ (List.mem_of_getElem? (i := 114) rfl)
theorem wl_19 : Cond.methodLink RX10 136 yX4_hasClerk ∈ lw_tbl := tb_3 _ (List.mem_of_getElem? (i := 122) rfl)
theorem wl_20 : Cond.fieldLink RX10 31 "DeskMoves" "holding" "I" ∈ lw_tbl := tb_2 _ (List.mem_of_getElem? (i := 40) rfl)
theorem wl_21 : Cond.instanceMethod yX10_lawOf ∈ lw_tbl := tb_3 _ (List.mem_of_getElem? (i := 149) rfl)
theorem wl_22 : Cond.selects RX10 yX10_lawOf yX10_lawOf ∈ lw_tbl := List.mem_append_left _ (by decide +kernel)
theorem wl_23 : Cond.initialized RX10 ∈ lw_tbl := tb_1 _ (List.mem_of_getElem? (i := 1) rfl)
theorem wl_24 : Cond.code yX10_lawOf cX10_lawOf 2 (some (.object "DeskMoves$Law")) ∈ lw_tbl := tb_3 _ (List.mem_of_getElem? (i := 150) rfl)
theorem wl_25 : Cond.methodLink RX10 169 yX10_lawOf ∈ lw_tbl := tb_3 _ (List.mem_of_getElem? (i := 147) rfl)
theorem wl_26 : Cond.instanceMethod yX4_hindrance ∈ lw_tbl := tb_3 _ (List.mem_of_getElem? (i := 152) rfl)
theorem wl_27 : Cond.selects RX4 yX4_hindrance yX4_hindrance ∈ lw_tbl := tb_3 _ (List.mem_of_getElem? (i := 153) rfl)
theorem wl_28 : Cond.code yX4_hindrance cX4_hindrance 5 (some .int) ∈ lw_tbl := tb_3 _ (List.mem_of_getElem? (i := 154) rfl)
theorem wl_29 : Cond.methodLink RX10 173 yX4_hindrance ∈ lw_tbl := tb_3 _ (List.mem_of_getElem? (i := 151) rfl)
theorem wl_30 : Cond.fieldLink RX10 58 "DeskMoves" "book" "LDeskMoves$Diary;" ∈ lw_tbl := tb_2 _ (List.mem_of_getElem? (i := 45) rfl)
theorem wl_31 : Cond.fieldLink RX10 188 "DeskMoves$Diary" "size" "I" ∈ lw_tbl := tb_1 _ (List.mem_of_getElem? (i := 186) rfl)
theorem wl_32 : Cond.instanceMethod yX1_moveAt ∈ lw_tbl := tb_3 _ (List.mem_of_getElem? (i := 212) rfl)
theorem wl_33 : Cond.selects RX1 yX1_moveAt yX1_moveAt ∈ lw_tbl := tb_3 _ (List.mem_of_getElem? (i := 213) rfl)
theorem wl_34 : Cond.initialized RX1 ∈ lw_tbl := tb_1 _ (List.mem_of_getElem? (i := 6) rfl)
theorem wl_35 : Cond.code yX1_moveAt cX1_moveAt 2 (some .int) ∈ lw_tbl := tb_3 _ (List.mem_of_getElem? (i := 214) rfl)
theorem wl_36 : Cond.methodLink RX10 195 yX1_moveAt ∈ lw_tbl := tb_3 _ (List.mem_of_getElem? (i := 211) rfl)
theorem wl_37 : Cond.fieldLink RX10 48 "DeskMoves" "plan" "LDeskMoves$Plan;" ∈ lw_tbl := tb_2 _ (List.mem_of_getElem? (i := 43) rfl)
theorem wl_38 : Cond.fieldLink RX10 198 "DeskMoves$Plan" "size" "I" ∈ lw_tbl := tb_1 _ (List.mem_of_getElem? (i := 157) rfl)
theorem wl_39 : Cond.constant RX10 199 (-1000000) ∈ lw_tbl := tb_3 _ (List.mem_of_getElem? (i := 219) rfl)
theorem wl_40 : Cond.methodLink RX10 122 yX4_hasDesk ∈ lw_tbl := tb_4 _ (List.mem_of_getElem? (i := 6) rfl)
theorem wl_41 : Cond.instanceMethod yX10_isSearched ∈ lw_tbl := tb_4 _ (List.mem_of_getElem? (i := 25) rfl)
theorem wl_42 : Cond.selects RX10 yX10_isSearched yX10_isSearched ∈ lw_tbl := List.mem_append_left _ (by decide +kernel)
theorem wl_43 : Cond.code yX10_isSearched cX10_isSearched 1 (some .boolean) ∈ lw_tbl := tb_4 _ (List.mem_of_getElem? (i := 26) rfl)
theorem wl_44 : Cond.methodLink RX10 223 yX10_isSearched ∈ lw_tbl := tb_4 _ (List.mem_of_getElem? (i := 23) rfl)
theorem wl_45 : Cond.fieldLink RX10 65 "DeskMoves" "turns" "LDeskMoves$Turns;" ∈ lw_tbl := tb_2 _ (List.mem_of_getElem? (i := 46) rfl)
theorem wl_46 : Cond.instanceMethod yX7_kindOf ∈ lw_tbl := tb_5 _ (List.mem_of_getElem? (i := 21) rfl)
theorem wl_47 : Cond.selects RX7 yX7_kindOf yX7_kindOf ∈ lw_tbl := tb_5 _ (List.mem_of_getElem? (i := 22) rfl)
theorem wl_48 : Cond.initialized RX7 ∈ lw_tbl := tb_1 _ (List.mem_of_getElem? (i := 7) rfl)
theorem wl_49 : Cond.code yX7_kindOf cX7_kindOf 5 (some .int) ∈ lw_tbl := tb_5 _ (List.mem_of_getElem? (i := 23) rfl)
theorem wl_50 : Cond.methodLink RX10 263 yX7_kindOf ∈ lw_tbl := tb_5 _ (List.mem_of_getElem? (i := 20) rfl)
theorem wl_51 : Cond.fieldLink RX10 317 "DeskMoves$Diary" "kept" "Z" ∈ lw_tbl := tb_1 _ (List.mem_of_getElem? (i := 188) rfl)
theorem wl_52 : Cond.fieldLink RX10 324 "DeskMoves$Office" "clerks" "I" ∈ lw_tbl := tb_1 _ (List.mem_of_getElem? (i := 90) rfl)
theorem wl_53 : Cond.fieldLink RX10 163 "DeskMoves" "lawCount" "I" ∈ lw_tbl := tb_2 _ (List.mem_of_getElem? (i := 39) rfl)
theorem wl_54 : Cond.fieldLink RX10 10 "DeskMoves" "tape" "LDeskMoves$Tape;" ∈ lw_tbl := tb_2 _ (List.mem_of_getElem? (i := 36) rfl)
theorem wl_55 : Cond.fieldLink RX10 93 "DeskMoves$Tape" "length" "I" ∈ lw_tbl := tb_1 _ (List.mem_of_getElem? (i := 40) rfl)
theorem wl_56 : Cond.fieldLink RX11 303 "DeskMovesModel" "desks" "I" ∈ lw_tbl := tb_6 _ (List.mem_of_getElem? (i := 64) rfl)
theorem wl_57 : Cond.static yX11_in ∈ lw_tbl := tb_7 _ (List.mem_of_getElem? (i := 34) rfl)
theorem wl_58 : Cond.initialized RX11 ∈ lw_tbl := tb_1 _ (List.mem_of_getElem? (i := 10) rfl)
theorem wl_59 : Cond.code yX11_in cX11_in 3 (some .boolean) ∈ lw_tbl := tb_7 _ (List.mem_of_getElem? (i := 35) rfl)
theorem wl_60 : Cond.methodLink RX11 274 yX11_in ∈ lw_tbl := tb_7 _ (List.mem_of_getElem? (i := 33) rfl)
theorem wl_61 : Cond.instanceMethod yX11_isClerk ∈ lw_tbl := tb_7 _ (List.mem_of_getElem? (i := 154) rfl)
theorem wl_62 : Cond.selects RX11 yX11_isClerk yX11_isClerk ∈ lw_tbl := List.mem_append_left _ (by decide +kernel)
theorem wl_63 : Cond.code yX11_isClerk cX11_isClerk 2 (some .boolean) ∈ lw_tbl := tb_7 _ (List.mem_of_getElem? (i := 155) rfl)
theorem wl_64 : Cond.methodLink RX11 328 yX11_isClerk ∈ lw_tbl := tb_7 _ (List.mem_of_getElem? (i := 152) rfl)
theorem wl_65 : Cond.instanceMethod yX11_isDesk ∈ lw_tbl := tb_7 _ (List.mem_of_getElem? (i := 142) rfl)
theorem wl_66 : Cond.selects RX11 yX11_isDesk yX11_isDesk ∈ lw_tbl := List.mem_append_left _ (by decide +kernel)
theorem wl_67 : Cond.code yX11_isDesk cX11_isDesk 2 (some .boolean) ∈ lw_tbl := tb_7 _ (List.mem_of_getElem? (i := 143) rfl)
theorem wl_68 : Cond.methodLink RX11 325 yX11_isDesk ∈ lw_tbl := tb_7 _ (List.mem_of_getElem? (i := 140) rfl)
theorem wl_69 : Cond.fieldLink RX11 49 "DeskMovesModel" "seat" "[I" ∈ lw_tbl := tb_6 _ (List.mem_of_getElem? (i := 61) rfl)
theorem wl_70 : Cond.instanceMethod yX11_bars ∈ lw_tbl := tb_7 _ (List.mem_of_getElem? (i := 182) rfl)
theorem wl_71 : Cond.selects RX11 yX11_bars yX11_bars ∈ lw_tbl := List.mem_append_left _ (by decide +kernel)
theorem wl_72 : Cond.code yX11_bars cX11_bars 5 (some .int) ∈ lw_tbl := tb_7 _ (List.mem_of_getElem? (i := 183) rfl)
theorem wl_73 : Cond.methodLink RX11 346 yX11_bars ∈ lw_tbl := tb_7 _ (List.mem_of_getElem? (i := 180) rfl)
theorem wl_74 : Cond.fieldLink RX11 309 "DeskMovesModel" "diaryMany" "I" ∈ lw_tbl := tb_6 _ (List.mem_of_getElem? (i := 76) rfl)
theorem wl_75 : Cond.fieldLink RX11 64 "DeskMovesModel" "planMoves" "I" ∈ lw_tbl := tb_6 _ (List.mem_of_getElem? (i := 69) rfl)
theorem wl_76 : Cond.constant RX11 356 (-1000000) ∈ lw_tbl := tb_7 _ (List.mem_of_getElem? (i := 231) rfl)
theorem wl_77 : Cond.instanceMethod yX11_isSmall ∈ lw_tbl := tb_8 _ (List.mem_of_getElem? (i := 19) rfl)
theorem wl_78 : Cond.selects RX11 yX11_isSmall yX11_isSmall ∈ lw_tbl := List.mem_append_left _ (by decide +kernel)
theorem wl_79 : Cond.code yX11_isSmall cX11_isSmall 1 (some .boolean) ∈ lw_tbl := tb_8 _ (List.mem_of_getElem? (i := 20) rfl)
theorem wl_80 : Cond.methodLink RX11 394 yX11_isSmall ∈ lw_tbl := tb_8 _ (List.mem_of_getElem? (i := 17) rfl)
theorem wl_81 : Cond.fieldLink RX11 315 "DeskMovesModel" "hasImage" "Z" ∈ lw_tbl := tb_6 _ (List.mem_of_getElem? (i := 104) rfl)
theorem wl_82 : Cond.fieldLink RX11 306 "DeskMovesModel" "clerks" "I" ∈ lw_tbl := tb_6 _ (List.mem_of_getElem? (i := 65) rfl)
theorem wl_83 : Cond.fieldLink RX11 322 "DeskMovesModel" "laws" "I" ∈ lw_tbl := tb_6 _ (List.mem_of_getElem? (i := 52) rfl)
theorem wl_84 : Cond.fieldLink RX11 160 "DeskMovesModel" "size" "I" ∈ lw_tbl := tb_6 _ (List.mem_of_getElem? (i := 41) rfl)
theorem wl_85 : Cond.fieldLink RX11 74 "DeskMovesModel" "holding" "I" ∈ lw_tbl := tb_6 _ (List.mem_of_getElem? (i := 72) rfl)
theorem wl_86 : Cond.fieldLink RX11 153 "DeskMovesModel" "thrown" "I" ∈ lw_tbl := tb_6 _ (List.mem_of_getElem? (i := 39) rfl)
theorem wl_87 : Cond.fieldLink RX6 17 "DeskMoves$Tape" "at" "I" ∈ lw_tbl := tb_1 _ (List.mem_of_getElem? (i := 45) rfl)
theorem wl_88 : Cond.fieldLink RX6 13 "DeskMoves$Tape" "length" "I" ∈ lw_tbl := tb_1 _ (List.mem_of_getElem? (i := 41) rfl)
theorem wl_89 : Cond.instanceMethod yX6_look ∈ lw_tbl := tb_2 _ (List.mem_of_getElem? (i := 121) rfl)
theorem wl_90 : Cond.selects RX6 yX6_look yX6_look ∈ lw_tbl := tb_2 _ (List.mem_of_getElem? (i := 122) rfl)
theorem wl_91 : Cond.initialized RX6 ∈ lw_tbl := tb_1 _ (List.mem_of_getElem? (i := 2) rfl)
theorem wl_92 : Cond.code yX6_look cX6_look 1 (some .int) ∈ lw_tbl := tb_2 _ (List.mem_of_getElem? (i := 123) rfl)
theorem wl_93 : Cond.methodLink RX6 20 yX6_look ∈ lw_tbl := tb_2 _ (List.mem_of_getElem? (i := 138) rfl)
theorem wl_94 : Cond.fieldLink RX3 15 "DeskMoves$LawReader" "tape" "LDeskMoves$Tape;" ∈ lw_tbl := tb_1 _ (List.mem_of_getElem? (i := 61) rfl)
theorem wl_95 : Cond.instanceMethod yX6_takes ∈ lw_tbl := tb_2 _ (List.mem_of_getElem? (i := 135) rfl)
theorem wl_96 : Cond.selects RX6 yX6_takes yX6_takes ∈ lw_tbl := tb_2 _ (List.mem_of_getElem? (i := 136) rfl)
theorem wl_97 : Cond.code yX6_takes cX6_takes 2 (some .boolean) ∈ lw_tbl := tb_2 _ (List.mem_of_getElem? (i := 137) rfl)
theorem wl_98 : Cond.methodLink RX3 38 yX6_takes ∈ lw_tbl := tb_2 _ (List.mem_of_getElem? (i := 175) rfl)
theorem wl_99 : Cond.fieldLink RX3 19 "DeskMoves$Tape" "at" "I" ∈ lw_tbl := tb_1 _ (List.mem_of_getElem? (i := 42) rfl)
theorem wl_100 : Cond.fieldLink RX3 23 "DeskMoves$LawReader" "size" "I" ∈ lw_tbl := tb_1 _ (List.mem_of_getElem? (i := 63) rfl)
theorem wl_101 : Cond.fieldLink RX3 26 "DeskMoves$LawReader" "looksBeside" "Z" ∈ lw_tbl := tb_1 _ (List.mem_of_getElem? (i := 64) rfl)
theorem wl_102 : Cond.instanceMethod yX3_readClause ∈ lw_tbl := tb_2 _ (List.mem_of_getElem? (i := 173) rfl)
theorem wl_103 : Cond.selects RX3 yX3_readClause yX3_readClause ∈ lw_tbl := List.mem_append_left _ (by decide +kernel)
theorem wl_104 : Cond.initialized RX3 ∈ lw_tbl := tb_1 _ (List.mem_of_getElem? (i := 3) rfl)
theorem wl_105 : Cond.code yX3_readClause cX3_readClause 3 (some .boolean) ∈ lw_tbl := tb_2 _ (List.mem_of_getElem? (i := 174) rfl)
theorem wl_106 : Cond.methodLink RX3 30 yX3_readClause ∈ lw_tbl := tb_2 _ (List.mem_of_getElem? (i := 171) rfl)
theorem wl_107 : Cond.fieldLink RX5 18 "DeskMoves$Plan" "size" "I" ∈ lw_tbl := tb_1 _ (List.mem_of_getElem? (i := 156) rfl)
theorem wl_108 : Cond.fieldLink RX5 22 "DeskMoves$Tape" "at" "I" ∈ lw_tbl := tb_1 _ (List.mem_of_getElem? (i := 43) rfl)
theorem wl_109 : Cond.methodLink RX5 27 yX6_look ∈ lw_tbl := tb_3 _ (List.mem_of_getElem? (i := 32) rfl)
theorem wl_110 : Cond.methodLink RX4 67 yX6_look ∈ lw_tbl := tb_2 _ (List.mem_of_getElem? (i := 120) rfl)
theorem wl_111 : Cond.instanceMethod yX4_addDesk ∈ lw_tbl := tb_2 _ (List.mem_of_getElem? (i := 141) rfl)
theorem wl_112 : Cond.selects RX4 yX4_addDesk yX4_addDesk ∈ lw_tbl := List.mem_append_left _ (by decide +kernel)
theorem wl_113 : Cond.code yX4_addDesk cX4_addDesk 4 (some .boolean) ∈ lw_tbl := tb_2 _ (List.mem_of_getElem? (i := 142) rfl)
theorem wl_114 : Cond.methodLink RX4 79 yX4_addDesk ∈ lw_tbl := tb_2 _ (List.mem_of_getElem? (i := 139) rfl)
theorem wl_115 : Cond.fieldLink RX4 9 "DeskMoves$Office" "seat" "[I" ∈ lw_tbl := tb_1 _ (List.mem_of_getElem? (i := 91) rfl)
theorem wl_116 : Cond.static yJ7_fill_53178 ∈ lw_tbl := tb_2 _ (List.mem_of_getElem? (i := 34) rfl)
theorem wl_117 : Cond.initialized RJ7 ∈ lw_tbl := tb_1 _ (List.mem_of_getElem? (i := 9) rfl)
theorem wl_118 : Cond.code yJ7_fill_53178 cJ7_fill_53178 4 none ∈ lw_tbl := tb_2 _ (List.mem_of_getElem? (i := 35) rfl)
theorem wl_119 : Cond.methodLink RX4 46 yJ7_fill_53178 ∈ lw_tbl := tb_2 _ (List.mem_of_getElem? (i := 115) rfl)
theorem wl_120 : Cond.fieldLink RX4 15 "DeskMoves$Office" "place" "[I" ∈ lw_tbl := tb_1 _ (List.mem_of_getElem? (i := 98) rfl)
theorem wl_121 : Cond.fieldLink RX4 18 "DeskMoves$Office" "lengths" "[I" ∈ lw_tbl := tb_1 _ (List.mem_of_getElem? (i := 102) rfl)
theorem wl_122 : Cond.fieldLink RX4 21 "DeskMoves$Office" "beside" "[I" ∈ lw_tbl := tb_1 _ (List.mem_of_getElem? (i := 105) rfl)
theorem wl_123 : Cond.fieldLink RX4 24 "DeskMoves$Office" "foes" "[I" ∈ lw_tbl := tb_1 _ (List.mem_of_getElem? (i := 108) rfl)
theorem wl_124 : Cond.fieldLink RX4 27 "DeskMoves$Office" "rank" "[I" ∈ lw_tbl := tb_1 _ (List.mem_of_getElem? (i := 111) rfl)
theorem wl_125 : Cond.fieldLink RX4 30 "DeskMoves$Office" "papers" "[I" ∈ lw_tbl := tb_1 _ (List.mem_of_getElem? (i := 115) rfl)
theorem wl_126 : Cond.fieldLink RX4 33 "DeskMoves$Office" "wishes" "[I" ∈ lw_tbl := tb_1 _ (List.mem_of_getElem? (i := 119) rfl)
theorem wl_127 : Cond.fieldLink RX4 36 "DeskMoves$Office" "worths" "[I" ∈ lw_tbl := tb_1 _ (List.mem_of_getElem? (i := 123) rfl)
theorem wl_128 : Cond.instanceMethod yX4_clear ∈ lw_tbl := tb_2 _ (List.mem_of_getElem? (i := 112) rfl)
theorem wl_129 : Cond.selects RX4 yX4_clear yX4_clear ∈ lw_tbl := tb_2 _ (List.mem_of_getElem? (i := 113) rfl)
theorem wl_130 : Cond.code yX4_clear cX4_clear 1 none ∈ lw_tbl := tb_2 _ (List.mem_of_getElem? (i := 114) rfl)
theorem wl_131 : Cond.methodLink RX4 52 yX4_clear ∈ lw_tbl := tb_2 _ (List.mem_of_getElem? (i := 111) rfl)
theorem wl_132 : Cond.fieldLink RX4 55 "DeskMoves$Tape" "at" "I" ∈ lw_tbl := tb_1 _ (List.mem_of_getElem? (i := 44) rfl)
theorem wl_133 : Cond.instanceMethod yX4_readSeats ∈ lw_tbl := tb_2 _ (List.mem_of_getElem? (i := 118) rfl)
theorem wl_134 : Cond.selects RX4 yX4_readSeats yX4_readSeats ∈ lw_tbl := List.mem_append_left _ (by decide +kernel)
theorem wl_135 : Cond.code yX4_readSeats cX4_readSeats 4 (some .boolean) ∈ lw_tbl := tb_2 _ (List.mem_of_getElem? (i := 119) rfl)
theorem wl_136 : Cond.methodLink RX4 60 yX4_readSeats ∈ lw_tbl := tb_2 _ (List.mem_of_getElem? (i := 116) rfl)
theorem gl_0_tb : ∀ w ∈ gl_0, w ∈ lw_tbl := List.forall_mem_cons.mpr ⟨wl_0, List.forall_mem_cons.mpr ⟨wl_1, List.forall_mem_cons.mpr ⟨wl_2, List.forall_mem_cons.mpr ⟨wl_3, List.forall_mem_cons.mpr ⟨wl_4, List.forall_mem_cons.mpr ⟨wl_5, List.forall_mem_cons.mpr ⟨wl_6, List.forall_mem_cons.mpr ⟨wl_7, List.forall_mem_cons.mpr ⟨wl_8, List.forall_mem_cons.mpr ⟨wl_9, List.forall_mem_cons.mpr ⟨wl_10, List.forall_mem_cons.mpr ⟨wl_11, List.forall_mem_cons.mpr ⟨wl_12, List.forall_mem_cons.mpr ⟨wl_13, List.forall_mem_cons.mpr ⟨wl_14, List.forall_mem_cons.mpr ⟨wl_15, List.forall_mem_cons.mpr ⟨wl_16, List.forall_mem_cons.mpr ⟨wl_17, List.forall_mem_cons.mpr ⟨wl_18, List.forall_mem_cons.mpr ⟨wl_19, List.forall_mem_cons.mpr ⟨wl_20, List.forall_mem_cons.mpr ⟨wl_21, List.forall_mem_cons.mpr ⟨wl_22, List.forall_mem_cons.mpr ⟨wl_23, List.forall_mem_cons.mpr ⟨wl_24, List.forall_mem_cons.mpr ⟨wl_25, List.forall_mem_cons.mpr ⟨wl_26, List.forall_mem_cons.mpr ⟨wl_27, List.forall_mem_cons.mpr ⟨wl_28, List.forall_mem_cons.mpr ⟨wl_29, List.forall_mem_cons.mpr ⟨wl_30, List.forall_mem_cons.mpr ⟨wl_31, List.forall_mem_cons.mpr ⟨wl_32, List.forall_mem_cons.mpr ⟨wl_33, List.forall_mem_cons.mpr ⟨wl_34, List.forall_mem_cons.mpr ⟨wl_35, List.forall_mem_cons.mpr ⟨wl_36, List.forall_mem_cons.mpr ⟨wl_37, List.forall_mem_cons.mpr ⟨wl_38, List.forall_mem_cons.mpr ⟨wl_39, fun _ h => absurd h List.not_mem_nil⟩⟩⟩⟩⟩⟩⟩⟩⟩⟩⟩⟩⟩⟩⟩⟩⟩⟩⟩⟩⟩⟩⟩⟩⟩⟩⟩⟩⟩⟩⟩⟩⟩⟩⟩⟩⟩⟩⟩⟩
theorem gl_1_tb : ∀ w ∈ gl_1, w ∈ lw_tbl := List.forall_mem_cons.mpr ⟨wl_40, List.forall_mem_cons.mpr ⟨wl_41, List.forall_mem_cons.mpr ⟨wl_42, List.forall_mem_cons.mpr ⟨wl_43, List.forall_mem_cons.mpr ⟨wl_44, List.forall_mem_cons.mpr ⟨wl_45, List.forall_mem_cons.mpr ⟨wl_46, List.forall_mem_cons.mpr ⟨wl_47, List.forall_mem_cons.mpr ⟨wl_48, List.forall_mem_cons.mpr ⟨wl_49, List.forall_mem_cons.mpr ⟨wl_50, List.forall_mem_cons.mpr ⟨wl_51, List.forall_mem_cons.mpr ⟨wl_52, List.forall_mem_cons.mpr ⟨wl_53, List.forall_mem_cons.mpr ⟨wl_54, List.forall_mem_cons.mpr ⟨wl_55, List.forall_mem_cons.mpr ⟨wl_56, List.forall_mem_cons.mpr ⟨wl_57, List.forall_mem_cons.mpr ⟨wl_58, List.forall_mem_cons.mpr ⟨wl_59, List.forall_mem_cons.mpr ⟨wl_60, List.forall_mem_cons.mpr ⟨wl_61, List.forall_mem_cons.mpr ⟨wl_62, List.forall_mem_cons.mpr ⟨wl_63, List.forall_mem_cons.mpr ⟨wl_64, List.forall_mem_cons.mpr ⟨wl_65, List.forall_mem_cons.mpr ⟨wl_66, List.forall_mem_cons.mpr ⟨wl_67, List.forall_mem_cons.mpr ⟨wl_68, List.forall_mem_cons.mpr ⟨wl_69, List.forall_mem_cons.mpr ⟨wl_70, List.forall_mem_cons.mpr ⟨wl_71, List.forall_mem_cons.mpr ⟨wl_72, List.forall_mem_cons.mpr ⟨wl_73, List.forall_mem_cons.mpr ⟨wl_74, List.forall_mem_cons.mpr ⟨wl_75, List.forall_mem_cons.mpr ⟨wl_76, List.forall_mem_cons.mpr ⟨wl_77, List.forall_mem_cons.mpr ⟨wl_78, List.forall_mem_cons.mpr ⟨wl_79, fun _ h => absurd h List.not_mem_nil⟩⟩⟩⟩⟩⟩⟩⟩⟩⟩⟩⟩⟩⟩⟩⟩⟩⟩⟩⟩⟩⟩⟩⟩⟩⟩⟩⟩⟩⟩⟩⟩⟩⟩⟩⟩⟩⟩⟩⟩
theorem gl_2_tb : ∀ w ∈ gl_2, w ∈ lw_tbl := List.forall_mem_cons.mpr ⟨wl_80, List.forall_mem_cons.mpr ⟨wl_81, List.forall_mem_cons.mpr ⟨wl_82, List.forall_mem_cons.mpr ⟨wl_83, List.forall_mem_cons.mpr ⟨wl_84, List.forall_mem_cons.mpr ⟨wl_85, List.forall_mem_cons.mpr ⟨wl_86, List.forall_mem_cons.mpr ⟨wl_87, List.forall_mem_cons.mpr ⟨wl_88, List.forall_mem_cons.mpr ⟨wl_89, List.forall_mem_cons.mpr ⟨wl_90, List.forall_mem_cons.mpr ⟨wl_91, List.forall_mem_cons.mpr ⟨wl_92, List.forall_mem_cons.mpr ⟨wl_93, List.forall_mem_cons.mpr ⟨wl_94, List.forall_mem_cons.mpr ⟨wl_95, List.forall_mem_cons.mpr ⟨wl_96, List.forall_mem_cons.mpr ⟨wl_97, List.forall_mem_cons.mpr ⟨wl_98, List.forall_mem_cons.mpr ⟨wl_99, List.forall_mem_cons.mpr ⟨wl_100, List.forall_mem_cons.mpr ⟨wl_101, List.forall_mem_cons.mpr ⟨wl_102, List.forall_mem_cons.mpr ⟨wl_103, List.forall_mem_cons.mpr ⟨wl_104, List.forall_mem_cons.mpr ⟨wl_105, List.forall_mem_cons.mpr ⟨wl_106, List.forall_mem_cons.mpr ⟨wl_107, List.forall_mem_cons.mpr ⟨wl_108, List.forall_mem_cons.mpr ⟨wl_109, List.forall_mem_cons.mpr ⟨wl_110, List.forall_mem_cons.mpr ⟨wl_111, List.forall_mem_cons.mpr ⟨wl_112, List.forall_mem_cons.mpr ⟨wl_113, List.forall_mem_cons.mpr ⟨wl_114, List.forall_mem_cons.mpr ⟨wl_115, List.forall_mem_cons.mpr ⟨wl_116, List.forall_mem_cons.mpr ⟨wl_117, List.forall_mem_cons.mpr ⟨wl_118, List.forall_mem_cons.mpr ⟨wl_119, fun _ h => absurd h List.not_mem_nil⟩⟩⟩⟩⟩⟩⟩⟩⟩⟩⟩⟩⟩⟩⟩⟩⟩⟩⟩⟩⟩⟩⟩⟩⟩⟩⟩⟩⟩⟩⟩⟩⟩⟩⟩⟩⟩⟩⟩⟩
theorem gl_3_tb : ∀ w ∈ gl_3, w ∈ lw_tbl := List.forall_mem_cons.mpr ⟨wl_120, List.forall_mem_cons.mpr ⟨wl_121, List.forall_mem_cons.mpr ⟨wl_122, List.forall_mem_cons.mpr ⟨wl_123, List.forall_mem_cons.mpr ⟨wl_124, List.forall_mem_cons.mpr ⟨wl_125, List.forall_mem_cons.mpr ⟨wl_126, List.forall_mem_cons.mpr ⟨wl_127, List.forall_mem_cons.mpr ⟨wl_128, List.forall_mem_cons.mpr ⟨wl_129, List.forall_mem_cons.mpr ⟨wl_130, List.forall_mem_cons.mpr ⟨wl_131, List.forall_mem_cons.mpr ⟨wl_132, List.forall_mem_cons.mpr ⟨wl_133, List.forall_mem_cons.mpr ⟨wl_134, List.forall_mem_cons.mpr ⟨wl_135, List.forall_mem_cons.mpr ⟨wl_136, fun _ h => absurd h List.not_mem_nil⟩⟩⟩⟩⟩⟩⟩⟩⟩⟩⟩⟩⟩⟩⟩⟩⟩
set_option maxRecDepth 100000 in
theorem gf_X1 : u_ws RX1 TX1 6 = [311, 313, 315, 317, 319, 321].filterMap (fun i => lw_tbl[i]?) := by decide +kernel
set_option maxRecDepth 100000 in
theorem gf_X3 : u_ws RX3 TX3 4 = [184, 186, 188, 190].filterMap (fun i => lw_tbl[i]?) := by decide +kernel
set_option maxRecDepth 100000 in
theorem gf_X4 : u_ws RX4 TX4 11 = [245, 247, 249, 251, 253, 255, 257, 259, 261, 263, 265].filterMap (fun i => lw_tbl[i]?) := by decide +kernel
set_option maxRecDepth 100000 in
theorem gf_X5 : u_ws RX5 TX5 6 = [284, 286, 288, 290, 292, 294].filterMap (fun i => lw_tbl[i]?) := by decide +kernel
set_option maxRecDepth 100000 in
theorem gf_X6 : u_ws RX6 TX6 3 = [166, 168, 170].filterMap (fun i => lw_tbl[i]?) := by decide +kernel
set_option maxRecDepth 100000 in
theorem gf_X7 : u_ws RX7 TX7 3 = [333, 335, 337].filterMap (fun i => lw_tbl[i]?) := by decide +kernel
set_option maxRecDepth 100000 in
theorem gf_X10 : u_ws RX10 TX10 17 = [412, 414, 416, 418, 420, 422, 424, 426, 428, 430, 432, 434, 436, 438, 440, 442, 444].filterMap (fun i => lw_tbl[i]?) := by decide +kernel
set_option maxRecDepth 100000 in
theorem gf_X11 : u_ws RX11 TX11 66 = [1424, 1426, 1428, 1430, 1432, 1434, 1436, 1438, 1440, 1442, 1444, 1446, 1448, 1450, 1452, 1454, 1456, 1458, 1460, 1462, 1464, 1466, 1468, 1470, 1472, 1474, 1476, 1478, 1480, 1482, 1484, 1486, 1488, 1490, 1492, 1494, 1496, 1498, 1500, 1502, 1504, 1506, 1508, 1510, 1512, 1514, 1516, 1518, 1520, 1522, 1524, 1526, 1528, 1530, 1532, 1534, 1536, 1538, 1540, 1542, 1544, 1546, 1548, 1550, 1552, 1554].filterMap (fun i => lw_tbl[i]?) := by decide +kernel
theorem gf_tb {ws big : List Cond} {ps : List Nat} (h : ws = ps.filterMap (fun i => big[i]?)) : ∀ w ∈ ws, w ∈ big := fun w hw => by
  rw [h] at hw
  obtain ⟨i, -, hi⟩ := List.mem_filterMap.mp hw
  exact List.mem_of_getElem? hi
theorem gw_in : ∀ w ∈ gw, w ∈ lw_tbl := fun w h => by
  unfold gw at h
  exact (List.mem_append.mp h).elim (gl_0_tb w) (fun h => (List.mem_append.mp h).elim (gl_1_tb w) (fun h => (List.mem_append.mp h).elim (gl_2_tb w) (fun h => (List.mem_append.mp h).elim (gl_3_tb w) (fun h => (List.mem_append.mp h).elim (gf_tb gf_X1 w) (fun h => (List.mem_append.mp h).elim (gf_tb gf_X3 w) (fun h => (List.mem_append.mp h).elim (gf_tb gf_X4 w) (fun h => (List.mem_append.mp h).elim (gf_tb gf_X5 w) (fun h => (List.mem_append.mp h).elim (gf_tb gf_X6 w) (fun h => (List.mem_append.mp h).elim (gf_tb gf_X7 w) (fun h => (List.mem_append.mp h).elim (gf_tb gf_X10 w) (fun h => gf_tb gf_X11 w h)))))))))))
theorem gw_tl {c : Cond} {args : Array Value} {s : State} (h : ∀ w ∈ c :: gw, w.before args s = true) : ∀ w ∈ gw, w.before args s = true := fun w hw => h w (List.mem_cons_of_mem _ hw)
theorem gw_gd {w : Cond} (h : w ∈ gw) : GoodIn gw [w] := fun v hv => by
  rw [List.mem_singleton.mp hv]
  exact ⟨h, good_of_word (List.all_eq_true.mp gw_good w h)⟩
theorem gw_self : GoodIn gw gw := fun w h => ⟨h, good_of_word (List.all_eq_true.mp gw_good w h)⟩
theorem gw_c {c : Cond} (hc : c ∈ gw) : GoodIn gw (c :: gw) := fun w h => (List.mem_cons.mp h).elim (fun e => by rw [e]; exact gw_self c hc) (fun h => gw_self w h)
theorem gw_V {own C : String} {index : Nat} {y : MethodName} {c : Cond} (h1 : Cond.methodLink own index y ∈ gw) (h2 : Cond.instanceMethod y ∈ gw) (h3 : Cond.selects C y y ∈ gw) (h4 : Cond.initialized C ∈ gw) (hc : c ∈ gw) : GoodIn gw (wsV own index C y (c :: gw)) := by
  intro w h
  unfold wsV at h
  rcases List.mem_append.mp h with h | h
  · simp only [List.mem_cons, List.not_mem_nil, or_false] at h
    rcases h with rfl | rfl | rfl | rfl
    · exact gw_self _ h1
    · exact gw_self _ h2
    · exact gw_self _ h3
    · exact gw_self _ h4
  · exact gw_c hc w h
theorem cV {R : Room} {s : State} {args : Array Value} {own C : String} {index : Nat} {y : MethodName} {bytes : ByteArray} {maxL : Nat} {ret : Option FieldType} {rm : Room} {mc ms : Nat} (n : Nat) (ht : ∀ w ∈ gw, w.before args s = true) (hl : Cond.methodLink own index y ∈ gw)
    (hk : Cond.instanceMethod y ∈ gw ∧ Cond.selects C y y ∈ gw ∧ Cond.initialized C ∈ gw ∧ Cond.code y bytes maxL ret ∈ gw ∧ (y.cls = C ∧ y.cls ≠ "java/lang/invoke/MethodHandle" ∧ y.cls ≠ "java/lang/invoke/VarHandle" ∧ (parseMethodDescriptor y.desc).map (fun d => d.parameters.length) = some n)) (hrc : rm.cells = mc) (hrs : rm.slots = ms) (hR : rm.frames + 1 ≤ R.frames ∧ 8 + (maxL + 11) + rm.locals ≤ R.locals) :
    CallW R s args own C index y bytes maxL ret (Cond.code y bytes maxL ret :: gw) rm mc ms n :=
  cwV n ht (gw_V hl hk.1 hk.2.1 hk.2.2.1 hk.2.2.2.1) rfl hrc hrs hk.2.2.2.2 hR
theorem cS {R : Room} {s : State} {args : Array Value} {own : String} {index : Nat} {y : MethodName} {bytes : ByteArray} {maxL : Nat} {ret : Option FieldType} {rm : Room} {mc ms : Nat} (n : Nat) (ht : ∀ w ∈ gw, w.before args s = true) (hl : Cond.methodLink own index y ∈ gw)
    (hk : Cond.static y ∈ gw ∧ Cond.initialized y.cls ∈ gw ∧ Cond.code y bytes maxL ret ∈ gw ∧ (y.cls ≠ "java/lang/invoke/MethodHandle" ∧ y.cls ≠ "java/lang/invoke/VarHandle" ∧ (parseMethodDescriptor y.desc).map (fun d => d.parameters.length) = some n)) (hrc : rm.cells = mc) (hrs : rm.slots = ms) (hR : rm.frames + 1 ≤ R.frames ∧ 8 + (maxL + 11) + rm.locals ≤ R.locals) :
    CallB R s args own index y bytes maxL ret (Cond.code y bytes maxL ret :: gw) rm mc ms n ∧ (Cond.static y).before args s = true :=
  ⟨callB_of n ht (gw_c hk.2.2.1) rfl hrc hrs (ht _ hk.2.1) (ht _ hl) hk.2.2.2 hR, ht _ hk.1⟩
theorem cI {R : Room} {s : State} {args : Array Value} {own : String} {index : Nat} {y : MethodName} {bytes : ByteArray} {maxL : Nat} {rm : Room} {mc ms : Nat} (n : Nat) (ht : ∀ w ∈ gw, w.before args s = true) (hl : Cond.methodLink own index y ∈ gw)
    (hk : Cond.instanceMethod y ∈ gw ∧ Cond.initialized y.cls ∈ gw ∧ Cond.code y bytes maxL none ∈ gw ∧ y.name = "<init>" ∧ (y.cls ≠ "java/lang/invoke/MethodHandle" ∧ y.cls ≠ "java/lang/invoke/VarHandle" ∧ (parseMethodDescriptor y.desc).map (fun d => d.parameters.length) = some n)) (hrc : rm.cells = mc) (hrs : rm.slots = ms) (hR : rm.frames + 1 ≤ R.frames ∧ 8 + (maxL + 11) + rm.locals ≤ R.locals) :
    CallB R s args own index y bytes maxL none (Cond.code y bytes maxL none :: gw) rm mc ms n ∧ y.name = "<init>" ∧ (Cond.instanceMethod y).before args s = true :=
  cwI n ht (gw_c hk.2.2.1) rfl hrc hrs (ht _ hk.2.1) (ht _ hl) (ht _ hk.1) hk.2.2.2.1 hk.2.2.2.2 hR
/-! what a method needs of its world -/
def pr (D : va_G) (W : va_W) (ty : List (ClassId × FieldType)) (U : State) : Prop := va_P D vwCl W U.heap ∧ va_K D vwCl ty U
def pw (D : va_G) (A : Nat → Prop) (W : va_W) (ty : List (ClassId × FieldType)) (U : State) : Prop := va_P D vwCl W U.heap ∧ va_K D vwCl ty U ∧ va_D A W
theorem bl_r {av : List Value} {D : va_G} {W : va_W} {ty : List (ClassId × FieldType)} : FrameBlind (va_Pc av (pr D W ty)) := fun a U g mk q => ⟨q.1, q.2.1, va_K.moved (u := U) (U := U.calling g mk a) (Vm.Alike.refl U.vm) q.2.2⟩
theorem bl_w {av : List Value} {D : va_G} {A : Nat → Prop} {W : va_W} {ty : List (ClassId × FieldType)} : FrameBlind (va_Pc av (pw D A W ty)) := fun a U g mk q => ⟨q.1, q.2.1, va_K.moved (u := U) (U := U.calling g mk a) (Vm.Alike.refl U.vm) q.2.2.1, q.2.2.2⟩
theorem us_r {s : State} {H : Heap} {av : List Value} {D : va_G} {W : va_W} {ty : List (ClassId × FieldType)} (hP : va_P D vwCl W H) (hK : va_K D vwCl ty s) : ∀ U : State, U.heap = H → s.WarmedH U.vm → va_Pc av (pr D W ty) av.toArray U := fun U hU hW => ⟨rfl, by rw [hU]; exact hP, va_K.moved hW.alike hK⟩
theorem us_w {s : State} {H : Heap} {av : List Value} {D : va_G} {A : Nat → Prop} {W : va_W} {ty : List (ClassId × FieldType)} (hP : va_P D vwCl W H) (hK : va_K D vwCl ty s) (hD : va_D A W) : ∀ U : State, U.heap = H → s.WarmedH U.vm → va_Pc av (pw D A W ty) av.toArray U := fun U hU hW => ⟨rfl, by rw [hU]; exact hP, va_K.moved hW.alike hK, hD⟩
theorem ro_keep {D : va_G} {cl : List vw_C} {ws : va_W} {H H1 : Heap} (hP : va_P D cl ws H) (hk : ∀ q : Nat, q < H.size → ¬ (fun _ : Nat => False) q → H1[q]? = H[q]?) : va_P D cl ws H1 := hP.kept (fun k q h => hk q.1 (hP k q h).lt (fun h => h))
/-- an answer that is null -/
def va_QN (A : Nat → Prop) : Array Value → State → Outcome → State → Prop := fun _ st oc t => oc = .returned (some .null) ∧ va_F A st t
section KN
variable {p : Program} {l : Launch} {e : Env} {R : Room} {s : State} {m : MethodId} {args : Array Value} {below : List Frame} {meth : Method} {c : Code} {H : Heap} {locs : List Loc} {cells slots : Nat} {Q : State → Prop}
variable {pc : Nat} {ls : Array Slot} {rest st0 : List Value} {a : Array Value} {A0 A1 : Nat → Prop} {H0 : Heap} {mc ms : Nat} {free : Addr → Prop}
theorem lv_val {x y : Int32} (h : x = y) (k : W p l e R s m args below meth c H locs cells slots Q (F0 m pc ls (.int y :: rest))) : W p l e R s m args below meth c H locs cells slots Q (F0 m pc ls (.int x :: rest)) := by
  rw [h]
  exact k
theorem va_callN (hr : va_Run p l e R s m args below meth c H locs cells slots mc ms (F0 m pc ls st0) rest (va_QN A1 a) free) (hS : va_S A0 H0 H locs) (hA : ∀ q, q < H.size → A1 q → A0 q) (hf : ∀ q, free q → A0 q)
    (kk : ∀ (H1 : Heap) (locs1 : List Loc), (∀ q : Nat, q < H.size → ¬ A1 q → H1[q]? = H[q]?) → va_S A0 H0 H1 locs1 → W p l e R s m args below meth c H1 locs1 (cells + mc) (slots + ms) Q (F0 m (pc + 3) ls (.null :: rest))) : W p l e R s m args below meth c H locs cells slots Q (F0 m pc ls st0) := by
  intro T hT X
  obtain ⟨v, st₀, t, T', L, h0, X', hL, e1, e2, ⟨hv, hz, hk⟩, st⟩ := hr T hT X
  cases hv
  rw [h0] at hz hk
  obtain ⟨t2, a1, b1⟩ := kk T'.heap (locs ++ L) (fun q h1 h2 => by rw [e1]; exact hk q h1 h2)
    ⟨Nat.le_trans hS.1 (by rw [e1]; exact hz), fun q h1 h2 => by rw [e1, hk q (Nat.lt_of_lt_of_le h1 hS.1) (fun z => h2 (hA q (Nat.lt_of_lt_of_le h1 hS.1) z))]; exact hS.2.1 q h1 h2, fun q hq => by
      rcases List.mem_append.mp hq with h | h
      · exact hS.2.2 q h
      · exact hf _ (hL q h)⟩ T' rfl X'
  exact ⟨t2, st t2 a1, b1⟩
end KN

theorem kv_X4_hasDesk : Cond.instanceMethod yX4_hasDesk ∈ gw ∧ Cond.selects RX4 yX4_hasDesk yX4_hasDesk ∈ gw ∧ Cond.initialized RX4 ∈ gw ∧ Cond.code yX4_hasDesk cX4_hasDesk 2 (some .boolean) ∈ gw ∧ (yX4_hasDesk.cls = RX4 ∧ yX4_hasDesk.cls ≠ "java/lang/invoke/MethodHandle" ∧ yX4_hasDesk.cls ≠ "java/lang/invoke/VarHandle" ∧ (parseMethodDescriptor yX4_hasDesk.desc).map (fun d => d.parameters.length) = some 1) := ⟨mw_2, mw_3, mw_4, mw_5, by decide +kernel⟩
theorem kv_X4_hasClerk : Cond.instanceMethod yX4_hasClerk ∈ gw ∧ Cond.selects RX4 yX4_hasClerk yX4_hasClerk ∈ gw ∧ Cond.initialized RX4 ∈ gw ∧ Cond.code yX4_hasClerk cX4_hasClerk 2 (some .boolean) ∈ gw ∧ (yX4_hasClerk.cls = RX4 ∧ yX4_hasClerk.cls ≠ "java/lang/invoke/MethodHandle" ∧ yX4_hasClerk.cls ≠ "java/lang/invoke/VarHandle" ∧ (parseMethodDescriptor yX4_hasClerk.desc).map (fun d => d.parameters.length) = some 1) := ⟨mw_7, mw_8, mw_4, mw_9, by decide +kernel⟩
theorem kv_X4_lengthBetween : Cond.instanceMethod yX4_lengthBetween ∈ gw ∧ Cond.selects RX4 yX4_lengthBetween yX4_lengthBetween ∈ gw ∧ Cond.initialized RX4 ∈ gw ∧ Cond.code yX4_lengthBetween cX4_lengthBetween 3 (some .int) ∈ gw ∧ (yX4_lengthBetween.cls = RX4 ∧ yX4_lengthBetween.cls ≠ "java/lang/invoke/MethodHandle" ∧ yX4_lengthBetween.cls ≠ "java/lang/invoke/VarHandle" ∧ (parseMethodDescriptor yX4_lengthBetween.desc).map (fun d => d.parameters.length) = some 2) := ⟨mw_15, mw_16, mw_4, mw_17, by decide +kernel⟩
theorem kv_X10_lawOf : Cond.instanceMethod yX10_lawOf ∈ gw ∧ Cond.selects RX10 yX10_lawOf yX10_lawOf ∈ gw ∧ Cond.initialized RX10 ∈ gw ∧ Cond.code yX10_lawOf cX10_lawOf 2 (some (.object "DeskMoves$Law")) ∈ gw ∧ (yX10_lawOf.cls = RX10 ∧ yX10_lawOf.cls ≠ "java/lang/invoke/MethodHandle" ∧ yX10_lawOf.cls ≠ "java/lang/invoke/VarHandle" ∧ (parseMethodDescriptor yX10_lawOf.desc).map (fun d => d.parameters.length) = some 1) := ⟨mw_21, mw_22, mw_23, mw_24, by decide +kernel⟩
theorem kv_X4_hindrance : Cond.instanceMethod yX4_hindrance ∈ gw ∧ Cond.selects RX4 yX4_hindrance yX4_hindrance ∈ gw ∧ Cond.initialized RX4 ∈ gw ∧ Cond.code yX4_hindrance cX4_hindrance 5 (some .int) ∈ gw ∧ (yX4_hindrance.cls = RX4 ∧ yX4_hindrance.cls ≠ "java/lang/invoke/MethodHandle" ∧ yX4_hindrance.cls ≠ "java/lang/invoke/VarHandle" ∧ (parseMethodDescriptor yX4_hindrance.desc).map (fun d => d.parameters.length) = some 3) := ⟨mw_26, mw_27, mw_4, mw_28, by decide +kernel⟩
theorem kv_X1_moveAt : Cond.instanceMethod yX1_moveAt ∈ gw ∧ Cond.selects RX1 yX1_moveAt yX1_moveAt ∈ gw ∧ Cond.initialized RX1 ∈ gw ∧ Cond.code yX1_moveAt cX1_moveAt 2 (some .int) ∈ gw ∧ (yX1_moveAt.cls = RX1 ∧ yX1_moveAt.cls ≠ "java/lang/invoke/MethodHandle" ∧ yX1_moveAt.cls ≠ "java/lang/invoke/VarHandle" ∧ (parseMethodDescriptor yX1_moveAt.desc).map (fun d => d.parameters.length) = some 1) := ⟨mw_32, mw_33, mw_34, mw_35, by decide +kernel⟩
theorem kv_X10_isSearched : Cond.instanceMethod yX10_isSearched ∈ gw ∧ Cond.selects RX10 yX10_isSearched yX10_isSearched ∈ gw ∧ Cond.initialized RX10 ∈ gw ∧ Cond.code yX10_isSearched cX10_isSearched 1 (some .boolean) ∈ gw ∧ (yX10_isSearched.cls = RX10 ∧ yX10_isSearched.cls ≠ "java/lang/invoke/MethodHandle" ∧ yX10_isSearched.cls ≠ "java/lang/invoke/VarHandle" ∧ (parseMethodDescriptor yX10_isSearched.desc).map (fun d => d.parameters.length) = some 0) := ⟨mw_41, mw_42, mw_23, mw_43, by decide +kernel⟩
theorem kv_X7_kindOf : Cond.instanceMethod yX7_kindOf ∈ gw ∧ Cond.selects RX7 yX7_kindOf yX7_kindOf ∈ gw ∧ Cond.initialized RX7 ∈ gw ∧ Cond.code yX7_kindOf cX7_kindOf 5 (some .int) ∈ gw ∧ (yX7_kindOf.cls = RX7 ∧ yX7_kindOf.cls ≠ "java/lang/invoke/MethodHandle" ∧ yX7_kindOf.cls ≠ "java/lang/invoke/VarHandle" ∧ (parseMethodDescriptor yX7_kindOf.desc).map (fun d => d.parameters.length) = some 1) := ⟨mw_46, mw_47, mw_48, mw_49, by decide +kernel⟩
theorem kv_X11_in : Cond.static yX11_in ∈ gw ∧ Cond.initialized yX11_in.cls ∈ gw ∧ Cond.code yX11_in cX11_in 3 (some .boolean) ∈ gw ∧ (yX11_in.cls ≠ "java/lang/invoke/MethodHandle" ∧ yX11_in.cls ≠ "java/lang/invoke/VarHandle" ∧ (parseMethodDescriptor yX11_in.desc).map (fun d => d.parameters.length) = some 3) := ⟨mw_57, mw_58, mw_59, by decide +kernel⟩
theorem kv_X11_isClerk : Cond.instanceMethod yX11_isClerk ∈ gw ∧ Cond.selects RX11 yX11_isClerk yX11_isClerk ∈ gw ∧ Cond.initialized RX11 ∈ gw ∧ Cond.code yX11_isClerk cX11_isClerk 2 (some .boolean) ∈ gw ∧ (yX11_isClerk.cls = RX11 ∧ yX11_isClerk.cls ≠ "java/lang/invoke/MethodHandle" ∧ yX11_isClerk.cls ≠ "java/lang/invoke/VarHandle" ∧ (parseMethodDescriptor yX11_isClerk.desc).map (fun d => d.parameters.length) = some 1) := ⟨mw_61, mw_62, mw_58, mw_63, by decide +kernel⟩
theorem kv_X11_isDesk : Cond.instanceMethod yX11_isDesk ∈ gw ∧ Cond.selects RX11 yX11_isDesk yX11_isDesk ∈ gw ∧ Cond.initialized RX11 ∈ gw ∧ Cond.code yX11_isDesk cX11_isDesk 2 (some .boolean) ∈ gw ∧ (yX11_isDesk.cls = RX11 ∧ yX11_isDesk.cls ≠ "java/lang/invoke/MethodHandle" ∧ yX11_isDesk.cls ≠ "java/lang/invoke/VarHandle" ∧ (parseMethodDescriptor yX11_isDesk.desc).map (fun d => d.parameters.length) = some 1) := ⟨mw_65, mw_66, mw_58, mw_67, by decide +kernel⟩
theorem kv_X11_bars : Cond.instanceMethod yX11_bars ∈ gw ∧ Cond.selects RX11 yX11_bars yX11_bars ∈ gw ∧ Cond.initialized RX11 ∈ gw ∧ Cond.code yX11_bars cX11_bars 5 (some .int) ∈ gw ∧ (yX11_bars.cls = RX11 ∧ yX11_bars.cls ≠ "java/lang/invoke/MethodHandle" ∧ yX11_bars.cls ≠ "java/lang/invoke/VarHandle" ∧ (parseMethodDescriptor yX11_bars.desc).map (fun d => d.parameters.length) = some 3) := ⟨mw_70, mw_71, mw_58, mw_72, by decide +kernel⟩
theorem kv_X11_isSmall : Cond.instanceMethod yX11_isSmall ∈ gw ∧ Cond.selects RX11 yX11_isSmall yX11_isSmall ∈ gw ∧ Cond.initialized RX11 ∈ gw ∧ Cond.code yX11_isSmall cX11_isSmall 1 (some .boolean) ∈ gw ∧ (yX11_isSmall.cls = RX11 ∧ yX11_isSmall.cls ≠ "java/lang/invoke/MethodHandle" ∧ yX11_isSmall.cls ≠ "java/lang/invoke/VarHandle" ∧ (parseMethodDescriptor yX11_isSmall.desc).map (fun d => d.parameters.length) = some 0) := ⟨mw_77, mw_78, mw_58, mw_79, by decide +kernel⟩
theorem kv_X6_look : Cond.instanceMethod yX6_look ∈ gw ∧ Cond.selects RX6 yX6_look yX6_look ∈ gw ∧ Cond.initialized RX6 ∈ gw ∧ Cond.code yX6_look cX6_look 1 (some .int) ∈ gw ∧ (yX6_look.cls = RX6 ∧ yX6_look.cls ≠ "java/lang/invoke/MethodHandle" ∧ yX6_look.cls ≠ "java/lang/invoke/VarHandle" ∧ (parseMethodDescriptor yX6_look.desc).map (fun d => d.parameters.length) = some 0) := ⟨mw_89, mw_90, mw_91, mw_92, by decide +kernel⟩
theorem kv_X6_takes : Cond.instanceMethod yX6_takes ∈ gw ∧ Cond.selects RX6 yX6_takes yX6_takes ∈ gw ∧ Cond.initialized RX6 ∈ gw ∧ Cond.code yX6_takes cX6_takes 2 (some .boolean) ∈ gw ∧ (yX6_takes.cls = RX6 ∧ yX6_takes.cls ≠ "java/lang/invoke/MethodHandle" ∧ yX6_takes.cls ≠ "java/lang/invoke/VarHandle" ∧ (parseMethodDescriptor yX6_takes.desc).map (fun d => d.parameters.length) = some 1) := ⟨mw_95, mw_96, mw_91, mw_97, by decide +kernel⟩
theorem kv_X3_readClause : Cond.instanceMethod yX3_readClause ∈ gw ∧ Cond.selects RX3 yX3_readClause yX3_readClause ∈ gw ∧ Cond.initialized RX3 ∈ gw ∧ Cond.code yX3_readClause cX3_readClause 3 (some .boolean) ∈ gw ∧ (yX3_readClause.cls = RX3 ∧ yX3_readClause.cls ≠ "java/lang/invoke/MethodHandle" ∧ yX3_readClause.cls ≠ "java/lang/invoke/VarHandle" ∧ (parseMethodDescriptor yX3_readClause.desc).map (fun d => d.parameters.length) = some 0) := ⟨mw_102, mw_103, mw_104, mw_105, by decide +kernel⟩
theorem kv_X4_addDesk : Cond.instanceMethod yX4_addDesk ∈ gw ∧ Cond.selects RX4 yX4_addDesk yX4_addDesk ∈ gw ∧ Cond.initialized RX4 ∈ gw ∧ Cond.code yX4_addDesk cX4_addDesk 4 (some .boolean) ∈ gw ∧ (yX4_addDesk.cls = RX4 ∧ yX4_addDesk.cls ≠ "java/lang/invoke/MethodHandle" ∧ yX4_addDesk.cls ≠ "java/lang/invoke/VarHandle" ∧ (parseMethodDescriptor yX4_addDesk.desc).map (fun d => d.parameters.length) = some 1) := ⟨mw_111, mw_112, mw_4, mw_113, by decide +kernel⟩
theorem kv_J7_fill_53178 : Cond.static yJ7_fill_53178 ∈ gw ∧ Cond.initialized yJ7_fill_53178.cls ∈ gw ∧ Cond.code yJ7_fill_53178 cJ7_fill_53178 4 none ∈ gw ∧ (yJ7_fill_53178.cls ≠ "java/lang/invoke/MethodHandle" ∧ yJ7_fill_53178.cls ≠ "java/lang/invoke/VarHandle" ∧ (parseMethodDescriptor yJ7_fill_53178.desc).map (fun d => d.parameters.length) = some 2) := ⟨mw_116, mw_117, mw_118, by decide +kernel⟩
theorem kv_X4_clear : Cond.instanceMethod yX4_clear ∈ gw ∧ Cond.selects RX4 yX4_clear yX4_clear ∈ gw ∧ Cond.initialized RX4 ∈ gw ∧ Cond.code yX4_clear cX4_clear 1 none ∈ gw ∧ (yX4_clear.cls = RX4 ∧ yX4_clear.cls ≠ "java/lang/invoke/MethodHandle" ∧ yX4_clear.cls ≠ "java/lang/invoke/VarHandle" ∧ (parseMethodDescriptor yX4_clear.desc).map (fun d => d.parameters.length) = some 0) := ⟨mw_128, mw_129, mw_4, mw_130, by decide +kernel⟩
theorem kv_X4_readSeats : Cond.instanceMethod yX4_readSeats ∈ gw ∧ Cond.selects RX4 yX4_readSeats yX4_readSeats ∈ gw ∧ Cond.initialized RX4 ∈ gw ∧ Cond.code yX4_readSeats cX4_readSeats 4 (some .boolean) ∈ gw ∧ (yX4_readSeats.cls = RX4 ∧ yX4_readSeats.cls ≠ "java/lang/invoke/MethodHandle" ∧ yX4_readSeats.cls ≠ "java/lang/invoke/VarHandle" ∧ (parseMethodDescriptor yX4_readSeats.desc).map (fun d => d.parameters.length) = some 1) := ⟨mw_133, mw_134, mw_4, mw_135, by decide +kernel⟩
