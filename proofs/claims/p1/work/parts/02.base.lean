/-! numbers -/
theorem ar_lt {x y : Int32} : x < y ↔ x.toInt < y.toInt := Int32.lt_iff_toInt_lt
theorem ar_le {x y : Int32} : x ≤ y ↔ x.toInt ≤ y.toInt := Int32.le_iff_toInt_le
theorem ar_eq {x y : Int32} : x = y ↔ x.toInt = y.toInt := Int32.toInt_inj.symm
theorem ar_n0 : (0 : Int32).toInt = 0 := by decide
theorem ar_n1 : (1 : Int32).toInt = 1 := by decide
theorem ar_n2 : (2 : Int32).toInt = 2 := by decide
theorem ar_n3 : (3 : Int32).toInt = 3 := by decide
theorem ar_n4 : (4 : Int32).toInt = 4 := by decide
theorem ar_n5 : (5 : Int32).toInt = 5 := by decide
theorem ar_n6 : (6 : Int32).toInt = 6 := by decide
theorem ar_n7 : (7 : Int32).toInt = 7 := by decide
theorem ar_n8 : (8 : Int32).toInt = 8 := by decide
theorem ar_n9 : (9 : Int32).toInt = 9 := by decide
theorem ar_n11 : (11 : Int32).toInt = 11 := by decide
theorem ar_n12 : (12 : Int32).toInt = 12 := by decide
theorem ar_n60 : (60 : Int32).toInt = 60 := by decide
theorem ar_n99 : (99 : Int32).toInt = 99 := by decide
theorem ar_nm1 : (-1 : Int32).toInt = -1 := by decide
theorem ar_shr0 (x : Int32) : (0 : Int32) >>> x = 0 := by
  apply Int32.toBitVec_inj.mp
  simp [Int32.toBitVec_shiftRight]
theorem ar_and0 (x : Int32) : (0 : Int32) &&& x = 0 := by
  apply Int32.toBitVec_inj.mp
  simp
def md_in (x y z : Int32) : Int32 := if x < y then 0 else if z < x then 0 else 1
theorem md_in_e (x : Int32) : md_in x 0 (-1) = 0 := by
  unfold md_in
  by_cases h : x < 0
  · rw [if_pos h]
  · rw [if_neg h, if_pos (by simp only [ar_lt, ar_n0, ar_nm1] at h ⊢; omega)]
def sp_told (x : Int32) : Int32 := if x = 0 then 0 else if x = 1 then 0 else if x = 2 then 0 else if x = 3 then 0 else if x = 4 then -1 else if x = 5 then 0 else if x = 6 then -1 else -1000000
/-! the worlds of the class's object and of the model's -/
abbrev fx (a : Nat → Nat) (cA : Nat → ClassId) (f : Nat → Nat → Int32) (n : Int32) : va_W := [((a 0), .inr (10, [.ref (a 1), .ref (a 3), .ref (a 40), .int 0, .int (-1), .ref (a 4), .ref (a 5), .ref (a 6), .ref (a 7), .ref (a 8), .ref (a 9), .ref (a 10), .null, .null, .int 0, .int (-1), .ref (a 41)])), ((a 1), .inr (6, [.ref (a 2), .int n, .int 0])), ((a 2), .inl ((cA 2), 160, .inl (f 2))), ((a 3), .inr (3, [.ref (a 1), .ref (a 42), .int 0, .int 0])), ((a 4), .inr (4, [.int 0, .int 0, .ref (a 43), .ref (a 44), .ref (a 45), .ref (a 46), .ref (a 47), .ref (a 48), .ref (a 49), .ref (a 50), .ref (a 51)])), ((a 5), .inr (4, [.int 0, .int 0, .ref (a 11), .ref (a 12), .ref (a 13), .ref (a 14), .ref (a 15), .ref (a 16), .ref (a 17), .ref (a 18), .ref (a 19)])), ((a 6), .inr (5, [.ref (a 52), .int 0, .ref (a 53), .int 0, .int 0, .int 0])), ((a 7), .inr (5, [.ref (a 54), .int 0, .ref (a 55), .int 0, .int 0, .int 0])), ((a 8), .inr (1, [.ref (a 56), .int 0, .int 0, .ref (a 57), .int 0, .ref (a 58)])), ((a 9), .inr (7, [.ref (a 59), .ref (a 60), .ref (a 61)])), ((a 11), .inl ((cA 11), 12, .inl (f 11))), ((a 12), .inl ((cA 12), 12, .inl (f 12))), ((a 13), .inl ((cA 13), 144, .inl (f 13))), ((a 14), .inl ((cA 14), 12, .inl (f 14))), ((a 15), .inl ((cA 15), 12, .inl (f 15))), ((a 16), .inl ((cA 16), 12, .inl (f 16))), ((a 17), .inl ((cA 17), 12, .inl (f 17))), ((a 18), .inl ((cA 18), 12, .inl (f 18))), ((a 19), .inl ((cA 19), 144, .inl (f 19)))]
abbrev ft (cA : Nat → ClassId) : List (ClassId × FieldType) := [((cA 2), .int), ((cA 11), .int), ((cA 12), .int), ((cA 13), .int), ((cA 14), .int), ((cA 15), .int), ((cA 16), .int), ((cA 17), .int), ((cA 18), .int), ((cA 19), .int)]
abbrev mo (b : Nat → Nat) (th sz at_ wr dp tx rd rc rm : Int32) : List Value := [.int th, .ref (b 1), .int sz, .int at_, .int wr, .int dp, .ref (b 6), .ref (b 7), .ref (b 8), .ref (b 9), .ref (b 10), .ref (b 11), .ref (b 12), .int 0, .int tx, .ref (b 15), .ref (b 16), .ref (b 17), .ref (b 18), .ref (b 19), .int rd, .int rc, .ref (b 22), .ref (b 23), .ref (b 24), .int 0, .int 0, .ref (b 27), .int rm, .ref (b 29), .int (-1), .ref (b 31), .ref (b 32), .int (-1), .ref (b 34), .ref (b 35), .int 0, .int 0, .ref (b 38), .ref (b 39), .ref (b 40), .ref (b 41), .ref (b 42), .ref (b 43), .ref (b 44), .ref (b 45), .ref (b 46), .ref (b 47), .int 0, .int 0, .ref (b 50), .ref (b 51), .ref (b 52), .ref (b 53), .ref (b 54), .int (-1), .int 0, .ref (b 57), .ref (b 58), .ref (b 59), .ref (b 60), .ref (b 61), .ref (b 62), .int 0, .int 0, .int 0]
abbrev fm (b : Nat → Nat) (cB : Nat → ClassId) (f : Nat → Nat → Int32) (th sz at_ wr dp tx rd rc rm : Int32) : va_W := [((b 0), .inr (11, [.int th, .ref (b 1), .int sz, .int at_, .int wr, .int dp, .ref (b 6), .ref (b 7), .ref (b 8), .ref (b 9), .ref (b 10), .ref (b 11), .ref (b 12), .int 0, .int tx, .ref (b 15), .ref (b 16), .ref (b 17), .ref (b 18), .ref (b 19), .int rd, .int rc, .ref (b 22), .ref (b 23), .ref (b 24), .int 0, .int 0, .ref (b 27), .int rm, .ref (b 29), .int (-1), .ref (b 31), .ref (b 32), .int (-1), .ref (b 34), .ref (b 35), .int 0, .int 0, .ref (b 38), .ref (b 39), .ref (b 40), .ref (b 41), .ref (b 42), .ref (b 43), .ref (b 44), .ref (b 45), .ref (b 46), .ref (b 47), .int 0, .int 0, .ref (b 50), .ref (b 51), .ref (b 52), .ref (b 53), .ref (b 54), .int (-1), .int 0, .ref (b 57), .ref (b 58), .ref (b 59), .ref (b 60), .ref (b 61), .ref (b 62), .int 0, .int 0, .int 0])), ((b 1), .inl ((cB 1), 160, .inl (f 1))), ((b 8), .inl ((cB 8), 5, .inl (f 8))), ((b 9), .inl ((cB 9), 5, .inl (f 9))), ((b 19), .inl ((cB 19), 12, .inl (f 19)))]
abbrev fmt (cB : Nat → ClassId) : List (ClassId × FieldType) := [((cB 1), .int), ((cB 8), .int), ((cB 9), .int), ((cB 19), .int)]

def gl_0 : List Cond := [Cond.fieldLink RX4 39 "DeskMoves$Office" "desks" "I", Cond.fieldLink RX4 43 "DeskMoves$Office" "clerks" "I", Cond.instanceMethod yX4_hasDesk, Cond.selects RX4 yX4_hasDesk yX4_hasDesk, Cond.initialized RX4, Cond.code yX4_hasDesk cX4_hasDesk 2 (some .boolean), Cond.methodLink RX4 97 yX4_hasDesk, Cond.instanceMethod yX4_hasClerk, Cond.selects RX4 yX4_hasClerk yX4_hasClerk, Cond.code yX4_hasClerk cX4_hasClerk 2 (some .boolean), Cond.methodLink RX4 88 yX4_hasClerk, Cond.fieldLink RX7 21 "DeskMoves$Office" "desks" "I", Cond.fieldLink RX1 21 "DeskMoves$Diary" "size" "I", Cond.fieldLink RX10 38 "DeskMoves" "office" "LDeskMoves$Office;", Cond.fieldLink RX10 160 "DeskMoves$Office" "desks" "I", Cond.instanceMethod yX4_lengthBetween, Cond.selects RX4 yX4_lengthBetween yX4_lengthBetween, Cond.code yX4_lengthBetween cX4_lengthBetween 3 (some .int), Cond.methodLink RX10 132 yX4_lengthBetween, Cond.methodLink RX10 136 yX4_hasClerk, Cond.fieldLink RX10 31 "DeskMoves" "holding" "I", Cond.instanceMethod yX10_lawOf, Cond.selects RX10 yX10_lawOf yX10_lawOf, Cond.initialized RX10, Cond.code yX10_lawOf cX10_lawOf 2 (some (.object "DeskMoves$Law")), Cond.methodLink RX10 169 yX10_lawOf, Cond.instanceMethod yX4_hindrance, Cond.selects RX4 yX4_hindrance yX4_hindrance, Cond.code yX4_hindrance cX4_hindrance 5 (some .int), Cond.methodLink RX10 173 yX4_hindrance, Cond.fieldLink RX10 58 "DeskMoves" "book" "LDeskMoves$Diary;", Cond.fieldLink RX10 188 "DeskMoves$Diary" "size" "I", Cond.instanceMethod yX1_moveAt, Cond.selects RX1 yX1_moveAt yX1_moveAt, Cond.initialized RX1, Cond.code yX1_moveAt cX1_moveAt 2 (some .int), Cond.methodLink RX10 195 yX1_moveAt, Cond.fieldLink RX10 48 "DeskMoves" "plan" "LDeskMoves$Plan;", Cond.fieldLink RX10 198 "DeskMoves$Plan" "size" "I", Cond.constant RX10 199 (-1000000)]
def gl_1 : List Cond := [Cond.methodLink RX10 122 yX4_hasDesk, Cond.instanceMethod yX10_isSearched, Cond.selects RX10 yX10_isSearched yX10_isSearched, Cond.code yX10_isSearched cX10_isSearched 1 (some .boolean), Cond.methodLink RX10 223 yX10_isSearched, Cond.fieldLink RX10 65 "DeskMoves" "turns" "LDeskMoves$Turns;", Cond.instanceMethod yX7_kindOf, Cond.selects RX7 yX7_kindOf yX7_kindOf, Cond.initialized RX7, Cond.code yX7_kindOf cX7_kindOf 5 (some .int), Cond.methodLink RX10 263 yX7_kindOf, Cond.fieldLink RX10 317 "DeskMoves$Diary" "kept" "Z", Cond.fieldLink RX10 324 "DeskMoves$Office" "clerks" "I", Cond.fieldLink RX10 163 "DeskMoves" "lawCount" "I", Cond.fieldLink RX10 10 "DeskMoves" "tape" "LDeskMoves$Tape;", Cond.fieldLink RX10 93 "DeskMoves$Tape" "length" "I", Cond.fieldLink RX11 303 "DeskMovesModel" "desks" "I", Cond.static yX11_in, Cond.initialized RX11, Cond.code yX11_in cX11_in 3 (some .boolean), Cond.methodLink RX11 274 yX11_in, Cond.instanceMethod yX11_isClerk, Cond.selects RX11 yX11_isClerk yX11_isClerk, Cond.code yX11_isClerk cX11_isClerk 2 (some .boolean), Cond.methodLink RX11 328 yX11_isClerk, Cond.instanceMethod yX11_isDesk, Cond.selects RX11 yX11_isDesk yX11_isDesk, Cond.code yX11_isDesk cX11_isDesk 2 (some .boolean), Cond.methodLink RX11 325 yX11_isDesk, Cond.fieldLink RX11 49 "DeskMovesModel" "seat" "[I", Cond.instanceMethod yX11_bars, Cond.selects RX11 yX11_bars yX11_bars, Cond.code yX11_bars cX11_bars 5 (some .int), Cond.methodLink RX11 346 yX11_bars, Cond.fieldLink RX11 309 "DeskMovesModel" "diaryMany" "I", Cond.fieldLink RX11 64 "DeskMovesModel" "planMoves" "I", Cond.constant RX11 356 (-1000000), Cond.instanceMethod yX11_isSmall, Cond.selects RX11 yX11_isSmall yX11_isSmall, Cond.code yX11_isSmall cX11_isSmall 1 (some .boolean)]
def gl_2 : List Cond := [Cond.methodLink RX11 394 yX11_isSmall, Cond.fieldLink RX11 315 "DeskMovesModel" "hasImage" "Z", Cond.fieldLink RX11 306 "DeskMovesModel" "clerks" "I", Cond.fieldLink RX11 322 "DeskMovesModel" "laws" "I", Cond.fieldLink RX11 160 "DeskMovesModel" "size" "I", Cond.fieldLink RX11 74 "DeskMovesModel" "holding" "I", Cond.fieldLink RX11 153 "DeskMovesModel" "thrown" "I", Cond.fieldLink RX6 17 "DeskMoves$Tape" "at" "I", Cond.fieldLink RX6 13 "DeskMoves$Tape" "length" "I", Cond.instanceMethod yX6_look, Cond.selects RX6 yX6_look yX6_look, Cond.initialized RX6, Cond.code yX6_look cX6_look 1 (some .int), Cond.methodLink RX6 20 yX6_look, Cond.fieldLink RX3 15 "DeskMoves$LawReader" "tape" "LDeskMoves$Tape;", Cond.instanceMethod yX6_takes, Cond.selects RX6 yX6_takes yX6_takes, Cond.code yX6_takes cX6_takes 2 (some .boolean), Cond.methodLink RX3 38 yX6_takes, Cond.fieldLink RX3 19 "DeskMoves$Tape" "at" "I", Cond.fieldLink RX3 23 "DeskMoves$LawReader" "size" "I", Cond.fieldLink RX3 26 "DeskMoves$LawReader" "looksBeside" "Z", Cond.instanceMethod yX3_readClause, Cond.selects RX3 yX3_readClause yX3_readClause, Cond.initialized RX3, Cond.code yX3_readClause cX3_readClause 3 (some .boolean), Cond.methodLink RX3 30 yX3_readClause, Cond.fieldLink RX5 18 "DeskMoves$Plan" "size" "I", Cond.fieldLink RX5 22 "DeskMoves$Tape" "at" "I", Cond.methodLink RX5 27 yX6_look, Cond.methodLink RX4 67 yX6_look, Cond.instanceMethod yX4_addDesk, Cond.selects RX4 yX4_addDesk yX4_addDesk, Cond.code yX4_addDesk cX4_addDesk 4 (some .boolean), Cond.methodLink RX4 79 yX4_addDesk, Cond.fieldLink RX4 9 "DeskMoves$Office" "seat" "[I", Cond.static yJ7_fill_53178, Cond.initialized RJ7, Cond.code yJ7_fill_53178 cJ7_fill_53178 4 none, Cond.methodLink RX4 46 yJ7_fill_53178]
def gl_3 : List Cond := [Cond.fieldLink RX4 15 "DeskMoves$Office" "place" "[I", Cond.fieldLink RX4 18 "DeskMoves$Office" "lengths" "[I", Cond.fieldLink RX4 21 "DeskMoves$Office" "beside" "[I", Cond.fieldLink RX4 24 "DeskMoves$Office" "foes" "[I", Cond.fieldLink RX4 27 "DeskMoves$Office" "rank" "[I", Cond.fieldLink RX4 30 "DeskMoves$Office" "papers" "[I", Cond.fieldLink RX4 33 "DeskMoves$Office" "wishes" "[I", Cond.fieldLink RX4 36 "DeskMoves$Office" "worths" "[I", Cond.instanceMethod yX4_clear, Cond.selects RX4 yX4_clear yX4_clear, Cond.code yX4_clear cX4_clear 1 none, Cond.methodLink RX4 52 yX4_clear, Cond.fieldLink RX4 55 "DeskMoves$Tape" "at" "I", Cond.instanceMethod yX4_readSeats, Cond.selects RX4 yX4_readSeats yX4_readSeats, Cond.code yX4_readSeats cX4_readSeats 4 (some .boolean), Cond.methodLink RX4 60 yX4_readSeats, Cond.fieldLink RX10 42 "DeskMoves" "spareOffice" "LDeskMoves$Office;", Cond.instanceMethod yX4_isReadFrom, Cond.selects RX4 yX4_isReadFrom yX4_isReadFrom, Cond.code yX4_isReadFrom cX4_isReadFrom 2 (some .boolean), Cond.methodLink RX10 100 yX4_isReadFrom, Cond.fieldLink RX10 21 "DeskMoves" "lawReader" "LDeskMoves$LawReader;", Cond.instanceMethod yX3_isRead, Cond.selects RX3 yX3_isRead yX3_isRead, Cond.code yX3_isRead cX3_isRead 2 (some .boolean), Cond.methodLink RX10 104 yX3_isRead, Cond.instanceMethod yX10_takePlan, Cond.selects RX10 yX10_takePlan yX10_takePlan, Cond.code yX10_takePlan cX10_takePlan 2 (some .int), Cond.methodLink RX10 119 yX10_takePlan, Cond.instanceMethod yX10_takeLaw, Cond.selects RX10 yX10_takeLaw yX10_takeLaw, Cond.code yX10_takeLaw cX10_takeLaw 1 (some .int), Cond.methodLink RX10 116 yX10_takeLaw, Cond.instanceMethod yX10_takeOffice, Cond.selects RX10 yX10_takeOffice yX10_takeOffice, Cond.code yX10_takeOffice cX10_takeOffice 2 (some .int), Cond.methodLink RX10 112 yX10_takeOffice, Cond.fieldLink RX10 52 "DeskMoves" "sparePlan" "LDeskMoves$Plan;"]
def gl_4 : List Cond := [Cond.instanceMethod yX5_isReadFrom, Cond.selects RX5 yX5_isReadFrom yX5_isReadFrom, Cond.initialized RX5, Cond.code yX5_isReadFrom cX5_isReadFrom 5 (some .boolean), Cond.methodLink RX10 108 yX5_isReadFrom, Cond.fieldLink RX10 109 "DeskMoves$Tape" "at" "I", Cond.fieldLink RX6 9 "DeskMoves$Tape" "bytes" "[I", Cond.static yX6_signsIn, Cond.code yX6_signsIn cX6_signsIn 3 (some .int), Cond.methodLink RX10 89 yX6_signsIn, Cond.instanceMethod yX6_append, Cond.selects RX6 yX6_append yX6_append, Cond.code yX6_append cX6_append 4 none, Cond.methodLink RX10 96 yX6_append, Cond.fieldLink RX11 163 "DeskMovesModel" "at" "I", Cond.instanceMethod yX11_here, Cond.selects RX11 yX11_here yX11_here, Cond.code yX11_here cX11_here 1 (some .int), Cond.methodLink RX11 166 yX11_here, Cond.fieldLink RX11 170 "DeskMovesModel" "wrong" "I", Cond.fieldLink RX11 268 "DeskMovesModel" "readDesks" "I", Cond.fieldLink RX11 271 "DeskMovesModel" "readClerks" "I", Cond.instanceMethod yX11_look, Cond.selects RX11 yX11_look yX11_look, Cond.code yX11_look cX11_look 1 (some .int), Cond.methodLink RX11 182 yX11_look, Cond.instanceMethod yX11_bad, Cond.selects RX11 yX11_bad yX11_bad, Cond.code yX11_bad cX11_bad 1 none, Cond.methodLink RX11 179 yX11_bad, Cond.fieldLink RX11 173 "DeskMovesModel" "text" "I", Cond.fieldLink RX11 176 "DeskMovesModel" "deep" "I", Cond.fieldLink RX11 19 "DeskMovesModel" "codes" "[I", Cond.fieldLink RX11 22 "DeskMovesModel" "clauses" "[I", Cond.instanceMethod yX11_open, Cond.selects RX11 yX11_open yX11_open, Cond.code yX11_open cX11_open 2 none, Cond.methodLink RX11 234 yX11_open, Cond.instanceMethod yX11_clause, Cond.selects RX11 yX11_clause yX11_clause]
def gl_5 : List Cond := [Cond.code yX11_clause cX11_clause 3 none, Cond.methodLink RX11 237 yX11_clause, Cond.instanceMethod yX11_atEnd, Cond.selects RX11 yX11_atEnd yX11_atEnd, Cond.code yX11_atEnd cX11_atEnd 1 (some .int), Cond.methodLink RX11 240 yX11_atEnd, Cond.fieldLink RX11 46 "DeskMovesModel" "readQuarrel" "[I", Cond.instanceMethod yX11_seats, Cond.selects RX11 yX11_seats yX11_seats, Cond.code yX11_seats cX11_seats 3 none, Cond.methodLink RX11 282 yX11_seats, Cond.fieldLink RX11 291 "DeskMovesModel" "readMoves" "I", Cond.instanceMethod yX11_readPlan, Cond.selects RX11 yX11_readPlan yX11_readPlan, Cond.code yX11_readPlan cX11_readPlan 4 (some .int), Cond.methodLink RX11 300 yX11_readPlan, Cond.instanceMethod yX11_readLaw, Cond.selects RX11 yX11_readLaw yX11_readLaw, Cond.code yX11_readLaw cX11_readLaw 2 (some .int), Cond.methodLink RX11 297 yX11_readLaw, Cond.instanceMethod yX11_readOffice, Cond.selects RX11 yX11_readOffice yX11_readOffice, Cond.code yX11_readOffice cX11_readOffice 2 (some .int), Cond.methodLink RX11 294 yX11_readOffice, Cond.fieldLink RX11 9 "DeskMovesModel" "tape" "[I", Cond.static yX11_byteOf, Cond.code yX11_byteOf cX11_byteOf 7 (some .int), Cond.methodLink RX11 156 yX11_byteOf, Cond.methodLink RX6 1 objectInit, Cond.instanceMethod objectInit, Cond.code objectInit ⟨#[0xb1]⟩ 1 none, Cond.arrayClass .int, Cond.methodLink RX3 1 objectInit, Cond.fieldLink RX3 9 "DeskMoves$LawReader" "items" "[I", Cond.methodLink RX4 3 objectInit, Cond.methodLink RX5 3 objectInit, Cond.fieldLink RX5 11 "DeskMoves$Plan" "moves" "[I", Cond.fieldLink RX5 15 "DeskMoves$Plan" "before" "[I", Cond.methodLink RX1 3 objectInit, Cond.fieldLink RX1 11 "DeskMoves$Diary" "moves" "[I"]
def gl_6 : List Cond := [Cond.fieldLink RX1 15 "DeskMoves$Diary" "keptMoves" "[I", Cond.fieldLink RX1 18 "DeskMoves$Diary" "keptSeats" "[I", Cond.methodLink RX7 3 objectInit, Cond.fieldLink RX7 9 "DeskMoves$Turns" "round" "[I", Cond.fieldLink RX7 15 "DeskMoves$Turns" "now" "[I", Cond.fieldLink RX7 18 "DeskMoves$Turns" "then" "[I", Cond.methodLink RX9 3 objectInit, Cond.fieldLink RX9 9 "DeskMoves$Wealth" "sums" "[I", Cond.fieldLink RX9 15 "DeskMoves$Wealth" "told" "[I", Cond.fieldLink RX9 18 "DeskMoves$Wealth" "who" "[I", Cond.fieldLink RX9 21 "DeskMoves$Wealth" "bestDesk" "[I", Cond.fieldLink RX9 24 "DeskMoves$Wealth" "gain" "[I", Cond.fieldLink RX9 27 "DeskMoves$Wealth" "gainDesk" "[I", Cond.fieldLink RX9 30 "DeskMoves$Wealth" "got" "[I", Cond.fieldLink RX9 33 "DeskMoves$Wealth" "pointed" "[I", Cond.methodLink RX10 1 objectInit, Cond.classLink RX10 7 RX6, Cond.instantiable RX6 3, Cond.instanceMethod yX6_init, Cond.code yX6_init cX6_init 1 none, Cond.methodLink RX10 9 yX6_init, Cond.classLink RX10 16 RX3, Cond.instantiable RX3 4, Cond.instanceMethod yX3_init, Cond.code yX3_init cX3_init 2 none, Cond.methodLink RX10 18 yX3_init, Cond.classLink RX10 25 RX2, Cond.fieldLink RX10 27 "DeskMoves" "laws" "[LDeskMoves$Law;", Cond.classLink RX10 35 RX4, Cond.instantiable RX4 11, Cond.instanceMethod yX4_init, Cond.code yX4_init cX4_init 1 none, Cond.methodLink RX10 37 yX4_init, Cond.classLink RX10 45 RX5, Cond.instantiable RX5 6, Cond.instanceMethod yX5_init, Cond.code yX5_init cX5_init 1 none, Cond.methodLink RX10 47 yX5_init, Cond.classLink RX10 55 RX1, Cond.instantiable RX1 6]
def gl_7 : List Cond := [Cond.instanceMethod yX1_init, Cond.code yX1_init cX1_init 1 none, Cond.methodLink RX10 57 yX1_init, Cond.classLink RX10 62 RX7, Cond.instantiable RX7 3, Cond.instanceMethod yX7_init, Cond.code yX7_init cX7_init 1 none, Cond.methodLink RX10 64 yX7_init, Cond.classLink RX10 69 RX9, Cond.instantiable RX9 14, Cond.initialized RX9, Cond.instanceMethod yX9_init, Cond.code yX9_init cX9_init 1 none, Cond.methodLink RX10 71 yX9_init, Cond.fieldLink RX10 72 "DeskMoves" "wealth" "LDeskMoves$Wealth;", Cond.fieldLink RX10 76 "DeskMoves" "exploredLaw" "I", Cond.fieldLink RX10 79 "DeskMoves" "least" "[I", Cond.methodLink RX10 83 yJ7_fill_53178, Cond.methodLink RX11 3 objectInit, Cond.fieldLink RX11 13 "DeskMovesModel" "code" "[I", Cond.fieldLink RX11 16 "DeskMovesModel" "value" "[I", Cond.fieldLink RX11 25 "DeskMovesModel" "testFrom" "[I", Cond.fieldLink RX11 28 "DeskMovesModel" "sumFrom" "[I", Cond.fieldLink RX11 31 "DeskMovesModel" "sumTo" "[I", Cond.fieldLink RX11 34 "DeskMovesModel" "letters" "[I", Cond.fieldLink RX11 37 "DeskMovesModel" "stack" "[I", Cond.fieldLink RX11 40 "DeskMovesModel" "readSeat" "[I", Cond.fieldLink RX11 43 "DeskMovesModel" "readDoor" "[I", Cond.fieldLink RX11 52 "DeskMovesModel" "doors" "[I", Cond.fieldLink RX11 55 "DeskMovesModel" "quarrels" "[I", Cond.fieldLink RX11 58 "DeskMovesModel" "readMove" "[I", Cond.fieldLink RX11 61 "DeskMovesModel" "plan" "[I", Cond.fieldLink RX11 68 "DeskMovesModel" "ranks" "[I", Cond.fieldLink RX11 71 "DeskMovesModel" "papers" "[I", Cond.fieldLink RX11 77 "DeskMovesModel" "diaryMove" "[I", Cond.fieldLink RX11 80 "DeskMovesModel" "diaryWas" "[I", Cond.fieldLink RX11 83 "DeskMovesModel" "row" "[I", Cond.fieldLink RX11 86 "DeskMovesModel" "wished" "[I", Cond.constant RX11 89 (131072), Cond.fieldLink RX11 90 "DeskMovesModel" "keys" "[I"]
def gl_8 : List Cond := [Cond.fieldLink RX11 93 "DeskMovesModel" "marks" "[I", Cond.constant RX11 96 (40320), Cond.fieldLink RX11 97 "DeskMovesModel" "list" "[I", Cond.fieldLink RX11 100 "DeskMovesModel" "far" "[I", Cond.fieldLink RX11 103 "DeskMovesModel" "left" "[I", Cond.constant RX11 106 (40321), Cond.fieldLink RX11 107 "DeskMovesModel" "firstEdge" "[I", Cond.constant RX11 110 (300000), Cond.fieldLink RX11 111 "DeskMovesModel" "edgeTo" "[I", Cond.fieldLink RX11 114 "DeskMovesModel" "edgeMove" "[I", Cond.fieldLink RX11 117 "DeskMovesModel" "now" "[I", Cond.fieldLink RX11 120 "DeskMovesModel" "colour" "[I", Cond.fieldLink RX11 123 "DeskMovesModel" "ring" "[I", Cond.fieldLink RX11 126 "DeskMovesModel" "worths" "[I", Cond.fieldLink RX11 129 "DeskMovesModel" "onward" "[I", Cond.fieldLink RX11 132 "DeskMovesModel" "liar" "I", Cond.fieldLink RX11 135 "DeskMovesModel" "bestDesk" "[I", Cond.fieldLink RX11 138 "DeskMovesModel" "gets" "[I", Cond.fieldLink RX11 141 "DeskMovesModel" "points" "[I", Cond.fieldLink RX11 144 "DeskMovesModel" "image" "[I", Cond.fieldLink RX11 147 "DeskMovesModel" "imageMove" "[I", Cond.fieldLink RX11 150 "DeskMovesModel" "imageWas" "[I"]
abbrev gf : List Cond := wsX10 ++ (wsX30 ++ (wsX40 ++ (wsX50 ++ (wsX60 ++ (wsX70 ++ (wsX90 ++ (wsX100 ++ (wsX110))))))))
def gw : List Cond := gl_0 ++ (gl_1 ++ (gl_2 ++ (gl_3 ++ (gl_4 ++ (gl_5 ++ (gl_6 ++ (gl_7 ++ (gl_8 ++ (gf)))))))))
theorem gl_0_in : ∀ w ∈ gl_0, w ∈ gw := fun w h => by unfold gw; exact List.mem_append_left _ h
theorem gl_1_in : ∀ w ∈ gl_1, w ∈ gw := fun w h => by unfold gw; exact List.mem_append_right _ (List.mem_append_left _ h)
theorem gl_2_in : ∀ w ∈ gl_2, w ∈ gw := fun w h => by unfold gw; exact List.mem_append_right _ (List.mem_append_right _ (List.mem_append_left _ h))
theorem gl_3_in : ∀ w ∈ gl_3, w ∈ gw := fun w h => by unfold gw; exact List.mem_append_right _ (List.mem_append_right _ (List.mem_append_right _ (List.mem_append_left _ h)))
theorem gl_4_in : ∀ w ∈ gl_4, w ∈ gw := fun w h => by unfold gw; exact List.mem_append_right _ (List.mem_append_right _ (List.mem_append_right _ (List.mem_append_right _ (List.mem_append_left _ h))))
theorem gl_5_in : ∀ w ∈ gl_5, w ∈ gw := fun w h => by unfold gw; exact List.mem_append_right _ (List.mem_append_right _ (List.mem_append_right _ (List.mem_append_right _ (List.mem_append_right _ (List.mem_append_left _ h)))))
theorem gl_6_in : ∀ w ∈ gl_6, w ∈ gw := fun w h => by unfold gw; exact List.mem_append_right _ (List.mem_append_right _ (List.mem_append_right _ (List.mem_append_right _ (List.mem_append_right _ (List.mem_append_right _ (List.mem_append_left _ h))))))
theorem gl_7_in : ∀ w ∈ gl_7, w ∈ gw := fun w h => by unfold gw; exact List.mem_append_right _ (List.mem_append_right _ (List.mem_append_right _ (List.mem_append_right _ (List.mem_append_right _ (List.mem_append_right _ (List.mem_append_right _ (List.mem_append_left _ h)))))))
theorem gl_8_in : ∀ w ∈ gl_8, w ∈ gw := fun w h => by unfold gw; exact List.mem_append_right _ (List.mem_append_right _ (List.mem_append_right _ (List.mem_append_right _ (List.mem_append_right _ (List.mem_append_right _ (List.mem_append_right _ (List.mem_append_right _ (List.mem_append_left _ h))))))))
theorem gf_in : ∀ w ∈ gf, w ∈ gw := fun w h => by unfold gw; exact List.mem_append_right _ (List.mem_append_right _ (List.mem_append_right _ (List.mem_append_right _ (List.mem_append_right _ (List.mem_append_right _ (List.mem_append_right _ (List.mem_append_right _ (List.mem_append_right _ (h)))))))))
theorem in_X1 : ∀ w ∈ u_ws RX1 TX1 6, w ∈ gw := fun w h => gf_in w (List.mem_append_left _ h)
theorem in_X3 : ∀ w ∈ u_ws RX3 TX3 4, w ∈ gw := fun w h => gf_in w (List.mem_append_right _ (List.mem_append_left _ h))
theorem in_X4 : ∀ w ∈ u_ws RX4 TX4 11, w ∈ gw := fun w h => gf_in w (List.mem_append_right _ (List.mem_append_right _ (List.mem_append_left _ h)))
theorem in_X5 : ∀ w ∈ u_ws RX5 TX5 6, w ∈ gw := fun w h => gf_in w (List.mem_append_right _ (List.mem_append_right _ (List.mem_append_right _ (List.mem_append_left _ h))))
theorem in_X6 : ∀ w ∈ u_ws RX6 TX6 3, w ∈ gw := fun w h => gf_in w (List.mem_append_right _ (List.mem_append_right _ (List.mem_append_right _ (List.mem_append_right _ (List.mem_append_left _ h)))))
theorem in_X7 : ∀ w ∈ u_ws RX7 TX7 3, w ∈ gw := fun w h => gf_in w (List.mem_append_right _ (List.mem_append_right _ (List.mem_append_right _ (List.mem_append_right _ (List.mem_append_right _ (List.mem_append_left _ h))))))
theorem in_X9 : ∀ w ∈ u_ws RX9 TX9 14, w ∈ gw := fun w h => gf_in w (List.mem_append_right _ (List.mem_append_right _ (List.mem_append_right _ (List.mem_append_right _ (List.mem_append_right _ (List.mem_append_right _ (List.mem_append_left _ h)))))))
theorem in_X10 : ∀ w ∈ u_ws RX10 TX10 17, w ∈ gw := fun w h => gf_in w (List.mem_append_right _ (List.mem_append_right _ (List.mem_append_right _ (List.mem_append_right _ (List.mem_append_right _ (List.mem_append_right _ (List.mem_append_right _ (List.mem_append_left _ h))))))))
theorem in_X11 : ∀ w ∈ u_ws RX11 TX11 66, w ∈ gw := fun w h => gf_in w (List.mem_append_right _ (List.mem_append_right _ (List.mem_append_right _ (List.mem_append_right _ (List.mem_append_right _ (List.mem_append_right _ (List.mem_append_right _ (List.mem_append_right _ (h)))))))))
theorem mw_0 : Cond.fieldLink RX4 39 "DeskMoves$Office" "desks" "I" ∈ gw := gl_0_in _ (List.mem_of_getElem? (i := 0) rfl)
theorem mw_1 : Cond.fieldLink RX4 43 "DeskMoves$Office" "clerks" "I" ∈ gw := gl_0_in _ (List.mem_of_getElem? (i := 1) rfl)
theorem mw_2 : Cond.instanceMethod yX4_hasDesk ∈ gw := gl_0_in _ (List.mem_of_getElem? (i := 2) rfl)
theorem mw_3 : Cond.selects RX4 yX4_hasDesk yX4_hasDesk ∈ gw := gl_0_in _ (List.mem_of_getElem? (i := 3) rfl)
theorem mw_4 : Cond.initialized RX4 ∈ gw := gl_0_in _ (List.mem_of_getElem? (i := 4) rfl)
theorem mw_5 : Cond.code yX4_hasDesk cX4_hasDesk 2 (some .boolean) ∈ gw := gl_0_in _ (List.mem_of_getElem? (i := 5) rfl)
theorem mw_6 : Cond.methodLink RX4 97 yX4_hasDesk ∈ gw := gl_0_in _ (List.mem_of_getElem? (i := 6) rfl)
theorem mw_7 : Cond.instanceMethod yX4_hasClerk ∈ gw := gl_0_in _ (List.mem_of_getElem? (i := 7) rfl)
theorem mw_8 : Cond.selects RX4 yX4_hasClerk yX4_hasClerk ∈ gw := gl_0_in _ (List.mem_of_getElem? (i := 8) rfl)
theorem mw_9 : Cond.code yX4_hasClerk cX4_hasClerk 2 (some .boolean) ∈ gw := gl_0_in _ (List.mem_of_getElem? (i := 9) rfl)
theorem mw_10 : Cond.methodLink RX4 88 yX4_hasClerk ∈ gw := gl_0_in _ (List.mem_of_getElem? (i := 10) rfl)
theorem mw_11 : Cond.fieldLink RX7 21 "DeskMoves$Office" "desks" "I" ∈ gw := gl_0_in _ (List.mem_of_getElem? (i := 11) rfl)
theorem mw_12 : Cond.fieldLink RX1 21 "DeskMoves$Diary" "size" "I" ∈ gw := gl_0_in _ (List.mem_of_getElem? (i := 12) rfl)
theorem mw_13 : Cond.fieldLink RX10 38 "DeskMoves" "office" "LDeskMoves$Office;" ∈ gw := gl_0_in _ (List.mem_of_getElem? (i := 13) rfl)
theorem mw_14 : Cond.fieldLink RX10 160 "DeskMoves$Office" "desks" "I" ∈ gw := gl_0_in _ (List.mem_of_getElem? (i := 14) rfl)
theorem mw_15 : Cond.instanceMethod yX4_lengthBetween ∈ gw := gl_0_in _ (List.mem_of_getElem? (i := 15) rfl)
theorem mw_16 : Cond.selects RX4 yX4_lengthBetween yX4_lengthBetween ∈ gw := gl_0_in _ (List.mem_of_getElem? (i := 16) rfl)
theorem mw_17 : Cond.code yX4_lengthBetween cX4_lengthBetween 3 (some .int) ∈ gw := gl_0_in _ (List.mem_of_getElem? (i := 17) rfl)
theorem mw_18 : Cond.methodLink RX10 132 yX4_lengthBetween ∈ gw := gl_0_in _ (List.mem_of_getElem? (i := 18) rfl)
theorem mw_19 : Cond.methodLink RX10 136 yX4_hasClerk ∈ gw := gl_0_in _ (List.mem_of_getElem? (i := 19) rfl)
theorem mw_20 : Cond.fieldLink RX10 31 "DeskMoves" "holding" "I" ∈ gw := gl_0_in _ (List.mem_of_getElem? (i := 20) rfl)
theorem mw_21 : Cond.instanceMethod yX10_lawOf ∈ gw := gl_0_in _ (List.mem_of_getElem? (i := 21) rfl)
theorem mw_22 : Cond.selects RX10 yX10_lawOf yX10_lawOf ∈ gw := gl_0_in _ (List.mem_of_getElem? (i := 22) rfl)
theorem mw_23 : Cond.initialized RX10 ∈ gw := gl_0_in _ (List.mem_of_getElem? (i := 23) rfl)
theorem mw_24 : Cond.code yX10_lawOf cX10_lawOf 2 (some (.object "DeskMoves$Law")) ∈ gw := gl_0_in _ (List.mem_of_getElem? (i := 24) rfl)
theorem mw_25 : Cond.methodLink RX10 169 yX10_lawOf ∈ gw := gl_0_in _ (List.mem_of_getElem? (i := 25) rfl)
theorem mw_26 : Cond.instanceMethod yX4_hindrance ∈ gw := gl_0_in _ (List.mem_of_getElem? (i := 26) rfl)
theorem mw_27 : Cond.selects RX4 yX4_hindrance yX4_hindrance ∈ gw := gl_0_in _ (List.mem_of_getElem? (i := 27) rfl)
theorem mw_28 : Cond.code yX4_hindrance cX4_hindrance 5 (some .int) ∈ gw := gl_0_in _ (List.mem_of_getElem? (i := 28) rfl)
theorem mw_29 : Cond.methodLink RX10 173 yX4_hindrance ∈ gw := gl_0_in _ (List.mem_of_getElem? (i := 29) rfl)
theorem mw_30 : Cond.fieldLink RX10 58 "DeskMoves" "book" "LDeskMoves$Diary;" ∈ gw := gl_0_in _ (List.mem_of_getElem? (i := 30) rfl)
theorem mw_31 : Cond.fieldLink RX10 188 "DeskMoves$Diary" "size" "I" ∈ gw := gl_0_in _ (List.mem_of_getElem? (i := 31) rfl)
theorem mw_32 : Cond.instanceMethod yX1_moveAt ∈ gw := gl_0_in _ (List.mem_of_getElem? (i := 32) rfl)
theorem mw_33 : Cond.selects RX1 yX1_moveAt yX1_moveAt ∈ gw := gl_0_in _ (List.mem_of_getElem? (i := 33) rfl)
theorem mw_34 : Cond.initialized RX1 ∈ gw := gl_0_in _ (List.mem_of_getElem? (i := 34) rfl)
theorem mw_35 : Cond.code yX1_moveAt cX1_moveAt 2 (some .int) ∈ gw := gl_0_in _ (List.mem_of_getElem? (i := 35) rfl)
theorem mw_36 : Cond.methodLink RX10 195 yX1_moveAt ∈ gw := gl_0_in _ (List.mem_of_getElem? (i := 36) rfl)
theorem mw_37 : Cond.fieldLink RX10 48 "DeskMoves" "plan" "LDeskMoves$Plan;" ∈ gw := gl_0_in _ (List.mem_of_getElem? (i := 37) rfl)
theorem mw_38 : Cond.fieldLink RX10 198 "DeskMoves$Plan" "size" "I" ∈ gw := gl_0_in _ (List.mem_of_getElem? (i := 38) rfl)
theorem mw_39 : Cond.constant RX10 199 (-1000000) ∈ gw := gl_0_in _ (List.mem_of_getElem? (i := 39) rfl)
theorem mw_40 : Cond.methodLink RX10 122 yX4_hasDesk ∈ gw := gl_1_in _ (List.mem_of_getElem? (i := 0) rfl)
theorem mw_41 : Cond.instanceMethod yX10_isSearched ∈ gw := gl_1_in _ (List.mem_of_getElem? (i := 1) rfl)
theorem mw_42 : Cond.selects RX10 yX10_isSearched yX10_isSearched ∈ gw := gl_1_in _ (List.mem_of_getElem? (i := 2) rfl)
theorem mw_43 : Cond.code yX10_isSearched cX10_isSearched 1 (some .boolean) ∈ gw := gl_1_in _ (List.mem_of_getElem? (i := 3) rfl)
theorem mw_44 : Cond.methodLink RX10 223 yX10_isSearched ∈ gw := gl_1_in _ (List.mem_of_getElem? (i := 4) rfl)
theorem mw_45 : Cond.fieldLink RX10 65 "DeskMoves" "turns" "LDeskMoves$Turns;" ∈ gw := gl_1_in _ (List.mem_of_getElem? (i := 5) rfl)
theorem mw_46 : Cond.instanceMethod yX7_kindOf ∈ gw := gl_1_in _ (List.mem_of_getElem? (i := 6) rfl)
theorem mw_47 : Cond.selects RX7 yX7_kindOf yX7_kindOf ∈ gw := gl_1_in _ (List.mem_of_getElem? (i := 7) rfl)
theorem mw_48 : Cond.initialized RX7 ∈ gw := gl_1_in _ (List.mem_of_getElem? (i := 8) rfl)
theorem mw_49 : Cond.code yX7_kindOf cX7_kindOf 5 (some .int) ∈ gw := gl_1_in _ (List.mem_of_getElem? (i := 9) rfl)
theorem mw_50 : Cond.methodLink RX10 263 yX7_kindOf ∈ gw := gl_1_in _ (List.mem_of_getElem? (i := 10) rfl)
theorem mw_51 : Cond.fieldLink RX10 317 "DeskMoves$Diary" "kept" "Z" ∈ gw := gl_1_in _ (List.mem_of_getElem? (i := 11) rfl)
theorem mw_52 : Cond.fieldLink RX10 324 "DeskMoves$Office" "clerks" "I" ∈ gw := gl_1_in _ (List.mem_of_getElem? (i := 12) rfl)
theorem mw_53 : Cond.fieldLink RX10 163 "DeskMoves" "lawCount" "I" ∈ gw := gl_1_in _ (List.mem_of_getElem? (i := 13) rfl)
theorem mw_54 : Cond.fieldLink RX10 10 "DeskMoves" "tape" "LDeskMoves$Tape;" ∈ gw := gl_1_in _ (List.mem_of_getElem? (i := 14) rfl)
theorem mw_55 : Cond.fieldLink RX10 93 "DeskMoves$Tape" "length" "I" ∈ gw := gl_1_in _ (List.mem_of_getElem? (i := 15) rfl)
theorem mw_56 : Cond.fieldLink RX11 303 "DeskMovesModel" "desks" "I" ∈ gw := gl_1_in _ (List.mem_of_getElem? (i := 16) rfl)
theorem mw_57 : Cond.static yX11_in ∈ gw := gl_1_in _ (List.mem_of_getElem? (i := 17) rfl)
theorem mw_58 : Cond.initialized RX11 ∈ gw := gl_1_in _ (List.mem_of_getElem? (i := 18) rfl)
theorem mw_59 : Cond.code yX11_in cX11_in 3 (some .boolean) ∈ gw := gl_1_in _ (List.mem_of_getElem? (i := 19) rfl)
theorem mw_60 : Cond.methodLink RX11 274 yX11_in ∈ gw := gl_1_in _ (List.mem_of_getElem? (i := 20) rfl)
theorem mw_61 : Cond.instanceMethod yX11_isClerk ∈ gw := gl_1_in _ (List.mem_of_getElem? (i := 21) rfl)
theorem mw_62 : Cond.selects RX11 yX11_isClerk yX11_isClerk ∈ gw := gl_1_in _ (List.mem_of_getElem? (i := 22) rfl)
theorem mw_63 : Cond.code yX11_isClerk cX11_isClerk 2 (some .boolean) ∈ gw := gl_1_in _ (List.mem_of_getElem? (i := 23) rfl)
theorem mw_64 : Cond.methodLink RX11 328 yX11_isClerk ∈ gw := gl_1_in _ (List.mem_of_getElem? (i := 24) rfl)
theorem mw_65 : Cond.instanceMethod yX11_isDesk ∈ gw := gl_1_in _ (List.mem_of_getElem? (i := 25) rfl)
theorem mw_66 : Cond.selects RX11 yX11_isDesk yX11_isDesk ∈ gw := gl_1_in _ (List.mem_of_getElem? (i := 26) rfl)
theorem mw_67 : Cond.code yX11_isDesk cX11_isDesk 2 (some .boolean) ∈ gw := gl_1_in _ (List.mem_of_getElem? (i := 27) rfl)
theorem mw_68 : Cond.methodLink RX11 325 yX11_isDesk ∈ gw := gl_1_in _ (List.mem_of_getElem? (i := 28) rfl)
theorem mw_69 : Cond.fieldLink RX11 49 "DeskMovesModel" "seat" "[I" ∈ gw := gl_1_in _ (List.mem_of_getElem? (i := 29) rfl)
theorem mw_70 : Cond.instanceMethod yX11_bars ∈ gw := gl_1_in _ (List.mem_of_getElem? (i := 30) rfl)
theorem mw_71 : Cond.selects RX11 yX11_bars yX11_bars ∈ gw := gl_1_in _ (List.mem_of_getElem? (i := 31) rfl)
theorem mw_72 : Cond.code yX11_bars cX11_bars 5 (some .int) ∈ gw := gl_1_in _ (List.mem_of_getElem? (i := 32) rfl)
theorem mw_73 : Cond.methodLink RX11 346 yX11_bars ∈ gw := gl_1_in _ (List.mem_of_getElem? (i := 33) rfl)
theorem mw_74 : Cond.fieldLink RX11 309 "DeskMovesModel" "diaryMany" "I" ∈ gw := gl_1_in _ (List.mem_of_getElem? (i := 34) rfl)
theorem mw_75 : Cond.fieldLink RX11 64 "DeskMovesModel" "planMoves" "I" ∈ gw := gl_1_in _ (List.mem_of_getElem? (i := 35) rfl)
theorem mw_76 : Cond.constant RX11 356 (-1000000) ∈ gw := gl_1_in _ (List.mem_of_getElem? (i := 36) rfl)
theorem mw_77 : Cond.instanceMethod yX11_isSmall ∈ gw := gl_1_in _ (List.mem_of_getElem? (i := 37) rfl)
theorem mw_78 : Cond.selects RX11 yX11_isSmall yX11_isSmall ∈ gw := gl_1_in _ (List.mem_of_getElem? (i := 38) rfl)
theorem mw_79 : Cond.code yX11_isSmall cX11_isSmall 1 (some .boolean) ∈ gw := gl_1_in _ (List.mem_of_getElem? (i := 39) rfl)
theorem mw_80 : Cond.methodLink RX11 394 yX11_isSmall ∈ gw := gl_2_in _ (List.mem_of_getElem? (i := 0) rfl)
theorem mw_81 : Cond.fieldLink RX11 315 "DeskMovesModel" "hasImage" "Z" ∈ gw := gl_2_in _ (List.mem_of_getElem? (i := 1) rfl)
theorem mw_82 : Cond.fieldLink RX11 306 "DeskMovesModel" "clerks" "I" ∈ gw := gl_2_in _ (List.mem_of_getElem? (i := 2) rfl)
theorem mw_83 : Cond.fieldLink RX11 322 "DeskMovesModel" "laws" "I" ∈ gw := gl_2_in _ (List.mem_of_getElem? (i := 3) rfl)
theorem mw_84 : Cond.fieldLink RX11 160 "DeskMovesModel" "size" "I" ∈ gw := gl_2_in _ (List.mem_of_getElem? (i := 4) rfl)
theorem mw_85 : Cond.fieldLink RX11 74 "DeskMovesModel" "holding" "I" ∈ gw := gl_2_in _ (List.mem_of_getElem? (i := 5) rfl)
theorem mw_86 : Cond.fieldLink RX11 153 "DeskMovesModel" "thrown" "I" ∈ gw := gl_2_in _ (List.mem_of_getElem? (i := 6) rfl)
theorem mw_87 : Cond.fieldLink RX6 17 "DeskMoves$Tape" "at" "I" ∈ gw := gl_2_in _ (List.mem_of_getElem? (i := 7) rfl)
theorem mw_88 : Cond.fieldLink RX6 13 "DeskMoves$Tape" "length" "I" ∈ gw := gl_2_in _ (List.mem_of_getElem? (i := 8) rfl)
theorem mw_89 : Cond.instanceMethod yX6_look ∈ gw := gl_2_in _ (List.mem_of_getElem? (i := 9) rfl)
theorem mw_90 : Cond.selects RX6 yX6_look yX6_look ∈ gw := gl_2_in _ (List.mem_of_getElem? (i := 10) rfl)
theorem mw_91 : Cond.initialized RX6 ∈ gw := gl_2_in _ (List.mem_of_getElem? (i := 11) rfl)
theorem mw_92 : Cond.code yX6_look cX6_look 1 (some .int) ∈ gw := gl_2_in _ (List.mem_of_getElem? (i := 12) rfl)
theorem mw_93 : Cond.methodLink RX6 20 yX6_look ∈ gw := gl_2_in _ (List.mem_of_getElem? (i := 13) rfl)
theorem mw_94 : Cond.fieldLink RX3 15 "DeskMoves$LawReader" "tape" "LDeskMoves$Tape;" ∈ gw := gl_2_in _ (List.mem_of_getElem? (i := 14) rfl)
theorem mw_95 : Cond.instanceMethod yX6_takes ∈ gw := gl_2_in _ (List.mem_of_getElem? (i := 15) rfl)
theorem mw_96 : Cond.selects RX6 yX6_takes yX6_takes ∈ gw := gl_2_in _ (List.mem_of_getElem? (i := 16) rfl)
theorem mw_97 : Cond.code yX6_takes cX6_takes 2 (some .boolean) ∈ gw := gl_2_in _ (List.mem_of_getElem? (i := 17) rfl)
theorem mw_98 : Cond.methodLink RX3 38 yX6_takes ∈ gw := gl_2_in _ (List.mem_of_getElem? (i := 18) rfl)
theorem mw_99 : Cond.fieldLink RX3 19 "DeskMoves$Tape" "at" "I" ∈ gw := gl_2_in _ (List.mem_of_getElem? (i := 19) rfl)
theorem mw_100 : Cond.fieldLink RX3 23 "DeskMoves$LawReader" "size" "I" ∈ gw := gl_2_in _ (List.mem_of_getElem? (i := 20) rfl)
theorem mw_101 : Cond.fieldLink RX3 26 "DeskMoves$LawReader" "looksBeside" "Z" ∈ gw := gl_2_in _ (List.mem_of_getElem? (i := 21) rfl)
theorem mw_102 : Cond.instanceMethod yX3_readClause ∈ gw := gl_2_in _ (List.mem_of_getElem? (i := 22) rfl)
theorem mw_103 : Cond.selects RX3 yX3_readClause yX3_readClause ∈ gw := gl_2_in _ (List.mem_of_getElem? (i := 23) rfl)
theorem mw_104 : Cond.initialized RX3 ∈ gw := gl_2_in _ (List.mem_of_getElem? (i := 24) rfl)
theorem mw_105 : Cond.code yX3_readClause cX3_readClause 3 (some .boolean) ∈ gw := gl_2_in _ (List.mem_of_getElem? (i := 25) rfl)
theorem mw_106 : Cond.methodLink RX3 30 yX3_readClause ∈ gw := gl_2_in _ (List.mem_of_getElem? (i := 26) rfl)
theorem mw_107 : Cond.fieldLink RX5 18 "DeskMoves$Plan" "size" "I" ∈ gw := gl_2_in _ (List.mem_of_getElem? (i := 27) rfl)
theorem mw_108 : Cond.fieldLink RX5 22 "DeskMoves$Tape" "at" "I" ∈ gw := gl_2_in _ (List.mem_of_getElem? (i := 28) rfl)
theorem mw_109 : Cond.methodLink RX5 27 yX6_look ∈ gw := gl_2_in _ (List.mem_of_getElem? (i := 29) rfl)
theorem mw_110 : Cond.methodLink RX4 67 yX6_look ∈ gw := gl_2_in _ (List.mem_of_getElem? (i := 30) rfl)
theorem mw_111 : Cond.instanceMethod yX4_addDesk ∈ gw := gl_2_in _ (List.mem_of_getElem? (i := 31) rfl)
theorem mw_112 : Cond.selects RX4 yX4_addDesk yX4_addDesk ∈ gw := gl_2_in _ (List.mem_of_getElem? (i := 32) rfl)
theorem mw_113 : Cond.code yX4_addDesk cX4_addDesk 4 (some .boolean) ∈ gw := gl_2_in _ (List.mem_of_getElem? (i := 33) rfl)
theorem mw_114 : Cond.methodLink RX4 79 yX4_addDesk ∈ gw := gl_2_in _ (List.mem_of_getElem? (i := 34) rfl)
theorem mw_115 : Cond.fieldLink RX4 9 "DeskMoves$Office" "seat" "[I" ∈ gw := gl_2_in _ (List.mem_of_getElem? (i := 35) rfl)
theorem mw_116 : Cond.static yJ7_fill_53178 ∈ gw := gl_2_in _ (List.mem_of_getElem? (i := 36) rfl)
theorem mw_117 : Cond.initialized RJ7 ∈ gw := gl_2_in _ (List.mem_of_getElem? (i := 37) rfl)
theorem mw_118 : Cond.code yJ7_fill_53178 cJ7_fill_53178 4 none ∈ gw := gl_2_in _ (List.mem_of_getElem? (i := 38) rfl)
theorem mw_119 : Cond.methodLink RX4 46 yJ7_fill_53178 ∈ gw := gl_2_in _ (List.mem_of_getElem? (i := 39) rfl)
theorem mw_120 : Cond.fieldLink RX4 15 "DeskMoves$Office" "place" "[I" ∈ gw := gl_3_in _ (List.mem_of_getElem? (i := 0) rfl)
theorem mw_121 : Cond.fieldLink RX4 18 "DeskMoves$Office" "lengths" "[I" ∈ gw := gl_3_in _ (List.mem_of_getElem? (i := 1) rfl)
theorem mw_122 : Cond.fieldLink RX4 21 "DeskMoves$Office" "beside" "[I" ∈ gw := gl_3_in _ (List.mem_of_getElem? (i := 2) rfl)
theorem mw_123 : Cond.fieldLink RX4 24 "DeskMoves$Office" "foes" "[I" ∈ gw := gl_3_in _ (List.mem_of_getElem? (i := 3) rfl)
theorem mw_124 : Cond.fieldLink RX4 27 "DeskMoves$Office" "rank" "[I" ∈ gw := gl_3_in _ (List.mem_of_getElem? (i := 4) rfl)
theorem mw_125 : Cond.fieldLink RX4 30 "DeskMoves$Office" "papers" "[I" ∈ gw := gl_3_in _ (List.mem_of_getElem? (i := 5) rfl)
theorem mw_126 : Cond.fieldLink RX4 33 "DeskMoves$Office" "wishes" "[I" ∈ gw := gl_3_in _ (List.mem_of_getElem? (i := 6) rfl)
theorem mw_127 : Cond.fieldLink RX4 36 "DeskMoves$Office" "worths" "[I" ∈ gw := gl_3_in _ (List.mem_of_getElem? (i := 7) rfl)
theorem mw_128 : Cond.instanceMethod yX4_clear ∈ gw := gl_3_in _ (List.mem_of_getElem? (i := 8) rfl)
theorem mw_129 : Cond.selects RX4 yX4_clear yX4_clear ∈ gw := gl_3_in _ (List.mem_of_getElem? (i := 9) rfl)
theorem mw_130 : Cond.code yX4_clear cX4_clear 1 none ∈ gw := gl_3_in _ (List.mem_of_getElem? (i := 10) rfl)
theorem mw_131 : Cond.methodLink RX4 52 yX4_clear ∈ gw := gl_3_in _ (List.mem_of_getElem? (i := 11) rfl)
theorem mw_132 : Cond.fieldLink RX4 55 "DeskMoves$Tape" "at" "I" ∈ gw := gl_3_in _ (List.mem_of_getElem? (i := 12) rfl)
theorem mw_133 : Cond.instanceMethod yX4_readSeats ∈ gw := gl_3_in _ (List.mem_of_getElem? (i := 13) rfl)
theorem mw_134 : Cond.selects RX4 yX4_readSeats yX4_readSeats ∈ gw := gl_3_in _ (List.mem_of_getElem? (i := 14) rfl)
theorem mw_135 : Cond.code yX4_readSeats cX4_readSeats 4 (some .boolean) ∈ gw := gl_3_in _ (List.mem_of_getElem? (i := 15) rfl)
theorem mw_136 : Cond.methodLink RX4 60 yX4_readSeats ∈ gw := gl_3_in _ (List.mem_of_getElem? (i := 16) rfl)
theorem mw_137 : Cond.fieldLink RX10 42 "DeskMoves" "spareOffice" "LDeskMoves$Office;" ∈ gw := gl_3_in _ (List.mem_of_getElem? (i := 17) rfl)
theorem mw_138 : Cond.instanceMethod yX4_isReadFrom ∈ gw := gl_3_in _ (List.mem_of_getElem? (i := 18) rfl)
theorem mw_139 : Cond.selects RX4 yX4_isReadFrom yX4_isReadFrom ∈ gw := gl_3_in _ (List.mem_of_getElem? (i := 19) rfl)
theorem mw_140 : Cond.code yX4_isReadFrom cX4_isReadFrom 2 (some .boolean) ∈ gw := gl_3_in _ (List.mem_of_getElem? (i := 20) rfl)
theorem mw_141 : Cond.methodLink RX10 100 yX4_isReadFrom ∈ gw := gl_3_in _ (List.mem_of_getElem? (i := 21) rfl)
theorem mw_142 : Cond.fieldLink RX10 21 "DeskMoves" "lawReader" "LDeskMoves$LawReader;" ∈ gw := gl_3_in _ (List.mem_of_getElem? (i := 22) rfl)
theorem mw_143 : Cond.instanceMethod yX3_isRead ∈ gw := gl_3_in _ (List.mem_of_getElem? (i := 23) rfl)
theorem mw_144 : Cond.selects RX3 yX3_isRead yX3_isRead ∈ gw := gl_3_in _ (List.mem_of_getElem? (i := 24) rfl)
theorem mw_145 : Cond.code yX3_isRead cX3_isRead 2 (some .boolean) ∈ gw := gl_3_in _ (List.mem_of_getElem? (i := 25) rfl)
theorem mw_146 : Cond.methodLink RX10 104 yX3_isRead ∈ gw := gl_3_in _ (List.mem_of_getElem? (i := 26) rfl)
theorem mw_147 : Cond.instanceMethod yX10_takePlan ∈ gw := gl_3_in _ (List.mem_of_getElem? (i := 27) rfl)
theorem mw_148 : Cond.selects RX10 yX10_takePlan yX10_takePlan ∈ gw := gl_3_in _ (List.mem_of_getElem? (i := 28) rfl)
theorem mw_149 : Cond.code yX10_takePlan cX10_takePlan 2 (some .int) ∈ gw := gl_3_in _ (List.mem_of_getElem? (i := 29) rfl)
theorem mw_150 : Cond.methodLink RX10 119 yX10_takePlan ∈ gw := gl_3_in _ (List.mem_of_getElem? (i := 30) rfl)
theorem mw_151 : Cond.instanceMethod yX10_takeLaw ∈ gw := gl_3_in _ (List.mem_of_getElem? (i := 31) rfl)
theorem mw_152 : Cond.selects RX10 yX10_takeLaw yX10_takeLaw ∈ gw := gl_3_in _ (List.mem_of_getElem? (i := 32) rfl)
theorem mw_153 : Cond.code yX10_takeLaw cX10_takeLaw 1 (some .int) ∈ gw := gl_3_in _ (List.mem_of_getElem? (i := 33) rfl)
theorem mw_154 : Cond.methodLink RX10 116 yX10_takeLaw ∈ gw := gl_3_in _ (List.mem_of_getElem? (i := 34) rfl)
theorem mw_155 : Cond.instanceMethod yX10_takeOffice ∈ gw := gl_3_in _ (List.mem_of_getElem? (i := 35) rfl)
theorem mw_156 : Cond.selects RX10 yX10_takeOffice yX10_takeOffice ∈ gw := gl_3_in _ (List.mem_of_getElem? (i := 36) rfl)
theorem mw_157 : Cond.code yX10_takeOffice cX10_takeOffice 2 (some .int) ∈ gw := gl_3_in _ (List.mem_of_getElem? (i := 37) rfl)
theorem mw_158 : Cond.methodLink RX10 112 yX10_takeOffice ∈ gw := gl_3_in _ (List.mem_of_getElem? (i := 38) rfl)
theorem mw_159 : Cond.fieldLink RX10 52 "DeskMoves" "sparePlan" "LDeskMoves$Plan;" ∈ gw := gl_3_in _ (List.mem_of_getElem? (i := 39) rfl)
theorem mw_160 : Cond.instanceMethod yX5_isReadFrom ∈ gw := gl_4_in _ (List.mem_of_getElem? (i := 0) rfl)
theorem mw_161 : Cond.selects RX5 yX5_isReadFrom yX5_isReadFrom ∈ gw := gl_4_in _ (List.mem_of_getElem? (i := 1) rfl)
theorem mw_162 : Cond.initialized RX5 ∈ gw := gl_4_in _ (List.mem_of_getElem? (i := 2) rfl)
theorem mw_163 : Cond.code yX5_isReadFrom cX5_isReadFrom 5 (some .boolean) ∈ gw := gl_4_in _ (List.mem_of_getElem? (i := 3) rfl)
theorem mw_164 : Cond.methodLink RX10 108 yX5_isReadFrom ∈ gw := gl_4_in _ (List.mem_of_getElem? (i := 4) rfl)
theorem mw_165 : Cond.fieldLink RX10 109 "DeskMoves$Tape" "at" "I" ∈ gw := gl_4_in _ (List.mem_of_getElem? (i := 5) rfl)
theorem mw_166 : Cond.fieldLink RX6 9 "DeskMoves$Tape" "bytes" "[I" ∈ gw := gl_4_in _ (List.mem_of_getElem? (i := 6) rfl)
theorem mw_167 : Cond.static yX6_signsIn ∈ gw := gl_4_in _ (List.mem_of_getElem? (i := 7) rfl)
theorem mw_168 : Cond.code yX6_signsIn cX6_signsIn 3 (some .int) ∈ gw := gl_4_in _ (List.mem_of_getElem? (i := 8) rfl)
theorem mw_169 : Cond.methodLink RX10 89 yX6_signsIn ∈ gw := gl_4_in _ (List.mem_of_getElem? (i := 9) rfl)
theorem mw_170 : Cond.instanceMethod yX6_append ∈ gw := gl_4_in _ (List.mem_of_getElem? (i := 10) rfl)
theorem mw_171 : Cond.selects RX6 yX6_append yX6_append ∈ gw := gl_4_in _ (List.mem_of_getElem? (i := 11) rfl)
theorem mw_172 : Cond.code yX6_append cX6_append 4 none ∈ gw := gl_4_in _ (List.mem_of_getElem? (i := 12) rfl)
theorem mw_173 : Cond.methodLink RX10 96 yX6_append ∈ gw := gl_4_in _ (List.mem_of_getElem? (i := 13) rfl)
theorem mw_174 : Cond.fieldLink RX11 163 "DeskMovesModel" "at" "I" ∈ gw := gl_4_in _ (List.mem_of_getElem? (i := 14) rfl)
theorem mw_175 : Cond.instanceMethod yX11_here ∈ gw := gl_4_in _ (List.mem_of_getElem? (i := 15) rfl)
theorem mw_176 : Cond.selects RX11 yX11_here yX11_here ∈ gw := gl_4_in _ (List.mem_of_getElem? (i := 16) rfl)
theorem mw_177 : Cond.code yX11_here cX11_here 1 (some .int) ∈ gw := gl_4_in _ (List.mem_of_getElem? (i := 17) rfl)
theorem mw_178 : Cond.methodLink RX11 166 yX11_here ∈ gw := gl_4_in _ (List.mem_of_getElem? (i := 18) rfl)
theorem mw_179 : Cond.fieldLink RX11 170 "DeskMovesModel" "wrong" "I" ∈ gw := gl_4_in _ (List.mem_of_getElem? (i := 19) rfl)
theorem mw_180 : Cond.fieldLink RX11 268 "DeskMovesModel" "readDesks" "I" ∈ gw := gl_4_in _ (List.mem_of_getElem? (i := 20) rfl)
theorem mw_181 : Cond.fieldLink RX11 271 "DeskMovesModel" "readClerks" "I" ∈ gw := gl_4_in _ (List.mem_of_getElem? (i := 21) rfl)
theorem mw_182 : Cond.instanceMethod yX11_look ∈ gw := gl_4_in _ (List.mem_of_getElem? (i := 22) rfl)
theorem mw_183 : Cond.selects RX11 yX11_look yX11_look ∈ gw := gl_4_in _ (List.mem_of_getElem? (i := 23) rfl)
theorem mw_184 : Cond.code yX11_look cX11_look 1 (some .int) ∈ gw := gl_4_in _ (List.mem_of_getElem? (i := 24) rfl)
theorem mw_185 : Cond.methodLink RX11 182 yX11_look ∈ gw := gl_4_in _ (List.mem_of_getElem? (i := 25) rfl)
theorem mw_186 : Cond.instanceMethod yX11_bad ∈ gw := gl_4_in _ (List.mem_of_getElem? (i := 26) rfl)
theorem mw_187 : Cond.selects RX11 yX11_bad yX11_bad ∈ gw := gl_4_in _ (List.mem_of_getElem? (i := 27) rfl)
theorem mw_188 : Cond.code yX11_bad cX11_bad 1 none ∈ gw := gl_4_in _ (List.mem_of_getElem? (i := 28) rfl)
theorem mw_189 : Cond.methodLink RX11 179 yX11_bad ∈ gw := gl_4_in _ (List.mem_of_getElem? (i := 29) rfl)
theorem mw_190 : Cond.fieldLink RX11 173 "DeskMovesModel" "text" "I" ∈ gw := gl_4_in _ (List.mem_of_getElem? (i := 30) rfl)
theorem mw_191 : Cond.fieldLink RX11 176 "DeskMovesModel" "deep" "I" ∈ gw := gl_4_in _ (List.mem_of_getElem? (i := 31) rfl)
theorem mw_192 : Cond.fieldLink RX11 19 "DeskMovesModel" "codes" "[I" ∈ gw := gl_4_in _ (List.mem_of_getElem? (i := 32) rfl)
theorem mw_193 : Cond.fieldLink RX11 22 "DeskMovesModel" "clauses" "[I" ∈ gw := gl_4_in _ (List.mem_of_getElem? (i := 33) rfl)
theorem mw_194 : Cond.instanceMethod yX11_open ∈ gw := gl_4_in _ (List.mem_of_getElem? (i := 34) rfl)
theorem mw_195 : Cond.selects RX11 yX11_open yX11_open ∈ gw := gl_4_in _ (List.mem_of_getElem? (i := 35) rfl)
theorem mw_196 : Cond.code yX11_open cX11_open 2 none ∈ gw := gl_4_in _ (List.mem_of_getElem? (i := 36) rfl)
theorem mw_197 : Cond.methodLink RX11 234 yX11_open ∈ gw := gl_4_in _ (List.mem_of_getElem? (i := 37) rfl)
theorem mw_198 : Cond.instanceMethod yX11_clause ∈ gw := gl_4_in _ (List.mem_of_getElem? (i := 38) rfl)
theorem mw_199 : Cond.selects RX11 yX11_clause yX11_clause ∈ gw := gl_4_in _ (List.mem_of_getElem? (i := 39) rfl)
theorem mw_200 : Cond.code yX11_clause cX11_clause 3 none ∈ gw := gl_5_in _ (List.mem_of_getElem? (i := 0) rfl)
theorem mw_201 : Cond.methodLink RX11 237 yX11_clause ∈ gw := gl_5_in _ (List.mem_of_getElem? (i := 1) rfl)
theorem mw_202 : Cond.instanceMethod yX11_atEnd ∈ gw := gl_5_in _ (List.mem_of_getElem? (i := 2) rfl)
theorem mw_203 : Cond.selects RX11 yX11_atEnd yX11_atEnd ∈ gw := gl_5_in _ (List.mem_of_getElem? (i := 3) rfl)
theorem mw_204 : Cond.code yX11_atEnd cX11_atEnd 1 (some .int) ∈ gw := gl_5_in _ (List.mem_of_getElem? (i := 4) rfl)
theorem mw_205 : Cond.methodLink RX11 240 yX11_atEnd ∈ gw := gl_5_in _ (List.mem_of_getElem? (i := 5) rfl)
theorem mw_206 : Cond.fieldLink RX11 46 "DeskMovesModel" "readQuarrel" "[I" ∈ gw := gl_5_in _ (List.mem_of_getElem? (i := 6) rfl)
theorem mw_207 : Cond.instanceMethod yX11_seats ∈ gw := gl_5_in _ (List.mem_of_getElem? (i := 7) rfl)
theorem mw_208 : Cond.selects RX11 yX11_seats yX11_seats ∈ gw := gl_5_in _ (List.mem_of_getElem? (i := 8) rfl)
theorem mw_209 : Cond.code yX11_seats cX11_seats 3 none ∈ gw := gl_5_in _ (List.mem_of_getElem? (i := 9) rfl)
theorem mw_210 : Cond.methodLink RX11 282 yX11_seats ∈ gw := gl_5_in _ (List.mem_of_getElem? (i := 10) rfl)
theorem mw_211 : Cond.fieldLink RX11 291 "DeskMovesModel" "readMoves" "I" ∈ gw := gl_5_in _ (List.mem_of_getElem? (i := 11) rfl)
theorem mw_212 : Cond.instanceMethod yX11_readPlan ∈ gw := gl_5_in _ (List.mem_of_getElem? (i := 12) rfl)
theorem mw_213 : Cond.selects RX11 yX11_readPlan yX11_readPlan ∈ gw := gl_5_in _ (List.mem_of_getElem? (i := 13) rfl)
theorem mw_214 : Cond.code yX11_readPlan cX11_readPlan 4 (some .int) ∈ gw := gl_5_in _ (List.mem_of_getElem? (i := 14) rfl)
theorem mw_215 : Cond.methodLink RX11 300 yX11_readPlan ∈ gw := gl_5_in _ (List.mem_of_getElem? (i := 15) rfl)
theorem mw_216 : Cond.instanceMethod yX11_readLaw ∈ gw := gl_5_in _ (List.mem_of_getElem? (i := 16) rfl)
theorem mw_217 : Cond.selects RX11 yX11_readLaw yX11_readLaw ∈ gw := gl_5_in _ (List.mem_of_getElem? (i := 17) rfl)
theorem mw_218 : Cond.code yX11_readLaw cX11_readLaw 2 (some .int) ∈ gw := gl_5_in _ (List.mem_of_getElem? (i := 18) rfl)
theorem mw_219 : Cond.methodLink RX11 297 yX11_readLaw ∈ gw := gl_5_in _ (List.mem_of_getElem? (i := 19) rfl)
theorem mw_220 : Cond.instanceMethod yX11_readOffice ∈ gw := gl_5_in _ (List.mem_of_getElem? (i := 20) rfl)
theorem mw_221 : Cond.selects RX11 yX11_readOffice yX11_readOffice ∈ gw := gl_5_in _ (List.mem_of_getElem? (i := 21) rfl)
theorem mw_222 : Cond.code yX11_readOffice cX11_readOffice 2 (some .int) ∈ gw := gl_5_in _ (List.mem_of_getElem? (i := 22) rfl)
theorem mw_223 : Cond.methodLink RX11 294 yX11_readOffice ∈ gw := gl_5_in _ (List.mem_of_getElem? (i := 23) rfl)
theorem mw_224 : Cond.fieldLink RX11 9 "DeskMovesModel" "tape" "[I" ∈ gw := gl_5_in _ (List.mem_of_getElem? (i := 24) rfl)
theorem mw_225 : Cond.static yX11_byteOf ∈ gw := gl_5_in _ (List.mem_of_getElem? (i := 25) rfl)
theorem mw_226 : Cond.code yX11_byteOf cX11_byteOf 7 (some .int) ∈ gw := gl_5_in _ (List.mem_of_getElem? (i := 26) rfl)
theorem mw_227 : Cond.methodLink RX11 156 yX11_byteOf ∈ gw := gl_5_in _ (List.mem_of_getElem? (i := 27) rfl)
theorem mw_228 : Cond.methodLink RX6 1 objectInit ∈ gw := gl_5_in _ (List.mem_of_getElem? (i := 28) rfl)
theorem mw_229 : Cond.instanceMethod objectInit ∈ gw := gl_5_in _ (List.mem_of_getElem? (i := 29) rfl)
theorem mw_230 : Cond.code objectInit ⟨#[0xb1]⟩ 1 none ∈ gw := gl_5_in _ (List.mem_of_getElem? (i := 30) rfl)
theorem mw_231 : Cond.arrayClass .int ∈ gw := gl_5_in _ (List.mem_of_getElem? (i := 31) rfl)
theorem mw_232 : Cond.methodLink RX3 1 objectInit ∈ gw := gl_5_in _ (List.mem_of_getElem? (i := 32) rfl)
theorem mw_233 : Cond.fieldLink RX3 9 "DeskMoves$LawReader" "items" "[I" ∈ gw := gl_5_in _ (List.mem_of_getElem? (i := 33) rfl)
theorem mw_234 : Cond.methodLink RX4 3 objectInit ∈ gw := gl_5_in _ (List.mem_of_getElem? (i := 34) rfl)
theorem mw_235 : Cond.methodLink RX5 3 objectInit ∈ gw := gl_5_in _ (List.mem_of_getElem? (i := 35) rfl)
theorem mw_236 : Cond.fieldLink RX5 11 "DeskMoves$Plan" "moves" "[I" ∈ gw := gl_5_in _ (List.mem_of_getElem? (i := 36) rfl)
theorem mw_237 : Cond.fieldLink RX5 15 "DeskMoves$Plan" "before" "[I" ∈ gw := gl_5_in _ (List.mem_of_getElem? (i := 37) rfl)
theorem mw_238 : Cond.methodLink RX1 3 objectInit ∈ gw := gl_5_in _ (List.mem_of_getElem? (i := 38) rfl)
theorem mw_239 : Cond.fieldLink RX1 11 "DeskMoves$Diary" "moves" "[I" ∈ gw := gl_5_in _ (List.mem_of_getElem? (i := 39) rfl)
theorem mw_240 : Cond.fieldLink RX1 15 "DeskMoves$Diary" "keptMoves" "[I" ∈ gw := gl_6_in _ (List.mem_of_getElem? (i := 0) rfl)
theorem mw_241 : Cond.fieldLink RX1 18 "DeskMoves$Diary" "keptSeats" "[I" ∈ gw := gl_6_in _ (List.mem_of_getElem? (i := 1) rfl)
theorem mw_242 : Cond.methodLink RX7 3 objectInit ∈ gw := gl_6_in _ (List.mem_of_getElem? (i := 2) rfl)
theorem mw_243 : Cond.fieldLink RX7 9 "DeskMoves$Turns" "round" "[I" ∈ gw := gl_6_in _ (List.mem_of_getElem? (i := 3) rfl)
theorem mw_244 : Cond.fieldLink RX7 15 "DeskMoves$Turns" "now" "[I" ∈ gw := gl_6_in _ (List.mem_of_getElem? (i := 4) rfl)
theorem mw_245 : Cond.fieldLink RX7 18 "DeskMoves$Turns" "then" "[I" ∈ gw := gl_6_in _ (List.mem_of_getElem? (i := 5) rfl)
theorem mw_246 : Cond.methodLink RX9 3 objectInit ∈ gw := gl_6_in _ (List.mem_of_getElem? (i := 6) rfl)
theorem mw_247 : Cond.fieldLink RX9 9 "DeskMoves$Wealth" "sums" "[I" ∈ gw := gl_6_in _ (List.mem_of_getElem? (i := 7) rfl)
theorem mw_248 : Cond.fieldLink RX9 15 "DeskMoves$Wealth" "told" "[I" ∈ gw := gl_6_in _ (List.mem_of_getElem? (i := 8) rfl)
theorem mw_249 : Cond.fieldLink RX9 18 "DeskMoves$Wealth" "who" "[I" ∈ gw := gl_6_in _ (List.mem_of_getElem? (i := 9) rfl)
theorem mw_250 : Cond.fieldLink RX9 21 "DeskMoves$Wealth" "bestDesk" "[I" ∈ gw := gl_6_in _ (List.mem_of_getElem? (i := 10) rfl)
theorem mw_251 : Cond.fieldLink RX9 24 "DeskMoves$Wealth" "gain" "[I" ∈ gw := gl_6_in _ (List.mem_of_getElem? (i := 11) rfl)
theorem mw_252 : Cond.fieldLink RX9 27 "DeskMoves$Wealth" "gainDesk" "[I" ∈ gw := gl_6_in _ (List.mem_of_getElem? (i := 12) rfl)
theorem mw_253 : Cond.fieldLink RX9 30 "DeskMoves$Wealth" "got" "[I" ∈ gw := gl_6_in _ (List.mem_of_getElem? (i := 13) rfl)
theorem mw_254 : Cond.fieldLink RX9 33 "DeskMoves$Wealth" "pointed" "[I" ∈ gw := gl_6_in _ (List.mem_of_getElem? (i := 14) rfl)
theorem mw_255 : Cond.methodLink RX10 1 objectInit ∈ gw := gl_6_in _ (List.mem_of_getElem? (i := 15) rfl)
theorem mw_256 : Cond.classLink RX10 7 RX6 ∈ gw := gl_6_in _ (List.mem_of_getElem? (i := 16) rfl)
theorem mw_257 : Cond.instantiable RX6 3 ∈ gw := gl_6_in _ (List.mem_of_getElem? (i := 17) rfl)
theorem mw_258 : Cond.instanceMethod yX6_init ∈ gw := gl_6_in _ (List.mem_of_getElem? (i := 18) rfl)
theorem mw_259 : Cond.code yX6_init cX6_init 1 none ∈ gw := gl_6_in _ (List.mem_of_getElem? (i := 19) rfl)
theorem mw_260 : Cond.methodLink RX10 9 yX6_init ∈ gw := gl_6_in _ (List.mem_of_getElem? (i := 20) rfl)
theorem mw_261 : Cond.classLink RX10 16 RX3 ∈ gw := gl_6_in _ (List.mem_of_getElem? (i := 21) rfl)
theorem mw_262 : Cond.instantiable RX3 4 ∈ gw := gl_6_in _ (List.mem_of_getElem? (i := 22) rfl)
theorem mw_263 : Cond.instanceMethod yX3_init ∈ gw := gl_6_in _ (List.mem_of_getElem? (i := 23) rfl)
theorem mw_264 : Cond.code yX3_init cX3_init 2 none ∈ gw := gl_6_in _ (List.mem_of_getElem? (i := 24) rfl)
theorem mw_265 : Cond.methodLink RX10 18 yX3_init ∈ gw := gl_6_in _ (List.mem_of_getElem? (i := 25) rfl)
theorem mw_266 : Cond.classLink RX10 25 RX2 ∈ gw := gl_6_in _ (List.mem_of_getElem? (i := 26) rfl)
theorem mw_267 : Cond.fieldLink RX10 27 "DeskMoves" "laws" "[LDeskMoves$Law;" ∈ gw := gl_6_in _ (List.mem_of_getElem? (i := 27) rfl)
theorem mw_268 : Cond.classLink RX10 35 RX4 ∈ gw := gl_6_in _ (List.mem_of_getElem? (i := 28) rfl)
theorem mw_269 : Cond.instantiable RX4 11 ∈ gw := gl_6_in _ (List.mem_of_getElem? (i := 29) rfl)
theorem mw_270 : Cond.instanceMethod yX4_init ∈ gw := gl_6_in _ (List.mem_of_getElem? (i := 30) rfl)
theorem mw_271 : Cond.code yX4_init cX4_init 1 none ∈ gw := gl_6_in _ (List.mem_of_getElem? (i := 31) rfl)
theorem mw_272 : Cond.methodLink RX10 37 yX4_init ∈ gw := gl_6_in _ (List.mem_of_getElem? (i := 32) rfl)
theorem mw_273 : Cond.classLink RX10 45 RX5 ∈ gw := gl_6_in _ (List.mem_of_getElem? (i := 33) rfl)
theorem mw_274 : Cond.instantiable RX5 6 ∈ gw := gl_6_in _ (List.mem_of_getElem? (i := 34) rfl)
theorem mw_275 : Cond.instanceMethod yX5_init ∈ gw := gl_6_in _ (List.mem_of_getElem? (i := 35) rfl)
theorem mw_276 : Cond.code yX5_init cX5_init 1 none ∈ gw := gl_6_in _ (List.mem_of_getElem? (i := 36) rfl)
theorem mw_277 : Cond.methodLink RX10 47 yX5_init ∈ gw := gl_6_in _ (List.mem_of_getElem? (i := 37) rfl)
theorem mw_278 : Cond.classLink RX10 55 RX1 ∈ gw := gl_6_in _ (List.mem_of_getElem? (i := 38) rfl)
theorem mw_279 : Cond.instantiable RX1 6 ∈ gw := gl_6_in _ (List.mem_of_getElem? (i := 39) rfl)
theorem mw_280 : Cond.instanceMethod yX1_init ∈ gw := gl_7_in _ (List.mem_of_getElem? (i := 0) rfl)
theorem mw_281 : Cond.code yX1_init cX1_init 1 none ∈ gw := gl_7_in _ (List.mem_of_getElem? (i := 1) rfl)
theorem mw_282 : Cond.methodLink RX10 57 yX1_init ∈ gw := gl_7_in _ (List.mem_of_getElem? (i := 2) rfl)
theorem mw_283 : Cond.classLink RX10 62 RX7 ∈ gw := gl_7_in _ (List.mem_of_getElem? (i := 3) rfl)
theorem mw_284 : Cond.instantiable RX7 3 ∈ gw := gl_7_in _ (List.mem_of_getElem? (i := 4) rfl)
theorem mw_285 : Cond.instanceMethod yX7_init ∈ gw := gl_7_in _ (List.mem_of_getElem? (i := 5) rfl)
theorem mw_286 : Cond.code yX7_init cX7_init 1 none ∈ gw := gl_7_in _ (List.mem_of_getElem? (i := 6) rfl)
theorem mw_287 : Cond.methodLink RX10 64 yX7_init ∈ gw := gl_7_in _ (List.mem_of_getElem? (i := 7) rfl)
theorem mw_288 : Cond.classLink RX10 69 RX9 ∈ gw := gl_7_in _ (List.mem_of_getElem? (i := 8) rfl)
theorem mw_289 : Cond.instantiable RX9 14 ∈ gw := gl_7_in _ (List.mem_of_getElem? (i := 9) rfl)
theorem mw_290 : Cond.initialized RX9 ∈ gw := gl_7_in _ (List.mem_of_getElem? (i := 10) rfl)
theorem mw_291 : Cond.instanceMethod yX9_init ∈ gw := gl_7_in _ (List.mem_of_getElem? (i := 11) rfl)
theorem mw_292 : Cond.code yX9_init cX9_init 1 none ∈ gw := gl_7_in _ (List.mem_of_getElem? (i := 12) rfl)
theorem mw_293 : Cond.methodLink RX10 71 yX9_init ∈ gw := gl_7_in _ (List.mem_of_getElem? (i := 13) rfl)
theorem mw_294 : Cond.fieldLink RX10 72 "DeskMoves" "wealth" "LDeskMoves$Wealth;" ∈ gw := gl_7_in _ (List.mem_of_getElem? (i := 14) rfl)
theorem mw_295 : Cond.fieldLink RX10 76 "DeskMoves" "exploredLaw" "I" ∈ gw := gl_7_in _ (List.mem_of_getElem? (i := 15) rfl)
theorem mw_296 : Cond.fieldLink RX10 79 "DeskMoves" "least" "[I" ∈ gw := gl_7_in _ (List.mem_of_getElem? (i := 16) rfl)
theorem mw_297 : Cond.methodLink RX10 83 yJ7_fill_53178 ∈ gw := gl_7_in _ (List.mem_of_getElem? (i := 17) rfl)
theorem mw_298 : Cond.methodLink RX11 3 objectInit ∈ gw := gl_7_in _ (List.mem_of_getElem? (i := 18) rfl)
theorem mw_299 : Cond.fieldLink RX11 13 "DeskMovesModel" "code" "[I" ∈ gw := gl_7_in _ (List.mem_of_getElem? (i := 19) rfl)
theorem mw_300 : Cond.fieldLink RX11 16 "DeskMovesModel" "value" "[I" ∈ gw := gl_7_in _ (List.mem_of_getElem? (i := 20) rfl)
theorem mw_301 : Cond.fieldLink RX11 25 "DeskMovesModel" "testFrom" "[I" ∈ gw := gl_7_in _ (List.mem_of_getElem? (i := 21) rfl)
theorem mw_302 : Cond.fieldLink RX11 28 "DeskMovesModel" "sumFrom" "[I" ∈ gw := gl_7_in _ (List.mem_of_getElem? (i := 22) rfl)
theorem mw_303 : Cond.fieldLink RX11 31 "DeskMovesModel" "sumTo" "[I" ∈ gw := gl_7_in _ (List.mem_of_getElem? (i := 23) rfl)
theorem mw_304 : Cond.fieldLink RX11 34 "DeskMovesModel" "letters" "[I" ∈ gw := gl_7_in _ (List.mem_of_getElem? (i := 24) rfl)
theorem mw_305 : Cond.fieldLink RX11 37 "DeskMovesModel" "stack" "[I" ∈ gw := gl_7_in _ (List.mem_of_getElem? (i := 25) rfl)
theorem mw_306 : Cond.fieldLink RX11 40 "DeskMovesModel" "readSeat" "[I" ∈ gw := gl_7_in _ (List.mem_of_getElem? (i := 26) rfl)
theorem mw_307 : Cond.fieldLink RX11 43 "DeskMovesModel" "readDoor" "[I" ∈ gw := gl_7_in _ (List.mem_of_getElem? (i := 27) rfl)
theorem mw_308 : Cond.fieldLink RX11 52 "DeskMovesModel" "doors" "[I" ∈ gw := gl_7_in _ (List.mem_of_getElem? (i := 28) rfl)
theorem mw_309 : Cond.fieldLink RX11 55 "DeskMovesModel" "quarrels" "[I" ∈ gw := gl_7_in _ (List.mem_of_getElem? (i := 29) rfl)
theorem mw_310 : Cond.fieldLink RX11 58 "DeskMovesModel" "readMove" "[I" ∈ gw := gl_7_in _ (List.mem_of_getElem? (i := 30) rfl)
theorem mw_311 : Cond.fieldLink RX11 61 "DeskMovesModel" "plan" "[I" ∈ gw := gl_7_in _ (List.mem_of_getElem? (i := 31) rfl)
theorem mw_312 : Cond.fieldLink RX11 68 "DeskMovesModel" "ranks" "[I" ∈ gw := gl_7_in _ (List.mem_of_getElem? (i := 32) rfl)
theorem mw_313 : Cond.fieldLink RX11 71 "DeskMovesModel" "papers" "[I" ∈ gw := gl_7_in _ (List.mem_of_getElem? (i := 33) rfl)
theorem mw_314 : Cond.fieldLink RX11 77 "DeskMovesModel" "diaryMove" "[I" ∈ gw := gl_7_in _ (List.mem_of_getElem? (i := 34) rfl)
theorem mw_315 : Cond.fieldLink RX11 80 "DeskMovesModel" "diaryWas" "[I" ∈ gw := gl_7_in _ (List.mem_of_getElem? (i := 35) rfl)
theorem mw_316 : Cond.fieldLink RX11 83 "DeskMovesModel" "row" "[I" ∈ gw := gl_7_in _ (List.mem_of_getElem? (i := 36) rfl)
theorem mw_317 : Cond.fieldLink RX11 86 "DeskMovesModel" "wished" "[I" ∈ gw := gl_7_in _ (List.mem_of_getElem? (i := 37) rfl)
theorem mw_318 : Cond.constant RX11 89 (131072) ∈ gw := gl_7_in _ (List.mem_of_getElem? (i := 38) rfl)
theorem mw_319 : Cond.fieldLink RX11 90 "DeskMovesModel" "keys" "[I" ∈ gw := gl_7_in _ (List.mem_of_getElem? (i := 39) rfl)
theorem mw_320 : Cond.fieldLink RX11 93 "DeskMovesModel" "marks" "[I" ∈ gw := gl_8_in _ (List.mem_of_getElem? (i := 0) rfl)
theorem mw_321 : Cond.constant RX11 96 (40320) ∈ gw := gl_8_in _ (List.mem_of_getElem? (i := 1) rfl)
theorem mw_322 : Cond.fieldLink RX11 97 "DeskMovesModel" "list" "[I" ∈ gw := gl_8_in _ (List.mem_of_getElem? (i := 2) rfl)
theorem mw_323 : Cond.fieldLink RX11 100 "DeskMovesModel" "far" "[I" ∈ gw := gl_8_in _ (List.mem_of_getElem? (i := 3) rfl)
theorem mw_324 : Cond.fieldLink RX11 103 "DeskMovesModel" "left" "[I" ∈ gw := gl_8_in _ (List.mem_of_getElem? (i := 4) rfl)
theorem mw_325 : Cond.constant RX11 106 (40321) ∈ gw := gl_8_in _ (List.mem_of_getElem? (i := 5) rfl)
theorem mw_326 : Cond.fieldLink RX11 107 "DeskMovesModel" "firstEdge" "[I" ∈ gw := gl_8_in _ (List.mem_of_getElem? (i := 6) rfl)
theorem mw_327 : Cond.constant RX11 110 (300000) ∈ gw := gl_8_in _ (List.mem_of_getElem? (i := 7) rfl)
theorem mw_328 : Cond.fieldLink RX11 111 "DeskMovesModel" "edgeTo" "[I" ∈ gw := gl_8_in _ (List.mem_of_getElem? (i := 8) rfl)
theorem mw_329 : Cond.fieldLink RX11 114 "DeskMovesModel" "edgeMove" "[I" ∈ gw := gl_8_in _ (List.mem_of_getElem? (i := 9) rfl)
theorem mw_330 : Cond.fieldLink RX11 117 "DeskMovesModel" "now" "[I" ∈ gw := gl_8_in _ (List.mem_of_getElem? (i := 10) rfl)
theorem mw_331 : Cond.fieldLink RX11 120 "DeskMovesModel" "colour" "[I" ∈ gw := gl_8_in _ (List.mem_of_getElem? (i := 11) rfl)
theorem mw_332 : Cond.fieldLink RX11 123 "DeskMovesModel" "ring" "[I" ∈ gw := gl_8_in _ (List.mem_of_getElem? (i := 12) rfl)
theorem mw_333 : Cond.fieldLink RX11 126 "DeskMovesModel" "worths" "[I" ∈ gw := gl_8_in _ (List.mem_of_getElem? (i := 13) rfl)
theorem mw_334 : Cond.fieldLink RX11 129 "DeskMovesModel" "onward" "[I" ∈ gw := gl_8_in _ (List.mem_of_getElem? (i := 14) rfl)
theorem mw_335 : Cond.fieldLink RX11 132 "DeskMovesModel" "liar" "I" ∈ gw := gl_8_in _ (List.mem_of_getElem? (i := 15) rfl)
theorem mw_336 : Cond.fieldLink RX11 135 "DeskMovesModel" "bestDesk" "[I" ∈ gw := gl_8_in _ (List.mem_of_getElem? (i := 16) rfl)
theorem mw_337 : Cond.fieldLink RX11 138 "DeskMovesModel" "gets" "[I" ∈ gw := gl_8_in _ (List.mem_of_getElem? (i := 17) rfl)
theorem mw_338 : Cond.fieldLink RX11 141 "DeskMovesModel" "points" "[I" ∈ gw := gl_8_in _ (List.mem_of_getElem? (i := 18) rfl)
theorem mw_339 : Cond.fieldLink RX11 144 "DeskMovesModel" "image" "[I" ∈ gw := gl_8_in _ (List.mem_of_getElem? (i := 19) rfl)
theorem mw_340 : Cond.fieldLink RX11 147 "DeskMovesModel" "imageMove" "[I" ∈ gw := gl_8_in _ (List.mem_of_getElem? (i := 20) rfl)
theorem mw_341 : Cond.fieldLink RX11 150 "DeskMovesModel" "imageWas" "[I" ∈ gw := gl_8_in _ (List.mem_of_getElem? (i := 21) rfl)
set_option maxRecDepth 100000 in
theorem gw_good : gw.all goodWord = true := by decide +kernel
theorem tb_1 : ∀ w ∈ tables_1_1, w ∈ lw_tbl := fun w h => List.mem_append_right _ (show w ∈ tables_1 from by unfold tables_1; exact List.mem_append_left _ h)
theorem tb_2 : ∀ w ∈ tables_1_2, w ∈ lw_tbl := fun w h => List.mem_append_right _ (show w ∈ tables_1 from by unfold tables_1; exact List.mem_append_right _ (List.mem_append_left _ h))
theorem tb_3 : ∀ w ∈ tables_1_3, w ∈ lw_tbl := fun w h => List.mem_append_right _ (show w ∈ tables_1 from by unfold tables_1; exact List.mem_append_right _ (List.mem_append_right _ (List.mem_append_left _ h)))
theorem tb_4 : ∀ w ∈ tables_1_4, w ∈ lw_tbl := fun w h => List.mem_append_right _ (show w ∈ tables_1 from by unfold tables_1; exact List.mem_append_right _ (List.mem_append_right _ (List.mem_append_right _ (List.mem_append_left _ h))))
theorem tb_5 : ∀ w ∈ tables_1_5, w ∈ lw_tbl := fun w h => List.mem_append_right _ (show w ∈ tables_1 from by unfold tables_1; exact List.mem_append_right _ (List.mem_append_right _ (List.mem_append_right _ (List.mem_append_right _ (List.mem_append_left _ h)))))
theorem tb_6 : ∀ w ∈ tables_1_6, w ∈ lw_tbl := fun w h => List.mem_append_right _ (show w ∈ tables_1 from by unfold tables_1; exact List.mem_append_right _ (List.mem_append_right _ (List.mem_append_right _ (List.mem_append_right _ (List.mem_append_right _ (List.mem_append_left _ h))))))
theorem tb_7 : ∀ w ∈ tables_1_7, w ∈ lw_tbl := fun w h => List.mem_append_right _ (show w ∈ tables_1 from by unfold tables_1; exact List.mem_append_right _ (List.mem_append_right _ (List.mem_append_right _ (List.mem_append_right _ (List.mem_append_right _ (List.mem_append_right _ (List.mem_append_left _ h)))))))
theorem tb_8 : ∀ w ∈ tables_1_8, w ∈ lw_tbl := fun w h => List.mem_append_right _ (show w ∈ tables_1 from by unfold tables_1; exact List.mem_append_right _ (List.mem_append_right _ (List.mem_append_right _ (List.mem_append_right _ (List.mem_append_right _ (List.mem_append_right _ (List.mem_append_right _ (List.mem_append_left _ h))))))))
theorem tb_9 : ∀ w ∈ tables_1_9, w ∈ lw_tbl := fun w h => List.mem_append_right _ (show w ∈ tables_1 from by unfold tables_1; exact List.mem_append_right _ (List.mem_append_right _ (List.mem_append_right _ (List.mem_append_right _ (List.mem_append_right _ (List.mem_append_right _ (List.mem_append_right _ (List.mem_append_right _ (h)))))))))
theorem wl_0 : Cond.fieldLink RX4 39 "DeskMoves$Office" "desks" "I" ∈ lw_tbl := tb_1 _ (List.mem_of_getElem? (i := 83) rfl)
theorem wl_1 : Cond.fieldLink RX4 43 "DeskMoves$Office" "clerks" "I" ∈ lw_tbl := tb_1 _ (List.mem_of_getElem? (i := 87) rfl)
theorem wl_2 : Cond.instanceMethod yX4_hasDesk ∈ lw_tbl := tb_2 _ (List.mem_of_getElem? (i := 156) rfl)
theorem wl_3 : Cond.selects RX4 yX4_hasDesk yX4_hasDesk ∈ lw_tbl := tb_2 _ (List.mem_of_getElem? (i := 157) rfl)
theorem wl_4 : Cond.initialized RX4 ∈ lw_tbl := tb_1 _ (List.mem_of_getElem? (i := 4) rfl)
theorem wl_5 : Cond.code yX4_hasDesk cX4_hasDesk 2 (some .boolean) ∈ lw_tbl := tb_2 _ (List.mem_of_getElem? (i := 158) rfl)
theorem wl_6 : Cond.methodLink RX4 97 yX4_hasDesk ∈ lw_tbl := tb_2 _ (List.mem_of_getElem? (i := 155) rfl)
theorem wl_7 : Cond.instanceMethod yX4_hasClerk ∈ lw_tbl := tb_2 _ (List.mem_of_getElem? (i := 144) rfl)
theorem wl_8 : Cond.selects RX4 yX4_hasClerk yX4_hasClerk ∈ lw_tbl := tb_2 _ (List.mem_of_getElem? (i := 145) rfl)
theorem wl_9 : Cond.code yX4_hasClerk cX4_hasClerk 2 (some .boolean) ∈ lw_tbl := tb_2 _ (List.mem_of_getElem? (i := 146) rfl)
theorem wl_10 : Cond.methodLink RX4 88 yX4_hasClerk ∈ lw_tbl := tb_2 _ (List.mem_of_getElem? (i := 143) rfl)
theorem wl_11 : Cond.fieldLink RX7 21 "DeskMoves$Office" "desks" "I" ∈ lw_tbl := tb_1 _ (List.mem_of_getElem? (i := 82) rfl)
theorem wl_12 : Cond.fieldLink RX1 21 "DeskMoves$Diary" "size" "I" ∈ lw_tbl := tb_1 _ (List.mem_of_getElem? (i := 185) rfl)
theorem wl_13 : Cond.fieldLink RX10 38 "DeskMoves" "office" "LDeskMoves$Office;" ∈ lw_tbl := tb_2 _ (List.mem_of_getElem? (i := 41) rfl)
theorem wl_14 : Cond.fieldLink RX10 160 "DeskMoves$Office" "desks" "I" ∈ lw_tbl := tb_1 _ (List.mem_of_getElem? (i := 85) rfl)
theorem wl_15 : Cond.instanceMethod yX4_lengthBetween ∈ lw_tbl := tb_3 _ (List.mem_of_getElem? (i := 115) rfl)
theorem wl_16 : Cond.selects RX4 yX4_lengthBetween yX4_lengthBetween ∈ lw_tbl := tb_3 _ (List.mem_of_getElem? (i := 116) rfl)
theorem wl_17 : Cond.code yX4_lengthBetween cX4_lengthBetween 3 (some .int) ∈ lw_tbl := tb_3 _ (List.mem_of_getElem? (i := 117) rfl)
theorem wl_18 : Cond.methodLink RX10 132 yX4_lengthBetween ∈ lw_tbl := tb_3 _ (List.mem_of_getElem? (i := 114) rfl)
theorem wl_19 : Cond.methodLink RX10 136 yX4_hasClerk ∈ lw_tbl := tb_3 _ (List.mem_of_getElem? (i := 122) rfl)
theorem wl_20 : Cond.fieldLink RX10 31 "DeskMoves" "holding" "I" ∈ lw_tbl := tb_2 _ (List.mem_of_getElem? (i := 40) rfl)
theorem wl_21 : Cond.instanceMethod yX10_lawOf ∈ lw_tbl := tb_3 _ (List.mem_of_getElem? (i := 149) rfl)
theorem wl_22 : Cond.selects RX10 yX10_lawOf yX10_lawOf ∈ lw_tbl := List.mem_append_left _ (by decide +kernel)
theorem wl_23 : Cond.initialized RX10 ∈ lw_tbl := tb_1 _ (List.mem_of_getElem? (i := 1) rfl)
theorem wl_24 : Cond.code yX10_lawOf cX10_lawOf 2 (some (.object "DeskMoves$Law")) ∈ lw_tbl := tb_3 _ (List.mem_of_getElem? (i := 150) rfl)
theorem wl_25 : Cond.methodLink RX10 169 yX10_lawOf ∈ lw_tbl := tb_3 _ (List.mem_of_getElem? (i := 147) rfl)
theorem wl_26 : Cond.instanceMethod yX4_hindrance ∈ lw_tbl := tb_3 _ (List.mem_of_getElem? (i := 152) rfl)
theorem wl_27 : Cond.selects RX4 yX4_hindrance yX4_hindrance ∈ lw_tbl := tb_3 _ (List.mem_of_getElem? (i := 153) rfl)
theorem wl_28 : Cond.code yX4_hindrance cX4_hindrance 5 (some .int) ∈ lw_tbl := tb_3 _ (List.mem_of_getElem? (i := 154) rfl)
theorem wl_29 : Cond.methodLink RX10 173 yX4_hindrance ∈ lw_tbl := tb_3 _ (List.mem_of_getElem? (i := 151) rfl)
theorem wl_30 : Cond.fieldLink RX10 58 "DeskMoves" "book" "LDeskMoves$Diary;" ∈ lw_tbl := tb_2 _ (List.mem_of_getElem? (i := 45) rfl)
theorem wl_31 : Cond.fieldLink RX10 188 "DeskMoves$Diary" "size" "I" ∈ lw_tbl := tb_1 _ (List.mem_of_getElem? (i := 186) rfl)
theorem wl_32 : Cond.instanceMethod yX1_moveAt ∈ lw_tbl := tb_3 _ (List.mem_of_getElem? (i := 212) rfl)
theorem wl_33 : Cond.selects RX1 yX1_moveAt yX1_moveAt ∈ lw_tbl := tb_3 _ (List.mem_of_getElem? (i := 213) rfl)
theorem wl_34 : Cond.initialized RX1 ∈ lw_tbl := tb_1 _ (List.mem_of_getElem? (i := 6) rfl)
theorem wl_35 : Cond.code yX1_moveAt cX1_moveAt 2 (some .int) ∈ lw_tbl := tb_3 _ (List.mem_of_getElem? (i := 214) rfl)
theorem wl_36 : Cond.methodLink RX10 195 yX1_moveAt ∈ lw_tbl := tb_3 _ (List.mem_of_getElem? (i := 211) rfl)
theorem wl_37 : Cond.fieldLink RX10 48 "DeskMoves" "plan" "LDeskMoves$Plan;" ∈ lw_tbl := tb_2 _ (List.mem_of_getElem? (i := 43) rfl)
theorem wl_38 : Cond.fieldLink RX10 198 "DeskMoves$Plan" "size" "I" ∈ lw_tbl := tb_1 _ (List.mem_of_getElem? (i := 157) rfl)
theorem wl_39 : Cond.constant RX10 199 (-1000000) ∈ lw_tbl := tb_3 _ (List.mem_of_getElem? (i := 219) rfl)
theorem wl_40 : Cond.methodLink RX10 122 yX4_hasDesk ∈ lw_tbl := tb_4 _ (List.mem_of_getElem? (i := 6) rfl)
theorem wl_41 : Cond.instanceMethod yX10_isSearched ∈ lw_tbl := tb_4 _ (List.mem_of_getElem? (i := 25) rfl)
theorem wl_42 : Cond.selects RX10 yX10_isSearched yX10_isSearched ∈ lw_tbl := List.mem_append_left _ (by decide +kernel)
theorem wl_43 : Cond.code yX10_isSearched cX10_isSearched 1 (some .boolean) ∈ lw_tbl := tb_4 _ (List.mem_of_getElem? (i := 26) rfl)
theorem wl_44 : Cond.methodLink RX10 223 yX10_isSearched ∈ lw_tbl := tb_4 _ (List.mem_of_getElem? (i := 23) rfl)
theorem wl_45 : Cond.fieldLink RX10 65 "DeskMoves" "turns" "LDeskMoves$Turns;" ∈ lw_tbl := tb_2 _ (List.mem_of_getElem? (i := 46) rfl)
theorem wl_46 : Cond.instanceMethod yX7_kindOf ∈ lw_tbl := tb_5 _ (List.mem_of_getElem? (i := 21) rfl)
theorem wl_47 : Cond.selects RX7 yX7_kindOf yX7_kindOf ∈ lw_tbl := tb_5 _ (List.mem_of_getElem? (i := 22) rfl)
theorem wl_48 : Cond.initialized RX7 ∈ lw_tbl := tb_1 _ (List.mem_of_getElem? (i := 7) rfl)
theorem wl_49 : Cond.code yX7_kindOf cX7_kindOf 5 (some .int) ∈ lw_tbl := tb_5 _ (List.mem_of_getElem? (i := 23) rfl)
theorem wl_50 : Cond.methodLink RX10 263 yX7_kindOf ∈ lw_tbl := tb_5 _ (List.mem_of_getElem? (i := 20) rfl)
theorem wl_51 : Cond.fieldLink RX10 317 "DeskMoves$Diary" "kept" "Z" ∈ lw_tbl := tb_1 _ (List.mem_of_getElem? (i := 188) rfl)
theorem wl_52 : Cond.fieldLink RX10 324 "DeskMoves$Office" "clerks" "I" ∈ lw_tbl := tb_1 _ (List.mem_of_getElem? (i := 90) rfl)
theorem wl_53 : Cond.fieldLink RX10 163 "DeskMoves" "lawCount" "I" ∈ lw_tbl := tb_2 _ (List.mem_of_getElem? (i := 39) rfl)
theorem wl_54 : Cond.fieldLink RX10 10 "DeskMoves" "tape" "LDeskMoves$Tape;" ∈ lw_tbl := tb_2 _ (List.mem_of_getElem? (i := 36) rfl)
theorem wl_55 : Cond.fieldLink RX10 93 "DeskMoves$Tape" "length" "I" ∈ lw_tbl := tb_1 _ (List.mem_of_getElem? (i := 40) rfl)
theorem wl_56 : Cond.fieldLink RX11 303 "DeskMovesModel" "desks" "I" ∈ lw_tbl := tb_6 _ (List.mem_of_getElem? (i := 64) rfl)
theorem wl_57 : Cond.static yX11_in ∈ lw_tbl := tb_7 _ (List.mem_of_getElem? (i := 34) rfl)
theorem wl_58 : Cond.initialized RX11 ∈ lw_tbl := tb_1 _ (List.mem_of_getElem? (i := 10) rfl)
theorem wl_59 : Cond.code yX11_in cX11_in 3 (some .boolean) ∈ lw_tbl := tb_7 _ (List.mem_of_getElem? (i := 35) rfl)
theorem wl_60 : Cond.methodLink RX11 274 yX11_in ∈ lw_tbl := tb_7 _ (List.mem_of_getElem? (i := 33) rfl)
theorem wl_61 : Cond.instanceMethod yX11_isClerk ∈ lw_tbl := tb_7 _ (List.mem_of_getElem? (i := 154) rfl)
theorem wl_62 : Cond.selects RX11 yX11_isClerk yX11_isClerk ∈ lw_tbl := List.mem_append_left _ (by decide +kernel)
theorem wl_63 : Cond.code yX11_isClerk cX11_isClerk 2 (some .boolean) ∈ lw_tbl := tb_7 _ (List.mem_of_getElem? (i := 155) rfl)
theorem wl_64 : Cond.methodLink RX11 328 yX11_isClerk ∈ lw_tbl := tb_7 _ (List.mem_of_getElem? (i := 152) rfl)
theorem wl_65 : Cond.instanceMethod yX11_isDesk ∈ lw_tbl := tb_7 _ (List.mem_of_getElem? (i := 142) rfl)
theorem wl_66 : Cond.selects RX11 yX11_isDesk yX11_isDesk ∈ lw_tbl := List.mem_append_left _ (by decide +kernel)
theorem wl_67 : Cond.code yX11_isDesk cX11_isDesk 2 (some .boolean) ∈ lw_tbl := tb_7 _ (List.mem_of_getElem? (i := 143) rfl)
theorem wl_68 : Cond.methodLink RX11 325 yX11_isDesk ∈ lw_tbl := tb_7 _ (List.mem_of_getElem? (i := 140) rfl)
theorem wl_69 : Cond.fieldLink RX11 49 "DeskMovesModel" "seat" "[I" ∈ lw_tbl := tb_6 _ (List.mem_of_getElem? (i := 61) rfl)
theorem wl_70 : Cond.instanceMethod yX11_bars ∈ lw_tbl := tb_7 _ (List.mem_of_getElem? (i := 182) rfl)
theorem wl_71 : Cond.selects RX11 yX11_bars yX11_bars ∈ lw_tbl := List.mem_append_left _ (by decide +kernel)
theorem wl_72 : Cond.code yX11_bars cX11_bars 5 (some .int) ∈ lw_tbl := tb_7 _ (List.mem_of_getElem? (i := 183) rfl)
theorem wl_73 : Cond.methodLink RX11 346 yX11_bars ∈ lw_tbl := tb_7 _ (List.mem_of_getElem? (i := 180) rfl)
theorem wl_74 : Cond.fieldLink RX11 309 "DeskMovesModel" "diaryMany" "I" ∈ lw_tbl := tb_6 _ (List.mem_of_getElem? (i := 76) rfl)
theorem wl_75 : Cond.fieldLink RX11 64 "DeskMovesModel" "planMoves" "I" ∈ lw_tbl := tb_6 _ (List.mem_of_getElem? (i := 69) rfl)
theorem wl_76 : Cond.constant RX11 356 (-1000000) ∈ lw_tbl := tb_7 _ (List.mem_of_getElem? (i := 231) rfl)
theorem wl_77 : Cond.instanceMethod yX11_isSmall ∈ lw_tbl := tb_8 _ (List.mem_of_getElem? (i := 19) rfl)
theorem wl_78 : Cond.selects RX11 yX11_isSmall yX11_isSmall ∈ lw_tbl := List.mem_append_left _ (by decide +kernel)
theorem wl_79 : Cond.code yX11_isSmall cX11_isSmall 1 (some .boolean) ∈ lw_tbl := tb_8 _ (List.mem_of_getElem? (i := 20) rfl)
theorem wl_80 : Cond.methodLink RX11 394 yX11_isSmall ∈ lw_tbl := tb_8 _ (List.mem_of_getElem? (i := 17) rfl)
theorem wl_81 : Cond.fieldLink RX11 315 "DeskMovesModel" "hasImage" "Z" ∈ lw_tbl := tb_6 _ (List.mem_of_getElem? (i := 104) rfl)
theorem wl_82 : Cond.fieldLink RX11 306 "DeskMovesModel" "clerks" "I" ∈ lw_tbl := tb_6 _ (List.mem_of_getElem? (i := 65) rfl)
theorem wl_83 : Cond.fieldLink RX11 322 "DeskMovesModel" "laws" "I" ∈ lw_tbl := tb_6 _ (List.mem_of_getElem? (i := 52) rfl)
theorem wl_84 : Cond.fieldLink RX11 160 "DeskMovesModel" "size" "I" ∈ lw_tbl := tb_6 _ (List.mem_of_getElem? (i := 41) rfl)
theorem wl_85 : Cond.fieldLink RX11 74 "DeskMovesModel" "holding" "I" ∈ lw_tbl := tb_6 _ (List.mem_of_getElem? (i := 72) rfl)
theorem wl_86 : Cond.fieldLink RX11 153 "DeskMovesModel" "thrown" "I" ∈ lw_tbl := tb_6 _ (List.mem_of_getElem? (i := 39) rfl)
theorem wl_87 : Cond.fieldLink RX6 17 "DeskMoves$Tape" "at" "I" ∈ lw_tbl := tb_1 _ (List.mem_of_getElem? (i := 45) rfl)
theorem wl_88 : Cond.fieldLink RX6 13 "DeskMoves$Tape" "length" "I" ∈ lw_tbl := tb_1 _ (List.mem_of_getElem? (i := 41) rfl)
theorem wl_89 : Cond.instanceMethod yX6_look ∈ lw_tbl := tb_2 _ (List.mem_of_getElem? (i := 121) rfl)
theorem wl_90 : Cond.selects RX6 yX6_look yX6_look ∈ lw_tbl := tb_2 _ (List.mem_of_getElem? (i := 122) rfl)
theorem wl_91 : Cond.initialized RX6 ∈ lw_tbl := tb_1 _ (List.mem_of_getElem? (i := 2) rfl)
theorem wl_92 : Cond.code yX6_look cX6_look 1 (some .int) ∈ lw_tbl := tb_2 _ (List.mem_of_getElem? (i := 123) rfl)
theorem wl_93 : Cond.methodLink RX6 20 yX6_look ∈ lw_tbl := tb_2 _ (List.mem_of_getElem? (i := 138) rfl)
theorem wl_94 : Cond.fieldLink RX3 15 "DeskMoves$LawReader" "tape" "LDeskMoves$Tape;" ∈ lw_tbl := tb_1 _ (List.mem_of_getElem? (i := 61) rfl)
theorem wl_95 : Cond.instanceMethod yX6_takes ∈ lw_tbl := tb_2 _ (List.mem_of_getElem? (i := 135) rfl)
theorem wl_96 : Cond.selects RX6 yX6_takes yX6_takes ∈ lw_tbl := tb_2 _ (List.mem_of_getElem? (i := 136) rfl)
theorem wl_97 : Cond.code yX6_takes cX6_takes 2 (some .boolean) ∈ lw_tbl := tb_2 _ (List.mem_of_getElem? (i := 137) rfl)
theorem wl_98 : Cond.methodLink RX3 38 yX6_takes ∈ lw_tbl := tb_2 _ (List.mem_of_getElem? (i := 175) rfl)
theorem wl_99 : Cond.fieldLink RX3 19 "DeskMoves$Tape" "at" "I" ∈ lw_tbl := tb_1 _ (List.mem_of_getElem? (i := 42) rfl)
theorem wl_100 : Cond.fieldLink RX3 23 "DeskMoves$LawReader" "size" "I" ∈ lw_tbl := tb_1 _ (List.mem_of_getElem? (i := 63) rfl)
theorem wl_101 : Cond.fieldLink RX3 26 "DeskMoves$LawReader" "looksBeside" "Z" ∈ lw_tbl := tb_1 _ (List.mem_of_getElem? (i := 64) rfl)
theorem wl_102 : Cond.instanceMethod yX3_readClause ∈ lw_tbl := tb_2 _ (List.mem_of_getElem? (i := 173) rfl)
theorem wl_103 : Cond.selects RX3 yX3_readClause yX3_readClause ∈ lw_tbl := List.mem_append_left _ (by decide +kernel)
theorem wl_104 : Cond.initialized RX3 ∈ lw_tbl := tb_1 _ (List.mem_of_getElem? (i := 3) rfl)
theorem wl_105 : Cond.code yX3_readClause cX3_readClause 3 (some .boolean) ∈ lw_tbl := tb_2 _ (List.mem_of_getElem? (i := 174) rfl)
theorem wl_106 : Cond.methodLink RX3 30 yX3_readClause ∈ lw_tbl := tb_2 _ (List.mem_of_getElem? (i := 171) rfl)
theorem wl_107 : Cond.fieldLink RX5 18 "DeskMoves$Plan" "size" "I" ∈ lw_tbl := tb_1 _ (List.mem_of_getElem? (i := 156) rfl)
theorem wl_108 : Cond.fieldLink RX5 22 "DeskMoves$Tape" "at" "I" ∈ lw_tbl := tb_1 _ (List.mem_of_getElem? (i := 43) rfl)
theorem wl_109 : Cond.methodLink RX5 27 yX6_look ∈ lw_tbl := tb_3 _ (List.mem_of_getElem? (i := 32) rfl)
theorem wl_110 : Cond.methodLink RX4 67 yX6_look ∈ lw_tbl := tb_2 _ (List.mem_of_getElem? (i := 120) rfl)
theorem wl_111 : Cond.instanceMethod yX4_addDesk ∈ lw_tbl := tb_2 _ (List.mem_of_getElem? (i := 141) rfl)
theorem wl_112 : Cond.selects RX4 yX4_addDesk yX4_addDesk ∈ lw_tbl := List.mem_append_left _ (by decide +kernel)
theorem wl_113 : Cond.code yX4_addDesk cX4_addDesk 4 (some .boolean) ∈ lw_tbl := tb_2 _ (List.mem_of_getElem? (i := 142) rfl)
theorem wl_114 : Cond.methodLink RX4 79 yX4_addDesk ∈ lw_tbl := tb_2 _ (List.mem_of_getElem? (i := 139) rfl)
theorem wl_115 : Cond.fieldLink RX4 9 "DeskMoves$Office" "seat" "[I" ∈ lw_tbl := tb_1 _ (List.mem_of_getElem? (i := 91) rfl)
theorem wl_116 : Cond.static yJ7_fill_53178 ∈ lw_tbl := tb_2 _ (List.mem_of_getElem? (i := 34) rfl)
theorem wl_117 : Cond.initialized RJ7 ∈ lw_tbl := tb_1 _ (List.mem_of_getElem? (i := 9) rfl)
theorem wl_118 : Cond.code yJ7_fill_53178 cJ7_fill_53178 4 none ∈ lw_tbl := tb_2 _ (List.mem_of_getElem? (i := 35) rfl)
theorem wl_119 : Cond.methodLink RX4 46 yJ7_fill_53178 ∈ lw_tbl := tb_2 _ (List.mem_of_getElem? (i := 115) rfl)
theorem wl_120 : Cond.fieldLink RX4 15 "DeskMoves$Office" "place" "[I" ∈ lw_tbl := tb_1 _ (List.mem_of_getElem? (i := 98) rfl)
theorem wl_121 : Cond.fieldLink RX4 18 "DeskMoves$Office" "lengths" "[I" ∈ lw_tbl := tb_1 _ (List.mem_of_getElem? (i := 102) rfl)
theorem wl_122 : Cond.fieldLink RX4 21 "DeskMoves$Office" "beside" "[I" ∈ lw_tbl := tb_1 _ (List.mem_of_getElem? (i := 105) rfl)
theorem wl_123 : Cond.fieldLink RX4 24 "DeskMoves$Office" "foes" "[I" ∈ lw_tbl := tb_1 _ (List.mem_of_getElem? (i := 108) rfl)
theorem wl_124 : Cond.fieldLink RX4 27 "DeskMoves$Office" "rank" "[I" ∈ lw_tbl := tb_1 _ (List.mem_of_getElem? (i := 111) rfl)
theorem wl_125 : Cond.fieldLink RX4 30 "DeskMoves$Office" "papers" "[I" ∈ lw_tbl := tb_1 _ (List.mem_of_getElem? (i := 115) rfl)
theorem wl_126 : Cond.fieldLink RX4 33 "DeskMoves$Office" "wishes" "[I" ∈ lw_tbl := tb_1 _ (List.mem_of_getElem? (i := 119) rfl)
theorem wl_127 : Cond.fieldLink RX4 36 "DeskMoves$Office" "worths" "[I" ∈ lw_tbl := tb_1 _ (List.mem_of_getElem? (i := 123) rfl)
theorem wl_128 : Cond.instanceMethod yX4_clear ∈ lw_tbl := tb_2 _ (List.mem_of_getElem? (i := 112) rfl)
theorem wl_129 : Cond.selects RX4 yX4_clear yX4_clear ∈ lw_tbl := tb_2 _ (List.mem_of_getElem? (i := 113) rfl)
theorem wl_130 : Cond.code yX4_clear cX4_clear 1 none ∈ lw_tbl := tb_2 _ (List.mem_of_getElem? (i := 114) rfl)
theorem wl_131 : Cond.methodLink RX4 52 yX4_clear ∈ lw_tbl := tb_2 _ (List.mem_of_getElem? (i := 111) rfl)
theorem wl_132 : Cond.fieldLink RX4 55 "DeskMoves$Tape" "at" "I" ∈ lw_tbl := tb_1 _ (List.mem_of_getElem? (i := 44) rfl)
theorem wl_133 : Cond.instanceMethod yX4_readSeats ∈ lw_tbl := tb_2 _ (List.mem_of_getElem? (i := 118) rfl)
theorem wl_134 : Cond.selects RX4 yX4_readSeats yX4_readSeats ∈ lw_tbl := List.mem_append_left _ (by decide +kernel)
theorem wl_135 : Cond.code yX4_readSeats cX4_readSeats 4 (some .boolean) ∈ lw_tbl := tb_2 _ (List.mem_of_getElem? (i := 119) rfl)
theorem wl_136 : Cond.methodLink RX4 60 yX4_readSeats ∈ lw_tbl := tb_2 _ (List.mem_of_getElem? (i := 116) rfl)
theorem wl_137 : Cond.fieldLink RX10 42 "DeskMoves" "spareOffice" "LDeskMoves$Office;" ∈ lw_tbl := tb_2 _ (List.mem_of_getElem? (i := 42) rfl)
theorem wl_138 : Cond.instanceMethod yX4_isReadFrom ∈ lw_tbl := tb_2 _ (List.mem_of_getElem? (i := 108) rfl)
theorem wl_139 : Cond.selects RX4 yX4_isReadFrom yX4_isReadFrom ∈ lw_tbl := tb_2 _ (List.mem_of_getElem? (i := 109) rfl)
theorem wl_140 : Cond.code yX4_isReadFrom cX4_isReadFrom 2 (some .boolean) ∈ lw_tbl := tb_2 _ (List.mem_of_getElem? (i := 110) rfl)
theorem wl_141 : Cond.methodLink RX10 100 yX4_isReadFrom ∈ lw_tbl := tb_2 _ (List.mem_of_getElem? (i := 107) rfl)
theorem wl_142 : Cond.fieldLink RX10 21 "DeskMoves" "lawReader" "LDeskMoves$LawReader;" ∈ lw_tbl := tb_2 _ (List.mem_of_getElem? (i := 37) rfl)
theorem wl_143 : Cond.instanceMethod yX3_isRead ∈ lw_tbl := tb_2 _ (List.mem_of_getElem? (i := 168) rfl)
theorem wl_144 : Cond.selects RX3 yX3_isRead yX3_isRead ∈ lw_tbl := tb_2 _ (List.mem_of_getElem? (i := 169) rfl)
theorem wl_145 : Cond.code yX3_isRead cX3_isRead 2 (some .boolean) ∈ lw_tbl := tb_2 _ (List.mem_of_getElem? (i := 170) rfl)
theorem wl_146 : Cond.methodLink RX10 104 yX3_isRead ∈ lw_tbl := tb_2 _ (List.mem_of_getElem? (i := 167) rfl)
theorem wl_147 : Cond.instanceMethod yX10_takePlan ∈ lw_tbl := tb_3 _ (List.mem_of_getElem? (i := 108) rfl)
theorem wl_148 : Cond.selects RX10 yX10_takePlan yX10_takePlan ∈ lw_tbl := List.mem_append_left _ (by decide +kernel)
theorem wl_149 : Cond.code yX10_takePlan cX10_takePlan 2 (some .int) ∈ lw_tbl := tb_3 _ (List.mem_of_getElem? (i := 109) rfl)
theorem wl_150 : Cond.methodLink RX10 119 yX10_takePlan ∈ lw_tbl := tb_3 _ (List.mem_of_getElem? (i := 106) rfl)
theorem wl_151 : Cond.instanceMethod yX10_takeLaw ∈ lw_tbl := tb_3 _ (List.mem_of_getElem? (i := 61) rfl)
theorem wl_152 : Cond.selects RX10 yX10_takeLaw yX10_takeLaw ∈ lw_tbl := List.mem_append_left _ (by decide +kernel)
theorem wl_153 : Cond.code yX10_takeLaw cX10_takeLaw 1 (some .int) ∈ lw_tbl := tb_3 _ (List.mem_of_getElem? (i := 62) rfl)
theorem wl_154 : Cond.methodLink RX10 116 yX10_takeLaw ∈ lw_tbl := tb_3 _ (List.mem_of_getElem? (i := 59) rfl)
theorem wl_155 : Cond.instanceMethod yX10_takeOffice ∈ lw_tbl := tb_3 _ (List.mem_of_getElem? (i := 41) rfl)
theorem wl_156 : Cond.selects RX10 yX10_takeOffice yX10_takeOffice ∈ lw_tbl := List.mem_append_left _ (by decide +kernel)
theorem wl_157 : Cond.code yX10_takeOffice cX10_takeOffice 2 (some .int) ∈ lw_tbl := tb_3 _ (List.mem_of_getElem? (i := 42) rfl)
theorem wl_158 : Cond.methodLink RX10 112 yX10_takeOffice ∈ lw_tbl := tb_3 _ (List.mem_of_getElem? (i := 39) rfl)
theorem wl_159 : Cond.fieldLink RX10 52 "DeskMoves" "sparePlan" "LDeskMoves$Plan;" ∈ lw_tbl := tb_2 _ (List.mem_of_getElem? (i := 44) rfl)
theorem wl_160 : Cond.instanceMethod yX5_isReadFrom ∈ lw_tbl := tb_3 _ (List.mem_of_getElem? (i := 29) rfl)
theorem wl_161 : Cond.selects RX5 yX5_isReadFrom yX5_isReadFrom ∈ lw_tbl := tb_3 _ (List.mem_of_getElem? (i := 30) rfl)
theorem wl_162 : Cond.initialized RX5 ∈ lw_tbl := tb_1 _ (List.mem_of_getElem? (i := 5) rfl)
theorem wl_163 : Cond.code yX5_isReadFrom cX5_isReadFrom 5 (some .boolean) ∈ lw_tbl := tb_3 _ (List.mem_of_getElem? (i := 31) rfl)
theorem wl_164 : Cond.methodLink RX10 108 yX5_isReadFrom ∈ lw_tbl := tb_3 _ (List.mem_of_getElem? (i := 28) rfl)
theorem wl_165 : Cond.fieldLink RX10 109 "DeskMoves$Tape" "at" "I" ∈ lw_tbl := tb_1 _ (List.mem_of_getElem? (i := 46) rfl)
theorem wl_166 : Cond.fieldLink RX6 9 "DeskMoves$Tape" "bytes" "[I" ∈ lw_tbl := tb_1 _ (List.mem_of_getElem? (i := 39) rfl)
theorem wl_167 : Cond.static yX6_signsIn ∈ lw_tbl := tb_2 _ (List.mem_of_getElem? (i := 93) rfl)
theorem wl_168 : Cond.code yX6_signsIn cX6_signsIn 3 (some .int) ∈ lw_tbl := tb_2 _ (List.mem_of_getElem? (i := 94) rfl)
theorem wl_169 : Cond.methodLink RX10 89 yX6_signsIn ∈ lw_tbl := tb_2 _ (List.mem_of_getElem? (i := 92) rfl)
theorem wl_170 : Cond.instanceMethod yX6_append ∈ lw_tbl := tb_2 _ (List.mem_of_getElem? (i := 96) rfl)
theorem wl_171 : Cond.selects RX6 yX6_append yX6_append ∈ lw_tbl := tb_2 _ (List.mem_of_getElem? (i := 97) rfl)
theorem wl_172 : Cond.code yX6_append cX6_append 4 none ∈ lw_tbl := tb_2 _ (List.mem_of_getElem? (i := 98) rfl)
theorem wl_173 : Cond.methodLink RX10 96 yX6_append ∈ lw_tbl := tb_2 _ (List.mem_of_getElem? (i := 95) rfl)
theorem wl_174 : Cond.fieldLink RX11 163 "DeskMovesModel" "at" "I" ∈ lw_tbl := tb_6 _ (List.mem_of_getElem? (i := 42) rfl)
theorem wl_175 : Cond.instanceMethod yX11_here ∈ lw_tbl := tb_7 _ (List.mem_of_getElem? (i := 31) rfl)
theorem wl_176 : Cond.selects RX11 yX11_here yX11_here ∈ lw_tbl := List.mem_append_left _ (by decide +kernel)
theorem wl_177 : Cond.code yX11_here cX11_here 1 (some .int) ∈ lw_tbl := tb_7 _ (List.mem_of_getElem? (i := 32) rfl)
theorem wl_178 : Cond.methodLink RX11 166 yX11_here ∈ lw_tbl := tb_7 _ (List.mem_of_getElem? (i := 29) rfl)
theorem wl_179 : Cond.fieldLink RX11 170 "DeskMovesModel" "wrong" "I" ∈ lw_tbl := tb_6 _ (List.mem_of_getElem? (i := 43) rfl)
theorem wl_180 : Cond.fieldLink RX11 268 "DeskMovesModel" "readDesks" "I" ∈ lw_tbl := tb_6 _ (List.mem_of_getElem? (i := 59) rfl)
theorem wl_181 : Cond.fieldLink RX11 271 "DeskMovesModel" "readClerks" "I" ∈ lw_tbl := tb_6 _ (List.mem_of_getElem? (i := 60) rfl)
theorem wl_182 : Cond.instanceMethod yX11_look ∈ lw_tbl := tb_7 _ (List.mem_of_getElem? (i := 27) rfl)
theorem wl_183 : Cond.selects RX11 yX11_look yX11_look ∈ lw_tbl := List.mem_append_left _ (by decide +kernel)
theorem wl_184 : Cond.code yX11_look cX11_look 1 (some .int) ∈ lw_tbl := tb_7 _ (List.mem_of_getElem? (i := 28) rfl)
theorem wl_185 : Cond.methodLink RX11 182 yX11_look ∈ lw_tbl := tb_7 _ (List.mem_of_getElem? (i := 25) rfl)
theorem wl_186 : Cond.instanceMethod yX11_bad ∈ lw_tbl := tb_7 _ (List.mem_of_getElem? (i := 41) rfl)
theorem wl_187 : Cond.selects RX11 yX11_bad yX11_bad ∈ lw_tbl := List.mem_append_left _ (by decide +kernel)
theorem wl_188 : Cond.code yX11_bad cX11_bad 1 none ∈ lw_tbl := tb_7 _ (List.mem_of_getElem? (i := 42) rfl)
theorem wl_189 : Cond.methodLink RX11 179 yX11_bad ∈ lw_tbl := tb_7 _ (List.mem_of_getElem? (i := 39) rfl)
theorem wl_190 : Cond.fieldLink RX11 173 "DeskMovesModel" "text" "I" ∈ lw_tbl := tb_6 _ (List.mem_of_getElem? (i := 53) rfl)
theorem wl_191 : Cond.fieldLink RX11 176 "DeskMovesModel" "deep" "I" ∈ lw_tbl := tb_6 _ (List.mem_of_getElem? (i := 44) rfl)
theorem wl_192 : Cond.fieldLink RX11 19 "DeskMovesModel" "codes" "[I" ∈ lw_tbl := tb_6 _ (List.mem_of_getElem? (i := 47) rfl)
theorem wl_193 : Cond.fieldLink RX11 22 "DeskMovesModel" "clauses" "[I" ∈ lw_tbl := tb_6 _ (List.mem_of_getElem? (i := 48) rfl)
theorem wl_194 : Cond.instanceMethod yX11_open ∈ lw_tbl := tb_7 _ (List.mem_of_getElem? (i := 61) rfl)
theorem wl_195 : Cond.selects RX11 yX11_open yX11_open ∈ lw_tbl := List.mem_append_left _ (by decide +kernel)
theorem wl_196 : Cond.code yX11_open cX11_open 2 none ∈ lw_tbl := tb_7 _ (List.mem_of_getElem? (i := 62) rfl)
theorem wl_197 : Cond.methodLink RX11 234 yX11_open ∈ lw_tbl := tb_7 _ (List.mem_of_getElem? (i := 59) rfl)
theorem wl_198 : Cond.instanceMethod yX11_clause ∈ lw_tbl := tb_7 _ (List.mem_of_getElem? (i := 65) rfl)
theorem wl_199 : Cond.selects RX11 yX11_clause yX11_clause ∈ lw_tbl := List.mem_append_left _ (by decide +kernel)
theorem wl_200 : Cond.code yX11_clause cX11_clause 3 none ∈ lw_tbl := tb_7 _ (List.mem_of_getElem? (i := 66) rfl)
theorem wl_201 : Cond.methodLink RX11 237 yX11_clause ∈ lw_tbl := tb_7 _ (List.mem_of_getElem? (i := 63) rfl)
theorem wl_202 : Cond.instanceMethod yX11_atEnd ∈ lw_tbl := tb_7 _ (List.mem_of_getElem? (i := 53) rfl)
theorem wl_203 : Cond.selects RX11 yX11_atEnd yX11_atEnd ∈ lw_tbl := List.mem_append_left _ (by decide +kernel)
theorem wl_204 : Cond.code yX11_atEnd cX11_atEnd 1 (some .int) ∈ lw_tbl := tb_7 _ (List.mem_of_getElem? (i := 54) rfl)
theorem wl_205 : Cond.methodLink RX11 240 yX11_atEnd ∈ lw_tbl := tb_7 _ (List.mem_of_getElem? (i := 51) rfl)
theorem wl_206 : Cond.fieldLink RX11 46 "DeskMovesModel" "readQuarrel" "[I" ∈ lw_tbl := tb_6 _ (List.mem_of_getElem? (i := 58) rfl)
theorem wl_207 : Cond.instanceMethod yX11_seats ∈ lw_tbl := tb_7 _ (List.mem_of_getElem? (i := 23) rfl)
theorem wl_208 : Cond.selects RX11 yX11_seats yX11_seats ∈ lw_tbl := List.mem_append_left _ (by decide +kernel)
theorem wl_209 : Cond.code yX11_seats cX11_seats 3 none ∈ lw_tbl := tb_7 _ (List.mem_of_getElem? (i := 24) rfl)
theorem wl_210 : Cond.methodLink RX11 282 yX11_seats ∈ lw_tbl := tb_7 _ (List.mem_of_getElem? (i := 21) rfl)
theorem wl_211 : Cond.fieldLink RX11 291 "DeskMovesModel" "readMoves" "I" ∈ lw_tbl := tb_6 _ (List.mem_of_getElem? (i := 67) rfl)
theorem wl_212 : Cond.instanceMethod yX11_readPlan ∈ lw_tbl := tb_7 _ (List.mem_of_getElem? (i := 126) rfl)
theorem wl_213 : Cond.selects RX11 yX11_readPlan yX11_readPlan ∈ lw_tbl := List.mem_append_left _ (by decide +kernel)
theorem wl_214 : Cond.code yX11_readPlan cX11_readPlan 4 (some .int) ∈ lw_tbl := tb_7 _ (List.mem_of_getElem? (i := 127) rfl)
theorem wl_215 : Cond.methodLink RX11 300 yX11_readPlan ∈ lw_tbl := tb_7 _ (List.mem_of_getElem? (i := 124) rfl)
theorem wl_216 : Cond.instanceMethod yX11_readLaw ∈ lw_tbl := tb_7 _ (List.mem_of_getElem? (i := 57) rfl)
theorem wl_217 : Cond.selects RX11 yX11_readLaw yX11_readLaw ∈ lw_tbl := List.mem_append_left _ (by decide +kernel)
theorem wl_218 : Cond.code yX11_readLaw cX11_readLaw 2 (some .int) ∈ lw_tbl := tb_7 _ (List.mem_of_getElem? (i := 58) rfl)
theorem wl_219 : Cond.methodLink RX11 297 yX11_readLaw ∈ lw_tbl := tb_7 _ (List.mem_of_getElem? (i := 55) rfl)
theorem wl_220 : Cond.instanceMethod yX11_readOffice ∈ lw_tbl := tb_7 _ (List.mem_of_getElem? (i := 19) rfl)
theorem wl_221 : Cond.selects RX11 yX11_readOffice yX11_readOffice ∈ lw_tbl := List.mem_append_left _ (by decide +kernel)
theorem wl_222 : Cond.code yX11_readOffice cX11_readOffice 2 (some .int) ∈ lw_tbl := tb_7 _ (List.mem_of_getElem? (i := 20) rfl)
theorem wl_223 : Cond.methodLink RX11 294 yX11_readOffice ∈ lw_tbl := tb_7 _ (List.mem_of_getElem? (i := 17) rfl)
theorem wl_224 : Cond.fieldLink RX11 9 "DeskMovesModel" "tape" "[I" ∈ lw_tbl := tb_6 _ (List.mem_of_getElem? (i := 40) rfl)
theorem wl_225 : Cond.static yX11_byteOf ∈ lw_tbl := tb_7 _ (List.mem_of_getElem? (i := 7) rfl)
theorem wl_226 : Cond.code yX11_byteOf cX11_byteOf 7 (some .int) ∈ lw_tbl := tb_7 _ (List.mem_of_getElem? (i := 8) rfl)
theorem wl_227 : Cond.methodLink RX11 156 yX11_byteOf ∈ lw_tbl := tb_7 _ (List.mem_of_getElem? (i := 6) rfl)
theorem wl_228 : Cond.methodLink RX6 1 objectInit ∈ lw_tbl := tb_1 _ (List.mem_of_getElem? (i := 38) rfl)
theorem wl_229 : Cond.instanceMethod objectInit ∈ lw_tbl := tb_1 _ (List.mem_of_getElem? (i := 31) rfl)
theorem wl_230 : Cond.code objectInit ⟨#[0xb1]⟩ 1 none ∈ lw_tbl := tb_1 _ (List.mem_of_getElem? (i := 32) rfl)
theorem wl_231 : Cond.arrayClass .int ∈ lw_tbl := tb_1 _ (List.mem_of_getElem? (i := 54) rfl)
theorem wl_232 : Cond.methodLink RX3 1 objectInit ∈ lw_tbl := tb_1 _ (List.mem_of_getElem? (i := 60) rfl)
theorem wl_233 : Cond.fieldLink RX3 9 "DeskMoves$LawReader" "items" "[I" ∈ lw_tbl := tb_1 _ (List.mem_of_getElem? (i := 62) rfl)
theorem wl_234 : Cond.methodLink RX4 3 objectInit ∈ lw_tbl := tb_1 _ (List.mem_of_getElem? (i := 81) rfl)
theorem wl_235 : Cond.methodLink RX5 3 objectInit ∈ lw_tbl := tb_1 _ (List.mem_of_getElem? (i := 154) rfl)
theorem wl_236 : Cond.fieldLink RX5 11 "DeskMoves$Plan" "moves" "[I" ∈ lw_tbl := tb_1 _ (List.mem_of_getElem? (i := 155) rfl)
theorem wl_237 : Cond.fieldLink RX5 15 "DeskMoves$Plan" "before" "[I" ∈ lw_tbl := tb_1 _ (List.mem_of_getElem? (i := 158) rfl)
theorem wl_238 : Cond.methodLink RX1 3 objectInit ∈ lw_tbl := tb_1 _ (List.mem_of_getElem? (i := 183) rfl)
theorem wl_239 : Cond.fieldLink RX1 11 "DeskMoves$Diary" "moves" "[I" ∈ lw_tbl := tb_1 _ (List.mem_of_getElem? (i := 184) rfl)
theorem wl_240 : Cond.fieldLink RX1 15 "DeskMoves$Diary" "keptMoves" "[I" ∈ lw_tbl := tb_1 _ (List.mem_of_getElem? (i := 189) rfl)
theorem wl_241 : Cond.fieldLink RX1 18 "DeskMoves$Diary" "keptSeats" "[I" ∈ lw_tbl := tb_1 _ (List.mem_of_getElem? (i := 191) rfl)
theorem wl_242 : Cond.methodLink RX7 3 objectInit ∈ lw_tbl := tb_1 _ (List.mem_of_getElem? (i := 210) rfl)
theorem wl_243 : Cond.fieldLink RX7 9 "DeskMoves$Turns" "round" "[I" ∈ lw_tbl := tb_1 _ (List.mem_of_getElem? (i := 211) rfl)
theorem wl_244 : Cond.fieldLink RX7 15 "DeskMoves$Turns" "now" "[I" ∈ lw_tbl := tb_1 _ (List.mem_of_getElem? (i := 212) rfl)
theorem wl_245 : Cond.fieldLink RX7 18 "DeskMoves$Turns" "then" "[I" ∈ lw_tbl := tb_1 _ (List.mem_of_getElem? (i := 213) rfl)
theorem wl_246 : Cond.methodLink RX9 3 objectInit ∈ lw_tbl := tb_1 _ (List.mem_of_getElem? (i := 226) rfl)
theorem wl_247 : Cond.fieldLink RX9 9 "DeskMoves$Wealth" "sums" "[I" ∈ lw_tbl := tb_1 _ (List.mem_of_getElem? (i := 227) rfl)
theorem wl_248 : Cond.fieldLink RX9 15 "DeskMoves$Wealth" "told" "[I" ∈ lw_tbl := tb_1 _ (List.mem_of_getElem? (i := 228) rfl)
theorem wl_249 : Cond.fieldLink RX9 18 "DeskMoves$Wealth" "who" "[I" ∈ lw_tbl := tb_1 _ (List.mem_of_getElem? (i := 229) rfl)
theorem wl_250 : Cond.fieldLink RX9 21 "DeskMoves$Wealth" "bestDesk" "[I" ∈ lw_tbl := tb_1 _ (List.mem_of_getElem? (i := 233) rfl)
theorem wl_251 : Cond.fieldLink RX9 24 "DeskMoves$Wealth" "gain" "[I" ∈ lw_tbl := tb_1 _ (List.mem_of_getElem? (i := 235) rfl)
theorem wl_252 : Cond.fieldLink RX9 27 "DeskMoves$Wealth" "gainDesk" "[I" ∈ lw_tbl := tb_1 _ (List.mem_of_getElem? (i := 237) rfl)
theorem wl_253 : Cond.fieldLink RX9 30 "DeskMoves$Wealth" "got" "[I" ∈ lw_tbl := tb_1 _ (List.mem_of_getElem? (i := 239) rfl)
theorem wl_254 : Cond.fieldLink RX9 33 "DeskMoves$Wealth" "pointed" "[I" ∈ lw_tbl := tb_2 _ (List.mem_of_getElem? (i := 1) rfl)
theorem wl_255 : Cond.methodLink RX10 1 objectInit ∈ lw_tbl := tb_1 _ (List.mem_of_getElem? (i := 30) rfl)
theorem wl_256 : Cond.classLink RX10 7 RX6 ∈ lw_tbl := tb_1 _ (List.mem_of_getElem? (i := 33) rfl)
theorem wl_257 : Cond.instantiable RX6 3 ∈ lw_tbl := tb_1 _ (List.mem_of_getElem? (i := 34) rfl)
theorem wl_258 : Cond.instanceMethod yX6_init ∈ lw_tbl := tb_1 _ (List.mem_of_getElem? (i := 36) rfl)
theorem wl_259 : Cond.code yX6_init cX6_init 1 none ∈ lw_tbl := tb_1 _ (List.mem_of_getElem? (i := 37) rfl)
theorem wl_260 : Cond.methodLink RX10 9 yX6_init ∈ lw_tbl := tb_1 _ (List.mem_of_getElem? (i := 35) rfl)
theorem wl_261 : Cond.classLink RX10 16 RX3 ∈ lw_tbl := tb_1 _ (List.mem_of_getElem? (i := 55) rfl)
theorem wl_262 : Cond.instantiable RX3 4 ∈ lw_tbl := tb_1 _ (List.mem_of_getElem? (i := 56) rfl)
theorem wl_263 : Cond.instanceMethod yX3_init ∈ lw_tbl := tb_1 _ (List.mem_of_getElem? (i := 58) rfl)
theorem wl_264 : Cond.code yX3_init cX3_init 2 none ∈ lw_tbl := tb_1 _ (List.mem_of_getElem? (i := 59) rfl)
theorem wl_265 : Cond.methodLink RX10 18 yX3_init ∈ lw_tbl := tb_1 _ (List.mem_of_getElem? (i := 57) rfl)
theorem wl_266 : Cond.classLink RX10 25 RX2 ∈ lw_tbl := tb_1 _ (List.mem_of_getElem? (i := 74) rfl)
theorem wl_267 : Cond.fieldLink RX10 27 "DeskMoves" "laws" "[LDeskMoves$Law;" ∈ lw_tbl := tb_2 _ (List.mem_of_getElem? (i := 38) rfl)
theorem wl_268 : Cond.classLink RX10 35 RX4 ∈ lw_tbl := tb_1 _ (List.mem_of_getElem? (i := 76) rfl)
theorem wl_269 : Cond.instantiable RX4 11 ∈ lw_tbl := tb_1 _ (List.mem_of_getElem? (i := 77) rfl)
theorem wl_270 : Cond.instanceMethod yX4_init ∈ lw_tbl := tb_1 _ (List.mem_of_getElem? (i := 79) rfl)
theorem wl_271 : Cond.code yX4_init cX4_init 1 none ∈ lw_tbl := tb_1 _ (List.mem_of_getElem? (i := 80) rfl)
theorem wl_272 : Cond.methodLink RX10 37 yX4_init ∈ lw_tbl := tb_1 _ (List.mem_of_getElem? (i := 78) rfl)
theorem wl_273 : Cond.classLink RX10 45 RX5 ∈ lw_tbl := tb_1 _ (List.mem_of_getElem? (i := 149) rfl)
theorem wl_274 : Cond.instantiable RX5 6 ∈ lw_tbl := tb_1 _ (List.mem_of_getElem? (i := 150) rfl)
theorem wl_275 : Cond.instanceMethod yX5_init ∈ lw_tbl := tb_1 _ (List.mem_of_getElem? (i := 152) rfl)
theorem wl_276 : Cond.code yX5_init cX5_init 1 none ∈ lw_tbl := tb_1 _ (List.mem_of_getElem? (i := 153) rfl)
theorem wl_277 : Cond.methodLink RX10 47 yX5_init ∈ lw_tbl := tb_1 _ (List.mem_of_getElem? (i := 151) rfl)
theorem wl_278 : Cond.classLink RX10 55 RX1 ∈ lw_tbl := tb_1 _ (List.mem_of_getElem? (i := 178) rfl)
theorem wl_279 : Cond.instantiable RX1 6 ∈ lw_tbl := tb_1 _ (List.mem_of_getElem? (i := 179) rfl)
theorem wl_280 : Cond.instanceMethod yX1_init ∈ lw_tbl := tb_1 _ (List.mem_of_getElem? (i := 181) rfl)
theorem wl_281 : Cond.code yX1_init cX1_init 1 none ∈ lw_tbl := tb_1 _ (List.mem_of_getElem? (i := 182) rfl)
theorem wl_282 : Cond.methodLink RX10 57 yX1_init ∈ lw_tbl := tb_1 _ (List.mem_of_getElem? (i := 180) rfl)
theorem wl_283 : Cond.classLink RX10 62 RX7 ∈ lw_tbl := tb_1 _ (List.mem_of_getElem? (i := 205) rfl)
theorem wl_284 : Cond.instantiable RX7 3 ∈ lw_tbl := tb_1 _ (List.mem_of_getElem? (i := 206) rfl)
theorem wl_285 : Cond.instanceMethod yX7_init ∈ lw_tbl := tb_1 _ (List.mem_of_getElem? (i := 208) rfl)
theorem wl_286 : Cond.code yX7_init cX7_init 1 none ∈ lw_tbl := tb_1 _ (List.mem_of_getElem? (i := 209) rfl)
theorem wl_287 : Cond.methodLink RX10 64 yX7_init ∈ lw_tbl := tb_1 _ (List.mem_of_getElem? (i := 207) rfl)
theorem wl_288 : Cond.classLink RX10 69 RX9 ∈ lw_tbl := tb_1 _ (List.mem_of_getElem? (i := 221) rfl)
theorem wl_289 : Cond.instantiable RX9 14 ∈ lw_tbl := tb_1 _ (List.mem_of_getElem? (i := 222) rfl)
theorem wl_290 : Cond.initialized RX9 ∈ lw_tbl := tb_1 _ (List.mem_of_getElem? (i := 8) rfl)
theorem wl_291 : Cond.instanceMethod yX9_init ∈ lw_tbl := tb_1 _ (List.mem_of_getElem? (i := 224) rfl)
theorem wl_292 : Cond.code yX9_init cX9_init 1 none ∈ lw_tbl := tb_1 _ (List.mem_of_getElem? (i := 225) rfl)
theorem wl_293 : Cond.methodLink RX10 71 yX9_init ∈ lw_tbl := tb_1 _ (List.mem_of_getElem? (i := 223) rfl)
theorem wl_294 : Cond.fieldLink RX10 72 "DeskMoves" "wealth" "LDeskMoves$Wealth;" ∈ lw_tbl := tb_2 _ (List.mem_of_getElem? (i := 47) rfl)
theorem wl_295 : Cond.fieldLink RX10 76 "DeskMoves" "exploredLaw" "I" ∈ lw_tbl := tb_2 _ (List.mem_of_getElem? (i := 51) rfl)
theorem wl_296 : Cond.fieldLink RX10 79 "DeskMoves" "least" "[I" ∈ lw_tbl := tb_2 _ (List.mem_of_getElem? (i := 52) rfl)
theorem wl_297 : Cond.methodLink RX10 83 yJ7_fill_53178 ∈ lw_tbl := tb_2 _ (List.mem_of_getElem? (i := 33) rfl)
theorem wl_298 : Cond.methodLink RX11 3 objectInit ∈ lw_tbl := tb_6 _ (List.mem_of_getElem? (i := 34) rfl)
theorem wl_299 : Cond.fieldLink RX11 13 "DeskMovesModel" "code" "[I" ∈ lw_tbl := tb_6 _ (List.mem_of_getElem? (i := 45) rfl)
theorem wl_300 : Cond.fieldLink RX11 16 "DeskMovesModel" "value" "[I" ∈ lw_tbl := tb_6 _ (List.mem_of_getElem? (i := 46) rfl)
theorem wl_301 : Cond.fieldLink RX11 25 "DeskMovesModel" "testFrom" "[I" ∈ lw_tbl := tb_6 _ (List.mem_of_getElem? (i := 49) rfl)
theorem wl_302 : Cond.fieldLink RX11 28 "DeskMovesModel" "sumFrom" "[I" ∈ lw_tbl := tb_6 _ (List.mem_of_getElem? (i := 50) rfl)
theorem wl_303 : Cond.fieldLink RX11 31 "DeskMovesModel" "sumTo" "[I" ∈ lw_tbl := tb_6 _ (List.mem_of_getElem? (i := 51) rfl)
theorem wl_304 : Cond.fieldLink RX11 34 "DeskMovesModel" "letters" "[I" ∈ lw_tbl := tb_6 _ (List.mem_of_getElem? (i := 54) rfl)
theorem wl_305 : Cond.fieldLink RX11 37 "DeskMovesModel" "stack" "[I" ∈ lw_tbl := tb_6 _ (List.mem_of_getElem? (i := 55) rfl)
theorem wl_306 : Cond.fieldLink RX11 40 "DeskMovesModel" "readSeat" "[I" ∈ lw_tbl := tb_6 _ (List.mem_of_getElem? (i := 56) rfl)
theorem wl_307 : Cond.fieldLink RX11 43 "DeskMovesModel" "readDoor" "[I" ∈ lw_tbl := tb_6 _ (List.mem_of_getElem? (i := 57) rfl)
theorem wl_308 : Cond.fieldLink RX11 52 "DeskMovesModel" "doors" "[I" ∈ lw_tbl := tb_6 _ (List.mem_of_getElem? (i := 62) rfl)
theorem wl_309 : Cond.fieldLink RX11 55 "DeskMovesModel" "quarrels" "[I" ∈ lw_tbl := tb_6 _ (List.mem_of_getElem? (i := 63) rfl)
theorem wl_310 : Cond.fieldLink RX11 58 "DeskMovesModel" "readMove" "[I" ∈ lw_tbl := tb_6 _ (List.mem_of_getElem? (i := 66) rfl)
theorem wl_311 : Cond.fieldLink RX11 61 "DeskMovesModel" "plan" "[I" ∈ lw_tbl := tb_6 _ (List.mem_of_getElem? (i := 68) rfl)
theorem wl_312 : Cond.fieldLink RX11 68 "DeskMovesModel" "ranks" "[I" ∈ lw_tbl := tb_6 _ (List.mem_of_getElem? (i := 70) rfl)
theorem wl_313 : Cond.fieldLink RX11 71 "DeskMovesModel" "papers" "[I" ∈ lw_tbl := tb_6 _ (List.mem_of_getElem? (i := 71) rfl)
theorem wl_314 : Cond.fieldLink RX11 77 "DeskMovesModel" "diaryMove" "[I" ∈ lw_tbl := tb_6 _ (List.mem_of_getElem? (i := 73) rfl)
theorem wl_315 : Cond.fieldLink RX11 80 "DeskMovesModel" "diaryWas" "[I" ∈ lw_tbl := tb_6 _ (List.mem_of_getElem? (i := 74) rfl)
theorem wl_316 : Cond.fieldLink RX11 83 "DeskMovesModel" "row" "[I" ∈ lw_tbl := tb_6 _ (List.mem_of_getElem? (i := 77) rfl)
theorem wl_317 : Cond.fieldLink RX11 86 "DeskMovesModel" "wished" "[I" ∈ lw_tbl := tb_6 _ (List.mem_of_getElem? (i := 78) rfl)
theorem wl_318 : Cond.constant RX11 89 (131072) ∈ lw_tbl := tb_6 _ (List.mem_of_getElem? (i := 35) rfl)
theorem wl_319 : Cond.fieldLink RX11 90 "DeskMovesModel" "keys" "[I" ∈ lw_tbl := tb_6 _ (List.mem_of_getElem? (i := 79) rfl)
theorem wl_320 : Cond.fieldLink RX11 93 "DeskMovesModel" "marks" "[I" ∈ lw_tbl := tb_6 _ (List.mem_of_getElem? (i := 80) rfl)
theorem wl_321 : Cond.constant RX11 96 (40320) ∈ lw_tbl := tb_6 _ (List.mem_of_getElem? (i := 36) rfl)
theorem wl_322 : Cond.fieldLink RX11 97 "DeskMovesModel" "list" "[I" ∈ lw_tbl := tb_6 _ (List.mem_of_getElem? (i := 81) rfl)
theorem wl_323 : Cond.fieldLink RX11 100 "DeskMovesModel" "far" "[I" ∈ lw_tbl := tb_6 _ (List.mem_of_getElem? (i := 82) rfl)
theorem wl_324 : Cond.fieldLink RX11 103 "DeskMovesModel" "left" "[I" ∈ lw_tbl := tb_6 _ (List.mem_of_getElem? (i := 83) rfl)
theorem wl_325 : Cond.constant RX11 106 (40321) ∈ lw_tbl := tb_6 _ (List.mem_of_getElem? (i := 37) rfl)
theorem wl_326 : Cond.fieldLink RX11 107 "DeskMovesModel" "firstEdge" "[I" ∈ lw_tbl := tb_6 _ (List.mem_of_getElem? (i := 84) rfl)
theorem wl_327 : Cond.constant RX11 110 (300000) ∈ lw_tbl := tb_6 _ (List.mem_of_getElem? (i := 38) rfl)
theorem wl_328 : Cond.fieldLink RX11 111 "DeskMovesModel" "edgeTo" "[I" ∈ lw_tbl := tb_6 _ (List.mem_of_getElem? (i := 85) rfl)
theorem wl_329 : Cond.fieldLink RX11 114 "DeskMovesModel" "edgeMove" "[I" ∈ lw_tbl := tb_6 _ (List.mem_of_getElem? (i := 86) rfl)
theorem wl_330 : Cond.fieldLink RX11 117 "DeskMovesModel" "now" "[I" ∈ lw_tbl := tb_6 _ (List.mem_of_getElem? (i := 89) rfl)
theorem wl_331 : Cond.fieldLink RX11 120 "DeskMovesModel" "colour" "[I" ∈ lw_tbl := tb_6 _ (List.mem_of_getElem? (i := 90) rfl)
theorem wl_332 : Cond.fieldLink RX11 123 "DeskMovesModel" "ring" "[I" ∈ lw_tbl := tb_6 _ (List.mem_of_getElem? (i := 91) rfl)
theorem wl_333 : Cond.fieldLink RX11 126 "DeskMovesModel" "worths" "[I" ∈ lw_tbl := tb_6 _ (List.mem_of_getElem? (i := 92) rfl)
theorem wl_334 : Cond.fieldLink RX11 129 "DeskMovesModel" "onward" "[I" ∈ lw_tbl := tb_6 _ (List.mem_of_getElem? (i := 93) rfl)
theorem wl_335 : Cond.fieldLink RX11 132 "DeskMovesModel" "liar" "I" ∈ lw_tbl := tb_6 _ (List.mem_of_getElem? (i := 94) rfl)
theorem wl_336 : Cond.fieldLink RX11 135 "DeskMovesModel" "bestDesk" "[I" ∈ lw_tbl := tb_6 _ (List.mem_of_getElem? (i := 96) rfl)
theorem wl_337 : Cond.fieldLink RX11 138 "DeskMovesModel" "gets" "[I" ∈ lw_tbl := tb_6 _ (List.mem_of_getElem? (i := 97) rfl)
theorem wl_338 : Cond.fieldLink RX11 141 "DeskMovesModel" "points" "[I" ∈ lw_tbl := tb_6 _ (List.mem_of_getElem? (i := 98) rfl)
theorem wl_339 : Cond.fieldLink RX11 144 "DeskMovesModel" "image" "[I" ∈ lw_tbl := tb_6 _ (List.mem_of_getElem? (i := 99) rfl)
theorem wl_340 : Cond.fieldLink RX11 147 "DeskMovesModel" "imageMove" "[I" ∈ lw_tbl := tb_6 _ (List.mem_of_getElem? (i := 100) rfl)
theorem wl_341 : Cond.fieldLink RX11 150 "DeskMovesModel" "imageWas" "[I" ∈ lw_tbl := tb_6 _ (List.mem_of_getElem? (i := 101) rfl)
theorem gl_0_tb : ∀ w ∈ gl_0, w ∈ lw_tbl := List.forall_mem_cons.mpr ⟨wl_0, List.forall_mem_cons.mpr ⟨wl_1, List.forall_mem_cons.mpr ⟨wl_2, List.forall_mem_cons.mpr ⟨wl_3, List.forall_mem_cons.mpr ⟨wl_4, List.forall_mem_cons.mpr ⟨wl_5, List.forall_mem_cons.mpr ⟨wl_6, List.forall_mem_cons.mpr ⟨wl_7, List.forall_mem_cons.mpr ⟨wl_8, List.forall_mem_cons.mpr ⟨wl_9, List.forall_mem_cons.mpr ⟨wl_10, List.forall_mem_cons.mpr ⟨wl_11, List.forall_mem_cons.mpr ⟨wl_12, List.forall_mem_cons.mpr ⟨wl_13, List.forall_mem_cons.mpr ⟨wl_14, List.forall_mem_cons.mpr ⟨wl_15, List.forall_mem_cons.mpr ⟨wl_16, List.forall_mem_cons.mpr ⟨wl_17, List.forall_mem_cons.mpr ⟨wl_18, List.forall_mem_cons.mpr ⟨wl_19, List.forall_mem_cons.mpr ⟨wl_20, List.forall_mem_cons.mpr ⟨wl_21, List.forall_mem_cons.mpr ⟨wl_22, List.forall_mem_cons.mpr ⟨wl_23, List.forall_mem_cons.mpr ⟨wl_24, List.forall_mem_cons.mpr ⟨wl_25, List.forall_mem_cons.mpr ⟨wl_26, List.forall_mem_cons.mpr ⟨wl_27, List.forall_mem_cons.mpr ⟨wl_28, List.forall_mem_cons.mpr ⟨wl_29, List.forall_mem_cons.mpr ⟨wl_30, List.forall_mem_cons.mpr ⟨wl_31, List.forall_mem_cons.mpr ⟨wl_32, List.forall_mem_cons.mpr ⟨wl_33, List.forall_mem_cons.mpr ⟨wl_34, List.forall_mem_cons.mpr ⟨wl_35, List.forall_mem_cons.mpr ⟨wl_36, List.forall_mem_cons.mpr ⟨wl_37, List.forall_mem_cons.mpr ⟨wl_38, List.forall_mem_cons.mpr ⟨wl_39, fun _ h => absurd h List.not_mem_nil⟩⟩⟩⟩⟩⟩⟩⟩⟩⟩⟩⟩⟩⟩⟩⟩⟩⟩⟩⟩⟩⟩⟩⟩⟩⟩⟩⟩⟩⟩⟩⟩⟩⟩⟩⟩⟩⟩⟩⟩
theorem gl_1_tb : ∀ w ∈ gl_1, w ∈ lw_tbl := List.forall_mem_cons.mpr ⟨wl_40, List.forall_mem_cons.mpr ⟨wl_41, List.forall_mem_cons.mpr ⟨wl_42, List.forall_mem_cons.mpr ⟨wl_43, List.forall_mem_cons.mpr ⟨wl_44, List.forall_mem_cons.mpr ⟨wl_45, List.forall_mem_cons.mpr ⟨wl_46, List.forall_mem_cons.mpr ⟨wl_47, List.forall_mem_cons.mpr ⟨wl_48, List.forall_mem_cons.mpr ⟨wl_49, List.forall_mem_cons.mpr ⟨wl_50, List.forall_mem_cons.mpr ⟨wl_51, List.forall_mem_cons.mpr ⟨wl_52, List.forall_mem_cons.mpr ⟨wl_53, List.forall_mem_cons.mpr ⟨wl_54, List.forall_mem_cons.mpr ⟨wl_55, List.forall_mem_cons.mpr ⟨wl_56, List.forall_mem_cons.mpr ⟨wl_57, List.forall_mem_cons.mpr ⟨wl_58, List.forall_mem_cons.mpr ⟨wl_59, List.forall_mem_cons.mpr ⟨wl_60, List.forall_mem_cons.mpr ⟨wl_61, List.forall_mem_cons.mpr ⟨wl_62, List.forall_mem_cons.mpr ⟨wl_63, List.forall_mem_cons.mpr ⟨wl_64, List.forall_mem_cons.mpr ⟨wl_65, List.forall_mem_cons.mpr ⟨wl_66, List.forall_mem_cons.mpr ⟨wl_67, List.forall_mem_cons.mpr ⟨wl_68, List.forall_mem_cons.mpr ⟨wl_69, List.forall_mem_cons.mpr ⟨wl_70, List.forall_mem_cons.mpr ⟨wl_71, List.forall_mem_cons.mpr ⟨wl_72, List.forall_mem_cons.mpr ⟨wl_73, List.forall_mem_cons.mpr ⟨wl_74, List.forall_mem_cons.mpr ⟨wl_75, List.forall_mem_cons.mpr ⟨wl_76, List.forall_mem_cons.mpr ⟨wl_77, List.forall_mem_cons.mpr ⟨wl_78, List.forall_mem_cons.mpr ⟨wl_79, fun _ h => absurd h List.not_mem_nil⟩⟩⟩⟩⟩⟩⟩⟩⟩⟩⟩⟩⟩⟩⟩⟩⟩⟩⟩⟩⟩⟩⟩⟩⟩⟩⟩⟩⟩⟩⟩⟩⟩⟩⟩⟩⟩⟩⟩⟩
theorem gl_2_tb : ∀ w ∈ gl_2, w ∈ lw_tbl := List.forall_mem_cons.mpr ⟨wl_80, List.forall_mem_cons.mpr ⟨wl_81, List.forall_mem_cons.mpr ⟨wl_82, List.forall_mem_cons.mpr ⟨wl_83, List.forall_mem_cons.mpr ⟨wl_84, List.forall_mem_cons.mpr ⟨wl_85, List.forall_mem_cons.mpr ⟨wl_86, List.forall_mem_cons.mpr ⟨wl_87, List.forall_mem_cons.mpr ⟨wl_88, List.forall_mem_cons.mpr ⟨wl_89, List.forall_mem_cons.mpr ⟨wl_90, List.forall_mem_cons.mpr ⟨wl_91, List.forall_mem_cons.mpr ⟨wl_92, List.forall_mem_cons.mpr ⟨wl_93, List.forall_mem_cons.mpr ⟨wl_94, List.forall_mem_cons.mpr ⟨wl_95, List.forall_mem_cons.mpr ⟨wl_96, List.forall_mem_cons.mpr ⟨wl_97, List.forall_mem_cons.mpr ⟨wl_98, List.forall_mem_cons.mpr ⟨wl_99, List.forall_mem_cons.mpr ⟨wl_100, List.forall_mem_cons.mpr ⟨wl_101, List.forall_mem_cons.mpr ⟨wl_102, List.forall_mem_cons.mpr ⟨wl_103, List.forall_mem_cons.mpr ⟨wl_104, List.forall_mem_cons.mpr ⟨wl_105, List.forall_mem_cons.mpr ⟨wl_106, List.forall_mem_cons.mpr ⟨wl_107, List.forall_mem_cons.mpr ⟨wl_108, List.forall_mem_cons.mpr ⟨wl_109, List.forall_mem_cons.mpr ⟨wl_110, List.forall_mem_cons.mpr ⟨wl_111, List.forall_mem_cons.mpr ⟨wl_112, List.forall_mem_cons.mpr ⟨wl_113, List.forall_mem_cons.mpr ⟨wl_114, List.forall_mem_cons.mpr ⟨wl_115, List.forall_mem_cons.mpr ⟨wl_116, List.forall_mem_cons.mpr ⟨wl_117, List.forall_mem_cons.mpr ⟨wl_118, List.forall_mem_cons.mpr ⟨wl_119, fun _ h => absurd h List.not_mem_nil⟩⟩⟩⟩⟩⟩⟩⟩⟩⟩⟩⟩⟩⟩⟩⟩⟩⟩⟩⟩⟩⟩⟩⟩⟩⟩⟩⟩⟩⟩⟩⟩⟩⟩⟩⟩⟩⟩⟩⟩
theorem gl_3_tb : ∀ w ∈ gl_3, w ∈ lw_tbl := List.forall_mem_cons.mpr ⟨wl_120, List.forall_mem_cons.mpr ⟨wl_121, List.forall_mem_cons.mpr ⟨wl_122, List.forall_mem_cons.mpr ⟨wl_123, List.forall_mem_cons.mpr ⟨wl_124, List.forall_mem_cons.mpr ⟨wl_125, List.forall_mem_cons.mpr ⟨wl_126, List.forall_mem_cons.mpr ⟨wl_127, List.forall_mem_cons.mpr ⟨wl_128, List.forall_mem_cons.mpr ⟨wl_129, List.forall_mem_cons.mpr ⟨wl_130, List.forall_mem_cons.mpr ⟨wl_131, List.forall_mem_cons.mpr ⟨wl_132, List.forall_mem_cons.mpr ⟨wl_133, List.forall_mem_cons.mpr ⟨wl_134, List.forall_mem_cons.mpr ⟨wl_135, List.forall_mem_cons.mpr ⟨wl_136, List.forall_mem_cons.mpr ⟨wl_137, List.forall_mem_cons.mpr ⟨wl_138, List.forall_mem_cons.mpr ⟨wl_139, List.forall_mem_cons.mpr ⟨wl_140, List.forall_mem_cons.mpr ⟨wl_141, List.forall_mem_cons.mpr ⟨wl_142, List.forall_mem_cons.mpr ⟨wl_143, List.forall_mem_cons.mpr ⟨wl_144, List.forall_mem_cons.mpr ⟨wl_145, List.forall_mem_cons.mpr ⟨wl_146, List.forall_mem_cons.mpr ⟨wl_147, List.forall_mem_cons.mpr ⟨wl_148, List.forall_mem_cons.mpr ⟨wl_149, List.forall_mem_cons.mpr ⟨wl_150, List.forall_mem_cons.mpr ⟨wl_151, List.forall_mem_cons.mpr ⟨wl_152, List.forall_mem_cons.mpr ⟨wl_153, List.forall_mem_cons.mpr ⟨wl_154, List.forall_mem_cons.mpr ⟨wl_155, List.forall_mem_cons.mpr ⟨wl_156, List.forall_mem_cons.mpr ⟨wl_157, List.forall_mem_cons.mpr ⟨wl_158, List.forall_mem_cons.mpr ⟨wl_159, fun _ h => absurd h List.not_mem_nil⟩⟩⟩⟩⟩⟩⟩⟩⟩⟩⟩⟩⟩⟩⟩⟩⟩⟩⟩⟩⟩⟩⟩⟩⟩⟩⟩⟩⟩⟩⟩⟩⟩⟩⟩⟩⟩⟩⟩⟩
theorem gl_4_tb : ∀ w ∈ gl_4, w ∈ lw_tbl := List.forall_mem_cons.mpr ⟨wl_160, List.forall_mem_cons.mpr ⟨wl_161, List.forall_mem_cons.mpr ⟨wl_162, List.forall_mem_cons.mpr ⟨wl_163, List.forall_mem_cons.mpr ⟨wl_164, List.forall_mem_cons.mpr ⟨wl_165, List.forall_mem_cons.mpr ⟨wl_166, List.forall_mem_cons.mpr ⟨wl_167, List.forall_mem_cons.mpr ⟨wl_168, List.forall_mem_cons.mpr ⟨wl_169, List.forall_mem_cons.mpr ⟨wl_170, List.forall_mem_cons.mpr ⟨wl_171, List.forall_mem_cons.mpr ⟨wl_172, List.forall_mem_cons.mpr ⟨wl_173, List.forall_mem_cons.mpr ⟨wl_174, List.forall_mem_cons.mpr ⟨wl_175, List.forall_mem_cons.mpr ⟨wl_176, List.forall_mem_cons.mpr ⟨wl_177, List.forall_mem_cons.mpr ⟨wl_178, List.forall_mem_cons.mpr ⟨wl_179, List.forall_mem_cons.mpr ⟨wl_180, List.forall_mem_cons.mpr ⟨wl_181, List.forall_mem_cons.mpr ⟨wl_182, List.forall_mem_cons.mpr ⟨wl_183, List.forall_mem_cons.mpr ⟨wl_184, List.forall_mem_cons.mpr ⟨wl_185, List.forall_mem_cons.mpr ⟨wl_186, List.forall_mem_cons.mpr ⟨wl_187, List.forall_mem_cons.mpr ⟨wl_188, List.forall_mem_cons.mpr ⟨wl_189, List.forall_mem_cons.mpr ⟨wl_190, List.forall_mem_cons.mpr ⟨wl_191, List.forall_mem_cons.mpr ⟨wl_192, List.forall_mem_cons.mpr ⟨wl_193, List.forall_mem_cons.mpr ⟨wl_194, List.forall_mem_cons.mpr ⟨wl_195, List.forall_mem_cons.mpr ⟨wl_196, List.forall_mem_cons.mpr ⟨wl_197, List.forall_mem_cons.mpr ⟨wl_198, List.forall_mem_cons.mpr ⟨wl_199, fun _ h => absurd h List.not_mem_nil⟩⟩⟩⟩⟩⟩⟩⟩⟩⟩⟩⟩⟩⟩⟩⟩⟩⟩⟩⟩⟩⟩⟩⟩⟩⟩⟩⟩⟩⟩⟩⟩⟩⟩⟩⟩⟩⟩⟩⟩
theorem gl_5_tb : ∀ w ∈ gl_5, w ∈ lw_tbl := List.forall_mem_cons.mpr ⟨wl_200, List.forall_mem_cons.mpr ⟨wl_201, List.forall_mem_cons.mpr ⟨wl_202, List.forall_mem_cons.mpr ⟨wl_203, List.forall_mem_cons.mpr ⟨wl_204, List.forall_mem_cons.mpr ⟨wl_205, List.forall_mem_cons.mpr ⟨wl_206, List.forall_mem_cons.mpr ⟨wl_207, List.forall_mem_cons.mpr ⟨wl_208, List.forall_mem_cons.mpr ⟨wl_209, List.forall_mem_cons.mpr ⟨wl_210, List.forall_mem_cons.mpr ⟨wl_211, List.forall_mem_cons.mpr ⟨wl_212, List.forall_mem_cons.mpr ⟨wl_213, List.forall_mem_cons.mpr ⟨wl_214, List.forall_mem_cons.mpr ⟨wl_215, List.forall_mem_cons.mpr ⟨wl_216, List.forall_mem_cons.mpr ⟨wl_217, List.forall_mem_cons.mpr ⟨wl_218, List.forall_mem_cons.mpr ⟨wl_219, List.forall_mem_cons.mpr ⟨wl_220, List.forall_mem_cons.mpr ⟨wl_221, List.forall_mem_cons.mpr ⟨wl_222, List.forall_mem_cons.mpr ⟨wl_223, List.forall_mem_cons.mpr ⟨wl_224, List.forall_mem_cons.mpr ⟨wl_225, List.forall_mem_cons.mpr ⟨wl_226, List.forall_mem_cons.mpr ⟨wl_227, List.forall_mem_cons.mpr ⟨wl_228, List.forall_mem_cons.mpr ⟨wl_229, List.forall_mem_cons.mpr ⟨wl_230, List.forall_mem_cons.mpr ⟨wl_231, List.forall_mem_cons.mpr ⟨wl_232, List.forall_mem_cons.mpr ⟨wl_233, List.forall_mem_cons.mpr ⟨wl_234, List.forall_mem_cons.mpr ⟨wl_235, List.forall_mem_cons.mpr ⟨wl_236, List.forall_mem_cons.mpr ⟨wl_237, List.forall_mem_cons.mpr ⟨wl_238, List.forall_mem_cons.mpr ⟨wl_239, fun _ h => absurd h List.not_mem_nil⟩⟩⟩⟩⟩⟩⟩⟩⟩⟩⟩⟩⟩⟩⟩⟩⟩⟩⟩⟩⟩⟩⟩⟩⟩⟩⟩⟩⟩⟩⟩⟩⟩⟩⟩⟩⟩⟩⟩⟩
theorem gl_6_tb : ∀ w ∈ gl_6, w ∈ lw_tbl := List.forall_mem_cons.mpr ⟨wl_240, List.forall_mem_cons.mpr ⟨wl_241, List.forall_mem_cons.mpr ⟨wl_242, List.forall_mem_cons.mpr ⟨wl_243, List.forall_mem_cons.mpr ⟨wl_244, List.forall_mem_cons.mpr ⟨wl_245, List.forall_mem_cons.mpr ⟨wl_246, List.forall_mem_cons.mpr ⟨wl_247, List.forall_mem_cons.mpr ⟨wl_248, List.forall_mem_cons.mpr ⟨wl_249, List.forall_mem_cons.mpr ⟨wl_250, List.forall_mem_cons.mpr ⟨wl_251, List.forall_mem_cons.mpr ⟨wl_252, List.forall_mem_cons.mpr ⟨wl_253, List.forall_mem_cons.mpr ⟨wl_254, List.forall_mem_cons.mpr ⟨wl_255, List.forall_mem_cons.mpr ⟨wl_256, List.forall_mem_cons.mpr ⟨wl_257, List.forall_mem_cons.mpr ⟨wl_258, List.forall_mem_cons.mpr ⟨wl_259, List.forall_mem_cons.mpr ⟨wl_260, List.forall_mem_cons.mpr ⟨wl_261, List.forall_mem_cons.mpr ⟨wl_262, List.forall_mem_cons.mpr ⟨wl_263, List.forall_mem_cons.mpr ⟨wl_264, List.forall_mem_cons.mpr ⟨wl_265, List.forall_mem_cons.mpr ⟨wl_266, List.forall_mem_cons.mpr ⟨wl_267, List.forall_mem_cons.mpr ⟨wl_268, List.forall_mem_cons.mpr ⟨wl_269, List.forall_mem_cons.mpr ⟨wl_270, List.forall_mem_cons.mpr ⟨wl_271, List.forall_mem_cons.mpr ⟨wl_272, List.forall_mem_cons.mpr ⟨wl_273, List.forall_mem_cons.mpr ⟨wl_274, List.forall_mem_cons.mpr ⟨wl_275, List.forall_mem_cons.mpr ⟨wl_276, List.forall_mem_cons.mpr ⟨wl_277, List.forall_mem_cons.mpr ⟨wl_278, List.forall_mem_cons.mpr ⟨wl_279, fun _ h => absurd h List.not_mem_nil⟩⟩⟩⟩⟩⟩⟩⟩⟩⟩⟩⟩⟩⟩⟩⟩⟩⟩⟩⟩⟩⟩⟩⟩⟩⟩⟩⟩⟩⟩⟩⟩⟩⟩⟩⟩⟩⟩⟩⟩
theorem gl_7_tb : ∀ w ∈ gl_7, w ∈ lw_tbl := List.forall_mem_cons.mpr ⟨wl_280, List.forall_mem_cons.mpr ⟨wl_281, List.forall_mem_cons.mpr ⟨wl_282, List.forall_mem_cons.mpr ⟨wl_283, List.forall_mem_cons.mpr ⟨wl_284, List.forall_mem_cons.mpr ⟨wl_285, List.forall_mem_cons.mpr ⟨wl_286, List.forall_mem_cons.mpr ⟨wl_287, List.forall_mem_cons.mpr ⟨wl_288, List.forall_mem_cons.mpr ⟨wl_289, List.forall_mem_cons.mpr ⟨wl_290, List.forall_mem_cons.mpr ⟨wl_291, List.forall_mem_cons.mpr ⟨wl_292, List.forall_mem_cons.mpr ⟨wl_293, List.forall_mem_cons.mpr ⟨wl_294, List.forall_mem_cons.mpr ⟨wl_295, List.forall_mem_cons.mpr ⟨wl_296, List.forall_mem_cons.mpr ⟨wl_297, List.forall_mem_cons.mpr ⟨wl_298, List.forall_mem_cons.mpr ⟨wl_299, List.forall_mem_cons.mpr ⟨wl_300, List.forall_mem_cons.mpr ⟨wl_301, List.forall_mem_cons.mpr ⟨wl_302, List.forall_mem_cons.mpr ⟨wl_303, List.forall_mem_cons.mpr ⟨wl_304, List.forall_mem_cons.mpr ⟨wl_305, List.forall_mem_cons.mpr ⟨wl_306, List.forall_mem_cons.mpr ⟨wl_307, List.forall_mem_cons.mpr ⟨wl_308, List.forall_mem_cons.mpr ⟨wl_309, List.forall_mem_cons.mpr ⟨wl_310, List.forall_mem_cons.mpr ⟨wl_311, List.forall_mem_cons.mpr ⟨wl_312, List.forall_mem_cons.mpr ⟨wl_313, List.forall_mem_cons.mpr ⟨wl_314, List.forall_mem_cons.mpr ⟨wl_315, List.forall_mem_cons.mpr ⟨wl_316, List.forall_mem_cons.mpr ⟨wl_317, List.forall_mem_cons.mpr ⟨wl_318, List.forall_mem_cons.mpr ⟨wl_319, fun _ h => absurd h List.not_mem_nil⟩⟩⟩⟩⟩⟩⟩⟩⟩⟩⟩⟩⟩⟩⟩⟩⟩⟩⟩⟩⟩⟩⟩⟩⟩⟩⟩⟩⟩⟩⟩⟩⟩⟩⟩⟩⟩⟩⟩⟩
theorem gl_8_tb : ∀ w ∈ gl_8, w ∈ lw_tbl := List.forall_mem_cons.mpr ⟨wl_320, List.forall_mem_cons.mpr ⟨wl_321, List.forall_mem_cons.mpr ⟨wl_322, List.forall_mem_cons.mpr ⟨wl_323, List.forall_mem_cons.mpr ⟨wl_324, List.forall_mem_cons.mpr ⟨wl_325, List.forall_mem_cons.mpr ⟨wl_326, List.forall_mem_cons.mpr ⟨wl_327, List.forall_mem_cons.mpr ⟨wl_328, List.forall_mem_cons.mpr ⟨wl_329, List.forall_mem_cons.mpr ⟨wl_330, List.forall_mem_cons.mpr ⟨wl_331, List.forall_mem_cons.mpr ⟨wl_332, List.forall_mem_cons.mpr ⟨wl_333, List.forall_mem_cons.mpr ⟨wl_334, List.forall_mem_cons.mpr ⟨wl_335, List.forall_mem_cons.mpr ⟨wl_336, List.forall_mem_cons.mpr ⟨wl_337, List.forall_mem_cons.mpr ⟨wl_338, List.forall_mem_cons.mpr ⟨wl_339, List.forall_mem_cons.mpr ⟨wl_340, List.forall_mem_cons.mpr ⟨wl_341, fun _ h => absurd h List.not_mem_nil⟩⟩⟩⟩⟩⟩⟩⟩⟩⟩⟩⟩⟩⟩⟩⟩⟩⟩⟩⟩⟩⟩
set_option maxRecDepth 100000 in
theorem gf_X1 : u_ws RX1 TX1 6 = [311, 313, 315, 317, 319, 321].filterMap (fun i => lw_tbl[i]?) := by decide +kernel
set_option maxRecDepth 100000 in
theorem gf_X3 : u_ws RX3 TX3 4 = [184, 186, 188, 190].filterMap (fun i => lw_tbl[i]?) := by decide +kernel
set_option maxRecDepth 100000 in
theorem gf_X4 : u_ws RX4 TX4 11 = [245, 247, 249, 251, 253, 255, 257, 259, 261, 263, 265].filterMap (fun i => lw_tbl[i]?) := by decide +kernel
set_option maxRecDepth 100000 in
theorem gf_X5 : u_ws RX5 TX5 6 = [284, 286, 288, 290, 292, 294].filterMap (fun i => lw_tbl[i]?) := by decide +kernel
set_option maxRecDepth 100000 in
theorem gf_X6 : u_ws RX6 TX6 3 = [166, 168, 170].filterMap (fun i => lw_tbl[i]?) := by decide +kernel
set_option maxRecDepth 100000 in
theorem gf_X7 : u_ws RX7 TX7 3 = [333, 335, 337].filterMap (fun i => lw_tbl[i]?) := by decide +kernel
set_option maxRecDepth 100000 in
theorem gf_X9 : u_ws RX9 TX9 14 = [363, 365, 367, 369, 371, 373, 375, 377, 379, 381, 383, 385, 387, 389].filterMap (fun i => lw_tbl[i]?) := by decide +kernel
set_option maxRecDepth 100000 in
theorem gf_X10 : u_ws RX10 TX10 17 = [412, 414, 416, 418, 420, 422, 424, 426, 428, 430, 432, 434, 436, 438, 440, 442, 444].filterMap (fun i => lw_tbl[i]?) := by decide +kernel
set_option maxRecDepth 100000 in
theorem gf_X11 : u_ws RX11 TX11 66 = [1424, 1426, 1428, 1430, 1432, 1434, 1436, 1438, 1440, 1442, 1444, 1446, 1448, 1450, 1452, 1454, 1456, 1458, 1460, 1462, 1464, 1466, 1468, 1470, 1472, 1474, 1476, 1478, 1480, 1482, 1484, 1486, 1488, 1490, 1492, 1494, 1496, 1498, 1500, 1502, 1504, 1506, 1508, 1510, 1512, 1514, 1516, 1518, 1520, 1522, 1524, 1526, 1528, 1530, 1532, 1534, 1536, 1538, 1540, 1542, 1544, 1546, 1548, 1550, 1552, 1554].filterMap (fun i => lw_tbl[i]?) := by decide +kernel
theorem gf_tb {ws big : List Cond} {ps : List Nat} (h : ws = ps.filterMap (fun i => big[i]?)) : ∀ w ∈ ws, w ∈ big := fun w hw => by
  rw [h] at hw
  obtain ⟨i, -, hi⟩ := List.mem_filterMap.mp hw
  exact List.mem_of_getElem? hi
theorem gw_in : ∀ w ∈ gw, w ∈ lw_tbl := fun w h => by
  unfold gw at h
  exact (List.mem_append.mp h).elim (gl_0_tb w) (fun h => (List.mem_append.mp h).elim (gl_1_tb w) (fun h => (List.mem_append.mp h).elim (gl_2_tb w) (fun h => (List.mem_append.mp h).elim (gl_3_tb w) (fun h => (List.mem_append.mp h).elim (gl_4_tb w) (fun h => (List.mem_append.mp h).elim (gl_5_tb w) (fun h => (List.mem_append.mp h).elim (gl_6_tb w) (fun h => (List.mem_append.mp h).elim (gl_7_tb w) (fun h => (List.mem_append.mp h).elim (gl_8_tb w) (fun h => (List.mem_append.mp h).elim (gf_tb gf_X1 w) (fun h => (List.mem_append.mp h).elim (gf_tb gf_X3 w) (fun h => (List.mem_append.mp h).elim (gf_tb gf_X4 w) (fun h => (List.mem_append.mp h).elim (gf_tb gf_X5 w) (fun h => (List.mem_append.mp h).elim (gf_tb gf_X6 w) (fun h => (List.mem_append.mp h).elim (gf_tb gf_X7 w) (fun h => (List.mem_append.mp h).elim (gf_tb gf_X9 w) (fun h => (List.mem_append.mp h).elim (gf_tb gf_X10 w) (fun h => gf_tb gf_X11 w h)))))))))))))))))
theorem gw_tl {c : Cond} {args : Array Value} {s : State} (h : ∀ w ∈ c :: gw, w.before args s = true) : ∀ w ∈ gw, w.before args s = true := fun w hw => h w (List.mem_cons_of_mem _ hw)
theorem gw_gd {w : Cond} (h : w ∈ gw) : GoodIn gw [w] := fun v hv => by
  rw [List.mem_singleton.mp hv]
  exact ⟨h, good_of_word (List.all_eq_true.mp gw_good w h)⟩
theorem gw_self : GoodIn gw gw := fun w h => ⟨h, good_of_word (List.all_eq_true.mp gw_good w h)⟩
theorem gw_c {c : Cond} (hc : c ∈ gw) : GoodIn gw (c :: gw) := fun w h => (List.mem_cons.mp h).elim (fun e => by rw [e]; exact gw_self c hc) (fun h => gw_self w h)
theorem gw_V {own C : String} {index : Nat} {y : MethodName} {c : Cond} (h1 : Cond.methodLink own index y ∈ gw) (h2 : Cond.instanceMethod y ∈ gw) (h3 : Cond.selects C y y ∈ gw) (h4 : Cond.initialized C ∈ gw) (hc : c ∈ gw) : GoodIn gw (wsV own index C y (c :: gw)) := by
  intro w h
  unfold wsV at h
  rcases List.mem_append.mp h with h | h
  · simp only [List.mem_cons, List.not_mem_nil, or_false] at h
    rcases h with rfl | rfl | rfl | rfl
    · exact gw_self _ h1
    · exact gw_self _ h2
    · exact gw_self _ h3
    · exact gw_self _ h4
  · exact gw_c hc w h
theorem cV {R : Room} {s : State} {args : Array Value} {own C : String} {index : Nat} {y : MethodName} {bytes : ByteArray} {maxL : Nat} {ret : Option FieldType} {rm : Room} {mc ms : Nat} (n : Nat) (ht : ∀ w ∈ gw, w.before args s = true) (hl : Cond.methodLink own index y ∈ gw)
    (hk : Cond.instanceMethod y ∈ gw ∧ Cond.selects C y y ∈ gw ∧ Cond.initialized C ∈ gw ∧ Cond.code y bytes maxL ret ∈ gw ∧ (y.cls = C ∧ y.cls ≠ "java/lang/invoke/MethodHandle" ∧ y.cls ≠ "java/lang/invoke/VarHandle" ∧ (parseMethodDescriptor y.desc).map (fun d => d.parameters.length) = some n)) (hrc : rm.cells = mc) (hrs : rm.slots = ms) (hR : rm.frames + 1 ≤ R.frames ∧ 8 + (maxL + 11) + rm.locals ≤ R.locals) :
    CallW R s args own C index y bytes maxL ret (Cond.code y bytes maxL ret :: gw) rm mc ms n :=
  cwV n ht (gw_V hl hk.1 hk.2.1 hk.2.2.1 hk.2.2.2.1) rfl hrc hrs hk.2.2.2.2 hR
theorem cS {R : Room} {s : State} {args : Array Value} {own : String} {index : Nat} {y : MethodName} {bytes : ByteArray} {maxL : Nat} {ret : Option FieldType} {rm : Room} {mc ms : Nat} (n : Nat) (ht : ∀ w ∈ gw, w.before args s = true) (hl : Cond.methodLink own index y ∈ gw)
    (hk : Cond.static y ∈ gw ∧ Cond.initialized y.cls ∈ gw ∧ Cond.code y bytes maxL ret ∈ gw ∧ (y.cls ≠ "java/lang/invoke/MethodHandle" ∧ y.cls ≠ "java/lang/invoke/VarHandle" ∧ (parseMethodDescriptor y.desc).map (fun d => d.parameters.length) = some n)) (hrc : rm.cells = mc) (hrs : rm.slots = ms) (hR : rm.frames + 1 ≤ R.frames ∧ 8 + (maxL + 11) + rm.locals ≤ R.locals) :
    CallB R s args own index y bytes maxL ret (Cond.code y bytes maxL ret :: gw) rm mc ms n ∧ (Cond.static y).before args s = true :=
  ⟨callB_of n ht (gw_c hk.2.2.1) rfl hrc hrs (ht _ hk.2.1) (ht _ hl) hk.2.2.2 hR, ht _ hk.1⟩
theorem cI {R : Room} {s : State} {args : Array Value} {own : String} {index : Nat} {y : MethodName} {bytes : ByteArray} {maxL : Nat} {rm : Room} {mc ms : Nat} (n : Nat) (ht : ∀ w ∈ gw, w.before args s = true) (hl : Cond.methodLink own index y ∈ gw)
    (hk : Cond.instanceMethod y ∈ gw ∧ Cond.initialized y.cls ∈ gw ∧ Cond.code y bytes maxL none ∈ gw ∧ y.name = "<init>" ∧ (y.cls ≠ "java/lang/invoke/MethodHandle" ∧ y.cls ≠ "java/lang/invoke/VarHandle" ∧ (parseMethodDescriptor y.desc).map (fun d => d.parameters.length) = some n)) (hrc : rm.cells = mc) (hrs : rm.slots = ms) (hR : rm.frames + 1 ≤ R.frames ∧ 8 + (maxL + 11) + rm.locals ≤ R.locals) :
    CallB R s args own index y bytes maxL none (Cond.code y bytes maxL none :: gw) rm mc ms n ∧ y.name = "<init>" ∧ (Cond.instanceMethod y).before args s = true :=
  cwI n ht (gw_c hk.2.2.1) rfl hrc hrs (ht _ hk.2.1) (ht _ hl) (ht _ hk.1) hk.2.2.2.1 hk.2.2.2.2 hR
/-! what a method needs of its world -/
def pr (D : va_G) (W : va_W) (ty : List (ClassId × FieldType)) (U : State) : Prop := va_P D vwCl W U.heap ∧ va_K D vwCl ty U
def pw (D : va_G) (A : Nat → Prop) (W : va_W) (ty : List (ClassId × FieldType)) (U : State) : Prop := va_P D vwCl W U.heap ∧ va_K D vwCl ty U ∧ va_D A W
theorem bl_r {av : List Value} {D : va_G} {W : va_W} {ty : List (ClassId × FieldType)} : FrameBlind (va_Pc av (pr D W ty)) := fun a U g mk q => ⟨q.1, q.2.1, va_K.moved (u := U) (U := U.calling g mk a) (Vm.Alike.refl U.vm) q.2.2⟩
theorem bl_w {av : List Value} {D : va_G} {A : Nat → Prop} {W : va_W} {ty : List (ClassId × FieldType)} : FrameBlind (va_Pc av (pw D A W ty)) := fun a U g mk q => ⟨q.1, q.2.1, va_K.moved (u := U) (U := U.calling g mk a) (Vm.Alike.refl U.vm) q.2.2.1, q.2.2.2⟩
theorem us_r {s : State} {H : Heap} {av : List Value} {D : va_G} {W : va_W} {ty : List (ClassId × FieldType)} (hP : va_P D vwCl W H) (hK : va_K D vwCl ty s) : ∀ U : State, U.heap = H → s.WarmedH U.vm → va_Pc av (pr D W ty) av.toArray U := fun U hU hW => ⟨rfl, by rw [hU]; exact hP, va_K.moved hW.alike hK⟩
theorem us_w {s : State} {H : Heap} {av : List Value} {D : va_G} {A : Nat → Prop} {W : va_W} {ty : List (ClassId × FieldType)} (hP : va_P D vwCl W H) (hK : va_K D vwCl ty s) (hD : va_D A W) : ∀ U : State, U.heap = H → s.WarmedH U.vm → va_Pc av (pw D A W ty) av.toArray U := fun U hU hW => ⟨rfl, by rw [hU]; exact hP, va_K.moved hW.alike hK, hD⟩
theorem ro_keep {D : va_G} {cl : List vw_C} {ws : va_W} {H H1 : Heap} (hP : va_P D cl ws H) (hk : ∀ q : Nat, q < H.size → ¬ (fun _ : Nat => False) q → H1[q]? = H[q]?) : va_P D cl ws H1 := hP.kept (fun k q h => hk q.1 (hP k q h).lt (fun h => h))
/-- an answer that is null -/
def va_QN (A : Nat → Prop) : Array Value → State → Outcome → State → Prop := fun _ st oc t => oc = .returned (some .null) ∧ va_F A st t
section KN
variable {p : Program} {l : Launch} {e : Env} {R : Room} {s : State} {m : MethodId} {args : Array Value} {below : List Frame} {meth : Method} {c : Code} {H : Heap} {locs : List Loc} {cells slots : Nat} {Q : State → Prop}
variable {pc : Nat} {ls : Array Slot} {rest st0 : List Value} {a : Array Value} {A0 A1 : Nat → Prop} {H0 : Heap} {mc ms : Nat} {free : Addr → Prop}
theorem lv_val {x y : Int32} (h : x = y) (k : W p l e R s m args below meth c H locs cells slots Q (F0 m pc ls (.int y :: rest))) : W p l e R s m args below meth c H locs cells slots Q (F0 m pc ls (.int x :: rest)) := by
  rw [h]
  exact k
theorem va_callN (hr : va_Run p l e R s m args below meth c H locs cells slots mc ms (F0 m pc ls st0) rest (va_QN A1 a) free) (hS : va_S A0 H0 H locs) (hA : ∀ q, q < H.size → A1 q → A0 q) (hf : ∀ q, free q → A0 q)
    (kk : ∀ (H1 : Heap) (locs1 : List Loc), (∀ q : Nat, q < H.size → ¬ A1 q → H1[q]? = H[q]?) → va_S A0 H0 H1 locs1 → W p l e R s m args below meth c H1 locs1 (cells + mc) (slots + ms) Q (F0 m (pc + 3) ls (.null :: rest))) : W p l e R s m args below meth c H locs cells slots Q (F0 m pc ls st0) := by
  intro T hT X
  obtain ⟨v, st₀, t, T', L, h0, X', hL, e1, e2, ⟨hv, hz, hk⟩, st⟩ := hr T hT X
  cases hv
  rw [h0] at hz hk
  obtain ⟨t2, a1, b1⟩ := kk T'.heap (locs ++ L) (fun q h1 h2 => by rw [e1]; exact hk q h1 h2)
    ⟨Nat.le_trans hS.1 (by rw [e1]; exact hz), fun q h1 h2 => by rw [e1, hk q (Nat.lt_of_lt_of_le h1 hS.1) (fun z => h2 (hA q (Nat.lt_of_lt_of_le h1 hS.1) z))]; exact hS.2.1 q h1 h2, fun q hq => by
      rcases List.mem_append.mp hq with h | h
      · exact hS.2.2 q h
      · exact hf _ (hL q h)⟩ T' rfl X'
  exact ⟨t2, st t2 a1, b1⟩
end KN

theorem kv_X4_hasDesk : Cond.instanceMethod yX4_hasDesk ∈ gw ∧ Cond.selects RX4 yX4_hasDesk yX4_hasDesk ∈ gw ∧ Cond.initialized RX4 ∈ gw ∧ Cond.code yX4_hasDesk cX4_hasDesk 2 (some .boolean) ∈ gw ∧ (yX4_hasDesk.cls = RX4 ∧ yX4_hasDesk.cls ≠ "java/lang/invoke/MethodHandle" ∧ yX4_hasDesk.cls ≠ "java/lang/invoke/VarHandle" ∧ (parseMethodDescriptor yX4_hasDesk.desc).map (fun d => d.parameters.length) = some 1) := ⟨mw_2, mw_3, mw_4, mw_5, by decide +kernel⟩
theorem kv_X4_hasClerk : Cond.instanceMethod yX4_hasClerk ∈ gw ∧ Cond.selects RX4 yX4_hasClerk yX4_hasClerk ∈ gw ∧ Cond.initialized RX4 ∈ gw ∧ Cond.code yX4_hasClerk cX4_hasClerk 2 (some .boolean) ∈ gw ∧ (yX4_hasClerk.cls = RX4 ∧ yX4_hasClerk.cls ≠ "java/lang/invoke/MethodHandle" ∧ yX4_hasClerk.cls ≠ "java/lang/invoke/VarHandle" ∧ (parseMethodDescriptor yX4_hasClerk.desc).map (fun d => d.parameters.length) = some 1) := ⟨mw_7, mw_8, mw_4, mw_9, by decide +kernel⟩
theorem kv_X4_lengthBetween : Cond.instanceMethod yX4_lengthBetween ∈ gw ∧ Cond.selects RX4 yX4_lengthBetween yX4_lengthBetween ∈ gw ∧ Cond.initialized RX4 ∈ gw ∧ Cond.code yX4_lengthBetween cX4_lengthBetween 3 (some .int) ∈ gw ∧ (yX4_lengthBetween.cls = RX4 ∧ yX4_lengthBetween.cls ≠ "java/lang/invoke/MethodHandle" ∧ yX4_lengthBetween.cls ≠ "java/lang/invoke/VarHandle" ∧ (parseMethodDescriptor yX4_lengthBetween.desc).map (fun d => d.parameters.length) = some 2) := ⟨mw_15, mw_16, mw_4, mw_17, by decide +kernel⟩
theorem kv_X10_lawOf : Cond.instanceMethod yX10_lawOf ∈ gw ∧ Cond.selects RX10 yX10_lawOf yX10_lawOf ∈ gw ∧ Cond.initialized RX10 ∈ gw ∧ Cond.code yX10_lawOf cX10_lawOf 2 (some (.object "DeskMoves$Law")) ∈ gw ∧ (yX10_lawOf.cls = RX10 ∧ yX10_lawOf.cls ≠ "java/lang/invoke/MethodHandle" ∧ yX10_lawOf.cls ≠ "java/lang/invoke/VarHandle" ∧ (parseMethodDescriptor yX10_lawOf.desc).map (fun d => d.parameters.length) = some 1) := ⟨mw_21, mw_22, mw_23, mw_24, by decide +kernel⟩
theorem kv_X4_hindrance : Cond.instanceMethod yX4_hindrance ∈ gw ∧ Cond.selects RX4 yX4_hindrance yX4_hindrance ∈ gw ∧ Cond.initialized RX4 ∈ gw ∧ Cond.code yX4_hindrance cX4_hindrance 5 (some .int) ∈ gw ∧ (yX4_hindrance.cls = RX4 ∧ yX4_hindrance.cls ≠ "java/lang/invoke/MethodHandle" ∧ yX4_hindrance.cls ≠ "java/lang/invoke/VarHandle" ∧ (parseMethodDescriptor yX4_hindrance.desc).map (fun d => d.parameters.length) = some 3) := ⟨mw_26, mw_27, mw_4, mw_28, by decide +kernel⟩
theorem kv_X1_moveAt : Cond.instanceMethod yX1_moveAt ∈ gw ∧ Cond.selects RX1 yX1_moveAt yX1_moveAt ∈ gw ∧ Cond.initialized RX1 ∈ gw ∧ Cond.code yX1_moveAt cX1_moveAt 2 (some .int) ∈ gw ∧ (yX1_moveAt.cls = RX1 ∧ yX1_moveAt.cls ≠ "java/lang/invoke/MethodHandle" ∧ yX1_moveAt.cls ≠ "java/lang/invoke/VarHandle" ∧ (parseMethodDescriptor yX1_moveAt.desc).map (fun d => d.parameters.length) = some 1) := ⟨mw_32, mw_33, mw_34, mw_35, by decide +kernel⟩
theorem kv_X10_isSearched : Cond.instanceMethod yX10_isSearched ∈ gw ∧ Cond.selects RX10 yX10_isSearched yX10_isSearched ∈ gw ∧ Cond.initialized RX10 ∈ gw ∧ Cond.code yX10_isSearched cX10_isSearched 1 (some .boolean) ∈ gw ∧ (yX10_isSearched.cls = RX10 ∧ yX10_isSearched.cls ≠ "java/lang/invoke/MethodHandle" ∧ yX10_isSearched.cls ≠ "java/lang/invoke/VarHandle" ∧ (parseMethodDescriptor yX10_isSearched.desc).map (fun d => d.parameters.length) = some 0) := ⟨mw_41, mw_42, mw_23, mw_43, by decide +kernel⟩
theorem kv_X7_kindOf : Cond.instanceMethod yX7_kindOf ∈ gw ∧ Cond.selects RX7 yX7_kindOf yX7_kindOf ∈ gw ∧ Cond.initialized RX7 ∈ gw ∧ Cond.code yX7_kindOf cX7_kindOf 5 (some .int) ∈ gw ∧ (yX7_kindOf.cls = RX7 ∧ yX7_kindOf.cls ≠ "java/lang/invoke/MethodHandle" ∧ yX7_kindOf.cls ≠ "java/lang/invoke/VarHandle" ∧ (parseMethodDescriptor yX7_kindOf.desc).map (fun d => d.parameters.length) = some 1) := ⟨mw_46, mw_47, mw_48, mw_49, by decide +kernel⟩
theorem kv_X11_in : Cond.static yX11_in ∈ gw ∧ Cond.initialized yX11_in.cls ∈ gw ∧ Cond.code yX11_in cX11_in 3 (some .boolean) ∈ gw ∧ (yX11_in.cls ≠ "java/lang/invoke/MethodHandle" ∧ yX11_in.cls ≠ "java/lang/invoke/VarHandle" ∧ (parseMethodDescriptor yX11_in.desc).map (fun d => d.parameters.length) = some 3) := ⟨mw_57, mw_58, mw_59, by decide +kernel⟩
theorem kv_X11_isClerk : Cond.instanceMethod yX11_isClerk ∈ gw ∧ Cond.selects RX11 yX11_isClerk yX11_isClerk ∈ gw ∧ Cond.initialized RX11 ∈ gw ∧ Cond.code yX11_isClerk cX11_isClerk 2 (some .boolean) ∈ gw ∧ (yX11_isClerk.cls = RX11 ∧ yX11_isClerk.cls ≠ "java/lang/invoke/MethodHandle" ∧ yX11_isClerk.cls ≠ "java/lang/invoke/VarHandle" ∧ (parseMethodDescriptor yX11_isClerk.desc).map (fun d => d.parameters.length) = some 1) := ⟨mw_61, mw_62, mw_58, mw_63, by decide +kernel⟩
theorem kv_X11_isDesk : Cond.instanceMethod yX11_isDesk ∈ gw ∧ Cond.selects RX11 yX11_isDesk yX11_isDesk ∈ gw ∧ Cond.initialized RX11 ∈ gw ∧ Cond.code yX11_isDesk cX11_isDesk 2 (some .boolean) ∈ gw ∧ (yX11_isDesk.cls = RX11 ∧ yX11_isDesk.cls ≠ "java/lang/invoke/MethodHandle" ∧ yX11_isDesk.cls ≠ "java/lang/invoke/VarHandle" ∧ (parseMethodDescriptor yX11_isDesk.desc).map (fun d => d.parameters.length) = some 1) := ⟨mw_65, mw_66, mw_58, mw_67, by decide +kernel⟩
theorem kv_X11_bars : Cond.instanceMethod yX11_bars ∈ gw ∧ Cond.selects RX11 yX11_bars yX11_bars ∈ gw ∧ Cond.initialized RX11 ∈ gw ∧ Cond.code yX11_bars cX11_bars 5 (some .int) ∈ gw ∧ (yX11_bars.cls = RX11 ∧ yX11_bars.cls ≠ "java/lang/invoke/MethodHandle" ∧ yX11_bars.cls ≠ "java/lang/invoke/VarHandle" ∧ (parseMethodDescriptor yX11_bars.desc).map (fun d => d.parameters.length) = some 3) := ⟨mw_70, mw_71, mw_58, mw_72, by decide +kernel⟩
theorem kv_X11_isSmall : Cond.instanceMethod yX11_isSmall ∈ gw ∧ Cond.selects RX11 yX11_isSmall yX11_isSmall ∈ gw ∧ Cond.initialized RX11 ∈ gw ∧ Cond.code yX11_isSmall cX11_isSmall 1 (some .boolean) ∈ gw ∧ (yX11_isSmall.cls = RX11 ∧ yX11_isSmall.cls ≠ "java/lang/invoke/MethodHandle" ∧ yX11_isSmall.cls ≠ "java/lang/invoke/VarHandle" ∧ (parseMethodDescriptor yX11_isSmall.desc).map (fun d => d.parameters.length) = some 0) := ⟨mw_77, mw_78, mw_58, mw_79, by decide +kernel⟩
theorem kv_X6_look : Cond.instanceMethod yX6_look ∈ gw ∧ Cond.selects RX6 yX6_look yX6_look ∈ gw ∧ Cond.initialized RX6 ∈ gw ∧ Cond.code yX6_look cX6_look 1 (some .int) ∈ gw ∧ (yX6_look.cls = RX6 ∧ yX6_look.cls ≠ "java/lang/invoke/MethodHandle" ∧ yX6_look.cls ≠ "java/lang/invoke/VarHandle" ∧ (parseMethodDescriptor yX6_look.desc).map (fun d => d.parameters.length) = some 0) := ⟨mw_89, mw_90, mw_91, mw_92, by decide +kernel⟩
theorem kv_X6_takes : Cond.instanceMethod yX6_takes ∈ gw ∧ Cond.selects RX6 yX6_takes yX6_takes ∈ gw ∧ Cond.initialized RX6 ∈ gw ∧ Cond.code yX6_takes cX6_takes 2 (some .boolean) ∈ gw ∧ (yX6_takes.cls = RX6 ∧ yX6_takes.cls ≠ "java/lang/invoke/MethodHandle" ∧ yX6_takes.cls ≠ "java/lang/invoke/VarHandle" ∧ (parseMethodDescriptor yX6_takes.desc).map (fun d => d.parameters.length) = some 1) := ⟨mw_95, mw_96, mw_91, mw_97, by decide +kernel⟩
theorem kv_X3_readClause : Cond.instanceMethod yX3_readClause ∈ gw ∧ Cond.selects RX3 yX3_readClause yX3_readClause ∈ gw ∧ Cond.initialized RX3 ∈ gw ∧ Cond.code yX3_readClause cX3_readClause 3 (some .boolean) ∈ gw ∧ (yX3_readClause.cls = RX3 ∧ yX3_readClause.cls ≠ "java/lang/invoke/MethodHandle" ∧ yX3_readClause.cls ≠ "java/lang/invoke/VarHandle" ∧ (parseMethodDescriptor yX3_readClause.desc).map (fun d => d.parameters.length) = some 0) := ⟨mw_102, mw_103, mw_104, mw_105, by decide +kernel⟩
theorem kv_X4_addDesk : Cond.instanceMethod yX4_addDesk ∈ gw ∧ Cond.selects RX4 yX4_addDesk yX4_addDesk ∈ gw ∧ Cond.initialized RX4 ∈ gw ∧ Cond.code yX4_addDesk cX4_addDesk 4 (some .boolean) ∈ gw ∧ (yX4_addDesk.cls = RX4 ∧ yX4_addDesk.cls ≠ "java/lang/invoke/MethodHandle" ∧ yX4_addDesk.cls ≠ "java/lang/invoke/VarHandle" ∧ (parseMethodDescriptor yX4_addDesk.desc).map (fun d => d.parameters.length) = some 1) := ⟨mw_111, mw_112, mw_4, mw_113, by decide +kernel⟩
theorem kv_J7_fill_53178 : Cond.static yJ7_fill_53178 ∈ gw ∧ Cond.initialized yJ7_fill_53178.cls ∈ gw ∧ Cond.code yJ7_fill_53178 cJ7_fill_53178 4 none ∈ gw ∧ (yJ7_fill_53178.cls ≠ "java/lang/invoke/MethodHandle" ∧ yJ7_fill_53178.cls ≠ "java/lang/invoke/VarHandle" ∧ (parseMethodDescriptor yJ7_fill_53178.desc).map (fun d => d.parameters.length) = some 2) := ⟨mw_116, mw_117, mw_118, by decide +kernel⟩
theorem kv_X4_clear : Cond.instanceMethod yX4_clear ∈ gw ∧ Cond.selects RX4 yX4_clear yX4_clear ∈ gw ∧ Cond.initialized RX4 ∈ gw ∧ Cond.code yX4_clear cX4_clear 1 none ∈ gw ∧ (yX4_clear.cls = RX4 ∧ yX4_clear.cls ≠ "java/lang/invoke/MethodHandle" ∧ yX4_clear.cls ≠ "java/lang/invoke/VarHandle" ∧ (parseMethodDescriptor yX4_clear.desc).map (fun d => d.parameters.length) = some 0) := ⟨mw_128, mw_129, mw_4, mw_130, by decide +kernel⟩
theorem kv_X4_readSeats : Cond.instanceMethod yX4_readSeats ∈ gw ∧ Cond.selects RX4 yX4_readSeats yX4_readSeats ∈ gw ∧ Cond.initialized RX4 ∈ gw ∧ Cond.code yX4_readSeats cX4_readSeats 4 (some .boolean) ∈ gw ∧ (yX4_readSeats.cls = RX4 ∧ yX4_readSeats.cls ≠ "java/lang/invoke/MethodHandle" ∧ yX4_readSeats.cls ≠ "java/lang/invoke/VarHandle" ∧ (parseMethodDescriptor yX4_readSeats.desc).map (fun d => d.parameters.length) = some 1) := ⟨mw_133, mw_134, mw_4, mw_135, by decide +kernel⟩
theorem kv_X4_isReadFrom : Cond.instanceMethod yX4_isReadFrom ∈ gw ∧ Cond.selects RX4 yX4_isReadFrom yX4_isReadFrom ∈ gw ∧ Cond.initialized RX4 ∈ gw ∧ Cond.code yX4_isReadFrom cX4_isReadFrom 2 (some .boolean) ∈ gw ∧ (yX4_isReadFrom.cls = RX4 ∧ yX4_isReadFrom.cls ≠ "java/lang/invoke/MethodHandle" ∧ yX4_isReadFrom.cls ≠ "java/lang/invoke/VarHandle" ∧ (parseMethodDescriptor yX4_isReadFrom.desc).map (fun d => d.parameters.length) = some 1) := ⟨mw_138, mw_139, mw_4, mw_140, by decide +kernel⟩
theorem kv_X3_isRead : Cond.instanceMethod yX3_isRead ∈ gw ∧ Cond.selects RX3 yX3_isRead yX3_isRead ∈ gw ∧ Cond.initialized RX3 ∈ gw ∧ Cond.code yX3_isRead cX3_isRead 2 (some .boolean) ∈ gw ∧ (yX3_isRead.cls = RX3 ∧ yX3_isRead.cls ≠ "java/lang/invoke/MethodHandle" ∧ yX3_isRead.cls ≠ "java/lang/invoke/VarHandle" ∧ (parseMethodDescriptor yX3_isRead.desc).map (fun d => d.parameters.length) = some 0) := ⟨mw_143, mw_144, mw_104, mw_145, by decide +kernel⟩
theorem kv_X10_takePlan : Cond.instanceMethod yX10_takePlan ∈ gw ∧ Cond.selects RX10 yX10_takePlan yX10_takePlan ∈ gw ∧ Cond.initialized RX10 ∈ gw ∧ Cond.code yX10_takePlan cX10_takePlan 2 (some .int) ∈ gw ∧ (yX10_takePlan.cls = RX10 ∧ yX10_takePlan.cls ≠ "java/lang/invoke/MethodHandle" ∧ yX10_takePlan.cls ≠ "java/lang/invoke/VarHandle" ∧ (parseMethodDescriptor yX10_takePlan.desc).map (fun d => d.parameters.length) = some 0) := ⟨mw_147, mw_148, mw_23, mw_149, by decide +kernel⟩
theorem kv_X10_takeLaw : Cond.instanceMethod yX10_takeLaw ∈ gw ∧ Cond.selects RX10 yX10_takeLaw yX10_takeLaw ∈ gw ∧ Cond.initialized RX10 ∈ gw ∧ Cond.code yX10_takeLaw cX10_takeLaw 1 (some .int) ∈ gw ∧ (yX10_takeLaw.cls = RX10 ∧ yX10_takeLaw.cls ≠ "java/lang/invoke/MethodHandle" ∧ yX10_takeLaw.cls ≠ "java/lang/invoke/VarHandle" ∧ (parseMethodDescriptor yX10_takeLaw.desc).map (fun d => d.parameters.length) = some 0) := ⟨mw_151, mw_152, mw_23, mw_153, by decide +kernel⟩
theorem kv_X10_takeOffice : Cond.instanceMethod yX10_takeOffice ∈ gw ∧ Cond.selects RX10 yX10_takeOffice yX10_takeOffice ∈ gw ∧ Cond.initialized RX10 ∈ gw ∧ Cond.code yX10_takeOffice cX10_takeOffice 2 (some .int) ∈ gw ∧ (yX10_takeOffice.cls = RX10 ∧ yX10_takeOffice.cls ≠ "java/lang/invoke/MethodHandle" ∧ yX10_takeOffice.cls ≠ "java/lang/invoke/VarHandle" ∧ (parseMethodDescriptor yX10_takeOffice.desc).map (fun d => d.parameters.length) = some 0) := ⟨mw_155, mw_156, mw_23, mw_157, by decide +kernel⟩
theorem kv_X5_isReadFrom : Cond.instanceMethod yX5_isReadFrom ∈ gw ∧ Cond.selects RX5 yX5_isReadFrom yX5_isReadFrom ∈ gw ∧ Cond.initialized RX5 ∈ gw ∧ Cond.code yX5_isReadFrom cX5_isReadFrom 5 (some .boolean) ∈ gw ∧ (yX5_isReadFrom.cls = RX5 ∧ yX5_isReadFrom.cls ≠ "java/lang/invoke/MethodHandle" ∧ yX5_isReadFrom.cls ≠ "java/lang/invoke/VarHandle" ∧ (parseMethodDescriptor yX5_isReadFrom.desc).map (fun d => d.parameters.length) = some 1) := ⟨mw_160, mw_161, mw_162, mw_163, by decide +kernel⟩
theorem kv_X6_signsIn : Cond.static yX6_signsIn ∈ gw ∧ Cond.initialized yX6_signsIn.cls ∈ gw ∧ Cond.code yX6_signsIn cX6_signsIn 3 (some .int) ∈ gw ∧ (yX6_signsIn.cls ≠ "java/lang/invoke/MethodHandle" ∧ yX6_signsIn.cls ≠ "java/lang/invoke/VarHandle" ∧ (parseMethodDescriptor yX6_signsIn.desc).map (fun d => d.parameters.length) = some 1) := ⟨mw_167, mw_91, mw_168, by decide +kernel⟩
theorem kv_X6_append : Cond.instanceMethod yX6_append ∈ gw ∧ Cond.selects RX6 yX6_append yX6_append ∈ gw ∧ Cond.initialized RX6 ∈ gw ∧ Cond.code yX6_append cX6_append 4 none ∈ gw ∧ (yX6_append.cls = RX6 ∧ yX6_append.cls ≠ "java/lang/invoke/MethodHandle" ∧ yX6_append.cls ≠ "java/lang/invoke/VarHandle" ∧ (parseMethodDescriptor yX6_append.desc).map (fun d => d.parameters.length) = some 1) := ⟨mw_170, mw_171, mw_91, mw_172, by decide +kernel⟩
theorem kv_X11_here : Cond.instanceMethod yX11_here ∈ gw ∧ Cond.selects RX11 yX11_here yX11_here ∈ gw ∧ Cond.initialized RX11 ∈ gw ∧ Cond.code yX11_here cX11_here 1 (some .int) ∈ gw ∧ (yX11_here.cls = RX11 ∧ yX11_here.cls ≠ "java/lang/invoke/MethodHandle" ∧ yX11_here.cls ≠ "java/lang/invoke/VarHandle" ∧ (parseMethodDescriptor yX11_here.desc).map (fun d => d.parameters.length) = some 0) := ⟨mw_175, mw_176, mw_58, mw_177, by decide +kernel⟩
theorem kv_X11_look : Cond.instanceMethod yX11_look ∈ gw ∧ Cond.selects RX11 yX11_look yX11_look ∈ gw ∧ Cond.initialized RX11 ∈ gw ∧ Cond.code yX11_look cX11_look 1 (some .int) ∈ gw ∧ (yX11_look.cls = RX11 ∧ yX11_look.cls ≠ "java/lang/invoke/MethodHandle" ∧ yX11_look.cls ≠ "java/lang/invoke/VarHandle" ∧ (parseMethodDescriptor yX11_look.desc).map (fun d => d.parameters.length) = some 0) := ⟨mw_182, mw_183, mw_58, mw_184, by decide +kernel⟩
theorem kv_X11_bad : Cond.instanceMethod yX11_bad ∈ gw ∧ Cond.selects RX11 yX11_bad yX11_bad ∈ gw ∧ Cond.initialized RX11 ∈ gw ∧ Cond.code yX11_bad cX11_bad 1 none ∈ gw ∧ (yX11_bad.cls = RX11 ∧ yX11_bad.cls ≠ "java/lang/invoke/MethodHandle" ∧ yX11_bad.cls ≠ "java/lang/invoke/VarHandle" ∧ (parseMethodDescriptor yX11_bad.desc).map (fun d => d.parameters.length) = some 0) := ⟨mw_186, mw_187, mw_58, mw_188, by decide +kernel⟩
theorem kv_X11_open : Cond.instanceMethod yX11_open ∈ gw ∧ Cond.selects RX11 yX11_open yX11_open ∈ gw ∧ Cond.initialized RX11 ∈ gw ∧ Cond.code yX11_open cX11_open 2 none ∈ gw ∧ (yX11_open.cls = RX11 ∧ yX11_open.cls ≠ "java/lang/invoke/MethodHandle" ∧ yX11_open.cls ≠ "java/lang/invoke/VarHandle" ∧ (parseMethodDescriptor yX11_open.desc).map (fun d => d.parameters.length) = some 1) := ⟨mw_194, mw_195, mw_58, mw_196, by decide +kernel⟩
theorem kv_X11_clause : Cond.instanceMethod yX11_clause ∈ gw ∧ Cond.selects RX11 yX11_clause yX11_clause ∈ gw ∧ Cond.initialized RX11 ∈ gw ∧ Cond.code yX11_clause cX11_clause 3 none ∈ gw ∧ (yX11_clause.cls = RX11 ∧ yX11_clause.cls ≠ "java/lang/invoke/MethodHandle" ∧ yX11_clause.cls ≠ "java/lang/invoke/VarHandle" ∧ (parseMethodDescriptor yX11_clause.desc).map (fun d => d.parameters.length) = some 0) := ⟨mw_198, mw_199, mw_58, mw_200, by decide +kernel⟩
theorem kv_X11_atEnd : Cond.instanceMethod yX11_atEnd ∈ gw ∧ Cond.selects RX11 yX11_atEnd yX11_atEnd ∈ gw ∧ Cond.initialized RX11 ∈ gw ∧ Cond.code yX11_atEnd cX11_atEnd 1 (some .int) ∈ gw ∧ (yX11_atEnd.cls = RX11 ∧ yX11_atEnd.cls ≠ "java/lang/invoke/MethodHandle" ∧ yX11_atEnd.cls ≠ "java/lang/invoke/VarHandle" ∧ (parseMethodDescriptor yX11_atEnd.desc).map (fun d => d.parameters.length) = some 0) := ⟨mw_202, mw_203, mw_58, mw_204, by decide +kernel⟩
theorem kv_X11_seats : Cond.instanceMethod yX11_seats ∈ gw ∧ Cond.selects RX11 yX11_seats yX11_seats ∈ gw ∧ Cond.initialized RX11 ∈ gw ∧ Cond.code yX11_seats cX11_seats 3 none ∈ gw ∧ (yX11_seats.cls = RX11 ∧ yX11_seats.cls ≠ "java/lang/invoke/MethodHandle" ∧ yX11_seats.cls ≠ "java/lang/invoke/VarHandle" ∧ (parseMethodDescriptor yX11_seats.desc).map (fun d => d.parameters.length) = some 0) := ⟨mw_207, mw_208, mw_58, mw_209, by decide +kernel⟩
theorem kv_X11_readPlan : Cond.instanceMethod yX11_readPlan ∈ gw ∧ Cond.selects RX11 yX11_readPlan yX11_readPlan ∈ gw ∧ Cond.initialized RX11 ∈ gw ∧ Cond.code yX11_readPlan cX11_readPlan 4 (some .int) ∈ gw ∧ (yX11_readPlan.cls = RX11 ∧ yX11_readPlan.cls ≠ "java/lang/invoke/MethodHandle" ∧ yX11_readPlan.cls ≠ "java/lang/invoke/VarHandle" ∧ (parseMethodDescriptor yX11_readPlan.desc).map (fun d => d.parameters.length) = some 0) := ⟨mw_212, mw_213, mw_58, mw_214, by decide +kernel⟩
theorem kv_X11_readLaw : Cond.instanceMethod yX11_readLaw ∈ gw ∧ Cond.selects RX11 yX11_readLaw yX11_readLaw ∈ gw ∧ Cond.initialized RX11 ∈ gw ∧ Cond.code yX11_readLaw cX11_readLaw 2 (some .int) ∈ gw ∧ (yX11_readLaw.cls = RX11 ∧ yX11_readLaw.cls ≠ "java/lang/invoke/MethodHandle" ∧ yX11_readLaw.cls ≠ "java/lang/invoke/VarHandle" ∧ (parseMethodDescriptor yX11_readLaw.desc).map (fun d => d.parameters.length) = some 1) := ⟨mw_216, mw_217, mw_58, mw_218, by decide +kernel⟩
theorem kv_X11_readOffice : Cond.instanceMethod yX11_readOffice ∈ gw ∧ Cond.selects RX11 yX11_readOffice yX11_readOffice ∈ gw ∧ Cond.initialized RX11 ∈ gw ∧ Cond.code yX11_readOffice cX11_readOffice 2 (some .int) ∈ gw ∧ (yX11_readOffice.cls = RX11 ∧ yX11_readOffice.cls ≠ "java/lang/invoke/MethodHandle" ∧ yX11_readOffice.cls ≠ "java/lang/invoke/VarHandle" ∧ (parseMethodDescriptor yX11_readOffice.desc).map (fun d => d.parameters.length) = some 0) := ⟨mw_220, mw_221, mw_58, mw_222, by decide +kernel⟩
theorem kv_X11_byteOf : Cond.static yX11_byteOf ∈ gw ∧ Cond.initialized yX11_byteOf.cls ∈ gw ∧ Cond.code yX11_byteOf cX11_byteOf 7 (some .int) ∈ gw ∧ (yX11_byteOf.cls ≠ "java/lang/invoke/MethodHandle" ∧ yX11_byteOf.cls ≠ "java/lang/invoke/VarHandle" ∧ (parseMethodDescriptor yX11_byteOf.desc).map (fun d => d.parameters.length) = some 6) := ⟨mw_225, mw_58, mw_226, by decide +kernel⟩
theorem kv_X6_init : Cond.instanceMethod yX6_init ∈ gw ∧ Cond.initialized yX6_init.cls ∈ gw ∧ Cond.code yX6_init cX6_init 1 none ∈ gw ∧ yX6_init.name = "<init>" ∧ (yX6_init.cls ≠ "java/lang/invoke/MethodHandle" ∧ yX6_init.cls ≠ "java/lang/invoke/VarHandle" ∧ (parseMethodDescriptor yX6_init.desc).map (fun d => d.parameters.length) = some 0) := ⟨mw_258, mw_91, mw_259, rfl, by decide +kernel⟩
theorem kv_X3_init : Cond.instanceMethod yX3_init ∈ gw ∧ Cond.initialized yX3_init.cls ∈ gw ∧ Cond.code yX3_init cX3_init 2 none ∈ gw ∧ yX3_init.name = "<init>" ∧ (yX3_init.cls ≠ "java/lang/invoke/MethodHandle" ∧ yX3_init.cls ≠ "java/lang/invoke/VarHandle" ∧ (parseMethodDescriptor yX3_init.desc).map (fun d => d.parameters.length) = some 1) := ⟨mw_263, mw_104, mw_264, rfl, by decide +kernel⟩
theorem kv_X4_init : Cond.instanceMethod yX4_init ∈ gw ∧ Cond.initialized yX4_init.cls ∈ gw ∧ Cond.code yX4_init cX4_init 1 none ∈ gw ∧ yX4_init.name = "<init>" ∧ (yX4_init.cls ≠ "java/lang/invoke/MethodHandle" ∧ yX4_init.cls ≠ "java/lang/invoke/VarHandle" ∧ (parseMethodDescriptor yX4_init.desc).map (fun d => d.parameters.length) = some 0) := ⟨mw_270, mw_4, mw_271, rfl, by decide +kernel⟩
theorem kv_X5_init : Cond.instanceMethod yX5_init ∈ gw ∧ Cond.initialized yX5_init.cls ∈ gw ∧ Cond.code yX5_init cX5_init 1 none ∈ gw ∧ yX5_init.name = "<init>" ∧ (yX5_init.cls ≠ "java/lang/invoke/MethodHandle" ∧ yX5_init.cls ≠ "java/lang/invoke/VarHandle" ∧ (parseMethodDescriptor yX5_init.desc).map (fun d => d.parameters.length) = some 0) := ⟨mw_275, mw_162, mw_276, rfl, by decide +kernel⟩
theorem kv_X1_init : Cond.instanceMethod yX1_init ∈ gw ∧ Cond.initialized yX1_init.cls ∈ gw ∧ Cond.code yX1_init cX1_init 1 none ∈ gw ∧ yX1_init.name = "<init>" ∧ (yX1_init.cls ≠ "java/lang/invoke/MethodHandle" ∧ yX1_init.cls ≠ "java/lang/invoke/VarHandle" ∧ (parseMethodDescriptor yX1_init.desc).map (fun d => d.parameters.length) = some 0) := ⟨mw_280, mw_34, mw_281, rfl, by decide +kernel⟩
theorem kv_X7_init : Cond.instanceMethod yX7_init ∈ gw ∧ Cond.initialized yX7_init.cls ∈ gw ∧ Cond.code yX7_init cX7_init 1 none ∈ gw ∧ yX7_init.name = "<init>" ∧ (yX7_init.cls ≠ "java/lang/invoke/MethodHandle" ∧ yX7_init.cls ≠ "java/lang/invoke/VarHandle" ∧ (parseMethodDescriptor yX7_init.desc).map (fun d => d.parameters.length) = some 0) := ⟨mw_285, mw_48, mw_286, rfl, by decide +kernel⟩
theorem kv_X9_init : Cond.instanceMethod yX9_init ∈ gw ∧ Cond.initialized yX9_init.cls ∈ gw ∧ Cond.code yX9_init cX9_init 1 none ∈ gw ∧ yX9_init.name = "<init>" ∧ (yX9_init.cls ≠ "java/lang/invoke/MethodHandle" ∧ yX9_init.cls ≠ "java/lang/invoke/VarHandle" ∧ (parseMethodDescriptor yX9_init.desc).map (fun d => d.parameters.length) = some 0) := ⟨mw_291, mw_290, mw_292, rfl, by decide +kernel⟩
