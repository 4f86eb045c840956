/-- a method: its name, bytes, locals, answer's type, the frames and words that its calls need, its parameters -/
abbrev MI : Type := MethodName × ByteArray × Nat × Option FieldType × Nat × Nat × Nat
abbrev mY (M : MI) : MethodName := M.1
abbrev mC (M : MI) : ByteArray := M.2.1
abbrev mL (M : MI) : Nat := M.2.2.1
abbrev mR (M : MI) : Option FieldType := M.2.2.2.1
abbrev mFr (M : MI) : Nat := M.2.2.2.2.1
abbrev mLc (M : MI) : Nat := M.2.2.2.2.2.1
abbrev mNp (M : MI) : Nat := M.2.2.2.2.2.2
def lw_g : List Cond := lw_tbl.filter goodWord
def isNest : Cond → Bool
  | .methodLinkNest .. => true
  | _ => false
def lw_n : List Cond := lw_tbl.filter isNest
def linkM (own : String) (idx : Nat) (y : MethodName) (cc : ByteArray) : Prop := Cond.methodLink own idx y ∈ lw_tbl ∧ Cond.static y ∈ lw_tbl ∧ Cond.initialized "java/lang/Math" ∈ lw_tbl ∧ Cond.code y cc 2 (some .int) ∈ lw_tbl
def okM (M : MI) : Prop := Cond.code (mY M) (mC M) (mL M) (mR M) ∈ lw_tbl ∧ Cond.initialized (mY M).cls ∈ lw_tbl ∧ plainName (mY M).cls = true ∧ (mY M).cls ≠ "java/lang/invoke/MethodHandle" ∧ (mY M).cls ≠ "java/lang/invoke/VarHandle" ∧ (parseMethodDescriptor (mY M).desc).map (fun d => d.parameters.length) = some (mNp M)
def linkV (own : String) (idx : Nat) (M : MI) : Prop := okM M ∧ Cond.methodLink own idx (mY M) ∈ lw_tbl ∧ Cond.instanceMethod (mY M) ∈ lw_tbl ∧ Cond.selects (mY M).cls (mY M) (mY M) ∈ lw_tbl
def linkS (own : String) (idx : Nat) (M : MI) : Prop := okM M ∧ Cond.methodLink own idx (mY M) ∈ lw_tbl ∧ Cond.static (mY M) ∈ lw_tbl
def linkN (own : String) (idx : Nat) (M : MI) : Prop := okM M ∧ (∃ host, Cond.methodLinkNest own idx (mY M) host ∈ lw_tbl) ∧ Cond.static (mY M) ∈ lw_tbl
def linkI (own : String) (idx : Nat) (M : MI) : Prop := okM M ∧ Cond.methodLink own idx (mY M) ∈ lw_tbl ∧ Cond.instanceMethod (mY M) ∈ lw_tbl ∧ (mY M).name = "<init>" ∧ mR M = none
def linkO (own : String) (idx : Nat) : Prop := Cond.methodLink own idx Lib.objectInit ∈ lw_tbl ∧ Cond.instanceMethod Lib.objectInit ∈ lw_tbl ∧ Cond.code Lib.objectInit ⟨#[0xb1]⟩ 1 none ∈ lw_tbl
def linkC (own : String) (idx : Nat) : Prop := Cond.methodLink own idx arraycopyName ∈ lw_tbl ∧ Cond.native arraycopyName ∈ lw_tbl ∧ Cond.static arraycopyName ∈ lw_tbl ∧ Cond.initialized "java/lang/System" ∈ lw_tbl
/-- what is known of a class: its number, fields, their types -/
def CF (ci : Nat) (C : String) (T : u_T) (n : Nat) (ty : Nat → FieldType) : Prop := vwCl[ci]? = some (C, T, n) ∧ (∀ w ∈ u_ws C T n, w ∈ lw_tbl) ∧ (∀ k, k < n → parseFieldDescriptor (T k).2.2.1 = some (ty k)) ∧ (∀ a, a < n → ∀ b, b < n → a ≠ b → (T a).2.1 ≠ (T b).2.1) ∧ Cond.instantiable C n ∈ lw_tbl ∧ Cond.initialized C ∈ lw_tbl
/-- a field's link: class number, slot, type, final or not -/
def FL (own : String) (idx ci k : Nat) (t : FieldType) (fin : Bool) : Prop := ∃ (C : String) (T : u_T) (n : Nat) (ty : Nat → FieldType), CF ci C T n ty ∧ k < n ∧ Cond.fieldLink own idx (T k).1 (T k).2.1 (T k).2.2.1 ∈ lw_tbl ∧ ty k = t ∧ (T k).2.2.2 = fin ∧ (T k).1 = C
def linkNew (own : String) (idx ci : Nat) (fs : List Value) : Prop := ∃ (C : String) (T : u_T) (n : Nat) (ty : Nat → FieldType), CF ci C T n ty ∧ Cond.classLink own idx C ∈ lw_tbl ∧ n = fs.length ∧ ∀ j, j < n → defaultValue (ty j) = vp_V fs j

set_option maxRecDepth 100000 in
theorem cf0 : CF 0 RX0 TX0 4 tyX0 := ⟨rfl, by decide +kernel, tyX0_ok, nmX0, (List.mem_of_getElem? (i := 67) (by decide +kernel)), (List.mem_of_getElem? (i := 41) (by decide +kernel))⟩
set_option maxRecDepth 100000 in
theorem cf1 : CF 1 RX1 TX1 16 tyX1 := ⟨rfl, by decide +kernel, tyX1_ok, nmX1, (List.mem_of_getElem? (i := 300) (by decide +kernel)), (List.mem_of_getElem? (i := 49) (by decide +kernel))⟩
set_option maxRecDepth 100000 in
theorem cf2 : CF 2 RX2 TX2 2 tyX2 := ⟨rfl, by decide +kernel, tyX2_ok, nmX2, (List.mem_of_getElem? (i := 146) (by decide +kernel)), (List.mem_of_getElem? (i := 44) (by decide +kernel))⟩
set_option maxRecDepth 100000 in
theorem cf3 : CF 3 RX3 TX3 4 tyX3 := ⟨rfl, by decide +kernel, tyX3_ok, nmX3, (List.mem_of_getElem? (i := 73) (by decide +kernel)), (List.mem_of_getElem? (i := 42) (by decide +kernel))⟩
set_option maxRecDepth 100000 in
theorem cf4 : CF 4 RX4 TX4 2 tyX4 := ⟨rfl, by decide +kernel, tyX4_ok, nmX4, (List.mem_of_getElem? (i := 160) (by decide +kernel)), (List.mem_of_getElem? (i := 45) (by decide +kernel))⟩
set_option maxRecDepth 100000 in
theorem cf5 : CF 5 RX5 TX5 8 tyX5 := ⟨rfl, by decide +kernel, tyX5_ok, nmX5, (List.mem_of_getElem? (i := 59) (by decide +kernel)), (List.mem_of_getElem? (i := 40) (by decide +kernel))⟩
set_option maxRecDepth 100000 in
theorem cf6 : CF 6 RX6 TX6 7 tyX6 := ⟨rfl, by decide +kernel, tyX6_ok, nmX6, (List.mem_of_getElem? (i := 51) (by decide +kernel)), (List.mem_of_getElem? (i := 39) (by decide +kernel))⟩
set_option maxRecDepth 100000 in
theorem cf7 : CF 7 RX7 TX7 16 tyX7 := ⟨rfl, by decide +kernel, tyX7_ok, nmX7, (List.mem_of_getElem? (i := 854) (by decide +kernel)), (List.mem_of_getElem? (i := 47) (by decide +kernel))⟩
abbrev mX3_init : MI := (yX3_init, cX3_init, 3, none, 1, 21, 2)
abbrev mX0_init : MI := (yX0_init, cX0_init, 1, none, 2, 43, 0)
abbrev mX0_clear : MI := (yX0_clear, cX0_clear, 1, none, 0, 0, 0)
abbrev mX0_hasRoom : MI := (yX0_hasRoom, cX0_hasRoom, 1, some .boolean, 0, 0, 0)
abbrev mJ7_copyOf_59c91 : MI := (yJ7_copyOf_59c91, cJ7_copyOf_59c91, 3, some (.array .int), 1, 26, 2)
abbrev mX3_reserve : MI := (yX3_reserve, cX3_reserve, 4, none, 2, 48, 1)
abbrev mX0_reserveForAct : MI := (yX0_reserveForAct, cX0_reserveForAct, 1, none, 3, 71, 0)
abbrev mX0_sent : MI := (yX0_sent, cX0_sent, 1, some .int, 0, 0, 0)
abbrev mX0_stillUnderWay : MI := (yX0_stillUnderWay, cX0_stillUnderWay, 1, some .int, 0, 0, 0)
abbrev mX0_hasLetter : MI := (yX0_hasLetter, cX0_hasLetter, 2, some .boolean, 0, 0, 1)
abbrev mX3_get : MI := (yX3_get, cX3_get, 3, some .int, 0, 0, 2)
abbrev mX0_ofLetter : MI := (yX0_ofLetter, cX0_ofLetter, 3, some .int, 1, 22, 2)
abbrev mX0_ofPiece : MI := (yX0_ofPiece, cX0_ofPiece, 4, some .int, 1, 22, 3)
abbrev mX0_nthUnderWay : MI := (yX0_nthUnderWay, cX0_nthUnderWay, 4, some .int, 1, 22, 1)
abbrev mX3_add : MI := (yX3_add, cX3_add, 3, some .int, 0, 0, 0)
abbrev mX3_set : MI := (yX3_set, cX3_set, 4, none, 0, 0, 3)
abbrev mX0_open : MI := (yX0_open, cX0_open, 7, some .int, 1, 23, 5)
abbrev mX0_put : MI := (yX0_put, cX0_put, 7, none, 1, 23, 4)
abbrev mX0_sendCopy : MI := (yX0_sendCopy, cX0_sendCopy, 5, some .int, 2, 49, 1)
abbrev mX0_endAsDelivered : MI := (yX0_endAsDelivered, cX0_endAsDelivered, 2, none, 1, 23, 1)
abbrev mX0_endAsLost : MI := (yX0_endAsLost, cX0_endAsLost, 2, none, 1, 23, 1)
abbrev mX0_findPiece : MI := (yX0_findPiece, cX0_findPiece, 5, some .int, 2, 45, 2)
abbrev mX0_reached : MI := (yX0_reached, cX0_reached, 3, some .boolean, 2, 44, 2)
abbrev mX3_become : MI := (yX3_become, cX3_become, 3, none, 3, 71, 1)
abbrev mX0_become : MI := (yX0_become, cX0_become, 2, none, 4, 93, 1)
abbrev mX6_sameNumbers : MI := (yX6_sameNumbers, cX6_sameNumbers, 4, some .boolean, 0, 0, 3)
abbrev mX3_sameAs : MI := (yX3_sameAs, cX3_sameAs, 2, some .boolean, 1, 23, 1)
abbrev mX0_sameAs : MI := (yX0_sameAs, cX0_sameAs, 2, some .boolean, 2, 44, 1)
abbrev mX1_init : MI := (yX1_init, cX1_init, 2, none, 1, 20, 1)
abbrev mJ7_fill_53178 : MI := (yJ7_fill_53178, cJ7_fill_53178, 4, none, 0, 0, 2)
abbrev mX1_stopAsking : MI := (yX1_stopAsking, cX1_stopAsking, 1, none, 0, 0, 0)
abbrev mX1_enter : MI := (yX1_enter, cX1_enter, 5, none, 0, 0, 4)
abbrev mX1_say : MI := (yX1_say, cX1_say, 4, none, 1, 24, 3)
abbrev mX1_forgetAll : MI := (yX1_forgetAll, cX1_forgetAll, 1, none, 2, 47, 0)
abbrev mX1_begin : MI := (yX1_begin, cX1_begin, 3, none, 3, 67, 1)
abbrev mX1_raiseTerm : MI := (yX1_raiseTerm, cX1_raiseTerm, 2, none, 1, 24, 1)
abbrev mX6_isMember : MI := (yX6_isMember, cX6_isMember, 1, some .boolean, 0, 0, 1)
abbrev mX1_isBeaten : MI := (yX1_isBeaten, cX1_isBeaten, 4, some .boolean, 0, 0, 3)
abbrev mX1_takePiece : MI := (yX1_takePiece, cX1_takePiece, 6, some .boolean, 2, 45, 4)
abbrev mX1_hasNews : MI := (yX1_hasNews, cX1_hasNews, 2, some .boolean, 1, 20, 1)
abbrev mX1_thinksLiving : MI := (yX1_thinksLiving, cX1_thinksLiving, 2, some .boolean, 0, 0, 1)
abbrev mX1_saysItself : MI := (yX1_saysItself, cX1_saysItself, 4, some .boolean, 2, 41, 3)
abbrev mX1_countKind : MI := (yX1_countKind, cX1_countKind, 4, some .int, 0, 0, 1)
abbrev mX1_isAnswered : MI := (yX1_isAnswered, cX1_isAnswered, 2, none, 0, 0, 1)
abbrev mX1_stirred : MI := (yX1_stirred, cX1_stirred, 2, some .long, 0, 0, 1)
abbrev mX1_drawn : MI := (yX1_drawn, cX1_drawn, 3, some .int, 0, 0, 2)
abbrev mX1_draw : MI := (yX1_draw, cX1_draw, 2, some .int, 1, 22, 1)
abbrev mX1_gatherLiving : MI := (yX1_gatherLiving, cX1_gatherLiving, 5, some .int, 1, 21, 2)
abbrev mX1_shuffle : MI := (yX1_shuffle, cX1_shuffle, 9, some .long, 1, 22, 3)
abbrev mX1_makeRound : MI := (yX1_makeRound, cX1_makeRound, 1, none, 2, 50, 0)
abbrev mX1_nextPlace : MI := (yX1_nextPlace, cX1_nextPlace, 2, some .int, 1, 21, 0)
abbrev mX1_stepRound : MI := (yX1_stepRound, cX1_stepRound, 2, some .int, 2, 42, 0)
abbrev mX1_wouldAsk : MI := (yX1_wouldAsk, cX1_wouldAsk, 4, some .int, 2, 50, 1)
abbrev mX1_pickAll : MI := (yX1_pickAll, cX1_pickAll, 4, some .int, 0, 0, 1)
abbrev mX1_pickInOrder : MI := (yX1_pickInOrder, cX1_pickInOrder, 7, some .int, 0, 0, 3)
abbrev mX1_pickFreshest : MI := (yX1_pickFreshest, cX1_pickFreshest, 4, some .int, 1, 26, 1)
abbrev mX1_become : MI := (yX1_become, cX1_become, 2, none, 1, 26, 1)
abbrev mX1_sameAs : MI := (yX1_sameAs, cX1_sameAs, 2, some .boolean, 1, 23, 1)
abbrev mX1_differsIn : MI := (yX1_differsIn, cX1_differsIn, 3, some .int, 0, 0, 1)
abbrev mX2_init : MI := (yX2_init, cX2_init, 1, none, 1, 20, 0)
abbrev mX2_keep : MI := (yX2_keep, cX2_keep, 2, none, 0, 0, 1)
abbrev mX2_throwLatest : MI := (yX2_throwLatest, cX2_throwLatest, 2, some .int, 0, 0, 0)
abbrev mX4_init : MI := (yX4_init, cX4_init, 1, none, 1, 20, 0)
abbrev mX4_add : MI := (yX4_add, cX4_add, 2, none, 2, 48, 1)
abbrev mX4_follow : MI := (yX4_follow, cX4_follow, 6, none, 3, 69, 3)
abbrev mX4_stands : MI := (yX4_stands, cX4_stands, 11, some .boolean, 3, 69, 5)
abbrev mX5_init : MI := (yX5_init, cX5_init, 1, none, 3, 63, 0)
abbrev mJ7_fill_d0a16 : MI := (yJ7_fill_d0a16, cJ7_fill_d0a16, 5, none, 0, 0, 2)
abbrev mX5_clear : MI := (yX5_clear, cX5_clear, 3, none, 1, 24, 0)
abbrev mX5_memberAt : MI := (yX5_memberAt, cX5_memberAt, 3, some (.object "CrowdRoll$Member"), 1, 20, 1)
abbrev mX5_seat : MI := (yX5_seat, cX5_seat, 3, some (.object "CrowdRoll$Member"), 2, 41, 1)
abbrev mX5_upAt : MI := (yX5_upAt, cX5_upAt, 3, some (.object "CrowdRoll$Member"), 2, 42, 1)
abbrev mX5_whyNoMember : MI := (yX5_whyNoMember, cX5_whyNoMember, 2, some .int, 2, 42, 1)
abbrev mX5_whyNoNews : MI := (yX5_whyNoNews, cX5_whyNoNews, 4, some .int, 2, 42, 2)
abbrev mX5_isBeyond : MI := (yX5_isBeyond, cX5_isBeyond, 4, some .boolean, 1, 21, 3)
abbrev mX5_isMissing : MI := (yX5_isMissing, cX5_isMissing, 4, some .boolean, 2, 44, 3)
abbrev mX5_isDown : MI := (yX5_isDown, cX5_isDown, 3, some .boolean, 3, 64, 2)
abbrev mX5_isNotAsTold : MI := (yX5_isNotAsTold, cX5_isNotAsTold, 4, some .boolean, 3, 64, 3)
abbrev mX5_whyRefused : MI := (yX5_whyRefused, cX5_whyRefused, 5, some .int, 4, 87, 3)
abbrev mX5_keepAct : MI := (yX5_keepAct, cX5_keepAct, 7, none, 3, 71, 4)
abbrev mX5_makeMember : MI := (yX5_makeMember, cX5_makeMember, 4, some .int, 4, 89, 2)
abbrev mX5_isCut : MI := (yX5_isCut, cX5_isCut, 3, some .boolean, 1, 20, 2)
abbrev mX5_tally : MI := (yX5_tally, cX5_tally, 2, none, 0, 0, 1)
abbrev mX5_takeNews : MI := (yX5_takeNews, cX5_takeNews, 6, none, 3, 70, 2)
abbrev mX5_send : MI := (yX5_send, cX5_send, 10, some .int, 2, 49, 4)
abbrev mX5_respond : MI := (yX5_respond, cX5_respond, 5, some .int, 3, 78, 2)
abbrev mX5_bring : MI := (yX5_bring, cX5_bring, 5, some .int, 4, 102, 1)
abbrev mX5_setLink : MI := (yX5_setLink, cX5_setLink, 4, some .int, 2, 42, 3)
abbrev mX5_sendDrawn : MI := (yX5_sendDrawn, cX5_sendDrawn, 7, some .int, 3, 78, 3)
abbrev mX5_goAway : MI := (yX5_goAway, cX5_goAway, 2, some .int, 4, 104, 1)
abbrev mX5_endOldDoubts : MI := (yX5_endOldDoubts, cX5_endOldDoubts, 3, none, 2, 47, 1)
abbrev mX5_doubtUnanswered : MI := (yX5_doubtUnanswered, cX5_doubtUnanswered, 3, none, 2, 47, 1)
abbrev mX5_askNext : MI := (yX5_askNext, cX5_askNext, 3, some .int, 3, 78, 1)
abbrev mX5_takeTurn : MI := (yX5_takeTurn, cX5_takeTurn, 3, some .int, 4, 104, 1)
abbrev mX5_fallDown : MI := (yX5_fallDown, cX5_fallDown, 2, some .int, 3, 67, 1)
abbrev mX5_riseUp : MI := (yX5_riseUp, cX5_riseUp, 2, some .int, 2, 45, 1)
abbrev mX5_perform : MI := (yX5_perform, cX5_perform, 8, some .int, 5, 126, 4)
abbrev mX5_firstUp : MI := (yX5_firstUp, cX5_firstUp, 3, some (.object "CrowdRoll$Member"), 3, 64, 0)
abbrev mX5_firstApart : MI := (yX5_firstApart, cX5_firstApart, 6, some .int, 4, 86, 1)
abbrev mX5_countUpWith : MI := (yX5_countUpWith, cX5_countUpWith, 6, some .int, 3, 64, 2)
abbrev mX5_become : MI := (yX5_become, cX5_become, 5, none, 5, 114, 1)
abbrev mX5_sameAs : MI := (yX5_sameAs, cX5_sameAs, 5, some .boolean, 3, 65, 1)
abbrev mX6_init : MI := (yX6_init, cX6_init, 1, none, 4, 83, 0)
abbrev mX6_refused : MI := (yX6_refused, cX6_refused, 2, some .int, 1, 21, 1)
abbrev mX6_settled : MI := (yX6_settled, cX6_settled, 2, some .int, 2, 42, 1)
abbrev mX6_member : MI := (yX6_member, cX6_member, 4, some .int, 6, 153, 2)
abbrev mX6_join : MI := (yX6_join, cX6_join, 3, some .int, 6, 153, 2)
abbrev mX6_leave : MI := (yX6_leave, cX6_leave, 2, some .int, 6, 153, 1)
abbrev mX6_turn : MI := (yX6_turn, cX6_turn, 2, some .int, 6, 153, 1)
abbrev mX6_fall : MI := (yX6_fall, cX6_fall, 2, some .int, 6, 153, 1)
abbrev mX6_rise : MI := (yX6_rise, cX6_rise, 2, some .int, 6, 153, 1)
abbrev mX6_deliver : MI := (yX6_deliver, cX6_deliver, 2, some .int, 6, 153, 1)
abbrev mX6_lose : MI := (yX6_lose, cX6_lose, 2, some .int, 6, 153, 1)
abbrev mX6_twice : MI := (yX6_twice, cX6_twice, 2, some .int, 6, 153, 1)
abbrev mX6_cut : MI := (yX6_cut, cX6_cut, 3, some .int, 6, 153, 2)
abbrev mX6_heal : MI := (yX6_heal, cX6_heal, 3, some .int, 6, 153, 2)
abbrev mX6_letters : MI := (yX6_letters, cX6_letters, 3, some .int, 2, 42, 1)
abbrev mX6_underWay : MI := (yX6_underWay, cX6_underWay, 2, some .int, 2, 45, 1)
abbrev mX6_letter : MI := (yX6_letter, cX6_letter, 3, some .int, 2, 44, 2)
abbrev mX6_carries : MI := (yX6_carries, cX6_carries, 5, some .int, 2, 45, 3)
abbrev mX6_state : MI := (yX6_state, cX6_state, 5, some .int, 3, 63, 2)
abbrev mX6_news : MI := (yX6_news, cX6_news, 6, some .int, 3, 65, 3)
abbrev mX6_as : MI := (yX6_as, cX6_as, 6, some .int, 3, 65, 3)
abbrev mX6_round : MI := (yX6_round, cX6_round, 5, some .int, 3, 63, 2)
abbrev mX6_next : MI := (yX6_next, cX6_next, 4, some .int, 3, 73, 1)
abbrev mX6_copy : MI := (yX6_copy, cX6_copy, 7, some .int, 3, 63, 4)
abbrev mX6_table : MI := (yX6_table, cX6_table, 2, some .int, 2, 42, 1)
abbrev mX6_agree : MI := (yX6_agree, cX6_agree, 1, some .int, 5, 111, 0)
abbrev mX6_apart : MI := (yX6_apart, cX6_apart, 2, some .int, 5, 111, 1)
abbrev mX6_count : MI := (yX6_count, cX6_count, 3, some .int, 4, 89, 2)
abbrev mX6_way : MI := (yX6_way, cX6_way, 5, some .int, 4, 94, 2)
abbrev mX6_wayAt : MI := (yX6_wayAt, cX6_wayAt, 2, some .int, 2, 42, 1)
abbrev mX6_forge : MI := (yX6_forge, cX6_forge, 3, some .int, 2, 42, 2)
abbrev mX6_check : MI := (yX6_check, cX6_check, 6, some .int, 4, 99, 4)
abbrev mX6_replay : MI := (yX6_replay, cX6_replay, 9, some .int, 6, 153, 0)
abbrev mX6_image : MI := (yX6_image, cX6_image, 1, some .int, 6, 138, 0)
abbrev mX6_back : MI := (yX6_back, cX6_back, 1, some .int, 6, 138, 0)
abbrev mX6_trace : MI := (yX6_trace, cX6_trace, 2, some .int, 2, 42, 1)
abbrev mX6_again : MI := (yX6_again, cX6_again, 1, some .int, 1, 21, 0)
abbrev mX6_status : MI := (yX6_status, cX6_status, 2, some .int, 2, 42, 1)
abbrev mX7_init : MI := (yX7_init, cX7_init, 2, none, 1, 20, 0)
abbrev mX7_isIn : MI := (yX7_isIn, cX7_isIn, 6, some .boolean, 0, 0, 3)
abbrev mX7_no : MI := (yX7_no, cX7_no, 2, some .int, 0, 0, 1)
abbrev mX7_of : MI := (yX7_of, cX7_of, 3, some .int, 0, 0, 2)
abbrev mX7_to : MI := (yX7_to, cX7_to, 4, none, 0, 0, 3)
abbrev mX7_newsAt : MI := (yX7_newsAt, cX7_newsAt, 2, some .int, 0, 0, 2)
abbrev mX7_kindOf : MI := (yX7_kindOf, cX7_kindOf, 3, some .int, 1, 21, 2)
abbrev mX7_isMember : MI := (yX7_isMember, cX7_isMember, 1, some .boolean, 0, 0, 1)
abbrev mX7_isMade : MI := (yX7_isMade, cX7_isMade, 2, some .boolean, 1, 22, 1)
abbrev mX7_isLetter : MI := (yX7_isLetter, cX7_isLetter, 2, some .boolean, 0, 0, 1)
abbrev mX7_letterOf : MI := (yX7_letterOf, cX7_letterOf, 3, some .int, 0, 0, 2)
abbrev mX7_isFull : MI := (yX7_isFull, cX7_isFull, 1, some .boolean, 0, 0, 0)
abbrev mX7_ran : MI := (yX7_ran, cX7_ran, 2, none, 0, 0, 1)
abbrev mX7_draw : MI := (yX7_draw, cX7_draw, 3, some .int, 0, 0, 2)
abbrev mX7_writes : MI := (yX7_writes, cX7_writes, 7, none, 1, 22, 5)
abbrev mX7_takes : MI := (yX7_takes, cX7_takes, 8, none, 2, 48, 5)
abbrev mX7_carry : MI := (yX7_carry, cX7_carry, 5, none, 1, 21, 2)
abbrev mX7_leastTold : MI := (yX7_leastTold, cX7_leastTold, 6, some .int, 1, 21, 1)
abbrev mX7_send : MI := (yX7_send, cX7_send, 9, some .int, 2, 46, 4)
abbrev mX7_answered : MI := (yX7_answered, cX7_answered, 3, none, 1, 23, 2)
abbrev mX7_comes : MI := (yX7_comes, cX7_comes, 7, some .int, 3, 75, 1)
abbrev mX7_isAround : MI := (yX7_isAround, cX7_isAround, 3, some .boolean, 2, 43, 2)
abbrev mX7_gather : MI := (yX7_gather, cX7_gather, 4, none, 3, 65, 2)
abbrev mX7_mix : MI := (yX7_mix, cX7_mix, 5, none, 4, 88, 1)
abbrev mX7_stillThere : MI := (yX7_stillThere, cX7_stillThere, 3, some .int, 3, 65, 1)
abbrev mX7_nextOf : MI := (yX7_nextOf, cX7_nextOf, 4, some .int, 5, 112, 1)
abbrev mX7_sendsThree : MI := (yX7_sendsThree, cX7_sendsThree, 9, some .int, 4, 88, 4)
abbrev mX7_takesTurn : MI := (yX7_takesTurn, cX7_takesTurn, 7, some .int, 6, 135, 1)
abbrev mX7_why : MI := (yX7_why, cX7_why, 3, some .int, 2, 43, 2)
abbrev mX7_did : MI := (yX7_did, cX7_did, 2, some .int, 0, 0, 1)
abbrev mX7_goesQuiet : MI := (yX7_goesQuiet, cX7_goesQuiet, 2, none, 1, 23, 1)
abbrev mX7_member : MI := (yX7_member, cX7_member, 6, some .int, 2, 48, 2)
abbrev mX7_join : MI := (yX7_join, cX7_join, 3, some .int, 3, 74, 2)
abbrev mX7_leave : MI := (yX7_leave, cX7_leave, 4, some .int, 5, 116, 1)
abbrev mX7_turn : MI := (yX7_turn, cX7_turn, 3, some .int, 7, 161, 1)
abbrev mX7_fall : MI := (yX7_fall, cX7_fall, 4, some .int, 3, 65, 1)
abbrev mX7_rise : MI := (yX7_rise, cX7_rise, 3, some .int, 3, 65, 1)
abbrev mX7_whyLetter : MI := (yX7_whyLetter, cX7_whyLetter, 2, some .int, 1, 22, 1)
abbrev mX7_deliver : MI := (yX7_deliver, cX7_deliver, 6, some .int, 4, 101, 1)
abbrev mX7_withState : MI := (yX7_withState, cX7_withState, 4, some .int, 1, 22, 1)
abbrev mX7_lose : MI := (yX7_lose, cX7_lose, 3, some .int, 2, 45, 1)
abbrev mX7_twice : MI := (yX7_twice, cX7_twice, 5, some .int, 2, 43, 1)
abbrev mX7_links : MI := (yX7_links, cX7_links, 5, some .int, 1, 21, 3)
abbrev mX7_cut : MI := (yX7_cut, cX7_cut, 3, some .int, 2, 45, 2)
abbrev mX7_heal : MI := (yX7_heal, cX7_heal, 3, some .int, 2, 45, 2)
abbrev mX7_letters : MI := (yX7_letters, cX7_letters, 2, some .int, 2, 45, 1)
abbrev mX7_underWay : MI := (yX7_underWay, cX7_underWay, 4, some .int, 1, 22, 1)
abbrev mX7_letter : MI := (yX7_letter, cX7_letter, 3, some .int, 1, 25, 2)
abbrev mX7_carries : MI := (yX7_carries, cX7_carries, 4, some .int, 1, 25, 3)
abbrev mX7_state : MI := (yX7_state, cX7_state, 5, some .int, 2, 43, 2)
abbrev mX7_whyNews : MI := (yX7_whyNews, cX7_whyNews, 3, some .int, 2, 43, 2)
abbrev mX7_news : MI := (yX7_news, cX7_news, 5, some .int, 3, 65, 3)
abbrev mX7_as : MI := (yX7_as, cX7_as, 5, some .int, 3, 65, 3)
abbrev mX7_round : MI := (yX7_round, cX7_round, 3, some .int, 2, 43, 2)
abbrev mX7_next : MI := (yX7_next, cX7_next, 5, some .int, 5, 112, 1)
abbrev mX7_copy : MI := (yX7_copy, cX7_copy, 6, some .int, 2, 43, 4)
abbrev mX7_table : MI := (yX7_table, cX7_table, 2, some .int, 1, 25, 1)
abbrev mX7_differ : MI := (yX7_differ, cX7_differ, 6, some .boolean, 1, 21, 3)
abbrev mX7_isApart : MI := (yX7_isApart, cX7_isApart, 4, some .boolean, 2, 46, 0)
abbrev mX7_agree : MI := (yX7_agree, cX7_agree, 1, some .int, 3, 69, 0)
abbrev mX7_apart : MI := (yX7_apart, cX7_apart, 2, some .int, 3, 69, 1)
abbrev mX7_count : MI := (yX7_count, cX7_count, 5, some .int, 2, 43, 2)
abbrev mX7_pieceOf : MI := (yX7_pieceOf, cX7_pieceOf, 5, some .int, 1, 22, 2)
abbrev mX7_way : MI := (yX7_way, cX7_way, 5, some .int, 3, 65, 2)
abbrev mX7_isStep : MI := (yX7_isStep, cX7_isStep, 2, some .boolean, 0, 0, 1)
abbrev mX7_wayAt : MI := (yX7_wayAt, cX7_wayAt, 2, some .int, 1, 21, 1)
abbrev mX7_forge : MI := (yX7_forge, cX7_forge, 3, some .int, 1, 21, 2)
abbrev mX7_stands : MI := (yX7_stands, cX7_stands, 8, some .boolean, 2, 46, 5)
abbrev mX7_check : MI := (yX7_check, cX7_check, 8, some .int, 3, 73, 4)
abbrev mX7_replay : MI := (yX7_replay, cX7_replay, 1, some .int, 0, 0, 0)
abbrev mX7_image : MI := (yX7_image, cX7_image, 2, some .int, 0, 0, 0)
abbrev mX7_back : MI := (yX7_back, cX7_back, 2, some .int, 1, 21, 0)
abbrev mX7_trace : MI := (yX7_trace, cX7_trace, 2, some .int, 1, 25, 1)
abbrev mX7_again : MI := (yX7_again, cX7_again, 2, some .int, 0, 0, 0)
abbrev mX7_status : MI := (yX7_status, cX7_status, 2, some .int, 1, 25, 1)
abbrev mJ9_max_7cf53 : MI := (yJ9_max_7cf53, cJ9_max_7cf53, 2, some .int, 0, 0, 2)
abbrev mJ9_min_7cf53 : MI := (yJ9_min_7cf53, cJ9_min_7cf53, 2, some .int, 0, 0, 2)
abbrev mL_law : MI := (yL_law, cL_law, 4, some .boolean, 8, 183, 1)
theorem ok_mX3_init : okM mX3_init := ⟨List.mem_of_getElem? (i := 76) (by decide +kernel), (List.mem_of_getElem? (i := 42) (by decide +kernel)), by decide +kernel, by decide +kernel, by decide +kernel, by decide +kernel⟩
theorem ok_mX0_init : okM mX0_init := ⟨List.mem_of_getElem? (i := 70) (by decide +kernel), (List.mem_of_getElem? (i := 41) (by decide +kernel)), by decide +kernel, by decide +kernel, by decide +kernel, by decide +kernel⟩
theorem ok_mX0_clear : okM mX0_clear := ⟨List.mem_of_getElem? (i := 785) (by decide +kernel), (List.mem_of_getElem? (i := 41) (by decide +kernel)), by decide +kernel, by decide +kernel, by decide +kernel, by decide +kernel⟩
theorem ok_mX0_hasRoom : okM mX0_hasRoom := ⟨List.mem_of_getElem? (i := 253) (by decide +kernel), (List.mem_of_getElem? (i := 41) (by decide +kernel)), by decide +kernel, by decide +kernel, by decide +kernel, by decide +kernel⟩
theorem ok_mJ7_copyOf_59c91 : okM mJ7_copyOf_59c91 := ⟨List.mem_of_getElem? (i := 267) (by decide +kernel), (List.mem_of_getElem? (i := 46) (by decide +kernel)), by decide +kernel, by decide +kernel, by decide +kernel, by decide +kernel⟩
theorem ok_mX3_reserve : okM mX3_reserve := ⟨List.mem_of_getElem? (i := 261) (by decide +kernel), (List.mem_of_getElem? (i := 42) (by decide +kernel)), by decide +kernel, by decide +kernel, by decide +kernel, by decide +kernel⟩
theorem ok_mX0_reserveForAct : okM mX0_reserveForAct := ⟨List.mem_of_getElem? (i := 290) (by decide +kernel), (List.mem_of_getElem? (i := 41) (by decide +kernel)), by decide +kernel, by decide +kernel, by decide +kernel, by decide +kernel⟩
theorem ok_mX0_sent : okM mX0_sent := ⟨List.mem_of_getElem? (i := 625) (by decide +kernel), (List.mem_of_getElem? (i := 41) (by decide +kernel)), by decide +kernel, by decide +kernel, by decide +kernel, by decide +kernel⟩
theorem ok_mX0_stillUnderWay : okM mX0_stillUnderWay := ⟨List.mem_of_getElem? (i := 478) (by decide +kernel), (List.mem_of_getElem? (i := 41) (by decide +kernel)), by decide +kernel, by decide +kernel, by decide +kernel, by decide +kernel⟩
theorem ok_mX0_hasLetter : okM mX0_hasLetter := ⟨List.mem_of_getElem? (i := 218) (by decide +kernel), (List.mem_of_getElem? (i := 41) (by decide +kernel)), by decide +kernel, by decide +kernel, by decide +kernel, by decide +kernel⟩
theorem ok_mX3_get : okM mX3_get := ⟨List.mem_of_getElem? (i := 233) (by decide +kernel), (List.mem_of_getElem? (i := 42) (by decide +kernel)), by decide +kernel, by decide +kernel, by decide +kernel, by decide +kernel⟩
theorem ok_mX0_ofLetter : okM mX0_ofLetter := ⟨List.mem_of_getElem? (i := 229) (by decide +kernel), (List.mem_of_getElem? (i := 41) (by decide +kernel)), by decide +kernel, by decide +kernel, by decide +kernel, by decide +kernel⟩
theorem ok_mX0_ofPiece : okM mX0_ofPiece := ⟨List.mem_of_getElem? (i := 424) (by decide +kernel), (List.mem_of_getElem? (i := 41) (by decide +kernel)), by decide +kernel, by decide +kernel, by decide +kernel, by decide +kernel⟩
theorem ok_mX0_nthUnderWay : okM mX0_nthUnderWay := ⟨List.mem_of_getElem? (i := 634) (by decide +kernel), (List.mem_of_getElem? (i := 41) (by decide +kernel)), by decide +kernel, by decide +kernel, by decide +kernel, by decide +kernel⟩
theorem ok_mX3_add : okM mX3_add := ⟨List.mem_of_getElem? (i := 282) (by decide +kernel), (List.mem_of_getElem? (i := 42) (by decide +kernel)), by decide +kernel, by decide +kernel, by decide +kernel, by decide +kernel⟩
theorem ok_mX3_set : okM mX3_set := ⟨List.mem_of_getElem? (i := 286) (by decide +kernel), (List.mem_of_getElem? (i := 42) (by decide +kernel)), by decide +kernel, by decide +kernel, by decide +kernel, by decide +kernel⟩
theorem ok_mX0_open : okM mX0_open := ⟨List.mem_of_getElem? (i := 453) (by decide +kernel), (List.mem_of_getElem? (i := 41) (by decide +kernel)), by decide +kernel, by decide +kernel, by decide +kernel, by decide +kernel⟩
theorem ok_mX0_put : okM mX0_put := ⟨List.mem_of_getElem? (i := 470) (by decide +kernel), (List.mem_of_getElem? (i := 41) (by decide +kernel)), by decide +kernel, by decide +kernel, by decide +kernel, by decide +kernel⟩
theorem ok_mX0_sendCopy : okM mX0_sendCopy := ⟨List.mem_of_getElem? (i := 482) (by decide +kernel), (List.mem_of_getElem? (i := 41) (by decide +kernel)), by decide +kernel, by decide +kernel, by decide +kernel, by decide +kernel⟩
theorem ok_mX0_endAsDelivered : okM mX0_endAsDelivered := ⟨List.mem_of_getElem? (i := 416) (by decide +kernel), (List.mem_of_getElem? (i := 41) (by decide +kernel)), by decide +kernel, by decide +kernel, by decide +kernel, by decide +kernel⟩
theorem ok_mX0_endAsLost : okM mX0_endAsLost := ⟨List.mem_of_getElem? (i := 411) (by decide +kernel), (List.mem_of_getElem? (i := 41) (by decide +kernel)), by decide +kernel, by decide +kernel, by decide +kernel, by decide +kernel⟩
theorem ok_mX0_findPiece : okM mX0_findPiece := ⟨List.mem_of_getElem? (i := 742) (by decide +kernel), (List.mem_of_getElem? (i := 41) (by decide +kernel)), by decide +kernel, by decide +kernel, by decide +kernel, by decide +kernel⟩
theorem ok_mX0_reached : okM mX0_reached := ⟨List.mem_of_getElem? (i := 768) (by decide +kernel), (List.mem_of_getElem? (i := 41) (by decide +kernel)), by decide +kernel, by decide +kernel, by decide +kernel, by decide +kernel⟩
theorem ok_mX3_become : okM mX3_become := ⟨List.mem_of_getElem? (i := 829) (by decide +kernel), (List.mem_of_getElem? (i := 42) (by decide +kernel)), by decide +kernel, by decide +kernel, by decide +kernel, by decide +kernel⟩
theorem ok_mX0_become : okM mX0_become := ⟨List.mem_of_getElem? (i := 825) (by decide +kernel), (List.mem_of_getElem? (i := 41) (by decide +kernel)), by decide +kernel, by decide +kernel, by decide +kernel, by decide +kernel⟩
theorem ok_mX6_sameNumbers : okM mX6_sameNumbers := ⟨List.mem_of_getElem? (i := 799) (by decide +kernel), (List.mem_of_getElem? (i := 39) (by decide +kernel)), by decide +kernel, by decide +kernel, by decide +kernel, by decide +kernel⟩
theorem ok_mX3_sameAs : okM mX3_sameAs := ⟨List.mem_of_getElem? (i := 807) (by decide +kernel), (List.mem_of_getElem? (i := 42) (by decide +kernel)), by decide +kernel, by decide +kernel, by decide +kernel, by decide +kernel⟩
theorem ok_mX0_sameAs : okM mX0_sameAs := ⟨List.mem_of_getElem? (i := 803) (by decide +kernel), (List.mem_of_getElem? (i := 41) (by decide +kernel)), by decide +kernel, by decide +kernel, by decide +kernel, by decide +kernel⟩
theorem ok_mX1_init : okM mX1_init := ⟨List.mem_of_getElem? (i := 303) (by decide +kernel), (List.mem_of_getElem? (i := 49) (by decide +kernel)), by decide +kernel, by decide +kernel, by decide +kernel, by decide +kernel⟩
theorem ok_mJ7_fill_53178 : okM mJ7_fill_53178 := ⟨List.mem_of_getElem? (i := 176) (by decide +kernel), (List.mem_of_getElem? (i := 46) (by decide +kernel)), by decide +kernel, by decide +kernel, by decide +kernel, by decide +kernel⟩
theorem ok_mX1_stopAsking : okM mX1_stopAsking := ⟨List.mem_of_getElem? (i := 391) (by decide +kernel), (List.mem_of_getElem? (i := 49) (by decide +kernel)), by decide +kernel, by decide +kernel, by decide +kernel, by decide +kernel⟩
theorem ok_mX1_enter : okM mX1_enter := ⟨List.mem_of_getElem? (i := 399) (by decide +kernel), (List.mem_of_getElem? (i := 49) (by decide +kernel)), by decide +kernel, by decide +kernel, by decide +kernel, by decide +kernel⟩
theorem ok_mX1_say : okM mX1_say := ⟨List.mem_of_getElem? (i := 395) (by decide +kernel), (List.mem_of_getElem? (i := 49) (by decide +kernel)), by decide +kernel, by decide +kernel, by decide +kernel, by decide +kernel⟩
theorem ok_mX1_forgetAll : okM mX1_forgetAll := ⟨List.mem_of_getElem? (i := 386) (by decide +kernel), (List.mem_of_getElem? (i := 49) (by decide +kernel)), by decide +kernel, by decide +kernel, by decide +kernel, by decide +kernel⟩
theorem ok_mX1_begin : okM mX1_begin := ⟨List.mem_of_getElem? (i := 382) (by decide +kernel), (List.mem_of_getElem? (i := 49) (by decide +kernel)), by decide +kernel, by decide +kernel, by decide +kernel, by decide +kernel⟩
theorem ok_mX1_raiseTerm : okM mX1_raiseTerm := ⟨List.mem_of_getElem? (i := 436) (by decide +kernel), (List.mem_of_getElem? (i := 49) (by decide +kernel)), by decide +kernel, by decide +kernel, by decide +kernel, by decide +kernel⟩
theorem ok_mX6_isMember : okM mX6_isMember := ⟨List.mem_of_getElem? (i := 221) (by decide +kernel), (List.mem_of_getElem? (i := 39) (by decide +kernel)), by decide +kernel, by decide +kernel, by decide +kernel, by decide +kernel⟩
theorem ok_mX1_isBeaten : okM mX1_isBeaten := ⟨List.mem_of_getElem? (i := 441) (by decide +kernel), (List.mem_of_getElem? (i := 49) (by decide +kernel)), by decide +kernel, by decide +kernel, by decide +kernel, by decide +kernel⟩
theorem ok_mX1_takePiece : okM mX1_takePiece := ⟨List.mem_of_getElem? (i := 432) (by decide +kernel), (List.mem_of_getElem? (i := 49) (by decide +kernel)), by decide +kernel, by decide +kernel, by decide +kernel, by decide +kernel⟩
theorem ok_mX1_hasNews : okM mX1_hasNews := ⟨List.mem_of_getElem? (i := 670) (by decide +kernel), (List.mem_of_getElem? (i := 49) (by decide +kernel)), by decide +kernel, by decide +kernel, by decide +kernel, by decide +kernel⟩
theorem ok_mX1_thinksLiving : okM mX1_thinksLiving := ⟨List.mem_of_getElem? (i := 508) (by decide +kernel), (List.mem_of_getElem? (i := 49) (by decide +kernel)), by decide +kernel, by decide +kernel, by decide +kernel, by decide +kernel⟩
theorem ok_mX1_saysItself : okM mX1_saysItself := ⟨List.mem_of_getElem? (i := 759) (by decide +kernel), (List.mem_of_getElem? (i := 49) (by decide +kernel)), by decide +kernel, by decide +kernel, by decide +kernel, by decide +kernel⟩
theorem ok_mX1_countKind : okM mX1_countKind := ⟨List.mem_of_getElem? (i := 658) (by decide +kernel), (List.mem_of_getElem? (i := 49) (by decide +kernel)), by decide +kernel, by decide +kernel, by decide +kernel, by decide +kernel⟩
theorem ok_mX1_isAnswered : okM mX1_isAnswered := ⟨List.mem_of_getElem? (i := 474) (by decide +kernel), (List.mem_of_getElem? (i := 49) (by decide +kernel)), by decide +kernel, by decide +kernel, by decide +kernel, by decide +kernel⟩
theorem ok_mX1_stirred : okM mX1_stirred := ⟨List.mem_of_getElem? (i := 515) (by decide +kernel), (List.mem_of_getElem? (i := 49) (by decide +kernel)), by decide +kernel, by decide +kernel, by decide +kernel, by decide +kernel⟩
theorem ok_mX1_drawn : okM mX1_drawn := ⟨List.mem_of_getElem? (i := 520) (by decide +kernel), (List.mem_of_getElem? (i := 49) (by decide +kernel)), by decide +kernel, by decide +kernel, by decide +kernel, by decide +kernel⟩
theorem ok_mX1_draw : okM mX1_draw := ⟨List.mem_of_getElem? (i := 512) (by decide +kernel), (List.mem_of_getElem? (i := 49) (by decide +kernel)), by decide +kernel, by decide +kernel, by decide +kernel, by decide +kernel⟩
theorem ok_mX1_gatherLiving : okM mX1_gatherLiving := ⟨List.mem_of_getElem? (i := 504) (by decide +kernel), (List.mem_of_getElem? (i := 49) (by decide +kernel)), by decide +kernel, by decide +kernel, by decide +kernel, by decide +kernel⟩
theorem ok_mX1_shuffle : okM mX1_shuffle := ⟨List.mem_of_getElem? (i := 549) (by decide +kernel), (List.mem_of_getElem? (i := 49) (by decide +kernel)), by decide +kernel, by decide +kernel, by decide +kernel, by decide +kernel⟩
theorem ok_mX1_makeRound : okM mX1_makeRound := ⟨List.mem_of_getElem? (i := 545) (by decide +kernel), (List.mem_of_getElem? (i := 49) (by decide +kernel)), by decide +kernel, by decide +kernel, by decide +kernel, by decide +kernel⟩
theorem ok_mX1_nextPlace : okM mX1_nextPlace := ⟨List.mem_of_getElem? (i := 541) (by decide +kernel), (List.mem_of_getElem? (i := 49) (by decide +kernel)), by decide +kernel, by decide +kernel, by decide +kernel, by decide +kernel⟩
theorem ok_mX1_stepRound : okM mX1_stepRound := ⟨List.mem_of_getElem? (i := 554) (by decide +kernel), (List.mem_of_getElem? (i := 49) (by decide +kernel)), by decide +kernel, by decide +kernel, by decide +kernel, by decide +kernel⟩
theorem ok_mX1_wouldAsk : okM mX1_wouldAsk := ⟨List.mem_of_getElem? (i := 686) (by decide +kernel), (List.mem_of_getElem? (i := 49) (by decide +kernel)), by decide +kernel, by decide +kernel, by decide +kernel, by decide +kernel⟩
theorem ok_mX1_pickAll : okM mX1_pickAll := ⟨List.mem_of_getElem? (i := 458) (by decide +kernel), (List.mem_of_getElem? (i := 49) (by decide +kernel)), by decide +kernel, by decide +kernel, by decide +kernel, by decide +kernel⟩
theorem ok_mX1_pickInOrder : okM mX1_pickInOrder := ⟨List.mem_of_getElem? (i := 466) (by decide +kernel), (List.mem_of_getElem? (i := 49) (by decide +kernel)), by decide +kernel, by decide +kernel, by decide +kernel, by decide +kernel⟩
theorem ok_mX1_pickFreshest : okM mX1_pickFreshest := ⟨List.mem_of_getElem? (i := 462) (by decide +kernel), (List.mem_of_getElem? (i := 49) (by decide +kernel)), by decide +kernel, by decide +kernel, by decide +kernel, by decide +kernel⟩
theorem ok_mX1_become : okM mX1_become := ⟨List.mem_of_getElem? (i := 820) (by decide +kernel), (List.mem_of_getElem? (i := 49) (by decide +kernel)), by decide +kernel, by decide +kernel, by decide +kernel, by decide +kernel⟩
theorem ok_mX1_sameAs : okM mX1_sameAs := ⟨List.mem_of_getElem? (i := 796) (by decide +kernel), (List.mem_of_getElem? (i := 49) (by decide +kernel)), by decide +kernel, by decide +kernel, by decide +kernel, by decide +kernel⟩
theorem ok_mX1_differsIn : okM mX1_differsIn := ⟨List.mem_of_getElem? (i := 711) (by decide +kernel), (List.mem_of_getElem? (i := 49) (by decide +kernel)), by decide +kernel, by decide +kernel, by decide +kernel, by decide +kernel⟩
theorem ok_mX2_init : okM mX2_init := ⟨List.mem_of_getElem? (i := 149) (by decide +kernel), (List.mem_of_getElem? (i := 44) (by decide +kernel)), by decide +kernel, by decide +kernel, by decide +kernel, by decide +kernel⟩
theorem ok_mX2_keep : okM mX2_keep := ⟨List.mem_of_getElem? (i := 577) (by decide +kernel), (List.mem_of_getElem? (i := 44) (by decide +kernel)), by decide +kernel, by decide +kernel, by decide +kernel, by decide +kernel⟩
theorem ok_mX2_throwLatest : okM mX2_throwLatest := ⟨List.mem_of_getElem? (i := 848) (by decide +kernel), (List.mem_of_getElem? (i := 44) (by decide +kernel)), by decide +kernel, by decide +kernel, by decide +kernel, by decide +kernel⟩
theorem ok_mX4_init : okM mX4_init := ⟨List.mem_of_getElem? (i := 163) (by decide +kernel), (List.mem_of_getElem? (i := 45) (by decide +kernel)), by decide +kernel, by decide +kernel, by decide +kernel, by decide +kernel⟩
theorem ok_mX4_add : okM mX4_add := ⟨List.mem_of_getElem? (i := 737) (by decide +kernel), (List.mem_of_getElem? (i := 45) (by decide +kernel)), by decide +kernel, by decide +kernel, by decide +kernel, by decide +kernel⟩
theorem ok_mX4_follow : okM mX4_follow := ⟨List.mem_of_getElem? (i := 732) (by decide +kernel), (List.mem_of_getElem? (i := 45) (by decide +kernel)), by decide +kernel, by decide +kernel, by decide +kernel, by decide +kernel⟩
theorem ok_mX4_stands : okM mX4_stands := ⟨List.mem_of_getElem? (i := 764) (by decide +kernel), (List.mem_of_getElem? (i := 45) (by decide +kernel)), by decide +kernel, by decide +kernel, by decide +kernel, by decide +kernel⟩
theorem ok_mX5_init : okM mX5_init := ⟨List.mem_of_getElem? (i := 62) (by decide +kernel), (List.mem_of_getElem? (i := 40) (by decide +kernel)), by decide +kernel, by decide +kernel, by decide +kernel, by decide +kernel⟩
theorem ok_mJ7_fill_d0a16 : okM mJ7_fill_d0a16 := ⟨List.mem_of_getElem? (i := 781) (by decide +kernel), (List.mem_of_getElem? (i := 46) (by decide +kernel)), by decide +kernel, by decide +kernel, by decide +kernel, by decide +kernel⟩
theorem ok_mX5_clear : okM mX5_clear := ⟨List.mem_of_getElem? (i := 778) (by decide +kernel), (List.mem_of_getElem? (i := 40) (by decide +kernel)), by decide +kernel, by decide +kernel, by decide +kernel, by decide +kernel⟩
theorem ok_mX5_memberAt : okM mX5_memberAt := ⟨List.mem_of_getElem? (i := 237) (by decide +kernel), (List.mem_of_getElem? (i := 40) (by decide +kernel)), by decide +kernel, by decide +kernel, by decide +kernel, by decide +kernel⟩
theorem ok_mX5_seat : okM mX5_seat := ⟨List.mem_of_getElem? (i := 299) (by decide +kernel), (List.mem_of_getElem? (i := 40) (by decide +kernel)), by decide +kernel, by decide +kernel, by decide +kernel, by decide +kernel⟩
theorem ok_mX5_upAt : okM mX5_upAt := ⟨List.mem_of_getElem? (i := 245) (by decide +kernel), (List.mem_of_getElem? (i := 40) (by decide +kernel)), by decide +kernel, by decide +kernel, by decide +kernel, by decide +kernel⟩
theorem ok_mX5_whyNoMember : okM mX5_whyNoMember := ⟨List.mem_of_getElem? (i := 653) (by decide +kernel), (List.mem_of_getElem? (i := 40) (by decide +kernel)), by decide +kernel, by decide +kernel, by decide +kernel, by decide +kernel⟩
theorem ok_mX5_whyNoNews : okM mX5_whyNoNews := ⟨List.mem_of_getElem? (i := 666) (by decide +kernel), (List.mem_of_getElem? (i := 40) (by decide +kernel)), by decide +kernel, by decide +kernel, by decide +kernel, by decide +kernel⟩
theorem ok_mX5_isBeyond : okM mX5_isBeyond := ⟨List.mem_of_getElem? (i := 214) (by decide +kernel), (List.mem_of_getElem? (i := 40) (by decide +kernel)), by decide +kernel, by decide +kernel, by decide +kernel, by decide +kernel⟩
theorem ok_mX5_isMissing : okM mX5_isMissing := ⟨List.mem_of_getElem? (i := 225) (by decide +kernel), (List.mem_of_getElem? (i := 40) (by decide +kernel)), by decide +kernel, by decide +kernel, by decide +kernel, by decide +kernel⟩
theorem ok_mX5_isDown : okM mX5_isDown := ⟨List.mem_of_getElem? (i := 241) (by decide +kernel), (List.mem_of_getElem? (i := 40) (by decide +kernel)), by decide +kernel, by decide +kernel, by decide +kernel, by decide +kernel⟩
theorem ok_mX5_isNotAsTold : okM mX5_isNotAsTold := ⟨List.mem_of_getElem? (i := 249) (by decide +kernel), (List.mem_of_getElem? (i := 40) (by decide +kernel)), by decide +kernel, by decide +kernel, by decide +kernel, by decide +kernel⟩
theorem ok_mX5_whyRefused : okM mX5_whyRefused := ⟨List.mem_of_getElem? (i := 210) (by decide +kernel), (List.mem_of_getElem? (i := 40) (by decide +kernel)), by decide +kernel, by decide +kernel, by decide +kernel, by decide +kernel⟩
theorem ok_mX5_keepAct : okM mX5_keepAct := ⟨List.mem_of_getElem? (i := 257) (by decide +kernel), (List.mem_of_getElem? (i := 40) (by decide +kernel)), by decide +kernel, by decide +kernel, by decide +kernel, by decide +kernel⟩
theorem ok_mX5_makeMember : okM mX5_makeMember := ⟨List.mem_of_getElem? (i := 295) (by decide +kernel), (List.mem_of_getElem? (i := 40) (by decide +kernel)), by decide +kernel, by decide +kernel, by decide +kernel, by decide +kernel⟩
theorem ok_mX5_isCut : okM mX5_isCut := ⟨List.mem_of_getElem? (i := 407) (by decide +kernel), (List.mem_of_getElem? (i := 40) (by decide +kernel)), by decide +kernel, by decide +kernel, by decide +kernel, by decide +kernel⟩
theorem ok_mX5_tally : okM mX5_tally := ⟨List.mem_of_getElem? (i := 428) (by decide +kernel), (List.mem_of_getElem? (i := 40) (by decide +kernel)), by decide +kernel, by decide +kernel, by decide +kernel, by decide +kernel⟩
theorem ok_mX5_takeNews : okM mX5_takeNews := ⟨List.mem_of_getElem? (i := 420) (by decide +kernel), (List.mem_of_getElem? (i := 40) (by decide +kernel)), by decide +kernel, by decide +kernel, by decide +kernel, by decide +kernel⟩
theorem ok_mX5_send : okM mX5_send := ⟨List.mem_of_getElem? (i := 449) (by decide +kernel), (List.mem_of_getElem? (i := 40) (by decide +kernel)), by decide +kernel, by decide +kernel, by decide +kernel, by decide +kernel⟩
theorem ok_mX5_respond : okM mX5_respond := ⟨List.mem_of_getElem? (i := 445) (by decide +kernel), (List.mem_of_getElem? (i := 40) (by decide +kernel)), by decide +kernel, by decide +kernel, by decide +kernel, by decide +kernel⟩
theorem ok_mX5_bring : okM mX5_bring := ⟨List.mem_of_getElem? (i := 403) (by decide +kernel), (List.mem_of_getElem? (i := 40) (by decide +kernel)), by decide +kernel, by decide +kernel, by decide +kernel, by decide +kernel⟩
theorem ok_mX5_setLink : okM mX5_setLink := ⟨List.mem_of_getElem? (i := 490) (by decide +kernel), (List.mem_of_getElem? (i := 40) (by decide +kernel)), by decide +kernel, by decide +kernel, by decide +kernel, by decide +kernel⟩
theorem ok_mX5_sendDrawn : okM mX5_sendDrawn := ⟨List.mem_of_getElem? (i := 500) (by decide +kernel), (List.mem_of_getElem? (i := 40) (by decide +kernel)), by decide +kernel, by decide +kernel, by decide +kernel, by decide +kernel⟩
theorem ok_mX5_goAway : okM mX5_goAway := ⟨List.mem_of_getElem? (i := 494) (by decide +kernel), (List.mem_of_getElem? (i := 40) (by decide +kernel)), by decide +kernel, by decide +kernel, by decide +kernel, by decide +kernel⟩
theorem ok_mX5_endOldDoubts : okM mX5_endOldDoubts := ⟨List.mem_of_getElem? (i := 529) (by decide +kernel), (List.mem_of_getElem? (i := 40) (by decide +kernel)), by decide +kernel, by decide +kernel, by decide +kernel, by decide +kernel⟩
theorem ok_mX5_doubtUnanswered : okM mX5_doubtUnanswered := ⟨List.mem_of_getElem? (i := 533) (by decide +kernel), (List.mem_of_getElem? (i := 40) (by decide +kernel)), by decide +kernel, by decide +kernel, by decide +kernel, by decide +kernel⟩
theorem ok_mX5_askNext : okM mX5_askNext := ⟨List.mem_of_getElem? (i := 537) (by decide +kernel), (List.mem_of_getElem? (i := 40) (by decide +kernel)), by decide +kernel, by decide +kernel, by decide +kernel, by decide +kernel⟩
theorem ok_mX5_takeTurn : okM mX5_takeTurn := ⟨List.mem_of_getElem? (i := 525) (by decide +kernel), (List.mem_of_getElem? (i := 40) (by decide +kernel)), by decide +kernel, by decide +kernel, by decide +kernel, by decide +kernel⟩
theorem ok_mX5_fallDown : okM mX5_fallDown := ⟨List.mem_of_getElem? (i := 559) (by decide +kernel), (List.mem_of_getElem? (i := 40) (by decide +kernel)), by decide +kernel, by decide +kernel, by decide +kernel, by decide +kernel⟩
theorem ok_mX5_riseUp : okM mX5_riseUp := ⟨List.mem_of_getElem? (i := 564) (by decide +kernel), (List.mem_of_getElem? (i := 40) (by decide +kernel)), by decide +kernel, by decide +kernel, by decide +kernel, by decide +kernel⟩
theorem ok_mX5_perform : okM mX5_perform := ⟨List.mem_of_getElem? (i := 206) (by decide +kernel), (List.mem_of_getElem? (i := 40) (by decide +kernel)), by decide +kernel, by decide +kernel, by decide +kernel, by decide +kernel⟩
theorem ok_mX5_firstUp : okM mX5_firstUp := ⟨List.mem_of_getElem? (i := 707) (by decide +kernel), (List.mem_of_getElem? (i := 40) (by decide +kernel)), by decide +kernel, by decide +kernel, by decide +kernel, by decide +kernel⟩
theorem ok_mX5_firstApart : okM mX5_firstApart := ⟨List.mem_of_getElem? (i := 703) (by decide +kernel), (List.mem_of_getElem? (i := 40) (by decide +kernel)), by decide +kernel, by decide +kernel, by decide +kernel, by decide +kernel⟩
theorem ok_mX5_countUpWith : okM mX5_countUpWith := ⟨List.mem_of_getElem? (i := 724) (by decide +kernel), (List.mem_of_getElem? (i := 40) (by decide +kernel)), by decide +kernel, by decide +kernel, by decide +kernel, by decide +kernel⟩
theorem ok_mX5_become : okM mX5_become := ⟨List.mem_of_getElem? (i := 816) (by decide +kernel), (List.mem_of_getElem? (i := 40) (by decide +kernel)), by decide +kernel, by decide +kernel, by decide +kernel, by decide +kernel⟩
theorem ok_mX5_sameAs : okM mX5_sameAs := ⟨List.mem_of_getElem? (i := 792) (by decide +kernel), (List.mem_of_getElem? (i := 40) (by decide +kernel)), by decide +kernel, by decide +kernel, by decide +kernel, by decide +kernel⟩
theorem ok_mX6_init : okM mX6_init := ⟨List.mem_of_getElem? (i := 54) (by decide +kernel), (List.mem_of_getElem? (i := 39) (by decide +kernel)), by decide +kernel, by decide +kernel, by decide +kernel, by decide +kernel⟩
theorem ok_mX6_refused : okM mX6_refused := ⟨List.mem_of_getElem? (i := 573) (by decide +kernel), (List.mem_of_getElem? (i := 39) (by decide +kernel)), by decide +kernel, by decide +kernel, by decide +kernel, by decide +kernel⟩
theorem ok_mX6_settled : okM mX6_settled := ⟨List.mem_of_getElem? (i := 569) (by decide +kernel), (List.mem_of_getElem? (i := 39) (by decide +kernel)), by decide +kernel, by decide +kernel, by decide +kernel, by decide +kernel⟩
theorem ok_mX6_member : okM mX6_member := ⟨List.mem_of_getElem? (i := 202) (by decide +kernel), (List.mem_of_getElem? (i := 39) (by decide +kernel)), by decide +kernel, by decide +kernel, by decide +kernel, by decide +kernel⟩
theorem ok_mX6_join : okM mX6_join := ⟨List.mem_of_getElem? (i := 581) (by decide +kernel), (List.mem_of_getElem? (i := 39) (by decide +kernel)), by decide +kernel, by decide +kernel, by decide +kernel, by decide +kernel⟩
theorem ok_mX6_leave : okM mX6_leave := ⟨List.mem_of_getElem? (i := 585) (by decide +kernel), (List.mem_of_getElem? (i := 39) (by decide +kernel)), by decide +kernel, by decide +kernel, by decide +kernel, by decide +kernel⟩
theorem ok_mX6_turn : okM mX6_turn := ⟨List.mem_of_getElem? (i := 589) (by decide +kernel), (List.mem_of_getElem? (i := 39) (by decide +kernel)), by decide +kernel, by decide +kernel, by decide +kernel, by decide +kernel⟩
theorem ok_mX6_fall : okM mX6_fall := ⟨List.mem_of_getElem? (i := 593) (by decide +kernel), (List.mem_of_getElem? (i := 39) (by decide +kernel)), by decide +kernel, by decide +kernel, by decide +kernel, by decide +kernel⟩
theorem ok_mX6_rise : okM mX6_rise := ⟨List.mem_of_getElem? (i := 597) (by decide +kernel), (List.mem_of_getElem? (i := 39) (by decide +kernel)), by decide +kernel, by decide +kernel, by decide +kernel, by decide +kernel⟩
theorem ok_mX6_deliver : okM mX6_deliver := ⟨List.mem_of_getElem? (i := 601) (by decide +kernel), (List.mem_of_getElem? (i := 39) (by decide +kernel)), by decide +kernel, by decide +kernel, by decide +kernel, by decide +kernel⟩
theorem ok_mX6_lose : okM mX6_lose := ⟨List.mem_of_getElem? (i := 605) (by decide +kernel), (List.mem_of_getElem? (i := 39) (by decide +kernel)), by decide +kernel, by decide +kernel, by decide +kernel, by decide +kernel⟩
theorem ok_mX6_twice : okM mX6_twice := ⟨List.mem_of_getElem? (i := 609) (by decide +kernel), (List.mem_of_getElem? (i := 39) (by decide +kernel)), by decide +kernel, by decide +kernel, by decide +kernel, by decide +kernel⟩
theorem ok_mX6_cut : okM mX6_cut := ⟨List.mem_of_getElem? (i := 613) (by decide +kernel), (List.mem_of_getElem? (i := 39) (by decide +kernel)), by decide +kernel, by decide +kernel, by decide +kernel, by decide +kernel⟩
theorem ok_mX6_heal : okM mX6_heal := ⟨List.mem_of_getElem? (i := 617) (by decide +kernel), (List.mem_of_getElem? (i := 39) (by decide +kernel)), by decide +kernel, by decide +kernel, by decide +kernel, by decide +kernel⟩
theorem ok_mX6_letters : okM mX6_letters := ⟨List.mem_of_getElem? (i := 621) (by decide +kernel), (List.mem_of_getElem? (i := 39) (by decide +kernel)), by decide +kernel, by decide +kernel, by decide +kernel, by decide +kernel⟩
theorem ok_mX6_underWay : okM mX6_underWay := ⟨List.mem_of_getElem? (i := 630) (by decide +kernel), (List.mem_of_getElem? (i := 39) (by decide +kernel)), by decide +kernel, by decide +kernel, by decide +kernel, by decide +kernel⟩
theorem ok_mX6_letter : okM mX6_letter := ⟨List.mem_of_getElem? (i := 638) (by decide +kernel), (List.mem_of_getElem? (i := 39) (by decide +kernel)), by decide +kernel, by decide +kernel, by decide +kernel, by decide +kernel⟩
theorem ok_mX6_carries : okM mX6_carries := ⟨List.mem_of_getElem? (i := 644) (by decide +kernel), (List.mem_of_getElem? (i := 39) (by decide +kernel)), by decide +kernel, by decide +kernel, by decide +kernel, by decide +kernel⟩
theorem ok_mX6_state : okM mX6_state := ⟨List.mem_of_getElem? (i := 649) (by decide +kernel), (List.mem_of_getElem? (i := 39) (by decide +kernel)), by decide +kernel, by decide +kernel, by decide +kernel, by decide +kernel⟩
theorem ok_mX6_news : okM mX6_news := ⟨List.mem_of_getElem? (i := 662) (by decide +kernel), (List.mem_of_getElem? (i := 39) (by decide +kernel)), by decide +kernel, by decide +kernel, by decide +kernel, by decide +kernel⟩
theorem ok_mX6_as : okM mX6_as := ⟨List.mem_of_getElem? (i := 674) (by decide +kernel), (List.mem_of_getElem? (i := 39) (by decide +kernel)), by decide +kernel, by decide +kernel, by decide +kernel, by decide +kernel⟩
theorem ok_mX6_round : okM mX6_round := ⟨List.mem_of_getElem? (i := 678) (by decide +kernel), (List.mem_of_getElem? (i := 39) (by decide +kernel)), by decide +kernel, by decide +kernel, by decide +kernel, by decide +kernel⟩
theorem ok_mX6_next : okM mX6_next := ⟨List.mem_of_getElem? (i := 682) (by decide +kernel), (List.mem_of_getElem? (i := 39) (by decide +kernel)), by decide +kernel, by decide +kernel, by decide +kernel, by decide +kernel⟩
theorem ok_mX6_copy : okM mX6_copy := ⟨List.mem_of_getElem? (i := 690) (by decide +kernel), (List.mem_of_getElem? (i := 39) (by decide +kernel)), by decide +kernel, by decide +kernel, by decide +kernel, by decide +kernel⟩
theorem ok_mX6_table : okM mX6_table := ⟨List.mem_of_getElem? (i := 695) (by decide +kernel), (List.mem_of_getElem? (i := 39) (by decide +kernel)), by decide +kernel, by decide +kernel, by decide +kernel, by decide +kernel⟩
theorem ok_mX6_agree : okM mX6_agree := ⟨List.mem_of_getElem? (i := 699) (by decide +kernel), (List.mem_of_getElem? (i := 39) (by decide +kernel)), by decide +kernel, by decide +kernel, by decide +kernel, by decide +kernel⟩
theorem ok_mX6_apart : okM mX6_apart := ⟨List.mem_of_getElem? (i := 715) (by decide +kernel), (List.mem_of_getElem? (i := 39) (by decide +kernel)), by decide +kernel, by decide +kernel, by decide +kernel, by decide +kernel⟩
theorem ok_mX6_count : okM mX6_count := ⟨List.mem_of_getElem? (i := 719) (by decide +kernel), (List.mem_of_getElem? (i := 39) (by decide +kernel)), by decide +kernel, by decide +kernel, by decide +kernel, by decide +kernel⟩
theorem ok_mX6_way : okM mX6_way := ⟨List.mem_of_getElem? (i := 728) (by decide +kernel), (List.mem_of_getElem? (i := 39) (by decide +kernel)), by decide +kernel, by decide +kernel, by decide +kernel, by decide +kernel⟩
theorem ok_mX6_wayAt : okM mX6_wayAt := ⟨List.mem_of_getElem? (i := 747) (by decide +kernel), (List.mem_of_getElem? (i := 39) (by decide +kernel)), by decide +kernel, by decide +kernel, by decide +kernel, by decide +kernel⟩
theorem ok_mX6_forge : okM mX6_forge := ⟨List.mem_of_getElem? (i := 751) (by decide +kernel), (List.mem_of_getElem? (i := 39) (by decide +kernel)), by decide +kernel, by decide +kernel, by decide +kernel, by decide +kernel⟩
theorem ok_mX6_check : okM mX6_check := ⟨List.mem_of_getElem? (i := 755) (by decide +kernel), (List.mem_of_getElem? (i := 39) (by decide +kernel)), by decide +kernel, by decide +kernel, by decide +kernel, by decide +kernel⟩
theorem ok_mX6_replay : okM mX6_replay := ⟨List.mem_of_getElem? (i := 774) (by decide +kernel), (List.mem_of_getElem? (i := 39) (by decide +kernel)), by decide +kernel, by decide +kernel, by decide +kernel, by decide +kernel⟩
theorem ok_mX6_image : okM mX6_image := ⟨List.mem_of_getElem? (i := 812) (by decide +kernel), (List.mem_of_getElem? (i := 39) (by decide +kernel)), by decide +kernel, by decide +kernel, by decide +kernel, by decide +kernel⟩
theorem ok_mX6_back : okM mX6_back := ⟨List.mem_of_getElem? (i := 836) (by decide +kernel), (List.mem_of_getElem? (i := 39) (by decide +kernel)), by decide +kernel, by decide +kernel, by decide +kernel, by decide +kernel⟩
theorem ok_mX6_trace : okM mX6_trace := ⟨List.mem_of_getElem? (i := 840) (by decide +kernel), (List.mem_of_getElem? (i := 39) (by decide +kernel)), by decide +kernel, by decide +kernel, by decide +kernel, by decide +kernel⟩
theorem ok_mX6_again : okM mX6_again := ⟨List.mem_of_getElem? (i := 844) (by decide +kernel), (List.mem_of_getElem? (i := 39) (by decide +kernel)), by decide +kernel, by decide +kernel, by decide +kernel, by decide +kernel⟩
theorem ok_mX6_status : okM mX6_status := ⟨List.mem_of_getElem? (i := 852) (by decide +kernel), (List.mem_of_getElem? (i := 39) (by decide +kernel)), by decide +kernel, by decide +kernel, by decide +kernel, by decide +kernel⟩
theorem ok_mX7_init : okM mX7_init := ⟨List.mem_of_getElem? (i := 857) (by decide +kernel), (List.mem_of_getElem? (i := 47) (by decide +kernel)), by decide +kernel, by decide +kernel, by decide +kernel, by decide +kernel⟩
theorem ok_mX7_isIn : okM mX7_isIn := ⟨List.mem_of_getElem? (i := 1094) (by decide +kernel), (List.mem_of_getElem? (i := 47) (by decide +kernel)), by decide +kernel, by decide +kernel, by decide +kernel, by decide +kernel⟩
theorem ok_mX7_no : okM mX7_no := ⟨List.mem_of_getElem? (i := 920) (by decide +kernel), (List.mem_of_getElem? (i := 47) (by decide +kernel)), by decide +kernel, by decide +kernel, by decide +kernel, by decide +kernel⟩
theorem ok_mX7_of : okM mX7_of := ⟨List.mem_of_getElem? (i := 928) (by decide +kernel), (List.mem_of_getElem? (i := 47) (by decide +kernel)), by decide +kernel, by decide +kernel, by decide +kernel, by decide +kernel⟩
theorem ok_mX7_to : okM mX7_to := ⟨List.mem_of_getElem? (i := 939) (by decide +kernel), (List.mem_of_getElem? (i := 47) (by decide +kernel)), by decide +kernel, by decide +kernel, by decide +kernel, by decide +kernel⟩
theorem ok_mX7_newsAt : okM mX7_newsAt := ⟨List.mem_of_getElem? (i := 950) (by decide +kernel), (List.mem_of_getElem? (i := 47) (by decide +kernel)), by decide +kernel, by decide +kernel, by decide +kernel, by decide +kernel⟩
theorem ok_mX7_kindOf : okM mX7_kindOf := ⟨List.mem_of_getElem? (i := 966) (by decide +kernel), (List.mem_of_getElem? (i := 47) (by decide +kernel)), by decide +kernel, by decide +kernel, by decide +kernel, by decide +kernel⟩
theorem ok_mX7_isMember : okM mX7_isMember := ⟨List.mem_of_getElem? (i := 916) (by decide +kernel), (List.mem_of_getElem? (i := 47) (by decide +kernel)), by decide +kernel, by decide +kernel, by decide +kernel, by decide +kernel⟩
theorem ok_mX7_isMade : okM mX7_isMade := ⟨List.mem_of_getElem? (i := 924) (by decide +kernel), (List.mem_of_getElem? (i := 47) (by decide +kernel)), by decide +kernel, by decide +kernel, by decide +kernel, by decide +kernel⟩
theorem ok_mX7_isLetter : okM mX7_isLetter := ⟨List.mem_of_getElem? (i := 1046) (by decide +kernel), (List.mem_of_getElem? (i := 47) (by decide +kernel)), by decide +kernel, by decide +kernel, by decide +kernel, by decide +kernel⟩
theorem ok_mX7_letterOf : okM mX7_letterOf := ⟨List.mem_of_getElem? (i := 1050) (by decide +kernel), (List.mem_of_getElem? (i := 47) (by decide +kernel)), by decide +kernel, by decide +kernel, by decide +kernel, by decide +kernel⟩
theorem ok_mX7_isFull : okM mX7_isFull := ⟨List.mem_of_getElem? (i := 932) (by decide +kernel), (List.mem_of_getElem? (i := 47) (by decide +kernel)), by decide +kernel, by decide +kernel, by decide +kernel, by decide +kernel⟩
theorem ok_mX7_ran : okM mX7_ran := ⟨List.mem_of_getElem? (i := 975) (by decide +kernel), (List.mem_of_getElem? (i := 47) (by decide +kernel)), by decide +kernel, by decide +kernel, by decide +kernel, by decide +kernel⟩
theorem ok_mX7_draw : okM mX7_draw := ⟨List.mem_of_getElem? (i := 1004) (by decide +kernel), (List.mem_of_getElem? (i := 47) (by decide +kernel)), by decide +kernel, by decide +kernel, by decide +kernel, by decide +kernel⟩
theorem ok_mX7_writes : okM mX7_writes := ⟨List.mem_of_getElem? (i := 947) (by decide +kernel), (List.mem_of_getElem? (i := 47) (by decide +kernel)), by decide +kernel, by decide +kernel, by decide +kernel, by decide +kernel⟩
theorem ok_mX7_takes : okM mX7_takes := ⟨List.mem_of_getElem? (i := 1058) (by decide +kernel), (List.mem_of_getElem? (i := 47) (by decide +kernel)), by decide +kernel, by decide +kernel, by decide +kernel, by decide +kernel⟩
theorem ok_mX7_carry : okM mX7_carry := ⟨List.mem_of_getElem? (i := 970) (by decide +kernel), (List.mem_of_getElem? (i := 47) (by decide +kernel)), by decide +kernel, by decide +kernel, by decide +kernel, by decide +kernel⟩
theorem ok_mX7_leastTold : okM mX7_leastTold := ⟨List.mem_of_getElem? (i := 980) (by decide +kernel), (List.mem_of_getElem? (i := 47) (by decide +kernel)), by decide +kernel, by decide +kernel, by decide +kernel, by decide +kernel⟩
theorem ok_mX7_send : okM mX7_send := ⟨List.mem_of_getElem? (i := 962) (by decide +kernel), (List.mem_of_getElem? (i := 47) (by decide +kernel)), by decide +kernel, by decide +kernel, by decide +kernel, by decide +kernel⟩
theorem ok_mX7_answered : okM mX7_answered := ⟨List.mem_of_getElem? (i := 1062) (by decide +kernel), (List.mem_of_getElem? (i := 47) (by decide +kernel)), by decide +kernel, by decide +kernel, by decide +kernel, by decide +kernel⟩
theorem ok_mX7_comes : okM mX7_comes := ⟨List.mem_of_getElem? (i := 1054) (by decide +kernel), (List.mem_of_getElem? (i := 47) (by decide +kernel)), by decide +kernel, by decide +kernel, by decide +kernel, by decide +kernel⟩
theorem ok_mX7_isAround : okM mX7_isAround := ⟨List.mem_of_getElem? (i := 1000) (by decide +kernel), (List.mem_of_getElem? (i := 47) (by decide +kernel)), by decide +kernel, by decide +kernel, by decide +kernel, by decide +kernel⟩
theorem ok_mX7_gather : okM mX7_gather := ⟨List.mem_of_getElem? (i := 996) (by decide +kernel), (List.mem_of_getElem? (i := 47) (by decide +kernel)), by decide +kernel, by decide +kernel, by decide +kernel, by decide +kernel⟩
theorem ok_mX7_mix : okM mX7_mix := ⟨List.mem_of_getElem? (i := 1026) (by decide +kernel), (List.mem_of_getElem? (i := 47) (by decide +kernel)), by decide +kernel, by decide +kernel, by decide +kernel, by decide +kernel⟩
theorem ok_mX7_stillThere : okM mX7_stillThere := ⟨List.mem_of_getElem? (i := 1022) (by decide +kernel), (List.mem_of_getElem? (i := 47) (by decide +kernel)), by decide +kernel, by decide +kernel, by decide +kernel, by decide +kernel⟩
theorem ok_mX7_nextOf : okM mX7_nextOf := ⟨List.mem_of_getElem? (i := 1018) (by decide +kernel), (List.mem_of_getElem? (i := 47) (by decide +kernel)), by decide +kernel, by decide +kernel, by decide +kernel, by decide +kernel⟩
theorem ok_mX7_sendsThree : okM mX7_sendsThree := ⟨List.mem_of_getElem? (i := 992) (by decide +kernel), (List.mem_of_getElem? (i := 47) (by decide +kernel)), by decide +kernel, by decide +kernel, by decide +kernel, by decide +kernel⟩
theorem ok_mX7_takesTurn : okM mX7_takesTurn := ⟨List.mem_of_getElem? (i := 1014) (by decide +kernel), (List.mem_of_getElem? (i := 47) (by decide +kernel)), by decide +kernel, by decide +kernel, by decide +kernel, by decide +kernel⟩
theorem ok_mX7_why : okM mX7_why := ⟨List.mem_of_getElem? (i := 988) (by decide +kernel), (List.mem_of_getElem? (i := 47) (by decide +kernel)), by decide +kernel, by decide +kernel, by decide +kernel, by decide +kernel⟩
theorem ok_mX7_did : okM mX7_did := ⟨List.mem_of_getElem? (i := 954) (by decide +kernel), (List.mem_of_getElem? (i := 47) (by decide +kernel)), by decide +kernel, by decide +kernel, by decide +kernel, by decide +kernel⟩
theorem ok_mX7_goesQuiet : okM mX7_goesQuiet := ⟨List.mem_of_getElem? (i := 943) (by decide +kernel), (List.mem_of_getElem? (i := 47) (by decide +kernel)), by decide +kernel, by decide +kernel, by decide +kernel, by decide +kernel⟩
theorem ok_mX7_member : okM mX7_member := ⟨List.mem_of_getElem? (i := 913) (by decide +kernel), (List.mem_of_getElem? (i := 47) (by decide +kernel)), by decide +kernel, by decide +kernel, by decide +kernel, by decide +kernel⟩
theorem ok_mX7_join : okM mX7_join := ⟨List.mem_of_getElem? (i := 958) (by decide +kernel), (List.mem_of_getElem? (i := 47) (by decide +kernel)), by decide +kernel, by decide +kernel, by decide +kernel, by decide +kernel⟩
theorem ok_mX7_leave : okM mX7_leave := ⟨List.mem_of_getElem? (i := 984) (by decide +kernel), (List.mem_of_getElem? (i := 47) (by decide +kernel)), by decide +kernel, by decide +kernel, by decide +kernel, by decide +kernel⟩
theorem ok_mX7_turn : okM mX7_turn := ⟨List.mem_of_getElem? (i := 1010) (by decide +kernel), (List.mem_of_getElem? (i := 47) (by decide +kernel)), by decide +kernel, by decide +kernel, by decide +kernel, by decide +kernel⟩
theorem ok_mX7_fall : okM mX7_fall := ⟨List.mem_of_getElem? (i := 1030) (by decide +kernel), (List.mem_of_getElem? (i := 47) (by decide +kernel)), by decide +kernel, by decide +kernel, by decide +kernel, by decide +kernel⟩
theorem ok_mX7_rise : okM mX7_rise := ⟨List.mem_of_getElem? (i := 1034) (by decide +kernel), (List.mem_of_getElem? (i := 47) (by decide +kernel)), by decide +kernel, by decide +kernel, by decide +kernel, by decide +kernel⟩
theorem ok_mX7_whyLetter : okM mX7_whyLetter := ⟨List.mem_of_getElem? (i := 1042) (by decide +kernel), (List.mem_of_getElem? (i := 47) (by decide +kernel)), by decide +kernel, by decide +kernel, by decide +kernel, by decide +kernel⟩
theorem ok_mX7_deliver : okM mX7_deliver := ⟨List.mem_of_getElem? (i := 1038) (by decide +kernel), (List.mem_of_getElem? (i := 47) (by decide +kernel)), by decide +kernel, by decide +kernel, by decide +kernel, by decide +kernel⟩
theorem ok_mX7_withState : okM mX7_withState := ⟨List.mem_of_getElem? (i := 1070) (by decide +kernel), (List.mem_of_getElem? (i := 47) (by decide +kernel)), by decide +kernel, by decide +kernel, by decide +kernel, by decide +kernel⟩
theorem ok_mX7_lose : okM mX7_lose := ⟨List.mem_of_getElem? (i := 1066) (by decide +kernel), (List.mem_of_getElem? (i := 47) (by decide +kernel)), by decide +kernel, by decide +kernel, by decide +kernel, by decide +kernel⟩
theorem ok_mX7_twice : okM mX7_twice := ⟨List.mem_of_getElem? (i := 1074) (by decide +kernel), (List.mem_of_getElem? (i := 47) (by decide +kernel)), by decide +kernel, by decide +kernel, by decide +kernel, by decide +kernel⟩
theorem ok_mX7_links : okM mX7_links := ⟨List.mem_of_getElem? (i := 1082) (by decide +kernel), (List.mem_of_getElem? (i := 47) (by decide +kernel)), by decide +kernel, by decide +kernel, by decide +kernel, by decide +kernel⟩
theorem ok_mX7_cut : okM mX7_cut := ⟨List.mem_of_getElem? (i := 1078) (by decide +kernel), (List.mem_of_getElem? (i := 47) (by decide +kernel)), by decide +kernel, by decide +kernel, by decide +kernel, by decide +kernel⟩
theorem ok_mX7_heal : okM mX7_heal := ⟨List.mem_of_getElem? (i := 1086) (by decide +kernel), (List.mem_of_getElem? (i := 47) (by decide +kernel)), by decide +kernel, by decide +kernel, by decide +kernel, by decide +kernel⟩
theorem ok_mX7_letters : okM mX7_letters := ⟨List.mem_of_getElem? (i := 1090) (by decide +kernel), (List.mem_of_getElem? (i := 47) (by decide +kernel)), by decide +kernel, by decide +kernel, by decide +kernel, by decide +kernel⟩
theorem ok_mX7_underWay : okM mX7_underWay := ⟨List.mem_of_getElem? (i := 1098) (by decide +kernel), (List.mem_of_getElem? (i := 47) (by decide +kernel)), by decide +kernel, by decide +kernel, by decide +kernel, by decide +kernel⟩
theorem ok_mX7_letter : okM mX7_letter := ⟨List.mem_of_getElem? (i := 1102) (by decide +kernel), (List.mem_of_getElem? (i := 47) (by decide +kernel)), by decide +kernel, by decide +kernel, by decide +kernel, by decide +kernel⟩
theorem ok_mX7_carries : okM mX7_carries := ⟨List.mem_of_getElem? (i := 1107) (by decide +kernel), (List.mem_of_getElem? (i := 47) (by decide +kernel)), by decide +kernel, by decide +kernel, by decide +kernel, by decide +kernel⟩
theorem ok_mX7_state : okM mX7_state := ⟨List.mem_of_getElem? (i := 1112) (by decide +kernel), (List.mem_of_getElem? (i := 47) (by decide +kernel)), by decide +kernel, by decide +kernel, by decide +kernel, by decide +kernel⟩
theorem ok_mX7_whyNews : okM mX7_whyNews := ⟨List.mem_of_getElem? (i := 1121) (by decide +kernel), (List.mem_of_getElem? (i := 47) (by decide +kernel)), by decide +kernel, by decide +kernel, by decide +kernel, by decide +kernel⟩
theorem ok_mX7_news : okM mX7_news := ⟨List.mem_of_getElem? (i := 1117) (by decide +kernel), (List.mem_of_getElem? (i := 47) (by decide +kernel)), by decide +kernel, by decide +kernel, by decide +kernel, by decide +kernel⟩
theorem ok_mX7_as : okM mX7_as := ⟨List.mem_of_getElem? (i := 1125) (by decide +kernel), (List.mem_of_getElem? (i := 47) (by decide +kernel)), by decide +kernel, by decide +kernel, by decide +kernel, by decide +kernel⟩
theorem ok_mX7_round : okM mX7_round := ⟨List.mem_of_getElem? (i := 1129) (by decide +kernel), (List.mem_of_getElem? (i := 47) (by decide +kernel)), by decide +kernel, by decide +kernel, by decide +kernel, by decide +kernel⟩
theorem ok_mX7_next : okM mX7_next := ⟨List.mem_of_getElem? (i := 1133) (by decide +kernel), (List.mem_of_getElem? (i := 47) (by decide +kernel)), by decide +kernel, by decide +kernel, by decide +kernel, by decide +kernel⟩
theorem ok_mX7_copy : okM mX7_copy := ⟨List.mem_of_getElem? (i := 1137) (by decide +kernel), (List.mem_of_getElem? (i := 47) (by decide +kernel)), by decide +kernel, by decide +kernel, by decide +kernel, by decide +kernel⟩
theorem ok_mX7_table : okM mX7_table := ⟨List.mem_of_getElem? (i := 1142) (by decide +kernel), (List.mem_of_getElem? (i := 47) (by decide +kernel)), by decide +kernel, by decide +kernel, by decide +kernel, by decide +kernel⟩
theorem ok_mX7_differ : okM mX7_differ := ⟨List.mem_of_getElem? (i := 1155) (by decide +kernel), (List.mem_of_getElem? (i := 47) (by decide +kernel)), by decide +kernel, by decide +kernel, by decide +kernel, by decide +kernel⟩
theorem ok_mX7_isApart : okM mX7_isApart := ⟨List.mem_of_getElem? (i := 1151) (by decide +kernel), (List.mem_of_getElem? (i := 47) (by decide +kernel)), by decide +kernel, by decide +kernel, by decide +kernel, by decide +kernel⟩
theorem ok_mX7_agree : okM mX7_agree := ⟨List.mem_of_getElem? (i := 1147) (by decide +kernel), (List.mem_of_getElem? (i := 47) (by decide +kernel)), by decide +kernel, by decide +kernel, by decide +kernel, by decide +kernel⟩
theorem ok_mX7_apart : okM mX7_apart := ⟨List.mem_of_getElem? (i := 1159) (by decide +kernel), (List.mem_of_getElem? (i := 47) (by decide +kernel)), by decide +kernel, by decide +kernel, by decide +kernel, by decide +kernel⟩
theorem ok_mX7_count : okM mX7_count := ⟨List.mem_of_getElem? (i := 1164) (by decide +kernel), (List.mem_of_getElem? (i := 47) (by decide +kernel)), by decide +kernel, by decide +kernel, by decide +kernel, by decide +kernel⟩
theorem ok_mX7_pieceOf : okM mX7_pieceOf := ⟨List.mem_of_getElem? (i := 1172) (by decide +kernel), (List.mem_of_getElem? (i := 47) (by decide +kernel)), by decide +kernel, by decide +kernel, by decide +kernel, by decide +kernel⟩
theorem ok_mX7_way : okM mX7_way := ⟨List.mem_of_getElem? (i := 1168) (by decide +kernel), (List.mem_of_getElem? (i := 47) (by decide +kernel)), by decide +kernel, by decide +kernel, by decide +kernel, by decide +kernel⟩
theorem ok_mX7_isStep : okM mX7_isStep := ⟨List.mem_of_getElem? (i := 1180) (by decide +kernel), (List.mem_of_getElem? (i := 47) (by decide +kernel)), by decide +kernel, by decide +kernel, by decide +kernel, by decide +kernel⟩
theorem ok_mX7_wayAt : okM mX7_wayAt := ⟨List.mem_of_getElem? (i := 1176) (by decide +kernel), (List.mem_of_getElem? (i := 47) (by decide +kernel)), by decide +kernel, by decide +kernel, by decide +kernel, by decide +kernel⟩
theorem ok_mX7_forge : okM mX7_forge := ⟨List.mem_of_getElem? (i := 1184) (by decide +kernel), (List.mem_of_getElem? (i := 47) (by decide +kernel)), by decide +kernel, by decide +kernel, by decide +kernel, by decide +kernel⟩
theorem ok_mX7_stands : okM mX7_stands := ⟨List.mem_of_getElem? (i := 1192) (by decide +kernel), (List.mem_of_getElem? (i := 47) (by decide +kernel)), by decide +kernel, by decide +kernel, by decide +kernel, by decide +kernel⟩
theorem ok_mX7_check : okM mX7_check := ⟨List.mem_of_getElem? (i := 1188) (by decide +kernel), (List.mem_of_getElem? (i := 47) (by decide +kernel)), by decide +kernel, by decide +kernel, by decide +kernel, by decide +kernel⟩
theorem ok_mX7_replay : okM mX7_replay := ⟨List.mem_of_getElem? (i := 1196) (by decide +kernel), (List.mem_of_getElem? (i := 47) (by decide +kernel)), by decide +kernel, by decide +kernel, by decide +kernel, by decide +kernel⟩
theorem ok_mX7_image : okM mX7_image := ⟨List.mem_of_getElem? (i := 1200) (by decide +kernel), (List.mem_of_getElem? (i := 47) (by decide +kernel)), by decide +kernel, by decide +kernel, by decide +kernel, by decide +kernel⟩
theorem ok_mX7_back : okM mX7_back := ⟨List.mem_of_getElem? (i := 1204) (by decide +kernel), (List.mem_of_getElem? (i := 47) (by decide +kernel)), by decide +kernel, by decide +kernel, by decide +kernel, by decide +kernel⟩
theorem ok_mX7_trace : okM mX7_trace := ⟨List.mem_of_getElem? (i := 1208) (by decide +kernel), (List.mem_of_getElem? (i := 47) (by decide +kernel)), by decide +kernel, by decide +kernel, by decide +kernel, by decide +kernel⟩
theorem ok_mX7_again : okM mX7_again := ⟨List.mem_of_getElem? (i := 1212) (by decide +kernel), (List.mem_of_getElem? (i := 47) (by decide +kernel)), by decide +kernel, by decide +kernel, by decide +kernel, by decide +kernel⟩
theorem ok_mX7_status : okM mX7_status := ⟨List.mem_of_getElem? (i := 1216) (by decide +kernel), (List.mem_of_getElem? (i := 47) (by decide +kernel)), by decide +kernel, by decide +kernel, by decide +kernel, by decide +kernel⟩
theorem fl_X6_10 : FL RX6 10 6 0 (.object "CrowdRoll$World") true := ⟨RX6, TX6, 7, tyX6, cf6, by decide, (List.mem_of_getElem? (i := 177) (by decide +kernel)), rfl, rfl, rfl⟩
theorem fl_X6_19 : FL RX6 19 6 1 (.object "CrowdRoll$Refusals") true := ⟨RX6, TX6, 7, tyX6, cf6, by decide, (List.mem_of_getElem? (i := 178) (by decide +kernel)), rfl, rfl, rfl⟩
theorem fl_X6_26 : FL RX6 26 6 2 (.object "CrowdRoll$Way") true := ⟨RX6, TX6, 7, tyX6, cf6, by decide, (List.mem_of_getElem? (i := 179) (by decide +kernel)), rfl, rfl, rfl⟩
theorem fl_X6_30 : FL RX6 30 6 3 (.array .int) true := ⟨RX6, TX6, 7, tyX6, cf6, by decide, (List.mem_of_getElem? (i := 180) (by decide +kernel)), rfl, rfl, rfl⟩
theorem fl_X6_40 : FL RX6 40 6 4 (.array .int) true := ⟨RX6, TX6, 7, tyX6, cf6, by decide, (List.mem_of_getElem? (i := 181) (by decide +kernel)), rfl, rfl, rfl⟩
theorem fl_X6_43 : FL RX6 43 6 5 (.object "CrowdRoll$World") false := ⟨RX6, TX6, 7, tyX6, cf6, by decide, (List.mem_of_getElem? (i := 182) (by decide +kernel)), rfl, rfl, rfl⟩
theorem fl_X6_46 : FL RX6 46 6 6 (.object "CrowdRoll$World") false := ⟨RX6, TX6, 7, tyX6, cf6, by decide, (List.mem_of_getElem? (i := 183) (by decide +kernel)), rfl, rfl, rfl⟩
theorem fl_X6_57 : FL RX6 57 5 3 (.object "CrowdRoll$Books") true := ⟨RX5, TX5, 8, tyX5, cf5, by decide, (List.mem_of_getElem? (i := 121) (by decide +kernel)), rfl, rfl, rfl⟩
theorem fl_X6_70 : FL RX6 70 0 2 .int false := ⟨RX0, TX0, 4, tyX0, cf0, by decide, (List.mem_of_getElem? (i := 103) (by decide +kernel)), rfl, rfl, rfl⟩
theorem fl_X6_74 : FL RX6 74 0 3 .int false := ⟨RX0, TX0, 4, tyX0, cf0, by decide, (List.mem_of_getElem? (i := 105) (by decide +kernel)), rfl, rfl, rfl⟩
theorem fl_X6_77 : FL RX6 77 0 1 (.object "CrowdRoll$Rows") true := ⟨RX0, TX0, 4, tyX0, cf0, by decide, (List.mem_of_getElem? (i := 101) (by decide +kernel)), rfl, rfl, rfl⟩
theorem fl_X6_81 : FL RX6 81 3 3 .int false := ⟨RX3, TX3, 4, tyX3, cf3, by decide, (List.mem_of_getElem? (i := 87) (by decide +kernel)), rfl, rfl, rfl⟩
theorem fl_X6_111 : FL RX6 111 1 2 .int false := ⟨RX1, TX1, 16, tyX1, cf1, by decide, (List.mem_of_getElem? (i := 311) (by decide +kernel)), rfl, rfl, rfl⟩
theorem fl_X6_116 : FL RX6 116 1 4 .int false := ⟨RX1, TX1, 16, tyX1, cf1, by decide, (List.mem_of_getElem? (i := 315) (by decide +kernel)), rfl, rfl, rfl⟩
theorem fl_X6_119 : FL RX6 119 1 5 .int false := ⟨RX1, TX1, 16, tyX1, cf1, by decide, (List.mem_of_getElem? (i := 317) (by decide +kernel)), rfl, rfl, rfl⟩
theorem fl_X6_125 : FL RX6 125 1 6 .int false := ⟨RX1, TX1, 16, tyX1, cf1, by decide, (List.mem_of_getElem? (i := 320) (by decide +kernel)), rfl, rfl, rfl⟩
theorem fl_X6_128 : FL RX6 128 1 7 .int false := ⟨RX1, TX1, 16, tyX1, cf1, by decide, (List.mem_of_getElem? (i := 323) (by decide +kernel)), rfl, rfl, rfl⟩
theorem fl_X6_131 : FL RX6 131 1 14 .int false := ⟨RX1, TX1, 16, tyX1, cf1, by decide, (List.mem_of_getElem? (i := 343) (by decide +kernel)), rfl, rfl, rfl⟩
theorem fl_X6_134 : FL RX6 134 1 15 .int false := ⟨RX1, TX1, 16, tyX1, cf1, by decide, (List.mem_of_getElem? (i := 345) (by decide +kernel)), rfl, rfl, rfl⟩
theorem fl_X6_140 : FL RX6 140 1 8 (.array .int) true := ⟨RX1, TX1, 16, tyX1, cf1, by decide, (List.mem_of_getElem? (i := 326) (by decide +kernel)), rfl, rfl, rfl⟩
theorem fl_X6_143 : FL RX6 143 1 9 (.array .int) true := ⟨RX1, TX1, 16, tyX1, cf1, by decide, (List.mem_of_getElem? (i := 329) (by decide +kernel)), rfl, rfl, rfl⟩
theorem fl_X6_146 : FL RX6 146 1 10 (.array .int) true := ⟨RX1, TX1, 16, tyX1, cf1, by decide, (List.mem_of_getElem? (i := 332) (by decide +kernel)), rfl, rfl, rfl⟩
theorem fl_X6_149 : FL RX6 149 1 11 (.array .int) true := ⟨RX1, TX1, 16, tyX1, cf1, by decide, (List.mem_of_getElem? (i := 335) (by decide +kernel)), rfl, rfl, rfl⟩
theorem fl_X6_152 : FL RX6 152 1 12 (.array .int) true := ⟨RX1, TX1, 16, tyX1, cf1, by decide, (List.mem_of_getElem? (i := 338) (by decide +kernel)), rfl, rfl, rfl⟩
theorem fl_X6_155 : FL RX6 155 1 13 (.array .int) true := ⟨RX1, TX1, 16, tyX1, cf1, by decide, (List.mem_of_getElem? (i := 341) (by decide +kernel)), rfl, rfl, rfl⟩
theorem fl_X6_181 : FL RX6 181 4 1 .int false := ⟨RX4, TX4, 2, tyX4, cf4, by decide, (List.mem_of_getElem? (i := 168) (by decide +kernel)), rfl, rfl, rfl⟩
theorem fl_X6_182 : FL RX6 182 4 0 (.array .int) false := ⟨RX4, TX4, 2, tyX4, cf4, by decide, (List.mem_of_getElem? (i := 166) (by decide +kernel)), rfl, rfl, rfl⟩
theorem fl_X6_196 : FL RX6 196 5 4 (.object "CrowdRoll$Rows") true := ⟨RX5, TX5, 8, tyX5, cf5, by decide, (List.mem_of_getElem? (i := 123) (by decide +kernel)), rfl, rfl, rfl⟩
theorem fl_X6_212 : FL RX6 212 5 5 (.array .int) true := ⟨RX5, TX5, 8, tyX5, cf5, by decide, (List.mem_of_getElem? (i := 125) (by decide +kernel)), rfl, rfl, rfl⟩
theorem fl_X6_218 : FL RX6 218 2 0 (.array .int) true := ⟨RX2, TX2, 2, tyX2, cf2, by decide, (List.mem_of_getElem? (i := 152) (by decide +kernel)), rfl, rfl, rfl⟩
theorem lo_X6_1 : linkO RX6 1 := ⟨(List.mem_of_getElem? (i := 55) (by decide +kernel)), (List.mem_of_getElem? (i := 56) (by decide +kernel)), List.mem_of_getElem? (i := 57) (by decide +kernel)⟩
theorem lk_X6_9 : linkI RX6 9 mX5_init := ⟨ok_mX5_init, (List.mem_of_getElem? (i := 60) (by decide +kernel)), (List.mem_of_getElem? (i := 61) (by decide +kernel)), rfl, rfl⟩
theorem lk_X6_18 : linkI RX6 18 mX2_init := ⟨ok_mX2_init, (List.mem_of_getElem? (i := 147) (by decide +kernel)), (List.mem_of_getElem? (i := 148) (by decide +kernel)), rfl, rfl⟩
theorem lk_X6_25 : linkI RX6 25 mX4_init := ⟨ok_mX4_init, (List.mem_of_getElem? (i := 161) (by decide +kernel)), (List.mem_of_getElem? (i := 162) (by decide +kernel)), rfl, rfl⟩
theorem lk_X6_34 : linkS RX6 34 mJ7_fill_53178 := ⟨ok_mJ7_fill_53178, (List.mem_of_getElem? (i := 174) (by decide +kernel)), (List.mem_of_getElem? (i := 175) (by decide +kernel))⟩
theorem lc_X6_162 : linkC RX6 162 := ⟨(List.mem_of_getElem? (i := 691) (by decide +kernel)), (List.mem_of_getElem? (i := 278) (by decide +kernel)), (List.mem_of_getElem? (i := 277) (by decide +kernel)), (List.mem_of_getElem? (i := 48) (by decide +kernel))⟩
theorem lk_X6_171 : linkS RX6 171 mX6_isMember := ⟨ok_mX6_isMember, (List.mem_of_getElem? (i := 720) (by decide +kernel)), (List.mem_of_getElem? (i := 220) (by decide +kernel))⟩
theorem lk_X6_49 : linkV RX6 49 mX5_perform := ⟨ok_mX5_perform, (List.mem_of_getElem? (i := 203) (by decide +kernel)), (List.mem_of_getElem? (i := 204) (by decide +kernel)), (List.mem_of_getElem? (i := 205) (by decide +kernel))⟩
theorem lk_X6_53 : linkV RX6 53 mX6_settled := ⟨ok_mX6_settled, (List.mem_of_getElem? (i := 566) (by decide +kernel)), (List.mem_of_getElem? (i := 568) (by decide +kernel)), (List.mem_of_getElem? (i := 0) (by decide +kernel))⟩
theorem lk_X6_61 : linkV RX6 61 mX0_sent := ⟨ok_mX0_sent, (List.mem_of_getElem? (i := 622) (by decide +kernel)), (List.mem_of_getElem? (i := 623) (by decide +kernel)), (List.mem_of_getElem? (i := 624) (by decide +kernel))⟩
theorem lk_X6_67 : linkV RX6 67 mX0_stillUnderWay := ⟨ok_mX0_stillUnderWay, (List.mem_of_getElem? (i := 626) (by decide +kernel)), (List.mem_of_getElem? (i := 476) (by decide +kernel)), (List.mem_of_getElem? (i := 477) (by decide +kernel))⟩
theorem lk_X6_86 : linkV RX6 86 mX6_refused := ⟨ok_mX6_refused, (List.mem_of_getElem? (i := 570) (by decide +kernel)), (List.mem_of_getElem? (i := 572) (by decide +kernel)), (List.mem_of_getElem? (i := 1) (by decide +kernel))⟩
theorem lk_X6_89 : linkV RX6 89 mX0_nthUnderWay := ⟨ok_mX0_nthUnderWay, (List.mem_of_getElem? (i := 631) (by decide +kernel)), (List.mem_of_getElem? (i := 632) (by decide +kernel)), (List.mem_of_getElem? (i := 633) (by decide +kernel))⟩
theorem lk_X6_92 : linkV RX6 92 mX0_hasLetter := ⟨ok_mX0_hasLetter, (List.mem_of_getElem? (i := 639) (by decide +kernel)), (List.mem_of_getElem? (i := 216) (by decide +kernel)), (List.mem_of_getElem? (i := 217) (by decide +kernel))⟩
theorem lk_X6_96 : linkV RX6 96 mX0_ofLetter := ⟨ok_mX0_ofLetter, (List.mem_of_getElem? (i := 640) (by decide +kernel)), (List.mem_of_getElem? (i := 227) (by decide +kernel)), (List.mem_of_getElem? (i := 228) (by decide +kernel))⟩
theorem lk_X6_100 : linkV RX6 100 mX0_ofPiece := ⟨ok_mX0_ofPiece, (List.mem_of_getElem? (i := 645) (by decide +kernel)), (List.mem_of_getElem? (i := 422) (by decide +kernel)), (List.mem_of_getElem? (i := 423) (by decide +kernel))⟩
theorem lk_X6_104 : linkV RX6 104 mX5_whyNoMember := ⟨ok_mX5_whyNoMember, (List.mem_of_getElem? (i := 650) (by decide +kernel)), (List.mem_of_getElem? (i := 651) (by decide +kernel)), (List.mem_of_getElem? (i := 652) (by decide +kernel))⟩
theorem lk_X6_107 : linkV RX6 107 mX5_memberAt := ⟨ok_mX5_memberAt, (List.mem_of_getElem? (i := 654) (by decide +kernel)), (List.mem_of_getElem? (i := 235) (by decide +kernel)), (List.mem_of_getElem? (i := 236) (by decide +kernel))⟩
theorem lk_X6_122 : linkV RX6 122 mX1_countKind := ⟨ok_mX1_countKind, (List.mem_of_getElem? (i := 655) (by decide +kernel)), (List.mem_of_getElem? (i := 656) (by decide +kernel)), (List.mem_of_getElem? (i := 657) (by decide +kernel))⟩
theorem lk_X6_137 : linkV RX6 137 mX5_whyNoNews := ⟨ok_mX5_whyNoNews, (List.mem_of_getElem? (i := 663) (by decide +kernel)), (List.mem_of_getElem? (i := 664) (by decide +kernel)), (List.mem_of_getElem? (i := 665) (by decide +kernel))⟩
theorem lk_X6_158 : linkV RX6 158 mX1_wouldAsk := ⟨ok_mX1_wouldAsk, (List.mem_of_getElem? (i := 683) (by decide +kernel)), (List.mem_of_getElem? (i := 684) (by decide +kernel)), (List.mem_of_getElem? (i := 685) (by decide +kernel))⟩
theorem lk_X6_168 : linkV RX6 168 mX5_firstApart := ⟨ok_mX5_firstApart, (List.mem_of_getElem? (i := 700) (by decide +kernel)), (List.mem_of_getElem? (i := 701) (by decide +kernel)), (List.mem_of_getElem? (i := 702) (by decide +kernel))⟩
theorem lk_X6_174 : linkV RX6 174 mX5_countUpWith := ⟨ok_mX5_countUpWith, (List.mem_of_getElem? (i := 721) (by decide +kernel)), (List.mem_of_getElem? (i := 722) (by decide +kernel)), (List.mem_of_getElem? (i := 723) (by decide +kernel))⟩
theorem lk_X6_177 : linkV RX6 177 mX4_follow := ⟨ok_mX4_follow, (List.mem_of_getElem? (i := 729) (by decide +kernel)), (List.mem_of_getElem? (i := 730) (by decide +kernel)), (List.mem_of_getElem? (i := 731) (by decide +kernel))⟩
theorem lk_X6_185 : linkV RX6 185 mX1_saysItself := ⟨ok_mX1_saysItself, (List.mem_of_getElem? (i := 756) (by decide +kernel)), (List.mem_of_getElem? (i := 757) (by decide +kernel)), (List.mem_of_getElem? (i := 758) (by decide +kernel))⟩
theorem lk_X6_189 : linkV RX6 189 mX4_stands := ⟨ok_mX4_stands, (List.mem_of_getElem? (i := 761) (by decide +kernel)), (List.mem_of_getElem? (i := 762) (by decide +kernel)), (List.mem_of_getElem? (i := 763) (by decide +kernel))⟩
theorem lk_X6_193 : linkV RX6 193 mX5_clear := ⟨ok_mX5_clear, (List.mem_of_getElem? (i := 775) (by decide +kernel)), (List.mem_of_getElem? (i := 776) (by decide +kernel)), (List.mem_of_getElem? (i := 777) (by decide +kernel))⟩
theorem lk_X6_199 : linkV RX6 199 mX3_get := ⟨ok_mX3_get, (List.mem_of_getElem? (i := 787) (by decide +kernel)), (List.mem_of_getElem? (i := 231) (by decide +kernel)), (List.mem_of_getElem? (i := 232) (by decide +kernel))⟩
theorem lk_X6_204 : linkV RX6 204 mX5_sameAs := ⟨ok_mX5_sameAs, (List.mem_of_getElem? (i := 789) (by decide +kernel)), (List.mem_of_getElem? (i := 790) (by decide +kernel)), (List.mem_of_getElem? (i := 791) (by decide +kernel))⟩
theorem lk_X6_208 : linkV RX6 208 mX5_become := ⟨ok_mX5_become, (List.mem_of_getElem? (i := 813) (by decide +kernel)), (List.mem_of_getElem? (i := 814) (by decide +kernel)), (List.mem_of_getElem? (i := 815) (by decide +kernel))⟩
theorem lk_X6_215 : linkV RX6 215 mX2_throwLatest := ⟨ok_mX2_throwLatest, (List.mem_of_getElem? (i := 845) (by decide +kernel)), (List.mem_of_getElem? (i := 846) (by decide +kernel)), (List.mem_of_getElem? (i := 847) (by decide +kernel))⟩
theorem lk_X6_221 : linkV RX6 221 mX2_keep := ⟨ok_mX2_keep, (List.mem_of_getElem? (i := 574) (by decide +kernel)), (List.mem_of_getElem? (i := 575) (by decide +kernel)), (List.mem_of_getElem? (i := 576) (by decide +kernel))⟩
theorem kc_X6_202 : Cond.constantLong RX6 202 (4294967295) ∈ lw_tbl := (List.mem_of_getElem? (i := 788) (by decide +kernel))
theorem ln_X6_7 : linkNew RX6 7 5 [.null, .int 0, .null, .null, .null, .null, .null, .null] := ⟨RX5, TX5, 8, tyX5, cf5, (List.mem_of_getElem? (i := 58) (by decide +kernel)), rfl, by decide +kernel⟩
theorem ln_X6_16 : linkNew RX6 16 2 [.null, .int 0] := ⟨RX2, TX2, 2, tyX2, cf2, (List.mem_of_getElem? (i := 145) (by decide +kernel)), rfl, by decide +kernel⟩
theorem ln_X6_23 : linkNew RX6 23 4 [.null, .int 0] := ⟨RX4, TX4, 2, tyX4, cf4, (List.mem_of_getElem? (i := 159) (by decide +kernel)), rfl, by decide +kernel⟩
theorem fl_X0_14 : FL RX0 14 0 0 (.object "CrowdRoll$Rows") true := ⟨RX0, TX0, 4, tyX0, cf0, by decide, (List.mem_of_getElem? (i := 99) (by decide +kernel)), rfl, rfl, rfl⟩
theorem fl_X0_20 : FL RX0 20 0 1 (.object "CrowdRoll$Rows") true := ⟨RX0, TX0, 4, tyX0, cf0, by decide, (List.mem_of_getElem? (i := 100) (by decide +kernel)), rfl, rfl, rfl⟩
theorem fl_X0_23 : FL RX0 23 0 2 .int false := ⟨RX0, TX0, 4, tyX0, cf0, by decide, (List.mem_of_getElem? (i := 102) (by decide +kernel)), rfl, rfl, rfl⟩
theorem fl_X0_27 : FL RX0 27 0 3 .int false := ⟨RX0, TX0, 4, tyX0, cf0, by decide, (List.mem_of_getElem? (i := 104) (by decide +kernel)), rfl, rfl, rfl⟩
theorem fl_X0_30 : FL RX0 30 3 3 .int false := ⟨RX3, TX3, 4, tyX3, cf3, by decide, (List.mem_of_getElem? (i := 85) (by decide +kernel)), rfl, rfl, rfl⟩
theorem lo_X0_3 : linkO RX0 3 := ⟨(List.mem_of_getElem? (i := 71) (by decide +kernel)), (List.mem_of_getElem? (i := 56) (by decide +kernel)), List.mem_of_getElem? (i := 57) (by decide +kernel)⟩
theorem lk_X0_11 : linkI RX0 11 mX3_init := ⟨ok_mX3_init, (List.mem_of_getElem? (i := 74) (by decide +kernel)), (List.mem_of_getElem? (i := 75) (by decide +kernel)), rfl, rfl⟩
theorem lk_X0_33 : linkV RX0 33 mX3_reserve := ⟨ok_mX3_reserve, (List.mem_of_getElem? (i := 291) (by decide +kernel)), (List.mem_of_getElem? (i := 259) (by decide +kernel)), (List.mem_of_getElem? (i := 260) (by decide +kernel))⟩
theorem lk_X0_37 : linkV RX0 37 mX3_get := ⟨ok_mX3_get, (List.mem_of_getElem? (i := 230) (by decide +kernel)), (List.mem_of_getElem? (i := 231) (by decide +kernel)), (List.mem_of_getElem? (i := 232) (by decide +kernel))⟩
theorem lk_X0_41 : linkV RX0 41 mX3_add := ⟨ok_mX3_add, (List.mem_of_getElem? (i := 454) (by decide +kernel)), (List.mem_of_getElem? (i := 280) (by decide +kernel)), (List.mem_of_getElem? (i := 281) (by decide +kernel))⟩
theorem lk_X0_45 : linkV RX0 45 mX3_set := ⟨ok_mX3_set, (List.mem_of_getElem? (i := 412) (by decide +kernel)), (List.mem_of_getElem? (i := 284) (by decide +kernel)), (List.mem_of_getElem? (i := 285) (by decide +kernel))⟩
theorem lk_X0_49 : linkV RX0 49 mX0_ofLetter := ⟨ok_mX0_ofLetter, (List.mem_of_getElem? (i := 483) (by decide +kernel)), (List.mem_of_getElem? (i := 227) (by decide +kernel)), (List.mem_of_getElem? (i := 228) (by decide +kernel))⟩
theorem lk_X0_52 : linkV RX0 52 mX0_open := ⟨ok_mX0_open, (List.mem_of_getElem? (i := 484) (by decide +kernel)), (List.mem_of_getElem? (i := 451) (by decide +kernel)), (List.mem_of_getElem? (i := 452) (by decide +kernel))⟩
theorem lk_X0_56 : linkV RX0 56 mX0_ofPiece := ⟨ok_mX0_ofPiece, (List.mem_of_getElem? (i := 485) (by decide +kernel)), (List.mem_of_getElem? (i := 422) (by decide +kernel)), (List.mem_of_getElem? (i := 423) (by decide +kernel))⟩
theorem lk_X0_60 : linkV RX0 60 mX0_put := ⟨ok_mX0_put, (List.mem_of_getElem? (i := 486) (by decide +kernel)), (List.mem_of_getElem? (i := 468) (by decide +kernel)), (List.mem_of_getElem? (i := 469) (by decide +kernel))⟩
theorem lk_X0_64 : linkV RX0 64 mX0_hasLetter := ⟨ok_mX0_hasLetter, (List.mem_of_getElem? (i := 769) (by decide +kernel)), (List.mem_of_getElem? (i := 216) (by decide +kernel)), (List.mem_of_getElem? (i := 217) (by decide +kernel))⟩
theorem lk_X0_68 : linkV RX0 68 mX3_become := ⟨ok_mX3_become, (List.mem_of_getElem? (i := 826) (by decide +kernel)), (List.mem_of_getElem? (i := 827) (by decide +kernel)), (List.mem_of_getElem? (i := 828) (by decide +kernel))⟩
theorem lk_X0_72 : linkV RX0 72 mX3_sameAs := ⟨ok_mX3_sameAs, (List.mem_of_getElem? (i := 804) (by decide +kernel)), (List.mem_of_getElem? (i := 805) (by decide +kernel)), (List.mem_of_getElem? (i := 806) (by decide +kernel))⟩
theorem ln_X0_9 : linkNew RX0 9 3 [.int 0, .int 0, .null, .int 0] := ⟨RX3, TX3, 4, tyX3, cf3, (List.mem_of_getElem? (i := 72) (by decide +kernel)), rfl, by decide +kernel⟩
theorem fl_X1_9 : FL RX1 9 1 0 .int true := ⟨RX1, TX1, 16, tyX1, cf1, by decide, (List.mem_of_getElem? (i := 305) (by decide +kernel)), rfl, rfl, rfl⟩
theorem fl_X1_15 : FL RX1 15 1 1 .boolean false := ⟨RX1, TX1, 16, tyX1, cf1, by decide, (List.mem_of_getElem? (i := 307) (by decide +kernel)), rfl, rfl, rfl⟩
theorem fl_X1_19 : FL RX1 19 1 8 (.array .int) true := ⟨RX1, TX1, 16, tyX1, cf1, by decide, (List.mem_of_getElem? (i := 325) (by decide +kernel)), rfl, rfl, rfl⟩
theorem fl_X1_23 : FL RX1 23 1 9 (.array .int) true := ⟨RX1, TX1, 16, tyX1, cf1, by decide, (List.mem_of_getElem? (i := 328) (by decide +kernel)), rfl, rfl, rfl⟩
theorem fl_X1_26 : FL RX1 26 1 10 (.array .int) true := ⟨RX1, TX1, 16, tyX1, cf1, by decide, (List.mem_of_getElem? (i := 331) (by decide +kernel)), rfl, rfl, rfl⟩
theorem fl_X1_29 : FL RX1 29 1 11 (.array .int) true := ⟨RX1, TX1, 16, tyX1, cf1, by decide, (List.mem_of_getElem? (i := 334) (by decide +kernel)), rfl, rfl, rfl⟩
theorem fl_X1_32 : FL RX1 32 1 12 (.array .int) true := ⟨RX1, TX1, 16, tyX1, cf1, by decide, (List.mem_of_getElem? (i := 337) (by decide +kernel)), rfl, rfl, rfl⟩
theorem fl_X1_35 : FL RX1 35 1 13 (.array .int) true := ⟨RX1, TX1, 16, tyX1, cf1, by decide, (List.mem_of_getElem? (i := 340) (by decide +kernel)), rfl, rfl, rfl⟩
theorem fl_X1_38 : FL RX1 38 1 2 .int false := ⟨RX1, TX1, 16, tyX1, cf1, by decide, (List.mem_of_getElem? (i := 309) (by decide +kernel)), rfl, rfl, rfl⟩
theorem fl_X1_41 : FL RX1 41 1 3 .long false := ⟨RX1, TX1, 16, tyX1, cf1, by decide, (List.mem_of_getElem? (i := 312) (by decide +kernel)), rfl, rfl, rfl⟩
theorem fl_X1_45 : FL RX1 45 1 4 .int false := ⟨RX1, TX1, 16, tyX1, cf1, by decide, (List.mem_of_getElem? (i := 313) (by decide +kernel)), rfl, rfl, rfl⟩
theorem fl_X1_48 : FL RX1 48 1 5 .int false := ⟨RX1, TX1, 16, tyX1, cf1, by decide, (List.mem_of_getElem? (i := 316) (by decide +kernel)), rfl, rfl, rfl⟩
theorem fl_X1_67 : FL RX1 67 1 6 .int false := ⟨RX1, TX1, 16, tyX1, cf1, by decide, (List.mem_of_getElem? (i := 319) (by decide +kernel)), rfl, rfl, rfl⟩
theorem fl_X1_70 : FL RX1 70 1 7 .int false := ⟨RX1, TX1, 16, tyX1, cf1, by decide, (List.mem_of_getElem? (i := 322) (by decide +kernel)), rfl, rfl, rfl⟩
theorem fl_X1_73 : FL RX1 73 1 14 .int false := ⟨RX1, TX1, 16, tyX1, cf1, by decide, (List.mem_of_getElem? (i := 342) (by decide +kernel)), rfl, rfl, rfl⟩
theorem fl_X1_76 : FL RX1 76 1 15 .int false := ⟨RX1, TX1, 16, tyX1, cf1, by decide, (List.mem_of_getElem? (i := 344) (by decide +kernel)), rfl, rfl, rfl⟩
theorem lo_X1_3 : linkO RX1 3 := ⟨(List.mem_of_getElem? (i := 304) (by decide +kernel)), (List.mem_of_getElem? (i := 56) (by decide +kernel)), List.mem_of_getElem? (i := 57) (by decide +kernel)⟩
theorem lk_X1_54 : linkS RX1 54 mJ7_fill_53178 := ⟨ok_mJ7_fill_53178, (List.mem_of_getElem? (i := 387) (by decide +kernel)), (List.mem_of_getElem? (i := 175) (by decide +kernel))⟩
theorem lk_X1_87 : linkN RX1 87 mX6_isMember := ⟨ok_mX6_isMember, ⟨"CrowdRoll", (List.mem_of_getElem? (i := 437) (by decide +kernel))⟩, (List.mem_of_getElem? (i := 220) (by decide +kernel))⟩
theorem lk_X1_102 : linkS RX1 102 mX1_stirred := ⟨ok_mX1_stirred, (List.mem_of_getElem? (i := 513) (by decide +kernel)), (List.mem_of_getElem? (i := 514) (by decide +kernel))⟩
theorem lk_X1_106 : linkS RX1 106 mX1_drawn := ⟨ok_mX1_drawn, (List.mem_of_getElem? (i := 518) (by decide +kernel)), (List.mem_of_getElem? (i := 519) (by decide +kernel))⟩
theorem lm_X1_113 : linkM RX1 113 Lib.Math.min.name Lib.Math.min.code := ⟨(List.mem_of_getElem? (i := 550) (by decide +kernel)), (List.mem_of_getElem? (i := 263) (by decide +kernel)), (List.mem_of_getElem? (i := 43) (by decide +kernel)), List.mem_of_getElem? (i := 264) (by decide +kernel)⟩
theorem lk_X1_123 : linkS RX1 123 mX1_shuffle := ⟨ok_mX1_shuffle, (List.mem_of_getElem? (i := 547) (by decide +kernel)), (List.mem_of_getElem? (i := 548) (by decide +kernel))⟩
theorem lc_X1_135 : linkC RX1 135 := ⟨(List.mem_of_getElem? (i := 821) (by decide +kernel)), (List.mem_of_getElem? (i := 278) (by decide +kernel)), (List.mem_of_getElem? (i := 277) (by decide +kernel)), (List.mem_of_getElem? (i := 48) (by decide +kernel))⟩
theorem lk_X1_141 : linkN RX1 141 mX6_sameNumbers := ⟨ok_mX6_sameNumbers, ⟨"CrowdRoll", (List.mem_of_getElem? (i := 797) (by decide +kernel))⟩, (List.mem_of_getElem? (i := 798) (by decide +kernel))⟩
theorem lk_X1_51 : linkV RX1 51 mX1_forgetAll := ⟨ok_mX1_forgetAll, (List.mem_of_getElem? (i := 383) (by decide +kernel)), (List.mem_of_getElem? (i := 384) (by decide +kernel)), (List.mem_of_getElem? (i := 385) (by decide +kernel))⟩
theorem lk_X1_60 : linkV RX1 60 mX1_stopAsking := ⟨ok_mX1_stopAsking, (List.mem_of_getElem? (i := 388) (by decide +kernel)), (List.mem_of_getElem? (i := 389) (by decide +kernel)), (List.mem_of_getElem? (i := 390) (by decide +kernel))⟩
theorem lk_X1_63 : linkV RX1 63 mX1_say := ⟨ok_mX1_say, (List.mem_of_getElem? (i := 392) (by decide +kernel)), (List.mem_of_getElem? (i := 393) (by decide +kernel)), (List.mem_of_getElem? (i := 394) (by decide +kernel))⟩
theorem lk_X1_79 : linkV RX1 79 mX1_enter := ⟨ok_mX1_enter, (List.mem_of_getElem? (i := 396) (by decide +kernel)), (List.mem_of_getElem? (i := 397) (by decide +kernel)), (List.mem_of_getElem? (i := 398) (by decide +kernel))⟩
theorem lk_X1_83 : linkV RX1 83 mX1_raiseTerm := ⟨ok_mX1_raiseTerm, (List.mem_of_getElem? (i := 433) (by decide +kernel)), (List.mem_of_getElem? (i := 434) (by decide +kernel)), (List.mem_of_getElem? (i := 435) (by decide +kernel))⟩
theorem lk_X1_91 : linkV RX1 91 mX1_isBeaten := ⟨ok_mX1_isBeaten, (List.mem_of_getElem? (i := 438) (by decide +kernel)), (List.mem_of_getElem? (i := 439) (by decide +kernel)), (List.mem_of_getElem? (i := 440) (by decide +kernel))⟩
theorem lk_X1_95 : linkV RX1 95 mX1_hasNews := ⟨ok_mX1_hasNews, (List.mem_of_getElem? (i := 760) (by decide +kernel)), (List.mem_of_getElem? (i := 668) (by decide +kernel)), (List.mem_of_getElem? (i := 669) (by decide +kernel))⟩
theorem lk_X1_110 : linkV RX1 110 mX1_thinksLiving := ⟨ok_mX1_thinksLiving, (List.mem_of_getElem? (i := 505) (by decide +kernel)), (List.mem_of_getElem? (i := 506) (by decide +kernel)), (List.mem_of_getElem? (i := 507) (by decide +kernel))⟩
theorem lk_X1_119 : linkV RX1 119 mX1_gatherLiving := ⟨ok_mX1_gatherLiving, (List.mem_of_getElem? (i := 546) (by decide +kernel)), (List.mem_of_getElem? (i := 502) (by decide +kernel)), (List.mem_of_getElem? (i := 503) (by decide +kernel))⟩
theorem lk_X1_127 : linkV RX1 127 mX1_nextPlace := ⟨ok_mX1_nextPlace, (List.mem_of_getElem? (i := 555) (by decide +kernel)), (List.mem_of_getElem? (i := 539) (by decide +kernel)), (List.mem_of_getElem? (i := 540) (by decide +kernel))⟩
theorem lk_X1_131 : linkV RX1 131 mX1_pickInOrder := ⟨ok_mX1_pickInOrder, (List.mem_of_getElem? (i := 463) (by decide +kernel)), (List.mem_of_getElem? (i := 464) (by decide +kernel)), (List.mem_of_getElem? (i := 465) (by decide +kernel))⟩
theorem kc_X1_98 : Cond.constantLong RX1 98 (6364136223846793005) ∈ lw_tbl := (List.mem_of_getElem? (i := 516) (by decide +kernel))
theorem kc_X1_100 : Cond.constantLong RX1 100 (1442695040888963407) ∈ lw_tbl := (List.mem_of_getElem? (i := 517) (by decide +kernel))
theorem fl_X2_9 : FL RX2 9 2 0 (.array .int) true := ⟨RX2, TX2, 2, tyX2, cf2, by decide, (List.mem_of_getElem? (i := 151) (by decide +kernel)), rfl, rfl, rfl⟩
theorem fl_X2_15 : FL RX2 15 2 1 .int false := ⟨RX2, TX2, 2, tyX2, cf2, by decide, (List.mem_of_getElem? (i := 153) (by decide +kernel)), rfl, rfl, rfl⟩
theorem lo_X2_3 : linkO RX2 3 := ⟨(List.mem_of_getElem? (i := 150) (by decide +kernel)), (List.mem_of_getElem? (i := 56) (by decide +kernel)), List.mem_of_getElem? (i := 57) (by decide +kernel)⟩
theorem fl_X3_15 : FL RX3 15 3 0 .int true := ⟨RX3, TX3, 4, tyX3, cf3, by decide, (List.mem_of_getElem? (i := 81) (by decide +kernel)), rfl, rfl, rfl⟩
theorem fl_X3_21 : FL RX3 21 3 1 .int true := ⟨RX3, TX3, 4, tyX3, cf3, by decide, (List.mem_of_getElem? (i := 82) (by decide +kernel)), rfl, rfl, rfl⟩
theorem fl_X3_24 : FL RX3 24 3 2 (.array .int) false := ⟨RX3, TX3, 4, tyX3, cf3, by decide, (List.mem_of_getElem? (i := 83) (by decide +kernel)), rfl, rfl, rfl⟩
theorem fl_X3_28 : FL RX3 28 3 3 .int false := ⟨RX3, TX3, 4, tyX3, cf3, by decide, (List.mem_of_getElem? (i := 84) (by decide +kernel)), rfl, rfl, rfl⟩
theorem lo_X3_3 : linkO RX3 3 := ⟨(List.mem_of_getElem? (i := 77) (by decide +kernel)), (List.mem_of_getElem? (i := 56) (by decide +kernel)), List.mem_of_getElem? (i := 57) (by decide +kernel)⟩
theorem lm_X3_9 : linkM RX3 9 Lib.Math.max.name Lib.Math.max.code := ⟨(List.mem_of_getElem? (i := 78) (by decide +kernel)), (List.mem_of_getElem? (i := 79) (by decide +kernel)), (List.mem_of_getElem? (i := 43) (by decide +kernel)), List.mem_of_getElem? (i := 80) (by decide +kernel)⟩
theorem lm_X3_31 : linkM RX3 31 Lib.Math.min.name Lib.Math.min.code := ⟨(List.mem_of_getElem? (i := 262) (by decide +kernel)), (List.mem_of_getElem? (i := 263) (by decide +kernel)), (List.mem_of_getElem? (i := 43) (by decide +kernel)), List.mem_of_getElem? (i := 264) (by decide +kernel)⟩
theorem lk_X3_34 : linkS RX3 34 mJ7_copyOf_59c91 := ⟨ok_mJ7_copyOf_59c91, (List.mem_of_getElem? (i := 265) (by decide +kernel)), (List.mem_of_getElem? (i := 266) (by decide +kernel))⟩
theorem lc_X3_44 : linkC RX3 44 := ⟨(List.mem_of_getElem? (i := 831) (by decide +kernel)), (List.mem_of_getElem? (i := 278) (by decide +kernel)), (List.mem_of_getElem? (i := 277) (by decide +kernel)), (List.mem_of_getElem? (i := 48) (by decide +kernel))⟩
theorem lk_X3_50 : linkN RX3 50 mX6_sameNumbers := ⟨ok_mX6_sameNumbers, ⟨"CrowdRoll", (List.mem_of_getElem? (i := 808) (by decide +kernel))⟩, (List.mem_of_getElem? (i := 798) (by decide +kernel))⟩
theorem lk_X3_40 : linkV RX3 40 mX3_reserve := ⟨ok_mX3_reserve, (List.mem_of_getElem? (i := 830) (by decide +kernel)), (List.mem_of_getElem? (i := 259) (by decide +kernel)), (List.mem_of_getElem? (i := 260) (by decide +kernel))⟩
theorem fl_X4_9 : FL RX4 9 4 0 (.array .int) false := ⟨RX4, TX4, 2, tyX4, cf4, by decide, (List.mem_of_getElem? (i := 165) (by decide +kernel)), rfl, rfl, rfl⟩
theorem fl_X4_15 : FL RX4 15 4 1 .int false := ⟨RX4, TX4, 2, tyX4, cf4, by decide, (List.mem_of_getElem? (i := 167) (by decide +kernel)), rfl, rfl, rfl⟩
theorem lo_X4_3 : linkO RX4 3 := ⟨(List.mem_of_getElem? (i := 164) (by decide +kernel)), (List.mem_of_getElem? (i := 56) (by decide +kernel)), List.mem_of_getElem? (i := 57) (by decide +kernel)⟩
theorem lk_X4_37 : linkS RX4 37 mJ7_copyOf_59c91 := ⟨ok_mJ7_copyOf_59c91, (List.mem_of_getElem? (i := 738) (by decide +kernel)), (List.mem_of_getElem? (i := 266) (by decide +kernel))⟩
theorem lk_X4_19 : linkV RX4 19 mX0_hasLetter := ⟨ok_mX0_hasLetter, (List.mem_of_getElem? (i := 733) (by decide +kernel)), (List.mem_of_getElem? (i := 216) (by decide +kernel)), (List.mem_of_getElem? (i := 217) (by decide +kernel))⟩
theorem lk_X4_25 : linkV RX4 25 mX4_add := ⟨ok_mX4_add, (List.mem_of_getElem? (i := 734) (by decide +kernel)), (List.mem_of_getElem? (i := 735) (by decide +kernel)), (List.mem_of_getElem? (i := 736) (by decide +kernel))⟩
theorem lk_X4_29 : linkV RX4 29 mX0_findPiece := ⟨ok_mX0_findPiece, (List.mem_of_getElem? (i := 739) (by decide +kernel)), (List.mem_of_getElem? (i := 740) (by decide +kernel)), (List.mem_of_getElem? (i := 741) (by decide +kernel))⟩
theorem lk_X4_33 : linkV RX4 33 mX0_ofPiece := ⟨ok_mX0_ofPiece, (List.mem_of_getElem? (i := 743) (by decide +kernel)), (List.mem_of_getElem? (i := 422) (by decide +kernel)), (List.mem_of_getElem? (i := 423) (by decide +kernel))⟩
theorem lk_X4_43 : linkV RX4 43 mX0_reached := ⟨ok_mX0_reached, (List.mem_of_getElem? (i := 765) (by decide +kernel)), (List.mem_of_getElem? (i := 766) (by decide +kernel)), (List.mem_of_getElem? (i := 767) (by decide +kernel))⟩
theorem lk_X4_47 : linkV RX4 47 mX0_ofLetter := ⟨ok_mX0_ofLetter, (List.mem_of_getElem? (i := 770) (by decide +kernel)), (List.mem_of_getElem? (i := 227) (by decide +kernel)), (List.mem_of_getElem? (i := 228) (by decide +kernel))⟩
theorem la_X5_9 : Cond.classLink RX5 9 RX1 ∈ lw_tbl ∧ Cond.arrayOver (.object RX1) ∈ lw_tbl := ⟨(List.mem_of_getElem? (i := 64) (by decide +kernel)), (List.mem_of_getElem? (i := 65) (by decide +kernel))⟩
theorem fl_X5_11 : FL RX5 11 5 0 (.array (.object "CrowdRoll$Member")) true := ⟨RX5, TX5, 8, tyX5, cf5, by decide, (List.mem_of_getElem? (i := 117) (by decide +kernel)), rfl, rfl, rfl⟩
theorem fl_X5_17 : FL RX5 17 5 1 .int false := ⟨RX5, TX5, 8, tyX5, cf5, by decide, (List.mem_of_getElem? (i := 118) (by decide +kernel)), rfl, rfl, rfl⟩
theorem fl_X5_21 : FL RX5 21 5 2 (.array .long) true := ⟨RX5, TX5, 8, tyX5, cf5, by decide, (List.mem_of_getElem? (i := 119) (by decide +kernel)), rfl, rfl, rfl⟩
theorem fl_X5_28 : FL RX5 28 5 3 (.object "CrowdRoll$Books") true := ⟨RX5, TX5, 8, tyX5, cf5, by decide, (List.mem_of_getElem? (i := 120) (by decide +kernel)), rfl, rfl, rfl⟩
theorem fl_X5_37 : FL RX5 37 5 4 (.object "CrowdRoll$Rows") true := ⟨RX5, TX5, 8, tyX5, cf5, by decide, (List.mem_of_getElem? (i := 122) (by decide +kernel)), rfl, rfl, rfl⟩
theorem fl_X5_41 : FL RX5 41 5 5 (.array .int) true := ⟨RX5, TX5, 8, tyX5, cf5, by decide, (List.mem_of_getElem? (i := 124) (by decide +kernel)), rfl, rfl, rfl⟩
theorem fl_X5_45 : FL RX5 45 5 6 (.array .int) true := ⟨RX5, TX5, 8, tyX5, cf5, by decide, (List.mem_of_getElem? (i := 126) (by decide +kernel)), rfl, rfl, rfl⟩
theorem fl_X5_48 : FL RX5 48 5 7 (.array .int) true := ⟨RX5, TX5, 8, tyX5, cf5, by decide, (List.mem_of_getElem? (i := 127) (by decide +kernel)), rfl, rfl, rfl⟩
theorem fl_X5_51 : FL RX5 51 1 1 .boolean false := ⟨RX1, TX1, 16, tyX1, cf1, by decide, (List.mem_of_getElem? (i := 308) (by decide +kernel)), rfl, rfl, rfl⟩
theorem fl_X5_63 : FL RX5 63 3 3 .int false := ⟨RX3, TX3, 4, tyX3, cf3, by decide, (List.mem_of_getElem? (i := 86) (by decide +kernel)), rfl, rfl, rfl⟩
theorem fl_X5_80 : FL RX5 80 1 2 .int false := ⟨RX1, TX1, 16, tyX1, cf1, by decide, (List.mem_of_getElem? (i := 310) (by decide +kernel)), rfl, rfl, rfl⟩
theorem fl_X5_181 : FL RX5 181 1 0 .int true := ⟨RX1, TX1, 16, tyX1, cf1, by decide, (List.mem_of_getElem? (i := 306) (by decide +kernel)), rfl, rfl, rfl⟩
theorem fl_X5_184 : FL RX5 184 1 4 .int false := ⟨RX1, TX1, 16, tyX1, cf1, by decide, (List.mem_of_getElem? (i := 314) (by decide +kernel)), rfl, rfl, rfl⟩
theorem fl_X5_203 : FL RX5 203 1 5 .int false := ⟨RX1, TX1, 16, tyX1, cf1, by decide, (List.mem_of_getElem? (i := 318) (by decide +kernel)), rfl, rfl, rfl⟩
theorem fl_X5_213 : FL RX5 213 1 6 .int false := ⟨RX1, TX1, 16, tyX1, cf1, by decide, (List.mem_of_getElem? (i := 321) (by decide +kernel)), rfl, rfl, rfl⟩
theorem fl_X5_216 : FL RX5 216 1 7 .int false := ⟨RX1, TX1, 16, tyX1, cf1, by decide, (List.mem_of_getElem? (i := 324) (by decide +kernel)), rfl, rfl, rfl⟩
theorem fl_X5_222 : FL RX5 222 1 8 (.array .int) true := ⟨RX1, TX1, 16, tyX1, cf1, by decide, (List.mem_of_getElem? (i := 327) (by decide +kernel)), rfl, rfl, rfl⟩
theorem fl_X5_228 : FL RX5 228 1 11 (.array .int) true := ⟨RX1, TX1, 16, tyX1, cf1, by decide, (List.mem_of_getElem? (i := 336) (by decide +kernel)), rfl, rfl, rfl⟩
theorem fl_X5_231 : FL RX5 231 1 9 (.array .int) true := ⟨RX1, TX1, 16, tyX1, cf1, by decide, (List.mem_of_getElem? (i := 330) (by decide +kernel)), rfl, rfl, rfl⟩
theorem fl_X5_267 : FL RX5 267 1 12 (.array .int) true := ⟨RX1, TX1, 16, tyX1, cf1, by decide, (List.mem_of_getElem? (i := 339) (by decide +kernel)), rfl, rfl, rfl⟩
theorem fl_X5_274 : FL RX5 274 1 10 (.array .int) true := ⟨RX1, TX1, 16, tyX1, cf1, by decide, (List.mem_of_getElem? (i := 333) (by decide +kernel)), rfl, rfl, rfl⟩
theorem lo_X5_3 : linkO RX5 3 := ⟨(List.mem_of_getElem? (i := 63) (by decide +kernel)), (List.mem_of_getElem? (i := 56) (by decide +kernel)), List.mem_of_getElem? (i := 57) (by decide +kernel)⟩
theorem lk_X5_27 : linkI RX5 27 mX0_init := ⟨ok_mX0_init, (List.mem_of_getElem? (i := 68) (by decide +kernel)), (List.mem_of_getElem? (i := 69) (by decide +kernel)), rfl, rfl⟩
theorem lk_X5_34 : linkI RX5 34 mX3_init := ⟨ok_mX3_init, (List.mem_of_getElem? (i := 116) (by decide +kernel)), (List.mem_of_getElem? (i := 75) (by decide +kernel)), rfl, rfl⟩
theorem lk_X5_73 : linkI RX5 73 mX1_init := ⟨ok_mX1_init, (List.mem_of_getElem? (i := 301) (by decide +kernel)), (List.mem_of_getElem? (i := 302) (by decide +kernel)), rfl, rfl⟩
theorem lk_X5_54 : linkS RX5 54 mJ7_fill_d0a16 := ⟨ok_mJ7_fill_d0a16, (List.mem_of_getElem? (i := 779) (by decide +kernel)), (List.mem_of_getElem? (i := 780) (by decide +kernel))⟩
theorem lk_X5_66 : linkS RX5 66 mJ7_fill_53178 := ⟨ok_mJ7_fill_53178, (List.mem_of_getElem? (i := 786) (by decide +kernel)), (List.mem_of_getElem? (i := 175) (by decide +kernel))⟩
theorem lk_X5_69 : linkN RX5 69 mX6_isMember := ⟨ok_mX6_isMember, ⟨"CrowdRoll", (List.mem_of_getElem? (i := 219) (by decide +kernel))⟩, (List.mem_of_getElem? (i := 220) (by decide +kernel))⟩
theorem lc_X5_250 : linkC RX5 250 := ⟨(List.mem_of_getElem? (i := 521) (by decide +kernel)), (List.mem_of_getElem? (i := 278) (by decide +kernel)), (List.mem_of_getElem? (i := 277) (by decide +kernel)), (List.mem_of_getElem? (i := 48) (by decide +kernel))⟩
theorem lk_X5_60 : linkV RX5 60 mX0_clear := ⟨ok_mX0_clear, (List.mem_of_getElem? (i := 782) (by decide +kernel)), (List.mem_of_getElem? (i := 783) (by decide +kernel)), (List.mem_of_getElem? (i := 784) (by decide +kernel))⟩
theorem lk_X5_76 : linkV RX5 76 mX5_memberAt := ⟨ok_mX5_memberAt, (List.mem_of_getElem? (i := 234) (by decide +kernel)), (List.mem_of_getElem? (i := 235) (by decide +kernel)), (List.mem_of_getElem? (i := 236) (by decide +kernel))⟩
theorem lk_X5_83 : linkV RX5 83 mX1_hasNews := ⟨ok_mX1_hasNews, (List.mem_of_getElem? (i := 667) (by decide +kernel)), (List.mem_of_getElem? (i := 668) (by decide +kernel)), (List.mem_of_getElem? (i := 669) (by decide +kernel))⟩
theorem lk_X5_86 : linkV RX5 86 mX5_whyRefused := ⟨ok_mX5_whyRefused, (List.mem_of_getElem? (i := 207) (by decide +kernel)), (List.mem_of_getElem? (i := 208) (by decide +kernel)), (List.mem_of_getElem? (i := 209) (by decide +kernel))⟩
theorem lk_X5_90 : linkV RX5 90 mX5_keepAct := ⟨ok_mX5_keepAct, (List.mem_of_getElem? (i := 254) (by decide +kernel)), (List.mem_of_getElem? (i := 255) (by decide +kernel)), (List.mem_of_getElem? (i := 256) (by decide +kernel))⟩
theorem lk_X5_94 : linkV RX5 94 mX0_reserveForAct := ⟨ok_mX0_reserveForAct, (List.mem_of_getElem? (i := 287) (by decide +kernel)), (List.mem_of_getElem? (i := 288) (by decide +kernel)), (List.mem_of_getElem? (i := 289) (by decide +kernel))⟩
theorem lk_X5_97 : linkV RX5 97 mX5_makeMember := ⟨ok_mX5_makeMember, (List.mem_of_getElem? (i := 292) (by decide +kernel)), (List.mem_of_getElem? (i := 293) (by decide +kernel)), (List.mem_of_getElem? (i := 294) (by decide +kernel))⟩
theorem lk_X5_101 : linkV RX5 101 mX5_bring := ⟨ok_mX5_bring, (List.mem_of_getElem? (i := 400) (by decide +kernel)), (List.mem_of_getElem? (i := 401) (by decide +kernel)), (List.mem_of_getElem? (i := 402) (by decide +kernel))⟩
theorem lk_X5_105 : linkV RX5 105 mX0_endAsLost := ⟨ok_mX0_endAsLost, (List.mem_of_getElem? (i := 408) (by decide +kernel)), (List.mem_of_getElem? (i := 409) (by decide +kernel)), (List.mem_of_getElem? (i := 410) (by decide +kernel))⟩
theorem lk_X5_108 : linkV RX5 108 mX0_stillUnderWay := ⟨ok_mX0_stillUnderWay, (List.mem_of_getElem? (i := 475) (by decide +kernel)), (List.mem_of_getElem? (i := 476) (by decide +kernel)), (List.mem_of_getElem? (i := 477) (by decide +kernel))⟩
theorem lk_X5_112 : linkV RX5 112 mX0_sendCopy := ⟨ok_mX0_sendCopy, (List.mem_of_getElem? (i := 479) (by decide +kernel)), (List.mem_of_getElem? (i := 480) (by decide +kernel)), (List.mem_of_getElem? (i := 481) (by decide +kernel))⟩
theorem lk_X5_115 : linkV RX5 115 mX5_setLink := ⟨ok_mX5_setLink, (List.mem_of_getElem? (i := 487) (by decide +kernel)), (List.mem_of_getElem? (i := 488) (by decide +kernel)), (List.mem_of_getElem? (i := 489) (by decide +kernel))⟩
theorem lk_X5_119 : linkV RX5 119 mX5_send := ⟨ok_mX5_send, (List.mem_of_getElem? (i := 446) (by decide +kernel)), (List.mem_of_getElem? (i := 447) (by decide +kernel)), (List.mem_of_getElem? (i := 448) (by decide +kernel))⟩
theorem lk_X5_123 : linkV RX5 123 mX5_goAway := ⟨ok_mX5_goAway, (List.mem_of_getElem? (i := 491) (by decide +kernel)), (List.mem_of_getElem? (i := 492) (by decide +kernel)), (List.mem_of_getElem? (i := 493) (by decide +kernel))⟩
theorem lk_X5_127 : linkV RX5 127 mX5_takeTurn := ⟨ok_mX5_takeTurn, (List.mem_of_getElem? (i := 522) (by decide +kernel)), (List.mem_of_getElem? (i := 523) (by decide +kernel)), (List.mem_of_getElem? (i := 524) (by decide +kernel))⟩
theorem lk_X5_130 : linkV RX5 130 mX5_fallDown := ⟨ok_mX5_fallDown, (List.mem_of_getElem? (i := 556) (by decide +kernel)), (List.mem_of_getElem? (i := 557) (by decide +kernel)), (List.mem_of_getElem? (i := 558) (by decide +kernel))⟩
theorem lk_X5_133 : linkV RX5 133 mX5_riseUp := ⟨ok_mX5_riseUp, (List.mem_of_getElem? (i := 561) (by decide +kernel)), (List.mem_of_getElem? (i := 562) (by decide +kernel)), (List.mem_of_getElem? (i := 563) (by decide +kernel))⟩
theorem lk_X5_136 : linkV RX5 136 mX3_reserve := ⟨ok_mX3_reserve, (List.mem_of_getElem? (i := 258) (by decide +kernel)), (List.mem_of_getElem? (i := 259) (by decide +kernel)), (List.mem_of_getElem? (i := 260) (by decide +kernel))⟩
theorem lk_X5_139 : linkV RX5 139 mX3_add := ⟨ok_mX3_add, (List.mem_of_getElem? (i := 279) (by decide +kernel)), (List.mem_of_getElem? (i := 280) (by decide +kernel)), (List.mem_of_getElem? (i := 281) (by decide +kernel))⟩
theorem lk_X5_142 : linkV RX5 142 mX3_set := ⟨ok_mX3_set, (List.mem_of_getElem? (i := 283) (by decide +kernel)), (List.mem_of_getElem? (i := 284) (by decide +kernel)), (List.mem_of_getElem? (i := 285) (by decide +kernel))⟩
theorem lk_X5_146 : linkV RX5 146 mX5_isBeyond := ⟨ok_mX5_isBeyond, (List.mem_of_getElem? (i := 211) (by decide +kernel)), (List.mem_of_getElem? (i := 212) (by decide +kernel)), (List.mem_of_getElem? (i := 213) (by decide +kernel))⟩
theorem lk_X5_150 : linkV RX5 150 mX5_isMissing := ⟨ok_mX5_isMissing, (List.mem_of_getElem? (i := 222) (by decide +kernel)), (List.mem_of_getElem? (i := 223) (by decide +kernel)), (List.mem_of_getElem? (i := 224) (by decide +kernel))⟩
theorem lk_X5_153 : linkV RX5 153 mX5_isDown := ⟨ok_mX5_isDown, (List.mem_of_getElem? (i := 238) (by decide +kernel)), (List.mem_of_getElem? (i := 239) (by decide +kernel)), (List.mem_of_getElem? (i := 240) (by decide +kernel))⟩
theorem lk_X5_157 : linkV RX5 157 mX5_isNotAsTold := ⟨ok_mX5_isNotAsTold, (List.mem_of_getElem? (i := 246) (by decide +kernel)), (List.mem_of_getElem? (i := 247) (by decide +kernel)), (List.mem_of_getElem? (i := 248) (by decide +kernel))⟩
theorem lk_X5_160 : linkV RX5 160 mX0_hasRoom := ⟨ok_mX0_hasRoom, (List.mem_of_getElem? (i := 250) (by decide +kernel)), (List.mem_of_getElem? (i := 251) (by decide +kernel)), (List.mem_of_getElem? (i := 252) (by decide +kernel))⟩
theorem lk_X5_164 : linkV RX5 164 mX0_hasLetter := ⟨ok_mX0_hasLetter, (List.mem_of_getElem? (i := 215) (by decide +kernel)), (List.mem_of_getElem? (i := 216) (by decide +kernel)), (List.mem_of_getElem? (i := 217) (by decide +kernel))⟩
theorem lk_X5_167 : linkV RX5 167 mX0_ofLetter := ⟨ok_mX0_ofLetter, (List.mem_of_getElem? (i := 226) (by decide +kernel)), (List.mem_of_getElem? (i := 227) (by decide +kernel)), (List.mem_of_getElem? (i := 228) (by decide +kernel))⟩
theorem lk_X5_171 : linkV RX5 171 mX5_upAt := ⟨ok_mX5_upAt, (List.mem_of_getElem? (i := 242) (by decide +kernel)), (List.mem_of_getElem? (i := 243) (by decide +kernel)), (List.mem_of_getElem? (i := 244) (by decide +kernel))⟩
theorem lk_X5_174 : linkV RX5 174 mX5_seat := ⟨ok_mX5_seat, (List.mem_of_getElem? (i := 296) (by decide +kernel)), (List.mem_of_getElem? (i := 297) (by decide +kernel)), (List.mem_of_getElem? (i := 298) (by decide +kernel))⟩
theorem lk_X5_177 : linkV RX5 177 mX1_begin := ⟨ok_mX1_begin, (List.mem_of_getElem? (i := 379) (by decide +kernel)), (List.mem_of_getElem? (i := 380) (by decide +kernel)), (List.mem_of_getElem? (i := 381) (by decide +kernel))⟩
theorem lk_X5_187 : linkV RX5 187 mX1_say := ⟨ok_mX1_say, (List.mem_of_getElem? (i := 495) (by decide +kernel)), (List.mem_of_getElem? (i := 393) (by decide +kernel)), (List.mem_of_getElem? (i := 394) (by decide +kernel))⟩
theorem lk_X5_190 : linkV RX5 190 mX1_stopAsking := ⟨ok_mX1_stopAsking, (List.mem_of_getElem? (i := 496) (by decide +kernel)), (List.mem_of_getElem? (i := 389) (by decide +kernel)), (List.mem_of_getElem? (i := 390) (by decide +kernel))⟩
theorem lk_X5_193 : linkV RX5 193 mX5_sendDrawn := ⟨ok_mX5_sendDrawn, (List.mem_of_getElem? (i := 497) (by decide +kernel)), (List.mem_of_getElem? (i := 498) (by decide +kernel)), (List.mem_of_getElem? (i := 499) (by decide +kernel))⟩
theorem lk_X5_197 : linkV RX5 197 mX1_forgetAll := ⟨ok_mX1_forgetAll, (List.mem_of_getElem? (i := 560) (by decide +kernel)), (List.mem_of_getElem? (i := 384) (by decide +kernel)), (List.mem_of_getElem? (i := 385) (by decide +kernel))⟩
theorem lk_X5_200 : linkV RX5 200 mX1_raiseTerm := ⟨ok_mX1_raiseTerm, (List.mem_of_getElem? (i := 565) (by decide +kernel)), (List.mem_of_getElem? (i := 434) (by decide +kernel)), (List.mem_of_getElem? (i := 435) (by decide +kernel))⟩
theorem lk_X5_206 : linkV RX5 206 mX5_endOldDoubts := ⟨ok_mX5_endOldDoubts, (List.mem_of_getElem? (i := 526) (by decide +kernel)), (List.mem_of_getElem? (i := 527) (by decide +kernel)), (List.mem_of_getElem? (i := 528) (by decide +kernel))⟩
theorem lk_X5_210 : linkV RX5 210 mX5_doubtUnanswered := ⟨ok_mX5_doubtUnanswered, (List.mem_of_getElem? (i := 530) (by decide +kernel)), (List.mem_of_getElem? (i := 531) (by decide +kernel)), (List.mem_of_getElem? (i := 532) (by decide +kernel))⟩
theorem lk_X5_219 : linkV RX5 219 mX5_askNext := ⟨ok_mX5_askNext, (List.mem_of_getElem? (i := 534) (by decide +kernel)), (List.mem_of_getElem? (i := 535) (by decide +kernel)), (List.mem_of_getElem? (i := 536) (by decide +kernel))⟩
theorem lk_X5_225 : linkV RX5 225 mX5_tally := ⟨ok_mX5_tally, (List.mem_of_getElem? (i := 425) (by decide +kernel)), (List.mem_of_getElem? (i := 426) (by decide +kernel)), (List.mem_of_getElem? (i := 427) (by decide +kernel))⟩
theorem lk_X5_234 : linkV RX5 234 mX1_nextPlace := ⟨ok_mX1_nextPlace, (List.mem_of_getElem? (i := 538) (by decide +kernel)), (List.mem_of_getElem? (i := 539) (by decide +kernel)), (List.mem_of_getElem? (i := 540) (by decide +kernel))⟩
theorem lk_X5_237 : linkV RX5 237 mX1_makeRound := ⟨ok_mX1_makeRound, (List.mem_of_getElem? (i := 542) (by decide +kernel)), (List.mem_of_getElem? (i := 543) (by decide +kernel)), (List.mem_of_getElem? (i := 544) (by decide +kernel))⟩
theorem lk_X5_240 : linkV RX5 240 mX1_stepRound := ⟨ok_mX1_stepRound, (List.mem_of_getElem? (i := 551) (by decide +kernel)), (List.mem_of_getElem? (i := 552) (by decide +kernel)), (List.mem_of_getElem? (i := 553) (by decide +kernel))⟩
theorem lk_X5_243 : linkV RX5 243 mX1_gatherLiving := ⟨ok_mX1_gatherLiving, (List.mem_of_getElem? (i := 501) (by decide +kernel)), (List.mem_of_getElem? (i := 502) (by decide +kernel)), (List.mem_of_getElem? (i := 503) (by decide +kernel))⟩
theorem lk_X5_247 : linkV RX5 247 mX1_draw := ⟨ok_mX1_draw, (List.mem_of_getElem? (i := 509) (by decide +kernel)), (List.mem_of_getElem? (i := 510) (by decide +kernel)), (List.mem_of_getElem? (i := 511) (by decide +kernel))⟩
theorem lk_X5_256 : linkV RX5 256 mX0_open := ⟨ok_mX0_open, (List.mem_of_getElem? (i := 450) (by decide +kernel)), (List.mem_of_getElem? (i := 451) (by decide +kernel)), (List.mem_of_getElem? (i := 452) (by decide +kernel))⟩
theorem lk_X5_260 : linkV RX5 260 mX1_pickAll := ⟨ok_mX1_pickAll, (List.mem_of_getElem? (i := 455) (by decide +kernel)), (List.mem_of_getElem? (i := 456) (by decide +kernel)), (List.mem_of_getElem? (i := 457) (by decide +kernel))⟩
theorem lk_X5_264 : linkV RX5 264 mX1_pickFreshest := ⟨ok_mX1_pickFreshest, (List.mem_of_getElem? (i := 459) (by decide +kernel)), (List.mem_of_getElem? (i := 460) (by decide +kernel)), (List.mem_of_getElem? (i := 461) (by decide +kernel))⟩
theorem lk_X5_270 : linkV RX5 270 mX0_put := ⟨ok_mX0_put, (List.mem_of_getElem? (i := 467) (by decide +kernel)), (List.mem_of_getElem? (i := 468) (by decide +kernel)), (List.mem_of_getElem? (i := 469) (by decide +kernel))⟩
theorem lk_X5_277 : linkV RX5 277 mX5_isCut := ⟨ok_mX5_isCut, (List.mem_of_getElem? (i := 404) (by decide +kernel)), (List.mem_of_getElem? (i := 405) (by decide +kernel)), (List.mem_of_getElem? (i := 406) (by decide +kernel))⟩
theorem lk_X5_280 : linkV RX5 280 mX0_endAsDelivered := ⟨ok_mX0_endAsDelivered, (List.mem_of_getElem? (i := 413) (by decide +kernel)), (List.mem_of_getElem? (i := 414) (by decide +kernel)), (List.mem_of_getElem? (i := 415) (by decide +kernel))⟩
theorem lk_X5_283 : linkV RX5 283 mX5_takeNews := ⟨ok_mX5_takeNews, (List.mem_of_getElem? (i := 417) (by decide +kernel)), (List.mem_of_getElem? (i := 418) (by decide +kernel)), (List.mem_of_getElem? (i := 419) (by decide +kernel))⟩
theorem lk_X5_287 : linkV RX5 287 mX5_respond := ⟨ok_mX5_respond, (List.mem_of_getElem? (i := 442) (by decide +kernel)), (List.mem_of_getElem? (i := 443) (by decide +kernel)), (List.mem_of_getElem? (i := 444) (by decide +kernel))⟩
theorem lk_X5_291 : linkV RX5 291 mX0_ofPiece := ⟨ok_mX0_ofPiece, (List.mem_of_getElem? (i := 421) (by decide +kernel)), (List.mem_of_getElem? (i := 422) (by decide +kernel)), (List.mem_of_getElem? (i := 423) (by decide +kernel))⟩
theorem lk_X5_294 : linkV RX5 294 mX1_takePiece := ⟨ok_mX1_takePiece, (List.mem_of_getElem? (i := 429) (by decide +kernel)), (List.mem_of_getElem? (i := 430) (by decide +kernel)), (List.mem_of_getElem? (i := 431) (by decide +kernel))⟩
theorem lk_X5_298 : linkV RX5 298 mX1_isAnswered := ⟨ok_mX1_isAnswered, (List.mem_of_getElem? (i := 471) (by decide +kernel)), (List.mem_of_getElem? (i := 472) (by decide +kernel)), (List.mem_of_getElem? (i := 473) (by decide +kernel))⟩
theorem lk_X5_301 : linkV RX5 301 mX5_firstUp := ⟨ok_mX5_firstUp, (List.mem_of_getElem? (i := 704) (by decide +kernel)), (List.mem_of_getElem? (i := 705) (by decide +kernel)), (List.mem_of_getElem? (i := 706) (by decide +kernel))⟩
theorem lk_X5_305 : linkV RX5 305 mX1_differsIn := ⟨ok_mX1_differsIn, (List.mem_of_getElem? (i := 708) (by decide +kernel)), (List.mem_of_getElem? (i := 709) (by decide +kernel)), (List.mem_of_getElem? (i := 710) (by decide +kernel))⟩
theorem lk_X5_308 : linkV RX5 308 mX1_become := ⟨ok_mX1_become, (List.mem_of_getElem? (i := 817) (by decide +kernel)), (List.mem_of_getElem? (i := 818) (by decide +kernel)), (List.mem_of_getElem? (i := 819) (by decide +kernel))⟩
theorem lk_X5_311 : linkV RX5 311 mX0_become := ⟨ok_mX0_become, (List.mem_of_getElem? (i := 822) (by decide +kernel)), (List.mem_of_getElem? (i := 823) (by decide +kernel)), (List.mem_of_getElem? (i := 824) (by decide +kernel))⟩
theorem lk_X5_314 : linkV RX5 314 mX3_become := ⟨ok_mX3_become, (List.mem_of_getElem? (i := 832) (by decide +kernel)), (List.mem_of_getElem? (i := 827) (by decide +kernel)), (List.mem_of_getElem? (i := 828) (by decide +kernel))⟩
theorem lk_X5_317 : linkV RX5 317 mX1_sameAs := ⟨ok_mX1_sameAs, (List.mem_of_getElem? (i := 793) (by decide +kernel)), (List.mem_of_getElem? (i := 794) (by decide +kernel)), (List.mem_of_getElem? (i := 795) (by decide +kernel))⟩
theorem lk_X5_321 : linkV RX5 321 mX0_sameAs := ⟨ok_mX0_sameAs, (List.mem_of_getElem? (i := 800) (by decide +kernel)), (List.mem_of_getElem? (i := 801) (by decide +kernel)), (List.mem_of_getElem? (i := 802) (by decide +kernel))⟩
theorem ln_X5_9 : linkNew RX5 9 1 [.int 0, .int 0, .int 0, .long 0, .int 0, .int 0, .int 0, .int 0, .null, .null, .null, .null, .null, .null, .int 0, .int 0] := ⟨RX1, TX1, 16, tyX1, cf1, (List.mem_of_getElem? (i := 64) (by decide +kernel)), rfl, by decide +kernel⟩
theorem ln_X5_25 : linkNew RX5 25 0 [.null, .null, .int 0, .int 0] := ⟨RX0, TX0, 4, tyX0, cf0, (List.mem_of_getElem? (i := 66) (by decide +kernel)), rfl, by decide +kernel⟩
theorem ln_X5_32 : linkNew RX5 32 3 [.int 0, .int 0, .null, .int 0] := ⟨RX3, TX3, 4, tyX3, cf3, (List.mem_of_getElem? (i := 115) (by decide +kernel)), rfl, by decide +kernel⟩
theorem lk_L_9 : linkI RL 9 mX6_init := ⟨ok_mX6_init, (List.mem_of_getElem? (i := 52) (by decide +kernel)), (List.mem_of_getElem? (i := 53) (by decide +kernel)), rfl, rfl⟩
theorem lk_L_12 : linkI RL 12 mX7_init := ⟨ok_mX7_init, (List.mem_of_getElem? (i := 855) (by decide +kernel)), (List.mem_of_getElem? (i := 856) (by decide +kernel)), rfl, rfl⟩
theorem lk_L_15 : linkV RL 15 mX6_member := ⟨ok_mX6_member, (List.mem_of_getElem? (i := 199) (by decide +kernel)), (List.mem_of_getElem? (i := 200) (by decide +kernel)), (List.mem_of_getElem? (i := 201) (by decide +kernel))⟩
theorem lk_L_19 : linkV RL 19 mX7_member := ⟨ok_mX7_member, (List.mem_of_getElem? (i := 910) (by decide +kernel)), (List.mem_of_getElem? (i := 911) (by decide +kernel)), (List.mem_of_getElem? (i := 912) (by decide +kernel))⟩
theorem lk_L_20 : linkV RL 20 mX6_join := ⟨ok_mX6_join, (List.mem_of_getElem? (i := 578) (by decide +kernel)), (List.mem_of_getElem? (i := 579) (by decide +kernel)), (List.mem_of_getElem? (i := 580) (by decide +kernel))⟩
theorem lk_L_24 : linkV RL 24 mX7_join := ⟨ok_mX7_join, (List.mem_of_getElem? (i := 955) (by decide +kernel)), (List.mem_of_getElem? (i := 956) (by decide +kernel)), (List.mem_of_getElem? (i := 957) (by decide +kernel))⟩
theorem lk_L_25 : linkV RL 25 mX6_leave := ⟨ok_mX6_leave, (List.mem_of_getElem? (i := 582) (by decide +kernel)), (List.mem_of_getElem? (i := 583) (by decide +kernel)), (List.mem_of_getElem? (i := 584) (by decide +kernel))⟩
theorem lk_L_29 : linkV RL 29 mX7_leave := ⟨ok_mX7_leave, (List.mem_of_getElem? (i := 981) (by decide +kernel)), (List.mem_of_getElem? (i := 982) (by decide +kernel)), (List.mem_of_getElem? (i := 983) (by decide +kernel))⟩
theorem lk_L_30 : linkV RL 30 mX6_turn := ⟨ok_mX6_turn, (List.mem_of_getElem? (i := 586) (by decide +kernel)), (List.mem_of_getElem? (i := 587) (by decide +kernel)), (List.mem_of_getElem? (i := 588) (by decide +kernel))⟩
theorem lk_L_33 : linkV RL 33 mX7_turn := ⟨ok_mX7_turn, (List.mem_of_getElem? (i := 1007) (by decide +kernel)), (List.mem_of_getElem? (i := 1008) (by decide +kernel)), (List.mem_of_getElem? (i := 1009) (by decide +kernel))⟩
theorem lk_L_34 : linkV RL 34 mX6_fall := ⟨ok_mX6_fall, (List.mem_of_getElem? (i := 590) (by decide +kernel)), (List.mem_of_getElem? (i := 591) (by decide +kernel)), (List.mem_of_getElem? (i := 592) (by decide +kernel))⟩
theorem lk_L_37 : linkV RL 37 mX7_fall := ⟨ok_mX7_fall, (List.mem_of_getElem? (i := 1027) (by decide +kernel)), (List.mem_of_getElem? (i := 1028) (by decide +kernel)), (List.mem_of_getElem? (i := 1029) (by decide +kernel))⟩
theorem lk_L_38 : linkV RL 38 mX6_rise := ⟨ok_mX6_rise, (List.mem_of_getElem? (i := 594) (by decide +kernel)), (List.mem_of_getElem? (i := 595) (by decide +kernel)), (List.mem_of_getElem? (i := 596) (by decide +kernel))⟩
theorem lk_L_41 : linkV RL 41 mX7_rise := ⟨ok_mX7_rise, (List.mem_of_getElem? (i := 1031) (by decide +kernel)), (List.mem_of_getElem? (i := 1032) (by decide +kernel)), (List.mem_of_getElem? (i := 1033) (by decide +kernel))⟩
theorem lk_L_42 : linkV RL 42 mX6_deliver := ⟨ok_mX6_deliver, (List.mem_of_getElem? (i := 598) (by decide +kernel)), (List.mem_of_getElem? (i := 599) (by decide +kernel)), (List.mem_of_getElem? (i := 600) (by decide +kernel))⟩
theorem lk_L_45 : linkV RL 45 mX7_deliver := ⟨ok_mX7_deliver, (List.mem_of_getElem? (i := 1035) (by decide +kernel)), (List.mem_of_getElem? (i := 1036) (by decide +kernel)), (List.mem_of_getElem? (i := 1037) (by decide +kernel))⟩
theorem lk_L_46 : linkV RL 46 mX6_lose := ⟨ok_mX6_lose, (List.mem_of_getElem? (i := 602) (by decide +kernel)), (List.mem_of_getElem? (i := 603) (by decide +kernel)), (List.mem_of_getElem? (i := 604) (by decide +kernel))⟩
theorem lk_L_49 : linkV RL 49 mX7_lose := ⟨ok_mX7_lose, (List.mem_of_getElem? (i := 1063) (by decide +kernel)), (List.mem_of_getElem? (i := 1064) (by decide +kernel)), (List.mem_of_getElem? (i := 1065) (by decide +kernel))⟩
theorem lk_L_50 : linkV RL 50 mX6_twice := ⟨ok_mX6_twice, (List.mem_of_getElem? (i := 606) (by decide +kernel)), (List.mem_of_getElem? (i := 607) (by decide +kernel)), (List.mem_of_getElem? (i := 608) (by decide +kernel))⟩
theorem lk_L_53 : linkV RL 53 mX7_twice := ⟨ok_mX7_twice, (List.mem_of_getElem? (i := 1071) (by decide +kernel)), (List.mem_of_getElem? (i := 1072) (by decide +kernel)), (List.mem_of_getElem? (i := 1073) (by decide +kernel))⟩
theorem lk_L_54 : linkV RL 54 mX6_cut := ⟨ok_mX6_cut, (List.mem_of_getElem? (i := 610) (by decide +kernel)), (List.mem_of_getElem? (i := 611) (by decide +kernel)), (List.mem_of_getElem? (i := 612) (by decide +kernel))⟩
theorem lk_L_57 : linkV RL 57 mX7_cut := ⟨ok_mX7_cut, (List.mem_of_getElem? (i := 1075) (by decide +kernel)), (List.mem_of_getElem? (i := 1076) (by decide +kernel)), (List.mem_of_getElem? (i := 1077) (by decide +kernel))⟩
theorem lk_L_58 : linkV RL 58 mX6_heal := ⟨ok_mX6_heal, (List.mem_of_getElem? (i := 614) (by decide +kernel)), (List.mem_of_getElem? (i := 615) (by decide +kernel)), (List.mem_of_getElem? (i := 616) (by decide +kernel))⟩
theorem lk_L_61 : linkV RL 61 mX7_heal := ⟨ok_mX7_heal, (List.mem_of_getElem? (i := 1083) (by decide +kernel)), (List.mem_of_getElem? (i := 1084) (by decide +kernel)), (List.mem_of_getElem? (i := 1085) (by decide +kernel))⟩
theorem lk_L_62 : linkV RL 62 mX6_letters := ⟨ok_mX6_letters, (List.mem_of_getElem? (i := 618) (by decide +kernel)), (List.mem_of_getElem? (i := 619) (by decide +kernel)), (List.mem_of_getElem? (i := 620) (by decide +kernel))⟩
theorem lk_L_65 : linkV RL 65 mX7_letters := ⟨ok_mX7_letters, (List.mem_of_getElem? (i := 1087) (by decide +kernel)), (List.mem_of_getElem? (i := 1088) (by decide +kernel)), (List.mem_of_getElem? (i := 1089) (by decide +kernel))⟩
theorem lk_L_66 : linkV RL 66 mX6_underWay := ⟨ok_mX6_underWay, (List.mem_of_getElem? (i := 627) (by decide +kernel)), (List.mem_of_getElem? (i := 628) (by decide +kernel)), (List.mem_of_getElem? (i := 629) (by decide +kernel))⟩
theorem lk_L_69 : linkV RL 69 mX7_underWay := ⟨ok_mX7_underWay, (List.mem_of_getElem? (i := 1095) (by decide +kernel)), (List.mem_of_getElem? (i := 1096) (by decide +kernel)), (List.mem_of_getElem? (i := 1097) (by decide +kernel))⟩
theorem lk_L_70 : linkV RL 70 mX6_letter := ⟨ok_mX6_letter, (List.mem_of_getElem? (i := 635) (by decide +kernel)), (List.mem_of_getElem? (i := 636) (by decide +kernel)), (List.mem_of_getElem? (i := 637) (by decide +kernel))⟩
theorem lk_L_73 : linkV RL 73 mX7_letter := ⟨ok_mX7_letter, (List.mem_of_getElem? (i := 1099) (by decide +kernel)), (List.mem_of_getElem? (i := 1100) (by decide +kernel)), (List.mem_of_getElem? (i := 1101) (by decide +kernel))⟩
theorem lk_L_74 : linkV RL 74 mX6_carries := ⟨ok_mX6_carries, (List.mem_of_getElem? (i := 641) (by decide +kernel)), (List.mem_of_getElem? (i := 642) (by decide +kernel)), (List.mem_of_getElem? (i := 643) (by decide +kernel))⟩
theorem lk_L_78 : linkV RL 78 mX7_carries := ⟨ok_mX7_carries, (List.mem_of_getElem? (i := 1104) (by decide +kernel)), (List.mem_of_getElem? (i := 1105) (by decide +kernel)), (List.mem_of_getElem? (i := 1106) (by decide +kernel))⟩
theorem lk_L_79 : linkV RL 79 mX6_state := ⟨ok_mX6_state, (List.mem_of_getElem? (i := 646) (by decide +kernel)), (List.mem_of_getElem? (i := 647) (by decide +kernel)), (List.mem_of_getElem? (i := 648) (by decide +kernel))⟩
theorem lk_L_82 : linkV RL 82 mX7_state := ⟨ok_mX7_state, (List.mem_of_getElem? (i := 1109) (by decide +kernel)), (List.mem_of_getElem? (i := 1110) (by decide +kernel)), (List.mem_of_getElem? (i := 1111) (by decide +kernel))⟩
theorem lk_L_83 : linkV RL 83 mX6_news := ⟨ok_mX6_news, (List.mem_of_getElem? (i := 659) (by decide +kernel)), (List.mem_of_getElem? (i := 660) (by decide +kernel)), (List.mem_of_getElem? (i := 661) (by decide +kernel))⟩
theorem lk_L_86 : linkV RL 86 mX7_news := ⟨ok_mX7_news, (List.mem_of_getElem? (i := 1114) (by decide +kernel)), (List.mem_of_getElem? (i := 1115) (by decide +kernel)), (List.mem_of_getElem? (i := 1116) (by decide +kernel))⟩
theorem lk_L_87 : linkV RL 87 mX6_as := ⟨ok_mX6_as, (List.mem_of_getElem? (i := 671) (by decide +kernel)), (List.mem_of_getElem? (i := 672) (by decide +kernel)), (List.mem_of_getElem? (i := 673) (by decide +kernel))⟩
theorem lk_L_90 : linkV RL 90 mX7_as := ⟨ok_mX7_as, (List.mem_of_getElem? (i := 1122) (by decide +kernel)), (List.mem_of_getElem? (i := 1123) (by decide +kernel)), (List.mem_of_getElem? (i := 1124) (by decide +kernel))⟩
theorem lk_L_91 : linkV RL 91 mX6_round := ⟨ok_mX6_round, (List.mem_of_getElem? (i := 675) (by decide +kernel)), (List.mem_of_getElem? (i := 676) (by decide +kernel)), (List.mem_of_getElem? (i := 677) (by decide +kernel))⟩
theorem lk_L_94 : linkV RL 94 mX7_round := ⟨ok_mX7_round, (List.mem_of_getElem? (i := 1126) (by decide +kernel)), (List.mem_of_getElem? (i := 1127) (by decide +kernel)), (List.mem_of_getElem? (i := 1128) (by decide +kernel))⟩
theorem lk_L_95 : linkV RL 95 mX6_next := ⟨ok_mX6_next, (List.mem_of_getElem? (i := 679) (by decide +kernel)), (List.mem_of_getElem? (i := 680) (by decide +kernel)), (List.mem_of_getElem? (i := 681) (by decide +kernel))⟩
theorem lk_L_98 : linkV RL 98 mX7_next := ⟨ok_mX7_next, (List.mem_of_getElem? (i := 1130) (by decide +kernel)), (List.mem_of_getElem? (i := 1131) (by decide +kernel)), (List.mem_of_getElem? (i := 1132) (by decide +kernel))⟩
theorem lk_L_99 : linkV RL 99 mX6_copy := ⟨ok_mX6_copy, (List.mem_of_getElem? (i := 687) (by decide +kernel)), (List.mem_of_getElem? (i := 688) (by decide +kernel)), (List.mem_of_getElem? (i := 689) (by decide +kernel))⟩
theorem lk_L_103 : linkV RL 103 mX7_copy := ⟨ok_mX7_copy, (List.mem_of_getElem? (i := 1134) (by decide +kernel)), (List.mem_of_getElem? (i := 1135) (by decide +kernel)), (List.mem_of_getElem? (i := 1136) (by decide +kernel))⟩
theorem lk_L_104 : linkV RL 104 mX6_table := ⟨ok_mX6_table, (List.mem_of_getElem? (i := 692) (by decide +kernel)), (List.mem_of_getElem? (i := 693) (by decide +kernel)), (List.mem_of_getElem? (i := 694) (by decide +kernel))⟩
theorem lk_L_107 : linkV RL 107 mX7_table := ⟨ok_mX7_table, (List.mem_of_getElem? (i := 1139) (by decide +kernel)), (List.mem_of_getElem? (i := 1140) (by decide +kernel)), (List.mem_of_getElem? (i := 1141) (by decide +kernel))⟩
theorem lk_L_108 : linkV RL 108 mX6_agree := ⟨ok_mX6_agree, (List.mem_of_getElem? (i := 696) (by decide +kernel)), (List.mem_of_getElem? (i := 697) (by decide +kernel)), (List.mem_of_getElem? (i := 698) (by decide +kernel))⟩
theorem lk_L_112 : linkV RL 112 mX7_agree := ⟨ok_mX7_agree, (List.mem_of_getElem? (i := 1144) (by decide +kernel)), (List.mem_of_getElem? (i := 1145) (by decide +kernel)), (List.mem_of_getElem? (i := 1146) (by decide +kernel))⟩
theorem lk_L_113 : linkV RL 113 mX6_apart := ⟨ok_mX6_apart, (List.mem_of_getElem? (i := 712) (by decide +kernel)), (List.mem_of_getElem? (i := 713) (by decide +kernel)), (List.mem_of_getElem? (i := 714) (by decide +kernel))⟩
theorem lk_L_116 : linkV RL 116 mX7_apart := ⟨ok_mX7_apart, (List.mem_of_getElem? (i := 1156) (by decide +kernel)), (List.mem_of_getElem? (i := 1157) (by decide +kernel)), (List.mem_of_getElem? (i := 1158) (by decide +kernel))⟩
theorem lk_L_117 : linkV RL 117 mX6_count := ⟨ok_mX6_count, (List.mem_of_getElem? (i := 716) (by decide +kernel)), (List.mem_of_getElem? (i := 717) (by decide +kernel)), (List.mem_of_getElem? (i := 718) (by decide +kernel))⟩
theorem lk_L_120 : linkV RL 120 mX7_count := ⟨ok_mX7_count, (List.mem_of_getElem? (i := 1161) (by decide +kernel)), (List.mem_of_getElem? (i := 1162) (by decide +kernel)), (List.mem_of_getElem? (i := 1163) (by decide +kernel))⟩
theorem lk_L_121 : linkV RL 121 mX6_way := ⟨ok_mX6_way, (List.mem_of_getElem? (i := 725) (by decide +kernel)), (List.mem_of_getElem? (i := 726) (by decide +kernel)), (List.mem_of_getElem? (i := 727) (by decide +kernel))⟩
theorem lk_L_124 : linkV RL 124 mX7_way := ⟨ok_mX7_way, (List.mem_of_getElem? (i := 1165) (by decide +kernel)), (List.mem_of_getElem? (i := 1166) (by decide +kernel)), (List.mem_of_getElem? (i := 1167) (by decide +kernel))⟩
theorem lk_L_125 : linkV RL 125 mX6_wayAt := ⟨ok_mX6_wayAt, (List.mem_of_getElem? (i := 744) (by decide +kernel)), (List.mem_of_getElem? (i := 745) (by decide +kernel)), (List.mem_of_getElem? (i := 746) (by decide +kernel))⟩
theorem lk_L_128 : linkV RL 128 mX7_wayAt := ⟨ok_mX7_wayAt, (List.mem_of_getElem? (i := 1173) (by decide +kernel)), (List.mem_of_getElem? (i := 1174) (by decide +kernel)), (List.mem_of_getElem? (i := 1175) (by decide +kernel))⟩
theorem lk_L_129 : linkV RL 129 mX6_forge := ⟨ok_mX6_forge, (List.mem_of_getElem? (i := 748) (by decide +kernel)), (List.mem_of_getElem? (i := 749) (by decide +kernel)), (List.mem_of_getElem? (i := 750) (by decide +kernel))⟩
theorem lk_L_132 : linkV RL 132 mX7_forge := ⟨ok_mX7_forge, (List.mem_of_getElem? (i := 1181) (by decide +kernel)), (List.mem_of_getElem? (i := 1182) (by decide +kernel)), (List.mem_of_getElem? (i := 1183) (by decide +kernel))⟩
theorem lk_L_133 : linkV RL 133 mX6_check := ⟨ok_mX6_check, (List.mem_of_getElem? (i := 752) (by decide +kernel)), (List.mem_of_getElem? (i := 753) (by decide +kernel)), (List.mem_of_getElem? (i := 754) (by decide +kernel))⟩
theorem lk_L_136 : linkV RL 136 mX7_check := ⟨ok_mX7_check, (List.mem_of_getElem? (i := 1185) (by decide +kernel)), (List.mem_of_getElem? (i := 1186) (by decide +kernel)), (List.mem_of_getElem? (i := 1187) (by decide +kernel))⟩
theorem lk_L_137 : linkV RL 137 mX6_replay := ⟨ok_mX6_replay, (List.mem_of_getElem? (i := 771) (by decide +kernel)), (List.mem_of_getElem? (i := 772) (by decide +kernel)), (List.mem_of_getElem? (i := 773) (by decide +kernel))⟩
theorem lk_L_140 : linkV RL 140 mX7_replay := ⟨ok_mX7_replay, (List.mem_of_getElem? (i := 1193) (by decide +kernel)), (List.mem_of_getElem? (i := 1194) (by decide +kernel)), (List.mem_of_getElem? (i := 1195) (by decide +kernel))⟩
theorem lk_L_141 : linkV RL 141 mX6_image := ⟨ok_mX6_image, (List.mem_of_getElem? (i := 809) (by decide +kernel)), (List.mem_of_getElem? (i := 810) (by decide +kernel)), (List.mem_of_getElem? (i := 811) (by decide +kernel))⟩
theorem lk_L_144 : linkV RL 144 mX7_image := ⟨ok_mX7_image, (List.mem_of_getElem? (i := 1197) (by decide +kernel)), (List.mem_of_getElem? (i := 1198) (by decide +kernel)), (List.mem_of_getElem? (i := 1199) (by decide +kernel))⟩
theorem lk_L_145 : linkV RL 145 mX6_back := ⟨ok_mX6_back, (List.mem_of_getElem? (i := 833) (by decide +kernel)), (List.mem_of_getElem? (i := 834) (by decide +kernel)), (List.mem_of_getElem? (i := 835) (by decide +kernel))⟩
theorem lk_L_148 : linkV RL 148 mX7_back := ⟨ok_mX7_back, (List.mem_of_getElem? (i := 1201) (by decide +kernel)), (List.mem_of_getElem? (i := 1202) (by decide +kernel)), (List.mem_of_getElem? (i := 1203) (by decide +kernel))⟩
theorem lk_L_149 : linkV RL 149 mX6_trace := ⟨ok_mX6_trace, (List.mem_of_getElem? (i := 837) (by decide +kernel)), (List.mem_of_getElem? (i := 838) (by decide +kernel)), (List.mem_of_getElem? (i := 839) (by decide +kernel))⟩
theorem lk_L_152 : linkV RL 152 mX7_trace := ⟨ok_mX7_trace, (List.mem_of_getElem? (i := 1205) (by decide +kernel)), (List.mem_of_getElem? (i := 1206) (by decide +kernel)), (List.mem_of_getElem? (i := 1207) (by decide +kernel))⟩
theorem lk_L_153 : linkV RL 153 mX6_again := ⟨ok_mX6_again, (List.mem_of_getElem? (i := 841) (by decide +kernel)), (List.mem_of_getElem? (i := 842) (by decide +kernel)), (List.mem_of_getElem? (i := 843) (by decide +kernel))⟩
theorem lk_L_156 : linkV RL 156 mX7_again := ⟨ok_mX7_again, (List.mem_of_getElem? (i := 1209) (by decide +kernel)), (List.mem_of_getElem? (i := 1210) (by decide +kernel)), (List.mem_of_getElem? (i := 1211) (by decide +kernel))⟩
theorem lk_L_157 : linkV RL 157 mX6_status := ⟨ok_mX6_status, (List.mem_of_getElem? (i := 849) (by decide +kernel)), (List.mem_of_getElem? (i := 850) (by decide +kernel)), (List.mem_of_getElem? (i := 851) (by decide +kernel))⟩
theorem lk_L_160 : linkV RL 160 mX7_status := ⟨ok_mX7_status, (List.mem_of_getElem? (i := 1213) (by decide +kernel)), (List.mem_of_getElem? (i := 1214) (by decide +kernel)), (List.mem_of_getElem? (i := 1215) (by decide +kernel))⟩
theorem kc_L_13 : Cond.constantLong RL 13 (4294967295) ∈ lw_tbl := (List.mem_of_getElem? (i := 1219) (by decide +kernel))
theorem ln_L_7 : linkNew RL 7 6 [.null, .null, .null, .null, .null, .null, .null] := ⟨RX6, TX6, 7, tyX6, cf6, (List.mem_of_getElem? (i := 50) (by decide +kernel)), rfl, by decide +kernel⟩
theorem ln_L_10 : linkNew RL 10 7 [.null, .null, .null, .null, .int 0, .null, .null, .null, .null, .int 0, .int 0, .int 0, .null, .int 0, .int 0, .int 0] := ⟨RX7, TX7, 16, tyX7, cf7, (List.mem_of_getElem? (i := 853) (by decide +kernel)), rfl, by decide +kernel⟩
theorem fl_X7_8 : FL RX7 8 7 0 (.array .int) true := ⟨RX7, TX7, 16, tyX7, cf7, by decide, (List.mem_of_getElem? (i := 860) (by decide +kernel)), rfl, rfl, rfl⟩
theorem fl_X7_14 : FL RX7 14 7 1 (.array .int) true := ⟨RX7, TX7, 16, tyX7, cf7, by decide, (List.mem_of_getElem? (i := 861) (by decide +kernel)), rfl, rfl, rfl⟩
theorem fl_X7_17 : FL RX7 17 7 2 (.array .long) true := ⟨RX7, TX7, 16, tyX7, cf7, by decide, (List.mem_of_getElem? (i := 862) (by decide +kernel)), rfl, rfl, rfl⟩
theorem fl_X7_21 : FL RX7 21 7 3 (.array .long) true := ⟨RX7, TX7, 16, tyX7, cf7, by decide, (List.mem_of_getElem? (i := 863) (by decide +kernel)), rfl, rfl, rfl⟩
theorem fl_X7_24 : FL RX7 24 7 5 (.array .int) true := ⟨RX7, TX7, 16, tyX7, cf7, by decide, (List.mem_of_getElem? (i := 865) (by decide +kernel)), rfl, rfl, rfl⟩
theorem fl_X7_27 : FL RX7 27 7 6 (.array .int) true := ⟨RX7, TX7, 16, tyX7, cf7, by decide, (List.mem_of_getElem? (i := 866) (by decide +kernel)), rfl, rfl, rfl⟩
theorem fl_X7_30 : FL RX7 30 7 7 (.array .int) true := ⟨RX7, TX7, 16, tyX7, cf7, by decide, (List.mem_of_getElem? (i := 867) (by decide +kernel)), rfl, rfl, rfl⟩
theorem fl_X7_33 : FL RX7 33 7 8 (.array .int) true := ⟨RX7, TX7, 16, tyX7, cf7, by decide, (List.mem_of_getElem? (i := 868) (by decide +kernel)), rfl, rfl, rfl⟩
theorem fl_X7_36 : FL RX7 36 7 12 (.array .boolean) true := ⟨RX7, TX7, 16, tyX7, cf7, by decide, (List.mem_of_getElem? (i := 872) (by decide +kernel)), rfl, rfl, rfl⟩
theorem fl_X7_40 : FL RX7 40 7 10 .int false := ⟨RX7, TX7, 16, tyX7, cf7, by decide, (List.mem_of_getElem? (i := 870) (by decide +kernel)), rfl, rfl, rfl⟩
theorem fl_X7_96 : FL RX7 96 7 11 .int false := ⟨RX7, TX7, 16, tyX7, cf7, by decide, (List.mem_of_getElem? (i := 871) (by decide +kernel)), rfl, rfl, rfl⟩
theorem fl_X7_186 : FL RX7 186 7 13 .int false := ⟨RX7, TX7, 16, tyX7, cf7, by decide, (List.mem_of_getElem? (i := 873) (by decide +kernel)), rfl, rfl, rfl⟩
theorem fl_X7_189 : FL RX7 189 7 14 .int false := ⟨RX7, TX7, 16, tyX7, cf7, by decide, (List.mem_of_getElem? (i := 874) (by decide +kernel)), rfl, rfl, rfl⟩
theorem fl_X7_192 : FL RX7 192 7 15 .int false := ⟨RX7, TX7, 16, tyX7, cf7, by decide, (List.mem_of_getElem? (i := 875) (by decide +kernel)), rfl, rfl, rfl⟩
theorem fl_X7_200 : FL RX7 200 7 9 .int false := ⟨RX7, TX7, 16, tyX7, cf7, by decide, (List.mem_of_getElem? (i := 869) (by decide +kernel)), rfl, rfl, rfl⟩
theorem fl_X7_213 : FL RX7 213 7 4 .boolean false := ⟨RX7, TX7, 16, tyX7, cf7, by decide, (List.mem_of_getElem? (i := 864) (by decide +kernel)), rfl, rfl, rfl⟩
theorem lo_X7_1 : linkO RX7 1 := ⟨(List.mem_of_getElem? (i := 858) (by decide +kernel)), (List.mem_of_getElem? (i := 56) (by decide +kernel)), List.mem_of_getElem? (i := 57) (by decide +kernel)⟩
theorem lk_X7_44 : linkS RX7 44 mX7_newsAt := ⟨ok_mX7_newsAt, (List.mem_of_getElem? (i := 948) (by decide +kernel)), (List.mem_of_getElem? (i := 949) (by decide +kernel))⟩
theorem lk_X7_121 : linkS RX7 121 mX7_isMember := ⟨ok_mX7_isMember, (List.mem_of_getElem? (i := 914) (by decide +kernel)), (List.mem_of_getElem? (i := 915) (by decide +kernel))⟩
theorem lk_X7_165 : linkS RX7 165 mX7_isIn := ⟨ok_mX7_isIn, (List.mem_of_getElem? (i := 1092) (by decide +kernel)), (List.mem_of_getElem? (i := 1093) (by decide +kernel))⟩
theorem lk_X7_48 : linkV RX7 48 mX7_of := ⟨ok_mX7_of, (List.mem_of_getElem? (i := 925) (by decide +kernel)), (List.mem_of_getElem? (i := 927) (by decide +kernel)), (List.mem_of_getElem? (i := 4) (by decide +kernel))⟩
theorem lk_X7_59 : linkV RX7 59 mX7_ran := ⟨ok_mX7_ran, (List.mem_of_getElem? (i := 972) (by decide +kernel)), (List.mem_of_getElem? (i := 974) (by decide +kernel)), (List.mem_of_getElem? (i := 13) (by decide +kernel))⟩
theorem lk_X7_63 : linkV RX7 63 mX7_to := ⟨ok_mX7_to, (List.mem_of_getElem? (i := 936) (by decide +kernel)), (List.mem_of_getElem? (i := 938) (by decide +kernel)), (List.mem_of_getElem? (i := 6) (by decide +kernel))⟩
theorem lk_X7_67 : linkV RX7 67 mX7_writes := ⟨ok_mX7_writes, (List.mem_of_getElem? (i := 944) (by decide +kernel)), (List.mem_of_getElem? (i := 946) (by decide +kernel)), (List.mem_of_getElem? (i := 8) (by decide +kernel))⟩
theorem lk_X7_72 : linkV RX7 72 mX7_kindOf := ⟨ok_mX7_kindOf, (List.mem_of_getElem? (i := 963) (by decide +kernel)), (List.mem_of_getElem? (i := 965) (by decide +kernel)), (List.mem_of_getElem? (i := 11) (by decide +kernel))⟩
theorem lk_X7_75 : linkV RX7 75 mX7_carry := ⟨ok_mX7_carry, (List.mem_of_getElem? (i := 967) (by decide +kernel)), (List.mem_of_getElem? (i := 969) (by decide +kernel)), (List.mem_of_getElem? (i := 12) (by decide +kernel))⟩
theorem lk_X7_79 : linkV RX7 79 mX7_leastTold := ⟨ok_mX7_leastTold, (List.mem_of_getElem? (i := 977) (by decide +kernel)), (List.mem_of_getElem? (i := 979) (by decide +kernel)), (List.mem_of_getElem? (i := 14) (by decide +kernel))⟩
theorem lk_X7_83 : linkV RX7 83 mX7_letterOf := ⟨ok_mX7_letterOf, (List.mem_of_getElem? (i := 1047) (by decide +kernel)), (List.mem_of_getElem? (i := 1049) (by decide +kernel)), (List.mem_of_getElem? (i := 26) (by decide +kernel))⟩
theorem lk_X7_86 : linkV RX7 86 mX7_takes := ⟨ok_mX7_takes, (List.mem_of_getElem? (i := 1055) (by decide +kernel)), (List.mem_of_getElem? (i := 1057) (by decide +kernel)), (List.mem_of_getElem? (i := 28) (by decide +kernel))⟩
theorem lk_X7_89 : linkV RX7 89 mX7_send := ⟨ok_mX7_send, (List.mem_of_getElem? (i := 959) (by decide +kernel)), (List.mem_of_getElem? (i := 961) (by decide +kernel)), (List.mem_of_getElem? (i := 10) (by decide +kernel))⟩
theorem lk_X7_93 : linkV RX7 93 mX7_answered := ⟨ok_mX7_answered, (List.mem_of_getElem? (i := 1059) (by decide +kernel)), (List.mem_of_getElem? (i := 1061) (by decide +kernel)), (List.mem_of_getElem? (i := 29) (by decide +kernel))⟩
theorem lk_X7_99 : linkV RX7 99 mX7_isAround := ⟨ok_mX7_isAround, (List.mem_of_getElem? (i := 997) (by decide +kernel)), (List.mem_of_getElem? (i := 999) (by decide +kernel)), (List.mem_of_getElem? (i := 18) (by decide +kernel))⟩
theorem lk_X7_103 : linkV RX7 103 mX7_gather := ⟨ok_mX7_gather, (List.mem_of_getElem? (i := 993) (by decide +kernel)), (List.mem_of_getElem? (i := 995) (by decide +kernel)), (List.mem_of_getElem? (i := 17) (by decide +kernel))⟩
theorem lk_X7_106 : linkV RX7 106 mX7_draw := ⟨ok_mX7_draw, (List.mem_of_getElem? (i := 1001) (by decide +kernel)), (List.mem_of_getElem? (i := 1003) (by decide +kernel)), (List.mem_of_getElem? (i := 19) (by decide +kernel))⟩
theorem lk_X7_109 : linkV RX7 109 mX7_stillThere := ⟨ok_mX7_stillThere, (List.mem_of_getElem? (i := 1019) (by decide +kernel)), (List.mem_of_getElem? (i := 1021) (by decide +kernel)), (List.mem_of_getElem? (i := 22) (by decide +kernel))⟩
theorem lk_X7_112 : linkV RX7 112 mX7_mix := ⟨ok_mX7_mix, (List.mem_of_getElem? (i := 1023) (by decide +kernel)), (List.mem_of_getElem? (i := 1025) (by decide +kernel)), (List.mem_of_getElem? (i := 23) (by decide +kernel))⟩
theorem lk_X7_115 : linkV RX7 115 mX7_sendsThree := ⟨ok_mX7_sendsThree, (List.mem_of_getElem? (i := 989) (by decide +kernel)), (List.mem_of_getElem? (i := 991) (by decide +kernel)), (List.mem_of_getElem? (i := 16) (by decide +kernel))⟩
theorem lk_X7_118 : linkV RX7 118 mX7_nextOf := ⟨ok_mX7_nextOf, (List.mem_of_getElem? (i := 1015) (by decide +kernel)), (List.mem_of_getElem? (i := 1017) (by decide +kernel)), (List.mem_of_getElem? (i := 21) (by decide +kernel))⟩
theorem lk_X7_125 : linkV RX7 125 mX7_isMade := ⟨ok_mX7_isMade, (List.mem_of_getElem? (i := 921) (by decide +kernel)), (List.mem_of_getElem? (i := 923) (by decide +kernel)), (List.mem_of_getElem? (i := 3) (by decide +kernel))⟩
theorem lk_X7_128 : linkV RX7 128 mX7_isFull := ⟨ok_mX7_isFull, (List.mem_of_getElem? (i := 929) (by decide +kernel)), (List.mem_of_getElem? (i := 931) (by decide +kernel)), (List.mem_of_getElem? (i := 5) (by decide +kernel))⟩
theorem lk_X7_132 : linkV RX7 132 mX7_no := ⟨ok_mX7_no, (List.mem_of_getElem? (i := 917) (by decide +kernel)), (List.mem_of_getElem? (i := 919) (by decide +kernel)), (List.mem_of_getElem? (i := 2) (by decide +kernel))⟩
theorem lk_X7_135 : linkV RX7 135 mX7_goesQuiet := ⟨ok_mX7_goesQuiet, (List.mem_of_getElem? (i := 940) (by decide +kernel)), (List.mem_of_getElem? (i := 942) (by decide +kernel)), (List.mem_of_getElem? (i := 7) (by decide +kernel))⟩
theorem lk_X7_138 : linkV RX7 138 mX7_did := ⟨ok_mX7_did, (List.mem_of_getElem? (i := 951) (by decide +kernel)), (List.mem_of_getElem? (i := 953) (by decide +kernel)), (List.mem_of_getElem? (i := 9) (by decide +kernel))⟩
theorem lk_X7_141 : linkV RX7 141 mX7_why := ⟨ok_mX7_why, (List.mem_of_getElem? (i := 985) (by decide +kernel)), (List.mem_of_getElem? (i := 987) (by decide +kernel)), (List.mem_of_getElem? (i := 15) (by decide +kernel))⟩
theorem lk_X7_144 : linkV RX7 144 mX7_takesTurn := ⟨ok_mX7_takesTurn, (List.mem_of_getElem? (i := 1011) (by decide +kernel)), (List.mem_of_getElem? (i := 1013) (by decide +kernel)), (List.mem_of_getElem? (i := 20) (by decide +kernel))⟩
theorem lk_X7_147 : linkV RX7 147 mX7_isLetter := ⟨ok_mX7_isLetter, (List.mem_of_getElem? (i := 1043) (by decide +kernel)), (List.mem_of_getElem? (i := 1045) (by decide +kernel)), (List.mem_of_getElem? (i := 25) (by decide +kernel))⟩
theorem lk_X7_150 : linkV RX7 150 mX7_whyLetter := ⟨ok_mX7_whyLetter, (List.mem_of_getElem? (i := 1039) (by decide +kernel)), (List.mem_of_getElem? (i := 1041) (by decide +kernel)), (List.mem_of_getElem? (i := 24) (by decide +kernel))⟩
theorem lk_X7_153 : linkV RX7 153 mX7_comes := ⟨ok_mX7_comes, (List.mem_of_getElem? (i := 1051) (by decide +kernel)), (List.mem_of_getElem? (i := 1053) (by decide +kernel)), (List.mem_of_getElem? (i := 27) (by decide +kernel))⟩
theorem lk_X7_156 : linkV RX7 156 mX7_withState := ⟨ok_mX7_withState, (List.mem_of_getElem? (i := 1067) (by decide +kernel)), (List.mem_of_getElem? (i := 1069) (by decide +kernel)), (List.mem_of_getElem? (i := 30) (by decide +kernel))⟩
theorem lk_X7_159 : linkV RX7 159 mX7_links := ⟨ok_mX7_links, (List.mem_of_getElem? (i := 1079) (by decide +kernel)), (List.mem_of_getElem? (i := 1081) (by decide +kernel)), (List.mem_of_getElem? (i := 31) (by decide +kernel))⟩
theorem lk_X7_175 : linkV RX7 175 mX7_whyNews := ⟨ok_mX7_whyNews, (List.mem_of_getElem? (i := 1118) (by decide +kernel)), (List.mem_of_getElem? (i := 1120) (by decide +kernel)), (List.mem_of_getElem? (i := 32) (by decide +kernel))⟩
theorem lk_X7_182 : linkV RX7 182 mX7_differ := ⟨ok_mX7_differ, (List.mem_of_getElem? (i := 1152) (by decide +kernel)), (List.mem_of_getElem? (i := 1154) (by decide +kernel)), (List.mem_of_getElem? (i := 34) (by decide +kernel))⟩
theorem lk_X7_195 : linkV RX7 195 mX7_isApart := ⟨ok_mX7_isApart, (List.mem_of_getElem? (i := 1148) (by decide +kernel)), (List.mem_of_getElem? (i := 1150) (by decide +kernel)), (List.mem_of_getElem? (i := 33) (by decide +kernel))⟩
theorem lk_X7_203 : linkV RX7 203 mX7_pieceOf := ⟨ok_mX7_pieceOf, (List.mem_of_getElem? (i := 1169) (by decide +kernel)), (List.mem_of_getElem? (i := 1171) (by decide +kernel)), (List.mem_of_getElem? (i := 35) (by decide +kernel))⟩
theorem lk_X7_206 : linkV RX7 206 mX7_isStep := ⟨ok_mX7_isStep, (List.mem_of_getElem? (i := 1177) (by decide +kernel)), (List.mem_of_getElem? (i := 1179) (by decide +kernel)), (List.mem_of_getElem? (i := 36) (by decide +kernel))⟩
theorem lk_X7_209 : linkV RX7 209 mX7_stands := ⟨ok_mX7_stands, (List.mem_of_getElem? (i := 1189) (by decide +kernel)), (List.mem_of_getElem? (i := 1191) (by decide +kernel)), (List.mem_of_getElem? (i := 37) (by decide +kernel))⟩
theorem kc_X7_7 : Cond.constant RX7 7 (118735) ∈ lw_tbl := (List.mem_of_getElem? (i := 859) (by decide +kernel))
theorem kc_X7_51 : Cond.constant RX7 51 (118720) ∈ lw_tbl := (List.mem_of_getElem? (i := 933) (by decide +kernel))
theorem kc_X7_52 : Cond.constant RX7 52 (118721) ∈ lw_tbl := (List.mem_of_getElem? (i := 934) (by decide +kernel))
theorem kc_X7_53 : Cond.constant RX7 53 (118722) ∈ lw_tbl := (List.mem_of_getElem? (i := 935) (by decide +kernel))
theorem kc_X7_54 : Cond.constant RX7 54 (118723) ∈ lw_tbl := (List.mem_of_getElem? (i := 976) (by decide +kernel))
theorem kc_X7_71 : Cond.constant RX7 71 (38720) ∈ lw_tbl := (List.mem_of_getElem? (i := 971) (by decide +kernel))
theorem kc_X7_55 : Cond.constantLong RX7 55 (6364136223846793005) ∈ lw_tbl := (List.mem_of_getElem? (i := 1005) (by decide +kernel))
theorem kc_X7_57 : Cond.constantLong RX7 57 (1442695040888963407) ∈ lw_tbl := (List.mem_of_getElem? (i := 1006) (by decide +kernel))
theorem kc_X7_163 : Cond.constantLong RX7 163 (4) ∈ lw_tbl := (List.mem_of_getElem? (i := 1091) (by decide +kernel))
theorem kc_X7_169 : Cond.constantLong RX7 169 (6) ∈ lw_tbl := (List.mem_of_getElem? (i := 1103) (by decide +kernel))
theorem kc_X7_171 : Cond.constantLong RX7 171 (3) ∈ lw_tbl := (List.mem_of_getElem? (i := 1108) (by decide +kernel))
theorem kc_X7_173 : Cond.constantLong RX7 173 (11) ∈ lw_tbl := (List.mem_of_getElem? (i := 1113) (by decide +kernel))
theorem kc_X7_178 : Cond.constantLong RX7 178 (16) ∈ lw_tbl := (List.mem_of_getElem? (i := 1138) (by decide +kernel))
theorem kc_X7_180 : Cond.constantLong RX7 180 (15) ∈ lw_tbl := (List.mem_of_getElem? (i := 1143) (by decide +kernel))
theorem kc_X7_198 : Cond.constantLong RX7 198 (2) ∈ lw_tbl := (List.mem_of_getElem? (i := 1160) (by decide +kernel))
theorem kc_X7_217 : Cond.constantLong RX7 217 (-10) ∈ lw_tbl := (List.mem_of_getElem? (i := 1217) (by decide +kernel))
theorem kc_X7_219 : Cond.constantLong RX7 219 (-2) ∈ lw_tbl := (List.mem_of_getElem? (i := 1218) (by decide +kernel))
theorem lc_J7_150 : linkC RJ7 150 := ⟨(List.mem_of_getElem? (i := 276) (by decide +kernel)), (List.mem_of_getElem? (i := 278) (by decide +kernel)), (List.mem_of_getElem? (i := 277) (by decide +kernel)), (List.mem_of_getElem? (i := 48) (by decide +kernel))⟩
theorem lm_J7_304 : linkM RJ7 304 Lib.Math.min.name Lib.Math.min.code := ⟨(List.mem_of_getElem? (i := 275) (by decide +kernel)), (List.mem_of_getElem? (i := 263) (by decide +kernel)), (List.mem_of_getElem? (i := 43) (by decide +kernel)), List.mem_of_getElem? (i := 264) (by decide +kernel)⟩
theorem ka_int : Cond.arrayClass .int ∈ lw_tbl := (List.mem_of_getElem? (i := 98) (by decide +kernel))
theorem ka_long : Cond.arrayClass .long ∈ lw_tbl := (List.mem_of_getElem? (i := 97) (by decide +kernel))
theorem ka_boolean : Cond.arrayClass .boolean ∈ lw_tbl := (List.mem_of_getElem? (i := 909) (by decide +kernel))
