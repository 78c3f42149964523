/-! THE SMALL MACHINE: its words. Values: int, long, a cell (kind, length, number), nothing -/
abbrev Mem : Type := Nat → Int → Int
abbrev AV : Type := (Int ⊕ Int) ⊕ ((Nat × Nat × Nat) ⊕ Unit)
abbrev aI (x : Int) : AV := Sum.inl (Sum.inl x)
abbrev aL (x : Int) : AV := Sum.inl (Sum.inr x)
abbrev aR (k n a : Nat) : AV := Sum.inr (Sum.inl (k, n, a))
abbrev aU : AV := Sum.inr (Sum.inr ())
/-- an entry: its pc, its length, what it does, u, v, w, the pool's index -/
abbrev Ent : Type := Nat × Nat × Nat × Int × Nat × Nat × Nat
def up (M : Mem) (a : Nat) (i x : Int) : Mem := fun b j => if b = a ∧ j = i then x else M b j
def mdYL : List MethodName := [yX0_shape, yX0_markWays, yX0_hasCell, yX0_wayBits, yX0_inRow, yX0_bitsOf, yX0_knotsAmong, yX0_beside, yX0_hangsTogether, yX1_carryOut, yX1_start, yX1_tell, yX1_wrong, yX1_wrongGo, yX1_cellOf, yX1_isFree, yX1_anyDue, yX1_perform, yX1_awaitOpening, yX1_weigh, yX2_listAll, yX2_addWith, yX2_codeWith, yX2_placeOf, yX3_empty, yX3_copyFrom, yX3_hasQuay, yX3_hasLeg, yX3_hasBarge, yX3_quayPart, yX3_legPart, yX3_bargePart, yX3_quayNamed, yX3_bargeNamed, yX3_areApart, yX3_stopCount, yX3_downStop, yX3_quayOf, yX3_legBehind, yX3_goesUp, yX3_onStop, yX3_offStop, yX3_vainStop, yX3_openFrom, yX4_holdsTogether, yX4_keepsApart, yX4_hasRoom, yX4_measure, yX4_goThrough, yX4_goMinutes, yX5_prepare, yX5_weighAll, yX5_costPlace, yX5_leastMinutes, yX5_work, yX5_lookRound, yX5_sweep, yX5_move, yX5_depart, yX5_sail, yX6_seatAll, yX6_seat, yX6_goesUpWell, yX6_comeOff, yX6_dueAt, yX6_isClear, yX7_begin, yX7_takePlan, yX7_actPart, yX7_copyFrom, yX8_weigh, yX8_weighWay, yX9_withLetter, yX9_addFour, yX9_startText, yX9_advance, yX9_readRun, yX9_isLetter, yX9_isDigit, yX9_wordNumber, yX9_refuse, yX9_isWord, yX9_wantKind, yX9_takeNumber, yX9_takeSemicolon, yX10_readRiver, yX10_readLine, yX10_readQuay, yX10_readLeg, yX10_readBarge, yX10_readApart, yX10_readNewName, yX10_readQuayName, yX10_readSetting, yX10_readPlan, yX10_readAct, yX11_feed, yX11_end, yX11_river, yX11_fault, yX11_lay, yX11_layable, yX11_cell, yX11_knots, yX11_taking, yX11_takenBy, yX11_sound, yX11_fits, yX11_passes, yX11_passedBy, yX11_deep, yX11_water, yX11_plan, yX11_judge, yX11_judged, yX11_judgedAt, yX11_first, yX11_seatable, yX11_best, yX11_hired, yX11_hiredBy, yX11_vain, yX11_without, yX11_searchable, yX11_isMinute, yX11_image, yX11_restore, yX11_count, yX12_thrown, yX12_throwsIf, yX12_feed, yX12_four, yX12_end, yX12_taken, yX12_isIn, yX12_octet, yX12_plainRiver, yX12_peek, yX12_isSmall, yX12_isDigit, yX12_next, yX12_bad, yX12_isWord, yX12_isSign, yX12_sign, yX12_isName, yX12_takes, yX12_find, yX12_takesName, yX12_fresh, yX12_once, yX12_line, yX12_readQuay, yX12_readLeg, yX12_readBarge, yX12_river, yX12_fault, yX12_isQuay, yX12_isLeg, yX12_isBarge, yX12_last, yX12_goesUp, yX12_onStop, yX12_offStop, yX12_quay, yX12_leg, yX12_barge, yX12_cells, yX12_raft, yX12_lay, yX12_cell, yX12_beside, yX12_isKnot, yX12_knots, yX12_mark, yX12_take, yX12_taking, yX12_takenBy, yX12_isSound, yX12_isFit, yX12_isPassed, yX12_between, yX12_legTime, yX12_sound, yX12_fits, yX12_passes, yX12_passedBy, yX12_deep, yX12_water, yX12_act, yX12_plan, yX12_act_, yX12_quayOf, yX12_sideAt, yX12_legOf, yX12_wait, yX12_place, yX12_isDueOff, yX12_isDone, yX12_costs, yX12_does, yX12_goes, yX12_judge, yX12_judged, yX12_judgedAt, yX12_comesOff, yX12_isFree, yX12_first, yX12_unfold, yX12_digit, yX12_comes, yX12_spreads, yX12_isSettled, yX12_bestFrom, yX12_counts, yX12_best, yX12_hired, yX12_hiredBy, yX12_vain, yX12_without, yX12_image, yX12_restore, yX12_count, yJ6_bitCount_0f7a4, yJ9_max_7cf53, yJ9_min_7cf53, yJ7_fill_53178]
def mdBL : List ByteArray := [cX0_shape, cX0_markWays, cX0_hasCell, cX0_wayBits, cX0_inRow, cX0_bitsOf, cX0_knotsAmong, cX0_beside, cX0_hangsTogether, cX1_carryOut, cX1_start, cX1_tell, cX1_wrong, cX1_wrongGo, cX1_cellOf, cX1_isFree, cX1_anyDue, cX1_perform, cX1_awaitOpening, cX1_weigh, cX2_listAll, cX2_addWith, cX2_codeWith, cX2_placeOf, cX3_empty, cX3_copyFrom, cX3_hasQuay, cX3_hasLeg, cX3_hasBarge, cX3_quayPart, cX3_legPart, cX3_bargePart, cX3_quayNamed, cX3_bargeNamed, cX3_areApart, cX3_stopCount, cX3_downStop, cX3_quayOf, cX3_legBehind, cX3_goesUp, cX3_onStop, cX3_offStop, cX3_vainStop, cX3_openFrom, cX4_holdsTogether, cX4_keepsApart, cX4_hasRoom, cX4_measure, cX4_goThrough, cX4_goMinutes, cX5_prepare, cX5_weighAll, cX5_costPlace, cX5_leastMinutes, cX5_work, cX5_lookRound, cX5_sweep, cX5_move, cX5_depart, cX5_sail, cX6_seatAll, cX6_seat, cX6_goesUpWell, cX6_comeOff, cX6_dueAt, cX6_isClear, cX7_begin, cX7_takePlan, cX7_actPart, cX7_copyFrom, cX8_weigh, cX8_weighWay, cX9_withLetter, cX9_addFour, cX9_startText, cX9_advance, cX9_readRun, cX9_isLetter, cX9_isDigit, cX9_wordNumber, cX9_refuse, cX9_isWord, cX9_wantKind, cX9_takeNumber, cX9_takeSemicolon, cX10_readRiver, cX10_readLine, cX10_readQuay, cX10_readLeg, cX10_readBarge, cX10_readApart, cX10_readNewName, cX10_readQuayName, cX10_readSetting, cX10_readPlan, cX10_readAct, cX11_feed, cX11_end, cX11_river, cX11_fault, cX11_lay, cX11_layable, cX11_cell, cX11_knots, cX11_taking, cX11_takenBy, cX11_sound, cX11_fits, cX11_passes, cX11_passedBy, cX11_deep, cX11_water, cX11_plan, cX11_judge, cX11_judged, cX11_judgedAt, cX11_first, cX11_seatable, cX11_best, cX11_hired, cX11_hiredBy, cX11_vain, cX11_without, cX11_searchable, cX11_isMinute, cX11_image, cX11_restore, cX11_count, cX12_thrown, cX12_throwsIf, cX12_feed, cX12_four, cX12_end, cX12_taken, cX12_isIn, cX12_octet, cX12_plainRiver, cX12_peek, cX12_isSmall, cX12_isDigit, cX12_next, cX12_bad, cX12_isWord, cX12_isSign, cX12_sign, cX12_isName, cX12_takes, cX12_find, cX12_takesName, cX12_fresh, cX12_once, cX12_line, cX12_readQuay, cX12_readLeg, cX12_readBarge, cX12_river, cX12_fault, cX12_isQuay, cX12_isLeg, cX12_isBarge, cX12_last, cX12_goesUp, cX12_onStop, cX12_offStop, cX12_quay, cX12_leg, cX12_barge, cX12_cells, cX12_raft, cX12_lay, cX12_cell, cX12_beside, cX12_isKnot, cX12_knots, cX12_mark, cX12_take, cX12_taking, cX12_takenBy, cX12_isSound, cX12_isFit, cX12_isPassed, cX12_between, cX12_legTime, cX12_sound, cX12_fits, cX12_passes, cX12_passedBy, cX12_deep, cX12_water, cX12_act, cX12_plan, cX12_act_, cX12_quayOf, cX12_sideAt, cX12_legOf, cX12_wait, cX12_place, cX12_isDueOff, cX12_isDone, cX12_costs, cX12_does, cX12_goes, cX12_judge, cX12_judged, cX12_judgedAt, cX12_comesOff, cX12_isFree, cX12_first, cX12_unfold, cX12_digit, cX12_comes, cX12_spreads, cX12_isSettled, cX12_bestFrom, cX12_counts, cX12_best, cX12_hired, cX12_hiredBy, cX12_vain, cX12_without, cX12_image, cX12_restore, cX12_count, cJ6_bitCount_0f7a4, cJ9_max_7cf53, cJ9_min_7cf53, cJ7_fill_53178]
def mdLL : List Nat := [5, 6, 2, 3, 3, 4, 4, 3, 5, 3, 2, 2, 3, 2, 3, 4, 2, 6, 2, 2, 7, 4, 3, 3, 1, 2, 2, 2, 2, 3, 3, 3, 3, 3, 3, 1, 2, 2, 2, 2, 2, 2, 2, 5, 2, 5, 13, 4, 8, 5, 5, 4, 1, 5, 7, 3, 8, 11, 11, 6, 2, 4, 4, 6, 4, 4, 2, 3, 3, 2, 5, 11, 2, 3, 2, 2, 7, 1, 1, 3, 2, 2, 2, 5, 1, 1, 1, 3, 3, 4, 3, 3, 4, 2, 3, 4, 6, 2, 2, 1, 3, 4, 2, 1, 3, 2, 1, 2, 3, 1, 4, 2, 2, 2, 2, 2, 4, 4, 2, 6, 1, 3, 3, 3, 1, 2, 2, 2, 1, 2, 6, 3, 2, 2, 3, 2, 2, 1, 1, 1, 4, 2, 3, 2, 2, 3, 3, 4, 3, 1, 4, 1, 5, 3, 7, 2, 1, 2, 2, 2, 1, 2, 2, 2, 3, 3, 3, 1, 2, 5, 2, 3, 3, 3, 8, 14, 4, 2, 7, 10, 8, 4, 2, 1, 2, 2, 1, 4, 2, 3, 2, 3, 2, 2, 2, 5, 3, 2, 2, 3, 7, 2, 5, 2, 2, 7, 3, 4, 4, 3, 3, 11, 4, 7, 4, 2, 6, 1, 4, 3, 3, 3, 2, 1, 2, 2, 4]
def mdRL : List (Option FieldType) := [none, none, (some .boolean), (some .int), (some .int), (some .int), (some .int), (some .int), (some .boolean), (some .int), none, (some .int), (some .int), (some .int), (some .int), (some .boolean), (some .boolean), none, none, none, none, none, (some .int), (some .int), none, none, (some .boolean), (some .boolean), (some .boolean), (some .int), (some .int), (some .int), (some .int), (some .int), (some .boolean), (some .int), (some .int), (some .int), (some .int), (some .boolean), (some .int), (some .int), (some .int), (some .int), (some .boolean), (some .boolean), (some .boolean), none, (some .boolean), (some .int), none, none, (some .int), (some .int), none, none, (some .boolean), (some .boolean), (some .boolean), (some .int), (some .boolean), (some .boolean), (some .boolean), (some .boolean), (some .int), (some .boolean), none, none, (some .int), none, none, none, (some .int), none, none, none, none, (some .boolean), (some .boolean), (some .int), (some .boolean), (some .boolean), (some .boolean), (some .boolean), (some .boolean), (some .boolean), (some .boolean), (some .boolean), (some .boolean), (some .boolean), (some .boolean), (some .boolean), (some .boolean), (some .boolean), (some .boolean), (some .boolean), (some .int), (some .boolean), (some .int), (some .int), (some .int), (some .int), (some .int), (some .int), (some .int), (some .int), (some .int), (some .int), (some .int), (some .int), (some .int), (some .boolean), (some .int), (some .int), (some .int), (some .int), (some .int), (some .boolean), (some .int), (some .int), (some .int), (some .int), (some .int), (some .boolean), (some .boolean), (some .boolean), (some .boolean), (some .int), (some .int), (some .boolean), (some .int), none, (some .boolean), none, (some .boolean), (some .int), none, (some .int), (some .boolean), (some .boolean), none, (some .boolean), (some .boolean), (some .boolean), (some .boolean), (some .boolean), (some .boolean), (some .int), (some .boolean), (some .boolean), (some .boolean), (some .boolean), (some .boolean), (some .boolean), (some .boolean), (some .int), (some .int), (some .boolean), (some .boolean), (some .boolean), (some .int), (some .boolean), (some .int), (some .int), (some .int), (some .int), (some .int), (some .int), none, (some .int), (some .int), (some .int), (some .boolean), (some .int), (some .int), (some .int), (some .int), (some .int), (some .boolean), (some .boolean), (some .boolean), (some .int), (some .int), (some .int), (some .int), (some .int), (some .int), (some .int), (some .boolean), (some .boolean), (some .int), (some .int), (some .int), (some .int), (some .int), (some .int), (some .int), (some .boolean), (some .boolean), none, (some .int), (some .int), (some .int), (some .int), (some .int), (some .boolean), (some .boolean), (some .int), none, (some .int), none, none, (some .boolean), (some .int), (some .boolean), (some .int), (some .int), (some .int), (some .int), (some .int), (some .boolean), (some .boolean), (some .int), (some .int), (some .int), (some .int), none]
def mdOL : List Nat := [0, 0, 0, 0, 0, 0, 0, 0, 0, 1, 1, 1, 1, 1, 1, 1, 1, 1, 1, 1, 2, 2, 2, 2, 3, 3, 3, 3, 3, 3, 3, 3, 3, 3, 3, 3, 3, 3, 3, 3, 3, 3, 3, 3, 4, 4, 4, 4, 4, 4, 5, 5, 5, 5, 5, 5, 5, 5, 5, 5, 6, 6, 6, 6, 6, 6, 7, 7, 7, 7, 8, 8, 9, 9, 9, 9, 9, 9, 9, 9, 9, 9, 9, 9, 9, 10, 10, 10, 10, 10, 10, 10, 10, 10, 10, 10, 11, 11, 11, 11, 11, 11, 11, 11, 11, 11, 11, 11, 11, 11, 11, 11, 11, 11, 11, 11, 11, 11, 11, 11, 11, 11, 11, 11, 11, 11, 11, 11, 12, 12, 12, 12, 12, 12, 12, 12, 12, 12, 12, 12, 12, 12, 12, 12, 12, 12, 12, 12, 12, 12, 12, 12, 12, 12, 12, 12, 12, 12, 12, 12, 12, 12, 12, 12, 12, 12, 12, 12, 12, 12, 12, 12, 12, 12, 12, 12, 12, 12, 12, 12, 12, 12, 12, 12, 12, 12, 12, 12, 12, 12, 12, 12, 12, 12, 12, 12, 12, 12, 12, 12, 12, 12, 12, 12, 12, 12, 12, 12, 12, 12, 12, 12, 12, 12, 12, 12, 12, 12, 12, 12, 12, 12, 12, 13, 14, 14, 15]
def mdGL : List (List Nat) := [[], [], [], [], [], [], [], [], [], [], [], [], [], [], [], [], [], [], [], [], [], [], [], [], [], [], [], [], [], [], [], [], [], [], [], [], [], [], [], [], [], [], [], [], [], [], [], [], [], [], [], [], [], [], [], [], [], [], [], [], [], [], [], [], [], [], [], [], [], [], [], [], [], [], [], [], [], [], [], [], [], [], [], [], [], [], [], [], [], [], [], [], [], [], [], [], [], [], [], [], [], [], [], [], [], [], [], [], [], [], [], [], [], [], [], [], [], [], [], [], [], [], [], [], [], [], [], [], [], [], [], [], [], [], [], [], [], [], [], [], [], [], [1], [], [], [], [], [], [], [], [], [], [1], [], [2], [], [], [], [], [], [], [], [], [], [], [], [], [], [], [], [], [], [], [], [], [], [], [], [], [], [], [], [], [], [], [], [], [], [], [], [], [], [], [], [], [], [], [], [], [], [], [], [], [], [], [], [], [], [], [], [], [], [], [], [], [], [], [], [], [], [], [], [], [], [], [], []]
def mdY (y : Nat) : MethodName := mdYL.getD y yL_law
def mdB (y : Nat) : ByteArray := mdBL.getD y cL_law
def mdL (y : Nat) : Nat := mdLL.getD y 0
def mdR (y : Nat) : Option FieldType := mdRL.getD y none
def mdO (y : Nat) : Nat := mdOL.getD y 99
def mdG (y : Nat) : List Nat := mdGL.getD y []
def clR : List String := [RX0, RX1, RX2, RX3, RX4, RX5, RX6, RX7, RX8, RX9, RX10, RX11, RX12, RJ6, RJ9, RJ7]
def cR (c : Nat) : String := clR.getD c ""
def clT : List u_T := [TX0, TX1, TX2, TX3, TX4, TX5, TX6, TX7, TX8, TX9, TX10, TX11, TX12]
def cT (c : Nat) : u_T := clT.getD c TX0
def clN : List Nat := [7, 18, 4, 13, 10, 17, 7, 6, 7, 11, 7, 12, 63]
def cN (c : Nat) : Nat := clN.getD c 0
def clTy : List (Nat → FieldType) := [tyX0, tyX1, tyX2, tyX3, tyX4, tyX5, tyX6, tyX7, tyX8, tyX9, tyX10, tyX11, tyX12]
def cTy (c : Nat) : Nat → FieldType := clTy.getD c tyX0
abbrev classes : List vw_C := [(RX0, TX0, 7), (RX1, TX1, 18), (RX2, TX2, 4), (RX3, TX3, 13), (RX4, TX4, 10), (RX5, TX5, 17), (RX6, TX6, 7), (RX7, TX7, 6), (RX8, TX8, 7), (RX9, TX9, 11), (RX10, TX10, 7), (RX11, TX11, 12), (RX12, TX12, 63)]
def shpL : List (Nat × Nat) := [(21, 0), (19, 0), (0, 940), (0, 17), (17, 0), (13, 0), (0, 24), (0, 49), (0, 36), (0, 8), (0, 9), (0, 24), (0, 240), (4, 2), (17, 0), (13, 0), (0, 24), (0, 49), (0, 36), (0, 8), (0, 9), (0, 24), (0, 240), (17, 0), (13, 0), (0, 24), (0, 49), (0, 36), (0, 8), (0, 9), (0, 24), (0, 240), (10, 0), (0, 72), (20, 0), (13, 0), (0, 24), (0, 49), (0, 36), (0, 8), (0, 9), (0, 240), (0, 2), (14, 0), (0, 7), (18, 0), (11, 0), (18, 0), (0, 24), (16, 0), (0, 6), (0, 24), (0, 24), (15, 0), (18, 0), (12, 0), (0, 1045), (0, 1045), (0, 1045), (0, 4), (0, 4), (0, 4), (0, 1152), (0, 1045), (0, 24), (0, 4096), (0, 4096), (22, 0), (2, 940), (0, 383), (0, 117), (0, 240), (1, 34), (1, 17), (0, 24), (0, 24), (0, 4), (0, 24), (0, 7), (0, 7), (0, 6), (0, 24), (0, 6), (0, 6), (0, 4), (0, 15625), (0, 15625), (0, 15625), (3, 15625), (0, 766), (1, 34), (3, 2)]
def shp (a : Nat) : Nat × Nat := shpL.getD a (99, 0)
def rfsL : List (List (Nat × Nat × Nat)) := [[(19, 0, 1), (17, 0, 4), (4, 2, 13), (10, 0, 32), (20, 0, 34), (14, 0, 43), (18, 0, 45), (11, 0, 46), (16, 0, 49), (15, 0, 53), (99, 0, 0), (99, 0, 0)], [(0, 940, 2), (99, 0, 0), (0, 17, 3), (99, 0, 0), (99, 0, 0), (99, 0, 0), (99, 0, 0), (99, 0, 0), (99, 0, 0), (99, 0, 0), (99, 0, 0)], [], [], [(13, 0, 5), (0, 24, 11), (0, 240, 12), (99, 0, 0), (99, 0, 0), (99, 0, 0)], [(99, 0, 0), (99, 0, 0), (99, 0, 0), (99, 0, 0), (99, 0, 0), (99, 0, 0), (99, 0, 0), (99, 0, 0), (0, 24, 6), (0, 49, 7), (0, 36, 8), (0, 8, 9), (0, 9, 10)], [], [], [], [], [], [], [], [(17, 0, 14), (17, 0, 23)], [(13, 0, 15), (0, 24, 21), (0, 240, 22), (99, 0, 0), (99, 0, 0), (99, 0, 0)], [(99, 0, 0), (99, 0, 0), (99, 0, 0), (99, 0, 0), (99, 0, 0), (99, 0, 0), (99, 0, 0), (99, 0, 0), (0, 24, 16), (0, 49, 17), (0, 36, 18), (0, 8, 19), (0, 9, 20)], [], [], [], [], [], [], [], [(13, 0, 24), (0, 24, 30), (0, 240, 31), (99, 0, 0), (99, 0, 0), (99, 0, 0)], [(99, 0, 0), (99, 0, 0), (99, 0, 0), (99, 0, 0), (99, 0, 0), (99, 0, 0), (99, 0, 0), (99, 0, 0), (0, 24, 25), (0, 49, 26), (0, 36, 27), (0, 8, 28), (0, 9, 29)], [], [], [], [], [], [], [], [(99, 0, 0), (99, 0, 0), (99, 0, 0), (99, 0, 0), (99, 0, 0), (99, 0, 0), (0, 72, 33)], [], [(19, 0, 1), (13, 0, 35), (0, 240, 41), (0, 2, 42), (99, 0, 0), (99, 0, 0), (99, 0, 0)], [(99, 0, 0), (99, 0, 0), (99, 0, 0), (99, 0, 0), (99, 0, 0), (99, 0, 0), (99, 0, 0), (99, 0, 0), (0, 24, 36), (0, 49, 37), (0, 36, 38), (0, 8, 39), (0, 9, 40)], [], [], [], [], [], [], [], [(17, 0, 4), (13, 0, 5), (10, 0, 32), (0, 7, 44), (99, 0, 0), (99, 0, 0), (99, 0, 0), (99, 0, 0), (99, 0, 0), (99, 0, 0)], [], [(13, 0, 5), (10, 0, 32), (99, 0, 0), (99, 0, 0), (99, 0, 0), (99, 0, 0), (99, 0, 0)], [(17, 0, 4), (13, 0, 5), (10, 0, 32), (14, 0, 43), (18, 0, 47), (0, 24, 48), (99, 0, 0), (99, 0, 0), (99, 0, 0), (99, 0, 0), (99, 0, 0), (99, 0, 0), (99, 0, 0), (99, 0, 0), (99, 0, 0), (99, 0, 0), (99, 0, 0), (99, 0, 0)], [(13, 0, 5), (10, 0, 32), (99, 0, 0), (99, 0, 0), (99, 0, 0), (99, 0, 0), (99, 0, 0)], [], [(13, 0, 5), (10, 0, 32), (14, 0, 43), (0, 6, 50), (0, 24, 51), (0, 24, 52), (99, 0, 0)], [], [], [], [(13, 0, 5), (10, 0, 32), (14, 0, 43), (18, 0, 54), (12, 0, 55), (0, 4, 59), (0, 4, 60), (0, 4, 61), (99, 0, 0), (0, 1152, 62), (0, 1045, 63), (0, 24, 64), (0, 4096, 65), (0, 4096, 66), (99, 0, 0), (99, 0, 0), (99, 0, 0)], [(13, 0, 5), (10, 0, 32), (99, 0, 0), (99, 0, 0), (99, 0, 0), (99, 0, 0), (99, 0, 0)], [(99, 0, 0), (0, 1045, 56), (0, 1045, 57), (0, 1045, 58)], [], [], [], [], [], [], [], [], [], [], [], [(99, 0, 0), (2, 940, 68), (99, 0, 0), (99, 0, 0), (99, 0, 0), (99, 0, 0), (0, 383, 69), (0, 117, 70), (0, 240, 71), (1, 34, 72), (1, 17, 73), (99, 0, 0), (99, 0, 0), (99, 0, 0), (99, 0, 0), (99, 0, 0), (99, 0, 0), (99, 0, 0), (99, 0, 0), (99, 0, 0), (99, 0, 0), (99, 0, 0), (0, 24, 74), (0, 24, 75), (99, 0, 0), (99, 0, 0), (99, 0, 0), (99, 0, 0), (0, 4, 76), (99, 0, 0), (0, 24, 77), (99, 0, 0), (0, 7, 78), (0, 7, 79), (99, 0, 0), (99, 0, 0), (99, 0, 0), (99, 0, 0), (0, 6, 80), (0, 24, 81), (99, 0, 0), (99, 0, 0), (99, 0, 0), (99, 0, 0), (99, 0, 0), (99, 0, 0), (99, 0, 0), (99, 0, 0), (0, 6, 82), (0, 6, 83), (99, 0, 0), (0, 4, 84), (0, 15625, 85), (0, 15625, 86), (0, 15625, 87), (3, 15625, 88), (99, 0, 0), (99, 0, 0), (99, 0, 0), (99, 0, 0), (0, 766, 89), (1, 34, 90), (3, 2, 91)], [], [], [], [], [], [], [], [], [], [], [], [], [], [], [], [], [], [], [], [], [], [], [], []]
def rfs (a j : Nat) : Nat × Nat × Nat := (rfsL.getD a []).getD j (99, 0, 0)
theorem rf_0_0 : rfs 0 0 = (19, 0, 1) := rfl
theorem rf_0_1 : rfs 0 1 = (17, 0, 4) := rfl
theorem rf_0_2 : rfs 0 2 = (4, 2, 13) := rfl
theorem rf_0_3 : rfs 0 3 = (10, 0, 32) := rfl
theorem rf_0_4 : rfs 0 4 = (20, 0, 34) := rfl
theorem rf_0_5 : rfs 0 5 = (14, 0, 43) := rfl
theorem rf_0_6 : rfs 0 6 = (18, 0, 45) := rfl
theorem rf_0_7 : rfs 0 7 = (11, 0, 46) := rfl
theorem rf_0_8 : rfs 0 8 = (16, 0, 49) := rfl
theorem rf_0_9 : rfs 0 9 = (15, 0, 53) := rfl
theorem rf_1_0 : rfs 1 0 = (0, 940, 2) := rfl
theorem rf_1_2 : rfs 1 2 = (0, 17, 3) := rfl
theorem rf_4_0 : rfs 4 0 = (13, 0, 5) := rfl
theorem rf_4_1 : rfs 4 1 = (0, 24, 11) := rfl
theorem rf_4_2 : rfs 4 2 = (0, 240, 12) := rfl
theorem rf_5_8 : rfs 5 8 = (0, 24, 6) := rfl
theorem rf_5_9 : rfs 5 9 = (0, 49, 7) := rfl
theorem rf_5_10 : rfs 5 10 = (0, 36, 8) := rfl
theorem rf_5_11 : rfs 5 11 = (0, 8, 9) := rfl
theorem rf_5_12 : rfs 5 12 = (0, 9, 10) := rfl
theorem rf_13_0 : rfs 13 0 = (17, 0, 14) := rfl
theorem rf_13_1 : rfs 13 1 = (17, 0, 23) := rfl
theorem rf_14_0 : rfs 14 0 = (13, 0, 15) := rfl
theorem rf_14_1 : rfs 14 1 = (0, 24, 21) := rfl
theorem rf_14_2 : rfs 14 2 = (0, 240, 22) := rfl
theorem rf_15_8 : rfs 15 8 = (0, 24, 16) := rfl
theorem rf_15_9 : rfs 15 9 = (0, 49, 17) := rfl
theorem rf_15_10 : rfs 15 10 = (0, 36, 18) := rfl
theorem rf_15_11 : rfs 15 11 = (0, 8, 19) := rfl
theorem rf_15_12 : rfs 15 12 = (0, 9, 20) := rfl
theorem rf_23_0 : rfs 23 0 = (13, 0, 24) := rfl
theorem rf_23_1 : rfs 23 1 = (0, 24, 30) := rfl
theorem rf_23_2 : rfs 23 2 = (0, 240, 31) := rfl
theorem rf_24_8 : rfs 24 8 = (0, 24, 25) := rfl
theorem rf_24_9 : rfs 24 9 = (0, 49, 26) := rfl
theorem rf_24_10 : rfs 24 10 = (0, 36, 27) := rfl
theorem rf_24_11 : rfs 24 11 = (0, 8, 28) := rfl
theorem rf_24_12 : rfs 24 12 = (0, 9, 29) := rfl
theorem rf_32_6 : rfs 32 6 = (0, 72, 33) := rfl
theorem rf_34_0 : rfs 34 0 = (19, 0, 1) := rfl
theorem rf_34_1 : rfs 34 1 = (13, 0, 35) := rfl
theorem rf_34_2 : rfs 34 2 = (0, 240, 41) := rfl
theorem rf_34_3 : rfs 34 3 = (0, 2, 42) := rfl
theorem rf_35_8 : rfs 35 8 = (0, 24, 36) := rfl
theorem rf_35_9 : rfs 35 9 = (0, 49, 37) := rfl
theorem rf_35_10 : rfs 35 10 = (0, 36, 38) := rfl
theorem rf_35_11 : rfs 35 11 = (0, 8, 39) := rfl
theorem rf_35_12 : rfs 35 12 = (0, 9, 40) := rfl
theorem rf_43_0 : rfs 43 0 = (17, 0, 4) := rfl
theorem rf_43_1 : rfs 43 1 = (13, 0, 5) := rfl
theorem rf_43_2 : rfs 43 2 = (10, 0, 32) := rfl
theorem rf_43_3 : rfs 43 3 = (0, 7, 44) := rfl
theorem rf_45_0 : rfs 45 0 = (13, 0, 5) := rfl
theorem rf_45_1 : rfs 45 1 = (10, 0, 32) := rfl
theorem rf_46_0 : rfs 46 0 = (17, 0, 4) := rfl
theorem rf_46_1 : rfs 46 1 = (13, 0, 5) := rfl
theorem rf_46_2 : rfs 46 2 = (10, 0, 32) := rfl
theorem rf_46_3 : rfs 46 3 = (14, 0, 43) := rfl
theorem rf_46_4 : rfs 46 4 = (18, 0, 47) := rfl
theorem rf_46_5 : rfs 46 5 = (0, 24, 48) := rfl
theorem rf_47_0 : rfs 47 0 = (13, 0, 5) := rfl
theorem rf_47_1 : rfs 47 1 = (10, 0, 32) := rfl
theorem rf_49_0 : rfs 49 0 = (13, 0, 5) := rfl
theorem rf_49_1 : rfs 49 1 = (10, 0, 32) := rfl
theorem rf_49_2 : rfs 49 2 = (14, 0, 43) := rfl
theorem rf_49_3 : rfs 49 3 = (0, 6, 50) := rfl
theorem rf_49_4 : rfs 49 4 = (0, 24, 51) := rfl
theorem rf_49_5 : rfs 49 5 = (0, 24, 52) := rfl
theorem rf_53_0 : rfs 53 0 = (13, 0, 5) := rfl
theorem rf_53_1 : rfs 53 1 = (10, 0, 32) := rfl
theorem rf_53_2 : rfs 53 2 = (14, 0, 43) := rfl
theorem rf_53_3 : rfs 53 3 = (18, 0, 54) := rfl
theorem rf_53_4 : rfs 53 4 = (12, 0, 55) := rfl
theorem rf_53_5 : rfs 53 5 = (0, 4, 59) := rfl
theorem rf_53_6 : rfs 53 6 = (0, 4, 60) := rfl
theorem rf_53_7 : rfs 53 7 = (0, 4, 61) := rfl
theorem rf_53_9 : rfs 53 9 = (0, 1152, 62) := rfl
theorem rf_53_10 : rfs 53 10 = (0, 1045, 63) := rfl
theorem rf_53_11 : rfs 53 11 = (0, 24, 64) := rfl
theorem rf_53_12 : rfs 53 12 = (0, 4096, 65) := rfl
theorem rf_53_13 : rfs 53 13 = (0, 4096, 66) := rfl
theorem rf_54_0 : rfs 54 0 = (13, 0, 5) := rfl
theorem rf_54_1 : rfs 54 1 = (10, 0, 32) := rfl
theorem rf_55_1 : rfs 55 1 = (0, 1045, 56) := rfl
theorem rf_55_2 : rfs 55 2 = (0, 1045, 57) := rfl
theorem rf_55_3 : rfs 55 3 = (0, 1045, 58) := rfl
theorem rf_67_1 : rfs 67 1 = (2, 940, 68) := rfl
theorem rf_67_6 : rfs 67 6 = (0, 383, 69) := rfl
theorem rf_67_7 : rfs 67 7 = (0, 117, 70) := rfl
theorem rf_67_8 : rfs 67 8 = (0, 240, 71) := rfl
theorem rf_67_9 : rfs 67 9 = (1, 34, 72) := rfl
theorem rf_67_10 : rfs 67 10 = (1, 17, 73) := rfl
theorem rf_67_22 : rfs 67 22 = (0, 24, 74) := rfl
theorem rf_67_23 : rfs 67 23 = (0, 24, 75) := rfl
theorem rf_67_28 : rfs 67 28 = (0, 4, 76) := rfl
theorem rf_67_30 : rfs 67 30 = (0, 24, 77) := rfl
theorem rf_67_32 : rfs 67 32 = (0, 7, 78) := rfl
theorem rf_67_33 : rfs 67 33 = (0, 7, 79) := rfl
theorem rf_67_38 : rfs 67 38 = (0, 6, 80) := rfl
theorem rf_67_39 : rfs 67 39 = (0, 24, 81) := rfl
theorem rf_67_48 : rfs 67 48 = (0, 6, 82) := rfl
theorem rf_67_49 : rfs 67 49 = (0, 6, 83) := rfl
theorem rf_67_51 : rfs 67 51 = (0, 4, 84) := rfl
theorem rf_67_52 : rfs 67 52 = (0, 15625, 85) := rfl
theorem rf_67_53 : rfs 67 53 = (0, 15625, 86) := rfl
theorem rf_67_54 : rfs 67 54 = (0, 15625, 87) := rfl
theorem rf_67_55 : rfs 67 55 = (3, 15625, 88) := rfl
theorem rf_67_60 : rfs 67 60 = (0, 766, 89) := rfl
theorem rf_67_61 : rfs 67 61 = (1, 34, 90) := rfl
theorem rf_67_62 : rfs 67 62 = (3, 2, 91) := rfl
def swL : List (Int × Int × Int × Array Int) := [(73, 0, 5, #[38, 43, 53, 58, 63, 68]), (125, 0, 2, #[25, 57, 100]), (71, 0, 6, #[44, 49, 54, 59, 59, 59, 59]), (63, 0, 3, #[31, 39, 47, 55]), (141, 0, 8, #[51, 62, 73, 84, 95, 106, 114, 122, 130]), (126, 0, 8, #[50, 57, 64, 71, 78, 85, 93, 101, 106])]
def sw (v : Nat) : Int × Int × Int × Array Int := swL.getD v (0, 0, 0, #[])
