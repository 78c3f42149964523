/-! THE CODE AS THE CLAIM HAS IT -/
def isRf (ty : FieldType) : Bool := match ty with
  | .int => false
  | .boolean => false
  | .long => false
  | _ => true
def ins (e : Ent) : Instr := match e with
  | (pc, ln, op, u, v, _, x) =>
    if op = 1 then (if ln = 1 then .iload_n (Fin.ofNat 4 v) else .iload v) else
    if op = 2 then (if ln = 1 then .lload_n (Fin.ofNat 4 v) else .lload v) else
    if op = 3 then (if ln = 1 then .aload_n (Fin.ofNat 4 v) else .aload v) else
    if op = 4 then (if ln = 1 then .istore_n (Fin.ofNat 4 v) else .istore v) else
    if op = 5 then (if ln = 1 then .lstore_n (Fin.ofNat 4 v) else .lstore v) else
    if op = 6 then (if ln = 1 then .astore_n (Fin.ofNat 4 v) else .astore v) else
    if op = 7 then .iinc v u else
    if op = 8 then .iconst u else
    if op = 9 then .bipush u else
    if op = 10 then .sipush u else
    if op = 11 then .ldc x else
    if op = 12 then .ldc_w x else
    if op = 13 then .ldc2_w x else
    if op = 14 then .lconst (Fin.ofNat 2 u.toNat) else
    if op = 15 then .iadd else
    if op = 16 then .isub else
    if op = 17 then .imul else
    if op = 18 then .idiv else
    if op = 19 then .irem else
    if op = 20 then .ineg else
    if op = 21 then .ishl else
    if op = 22 then .ishr else
    if op = 23 then .iushr else
    if op = 24 then .iand else
    if op = 25 then .ior else
    if op = 26 then .ixor else
    if op = 27 then .i2l else
    if op = 28 then .i2b else
    if op = 29 then .lshl else
    if op = 30 then .lor else
    if op = 31 then .lcmp else
    if op = 32 then .dup else
    if op = 33 then .dup2 else
    if op = 34 then .pop else
    if op = 37 then .iaload else
    if op = 38 then .iastore else
    if op = 39 then .laload else
    if op = 40 then .lastore else
    if op = 41 then .baload else
    if op = 42 then .bastore else
    if op = 43 then .aaload else
    if op = 44 then .arraylength else
    if op = 62 then .ireturn else
    if op = 63 then .return_ else
    if op = 35 then .getfield x else
    if op = 65 then .getfield x else
    if op = 66 then .getfield x else
    if op = 36 then .putfield x else
    if op = 67 then .putfield x else
    if op = 68 then .putfield x else
    if op = 45 then .if_icmp .eq ((v : Int) - (pc : Int)) else
    if op = 46 then .if_icmp .ne ((v : Int) - (pc : Int)) else
    if op = 47 then .if_icmp .lt ((v : Int) - (pc : Int)) else
    if op = 48 then .if_icmp .ge ((v : Int) - (pc : Int)) else
    if op = 49 then .if_icmp .gt ((v : Int) - (pc : Int)) else
    if op = 50 then .if_icmp .le ((v : Int) - (pc : Int)) else
    if op = 51 then .ifCond .eq ((v : Int) - (pc : Int)) else
    if op = 52 then .ifCond .ne ((v : Int) - (pc : Int)) else
    if op = 53 then .ifCond .lt ((v : Int) - (pc : Int)) else
    if op = 54 then .ifCond .ge ((v : Int) - (pc : Int)) else
    if op = 55 then .ifCond .gt ((v : Int) - (pc : Int)) else
    if op = 56 then .ifCond .le ((v : Int) - (pc : Int)) else
    if op = 57 then .goto ((v : Int) - (pc : Int)) else
    if op = 58 then .tableswitch (sw v).1 (sw v).2.1 (sw v).2.2.1 (sw v).2.2.2 else
    if op = 59 then .invokevirtual x else
    if op = 64 then .invokevirtual x else
    if op = 60 then .invokestatic x else
    if op = 61 then .invokestatic x else .nop
def lnv (ln v : Nat) : Bool := (decide (ln = 1) && decide (v < 4)) || decide (ln = 2)
def noL (G : List Nat) (v : Nat) : Bool := G.all (fun g => decide (g + 1 ≠ v))
def fdk (o c v x : Nat) : Bool := flx.any (fun q => decide (q.1 = o) && decide (q.2.1 = x) && decide (q.2.2.1 = c) && decide (q.2.2.2.1 = v))
def mlk (o v x : Nat) : Bool := mlx.any (fun q => decide (q.1 = o) && decide (q.2.1 = x) && decide (q.2.2.1 = v))
def npar (v : Nat) : Option Nat := (parseMethodDescriptor (mdY v).desc).map (fun d => d.parameters.length)
def okX (o : Nat) (G : List Nat) (nL : Nat) (r : Option FieldType) (e : Ent) : Bool := match e with
  | (pc, ln, op, u, v, w, x) =>
    if op = 0 then decide (v = pc) else
    if op = 1 then lnv ln v else
    if op = 2 then lnv ln v else
    if op = 3 then lnv ln v else
    if op = 4 then lnv ln v && decide (v < nL) && noL G v else
    if op = 5 then lnv ln v && decide (v + 1 < nL) && noL G v && decide (v ∈ G) else
    if op = 6 then lnv ln v && decide (v < nL) && noL G v else
    if op = 7 then decide (ln = 3) && decide (v < nL) && noL G v else
    if op = 8 then decide (ln = 1) else
    if op = 9 then decide (ln = 2) && decide (-128 ≤ u ∧ u < 128) else
    if op = 10 then decide (ln = 3) && decide (-32768 ≤ u ∧ u < 32768) else
    if op = 11 then decide (ln = 2) && cox.any (fun q => decide (q.1 = o) && decide (q.2.1 = x) && decide (q.2.2.1 = u)) else
    if op = 12 then decide (ln = 3) && cox.any (fun q => decide (q.1 = o) && decide (q.2.1 = x) && decide (q.2.2.1 = u)) else
    if op = 13 then decide (ln = 3) && clx.any (fun q => decide (q.1 = o) && decide (q.2.1 = x) && decide (q.2.2.1 = u)) else
    if op = 14 then decide (ln = 1) && decide (0 ≤ u ∧ u < 2) else
    if op = 35 then decide (ln = 3) && decide (u = (v : Int)) && decide (10 ≤ w) && fdk o (w - 10) v x && (decide (cTy (w - 10) v = .int) || decide (cTy (w - 10) v = .boolean)) else
    if op = 65 then decide (ln = 3) && decide (u = (v : Int)) && decide (10 ≤ w) && fdk o (w - 10) v x && decide (cTy (w - 10) v = .long) else
    if op = 66 then decide (ln = 3) && decide (u = (v : Int)) && decide (10 ≤ w) && fdk o (w - 10) v x && isRf (cTy (w - 10) v) else
    if op = 36 then decide (ln = 3) && decide (u = (v : Int)) && decide (10 ≤ w) && fdk o (w - 10) v x && decide (cTy (w - 10) v = .int) && decide (((cT (w - 10)) v).2.2.2 = false) else
    if op = 67 then decide (ln = 3) && decide (u = (v : Int)) && decide (10 ≤ w) && fdk o (w - 10) v x && decide (cTy (w - 10) v = .long) && decide (((cT (w - 10)) v).2.2.2 = false) else
    if op = 68 then decide (ln = 3) && decide (u = (v : Int)) && decide (10 ≤ w) && fdk o (w - 10) v x && decide (cTy (w - 10) v = .boolean) && decide (((cT (w - 10)) v).2.2.2 = false) else
    if op = 45 then decide (ln = 3) else
    if op = 46 then decide (ln = 3) else
    if op = 47 then decide (ln = 3) else
    if op = 48 then decide (ln = 3) else
    if op = 49 then decide (ln = 3) else
    if op = 50 then decide (ln = 3) else
    if op = 51 then decide (ln = 3) else
    if op = 52 then decide (ln = 3) else
    if op = 53 then decide (ln = 3) else
    if op = 54 then decide (ln = 3) else
    if op = 55 then decide (ln = 3) else
    if op = 56 then decide (ln = 3) else
    if op = 57 then decide (ln = 3) else
    if op = 58 then (sw v).2.2.2.all (fun f => decide (0 ≤ (pc : Int) + f)) && decide (0 ≤ (pc : Int) + (sw v).1) else
    if op = 59 then decide (ln = 3) && mlk o v x && decide (v < 227) && (mdq v).2.1 && decide (w = 10 + mdO v) && decide (mdO v < 13) && decide ((npar v).map (· + 1) = some u.toNat) && (mdG v).all (fun g => decide (u.toNat ≤ g)) && decide (u.toNat ≤ mdL v) else
    if op = 60 then decide (ln = 3) && mlk o v x && decide (v < 227) && !(mdq v).2.1 && decide (npar v = some u.toNat) && (mdG v).all (fun g => decide (u.toNat ≤ g)) && decide (u.toNat ≤ mdL v) else
    if op = 64 then decide (ln = 3) && mlk o v x && decide (v < 227) && (mdq v).2.1 && decide (w = 10 + mdO v) && decide (mdO v < 13) && decide (npar v = some 1) && (mdG v).all (fun g => decide (g = 1 ∨ 3 ≤ g)) && decide (1 ∈ mdG v) && decide (3 ≤ mdL v) else
    if op = 61 then decide (ln = 3) && acx.any (fun q => decide (q.1 = o) && decide (q.2.1 = x)) else
    if op = 62 then decide (ln = 1) && ((decide (u = 0) && decide (r = some .int)) || (decide (u = 1) && decide (r = some .boolean))) else
    if op = 63 then decide (ln = 1) && decide (r = none) else decide (ln = 1)
def okE (B : ByteArray) (o : Nat) (G : List Nat) (nL : Nat) (r : Option FieldType) (e : Ent) : Bool :=
  (decide (e.2.2.1 = 0) || decide (decode B e.1 = .ok (ins e, e.2.1))) && okX o G nL r e
def tmn (op : Nat) : Bool := decide (op = 0) || decide (op = 57) || decide (op = 58) || decide (op = 62) || decide (op = 63)
def cod (B : ByteArray) (o : Nat) (G : List Nat) (nL : Nat) (r : Option FieldType) : Nat → List Ent → Bool
  | _, [] => true
  | pc, e :: c => decide (e.1 = pc) && okE B o G nL r e && (tmn e.2.2.1 || cod B o G nL r (pc + e.2.1) c)
def mchk (B : ByteArray) (o : Nat) (G : List Nat) (nL : Nat) (r : Option FieldType) (l : List (Nat × List Ent)) : Bool := l.all (fun q => cod B o G nL r q.1 q.2)
def mkP (y : Nat) : Prop := mchk (mdB y) (mdO y) (mdG y) (mdL y) (mdR y) (kL.getD y []) = true
theorem mk_0 : mchk cX0_shape 0 [] 5 none k_0 = true := by decide +kernel
theorem mk_1 : mchk cX0_markWays 0 [] 6 none k_1 = true := by decide +kernel
theorem mk_2 : mchk cX0_hasCell 0 [] 2 (some .boolean) k_2 = true := by decide +kernel
theorem mk_3 : mchk cX0_wayBits 0 [] 3 (some .int) k_3 = true := by decide +kernel
theorem mk_4 : mchk cX0_inRow 0 [] 3 (some .int) k_4 = true := by decide +kernel
theorem mk_5 : mchk cX0_bitsOf 0 [] 4 (some .int) k_5 = true := by decide +kernel
theorem mk_6 : mchk cX0_knotsAmong 0 [] 4 (some .int) k_6 = true := by decide +kernel
theorem mk_7 : mchk cX0_beside 0 [] 3 (some .int) k_7 = true := by decide +kernel
theorem mk_8 : mchk cX0_hangsTogether 0 [] 5 (some .boolean) k_8 = true := by decide +kernel
theorem mk_9 : mchk cX1_carryOut 1 [] 3 (some .int) k_9 = true := by decide +kernel
theorem mk_10 : mchk cX1_start 1 [] 2 none k_10 = true := by decide +kernel
theorem mk_11 : mchk cX1_tell 1 [] 2 (some .int) k_11 = true := by decide +kernel
theorem mk_12 : mchk cX1_wrong 1 [] 3 (some .int) k_12 = true := by decide +kernel
theorem mk_13 : mchk cX1_wrongGo 1 [] 2 (some .int) k_13 = true := by decide +kernel
theorem mk_14 : mchk cX1_cellOf 1 [] 3 (some .int) k_14 = true := by decide +kernel
theorem mk_15 : mchk cX1_isFree 1 [] 4 (some .boolean) k_15 = true := by decide +kernel
theorem mk_16 : mchk cX1_anyDue 1 [] 2 (some .boolean) k_16 = true := by decide +kernel
theorem mk_17 : mchk cX1_perform 1 [] 6 none k_17 = true := by decide +kernel
theorem mk_18 : mchk cX1_awaitOpening 1 [] 2 none k_18 = true := by decide +kernel
theorem mk_19 : mchk cX1_weigh 1 [] 2 none k_19 = true := by decide +kernel
theorem mk_20 : mchk cX2_listAll 2 [] 7 none k_20 = true := by decide +kernel
theorem mk_21 : mchk cX2_addWith 2 [] 4 none k_21 = true := by decide +kernel
theorem mk_22 : mchk cX2_codeWith 2 [] 3 (some .int) k_22 = true := by decide +kernel
theorem mk_23 : mchk cX2_placeOf 2 [] 3 (some .int) k_23 = true := by decide +kernel
theorem mk_24 : mchk cX3_empty 3 [] 1 none k_24 = true := by decide +kernel
theorem mk_25 : mchk cX3_copyFrom 3 [] 2 none k_25 = true := by decide +kernel
theorem mk_26 : mchk cX3_hasQuay 3 [] 2 (some .boolean) k_26 = true := by decide +kernel
theorem mk_27 : mchk cX3_hasLeg 3 [] 2 (some .boolean) k_27 = true := by decide +kernel
theorem mk_28 : mchk cX3_hasBarge 3 [] 2 (some .boolean) k_28 = true := by decide +kernel
theorem mk_29 : mchk cX3_quayPart 3 [] 3 (some .int) k_29 = true := by decide +kernel
theorem mk_30 : mchk cX3_legPart 3 [] 3 (some .int) k_30 = true := by decide +kernel
theorem mk_31 : mchk cX3_bargePart 3 [] 3 (some .int) k_31 = true := by decide +kernel
theorem mk_32 : mchk cX3_quayNamed 3 [] 3 (some .int) k_32 = true := by decide +kernel
theorem mk_33 : mchk cX3_bargeNamed 3 [] 3 (some .int) k_33 = true := by decide +kernel
theorem mk_34 : mchk cX3_areApart 3 [] 3 (some .boolean) k_34 = true := by decide +kernel
theorem mk_35 : mchk cX3_stopCount 3 [] 1 (some .int) k_35 = true := by decide +kernel
theorem mk_36 : mchk cX3_downStop 3 [] 2 (some .int) k_36 = true := by decide +kernel
theorem mk_37 : mchk cX3_quayOf 3 [] 2 (some .int) k_37 = true := by decide +kernel
theorem mk_38 : mchk cX3_legBehind 3 [] 2 (some .int) k_38 = true := by decide +kernel
theorem mk_39 : mchk cX3_goesUp 3 [] 2 (some .boolean) k_39 = true := by decide +kernel
theorem mk_40 : mchk cX3_onStop 3 [] 2 (some .int) k_40 = true := by decide +kernel
theorem mk_41 : mchk cX3_offStop 3 [] 2 (some .int) k_41 = true := by decide +kernel
theorem mk_42 : mchk cX3_vainStop 3 [] 2 (some .int) k_42 = true := by decide +kernel
theorem mk_43 : mchk cX3_openFrom 3 [] 5 (some .int) k_43 = true := by decide +kernel
theorem mk_44 : mchk cX4_holdsTogether 4 [] 2 (some .boolean) k_44 = true := by decide +kernel
theorem mk_45 : mchk cX4_keepsApart 4 [] 5 (some .boolean) k_45 = true := by decide +kernel
theorem mk_46 : mchk cX4_hasRoom 4 [] 13 (some .boolean) k_46 = true := by decide +kernel
theorem mk_47 : mchk cX4_measure 4 [] 4 none k_47 = true := by decide +kernel
theorem mk_48 : mchk cX4_goThrough 4 [] 8 (some .boolean) k_48 = true := by decide +kernel
theorem mk_49 : mchk cX4_goMinutes 4 [] 5 (some .int) k_49 = true := by decide +kernel
theorem mk_50 : mchk cX5_prepare 5 [] 5 none k_50 = true := by decide +kernel
theorem mk_51 : mchk cX5_weighAll 5 [] 4 none k_51 = true := by decide +kernel
theorem mk_52 : mchk cX5_costPlace 5 [] 1 (some .int) k_52 = true := by decide +kernel
theorem mk_53 : mchk cX5_leastMinutes 5 [] 5 (some .int) k_53 = true := by decide +kernel
theorem mk_54 : mchk cX5_work 5 [] 7 none k_54 = true := by decide +kernel
theorem mk_55 : mchk cX5_lookRound 5 [] 3 none k_55 = true := by decide +kernel
theorem mk_56 : mchk cX5_sweep 5 [] 8 (some .boolean) k_56 = true := by decide +kernel
theorem mk_57 : mchk cX5_move 5 [] 11 (some .boolean) k_57 = true := by decide +kernel
theorem mk_58 : mchk cX5_depart 5 [] 11 (some .boolean) k_58 = true := by decide +kernel
theorem mk_59 : mchk cX5_sail 5 [] 6 (some .int) k_59 = true := by decide +kernel
theorem mk_60 : mchk cX6_seatAll 6 [] 2 (some .boolean) k_60 = true := by decide +kernel
theorem mk_61 : mchk cX6_seat 6 [] 4 (some .boolean) k_61 = true := by decide +kernel
theorem mk_62 : mchk cX6_goesUpWell 6 [] 4 (some .boolean) k_62 = true := by decide +kernel
theorem mk_63 : mchk cX6_comeOff 6 [] 6 (some .boolean) k_63 = true := by decide +kernel
theorem mk_64 : mchk cX6_dueAt 6 [] 4 (some .int) k_64 = true := by decide +kernel
theorem mk_65 : mchk cX6_isClear 6 [] 4 (some .boolean) k_65 = true := by decide +kernel
theorem mk_66 : mchk cX7_begin 7 [] 2 none k_66 = true := by decide +kernel
theorem mk_67 : mchk cX7_takePlan 7 [] 3 none k_67 = true := by decide +kernel
theorem mk_68 : mchk cX7_actPart 7 [] 3 (some .int) k_68 = true := by decide +kernel
theorem mk_69 : mchk cX7_copyFrom 7 [] 2 none k_69 = true := by decide +kernel
theorem mk_70 : mchk cX8_weigh 8 [] 5 none k_70 = true := by decide +kernel
theorem mk_71 : mchk cX8_weighWay 8 [] 11 none k_71 = true := by decide +kernel
theorem mk_72 : mchk cX9_withLetter 9 [] 2 (some .int) k_72 = true := by decide +kernel
theorem mk_73 : mchk cX9_addFour 9 [] 3 none k_73 = true := by decide +kernel
theorem mk_74 : mchk cX9_startText 9 [] 2 none k_74 = true := by decide +kernel
theorem mk_75 : mchk cX9_advance 9 [] 2 none k_75 = true := by decide +kernel
theorem mk_76 : mchk cX9_readRun 9 [] 7 none k_76 = true := by decide +kernel
theorem mk_77 : mchk cX9_isLetter 9 [] 1 (some .boolean) k_77 = true := by decide +kernel
theorem mk_78 : mchk cX9_isDigit 9 [] 1 (some .boolean) k_78 = true := by decide +kernel
theorem mk_79 : mchk cX9_wordNumber 9 [] 3 (some .int) k_79 = true := by decide +kernel
theorem mk_80 : mchk cX9_refuse 9 [] 2 (some .boolean) k_80 = true := by decide +kernel
theorem mk_81 : mchk cX9_isWord 9 [] 2 (some .boolean) k_81 = true := by decide +kernel
theorem mk_82 : mchk cX9_wantKind 9 [] 2 (some .boolean) k_82 = true := by decide +kernel
theorem mk_83 : mchk cX9_takeNumber 9 [] 5 (some .boolean) k_83 = true := by decide +kernel
theorem mk_84 : mchk cX9_takeSemicolon 9 [] 1 (some .boolean) k_84 = true := by decide +kernel
theorem mk_85 : mchk cX10_readRiver 10 [] 1 (some .boolean) k_85 = true := by decide +kernel
theorem mk_86 : mchk cX10_readLine 10 [] 1 (some .boolean) k_86 = true := by decide +kernel
theorem mk_87 : mchk cX10_readQuay 10 [] 3 (some .boolean) k_87 = true := by decide +kernel
theorem mk_88 : mchk cX10_readLeg 10 [] 3 (some .boolean) k_88 = true := by decide +kernel
theorem mk_89 : mchk cX10_readBarge 10 [] 4 (some .boolean) k_89 = true := by decide +kernel
theorem mk_90 : mchk cX10_readApart 10 [] 3 (some .boolean) k_90 = true := by decide +kernel
theorem mk_91 : mchk cX10_readNewName 10 [] 3 (some .boolean) k_91 = true := by decide +kernel
theorem mk_92 : mchk cX10_readQuayName 10 [] 4 (some .boolean) k_92 = true := by decide +kernel
theorem mk_93 : mchk cX10_readSetting 10 [] 2 (some .boolean) k_93 = true := by decide +kernel
theorem mk_94 : mchk cX10_readPlan 10 [] 3 (some .boolean) k_94 = true := by decide +kernel
theorem mk_95 : mchk cX10_readAct 10 [] 4 (some .boolean) k_95 = true := by decide +kernel
theorem mk_96 : mchk cX11_feed 11 [] 6 (some .int) k_96 = true := by decide +kernel
theorem mk_97 : mchk cX11_end 11 [] 2 (some .boolean) k_97 = true := by decide +kernel
theorem mk_98 : mchk cX11_river 11 [] 2 (some .int) k_98 = true := by decide +kernel
theorem mk_99 : mchk cX11_fault 11 [] 1 (some .int) k_99 = true := by decide +kernel
theorem mk_100 : mchk cX11_lay 11 [] 3 (some .int) k_100 = true := by decide +kernel
theorem mk_101 : mchk cX11_layable 11 [] 4 (some .int) k_101 = true := by decide +kernel
theorem mk_102 : mchk cX11_cell 11 [] 2 (some .int) k_102 = true := by decide +kernel
theorem mk_103 : mchk cX11_knots 11 [] 1 (some .int) k_103 = true := by decide +kernel
theorem mk_104 : mchk cX11_taking 11 [] 3 (some .int) k_104 = true := by decide +kernel
theorem mk_105 : mchk cX11_takenBy 11 [] 2 (some .int) k_105 = true := by decide +kernel
theorem mk_106 : mchk cX11_sound 11 [] 1 (some .int) k_106 = true := by decide +kernel
theorem mk_107 : mchk cX11_fits 11 [] 2 (some .int) k_107 = true := by decide +kernel
theorem mk_108 : mchk cX11_passes 11 [] 3 (some .int) k_108 = true := by decide +kernel
theorem mk_109 : mchk cX11_passedBy 11 [] 1 (some .int) k_109 = true := by decide +kernel
theorem mk_110 : mchk cX11_deep 11 [] 4 (some .int) k_110 = true := by decide +kernel
theorem mk_111 : mchk cX11_water 11 [] 2 (some .boolean) k_111 = true := by decide +kernel
theorem mk_112 : mchk cX11_plan 11 [] 2 (some .int) k_112 = true := by decide +kernel
theorem mk_113 : mchk cX11_judge 11 [] 2 (some .int) k_113 = true := by decide +kernel
theorem mk_114 : mchk cX11_judged 11 [] 2 (some .int) k_114 = true := by decide +kernel
theorem mk_115 : mchk cX11_judgedAt 11 [] 2 (some .int) k_115 = true := by decide +kernel
theorem mk_116 : mchk cX11_first 11 [] 4 (some .int) k_116 = true := by decide +kernel
theorem mk_117 : mchk cX11_seatable 11 [] 4 (some .boolean) k_117 = true := by decide +kernel
theorem mk_118 : mchk cX11_best 11 [] 2 (some .int) k_118 = true := by decide +kernel
theorem mk_119 : mchk cX11_hired 11 [] 6 (some .int) k_119 = true := by decide +kernel
theorem mk_120 : mchk cX11_hiredBy 11 [] 1 (some .int) k_120 = true := by decide +kernel
theorem mk_121 : mchk cX11_vain 11 [] 3 (some .int) k_121 = true := by decide +kernel
theorem mk_122 : mchk cX11_without 11 [] 3 (some .int) k_122 = true := by decide +kernel
theorem mk_123 : mchk cX11_searchable 11 [] 3 (some .boolean) k_123 = true := by decide +kernel
theorem mk_124 : mchk cX11_isMinute 11 [] 1 (some .boolean) k_124 = true := by decide +kernel
theorem mk_125 : mchk cX11_image 11 [] 2 (some .boolean) k_125 = true := by decide +kernel
theorem mk_126 : mchk cX11_restore 11 [] 2 (some .boolean) k_126 = true := by decide +kernel
theorem mk_127 : mchk cX11_count 11 [] 2 (some .int) k_127 = true := by decide +kernel
theorem mk_128 : mchk cX12_thrown 12 [] 1 (some .int) k_128 = true := by decide +kernel
theorem mk_129 : mchk cX12_throwsIf 12 [] 2 (some .boolean) k_129 = true := by decide +kernel
theorem mk_130 : mchk cX12_feed 12 [] 6 (some .int) k_130 = true := by decide +kernel
theorem mk_131 : mchk cX12_four 12 [] 3 none k_131 = true := by decide +kernel
theorem mk_132 : mchk cX12_end 12 [] 2 (some .boolean) k_132 = true := by decide +kernel
theorem mk_133 : mchk cX12_taken 12 [] 2 none k_133 = true := by decide +kernel
theorem mk_134 : mchk cX12_isIn 12 [] 3 (some .boolean) k_134 = true := by decide +kernel
theorem mk_135 : mchk cX12_octet 12 [] 2 (some .int) k_135 = true := by decide +kernel
theorem mk_136 : mchk cX12_plainRiver 12 [] 2 none k_136 = true := by decide +kernel
theorem mk_137 : mchk cX12_peek 12 [] 1 (some .int) k_137 = true := by decide +kernel
theorem mk_138 : mchk cX12_isSmall 12 [] 1 (some .boolean) k_138 = true := by decide +kernel
theorem mk_139 : mchk cX12_isDigit 12 [] 1 (some .boolean) k_139 = true := by decide +kernel
theorem mk_140 : mchk cX12_next 12 [] 4 none k_140 = true := by decide +kernel
theorem mk_141 : mchk cX12_bad 12 [] 2 (some .boolean) k_141 = true := by decide +kernel
theorem mk_142 : mchk cX12_isWord 12 [1] 3 (some .boolean) k_142 = true := by decide +kernel
theorem mk_143 : mchk cX12_isSign 12 [] 2 (some .boolean) k_143 = true := by decide +kernel
theorem mk_144 : mchk cX12_sign 12 [] 2 (some .boolean) k_144 = true := by decide +kernel
theorem mk_145 : mchk cX12_isName 12 [] 3 (some .boolean) k_145 = true := by decide +kernel
theorem mk_146 : mchk cX12_takes 12 [] 3 (some .boolean) k_146 = true := by decide +kernel
theorem mk_147 : mchk cX12_find 12 [] 4 (some .int) k_147 = true := by decide +kernel
theorem mk_148 : mchk cX12_takesName 12 [] 3 (some .boolean) k_148 = true := by decide +kernel
theorem mk_149 : mchk cX12_fresh 12 [] 1 (some .boolean) k_149 = true := by decide +kernel
theorem mk_150 : mchk cX12_once 12 [] 4 (some .boolean) k_150 = true := by decide +kernel
theorem mk_151 : mchk cX12_line 12 [] 1 (some .boolean) k_151 = true := by decide +kernel
theorem mk_152 : mchk cX12_readQuay 12 [1] 5 (some .boolean) k_152 = true := by decide +kernel
theorem mk_153 : mchk cX12_readLeg 12 [] 3 (some .boolean) k_153 = true := by decide +kernel
theorem mk_154 : mchk cX12_readBarge 12 [2] 7 (some .boolean) k_154 = true := by decide +kernel
theorem mk_155 : mchk cX12_river 12 [] 2 (some .int) k_155 = true := by decide +kernel
theorem mk_156 : mchk cX12_fault 12 [] 1 (some .int) k_156 = true := by decide +kernel
theorem mk_157 : mchk cX12_isQuay 12 [] 2 (some .boolean) k_157 = true := by decide +kernel
theorem mk_158 : mchk cX12_isLeg 12 [] 2 (some .boolean) k_158 = true := by decide +kernel
theorem mk_159 : mchk cX12_isBarge 12 [] 2 (some .boolean) k_159 = true := by decide +kernel
theorem mk_160 : mchk cX12_last 12 [] 1 (some .int) k_160 = true := by decide +kernel
theorem mk_161 : mchk cX12_goesUp 12 [] 2 (some .boolean) k_161 = true := by decide +kernel
theorem mk_162 : mchk cX12_onStop 12 [] 2 (some .int) k_162 = true := by decide +kernel
theorem mk_163 : mchk cX12_offStop 12 [] 2 (some .int) k_163 = true := by decide +kernel
theorem mk_164 : mchk cX12_quay 12 [] 3 (some .int) k_164 = true := by decide +kernel
theorem mk_165 : mchk cX12_leg 12 [] 3 (some .int) k_165 = true := by decide +kernel
theorem mk_166 : mchk cX12_barge 12 [] 3 (some .int) k_166 = true := by decide +kernel
theorem mk_167 : mchk cX12_cells 12 [] 1 (some .int) k_167 = true := by decide +kernel
theorem mk_168 : mchk cX12_raft 12 [] 2 none k_168 = true := by decide +kernel
theorem mk_169 : mchk cX12_lay 12 [] 5 (some .int) k_169 = true := by decide +kernel
theorem mk_170 : mchk cX12_cell 12 [] 2 (some .int) k_170 = true := by decide +kernel
theorem mk_171 : mchk cX12_beside 12 [] 3 (some .int) k_171 = true := by decide +kernel
theorem mk_172 : mchk cX12_isKnot 12 [] 3 (some .boolean) k_172 = true := by decide +kernel
theorem mk_173 : mchk cX12_knots 12 [] 3 (some .int) k_173 = true := by decide +kernel
theorem mk_174 : mchk cX12_mark 12 [] 8 (some .int) k_174 = true := by decide +kernel
theorem mk_175 : mchk cX12_take 12 [] 14 (some .int) k_175 = true := by decide +kernel
theorem mk_176 : mchk cX12_taking 12 [] 4 (some .int) k_176 = true := by decide +kernel
theorem mk_177 : mchk cX12_takenBy 12 [] 2 (some .int) k_177 = true := by decide +kernel
theorem mk_178 : mchk cX12_isSound 12 [] 7 (some .boolean) k_178 = true := by decide +kernel
theorem mk_179 : mchk cX12_isFit 12 [] 10 (some .boolean) k_179 = true := by decide +kernel
theorem mk_180 : mchk cX12_isPassed 12 [] 8 (some .boolean) k_180 = true := by decide +kernel
theorem mk_181 : mchk cX12_between 12 [] 4 (some .int) k_181 = true := by decide +kernel
theorem mk_182 : mchk cX12_legTime 12 [] 2 (some .int) k_182 = true := by decide +kernel
theorem mk_183 : mchk cX12_sound 12 [] 1 (some .int) k_183 = true := by decide +kernel
theorem mk_184 : mchk cX12_fits 12 [] 2 (some .int) k_184 = true := by decide +kernel
theorem mk_185 : mchk cX12_passes 12 [] 2 (some .int) k_185 = true := by decide +kernel
theorem mk_186 : mchk cX12_passedBy 12 [] 1 (some .int) k_186 = true := by decide +kernel
theorem mk_187 : mchk cX12_deep 12 [] 4 (some .int) k_187 = true := by decide +kernel
theorem mk_188 : mchk cX12_water 12 [] 2 (some .boolean) k_188 = true := by decide +kernel
theorem mk_189 : mchk cX12_act 12 [] 3 (some .boolean) k_189 = true := by decide +kernel
theorem mk_190 : mchk cX12_plan 12 [] 2 (some .int) k_190 = true := by decide +kernel
theorem mk_191 : mchk cX12_act_ 12 [] 3 (some .int) k_191 = true := by decide +kernel
theorem mk_192 : mchk cX12_quayOf 12 [] 2 (some .int) k_192 = true := by decide +kernel
theorem mk_193 : mchk cX12_sideAt 12 [] 2 (some .int) k_193 = true := by decide +kernel
theorem mk_194 : mchk cX12_legOf 12 [] 2 (some .int) k_194 = true := by decide +kernel
theorem mk_195 : mchk cX12_wait 12 [] 5 (some .int) k_195 = true := by decide +kernel
theorem mk_196 : mchk cX12_place 12 [] 3 (some .int) k_196 = true := by decide +kernel
theorem mk_197 : mchk cX12_isDueOff 12 [] 2 (some .boolean) k_197 = true := by decide +kernel
theorem mk_198 : mchk cX12_isDone 12 [] 2 (some .boolean) k_198 = true := by decide +kernel
theorem mk_199 : mchk cX12_costs 12 [] 3 none k_199 = true := by decide +kernel
theorem mk_200 : mchk cX12_does 12 [] 7 (some .int) k_200 = true := by decide +kernel
theorem mk_201 : mchk cX12_goes 12 [] 2 (some .int) k_201 = true := by decide +kernel
theorem mk_202 : mchk cX12_judge 12 [] 5 (some .int) k_202 = true := by decide +kernel
theorem mk_203 : mchk cX12_judged 12 [] 2 (some .int) k_203 = true := by decide +kernel
theorem mk_204 : mchk cX12_judgedAt 12 [] 2 (some .int) k_204 = true := by decide +kernel
theorem mk_205 : mchk cX12_comesOff 12 [] 7 (some .boolean) k_205 = true := by decide +kernel
theorem mk_206 : mchk cX12_isFree 12 [] 3 (some .boolean) k_206 = true := by decide +kernel
theorem mk_207 : mchk cX12_first 12 [] 4 (some .int) k_207 = true := by decide +kernel
theorem mk_208 : mchk cX12_unfold 12 [] 4 none k_208 = true := by decide +kernel
theorem mk_209 : mchk cX12_digit 12 [] 3 (some .int) k_209 = true := by decide +kernel
theorem mk_210 : mchk cX12_comes 12 [] 3 none k_210 = true := by decide +kernel
theorem mk_211 : mchk cX12_spreads 12 [] 11 none k_211 = true := by decide +kernel
theorem mk_212 : mchk cX12_isSettled 12 [] 4 (some .boolean) k_212 = true := by decide +kernel
theorem mk_213 : mchk cX12_bestFrom 12 [] 7 (some .int) k_213 = true := by decide +kernel
theorem mk_214 : mchk cX12_counts 12 [] 4 (some .boolean) k_214 = true := by decide +kernel
theorem mk_215 : mchk cX12_best 12 [] 2 (some .int) k_215 = true := by decide +kernel
theorem mk_216 : mchk cX12_hired 12 [] 6 (some .int) k_216 = true := by decide +kernel
theorem mk_217 : mchk cX12_hiredBy 12 [] 1 (some .int) k_217 = true := by decide +kernel
theorem mk_218 : mchk cX12_vain 12 [] 4 (some .int) k_218 = true := by decide +kernel
theorem mk_219 : mchk cX12_without 12 [] 3 (some .int) k_219 = true := by decide +kernel
theorem mk_220 : mchk cX12_image 12 [] 3 (some .boolean) k_220 = true := by decide +kernel
theorem mk_221 : mchk cX12_restore 12 [] 3 (some .boolean) k_221 = true := by decide +kernel
theorem mk_222 : mchk cX12_count 12 [] 2 (some .int) k_222 = true := by decide +kernel
theorem mk_223 : mchk cJ6_bitCount_0f7a4 13 [] 1 (some .int) k_223 = true := by decide +kernel
theorem mk_224 : mchk cJ9_max_7cf53 14 [] 2 (some .int) k_224 = true := by decide +kernel
theorem mk_225 : mchk cJ9_min_7cf53 14 [] 2 (some .int) k_225 = true := by decide +kernel
theorem mk_226 : mchk cJ7_fill_53178 15 [] 4 none k_226 = true := by decide +kernel
theorem mkl_0 : ∀ z ∈ [0, 1, 2, 3, 4, 5, 6, 7, 8, 9, 10, 11, 12, 13, 14, 15, 16, 17, 18, 19, 20, 21, 22, 23, 24], mkP z := List.forall_mem_cons.mpr ⟨mk_0, List.forall_mem_cons.mpr ⟨mk_1, List.forall_mem_cons.mpr ⟨mk_2, List.forall_mem_cons.mpr ⟨mk_3, List.forall_mem_cons.mpr ⟨mk_4, List.forall_mem_cons.mpr ⟨mk_5, List.forall_mem_cons.mpr ⟨mk_6, List.forall_mem_cons.mpr ⟨mk_7, List.forall_mem_cons.mpr ⟨mk_8, List.forall_mem_cons.mpr ⟨mk_9, List.forall_mem_cons.mpr ⟨mk_10, List.forall_mem_cons.mpr ⟨mk_11, List.forall_mem_cons.mpr ⟨mk_12, List.forall_mem_cons.mpr ⟨mk_13, List.forall_mem_cons.mpr ⟨mk_14, List.forall_mem_cons.mpr ⟨mk_15, List.forall_mem_cons.mpr ⟨mk_16, List.forall_mem_cons.mpr ⟨mk_17, List.forall_mem_cons.mpr ⟨mk_18, List.forall_mem_cons.mpr ⟨mk_19, List.forall_mem_cons.mpr ⟨mk_20, List.forall_mem_cons.mpr ⟨mk_21, List.forall_mem_cons.mpr ⟨mk_22, List.forall_mem_cons.mpr ⟨mk_23, List.forall_mem_cons.mpr ⟨mk_24, fun _ h => absurd h List.not_mem_nil⟩⟩⟩⟩⟩⟩⟩⟩⟩⟩⟩⟩⟩⟩⟩⟩⟩⟩⟩⟩⟩⟩⟩⟩⟩
theorem mkl_1 : ∀ z ∈ [25, 26, 27, 28, 29, 30, 31, 32, 33, 34, 35, 36, 37, 38, 39, 40, 41, 42, 43, 44, 45, 46, 47, 48, 49], mkP z := List.forall_mem_cons.mpr ⟨mk_25, List.forall_mem_cons.mpr ⟨mk_26, List.forall_mem_cons.mpr ⟨mk_27, List.forall_mem_cons.mpr ⟨mk_28, List.forall_mem_cons.mpr ⟨mk_29, List.forall_mem_cons.mpr ⟨mk_30, List.forall_mem_cons.mpr ⟨mk_31, List.forall_mem_cons.mpr ⟨mk_32, List.forall_mem_cons.mpr ⟨mk_33, List.forall_mem_cons.mpr ⟨mk_34, List.forall_mem_cons.mpr ⟨mk_35, List.forall_mem_cons.mpr ⟨mk_36, List.forall_mem_cons.mpr ⟨mk_37, List.forall_mem_cons.mpr ⟨mk_38, List.forall_mem_cons.mpr ⟨mk_39, List.forall_mem_cons.mpr ⟨mk_40, List.forall_mem_cons.mpr ⟨mk_41, List.forall_mem_cons.mpr ⟨mk_42, List.forall_mem_cons.mpr ⟨mk_43, List.forall_mem_cons.mpr ⟨mk_44, List.forall_mem_cons.mpr ⟨mk_45, List.forall_mem_cons.mpr ⟨mk_46, List.forall_mem_cons.mpr ⟨mk_47, List.forall_mem_cons.mpr ⟨mk_48, List.forall_mem_cons.mpr ⟨mk_49, fun _ h => absurd h List.not_mem_nil⟩⟩⟩⟩⟩⟩⟩⟩⟩⟩⟩⟩⟩⟩⟩⟩⟩⟩⟩⟩⟩⟩⟩⟩⟩
theorem mkl_2 : ∀ z ∈ [50, 51, 52, 53, 54, 55, 56, 57, 58, 59, 60, 61, 62, 63, 64, 65, 66, 67, 68, 69, 70, 71, 72, 73, 74], mkP z := List.forall_mem_cons.mpr ⟨mk_50, List.forall_mem_cons.mpr ⟨mk_51, List.forall_mem_cons.mpr ⟨mk_52, List.forall_mem_cons.mpr ⟨mk_53, List.forall_mem_cons.mpr ⟨mk_54, List.forall_mem_cons.mpr ⟨mk_55, List.forall_mem_cons.mpr ⟨mk_56, List.forall_mem_cons.mpr ⟨mk_57, List.forall_mem_cons.mpr ⟨mk_58, List.forall_mem_cons.mpr ⟨mk_59, List.forall_mem_cons.mpr ⟨mk_60, List.forall_mem_cons.mpr ⟨mk_61, List.forall_mem_cons.mpr ⟨mk_62, List.forall_mem_cons.mpr ⟨mk_63, List.forall_mem_cons.mpr ⟨mk_64, List.forall_mem_cons.mpr ⟨mk_65, List.forall_mem_cons.mpr ⟨mk_66, List.forall_mem_cons.mpr ⟨mk_67, List.forall_mem_cons.mpr ⟨mk_68, List.forall_mem_cons.mpr ⟨mk_69, List.forall_mem_cons.mpr ⟨mk_70, List.forall_mem_cons.mpr ⟨mk_71, List.forall_mem_cons.mpr ⟨mk_72, List.forall_mem_cons.mpr ⟨mk_73, List.forall_mem_cons.mpr ⟨mk_74, fun _ h => absurd h List.not_mem_nil⟩⟩⟩⟩⟩⟩⟩⟩⟩⟩⟩⟩⟩⟩⟩⟩⟩⟩⟩⟩⟩⟩⟩⟩⟩
theorem mkl_3 : ∀ z ∈ [75, 76, 77, 78, 79, 80, 81, 82, 83, 84, 85, 86, 87, 88, 89, 90, 91, 92, 93, 94, 95, 96, 97, 98, 99], mkP z := List.forall_mem_cons.mpr ⟨mk_75, List.forall_mem_cons.mpr ⟨mk_76, List.forall_mem_cons.mpr ⟨mk_77, List.forall_mem_cons.mpr ⟨mk_78, List.forall_mem_cons.mpr ⟨mk_79, List.forall_mem_cons.mpr ⟨mk_80, List.forall_mem_cons.mpr ⟨mk_81, List.forall_mem_cons.mpr ⟨mk_82, List.forall_mem_cons.mpr ⟨mk_83, List.forall_mem_cons.mpr ⟨mk_84, List.forall_mem_cons.mpr ⟨mk_85, List.forall_mem_cons.mpr ⟨mk_86, List.forall_mem_cons.mpr ⟨mk_87, List.forall_mem_cons.mpr ⟨mk_88, List.forall_mem_cons.mpr ⟨mk_89, List.forall_mem_cons.mpr ⟨mk_90, List.forall_mem_cons.mpr ⟨mk_91, List.forall_mem_cons.mpr ⟨mk_92, List.forall_mem_cons.mpr ⟨mk_93, List.forall_mem_cons.mpr ⟨mk_94, List.forall_mem_cons.mpr ⟨mk_95, List.forall_mem_cons.mpr ⟨mk_96, List.forall_mem_cons.mpr ⟨mk_97, List.forall_mem_cons.mpr ⟨mk_98, List.forall_mem_cons.mpr ⟨mk_99, fun _ h => absurd h List.not_mem_nil⟩⟩⟩⟩⟩⟩⟩⟩⟩⟩⟩⟩⟩⟩⟩⟩⟩⟩⟩⟩⟩⟩⟩⟩⟩
theorem mkl_4 : ∀ z ∈ [100, 101, 102, 103, 104, 105, 106, 107, 108, 109, 110, 111, 112, 113, 114, 115, 116, 117, 118, 119, 120, 121, 122, 123, 124], mkP z := List.forall_mem_cons.mpr ⟨mk_100, List.forall_mem_cons.mpr ⟨mk_101, List.forall_mem_cons.mpr ⟨mk_102, List.forall_mem_cons.mpr ⟨mk_103, List.forall_mem_cons.mpr ⟨mk_104, List.forall_mem_cons.mpr ⟨mk_105, List.forall_mem_cons.mpr ⟨mk_106, List.forall_mem_cons.mpr ⟨mk_107, List.forall_mem_cons.mpr ⟨mk_108, List.forall_mem_cons.mpr ⟨mk_109, List.forall_mem_cons.mpr ⟨mk_110, List.forall_mem_cons.mpr ⟨mk_111, List.forall_mem_cons.mpr ⟨mk_112, List.forall_mem_cons.mpr ⟨mk_113, List.forall_mem_cons.mpr ⟨mk_114, List.forall_mem_cons.mpr ⟨mk_115, List.forall_mem_cons.mpr ⟨mk_116, List.forall_mem_cons.mpr ⟨mk_117, List.forall_mem_cons.mpr ⟨mk_118, List.forall_mem_cons.mpr ⟨mk_119, List.forall_mem_cons.mpr ⟨mk_120, List.forall_mem_cons.mpr ⟨mk_121, List.forall_mem_cons.mpr ⟨mk_122, List.forall_mem_cons.mpr ⟨mk_123, List.forall_mem_cons.mpr ⟨mk_124, fun _ h => absurd h List.not_mem_nil⟩⟩⟩⟩⟩⟩⟩⟩⟩⟩⟩⟩⟩⟩⟩⟩⟩⟩⟩⟩⟩⟩⟩⟩⟩
theorem mkl_5 : ∀ z ∈ [125, 126, 127, 128, 129, 130, 131, 132, 133, 134, 135, 136, 137, 138, 139, 140, 141, 142, 143, 144, 145, 146, 147, 148, 149], mkP z := List.forall_mem_cons.mpr ⟨mk_125, List.forall_mem_cons.mpr ⟨mk_126, List.forall_mem_cons.mpr ⟨mk_127, List.forall_mem_cons.mpr ⟨mk_128, List.forall_mem_cons.mpr ⟨mk_129, List.forall_mem_cons.mpr ⟨mk_130, List.forall_mem_cons.mpr ⟨mk_131, List.forall_mem_cons.mpr ⟨mk_132, List.forall_mem_cons.mpr ⟨mk_133, List.forall_mem_cons.mpr ⟨mk_134, List.forall_mem_cons.mpr ⟨mk_135, List.forall_mem_cons.mpr ⟨mk_136, List.forall_mem_cons.mpr ⟨mk_137, List.forall_mem_cons.mpr ⟨mk_138, List.forall_mem_cons.mpr ⟨mk_139, List.forall_mem_cons.mpr ⟨mk_140, List.forall_mem_cons.mpr ⟨mk_141, List.forall_mem_cons.mpr ⟨mk_142, List.forall_mem_cons.mpr ⟨mk_143, List.forall_mem_cons.mpr ⟨mk_144, List.forall_mem_cons.mpr ⟨mk_145, List.forall_mem_cons.mpr ⟨mk_146, List.forall_mem_cons.mpr ⟨mk_147, List.forall_mem_cons.mpr ⟨mk_148, List.forall_mem_cons.mpr ⟨mk_149, fun _ h => absurd h List.not_mem_nil⟩⟩⟩⟩⟩⟩⟩⟩⟩⟩⟩⟩⟩⟩⟩⟩⟩⟩⟩⟩⟩⟩⟩⟩⟩
theorem mkl_6 : ∀ z ∈ [150, 151, 152, 153, 154, 155, 156, 157, 158, 159, 160, 161, 162, 163, 164, 165, 166, 167, 168, 169, 170, 171, 172, 173, 174], mkP z := List.forall_mem_cons.mpr ⟨mk_150, List.forall_mem_cons.mpr ⟨mk_151, List.forall_mem_cons.mpr ⟨mk_152, List.forall_mem_cons.mpr ⟨mk_153, List.forall_mem_cons.mpr ⟨mk_154, List.forall_mem_cons.mpr ⟨mk_155, List.forall_mem_cons.mpr ⟨mk_156, List.forall_mem_cons.mpr ⟨mk_157, List.forall_mem_cons.mpr ⟨mk_158, List.forall_mem_cons.mpr ⟨mk_159, List.forall_mem_cons.mpr ⟨mk_160, List.forall_mem_cons.mpr ⟨mk_161, List.forall_mem_cons.mpr ⟨mk_162, List.forall_mem_cons.mpr ⟨mk_163, List.forall_mem_cons.mpr ⟨mk_164, List.forall_mem_cons.mpr ⟨mk_165, List.forall_mem_cons.mpr ⟨mk_166, List.forall_mem_cons.mpr ⟨mk_167, List.forall_mem_cons.mpr ⟨mk_168, List.forall_mem_cons.mpr ⟨mk_169, List.forall_mem_cons.mpr ⟨mk_170, List.forall_mem_cons.mpr ⟨mk_171, List.forall_mem_cons.mpr ⟨mk_172, List.forall_mem_cons.mpr ⟨mk_173, List.forall_mem_cons.mpr ⟨mk_174, fun _ h => absurd h List.not_mem_nil⟩⟩⟩⟩⟩⟩⟩⟩⟩⟩⟩⟩⟩⟩⟩⟩⟩⟩⟩⟩⟩⟩⟩⟩⟩
theorem mkl_7 : ∀ z ∈ [175, 176, 177, 178, 179, 180, 181, 182, 183, 184, 185, 186, 187, 188, 189, 190, 191, 192, 193, 194, 195, 196, 197, 198, 199], mkP z := List.forall_mem_cons.mpr ⟨mk_175, List.forall_mem_cons.mpr ⟨mk_176, List.forall_mem_cons.mpr ⟨mk_177, List.forall_mem_cons.mpr ⟨mk_178, List.forall_mem_cons.mpr ⟨mk_179, List.forall_mem_cons.mpr ⟨mk_180, List.forall_mem_cons.mpr ⟨mk_181, List.forall_mem_cons.mpr ⟨mk_182, List.forall_mem_cons.mpr ⟨mk_183, List.forall_mem_cons.mpr ⟨mk_184, List.forall_mem_cons.mpr ⟨mk_185, List.forall_mem_cons.mpr ⟨mk_186, List.forall_mem_cons.mpr ⟨mk_187, List.forall_mem_cons.mpr ⟨mk_188, List.forall_mem_cons.mpr ⟨mk_189, List.forall_mem_cons.mpr ⟨mk_190, List.forall_mem_cons.mpr ⟨mk_191, List.forall_mem_cons.mpr ⟨mk_192, List.forall_mem_cons.mpr ⟨mk_193, List.forall_mem_cons.mpr ⟨mk_194, List.forall_mem_cons.mpr ⟨mk_195, List.forall_mem_cons.mpr ⟨mk_196, List.forall_mem_cons.mpr ⟨mk_197, List.forall_mem_cons.mpr ⟨mk_198, List.forall_mem_cons.mpr ⟨mk_199, fun _ h => absurd h List.not_mem_nil⟩⟩⟩⟩⟩⟩⟩⟩⟩⟩⟩⟩⟩⟩⟩⟩⟩⟩⟩⟩⟩⟩⟩⟩⟩
theorem mkl_8 : ∀ z ∈ [200, 201, 202, 203, 204, 205, 206, 207, 208, 209, 210, 211, 212, 213, 214, 215, 216, 217, 218, 219, 220, 221, 222, 223, 224], mkP z := List.forall_mem_cons.mpr ⟨mk_200, List.forall_mem_cons.mpr ⟨mk_201, List.forall_mem_cons.mpr ⟨mk_202, List.forall_mem_cons.mpr ⟨mk_203, List.forall_mem_cons.mpr ⟨mk_204, List.forall_mem_cons.mpr ⟨mk_205, List.forall_mem_cons.mpr ⟨mk_206, List.forall_mem_cons.mpr ⟨mk_207, List.forall_mem_cons.mpr ⟨mk_208, List.forall_mem_cons.mpr ⟨mk_209, List.forall_mem_cons.mpr ⟨mk_210, List.forall_mem_cons.mpr ⟨mk_211, List.forall_mem_cons.mpr ⟨mk_212, List.forall_mem_cons.mpr ⟨mk_213, List.forall_mem_cons.mpr ⟨mk_214, List.forall_mem_cons.mpr ⟨mk_215, List.forall_mem_cons.mpr ⟨mk_216, List.forall_mem_cons.mpr ⟨mk_217, List.forall_mem_cons.mpr ⟨mk_218, List.forall_mem_cons.mpr ⟨mk_219, List.forall_mem_cons.mpr ⟨mk_220, List.forall_mem_cons.mpr ⟨mk_221, List.forall_mem_cons.mpr ⟨mk_222, List.forall_mem_cons.mpr ⟨mk_223, List.forall_mem_cons.mpr ⟨mk_224, fun _ h => absurd h List.not_mem_nil⟩⟩⟩⟩⟩⟩⟩⟩⟩⟩⟩⟩⟩⟩⟩⟩⟩⟩⟩⟩⟩⟩⟩⟩⟩
theorem mkl_9 : ∀ z ∈ [225, 226], mkP z := List.forall_mem_cons.mpr ⟨mk_225, List.forall_mem_cons.mpr ⟨mk_226, fun _ h => absurd h List.not_mem_nil⟩⟩
theorem mk_all {z : Nat} (h : z < 227) : mkP z := by
  by_cases q0 : z < 25
  · exact mkl_0 z (md_in (z := z) (a := 0) (n := 25) (l := [0, 1, 2, 3, 4, 5, 6, 7, 8, 9, 10, 11, 12, 13, 14, 15, 16, 17, 18, 19, 20, 21, 22, 23, 24]) rfl (by omega) (by omega))
  by_cases q25 : z < 50
  · exact mkl_1 z (md_in (z := z) (a := 25) (n := 25) (l := [25, 26, 27, 28, 29, 30, 31, 32, 33, 34, 35, 36, 37, 38, 39, 40, 41, 42, 43, 44, 45, 46, 47, 48, 49]) rfl (by omega) (by omega))
  by_cases q50 : z < 75
  · exact mkl_2 z (md_in (z := z) (a := 50) (n := 25) (l := [50, 51, 52, 53, 54, 55, 56, 57, 58, 59, 60, 61, 62, 63, 64, 65, 66, 67, 68, 69, 70, 71, 72, 73, 74]) rfl (by omega) (by omega))
  by_cases q75 : z < 100
  · exact mkl_3 z (md_in (z := z) (a := 75) (n := 25) (l := [75, 76, 77, 78, 79, 80, 81, 82, 83, 84, 85, 86, 87, 88, 89, 90, 91, 92, 93, 94, 95, 96, 97, 98, 99]) rfl (by omega) (by omega))
  by_cases q100 : z < 125
  · exact mkl_4 z (md_in (z := z) (a := 100) (n := 25) (l := [100, 101, 102, 103, 104, 105, 106, 107, 108, 109, 110, 111, 112, 113, 114, 115, 116, 117, 118, 119, 120, 121, 122, 123, 124]) rfl (by omega) (by omega))
  by_cases q125 : z < 150
  · exact mkl_5 z (md_in (z := z) (a := 125) (n := 25) (l := [125, 126, 127, 128, 129, 130, 131, 132, 133, 134, 135, 136, 137, 138, 139, 140, 141, 142, 143, 144, 145, 146, 147, 148, 149]) rfl (by omega) (by omega))
  by_cases q150 : z < 175
  · exact mkl_6 z (md_in (z := z) (a := 150) (n := 25) (l := [150, 151, 152, 153, 154, 155, 156, 157, 158, 159, 160, 161, 162, 163, 164, 165, 166, 167, 168, 169, 170, 171, 172, 173, 174]) rfl (by omega) (by omega))
  by_cases q175 : z < 200
  · exact mkl_7 z (md_in (z := z) (a := 175) (n := 25) (l := [175, 176, 177, 178, 179, 180, 181, 182, 183, 184, 185, 186, 187, 188, 189, 190, 191, 192, 193, 194, 195, 196, 197, 198, 199]) rfl (by omega) (by omega))
  by_cases q200 : z < 225
  · exact mkl_8 z (md_in (z := z) (a := 200) (n := 25) (l := [200, 201, 202, 203, 204, 205, 206, 207, 208, 209, 210, 211, 212, 213, 214, 215, 216, 217, 218, 219, 220, 221, 222, 223, 224]) rfl (by omega) (by omega))
  by_cases q225 : z < 227
  · exact mkl_9 z (md_in (z := z) (a := 225) (n := 2) (l := [225, 226]) rfl (by omega) (by omega))
  exact absurd h (by omega)
