def ax_cn (c : Nat) : String := match ax_nth [RX0, RX1, RX2, RX3, RX4, RX5, RX6, RX7, RX8, RX9, RX10, RX11, RJ6, RJ13] c with
  | some x => x
  | none => RX0
/-- the class of a kind: its place in vwCl, name, fields, how many -/
def ax_ct (k : Nat) : Nat × (String × (u_T × Nat)) := match k with
  | 1 => (2, (RX3, (TX3, 7)))
  | 3 => (1, (RX2, (TX2, 1)))
  | 6 => (5, (RX6, (TX6, 4)))
  | 8 => (6, (RX7, (TX7, 3)))
  | 10 => (7, (RX8, (TX8, 2)))
  | 12 => (3, (RX4, (TX4, 4)))
  | 13 => (8, (RX9, (TX9, 1)))
  | 15 => (4, (RX5, (TX5, 2)))
  | 18 => (0, (RX1, (TX1, 1)))
  | 22 => (10, (RX11, (TX11, 26)))
  | _ => (9, (RX10, (TX10, 11)))
def ax_obj : List Nat := [0, 1, 3, 6, 8, 10, 12, 13, 15, 18, 22]
def ax_fd (k : Nat) : List (Nat × (Nat × Nat)) := match k with
  | 0 => [(3, (1, 0)), (3, (1, 1)), (3, (1, 2)), (4, (0, 0)), (3, (7, 0)), (3, (12, 0)), (3, (13, 0)), (3, (15, 0)), (3, (18, 0)), (3, (20, 0)), (3, (21, 0))]
  | 1 => [(1, (0, 0)), (0, (0, 0)), (2, (2, 0)), (2, (3, 0)), (0, (0, 0)), (2, (5, 0)), (0, (0, 0))]
  | 3 => [(2, (4, 0))]
  | 6 => [(0, (0, 0)), (0, (0, 0)), (0, (0, 0)), (0, (0, 0))]
  | 8 => [(0, (0, 0)), (0, (0, 0)), (2, (9, 0))]
  | 10 => [(3, (11, 0)), (0, (0, 0))]
  | 12 => [(3, (10, 0)), (0, (0, 0)), (0, (0, 0)), (0, (0, 0))]
  | 13 => [(3, (14, 0))]
  | 15 => [(3, (16, 0)), (3, (17, 0))]
  | 18 => [(3, (19, 0))]
  | 22 => [(3, (23, 0)), (0, (0, 0)), (3, (24, 0)), (3, (25, 0)), (0, (0, 0)), (3, (26, 0)), (3, (27, 0)), (3, (28, 0)), (3, (29, 0)), (0, (0, 0)), (0, (0, 0)), (3, (30, 0)), (0, (0, 0)), (0, (0, 0)), (0, (0, 0)), (0, (0, 0)), (3, (31, 0)), (3, (32, 0)), (3, (33, 0)), (3, (34, 0)), (4, (0, 0)), (3, (35, 0)), (3, (36, 0)), (3, (37, 0)), (3, (38, 0)), (3, (39, 0))]
  | _ => []
def ax_cnt (k : Nat) : Nat := match ax_nth [1, 3, 3, 3, 3, 3, 48, 1, 8, 8, 1, 1, 1, 1, 1, 1, 1, 1, 1, 1, 1, 1, 1, 1, 1, 1, 1, 1, 1, 1, 1, 1, 1, 1, 1, 1, 1, 1, 1, 1, 1, 1, 6] k with
  | some n => n
  | none => 0
abbrev ax_IR : Type := MethodName × (ByteArray × (Nat × (Option FieldType × (Nat × (Bool × (Nat × Nat))))))
abbrev r_X0_isCell : ax_IR := (yX0_isCell, (cX0_isCell, (1, ((some .boolean), (0, (true, (1, 0)))))))
abbrev r_X0_bit : ax_IR := (yX0_bit, (cX0_bit, (1, ((some .long), (0, (true, (1, 0)))))))
abbrev r_X0_has : ax_IR := (yX0_has, (cX0_has, (3, ((some .boolean), (0, (true, (2, 0)))))))
abbrev r_J13_bitCount_95d88 : ax_IR := (yJ13_bitCount_95d88, (cJ13_bitCount_95d88, (2, ((some .int), (13, (true, (1, 0)))))))
abbrev r_X0_lowest : ax_IR := (yX0_lowest, (cX0_lowest, (2, ((some .int), (0, (true, (1, 0)))))))
abbrev r_X0_leftAndRight : ax_IR := (yX0_leftAndRight, (cX0_leftAndRight, (2, ((some .long), (0, (true, (1, 0)))))))
abbrev r_X0_upAndDown : ax_IR := (yX0_upAndDown, (cX0_upAndDown, (2, ((some .long), (0, (true, (1, 0)))))))
abbrev r_X0_beside : ax_IR := (yX0_beside, (cX0_beside, (2, ((some .long), (0, (true, (1, 0)))))))
abbrev r_X0_zone : ax_IR := (yX0_zone, (cX0_zone, (5, ((some .long), (0, (true, (2, 0)))))))
abbrev r_X0_after : ax_IR := (yX0_after, (cX0_after, (6, ((some .int), (0, (true, (2, 0)))))))
abbrev r_X1_covers : ax_IR := (yX1_covers, (cX1_covers, (9, ((some .boolean), (1, (true, (4, 18)))))))
abbrev r_X1_find : ax_IR := (yX1_find, (cX1_find, (4, ((some .int), (1, (false, (1, 18)))))))
abbrev r_X2_become : ax_IR := (yX2_become, (cX2_become, (2, (none, (2, (false, (1, 3)))))))
abbrev r_X2_of : ax_IR := (yX2_of, (cX2_of, (3, ((some .int), (2, (false, (2, 3)))))))
abbrev r_X2_put : ax_IR := (yX2_put, (cX2_put, (4, (none, (2, (false, (3, 3)))))))
abbrev r_X2_owedBy : ax_IR := (yX2_owedBy, (cX2_owedBy, (4, ((some .int), (2, (false, (1, 3)))))))
abbrev r_X2_owedTo : ax_IR := (yX2_owedTo, (cX2_owedTo, (4, ((some .int), (2, (false, (1, 3)))))))
abbrev r_X2_balance : ax_IR := (yX2_balance, (cX2_balance, (2, ((some .int), (2, (false, (1, 3)))))))
abbrev r_X2_all : ax_IR := (yX2_all, (cX2_all, (3, ((some .int), (2, (false, (0, 3)))))))
abbrev r_X2_shared : ax_IR := (yX2_shared, (cX2_shared, (4, ((some .int), (2, (false, (0, 3)))))))
abbrev r_X2_cancel : ax_IR := (yX2_cancel, (cX2_cancel, (4, (none, (2, (false, (0, 3)))))))
abbrev r_X2_creditorsOf : ax_IR := (yX2_creditorsOf, (cX2_creditorsOf, (4, ((some .int), (2, (false, (1, 3)))))))
abbrev r_X2_creditorsOfAll : ax_IR := (yX2_creditorsOfAll, (cX2_creditorsOfAll, (4, ((some .int), (2, (false, (1, 3)))))))
abbrev r_X2_links : ax_IR := (yX2_links, (cX2_links, (5, ((some .int), (2, (false, (2, 3)))))))
abbrev r_X6_fill : ax_IR := (yX6_fill, (cX6_fill, (5, (none, (6, (false, (4, 6)))))))
abbrev r_X6_become : ax_IR := (yX6_become, (cX6_become, (2, (none, (6, (false, (1, 6)))))))
abbrev r_X3_become : ax_IR := (yX3_become, (cX3_become, (3, (none, (3, (false, (1, 1)))))))
abbrev r_X3_isPerson : ax_IR := (yX3_isPerson, (cX3_isPerson, (2, ((some .boolean), (3, (false, (1, 1)))))))
abbrev r_X3_isSeed : ax_IR := (yX3_isSeed, (cX3_isSeed, (2, ((some .boolean), (3, (false, (1, 1)))))))
abbrev r_X3_hasWall : ax_IR := (yX3_hasWall, (cX3_hasWall, (2, ((some .boolean), (3, (false, (1, 1)))))))
abbrev r_X3_putWall : ax_IR := (yX3_putWall, (cX3_putWall, (3, (none, (3, (false, (2, 1)))))))
abbrev r_X3_peopleWithin : ax_IR := (yX3_peopleWithin, (cX3_peopleWithin, (5, ((some .int), (3, (false, (1, 1)))))))
abbrev r_X3_isStoodOn : ax_IR := (yX3_isStoodOn, (cX3_isStoodOn, (2, ((some .boolean), (3, (false, (1, 1)))))))
abbrev r_X3_addPerson : ax_IR := (yX3_addPerson, (cX3_addPerson, (2, ((some .int), (3, (false, (1, 1)))))))
abbrev r_X3_addSeed : ax_IR := (yX3_addSeed, (cX3_addSeed, (5, ((some .int), (3, (false, (4, 1)))))))
abbrev r_X3_debtors : ax_IR := (yX3_debtors, (cX3_debtors, (3, ((some .int), (3, (false, (0, 1)))))))
abbrev r_X3_allSeeds : ax_IR := (yX3_allSeeds, (cX3_allSeeds, (1, ((some .int), (3, (false, (0, 1)))))))
abbrev r_X3_seedsBut : ax_IR := (yX3_seedsBut, (cX3_seedsBut, (4, ((some .int), (3, (false, (1, 1)))))))
abbrev r_X6_price : ax_IR := (yX6_price, (cX6_price, (1, ((some .int), (6, (false, (0, 6)))))))
abbrev r_X3_enoughOf : ax_IR := (yX3_enoughOf, (cX3_enoughOf, (7, ((some .int), (3, (false, (1, 1)))))))
abbrev r_X6_isKind : ax_IR := (yX6_isKind, (cX6_isKind, (1, ((some .boolean), (6, (true, (1, 6)))))))
abbrev r_X6_span : ax_IR := (yX6_span, (cX6_span, (1, ((some .int), (6, (false, (0, 6)))))))
abbrev r_X6_zone : ax_IR := (yX6_zone, (cX6_zone, (1, ((some .long), (6, (false, (0, 6)))))))
abbrev r_X3_near : ax_IR := (yX3_near, (cX3_near, (5, ((some .int), (3, (false, (2, 1)))))))
abbrev r_X3_shownBy : ax_IR := (yX3_shownBy, (cX3_shownBy, (2, ((some .int), (3, (false, (1, 1)))))))
abbrev r_X3_shown : ax_IR := (yX3_shown, (cX3_shown, (3, ((some .int), (3, (false, (0, 1)))))))
abbrev r_X3_showers : ax_IR := (yX3_showers, (cX3_showers, (4, ((some .int), (3, (false, (1, 1)))))))
abbrev r_X3_quietAmong : ax_IR := (yX3_quietAmong, (cX3_quietAmong, (7, ((some .long), (3, (false, (2, 1)))))))
abbrev r_X3_quietFor : ax_IR := (yX3_quietFor, (cX3_quietFor, (2, ((some .long), (3, (false, (1, 1)))))))
abbrev r_X3_dueOf : ax_IR := (yX3_dueOf, (cX3_dueOf, (7, ((some .int), (3, (false, (2, 1)))))))
abbrev r_X3_allDueOf : ax_IR := (yX3_allDueOf, (cX3_allDueOf, (4, ((some .int), (3, (false, (1, 1)))))))
abbrev r_X3_isNearRank : ax_IR := (yX3_isNearRank, (cX3_isNearRank, (4, ((some .boolean), (3, (false, (1, 1)))))))
abbrev r_X6_isTelltale : ax_IR := (yX6_isTelltale, (cX6_isTelltale, (1, ((some .boolean), (6, (false, (0, 6)))))))
abbrev r_X3_telltales : ax_IR := (yX3_telltales, (cX3_telltales, (5, ((some .int), (3, (false, (2, 1)))))))
abbrev r_X3_mayOwe : ax_IR := (yX3_mayOwe, (cX3_mayOwe, (3, ((some .boolean), (3, (false, (2, 1)))))))
abbrev r_X3_surelyOwes : ax_IR := (yX3_surelyOwes, (cX3_surelyOwes, (6, ((some .boolean), (3, (false, (2, 1)))))))
abbrev r_X3_go : ax_IR := (yX3_go, (cX3_go, (4, ((some .boolean), (3, (false, (2, 1)))))))
abbrev r_X3_draw : ax_IR := (yX3_draw, (cX3_draw, (2, ((some .int), (3, (false, (1, 1)))))))
abbrev r_X8_at : ax_IR := (yX8_at, (cX8_at, (2, ((some .int), (8, (false, (1, 10)))))))
abbrev r_X4_tokenOf : ax_IR := (yX4_tokenOf, (cX4_tokenOf, (1, ((some .int), (4, (true, (1, 12)))))))
abbrev r_X4_advance : ax_IR := (yX4_advance, (cX4_advance, (1, (none, (4, (false, (0, 12)))))))
abbrev r_X4_isWord : ax_IR := (yX4_isWord, (cX4_isWord, (3, ((some .boolean), (4, (false, (1, 12)))))))
abbrev r_X4_readNumber : ax_IR := (yX4_readNumber, (cX4_readNumber, (4, ((some .int), (4, (false, (1, 12)))))))
abbrev r_X4_readWall : ax_IR := (yX4_readWall, (cX4_readWall, (3, ((some .boolean), (4, (false, (1, 12)))))))
abbrev r_X4_readOpen : ax_IR := (yX4_readOpen, (cX4_readOpen, (3, ((some .boolean), (4, (false, (1, 12)))))))
abbrev r_X4_readFloor : ax_IR := (yX4_readFloor, (cX4_readFloor, (3, ((some .int), (4, (false, (1, 12)))))))
abbrev r_X4_readPerson : ax_IR := (yX4_readPerson, (cX4_readPerson, (3, ((some .boolean), (4, (false, (1, 12)))))))
abbrev r_X4_readOwes : ax_IR := (yX4_readOwes, (cX4_readOwes, (5, ((some .boolean), (4, (false, (1, 12)))))))
abbrev r_X4_readSeed : ax_IR := (yX4_readSeed, (cX4_readSeed, (6, ((some .boolean), (4, (false, (1, 12)))))))
abbrev r_X4_readGo : ax_IR := (yX4_readGo, (cX4_readGo, (4, ((some .boolean), (4, (false, (1, 12)))))))
abbrev r_X4_readStatement : ax_IR := (yX4_readStatement, (cX4_readStatement, (2, ((some .boolean), (4, (false, (1, 12)))))))
abbrev r_X4_readAll : ax_IR := (yX4_readAll, (cX4_readAll, (3, ((some .int), (4, (false, (1, 12)))))))
abbrev r_X5_closes : ax_IR := (yX5_closes, (cX5_closes, (7, ((some .boolean), (5, (true, (5, 15)))))))
abbrev r_X5_find : ax_IR := (yX5_find, (cX5_find, (4, ((some .int), (5, (false, (1, 15)))))))
abbrev r_X6_isOf : ax_IR := (yX6_isOf, (cX6_isOf, (4, ((some .boolean), (6, (false, (1, 6)))))))
abbrev r_X7_isSort : ax_IR := (yX7_isSort, (cX7_isSort, (1, ((some .boolean), (7, (true, (1, 8)))))))
abbrev r_X7_clear : ax_IR := (yX7_clear, (cX7_clear, (1, (none, (7, (false, (0, 8)))))))
abbrev r_X7_takeSeed : ax_IR := (yX7_takeSeed, (cX7_takeSeed, (2, (none, (7, (false, (1, 8)))))))
abbrev r_X7_takeRow : ax_IR := (yX7_takeRow, (cX7_takeRow, (4, (none, (7, (false, (2, 8)))))))
abbrev r_X7_isEmpty : ax_IR := (yX7_isEmpty, (cX7_isEmpty, (1, ((some .boolean), (7, (false, (0, 8)))))))
abbrev r_X7_holdsSeed : ax_IR := (yX7_holdsSeed, (cX7_holdsSeed, (1, ((some .boolean), (7, (false, (0, 8)))))))
abbrev r_X7_seedNumber : ax_IR := (yX7_seedNumber, (cX7_seedNumber, (1, ((some .int), (7, (false, (0, 8)))))))
abbrev r_X7_noRow : ax_IR := (yX7_noRow, (cX7_noRow, (1, ((some .int), (7, (false, (0, 8)))))))
abbrev r_X7_hasElement : ax_IR := (yX7_hasElement, (cX7_hasElement, (2, ((some .boolean), (7, (false, (1, 8)))))))
abbrev r_X7_hasElements : ax_IR := (yX7_hasElements, (cX7_hasElements, (3, ((some .boolean), (7, (false, (2, 8)))))))
abbrev r_X7_fit : ax_IR := (yX7_fit, (cX7_fit, (3, ((some .long), (7, (false, (1, 8)))))))
abbrev r_X7_put : ax_IR := (yX7_put, (cX7_put, (4, (none, (7, (false, (2, 8)))))))
abbrev r_X7_cellAt : ax_IR := (yX7_cellAt, (cX7_cellAt, (2, ((some .int), (7, (false, (1, 8)))))))
abbrev r_X7_areCells : ax_IR := (yX7_areCells, (cX7_areCells, (3, ((some .boolean), (7, (false, (1, 8)))))))
abbrev r_X7_cellBits : ax_IR := (yX7_cellBits, (cX7_cellBits, (5, ((some .long), (7, (false, (1, 8)))))))
abbrev r_X8_isFull : ax_IR := (yX8_isFull, (cX8_isFull, (1, ((some .boolean), (8, (false, (0, 10)))))))
abbrev r_X8_add : ax_IR := (yX8_add, (cX8_add, (2, (none, (8, (false, (1, 10)))))))
abbrev r_X9_find : ax_IR := (yX9_find, (cX9_find, (8, ((some .int), (9, (false, (3, 13)))))))
abbrev r_X9_cellOf : ax_IR := (yX9_cellOf, (cX9_cellOf, (6, ((some .int), (9, (false, (3, 13)))))))
abbrev r_X9_flood : ax_IR := (yX9_flood, (cX9_flood, (6, ((some .long), (9, (true, (2, 13)))))))
abbrev r_X10_isShelf : ax_IR := (yX10_isShelf, (cX10_isShelf, (1, ((some .boolean), (10, (true, (1, 0)))))))
abbrev r_X10_refuse : ax_IR := (yX10_refuse, (cX10_refuse, (3, ((some .int), (10, (false, (1, 0)))))))
abbrev r_X10_row : ax_IR := (yX10_row, (cX10_row, (4, ((some .int), (10, (false, (3, 0)))))))
abbrev r_X10_set : ax_IR := (yX10_set, (cX10_set, (6, ((some .int), (10, (false, (3, 0)))))))
abbrev r_X10_copy : ax_IR := (yX10_copy, (cX10_copy, (8, ((some .int), (10, (false, (5, 0)))))))
abbrev r_X10_element : ax_IR := (yX10_element, (cX10_element, (3, ((some .long), (10, (false, (2, 0)))))))
abbrev r_X10_holds : ax_IR := (yX10_holds, (cX10_holds, (2, ((some .int), (10, (false, (1, 0)))))))
abbrev r_X10_show : ax_IR := (yX10_show, (cX10_show, (3, ((some .int), (10, (false, (2, 0)))))))
abbrev r_X10_saysAs : ax_IR := (yX10_saysAs, (cX10_saysAs, (3, ((some .int), (10, (false, (2, 0)))))))
abbrev r_X10_says : ax_IR := (yX10_says, (cX10_says, (5, ((some .int), (10, (false, (2, 0)))))))
abbrev r_X10_wall : ax_IR := (yX10_wall, (cX10_wall, (3, ((some .int), (10, (false, (2, 0)))))))
abbrev r_X10_person : ax_IR := (yX10_person, (cX10_person, (2, ((some .int), (10, (false, (1, 0)))))))
abbrev r_X10_sow : ax_IR := (yX10_sow, (cX10_sow, (5, ((some .int), (10, (false, (4, 0)))))))
abbrev r_X10_isPair : ax_IR := (yX10_isPair, (cX10_isPair, (3, ((some .boolean), (10, (false, (2, 0)))))))
abbrev r_X10_owes : ax_IR := (yX10_owes, (cX10_owes, (5, ((some .int), (10, (false, (3, 0)))))))
abbrev r_X10_feed : ax_IR := (yX10_feed, (cX10_feed, (2, ((some .int), (10, (false, (1, 0)))))))
abbrev r_X10_wipe : ax_IR := (yX10_wipe, (cX10_wipe, (2, ((some .int), (10, (false, (0, 0)))))))
abbrev r_X10_garden : ax_IR := (yX10_garden, (cX10_garden, (2, ((some .int), (10, (false, (0, 0)))))))
abbrev r_X10_seedOf : ax_IR := (yX10_seedOf, (cX10_seedOf, (4, ((some .int), (10, (false, (2, 0)))))))
abbrev r_J6_bitCount_0f7a4 : ax_IR := (yJ6_bitCount_0f7a4, (cJ6_bitCount_0f7a4, (1, ((some .int), (12, (true, (1, 0)))))))
abbrev r_X10_personOf : ax_IR := (yX10_personOf, (cX10_personOf, (3, ((some .int), (10, (false, (2, 0)))))))
abbrev r_X10_debt : ax_IR := (yX10_debt, (cX10_debt, (3, ((some .int), (10, (false, (2, 0)))))))
abbrev r_X10_isWall : ax_IR := (yX10_isWall, (cX10_isWall, (2, ((some .int), (10, (false, (1, 0)))))))
abbrev r_X10_up : ax_IR := (yX10_up, (cX10_up, (2, ((some .int), (10, (false, (1, 0)))))))
abbrev r_X10_by : ax_IR := (yX10_by, (cX10_by, (2, ((some .int), (10, (false, (1, 0)))))))
abbrev r_X10_quiet : ax_IR := (yX10_quiet, (cX10_quiet, (3, ((some .int), (10, (false, (2, 0)))))))
abbrev r_X10_way : ax_IR := (yX10_way, (cX10_way, (6, ((some .int), (10, (false, (3, 0)))))))
abbrev r_X10_hasWay : ax_IR := (yX10_hasWay, (cX10_hasWay, (5, ((some .boolean), (10, (false, (3, 0)))))))
abbrev r_X10_bar : ax_IR := (yX10_bar, (cX10_bar, (4, ((some .int), (10, (false, (2, 0)))))))
abbrev r_X10_reach : ax_IR := (yX10_reach, (cX10_reach, (2, ((some .int), (10, (false, (1, 0)))))))
abbrev r_X10_loud : ax_IR := (yX10_loud, (cX10_loud, (2, ((some .int), (10, (false, (1, 0)))))))
abbrev r_X10_together : ax_IR := (yX10_together, (cX10_together, (4, ((some .int), (10, (false, (1, 0)))))))
abbrev r_X10_calm : ax_IR := (yX10_calm, (cX10_calm, (4, ((some .int), (10, (false, (0, 0)))))))
abbrev r_X10_idle : ax_IR := (yX10_idle, (cX10_idle, (3, ((some .int), (10, (false, (0, 0)))))))
abbrev r_X10_worst : ax_IR := (yX10_worst, (cX10_worst, (5, ((some .int), (10, (false, (0, 0)))))))
abbrev r_X10_chain : ax_IR := (yX10_chain, (cX10_chain, (3, ((some .int), (10, (false, (2, 0)))))))
abbrev r_X10_poorest : ax_IR := (yX10_poorest, (cX10_poorest, (3, ((some .int), (10, (false, (0, 0)))))))
abbrev r_X10_due : ax_IR := (yX10_due, (cX10_due, (3, ((some .int), (10, (false, (2, 0)))))))
abbrev r_X10_bare : ax_IR := (yX10_bare, (cX10_bare, (4, ((some .int), (10, (false, (0, 0)))))))
abbrev r_X10_net : ax_IR := (yX10_net, (cX10_net, (2, ((some .int), (10, (false, (1, 0)))))))
abbrev r_X10_mutual : ax_IR := (yX10_mutual, (cX10_mutual, (1, ((some .int), (10, (false, (0, 0)))))))
abbrev r_X10_ring : ax_IR := (yX10_ring, (cX10_ring, (3, ((some .int), (10, (false, (1, 0)))))))
abbrev r_X10_guess : ax_IR := (yX10_guess, (cX10_guess, (5, ((some .int), (10, (false, (3, 0)))))))
abbrev r_X10_noTold : ax_IR := (yX10_noTold, (cX10_noTold, (3, ((some .int), (10, (true, (2, 0)))))))
abbrev r_X10_tells : ax_IR := (yX10_tells, (cX10_tells, (7, ((some .int), (10, (false, (3, 0)))))))
abbrev r_X10_noWalk : ax_IR := (yX10_noWalk, (cX10_noWalk, (4, ((some .int), (10, (false, (3, 0)))))))
abbrev r_X10_wrongOf : ax_IR := (yX10_wrongOf, (cX10_wrongOf, (7, ((some .int), (10, (false, (3, 0)))))))
abbrev r_X10_judge : ax_IR := (yX10_judge, (cX10_judge, (5, ((some .int), (10, (false, (3, 0)))))))
abbrev r_X10_noTrueWalk : ax_IR := (yX10_noTrueWalk, (cX10_noTrueWalk, (5, ((some .int), (10, (false, (3, 0)))))))
abbrev r_X10_seen : ax_IR := (yX10_seen, (cX10_seen, (8, ((some .int), (10, (false, (3, 0)))))))
abbrev r_X10_walk : ax_IR := (yX10_walk, (cX10_walk, (5, ((some .int), (10, (false, (3, 0)))))))
abbrev r_X10_step : ax_IR := (yX10_step, (cX10_step, (3, ((some .int), (10, (false, (2, 0)))))))
abbrev r_X10_pay : ax_IR := (yX10_pay, (cX10_pay, (5, ((some .int), (10, (false, (3, 0)))))))
abbrev r_X10_strike : ax_IR := (yX10_strike, (cX10_strike, (2, ((some .int), (10, (false, (0, 0)))))))
abbrev r_X10_countShowing : ax_IR := (yX10_countShowing, (cX10_countShowing, (3, ((some .int), (10, (false, (0, 0)))))))
abbrev r_X10_days : ax_IR := (yX10_days, (cX10_days, (5, ((some .int), (10, (false, (1, 0)))))))
abbrev r_X10_dropLostSeeds : ax_IR := (yX10_dropLostSeeds, (cX10_dropLostSeeds, (2, (none, (10, (false, (0, 0)))))))
abbrev r_X10_weed : ax_IR := (yX10_weed, (cX10_weed, (1, ((some .int), (10, (false, (0, 0)))))))
abbrev r_X10_seed : ax_IR := (yX10_seed, (cX10_seed, (3, ((some .int), (10, (false, (1, 0)))))))
abbrev r_X10_image : ax_IR := (yX10_image, (cX10_image, (1, ((some .int), (10, (false, (0, 0)))))))
abbrev r_X10_back : ax_IR := (yX10_back, (cX10_back, (1, ((some .int), (10, (false, (0, 0)))))))
abbrev r_X10_fullShelves : ax_IR := (yX10_fullShelves, (cX10_fullShelves, (3, ((some .int), (10, (false, (0, 0)))))))
abbrev r_X10_status : ax_IR := (yX10_status, (cX10_status, (2, ((some .int), (10, (false, (1, 0)))))))
abbrev r_X11_no : ax_IR := (yX11_no, (cX11_no, (2, ((some .int), (11, (false, (1, 22)))))))
abbrev r_X11_within : ax_IR := (yX11_within, (cX11_within, (3, ((some .boolean), (11, (true, (3, 22)))))))
abbrev r_X11_isCell : ax_IR := (yX11_isCell, (cX11_isCell, (1, ((some .boolean), (11, (true, (1, 22)))))))
abbrev r_X11_isOne : ax_IR := (yX11_isOne, (cX11_isOne, (2, ((some .boolean), (11, (false, (1, 22)))))))
abbrev r_X11_isSeed : ax_IR := (yX11_isSeed, (cX11_isSeed, (2, ((some .boolean), (11, (false, (1, 22)))))))
abbrev r_X11_isShelf : ax_IR := (yX11_isShelf, (cX11_isShelf, (1, ((some .boolean), (11, (true, (1, 22)))))))
abbrev r_X11_isRow : ax_IR := (yX11_isRow, (cX11_isRow, (2, ((some .boolean), (11, (false, (1, 22)))))))
abbrev r_X11_areTwo : ax_IR := (yX11_areTwo, (cX11_areTwo, (3, ((some .boolean), (11, (false, (2, 22)))))))
abbrev r_X11_row : ax_IR := (yX11_row, (cX11_row, (5, ((some .int), (11, (false, (3, 22)))))))
abbrev r_X11_noRow : ax_IR := (yX11_noRow, (cX11_noRow, (2, ((some .int), (11, (false, (1, 22)))))))
abbrev r_X11_kept : ax_IR := (yX11_kept, (cX11_kept, (3, ((some .long), (11, (true, (2, 22)))))))
abbrev r_X11_set : ax_IR := (yX11_set, (cX11_set, (5, ((some .int), (11, (false, (3, 22)))))))
abbrev r_X11_copy : ax_IR := (yX11_copy, (cX11_copy, (7, ((some .int), (11, (false, (5, 22)))))))
abbrev r_X11_element : ax_IR := (yX11_element, (cX11_element, (3, ((some .long), (11, (false, (2, 22)))))))
abbrev r_X11_holds : ax_IR := (yX11_holds, (cX11_holds, (2, ((some .int), (11, (false, (1, 22)))))))
abbrev r_X11_show : ax_IR := (yX11_show, (cX11_show, (3, ((some .int), (11, (false, (2, 22)))))))
abbrev r_X11_isUnder : ax_IR := (yX11_isUnder, (cX11_isUnder, (2, ((some .boolean), (11, (true, (2, 22)))))))
abbrev r_X11_reachOf : ax_IR := (yX11_reachOf, (cX11_reachOf, (2, ((some .int), (11, (false, (1, 22)))))))
abbrev r_X11_allOwed : ax_IR := (yX11_allOwed, (cX11_allOwed, (4, ((some .int), (11, (false, (1, 22)))))))
abbrev r_X11_owing : ax_IR := (yX11_owing, (cX11_owing, (3, ((some .int), (11, (false, (0, 22)))))))
abbrev r_X11_takes : ax_IR := (yX11_takes, (cX11_takes, (2, ((some .int), (11, (false, (1, 22)))))))
abbrev r_X11_says : ax_IR := (yX11_says, (cX11_says, (4, ((some .int), (11, (false, (2, 22)))))))
abbrev r_X11_somebodyAt : ax_IR := (yX11_somebodyAt, (cX11_somebodyAt, (3, ((some .boolean), (11, (false, (1, 22)))))))
abbrev r_X11_wall : ax_IR := (yX11_wall, (cX11_wall, (3, ((some .int), (11, (false, (2, 22)))))))
abbrev r_X11_newOne : ax_IR := (yX11_newOne, (cX11_newOne, (3, ((some .int), (11, (false, (1, 22)))))))
abbrev r_X11_person : ax_IR := (yX11_person, (cX11_person, (2, ((some .int), (11, (false, (1, 22)))))))
abbrev r_X11_newSeed : ax_IR := (yX11_newSeed, (cX11_newSeed, (5, ((some .int), (11, (false, (4, 22)))))))
abbrev r_X11_sow : ax_IR := (yX11_sow, (cX11_sow, (5, ((some .int), (11, (false, (4, 22)))))))
abbrev r_X11_owes : ax_IR := (yX11_owes, (cX11_owes, (5, ((some .int), (11, (false, (3, 22)))))))
abbrev r_X11_feed : ax_IR := (yX11_feed, (cX11_feed, (2, ((some .int), (11, (false, (1, 22)))))))
abbrev r_X11_wipe : ax_IR := (yX11_wipe, (cX11_wipe, (2, ((some .int), (11, (false, (0, 22)))))))
abbrev r_X11_isLetter : ax_IR := (yX11_isLetter, (cX11_isLetter, (1, ((some .boolean), (11, (true, (1, 22)))))))
abbrev r_X11_isDigit : ax_IR := (yX11_isDigit, (cX11_isDigit, (1, ((some .boolean), (11, (true, (1, 22)))))))
abbrev r_X11_next : ax_IR := (yX11_next, (cX11_next, (2, (none, (11, (false, (0, 22)))))))
abbrev r_X11_isWord : ax_IR := (yX11_isWord, (cX11_isWord, (3, ((some .boolean), (11, (false, (1, 22)))))))
abbrev r_X11_number : ax_IR := (yX11_number, (cX11_number, (3, ((some .int), (11, (false, (2, 22)))))))
abbrev r_X11_statement : ax_IR := (yX11_statement, (cX11_statement, (5, ((some .boolean), (11, (false, (0, 22)))))))
abbrev r_X11_keep : ax_IR := (yX11_keep, (cX11_keep, (3, (none, (11, (false, (1, 22)))))))
abbrev r_X11_again : ax_IR := (yX11_again, (cX11_again, (3, (none, (11, (false, (1, 22)))))))
abbrev r_X11_garden : ax_IR := (yX11_garden, (cX11_garden, (3, ((some .int), (11, (false, (0, 22)))))))
abbrev r_X11_far : ax_IR := (yX11_far, (cX11_far, (2, ((some .int), (11, (true, (2, 22)))))))
abbrev r_X11_owesEnough : ax_IR := (yX11_owesEnough, (cX11_owesEnough, (3, ((some .boolean), (11, (false, (2, 22)))))))
abbrev r_X11_isUp : ax_IR := (yX11_isUp, (cX11_isUp, (4, ((some .boolean), (11, (false, (3, 22)))))))
abbrev r_X11_byOf : ax_IR := (yX11_byOf, (cX11_byOf, (4, ((some .int), (11, (false, (1, 22)))))))
abbrev r_X11_upOf : ax_IR := (yX11_upOf, (cX11_upOf, (4, ((some .int), (11, (false, (1, 22)))))))
abbrev r_X11_seedOf : ax_IR := (yX11_seedOf, (cX11_seedOf, (3, ((some .int), (11, (false, (2, 22)))))))
abbrev r_X11_owedTo : ax_IR := (yX11_owedTo, (cX11_owedTo, (4, ((some .int), (11, (false, (1, 22)))))))
abbrev r_X11_personOf : ax_IR := (yX11_personOf, (cX11_personOf, (5, ((some .int), (11, (false, (2, 22)))))))
abbrev r_X11_debt : ax_IR := (yX11_debt, (cX11_debt, (3, ((some .int), (11, (false, (2, 22)))))))
abbrev r_X11_isWall : ax_IR := (yX11_isWall, (cX11_isWall, (2, ((some .int), (11, (false, (1, 22)))))))
abbrev r_X11_up : ax_IR := (yX11_up, (cX11_up, (2, ((some .int), (11, (false, (1, 22)))))))
abbrev r_X11_by : ax_IR := (yX11_by, (cX11_by, (2, ((some .int), (11, (false, (1, 22)))))))
abbrev r_X11_isQuiet : ax_IR := (yX11_isQuiet, (cX11_isQuiet, (5, ((some .boolean), (11, (false, (3, 22)))))))
abbrev r_X11_quiet : ax_IR := (yX11_quiet, (cX11_quiet, (3, ((some .int), (11, (false, (2, 22)))))))
abbrev r_X11_beside : ax_IR := (yX11_beside, (cX11_beside, (2, ((some .int), (11, (true, (2, 22)))))))
abbrev r_X11_walks : ax_IR := (yX11_walks, (cX11_walks, (8, (none, (11, (false, (2, 22)))))))
abbrev r_X11_walksBack : ax_IR := (yX11_walksBack, (cX11_walksBack, (8, (none, (11, (false, (2, 22)))))))
abbrev r_X11_wayOf : ax_IR := (yX11_wayOf, (cX11_wayOf, (3, ((some .int), (11, (false, (2, 22)))))))
abbrev r_X11_way : ax_IR := (yX11_way, (cX11_way, (10, ((some .int), (11, (false, (3, 22)))))))
abbrev r_X11_bar : ax_IR := (yX11_bar, (cX11_bar, (4, ((some .int), (11, (false, (2, 22)))))))
abbrev r_X11_reach : ax_IR := (yX11_reach, (cX11_reach, (4, ((some .int), (11, (false, (1, 22)))))))
abbrev r_X11_loud : ax_IR := (yX11_loud, (cX11_loud, (4, ((some .int), (11, (false, (1, 22)))))))
abbrev r_X11_together : ax_IR := (yX11_together, (cX11_together, (4, ((some .int), (11, (false, (1, 22)))))))
abbrev r_X11_calm : ax_IR := (yX11_calm, (cX11_calm, (5, ((some .int), (11, (false, (0, 22)))))))
abbrev r_X11_idle : ax_IR := (yX11_idle, (cX11_idle, (5, ((some .int), (11, (false, (0, 22)))))))
abbrev r_X11_worst : ax_IR := (yX11_worst, (cX11_worst, (3, ((some .int), (11, (false, (0, 22)))))))
abbrev r_X11_chain : ax_IR := (yX11_chain, (cX11_chain, (9, ((some .int), (11, (false, (2, 22)))))))
abbrev r_X11_netOf : ax_IR := (yX11_netOf, (cX11_netOf, (2, ((some .int), (11, (false, (1, 22)))))))
abbrev r_X11_poorest : ax_IR := (yX11_poorest, (cX11_poorest, (3, ((some .int), (11, (false, (0, 22)))))))
abbrev r_X11_dueOf : ax_IR := (yX11_dueOf, (cX11_dueOf, (6, ((some .int), (11, (false, (2, 22)))))))
abbrev r_X11_due : ax_IR := (yX11_due, (cX11_due, (3, ((some .int), (11, (false, (2, 22)))))))
abbrev r_X11_bare : ax_IR := (yX11_bare, (cX11_bare, (5, ((some .int), (11, (false, (0, 22)))))))
abbrev r_X11_net : ax_IR := (yX11_net, (cX11_net, (2, ((some .int), (11, (false, (1, 22)))))))
abbrev r_X11_mutual : ax_IR := (yX11_mutual, (cX11_mutual, (4, ((some .int), (11, (false, (0, 22)))))))
abbrev r_X11_rings : ax_IR := (yX11_rings, (cX11_rings, (6, ((some .boolean), (11, (false, (3, 22)))))))
abbrev r_X11_ring : ax_IR := (yX11_ring, (cX11_ring, (5, ((some .int), (11, (false, (1, 22)))))))
abbrev r_X11_guess : ax_IR := (yX11_guess, (cX11_guess, (9, ((some .int), (11, (false, (3, 22)))))))
abbrev r_X11_toldAt : ax_IR := (yX11_toldAt, (cX11_toldAt, (5, ((some .int), (11, (false, (2, 22)))))))
abbrev r_X11_tellsAll : ax_IR := (yX11_tellsAll, (cX11_tellsAll, (7, ((some .boolean), (11, (false, (3, 22)))))))
abbrev r_X11_fewest : ax_IR := (yX11_fewest, (cX11_fewest, (3, ((some .int), (11, (false, (2, 22)))))))
abbrev r_X11_noRow_ : ax_IR := (yX11_noRow_, (cX11_noRow_, (3, ((some .int), (11, (false, (2, 22)))))))
abbrev r_X11_tells : ax_IR := (yX11_tells, (cX11_tells, (6, ((some .int), (11, (false, (3, 22)))))))
abbrev r_X11_wrong : ax_IR := (yX11_wrong, (cX11_wrong, (7, ((some .int), (11, (false, (3, 22)))))))
abbrev r_X11_noWalk : ax_IR := (yX11_noWalk, (cX11_noWalk, (4, ((some .int), (11, (false, (3, 22)))))))
abbrev r_X11_judge : ax_IR := (yX11_judge, (cX11_judge, (5, ((some .int), (11, (false, (3, 22)))))))
abbrev r_X11_seen : ax_IR := (yX11_seen, (cX11_seen, (6, ((some .int), (11, (false, (3, 22)))))))
abbrev r_X11_walk : ax_IR := (yX11_walk, (cX11_walk, (5, ((some .int), (11, (false, (3, 22)))))))
abbrev r_X11_goes : ax_IR := (yX11_goes, (cX11_goes, (4, ((some .boolean), (11, (false, (2, 22)))))))
abbrev r_X11_step : ax_IR := (yX11_step, (cX11_step, (3, ((some .int), (11, (false, (2, 22)))))))
abbrev r_X11_pay : ax_IR := (yX11_pay, (cX11_pay, (4, ((some .int), (11, (false, (3, 22)))))))
abbrev r_X11_strike : ax_IR := (yX11_strike, (cX11_strike, (5, ((some .int), (11, (false, (0, 22)))))))
abbrev r_X11_draw : ax_IR := (yX11_draw, (cX11_draw, (2, ((some .int), (11, (false, (1, 22)))))))
abbrev r_X11_days : ax_IR := (yX11_days, (cX11_days, (5, ((some .int), (11, (false, (1, 22)))))))
abbrev r_X11_unshelve : ax_IR := (yX11_unshelve, (cX11_unshelve, (2, (none, (11, (false, (0, 22)))))))
abbrev r_X11_weed : ax_IR := (yX11_weed, (cX11_weed, (1, ((some .int), (11, (false, (0, 22)))))))
abbrev r_X11_seed : ax_IR := (yX11_seed, (cX11_seed, (3, ((some .int), (11, (false, (1, 22)))))))
abbrev r_X11_image : ax_IR := (yX11_image, (cX11_image, (1, ((some .int), (11, (false, (0, 22)))))))
abbrev r_X11_back : ax_IR := (yX11_back, (cX11_back, (1, ((some .int), (11, (false, (0, 22)))))))
abbrev r_X11_status : ax_IR := (yX11_status, (cX11_status, (4, ((some .int), (11, (false, (1, 22)))))))
def ax_I0 : List ax_IR := [r_X0_isCell, r_X0_bit, r_X0_has, r_J13_bitCount_95d88, r_X0_lowest, r_X0_leftAndRight, r_X0_upAndDown, r_X0_beside, r_X0_zone, r_X0_after, r_X1_covers, r_X1_find, r_X2_become, r_X2_of, r_X2_put, r_X2_owedBy]
def ax_I1 : List ax_IR := [r_X2_owedTo, r_X2_balance, r_X2_all, r_X2_shared, r_X2_cancel, r_X2_creditorsOf, r_X2_creditorsOfAll, r_X2_links, r_X6_fill, r_X6_become, r_X3_become, r_X3_isPerson, r_X3_isSeed, r_X3_hasWall, r_X3_putWall, r_X3_peopleWithin]
def ax_I2 : List ax_IR := [r_X3_isStoodOn, r_X3_addPerson, r_X3_addSeed, r_X3_debtors, r_X3_allSeeds, r_X3_seedsBut, r_X6_price, r_X3_enoughOf, r_X6_isKind, r_X6_span, r_X6_zone, r_X3_near, r_X3_shownBy, r_X3_shown, r_X3_showers, r_X3_quietAmong]
def ax_I3 : List ax_IR := [r_X3_quietFor, r_X3_dueOf, r_X3_allDueOf, r_X3_isNearRank, r_X6_isTelltale, r_X3_telltales, r_X3_mayOwe, r_X3_surelyOwes, r_X3_go, r_X3_draw, r_X8_at, r_X4_tokenOf, r_X4_advance, r_X4_isWord, r_X4_readNumber, r_X4_readWall]
def ax_I4 : List ax_IR := [r_X4_readOpen, r_X4_readFloor, r_X4_readPerson, r_X4_readOwes, r_X4_readSeed, r_X4_readGo, r_X4_readStatement, r_X4_readAll, r_X5_closes, r_X5_find, r_X6_isOf, r_X7_isSort, r_X7_clear, r_X7_takeSeed, r_X7_takeRow, r_X7_isEmpty]
def ax_I5 : List ax_IR := [r_X7_holdsSeed, r_X7_seedNumber, r_X7_noRow, r_X7_hasElement, r_X7_hasElements, r_X7_fit, r_X7_put, r_X7_cellAt, r_X7_areCells, r_X7_cellBits, r_X8_isFull, r_X8_add, r_X9_find, r_X9_cellOf, r_X9_flood, r_X10_isShelf]
def ax_I6 : List ax_IR := [r_X10_refuse, r_X10_row, r_X10_set, r_X10_copy, r_X10_element, r_X10_holds, r_X10_show, r_X10_saysAs, r_X10_says, r_X10_wall, r_X10_person, r_X10_sow, r_X10_isPair, r_X10_owes, r_X10_feed, r_X10_wipe]
def ax_I7 : List ax_IR := [r_X10_garden, r_X10_seedOf, r_J6_bitCount_0f7a4, r_X10_personOf, r_X10_debt, r_X10_isWall, r_X10_up, r_X10_by, r_X10_quiet, r_X10_way, r_X10_hasWay, r_X10_bar, r_X10_reach, r_X10_loud, r_X10_together, r_X10_calm]
def ax_I8 : List ax_IR := [r_X10_idle, r_X10_worst, r_X10_chain, r_X10_poorest, r_X10_due, r_X10_bare, r_X10_net, r_X10_mutual, r_X10_ring, r_X10_guess, r_X10_noTold, r_X10_tells, r_X10_noWalk, r_X10_wrongOf, r_X10_judge, r_X10_noTrueWalk]
def ax_I9 : List ax_IR := [r_X10_seen, r_X10_walk, r_X10_step, r_X10_pay, r_X10_strike, r_X10_countShowing, r_X10_days, r_X10_dropLostSeeds, r_X10_weed, r_X10_seed, r_X10_image, r_X10_back, r_X10_fullShelves, r_X10_status, r_X11_no, r_X11_within]
def ax_I10 : List ax_IR := [r_X11_isCell, r_X11_isOne, r_X11_isSeed, r_X11_isShelf, r_X11_isRow, r_X11_areTwo, r_X11_row, r_X11_noRow, r_X11_kept, r_X11_set, r_X11_copy, r_X11_element, r_X11_holds, r_X11_show, r_X11_isUnder, r_X11_reachOf]
def ax_I11 : List ax_IR := [r_X11_allOwed, r_X11_owing, r_X11_takes, r_X11_says, r_X11_somebodyAt, r_X11_wall, r_X11_newOne, r_X11_person, r_X11_newSeed, r_X11_sow, r_X11_owes, r_X11_feed, r_X11_wipe, r_X11_isLetter, r_X11_isDigit, r_X11_next]
def ax_I12 : List ax_IR := [r_X11_isWord, r_X11_number, r_X11_statement, r_X11_keep, r_X11_again, r_X11_garden, r_X11_far, r_X11_owesEnough, r_X11_isUp, r_X11_byOf, r_X11_upOf, r_X11_seedOf, r_X11_owedTo, r_X11_personOf, r_X11_debt, r_X11_isWall]
def ax_I13 : List ax_IR := [r_X11_up, r_X11_by, r_X11_isQuiet, r_X11_quiet, r_X11_beside, r_X11_walks, r_X11_walksBack, r_X11_wayOf, r_X11_way, r_X11_bar, r_X11_reach, r_X11_loud, r_X11_together, r_X11_calm, r_X11_idle, r_X11_worst]
def ax_I14 : List ax_IR := [r_X11_chain, r_X11_netOf, r_X11_poorest, r_X11_dueOf, r_X11_due, r_X11_bare, r_X11_net, r_X11_mutual, r_X11_rings, r_X11_ring, r_X11_guess, r_X11_toldAt, r_X11_tellsAll, r_X11_fewest, r_X11_noRow_, r_X11_tells]
def ax_I15 : List ax_IR := [r_X11_wrong, r_X11_noWalk, r_X11_judge, r_X11_seen, r_X11_walk, r_X11_goes, r_X11_step, r_X11_pay, r_X11_strike, r_X11_draw, r_X11_days, r_X11_unshelve, r_X11_weed, r_X11_seed, r_X11_image, r_X11_back]
def ax_I16 : List ax_IR := [r_X11_status]
def ax_II : List (List ax_IR) := [ax_I0, ax_I1, ax_I2, ax_I3, ax_I4, ax_I5, ax_I6, ax_I7, ax_I8, ax_I9, ax_I10, ax_I11, ax_I12, ax_I13, ax_I14, ax_I15, ax_I16]
def ax_row (mt : Nat) : Option ax_IR := match ax_nth ax_II (mt / 16) with
  | some r => ax_nth r (mt % 16)
  | none => none
def ax_y (mt : Nat) : MethodName := match ax_row mt with
  | some r => r.1
  | none => yX0_bit
def ax_fl : List (Nat × (Nat × (Nat × Nat))) := [(1, (13, (18, 0))), (2, (13, (3, 0))), (3, (9, (1, 0))), (3, (15, (1, 1))), (3, (19, (1, 2))), (3, (26, (1, 3))), (3, (30, (1, 4))), (3, (35, (1, 5))), (3, (39, (1, 6))), (4, (12, (12, 0))), (4, (18, (12, 1))), (4, (22, (12, 2))), (4, (25, (12, 3))), (5, (11, (15, 0))), (5, (17, (15, 1))), (6, (11, (6, 0))), (6, (15, (6, 1))), (6, (18, (6, 2))), (6, (21, (6, 3))), (7, (9, (8, 0))), (7, (15, (8, 1))), (7, (18, (8, 2))), (8, (11, (10, 0))), (8, (15, (10, 1))), (9, (11, (13, 0))), (10, (10, (0, 0))), (10, (16, (0, 1))), (10, (19, (0, 2))), (10, (22, (0, 3))), (10, (28, (0, 4))), (10, (35, (0, 5))), (10, (42, (0, 6))), (10, (49, (0, 7))), (10, (56, (0, 8))), (10, (60, (0, 9))), (10, (64, (0, 10))), (11, (7, (22, 0))), (11, (13, (22, 2))), (11, (17, (22, 3))), (11, (20, (22, 5))), (11, (23, (22, 6))), (11, (26, (22, 7))), (11, (29, (22, 8))), (11, (32, (22, 11))), (11, (35, (22, 16))), (11, (38, (22, 17))), (11, (41, (22, 18))), (11, (45, (22, 19))), (11, (48, (22, 21))), (11, (51, (22, 22))), (11, (54, (22, 23))), (11, (57, (22, 24))), (11, (60, (22, 25))), (11, (63, (22, 9))), (11, (71, (22, 1))), (11, (74, (22, 4))), (11, (131, (22, 10))), (11, (134, (22, 13))), (11, (137, (22, 12))), (11, (140, (22, 14))), (11, (149, (22, 15))), (11, (288, (22, 20)))]
def ax_fn : List (Nat × (Nat × (Nat × Nat))) := [(3, (80, (6, 3))), (3, (83, (6, 0))), (4, (35, (10, 1))), (4, (107, (1, 1))), (4, (119, (1, 3))), (4, (127, (1, 4))), (4, (136, (1, 2))), (10, (101, (8, 0))), (10, (109, (8, 2))), (10, (137, (1, 5))), (10, (148, (6, 3))), (10, (175, (1, 1))), (10, (184, (1, 4))), (10, (196, (1, 3))), (10, (207, (12, 0))), (10, (219, (10, 1))), (10, (230, (6, 0))), (10, (233, (6, 1))), (10, (236, (6, 2))), (10, (242, (1, 2))), (10, (298, (1, 0))), (10, (332, (15, 0))), (10, (352, (18, 0))), (10, (368, (8, 1))), (10, (391, (1, 6)))]
def ax_ml : List (Nat × (Nat × Nat)) := [(0, (11, 1)), (0, (15, 3)), (0, (25, 5)), (0, (29, 6)), (0, (32, 4)), (1, (17, 10)), (2, (23, 13)), (2, (27, 16)), (2, (31, 15)), (2, (39, 14)), (2, (43, 21)), (2, (46, 22)), (3, (68, 31)), (3, (98, 39)), (3, (101, 43)), (3, (104, 44)), (3, (107, 36)), (3, (110, 47)), (3, (119, 49)), (3, (122, 37)), (3, (129, 53)), (3, (132, 45)), (3, (138, 29)), (4, (28, 70)), (4, (32, 60)), (4, (42, 59)), (4, (47, 61)), (4, (51, 63)), (4, (56, 64)), (4, (61, 66)), (4, (66, 67)), (4, (71, 68)), (4, (76, 69)), (4, (91, 62)), (4, (110, 65)), (5, (26, 72)), (6, (24, 24)), (6, (28, 40)), (6, (45, 41)), (7, (22, 80)), (7, (26, 79)), (7, (29, 85)), (7, (33, 83)), (7, (41, 87)), (10, (68, 95)), (10, (75, 96)), (10, (144, 103)), (10, (191, 108)), (10, (254, 114)), (10, (281, 122)), (10, (293, 3)), (10, (340, 138)), (10, (355, 140)), (10, (358, 141)), (10, (362, 143)), (10, (385, 149)), (10, (388, 151)), (10, (397, 156)), (11, (67, 159)), (11, (77, 161)), (11, (81, 163)), (11, (84, 158)), (11, (88, 164)), (11, (91, 167)), (11, (94, 168)), (11, (98, 162)), (11, (101, 174)), (11, (105, 175)), (11, (108, 177)), (11, (112, 178)), (11, (115, 160)), (11, (118, 180)), (11, (121, 182)), (11, (124, 184)), (11, (128, 165)), (11, (143, 189)), (11, (146, 190)), (11, (161, 191)), (11, (165, 192)), (11, (169, 193)), (11, (183, 195)), (11, (187, 194)), (11, (191, 196)), (11, (199, 176)), (11, (205, 198)), (11, (208, 199)), (11, (211, 200)), (11, (214, 201)), (11, (217, 204)), (11, (220, 202)), (11, (223, 114)), (11, (228, 210)), (11, (231, 212)), (11, (234, 213)), (11, (238, 215)), (11, (241, 214)), (11, (244, 225)), (11, (247, 227)), (11, (254, 232)), (11, (257, 235)), (11, (260, 236)), (11, (263, 238)), (11, (265, 237)), (11, (268, 241)), (11, (272, 240)), (11, (275, 245)), (11, (278, 231)), (11, (282, 249)), (11, (285, 251))]
def ax_mn : List (Nat × (Nat × Nat)) := [(1, (21, 4)), (1, (31, 8)), (3, (49, 12)), (3, (53, 25)), (3, (56, 2)), (3, (62, 1)), (3, (72, 24)), (3, (76, 15)), (3, (86, 13)), (3, (90, 38)), (3, (94, 42)), (3, (125, 52)), (3, (135, 9)), (4, (38, 58)), (4, (94, 32)), (4, (100, 30)), (4, (104, 29)), (4, (114, 33)), (4, (123, 14)), (4, (132, 34)), (5, (20, 21)), (6, (49, 8)), (7, (45, 1)), (9, (17, 2)), (9, (21, 1)), (9, (27, 7)), (9, (31, 4)), (10, (72, 75)), (10, (79, 78)), (10, (83, 82)), (10, (87, 83)), (10, (90, 86)), (10, (94, 80)), (10, (98, 79)), (10, (105, 84)), (10, (119, 28)), (10, (122, 76)), (10, (125, 77)), (10, (129, 40)), (10, (134, 81)), (10, (141, 74)), (10, (151, 41)), (10, (154, 35)), (10, (157, 38)), (10, (160, 0)), (10, (165, 32)), (10, (168, 29)), (10, (171, 30)), (10, (178, 33)), (10, (181, 27)), (10, (187, 34)), (10, (200, 13)), (10, (204, 14)), (10, (211, 90)), (10, (216, 91)), (10, (222, 26)), (10, (226, 71)), (10, (239, 46)), (10, (245, 15)), (10, (248, 16)), (10, (251, 37)), (10, (259, 44)), (10, (262, 45)), (10, (265, 48)), (10, (269, 2)), (10, (273, 92)), (10, (277, 93)), (10, (285, 47)), (10, (289, 94)), (10, (304, 39)), (10, (307, 36)), (10, (310, 23)), (10, (313, 17)), (10, (316, 49)), (10, (319, 50)), (10, (322, 51)), (10, (326, 19)), (10, (329, 73)), (10, (334, 54)), (10, (337, 55)), (10, (344, 88)), (10, (347, 89)), (10, (350, 11)), (10, (365, 87)), (10, (369, 1)), (10, (372, 7)), (10, (376, 56)), (10, (379, 20)), (10, (382, 57)), (10, (394, 18))]
def ax_sl : List (Nat × (Nat × Nat)) := [(6, (32, 40)), (6, (36, 41))]
def ax_sr : List (Nat × (Nat × Nat)) := [(4, (45, 0)), (4, (54, 1)), (4, (59, 2)), (4, (64, 3)), (4, (69, 4)), (4, (74, 5)), (11, (164, 0)), (11, (173, 1)), (11, (175, 2)), (11, (177, 3)), (11, (179, 4)), (11, (181, 5))]
def ax_ma : List (Nat × (Nat × Nat)) := [(1, (25, 4)), (2, (17, 0)), (2, (34, 4)), (3, (43, 0)), (3, (114, 3)), (4, (79, 1)), (4, (85, 2)), (6, (39, 3)), (10, (113, 0)), (11, (152, 1)), (11, (157, 2)), (11, (194, 3)), (11, (202, 5)), (11, (251, 4))]
def ax_kc : List (Nat × (Nat × Int32)) := [(3, (142, 1103515245)), (10, (325, (-1000002))), (11, (250, (-1000002))), (11, (281, 1103515245)), (12, (265, 1431655765)), (12, (266, 858993459)), (12, (267, 252645135))]
def ax_kl : List (Nat × (Nat × Int64)) := [(0, (21, (-72340172838076674))), (0, (23, 9187201950435737471)), (1, (35, (-1))), (3, (66, (-1))), (7, (39, 64)), (9, (25, (-1))), (10, (302, (-1))), (13, (314, 6148914691236517205)), (13, (316, 3689348814741910323)), (13, (318, 1085102592571150095))]
def ax_wF (q : Nat × (Nat × (Nat × Nat))) : Jvm.Cond := .fieldLink (ax_cn q.1) q.2.1 ((ax_ct q.2.2.1).2.2.1 q.2.2.2).1 ((ax_ct q.2.2.1).2.2.1 q.2.2.2).2.1 ((ax_ct q.2.2.1).2.2.1 q.2.2.2).2.2.1
def ax_wFN (q : Nat × (Nat × (Nat × Nat))) : Jvm.Cond := .fieldLinkNest (ax_cn q.1) q.2.1 ((ax_ct q.2.2.1).2.2.1 q.2.2.2).1 ((ax_ct q.2.2.1).2.2.1 q.2.2.2).2.1 ((ax_ct q.2.2.1).2.2.1 q.2.2.2).2.2.1 RX10
def ax_wM (q : Nat × (Nat × Nat)) : Jvm.Cond := .methodLink (ax_cn q.1) q.2.1 (ax_y q.2.2)
def ax_wMN (q : Nat × (Nat × Nat)) : Jvm.Cond := .methodLinkNest (ax_cn q.1) q.2.1 (ax_y q.2.2) RX10
def ax_wC (r : ax_IR) : Jvm.Cond := .code r.1 r.2.1 r.2.2.1 r.2.2.2.1
def ax_wI (r : ax_IR) : List Jvm.Cond := .initialized r.1.cls :: (match r.2.2.2.2.2.1 with
  | true => [.static r.1]
  | false => [.instanceMethod r.1, .selects r.1.cls r.1 r.1])
def ax_wK (q : Nat × (Nat × Int32)) : Jvm.Cond := .constant (ax_cn q.1) q.2.1 q.2.2
def ax_wL (q : Nat × (Nat × Int64)) : Jvm.Cond := .constantLong (ax_cn q.1) q.2.1 q.2.2
def ax_wS (q : Nat × (Nat × Nat)) : Jvm.Cond := .fieldLink (ax_cn q.1) q.2.1 RX6 (if q.2.2 = 40 then "ABOVE" else "SPANS") "[I"
def ax_wA (q : Nat × (Nat × Nat)) : Jvm.Cond := .methodLink (ax_cn q.1) q.2.1 (match q.2.2 with
  | 0 => arraycopyName
  | 1 => yJ0_length_8abf5
  | 2 => yJ0_charAt_5068e
  | 3 => Lib.Math.max.name
  | 4 => Lib.Math.min.name
  | _ => Lib.Math.abs.name)
def ax_W1 : List Jvm.Cond := ax_fl.map ax_wF
def ax_W2 : List Jvm.Cond := ax_ml.map ax_wM
def ax_W3 : List Jvm.Cond := ax_II.flatMap (fun l => l.flatMap ax_wI)
def ax_W4 : List Jvm.Cond := ax_kc.map ax_wK ++ ax_kl.map ax_wL
def ax_W5 : List Jvm.Cond := ax_sl.map ax_wS
def ax_W6 : List Jvm.Cond := ax_ma.map ax_wA
def ax_W7 : List Jvm.Cond := [(Jvm.Cond.initialized "java/lang/System"),
  (Jvm.Cond.initialized "java/lang/Math"),
  (Jvm.Cond.initialized "java/lang/String"),
  (Jvm.Cond.initialized "java/lang/StringLatin1"),
  (Jvm.Cond.initialized "jdk/internal/util/Preconditions"),
  (Jvm.Cond.initialized "java/lang/StringUTF16"),
  (Jvm.Cond.static ({ cls := "java/lang/System", name := "arraycopy", desc := "(Ljava/lang/Object;ILjava/lang/Object;II)V" } : Jvm.MethodName)),
  (Jvm.Cond.native ({ cls := "java/lang/System", name := "arraycopy", desc := "(Ljava/lang/Object;ILjava/lang/Object;II)V" } : Jvm.MethodName)),
  (Jvm.Cond.static ({ cls := "java/lang/Math", name := "max", desc := "(II)I" } : Jvm.MethodName)),
  (Jvm.Cond.instanceMethod ({ cls := "java/lang/String", name := "length", desc := "()I" } : Jvm.MethodName)),
  (Jvm.Cond.selects "java/lang/String" ({ cls := "java/lang/String", name := "length", desc := "()I" } : Jvm.MethodName) ({ cls := "java/lang/String", name := "length", desc := "()I" } : Jvm.MethodName)),
  (Jvm.Cond.methodLink "java/lang/String" (335 : Nat) ({ cls := "java/lang/String", name := "coder", desc := "()B" } : Jvm.MethodName)),
  (Jvm.Cond.instanceMethod ({ cls := "java/lang/String", name := "coder", desc := "()B" } : Jvm.MethodName)),
  (Jvm.Cond.selects "java/lang/String" ({ cls := "java/lang/String", name := "coder", desc := "()B" } : Jvm.MethodName) ({ cls := "java/lang/String", name := "coder", desc := "()B" } : Jvm.MethodName)),
  (Jvm.Cond.fieldLink "java/lang/String" (38 : Nat) "java/lang/String" "COMPACT_STRINGS" "Z"),
  (Jvm.Cond.instanceMethod ({ cls := "java/lang/String", name := "charAt", desc := "(I)C" } : Jvm.MethodName)),
  (Jvm.Cond.selects "java/lang/String" ({ cls := "java/lang/String", name := "charAt", desc := "(I)C" } : Jvm.MethodName) ({ cls := "java/lang/String", name := "charAt", desc := "(I)C" } : Jvm.MethodName)),
  (Jvm.Cond.methodLink "java/lang/String" (492 : Nat) ({ cls := "java/lang/String", name := "isLatin1", desc := "()Z" } : Jvm.MethodName)),
  (Jvm.Cond.instanceMethod ({ cls := "java/lang/String", name := "isLatin1", desc := "()Z" } : Jvm.MethodName)),
  (Jvm.Cond.selects "java/lang/String" ({ cls := "java/lang/String", name := "isLatin1", desc := "()Z" } : Jvm.MethodName) ({ cls := "java/lang/String", name := "isLatin1", desc := "()Z" } : Jvm.MethodName)),
  (Jvm.Cond.methodLink "java/lang/String" (495 : Nat) ({ cls := "java/lang/StringLatin1", name := "charAt", desc := "([BI)C" } : Jvm.MethodName)),
  (Jvm.Cond.static ({ cls := "java/lang/StringLatin1", name := "charAt", desc := "([BI)C" } : Jvm.MethodName)),
  (Jvm.Cond.methodLink "java/lang/StringLatin1" (9 : Nat) ({ cls := "java/lang/String", name := "checkIndex", desc := "(II)V" } : Jvm.MethodName)),
  (Jvm.Cond.static ({ cls := "java/lang/String", name := "checkIndex", desc := "(II)V" } : Jvm.MethodName)),
  (Jvm.Cond.fieldLink "java/lang/String" (1053 : Nat) "jdk/internal/util/Preconditions" "SIOOBE_FORMATTER" "Ljava/util/function/BiFunction;"),
  (Jvm.Cond.methodLink "java/lang/String" (1059 : Nat) ({ cls := "jdk/internal/util/Preconditions", name := "checkIndex", desc := "(IILjava/util/function/BiFunction;)I" } : Jvm.MethodName)),
  (Jvm.Cond.static ({ cls := "jdk/internal/util/Preconditions", name := "checkIndex", desc := "(IILjava/util/function/BiFunction;)I" } : Jvm.MethodName)),
  (Jvm.Cond.methodLink "java/lang/String" (498 : Nat) ({ cls := "java/lang/StringUTF16", name := "charAt", desc := "([BI)C" } : Jvm.MethodName)),
  (Jvm.Cond.static ({ cls := "java/lang/StringUTF16", name := "charAt", desc := "([BI)C" } : Jvm.MethodName)),
  (Jvm.Cond.methodLink "java/lang/StringUTF16" (67 : Nat) ({ cls := "java/lang/StringUTF16", name := "checkIndex", desc := "(I[B)V" } : Jvm.MethodName)),
  (Jvm.Cond.static ({ cls := "java/lang/StringUTF16", name := "checkIndex", desc := "(I[B)V" } : Jvm.MethodName)),
  (Jvm.Cond.methodLink "java/lang/StringUTF16" (48 : Nat) ({ cls := "java/lang/StringUTF16", name := "length", desc := "([B)I" } : Jvm.MethodName)),
  (Jvm.Cond.static ({ cls := "java/lang/StringUTF16", name := "length", desc := "([B)I" } : Jvm.MethodName)),
  (Jvm.Cond.methodLink "java/lang/StringUTF16" (414 : Nat) ({ cls := "java/lang/String", name := "checkIndex", desc := "(II)V" } : Jvm.MethodName)),
  (Jvm.Cond.methodLink "java/lang/StringUTF16" (71 : Nat) ({ cls := "java/lang/StringUTF16", name := "getChar", desc := "([BI)C" } : Jvm.MethodName)),
  (Jvm.Cond.static ({ cls := "java/lang/StringUTF16", name := "getChar", desc := "([BI)C" } : Jvm.MethodName)),
  (Jvm.Cond.fieldLink "java/lang/StringUTF16" (44 : Nat) "java/lang/StringUTF16" "$assertionsDisabled" "Z"),
  (Jvm.Cond.fieldLink "java/lang/StringUTF16" (59 : Nat) "java/lang/StringUTF16" "HI_BYTE_SHIFT" "I"),
  (Jvm.Cond.fieldLink "java/lang/StringUTF16" (63 : Nat) "java/lang/StringUTF16" "LO_BYTE_SHIFT" "I"),
  (Jvm.Cond.static ({ cls := "java/lang/Math", name := "min", desc := "(II)I" } : Jvm.MethodName)),
  (Jvm.Cond.static ({ cls := "java/lang/Math", name := "abs", desc := "(I)I" } : Jvm.MethodName)),
  (Jvm.Cond.fieldLink "java/lang/String" (9 : Nat) "java/lang/String" "value" "[B"),
  (Jvm.Cond.fieldLink "java/lang/String" (15 : Nat) "java/lang/String" "coder" "B")]
def ax_W8 : List Jvm.Cond := ax_obj.flatMap (fun k => u_ws (ax_ct k).2.1 (ax_ct k).2.2.1 (ax_ct k).2.2.2)
def ax_WC : List Jvm.Cond := ax_II.flatMap (fun l => l.map ax_wC)
def ax_WD : List Jvm.Cond := [(Jvm.Cond.code ({ cls := "java/lang/Math", name := "max", desc := "(II)I" } : Jvm.MethodName) prog_16_method_65_code (2 : Nat) (Option.some Jvm.ClassFile.FieldType.int)),
  (Jvm.Cond.code ({ cls := "java/lang/String", name := "length", desc := "()I" } : Jvm.MethodName) prog_17_method_54_code (1 : Nat) (Option.some Jvm.ClassFile.FieldType.int)),
  (Jvm.Cond.code ({ cls := "java/lang/String", name := "coder", desc := "()B" } : Jvm.MethodName) prog_17_method_152_code (1 : Nat) (Option.some Jvm.ClassFile.FieldType.byte)),
  (Jvm.Cond.code ({ cls := "java/lang/String", name := "charAt", desc := "(I)C" } : Jvm.MethodName) prog_17_method_56_code (2 : Nat) (Option.some Jvm.ClassFile.FieldType.char)),
  (Jvm.Cond.code ({ cls := "java/lang/String", name := "isLatin1", desc := "()Z" } : Jvm.MethodName) prog_17_method_154_code (1 : Nat) (Option.some Jvm.ClassFile.FieldType.boolean)),
  (Jvm.Cond.code ({ cls := "java/lang/StringLatin1", name := "charAt", desc := "([BI)C" } : Jvm.MethodName) prog_18_method_2_code (2 : Nat) (Option.some Jvm.ClassFile.FieldType.char)),
  (Jvm.Cond.code ({ cls := "java/lang/String", name := "checkIndex", desc := "(II)V" } : Jvm.MethodName) prog_17_method_155_code (2 : Nat) (Option.none : Option Jvm.ClassFile.FieldType)),
  (Jvm.Cond.code ({ cls := "jdk/internal/util/Preconditions", name := "checkIndex", desc := "(IILjava/util/function/BiFunction;)I" } : Jvm.MethodName) prog_21_method_11_code (3 : Nat) (Option.some Jvm.ClassFile.FieldType.int)),
  (Jvm.Cond.code ({ cls := "java/lang/StringUTF16", name := "charAt", desc := "([BI)C" } : Jvm.MethodName) prog_19_method_83_code (2 : Nat) (Option.some Jvm.ClassFile.FieldType.char)),
  (Jvm.Cond.code ({ cls := "java/lang/StringUTF16", name := "checkIndex", desc := "(I[B)V" } : Jvm.MethodName) prog_19_method_91_code (2 : Nat) (Option.none : Option Jvm.ClassFile.FieldType)),
  (Jvm.Cond.code ({ cls := "java/lang/StringUTF16", name := "length", desc := "([B)I" } : Jvm.MethodName) prog_19_method_6_code (1 : Nat) (Option.some Jvm.ClassFile.FieldType.int)),
  (Jvm.Cond.code ({ cls := "java/lang/StringUTF16", name := "getChar", desc := "([BI)C" } : Jvm.MethodName) prog_19_method_5_code (2 : Nat) (Option.some Jvm.ClassFile.FieldType.char)),
  (Jvm.Cond.code ({ cls := "java/lang/Math", name := "min", desc := "(II)I" } : Jvm.MethodName) prog_16_method_69_code (2 : Nat) (Option.some Jvm.ClassFile.FieldType.int)),
  (Jvm.Cond.code ({ cls := "java/lang/Math", name := "abs", desc := "(I)I" } : Jvm.MethodName) prog_16_method_59_code (1 : Nat) (Option.some Jvm.ClassFile.FieldType.int))]
def ax_W : List Jvm.Cond := ax_W1 ++ (ax_W2 ++ (ax_W3 ++ (ax_W4 ++ (ax_W5 ++ (ax_W6 ++ (ax_W7 ++ (ax_W8 ++ (ax_WC ++ ax_WD))))))))
def ax_N : List Jvm.Cond := ax_fn.map ax_wFN ++ ax_mn.map ax_wMN
theorem ax_inW {ws big : List Jvm.Cond} (ps : List Nat) (h : ws.map some = ps.map (fun i => big[i]?)) : ∀ w ∈ ws, w ∈ big := by
  intro w hw
  have h1 : some w ∈ ws.map some := List.mem_map.mpr ⟨w, hw, rfl⟩
  rw [h] at h1
  obtain ⟨i, -, hi⟩ := List.mem_map.mp h1
  exact List.mem_of_getElem? hi
set_option maxRecDepth 100000 in
theorem ax_W1_in : ∀ w ∈ ax_W1, w ∈ lw_tbl := ax_inW [302, 170, 201, 203, 206, 209, 212, 215, 217, 257, 259, 260, 261, 288, 290, 182, 185, 187, 189, 312, 314, 316, 248, 249, 277, 325, 326, 327, 328, 329, 330, 331, 332, 333, 334, 335, 1105, 1107, 1108, 1110, 1111, 1112, 1113, 1116, 1121, 1122, 1123, 1124, 1126, 1127, 1128, 1129, 1130, 1114, 1106, 1109, 1115, 1118, 1117, 1119, 1120, 1125] (by decide +kernel)
set_option maxRecDepth 100000 in
theorem ax_W2_in : ∀ w ∈ ax_W2, w ∈ lw_tbl := ax_inW [510, 824, 738, 743, 1039, 994, 478, 894, 895, 1053, 878, 882, 503, 720, 726, 716, 794, 798, 913, 958, 954, 963, 1040, 596, 600, 608, 612, 664, 675, 680, 691, 697, 703, 668, 684, 943, 591, 457, 734, 385, 389, 401, 983, 979, 363, 369, 460, 548, 759, 834, 846, 972, 1005, 1009, 1020, 1063, 1071, 1095, 1192, 1281, 1189, 1195, 1203, 1207, 1211, 1230, 1238, 1241, 1245, 1253, 1262, 1265, 1273, 1285, 1293, 1317, 1320, 1313, 1328, 1334, 1309, 1323, 1343, 1249, 1359, 1365, 1355, 1351, 1373, 1377, 1381, 1402, 1418, 1414, 1410, 1421, 1461, 1469, 1491, 1507, 1515, 1503, 1511, 1523, 1527, 1543, 1555, 1560, 1569] (by decide +kernel)
set_option maxRecDepth 100000 in
theorem ax_W3_in : ∀ w ∈ ax_W3, w ∈ lw_tbl := ax_inW [143, 494, 143, 501, 143, 508, 149, 825, 143, 822, 143, 739, 143, 744, 143, 815, 143, 736, 143, 1037, 138, 995, 138, 992, 78, 132, 584, 33, 132, 480, 18, 132, 555, 29, 132, 476, 17, 132, 753, 53, 132, 892, 65, 132, 1093, 87, 132, 929, 69, 132, 1051, 83, 132, 880, 63, 132, 884, 64, 132, 876, 62, 133, 542, 27, 133, 589, 34, 131, 579, 32, 131, 534, 25, 131, 432, 9, 131, 513, 22, 131, 517, 23, 131, 505, 21, 131, 498, 20, 131, 526, 24, 131, 538, 26, 131, 472, 16, 131, 796, 57, 131, 757, 54, 133, 484, 19, 131, 722, 50, 133, 447, 133, 466, 15, 133, 732, 52, 131, 728, 51, 131, 718, 49, 131, 780, 55, 131, 714, 48, 131, 800, 58, 131, 792, 56, 131, 902, 66, 131, 911, 67, 131, 916, 68, 133, 961, 73, 131, 956, 72, 131, 952, 71, 131, 966, 74, 131, 1034, 82, 131, 1060, 84, 135, 606, 38, 134, 609, 134, 602, 37, 134, 614, 39, 134, 670, 41, 134, 666, 40, 134, 677, 42, 134, 686, 44, 134, 682, 43, 134, 693, 45, 134, 699, 46, 134, 705, 47, 134, 598, 36, 134, 594, 35, 137, 944, 137, 940, 70, 133, 455, 13, 139, 367, 139, 436, 10, 139, 440, 11, 139, 375, 1, 139, 391, 4, 139, 387, 3, 139, 451, 12, 139, 383, 2, 139, 395, 5, 139, 413, 8, 139, 403, 7, 139, 399, 6, 139, 981, 76, 139, 977, 75, 139, 987, 77, 135, 563, 30, 135, 567, 31, 136, 809, 59, 136, 819, 60, 136, 844, 130, 364, 130, 371, 0, 130, 360, 361, 130, 378, 379, 130, 406, 407, 130, 419, 420, 130, 423, 424, 130, 427, 428, 130, 462, 14, 130, 443, 444, 130, 490, 491, 130, 521, 522, 130, 529, 530, 130, 550, 28, 130, 545, 546, 130, 558, 559, 130, 570, 571, 130, 574, 575, 130, 709, 710, 148, 760, 130, 747, 748, 130, 767, 768, 130, 771, 772, 130, 775, 776, 130, 783, 784, 130, 787, 788, 130, 804, 805, 130, 836, 61, 130, 831, 832, 130, 840, 841, 130, 848, 849, 130, 853, 854, 130, 857, 858, 130, 861, 862, 130, 867, 868, 130, 871, 872, 130, 887, 888, 130, 897, 898, 130, 906, 907, 130, 919, 920, 130, 924, 925, 130, 935, 936, 130, 947, 948, 130, 973, 130, 969, 970, 130, 1007, 79, 130, 1011, 80, 130, 1002, 1003, 130, 1022, 81, 130, 1017, 1018, 130, 1025, 1026, 130, 1029, 1030, 130, 1042, 1043, 130, 1046, 1047, 130, 1065, 85, 130, 1055, 1056, 130, 1073, 86, 130, 1068, 1069, 130, 1076, 1077, 130, 1080, 1081, 130, 1084, 1085, 130, 1097, 88, 130, 1088, 1089, 140, 1197, 89, 140, 1193, 140, 1263, 140, 1283, 99, 140, 1232, 92, 140, 1190, 140, 1205, 90, 140, 1295, 101, 140, 1186, 1187, 140, 1209, 91, 140, 1212, 140, 1200, 1201, 140, 1215, 1216, 140, 1219, 1220, 140, 1223, 1224, 140, 1227, 1228, 140, 1239, 140, 1243, 93, 140, 1251, 95, 140, 1247, 94, 140, 1255, 96, 140, 1235, 1236, 140, 1267, 97, 140, 1259, 1260, 140, 1275, 98, 140, 1270, 1271, 140, 1287, 100, 140, 1278, 1279, 140, 1290, 1291, 140, 1298, 1299, 140, 1302, 1303, 140, 1318, 140, 1321, 140, 1315, 103, 140, 1330, 105, 140, 1336, 106, 140, 1325, 104, 140, 1311, 102, 140, 1345, 107, 140, 1306, 1307, 140, 1360, 140, 1367, 110, 140, 1357, 109, 140, 1353, 108, 140, 1379, 112, 140, 1348, 1349, 140, 1375, 111, 140, 1370, 1371, 140, 1383, 1384, 140, 1387, 1388, 140, 1391, 1392, 140, 1395, 1396, 140, 1404, 113, 140, 1399, 1400, 140, 1419, 140, 1416, 115, 140, 1423, 116, 140, 1412, 114, 140, 1407, 1408, 140, 1426, 1427, 140, 1430, 1431, 140, 1434, 1435, 140, 1438, 1439, 140, 1442, 1443, 140, 1446, 1447, 140, 1450, 1451, 140, 1454, 1455, 140, 1463, 117, 140, 1458, 1459, 140, 1471, 118, 140, 1466, 1467, 140, 1474, 1475, 140, 1478, 1479, 140, 1483, 1484, 140, 1493, 119, 140, 1488, 1489, 140, 1496, 1497, 140, 1509, 121, 140, 1517, 123, 140, 1513, 122, 140, 1505, 120, 140, 1500, 1501, 140, 1529, 125, 140, 1525, 124, 140, 1520, 1521, 140, 1532, 1533, 140, 1536, 1537, 140, 1545, 126, 140, 1540, 1541, 140, 1548, 1549, 140, 1552, 1553, 140, 1562, 127, 140, 1557, 1558, 140, 1571, 128, 140, 1566, 1567, 140, 1574, 1575, 140, 1578, 1579, 140, 1582, 1583, 140, 1586, 1587] (by decide +kernel)
set_option maxRecDepth 100000 in
theorem ax_W4_in : ∀ w ∈ ax_W4, w ∈ lw_tbl := ax_inW [1062, 922, 1481, 1564, 762, 763, 764, 741, 742, 1000, 519, 984, 813, 851, 827, 828, 829] (by decide +kernel)
set_option maxRecDepth 100000 in
theorem ax_W5_in : ∀ w ∈ ax_W5, w ∈ lw_tbl := ax_inW [458, 468] (by decide +kernel)
set_option maxRecDepth 100000 in
theorem ax_W6_in : ∀ w ∈ ax_W6, w ∈ lw_tbl := ax_inW [998, 586, 931, 581, 904, 616, 626, 486, 415, 1332, 1333, 1257, 1362, 1486] (by decide +kernel)
set_option maxRecDepth 100000 in
theorem ax_W7_in : ∀ w ∈ ax_W7, w ∈ lw_tbl := ax_inW [141, 142, 144, 145, 146, 147, 416, 417, 487, 617, 618, 620, 621, 622, 624, 627, 628, 630, 631, 632, 634, 635, 637, 638, 640, 642, 643, 645, 646, 648, 649, 651, 652, 654, 655, 656, 658, 660, 662, 932, 1363, 1590, 1591] (by decide +kernel)
set_option maxRecDepth 100000 in
theorem ax_W8_in : ∀ w ∈ ax_W8, w ∈ lw_tbl := ax_inW [336, 338, 340, 342, 344, 346, 348, 350, 352, 354, 356, 219, 221, 223, 225, 227, 229, 231, 171, 192, 194, 196, 198, 318, 320, 322, 252, 254, 262, 264, 266, 268, 278, 291, 293, 304, 1131, 1133, 1135, 1137, 1139, 1141, 1143, 1145, 1147, 1149, 1151, 1153, 1155, 1157, 1159, 1161, 1163, 1165, 1167, 1169, 1171, 1173, 1175, 1177, 1179, 1181] (by decide +kernel)
set_option maxRecDepth 100000 in
theorem ax_WC_in : ∀ w ∈ ax_WC, w ∈ lw_tbl := ax_inW [495, 502, 509, 826, 823, 740, 745, 816, 737, 1038, 996, 993, 585, 481, 556, 477, 754, 893, 1094, 930, 1052, 881, 885, 877, 543, 590, 580, 535, 433, 514, 518, 506, 499, 527, 539, 473, 797, 758, 485, 723, 448, 467, 733, 729, 719, 781, 715, 801, 793, 903, 912, 917, 962, 957, 953, 967, 1035, 1061, 607, 610, 603, 615, 671, 667, 678, 687, 683, 694, 700, 706, 599, 595, 945, 941, 456, 368, 437, 441, 376, 392, 388, 452, 384, 396, 414, 404, 400, 982, 978, 988, 564, 568, 810, 820, 845, 365, 372, 362, 380, 408, 421, 425, 429, 463, 445, 492, 523, 531, 551, 547, 560, 572, 576, 711, 761, 749, 769, 773, 777, 785, 789, 806, 837, 833, 842, 850, 855, 859, 863, 869, 873, 889, 899, 908, 921, 926, 937, 949, 974, 971, 1008, 1012, 1004, 1023, 1019, 1027, 1031, 1044, 1048, 1066, 1057, 1074, 1070, 1078, 1082, 1086, 1098, 1090, 1198, 1194, 1264, 1284, 1233, 1191, 1206, 1296, 1188, 1210, 1213, 1202, 1217, 1221, 1225, 1229, 1240, 1244, 1252, 1248, 1256, 1237, 1268, 1261, 1276, 1272, 1288, 1280, 1292, 1300, 1304, 1319, 1322, 1316, 1331, 1337, 1326, 1312, 1346, 1308, 1361, 1368, 1358, 1354, 1380, 1350, 1376, 1372, 1385, 1389, 1393, 1397, 1405, 1401, 1420, 1417, 1424, 1413, 1409, 1428, 1432, 1436, 1440, 1444, 1448, 1452, 1456, 1464, 1460, 1472, 1468, 1476, 1480, 1485, 1494, 1490, 1498, 1510, 1518, 1514, 1506, 1502, 1530, 1526, 1522, 1534, 1538, 1546, 1542, 1550, 1554, 1563, 1559, 1572, 1568, 1576, 1580, 1584, 1588] (by rfl)
set_option maxRecDepth 100000 in
theorem ax_WD_in : ∀ w ∈ ax_WD, w ∈ lw_tbl := ax_inW [488, 619, 623, 629, 633, 636, 639, 644, 647, 650, 653, 657, 933, 1364] (by rfl)
set_option maxRecDepth 100000 in
theorem ax_N_in : ∀ w ∈ ax_N, w ∈ lw_tbl := ax_inW [191, 183, 250, 204, 210, 214, 207, 313, 317, 216, 190, 205, 213, 211, 258, 251, 184, 186, 188, 208, 202, 289, 303, 315, 218, 997, 999, 582, 587, 507, 500, 540, 474, 724, 725, 730, 959, 1036, 604, 672, 673, 688, 689, 695, 701, 942, 735, 989, 811, 812, 814, 821, 366, 373, 381, 393, 397, 409, 410, 411, 430, 434, 438, 446, 449, 453, 464, 470, 482, 493, 496, 511, 515, 524, 532, 536, 552, 553, 561, 565, 577, 592, 712, 750, 751, 755, 765, 778, 790, 802, 807, 817, 838, 843, 864, 865, 874, 890, 900, 909, 914, 927, 938, 950, 964, 975, 985, 990, 1013, 1014, 1015, 1032, 1049, 1058, 1091] (by decide +kernel)
theorem ax_W_in : ∀ w ∈ ax_W, w ∈ lw_tbl := List.forall_mem_append.mpr ⟨ax_W1_in, List.forall_mem_append.mpr ⟨ax_W2_in, List.forall_mem_append.mpr ⟨ax_W3_in, List.forall_mem_append.mpr ⟨ax_W4_in, List.forall_mem_append.mpr ⟨ax_W5_in, List.forall_mem_append.mpr ⟨ax_W6_in, List.forall_mem_append.mpr ⟨ax_W7_in, List.forall_mem_append.mpr ⟨ax_W8_in, List.forall_mem_append.mpr ⟨ax_WC_in, ax_WD_in⟩⟩⟩⟩⟩⟩⟩⟩⟩
set_option maxRecDepth 100000 in
theorem ax_W_good : ax_W.all goodWord = true := by decide +kernel
