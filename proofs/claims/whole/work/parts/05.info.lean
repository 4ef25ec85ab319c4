def ax_cn (c : Nat) : String := match ax_nth [RX0, RX1, RX2, RX3, RX4, RX5, RX6, RX7, RX8, RX9, RX10, RX11, RJ6, RJ13] c with
  | some x => x
  | none => RX0
/-- the class of a kind: its place in vwCl, name, fields, how many -/
def ax_ct (k : Nat) : Nat × (String × (u_T × Nat)) := match k with
  | 1 => (2, (RX3, (TX3, 7)))
  | 3 => (1, (RX2, (TX2, 1)))
  | 6 => (5, (RX6, (TX6, 4)))
  | 8 => (6, (RX7, (TX7, 3)))
  | 10 => (7, (RX8, (TX8, 2)))
  | 12 => (3, (RX4, (TX4, 4)))
  | 13 => (8, (RX9, (TX9, 1)))
  | 15 => (4, (RX5, (TX5, 2)))
  | 18 => (0, (RX1, (TX1, 1)))
  | 22 => (10, (RX11, (TX11, 26)))
  | _ => (9, (RX10, (TX10, 12)))
def ax_obj : List Nat := [0, 1, 3, 6, 8, 10, 12, 13, 15, 18, 22]
def ax_fd (k : Nat) : List (Nat × (Nat × Nat)) := match k with
  | 0 => [(3, (1, 0)), (3, (1, 1)), (3, (1, 2)), (4, (0, 0)), (3, (7, 0)), (3, (10, 0)), (3, (12, 0)), (3, (13, 0)), (3, (15, 0)), (3, (18, 0)), (3, (20, 0)), (3, (21, 0))]
  | 1 => [(1, (0, 0)), (0, (0, 0)), (2, (2, 0)), (2, (3, 0)), (0, (0, 0)), (2, (5, 0)), (0, (0, 0))]
  | 3 => [(2, (4, 0))]
  | 6 => [(0, (0, 0)), (0, (0, 0)), (0, (0, 0)), (0, (0, 0))]
  | 8 => [(0, (0, 0)), (0, (0, 0)), (2, (9, 0))]
  | 10 => [(3, (11, 0)), (0, (0, 0))]
  | 12 => [(3, (10, 0)), (0, (0, 0)), (0, (0, 0)), (0, (0, 0))]
  | 13 => [(3, (14, 0))]
  | 15 => [(3, (16, 0)), (3, (17, 0))]
  | 18 => [(3, (19, 0))]
  | 22 => [(3, (23, 0)), (0, (0, 0)), (3, (24, 0)), (3, (25, 0)), (0, (0, 0)), (3, (26, 0)), (3, (27, 0)), (3, (28, 0)), (3, (29, 0)), (0, (0, 0)), (0, (0, 0)), (3, (30, 0)), (0, (0, 0)), (0, (0, 0)), (0, (0, 0)), (0, (0, 0)), (3, (31, 0)), (3, (32, 0)), (3, (33, 0)), (3, (34, 0)), (4, (0, 0)), (3, (35, 0)), (3, (36, 0)), (3, (37, 0)), (3, (38, 0)), (3, (39, 0))]
  | _ => []
def ax_cnt (k : Nat) : Nat := match ax_nth [1, 3, 3, 3, 3, 3, 48, 1, 8, 8, 1, 1, 1, 1, 1, 1, 1, 1, 1, 1, 1, 1, 1, 1, 1, 1, 1, 1, 1, 1, 1, 1, 1, 1, 1, 1, 1, 1, 1, 1, 1, 1, 6] k with
  | some n => n
  | none => 0
abbrev ax_IR : Type := MethodName × (ByteArray × (Nat × (Option FieldType × (Nat × (Bool × (Nat × Nat))))))
abbrev r_X0_isCell : ax_IR := (yX0_isCell, (cX0_isCell, (1, ((some .boolean), (0, (true, (1, 0)))))))
abbrev r_X0_bit : ax_IR := (yX0_bit, (cX0_bit, (1, ((some .long), (0, (true, (1, 0)))))))
abbrev r_X0_has : ax_IR := (yX0_has, (cX0_has, (3, ((some .boolean), (0, (true, (2, 0)))))))
abbrev r_J13_bitCount_95d88 : ax_IR := (yJ13_bitCount_95d88, (cJ13_bitCount_95d88, (2, ((some .int), (13, (true, (1, 0)))))))
abbrev r_X0_lowest : ax_IR := (yX0_lowest, (cX0_lowest, (2, ((some .int), (0, (true, (1, 0)))))))
abbrev r_X0_leftAndRight : ax_IR := (yX0_leftAndRight, (cX0_leftAndRight, (2, ((some .long), (0, (true, (1, 0)))))))
abbrev r_X0_upAndDown : ax_IR := (yX0_upAndDown, (cX0_upAndDown, (2, ((some .long), (0, (true, (1, 0)))))))
abbrev r_X0_beside : ax_IR := (yX0_beside, (cX0_beside, (2, ((some .long), (0, (true, (1, 0)))))))
abbrev r_X0_zone : ax_IR := (yX0_zone, (cX0_zone, (5, ((some .long), (0, (true, (2, 0)))))))
abbrev r_X0_after : ax_IR := (yX0_after, (cX0_after, (6, ((some .int), (0, (true, (2, 0)))))))
abbrev r_X1_covers : ax_IR := (yX1_covers, (cX1_covers, (9, ((some .boolean), (1, (true, (4, 18)))))))
abbrev r_X1_find : ax_IR := (yX1_find, (cX1_find, (4, ((some .int), (1, (false, (1, 18)))))))
abbrev r_X2_become : ax_IR := (yX2_become, (cX2_become, (2, (none, (2, (false, (1, 3)))))))
abbrev r_X2_of : ax_IR := (yX2_of, (cX2_of, (3, ((some .int), (2, (false, (2, 3)))))))
abbrev r_X2_put : ax_IR := (yX2_put, (cX2_put, (4, (none, (2, (false, (3, 3)))))))
abbrev r_X2_owedBy : ax_IR := (yX2_owedBy, (cX2_owedBy, (4, ((some .int), (2, (false, (1, 3)))))))
abbrev r_X2_owedTo : ax_IR := (yX2_owedTo, (cX2_owedTo, (4, ((some .int), (2, (false, (1, 3)))))))
abbrev r_X2_balance : ax_IR := (yX2_balance, (cX2_balance, (2, ((some .int), (2, (false, (1, 3)))))))
abbrev r_X2_all : ax_IR := (yX2_all, (cX2_all, (3, ((some .int), (2, (false, (0, 3)))))))
abbrev r_X2_shared : ax_IR := (yX2_shared, (cX2_shared, (4, ((some .int), (2, (false, (0, 3)))))))
abbrev r_X2_cancel : ax_IR := (yX2_cancel, (cX2_cancel, (4, (none, (2, (false, (0, 3)))))))
abbrev r_X2_creditorsOf : ax_IR := (yX2_creditorsOf, (cX2_creditorsOf, (4, ((some .int), (2, (false, (1, 3)))))))
abbrev r_X2_creditorsOfAll : ax_IR := (yX2_creditorsOfAll, (cX2_creditorsOfAll, (4, ((some .int), (2, (false, (1, 3)))))))
abbrev r_X2_links : ax_IR := (yX2_links, (cX2_links, (5, ((some .int), (2, (false, (2, 3)))))))
abbrev r_X6_fill : ax_IR := (yX6_fill, (cX6_fill, (5, (none, (6, (false, (4, 6)))))))
abbrev r_X6_become : ax_IR := (yX6_become, (cX6_become, (2, (none, (6, (false, (1, 6)))))))
abbrev r_X3_become : ax_IR := (yX3_become, (cX3_become, (3, (none, (3, (false, (1, 1)))))))
abbrev r_X3_isPerson : ax_IR := (yX3_isPerson, (cX3_isPerson, (2, ((some .boolean), (3, (false, (1, 1)))))))
abbrev r_X3_isSeed : ax_IR := (yX3_isSeed, (cX3_isSeed, (2, ((some .boolean), (3, (false, (1, 1)))))))
abbrev r_X3_hasWall : ax_IR := (yX3_hasWall, (cX3_hasWall, (2, ((some .boolean), (3, (false, (1, 1)))))))
abbrev r_X3_putWall : ax_IR := (yX3_putWall, (cX3_putWall, (3, (none, (3, (false, (2, 1)))))))
abbrev r_X3_peopleWithin : ax_IR := (yX3_peopleWithin, (cX3_peopleWithin, (5, ((some .int), (3, (false, (1, 1)))))))
abbrev r_X3_isStoodOn : ax_IR := (yX3_isStoodOn, (cX3_isStoodOn, (2, ((some .boolean), (3, (false, (1, 1)))))))
abbrev r_X3_addPerson : ax_IR := (yX3_addPerson, (cX3_addPerson, (2, ((some .int), (3, (false, (1, 1)))))))
abbrev r_X3_addSeed : ax_IR := (yX3_addSeed, (cX3_addSeed, (5, ((some .int), (3, (false, (4, 1)))))))
abbrev r_X3_debtors : ax_IR := (yX3_debtors, (cX3_debtors, (3, ((some .int), (3, (false, (0, 1)))))))
abbrev r_X3_allSeeds : ax_IR := (yX3_allSeeds, (cX3_allSeeds, (1, ((some .int), (3, (false, (0, 1)))))))
abbrev r_X3_seedsBut : ax_IR := (yX3_seedsBut, (cX3_seedsBut, (4, ((some .int), (3, (false, (1, 1)))))))
abbrev r_X6_price : ax_IR := (yX6_price, (cX6_price, (1, ((some .int), (6, (false, (0, 6)))))))
abbrev r_X3_enoughOf : ax_IR := (yX3_enoughOf, (cX3_enoughOf, (7, ((some .int), (3, (false, (1, 1)))))))
abbrev r_X6_isKind : ax_IR := (yX6_isKind, (cX6_isKind, (1, ((some .boolean), (6, (true, (1, 6)))))))
abbrev r_X6_span : ax_IR := (yX6_span, (cX6_span, (1, ((some .int), (6, (false, (0, 6)))))))
abbrev r_X6_zone : ax_IR := (yX6_zone, (cX6_zone, (1, ((some .long), (6, (false, (0, 6)))))))
abbrev r_X3_near : ax_IR := (yX3_near, (cX3_near, (5, ((some .int), (3, (false, (2, 1)))))))
abbrev r_X3_shownBy : ax_IR := (yX3_shownBy, (cX3_shownBy, (2, ((some .int), (3, (false, (1, 1)))))))
abbrev r_X3_shown : ax_IR := (yX3_shown, (cX3_shown, (3, ((some .int), (3, (false, (0, 1)))))))
abbrev r_X3_showers : ax_IR := (yX3_showers, (cX3_showers, (4, ((some .int), (3, (false, (1, 1)))))))
abbrev r_X3_quietAmong : ax_IR := (yX3_quietAmong, (cX3_quietAmong, (7, ((some .long), (3, (false, (2, 1)))))))
abbrev r_X3_quietFor : ax_IR := (yX3_quietFor, (cX3_quietFor, (2, ((some .long), (3, (false, (1, 1)))))))
abbrev r_X3_dueOf : ax_IR := (yX3_dueOf, (cX3_dueOf, (7, ((some .int), (3, (false, (2, 1)))))))
abbrev r_X3_allDueOf : ax_IR := (yX3_allDueOf, (cX3_allDueOf, (4, ((some .int), (3, (false, (1, 1)))))))
abbrev r_X3_isNearRank : ax_IR := (yX3_isNearRank, (cX3_isNearRank, (4, ((some .boolean), (3, (false, (1, 1)))))))
abbrev r_X6_isTelltale : ax_IR := (yX6_isTelltale, (cX6_isTelltale, (1, ((some .boolean), (6, (false, (0, 6)))))))
abbrev r_X3_telltales : ax_IR := (yX3_telltales, (cX3_telltales, (5, ((some .int), (3, (false, (2, 1)))))))
abbrev r_X3_mayOwe : ax_IR := (yX3_mayOwe, (cX3_mayOwe, (3, ((some .boolean), (3, (false, (2, 1)))))))
abbrev r_X3_surelyOwes : ax_IR := (yX3_surelyOwes, (cX3_surelyOwes, (6, ((some .boolean), (3, (false, (2, 1)))))))
abbrev r_X3_go : ax_IR := (yX3_go, (cX3_go, (4, ((some .boolean), (3, (false, (2, 1)))))))
abbrev r_X3_draw : ax_IR := (yX3_draw, (cX3_draw, (2, ((some .int), (3, (false, (1, 1)))))))
abbrev r_X8_at : ax_IR := (yX8_at, (cX8_at, (2, ((some .int), (8, (false, (1, 10)))))))
abbrev r_X4_tokenOf : ax_IR := (yX4_tokenOf, (cX4_tokenOf, (1, ((some .int), (4, (true, (1, 12)))))))
abbrev r_X4_advance : ax_IR := (yX4_advance, (cX4_advance, (1, (none, (4, (false, (0, 12)))))))
abbrev r_X4_isWord : ax_IR := (yX4_isWord, (cX4_isWord, (3, ((some .boolean), (4, (false, (1, 12)))))))
abbrev r_X4_readNumber : ax_IR := (yX4_readNumber, (cX4_readNumber, (4, ((some .int), (4, (false, (1, 12)))))))
abbrev r_X4_readWall : ax_IR := (yX4_readWall, (cX4_readWall, (3, ((some .boolean), (4, (false, (1, 12)))))))
abbrev r_X4_readOpen : ax_IR := (yX4_readOpen, (cX4_readOpen, (3, ((some .boolean), (4, (false, (1, 12)))))))
abbrev r_X4_readFloor : ax_IR := (yX4_readFloor, (cX4_readFloor, (3, ((some .int), (4, (false, (1, 12)))))))
abbrev r_X4_readPerson : ax_IR := (yX4_readPerson, (cX4_readPerson, (3, ((some .boolean), (4, (false, (1, 12)))))))
abbrev r_X4_readOwes : ax_IR := (yX4_readOwes, (cX4_readOwes, (5, ((some .boolean), (4, (false, (1, 12)))))))
abbrev r_X4_readSeed : ax_IR := (yX4_readSeed, (cX4_readSeed, (6, ((some .boolean), (4, (false, (1, 12)))))))
abbrev r_X4_readGo : ax_IR := (yX4_readGo, (cX4_readGo, (4, ((some .boolean), (4, (false, (1, 12)))))))
abbrev r_X4_readStatement : ax_IR := (yX4_readStatement, (cX4_readStatement, (2, ((some .boolean), (4, (false, (1, 12)))))))
abbrev r_X4_readAll : ax_IR := (yX4_readAll, (cX4_readAll, (3, ((some .int), (4, (false, (1, 12)))))))
abbrev r_X5_closes : ax_IR := (yX5_closes, (cX5_closes, (7, ((some .boolean), (5, (true, (5, 15)))))))
abbrev r_X5_find : ax_IR := (yX5_find, (cX5_find, (4, ((some .int), (5, (false, (1, 15)))))))
abbrev r_X6_isOf : ax_IR := (yX6_isOf, (cX6_isOf, (4, ((some .boolean), (6, (false, (1, 6)))))))
abbrev r_X7_isSort : ax_IR := (yX7_isSort, (cX7_isSort, (1, ((some .boolean), (7, (true, (1, 8)))))))
abbrev r_X7_clear : ax_IR := (yX7_clear, (cX7_clear, (1, (none, (7, (false, (0, 8)))))))
abbrev r_X7_takeSeed : ax_IR := (yX7_takeSeed, (cX7_takeSeed, (2, (none, (7, (false, (1, 8)))))))
abbrev r_X7_takeRow : ax_IR := (yX7_takeRow, (cX7_takeRow, (4, (none, (7, (false, (2, 8)))))))
abbrev r_X7_isEmpty : ax_IR := (yX7_isEmpty, (cX7_isEmpty, (1, ((some .boolean), (7, (false, (0, 8)))))))
abbrev r_X7_holdsSeed : ax_IR := (yX7_holdsSeed, (cX7_holdsSeed, (1, ((some .boolean), (7, (false, (0, 8)))))))
abbrev r_X7_seedNumber : ax_IR := (yX7_seedNumber, (cX7_seedNumber, (1, ((some .int), (7, (false, (0, 8)))))))
abbrev r_X7_noRow : ax_IR := (yX7_noRow, (cX7_noRow, (1, ((some .int), (7, (false, (0, 8)))))))
abbrev r_X7_hasElement : ax_IR := (yX7_hasElement, (cX7_hasElement, (2, ((some .boolean), (7, (false, (1, 8)))))))
abbrev r_X7_hasElements : ax_IR := (yX7_hasElements, (cX7_hasElements, (3, ((some .boolean), (7, (false, (2, 8)))))))
abbrev r_X7_fit : ax_IR := (yX7_fit, (cX7_fit, (3, ((some .long), (7, (false, (1, 8)))))))
abbrev r_X7_put : ax_IR := (yX7_put, (cX7_put, (4, (none, (7, (false, (2, 8)))))))
abbrev r_X7_cellAt : ax_IR := (yX7_cellAt, (cX7_cellAt, (2, ((some .int), (7, (false, (1, 8)))))))
abbrev r_X7_areCells : ax_IR := (yX7_areCells, (cX7_areCells, (3, ((some .boolean), (7, (false, (1, 8)))))))
abbrev r_X7_cellBits : ax_IR := (yX7_cellBits, (cX7_cellBits, (5, ((some .long), (7, (false, (1, 8)))))))
abbrev r_X8_isFull : ax_IR := (yX8_isFull, (cX8_isFull, (1, ((some .boolean), (8, (false, (0, 10)))))))
abbrev r_X8_add : ax_IR := (yX8_add, (cX8_add, (2, (none, (8, (false, (1, 10)))))))
abbrev r_X9_find : ax_IR := (yX9_find, (cX9_find, (8, ((some .int), (9, (false, (3, 13)))))))
abbrev r_X9_cellOf : ax_IR := (yX9_cellOf, (cX9_cellOf, (6, ((some .int), (9, (false, (3, 13)))))))
abbrev r_X9_flood : ax_IR := (yX9_flood, (cX9_flood, (6, ((some .long), (9, (true, (2, 13)))))))
abbrev r_X10_isShelf : ax_IR := (yX10_isShelf, (cX10_isShelf, (1, ((some .boolean), (10, (true, (1, 0)))))))
abbrev r_X10_refuse : ax_IR := (yX10_refuse, (cX10_refuse, (3, ((some .int), (10, (false, (1, 0)))))))
abbrev r_X10_row : ax_IR := (yX10_row, (cX10_row, (4, ((some .int), (10, (false, (3, 0)))))))
abbrev r_X10_set : ax_IR := (yX10_set, (cX10_set, (6, ((some .int), (10, (false, (3, 0)))))))
abbrev r_X10_copy : ax_IR := (yX10_copy, (cX10_copy, (8, ((some .int), (10, (false, (5, 0)))))))
abbrev r_X10_element : ax_IR := (yX10_element, (cX10_element, (3, ((some .long), (10, (false, (2, 0)))))))
abbrev r_X10_holds : ax_IR := (yX10_holds, (cX10_holds, (2, ((some .int), (10, (false, (1, 0)))))))
abbrev r_X10_show : ax_IR := (yX10_show, (cX10_show, (3, ((some .int), (10, (false, (2, 0)))))))
abbrev r_X10_saysAs : ax_IR := (yX10_saysAs, (cX10_saysAs, (3, ((some .int), (10, (false, (2, 0)))))))
abbrev r_X10_says : ax_IR := (yX10_says, (cX10_says, (5, ((some .int), (10, (false, (2, 0)))))))
abbrev r_X10_wall : ax_IR := (yX10_wall, (cX10_wall, (3, ((some .int), (10, (false, (2, 0)))))))
abbrev r_X10_person : ax_IR := (yX10_person, (cX10_person, (2, ((some .int), (10, (false, (1, 0)))))))
abbrev r_X10_sow : ax_IR := (yX10_sow, (cX10_sow, (5, ((some .int), (10, (false, (4, 0)))))))
abbrev r_X10_isPair : ax_IR := (yX10_isPair, (cX10_isPair, (3, ((some .boolean), (10, (false, (2, 0)))))))
abbrev r_X10_owes : ax_IR := (yX10_owes, (cX10_owes, (5, ((some .int), (10, (false, (3, 0)))))))
abbrev r_X10_feed : ax_IR := (yX10_feed, (cX10_feed, (2, ((some .int), (10, (false, (1, 0)))))))
abbrev r_X10_wipe : ax_IR := (yX10_wipe, (cX10_wipe, (2, ((some .int), (10, (false, (0, 0)))))))
abbrev r_X10_garden : ax_IR := (yX10_garden, (cX10_garden, (2, ((some .int), (10, (false, (0, 0)))))))
abbrev r_X10_seedOf : ax_IR := (yX10_seedOf, (cX10_seedOf, (4, ((some .int), (10, (false, (2, 0)))))))
abbrev r_J6_bitCount_0f7a4 : ax_IR := (yJ6_bitCount_0f7a4, (cJ6_bitCount_0f7a4, (1, ((some .int), (12, (true, (1, 0)))))))
abbrev r_X10_personOf : ax_IR := (yX10_personOf, (cX10_personOf, (3, ((some .int), (10, (false, (2, 0)))))))
abbrev r_X10_debt : ax_IR := (yX10_debt, (cX10_debt, (3, ((some .int), (10, (false, (2, 0)))))))
abbrev r_X10_isWall : ax_IR := (yX10_isWall, (cX10_isWall, (2, ((some .int), (10, (false, (1, 0)))))))
abbrev r_X10_up : ax_IR := (yX10_up, (cX10_up, (2, ((some .int), (10, (false, (1, 0)))))))
abbrev r_X10_by : ax_IR := (yX10_by, (cX10_by, (2, ((some .int), (10, (false, (1, 0)))))))
abbrev r_X10_quiet : ax_IR := (yX10_quiet, (cX10_quiet, (3, ((some .int), (10, (false, (2, 0)))))))
abbrev r_X10_way : ax_IR := (yX10_way, (cX10_way, (6, ((some .int), (10, (false, (3, 0)))))))
abbrev r_X10_hasWay : ax_IR := (yX10_hasWay, (cX10_hasWay, (5, ((some .boolean), (10, (false, (3, 0)))))))
abbrev r_X10_bar : ax_IR := (yX10_bar, (cX10_bar, (4, ((some .int), (10, (false, (2, 0)))))))
abbrev r_X10_reach : ax_IR := (yX10_reach, (cX10_reach, (2, ((some .int), (10, (false, (1, 0)))))))
abbrev r_X10_loud : ax_IR := (yX10_loud, (cX10_loud, (2, ((some .int), (10, (false, (1, 0)))))))
abbrev r_X10_together : ax_IR := (yX10_together, (cX10_together, (4, ((some .int), (10, (false, (1, 0)))))))
abbrev r_X10_calm : ax_IR := (yX10_calm, (cX10_calm, (4, ((some .int), (10, (false, (0, 0)))))))
abbrev r_X10_idle : ax_IR := (yX10_idle, (cX10_idle, (3, ((some .int), (10, (false, (0, 0)))))))
abbrev r_X10_worst : ax_IR := (yX10_worst, (cX10_worst, (5, ((some .int), (10, (false, (0, 0)))))))
abbrev r_X10_chain : ax_IR := (yX10_chain, (cX10_chain, (3, ((some .int), (10, (false, (2, 0)))))))
abbrev r_X10_poorest : ax_IR := (yX10_poorest, (cX10_poorest, (3, ((some .int), (10, (false, (0, 0)))))))
abbrev r_X10_due : ax_IR := (yX10_due, (cX10_due, (3, ((some .int), (10, (false, (2, 0)))))))
abbrev r_X10_bare : ax_IR := (yX10_bare, (cX10_bare, (4, ((some .int), (10, (false, (0, 0)))))))
abbrev r_X10_net : ax_IR := (yX10_net, (cX10_net, (2, ((some .int), (10, (false, (1, 0)))))))
abbrev r_X10_mutual : ax_IR := (yX10_mutual, (cX10_mutual, (1, ((some .int), (10, (false, (0, 0)))))))
abbrev r_X10_ring : ax_IR := (yX10_ring, (cX10_ring, (3, ((some .int), (10, (false, (1, 0)))))))
abbrev r_X10_guess : ax_IR := (yX10_guess, (cX10_guess, (5, ((some .int), (10, (false, (3, 0)))))))
abbrev r_X10_noTold : ax_IR := (yX10_noTold, (cX10_noTold, (3, ((some .int), (10, (true, (2, 0)))))))
abbrev r_X10_tells : ax_IR := (yX10_tells, (cX10_tells, (7, ((some .int), (10, (false, (3, 0)))))))
abbrev r_X10_noWalk : ax_IR := (yX10_noWalk, (cX10_noWalk, (4, ((some .int), (10, (false, (3, 0)))))))
abbrev r_X10_wrongOf : ax_IR := (yX10_wrongOf, (cX10_wrongOf, (7, ((some .int), (10, (false, (3, 0)))))))
abbrev r_X10_judge : ax_IR := (yX10_judge, (cX10_judge, (5, ((some .int), (10, (false, (3, 0)))))))
abbrev r_X10_noTrueWalk : ax_IR := (yX10_noTrueWalk, (cX10_noTrueWalk, (5, ((some .int), (10, (false, (3, 0)))))))
abbrev r_X10_seen : ax_IR := (yX10_seen, (cX10_seen, (8, ((some .int), (10, (false, (3, 0)))))))
abbrev r_X10_walk : ax_IR := (yX10_walk, (cX10_walk, (5, ((some .int), (10, (false, (3, 0)))))))
abbrev r_X10_step : ax_IR := (yX10_step, (cX10_step, (3, ((some .int), (10, (false, (2, 0)))))))
abbrev r_X10_pay : ax_IR := (yX10_pay, (cX10_pay, (5, ((some .int), (10, (false, (3, 0)))))))
abbrev r_X10_strike : ax_IR := (yX10_strike, (cX10_strike, (2, ((some .int), (10, (false, (0, 0)))))))
abbrev r_X10_countShowing : ax_IR := (yX10_countShowing, (cX10_countShowing, (3, ((some .int), (10, (false, (0, 0)))))))
abbrev r_X10_days : ax_IR := (yX10_days, (cX10_days, (5, ((some .int), (10, (false, (1, 0)))))))
abbrev r_X10_dropLostSeeds : ax_IR := (yX10_dropLostSeeds, (cX10_dropLostSeeds, (2, (none, (10, (false, (0, 0)))))))
abbrev r_X10_weed : ax_IR := (yX10_weed, (cX10_weed, (1, ((some .int), (10, (false, (0, 0)))))))
abbrev r_X10_seed : ax_IR := (yX10_seed, (cX10_seed, (3, ((some .int), (10, (false, (1, 0)))))))
abbrev r_X10_image : ax_IR := (yX10_image, (cX10_image, (1, ((some .int), (10, (false, (0, 0)))))))
abbrev r_X10_back : ax_IR := (yX10_back, (cX10_back, (1, ((some .int), (10, (false, (0, 0)))))))
abbrev r_X10_fullShelves : ax_IR := (yX10_fullShelves, (cX10_fullShelves, (3, ((some .int), (10, (false, (0, 0)))))))
abbrev r_X10_status : ax_IR := (yX10_status, (cX10_status, (2, ((some .int), (10, (false, (1, 0)))))))
abbrev r_X11_no : ax_IR := (yX11_no, (cX11_no, (2, ((some .int), (11, (false, (1, 22)))))))
abbrev r_X11_within : ax_IR := (yX11_within, (cX11_within, (3, ((some .boolean), (11, (true, (3, 22)))))))
abbrev r_X11_isCell : ax_IR := (yX11_isCell, (cX11_isCell, (1, ((some .boolean), (11, (true, (1, 22)))))))
abbrev r_X11_isOne : ax_IR := (yX11_isOne, (cX11_isOne, (2, ((some .boolean), (11, (false, (1, 22)))))))
abbrev r_X11_isSeed : ax_IR := (yX11_isSeed, (cX11_isSeed, (2, ((some .boolean), (11, (false, (1, 22)))))))
abbrev r_X11_isShelf : ax_IR := (yX11_isShelf, (cX11_isShelf, (1, ((some .boolean), (11, (true, (1, 22)))))))
abbrev r_X11_isRow : ax_IR := (yX11_isRow, (cX11_isRow, (2, ((some .boolean), (11, (false, (1, 22)))))))
abbrev r_X11_areTwo : ax_IR := (yX11_areTwo, (cX11_areTwo, (3, ((some .boolean), (11, (false, (2, 22)))))))
abbrev r_X11_row : ax_IR := (yX11_row, (cX11_row, (5, ((some .int), (11, (false, (3, 22)))))))
abbrev r_X11_noRow : ax_IR := (yX11_noRow, (cX11_noRow, (2, ((some .int), (11, (false, (1, 22)))))))
abbrev r_X11_kept : ax_IR := (yX11_kept, (cX11_kept, (3, ((some .long), (11, (true, (2, 22)))))))
abbrev r_X11_set : ax_IR := (yX11_set, (cX11_set, (5, ((some .int), (11, (false, (3, 22)))))))
abbrev r_X11_copy : ax_IR := (yX11_copy, (cX11_copy, (7, ((some .int), (11, (false, (5, 22)))))))
abbrev r_X11_element : ax_IR := (yX11_element, (cX11_element, (3, ((some .long), (11, (false, (2, 22)))))))
abbrev r_X11_holds : ax_IR := (yX11_holds, (cX11_holds, (2, ((some .int), (11, (false, (1, 22)))))))
abbrev r_X11_show : ax_IR := (yX11_show, (cX11_show, (3, ((some .int), (11, (false, (2, 22)))))))
abbrev r_X11_isUnder : ax_IR := (yX11_isUnder, (cX11_isUnder, (2, ((some .boolean), (11, (true, (2, 22)))))))
abbrev r_X11_reachOf : ax_IR := (yX11_reachOf, (cX11_reachOf, (2, ((some .int), (11, (false, (1, 22)))))))
abbrev r_X11_allOwed : ax_IR := (yX11_allOwed, (cX11_allOwed, (4, ((some .int), (11, (false, (1, 22)))))))
abbrev r_X11_owing : ax_IR := (yX11_owing, (cX11_owing, (3, ((some .int), (11, (false, (0, 22)))))))
abbrev r_X11_takes : ax_IR := (yX11_takes, (cX11_takes, (2, ((some .int), (11, (false, (1, 22)))))))
abbrev r_X11_says : ax_IR := (yX11_says, (cX11_says, (4, ((some .int), (11, (false, (2, 22)))))))
abbrev r_X11_somebodyAt : ax_IR := (yX11_somebodyAt, (cX11_somebodyAt, (3, ((some .boolean), (11, (false, (1, 22)))))))
abbrev r_X11_wall : ax_IR := (yX11_wall, (cX11_wall, (3, ((some .int), (11, (false, (2, 22)))))))
abbrev r_X11_newOne : ax_IR := (yX11_newOne, (cX11_newOne, (3, ((some .int), (11, (false, (1, 22)))))))
abbrev r_X11_person : ax_IR := (yX11_person, (cX11_person, (2, ((some .int), (11, (false, (1, 22)))))))
abbrev r_X11_newSeed : ax_IR := (yX11_newSeed, (cX11_newSeed, (5, ((some .int), (11, (false, (4, 22)))))))
abbrev r_X11_sow : ax_IR := (yX11_sow, (cX11_sow, (5, ((some .int), (11, (false, (4, 22)))))))
abbrev r_X11_owes : ax_IR := (yX11_owes, (cX11_owes, (5, ((some .int), (11, (false, (3, 22)))))))
abbrev r_X11_feed : ax_IR := (yX11_feed, (cX11_feed, (2, ((some .int), (11, (false, (1, 22)))))))
abbrev r_X11_wipe : ax_IR := (yX11_wipe, (cX11_wipe, (2, ((some .int), (11, (false, (0, 22)))))))
abbrev r_X11_isLetter : ax_IR := (yX11_isLetter, (cX11_isLetter, (1, ((some .boolean), (11, (true, (1, 22)))))))
abbrev r_X11_isDigit : ax_IR := (yX11_isDigit, (cX11_isDigit, (1, ((some .boolean), (11, (true, (1, 22)))))))
abbrev r_X11_next : ax_IR := (yX11_next, (cX11_next, (2, (none, (11, (false, (0, 22)))))))
abbrev r_X11_isWord : ax_IR := (yX11_isWord, (cX11_isWord, (3, ((some .boolean), (11, (false, (1, 22)))))))
abbrev r_X11_number : ax_IR := (yX11_number, (cX11_number, (3, ((some .int), (11, (false, (2, 22)))))))
abbrev r_X11_statement : ax_IR := (yX11_statement, (cX11_statement, (5, ((some .boolean), (11, (false, (0, 22)))))))
abbrev r_X11_keep : ax_IR := (yX11_keep, (cX11_keep, (3, (none, (11, (false, (1, 22)))))))
abbrev r_X11_again : ax_IR := (yX11_again, (cX11_again, (3, (none, (11, (false, (1, 22)))))))
abbrev r_X11_garden : ax_IR := (yX11_garden, (cX11_garden, (3, ((some .int), (11, (false, (0, 22)))))))
abbrev r_X11_far : ax_IR := (yX11_far, (cX11_far, (2, ((some .int), (11, (true, (2, 22)))))))
abbrev r_X11_owesEnough : ax_IR := (yX11_owesEnough, (cX11_owesEnough, (3, ((some .boolean), (11, (false, (2, 22)))))))
abbrev r_X11_isUp : ax_IR := (yX11_isUp, (cX11_isUp, (4, ((some .boolean), (11, (false, (3, 22)))))))
abbrev r_X11_byOf : ax_IR := (yX11_byOf, (cX11_byOf, (4, ((some .int), (11, (false, (1, 22)))))))
abbrev r_X11_upOf : ax_IR := (yX11_upOf, (cX11_upOf, (4, ((some .int), (11, (false, (1, 22)))))))
abbrev r_X11_seedOf : ax_IR := (yX11_seedOf, (cX11_seedOf, (3, ((some .int), (11, (false, (2, 22)))))))
abbrev r_X11_owedTo : ax_IR := (yX11_owedTo, (cX11_owedTo, (4, ((some .int), (11, (false, (1, 22)))))))
abbrev r_X11_personOf : ax_IR := (yX11_personOf, (cX11_personOf, (5, ((some .int), (11, (false, (2, 22)))))))
abbrev r_X11_debt : ax_IR := (yX11_debt, (cX11_debt, (3, ((some .int), (11, (false, (2, 22)))))))
abbrev r_X11_isWall : ax_IR := (yX11_isWall, (cX11_isWall, (2, ((some .int), (11, (false, (1, 22)))))))
abbrev r_X11_up : ax_IR := (yX11_up, (cX11_up, (2, ((some .int), (11, (false, (1, 22)))))))
abbrev r_X11_by : ax_IR := (yX11_by, (cX11_by, (2, ((some .int), (11, (false, (1, 22)))))))
abbrev r_X11_isQuiet : ax_IR := (yX11_isQuiet, (cX11_isQuiet, (5, ((some .boolean), (11, (false, (3, 22)))))))
abbrev r_X11_quiet : ax_IR := (yX11_quiet, (cX11_quiet, (3, ((some .int), (11, (false, (2, 22)))))))
abbrev r_X11_beside : ax_IR := (yX11_beside, (cX11_beside, (2, ((some .int), (11, (true, (2, 22)))))))
abbrev r_X11_walks : ax_IR := (yX11_walks, (cX11_walks, (8, (none, (11, (false, (2, 22)))))))
abbrev r_X11_walksBack : ax_IR := (yX11_walksBack, (cX11_walksBack, (8, (none, (11, (false, (2, 22)))))))
abbrev r_X11_wayOf : ax_IR := (yX11_wayOf, (cX11_wayOf, (3, ((some .int), (11, (false, (2, 22)))))))
abbrev r_X11_way : ax_IR := (yX11_way, (cX11_way, (10, ((some .int), (11, (false, (3, 22)))))))
abbrev r_X11_bar : ax_IR := (yX11_bar, (cX11_bar, (4, ((some .int), (11, (false, (2, 22)))))))
abbrev r_X11_reach : ax_IR := (yX11_reach, (cX11_reach, (4, ((some .int), (11, (false, (1, 22)))))))
abbrev r_X11_loud : ax_IR := (yX11_loud, (cX11_loud, (4, ((some .int), (11, (false, (1, 22)))))))
abbrev r_X11_together : ax_IR := (yX11_together, (cX11_together, (4, ((some .int), (11, (false, (1, 22)))))))
abbrev r_X11_calm : ax_IR := (yX11_calm, (cX11_calm, (5, ((some .int), (11, (false, (0, 22)))))))
abbrev r_X11_idle : ax_IR := (yX11_idle, (cX11_idle, (5, ((some .int), (11, (false, (0, 22)))))))
abbrev r_X11_worst : ax_IR := (yX11_worst, (cX11_worst, (3, ((some .int), (11, (false, (0, 22)))))))
abbrev r_X11_chain : ax_IR := (yX11_chain, (cX11_chain, (9, ((some .int), (11, (false, (2, 22)))))))
abbrev r_X11_netOf : ax_IR := (yX11_netOf, (cX11_netOf, (2, ((some .int), (11, (false, (1, 22)))))))
abbrev r_X11_poorest : ax_IR := (yX11_poorest, (cX11_poorest, (3, ((some .int), (11, (false, (0, 22)))))))
abbrev r_X11_dueOf : ax_IR := (yX11_dueOf, (cX11_dueOf, (6, ((some .int), (11, (false, (2, 22)))))))
abbrev r_X11_due : ax_IR := (yX11_due, (cX11_due, (3, ((some .int), (11, (false, (2, 22)))))))
abbrev r_X11_bare : ax_IR := (yX11_bare, (cX11_bare, (5, ((some .int), (11, (false, (0, 22)))))))
abbrev r_X11_net : ax_IR := (yX11_net, (cX11_net, (2, ((some .int), (11, (false, (1, 22)))))))
abbrev r_X11_mutual : ax_IR := (yX11_mutual, (cX11_mutual, (4, ((some .int), (11, (false, (0, 22)))))))
abbrev r_X11_rings : ax_IR := (yX11_rings, (cX11_rings, (6, ((some .boolean), (11, (false, (3, 22)))))))
abbrev r_X11_ring : ax_IR := (yX11_ring, (cX11_ring, (5, ((some .int), (11, (false, (1, 22)))))))
abbrev r_X11_guess : ax_IR := (yX11_guess, (cX11_guess, (9, ((some .int), (11, (false, (3, 22)))))))
abbrev r_X11_toldAt : ax_IR := (yX11_toldAt, (cX11_toldAt, (5, ((some .int), (11, (false, (2, 22)))))))
abbrev r_X11_tellsAll : ax_IR := (yX11_tellsAll, (cX11_tellsAll, (7, ((some .boolean), (11, (false, (3, 22)))))))
abbrev r_X11_fewest : ax_IR := (yX11_fewest, (cX11_fewest, (3, ((some .int), (11, (false, (2, 22)))))))
abbrev r_X11_noRow_ : ax_IR := (yX11_noRow_, (cX11_noRow_, (3, ((some .int), (11, (false, (2, 22)))))))
abbrev r_X11_tells : ax_IR := (yX11_tells, (cX11_tells, (6, ((some .int), (11, (false, (3, 22)))))))
abbrev r_X11_wrong : ax_IR := (yX11_wrong, (cX11_wrong, (7, ((some .int), (11, (false, (3, 22)))))))
abbrev r_X11_noWalk : ax_IR := (yX11_noWalk, (cX11_noWalk, (4, ((some .int), (11, (false, (3, 22)))))))
abbrev r_X11_judge : ax_IR := (yX11_judge, (cX11_judge, (5, ((some .int), (11, (false, (3, 22)))))))
abbrev r_X11_seen : ax_IR := (yX11_seen, (cX11_seen, (6, ((some .int), (11, (false, (3, 22)))))))
abbrev r_X11_walk : ax_IR := (yX11_walk, (cX11_walk, (5, ((some .int), (11, (false, (3, 22)))))))
abbrev r_X11_goes : ax_IR := (yX11_goes, (cX11_goes, (4, ((some .boolean), (11, (false, (2, 22)))))))
abbrev r_X11_step : ax_IR := (yX11_step, (cX11_step, (3, ((some .int), (11, (false, (2, 22)))))))
abbrev r_X11_pay : ax_IR := (yX11_pay, (cX11_pay, (4, ((some .int), (11, (false, (3, 22)))))))
abbrev r_X11_strike : ax_IR := (yX11_strike, (cX11_strike, (5, ((some .int), (11, (false, (0, 22)))))))
abbrev r_X11_draw : ax_IR := (yX11_draw, (cX11_draw, (2, ((some .int), (11, (false, (1, 22)))))))
abbrev r_X11_days : ax_IR := (yX11_days, (cX11_days, (5, ((some .int), (11, (false, (1, 22)))))))
abbrev r_X11_unshelve : ax_IR := (yX11_unshelve, (cX11_unshelve, (2, (none, (11, (false, (0, 22)))))))
abbrev r_X11_weed : ax_IR := (yX11_weed, (cX11_weed, (1, ((some .int), (11, (false, (0, 22)))))))
abbrev r_X11_seed : ax_IR := (yX11_seed, (cX11_seed, (3, ((some .int), (11, (false, (1, 22)))))))
abbrev r_X11_image : ax_IR := (yX11_image, (cX11_image, (1, ((some .int), (11, (false, (0, 22)))))))
abbrev r_X11_back : ax_IR := (yX11_back, (cX11_back, (1, ((some .int), (11, (false, (0, 22)))))))
abbrev r_X11_status : ax_IR := (yX11_status, (cX11_status, (4, ((some .int), (11, (false, (1, 22)))))))
def ax_I0 : List ax_IR := [r_X0_isCell, r_X0_bit, r_X0_has, r_J13_bitCount_95d88, r_X0_lowest, r_X0_leftAndRight, r_X0_upAndDown, r_X0_beside, r_X0_zone, r_X0_after, r_X1_covers, r_X1_find, r_X2_become, r_X2_of, r_X2_put, r_X2_owedBy]
def ax_I1 : List ax_IR := [r_X2_owedTo, r_X2_balance, r_X2_all, r_X2_shared, r_X2_cancel, r_X2_creditorsOf, r_X2_creditorsOfAll, r_X2_links, r_X6_fill, r_X6_become, r_X3_become, r_X3_isPerson, r_X3_isSeed, r_X3_hasWall, r_X3_putWall, r_X3_peopleWithin]
def ax_I2 : List ax_IR := [r_X3_isStoodOn, r_X3_addPerson, r_X3_addSeed, r_X3_debtors, r_X3_allSeeds, r_X3_seedsBut, r_X6_price, r_X3_enoughOf, r_X6_isKind, r_X6_span, r_X6_zone, r_X3_near, r_X3_shownBy, r_X3_shown, r_X3_showers, r_X3_quietAmong]
def ax_I3 : List ax_IR := [r_X3_quietFor, r_X3_dueOf, r_X3_allDueOf, r_X3_isNearRank, r_X6_isTelltale, r_X3_telltales, r_X3_mayOwe, r_X3_surelyOwes, r_X3_go, r_X3_draw, r_X8_at, r_X4_tokenOf, r_X4_advance, r_X4_isWord, r_X4_readNumber, r_X4_readWall]
def ax_I4 : List ax_IR := [r_X4_readOpen, r_X4_readFloor, r_X4_readPerson, r_X4_readOwes, r_X4_readSeed, r_X4_readGo, r_X4_readStatement, r_X4_readAll, r_X5_closes, r_X5_find, r_X6_isOf, r_X7_isSort, r_X7_clear, r_X7_takeSeed, r_X7_takeRow, r_X7_isEmpty]
def ax_I5 : List ax_IR := [r_X7_holdsSeed, r_X7_seedNumber, r_X7_noRow, r_X7_hasElement, r_X7_hasElements, r_X7_fit, r_X7_put, r_X7_cellAt, r_X7_areCells, r_X7_cellBits, r_X8_isFull, r_X8_add, r_X9_find, r_X9_cellOf, r_X9_flood, r_X10_isShelf]
def ax_I6 : List ax_IR := [r_X10_refuse, r_X10_row, r_X10_set, r_X10_copy, r_X10_element, r_X10_holds, r_X10_show, r_X10_saysAs, r_X10_says, r_X10_wall, r_X10_person, r_X10_sow, r_X10_isPair, r_X10_owes, r_X10_feed, r_X10_wipe]
def ax_I7 : List ax_IR := [r_X10_garden, r_X10_seedOf, r_J6_bitCount_0f7a4, r_X10_personOf, r_X10_debt, r_X10_isWall, r_X10_up, r_X10_by, r_X10_quiet, r_X10_way, r_X10_hasWay, r_X10_bar, r_X10_reach, r_X10_loud, r_X10_together, r_X10_calm]
def ax_I8 : List ax_IR := [r_X10_idle, r_X10_worst, r_X10_chain, r_X10_poorest, r_X10_due, r_X10_bare, r_X10_net, r_X10_mutual, r_X10_ring, r_X10_guess, r_X10_noTold, r_X10_tells, r_X10_noWalk, r_X10_wrongOf, r_X10_judge, r_X10_noTrueWalk]
def ax_I9 : List ax_IR := [r_X10_seen, r_X10_walk, r_X10_step, r_X10_pay, r_X10_strike, r_X10_countShowing, r_X10_days, r_X10_dropLostSeeds, r_X10_weed, r_X10_seed, r_X10_image, r_X10_back, r_X10_fullShelves, r_X10_status, r_X11_no, r_X11_within]
def ax_I10 : List ax_IR := [r_X11_isCell, r_X11_isOne, r_X11_isSeed, r_X11_isShelf, r_X11_isRow, r_X11_areTwo, r_X11_row, r_X11_noRow, r_X11_kept, r_X11_set, r_X11_copy, r_X11_element, r_X11_holds, r_X11_show, r_X11_isUnder, r_X11_reachOf]
def ax_I11 : List ax_IR := [r_X11_allOwed, r_X11_owing, r_X11_takes, r_X11_says, r_X11_somebodyAt, r_X11_wall, r_X11_newOne, r_X11_person, r_X11_newSeed, r_X11_sow, r_X11_owes, r_X11_feed, r_X11_wipe, r_X11_isLetter, r_X11_isDigit, r_X11_next]
def ax_I12 : List ax_IR := [r_X11_isWord, r_X11_number, r_X11_statement, r_X11_keep, r_X11_again, r_X11_garden, r_X11_far, r_X11_owesEnough, r_X11_isUp, r_X11_byOf, r_X11_upOf, r_X11_seedOf, r_X11_owedTo, r_X11_personOf, r_X11_debt, r_X11_isWall]
def ax_I13 : List ax_IR := [r_X11_up, r_X11_by, r_X11_isQuiet, r_X11_quiet, r_X11_beside, r_X11_walks, r_X11_walksBack, r_X11_wayOf, r_X11_way, r_X11_bar, r_X11_reach, r_X11_loud, r_X11_together, r_X11_calm, r_X11_idle, r_X11_worst]
def ax_I14 : List ax_IR := [r_X11_chain, r_X11_netOf, r_X11_poorest, r_X11_dueOf, r_X11_due, r_X11_bare, r_X11_net, r_X11_mutual, r_X11_rings, r_X11_ring, r_X11_guess, r_X11_toldAt, r_X11_tellsAll, r_X11_fewest, r_X11_noRow_, r_X11_tells]
def ax_I15 : List ax_IR := [r_X11_wrong, r_X11_noWalk, r_X11_judge, r_X11_seen, r_X11_walk, r_X11_goes, r_X11_step, r_X11_pay, r_X11_strike, r_X11_draw, r_X11_days, r_X11_unshelve, r_X11_weed, r_X11_seed, r_X11_image, r_X11_back]
def ax_I16 : List ax_IR := [r_X11_status]
def ax_II : List (List ax_IR) := [ax_I0, ax_I1, ax_I2, ax_I3, ax_I4, ax_I5, ax_I6, ax_I7, ax_I8, ax_I9, ax_I10, ax_I11, ax_I12, ax_I13, ax_I14, ax_I15, ax_I16]
def ax_row (mt : Nat) : Option ax_IR := match ax_nth ax_II (mt / 16) with
  | some r => ax_nth r (mt % 16)
  | none => none
def ax_y (mt : Nat) : MethodName := match ax_row mt with
  | some r => r.1
  | none => yX0_bit
def ax_fl : List (Nat × (Nat × (Nat × Nat))) := [(1, (13, (18, 0))), (2, (13, (3, 0))), (3, (9, (1, 0))), (3, (15, (1, 1))), (3, (19, (1, 2))), (3, (26, (1, 3))), (3, (30, (1, 4))), (3, (35, (1, 5))), (3, (39, (1, 6))), (4, (11, (12, 1))), (4, (15, (12, 2))), (4, (18, (12, 3))), (4, (21, (12, 0))), (5, (11, (15, 0))), (5, (17, (15, 1))), (6, (11, (6, 0))), (6, (15, (6, 1))), (6, (18, (6, 2))), (6, (21, (6, 3))), (7, (9, (8, 0))), (7, (15, (8, 1))), (7, (18, (8, 2))), (8, (11, (10, 0))), (8, (15, (10, 1))), (9, (11, (13, 0))), (10, (10, (0, 0))), (10, (16, (0, 1))), (10, (19, (0, 2))), (10, (22, (0, 3))), (10, (28, (0, 4))), (10, (35, (0, 5))), (10, (44, (0, 6))), (10, (51, (0, 7))), (10, (58, (0, 8))), (10, (65, (0, 9))), (10, (69, (0, 10))), (10, (73, (0, 11))), (11, (7, (22, 0))), (11, (13, (22, 2))), (11, (17, (22, 3))), (11, (20, (22, 5))), (11, (23, (22, 6))), (11, (26, (22, 7))), (11, (29, (22, 8))), (11, (32, (22, 11))), (11, (35, (22, 16))), (11, (38, (22, 17))), (11, (41, (22, 18))), (11, (45, (22, 19))), (11, (48, (22, 21))), (11, (51, (22, 22))), (11, (54, (22, 23))), (11, (57, (22, 24))), (11, (60, (22, 25))), (11, (63, (22, 9))), (11, (71, (22, 1))), (11, (74, (22, 4))), (11, (131, (22, 10))), (11, (134, (22, 13))), (11, (137, (22, 12))), (11, (140, (22, 14))), (11, (149, (22, 15))), (11, (288, (22, 20)))]
def ax_fn : List (Nat × (Nat × (Nat × Nat))) := [(3, (80, (6, 3))), (3, (83, (6, 0))), (4, (34, (10, 1))), (4, (106, (1, 1))), (4, (118, (1, 3))), (4, (126, (1, 4))), (4, (135, (1, 2))), (10, (110, (8, 0))), (10, (118, (8, 2))), (10, (146, (1, 5))), (10, (157, (6, 3))), (10, (184, (1, 1))), (10, (193, (1, 4))), (10, (205, (1, 3))), (10, (222, (10, 1))), (10, (233, (6, 0))), (10, (236, (6, 1))), (10, (239, (6, 2))), (10, (245, (1, 2))), (10, (301, (1, 0))), (10, (335, (15, 0))), (10, (355, (18, 0))), (10, (371, (8, 1))), (10, (394, (1, 6)))]
def ax_ml : List (Nat × (Nat × Nat)) := [(0, (11, 1)), (0, (15, 3)), (0, (25, 5)), (0, (29, 6)), (0, (32, 4)), (1, (17, 10)), (2, (23, 13)), (2, (27, 16)), (2, (31, 15)), (2, (39, 14)), (2, (43, 21)), (2, (46, 22)), (3, (68, 31)), (3, (98, 39)), (3, (101, 43)), (3, (104, 44)), (3, (107, 36)), (3, (110, 47)), (3, (119, 49)), (3, (122, 37)), (3, (129, 53)), (3, (132, 45)), (3, (138, 29)), (4, (27, 70)), (4, (31, 60)), (4, (41, 59)), (4, (46, 61)), (4, (50, 63)), (4, (55, 64)), (4, (60, 66)), (4, (65, 67)), (4, (70, 68)), (4, (75, 69)), (4, (90, 62)), (4, (109, 65)), (5, (26, 72)), (6, (24, 24)), (6, (28, 40)), (6, (45, 41)), (7, (22, 80)), (7, (26, 79)), (7, (29, 85)), (7, (33, 83)), (7, (41, 87)), (10, (77, 95)), (10, (84, 96)), (10, (153, 103)), (10, (200, 108)), (10, (257, 114)), (10, (284, 122)), (10, (296, 3)), (10, (343, 138)), (10, (358, 140)), (10, (361, 141)), (10, (365, 143)), (10, (388, 149)), (10, (391, 151)), (10, (400, 156)), (11, (67, 159)), (11, (77, 161)), (11, (81, 163)), (11, (84, 158)), (11, (88, 164)), (11, (91, 167)), (11, (94, 168)), (11, (98, 162)), (11, (101, 174)), (11, (105, 175)), (11, (108, 177)), (11, (112, 178)), (11, (115, 160)), (11, (118, 180)), (11, (121, 182)), (11, (124, 184)), (11, (128, 165)), (11, (143, 189)), (11, (146, 190)), (11, (161, 191)), (11, (165, 192)), (11, (169, 193)), (11, (183, 195)), (11, (187, 194)), (11, (191, 196)), (11, (199, 176)), (11, (205, 198)), (11, (208, 199)), (11, (211, 200)), (11, (214, 201)), (11, (217, 204)), (11, (220, 202)), (11, (223, 114)), (11, (228, 210)), (11, (231, 212)), (11, (234, 213)), (11, (238, 215)), (11, (241, 214)), (11, (244, 225)), (11, (247, 227)), (11, (254, 232)), (11, (257, 235)), (11, (260, 236)), (11, (263, 238)), (11, (265, 237)), (11, (268, 241)), (11, (272, 240)), (11, (275, 245)), (11, (278, 231)), (11, (282, 249)), (11, (285, 251))]
def ax_mn : List (Nat × (Nat × Nat)) := [(1, (21, 4)), (1, (31, 8)), (3, (49, 12)), (3, (53, 25)), (3, (56, 2)), (3, (62, 1)), (3, (72, 24)), (3, (76, 15)), (3, (86, 13)), (3, (90, 38)), (3, (94, 42)), (3, (125, 52)), (3, (135, 9)), (4, (37, 58)), (4, (93, 32)), (4, (99, 30)), (4, (103, 29)), (4, (113, 33)), (4, (122, 14)), (4, (131, 34)), (5, (20, 21)), (6, (49, 8)), (7, (45, 1)), (9, (17, 2)), (9, (21, 1)), (9, (27, 7)), (9, (31, 4)), (10, (81, 75)), (10, (88, 78)), (10, (92, 82)), (10, (96, 83)), (10, (99, 86)), (10, (103, 80)), (10, (107, 79)), (10, (114, 84)), (10, (128, 28)), (10, (131, 76)), (10, (134, 77)), (10, (138, 40)), (10, (143, 81)), (10, (150, 74)), (10, (160, 41)), (10, (163, 35)), (10, (166, 38)), (10, (169, 0)), (10, (174, 32)), (10, (177, 29)), (10, (180, 30)), (10, (187, 33)), (10, (190, 27)), (10, (196, 34)), (10, (209, 13)), (10, (213, 14)), (10, (216, 90)), (10, (219, 91)), (10, (225, 26)), (10, (229, 71)), (10, (242, 46)), (10, (248, 15)), (10, (251, 16)), (10, (254, 37)), (10, (262, 44)), (10, (265, 45)), (10, (268, 48)), (10, (272, 2)), (10, (276, 92)), (10, (280, 93)), (10, (288, 47)), (10, (292, 94)), (10, (307, 39)), (10, (310, 36)), (10, (313, 23)), (10, (316, 17)), (10, (319, 49)), (10, (322, 50)), (10, (325, 51)), (10, (329, 19)), (10, (332, 73)), (10, (337, 54)), (10, (340, 55)), (10, (347, 88)), (10, (350, 89)), (10, (353, 11)), (10, (368, 87)), (10, (372, 1)), (10, (375, 7)), (10, (379, 56)), (10, (382, 20)), (10, (385, 57)), (10, (397, 18))]
def ax_sl : List (Nat × (Nat × Nat)) := [(6, (32, 40)), (6, (36, 41))]
def ax_sr : List (Nat × (Nat × Nat)) := [(4, (44, 0)), (4, (53, 1)), (4, (58, 2)), (4, (63, 3)), (4, (68, 4)), (4, (73, 5)), (11, (164, 0)), (11, (173, 1)), (11, (175, 2)), (11, (177, 3)), (11, (179, 4)), (11, (181, 5))]
def ax_ma : List (Nat × (Nat × Nat)) := [(1, (25, 4)), (2, (17, 0)), (2, (34, 4)), (3, (43, 0)), (3, (114, 3)), (4, (78, 1)), (4, (84, 2)), (6, (39, 3)), (10, (122, 0)), (11, (152, 1)), (11, (157, 2)), (11, (194, 3)), (11, (202, 5)), (11, (251, 4))]
def ax_kc : List (Nat × (Nat × Int32)) := [(3, (142, 1103515245)), (10, (328, (-1000002))), (11, (250, (-1000002))), (11, (281, 1103515245)), (12, (265, 1431655765)), (12, (266, 858993459)), (12, (267, 252645135))]
def ax_kl : List (Nat × (Nat × Int64)) := [(0, (21, (-72340172838076674))), (0, (23, 9187201950435737471)), (1, (35, (-1))), (3, (66, (-1))), (7, (39, 64)), (9, (25, (-1))), (10, (305, (-1))), (13, (314, 6148914691236517205)), (13, (316, 3689348814741910323)), (13, (318, 1085102592571150095))]
def ax_wF (q : Nat × (Nat × (Nat × Nat))) : Jvm.Cond := .fieldLink (ax_cn q.1) q.2.1 ((ax_ct q.2.2.1).2.2.1 q.2.2.2).1 ((ax_ct q.2.2.1).2.2.1 q.2.2.2).2.1 ((ax_ct q.2.2.1).2.2.1 q.2.2.2).2.2.1
def ax_wFN (q : Nat × (Nat × (Nat × Nat))) : Jvm.Cond := .fieldLinkNest (ax_cn q.1) q.2.1 ((ax_ct q.2.2.1).2.2.1 q.2.2.2).1 ((ax_ct q.2.2.1).2.2.1 q.2.2.2).2.1 ((ax_ct q.2.2.1).2.2.1 q.2.2.2).2.2.1 RX10
def ax_wM (q : Nat × (Nat × Nat)) : Jvm.Cond := .methodLink (ax_cn q.1) q.2.1 (ax_y q.2.2)
def ax_wMN (q : Nat × (Nat × Nat)) : Jvm.Cond := .methodLinkNest (ax_cn q.1) q.2.1 (ax_y q.2.2) RX10
def ax_wC (r : ax_IR) : Jvm.Cond := .code r.1 r.2.1 r.2.2.1 r.2.2.2.1
def ax_wI (r : ax_IR) : List Jvm.Cond := .initialized r.1.cls :: (match r.2.2.2.2.2.1 with
  | true => [.static r.1]
  | false => [.instanceMethod r.1, .selects r.1.cls r.1 r.1])
def ax_wK (q : Nat × (Nat × Int32)) : Jvm.Cond := .constant (ax_cn q.1) q.2.1 q.2.2
def ax_wL (q : Nat × (Nat × Int64)) : Jvm.Cond := .constantLong (ax_cn q.1) q.2.1 q.2.2
def ax_wS (q : Nat × (Nat × Nat)) : Jvm.Cond := .fieldLink (ax_cn q.1) q.2.1 RX6 (if q.2.2 = 40 then "ABOVE" else "SPANS") "[I"
def ax_wA (q : Nat × (Nat × Nat)) : Jvm.Cond := .methodLink (ax_cn q.1) q.2.1 (match q.2.2 with
  | 0 => arraycopyName
  | 1 => yJ0_length_8abf5
  | 2 => yJ0_charAt_5068e
  | 3 => Lib.Math.max.name
  | 4 => Lib.Math.min.name
  | _ => Lib.Math.abs.name)
def ax_W1 : List Jvm.Cond := ax_fl.map ax_wF
def ax_W2 : List Jvm.Cond := ax_ml.map ax_wM
def ax_W3 : List Jvm.Cond := ax_II.flatMap (fun l => l.flatMap ax_wI)
def ax_W4 : List Jvm.Cond := ax_kc.map ax_wK ++ ax_kl.map ax_wL
def ax_W5 : List Jvm.Cond := ax_sl.map ax_wS
def ax_W6 : List Jvm.Cond := ax_ma.map ax_wA
def ax_W7 : List Jvm.Cond := [(Jvm.Cond.initialized "java/lang/System"),
  (Jvm.Cond.initialized "java/lang/Math"),
  (Jvm.Cond.initialized "java/lang/String"),
  (Jvm.Cond.initialized "java/lang/StringLatin1"),
  (Jvm.Cond.initialized "jdk/internal/util/Preconditions"),
  (Jvm.Cond.initialized "java/lang/StringUTF16"),
  (Jvm.Cond.static ({ cls := "java/lang/System", name := "arraycopy", desc := "(Ljava/lang/Object;ILjava/lang/Object;II)V" } : Jvm.MethodName)),
  (Jvm.Cond.native ({ cls := "java/lang/System", name := "arraycopy", desc := "(Ljava/lang/Object;ILjava/lang/Object;II)V" } : Jvm.MethodName)),
  (Jvm.Cond.static ({ cls := "java/lang/Math", name := "max", desc := "(II)I" } : Jvm.MethodName)),
  (Jvm.Cond.instanceMethod ({ cls := "java/lang/String", name := "length", desc := "()I" } : Jvm.MethodName)),
  (Jvm.Cond.selects "java/lang/String" ({ cls := "java/lang/String", name := "length", desc := "()I" } : Jvm.MethodName) ({ cls := "java/lang/String", name := "length", desc := "()I" } : Jvm.MethodName)),
  (Jvm.Cond.methodLink "java/lang/String" (335 : Nat) ({ cls := "java/lang/String", name := "coder", desc := "()B" } : Jvm.MethodName)),
  (Jvm.Cond.instanceMethod ({ cls := "java/lang/String", name := "coder", desc := "()B" } : Jvm.MethodName)),
  (Jvm.Cond.selects "java/lang/String" ({ cls := "java/lang/String", name := "coder", desc := "()B" } : Jvm.MethodName) ({ cls := "java/lang/String", name := "coder", desc := "()B" } : Jvm.MethodName)),
  (Jvm.Cond.fieldLink "java/lang/String" (38 : Nat) "java/lang/String" "COMPACT_STRINGS" "Z"),
  (Jvm.Cond.instanceMethod ({ cls := "java/lang/String", name := "charAt", desc := "(I)C" } : Jvm.MethodName)),
  (Jvm.Cond.selects "java/lang/String" ({ cls := "java/lang/String", name := "charAt", desc := "(I)C" } : Jvm.MethodName) ({ cls := "java/lang/String", name := "charAt", desc := "(I)C" } : Jvm.MethodName)),
  (Jvm.Cond.methodLink "java/lang/String" (492 : Nat) ({ cls := "java/lang/String", name := "isLatin1", desc := "()Z" } : Jvm.MethodName)),
  (Jvm.Cond.instanceMethod ({ cls := "java/lang/String", name := "isLatin1", desc := "()Z" } : Jvm.MethodName)),
  (Jvm.Cond.selects "java/lang/String" ({ cls := "java/lang/String", name := "isLatin1", desc := "()Z" } : Jvm.MethodName) ({ cls := "java/lang/String", name := "isLatin1", desc := "()Z" } : Jvm.MethodName)),
  (Jvm.Cond.methodLink "java/lang/String" (495 : Nat) ({ cls := "java/lang/StringLatin1", name := "charAt", desc := "([BI)C" } : Jvm.MethodName)),
  (Jvm.Cond.static ({ cls := "java/lang/StringLatin1", name := "charAt", desc := "([BI)C" } : Jvm.MethodName)),
  (Jvm.Cond.methodLink "java/lang/StringLatin1" (9 : Nat) ({ cls := "java/lang/String", name := "checkIndex", desc := "(II)V" } : Jvm.MethodName)),
  (Jvm.Cond.static ({ cls := "java/lang/String", name := "checkIndex", desc := "(II)V" } : Jvm.MethodName)),
  (Jvm.Cond.fieldLink "java/lang/String" (1053 : Nat) "jdk/internal/util/Preconditions" "SIOOBE_FORMATTER" "Ljava/util/function/BiFunction;"),
  (Jvm.Cond.methodLink "java/lang/String" (1059 : Nat) ({ cls := "jdk/internal/util/Preconditions", name := "checkIndex", desc := "(IILjava/util/function/BiFunction;)I" } : Jvm.MethodName)),
  (Jvm.Cond.static ({ cls := "jdk/internal/util/Preconditions", name := "checkIndex", desc := "(IILjava/util/function/BiFunction;)I" } : Jvm.MethodName)),
  (Jvm.Cond.methodLink "java/lang/String" (498 : Nat) ({ cls := "java/lang/StringUTF16", name := "charAt", desc := "([BI)C" } : Jvm.MethodName)),
  (Jvm.Cond.static ({ cls := "java/lang/StringUTF16", name := "charAt", desc := "([BI)C" } : Jvm.MethodName)),
  (Jvm.Cond.methodLink "java/lang/StringUTF16" (67 : Nat) ({ cls := "java/lang/StringUTF16", name := "checkIndex", desc := "(I[B)V" } : Jvm.MethodName)),
  (Jvm.Cond.static ({ cls := "java/lang/StringUTF16", name := "checkIndex", desc := "(I[B)V" } : Jvm.MethodName)),
  (Jvm.Cond.methodLink "java/lang/StringUTF16" (48 : Nat) ({ cls := "java/lang/StringUTF16", name := "length", desc := "([B)I" } : Jvm.MethodName)),
  (Jvm.Cond.static ({ cls := "java/lang/StringUTF16", name := "length", desc := "([B)I" } : Jvm.MethodName)),
  (Jvm.Cond.methodLink "java/lang/StringUTF16" (414 : Nat) ({ cls := "java/lang/String", name := "checkIndex", desc := "(II)V" } : Jvm.MethodName)),
  (Jvm.Cond.methodLink "java/lang/StringUTF16" (71 : Nat) ({ cls := "java/lang/StringUTF16", name := "getChar", desc := "([BI)C" } : Jvm.MethodName)),
  (Jvm.Cond.static ({ cls := "java/lang/StringUTF16", name := "getChar", desc := "([BI)C" } : Jvm.MethodName)),
  (Jvm.Cond.fieldLink "java/lang/StringUTF16" (44 : Nat) "java/lang/StringUTF16" "$assertionsDisabled" "Z"),
  (Jvm.Cond.fieldLink "java/lang/StringUTF16" (59 : Nat) "java/lang/StringUTF16" "HI_BYTE_SHIFT" "I"),
  (Jvm.Cond.fieldLink "java/lang/StringUTF16" (63 : Nat) "java/lang/StringUTF16" "LO_BYTE_SHIFT" "I"),
  (Jvm.Cond.static ({ cls := "java/lang/Math", name := "min", desc := "(II)I" } : Jvm.MethodName)),
  (Jvm.Cond.static ({ cls := "java/lang/Math", name := "abs", desc := "(I)I" } : Jvm.MethodName)),
  (Jvm.Cond.fieldLink "java/lang/String" (9 : Nat) "java/lang/String" "value" "[B"),
  (Jvm.Cond.fieldLink "java/lang/String" (15 : Nat) "java/lang/String" "coder" "B")]
def ax_W8 : List Jvm.Cond := ax_obj.flatMap (fun k => u_ws (ax_ct k).2.1 (ax_ct k).2.2.1 (ax_ct k).2.2.2)
def ax_WC : List Jvm.Cond := ax_II.flatMap (fun l => l.map ax_wC)
def ax_WD : List Jvm.Cond := [(Jvm.Cond.code ({ cls := "java/lang/Math", name := "max", desc := "(II)I" } : Jvm.MethodName) prog_16_method_65_code (2 : Nat) (Option.some Jvm.ClassFile.FieldType.int)),
  (Jvm.Cond.code ({ cls := "java/lang/String", name := "length", desc := "()I" } : Jvm.MethodName) prog_17_method_54_code (1 : Nat) (Option.some Jvm.ClassFile.FieldType.int)),
  (Jvm.Cond.code ({ cls := "java/lang/String", name := "coder", desc := "()B" } : Jvm.MethodName) prog_17_method_152_code (1 : Nat) (Option.some Jvm.ClassFile.FieldType.byte)),
  (Jvm.Cond.code ({ cls := "java/lang/String", name := "charAt", desc := "(I)C" } : Jvm.MethodName) prog_17_method_56_code (2 : Nat) (Option.some Jvm.ClassFile.FieldType.char)),
  (Jvm.Cond.code ({ cls := "java/lang/String", name := "isLatin1", desc := "()Z" } : Jvm.MethodName) prog_17_method_154_code (1 : Nat) (Option.some Jvm.ClassFile.FieldType.boolean)),
  (Jvm.Cond.code ({ cls := "java/lang/StringLatin1", name := "charAt", desc := "([BI)C" } : Jvm.MethodName) prog_18_method_2_code (2 : Nat) (Option.some Jvm.ClassFile.FieldType.char)),
  (Jvm.Cond.code ({ cls := "java/lang/String", name := "checkIndex", desc := "(II)V" } : Jvm.MethodName) prog_17_method_155_code (2 : Nat) (Option.none : Option Jvm.ClassFile.FieldType)),
  (Jvm.Cond.code ({ cls := "jdk/internal/util/Preconditions", name := "checkIndex", desc := "(IILjava/util/function/BiFunction;)I" } : Jvm.MethodName) prog_21_method_11_code (3 : Nat) (Option.some Jvm.ClassFile.FieldType.int)),
  (Jvm.Cond.code ({ cls := "java/lang/StringUTF16", name := "charAt", desc := "([BI)C" } : Jvm.MethodName) prog_19_method_83_code (2 : Nat) (Option.some Jvm.ClassFile.FieldType.char)),
  (Jvm.Cond.code ({ cls := "java/lang/StringUTF16", name := "checkIndex", desc := "(I[B)V" } : Jvm.MethodName) prog_19_method_91_code (2 : Nat) (Option.none : Option Jvm.ClassFile.FieldType)),
  (Jvm.Cond.code ({ cls := "java/lang/StringUTF16", name := "length", desc := "([B)I" } : Jvm.MethodName) prog_19_method_6_code (1 : Nat) (Option.some Jvm.ClassFile.FieldType.int)),
  (Jvm.Cond.code ({ cls := "java/lang/StringUTF16", name := "getChar", desc := "([BI)C" } : Jvm.MethodName) prog_19_method_5_code (2 : Nat) (Option.some Jvm.ClassFile.FieldType.char)),
  (Jvm.Cond.code ({ cls := "java/lang/Math", name := "min", desc := "(II)I" } : Jvm.MethodName) prog_16_method_69_code (2 : Nat) (Option.some Jvm.ClassFile.FieldType.int)),
  (Jvm.Cond.code ({ cls := "java/lang/Math", name := "abs", desc := "(I)I" } : Jvm.MethodName) prog_16_method_59_code (1 : Nat) (Option.some Jvm.ClassFile.FieldType.int))]
def ax_W : List Jvm.Cond := ax_W1 ++ (ax_W2 ++ (ax_W3 ++ (ax_W4 ++ (ax_W5 ++ (ax_W6 ++ (ax_W7 ++ (ax_W8 ++ (ax_WC ++ ax_WD))))))))
def ax_N : List Jvm.Cond := ax_fn.map ax_wFN ++ ax_mn.map ax_wMN
theorem ax_inW {ws big : List Jvm.Cond} (ps : List Nat) (h : ws.map some = ps.map (fun i => big[i]?)) : ∀ w ∈ ws, w ∈ big := by
  intro w hw
  have h1 : some w ∈ ws.map some := List.mem_map.mpr ⟨w, hw, rfl⟩
  rw [h] at h1
  obtain ⟨i, -, hi⟩ := List.mem_map.mp h1
  exact List.mem_of_getElem? hi
set_option maxRecDepth 100000 in
theorem ax_W1_in : ∀ w ∈ ax_W1, w ∈ lw_tbl := ax_inW [301, 170, 201, 203, 206, 209, 212, 215, 217, 258, 259, 260, 257, 287, 289, 182, 185, 187, 189, 311, 313, 315, 242, 243, 276, 324, 325, 326, 327, 328, 329, 330, 331, 332, 333, 334, 335, 1107, 1109, 1110, 1112, 1113, 1114, 1115, 1118, 1123, 1124, 1125, 1126, 1128, 1129, 1130, 1131, 1132, 1116, 1108, 1111, 1117, 1120, 1119, 1121, 1122, 1127] (by decide +kernel)
set_option maxRecDepth 100000 in
theorem ax_W2_in : ∀ w ∈ ax_W2, w ∈ lw_tbl := ax_inW [512, 826, 740, 745, 1041, 996, 480, 896, 897, 1055, 880, 884, 505, 722, 728, 718, 796, 800, 915, 960, 956, 965, 1042, 598, 602, 610, 614, 666, 677, 682, 693, 699, 705, 670, 686, 945, 593, 459, 736, 387, 391, 403, 985, 981, 365, 371, 462, 550, 761, 836, 848, 974, 1007, 1011, 1022, 1065, 1073, 1097, 1194, 1283, 1191, 1197, 1205, 1209, 1213, 1232, 1240, 1243, 1247, 1255, 1264, 1267, 1275, 1287, 1295, 1319, 1322, 1315, 1330, 1336, 1311, 1325, 1345, 1251, 1361, 1367, 1357, 1353, 1375, 1379, 1383, 1404, 1420, 1416, 1412, 1423, 1463, 1471, 1493, 1509, 1517, 1505, 1513, 1525, 1529, 1545, 1557, 1562, 1571] (by decide +kernel)
set_option maxRecDepth 100000 in
theorem ax_W3_in : ∀ w ∈ ax_W3, w ∈ lw_tbl := ax_inW [143, 496, 143, 503, 143, 510, 149, 827, 143, 824, 143, 741, 143, 746, 143, 817, 143, 738, 143, 1039, 138, 997, 138, 994, 78, 132, 586, 33, 132, 482, 18, 132, 557, 29, 132, 478, 17, 132, 755, 53, 132, 894, 65, 132, 1095, 87, 132, 931, 69, 132, 1053, 83, 132, 882, 63, 132, 886, 64, 132, 878, 62, 133, 544, 27, 133, 591, 34, 131, 581, 32, 131, 536, 25, 131, 434, 9, 131, 515, 22, 131, 519, 23, 131, 507, 21, 131, 500, 20, 131, 528, 24, 131, 540, 26, 131, 474, 16, 131, 798, 57, 131, 759, 54, 133, 486, 19, 131, 724, 50, 133, 449, 133, 468, 15, 133, 734, 52, 131, 730, 51, 131, 720, 49, 131, 782, 55, 131, 716, 48, 131, 802, 58, 131, 794, 56, 131, 904, 66, 131, 913, 67, 131, 918, 68, 133, 963, 73, 131, 958, 72, 131, 954, 71, 131, 968, 74, 131, 1036, 82, 131, 1062, 84, 134, 608, 38, 135, 611, 135, 604, 37, 135, 616, 39, 135, 672, 41, 135, 668, 40, 135, 679, 42, 135, 688, 44, 135, 684, 43, 135, 695, 45, 135, 701, 46, 135, 707, 47, 135, 600, 36, 135, 596, 35, 137, 946, 137, 942, 70, 133, 457, 13, 139, 369, 139, 438, 10, 139, 442, 11, 139, 377, 1, 139, 393, 4, 139, 389, 3, 139, 453, 12, 139, 385, 2, 139, 397, 5, 139, 415, 8, 139, 405, 7, 139, 401, 6, 139, 983, 76, 139, 979, 75, 139, 989, 77, 134, 565, 30, 134, 569, 31, 136, 811, 59, 136, 821, 60, 136, 846, 130, 366, 130, 373, 0, 130, 362, 363, 130, 380, 381, 130, 408, 409, 130, 421, 422, 130, 425, 426, 130, 429, 430, 130, 464, 14, 130, 445, 446, 130, 492, 493, 130, 523, 524, 130, 531, 532, 130, 552, 28, 130, 547, 548, 130, 560, 561, 130, 572, 573, 130, 576, 577, 130, 711, 712, 148, 762, 130, 749, 750, 130, 769, 770, 130, 773, 774, 130, 777, 778, 130, 785, 786, 130, 789, 790, 130, 806, 807, 130, 838, 61, 130, 833, 834, 130, 842, 843, 130, 850, 851, 130, 855, 856, 130, 859, 860, 130, 863, 864, 130, 869, 870, 130, 873, 874, 130, 889, 890, 130, 899, 900, 130, 908, 909, 130, 921, 922, 130, 926, 927, 130, 937, 938, 130, 949, 950, 130, 975, 130, 971, 972, 130, 1009, 79, 130, 1013, 80, 130, 1004, 1005, 130, 1024, 81, 130, 1019, 1020, 130, 1027, 1028, 130, 1031, 1032, 130, 1044, 1045, 130, 1048, 1049, 130, 1067, 85, 130, 1057, 1058, 130, 1075, 86, 130, 1070, 1071, 130, 1078, 1079, 130, 1082, 1083, 130, 1086, 1087, 130, 1099, 88, 130, 1090, 1091, 140, 1199, 89, 140, 1195, 140, 1265, 140, 1285, 99, 140, 1234, 92, 140, 1192, 140, 1207, 90, 140, 1297, 101, 140, 1188, 1189, 140, 1211, 91, 140, 1214, 140, 1202, 1203, 140, 1217, 1218, 140, 1221, 1222, 140, 1225, 1226, 140, 1229, 1230, 140, 1241, 140, 1245, 93, 140, 1253, 95, 140, 1249, 94, 140, 1257, 96, 140, 1237, 1238, 140, 1269, 97, 140, 1261, 1262, 140, 1277, 98, 140, 1272, 1273, 140, 1289, 100, 140, 1280, 1281, 140, 1292, 1293, 140, 1300, 1301, 140, 1304, 1305, 140, 1320, 140, 1323, 140, 1317, 103, 140, 1332, 105, 140, 1338, 106, 140, 1327, 104, 140, 1313, 102, 140, 1347, 107, 140, 1308, 1309, 140, 1362, 140, 1369, 110, 140, 1359, 109, 140, 1355, 108, 140, 1381, 112, 140, 1350, 1351, 140, 1377, 111, 140, 1372, 1373, 140, 1385, 1386, 140, 1389, 1390, 140, 1393, 1394, 140, 1397, 1398, 140, 1406, 113, 140, 1401, 1402, 140, 1421, 140, 1418, 115, 140, 1425, 116, 140, 1414, 114, 140, 1409, 1410, 140, 1428, 1429, 140, 1432, 1433, 140, 1436, 1437, 140, 1440, 1441, 140, 1444, 1445, 140, 1448, 1449, 140, 1452, 1453, 140, 1456, 1457, 140, 1465, 117, 140, 1460, 1461, 140, 1473, 118, 140, 1468, 1469, 140, 1476, 1477, 140, 1480, 1481, 140, 1485, 1486, 140, 1495, 119, 140, 1490, 1491, 140, 1498, 1499, 140, 1511, 121, 140, 1519, 123, 140, 1515, 122, 140, 1507, 120, 140, 1502, 1503, 140, 1531, 125, 140, 1527, 124, 140, 1522, 1523, 140, 1534, 1535, 140, 1538, 1539, 140, 1547, 126, 140, 1542, 1543, 140, 1550, 1551, 140, 1554, 1555, 140, 1564, 127, 140, 1559, 1560, 140, 1573, 128, 140, 1568, 1569, 140, 1576, 1577, 140, 1580, 1581, 140, 1584, 1585, 140, 1588, 1589] (by decide +kernel)
set_option maxRecDepth 100000 in
theorem ax_W4_in : ∀ w ∈ ax_W4, w ∈ lw_tbl := ax_inW [1064, 924, 1483, 1566, 764, 765, 766, 743, 744, 1002, 521, 986, 815, 853, 829, 830, 831] (by decide +kernel)
set_option maxRecDepth 100000 in
theorem ax_W5_in : ∀ w ∈ ax_W5, w ∈ lw_tbl := ax_inW [460, 470] (by decide +kernel)
set_option maxRecDepth 100000 in
theorem ax_W6_in : ∀ w ∈ ax_W6, w ∈ lw_tbl := ax_inW [1000, 588, 933, 583, 906, 618, 628, 488, 417, 1334, 1335, 1259, 1364, 1488] (by decide +kernel)
set_option maxRecDepth 100000 in
theorem ax_W7_in : ∀ w ∈ ax_W7, w ∈ lw_tbl := ax_inW [141, 142, 144, 145, 146, 147, 418, 419, 489, 619, 620, 622, 623, 624, 626, 629, 630, 632, 633, 634, 636, 637, 639, 640, 642, 644, 645, 647, 648, 650, 651, 653, 654, 656, 657, 658, 660, 662, 664, 934, 1365, 1592, 1593] (by decide +kernel)
set_option maxRecDepth 100000 in
theorem ax_W8_in : ∀ w ∈ ax_W8, w ∈ lw_tbl := ax_inW [336, 338, 340, 342, 344, 346, 348, 350, 352, 354, 356, 358, 219, 221, 223, 225, 227, 229, 231, 171, 192, 194, 196, 198, 317, 319, 321, 246, 248, 261, 263, 265, 267, 277, 290, 292, 303, 1133, 1135, 1137, 1139, 1141, 1143, 1145, 1147, 1149, 1151, 1153, 1155, 1157, 1159, 1161, 1163, 1165, 1167, 1169, 1171, 1173, 1175, 1177, 1179, 1181, 1183] (by decide +kernel)
set_option maxRecDepth 100000 in
theorem ax_WC_in : ∀ w ∈ ax_WC, w ∈ lw_tbl := ax_inW [497, 504, 511, 828, 825, 742, 747, 818, 739, 1040, 998, 995, 587, 483, 558, 479, 756, 895, 1096, 932, 1054, 883, 887, 879, 545, 592, 582, 537, 435, 516, 520, 508, 501, 529, 541, 475, 799, 760, 487, 725, 450, 469, 735, 731, 721, 783, 717, 803, 795, 905, 914, 919, 964, 959, 955, 969, 1037, 1063, 609, 612, 605, 617, 673, 669, 680, 689, 685, 696, 702, 708, 601, 597, 947, 943, 458, 370, 439, 443, 378, 394, 390, 454, 386, 398, 416, 406, 402, 984, 980, 990, 566, 570, 812, 822, 847, 367, 374, 364, 382, 410, 423, 427, 431, 465, 447, 494, 525, 533, 553, 549, 562, 574, 578, 713, 763, 751, 771, 775, 779, 787, 791, 808, 839, 835, 844, 852, 857, 861, 865, 871, 875, 891, 901, 910, 923, 928, 939, 951, 976, 973, 1010, 1014, 1006, 1025, 1021, 1029, 1033, 1046, 1050, 1068, 1059, 1076, 1072, 1080, 1084, 1088, 1100, 1092, 1200, 1196, 1266, 1286, 1235, 1193, 1208, 1298, 1190, 1212, 1215, 1204, 1219, 1223, 1227, 1231, 1242, 1246, 1254, 1250, 1258, 1239, 1270, 1263, 1278, 1274, 1290, 1282, 1294, 1302, 1306, 1321, 1324, 1318, 1333, 1339, 1328, 1314, 1348, 1310, 1363, 1370, 1360, 1356, 1382, 1352, 1378, 1374, 1387, 1391, 1395, 1399, 1407, 1403, 1422, 1419, 1426, 1415, 1411, 1430, 1434, 1438, 1442, 1446, 1450, 1454, 1458, 1466, 1462, 1474, 1470, 1478, 1482, 1487, 1496, 1492, 1500, 1512, 1520, 1516, 1508, 1504, 1532, 1528, 1524, 1536, 1540, 1548, 1544, 1552, 1556, 1565, 1561, 1574, 1570, 1578, 1582, 1586, 1590] (by rfl)
set_option maxRecDepth 100000 in
theorem ax_WD_in : ∀ w ∈ ax_WD, w ∈ lw_tbl := ax_inW [490, 621, 625, 631, 635, 638, 641, 646, 649, 652, 655, 659, 935, 1366] (by rfl)
set_option maxRecDepth 100000 in
theorem ax_N_in : ∀ w ∈ ax_N, w ∈ lw_tbl := ax_inW [191, 183, 244, 204, 210, 214, 207, 312, 316, 216, 190, 205, 213, 211, 245, 184, 186, 188, 208, 202, 288, 302, 314, 218, 999, 1001, 584, 589, 509, 502, 542, 476, 726, 727, 732, 961, 1038, 606, 674, 675, 690, 691, 697, 703, 944, 737, 991, 813, 814, 816, 823, 368, 375, 383, 395, 399, 411, 412, 413, 432, 436, 440, 448, 451, 455, 466, 472, 484, 495, 498, 513, 517, 526, 534, 538, 554, 555, 563, 567, 579, 594, 714, 752, 753, 757, 767, 780, 792, 804, 809, 819, 840, 845, 866, 867, 876, 892, 902, 911, 916, 929, 940, 952, 966, 977, 987, 992, 1015, 1016, 1017, 1034, 1051, 1060, 1093] (by decide +kernel)
theorem ax_W_in : ∀ w ∈ ax_W, w ∈ lw_tbl := List.forall_mem_append.mpr ⟨ax_W1_in, List.forall_mem_append.mpr ⟨ax_W2_in, List.forall_mem_append.mpr ⟨ax_W3_in, List.forall_mem_append.mpr ⟨ax_W4_in, List.forall_mem_append.mpr ⟨ax_W5_in, List.forall_mem_append.mpr ⟨ax_W6_in, List.forall_mem_append.mpr ⟨ax_W7_in, List.forall_mem_append.mpr ⟨ax_W8_in, List.forall_mem_append.mpr ⟨ax_WC_in, ax_WD_in⟩⟩⟩⟩⟩⟩⟩⟩⟩
set_option maxRecDepth 100000 in
theorem ax_W_good : ax_W.all goodWord = true := by decide +kernel
