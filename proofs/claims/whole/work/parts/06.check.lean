/-- lengths of instructions (0: a switch, any) -/
def ax_ilen (i : Jvm.ClassFile.Instr) : Nat := match i with
  | .aload _ => 2
  | .iload _ => 2
  | .lload _ => 2
  | .istore _ => 2
  | .lstore _ => 2
  | .astore _ => 2
  | .bipush _ => 2
  | .sipush _ => 3
  | .ldc _ => 2
  | .ldc_w _ => 3
  | .ldc2_w _ => 3
  | .getstatic _ => 3
  | .getfield _ => 3
  | .putfield _ => 3
  | .goto _ => 3
  | .ifCond _ _ => 3
  | .if_icmp _ _ => 3
  | .iinc _ _ => 3
  | .invokevirtual _ => 3
  | .invokestatic _ => 3
  | .tableswitch _ _ _ _ => 0
  | _ => 1
def ax_tgt (L : List ax_E) (pc : Nat) (off : Int) (t : Nat) : Bool := match ax_nth L t with
  | some e => decide ((pc : Int) + off = (e.1 : Int))
  | none => false
def ax_tgts (L : List ax_E) (pc : Nat) : List Int → List Nat → Bool
  | [], [] => true
  | o :: os, t :: ts => ax_tgt L pc o t && ax_tgts L pc os ts
  | _, _ => false
/-- a method of the table, called from class c at the pool's entry i -/
def ax_cm (c i mt argc rk : Nat) (st : Bool) : Bool := match ax_row mt with
  | some r => (decide ((c, (i, mt)) ∈ ax_ml) || decide ((c, (i, mt)) ∈ ax_mn)) && (r.2.2.2.2.2.1 == st) && decide (argc = r.2.2.2.2.2.2.1 + (if st = true then 0 else 1)) && (st || decide (rk = r.2.2.2.2.2.2.2))
  | none => false
def ax_cf (c i : Nat) (info : List Nat) : Bool := match info with
  | k :: j :: t :: q :: z :: [] => (decide ((c, (i, (k, j))) ∈ ax_fl) || decide ((c, (i, (k, j))) ∈ ax_fn)) && decide (k ∈ ax_obj) && decide (ax_nth (ax_fd k) j = some (t, (q, z)))
  | _ => false
def ax_wd (c : Nat) (bo : Bool) (L : List ax_E) (e : ax_E) : Bool := match e with
  | (pc, (ins, (info, cv))) => match ins, cv with
    | .iconst n, .inl x => decide (Int32.ofInt n = x)
    | .bipush n, .inl x => decide ((Int8.ofInt n).toInt32 = x)
    | .sipush n, .inl x => decide ((Int16.ofInt n).toInt32 = x)
    | .lconst n, .inr (.inl x) => decide (Int64.ofNat n.val = x)
    | .iinc _ n, .inl x => decide (Int32.ofInt n = x)
    | .ldc i, .inl x => decide ((c, (i, x)) ∈ ax_kc)
    | .ldc i, .inr (.inr (k, j)) => decide (k = 42) && decide ((c, (i, j)) ∈ ax_sr)
    | .ldc_w i, .inl x => decide ((c, (i, x)) ∈ ax_kc)
    | .ldc2_w i, .inr (.inl x) => decide ((c, (i, x)) ∈ ax_kl)
    | .getstatic i, .inr (.inr (k, j)) => decide (j = 0) && decide ((c, (i, k)) ∈ ax_sl)
    | .getfield i, _ => ax_cf c i info
    | .putfield i, _ => ax_cf c i info
    | .invokevirtual i, _ => (match info with
      | 0 :: mt :: argc :: rk :: [] => ax_cm c i mt argc rk false
      | 1 :: p :: argc :: [] => decide ((c, (i, p)) ∈ ax_ma) && (decide (p = 1) && decide (argc = 1) || decide (p = 2) && decide (argc = 2))
      | _ => false)
    | .invokestatic i, _ => (match info with
      | 0 :: mt :: argc :: rk :: [] => ax_cm c i mt argc rk true
      | 1 :: p :: argc :: [] => decide ((c, (i, p)) ∈ ax_ma) && (decide (p = 0) && decide (argc = 5))
      | _ => false)
    | .goto o, _ => (match info with
      | t :: _ => ax_tgt L pc o t
      | _ => false)
    | .ifCond _ o, _ => (match info with
      | t :: _ => ax_tgt L pc o t
      | _ => false)
    | .if_icmp _ o, _ => (match info with
      | t :: _ => ax_tgt L pc o t
      | _ => false)
    | .tableswitch d lo hi os, _ => (match info with
      | t :: ts => ax_tgt L pc d t && ax_tgts L pc os.toList ts && decide (0 ≤ lo) && decide (lo ≤ hi) && decide (hi < 1000) && decide ((os.size : Int) = hi - lo + 1)
      | _ => false)
    | .ireturn, _ => (match info with
      | b :: _ => b == (if bo = true then 1 else 0)
      | _ => false)
    | .lstore_n _, _ => true
    | .iconst _, _ => false
    | .bipush _, _ => false
    | .sipush _, _ => false
    | .lconst _, _ => false
    | .iinc _ _, _ => false
    | .ldc _, _ => false
    | .ldc_w _, _ => false
    | .ldc2_w _, _ => false
    | .getstatic _, _ => false
    | _, _ => true
/-- an instruction behind which nothing need stand -/
def ax_last (i : Jvm.ClassFile.Instr) : Bool := match i with
  | .goto _ => true
  | .ireturn => true
  | .lreturn => true
  | .return_ => true
  | .tableswitch _ _ _ _ => true
  | _ => false
def ax_ck1 (c : Nat) (bo : Bool) (bytes : ByteArray) (L : List ax_E) (e : ax_E) (es : List ax_E) : Bool := match decode bytes e.1 with
  | .ok (i, n) => decide (i = e.2.1) && (decide (ax_ilen e.2.1 = 0) || decide (n = ax_ilen e.2.1)) && (ax_last e.2.1 || (match es with
    | e2 :: _ => decide (e2.1 = e.1 + n)
    | [] => false)) && ax_wd c bo L e
  | _ => false
def ax_ck (c : Nat) (bo : Bool) (bytes : ByteArray) (L : List ax_E) : List ax_E → Bool
  | [] => true
  | e :: es => ax_ck1 c bo bytes L e es && ax_ck c bo bytes L es
set_option maxRecDepth 100000 in
theorem k_X0_isCell : ax_ck 0 true cX0_isCell L_X0_isCell L_X0_isCell = true := by decide +kernel
set_option maxRecDepth 100000 in
theorem k_X0_bit : ax_ck 0 false cX0_bit L_X0_bit L_X0_bit = true := by decide +kernel
set_option maxRecDepth 100000 in
theorem k_X0_has : ax_ck 0 true cX0_has L_X0_has L_X0_has = true := by decide +kernel
set_option maxRecDepth 100000 in
theorem k_J13_bitCount_95d88 : ax_ck 13 false cJ13_bitCount_95d88 L_J13_bitCount_95d88 L_J13_bitCount_95d88 = true := by decide +kernel
set_option maxRecDepth 100000 in
theorem k_X0_lowest : ax_ck 0 false cX0_lowest L_X0_lowest L_X0_lowest = true := by decide +kernel
set_option maxRecDepth 100000 in
theorem k_X0_leftAndRight : ax_ck 0 false cX0_leftAndRight L_X0_leftAndRight L_X0_leftAndRight = true := by decide +kernel
set_option maxRecDepth 100000 in
theorem k_X0_upAndDown : ax_ck 0 false cX0_upAndDown L_X0_upAndDown L_X0_upAndDown = true := by decide +kernel
set_option maxRecDepth 100000 in
theorem k_X0_beside : ax_ck 0 false cX0_beside L_X0_beside L_X0_beside = true := by decide +kernel
set_option maxRecDepth 100000 in
theorem k_X0_zone : ax_ck 0 false cX0_zone L_X0_zone L_X0_zone = true := by decide +kernel
set_option maxRecDepth 100000 in
theorem k_X0_after : ax_ck 0 false cX0_after L_X0_after L_X0_after = true := by decide +kernel
set_option maxRecDepth 100000 in
theorem k_J9_min_7cf53 : ax_ck 14 false cJ9_min_7cf53 L_J9_min_7cf53 L_J9_min_7cf53 = true := by decide +kernel
set_option maxRecDepth 100000 in
theorem k_X1_covers : ax_ck 1 true cX1_covers L_X1_covers L_X1_covers = true := by decide +kernel
set_option maxRecDepth 100000 in
theorem k_X1_find : ax_ck 1 false cX1_find L_X1_find L_X1_find = true := by decide +kernel
set_option maxRecDepth 100000 in
theorem k_X2_become : ax_ck 2 false cX2_become L_X2_become L_X2_become = true := by decide +kernel
set_option maxRecDepth 100000 in
theorem k_X2_of : ax_ck 2 false cX2_of L_X2_of L_X2_of = true := by decide +kernel
set_option maxRecDepth 100000 in
theorem k_X2_put : ax_ck 2 false cX2_put L_X2_put L_X2_put = true := by decide +kernel
set_option maxRecDepth 100000 in
theorem k_X2_owedBy : ax_ck 2 false cX2_owedBy L_X2_owedBy L_X2_owedBy = true := by decide +kernel
set_option maxRecDepth 100000 in
theorem k_X2_owedTo : ax_ck 2 false cX2_owedTo L_X2_owedTo L_X2_owedTo = true := by decide +kernel
set_option maxRecDepth 100000 in
theorem k_X2_balance : ax_ck 2 false cX2_balance L_X2_balance L_X2_balance = true := by decide +kernel
set_option maxRecDepth 100000 in
theorem k_X2_all : ax_ck 2 false cX2_all L_X2_all L_X2_all = true := by decide +kernel
set_option maxRecDepth 100000 in
theorem k_X2_shared : ax_ck 2 false cX2_shared L_X2_shared L_X2_shared = true := by decide +kernel
set_option maxRecDepth 100000 in
theorem k_X2_cancel : ax_ck 2 false cX2_cancel L_X2_cancel L_X2_cancel = true := by decide +kernel
set_option maxRecDepth 100000 in
theorem k_X2_creditorsOf : ax_ck 2 false cX2_creditorsOf L_X2_creditorsOf L_X2_creditorsOf = true := by decide +kernel
set_option maxRecDepth 100000 in
theorem k_X2_creditorsOfAll : ax_ck 2 false cX2_creditorsOfAll L_X2_creditorsOfAll L_X2_creditorsOfAll = true := by decide +kernel
set_option maxRecDepth 100000 in
theorem k_X2_links : ax_ck 2 false cX2_links L_X2_links L_X2_links = true := by decide +kernel
set_option maxRecDepth 100000 in
theorem k_X6_fill : ax_ck 6 false cX6_fill L_X6_fill L_X6_fill = true := by decide +kernel
set_option maxRecDepth 100000 in
theorem k_X6_become : ax_ck 6 false cX6_become L_X6_become L_X6_become = true := by decide +kernel
set_option maxRecDepth 100000 in
theorem k_X3_become : ax_ck 3 false cX3_become L_X3_become L_X3_become = true := by decide +kernel
set_option maxRecDepth 100000 in
theorem k_X3_isPerson : ax_ck 3 true cX3_isPerson L_X3_isPerson L_X3_isPerson = true := by decide +kernel
set_option maxRecDepth 100000 in
theorem k_X3_isSeed : ax_ck 3 true cX3_isSeed L_X3_isSeed L_X3_isSeed = true := by decide +kernel
set_option maxRecDepth 100000 in
theorem k_X3_hasWall : ax_ck 3 true cX3_hasWall L_X3_hasWall L_X3_hasWall = true := by decide +kernel
set_option maxRecDepth 100000 in
theorem k_X3_putWall : ax_ck 3 false cX3_putWall L_X3_putWall L_X3_putWall = true := by decide +kernel
set_option maxRecDepth 100000 in
theorem k_X3_peopleWithin : ax_ck 3 false cX3_peopleWithin L_X3_peopleWithin L_X3_peopleWithin = true := by decide +kernel
set_option maxRecDepth 100000 in
theorem k_X3_isStoodOn : ax_ck 3 true cX3_isStoodOn L_X3_isStoodOn L_X3_isStoodOn = true := by decide +kernel
set_option maxRecDepth 100000 in
theorem k_X3_addPerson : ax_ck 3 false cX3_addPerson L_X3_addPerson L_X3_addPerson = true := by decide +kernel
set_option maxRecDepth 100000 in
theorem k_X3_addSeed : ax_ck 3 false cX3_addSeed L_X3_addSeed L_X3_addSeed = true := by decide +kernel
set_option maxRecDepth 100000 in
theorem k_X3_debtors : ax_ck 3 false cX3_debtors L_X3_debtors L_X3_debtors = true := by decide +kernel
set_option maxRecDepth 100000 in
theorem k_X3_allSeeds : ax_ck 3 false cX3_allSeeds L_X3_allSeeds L_X3_allSeeds = true := by decide +kernel
set_option maxRecDepth 100000 in
theorem k_X3_seedsBut : ax_ck 3 false cX3_seedsBut L_X3_seedsBut L_X3_seedsBut = true := by decide +kernel
set_option maxRecDepth 100000 in
theorem k_J9_max_7cf53 : ax_ck 14 false cJ9_max_7cf53 L_J9_max_7cf53 L_J9_max_7cf53 = true := by decide +kernel
set_option maxRecDepth 100000 in
theorem k_X6_price : ax_ck 6 false cX6_price L_X6_price L_X6_price = true := by decide +kernel
set_option maxRecDepth 100000 in
theorem k_X3_enoughOf : ax_ck 3 false cX3_enoughOf L_X3_enoughOf L_X3_enoughOf = true := by decide +kernel
set_option maxRecDepth 100000 in
theorem k_X6_isKind : ax_ck 6 true cX6_isKind L_X6_isKind L_X6_isKind = true := by decide +kernel
set_option maxRecDepth 100000 in
theorem k_X6_span : ax_ck 6 false cX6_span L_X6_span L_X6_span = true := by decide +kernel
set_option maxRecDepth 100000 in
theorem k_X6_zone : ax_ck 6 false cX6_zone L_X6_zone L_X6_zone = true := by decide +kernel
set_option maxRecDepth 100000 in
theorem k_X3_near : ax_ck 3 false cX3_near L_X3_near L_X3_near = true := by decide +kernel
set_option maxRecDepth 100000 in
theorem k_X3_shownBy : ax_ck 3 false cX3_shownBy L_X3_shownBy L_X3_shownBy = true := by decide +kernel
set_option maxRecDepth 100000 in
theorem k_X3_shown : ax_ck 3 false cX3_shown L_X3_shown L_X3_shown = true := by decide +kernel
set_option maxRecDepth 100000 in
theorem k_X3_showers : ax_ck 3 false cX3_showers L_X3_showers L_X3_showers = true := by decide +kernel
set_option maxRecDepth 100000 in
theorem k_X3_quietAmong : ax_ck 3 false cX3_quietAmong L_X3_quietAmong L_X3_quietAmong = true := by decide +kernel
set_option maxRecDepth 100000 in
theorem k_X3_quietFor : ax_ck 3 false cX3_quietFor L_X3_quietFor L_X3_quietFor = true := by decide +kernel
set_option maxRecDepth 100000 in
theorem k_X3_dueOf : ax_ck 3 false cX3_dueOf L_X3_dueOf L_X3_dueOf = true := by decide +kernel
set_option maxRecDepth 100000 in
theorem k_X3_allDueOf : ax_ck 3 false cX3_allDueOf L_X3_allDueOf L_X3_allDueOf = true := by decide +kernel
set_option maxRecDepth 100000 in
theorem k_X3_isNearRank : ax_ck 3 true cX3_isNearRank L_X3_isNearRank L_X3_isNearRank = true := by decide +kernel
set_option maxRecDepth 100000 in
theorem k_X6_isTelltale : ax_ck 6 true cX6_isTelltale L_X6_isTelltale L_X6_isTelltale = true := by decide +kernel
set_option maxRecDepth 100000 in
theorem k_X3_telltales : ax_ck 3 false cX3_telltales L_X3_telltales L_X3_telltales = true := by decide +kernel
set_option maxRecDepth 100000 in
theorem k_X3_mayOwe : ax_ck 3 true cX3_mayOwe L_X3_mayOwe L_X3_mayOwe = true := by decide +kernel
set_option maxRecDepth 100000 in
theorem k_X3_surelyOwes : ax_ck 3 true cX3_surelyOwes L_X3_surelyOwes L_X3_surelyOwes = true := by decide +kernel
set_option maxRecDepth 100000 in
theorem k_X3_go : ax_ck 3 true cX3_go L_X3_go L_X3_go = true := by decide +kernel
set_option maxRecDepth 100000 in
theorem k_X3_draw : ax_ck 3 false cX3_draw L_X3_draw L_X3_draw = true := by decide +kernel
set_option maxRecDepth 100000 in
theorem k_X8_at : ax_ck 8 false cX8_at L_X8_at L_X8_at = true := by decide +kernel
set_option maxRecDepth 100000 in
theorem k_X4_tokenOf : ax_ck 4 false cX4_tokenOf L_X4_tokenOf L_X4_tokenOf = true := by decide +kernel
set_option maxRecDepth 100000 in
theorem k_X4_advance : ax_ck 4 false cX4_advance L_X4_advance L_X4_advance = true := by decide +kernel
set_option maxRecDepth 100000 in
theorem k_X4_isWord : ax_ck 4 true cX4_isWord L_X4_isWord L_X4_isWord = true := by decide +kernel
set_option maxRecDepth 100000 in
theorem k_X4_readNumber : ax_ck 4 false cX4_readNumber L_X4_readNumber L_X4_readNumber = true := by decide +kernel
set_option maxRecDepth 100000 in
theorem k_X4_readWall : ax_ck 4 true cX4_readWall L_X4_readWall L_X4_readWall = true := by decide +kernel
set_option maxRecDepth 100000 in
theorem k_X4_readOpen : ax_ck 4 true cX4_readOpen L_X4_readOpen L_X4_readOpen = true := by decide +kernel
set_option maxRecDepth 100000 in
theorem k_X4_readFloor : ax_ck 4 false cX4_readFloor L_X4_readFloor L_X4_readFloor = true := by decide +kernel
set_option maxRecDepth 100000 in
theorem k_X4_readPerson : ax_ck 4 true cX4_readPerson L_X4_readPerson L_X4_readPerson = true := by decide +kernel
set_option maxRecDepth 100000 in
theorem k_X4_readOwes : ax_ck 4 true cX4_readOwes L_X4_readOwes L_X4_readOwes = true := by decide +kernel
set_option maxRecDepth 100000 in
theorem k_X4_readSeed : ax_ck 4 true cX4_readSeed L_X4_readSeed L_X4_readSeed = true := by decide +kernel
set_option maxRecDepth 100000 in
theorem k_X4_readGo : ax_ck 4 true cX4_readGo L_X4_readGo L_X4_readGo = true := by decide +kernel
set_option maxRecDepth 100000 in
theorem k_X4_readStatement : ax_ck 4 true cX4_readStatement L_X4_readStatement L_X4_readStatement = true := by decide +kernel
set_option maxRecDepth 100000 in
theorem k_X4_readAll : ax_ck 4 false cX4_readAll L_X4_readAll L_X4_readAll = true := by decide +kernel
set_option maxRecDepth 100000 in
theorem k_X5_closes : ax_ck 5 true cX5_closes L_X5_closes L_X5_closes = true := by decide +kernel
set_option maxRecDepth 100000 in
theorem k_X5_find : ax_ck 5 false cX5_find L_X5_find L_X5_find = true := by decide +kernel
set_option maxRecDepth 100000 in
theorem k_X6_isOf : ax_ck 6 true cX6_isOf L_X6_isOf L_X6_isOf = true := by decide +kernel
set_option maxRecDepth 100000 in
theorem k_X7_isSort : ax_ck 7 true cX7_isSort L_X7_isSort L_X7_isSort = true := by decide +kernel
set_option maxRecDepth 100000 in
theorem k_X7_clear : ax_ck 7 false cX7_clear L_X7_clear L_X7_clear = true := by decide +kernel
set_option maxRecDepth 100000 in
theorem k_X7_takeSeed : ax_ck 7 false cX7_takeSeed L_X7_takeSeed L_X7_takeSeed = true := by decide +kernel
set_option maxRecDepth 100000 in
theorem k_X7_takeRow : ax_ck 7 false cX7_takeRow L_X7_takeRow L_X7_takeRow = true := by decide +kernel
set_option maxRecDepth 100000 in
theorem k_X7_isEmpty : ax_ck 7 true cX7_isEmpty L_X7_isEmpty L_X7_isEmpty = true := by decide +kernel
set_option maxRecDepth 100000 in
theorem k_X7_holdsSeed : ax_ck 7 true cX7_holdsSeed L_X7_holdsSeed L_X7_holdsSeed = true := by decide +kernel
set_option maxRecDepth 100000 in
theorem k_X7_seedNumber : ax_ck 7 false cX7_seedNumber L_X7_seedNumber L_X7_seedNumber = true := by decide +kernel
set_option maxRecDepth 100000 in
theorem k_X7_noRow : ax_ck 7 false cX7_noRow L_X7_noRow L_X7_noRow = true := by decide +kernel
set_option maxRecDepth 100000 in
theorem k_X7_hasElement : ax_ck 7 true cX7_hasElement L_X7_hasElement L_X7_hasElement = true := by decide +kernel
set_option maxRecDepth 100000 in
theorem k_X7_hasElements : ax_ck 7 true cX7_hasElements L_X7_hasElements L_X7_hasElements = true := by decide +kernel
set_option maxRecDepth 100000 in
theorem k_X7_fit : ax_ck 7 false cX7_fit L_X7_fit L_X7_fit = true := by decide +kernel
set_option maxRecDepth 100000 in
theorem k_X7_put : ax_ck 7 false cX7_put L_X7_put L_X7_put = true := by decide +kernel
set_option maxRecDepth 100000 in
theorem k_X7_cellAt : ax_ck 7 false cX7_cellAt L_X7_cellAt L_X7_cellAt = true := by decide +kernel
set_option maxRecDepth 100000 in
theorem k_X7_areCells : ax_ck 7 true cX7_areCells L_X7_areCells L_X7_areCells = true := by decide +kernel
set_option maxRecDepth 100000 in
theorem k_X7_cellBits : ax_ck 7 false cX7_cellBits L_X7_cellBits L_X7_cellBits = true := by decide +kernel
set_option maxRecDepth 100000 in
theorem k_X8_isFull : ax_ck 8 true cX8_isFull L_X8_isFull L_X8_isFull = true := by decide +kernel
set_option maxRecDepth 100000 in
theorem k_X8_add : ax_ck 8 false cX8_add L_X8_add L_X8_add = true := by decide +kernel
set_option maxRecDepth 100000 in
theorem k_X9_find : ax_ck 9 false cX9_find L_X9_find L_X9_find = true := by decide +kernel
set_option maxRecDepth 100000 in
theorem k_X9_cellOf : ax_ck 9 false cX9_cellOf L_X9_cellOf L_X9_cellOf = true := by decide +kernel
set_option maxRecDepth 100000 in
theorem k_X9_flood : ax_ck 9 false cX9_flood L_X9_flood L_X9_flood = true := by decide +kernel
set_option maxRecDepth 100000 in
theorem k_X10_isShelf : ax_ck 10 true cX10_isShelf L_X10_isShelf L_X10_isShelf = true := by decide +kernel
set_option maxRecDepth 100000 in
theorem k_X10_refuse : ax_ck 10 false cX10_refuse L_X10_refuse L_X10_refuse = true := by decide +kernel
set_option maxRecDepth 100000 in
theorem k_X10_row : ax_ck 10 false cX10_row L_X10_row L_X10_row = true := by decide +kernel
set_option maxRecDepth 100000 in
theorem k_X10_set : ax_ck 10 false cX10_set L_X10_set L_X10_set = true := by decide +kernel
set_option maxRecDepth 100000 in
theorem k_X10_copy : ax_ck 10 false cX10_copy L_X10_copy L_X10_copy = true := by decide +kernel
set_option maxRecDepth 100000 in
theorem k_X10_element : ax_ck 10 false cX10_element L_X10_element L_X10_element = true := by decide +kernel
set_option maxRecDepth 100000 in
theorem k_X10_holds : ax_ck 10 false cX10_holds L_X10_holds L_X10_holds = true := by decide +kernel
set_option maxRecDepth 100000 in
theorem k_X10_show : ax_ck 10 false cX10_show L_X10_show L_X10_show = true := by decide +kernel
set_option maxRecDepth 100000 in
theorem k_X10_saysAs : ax_ck 10 false cX10_saysAs L_X10_saysAs L_X10_saysAs = true := by decide +kernel
set_option maxRecDepth 100000 in
theorem k_X10_says : ax_ck 10 false cX10_says L_X10_says L_X10_says = true := by decide +kernel
set_option maxRecDepth 100000 in
theorem k_X10_wall : ax_ck 10 false cX10_wall L_X10_wall L_X10_wall = true := by decide +kernel
set_option maxRecDepth 100000 in
theorem k_X10_person : ax_ck 10 false cX10_person L_X10_person L_X10_person = true := by decide +kernel
set_option maxRecDepth 100000 in
theorem k_X10_sow : ax_ck 10 false cX10_sow L_X10_sow L_X10_sow = true := by decide +kernel
set_option maxRecDepth 100000 in
theorem k_X10_isPair : ax_ck 10 true cX10_isPair L_X10_isPair L_X10_isPair = true := by decide +kernel
set_option maxRecDepth 100000 in
theorem k_X10_owes : ax_ck 10 false cX10_owes L_X10_owes L_X10_owes = true := by decide +kernel
set_option maxRecDepth 100000 in
theorem k_X10_feed : ax_ck 10 false cX10_feed L_X10_feed L_X10_feed = true := by decide +kernel
set_option maxRecDepth 100000 in
theorem k_X10_wipe : ax_ck 10 false cX10_wipe L_X10_wipe L_X10_wipe = true := by decide +kernel
set_option maxRecDepth 100000 in
theorem k_X10_garden : ax_ck 10 false cX10_garden L_X10_garden L_X10_garden = true := by decide +kernel
set_option maxRecDepth 100000 in
theorem k_X10_seedOf : ax_ck 10 false cX10_seedOf L_X10_seedOf L_X10_seedOf = true := by decide +kernel
set_option maxRecDepth 100000 in
theorem k_J6_bitCount_0f7a4 : ax_ck 12 false cJ6_bitCount_0f7a4 L_J6_bitCount_0f7a4 L_J6_bitCount_0f7a4 = true := by decide +kernel
set_option maxRecDepth 100000 in
theorem k_X10_personOf : ax_ck 10 false cX10_personOf L_X10_personOf L_X10_personOf = true := by decide +kernel
set_option maxRecDepth 100000 in
theorem k_X10_debt : ax_ck 10 false cX10_debt L_X10_debt L_X10_debt = true := by decide +kernel
set_option maxRecDepth 100000 in
theorem k_X10_isWall : ax_ck 10 false cX10_isWall L_X10_isWall L_X10_isWall = true := by decide +kernel
set_option maxRecDepth 100000 in
theorem k_X10_up : ax_ck 10 false cX10_up L_X10_up L_X10_up = true := by decide +kernel
set_option maxRecDepth 100000 in
theorem k_X10_by : ax_ck 10 false cX10_by L_X10_by L_X10_by = true := by decide +kernel
set_option maxRecDepth 100000 in
theorem k_X10_quiet : ax_ck 10 false cX10_quiet L_X10_quiet L_X10_quiet = true := by decide +kernel
set_option maxRecDepth 100000 in
theorem k_X10_way : ax_ck 10 false cX10_way L_X10_way L_X10_way = true := by decide +kernel
set_option maxRecDepth 100000 in
theorem k_X10_hasWay : ax_ck 10 true cX10_hasWay L_X10_hasWay L_X10_hasWay = true := by decide +kernel
set_option maxRecDepth 100000 in
theorem k_X10_bar : ax_ck 10 false cX10_bar L_X10_bar L_X10_bar = true := by decide +kernel
set_option maxRecDepth 100000 in
theorem k_X10_reach : ax_ck 10 false cX10_reach L_X10_reach L_X10_reach = true := by decide +kernel
set_option maxRecDepth 100000 in
theorem k_X10_loud : ax_ck 10 false cX10_loud L_X10_loud L_X10_loud = true := by decide +kernel
set_option maxRecDepth 100000 in
theorem k_X10_together : ax_ck 10 false cX10_together L_X10_together L_X10_together = true := by decide +kernel
set_option maxRecDepth 100000 in
theorem k_X10_calm : ax_ck 10 false cX10_calm L_X10_calm L_X10_calm = true := by decide +kernel
set_option maxRecDepth 100000 in
theorem k_X10_idle : ax_ck 10 false cX10_idle L_X10_idle L_X10_idle = true := by decide +kernel
set_option maxRecDepth 100000 in
theorem k_X10_worst : ax_ck 10 false cX10_worst L_X10_worst L_X10_worst = true := by decide +kernel
set_option maxRecDepth 100000 in
theorem k_X10_chain : ax_ck 10 false cX10_chain L_X10_chain L_X10_chain = true := by decide +kernel
set_option maxRecDepth 100000 in
theorem k_X10_poorest : ax_ck 10 false cX10_poorest L_X10_poorest L_X10_poorest = true := by decide +kernel
set_option maxRecDepth 100000 in
theorem k_X10_due : ax_ck 10 false cX10_due L_X10_due L_X10_due = true := by decide +kernel
set_option maxRecDepth 100000 in
theorem k_X10_bare : ax_ck 10 false cX10_bare L_X10_bare L_X10_bare = true := by decide +kernel
set_option maxRecDepth 100000 in
theorem k_X10_net : ax_ck 10 false cX10_net L_X10_net L_X10_net = true := by decide +kernel
set_option maxRecDepth 100000 in
theorem k_X10_mutual : ax_ck 10 false cX10_mutual L_X10_mutual L_X10_mutual = true := by decide +kernel
set_option maxRecDepth 100000 in
theorem k_X10_ring : ax_ck 10 false cX10_ring L_X10_ring L_X10_ring = true := by decide +kernel
set_option maxRecDepth 100000 in
theorem k_X10_guess : ax_ck 10 false cX10_guess L_X10_guess L_X10_guess = true := by decide +kernel
set_option maxRecDepth 100000 in
theorem k_X10_noTold : ax_ck 10 false cX10_noTold L_X10_noTold L_X10_noTold = true := by decide +kernel
set_option maxRecDepth 100000 in
theorem k_X10_tells : ax_ck 10 false cX10_tells L_X10_tells L_X10_tells = true := by decide +kernel
set_option maxRecDepth 100000 in
theorem k_X10_noWalk : ax_ck 10 false cX10_noWalk L_X10_noWalk L_X10_noWalk = true := by decide +kernel
set_option maxRecDepth 100000 in
theorem k_X10_wrongOf : ax_ck 10 false cX10_wrongOf L_X10_wrongOf L_X10_wrongOf = true := by decide +kernel
set_option maxRecDepth 100000 in
theorem k_X10_judge : ax_ck 10 false cX10_judge L_X10_judge L_X10_judge = true := by decide +kernel
set_option maxRecDepth 100000 in
theorem k_X10_noTrueWalk : ax_ck 10 false cX10_noTrueWalk L_X10_noTrueWalk L_X10_noTrueWalk = true := by decide +kernel
set_option maxRecDepth 100000 in
theorem k_X10_seen : ax_ck 10 false cX10_seen L_X10_seen L_X10_seen = true := by decide +kernel
set_option maxRecDepth 100000 in
theorem k_X10_walk : ax_ck 10 false cX10_walk L_X10_walk L_X10_walk = true := by decide +kernel
set_option maxRecDepth 100000 in
theorem k_X10_step : ax_ck 10 false cX10_step L_X10_step L_X10_step = true := by decide +kernel
set_option maxRecDepth 100000 in
theorem k_X10_pay : ax_ck 10 false cX10_pay L_X10_pay L_X10_pay = true := by decide +kernel
set_option maxRecDepth 100000 in
theorem k_X10_strike : ax_ck 10 false cX10_strike L_X10_strike L_X10_strike = true := by decide +kernel
set_option maxRecDepth 100000 in
theorem k_X10_countShowing : ax_ck 10 false cX10_countShowing L_X10_countShowing L_X10_countShowing = true := by decide +kernel
set_option maxRecDepth 100000 in
theorem k_X10_days : ax_ck 10 false cX10_days L_X10_days L_X10_days = true := by decide +kernel
set_option maxRecDepth 100000 in
theorem k_X10_dropLostSeeds : ax_ck 10 false cX10_dropLostSeeds L_X10_dropLostSeeds L_X10_dropLostSeeds = true := by decide +kernel
set_option maxRecDepth 100000 in
theorem k_X10_weed : ax_ck 10 false cX10_weed L_X10_weed L_X10_weed = true := by decide +kernel
set_option maxRecDepth 100000 in
theorem k_X10_seed : ax_ck 10 false cX10_seed L_X10_seed L_X10_seed = true := by decide +kernel
set_option maxRecDepth 100000 in
theorem k_X10_image : ax_ck 10 false cX10_image L_X10_image L_X10_image = true := by decide +kernel
set_option maxRecDepth 100000 in
theorem k_X10_back : ax_ck 10 false cX10_back L_X10_back L_X10_back = true := by decide +kernel
set_option maxRecDepth 100000 in
theorem k_X10_fullShelves : ax_ck 10 false cX10_fullShelves L_X10_fullShelves L_X10_fullShelves = true := by decide +kernel
set_option maxRecDepth 100000 in
theorem k_X10_status : ax_ck 10 false cX10_status L_X10_status L_X10_status = true := by decide +kernel
set_option maxRecDepth 100000 in
theorem k_X11_no : ax_ck 11 false cX11_no L_X11_no L_X11_no = true := by decide +kernel
set_option maxRecDepth 100000 in
theorem k_X11_within : ax_ck 11 true cX11_within L_X11_within L_X11_within = true := by decide +kernel
set_option maxRecDepth 100000 in
theorem k_X11_isCell : ax_ck 11 true cX11_isCell L_X11_isCell L_X11_isCell = true := by decide +kernel
set_option maxRecDepth 100000 in
theorem k_X11_isOne : ax_ck 11 true cX11_isOne L_X11_isOne L_X11_isOne = true := by decide +kernel
set_option maxRecDepth 100000 in
theorem k_X11_isSeed : ax_ck 11 true cX11_isSeed L_X11_isSeed L_X11_isSeed = true := by decide +kernel
set_option maxRecDepth 100000 in
theorem k_X11_isShelf : ax_ck 11 true cX11_isShelf L_X11_isShelf L_X11_isShelf = true := by decide +kernel
set_option maxRecDepth 100000 in
theorem k_X11_isRow : ax_ck 11 true cX11_isRow L_X11_isRow L_X11_isRow = true := by decide +kernel
set_option maxRecDepth 100000 in
theorem k_X11_areTwo : ax_ck 11 true cX11_areTwo L_X11_areTwo L_X11_areTwo = true := by decide +kernel
set_option maxRecDepth 100000 in
theorem k_X11_row : ax_ck 11 false cX11_row L_X11_row L_X11_row = true := by decide +kernel
set_option maxRecDepth 100000 in
theorem k_X11_noRow : ax_ck 11 false cX11_noRow L_X11_noRow L_X11_noRow = true := by decide +kernel
set_option maxRecDepth 100000 in
theorem k_X11_kept : ax_ck 11 false cX11_kept L_X11_kept L_X11_kept = true := by decide +kernel
set_option maxRecDepth 100000 in
theorem k_X11_set : ax_ck 11 false cX11_set L_X11_set L_X11_set = true := by decide +kernel
set_option maxRecDepth 100000 in
theorem k_X11_copy : ax_ck 11 false cX11_copy L_X11_copy L_X11_copy = true := by decide +kernel
set_option maxRecDepth 100000 in
theorem k_X11_element : ax_ck 11 false cX11_element L_X11_element L_X11_element = true := by decide +kernel
set_option maxRecDepth 100000 in
theorem k_X11_holds : ax_ck 11 false cX11_holds L_X11_holds L_X11_holds = true := by decide +kernel
set_option maxRecDepth 100000 in
theorem k_X11_show : ax_ck 11 false cX11_show L_X11_show L_X11_show = true := by decide +kernel
set_option maxRecDepth 100000 in
theorem k_X11_isUnder : ax_ck 11 true cX11_isUnder L_X11_isUnder L_X11_isUnder = true := by decide +kernel
set_option maxRecDepth 100000 in
theorem k_X11_reachOf : ax_ck 11 false cX11_reachOf L_X11_reachOf L_X11_reachOf = true := by decide +kernel
set_option maxRecDepth 100000 in
theorem k_X11_allOwed : ax_ck 11 false cX11_allOwed L_X11_allOwed L_X11_allOwed = true := by decide +kernel
set_option maxRecDepth 100000 in
theorem k_X11_owing : ax_ck 11 false cX11_owing L_X11_owing L_X11_owing = true := by decide +kernel
set_option maxRecDepth 100000 in
theorem k_X11_takes : ax_ck 11 false cX11_takes L_X11_takes L_X11_takes = true := by decide +kernel
set_option maxRecDepth 100000 in
theorem k_X11_says : ax_ck 11 false cX11_says L_X11_says L_X11_says = true := by decide +kernel
set_option maxRecDepth 100000 in
theorem k_X11_somebodyAt : ax_ck 11 true cX11_somebodyAt L_X11_somebodyAt L_X11_somebodyAt = true := by decide +kernel
set_option maxRecDepth 100000 in
theorem k_X11_wall : ax_ck 11 false cX11_wall L_X11_wall L_X11_wall = true := by decide +kernel
set_option maxRecDepth 100000 in
theorem k_X11_newOne : ax_ck 11 false cX11_newOne L_X11_newOne L_X11_newOne = true := by decide +kernel
set_option maxRecDepth 100000 in
theorem k_X11_person : ax_ck 11 false cX11_person L_X11_person L_X11_person = true := by decide +kernel
set_option maxRecDepth 100000 in
theorem k_X11_newSeed : ax_ck 11 false cX11_newSeed L_X11_newSeed L_X11_newSeed = true := by decide +kernel
set_option maxRecDepth 100000 in
theorem k_X11_sow : ax_ck 11 false cX11_sow L_X11_sow L_X11_sow = true := by decide +kernel
set_option maxRecDepth 100000 in
theorem k_X11_owes : ax_ck 11 false cX11_owes L_X11_owes L_X11_owes = true := by decide +kernel
set_option maxRecDepth 100000 in
theorem k_X11_feed : ax_ck 11 false cX11_feed L_X11_feed L_X11_feed = true := by decide +kernel
set_option maxRecDepth 100000 in
theorem k_X11_wipe : ax_ck 11 false cX11_wipe L_X11_wipe L_X11_wipe = true := by decide +kernel
set_option maxRecDepth 100000 in
theorem k_X11_isLetter : ax_ck 11 true cX11_isLetter L_X11_isLetter L_X11_isLetter = true := by decide +kernel
set_option maxRecDepth 100000 in
theorem k_X11_isDigit : ax_ck 11 true cX11_isDigit L_X11_isDigit L_X11_isDigit = true := by decide +kernel
set_option maxRecDepth 100000 in
theorem k_X11_next : ax_ck 11 false cX11_next L_X11_next L_X11_next = true := by decide +kernel
set_option maxRecDepth 100000 in
theorem k_X11_isWord : ax_ck 11 true cX11_isWord L_X11_isWord L_X11_isWord = true := by decide +kernel
set_option maxRecDepth 100000 in
theorem k_X11_number : ax_ck 11 false cX11_number L_X11_number L_X11_number = true := by decide +kernel
set_option maxRecDepth 100000 in
theorem k_X11_statement : ax_ck 11 true cX11_statement L_X11_statement L_X11_statement = true := by decide +kernel
set_option maxRecDepth 100000 in
theorem k_X11_keep : ax_ck 11 false cX11_keep L_X11_keep L_X11_keep = true := by decide +kernel
set_option maxRecDepth 100000 in
theorem k_X11_again : ax_ck 11 false cX11_again L_X11_again L_X11_again = true := by decide +kernel
set_option maxRecDepth 100000 in
theorem k_X11_garden : ax_ck 11 false cX11_garden L_X11_garden L_X11_garden = true := by decide +kernel
set_option maxRecDepth 100000 in
theorem k_J9_abs_0f7a4 : ax_ck 14 false cJ9_abs_0f7a4 L_J9_abs_0f7a4 L_J9_abs_0f7a4 = true := by decide +kernel
set_option maxRecDepth 100000 in
theorem k_X11_far : ax_ck 11 false cX11_far L_X11_far L_X11_far = true := by decide +kernel
set_option maxRecDepth 100000 in
theorem k_X11_owesEnough : ax_ck 11 true cX11_owesEnough L_X11_owesEnough L_X11_owesEnough = true := by decide +kernel
set_option maxRecDepth 100000 in
theorem k_X11_isUp : ax_ck 11 true cX11_isUp L_X11_isUp L_X11_isUp = true := by decide +kernel
set_option maxRecDepth 100000 in
theorem k_X11_byOf : ax_ck 11 false cX11_byOf L_X11_byOf L_X11_byOf = true := by decide +kernel
set_option maxRecDepth 100000 in
theorem k_X11_upOf : ax_ck 11 false cX11_upOf L_X11_upOf L_X11_upOf = true := by decide +kernel
set_option maxRecDepth 100000 in
theorem k_X11_seedOf : ax_ck 11 false cX11_seedOf L_X11_seedOf L_X11_seedOf = true := by decide +kernel
set_option maxRecDepth 100000 in
theorem k_X11_owedTo : ax_ck 11 false cX11_owedTo L_X11_owedTo L_X11_owedTo = true := by decide +kernel
set_option maxRecDepth 100000 in
theorem k_X11_personOf : ax_ck 11 false cX11_personOf L_X11_personOf L_X11_personOf = true := by decide +kernel
set_option maxRecDepth 100000 in
theorem k_X11_debt : ax_ck 11 false cX11_debt L_X11_debt L_X11_debt = true := by decide +kernel
set_option maxRecDepth 100000 in
theorem k_X11_isWall : ax_ck 11 false cX11_isWall L_X11_isWall L_X11_isWall = true := by decide +kernel
set_option maxRecDepth 100000 in
theorem k_X11_up : ax_ck 11 false cX11_up L_X11_up L_X11_up = true := by decide +kernel
set_option maxRecDepth 100000 in
theorem k_X11_by : ax_ck 11 false cX11_by L_X11_by L_X11_by = true := by decide +kernel
set_option maxRecDepth 100000 in
theorem k_X11_isQuiet : ax_ck 11 true cX11_isQuiet L_X11_isQuiet L_X11_isQuiet = true := by decide +kernel
set_option maxRecDepth 100000 in
theorem k_X11_quiet : ax_ck 11 false cX11_quiet L_X11_quiet L_X11_quiet = true := by decide +kernel
set_option maxRecDepth 100000 in
theorem k_X11_beside : ax_ck 11 false cX11_beside L_X11_beside L_X11_beside = true := by decide +kernel
set_option maxRecDepth 100000 in
theorem k_X11_walks : ax_ck 11 false cX11_walks L_X11_walks L_X11_walks = true := by decide +kernel
set_option maxRecDepth 100000 in
theorem k_X11_walksBack : ax_ck 11 false cX11_walksBack L_X11_walksBack L_X11_walksBack = true := by decide +kernel
set_option maxRecDepth 100000 in
theorem k_X11_wayOf : ax_ck 11 false cX11_wayOf L_X11_wayOf L_X11_wayOf = true := by decide +kernel
set_option maxRecDepth 100000 in
theorem k_X11_way : ax_ck 11 false cX11_way L_X11_way L_X11_way = true := by decide +kernel
set_option maxRecDepth 100000 in
theorem k_X11_bar : ax_ck 11 false cX11_bar L_X11_bar L_X11_bar = true := by decide +kernel
set_option maxRecDepth 100000 in
theorem k_X11_reach : ax_ck 11 false cX11_reach L_X11_reach L_X11_reach = true := by decide +kernel
set_option maxRecDepth 100000 in
theorem k_X11_loud : ax_ck 11 false cX11_loud L_X11_loud L_X11_loud = true := by decide +kernel
set_option maxRecDepth 100000 in
theorem k_X11_together : ax_ck 11 false cX11_together L_X11_together L_X11_together = true := by decide +kernel
set_option maxRecDepth 100000 in
theorem k_X11_calm : ax_ck 11 false cX11_calm L_X11_calm L_X11_calm = true := by decide +kernel
set_option maxRecDepth 100000 in
theorem k_X11_idle : ax_ck 11 false cX11_idle L_X11_idle L_X11_idle = true := by decide +kernel
set_option maxRecDepth 100000 in
theorem k_X11_worst : ax_ck 11 false cX11_worst L_X11_worst L_X11_worst = true := by decide +kernel
set_option maxRecDepth 100000 in
theorem k_X11_chain : ax_ck 11 false cX11_chain L_X11_chain L_X11_chain = true := by decide +kernel
set_option maxRecDepth 100000 in
theorem k_X11_netOf : ax_ck 11 false cX11_netOf L_X11_netOf L_X11_netOf = true := by decide +kernel
set_option maxRecDepth 100000 in
theorem k_X11_poorest : ax_ck 11 false cX11_poorest L_X11_poorest L_X11_poorest = true := by decide +kernel
set_option maxRecDepth 100000 in
theorem k_X11_dueOf : ax_ck 11 false cX11_dueOf L_X11_dueOf L_X11_dueOf = true := by decide +kernel
set_option maxRecDepth 100000 in
theorem k_X11_due : ax_ck 11 false cX11_due L_X11_due L_X11_due = true := by decide +kernel
set_option maxRecDepth 100000 in
theorem k_X11_bare : ax_ck 11 false cX11_bare L_X11_bare L_X11_bare = true := by decide +kernel
set_option maxRecDepth 100000 in
theorem k_X11_net : ax_ck 11 false cX11_net L_X11_net L_X11_net = true := by decide +kernel
set_option maxRecDepth 100000 in
theorem k_X11_mutual : ax_ck 11 false cX11_mutual L_X11_mutual L_X11_mutual = true := by decide +kernel
set_option maxRecDepth 100000 in
theorem k_X11_rings : ax_ck 11 true cX11_rings L_X11_rings L_X11_rings = true := by decide +kernel
set_option maxRecDepth 100000 in
theorem k_X11_ring : ax_ck 11 false cX11_ring L_X11_ring L_X11_ring = true := by decide +kernel
set_option maxRecDepth 100000 in
theorem k_X11_guess : ax_ck 11 false cX11_guess L_X11_guess L_X11_guess = true := by decide +kernel
set_option maxRecDepth 100000 in
theorem k_X11_toldAt : ax_ck 11 false cX11_toldAt L_X11_toldAt L_X11_toldAt = true := by decide +kernel
set_option maxRecDepth 100000 in
theorem k_X11_tellsAll : ax_ck 11 true cX11_tellsAll L_X11_tellsAll L_X11_tellsAll = true := by decide +kernel
set_option maxRecDepth 100000 in
theorem k_X11_fewest : ax_ck 11 false cX11_fewest L_X11_fewest L_X11_fewest = true := by decide +kernel
set_option maxRecDepth 100000 in
theorem k_X11_noRow_ : ax_ck 11 false cX11_noRow_ L_X11_noRow_ L_X11_noRow_ = true := by decide +kernel
set_option maxRecDepth 100000 in
theorem k_X11_tells : ax_ck 11 false cX11_tells L_X11_tells L_X11_tells = true := by decide +kernel
set_option maxRecDepth 100000 in
theorem k_X11_wrong : ax_ck 11 false cX11_wrong L_X11_wrong L_X11_wrong = true := by decide +kernel
set_option maxRecDepth 100000 in
theorem k_X11_noWalk : ax_ck 11 false cX11_noWalk L_X11_noWalk L_X11_noWalk = true := by decide +kernel
set_option maxRecDepth 100000 in
theorem k_X11_judge : ax_ck 11 false cX11_judge L_X11_judge L_X11_judge = true := by decide +kernel
set_option maxRecDepth 100000 in
theorem k_X11_seen : ax_ck 11 false cX11_seen L_X11_seen L_X11_seen = true := by decide +kernel
set_option maxRecDepth 100000 in
theorem k_X11_walk : ax_ck 11 false cX11_walk L_X11_walk L_X11_walk = true := by decide +kernel
set_option maxRecDepth 100000 in
theorem k_X11_goes : ax_ck 11 true cX11_goes L_X11_goes L_X11_goes = true := by decide +kernel
set_option maxRecDepth 100000 in
theorem k_X11_step : ax_ck 11 false cX11_step L_X11_step L_X11_step = true := by decide +kernel
set_option maxRecDepth 100000 in
theorem k_X11_pay : ax_ck 11 false cX11_pay L_X11_pay L_X11_pay = true := by decide +kernel
set_option maxRecDepth 100000 in
theorem k_X11_strike : ax_ck 11 false cX11_strike L_X11_strike L_X11_strike = true := by decide +kernel
set_option maxRecDepth 100000 in
theorem k_X11_draw : ax_ck 11 false cX11_draw L_X11_draw L_X11_draw = true := by decide +kernel
set_option maxRecDepth 100000 in
theorem k_X11_days : ax_ck 11 false cX11_days L_X11_days L_X11_days = true := by decide +kernel
set_option maxRecDepth 100000 in
theorem k_X11_unshelve : ax_ck 11 false cX11_unshelve L_X11_unshelve L_X11_unshelve = true := by decide +kernel
set_option maxRecDepth 100000 in
theorem k_X11_weed : ax_ck 11 false cX11_weed L_X11_weed L_X11_weed = true := by decide +kernel
set_option maxRecDepth 100000 in
theorem k_X11_seed : ax_ck 11 false cX11_seed L_X11_seed L_X11_seed = true := by decide +kernel
set_option maxRecDepth 100000 in
theorem k_X11_image : ax_ck 11 false cX11_image L_X11_image L_X11_image = true := by decide +kernel
set_option maxRecDepth 100000 in
theorem k_X11_back : ax_ck 11 false cX11_back L_X11_back L_X11_back = true := by decide +kernel
set_option maxRecDepth 100000 in
theorem k_X11_status : ax_ck 11 false cX11_status L_X11_status L_X11_status = true := by decide +kernel
