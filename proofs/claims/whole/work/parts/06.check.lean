/-- lengths of instructions (0: a switch, any) -/
def ax_ilen (i : Jvm.ClassFile.Instr) : Nat := match i with
  | .aload _ => 2
  | .iload _ => 2
  | .lload _ => 2
  | .istore _ => 2
  | .lstore _ => 2
  | .astore _ => 2
  | .bipush _ => 2
  | .sipush _ => 3
  | .ldc _ => 2
  | .ldc_w _ => 3
  | .ldc2_w _ => 3
  | .getstatic _ => 3
  | .getfield _ => 3
  | .putfield _ => 3
  | .goto _ => 3
  | .ifCond _ _ => 3
  | .if_icmp _ _ => 3
  | .iinc _ _ => 3
  | .invokevirtual _ => 3
  | .invokestatic _ => 3
  | .tableswitch _ _ _ _ => 0
  | _ => 1
def ax_tgt (L : List ax_E) (pc : Nat) (off : Int) (t : Nat) : Bool := match ax_nth L t with
  | some e => decide ((pc : Int) + off = (e.1 : Int))
  | none => false
def ax_tgts (L : List ax_E) (pc : Nat) : List Int → List Nat → Bool
  | [], [] => true
  | o :: os, t :: ts => ax_tgt L pc o t && ax_tgts L pc os ts
  | _, _ => false
/-- a method of the table, called from class c at the pool's entry i -/
def ax_cm (c i mt argc rk : Nat) (st : Bool) : Bool := match ax_row mt with
  | some r => (decide ((c, (i, mt)) ∈ ax_ml) || decide ((c, (i, mt)) ∈ ax_mn)) && (r.2.2.2.2.2.1 == st) && decide (argc = r.2.2.2.2.2.2.1 + (if st = true then 0 else 1)) && (st || decide (rk = r.2.2.2.2.2.2.2))
  | none => false
def ax_cf (c i : Nat) (info : List Nat) : Bool := match info with
  | k :: j :: t :: q :: z :: [] => (decide ((c, (i, (k, j))) ∈ ax_fl) || decide ((c, (i, (k, j))) ∈ ax_fn)) && decide (k ∈ ax_obj) && decide (ax_nth (ax_fd k) j = some (t, (q, z)))
  | _ => false
def ax_wd (c : Nat) (rt : Nat) (L : List ax_E) (e : ax_E) : Bool := match e with
  | (pc, (ins, (info, cv))) => match ins, cv with
    | .iconst n, .inl x => decide (Int32.ofInt n = x)
    | .bipush n, .inl x => decide ((Int8.ofInt n).toInt32 = x)
    | .sipush n, .inl x => decide ((Int16.ofInt n).toInt32 = x)
    | .lconst n, .inr (.inl x) => decide (Int64.ofNat n.val = x)
    | .iinc _ n, .inl x => decide (Int32.ofInt n = x)
    | .ldc i, .inl x => decide ((c, (i, x)) ∈ ax_kc)
    | .ldc i, .inr (.inr (k, j)) => decide (k = 42) && decide ((c, (i, j)) ∈ ax_sr)
    | .ldc_w i, .inl x => decide ((c, (i, x)) ∈ ax_kc)
    | .ldc2_w i, .inr (.inl x) => decide ((c, (i, x)) ∈ ax_kl)
    | .getstatic i, .inr (.inr (k, j)) => decide (j = 0) && decide ((c, (i, k)) ∈ ax_sl)
    | .getfield i, _ => ax_cf c i info
    | .putfield i, _ => ax_cf c i info
    | .invokevirtual i, _ => (match info with
      | 0 :: mt :: argc :: rk :: [] => ax_cm c i mt argc rk false
      | 1 :: p :: argc :: [] => decide ((c, (i, p)) ∈ ax_ma) && (decide (p = 1) && decide (argc = 1) || decide (p = 2) && decide (argc = 2))
      | _ => false)
    | .invokestatic i, _ => (match info with
      | 0 :: mt :: argc :: rk :: [] => ax_cm c i mt argc rk true
      | 1 :: p :: argc :: [] => decide ((c, (i, p)) ∈ ax_ma) && (decide (p = 0) && decide (argc = 5) || decide (p = 3) && decide (argc = 2) || decide (p = 4) && decide (argc = 2) || decide (p = 5) && decide (argc = 1))
      | _ => false)
    | .goto o, _ => (match info with
      | t :: _ => ax_tgt L pc o t
      | _ => false)
    | .ifCond _ o, _ => (match info with
      | t :: _ => ax_tgt L pc o t
      | _ => false)
    | .if_icmp _ o, _ => (match info with
      | t :: _ => ax_tgt L pc o t
      | _ => false)
    | .tableswitch d lo hi os, _ => (match info with
      | t :: ts => ax_tgt L pc d t && ax_tgts L pc os.toList ts && decide (0 ≤ lo) && decide (lo ≤ hi) && decide (hi < 1000) && decide ((os.size : Int) = hi - lo + 1)
      | _ => false)
    | .ireturn, _ => (match info with
      | b :: _ => decide (b = 0 ∧ rt = 1 ∨ b = 1 ∧ rt = 2)
      | _ => false)
    | .lreturn, _ => decide (rt = 3)
    | .return_, _ => decide (rt = 0)
    | .lstore_n _, _ => true
    | .iconst _, _ => false
    | .bipush _, _ => false
    | .sipush _, _ => false
    | .lconst _, _ => false
    | .iinc _ _, _ => false
    | .ldc _, _ => false
    | .ldc_w _, _ => false
    | .ldc2_w _, _ => false
    | .getstatic _, _ => false
    | _, _ => true
/-- an instruction behind which nothing need stand -/
def ax_last (i : Jvm.ClassFile.Instr) : Bool := match i with
  | .goto _ => true
  | .ireturn => true
  | .lreturn => true
  | .return_ => true
  | .tableswitch _ _ _ _ => true
  | _ => false
def ax_ck1 (c : Nat) (rt : Nat) (bytes : ByteArray) (L : List ax_E) (e : ax_E) (es : List ax_E) : Bool := match decode bytes e.1 with
  | .ok (i, n) => decide (i = e.2.1) && (decide (ax_ilen e.2.1 = 0) || decide (n = ax_ilen e.2.1)) && (ax_last e.2.1 || (match es with
    | e2 :: _ => decide (e2.1 = e.1 + n)
    | [] => false)) && ax_wd c rt L e
  | _ => false
def ax_ck (c : Nat) (rt : Nat) (bytes : ByteArray) (L : List ax_E) : List ax_E → Bool
  | [] => true
  | e :: es => ax_ck1 c rt bytes L e es && ax_ck c rt bytes L es
set_option maxRecDepth 100000 in
theorem k_X0_isCell : ax_ck 0 2 cX0_isCell L_X0_isCell L_X0_isCell = true := by decide +kernel
set_option maxRecDepth 100000 in
theorem k_X0_bit : ax_ck 0 3 cX0_bit L_X0_bit L_X0_bit = true := by decide +kernel
set_option maxRecDepth 100000 in
theorem k_X0_has : ax_ck 0 2 cX0_has L_X0_has L_X0_has = true := by decide +kernel
set_option maxRecDepth 100000 in
theorem k_J13_bitCount_95d88 : ax_ck 13 1 cJ13_bitCount_95d88 L_J13_bitCount_95d88 L_J13_bitCount_95d88 = true := by decide +kernel
set_option maxRecDepth 100000 in
theorem k_X0_lowest : ax_ck 0 1 cX0_lowest L_X0_lowest L_X0_lowest = true := by decide +kernel
set_option maxRecDepth 100000 in
theorem k_X0_leftAndRight : ax_ck 0 3 cX0_leftAndRight L_X0_leftAndRight L_X0_leftAndRight = true := by decide +kernel
set_option maxRecDepth 100000 in
theorem k_X0_upAndDown : ax_ck 0 3 cX0_upAndDown L_X0_upAndDown L_X0_upAndDown = true := by decide +kernel
set_option maxRecDepth 100000 in
theorem k_X0_beside : ax_ck 0 3 cX0_beside L_X0_beside L_X0_beside = true := by decide +kernel
set_option maxRecDepth 100000 in
theorem k_X0_zone : ax_ck 0 3 cX0_zone L_X0_zone L_X0_zone = true := by decide +kernel
set_option maxRecDepth 100000 in
theorem k_X0_after : ax_ck 0 1 cX0_after L_X0_after L_X0_after = true := by decide +kernel
set_option maxRecDepth 100000 in
theorem k_X1_covers : ax_ck 1 2 cX1_covers L_X1_covers L_X1_covers = true := by decide +kernel
set_option maxRecDepth 100000 in
theorem k_X1_find : ax_ck 1 1 cX1_find L_X1_find L_X1_find = true := by decide +kernel
set_option maxRecDepth 100000 in
theorem k_X2_become : ax_ck 2 0 cX2_become L_X2_become L_X2_become = true := by decide +kernel
set_option maxRecDepth 100000 in
theorem k_X2_of : ax_ck 2 1 cX2_of L_X2_of L_X2_of = true := by decide +kernel
set_option maxRecDepth 100000 in
theorem k_X2_put : ax_ck 2 0 cX2_put L_X2_put L_X2_put = true := by decide +kernel
set_option maxRecDepth 100000 in
theorem k_X2_owedBy : ax_ck 2 1 cX2_owedBy L_X2_owedBy L_X2_owedBy = true := by decide +kernel
set_option maxRecDepth 100000 in
theorem k_X2_owedTo : ax_ck 2 1 cX2_owedTo L_X2_owedTo L_X2_owedTo = true := by decide +kernel
set_option maxRecDepth 100000 in
theorem k_X2_balance : ax_ck 2 1 cX2_balance L_X2_balance L_X2_balance = true := by decide +kernel
set_option maxRecDepth 100000 in
theorem k_X2_all : ax_ck 2 1 cX2_all L_X2_all L_X2_all = true := by decide +kernel
set_option maxRecDepth 100000 in
theorem k_X2_shared : ax_ck 2 1 cX2_shared L_X2_shared L_X2_shared = true := by decide +kernel
set_option maxRecDepth 100000 in
theorem k_X2_cancel : ax_ck 2 0 cX2_cancel L_X2_cancel L_X2_cancel = true := by decide +kernel
set_option maxRecDepth 100000 in
theorem k_X2_creditorsOf : ax_ck 2 1 cX2_creditorsOf L_X2_creditorsOf L_X2_creditorsOf = true := by decide +kernel
set_option maxRecDepth 100000 in
theorem k_X2_creditorsOfAll : ax_ck 2 1 cX2_creditorsOfAll L_X2_creditorsOfAll L_X2_creditorsOfAll = true := by decide +kernel
set_option maxRecDepth 100000 in
theorem k_X2_links : ax_ck 2 1 cX2_links L_X2_links L_X2_links = true := by decide +kernel
set_option maxRecDepth 100000 in
theorem k_X6_fill : ax_ck 6 0 cX6_fill L_X6_fill L_X6_fill = true := by decide +kernel
set_option maxRecDepth 100000 in
theorem k_X6_become : ax_ck 6 0 cX6_become L_X6_become L_X6_become = true := by decide +kernel
set_option maxRecDepth 100000 in
theorem k_X3_become : ax_ck 3 0 cX3_become L_X3_become L_X3_become = true := by decide +kernel
set_option maxRecDepth 100000 in
theorem k_X3_isPerson : ax_ck 3 2 cX3_isPerson L_X3_isPerson L_X3_isPerson = true := by decide +kernel
set_option maxRecDepth 100000 in
theorem k_X3_isSeed : ax_ck 3 2 cX3_isSeed L_X3_isSeed L_X3_isSeed = true := by decide +kernel
set_option maxRecDepth 100000 in
theorem k_X3_hasWall : ax_ck 3 2 cX3_hasWall L_X3_hasWall L_X3_hasWall = true := by decide +kernel
set_option maxRecDepth 100000 in
theorem k_X3_putWall : ax_ck 3 0 cX3_putWall L_X3_putWall L_X3_putWall = true := by decide +kernel
set_option maxRecDepth 100000 in
theorem k_X3_peopleWithin : ax_ck 3 1 cX3_peopleWithin L_X3_peopleWithin L_X3_peopleWithin = true := by decide +kernel
set_option maxRecDepth 100000 in
theorem k_X3_isStoodOn : ax_ck 3 2 cX3_isStoodOn L_X3_isStoodOn L_X3_isStoodOn = true := by decide +kernel
set_option maxRecDepth 100000 in
theorem k_X3_addPerson : ax_ck 3 1 cX3_addPerson L_X3_addPerson L_X3_addPerson = true := by decide +kernel
set_option maxRecDepth 100000 in
theorem k_X3_addSeed : ax_ck 3 1 cX3_addSeed L_X3_addSeed L_X3_addSeed = true := by decide +kernel
set_option maxRecDepth 100000 in
theorem k_X3_debtors : ax_ck 3 1 cX3_debtors L_X3_debtors L_X3_debtors = true := by decide +kernel
set_option maxRecDepth 100000 in
theorem k_X3_allSeeds : ax_ck 3 1 cX3_allSeeds L_X3_allSeeds L_X3_allSeeds = true := by decide +kernel
set_option maxRecDepth 100000 in
theorem k_X3_seedsBut : ax_ck 3 1 cX3_seedsBut L_X3_seedsBut L_X3_seedsBut = true := by decide +kernel
set_option maxRecDepth 100000 in
theorem k_X6_price : ax_ck 6 1 cX6_price L_X6_price L_X6_price = true := by decide +kernel
set_option maxRecDepth 100000 in
theorem k_X3_enoughOf : ax_ck 3 1 cX3_enoughOf L_X3_enoughOf L_X3_enoughOf = true := by decide +kernel
set_option maxRecDepth 100000 in
theorem k_X6_isKind : ax_ck 6 2 cX6_isKind L_X6_isKind L_X6_isKind = true := by decide +kernel
set_option maxRecDepth 100000 in
theorem k_X6_span : ax_ck 6 1 cX6_span L_X6_span L_X6_span = true := by decide +kernel
set_option maxRecDepth 100000 in
theorem k_X6_zone : ax_ck 6 3 cX6_zone L_X6_zone L_X6_zone = true := by decide +kernel
set_option maxRecDepth 100000 in
theorem k_X3_near : ax_ck 3 1 cX3_near L_X3_near L_X3_near = true := by decide +kernel
set_option maxRecDepth 100000 in
theorem k_X3_shownBy : ax_ck 3 1 cX3_shownBy L_X3_shownBy L_X3_shownBy = true := by decide +kernel
set_option maxRecDepth 100000 in
theorem k_X3_shown : ax_ck 3 1 cX3_shown L_X3_shown L_X3_shown = true := by decide +kernel
set_option maxRecDepth 100000 in
theorem k_X3_showers : ax_ck 3 1 cX3_showers L_X3_showers L_X3_showers = true := by decide +kernel
set_option maxRecDepth 100000 in
theorem k_X3_quietAmong : ax_ck 3 3 cX3_quietAmong L_X3_quietAmong L_X3_quietAmong = true := by decide +kernel
set_option maxRecDepth 100000 in
theorem k_X3_quietFor : ax_ck 3 3 cX3_quietFor L_X3_quietFor L_X3_quietFor = true := by decide +kernel
set_option maxRecDepth 100000 in
theorem k_X3_dueOf : ax_ck 3 1 cX3_dueOf L_X3_dueOf L_X3_dueOf = true := by decide +kernel
set_option maxRecDepth 100000 in
theorem k_X3_allDueOf : ax_ck 3 1 cX3_allDueOf L_X3_allDueOf L_X3_allDueOf = true := by decide +kernel
set_option maxRecDepth 100000 in
theorem k_X3_isNearRank : ax_ck 3 2 cX3_isNearRank L_X3_isNearRank L_X3_isNearRank = true := by decide +kernel
set_option maxRecDepth 100000 in
theorem k_X6_isTelltale : ax_ck 6 2 cX6_isTelltale L_X6_isTelltale L_X6_isTelltale = true := by decide +kernel
set_option maxRecDepth 100000 in
theorem k_X3_telltales : ax_ck 3 1 cX3_telltales L_X3_telltales L_X3_telltales = true := by decide +kernel
set_option maxRecDepth 100000 in
theorem k_X3_mayOwe : ax_ck 3 2 cX3_mayOwe L_X3_mayOwe L_X3_mayOwe = true := by decide +kernel
set_option maxRecDepth 100000 in
theorem k_X3_surelyOwes : ax_ck 3 2 cX3_surelyOwes L_X3_surelyOwes L_X3_surelyOwes = true := by decide +kernel
set_option maxRecDepth 100000 in
theorem k_X3_go : ax_ck 3 2 cX3_go L_X3_go L_X3_go = true := by decide +kernel
set_option maxRecDepth 100000 in
theorem k_X3_draw : ax_ck 3 1 cX3_draw L_X3_draw L_X3_draw = true := by decide +kernel
set_option maxRecDepth 100000 in
theorem k_X8_at : ax_ck 8 1 cX8_at L_X8_at L_X8_at = true := by decide +kernel
set_option maxRecDepth 100000 in
theorem k_X4_tokenOf : ax_ck 4 1 cX4_tokenOf L_X4_tokenOf L_X4_tokenOf = true := by decide +kernel
set_option maxRecDepth 100000 in
theorem k_X4_advance : ax_ck 4 0 cX4_advance L_X4_advance L_X4_advance = true := by decide +kernel
set_option maxRecDepth 100000 in
theorem k_X4_isWord : ax_ck 4 2 cX4_isWord L_X4_isWord L_X4_isWord = true := by decide +kernel
set_option maxRecDepth 100000 in
theorem k_X4_readNumber : ax_ck 4 1 cX4_readNumber L_X4_readNumber L_X4_readNumber = true := by decide +kernel
set_option maxRecDepth 100000 in
theorem k_X4_readWall : ax_ck 4 2 cX4_readWall L_X4_readWall L_X4_readWall = true := by decide +kernel
set_option maxRecDepth 100000 in
theorem k_X4_readOpen : ax_ck 4 2 cX4_readOpen L_X4_readOpen L_X4_readOpen = true := by decide +kernel
set_option maxRecDepth 100000 in
theorem k_X4_readFloor : ax_ck 4 1 cX4_readFloor L_X4_readFloor L_X4_readFloor = true := by decide +kernel
set_option maxRecDepth 100000 in
theorem k_X4_readPerson : ax_ck 4 2 cX4_readPerson L_X4_readPerson L_X4_readPerson = true := by decide +kernel
set_option maxRecDepth 100000 in
theorem k_X4_readOwes : ax_ck 4 2 cX4_readOwes L_X4_readOwes L_X4_readOwes = true := by decide +kernel
set_option maxRecDepth 100000 in
theorem k_X4_readSeed : ax_ck 4 2 cX4_readSeed L_X4_readSeed L_X4_readSeed = true := by decide +kernel
set_option maxRecDepth 100000 in
theorem k_X4_readGo : ax_ck 4 2 cX4_readGo L_X4_readGo L_X4_readGo = true := by decide +kernel
set_option maxRecDepth 100000 in
theorem k_X4_readStatement : ax_ck 4 2 cX4_readStatement L_X4_readStatement L_X4_readStatement = true := by decide +kernel
set_option maxRecDepth 100000 in
theorem k_X4_readAll : ax_ck 4 1 cX4_readAll L_X4_readAll L_X4_readAll = true := by decide +kernel
set_option maxRecDepth 100000 in
theorem k_X5_closes : ax_ck 5 2 cX5_closes L_X5_closes L_X5_closes = true := by decide +kernel
set_option maxRecDepth 100000 in
theorem k_X5_find : ax_ck 5 1 cX5_find L_X5_find L_X5_find = true := by decide +kernel
set_option maxRecDepth 100000 in
theorem k_X6_isOf : ax_ck 6 2 cX6_isOf L_X6_isOf L_X6_isOf = true := by decide +kernel
set_option maxRecDepth 100000 in
theorem k_X7_isSort : ax_ck 7 2 cX7_isSort L_X7_isSort L_X7_isSort = true := by decide +kernel
set_option maxRecDepth 100000 in
theorem k_X7_clear : ax_ck 7 0 cX7_clear L_X7_clear L_X7_clear = true := by decide +kernel
set_option maxRecDepth 100000 in
theorem k_X7_takeSeed : ax_ck 7 0 cX7_takeSeed L_X7_takeSeed L_X7_takeSeed = true := by decide +kernel
set_option maxRecDepth 100000 in
theorem k_X7_takeRow : ax_ck 7 0 cX7_takeRow L_X7_takeRow L_X7_takeRow = true := by decide +kernel
set_option maxRecDepth 100000 in
theorem k_X7_isEmpty : ax_ck 7 2 cX7_isEmpty L_X7_isEmpty L_X7_isEmpty = true := by decide +kernel
set_option maxRecDepth 100000 in
theorem k_X7_holdsSeed : ax_ck 7 2 cX7_holdsSeed L_X7_holdsSeed L_X7_holdsSeed = true := by decide +kernel
set_option maxRecDepth 100000 in
theorem k_X7_seedNumber : ax_ck 7 1 cX7_seedNumber L_X7_seedNumber L_X7_seedNumber = true := by decide +kernel
set_option maxRecDepth 100000 in
theorem k_X7_noRow : ax_ck 7 1 cX7_noRow L_X7_noRow L_X7_noRow = true := by decide +kernel
set_option maxRecDepth 100000 in
theorem k_X7_hasElement : ax_ck 7 2 cX7_hasElement L_X7_hasElement L_X7_hasElement = true := by decide +kernel
set_option maxRecDepth 100000 in
theorem k_X7_hasElements : ax_ck 7 2 cX7_hasElements L_X7_hasElements L_X7_hasElements = true := by decide +kernel
set_option maxRecDepth 100000 in
theorem k_X7_fit : ax_ck 7 3 cX7_fit L_X7_fit L_X7_fit = true := by decide +kernel
set_option maxRecDepth 100000 in
theorem k_X7_put : ax_ck 7 0 cX7_put L_X7_put L_X7_put = true := by decide +kernel
set_option maxRecDepth 100000 in
theorem k_X7_cellAt : ax_ck 7 1 cX7_cellAt L_X7_cellAt L_X7_cellAt = true := by decide +kernel
set_option maxRecDepth 100000 in
theorem k_X7_areCells : ax_ck 7 2 cX7_areCells L_X7_areCells L_X7_areCells = true := by decide +kernel
set_option maxRecDepth 100000 in
theorem k_X7_cellBits : ax_ck 7 3 cX7_cellBits L_X7_cellBits L_X7_cellBits = true := by decide +kernel
set_option maxRecDepth 100000 in
theorem k_X8_isFull : ax_ck 8 2 cX8_isFull L_X8_isFull L_X8_isFull = true := by decide +kernel
set_option maxRecDepth 100000 in
theorem k_X8_add : ax_ck 8 0 cX8_add L_X8_add L_X8_add = true := by decide +kernel
set_option maxRecDepth 100000 in
theorem k_X9_find : ax_ck 9 1 cX9_find L_X9_find L_X9_find = true := by decide +kernel
set_option maxRecDepth 100000 in
theorem k_X9_cellOf : ax_ck 9 1 cX9_cellOf L_X9_cellOf L_X9_cellOf = true := by decide +kernel
set_option maxRecDepth 100000 in
theorem k_X9_flood : ax_ck 9 3 cX9_flood L_X9_flood L_X9_flood = true := by decide +kernel
set_option maxRecDepth 100000 in
theorem k_X10_isShelf : ax_ck 10 2 cX10_isShelf L_X10_isShelf L_X10_isShelf = true := by decide +kernel
set_option maxRecDepth 100000 in
theorem k_X10_refuse : ax_ck 10 1 cX10_refuse L_X10_refuse L_X10_refuse = true := by decide +kernel
set_option maxRecDepth 100000 in
theorem k_X10_row : ax_ck 10 1 cX10_row L_X10_row L_X10_row = true := by decide +kernel
set_option maxRecDepth 100000 in
theorem k_X10_set : ax_ck 10 1 cX10_set L_X10_set L_X10_set = true := by decide +kernel
set_option maxRecDepth 100000 in
theorem k_X10_copy : ax_ck 10 1 cX10_copy L_X10_copy L_X10_copy = true := by decide +kernel
set_option maxRecDepth 100000 in
theorem k_X10_element : ax_ck 10 3 cX10_element L_X10_element L_X10_element = true := by decide +kernel
set_option maxRecDepth 100000 in
theorem k_X10_holds : ax_ck 10 1 cX10_holds L_X10_holds L_X10_holds = true := by decide +kernel
set_option maxRecDepth 100000 in
theorem k_X10_show : ax_ck 10 1 cX10_show L_X10_show L_X10_show = true := by decide +kernel
set_option maxRecDepth 100000 in
theorem k_X10_saysAs : ax_ck 10 1 cX10_saysAs L_X10_saysAs L_X10_saysAs = true := by decide +kernel
set_option maxRecDepth 100000 in
theorem k_X10_says : ax_ck 10 1 cX10_says L_X10_says L_X10_says = true := by decide +kernel
set_option maxRecDepth 100000 in
theorem k_X10_wall : ax_ck 10 1 cX10_wall L_X10_wall L_X10_wall = true := by decide +kernel
set_option maxRecDepth 100000 in
theorem k_X10_person : ax_ck 10 1 cX10_person L_X10_person L_X10_person = true := by decide +kernel
set_option maxRecDepth 100000 in
theorem k_X10_sow : ax_ck 10 1 cX10_sow L_X10_sow L_X10_sow = true := by decide +kernel
set_option maxRecDepth 100000 in
theorem k_X10_isPair : ax_ck 10 2 cX10_isPair L_X10_isPair L_X10_isPair = true := by decide +kernel
set_option maxRecDepth 100000 in
theorem k_X10_owes : ax_ck 10 1 cX10_owes L_X10_owes L_X10_owes = true := by decide +kernel
set_option maxRecDepth 100000 in
theorem k_X10_feed : ax_ck 10 1 cX10_feed L_X10_feed L_X10_feed = true := by decide +kernel
set_option maxRecDepth 100000 in
theorem k_X10_wipe : ax_ck 10 1 cX10_wipe L_X10_wipe L_X10_wipe = true := by decide +kernel
set_option maxRecDepth 100000 in
theorem k_X10_garden : ax_ck 10 1 cX10_garden L_X10_garden L_X10_garden = true := by decide +kernel
set_option maxRecDepth 100000 in
theorem k_X10_seedOf : ax_ck 10 1 cX10_seedOf L_X10_seedOf L_X10_seedOf = true := by decide +kernel
set_option maxRecDepth 100000 in
theorem k_J6_bitCount_0f7a4 : ax_ck 12 1 cJ6_bitCount_0f7a4 L_J6_bitCount_0f7a4 L_J6_bitCount_0f7a4 = true := by decide +kernel
set_option maxRecDepth 100000 in
theorem k_X10_personOf : ax_ck 10 1 cX10_personOf L_X10_personOf L_X10_personOf = true := by decide +kernel
set_option maxRecDepth 100000 in
theorem k_X10_debt : ax_ck 10 1 cX10_debt L_X10_debt L_X10_debt = true := by decide +kernel
set_option maxRecDepth 100000 in
theorem k_X10_isWall : ax_ck 10 1 cX10_isWall L_X10_isWall L_X10_isWall = true := by decide +kernel
set_option maxRecDepth 100000 in
theorem k_X10_up : ax_ck 10 1 cX10_up L_X10_up L_X10_up = true := by decide +kernel
set_option maxRecDepth 100000 in
theorem k_X10_by : ax_ck 10 1 cX10_by L_X10_by L_X10_by = true := by decide +kernel
set_option maxRecDepth 100000 in
theorem k_X10_quiet : ax_ck 10 1 cX10_quiet L_X10_quiet L_X10_quiet = true := by decide +kernel
set_option maxRecDepth 100000 in
theorem k_X10_way : ax_ck 10 1 cX10_way L_X10_way L_X10_way = true := by decide +kernel
set_option maxRecDepth 100000 in
theorem k_X10_hasWay : ax_ck 10 2 cX10_hasWay L_X10_hasWay L_X10_hasWay = true := by decide +kernel
set_option maxRecDepth 100000 in
theorem k_X10_bar : ax_ck 10 1 cX10_bar L_X10_bar L_X10_bar = true := by decide +kernel
set_option maxRecDepth 100000 in
theorem k_X10_reach : ax_ck 10 1 cX10_reach L_X10_reach L_X10_reach = true := by decide +kernel
set_option maxRecDepth 100000 in
theorem k_X10_loud : ax_ck 10 1 cX10_loud L_X10_loud L_X10_loud = true := by decide +kernel
set_option maxRecDepth 100000 in
theorem k_X10_together : ax_ck 10 1 cX10_together L_X10_together L_X10_together = true := by decide +kernel
set_option maxRecDepth 100000 in
theorem k_X10_calm : ax_ck 10 1 cX10_calm L_X10_calm L_X10_calm = true := by decide +kernel
set_option maxRecDepth 100000 in
theorem k_X10_idle : ax_ck 10 1 cX10_idle L_X10_idle L_X10_idle = true := by decide +kernel
set_option maxRecDepth 100000 in
theorem k_X10_worst : ax_ck 10 1 cX10_worst L_X10_worst L_X10_worst = true := by decide +kernel
set_option maxRecDepth 100000 in
theorem k_X10_chain : ax_ck 10 1 cX10_chain L_X10_chain L_X10_chain = true := by decide +kernel
set_option maxRecDepth 100000 in
theorem k_X10_poorest : ax_ck 10 1 cX10_poorest L_X10_poorest L_X10_poorest = true := by decide +kernel
set_option maxRecDepth 100000 in
theorem k_X10_due : ax_ck 10 1 cX10_due L_X10_due L_X10_due = true := by decide +kernel
set_option maxRecDepth 100000 in
theorem k_X10_bare : ax_ck 10 1 cX10_bare L_X10_bare L_X10_bare = true := by decide +kernel
set_option maxRecDepth 100000 in
theorem k_X10_net : ax_ck 10 1 cX10_net L_X10_net L_X10_net = true := by decide +kernel
set_option maxRecDepth 100000 in
theorem k_X10_mutual : ax_ck 10 1 cX10_mutual L_X10_mutual L_X10_mutual = true := by decide +kernel
set_option maxRecDepth 100000 in
theorem k_X10_ring : ax_ck 10 1 cX10_ring L_X10_ring L_X10_ring = true := by decide +kernel
set_option maxRecDepth 100000 in
theorem k_X10_guess : ax_ck 10 1 cX10_guess L_X10_guess L_X10_guess = true := by decide +kernel
set_option maxRecDepth 100000 in
theorem k_X10_noTold : ax_ck 10 1 cX10_noTold L_X10_noTold L_X10_noTold = true := by decide +kernel
set_option maxRecDepth 100000 in
theorem k_X10_tells : ax_ck 10 1 cX10_tells L_X10_tells L_X10_tells = true := by decide +kernel
set_option maxRecDepth 100000 in
theorem k_X10_noWalk : ax_ck 10 1 cX10_noWalk L_X10_noWalk L_X10_noWalk = true := by decide +kernel
set_option maxRecDepth 100000 in
theorem k_X10_wrongOf : ax_ck 10 1 cX10_wrongOf L_X10_wrongOf L_X10_wrongOf = true := by decide +kernel
set_option maxRecDepth 100000 in
theorem k_X10_judge : ax_ck 10 1 cX10_judge L_X10_judge L_X10_judge = true := by decide +kernel
set_option maxRecDepth 100000 in
theorem k_X10_noTrueWalk : ax_ck 10 1 cX10_noTrueWalk L_X10_noTrueWalk L_X10_noTrueWalk = true := by decide +kernel
set_option maxRecDepth 100000 in
theorem k_X10_seen : ax_ck 10 1 cX10_seen L_X10_seen L_X10_seen = true := by decide +kernel
set_option maxRecDepth 100000 in
theorem k_X10_walk : ax_ck 10 1 cX10_walk L_X10_walk L_X10_walk = true := by decide +kernel
set_option maxRecDepth 100000 in
theorem k_X10_step : ax_ck 10 1 cX10_step L_X10_step L_X10_step = true := by decide +kernel
set_option maxRecDepth 100000 in
theorem k_X10_pay : ax_ck 10 1 cX10_pay L_X10_pay L_X10_pay = true := by decide +kernel
set_option maxRecDepth 100000 in
theorem k_X10_strike : ax_ck 10 1 cX10_strike L_X10_strike L_X10_strike = true := by decide +kernel
set_option maxRecDepth 100000 in
theorem k_X10_countShowing : ax_ck 10 1 cX10_countShowing L_X10_countShowing L_X10_countShowing = true := by decide +kernel
set_option maxRecDepth 100000 in
theorem k_X10_days : ax_ck 10 1 cX10_days L_X10_days L_X10_days = true := by decide +kernel
set_option maxRecDepth 100000 in
theorem k_X10_dropLostSeeds : ax_ck 10 0 cX10_dropLostSeeds L_X10_dropLostSeeds L_X10_dropLostSeeds = true := by decide +kernel
set_option maxRecDepth 100000 in
theorem k_X10_weed : ax_ck 10 1 cX10_weed L_X10_weed L_X10_weed = true := by decide +kernel
set_option maxRecDepth 100000 in
theorem k_X10_seed : ax_ck 10 1 cX10_seed L_X10_seed L_X10_seed = true := by decide +kernel
set_option maxRecDepth 100000 in
theorem k_X10_image : ax_ck 10 1 cX10_image L_X10_image L_X10_image = true := by decide +kernel
set_option maxRecDepth 100000 in
theorem k_X10_back : ax_ck 10 1 cX10_back L_X10_back L_X10_back = true := by decide +kernel
set_option maxRecDepth 100000 in
theorem k_X10_fullShelves : ax_ck 10 1 cX10_fullShelves L_X10_fullShelves L_X10_fullShelves = true := by decide +kernel
set_option maxRecDepth 100000 in
theorem k_X10_status : ax_ck 10 1 cX10_status L_X10_status L_X10_status = true := by decide +kernel
set_option maxRecDepth 100000 in
theorem k_X11_no : ax_ck 11 1 cX11_no L_X11_no L_X11_no = true := by decide +kernel
set_option maxRecDepth 100000 in
theorem k_X11_within : ax_ck 11 2 cX11_within L_X11_within L_X11_within = true := by decide +kernel
set_option maxRecDepth 100000 in
theorem k_X11_isCell : ax_ck 11 2 cX11_isCell L_X11_isCell L_X11_isCell = true := by decide +kernel
set_option maxRecDepth 100000 in
theorem k_X11_isOne : ax_ck 11 2 cX11_isOne L_X11_isOne L_X11_isOne = true := by decide +kernel
set_option maxRecDepth 100000 in
theorem k_X11_isSeed : ax_ck 11 2 cX11_isSeed L_X11_isSeed L_X11_isSeed = true := by decide +kernel
set_option maxRecDepth 100000 in
theorem k_X11_isShelf : ax_ck 11 2 cX11_isShelf L_X11_isShelf L_X11_isShelf = true := by decide +kernel
set_option maxRecDepth 100000 in
theorem k_X11_isRow : ax_ck 11 2 cX11_isRow L_X11_isRow L_X11_isRow = true := by decide +kernel
set_option maxRecDepth 100000 in
theorem k_X11_areTwo : ax_ck 11 2 cX11_areTwo L_X11_areTwo L_X11_areTwo = true := by decide +kernel
set_option maxRecDepth 100000 in
theorem k_X11_row : ax_ck 11 1 cX11_row L_X11_row L_X11_row = true := by decide +kernel
set_option maxRecDepth 100000 in
theorem k_X11_noRow : ax_ck 11 1 cX11_noRow L_X11_noRow L_X11_noRow = true := by decide +kernel
set_option maxRecDepth 100000 in
theorem k_X11_kept : ax_ck 11 3 cX11_kept L_X11_kept L_X11_kept = true := by decide +kernel
set_option maxRecDepth 100000 in
theorem k_X11_set : ax_ck 11 1 cX11_set L_X11_set L_X11_set = true := by decide +kernel
set_option maxRecDepth 100000 in
theorem k_X11_copy : ax_ck 11 1 cX11_copy L_X11_copy L_X11_copy = true := by decide +kernel
set_option maxRecDepth 100000 in
theorem k_X11_element : ax_ck 11 3 cX11_element L_X11_element L_X11_element = true := by decide +kernel
set_option maxRecDepth 100000 in
theorem k_X11_holds : ax_ck 11 1 cX11_holds L_X11_holds L_X11_holds = true := by decide +kernel
set_option maxRecDepth 100000 in
theorem k_X11_show : ax_ck 11 1 cX11_show L_X11_show L_X11_show = true := by decide +kernel
set_option maxRecDepth 100000 in
theorem k_X11_isUnder : ax_ck 11 2 cX11_isUnder L_X11_isUnder L_X11_isUnder = true := by decide +kernel
set_option maxRecDepth 100000 in
theorem k_X11_reachOf : ax_ck 11 1 cX11_reachOf L_X11_reachOf L_X11_reachOf = true := by decide +kernel
set_option maxRecDepth 100000 in
theorem k_X11_allOwed : ax_ck 11 1 cX11_allOwed L_X11_allOwed L_X11_allOwed = true := by decide +kernel
set_option maxRecDepth 100000 in
theorem k_X11_owing : ax_ck 11 1 cX11_owing L_X11_owing L_X11_owing = true := by decide +kernel
set_option maxRecDepth 100000 in
theorem k_X11_takes : ax_ck 11 1 cX11_takes L_X11_takes L_X11_takes = true := by decide +kernel
set_option maxRecDepth 100000 in
theorem k_X11_says : ax_ck 11 1 cX11_says L_X11_says L_X11_says = true := by decide +kernel
set_option maxRecDepth 100000 in
theorem k_X11_somebodyAt : ax_ck 11 2 cX11_somebodyAt L_X11_somebodyAt L_X11_somebodyAt = true := by decide +kernel
set_option maxRecDepth 100000 in
theorem k_X11_wall : ax_ck 11 1 cX11_wall L_X11_wall L_X11_wall = true := by decide +kernel
set_option maxRecDepth 100000 in
theorem k_X11_newOne : ax_ck 11 1 cX11_newOne L_X11_newOne L_X11_newOne = true := by decide +kernel
set_option maxRecDepth 100000 in
theorem k_X11_person : ax_ck 11 1 cX11_person L_X11_person L_X11_person = true := by decide +kernel
set_option maxRecDepth 100000 in
theorem k_X11_newSeed : ax_ck 11 1 cX11_newSeed L_X11_newSeed L_X11_newSeed = true := by decide +kernel
set_option maxRecDepth 100000 in
theorem k_X11_sow : ax_ck 11 1 cX11_sow L_X11_sow L_X11_sow = true := by decide +kernel
set_option maxRecDepth 100000 in
theorem k_X11_owes : ax_ck 11 1 cX11_owes L_X11_owes L_X11_owes = true := by decide +kernel
set_option maxRecDepth 100000 in
theorem k_X11_feed : ax_ck 11 1 cX11_feed L_X11_feed L_X11_feed = true := by decide +kernel
set_option maxRecDepth 100000 in
theorem k_X11_wipe : ax_ck 11 1 cX11_wipe L_X11_wipe L_X11_wipe = true := by decide +kernel
set_option maxRecDepth 100000 in
theorem k_X11_isLetter : ax_ck 11 2 cX11_isLetter L_X11_isLetter L_X11_isLetter = true := by decide +kernel
set_option maxRecDepth 100000 in
theorem k_X11_isDigit : ax_ck 11 2 cX11_isDigit L_X11_isDigit L_X11_isDigit = true := by decide +kernel
set_option maxRecDepth 100000 in
theorem k_X11_next : ax_ck 11 0 cX11_next L_X11_next L_X11_next = true := by decide +kernel
set_option maxRecDepth 100000 in
theorem k_X11_isWord : ax_ck 11 2 cX11_isWord L_X11_isWord L_X11_isWord = true := by decide +kernel
set_option maxRecDepth 100000 in
theorem k_X11_number : ax_ck 11 1 cX11_number L_X11_number L_X11_number = true := by decide +kernel
set_option maxRecDepth 100000 in
theorem k_X11_statement : ax_ck 11 2 cX11_statement L_X11_statement L_X11_statement = true := by decide +kernel
set_option maxRecDepth 100000 in
theorem k_X11_keep : ax_ck 11 0 cX11_keep L_X11_keep L_X11_keep = true := by decide +kernel
set_option maxRecDepth 100000 in
theorem k_X11_again : ax_ck 11 0 cX11_again L_X11_again L_X11_again = true := by decide +kernel
set_option maxRecDepth 100000 in
theorem k_X11_garden : ax_ck 11 1 cX11_garden L_X11_garden L_X11_garden = true := by decide +kernel
set_option maxRecDepth 100000 in
theorem k_X11_far : ax_ck 11 1 cX11_far L_X11_far L_X11_far = true := by decide +kernel
set_option maxRecDepth 100000 in
theorem k_X11_owesEnough : ax_ck 11 2 cX11_owesEnough L_X11_owesEnough L_X11_owesEnough = true := by decide +kernel
set_option maxRecDepth 100000 in
theorem k_X11_isUp : ax_ck 11 2 cX11_isUp L_X11_isUp L_X11_isUp = true := by decide +kernel
set_option maxRecDepth 100000 in
theorem k_X11_byOf : ax_ck 11 1 cX11_byOf L_X11_byOf L_X11_byOf = true := by decide +kernel
set_option maxRecDepth 100000 in
theorem k_X11_upOf : ax_ck 11 1 cX11_upOf L_X11_upOf L_X11_upOf = true := by decide +kernel
set_option maxRecDepth 100000 in
theorem k_X11_seedOf : ax_ck 11 1 cX11_seedOf L_X11_seedOf L_X11_seedOf = true := by decide +kernel
set_option maxRecDepth 100000 in
theorem k_X11_owedTo : ax_ck 11 1 cX11_owedTo L_X11_owedTo L_X11_owedTo = true := by decide +kernel
set_option maxRecDepth 100000 in
theorem k_X11_personOf : ax_ck 11 1 cX11_personOf L_X11_personOf L_X11_personOf = true := by decide +kernel
set_option maxRecDepth 100000 in
theorem k_X11_debt : ax_ck 11 1 cX11_debt L_X11_debt L_X11_debt = true := by decide +kernel
set_option maxRecDepth 100000 in
theorem k_X11_isWall : ax_ck 11 1 cX11_isWall L_X11_isWall L_X11_isWall = true := by decide +kernel
set_option maxRecDepth 100000 in
theorem k_X11_up : ax_ck 11 1 cX11_up L_X11_up L_X11_up = true := by decide +kernel
set_option maxRecDepth 100000 in
theorem k_X11_by : ax_ck 11 1 cX11_by L_X11_by L_X11_by = true := by decide +kernel
set_option maxRecDepth 100000 in
theorem k_X11_isQuiet : ax_ck 11 2 cX11_isQuiet L_X11_isQuiet L_X11_isQuiet = true := by decide +kernel
set_option maxRecDepth 100000 in
theorem k_X11_quiet : ax_ck 11 1 cX11_quiet L_X11_quiet L_X11_quiet = true := by decide +kernel
set_option maxRecDepth 100000 in
theorem k_X11_beside : ax_ck 11 1 cX11_beside L_X11_beside L_X11_beside = true := by decide +kernel
set_option maxRecDepth 100000 in
theorem k_X11_walks : ax_ck 11 0 cX11_walks L_X11_walks L_X11_walks = true := by decide +kernel
set_option maxRecDepth 100000 in
theorem k_X11_walksBack : ax_ck 11 0 cX11_walksBack L_X11_walksBack L_X11_walksBack = true := by decide +kernel
set_option maxRecDepth 100000 in
theorem k_X11_wayOf : ax_ck 11 1 cX11_wayOf L_X11_wayOf L_X11_wayOf = true := by decide +kernel
set_option maxRecDepth 100000 in
theorem k_X11_way : ax_ck 11 1 cX11_way L_X11_way L_X11_way = true := by decide +kernel
set_option maxRecDepth 100000 in
theorem k_X11_bar : ax_ck 11 1 cX11_bar L_X11_bar L_X11_bar = true := by decide +kernel
set_option maxRecDepth 100000 in
theorem k_X11_reach : ax_ck 11 1 cX11_reach L_X11_reach L_X11_reach = true := by decide +kernel
set_option maxRecDepth 100000 in
theorem k_X11_loud : ax_ck 11 1 cX11_loud L_X11_loud L_X11_loud = true := by decide +kernel
set_option maxRecDepth 100000 in
theorem k_X11_together : ax_ck 11 1 cX11_together L_X11_together L_X11_together = true := by decide +kernel
set_option maxRecDepth 100000 in
theorem k_X11_calm : ax_ck 11 1 cX11_calm L_X11_calm L_X11_calm = true := by decide +kernel
set_option maxRecDepth 100000 in
theorem k_X11_idle : ax_ck 11 1 cX11_idle L_X11_idle L_X11_idle = true := by decide +kernel
set_option maxRecDepth 100000 in
theorem k_X11_worst : ax_ck 11 1 cX11_worst L_X11_worst L_X11_worst = true := by decide +kernel
set_option maxRecDepth 100000 in
theorem k_X11_chain : ax_ck 11 1 cX11_chain L_X11_chain L_X11_chain = true := by decide +kernel
set_option maxRecDepth 100000 in
theorem k_X11_netOf : ax_ck 11 1 cX11_netOf L_X11_netOf L_X11_netOf = true := by decide +kernel
set_option maxRecDepth 100000 in
theorem k_X11_poorest : ax_ck 11 1 cX11_poorest L_X11_poorest L_X11_poorest = true := by decide +kernel
set_option maxRecDepth 100000 in
theorem k_X11_dueOf : ax_ck 11 1 cX11_dueOf L_X11_dueOf L_X11_dueOf = true := by decide +kernel
set_option maxRecDepth 100000 in
theorem k_X11_due : ax_ck 11 1 cX11_due L_X11_due L_X11_due = true := by decide +kernel
set_option maxRecDepth 100000 in
theorem k_X11_bare : ax_ck 11 1 cX11_bare L_X11_bare L_X11_bare = true := by decide +kernel
set_option maxRecDepth 100000 in
theorem k_X11_net : ax_ck 11 1 cX11_net L_X11_net L_X11_net = true := by decide +kernel
set_option maxRecDepth 100000 in
theorem k_X11_mutual : ax_ck 11 1 cX11_mutual L_X11_mutual L_X11_mutual = true := by decide +kernel
set_option maxRecDepth 100000 in
theorem k_X11_rings : ax_ck 11 2 cX11_rings L_X11_rings L_X11_rings = true := by decide +kernel
set_option maxRecDepth 100000 in
theorem k_X11_ring : ax_ck 11 1 cX11_ring L_X11_ring L_X11_ring = true := by decide +kernel
set_option maxRecDepth 100000 in
theorem k_X11_guess : ax_ck 11 1 cX11_guess L_X11_guess L_X11_guess = true := by decide +kernel
set_option maxRecDepth 100000 in
theorem k_X11_toldAt : ax_ck 11 1 cX11_toldAt L_X11_toldAt L_X11_toldAt = true := by decide +kernel
set_option maxRecDepth 100000 in
theorem k_X11_tellsAll : ax_ck 11 2 cX11_tellsAll L_X11_tellsAll L_X11_tellsAll = true := by decide +kernel
set_option maxRecDepth 100000 in
theorem k_X11_fewest : ax_ck 11 1 cX11_fewest L_X11_fewest L_X11_fewest = true := by decide +kernel
set_option maxRecDepth 100000 in
theorem k_X11_noRow_ : ax_ck 11 1 cX11_noRow_ L_X11_noRow_ L_X11_noRow_ = true := by decide +kernel
set_option maxRecDepth 100000 in
theorem k_X11_tells : ax_ck 11 1 cX11_tells L_X11_tells L_X11_tells = true := by decide +kernel
set_option maxRecDepth 100000 in
theorem k_X11_wrong : ax_ck 11 1 cX11_wrong L_X11_wrong L_X11_wrong = true := by decide +kernel
set_option maxRecDepth 100000 in
theorem k_X11_noWalk : ax_ck 11 1 cX11_noWalk L_X11_noWalk L_X11_noWalk = true := by decide +kernel
set_option maxRecDepth 100000 in
theorem k_X11_judge : ax_ck 11 1 cX11_judge L_X11_judge L_X11_judge = true := by decide +kernel
set_option maxRecDepth 100000 in
theorem k_X11_seen : ax_ck 11 1 cX11_seen L_X11_seen L_X11_seen = true := by decide +kernel
set_option maxRecDepth 100000 in
theorem k_X11_walk : ax_ck 11 1 cX11_walk L_X11_walk L_X11_walk = true := by decide +kernel
set_option maxRecDepth 100000 in
theorem k_X11_goes : ax_ck 11 2 cX11_goes L_X11_goes L_X11_goes = true := by decide +kernel
set_option maxRecDepth 100000 in
theorem k_X11_step : ax_ck 11 1 cX11_step L_X11_step L_X11_step = true := by decide +kernel
set_option maxRecDepth 100000 in
theorem k_X11_pay : ax_ck 11 1 cX11_pay L_X11_pay L_X11_pay = true := by decide +kernel
set_option maxRecDepth 100000 in
theorem k_X11_strike : ax_ck 11 1 cX11_strike L_X11_strike L_X11_strike = true := by decide +kernel
set_option maxRecDepth 100000 in
theorem k_X11_draw : ax_ck 11 1 cX11_draw L_X11_draw L_X11_draw = true := by decide +kernel
set_option maxRecDepth 100000 in
theorem k_X11_days : ax_ck 11 1 cX11_days L_X11_days L_X11_days = true := by decide +kernel
set_option maxRecDepth 100000 in
theorem k_X11_unshelve : ax_ck 11 0 cX11_unshelve L_X11_unshelve L_X11_unshelve = true := by decide +kernel
set_option maxRecDepth 100000 in
theorem k_X11_weed : ax_ck 11 1 cX11_weed L_X11_weed L_X11_weed = true := by decide +kernel
set_option maxRecDepth 100000 in
theorem k_X11_seed : ax_ck 11 1 cX11_seed L_X11_seed L_X11_seed = true := by decide +kernel
set_option maxRecDepth 100000 in
theorem k_X11_image : ax_ck 11 1 cX11_image L_X11_image L_X11_image = true := by decide +kernel
set_option maxRecDepth 100000 in
theorem k_X11_back : ax_ck 11 1 cX11_back L_X11_back L_X11_back = true := by decide +kernel
set_option maxRecDepth 100000 in
theorem k_X11_status : ax_ck 11 1 cX11_status L_X11_status L_X11_status = true := by decide +kernel
def ax_rtc (r : Option FieldType) : Nat := match r with
  | some .int => 1
  | some .boolean => 2
  | some .long => 3
  | none => 0
  | _ => 9
def ax_gd (r : ax_IR) (q : Nat × List ax_E) : Prop := q.1 = r.2.2.1 ∧ ax_ck r.2.2.2.2.1 (ax_rtc r.2.2.2.1) r.2.1 q.2 q.2 = true ∧ (plainName r.1.cls = true ∧ r.1.cls ≠ "java/lang/invoke/MethodHandle" ∧ r.1.cls ≠ "java/lang/invoke/VarHandle" ∧ (parseMethodDescriptor r.1.desc).map (fun d => d.parameters.length) = some r.2.2.2.2.2.2.1) ∧ r.2.2.1 ≤ 20 ∧ r.1.cls = ax_cn r.2.2.2.2.1 ∧ (r.2.2.2.2.2.1 = false → r.2.2.2.2.2.2.2 ∈ ax_obj ∧ (ax_ct r.2.2.2.2.2.2.2).2.1 = r.1.cls)
def ax_all2 {α β : Type} (P : α → β → Prop) : List α → List β → Prop
  | a :: l, b :: l' => P a b ∧ ax_all2 P l l'
  | _, _ => True
theorem ax_all2_at {α β : Type} {P : α → β → Prop} : ∀ (l : List α) (l2 : List β), ax_all2 P l l2 → ∀ (n : Nat) (a : α) (b : β), ax_nth l n = some a → ax_nth l2 n = some b → P a b
  | [], _, _, n, a, b, h, _ => by simp [ax_nth] at h
  | _ :: _, [], _, n, a, b, _, h => by simp [ax_nth] at h
  | x :: l, y :: l2, hp, 0, a, b, h, h4 => by
    simp only [ax_nth, Option.some.injEq] at h h4
    subst h; subst h4
    exact hp.1
  | x :: l, y :: l2, hp, n + 1, a, b, h, h4 => by
    simp only [ax_nth] at h h4
    exact ax_all2_at l l2 hp.2 n a b h h4
theorem g_X0_isCell : ax_gd r_X0_isCell (1, L_X0_isCell) := ⟨rfl, k_X0_isCell, (by decide +kernel), (by decide), rfl, (fun h => by cases h)⟩
theorem g_X0_bit : ax_gd r_X0_bit (1, L_X0_bit) := ⟨rfl, k_X0_bit, (by decide +kernel), (by decide), rfl, (fun h => by cases h)⟩
theorem g_X0_has : ax_gd r_X0_has (3, L_X0_has) := ⟨rfl, k_X0_has, (by decide +kernel), (by decide), rfl, (fun h => by cases h)⟩
theorem g_J13_bitCount_95d88 : ax_gd r_J13_bitCount_95d88 (2, L_J13_bitCount_95d88) := ⟨rfl, k_J13_bitCount_95d88, (by decide +kernel), (by decide), rfl, (fun h => by cases h)⟩
theorem g_X0_lowest : ax_gd r_X0_lowest (2, L_X0_lowest) := ⟨rfl, k_X0_lowest, (by decide +kernel), (by decide), rfl, (fun h => by cases h)⟩
theorem g_X0_leftAndRight : ax_gd r_X0_leftAndRight (2, L_X0_leftAndRight) := ⟨rfl, k_X0_leftAndRight, (by decide +kernel), (by decide), rfl, (fun h => by cases h)⟩
theorem g_X0_upAndDown : ax_gd r_X0_upAndDown (2, L_X0_upAndDown) := ⟨rfl, k_X0_upAndDown, (by decide +kernel), (by decide), rfl, (fun h => by cases h)⟩
theorem g_X0_beside : ax_gd r_X0_beside (2, L_X0_beside) := ⟨rfl, k_X0_beside, (by decide +kernel), (by decide), rfl, (fun h => by cases h)⟩
theorem g_X0_zone : ax_gd r_X0_zone (5, L_X0_zone) := ⟨rfl, k_X0_zone, (by decide +kernel), (by decide), rfl, (fun h => by cases h)⟩
theorem g_X0_after : ax_gd r_X0_after (6, L_X0_after) := ⟨rfl, k_X0_after, (by decide +kernel), (by decide), rfl, (fun h => by cases h)⟩
theorem g_X1_covers : ax_gd r_X1_covers (9, L_X1_covers) := ⟨rfl, k_X1_covers, (by decide +kernel), (by decide), rfl, (fun h => by cases h)⟩
theorem g_X1_find : ax_gd r_X1_find (4, L_X1_find) := ⟨rfl, k_X1_find, (by decide +kernel), (by decide), rfl, (fun _ => ⟨by decide, rfl⟩)⟩
theorem g_X2_become : ax_gd r_X2_become (2, L_X2_become) := ⟨rfl, k_X2_become, (by decide +kernel), (by decide), rfl, (fun _ => ⟨by decide, rfl⟩)⟩
theorem g_X2_of : ax_gd r_X2_of (3, L_X2_of) := ⟨rfl, k_X2_of, (by decide +kernel), (by decide), rfl, (fun _ => ⟨by decide, rfl⟩)⟩
theorem g_X2_put : ax_gd r_X2_put (4, L_X2_put) := ⟨rfl, k_X2_put, (by decide +kernel), (by decide), rfl, (fun _ => ⟨by decide, rfl⟩)⟩
theorem g_X2_owedBy : ax_gd r_X2_owedBy (4, L_X2_owedBy) := ⟨rfl, k_X2_owedBy, (by decide +kernel), (by decide), rfl, (fun _ => ⟨by decide, rfl⟩)⟩
theorem g_X2_owedTo : ax_gd r_X2_owedTo (4, L_X2_owedTo) := ⟨rfl, k_X2_owedTo, (by decide +kernel), (by decide), rfl, (fun _ => ⟨by decide, rfl⟩)⟩
theorem g_X2_balance : ax_gd r_X2_balance (2, L_X2_balance) := ⟨rfl, k_X2_balance, (by decide +kernel), (by decide), rfl, (fun _ => ⟨by decide, rfl⟩)⟩
theorem g_X2_all : ax_gd r_X2_all (3, L_X2_all) := ⟨rfl, k_X2_all, (by decide +kernel), (by decide), rfl, (fun _ => ⟨by decide, rfl⟩)⟩
theorem g_X2_shared : ax_gd r_X2_shared (4, L_X2_shared) := ⟨rfl, k_X2_shared, (by decide +kernel), (by decide), rfl, (fun _ => ⟨by decide, rfl⟩)⟩
theorem g_X2_cancel : ax_gd r_X2_cancel (4, L_X2_cancel) := ⟨rfl, k_X2_cancel, (by decide +kernel), (by decide), rfl, (fun _ => ⟨by decide, rfl⟩)⟩
theorem g_X2_creditorsOf : ax_gd r_X2_creditorsOf (4, L_X2_creditorsOf) := ⟨rfl, k_X2_creditorsOf, (by decide +kernel), (by decide), rfl, (fun _ => ⟨by decide, rfl⟩)⟩
theorem g_X2_creditorsOfAll : ax_gd r_X2_creditorsOfAll (4, L_X2_creditorsOfAll) := ⟨rfl, k_X2_creditorsOfAll, (by decide +kernel), (by decide), rfl, (fun _ => ⟨by decide, rfl⟩)⟩
theorem g_X2_links : ax_gd r_X2_links (5, L_X2_links) := ⟨rfl, k_X2_links, (by decide +kernel), (by decide), rfl, (fun _ => ⟨by decide, rfl⟩)⟩
theorem g_X6_fill : ax_gd r_X6_fill (5, L_X6_fill) := ⟨rfl, k_X6_fill, (by decide +kernel), (by decide), rfl, (fun _ => ⟨by decide, rfl⟩)⟩
theorem g_X6_become : ax_gd r_X6_become (2, L_X6_become) := ⟨rfl, k_X6_become, (by decide +kernel), (by decide), rfl, (fun _ => ⟨by decide, rfl⟩)⟩
theorem g_X3_become : ax_gd r_X3_become (3, L_X3_become) := ⟨rfl, k_X3_become, (by decide +kernel), (by decide), rfl, (fun _ => ⟨by decide, rfl⟩)⟩
theorem g_X3_isPerson : ax_gd r_X3_isPerson (2, L_X3_isPerson) := ⟨rfl, k_X3_isPerson, (by decide +kernel), (by decide), rfl, (fun _ => ⟨by decide, rfl⟩)⟩
theorem g_X3_isSeed : ax_gd r_X3_isSeed (2, L_X3_isSeed) := ⟨rfl, k_X3_isSeed, (by decide +kernel), (by decide), rfl, (fun _ => ⟨by decide, rfl⟩)⟩
theorem g_X3_hasWall : ax_gd r_X3_hasWall (2, L_X3_hasWall) := ⟨rfl, k_X3_hasWall, (by decide +kernel), (by decide), rfl, (fun _ => ⟨by decide, rfl⟩)⟩
theorem g_X3_putWall : ax_gd r_X3_putWall (3, L_X3_putWall) := ⟨rfl, k_X3_putWall, (by decide +kernel), (by decide), rfl, (fun _ => ⟨by decide, rfl⟩)⟩
theorem g_X3_peopleWithin : ax_gd r_X3_peopleWithin (5, L_X3_peopleWithin) := ⟨rfl, k_X3_peopleWithin, (by decide +kernel), (by decide), rfl, (fun _ => ⟨by decide, rfl⟩)⟩
theorem g_X3_isStoodOn : ax_gd r_X3_isStoodOn (2, L_X3_isStoodOn) := ⟨rfl, k_X3_isStoodOn, (by decide +kernel), (by decide), rfl, (fun _ => ⟨by decide, rfl⟩)⟩
theorem g_X3_addPerson : ax_gd r_X3_addPerson (2, L_X3_addPerson) := ⟨rfl, k_X3_addPerson, (by decide +kernel), (by decide), rfl, (fun _ => ⟨by decide, rfl⟩)⟩
theorem g_X3_addSeed : ax_gd r_X3_addSeed (5, L_X3_addSeed) := ⟨rfl, k_X3_addSeed, (by decide +kernel), (by decide), rfl, (fun _ => ⟨by decide, rfl⟩)⟩
theorem g_X3_debtors : ax_gd r_X3_debtors (3, L_X3_debtors) := ⟨rfl, k_X3_debtors, (by decide +kernel), (by decide), rfl, (fun _ => ⟨by decide, rfl⟩)⟩
theorem g_X3_allSeeds : ax_gd r_X3_allSeeds (1, L_X3_allSeeds) := ⟨rfl, k_X3_allSeeds, (by decide +kernel), (by decide), rfl, (fun _ => ⟨by decide, rfl⟩)⟩
theorem g_X3_seedsBut : ax_gd r_X3_seedsBut (4, L_X3_seedsBut) := ⟨rfl, k_X3_seedsBut, (by decide +kernel), (by decide), rfl, (fun _ => ⟨by decide, rfl⟩)⟩
theorem g_X6_price : ax_gd r_X6_price (1, L_X6_price) := ⟨rfl, k_X6_price, (by decide +kernel), (by decide), rfl, (fun _ => ⟨by decide, rfl⟩)⟩
theorem g_X3_enoughOf : ax_gd r_X3_enoughOf (7, L_X3_enoughOf) := ⟨rfl, k_X3_enoughOf, (by decide +kernel), (by decide), rfl, (fun _ => ⟨by decide, rfl⟩)⟩
theorem g_X6_isKind : ax_gd r_X6_isKind (1, L_X6_isKind) := ⟨rfl, k_X6_isKind, (by decide +kernel), (by decide), rfl, (fun h => by cases h)⟩
theorem g_X6_span : ax_gd r_X6_span (1, L_X6_span) := ⟨rfl, k_X6_span, (by decide +kernel), (by decide), rfl, (fun _ => ⟨by decide, rfl⟩)⟩
theorem g_X6_zone : ax_gd r_X6_zone (1, L_X6_zone) := ⟨rfl, k_X6_zone, (by decide +kernel), (by decide), rfl, (fun _ => ⟨by decide, rfl⟩)⟩
theorem g_X3_near : ax_gd r_X3_near (5, L_X3_near) := ⟨rfl, k_X3_near, (by decide +kernel), (by decide), rfl, (fun _ => ⟨by decide, rfl⟩)⟩
theorem g_X3_shownBy : ax_gd r_X3_shownBy (2, L_X3_shownBy) := ⟨rfl, k_X3_shownBy, (by decide +kernel), (by decide), rfl, (fun _ => ⟨by decide, rfl⟩)⟩
theorem g_X3_shown : ax_gd r_X3_shown (3, L_X3_shown) := ⟨rfl, k_X3_shown, (by decide +kernel), (by decide), rfl, (fun _ => ⟨by decide, rfl⟩)⟩
theorem g_X3_showers : ax_gd r_X3_showers (4, L_X3_showers) := ⟨rfl, k_X3_showers, (by decide +kernel), (by decide), rfl, (fun _ => ⟨by decide, rfl⟩)⟩
theorem g_X3_quietAmong : ax_gd r_X3_quietAmong (7, L_X3_quietAmong) := ⟨rfl, k_X3_quietAmong, (by decide +kernel), (by decide), rfl, (fun _ => ⟨by decide, rfl⟩)⟩
theorem g_X3_quietFor : ax_gd r_X3_quietFor (2, L_X3_quietFor) := ⟨rfl, k_X3_quietFor, (by decide +kernel), (by decide), rfl, (fun _ => ⟨by decide, rfl⟩)⟩
theorem g_X3_dueOf : ax_gd r_X3_dueOf (7, L_X3_dueOf) := ⟨rfl, k_X3_dueOf, (by decide +kernel), (by decide), rfl, (fun _ => ⟨by decide, rfl⟩)⟩
theorem g_X3_allDueOf : ax_gd r_X3_allDueOf (4, L_X3_allDueOf) := ⟨rfl, k_X3_allDueOf, (by decide +kernel), (by decide), rfl, (fun _ => ⟨by decide, rfl⟩)⟩
theorem g_X3_isNearRank : ax_gd r_X3_isNearRank (4, L_X3_isNearRank) := ⟨rfl, k_X3_isNearRank, (by decide +kernel), (by decide), rfl, (fun _ => ⟨by decide, rfl⟩)⟩
theorem g_X6_isTelltale : ax_gd r_X6_isTelltale (1, L_X6_isTelltale) := ⟨rfl, k_X6_isTelltale, (by decide +kernel), (by decide), rfl, (fun _ => ⟨by decide, rfl⟩)⟩
theorem g_X3_telltales : ax_gd r_X3_telltales (5, L_X3_telltales) := ⟨rfl, k_X3_telltales, (by decide +kernel), (by decide), rfl, (fun _ => ⟨by decide, rfl⟩)⟩
theorem g_X3_mayOwe : ax_gd r_X3_mayOwe (3, L_X3_mayOwe) := ⟨rfl, k_X3_mayOwe, (by decide +kernel), (by decide), rfl, (fun _ => ⟨by decide, rfl⟩)⟩
theorem g_X3_surelyOwes : ax_gd r_X3_surelyOwes (6, L_X3_surelyOwes) := ⟨rfl, k_X3_surelyOwes, (by decide +kernel), (by decide), rfl, (fun _ => ⟨by decide, rfl⟩)⟩
theorem g_X3_go : ax_gd r_X3_go (4, L_X3_go) := ⟨rfl, k_X3_go, (by decide +kernel), (by decide), rfl, (fun _ => ⟨by decide, rfl⟩)⟩
theorem g_X3_draw : ax_gd r_X3_draw (2, L_X3_draw) := ⟨rfl, k_X3_draw, (by decide +kernel), (by decide), rfl, (fun _ => ⟨by decide, rfl⟩)⟩
theorem g_X8_at : ax_gd r_X8_at (2, L_X8_at) := ⟨rfl, k_X8_at, (by decide +kernel), (by decide), rfl, (fun _ => ⟨by decide, rfl⟩)⟩
theorem g_X4_tokenOf : ax_gd r_X4_tokenOf (1, L_X4_tokenOf) := ⟨rfl, k_X4_tokenOf, (by decide +kernel), (by decide), rfl, (fun h => by cases h)⟩
theorem g_X4_advance : ax_gd r_X4_advance (1, L_X4_advance) := ⟨rfl, k_X4_advance, (by decide +kernel), (by decide), rfl, (fun _ => ⟨by decide, rfl⟩)⟩
theorem g_X4_isWord : ax_gd r_X4_isWord (3, L_X4_isWord) := ⟨rfl, k_X4_isWord, (by decide +kernel), (by decide), rfl, (fun _ => ⟨by decide, rfl⟩)⟩
theorem g_X4_readNumber : ax_gd r_X4_readNumber (4, L_X4_readNumber) := ⟨rfl, k_X4_readNumber, (by decide +kernel), (by decide), rfl, (fun _ => ⟨by decide, rfl⟩)⟩
theorem g_X4_readWall : ax_gd r_X4_readWall (3, L_X4_readWall) := ⟨rfl, k_X4_readWall, (by decide +kernel), (by decide), rfl, (fun _ => ⟨by decide, rfl⟩)⟩
theorem g_X4_readOpen : ax_gd r_X4_readOpen (3, L_X4_readOpen) := ⟨rfl, k_X4_readOpen, (by decide +kernel), (by decide), rfl, (fun _ => ⟨by decide, rfl⟩)⟩
theorem g_X4_readFloor : ax_gd r_X4_readFloor (3, L_X4_readFloor) := ⟨rfl, k_X4_readFloor, (by decide +kernel), (by decide), rfl, (fun _ => ⟨by decide, rfl⟩)⟩
theorem g_X4_readPerson : ax_gd r_X4_readPerson (3, L_X4_readPerson) := ⟨rfl, k_X4_readPerson, (by decide +kernel), (by decide), rfl, (fun _ => ⟨by decide, rfl⟩)⟩
theorem g_X4_readOwes : ax_gd r_X4_readOwes (5, L_X4_readOwes) := ⟨rfl, k_X4_readOwes, (by decide +kernel), (by decide), rfl, (fun _ => ⟨by decide, rfl⟩)⟩
theorem g_X4_readSeed : ax_gd r_X4_readSeed (6, L_X4_readSeed) := ⟨rfl, k_X4_readSeed, (by decide +kernel), (by decide), rfl, (fun _ => ⟨by decide, rfl⟩)⟩
theorem g_X4_readGo : ax_gd r_X4_readGo (4, L_X4_readGo) := ⟨rfl, k_X4_readGo, (by decide +kernel), (by decide), rfl, (fun _ => ⟨by decide, rfl⟩)⟩
theorem g_X4_readStatement : ax_gd r_X4_readStatement (2, L_X4_readStatement) := ⟨rfl, k_X4_readStatement, (by decide +kernel), (by decide), rfl, (fun _ => ⟨by decide, rfl⟩)⟩
theorem g_X4_readAll : ax_gd r_X4_readAll (3, L_X4_readAll) := ⟨rfl, k_X4_readAll, (by decide +kernel), (by decide), rfl, (fun _ => ⟨by decide, rfl⟩)⟩
theorem g_X5_closes : ax_gd r_X5_closes (7, L_X5_closes) := ⟨rfl, k_X5_closes, (by decide +kernel), (by decide), rfl, (fun h => by cases h)⟩
theorem g_X5_find : ax_gd r_X5_find (4, L_X5_find) := ⟨rfl, k_X5_find, (by decide +kernel), (by decide), rfl, (fun _ => ⟨by decide, rfl⟩)⟩
theorem g_X6_isOf : ax_gd r_X6_isOf (4, L_X6_isOf) := ⟨rfl, k_X6_isOf, (by decide +kernel), (by decide), rfl, (fun _ => ⟨by decide, rfl⟩)⟩
theorem g_X7_isSort : ax_gd r_X7_isSort (1, L_X7_isSort) := ⟨rfl, k_X7_isSort, (by decide +kernel), (by decide), rfl, (fun h => by cases h)⟩
theorem g_X7_clear : ax_gd r_X7_clear (1, L_X7_clear) := ⟨rfl, k_X7_clear, (by decide +kernel), (by decide), rfl, (fun _ => ⟨by decide, rfl⟩)⟩
theorem g_X7_takeSeed : ax_gd r_X7_takeSeed (2, L_X7_takeSeed) := ⟨rfl, k_X7_takeSeed, (by decide +kernel), (by decide), rfl, (fun _ => ⟨by decide, rfl⟩)⟩
theorem g_X7_takeRow : ax_gd r_X7_takeRow (4, L_X7_takeRow) := ⟨rfl, k_X7_takeRow, (by decide +kernel), (by decide), rfl, (fun _ => ⟨by decide, rfl⟩)⟩
theorem g_X7_isEmpty : ax_gd r_X7_isEmpty (1, L_X7_isEmpty) := ⟨rfl, k_X7_isEmpty, (by decide +kernel), (by decide), rfl, (fun _ => ⟨by decide, rfl⟩)⟩
theorem g_X7_holdsSeed : ax_gd r_X7_holdsSeed (1, L_X7_holdsSeed) := ⟨rfl, k_X7_holdsSeed, (by decide +kernel), (by decide), rfl, (fun _ => ⟨by decide, rfl⟩)⟩
theorem g_X7_seedNumber : ax_gd r_X7_seedNumber (1, L_X7_seedNumber) := ⟨rfl, k_X7_seedNumber, (by decide +kernel), (by decide), rfl, (fun _ => ⟨by decide, rfl⟩)⟩
theorem g_X7_noRow : ax_gd r_X7_noRow (1, L_X7_noRow) := ⟨rfl, k_X7_noRow, (by decide +kernel), (by decide), rfl, (fun _ => ⟨by decide, rfl⟩)⟩
theorem g_X7_hasElement : ax_gd r_X7_hasElement (2, L_X7_hasElement) := ⟨rfl, k_X7_hasElement, (by decide +kernel), (by decide), rfl, (fun _ => ⟨by decide, rfl⟩)⟩
theorem g_X7_hasElements : ax_gd r_X7_hasElements (3, L_X7_hasElements) := ⟨rfl, k_X7_hasElements, (by decide +kernel), (by decide), rfl, (fun _ => ⟨by decide, rfl⟩)⟩
theorem g_X7_fit : ax_gd r_X7_fit (3, L_X7_fit) := ⟨rfl, k_X7_fit, (by decide +kernel), (by decide), rfl, (fun _ => ⟨by decide, rfl⟩)⟩
theorem g_X7_put : ax_gd r_X7_put (4, L_X7_put) := ⟨rfl, k_X7_put, (by decide +kernel), (by decide), rfl, (fun _ => ⟨by decide, rfl⟩)⟩
theorem g_X7_cellAt : ax_gd r_X7_cellAt (2, L_X7_cellAt) := ⟨rfl, k_X7_cellAt, (by decide +kernel), (by decide), rfl, (fun _ => ⟨by decide, rfl⟩)⟩
theorem g_X7_areCells : ax_gd r_X7_areCells (3, L_X7_areCells) := ⟨rfl, k_X7_areCells, (by decide +kernel), (by decide), rfl, (fun _ => ⟨by decide, rfl⟩)⟩
theorem g_X7_cellBits : ax_gd r_X7_cellBits (5, L_X7_cellBits) := ⟨rfl, k_X7_cellBits, (by decide +kernel), (by decide), rfl, (fun _ => ⟨by decide, rfl⟩)⟩
theorem g_X8_isFull : ax_gd r_X8_isFull (1, L_X8_isFull) := ⟨rfl, k_X8_isFull, (by decide +kernel), (by decide), rfl, (fun _ => ⟨by decide, rfl⟩)⟩
theorem g_X8_add : ax_gd r_X8_add (2, L_X8_add) := ⟨rfl, k_X8_add, (by decide +kernel), (by decide), rfl, (fun _ => ⟨by decide, rfl⟩)⟩
theorem g_X9_find : ax_gd r_X9_find (8, L_X9_find) := ⟨rfl, k_X9_find, (by decide +kernel), (by decide), rfl, (fun _ => ⟨by decide, rfl⟩)⟩
theorem g_X9_cellOf : ax_gd r_X9_cellOf (6, L_X9_cellOf) := ⟨rfl, k_X9_cellOf, (by decide +kernel), (by decide), rfl, (fun _ => ⟨by decide, rfl⟩)⟩
theorem g_X9_flood : ax_gd r_X9_flood (6, L_X9_flood) := ⟨rfl, k_X9_flood, (by decide +kernel), (by decide), rfl, (fun h => by cases h)⟩
theorem g_X10_isShelf : ax_gd r_X10_isShelf (1, L_X10_isShelf) := ⟨rfl, k_X10_isShelf, (by decide +kernel), (by decide), rfl, (fun h => by cases h)⟩
theorem g_X10_refuse : ax_gd r_X10_refuse (3, L_X10_refuse) := ⟨rfl, k_X10_refuse, (by decide +kernel), (by decide), rfl, (fun _ => ⟨by decide, rfl⟩)⟩
theorem g_X10_row : ax_gd r_X10_row (4, L_X10_row) := ⟨rfl, k_X10_row, (by decide +kernel), (by decide), rfl, (fun _ => ⟨by decide, rfl⟩)⟩
theorem g_X10_set : ax_gd r_X10_set (6, L_X10_set) := ⟨rfl, k_X10_set, (by decide +kernel), (by decide), rfl, (fun _ => ⟨by decide, rfl⟩)⟩
theorem g_X10_copy : ax_gd r_X10_copy (8, L_X10_copy) := ⟨rfl, k_X10_copy, (by decide +kernel), (by decide), rfl, (fun _ => ⟨by decide, rfl⟩)⟩
theorem g_X10_element : ax_gd r_X10_element (3, L_X10_element) := ⟨rfl, k_X10_element, (by decide +kernel), (by decide), rfl, (fun _ => ⟨by decide, rfl⟩)⟩
theorem g_X10_holds : ax_gd r_X10_holds (2, L_X10_holds) := ⟨rfl, k_X10_holds, (by decide +kernel), (by decide), rfl, (fun _ => ⟨by decide, rfl⟩)⟩
theorem g_X10_show : ax_gd r_X10_show (3, L_X10_show) := ⟨rfl, k_X10_show, (by decide +kernel), (by decide), rfl, (fun _ => ⟨by decide, rfl⟩)⟩
theorem g_X10_saysAs : ax_gd r_X10_saysAs (3, L_X10_saysAs) := ⟨rfl, k_X10_saysAs, (by decide +kernel), (by decide), rfl, (fun _ => ⟨by decide, rfl⟩)⟩
theorem g_X10_says : ax_gd r_X10_says (5, L_X10_says) := ⟨rfl, k_X10_says, (by decide +kernel), (by decide), rfl, (fun _ => ⟨by decide, rfl⟩)⟩
theorem g_X10_wall : ax_gd r_X10_wall (3, L_X10_wall) := ⟨rfl, k_X10_wall, (by decide +kernel), (by decide), rfl, (fun _ => ⟨by decide, rfl⟩)⟩
theorem g_X10_person : ax_gd r_X10_person (2, L_X10_person) := ⟨rfl, k_X10_person, (by decide +kernel), (by decide), rfl, (fun _ => ⟨by decide, rfl⟩)⟩
theorem g_X10_sow : ax_gd r_X10_sow (5, L_X10_sow) := ⟨rfl, k_X10_sow, (by decide +kernel), (by decide), rfl, (fun _ => ⟨by decide, rfl⟩)⟩
theorem g_X10_isPair : ax_gd r_X10_isPair (3, L_X10_isPair) := ⟨rfl, k_X10_isPair, (by decide +kernel), (by decide), rfl, (fun _ => ⟨by decide, rfl⟩)⟩
theorem g_X10_owes : ax_gd r_X10_owes (5, L_X10_owes) := ⟨rfl, k_X10_owes, (by decide +kernel), (by decide), rfl, (fun _ => ⟨by decide, rfl⟩)⟩
theorem g_X10_feed : ax_gd r_X10_feed (2, L_X10_feed) := ⟨rfl, k_X10_feed, (by decide +kernel), (by decide), rfl, (fun _ => ⟨by decide, rfl⟩)⟩
theorem g_X10_wipe : ax_gd r_X10_wipe (2, L_X10_wipe) := ⟨rfl, k_X10_wipe, (by decide +kernel), (by decide), rfl, (fun _ => ⟨by decide, rfl⟩)⟩
theorem g_X10_garden : ax_gd r_X10_garden (2, L_X10_garden) := ⟨rfl, k_X10_garden, (by decide +kernel), (by decide), rfl, (fun _ => ⟨by decide, rfl⟩)⟩
theorem g_X10_seedOf : ax_gd r_X10_seedOf (4, L_X10_seedOf) := ⟨rfl, k_X10_seedOf, (by decide +kernel), (by decide), rfl, (fun _ => ⟨by decide, rfl⟩)⟩
theorem g_J6_bitCount_0f7a4 : ax_gd r_J6_bitCount_0f7a4 (1, L_J6_bitCount_0f7a4) := ⟨rfl, k_J6_bitCount_0f7a4, (by decide +kernel), (by decide), rfl, (fun h => by cases h)⟩
theorem g_X10_personOf : ax_gd r_X10_personOf (3, L_X10_personOf) := ⟨rfl, k_X10_personOf, (by decide +kernel), (by decide), rfl, (fun _ => ⟨by decide, rfl⟩)⟩
theorem g_X10_debt : ax_gd r_X10_debt (3, L_X10_debt) := ⟨rfl, k_X10_debt, (by decide +kernel), (by decide), rfl, (fun _ => ⟨by decide, rfl⟩)⟩
theorem g_X10_isWall : ax_gd r_X10_isWall (2, L_X10_isWall) := ⟨rfl, k_X10_isWall, (by decide +kernel), (by decide), rfl, (fun _ => ⟨by decide, rfl⟩)⟩
theorem g_X10_up : ax_gd r_X10_up (2, L_X10_up) := ⟨rfl, k_X10_up, (by decide +kernel), (by decide), rfl, (fun _ => ⟨by decide, rfl⟩)⟩
theorem g_X10_by : ax_gd r_X10_by (2, L_X10_by) := ⟨rfl, k_X10_by, (by decide +kernel), (by decide), rfl, (fun _ => ⟨by decide, rfl⟩)⟩
theorem g_X10_quiet : ax_gd r_X10_quiet (3, L_X10_quiet) := ⟨rfl, k_X10_quiet, (by decide +kernel), (by decide), rfl, (fun _ => ⟨by decide, rfl⟩)⟩
theorem g_X10_way : ax_gd r_X10_way (6, L_X10_way) := ⟨rfl, k_X10_way, (by decide +kernel), (by decide), rfl, (fun _ => ⟨by decide, rfl⟩)⟩
theorem g_X10_hasWay : ax_gd r_X10_hasWay (5, L_X10_hasWay) := ⟨rfl, k_X10_hasWay, (by decide +kernel), (by decide), rfl, (fun _ => ⟨by decide, rfl⟩)⟩
theorem g_X10_bar : ax_gd r_X10_bar (4, L_X10_bar) := ⟨rfl, k_X10_bar, (by decide +kernel), (by decide), rfl, (fun _ => ⟨by decide, rfl⟩)⟩
theorem g_X10_reach : ax_gd r_X10_reach (2, L_X10_reach) := ⟨rfl, k_X10_reach, (by decide +kernel), (by decide), rfl, (fun _ => ⟨by decide, rfl⟩)⟩
theorem g_X10_loud : ax_gd r_X10_loud (2, L_X10_loud) := ⟨rfl, k_X10_loud, (by decide +kernel), (by decide), rfl, (fun _ => ⟨by decide, rfl⟩)⟩
theorem g_X10_together : ax_gd r_X10_together (4, L_X10_together) := ⟨rfl, k_X10_together, (by decide +kernel), (by decide), rfl, (fun _ => ⟨by decide, rfl⟩)⟩
theorem g_X10_calm : ax_gd r_X10_calm (4, L_X10_calm) := ⟨rfl, k_X10_calm, (by decide +kernel), (by decide), rfl, (fun _ => ⟨by decide, rfl⟩)⟩
theorem g_X10_idle : ax_gd r_X10_idle (3, L_X10_idle) := ⟨rfl, k_X10_idle, (by decide +kernel), (by decide), rfl, (fun _ => ⟨by decide, rfl⟩)⟩
theorem g_X10_worst : ax_gd r_X10_worst (5, L_X10_worst) := ⟨rfl, k_X10_worst, (by decide +kernel), (by decide), rfl, (fun _ => ⟨by decide, rfl⟩)⟩
theorem g_X10_chain : ax_gd r_X10_chain (3, L_X10_chain) := ⟨rfl, k_X10_chain, (by decide +kernel), (by decide), rfl, (fun _ => ⟨by decide, rfl⟩)⟩
theorem g_X10_poorest : ax_gd r_X10_poorest (3, L_X10_poorest) := ⟨rfl, k_X10_poorest, (by decide +kernel), (by decide), rfl, (fun _ => ⟨by decide, rfl⟩)⟩
theorem g_X10_due : ax_gd r_X10_due (3, L_X10_due) := ⟨rfl, k_X10_due, (by decide +kernel), (by decide), rfl, (fun _ => ⟨by decide, rfl⟩)⟩
theorem g_X10_bare : ax_gd r_X10_bare (4, L_X10_bare) := ⟨rfl, k_X10_bare, (by decide +kernel), (by decide), rfl, (fun _ => ⟨by decide, rfl⟩)⟩
theorem g_X10_net : ax_gd r_X10_net (2, L_X10_net) := ⟨rfl, k_X10_net, (by decide +kernel), (by decide), rfl, (fun _ => ⟨by decide, rfl⟩)⟩
theorem g_X10_mutual : ax_gd r_X10_mutual (1, L_X10_mutual) := ⟨rfl, k_X10_mutual, (by decide +kernel), (by decide), rfl, (fun _ => ⟨by decide, rfl⟩)⟩
theorem g_X10_ring : ax_gd r_X10_ring (3, L_X10_ring) := ⟨rfl, k_X10_ring, (by decide +kernel), (by decide), rfl, (fun _ => ⟨by decide, rfl⟩)⟩
theorem g_X10_guess : ax_gd r_X10_guess (5, L_X10_guess) := ⟨rfl, k_X10_guess, (by decide +kernel), (by decide), rfl, (fun _ => ⟨by decide, rfl⟩)⟩
theorem g_X10_noTold : ax_gd r_X10_noTold (3, L_X10_noTold) := ⟨rfl, k_X10_noTold, (by decide +kernel), (by decide), rfl, (fun h => by cases h)⟩
theorem g_X10_tells : ax_gd r_X10_tells (7, L_X10_tells) := ⟨rfl, k_X10_tells, (by decide +kernel), (by decide), rfl, (fun _ => ⟨by decide, rfl⟩)⟩
theorem g_X10_noWalk : ax_gd r_X10_noWalk (4, L_X10_noWalk) := ⟨rfl, k_X10_noWalk, (by decide +kernel), (by decide), rfl, (fun _ => ⟨by decide, rfl⟩)⟩
theorem g_X10_wrongOf : ax_gd r_X10_wrongOf (7, L_X10_wrongOf) := ⟨rfl, k_X10_wrongOf, (by decide +kernel), (by decide), rfl, (fun _ => ⟨by decide, rfl⟩)⟩
theorem g_X10_judge : ax_gd r_X10_judge (5, L_X10_judge) := ⟨rfl, k_X10_judge, (by decide +kernel), (by decide), rfl, (fun _ => ⟨by decide, rfl⟩)⟩
theorem g_X10_noTrueWalk : ax_gd r_X10_noTrueWalk (5, L_X10_noTrueWalk) := ⟨rfl, k_X10_noTrueWalk, (by decide +kernel), (by decide), rfl, (fun _ => ⟨by decide, rfl⟩)⟩
theorem g_X10_seen : ax_gd r_X10_seen (8, L_X10_seen) := ⟨rfl, k_X10_seen, (by decide +kernel), (by decide), rfl, (fun _ => ⟨by decide, rfl⟩)⟩
theorem g_X10_walk : ax_gd r_X10_walk (5, L_X10_walk) := ⟨rfl, k_X10_walk, (by decide +kernel), (by decide), rfl, (fun _ => ⟨by decide, rfl⟩)⟩
theorem g_X10_step : ax_gd r_X10_step (3, L_X10_step) := ⟨rfl, k_X10_step, (by decide +kernel), (by decide), rfl, (fun _ => ⟨by decide, rfl⟩)⟩
theorem g_X10_pay : ax_gd r_X10_pay (5, L_X10_pay) := ⟨rfl, k_X10_pay, (by decide +kernel), (by decide), rfl, (fun _ => ⟨by decide, rfl⟩)⟩
theorem g_X10_strike : ax_gd r_X10_strike (2, L_X10_strike) := ⟨rfl, k_X10_strike, (by decide +kernel), (by decide), rfl, (fun _ => ⟨by decide, rfl⟩)⟩
theorem g_X10_countShowing : ax_gd r_X10_countShowing (3, L_X10_countShowing) := ⟨rfl, k_X10_countShowing, (by decide +kernel), (by decide), rfl, (fun _ => ⟨by decide, rfl⟩)⟩
theorem g_X10_days : ax_gd r_X10_days (5, L_X10_days) := ⟨rfl, k_X10_days, (by decide +kernel), (by decide), rfl, (fun _ => ⟨by decide, rfl⟩)⟩
theorem g_X10_dropLostSeeds : ax_gd r_X10_dropLostSeeds (2, L_X10_dropLostSeeds) := ⟨rfl, k_X10_dropLostSeeds, (by decide +kernel), (by decide), rfl, (fun _ => ⟨by decide, rfl⟩)⟩
theorem g_X10_weed : ax_gd r_X10_weed (1, L_X10_weed) := ⟨rfl, k_X10_weed, (by decide +kernel), (by decide), rfl, (fun _ => ⟨by decide, rfl⟩)⟩
theorem g_X10_seed : ax_gd r_X10_seed (3, L_X10_seed) := ⟨rfl, k_X10_seed, (by decide +kernel), (by decide), rfl, (fun _ => ⟨by decide, rfl⟩)⟩
theorem g_X10_image : ax_gd r_X10_image (1, L_X10_image) := ⟨rfl, k_X10_image, (by decide +kernel), (by decide), rfl, (fun _ => ⟨by decide, rfl⟩)⟩
theorem g_X10_back : ax_gd r_X10_back (1, L_X10_back) := ⟨rfl, k_X10_back, (by decide +kernel), (by decide), rfl, (fun _ => ⟨by decide, rfl⟩)⟩
theorem g_X10_fullShelves : ax_gd r_X10_fullShelves (3, L_X10_fullShelves) := ⟨rfl, k_X10_fullShelves, (by decide +kernel), (by decide), rfl, (fun _ => ⟨by decide, rfl⟩)⟩
theorem g_X10_status : ax_gd r_X10_status (2, L_X10_status) := ⟨rfl, k_X10_status, (by decide +kernel), (by decide), rfl, (fun _ => ⟨by decide, rfl⟩)⟩
theorem g_X11_no : ax_gd r_X11_no (2, L_X11_no) := ⟨rfl, k_X11_no, (by decide +kernel), (by decide), rfl, (fun _ => ⟨by decide, rfl⟩)⟩
theorem g_X11_within : ax_gd r_X11_within (3, L_X11_within) := ⟨rfl, k_X11_within, (by decide +kernel), (by decide), rfl, (fun h => by cases h)⟩
theorem g_X11_isCell : ax_gd r_X11_isCell (1, L_X11_isCell) := ⟨rfl, k_X11_isCell, (by decide +kernel), (by decide), rfl, (fun h => by cases h)⟩
theorem g_X11_isOne : ax_gd r_X11_isOne (2, L_X11_isOne) := ⟨rfl, k_X11_isOne, (by decide +kernel), (by decide), rfl, (fun _ => ⟨by decide, rfl⟩)⟩
theorem g_X11_isSeed : ax_gd r_X11_isSeed (2, L_X11_isSeed) := ⟨rfl, k_X11_isSeed, (by decide +kernel), (by decide), rfl, (fun _ => ⟨by decide, rfl⟩)⟩
theorem g_X11_isShelf : ax_gd r_X11_isShelf (1, L_X11_isShelf) := ⟨rfl, k_X11_isShelf, (by decide +kernel), (by decide), rfl, (fun h => by cases h)⟩
theorem g_X11_isRow : ax_gd r_X11_isRow (2, L_X11_isRow) := ⟨rfl, k_X11_isRow, (by decide +kernel), (by decide), rfl, (fun _ => ⟨by decide, rfl⟩)⟩
theorem g_X11_areTwo : ax_gd r_X11_areTwo (3, L_X11_areTwo) := ⟨rfl, k_X11_areTwo, (by decide +kernel), (by decide), rfl, (fun _ => ⟨by decide, rfl⟩)⟩
theorem g_X11_row : ax_gd r_X11_row (5, L_X11_row) := ⟨rfl, k_X11_row, (by decide +kernel), (by decide), rfl, (fun _ => ⟨by decide, rfl⟩)⟩
theorem g_X11_noRow : ax_gd r_X11_noRow (2, L_X11_noRow) := ⟨rfl, k_X11_noRow, (by decide +kernel), (by decide), rfl, (fun _ => ⟨by decide, rfl⟩)⟩
theorem g_X11_kept : ax_gd r_X11_kept (3, L_X11_kept) := ⟨rfl, k_X11_kept, (by decide +kernel), (by decide), rfl, (fun h => by cases h)⟩
theorem g_X11_set : ax_gd r_X11_set (5, L_X11_set) := ⟨rfl, k_X11_set, (by decide +kernel), (by decide), rfl, (fun _ => ⟨by decide, rfl⟩)⟩
theorem g_X11_copy : ax_gd r_X11_copy (7, L_X11_copy) := ⟨rfl, k_X11_copy, (by decide +kernel), (by decide), rfl, (fun _ => ⟨by decide, rfl⟩)⟩
theorem g_X11_element : ax_gd r_X11_element (3, L_X11_element) := ⟨rfl, k_X11_element, (by decide +kernel), (by decide), rfl, (fun _ => ⟨by decide, rfl⟩)⟩
theorem g_X11_holds : ax_gd r_X11_holds (2, L_X11_holds) := ⟨rfl, k_X11_holds, (by decide +kernel), (by decide), rfl, (fun _ => ⟨by decide, rfl⟩)⟩
theorem g_X11_show : ax_gd r_X11_show (3, L_X11_show) := ⟨rfl, k_X11_show, (by decide +kernel), (by decide), rfl, (fun _ => ⟨by decide, rfl⟩)⟩
theorem g_X11_isUnder : ax_gd r_X11_isUnder (2, L_X11_isUnder) := ⟨rfl, k_X11_isUnder, (by decide +kernel), (by decide), rfl, (fun h => by cases h)⟩
theorem g_X11_reachOf : ax_gd r_X11_reachOf (2, L_X11_reachOf) := ⟨rfl, k_X11_reachOf, (by decide +kernel), (by decide), rfl, (fun _ => ⟨by decide, rfl⟩)⟩
theorem g_X11_allOwed : ax_gd r_X11_allOwed (4, L_X11_allOwed) := ⟨rfl, k_X11_allOwed, (by decide +kernel), (by decide), rfl, (fun _ => ⟨by decide, rfl⟩)⟩
theorem g_X11_owing : ax_gd r_X11_owing (3, L_X11_owing) := ⟨rfl, k_X11_owing, (by decide +kernel), (by decide), rfl, (fun _ => ⟨by decide, rfl⟩)⟩
theorem g_X11_takes : ax_gd r_X11_takes (2, L_X11_takes) := ⟨rfl, k_X11_takes, (by decide +kernel), (by decide), rfl, (fun _ => ⟨by decide, rfl⟩)⟩
theorem g_X11_says : ax_gd r_X11_says (4, L_X11_says) := ⟨rfl, k_X11_says, (by decide +kernel), (by decide), rfl, (fun _ => ⟨by decide, rfl⟩)⟩
theorem g_X11_somebodyAt : ax_gd r_X11_somebodyAt (3, L_X11_somebodyAt) := ⟨rfl, k_X11_somebodyAt, (by decide +kernel), (by decide), rfl, (fun _ => ⟨by decide, rfl⟩)⟩
theorem g_X11_wall : ax_gd r_X11_wall (3, L_X11_wall) := ⟨rfl, k_X11_wall, (by decide +kernel), (by decide), rfl, (fun _ => ⟨by decide, rfl⟩)⟩
theorem g_X11_newOne : ax_gd r_X11_newOne (3, L_X11_newOne) := ⟨rfl, k_X11_newOne, (by decide +kernel), (by decide), rfl, (fun _ => ⟨by decide, rfl⟩)⟩
theorem g_X11_person : ax_gd r_X11_person (2, L_X11_person) := ⟨rfl, k_X11_person, (by decide +kernel), (by decide), rfl, (fun _ => ⟨by decide, rfl⟩)⟩
theorem g_X11_newSeed : ax_gd r_X11_newSeed (5, L_X11_newSeed) := ⟨rfl, k_X11_newSeed, (by decide +kernel), (by decide), rfl, (fun _ => ⟨by decide, rfl⟩)⟩
theorem g_X11_sow : ax_gd r_X11_sow (5, L_X11_sow) := ⟨rfl, k_X11_sow, (by decide +kernel), (by decide), rfl, (fun _ => ⟨by decide, rfl⟩)⟩
theorem g_X11_owes : ax_gd r_X11_owes (5, L_X11_owes) := ⟨rfl, k_X11_owes, (by decide +kernel), (by decide), rfl, (fun _ => ⟨by decide, rfl⟩)⟩
theorem g_X11_feed : ax_gd r_X11_feed (2, L_X11_feed) := ⟨rfl, k_X11_feed, (by decide +kernel), (by decide), rfl, (fun _ => ⟨by decide, rfl⟩)⟩
theorem g_X11_wipe : ax_gd r_X11_wipe (2, L_X11_wipe) := ⟨rfl, k_X11_wipe, (by decide +kernel), (by decide), rfl, (fun _ => ⟨by decide, rfl⟩)⟩
theorem g_X11_isLetter : ax_gd r_X11_isLetter (1, L_X11_isLetter) := ⟨rfl, k_X11_isLetter, (by decide +kernel), (by decide), rfl, (fun h => by cases h)⟩
theorem g_X11_isDigit : ax_gd r_X11_isDigit (1, L_X11_isDigit) := ⟨rfl, k_X11_isDigit, (by decide +kernel), (by decide), rfl, (fun h => by cases h)⟩
theorem g_X11_next : ax_gd r_X11_next (2, L_X11_next) := ⟨rfl, k_X11_next, (by decide +kernel), (by decide), rfl, (fun _ => ⟨by decide, rfl⟩)⟩
theorem g_X11_isWord : ax_gd r_X11_isWord (3, L_X11_isWord) := ⟨rfl, k_X11_isWord, (by decide +kernel), (by decide), rfl, (fun _ => ⟨by decide, rfl⟩)⟩
theorem g_X11_number : ax_gd r_X11_number (3, L_X11_number) := ⟨rfl, k_X11_number, (by decide +kernel), (by decide), rfl, (fun _ => ⟨by decide, rfl⟩)⟩
theorem g_X11_statement : ax_gd r_X11_statement (5, L_X11_statement) := ⟨rfl, k_X11_statement, (by decide +kernel), (by decide), rfl, (fun _ => ⟨by decide, rfl⟩)⟩
theorem g_X11_keep : ax_gd r_X11_keep (3, L_X11_keep) := ⟨rfl, k_X11_keep, (by decide +kernel), (by decide), rfl, (fun _ => ⟨by decide, rfl⟩)⟩
theorem g_X11_again : ax_gd r_X11_again (3, L_X11_again) := ⟨rfl, k_X11_again, (by decide +kernel), (by decide), rfl, (fun _ => ⟨by decide, rfl⟩)⟩
theorem g_X11_garden : ax_gd r_X11_garden (3, L_X11_garden) := ⟨rfl, k_X11_garden, (by decide +kernel), (by decide), rfl, (fun _ => ⟨by decide, rfl⟩)⟩
theorem g_X11_far : ax_gd r_X11_far (2, L_X11_far) := ⟨rfl, k_X11_far, (by decide +kernel), (by decide), rfl, (fun h => by cases h)⟩
theorem g_X11_owesEnough : ax_gd r_X11_owesEnough (3, L_X11_owesEnough) := ⟨rfl, k_X11_owesEnough, (by decide +kernel), (by decide), rfl, (fun _ => ⟨by decide, rfl⟩)⟩
theorem g_X11_isUp : ax_gd r_X11_isUp (4, L_X11_isUp) := ⟨rfl, k_X11_isUp, (by decide +kernel), (by decide), rfl, (fun _ => ⟨by decide, rfl⟩)⟩
theorem g_X11_byOf : ax_gd r_X11_byOf (4, L_X11_byOf) := ⟨rfl, k_X11_byOf, (by decide +kernel), (by decide), rfl, (fun _ => ⟨by decide, rfl⟩)⟩
theorem g_X11_upOf : ax_gd r_X11_upOf (4, L_X11_upOf) := ⟨rfl, k_X11_upOf, (by decide +kernel), (by decide), rfl, (fun _ => ⟨by decide, rfl⟩)⟩
theorem g_X11_seedOf : ax_gd r_X11_seedOf (3, L_X11_seedOf) := ⟨rfl, k_X11_seedOf, (by decide +kernel), (by decide), rfl, (fun _ => ⟨by decide, rfl⟩)⟩
theorem g_X11_owedTo : ax_gd r_X11_owedTo (4, L_X11_owedTo) := ⟨rfl, k_X11_owedTo, (by decide +kernel), (by decide), rfl, (fun _ => ⟨by decide, rfl⟩)⟩
theorem g_X11_personOf : ax_gd r_X11_personOf (5, L_X11_personOf) := ⟨rfl, k_X11_personOf, (by decide +kernel), (by decide), rfl, (fun _ => ⟨by decide, rfl⟩)⟩
theorem g_X11_debt : ax_gd r_X11_debt (3, L_X11_debt) := ⟨rfl, k_X11_debt, (by decide +kernel), (by decide), rfl, (fun _ => ⟨by decide, rfl⟩)⟩
theorem g_X11_isWall : ax_gd r_X11_isWall (2, L_X11_isWall) := ⟨rfl, k_X11_isWall, (by decide +kernel), (by decide), rfl, (fun _ => ⟨by decide, rfl⟩)⟩
theorem g_X11_up : ax_gd r_X11_up (2, L_X11_up) := ⟨rfl, k_X11_up, (by decide +kernel), (by decide), rfl, (fun _ => ⟨by decide, rfl⟩)⟩
theorem g_X11_by : ax_gd r_X11_by (2, L_X11_by) := ⟨rfl, k_X11_by, (by decide +kernel), (by decide), rfl, (fun _ => ⟨by decide, rfl⟩)⟩
theorem g_X11_isQuiet : ax_gd r_X11_isQuiet (5, L_X11_isQuiet) := ⟨rfl, k_X11_isQuiet, (by decide +kernel), (by decide), rfl, (fun _ => ⟨by decide, rfl⟩)⟩
theorem g_X11_quiet : ax_gd r_X11_quiet (3, L_X11_quiet) := ⟨rfl, k_X11_quiet, (by decide +kernel), (by decide), rfl, (fun _ => ⟨by decide, rfl⟩)⟩
theorem g_X11_beside : ax_gd r_X11_beside (2, L_X11_beside) := ⟨rfl, k_X11_beside, (by decide +kernel), (by decide), rfl, (fun h => by cases h)⟩
theorem g_X11_walks : ax_gd r_X11_walks (8, L_X11_walks) := ⟨rfl, k_X11_walks, (by decide +kernel), (by decide), rfl, (fun _ => ⟨by decide, rfl⟩)⟩
theorem g_X11_walksBack : ax_gd r_X11_walksBack (8, L_X11_walksBack) := ⟨rfl, k_X11_walksBack, (by decide +kernel), (by decide), rfl, (fun _ => ⟨by decide, rfl⟩)⟩
theorem g_X11_wayOf : ax_gd r_X11_wayOf (3, L_X11_wayOf) := ⟨rfl, k_X11_wayOf, (by decide +kernel), (by decide), rfl, (fun _ => ⟨by decide, rfl⟩)⟩
theorem g_X11_way : ax_gd r_X11_way (10, L_X11_way) := ⟨rfl, k_X11_way, (by decide +kernel), (by decide), rfl, (fun _ => ⟨by decide, rfl⟩)⟩
theorem g_X11_bar : ax_gd r_X11_bar (4, L_X11_bar) := ⟨rfl, k_X11_bar, (by decide +kernel), (by decide), rfl, (fun _ => ⟨by decide, rfl⟩)⟩
theorem g_X11_reach : ax_gd r_X11_reach (4, L_X11_reach) := ⟨rfl, k_X11_reach, (by decide +kernel), (by decide), rfl, (fun _ => ⟨by decide, rfl⟩)⟩
theorem g_X11_loud : ax_gd r_X11_loud (4, L_X11_loud) := ⟨rfl, k_X11_loud, (by decide +kernel), (by decide), rfl, (fun _ => ⟨by decide, rfl⟩)⟩
theorem g_X11_together : ax_gd r_X11_together (4, L_X11_together) := ⟨rfl, k_X11_together, (by decide +kernel), (by decide), rfl, (fun _ => ⟨by decide, rfl⟩)⟩
theorem g_X11_calm : ax_gd r_X11_calm (5, L_X11_calm) := ⟨rfl, k_X11_calm, (by decide +kernel), (by decide), rfl, (fun _ => ⟨by decide, rfl⟩)⟩
theorem g_X11_idle : ax_gd r_X11_idle (5, L_X11_idle) := ⟨rfl, k_X11_idle, (by decide +kernel), (by decide), rfl, (fun _ => ⟨by decide, rfl⟩)⟩
theorem g_X11_worst : ax_gd r_X11_worst (3, L_X11_worst) := ⟨rfl, k_X11_worst, (by decide +kernel), (by decide), rfl, (fun _ => ⟨by decide, rfl⟩)⟩
theorem g_X11_chain : ax_gd r_X11_chain (9, L_X11_chain) := ⟨rfl, k_X11_chain, (by decide +kernel), (by decide), rfl, (fun _ => ⟨by decide, rfl⟩)⟩
theorem g_X11_netOf : ax_gd r_X11_netOf (2, L_X11_netOf) := ⟨rfl, k_X11_netOf, (by decide +kernel), (by decide), rfl, (fun _ => ⟨by decide, rfl⟩)⟩
theorem g_X11_poorest : ax_gd r_X11_poorest (3, L_X11_poorest) := ⟨rfl, k_X11_poorest, (by decide +kernel), (by decide), rfl, (fun _ => ⟨by decide, rfl⟩)⟩
theorem g_X11_dueOf : ax_gd r_X11_dueOf (6, L_X11_dueOf) := ⟨rfl, k_X11_dueOf, (by decide +kernel), (by decide), rfl, (fun _ => ⟨by decide, rfl⟩)⟩
theorem g_X11_due : ax_gd r_X11_due (3, L_X11_due) := ⟨rfl, k_X11_due, (by decide +kernel), (by decide), rfl, (fun _ => ⟨by decide, rfl⟩)⟩
theorem g_X11_bare : ax_gd r_X11_bare (5, L_X11_bare) := ⟨rfl, k_X11_bare, (by decide +kernel), (by decide), rfl, (fun _ => ⟨by decide, rfl⟩)⟩
theorem g_X11_net : ax_gd r_X11_net (2, L_X11_net) := ⟨rfl, k_X11_net, (by decide +kernel), (by decide), rfl, (fun _ => ⟨by decide, rfl⟩)⟩
theorem g_X11_mutual : ax_gd r_X11_mutual (4, L_X11_mutual) := ⟨rfl, k_X11_mutual, (by decide +kernel), (by decide), rfl, (fun _ => ⟨by decide, rfl⟩)⟩
theorem g_X11_rings : ax_gd r_X11_rings (6, L_X11_rings) := ⟨rfl, k_X11_rings, (by decide +kernel), (by decide), rfl, (fun _ => ⟨by decide, rfl⟩)⟩
theorem g_X11_ring : ax_gd r_X11_ring (5, L_X11_ring) := ⟨rfl, k_X11_ring, (by decide +kernel), (by decide), rfl, (fun _ => ⟨by decide, rfl⟩)⟩
theorem g_X11_guess : ax_gd r_X11_guess (9, L_X11_guess) := ⟨rfl, k_X11_guess, (by decide +kernel), (by decide), rfl, (fun _ => ⟨by decide, rfl⟩)⟩
theorem g_X11_toldAt : ax_gd r_X11_toldAt (5, L_X11_toldAt) := ⟨rfl, k_X11_toldAt, (by decide +kernel), (by decide), rfl, (fun _ => ⟨by decide, rfl⟩)⟩
theorem g_X11_tellsAll : ax_gd r_X11_tellsAll (7, L_X11_tellsAll) := ⟨rfl, k_X11_tellsAll, (by decide +kernel), (by decide), rfl, (fun _ => ⟨by decide, rfl⟩)⟩
theorem g_X11_fewest : ax_gd r_X11_fewest (3, L_X11_fewest) := ⟨rfl, k_X11_fewest, (by decide +kernel), (by decide), rfl, (fun _ => ⟨by decide, rfl⟩)⟩
theorem g_X11_noRow_ : ax_gd r_X11_noRow_ (3, L_X11_noRow_) := ⟨rfl, k_X11_noRow_, (by decide +kernel), (by decide), rfl, (fun _ => ⟨by decide, rfl⟩)⟩
theorem g_X11_tells : ax_gd r_X11_tells (6, L_X11_tells) := ⟨rfl, k_X11_tells, (by decide +kernel), (by decide), rfl, (fun _ => ⟨by decide, rfl⟩)⟩
theorem g_X11_wrong : ax_gd r_X11_wrong (7, L_X11_wrong) := ⟨rfl, k_X11_wrong, (by decide +kernel), (by decide), rfl, (fun _ => ⟨by decide, rfl⟩)⟩
theorem g_X11_noWalk : ax_gd r_X11_noWalk (4, L_X11_noWalk) := ⟨rfl, k_X11_noWalk, (by decide +kernel), (by decide), rfl, (fun _ => ⟨by decide, rfl⟩)⟩
theorem g_X11_judge : ax_gd r_X11_judge (5, L_X11_judge) := ⟨rfl, k_X11_judge, (by decide +kernel), (by decide), rfl, (fun _ => ⟨by decide, rfl⟩)⟩
theorem g_X11_seen : ax_gd r_X11_seen (6, L_X11_seen) := ⟨rfl, k_X11_seen, (by decide +kernel), (by decide), rfl, (fun _ => ⟨by decide, rfl⟩)⟩
theorem g_X11_walk : ax_gd r_X11_walk (5, L_X11_walk) := ⟨rfl, k_X11_walk, (by decide +kernel), (by decide), rfl, (fun _ => ⟨by decide, rfl⟩)⟩
theorem g_X11_goes : ax_gd r_X11_goes (4, L_X11_goes) := ⟨rfl, k_X11_goes, (by decide +kernel), (by decide), rfl, (fun _ => ⟨by decide, rfl⟩)⟩
theorem g_X11_step : ax_gd r_X11_step (3, L_X11_step) := ⟨rfl, k_X11_step, (by decide +kernel), (by decide), rfl, (fun _ => ⟨by decide, rfl⟩)⟩
theorem g_X11_pay : ax_gd r_X11_pay (4, L_X11_pay) := ⟨rfl, k_X11_pay, (by decide +kernel), (by decide), rfl, (fun _ => ⟨by decide, rfl⟩)⟩
theorem g_X11_strike : ax_gd r_X11_strike (5, L_X11_strike) := ⟨rfl, k_X11_strike, (by decide +kernel), (by decide), rfl, (fun _ => ⟨by decide, rfl⟩)⟩
theorem g_X11_draw : ax_gd r_X11_draw (2, L_X11_draw) := ⟨rfl, k_X11_draw, (by decide +kernel), (by decide), rfl, (fun _ => ⟨by decide, rfl⟩)⟩
theorem g_X11_days : ax_gd r_X11_days (5, L_X11_days) := ⟨rfl, k_X11_days, (by decide +kernel), (by decide), rfl, (fun _ => ⟨by decide, rfl⟩)⟩
theorem g_X11_unshelve : ax_gd r_X11_unshelve (2, L_X11_unshelve) := ⟨rfl, k_X11_unshelve, (by decide +kernel), (by decide), rfl, (fun _ => ⟨by decide, rfl⟩)⟩
theorem g_X11_weed : ax_gd r_X11_weed (1, L_X11_weed) := ⟨rfl, k_X11_weed, (by decide +kernel), (by decide), rfl, (fun _ => ⟨by decide, rfl⟩)⟩
theorem g_X11_seed : ax_gd r_X11_seed (3, L_X11_seed) := ⟨rfl, k_X11_seed, (by decide +kernel), (by decide), rfl, (fun _ => ⟨by decide, rfl⟩)⟩
theorem g_X11_image : ax_gd r_X11_image (1, L_X11_image) := ⟨rfl, k_X11_image, (by decide +kernel), (by decide), rfl, (fun _ => ⟨by decide, rfl⟩)⟩
theorem g_X11_back : ax_gd r_X11_back (1, L_X11_back) := ⟨rfl, k_X11_back, (by decide +kernel), (by decide), rfl, (fun _ => ⟨by decide, rfl⟩)⟩
theorem g_X11_status : ax_gd r_X11_status (4, L_X11_status) := ⟨rfl, k_X11_status, (by decide +kernel), (by decide), rfl, (fun _ => ⟨by decide, rfl⟩)⟩
theorem ax_G0 : ax_all2 ax_gd ax_I0 ax_T0 := ⟨g_X0_isCell, g_X0_bit, g_X0_has, g_J13_bitCount_95d88, g_X0_lowest, g_X0_leftAndRight, g_X0_upAndDown, g_X0_beside, g_X0_zone, g_X0_after, g_X1_covers, g_X1_find, g_X2_become, g_X2_of, g_X2_put, g_X2_owedBy, trivial⟩
theorem ax_G1 : ax_all2 ax_gd ax_I1 ax_T1 := ⟨g_X2_owedTo, g_X2_balance, g_X2_all, g_X2_shared, g_X2_cancel, g_X2_creditorsOf, g_X2_creditorsOfAll, g_X2_links, g_X6_fill, g_X6_become, g_X3_become, g_X3_isPerson, g_X3_isSeed, g_X3_hasWall, g_X3_putWall, g_X3_peopleWithin, trivial⟩
theorem ax_G2 : ax_all2 ax_gd ax_I2 ax_T2 := ⟨g_X3_isStoodOn, g_X3_addPerson, g_X3_addSeed, g_X3_debtors, g_X3_allSeeds, g_X3_seedsBut, g_X6_price, g_X3_enoughOf, g_X6_isKind, g_X6_span, g_X6_zone, g_X3_near, g_X3_shownBy, g_X3_shown, g_X3_showers, g_X3_quietAmong, trivial⟩
theorem ax_G3 : ax_all2 ax_gd ax_I3 ax_T3 := ⟨g_X3_quietFor, g_X3_dueOf, g_X3_allDueOf, g_X3_isNearRank, g_X6_isTelltale, g_X3_telltales, g_X3_mayOwe, g_X3_surelyOwes, g_X3_go, g_X3_draw, g_X8_at, g_X4_tokenOf, g_X4_advance, g_X4_isWord, g_X4_readNumber, g_X4_readWall, trivial⟩
theorem ax_G4 : ax_all2 ax_gd ax_I4 ax_T4 := ⟨g_X4_readOpen, g_X4_readFloor, g_X4_readPerson, g_X4_readOwes, g_X4_readSeed, g_X4_readGo, g_X4_readStatement, g_X4_readAll, g_X5_closes, g_X5_find, g_X6_isOf, g_X7_isSort, g_X7_clear, g_X7_takeSeed, g_X7_takeRow, g_X7_isEmpty, trivial⟩
theorem ax_G5 : ax_all2 ax_gd ax_I5 ax_T5 := ⟨g_X7_holdsSeed, g_X7_seedNumber, g_X7_noRow, g_X7_hasElement, g_X7_hasElements, g_X7_fit, g_X7_put, g_X7_cellAt, g_X7_areCells, g_X7_cellBits, g_X8_isFull, g_X8_add, g_X9_find, g_X9_cellOf, g_X9_flood, g_X10_isShelf, trivial⟩
theorem ax_G6 : ax_all2 ax_gd ax_I6 ax_T6 := ⟨g_X10_refuse, g_X10_row, g_X10_set, g_X10_copy, g_X10_element, g_X10_holds, g_X10_show, g_X10_saysAs, g_X10_says, g_X10_wall, g_X10_person, g_X10_sow, g_X10_isPair, g_X10_owes, g_X10_feed, g_X10_wipe, trivial⟩
theorem ax_G7 : ax_all2 ax_gd ax_I7 ax_T7 := ⟨g_X10_garden, g_X10_seedOf, g_J6_bitCount_0f7a4, g_X10_personOf, g_X10_debt, g_X10_isWall, g_X10_up, g_X10_by, g_X10_quiet, g_X10_way, g_X10_hasWay, g_X10_bar, g_X10_reach, g_X10_loud, g_X10_together, g_X10_calm, trivial⟩
theorem ax_G8 : ax_all2 ax_gd ax_I8 ax_T8 := ⟨g_X10_idle, g_X10_worst, g_X10_chain, g_X10_poorest, g_X10_due, g_X10_bare, g_X10_net, g_X10_mutual, g_X10_ring, g_X10_guess, g_X10_noTold, g_X10_tells, g_X10_noWalk, g_X10_wrongOf, g_X10_judge, g_X10_noTrueWalk, trivial⟩
theorem ax_G9 : ax_all2 ax_gd ax_I9 ax_T9 := ⟨g_X10_seen, g_X10_walk, g_X10_step, g_X10_pay, g_X10_strike, g_X10_countShowing, g_X10_days, g_X10_dropLostSeeds, g_X10_weed, g_X10_seed, g_X10_image, g_X10_back, g_X10_fullShelves, g_X10_status, g_X11_no, g_X11_within, trivial⟩
theorem ax_G10 : ax_all2 ax_gd ax_I10 ax_T10 := ⟨g_X11_isCell, g_X11_isOne, g_X11_isSeed, g_X11_isShelf, g_X11_isRow, g_X11_areTwo, g_X11_row, g_X11_noRow, g_X11_kept, g_X11_set, g_X11_copy, g_X11_element, g_X11_holds, g_X11_show, g_X11_isUnder, g_X11_reachOf, trivial⟩
theorem ax_G11 : ax_all2 ax_gd ax_I11 ax_T11 := ⟨g_X11_allOwed, g_X11_owing, g_X11_takes, g_X11_says, g_X11_somebodyAt, g_X11_wall, g_X11_newOne, g_X11_person, g_X11_newSeed, g_X11_sow, g_X11_owes, g_X11_feed, g_X11_wipe, g_X11_isLetter, g_X11_isDigit, g_X11_next, trivial⟩
theorem ax_G12 : ax_all2 ax_gd ax_I12 ax_T12 := ⟨g_X11_isWord, g_X11_number, g_X11_statement, g_X11_keep, g_X11_again, g_X11_garden, g_X11_far, g_X11_owesEnough, g_X11_isUp, g_X11_byOf, g_X11_upOf, g_X11_seedOf, g_X11_owedTo, g_X11_personOf, g_X11_debt, g_X11_isWall, trivial⟩
theorem ax_G13 : ax_all2 ax_gd ax_I13 ax_T13 := ⟨g_X11_up, g_X11_by, g_X11_isQuiet, g_X11_quiet, g_X11_beside, g_X11_walks, g_X11_walksBack, g_X11_wayOf, g_X11_way, g_X11_bar, g_X11_reach, g_X11_loud, g_X11_together, g_X11_calm, g_X11_idle, g_X11_worst, trivial⟩
theorem ax_G14 : ax_all2 ax_gd ax_I14 ax_T14 := ⟨g_X11_chain, g_X11_netOf, g_X11_poorest, g_X11_dueOf, g_X11_due, g_X11_bare, g_X11_net, g_X11_mutual, g_X11_rings, g_X11_ring, g_X11_guess, g_X11_toldAt, g_X11_tellsAll, g_X11_fewest, g_X11_noRow_, g_X11_tells, trivial⟩
theorem ax_G15 : ax_all2 ax_gd ax_I15 ax_T15 := ⟨g_X11_wrong, g_X11_noWalk, g_X11_judge, g_X11_seen, g_X11_walk, g_X11_goes, g_X11_step, g_X11_pay, g_X11_strike, g_X11_draw, g_X11_days, g_X11_unshelve, g_X11_weed, g_X11_seed, g_X11_image, g_X11_back, trivial⟩
theorem ax_G16 : ax_all2 ax_gd ax_I16 ax_T16 := ⟨g_X11_status, trivial⟩
theorem ax_GG : ax_all2 (fun l l2 => ax_all2 ax_gd l l2) ax_II ax_TT := ⟨ax_G0, ax_G1, ax_G2, ax_G3, ax_G4, ax_G5, ax_G6, ax_G7, ax_G8, ax_G9, ax_G10, ax_G11, ax_G12, ax_G13, ax_G14, ax_G15, ax_G16, trivial⟩
theorem ax_good (mt : Nat) {r : ax_IR} {q : Nat × List ax_E} (h : ax_row mt = some r) (h2 : ax_tb mt = some q) : ax_gd r q := by
  unfold ax_row at h
  unfold ax_tb at h2
  cases h3 : ax_nth ax_II (mt / 16) with
  | none => rw [h3] at h; cases h
  | some l =>
    rw [h3] at h
    cases h4 : ax_nth ax_TT (mt / 16) with
    | none => rw [h4] at h2; cases h2
    | some l2 =>
      rw [h4] at h2
      exact ax_all2_at _ _ (ax_all2_at _ _ ax_GG _ _ _ h3 h4) _ _ _ h h2
