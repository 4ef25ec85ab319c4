/-! THE PURE MACHINE: what a method of the system does, as a function over numbers: values (int, long, a reference: kind and number), the memory (ints and longs, by kind, number, place). -/
abbrev ax_V : Type := Int32 ⊕ (Int64 ⊕ (Nat × Nat))
abbrev ax_M : Type := (Nat → Nat → Nat → Int32) × (Nat → Nat → Nat → Int64)
abbrev ax_R : Type := Option ax_V × ax_M
/-- an instruction: its place, itself, what a program resolved, the constant -/
abbrev ax_E : Type := Nat × (Jvm.ClassFile.Instr × (List Nat × ax_V))
abbrev ax_L : Type := List (Option ax_V)
def ax_nth {α : Type} : List α → Nat → Option α
  | [], _ => none
  | a :: _, 0 => some a
  | _ :: l, n + 1 => ax_nth l n
def ax_put {α : Type} : List α → Nat → α → List α
  | [], _, _ => []
  | _ :: l, 0, v => v :: l
  | a :: l, n + 1, v => a :: ax_put l n v
/-- lengths and types of the arrays (0: no array; 1 int, 2 boolean, 3 long, 4 seeds, 5 shelves, 6 a static row of ints), by kind -/
def ax_tab : List (Nat × Nat) := [(0, 0), (0, 0), (1, 8), (0, 0), (1, 64), (4, 16), (0, 0), (5, 8), (0, 0), (3, 40), (0, 0), (1, 250), (0, 0), (0, 0), (3, 64), (0, 0), (1, 8), (1, 8), (0, 0), (1, 3), (1, 5), (1, 8), (0, 0), (2, 64), (1, 8), (1, 64), (1, 16), (1, 16), (1, 16), (1, 16), (1, 250), (1, 8), (1, 8), (3, 320), (1, 7), (1, 203), (1, 203), (1, 64), (1, 8), (1, 3), (6, 6), (6, 6)]
def ax_ty (k : Nat) : Nat := match ax_nth ax_tab k with
  | some q => q.1
  | none => 0
def ax_len (k : Nat) : Nat := match ax_nth ax_tab k with
  | some q => q.2
  | none => 0
def ax_ok (i : Int32) (n : Nat) : Bool := decide (0 ≤ i.toInt) && decide (i.toInt < n)
def ax_sta (k j : Nat) : Int32 := match ax_nth (if k = 40 then [-1, 0, 0, 1, 2, 0] else [1, 0, 2, 0, 2, 1]) j with
  | some x => x
  | none => 0
/-- one place changed -/
def ax_ui (m : ax_M) (k i j : Nat) (v : Int32) : ax_M := (fun a b c => if a = k ∧ b = i ∧ c = j then v else m.1 a b c, m.2)
def ax_ul (m : ax_M) (k i j : Nat) (v : Int64) : ax_M := (m.1, fun a b c => if a = k ∧ b = i ∧ c = j then v else m.2 a b c)
/-- System.arraycopy over two int arrays, two long arrays -/
def ax_cpi (m : ax_M) (k i k2 i2 : Nat) (sp dp n : Nat) : ax_M := (fun a b c => if (a = k2 ∧ b = i2) ∧ dp ≤ c ∧ c < dp + n then m.1 k i (sp + (c - dp)) else m.1 a b c, m.2)
def ax_cpl (m : ax_M) (k i k2 i2 : Nat) (sp dp n : Nat) : ax_M := (m.1, fun a b c => if (a = k2 ∧ b = i2) ∧ dp ≤ c ∧ c < dp + n then m.2 k i (sp + (c - dp)) else m.2 a b c)
/-- the literals: "wall", "open", "person", "owes", "seed", "go" -/
def ax_lit : List (List Int32) := [[119, 97, 108, 108], [111, 112, 101, 110], [112, 101, 114, 115, 111, 110], [111, 119, 101, 115], [115, 101, 101, 100], [103, 111]]
def ax_word (i : Nat) : List Int32 := match ax_nth ax_lit i with
  | some l => l
  | none => []
def ax_chr (i : Nat) (j : Nat) : Int32 := match ax_nth (ax_word i) j with
  | some x => x
  | none => 0
/-- storing into the locals: a long that stood one place ahead is gone; a long takes two places -/
def ax_stv (lv : ax_L) (j : Nat) (v : ax_V) : ax_L := match j with
  | 0 => ax_put lv 0 (some v)
  | i + 1 => match ax_nth lv i with
    | some (some (.inr (.inl _))) => ax_put (ax_put lv i none) (i + 1) (some v)
    | _ => ax_put lv (i + 1) (some v)
def ax_stw (lv : ax_L) (j : Nat) (v : ax_V) : ax_L := ax_put (ax_stv lv j v) (j + 1) none
def ax_ent : List ax_V → ax_L
  | [] => []
  | .inr (.inl x) :: l => some (.inr (.inl x)) :: none :: ax_ent l
  | v :: l => some v :: ax_ent l
def ax_entry (l : List ax_V) (n : Nat) : ax_L := ax_ent l ++ List.replicate (n - (ax_ent l).length) none
def ax_cmp (c : Jvm.ClassFile.Cond) (x y : Int32) (a b : Option ax_R) : Option ax_R := match c with
  | .eq => if x = y then a else b
  | .ne => if x = y then b else a
  | .lt => if x < y then a else b
  | .ge => if y ≤ x then a else b
  | .gt => if y < x then a else b
  | .le => if x ≤ y then a else b
def ax_sw (x : Int32) (nx : Nat → Option ax_R) (d : Nat) : Nat → List Nat → Option ax_R
  | _, [] => nx d
  | v, t :: ts => if x = Int32.ofNat v then nx t else ax_sw x nx d (v + 1) ts
def ax_pops : Nat → List ax_V → List ax_V → Option (List ax_V × List ax_V)
  | 0, acc, st => some (acc, st)
  | _ + 1, _, [] => none
  | n + 1, acc, v :: st => ax_pops n (v :: acc) st
def ax_fld (nx : List ax_V → Option ax_R) (st : List ax_V) (m : ax_M) (info : List Nat) : Option ax_R := match info, st with
  | k :: j :: t :: q :: c :: _, .inr (.inr (k2, i)) :: r => if k2 = k then (match t with
    | 0 => nx (.inl (m.1 k i j) :: r)
    | 1 => nx (.inr (.inl (m.2 k i j)) :: r)
    | 2 => nx (.inr (.inr (q, i)) :: r)
    | 3 => nx (.inr (.inr (q, c)) :: r)
    | 4 => nx (.inl (m.1 k i j) :: r)
    | _ => none) else none
  | _, _ => none
def ax_pfld (nx : List ax_V → ax_M → Option ax_R) (st : List ax_V) (m : ax_M) (info : List Nat) : Option ax_R := match info, st with
  | k :: j :: 0 :: _, .inl x :: .inr (.inr (k2, i)) :: r => if k2 = k then nx r (ax_ui m k i j x) else none
  | k :: j :: 4 :: _, .inl x :: .inr (.inr (k2, i)) :: r => if k2 = k then (if x = 0 ∨ x = 1 then nx r (ax_ui m k i j x) else none) else none
  | k :: j :: 1 :: _, .inr (.inl x) :: .inr (.inr (k2, i)) :: r => if k2 = k then nx r (ax_ul m k i j x) else none
  | _, _ => none
/-- behind a call -/
def ax_aft (nx : List ax_V → ax_M → Option ax_R) (rest : List ax_V) (r : Option ax_R) : Option ax_R := match r with
  | some (some (.inl x), m) => nx (.inl x :: rest) m
  | some (some (.inr (.inl x)), m) => nx (.inr (.inl x) :: rest) m
  | some (none, m) => nx rest m
  | _ => none
def ax_max (x y : Int32) : Int32 := if x < y then y else x
def ax_min (x y : Int32) : Int32 := if y < x then y else x
def ax_abs (x : Int32) : Int32 := if 0 ≤ x then x else 0 - x
/-- the native copy, String.length, String.charAt, Math.max, min, abs -/
def ax_prim (p : Nat) (args : List ax_V) (m : ax_M) : Option ax_R := match p, args with
  | 0, .inr (.inr (k, i)) :: .inl sp :: .inr (.inr (k2, i2)) :: .inl dp :: .inl n :: [] =>
    if 0 ≤ sp.toInt ∧ 0 ≤ dp.toInt ∧ 0 ≤ n.toInt ∧ sp.toInt + n.toInt ≤ ax_len k ∧ dp.toInt + n.toInt ≤ ax_len k2 then
      (match ax_ty k, ax_ty k2 with
      | 1, 1 => some (none, ax_cpi m k i k2 i2 sp.toNatClampNeg dp.toNatClampNeg n.toNatClampNeg)
      | 3, 3 => some (none, ax_cpl m k i k2 i2 sp.toNatClampNeg dp.toNatClampNeg n.toNatClampNeg)
      | _, _ => none) else none
  | 1, .inr (.inr (42, i)) :: [] => some (some (.inl (Int32.ofNat (ax_word i).length)), m)
  | 2, .inr (.inr (42, i)) :: .inl j :: [] => if ax_ok j (ax_word i).length = true then some (some (.inl (ax_chr i j.toNatClampNeg)), m) else none
  | 3, .inl x :: .inl y :: [] => some (some (.inl (ax_max x y)), m)
  | 4, .inl x :: .inl y :: [] => some (some (.inl (ax_min x y)), m)
  | 5, .inl x :: [] => some (some (.inl (ax_abs x)), m)
  | _, _ => none
def ax_cats : List ax_V → Nat
  | [] => 0
  | .inr (.inl _) :: l => ax_cats l + 2
  | _ :: l => ax_cats l + 1
def ax_head (st : Bool) (rk : Nat) (a : List ax_V) : Bool := match st, a with
  | true, _ => true
  | false, .inr (.inr (k, _)) :: _ => k == rk
  | _, _ => false
def ax_call (nx : List ax_V → ax_M → Option ax_R) (cl : Nat → List ax_V → ax_M → Option ax_R) (pr : Nat → List ax_V → ax_M → Option ax_R) (b : Bool) (st : List ax_V) (m : ax_M) (info : List Nat) : Option ax_R := match info with
  | 0 :: mt :: argc :: rk :: _ => (match ax_pops argc [] st with
    | some (a, r) => if ax_head b rk a = true then (if ax_cats r ≤ 8 then ax_aft nx r (cl mt a m) else none) else none
    | none => none)
  | 1 :: p :: argc :: _ => (match ax_pops argc [] st with
    | some (a, r) => if ax_cats r ≤ 8 then ax_aft nx r (pr p a m) else none
    | none => none)
  | _ => none
def ax_arr (nx : List ax_V → Option ax_R) (st : List ax_V) (m : ax_M) (t : Nat) : Option ax_R := match st with
  | .inl j :: .inr (.inr (k, i)) :: r => if ax_ty k = t then (if ax_ok j (ax_len k) = true then nx (.inl (m.1 k i j.toNatClampNeg) :: r) else none) else if ax_ty k = 6 then (if t = 1 then (if ax_ok j (ax_len k) = true then nx (.inl (ax_sta k j.toNatClampNeg) :: r) else none) else none) else none
  | _ => none
def ax_step (nx : Nat → ax_L → List ax_V → ax_M → Option ax_R) (cl : Nat → List ax_V → ax_M → Option ax_R) (pr : Nat → List ax_V → ax_M → Option ax_R) (e : ax_E) (k : Nat) (lv : ax_L) (st : List ax_V) (m : ax_M) : Option ax_R :=
  match e with
  | (_, ins, info, cv) =>
  let ldi : Nat → Option ax_R := fun j => match ax_nth lv j with
    | some (some (.inl x)) => nx (k + 1) lv (.inl x :: st) m
    | _ => none
  let ldl : Nat → Option ax_R := fun j => match ax_nth lv j with
    | some (some (.inr (.inl x))) => nx (k + 1) lv (.inr (.inl x) :: st) m
    | _ => none
  let lda : Nat → Option ax_R := fun j => match ax_nth lv j with
    | some (some (.inr (.inr x))) => nx (k + 1) lv (.inr (.inr x) :: st) m
    | _ => none
  let sti : Nat → Option ax_R := fun j => match st with
    | .inl x :: r => if j < lv.length then nx (k + 1) (ax_stv lv j (.inl x)) r m else none
    | _ => none
  let stl : Nat → Option ax_R := fun j => match st with
    | .inr (.inl x) :: r => if j + 1 < lv.length then nx (k + 1) (ax_stw lv j (.inr (.inl x))) r m else none
    | _ => none
  let sta : Nat → Option ax_R := fun j => match st with
    | .inr (.inr x) :: r => if j < lv.length then nx (k + 1) (ax_stv lv j (.inr (.inr x))) r m else none
    | _ => none
  let bi : (Int32 → Int32 → Int32) → Option ax_R := fun f => match st with
    | .inl y :: .inl x :: r => nx (k + 1) lv (.inl (f x y) :: r) m
    | _ => none
  let bl : (Int64 → Int64 → Int64) → Option ax_R := fun f => match st with
    | .inr (.inl y) :: .inr (.inl x) :: r => nx (k + 1) lv (.inr (.inl (f x y)) :: r) m
    | _ => none
  let ui : (Int32 → Int32) → Option ax_R := fun f => match st with
    | .inl x :: r => nx (k + 1) lv (.inl (f x) :: r) m
    | _ => none
  match ins with
  | .aload_n j => lda j.val
  | .aload j => lda j
  | .iload_n j => ldi j.val
  | .iload j => ldi j
  | .lload_n j => ldl j.val
  | .lload j => ldl j
  | .istore_n j => sti j.val
  | .istore j => sti j
  | .lstore_n j => stl j.val
  | .lstore j => stl j
  | .astore_n j => sta j.val
  | .astore j => sta j
  | .iconst _ => nx (k + 1) lv (cv :: st) m
  | .bipush _ => nx (k + 1) lv (cv :: st) m
  | .sipush _ => nx (k + 1) lv (cv :: st) m
  | .lconst _ => nx (k + 1) lv (cv :: st) m
  | .ldc _ => nx (k + 1) lv (cv :: st) m
  | .ldc_w _ => nx (k + 1) lv (cv :: st) m
  | .ldc2_w _ => nx (k + 1) lv (cv :: st) m
  | .getstatic _ => nx (k + 1) lv (cv :: st) m
  | .iadd => bi (fun x y => x + y)
  | .isub => bi (fun x y => x - y)
  | .imul => bi (fun x y => x * y)
  | .iand => bi (fun x y => x &&& y)
  | .ior => bi (fun x y => x ||| y)
  | .ixor => bi (fun x y => x ^^^ y)
  | .ishl => bi (fun x y => x <<< (y &&& 31))
  | .ishr => bi (fun x y => x >>> (y &&& 31))
  | .iushr => bi (fun x y => (x.toUInt32 >>> (y.toUInt32 &&& Int32.toUInt32 31)).toInt32)
  | .ineg => ui (fun x => -x)
  | .i2b => ui (fun x => x.toInt8.toInt32)
  | .i2s => ui (fun x => x.toInt16.toInt32)
  | .idiv => (match st with
    | .inl y :: .inl x :: r => if y = 0 then none else nx (k + 1) lv (.inl (x / y) :: r) m
    | _ => none)
  | .irem => (match st with
    | .inl y :: .inl x :: r => if y = 0 then none else nx (k + 1) lv (.inl (x - x / y * y) :: r) m
    | _ => none)
  | .ladd => bl (fun x y => x + y)
  | .lsub => bl (fun x y => x - y)
  | .land => bl (fun x y => x &&& y)
  | .lor => bl (fun x y => x ||| y)
  | .lxor => bl (fun x y => x ^^^ y)
  | .lshl => (match st with
    | .inl y :: .inr (.inl x) :: r => nx (k + 1) lv (.inr (.inl (x <<< (y.toInt64 &&& 63))) :: r) m
    | _ => none)
  | .lushr => (match st with
    | .inl y :: .inr (.inl x) :: r => nx (k + 1) lv (.inr (.inl (x.toUInt64 >>> (y.toInt64.toUInt64 &&& Int64.toUInt64 63)).toInt64) :: r) m
    | _ => none)
  | .lneg => (match st with
    | .inr (.inl x) :: r => nx (k + 1) lv (.inr (.inl (-x)) :: r) m
    | _ => none)
  | .i2l => (match st with
    | .inl x :: r => nx (k + 1) lv (.inr (.inl x.toInt64) :: r) m
    | _ => none)
  | .l2i => (match st with
    | .inr (.inl x) :: r => nx (k + 1) lv (.inl x.toInt32 :: r) m
    | _ => none)
  | .lcmp => (match st with
    | .inr (.inl y) :: .inr (.inl x) :: r => nx (k + 1) lv (.inl (lg_cmp x y) :: r) m
    | _ => none)
  | .iinc j _ => (match ax_nth lv j, cv with
    | some (some (.inl x)), .inl c => if j < lv.length then nx (k + 1) (ax_stv lv j (.inl (x + c))) st m else none
    | _, _ => none)
  | .dup => (match st with
    | .inl x :: r => nx (k + 1) lv (.inl x :: .inl x :: r) m
    | .inr (.inr x) :: r => nx (k + 1) lv (.inr (.inr x) :: .inr (.inr x) :: r) m
    | _ => none)
  | .dup_x1 => (match st with
    | .inl x :: .inr (.inr y) :: r => nx (k + 1) lv (.inl x :: .inr (.inr y) :: .inl x :: r) m
    | _ => none)
  | .dup2 => (match st with
    | .inl x :: .inr (.inr y) :: r => nx (k + 1) lv (.inl x :: .inr (.inr y) :: .inl x :: .inr (.inr y) :: r) m
    | _ => none)
  | .pop => (match st with
    | .inl _ :: r => nx (k + 1) lv r m
    | _ => none)
  | .goto _ => (match info with
    | t :: _ => nx t lv st m
    | _ => none)
  | .ifCond c _ => (match info, st with
    | t :: _, .inl x :: r => ax_cmp c x 0 (nx t lv r m) (nx (k + 1) lv r m)
    | _, _ => none)
  | .if_icmp c _ => (match info, st with
    | t :: _, .inl y :: .inl x :: r => ax_cmp c x y (nx t lv r m) (nx (k + 1) lv r m)
    | _, _ => none)
  | .tableswitch _ lo _ _ => (match info, st with
    | d :: ts, .inl x :: r => ax_sw x (fun t => nx t lv r m) d lo.toNat ts
    | _, _ => none)
  | .getfield _ => ax_fld (fun s => nx (k + 1) lv s m) st m info
  | .putfield _ => ax_pfld (fun s m' => nx (k + 1) lv s m') st m info
  | .iaload => ax_arr (fun s => nx (k + 1) lv s m) st m 1
  | .baload => ax_arr (fun s => nx (k + 1) lv s m) st m 2
  | .laload => (match st with
    | .inl j :: .inr (.inr (q, i)) :: r => if ax_ty q = 3 then (if ax_ok j (ax_len q) = true then nx (k + 1) lv (.inr (.inl (m.2 q i j.toNatClampNeg)) :: r) m else none) else none
    | _ => none)
  | .aaload => (match st with
    | .inl j :: .inr (.inr (q, i)) :: r => if ax_ok j (ax_len q) = true then (match ax_ty q with
      | 4 => nx (k + 1) lv (.inr (.inr (6, 16 * i + j.toNatClampNeg)) :: r) m
      | 5 => nx (k + 1) lv (.inr (.inr (8, 8 * i + j.toNatClampNeg)) :: r) m
      | _ => none) else none
    | _ => none)
  | .iastore => (match st with
    | .inl x :: .inl j :: .inr (.inr (q, i)) :: r => if ax_ty q = 1 then (if ax_ok j (ax_len q) = true then nx (k + 1) lv r (ax_ui m q i j.toNatClampNeg x) else none) else none
    | _ => none)
  | .bastore => (match st with
    | .inl x :: .inl j :: .inr (.inr (q, i)) :: r => if ax_ty q = 2 then (if ax_ok j (ax_len q) = true then (if x = 0 ∨ x = 1 then nx (k + 1) lv r (ax_ui m q i j.toNatClampNeg x) else none) else none) else none
    | _ => none)
  | .lastore => (match st with
    | .inr (.inl x) :: .inl j :: .inr (.inr (q, i)) :: r => if ax_ty q = 3 then (if ax_ok j (ax_len q) = true then nx (k + 1) lv r (ax_ul m q i j.toNatClampNeg x) else none) else none
    | _ => none)
  | .arraylength => (match st with
    | .inr (.inr (q, _)) :: r => if ax_ty q = 1 ∨ ax_ty q = 3 then nx (k + 1) lv (.inl (Int32.ofNat (ax_len q)) :: r) m else none
    | _ => none)
  | .invokevirtual _ => ax_call (fun s m' => nx (k + 1) lv s m') cl pr false st m info
  | .invokestatic _ => ax_call (fun s m' => nx (k + 1) lv s m') cl pr true st m info
  | .ireturn => (match info, st with
    | 0 :: _, [.inl x] => some (some (.inl x), m)
    | 1 :: _, [.inl x] => if x = 0 ∨ x = 1 then some (some (.inl x), m) else none
    | _, _ => none)
  | .lreturn => (match st with
    | [.inr (.inl x)] => some (some (.inr (.inl x)), m)
    | _ => none)
  | .return_ => (match st with
    | [] => some (none, m)
    | _ => none)
  | _ => none
