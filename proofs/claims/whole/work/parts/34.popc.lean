/-! POPULATION COUNT of ints and longs; the lowest -/
def tn (x : Int64) : Nat := x.toBitVec.toNat
def ti (x : Int32) : Nat := x.toBitVec.toNat
theorem tn_lt (x : Int64) : tn x < 2 ^ 64 := x.toBitVec.isLt
theorem ti_lt (x : Int32) : ti x < 2 ^ 32 := x.toBitVec.isLt
theorem tn_and (x y : Int64) : tn (x &&& y) = tn x &&& tn y := by unfold tn; rw [Int64.toBitVec_and, BitVec.toNat_and]
theorem ti_and (x y : Int32) : ti (x &&& y) = ti x &&& ti y := by unfold ti; rw [Int32.toBitVec_and, BitVec.toNat_and]
theorem tn_add {x y : Int64} (h : tn x + tn y < 2 ^ 64) : tn (x + y) = tn x + tn y := by
  unfold tn at *
  rw [Int64.toBitVec_add, BitVec.toNat_add, Nat.mod_eq_of_lt h]
theorem ti_add {x y : Int32} (h : ti x + ti y < 2 ^ 32) : ti (x + y) = ti x + ti y := by
  unfold ti at *
  rw [Int32.toBitVec_add, BitVec.toNat_add, Nat.mod_eq_of_lt h]
theorem tn_sub {x y : Int64} (h : tn y ≤ tn x) : tn (x - y) = tn x - tn y := by
  unfold tn at *
  rw [Int64.toBitVec_sub, BitVec.toNat_sub_of_le h]
theorem ti_sub {x y : Int32} (h : ti y ≤ ti x) : ti (x - y) = ti x - ti y := by
  unfold ti at *
  rw [Int32.toBitVec_sub, BitVec.toNat_sub_of_le h]
theorem tn_shr (n : Nat) (hn : n < 64) (x : Int64) : tn (ax_lushr x (nI n)) = tn x / 2 ^ n := by
  show (x.toUInt64 >>> ((nI n).toInt64.toUInt64 &&& Int64.toUInt64 63)).toBitVec.toNat = x.toUInt64.toBitVec.toNat / 2 ^ n
  rw [UInt64.toBitVec_shiftRight]
  show (x.toUInt64.toBitVec >>> (((nI n).toInt64.toUInt64 &&& Int64.toUInt64 63).toBitVec % 64).toNat).toNat = _
  rw [xs_u n hn, BitVec.toNat_ushiftRight, Nat.shiftRight_eq_div_pow]
theorem ti_shr (n : Nat) (hn : n < 32) (x : Int32) : ti (ax_iushr x (nI n)) = ti x / 2 ^ n := by
  show (x.toUInt32 >>> ((nI n).toUInt32 &&& Int32.toUInt32 31)).toBitVec.toNat = x.toUInt32.toBitVec.toNat / 2 ^ n
  rw [UInt32.toBitVec_shiftRight]
  show (x.toUInt32.toBitVec >>> (((nI n).toUInt32 &&& Int32.toUInt32 31).toBitVec % 32).toNat).toNat = _
  rw [s_u n hn, BitVec.toNat_ushiftRight, Nat.shiftRight_eq_div_pow]
/-- a natural by its bits -/
def zbn (b : Bool) : Nat := if b = true then 1 else 0
theorem zbn_le (b : Bool) : zbn b ≤ 1 := by cases b <;> decide
theorem dg_bits : ∀ (n N : Nat), N < 2 ^ n → N = dg 2 (fun i => zbn (N.testBit i)) n
  | 0, N, h => by simp at h; subst h; rfl
  | n + 1, N, h => by
    rw [dg]
    have ih := dg_bits n (N / 2) (by rw [Nat.pow_succ] at h; omega)
    have e : dg 2 (fun i => zbn (N.testBit (i + 1))) n = dg 2 (fun i => zbn ((N / 2).testBit i)) n := dg_congr (fun j _ => by rw [Nat.testBit_succ])
    rw [e, ← ih, Nat.testBit_zero]
    have h2 : zbn (decide (N % 2 = 1)) = N % 2 := by
      rcases (by omega : N % 2 = 0 ∨ N % 2 = 1) with h3 | h3 <;> rw [h3] <;> rfl
    rw [h2]
    omega
theorem tn_dg (x : Int64) : tn x = dg 2 (fun i => zbn (xb x i)) 64 := dg_bits 64 _ (tn_lt x)
theorem ti_dg (x : Int32) : ti x = dg 2 (fun i => zbn (bt x i)) 32 := dg_bits 32 _ (ti_lt x)
/-- sums -/
def zsum (f : Nat → Nat) : Nat → Nat
  | 0 => 0
  | n + 1 => zsum f n + f n
theorem zsum_congr {f g : Nat → Nat} : ∀ {n : Nat}, (∀ j, j < n → f j = g j) → zsum f n = zsum g n
  | 0, _ => rfl
  | n + 1, h => by rw [zsum, zsum, zsum_congr (fun j hj => h j (by omega)), h n (by omega)]
theorem zc_zsum (f : Nat → Bool) : ∀ n, zc f n = zsum (fun i => zbn (f i)) n
  | 0 => rfl
  | n + 1 => by rw [zc, zsum, zc_zsum f n]; rfl
theorem dg_last {B : Nat} {f : Nat → Nat} {n : Nat} (h : f n = 0) : dg B f (n + 1) = dg B f n := by
  induction n generalizing f with
  | zero => simp [dg, h]
  | succ n ih =>
    have := ih (f := fun j => f (j + 1)) h
    rw [dg, this]
    rfl
/-- bytes: all added up in the lowest -/
theorem pop_4 {e : Nat → Nat} {n : Nat} (he : ∀ j, e j ≤ 8) (h0 : e n = 0) : dg 256 e n + dg 256 e n / 256 = dg 256 (fun j => e j + e (j + 1)) n := by
  rw [dg_div (by decide) (fun j _ => by have := he j; omega) h0, dg_add]
theorem pop_5 {e : Nat → Nat} {n : Nat} (he : ∀ j, e j ≤ 16) (h0 : e n = 0) (h1 : e (n + 1) = 0) : dg 256 e n + dg 256 e n / 65536 = dg 256 (fun j => e j + e (j + 2)) n := by
  rw [show (65536 : Nat) = 256 * 256 from rfl, ← Nat.div_div_eq_div_mul, dg_div (by decide) (fun j _ => by have := he j; omega) h0, dg_div (f := fun j => e (j + 1)) (by decide) (fun j _ => by have := he (j + 1); omega) h1, dg_add]
theorem pop_6 {e : Nat → Nat} {n : Nat} (he : ∀ j, e j ≤ 32) (h0 : e n = 0) (h1 : e (n + 1) = 0) (h2 : e (n + 2) = 0) (h3 : e (n + 3) = 0) : dg 256 e n + dg 256 e n / 4294967296 = dg 256 (fun j => e j + e (j + 4)) n := by
  rw [show (4294967296 : Nat) = 256 * 256 * 256 * 256 from rfl, ← Nat.div_div_eq_div_mul, ← Nat.div_div_eq_div_mul, ← Nat.div_div_eq_div_mul, dg_div (by decide) (fun j _ => by have := he j; omega) h0, dg_div (f := fun j => e (j + 1)) (by decide) (fun j _ => by have := he (j + 1); omega) h1, dg_div (f := fun j => e (j + 1 + 1)) (by decide) (fun j _ => by have := he (j + 1 + 1); omega) h2, dg_div (f := fun j => e (j + 1 + 1 + 1)) (by decide) (fun j _ => by have := he (j + 1 + 1 + 1); omega) h3, dg_add]
theorem pk64 {b : Nat → Nat} (hb : ∀ j, b j ≤ 1) (hz : ∀ j, 64 ≤ j → b j = 0) {x y1 y2 y3 y4 y5 y6 : Int64} (hx : tn x = dg 2 b 64) (e1 : y1 = x - (ax_lushr x 1 &&& 6148914691236517205)) (e2 : y2 = (y1 &&& 3689348814741910323) + (ax_lushr y1 2 &&& 3689348814741910323)) (e3 : y3 = (y2 + ax_lushr y2 4) &&& 1085102592571150095) (e4 : y4 = y3 + ax_lushr y3 8) (e5 : y5 = y4 + ax_lushr y4 16) (e6 : y6 = y5 + ax_lushr y5 32) : tn y6 % 256 = zsum b 64 := by
  have l1 : tn (ax_lushr x 1) = dg 2 b 64 / 2 := by rw [show (1 : Int32) = nI 1 from rfl, tn_shr 1 (by omega), hx]
  have c1 : tn (6148914691236517205 : Int64) = dg 4 (fun _ => 1) 32 := by decide +kernel
  have c2 : tn (3689348814741910323 : Int64) = dg 16 (fun _ => 3) 16 := by decide +kernel
  have c3 : tn (1085102592571150095 : Int64) = dg 256 (fun _ => 15) 8 := by decide +kernel
  have p1 := pop_1 (n := 32) hb (hz 64 (by omega))
  obtain ⟨c, hc⟩ : ∃ c : Nat → Nat, c = fun j => b (2 * j) + b (2 * j + 1) := ⟨_, rfl⟩
  have hcb : ∀ j, c j ≤ 2 := fun j => by rw [hc]; have := hb (2 * j); have := hb (2 * j + 1); show b (2 * j) + b (2 * j + 1) ≤ 2; omega
  have hcz : ∀ j, 32 ≤ j → c j = 0 := fun j hj => by rw [hc]; show b (2 * j) + b (2 * j + 1) = 0; rw [hz _ (by omega), hz _ (by omega)]
  have t1 : tn y1 = dg 4 c 32 := by
    rw [e1, tn_sub (by rw [tn_and, l1, c1, hx]; exact p1.2), tn_and, l1, c1, hx, hc]
    exact p1.1
  have p2 := pop_2 (n := 16) hcb (hcz 32 (by omega))
  obtain ⟨e, he⟩ : ∃ e : Nat → Nat, e = fun j => c (2 * j) + c (2 * j + 1) := ⟨_, rfl⟩
  have heb : ∀ j, e j ≤ 4 := fun j => by rw [he]; have := hcb (2 * j); have := hcb (2 * j + 1); show c (2 * j) + c (2 * j + 1) ≤ 4; omega
  have hez : ∀ j, 16 ≤ j → e j = 0 := fun j hj => by rw [he]; show c (2 * j) + c (2 * j + 1) = 0; rw [hcz _ (by omega), hcz _ (by omega)]
  have t2 : tn y2 = dg 16 e 16 := by
    have hs : tn (y1 &&& 3689348814741910323) + tn (ax_lushr y1 2 &&& 3689348814741910323) = dg 16 e 16 := by
      rw [tn_and, tn_and, show (2 : Int32) = nI 2 from rfl, tn_shr 2 (by omega), t1, c2, he]
      exact p2
    rw [e2, tn_add (by rw [hs]; exact Nat.lt_of_lt_of_le (dg_lt (by decide) (fun j _ => by have := heb j; omega)) (by decide)), hs]
  have p3 := pop_3 (n := 8) heb (hez 16 (by omega))
  obtain ⟨g, hg⟩ : ∃ g : Nat → Nat, g = fun j => e (2 * j) + e (2 * j + 1) := ⟨_, rfl⟩
  have hgb : ∀ j, g j ≤ 8 := fun j => by rw [hg]; have := heb (2 * j); have := heb (2 * j + 1); show e (2 * j) + e (2 * j + 1) ≤ 8; omega
  have hgz : ∀ j, 8 ≤ j → g j = 0 := fun j hj => by rw [hg]; show e (2 * j) + e (2 * j + 1) = 0; rw [hez _ (by omega), hez _ (by omega)]
  have t3 : tn y3 = dg 256 g 8 := by
    have hs : tn y2 + tn (ax_lushr y2 4) = dg 16 e 16 + dg 16 e 16 / 16 := by rw [show (4 : Int32) = nI 4 from rfl, tn_shr 4 (by omega), t2]
    have hlt : dg 16 e 16 + dg 16 e 16 / 16 < 2 ^ 64 := by
      rw [dg_div (n := 16) (by decide) (fun j _ => by have := heb j; omega) (hez 16 (by omega)), dg_add]
      exact Nat.lt_of_lt_of_le (dg_lt (by decide) (fun j _ => by have := heb j; have := heb (j + 1); omega)) (by decide)
    rw [e3, tn_and, tn_add (by rw [hs]; exact hlt), hs, c3, hg]
    exact p3
  have p4 := pop_4 (n := 8) hgb (hgz 8 (by omega))
  have t4 : tn y4 = dg 256 (fun j => g j + g (j + 1)) 8 := by
    have hs : tn y3 + tn (ax_lushr y3 8) = dg 256 (fun j => g j + g (j + 1)) 8 := by rw [show (8 : Int32) = nI 8 from rfl, tn_shr 8 (by omega), t3]; exact p4
    rw [e4, tn_add (by rw [hs]; exact Nat.lt_of_lt_of_le (dg_lt (by decide) (fun j _ => by have := hgb j; have := hgb (j + 1); omega)) (by decide)), hs]
  have p5 := pop_5 (n := 8) (e := fun j => g j + g (j + 1)) (fun j => by have := hgb j; have := hgb (j + 1); show g j + g (j + 1) ≤ 16; omega) (by show g 8 + g 9 = 0; rw [hgz 8 (by omega), hgz 9 (by omega)]) (by show g 9 + g 10 = 0; rw [hgz 9 (by omega), hgz 10 (by omega)])
  have t5 : tn y5 = dg 256 (fun j => (g j + g (j + 1)) + (g (j + 2) + g (j + 2 + 1))) 8 := by
    have hs : tn y4 + tn (ax_lushr y4 16) = dg 256 (fun j => (g j + g (j + 1)) + (g (j + 2) + g (j + 2 + 1))) 8 := by rw [show (16 : Int32) = nI 16 from rfl, tn_shr 16 (by omega), t4]; exact p5
    rw [e5, tn_add (by rw [hs]; exact Nat.lt_of_lt_of_le (dg_lt (by decide) (fun j _ => by have := hgb j; have := hgb (j + 1); have := hgb (j + 2); have := hgb (j + 2 + 1); omega)) (by decide)), hs]
  have p6 := pop_6 (n := 8) (e := fun j => (g j + g (j + 1)) + (g (j + 2) + g (j + 2 + 1))) (fun j => by have := hgb j; have := hgb (j + 1); have := hgb (j + 2); have := hgb (j + 2 + 1); show (g j + g (j + 1)) + (g (j + 2) + g (j + 2 + 1)) ≤ 32; omega)
    (by show (g 8 + g 9) + (g 10 + g 11) = 0; rw [hgz 8 (by omega), hgz 9 (by omega), hgz 10 (by omega), hgz 11 (by omega)])
    (by show (g 9 + g 10) + (g 11 + g 12) = 0; rw [hgz 9 (by omega), hgz 10 (by omega), hgz 11 (by omega), hgz 12 (by omega)])
    (by show (g 10 + g 11) + (g 12 + g 13) = 0; rw [hgz 10 (by omega), hgz 11 (by omega), hgz 12 (by omega), hgz 13 (by omega)])
    (by show (g 11 + g 12) + (g 13 + g 14) = 0; rw [hgz 11 (by omega), hgz 12 (by omega), hgz 13 (by omega), hgz 14 (by omega)])
  have hs6 : tn y5 + tn (ax_lushr y5 32) = dg 256 (fun j => (g j + g (j + 1)) + (g (j + 2) + g (j + 2 + 1)) + ((g (j + 4) + g (j + 4 + 1)) + (g (j + 4 + 2) + g (j + 4 + 2 + 1)))) 8 := by rw [show (32 : Int32) = nI 32 from rfl, tn_shr 32 (by omega), t5]; exact p6
  rw [e6, tn_add (by rw [hs6]; exact Nat.lt_of_lt_of_le (dg_lt (by decide) (fun j _ => by have := hgb j; have := hgb (j + 1); have := hgb (j + 2); have := hgb (j + 2 + 1); have := hgb (j + 4); have := hgb (j + 4 + 1); have := hgb (j + 4 + 2); have := hgb (j + 4 + 2 + 1); omega)) (by decide)), hs6, dg, Nat.add_mul_mod_self_left, Nat.mod_eq_of_lt (by have := hgb 0; have := hgb (0 + 1); have := hgb (0 + 2); have := hgb (0 + 2 + 1); have := hgb (0 + 4); have := hgb (0 + 4 + 1); have := hgb (0 + 4 + 2); have := hgb (0 + 4 + 2 + 1); omega)]
  rw [hg, he, hc]
  simp only [zsum, Nat.reduceMul, Nat.reduceAdd]
  omega
theorem zc_bound (f : Nat → Bool) (n : Nat) : zsum (fun i => zbn (f i)) n ≤ n := by rw [← zc_zsum]; exact zc_le f n
theorem ti_nI {n : Nat} (h : n < 2 ^ 31) : ti (nI n) = n := pk_tn (by omega)
theorem ti_ext {x y : Int32} (h : ti x = ti y) : x = y := Int32.toBitVec_inj.mp (BitVec.eq_of_toNat_eq h)
theorem J_bitL (x : Int64) : F_J13_bitCount_95d88 x = some (nI (zc (xb x) 64)) := by
  unfold F_J13_bitCount_95d88
  obtain ⟨y1, e1⟩ : ∃ y, y = x - (ax_lushr x 1 &&& 6148914691236517205) := ⟨_, rfl⟩
  rw [← e1]
  obtain ⟨y2, e2⟩ : ∃ y, y = (y1 &&& 3689348814741910323) + (ax_lushr y1 2 &&& 3689348814741910323) := ⟨_, rfl⟩
  rw [← e2]
  obtain ⟨y3, e3⟩ : ∃ y, y = (y2 + ax_lushr y2 4) &&& 1085102592571150095 := ⟨_, rfl⟩
  rw [← e3]
  obtain ⟨y4, e4⟩ : ∃ y, y = y3 + ax_lushr y3 8 := ⟨_, rfl⟩
  rw [← e4]
  obtain ⟨y5, e5⟩ : ∃ y, y = y4 + ax_lushr y4 16 := ⟨_, rfl⟩
  rw [← e5]
  obtain ⟨y6, e6⟩ : ∃ y, y = y5 + ax_lushr y5 32 := ⟨_, rfl⟩
  rw [← e6]
  have h := pk64 (b := fun i => zbn (xb x i)) (fun j => zbn_le _) (fun j hj => by show zbn (xb x j) = 0; rw [x_big hj]; rfl) (tn_dg x) e1 e2 e3 e4 e5 e6
  have hb := zc_bound (xb x) 64
  rw [zc_zsum]
  refine congrArg some (ti_ext ?_)
  rw [ti_nI (by omega), ti_and, show ti 127 = 2 ^ 7 - 1 by decide, Nat.and_two_pow_sub_one_eq_mod]
  have h2 : ti y6.toInt32 = tn y6 % 2 ^ 32 := by
    unfold ti tn
    rw [Int64.toBitVec_toInt32, BitVec.signExtend_eq_setWidth_of_le _ (by omega), BitVec.toNat_setWidth]
  rw [h2]
  omega
theorem pk32 {b : Nat → Nat} (hb : ∀ j, b j ≤ 1) (hz : ∀ j, 32 ≤ j → b j = 0) {x y1 y2 y3 y4 y5 : Int32} (hx : ti x = dg 2 b 32) (e1 : y1 = x - (ax_iushr x 1 &&& 1431655765)) (e2 : y2 = (y1 &&& 858993459) + (ax_iushr y1 2 &&& 858993459)) (e3 : y3 = (y2 + ax_iushr y2 4) &&& 252645135) (e4 : y4 = y3 + ax_iushr y3 8) (e5 : y5 = y4 + ax_iushr y4 16) : ti y5 % 256 = zsum b 32 := by
  have l1 : ti (ax_iushr x 1) = dg 2 b 32 / 2 := by rw [show (1 : Int32) = nI 1 from rfl, ti_shr 1 (by omega), hx]
  have c1 : ti (1431655765 : Int32) = dg 4 (fun _ => 1) 16 := by decide +kernel
  have c2 : ti (858993459 : Int32) = dg 16 (fun _ => 3) 8 := by decide +kernel
  have c3 : ti (252645135 : Int32) = dg 256 (fun _ => 15) 4 := by decide +kernel
  have p1 := pop_1 (n := 16) hb (hz 32 (by omega))
  obtain ⟨c, hc⟩ : ∃ c : Nat → Nat, c = fun j => b (2 * j) + b (2 * j + 1) := ⟨_, rfl⟩
  have hcb : ∀ j, c j ≤ 2 := fun j => by rw [hc]; have := hb (2 * j); have := hb (2 * j + 1); show b (2 * j) + b (2 * j + 1) ≤ 2; omega
  have hcz : ∀ j, 16 ≤ j → c j = 0 := fun j hj => by rw [hc]; show b (2 * j) + b (2 * j + 1) = 0; rw [hz _ (by omega), hz _ (by omega)]
  have t1 : ti y1 = dg 4 c 16 := by
    rw [e1, ti_sub (by rw [ti_and, l1, c1, hx]; exact p1.2), ti_and, l1, c1, hx, hc]
    exact p1.1
  have p2 := pop_2 (n := 8) hcb (hcz 16 (by omega))
  obtain ⟨e, he⟩ : ∃ e : Nat → Nat, e = fun j => c (2 * j) + c (2 * j + 1) := ⟨_, rfl⟩
  have heb : ∀ j, e j ≤ 4 := fun j => by rw [he]; have := hcb (2 * j); have := hcb (2 * j + 1); show c (2 * j) + c (2 * j + 1) ≤ 4; omega
  have hez : ∀ j, 8 ≤ j → e j = 0 := fun j hj => by rw [he]; show c (2 * j) + c (2 * j + 1) = 0; rw [hcz _ (by omega), hcz _ (by omega)]
  have t2 : ti y2 = dg 16 e 8 := by
    have hs : ti (y1 &&& 858993459) + ti (ax_iushr y1 2 &&& 858993459) = dg 16 e 8 := by
      rw [ti_and, ti_and, show (2 : Int32) = nI 2 from rfl, ti_shr 2 (by omega), t1, c2, he]
      exact p2
    rw [e2, ti_add (by rw [hs]; exact Nat.lt_of_lt_of_le (dg_lt (by decide) (fun j _ => by have := heb j; omega)) (by decide)), hs]
  have p3 := pop_3 (n := 4) heb (hez 8 (by omega))
  obtain ⟨g, hg⟩ : ∃ g : Nat → Nat, g = fun j => e (2 * j) + e (2 * j + 1) := ⟨_, rfl⟩
  have hgb : ∀ j, g j ≤ 8 := fun j => by rw [hg]; have := heb (2 * j); have := heb (2 * j + 1); show e (2 * j) + e (2 * j + 1) ≤ 8; omega
  have hgz : ∀ j, 4 ≤ j → g j = 0 := fun j hj => by rw [hg]; show e (2 * j) + e (2 * j + 1) = 0; rw [hez _ (by omega), hez _ (by omega)]
  have t3 : ti y3 = dg 256 g 4 := by
    have hs : ti y2 + ti (ax_iushr y2 4) = dg 16 e 8 + dg 16 e 8 / 16 := by rw [show (4 : Int32) = nI 4 from rfl, ti_shr 4 (by omega), t2]
    have hlt : dg 16 e 8 + dg 16 e 8 / 16 < 2 ^ 32 := by
      rw [dg_div (n := 8) (by decide) (fun j _ => by have := heb j; omega) (hez 8 (by omega)), dg_add]
      exact Nat.lt_of_lt_of_le (dg_lt (by decide) (fun j _ => by have := heb j; have := heb (j + 1); omega)) (by decide)
    rw [e3, ti_and, ti_add (by rw [hs]; exact hlt), hs, c3, hg]
    exact p3
  have p4 := pop_4 (n := 4) hgb (hgz 4 (by omega))
  have t4 : ti y4 = dg 256 (fun j => g j + g (j + 1)) 4 := by
    have hs : ti y3 + ti (ax_iushr y3 8) = dg 256 (fun j => g j + g (j + 1)) 4 := by rw [show (8 : Int32) = nI 8 from rfl, ti_shr 8 (by omega), t3]; exact p4
    rw [e4, ti_add (by rw [hs]; exact Nat.lt_of_lt_of_le (dg_lt (by decide) (fun j _ => by have := hgb j; have := hgb (j + 1); omega)) (by decide)), hs]
  have p5 := pop_5 (n := 4) (e := fun j => g j + g (j + 1)) (fun j => by have := hgb j; have := hgb (j + 1); show g j + g (j + 1) ≤ 16; omega) (by show g 4 + g 5 = 0; rw [hgz 4 (by omega), hgz 5 (by omega)]) (by show g 5 + g 6 = 0; rw [hgz 5 (by omega), hgz 6 (by omega)])
  have hs5 : ti y4 + ti (ax_iushr y4 16) = dg 256 (fun j => (g j + g (j + 1)) + (g (j + 2) + g (j + 2 + 1))) 4 := by rw [show (16 : Int32) = nI 16 from rfl, ti_shr 16 (by omega), t4]; exact p5
  rw [e5, ti_add (by rw [hs5]; exact Nat.lt_of_lt_of_le (dg_lt (by decide) (fun j _ => by have := hgb j; have := hgb (j + 1); have := hgb (j + 2); have := hgb (j + 2 + 1); omega)) (by decide)), hs5, dg, Nat.add_mul_mod_self_left, Nat.mod_eq_of_lt (by have := hgb 0; have := hgb (0 + 1); have := hgb (0 + 2); have := hgb (0 + 2 + 1); omega)]
  rw [hg, he, hc]
  simp only [zsum, Nat.reduceMul, Nat.reduceAdd]
  omega
theorem J_bitI (x : Int32) : F_J6_bitCount_0f7a4 x = some (nI (zc (bt x) 32)) := by
  unfold F_J6_bitCount_0f7a4
  obtain ⟨y1, e1⟩ : ∃ y, y = x - (ax_iushr x 1 &&& 1431655765) := ⟨_, rfl⟩
  rw [← e1]
  obtain ⟨y2, e2⟩ : ∃ y, y = (y1 &&& 858993459) + (ax_iushr y1 2 &&& 858993459) := ⟨_, rfl⟩
  rw [← e2]
  obtain ⟨y3, e3⟩ : ∃ y, y = (y2 + ax_iushr y2 4) &&& 252645135 := ⟨_, rfl⟩
  rw [← e3]
  obtain ⟨y4, e4⟩ : ∃ y, y = y3 + ax_iushr y3 8 := ⟨_, rfl⟩
  rw [← e4]
  obtain ⟨y5, e5⟩ : ∃ y, y = y4 + ax_iushr y4 16 := ⟨_, rfl⟩
  rw [← e5]
  have h := pk32 (b := fun i => zbn (bt x i)) (fun j => zbn_le _) (fun j hj => by show zbn (bt x j) = 0; rw [b_big hj]; rfl) (ti_dg x) e1 e2 e3 e4 e5
  have hb := zc_bound (bt x) 32
  rw [zc_zsum]
  refine congrArg some (ti_ext ?_)
  rw [ti_nI (by omega), ti_and, show ti 63 = 2 ^ 6 - 1 by decide, Nat.and_two_pow_sub_one_eq_mod]
  omega
theorem zc_cut {f : Nat → Bool} {n : Nat} : ∀ k, zc (fun i => decide (i < n) && f i) (n + k) = zc f n
  | 0 => zc_congr (fun i hi => by rw [decide_eq_true (by omega), Bool.true_and])
  | k + 1 => by
    rw [← Nat.add_assoc, zc, zc_cut k, decide_eq_false (by omega), Bool.false_and]
    rfl
theorem J_bitM {f : Nat → Bool} {n : Nat} (h : n ≤ 32) : F_J6_bitCount_0f7a4 (zm f n) = some (nI (zc f n)) := by
  rw [J_bitI, zc_congr (fun i _ => zm_bt f n h i), show 32 = n + (32 - n) by omega, zc_cut]
theorem J_bitS (f : Nat → Bool) : F_J13_bitCount_95d88 (lb f) = some (nI (zc f 64)) := by
  rw [J_bitL, zc_congr (fun i hi => xb_lb hi)]
/-- the lowest -/
theorem zlw {N j : Nat} (hj : j < 64) (hN : N < 2 ^ 64) (h1 : N.testBit j = true) (h2 : ∀ i, i < j → N.testBit i = false) : ∃ q, N = 2 ^ j * (2 * q + 1) := by
  have e1 : N % 2 ^ j = 0 := by
    apply Nat.eq_of_testBit_eq
    intro i
    rw [Nat.testBit_mod_two_pow, Nat.zero_testBit]
    by_cases h : i < j
    · rw [h2 i h, Bool.and_false]
    · rw [decide_eq_false h, Bool.false_and]
  have e2 : (N / 2 ^ j) % 2 = 1 := by
    have := h1
    rw [Nat.testBit_eq_decide_div_mod_eq] at this
    exact of_decide_eq_true this
  refine ⟨N / 2 ^ j / 2, ?_⟩
  have e3 : 2 * (N / 2 ^ j / 2) + 1 = N / 2 ^ j := by omega
  rw [e3]
  exact (Nat.mul_div_cancel' (Nat.dvd_of_mod_eq_zero e1)).symm
theorem tn_neg (x : Int64) : tn (-x) = (2 ^ 64 - tn x) % 2 ^ 64 := by
  unfold tn
  rw [Int64.toBitVec_neg, BitVec.toNat_neg]
theorem cs_low {f : Nat → Bool} {j : Nat} (hj : j < 64) (h1 : f j = true) (h2 : ∀ i, i < j → f i = false) : F_X0_lowest (lb f) = some (nI j) := by
  unfold F_X0_lowest
  obtain ⟨x, hx⟩ : ∃ x, x = lb f := ⟨_, rfl⟩
  rw [← hx]
  have hb : ∀ i, i < 64 → (tn x).testBit i = f i := fun i hi => by rw [← xb_lb (f := f) hi, ← hx]; rfl
  obtain ⟨q, hq⟩ := zlw hj (tn_lt x) (by rw [hb j hj]; exact h1) (fun i hi => by rw [hb i (by omega)]; exact h2 i hi)
  have hp : 0 < 2 ^ j := Nat.pow_pos (by decide)
  have hx0 : 0 < tn x := by rw [hq]; exact Nat.mul_pos hp (by omega)
  have hlt := tn_lt x
  have e1 : tn (x &&& -x) = 2 ^ j := by
    rw [tn_and, tn_neg, Nat.mod_eq_of_lt (by omega)]
    apply Nat.eq_of_testBit_eq
    intro i
    rw [Nat.testBit_and, show 2 ^ 64 - tn x = 2 ^ 64 - ((tn x - 1) + 1) by omega, Nat.testBit_two_pow_sub_succ (by omega)]
    have e2 : tn x - 1 = 2 ^ (j + 1) * q + (2 ^ j - 1) := by
      have h3 : tn x = 2 ^ (j + 1) * q + 2 ^ j := by rw [hq, Nat.mul_add, Nat.pow_succ, Nat.mul_one, Nat.mul_assoc]
      omega
    have e3 : tn x = 2 ^ (j + 1) * q + 2 ^ j := by rw [hq, Nat.mul_add, Nat.pow_succ, Nat.mul_one, Nat.mul_assoc]
    have l1 : 2 ^ j - 1 < 2 ^ (j + 1) := by rw [Nat.pow_succ]; omega
    have l2 : 2 ^ j < 2 ^ (j + 1) := by rw [Nat.pow_succ]; omega
    rw [e2, Nat.testBit_two_pow_mul_add _ l1]
    rw [e3, Nat.testBit_two_pow_mul_add _ l2]
    rw [Nat.testBit_two_pow, Nat.testBit_two_pow_sub_one]
    by_cases h : i < j + 1
    · rw [if_pos h, if_pos h, decide_eq_true (show i < 64 by omega), Bool.true_and]
      by_cases h4 : j = i
      · rw [decide_eq_true h4, decide_eq_false (by omega)]; rfl
      · rw [decide_eq_false h4, Bool.false_and]
    · rw [if_neg h, if_neg h, decide_eq_false (show ¬ j = i by omega)]
      cases q.testBit (i - (j + 1)) <;> simp
  have e4 : tn ((x &&& -x) - 1) = 2 ^ j - 1 := by
    rw [tn_sub (by rw [e1]; exact hp), e1]
    rfl
  rw [J_bitL, zz_bS]
  refine congrArg (fun z => some (nI z)) ?_
  rw [zc_congr (g := fun i => decide (i < j) && true) (fun i hi => ?_), show 64 = j + (64 - j) by omega, zc_cut]
  · clear hb e1 e4 hq hp hx0 hlt hx h1 h2
    induction j with
    | zero => rfl
    | succ j ih => rw [zc, ih (by omega)]; rfl
  · show (tn ((x &&& -x) - 1)).testBit i = _
    rw [e4, Nat.testBit_two_pow_sub_one, Bool.and_true]
