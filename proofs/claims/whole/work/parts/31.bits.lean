/-! BITS: ints and longs by their bits -/
theorem zz_leT {a b : Nat} (h : a ≤ b) (hb : b < 2 ^ 31) : (nI a ≤ nI b) = True := eq_true (nI_le h hb)
theorem zz_leF {a b : Nat} (h : b < a) (hb : a < 2 ^ 31) : (nI a ≤ nI b) = False := eq_false (nI_ge h hb)
theorem zz_ltT {a b : Nat} (h : a < b) (hb : b < 2 ^ 31) : (nI a < nI b) = True := eq_true (nI_lt h hb)
theorem zz_ltF {a b : Nat} (h : b ≤ a) (hb : a < 2 ^ 31) : (nI a < nI b) = False := eq_false (nI_nlt h hb)
theorem zz_eqT {a b : Nat} (h : a = b) : (nI a = nI b) = True := by rw [h]; exact eq_self _
theorem zz_eqF {a b : Nat} (h : a ≠ b) (ha : a < 2 ^ 31) (hb : b < 2 ^ 31) : (nI a = nI b) = False := eq_false (fun e => h ((nI_eq ha hb).mp e))
theorem zz_m1s {a : Nat} (ha : a < 2 ^ 31) : (-1 = nI a) = False := eq_false (fun h => by have := (zz_m1 ha); rw [h] at this; exact absurd (eq_self (nI a)) (by rw [this]; simp))
theorem zl_0 : (0 : Int32) = nI 0 := by decide
theorem zl_1 : (1 : Int32) = nI 1 := by decide
theorem zl_2 : (2 : Int32) = nI 2 := by decide
theorem zl_3 : (3 : Int32) = nI 3 := by decide
theorem zl_4 : (4 : Int32) = nI 4 := by decide
theorem zl_5 : (5 : Int32) = nI 5 := by decide
theorem zl_6 : (6 : Int32) = nI 6 := by decide
theorem zl_7 : (7 : Int32) = nI 7 := by decide
theorem zl_8 : (8 : Int32) = nI 8 := by decide
theorem zl_9 : (9 : Int32) = nI 9 := by decide
theorem zl_10 : (10 : Int32) = nI 10 := by decide
theorem zl_12 : (12 : Int32) = nI 12 := by decide
theorem zl_13 : (13 : Int32) = nI 13 := by decide
theorem zl_14 : (14 : Int32) = nI 14 := by decide
theorem zl_15 : (15 : Int32) = nI 15 := by decide
theorem zl_16 : (16 : Int32) = nI 16 := by decide
theorem zl_20 : (20 : Int32) = nI 20 := by decide
theorem zl_32 : (32 : Int32) = nI 32 := by decide
theorem zl_40 : (40 : Int32) = nI 40 := by decide
theorem zl_48 : (48 : Int32) = nI 48 := by decide
theorem zl_57 : (57 : Int32) = nI 57 := by decide
theorem zl_59 : (59 : Int32) = nI 59 := by decide
theorem zl_60 : (60 : Int32) = nI 60 := by decide
theorem zl_63 : (63 : Int32) = nI 63 := by decide
theorem zl_64 : (64 : Int32) = nI 64 := by decide
theorem zl_97 : (97 : Int32) = nI 97 := by decide
theorem zl_99 : (99 : Int32) = nI 99 := by decide
theorem zl_122 : (122 : Int32) = nI 122 := by decide
theorem zl_128 : (128 : Int32) = nI 128 := by decide
theorem zl_136 : (136 : Int32) = nI 136 := by decide
theorem zl_152 : (152 : Int32) = nI 152 := by decide
theorem zl_168 : (168 : Int32) = nI 168 := by decide
theorem zl_184 : (184 : Int32) = nI 184 := by decide
theorem zl_200 : (200 : Int32) = nI 200 := by decide
theorem zl_201 : (201 : Int32) = nI 201 := by decide
theorem zl_202 : (202 : Int32) = nI 202 := by decide
theorem zl_203 : (203 : Int32) = nI 203 := by decide
theorem zl_250 : (250 : Int32) = nI 250 := by decide
theorem zl_255 : (255 : Int32) = nI 255 := by decide
theorem zl_320 : (320 : Int32) = nI 320 := by decide
theorem zl_999 : (999 : Int32) = nI 999 := by decide
def bt (x : Int32) (i : Nat) : Bool := x.toBitVec.getLsbD i
theorem b_ext {x y : Int32} (h : ∀ i, i < 32 → bt x i = bt y i) : x = y := Int32.toBitVec_inj.mp (BitVec.eq_of_getLsbD_eq (fun i hi => h i hi))
theorem b_or (x y : Int32) (i : Nat) : bt (x ||| y) i = (bt x i || bt y i) := by unfold bt; rw [Int32.toBitVec_or, BitVec.getLsbD_or]
theorem b_and (x y : Int32) (i : Nat) : bt (x &&& y) i = (bt x i && bt y i) := by unfold bt; rw [Int32.toBitVec_and, BitVec.getLsbD_and]
theorem b_xor (x y : Int32) (i : Nat) : bt (x ^^^ y) i = (bt x i ^^ bt y i) := by unfold bt; rw [Int32.toBitVec_xor, BitVec.getLsbD_xor]
theorem b_big {x : Int32} {i : Nat} (h : 32 ≤ i) : bt x i = false := BitVec.getLsbD_of_ge _ _ h
theorem b_255 (i : Nat) : bt 255 i = decide (i < 8) := by
  rcases Nat.lt_or_ge i 32 with h | h
  · exact (by decide +kernel : ∀ i, i < 32 → bt 255 i = decide (i < 8)) i h
  · rw [b_big h, decide_eq_false (by omega)]
theorem b_65535 (i : Nat) : bt 65535 i = decide (i < 16) := by
  rcases Nat.lt_or_ge i 32 with h | h
  · exact (by decide +kernel : ∀ i, i < 32 → bt 65535 i = decide (i < 16)) i h
  · rw [b_big h, decide_eq_false (by omega)]
theorem b_m1 : ∀ i, i < 32 → bt (-1) i = true := by decide +kernel
theorem b_0 (i : Nat) : bt 0 i = false := BitVec.getLsbD_zero
theorem s_l : ∀ n, n < 32 → ((nI n &&& 31).toBitVec.smod 32).toNat = n := by decide +kernel
theorem s_u : ∀ n, n < 32 → (((nI n).toUInt32 &&& Int32.toUInt32 31).toBitVec % 32).toNat = n := by decide +kernel
theorem b_shl (n : Nat) (hn : n < 32) (x : Int32) {i : Nat} (hi : i < 32) : bt (x <<< (nI n &&& 31)) i = (decide (n ≤ i) && bt x (i - n)) := by
  unfold bt
  rw [Int32.toBitVec_shiftLeft]
  show (x.toBitVec <<< ((nI n &&& 31).toBitVec.smod 32).toNat).getLsbD i = _
  rw [s_l n hn, BitVec.getLsbD_shiftLeft]
  rcases Nat.lt_or_ge i n with h | h
  · simp [h, Nat.not_le.mpr h]
  · simp [hi, h, Nat.not_lt.mpr h]
theorem b_ushr (n : Nat) (hn : n < 32) (x : Int32) (i : Nat) : bt ((x.toUInt32 >>> ((nI n).toUInt32 &&& Int32.toUInt32 31)).toInt32) i = bt x (n + i) := by
  show (x.toUInt32 >>> ((nI n).toUInt32 &&& Int32.toUInt32 31)).toBitVec.getLsbD i = x.toUInt32.toBitVec.getLsbD (n + i)
  rw [UInt32.toBitVec_shiftRight]
  show (x.toUInt32.toBitVec >>> (((nI n).toUInt32 &&& Int32.toUInt32 31).toBitVec % 32).toNat).getLsbD i = _
  rw [s_u n hn, BitVec.getLsbD_ushiftRight]
theorem b_sshr (n : Nat) (hn : n < 32) (x : Int32) {i : Nat} (hi : i < 32) : bt (x >>> (nI n &&& 31)) i = if n + i < 32 then bt x (n + i) else bt x 31 := by
  unfold bt
  rw [Int32.toBitVec_shiftRight]
  show (x.toBitVec.sshiftRight ((nI n &&& 31).toBitVec.smod 32).toNat).getLsbD i = _
  rw [s_l n hn, BitVec.getLsbD_sshiftRight, BitVec.msb_eq_getLsbD_last]
  simp [hi]
theorem b_shl8 (x : Int32) {i : Nat} (hi : i < 32) : bt (x <<< ((8 : Int32) &&& 31)) i = (decide (8 ≤ i) && bt x (i - 8)) := b_shl 8 (by omega) x hi
theorem b_shl16 (x : Int32) {i : Nat} (hi : i < 32) : bt (x <<< ((16 : Int32) &&& 31)) i = (decide (16 ≤ i) && bt x (i - 16)) := b_shl 16 (by omega) x hi
theorem b_shl24 (x : Int32) {i : Nat} (hi : i < 32) : bt (x <<< ((24 : Int32) &&& 31)) i = (decide (24 ≤ i) && bt x (i - 24)) := b_shl 24 (by omega) x hi
theorem b_sshr8 (x : Int32) {i : Nat} (hi : i < 32) : bt (x >>> ((8 : Int32) &&& 31)) i = if 8 + i < 32 then bt x (8 + i) else bt x 31 := b_sshr 8 (by omega) x hi
theorem ts_nf {x : Bool} (h : ¬ x = false) : x = true := by cases x <;> first | rfl | exact absurd rfl h
theorem ts_nt {x : Bool} (h : ¬ x = true) : x = false := by cases x <;> first | rfl | exact absurd rfl h
theorem ts_bit {w : Int64} {s : UInt64} {j : Nat} (hj : j < 64) (hs : s.toNat = j) : ((w.toUInt64 >>> s).toInt64 &&& 1) = 0 ↔ w.toBitVec.getLsbD j = false := by
  have e : (w.toUInt64 >>> s).toInt64.toBitVec = w.toBitVec >>> j := by
    apply BitVec.eq_of_toNat_eq
    show (w.toUInt64 >>> s).toNat = _
    rw [UInt64.toNat_shiftRight, hs, Nat.mod_eq_of_lt hj, BitVec.toNat_ushiftRight]
    rfl
  rw [← Int64.toBitVec_inj, Int64.toBitVec_and, e]
  show w.toBitVec >>> j &&& 1#64 = 0#64 ↔ _
  constructor
  · intro h
    have t := congrArg (fun x => x.getLsbD 0) h
    simpa using t
  · intro h
    apply BitVec.eq_of_getLsbD_eq
    intro i hi
    cases i with
    | zero => simp [h]
    | succ i => simp
theorem ts_or {w m : Int64} {j : Nat} (hj : j < 64) (hm : m.toBitVec = BitVec.twoPow 64 j) : (w ||| m) = w ↔ w.toBitVec.getLsbD j = true := by
  rw [← Int64.toBitVec_inj, Int64.toBitVec_or, hm]
  constructor
  · intro h
    have t := congrArg (fun x => x.getLsbD j) h
    simp only [BitVec.getLsbD_or, BitVec.getLsbD_twoPow] at t
    simpa [hj] using t.symm
  · intro h
    apply BitVec.eq_of_getLsbD_eq
    intro i hi
    rw [BitVec.getLsbD_or, BitVec.getLsbD_twoPow]
    by_cases e : j = i
    · subst e; rw [h, Bool.true_or]
    · simp [e]
theorem ts_and {w m : Int64} {j : Nat} (hj : j < 64) (hm : m.toBitVec = BitVec.twoPow 64 j) : (w &&& (m ^^^ (-1))) = w ↔ w.toBitVec.getLsbD j = false := by
  have ha : (-1 : Int64).toBitVec = BitVec.allOnes 64 := by decide
  rw [← Int64.toBitVec_inj, Int64.toBitVec_and, Int64.toBitVec_xor, hm, ha]
  constructor
  · intro h
    have t := congrArg (fun x => x.getLsbD j) h
    simp only [BitVec.getLsbD_and, BitVec.getLsbD_xor, BitVec.getLsbD_twoPow, BitVec.getLsbD_allOnes] at t
    simpa [hj] using t.symm
  · intro h
    apply BitVec.eq_of_getLsbD_eq
    intro i hi
    rw [BitVec.getLsbD_and, BitVec.getLsbD_xor, BitVec.getLsbD_twoPow, BitVec.getLsbD_allOnes]
    by_cases e : j = i
    · subst e; rw [h, Bool.false_and]
    · simp [e, hi]
def zm (f : Nat → Bool) : Nat → Int32
  | 0 => 0
  | n + 1 => if f n = true then zm f n ||| ax_ishl 1 (nI n) else zm f n
theorem bt_1 {j : Nat} (h : j < 32) : bt 1 j = decide (j = 0) := (by decide +kernel : ∀ j, j < 32 → bt 1 j = decide (j = 0)) j h
theorem bt_one {k i : Nat} (hk : k < 32) : bt (ax_ishl 1 (nI k)) i = (decide (i = k)) := by
  rcases Nat.lt_or_ge i 32 with h | h
  · unfold ax_ishl
    rw [b_shl k hk 1 h]
    by_cases e : k ≤ i
    · rw [bt_1 (by omega), decide_eq_true e, Bool.true_and]
      exact decide_eq_decide.mpr (by omega)
    · rw [decide_eq_false e, decide_eq_false (by omega), Bool.false_and]
  · rw [b_big h, decide_eq_false (by omega)]
theorem zm_bt (f : Nat → Bool) : ∀ n, n ≤ 32 → ∀ i, bt (zm f n) i = (decide (i < n) && f i)
  | 0, _, i => by rw [zm, b_0, decide_eq_false (by omega), Bool.false_and]
  | n + 1, h, i => by
    have ih := zm_bt f n (by omega) i
    rw [zm]
    by_cases e : f n = true
    · rw [if_pos e, b_or, ih, bt_one (by omega)]
      by_cases e2 : i = n
      · subst e2
        simp [e]
      · rw [decide_eq_false e2, Bool.or_false, decide_eq_decide.mpr (show i < n ↔ i < n + 1 by omega)]
    · rw [if_neg e, ih]
      by_cases e2 : i = n
      · subst e2
        rw [ts_nt e, Bool.and_false, Bool.and_false]
      · rw [decide_eq_decide.mpr (show i < n ↔ i < n + 1 by omega)]
theorem zm_of {x : Int32} {f : Nat → Bool} {n : Nat} (hn : n ≤ 32) (h : ∀ i, i < 32 → bt x i = (decide (i < n) && f i)) : x = zm f n := b_ext (fun i hi => by rw [h i hi, zm_bt f n hn])
theorem zm_congr {f g : Nat → Bool} : ∀ {n : Nat}, (∀ k, k < n → f k = g k) → zm f n = zm g n
  | 0, _ => rfl
  | n + 1, h => by rw [zm, zm, zm_congr (fun k hk => h k (by omega)), h n (by omega)]
theorem zm_or {f g : Nat → Bool} {n : Nat} (hn : n ≤ 32) : zm f n ||| zm g n = zm (fun i => f i || g i) n := zm_of hn (fun i _ => by rw [b_or, zm_bt f n hn, zm_bt g n hn]; cases decide (i < n) <;> rfl)
theorem zm_and {f g : Nat → Bool} {n : Nat} (hn : n ≤ 32) : zm f n &&& zm g n = zm (fun i => f i && g i) n := zm_of hn (fun i _ => by rw [b_and, zm_bt f n hn, zm_bt g n hn]; cases decide (i < n) <;> cases f i <;> rfl)
theorem b_not {x : Int32} {i : Nat} (hi : i < 32) : bt (x ^^^ (-1)) i = !bt x i := by rw [b_xor, b_m1 i hi]; cases bt x i <;> rfl
theorem zm_andn {f g : Nat → Bool} {n : Nat} (hn : n ≤ 32) : zm f n &&& (zm g n ^^^ (-1)) = zm (fun i => f i && !g i) n := zm_of hn (fun i hi => by rw [b_and, b_not hi, zm_bt f n hn, zm_bt g n hn]; cases decide (i < n) <;> cases f i <;> rfl)
theorem zm_0 {f : Nat → Bool} {n : Nat} (hn : n ≤ 32) : zm f n = 0 ↔ ∀ i, i < n → f i = false := by
  constructor
  · intro h i hi
    have := zm_bt f n hn i
    rw [h, b_0, decide_eq_true hi, Bool.true_and] at this
    exact this.symm
  · intro h
    refine (zm_of (f := f) hn (fun i _ => ?_)).symm
    rw [b_0]
    by_cases e : i < n
    · rw [h i e, Bool.and_false]
    · rw [decide_eq_false e, Bool.false_and]
theorem b_eq0 {x : Int32} : x = 0 ↔ ∀ i, i < 32 → bt x i = false := ⟨fun h i _ => by rw [h, b_0], fun h => b_ext (fun i hi => by rw [h i hi, b_0])⟩
/-- one bit asked for -/
theorem zt_u {x : Int32} {k : Nat} (hk : k < 32) : (ax_iushr x (nI k) &&& 1 = 0) = (bt x k = false) := by
  refine propext ⟨fun h => ?_, fun h => b_eq0.mpr (fun i hi => ?_)⟩
  · have := b_eq0.mp h 0 (by omega)
    rw [b_and, bt_1 (by omega)] at this
    unfold ax_iushr at this
    rw [b_ushr k hk] at this
    simpa using this
  · rw [b_and, bt_1 hi]
    unfold ax_iushr
    rw [b_ushr k hk]
    by_cases e : i = 0
    · subst e; rw [Nat.add_zero, h, Bool.false_and]
    · rw [decide_eq_false e, Bool.and_false]
theorem zt_s {x : Int32} {k : Nat} (hk : k < 32) : (ax_ishr x (nI k) &&& 1 = 1) = (bt x k = true) := by
  have key : ∀ i, i < 32 → bt (ax_ishr x (nI k) &&& 1) i = (decide (i = 0) && bt x k) := fun i hi => by
    rw [b_and, bt_1 hi]
    unfold ax_ishr
    rw [b_sshr k hk x hi]
    by_cases e : i = 0
    · subst e; rw [Nat.add_zero, if_pos hk, Bool.and_comm]
    · rw [decide_eq_false e, Bool.and_false, Bool.false_and]
  refine propext ⟨fun h => ?_, fun h => b_ext (fun i hi => ?_)⟩
  · have := key 0 (by omega)
    rw [h, bt_1 (by omega)] at this
    simpa using this
  · rw [key i hi, bt_1 hi, h, Bool.and_true]
theorem zm_tu {f : Nat → Bool} {n k : Nat} (hn : n ≤ 32) (hk : k < n) : (ax_iushr (zm f n) (nI k) &&& 1 = 0) = (f k = false) := by
  rw [zt_u (by omega), zm_bt f n hn, decide_eq_true hk, Bool.true_and]
theorem zm_all : ∀ n, n ≤ 16 → ax_ishl 1 (nI n) - 1 = zm (fun _ => true) n := by decide +kernel
/-- counts -/
def zc (f : Nat → Bool) : Nat → Nat
  | 0 => 0
  | n + 1 => zc f n + if f n = true then 1 else 0
theorem zc_le (f : Nat → Bool) : ∀ n, zc f n ≤ n
  | 0 => Nat.le_refl 0
  | n + 1 => by
    have ih := zc_le f n
    rw [zc]
    split <;> omega
theorem zc_congr {f g : Nat → Bool} : ∀ {n : Nat}, (∀ k, k < n → f k = g k) → zc f n = zc g n
  | 0, _ => rfl
  | n + 1, h => by rw [zc, zc, zc_congr (fun k hk => h k (by omega)), h n (by omega)]
