/-! LONG SETS: sets of cells as longs; conditions as ints -/
def bI (b : Bool) : Int32 := if b = true then 1 else 0
theorem bI_0 (b : Bool) : (bI b = 0) = (b = false) := by cases b <;> simp [bI]
theorem bI_1 (b : Bool) : (bI b = 1) = (b = true) := by cases b <;> simp [bI]
theorem bI_or (b : Bool) : (bI b = 0 ∨ bI b = 1) = True := by cases b <;> simp [bI]
theorem bI_oi {α : Type} (b : Bool) (x y : α) : (if bI b = 0 ∨ bI b = 1 then x else y) = x := if_pos (by rw [bI_or]; trivial)
theorem bI_t : bI true = 1 := rfl
theorem bI_f : bI false = 0 := rfl
theorem bI_if (b : Bool) : (if b = true then some (1 : Int32) else some 0) = some (bI b) := by cases b <;> rfl
theorem bI_ifn (b : Bool) : (if b = false then some (0 : Int32) else some 1) = some (bI b) := by cases b <;> rfl
/-- in range or not -/
theorem zk_cs (v : Int32) {n : Nat} (hn : n < 2 ^ 31) : ax_ok v n = false ∨ ∃ j, j < n ∧ v = nI j := by
  cases h : ax_ok v n with
  | false => exact .inl rfl
  | true => exact .inr (zz_ok_of hn h)
theorem zk_lt0 (v : Int32) : (v < 0) = (v.toInt < 0) := propext (by rw [Int32.lt_iff_toInt_lt]; exact Iff.rfl)
theorem zk_out {v : Int32} {n : Nat} (h : ax_ok v n = false) (hn : n < 2 ^ 31) : v < 0 ∨ nI n ≤ v := by
  unfold ax_ok at h
  rw [zk_lt0, Int32.le_iff_toInt_le, nI_toInt hn]
  by_cases h1 : v.toInt < 0
  · exact .inl h1
  · right
    simp only [Bool.and_eq_false_iff, decide_eq_false_iff_not] at h
    omega
theorem zk_in {α : Type} {v : Int32} {n : Nat} {a b : α} (hn : n < 2 ^ 31) : (if v < 0 then a else if nI n ≤ v then a else b) = if ax_ok v n = true then b else a := by
  rcases zk_cs v hn with h | ⟨j, hj, rfl⟩
  · rw [h]
    rcases zk_out h hn with h1 | h1
    · rw [if_pos h1]; rfl
    · rw [if_pos h1]
      by_cases h2 : v < 0
      · rw [if_pos h2]; rfl
      · rw [if_neg h2]; rfl
  · rw [if_neg (nI_pos (by omega)), if_neg (nI_ge hj hn), if_pos (zz_okN hj (by omega))]
theorem zk_wi {v : Int32} {n : Nat} (hn : n + 1 < 2 ^ 31) : F_X11_within v 0 (nI n) = some (bI (ax_ok v (n + 1))) := by
  unfold F_X11_within
  rcases zk_cs v hn with h | ⟨j, hj, rfl⟩
  · rw [h]
    rcases zk_out h hn with h1 | h1
    · rw [if_pos h1]; rfl
    · by_cases h2 : v < 0
      · rw [if_pos h2]; rfl
      · rw [if_neg h2, if_pos]
        · rfl
        · rw [Int32.le_iff_toInt_le, nI_toInt hn] at h1
          rw [Int32.lt_iff_toInt_lt, nI_toInt (by omega)]
          omega
  · rw [if_neg (nI_pos (by omega)), if_neg (nI_nlt (by omega) (by omega)), zz_okN hj (by omega)]
    rfl
theorem zk_wi1 {v : Int32} {n : Nat} (hn : n < 2 ^ 31) : F_X11_within v 0 (nI n - 1) = some (bI (ax_ok v n)) := by
  cases n with
  | succ n => rw [nI_pred]; exact zk_wi hn
  | zero =>
    have h : ax_ok v 0 = false := by
      unfold ax_ok
      simp only [Bool.and_eq_false_iff, decide_eq_false_iff_not]
      omega
    rw [h]
    unfold F_X11_within
    by_cases h1 : v < 0
    · rw [if_pos h1]; rfl
    · rw [if_neg h1, if_pos]
      · rfl
      · rw [Int32.lt_iff_toInt_lt]
        rw [zk_lt0] at h1
        rw [show (nI 0 - 1).toInt = -1 by decide]
        omega
def xb (x : Int64) (i : Nat) : Bool := x.toBitVec.getLsbD i
theorem x_ext {x y : Int64} (h : ∀ i, i < 64 → xb x i = xb y i) : x = y := Int64.toBitVec_inj.mp (BitVec.eq_of_getLsbD_eq (fun i hi => h i hi))
theorem x_or (x y : Int64) (i : Nat) : xb (x ||| y) i = (xb x i || xb y i) := by unfold xb; rw [Int64.toBitVec_or, BitVec.getLsbD_or]
theorem x_and (x y : Int64) (i : Nat) : xb (x &&& y) i = (xb x i && xb y i) := by unfold xb; rw [Int64.toBitVec_and, BitVec.getLsbD_and]
theorem x_xor (x y : Int64) (i : Nat) : xb (x ^^^ y) i = (xb x i ^^ xb y i) := by unfold xb; rw [Int64.toBitVec_xor, BitVec.getLsbD_xor]
theorem x_big {x : Int64} {i : Nat} (h : 64 ≤ i) : xb x i = false := BitVec.getLsbD_of_ge _ _ h
theorem x_m1 : ∀ i, i < 64 → xb (-1) i = true := by decide +kernel
theorem x_0 (i : Nat) : xb 0 i = false := BitVec.getLsbD_zero
theorem x_not {x : Int64} {i : Nat} (hi : i < 64) : xb (x ^^^ (-1)) i = !xb x i := by rw [x_xor, x_m1 i hi]; cases xb x i <;> rfl
theorem xs_l : ∀ n, n < 64 → (((nI n).toInt64 &&& 63).toBitVec.smod 64).toNat = n := by decide +kernel
theorem xs_u : ∀ n, n < 64 → (((nI n).toInt64.toUInt64 &&& Int64.toUInt64 63).toBitVec % 64).toNat = n := by decide +kernel
theorem x_shl (n : Nat) (hn : n < 64) (x : Int64) {i : Nat} (hi : i < 64) : xb (ax_lshl x (nI n)) i = (decide (n ≤ i) && xb x (i - n)) := by
  unfold xb ax_lshl
  rw [Int64.toBitVec_shiftLeft]
  show (x.toBitVec <<< (((nI n).toInt64 &&& 63).toBitVec.smod 64).toNat).getLsbD i = _
  rw [xs_l n hn, BitVec.getLsbD_shiftLeft]
  rcases Nat.lt_or_ge i n with h | h
  · simp [h, Nat.not_le.mpr h]
  · simp [hi, h, Nat.not_lt.mpr h]
theorem x_shr (n : Nat) (hn : n < 64) (x : Int64) (i : Nat) : xb (ax_lushr x (nI n)) i = xb x (n + i) := by
  show (x.toUInt64 >>> ((nI n).toInt64.toUInt64 &&& Int64.toUInt64 63)).toBitVec.getLsbD i = x.toUInt64.toBitVec.getLsbD (n + i)
  rw [UInt64.toBitVec_shiftRight]
  show (x.toUInt64.toBitVec >>> (((nI n).toInt64.toUInt64 &&& Int64.toUInt64 63).toBitVec % 64).toNat).getLsbD i = _
  rw [xs_u n hn, BitVec.getLsbD_ushiftRight]
theorem x_1 {j : Nat} (h : j < 64) : xb 1 j = decide (j = 0) := (by decide +kernel : ∀ j, j < 64 → xb 1 j = decide (j = 0)) j h
theorem x_one {k i : Nat} (hk : k < 64) : xb (ax_lshl 1 (nI k)) i = (decide (i = k)) := by
  rcases Nat.lt_or_ge i 64 with h | h
  · rw [x_shl k hk 1 h]
    by_cases e : k ≤ i
    · rw [x_1 (by omega), decide_eq_true e, Bool.true_and]
      exact decide_eq_decide.mpr (by omega)
    · rw [decide_eq_false e, decide_eq_false (by omega), Bool.false_and]
  · rw [x_big h, decide_eq_false (by omega)]
def lbn (f : Nat → Bool) : Nat → Int64
  | 0 => 0
  | n + 1 => if f n = true then lbn f n ||| ax_lshl 1 (nI n) else lbn f n
def lb (f : Nat → Bool) : Int64 := lbn f 64
theorem lbn_xb (f : Nat → Bool) : ∀ n, n ≤ 64 → ∀ i, xb (lbn f n) i = (decide (i < n) && f i)
  | 0, _, i => by rw [lbn, x_0, decide_eq_false (by omega), Bool.false_and]
  | n + 1, h, i => by
    have ih := lbn_xb f n (by omega) i
    rw [lbn]
    by_cases e : f n = true
    · rw [if_pos e, x_or, ih, x_one (by omega)]
      by_cases e2 : i = n
      · subst e2
        simp [e]
      · rw [decide_eq_false e2, Bool.or_false, decide_eq_decide.mpr (show i < n ↔ i < n + 1 by omega)]
    · rw [if_neg e, ih]
      by_cases e2 : i = n
      · subst e2
        rw [ts_nt e, Bool.and_false, Bool.and_false]
      · rw [decide_eq_decide.mpr (show i < n ↔ i < n + 1 by omega)]
theorem xb_lb {f : Nat → Bool} {i : Nat} (h : i < 64) : xb (lb f) i = f i := by
  unfold lb
  rw [lbn_xb f 64 (Nat.le_refl _), decide_eq_true h, Bool.true_and]
theorem lb_of {x : Int64} {f : Nat → Bool} (h : ∀ i, i < 64 → xb x i = f i) : x = lb f := x_ext (fun i hi => by rw [h i hi, xb_lb hi])
theorem lb_congr {f g : Nat → Bool} (h : ∀ i, i < 64 → f i = g i) : lb f = lb g := lb_of (fun i hi => by rw [xb_lb hi, h i hi])
theorem lb_inj {f g : Nat → Bool} (h : lb f = lb g) {i : Nat} (hi : i < 64) : f i = g i := by rw [← xb_lb (f := f) hi, h, xb_lb hi]
theorem lb_or (f g : Nat → Bool) : lb f ||| lb g = lb (fun i => f i || g i) := lb_of (fun i hi => by rw [x_or, xb_lb hi, xb_lb hi])
theorem lb_and (f g : Nat → Bool) : lb f &&& lb g = lb (fun i => f i && g i) := lb_of (fun i hi => by rw [x_and, xb_lb hi, xb_lb hi])
theorem lb_not (f : Nat → Bool) : lb f ^^^ (-1) = lb (fun i => !f i) := lb_of (fun i hi => by rw [x_not hi, xb_lb hi])
theorem lb_z : (0 : Int64) = lb (fun _ => false) := lb_of (fun i _ => x_0 i)
theorem lb_0 (f : Nat → Bool) : (lb f = 0) = (∀ i, i < 64 → f i = false) := propext ⟨fun h i hi => by rw [lb_z] at h; exact lb_inj h hi, fun h => by rw [lb_z]; exact lb_congr h⟩
theorem lb_id (x : Int64) : x = lb (xb x) := lb_of (fun _ _ => rfl)
/-- cells -/
theorem cs_bit {c : Nat} (h : c < 64) : F_X0_bit (nI c) = some (lb (fun i => decide (i = c))) := by
  unfold F_X0_bit
  rw [zl_64, zk_in (by omega), if_pos (zz_okN h (by omega))]
  exact congrArg some (lb_of (fun i _ => x_one h))
theorem cs_bitF {v : Int32} (h : ax_ok v 64 = false) : F_X0_bit v = some (lb (fun _ => false)) := by
  unfold F_X0_bit
  rw [zl_64, zk_in (by omega), h, ← lb_z]
  rfl
theorem cs_cmp0 (x : Int64) : (lg_cmp x 0 = 0) = (x = 0) := propext (lg_cmp_eq x 0)
theorem cs_has {f : Nat → Bool} {c : Nat} (h : c < 64) : F_X0_has (lb f) (nI c) = some (bI (f c)) := by
  unfold F_X0_has
  rw [cs_bit h, zz_bS]
  by_cases e : f c = true
  · rw [if_neg, e]; · rfl
    intro h2
    rw [cs_cmp0, lb_and, lb_0] at h2
    have := h2 c h
    rw [e, decide_eq_true rfl] at this
    cases this
  · rw [if_pos, ts_nt e]; · rfl
    rw [cs_cmp0, lb_and, lb_0]
    intro i hi
    by_cases e2 : i = c
    · subst e2; rw [ts_nt e]; rfl
    · rw [decide_eq_false e2, Bool.and_false]
theorem cs_hasF {f : Nat → Bool} {v : Int32} (h : ax_ok v 64 = false) : F_X0_has (lb f) v = some (bI false) := by
  unfold F_X0_has
  rw [cs_bitF h, zz_bS, if_pos]; · rfl
  rw [cs_cmp0, lb_and, lb_0]
  intro i _
  exact Bool.and_false _
theorem cs_isCell (v : Int32) : F_X0_isCell v = some (bI (ax_ok v 64)) := by
  unfold F_X0_isCell
  rw [zl_64, zk_in (by omega), bI_if]
theorem cr_isCell (v : Int32) : F_X11_isCell v = some (bI (ax_ok v 64)) := by
  unfold F_X11_isCell
  rw [zl_63, zk_wi (by omega), zz_bS, bI_oi]
/-- beside -/
def zn (f : Nat → Bool) (c : Nat) : Bool := ((decide (8 ≤ c) && f (c - 8)) || (decide (c < 56) && f (c + 8))) || ((decide (0 < c % 8) && f (c - 1)) || (decide (c % 8 < 7) && f (c + 1)))
theorem cs_fc : ∀ i, i < 64 → xb (-72340172838076674) i = decide (0 < i % 8) := by decide +kernel
theorem cs_lc : ∀ i, i < 64 → xb 9187201950435737471 i = decide (i % 8 < 7) := by decide +kernel
theorem cs_lr (f : Nat → Bool) : F_X0_leftAndRight (lb f) = some (lb (fun c => (decide (c % 8 < 7) && f (c + 1)) || (decide (0 < c % 8) && f (c - 1)))) := by
  unfold F_X0_leftAndRight
  refine congrArg some (lb_of (fun i hi => ?_))
  rw [x_or, show (1 : Int32) = nI 1 from rfl, x_shr 1 (by omega), x_shl 1 (by omega) _ hi]
  congr 1
  · rcases Nat.lt_or_ge (1 + i) 64 with h | h
    · rw [x_and, cs_fc _ h, xb_lb h, Bool.and_comm, Nat.add_comm 1 i]
      congr 1
      exact decide_eq_decide.mpr (by omega)
    · rw [x_big h, decide_eq_false (by omega), Bool.false_and]
  · by_cases h : 1 ≤ i
    · rw [decide_eq_true h, Bool.true_and, x_and, cs_lc _ (by omega), xb_lb (by omega), Bool.and_comm]
      congr 1
      exact decide_eq_decide.mpr (by omega)
    · rw [decide_eq_false h, Bool.false_and, decide_eq_false (by omega), Bool.false_and]
theorem cs_ud (f : Nat → Bool) : F_X0_upAndDown (lb f) = some (lb (fun c => (decide (c < 56) && f (c + 8)) || (decide (8 ≤ c) && f (c - 8)))) := by
  unfold F_X0_upAndDown
  refine congrArg some (lb_of (fun i hi => ?_))
  rw [x_or, show (8 : Int32) = nI 8 from rfl, x_shr 8 (by omega), x_shl 8 (by omega) _ hi]
  congr 1
  · rcases Nat.lt_or_ge (8 + i) 64 with h | h
    · rw [xb_lb h, Nat.add_comm 8 i, decide_eq_true (by omega), Bool.true_and]
    · rw [x_big h, decide_eq_false (by omega), Bool.false_and]
  · by_cases h : 8 ≤ i
    · rw [xb_lb (by omega)]
    · rw [decide_eq_false h, Bool.false_and, Bool.false_and]
theorem cs_beside (f : Nat → Bool) : F_X0_beside (lb f) = some (lb (zn f)) := by
  unfold F_X0_beside
  rw [cs_lr, zz_bS, cs_ud, zz_bS, lb_or]
  refine congrArg some (lb_congr (fun i _ => ?_))
  unfold zn
  generalize (decide (8 ≤ i) && f (i - 8)) = a
  generalize (decide (i < 56) && f (i + 8)) = b
  generalize (decide (0 < i % 8) && f (i - 1)) = c
  generalize (decide (i % 8 < 7) && f (i + 1)) = d
  cases a <;> cases b <;> cases c <;> cases d <;> rfl
