/-! MORE that is asked: due, telltales, mutual, creditors -/
def gF (G : zG) (i y : Nat) : Bool := decide (gR G i = y) && !decide (gK G i = 4)
def gDu (G : zG) (x y : Nat) : Nat → Nat
  | 0 => 0
  | n + 1 => if (gF G n y && gN G (gO G x) n) = true then max (gDu G x y n) (gD G x y + 1 - gPr G n) else gDu G x y n
theorem gDu_le {G : zG} (hV : zV G) {x y : Nat} (hx : x < 8) (hy : y < 8) : ∀ n, n ≤ 16 → gDu G x y n ≤ gD G x y
  | 0, _ => Nat.zero_le _
  | n + 1, h => by
    have ih := gDu_le hV hx hy n (by omega)
    have := gPr_b hV (show n < 16 by omega)
    rw [gDu]
    split
    · omega
    · exact ih
theorem max_sub {a o p : Nat} (hp : 1 ≤ p) (ha : a < 2 ^ 30) (ho : o < 2 ^ 29) (hp2 : p < 2 ^ 29) : ax_max (nI a) (nI o - nI p + nI 1) = nI (max a (o + 1 - p)) := by
  by_cases h : p ≤ o
  · rw [pk_sub h, nI_add, zz_max _ _ (by omega) (by omega), show o - p + 1 = o + 1 - p by omega]
  · unfold ax_max
    have e : (nI o - nI p + nI 1).toInt = (o : Int) + 1 - p := by
      have : nI o - nI p + nI 1 = nI (o + 1) - nI p := by rw [← nI_add, Int32.sub_eq_add_neg, Int32.sub_eq_add_neg, Int32.add_assoc, Int32.add_assoc, Int32.add_comm (-nI p)]
      rw [this, pk_sub_toInt (by omega) (by omega)]
      omega
    rw [if_neg]
    · rw [Nat.max_eq_left (by omega)]
    · rw [Int32.lt_iff_toInt_lt, e, nI_toInt (by omega)]
      omega
section
variable {m : ax_M} {g : Nat} {G : zG}
theorem c_dueOf (h : zC m g G) (hV : zV G) {x y : Nat} (hx : x < 8) (hy : y < 8) : F_X3_dueOf m g (nI x) (nI y) = some (nI (gDu G x y (gS G))) := by
  have hs := hV.s
  have hd := hV.d hx hy
  have key : ∀ k i n, i + k = gS G → k < n → F_X3_dueOf_L10 n m g (nI x) (nI y) (nI (gD G x y)) (nI (gDu G x y i)) (nI i) = some (nI (gDu G x y (gS G))) := by
    refine zz_loop (gS G) (fun n => ?_) (fun n i hi ih => ?_)
    · rw [F_X3_dueOf_L10, h.s, if_pos (Int32.le_refl _)]
    · have hi2 : i < 16 := by omega
      have hk := hV.k hi2
      have hr := hV.r hi2
      have hb := gPr_b hV hi2
      have hl := gDu_le hV hx hy i (by omega)
      rw [F_X3_dueOf_L10]
      rw [gDu] at ih
      by_cases e : gR G i = y
      · by_cases e2 : gK G i = 4
        · simp (disch := omega) only [↓zl_m1, zz_leT, zz_leF, zz_ltT, zz_ltF, zz_eqT, zz_eqF, zz_okN, zz_okF, nI_clamp, nI_add, pk_mul, pk_sub, zz_bS, zz_b2S, if_true, if_false, Bool.true_eq_false, Bool.false_eq_true, eq_self, ne_eq, not_true_eq_false, not_false_eq_true, false_or, or_false, true_or, or_true, and_true, true_and, and_false, false_and, mI_e, mI_e2, mI_le, mI_le2, mI_lt, mI_lt2, mI_ok, bI_0n, bI_1n, bI_orn, Nat.mul_zero, Nat.zero_add, Nat.add_zero, c_no2, c_no3, c_no4, c_no5, c_no6, r_no2, r_no3, r_no4, r_no5, r_no6, zl_0, zl_1, zl_2, zl_3, zl_4, zl_5, zl_6, zl_7, zl_8, zl_9, zl_10, zl_12, zl_13, zl_14, zl_15, zl_16, zl_20, zl_32, zl_40, zl_48, zl_57, zl_59, zl_60, zl_63, zl_64, zl_97, zl_99, zl_101, zl_119, zl_120, zl_122, zl_128, zl_136, zl_152, zl_168, zl_184, zl_200, zl_201, zl_202, zl_203, zl_250, zl_255, zl_320, zl_999, zl_1000, h.s, h.r hi2, h.k hi2, e, e2]
          rw [if_neg (by unfold gF; rw [decide_eq_true e2]; simp)] at ih
          exact ih
        · simp (disch := omega) only [↓zl_m1, zz_leT, zz_leF, zz_ltT, zz_ltF, zz_eqT, zz_eqF, zz_okN, zz_okF, nI_clamp, nI_add, pk_mul, pk_sub, zz_bS, zz_b2S, if_true, if_false, Bool.true_eq_false, Bool.false_eq_true, eq_self, ne_eq, not_true_eq_false, not_false_eq_true, false_or, or_false, true_or, or_true, and_true, true_and, and_false, false_and, mI_e, mI_e2, mI_le, mI_le2, mI_lt, mI_lt2, mI_ok, bI_0n, bI_1n, bI_orn, Nat.mul_zero, Nat.zero_add, Nat.add_zero, c_no2, c_no3, c_no4, c_no5, c_no6, r_no2, r_no3, r_no4, r_no5, r_no6, zl_0, zl_1, zl_2, zl_3, zl_4, zl_5, zl_6, zl_7, zl_8, zl_9, zl_10, zl_12, zl_13, zl_14, zl_15, zl_16, zl_20, zl_32, zl_40, zl_48, zl_57, zl_59, zl_60, zl_63, zl_64, zl_97, zl_99, zl_101, zl_119, zl_120, zl_122, zl_128, zl_136, zl_152, zl_168, zl_184, zl_200, zl_201, zl_202, zl_203, zl_250, zl_255, zl_320, zl_999, zl_1000, h.s, h.r hi2, h.k hi2, e, e2, c_zone h hV hi2, h.o hx, cs_has (hV.o hx), c_price h hV hi2]
          have ef : gF G i y = true := by unfold gF; rw [decide_eq_true e, decide_eq_false e2]; rfl
          rw [ef, Bool.true_and] at ih
          cases e3 : gN G (gO G x) i with
          | false =>
            rw [e3, if_neg (by decide)] at ih
            rw [if_pos rfl]
            exact ih
          | true =>
            rw [e3, if_pos rfl] at ih
            rw [if_neg (by decide), max_sub hb.1 (by omega) (by omega) (by omega)]
            exact ih
      · simp (disch := omega) only [↓zl_m1, zz_leT, zz_leF, zz_ltT, zz_ltF, zz_eqT, zz_eqF, zz_okN, zz_okF, nI_clamp, nI_add, pk_mul, pk_sub, zz_bS, zz_b2S, if_true, if_false, Bool.true_eq_false, Bool.false_eq_true, eq_self, ne_eq, not_true_eq_false, not_false_eq_true, false_or, or_false, true_or, or_true, and_true, true_and, and_false, false_and, mI_e, mI_e2, mI_le, mI_le2, mI_lt, mI_lt2, mI_ok, bI_0n, bI_1n, bI_orn, Nat.mul_zero, Nat.zero_add, Nat.add_zero, c_no2, c_no3, c_no4, c_no5, c_no6, r_no2, r_no3, r_no4, r_no5, r_no6, zl_0, zl_1, zl_2, zl_3, zl_4, zl_5, zl_6, zl_7, zl_8, zl_9, zl_10, zl_12, zl_13, zl_14, zl_15, zl_16, zl_20, zl_32, zl_40, zl_48, zl_57, zl_59, zl_60, zl_63, zl_64, zl_97, zl_99, zl_101, zl_119, zl_120, zl_122, zl_128, zl_136, zl_152, zl_168, zl_184, zl_200, zl_201, zl_202, zl_203, zl_250, zl_255, zl_320, zl_999, zl_1000, h.s, h.r hi2, e]
        rw [if_neg (by unfold gF; rw [decide_eq_false e]; simp)] at ih
        exact ih
  unfold F_X3_dueOf
  rw [c_of h hx hy, zz_bS]
  exact key (gS G) 0 ax_FU (by omega) (by unfold ax_FU; omega)
theorem gDu_self {G : zG} (hV : zV G) {x y : Nat} (hx : x < 8) (hy : y < 8) (h0 : gD G x y = 0) (n : Nat) (hn : n ≤ 16) : gDu G x y n = 0 := by
  have := gDu_le hV hx hy n hn
  omega
theorem gU_due {G : zG} {i x y : Nat} (hf : gF G i y = true) : gU G i x (gO G x) = (gN G (gO G x) i && decide (gPr G i ≤ gD G x y)) := by
  unfold gF at hf
  rw [Bool.and_eq_true, decide_eq_true_eq, Bool.not_eq_true', decide_eq_false_iff_not] at hf
  unfold gU gE
  rw [if_neg hf.2, hf.1]
theorem r_dueOf (h : zL m G) (hV : zV G) {x y : Nat} (hx : x < 8) (hy : y < 8) : F_X11_dueOf m (nI x) (nI y) = some (nI (gDu G x y (gS G))) := by
  have hs := hV.s
  have hd := hV.d hx hy
  have key : ∀ k i n, i + k = gS G → k < n → F_X11_dueOf_L13 n m (nI x) (nI y) (nI (gD G x y)) (nI (gDu G x y i)) (nI i) = some (nI (gDu G x y (gS G))) := by
    refine zz_loop (gS G) (fun n => ?_) (fun n i hi ih => ?_)
    · rw [F_X11_dueOf_L13, h.s, if_pos (Int32.le_refl _)]
    · have hi2 : i < 16 := by omega
      have hk := hV.k hi2
      have hr := hV.r hi2
      have hb := gPr_b hV hi2
      have hl := gDu_le hV hx hy i (by omega)
      rw [F_X11_dueOf_L13]
      rw [gDu] at ih
      by_cases e : gR G i = y
      · by_cases e2 : gK G i = 4
        · simp (disch := omega) only [↓zl_m1, zz_leT, zz_leF, zz_ltT, zz_ltF, zz_eqT, zz_eqF, zz_okN, zz_okF, nI_clamp, nI_add, pk_mul, pk_sub, zz_bS, zz_b2S, if_true, if_false, Bool.true_eq_false, Bool.false_eq_true, eq_self, ne_eq, not_true_eq_false, not_false_eq_true, false_or, or_false, true_or, or_true, and_true, true_and, and_false, false_and, mI_e, mI_e2, mI_le, mI_le2, mI_lt, mI_lt2, mI_ok, bI_0n, bI_1n, bI_orn, Nat.mul_zero, Nat.zero_add, Nat.add_zero, c_no2, c_no3, c_no4, c_no5, c_no6, r_no2, r_no3, r_no4, r_no5, r_no6, zl_0, zl_1, zl_2, zl_3, zl_4, zl_5, zl_6, zl_7, zl_8, zl_9, zl_10, zl_12, zl_13, zl_14, zl_15, zl_16, zl_20, zl_32, zl_40, zl_48, zl_57, zl_59, zl_60, zl_63, zl_64, zl_97, zl_99, zl_101, zl_119, zl_120, zl_122, zl_128, zl_136, zl_152, zl_168, zl_184, zl_200, zl_201, zl_202, zl_203, zl_250, zl_255, zl_320, zl_999, zl_1000, h.s, h.r hi2, h.k hi2, e, e2]
          rw [if_neg (by unfold gF; rw [decide_eq_true e2]; simp)] at ih
          exact ih
        · have ef : gF G i y = true := by unfold gF; rw [decide_eq_true e, decide_eq_false e2]; rfl
          simp (disch := omega) only [↓zl_m1, zz_leT, zz_leF, zz_ltT, zz_ltF, zz_eqT, zz_eqF, zz_okN, zz_okF, nI_clamp, nI_add, pk_mul, pk_sub, zz_bS, zz_b2S, if_true, if_false, Bool.true_eq_false, Bool.false_eq_true, eq_self, ne_eq, not_true_eq_false, not_false_eq_true, false_or, or_false, true_or, or_true, and_true, true_and, and_false, false_and, mI_e, mI_e2, mI_le, mI_le2, mI_lt, mI_lt2, mI_ok, bI_0n, bI_1n, bI_orn, Nat.mul_zero, Nat.zero_add, Nat.add_zero, c_no2, c_no3, c_no4, c_no5, c_no6, r_no2, r_no3, r_no4, r_no5, r_no6, zl_0, zl_1, zl_2, zl_3, zl_4, zl_5, zl_6, zl_7, zl_8, zl_9, zl_10, zl_12, zl_13, zl_14, zl_15, zl_16, zl_20, zl_32, zl_40, zl_48, zl_57, zl_59, zl_60, zl_63, zl_64, zl_97, zl_99, zl_101, zl_119, zl_120, zl_122, zl_128, zl_136, zl_152, zl_168, zl_184, zl_200, zl_201, zl_202, zl_203, zl_250, zl_255, zl_320, zl_999, zl_1000, h.s, h.r hi2, h.k hi2, e, e2, h.o hx, r_isUp h hV hi2 hx (hV.o hx), r_takes h hV hi2]
          rw [gU_due ef]
          rw [ef, Bool.true_and] at ih
          cases e3 : gN G (gO G x) i with
          | false =>
            rw [e3, if_neg (by decide)] at ih
            rw [Bool.false_and, if_pos rfl]
            exact ih
          | true =>
            rw [e3, if_pos rfl] at ih
            by_cases e4 : gPr G i ≤ gD G x y
            · rw [decide_eq_true e4, if_neg (show ¬ (true && true) = false by decide), max_sub hb.1 (by omega) (by omega) (by omega)]
              exact ih
            · rw [decide_eq_false e4, if_pos (show (true && false) = false from rfl)]
              rw [show max (gDu G x y i) (gD G x y + 1 - gPr G i) = gDu G x y i by omega] at ih
              exact ih
      · simp (disch := omega) only [↓zl_m1, zz_leT, zz_leF, zz_ltT, zz_ltF, zz_eqT, zz_eqF, zz_okN, zz_okF, nI_clamp, nI_add, pk_mul, pk_sub, zz_bS, zz_b2S, if_true, if_false, Bool.true_eq_false, Bool.false_eq_true, eq_self, ne_eq, not_true_eq_false, not_false_eq_true, false_or, or_false, true_or, or_true, and_true, true_and, and_false, false_and, mI_e, mI_e2, mI_le, mI_le2, mI_lt, mI_lt2, mI_ok, bI_0n, bI_1n, bI_orn, Nat.mul_zero, Nat.zero_add, Nat.add_zero, c_no2, c_no3, c_no4, c_no5, c_no6, r_no2, r_no3, r_no4, r_no5, r_no6, zl_0, zl_1, zl_2, zl_3, zl_4, zl_5, zl_6, zl_7, zl_8, zl_9, zl_10, zl_12, zl_13, zl_14, zl_15, zl_16, zl_20, zl_32, zl_40, zl_48, zl_57, zl_59, zl_60, zl_63, zl_64, zl_97, zl_99, zl_101, zl_119, zl_120, zl_122, zl_128, zl_136, zl_152, zl_168, zl_184, zl_200, zl_201, zl_202, zl_203, zl_250, zl_255, zl_320, zl_999, zl_1000, h.s, h.r hi2, e]
        rw [if_neg (by unfold gF; rw [decide_eq_false e]; simp)] at ih
        exact ih
  unfold F_X11_dueOf
  simp (disch := omega) only [↓zl_m1, zz_leT, zz_leF, zz_ltT, zz_ltF, zz_eqT, zz_eqF, zz_okN, zz_okF, nI_clamp, nI_add, pk_mul, pk_sub, zz_bS, zz_b2S, if_true, if_false, Bool.true_eq_false, Bool.false_eq_true, eq_self, ne_eq, not_true_eq_false, not_false_eq_true, false_or, or_false, true_or, or_true, and_true, true_and, and_false, false_and, mI_e, mI_e2, mI_le, mI_le2, mI_lt, mI_lt2, mI_ok, bI_0n, bI_1n, bI_orn, Nat.mul_zero, Nat.zero_add, Nat.add_zero, c_no2, c_no3, c_no4, c_no5, c_no6, r_no2, r_no3, r_no4, r_no5, r_no6, zl_0, zl_1, zl_2, zl_3, zl_4, zl_5, zl_6, zl_7, zl_8, zl_9, zl_10, zl_12, zl_13, zl_14, zl_15, zl_16, zl_20, zl_32, zl_40, zl_48, zl_57, zl_59, zl_60, zl_63, zl_64, zl_97, zl_99, zl_101, zl_119, zl_120, zl_122, zl_128, zl_136, zl_152, zl_168, zl_184, zl_200, zl_201, zl_202, zl_203, zl_250, zl_255, zl_320, zl_999, zl_1000, h.d hx hy]
  exact key (gS G) 0 ax_FU (by omega) (by unfold ax_FU; omega)
theorem dle {i j : Nat} (h : ¬ j = i) : decide (i + 1 ≤ j) = decide (i ≤ j) := decide_eq_decide.mpr (by omega)
/-- telltales -/
def gT (G : zG) (i x y : Nat) : Bool := gN G (gO G x) i && (decide (gR G i = y) && decide (gK G i ≤ 2))
theorem c_isTelltale (h : zC m g G) (hV : zV G) {i : Nat} (hi : i < 16) : F_X6_isTelltale m (16 * g + i) = some (bI (decide (gK G i ≤ 2))) := by
  have hk := hV.k hi
  unfold F_X6_isTelltale
  by_cases e0 : gK G i = 0
  · simp (disch := omega) only [↓zl_m1, zz_leT, zz_leF, zz_ltT, zz_ltF, zz_eqT, zz_eqF, zz_okN, zz_okF, nI_clamp, nI_add, pk_mul, pk_sub, zz_bS, zz_b2S, if_true, if_false, Bool.true_eq_false, Bool.false_eq_true, eq_self, ne_eq, not_true_eq_false, not_false_eq_true, false_or, or_false, true_or, or_true, and_true, true_and, and_false, false_and, mI_e, mI_e2, mI_le, mI_le2, mI_lt, mI_lt2, mI_ok, bI_0n, bI_1n, bI_orn, Nat.mul_zero, Nat.zero_add, Nat.add_zero, c_no2, c_no3, c_no4, c_no5, c_no6, r_no2, r_no3, r_no4, r_no5, r_no6, zl_0, zl_1, zl_2, zl_3, zl_4, zl_5, zl_6, zl_7, zl_8, zl_9, zl_10, zl_12, zl_13, zl_14, zl_15, zl_16, zl_20, zl_32, zl_40, zl_48, zl_57, zl_59, zl_60, zl_63, zl_64, zl_97, zl_99, zl_101, zl_119, zl_120, zl_122, zl_128, zl_136, zl_152, zl_168, zl_184, zl_200, zl_201, zl_202, zl_203, zl_250, zl_255, zl_320, zl_999, zl_1000, h.k hi, e0]
    rfl
  · by_cases e1 : gK G i = 1
    · simp (disch := omega) only [↓zl_m1, zz_leT, zz_leF, zz_ltT, zz_ltF, zz_eqT, zz_eqF, zz_okN, zz_okF, nI_clamp, nI_add, pk_mul, pk_sub, zz_bS, zz_b2S, if_true, if_false, Bool.true_eq_false, Bool.false_eq_true, eq_self, ne_eq, not_true_eq_false, not_false_eq_true, false_or, or_false, true_or, or_true, and_true, true_and, and_false, false_and, mI_e, mI_e2, mI_le, mI_le2, mI_lt, mI_lt2, mI_ok, bI_0n, bI_1n, bI_orn, Nat.mul_zero, Nat.zero_add, Nat.add_zero, c_no2, c_no3, c_no4, c_no5, c_no6, r_no2, r_no3, r_no4, r_no5, r_no6, zl_0, zl_1, zl_2, zl_3, zl_4, zl_5, zl_6, zl_7, zl_8, zl_9, zl_10, zl_12, zl_13, zl_14, zl_15, zl_16, zl_20, zl_32, zl_40, zl_48, zl_57, zl_59, zl_60, zl_63, zl_64, zl_97, zl_99, zl_101, zl_119, zl_120, zl_122, zl_128, zl_136, zl_152, zl_168, zl_184, zl_200, zl_201, zl_202, zl_203, zl_250, zl_255, zl_320, zl_999, zl_1000, h.k hi, e1]
      rfl
    · by_cases e2 : gK G i = 2
      · simp (disch := omega) only [↓zl_m1, zz_leT, zz_leF, zz_ltT, zz_ltF, zz_eqT, zz_eqF, zz_okN, zz_okF, nI_clamp, nI_add, pk_mul, pk_sub, zz_bS, zz_b2S, if_true, if_false, Bool.true_eq_false, Bool.false_eq_true, eq_self, ne_eq, not_true_eq_false, not_false_eq_true, false_or, or_false, true_or, or_true, and_true, true_and, and_false, false_and, mI_e, mI_e2, mI_le, mI_le2, mI_lt, mI_lt2, mI_ok, bI_0n, bI_1n, bI_orn, Nat.mul_zero, Nat.zero_add, Nat.add_zero, c_no2, c_no3, c_no4, c_no5, c_no6, r_no2, r_no3, r_no4, r_no5, r_no6, zl_0, zl_1, zl_2, zl_3, zl_4, zl_5, zl_6, zl_7, zl_8, zl_9, zl_10, zl_12, zl_13, zl_14, zl_15, zl_16, zl_20, zl_32, zl_40, zl_48, zl_57, zl_59, zl_60, zl_63, zl_64, zl_97, zl_99, zl_101, zl_119, zl_120, zl_122, zl_128, zl_136, zl_152, zl_168, zl_184, zl_200, zl_201, zl_202, zl_203, zl_250, zl_255, zl_320, zl_999, zl_1000, h.k hi, e2]
        rfl
      · simp (disch := omega) only [↓zl_m1, zz_leT, zz_leF, zz_ltT, zz_ltF, zz_eqT, zz_eqF, zz_okN, zz_okF, nI_clamp, nI_add, pk_mul, pk_sub, zz_bS, zz_b2S, if_true, if_false, Bool.true_eq_false, Bool.false_eq_true, eq_self, ne_eq, not_true_eq_false, not_false_eq_true, false_or, or_false, true_or, or_true, and_true, true_and, and_false, false_and, mI_e, mI_e2, mI_le, mI_le2, mI_lt, mI_lt2, mI_ok, bI_0n, bI_1n, bI_orn, Nat.mul_zero, Nat.zero_add, Nat.add_zero, c_no2, c_no3, c_no4, c_no5, c_no6, r_no2, r_no3, r_no4, r_no5, r_no6, zl_0, zl_1, zl_2, zl_3, zl_4, zl_5, zl_6, zl_7, zl_8, zl_9, zl_10, zl_12, zl_13, zl_14, zl_15, zl_16, zl_20, zl_32, zl_40, zl_48, zl_57, zl_59, zl_60, zl_63, zl_64, zl_97, zl_99, zl_101, zl_119, zl_120, zl_122, zl_128, zl_136, zl_152, zl_168, zl_184, zl_200, zl_201, zl_202, zl_203, zl_250, zl_255, zl_320, zl_999, zl_1000, h.k hi]
        rw [decide_eq_false (by omega)]
        rfl
theorem zm_clr {f : Nat → Bool} {n i : Nat} (hn : n ≤ 32) (hi : i < n) : zm f n &&& (ax_ishl (nI 1) (nI i) ^^^ mI) = zm (fun j => f j && !decide (j = i)) n := zm_of hn (fun j hj => by
  rw [b_and, zm_bt f n hn]
  show ((decide (j < n) && f j) && bt (ax_ishl 1 (nI i) ^^^ (-1)) j) = _
  rw [b_not hj, bt_one (by omega), Bool.and_assoc])
theorem c_telltales (h : zC m g G) (hV : zV G) {x y : Nat} (hx : x < 8) (hy : y < 8) : F_X3_telltales m g (nI x) (nI y) = some (zm (fun i => gT G i x y) (gS G)) := by
  have hs := hV.s
  have key : ∀ k i n, i + k = gS G → k < n → F_X3_telltales_L17 n m g (zm (fun j => (gN G (gO G x) j && decide (gR G j = y)) && (decide (i ≤ j) || decide (gK G j ≤ 2))) (gS G)) (nI i) = some (zm (fun i => gT G i x y) (gS G)) := by
    refine zz_loop (gS G) (fun n => ?_) (fun n i hi ih => ?_)
    · rw [F_X3_telltales_L17, h.s, if_pos (Int32.le_refl _)]
      refine congrArg some (zm_congr (fun j hj => ?_))
      rw [decide_eq_false (show ¬ gS G ≤ j by omega), Bool.false_or, Bool.and_assoc]; rfl
    · rw [F_X3_telltales_L17]
      simp (disch := omega) only [↓zl_m1, zz_leT, zz_leF, zz_ltT, zz_ltF, zz_eqT, zz_eqF, zz_okN, zz_okF, nI_clamp, nI_add, pk_mul, pk_sub, zz_bS, zz_b2S, if_true, if_false, Bool.true_eq_false, Bool.false_eq_true, eq_self, ne_eq, not_true_eq_false, not_false_eq_true, false_or, or_false, true_or, or_true, and_true, true_and, and_false, false_and, mI_e, mI_e2, mI_le, mI_le2, mI_lt, mI_lt2, mI_ok, bI_0n, bI_1n, bI_orn, Nat.mul_zero, Nat.zero_add, Nat.add_zero, c_no2, c_no3, c_no4, c_no5, c_no6, r_no2, r_no3, r_no4, r_no5, r_no6, zl_0, zl_1, zl_2, zl_3, zl_4, zl_5, zl_6, zl_7, zl_8, zl_9, zl_10, zl_12, zl_13, zl_14, zl_15, zl_16, zl_20, zl_32, zl_40, zl_48, zl_57, zl_59, zl_60, zl_63, zl_64, zl_97, zl_99, zl_101, zl_119, zl_120, zl_122, zl_128, zl_136, zl_152, zl_168, zl_184, zl_200, zl_201, zl_202, zl_203, zl_250, zl_255, zl_320, zl_999, zl_1000, h.s, c_isTelltale h hV (show i < 16 by omega)]
      by_cases e : gK G i ≤ 2
      · rw [decide_eq_true e, if_neg (by decide)]
        rw [zm_congr (g := fun j => (gN G (gO G x) j && decide (gR G j = y)) && (decide (i ≤ j) || decide (gK G j ≤ 2))) (fun j _ => ?_)] at ih
        · exact ih
        · by_cases e2 : j = i
          · subst e2; rw [decide_eq_true e, Bool.or_true, Bool.or_true]
          · rw [dle e2]
      · rw [decide_eq_false e, if_pos rfl, zm_clr (by omega) hi]
        rw [zm_congr (g := fun j => ((gN G (gO G x) j && decide (gR G j = y)) && (decide (i ≤ j) || decide (gK G j ≤ 2))) && !decide (j = i)) (fun j _ => ?_)] at ih
        · exact ih
        · by_cases e2 : j = i
          · subst e2; rw [decide_eq_false e, decide_eq_false (show ¬ j + 1 ≤ j by omega), decide_eq_true rfl]; simp
          · rw [dle e2, decide_eq_false e2]; simp
  unfold F_X3_telltales
  have k2 := key (gS G) 0 ax_FU (by omega) (by unfold ax_FU; omega)
  simp (disch := omega) only [↓zl_m1, zz_leT, zz_leF, zz_ltT, zz_ltF, zz_eqT, zz_eqF, zz_okN, zz_okF, nI_clamp, nI_add, pk_mul, pk_sub, zz_bS, zz_b2S, if_true, if_false, Bool.true_eq_false, Bool.false_eq_true, eq_self, ne_eq, not_true_eq_false, not_false_eq_true, false_or, or_false, true_or, or_true, and_true, true_and, and_false, false_and, mI_e, mI_e2, mI_le, mI_le2, mI_lt, mI_lt2, mI_ok, bI_0n, bI_1n, bI_orn, Nat.mul_zero, Nat.zero_add, Nat.add_zero, c_no2, c_no3, c_no4, c_no5, c_no6, r_no2, r_no3, r_no4, r_no5, r_no6, zl_0, zl_1, zl_2, zl_3, zl_4, zl_5, zl_6, zl_7, zl_8, zl_9, zl_10, zl_12, zl_13, zl_14, zl_15, zl_16, zl_20, zl_32, zl_40, zl_48, zl_57, zl_59, zl_60, zl_63, zl_64, zl_97, zl_99, zl_101, zl_119, zl_120, zl_122, zl_128, zl_136, zl_152, zl_168, zl_184, zl_200, zl_201, zl_202, zl_203, zl_250, zl_255, zl_320, zl_999, zl_1000, c_allSeeds h hV, c_seedsBut h hV, zm_andn (show gS G ≤ 32 by omega), h.o hx, c_near h hV (hV.o hx)]
  rw [← zl_m1, zm_andn (show gS G ≤ 32 by omega), c_near h hV (hV.o hx), zz_bS]
  rw [zm_congr (g := fun i => (true && !decide (nI (gR G i) ≠ nI y)) && gN G (gO G x) i) (fun j hj => ?_)] at k2
  · exact k2
  · have := hV.r (show j < 16 by omega)
    rw [decide_eq_true (Nat.zero_le j), Bool.true_or, Bool.and_true, Bool.and_comm]
    congr 1
    by_cases e : gR G j = y
    · rw [decide_eq_true e, decide_eq_false (by rw [e]; exact fun z => z rfl)]; rfl
    · rw [decide_eq_false e, decide_eq_true (by rw [ne_eq, nI_eq (by omega) (by omega)]; exact e)]; rfl
/-- debts by bits -/
theorem c_creditorsOf (h : zC m g G) (hV : zV G) {x : Nat} (hx : x < 8) : F_X2_creditorsOf m g (nI x) = some (zm (fun y => decide (0 < gD G x y)) 8) := by
  have key : ∀ k i n, i + k = 8 → k < n → F_X2_creditorsOf_L4 n m g (nI x) (zm (fun y => decide (0 < gD G x y)) i) (nI i) = some (zm (fun y => decide (0 < gD G x y)) 8) := by
    refine zz_loop 8 (fun n => ?_) (fun n i hi ih => ?_)
    · rw [F_X2_creditorsOf_L4, zl_8, if_pos (Int32.le_refl _)]
    · have hd := hV.d hx hi
      rw [F_X2_creditorsOf_L4]
      by_cases e : 0 < gD G x i
      · simp (disch := omega) only [↓zl_m1, zz_leT, zz_leF, zz_ltT, zz_ltF, zz_eqT, zz_eqF, zz_okN, zz_okF, nI_clamp, nI_add, pk_mul, pk_sub, zz_bS, zz_b2S, if_true, if_false, Bool.true_eq_false, Bool.false_eq_true, eq_self, ne_eq, not_true_eq_false, not_false_eq_true, false_or, or_false, true_or, or_true, and_true, true_and, and_false, false_and, mI_e, mI_e2, mI_le, mI_le2, mI_lt, mI_lt2, mI_ok, bI_0n, bI_1n, bI_orn, Nat.mul_zero, Nat.zero_add, Nat.add_zero, c_no2, c_no3, c_no4, c_no5, c_no6, r_no2, r_no3, r_no4, r_no5, r_no6, zl_0, zl_1, zl_2, zl_3, zl_4, zl_5, zl_6, zl_7, zl_8, zl_9, zl_10, zl_12, zl_13, zl_14, zl_15, zl_16, zl_20, zl_32, zl_40, zl_48, zl_57, zl_59, zl_60, zl_63, zl_64, zl_97, zl_99, zl_101, zl_119, zl_120, zl_122, zl_128, zl_136, zl_152, zl_168, zl_184, zl_200, zl_201, zl_202, zl_203, zl_250, zl_255, zl_320, zl_999, zl_1000, c_of h hx hi]
        rw [← zm_s (f := fun y => decide (0 < gD G x y)) (decide_eq_true e)] at ih
        exact ih
      · simp (disch := omega) only [↓zl_m1, zz_leT, zz_leF, zz_ltT, zz_ltF, zz_eqT, zz_eqF, zz_okN, zz_okF, nI_clamp, nI_add, pk_mul, pk_sub, zz_bS, zz_b2S, if_true, if_false, Bool.true_eq_false, Bool.false_eq_true, eq_self, ne_eq, not_true_eq_false, not_false_eq_true, false_or, or_false, true_or, or_true, and_true, true_and, and_false, false_and, mI_e, mI_e2, mI_le, mI_le2, mI_lt, mI_lt2, mI_ok, bI_0n, bI_1n, bI_orn, Nat.mul_zero, Nat.zero_add, Nat.add_zero, c_no2, c_no3, c_no4, c_no5, c_no6, r_no2, r_no3, r_no4, r_no5, r_no6, zl_0, zl_1, zl_2, zl_3, zl_4, zl_5, zl_6, zl_7, zl_8, zl_9, zl_10, zl_12, zl_13, zl_14, zl_15, zl_16, zl_20, zl_32, zl_40, zl_48, zl_57, zl_59, zl_60, zl_63, zl_64, zl_97, zl_99, zl_101, zl_119, zl_120, zl_122, zl_128, zl_136, zl_152, zl_168, zl_184, zl_200, zl_201, zl_202, zl_203, zl_250, zl_255, zl_320, zl_999, zl_1000, c_of h hx hi]
        rw [zm_n (f := fun y => decide (0 < gD G x y)) (decide_eq_false e)] at ih
        exact ih
  exact key 8 0 ax_FU rfl (by decide)
theorem c_creditorsOfAll (h : zC m g G) (hV : zV G) (f : Nat → Bool) : F_X2_creditorsOfAll m g (zm f 8) = some (zm (fun y => zany (fun x => f x && decide (0 < gD G x y)) 8) 8) := by
  have key : ∀ k i n, i + k = 8 → k < n → F_X2_creditorsOfAll_L4 n m g (zm f 8) (zm (fun y => zany (fun x => f x && decide (0 < gD G x y)) i) 8) (nI i) = some (zm (fun y => zany (fun x => f x && decide (0 < gD G x y)) 8) 8) := by
    refine zz_loop 8 (fun n => ?_) (fun n i hi ih => ?_)
    · rw [F_X2_creditorsOfAll_L4, zl_8, if_pos (Int32.le_refl _)]
    · rw [F_X2_creditorsOfAll_L4]
      cases e : f i with
      | true =>
        simp (disch := omega) only [↓zl_m1, zz_leT, zz_leF, zz_ltT, zz_ltF, zz_eqT, zz_eqF, zz_okN, zz_okF, nI_clamp, nI_add, pk_mul, pk_sub, zz_bS, zz_b2S, if_true, if_false, Bool.true_eq_false, Bool.false_eq_true, eq_self, ne_eq, not_true_eq_false, not_false_eq_true, false_or, or_false, true_or, or_true, and_true, true_and, and_false, false_and, mI_e, mI_e2, mI_le, mI_le2, mI_lt, mI_lt2, mI_ok, bI_0n, bI_1n, bI_orn, Nat.mul_zero, Nat.zero_add, Nat.add_zero, c_no2, c_no3, c_no4, c_no5, c_no6, r_no2, r_no3, r_no4, r_no5, r_no6, zl_0, zl_1, zl_2, zl_3, zl_4, zl_5, zl_6, zl_7, zl_8, zl_9, zl_10, zl_12, zl_13, zl_14, zl_15, zl_16, zl_20, zl_32, zl_40, zl_48, zl_57, zl_59, zl_60, zl_63, zl_64, zl_97, zl_99, zl_101, zl_119, zl_120, zl_122, zl_128, zl_136, zl_152, zl_168, zl_184, zl_200, zl_201, zl_202, zl_203, zl_250, zl_255, zl_320, zl_999, zl_1000, zm_u (show 8 ≤ 32 by omega) hi, e, c_creditorsOf h hV hi, zm_or (show 8 ≤ 32 by omega)]
        rw [zm_congr (f := fun y => zany (fun x => f x && decide (0 < gD G x y)) (i + 1)) (g := fun y => zany (fun x => f x && decide (0 < gD G x y)) i || decide (0 < gD G i y)) (fun y _ => by rw [zany, e, Bool.true_and])] at ih
        exact ih
      | false =>
        simp (disch := omega) only [↓zl_m1, zz_leT, zz_leF, zz_ltT, zz_ltF, zz_eqT, zz_eqF, zz_okN, zz_okF, nI_clamp, nI_add, pk_mul, pk_sub, zz_bS, zz_b2S, if_true, if_false, Bool.true_eq_false, Bool.false_eq_true, eq_self, ne_eq, not_true_eq_false, not_false_eq_true, false_or, or_false, true_or, or_true, and_true, true_and, and_false, false_and, mI_e, mI_e2, mI_le, mI_le2, mI_lt, mI_lt2, mI_ok, bI_0n, bI_1n, bI_orn, Nat.mul_zero, Nat.zero_add, Nat.add_zero, c_no2, c_no3, c_no4, c_no5, c_no6, r_no2, r_no3, r_no4, r_no5, r_no6, zl_0, zl_1, zl_2, zl_3, zl_4, zl_5, zl_6, zl_7, zl_8, zl_9, zl_10, zl_12, zl_13, zl_14, zl_15, zl_16, zl_20, zl_32, zl_40, zl_48, zl_57, zl_59, zl_60, zl_63, zl_64, zl_97, zl_99, zl_101, zl_119, zl_120, zl_122, zl_128, zl_136, zl_152, zl_168, zl_184, zl_200, zl_201, zl_202, zl_203, zl_250, zl_255, zl_320, zl_999, zl_1000, zm_u (show 8 ≤ 32 by omega) hi, e]
        rw [zm_congr (f := fun y => zany (fun x => f x && decide (0 < gD G x y)) (i + 1)) (g := fun y => zany (fun x => f x && decide (0 < gD G x y)) i) (fun y _ => by rw [zany, e, Bool.false_and, Bool.or_false])] at ih
        exact ih
  have k2 := key 8 0 ax_FU rfl (by decide)
  rw [(zm_0 (f := fun y => zany (fun x => f x && decide (0 < gD G x y)) 0) (n := 8) (by omega)).mpr (fun i _ => rfl)] at k2
  exact k2
end
