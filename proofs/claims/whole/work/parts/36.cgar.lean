/-! THE CLASS'S GARDEN: what its asking methods answer -/
section
variable {m : ax_M} {g : Nat} {G : zG}
theorem c_of (h : zC m g G) {x y : Nat} (hx : x < 8) (hy : y < 8) : F_X2_of m g (nI x) (nI y) = some (nI (gD G x y)) := by
  unfold F_X2_of
  simp (disch := omega) only [↓zl_m1, zz_leT, zz_leF, zz_ltT, zz_ltF, zz_eqT, zz_eqF, zz_okN, zz_okF, nI_clamp, nI_add, pk_mul, pk_sub, zz_bS, zz_b2S, if_true, if_false, Bool.true_eq_false, Bool.false_eq_true, eq_self, ne_eq, not_true_eq_false, not_false_eq_true, false_or, or_false, true_or, or_true, and_true, true_and, and_false, false_and, mI_e, mI_e2, mI_le, mI_le2, mI_lt, mI_lt2, mI_ok, bI_0n, bI_1n, bI_orn, Nat.mul_zero, Nat.zero_add, Nat.add_zero, zl_0, zl_1, zl_2, zl_3, zl_4, zl_5, zl_6, zl_7, zl_8, zl_9, zl_10, zl_12, zl_13, zl_14, zl_15, zl_16, zl_20, zl_32, zl_40, zl_48, zl_57, zl_59, zl_60, zl_63, zl_64, zl_97, zl_99, zl_101, zl_119, zl_120, zl_122, zl_128, zl_136, zl_152, zl_168, zl_184, zl_200, zl_201, zl_202, zl_203, zl_250, zl_255, zl_320, zl_999, zl_1000, Nat.mul_comm x 8, h.d hx hy]
theorem c_owedBy (h : zC m g G) {x : Nat} (hx : x < 8) : F_X2_owedBy m g (nI x) = some (nI (gOw G x)) := by
  have key : ∀ k i n, i + k = 8 → k < n → F_X2_owedBy_L4 n m g (nI x) (nI (zs (gD G x) i)) (nI i) = some (nI (gOw G x)) := by
    refine zz_loop 8 (fun n => ?_) (fun n i hi ih => ?_)
    · rw [F_X2_owedBy_L4, zl_8, if_pos (Int32.le_refl _)]; rfl
    · rw [F_X2_owedBy_L4]
      simp (disch := omega) only [↓zl_m1, zz_leT, zz_leF, zz_ltT, zz_ltF, zz_eqT, zz_eqF, zz_okN, zz_okF, nI_clamp, nI_add, pk_mul, pk_sub, zz_bS, zz_b2S, if_true, if_false, Bool.true_eq_false, Bool.false_eq_true, eq_self, ne_eq, not_true_eq_false, not_false_eq_true, false_or, or_false, true_or, or_true, and_true, true_and, and_false, false_and, mI_e, mI_e2, mI_le, mI_le2, mI_lt, mI_lt2, mI_ok, bI_0n, bI_1n, bI_orn, Nat.mul_zero, Nat.zero_add, Nat.add_zero, zl_0, zl_1, zl_2, zl_3, zl_4, zl_5, zl_6, zl_7, zl_8, zl_9, zl_10, zl_12, zl_13, zl_14, zl_15, zl_16, zl_20, zl_32, zl_40, zl_48, zl_57, zl_59, zl_60, zl_63, zl_64, zl_97, zl_99, zl_101, zl_119, zl_120, zl_122, zl_128, zl_136, zl_152, zl_168, zl_184, zl_200, zl_201, zl_202, zl_203, zl_250, zl_255, zl_320, zl_999, zl_1000, c_of h hx hi]
      exact ih
  exact key 8 0 ax_FU rfl (by decide)
theorem c_owedTo (h : zC m g G) {x : Nat} (hx : x < 8) : F_X2_owedTo m g (nI x) = some (nI (gTo G x)) := by
  have key : ∀ k i n, i + k = 8 → k < n → F_X2_owedTo_L4 n m g (nI x) (nI (zs (fun y => gD G y x) i)) (nI i) = some (nI (gTo G x)) := by
    refine zz_loop 8 (fun n => ?_) (fun n i hi ih => ?_)
    · rw [F_X2_owedTo_L4, zl_8, if_pos (Int32.le_refl _)]; rfl
    · rw [F_X2_owedTo_L4]
      simp (disch := omega) only [↓zl_m1, zz_leT, zz_leF, zz_ltT, zz_ltF, zz_eqT, zz_eqF, zz_okN, zz_okF, nI_clamp, nI_add, pk_mul, pk_sub, zz_bS, zz_b2S, if_true, if_false, Bool.true_eq_false, Bool.false_eq_true, eq_self, ne_eq, not_true_eq_false, not_false_eq_true, false_or, or_false, true_or, or_true, and_true, true_and, and_false, false_and, mI_e, mI_e2, mI_le, mI_le2, mI_lt, mI_lt2, mI_ok, bI_0n, bI_1n, bI_orn, Nat.mul_zero, Nat.zero_add, Nat.add_zero, zl_0, zl_1, zl_2, zl_3, zl_4, zl_5, zl_6, zl_7, zl_8, zl_9, zl_10, zl_12, zl_13, zl_14, zl_15, zl_16, zl_20, zl_32, zl_40, zl_48, zl_57, zl_59, zl_60, zl_63, zl_64, zl_97, zl_99, zl_101, zl_119, zl_120, zl_122, zl_128, zl_136, zl_152, zl_168, zl_184, zl_200, zl_201, zl_202, zl_203, zl_250, zl_255, zl_320, zl_999, zl_1000, c_of h hi hx]
      exact ih
  exact key 8 0 ax_FU rfl (by decide)
theorem c_balance (h : zC m g G) {x : Nat} (hx : x < 8) : F_X2_balance m g (nI x) = some (nI (gTo G x) - nI (gOw G x)) := by
  unfold F_X2_balance
  simp (disch := omega) only [↓zl_m1, zz_leT, zz_leF, zz_ltT, zz_ltF, zz_eqT, zz_eqF, zz_okN, zz_okF, nI_clamp, nI_add, pk_mul, pk_sub, zz_bS, zz_b2S, if_true, if_false, Bool.true_eq_false, Bool.false_eq_true, eq_self, ne_eq, not_true_eq_false, not_false_eq_true, false_or, or_false, true_or, or_true, and_true, true_and, and_false, false_and, mI_e, mI_e2, mI_le, mI_le2, mI_lt, mI_lt2, mI_ok, bI_0n, bI_1n, bI_orn, Nat.mul_zero, Nat.zero_add, Nat.add_zero, zl_0, zl_1, zl_2, zl_3, zl_4, zl_5, zl_6, zl_7, zl_8, zl_9, zl_10, zl_12, zl_13, zl_14, zl_15, zl_16, zl_20, zl_32, zl_40, zl_48, zl_57, zl_59, zl_60, zl_63, zl_64, zl_97, zl_99, zl_101, zl_119, zl_120, zl_122, zl_128, zl_136, zl_152, zl_168, zl_184, zl_200, zl_201, zl_202, zl_203, zl_250, zl_255, zl_320, zl_999, zl_1000, c_owedTo h hx, c_owedBy h hx]
theorem c_all (h : zC m g G) : F_X2_all m g = some (nI (zs (gOw G) 8)) := by
  have key : ∀ k i n, i + k = 8 → k < n → F_X2_all_L4 n m g (nI (zs (gOw G) i)) (nI i) = some (nI (zs (gOw G) 8)) := by
    refine zz_loop 8 (fun n => ?_) (fun n i hi ih => ?_)
    · rw [F_X2_all_L4, zl_8, if_pos (Int32.le_refl _)]
    · rw [F_X2_all_L4]
      simp (disch := omega) only [↓zl_m1, zz_leT, zz_leF, zz_ltT, zz_ltF, zz_eqT, zz_eqF, zz_okN, zz_okF, nI_clamp, nI_add, pk_mul, pk_sub, zz_bS, zz_b2S, if_true, if_false, Bool.true_eq_false, Bool.false_eq_true, eq_self, ne_eq, not_true_eq_false, not_false_eq_true, false_or, or_false, true_or, or_true, and_true, true_and, and_false, false_and, mI_e, mI_e2, mI_le, mI_le2, mI_lt, mI_lt2, mI_ok, bI_0n, bI_1n, bI_orn, Nat.mul_zero, Nat.zero_add, Nat.add_zero, zl_0, zl_1, zl_2, zl_3, zl_4, zl_5, zl_6, zl_7, zl_8, zl_9, zl_10, zl_12, zl_13, zl_14, zl_15, zl_16, zl_20, zl_32, zl_40, zl_48, zl_57, zl_59, zl_60, zl_63, zl_64, zl_97, zl_99, zl_101, zl_119, zl_120, zl_122, zl_128, zl_136, zl_152, zl_168, zl_184, zl_200, zl_201, zl_202, zl_203, zl_250, zl_255, zl_320, zl_999, zl_1000, c_owedBy h hi]
      exact ih
  exact key 8 0 ax_FU rfl (by decide)
theorem c_isPerson (h : zC m g G) (hV : zV G) (v : Int32) : F_X3_isPerson m g v = some (bI (ax_ok v (gP G))) := by
  have := hV.p
  unfold F_X3_isPerson
  rw [h.p, zk_in (by omega), bI_if]
theorem c_isSeed (h : zC m g G) (hV : zV G) (v : Int32) : F_X3_isSeed m g v = some (bI (ax_ok v (gS G))) := by
  have := hV.s
  unfold F_X3_isSeed
  rw [h.s, zk_in (by omega), bI_if]
theorem c_isKind (v : Int32) : F_X6_isKind v = some (bI (ax_ok v 6)) := by
  unfold F_X6_isKind
  rw [zl_6, zk_in (by omega), bI_if]
theorem c_hasWall (h : zC m g G) {c : Nat} (hc : c < 64) : F_X3_hasWall m g (nI c) = some (bI (gW G c)) := by
  unfold F_X3_hasWall
  rw [h.w, cs_has hc, zz_bS, bI_oi]
theorem c_peopleWithin (h : zC m g G) (hV : zV G) (f : Nat → Bool) : F_X3_peopleWithin m g (lb f) = some (zm (fun p => f (gO G p)) (gP G)) := by
  have hp := hV.p
  have key : ∀ k i n, i + k = gP G → k < n → F_X3_peopleWithin_L4 n m g (lb f) (zm (fun p => f (gO G p)) i) (nI i) = some (zm (fun p => f (gO G p)) (gP G)) := by
    refine zz_loop (gP G) (fun n => ?_) (fun n i hi ih => ?_)
    · rw [F_X3_peopleWithin_L4, h.p, if_pos (Int32.le_refl _)]
    · rw [F_X3_peopleWithin_L4]
      simp (disch := omega) only [↓zl_m1, zz_leT, zz_leF, zz_ltT, zz_ltF, zz_eqT, zz_eqF, zz_okN, zz_okF, nI_clamp, nI_add, pk_mul, pk_sub, zz_bS, zz_b2S, if_true, if_false, Bool.true_eq_false, Bool.false_eq_true, eq_self, ne_eq, not_true_eq_false, not_false_eq_true, false_or, or_false, true_or, or_true, and_true, true_and, and_false, false_and, mI_e, mI_e2, mI_le, mI_le2, mI_lt, mI_lt2, mI_ok, bI_0n, bI_1n, bI_orn, Nat.mul_zero, Nat.zero_add, Nat.add_zero, zl_0, zl_1, zl_2, zl_3, zl_4, zl_5, zl_6, zl_7, zl_8, zl_9, zl_10, zl_12, zl_13, zl_14, zl_15, zl_16, zl_20, zl_32, zl_40, zl_48, zl_57, zl_59, zl_60, zl_63, zl_64, zl_97, zl_99, zl_101, zl_119, zl_120, zl_122, zl_128, zl_136, zl_152, zl_168, zl_184, zl_200, zl_201, zl_202, zl_203, zl_250, zl_255, zl_320, zl_999, zl_1000, h.p, h.o (show i < 8 by omega), cs_has (hV.o (show i < 8 by omega))]
      cases e : f (gO G i) with
      | true => rw [if_neg (by decide), zm_s (f := fun p => f (gO G p)) e]; exact ih
      | false => rw [if_pos rfl, ← zm_n (f := fun p => f (gO G p)) e]; exact ih
  exact key (gP G) 0 ax_FU (by omega) (by unfold ax_FU; omega)
theorem c_isStoodOn (h : zC m g G) (hV : zV G) {c : Nat} (hc : c < 64) : F_X3_isStoodOn m g (nI c) = some (bI (zany (fun p => decide (gO G p = c)) (gP G))) := by
  have hp := hV.p
  unfold F_X3_isStoodOn
  rw [cs_bit hc, zz_bS, c_peopleWithin h hV, zz_bS]
  simp (disch := omega) only [↓zl_m1, zz_leT, zz_leF, zz_ltT, zz_ltF, zz_eqT, zz_eqF, zz_okN, zz_okF, nI_clamp, nI_add, pk_mul, pk_sub, zz_bS, zz_b2S, if_true, if_false, Bool.true_eq_false, Bool.false_eq_true, eq_self, ne_eq, not_true_eq_false, not_false_eq_true, false_or, or_false, true_or, or_true, and_true, true_and, and_false, false_and, mI_e, mI_e2, mI_le, mI_le2, mI_lt, mI_lt2, mI_ok, bI_0n, bI_1n, bI_orn, Nat.mul_zero, Nat.zero_add, Nat.add_zero, zl_0, zl_1, zl_2, zl_3, zl_4, zl_5, zl_6, zl_7, zl_8, zl_9, zl_10, zl_12, zl_13, zl_14, zl_15, zl_16, zl_20, zl_32, zl_40, zl_48, zl_57, zl_59, zl_60, zl_63, zl_64, zl_97, zl_99, zl_101, zl_119, zl_120, zl_122, zl_128, zl_136, zl_152, zl_168, zl_184, zl_200, zl_201, zl_202, zl_203, zl_250, zl_255, zl_320, zl_999, zl_1000, zm_any (show gP G ≤ 32 by omega)]
  cases zany (fun p => decide (gO G p = c)) (gP G) <;> rfl
theorem zc_0 (f : Nat → Bool) : zc f 0 = 0 := rfl
theorem zc_s {f : Nat → Bool} {n : Nat} (h : f n = true) : zc f (n + 1) = zc f n + 1 := by rw [zc, if_pos h]
theorem zc_n {f : Nat → Bool} {n : Nat} (h : f n = false) : zc f (n + 1) = zc f n := by rw [zc, h]; rfl
theorem c_debtors (h : zC m g G) (hV : zV G) : F_X3_debtors m g = some (nI (zc (fun p => decide (0 < gOw G p)) (gP G))) := by
  have hp := hV.p
  have key : ∀ k i n, i + k = gP G → k < n → F_X3_debtors_L4 n m g (nI (zc (fun p => decide (0 < gOw G p)) i)) (nI i) = some (nI (zc (fun p => decide (0 < gOw G p)) (gP G))) := by
    refine zz_loop (gP G) (fun n => ?_) (fun n i hi ih => ?_)
    · rw [F_X3_debtors_L4, h.p, if_pos (Int32.le_refl _)]
    · rw [F_X3_debtors_L4]
      have hl := gOw_le hV (show i < 8 by omega)
      by_cases e : 0 < gOw G i
      · simp (disch := omega) only [↓zl_m1, zz_leT, zz_leF, zz_ltT, zz_ltF, zz_eqT, zz_eqF, zz_okN, zz_okF, nI_clamp, nI_add, pk_mul, pk_sub, zz_bS, zz_b2S, if_true, if_false, Bool.true_eq_false, Bool.false_eq_true, eq_self, ne_eq, not_true_eq_false, not_false_eq_true, false_or, or_false, true_or, or_true, and_true, true_and, and_false, false_and, mI_e, mI_e2, mI_le, mI_le2, mI_lt, mI_lt2, mI_ok, bI_0n, bI_1n, bI_orn, Nat.mul_zero, Nat.zero_add, Nat.add_zero, zl_0, zl_1, zl_2, zl_3, zl_4, zl_5, zl_6, zl_7, zl_8, zl_9, zl_10, zl_12, zl_13, zl_14, zl_15, zl_16, zl_20, zl_32, zl_40, zl_48, zl_57, zl_59, zl_60, zl_63, zl_64, zl_97, zl_99, zl_101, zl_119, zl_120, zl_122, zl_128, zl_136, zl_152, zl_168, zl_184, zl_200, zl_201, zl_202, zl_203, zl_250, zl_255, zl_320, zl_999, zl_1000, h.p, c_owedBy h (show i < 8 by omega)]
        rw [zc_s (f := fun p => decide (0 < gOw G p)) (decide_eq_true e)] at ih
        exact ih
      · simp (disch := omega) only [↓zl_m1, zz_leT, zz_leF, zz_ltT, zz_ltF, zz_eqT, zz_eqF, zz_okN, zz_okF, nI_clamp, nI_add, pk_mul, pk_sub, zz_bS, zz_b2S, if_true, if_false, Bool.true_eq_false, Bool.false_eq_true, eq_self, ne_eq, not_true_eq_false, not_false_eq_true, false_or, or_false, true_or, or_true, and_true, true_and, and_false, false_and, mI_e, mI_e2, mI_le, mI_le2, mI_lt, mI_lt2, mI_ok, bI_0n, bI_1n, bI_orn, Nat.mul_zero, Nat.zero_add, Nat.add_zero, zl_0, zl_1, zl_2, zl_3, zl_4, zl_5, zl_6, zl_7, zl_8, zl_9, zl_10, zl_12, zl_13, zl_14, zl_15, zl_16, zl_20, zl_32, zl_40, zl_48, zl_57, zl_59, zl_60, zl_63, zl_64, zl_97, zl_99, zl_101, zl_119, zl_120, zl_122, zl_128, zl_136, zl_152, zl_168, zl_184, zl_200, zl_201, zl_202, zl_203, zl_250, zl_255, zl_320, zl_999, zl_1000, h.p, c_owedBy h (show i < 8 by omega)]
        rw [zc_n (f := fun p => decide (0 < gOw G p)) (decide_eq_false e)] at ih
        exact ih
  exact key (gP G) 0 ax_FU (by omega) (by unfold ax_FU; omega)
theorem c_allSeeds (h : zC m g G) (hV : zV G) : F_X3_allSeeds m g = some (zm (fun _ => true) (gS G)) := by
  unfold F_X3_allSeeds
  rw [h.s, zm_all _ hV.s]
theorem c_seedsBut (h : zC m g G) (hV : zV G) (v : Int32) : F_X3_seedsBut m g v = some (zm (fun i => decide (nI (gR G i) ≠ v)) (gS G)) := by
  have hs := hV.s
  have key : ∀ k i n, i + k = gS G → k < n → F_X3_seedsBut_L4 n m g v (zm (fun i => decide (nI (gR G i) ≠ v)) i) (nI i) = some (zm (fun i => decide (nI (gR G i) ≠ v)) (gS G)) := by
    refine zz_loop (gS G) (fun n => ?_) (fun n i hi ih => ?_)
    · rw [F_X3_seedsBut_L4, h.s, if_pos (Int32.le_refl _)]
    · rw [F_X3_seedsBut_L4]
      simp (disch := omega) only [↓zl_m1, zz_leT, zz_leF, zz_ltT, zz_ltF, zz_eqT, zz_eqF, zz_okN, zz_okF, nI_clamp, nI_add, pk_mul, pk_sub, zz_bS, zz_b2S, if_true, if_false, Bool.true_eq_false, Bool.false_eq_true, eq_self, ne_eq, not_true_eq_false, not_false_eq_true, false_or, or_false, true_or, or_true, and_true, true_and, and_false, false_and, mI_e, mI_e2, mI_le, mI_le2, mI_lt, mI_lt2, mI_ok, bI_0n, bI_1n, bI_orn, Nat.mul_zero, Nat.zero_add, Nat.add_zero, zl_0, zl_1, zl_2, zl_3, zl_4, zl_5, zl_6, zl_7, zl_8, zl_9, zl_10, zl_12, zl_13, zl_14, zl_15, zl_16, zl_20, zl_32, zl_40, zl_48, zl_57, zl_59, zl_60, zl_63, zl_64, zl_97, zl_99, zl_101, zl_119, zl_120, zl_122, zl_128, zl_136, zl_152, zl_168, zl_184, zl_200, zl_201, zl_202, zl_203, zl_250, zl_255, zl_320, zl_999, zl_1000, h.s, h.r (show i < 16 by omega)]
      by_cases e : nI (gR G i) = v
      · rw [if_pos e, ← zm_n (f := fun i => decide (nI (gR G i) ≠ v)) (decide_eq_false (fun z => z e))]; exact ih
      · rw [if_neg e, zm_s (f := fun i => decide (nI (gR G i) ≠ v)) (decide_eq_true e)]; exact ih
  exact key (gS G) 0 ax_FU (by omega) (by unfold ax_FU; omega)
theorem c_price (h : zC m g G) (hV : zV G) {i : Nat} (hi : i < 16) : F_X6_price m (16 * g + i) = some (nI (gPr G i)) := by
  have hk := hV.k hi
  have ha := hV.a hi
  unfold F_X6_price gPr
  by_cases e : gK G i = 3
  · simp (disch := omega) only [↓zl_m1, zz_leT, zz_leF, zz_ltT, zz_ltF, zz_eqT, zz_eqF, zz_okN, zz_okF, nI_clamp, nI_add, pk_mul, pk_sub, zz_bS, zz_b2S, if_true, if_false, Bool.true_eq_false, Bool.false_eq_true, eq_self, ne_eq, not_true_eq_false, not_false_eq_true, false_or, or_false, true_or, or_true, and_true, true_and, and_false, false_and, mI_e, mI_e2, mI_le, mI_le2, mI_lt, mI_lt2, mI_ok, bI_0n, bI_1n, bI_orn, Nat.mul_zero, Nat.zero_add, Nat.add_zero, zl_0, zl_1, zl_2, zl_3, zl_4, zl_5, zl_6, zl_7, zl_8, zl_9, zl_10, zl_12, zl_13, zl_14, zl_15, zl_16, zl_20, zl_32, zl_40, zl_48, zl_57, zl_59, zl_60, zl_63, zl_64, zl_97, zl_99, zl_101, zl_119, zl_120, zl_122, zl_128, zl_136, zl_152, zl_168, zl_184, zl_200, zl_201, zl_202, zl_203, zl_250, zl_255, zl_320, zl_999, zl_1000, h.k hi, h.a hi, e, zz_max]
  · by_cases e2 : gK G i = 5
    · simp (disch := omega) only [↓zl_m1, zz_leT, zz_leF, zz_ltT, zz_ltF, zz_eqT, zz_eqF, zz_okN, zz_okF, nI_clamp, nI_add, pk_mul, pk_sub, zz_bS, zz_b2S, if_true, if_false, Bool.true_eq_false, Bool.false_eq_true, eq_self, ne_eq, not_true_eq_false, not_false_eq_true, false_or, or_false, true_or, or_true, and_true, true_and, and_false, false_and, mI_e, mI_e2, mI_le, mI_le2, mI_lt, mI_lt2, mI_ok, bI_0n, bI_1n, bI_orn, Nat.mul_zero, Nat.zero_add, Nat.add_zero, zl_0, zl_1, zl_2, zl_3, zl_4, zl_5, zl_6, zl_7, zl_8, zl_9, zl_10, zl_12, zl_13, zl_14, zl_15, zl_16, zl_20, zl_32, zl_40, zl_48, zl_57, zl_59, zl_60, zl_63, zl_64, zl_97, zl_99, zl_101, zl_119, zl_120, zl_122, zl_128, zl_136, zl_152, zl_168, zl_184, zl_200, zl_201, zl_202, zl_203, zl_250, zl_255, zl_320, zl_999, zl_1000, h.k hi, h.a hi, e2, zz_max]
      rfl
    · simp (disch := omega) only [↓zl_m1, zz_leT, zz_leF, zz_ltT, zz_ltF, zz_eqT, zz_eqF, zz_okN, zz_okF, nI_clamp, nI_add, pk_mul, pk_sub, zz_bS, zz_b2S, if_true, if_false, Bool.true_eq_false, Bool.false_eq_true, eq_self, ne_eq, not_true_eq_false, not_false_eq_true, false_or, or_false, true_or, or_true, and_true, true_and, and_false, false_and, mI_e, mI_e2, mI_le, mI_le2, mI_lt, mI_lt2, mI_ok, bI_0n, bI_1n, bI_orn, Nat.mul_zero, Nat.zero_add, Nat.add_zero, zl_0, zl_1, zl_2, zl_3, zl_4, zl_5, zl_6, zl_7, zl_8, zl_9, zl_10, zl_12, zl_13, zl_14, zl_15, zl_16, zl_20, zl_32, zl_40, zl_48, zl_57, zl_59, zl_60, zl_63, zl_64, zl_97, zl_99, zl_101, zl_119, zl_120, zl_122, zl_128, zl_136, zl_152, zl_168, zl_184, zl_200, zl_201, zl_202, zl_203, zl_250, zl_255, zl_320, zl_999, zl_1000, h.k hi, h.a hi, e, e2]
      rfl
theorem c_enoughOf (h : zC m g G) (hV : zV G) {p : Nat} (hp : p < 8) : F_X3_enoughOf m g (nI p) = some (zm (gE G p) (gS G)) := by
  have hs := hV.s
  have hl := gOw_le hV hp
  have key : ∀ k i n, i + k = gS G → k < n → F_X3_enoughOf_L13 n m g (nI p) (bI (decide (0 < gOw G p))) (zm (gE G p) i) (nI i) = some (zm (gE G p) (gS G)) := by
    refine zz_loop (gS G) (fun n => ?_) (fun n i hi ih => ?_)
    · rw [F_X3_enoughOf_L13, h.s, if_pos (Int32.le_refl _)]
    · have hi2 : i < 16 := by omega
      have hk := hV.k hi2
      have hr := hV.r hi2
      have hd := hV.d hp hr
      have hb := gPr_b hV hi2
      have st : gE G p i = true ∨ gE G p i = false := by cases gE G p i <;> simp
      rw [F_X3_enoughOf_L13]
      by_cases e : gK G i = 4
      · simp (disch := omega) only [↓zl_m1, zz_leT, zz_leF, zz_ltT, zz_ltF, zz_eqT, zz_eqF, zz_okN, zz_okF, nI_clamp, nI_add, pk_mul, pk_sub, zz_bS, zz_b2S, if_true, if_false, Bool.true_eq_false, Bool.false_eq_true, eq_self, ne_eq, not_true_eq_false, not_false_eq_true, false_or, or_false, true_or, or_true, and_true, true_and, and_false, false_and, mI_e, mI_e2, mI_le, mI_le2, mI_lt, mI_lt2, mI_ok, bI_0n, bI_1n, bI_orn, Nat.mul_zero, Nat.zero_add, Nat.add_zero, zl_0, zl_1, zl_2, zl_3, zl_4, zl_5, zl_6, zl_7, zl_8, zl_9, zl_10, zl_12, zl_13, zl_14, zl_15, zl_16, zl_20, zl_32, zl_40, zl_48, zl_57, zl_59, zl_60, zl_63, zl_64, zl_97, zl_99, zl_101, zl_119, zl_120, zl_122, zl_128, zl_136, zl_152, zl_168, zl_184, zl_200, zl_201, zl_202, zl_203, zl_250, zl_255, zl_320, zl_999, zl_1000, h.s, h.k hi2, e]
        rcases st with st | st
        · rw [← zm_s st] at ih
          rw [gE, if_pos e] at st
          rw [st] at ih ⊢
          rw [if_neg (by decide)]
          exact ih
        · rw [zm_n st] at ih
          rw [gE, if_pos e] at st
          rw [st] at ih ⊢
          rw [if_pos rfl]
          exact ih
      · simp (disch := omega) only [↓zl_m1, zz_leT, zz_leF, zz_ltT, zz_ltF, zz_eqT, zz_eqF, zz_okN, zz_okF, nI_clamp, nI_add, pk_mul, pk_sub, zz_bS, zz_b2S, if_true, if_false, Bool.true_eq_false, Bool.false_eq_true, eq_self, ne_eq, not_true_eq_false, not_false_eq_true, false_or, or_false, true_or, or_true, and_true, true_and, and_false, false_and, mI_e, mI_e2, mI_le, mI_le2, mI_lt, mI_lt2, mI_ok, bI_0n, bI_1n, bI_orn, Nat.mul_zero, Nat.zero_add, Nat.add_zero, zl_0, zl_1, zl_2, zl_3, zl_4, zl_5, zl_6, zl_7, zl_8, zl_9, zl_10, zl_12, zl_13, zl_14, zl_15, zl_16, zl_20, zl_32, zl_40, zl_48, zl_57, zl_59, zl_60, zl_63, zl_64, zl_97, zl_99, zl_101, zl_119, zl_120, zl_122, zl_128, zl_136, zl_152, zl_168, zl_184, zl_200, zl_201, zl_202, zl_203, zl_250, zl_255, zl_320, zl_999, zl_1000, h.s, h.k hi2, h.r hi2, c_of h hp hr, c_price h hV hi2]
        rcases st with st | st
        · rw [← zm_s st] at ih
          rw [gE, if_neg e] at st
          rw [if_neg (nI_nlt (of_decide_eq_true st) (by omega))]
          exact ih
        · rw [zm_n st] at ih
          rw [gE, if_neg e] at st
          have := of_decide_eq_false st
          rw [if_pos (nI_lt (by omega) (by omega))]
          exact ih
  unfold F_X3_enoughOf
  rw [c_owedBy h hp, zz_bS]
  have k2 := key (gS G) 0 ax_FU (by omega) (by unfold ax_FU; omega)
  by_cases e : 0 < gOw G p
  · simp (disch := omega) only [↓zl_m1, zz_leT, zz_leF, zz_ltT, zz_ltF, zz_eqT, zz_eqF, zz_okN, zz_okF, nI_clamp, nI_add, pk_mul, pk_sub, zz_bS, zz_b2S, if_true, if_false, Bool.true_eq_false, Bool.false_eq_true, eq_self, ne_eq, not_true_eq_false, not_false_eq_true, false_or, or_false, true_or, or_true, and_true, true_and, and_false, false_and, mI_e, mI_e2, mI_le, mI_le2, mI_lt, mI_lt2, mI_ok, bI_0n, bI_1n, bI_orn, Nat.mul_zero, Nat.zero_add, Nat.add_zero, zl_0, zl_1, zl_2, zl_3, zl_4, zl_5, zl_6, zl_7, zl_8, zl_9, zl_10, zl_12, zl_13, zl_14, zl_15, zl_16, zl_20, zl_32, zl_40, zl_48, zl_57, zl_59, zl_60, zl_63, zl_64, zl_97, zl_99, zl_101, zl_119, zl_120, zl_122, zl_128, zl_136, zl_152, zl_168, zl_184, zl_200, zl_201, zl_202, zl_203, zl_250, zl_255, zl_320, zl_999, zl_1000]
    rw [decide_eq_true e] at k2
    exact k2
  · simp (disch := omega) only [↓zl_m1, zz_leT, zz_leF, zz_ltT, zz_ltF, zz_eqT, zz_eqF, zz_okN, zz_okF, nI_clamp, nI_add, pk_mul, pk_sub, zz_bS, zz_b2S, if_true, if_false, Bool.true_eq_false, Bool.false_eq_true, eq_self, ne_eq, not_true_eq_false, not_false_eq_true, false_or, or_false, true_or, or_true, and_true, true_and, and_false, false_and, mI_e, mI_e2, mI_le, mI_le2, mI_lt, mI_lt2, mI_ok, bI_0n, bI_1n, bI_orn, Nat.mul_zero, Nat.zero_add, Nat.add_zero, zl_0, zl_1, zl_2, zl_3, zl_4, zl_5, zl_6, zl_7, zl_8, zl_9, zl_10, zl_12, zl_13, zl_14, zl_15, zl_16, zl_20, zl_32, zl_40, zl_48, zl_57, zl_59, zl_60, zl_63, zl_64, zl_97, zl_99, zl_101, zl_119, zl_120, zl_122, zl_128, zl_136, zl_152, zl_168, zl_184, zl_200, zl_201, zl_202, zl_203, zl_250, zl_255, zl_320, zl_999, zl_1000]
    rw [decide_eq_false e] at k2
    exact k2
theorem zrc_le (k : Nat) : zrc k ≤ 2 := by unfold zrc; split <;> (try split) <;> (try split) <;> (try split) <;> omega
theorem c_span (h : zC m g G) (hV : zV G) {i : Nat} (hi : i < 16) : F_X6_span m (16 * g + i) = some (nI (zrc (gK G i))) := by
  have hk := hV.k hi
  unfold F_X6_span
  simp (disch := omega) only [↓zl_m1, zz_leT, zz_leF, zz_ltT, zz_ltF, zz_eqT, zz_eqF, zz_okN, zz_okF, nI_clamp, nI_add, pk_mul, pk_sub, zz_bS, zz_b2S, if_true, if_false, Bool.true_eq_false, Bool.false_eq_true, eq_self, ne_eq, not_true_eq_false, not_false_eq_true, false_or, or_false, true_or, or_true, and_true, true_and, and_false, false_and, mI_e, mI_e2, mI_le, mI_le2, mI_lt, mI_lt2, mI_ok, bI_0n, bI_1n, bI_orn, Nat.mul_zero, Nat.zero_add, Nat.add_zero, zl_0, zl_1, zl_2, zl_3, zl_4, zl_5, zl_6, zl_7, zl_8, zl_9, zl_10, zl_12, zl_13, zl_14, zl_15, zl_16, zl_20, zl_32, zl_40, zl_48, zl_57, zl_59, zl_60, zl_63, zl_64, zl_97, zl_99, zl_101, zl_119, zl_120, zl_122, zl_128, zl_136, zl_152, zl_168, zl_184, zl_200, zl_201, zl_202, zl_203, zl_250, zl_255, zl_320, zl_999, zl_1000, h.k hi, c_isKind, bI_0n]
  rw [(by decide : ∀ k, k < 6 → ax_sta 41 k = nI (zrc k)) _ hk]
theorem c_zoneAll : ∀ c, c < 64 → ∀ s, s < 3 → F_X0_zone (nI c) (nI s) = some (lb (fun d => decide (zfar d c ≤ s))) := by decide +kernel
theorem c_zone (h : zC m g G) (hV : zV G) {i : Nat} (hi : i < 16) : F_X6_zone m (16 * g + i) = some (lb (fun c => gN G c i)) := by
  have hc := hV.c hi
  have hr := zrc_le (gK G i)
  unfold F_X6_zone
  rw [c_span h hV hi, zz_bS, h.c hi, c_zoneAll _ hc _ (by omega)]
  rfl
theorem c_near (h : zC m g G) (hV : zV G) {c : Nat} (hc : c < 64) (f : Nat → Bool) : F_X3_near m g (nI c) (zm f (gS G)) = some (zm (fun i => f i && gN G c i) (gS G)) := by
  have hs := hV.s
  have key : ∀ k i n, i + k = gS G → k < n → F_X3_near_L4 n m g (nI c) (zm f (gS G)) (zm (fun i => f i && gN G c i) i) (nI i) = some (zm (fun i => f i && gN G c i) (gS G)) := by
    refine zz_loop (gS G) (fun n => ?_) (fun n i hi ih => ?_)
    · rw [F_X3_near_L4, h.s, if_pos (Int32.le_refl _)]
    · rw [F_X3_near_L4]
      cases e : f i with
      | false =>
        simp (disch := omega) only [↓zl_m1, zz_leT, zz_leF, zz_ltT, zz_ltF, zz_eqT, zz_eqF, zz_okN, zz_okF, nI_clamp, nI_add, pk_mul, pk_sub, zz_bS, zz_b2S, if_true, if_false, Bool.true_eq_false, Bool.false_eq_true, eq_self, ne_eq, not_true_eq_false, not_false_eq_true, false_or, or_false, true_or, or_true, and_true, true_and, and_false, false_and, mI_e, mI_e2, mI_le, mI_le2, mI_lt, mI_lt2, mI_ok, bI_0n, bI_1n, bI_orn, Nat.mul_zero, Nat.zero_add, Nat.add_zero, zl_0, zl_1, zl_2, zl_3, zl_4, zl_5, zl_6, zl_7, zl_8, zl_9, zl_10, zl_12, zl_13, zl_14, zl_15, zl_16, zl_20, zl_32, zl_40, zl_48, zl_57, zl_59, zl_60, zl_63, zl_64, zl_97, zl_99, zl_101, zl_119, zl_120, zl_122, zl_128, zl_136, zl_152, zl_168, zl_184, zl_200, zl_201, zl_202, zl_203, zl_250, zl_255, zl_320, zl_999, zl_1000, h.s, zm_u (show gS G ≤ 32 by omega) hi, e]
        rw [zm_n (f := fun i => f i && gN G c i) (by show (f i && gN G c i) = false; rw [e]; rfl)] at ih
        exact ih
      | true =>
        simp (disch := omega) only [↓zl_m1, zz_leT, zz_leF, zz_ltT, zz_ltF, zz_eqT, zz_eqF, zz_okN, zz_okF, nI_clamp, nI_add, pk_mul, pk_sub, zz_bS, zz_b2S, if_true, if_false, Bool.true_eq_false, Bool.false_eq_true, eq_self, ne_eq, not_true_eq_false, not_false_eq_true, false_or, or_false, true_or, or_true, and_true, true_and, and_false, false_and, mI_e, mI_e2, mI_le, mI_le2, mI_lt, mI_lt2, mI_ok, bI_0n, bI_1n, bI_orn, Nat.mul_zero, Nat.zero_add, Nat.add_zero, zl_0, zl_1, zl_2, zl_3, zl_4, zl_5, zl_6, zl_7, zl_8, zl_9, zl_10, zl_12, zl_13, zl_14, zl_15, zl_16, zl_20, zl_32, zl_40, zl_48, zl_57, zl_59, zl_60, zl_63, zl_64, zl_97, zl_99, zl_101, zl_119, zl_120, zl_122, zl_128, zl_136, zl_152, zl_168, zl_184, zl_200, zl_201, zl_202, zl_203, zl_250, zl_255, zl_320, zl_999, zl_1000, h.s, zm_u (show gS G ≤ 32 by omega) hi, e, c_zone h hV (show i < 16 by omega), cs_has hc]
        cases e2 : gN G c i with
        | false =>
          rw [zm_n (f := fun i => f i && gN G c i) (by show (f i && gN G c i) = false; rw [e, e2]; rfl)] at ih
          rw [if_pos rfl]
          exact ih
        | true =>
          rw [← zm_s (f := fun i => f i && gN G c i) (by show (f i && gN G c i) = true; rw [e, e2]; rfl)] at ih
          rw [if_neg (by decide)]
          exact ih
  exact key (gS G) 0 ax_FU (by omega) (by unfold ax_FU; omega)
theorem c_shownBy (h : zC m g G) (hV : zV G) {p : Nat} (hp : p < 8) : F_X3_shownBy m g (nI p) = some (zm (fun i => gUp G i p) (gS G)) := by
  unfold F_X3_shownBy
  simp (disch := omega) only [↓zl_m1, zz_leT, zz_leF, zz_ltT, zz_ltF, zz_eqT, zz_eqF, zz_okN, zz_okF, nI_clamp, nI_add, pk_mul, pk_sub, zz_bS, zz_b2S, if_true, if_false, Bool.true_eq_false, Bool.false_eq_true, eq_self, ne_eq, not_true_eq_false, not_false_eq_true, false_or, or_false, true_or, or_true, and_true, true_and, and_false, false_and, mI_e, mI_e2, mI_le, mI_le2, mI_lt, mI_lt2, mI_ok, bI_0n, bI_1n, bI_orn, Nat.mul_zero, Nat.zero_add, Nat.add_zero, zl_0, zl_1, zl_2, zl_3, zl_4, zl_5, zl_6, zl_7, zl_8, zl_9, zl_10, zl_12, zl_13, zl_14, zl_15, zl_16, zl_20, zl_32, zl_40, zl_48, zl_57, zl_59, zl_60, zl_63, zl_64, zl_97, zl_99, zl_101, zl_119, zl_120, zl_122, zl_128, zl_136, zl_152, zl_168, zl_184, zl_200, zl_201, zl_202, zl_203, zl_250, zl_255, zl_320, zl_999, zl_1000, c_enoughOf h hV hp, h.o hp, c_near h hV (hV.o hp)]
  refine congrArg some (zm_congr (fun i _ => ?_))
  show (gE G p i && gN G (gO G p) i) = (gN G (gO G p) i && gE G p i)
  exact Bool.and_comm _ _
theorem c_shown (h : zC m g G) (hV : zV G) : F_X3_shown m g = some (zm (fun i => zany (gUp G i) (gP G)) (gS G)) := by
  have hs := hV.s
  have hp := hV.p
  have key : ∀ k i n, i + k = gP G → k < n → F_X3_shown_L4 n m g (zm (fun s => zany (gUp G s) i) (gS G)) (nI i) = some (zm (fun i => zany (gUp G i) (gP G)) (gS G)) := by
    refine zz_loop (gP G) (fun n => ?_) (fun n i hi ih => ?_)
    · rw [F_X3_shown_L4, h.p, if_pos (Int32.le_refl _)]
    · rw [F_X3_shown_L4]
      simp (disch := omega) only [↓zl_m1, zz_leT, zz_leF, zz_ltT, zz_ltF, zz_eqT, zz_eqF, zz_okN, zz_okF, nI_clamp, nI_add, pk_mul, pk_sub, zz_bS, zz_b2S, if_true, if_false, Bool.true_eq_false, Bool.false_eq_true, eq_self, ne_eq, not_true_eq_false, not_false_eq_true, false_or, or_false, true_or, or_true, and_true, true_and, and_false, false_and, mI_e, mI_e2, mI_le, mI_le2, mI_lt, mI_lt2, mI_ok, bI_0n, bI_1n, bI_orn, Nat.mul_zero, Nat.zero_add, Nat.add_zero, zl_0, zl_1, zl_2, zl_3, zl_4, zl_5, zl_6, zl_7, zl_8, zl_9, zl_10, zl_12, zl_13, zl_14, zl_15, zl_16, zl_20, zl_32, zl_40, zl_48, zl_57, zl_59, zl_60, zl_63, zl_64, zl_97, zl_99, zl_101, zl_119, zl_120, zl_122, zl_128, zl_136, zl_152, zl_168, zl_184, zl_200, zl_201, zl_202, zl_203, zl_250, zl_255, zl_320, zl_999, zl_1000, h.p, c_shownBy h hV (show i < 8 by omega), zm_or (show gS G ≤ 32 by omega)]
      exact ih
  have k2 := key (gP G) 0 ax_FU (by omega) (by unfold ax_FU; omega)
  unfold F_X3_shown
  rw [(zm_0 (f := fun s => zany (gUp G s) 0) (by omega)).mpr (fun i _ => rfl)] at k2
  exact k2
theorem c_showers (h : zC m g G) (hV : zV G) {i : Nat} (hi : i < gS G) : F_X3_showers m g (nI i) = some (zm (gUp G i) (gP G)) := by
  have hs := hV.s
  have hp := hV.p
  have key : ∀ k p n, p + k = gP G → k < n → F_X3_showers_L4 n m g (nI i) (zm (gUp G i) p) (nI p) = some (zm (gUp G i) (gP G)) := by
    refine zz_loop (gP G) (fun n => ?_) (fun n p hi ih => ?_)
    · rw [F_X3_showers_L4, h.p, if_pos (Int32.le_refl _)]
    · rw [F_X3_showers_L4]
      simp (disch := omega) only [↓zl_m1, zz_leT, zz_leF, zz_ltT, zz_ltF, zz_eqT, zz_eqF, zz_okN, zz_okF, nI_clamp, nI_add, pk_mul, pk_sub, zz_bS, zz_b2S, if_true, if_false, Bool.true_eq_false, Bool.false_eq_true, eq_self, ne_eq, not_true_eq_false, not_false_eq_true, false_or, or_false, true_or, or_true, and_true, true_and, and_false, false_and, mI_e, mI_e2, mI_le, mI_le2, mI_lt, mI_lt2, mI_ok, bI_0n, bI_1n, bI_orn, Nat.mul_zero, Nat.zero_add, Nat.add_zero, zl_0, zl_1, zl_2, zl_3, zl_4, zl_5, zl_6, zl_7, zl_8, zl_9, zl_10, zl_12, zl_13, zl_14, zl_15, zl_16, zl_20, zl_32, zl_40, zl_48, zl_57, zl_59, zl_60, zl_63, zl_64, zl_97, zl_99, zl_101, zl_119, zl_120, zl_122, zl_128, zl_136, zl_152, zl_168, zl_184, zl_200, zl_201, zl_202, zl_203, zl_250, zl_255, zl_320, zl_999, zl_1000, h.p, c_shownBy h hV (show p < 8 by omega), zm_u (show gS G ≤ 32 by omega) ‹i < gS G›]
      cases e : gUp G i p with
      | false => rw [if_pos rfl]; rw [zm_n e] at ih; exact ih
      | true => rw [if_neg (by decide)]; rw [← zm_s e] at ih; exact ih
  exact key (gP G) 0 ax_FU (by omega) (by unfold ax_FU; omega)
theorem qb1 : ∀ a b n z : Bool, (b && a) = false → z = (z || (a && (n && b))) := by decide
theorem qb2 : ∀ a b n z : Bool, (b && a) = true → (z || n) = (z || (a && (n && b))) := by decide
theorem c_quietAmong (h : zC m g G) (hV : zV G) {p : Nat} (hp : p < 8) (f : Nat → Bool) : F_X3_quietAmong m g (nI p) (zm f (gS G)) = some (lb (fun c => !gW G c && !zany (fun i => f i && gU G i p c) (gS G))) := by
  have hs := hV.s
  have key : ∀ k i n, i + k = gS G → k < n → F_X3_quietAmong_L10 n m g (zm (fun i => gE G p i && f i) (gS G)) (lb (fun c => zany (fun i => f i && gU G i p c) i)) (nI i) = some (lb (fun c => !gW G c && !zany (fun i => f i && gU G i p c) (gS G))) := by
    refine zz_loop (gS G) (fun n => ?_) (fun n i hi ih => ?_)
    · rw [F_X3_quietAmong_L10, h.s, if_pos (Int32.le_refl _), h.w, lb_not, lb_not, lb_and]
    · rw [F_X3_quietAmong_L10]
      cases e : (gE G p i && f i) with
      | false =>
        simp (disch := omega) only [↓zl_m1, zz_leT, zz_leF, zz_ltT, zz_ltF, zz_eqT, zz_eqF, zz_okN, zz_okF, nI_clamp, nI_add, pk_mul, pk_sub, zz_bS, zz_b2S, if_true, if_false, Bool.true_eq_false, Bool.false_eq_true, eq_self, ne_eq, not_true_eq_false, not_false_eq_true, false_or, or_false, true_or, or_true, and_true, true_and, and_false, false_and, mI_e, mI_e2, mI_le, mI_le2, mI_lt, mI_lt2, mI_ok, bI_0n, bI_1n, bI_orn, Nat.mul_zero, Nat.zero_add, Nat.add_zero, zl_0, zl_1, zl_2, zl_3, zl_4, zl_5, zl_6, zl_7, zl_8, zl_9, zl_10, zl_12, zl_13, zl_14, zl_15, zl_16, zl_20, zl_32, zl_40, zl_48, zl_57, zl_59, zl_60, zl_63, zl_64, zl_97, zl_99, zl_101, zl_119, zl_120, zl_122, zl_128, zl_136, zl_152, zl_168, zl_184, zl_200, zl_201, zl_202, zl_203, zl_250, zl_255, zl_320, zl_999, zl_1000, h.s, zm_u (show gS G ≤ 32 by omega) hi, e]
        rw [lb_congr (g := fun c => zany (fun i => f i && gU G i p c) (i + 1))]
        · exact ih
        · intro c _
          exact qb1 _ _ _ _ e
      | true =>
        simp (disch := omega) only [↓zl_m1, zz_leT, zz_leF, zz_ltT, zz_ltF, zz_eqT, zz_eqF, zz_okN, zz_okF, nI_clamp, nI_add, pk_mul, pk_sub, zz_bS, zz_b2S, if_true, if_false, Bool.true_eq_false, Bool.false_eq_true, eq_self, ne_eq, not_true_eq_false, not_false_eq_true, false_or, or_false, true_or, or_true, and_true, true_and, and_false, false_and, mI_e, mI_e2, mI_le, mI_le2, mI_lt, mI_lt2, mI_ok, bI_0n, bI_1n, bI_orn, Nat.mul_zero, Nat.zero_add, Nat.add_zero, zl_0, zl_1, zl_2, zl_3, zl_4, zl_5, zl_6, zl_7, zl_8, zl_9, zl_10, zl_12, zl_13, zl_14, zl_15, zl_16, zl_20, zl_32, zl_40, zl_48, zl_57, zl_59, zl_60, zl_63, zl_64, zl_97, zl_99, zl_101, zl_119, zl_120, zl_122, zl_128, zl_136, zl_152, zl_168, zl_184, zl_200, zl_201, zl_202, zl_203, zl_250, zl_255, zl_320, zl_999, zl_1000, h.s, zm_u (show gS G ≤ 32 by omega) hi, e, c_zone h hV (show i < 16 by omega), lb_or]
        rw [lb_congr (g := fun c => zany (fun i => f i && gU G i p c) (i + 1))]
        · exact ih
        · intro c _
          exact qb2 _ _ _ _ e
  unfold F_X3_quietAmong
  rw [c_enoughOf h hV hp, zz_bS, zm_and (by omega), lb_z]
  exact key (gS G) 0 ax_FU (by omega) (by unfold ax_FU; omega)
def gQ (G : zG) (p c : Nat) (f : Nat → Bool) : Bool := !gW G c && !zany (fun i => f i && gU G i p c) (gS G)
theorem c_quietFor (h : zC m g G) (hV : zV G) {p : Nat} (hp : p < 8) : F_X3_quietFor m g (nI p) = some (lb (fun c => gQ G p c (fun _ => true))) := by
  unfold F_X3_quietFor
  rw [c_allSeeds h hV, zz_bS, c_quietAmong h hV hp, zz_bS]
  rfl
end
