/-! THE REFERENCE'S GARDEN: what its asking methods answer -/
section
variable {m : ax_M} {G : zG}
theorem r_isOne (h : zL m G) (hV : zV G) (v : Int32) : F_X11_isOne m v = some (bI (ax_ok v (gP G))) := by
  have := hV.p
  unfold F_X11_isOne
  rw [h.p, zk_wi1 (by omega), zz_bS, bI_oi]
theorem r_isSeed (h : zL m G) (hV : zV G) (v : Int32) : F_X11_isSeed m v = some (bI (ax_ok v (gS G))) := by
  have := hV.s
  unfold F_X11_isSeed
  rw [h.s, zk_wi1 (by omega), zz_bS, bI_oi]
theorem r_isShelf (v : Int32) : F_X11_isShelf v = some (bI (ax_ok v 8)) := by
  unfold F_X11_isShelf
  rw [zl_7, zk_wi (by omega), zz_bS, bI_oi]
theorem r_reachOf (h : zL m G) {i : Nat} (hi : i < 16) (hV : zV G) : F_X11_reachOf m (nI i) = some (nI (zrc (gK G i))) := by
  have hk := hV.k hi
  unfold F_X11_reachOf zrc
  by_cases e1 : gK G i = 1
  · simp (disch := omega) only [↓zl_m1, zz_leT, zz_leF, zz_ltT, zz_ltF, zz_eqT, zz_eqF, zz_okN, zz_okF, nI_clamp, nI_add, pk_mul, pk_sub, zz_bS, zz_b2S, if_true, if_false, Bool.true_eq_false, Bool.false_eq_true, eq_self, ne_eq, not_true_eq_false, not_false_eq_true, false_or, or_false, true_or, or_true, and_true, true_and, and_false, false_and, mI_e, mI_e2, mI_le, mI_le2, mI_lt, mI_lt2, mI_ok, bI_0n, bI_1n, bI_orn, Nat.mul_zero, Nat.zero_add, Nat.add_zero, zl_0, zl_1, zl_2, zl_3, zl_4, zl_5, zl_6, zl_7, zl_8, zl_9, zl_10, zl_12, zl_13, zl_14, zl_15, zl_16, zl_20, zl_32, zl_40, zl_48, zl_57, zl_59, zl_60, zl_63, zl_64, zl_97, zl_99, zl_101, zl_119, zl_120, zl_122, zl_128, zl_136, zl_152, zl_168, zl_184, zl_200, zl_201, zl_202, zl_203, zl_250, zl_255, zl_320, zl_999, zl_1000, h.k hi, e1]
  · by_cases e2 : gK G i = 2
    · simp (disch := omega) only [↓zl_m1, zz_leT, zz_leF, zz_ltT, zz_ltF, zz_eqT, zz_eqF, zz_okN, zz_okF, nI_clamp, nI_add, pk_mul, pk_sub, zz_bS, zz_b2S, if_true, if_false, Bool.true_eq_false, Bool.false_eq_true, eq_self, ne_eq, not_true_eq_false, not_false_eq_true, false_or, or_false, true_or, or_true, and_true, true_and, and_false, false_and, mI_e, mI_e2, mI_le, mI_le2, mI_lt, mI_lt2, mI_ok, bI_0n, bI_1n, bI_orn, Nat.mul_zero, Nat.zero_add, Nat.add_zero, zl_0, zl_1, zl_2, zl_3, zl_4, zl_5, zl_6, zl_7, zl_8, zl_9, zl_10, zl_12, zl_13, zl_14, zl_15, zl_16, zl_20, zl_32, zl_40, zl_48, zl_57, zl_59, zl_60, zl_63, zl_64, zl_97, zl_99, zl_101, zl_119, zl_120, zl_122, zl_128, zl_136, zl_152, zl_168, zl_184, zl_200, zl_201, zl_202, zl_203, zl_250, zl_255, zl_320, zl_999, zl_1000, h.k hi, e2]
      rfl
    · by_cases e3 : gK G i = 3
      · simp (disch := omega) only [↓zl_m1, zz_leT, zz_leF, zz_ltT, zz_ltF, zz_eqT, zz_eqF, zz_okN, zz_okF, nI_clamp, nI_add, pk_mul, pk_sub, zz_bS, zz_b2S, if_true, if_false, Bool.true_eq_false, Bool.false_eq_true, eq_self, ne_eq, not_true_eq_false, not_false_eq_true, false_or, or_false, true_or, or_true, and_true, true_and, and_false, false_and, mI_e, mI_e2, mI_le, mI_le2, mI_lt, mI_lt2, mI_ok, bI_0n, bI_1n, bI_orn, Nat.mul_zero, Nat.zero_add, Nat.add_zero, zl_0, zl_1, zl_2, zl_3, zl_4, zl_5, zl_6, zl_7, zl_8, zl_9, zl_10, zl_12, zl_13, zl_14, zl_15, zl_16, zl_20, zl_32, zl_40, zl_48, zl_57, zl_59, zl_60, zl_63, zl_64, zl_97, zl_99, zl_101, zl_119, zl_120, zl_122, zl_128, zl_136, zl_152, zl_168, zl_184, zl_200, zl_201, zl_202, zl_203, zl_250, zl_255, zl_320, zl_999, zl_1000, h.k hi, e3]
        rfl
      · by_cases e4 : gK G i = 4
        · simp (disch := omega) only [↓zl_m1, zz_leT, zz_leF, zz_ltT, zz_ltF, zz_eqT, zz_eqF, zz_okN, zz_okF, nI_clamp, nI_add, pk_mul, pk_sub, zz_bS, zz_b2S, if_true, if_false, Bool.true_eq_false, Bool.false_eq_true, eq_self, ne_eq, not_true_eq_false, not_false_eq_true, false_or, or_false, true_or, or_true, and_true, true_and, and_false, false_and, mI_e, mI_e2, mI_le, mI_le2, mI_lt, mI_lt2, mI_ok, bI_0n, bI_1n, bI_orn, Nat.mul_zero, Nat.zero_add, Nat.add_zero, zl_0, zl_1, zl_2, zl_3, zl_4, zl_5, zl_6, zl_7, zl_8, zl_9, zl_10, zl_12, zl_13, zl_14, zl_15, zl_16, zl_20, zl_32, zl_40, zl_48, zl_57, zl_59, zl_60, zl_63, zl_64, zl_97, zl_99, zl_101, zl_119, zl_120, zl_122, zl_128, zl_136, zl_152, zl_168, zl_184, zl_200, zl_201, zl_202, zl_203, zl_250, zl_255, zl_320, zl_999, zl_1000, h.k hi, e4]
          rfl
        · simp (disch := omega) only [↓zl_m1, zz_leT, zz_leF, zz_ltT, zz_ltF, zz_eqT, zz_eqF, zz_okN, zz_okF, nI_clamp, nI_add, pk_mul, pk_sub, zz_bS, zz_b2S, if_true, if_false, Bool.true_eq_false, Bool.false_eq_true, eq_self, ne_eq, not_true_eq_false, not_false_eq_true, false_or, or_false, true_or, or_true, and_true, true_and, and_false, false_and, mI_e, mI_e2, mI_le, mI_le2, mI_lt, mI_lt2, mI_ok, bI_0n, bI_1n, bI_orn, Nat.mul_zero, Nat.zero_add, Nat.add_zero, zl_0, zl_1, zl_2, zl_3, zl_4, zl_5, zl_6, zl_7, zl_8, zl_9, zl_10, zl_12, zl_13, zl_14, zl_15, zl_16, zl_20, zl_32, zl_40, zl_48, zl_57, zl_59, zl_60, zl_63, zl_64, zl_97, zl_99, zl_101, zl_119, zl_120, zl_122, zl_128, zl_136, zl_152, zl_168, zl_184, zl_200, zl_201, zl_202, zl_203, zl_250, zl_255, zl_320, zl_999, zl_1000, h.k hi, e1, e2, e3, e4]
theorem r_allOwed (h : zL m G) (hV : zV G) {p : Nat} (hp : p < 8) : F_X11_allOwed m (nI p) = some (nI (gOw G p)) := by
  have hP := hV.p
  have key : ∀ k i n, i + k = gP G → k < n → F_X11_allOwed_L4 n m (nI p) (nI (zs (gD G p) i)) (nI i) = some (nI (zs (gD G p) (gP G))) := by
    refine zz_loop (gP G) (fun n => ?_) (fun n i hi ih => ?_)
    · rw [F_X11_allOwed_L4, h.p, if_pos (Int32.le_refl _)]
    · rw [F_X11_allOwed_L4]
      simp (disch := omega) only [↓zl_m1, zz_leT, zz_leF, zz_ltT, zz_ltF, zz_eqT, zz_eqF, zz_okN, zz_okF, nI_clamp, nI_add, pk_mul, pk_sub, zz_bS, zz_b2S, if_true, if_false, Bool.true_eq_false, Bool.false_eq_true, eq_self, ne_eq, not_true_eq_false, not_false_eq_true, false_or, or_false, true_or, or_true, and_true, true_and, and_false, false_and, mI_e, mI_e2, mI_le, mI_le2, mI_lt, mI_lt2, mI_ok, bI_0n, bI_1n, bI_orn, Nat.mul_zero, Nat.zero_add, Nat.add_zero, zl_0, zl_1, zl_2, zl_3, zl_4, zl_5, zl_6, zl_7, zl_8, zl_9, zl_10, zl_12, zl_13, zl_14, zl_15, zl_16, zl_20, zl_32, zl_40, zl_48, zl_57, zl_59, zl_60, zl_63, zl_64, zl_97, zl_99, zl_101, zl_119, zl_120, zl_122, zl_128, zl_136, zl_152, zl_168, zl_184, zl_200, zl_201, zl_202, zl_203, zl_250, zl_255, zl_320, zl_999, zl_1000, h.p, h.d hp (show i < 8 by omega)]
      exact ih
  have k2 := key (gP G) 0 ax_FU (by omega) (by unfold ax_FU; omega)
  rw [gOw_p hV hp] at k2
  exact k2
theorem r_owedTo (h : zL m G) (hV : zV G) {p : Nat} (hp : p < 8) : F_X11_owedTo m (nI p) = some (nI (gTo G p)) := by
  have hP := hV.p
  have key : ∀ k i n, i + k = gP G → k < n → F_X11_owedTo_L4 n m (nI p) (nI (zs (fun y => gD G y p) i)) (nI i) = some (nI (zs (fun y => gD G y p) (gP G))) := by
    refine zz_loop (gP G) (fun n => ?_) (fun n i hi ih => ?_)
    · rw [F_X11_owedTo_L4, h.p, if_pos (Int32.le_refl _)]
    · rw [F_X11_owedTo_L4]
      simp (disch := omega) only [↓zl_m1, zz_leT, zz_leF, zz_ltT, zz_ltF, zz_eqT, zz_eqF, zz_okN, zz_okF, nI_clamp, nI_add, pk_mul, pk_sub, zz_bS, zz_b2S, if_true, if_false, Bool.true_eq_false, Bool.false_eq_true, eq_self, ne_eq, not_true_eq_false, not_false_eq_true, false_or, or_false, true_or, or_true, and_true, true_and, and_false, false_and, mI_e, mI_e2, mI_le, mI_le2, mI_lt, mI_lt2, mI_ok, bI_0n, bI_1n, bI_orn, Nat.mul_zero, Nat.zero_add, Nat.add_zero, zl_0, zl_1, zl_2, zl_3, zl_4, zl_5, zl_6, zl_7, zl_8, zl_9, zl_10, zl_12, zl_13, zl_14, zl_15, zl_16, zl_20, zl_32, zl_40, zl_48, zl_57, zl_59, zl_60, zl_63, zl_64, zl_97, zl_99, zl_101, zl_119, zl_120, zl_122, zl_128, zl_136, zl_152, zl_168, zl_184, zl_200, zl_201, zl_202, zl_203, zl_250, zl_255, zl_320, zl_999, zl_1000, h.p, h.d (show i < 8 by omega) hp]
      exact ih
  have k2 := key (gP G) 0 ax_FU (by omega) (by unfold ax_FU; omega)
  rw [gTo_p hV hp] at k2
  exact k2
theorem r_netOf (h : zL m G) (hV : zV G) {p : Nat} (hp : p < 8) : F_X11_netOf m (nI p) = some (nI (gTo G p) - nI (gOw G p)) := by
  unfold F_X11_netOf
  rw [r_owedTo h hV hp, zz_bS, r_allOwed h hV hp, zz_bS]
theorem r_owing (h : zL m G) (hV : zV G) : F_X11_owing m = some (nI (zc (fun p => decide (0 < gOw G p)) (gP G))) := by
  have hp := hV.p
  have key : ∀ k i n, i + k = gP G → k < n → F_X11_owing_L4 n m (nI (zc (fun p => decide (0 < gOw G p)) i)) (nI i) = some (nI (zc (fun p => decide (0 < gOw G p)) (gP G))) := by
    refine zz_loop (gP G) (fun n => ?_) (fun n i hi ih => ?_)
    · rw [F_X11_owing_L4, h.p, if_pos (Int32.le_refl _)]
    · rw [F_X11_owing_L4]
      have hl := gOw_le hV (show i < 8 by omega)
      by_cases e : 0 < gOw G i
      · simp (disch := omega) only [↓zl_m1, zz_leT, zz_leF, zz_ltT, zz_ltF, zz_eqT, zz_eqF, zz_okN, zz_okF, nI_clamp, nI_add, pk_mul, pk_sub, zz_bS, zz_b2S, if_true, if_false, Bool.true_eq_false, Bool.false_eq_true, eq_self, ne_eq, not_true_eq_false, not_false_eq_true, false_or, or_false, true_or, or_true, and_true, true_and, and_false, false_and, mI_e, mI_e2, mI_le, mI_le2, mI_lt, mI_lt2, mI_ok, bI_0n, bI_1n, bI_orn, Nat.mul_zero, Nat.zero_add, Nat.add_zero, zl_0, zl_1, zl_2, zl_3, zl_4, zl_5, zl_6, zl_7, zl_8, zl_9, zl_10, zl_12, zl_13, zl_14, zl_15, zl_16, zl_20, zl_32, zl_40, zl_48, zl_57, zl_59, zl_60, zl_63, zl_64, zl_97, zl_99, zl_101, zl_119, zl_120, zl_122, zl_128, zl_136, zl_152, zl_168, zl_184, zl_200, zl_201, zl_202, zl_203, zl_250, zl_255, zl_320, zl_999, zl_1000, h.p, r_allOwed h hV (show i < 8 by omega)]
        rw [zc_s (f := fun p => decide (0 < gOw G p)) (decide_eq_true e)] at ih
        exact ih
      · simp (disch := omega) only [↓zl_m1, zz_leT, zz_leF, zz_ltT, zz_ltF, zz_eqT, zz_eqF, zz_okN, zz_okF, nI_clamp, nI_add, pk_mul, pk_sub, zz_bS, zz_b2S, if_true, if_false, Bool.true_eq_false, Bool.false_eq_true, eq_self, ne_eq, not_true_eq_false, not_false_eq_true, false_or, or_false, true_or, or_true, and_true, true_and, and_false, false_and, mI_e, mI_e2, mI_le, mI_le2, mI_lt, mI_lt2, mI_ok, bI_0n, bI_1n, bI_orn, Nat.mul_zero, Nat.zero_add, Nat.add_zero, zl_0, zl_1, zl_2, zl_3, zl_4, zl_5, zl_6, zl_7, zl_8, zl_9, zl_10, zl_12, zl_13, zl_14, zl_15, zl_16, zl_20, zl_32, zl_40, zl_48, zl_57, zl_59, zl_60, zl_63, zl_64, zl_97, zl_99, zl_101, zl_119, zl_120, zl_122, zl_128, zl_136, zl_152, zl_168, zl_184, zl_200, zl_201, zl_202, zl_203, zl_250, zl_255, zl_320, zl_999, zl_1000, h.p, r_allOwed h hV (show i < 8 by omega)]
        rw [zc_n (f := fun p => decide (0 < gOw G p)) (decide_eq_false e)] at ih
        exact ih
  exact key (gP G) 0 ax_FU (by omega) (by unfold ax_FU; omega)
theorem r_takes (h : zL m G) (hV : zV G) {i : Nat} (hi : i < 16) : F_X11_takes m (nI i) = some (nI (gPr G i)) := by
  have hk := hV.k hi
  have ha := hV.a hi
  unfold F_X11_takes gPr
  by_cases e : gK G i = 3
  · simp (disch := omega) only [↓zl_m1, zz_leT, zz_leF, zz_ltT, zz_ltF, zz_eqT, zz_eqF, zz_okN, zz_okF, nI_clamp, nI_add, pk_mul, pk_sub, zz_bS, zz_b2S, if_true, if_false, Bool.true_eq_false, Bool.false_eq_true, eq_self, ne_eq, not_true_eq_false, not_false_eq_true, false_or, or_false, true_or, or_true, and_true, true_and, and_false, false_and, mI_e, mI_e2, mI_le, mI_le2, mI_lt, mI_lt2, mI_ok, bI_0n, bI_1n, bI_orn, Nat.mul_zero, Nat.zero_add, Nat.add_zero, zl_0, zl_1, zl_2, zl_3, zl_4, zl_5, zl_6, zl_7, zl_8, zl_9, zl_10, zl_12, zl_13, zl_14, zl_15, zl_16, zl_20, zl_32, zl_40, zl_48, zl_57, zl_59, zl_60, zl_63, zl_64, zl_97, zl_99, zl_101, zl_119, zl_120, zl_122, zl_128, zl_136, zl_152, zl_168, zl_184, zl_200, zl_201, zl_202, zl_203, zl_250, zl_255, zl_320, zl_999, zl_1000, h.k hi, h.a hi, e, zz_max]
  · by_cases e2 : gK G i = 5
    · simp (disch := omega) only [↓zl_m1, zz_leT, zz_leF, zz_ltT, zz_ltF, zz_eqT, zz_eqF, zz_okN, zz_okF, nI_clamp, nI_add, pk_mul, pk_sub, zz_bS, zz_b2S, if_true, if_false, Bool.true_eq_false, Bool.false_eq_true, eq_self, ne_eq, not_true_eq_false, not_false_eq_true, false_or, or_false, true_or, or_true, and_true, true_and, and_false, false_and, mI_e, mI_e2, mI_le, mI_le2, mI_lt, mI_lt2, mI_ok, bI_0n, bI_1n, bI_orn, Nat.mul_zero, Nat.zero_add, Nat.add_zero, zl_0, zl_1, zl_2, zl_3, zl_4, zl_5, zl_6, zl_7, zl_8, zl_9, zl_10, zl_12, zl_13, zl_14, zl_15, zl_16, zl_20, zl_32, zl_40, zl_48, zl_57, zl_59, zl_60, zl_63, zl_64, zl_97, zl_99, zl_101, zl_119, zl_120, zl_122, zl_128, zl_136, zl_152, zl_168, zl_184, zl_200, zl_201, zl_202, zl_203, zl_250, zl_255, zl_320, zl_999, zl_1000, h.k hi, h.a hi, e2, zz_max]
      rfl
    · simp (disch := omega) only [↓zl_m1, zz_leT, zz_leF, zz_ltT, zz_ltF, zz_eqT, zz_eqF, zz_okN, zz_okF, nI_clamp, nI_add, pk_mul, pk_sub, zz_bS, zz_b2S, if_true, if_false, Bool.true_eq_false, Bool.false_eq_true, eq_self, ne_eq, not_true_eq_false, not_false_eq_true, false_or, or_false, true_or, or_true, and_true, true_and, and_false, false_and, mI_e, mI_e2, mI_le, mI_le2, mI_lt, mI_lt2, mI_ok, bI_0n, bI_1n, bI_orn, Nat.mul_zero, Nat.zero_add, Nat.add_zero, zl_0, zl_1, zl_2, zl_3, zl_4, zl_5, zl_6, zl_7, zl_8, zl_9, zl_10, zl_12, zl_13, zl_14, zl_15, zl_16, zl_20, zl_32, zl_40, zl_48, zl_57, zl_59, zl_60, zl_63, zl_64, zl_97, zl_99, zl_101, zl_119, zl_120, zl_122, zl_128, zl_136, zl_152, zl_168, zl_184, zl_200, zl_201, zl_202, zl_203, zl_250, zl_255, zl_320, zl_999, zl_1000, h.k hi, h.a hi, e, e2, zz_max]
theorem r_somebodyAt (h : zL m G) (hV : zV G) {c : Nat} (hc : c < 64) : F_X11_somebodyAt m (nI c) = some (bI (zany (fun p => decide (gO G p = c)) (gP G))) := by
  have hp := hV.p
  have key : ∀ k i n, i + k = gP G → k < n → (zany (fun p => decide (gO G p = c)) i = false → F_X11_somebodyAt_L2 n m (nI c) (nI i) = some (bI (zany (fun p => decide (gO G p = c)) (gP G)))) := by
    refine zz_loop (gP G) (fun n => ?_) (fun n i hi ih => ?_)
    · intro h0
      rw [F_X11_somebodyAt_L2, h.p, if_pos (Int32.le_refl _), h0]; rfl
    · intro h0
      have ho := hV.o (show i < 8 by omega)
      rw [F_X11_somebodyAt_L2]
      by_cases e : gO G i = c
      · simp (disch := omega) only [↓zl_m1, zz_leT, zz_leF, zz_ltT, zz_ltF, zz_eqT, zz_eqF, zz_okN, zz_okF, nI_clamp, nI_add, pk_mul, pk_sub, zz_bS, zz_b2S, if_true, if_false, Bool.true_eq_false, Bool.false_eq_true, eq_self, ne_eq, not_true_eq_false, not_false_eq_true, false_or, or_false, true_or, or_true, and_true, true_and, and_false, false_and, mI_e, mI_e2, mI_le, mI_le2, mI_lt, mI_lt2, mI_ok, bI_0n, bI_1n, bI_orn, Nat.mul_zero, Nat.zero_add, Nat.add_zero, zl_0, zl_1, zl_2, zl_3, zl_4, zl_5, zl_6, zl_7, zl_8, zl_9, zl_10, zl_12, zl_13, zl_14, zl_15, zl_16, zl_20, zl_32, zl_40, zl_48, zl_57, zl_59, zl_60, zl_63, zl_64, zl_97, zl_99, zl_101, zl_119, zl_120, zl_122, zl_128, zl_136, zl_152, zl_168, zl_184, zl_200, zl_201, zl_202, zl_203, zl_250, zl_255, zl_320, zl_999, zl_1000, h.p, h.o (show i < 8 by omega), e]
        rw [zany_t.mpr ⟨i, hi, decide_eq_true e⟩]
        rfl
      · simp (disch := omega) only [↓zl_m1, zz_leT, zz_leF, zz_ltT, zz_ltF, zz_eqT, zz_eqF, zz_okN, zz_okF, nI_clamp, nI_add, pk_mul, pk_sub, zz_bS, zz_b2S, if_true, if_false, Bool.true_eq_false, Bool.false_eq_true, eq_self, ne_eq, not_true_eq_false, not_false_eq_true, false_or, or_false, true_or, or_true, and_true, true_and, and_false, false_and, mI_e, mI_e2, mI_le, mI_le2, mI_lt, mI_lt2, mI_ok, bI_0n, bI_1n, bI_orn, Nat.mul_zero, Nat.zero_add, Nat.add_zero, zl_0, zl_1, zl_2, zl_3, zl_4, zl_5, zl_6, zl_7, zl_8, zl_9, zl_10, zl_12, zl_13, zl_14, zl_15, zl_16, zl_20, zl_32, zl_40, zl_48, zl_57, zl_59, zl_60, zl_63, zl_64, zl_97, zl_99, zl_101, zl_119, zl_120, zl_122, zl_128, zl_136, zl_152, zl_168, zl_184, zl_200, zl_201, zl_202, zl_203, zl_250, zl_255, zl_320, zl_999, zl_1000, h.p, h.o (show i < 8 by omega), e]
        exact ih (by rw [zany, h0, decide_eq_false e]; rfl)
  exact key (gP G) 0 ax_FU (by omega) (by unfold ax_FU; omega) rfl
theorem r_abs {a b : Nat} (ha : a < 2 ^ 30) (hb : b < 2 ^ 30) : ax_abs (nI a - nI b) = nI (max (a - b) (b - a)) := by
  unfold ax_abs
  by_cases h : b ≤ a
  · rw [pk_sub h, if_pos (nI_pos' (by omega)), Nat.max_eq_left (by omega)]
  · rw [if_neg]
    · rw [Nat.max_eq_right (by omega), ← pk_sub (show a ≤ b by omega)]
      apply Int32.toInt_inj.mp
      rw [show (0 : Int32) - (nI a - nI b) = nI b - nI a by simp [Int32.sub_eq_add_neg, Int32.neg_add, Int32.add_comm]]
    · rw [Int32.le_iff_toInt_le, pk_sub_toInt ha hb]
      show ¬ (0 : Int) ≤ _
      omega
theorem r_div {a : Nat} (ha : a < 2 ^ 31) : nI a / nI 8 = nI (a / 8) := pk_div ha (by omega) (by omega)
theorem r_rem {a : Nat} (ha : a < 2 ^ 31) : ax_irem (nI a) (nI 8) = nI (a % 8) := pk_rem ha (by omega) (by omega)
theorem r_far {c d : Nat} (hc : c < 64) (hd : d < 64) : F_X11_far (nI c) (nI d) = some (nI (zfar c d)) := by
  unfold F_X11_far zfar
  rw [zl_8, r_div (by omega), r_div (by omega), r_rem (by omega), r_rem (by omega), r_abs (by omega) (by omega), r_abs (by omega) (by omega), zz_max _ _ (by omega) (by omega)]
theorem zfar_le {c d : Nat} (hc : c < 64) (hd : d < 64) : zfar c d ≤ 7 := by unfold zfar; omega
theorem r_owesEnough (h : zL m G) (hV : zV G) {p i : Nat} (hp : p < 8) (hi : i < 16) : F_X11_owesEnough m (nI p) (nI i) = some (bI (gE G p i)) := by
  have hk := hV.k hi
  have hr := hV.r hi
  have hd := hV.d hp hr
  have hb := gPr_b hV hi
  have hl := gOw_le hV hp
  unfold F_X11_owesEnough gE
  by_cases e : gK G i = 4
  · by_cases e2 : 0 < gOw G p
    · simp (disch := omega) only [↓zl_m1, zz_leT, zz_leF, zz_ltT, zz_ltF, zz_eqT, zz_eqF, zz_okN, zz_okF, nI_clamp, nI_add, pk_mul, pk_sub, zz_bS, zz_b2S, if_true, if_false, Bool.true_eq_false, Bool.false_eq_true, eq_self, ne_eq, not_true_eq_false, not_false_eq_true, false_or, or_false, true_or, or_true, and_true, true_and, and_false, false_and, mI_e, mI_e2, mI_le, mI_le2, mI_lt, mI_lt2, mI_ok, bI_0n, bI_1n, bI_orn, Nat.mul_zero, Nat.zero_add, Nat.add_zero, zl_0, zl_1, zl_2, zl_3, zl_4, zl_5, zl_6, zl_7, zl_8, zl_9, zl_10, zl_12, zl_13, zl_14, zl_15, zl_16, zl_20, zl_32, zl_40, zl_48, zl_57, zl_59, zl_60, zl_63, zl_64, zl_97, zl_99, zl_101, zl_119, zl_120, zl_122, zl_128, zl_136, zl_152, zl_168, zl_184, zl_200, zl_201, zl_202, zl_203, zl_250, zl_255, zl_320, zl_999, zl_1000, h.k hi, e, r_allOwed h hV hp, e2, decide_eq_true e2]
      rfl
    · simp (disch := omega) only [↓zl_m1, zz_leT, zz_leF, zz_ltT, zz_ltF, zz_eqT, zz_eqF, zz_okN, zz_okF, nI_clamp, nI_add, pk_mul, pk_sub, zz_bS, zz_b2S, if_true, if_false, Bool.true_eq_false, Bool.false_eq_true, eq_self, ne_eq, not_true_eq_false, not_false_eq_true, false_or, or_false, true_or, or_true, and_true, true_and, and_false, false_and, mI_e, mI_e2, mI_le, mI_le2, mI_lt, mI_lt2, mI_ok, bI_0n, bI_1n, bI_orn, Nat.mul_zero, Nat.zero_add, Nat.add_zero, zl_0, zl_1, zl_2, zl_3, zl_4, zl_5, zl_6, zl_7, zl_8, zl_9, zl_10, zl_12, zl_13, zl_14, zl_15, zl_16, zl_20, zl_32, zl_40, zl_48, zl_57, zl_59, zl_60, zl_63, zl_64, zl_97, zl_99, zl_101, zl_119, zl_120, zl_122, zl_128, zl_136, zl_152, zl_168, zl_184, zl_200, zl_201, zl_202, zl_203, zl_250, zl_255, zl_320, zl_999, zl_1000, h.k hi, e, r_allOwed h hV hp, e2, decide_eq_false e2]
      rfl
  · by_cases e2 : gPr G i ≤ gD G p (gR G i)
    · simp (disch := omega) only [↓zl_m1, zz_leT, zz_leF, zz_ltT, zz_ltF, zz_eqT, zz_eqF, zz_okN, zz_okF, nI_clamp, nI_add, pk_mul, pk_sub, zz_bS, zz_b2S, if_true, if_false, Bool.true_eq_false, Bool.false_eq_true, eq_self, ne_eq, not_true_eq_false, not_false_eq_true, false_or, or_false, true_or, or_true, and_true, true_and, and_false, false_and, mI_e, mI_e2, mI_le, mI_le2, mI_lt, mI_lt2, mI_ok, bI_0n, bI_1n, bI_orn, Nat.mul_zero, Nat.zero_add, Nat.add_zero, zl_0, zl_1, zl_2, zl_3, zl_4, zl_5, zl_6, zl_7, zl_8, zl_9, zl_10, zl_12, zl_13, zl_14, zl_15, zl_16, zl_20, zl_32, zl_40, zl_48, zl_57, zl_59, zl_60, zl_63, zl_64, zl_97, zl_99, zl_101, zl_119, zl_120, zl_122, zl_128, zl_136, zl_152, zl_168, zl_184, zl_200, zl_201, zl_202, zl_203, zl_250, zl_255, zl_320, zl_999, zl_1000, h.k hi, h.r hi, e, r_takes h hV hi, h.d hp hr, e2, decide_eq_true e2]
      rfl
    · simp (disch := omega) only [↓zl_m1, zz_leT, zz_leF, zz_ltT, zz_ltF, zz_eqT, zz_eqF, zz_okN, zz_okF, nI_clamp, nI_add, pk_mul, pk_sub, zz_bS, zz_b2S, if_true, if_false, Bool.true_eq_false, Bool.false_eq_true, eq_self, ne_eq, not_true_eq_false, not_false_eq_true, false_or, or_false, true_or, or_true, and_true, true_and, and_false, false_and, mI_e, mI_e2, mI_le, mI_le2, mI_lt, mI_lt2, mI_ok, bI_0n, bI_1n, bI_orn, Nat.mul_zero, Nat.zero_add, Nat.add_zero, zl_0, zl_1, zl_2, zl_3, zl_4, zl_5, zl_6, zl_7, zl_8, zl_9, zl_10, zl_12, zl_13, zl_14, zl_15, zl_16, zl_20, zl_32, zl_40, zl_48, zl_57, zl_59, zl_60, zl_63, zl_64, zl_97, zl_99, zl_101, zl_119, zl_120, zl_122, zl_128, zl_136, zl_152, zl_168, zl_184, zl_200, zl_201, zl_202, zl_203, zl_250, zl_255, zl_320, zl_999, zl_1000, h.k hi, h.r hi, e, r_takes h hV hi, h.d hp hr, e2, decide_eq_false e2]
      rfl
theorem r_isUp (h : zL m G) (hV : zV G) {i p c : Nat} (hi : i < 16) (hp : p < 8) (hc : c < 64) : F_X11_isUp m (nI i) (nI p) (nI c) = some (bI (gU G i p c)) := by
  have hf := zfar_le hc (hV.c hi)
  have hr := zrc_le (gK G i)
  unfold F_X11_isUp gU gN
  by_cases e : zfar c (gC G i) ≤ zrc (gK G i)
  · simp (disch := omega) only [↓zl_m1, zz_leT, zz_leF, zz_ltT, zz_ltF, zz_eqT, zz_eqF, zz_okN, zz_okF, nI_clamp, nI_add, pk_mul, pk_sub, zz_bS, zz_b2S, if_true, if_false, Bool.true_eq_false, Bool.false_eq_true, eq_self, ne_eq, not_true_eq_false, not_false_eq_true, false_or, or_false, true_or, or_true, and_true, true_and, and_false, false_and, mI_e, mI_e2, mI_le, mI_le2, mI_lt, mI_lt2, mI_ok, bI_0n, bI_1n, bI_orn, Nat.mul_zero, Nat.zero_add, Nat.add_zero, zl_0, zl_1, zl_2, zl_3, zl_4, zl_5, zl_6, zl_7, zl_8, zl_9, zl_10, zl_12, zl_13, zl_14, zl_15, zl_16, zl_20, zl_32, zl_40, zl_48, zl_57, zl_59, zl_60, zl_63, zl_64, zl_97, zl_99, zl_101, zl_119, zl_120, zl_122, zl_128, zl_136, zl_152, zl_168, zl_184, zl_200, zl_201, zl_202, zl_203, zl_250, zl_255, zl_320, zl_999, zl_1000, h.c hi, r_far hc (hV.c hi), r_reachOf h hi hV, r_owesEnough h hV hp hi, decide_eq_true e]
    cases gE G p i <;> rfl
  · simp (disch := omega) only [↓zl_m1, zz_leT, zz_leF, zz_ltT, zz_ltF, zz_eqT, zz_eqF, zz_okN, zz_okF, nI_clamp, nI_add, pk_mul, pk_sub, zz_bS, zz_b2S, if_true, if_false, Bool.true_eq_false, Bool.false_eq_true, eq_self, ne_eq, not_true_eq_false, not_false_eq_true, false_or, or_false, true_or, or_true, and_true, true_and, and_false, false_and, mI_e, mI_e2, mI_le, mI_le2, mI_lt, mI_lt2, mI_ok, bI_0n, bI_1n, bI_orn, Nat.mul_zero, Nat.zero_add, Nat.add_zero, zl_0, zl_1, zl_2, zl_3, zl_4, zl_5, zl_6, zl_7, zl_8, zl_9, zl_10, zl_12, zl_13, zl_14, zl_15, zl_16, zl_20, zl_32, zl_40, zl_48, zl_57, zl_59, zl_60, zl_63, zl_64, zl_97, zl_99, zl_101, zl_119, zl_120, zl_122, zl_128, zl_136, zl_152, zl_168, zl_184, zl_200, zl_201, zl_202, zl_203, zl_250, zl_255, zl_320, zl_999, zl_1000, h.c hi, r_far hc (hV.c hi), r_reachOf h hi hV, decide_eq_false e]
    rfl
theorem r_byOf (h : zL m G) (hV : zV G) {i : Nat} (hi : i < 16) : F_X11_byOf m (nI i) = some (zm (gUp G i) (gP G)) := by
  have hp := hV.p
  have key : ∀ k p n, p + k = gP G → k < n → F_X11_byOf_L4 n m (nI i) (zm (gUp G i) p) (nI p) = some (zm (gUp G i) (gP G)) := by
    refine zz_loop (gP G) (fun n => ?_) (fun n p hi2 ih => ?_)
    · rw [F_X11_byOf_L4, h.p, if_pos (Int32.le_refl _)]
    · have ho := hV.o (show p < 8 by omega)
      rw [F_X11_byOf_L4]
      simp (disch := omega) only [↓zl_m1, zz_leT, zz_leF, zz_ltT, zz_ltF, zz_eqT, zz_eqF, zz_okN, zz_okF, nI_clamp, nI_add, pk_mul, pk_sub, zz_bS, zz_b2S, if_true, if_false, Bool.true_eq_false, Bool.false_eq_true, eq_self, ne_eq, not_true_eq_false, not_false_eq_true, false_or, or_false, true_or, or_true, and_true, true_and, and_false, false_and, mI_e, mI_e2, mI_le, mI_le2, mI_lt, mI_lt2, mI_ok, bI_0n, bI_1n, bI_orn, Nat.mul_zero, Nat.zero_add, Nat.add_zero, zl_0, zl_1, zl_2, zl_3, zl_4, zl_5, zl_6, zl_7, zl_8, zl_9, zl_10, zl_12, zl_13, zl_14, zl_15, zl_16, zl_20, zl_32, zl_40, zl_48, zl_57, zl_59, zl_60, zl_63, zl_64, zl_97, zl_99, zl_101, zl_119, zl_120, zl_122, zl_128, zl_136, zl_152, zl_168, zl_184, zl_200, zl_201, zl_202, zl_203, zl_250, zl_255, zl_320, zl_999, zl_1000, h.p, h.o (show p < 8 by omega), r_isUp h hV hi (show p < 8 by omega) ho]
      cases e : gU G i p (gO G p) with
      | false => rw [if_pos rfl]; rw [zm_n (f := gUp G i) e] at ih; exact ih
      | true => rw [if_neg (by decide)]; rw [← zm_s (f := gUp G i) e] at ih; exact ih
  exact key (gP G) 0 ax_FU (by omega) (by unfold ax_FU; omega)
theorem r_upOf (h : zL m G) (hV : zV G) {p : Nat} (hp : p < 8) : F_X11_upOf m (nI p) = some (zm (fun i => gUp G i p) (gS G)) := by
  have hs := hV.s
  have key : ∀ k i n, i + k = gS G → k < n → F_X11_upOf_L4 n m (nI p) (zm (fun i => gUp G i p) i) (nI i) = some (zm (fun i => gUp G i p) (gS G)) := by
    refine zz_loop (gS G) (fun n => ?_) (fun n i hi ih => ?_)
    · rw [F_X11_upOf_L4, h.s, if_pos (Int32.le_refl _)]
    · have ho := hV.o hp
      rw [F_X11_upOf_L4]
      simp (disch := omega) only [↓zl_m1, zz_leT, zz_leF, zz_ltT, zz_ltF, zz_eqT, zz_eqF, zz_okN, zz_okF, nI_clamp, nI_add, pk_mul, pk_sub, zz_bS, zz_b2S, if_true, if_false, Bool.true_eq_false, Bool.false_eq_true, eq_self, ne_eq, not_true_eq_false, not_false_eq_true, false_or, or_false, true_or, or_true, and_true, true_and, and_false, false_and, mI_e, mI_e2, mI_le, mI_le2, mI_lt, mI_lt2, mI_ok, bI_0n, bI_1n, bI_orn, Nat.mul_zero, Nat.zero_add, Nat.add_zero, zl_0, zl_1, zl_2, zl_3, zl_4, zl_5, zl_6, zl_7, zl_8, zl_9, zl_10, zl_12, zl_13, zl_14, zl_15, zl_16, zl_20, zl_32, zl_40, zl_48, zl_57, zl_59, zl_60, zl_63, zl_64, zl_97, zl_99, zl_101, zl_119, zl_120, zl_122, zl_128, zl_136, zl_152, zl_168, zl_184, zl_200, zl_201, zl_202, zl_203, zl_250, zl_255, zl_320, zl_999, zl_1000, h.s, h.o hp, r_isUp h hV (show i < 16 by omega) hp ho]
      cases e : gU G i p (gO G p) with
      | false => rw [if_pos rfl]; rw [zm_n (f := fun i => gUp G i p) e] at ih; exact ih
      | true => rw [if_neg (by decide)]; rw [← zm_s (f := fun i => gUp G i p) e] at ih; exact ih
  exact key (gS G) 0 ax_FU (by omega) (by unfold ax_FU; omega)
theorem r_upAll (h : zL m G) (hV : zV G) : F_X11_upOf m mI = some (zm (fun i => zany (gUp G i) (gP G)) (gS G)) := by
  have hs := hV.s
  have hp := hV.p
  have key : ∀ k i n, i + k = gS G → k < n → F_X11_upOf_L4 n m mI (zm (fun i => zany (gUp G i) (gP G)) i) (nI i) = some (zm (fun i => zany (gUp G i) (gP G)) (gS G)) := by
    refine zz_loop (gS G) (fun n => ?_) (fun n i hi ih => ?_)
    · rw [F_X11_upOf_L4, h.s, if_pos (Int32.le_refl _)]
    · rw [F_X11_upOf_L4]
      simp (disch := omega) only [↓zl_m1, zz_leT, zz_leF, zz_ltT, zz_ltF, zz_eqT, zz_eqF, zz_okN, zz_okF, nI_clamp, nI_add, pk_mul, pk_sub, zz_bS, zz_b2S, if_true, if_false, Bool.true_eq_false, Bool.false_eq_true, eq_self, ne_eq, not_true_eq_false, not_false_eq_true, false_or, or_false, true_or, or_true, and_true, true_and, and_false, false_and, mI_e, mI_e2, mI_le, mI_le2, mI_lt, mI_lt2, mI_ok, bI_0n, bI_1n, bI_orn, Nat.mul_zero, Nat.zero_add, Nat.add_zero, zl_0, zl_1, zl_2, zl_3, zl_4, zl_5, zl_6, zl_7, zl_8, zl_9, zl_10, zl_12, zl_13, zl_14, zl_15, zl_16, zl_20, zl_32, zl_40, zl_48, zl_57, zl_59, zl_60, zl_63, zl_64, zl_97, zl_99, zl_101, zl_119, zl_120, zl_122, zl_128, zl_136, zl_152, zl_168, zl_184, zl_200, zl_201, zl_202, zl_203, zl_250, zl_255, zl_320, zl_999, zl_1000, h.s, r_byOf h hV (show i < 16 by omega), zm_any (show gP G ≤ 32 by omega)]
      cases e : zany (gUp G i) (gP G) with
      | false => rw [if_pos rfl]; rw [zm_n (f := fun i => zany (gUp G i) (gP G)) e] at ih; exact ih
      | true => rw [if_neg (by decide)]; rw [← zm_s (f := fun i => zany (gUp G i) (gP G)) e] at ih; exact ih
  exact key (gS G) 0 ax_FU (by omega) (by unfold ax_FU; omega)
theorem r_isQuiet (h : zL m G) (hV : zV G) {p c : Nat} (hp : p < 8) (hc : c < 64) (v : Int32) : F_X11_isQuiet m (nI p) (nI c) v = some (bI (gQ G p c (fun i => decide (nI (gR G i) ≠ v)))) := by
  have hs := hV.s
  have key : ∀ k i n, i + k = gS G → k < n → (zany (fun i => decide (nI (gR G i) ≠ v) && gU G i p c) i = false → F_X11_isQuiet_L9 n m (nI p) (nI c) v (nI i) = some (bI (!zany (fun i => decide (nI (gR G i) ≠ v) && gU G i p c) (gS G)))) := by
    refine zz_loop (gS G) (fun n => ?_) (fun n i hi ih => ?_)
    · intro h0
      rw [F_X11_isQuiet_L9, h.s, if_pos (Int32.le_refl _), h0]; rfl
    · intro h0
      rw [F_X11_isQuiet_L9]
      simp (disch := omega) only [↓zl_m1, zz_leT, zz_leF, zz_ltT, zz_ltF, zz_eqT, zz_eqF, zz_okN, zz_okF, nI_clamp, nI_add, pk_mul, pk_sub, zz_bS, zz_b2S, if_true, if_false, Bool.true_eq_false, Bool.false_eq_true, eq_self, ne_eq, not_true_eq_false, not_false_eq_true, false_or, or_false, true_or, or_true, and_true, true_and, and_false, false_and, mI_e, mI_e2, mI_le, mI_le2, mI_lt, mI_lt2, mI_ok, bI_0n, bI_1n, bI_orn, Nat.mul_zero, Nat.zero_add, Nat.add_zero, zl_0, zl_1, zl_2, zl_3, zl_4, zl_5, zl_6, zl_7, zl_8, zl_9, zl_10, zl_12, zl_13, zl_14, zl_15, zl_16, zl_20, zl_32, zl_40, zl_48, zl_57, zl_59, zl_60, zl_63, zl_64, zl_97, zl_99, zl_101, zl_119, zl_120, zl_122, zl_128, zl_136, zl_152, zl_168, zl_184, zl_200, zl_201, zl_202, zl_203, zl_250, zl_255, zl_320, zl_999, zl_1000, h.s, h.r (show i < 16 by omega), r_isUp h hV (show i < 16 by omega) hp hc]
      by_cases e : nI (gR G i) = v
      · rw [if_pos e]
        exact ih (by rw [zany, h0]; show (false || (decide (nI (gR G i) ≠ v) && gU G i p c)) = false; rw [decide_eq_false (fun z => z e)]; rfl)
      · rw [if_neg e]
        cases e2 : gU G i p c with
        | false =>
          rw [if_pos rfl]
          exact ih (by rw [zany, h0]; show (false || (decide (nI (gR G i) ≠ v) && gU G i p c)) = false; rw [e2, Bool.and_false]; rfl)
        | true =>
          rw [if_neg (by decide), zany_t.mpr ⟨i, hi, by show (decide (nI (gR G i) ≠ v) && gU G i p c) = true; rw [e2, decide_eq_true e]; rfl⟩]
          rfl
  unfold F_X11_isQuiet gQ
  have k2 := key (gS G) 0 ax_FU (by omega) (by unfold ax_FU; omega) rfl
  simp (disch := omega) only [↓zl_m1, zz_leT, zz_leF, zz_ltT, zz_ltF, zz_eqT, zz_eqF, zz_okN, zz_okF, nI_clamp, nI_add, pk_mul, pk_sub, zz_bS, zz_b2S, if_true, if_false, Bool.true_eq_false, Bool.false_eq_true, eq_self, ne_eq, not_true_eq_false, not_false_eq_true, false_or, or_false, true_or, or_true, and_true, true_and, and_false, false_and, mI_e, mI_e2, mI_le, mI_le2, mI_lt, mI_lt2, mI_ok, bI_0n, bI_1n, bI_orn, Nat.mul_zero, Nat.zero_add, Nat.add_zero, zl_0, zl_1, zl_2, zl_3, zl_4, zl_5, zl_6, zl_7, zl_8, zl_9, zl_10, zl_12, zl_13, zl_14, zl_15, zl_16, zl_20, zl_32, zl_40, zl_48, zl_57, zl_59, zl_60, zl_63, zl_64, zl_97, zl_99, zl_101, zl_119, zl_120, zl_122, zl_128, zl_136, zl_152, zl_168, zl_184, zl_200, zl_201, zl_202, zl_203, zl_250, zl_255, zl_320, zl_999, zl_1000, h.w hc]
  cases gW G c with
  | false => rw [if_pos rfl]; exact k2
  | true => rw [if_neg (by decide)]; rfl
theorem gQ_congr {p c : Nat} {f f2 : Nat → Bool} (h : ∀ i, i < gS G → f i = f2 i) : gQ G p c f = gQ G p c f2 := by
  unfold gQ
  rw [zany_congr (fun i hi => by rw [h i hi])]
theorem r_quiet1 (h : zL m G) (hV : zV G) {p c : Nat} (hp : p < 8) (hc : c < 64) : F_X11_isQuiet m (nI p) (nI c) mI = some (bI (gQ G p c (fun _ => true))) := by
  rw [r_isQuiet h hV hp hc]
  refine congrArg (fun b => some (bI b)) (gQ_congr (fun i hi => ?_))
  have := hV.r (show i < 16 by have := hV.s; omega)
  exact decide_eq_true (by rw [ne_eq, mI_e (by omega)]; exact not_false)
theorem r_beside (c : Nat) (hc : c < 64) : F_X11_beside (nI c) (nI 0) = some (if 8 ≤ c then nI (c - 8) else mI) ∧ F_X11_beside (nI c) (nI 1) = some (if c < 56 then nI (c + 8) else mI) ∧ F_X11_beside (nI c) (nI 2) = some (if 0 < c % 8 then nI (c - 1) else mI) ∧ F_X11_beside (nI c) (nI 3) = some (if c % 8 < 7 then nI (c + 1) else mI) := by
  revert c
  decide +kernel
end
