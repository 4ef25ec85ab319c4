/-! CALLS, fourth: personOf, loud, calm, idle, worst, poorest, guess, bare -/
theorem zc_not (f : Nat → Bool) : ∀ n, zc f n + zc (fun i => !f i) n = n
  | 0 => rfl
  | n + 1 => by
    have ih := zc_not f n
    rw [zc, zc]
    cases f n <;> simp <;> omega
theorem n_out {w : Int32} {n k : Nat} (e : ax_ok w n = false) (hk : k < n) (hn : n < 2 ^ 31) : (w = nI k) = False := eq_false (fun z => by subst z; rw [zz_okN hk (by omega)] at e; cases e)
theorem r_personOf3 {m : ax_M} {G : zG} (hL : zL m G) (hV : zV G) {x : Nat} (hx : x < 8) : F_X11_personOf_L27 ax_FU m (nI x) (nI 0) (nI 0) = some (nI (zc (fun i => decide (gR G i = x)) (gS G)), m) := by
  have hs := hV.s
  have key : ∀ k i n, i + k = gS G → k < n → F_X11_personOf_L27 n m (nI x) (nI (zc (fun i => decide (gR G i = x)) i)) (nI i) = some (nI (zc (fun i => decide (gR G i = x)) (gS G)), m) := by
    refine zz_loop (gS G) (fun n => ?_) (fun n i hi ih => ?_)
    · rw [F_X11_personOf_L27, hL.s, if_pos (Int32.le_refl _)]
    · have hr := hV.r (show i < 16 by omega)
      rw [F_X11_personOf_L27]
      by_cases e : gR G i = x
      · simp (disch := omega) only [↓zl_m1, zz_leT, zz_leF, zz_ltT, zz_ltF, zz_eqT, zz_eqF, zz_okN, zz_okF, nI_clamp, nI_add, pk_mul, pk_sub, zz_bS, zz_b2S, if_true, if_false, Bool.true_eq_false, Bool.false_eq_true, eq_self, ne_eq, not_true_eq_false, not_false_eq_true, false_or, or_false, true_or, or_true, and_true, true_and, and_false, false_and, mI_e, mI_e2, mI_le, mI_le2, mI_lt, mI_lt2, mI_ok, bI_0n, bI_1n, bI_orn, Nat.mul_zero, Nat.zero_add, Nat.add_zero, c_no2, c_no3, c_no4, c_no5, c_no6, r_no2, r_no3, r_no4, r_no5, r_no6, zk_inR, zk_in2, zk_in3, zk_wiN, Nat.reduceAdd, zl_0, zl_1, zl_2, zl_3, zl_4, zl_5, zl_6, zl_7, zl_8, zl_9, zl_10, zl_12, zl_13, zl_14, zl_15, zl_16, zl_20, zl_32, zl_40, zl_48, zl_57, zl_59, zl_60, zl_63, zl_64, zl_97, zl_99, zl_101, zl_119, zl_120, zl_122, zl_128, zl_136, zl_152, zl_168, zl_184, zl_200, zl_201, zl_202, zl_203, zl_250, zl_255, zl_320, zl_999, zl_1000, hL.s, hL.r (show i < 16 by omega), e]
        rw [zc_s (f := fun i => decide (gR G i = x)) (decide_eq_true e)] at ih
        exact ih
      · simp (disch := omega) only [↓zl_m1, zz_leT, zz_leF, zz_ltT, zz_ltF, zz_eqT, zz_eqF, zz_okN, zz_okF, nI_clamp, nI_add, pk_mul, pk_sub, zz_bS, zz_b2S, if_true, if_false, Bool.true_eq_false, Bool.false_eq_true, eq_self, ne_eq, not_true_eq_false, not_false_eq_true, false_or, or_false, true_or, or_true, and_true, true_and, and_false, false_and, mI_e, mI_e2, mI_le, mI_le2, mI_lt, mI_lt2, mI_ok, bI_0n, bI_1n, bI_orn, Nat.mul_zero, Nat.zero_add, Nat.add_zero, c_no2, c_no3, c_no4, c_no5, c_no6, r_no2, r_no3, r_no4, r_no5, r_no6, zk_inR, zk_in2, zk_in3, zk_wiN, Nat.reduceAdd, zl_0, zl_1, zl_2, zl_3, zl_4, zl_5, zl_6, zl_7, zl_8, zl_9, zl_10, zl_12, zl_13, zl_14, zl_15, zl_16, zl_20, zl_32, zl_40, zl_48, zl_57, zl_59, zl_60, zl_63, zl_64, zl_97, zl_99, zl_101, zl_119, zl_120, zl_122, zl_128, zl_136, zl_152, zl_168, zl_184, zl_200, zl_201, zl_202, zl_203, zl_250, zl_255, zl_320, zl_999, zl_1000, hL.s, hL.r (show i < 16 by omega), e]
        rw [zc_n (f := fun i => decide (gR G i = x)) (decide_eq_false e)] at ih
        exact ih
  exact key (gS G) 0 ax_FU (by omega) (by unfold ax_FU; omega)
theorem t_personOf (v w : Int32) : zT (fun m => F_X10_personOf m v w) (fun m => F_X11_personOf m v w) := zT_of (fun m G h => by
  obtain ⟨hV, hC, hL, -⟩ := id h
  have hs := hV.s
  have hp := hV.p
  rcases zk_cs v (n := gP G) (by omega) with e | ⟨x, hx, rfl⟩
  · exact zT_no 0 (by omega) (-nI 2) h (by unfold F_X10_personOf; simp (disch := omega) only [↓zl_m1, zz_leT, zz_leF, zz_ltT, zz_ltF, zz_eqT, zz_eqF, zz_okN, zz_okF, nI_clamp, nI_add, pk_mul, pk_sub, zz_bS, zz_b2S, if_true, if_false, Bool.true_eq_false, Bool.false_eq_true, eq_self, ne_eq, not_true_eq_false, not_false_eq_true, false_or, or_false, true_or, or_true, and_true, true_and, and_false, false_and, mI_e, mI_e2, mI_le, mI_le2, mI_lt, mI_lt2, mI_ok, bI_0n, bI_1n, bI_orn, Nat.mul_zero, Nat.zero_add, Nat.add_zero, c_no2, c_no3, c_no4, c_no5, c_no6, r_no2, r_no3, r_no4, r_no5, r_no6, zk_inR, zk_in2, zk_in3, zk_wiN, Nat.reduceAdd, zl_0, zl_1, zl_2, zl_3, zl_4, zl_5, zl_6, zl_7, zl_8, zl_9, zl_10, zl_12, zl_13, zl_14, zl_15, zl_16, zl_20, zl_32, zl_40, zl_48, zl_57, zl_59, zl_60, zl_63, zl_64, zl_97, zl_99, zl_101, zl_119, zl_120, zl_122, zl_128, zl_136, zl_152, zl_168, zl_184, zl_200, zl_201, zl_202, zl_203, zl_250, zl_255, zl_320, zl_999, zl_1000, c_isPerson hC hV, c_isSeed hC hV, cs_isCell, c_isShelf, c_isPair hC hV, c_isKind, e]) (fun m1 e1 hL1 => by unfold F_X11_personOf; simp (disch := omega) only [↓zl_m1, zz_leT, zz_leF, zz_ltT, zz_ltF, zz_eqT, zz_eqF, zz_okN, zz_okF, nI_clamp, nI_add, pk_mul, pk_sub, zz_bS, zz_b2S, if_true, if_false, Bool.true_eq_false, Bool.false_eq_true, eq_self, ne_eq, not_true_eq_false, not_false_eq_true, false_or, or_false, true_or, or_true, and_true, true_and, and_false, false_and, mI_e, mI_e2, mI_le, mI_le2, mI_lt, mI_lt2, mI_ok, bI_0n, bI_1n, bI_orn, Nat.mul_zero, Nat.zero_add, Nat.add_zero, c_no2, c_no3, c_no4, c_no5, c_no6, r_no2, r_no3, r_no4, r_no5, r_no6, zk_inR, zk_in2, zk_in3, zk_wiN, Nat.reduceAdd, zl_0, zl_1, zl_2, zl_3, zl_4, zl_5, zl_6, zl_7, zl_8, zl_9, zl_10, zl_12, zl_13, zl_14, zl_15, zl_16, zl_20, zl_32, zl_40, zl_48, zl_57, zl_59, zl_60, zl_63, zl_64, zl_97, zl_99, zl_101, zl_119, zl_120, zl_122, zl_128, zl_136, zl_152, zl_168, zl_184, zl_200, zl_201, zl_202, zl_203, zl_250, zl_255, zl_320, zl_999, zl_1000, r_isOne hL1 hV, r_isSeed hL1 hV, cr_isCell, r_isShelf, r_areTwo hL1 hV, zk_wiN, e])
  · have hx8 : x < 8 := by omega
    rcases zk_cs w (n := 5) (by omega) with e | ⟨y, hy, rfl⟩
    · exact zT_no 0 (by omega) (-nI 2) h (by unfold F_X10_personOf; simp (disch := omega) only [↓zl_m1, zz_leT, zz_leF, zz_ltT, zz_ltF, zz_eqT, zz_eqF, zz_okN, zz_okF, nI_clamp, nI_add, pk_mul, pk_sub, zz_bS, zz_b2S, if_true, if_false, Bool.true_eq_false, Bool.false_eq_true, eq_self, ne_eq, not_true_eq_false, not_false_eq_true, false_or, or_false, true_or, or_true, and_true, true_and, and_false, false_and, mI_e, mI_e2, mI_le, mI_le2, mI_lt, mI_lt2, mI_ok, bI_0n, bI_1n, bI_orn, Nat.mul_zero, Nat.zero_add, Nat.add_zero, c_no2, c_no3, c_no4, c_no5, c_no6, r_no2, r_no3, r_no4, r_no5, r_no6, zk_inR, zk_in2, zk_in3, zk_wiN, Nat.reduceAdd, zl_0, zl_1, zl_2, zl_3, zl_4, zl_5, zl_6, zl_7, zl_8, zl_9, zl_10, zl_12, zl_13, zl_14, zl_15, zl_16, zl_20, zl_32, zl_40, zl_48, zl_57, zl_59, zl_60, zl_63, zl_64, zl_97, zl_99, zl_101, zl_119, zl_120, zl_122, zl_128, zl_136, zl_152, zl_168, zl_184, zl_200, zl_201, zl_202, zl_203, zl_250, zl_255, zl_320, zl_999, zl_1000, c_isPerson hC hV, c_isSeed hC hV, cs_isCell, c_isShelf, c_isPair hC hV, c_isKind, n_out e (show 0 < 5 by omega), n_out e (show 1 < 5 by omega), n_out e (show 2 < 5 by omega), n_out e (show 3 < 5 by omega), n_out e (show 4 < 5 by omega)]) (fun m1 e1 hL1 => by unfold F_X11_personOf; simp (disch := omega) only [↓zl_m1, zz_leT, zz_leF, zz_ltT, zz_ltF, zz_eqT, zz_eqF, zz_okN, zz_okF, nI_clamp, nI_add, pk_mul, pk_sub, zz_bS, zz_b2S, if_true, if_false, Bool.true_eq_false, Bool.false_eq_true, eq_self, ne_eq, not_true_eq_false, not_false_eq_true, false_or, or_false, true_or, or_true, and_true, true_and, and_false, false_and, mI_e, mI_e2, mI_le, mI_le2, mI_lt, mI_lt2, mI_ok, bI_0n, bI_1n, bI_orn, Nat.mul_zero, Nat.zero_add, Nat.add_zero, c_no2, c_no3, c_no4, c_no5, c_no6, r_no2, r_no3, r_no4, r_no5, r_no6, zk_inR, zk_in2, zk_in3, zk_wiN, Nat.reduceAdd, zl_0, zl_1, zl_2, zl_3, zl_4, zl_5, zl_6, zl_7, zl_8, zl_9, zl_10, zl_12, zl_13, zl_14, zl_15, zl_16, zl_20, zl_32, zl_40, zl_48, zl_57, zl_59, zl_60, zl_63, zl_64, zl_97, zl_99, zl_101, zl_119, zl_120, zl_122, zl_128, zl_136, zl_152, zl_168, zl_184, zl_200, zl_201, zl_202, zl_203, zl_250, zl_255, zl_320, zl_999, zl_1000, r_isOne hL1 hV, r_isSeed hL1 hV, cr_isCell, r_isShelf, r_areTwo hL1 hV, zk_wiN, n_out e (show 0 < 5 by omega), n_out e (show 1 < 5 by omega), n_out e (show 2 < 5 by omega), n_out e (show 3 < 5 by omega), n_out e (show 4 < 5 by omega)])
    · rcases (by omega : y = 0 ∨ y = 1 ∨ y = 2 ∨ y = 3 ∨ y = 4) with rfl | rfl | rfl | rfl | rfl
      · exact zT_an (nI (gO G x)) h (by unfold F_X10_personOf; simp (disch := omega) only [↓zl_m1, zz_leT, zz_leF, zz_ltT, zz_ltF, zz_eqT, zz_eqF, zz_okN, zz_okF, nI_clamp, nI_add, pk_mul, pk_sub, zz_bS, zz_b2S, if_true, if_false, Bool.true_eq_false, Bool.false_eq_true, eq_self, ne_eq, not_true_eq_false, not_false_eq_true, false_or, or_false, true_or, or_true, and_true, true_and, and_false, false_and, mI_e, mI_e2, mI_le, mI_le2, mI_lt, mI_lt2, mI_ok, bI_0n, bI_1n, bI_orn, Nat.mul_zero, Nat.zero_add, Nat.add_zero, c_no2, c_no3, c_no4, c_no5, c_no6, r_no2, r_no3, r_no4, r_no5, r_no6, zk_inR, zk_in2, zk_in3, zk_wiN, Nat.reduceAdd, zl_0, zl_1, zl_2, zl_3, zl_4, zl_5, zl_6, zl_7, zl_8, zl_9, zl_10, zl_12, zl_13, zl_14, zl_15, zl_16, zl_20, zl_32, zl_40, zl_48, zl_57, zl_59, zl_60, zl_63, zl_64, zl_97, zl_99, zl_101, zl_119, zl_120, zl_122, zl_128, zl_136, zl_152, zl_168, zl_184, zl_200, zl_201, zl_202, zl_203, zl_250, zl_255, zl_320, zl_999, zl_1000, c_isPerson hC hV, c_isSeed hC hV, cs_isCell, c_isShelf, c_isPair hC hV, c_isKind, hC.o hx8]) (by unfold F_X11_personOf; simp (disch := omega) only [↓zl_m1, zz_leT, zz_leF, zz_ltT, zz_ltF, zz_eqT, zz_eqF, zz_okN, zz_okF, nI_clamp, nI_add, pk_mul, pk_sub, zz_bS, zz_b2S, if_true, if_false, Bool.true_eq_false, Bool.false_eq_true, eq_self, ne_eq, not_true_eq_false, not_false_eq_true, false_or, or_false, true_or, or_true, and_true, true_and, and_false, false_and, mI_e, mI_e2, mI_le, mI_le2, mI_lt, mI_lt2, mI_ok, bI_0n, bI_1n, bI_orn, Nat.mul_zero, Nat.zero_add, Nat.add_zero, c_no2, c_no3, c_no4, c_no5, c_no6, r_no2, r_no3, r_no4, r_no5, r_no6, zk_inR, zk_in2, zk_in3, zk_wiN, Nat.reduceAdd, zl_0, zl_1, zl_2, zl_3, zl_4, zl_5, zl_6, zl_7, zl_8, zl_9, zl_10, zl_12, zl_13, zl_14, zl_15, zl_16, zl_20, zl_32, zl_40, zl_48, zl_57, zl_59, zl_60, zl_63, zl_64, zl_97, zl_99, zl_101, zl_119, zl_120, zl_122, zl_128, zl_136, zl_152, zl_168, zl_184, zl_200, zl_201, zl_202, zl_203, zl_250, zl_255, zl_320, zl_999, zl_1000, r_isOne hL hV, r_isSeed hL hV, cr_isCell, r_isShelf, r_areTwo hL hV, zk_wiN, hL.o hx8])
      · exact zT_an (nI (gOw G x)) h (by unfold F_X10_personOf; simp (disch := omega) only [↓zl_m1, zz_leT, zz_leF, zz_ltT, zz_ltF, zz_eqT, zz_eqF, zz_okN, zz_okF, nI_clamp, nI_add, pk_mul, pk_sub, zz_bS, zz_b2S, if_true, if_false, Bool.true_eq_false, Bool.false_eq_true, eq_self, ne_eq, not_true_eq_false, not_false_eq_true, false_or, or_false, true_or, or_true, and_true, true_and, and_false, false_and, mI_e, mI_e2, mI_le, mI_le2, mI_lt, mI_lt2, mI_ok, bI_0n, bI_1n, bI_orn, Nat.mul_zero, Nat.zero_add, Nat.add_zero, c_no2, c_no3, c_no4, c_no5, c_no6, r_no2, r_no3, r_no4, r_no5, r_no6, zk_inR, zk_in2, zk_in3, zk_wiN, Nat.reduceAdd, zl_0, zl_1, zl_2, zl_3, zl_4, zl_5, zl_6, zl_7, zl_8, zl_9, zl_10, zl_12, zl_13, zl_14, zl_15, zl_16, zl_20, zl_32, zl_40, zl_48, zl_57, zl_59, zl_60, zl_63, zl_64, zl_97, zl_99, zl_101, zl_119, zl_120, zl_122, zl_128, zl_136, zl_152, zl_168, zl_184, zl_200, zl_201, zl_202, zl_203, zl_250, zl_255, zl_320, zl_999, zl_1000, c_isPerson hC hV, c_isSeed hC hV, cs_isCell, c_isShelf, c_isPair hC hV, c_isKind, c_owedBy hC hx8]) (by unfold F_X11_personOf; simp (disch := omega) only [↓zl_m1, zz_leT, zz_leF, zz_ltT, zz_ltF, zz_eqT, zz_eqF, zz_okN, zz_okF, nI_clamp, nI_add, pk_mul, pk_sub, zz_bS, zz_b2S, if_true, if_false, Bool.true_eq_false, Bool.false_eq_true, eq_self, ne_eq, not_true_eq_false, not_false_eq_true, false_or, or_false, true_or, or_true, and_true, true_and, and_false, false_and, mI_e, mI_e2, mI_le, mI_le2, mI_lt, mI_lt2, mI_ok, bI_0n, bI_1n, bI_orn, Nat.mul_zero, Nat.zero_add, Nat.add_zero, c_no2, c_no3, c_no4, c_no5, c_no6, r_no2, r_no3, r_no4, r_no5, r_no6, zk_inR, zk_in2, zk_in3, zk_wiN, Nat.reduceAdd, zl_0, zl_1, zl_2, zl_3, zl_4, zl_5, zl_6, zl_7, zl_8, zl_9, zl_10, zl_12, zl_13, zl_14, zl_15, zl_16, zl_20, zl_32, zl_40, zl_48, zl_57, zl_59, zl_60, zl_63, zl_64, zl_97, zl_99, zl_101, zl_119, zl_120, zl_122, zl_128, zl_136, zl_152, zl_168, zl_184, zl_200, zl_201, zl_202, zl_203, zl_250, zl_255, zl_320, zl_999, zl_1000, r_isOne hL hV, r_isSeed hL hV, cr_isCell, r_isShelf, r_areTwo hL hV, zk_wiN, r_allOwed hL hV hx8])
      · exact zT_an (nI (gTo G x)) h (by unfold F_X10_personOf; simp (disch := omega) only [↓zl_m1, zz_leT, zz_leF, zz_ltT, zz_ltF, zz_eqT, zz_eqF, zz_okN, zz_okF, nI_clamp, nI_add, pk_mul, pk_sub, zz_bS, zz_b2S, if_true, if_false, Bool.true_eq_false, Bool.false_eq_true, eq_self, ne_eq, not_true_eq_false, not_false_eq_true, false_or, or_false, true_or, or_true, and_true, true_and, and_false, false_and, mI_e, mI_e2, mI_le, mI_le2, mI_lt, mI_lt2, mI_ok, bI_0n, bI_1n, bI_orn, Nat.mul_zero, Nat.zero_add, Nat.add_zero, c_no2, c_no3, c_no4, c_no5, c_no6, r_no2, r_no3, r_no4, r_no5, r_no6, zk_inR, zk_in2, zk_in3, zk_wiN, Nat.reduceAdd, zl_0, zl_1, zl_2, zl_3, zl_4, zl_5, zl_6, zl_7, zl_8, zl_9, zl_10, zl_12, zl_13, zl_14, zl_15, zl_16, zl_20, zl_32, zl_40, zl_48, zl_57, zl_59, zl_60, zl_63, zl_64, zl_97, zl_99, zl_101, zl_119, zl_120, zl_122, zl_128, zl_136, zl_152, zl_168, zl_184, zl_200, zl_201, zl_202, zl_203, zl_250, zl_255, zl_320, zl_999, zl_1000, c_isPerson hC hV, c_isSeed hC hV, cs_isCell, c_isShelf, c_isPair hC hV, c_isKind, c_owedTo hC hx8]) (by unfold F_X11_personOf; simp (disch := omega) only [↓zl_m1, zz_leT, zz_leF, zz_ltT, zz_ltF, zz_eqT, zz_eqF, zz_okN, zz_okF, nI_clamp, nI_add, pk_mul, pk_sub, zz_bS, zz_b2S, if_true, if_false, Bool.true_eq_false, Bool.false_eq_true, eq_self, ne_eq, not_true_eq_false, not_false_eq_true, false_or, or_false, true_or, or_true, and_true, true_and, and_false, false_and, mI_e, mI_e2, mI_le, mI_le2, mI_lt, mI_lt2, mI_ok, bI_0n, bI_1n, bI_orn, Nat.mul_zero, Nat.zero_add, Nat.add_zero, c_no2, c_no3, c_no4, c_no5, c_no6, r_no2, r_no3, r_no4, r_no5, r_no6, zk_inR, zk_in2, zk_in3, zk_wiN, Nat.reduceAdd, zl_0, zl_1, zl_2, zl_3, zl_4, zl_5, zl_6, zl_7, zl_8, zl_9, zl_10, zl_12, zl_13, zl_14, zl_15, zl_16, zl_20, zl_32, zl_40, zl_48, zl_57, zl_59, zl_60, zl_63, zl_64, zl_97, zl_99, zl_101, zl_119, zl_120, zl_122, zl_128, zl_136, zl_152, zl_168, zl_184, zl_200, zl_201, zl_202, zl_203, zl_250, zl_255, zl_320, zl_999, zl_1000, r_isOne hL hV, r_isSeed hL hV, cr_isCell, r_isShelf, r_areTwo hL hV, zk_wiN, r_owedTo hL hV hx8])
      · have e2 : gS G - zc (fun i => decide (nI (gR G i) ≠ nI x)) (gS G) = zc (fun i => decide (gR G i = x)) (gS G) := by
          have h1 := zc_not (fun i => decide (gR G i = x)) (gS G)
          rw [zc_congr (f := fun i => !decide (gR G i = x)) (g := fun i => decide (nI (gR G i) ≠ nI x)) (fun i hi => ?_)] at h1
          · omega
          · have hr := hV.r (show i < 16 by omega)
            show (!decide (gR G i = x)) = decide (nI (gR G i) ≠ nI x)
            rw [← decide_not]
            exact decide_eq_decide.mpr (by rw [ne_eq, nI_eq (by omega) (by omega)])
        have hle := zc_le (fun i => decide (nI (gR G i) ≠ nI x)) (gS G)
        refine zT_an (nI (zc (fun i => decide (gR G i = x)) (gS G))) h ?_ ?_
        · unfold F_X10_personOf
          simp (disch := omega) only [↓zl_m1, zz_leT, zz_leF, zz_ltT, zz_ltF, zz_eqT, zz_eqF, zz_okN, zz_okF, nI_clamp, nI_add, pk_mul, pk_sub, zz_bS, zz_b2S, if_true, if_false, Bool.true_eq_false, Bool.false_eq_true, eq_self, ne_eq, not_true_eq_false, not_false_eq_true, false_or, or_false, true_or, or_true, and_true, true_and, and_false, false_and, mI_e, mI_e2, mI_le, mI_le2, mI_lt, mI_lt2, mI_ok, bI_0n, bI_1n, bI_orn, Nat.mul_zero, Nat.zero_add, Nat.add_zero, c_no2, c_no3, c_no4, c_no5, c_no6, r_no2, r_no3, r_no4, r_no5, r_no6, zk_inR, zk_in2, zk_in3, zk_wiN, Nat.reduceAdd, zl_0, zl_1, zl_2, zl_3, zl_4, zl_5, zl_6, zl_7, zl_8, zl_9, zl_10, zl_12, zl_13, zl_14, zl_15, zl_16, zl_20, zl_32, zl_40, zl_48, zl_57, zl_59, zl_60, zl_63, zl_64, zl_97, zl_99, zl_101, zl_119, zl_120, zl_122, zl_128, zl_136, zl_152, zl_168, zl_184, zl_200, zl_201, zl_202, zl_203, zl_250, zl_255, zl_320, zl_999, zl_1000, c_isPerson hC hV]
          rw [c_seedsBut hC hV, zz_bS, J_bitM (by omega), zz_bS, hC.s, pk_sub hle, e2]
        · unfold F_X11_personOf; simp (disch := omega) only [↓zl_m1, zz_leT, zz_leF, zz_ltT, zz_ltF, zz_eqT, zz_eqF, zz_okN, zz_okF, nI_clamp, nI_add, pk_mul, pk_sub, zz_bS, zz_b2S, if_true, if_false, Bool.true_eq_false, Bool.false_eq_true, eq_self, ne_eq, not_true_eq_false, not_false_eq_true, false_or, or_false, true_or, or_true, and_true, true_and, and_false, false_and, mI_e, mI_e2, mI_le, mI_le2, mI_lt, mI_lt2, mI_ok, bI_0n, bI_1n, bI_orn, Nat.mul_zero, Nat.zero_add, Nat.add_zero, c_no2, c_no3, c_no4, c_no5, c_no6, r_no2, r_no3, r_no4, r_no5, r_no6, zk_inR, zk_in2, zk_in3, zk_wiN, Nat.reduceAdd, zl_0, zl_1, zl_2, zl_3, zl_4, zl_5, zl_6, zl_7, zl_8, zl_9, zl_10, zl_12, zl_13, zl_14, zl_15, zl_16, zl_20, zl_32, zl_40, zl_48, zl_57, zl_59, zl_60, zl_63, zl_64, zl_97, zl_99, zl_101, zl_119, zl_120, zl_122, zl_128, zl_136, zl_152, zl_168, zl_184, zl_200, zl_201, zl_202, zl_203, zl_250, zl_255, zl_320, zl_999, zl_1000, r_isOne hL hV, r_personOf3 hL hV hx8]
      · exact zT_an (nI (zc (fun i => gUp G i x) (gS G))) h (by unfold F_X10_personOf; simp (disch := omega) only [↓zl_m1, zz_leT, zz_leF, zz_ltT, zz_ltF, zz_eqT, zz_eqF, zz_okN, zz_okF, nI_clamp, nI_add, pk_mul, pk_sub, zz_bS, zz_b2S, if_true, if_false, Bool.true_eq_false, Bool.false_eq_true, eq_self, ne_eq, not_true_eq_false, not_false_eq_true, false_or, or_false, true_or, or_true, and_true, true_and, and_false, false_and, mI_e, mI_e2, mI_le, mI_le2, mI_lt, mI_lt2, mI_ok, bI_0n, bI_1n, bI_orn, Nat.mul_zero, Nat.zero_add, Nat.add_zero, c_no2, c_no3, c_no4, c_no5, c_no6, r_no2, r_no3, r_no4, r_no5, r_no6, zk_inR, zk_in2, zk_in3, zk_wiN, Nat.reduceAdd, zl_0, zl_1, zl_2, zl_3, zl_4, zl_5, zl_6, zl_7, zl_8, zl_9, zl_10, zl_12, zl_13, zl_14, zl_15, zl_16, zl_20, zl_32, zl_40, zl_48, zl_57, zl_59, zl_60, zl_63, zl_64, zl_97, zl_99, zl_101, zl_119, zl_120, zl_122, zl_128, zl_136, zl_152, zl_168, zl_184, zl_200, zl_201, zl_202, zl_203, zl_250, zl_255, zl_320, zl_999, zl_1000, c_isPerson hC hV, c_isSeed hC hV, cs_isCell, c_isShelf, c_isPair hC hV, c_isKind, c_shownBy hC hV hx8, J_bitM (show gS G ≤ 32 by omega)]) (by unfold F_X11_personOf; simp (disch := omega) only [↓zl_m1, zz_leT, zz_leF, zz_ltT, zz_ltF, zz_eqT, zz_eqF, zz_okN, zz_okF, nI_clamp, nI_add, pk_mul, pk_sub, zz_bS, zz_b2S, if_true, if_false, Bool.true_eq_false, Bool.false_eq_true, eq_self, ne_eq, not_true_eq_false, not_false_eq_true, false_or, or_false, true_or, or_true, and_true, true_and, and_false, false_and, mI_e, mI_e2, mI_le, mI_le2, mI_lt, mI_lt2, mI_ok, bI_0n, bI_1n, bI_orn, Nat.mul_zero, Nat.zero_add, Nat.add_zero, c_no2, c_no3, c_no4, c_no5, c_no6, r_no2, r_no3, r_no4, r_no5, r_no6, zk_inR, zk_in2, zk_in3, zk_wiN, Nat.reduceAdd, zl_0, zl_1, zl_2, zl_3, zl_4, zl_5, zl_6, zl_7, zl_8, zl_9, zl_10, zl_12, zl_13, zl_14, zl_15, zl_16, zl_20, zl_32, zl_40, zl_48, zl_57, zl_59, zl_60, zl_63, zl_64, zl_97, zl_99, zl_101, zl_119, zl_120, zl_122, zl_128, zl_136, zl_152, zl_168, zl_184, zl_200, zl_201, zl_202, zl_203, zl_250, zl_255, zl_320, zl_999, zl_1000, r_isOne hL hV, r_isSeed hL hV, cr_isCell, r_isShelf, r_areTwo hL hV, zk_wiN, r_upOf hL hV hx8, J_bitM (show gS G ≤ 32 by omega)]))
def gL (G : zG) (x c : Nat) : Bool := !gW G c && !gQ G x c (fun _ => true)
theorem r_loudL {m : ax_M} {G : zG} (hL : zL m G) (hV : zV G) {x : Nat} (hx : x < 8) : F_X11_loud_L12 ax_FU m (nI x) (nI 0) (nI 0) = some (nI (zc (gL G x) 64), m) := by
  have key : ∀ k i n, i + k = 64 → k < n → F_X11_loud_L12 n m (nI x) (nI (zc (gL G x) i)) (nI i) = some (nI (zc (gL G x) 64), m) := by
    refine zz_loop 64 (fun n => ?_) (fun n i hi ih => ?_)
    · rw [F_X11_loud_L12, zl_64, if_pos (Int32.le_refl _)]
    · rw [F_X11_loud_L12]
      simp (disch := omega) only [↓zl_m1, zz_leT, zz_leF, zz_ltT, zz_ltF, zz_eqT, zz_eqF, zz_okN, zz_okF, nI_clamp, nI_add, pk_mul, pk_sub, zz_bS, zz_b2S, if_true, if_false, Bool.true_eq_false, Bool.false_eq_true, eq_self, ne_eq, not_true_eq_false, not_false_eq_true, false_or, or_false, true_or, or_true, and_true, true_and, and_false, false_and, mI_e, mI_e2, mI_le, mI_le2, mI_lt, mI_lt2, mI_ok, bI_0n, bI_1n, bI_orn, Nat.mul_zero, Nat.zero_add, Nat.add_zero, c_no2, c_no3, c_no4, c_no5, c_no6, r_no2, r_no3, r_no4, r_no5, r_no6, zk_inR, zk_in2, zk_in3, zk_wiN, Nat.reduceAdd, zl_0, zl_1, zl_2, zl_3, zl_4, zl_5, zl_6, zl_7, zl_8, zl_9, zl_10, zl_12, zl_13, zl_14, zl_15, zl_16, zl_20, zl_32, zl_40, zl_48, zl_57, zl_59, zl_60, zl_63, zl_64, zl_97, zl_99, zl_101, zl_119, zl_120, zl_122, zl_128, zl_136, zl_152, zl_168, zl_184, zl_200, zl_201, zl_202, zl_203, zl_250, zl_255, zl_320, zl_999, zl_1000, hL.w hi, r_quiet1 hL hV hx hi]
      cases e : gW G i with
      | true =>
        rw [zc_n (f := gL G x) (by unfold gL; rw [e]; rfl)] at ih
        rw [if_neg (by decide)]
        exact ih
      | false =>
        rw [if_pos rfl]
        cases e2 : gQ G x i (fun _ => true) with
        | true =>
          rw [zc_n (f := gL G x) (by unfold gL; rw [e, e2]; rfl)] at ih
          rw [if_neg (by decide)]
          exact ih
        | false =>
          rw [zc_s (f := gL G x) (by unfold gL; rw [e, e2]; rfl)] at ih
          rw [if_pos rfl]
          exact ih
  exact key 64 0 ax_FU rfl (by decide)
theorem t_loud (v : Int32) : zT (fun m => F_X10_loud m v) (fun m => F_X11_loud m v) := zT_of (fun m G h => by
  obtain ⟨hV, hC, hL, -⟩ := id h
  have hp := hV.p
  rcases zk_cs v (n := gP G) (by omega) with e | ⟨x, hx, rfl⟩
  · exact zT_no 0 (by omega) (-nI 2) h (by unfold F_X10_loud; simp (disch := omega) only [↓zl_m1, zz_leT, zz_leF, zz_ltT, zz_ltF, zz_eqT, zz_eqF, zz_okN, zz_okF, nI_clamp, nI_add, pk_mul, pk_sub, zz_bS, zz_b2S, if_true, if_false, Bool.true_eq_false, Bool.false_eq_true, eq_self, ne_eq, not_true_eq_false, not_false_eq_true, false_or, or_false, true_or, or_true, and_true, true_and, and_false, false_and, mI_e, mI_e2, mI_le, mI_le2, mI_lt, mI_lt2, mI_ok, bI_0n, bI_1n, bI_orn, Nat.mul_zero, Nat.zero_add, Nat.add_zero, c_no2, c_no3, c_no4, c_no5, c_no6, r_no2, r_no3, r_no4, r_no5, r_no6, zk_inR, zk_in2, zk_in3, zk_wiN, Nat.reduceAdd, zl_0, zl_1, zl_2, zl_3, zl_4, zl_5, zl_6, zl_7, zl_8, zl_9, zl_10, zl_12, zl_13, zl_14, zl_15, zl_16, zl_20, zl_32, zl_40, zl_48, zl_57, zl_59, zl_60, zl_63, zl_64, zl_97, zl_99, zl_101, zl_119, zl_120, zl_122, zl_128, zl_136, zl_152, zl_168, zl_184, zl_200, zl_201, zl_202, zl_203, zl_250, zl_255, zl_320, zl_999, zl_1000, c_isPerson hC hV, c_isSeed hC hV, cs_isCell, c_isShelf, c_isPair hC hV, c_isKind, e]) (fun m1 e1 hL1 => by unfold F_X11_loud; simp (disch := omega) only [↓zl_m1, zz_leT, zz_leF, zz_ltT, zz_ltF, zz_eqT, zz_eqF, zz_okN, zz_okF, nI_clamp, nI_add, pk_mul, pk_sub, zz_bS, zz_b2S, if_true, if_false, Bool.true_eq_false, Bool.false_eq_true, eq_self, ne_eq, not_true_eq_false, not_false_eq_true, false_or, or_false, true_or, or_true, and_true, true_and, and_false, false_and, mI_e, mI_e2, mI_le, mI_le2, mI_lt, mI_lt2, mI_ok, bI_0n, bI_1n, bI_orn, Nat.mul_zero, Nat.zero_add, Nat.add_zero, c_no2, c_no3, c_no4, c_no5, c_no6, r_no2, r_no3, r_no4, r_no5, r_no6, zk_inR, zk_in2, zk_in3, zk_wiN, Nat.reduceAdd, zl_0, zl_1, zl_2, zl_3, zl_4, zl_5, zl_6, zl_7, zl_8, zl_9, zl_10, zl_12, zl_13, zl_14, zl_15, zl_16, zl_20, zl_32, zl_40, zl_48, zl_57, zl_59, zl_60, zl_63, zl_64, zl_97, zl_99, zl_101, zl_119, zl_120, zl_122, zl_128, zl_136, zl_152, zl_168, zl_184, zl_200, zl_201, zl_202, zl_203, zl_250, zl_255, zl_320, zl_999, zl_1000, r_isOne hL1 hV, r_isSeed hL1 hV, cr_isCell, r_isShelf, r_areTwo hL1 hV, zk_wiN, e])
  · refine zT_an (nI (zc (gL G x) 64)) h ?_ ?_
    · unfold F_X10_loud
      simp (disch := omega) only [↓zl_m1, zz_leT, zz_leF, zz_ltT, zz_ltF, zz_eqT, zz_eqF, zz_okN, zz_okF, nI_clamp, nI_add, pk_mul, pk_sub, zz_bS, zz_b2S, if_true, if_false, Bool.true_eq_false, Bool.false_eq_true, eq_self, ne_eq, not_true_eq_false, not_false_eq_true, false_or, or_false, true_or, or_true, and_true, true_and, and_false, false_and, mI_e, mI_e2, mI_le, mI_le2, mI_lt, mI_lt2, mI_ok, bI_0n, bI_1n, bI_orn, Nat.mul_zero, Nat.zero_add, Nat.add_zero, c_no2, c_no3, c_no4, c_no5, c_no6, r_no2, r_no3, r_no4, r_no5, r_no6, zk_inR, zk_in2, zk_in3, zk_wiN, Nat.reduceAdd, zl_0, zl_1, zl_2, zl_3, zl_4, zl_5, zl_6, zl_7, zl_8, zl_9, zl_10, zl_12, zl_13, zl_14, zl_15, zl_16, zl_20, zl_32, zl_40, zl_48, zl_57, zl_59, zl_60, zl_63, zl_64, zl_97, zl_99, zl_101, zl_119, zl_120, zl_122, zl_128, zl_136, zl_152, zl_168, zl_184, zl_200, zl_201, zl_202, zl_203, zl_250, zl_255, zl_320, zl_999, zl_1000, c_isPerson hC hV]
      rw [c_quietFor hC hV (by omega), zz_bS, hC.w, lb_not, lb_not, lb_and, J_bitS, zz_bS]
      rfl
    · unfold F_X11_loud; simp (disch := omega) only [↓zl_m1, zz_leT, zz_leF, zz_ltT, zz_ltF, zz_eqT, zz_eqF, zz_okN, zz_okF, nI_clamp, nI_add, pk_mul, pk_sub, zz_bS, zz_b2S, if_true, if_false, Bool.true_eq_false, Bool.false_eq_true, eq_self, ne_eq, not_true_eq_false, not_false_eq_true, false_or, or_false, true_or, or_true, and_true, true_and, and_false, false_and, mI_e, mI_e2, mI_le, mI_le2, mI_lt, mI_lt2, mI_ok, bI_0n, bI_1n, bI_orn, Nat.mul_zero, Nat.zero_add, Nat.add_zero, c_no2, c_no3, c_no4, c_no5, c_no6, r_no2, r_no3, r_no4, r_no5, r_no6, zk_inR, zk_in2, zk_in3, zk_wiN, Nat.reduceAdd, zl_0, zl_1, zl_2, zl_3, zl_4, zl_5, zl_6, zl_7, zl_8, zl_9, zl_10, zl_12, zl_13, zl_14, zl_15, zl_16, zl_20, zl_32, zl_40, zl_48, zl_57, zl_59, zl_60, zl_63, zl_64, zl_97, zl_99, zl_101, zl_119, zl_120, zl_122, zl_128, zl_136, zl_152, zl_168, zl_184, zl_200, zl_201, zl_202, zl_203, zl_250, zl_255, zl_320, zl_999, zl_1000, r_isOne hL hV, r_loudL hL hV (show x < 8 by omega)])
/-- calm -/
def zpz (f : ax_M → Option Int32) (g : ax_M → Option Int32) : Prop := ∀ m G, zRG m G → ∃ a, f m = some a ∧ g m = some a
def gCa (G : zG) (n c : Nat) : Bool := !gW G c && !zany (fun p => !gQ G p c (fun _ => true)) n
theorem c_calm {m : ax_M} {G : zG} (hC : zC m 0 G) (hV : zV G) : F_X10_calm m = some (nI (zc (gCa G (gP G)) 64)) := by
  have hp := hV.p
  have key : ∀ k i n, i + k = gP G → k < n → F_X10_calm_L8 n m (lb (gCa G i)) (nI i) = some (nI (zc (gCa G (gP G)) 64)) := by
    refine zz_loop (gP G) (fun n => ?_) (fun n i hi ih => ?_)
    · rw [F_X10_calm_L8, hC.p, if_pos (Int32.le_refl _), J_bitS, zz_bS]
    · rw [F_X10_calm_L8]
      simp (disch := omega) only [↓zl_m1, zz_leT, zz_leF, zz_ltT, zz_ltF, zz_eqT, zz_eqF, zz_okN, zz_okF, nI_clamp, nI_add, pk_mul, pk_sub, zz_bS, zz_b2S, if_true, if_false, Bool.true_eq_false, Bool.false_eq_true, eq_self, ne_eq, not_true_eq_false, not_false_eq_true, false_or, or_false, true_or, or_true, and_true, true_and, and_false, false_and, mI_e, mI_e2, mI_le, mI_le2, mI_lt, mI_lt2, mI_ok, bI_0n, bI_1n, bI_orn, Nat.mul_zero, Nat.zero_add, Nat.add_zero, c_no2, c_no3, c_no4, c_no5, c_no6, r_no2, r_no3, r_no4, r_no5, r_no6, zk_inR, zk_in2, zk_in3, zk_wiN, Nat.reduceAdd, zl_0, zl_1, zl_2, zl_3, zl_4, zl_5, zl_6, zl_7, zl_8, zl_9, zl_10, zl_12, zl_13, zl_14, zl_15, zl_16, zl_20, zl_32, zl_40, zl_48, zl_57, zl_59, zl_60, zl_63, zl_64, zl_97, zl_99, zl_101, zl_119, zl_120, zl_122, zl_128, zl_136, zl_152, zl_168, zl_184, zl_200, zl_201, zl_202, zl_203, zl_250, zl_255, zl_320, zl_999, zl_1000, hC.p, c_quietFor hC hV (show i < 8 by omega), lb_and]
      rw [lb_congr (g := gCa G (i + 1)) (fun c _ => ?_)]
      · exact ih
      · show ((!gW G c && !zany _ i) && gQ G i c (fun _ => true)) = (!gW G c && !(zany _ i || !gQ G i c (fun _ => true)))
        rw [Bool.and_assoc]
        cases zany (fun p => !gQ G p c (fun _ => true)) i <;> cases gQ G i c (fun _ => true) <;> rfl
  unfold F_X10_calm
  rw [hC.w, lb_not, lb_congr (g := gCa G 0) (fun c _ => by show (!gW G c) = (!gW G c && !false); simp)]
  exact key (gP G) 0 ax_FU (by omega) (by unfold ax_FU; omega)
theorem r_calm {m : ax_M} {G : zG} (hL : zL m G) (hV : zV G) : F_X11_calm m = some (nI (zc (gCa G (gP G)) 64)) := by
  have hp := hV.p
  have inn : ∀ (K : Int32 → Option Int32) (a c : Nat) (hc : c < 64), F_X11_calm_L18 ax_FU K m (nI a) (nI c) (bI (!gW G c)) (nI 0) = K (bI (gCa G (gP G) c)) := by
    intro K a c hc
    have key : ∀ k i n, i + k = gP G → k < n → F_X11_calm_L18 n K m (nI a) (nI c) (bI (gCa G i c)) (nI i) = K (bI (gCa G (gP G) c)) := by
      refine zz_loop (gP G) (fun n => ?_) (fun n i hi ih => ?_)
      · rw [F_X11_calm_L18, hL.p, if_pos (Int32.le_refl _)]
      · rw [F_X11_calm_L18]
        simp (disch := omega) only [↓zl_m1, zz_leT, zz_leF, zz_ltT, zz_ltF, zz_eqT, zz_eqF, zz_okN, zz_okF, nI_clamp, nI_add, pk_mul, pk_sub, zz_bS, zz_b2S, if_true, if_false, Bool.true_eq_false, Bool.false_eq_true, eq_self, ne_eq, not_true_eq_false, not_false_eq_true, false_or, or_false, true_or, or_true, and_true, true_and, and_false, false_and, mI_e, mI_e2, mI_le, mI_le2, mI_lt, mI_lt2, mI_ok, bI_0n, bI_1n, bI_orn, Nat.mul_zero, Nat.zero_add, Nat.add_zero, c_no2, c_no3, c_no4, c_no5, c_no6, r_no2, r_no3, r_no4, r_no5, r_no6, zk_inR, zk_in2, zk_in3, zk_wiN, Nat.reduceAdd, zl_0, zl_1, zl_2, zl_3, zl_4, zl_5, zl_6, zl_7, zl_8, zl_9, zl_10, zl_12, zl_13, zl_14, zl_15, zl_16, zl_20, zl_32, zl_40, zl_48, zl_57, zl_59, zl_60, zl_63, zl_64, zl_97, zl_99, zl_101, zl_119, zl_120, zl_122, zl_128, zl_136, zl_152, zl_168, zl_184, zl_200, zl_201, zl_202, zl_203, zl_250, zl_255, zl_320, zl_999, zl_1000, hL.p, r_quiet1 hL hV (show i < 8 by omega) hc]
        cases e : gQ G i c (fun _ => true) with
        | false =>
          rw [if_pos rfl]
          rw [show gCa G (i + 1) c = false by show (!gW G c && !(zany _ i || !gQ G i c (fun _ => true))) = false; rw [e]; simp] at ih
          exact ih
        | true =>
          rw [if_neg (by decide)]
          rw [show gCa G (i + 1) c = gCa G i c by show (!gW G c && !(zany _ i || !gQ G i c (fun _ => true))) = (!gW G c && !zany _ i); rw [e]; simp] at ih
          exact ih
    have k2 := key (gP G) 0 ax_FU (by omega) (by unfold ax_FU; omega)
    rw [show gCa G 0 c = !gW G c by show (!gW G c && !false) = _; simp] at k2
    exact k2
  have key : ∀ k i n, i + k = 64 → k < n → F_X11_calm_L4 n m (nI (zc (gCa G (gP G)) i)) (nI i) = some (nI (zc (gCa G (gP G)) 64)) := by
    refine zz_loop 64 (fun n => ?_) (fun n i hi ih => ?_)
    · rw [F_X11_calm_L4, zl_64, if_pos (Int32.le_refl _)]
    · have fin : (if bI (gCa G (gP G) i) = nI 0 then F_X11_calm_L4 n m (nI (zc (gCa G (gP G)) i)) (nI (i + 1)) else F_X11_calm_L4 n m (nI (zc (gCa G (gP G)) i + 1)) (nI (i + 1))) = some (nI (zc (gCa G (gP G)) 64)) := by
        cases e : gCa G (gP G) i with
        | true => rw [zc_s e] at ih; rw [if_neg (by decide)]; exact ih
        | false => rw [zc_n e] at ih; rw [if_pos (show bI false = nI 0 from rfl)]; exact ih
      rw [F_X11_calm_L4]
      have i1 := inn (fun y => if y = nI 0 then F_X11_calm_L4 n m (nI (zc (gCa G (gP G)) i)) (nI (i + 1)) else F_X11_calm_L4 n m (nI (zc (gCa G (gP G)) i + 1)) (nI (i + 1))) (zc (gCa G (gP G)) i) i hi
      simp (disch := omega) only [↓zl_m1, zz_leT, zz_leF, zz_ltT, zz_ltF, zz_eqT, zz_eqF, zz_okN, zz_okF, nI_clamp, nI_add, pk_mul, pk_sub, zz_bS, zz_b2S, if_true, if_false, Bool.true_eq_false, Bool.false_eq_true, eq_self, ne_eq, not_true_eq_false, not_false_eq_true, false_or, or_false, true_or, or_true, and_true, true_and, and_false, false_and, mI_e, mI_e2, mI_le, mI_le2, mI_lt, mI_lt2, mI_ok, bI_0n, bI_1n, bI_orn, Nat.mul_zero, Nat.zero_add, Nat.add_zero, c_no2, c_no3, c_no4, c_no5, c_no6, r_no2, r_no3, r_no4, r_no5, r_no6, zk_inR, zk_in2, zk_in3, zk_wiN, Nat.reduceAdd, zl_0, zl_1, zl_2, zl_3, zl_4, zl_5, zl_6, zl_7, zl_8, zl_9, zl_10, zl_12, zl_13, zl_14, zl_15, zl_16, zl_20, zl_32, zl_40, zl_48, zl_57, zl_59, zl_60, zl_63, zl_64, zl_97, zl_99, zl_101, zl_119, zl_120, zl_122, zl_128, zl_136, zl_152, zl_168, zl_184, zl_200, zl_201, zl_202, zl_203, zl_250, zl_255, zl_320, zl_999, zl_1000, hL.w hi]
      cases e : gW G i with
      | false =>
        rw [if_pos rfl]
        rw [e] at i1
        exact i1.trans fin
      | true =>
        rw [if_neg (by decide)]
        rw [e] at i1
        exact i1.trans fin
  exact key 64 0 ax_FU rfl (by decide)
theorem t_calm : zpz F_X10_calm F_X11_calm := fun _ _ h => ⟨_, c_calm h.2.1 h.1, r_calm h.2.2.1 h.1⟩
/-- idle -/
theorem zm_andm {f g : Nat → Bool} {n : Nat} (hn : n ≤ 32) : zm f n &&& (zm g n ^^^ mI) = zm (fun i => f i && !g i) n := zm_andn hn
theorem c_idle {m : ax_M} {G : zG} (hC : zC m 0 G) (hV : zV G) : F_X10_idle m = some (zm (fun i => !zany (fun p => gE G p i) (gP G)) (gS G)) := by
  have hp := hV.p
  have hs := hV.s
  have key : ∀ k i n, i + k = gP G → k < n → F_X10_idle_L4 n m (zm (fun s => zany (fun p => gE G p s) i) (gS G)) (nI i) = some (zm (fun i => !zany (fun p => gE G p i) (gP G)) (gS G)) := by
    refine zz_loop (gP G) (fun n => ?_) (fun n i hi ih => ?_)
    · rw [F_X10_idle_L4, hC.p, if_pos (Int32.le_refl _), c_allSeeds hC hV, zz_bS, zm_andn (by omega)]
      rfl
    · rw [F_X10_idle_L4]
      simp (disch := omega) only [↓zl_m1, zz_leT, zz_leF, zz_ltT, zz_ltF, zz_eqT, zz_eqF, zz_okN, zz_okF, nI_clamp, nI_add, pk_mul, pk_sub, zz_bS, zz_b2S, if_true, if_false, Bool.true_eq_false, Bool.false_eq_true, eq_self, ne_eq, not_true_eq_false, not_false_eq_true, false_or, or_false, true_or, or_true, and_true, true_and, and_false, false_and, mI_e, mI_e2, mI_le, mI_le2, mI_lt, mI_lt2, mI_ok, bI_0n, bI_1n, bI_orn, Nat.mul_zero, Nat.zero_add, Nat.add_zero, c_no2, c_no3, c_no4, c_no5, c_no6, r_no2, r_no3, r_no4, r_no5, r_no6, zk_inR, zk_in2, zk_in3, zk_wiN, Nat.reduceAdd, zl_0, zl_1, zl_2, zl_3, zl_4, zl_5, zl_6, zl_7, zl_8, zl_9, zl_10, zl_12, zl_13, zl_14, zl_15, zl_16, zl_20, zl_32, zl_40, zl_48, zl_57, zl_59, zl_60, zl_63, zl_64, zl_97, zl_99, zl_101, zl_119, zl_120, zl_122, zl_128, zl_136, zl_152, zl_168, zl_184, zl_200, zl_201, zl_202, zl_203, zl_250, zl_255, zl_320, zl_999, zl_1000, hC.p, c_enoughOf hC hV (show i < 8 by omega), zm_or (show gS G ≤ 32 by omega)]
      exact ih
  have k2 := key (gP G) 0 ax_FU (by omega) (by unfold ax_FU; omega)
  rw [(zm_0 (f := fun s => zany (fun p => gE G p s) 0) (n := gS G) (by omega)).mpr (fun i _ => rfl)] at k2
  exact k2
theorem r_idle {m : ax_M} {G : zG} (hL : zL m G) (hV : zV G) : F_X11_idle m = some (zm (fun i => !zany (fun p => gE G p i) (gP G)) (gS G)) := by
  have hp := hV.p
  have hs := hV.s
  have inn : ∀ (K : Int32 → Option Int32) (a : Int32) (s : Nat) (hs2 : s < 16), F_X11_idle_L12 ax_FU K m a (nI s) (nI 0) (nI 0) = K (bI (zany (fun p => gE G p s) (gP G))) := by
    intro K a s hs2
    have key : ∀ k i n, i + k = gP G → k < n → F_X11_idle_L12 n K m a (nI s) (bI (zany (fun p => gE G p s) i)) (nI i) = K (bI (zany (fun p => gE G p s) (gP G))) := by
      refine zz_loop (gP G) (fun n => ?_) (fun n i hi ih => ?_)
      · rw [F_X11_idle_L12, hL.p, if_pos (Int32.le_refl _)]
      · rw [F_X11_idle_L12]
        simp (disch := omega) only [↓zl_m1, zz_leT, zz_leF, zz_ltT, zz_ltF, zz_eqT, zz_eqF, zz_okN, zz_okF, nI_clamp, nI_add, pk_mul, pk_sub, zz_bS, zz_b2S, if_true, if_false, Bool.true_eq_false, Bool.false_eq_true, eq_self, ne_eq, not_true_eq_false, not_false_eq_true, false_or, or_false, true_or, or_true, and_true, true_and, and_false, false_and, mI_e, mI_e2, mI_le, mI_le2, mI_lt, mI_lt2, mI_ok, bI_0n, bI_1n, bI_orn, Nat.mul_zero, Nat.zero_add, Nat.add_zero, c_no2, c_no3, c_no4, c_no5, c_no6, r_no2, r_no3, r_no4, r_no5, r_no6, zk_inR, zk_in2, zk_in3, zk_wiN, Nat.reduceAdd, zl_0, zl_1, zl_2, zl_3, zl_4, zl_5, zl_6, zl_7, zl_8, zl_9, zl_10, zl_12, zl_13, zl_14, zl_15, zl_16, zl_20, zl_32, zl_40, zl_48, zl_57, zl_59, zl_60, zl_63, zl_64, zl_97, zl_99, zl_101, zl_119, zl_120, zl_122, zl_128, zl_136, zl_152, zl_168, zl_184, zl_200, zl_201, zl_202, zl_203, zl_250, zl_255, zl_320, zl_999, zl_1000, hL.p, r_owesEnough hL hV (show i < 8 by omega) hs2]
        rw [zany] at ih
        cases e : gE G i s with
        | false => rw [e, Bool.or_false] at ih; rw [if_pos rfl]; exact ih
        | true => rw [e, Bool.or_true] at ih; rw [if_neg (by decide)]; exact ih
    exact key (gP G) 0 ax_FU (by omega) (by unfold ax_FU; omega)
  have key : ∀ k i n, i + k = gS G → k < n → F_X11_idle_L4 n m (zm (fun i => !zany (fun p => gE G p i) (gP G)) i) (nI i) = some (zm (fun i => !zany (fun p => gE G p i) (gP G)) (gS G)) := by
    refine zz_loop (gS G) (fun n => ?_) (fun n i hi ih => ?_)
    · rw [F_X11_idle_L4, hL.s, if_pos (Int32.le_refl _)]
    · rw [F_X11_idle_L4]
      have i1 := inn (fun y17 => if y17 = nI 0 then F_X11_idle_L4 n m (zm (fun i => !zany (fun p => gE G p i) (gP G)) i ||| ax_ishl (nI 1) (nI i)) (nI (i + 1)) else F_X11_idle_L4 n m (zm (fun i => !zany (fun p => gE G p i) (gP G)) i) (nI (i + 1))) (zm (fun i => !zany (fun p => gE G p i) (gP G)) i) i (by omega)
      simp (disch := omega) only [↓zl_m1, zz_leT, zz_leF, zz_ltT, zz_ltF, zz_eqT, zz_eqF, zz_okN, zz_okF, nI_clamp, nI_add, pk_mul, pk_sub, zz_bS, zz_b2S, if_true, if_false, Bool.true_eq_false, Bool.false_eq_true, eq_self, ne_eq, not_true_eq_false, not_false_eq_true, false_or, or_false, true_or, or_true, and_true, true_and, and_false, false_and, mI_e, mI_e2, mI_le, mI_le2, mI_lt, mI_lt2, mI_ok, bI_0n, bI_1n, bI_orn, Nat.mul_zero, Nat.zero_add, Nat.add_zero, c_no2, c_no3, c_no4, c_no5, c_no6, r_no2, r_no3, r_no4, r_no5, r_no6, zk_inR, zk_in2, zk_in3, zk_wiN, Nat.reduceAdd, zl_0, zl_1, zl_2, zl_3, zl_4, zl_5, zl_6, zl_7, zl_8, zl_9, zl_10, zl_12, zl_13, zl_14, zl_15, zl_16, zl_20, zl_32, zl_40, zl_48, zl_57, zl_59, zl_60, zl_63, zl_64, zl_97, zl_99, zl_101, zl_119, zl_120, zl_122, zl_128, zl_136, zl_152, zl_168, zl_184, zl_200, zl_201, zl_202, zl_203, zl_250, zl_255, zl_320, zl_999, zl_1000, hL.s]
      refine i1.trans ?_
      cases e : zany (fun p => gE G p i) (gP G) with
      | false =>
        rw [← zm_s (f := fun i => !zany (fun p => gE G p i) (gP G)) (by rw [e]; rfl)] at ih
        rw [if_pos (show bI false = nI 0 from rfl)]
        exact ih
      | true =>
        rw [zm_n (f := fun i => !zany (fun p => gE G p i) (gP G)) (by rw [e]; rfl)] at ih
        rw [if_neg (by decide)]
        exact ih
  exact key (gS G) 0 ax_FU (by omega) (by unfold ax_FU; omega)
theorem t_idle : zpz F_X10_idle F_X11_idle := fun _ _ h => ⟨_, c_idle h.2.1 h.1, r_idle h.2.2.1 h.1⟩
def gBe (c : Nat → Nat) : Nat → Nat
  | 0 => 0
  | n + 1 => if c (gBe c n) < c n then n else gBe c n
theorem gBe_lt (c : Nat → Nat) : ∀ n, 0 < n → gBe c n < n
  | 0, h => by omega
  | n + 1, _ => by
    rw [gBe]
    by_cases e : n = 0
    · subst e; simp [gBe]
    · have := gBe_lt c n (by omega)
      split <;> omega
def gCn (G : zG) (p : Nat) : Nat := zc (fun i => gUp G i p) (gS G)
theorem j_cn {G : zG} (hV : zV G) (p : Nat) : F_J6_bitCount_0f7a4 (zm (fun i => gUp G i p) (gS G)) = some (nI (gCn G p)) := by
  have := hV.s
  unfold gCn
  exact J_bitM (by omega)
theorem gCn_le {G : zG} (hV : zV G) (p : Nat) : gCn G p ≤ 16 := Nat.le_trans (zc_le _ _) hV.s
theorem c_worst {m : ax_M} {G : zG} (hC : zC m 0 G) (hV : zV G) : ∀ k i n, i + k = gP G → k < n → F_X10_worst_L14 n m (nI (gBe (gCn G) i)) (if i = 0 then mI else nI (gCn G (gBe (gCn G) i))) (nI i) = some (nI (gBe (gCn G) (gP G)), m) := by
  have hp := hV.p
  have hs := hV.s
  have hcl := gCn_le hV
  have kc : ∀ k i n, i + k = gP G → k < n → F_X10_worst_L14 n m (nI (gBe (gCn G) i)) (if i = 0 then mI else nI (gCn G (gBe (gCn G) i))) (nI i) = some (nI (gBe (gCn G) (gP G)), m) := by
    refine zz_loop (gP G) (fun n => ?_) (fun n i hi ih => ?_)
    · rw [F_X10_worst_L14, hC.p, if_pos (Int32.le_refl _)]
    · have c1 := hcl i
      have c2 := hcl (gBe (gCn G) i)
      rw [F_X10_worst_L14]
      rw [gBe, if_neg (show ¬ i + 1 = 0 by omega)] at ih
      have j1 := j_cn hV i
      by_cases e0 : i = 0
      · subst e0
        rw [show gBe (gCn G) 0 = 0 from rfl] at ih ⊢
        rw [if_neg (Nat.lt_irrefl _)] at ih
        rw [if_pos rfl]
        simp (disch := omega) only [↓zl_m1, zz_leT, zz_leF, zz_ltT, zz_ltF, zz_eqT, zz_eqF, zz_okN, zz_okF, nI_clamp, nI_add, pk_mul, pk_sub, zz_bS, zz_b2S, if_true, if_false, Bool.true_eq_false, Bool.false_eq_true, eq_self, ne_eq, not_true_eq_false, not_false_eq_true, false_or, or_false, true_or, or_true, and_true, true_and, and_false, false_and, mI_e, mI_e2, mI_le, mI_le2, mI_lt, mI_lt2, mI_ok, bI_0n, bI_1n, bI_orn, Nat.mul_zero, Nat.zero_add, Nat.add_zero, c_no2, c_no3, c_no4, c_no5, c_no6, r_no2, r_no3, r_no4, r_no5, r_no6, zk_inR, zk_in2, zk_in3, zk_wiN, Nat.reduceAdd, zl_0, zl_1, zl_2, zl_3, zl_4, zl_5, zl_6, zl_7, zl_8, zl_9, zl_10, zl_12, zl_13, zl_14, zl_15, zl_16, zl_20, zl_32, zl_40, zl_48, zl_57, zl_59, zl_60, zl_63, zl_64, zl_97, zl_99, zl_101, zl_119, zl_120, zl_122, zl_128, zl_136, zl_152, zl_168, zl_184, zl_200, zl_201, zl_202, zl_203, zl_250, zl_255, zl_320, zl_999, zl_1000, hC.p, c_shownBy hC hV (show 0 < 8 by omega), j1]
        exact ih
      · rw [if_neg e0]
        by_cases e2 : gCn G (gBe (gCn G) i) < gCn G i
        · rw [if_pos e2] at ih
          simp (disch := omega) only [↓zl_m1, zz_leT, zz_leF, zz_ltT, zz_ltF, zz_eqT, zz_eqF, zz_okN, zz_okF, nI_clamp, nI_add, pk_mul, pk_sub, zz_bS, zz_b2S, if_true, if_false, Bool.true_eq_false, Bool.false_eq_true, eq_self, ne_eq, not_true_eq_false, not_false_eq_true, false_or, or_false, true_or, or_true, and_true, true_and, and_false, false_and, mI_e, mI_e2, mI_le, mI_le2, mI_lt, mI_lt2, mI_ok, bI_0n, bI_1n, bI_orn, Nat.mul_zero, Nat.zero_add, Nat.add_zero, c_no2, c_no3, c_no4, c_no5, c_no6, r_no2, r_no3, r_no4, r_no5, r_no6, zk_inR, zk_in2, zk_in3, zk_wiN, Nat.reduceAdd, zl_0, zl_1, zl_2, zl_3, zl_4, zl_5, zl_6, zl_7, zl_8, zl_9, zl_10, zl_12, zl_13, zl_14, zl_15, zl_16, zl_20, zl_32, zl_40, zl_48, zl_57, zl_59, zl_60, zl_63, zl_64, zl_97, zl_99, zl_101, zl_119, zl_120, zl_122, zl_128, zl_136, zl_152, zl_168, zl_184, zl_200, zl_201, zl_202, zl_203, zl_250, zl_255, zl_320, zl_999, zl_1000, hC.p, c_shownBy hC hV (show i < 8 by omega), j1]
          exact ih
        · rw [if_neg e2] at ih
          simp (disch := omega) only [↓zl_m1, zz_leT, zz_leF, zz_ltT, zz_ltF, zz_eqT, zz_eqF, zz_okN, zz_okF, nI_clamp, nI_add, pk_mul, pk_sub, zz_bS, zz_b2S, if_true, if_false, Bool.true_eq_false, Bool.false_eq_true, eq_self, ne_eq, not_true_eq_false, not_false_eq_true, false_or, or_false, true_or, or_true, and_true, true_and, and_false, false_and, mI_e, mI_e2, mI_le, mI_le2, mI_lt, mI_lt2, mI_ok, bI_0n, bI_1n, bI_orn, Nat.mul_zero, Nat.zero_add, Nat.add_zero, c_no2, c_no3, c_no4, c_no5, c_no6, r_no2, r_no3, r_no4, r_no5, r_no6, zk_inR, zk_in2, zk_in3, zk_wiN, Nat.reduceAdd, zl_0, zl_1, zl_2, zl_3, zl_4, zl_5, zl_6, zl_7, zl_8, zl_9, zl_10, zl_12, zl_13, zl_14, zl_15, zl_16, zl_20, zl_32, zl_40, zl_48, zl_57, zl_59, zl_60, zl_63, zl_64, zl_97, zl_99, zl_101, zl_119, zl_120, zl_122, zl_128, zl_136, zl_152, zl_168, zl_184, zl_200, zl_201, zl_202, zl_203, zl_250, zl_255, zl_320, zl_999, zl_1000, hC.p, c_shownBy hC hV (show i < 8 by omega), j1]
          exact ih
  exact kc
theorem r_worst {m : ax_M} {G : zG} (hL : zL m G) (hV : zV G) : ∀ k i n, i + k = gP G → k < n → (0 < i → F_X11_worst_L11 n m (nI (gBe (gCn G) i)) (nI i) = some (nI (gBe (gCn G) (gP G)), m)) := by
  have hp := hV.p
  have hs := hV.s
  have hcl := gCn_le hV
  have kr : ∀ k i n, i + k = gP G → k < n → (0 < i → F_X11_worst_L11 n m (nI (gBe (gCn G) i)) (nI i) = some (nI (gBe (gCn G) (gP G)), m)) := by
    refine zz_loop (gP G) (fun n => ?_) (fun n i hi ih => ?_)
    · intro _; rw [F_X11_worst_L11, hL.p, if_pos (Int32.le_refl _)]
    · intro h0
      have c1 := hcl i
      have c2 := hcl (gBe (gCn G) i)
      have hb := gBe_lt (gCn G) i h0
      have ih := ih (by omega)
      rw [F_X11_worst_L11]
      rw [gBe] at ih
      have j1 := j_cn hV i
      have j2 := j_cn hV (gBe (gCn G) i)
      by_cases e2 : gCn G (gBe (gCn G) i) < gCn G i
      · rw [if_pos e2] at ih
        simp (disch := omega) only [↓zl_m1, zz_leT, zz_leF, zz_ltT, zz_ltF, zz_eqT, zz_eqF, zz_okN, zz_okF, nI_clamp, nI_add, pk_mul, pk_sub, zz_bS, zz_b2S, if_true, if_false, Bool.true_eq_false, Bool.false_eq_true, eq_self, ne_eq, not_true_eq_false, not_false_eq_true, false_or, or_false, true_or, or_true, and_true, true_and, and_false, false_and, mI_e, mI_e2, mI_le, mI_le2, mI_lt, mI_lt2, mI_ok, bI_0n, bI_1n, bI_orn, Nat.mul_zero, Nat.zero_add, Nat.add_zero, c_no2, c_no3, c_no4, c_no5, c_no6, r_no2, r_no3, r_no4, r_no5, r_no6, zk_inR, zk_in2, zk_in3, zk_wiN, Nat.reduceAdd, zl_0, zl_1, zl_2, zl_3, zl_4, zl_5, zl_6, zl_7, zl_8, zl_9, zl_10, zl_12, zl_13, zl_14, zl_15, zl_16, zl_20, zl_32, zl_40, zl_48, zl_57, zl_59, zl_60, zl_63, zl_64, zl_97, zl_99, zl_101, zl_119, zl_120, zl_122, zl_128, zl_136, zl_152, zl_168, zl_184, zl_200, zl_201, zl_202, zl_203, zl_250, zl_255, zl_320, zl_999, zl_1000, hL.p, r_upOf hL hV (show i < 8 by omega), r_upOf hL hV (show gBe (gCn G) i < 8 by omega), j1, j2]
        exact ih
      · rw [if_neg e2] at ih
        simp (disch := omega) only [↓zl_m1, zz_leT, zz_leF, zz_ltT, zz_ltF, zz_eqT, zz_eqF, zz_okN, zz_okF, nI_clamp, nI_add, pk_mul, pk_sub, zz_bS, zz_b2S, if_true, if_false, Bool.true_eq_false, Bool.false_eq_true, eq_self, ne_eq, not_true_eq_false, not_false_eq_true, false_or, or_false, true_or, or_true, and_true, true_and, and_false, false_and, mI_e, mI_e2, mI_le, mI_le2, mI_lt, mI_lt2, mI_ok, bI_0n, bI_1n, bI_orn, Nat.mul_zero, Nat.zero_add, Nat.add_zero, c_no2, c_no3, c_no4, c_no5, c_no6, r_no2, r_no3, r_no4, r_no5, r_no6, zk_inR, zk_in2, zk_in3, zk_wiN, Nat.reduceAdd, zl_0, zl_1, zl_2, zl_3, zl_4, zl_5, zl_6, zl_7, zl_8, zl_9, zl_10, zl_12, zl_13, zl_14, zl_15, zl_16, zl_20, zl_32, zl_40, zl_48, zl_57, zl_59, zl_60, zl_63, zl_64, zl_97, zl_99, zl_101, zl_119, zl_120, zl_122, zl_128, zl_136, zl_152, zl_168, zl_184, zl_200, zl_201, zl_202, zl_203, zl_250, zl_255, zl_320, zl_999, zl_1000, hL.p, r_upOf hL hV (show i < 8 by omega), r_upOf hL hV (show gBe (gCn G) i < 8 by omega), j1, j2]
        exact ih
  exact kr
theorem t_worst : zT F_X10_worst F_X11_worst := zT_of (fun m G h => by
  obtain ⟨hV, hC, hL, -⟩ := id h
  have hp := hV.p
  have hs := hV.s
  by_cases e : gP G = 0
  · exact zT_no 3 (by omega) (-nI 5) h (by unfold F_X10_worst; simp (disch := omega) only [↓zl_m1, zz_leT, zz_leF, zz_ltT, zz_ltF, zz_eqT, zz_eqF, zz_okN, zz_okF, nI_clamp, nI_add, pk_mul, pk_sub, zz_bS, zz_b2S, if_true, if_false, Bool.true_eq_false, Bool.false_eq_true, eq_self, ne_eq, not_true_eq_false, not_false_eq_true, false_or, or_false, true_or, or_true, and_true, true_and, and_false, false_and, mI_e, mI_e2, mI_le, mI_le2, mI_lt, mI_lt2, mI_ok, bI_0n, bI_1n, bI_orn, Nat.mul_zero, Nat.zero_add, Nat.add_zero, c_no2, c_no3, c_no4, c_no5, c_no6, r_no2, r_no3, r_no4, r_no5, r_no6, zk_inR, zk_in2, zk_in3, zk_wiN, Nat.reduceAdd, zl_0, zl_1, zl_2, zl_3, zl_4, zl_5, zl_6, zl_7, zl_8, zl_9, zl_10, zl_12, zl_13, zl_14, zl_15, zl_16, zl_20, zl_32, zl_40, zl_48, zl_57, zl_59, zl_60, zl_63, zl_64, zl_97, zl_99, zl_101, zl_119, zl_120, zl_122, zl_128, zl_136, zl_152, zl_168, zl_184, zl_200, zl_201, zl_202, zl_203, zl_250, zl_255, zl_320, zl_999, zl_1000, c_isPerson hC hV, c_isSeed hC hV, cs_isCell, c_isShelf, c_isPair hC hV, c_isKind, hC.p, e]) (fun m1 e1 hL1 => by unfold F_X11_worst; simp (disch := omega) only [↓zl_m1, zz_leT, zz_leF, zz_ltT, zz_ltF, zz_eqT, zz_eqF, zz_okN, zz_okF, nI_clamp, nI_add, pk_mul, pk_sub, zz_bS, zz_b2S, if_true, if_false, Bool.true_eq_false, Bool.false_eq_true, eq_self, ne_eq, not_true_eq_false, not_false_eq_true, false_or, or_false, true_or, or_true, and_true, true_and, and_false, false_and, mI_e, mI_e2, mI_le, mI_le2, mI_lt, mI_lt2, mI_ok, bI_0n, bI_1n, bI_orn, Nat.mul_zero, Nat.zero_add, Nat.add_zero, c_no2, c_no3, c_no4, c_no5, c_no6, r_no2, r_no3, r_no4, r_no5, r_no6, zk_inR, zk_in2, zk_in3, zk_wiN, Nat.reduceAdd, zl_0, zl_1, zl_2, zl_3, zl_4, zl_5, zl_6, zl_7, zl_8, zl_9, zl_10, zl_12, zl_13, zl_14, zl_15, zl_16, zl_20, zl_32, zl_40, zl_48, zl_57, zl_59, zl_60, zl_63, zl_64, zl_97, zl_99, zl_101, zl_119, zl_120, zl_122, zl_128, zl_136, zl_152, zl_168, zl_184, zl_200, zl_201, zl_202, zl_203, zl_250, zl_255, zl_320, zl_999, zl_1000, r_isOne hL1 hV, r_isSeed hL1 hV, cr_isCell, r_isShelf, r_areTwo hL1 hV, zk_wiN, hL1.p, e])
  · have b1 : gBe (gCn G) 1 = 0 := by have := gBe_lt (gCn G) 1 (by omega); omega
    refine zT_an (nI (gBe (gCn G) (gP G))) h ?_ ?_
    · have k2 := c_worst hC hV (gP G) 0 ax_FU (by omega) (by unfold ax_FU; omega)
      rw [if_pos rfl, show gBe (gCn G) 0 = 0 from rfl] at k2
      unfold F_X10_worst
      simp (disch := omega) only [↓zl_m1, zz_leT, zz_leF, zz_ltT, zz_ltF, zz_eqT, zz_eqF, zz_okN, zz_okF, nI_clamp, nI_add, pk_mul, pk_sub, zz_bS, zz_b2S, if_true, if_false, Bool.true_eq_false, Bool.false_eq_true, eq_self, ne_eq, not_true_eq_false, not_false_eq_true, false_or, or_false, true_or, or_true, and_true, true_and, and_false, false_and, mI_e, mI_e2, mI_le, mI_le2, mI_lt, mI_lt2, mI_ok, bI_0n, bI_1n, bI_orn, Nat.mul_zero, Nat.zero_add, Nat.add_zero, c_no2, c_no3, c_no4, c_no5, c_no6, r_no2, r_no3, r_no4, r_no5, r_no6, zk_inR, zk_in2, zk_in3, zk_wiN, Nat.reduceAdd, zl_0, zl_1, zl_2, zl_3, zl_4, zl_5, zl_6, zl_7, zl_8, zl_9, zl_10, zl_12, zl_13, zl_14, zl_15, zl_16, zl_20, zl_32, zl_40, zl_48, zl_57, zl_59, zl_60, zl_63, zl_64, zl_97, zl_99, zl_101, zl_119, zl_120, zl_122, zl_128, zl_136, zl_152, zl_168, zl_184, zl_200, zl_201, zl_202, zl_203, zl_250, zl_255, zl_320, zl_999, zl_1000, hC.p]
      exact k2
    · have k2 := r_worst hL hV (gP G - 1) 1 ax_FU (by omega) (by unfold ax_FU; omega) (by omega)
      rw [b1] at k2
      unfold F_X11_worst
      simp (disch := omega) only [↓zl_m1, zz_leT, zz_leF, zz_ltT, zz_ltF, zz_eqT, zz_eqF, zz_okN, zz_okF, nI_clamp, nI_add, pk_mul, pk_sub, zz_bS, zz_b2S, if_true, if_false, Bool.true_eq_false, Bool.false_eq_true, eq_self, ne_eq, not_true_eq_false, not_false_eq_true, false_or, or_false, true_or, or_true, and_true, true_and, and_false, false_and, mI_e, mI_e2, mI_le, mI_le2, mI_lt, mI_lt2, mI_ok, bI_0n, bI_1n, bI_orn, Nat.mul_zero, Nat.zero_add, Nat.add_zero, c_no2, c_no3, c_no4, c_no5, c_no6, r_no2, r_no3, r_no4, r_no5, r_no6, zk_inR, zk_in2, zk_in3, zk_wiN, Nat.reduceAdd, zl_0, zl_1, zl_2, zl_3, zl_4, zl_5, zl_6, zl_7, zl_8, zl_9, zl_10, zl_12, zl_13, zl_14, zl_15, zl_16, zl_20, zl_32, zl_40, zl_48, zl_57, zl_59, zl_60, zl_63, zl_64, zl_97, zl_99, zl_101, zl_119, zl_120, zl_122, zl_128, zl_136, zl_152, zl_168, zl_184, zl_200, zl_201, zl_202, zl_203, zl_250, zl_255, zl_320, zl_999, zl_1000, hL.p]
      exact k2)
def gNe (G : zG) (p : Nat) : Int32 := nI (gTo G p) - nI (gOw G p)
def gPo (G : zG) : Nat → Nat
  | 0 => 0
  | n + 1 => if gNe G (gPo G n) ≤ gNe G n then gPo G n else n
theorem gPo_lt (G : zG) : ∀ n, 0 < n → gPo G n < n
  | 0, h => by omega
  | n + 1, _ => by
    rw [gPo]
    by_cases e : n = 0
    · subst e; simp [gPo]
    · have := gPo_lt G n (by omega)
      split <;> omega
theorem t_poorest : zT F_X10_poorest F_X11_poorest := zT_of (fun m G h => by
  obtain ⟨hV, hC, hL, -⟩ := id h
  have hp := hV.p
  by_cases e : gP G = 0
  · exact zT_no 3 (by omega) (-nI 5) h (by unfold F_X10_poorest; simp (disch := omega) only [↓zl_m1, zz_leT, zz_leF, zz_ltT, zz_ltF, zz_eqT, zz_eqF, zz_okN, zz_okF, nI_clamp, nI_add, pk_mul, pk_sub, zz_bS, zz_b2S, if_true, if_false, Bool.true_eq_false, Bool.false_eq_true, eq_self, ne_eq, not_true_eq_false, not_false_eq_true, false_or, or_false, true_or, or_true, and_true, true_and, and_false, false_and, mI_e, mI_e2, mI_le, mI_le2, mI_lt, mI_lt2, mI_ok, bI_0n, bI_1n, bI_orn, Nat.mul_zero, Nat.zero_add, Nat.add_zero, c_no2, c_no3, c_no4, c_no5, c_no6, r_no2, r_no3, r_no4, r_no5, r_no6, zk_inR, zk_in2, zk_in3, zk_wiN, Nat.reduceAdd, zl_0, zl_1, zl_2, zl_3, zl_4, zl_5, zl_6, zl_7, zl_8, zl_9, zl_10, zl_12, zl_13, zl_14, zl_15, zl_16, zl_20, zl_32, zl_40, zl_48, zl_57, zl_59, zl_60, zl_63, zl_64, zl_97, zl_99, zl_101, zl_119, zl_120, zl_122, zl_128, zl_136, zl_152, zl_168, zl_184, zl_200, zl_201, zl_202, zl_203, zl_250, zl_255, zl_320, zl_999, zl_1000, c_isPerson hC hV, c_isSeed hC hV, cs_isCell, c_isShelf, c_isPair hC hV, c_isKind, hC.p, e]) (fun m1 e1 hL1 => by unfold F_X11_poorest; simp (disch := omega) only [↓zl_m1, zz_leT, zz_leF, zz_ltT, zz_ltF, zz_eqT, zz_eqF, zz_okN, zz_okF, nI_clamp, nI_add, pk_mul, pk_sub, zz_bS, zz_b2S, if_true, if_false, Bool.true_eq_false, Bool.false_eq_true, eq_self, ne_eq, not_true_eq_false, not_false_eq_true, false_or, or_false, true_or, or_true, and_true, true_and, and_false, false_and, mI_e, mI_e2, mI_le, mI_le2, mI_lt, mI_lt2, mI_ok, bI_0n, bI_1n, bI_orn, Nat.mul_zero, Nat.zero_add, Nat.add_zero, c_no2, c_no3, c_no4, c_no5, c_no6, r_no2, r_no3, r_no4, r_no5, r_no6, zk_inR, zk_in2, zk_in3, zk_wiN, Nat.reduceAdd, zl_0, zl_1, zl_2, zl_3, zl_4, zl_5, zl_6, zl_7, zl_8, zl_9, zl_10, zl_12, zl_13, zl_14, zl_15, zl_16, zl_20, zl_32, zl_40, zl_48, zl_57, zl_59, zl_60, zl_63, zl_64, zl_97, zl_99, zl_101, zl_119, zl_120, zl_122, zl_128, zl_136, zl_152, zl_168, zl_184, zl_200, zl_201, zl_202, zl_203, zl_250, zl_255, zl_320, zl_999, zl_1000, r_isOne hL1 hV, r_isSeed hL1 hV, cr_isCell, r_isShelf, r_areTwo hL1 hV, zk_wiN, hL1.p, e])
  · have kc : ∀ k i n, i + k = gP G → k < n → (0 < i → F_X10_poorest_L12 n m (nI (gPo G i)) (nI i) = some (nI (gPo G (gP G)), m) ∧ F_X11_poorest_L11 n m (nI (gPo G i)) (nI i) = some (nI (gPo G (gP G)), m)) := by
      refine zz_loop (gP G) (fun n => ?_) (fun n i hi ih => ?_)
      · intro _; rw [F_X10_poorest_L12, F_X11_poorest_L11, hC.p, hL.p, if_pos (Int32.le_refl _), if_pos (Int32.le_refl _)]; exact ⟨rfl, rfl⟩
      · intro h0
        have hb := gPo_lt G i h0
        have ih := ih (by omega)
        rw [F_X10_poorest_L12, F_X11_poorest_L11]
        rw [gPo] at ih
        simp (disch := omega) only [↓zl_m1, zz_leT, zz_leF, zz_ltT, zz_ltF, zz_eqT, zz_eqF, zz_okN, zz_okF, nI_clamp, nI_add, pk_mul, pk_sub, zz_bS, zz_b2S, if_true, if_false, Bool.true_eq_false, Bool.false_eq_true, eq_self, ne_eq, not_true_eq_false, not_false_eq_true, false_or, or_false, true_or, or_true, and_true, true_and, and_false, false_and, mI_e, mI_e2, mI_le, mI_le2, mI_lt, mI_lt2, mI_ok, bI_0n, bI_1n, bI_orn, Nat.mul_zero, Nat.zero_add, Nat.add_zero, c_no2, c_no3, c_no4, c_no5, c_no6, r_no2, r_no3, r_no4, r_no5, r_no6, zk_inR, zk_in2, zk_in3, zk_wiN, Nat.reduceAdd, zl_0, zl_1, zl_2, zl_3, zl_4, zl_5, zl_6, zl_7, zl_8, zl_9, zl_10, zl_12, zl_13, zl_14, zl_15, zl_16, zl_20, zl_32, zl_40, zl_48, zl_57, zl_59, zl_60, zl_63, zl_64, zl_97, zl_99, zl_101, zl_119, zl_120, zl_122, zl_128, zl_136, zl_152, zl_168, zl_184, zl_200, zl_201, zl_202, zl_203, zl_250, zl_255, zl_320, zl_999, zl_1000, hC.p, hL.p]
        rw [c_balance hC (show i < 8 by omega), c_balance hC (show gPo G i < 8 by omega), r_netOf hL hV (show i < 8 by omega), r_netOf hL hV (show gPo G i < 8 by omega), zz_bS, zz_bS, zz_bS, zz_bS]
        by_cases e2 : gNe G (gPo G i) ≤ gNe G i
        · rw [if_pos e2] at ih
          unfold gNe at e2
          rw [if_pos e2, if_pos e2]
          exact ih
        · rw [if_neg e2] at ih
          unfold gNe at e2
          rw [if_neg e2, if_neg e2]
          exact ih
    have b1 : gPo G 1 = 0 := by have := gPo_lt G 1 (by omega); omega
    have k2 := kc (gP G - 1) 1 ax_FU (by omega) (by unfold ax_FU; omega) (by omega)
    rw [b1] at k2
    refine zT_an (nI (gPo G (gP G))) h ?_ ?_
    · unfold F_X10_poorest
      simp (disch := omega) only [↓zl_m1, zz_leT, zz_leF, zz_ltT, zz_ltF, zz_eqT, zz_eqF, zz_okN, zz_okF, nI_clamp, nI_add, pk_mul, pk_sub, zz_bS, zz_b2S, if_true, if_false, Bool.true_eq_false, Bool.false_eq_true, eq_self, ne_eq, not_true_eq_false, not_false_eq_true, false_or, or_false, true_or, or_true, and_true, true_and, and_false, false_and, mI_e, mI_e2, mI_le, mI_le2, mI_lt, mI_lt2, mI_ok, bI_0n, bI_1n, bI_orn, Nat.mul_zero, Nat.zero_add, Nat.add_zero, c_no2, c_no3, c_no4, c_no5, c_no6, r_no2, r_no3, r_no4, r_no5, r_no6, zk_inR, zk_in2, zk_in3, zk_wiN, Nat.reduceAdd, zl_0, zl_1, zl_2, zl_3, zl_4, zl_5, zl_6, zl_7, zl_8, zl_9, zl_10, zl_12, zl_13, zl_14, zl_15, zl_16, zl_20, zl_32, zl_40, zl_48, zl_57, zl_59, zl_60, zl_63, zl_64, zl_97, zl_99, zl_101, zl_119, zl_120, zl_122, zl_128, zl_136, zl_152, zl_168, zl_184, zl_200, zl_201, zl_202, zl_203, zl_250, zl_255, zl_320, zl_999, zl_1000, hC.p]
      exact k2.1
    · unfold F_X11_poorest
      simp (disch := omega) only [↓zl_m1, zz_leT, zz_leF, zz_ltT, zz_ltF, zz_eqT, zz_eqF, zz_okN, zz_okF, nI_clamp, nI_add, pk_mul, pk_sub, zz_bS, zz_b2S, if_true, if_false, Bool.true_eq_false, Bool.false_eq_true, eq_self, ne_eq, not_true_eq_false, not_false_eq_true, false_or, or_false, true_or, or_true, and_true, true_and, and_false, false_and, mI_e, mI_e2, mI_le, mI_le2, mI_lt, mI_lt2, mI_ok, bI_0n, bI_1n, bI_orn, Nat.mul_zero, Nat.zero_add, Nat.add_zero, c_no2, c_no3, c_no4, c_no5, c_no6, r_no2, r_no3, r_no4, r_no5, r_no6, zk_inR, zk_in2, zk_in3, zk_wiN, Nat.reduceAdd, zl_0, zl_1, zl_2, zl_3, zl_4, zl_5, zl_6, zl_7, zl_8, zl_9, zl_10, zl_12, zl_13, zl_14, zl_15, zl_16, zl_20, zl_32, zl_40, zl_48, zl_57, zl_59, zl_60, zl_63, zl_64, zl_97, zl_99, zl_101, zl_119, zl_120, zl_122, zl_128, zl_136, zl_152, zl_168, zl_184, zl_200, zl_201, zl_202, zl_203, zl_250, zl_255, zl_320, zl_999, zl_1000, hL.p]
      exact k2.2)
