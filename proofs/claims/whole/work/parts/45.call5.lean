/-! CALLS, fifth: guess, mutual, strike -/
def gSh (G : zG) (i : Nat) : Bool := zany (gUp G i) (gP G)
def gOt (G : zG) (i x y : Nat) : Bool := zany (fun p => gN G (gO G p) i && !(decide (p = x) || decide (p = y))) (gP G)
def gMay (G : zG) (x y n : Nat) : Bool := !zany (fun i => gT G i x y && !gSh G i) n
def gSure (G : zG) (x y n : Nat) : Bool := zany (fun i => (gT G i x y && gSh G i) && !gOt G i x y) n
section
variable {m : ax_M} {g : Nat} {G : zG}
theorem c_mayOwe (h : zC m g G) (hV : zV G) {x y : Nat} (hx : x < 8) (hy : y < 8) : F_X3_mayOwe m g (nI x) (nI y) = some (bI (gMay G x y (gS G))) := by
  have hs := hV.s
  unfold F_X3_mayOwe
  rw [c_telltales h hV hx hy, zz_bS, c_shown h hV, zz_bS, zm_andn (by omega)]
  simp (disch := omega) only [↓zl_m1, zz_leT, zz_leF, zz_ltT, zz_ltF, zz_eqT, zz_eqF, zz_okN, zz_okF, nI_clamp, nI_add, pk_mul, pk_sub, zz_bS, zz_b2S, if_true, if_false, Bool.true_eq_false, Bool.false_eq_true, eq_self, ne_eq, not_true_eq_false, not_false_eq_true, false_or, or_false, true_or, or_true, and_true, true_and, and_false, false_and, mI_e, mI_e2, mI_le, mI_le2, mI_lt, mI_lt2, mI_ok, bI_0n, bI_1n, bI_orn, Nat.mul_zero, Nat.zero_add, Nat.add_zero, c_no2, c_no3, c_no4, c_no5, c_no6, r_no2, r_no3, r_no4, r_no5, r_no6, zk_inR, zk_in2, zk_in3, zk_wiN, Nat.reduceAdd, zl_0, zl_1, zl_2, zl_3, zl_4, zl_5, zl_6, zl_7, zl_8, zl_9, zl_10, zl_12, zl_13, zl_14, zl_15, zl_16, zl_20, zl_32, zl_40, zl_48, zl_57, zl_59, zl_60, zl_63, zl_64, zl_97, zl_99, zl_101, zl_119, zl_120, zl_122, zl_128, zl_136, zl_152, zl_168, zl_184, zl_200, zl_201, zl_202, zl_203, zl_250, zl_255, zl_320, zl_999, zl_1000, zm_any (show gS G ≤ 32 by omega)]
  show (if zany (fun i => gT G i x y && !gSh G i) (gS G) = false then _ else _) = _
  unfold gMay
  cases zany (fun i => gT G i x y && !gSh G i) (gS G) <;> rfl
theorem zm_aside {f : Nat → Bool} {n x y : Nat} (hn : n ≤ 32) (hx : x < 32) (hy : y < 32) : zm f n &&& ((ax_ishl (nI 1) (nI x) ||| ax_ishl (nI 1) (nI y)) ^^^ mI) = zm (fun p => f p && !(decide (p = x) || decide (p = y))) n := zm_of hn (fun j hj => by
  rw [b_and, zm_bt f n hn]
  show ((decide (j < n) && f j) && bt ((ax_ishl 1 (nI x) ||| ax_ishl 1 (nI y)) ^^^ (-1)) j) = _
  rw [b_not hj, b_or, bt_one hx, bt_one hy, Bool.and_assoc])
theorem c_surelyOwes (h : zC m g G) (hV : zV G) {x y : Nat} (hx : x < 8) (hy : y < 8) : F_X3_surelyOwes m g (nI x) (nI y) = some (bI (gSure G x y (gS G))) := by
  have hs := hV.s
  have hp := hV.p
  have key : ∀ k i n, i + k = gS G → k < n → (gSure G x y i = false → F_X3_surelyOwes_L18 n m g (zm (fun i => gT G i x y && gSh G i) (gS G)) (ax_ishl (nI 1) (nI x) ||| ax_ishl (nI 1) (nI y)) (nI i) = some (bI (gSure G x y (gS G)))) := by
    refine zz_loop (gS G) (fun n => ?_) (fun n i hi ih => ?_)
    · intro h0; rw [F_X3_surelyOwes_L18, h.s, if_pos (Int32.le_refl _), h0]; rfl
    · intro h0
      rw [F_X3_surelyOwes_L18]
      cases e : (gT G i x y && gSh G i) with
      | false =>
        simp (disch := omega) only [↓zl_m1, zz_leT, zz_leF, zz_ltT, zz_ltF, zz_eqT, zz_eqF, zz_okN, zz_okF, nI_clamp, nI_add, pk_mul, pk_sub, zz_bS, zz_b2S, if_true, if_false, Bool.true_eq_false, Bool.false_eq_true, eq_self, ne_eq, not_true_eq_false, not_false_eq_true, false_or, or_false, true_or, or_true, and_true, true_and, and_false, false_and, mI_e, mI_e2, mI_le, mI_le2, mI_lt, mI_lt2, mI_ok, bI_0n, bI_1n, bI_orn, Nat.mul_zero, Nat.zero_add, Nat.add_zero, c_no2, c_no3, c_no4, c_no5, c_no6, r_no2, r_no3, r_no4, r_no5, r_no6, zk_inR, zk_in2, zk_in3, zk_wiN, Nat.reduceAdd, zl_0, zl_1, zl_2, zl_3, zl_4, zl_5, zl_6, zl_7, zl_8, zl_9, zl_10, zl_12, zl_13, zl_14, zl_15, zl_16, zl_20, zl_32, zl_40, zl_48, zl_57, zl_59, zl_60, zl_63, zl_64, zl_97, zl_99, zl_101, zl_119, zl_120, zl_122, zl_128, zl_136, zl_152, zl_168, zl_184, zl_200, zl_201, zl_202, zl_203, zl_250, zl_255, zl_320, zl_999, zl_1000, h.s, zm_u (show gS G ≤ 32 by omega) hi, e]
        exact ih (by show (gSure G x y i || ((gT G i x y && gSh G i) && !gOt G i x y)) = false; rw [h0, e]; rfl)
      | true =>
        simp (disch := omega) only [↓zl_m1, zz_leT, zz_leF, zz_ltT, zz_ltF, zz_eqT, zz_eqF, zz_okN, zz_okF, nI_clamp, nI_add, pk_mul, pk_sub, zz_bS, zz_b2S, if_true, if_false, Bool.true_eq_false, Bool.false_eq_true, eq_self, ne_eq, not_true_eq_false, not_false_eq_true, false_or, or_false, true_or, or_true, and_true, true_and, and_false, false_and, mI_e, mI_e2, mI_le, mI_le2, mI_lt, mI_lt2, mI_ok, bI_0n, bI_1n, bI_orn, Nat.mul_zero, Nat.zero_add, Nat.add_zero, c_no2, c_no3, c_no4, c_no5, c_no6, r_no2, r_no3, r_no4, r_no5, r_no6, zk_inR, zk_in2, zk_in3, zk_wiN, Nat.reduceAdd, zl_0, zl_1, zl_2, zl_3, zl_4, zl_5, zl_6, zl_7, zl_8, zl_9, zl_10, zl_12, zl_13, zl_14, zl_15, zl_16, zl_20, zl_32, zl_40, zl_48, zl_57, zl_59, zl_60, zl_63, zl_64, zl_97, zl_99, zl_101, zl_119, zl_120, zl_122, zl_128, zl_136, zl_152, zl_168, zl_184, zl_200, zl_201, zl_202, zl_203, zl_250, zl_255, zl_320, zl_999, zl_1000, h.s, zm_u (show gS G ≤ 32 by omega) hi, e, c_zone h hV (show i < 16 by omega), c_peopleWithin h hV, zm_aside (show gP G ≤ 32 by omega) (show x < 32 by omega) (show y < 32 by omega), zm_any (show gP G ≤ 32 by omega)]
        show (if gOt G i x y = false then _ else _) = _
        cases e2 : gOt G i x y with
        | false =>
          rw [if_pos rfl, show gSure G x y (gS G) = true from zany_t.mpr ⟨i, hi, by show ((gT G i x y && gSh G i) && !gOt G i x y) = true; rw [e, e2]; rfl⟩]
          rfl
        | true =>
          rw [if_neg (by decide)]
          exact ih (by show (gSure G x y i || ((gT G i x y && gSh G i) && !gOt G i x y)) = false; rw [h0, e, e2]; rfl)
  unfold F_X3_surelyOwes
  rw [c_telltales h hV hx hy, zz_bS, c_shown h hV, zz_bS, zm_and (by omega)]
  exact key (gS G) 0 ax_FU (by omega) (by unfold ax_FU; omega) rfl
theorem r_guessL (hL : zL m G) (hV : zV G) {x y : Nat} (hx : x < 8) (hy : y < 8) (w : Int32) : F_X11_guess_L20 ax_FU m (nI x) (nI y) w (nI 1) (nI 0) (nI 0) = some (if w = nI 0 then bI (gMay G x y (gS G)) else bI (gSure G x y (gS G)), m) := by
  have hs := hV.s
  have hp := hV.p
  have inn : ∀ (K : ax_M → Int32 → Option (Int32 × ax_M)) (a b : Int32) (s : Nat), s < 16 → F_X11_guess_L54 ax_FU K m (nI x) (nI y) w a b (nI s) (nI 0) (nI 0) = K m (bI (gOt G s x y)) := by
    intro K a b s hs2
    have key : ∀ k i n, i + k = gP G → k < n → F_X11_guess_L54 n K m (nI x) (nI y) w a b (nI s) (bI (zany (fun p => gN G (gO G p) s && !(decide (p = x) || decide (p = y))) i)) (nI i) = K m (bI (gOt G s x y)) := by
      refine zz_loop (gP G) (fun n => ?_) (fun n i hi ih => ?_)
      · rw [F_X11_guess_L54, hL.p, if_pos (Int32.le_refl _)]; rfl
      · have hi8 : i < 8 := by omega
        have ho := hV.o hi8
        have hc := hV.c hs2
        have hf := zfar_le ho hc
        have hr := zrc_le (gK G s)
        rw [F_X11_guess_L54]
        rw [zany] at ih
        by_cases e1 : i = x
        · simp (disch := omega) only [↓zl_m1, zz_leT, zz_leF, zz_ltT, zz_ltF, zz_eqT, zz_eqF, zz_okN, zz_okF, nI_clamp, nI_add, pk_mul, pk_sub, zz_bS, zz_b2S, if_true, if_false, Bool.true_eq_false, Bool.false_eq_true, eq_self, ne_eq, not_true_eq_false, not_false_eq_true, false_or, or_false, true_or, or_true, and_true, true_and, and_false, false_and, mI_e, mI_e2, mI_le, mI_le2, mI_lt, mI_lt2, mI_ok, bI_0n, bI_1n, bI_orn, Nat.mul_zero, Nat.zero_add, Nat.add_zero, c_no2, c_no3, c_no4, c_no5, c_no6, r_no2, r_no3, r_no4, r_no5, r_no6, zk_inR, zk_in2, zk_in3, zk_wiN, Nat.reduceAdd, zl_0, zl_1, zl_2, zl_3, zl_4, zl_5, zl_6, zl_7, zl_8, zl_9, zl_10, zl_12, zl_13, zl_14, zl_15, zl_16, zl_20, zl_32, zl_40, zl_48, zl_57, zl_59, zl_60, zl_63, zl_64, zl_97, zl_99, zl_101, zl_119, zl_120, zl_122, zl_128, zl_136, zl_152, zl_168, zl_184, zl_200, zl_201, zl_202, zl_203, zl_250, zl_255, zl_320, zl_999, zl_1000, hL.p, e1]
          rw [e1, decide_eq_true rfl, Bool.true_or, Bool.not_true, Bool.and_false, Bool.or_false] at ih
          rw [← e1] at ih ⊢
          exact ih
        · by_cases e2 : i = y
          · simp (disch := omega) only [↓zl_m1, zz_leT, zz_leF, zz_ltT, zz_ltF, zz_eqT, zz_eqF, zz_okN, zz_okF, nI_clamp, nI_add, pk_mul, pk_sub, zz_bS, zz_b2S, if_true, if_false, Bool.true_eq_false, Bool.false_eq_true, eq_self, ne_eq, not_true_eq_false, not_false_eq_true, false_or, or_false, true_or, or_true, and_true, true_and, and_false, false_and, mI_e, mI_e2, mI_le, mI_le2, mI_lt, mI_lt2, mI_ok, bI_0n, bI_1n, bI_orn, Nat.mul_zero, Nat.zero_add, Nat.add_zero, c_no2, c_no3, c_no4, c_no5, c_no6, r_no2, r_no3, r_no4, r_no5, r_no6, zk_inR, zk_in2, zk_in3, zk_wiN, Nat.reduceAdd, zl_0, zl_1, zl_2, zl_3, zl_4, zl_5, zl_6, zl_7, zl_8, zl_9, zl_10, zl_12, zl_13, zl_14, zl_15, zl_16, zl_20, zl_32, zl_40, zl_48, zl_57, zl_59, zl_60, zl_63, zl_64, zl_97, zl_99, zl_101, zl_119, zl_120, zl_122, zl_128, zl_136, zl_152, zl_168, zl_184, zl_200, zl_201, zl_202, zl_203, zl_250, zl_255, zl_320, zl_999, zl_1000, hL.p, e2]
            rw [e2, decide_eq_true rfl, Bool.or_true, Bool.not_true, Bool.and_false, Bool.or_false] at ih
            rw [← e2] at ih ⊢
            exact ih
          · rw [decide_eq_false e1, decide_eq_false e2, Bool.or_false, Bool.not_false, Bool.and_true] at ih
            by_cases e3 : zfar (gO G i) (gC G s) ≤ zrc (gK G s)
            · simp (disch := omega) only [↓zl_m1, zz_leT, zz_leF, zz_ltT, zz_ltF, zz_eqT, zz_eqF, zz_okN, zz_okF, nI_clamp, nI_add, pk_mul, pk_sub, zz_bS, zz_b2S, if_true, if_false, Bool.true_eq_false, Bool.false_eq_true, eq_self, ne_eq, not_true_eq_false, not_false_eq_true, false_or, or_false, true_or, or_true, and_true, true_and, and_false, false_and, mI_e, mI_e2, mI_le, mI_le2, mI_lt, mI_lt2, mI_ok, bI_0n, bI_1n, bI_orn, Nat.mul_zero, Nat.zero_add, Nat.add_zero, c_no2, c_no3, c_no4, c_no5, c_no6, r_no2, r_no3, r_no4, r_no5, r_no6, zk_inR, zk_in2, zk_in3, zk_wiN, Nat.reduceAdd, zl_0, zl_1, zl_2, zl_3, zl_4, zl_5, zl_6, zl_7, zl_8, zl_9, zl_10, zl_12, zl_13, zl_14, zl_15, zl_16, zl_20, zl_32, zl_40, zl_48, zl_57, zl_59, zl_60, zl_63, zl_64, zl_97, zl_99, zl_101, zl_119, zl_120, zl_122, zl_128, zl_136, zl_152, zl_168, zl_184, zl_200, zl_201, zl_202, zl_203, zl_250, zl_255, zl_320, zl_999, zl_1000, hL.p, hL.o hi8, hL.c hs2, r_far ho hc, r_reachOf hL hs2 hV]
              rw [show gN G (gO G i) s = true from decide_eq_true e3, Bool.or_true] at ih
              exact ih
            · simp (disch := omega) only [↓zl_m1, zz_leT, zz_leF, zz_ltT, zz_ltF, zz_eqT, zz_eqF, zz_okN, zz_okF, nI_clamp, nI_add, pk_mul, pk_sub, zz_bS, zz_b2S, if_true, if_false, Bool.true_eq_false, Bool.false_eq_true, eq_self, ne_eq, not_true_eq_false, not_false_eq_true, false_or, or_false, true_or, or_true, and_true, true_and, and_false, false_and, mI_e, mI_e2, mI_le, mI_le2, mI_lt, mI_lt2, mI_ok, bI_0n, bI_1n, bI_orn, Nat.mul_zero, Nat.zero_add, Nat.add_zero, c_no2, c_no3, c_no4, c_no5, c_no6, r_no2, r_no3, r_no4, r_no5, r_no6, zk_inR, zk_in2, zk_in3, zk_wiN, Nat.reduceAdd, zl_0, zl_1, zl_2, zl_3, zl_4, zl_5, zl_6, zl_7, zl_8, zl_9, zl_10, zl_12, zl_13, zl_14, zl_15, zl_16, zl_20, zl_32, zl_40, zl_48, zl_57, zl_59, zl_60, zl_63, zl_64, zl_97, zl_99, zl_101, zl_119, zl_120, zl_122, zl_128, zl_136, zl_152, zl_168, zl_184, zl_200, zl_201, zl_202, zl_203, zl_250, zl_255, zl_320, zl_999, zl_1000, hL.p, hL.o hi8, hL.c hs2, r_far ho hc, r_reachOf hL hs2 hV]
              rw [show gN G (gO G i) s = false from decide_eq_false e3, Bool.or_false] at ih
              exact ih
    exact key (gP G) 0 ax_FU (by omega) (by unfold ax_FU; omega)
  have key : ∀ k i n, i + k = gS G → k < n → F_X11_guess_L20 n m (nI x) (nI y) w (bI (gMay G x y i)) (bI (gSure G x y i)) (nI i) = some (if w = nI 0 then bI (gMay G x y (gS G)) else bI (gSure G x y (gS G)), m) := by
    refine zz_loop (gS G) (fun n => ?_) (fun n i hi ih => ?_)
    · rw [F_X11_guess_L20, hL.s, if_pos (Int32.le_refl _)]
      by_cases e : w = nI 0
      · rw [if_pos e, if_pos (show w = 0 from e)]
      · rw [if_neg e, if_neg (show ¬ w = 0 from e)]
    · have hi2 : i < 16 := by omega
      have hk := hV.k hi2
      have hr := hV.r hi2
      have ho := hV.o hx
      have hc := hV.c hi2
      have hf := zfar_le ho hc
      have hrc := zrc_le (gK G i)
      have u1 : gMay G x y (i + 1) = (gMay G x y i && !(gT G i x y && !gSh G i)) := by show (!(zany _ i || _)) = _; rw [Bool.not_or]; rfl
      have u2 : gSure G x y (i + 1) = (gSure G x y i || ((gT G i x y && gSh G i) && !gOt G i x y)) := rfl
      rw [u1, u2] at ih
      rw [F_X11_guess_L20]
      have skip : gT G i x y = false → F_X11_guess_L20 n m (nI x) (nI y) w (bI (gMay G x y i)) (bI (gSure G x y i)) (nI (i + 1)) = some (if w = nI 0 then bI (gMay G x y (gS G)) else bI (gSure G x y (gS G)), m) := by
        intro hT
        rw [hT, Bool.false_and, Bool.false_and, Bool.false_and, Bool.not_false, Bool.and_true, Bool.or_false] at ih
        exact ih
      by_cases e1 : gR G i = y
      · by_cases e2 : gK G i ≤ 2
        · by_cases e3 : zfar (gO G x) (gC G i) ≤ zrc (gK G i)
          · have hT : gT G i x y = true := by unfold gT; rw [show gN G (gO G x) i = true from decide_eq_true e3, decide_eq_true e1, decide_eq_true e2]; rfl
            simp (disch := omega) only [↓zl_m1, zz_leT, zz_leF, zz_ltT, zz_ltF, zz_eqT, zz_eqF, zz_okN, zz_okF, nI_clamp, nI_add, pk_mul, pk_sub, zz_bS, zz_b2S, if_true, if_false, Bool.true_eq_false, Bool.false_eq_true, eq_self, ne_eq, not_true_eq_false, not_false_eq_true, false_or, or_false, true_or, or_true, and_true, true_and, and_false, false_and, mI_e, mI_e2, mI_le, mI_le2, mI_lt, mI_lt2, mI_ok, bI_0n, bI_1n, bI_orn, Nat.mul_zero, Nat.zero_add, Nat.add_zero, c_no2, c_no3, c_no4, c_no5, c_no6, r_no2, r_no3, r_no4, r_no5, r_no6, zk_inR, zk_in2, zk_in3, zk_wiN, Nat.reduceAdd, zl_0, zl_1, zl_2, zl_3, zl_4, zl_5, zl_6, zl_7, zl_8, zl_9, zl_10, zl_12, zl_13, zl_14, zl_15, zl_16, zl_20, zl_32, zl_40, zl_48, zl_57, zl_59, zl_60, zl_63, zl_64, zl_97, zl_99, zl_101, zl_119, zl_120, zl_122, zl_128, zl_136, zl_152, zl_168, zl_184, zl_200, zl_201, zl_202, zl_203, zl_250, zl_255, zl_320, zl_999, zl_1000, hL.s, hL.r hi2, hL.k hi2, hL.o hx, hL.c hi2, r_far ho hc, r_reachOf hL hi2 hV, e1, inn _ _ _ _ hi2, r_byOf hL hV hi2, zm_any (show gP G ≤ 32 by omega)]
            rw [hT, Bool.true_and, Bool.true_and] at ih
            show (if gSh G i = false then _ else if gOt G i x y = false then _ else _) = _
            cases e4 : gSh G i with
            | false =>
              rw [e4] at ih
              rw [if_pos rfl]
              have q : (gMay G x y i && !(!false)) = false := by cases gMay G x y i <;> rfl
              rw [q, Bool.false_and, Bool.or_false] at ih
              exact ih
            | true =>
              rw [e4] at ih
              rw [if_neg (by decide)]
              rw [Bool.not_true, Bool.not_false, Bool.and_true, Bool.true_and] at ih
              cases e5 : gOt G i x y with
              | false =>
                rw [e5, Bool.not_false, Bool.or_true] at ih
                rw [if_pos rfl]
                exact ih
              | true =>
                rw [e5, Bool.not_true, Bool.or_false] at ih
                rw [if_neg (by decide)]
                exact ih
          · simp (disch := omega) only [↓zl_m1, zz_leT, zz_leF, zz_ltT, zz_ltF, zz_eqT, zz_eqF, zz_okN, zz_okF, nI_clamp, nI_add, pk_mul, pk_sub, zz_bS, zz_b2S, if_true, if_false, Bool.true_eq_false, Bool.false_eq_true, eq_self, ne_eq, not_true_eq_false, not_false_eq_true, false_or, or_false, true_or, or_true, and_true, true_and, and_false, false_and, mI_e, mI_e2, mI_le, mI_le2, mI_lt, mI_lt2, mI_ok, bI_0n, bI_1n, bI_orn, Nat.mul_zero, Nat.zero_add, Nat.add_zero, c_no2, c_no3, c_no4, c_no5, c_no6, r_no2, r_no3, r_no4, r_no5, r_no6, zk_inR, zk_in2, zk_in3, zk_wiN, Nat.reduceAdd, zl_0, zl_1, zl_2, zl_3, zl_4, zl_5, zl_6, zl_7, zl_8, zl_9, zl_10, zl_12, zl_13, zl_14, zl_15, zl_16, zl_20, zl_32, zl_40, zl_48, zl_57, zl_59, zl_60, zl_63, zl_64, zl_97, zl_99, zl_101, zl_119, zl_120, zl_122, zl_128, zl_136, zl_152, zl_168, zl_184, zl_200, zl_201, zl_202, zl_203, zl_250, zl_255, zl_320, zl_999, zl_1000, hL.s, hL.r hi2, hL.k hi2, hL.o hx, hL.c hi2, r_far ho hc, r_reachOf hL hi2 hV, e1]
            exact skip (by unfold gT; rw [show gN G (gO G x) i = false from decide_eq_false e3]; rfl)
        · simp (disch := omega) only [↓zl_m1, zz_leT, zz_leF, zz_ltT, zz_ltF, zz_eqT, zz_eqF, zz_okN, zz_okF, nI_clamp, nI_add, pk_mul, pk_sub, zz_bS, zz_b2S, if_true, if_false, Bool.true_eq_false, Bool.false_eq_true, eq_self, ne_eq, not_true_eq_false, not_false_eq_true, false_or, or_false, true_or, or_true, and_true, true_and, and_false, false_and, mI_e, mI_e2, mI_le, mI_le2, mI_lt, mI_lt2, mI_ok, bI_0n, bI_1n, bI_orn, Nat.mul_zero, Nat.zero_add, Nat.add_zero, c_no2, c_no3, c_no4, c_no5, c_no6, r_no2, r_no3, r_no4, r_no5, r_no6, zk_inR, zk_in2, zk_in3, zk_wiN, Nat.reduceAdd, zl_0, zl_1, zl_2, zl_3, zl_4, zl_5, zl_6, zl_7, zl_8, zl_9, zl_10, zl_12, zl_13, zl_14, zl_15, zl_16, zl_20, zl_32, zl_40, zl_48, zl_57, zl_59, zl_60, zl_63, zl_64, zl_97, zl_99, zl_101, zl_119, zl_120, zl_122, zl_128, zl_136, zl_152, zl_168, zl_184, zl_200, zl_201, zl_202, zl_203, zl_250, zl_255, zl_320, zl_999, zl_1000, hL.s, hL.r hi2, hL.k hi2, e1]
          exact skip (by unfold gT; rw [decide_eq_false e2, Bool.and_false, Bool.and_false])
      · simp (disch := omega) only [↓zl_m1, zz_leT, zz_leF, zz_ltT, zz_ltF, zz_eqT, zz_eqF, zz_okN, zz_okF, nI_clamp, nI_add, pk_mul, pk_sub, zz_bS, zz_b2S, if_true, if_false, Bool.true_eq_false, Bool.false_eq_true, eq_self, ne_eq, not_true_eq_false, not_false_eq_true, false_or, or_false, true_or, or_true, and_true, true_and, and_false, false_and, mI_e, mI_e2, mI_le, mI_le2, mI_lt, mI_lt2, mI_ok, bI_0n, bI_1n, bI_orn, Nat.mul_zero, Nat.zero_add, Nat.add_zero, c_no2, c_no3, c_no4, c_no5, c_no6, r_no2, r_no3, r_no4, r_no5, r_no6, zk_inR, zk_in2, zk_in3, zk_wiN, Nat.reduceAdd, zl_0, zl_1, zl_2, zl_3, zl_4, zl_5, zl_6, zl_7, zl_8, zl_9, zl_10, zl_12, zl_13, zl_14, zl_15, zl_16, zl_20, zl_32, zl_40, zl_48, zl_57, zl_59, zl_60, zl_63, zl_64, zl_97, zl_99, zl_101, zl_119, zl_120, zl_122, zl_128, zl_136, zl_152, zl_168, zl_184, zl_200, zl_201, zl_202, zl_203, zl_250, zl_255, zl_320, zl_999, zl_1000, hL.s, hL.r hi2]
        exact skip (by unfold gT; rw [decide_eq_false e1, Bool.false_and, Bool.and_false])
  exact key (gS G) 0 ax_FU (by omega) (by unfold ax_FU; omega)
end
theorem t_guess (v w u : Int32) : zT (fun m => F_X10_guess m v w u) (fun m => F_X11_guess m v w u) := zT_of (fun m G h => by
  obtain ⟨hV, hC, hL, -⟩ := id h
  have hp := hV.p
  rcases zpr_cs hV v w with e | ⟨x, y, hx, hy, hxy, rfl, rfl⟩
  · exact zT_no 0 (by omega) (-nI 2) h (by unfold F_X10_guess; simp (disch := omega) only [↓zl_m1, zz_leT, zz_leF, zz_ltT, zz_ltF, zz_eqT, zz_eqF, zz_okN, zz_okF, nI_clamp, nI_add, pk_mul, pk_sub, zz_bS, zz_b2S, if_true, if_false, Bool.true_eq_false, Bool.false_eq_true, eq_self, ne_eq, not_true_eq_false, not_false_eq_true, false_or, or_false, true_or, or_true, and_true, true_and, and_false, false_and, mI_e, mI_e2, mI_le, mI_le2, mI_lt, mI_lt2, mI_ok, bI_0n, bI_1n, bI_orn, Nat.mul_zero, Nat.zero_add, Nat.add_zero, c_no2, c_no3, c_no4, c_no5, c_no6, r_no2, r_no3, r_no4, r_no5, r_no6, zk_inR, zk_in2, zk_in3, zk_wiN, Nat.reduceAdd, zl_0, zl_1, zl_2, zl_3, zl_4, zl_5, zl_6, zl_7, zl_8, zl_9, zl_10, zl_12, zl_13, zl_14, zl_15, zl_16, zl_20, zl_32, zl_40, zl_48, zl_57, zl_59, zl_60, zl_63, zl_64, zl_97, zl_99, zl_101, zl_119, zl_120, zl_122, zl_128, zl_136, zl_152, zl_168, zl_184, zl_200, zl_201, zl_202, zl_203, zl_250, zl_255, zl_320, zl_999, zl_1000, c_isPerson hC hV, c_isSeed hC hV, cs_isCell, c_isShelf, c_isPair hC hV, c_isKind, e]) (fun m1 e1 hL1 => by unfold F_X11_guess; simp (disch := omega) only [↓zl_m1, zz_leT, zz_leF, zz_ltT, zz_ltF, zz_eqT, zz_eqF, zz_okN, zz_okF, nI_clamp, nI_add, pk_mul, pk_sub, zz_bS, zz_b2S, if_true, if_false, Bool.true_eq_false, Bool.false_eq_true, eq_self, ne_eq, not_true_eq_false, not_false_eq_true, false_or, or_false, true_or, or_true, and_true, true_and, and_false, false_and, mI_e, mI_e2, mI_le, mI_le2, mI_lt, mI_lt2, mI_ok, bI_0n, bI_1n, bI_orn, Nat.mul_zero, Nat.zero_add, Nat.add_zero, c_no2, c_no3, c_no4, c_no5, c_no6, r_no2, r_no3, r_no4, r_no5, r_no6, zk_inR, zk_in2, zk_in3, zk_wiN, Nat.reduceAdd, zl_0, zl_1, zl_2, zl_3, zl_4, zl_5, zl_6, zl_7, zl_8, zl_9, zl_10, zl_12, zl_13, zl_14, zl_15, zl_16, zl_20, zl_32, zl_40, zl_48, zl_57, zl_59, zl_60, zl_63, zl_64, zl_97, zl_99, zl_101, zl_119, zl_120, zl_122, zl_128, zl_136, zl_152, zl_168, zl_184, zl_200, zl_201, zl_202, zl_203, zl_250, zl_255, zl_320, zl_999, zl_1000, r_isOne hL1 hV, r_isSeed hL1 hV, cr_isCell, r_isShelf, r_areTwo hL1 hV, zk_wiN, e])
  rcases zk_cs u (n := 2) (by omega) with e | ⟨n, hn, rfl⟩
  · exact zT_no 0 (by omega) (-nI 2) h (by unfold F_X10_guess; simp (disch := omega) only [↓zl_m1, zz_leT, zz_leF, zz_ltT, zz_ltF, zz_eqT, zz_eqF, zz_okN, zz_okF, nI_clamp, nI_add, pk_mul, pk_sub, zz_bS, zz_b2S, if_true, if_false, Bool.true_eq_false, Bool.false_eq_true, eq_self, ne_eq, not_true_eq_false, not_false_eq_true, false_or, or_false, true_or, or_true, and_true, true_and, and_false, false_and, mI_e, mI_e2, mI_le, mI_le2, mI_lt, mI_lt2, mI_ok, bI_0n, bI_1n, bI_orn, Nat.mul_zero, Nat.zero_add, Nat.add_zero, c_no2, c_no3, c_no4, c_no5, c_no6, r_no2, r_no3, r_no4, r_no5, r_no6, zk_inR, zk_in2, zk_in3, zk_wiN, Nat.reduceAdd, zl_0, zl_1, zl_2, zl_3, zl_4, zl_5, zl_6, zl_7, zl_8, zl_9, zl_10, zl_12, zl_13, zl_14, zl_15, zl_16, zl_20, zl_32, zl_40, zl_48, zl_57, zl_59, zl_60, zl_63, zl_64, zl_97, zl_99, zl_101, zl_119, zl_120, zl_122, zl_128, zl_136, zl_152, zl_168, zl_184, zl_200, zl_201, zl_202, zl_203, zl_250, zl_255, zl_320, zl_999, zl_1000, c_isPerson hC hV, c_isSeed hC hV, cs_isCell, c_isShelf, c_isPair hC hV, c_isKind, zpr_t hV hx hy hxy, e]) (fun m1 e1 hL1 => by unfold F_X11_guess; simp (disch := omega) only [↓zl_m1, zz_leT, zz_leF, zz_ltT, zz_ltF, zz_eqT, zz_eqF, zz_okN, zz_okF, nI_clamp, nI_add, pk_mul, pk_sub, zz_bS, zz_b2S, if_true, if_false, Bool.true_eq_false, Bool.false_eq_true, eq_self, ne_eq, not_true_eq_false, not_false_eq_true, false_or, or_false, true_or, or_true, and_true, true_and, and_false, false_and, mI_e, mI_e2, mI_le, mI_le2, mI_lt, mI_lt2, mI_ok, bI_0n, bI_1n, bI_orn, Nat.mul_zero, Nat.zero_add, Nat.add_zero, c_no2, c_no3, c_no4, c_no5, c_no6, r_no2, r_no3, r_no4, r_no5, r_no6, zk_inR, zk_in2, zk_in3, zk_wiN, Nat.reduceAdd, zl_0, zl_1, zl_2, zl_3, zl_4, zl_5, zl_6, zl_7, zl_8, zl_9, zl_10, zl_12, zl_13, zl_14, zl_15, zl_16, zl_20, zl_32, zl_40, zl_48, zl_57, zl_59, zl_60, zl_63, zl_64, zl_97, zl_99, zl_101, zl_119, zl_120, zl_122, zl_128, zl_136, zl_152, zl_168, zl_184, zl_200, zl_201, zl_202, zl_203, zl_250, zl_255, zl_320, zl_999, zl_1000, r_isOne hL1 hV, r_isSeed hL1 hV, cr_isCell, r_isShelf, r_areTwo hL1 hV, zk_wiN, zpr_t hV hx hy hxy, e])
  have hx8 : x < 8 := by omega
  have hy8 : y < 8 := by omega
  rcases (by omega : n = 0 ∨ n = 1) with rfl | rfl
  · exact zT_an (bI (gMay G x y (gS G))) h (by unfold F_X10_guess; simp (disch := omega) only [↓zl_m1, zz_leT, zz_leF, zz_ltT, zz_ltF, zz_eqT, zz_eqF, zz_okN, zz_okF, nI_clamp, nI_add, pk_mul, pk_sub, zz_bS, zz_b2S, if_true, if_false, Bool.true_eq_false, Bool.false_eq_true, eq_self, ne_eq, not_true_eq_false, not_false_eq_true, false_or, or_false, true_or, or_true, and_true, true_and, and_false, false_and, mI_e, mI_e2, mI_le, mI_le2, mI_lt, mI_lt2, mI_ok, bI_0n, bI_1n, bI_orn, Nat.mul_zero, Nat.zero_add, Nat.add_zero, c_no2, c_no3, c_no4, c_no5, c_no6, r_no2, r_no3, r_no4, r_no5, r_no6, zk_inR, zk_in2, zk_in3, zk_wiN, Nat.reduceAdd, zl_0, zl_1, zl_2, zl_3, zl_4, zl_5, zl_6, zl_7, zl_8, zl_9, zl_10, zl_12, zl_13, zl_14, zl_15, zl_16, zl_20, zl_32, zl_40, zl_48, zl_57, zl_59, zl_60, zl_63, zl_64, zl_97, zl_99, zl_101, zl_119, zl_120, zl_122, zl_128, zl_136, zl_152, zl_168, zl_184, zl_200, zl_201, zl_202, zl_203, zl_250, zl_255, zl_320, zl_999, zl_1000, c_isPerson hC hV, c_isSeed hC hV, cs_isCell, c_isShelf, c_isPair hC hV, c_isKind, zpr_t hV hx hy hxy, c_mayOwe hC hV hx8 hy8, zif1 (gMay G x y (gS G)) (fun z => some (z, m))]) (by unfold F_X11_guess; simp (disch := omega) only [↓zl_m1, zz_leT, zz_leF, zz_ltT, zz_ltF, zz_eqT, zz_eqF, zz_okN, zz_okF, nI_clamp, nI_add, pk_mul, pk_sub, zz_bS, zz_b2S, if_true, if_false, Bool.true_eq_false, Bool.false_eq_true, eq_self, ne_eq, not_true_eq_false, not_false_eq_true, false_or, or_false, true_or, or_true, and_true, true_and, and_false, false_and, mI_e, mI_e2, mI_le, mI_le2, mI_lt, mI_lt2, mI_ok, bI_0n, bI_1n, bI_orn, Nat.mul_zero, Nat.zero_add, Nat.add_zero, c_no2, c_no3, c_no4, c_no5, c_no6, r_no2, r_no3, r_no4, r_no5, r_no6, zk_inR, zk_in2, zk_in3, zk_wiN, Nat.reduceAdd, zl_0, zl_1, zl_2, zl_3, zl_4, zl_5, zl_6, zl_7, zl_8, zl_9, zl_10, zl_12, zl_13, zl_14, zl_15, zl_16, zl_20, zl_32, zl_40, zl_48, zl_57, zl_59, zl_60, zl_63, zl_64, zl_97, zl_99, zl_101, zl_119, zl_120, zl_122, zl_128, zl_136, zl_152, zl_168, zl_184, zl_200, zl_201, zl_202, zl_203, zl_250, zl_255, zl_320, zl_999, zl_1000, r_isOne hL hV, r_isSeed hL hV, cr_isCell, r_isShelf, r_areTwo hL hV, zk_wiN, zpr_t hV hx hy hxy, r_guessL hL hV hx8 hy8])
  · exact zT_an (bI (gSure G x y (gS G))) h (by unfold F_X10_guess; simp (disch := omega) only [↓zl_m1, zz_leT, zz_leF, zz_ltT, zz_ltF, zz_eqT, zz_eqF, zz_okN, zz_okF, nI_clamp, nI_add, pk_mul, pk_sub, zz_bS, zz_b2S, if_true, if_false, Bool.true_eq_false, Bool.false_eq_true, eq_self, ne_eq, not_true_eq_false, not_false_eq_true, false_or, or_false, true_or, or_true, and_true, true_and, and_false, false_and, mI_e, mI_e2, mI_le, mI_le2, mI_lt, mI_lt2, mI_ok, bI_0n, bI_1n, bI_orn, Nat.mul_zero, Nat.zero_add, Nat.add_zero, c_no2, c_no3, c_no4, c_no5, c_no6, r_no2, r_no3, r_no4, r_no5, r_no6, zk_inR, zk_in2, zk_in3, zk_wiN, Nat.reduceAdd, zl_0, zl_1, zl_2, zl_3, zl_4, zl_5, zl_6, zl_7, zl_8, zl_9, zl_10, zl_12, zl_13, zl_14, zl_15, zl_16, zl_20, zl_32, zl_40, zl_48, zl_57, zl_59, zl_60, zl_63, zl_64, zl_97, zl_99, zl_101, zl_119, zl_120, zl_122, zl_128, zl_136, zl_152, zl_168, zl_184, zl_200, zl_201, zl_202, zl_203, zl_250, zl_255, zl_320, zl_999, zl_1000, c_isPerson hC hV, c_isSeed hC hV, cs_isCell, c_isShelf, c_isPair hC hV, c_isKind, zpr_t hV hx hy hxy, c_surelyOwes hC hV hx8 hy8, zif1 (gSure G x y (gS G)) (fun z => some (z, m))]) (by unfold F_X11_guess; simp (disch := omega) only [↓zl_m1, zz_leT, zz_leF, zz_ltT, zz_ltF, zz_eqT, zz_eqF, zz_okN, zz_okF, nI_clamp, nI_add, pk_mul, pk_sub, zz_bS, zz_b2S, if_true, if_false, Bool.true_eq_false, Bool.false_eq_true, eq_self, ne_eq, not_true_eq_false, not_false_eq_true, false_or, or_false, true_or, or_true, and_true, true_and, and_false, false_and, mI_e, mI_e2, mI_le, mI_le2, mI_lt, mI_lt2, mI_ok, bI_0n, bI_1n, bI_orn, Nat.mul_zero, Nat.zero_add, Nat.add_zero, c_no2, c_no3, c_no4, c_no5, c_no6, r_no2, r_no3, r_no4, r_no5, r_no6, zk_inR, zk_in2, zk_in3, zk_wiN, Nat.reduceAdd, zl_0, zl_1, zl_2, zl_3, zl_4, zl_5, zl_6, zl_7, zl_8, zl_9, zl_10, zl_12, zl_13, zl_14, zl_15, zl_16, zl_20, zl_32, zl_40, zl_48, zl_57, zl_59, zl_60, zl_63, zl_64, zl_97, zl_99, zl_101, zl_119, zl_120, zl_122, zl_128, zl_136, zl_152, zl_168, zl_184, zl_200, zl_201, zl_202, zl_203, zl_250, zl_255, zl_320, zl_999, zl_1000, r_isOne hL hV, r_isSeed hL hV, cr_isCell, r_isShelf, r_areTwo hL hV, zk_wiN, zpr_t hV hx hy hxy, r_guessL hL hV hx8 hy8]))
/-! mutual, strike -/
theorem zs_add (f g : Nat → Nat) : ∀ n, zs (fun i => f i + g i) n = zs f n + zs g n
  | 0 => rfl
  | n + 1 => by rw [zs, zs, zs, zs_add f g n]; omega
theorem zs_zero : ∀ n, zs (fun _ => 0) n = 0
  | 0 => rfl
  | n + 1 => by rw [zs, zs_zero n]
theorem zs_swap (f : Nat → Nat → Nat) (n : Nat) : ∀ m, zs (fun x => zs (f x) n) m = zs (fun y => zs (fun x => f x y) m) n
  | 0 => by show 0 = zs (fun _ => 0) n; rw [zs_zero]
  | m + 1 => by
    rw [zs, zs_swap f n m, ← zs_add]
    exact zs_congr (fun j _ => rfl)
def gMi (G : zG) (x y : Nat) : Nat := min (gD G x y) (gD G y x)
theorem gMi_c (G : zG) (x y : Nat) : gMi G x y = gMi G y x := Nat.min_comm _ _
def gMu (G : zG) : Nat := zs (fun x => zs (fun y => if y < x then gMi G x y else 0) 8) 8
theorem gMi_le {G : zG} (hV : zV G) {x y : Nat} (hx : x < 8) (hy : y < 8) : gMi G x y ≤ 999 := Nat.le_trans (Nat.min_le_left _ _) (hV.d hx hy)
section
variable {m : ax_M} {g : Nat} {G : zG}
theorem c_shared (h : zC m g G) (hV : zV G) : F_X2_shared m g = some (nI (gMu G)) := by
  have inn : ∀ (K : Int32 → Option Int32) (a x : Nat), x < 8 → F_X2_shared_L11 ax_FU K m g (nI a) (nI x) (nI (x + 1)) = K (nI (a + zs (fun y => if x < y then gMi G x y else 0) 8)) := by
    intro K a x hx
    have key : ∀ k i n, i + k = 8 → k < n → (x < i → F_X2_shared_L11 n K m g (nI (a + zs (fun y => if x < y then gMi G x y else 0) i)) (nI x) (nI i) = K (nI (a + zs (fun y => if x < y then gMi G x y else 0) 8))) := by
      refine zz_loop 8 (fun n => ?_) (fun n i hi ih => ?_)
      · intro _; rw [F_X2_shared_L11, zl_8, if_pos (Int32.le_refl _)]
      · intro h0
        have d1 := hV.d hx hi
        have d2 := hV.d hi hx
        have ih := ih (by omega)
        rw [zs, if_pos h0] at ih
        rw [F_X2_shared_L11]
        simp (disch := omega) only [↓zl_m1, zz_leT, zz_leF, zz_ltT, zz_ltF, zz_eqT, zz_eqF, zz_okN, zz_okF, nI_clamp, nI_add, pk_mul, pk_sub, zz_bS, zz_b2S, if_true, if_false, Bool.true_eq_false, Bool.false_eq_true, eq_self, ne_eq, not_true_eq_false, not_false_eq_true, false_or, or_false, true_or, or_true, and_true, true_and, and_false, false_and, mI_e, mI_e2, mI_le, mI_le2, mI_lt, mI_lt2, mI_ok, bI_0n, bI_1n, bI_orn, Nat.mul_zero, Nat.zero_add, Nat.add_zero, c_no2, c_no3, c_no4, c_no5, c_no6, r_no2, r_no3, r_no4, r_no5, r_no6, zk_inR, zk_in2, zk_in3, zk_wiN, Nat.reduceAdd, zl_0, zl_1, zl_2, zl_3, zl_4, zl_5, zl_6, zl_7, zl_8, zl_9, zl_10, zl_12, zl_13, zl_14, zl_15, zl_16, zl_20, zl_32, zl_40, zl_48, zl_57, zl_59, zl_60, zl_63, zl_64, zl_97, zl_99, zl_101, zl_119, zl_120, zl_122, zl_128, zl_136, zl_152, zl_168, zl_184, zl_200, zl_201, zl_202, zl_203, zl_250, zl_255, zl_320, zl_999, zl_1000, c_of h hx hi, c_of h hi hx, zz_min]
        rw [Nat.add_assoc]
        exact ih
    have k2 := key (8 - (x + 1)) (x + 1) ax_FU (by omega) (by unfold ax_FU; omega) (by omega)
    rw [show zs (fun y => if x < y then gMi G x y else 0) (x + 1) = 0 from (zs_congr (g := fun _ => 0) (fun j hj => if_neg (by omega))).trans (zs_zero _)] at k2
    exact k2
  have key : ∀ k i n, i + k = 8 → k < n → F_X2_shared_L4 n m g (nI (zs (fun x => zs (fun y => if x < y then gMi G x y else 0) 8) i)) (nI i) = some (nI (gMu G)) := by
    refine zz_loop 8 (fun n => ?_) (fun n i hi ih => ?_)
    · rw [F_X2_shared_L4, zl_8, if_pos (Int32.le_refl _)]
      refine congrArg (fun z => some (nI z)) ?_
      rw [zs_swap]
      exact zs_congr (fun y _ => zs_congr (fun x _ => by rw [gMi_c]))
    · rw [F_X2_shared_L4]
      simp (disch := omega) only [↓zl_m1, zz_leT, zz_leF, zz_ltT, zz_ltF, zz_eqT, zz_eqF, zz_okN, zz_okF, nI_clamp, nI_add, pk_mul, pk_sub, zz_bS, zz_b2S, if_true, if_false, Bool.true_eq_false, Bool.false_eq_true, eq_self, ne_eq, not_true_eq_false, not_false_eq_true, false_or, or_false, true_or, or_true, and_true, true_and, and_false, false_and, mI_e, mI_e2, mI_le, mI_le2, mI_lt, mI_lt2, mI_ok, bI_0n, bI_1n, bI_orn, Nat.mul_zero, Nat.zero_add, Nat.add_zero, c_no2, c_no3, c_no4, c_no5, c_no6, r_no2, r_no3, r_no4, r_no5, r_no6, zk_inR, zk_in2, zk_in3, zk_wiN, Nat.reduceAdd, zl_0, zl_1, zl_2, zl_3, zl_4, zl_5, zl_6, zl_7, zl_8, zl_9, zl_10, zl_12, zl_13, zl_14, zl_15, zl_16, zl_20, zl_32, zl_40, zl_48, zl_57, zl_59, zl_60, zl_63, zl_64, zl_97, zl_99, zl_101, zl_119, zl_120, zl_122, zl_128, zl_136, zl_152, zl_168, zl_184, zl_200, zl_201, zl_202, zl_203, zl_250, zl_255, zl_320, zl_999, zl_1000]
      rw [inn _ _ _ hi]
      exact ih
  exact key 8 0 ax_FU rfl (by decide)
theorem r_mutual (h : zL m G) (hV : zV G) : F_X11_mutual m = some (nI (gMu G)) := by
  have hp := hV.p
  have inn : ∀ (K : Int32 → Option Int32) (a x : Nat), x < 8 → F_X11_mutual_L10 ax_FU K m (nI a) (nI x) (nI 0) = K (nI (a + zs (fun y => if y < x then gMi G x y else 0) 8)) := by
    intro K a x hx
    have key : ∀ k i n, i + k = x → k < n → F_X11_mutual_L10 n K m (nI (a + zs (fun y => if y < x then gMi G x y else 0) i)) (nI x) (nI i) = K (nI (a + zs (fun y => if y < x then gMi G x y else 0) 8)) := by
      refine zz_loop x (fun n => ?_) (fun n i hi ih => ?_)
      · rw [F_X11_mutual_L10, if_pos (Int32.le_refl _)]
        rw [zs_to (n := x) (N := 8) (by omega) (fun j h1 h2 => if_neg (by omega))]
      · have hi8 : i < 8 := by omega
        have d1 := hV.d hx hi8
        have d2 := hV.d hi8 hx
        rw [zs, if_pos hi] at ih
        rw [F_X11_mutual_L10]
        simp (disch := omega) only [↓zl_m1, zz_leT, zz_leF, zz_ltT, zz_ltF, zz_eqT, zz_eqF, zz_okN, zz_okF, nI_clamp, nI_add, pk_mul, pk_sub, zz_bS, zz_b2S, if_true, if_false, Bool.true_eq_false, Bool.false_eq_true, eq_self, ne_eq, not_true_eq_false, not_false_eq_true, false_or, or_false, true_or, or_true, and_true, true_and, and_false, false_and, mI_e, mI_e2, mI_le, mI_le2, mI_lt, mI_lt2, mI_ok, bI_0n, bI_1n, bI_orn, Nat.mul_zero, Nat.zero_add, Nat.add_zero, c_no2, c_no3, c_no4, c_no5, c_no6, r_no2, r_no3, r_no4, r_no5, r_no6, zk_inR, zk_in2, zk_in3, zk_wiN, Nat.reduceAdd, zl_0, zl_1, zl_2, zl_3, zl_4, zl_5, zl_6, zl_7, zl_8, zl_9, zl_10, zl_12, zl_13, zl_14, zl_15, zl_16, zl_20, zl_32, zl_40, zl_48, zl_57, zl_59, zl_60, zl_63, zl_64, zl_97, zl_99, zl_101, zl_119, zl_120, zl_122, zl_128, zl_136, zl_152, zl_168, zl_184, zl_200, zl_201, zl_202, zl_203, zl_250, zl_255, zl_320, zl_999, zl_1000, h.d hx hi8, h.d hi8 hx, zz_min]
        rw [Nat.add_assoc]
        exact ih
    exact key x 0 ax_FU (by omega) (by unfold ax_FU; omega)
  have key : ∀ k i n, i + k = gP G → k < n → F_X11_mutual_L4 n m (nI (zs (fun x => zs (fun y => if y < x then gMi G x y else 0) 8) i)) (nI i) = some (nI (gMu G)) := by
    refine zz_loop (gP G) (fun n => ?_) (fun n i hi ih => ?_)
    · rw [F_X11_mutual_L4, h.p, if_pos (Int32.le_refl _)]
      refine congrArg (fun z => some (nI z)) ?_
      refine zs_to hp (fun j h1 h2 => ?_)
      refine (zs_congr (g := fun _ => 0) (fun y hy => ?_)).trans (zs_zero 8)
      split
      · show min _ _ = 0
        rw [hV.z h2 hy (.inl h1), Nat.zero_min]
      · rfl
    · rw [F_X11_mutual_L4]
      simp (disch := omega) only [↓zl_m1, zz_leT, zz_leF, zz_ltT, zz_ltF, zz_eqT, zz_eqF, zz_okN, zz_okF, nI_clamp, nI_add, pk_mul, pk_sub, zz_bS, zz_b2S, if_true, if_false, Bool.true_eq_false, Bool.false_eq_true, eq_self, ne_eq, not_true_eq_false, not_false_eq_true, false_or, or_false, true_or, or_true, and_true, true_and, and_false, false_and, mI_e, mI_e2, mI_le, mI_le2, mI_lt, mI_lt2, mI_ok, bI_0n, bI_1n, bI_orn, Nat.mul_zero, Nat.zero_add, Nat.add_zero, c_no2, c_no3, c_no4, c_no5, c_no6, r_no2, r_no3, r_no4, r_no5, r_no6, zk_inR, zk_in2, zk_in3, zk_wiN, Nat.reduceAdd, zl_0, zl_1, zl_2, zl_3, zl_4, zl_5, zl_6, zl_7, zl_8, zl_9, zl_10, zl_12, zl_13, zl_14, zl_15, zl_16, zl_20, zl_32, zl_40, zl_48, zl_57, zl_59, zl_60, zl_63, zl_64, zl_97, zl_99, zl_101, zl_119, zl_120, zl_122, zl_128, zl_136, zl_152, zl_168, zl_184, zl_200, zl_201, zl_202, zl_203, zl_250, zl_255, zl_320, zl_999, zl_1000, h.p]
      rw [inn _ _ _ (by omega)]
      exact ih
  exact key (gP G) 0 ax_FU (by omega) (by unfold ax_FU; omega)
end
theorem t_mutual : zpz F_X10_mutual F_X11_mutual := fun m G h => ⟨nI (gMu G), by unfold F_X10_mutual; rw [c_shared h.2.1 h.1, zz_bS], r_mutual h.2.2.1 h.1⟩
