/-! IMAGES of the reference: keep, again -/
def zOf (G : zG) (j : Nat) : Int32 := if j < 64 then bI (gW G j) else if j < 128 then nI (G.1 2 (j - 64)) else if j < 136 then nI (gO G (j - 128)) else if j < 152 then nI (gK G (j - 136)) else if j < 168 then nI (gA G (j - 152)) else if j < 184 then nI (gC G (j - 168)) else if j < 200 then nI (gR G (j - 184)) else if j = 200 then nI (gP G) else nI (gS G)
theorem zOf_w (G : zG) {i : Nat} (h : i < 64) : zOf G i = bI (gW G i) := if_pos h
theorem zOf_d (G : zG) {i : Nat} (h : i < 64) : zOf G (64 + i) = nI (G.1 2 i) := by
  unfold zOf
  rw [if_neg (by omega), if_pos (by omega), show 64 + i - 64 = i by omega]
theorem zOf_o (G : zG) {i : Nat} (h : i < 8) : zOf G (128 + i) = nI (gO G i) := by
  unfold zOf
  rw [if_neg (by omega), if_neg (by omega), if_pos (by omega), show 128 + i - 128 = i by omega]
theorem zOf_k (G : zG) {i : Nat} (h : i < 16) : zOf G (136 + i) = nI (gK G i) := by
  unfold zOf
  rw [if_neg (by omega), if_neg (by omega), if_neg (by omega), if_pos (by omega), show 136 + i - 136 = i by omega]
theorem zOf_a (G : zG) {i : Nat} (h : i < 16) : zOf G (152 + i) = nI (gA G i) := by
  unfold zOf
  rw [if_neg (by omega), if_neg (by omega), if_neg (by omega), if_neg (by omega), if_pos (by omega), show 152 + i - 152 = i by omega]
theorem zOf_c (G : zG) {i : Nat} (h : i < 16) : zOf G (168 + i) = nI (gC G i) := by
  unfold zOf
  rw [if_neg (by omega), if_neg (by omega), if_neg (by omega), if_neg (by omega), if_neg (by omega), if_pos (by omega), show 168 + i - 168 = i by omega]
theorem zOf_r (G : zG) {i : Nat} (h : i < 16) : zOf G (184 + i) = nI (gR G i) := by
  unfold zOf
  rw [if_neg (by omega), if_neg (by omega), if_neg (by omega), if_neg (by omega), if_neg (by omega), if_neg (by omega), if_pos (by omega), show 184 + i - 184 = i by omega]
theorem zO_of {m : ax_M} {k : Nat} {G : zG} (h : ∀ j, j < 202 → m.1 k 0 j = zOf G j) (h2 : m.1 k 0 202 = gZ G) : zO m k G := by
  refine ⟨h 200 (by omega), h 201 (by omega), h2, fun c hc => ?_, fun p hp => ?_, fun x y hx hy => ?_, fun i hi => ⟨?_, ?_, ?_, ?_⟩⟩
  · rw [h c (by omega), zOf_w G hc]
  · rw [h _ (by omega), zOf_o G hp]
  · rw [h _ (by omega), zOf_d G (by omega)]; rfl
  · rw [h _ (by omega), zOf_k G hi]
  · rw [h _ (by omega), zOf_a G hi]
  · rw [h _ (by omega), zOf_c G hi]
  · rw [h _ (by omega), zOf_r G hi]
theorem r_keep36 {m : ax_M} {G : zG} (h : zL m G) : ∃ m1, F_X11_keep_36 m = some m1 ∧ zO m1 36 G ∧ zE [36] m m1 := by
  have last : ∀ k i n, i + k = 16 → k < n → (∀ m1, zE [36] m m1 → (∀ j, j < 136 ∨ (136 ≤ j ∧ j < 136 + i) ∨ (152 ≤ j ∧ j < 152 + i) ∨ (168 ≤ j ∧ j < 168 + i) ∨ (184 ≤ j ∧ j < 184 + i) → m1.1 36 0 j = zOf G j) → ∃ m2, F_X11_keep_36_L45 n m1 (nI i) = some m2 ∧ zE [36] m m2 ∧ (∀ j, j < 202 → m2.1 36 0 j = zOf G j) ∧ m2.1 36 0 202 = gZ G) := by
    refine zz_loop 16 (fun n => ?_) (fun n i hi ih => ?_)
    · intro m1 e hj
      refine ⟨ax_ui (ax_ui (ax_ui m1 36 0 200 (nI (gP G))) 36 0 201 (nI (gS G))) 36 0 202 (gZ G), ?_, ((e.ui (by decide)).ui (by decide)).ui (by decide), fun j hj2 => ?_, zu_s⟩
      · rw [F_X11_keep_36_L45]
        simp (disch := omega) only [↓zl_m1, zz_leT, zz_leF, zz_ltT, zz_ltF, zz_eqT, zz_eqF, zz_okN, zz_okF, nI_clamp, nI_add, pk_mul, pk_sub, zz_bS, zz_b2S, if_true, if_false, Bool.true_eq_false, Bool.false_eq_true, eq_self, ne_eq, not_true_eq_false, not_false_eq_true, false_or, or_false, true_or, or_true, and_true, true_and, and_false, false_and, mI_e, mI_e2, mI_le, mI_le2, mI_lt, mI_lt2, mI_ok, bI_0n, bI_1n, bI_orn, Nat.mul_zero, Nat.zero_add, Nat.add_zero, c_no2, c_no3, c_no4, c_no5, c_no6, r_no2, r_no3, r_no4, r_no5, r_no6, zk_inR, zk_in2, zk_in3, zk_wiN, Nat.reduceAdd, zl_0, zl_1, zl_2, zl_3, zl_4, zl_5, zl_6, zl_7, zl_8, zl_9, zl_10, zl_12, zl_13, zl_14, zl_15, zl_16, zl_20, zl_32, zl_40, zl_48, zl_57, zl_59, zl_60, zl_63, zl_64, zl_97, zl_99, zl_101, zl_119, zl_120, zl_122, zl_128, zl_136, zl_152, zl_168, zl_184, zl_200, zl_201, zl_202, zl_203, zl_250, zl_255, zl_320, zl_999, zl_1000, zu_s, zu_k, zu_j, zu_i, zu_l, zv_s, zv_k, zv_j, zv_i, zv_l, e.i (show 22 ∉ [36] by decide) 0 1, e.i (show 22 ∉ [36] by decide) 0 4, e.i (show 22 ∉ [36] by decide) 0 9, h.p, h.s, h.e]
      · rw [zu_j (by omega)]
        by_cases e1 : j = 201
        · subst e1; rw [zu_s]; rfl
        · rw [zu_j e1]
          by_cases e2 : j = 200
          · subst e2; rw [zu_s]; rfl
          · rw [zu_j e2]; exact hj j (by omega)
    · intro m1 e hj
      have x1 : zOf G (136 + i) = nI (gK G i) := zOf_k G hi
      have x2 : zOf G (152 + i) = nI (gA G i) := zOf_a G hi
      have x3 : zOf G (168 + i) = nI (gC G i) := zOf_c G hi
      have x4 : zOf G (184 + i) = nI (gR G i) := zOf_r G hi
      obtain ⟨m2, h2, h3⟩ := ih (ax_ui (ax_ui (ax_ui (ax_ui m1 36 0 (136 + i) (nI (gK G i))) 36 0 (152 + i) (nI (gA G i))) 36 0 (168 + i) (nI (gC G i))) 36 0 (184 + i) (nI (gR G i))) ((((e.ui (by decide)).ui (by decide)).ui (by decide)).ui (by decide)) (fun j hj2 => by
        by_cases e4 : j = 184 + i
        · subst e4; rw [zu_s, x4]
        · rw [zu_j e4]
          by_cases e3 : j = 168 + i
          · subst e3; rw [zu_s, x3]
          · rw [zu_j e3]
            by_cases e2 : j = 152 + i
            · subst e2; rw [zu_s, x2]
            · rw [zu_j e2]
              by_cases e1 : j = 136 + i
              · subst e1; rw [zu_s, x1]
              · rw [zu_j e1]; exact hj j (by omega))
      refine ⟨m2, ?_, h3⟩
      rw [F_X11_keep_36_L45]
      simp (disch := omega) only [↓zl_m1, zz_leT, zz_leF, zz_ltT, zz_ltF, zz_eqT, zz_eqF, zz_okN, zz_okF, nI_clamp, nI_add, pk_mul, pk_sub, zz_bS, zz_b2S, if_true, if_false, Bool.true_eq_false, Bool.false_eq_true, eq_self, ne_eq, not_true_eq_false, not_false_eq_true, false_or, or_false, true_or, or_true, and_true, true_and, and_false, false_and, mI_e, mI_e2, mI_le, mI_le2, mI_lt, mI_lt2, mI_ok, bI_0n, bI_1n, bI_orn, Nat.mul_zero, Nat.zero_add, Nat.add_zero, c_no2, c_no3, c_no4, c_no5, c_no6, r_no2, r_no3, r_no4, r_no5, r_no6, zk_inR, zk_in2, zk_in3, zk_wiN, Nat.reduceAdd, zl_0, zl_1, zl_2, zl_3, zl_4, zl_5, zl_6, zl_7, zl_8, zl_9, zl_10, zl_12, zl_13, zl_14, zl_15, zl_16, zl_20, zl_32, zl_40, zl_48, zl_57, zl_59, zl_60, zl_63, zl_64, zl_97, zl_99, zl_101, zl_119, zl_120, zl_122, zl_128, zl_136, zl_152, zl_168, zl_184, zl_200, zl_201, zl_202, zl_203, zl_250, zl_255, zl_320, zl_999, zl_1000, zu_s, zu_k, zu_j, zu_i, zu_l, zv_s, zv_k, zv_j, zv_i, zv_l, e.i (show 26 ∉ [36] by decide) 0 i, e.i (show 27 ∉ [36] by decide) 0 i, e.i (show 28 ∉ [36] by decide) 0 i, e.i (show 29 ∉ [36] by decide) 0 i, h.k hi, h.a hi, h.c hi, h.r hi]
      exact h2
  have mid : ∀ k i n, i + k = 8 → k < n → (∀ m1, zE [36] m m1 → (∀ j, j < 128 + i → m1.1 36 0 j = zOf G j) → ∃ m2, F_X11_keep_36_L29 n m1 (nI i) = some m2 ∧ zE [36] m m2 ∧ (∀ j, j < 202 → m2.1 36 0 j = zOf G j) ∧ m2.1 36 0 202 = gZ G) := by
    refine zz_loop 8 (fun n => ?_) (fun n i hi ih => ?_)
    · intro m1 e hj
      obtain ⟨m2, h2, h3⟩ := last 16 0 ax_FU rfl (by decide) m1 e (fun j hj2 => hj j (by omega))
      refine ⟨m2, ?_, h3⟩
      rw [F_X11_keep_36_L29]
      simp (disch := omega) only [↓zl_m1, zz_leT, zz_leF, zz_ltT, zz_ltF, zz_eqT, zz_eqF, zz_okN, zz_okF, nI_clamp, nI_add, pk_mul, pk_sub, zz_bS, zz_b2S, if_true, if_false, Bool.true_eq_false, Bool.false_eq_true, eq_self, ne_eq, not_true_eq_false, not_false_eq_true, false_or, or_false, true_or, or_true, and_true, true_and, and_false, false_and, mI_e, mI_e2, mI_le, mI_le2, mI_lt, mI_lt2, mI_ok, bI_0n, bI_1n, bI_orn, Nat.mul_zero, Nat.zero_add, Nat.add_zero, c_no2, c_no3, c_no4, c_no5, c_no6, r_no2, r_no3, r_no4, r_no5, r_no6, zk_inR, zk_in2, zk_in3, zk_wiN, Nat.reduceAdd, zl_0, zl_1, zl_2, zl_3, zl_4, zl_5, zl_6, zl_7, zl_8, zl_9, zl_10, zl_12, zl_13, zl_14, zl_15, zl_16, zl_20, zl_32, zl_40, zl_48, zl_57, zl_59, zl_60, zl_63, zl_64, zl_97, zl_99, zl_101, zl_119, zl_120, zl_122, zl_128, zl_136, zl_152, zl_168, zl_184, zl_200, zl_201, zl_202, zl_203, zl_250, zl_255, zl_320, zl_999, zl_1000]
      exact h2
    · intro m1 e hj
      have x1 : zOf G (128 + i) = nI (gO G i) := zOf_o G hi
      obtain ⟨m2, h2, h3⟩ := ih (ax_ui m1 36 0 (128 + i) (nI (gO G i))) (e.ui (by decide)) (fun j hj2 => by
        by_cases e1 : j = 128 + i
        · subst e1; rw [zu_s, x1]
        · rw [zu_j e1]; exact hj j (by omega))
      refine ⟨m2, ?_, h3⟩
      rw [F_X11_keep_36_L29]
      simp (disch := omega) only [↓zl_m1, zz_leT, zz_leF, zz_ltT, zz_ltF, zz_eqT, zz_eqF, zz_okN, zz_okF, nI_clamp, nI_add, pk_mul, pk_sub, zz_bS, zz_b2S, if_true, if_false, Bool.true_eq_false, Bool.false_eq_true, eq_self, ne_eq, not_true_eq_false, not_false_eq_true, false_or, or_false, true_or, or_true, and_true, true_and, and_false, false_and, mI_e, mI_e2, mI_le, mI_le2, mI_lt, mI_lt2, mI_ok, bI_0n, bI_1n, bI_orn, Nat.mul_zero, Nat.zero_add, Nat.add_zero, c_no2, c_no3, c_no4, c_no5, c_no6, r_no2, r_no3, r_no4, r_no5, r_no6, zk_inR, zk_in2, zk_in3, zk_wiN, Nat.reduceAdd, zl_0, zl_1, zl_2, zl_3, zl_4, zl_5, zl_6, zl_7, zl_8, zl_9, zl_10, zl_12, zl_13, zl_14, zl_15, zl_16, zl_20, zl_32, zl_40, zl_48, zl_57, zl_59, zl_60, zl_63, zl_64, zl_97, zl_99, zl_101, zl_119, zl_120, zl_122, zl_128, zl_136, zl_152, zl_168, zl_184, zl_200, zl_201, zl_202, zl_203, zl_250, zl_255, zl_320, zl_999, zl_1000, zu_s, zu_k, zu_j, zu_i, zu_l, zv_s, zv_k, zv_j, zv_i, zv_l, e.i (show 24 ∉ [36] by decide) 0 i, h.o hi]
      exact h2
  have first : ∀ k i n, i + k = 64 → k < n → (∀ m1, zE [36] m m1 → (∀ j, j < i ∨ (64 ≤ j ∧ j < 64 + i) → m1.1 36 0 j = zOf G j) → ∃ m2, F_X11_keep_36_L2 n m1 (nI i) = some m2 ∧ zE [36] m m2 ∧ (∀ j, j < 202 → m2.1 36 0 j = zOf G j) ∧ m2.1 36 0 202 = gZ G) := by
    refine zz_loop 64 (fun n => ?_) (fun n i hi ih => ?_)
    · intro m1 e hj
      obtain ⟨m2, h2, h3⟩ := mid 8 0 ax_FU rfl (by decide) m1 e (fun j hj2 => hj j (by omega))
      refine ⟨m2, ?_, h3⟩
      rw [F_X11_keep_36_L2]
      simp (disch := omega) only [↓zl_m1, zz_leT, zz_leF, zz_ltT, zz_ltF, zz_eqT, zz_eqF, zz_okN, zz_okF, nI_clamp, nI_add, pk_mul, pk_sub, zz_bS, zz_b2S, if_true, if_false, Bool.true_eq_false, Bool.false_eq_true, eq_self, ne_eq, not_true_eq_false, not_false_eq_true, false_or, or_false, true_or, or_true, and_true, true_and, and_false, false_and, mI_e, mI_e2, mI_le, mI_le2, mI_lt, mI_lt2, mI_ok, bI_0n, bI_1n, bI_orn, Nat.mul_zero, Nat.zero_add, Nat.add_zero, c_no2, c_no3, c_no4, c_no5, c_no6, r_no2, r_no3, r_no4, r_no5, r_no6, zk_inR, zk_in2, zk_in3, zk_wiN, Nat.reduceAdd, zl_0, zl_1, zl_2, zl_3, zl_4, zl_5, zl_6, zl_7, zl_8, zl_9, zl_10, zl_12, zl_13, zl_14, zl_15, zl_16, zl_20, zl_32, zl_40, zl_48, zl_57, zl_59, zl_60, zl_63, zl_64, zl_97, zl_99, zl_101, zl_119, zl_120, zl_122, zl_128, zl_136, zl_152, zl_168, zl_184, zl_200, zl_201, zl_202, zl_203, zl_250, zl_255, zl_320, zl_999, zl_1000]
      exact h2
    · intro m1 e hj
      have x1 : zOf G i = bI (gW G i) := zOf_w G hi
      have x2 : zOf G (64 + i) = nI (G.1 2 i) := zOf_d G hi
      have hd := h.d (x := i / 8) (y := i % 8) (by omega) (by omega)
      unfold gD at hd
      rw [show 8 * (i / 8) + i % 8 = i by omega] at hd
      obtain ⟨m2, h2, h3⟩ := ih (ax_ui (ax_ui m1 36 0 i (bI (gW G i))) 36 0 (64 + i) (nI (G.1 2 i))) ((e.ui (by decide)).ui (by decide)) (fun j hj2 => by
        by_cases e1 : j = 64 + i
        · subst e1; rw [zu_s, x2]
        · rw [zu_j e1]
          by_cases e2 : j = i
          · subst e2; rw [zu_s, x1]
          · rw [zu_j e2]; exact hj j (by omega))
      refine ⟨m2, ?_, h3⟩
      rw [F_X11_keep_36_L2]
      cases hw : gW G i with
      | false =>
        rw [hw] at h2
        simp (disch := omega) only [↓zl_m1, zz_leT, zz_leF, zz_ltT, zz_ltF, zz_eqT, zz_eqF, zz_okN, zz_okF, nI_clamp, nI_add, pk_mul, pk_sub, zz_bS, zz_b2S, if_true, if_false, Bool.true_eq_false, Bool.false_eq_true, eq_self, ne_eq, not_true_eq_false, not_false_eq_true, false_or, or_false, true_or, or_true, and_true, true_and, and_false, false_and, mI_e, mI_e2, mI_le, mI_le2, mI_lt, mI_lt2, mI_ok, bI_0n, bI_1n, bI_orn, Nat.mul_zero, Nat.zero_add, Nat.add_zero, c_no2, c_no3, c_no4, c_no5, c_no6, r_no2, r_no3, r_no4, r_no5, r_no6, zk_inR, zk_in2, zk_in3, zk_wiN, Nat.reduceAdd, zl_0, zl_1, zl_2, zl_3, zl_4, zl_5, zl_6, zl_7, zl_8, zl_9, zl_10, zl_12, zl_13, zl_14, zl_15, zl_16, zl_20, zl_32, zl_40, zl_48, zl_57, zl_59, zl_60, zl_63, zl_64, zl_97, zl_99, zl_101, zl_119, zl_120, zl_122, zl_128, zl_136, zl_152, zl_168, zl_184, zl_200, zl_201, zl_202, zl_203, zl_250, zl_255, zl_320, zl_999, zl_1000, zu_s, zu_k, zu_j, zu_i, zu_l, zv_s, zv_k, zv_j, zv_i, zv_l, e.i (show 23 ∉ [36] by decide) 0 i, e.i (show 25 ∉ [36] by decide) 0 i, h.w hi, hw, hd]
        exact h2
      | true =>
        rw [hw] at h2
        simp (disch := omega) only [↓zl_m1, zz_leT, zz_leF, zz_ltT, zz_ltF, zz_eqT, zz_eqF, zz_okN, zz_okF, nI_clamp, nI_add, pk_mul, pk_sub, zz_bS, zz_b2S, if_true, if_false, Bool.true_eq_false, Bool.false_eq_true, eq_self, ne_eq, not_true_eq_false, not_false_eq_true, false_or, or_false, true_or, or_true, and_true, true_and, and_false, false_and, mI_e, mI_e2, mI_le, mI_le2, mI_lt, mI_lt2, mI_ok, bI_0n, bI_1n, bI_orn, Nat.mul_zero, Nat.zero_add, Nat.add_zero, c_no2, c_no3, c_no4, c_no5, c_no6, r_no2, r_no3, r_no4, r_no5, r_no6, zk_inR, zk_in2, zk_in3, zk_wiN, Nat.reduceAdd, zl_0, zl_1, zl_2, zl_3, zl_4, zl_5, zl_6, zl_7, zl_8, zl_9, zl_10, zl_12, zl_13, zl_14, zl_15, zl_16, zl_20, zl_32, zl_40, zl_48, zl_57, zl_59, zl_60, zl_63, zl_64, zl_97, zl_99, zl_101, zl_119, zl_120, zl_122, zl_128, zl_136, zl_152, zl_168, zl_184, zl_200, zl_201, zl_202, zl_203, zl_250, zl_255, zl_320, zl_999, zl_1000, zu_s, zu_k, zu_j, zu_i, zu_l, zv_s, zv_k, zv_j, zv_i, zv_l, e.i (show 23 ∉ [36] by decide) 0 i, e.i (show 25 ∉ [36] by decide) 0 i, h.w hi, hw, hd]
        exact h2
  obtain ⟨m2, h2, h3, h4, h5⟩ := first 64 0 ax_FU rfl (by decide) m (zE.rf _ _) (fun j hj => by omega)
  exact ⟨m2, h2, zO_of h4 h5, h3⟩
theorem r_again36 {m : ax_M} {G : zG} (h : zO m 36 G) : ∃ m1, F_X11_again_36 m = some m1 ∧ zLo m m1 G := by
  have last : ∀ k i n, i + k = 16 → k < n → (∀ m1, zE [22, 23, 24, 25, 26, 27, 28, 29] m m1 → (∀ j, j ∉ [1, 4, 9] → m1.1 22 0 j = m.1 22 0 j) → (∀ c, c < 64 → m1.1 23 0 c = bI (gW G c) ∧ m1.1 25 0 c = nI (G.1 2 c)) → (∀ p, p < 8 → m1.1 24 0 p = nI (gO G p)) → (∀ j, j < i → m1.1 26 0 j = nI (gK G j) ∧ m1.1 27 0 j = nI (gA G j) ∧ m1.1 28 0 j = nI (gC G j) ∧ m1.1 29 0 j = nI (gR G j)) → ∃ m2, F_X11_again_36_L46 n m1 (nI i) = some m2 ∧ zLo m m2 G) := by
    refine zz_loop 16 (fun n => ?_) (fun n i hi ih => ?_)
    · intro m1 e h22 hw ho hs
      refine ⟨ax_ui (ax_ui (ax_ui m1 22 0 1 (nI (gP G))) 22 0 4 (nI (gS G))) 22 0 9 (gZ G), ?_, ⟨⟨?_, ?_, ?_, fun c hc => ?_, fun p hp => ?_, fun x y hx hy => ?_, fun i hi => ?_⟩, ((e.ui (by decide)).ui (by decide)).ui (by decide), fun j hj => ?_⟩⟩
      · rw [F_X11_again_36_L46]
        simp (disch := omega) only [↓zl_m1, zz_leT, zz_leF, zz_ltT, zz_ltF, zz_eqT, zz_eqF, zz_okN, zz_okF, nI_clamp, nI_add, pk_mul, pk_sub, zz_bS, zz_b2S, if_true, if_false, Bool.true_eq_false, Bool.false_eq_true, eq_self, ne_eq, not_true_eq_false, not_false_eq_true, false_or, or_false, true_or, or_true, and_true, true_and, and_false, false_and, mI_e, mI_e2, mI_le, mI_le2, mI_lt, mI_lt2, mI_ok, bI_0n, bI_1n, bI_orn, Nat.mul_zero, Nat.zero_add, Nat.add_zero, c_no2, c_no3, c_no4, c_no5, c_no6, r_no2, r_no3, r_no4, r_no5, r_no6, zk_inR, zk_in2, zk_in3, zk_wiN, Nat.reduceAdd, zl_0, zl_1, zl_2, zl_3, zl_4, zl_5, zl_6, zl_7, zl_8, zl_9, zl_10, zl_12, zl_13, zl_14, zl_15, zl_16, zl_20, zl_32, zl_40, zl_48, zl_57, zl_59, zl_60, zl_63, zl_64, zl_97, zl_99, zl_101, zl_119, zl_120, zl_122, zl_128, zl_136, zl_152, zl_168, zl_184, zl_200, zl_201, zl_202, zl_203, zl_250, zl_255, zl_320, zl_999, zl_1000, zu_s, zu_k, zu_j, zu_i, zu_l, zv_s, zv_k, zv_j, zv_i, zv_l, e.i (show 36 ∉ [22, 23, 24, 25, 26, 27, 28, 29] by decide) 0 200, e.i (show 36 ∉ [22, 23, 24, 25, 26, 27, 28, 29] by decide) 0 201, e.i (show 36 ∉ [22, 23, 24, 25, 26, 27, 28, 29] by decide) 0 202, h.1, h.2.1, h.2.2.1]
      · rw [zu_j (by decide), zu_j (by decide), zu_s]
      · rw [zu_j (by decide), zu_s]
      · rw [zu_s]
      · rw [zu_k (by decide), zu_k (by decide), zu_k (by decide)]; exact (hw c hc).1
      · rw [zu_k (by decide), zu_k (by decide), zu_k (by decide)]; exact ho p hp
      · rw [zu_k (by decide), zu_k (by decide), zu_k (by decide)]; exact (hw _ (by omega)).2
      · have := hs i hi
        refine ⟨?_, ?_, ?_, ?_⟩ <;> rw [zu_k (by decide), zu_k (by decide), zu_k (by decide)]
        · exact this.1
        · exact this.2.1
        · exact this.2.2.1
        · exact this.2.2.2
      · rw [lo_j (by decide) hj, lo_j (by decide) hj, lo_j (by decide) hj]; exact h22 j hj
    · intro m1 e h22 hw ho hs
      have q := h.2.2.2.2.2.2 i hi
      obtain ⟨m2, h2, h3⟩ := ih (ax_ui (ax_ui (ax_ui (ax_ui m1 26 0 i (nI (gK G i))) 27 0 i (nI (gA G i))) 28 0 i (nI (gC G i))) 29 0 i (nI (gR G i))) ((((e.ui (by decide)).ui (by decide)).ui (by decide)).ui (by decide))
        (fun j hj => by rw [zu_k (by decide), zu_k (by decide), zu_k (by decide), zu_k (by decide)]; exact h22 j hj)
        (fun c hc => by rw [zu_k (by decide), zu_k (by decide), zu_k (by decide), zu_k (by decide), zu_k (by decide), zu_k (by decide), zu_k (by decide), zu_k (by decide)]; exact hw c hc)
        (fun p hp => by rw [zu_k (by decide), zu_k (by decide), zu_k (by decide), zu_k (by decide)]; exact ho p hp)
        (fun j hj => by
          rw [zu_k (show 26 ≠ 29 by decide), zu_k (show 26 ≠ 28 by decide), zu_k (show 26 ≠ 27 by decide), zu_k (show 27 ≠ 29 by decide), zu_k (show 27 ≠ 28 by decide), zu_k (show 28 ≠ 29 by decide)]
          by_cases e1 : j = i
          · subst e1
            rw [zu_s, zu_s, zu_s, zu_s]
            exact ⟨rfl, rfl, rfl, rfl⟩
          · simp (disch := omega) only [zu_s, zu_k, zu_j]
            exact hs j (by omega))
      refine ⟨m2, ?_, h3⟩
      rw [F_X11_again_36_L46]
      simp (disch := omega) only [↓zl_m1, zz_leT, zz_leF, zz_ltT, zz_ltF, zz_eqT, zz_eqF, zz_okN, zz_okF, nI_clamp, nI_add, pk_mul, pk_sub, zz_bS, zz_b2S, if_true, if_false, Bool.true_eq_false, Bool.false_eq_true, eq_self, ne_eq, not_true_eq_false, not_false_eq_true, false_or, or_false, true_or, or_true, and_true, true_and, and_false, false_and, mI_e, mI_e2, mI_le, mI_le2, mI_lt, mI_lt2, mI_ok, bI_0n, bI_1n, bI_orn, Nat.mul_zero, Nat.zero_add, Nat.add_zero, c_no2, c_no3, c_no4, c_no5, c_no6, r_no2, r_no3, r_no4, r_no5, r_no6, zk_inR, zk_in2, zk_in3, zk_wiN, Nat.reduceAdd, zl_0, zl_1, zl_2, zl_3, zl_4, zl_5, zl_6, zl_7, zl_8, zl_9, zl_10, zl_12, zl_13, zl_14, zl_15, zl_16, zl_20, zl_32, zl_40, zl_48, zl_57, zl_59, zl_60, zl_63, zl_64, zl_97, zl_99, zl_101, zl_119, zl_120, zl_122, zl_128, zl_136, zl_152, zl_168, zl_184, zl_200, zl_201, zl_202, zl_203, zl_250, zl_255, zl_320, zl_999, zl_1000, zu_s, zu_k, zu_j, zu_i, zu_l, zv_s, zv_k, zv_j, zv_i, zv_l, e.i (show 36 ∉ [22, 23, 24, 25, 26, 27, 28, 29] by decide) 0 (136 + i), e.i (show 36 ∉ [22, 23, 24, 25, 26, 27, 28, 29] by decide) 0 (152 + i), e.i (show 36 ∉ [22, 23, 24, 25, 26, 27, 28, 29] by decide) 0 (168 + i), e.i (show 36 ∉ [22, 23, 24, 25, 26, 27, 28, 29] by decide) 0 (184 + i), q.1, q.2.1, q.2.2.1, q.2.2.2]
      exact h2
  have mid : ∀ k i n, i + k = 8 → k < n → (∀ m1, zE [22, 23, 24, 25, 26, 27, 28, 29] m m1 → (∀ j, j ∉ [1, 4, 9] → m1.1 22 0 j = m.1 22 0 j) → (∀ c, c < 64 → m1.1 23 0 c = bI (gW G c) ∧ m1.1 25 0 c = nI (G.1 2 c)) → (∀ p, p < i → m1.1 24 0 p = nI (gO G p)) → ∃ m2, F_X11_again_36_L30 n m1 (nI i) = some m2 ∧ zLo m m2 G) := by
    refine zz_loop 8 (fun n => ?_) (fun n i hi ih => ?_)
    · intro m1 e h22 hw ho
      obtain ⟨m2, h2, h3⟩ := last 16 0 ax_FU rfl (by decide) m1 e h22 hw ho (fun j hj => by omega)
      refine ⟨m2, ?_, h3⟩
      rw [F_X11_again_36_L30]
      simp (disch := omega) only [↓zl_m1, zz_leT, zz_leF, zz_ltT, zz_ltF, zz_eqT, zz_eqF, zz_okN, zz_okF, nI_clamp, nI_add, pk_mul, pk_sub, zz_bS, zz_b2S, if_true, if_false, Bool.true_eq_false, Bool.false_eq_true, eq_self, ne_eq, not_true_eq_false, not_false_eq_true, false_or, or_false, true_or, or_true, and_true, true_and, and_false, false_and, mI_e, mI_e2, mI_le, mI_le2, mI_lt, mI_lt2, mI_ok, bI_0n, bI_1n, bI_orn, Nat.mul_zero, Nat.zero_add, Nat.add_zero, c_no2, c_no3, c_no4, c_no5, c_no6, r_no2, r_no3, r_no4, r_no5, r_no6, zk_inR, zk_in2, zk_in3, zk_wiN, Nat.reduceAdd, zl_0, zl_1, zl_2, zl_3, zl_4, zl_5, zl_6, zl_7, zl_8, zl_9, zl_10, zl_12, zl_13, zl_14, zl_15, zl_16, zl_20, zl_32, zl_40, zl_48, zl_57, zl_59, zl_60, zl_63, zl_64, zl_97, zl_99, zl_101, zl_119, zl_120, zl_122, zl_128, zl_136, zl_152, zl_168, zl_184, zl_200, zl_201, zl_202, zl_203, zl_250, zl_255, zl_320, zl_999, zl_1000]
      exact h2
    · intro m1 e h22 hw ho
      have q := h.2.2.2.2.1 i hi
      obtain ⟨m2, h2, h3⟩ := ih (ax_ui m1 24 0 i (nI (gO G i))) (e.ui (by decide)) (fun j hj => by rw [zu_k (by decide)]; exact h22 j hj) (fun c hc => by rw [zu_k (by decide), zu_k (by decide)]; exact hw c hc) (fun p hp => by
        by_cases e1 : p = i
        · subst e1; rw [zu_s]
        · rw [zu_j e1]; exact ho p (by omega))
      refine ⟨m2, ?_, h3⟩
      rw [F_X11_again_36_L30]
      simp (disch := omega) only [↓zl_m1, zz_leT, zz_leF, zz_ltT, zz_ltF, zz_eqT, zz_eqF, zz_okN, zz_okF, nI_clamp, nI_add, pk_mul, pk_sub, zz_bS, zz_b2S, if_true, if_false, Bool.true_eq_false, Bool.false_eq_true, eq_self, ne_eq, not_true_eq_false, not_false_eq_true, false_or, or_false, true_or, or_true, and_true, true_and, and_false, false_and, mI_e, mI_e2, mI_le, mI_le2, mI_lt, mI_lt2, mI_ok, bI_0n, bI_1n, bI_orn, Nat.mul_zero, Nat.zero_add, Nat.add_zero, c_no2, c_no3, c_no4, c_no5, c_no6, r_no2, r_no3, r_no4, r_no5, r_no6, zk_inR, zk_in2, zk_in3, zk_wiN, Nat.reduceAdd, zl_0, zl_1, zl_2, zl_3, zl_4, zl_5, zl_6, zl_7, zl_8, zl_9, zl_10, zl_12, zl_13, zl_14, zl_15, zl_16, zl_20, zl_32, zl_40, zl_48, zl_57, zl_59, zl_60, zl_63, zl_64, zl_97, zl_99, zl_101, zl_119, zl_120, zl_122, zl_128, zl_136, zl_152, zl_168, zl_184, zl_200, zl_201, zl_202, zl_203, zl_250, zl_255, zl_320, zl_999, zl_1000, zu_s, zu_k, zu_j, zu_i, zu_l, zv_s, zv_k, zv_j, zv_i, zv_l, e.i (show 36 ∉ [22, 23, 24, 25, 26, 27, 28, 29] by decide) 0 (128 + i), q]
      exact h2
  have first : ∀ k i n, i + k = 64 → k < n → (∀ m1, zE [22, 23, 24, 25, 26, 27, 28, 29] m m1 → (∀ j, j ∉ [1, 4, 9] → m1.1 22 0 j = m.1 22 0 j) → (∀ c, c < i → m1.1 23 0 c = bI (gW G c) ∧ m1.1 25 0 c = nI (G.1 2 c)) → ∃ m2, F_X11_again_36_L2 n m1 (nI i) = some m2 ∧ zLo m m2 G) := by
    refine zz_loop 64 (fun n => ?_) (fun n i hi ih => ?_)
    · intro m1 e h22 hw
      obtain ⟨m2, h2, h3⟩ := mid 8 0 ax_FU rfl (by decide) m1 e h22 hw (fun p hp => by omega)
      refine ⟨m2, ?_, h3⟩
      rw [F_X11_again_36_L2]
      simp (disch := omega) only [↓zl_m1, zz_leT, zz_leF, zz_ltT, zz_ltF, zz_eqT, zz_eqF, zz_okN, zz_okF, nI_clamp, nI_add, pk_mul, pk_sub, zz_bS, zz_b2S, if_true, if_false, Bool.true_eq_false, Bool.false_eq_true, eq_self, ne_eq, not_true_eq_false, not_false_eq_true, false_or, or_false, true_or, or_true, and_true, true_and, and_false, false_and, mI_e, mI_e2, mI_le, mI_le2, mI_lt, mI_lt2, mI_ok, bI_0n, bI_1n, bI_orn, Nat.mul_zero, Nat.zero_add, Nat.add_zero, c_no2, c_no3, c_no4, c_no5, c_no6, r_no2, r_no3, r_no4, r_no5, r_no6, zk_inR, zk_in2, zk_in3, zk_wiN, Nat.reduceAdd, zl_0, zl_1, zl_2, zl_3, zl_4, zl_5, zl_6, zl_7, zl_8, zl_9, zl_10, zl_12, zl_13, zl_14, zl_15, zl_16, zl_20, zl_32, zl_40, zl_48, zl_57, zl_59, zl_60, zl_63, zl_64, zl_97, zl_99, zl_101, zl_119, zl_120, zl_122, zl_128, zl_136, zl_152, zl_168, zl_184, zl_200, zl_201, zl_202, zl_203, zl_250, zl_255, zl_320, zl_999, zl_1000]
      exact h2
    · intro m1 e h22 hw
      have q := h.2.2.2.1 i hi
      have q2 := h.2.2.2.2.2.1 (i / 8) (i % 8) (by omega) (by omega)
      unfold gD at q2
      rw [show 8 * (i / 8) + i % 8 = i by omega] at q2
      obtain ⟨m2, h2, h3⟩ := ih (ax_ui (ax_ui m1 23 0 i (bI (gW G i))) 25 0 i (nI (G.1 2 i))) ((e.ui (by decide)).ui (by decide)) (fun j hj => by rw [zu_k (by decide), zu_k (by decide)]; exact h22 j hj) (fun c hc => by
        by_cases e1 : c = i
        · subst e1; rw [zu_k (by decide), zu_s, zu_s]; exact ⟨rfl, rfl⟩
        · rw [zu_k (by decide), zu_j e1, zu_j e1, zu_k (by decide)]; exact hw c (by omega))
      refine ⟨m2, ?_, h3⟩
      rw [F_X11_again_36_L2]
      cases hb : gW G i with
      | false =>
        rw [hb] at h2 q
        simp (disch := omega) only [↓zl_m1, zz_leT, zz_leF, zz_ltT, zz_ltF, zz_eqT, zz_eqF, zz_okN, zz_okF, nI_clamp, nI_add, pk_mul, pk_sub, zz_bS, zz_b2S, if_true, if_false, Bool.true_eq_false, Bool.false_eq_true, eq_self, ne_eq, not_true_eq_false, not_false_eq_true, false_or, or_false, true_or, or_true, and_true, true_and, and_false, false_and, mI_e, mI_e2, mI_le, mI_le2, mI_lt, mI_lt2, mI_ok, bI_0n, bI_1n, bI_orn, Nat.mul_zero, Nat.zero_add, Nat.add_zero, c_no2, c_no3, c_no4, c_no5, c_no6, r_no2, r_no3, r_no4, r_no5, r_no6, zk_inR, zk_in2, zk_in3, zk_wiN, Nat.reduceAdd, zl_0, zl_1, zl_2, zl_3, zl_4, zl_5, zl_6, zl_7, zl_8, zl_9, zl_10, zl_12, zl_13, zl_14, zl_15, zl_16, zl_20, zl_32, zl_40, zl_48, zl_57, zl_59, zl_60, zl_63, zl_64, zl_97, zl_99, zl_101, zl_119, zl_120, zl_122, zl_128, zl_136, zl_152, zl_168, zl_184, zl_200, zl_201, zl_202, zl_203, zl_250, zl_255, zl_320, zl_999, zl_1000, zu_s, zu_k, zu_j, zu_i, zu_l, zv_s, zv_k, zv_j, zv_i, zv_l, e.i (show 36 ∉ [22, 23, 24, 25, 26, 27, 28, 29] by decide) 0 i, e.i (show 36 ∉ [22, 23, 24, 25, 26, 27, 28, 29] by decide) 0 (64 + i), q, q2]
        exact h2
      | true =>
        rw [hb] at h2 q
        simp (disch := omega) only [↓zl_m1, zz_leT, zz_leF, zz_ltT, zz_ltF, zz_eqT, zz_eqF, zz_okN, zz_okF, nI_clamp, nI_add, pk_mul, pk_sub, zz_bS, zz_b2S, if_true, if_false, Bool.true_eq_false, Bool.false_eq_true, eq_self, ne_eq, not_true_eq_false, not_false_eq_true, false_or, or_false, true_or, or_true, and_true, true_and, and_false, false_and, mI_e, mI_e2, mI_le, mI_le2, mI_lt, mI_lt2, mI_ok, bI_0n, bI_1n, bI_orn, Nat.mul_zero, Nat.zero_add, Nat.add_zero, c_no2, c_no3, c_no4, c_no5, c_no6, r_no2, r_no3, r_no4, r_no5, r_no6, zk_inR, zk_in2, zk_in3, zk_wiN, Nat.reduceAdd, zl_0, zl_1, zl_2, zl_3, zl_4, zl_5, zl_6, zl_7, zl_8, zl_9, zl_10, zl_12, zl_13, zl_14, zl_15, zl_16, zl_20, zl_32, zl_40, zl_48, zl_57, zl_59, zl_60, zl_63, zl_64, zl_97, zl_99, zl_101, zl_119, zl_120, zl_122, zl_128, zl_136, zl_152, zl_168, zl_184, zl_200, zl_201, zl_202, zl_203, zl_250, zl_255, zl_320, zl_999, zl_1000, zu_s, zu_k, zu_j, zu_i, zu_l, zv_s, zv_k, zv_j, zv_i, zv_l, e.i (show 36 ∉ [22, 23, 24, 25, 26, 27, 28, 29] by decide) 0 i, e.i (show 36 ∉ [22, 23, 24, 25, 26, 27, 28, 29] by decide) 0 (64 + i), q, q2]
        exact h2
  exact first 64 0 ax_FU rfl (by decide) m (zE.rf _ _) (fun _ _ => rfl) (fun c hc => by omega)
theorem r_keep35 {m : ax_M} {G : zG} (h : zL m G) : ∃ m1, F_X11_keep_35 m = some m1 ∧ zO m1 35 G ∧ zE [35] m m1 := by
  have last : ∀ k i n, i + k = 16 → k < n → (∀ m1, zE [35] m m1 → (∀ j, j < 136 ∨ (136 ≤ j ∧ j < 136 + i) ∨ (152 ≤ j ∧ j < 152 + i) ∨ (168 ≤ j ∧ j < 168 + i) ∨ (184 ≤ j ∧ j < 184 + i) → m1.1 35 0 j = zOf G j) → ∃ m2, F_X11_keep_35_L45 n m1 (nI i) = some m2 ∧ zE [35] m m2 ∧ (∀ j, j < 202 → m2.1 35 0 j = zOf G j) ∧ m2.1 35 0 202 = gZ G) := by
    refine zz_loop 16 (fun n => ?_) (fun n i hi ih => ?_)
    · intro m1 e hj
      refine ⟨ax_ui (ax_ui (ax_ui m1 35 0 200 (nI (gP G))) 35 0 201 (nI (gS G))) 35 0 202 (gZ G), ?_, ((e.ui (by decide)).ui (by decide)).ui (by decide), fun j hj2 => ?_, zu_s⟩
      · rw [F_X11_keep_35_L45]
        simp (disch := omega) only [↓zl_m1, zz_leT, zz_leF, zz_ltT, zz_ltF, zz_eqT, zz_eqF, zz_okN, zz_okF, nI_clamp, nI_add, pk_mul, pk_sub, zz_bS, zz_b2S, if_true, if_false, Bool.true_eq_false, Bool.false_eq_true, eq_self, ne_eq, not_true_eq_false, not_false_eq_true, false_or, or_false, true_or, or_true, and_true, true_and, and_false, false_and, mI_e, mI_e2, mI_le, mI_le2, mI_lt, mI_lt2, mI_ok, bI_0n, bI_1n, bI_orn, Nat.mul_zero, Nat.zero_add, Nat.add_zero, c_no2, c_no3, c_no4, c_no5, c_no6, r_no2, r_no3, r_no4, r_no5, r_no6, zk_inR, zk_in2, zk_in3, zk_wiN, Nat.reduceAdd, zl_0, zl_1, zl_2, zl_3, zl_4, zl_5, zl_6, zl_7, zl_8, zl_9, zl_10, zl_12, zl_13, zl_14, zl_15, zl_16, zl_20, zl_32, zl_40, zl_48, zl_57, zl_59, zl_60, zl_63, zl_64, zl_97, zl_99, zl_101, zl_119, zl_120, zl_122, zl_128, zl_136, zl_152, zl_168, zl_184, zl_200, zl_201, zl_202, zl_203, zl_250, zl_255, zl_320, zl_999, zl_1000, zu_s, zu_k, zu_j, zu_i, zu_l, zv_s, zv_k, zv_j, zv_i, zv_l, e.i (show 22 ∉ [35] by decide) 0 1, e.i (show 22 ∉ [35] by decide) 0 4, e.i (show 22 ∉ [35] by decide) 0 9, h.p, h.s, h.e]
      · rw [zu_j (by omega)]
        by_cases e1 : j = 201
        · subst e1; rw [zu_s]; rfl
        · rw [zu_j e1]
          by_cases e2 : j = 200
          · subst e2; rw [zu_s]; rfl
          · rw [zu_j e2]; exact hj j (by omega)
    · intro m1 e hj
      have x1 : zOf G (136 + i) = nI (gK G i) := zOf_k G hi
      have x2 : zOf G (152 + i) = nI (gA G i) := zOf_a G hi
      have x3 : zOf G (168 + i) = nI (gC G i) := zOf_c G hi
      have x4 : zOf G (184 + i) = nI (gR G i) := zOf_r G hi
      obtain ⟨m2, h2, h3⟩ := ih (ax_ui (ax_ui (ax_ui (ax_ui m1 35 0 (136 + i) (nI (gK G i))) 35 0 (152 + i) (nI (gA G i))) 35 0 (168 + i) (nI (gC G i))) 35 0 (184 + i) (nI (gR G i))) ((((e.ui (by decide)).ui (by decide)).ui (by decide)).ui (by decide)) (fun j hj2 => by
        by_cases e4 : j = 184 + i
        · subst e4; rw [zu_s, x4]
        · rw [zu_j e4]
          by_cases e3 : j = 168 + i
          · subst e3; rw [zu_s, x3]
          · rw [zu_j e3]
            by_cases e2 : j = 152 + i
            · subst e2; rw [zu_s, x2]
            · rw [zu_j e2]
              by_cases e1 : j = 136 + i
              · subst e1; rw [zu_s, x1]
              · rw [zu_j e1]; exact hj j (by omega))
      refine ⟨m2, ?_, h3⟩
      rw [F_X11_keep_35_L45]
      simp (disch := omega) only [↓zl_m1, zz_leT, zz_leF, zz_ltT, zz_ltF, zz_eqT, zz_eqF, zz_okN, zz_okF, nI_clamp, nI_add, pk_mul, pk_sub, zz_bS, zz_b2S, if_true, if_false, Bool.true_eq_false, Bool.false_eq_true, eq_self, ne_eq, not_true_eq_false, not_false_eq_true, false_or, or_false, true_or, or_true, and_true, true_and, and_false, false_and, mI_e, mI_e2, mI_le, mI_le2, mI_lt, mI_lt2, mI_ok, bI_0n, bI_1n, bI_orn, Nat.mul_zero, Nat.zero_add, Nat.add_zero, c_no2, c_no3, c_no4, c_no5, c_no6, r_no2, r_no3, r_no4, r_no5, r_no6, zk_inR, zk_in2, zk_in3, zk_wiN, Nat.reduceAdd, zl_0, zl_1, zl_2, zl_3, zl_4, zl_5, zl_6, zl_7, zl_8, zl_9, zl_10, zl_12, zl_13, zl_14, zl_15, zl_16, zl_20, zl_32, zl_40, zl_48, zl_57, zl_59, zl_60, zl_63, zl_64, zl_97, zl_99, zl_101, zl_119, zl_120, zl_122, zl_128, zl_136, zl_152, zl_168, zl_184, zl_200, zl_201, zl_202, zl_203, zl_250, zl_255, zl_320, zl_999, zl_1000, zu_s, zu_k, zu_j, zu_i, zu_l, zv_s, zv_k, zv_j, zv_i, zv_l, e.i (show 26 ∉ [35] by decide) 0 i, e.i (show 27 ∉ [35] by decide) 0 i, e.i (show 28 ∉ [35] by decide) 0 i, e.i (show 29 ∉ [35] by decide) 0 i, h.k hi, h.a hi, h.c hi, h.r hi]
      exact h2
  have mid : ∀ k i n, i + k = 8 → k < n → (∀ m1, zE [35] m m1 → (∀ j, j < 128 + i → m1.1 35 0 j = zOf G j) → ∃ m2, F_X11_keep_35_L29 n m1 (nI i) = some m2 ∧ zE [35] m m2 ∧ (∀ j, j < 202 → m2.1 35 0 j = zOf G j) ∧ m2.1 35 0 202 = gZ G) := by
    refine zz_loop 8 (fun n => ?_) (fun n i hi ih => ?_)
    · intro m1 e hj
      obtain ⟨m2, h2, h3⟩ := last 16 0 ax_FU rfl (by decide) m1 e (fun j hj2 => hj j (by omega))
      refine ⟨m2, ?_, h3⟩
      rw [F_X11_keep_35_L29]
      simp (disch := omega) only [↓zl_m1, zz_leT, zz_leF, zz_ltT, zz_ltF, zz_eqT, zz_eqF, zz_okN, zz_okF, nI_clamp, nI_add, pk_mul, pk_sub, zz_bS, zz_b2S, if_true, if_false, Bool.true_eq_false, Bool.false_eq_true, eq_self, ne_eq, not_true_eq_false, not_false_eq_true, false_or, or_false, true_or, or_true, and_true, true_and, and_false, false_and, mI_e, mI_e2, mI_le, mI_le2, mI_lt, mI_lt2, mI_ok, bI_0n, bI_1n, bI_orn, Nat.mul_zero, Nat.zero_add, Nat.add_zero, c_no2, c_no3, c_no4, c_no5, c_no6, r_no2, r_no3, r_no4, r_no5, r_no6, zk_inR, zk_in2, zk_in3, zk_wiN, Nat.reduceAdd, zl_0, zl_1, zl_2, zl_3, zl_4, zl_5, zl_6, zl_7, zl_8, zl_9, zl_10, zl_12, zl_13, zl_14, zl_15, zl_16, zl_20, zl_32, zl_40, zl_48, zl_57, zl_59, zl_60, zl_63, zl_64, zl_97, zl_99, zl_101, zl_119, zl_120, zl_122, zl_128, zl_136, zl_152, zl_168, zl_184, zl_200, zl_201, zl_202, zl_203, zl_250, zl_255, zl_320, zl_999, zl_1000]
      exact h2
    · intro m1 e hj
      have x1 : zOf G (128 + i) = nI (gO G i) := zOf_o G hi
      obtain ⟨m2, h2, h3⟩ := ih (ax_ui m1 35 0 (128 + i) (nI (gO G i))) (e.ui (by decide)) (fun j hj2 => by
        by_cases e1 : j = 128 + i
        · subst e1; rw [zu_s, x1]
        · rw [zu_j e1]; exact hj j (by omega))
      refine ⟨m2, ?_, h3⟩
      rw [F_X11_keep_35_L29]
      simp (disch := omega) only [↓zl_m1, zz_leT, zz_leF, zz_ltT, zz_ltF, zz_eqT, zz_eqF, zz_okN, zz_okF, nI_clamp, nI_add, pk_mul, pk_sub, zz_bS, zz_b2S, if_true, if_false, Bool.true_eq_false, Bool.false_eq_true, eq_self, ne_eq, not_true_eq_false, not_false_eq_true, false_or, or_false, true_or, or_true, and_true, true_and, and_false, false_and, mI_e, mI_e2, mI_le, mI_le2, mI_lt, mI_lt2, mI_ok, bI_0n, bI_1n, bI_orn, Nat.mul_zero, Nat.zero_add, Nat.add_zero, c_no2, c_no3, c_no4, c_no5, c_no6, r_no2, r_no3, r_no4, r_no5, r_no6, zk_inR, zk_in2, zk_in3, zk_wiN, Nat.reduceAdd, zl_0, zl_1, zl_2, zl_3, zl_4, zl_5, zl_6, zl_7, zl_8, zl_9, zl_10, zl_12, zl_13, zl_14, zl_15, zl_16, zl_20, zl_32, zl_40, zl_48, zl_57, zl_59, zl_60, zl_63, zl_64, zl_97, zl_99, zl_101, zl_119, zl_120, zl_122, zl_128, zl_136, zl_152, zl_168, zl_184, zl_200, zl_201, zl_202, zl_203, zl_250, zl_255, zl_320, zl_999, zl_1000, zu_s, zu_k, zu_j, zu_i, zu_l, zv_s, zv_k, zv_j, zv_i, zv_l, e.i (show 24 ∉ [35] by decide) 0 i, h.o hi]
      exact h2
  have first : ∀ k i n, i + k = 64 → k < n → (∀ m1, zE [35] m m1 → (∀ j, j < i ∨ (64 ≤ j ∧ j < 64 + i) → m1.1 35 0 j = zOf G j) → ∃ m2, F_X11_keep_35_L2 n m1 (nI i) = some m2 ∧ zE [35] m m2 ∧ (∀ j, j < 202 → m2.1 35 0 j = zOf G j) ∧ m2.1 35 0 202 = gZ G) := by
    refine zz_loop 64 (fun n => ?_) (fun n i hi ih => ?_)
    · intro m1 e hj
      obtain ⟨m2, h2, h3⟩ := mid 8 0 ax_FU rfl (by decide) m1 e (fun j hj2 => hj j (by omega))
      refine ⟨m2, ?_, h3⟩
      rw [F_X11_keep_35_L2]
      simp (disch := omega) only [↓zl_m1, zz_leT, zz_leF, zz_ltT, zz_ltF, zz_eqT, zz_eqF, zz_okN, zz_okF, nI_clamp, nI_add, pk_mul, pk_sub, zz_bS, zz_b2S, if_true, if_false, Bool.true_eq_false, Bool.false_eq_true, eq_self, ne_eq, not_true_eq_false, not_false_eq_true, false_or, or_false, true_or, or_true, and_true, true_and, and_false, false_and, mI_e, mI_e2, mI_le, mI_le2, mI_lt, mI_lt2, mI_ok, bI_0n, bI_1n, bI_orn, Nat.mul_zero, Nat.zero_add, Nat.add_zero, c_no2, c_no3, c_no4, c_no5, c_no6, r_no2, r_no3, r_no4, r_no5, r_no6, zk_inR, zk_in2, zk_in3, zk_wiN, Nat.reduceAdd, zl_0, zl_1, zl_2, zl_3, zl_4, zl_5, zl_6, zl_7, zl_8, zl_9, zl_10, zl_12, zl_13, zl_14, zl_15, zl_16, zl_20, zl_32, zl_40, zl_48, zl_57, zl_59, zl_60, zl_63, zl_64, zl_97, zl_99, zl_101, zl_119, zl_120, zl_122, zl_128, zl_136, zl_152, zl_168, zl_184, zl_200, zl_201, zl_202, zl_203, zl_250, zl_255, zl_320, zl_999, zl_1000]
      exact h2
    · intro m1 e hj
      have x1 : zOf G i = bI (gW G i) := zOf_w G hi
      have x2 : zOf G (64 + i) = nI (G.1 2 i) := zOf_d G hi
      have hd := h.d (x := i / 8) (y := i % 8) (by omega) (by omega)
      unfold gD at hd
      rw [show 8 * (i / 8) + i % 8 = i by omega] at hd
      obtain ⟨m2, h2, h3⟩ := ih (ax_ui (ax_ui m1 35 0 i (bI (gW G i))) 35 0 (64 + i) (nI (G.1 2 i))) ((e.ui (by decide)).ui (by decide)) (fun j hj2 => by
        by_cases e1 : j = 64 + i
        · subst e1; rw [zu_s, x2]
        · rw [zu_j e1]
          by_cases e2 : j = i
          · subst e2; rw [zu_s, x1]
          · rw [zu_j e2]; exact hj j (by omega))
      refine ⟨m2, ?_, h3⟩
      rw [F_X11_keep_35_L2]
      cases hw : gW G i with
      | false =>
        rw [hw] at h2
        simp (disch := omega) only [↓zl_m1, zz_leT, zz_leF, zz_ltT, zz_ltF, zz_eqT, zz_eqF, zz_okN, zz_okF, nI_clamp, nI_add, pk_mul, pk_sub, zz_bS, zz_b2S, if_true, if_false, Bool.true_eq_false, Bool.false_eq_true, eq_self, ne_eq, not_true_eq_false, not_false_eq_true, false_or, or_false, true_or, or_true, and_true, true_and, and_false, false_and, mI_e, mI_e2, mI_le, mI_le2, mI_lt, mI_lt2, mI_ok, bI_0n, bI_1n, bI_orn, Nat.mul_zero, Nat.zero_add, Nat.add_zero, c_no2, c_no3, c_no4, c_no5, c_no6, r_no2, r_no3, r_no4, r_no5, r_no6, zk_inR, zk_in2, zk_in3, zk_wiN, Nat.reduceAdd, zl_0, zl_1, zl_2, zl_3, zl_4, zl_5, zl_6, zl_7, zl_8, zl_9, zl_10, zl_12, zl_13, zl_14, zl_15, zl_16, zl_20, zl_32, zl_40, zl_48, zl_57, zl_59, zl_60, zl_63, zl_64, zl_97, zl_99, zl_101, zl_119, zl_120, zl_122, zl_128, zl_136, zl_152, zl_168, zl_184, zl_200, zl_201, zl_202, zl_203, zl_250, zl_255, zl_320, zl_999, zl_1000, zu_s, zu_k, zu_j, zu_i, zu_l, zv_s, zv_k, zv_j, zv_i, zv_l, e.i (show 23 ∉ [35] by decide) 0 i, e.i (show 25 ∉ [35] by decide) 0 i, h.w hi, hw, hd]
        exact h2
      | true =>
        rw [hw] at h2
        simp (disch := omega) only [↓zl_m1, zz_leT, zz_leF, zz_ltT, zz_ltF, zz_eqT, zz_eqF, zz_okN, zz_okF, nI_clamp, nI_add, pk_mul, pk_sub, zz_bS, zz_b2S, if_true, if_false, Bool.true_eq_false, Bool.false_eq_true, eq_self, ne_eq, not_true_eq_false, not_false_eq_true, false_or, or_false, true_or, or_true, and_true, true_and, and_false, false_and, mI_e, mI_e2, mI_le, mI_le2, mI_lt, mI_lt2, mI_ok, bI_0n, bI_1n, bI_orn, Nat.mul_zero, Nat.zero_add, Nat.add_zero, c_no2, c_no3, c_no4, c_no5, c_no6, r_no2, r_no3, r_no4, r_no5, r_no6, zk_inR, zk_in2, zk_in3, zk_wiN, Nat.reduceAdd, zl_0, zl_1, zl_2, zl_3, zl_4, zl_5, zl_6, zl_7, zl_8, zl_9, zl_10, zl_12, zl_13, zl_14, zl_15, zl_16, zl_20, zl_32, zl_40, zl_48, zl_57, zl_59, zl_60, zl_63, zl_64, zl_97, zl_99, zl_101, zl_119, zl_120, zl_122, zl_128, zl_136, zl_152, zl_168, zl_184, zl_200, zl_201, zl_202, zl_203, zl_250, zl_255, zl_320, zl_999, zl_1000, zu_s, zu_k, zu_j, zu_i, zu_l, zv_s, zv_k, zv_j, zv_i, zv_l, e.i (show 23 ∉ [35] by decide) 0 i, e.i (show 25 ∉ [35] by decide) 0 i, h.w hi, hw, hd]
        exact h2
  obtain ⟨m2, h2, h3, h4, h5⟩ := first 64 0 ax_FU rfl (by decide) m (zE.rf _ _) (fun j hj => by omega)
  exact ⟨m2, h2, zO_of h4 h5, h3⟩
theorem r_again35 {m : ax_M} {G : zG} (h : zO m 35 G) : ∃ m1, F_X11_again_35 m = some m1 ∧ zLo m m1 G := by
  have last : ∀ k i n, i + k = 16 → k < n → (∀ m1, zE [22, 23, 24, 25, 26, 27, 28, 29] m m1 → (∀ j, j ∉ [1, 4, 9] → m1.1 22 0 j = m.1 22 0 j) → (∀ c, c < 64 → m1.1 23 0 c = bI (gW G c) ∧ m1.1 25 0 c = nI (G.1 2 c)) → (∀ p, p < 8 → m1.1 24 0 p = nI (gO G p)) → (∀ j, j < i → m1.1 26 0 j = nI (gK G j) ∧ m1.1 27 0 j = nI (gA G j) ∧ m1.1 28 0 j = nI (gC G j) ∧ m1.1 29 0 j = nI (gR G j)) → ∃ m2, F_X11_again_35_L46 n m1 (nI i) = some m2 ∧ zLo m m2 G) := by
    refine zz_loop 16 (fun n => ?_) (fun n i hi ih => ?_)
    · intro m1 e h22 hw ho hs
      refine ⟨ax_ui (ax_ui (ax_ui m1 22 0 1 (nI (gP G))) 22 0 4 (nI (gS G))) 22 0 9 (gZ G), ?_, ⟨⟨?_, ?_, ?_, fun c hc => ?_, fun p hp => ?_, fun x y hx hy => ?_, fun i hi => ?_⟩, ((e.ui (by decide)).ui (by decide)).ui (by decide), fun j hj => ?_⟩⟩
      · rw [F_X11_again_35_L46]
        simp (disch := omega) only [↓zl_m1, zz_leT, zz_leF, zz_ltT, zz_ltF, zz_eqT, zz_eqF, zz_okN, zz_okF, nI_clamp, nI_add, pk_mul, pk_sub, zz_bS, zz_b2S, if_true, if_false, Bool.true_eq_false, Bool.false_eq_true, eq_self, ne_eq, not_true_eq_false, not_false_eq_true, false_or, or_false, true_or, or_true, and_true, true_and, and_false, false_and, mI_e, mI_e2, mI_le, mI_le2, mI_lt, mI_lt2, mI_ok, bI_0n, bI_1n, bI_orn, Nat.mul_zero, Nat.zero_add, Nat.add_zero, c_no2, c_no3, c_no4, c_no5, c_no6, r_no2, r_no3, r_no4, r_no5, r_no6, zk_inR, zk_in2, zk_in3, zk_wiN, Nat.reduceAdd, zl_0, zl_1, zl_2, zl_3, zl_4, zl_5, zl_6, zl_7, zl_8, zl_9, zl_10, zl_12, zl_13, zl_14, zl_15, zl_16, zl_20, zl_32, zl_40, zl_48, zl_57, zl_59, zl_60, zl_63, zl_64, zl_97, zl_99, zl_101, zl_119, zl_120, zl_122, zl_128, zl_136, zl_152, zl_168, zl_184, zl_200, zl_201, zl_202, zl_203, zl_250, zl_255, zl_320, zl_999, zl_1000, zu_s, zu_k, zu_j, zu_i, zu_l, zv_s, zv_k, zv_j, zv_i, zv_l, e.i (show 35 ∉ [22, 23, 24, 25, 26, 27, 28, 29] by decide) 0 200, e.i (show 35 ∉ [22, 23, 24, 25, 26, 27, 28, 29] by decide) 0 201, e.i (show 35 ∉ [22, 23, 24, 25, 26, 27, 28, 29] by decide) 0 202, h.1, h.2.1, h.2.2.1]
      · rw [zu_j (by decide), zu_j (by decide), zu_s]
      · rw [zu_j (by decide), zu_s]
      · rw [zu_s]
      · rw [zu_k (by decide), zu_k (by decide), zu_k (by decide)]; exact (hw c hc).1
      · rw [zu_k (by decide), zu_k (by decide), zu_k (by decide)]; exact ho p hp
      · rw [zu_k (by decide), zu_k (by decide), zu_k (by decide)]; exact (hw _ (by omega)).2
      · have := hs i hi
        refine ⟨?_, ?_, ?_, ?_⟩ <;> rw [zu_k (by decide), zu_k (by decide), zu_k (by decide)]
        · exact this.1
        · exact this.2.1
        · exact this.2.2.1
        · exact this.2.2.2
      · rw [lo_j (by decide) hj, lo_j (by decide) hj, lo_j (by decide) hj]; exact h22 j hj
    · intro m1 e h22 hw ho hs
      have q := h.2.2.2.2.2.2 i hi
      obtain ⟨m2, h2, h3⟩ := ih (ax_ui (ax_ui (ax_ui (ax_ui m1 26 0 i (nI (gK G i))) 27 0 i (nI (gA G i))) 28 0 i (nI (gC G i))) 29 0 i (nI (gR G i))) ((((e.ui (by decide)).ui (by decide)).ui (by decide)).ui (by decide))
        (fun j hj => by rw [zu_k (by decide), zu_k (by decide), zu_k (by decide), zu_k (by decide)]; exact h22 j hj)
        (fun c hc => by rw [zu_k (by decide), zu_k (by decide), zu_k (by decide), zu_k (by decide), zu_k (by decide), zu_k (by decide), zu_k (by decide), zu_k (by decide)]; exact hw c hc)
        (fun p hp => by rw [zu_k (by decide), zu_k (by decide), zu_k (by decide), zu_k (by decide)]; exact ho p hp)
        (fun j hj => by
          rw [zu_k (show 26 ≠ 29 by decide), zu_k (show 26 ≠ 28 by decide), zu_k (show 26 ≠ 27 by decide), zu_k (show 27 ≠ 29 by decide), zu_k (show 27 ≠ 28 by decide), zu_k (show 28 ≠ 29 by decide)]
          by_cases e1 : j = i
          · subst e1
            rw [zu_s, zu_s, zu_s, zu_s]
            exact ⟨rfl, rfl, rfl, rfl⟩
          · simp (disch := omega) only [zu_s, zu_k, zu_j]
            exact hs j (by omega))
      refine ⟨m2, ?_, h3⟩
      rw [F_X11_again_35_L46]
      simp (disch := omega) only [↓zl_m1, zz_leT, zz_leF, zz_ltT, zz_ltF, zz_eqT, zz_eqF, zz_okN, zz_okF, nI_clamp, nI_add, pk_mul, pk_sub, zz_bS, zz_b2S, if_true, if_false, Bool.true_eq_false, Bool.false_eq_true, eq_self, ne_eq, not_true_eq_false, not_false_eq_true, false_or, or_false, true_or, or_true, and_true, true_and, and_false, false_and, mI_e, mI_e2, mI_le, mI_le2, mI_lt, mI_lt2, mI_ok, bI_0n, bI_1n, bI_orn, Nat.mul_zero, Nat.zero_add, Nat.add_zero, c_no2, c_no3, c_no4, c_no5, c_no6, r_no2, r_no3, r_no4, r_no5, r_no6, zk_inR, zk_in2, zk_in3, zk_wiN, Nat.reduceAdd, zl_0, zl_1, zl_2, zl_3, zl_4, zl_5, zl_6, zl_7, zl_8, zl_9, zl_10, zl_12, zl_13, zl_14, zl_15, zl_16, zl_20, zl_32, zl_40, zl_48, zl_57, zl_59, zl_60, zl_63, zl_64, zl_97, zl_99, zl_101, zl_119, zl_120, zl_122, zl_128, zl_136, zl_152, zl_168, zl_184, zl_200, zl_201, zl_202, zl_203, zl_250, zl_255, zl_320, zl_999, zl_1000, zu_s, zu_k, zu_j, zu_i, zu_l, zv_s, zv_k, zv_j, zv_i, zv_l, e.i (show 35 ∉ [22, 23, 24, 25, 26, 27, 28, 29] by decide) 0 (136 + i), e.i (show 35 ∉ [22, 23, 24, 25, 26, 27, 28, 29] by decide) 0 (152 + i), e.i (show 35 ∉ [22, 23, 24, 25, 26, 27, 28, 29] by decide) 0 (168 + i), e.i (show 35 ∉ [22, 23, 24, 25, 26, 27, 28, 29] by decide) 0 (184 + i), q.1, q.2.1, q.2.2.1, q.2.2.2]
      exact h2
  have mid : ∀ k i n, i + k = 8 → k < n → (∀ m1, zE [22, 23, 24, 25, 26, 27, 28, 29] m m1 → (∀ j, j ∉ [1, 4, 9] → m1.1 22 0 j = m.1 22 0 j) → (∀ c, c < 64 → m1.1 23 0 c = bI (gW G c) ∧ m1.1 25 0 c = nI (G.1 2 c)) → (∀ p, p < i → m1.1 24 0 p = nI (gO G p)) → ∃ m2, F_X11_again_35_L30 n m1 (nI i) = some m2 ∧ zLo m m2 G) := by
    refine zz_loop 8 (fun n => ?_) (fun n i hi ih => ?_)
    · intro m1 e h22 hw ho
      obtain ⟨m2, h2, h3⟩ := last 16 0 ax_FU rfl (by decide) m1 e h22 hw ho (fun j hj => by omega)
      refine ⟨m2, ?_, h3⟩
      rw [F_X11_again_35_L30]
      simp (disch := omega) only [↓zl_m1, zz_leT, zz_leF, zz_ltT, zz_ltF, zz_eqT, zz_eqF, zz_okN, zz_okF, nI_clamp, nI_add, pk_mul, pk_sub, zz_bS, zz_b2S, if_true, if_false, Bool.true_eq_false, Bool.false_eq_true, eq_self, ne_eq, not_true_eq_false, not_false_eq_true, false_or, or_false, true_or, or_true, and_true, true_and, and_false, false_and, mI_e, mI_e2, mI_le, mI_le2, mI_lt, mI_lt2, mI_ok, bI_0n, bI_1n, bI_orn, Nat.mul_zero, Nat.zero_add, Nat.add_zero, c_no2, c_no3, c_no4, c_no5, c_no6, r_no2, r_no3, r_no4, r_no5, r_no6, zk_inR, zk_in2, zk_in3, zk_wiN, Nat.reduceAdd, zl_0, zl_1, zl_2, zl_3, zl_4, zl_5, zl_6, zl_7, zl_8, zl_9, zl_10, zl_12, zl_13, zl_14, zl_15, zl_16, zl_20, zl_32, zl_40, zl_48, zl_57, zl_59, zl_60, zl_63, zl_64, zl_97, zl_99, zl_101, zl_119, zl_120, zl_122, zl_128, zl_136, zl_152, zl_168, zl_184, zl_200, zl_201, zl_202, zl_203, zl_250, zl_255, zl_320, zl_999, zl_1000]
      exact h2
    · intro m1 e h22 hw ho
      have q := h.2.2.2.2.1 i hi
      obtain ⟨m2, h2, h3⟩ := ih (ax_ui m1 24 0 i (nI (gO G i))) (e.ui (by decide)) (fun j hj => by rw [zu_k (by decide)]; exact h22 j hj) (fun c hc => by rw [zu_k (by decide), zu_k (by decide)]; exact hw c hc) (fun p hp => by
        by_cases e1 : p = i
        · subst e1; rw [zu_s]
        · rw [zu_j e1]; exact ho p (by omega))
      refine ⟨m2, ?_, h3⟩
      rw [F_X11_again_35_L30]
      simp (disch := omega) only [↓zl_m1, zz_leT, zz_leF, zz_ltT, zz_ltF, zz_eqT, zz_eqF, zz_okN, zz_okF, nI_clamp, nI_add, pk_mul, pk_sub, zz_bS, zz_b2S, if_true, if_false, Bool.true_eq_false, Bool.false_eq_true, eq_self, ne_eq, not_true_eq_false, not_false_eq_true, false_or, or_false, true_or, or_true, and_true, true_and, and_false, false_and, mI_e, mI_e2, mI_le, mI_le2, mI_lt, mI_lt2, mI_ok, bI_0n, bI_1n, bI_orn, Nat.mul_zero, Nat.zero_add, Nat.add_zero, c_no2, c_no3, c_no4, c_no5, c_no6, r_no2, r_no3, r_no4, r_no5, r_no6, zk_inR, zk_in2, zk_in3, zk_wiN, Nat.reduceAdd, zl_0, zl_1, zl_2, zl_3, zl_4, zl_5, zl_6, zl_7, zl_8, zl_9, zl_10, zl_12, zl_13, zl_14, zl_15, zl_16, zl_20, zl_32, zl_40, zl_48, zl_57, zl_59, zl_60, zl_63, zl_64, zl_97, zl_99, zl_101, zl_119, zl_120, zl_122, zl_128, zl_136, zl_152, zl_168, zl_184, zl_200, zl_201, zl_202, zl_203, zl_250, zl_255, zl_320, zl_999, zl_1000, zu_s, zu_k, zu_j, zu_i, zu_l, zv_s, zv_k, zv_j, zv_i, zv_l, e.i (show 35 ∉ [22, 23, 24, 25, 26, 27, 28, 29] by decide) 0 (128 + i), q]
      exact h2
  have first : ∀ k i n, i + k = 64 → k < n → (∀ m1, zE [22, 23, 24, 25, 26, 27, 28, 29] m m1 → (∀ j, j ∉ [1, 4, 9] → m1.1 22 0 j = m.1 22 0 j) → (∀ c, c < i → m1.1 23 0 c = bI (gW G c) ∧ m1.1 25 0 c = nI (G.1 2 c)) → ∃ m2, F_X11_again_35_L2 n m1 (nI i) = some m2 ∧ zLo m m2 G) := by
    refine zz_loop 64 (fun n => ?_) (fun n i hi ih => ?_)
    · intro m1 e h22 hw
      obtain ⟨m2, h2, h3⟩ := mid 8 0 ax_FU rfl (by decide) m1 e h22 hw (fun p hp => by omega)
      refine ⟨m2, ?_, h3⟩
      rw [F_X11_again_35_L2]
      simp (disch := omega) only [↓zl_m1, zz_leT, zz_leF, zz_ltT, zz_ltF, zz_eqT, zz_eqF, zz_okN, zz_okF, nI_clamp, nI_add, pk_mul, pk_sub, zz_bS, zz_b2S, if_true, if_false, Bool.true_eq_false, Bool.false_eq_true, eq_self, ne_eq, not_true_eq_false, not_false_eq_true, false_or, or_false, true_or, or_true, and_true, true_and, and_false, false_and, mI_e, mI_e2, mI_le, mI_le2, mI_lt, mI_lt2, mI_ok, bI_0n, bI_1n, bI_orn, Nat.mul_zero, Nat.zero_add, Nat.add_zero, c_no2, c_no3, c_no4, c_no5, c_no6, r_no2, r_no3, r_no4, r_no5, r_no6, zk_inR, zk_in2, zk_in3, zk_wiN, Nat.reduceAdd, zl_0, zl_1, zl_2, zl_3, zl_4, zl_5, zl_6, zl_7, zl_8, zl_9, zl_10, zl_12, zl_13, zl_14, zl_15, zl_16, zl_20, zl_32, zl_40, zl_48, zl_57, zl_59, zl_60, zl_63, zl_64, zl_97, zl_99, zl_101, zl_119, zl_120, zl_122, zl_128, zl_136, zl_152, zl_168, zl_184, zl_200, zl_201, zl_202, zl_203, zl_250, zl_255, zl_320, zl_999, zl_1000]
      exact h2
    · intro m1 e h22 hw
      have q := h.2.2.2.1 i hi
      have q2 := h.2.2.2.2.2.1 (i / 8) (i % 8) (by omega) (by omega)
      unfold gD at q2
      rw [show 8 * (i / 8) + i % 8 = i by omega] at q2
      obtain ⟨m2, h2, h3⟩ := ih (ax_ui (ax_ui m1 23 0 i (bI (gW G i))) 25 0 i (nI (G.1 2 i))) ((e.ui (by decide)).ui (by decide)) (fun j hj => by rw [zu_k (by decide), zu_k (by decide)]; exact h22 j hj) (fun c hc => by
        by_cases e1 : c = i
        · subst e1; rw [zu_k (by decide), zu_s, zu_s]; exact ⟨rfl, rfl⟩
        · rw [zu_k (by decide), zu_j e1, zu_j e1, zu_k (by decide)]; exact hw c (by omega))
      refine ⟨m2, ?_, h3⟩
      rw [F_X11_again_35_L2]
      cases hb : gW G i with
      | false =>
        rw [hb] at h2 q
        simp (disch := omega) only [↓zl_m1, zz_leT, zz_leF, zz_ltT, zz_ltF, zz_eqT, zz_eqF, zz_okN, zz_okF, nI_clamp, nI_add, pk_mul, pk_sub, zz_bS, zz_b2S, if_true, if_false, Bool.true_eq_false, Bool.false_eq_true, eq_self, ne_eq, not_true_eq_false, not_false_eq_true, false_or, or_false, true_or, or_true, and_true, true_and, and_false, false_and, mI_e, mI_e2, mI_le, mI_le2, mI_lt, mI_lt2, mI_ok, bI_0n, bI_1n, bI_orn, Nat.mul_zero, Nat.zero_add, Nat.add_zero, c_no2, c_no3, c_no4, c_no5, c_no6, r_no2, r_no3, r_no4, r_no5, r_no6, zk_inR, zk_in2, zk_in3, zk_wiN, Nat.reduceAdd, zl_0, zl_1, zl_2, zl_3, zl_4, zl_5, zl_6, zl_7, zl_8, zl_9, zl_10, zl_12, zl_13, zl_14, zl_15, zl_16, zl_20, zl_32, zl_40, zl_48, zl_57, zl_59, zl_60, zl_63, zl_64, zl_97, zl_99, zl_101, zl_119, zl_120, zl_122, zl_128, zl_136, zl_152, zl_168, zl_184, zl_200, zl_201, zl_202, zl_203, zl_250, zl_255, zl_320, zl_999, zl_1000, zu_s, zu_k, zu_j, zu_i, zu_l, zv_s, zv_k, zv_j, zv_i, zv_l, e.i (show 35 ∉ [22, 23, 24, 25, 26, 27, 28, 29] by decide) 0 i, e.i (show 35 ∉ [22, 23, 24, 25, 26, 27, 28, 29] by decide) 0 (64 + i), q, q2]
        exact h2
      | true =>
        rw [hb] at h2 q
        simp (disch := omega) only [↓zl_m1, zz_leT, zz_leF, zz_ltT, zz_ltF, zz_eqT, zz_eqF, zz_okN, zz_okF, nI_clamp, nI_add, pk_mul, pk_sub, zz_bS, zz_b2S, if_true, if_false, Bool.true_eq_false, Bool.false_eq_true, eq_self, ne_eq, not_true_eq_false, not_false_eq_true, false_or, or_false, true_or, or_true, and_true, true_and, and_false, false_and, mI_e, mI_e2, mI_le, mI_le2, mI_lt, mI_lt2, mI_ok, bI_0n, bI_1n, bI_orn, Nat.mul_zero, Nat.zero_add, Nat.add_zero, c_no2, c_no3, c_no4, c_no5, c_no6, r_no2, r_no3, r_no4, r_no5, r_no6, zk_inR, zk_in2, zk_in3, zk_wiN, Nat.reduceAdd, zl_0, zl_1, zl_2, zl_3, zl_4, zl_5, zl_6, zl_7, zl_8, zl_9, zl_10, zl_12, zl_13, zl_14, zl_15, zl_16, zl_20, zl_32, zl_40, zl_48, zl_57, zl_59, zl_60, zl_63, zl_64, zl_97, zl_99, zl_101, zl_119, zl_120, zl_122, zl_128, zl_136, zl_152, zl_168, zl_184, zl_200, zl_201, zl_202, zl_203, zl_250, zl_255, zl_320, zl_999, zl_1000, zu_s, zu_k, zu_j, zu_i, zu_l, zv_s, zv_k, zv_j, zv_i, zv_l, e.i (show 35 ∉ [22, 23, 24, 25, 26, 27, 28, 29] by decide) 0 i, e.i (show 35 ∉ [22, 23, 24, 25, 26, 27, 28, 29] by decide) 0 (64 + i), q, q2]
        exact h2
  exact first 64 0 ax_FU rfl (by decide) m (zE.rf _ _) (fun _ _ => rfl) (fun c hc => by omega)
