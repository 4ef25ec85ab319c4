/-! CALLS, sixteenth: days -/
def zdr (z : Int32) : Int32 := z * 1103515245 + 12345
def gDr (z : Int32) (d : Nat) : Nat := (ti z / 65536) % d
theorem dr_rem (z : Int32) {d : Nat} (h0 : 0 < d) (hd : d < 2 ^ 31) : ax_irem (ax_iushr z (nI 16)) (nI d) = nI (gDr z d) := by
  have hz := ti_lt z
  have e : ax_iushr z (nI 16) = nI (ti z / 65536) := ti_ext (by rw [ti_shr 16 (by omega), ti_nI (by omega)])
  rw [e]
  exact pk_rem (by omega) h0 hd
theorem gDr_lt (z : Int32) {d : Nat} (h0 : 0 < d) : gDr z d < d := Nat.mod_lt _ h0
section
variable {m : ax_M} {g : Nat} {G : zG}
theorem c_draw (h : zC m g G) {d : Nat} (h0 : 0 < d) (hd : d < 2 ^ 31) : F_X3_draw m g (nI d) = some (nI (gDr (zdr (gZ G)) d), ax_ui m 1 g 6 (zdr (gZ G))) := by
  unfold F_X3_draw
  rw [h.e]
  show (if nI d ≤ 0 then _ else if nI d = 0 then none else some (ax_irem (ax_iushr ((ax_ui m 1 g 6 (zdr (gZ G))).1 1 g 6) 16) (nI d), ax_ui m 1 g 6 (zdr (gZ G)))) = _
  rw [zu_s]
  simp (disch := omega) only [↓zl_m1, zz_leT, zz_leF, zz_ltT, zz_ltF, zz_eqT, zz_eqF, zz_okN, zz_okF, nI_clamp, nI_add, pk_mul, pk_sub, zz_bS, zz_b2S, if_true, if_false, Bool.true_eq_false, Bool.false_eq_true, eq_self, ne_eq, not_true_eq_false, not_false_eq_true, false_or, or_false, true_or, or_true, and_true, true_and, and_false, false_and, mI_e, mI_e2, mI_le, mI_le2, mI_lt, mI_lt2, mI_ok, bI_0n, bI_1n, bI_orn, Nat.mul_zero, Nat.zero_add, Nat.add_zero, c_no2, c_no3, c_no4, c_no5, c_no6, r_no2, r_no3, r_no4, r_no5, r_no6, zk_inR, zk_in2, zk_in3, zk_wiN, Nat.reduceAdd, ngI_e, ngI_le, ngI_m, cs_cmpN, zl_0, zl_1, zl_2, zl_3, zl_4, zl_5, zl_6, zl_7, zl_8, zl_9, zl_10, zl_12, zl_13, zl_14, zl_15, zl_16, zl_20, zl_32, zl_40, zl_48, zl_57, zl_59, zl_60, zl_63, zl_64, zl_97, zl_99, zl_101, zl_119, zl_120, zl_122, zl_128, zl_136, zl_152, zl_168, zl_184, zl_200, zl_201, zl_202, zl_203, zl_250, zl_255, zl_320, zl_999, zl_1000, dr_rem _ h0 hd]
theorem r_draw (h : zL m G) {d : Nat} (h0 : 0 < d) (hd : d < 2 ^ 31) : F_X11_draw m (nI d) = some (nI (gDr (zdr (gZ G)) d), ax_ui m 22 0 9 (zdr (gZ G))) := by
  unfold F_X11_draw
  rw [h.e]
  show (if nI d = 0 then none else some (ax_irem (ax_iushr ((ax_ui m 22 0 9 (zdr (gZ G))).1 22 0 9) 16) (nI d), ax_ui m 22 0 9 (zdr (gZ G)))) = _
  rw [zu_s]
  simp (disch := omega) only [↓zl_m1, zz_leT, zz_leF, zz_ltT, zz_ltF, zz_eqT, zz_eqF, zz_okN, zz_okF, nI_clamp, nI_add, pk_mul, pk_sub, zz_bS, zz_b2S, if_true, if_false, Bool.true_eq_false, Bool.false_eq_true, eq_self, ne_eq, not_true_eq_false, not_false_eq_true, false_or, or_false, true_or, or_true, and_true, true_and, and_false, false_and, mI_e, mI_e2, mI_le, mI_le2, mI_lt, mI_lt2, mI_ok, bI_0n, bI_1n, bI_orn, Nat.mul_zero, Nat.zero_add, Nat.add_zero, c_no2, c_no3, c_no4, c_no5, c_no6, r_no2, r_no3, r_no4, r_no5, r_no6, zk_inR, zk_in2, zk_in3, zk_wiN, Nat.reduceAdd, ngI_e, ngI_le, ngI_m, cs_cmpN, zl_0, zl_1, zl_2, zl_3, zl_4, zl_5, zl_6, zl_7, zl_8, zl_9, zl_10, zl_12, zl_13, zl_14, zl_15, zl_16, zl_20, zl_32, zl_40, zl_48, zl_57, zl_59, zl_60, zl_63, zl_64, zl_97, zl_99, zl_101, zl_119, zl_120, zl_122, zl_128, zl_136, zl_152, zl_168, zl_184, zl_200, zl_201, zl_202, zl_203, zl_250, zl_255, zl_320, zl_999, zl_1000, dr_rem _ h0 hd]
theorem c_count {f : Nat → Nat → Bool} (h : zC m 0 G) (hV : zV G) (hs : ∀ p, p < gP G → m.1 21 0 p = zm (f p) (gS G)) : F_X10_countShowing m = some (nI (zc (fun i => zany (fun p => f p i) (gP G)) (gS G))) := by
  have hp := hV.p
  have hS := hV.s
  have key : ∀ k p n, p + k = gP G → k < n → F_X10_countShowing_L4 n m (zm (fun i => zany (fun p => f p i) p) (gS G)) (nI p) = some (nI (zc (fun i => zany (fun p => f p i) (gP G)) (gS G))) := by
    refine zz_loop (gP G) (fun n => ?_) (fun n p hp2 ih => ?_)
    · rw [F_X10_countShowing_L4, h.p, if_pos (Int32.le_refl _), J_bitM (by omega), zz_bS]
    · rw [F_X10_countShowing_L4]
      simp (disch := omega) only [↓zl_m1, zz_leT, zz_leF, zz_ltT, zz_ltF, zz_eqT, zz_eqF, zz_okN, zz_okF, nI_clamp, nI_add, pk_mul, pk_sub, zz_bS, zz_b2S, if_true, if_false, Bool.true_eq_false, Bool.false_eq_true, eq_self, ne_eq, not_true_eq_false, not_false_eq_true, false_or, or_false, true_or, or_true, and_true, true_and, and_false, false_and, mI_e, mI_e2, mI_le, mI_le2, mI_lt, mI_lt2, mI_ok, bI_0n, bI_1n, bI_orn, Nat.mul_zero, Nat.zero_add, Nat.add_zero, c_no2, c_no3, c_no4, c_no5, c_no6, r_no2, r_no3, r_no4, r_no5, r_no6, zk_inR, zk_in2, zk_in3, zk_wiN, Nat.reduceAdd, ngI_e, ngI_le, ngI_m, cs_cmpN, zl_0, zl_1, zl_2, zl_3, zl_4, zl_5, zl_6, zl_7, zl_8, zl_9, zl_10, zl_12, zl_13, zl_14, zl_15, zl_16, zl_20, zl_32, zl_40, zl_48, zl_57, zl_59, zl_60, zl_63, zl_64, zl_97, zl_99, zl_101, zl_119, zl_120, zl_122, zl_128, zl_136, zl_152, zl_168, zl_184, zl_200, zl_201, zl_202, zl_203, zl_250, zl_255, zl_320, zl_999, zl_1000, h.p, hs p hp2, zm_or (show gS G ≤ 32 by omega)]
      exact ih
  have k2 := key (gP G) 0 ax_FU (by omega) (by unfold ax_FU; omega)
  rw [(zm_0 (f := fun i => zany (fun p => f p i) 0) (n := gS G) (by omega)).mpr (fun i _ => rfl)] at k2
  exact k2
end
/-- who is drawn and which way being given -/
def gDw (G : zG) (z : Int32) (w k : Nat) : zG := match gGo G w k with
  | some d => zgz (zgu G 1 w d) z
  | none => zgz G z
theorem gDw_P (G : zG) (z : Int32) (w k : Nat) : gP (gDw G z w k) = gP G ∧ gS (gDw G z w k) = gS G := by
  unfold gDw
  split
  · exact ⟨rfl, rfl⟩
  · exact ⟨rfl, rfl⟩
theorem gDw_V {G : zG} (hV : zV G) {z : Int32} {w k : Nat} (hw : w < 8) : zV (gDw G z w k) := by
  unfold gDw
  cases e : gGo G w k with
  | some d =>
    have hd := gGo_w hV hw e
    exact hV.uo hd.1 hd.2
  | none => exact hV
theorem gDw_up {G : zG} {z : Int32} {w k i p : Nat} (h : p ≠ w) : gUp (gDw G z w k) i p = gUp G i p := by
  unfold gDw
  split
  · rename_i d _
    show (gN _ (gO (zgu G 1 w d) p) i && gE _ p i) = _
    rw [gO_s, if_neg h]
    rfl
  · rfl
/-- one day's step, on both -/
theorem c_day {m : ax_M} {G : zG} (hC : zC m 0 G) (hV : zV G) (h0 : 0 < gP G) (hs : ∀ p, p < gP G → m.1 21 0 p = zm (fun i => gUp G i p) (gS G)) {y1 y2 : Int32} {w k : Nat} (hy1 : y1 = zdr (gZ G)) (hy2 : y2 = zdr y1) (hw : w = gDr y1 (gP G)) (hk : k = gDr y2 4) (n : Nat) (N acc i : Int32) (hi : ¬ N ≤ i) :
    ∃ m1, F_X10_days_L39 (n + 1) m N acc i = F_X10_days_L39 n m1 N (acc + nI (zc (fun i => zany (gUp (gDw G y2 w k) i) (gP G)) (gS G))) (i + 1) ∧ zC m1 0 (gDw G y2 w k) ∧ zE [1, 2, 4, 6, 21] m m1 ∧ (∀ g2 K, g2 ≠ 0 → zC m g2 K → zC m1 g2 K) ∧ ∀ p, p < gP G → m1.1 21 0 p = zm (fun i => gUp (gDw G y2 w k) i p) (gS G) := by
  have hp := hV.p
  have hwP : w < gP G := by rw [hw]; exact gDr_lt _ h0
  have hk4 : k < 4 := by rw [hk]; exact gDr_lt _ (by decide)
  have hw8 : w < 8 := by omega
  have d1 := c_draw hC h0 (show gP G < 2 ^ 31 by omega)
  rw [← hy1, ← hw] at d1
  have z1 := go_z hC y1
  have d2 := c_draw z1.1 (d := 4) (by decide) (by decide)
  rw [show gZ (zgz G y1) = y1 from rfl, ← hy2, ← hk] at d2
  have z2 : zGo m (ax_ui (ax_ui m 1 0 6 y1) 1 0 6 y2) 0 (zgz G y2) := z1.tr (go_z z1.1 y2)
  have hV2 : zV (zgz G y2) := hV
  clear hy1 hy2 hw hk
  -- behind the step
  have fin : ∀ m2 x, F_X3_go (ax_ui (ax_ui m 1 0 6 y1) 1 0 6 y2) 0 (nI w) (nI k) = some (x, m2) → zGo m m2 0 (gDw G y2 w k) → ∃ m1, F_X10_days_L39 (n + 1) m N acc i = F_X10_days_L39 n m1 N (acc + nI (zc (fun i => zany (gUp (gDw G y2 w k) i) (gP G)) (gS G))) (i + 1) ∧ zC m1 0 (gDw G y2 w k) ∧ zE [1, 2, 4, 6, 21] m m1 ∧ (∀ g2 K, g2 ≠ 0 → zC m g2 K → zC m1 g2 K) ∧ ∀ p, p < gP G → m1.1 21 0 p = zm (fun i => gUp (gDw G y2 w k) i p) (gS G) := by
    intro m2 x hgo hz
    have hVd : zV (gDw G y2 w k) := gDw_V hV hw8
    obtain ⟨eP, eS⟩ := gDw_P G y2 w k
    have gup : ∀ i p, p ≠ w → gUp (gDw G y2 w k) i p = gUp G i p := fun i p h => gDw_up h
    generalize gDw G y2 w k = G2 at hz hVd eP eS gup ⊢
    have sb := c_shownBy hz.1 hVd hw8
    rw [eS] at sb
    have e3 : zE [1, 2, 4, 6, 21] m (ax_ui m2 21 0 w (zm (fun i => gUp G2 i w) (gS G))) := (hz.2.2.mo (by decide)).ui (by decide)
    have e21 : zE [21] m2 (ax_ui m2 21 0 w (zm (fun i => gUp G2 i w) (gS G))) := (zE.rf _ _).ui (by decide)
    have hs2 : ∀ p, p < gP G → (ax_ui m2 21 0 w (zm (fun i => gUp G2 i w) (gS G))).1 21 0 p = zm (fun i => gUp G2 i p) (gS G) := fun p hp2 => by
      by_cases e : p = w
      · subst e; exact zu_s
      · rw [zu_j e, (hz.2.2 21 (by decide)).1, hs p hp2]
        exact zm_congr (fun i _ => (gup i p e).symm)
    have hC3 : zC (ax_ui m2 21 0 w (zm (fun i => gUp G2 i w) (gS G))) 0 G2 := hz.1.E e21 (by decide)
    have cs := c_count (f := fun p i => gUp G2 i p) hC3 hVd (fun p hp2 => by rw [eS]; exact hs2 p (by rw [← eP]; exact hp2))
    rw [eP, eS] at cs
    refine ⟨_, ?_, hC3, e3, fun g2 K hg hK => (hz.2.1 g2 K hg hK).E e21 (by decide), hs2⟩
    rw [F_X10_days_L39, if_neg hi]
    simp (disch := omega) only [↓zl_m1, zz_leT, zz_leF, zz_ltT, zz_ltF, zz_eqT, zz_eqF, zz_okN, zz_okF, nI_clamp, nI_add, pk_mul, pk_sub, zz_bS, zz_b2S, if_true, if_false, Bool.true_eq_false, Bool.false_eq_true, eq_self, ne_eq, not_true_eq_false, not_false_eq_true, false_or, or_false, true_or, or_true, and_true, true_and, and_false, false_and, mI_e, mI_e2, mI_le, mI_le2, mI_lt, mI_lt2, mI_ok, bI_0n, bI_1n, bI_orn, Nat.mul_zero, Nat.zero_add, Nat.add_zero, c_no2, c_no3, c_no4, c_no5, c_no6, r_no2, r_no3, r_no4, r_no5, r_no6, zk_inR, zk_in2, zk_in3, zk_wiN, Nat.reduceAdd, ngI_e, ngI_le, ngI_m, cs_cmpN, zl_0, zl_1, zl_2, zl_3, zl_4, zl_5, zl_6, zl_7, zl_8, zl_9, zl_10, zl_12, zl_13, zl_14, zl_15, zl_16, zl_20, zl_32, zl_40, zl_48, zl_57, zl_59, zl_60, zl_63, zl_64, zl_97, zl_99, zl_101, zl_119, zl_120, zl_122, zl_128, zl_136, zl_152, zl_168, zl_184, zl_200, zl_201, zl_202, zl_203, zl_250, zl_255, zl_320, zl_999, zl_1000, hC.p, d1, d2, hgo, sb, cs]
  cases e : gGo G w k with
  | some d =>
    have e2 : gGo (zgz G y2) w k = some d := e
    have q : gDw G y2 w k = zgu (zgz G y2) 1 w d := by unfold gDw; rw [e]; rfl
    exact fin _ _ (c_goS z2.1 hV2 hw8 hk4 e2) (by rw [q]; exact z2.tr (go_o z2.1 hw8 d))
  | none =>
    have e2 : gGo (zgz G y2) w k = none := e
    have q : gDw G y2 w k = zgz G y2 := by unfold gDw; rw [e]
    exact fin _ _ (c_goN z2.1 hV2 hw8 hk4 e2) (by rw [q]; exact z2)
theorem r_day {m : ax_M} {G : zG} (hL : zL m G) (hV : zV G) (h0 : 0 < gP G) {y1 y2 : Int32} {w k : Nat} (hy1 : y1 = zdr (gZ G)) (hy2 : y2 = zdr y1) (hw : w = gDr y1 (gP G)) (hk : k = gDr y2 4) (n : Nat) (N acc i : Int32) (hi : ¬ N ≤ i) :
    ∃ m1, F_X11_days_L20 (n + 1) m N acc i = F_X11_days_L20 n m1 N (acc + nI (zc (fun i => zany (gUp (gDw G y2 w k) i) (gP G)) (gS G))) (i + 1) ∧ zLo m m1 (gDw G y2 w k) := by
  have hp := hV.p
  have hwP : w < gP G := by rw [hw]; exact gDr_lt _ h0
  have hk4 : k < 4 := by rw [hk]; exact gDr_lt _ (by decide)
  have hw8 : w < 8 := by omega
  have d1 := r_draw hL h0 (show gP G < 2 ^ 31 by omega)
  rw [← hy1, ← hw] at d1
  have z1 := lo_z hL y1
  have d2 := r_draw z1.1 (d := 4) (by decide) (by decide)
  rw [show gZ (zgz G y1) = y1 from rfl, ← hy2, ← hk] at d2
  have z2 : zLo m (ax_ui (ax_ui m 22 0 9 y1) 22 0 9 y2) (zgz G y2) := z1.tr (lo_z z1.1 y2)
  have hV2 : zV (zgz G y2) := hV
  clear hy1 hy2 hw hk
  have fin : ∀ m2 x, F_X11_goes (ax_ui (ax_ui m 22 0 9 y1) 22 0 9 y2) (nI w) (nI k) = some (x, m2) → zLo m m2 (gDw G y2 w k) → ∃ m1, F_X11_days_L20 (n + 1) m N acc i = F_X11_days_L20 n m1 N (acc + nI (zc (fun i => zany (gUp (gDw G y2 w k) i) (gP G)) (gS G))) (i + 1) ∧ zLo m m1 (gDw G y2 w k) := by
    intro m2 x hgo hz
    obtain ⟨eP, eS⟩ := gDw_P G y2 w k
    have hVd : zV (gDw G y2 w k) := gDw_V hV hw8
    generalize gDw G y2 w k = G2 at hz hVd eP eS ⊢
    have hSd := hVd.s
    have up := r_upAll hz.1 hVd
    rw [eP, eS] at up
    refine ⟨m2, ?_, hz⟩
    rw [eS] at hSd
    have jb := J_bitM (f := fun i => zany (gUp G2 i) (gP G)) (show gS G ≤ 32 by omega)
    rw [F_X11_days_L20, if_neg hi]
    simp (disch := omega) only [↓zl_m1, zz_leT, zz_leF, zz_ltT, zz_ltF, zz_eqT, zz_eqF, zz_okN, zz_okF, nI_clamp, nI_add, pk_mul, pk_sub, zz_bS, zz_b2S, if_true, if_false, Bool.true_eq_false, Bool.false_eq_true, eq_self, ne_eq, not_true_eq_false, not_false_eq_true, false_or, or_false, true_or, or_true, and_true, true_and, and_false, false_and, mI_e, mI_e2, mI_le, mI_le2, mI_lt, mI_lt2, mI_ok, bI_0n, bI_1n, bI_orn, Nat.mul_zero, Nat.zero_add, Nat.add_zero, c_no2, c_no3, c_no4, c_no5, c_no6, r_no2, r_no3, r_no4, r_no5, r_no6, zk_inR, zk_in2, zk_in3, zk_wiN, Nat.reduceAdd, ngI_e, ngI_le, ngI_m, cs_cmpN, zl_0, zl_1, zl_2, zl_3, zl_4, zl_5, zl_6, zl_7, zl_8, zl_9, zl_10, zl_12, zl_13, zl_14, zl_15, zl_16, zl_20, zl_32, zl_40, zl_48, zl_57, zl_59, zl_60, zl_63, zl_64, zl_97, zl_99, zl_101, zl_119, zl_120, zl_122, zl_128, zl_136, zl_152, zl_168, zl_184, zl_200, zl_201, zl_202, zl_203, zl_250, zl_255, zl_320, zl_999, zl_1000, hL.p, d1, d2, hgo, up, jb]
  cases e : gGo G w k with
  | some d =>
    have e2 : gGo (zgz G y2) w k = some d := e
    have q : gDw G y2 w k = zgu (zgz G y2) 1 w d := by unfold gDw; rw [e]; rfl
    exact fin _ _ (r_goS z2.1 hV2 hw8 hk4 e2) (by rw [q]; exact z2.tr (lo_o z2.1 hw8 d))
  | none =>
    have e2 : gGo (zgz G y2) w k = none := e
    have q : gDw G y2 w k = zgz G y2 := by unfold gDw; rw [e]
    exact fin _ _ (r_goN z2.1 hV2 hw8 hk4 e2) (by rw [q]; exact z2)
/-- a step of a day: what is drawn, by the seedness -/
def gDay (G : zG) : zG := gDw G (zdr (zdr (gZ G))) (gDr (zdr (gZ G)) (gP G)) (gDr (zdr (zdr (gZ G))) 4)
theorem gDay_P (G : zG) : gP (gDay G) = gP G ∧ gS (gDay G) = gS G := gDw_P G _ _ _
theorem gDay_V {G : zG} (hV : zV G) (h0 : 0 < gP G) : zV (gDay G) := gDw_V hV (by
  have := gDr_lt (zdr (gZ G)) h0
  have := hV.p
  omega)
def gDays (G : zG) : Nat → zG
  | 0 => G
  | k + 1 => gDays (gDay G) k
def gDsum (G : zG) : Nat → Int32 → Int32
  | 0, a => a
  | k + 1, a => gDsum (gDay G) k (a + nI (zc (fun i => zany (gUp (gDay G) i) (gP G)) (gS G)))
theorem gDays_V : ∀ (k : Nat) {G : zG}, zV G → 0 < gP G → zV (gDays G k) ∧ gS (gDays G k) = gS G
  | 0, G, hV, _ => ⟨hV, rfl⟩
  | k + 1, G, hV, h0 => by
    have := gDays_V k (gDay_V hV h0) (by rw [(gDay_P G).1]; exact h0)
    rw [(gDay_P G).2] at this
    exact this
theorem t_days (v : Int32) : zT (fun m => F_X10_days m v) (fun m => F_X11_days m v) := zT_of (fun m G h => by
  obtain ⟨hV, hC, hL, -⟩ := id h
  have hp := hV.p
  rcases zk_cs v (n := 100) (by omega) with e | ⟨N, hN, rfl⟩
  · rcases zk_1 (by omega) e with e2 | e2 | e2
    · exact zT_no 0 (by omega) (-nI 2) h (by unfold F_X10_days; simp (disch := omega) only [↓zl_m1, zz_leT, zz_leF, zz_ltT, zz_ltF, zz_eqT, zz_eqF, zz_okN, zz_okF, nI_clamp, nI_add, pk_mul, pk_sub, zz_bS, zz_b2S, if_true, if_false, Bool.true_eq_false, Bool.false_eq_true, eq_self, ne_eq, not_true_eq_false, not_false_eq_true, false_or, or_false, true_or, or_true, and_true, true_and, and_false, false_and, mI_e, mI_e2, mI_le, mI_le2, mI_lt, mI_lt2, mI_ok, bI_0n, bI_1n, bI_orn, Nat.mul_zero, Nat.zero_add, Nat.add_zero, c_no2, c_no3, c_no4, c_no5, c_no6, r_no2, r_no3, r_no4, r_no5, r_no6, zk_inR, zk_in2, zk_in3, zk_wiN, Nat.reduceAdd, ngI_e, ngI_le, ngI_m, cs_cmpN, zl_0, zl_1, zl_2, zl_3, zl_4, zl_5, zl_6, zl_7, zl_8, zl_9, zl_10, zl_12, zl_13, zl_14, zl_15, zl_16, zl_20, zl_32, zl_40, zl_48, zl_57, zl_59, zl_60, zl_63, zl_64, zl_97, zl_99, zl_101, zl_119, zl_120, zl_122, zl_128, zl_136, zl_152, zl_168, zl_184, zl_200, zl_201, zl_202, zl_203, zl_250, zl_255, zl_320, zl_999, zl_1000, c_isPerson hC hV, c_isSeed hC hV, cs_isCell, c_isShelf, c_isPair hC hV, c_isKind, eq_true e2]) (fun m1 e1 hL1 => by unfold F_X11_days; simp (disch := omega) only [↓zl_m1, zz_leT, zz_leF, zz_ltT, zz_ltF, zz_eqT, zz_eqF, zz_okN, zz_okF, nI_clamp, nI_add, pk_mul, pk_sub, zz_bS, zz_b2S, if_true, if_false, Bool.true_eq_false, Bool.false_eq_true, eq_self, ne_eq, not_true_eq_false, not_false_eq_true, false_or, or_false, true_or, or_true, and_true, true_and, and_false, false_and, mI_e, mI_e2, mI_le, mI_le2, mI_lt, mI_lt2, mI_ok, bI_0n, bI_1n, bI_orn, Nat.mul_zero, Nat.zero_add, Nat.add_zero, c_no2, c_no3, c_no4, c_no5, c_no6, r_no2, r_no3, r_no4, r_no5, r_no6, zk_inR, zk_in2, zk_in3, zk_wiN, Nat.reduceAdd, ngI_e, ngI_le, ngI_m, cs_cmpN, zl_0, zl_1, zl_2, zl_3, zl_4, zl_5, zl_6, zl_7, zl_8, zl_9, zl_10, zl_12, zl_13, zl_14, zl_15, zl_16, zl_20, zl_32, zl_40, zl_48, zl_57, zl_59, zl_60, zl_63, zl_64, zl_97, zl_99, zl_101, zl_119, zl_120, zl_122, zl_128, zl_136, zl_152, zl_168, zl_184, zl_200, zl_201, zl_202, zl_203, zl_250, zl_255, zl_320, zl_999, zl_1000, r_isOne hL1 hV, r_isSeed hL1 hV, cr_isCell, r_isShelf, r_areTwo hL1 hV, zk_wiN, eq_true e2, F_X11_within])
    · have k1 : (v < nI 1) = False := eq_false e2.1
      have k2 : (v ≤ nI 99) = False := eq_false e2.2.1
      have k3 : (nI 99 < v) = True := eq_true e2.2.2
      exact zT_no 0 (by omega) (-nI 2) h (by unfold F_X10_days; simp (disch := omega) only [↓zl_m1, zz_leT, zz_leF, zz_ltT, zz_ltF, zz_eqT, zz_eqF, zz_okN, zz_okF, nI_clamp, nI_add, pk_mul, pk_sub, zz_bS, zz_b2S, if_true, if_false, Bool.true_eq_false, Bool.false_eq_true, eq_self, ne_eq, not_true_eq_false, not_false_eq_true, false_or, or_false, true_or, or_true, and_true, true_and, and_false, false_and, mI_e, mI_e2, mI_le, mI_le2, mI_lt, mI_lt2, mI_ok, bI_0n, bI_1n, bI_orn, Nat.mul_zero, Nat.zero_add, Nat.add_zero, c_no2, c_no3, c_no4, c_no5, c_no6, r_no2, r_no3, r_no4, r_no5, r_no6, zk_inR, zk_in2, zk_in3, zk_wiN, Nat.reduceAdd, ngI_e, ngI_le, ngI_m, cs_cmpN, zl_0, zl_1, zl_2, zl_3, zl_4, zl_5, zl_6, zl_7, zl_8, zl_9, zl_10, zl_12, zl_13, zl_14, zl_15, zl_16, zl_20, zl_32, zl_40, zl_48, zl_57, zl_59, zl_60, zl_63, zl_64, zl_97, zl_99, zl_101, zl_119, zl_120, zl_122, zl_128, zl_136, zl_152, zl_168, zl_184, zl_200, zl_201, zl_202, zl_203, zl_250, zl_255, zl_320, zl_999, zl_1000, c_isPerson hC hV, c_isSeed hC hV, cs_isCell, c_isShelf, c_isPair hC hV, c_isKind, k1, k2]) (fun m1 e1 hL1 => by unfold F_X11_days; simp (disch := omega) only [↓zl_m1, zz_leT, zz_leF, zz_ltT, zz_ltF, zz_eqT, zz_eqF, zz_okN, zz_okF, nI_clamp, nI_add, pk_mul, pk_sub, zz_bS, zz_b2S, if_true, if_false, Bool.true_eq_false, Bool.false_eq_true, eq_self, ne_eq, not_true_eq_false, not_false_eq_true, false_or, or_false, true_or, or_true, and_true, true_and, and_false, false_and, mI_e, mI_e2, mI_le, mI_le2, mI_lt, mI_lt2, mI_ok, bI_0n, bI_1n, bI_orn, Nat.mul_zero, Nat.zero_add, Nat.add_zero, c_no2, c_no3, c_no4, c_no5, c_no6, r_no2, r_no3, r_no4, r_no5, r_no6, zk_inR, zk_in2, zk_in3, zk_wiN, Nat.reduceAdd, ngI_e, ngI_le, ngI_m, cs_cmpN, zl_0, zl_1, zl_2, zl_3, zl_4, zl_5, zl_6, zl_7, zl_8, zl_9, zl_10, zl_12, zl_13, zl_14, zl_15, zl_16, zl_20, zl_32, zl_40, zl_48, zl_57, zl_59, zl_60, zl_63, zl_64, zl_97, zl_99, zl_101, zl_119, zl_120, zl_122, zl_128, zl_136, zl_152, zl_168, zl_184, zl_200, zl_201, zl_202, zl_203, zl_250, zl_255, zl_320, zl_999, zl_1000, r_isOne hL1 hV, r_isSeed hL1 hV, cr_isCell, r_isShelf, r_areTwo hL1 hV, zk_wiN, k1, k3, F_X11_within])
    · omega
  by_cases e0 : N = 0
  · subst e0
    exact zT_no 0 (by omega) (-nI 2) h (by unfold F_X10_days; simp (disch := omega) only [↓zl_m1, zz_leT, zz_leF, zz_ltT, zz_ltF, zz_eqT, zz_eqF, zz_okN, zz_okF, nI_clamp, nI_add, pk_mul, pk_sub, zz_bS, zz_b2S, if_true, if_false, Bool.true_eq_false, Bool.false_eq_true, eq_self, ne_eq, not_true_eq_false, not_false_eq_true, false_or, or_false, true_or, or_true, and_true, true_and, and_false, false_and, mI_e, mI_e2, mI_le, mI_le2, mI_lt, mI_lt2, mI_ok, bI_0n, bI_1n, bI_orn, Nat.mul_zero, Nat.zero_add, Nat.add_zero, c_no2, c_no3, c_no4, c_no5, c_no6, r_no2, r_no3, r_no4, r_no5, r_no6, zk_inR, zk_in2, zk_in3, zk_wiN, Nat.reduceAdd, ngI_e, ngI_le, ngI_m, cs_cmpN, zl_0, zl_1, zl_2, zl_3, zl_4, zl_5, zl_6, zl_7, zl_8, zl_9, zl_10, zl_12, zl_13, zl_14, zl_15, zl_16, zl_20, zl_32, zl_40, zl_48, zl_57, zl_59, zl_60, zl_63, zl_64, zl_97, zl_99, zl_101, zl_119, zl_120, zl_122, zl_128, zl_136, zl_152, zl_168, zl_184, zl_200, zl_201, zl_202, zl_203, zl_250, zl_255, zl_320, zl_999, zl_1000, c_isPerson hC hV, c_isSeed hC hV, cs_isCell, c_isShelf, c_isPair hC hV, c_isKind, zk_in2]) (fun m1 e1 hL1 => by unfold F_X11_days; simp (disch := omega) only [↓zl_m1, zz_leT, zz_leF, zz_ltT, zz_ltF, zz_eqT, zz_eqF, zz_okN, zz_okF, nI_clamp, nI_add, pk_mul, pk_sub, zz_bS, zz_b2S, if_true, if_false, Bool.true_eq_false, Bool.false_eq_true, eq_self, ne_eq, not_true_eq_false, not_false_eq_true, false_or, or_false, true_or, or_true, and_true, true_and, and_false, false_and, mI_e, mI_e2, mI_le, mI_le2, mI_lt, mI_lt2, mI_ok, bI_0n, bI_1n, bI_orn, Nat.mul_zero, Nat.zero_add, Nat.add_zero, c_no2, c_no3, c_no4, c_no5, c_no6, r_no2, r_no3, r_no4, r_no5, r_no6, zk_inR, zk_in2, zk_in3, zk_wiN, Nat.reduceAdd, ngI_e, ngI_le, ngI_m, cs_cmpN, zl_0, zl_1, zl_2, zl_3, zl_4, zl_5, zl_6, zl_7, zl_8, zl_9, zl_10, zl_12, zl_13, zl_14, zl_15, zl_16, zl_20, zl_32, zl_40, zl_48, zl_57, zl_59, zl_60, zl_63, zl_64, zl_97, zl_99, zl_101, zl_119, zl_120, zl_122, zl_128, zl_136, zl_152, zl_168, zl_184, zl_200, zl_201, zl_202, zl_203, zl_250, zl_255, zl_320, zl_999, zl_1000, r_isOne hL1 hV, r_isSeed hL1 hV, cr_isCell, r_isShelf, r_areTwo hL1 hV, zk_wiN, F_X11_within])
  by_cases eP : gP G = 0
  · exact zT_no 3 (by omega) (-nI 5) h (by unfold F_X10_days; simp (disch := omega) only [↓zl_m1, zz_leT, zz_leF, zz_ltT, zz_ltF, zz_eqT, zz_eqF, zz_okN, zz_okF, nI_clamp, nI_add, pk_mul, pk_sub, zz_bS, zz_b2S, if_true, if_false, Bool.true_eq_false, Bool.false_eq_true, eq_self, ne_eq, not_true_eq_false, not_false_eq_true, false_or, or_false, true_or, or_true, and_true, true_and, and_false, false_and, mI_e, mI_e2, mI_le, mI_le2, mI_lt, mI_lt2, mI_ok, bI_0n, bI_1n, bI_orn, Nat.mul_zero, Nat.zero_add, Nat.add_zero, c_no2, c_no3, c_no4, c_no5, c_no6, r_no2, r_no3, r_no4, r_no5, r_no6, zk_inR, zk_in2, zk_in3, zk_wiN, Nat.reduceAdd, ngI_e, ngI_le, ngI_m, cs_cmpN, zl_0, zl_1, zl_2, zl_3, zl_4, zl_5, zl_6, zl_7, zl_8, zl_9, zl_10, zl_12, zl_13, zl_14, zl_15, zl_16, zl_20, zl_32, zl_40, zl_48, zl_57, zl_59, zl_60, zl_63, zl_64, zl_97, zl_99, zl_101, zl_119, zl_120, zl_122, zl_128, zl_136, zl_152, zl_168, zl_184, zl_200, zl_201, zl_202, zl_203, zl_250, zl_255, zl_320, zl_999, zl_1000, c_isPerson hC hV, c_isSeed hC hV, cs_isCell, c_isShelf, c_isPair hC hV, c_isKind, hC.p, eP]) (fun m1 e1 hL1 => by unfold F_X11_days; simp (disch := omega) only [↓zl_m1, zz_leT, zz_leF, zz_ltT, zz_ltF, zz_eqT, zz_eqF, zz_okN, zz_okF, nI_clamp, nI_add, pk_mul, pk_sub, zz_bS, zz_b2S, if_true, if_false, Bool.true_eq_false, Bool.false_eq_true, eq_self, ne_eq, not_true_eq_false, not_false_eq_true, false_or, or_false, true_or, or_true, and_true, true_and, and_false, false_and, mI_e, mI_e2, mI_le, mI_le2, mI_lt, mI_lt2, mI_ok, bI_0n, bI_1n, bI_orn, Nat.mul_zero, Nat.zero_add, Nat.add_zero, c_no2, c_no3, c_no4, c_no5, c_no6, r_no2, r_no3, r_no4, r_no5, r_no6, zk_inR, zk_in2, zk_in3, zk_wiN, Nat.reduceAdd, ngI_e, ngI_le, ngI_m, cs_cmpN, zl_0, zl_1, zl_2, zl_3, zl_4, zl_5, zl_6, zl_7, zl_8, zl_9, zl_10, zl_12, zl_13, zl_14, zl_15, zl_16, zl_20, zl_32, zl_40, zl_48, zl_57, zl_59, zl_60, zl_63, zl_64, zl_97, zl_99, zl_101, zl_119, zl_120, zl_122, zl_128, zl_136, zl_152, zl_168, zl_184, zl_200, zl_201, zl_202, zl_203, zl_250, zl_255, zl_320, zl_999, zl_1000, r_isOne hL1 hV, r_isSeed hL1 hV, cr_isCell, r_isShelf, r_areTwo hL1 hV, zk_wiN, F_X11_within, hL1.p, eP])
  have h0 : 0 < gP G := by omega
  -- the class
  have cl : ∀ k i n acc G1 m1, i + k = N → k < n → zV G1 → 0 < gP G1 → zC m1 0 G1 → (∀ p, p < gP G1 → m1.1 21 0 p = zm (fun i => gUp G1 i p) (gS G1)) → ∃ m2, F_X10_days_L39 n m1 (nI N) acc (nI i) = some (gDsum G1 k acc, m2) ∧ zC m2 0 (gDays G1 k) ∧ zE [1, 2, 4, 6, 21] m1 m2 ∧ (∀ g2 K, g2 ≠ 0 → zC m1 g2 K → zC m2 g2 K) := by
    intro k
    induction k with
    | zero =>
      intro i n acc G1 m1 h1 h2 hV1 hP1 hC1 hs1
      obtain ⟨n, rfl⟩ : ∃ z, n = z + 1 := ⟨n - 1, by omega⟩
      refine ⟨m1, ?_, hC1, zE.rf _ _, fun _ _ _ h => h⟩
      rw [F_X10_days_L39, show i = N by omega, if_pos (Int32.le_refl _)]
      rfl
    | succ k ih =>
      intro i n acc G1 m1 h1 h2 hV1 hP1 hC1 hs1
      obtain ⟨n, rfl⟩ : ∃ z, n = z + 1 := ⟨n - 1, by omega⟩
      obtain ⟨m2, a1, a2, a3, a4, a5⟩ := c_day hC1 hV1 hP1 hs1 rfl rfl rfl rfl n (nI N) acc (nI i) (by rw [zz_le (by omega) (by omega)]; omega)
      rw [← gDay] at a1 a2 a5
      obtain ⟨dP, dS⟩ := gDay_P G1
      obtain ⟨m3, b1, b2, b3, b4⟩ := ih (i + 1) n (acc + nI (zc (fun i => zany (gUp (gDay G1) i) (gP G1)) (gS G1))) (gDay G1) m2 (by omega) (by omega) (gDay_V hV1 hP1) (by rw [dP]; exact hP1) a2 (fun p hp2 => by rw [dS]; exact a5 p (by rw [← dP]; exact hp2))
      refine ⟨m3, ?_, b2, a3.tr b3, fun g2 K hg hK => b4 g2 K hg (a4 g2 K hg hK)⟩
      rw [a1, nI_1]
      exact b1
  have re : ∀ k i n acc G1 m1, i + k = N → k < n → zV G1 → 0 < gP G1 → zL m1 G1 → ∃ m2, F_X11_days_L20 n m1 (nI N) acc (nI i) = some (gDsum G1 k acc, m2) ∧ zLo m1 m2 (gDays G1 k) := by
    intro k
    induction k with
    | zero =>
      intro i n acc G1 m1 h1 h2 hV1 hP1 hL1
      obtain ⟨n, rfl⟩ : ∃ z, n = z + 1 := ⟨n - 1, by omega⟩
      refine ⟨m1, ?_, hL1, zE.rf _ _, fun _ _ => rfl⟩
      rw [F_X11_days_L20, show i = N by omega, if_pos (Int32.le_refl _)]
      rfl
    | succ k ih =>
      intro i n acc G1 m1 h1 h2 hV1 hP1 hL1
      obtain ⟨n, rfl⟩ : ∃ z, n = z + 1 := ⟨n - 1, by omega⟩
      obtain ⟨m2, a1, a2⟩ := r_day hL1 hV1 hP1 rfl rfl rfl rfl n (nI N) acc (nI i) (by rw [zz_le (by omega) (by omega)]; omega)
      rw [← gDay] at a1 a2
      obtain ⟨dP, dS⟩ := gDay_P G1
      obtain ⟨m3, b1, b2⟩ := ih (i + 1) n (acc + nI (zc (fun i => zany (gUp (gDay G1) i) (gP G1)) (gS G1))) (gDay G1) m2 (by omega) (by omega) (gDay_V hV1 hP1) (by rw [dP]; exact hP1) a2.1
      refine ⟨m3, ?_, a2.tr b2⟩
      rw [a1, nI_1]
      exact b1
  -- the class's first look at all
  have fi : ∀ k p n, p + k = gP G → k < n → (∀ m1, zE [21] m m1 → (∀ q, q < p → m1.1 21 0 q = zm (fun i => gUp G i q) (gS G)) → ∃ m2, F_X10_days_L20 n m1 (nI N) (nI p) = some (gDsum G N (nI 0), m2) ∧ zC m2 0 (gDays G N) ∧ zE [1, 2, 4, 6, 21] m m2 ∧ (∀ g2 K, g2 ≠ 0 → zC m g2 K → zC m2 g2 K)) := by
    refine zz_loop (gP G) (fun n => ?_) (fun n p hp2 ih => ?_)
    · intro m1 e1 h1
      have hC1 : zC m1 0 G := hC.E e1 (by decide)
      obtain ⟨m2, a1, a2, a3, a4⟩ := cl N 0 ax_FU (nI 0) G m1 (by omega) (by unfold ax_FU; omega) hV h0 hC1 h1
      refine ⟨m2, ?_, a2, (e1.mo (by decide)).tr a3, fun g2 K hg hK => a4 g2 K hg (hK.E e1 (by decide))⟩
      rw [F_X10_days_L20, hC1.p, if_pos (Int32.le_refl _)]
      exact a1
    · intro m1 e1 h1
      have hC1 : zC m1 0 G := hC.E e1 (by decide)
      obtain ⟨m2, a1, a2⟩ := ih (ax_ui m1 21 0 p (zm (fun i => gUp G i p) (gS G))) (e1.ui (by decide)) (fun q hq => by
        by_cases e2 : q = p
        · subst e2; exact zu_s
        · rw [zu_j e2]; exact h1 q (by omega))
      refine ⟨m2, ?_, a2⟩
      rw [F_X10_days_L20]
      simp (disch := omega) only [↓zl_m1, zz_leT, zz_leF, zz_ltT, zz_ltF, zz_eqT, zz_eqF, zz_okN, zz_okF, nI_clamp, nI_add, pk_mul, pk_sub, zz_bS, zz_b2S, if_true, if_false, Bool.true_eq_false, Bool.false_eq_true, eq_self, ne_eq, not_true_eq_false, not_false_eq_true, false_or, or_false, true_or, or_true, and_true, true_and, and_false, false_and, mI_e, mI_e2, mI_le, mI_le2, mI_lt, mI_lt2, mI_ok, bI_0n, bI_1n, bI_orn, Nat.mul_zero, Nat.zero_add, Nat.add_zero, c_no2, c_no3, c_no4, c_no5, c_no6, r_no2, r_no3, r_no4, r_no5, r_no6, zk_inR, zk_in2, zk_in3, zk_wiN, Nat.reduceAdd, ngI_e, ngI_le, ngI_m, cs_cmpN, zl_0, zl_1, zl_2, zl_3, zl_4, zl_5, zl_6, zl_7, zl_8, zl_9, zl_10, zl_12, zl_13, zl_14, zl_15, zl_16, zl_20, zl_32, zl_40, zl_48, zl_57, zl_59, zl_60, zl_63, zl_64, zl_97, zl_99, zl_101, zl_119, zl_120, zl_122, zl_128, zl_136, zl_152, zl_168, zl_184, zl_200, zl_201, zl_202, zl_203, zl_250, zl_255, zl_320, zl_999, zl_1000, hC1.p, c_shownBy hC1 hV (show p < 8 by omega)]
      exact a1
  obtain ⟨m1, a1, a2, a3, a4⟩ := fi (gP G) 0 ax_FU (by omega) (by unfold ax_FU; omega) m (zE.rf _ _) (fun q hq => by omega)
  have hL1 : zL m1 G := hL.E a3 (by decide)
  obtain ⟨m2, b1, b2⟩ := re N 0 ax_FU (nI 0) G m1 (by omega) (by unfold ax_FU; omega) hV h0 hL1
  obtain ⟨hV2, hS2⟩ := gDays_V N hV h0
  have e2 : zE zlg m m2 := (a3.mo (by decide)).tr (b2.2.1.mo (by decide))
  refine ⟨gDsum G N (nI 0), m1, m2, ?_, ?_, gDays G N, h.ch hV2 e2 ?_ ?_ (a2.E b2.2.1 (by decide)) b2.1 (fun K hK => (a4 1 K (by decide) hK).E b2.2.1 (by decide)) (by rw [hS2]; exact Nat.le_refl _)⟩
  · unfold F_X10_days
    simp (disch := omega) only [↓zl_m1, zz_leT, zz_leF, zz_ltT, zz_ltF, zz_eqT, zz_eqF, zz_okN, zz_okF, nI_clamp, nI_add, pk_mul, pk_sub, zz_bS, zz_b2S, if_true, if_false, Bool.true_eq_false, Bool.false_eq_true, eq_self, ne_eq, not_true_eq_false, not_false_eq_true, false_or, or_false, true_or, or_true, and_true, true_and, and_false, false_and, mI_e, mI_e2, mI_le, mI_le2, mI_lt, mI_lt2, mI_ok, bI_0n, bI_1n, bI_orn, Nat.mul_zero, Nat.zero_add, Nat.add_zero, c_no2, c_no3, c_no4, c_no5, c_no6, r_no2, r_no3, r_no4, r_no5, r_no6, zk_inR, zk_in2, zk_in3, zk_wiN, Nat.reduceAdd, ngI_e, ngI_le, ngI_m, cs_cmpN, zl_0, zl_1, zl_2, zl_3, zl_4, zl_5, zl_6, zl_7, zl_8, zl_9, zl_10, zl_12, zl_13, zl_14, zl_15, zl_16, zl_20, zl_32, zl_40, zl_48, zl_57, zl_59, zl_60, zl_63, zl_64, zl_97, zl_99, zl_101, zl_119, zl_120, zl_122, zl_128, zl_136, zl_152, zl_168, zl_184, zl_200, zl_201, zl_202, zl_203, zl_250, zl_255, zl_320, zl_999, zl_1000, hC.p]
    exact a1
  · unfold F_X11_days
    simp (disch := omega) only [↓zl_m1, zz_leT, zz_leF, zz_ltT, zz_ltF, zz_eqT, zz_eqF, zz_okN, zz_okF, nI_clamp, nI_add, pk_mul, pk_sub, zz_bS, zz_b2S, if_true, if_false, Bool.true_eq_false, Bool.false_eq_true, eq_self, ne_eq, not_true_eq_false, not_false_eq_true, false_or, or_false, true_or, or_true, and_true, true_and, and_false, false_and, mI_e, mI_e2, mI_le, mI_le2, mI_lt, mI_lt2, mI_ok, bI_0n, bI_1n, bI_orn, Nat.mul_zero, Nat.zero_add, Nat.add_zero, c_no2, c_no3, c_no4, c_no5, c_no6, r_no2, r_no3, r_no4, r_no5, r_no6, zk_inR, zk_in2, zk_in3, zk_wiN, Nat.reduceAdd, ngI_e, ngI_le, ngI_m, cs_cmpN, zl_0, zl_1, zl_2, zl_3, zl_4, zl_5, zl_6, zl_7, zl_8, zl_9, zl_10, zl_12, zl_13, zl_14, zl_15, zl_16, zl_20, zl_32, zl_40, zl_48, zl_57, zl_59, zl_60, zl_63, zl_64, zl_97, zl_99, zl_101, zl_119, zl_120, zl_122, zl_128, zl_136, zl_152, zl_168, zl_184, zl_200, zl_201, zl_202, zl_203, zl_250, zl_255, zl_320, zl_999, zl_1000, F_X11_within, hL1.p]
    exact b1
  · rw [b2.2.2 10 (by decide), (a3 22 (by decide)).1]
  · rw [b2.2.2 20 (by decide), (a3 22 (by decide)).1])
