/-! CALLS, tenth: step, judge, seen, walk -/
def zst (c w : Nat) : Option Nat := if w = 0 then (if 8 ≤ c then some (c - 8) else none) else if w = 1 then (if c < 56 then some (c + 8) else none) else if w = 2 then (if 0 < c % 8 then some (c - 1) else none) else (if c % 8 < 7 then some (c + 1) else none)
def zsi (o : Option Nat) : Int32 := match o with
  | some d => nI d
  | none => mI
theorem zst_lt {c w d : Nat} (hc : c < 64) (h : zst c w = some d) : d < 64 := by
  unfold zst at h
  split at h
  · split at h
    · cases h; omega
    · cases h
  · split at h
    · split at h
      · cases h; omega
      · cases h
    · split at h
      · split at h
        · cases h; omega
        · cases h
      · split at h
        · cases h; omega
        · cases h
theorem c_after : ∀ c, c < 64 → ∀ w, w < 4 → F_X0_after (nI c) (nI w) = some (zsi (zst c w)) := by decide +kernel
theorem r_besd : ∀ c, c < 64 → ∀ w, w < 4 → F_X11_beside (nI c) (nI w) = some (zsi (zst c w)) := by decide +kernel
def gGo (G : zG) (p w : Nat) : Option Nat := match zst (gO G p) w with
  | some d => if gW G d = true then none else some d
  | none => none
section
variable {m : ax_M} {g : Nat} {G : zG}
theorem gGo_w {p w d : Nat} (hV : zV G) (hp : p < 8) (h : gGo G p w = some d) : d < 64 ∧ gW G d = false := by
  unfold gGo at h
  cases e : zst (gO G p) w with
  | none => rw [e] at h; cases h
  | some d2 =>
    rw [e] at h
    have h : (if gW G d2 = true then none else some d2) = some d := h
    by_cases e2 : gW G d2 = true
    · rw [if_pos e2] at h; cases h
    · rw [if_neg e2] at h
      cases h
      exact ⟨zst_lt (hV.o hp) e, ts_nt e2⟩
theorem c_goS (h : zC m g G) (hV : zV G) {p w d : Nat} (hp : p < 8) (hw : w < 4) (e : gGo G p w = some d) : F_X3_go m g (nI p) (nI w) = some (nI 1, ax_ui m 2 g p (nI d)) := by
  unfold gGo at e
  cases e1 : zst (gO G p) w with
  | none => rw [e1] at e; cases e
  | some d2 =>
    rw [e1] at e
    have hd := zst_lt (hV.o hp) e1
    have e : (if gW G d2 = true then none else some d2) = some d := e
    by_cases e2 : gW G d2 = true
    · rw [if_pos e2] at e; cases e
    · rw [if_neg e2] at e
      cases e
      have a1 : F_X0_after (nI (gO G p)) (nI w) = some (nI d) := by rw [c_after _ (hV.o hp) _ hw, e1]; rfl
      unfold F_X3_go
      simp (disch := omega) only [↓zl_m1, zz_leT, zz_leF, zz_ltT, zz_ltF, zz_eqT, zz_eqF, zz_okN, zz_okF, nI_clamp, nI_add, pk_mul, pk_sub, zz_bS, zz_b2S, if_true, if_false, Bool.true_eq_false, Bool.false_eq_true, eq_self, ne_eq, not_true_eq_false, not_false_eq_true, false_or, or_false, true_or, or_true, and_true, true_and, and_false, false_and, mI_e, mI_e2, mI_le, mI_le2, mI_lt, mI_lt2, mI_ok, bI_0n, bI_1n, bI_orn, Nat.mul_zero, Nat.zero_add, Nat.add_zero, c_no2, c_no3, c_no4, c_no5, c_no6, r_no2, r_no3, r_no4, r_no5, r_no6, zk_inR, zk_in2, zk_in3, zk_wiN, Nat.reduceAdd, ngI_e, ngI_le, ngI_m, cs_cmpN, zl_0, zl_1, zl_2, zl_3, zl_4, zl_5, zl_6, zl_7, zl_8, zl_9, zl_10, zl_12, zl_13, zl_14, zl_15, zl_16, zl_20, zl_32, zl_40, zl_48, zl_57, zl_59, zl_60, zl_63, zl_64, zl_97, zl_99, zl_101, zl_119, zl_120, zl_122, zl_128, zl_136, zl_152, zl_168, zl_184, zl_200, zl_201, zl_202, zl_203, zl_250, zl_255, zl_320, zl_999, zl_1000, h.o hp, a1, c_hasWall h hd, ts_nt e2]
theorem c_goN (h : zC m g G) (hV : zV G) {p w : Nat} (hp : p < 8) (hw : w < 4) (e : gGo G p w = none) : F_X3_go m g (nI p) (nI w) = some (nI 0, m) := by
  unfold gGo at e
  cases e1 : zst (gO G p) w with
  | none =>
    have a1 : F_X0_after (nI (gO G p)) (nI w) = some mI := by rw [c_after _ (hV.o hp) _ hw, e1]; rfl
    unfold F_X3_go
    simp (disch := omega) only [↓zl_m1, zz_leT, zz_leF, zz_ltT, zz_ltF, zz_eqT, zz_eqF, zz_okN, zz_okF, nI_clamp, nI_add, pk_mul, pk_sub, zz_bS, zz_b2S, if_true, if_false, Bool.true_eq_false, Bool.false_eq_true, eq_self, ne_eq, not_true_eq_false, not_false_eq_true, false_or, or_false, true_or, or_true, and_true, true_and, and_false, false_and, mI_e, mI_e2, mI_le, mI_le2, mI_lt, mI_lt2, mI_ok, bI_0n, bI_1n, bI_orn, Nat.mul_zero, Nat.zero_add, Nat.add_zero, c_no2, c_no3, c_no4, c_no5, c_no6, r_no2, r_no3, r_no4, r_no5, r_no6, zk_inR, zk_in2, zk_in3, zk_wiN, Nat.reduceAdd, ngI_e, ngI_le, ngI_m, cs_cmpN, zl_0, zl_1, zl_2, zl_3, zl_4, zl_5, zl_6, zl_7, zl_8, zl_9, zl_10, zl_12, zl_13, zl_14, zl_15, zl_16, zl_20, zl_32, zl_40, zl_48, zl_57, zl_59, zl_60, zl_63, zl_64, zl_97, zl_99, zl_101, zl_119, zl_120, zl_122, zl_128, zl_136, zl_152, zl_168, zl_184, zl_200, zl_201, zl_202, zl_203, zl_250, zl_255, zl_320, zl_999, zl_1000, h.o hp, a1]
  | some d2 =>
    rw [e1] at e
    have hd := zst_lt (hV.o hp) e1
    have e : (if gW G d2 = true then none else some d2) = none := e
    by_cases e2 : gW G d2 = true
    · have a1 : F_X0_after (nI (gO G p)) (nI w) = some (nI d2) := by rw [c_after _ (hV.o hp) _ hw, e1]; rfl
      unfold F_X3_go
      simp (disch := omega) only [↓zl_m1, zz_leT, zz_leF, zz_ltT, zz_ltF, zz_eqT, zz_eqF, zz_okN, zz_okF, nI_clamp, nI_add, pk_mul, pk_sub, zz_bS, zz_b2S, if_true, if_false, Bool.true_eq_false, Bool.false_eq_true, eq_self, ne_eq, not_true_eq_false, not_false_eq_true, false_or, or_false, true_or, or_true, and_true, true_and, and_false, false_and, mI_e, mI_e2, mI_le, mI_le2, mI_lt, mI_lt2, mI_ok, bI_0n, bI_1n, bI_orn, Nat.mul_zero, Nat.zero_add, Nat.add_zero, c_no2, c_no3, c_no4, c_no5, c_no6, r_no2, r_no3, r_no4, r_no5, r_no6, zk_inR, zk_in2, zk_in3, zk_wiN, Nat.reduceAdd, ngI_e, ngI_le, ngI_m, cs_cmpN, zl_0, zl_1, zl_2, zl_3, zl_4, zl_5, zl_6, zl_7, zl_8, zl_9, zl_10, zl_12, zl_13, zl_14, zl_15, zl_16, zl_20, zl_32, zl_40, zl_48, zl_57, zl_59, zl_60, zl_63, zl_64, zl_97, zl_99, zl_101, zl_119, zl_120, zl_122, zl_128, zl_136, zl_152, zl_168, zl_184, zl_200, zl_201, zl_202, zl_203, zl_250, zl_255, zl_320, zl_999, zl_1000, h.o hp, a1, c_hasWall h hd, e2]
    · rw [if_neg e2] at e; cases e
theorem r_goS (h : zL m G) (hV : zV G) {p w d : Nat} (hp : p < 8) (hw : w < 4) (e : gGo G p w = some d) : F_X11_goes m (nI p) (nI w) = some (nI 1, ax_ui m 24 0 p (nI d)) := by
  unfold gGo at e
  cases e1 : zst (gO G p) w with
  | none => rw [e1] at e; cases e
  | some d2 =>
    rw [e1] at e
    have hd := zst_lt (hV.o hp) e1
    have e : (if gW G d2 = true then none else some d2) = some d := e
    by_cases e2 : gW G d2 = true
    · rw [if_pos e2] at e; cases e
    · rw [if_neg e2] at e
      cases e
      have a1 : F_X11_beside (nI (gO G p)) (nI w) = some (nI d) := by rw [r_besd _ (hV.o hp) _ hw, e1]; rfl
      unfold F_X11_goes
      simp (disch := omega) only [↓zl_m1, zz_leT, zz_leF, zz_ltT, zz_ltF, zz_eqT, zz_eqF, zz_okN, zz_okF, nI_clamp, nI_add, pk_mul, pk_sub, zz_bS, zz_b2S, if_true, if_false, Bool.true_eq_false, Bool.false_eq_true, eq_self, ne_eq, not_true_eq_false, not_false_eq_true, false_or, or_false, true_or, or_true, and_true, true_and, and_false, false_and, mI_e, mI_e2, mI_le, mI_le2, mI_lt, mI_lt2, mI_ok, bI_0n, bI_1n, bI_orn, Nat.mul_zero, Nat.zero_add, Nat.add_zero, c_no2, c_no3, c_no4, c_no5, c_no6, r_no2, r_no3, r_no4, r_no5, r_no6, zk_inR, zk_in2, zk_in3, zk_wiN, Nat.reduceAdd, ngI_e, ngI_le, ngI_m, cs_cmpN, zl_0, zl_1, zl_2, zl_3, zl_4, zl_5, zl_6, zl_7, zl_8, zl_9, zl_10, zl_12, zl_13, zl_14, zl_15, zl_16, zl_20, zl_32, zl_40, zl_48, zl_57, zl_59, zl_60, zl_63, zl_64, zl_97, zl_99, zl_101, zl_119, zl_120, zl_122, zl_128, zl_136, zl_152, zl_168, zl_184, zl_200, zl_201, zl_202, zl_203, zl_250, zl_255, zl_320, zl_999, zl_1000, h.o hp, a1, h.w hd, ts_nt e2]
theorem r_goN (h : zL m G) (hV : zV G) {p w : Nat} (hp : p < 8) (hw : w < 4) (e : gGo G p w = none) : F_X11_goes m (nI p) (nI w) = some (nI 0, m) := by
  unfold gGo at e
  cases e1 : zst (gO G p) w with
  | none =>
    have a1 : F_X11_beside (nI (gO G p)) (nI w) = some mI := by rw [r_besd _ (hV.o hp) _ hw, e1]; rfl
    unfold F_X11_goes
    simp (disch := omega) only [↓zl_m1, zz_leT, zz_leF, zz_ltT, zz_ltF, zz_eqT, zz_eqF, zz_okN, zz_okF, nI_clamp, nI_add, pk_mul, pk_sub, zz_bS, zz_b2S, if_true, if_false, Bool.true_eq_false, Bool.false_eq_true, eq_self, ne_eq, not_true_eq_false, not_false_eq_true, false_or, or_false, true_or, or_true, and_true, true_and, and_false, false_and, mI_e, mI_e2, mI_le, mI_le2, mI_lt, mI_lt2, mI_ok, bI_0n, bI_1n, bI_orn, Nat.mul_zero, Nat.zero_add, Nat.add_zero, c_no2, c_no3, c_no4, c_no5, c_no6, r_no2, r_no3, r_no4, r_no5, r_no6, zk_inR, zk_in2, zk_in3, zk_wiN, Nat.reduceAdd, ngI_e, ngI_le, ngI_m, cs_cmpN, zl_0, zl_1, zl_2, zl_3, zl_4, zl_5, zl_6, zl_7, zl_8, zl_9, zl_10, zl_12, zl_13, zl_14, zl_15, zl_16, zl_20, zl_32, zl_40, zl_48, zl_57, zl_59, zl_60, zl_63, zl_64, zl_97, zl_99, zl_101, zl_119, zl_120, zl_122, zl_128, zl_136, zl_152, zl_168, zl_184, zl_200, zl_201, zl_202, zl_203, zl_250, zl_255, zl_320, zl_999, zl_1000, h.o hp, a1]
  | some d2 =>
    rw [e1] at e
    have hd := zst_lt (hV.o hp) e1
    have e : (if gW G d2 = true then none else some d2) = none := e
    by_cases e2 : gW G d2 = true
    · have a1 : F_X11_beside (nI (gO G p)) (nI w) = some (nI d2) := by rw [r_besd _ (hV.o hp) _ hw, e1]; rfl
      unfold F_X11_goes
      simp (disch := omega) only [↓zl_m1, zz_leT, zz_leF, zz_ltT, zz_ltF, zz_eqT, zz_eqF, zz_okN, zz_okF, nI_clamp, nI_add, pk_mul, pk_sub, zz_bS, zz_b2S, if_true, if_false, Bool.true_eq_false, Bool.false_eq_true, eq_self, ne_eq, not_true_eq_false, not_false_eq_true, false_or, or_false, true_or, or_true, and_true, true_and, and_false, false_and, mI_e, mI_e2, mI_le, mI_le2, mI_lt, mI_lt2, mI_ok, bI_0n, bI_1n, bI_orn, Nat.mul_zero, Nat.zero_add, Nat.add_zero, c_no2, c_no3, c_no4, c_no5, c_no6, r_no2, r_no3, r_no4, r_no5, r_no6, zk_inR, zk_in2, zk_in3, zk_wiN, Nat.reduceAdd, ngI_e, ngI_le, ngI_m, cs_cmpN, zl_0, zl_1, zl_2, zl_3, zl_4, zl_5, zl_6, zl_7, zl_8, zl_9, zl_10, zl_12, zl_13, zl_14, zl_15, zl_16, zl_20, zl_32, zl_40, zl_48, zl_57, zl_59, zl_60, zl_63, zl_64, zl_97, zl_99, zl_101, zl_119, zl_120, zl_122, zl_128, zl_136, zl_152, zl_168, zl_184, zl_200, zl_201, zl_202, zl_203, zl_250, zl_255, zl_320, zl_999, zl_1000, h.o hp, a1, h.w hd, e2]
    · rw [if_neg e2] at e; cases e
end
theorem t_step (v w : Int32) : zT (fun m => F_X10_step m v w) (fun m => F_X11_step m v w) := zT_of (fun m G h => by
  obtain ⟨hV, hC, hL, -⟩ := id h
  have hp := hV.p
  rcases zk_cs v (n := gP G) (by omega) with e | ⟨p, hp2, rfl⟩
  · exact zT_no 0 (by omega) (-nI 2) h (by unfold F_X10_step; simp (disch := omega) only [↓zl_m1, zz_leT, zz_leF, zz_ltT, zz_ltF, zz_eqT, zz_eqF, zz_okN, zz_okF, nI_clamp, nI_add, pk_mul, pk_sub, zz_bS, zz_b2S, if_true, if_false, Bool.true_eq_false, Bool.false_eq_true, eq_self, ne_eq, not_true_eq_false, not_false_eq_true, false_or, or_false, true_or, or_true, and_true, true_and, and_false, false_and, mI_e, mI_e2, mI_le, mI_le2, mI_lt, mI_lt2, mI_ok, bI_0n, bI_1n, bI_orn, Nat.mul_zero, Nat.zero_add, Nat.add_zero, c_no2, c_no3, c_no4, c_no5, c_no6, r_no2, r_no3, r_no4, r_no5, r_no6, zk_inR, zk_in2, zk_in3, zk_wiN, Nat.reduceAdd, ngI_e, ngI_le, ngI_m, cs_cmpN, zl_0, zl_1, zl_2, zl_3, zl_4, zl_5, zl_6, zl_7, zl_8, zl_9, zl_10, zl_12, zl_13, zl_14, zl_15, zl_16, zl_20, zl_32, zl_40, zl_48, zl_57, zl_59, zl_60, zl_63, zl_64, zl_97, zl_99, zl_101, zl_119, zl_120, zl_122, zl_128, zl_136, zl_152, zl_168, zl_184, zl_200, zl_201, zl_202, zl_203, zl_250, zl_255, zl_320, zl_999, zl_1000, c_isPerson hC hV, c_isSeed hC hV, cs_isCell, c_isShelf, c_isPair hC hV, c_isKind, e]) (fun m1 e1 hL1 => by unfold F_X11_step; simp (disch := omega) only [↓zl_m1, zz_leT, zz_leF, zz_ltT, zz_ltF, zz_eqT, zz_eqF, zz_okN, zz_okF, nI_clamp, nI_add, pk_mul, pk_sub, zz_bS, zz_b2S, if_true, if_false, Bool.true_eq_false, Bool.false_eq_true, eq_self, ne_eq, not_true_eq_false, not_false_eq_true, false_or, or_false, true_or, or_true, and_true, true_and, and_false, false_and, mI_e, mI_e2, mI_le, mI_le2, mI_lt, mI_lt2, mI_ok, bI_0n, bI_1n, bI_orn, Nat.mul_zero, Nat.zero_add, Nat.add_zero, c_no2, c_no3, c_no4, c_no5, c_no6, r_no2, r_no3, r_no4, r_no5, r_no6, zk_inR, zk_in2, zk_in3, zk_wiN, Nat.reduceAdd, ngI_e, ngI_le, ngI_m, cs_cmpN, zl_0, zl_1, zl_2, zl_3, zl_4, zl_5, zl_6, zl_7, zl_8, zl_9, zl_10, zl_12, zl_13, zl_14, zl_15, zl_16, zl_20, zl_32, zl_40, zl_48, zl_57, zl_59, zl_60, zl_63, zl_64, zl_97, zl_99, zl_101, zl_119, zl_120, zl_122, zl_128, zl_136, zl_152, zl_168, zl_184, zl_200, zl_201, zl_202, zl_203, zl_250, zl_255, zl_320, zl_999, zl_1000, r_isOne hL1 hV, r_isSeed hL1 hV, cr_isCell, r_isShelf, r_areTwo hL1 hV, zk_wiN, e])
  have hp8 : p < 8 := by omega
  rcases zk_cs w (n := 4) (by omega) with e | ⟨k, hk, rfl⟩
  · exact zT_no 0 (by omega) (-nI 2) h (by unfold F_X10_step; simp (disch := omega) only [↓zl_m1, zz_leT, zz_leF, zz_ltT, zz_ltF, zz_eqT, zz_eqF, zz_okN, zz_okF, nI_clamp, nI_add, pk_mul, pk_sub, zz_bS, zz_b2S, if_true, if_false, Bool.true_eq_false, Bool.false_eq_true, eq_self, ne_eq, not_true_eq_false, not_false_eq_true, false_or, or_false, true_or, or_true, and_true, true_and, and_false, false_and, mI_e, mI_e2, mI_le, mI_le2, mI_lt, mI_lt2, mI_ok, bI_0n, bI_1n, bI_orn, Nat.mul_zero, Nat.zero_add, Nat.add_zero, c_no2, c_no3, c_no4, c_no5, c_no6, r_no2, r_no3, r_no4, r_no5, r_no6, zk_inR, zk_in2, zk_in3, zk_wiN, Nat.reduceAdd, ngI_e, ngI_le, ngI_m, cs_cmpN, zl_0, zl_1, zl_2, zl_3, zl_4, zl_5, zl_6, zl_7, zl_8, zl_9, zl_10, zl_12, zl_13, zl_14, zl_15, zl_16, zl_20, zl_32, zl_40, zl_48, zl_57, zl_59, zl_60, zl_63, zl_64, zl_97, zl_99, zl_101, zl_119, zl_120, zl_122, zl_128, zl_136, zl_152, zl_168, zl_184, zl_200, zl_201, zl_202, zl_203, zl_250, zl_255, zl_320, zl_999, zl_1000, c_isPerson hC hV, c_isSeed hC hV, cs_isCell, c_isShelf, c_isPair hC hV, c_isKind, e]) (fun m1 e1 hL1 => by unfold F_X11_step; simp (disch := omega) only [↓zl_m1, zz_leT, zz_leF, zz_ltT, zz_ltF, zz_eqT, zz_eqF, zz_okN, zz_okF, nI_clamp, nI_add, pk_mul, pk_sub, zz_bS, zz_b2S, if_true, if_false, Bool.true_eq_false, Bool.false_eq_true, eq_self, ne_eq, not_true_eq_false, not_false_eq_true, false_or, or_false, true_or, or_true, and_true, true_and, and_false, false_and, mI_e, mI_e2, mI_le, mI_le2, mI_lt, mI_lt2, mI_ok, bI_0n, bI_1n, bI_orn, Nat.mul_zero, Nat.zero_add, Nat.add_zero, c_no2, c_no3, c_no4, c_no5, c_no6, r_no2, r_no3, r_no4, r_no5, r_no6, zk_inR, zk_in2, zk_in3, zk_wiN, Nat.reduceAdd, ngI_e, ngI_le, ngI_m, cs_cmpN, zl_0, zl_1, zl_2, zl_3, zl_4, zl_5, zl_6, zl_7, zl_8, zl_9, zl_10, zl_12, zl_13, zl_14, zl_15, zl_16, zl_20, zl_32, zl_40, zl_48, zl_57, zl_59, zl_60, zl_63, zl_64, zl_97, zl_99, zl_101, zl_119, zl_120, zl_122, zl_128, zl_136, zl_152, zl_168, zl_184, zl_200, zl_201, zl_202, zl_203, zl_250, zl_255, zl_320, zl_999, zl_1000, r_isOne hL1 hV, r_isSeed hL1 hV, cr_isCell, r_isShelf, r_areTwo hL1 hV, zk_wiN, e])
  cases e : gGo G p k with
  | none => exact zT_no 3 (by omega) (-nI 5) h (by unfold F_X10_step; simp (disch := omega) only [↓zl_m1, zz_leT, zz_leF, zz_ltT, zz_ltF, zz_eqT, zz_eqF, zz_okN, zz_okF, nI_clamp, nI_add, pk_mul, pk_sub, zz_bS, zz_b2S, if_true, if_false, Bool.true_eq_false, Bool.false_eq_true, eq_self, ne_eq, not_true_eq_false, not_false_eq_true, false_or, or_false, true_or, or_true, and_true, true_and, and_false, false_and, mI_e, mI_e2, mI_le, mI_le2, mI_lt, mI_lt2, mI_ok, bI_0n, bI_1n, bI_orn, Nat.mul_zero, Nat.zero_add, Nat.add_zero, c_no2, c_no3, c_no4, c_no5, c_no6, r_no2, r_no3, r_no4, r_no5, r_no6, zk_inR, zk_in2, zk_in3, zk_wiN, Nat.reduceAdd, ngI_e, ngI_le, ngI_m, cs_cmpN, zl_0, zl_1, zl_2, zl_3, zl_4, zl_5, zl_6, zl_7, zl_8, zl_9, zl_10, zl_12, zl_13, zl_14, zl_15, zl_16, zl_20, zl_32, zl_40, zl_48, zl_57, zl_59, zl_60, zl_63, zl_64, zl_97, zl_99, zl_101, zl_119, zl_120, zl_122, zl_128, zl_136, zl_152, zl_168, zl_184, zl_200, zl_201, zl_202, zl_203, zl_250, zl_255, zl_320, zl_999, zl_1000, c_isPerson hC hV, c_isSeed hC hV, cs_isCell, c_isShelf, c_isPair hC hV, c_isKind, c_goN hC hV hp8 hk e]) (fun m1 e1 hL1 => by unfold F_X11_step; simp (disch := omega) only [↓zl_m1, zz_leT, zz_leF, zz_ltT, zz_ltF, zz_eqT, zz_eqF, zz_okN, zz_okF, nI_clamp, nI_add, pk_mul, pk_sub, zz_bS, zz_b2S, if_true, if_false, Bool.true_eq_false, Bool.false_eq_true, eq_self, ne_eq, not_true_eq_false, not_false_eq_true, false_or, or_false, true_or, or_true, and_true, true_and, and_false, false_and, mI_e, mI_e2, mI_le, mI_le2, mI_lt, mI_lt2, mI_ok, bI_0n, bI_1n, bI_orn, Nat.mul_zero, Nat.zero_add, Nat.add_zero, c_no2, c_no3, c_no4, c_no5, c_no6, r_no2, r_no3, r_no4, r_no5, r_no6, zk_inR, zk_in2, zk_in3, zk_wiN, Nat.reduceAdd, ngI_e, ngI_le, ngI_m, cs_cmpN, zl_0, zl_1, zl_2, zl_3, zl_4, zl_5, zl_6, zl_7, zl_8, zl_9, zl_10, zl_12, zl_13, zl_14, zl_15, zl_16, zl_20, zl_32, zl_40, zl_48, zl_57, zl_59, zl_60, zl_63, zl_64, zl_97, zl_99, zl_101, zl_119, zl_120, zl_122, zl_128, zl_136, zl_152, zl_168, zl_184, zl_200, zl_201, zl_202, zl_203, zl_250, zl_255, zl_320, zl_999, zl_1000, r_isOne hL1 hV, r_isSeed hL1 hV, cr_isCell, r_isShelf, r_areTwo hL1 hV, zk_wiN, r_goN hL1 hV hp8 hk e])
  | some d =>
    have hd := gGo_w hV hp8 e
    have c1 := go_o hC hp8 d
    have hL1 := zLg hL c1
    refine ⟨nI d, ax_ui m 2 0 p (nI d), _, ?_, ?_, _, h.go c1 (lo_o hL1 hp8 d) (hV.uo hd.1 hd.2) (Nat.le_refl _)⟩
    · unfold F_X10_step; simp (disch := omega) only [↓zl_m1, zz_leT, zz_leF, zz_ltT, zz_ltF, zz_eqT, zz_eqF, zz_okN, zz_okF, nI_clamp, nI_add, pk_mul, pk_sub, zz_bS, zz_b2S, if_true, if_false, Bool.true_eq_false, Bool.false_eq_true, eq_self, ne_eq, not_true_eq_false, not_false_eq_true, false_or, or_false, true_or, or_true, and_true, true_and, and_false, false_and, mI_e, mI_e2, mI_le, mI_le2, mI_lt, mI_lt2, mI_ok, bI_0n, bI_1n, bI_orn, Nat.mul_zero, Nat.zero_add, Nat.add_zero, c_no2, c_no3, c_no4, c_no5, c_no6, r_no2, r_no3, r_no4, r_no5, r_no6, zk_inR, zk_in2, zk_in3, zk_wiN, Nat.reduceAdd, ngI_e, ngI_le, ngI_m, cs_cmpN, zl_0, zl_1, zl_2, zl_3, zl_4, zl_5, zl_6, zl_7, zl_8, zl_9, zl_10, zl_12, zl_13, zl_14, zl_15, zl_16, zl_20, zl_32, zl_40, zl_48, zl_57, zl_59, zl_60, zl_63, zl_64, zl_97, zl_99, zl_101, zl_119, zl_120, zl_122, zl_128, zl_136, zl_152, zl_168, zl_184, zl_200, zl_201, zl_202, zl_203, zl_250, zl_255, zl_320, zl_999, zl_1000, zu_s, zu_k, zu_j, zu_i, zu_l, zv_s, zv_k, zv_j, zv_i, zv_l, c_isPerson hC hV, c_goS hC hV hp8 hk e]
    · unfold F_X11_step; simp (disch := omega) only [↓zl_m1, zz_leT, zz_leF, zz_ltT, zz_ltF, zz_eqT, zz_eqF, zz_okN, zz_okF, nI_clamp, nI_add, pk_mul, pk_sub, zz_bS, zz_b2S, if_true, if_false, Bool.true_eq_false, Bool.false_eq_true, eq_self, ne_eq, not_true_eq_false, not_false_eq_true, false_or, or_false, true_or, or_true, and_true, true_and, and_false, false_and, mI_e, mI_e2, mI_le, mI_le2, mI_lt, mI_lt2, mI_ok, bI_0n, bI_1n, bI_orn, Nat.mul_zero, Nat.zero_add, Nat.add_zero, c_no2, c_no3, c_no4, c_no5, c_no6, r_no2, r_no3, r_no4, r_no5, r_no6, zk_inR, zk_in2, zk_in3, zk_wiN, Nat.reduceAdd, ngI_e, ngI_le, ngI_m, cs_cmpN, zl_0, zl_1, zl_2, zl_3, zl_4, zl_5, zl_6, zl_7, zl_8, zl_9, zl_10, zl_12, zl_13, zl_14, zl_15, zl_16, zl_20, zl_32, zl_40, zl_48, zl_57, zl_59, zl_60, zl_63, zl_64, zl_97, zl_99, zl_101, zl_119, zl_120, zl_122, zl_128, zl_136, zl_152, zl_168, zl_184, zl_200, zl_201, zl_202, zl_203, zl_250, zl_255, zl_320, zl_999, zl_1000, zu_s, zu_k, zu_j, zu_i, zu_l, zv_s, zv_k, zv_j, zv_i, zv_l, r_isOne hL1 hV, r_goS hL1 hV hp8 hk e])
/-- told cells -/
def zcel (v : Int64) : Option Nat := if 0 ≤ v.toInt ∧ v.toInt < 64 then some v.toInt.toNat else none
theorem lt64_0 (v : Int64) : (v < 0) = (v.toInt < 0) := propext (by rw [Int64.lt_iff_toInt_lt]; exact Iff.rfl)
theorem lt64_64 (v : Int64) : (v < 64) = (v.toInt < 64) := propext (by rw [Int64.lt_iff_toInt_lt]; exact Iff.rfl)
theorem lg_ltN (x y : Int64) : (lg_cmp x y < nI 0) = (x < y) := propext (lg_cmp_lt x y)
theorem toInt32_64 (v : Int64) (h : 0 ≤ v.toInt ∧ v.toInt < 64) : v.toInt32 = nI v.toInt.toNat := by
  have e : v = lN v.toInt.toNat := Int64.toInt_inj.mp (by rw [lN_toInt (by omega)]; omega)
  rw [e, lN_i, ← e]
theorem zcel_lt {v : Int64} {c : Nat} (h : zcel v = some c) : c < 64 := by
  unfold zcel at h
  split at h
  · cases h; omega
  · cases h
section
variable {m : ax_M} {s l i : Nat}
theorem c_cellAt (h1 : m.1 8 s 1 = nI l) (hl : l ≤ 40) (hi : i < l) : F_X7_cellAt m s (nI i) = some (zsi (zcel (m.2 9 s i))) := by
  unfold F_X7_cellAt F_X7_hasElement zcel
  by_cases e1 : (m.2 9 s i).toInt < 0
  · simp (disch := omega) only [↓zl_m1, zz_leT, zz_leF, zz_ltT, zz_ltF, zz_eqT, zz_eqF, zz_okN, zz_okF, nI_clamp, nI_add, pk_mul, pk_sub, zz_bS, zz_b2S, if_true, if_false, Bool.true_eq_false, Bool.false_eq_true, eq_self, ne_eq, not_true_eq_false, not_false_eq_true, false_or, or_false, true_or, or_true, and_true, true_and, and_false, false_and, mI_e, mI_e2, mI_le, mI_le2, mI_lt, mI_lt2, mI_ok, bI_0n, bI_1n, bI_orn, Nat.mul_zero, Nat.zero_add, Nat.add_zero, c_no2, c_no3, c_no4, c_no5, c_no6, r_no2, r_no3, r_no4, r_no5, r_no6, zk_inR, zk_in2, zk_in3, zk_wiN, Nat.reduceAdd, ngI_e, ngI_le, ngI_m, cs_cmpN, zl_0, zl_1, zl_2, zl_3, zl_4, zl_5, zl_6, zl_7, zl_8, zl_9, zl_10, zl_12, zl_13, zl_14, zl_15, zl_16, zl_20, zl_32, zl_40, zl_48, zl_57, zl_59, zl_60, zl_63, zl_64, zl_97, zl_99, zl_101, zl_119, zl_120, zl_122, zl_128, zl_136, zl_152, zl_168, zl_184, zl_200, zl_201, zl_202, zl_203, zl_250, zl_255, zl_320, zl_999, zl_1000, h1, lg_ltN, lt64_0, e1]
    rw [if_neg (by omega)]
    rfl
  · by_cases e2 : (m.2 9 s i).toInt < 64
    · simp (disch := omega) only [↓zl_m1, zz_leT, zz_leF, zz_ltT, zz_ltF, zz_eqT, zz_eqF, zz_okN, zz_okF, nI_clamp, nI_add, pk_mul, pk_sub, zz_bS, zz_b2S, if_true, if_false, Bool.true_eq_false, Bool.false_eq_true, eq_self, ne_eq, not_true_eq_false, not_false_eq_true, false_or, or_false, true_or, or_true, and_true, true_and, and_false, false_and, mI_e, mI_e2, mI_le, mI_le2, mI_lt, mI_lt2, mI_ok, bI_0n, bI_1n, bI_orn, Nat.mul_zero, Nat.zero_add, Nat.add_zero, c_no2, c_no3, c_no4, c_no5, c_no6, r_no2, r_no3, r_no4, r_no5, r_no6, zk_inR, zk_in2, zk_in3, zk_wiN, Nat.reduceAdd, ngI_e, ngI_le, ngI_m, cs_cmpN, zl_0, zl_1, zl_2, zl_3, zl_4, zl_5, zl_6, zl_7, zl_8, zl_9, zl_10, zl_12, zl_13, zl_14, zl_15, zl_16, zl_20, zl_32, zl_40, zl_48, zl_57, zl_59, zl_60, zl_63, zl_64, zl_97, zl_99, zl_101, zl_119, zl_120, zl_122, zl_128, zl_136, zl_152, zl_168, zl_184, zl_200, zl_201, zl_202, zl_203, zl_250, zl_255, zl_320, zl_999, zl_1000, h1, lg_ltN, lt64_0, e1, lt64_64, e2]
      rw [if_pos (by omega), toInt32_64 _ (by omega)]
      rfl
    · simp (disch := omega) only [↓zl_m1, zz_leT, zz_leF, zz_ltT, zz_ltF, zz_eqT, zz_eqF, zz_okN, zz_okF, nI_clamp, nI_add, pk_mul, pk_sub, zz_bS, zz_b2S, if_true, if_false, Bool.true_eq_false, Bool.false_eq_true, eq_self, ne_eq, not_true_eq_false, not_false_eq_true, false_or, or_false, true_or, or_true, and_true, true_and, and_false, false_and, mI_e, mI_e2, mI_le, mI_le2, mI_lt, mI_lt2, mI_ok, bI_0n, bI_1n, bI_orn, Nat.mul_zero, Nat.zero_add, Nat.add_zero, c_no2, c_no3, c_no4, c_no5, c_no6, r_no2, r_no3, r_no4, r_no5, r_no6, zk_inR, zk_in2, zk_in3, zk_wiN, Nat.reduceAdd, ngI_e, ngI_le, ngI_m, cs_cmpN, zl_0, zl_1, zl_2, zl_3, zl_4, zl_5, zl_6, zl_7, zl_8, zl_9, zl_10, zl_12, zl_13, zl_14, zl_15, zl_16, zl_20, zl_32, zl_40, zl_48, zl_57, zl_59, zl_60, zl_63, zl_64, zl_97, zl_99, zl_101, zl_119, zl_120, zl_122, zl_128, zl_136, zl_152, zl_168, zl_184, zl_200, zl_201, zl_202, zl_203, zl_250, zl_255, zl_320, zl_999, zl_1000, h1, lg_ltN, lt64_0, e1, lt64_64, e2]
      rfl
theorem r_toldAt (hs : s < 8) (hi : i < 40) {v : Int64} (hv : m.2 33 0 (40 * s + i) = v) : ∃ w, F_X11_toldAt m (nI s) (nI i) = some w ∧ (∀ c, zcel v = some c → w = nI c) ∧ (zcel v = none → ax_ok w 64 = false) := by
  unfold F_X11_toldAt
  simp (disch := omega) only [↓zl_m1, zz_leT, zz_leF, zz_ltT, zz_ltF, zz_eqT, zz_eqF, zz_okN, zz_okF, nI_clamp, nI_add, pk_mul, pk_sub, zz_bS, zz_b2S, if_true, if_false, Bool.true_eq_false, Bool.false_eq_true, eq_self, ne_eq, not_true_eq_false, not_false_eq_true, false_or, or_false, true_or, or_true, and_true, true_and, and_false, false_and, mI_e, mI_e2, mI_le, mI_le2, mI_lt, mI_lt2, mI_ok, bI_0n, bI_1n, bI_orn, Nat.mul_zero, Nat.zero_add, Nat.add_zero, c_no2, c_no3, c_no4, c_no5, c_no6, r_no2, r_no3, r_no4, r_no5, r_no6, zk_inR, zk_in2, zk_in3, zk_wiN, Nat.reduceAdd, ngI_e, ngI_le, ngI_m, cs_cmpN, zl_0, zl_1, zl_2, zl_3, zl_4, zl_5, zl_6, zl_7, zl_8, zl_9, zl_10, zl_12, zl_13, zl_14, zl_15, zl_16, zl_20, zl_32, zl_40, zl_48, zl_57, zl_59, zl_60, zl_63, zl_64, zl_97, zl_99, zl_101, zl_119, zl_120, zl_122, zl_128, zl_136, zl_152, zl_168, zl_184, zl_200, zl_201, zl_202, zl_203, zl_250, zl_255, zl_320, zl_999, zl_1000, hv, cs_cmpN]
  by_cases e : lg_cmp v v.toInt32.toInt64 = nI 0
  · rw [if_pos e]
    have e : v = v.toInt32.toInt64 := (lg_cmp_eq _ _).mp e
    refine ⟨_, rfl, fun c hc => ?_, fun hn => ?_⟩
    · unfold zcel at hc
      by_cases e1 : 0 ≤ v.toInt ∧ v.toInt < 64
      · rw [if_pos e1] at hc
        cases hc
        exact toInt32_64 v e1
      · rw [if_neg e1] at hc; cases hc
    · have q : v.toInt = v.toInt32.toInt := by
        have := congrArg Int64.toInt e
        rw [Int32.toInt_toInt64] at this
        exact this
      unfold zcel at hn
      by_cases e1 : 0 ≤ v.toInt ∧ v.toInt < 64
      · rw [if_pos e1] at hn; cases hn
      · unfold ax_ok
        simp only [Bool.and_eq_false_iff, decide_eq_false_iff_not]
        omega
  · rw [if_neg e]
    refine ⟨_, rfl, fun c hc => ?_, fun _ => mI_ok⟩
    exfalso
    apply e
    refine (lg_cmp_eq _ _).mpr ?_
    unfold zcel at hc
    by_cases e1 : 0 ≤ v.toInt ∧ v.toInt < 64
    · rw [toInt32_64 v e1]
      rw [nI_l (by omega)]
      exact Int64.toInt_inj.mp (by rw [lN_toInt (by omega)]; omega)
    · rw [if_neg e1] at hc; cases hc
end
/-- a shelf with a row, as both have it -/
def zRow (m : ax_M) (s l : Nat) : Prop := ∃ t, t < 5 ∧ m.1 8 s 0 = nI t ∧ m.1 31 0 s = nI t ∧ m.1 8 s 1 = nI l ∧ m.1 32 0 s = nI l ∧ ∀ i, i < l → m.2 9 s i = m.2 33 0 (40 * s + i)
theorem c_noJ {j : Nat} (hj : j < 5) (m : ax_M) : F_X10_refuse m (-nI (j + 2)) = some (-nI (j + 2), zrf m j) := by
  rcases (by omega : j = 0 ∨ j = 1 ∨ j = 2 ∨ j = 3 ∨ j = 4) with rfl | rfl | rfl | rfl | rfl <;> rfl
theorem r_noJ {j : Nat} (hj : j < 5) (m : ax_M) : F_X11_no m (-nI (j + 2)) = some (-nI (j + 2), zrn m (j + 2)) := by
  rcases (by omega : j = 0 ∨ j = 1 ∨ j = 2 ∨ j = 3 ∨ j = 4) with rfl | rfl | rfl | rfl | rfl <;> rfl
theorem wk_row {m : ax_M} {G : zG} (h : zRG m G) {s : Nat} (hs : s < 8) {n : Nat} (hn : n ≤ 40) : (∃ j, j < 3 ∧ F_X10_noTold m s (nI n) = some (-nI (j + 2)) ∧ ∀ m1, zE [20] m m1 → F_X11_noRow_ m1 (nI s) (nI n) = some (-nI (j + 2))) ∨ (∃ l, n ≤ l ∧ l ≤ 40 ∧ zRow m s l ∧ F_X10_noTold m s (nI n) = some (nI 0) ∧ F_X11_noRow_ m (nI s) (nI n) = some (nI 0)) := by
  obtain ⟨hV, hC, hL, hK, hS, -⟩ := id h
  have hs16 := hV.s
  rcases hS s hs with ⟨b1, b2, b3⟩ | ⟨k, hk, b1, b2, b3⟩ | ⟨t, l, ht, hl, b1, b2, b3, b4, b5⟩
  · refine .inl ⟨2, by omega, ?_, fun m1 e1 => ?_⟩
    · unfold F_X10_noTold F_X7_noRow F_X7_holdsSeed F_X7_isEmpty; simp (disch := omega) only [↓zl_m1, zz_leT, zz_leF, zz_ltT, zz_ltF, zz_eqT, zz_eqF, zz_okN, zz_okF, nI_clamp, nI_add, pk_mul, pk_sub, zz_bS, zz_b2S, if_true, if_false, Bool.true_eq_false, Bool.false_eq_true, eq_self, ne_eq, not_true_eq_false, not_false_eq_true, false_or, or_false, true_or, or_true, and_true, true_and, and_false, false_and, mI_e, mI_e2, mI_le, mI_le2, mI_lt, mI_lt2, mI_ok, bI_0n, bI_1n, bI_orn, Nat.mul_zero, Nat.zero_add, Nat.add_zero, c_no2, c_no3, c_no4, c_no5, c_no6, r_no2, r_no3, r_no4, r_no5, r_no6, zk_inR, zk_in2, zk_in3, zk_wiN, Nat.reduceAdd, ngI_e, ngI_le, ngI_m, cs_cmpN, zl_0, zl_1, zl_2, zl_3, zl_4, zl_5, zl_6, zl_7, zl_8, zl_9, zl_10, zl_12, zl_13, zl_14, zl_15, zl_16, zl_20, zl_32, zl_40, zl_48, zl_57, zl_59, zl_60, zl_63, zl_64, zl_97, zl_99, zl_101, zl_119, zl_120, zl_122, zl_128, zl_136, zl_152, zl_168, zl_184, zl_200, zl_201, zl_202, zl_203, zl_250, zl_255, zl_320, zl_999, zl_1000, b1]
    · have q1 : m1.1 31 0 s = mI := (e1.i (show 31 ∉ [20] by decide) 0 s).trans b2
      unfold F_X11_noRow_ F_X11_isRow F_X11_noRow; simp (disch := omega) only [↓zl_m1, zz_leT, zz_leF, zz_ltT, zz_ltF, zz_eqT, zz_eqF, zz_okN, zz_okF, nI_clamp, nI_add, pk_mul, pk_sub, zz_bS, zz_b2S, if_true, if_false, Bool.true_eq_false, Bool.false_eq_true, eq_self, ne_eq, not_true_eq_false, not_false_eq_true, false_or, or_false, true_or, or_true, and_true, true_and, and_false, false_and, mI_e, mI_e2, mI_le, mI_le2, mI_lt, mI_lt2, mI_ok, bI_0n, bI_1n, bI_orn, Nat.mul_zero, Nat.zero_add, Nat.add_zero, c_no2, c_no3, c_no4, c_no5, c_no6, r_no2, r_no3, r_no4, r_no5, r_no6, zk_inR, zk_in2, zk_in3, zk_wiN, Nat.reduceAdd, ngI_e, ngI_le, ngI_m, cs_cmpN, zl_0, zl_1, zl_2, zl_3, zl_4, zl_5, zl_6, zl_7, zl_8, zl_9, zl_10, zl_12, zl_13, zl_14, zl_15, zl_16, zl_20, zl_32, zl_40, zl_48, zl_57, zl_59, zl_60, zl_63, zl_64, zl_97, zl_99, zl_101, zl_119, zl_120, zl_122, zl_128, zl_136, zl_152, zl_168, zl_184, zl_200, zl_201, zl_202, zl_203, zl_250, zl_255, zl_320, zl_999, zl_1000, q1]
  · refine .inl ⟨1, by omega, ?_, fun m1 e1 => ?_⟩
    · unfold F_X10_noTold F_X7_noRow F_X7_holdsSeed F_X7_isEmpty; simp (disch := omega) only [↓zl_m1, zz_leT, zz_leF, zz_ltT, zz_ltF, zz_eqT, zz_eqF, zz_okN, zz_okF, nI_clamp, nI_add, pk_mul, pk_sub, zz_bS, zz_b2S, if_true, if_false, Bool.true_eq_false, Bool.false_eq_true, eq_self, ne_eq, not_true_eq_false, not_false_eq_true, false_or, or_false, true_or, or_true, and_true, true_and, and_false, false_and, mI_e, mI_e2, mI_le, mI_le2, mI_lt, mI_lt2, mI_ok, bI_0n, bI_1n, bI_orn, Nat.mul_zero, Nat.zero_add, Nat.add_zero, c_no2, c_no3, c_no4, c_no5, c_no6, r_no2, r_no3, r_no4, r_no5, r_no6, zk_inR, zk_in2, zk_in3, zk_wiN, Nat.reduceAdd, ngI_e, ngI_le, ngI_m, cs_cmpN, zl_0, zl_1, zl_2, zl_3, zl_4, zl_5, zl_6, zl_7, zl_8, zl_9, zl_10, zl_12, zl_13, zl_14, zl_15, zl_16, zl_20, zl_32, zl_40, zl_48, zl_57, zl_59, zl_60, zl_63, zl_64, zl_97, zl_99, zl_101, zl_119, zl_120, zl_122, zl_128, zl_136, zl_152, zl_168, zl_184, zl_200, zl_201, zl_202, zl_203, zl_250, zl_255, zl_320, zl_999, zl_1000, b1]
    · have q1 : m1.1 31 0 s = nI (10 + k) := (e1.i (show 31 ∉ [20] by decide) 0 s).trans b2
      unfold F_X11_noRow_ F_X11_isRow F_X11_noRow; simp (disch := omega) only [↓zl_m1, zz_leT, zz_leF, zz_ltT, zz_ltF, zz_eqT, zz_eqF, zz_okN, zz_okF, nI_clamp, nI_add, pk_mul, pk_sub, zz_bS, zz_b2S, if_true, if_false, Bool.true_eq_false, Bool.false_eq_true, eq_self, ne_eq, not_true_eq_false, not_false_eq_true, false_or, or_false, true_or, or_true, and_true, true_and, and_false, false_and, mI_e, mI_e2, mI_le, mI_le2, mI_lt, mI_lt2, mI_ok, bI_0n, bI_1n, bI_orn, Nat.mul_zero, Nat.zero_add, Nat.add_zero, c_no2, c_no3, c_no4, c_no5, c_no6, r_no2, r_no3, r_no4, r_no5, r_no6, zk_inR, zk_in2, zk_in3, zk_wiN, Nat.reduceAdd, ngI_e, ngI_le, ngI_m, cs_cmpN, zl_0, zl_1, zl_2, zl_3, zl_4, zl_5, zl_6, zl_7, zl_8, zl_9, zl_10, zl_12, zl_13, zl_14, zl_15, zl_16, zl_20, zl_32, zl_40, zl_48, zl_57, zl_59, zl_60, zl_63, zl_64, zl_97, zl_99, zl_101, zl_119, zl_120, zl_122, zl_128, zl_136, zl_152, zl_168, zl_184, zl_200, zl_201, zl_202, zl_203, zl_250, zl_255, zl_320, zl_999, zl_1000, q1]
  · by_cases e : n ≤ l
    · refine .inr ⟨l, e, hl, ⟨t, ht, b1, b2, b3, b4, b5⟩, ?_, ?_⟩
      · unfold F_X10_noTold F_X7_noRow F_X7_holdsSeed F_X7_isEmpty; simp (disch := omega) only [↓zl_m1, zz_leT, zz_leF, zz_ltT, zz_ltF, zz_eqT, zz_eqF, zz_okN, zz_okF, nI_clamp, nI_add, pk_mul, pk_sub, zz_bS, zz_b2S, if_true, if_false, Bool.true_eq_false, Bool.false_eq_true, eq_self, ne_eq, not_true_eq_false, not_false_eq_true, false_or, or_false, true_or, or_true, and_true, true_and, and_false, false_and, mI_e, mI_e2, mI_le, mI_le2, mI_lt, mI_lt2, mI_ok, bI_0n, bI_1n, bI_orn, Nat.mul_zero, Nat.zero_add, Nat.add_zero, c_no2, c_no3, c_no4, c_no5, c_no6, r_no2, r_no3, r_no4, r_no5, r_no6, zk_inR, zk_in2, zk_in3, zk_wiN, Nat.reduceAdd, ngI_e, ngI_le, ngI_m, cs_cmpN, zl_0, zl_1, zl_2, zl_3, zl_4, zl_5, zl_6, zl_7, zl_8, zl_9, zl_10, zl_12, zl_13, zl_14, zl_15, zl_16, zl_20, zl_32, zl_40, zl_48, zl_57, zl_59, zl_60, zl_63, zl_64, zl_97, zl_99, zl_101, zl_119, zl_120, zl_122, zl_128, zl_136, zl_152, zl_168, zl_184, zl_200, zl_201, zl_202, zl_203, zl_250, zl_255, zl_320, zl_999, zl_1000, b1, b3]
      · unfold F_X11_noRow_ F_X11_isRow F_X11_noRow; simp (disch := omega) only [↓zl_m1, zz_leT, zz_leF, zz_ltT, zz_ltF, zz_eqT, zz_eqF, zz_okN, zz_okF, nI_clamp, nI_add, pk_mul, pk_sub, zz_bS, zz_b2S, if_true, if_false, Bool.true_eq_false, Bool.false_eq_true, eq_self, ne_eq, not_true_eq_false, not_false_eq_true, false_or, or_false, true_or, or_true, and_true, true_and, and_false, false_and, mI_e, mI_e2, mI_le, mI_le2, mI_lt, mI_lt2, mI_ok, bI_0n, bI_1n, bI_orn, Nat.mul_zero, Nat.zero_add, Nat.add_zero, c_no2, c_no3, c_no4, c_no5, c_no6, r_no2, r_no3, r_no4, r_no5, r_no6, zk_inR, zk_in2, zk_in3, zk_wiN, Nat.reduceAdd, ngI_e, ngI_le, ngI_m, cs_cmpN, zl_0, zl_1, zl_2, zl_3, zl_4, zl_5, zl_6, zl_7, zl_8, zl_9, zl_10, zl_12, zl_13, zl_14, zl_15, zl_16, zl_20, zl_32, zl_40, zl_48, zl_57, zl_59, zl_60, zl_63, zl_64, zl_97, zl_99, zl_101, zl_119, zl_120, zl_122, zl_128, zl_136, zl_152, zl_168, zl_184, zl_200, zl_201, zl_202, zl_203, zl_250, zl_255, zl_320, zl_999, zl_1000, b2, b4]
    · refine .inl ⟨0, by omega, ?_, fun m1 e1 => ?_⟩
      · unfold F_X10_noTold F_X7_noRow F_X7_holdsSeed F_X7_isEmpty; simp (disch := omega) only [↓zl_m1, zz_leT, zz_leF, zz_ltT, zz_ltF, zz_eqT, zz_eqF, zz_okN, zz_okF, nI_clamp, nI_add, pk_mul, pk_sub, zz_bS, zz_b2S, if_true, if_false, Bool.true_eq_false, Bool.false_eq_true, eq_self, ne_eq, not_true_eq_false, not_false_eq_true, false_or, or_false, true_or, or_true, and_true, true_and, and_false, false_and, mI_e, mI_e2, mI_le, mI_le2, mI_lt, mI_lt2, mI_ok, bI_0n, bI_1n, bI_orn, Nat.mul_zero, Nat.zero_add, Nat.add_zero, c_no2, c_no3, c_no4, c_no5, c_no6, r_no2, r_no3, r_no4, r_no5, r_no6, zk_inR, zk_in2, zk_in3, zk_wiN, Nat.reduceAdd, ngI_e, ngI_le, ngI_m, cs_cmpN, zl_0, zl_1, zl_2, zl_3, zl_4, zl_5, zl_6, zl_7, zl_8, zl_9, zl_10, zl_12, zl_13, zl_14, zl_15, zl_16, zl_20, zl_32, zl_40, zl_48, zl_57, zl_59, zl_60, zl_63, zl_64, zl_97, zl_99, zl_101, zl_119, zl_120, zl_122, zl_128, zl_136, zl_152, zl_168, zl_184, zl_200, zl_201, zl_202, zl_203, zl_250, zl_255, zl_320, zl_999, zl_1000, b1, b3]
      · have q1 : m1.1 31 0 s = nI t := (e1.i (show 31 ∉ [20] by decide) 0 s).trans b2
        have q2 : m1.1 32 0 s = nI l := (e1.i (show 32 ∉ [20] by decide) 0 s).trans b4
        unfold F_X11_noRow_ F_X11_isRow F_X11_noRow; simp (disch := omega) only [↓zl_m1, zz_leT, zz_leF, zz_ltT, zz_ltF, zz_eqT, zz_eqF, zz_okN, zz_okF, nI_clamp, nI_add, pk_mul, pk_sub, zz_bS, zz_b2S, if_true, if_false, Bool.true_eq_false, Bool.false_eq_true, eq_self, ne_eq, not_true_eq_false, not_false_eq_true, false_or, or_false, true_or, or_true, and_true, true_and, and_false, false_and, mI_e, mI_e2, mI_le, mI_le2, mI_lt, mI_lt2, mI_ok, bI_0n, bI_1n, bI_orn, Nat.mul_zero, Nat.zero_add, Nat.add_zero, c_no2, c_no3, c_no4, c_no5, c_no6, r_no2, r_no3, r_no4, r_no5, r_no6, zk_inR, zk_in2, zk_in3, zk_wiN, Nat.reduceAdd, ngI_e, ngI_le, ngI_m, cs_cmpN, zl_0, zl_1, zl_2, zl_3, zl_4, zl_5, zl_6, zl_7, zl_8, zl_9, zl_10, zl_12, zl_13, zl_14, zl_15, zl_16, zl_20, zl_32, zl_40, zl_48, zl_57, zl_59, zl_60, zl_63, zl_64, zl_97, zl_99, zl_101, zl_119, zl_120, zl_122, zl_128, zl_136, zl_152, zl_168, zl_184, zl_200, zl_201, zl_202, zl_203, zl_250, zl_255, zl_320, zl_999, zl_1000, q1, q2]
theorem wk_cs {m : ax_M} {G : zG} (h : zRG m G) (v1 v2 v3 : Int32) : (∃ j, j < 3 ∧ F_X10_noWalk m v1 v2 v3 = some (-nI (j + 2)) ∧ ∀ m1, zE [20] m m1 → zL m1 G → F_X11_noWalk m1 v1 v2 v3 = some (-nI (j + 2))) ∨ (∃ p s n l, p < gP G ∧ s < 8 ∧ n ≤ l ∧ l ≤ 40 ∧ v1 = nI p ∧ v2 = nI s ∧ v3 = nI n ∧ zRow m s l ∧ F_X10_noWalk m v1 v2 v3 = some (nI 0) ∧ F_X11_noWalk m v1 v2 v3 = some (nI 0)) := by
  obtain ⟨hV, hC, hL, hK, hS, -⟩ := id h
  have hp := hV.p
  rcases zk_cs v2 (n := 8) (by omega) with e | ⟨s, hs, rfl⟩
  · exact .inl ⟨0, by omega, by unfold F_X10_noWalk; simp (disch := omega) only [↓zl_m1, zz_leT, zz_leF, zz_ltT, zz_ltF, zz_eqT, zz_eqF, zz_okN, zz_okF, nI_clamp, nI_add, pk_mul, pk_sub, zz_bS, zz_b2S, if_true, if_false, Bool.true_eq_false, Bool.false_eq_true, eq_self, ne_eq, not_true_eq_false, not_false_eq_true, false_or, or_false, true_or, or_true, and_true, true_and, and_false, false_and, mI_e, mI_e2, mI_le, mI_le2, mI_lt, mI_lt2, mI_ok, bI_0n, bI_1n, bI_orn, Nat.mul_zero, Nat.zero_add, Nat.add_zero, c_no2, c_no3, c_no4, c_no5, c_no6, r_no2, r_no3, r_no4, r_no5, r_no6, zk_inR, zk_in2, zk_in3, zk_wiN, Nat.reduceAdd, ngI_e, ngI_le, ngI_m, cs_cmpN, zl_0, zl_1, zl_2, zl_3, zl_4, zl_5, zl_6, zl_7, zl_8, zl_9, zl_10, zl_12, zl_13, zl_14, zl_15, zl_16, zl_20, zl_32, zl_40, zl_48, zl_57, zl_59, zl_60, zl_63, zl_64, zl_97, zl_99, zl_101, zl_119, zl_120, zl_122, zl_128, zl_136, zl_152, zl_168, zl_184, zl_200, zl_201, zl_202, zl_203, zl_250, zl_255, zl_320, zl_999, zl_1000, c_isShelf, e], fun m1 _ hL1 => by unfold F_X11_noWalk; simp (disch := omega) only [↓zl_m1, zz_leT, zz_leF, zz_ltT, zz_ltF, zz_eqT, zz_eqF, zz_okN, zz_okF, nI_clamp, nI_add, pk_mul, pk_sub, zz_bS, zz_b2S, if_true, if_false, Bool.true_eq_false, Bool.false_eq_true, eq_self, ne_eq, not_true_eq_false, not_false_eq_true, false_or, or_false, true_or, or_true, and_true, true_and, and_false, false_and, mI_e, mI_e2, mI_le, mI_le2, mI_lt, mI_lt2, mI_ok, bI_0n, bI_1n, bI_orn, Nat.mul_zero, Nat.zero_add, Nat.add_zero, c_no2, c_no3, c_no4, c_no5, c_no6, r_no2, r_no3, r_no4, r_no5, r_no6, zk_inR, zk_in2, zk_in3, zk_wiN, Nat.reduceAdd, ngI_e, ngI_le, ngI_m, cs_cmpN, zl_0, zl_1, zl_2, zl_3, zl_4, zl_5, zl_6, zl_7, zl_8, zl_9, zl_10, zl_12, zl_13, zl_14, zl_15, zl_16, zl_20, zl_32, zl_40, zl_48, zl_57, zl_59, zl_60, zl_63, zl_64, zl_97, zl_99, zl_101, zl_119, zl_120, zl_122, zl_128, zl_136, zl_152, zl_168, zl_184, zl_200, zl_201, zl_202, zl_203, zl_250, zl_255, zl_320, zl_999, zl_1000, r_isShelf, e]⟩
  rcases zk_cs v3 (n := 41) (by omega) with e | ⟨n, hn, rfl⟩
  · exact .inl ⟨0, by omega, by unfold F_X10_noWalk; simp (disch := omega) only [↓zl_m1, zz_leT, zz_leF, zz_ltT, zz_ltF, zz_eqT, zz_eqF, zz_okN, zz_okF, nI_clamp, nI_add, pk_mul, pk_sub, zz_bS, zz_b2S, if_true, if_false, Bool.true_eq_false, Bool.false_eq_true, eq_self, ne_eq, not_true_eq_false, not_false_eq_true, false_or, or_false, true_or, or_true, and_true, true_and, and_false, false_and, mI_e, mI_e2, mI_le, mI_le2, mI_lt, mI_lt2, mI_ok, bI_0n, bI_1n, bI_orn, Nat.mul_zero, Nat.zero_add, Nat.add_zero, c_no2, c_no3, c_no4, c_no5, c_no6, r_no2, r_no3, r_no4, r_no5, r_no6, zk_inR, zk_in2, zk_in3, zk_wiN, Nat.reduceAdd, ngI_e, ngI_le, ngI_m, cs_cmpN, zl_0, zl_1, zl_2, zl_3, zl_4, zl_5, zl_6, zl_7, zl_8, zl_9, zl_10, zl_12, zl_13, zl_14, zl_15, zl_16, zl_20, zl_32, zl_40, zl_48, zl_57, zl_59, zl_60, zl_63, zl_64, zl_97, zl_99, zl_101, zl_119, zl_120, zl_122, zl_128, zl_136, zl_152, zl_168, zl_184, zl_200, zl_201, zl_202, zl_203, zl_250, zl_255, zl_320, zl_999, zl_1000, c_isShelf, e], fun m1 _ hL1 => by unfold F_X11_noWalk; simp (disch := omega) only [↓zl_m1, zz_leT, zz_leF, zz_ltT, zz_ltF, zz_eqT, zz_eqF, zz_okN, zz_okF, nI_clamp, nI_add, pk_mul, pk_sub, zz_bS, zz_b2S, if_true, if_false, Bool.true_eq_false, Bool.false_eq_true, eq_self, ne_eq, not_true_eq_false, not_false_eq_true, false_or, or_false, true_or, or_true, and_true, true_and, and_false, false_and, mI_e, mI_e2, mI_le, mI_le2, mI_lt, mI_lt2, mI_ok, bI_0n, bI_1n, bI_orn, Nat.mul_zero, Nat.zero_add, Nat.add_zero, c_no2, c_no3, c_no4, c_no5, c_no6, r_no2, r_no3, r_no4, r_no5, r_no6, zk_inR, zk_in2, zk_in3, zk_wiN, Nat.reduceAdd, ngI_e, ngI_le, ngI_m, cs_cmpN, zl_0, zl_1, zl_2, zl_3, zl_4, zl_5, zl_6, zl_7, zl_8, zl_9, zl_10, zl_12, zl_13, zl_14, zl_15, zl_16, zl_20, zl_32, zl_40, zl_48, zl_57, zl_59, zl_60, zl_63, zl_64, zl_97, zl_99, zl_101, zl_119, zl_120, zl_122, zl_128, zl_136, zl_152, zl_168, zl_184, zl_200, zl_201, zl_202, zl_203, zl_250, zl_255, zl_320, zl_999, zl_1000, r_isShelf, e]⟩
  rcases zk_cs v1 (n := gP G) (by omega) with e | ⟨p, hp2, rfl⟩
  · exact .inl ⟨0, by omega, by unfold F_X10_noWalk; simp (disch := omega) only [↓zl_m1, zz_leT, zz_leF, zz_ltT, zz_ltF, zz_eqT, zz_eqF, zz_okN, zz_okF, nI_clamp, nI_add, pk_mul, pk_sub, zz_bS, zz_b2S, if_true, if_false, Bool.true_eq_false, Bool.false_eq_true, eq_self, ne_eq, not_true_eq_false, not_false_eq_true, false_or, or_false, true_or, or_true, and_true, true_and, and_false, false_and, mI_e, mI_e2, mI_le, mI_le2, mI_lt, mI_lt2, mI_ok, bI_0n, bI_1n, bI_orn, Nat.mul_zero, Nat.zero_add, Nat.add_zero, c_no2, c_no3, c_no4, c_no5, c_no6, r_no2, r_no3, r_no4, r_no5, r_no6, zk_inR, zk_in2, zk_in3, zk_wiN, Nat.reduceAdd, ngI_e, ngI_le, ngI_m, cs_cmpN, zl_0, zl_1, zl_2, zl_3, zl_4, zl_5, zl_6, zl_7, zl_8, zl_9, zl_10, zl_12, zl_13, zl_14, zl_15, zl_16, zl_20, zl_32, zl_40, zl_48, zl_57, zl_59, zl_60, zl_63, zl_64, zl_97, zl_99, zl_101, zl_119, zl_120, zl_122, zl_128, zl_136, zl_152, zl_168, zl_184, zl_200, zl_201, zl_202, zl_203, zl_250, zl_255, zl_320, zl_999, zl_1000, c_isShelf, c_isPerson hC hV, e], fun m1 _ hL1 => by unfold F_X11_noWalk; simp (disch := omega) only [↓zl_m1, zz_leT, zz_leF, zz_ltT, zz_ltF, zz_eqT, zz_eqF, zz_okN, zz_okF, nI_clamp, nI_add, pk_mul, pk_sub, zz_bS, zz_b2S, if_true, if_false, Bool.true_eq_false, Bool.false_eq_true, eq_self, ne_eq, not_true_eq_false, not_false_eq_true, false_or, or_false, true_or, or_true, and_true, true_and, and_false, false_and, mI_e, mI_e2, mI_le, mI_le2, mI_lt, mI_lt2, mI_ok, bI_0n, bI_1n, bI_orn, Nat.mul_zero, Nat.zero_add, Nat.add_zero, c_no2, c_no3, c_no4, c_no5, c_no6, r_no2, r_no3, r_no4, r_no5, r_no6, zk_inR, zk_in2, zk_in3, zk_wiN, Nat.reduceAdd, ngI_e, ngI_le, ngI_m, cs_cmpN, zl_0, zl_1, zl_2, zl_3, zl_4, zl_5, zl_6, zl_7, zl_8, zl_9, zl_10, zl_12, zl_13, zl_14, zl_15, zl_16, zl_20, zl_32, zl_40, zl_48, zl_57, zl_59, zl_60, zl_63, zl_64, zl_97, zl_99, zl_101, zl_119, zl_120, zl_122, zl_128, zl_136, zl_152, zl_168, zl_184, zl_200, zl_201, zl_202, zl_203, zl_250, zl_255, zl_320, zl_999, zl_1000, r_isShelf, r_isOne hL1 hV, e]⟩
  rcases wk_row h hs (show n ≤ 40 by omega) with ⟨j, hj, c1, r1⟩ | ⟨l, hl, hl2, hR, c1, r1⟩
  · exact .inl ⟨j, hj, by unfold F_X10_noWalk; simp (disch := omega) only [↓zl_m1, zz_leT, zz_leF, zz_ltT, zz_ltF, zz_eqT, zz_eqF, zz_okN, zz_okF, nI_clamp, nI_add, pk_mul, pk_sub, zz_bS, zz_b2S, if_true, if_false, Bool.true_eq_false, Bool.false_eq_true, eq_self, ne_eq, not_true_eq_false, not_false_eq_true, false_or, or_false, true_or, or_true, and_true, true_and, and_false, false_and, mI_e, mI_e2, mI_le, mI_le2, mI_lt, mI_lt2, mI_ok, bI_0n, bI_1n, bI_orn, Nat.mul_zero, Nat.zero_add, Nat.add_zero, c_no2, c_no3, c_no4, c_no5, c_no6, r_no2, r_no3, r_no4, r_no5, r_no6, zk_inR, zk_in2, zk_in3, zk_wiN, Nat.reduceAdd, ngI_e, ngI_le, ngI_m, cs_cmpN, zl_0, zl_1, zl_2, zl_3, zl_4, zl_5, zl_6, zl_7, zl_8, zl_9, zl_10, zl_12, zl_13, zl_14, zl_15, zl_16, zl_20, zl_32, zl_40, zl_48, zl_57, zl_59, zl_60, zl_63, zl_64, zl_97, zl_99, zl_101, zl_119, zl_120, zl_122, zl_128, zl_136, zl_152, zl_168, zl_184, zl_200, zl_201, zl_202, zl_203, zl_250, zl_255, zl_320, zl_999, zl_1000, c_isShelf, c_isPerson hC hV, c1], fun m1 e1 hL1 => by unfold F_X11_noWalk; simp (disch := omega) only [↓zl_m1, zz_leT, zz_leF, zz_ltT, zz_ltF, zz_eqT, zz_eqF, zz_okN, zz_okF, nI_clamp, nI_add, pk_mul, pk_sub, zz_bS, zz_b2S, if_true, if_false, Bool.true_eq_false, Bool.false_eq_true, eq_self, ne_eq, not_true_eq_false, not_false_eq_true, false_or, or_false, true_or, or_true, and_true, true_and, and_false, false_and, mI_e, mI_e2, mI_le, mI_le2, mI_lt, mI_lt2, mI_ok, bI_0n, bI_1n, bI_orn, Nat.mul_zero, Nat.zero_add, Nat.add_zero, c_no2, c_no3, c_no4, c_no5, c_no6, r_no2, r_no3, r_no4, r_no5, r_no6, zk_inR, zk_in2, zk_in3, zk_wiN, Nat.reduceAdd, ngI_e, ngI_le, ngI_m, cs_cmpN, zl_0, zl_1, zl_2, zl_3, zl_4, zl_5, zl_6, zl_7, zl_8, zl_9, zl_10, zl_12, zl_13, zl_14, zl_15, zl_16, zl_20, zl_32, zl_40, zl_48, zl_57, zl_59, zl_60, zl_63, zl_64, zl_97, zl_99, zl_101, zl_119, zl_120, zl_122, zl_128, zl_136, zl_152, zl_168, zl_184, zl_200, zl_201, zl_202, zl_203, zl_250, zl_255, zl_320, zl_999, zl_1000, r_isShelf, r_isOne hL1 hV, r1 m1 e1]⟩
  · exact .inr ⟨p, s, n, l, hp2, hs, hl, hl2, rfl, rfl, rfl, hR, by unfold F_X10_noWalk; simp (disch := omega) only [↓zl_m1, zz_leT, zz_leF, zz_ltT, zz_ltF, zz_eqT, zz_eqF, zz_okN, zz_okF, nI_clamp, nI_add, pk_mul, pk_sub, zz_bS, zz_b2S, if_true, if_false, Bool.true_eq_false, Bool.false_eq_true, eq_self, ne_eq, not_true_eq_false, not_false_eq_true, false_or, or_false, true_or, or_true, and_true, true_and, and_false, false_and, mI_e, mI_e2, mI_le, mI_le2, mI_lt, mI_lt2, mI_ok, bI_0n, bI_1n, bI_orn, Nat.mul_zero, Nat.zero_add, Nat.add_zero, c_no2, c_no3, c_no4, c_no5, c_no6, r_no2, r_no3, r_no4, r_no5, r_no6, zk_inR, zk_in2, zk_in3, zk_wiN, Nat.reduceAdd, ngI_e, ngI_le, ngI_m, cs_cmpN, zl_0, zl_1, zl_2, zl_3, zl_4, zl_5, zl_6, zl_7, zl_8, zl_9, zl_10, zl_12, zl_13, zl_14, zl_15, zl_16, zl_20, zl_32, zl_40, zl_48, zl_57, zl_59, zl_60, zl_63, zl_64, zl_97, zl_99, zl_101, zl_119, zl_120, zl_122, zl_128, zl_136, zl_152, zl_168, zl_184, zl_200, zl_201, zl_202, zl_203, zl_250, zl_255, zl_320, zl_999, zl_1000, c_isShelf, c_isPerson hC hV, c1], by unfold F_X11_noWalk; simp (disch := omega) only [↓zl_m1, zz_leT, zz_leF, zz_ltT, zz_ltF, zz_eqT, zz_eqF, zz_okN, zz_okF, nI_clamp, nI_add, pk_mul, pk_sub, zz_bS, zz_b2S, if_true, if_false, Bool.true_eq_false, Bool.false_eq_true, eq_self, ne_eq, not_true_eq_false, not_false_eq_true, false_or, or_false, true_or, or_true, and_true, true_and, and_false, false_and, mI_e, mI_e2, mI_le, mI_le2, mI_lt, mI_lt2, mI_ok, bI_0n, bI_1n, bI_orn, Nat.mul_zero, Nat.zero_add, Nat.add_zero, c_no2, c_no3, c_no4, c_no5, c_no6, r_no2, r_no3, r_no4, r_no5, r_no6, zk_inR, zk_in2, zk_in3, zk_wiN, Nat.reduceAdd, ngI_e, ngI_le, ngI_m, cs_cmpN, zl_0, zl_1, zl_2, zl_3, zl_4, zl_5, zl_6, zl_7, zl_8, zl_9, zl_10, zl_12, zl_13, zl_14, zl_15, zl_16, zl_20, zl_32, zl_40, zl_48, zl_57, zl_59, zl_60, zl_63, zl_64, zl_97, zl_99, zl_101, zl_119, zl_120, zl_122, zl_128, zl_136, zl_152, zl_168, zl_184, zl_200, zl_201, zl_202, zl_203, zl_250, zl_255, zl_320, zl_999, zl_1000, r_isShelf, r_isOne hL hV, r1]⟩
/-- the first wrong one -/
def znb (a d : Nat) : Bool := zn (fun i => decide (i = a)) d
theorem znb_abs : ∀ a, a < 64 → ∀ d, d < 64 → znb a d = decide (max (d / 8 - a / 8) (a / 8 - d / 8) + max (d % 8 - a % 8) (a % 8 - d % 8) = 1) := by decide +kernel
def zwr (f : Nat → Option Nat) (W : Nat → Bool) : Nat → Nat → Nat → Int32
  | 0, _, _ => mI
  | k + 1, i, a => match f i with
    | none => nI i
    | some d => if (znb a d && !W d) = true then zwr f W k (i + 1) d else nI i
theorem zwr_ok {f : Nat → Option Nat} {W : Nat → Bool} : ∀ (k i a : Nat), i + k < 2 ^ 30 → zwr f W k i a = mI → ∀ j, i ≤ j → j < i + k → ∃ d, f j = some d ∧ W d = false
  | 0, i, a, _, _, j, h1, h2 => by omega
  | k + 1, i, a, hb, h, j, h1, h2 => by
    rw [zwr] at h
    cases e : f i with
    | none =>
      rw [e] at h
      have h : nI i = mI := h
      rw [mI_e (by omega)] at h
      exact h.elim
    | some d =>
      rw [e] at h
      have h : (if (znb a d && !W d) = true then zwr f W k (i + 1) d else nI i) = mI := h
      by_cases e2 : (znb a d && !W d) = true
      · rw [if_pos e2] at h
        by_cases e3 : j = i
        · subst e3
          refine ⟨d, e, ?_⟩
          rw [Bool.and_eq_true] at e2
          cases e4 : W d with
          | false => rfl
          | true => rw [e4] at e2; exact absurd e2.2 (by decide)
        · exact zwr_ok k (i + 1) d (by omega) h j (by omega) (by omega)
      · rw [if_neg e2, mI_e (by omega)] at h
        exact h.elim
def zcl (m : ax_M) (s : Nat) (i : Nat) : Option Nat := zcel (m.2 9 s i)
section
variable {m : ax_M} {G : zG} {s l n p : Nat}
theorem c_wrongOf (hC : zC m 0 G) (hV : zV G) (hR : zRow m s l) (hl : l ≤ 40) (hn : n ≤ l) (hp : p < 8) : F_X10_wrongOf m (nI p) s (nI n) = some (zwr (zcl m s) (gW G) n 0 (gO G p)) := by
  obtain ⟨t, ht, b1, b2, b3, b4, b5⟩ := hR
  have key : ∀ k i q, i + k = n → k < q → (∀ a, a < 64 → F_X10_wrongOf_L8 q m s (nI n) (nI a) (nI i) = some (zwr (zcl m s) (gW G) k i a)) := by
    intro k
    induction k with
    | zero =>
      intro i q h1 h2 a ha
      obtain ⟨q, rfl⟩ : ∃ z, q = z + 1 := ⟨q - 1, by omega⟩
      obtain rfl : i = n := by omega
      rw [F_X10_wrongOf_L8, if_pos (Int32.le_refl _)]
      rfl
    | succ k ih =>
      intro i q h1 h2 a ha
      obtain ⟨q, rfl⟩ : ∃ z, q = z + 1 := ⟨q - 1, by omega⟩
      have hc := c_cellAt b3 hl (show i < l by omega)
      rw [F_X10_wrongOf_L8, zwr]
      show _ = some (match zcel (m.2 9 s i) with | none => nI i | some d => _)
      cases e : zcel (m.2 9 s i) with
      | none =>
        rw [e] at hc
        have hc : F_X7_cellAt m s (nI i) = some mI := hc
        simp (disch := omega) only [↓zl_m1, zz_leT, zz_leF, zz_ltT, zz_ltF, zz_eqT, zz_eqF, zz_okN, zz_okF, nI_clamp, nI_add, pk_mul, pk_sub, zz_bS, zz_b2S, if_true, if_false, Bool.true_eq_false, Bool.false_eq_true, eq_self, ne_eq, not_true_eq_false, not_false_eq_true, false_or, or_false, true_or, or_true, and_true, true_and, and_false, false_and, mI_e, mI_e2, mI_le, mI_le2, mI_lt, mI_lt2, mI_ok, bI_0n, bI_1n, bI_orn, Nat.mul_zero, Nat.zero_add, Nat.add_zero, c_no2, c_no3, c_no4, c_no5, c_no6, r_no2, r_no3, r_no4, r_no5, r_no6, zk_inR, zk_in2, zk_in3, zk_wiN, Nat.reduceAdd, ngI_e, ngI_le, ngI_m, cs_cmpN, zl_0, zl_1, zl_2, zl_3, zl_4, zl_5, zl_6, zl_7, zl_8, zl_9, zl_10, zl_12, zl_13, zl_14, zl_15, zl_16, zl_20, zl_32, zl_40, zl_48, zl_57, zl_59, zl_60, zl_63, zl_64, zl_97, zl_99, zl_101, zl_119, zl_120, zl_122, zl_128, zl_136, zl_152, zl_168, zl_184, zl_200, zl_201, zl_202, zl_203, zl_250, zl_255, zl_320, zl_999, zl_1000, hc]
      | some d =>
        rw [e] at hc
        have hc : F_X7_cellAt m s (nI i) = some (nI d) := hc
        have hd := zcel_lt e
        have ih2 := ih (i + 1) q (by omega) (by omega) d hd
        simp (disch := omega) only [↓zl_m1, zz_leT, zz_leF, zz_ltT, zz_ltF, zz_eqT, zz_eqF, zz_okN, zz_okF, nI_clamp, nI_add, pk_mul, pk_sub, zz_bS, zz_b2S, if_true, if_false, Bool.true_eq_false, Bool.false_eq_true, eq_self, ne_eq, not_true_eq_false, not_false_eq_true, false_or, or_false, true_or, or_true, and_true, true_and, and_false, false_and, mI_e, mI_e2, mI_le, mI_le2, mI_lt, mI_lt2, mI_ok, bI_0n, bI_1n, bI_orn, Nat.mul_zero, Nat.zero_add, Nat.add_zero, c_no2, c_no3, c_no4, c_no5, c_no6, r_no2, r_no3, r_no4, r_no5, r_no6, zk_inR, zk_in2, zk_in3, zk_wiN, Nat.reduceAdd, ngI_e, ngI_le, ngI_m, cs_cmpN, zl_0, zl_1, zl_2, zl_3, zl_4, zl_5, zl_6, zl_7, zl_8, zl_9, zl_10, zl_12, zl_13, zl_14, zl_15, zl_16, zl_20, zl_32, zl_40, zl_48, zl_57, zl_59, zl_60, zl_63, zl_64, zl_97, zl_99, zl_101, zl_119, zl_120, zl_122, zl_128, zl_136, zl_152, zl_168, zl_184, zl_200, zl_201, zl_202, zl_203, zl_250, zl_255, zl_320, zl_999, zl_1000, hc, cs_bit ha, cs_beside, cs_has hd, c_hasWall hC hd]
        show (if znb a d = false then _ else if gW G d = false then _ else _) = _
        cases e1 : znb a d with
        | false => rfl
        | true =>
          rw [if_neg (by decide)]
          cases e2 : gW G d with
          | false =>
            rw [if_pos rfl, ih2]
            rfl
          | true => rfl
  unfold F_X10_wrongOf
  simp (disch := omega) only [↓zl_m1, zz_leT, zz_leF, zz_ltT, zz_ltF, zz_eqT, zz_eqF, zz_okN, zz_okF, nI_clamp, nI_add, pk_mul, pk_sub, zz_bS, zz_b2S, if_true, if_false, Bool.true_eq_false, Bool.false_eq_true, eq_self, ne_eq, not_true_eq_false, not_false_eq_true, false_or, or_false, true_or, or_true, and_true, true_and, and_false, false_and, mI_e, mI_e2, mI_le, mI_le2, mI_lt, mI_lt2, mI_ok, bI_0n, bI_1n, bI_orn, Nat.mul_zero, Nat.zero_add, Nat.add_zero, c_no2, c_no3, c_no4, c_no5, c_no6, r_no2, r_no3, r_no4, r_no5, r_no6, zk_inR, zk_in2, zk_in3, zk_wiN, Nat.reduceAdd, ngI_e, ngI_le, ngI_m, cs_cmpN, zl_0, zl_1, zl_2, zl_3, zl_4, zl_5, zl_6, zl_7, zl_8, zl_9, zl_10, zl_12, zl_13, zl_14, zl_15, zl_16, zl_20, zl_32, zl_40, zl_48, zl_57, zl_59, zl_60, zl_63, zl_64, zl_97, zl_99, zl_101, zl_119, zl_120, zl_122, zl_128, zl_136, zl_152, zl_168, zl_184, zl_200, zl_201, zl_202, zl_203, zl_250, zl_255, zl_320, zl_999, zl_1000, hC.o hp]
  exact key n 0 ax_FU (by omega) (by unfold ax_FU; omega) _ (hV.o hp)
theorem r_wrong (hL : zL m G) (hV : zV G) (hR : zRow m s l) (hl : l ≤ 40) (hn : n ≤ l) (hp : p < 8) (hs : s < 8) : F_X11_wrong m (nI p) (nI s) (nI n) = some (zwr (zcl m s) (gW G) n 0 (gO G p)) := by
  obtain ⟨t, ht, b1, b2, b3, b4, b5⟩ := hR
  have key : ∀ k i q, i + k = n → k < q → (∀ a, a < 64 → F_X11_wrong_L7 q m (nI s) (nI n) (nI a) (nI i) = some (zwr (zcl m s) (gW G) k i a)) := by
    intro k
    induction k with
    | zero =>
      intro i q h1 h2 a ha
      obtain ⟨q, rfl⟩ : ∃ z, q = z + 1 := ⟨q - 1, by omega⟩
      obtain rfl : i = n := by omega
      rw [F_X11_wrong_L7, if_pos (Int32.le_refl _)]
      rfl
    | succ k ih =>
      intro i q h1 h2 a ha
      obtain ⟨q, rfl⟩ : ∃ z, q = z + 1 := ⟨q - 1, by omega⟩
      obtain ⟨w, w1, w2, w3⟩ := r_toldAt (m := m) hs (show i < 40 by omega) (b5 i (by omega)).symm
      rw [F_X11_wrong_L7, zwr]
      show _ = some (match zcel (m.2 9 s i) with | none => nI i | some d => _)
      cases e : zcel (m.2 9 s i) with
      | none =>
        simp (disch := omega) only [↓zl_m1, zz_leT, zz_leF, zz_ltT, zz_ltF, zz_eqT, zz_eqF, zz_okN, zz_okF, nI_clamp, nI_add, pk_mul, pk_sub, zz_bS, zz_b2S, if_true, if_false, Bool.true_eq_false, Bool.false_eq_true, eq_self, ne_eq, not_true_eq_false, not_false_eq_true, false_or, or_false, true_or, or_true, and_true, true_and, and_false, false_and, mI_e, mI_e2, mI_le, mI_le2, mI_lt, mI_lt2, mI_ok, bI_0n, bI_1n, bI_orn, Nat.mul_zero, Nat.zero_add, Nat.add_zero, c_no2, c_no3, c_no4, c_no5, c_no6, r_no2, r_no3, r_no4, r_no5, r_no6, zk_inR, zk_in2, zk_in3, zk_wiN, Nat.reduceAdd, ngI_e, ngI_le, ngI_m, cs_cmpN, zl_0, zl_1, zl_2, zl_3, zl_4, zl_5, zl_6, zl_7, zl_8, zl_9, zl_10, zl_12, zl_13, zl_14, zl_15, zl_16, zl_20, zl_32, zl_40, zl_48, zl_57, zl_59, zl_60, zl_63, zl_64, zl_97, zl_99, zl_101, zl_119, zl_120, zl_122, zl_128, zl_136, zl_152, zl_168, zl_184, zl_200, zl_201, zl_202, zl_203, zl_250, zl_255, zl_320, zl_999, zl_1000, w1, cr_isCell, w3 e]
      | some d =>
        have hw := w2 d e
        subst hw
        have hd := zcel_lt e
        have ih2 := ih (i + 1) q (by omega) (by omega) d hd
        have ab := znb_abs a ha d hd
        simp (disch := omega) only [↓zl_m1, zz_leT, zz_leF, zz_ltT, zz_ltF, zz_eqT, zz_eqF, zz_okN, zz_okF, nI_clamp, nI_add, pk_mul, pk_sub, zz_bS, zz_b2S, if_true, if_false, Bool.true_eq_false, Bool.false_eq_true, eq_self, ne_eq, not_true_eq_false, not_false_eq_true, false_or, or_false, true_or, or_true, and_true, true_and, and_false, false_and, mI_e, mI_e2, mI_le, mI_le2, mI_lt, mI_lt2, mI_ok, bI_0n, bI_1n, bI_orn, Nat.mul_zero, Nat.zero_add, Nat.add_zero, c_no2, c_no3, c_no4, c_no5, c_no6, r_no2, r_no3, r_no4, r_no5, r_no6, zk_inR, zk_in2, zk_in3, zk_wiN, Nat.reduceAdd, ngI_e, ngI_le, ngI_m, cs_cmpN, zl_0, zl_1, zl_2, zl_3, zl_4, zl_5, zl_6, zl_7, zl_8, zl_9, zl_10, zl_12, zl_13, zl_14, zl_15, zl_16, zl_20, zl_32, zl_40, zl_48, zl_57, zl_59, zl_60, zl_63, zl_64, zl_97, zl_99, zl_101, zl_119, zl_120, zl_122, zl_128, zl_136, zl_152, zl_168, zl_184, zl_200, zl_201, zl_202, zl_203, zl_250, zl_255, zl_320, zl_999, zl_1000, w1, cr_isCell, hL.w hd]
        rw [r_div (by omega), r_div (by omega), r_rem (by omega), r_rem (by omega), r_abs (by omega) (by omega), r_abs (by omega) (by omega), nI_add]
        show _ = some (if (znb a d && !gW G d) = true then zwr (zcl m s) (gW G) k (i + 1) d else nI i)
        cases e2 : gW G d with
        | true => rw [if_neg (show ¬ true = false by decide), Bool.not_true, Bool.and_false, if_neg (by decide)]
        | false =>
          rw [if_pos rfl, Bool.not_false, Bool.and_true, ab]
          by_cases e3 : max (d / 8 - a / 8) (a / 8 - d / 8) + max (d % 8 - a % 8) (a % 8 - d % 8) = 1
          · rw [decide_eq_true e3, if_pos rfl, e3, if_pos rfl]
            exact ih2
          · rw [decide_eq_false e3, if_neg (by rw [zz_eq (by omega) (by omega)]; exact e3), if_neg (by decide)]
  unfold F_X11_wrong
  simp (disch := omega) only [↓zl_m1, zz_leT, zz_leF, zz_ltT, zz_ltF, zz_eqT, zz_eqF, zz_okN, zz_okF, nI_clamp, nI_add, pk_mul, pk_sub, zz_bS, zz_b2S, if_true, if_false, Bool.true_eq_false, Bool.false_eq_true, eq_self, ne_eq, not_true_eq_false, not_false_eq_true, false_or, or_false, true_or, or_true, and_true, true_and, and_false, false_and, mI_e, mI_e2, mI_le, mI_le2, mI_lt, mI_lt2, mI_ok, bI_0n, bI_1n, bI_orn, Nat.mul_zero, Nat.zero_add, Nat.add_zero, c_no2, c_no3, c_no4, c_no5, c_no6, r_no2, r_no3, r_no4, r_no5, r_no6, zk_inR, zk_in2, zk_in3, zk_wiN, Nat.reduceAdd, ngI_e, ngI_le, ngI_m, cs_cmpN, zl_0, zl_1, zl_2, zl_3, zl_4, zl_5, zl_6, zl_7, zl_8, zl_9, zl_10, zl_12, zl_13, zl_14, zl_15, zl_16, zl_20, zl_32, zl_40, zl_48, zl_57, zl_59, zl_60, zl_63, zl_64, zl_97, zl_99, zl_101, zl_119, zl_120, zl_122, zl_128, zl_136, zl_152, zl_168, zl_184, zl_200, zl_201, zl_202, zl_203, zl_250, zl_255, zl_320, zl_999, zl_1000, hL.o hp]
  exact key n 0 ax_FU (by omega) (by unfold ax_FU; omega) _ (hV.o hp)
end
theorem t_judge (v w u : Int32) : zT (fun m => F_X10_judge m v w u) (fun m => F_X11_judge m v w u) := zT_of (fun m G h => by
  obtain ⟨hV, hC, hL, -⟩ := id h
  have hp := hV.p
  rcases wk_cs h v w u with ⟨j, hj, c1, r1⟩ | ⟨p, s, n, l, hp2, hs, hn, hl, rfl, rfl, rfl, hR, c1, r1⟩
  · exact zT_no j (by omega) (-nI (j + 2)) h (by unfold F_X10_judge; simp (disch := omega) only [↓zl_m1, zz_leT, zz_leF, zz_ltT, zz_ltF, zz_eqT, zz_eqF, zz_okN, zz_okF, nI_clamp, nI_add, pk_mul, pk_sub, zz_bS, zz_b2S, if_true, if_false, Bool.true_eq_false, Bool.false_eq_true, eq_self, ne_eq, not_true_eq_false, not_false_eq_true, false_or, or_false, true_or, or_true, and_true, true_and, and_false, false_and, mI_e, mI_e2, mI_le, mI_le2, mI_lt, mI_lt2, mI_ok, bI_0n, bI_1n, bI_orn, Nat.mul_zero, Nat.zero_add, Nat.add_zero, c_no2, c_no3, c_no4, c_no5, c_no6, r_no2, r_no3, r_no4, r_no5, r_no6, zk_inR, zk_in2, zk_in3, zk_wiN, Nat.reduceAdd, ngI_e, ngI_le, ngI_m, cs_cmpN, zl_0, zl_1, zl_2, zl_3, zl_4, zl_5, zl_6, zl_7, zl_8, zl_9, zl_10, zl_12, zl_13, zl_14, zl_15, zl_16, zl_20, zl_32, zl_40, zl_48, zl_57, zl_59, zl_60, zl_63, zl_64, zl_97, zl_99, zl_101, zl_119, zl_120, zl_122, zl_128, zl_136, zl_152, zl_168, zl_184, zl_200, zl_201, zl_202, zl_203, zl_250, zl_255, zl_320, zl_999, zl_1000, c1, c_noJ (show j < 5 by omega)]) (fun m1 e1 hL1 => by unfold F_X11_judge; simp (disch := omega) only [↓zl_m1, zz_leT, zz_leF, zz_ltT, zz_ltF, zz_eqT, zz_eqF, zz_okN, zz_okF, nI_clamp, nI_add, pk_mul, pk_sub, zz_bS, zz_b2S, if_true, if_false, Bool.true_eq_false, Bool.false_eq_true, eq_self, ne_eq, not_true_eq_false, not_false_eq_true, false_or, or_false, true_or, or_true, and_true, true_and, and_false, false_and, mI_e, mI_e2, mI_le, mI_le2, mI_lt, mI_lt2, mI_ok, bI_0n, bI_1n, bI_orn, Nat.mul_zero, Nat.zero_add, Nat.add_zero, c_no2, c_no3, c_no4, c_no5, c_no6, r_no2, r_no3, r_no4, r_no5, r_no6, zk_inR, zk_in2, zk_in3, zk_wiN, Nat.reduceAdd, ngI_e, ngI_le, ngI_m, cs_cmpN, zl_0, zl_1, zl_2, zl_3, zl_4, zl_5, zl_6, zl_7, zl_8, zl_9, zl_10, zl_12, zl_13, zl_14, zl_15, zl_16, zl_20, zl_32, zl_40, zl_48, zl_57, zl_59, zl_60, zl_63, zl_64, zl_97, zl_99, zl_101, zl_119, zl_120, zl_122, zl_128, zl_136, zl_152, zl_168, zl_184, zl_200, zl_201, zl_202, zl_203, zl_250, zl_255, zl_320, zl_999, zl_1000, r1 m1 e1 hL1, r_noJ (show j < 5 by omega)])
  · exact zT_an (zwr (zcl m s) (gW G) n 0 (gO G p)) h (by unfold F_X10_judge; simp (disch := omega) only [↓zl_m1, zz_leT, zz_leF, zz_ltT, zz_ltF, zz_eqT, zz_eqF, zz_okN, zz_okF, nI_clamp, nI_add, pk_mul, pk_sub, zz_bS, zz_b2S, if_true, if_false, Bool.true_eq_false, Bool.false_eq_true, eq_self, ne_eq, not_true_eq_false, not_false_eq_true, false_or, or_false, true_or, or_true, and_true, true_and, and_false, false_and, mI_e, mI_e2, mI_le, mI_le2, mI_lt, mI_lt2, mI_ok, bI_0n, bI_1n, bI_orn, Nat.mul_zero, Nat.zero_add, Nat.add_zero, c_no2, c_no3, c_no4, c_no5, c_no6, r_no2, r_no3, r_no4, r_no5, r_no6, zk_inR, zk_in2, zk_in3, zk_wiN, Nat.reduceAdd, ngI_e, ngI_le, ngI_m, cs_cmpN, zl_0, zl_1, zl_2, zl_3, zl_4, zl_5, zl_6, zl_7, zl_8, zl_9, zl_10, zl_12, zl_13, zl_14, zl_15, zl_16, zl_20, zl_32, zl_40, zl_48, zl_57, zl_59, zl_60, zl_63, zl_64, zl_97, zl_99, zl_101, zl_119, zl_120, zl_122, zl_128, zl_136, zl_152, zl_168, zl_184, zl_200, zl_201, zl_202, zl_203, zl_250, zl_255, zl_320, zl_999, zl_1000, c_isPerson hC hV, c_isSeed hC hV, cs_isCell, c_isShelf, c_isPair hC hV, c_isKind, c1, c_wrongOf hC hV hR hl hn (show p < 8 by omega)]) (by unfold F_X11_judge; simp (disch := omega) only [↓zl_m1, zz_leT, zz_leF, zz_ltT, zz_ltF, zz_eqT, zz_eqF, zz_okN, zz_okF, nI_clamp, nI_add, pk_mul, pk_sub, zz_bS, zz_b2S, if_true, if_false, Bool.true_eq_false, Bool.false_eq_true, eq_self, ne_eq, not_true_eq_false, not_false_eq_true, false_or, or_false, true_or, or_true, and_true, true_and, and_false, false_and, mI_e, mI_e2, mI_le, mI_le2, mI_lt, mI_lt2, mI_ok, bI_0n, bI_1n, bI_orn, Nat.mul_zero, Nat.zero_add, Nat.add_zero, c_no2, c_no3, c_no4, c_no5, c_no6, r_no2, r_no3, r_no4, r_no5, r_no6, zk_inR, zk_in2, zk_in3, zk_wiN, Nat.reduceAdd, ngI_e, ngI_le, ngI_m, cs_cmpN, zl_0, zl_1, zl_2, zl_3, zl_4, zl_5, zl_6, zl_7, zl_8, zl_9, zl_10, zl_12, zl_13, zl_14, zl_15, zl_16, zl_20, zl_32, zl_40, zl_48, zl_57, zl_59, zl_60, zl_63, zl_64, zl_97, zl_99, zl_101, zl_119, zl_120, zl_122, zl_128, zl_136, zl_152, zl_168, zl_184, zl_200, zl_201, zl_202, zl_203, zl_250, zl_255, zl_320, zl_999, zl_1000, r_isOne hL hV, r_isSeed hL hV, cr_isCell, r_isShelf, r_areTwo hL hV, zk_wiN, r1, r_wrong hL hV hR hl hn (show p < 8 by omega) hs]))
def zsn (f : Nat → Option Nat) (Q : Nat → Bool) : Nat → Nat → Int32
  | 0, _ => mI
  | k + 1, i => match f i with
    | none => nI i
    | some d => if Q d = true then zsn f Q k (i + 1) else nI i
theorem t_seen (v w u : Int32) : zT (fun m => F_X10_seen m v w u) (fun m => F_X11_seen m v w u) := zT_of (fun m G h => by
  obtain ⟨hV, hC, hL, -⟩ := id h
  have hp := hV.p
  rcases wk_cs h v w u with ⟨j, hj, c1, r1⟩ | ⟨p, s, n, l, hp2, hs, hn, hl, rfl, rfl, rfl, hR, c1, r1⟩
  · exact zT_no j (by omega) (-nI (j + 2)) h (by unfold F_X10_seen F_X10_noTrueWalk; simp (disch := omega) only [↓zl_m1, zz_leT, zz_leF, zz_ltT, zz_ltF, zz_eqT, zz_eqF, zz_okN, zz_okF, nI_clamp, nI_add, pk_mul, pk_sub, zz_bS, zz_b2S, if_true, if_false, Bool.true_eq_false, Bool.false_eq_true, eq_self, ne_eq, not_true_eq_false, not_false_eq_true, false_or, or_false, true_or, or_true, and_true, true_and, and_false, false_and, mI_e, mI_e2, mI_le, mI_le2, mI_lt, mI_lt2, mI_ok, bI_0n, bI_1n, bI_orn, Nat.mul_zero, Nat.zero_add, Nat.add_zero, c_no2, c_no3, c_no4, c_no5, c_no6, r_no2, r_no3, r_no4, r_no5, r_no6, zk_inR, zk_in2, zk_in3, zk_wiN, Nat.reduceAdd, ngI_e, ngI_le, ngI_m, cs_cmpN, zl_0, zl_1, zl_2, zl_3, zl_4, zl_5, zl_6, zl_7, zl_8, zl_9, zl_10, zl_12, zl_13, zl_14, zl_15, zl_16, zl_20, zl_32, zl_40, zl_48, zl_57, zl_59, zl_60, zl_63, zl_64, zl_97, zl_99, zl_101, zl_119, zl_120, zl_122, zl_128, zl_136, zl_152, zl_168, zl_184, zl_200, zl_201, zl_202, zl_203, zl_250, zl_255, zl_320, zl_999, zl_1000, c1, c_noJ (show j < 5 by omega)]) (fun m1 e1 hL1 => by unfold F_X11_seen; simp (disch := omega) only [↓zl_m1, zz_leT, zz_leF, zz_ltT, zz_ltF, zz_eqT, zz_eqF, zz_okN, zz_okF, nI_clamp, nI_add, pk_mul, pk_sub, zz_bS, zz_b2S, if_true, if_false, Bool.true_eq_false, Bool.false_eq_true, eq_self, ne_eq, not_true_eq_false, not_false_eq_true, false_or, or_false, true_or, or_true, and_true, true_and, and_false, false_and, mI_e, mI_e2, mI_le, mI_le2, mI_lt, mI_lt2, mI_ok, bI_0n, bI_1n, bI_orn, Nat.mul_zero, Nat.zero_add, Nat.add_zero, c_no2, c_no3, c_no4, c_no5, c_no6, r_no2, r_no3, r_no4, r_no5, r_no6, zk_inR, zk_in2, zk_in3, zk_wiN, Nat.reduceAdd, ngI_e, ngI_le, ngI_m, cs_cmpN, zl_0, zl_1, zl_2, zl_3, zl_4, zl_5, zl_6, zl_7, zl_8, zl_9, zl_10, zl_12, zl_13, zl_14, zl_15, zl_16, zl_20, zl_32, zl_40, zl_48, zl_57, zl_59, zl_60, zl_63, zl_64, zl_97, zl_99, zl_101, zl_119, zl_120, zl_122, zl_128, zl_136, zl_152, zl_168, zl_184, zl_200, zl_201, zl_202, zl_203, zl_250, zl_255, zl_320, zl_999, zl_1000, r1 m1 e1 hL1, r_noJ (show j < 5 by omega)])
  · have hp8 : p < 8 := by omega
    have w1 := c_wrongOf hC hV hR hl hn hp8
    have w2 := r_wrong hL hV hR hl hn hp8 hs
    by_cases e : zwr (zcl m s) (gW G) n 0 (gO G p) = mI
    · rw [e] at w1 w2
      have ok := zwr_ok n 0 (gO G p) (by omega) e
      obtain ⟨t, ht, b1, b2, b3, b4, b5⟩ := hR
      have key : ∀ k i q, i + k = n → k < q → (F_X10_seen_L19 q m (nI s) (nI n) (lb (fun c => gQ G p c (fun _ => true))) (nI i) = some (zsn (zcl m s) (fun c => gQ G p c (fun _ => true)) k i, m) ∧ F_X11_seen_L25 q m (nI p) (nI s) (nI n) (nI i) = some (zsn (zcl m s) (fun c => gQ G p c (fun _ => true)) k i, m)) := by
        intro k
        induction k with
        | zero =>
          intro i q h1 h2
          obtain ⟨q, rfl⟩ : ∃ z, q = z + 1 := ⟨q - 1, by omega⟩
          obtain rfl : i = n := by omega
          rw [F_X10_seen_L19, F_X11_seen_L25, if_pos (Int32.le_refl _), if_pos (Int32.le_refl _)]
          exact ⟨rfl, rfl⟩
        | succ k ih =>
          intro i q h1 h2
          obtain ⟨q, rfl⟩ : ∃ z, q = z + 1 := ⟨q - 1, by omega⟩
          have hc := c_cellAt b3 hl (show i < l by omega)
          obtain ⟨x, x1, x2, x3⟩ := r_toldAt (m := m) hs (show i < 40 by omega) (b5 i (by omega)).symm
          obtain ⟨d, d1, d2⟩ := ok i (by omega) (by omega)
          have d1 : zcel (m.2 9 s i) = some d := d1
          have hd := zcel_lt d1
          have hx := x2 d d1
          subst hx
          rw [d1] at hc
          have hc : F_X7_cellAt m s (nI i) = some (nI d) := hc
          obtain ⟨ih1, ih2⟩ := ih (i + 1) q (by omega) (by omega)
          have st : zsn (zcl m s) (fun c => gQ G p c (fun _ => true)) (k + 1) i = if gQ G p d (fun _ => true) = true then zsn (zcl m s) (fun c => gQ G p c (fun _ => true)) k (i + 1) else nI i := by
            rw [zsn]
            show (match zcel (m.2 9 s i) with | none => nI i | some d => _) = _
            rw [d1]
          rw [F_X10_seen_L19, F_X11_seen_L25, st]
          simp (disch := omega) only [↓zl_m1, zz_leT, zz_leF, zz_ltT, zz_ltF, zz_eqT, zz_eqF, zz_okN, zz_okF, nI_clamp, nI_add, pk_mul, pk_sub, zz_bS, zz_b2S, if_true, if_false, Bool.true_eq_false, Bool.false_eq_true, eq_self, ne_eq, not_true_eq_false, not_false_eq_true, false_or, or_false, true_or, or_true, and_true, true_and, and_false, false_and, mI_e, mI_e2, mI_le, mI_le2, mI_lt, mI_lt2, mI_ok, bI_0n, bI_1n, bI_orn, Nat.mul_zero, Nat.zero_add, Nat.add_zero, c_no2, c_no3, c_no4, c_no5, c_no6, r_no2, r_no3, r_no4, r_no5, r_no6, zk_inR, zk_in2, zk_in3, zk_wiN, Nat.reduceAdd, ngI_e, ngI_le, ngI_m, cs_cmpN, zl_0, zl_1, zl_2, zl_3, zl_4, zl_5, zl_6, zl_7, zl_8, zl_9, zl_10, zl_12, zl_13, zl_14, zl_15, zl_16, zl_20, zl_32, zl_40, zl_48, zl_57, zl_59, zl_60, zl_63, zl_64, zl_97, zl_99, zl_101, zl_119, zl_120, zl_122, zl_128, zl_136, zl_152, zl_168, zl_184, zl_200, zl_201, zl_202, zl_203, zl_250, zl_255, zl_320, zl_999, zl_1000, hc, x1, cs_has hd, r_quiet1 hL hV hp8 hd]
          cases e2 : gQ G p d (fun _ => true) with
          | false => exact ⟨rfl, rfl⟩
          | true =>
            simp only [Bool.true_eq_false, if_false, if_true, eq_self]
            exact ⟨ih1, ih2⟩
      have k2 := key n 0 ax_FU (by omega) (by unfold ax_FU; omega)
      refine zT_an _ h ?_ (?_ : F_X11_seen m (nI p) (nI s) (nI n) = some (zsn (zcl m s) (fun c => gQ G p c (fun _ => true)) n 0, m))
      · unfold F_X10_seen F_X10_noTrueWalk
        simp (disch := omega) only [↓zl_m1, zz_leT, zz_leF, zz_ltT, zz_ltF, zz_eqT, zz_eqF, zz_okN, zz_okF, nI_clamp, nI_add, pk_mul, pk_sub, zz_bS, zz_b2S, if_true, if_false, Bool.true_eq_false, Bool.false_eq_true, eq_self, ne_eq, not_true_eq_false, not_false_eq_true, false_or, or_false, true_or, or_true, and_true, true_and, and_false, false_and, mI_e, mI_e2, mI_le, mI_le2, mI_lt, mI_lt2, mI_ok, bI_0n, bI_1n, bI_orn, Nat.mul_zero, Nat.zero_add, Nat.add_zero, c_no2, c_no3, c_no4, c_no5, c_no6, r_no2, r_no3, r_no4, r_no5, r_no6, zk_inR, zk_in2, zk_in3, zk_wiN, Nat.reduceAdd, ngI_e, ngI_le, ngI_m, cs_cmpN, zl_0, zl_1, zl_2, zl_3, zl_4, zl_5, zl_6, zl_7, zl_8, zl_9, zl_10, zl_12, zl_13, zl_14, zl_15, zl_16, zl_20, zl_32, zl_40, zl_48, zl_57, zl_59, zl_60, zl_63, zl_64, zl_97, zl_99, zl_101, zl_119, zl_120, zl_122, zl_128, zl_136, zl_152, zl_168, zl_184, zl_200, zl_201, zl_202, zl_203, zl_250, zl_255, zl_320, zl_999, zl_1000, c1, w1, c_quietFor hC hV hp8]
        exact k2.1
      · unfold F_X11_seen
        simp (disch := omega) only [↓zl_m1, zz_leT, zz_leF, zz_ltT, zz_ltF, zz_eqT, zz_eqF, zz_okN, zz_okF, nI_clamp, nI_add, pk_mul, pk_sub, zz_bS, zz_b2S, if_true, if_false, Bool.true_eq_false, Bool.false_eq_true, eq_self, ne_eq, not_true_eq_false, not_false_eq_true, false_or, or_false, true_or, or_true, and_true, true_and, and_false, false_and, mI_e, mI_e2, mI_le, mI_le2, mI_lt, mI_lt2, mI_ok, bI_0n, bI_1n, bI_orn, Nat.mul_zero, Nat.zero_add, Nat.add_zero, c_no2, c_no3, c_no4, c_no5, c_no6, r_no2, r_no3, r_no4, r_no5, r_no6, zk_inR, zk_in2, zk_in3, zk_wiN, Nat.reduceAdd, ngI_e, ngI_le, ngI_m, cs_cmpN, zl_0, zl_1, zl_2, zl_3, zl_4, zl_5, zl_6, zl_7, zl_8, zl_9, zl_10, zl_12, zl_13, zl_14, zl_15, zl_16, zl_20, zl_32, zl_40, zl_48, zl_57, zl_59, zl_60, zl_63, zl_64, zl_97, zl_99, zl_101, zl_119, zl_120, zl_122, zl_128, zl_136, zl_152, zl_168, zl_184, zl_200, zl_201, zl_202, zl_203, zl_250, zl_255, zl_320, zl_999, zl_1000, r1, w2]
        exact k2.2
    · exact zT_no 3 (by omega) (-nI 5) h (by unfold F_X10_seen F_X10_noTrueWalk; simp (disch := omega) only [↓zl_m1, zz_leT, zz_leF, zz_ltT, zz_ltF, zz_eqT, zz_eqF, zz_okN, zz_okF, nI_clamp, nI_add, pk_mul, pk_sub, zz_bS, zz_b2S, if_true, if_false, Bool.true_eq_false, Bool.false_eq_true, eq_self, ne_eq, not_true_eq_false, not_false_eq_true, false_or, or_false, true_or, or_true, and_true, true_and, and_false, false_and, mI_e, mI_e2, mI_le, mI_le2, mI_lt, mI_lt2, mI_ok, bI_0n, bI_1n, bI_orn, Nat.mul_zero, Nat.zero_add, Nat.add_zero, c_no2, c_no3, c_no4, c_no5, c_no6, r_no2, r_no3, r_no4, r_no5, r_no6, zk_inR, zk_in2, zk_in3, zk_wiN, Nat.reduceAdd, ngI_e, ngI_le, ngI_m, cs_cmpN, zl_0, zl_1, zl_2, zl_3, zl_4, zl_5, zl_6, zl_7, zl_8, zl_9, zl_10, zl_12, zl_13, zl_14, zl_15, zl_16, zl_20, zl_32, zl_40, zl_48, zl_57, zl_59, zl_60, zl_63, zl_64, zl_97, zl_99, zl_101, zl_119, zl_120, zl_122, zl_128, zl_136, zl_152, zl_168, zl_184, zl_200, zl_201, zl_202, zl_203, zl_250, zl_255, zl_320, zl_999, zl_1000, c1, w1, e]) (fun m1 e1 hL1 => by
        have hR1 : zRow m1 s l := by
          unfold zRow at *
          rw [(e1 8 (by decide)).1, (e1 31 (by decide)).1, (e1 32 (by decide)).1, (e1 9 (by decide)).2, (e1 33 (by decide)).2]
          exact hR
        have w3 := r_wrong hL1 hV hR1 hl hn hp8 hs
        have z : zcl m1 s = zcl m s := by unfold zcl; rw [(e1 9 (by decide)).2]
        rw [z] at w3
        have r2 : F_X11_noWalk m1 (nI p) (nI s) (nI n) = some (nI 0) := by
          obtain ⟨t, ht, b1, b2, b3, b4, b5⟩ := hR1
          unfold F_X11_noWalk F_X11_noRow_ F_X11_isRow F_X11_noRow; simp (disch := omega) only [↓zl_m1, zz_leT, zz_leF, zz_ltT, zz_ltF, zz_eqT, zz_eqF, zz_okN, zz_okF, nI_clamp, nI_add, pk_mul, pk_sub, zz_bS, zz_b2S, if_true, if_false, Bool.true_eq_false, Bool.false_eq_true, eq_self, ne_eq, not_true_eq_false, not_false_eq_true, false_or, or_false, true_or, or_true, and_true, true_and, and_false, false_and, mI_e, mI_e2, mI_le, mI_le2, mI_lt, mI_lt2, mI_ok, bI_0n, bI_1n, bI_orn, Nat.mul_zero, Nat.zero_add, Nat.add_zero, c_no2, c_no3, c_no4, c_no5, c_no6, r_no2, r_no3, r_no4, r_no5, r_no6, zk_inR, zk_in2, zk_in3, zk_wiN, Nat.reduceAdd, ngI_e, ngI_le, ngI_m, cs_cmpN, zl_0, zl_1, zl_2, zl_3, zl_4, zl_5, zl_6, zl_7, zl_8, zl_9, zl_10, zl_12, zl_13, zl_14, zl_15, zl_16, zl_20, zl_32, zl_40, zl_48, zl_57, zl_59, zl_60, zl_63, zl_64, zl_97, zl_99, zl_101, zl_119, zl_120, zl_122, zl_128, zl_136, zl_152, zl_168, zl_184, zl_200, zl_201, zl_202, zl_203, zl_250, zl_255, zl_320, zl_999, zl_1000, r_isShelf, r_isOne hL1 hV, b2, b4]
        unfold F_X11_seen
        simp (disch := omega) only [↓zl_m1, zz_leT, zz_leF, zz_ltT, zz_ltF, zz_eqT, zz_eqF, zz_okN, zz_okF, nI_clamp, nI_add, pk_mul, pk_sub, zz_bS, zz_b2S, if_true, if_false, Bool.true_eq_false, Bool.false_eq_true, eq_self, ne_eq, not_true_eq_false, not_false_eq_true, false_or, or_false, true_or, or_true, and_true, true_and, and_false, false_and, mI_e, mI_e2, mI_le, mI_le2, mI_lt, mI_lt2, mI_ok, bI_0n, bI_1n, bI_orn, Nat.mul_zero, Nat.zero_add, Nat.add_zero, c_no2, c_no3, c_no4, c_no5, c_no6, r_no2, r_no3, r_no4, r_no5, r_no6, zk_inR, zk_in2, zk_in3, zk_wiN, Nat.reduceAdd, ngI_e, ngI_le, ngI_m, cs_cmpN, zl_0, zl_1, zl_2, zl_3, zl_4, zl_5, zl_6, zl_7, zl_8, zl_9, zl_10, zl_12, zl_13, zl_14, zl_15, zl_16, zl_20, zl_32, zl_40, zl_48, zl_57, zl_59, zl_60, zl_63, zl_64, zl_97, zl_99, zl_101, zl_119, zl_120, zl_122, zl_128, zl_136, zl_152, zl_168, zl_184, zl_200, zl_201, zl_202, zl_203, zl_250, zl_255, zl_320, zl_999, zl_1000, r2, w3, e]))
theorem t_walk (v w u : Int32) : zT (fun m => F_X10_walk m v w u) (fun m => F_X11_walk m v w u) := zT_of (fun m G h => by
  obtain ⟨hV, hC, hL, -⟩ := id h
  have hp := hV.p
  rcases wk_cs h v w u with ⟨j, hj, c1, r1⟩ | ⟨p, s, n, l, hp2, hs, hn, hl, rfl, rfl, rfl, hR, c1, r1⟩
  · exact zT_no j (by omega) (-nI (j + 2)) h (by unfold F_X10_walk F_X10_noTrueWalk; simp (disch := omega) only [↓zl_m1, zz_leT, zz_leF, zz_ltT, zz_ltF, zz_eqT, zz_eqF, zz_okN, zz_okF, nI_clamp, nI_add, pk_mul, pk_sub, zz_bS, zz_b2S, if_true, if_false, Bool.true_eq_false, Bool.false_eq_true, eq_self, ne_eq, not_true_eq_false, not_false_eq_true, false_or, or_false, true_or, or_true, and_true, true_and, and_false, false_and, mI_e, mI_e2, mI_le, mI_le2, mI_lt, mI_lt2, mI_ok, bI_0n, bI_1n, bI_orn, Nat.mul_zero, Nat.zero_add, Nat.add_zero, c_no2, c_no3, c_no4, c_no5, c_no6, r_no2, r_no3, r_no4, r_no5, r_no6, zk_inR, zk_in2, zk_in3, zk_wiN, Nat.reduceAdd, ngI_e, ngI_le, ngI_m, cs_cmpN, zl_0, zl_1, zl_2, zl_3, zl_4, zl_5, zl_6, zl_7, zl_8, zl_9, zl_10, zl_12, zl_13, zl_14, zl_15, zl_16, zl_20, zl_32, zl_40, zl_48, zl_57, zl_59, zl_60, zl_63, zl_64, zl_97, zl_99, zl_101, zl_119, zl_120, zl_122, zl_128, zl_136, zl_152, zl_168, zl_184, zl_200, zl_201, zl_202, zl_203, zl_250, zl_255, zl_320, zl_999, zl_1000, c1, c_noJ (show j < 5 by omega)]) (fun m1 e1 hL1 => by unfold F_X11_walk; simp (disch := omega) only [↓zl_m1, zz_leT, zz_leF, zz_ltT, zz_ltF, zz_eqT, zz_eqF, zz_okN, zz_okF, nI_clamp, nI_add, pk_mul, pk_sub, zz_bS, zz_b2S, if_true, if_false, Bool.true_eq_false, Bool.false_eq_true, eq_self, ne_eq, not_true_eq_false, not_false_eq_true, false_or, or_false, true_or, or_true, and_true, true_and, and_false, false_and, mI_e, mI_e2, mI_le, mI_le2, mI_lt, mI_lt2, mI_ok, bI_0n, bI_1n, bI_orn, Nat.mul_zero, Nat.zero_add, Nat.add_zero, c_no2, c_no3, c_no4, c_no5, c_no6, r_no2, r_no3, r_no4, r_no5, r_no6, zk_inR, zk_in2, zk_in3, zk_wiN, Nat.reduceAdd, ngI_e, ngI_le, ngI_m, cs_cmpN, zl_0, zl_1, zl_2, zl_3, zl_4, zl_5, zl_6, zl_7, zl_8, zl_9, zl_10, zl_12, zl_13, zl_14, zl_15, zl_16, zl_20, zl_32, zl_40, zl_48, zl_57, zl_59, zl_60, zl_63, zl_64, zl_97, zl_99, zl_101, zl_119, zl_120, zl_122, zl_128, zl_136, zl_152, zl_168, zl_184, zl_200, zl_201, zl_202, zl_203, zl_250, zl_255, zl_320, zl_999, zl_1000, r1 m1 e1 hL1, r_noJ (show j < 5 by omega)])
  · have hp8 : p < 8 := by omega
    have w1 := c_wrongOf hC hV hR hl hn hp8
    have cg : ∀ m1 k, zE [k] m m1 → k ∈ [2, 20] → zL m1 G → F_X11_noWalk m1 (nI p) (nI s) (nI n) = some (nI 0) ∧ F_X11_wrong m1 (nI p) (nI s) (nI n) = some (zwr (zcl m s) (gW G) n 0 (gO G p)) := fun m1 k e1 hk hL1 => by
      have hk2 : k = 2 ∨ k = 20 := by simpa using hk
      have nk : ∀ a, a ≠ 2 → a ≠ 20 → a ∉ [k] := fun a h1 h2 => by
        intro z
        have : a = k := by simpa using z
        omega
      have hR1 : zRow m1 s l := by
        unfold zRow at *
        rw [(e1 8 (nk 8 (by decide) (by decide))).1, (e1 31 (nk 31 (by decide) (by decide))).1, (e1 32 (nk 32 (by decide) (by decide))).1, (e1 9 (nk 9 (by decide) (by decide))).2, (e1 33 (nk 33 (by decide) (by decide))).2]
        exact hR
      have w3 := r_wrong hL1 hV hR1 hl hn hp8 hs
      have z : zcl m1 s = zcl m s := by unfold zcl; rw [(e1 9 (nk 9 (by decide) (by decide))).2]
      rw [z] at w3
      refine ⟨?_, w3⟩
      obtain ⟨t, ht, b1, b2, b3, b4, b5⟩ := hR1
      unfold F_X11_noWalk F_X11_noRow_ F_X11_isRow F_X11_noRow; simp (disch := omega) only [↓zl_m1, zz_leT, zz_leF, zz_ltT, zz_ltF, zz_eqT, zz_eqF, zz_okN, zz_okF, nI_clamp, nI_add, pk_mul, pk_sub, zz_bS, zz_b2S, if_true, if_false, Bool.true_eq_false, Bool.false_eq_true, eq_self, ne_eq, not_true_eq_false, not_false_eq_true, false_or, or_false, true_or, or_true, and_true, true_and, and_false, false_and, mI_e, mI_e2, mI_le, mI_le2, mI_lt, mI_lt2, mI_ok, bI_0n, bI_1n, bI_orn, Nat.mul_zero, Nat.zero_add, Nat.add_zero, c_no2, c_no3, c_no4, c_no5, c_no6, r_no2, r_no3, r_no4, r_no5, r_no6, zk_inR, zk_in2, zk_in3, zk_wiN, Nat.reduceAdd, ngI_e, ngI_le, ngI_m, cs_cmpN, zl_0, zl_1, zl_2, zl_3, zl_4, zl_5, zl_6, zl_7, zl_8, zl_9, zl_10, zl_12, zl_13, zl_14, zl_15, zl_16, zl_20, zl_32, zl_40, zl_48, zl_57, zl_59, zl_60, zl_63, zl_64, zl_97, zl_99, zl_101, zl_119, zl_120, zl_122, zl_128, zl_136, zl_152, zl_168, zl_184, zl_200, zl_201, zl_202, zl_203, zl_250, zl_255, zl_320, zl_999, zl_1000, r_isShelf, r_isOne hL1 hV, b2, b4]
    by_cases e : zwr (zcl m s) (gW G) n 0 (gO G p) = mI
    · rw [e] at w1
      have ok := zwr_ok n 0 (gO G p) (by omega) e
      by_cases e0 : n = 0
      · subst e0
        have w2 := r_wrong hL hV hR hl hn hp8 hs
        rw [e] at w2
        refine zT_an (nI (gO G p)) h ?_ ?_
        · unfold F_X10_walk F_X10_noTrueWalk; simp (disch := omega) only [↓zl_m1, zz_leT, zz_leF, zz_ltT, zz_ltF, zz_eqT, zz_eqF, zz_okN, zz_okF, nI_clamp, nI_add, pk_mul, pk_sub, zz_bS, zz_b2S, if_true, if_false, Bool.true_eq_false, Bool.false_eq_true, eq_self, ne_eq, not_true_eq_false, not_false_eq_true, false_or, or_false, true_or, or_true, and_true, true_and, and_false, false_and, mI_e, mI_e2, mI_le, mI_le2, mI_lt, mI_lt2, mI_ok, bI_0n, bI_1n, bI_orn, Nat.mul_zero, Nat.zero_add, Nat.add_zero, c_no2, c_no3, c_no4, c_no5, c_no6, r_no2, r_no3, r_no4, r_no5, r_no6, zk_inR, zk_in2, zk_in3, zk_wiN, Nat.reduceAdd, ngI_e, ngI_le, ngI_m, cs_cmpN, zl_0, zl_1, zl_2, zl_3, zl_4, zl_5, zl_6, zl_7, zl_8, zl_9, zl_10, zl_12, zl_13, zl_14, zl_15, zl_16, zl_20, zl_32, zl_40, zl_48, zl_57, zl_59, zl_60, zl_63, zl_64, zl_97, zl_99, zl_101, zl_119, zl_120, zl_122, zl_128, zl_136, zl_152, zl_168, zl_184, zl_200, zl_201, zl_202, zl_203, zl_250, zl_255, zl_320, zl_999, zl_1000, c1, w1, hC.o hp8]
        · unfold F_X11_walk; simp (disch := omega) only [↓zl_m1, zz_leT, zz_leF, zz_ltT, zz_ltF, zz_eqT, zz_eqF, zz_okN, zz_okF, nI_clamp, nI_add, pk_mul, pk_sub, zz_bS, zz_b2S, if_true, if_false, Bool.true_eq_false, Bool.false_eq_true, eq_self, ne_eq, not_true_eq_false, not_false_eq_true, false_or, or_false, true_or, or_true, and_true, true_and, and_false, false_and, mI_e, mI_e2, mI_le, mI_le2, mI_lt, mI_lt2, mI_ok, bI_0n, bI_1n, bI_orn, Nat.mul_zero, Nat.zero_add, Nat.add_zero, c_no2, c_no3, c_no4, c_no5, c_no6, r_no2, r_no3, r_no4, r_no5, r_no6, zk_inR, zk_in2, zk_in3, zk_wiN, Nat.reduceAdd, ngI_e, ngI_le, ngI_m, cs_cmpN, zl_0, zl_1, zl_2, zl_3, zl_4, zl_5, zl_6, zl_7, zl_8, zl_9, zl_10, zl_12, zl_13, zl_14, zl_15, zl_16, zl_20, zl_32, zl_40, zl_48, zl_57, zl_59, zl_60, zl_63, zl_64, zl_97, zl_99, zl_101, zl_119, zl_120, zl_122, zl_128, zl_136, zl_152, zl_168, zl_184, zl_200, zl_201, zl_202, zl_203, zl_250, zl_255, zl_320, zl_999, zl_1000, r1, w2, hL.o hp8]
      · obtain ⟨d, d1, d2⟩ := ok (n - 1) (by omega) (by omega)
        have d1 : zcel (m.2 9 s (n - 1)) = some d := d1
        have hd := zcel_lt d1
        have o1 := go_o hC hp8 d
        have hL1 := zLg hL o1
        obtain ⟨q1, q2⟩ := cg (ax_ui m 2 0 p (nI d)) 2 ((zE.rf _ _).ui (by decide)) (by decide) hL1
        rw [e] at q2
        obtain ⟨t, ht, b1, b2, b3, b4, b5⟩ := id hR
        have hc := c_cellAt b3 hl (show n - 1 < l by omega)
        rw [d1] at hc
        have hc : F_X7_cellAt m s (nI (n - 1)) = some (nI d) := hc
        obtain ⟨x, x1, x2, x3⟩ := r_toldAt (m := ax_ui m 2 0 p (nI d)) hs (show n - 1 < 40 by omega) (b5 (n - 1) (by omega)).symm
        have hx := x2 d d1
        subst hx
        refine ⟨nI d, ax_ui m 2 0 p (nI d), _, ?_, ?_, _, h.go o1 (lo_o hL1 hp8 d) (hV.uo hd d2) (Nat.le_refl _)⟩
        · unfold F_X10_walk F_X10_noTrueWalk; simp (disch := omega) only [↓zl_m1, zz_leT, zz_leF, zz_ltT, zz_ltF, zz_eqT, zz_eqF, zz_okN, zz_okF, nI_clamp, nI_add, pk_mul, pk_sub, zz_bS, zz_b2S, if_true, if_false, Bool.true_eq_false, Bool.false_eq_true, eq_self, ne_eq, not_true_eq_false, not_false_eq_true, false_or, or_false, true_or, or_true, and_true, true_and, and_false, false_and, mI_e, mI_e2, mI_le, mI_le2, mI_lt, mI_lt2, mI_ok, bI_0n, bI_1n, bI_orn, Nat.mul_zero, Nat.zero_add, Nat.add_zero, c_no2, c_no3, c_no4, c_no5, c_no6, r_no2, r_no3, r_no4, r_no5, r_no6, zk_inR, zk_in2, zk_in3, zk_wiN, Nat.reduceAdd, ngI_e, ngI_le, ngI_m, cs_cmpN, zl_0, zl_1, zl_2, zl_3, zl_4, zl_5, zl_6, zl_7, zl_8, zl_9, zl_10, zl_12, zl_13, zl_14, zl_15, zl_16, zl_20, zl_32, zl_40, zl_48, zl_57, zl_59, zl_60, zl_63, zl_64, zl_97, zl_99, zl_101, zl_119, zl_120, zl_122, zl_128, zl_136, zl_152, zl_168, zl_184, zl_200, zl_201, zl_202, zl_203, zl_250, zl_255, zl_320, zl_999, zl_1000, zu_s, zu_k, zu_j, zu_i, zu_l, zv_s, zv_k, zv_j, zv_i, zv_l, c1, w1, hc]
        · unfold F_X11_walk; simp (disch := omega) only [↓zl_m1, zz_leT, zz_leF, zz_ltT, zz_ltF, zz_eqT, zz_eqF, zz_okN, zz_okF, nI_clamp, nI_add, pk_mul, pk_sub, zz_bS, zz_b2S, if_true, if_false, Bool.true_eq_false, Bool.false_eq_true, eq_self, ne_eq, not_true_eq_false, not_false_eq_true, false_or, or_false, true_or, or_true, and_true, true_and, and_false, false_and, mI_e, mI_e2, mI_le, mI_le2, mI_lt, mI_lt2, mI_ok, bI_0n, bI_1n, bI_orn, Nat.mul_zero, Nat.zero_add, Nat.add_zero, c_no2, c_no3, c_no4, c_no5, c_no6, r_no2, r_no3, r_no4, r_no5, r_no6, zk_inR, zk_in2, zk_in3, zk_wiN, Nat.reduceAdd, ngI_e, ngI_le, ngI_m, cs_cmpN, zl_0, zl_1, zl_2, zl_3, zl_4, zl_5, zl_6, zl_7, zl_8, zl_9, zl_10, zl_12, zl_13, zl_14, zl_15, zl_16, zl_20, zl_32, zl_40, zl_48, zl_57, zl_59, zl_60, zl_63, zl_64, zl_97, zl_99, zl_101, zl_119, zl_120, zl_122, zl_128, zl_136, zl_152, zl_168, zl_184, zl_200, zl_201, zl_202, zl_203, zl_250, zl_255, zl_320, zl_999, zl_1000, zu_s, zu_k, zu_j, zu_i, zu_l, zv_s, zv_k, zv_j, zv_i, zv_l, q1, q2, x1]
    · exact zT_no 3 (by omega) (-nI 5) h (by unfold F_X10_walk F_X10_noTrueWalk; simp (disch := omega) only [↓zl_m1, zz_leT, zz_leF, zz_ltT, zz_ltF, zz_eqT, zz_eqF, zz_okN, zz_okF, nI_clamp, nI_add, pk_mul, pk_sub, zz_bS, zz_b2S, if_true, if_false, Bool.true_eq_false, Bool.false_eq_true, eq_self, ne_eq, not_true_eq_false, not_false_eq_true, false_or, or_false, true_or, or_true, and_true, true_and, and_false, false_and, mI_e, mI_e2, mI_le, mI_le2, mI_lt, mI_lt2, mI_ok, bI_0n, bI_1n, bI_orn, Nat.mul_zero, Nat.zero_add, Nat.add_zero, c_no2, c_no3, c_no4, c_no5, c_no6, r_no2, r_no3, r_no4, r_no5, r_no6, zk_inR, zk_in2, zk_in3, zk_wiN, Nat.reduceAdd, ngI_e, ngI_le, ngI_m, cs_cmpN, zl_0, zl_1, zl_2, zl_3, zl_4, zl_5, zl_6, zl_7, zl_8, zl_9, zl_10, zl_12, zl_13, zl_14, zl_15, zl_16, zl_20, zl_32, zl_40, zl_48, zl_57, zl_59, zl_60, zl_63, zl_64, zl_97, zl_99, zl_101, zl_119, zl_120, zl_122, zl_128, zl_136, zl_152, zl_168, zl_184, zl_200, zl_201, zl_202, zl_203, zl_250, zl_255, zl_320, zl_999, zl_1000, c1, w1, e]) (fun m1 e1 hL1 => by
        obtain ⟨q1, q2⟩ := cg m1 20 e1 (by decide) hL1
        unfold F_X11_walk
        simp (disch := omega) only [↓zl_m1, zz_leT, zz_leF, zz_ltT, zz_ltF, zz_eqT, zz_eqF, zz_okN, zz_okF, nI_clamp, nI_add, pk_mul, pk_sub, zz_bS, zz_b2S, if_true, if_false, Bool.true_eq_false, Bool.false_eq_true, eq_self, ne_eq, not_true_eq_false, not_false_eq_true, false_or, or_false, true_or, or_true, and_true, true_and, and_false, false_and, mI_e, mI_e2, mI_le, mI_le2, mI_lt, mI_lt2, mI_ok, bI_0n, bI_1n, bI_orn, Nat.mul_zero, Nat.zero_add, Nat.add_zero, c_no2, c_no3, c_no4, c_no5, c_no6, r_no2, r_no3, r_no4, r_no5, r_no6, zk_inR, zk_in2, zk_in3, zk_wiN, Nat.reduceAdd, ngI_e, ngI_le, ngI_m, cs_cmpN, zl_0, zl_1, zl_2, zl_3, zl_4, zl_5, zl_6, zl_7, zl_8, zl_9, zl_10, zl_12, zl_13, zl_14, zl_15, zl_16, zl_20, zl_32, zl_40, zl_48, zl_57, zl_59, zl_60, zl_63, zl_64, zl_97, zl_99, zl_101, zl_119, zl_120, zl_122, zl_128, zl_136, zl_152, zl_168, zl_184, zl_200, zl_201, zl_202, zl_203, zl_250, zl_255, zl_320, zl_999, zl_1000, q1, q2, e]))
