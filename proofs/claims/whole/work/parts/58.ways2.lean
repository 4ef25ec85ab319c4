/-! CALLS, twelfth: way, bar, reach, together -/
theorem gA1_m {G : zG} (hV : zV G) {p c : Nat} : gQ G p c (gA1 G mI) = gQq G p c := gQ_congr (fun i hi => by
  have := hV.r (show i < 16 by have := hV.s; omega)
  exact decide_eq_true (by rw [ne_eq, mI_e (by omega)]; exact not_false))
theorem c_quietQ {m : ax_M} {g : Nat} {G : zG} (h : zC m g G) (hV : zV G) {p : Nat} (hp : p < 8) : F_X3_quietFor m g (nI p) = some (lb (gQq G p)) := c_quietFor h hV hp
section
variable {m : ax_M} {G : zG}
theorem r_walksM (hL : zL m G) (hV : zV G) {p : Nat} (hp : p < 8) : ∃ m1, F_X11_walks m (nI p) mI = some m1 ∧ zE [37] m m1 ∧ ∀ c, c < 64 → m1.1 37 0 c = zlo2 (zway (gQq G p) (gO G p) c) := by
  obtain ⟨m1, a1, a2, a3⟩ := r_walks hL hV hp mI
  refine ⟨m1, a1, a2, fun c hc => ?_⟩
  rw [a3 c hc, show (fun c => gQ G p c (gA1 G mI)) = gQq G p from funext (fun c => gA1_m hV)]
  rfl
theorem r_wayOf (hL : zL m G) (hV : zV G) {p c : Nat} (hp : p < 8) (hc : c < 64) : ∃ m1, F_X11_wayOf m (nI p) (nI c) = some (zlo2 (zway (gQq G p) (gO G p) c), m1) ∧ zE [37] m m1 := by
  obtain ⟨m1, a1, a2, a3⟩ := r_walksM hL hV hp
  refine ⟨m1, ?_, a2⟩
  unfold F_X11_wayOf
  simp (disch := omega) only [↓zl_m1, zz_leT, zz_leF, zz_ltT, zz_ltF, zz_eqT, zz_eqF, zz_okN, zz_okF, nI_clamp, nI_add, pk_mul, pk_sub, zz_bS, zz_b2S, if_true, if_false, Bool.true_eq_false, Bool.false_eq_true, eq_self, ne_eq, not_true_eq_false, not_false_eq_true, false_or, or_false, true_or, or_true, and_true, true_and, and_false, false_and, mI_e, mI_e2, mI_le, mI_le2, mI_lt, mI_lt2, mI_ok, bI_0n, bI_1n, bI_orn, Nat.mul_zero, Nat.zero_add, Nat.add_zero, c_no2, c_no3, c_no4, c_no5, c_no6, r_no2, r_no3, r_no4, r_no5, r_no6, zk_inR, zk_in2, zk_in3, zk_wiN, Nat.reduceAdd, ngI_e, ngI_le, ngI_m, cs_cmpN, zl_0, zl_1, zl_2, zl_3, zl_4, zl_5, zl_6, zl_7, zl_8, zl_9, zl_10, zl_12, zl_13, zl_14, zl_15, zl_16, zl_20, zl_32, zl_40, zl_48, zl_57, zl_59, zl_60, zl_63, zl_64, zl_97, zl_99, zl_101, zl_119, zl_120, zl_122, zl_128, zl_136, zl_152, zl_168, zl_184, zl_200, zl_201, zl_202, zl_203, zl_250, zl_255, zl_320, zl_999, zl_1000, a1, a3 c hc]
theorem c_hasWay (hC : zC m 0 G) (hV : zV G) {p c : Nat} (hp : p < 8) (hc : c < 64) (op : Nat → Bool) : ∃ m1, F_X10_hasWay m (nI p) (nI c) (lb op) = some (bI (zway op (gO G p) c).isSome, m1) ∧ zE [14] m m1 := by
  obtain ⟨m1, a1, a2, -⟩ := c_find (m := m) op (hV.o hp) hc
  refine ⟨m1, ?_, a2⟩
  unfold F_X10_hasWay
  cases e : zway op (gO G p) c with
  | none =>
    rw [e] at a1
    have a1 : F_X9_find m (nI (gO G p)) (nI c) (lb op) = some (mI, m1) := a1
    simp (disch := omega) only [↓zl_m1, zz_leT, zz_leF, zz_ltT, zz_ltF, zz_eqT, zz_eqF, zz_okN, zz_okF, nI_clamp, nI_add, pk_mul, pk_sub, zz_bS, zz_b2S, if_true, if_false, Bool.true_eq_false, Bool.false_eq_true, eq_self, ne_eq, not_true_eq_false, not_false_eq_true, false_or, or_false, true_or, or_true, and_true, true_and, and_false, false_and, mI_e, mI_e2, mI_le, mI_le2, mI_lt, mI_lt2, mI_ok, bI_0n, bI_1n, bI_orn, Nat.mul_zero, Nat.zero_add, Nat.add_zero, c_no2, c_no3, c_no4, c_no5, c_no6, r_no2, r_no3, r_no4, r_no5, r_no6, zk_inR, zk_in2, zk_in3, zk_wiN, Nat.reduceAdd, ngI_e, ngI_le, ngI_m, cs_cmpN, zl_0, zl_1, zl_2, zl_3, zl_4, zl_5, zl_6, zl_7, zl_8, zl_9, zl_10, zl_12, zl_13, zl_14, zl_15, zl_16, zl_20, zl_32, zl_40, zl_48, zl_57, zl_59, zl_60, zl_63, zl_64, zl_97, zl_99, zl_101, zl_119, zl_120, zl_122, zl_128, zl_136, zl_152, zl_168, zl_184, zl_200, zl_201, zl_202, zl_203, zl_250, zl_255, zl_320, zl_999, zl_1000, hC.o hp, a1]
    rfl
  | some k =>
    rw [e] at a1
    have := zway_le e
    have a1 : F_X9_find m (nI (gO G p)) (nI c) (lb op) = some (nI k, m1) := a1
    simp (disch := omega) only [↓zl_m1, zz_leT, zz_leF, zz_ltT, zz_ltF, zz_eqT, zz_eqF, zz_okN, zz_okF, nI_clamp, nI_add, pk_mul, pk_sub, zz_bS, zz_b2S, if_true, if_false, Bool.true_eq_false, Bool.false_eq_true, eq_self, ne_eq, not_true_eq_false, not_false_eq_true, false_or, or_false, true_or, or_true, and_true, true_and, and_false, false_and, mI_e, mI_e2, mI_le, mI_le2, mI_lt, mI_lt2, mI_ok, bI_0n, bI_1n, bI_orn, Nat.mul_zero, Nat.zero_add, Nat.add_zero, c_no2, c_no3, c_no4, c_no5, c_no6, r_no2, r_no3, r_no4, r_no5, r_no6, zk_inR, zk_in2, zk_in3, zk_wiN, Nat.reduceAdd, ngI_e, ngI_le, ngI_m, cs_cmpN, zl_0, zl_1, zl_2, zl_3, zl_4, zl_5, zl_6, zl_7, zl_8, zl_9, zl_10, zl_12, zl_13, zl_14, zl_15, zl_16, zl_20, zl_32, zl_40, zl_48, zl_57, zl_59, zl_60, zl_63, zl_64, zl_97, zl_99, zl_101, zl_119, zl_120, zl_122, zl_128, zl_136, zl_152, zl_168, zl_184, zl_200, zl_201, zl_202, zl_203, zl_250, zl_255, zl_320, zl_999, zl_1000, hC.o hp, a1]
    rfl
theorem zlo2_m {o : Option Nat} (h : ∀ k, o = some k → k < 2 ^ 31) : (zlo2 o = mI) = (o.isSome = false) := by
  cases o with
  | none => exact propext ⟨fun _ => rfl, fun _ => rfl⟩
  | some k =>
    show (nI k = mI) = (true = false)
    rw [mI_e (h k rfl)]
    simp
end
theorem zk_i (v : Int32) : (mI ≤ v) = False ∨ v = mI ∨ ∃ k, k < 2 ^ 31 ∧ v = nI k := by
  by_cases h0 : v < 0
  · rw [zk_lt0] at h0
    by_cases h1 : mI ≤ v
    · right; left
      rw [Int32.le_iff_toInt_le, mI_toInt] at h1
      exact Int32.toInt_inj.mp (by rw [mI_toInt]; omega)
    · exact .inl (eq_false h1)
  · right; right
    exact nI_of h0
theorem t_way (v w u : Int32) : zT (fun m => F_X10_way m v w u) (fun m => F_X11_way m v w u) := zT_of (fun m G h => by
  obtain ⟨hV, hC, hL, -⟩ := id h
  have hp := hV.p
  rcases zk_cs v (n := gP G) (by omega) with e | ⟨p, hp2, rfl⟩
  · exact zT_no 0 (by omega) (-nI 2) h (by unfold F_X10_way; simp (disch := omega) only [↓zl_m1, zz_leT, zz_leF, zz_ltT, zz_ltF, zz_eqT, zz_eqF, zz_okN, zz_okF, nI_clamp, nI_add, pk_mul, pk_sub, zz_bS, zz_b2S, if_true, if_false, Bool.true_eq_false, Bool.false_eq_true, eq_self, ne_eq, not_true_eq_false, not_false_eq_true, false_or, or_false, true_or, or_true, and_true, true_and, and_false, false_and, mI_e, mI_e2, mI_le, mI_le2, mI_lt, mI_lt2, mI_ok, bI_0n, bI_1n, bI_orn, Nat.mul_zero, Nat.zero_add, Nat.add_zero, c_no2, c_no3, c_no4, c_no5, c_no6, r_no2, r_no3, r_no4, r_no5, r_no6, zk_inR, zk_in2, zk_in3, zk_wiN, Nat.reduceAdd, ngI_e, ngI_le, ngI_m, cs_cmpN, zl_0, zl_1, zl_2, zl_3, zl_4, zl_5, zl_6, zl_7, zl_8, zl_9, zl_10, zl_12, zl_13, zl_14, zl_15, zl_16, zl_20, zl_32, zl_40, zl_48, zl_57, zl_59, zl_60, zl_63, zl_64, zl_97, zl_99, zl_101, zl_119, zl_120, zl_122, zl_128, zl_136, zl_152, zl_168, zl_184, zl_200, zl_201, zl_202, zl_203, zl_250, zl_255, zl_320, zl_999, zl_1000, c_isPerson hC hV, c_isSeed hC hV, cs_isCell, c_isShelf, c_isPair hC hV, c_isKind, e]) (fun m1 e1 hL1 => by unfold F_X11_way; simp (disch := omega) only [↓zl_m1, zz_leT, zz_leF, zz_ltT, zz_ltF, zz_eqT, zz_eqF, zz_okN, zz_okF, nI_clamp, nI_add, pk_mul, pk_sub, zz_bS, zz_b2S, if_true, if_false, Bool.true_eq_false, Bool.false_eq_true, eq_self, ne_eq, not_true_eq_false, not_false_eq_true, false_or, or_false, true_or, or_true, and_true, true_and, and_false, false_and, mI_e, mI_e2, mI_le, mI_le2, mI_lt, mI_lt2, mI_ok, bI_0n, bI_1n, bI_orn, Nat.mul_zero, Nat.zero_add, Nat.add_zero, c_no2, c_no3, c_no4, c_no5, c_no6, r_no2, r_no3, r_no4, r_no5, r_no6, zk_inR, zk_in2, zk_in3, zk_wiN, Nat.reduceAdd, ngI_e, ngI_le, ngI_m, cs_cmpN, zl_0, zl_1, zl_2, zl_3, zl_4, zl_5, zl_6, zl_7, zl_8, zl_9, zl_10, zl_12, zl_13, zl_14, zl_15, zl_16, zl_20, zl_32, zl_40, zl_48, zl_57, zl_59, zl_60, zl_63, zl_64, zl_97, zl_99, zl_101, zl_119, zl_120, zl_122, zl_128, zl_136, zl_152, zl_168, zl_184, zl_200, zl_201, zl_202, zl_203, zl_250, zl_255, zl_320, zl_999, zl_1000, r_isOne hL1 hV, r_isSeed hL1 hV, cr_isCell, r_isShelf, r_areTwo hL1 hV, zk_wiN, e])
  rcases zk_cs w (n := 64) (by omega) with e | ⟨c, hc, rfl⟩
  · exact zT_no 0 (by omega) (-nI 2) h (by unfold F_X10_way; simp (disch := omega) only [↓zl_m1, zz_leT, zz_leF, zz_ltT, zz_ltF, zz_eqT, zz_eqF, zz_okN, zz_okF, nI_clamp, nI_add, pk_mul, pk_sub, zz_bS, zz_b2S, if_true, if_false, Bool.true_eq_false, Bool.false_eq_true, eq_self, ne_eq, not_true_eq_false, not_false_eq_true, false_or, or_false, true_or, or_true, and_true, true_and, and_false, false_and, mI_e, mI_e2, mI_le, mI_le2, mI_lt, mI_lt2, mI_ok, bI_0n, bI_1n, bI_orn, Nat.mul_zero, Nat.zero_add, Nat.add_zero, c_no2, c_no3, c_no4, c_no5, c_no6, r_no2, r_no3, r_no4, r_no5, r_no6, zk_inR, zk_in2, zk_in3, zk_wiN, Nat.reduceAdd, ngI_e, ngI_le, ngI_m, cs_cmpN, zl_0, zl_1, zl_2, zl_3, zl_4, zl_5, zl_6, zl_7, zl_8, zl_9, zl_10, zl_12, zl_13, zl_14, zl_15, zl_16, zl_20, zl_32, zl_40, zl_48, zl_57, zl_59, zl_60, zl_63, zl_64, zl_97, zl_99, zl_101, zl_119, zl_120, zl_122, zl_128, zl_136, zl_152, zl_168, zl_184, zl_200, zl_201, zl_202, zl_203, zl_250, zl_255, zl_320, zl_999, zl_1000, c_isPerson hC hV, c_isSeed hC hV, cs_isCell, c_isShelf, c_isPair hC hV, c_isKind, e]) (fun m1 e1 hL1 => by unfold F_X11_way; simp (disch := omega) only [↓zl_m1, zz_leT, zz_leF, zz_ltT, zz_ltF, zz_eqT, zz_eqF, zz_okN, zz_okF, nI_clamp, nI_add, pk_mul, pk_sub, zz_bS, zz_b2S, if_true, if_false, Bool.true_eq_false, Bool.false_eq_true, eq_self, ne_eq, not_true_eq_false, not_false_eq_true, false_or, or_false, true_or, or_true, and_true, true_and, and_false, false_and, mI_e, mI_e2, mI_le, mI_le2, mI_lt, mI_lt2, mI_ok, bI_0n, bI_1n, bI_orn, Nat.mul_zero, Nat.zero_add, Nat.add_zero, c_no2, c_no3, c_no4, c_no5, c_no6, r_no2, r_no3, r_no4, r_no5, r_no6, zk_inR, zk_in2, zk_in3, zk_wiN, Nat.reduceAdd, ngI_e, ngI_le, ngI_m, cs_cmpN, zl_0, zl_1, zl_2, zl_3, zl_4, zl_5, zl_6, zl_7, zl_8, zl_9, zl_10, zl_12, zl_13, zl_14, zl_15, zl_16, zl_20, zl_32, zl_40, zl_48, zl_57, zl_59, zl_60, zl_63, zl_64, zl_97, zl_99, zl_101, zl_119, zl_120, zl_122, zl_128, zl_136, zl_152, zl_168, zl_184, zl_200, zl_201, zl_202, zl_203, zl_250, zl_255, zl_320, zl_999, zl_1000, r_isOne hL1 hV, r_isSeed hL1 hV, cr_isCell, r_isShelf, r_areTwo hL1 hV, zk_wiN, e])
  rcases zk_i u with e | hu
  · exact zT_no 0 (by omega) (-nI 2) h (by unfold F_X10_way; simp (disch := omega) only [↓zl_m1, zz_leT, zz_leF, zz_ltT, zz_ltF, zz_eqT, zz_eqF, zz_okN, zz_okF, nI_clamp, nI_add, pk_mul, pk_sub, zz_bS, zz_b2S, if_true, if_false, Bool.true_eq_false, Bool.false_eq_true, eq_self, ne_eq, not_true_eq_false, not_false_eq_true, false_or, or_false, true_or, or_true, and_true, true_and, and_false, false_and, mI_e, mI_e2, mI_le, mI_le2, mI_lt, mI_lt2, mI_ok, bI_0n, bI_1n, bI_orn, Nat.mul_zero, Nat.zero_add, Nat.add_zero, c_no2, c_no3, c_no4, c_no5, c_no6, r_no2, r_no3, r_no4, r_no5, r_no6, zk_inR, zk_in2, zk_in3, zk_wiN, Nat.reduceAdd, ngI_e, ngI_le, ngI_m, cs_cmpN, zl_0, zl_1, zl_2, zl_3, zl_4, zl_5, zl_6, zl_7, zl_8, zl_9, zl_10, zl_12, zl_13, zl_14, zl_15, zl_16, zl_20, zl_32, zl_40, zl_48, zl_57, zl_59, zl_60, zl_63, zl_64, zl_97, zl_99, zl_101, zl_119, zl_120, zl_122, zl_128, zl_136, zl_152, zl_168, zl_184, zl_200, zl_201, zl_202, zl_203, zl_250, zl_255, zl_320, zl_999, zl_1000, c_isPerson hC hV, c_isSeed hC hV, cs_isCell, c_isShelf, c_isPair hC hV, c_isKind, e]) (fun m1 e1 hL1 => by unfold F_X11_way; simp (disch := omega) only [↓zl_m1, zz_leT, zz_leF, zz_ltT, zz_ltF, zz_eqT, zz_eqF, zz_okN, zz_okF, nI_clamp, nI_add, pk_mul, pk_sub, zz_bS, zz_b2S, if_true, if_false, Bool.true_eq_false, Bool.false_eq_true, eq_self, ne_eq, not_true_eq_false, not_false_eq_true, false_or, or_false, true_or, or_true, and_true, true_and, and_false, false_and, mI_e, mI_e2, mI_le, mI_le2, mI_lt, mI_lt2, mI_ok, bI_0n, bI_1n, bI_orn, Nat.mul_zero, Nat.zero_add, Nat.add_zero, c_no2, c_no3, c_no4, c_no5, c_no6, r_no2, r_no3, r_no4, r_no5, r_no6, zk_inR, zk_in2, zk_in3, zk_wiN, Nat.reduceAdd, ngI_e, ngI_le, ngI_m, cs_cmpN, zl_0, zl_1, zl_2, zl_3, zl_4, zl_5, zl_6, zl_7, zl_8, zl_9, zl_10, zl_12, zl_13, zl_14, zl_15, zl_16, zl_20, zl_32, zl_40, zl_48, zl_57, zl_59, zl_60, zl_63, zl_64, zl_97, zl_99, zl_101, zl_119, zl_120, zl_122, zl_128, zl_136, zl_152, zl_168, zl_184, zl_200, zl_201, zl_202, zl_203, zl_250, zl_255, zl_320, zl_999, zl_1000, r_isOne hL1 hV, r_isSeed hL1 hV, cr_isCell, r_isShelf, r_areTwo hL1 hV, zk_wiN, e])
  have hp8 : p < 8 := by omega
  have ho := hV.o hp8
  have hu1 : (mI ≤ u) = True := by
    rcases hu with rfl | ⟨k, hk, rfl⟩
    · exact eq_true (Int32.le_refl _)
    · exact mI_le hk
  obtain ⟨m1, a1, a2, a3⟩ := c_find (m := m) (gQq G p) ho hc
  have hL1 : zL m1 G := hL.E a2 (by decide)
  obtain ⟨m2, b1, b2⟩ := r_wayOf hL1 hV hp8 hc
  have e2 : zE [14, 37] m m2 := (a2.mo (by decide)).tr (b2.mo (by decide))
  have qf := c_quietQ hC hV hp8
  cases ez : zway (gQq G p) (gO G p) c with
  | none =>
    rw [ez] at a1 b1
    have a1 : F_X9_find m (nI (gO G p)) (nI c) (lb (gQq G p)) = some (mI, m1) := a1
    have b1 : F_X11_wayOf m1 (nI p) (nI c) = some (mI, m2) := b1
    refine ⟨mI, m1, m2, ?_, ?_, G, h.E e2 (by decide)⟩
    · unfold F_X10_way; simp (disch := omega) only [↓zl_m1, zz_leT, zz_leF, zz_ltT, zz_ltF, zz_eqT, zz_eqF, zz_okN, zz_okF, nI_clamp, nI_add, pk_mul, pk_sub, zz_bS, zz_b2S, if_true, if_false, Bool.true_eq_false, Bool.false_eq_true, eq_self, ne_eq, not_true_eq_false, not_false_eq_true, false_or, or_false, true_or, or_true, and_true, true_and, and_false, false_and, mI_e, mI_e2, mI_le, mI_le2, mI_lt, mI_lt2, mI_ok, bI_0n, bI_1n, bI_orn, Nat.mul_zero, Nat.zero_add, Nat.add_zero, c_no2, c_no3, c_no4, c_no5, c_no6, r_no2, r_no3, r_no4, r_no5, r_no6, zk_inR, zk_in2, zk_in3, zk_wiN, Nat.reduceAdd, ngI_e, ngI_le, ngI_m, cs_cmpN, zl_0, zl_1, zl_2, zl_3, zl_4, zl_5, zl_6, zl_7, zl_8, zl_9, zl_10, zl_12, zl_13, zl_14, zl_15, zl_16, zl_20, zl_32, zl_40, zl_48, zl_57, zl_59, zl_60, zl_63, zl_64, zl_97, zl_99, zl_101, zl_119, zl_120, zl_122, zl_128, zl_136, zl_152, zl_168, zl_184, zl_200, zl_201, zl_202, zl_203, zl_250, zl_255, zl_320, zl_999, zl_1000, c_isPerson hC hV, cs_isCell, hu1, hC.o hp8, qf, a1]
    · unfold F_X11_way; simp (disch := omega) only [↓zl_m1, zz_leT, zz_leF, zz_ltT, zz_ltF, zz_eqT, zz_eqF, zz_okN, zz_okF, nI_clamp, nI_add, pk_mul, pk_sub, zz_bS, zz_b2S, if_true, if_false, Bool.true_eq_false, Bool.false_eq_true, eq_self, ne_eq, not_true_eq_false, not_false_eq_true, false_or, or_false, true_or, or_true, and_true, true_and, and_false, false_and, mI_e, mI_e2, mI_le, mI_le2, mI_lt, mI_lt2, mI_ok, bI_0n, bI_1n, bI_orn, Nat.mul_zero, Nat.zero_add, Nat.add_zero, c_no2, c_no3, c_no4, c_no5, c_no6, r_no2, r_no3, r_no4, r_no5, r_no6, zk_inR, zk_in2, zk_in3, zk_wiN, Nat.reduceAdd, ngI_e, ngI_le, ngI_m, cs_cmpN, zl_0, zl_1, zl_2, zl_3, zl_4, zl_5, zl_6, zl_7, zl_8, zl_9, zl_10, zl_12, zl_13, zl_14, zl_15, zl_16, zl_20, zl_32, zl_40, zl_48, zl_57, zl_59, zl_60, zl_63, zl_64, zl_97, zl_99, zl_101, zl_119, zl_120, zl_122, zl_128, zl_136, zl_152, zl_168, zl_184, zl_200, zl_201, zl_202, zl_203, zl_250, zl_255, zl_320, zl_999, zl_1000, r_isOne hL1 hV, cr_isCell, hu1, b1]
  | some M =>
    have hM := zway_le ez
    rw [ez] at a1 b1
    have a1 : F_X9_find m (nI (gO G p)) (nI c) (lb (gQq G p)) = some (nI M, m1) := a1
    have b1 : F_X11_wayOf m1 (nI p) (nI c) = some (nI M, m2) := b1
    rcases hu with rfl | ⟨k, hk, rfl⟩
    · refine ⟨nI M, m1, m2, ?_, ?_, G, h.E e2 (by decide)⟩
      · unfold F_X10_way; simp (disch := omega) only [↓zl_m1, zz_leT, zz_leF, zz_ltT, zz_ltF, zz_eqT, zz_eqF, zz_okN, zz_okF, nI_clamp, nI_add, pk_mul, pk_sub, zz_bS, zz_b2S, if_true, if_false, Bool.true_eq_false, Bool.false_eq_true, eq_self, ne_eq, not_true_eq_false, not_false_eq_true, false_or, or_false, true_or, or_true, and_true, true_and, and_false, false_and, mI_e, mI_e2, mI_le, mI_le2, mI_lt, mI_lt2, mI_ok, bI_0n, bI_1n, bI_orn, Nat.mul_zero, Nat.zero_add, Nat.add_zero, c_no2, c_no3, c_no4, c_no5, c_no6, r_no2, r_no3, r_no4, r_no5, r_no6, zk_inR, zk_in2, zk_in3, zk_wiN, Nat.reduceAdd, ngI_e, ngI_le, ngI_m, cs_cmpN, zl_0, zl_1, zl_2, zl_3, zl_4, zl_5, zl_6, zl_7, zl_8, zl_9, zl_10, zl_12, zl_13, zl_14, zl_15, zl_16, zl_20, zl_32, zl_40, zl_48, zl_57, zl_59, zl_60, zl_63, zl_64, zl_97, zl_99, zl_101, zl_119, zl_120, zl_122, zl_128, zl_136, zl_152, zl_168, zl_184, zl_200, zl_201, zl_202, zl_203, zl_250, zl_255, zl_320, zl_999, zl_1000, c_isPerson hC hV, cs_isCell, hu1, hC.o hp8, qf, a1]
      · unfold F_X11_way; simp (disch := omega) only [↓zl_m1, zz_leT, zz_leF, zz_ltT, zz_ltF, zz_eqT, zz_eqF, zz_okN, zz_okF, nI_clamp, nI_add, pk_mul, pk_sub, zz_bS, zz_b2S, if_true, if_false, Bool.true_eq_false, Bool.false_eq_true, eq_self, ne_eq, not_true_eq_false, not_false_eq_true, false_or, or_false, true_or, or_true, and_true, true_and, and_false, false_and, mI_e, mI_e2, mI_le, mI_le2, mI_lt, mI_lt2, mI_ok, bI_0n, bI_1n, bI_orn, Nat.mul_zero, Nat.zero_add, Nat.add_zero, c_no2, c_no3, c_no4, c_no5, c_no6, r_no2, r_no3, r_no4, r_no5, r_no6, zk_inR, zk_in2, zk_in3, zk_wiN, Nat.reduceAdd, ngI_e, ngI_le, ngI_m, cs_cmpN, zl_0, zl_1, zl_2, zl_3, zl_4, zl_5, zl_6, zl_7, zl_8, zl_9, zl_10, zl_12, zl_13, zl_14, zl_15, zl_16, zl_20, zl_32, zl_40, zl_48, zl_57, zl_59, zl_60, zl_63, zl_64, zl_97, zl_99, zl_101, zl_119, zl_120, zl_122, zl_128, zl_136, zl_152, zl_168, zl_184, zl_200, zl_201, zl_202, zl_203, zl_250, zl_255, zl_320, zl_999, zl_1000, r_isOne hL1 hV, cr_isCell, hu1, b1]
    · by_cases hkM : k < M
      · have hat : gO G p ≠ c := fun z => by
          rw [z, zway_0] at ez
          cases ez
          omega
        have hop : gQq G p c = true := by
          cases e5 : gQq G p c with
          | true => rfl
          | false =>
            unfold zway at ez
            rw [zfi_fn hat e5] at ez
            cases ez
        obtain ⟨D, hD⟩ : ∃ D, D = zWb (gQq G p) (gO G p) c := ⟨_, rfl⟩
        have ezb : zfi D (gO G p) 63 = some M := by rw [hD, ← zfi_fb ho hc hop]; exact ez
        obtain ⟨z1, z2, z3⟩ := zfi_s ezb
        have lv : zls D M (gO G p) = true := by
          cases M with
          | zero => exact z2
          | succ M => show (D (M + 1) (gO G p) && !D M (gO G p)) = true; rw [z2, z3 M (by omega)]; rfl
        have lay := a3 M ez hat
        have cc := c_cellOf (m := m1) (op := gQq G p) (a := gO G p) (t := c) (s := M) hM lay (k + 1) M (gO G p) ax_FU (by omega) (Nat.le_refl _) (by unfold ax_FU; omega) ho (by rw [← hD]; exact lv) k hkM (by omega)
        rw [← hD] at cc
        have pm : nI M + mI = nI (M - 1) := by
          have := pk_m1 (M - 1)
          rw [show M - 1 + 1 = M by omega] at this
          exact this
        rw [pm] at cc
        have hL2 : zL m2 G := hL1.E b2 (by decide)
        obtain ⟨m3, w1, w2, w3⟩ := r_walksBack hL2 hV hp8 hc
        have hL3 : zL m3 G := hL2.E w2 (by decide)
        have zb := zback (M := M) hat hop (fun j hj => by rw [← hD]; exact z3 j hj)
        have lab : ∀ j, j < M → ∀ d, d < 64 → (m3.1 37 0 d = nI j) = (zls D j d = true) := fun j hj d hd => by
          rw [w3 d hd, zlab_k (by omega) (by omega)]
          cases j with
          | zero => rw [show zls (zB (zXb (gQq G p) (gO G p) c) (zYb (gQq G p) (gO G p)) c) 0 d = zls D 0 d by rw [hD]; exact zb 0 (by omega) d hd]
          | succ j =>
            have q1 := zb (j + 1) (by omega) d hd
            have q2 := zb j (by omega) d hd
            rw [show zls (zB (zXb (gQq G p) (gO G p) c) (zYb (gQq G p) (gO G p)) c) (j + 1) d = (zB (zXb (gQq G p) (gO G p) c) (zYb (gQq G p) (gO G p)) c (j + 1) d && !zB (zXb (gQq G p) (gO G p) c) (zYb (gQq G p) (gO G p)) c j d) from rfl, q1, q2, hD]
            rfl
        have loop : ∀ r n q f, n + r = k + 1 → r < f → q < 64 → zls D (M - n) q = true → F_X11_way_L45 f m3 (nI k) (nI M) (nI q) (nI n) = some (nI (zce D r q (M - n)), m3) := by
          intro r
          induction r with
          | zero =>
            intro n q f h1 h2 h3 h4
            obtain ⟨f, rfl⟩ : ∃ z, f = z + 1 := ⟨f - 1, by omega⟩
            rw [F_X11_way_L45]
            simp (disch := omega) only [↓zl_m1, zz_leT, zz_leF, zz_ltT, zz_ltF, zz_eqT, zz_eqF, zz_okN, zz_okF, nI_clamp, nI_add, pk_mul, pk_sub, zz_bS, zz_b2S, if_true, if_false, Bool.true_eq_false, Bool.false_eq_true, eq_self, ne_eq, not_true_eq_false, not_false_eq_true, false_or, or_false, true_or, or_true, and_true, true_and, and_false, false_and, mI_e, mI_e2, mI_le, mI_le2, mI_lt, mI_lt2, mI_ok, bI_0n, bI_1n, bI_orn, Nat.mul_zero, Nat.zero_add, Nat.add_zero, c_no2, c_no3, c_no4, c_no5, c_no6, r_no2, r_no3, r_no4, r_no5, r_no6, zk_inR, zk_in2, zk_in3, zk_wiN, Nat.reduceAdd, ngI_e, ngI_le, ngI_m, cs_cmpN, zl_0, zl_1, zl_2, zl_3, zl_4, zl_5, zl_6, zl_7, zl_8, zl_9, zl_10, zl_12, zl_13, zl_14, zl_15, zl_16, zl_20, zl_32, zl_40, zl_48, zl_57, zl_59, zl_60, zl_63, zl_64, zl_97, zl_99, zl_101, zl_119, zl_120, zl_122, zl_128, zl_136, zl_152, zl_168, zl_184, zl_200, zl_201, zl_202, zl_203, zl_250, zl_255, zl_320, zl_999, zl_1000]
            rfl
          | succ r ih =>
            intro n q f h1 h2 h3 h4
            obtain ⟨f, rfl⟩ : ∃ z, f = z + 1 := ⟨f - 1, by omega⟩
            have hMn : M - n = M - n - 1 + 1 := by omega
            rw [hMn, hD] at h4
            obtain ⟨q1, q2, q3⟩ := znx_ok h3 h4
            rw [← hD] at q1 q2 q3
            have i2 := ih (n + 1) (znx D q (M - n - 1)) f (by omega) (by omega) q1 (by rw [show M - (n + 1) = M - n - 1 by omega]; exact q2.2)
            have st := r_wayI (m := m3) (P := zls D (M - n - 1)) h3 (lb2 := nI (M - n - 1)) (fun d hd => lab (M - n - 1) (by omega) d hd) (fun m68 y67 => F_X11_way_L45 f m68 (nI k) (nI M) y67 (nI (n + 1))) (nI k) (nI M) (nI n) (by rw [pk_sub (by omega), pk_sub (by omega)]) ⟨_, q1, by show (znb q _ && zls D _ _) = true; rw [q2.1, q2.2]; rfl⟩
            have s0 : F_X11_way_L45 (f + 1) m3 (nI k) (nI M) (nI q) (nI n) = F_X11_way_L52 ax_FU (fun m68 y67 => F_X11_way_L45 f m68 (nI k) (nI M) y67 (nI (n + 1))) m3 (nI k) (nI M) (nI q) (nI n) mI (nI 0) := by
              rw [F_X11_way_L45, if_neg (nI_nlt (by omega) (by omega)), nI_1]
              rfl
            rw [s0, st]
            show F_X11_way_L45 f m3 (nI k) (nI M) (nI (znx D q (M - n - 1))) (nI (n + 1)) = some (nI (zce D r (znx D q (M - n - 1)) (M - n - 1)), m3)
            rw [i2, show M - (n + 1) = M - n - 1 by omega]
        have rr := loop (k + 1) 0 (gO G p) ax_FU (by omega) (by unfold ax_FU; omega) ho (by rw [Nat.sub_zero]; exact lv)
        rw [Nat.sub_zero] at rr
        have e3 : zE [14, 37] m m3 := e2.tr (w2.mo (by decide))
        refine ⟨nI (zce D (k + 1) (gO G p) M), m1, m3, ?_, ?_, G, h.E e3 (by decide)⟩
        · unfold F_X10_way F_X9_cellOf; simp (disch := omega) only [↓zl_m1, zz_leT, zz_leF, zz_ltT, zz_ltF, zz_eqT, zz_eqF, zz_okN, zz_okF, nI_clamp, nI_add, pk_mul, pk_sub, zz_bS, zz_b2S, if_true, if_false, Bool.true_eq_false, Bool.false_eq_true, eq_self, ne_eq, not_true_eq_false, not_false_eq_true, false_or, or_false, true_or, or_true, and_true, true_and, and_false, false_and, mI_e, mI_e2, mI_le, mI_le2, mI_lt, mI_lt2, mI_ok, bI_0n, bI_1n, bI_orn, Nat.mul_zero, Nat.zero_add, Nat.add_zero, c_no2, c_no3, c_no4, c_no5, c_no6, r_no2, r_no3, r_no4, r_no5, r_no6, zk_inR, zk_in2, zk_in3, zk_wiN, Nat.reduceAdd, ngI_e, ngI_le, ngI_m, cs_cmpN, zl_0, zl_1, zl_2, zl_3, zl_4, zl_5, zl_6, zl_7, zl_8, zl_9, zl_10, zl_12, zl_13, zl_14, zl_15, zl_16, zl_20, zl_32, zl_40, zl_48, zl_57, zl_59, zl_60, zl_63, zl_64, zl_97, zl_99, zl_101, zl_119, zl_120, zl_122, zl_128, zl_136, zl_152, zl_168, zl_184, zl_200, zl_201, zl_202, zl_203, zl_250, zl_255, zl_320, zl_999, zl_1000, c_isPerson hC hV, cs_isCell, hu1, hC.o hp8, qf, a1, cc]
        · unfold F_X11_way; simp (disch := omega) only [↓zl_m1, zz_leT, zz_leF, zz_ltT, zz_ltF, zz_eqT, zz_eqF, zz_okN, zz_okF, nI_clamp, nI_add, pk_mul, pk_sub, zz_bS, zz_b2S, if_true, if_false, Bool.true_eq_false, Bool.false_eq_true, eq_self, ne_eq, not_true_eq_false, not_false_eq_true, false_or, or_false, true_or, or_true, and_true, true_and, and_false, false_and, mI_e, mI_e2, mI_le, mI_le2, mI_lt, mI_lt2, mI_ok, bI_0n, bI_1n, bI_orn, Nat.mul_zero, Nat.zero_add, Nat.add_zero, c_no2, c_no3, c_no4, c_no5, c_no6, r_no2, r_no3, r_no4, r_no5, r_no6, zk_inR, zk_in2, zk_in3, zk_wiN, Nat.reduceAdd, ngI_e, ngI_le, ngI_m, cs_cmpN, zl_0, zl_1, zl_2, zl_3, zl_4, zl_5, zl_6, zl_7, zl_8, zl_9, zl_10, zl_12, zl_13, zl_14, zl_15, zl_16, zl_20, zl_32, zl_40, zl_48, zl_57, zl_59, zl_60, zl_63, zl_64, zl_97, zl_99, zl_101, zl_119, zl_120, zl_122, zl_128, zl_136, zl_152, zl_168, zl_184, zl_200, zl_201, zl_202, zl_203, zl_250, zl_255, zl_320, zl_999, zl_1000, r_isOne hL1 hV, cr_isCell, hu1, b1, w1, hL3.o hp8, rr]
      · have e3 : zE [14, 37, 20, 34] m (zrn (zrf m2 3) 5) := ((e2.mo (by decide)).tr ((zrf_E m2 3).mo (by decide))).tr ((zrn_E _ 5).mo (by decide))
        have hL4 : zL (zrf m1 3) G := hL1.E (zrf_E m1 3) (by decide)
        obtain ⟨m5, c1, c2⟩ := r_wayOf hL4 hV hp8 hc
        rw [ez] at c1
        have c1 : F_X11_wayOf (zrf m1 3) (nI p) (nI c) = some (nI M, m5) := c1
        have hR5 : zRG m1 G := h.E (a2.mo (l2 := [14]) (by decide)) (by decide)
        have hR6 : zRG (zrn m5 5) G := by
          have q := hR5.no (j := 3) (by decide) rfl
          -- the walks changed the labels alone
          have f1 : zE [37, 34] (zrf m1 3) (zrn m5 5) := (c2.mo (by decide)).tr ((zrn_E m5 5).mo (by decide))
          obtain ⟨gV, gC, gL, gK, gS, gT, gF⟩ := q
          obtain ⟨hV1, hC1, hL1', hK1, hS1, hT1, hF1⟩ := hR5
          have f2 : zE [20, 37, 34] m1 (zrn m5 5) := ((zrf_E m1 3).mo (by decide)).tr (f1.mo (by decide))
          refine ⟨gV, hC1.E f2 (by decide), hL1'.E f2 (by decide), hK1.E f2 (by decide), hS1.E f2 (by decide), hT1.E f2 (by decide), fun j hj => ?_⟩
          have g := gF j hj
          have d1 : (zrn m5 5).1 20 0 j = (zrn (zrf m1 3) (3 + 2)).1 20 0 j := by
            rw [(zrn_E m5 5 20 (by decide)).1, (c2 20 (by decide)).1, (zrn_E (zrf m1 3) (3 + 2) 20 (by decide)).1]
          have d2 : (zrn m5 5).1 34 0 (j + 2) = (zrn (zrf m1 3) (3 + 2)).1 34 0 (j + 2) := by
            have x1 : m5.1 34 = (zrf m1 3).1 34 := (c2 34 (by decide)).1
            unfold zrn
            by_cases e9 : j + 2 = 5
            · rw [e9, zu_s, zu_s, x1]
            · rw [zu_j e9, zu_j (by omega), x1]
          rw [d1, d2]
          exact g
        refine ⟨-nI 5, zrf m1 3, zrn m5 5, ?_, ?_, G, hR6⟩
        · unfold F_X10_way; simp (disch := omega) only [↓zl_m1, zz_leT, zz_leF, zz_ltT, zz_ltF, zz_eqT, zz_eqF, zz_okN, zz_okF, nI_clamp, nI_add, pk_mul, pk_sub, zz_bS, zz_b2S, if_true, if_false, Bool.true_eq_false, Bool.false_eq_true, eq_self, ne_eq, not_true_eq_false, not_false_eq_true, false_or, or_false, true_or, or_true, and_true, true_and, and_false, false_and, mI_e, mI_e2, mI_le, mI_le2, mI_lt, mI_lt2, mI_ok, bI_0n, bI_1n, bI_orn, Nat.mul_zero, Nat.zero_add, Nat.add_zero, c_no2, c_no3, c_no4, c_no5, c_no6, r_no2, r_no3, r_no4, r_no5, r_no6, zk_inR, zk_in2, zk_in3, zk_wiN, Nat.reduceAdd, ngI_e, ngI_le, ngI_m, cs_cmpN, zl_0, zl_1, zl_2, zl_3, zl_4, zl_5, zl_6, zl_7, zl_8, zl_9, zl_10, zl_12, zl_13, zl_14, zl_15, zl_16, zl_20, zl_32, zl_40, zl_48, zl_57, zl_59, zl_60, zl_63, zl_64, zl_97, zl_99, zl_101, zl_119, zl_120, zl_122, zl_128, zl_136, zl_152, zl_168, zl_184, zl_200, zl_201, zl_202, zl_203, zl_250, zl_255, zl_320, zl_999, zl_1000, c_isPerson hC hV, cs_isCell, hu1, hC.o hp8, qf, a1]
        · unfold F_X11_way; simp (disch := omega) only [↓zl_m1, zz_leT, zz_leF, zz_ltT, zz_ltF, zz_eqT, zz_eqF, zz_okN, zz_okF, nI_clamp, nI_add, pk_mul, pk_sub, zz_bS, zz_b2S, if_true, if_false, Bool.true_eq_false, Bool.false_eq_true, eq_self, ne_eq, not_true_eq_false, not_false_eq_true, false_or, or_false, true_or, or_true, and_true, true_and, and_false, false_and, mI_e, mI_e2, mI_le, mI_le2, mI_lt, mI_lt2, mI_ok, bI_0n, bI_1n, bI_orn, Nat.mul_zero, Nat.zero_add, Nat.add_zero, c_no2, c_no3, c_no4, c_no5, c_no6, r_no2, r_no3, r_no4, r_no5, r_no6, zk_inR, zk_in2, zk_in3, zk_wiN, Nat.reduceAdd, ngI_e, ngI_le, ngI_m, cs_cmpN, zl_0, zl_1, zl_2, zl_3, zl_4, zl_5, zl_6, zl_7, zl_8, zl_9, zl_10, zl_12, zl_13, zl_14, zl_15, zl_16, zl_20, zl_32, zl_40, zl_48, zl_57, zl_59, zl_60, zl_63, zl_64, zl_97, zl_99, zl_101, zl_119, zl_120, zl_122, zl_128, zl_136, zl_152, zl_168, zl_184, zl_200, zl_201, zl_202, zl_203, zl_250, zl_255, zl_320, zl_999, zl_1000, r_isOne hL4 hV, cr_isCell, hu1, c1])
