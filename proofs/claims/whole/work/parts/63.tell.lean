/-! CALLS, fifteenth: tells -/
def zTo (t : Nat → Nat) (n : Nat) : Nat → Bool := fun c => zany (fun i => decide (t i = c)) n
/-- told cells of a shelf, as the reference reads them -/
def zTd (m : ax_M) (s n : Nat) (t : Nat → Nat) : Prop := s < 8 ∧ n ≤ 40 ∧ ∀ i, i < n → t i < 64 ∧ F_X11_toldAt m (nI s) (nI i) = some (nI (t i))
theorem zTd_E {m m1 : ax_M} {s n : Nat} {t : Nat → Nat} (h : zTd m s n t) (e : zE [39] m m1) : zTd m1 s n t := by
  obtain ⟨h1, h2, h3⟩ := h
  refine ⟨h1, h2, fun i hi => ⟨(h3 i hi).1, ?_⟩⟩
  rw [← (h3 i hi).2]
  unfold F_X11_toldAt
  rw [(e 33 (by decide)).2]
theorem r_tellsAll {m : ax_M} {s n M : Nat} {t b : Nat → Nat} (h : zTd m s n t) (hM : M ≤ 3) (hb : ∀ k, k < M → b k < 64 ∧ m.1 39 0 k = nI (b k)) : F_X11_tellsAll m (nI s) (nI n) (nI M) = some (bI (!zany (fun c => zTo t n c && !zany (fun k => zq (b k) c) M) 64)) := by
  obtain ⟨h1, h2, h3⟩ := h
  have inn : ∀ (K : Int32 → Option Int32) (i : Nat), i < n → F_X11_tellsAll_L9 ax_FU K m (nI s) (nI n) (nI M) (nI i) (nI 0) (nI 0) = K (bI (zany (fun k => zq (b k) (t i)) M)) := by
    intro K i hi
    obtain ⟨ht, hv⟩ := h3 i hi
    have key : ∀ k q f, q + k = M → k < f → F_X11_tellsAll_L9 f K m (nI s) (nI n) (nI M) (nI i) (bI (zany (fun k => zq (b k) (t i)) q)) (nI q) = K (bI (zany (fun k => zq (b k) (t i)) M)) := by
      refine zz_loop M (fun f => ?_) (fun f q hq ih => ?_)
      · rw [F_X11_tellsAll_L9, if_pos (Int32.le_refl _)]
      · obtain ⟨b1, b2⟩ := hb q hq
        have hf := zfar_le ht b1
        rw [F_X11_tellsAll_L9]
        rw [zany] at ih
        by_cases e : zfar (t i) (b q) ≤ 1
        · simp (disch := omega) only [↓zl_m1, zz_leT, zz_leF, zz_ltT, zz_ltF, zz_eqT, zz_eqF, zz_okN, zz_okF, nI_clamp, nI_add, pk_mul, pk_sub, zz_bS, zz_b2S, if_true, if_false, Bool.true_eq_false, Bool.false_eq_true, eq_self, ne_eq, not_true_eq_false, not_false_eq_true, false_or, or_false, true_or, or_true, and_true, true_and, and_false, false_and, mI_e, mI_e2, mI_le, mI_le2, mI_lt, mI_lt2, mI_ok, bI_0n, bI_1n, bI_orn, Nat.mul_zero, Nat.zero_add, Nat.add_zero, c_no2, c_no3, c_no4, c_no5, c_no6, r_no2, r_no3, r_no4, r_no5, r_no6, zk_inR, zk_in2, zk_in3, zk_wiN, Nat.reduceAdd, ngI_e, ngI_le, ngI_m, cs_cmpN, zl_0, zl_1, zl_2, zl_3, zl_4, zl_5, zl_6, zl_7, zl_8, zl_9, zl_10, zl_12, zl_13, zl_14, zl_15, zl_16, zl_20, zl_32, zl_40, zl_48, zl_57, zl_59, zl_60, zl_63, zl_64, zl_97, zl_99, zl_101, zl_119, zl_120, zl_122, zl_128, zl_136, zl_152, zl_168, zl_184, zl_200, zl_201, zl_202, zl_203, zl_250, zl_255, zl_320, zl_999, zl_1000, hv, b2, r_far ht b1]
          rw [show zq (b q) (t i) = true from decide_eq_true e, Bool.or_true] at ih
          exact ih
        · simp (disch := omega) only [↓zl_m1, zz_leT, zz_leF, zz_ltT, zz_ltF, zz_eqT, zz_eqF, zz_okN, zz_okF, nI_clamp, nI_add, pk_mul, pk_sub, zz_bS, zz_b2S, if_true, if_false, Bool.true_eq_false, Bool.false_eq_true, eq_self, ne_eq, not_true_eq_false, not_false_eq_true, false_or, or_false, true_or, or_true, and_true, true_and, and_false, false_and, mI_e, mI_e2, mI_le, mI_le2, mI_lt, mI_lt2, mI_ok, bI_0n, bI_1n, bI_orn, Nat.mul_zero, Nat.zero_add, Nat.add_zero, c_no2, c_no3, c_no4, c_no5, c_no6, r_no2, r_no3, r_no4, r_no5, r_no6, zk_inR, zk_in2, zk_in3, zk_wiN, Nat.reduceAdd, ngI_e, ngI_le, ngI_m, cs_cmpN, zl_0, zl_1, zl_2, zl_3, zl_4, zl_5, zl_6, zl_7, zl_8, zl_9, zl_10, zl_12, zl_13, zl_14, zl_15, zl_16, zl_20, zl_32, zl_40, zl_48, zl_57, zl_59, zl_60, zl_63, zl_64, zl_97, zl_99, zl_101, zl_119, zl_120, zl_122, zl_128, zl_136, zl_152, zl_168, zl_184, zl_200, zl_201, zl_202, zl_203, zl_250, zl_255, zl_320, zl_999, zl_1000, hv, b2, r_far ht b1]
          rw [show zq (b q) (t i) = false from decide_eq_false e, Bool.or_false] at ih
          exact ih
    exact key M 0 ax_FU (by omega) (by unfold ax_FU; omega)
  have eq : zany (fun c => zTo t n c && !zany (fun k => zq (b k) c) M) 64 = zany (fun i => !zany (fun k => zq (b k) (t i)) M) n := by
    cases e : zany (fun i => !zany (fun k => zq (b k) (t i)) M) n with
    | true =>
      obtain ⟨i, hi, h4⟩ := zany_t.mp e
      refine zany_t.mpr ⟨t i, (h3 i hi).1, ?_⟩
      show (zTo t n (t i) && !zany (fun k => zq (b k) (t i)) M) = true
      rw [h4, show zTo t n (t i) = true from zany_t.mpr ⟨i, hi, decide_eq_true rfl⟩]
      rfl
    | false =>
      refine zany_f.mpr (fun c hc => ?_)
      show (zTo t n c && !zany (fun k => zq (b k) c) M) = false
      cases e2 : zTo t n c with
      | false => rfl
      | true =>
        obtain ⟨i, hi, h4⟩ := zany_t.mp e2
        have := of_decide_eq_true h4
        subst this
        rw [Bool.true_and]
        exact zany_f.mp e i hi
  rw [eq]
  have key : ∀ k i f, i + k = n → k < f → (zany (fun i => !zany (fun k => zq (b k) (t i)) M) i = false → F_X11_tellsAll_L2 f m (nI s) (nI n) (nI M) (nI i) = some (bI (!zany (fun i => !zany (fun k => zq (b k) (t i)) M) n))) := by
    refine zz_loop n (fun f => ?_) (fun f i hi ih => ?_)
    · intro h0
      rw [F_X11_tellsAll_L2, if_pos (Int32.le_refl _), h0]; rfl
    · intro h0
      have st : F_X11_tellsAll_L2 (f + 1) m (nI s) (nI n) (nI M) (nI i) = F_X11_tellsAll_L9 ax_FU (fun y27 => if y27 = 0 then some 0 else F_X11_tellsAll_L2 f m (nI s) (nI n) (nI M) (nI (i + 1))) m (nI s) (nI n) (nI M) (nI i) (nI 0) (nI 0) := by
        rw [F_X11_tellsAll_L2, if_neg (nI_ge hi (by omega)), nI_1]
        rfl
      rw [st, inn _ i hi]
      cases e : zany (fun k => zq (b k) (t i)) M with
      | false =>
        rw [if_pos (show bI false = 0 from rfl), zany_t.mpr ⟨i, hi, by rw [e]; rfl⟩]
        rfl
      | true =>
        rw [if_neg (show ¬ bI true = 0 by decide)]
        exact ih (by rw [zany, h0, e]; rfl)
  exact key n 0 ax_FU (by omega) (by unfold ax_FU; omega) rfl
theorem zwo_1 (T : Nat → Bool) (a : Nat) : zany (fun c => T c && !zany (fun k => zq ((fun _ => a) k) c) 1) 64 = zany (zwo T a) 64 := zany_congr (fun c _ => by
  show (T c && !(false || zq a c)) = (T c && !zq a c)
  rw [Bool.false_or])
theorem zwo_2 (T : Nat → Bool) (a b : Nat) : zany (fun c => T c && !zany (fun k => zq ((fun k => if k = 0 then a else b) k) c) 2) 64 = zany (zwo (zwo T a) b) 64 := zany_congr (fun c _ => by
  show (T c && !((false || zq a c) || zq b c)) = ((T c && !zq a c) && !zq b c)
  rw [Bool.false_or, Bool.not_or, Bool.and_assoc])
theorem zwo_3 (T : Nat → Bool) (a b d : Nat) : zany (fun c => T c && !zany (fun k => zq ((fun k => if k = 0 then a else if k = 1 then b else d) k) c) 3) 64 = zany (zwo (zwo (zwo T a) b) d) 64 := zany_congr (fun c _ => by
  show (T c && !(((false || zq a c) || zq b c) || zq d c)) = (((T c && !zq a c) && !zq b c) && !zq d c)
  rw [Bool.false_or, Bool.not_or, Bool.not_or, Bool.and_assoc, Bool.and_assoc, Bool.and_assoc])
section
variable {s n : Nat} {t : Nat → Nat}
theorem zcv_1s {T : Nat → Bool} {a : Nat} (ha : a < 64) : zcv 1 a T = if zany (zwo T a) 64 = false then some [a] else zcv 1 (a + 1) T := by
  show zfs _ (64 - a) a = _
  rw [show 64 - a = (64 - (a + 1)) + 1 by omega, zfs, zcv]
  by_cases e : zany (zwo T a) 64 = false
  · rw [if_pos e, if_pos e]
  · rw [if_neg e, if_neg e]
    rfl
theorem zcv_ss {k : Nat} {T : Nat → Bool} {a : Nat} (ha : a < 64) : zcv (k + 1) a T = match zcv k (a + 1) (zwo T a) with | some l => some (a :: l) | none => zcv (k + 1) (a + 1) T := by
  show zfs _ (64 - a) a = _
  rw [show 64 - a = (64 - (a + 1)) + 1 by omega, zfs]
  cases zcv k (a + 1) (zwo T a) with
  | some l => rfl
  | none => rfl
theorem zcv_64 {k : Nat} {T : Nat → Bool} {a : Nat} (ha : 64 ≤ a) : zcv (k + 1) a T = none := by
  show zfs _ (64 - a) a = _
  rw [show 64 - a = 0 by omega]
  rfl
/-- one -/
theorem r_few1 (T : Nat → Bool) (hT : T = zTo t n) : ∀ r a f, a + r = 64 → r < f → (∀ m, zTd m s n t → m.1 39 0 0 = nI a → ∃ m1, F_X11_fewest_L9 f m (nI s) (nI n) = (match zcv 1 a T with | some _ => some (nI 1, m1) | none => F_X11_fewest_L37 ax_FU (ax_ui m1 39 0 0 (nI 0)) (nI s) (nI n)) ∧ zE [39] m m1 ∧ ∀ l, zcv 1 a T = some l → zLs m1 39 0 l) := by
  subst hT
  refine zz_loop 64 (fun f => ?_) (fun f a ha ih => ?_)
  · intro m h h0
    refine ⟨m, ?_, zE.rf _ _, fun l hl => (by rw [zcv_64 (Nat.le_refl _)] at hl; cases hl)⟩
    rw [zcv_64 (Nat.le_refl _), F_X11_fewest_L9]
    simp (disch := omega) only [↓zl_m1, zz_leT, zz_leF, zz_ltT, zz_ltF, zz_eqT, zz_eqF, zz_okN, zz_okF, nI_clamp, nI_add, pk_mul, pk_sub, zz_bS, zz_b2S, if_true, if_false, Bool.true_eq_false, Bool.false_eq_true, eq_self, ne_eq, not_true_eq_false, not_false_eq_true, false_or, or_false, true_or, or_true, and_true, true_and, and_false, false_and, mI_e, mI_e2, mI_le, mI_le2, mI_lt, mI_lt2, mI_ok, bI_0n, bI_1n, bI_orn, Nat.mul_zero, Nat.zero_add, Nat.add_zero, c_no2, c_no3, c_no4, c_no5, c_no6, r_no2, r_no3, r_no4, r_no5, r_no6, zk_inR, zk_in2, zk_in3, zk_wiN, Nat.reduceAdd, ngI_e, ngI_le, ngI_m, cs_cmpN, zl_0, zl_1, zl_2, zl_3, zl_4, zl_5, zl_6, zl_7, zl_8, zl_9, zl_10, zl_12, zl_13, zl_14, zl_15, zl_16, zl_20, zl_32, zl_40, zl_48, zl_57, zl_59, zl_60, zl_63, zl_64, zl_97, zl_99, zl_101, zl_119, zl_120, zl_122, zl_128, zl_136, zl_152, zl_168, zl_184, zl_200, zl_201, zl_202, zl_203, zl_250, zl_255, zl_320, zl_999, zl_1000, h0]
  · intro m h h0
    have ta := r_tellsAll (M := 1) (b := fun _ => a) h (by omega) (fun k hk => ⟨ha, by
      have : k = 0 := by omega
      subst this
      exact h0⟩)
    rw [zwo_1] at ta
    rw [zcv_1s ha]
    cases e : zany (zwo (zTo t n) a) 64 with
    | false =>
      rw [e] at ta
      refine ⟨m, ?_, zE.rf _ _, fun l hl j hj => ?_⟩
      · rw [F_X11_fewest_L9, if_pos rfl]
        simp (disch := omega) only [↓zl_m1, zz_leT, zz_leF, zz_ltT, zz_ltF, zz_eqT, zz_eqF, zz_okN, zz_okF, nI_clamp, nI_add, pk_mul, pk_sub, zz_bS, zz_b2S, if_true, if_false, Bool.true_eq_false, Bool.false_eq_true, eq_self, ne_eq, not_true_eq_false, not_false_eq_true, false_or, or_false, true_or, or_true, and_true, true_and, and_false, false_and, mI_e, mI_e2, mI_le, mI_le2, mI_lt, mI_lt2, mI_ok, bI_0n, bI_1n, bI_orn, Nat.mul_zero, Nat.zero_add, Nat.add_zero, c_no2, c_no3, c_no4, c_no5, c_no6, r_no2, r_no3, r_no4, r_no5, r_no6, zk_inR, zk_in2, zk_in3, zk_wiN, Nat.reduceAdd, ngI_e, ngI_le, ngI_m, cs_cmpN, zl_0, zl_1, zl_2, zl_3, zl_4, zl_5, zl_6, zl_7, zl_8, zl_9, zl_10, zl_12, zl_13, zl_14, zl_15, zl_16, zl_20, zl_32, zl_40, zl_48, zl_57, zl_59, zl_60, zl_63, zl_64, zl_97, zl_99, zl_101, zl_119, zl_120, zl_122, zl_128, zl_136, zl_152, zl_168, zl_184, zl_200, zl_201, zl_202, zl_203, zl_250, zl_255, zl_320, zl_999, zl_1000, h0, ta, Bool.not_false]
      · rw [if_pos rfl] at hl
        cases hl
        have : j = 0 := by simp at hj; omega
        subst this
        exact h0
    | true =>
      rw [e] at ta
      have e1 : zE [39] m (ax_ui m 39 0 0 (nI (a + 1))) := (zE.rf _ _).ui (by decide)
      obtain ⟨m1, a1, a2, a3⟩ := ih (ax_ui m 39 0 0 (nI (a + 1))) (zTd_E h e1) zu_s
      rw [if_neg (by decide)]
      refine ⟨m1, ?_, e1.tr a2, a3⟩
      rw [F_X11_fewest_L9]
      simp (disch := omega) only [↓zl_m1, zz_leT, zz_leF, zz_ltT, zz_ltF, zz_eqT, zz_eqF, zz_okN, zz_okF, nI_clamp, nI_add, pk_mul, pk_sub, zz_bS, zz_b2S, if_true, if_false, Bool.true_eq_false, Bool.false_eq_true, eq_self, ne_eq, not_true_eq_false, not_false_eq_true, false_or, or_false, true_or, or_true, and_true, true_and, and_false, false_and, mI_e, mI_e2, mI_le, mI_le2, mI_lt, mI_lt2, mI_ok, bI_0n, bI_1n, bI_orn, Nat.mul_zero, Nat.zero_add, Nat.add_zero, c_no2, c_no3, c_no4, c_no5, c_no6, r_no2, r_no3, r_no4, r_no5, r_no6, zk_inR, zk_in2, zk_in3, zk_wiN, Nat.reduceAdd, ngI_e, ngI_le, ngI_m, cs_cmpN, zl_0, zl_1, zl_2, zl_3, zl_4, zl_5, zl_6, zl_7, zl_8, zl_9, zl_10, zl_12, zl_13, zl_14, zl_15, zl_16, zl_20, zl_32, zl_40, zl_48, zl_57, zl_59, zl_60, zl_63, zl_64, zl_97, zl_99, zl_101, zl_119, zl_120, zl_122, zl_128, zl_136, zl_152, zl_168, zl_184, zl_200, zl_201, zl_202, zl_203, zl_250, zl_255, zl_320, zl_999, zl_1000, h0, ta, Bool.not_true]
      exact a1
/-- the second of two -/
theorem r_few2i (T : Nat → Bool) (hT : T = zTo t n) {a : Nat} (ha : a < 64) (K : ax_M → Option (Int32 × ax_M)) : ∀ r b f, b + r = 64 → r < f → (∀ m, zTd m s n t → m.1 39 0 0 = nI a → m.1 39 0 1 = nI b → ∃ m1, F_X11_fewest_L53 f K m (nI s) (nI n) = (match zcv 1 b (zwo T a) with | some _ => some (nI 2, m1) | none => K m1) ∧ zE [39] m m1 ∧ m1.1 39 0 0 = nI a ∧ ∀ l, zcv 1 b (zwo T a) = some l → zLs m1 39 1 l) := by
  subst hT
  refine zz_loop 64 (fun f => ?_) (fun f b hb ih => ?_)
  · intro m h h0 h1
    refine ⟨m, ?_, zE.rf _ _, h0, fun l hl => (by rw [zcv_64 (Nat.le_refl _)] at hl; cases hl)⟩
    rw [zcv_64 (Nat.le_refl _), F_X11_fewest_L53]
    simp (disch := omega) only [↓zl_m1, zz_leT, zz_leF, zz_ltT, zz_ltF, zz_eqT, zz_eqF, zz_okN, zz_okF, nI_clamp, nI_add, pk_mul, pk_sub, zz_bS, zz_b2S, if_true, if_false, Bool.true_eq_false, Bool.false_eq_true, eq_self, ne_eq, not_true_eq_false, not_false_eq_true, false_or, or_false, true_or, or_true, and_true, true_and, and_false, false_and, mI_e, mI_e2, mI_le, mI_le2, mI_lt, mI_lt2, mI_ok, bI_0n, bI_1n, bI_orn, Nat.mul_zero, Nat.zero_add, Nat.add_zero, c_no2, c_no3, c_no4, c_no5, c_no6, r_no2, r_no3, r_no4, r_no5, r_no6, zk_inR, zk_in2, zk_in3, zk_wiN, Nat.reduceAdd, ngI_e, ngI_le, ngI_m, cs_cmpN, zl_0, zl_1, zl_2, zl_3, zl_4, zl_5, zl_6, zl_7, zl_8, zl_9, zl_10, zl_12, zl_13, zl_14, zl_15, zl_16, zl_20, zl_32, zl_40, zl_48, zl_57, zl_59, zl_60, zl_63, zl_64, zl_97, zl_99, zl_101, zl_119, zl_120, zl_122, zl_128, zl_136, zl_152, zl_168, zl_184, zl_200, zl_201, zl_202, zl_203, zl_250, zl_255, zl_320, zl_999, zl_1000, h1]
  · intro m h h0 h1
    have ta := r_tellsAll (M := 2) (b := fun k => if k = 0 then a else b) h (by omega) (fun k hk => by
      rcases (by omega : k = 0 ∨ k = 1) with rfl | rfl
      · exact ⟨ha, h0⟩
      · exact ⟨hb, h1⟩)
    rw [zwo_2] at ta
    rw [zcv_1s hb]
    cases e : zany (zwo (zwo (zTo t n) a) b) 64 with
    | false =>
      rw [e] at ta
      refine ⟨m, ?_, zE.rf _ _, h0, fun l hl j hj => ?_⟩
      · rw [F_X11_fewest_L53, if_pos rfl]
        simp (disch := omega) only [↓zl_m1, zz_leT, zz_leF, zz_ltT, zz_ltF, zz_eqT, zz_eqF, zz_okN, zz_okF, nI_clamp, nI_add, pk_mul, pk_sub, zz_bS, zz_b2S, if_true, if_false, Bool.true_eq_false, Bool.false_eq_true, eq_self, ne_eq, not_true_eq_false, not_false_eq_true, false_or, or_false, true_or, or_true, and_true, true_and, and_false, false_and, mI_e, mI_e2, mI_le, mI_le2, mI_lt, mI_lt2, mI_ok, bI_0n, bI_1n, bI_orn, Nat.mul_zero, Nat.zero_add, Nat.add_zero, c_no2, c_no3, c_no4, c_no5, c_no6, r_no2, r_no3, r_no4, r_no5, r_no6, zk_inR, zk_in2, zk_in3, zk_wiN, Nat.reduceAdd, ngI_e, ngI_le, ngI_m, cs_cmpN, zl_0, zl_1, zl_2, zl_3, zl_4, zl_5, zl_6, zl_7, zl_8, zl_9, zl_10, zl_12, zl_13, zl_14, zl_15, zl_16, zl_20, zl_32, zl_40, zl_48, zl_57, zl_59, zl_60, zl_63, zl_64, zl_97, zl_99, zl_101, zl_119, zl_120, zl_122, zl_128, zl_136, zl_152, zl_168, zl_184, zl_200, zl_201, zl_202, zl_203, zl_250, zl_255, zl_320, zl_999, zl_1000, h1, ta, Bool.not_false]
      · rw [if_pos rfl] at hl
        cases hl
        have : j = 0 := by simp at hj; omega
        subst this
        exact h1
    | true =>
      rw [e] at ta
      have e1 : zE [39] m (ax_ui m 39 0 1 (nI (b + 1))) := (zE.rf _ _).ui (by decide)
      obtain ⟨m1, a1, a2, a3⟩ := ih (ax_ui m 39 0 1 (nI (b + 1))) (zTd_E h e1) (by rw [zu_j (by decide)]; exact h0) zu_s
      rw [if_neg (by decide)]
      refine ⟨m1, ?_, e1.tr a2, a3⟩
      rw [F_X11_fewest_L53]
      simp (disch := omega) only [↓zl_m1, zz_leT, zz_leF, zz_ltT, zz_ltF, zz_eqT, zz_eqF, zz_okN, zz_okF, nI_clamp, nI_add, pk_mul, pk_sub, zz_bS, zz_b2S, if_true, if_false, Bool.true_eq_false, Bool.false_eq_true, eq_self, ne_eq, not_true_eq_false, not_false_eq_true, false_or, or_false, true_or, or_true, and_true, true_and, and_false, false_and, mI_e, mI_e2, mI_le, mI_le2, mI_lt, mI_lt2, mI_ok, bI_0n, bI_1n, bI_orn, Nat.mul_zero, Nat.zero_add, Nat.add_zero, c_no2, c_no3, c_no4, c_no5, c_no6, r_no2, r_no3, r_no4, r_no5, r_no6, zk_inR, zk_in2, zk_in3, zk_wiN, Nat.reduceAdd, ngI_e, ngI_le, ngI_m, cs_cmpN, zl_0, zl_1, zl_2, zl_3, zl_4, zl_5, zl_6, zl_7, zl_8, zl_9, zl_10, zl_12, zl_13, zl_14, zl_15, zl_16, zl_20, zl_32, zl_40, zl_48, zl_57, zl_59, zl_60, zl_63, zl_64, zl_97, zl_99, zl_101, zl_119, zl_120, zl_122, zl_128, zl_136, zl_152, zl_168, zl_184, zl_200, zl_201, zl_202, zl_203, zl_250, zl_255, zl_320, zl_999, zl_1000, h1, ta, Bool.not_true]
      exact a1
theorem r_few2 (T : Nat → Bool) (hT : T = zTo t n) : ∀ r a f, a + r = 64 → r < f → (∀ m, zTd m s n t → m.1 39 0 0 = nI a → ∃ m1, F_X11_fewest_L37 f m (nI s) (nI n) = (match zcv 2 a T with | some _ => some (nI 2, m1) | none => F_X11_fewest_L90 ax_FU (ax_ui m1 39 0 0 (nI 0)) (nI s) (nI n)) ∧ zE [39] m m1 ∧ ∀ l, zcv 2 a T = some l → zLs m1 39 0 l) := by
  refine zz_loop 64 (fun f => ?_) (fun f a ha ih => ?_)
  · intro m h h0
    refine ⟨m, ?_, zE.rf _ _, fun l hl => (by rw [zcv_64 (Nat.le_refl _)] at hl; cases hl)⟩
    rw [zcv_64 (Nat.le_refl _), F_X11_fewest_L37]
    simp (disch := omega) only [↓zl_m1, zz_leT, zz_leF, zz_ltT, zz_ltF, zz_eqT, zz_eqF, zz_okN, zz_okF, nI_clamp, nI_add, pk_mul, pk_sub, zz_bS, zz_b2S, if_true, if_false, Bool.true_eq_false, Bool.false_eq_true, eq_self, ne_eq, not_true_eq_false, not_false_eq_true, false_or, or_false, true_or, or_true, and_true, true_and, and_false, false_and, mI_e, mI_e2, mI_le, mI_le2, mI_lt, mI_lt2, mI_ok, bI_0n, bI_1n, bI_orn, Nat.mul_zero, Nat.zero_add, Nat.add_zero, c_no2, c_no3, c_no4, c_no5, c_no6, r_no2, r_no3, r_no4, r_no5, r_no6, zk_inR, zk_in2, zk_in3, zk_wiN, Nat.reduceAdd, ngI_e, ngI_le, ngI_m, cs_cmpN, zl_0, zl_1, zl_2, zl_3, zl_4, zl_5, zl_6, zl_7, zl_8, zl_9, zl_10, zl_12, zl_13, zl_14, zl_15, zl_16, zl_20, zl_32, zl_40, zl_48, zl_57, zl_59, zl_60, zl_63, zl_64, zl_97, zl_99, zl_101, zl_119, zl_120, zl_122, zl_128, zl_136, zl_152, zl_168, zl_184, zl_200, zl_201, zl_202, zl_203, zl_250, zl_255, zl_320, zl_999, zl_1000, h0]
  · intro m h h0
    have e1 : zE [39] m (ax_ui m 39 0 1 (nI (a + 1))) := (zE.rf _ _).ui (by decide)
    obtain ⟨m1, a1, a2, a3, a4⟩ := r_few2i T hT ha (fun m116 => if ax_ok (nI 0) 3 = true then (if ax_ok (nI 0) 3 = true then (F_X11_fewest_L37 f (ax_ui m116 39 0 (nI 0).toNatClampNeg ((m116.1 39 0 (nI 0).toNatClampNeg) + nI 1)) (nI s) (nI n)) else none) else none) (64 - (a + 1)) (a + 1) ax_FU (by omega) (by unfold ax_FU; omega) (ax_ui m 39 0 1 (nI (a + 1))) (zTd_E h e1) (by rw [zu_j (by decide)]; exact h0) zu_s
    have st : F_X11_fewest_L37 (f + 1) m (nI s) (nI n) = F_X11_fewest_L53 ax_FU (fun m116 => if ax_ok (nI 0) 3 = true then (if ax_ok (nI 0) 3 = true then (F_X11_fewest_L37 f (ax_ui m116 39 0 (nI 0).toNatClampNeg ((m116.1 39 0 (nI 0).toNatClampNeg) + nI 1)) (nI s) (nI n)) else none) else none) (ax_ui m 39 0 1 (nI (a + 1))) (nI s) (nI n) := by
      rw [F_X11_fewest_L37]
      simp only [zl_0, zl_1, nI_clamp (show 0 < 2 ^ 31 by decide), nI_clamp (show 1 < 2 ^ 31 by decide), zz_okN (show 0 < 3 by decide) (show 0 < 2 ^ 31 by decide), zz_okN (show 1 < 3 by decide) (show 1 < 2 ^ 31 by decide), h0, zl_64, zz_leF ha (by decide), if_true, if_false, nI_add]
    rw [st, a1, zcv_ss ha]
    have e2 : zE [39] m m1 := e1.tr a2
    cases e : zcv 1 (a + 1) (zwo T a) with
    | some l =>
      refine ⟨m1, rfl, e2, fun l2 h5 j hj => ?_⟩
      cases h5
      cases j with
      | zero => exact a3
      | succ j =>
        have := a4 l e j (by simp at hj; omega)
        rw [show 0 + (j + 1) = 1 + j by omega]
        exact this
    | none =>
      have e3 : zE [39] m (ax_ui m1 39 0 0 (nI (a + 1))) := e2.ui (by decide)
      obtain ⟨m2, i1, i2, i3⟩ := ih (ax_ui m1 39 0 0 (nI (a + 1))) (zTd_E h e3) zu_s
      refine ⟨m2, ?_, e3.tr i2, i3⟩
      dsimp only
      rw [if_pos (by decide), if_pos (by decide), show (nI 0).toNatClampNeg = 0 by decide, a3, nI_add]
      exact i1
/-- the third of three -/
theorem r_few3i (T : Nat → Bool) (hT : T = zTo t n) {a b : Nat} (ha : a < 64) (hb : b < 64) (K : ax_M → Option (Int32 × ax_M)) : ∀ r d f, d + r = 64 → r < f → (∀ m, zTd m s n t → m.1 39 0 0 = nI a → m.1 39 0 1 = nI b → m.1 39 0 2 = nI d → ∃ m1, F_X11_fewest_L122 f K m (nI s) (nI n) = (match zcv 1 d (zwo (zwo T a) b) with | some _ => some (nI 3, m1) | none => K m1) ∧ zE [39] m m1 ∧ m1.1 39 0 0 = nI a ∧ m1.1 39 0 1 = nI b ∧ ∀ l, zcv 1 d (zwo (zwo T a) b) = some l → zLs m1 39 2 l) := by
  subst hT
  refine zz_loop 64 (fun f => ?_) (fun f d hd ih => ?_)
  · intro m h h0 h1 h2
    refine ⟨m, ?_, zE.rf _ _, h0, h1, fun l hl => (by rw [zcv_64 (Nat.le_refl _)] at hl; cases hl)⟩
    rw [zcv_64 (Nat.le_refl _), F_X11_fewest_L122]
    simp (disch := omega) only [↓zl_m1, zz_leT, zz_leF, zz_ltT, zz_ltF, zz_eqT, zz_eqF, zz_okN, zz_okF, nI_clamp, nI_add, pk_mul, pk_sub, zz_bS, zz_b2S, if_true, if_false, Bool.true_eq_false, Bool.false_eq_true, eq_self, ne_eq, not_true_eq_false, not_false_eq_true, false_or, or_false, true_or, or_true, and_true, true_and, and_false, false_and, mI_e, mI_e2, mI_le, mI_le2, mI_lt, mI_lt2, mI_ok, bI_0n, bI_1n, bI_orn, Nat.mul_zero, Nat.zero_add, Nat.add_zero, c_no2, c_no3, c_no4, c_no5, c_no6, r_no2, r_no3, r_no4, r_no5, r_no6, zk_inR, zk_in2, zk_in3, zk_wiN, Nat.reduceAdd, ngI_e, ngI_le, ngI_m, cs_cmpN, zl_0, zl_1, zl_2, zl_3, zl_4, zl_5, zl_6, zl_7, zl_8, zl_9, zl_10, zl_12, zl_13, zl_14, zl_15, zl_16, zl_20, zl_32, zl_40, zl_48, zl_57, zl_59, zl_60, zl_63, zl_64, zl_97, zl_99, zl_101, zl_119, zl_120, zl_122, zl_128, zl_136, zl_152, zl_168, zl_184, zl_200, zl_201, zl_202, zl_203, zl_250, zl_255, zl_320, zl_999, zl_1000, h2]
  · intro m h h0 h1 h2
    have ta := r_tellsAll (M := 3) (b := fun k => if k = 0 then a else if k = 1 then b else d) h (by omega) (fun k hk => by
      rcases (by omega : k = 0 ∨ k = 1 ∨ k = 2) with rfl | rfl | rfl
      · exact ⟨ha, h0⟩
      · exact ⟨hb, h1⟩
      · exact ⟨hd, h2⟩)
    rw [zwo_3] at ta
    rw [zcv_1s hd]
    cases e : zany (zwo (zwo (zwo (zTo t n) a) b) d) 64 with
    | false =>
      rw [e] at ta
      refine ⟨m, ?_, zE.rf _ _, h0, h1, fun l hl j hj => ?_⟩
      · rw [F_X11_fewest_L122, if_pos rfl]
        simp (disch := omega) only [↓zl_m1, zz_leT, zz_leF, zz_ltT, zz_ltF, zz_eqT, zz_eqF, zz_okN, zz_okF, nI_clamp, nI_add, pk_mul, pk_sub, zz_bS, zz_b2S, if_true, if_false, Bool.true_eq_false, Bool.false_eq_true, eq_self, ne_eq, not_true_eq_false, not_false_eq_true, false_or, or_false, true_or, or_true, and_true, true_and, and_false, false_and, mI_e, mI_e2, mI_le, mI_le2, mI_lt, mI_lt2, mI_ok, bI_0n, bI_1n, bI_orn, Nat.mul_zero, Nat.zero_add, Nat.add_zero, c_no2, c_no3, c_no4, c_no5, c_no6, r_no2, r_no3, r_no4, r_no5, r_no6, zk_inR, zk_in2, zk_in3, zk_wiN, Nat.reduceAdd, ngI_e, ngI_le, ngI_m, cs_cmpN, zl_0, zl_1, zl_2, zl_3, zl_4, zl_5, zl_6, zl_7, zl_8, zl_9, zl_10, zl_12, zl_13, zl_14, zl_15, zl_16, zl_20, zl_32, zl_40, zl_48, zl_57, zl_59, zl_60, zl_63, zl_64, zl_97, zl_99, zl_101, zl_119, zl_120, zl_122, zl_128, zl_136, zl_152, zl_168, zl_184, zl_200, zl_201, zl_202, zl_203, zl_250, zl_255, zl_320, zl_999, zl_1000, h2, ta, Bool.not_false]
      · rw [if_pos rfl] at hl
        cases hl
        have : j = 0 := by simp at hj; omega
        subst this
        exact h2
    | true =>
      rw [e] at ta
      have e1 : zE [39] m (ax_ui m 39 0 2 (nI (d + 1))) := (zE.rf _ _).ui (by decide)
      obtain ⟨m1, a1, a2, a3⟩ := ih (ax_ui m 39 0 2 (nI (d + 1))) (zTd_E h e1) (by rw [zu_j (by decide)]; exact h0) (by rw [zu_j (by decide)]; exact h1) zu_s
      rw [if_neg (by decide)]
      refine ⟨m1, ?_, e1.tr a2, a3⟩
      rw [F_X11_fewest_L122]
      simp (disch := omega) only [↓zl_m1, zz_leT, zz_leF, zz_ltT, zz_ltF, zz_eqT, zz_eqF, zz_okN, zz_okF, nI_clamp, nI_add, pk_mul, pk_sub, zz_bS, zz_b2S, if_true, if_false, Bool.true_eq_false, Bool.false_eq_true, eq_self, ne_eq, not_true_eq_false, not_false_eq_true, false_or, or_false, true_or, or_true, and_true, true_and, and_false, false_and, mI_e, mI_e2, mI_le, mI_le2, mI_lt, mI_lt2, mI_ok, bI_0n, bI_1n, bI_orn, Nat.mul_zero, Nat.zero_add, Nat.add_zero, c_no2, c_no3, c_no4, c_no5, c_no6, r_no2, r_no3, r_no4, r_no5, r_no6, zk_inR, zk_in2, zk_in3, zk_wiN, Nat.reduceAdd, ngI_e, ngI_le, ngI_m, cs_cmpN, zl_0, zl_1, zl_2, zl_3, zl_4, zl_5, zl_6, zl_7, zl_8, zl_9, zl_10, zl_12, zl_13, zl_14, zl_15, zl_16, zl_20, zl_32, zl_40, zl_48, zl_57, zl_59, zl_60, zl_63, zl_64, zl_97, zl_99, zl_101, zl_119, zl_120, zl_122, zl_128, zl_136, zl_152, zl_168, zl_184, zl_200, zl_201, zl_202, zl_203, zl_250, zl_255, zl_320, zl_999, zl_1000, h2, ta, Bool.not_true]
      exact a1
theorem r_few3m (T : Nat → Bool) (hT : T = zTo t n) {a : Nat} (ha : a < 64) (K : ax_M → Option (Int32 × ax_M)) : ∀ r b f, b + r = 64 → r < f → (∀ m, zTd m s n t → m.1 39 0 0 = nI a → m.1 39 0 1 = nI b → ∃ m1, F_X11_fewest_L106 f K m (nI s) (nI n) = (match zcv 2 b (zwo T a) with | some _ => some (nI 3, m1) | none => K m1) ∧ zE [39] m m1 ∧ m1.1 39 0 0 = nI a ∧ ∀ l, zcv 2 b (zwo T a) = some l → zLs m1 39 1 l) := by
  refine zz_loop 64 (fun f => ?_) (fun f b hb ih => ?_)
  · intro m h h0 h1
    refine ⟨m, ?_, zE.rf _ _, h0, fun l hl => (by rw [zcv_64 (Nat.le_refl _)] at hl; cases hl)⟩
    rw [zcv_64 (Nat.le_refl _), F_X11_fewest_L106]
    simp (disch := omega) only [↓zl_m1, zz_leT, zz_leF, zz_ltT, zz_ltF, zz_eqT, zz_eqF, zz_okN, zz_okF, nI_clamp, nI_add, pk_mul, pk_sub, zz_bS, zz_b2S, if_true, if_false, Bool.true_eq_false, Bool.false_eq_true, eq_self, ne_eq, not_true_eq_false, not_false_eq_true, false_or, or_false, true_or, or_true, and_true, true_and, and_false, false_and, mI_e, mI_e2, mI_le, mI_le2, mI_lt, mI_lt2, mI_ok, bI_0n, bI_1n, bI_orn, Nat.mul_zero, Nat.zero_add, Nat.add_zero, c_no2, c_no3, c_no4, c_no5, c_no6, r_no2, r_no3, r_no4, r_no5, r_no6, zk_inR, zk_in2, zk_in3, zk_wiN, Nat.reduceAdd, ngI_e, ngI_le, ngI_m, cs_cmpN, zl_0, zl_1, zl_2, zl_3, zl_4, zl_5, zl_6, zl_7, zl_8, zl_9, zl_10, zl_12, zl_13, zl_14, zl_15, zl_16, zl_20, zl_32, zl_40, zl_48, zl_57, zl_59, zl_60, zl_63, zl_64, zl_97, zl_99, zl_101, zl_119, zl_120, zl_122, zl_128, zl_136, zl_152, zl_168, zl_184, zl_200, zl_201, zl_202, zl_203, zl_250, zl_255, zl_320, zl_999, zl_1000, h1]
  · intro m h h0 h1
    have e1 : zE [39] m (ax_ui m 39 0 2 (nI (b + 1))) := (zE.rf _ _).ui (by decide)
    obtain ⟨m1, a1, a2, a3, a3b, a4⟩ := r_few3i T hT ha hb (fun m73 => if ax_ok (nI 1) 3 = true then (if ax_ok (nI 1) 3 = true then (F_X11_fewest_L106 f K (ax_ui m73 39 0 (nI 1).toNatClampNeg ((m73.1 39 0 (nI 1).toNatClampNeg) + nI 1)) (nI s) (nI n)) else none) else none) (64 - (b + 1)) (b + 1) ax_FU (by omega) (by unfold ax_FU; omega) (ax_ui m 39 0 2 (nI (b + 1))) (zTd_E h e1) (by rw [zu_j (by decide)]; exact h0) (by rw [zu_j (by decide)]; exact h1) zu_s
    have st : F_X11_fewest_L106 (f + 1) K m (nI s) (nI n) = F_X11_fewest_L122 ax_FU (fun m73 => if ax_ok (nI 1) 3 = true then (if ax_ok (nI 1) 3 = true then (F_X11_fewest_L106 f K (ax_ui m73 39 0 (nI 1).toNatClampNeg ((m73.1 39 0 (nI 1).toNatClampNeg) + nI 1)) (nI s) (nI n)) else none) else none) (ax_ui m 39 0 2 (nI (b + 1))) (nI s) (nI n) := by
      rw [F_X11_fewest_L106]
      simp only [zl_2, zl_1, nI_clamp (show 2 < 2 ^ 31 by decide), nI_clamp (show 1 < 2 ^ 31 by decide), zz_okN (show 2 < 3 by decide) (show 2 < 2 ^ 31 by decide), zz_okN (show 1 < 3 by decide) (show 1 < 2 ^ 31 by decide), h1, zl_64, zz_leF hb (by decide), if_true, if_false, nI_add]
    rw [st, a1, zcv_ss hb]
    have e2 : zE [39] m m1 := e1.tr a2
    cases e : zcv 1 (b + 1) (zwo (zwo T a) b) with
    | some l =>
      refine ⟨m1, rfl, e2, a3, fun l2 h5 j hj => ?_⟩
      cases h5
      cases j with
      | zero => exact a3b
      | succ j =>
        have := a4 l e j (by simp at hj; omega)
        rw [show 1 + (j + 1) = 2 + j by omega]
        exact this
    | none =>
      have e3 : zE [39] m (ax_ui m1 39 0 1 (nI (b + 1))) := e2.ui (by decide)
      obtain ⟨m2, i1, i2, i3⟩ := ih (ax_ui m1 39 0 1 (nI (b + 1))) (zTd_E h e3) (by rw [zu_j (by decide)]; exact a3) zu_s
      refine ⟨m2, ?_, e3.tr i2, i3⟩
      dsimp only
      rw [if_pos (by decide), if_pos (by decide), show (nI 1).toNatClampNeg = 1 by decide, a3b, nI_add]
      exact i1
theorem r_few3 (T : Nat → Bool) (hT : T = zTo t n) : ∀ r a f, a + r = 64 → r < f → (∀ m, zTd m s n t → m.1 39 0 0 = nI a → ∃ m1, F_X11_fewest_L90 f m (nI s) (nI n) = some ((match zcv 3 a T with | some _ => nI 3 | none => mI), m1) ∧ zE [39] m m1 ∧ ∀ l, zcv 3 a T = some l → zLs m1 39 0 l) := by
  refine zz_loop 64 (fun f => ?_) (fun f a ha ih => ?_)
  · intro m h h0
    refine ⟨m, ?_, zE.rf _ _, fun l hl => (by rw [zcv_64 (Nat.le_refl _)] at hl; cases hl)⟩
    rw [zcv_64 (Nat.le_refl _), F_X11_fewest_L90]
    simp (disch := omega) only [↓zl_m1, zz_leT, zz_leF, zz_ltT, zz_ltF, zz_eqT, zz_eqF, zz_okN, zz_okF, nI_clamp, nI_add, pk_mul, pk_sub, zz_bS, zz_b2S, if_true, if_false, Bool.true_eq_false, Bool.false_eq_true, eq_self, ne_eq, not_true_eq_false, not_false_eq_true, false_or, or_false, true_or, or_true, and_true, true_and, and_false, false_and, mI_e, mI_e2, mI_le, mI_le2, mI_lt, mI_lt2, mI_ok, bI_0n, bI_1n, bI_orn, Nat.mul_zero, Nat.zero_add, Nat.add_zero, c_no2, c_no3, c_no4, c_no5, c_no6, r_no2, r_no3, r_no4, r_no5, r_no6, zk_inR, zk_in2, zk_in3, zk_wiN, Nat.reduceAdd, ngI_e, ngI_le, ngI_m, cs_cmpN, zl_0, zl_1, zl_2, zl_3, zl_4, zl_5, zl_6, zl_7, zl_8, zl_9, zl_10, zl_12, zl_13, zl_14, zl_15, zl_16, zl_20, zl_32, zl_40, zl_48, zl_57, zl_59, zl_60, zl_63, zl_64, zl_97, zl_99, zl_101, zl_119, zl_120, zl_122, zl_128, zl_136, zl_152, zl_168, zl_184, zl_200, zl_201, zl_202, zl_203, zl_250, zl_255, zl_320, zl_999, zl_1000, h0]
  · intro m h h0
    have e1 : zE [39] m (ax_ui m 39 0 1 (nI (a + 1))) := (zE.rf _ _).ui (by decide)
    obtain ⟨m1, a1, a2, a3, a4⟩ := r_few3m T hT ha (fun m79 => if ax_ok (nI 0) 3 = true then (if ax_ok (nI 0) 3 = true then (F_X11_fewest_L90 f (ax_ui m79 39 0 (nI 0).toNatClampNeg ((m79.1 39 0 (nI 0).toNatClampNeg) + nI 1)) (nI s) (nI n)) else none) else none) (64 - (a + 1)) (a + 1) ax_FU (by omega) (by unfold ax_FU; omega) (ax_ui m 39 0 1 (nI (a + 1))) (zTd_E h e1) (by rw [zu_j (by decide)]; exact h0) zu_s
    have st : F_X11_fewest_L90 (f + 1) m (nI s) (nI n) = F_X11_fewest_L106 ax_FU (fun m79 => if ax_ok (nI 0) 3 = true then (if ax_ok (nI 0) 3 = true then (F_X11_fewest_L90 f (ax_ui m79 39 0 (nI 0).toNatClampNeg ((m79.1 39 0 (nI 0).toNatClampNeg) + nI 1)) (nI s) (nI n)) else none) else none) (ax_ui m 39 0 1 (nI (a + 1))) (nI s) (nI n) := by
      rw [F_X11_fewest_L90]
      simp only [zl_0, zl_1, nI_clamp (show 0 < 2 ^ 31 by decide), nI_clamp (show 1 < 2 ^ 31 by decide), zz_okN (show 0 < 3 by decide) (show 0 < 2 ^ 31 by decide), zz_okN (show 1 < 3 by decide) (show 1 < 2 ^ 31 by decide), h0, zl_64, zz_leF ha (by decide), if_true, if_false, nI_add]
    rw [st, a1, zcv_ss ha]
    have e2 : zE [39] m m1 := e1.tr a2
    cases e : zcv 2 (a + 1) (zwo T a) with
    | some l =>
      refine ⟨m1, rfl, e2, fun l2 h5 j hj => ?_⟩
      cases h5
      cases j with
      | zero => exact a3
      | succ j =>
        have := a4 l e j (by simp at hj; omega)
        rw [show 0 + (j + 1) = 1 + j by omega]
        exact this
    | none =>
      have e3 : zE [39] m (ax_ui m1 39 0 0 (nI (a + 1))) := e2.ui (by decide)
      obtain ⟨m2, i1, i2, i3⟩ := ih (ax_ui m1 39 0 0 (nI (a + 1))) (zTd_E h e3) zu_s
      refine ⟨m2, ?_, e3.tr i2, i3⟩
      dsimp only
      rw [if_pos (by decide), if_pos (by decide), show (nI 0).toNatClampNeg = 0 by decide, a3, nI_add]
      exact i1
/-- all -/
theorem r_fewest {m : ax_M} (h : zTd m s n t) : ∃ m1, F_X11_fewest m (nI s) (nI n) = some ((match zcT (zTo t n) with | some l => nI l.length | none => mI), m1) ∧ zE [39] m m1 ∧ ∀ l, zcT (zTo t n) = some l → zLs m1 39 0 l := by
  have hs := h.1
  have hn := h.2.1
  by_cases e0 : n = 0
  · subst e0
    have z : zcT (zTo t 0) = some [] := by
      unfold zcT
      have zf : zany (zTo t 0) 64 = false := zany_f.mpr (fun c _ => rfl)
      rw [zfs, zcv, if_pos zf]
    rw [z]
    refine ⟨m, ?_, zE.rf _ _, fun l hl j hj => ?_⟩
    · unfold F_X11_fewest; simp (disch := omega) only [↓zl_m1, zz_leT, zz_leF, zz_ltT, zz_ltF, zz_eqT, zz_eqF, zz_okN, zz_okF, nI_clamp, nI_add, pk_mul, pk_sub, zz_bS, zz_b2S, if_true, if_false, Bool.true_eq_false, Bool.false_eq_true, eq_self, ne_eq, not_true_eq_false, not_false_eq_true, false_or, or_false, true_or, or_true, and_true, true_and, and_false, false_and, mI_e, mI_e2, mI_le, mI_le2, mI_lt, mI_lt2, mI_ok, bI_0n, bI_1n, bI_orn, Nat.mul_zero, Nat.zero_add, Nat.add_zero, c_no2, c_no3, c_no4, c_no5, c_no6, r_no2, r_no3, r_no4, r_no5, r_no6, zk_inR, zk_in2, zk_in3, zk_wiN, Nat.reduceAdd, ngI_e, ngI_le, ngI_m, cs_cmpN, zl_0, zl_1, zl_2, zl_3, zl_4, zl_5, zl_6, zl_7, zl_8, zl_9, zl_10, zl_12, zl_13, zl_14, zl_15, zl_16, zl_20, zl_32, zl_40, zl_48, zl_57, zl_59, zl_60, zl_63, zl_64, zl_97, zl_99, zl_101, zl_119, zl_120, zl_122, zl_128, zl_136, zl_152, zl_168, zl_184, zl_200, zl_201, zl_202, zl_203, zl_250, zl_255, zl_320, zl_999, zl_1000]; rfl
    · cases hl; simp at hj
  · have z0 : zcv 0 0 (zTo t n) = none := by
      have zf : zany (zTo t n) 64 = true := zany_t.mpr ⟨t 0, (h.2.2 0 (by omega)).1, (show zTo t n (t 0) = true from zany_t.mpr ⟨0, by omega, decide_eq_true rfl⟩)⟩
      rw [zcv, if_neg (by rw [zf]; decide)]
    have ed : ∀ m1, zE [39] m m1 → zTd m1 s n t := fun m1 e => zTd_E h e
    have e1 : zE [39] m (ax_ui m 39 0 0 (nI 0)) := (zE.rf _ _).ui (by decide)
    obtain ⟨m1, a1, a2, a3⟩ := r_few1 (s := s) (zTo t n) rfl 64 0 ax_FU rfl (by decide) _ (ed _ e1) zu_s
    have e2 : zE [39] m m1 := e1.tr a2
    have st : F_X11_fewest m (nI s) (nI n) = F_X11_fewest_L9 ax_FU (ax_ui m 39 0 0 (nI 0)) (nI s) (nI n) := by
      unfold F_X11_fewest; simp (disch := omega) only [↓zl_m1, zz_leT, zz_leF, zz_ltT, zz_ltF, zz_eqT, zz_eqF, zz_okN, zz_okF, nI_clamp, nI_add, pk_mul, pk_sub, zz_bS, zz_b2S, if_true, if_false, Bool.true_eq_false, Bool.false_eq_true, eq_self, ne_eq, not_true_eq_false, not_false_eq_true, false_or, or_false, true_or, or_true, and_true, true_and, and_false, false_and, mI_e, mI_e2, mI_le, mI_le2, mI_lt, mI_lt2, mI_ok, bI_0n, bI_1n, bI_orn, Nat.mul_zero, Nat.zero_add, Nat.add_zero, c_no2, c_no3, c_no4, c_no5, c_no6, r_no2, r_no3, r_no4, r_no5, r_no6, zk_inR, zk_in2, zk_in3, zk_wiN, Nat.reduceAdd, ngI_e, ngI_le, ngI_m, cs_cmpN, zl_0, zl_1, zl_2, zl_3, zl_4, zl_5, zl_6, zl_7, zl_8, zl_9, zl_10, zl_12, zl_13, zl_14, zl_15, zl_16, zl_20, zl_32, zl_40, zl_48, zl_57, zl_59, zl_60, zl_63, zl_64, zl_97, zl_99, zl_101, zl_119, zl_120, zl_122, zl_128, zl_136, zl_152, zl_168, zl_184, zl_200, zl_201, zl_202, zl_203, zl_250, zl_255, zl_320, zl_999, zl_1000]
    rw [st, a1]
    cases q1 : zcv 1 0 (zTo t n) with
    | some l =>
      have z : zcT (zTo t n) = some l := by unfold zcT; rw [zfs, z0]; dsimp only; rw [zfs, q1]
      rw [z]
      refine ⟨m1, ?_, e2, fun l2 h5 => (by cases h5; exact a3 l q1)⟩
      dsimp only
      rw [zcv_len _ _ _ _ q1]
    | none =>
      have e3 : zE [39] m (ax_ui m1 39 0 0 (nI 0)) := e2.ui (by decide)
      obtain ⟨m2, b1, b2, b3⟩ := r_few2 (s := s) (zTo t n) rfl 64 0 ax_FU rfl (by decide) _ (ed _ e3) zu_s
      have e4 : zE [39] m m2 := e3.tr b2
      dsimp only
      rw [b1]
      cases q2 : zcv 2 0 (zTo t n) with
      | some l =>
        have z : zcT (zTo t n) = some l := by unfold zcT; rw [zfs, z0]; dsimp only; rw [zfs, q1]; dsimp only; rw [zfs, q2]
        rw [z]
        refine ⟨m2, ?_, e4, fun l2 h5 => (by cases h5; exact b3 l q2)⟩
        dsimp only
        rw [zcv_len _ _ _ _ q2]
      | none =>
        have e5 : zE [39] m (ax_ui m2 39 0 0 (nI 0)) := e4.ui (by decide)
        obtain ⟨m3, c1, c2, c3⟩ := r_few3 (s := s) (zTo t n) rfl 64 0 ax_FU rfl (by decide) _ (ed _ e5) zu_s
        dsimp only
        rw [c1]
        cases q3 : zcv 3 0 (zTo t n) with
        | some l =>
          have z : zcT (zTo t n) = some l := by unfold zcT; rw [zfs, z0]; dsimp only; rw [zfs, q1]; dsimp only; rw [zfs, q2]; dsimp only; rw [zfs, q3]
          rw [z]
          refine ⟨m3, ?_, e5.tr c2, fun l2 h5 => (by cases h5; exact c3 l q3)⟩
          dsimp only
          rw [zcv_len _ _ _ _ q3]
        | none =>
          have z : zcT (zTo t n) = none := by unfold zcT; rw [zfs, z0]; dsimp only; rw [zfs, q1]; dsimp only; rw [zfs, q2]; dsimp only; rw [zfs, q3]; rfl
          rw [z]
          exact ⟨m3, rfl, e5.tr c2, fun l2 h5 => (by cases h5)⟩
end
theorem c_areCells {m : ax_M} {s l n : Nat} (hR : zRow m s l) (hl : l ≤ 40) (hn : n ≤ l) : F_X7_areCells m s (nI n) = some (bI (!zany (fun i => (zcl m s i).isNone) n)) := by
  obtain ⟨t, ht, b1, b2, b3, b4, b5⟩ := hR
  have key : ∀ k i f, i + k = n → k < f → (zany (fun i => (zcl m s i).isNone) i = false → F_X7_areCells_L2 f m s (nI n) (nI i) = some (bI (!zany (fun i => (zcl m s i).isNone) n))) := by
    refine zz_loop n (fun f => ?_) (fun f i hi ih => ?_)
    · intro h0
      rw [F_X7_areCells_L2, if_pos (Int32.le_refl _), h0]; rfl
    · intro h0
      have hc := c_cellAt b3 hl (show i < l by omega)
      rw [F_X7_areCells_L2]
      cases e : zcel (m.2 9 s i) with
      | none =>
        rw [e] at hc
        have hc : F_X7_cellAt m s (nI i) = some mI := hc
        rw [zany_t.mpr ⟨i, hi, by show (zcel (m.2 9 s i)).isNone = true; rw [e]; rfl⟩]
        simp (disch := omega) only [↓zl_m1, zz_leT, zz_leF, zz_ltT, zz_ltF, zz_eqT, zz_eqF, zz_okN, zz_okF, nI_clamp, nI_add, pk_mul, pk_sub, zz_bS, zz_b2S, if_true, if_false, Bool.true_eq_false, Bool.false_eq_true, eq_self, ne_eq, not_true_eq_false, not_false_eq_true, false_or, or_false, true_or, or_true, and_true, true_and, and_false, false_and, mI_e, mI_e2, mI_le, mI_le2, mI_lt, mI_lt2, mI_ok, bI_0n, bI_1n, bI_orn, Nat.mul_zero, Nat.zero_add, Nat.add_zero, c_no2, c_no3, c_no4, c_no5, c_no6, r_no2, r_no3, r_no4, r_no5, r_no6, zk_inR, zk_in2, zk_in3, zk_wiN, Nat.reduceAdd, ngI_e, ngI_le, ngI_m, cs_cmpN, zl_0, zl_1, zl_2, zl_3, zl_4, zl_5, zl_6, zl_7, zl_8, zl_9, zl_10, zl_12, zl_13, zl_14, zl_15, zl_16, zl_20, zl_32, zl_40, zl_48, zl_57, zl_59, zl_60, zl_63, zl_64, zl_97, zl_99, zl_101, zl_119, zl_120, zl_122, zl_128, zl_136, zl_152, zl_168, zl_184, zl_200, zl_201, zl_202, zl_203, zl_250, zl_255, zl_320, zl_999, zl_1000, hc]
        rfl
      | some d =>
        rw [e] at hc
        have hc : F_X7_cellAt m s (nI i) = some (nI d) := hc
        have hd := zcel_lt e
        simp (disch := omega) only [↓zl_m1, zz_leT, zz_leF, zz_ltT, zz_ltF, zz_eqT, zz_eqF, zz_okN, zz_okF, nI_clamp, nI_add, pk_mul, pk_sub, zz_bS, zz_b2S, if_true, if_false, Bool.true_eq_false, Bool.false_eq_true, eq_self, ne_eq, not_true_eq_false, not_false_eq_true, false_or, or_false, true_or, or_true, and_true, true_and, and_false, false_and, mI_e, mI_e2, mI_le, mI_le2, mI_lt, mI_lt2, mI_ok, bI_0n, bI_1n, bI_orn, Nat.mul_zero, Nat.zero_add, Nat.add_zero, c_no2, c_no3, c_no4, c_no5, c_no6, r_no2, r_no3, r_no4, r_no5, r_no6, zk_inR, zk_in2, zk_in3, zk_wiN, Nat.reduceAdd, ngI_e, ngI_le, ngI_m, cs_cmpN, zl_0, zl_1, zl_2, zl_3, zl_4, zl_5, zl_6, zl_7, zl_8, zl_9, zl_10, zl_12, zl_13, zl_14, zl_15, zl_16, zl_20, zl_32, zl_40, zl_48, zl_57, zl_59, zl_60, zl_63, zl_64, zl_97, zl_99, zl_101, zl_119, zl_120, zl_122, zl_128, zl_136, zl_152, zl_168, zl_184, zl_200, zl_201, zl_202, zl_203, zl_250, zl_255, zl_320, zl_999, zl_1000, hc]
        exact ih (by rw [zany, h0]; show (false || (zcel (m.2 9 s i)).isNone) = false; rw [e]; rfl)
  exact key n 0 ax_FU (by omega) (by unfold ax_FU; omega) rfl
theorem c_cellBits {m : ax_M} {s l n : Nat} {t : Nat → Nat} (hR : zRow m s l) (hl : l ≤ 40) (hn : n ≤ l) (ht : ∀ i, i < n → zcl m s i = some (t i)) : F_X7_cellBits m s (nI n) = some (lb (zTo t n)) := by
  obtain ⟨_, _, b1, b2, b3, b4, b5⟩ := hR
  have key : ∀ k i f, i + k = n → k < f → F_X7_cellBits_L4 f m s (nI n) (lb (zTo t i)) (nI i) = some (lb (zTo t n)) := by
    refine zz_loop n (fun f => ?_) (fun f i hi ih => ?_)
    · rw [F_X7_cellBits_L4, if_pos (Int32.le_refl _)]
    · have hc := c_cellAt b3 hl (show i < l by omega)
      have e : zcel (m.2 9 s i) = some (t i) := ht i hi
      rw [e] at hc
      have hc : F_X7_cellAt m s (nI i) = some (nI (t i)) := hc
      have hd := zcel_lt e
      rw [F_X7_cellBits_L4]
      simp (disch := omega) only [↓zl_m1, zz_leT, zz_leF, zz_ltT, zz_ltF, zz_eqT, zz_eqF, zz_okN, zz_okF, nI_clamp, nI_add, pk_mul, pk_sub, zz_bS, zz_b2S, if_true, if_false, Bool.true_eq_false, Bool.false_eq_true, eq_self, ne_eq, not_true_eq_false, not_false_eq_true, false_or, or_false, true_or, or_true, and_true, true_and, and_false, false_and, mI_e, mI_e2, mI_le, mI_le2, mI_lt, mI_lt2, mI_ok, bI_0n, bI_1n, bI_orn, Nat.mul_zero, Nat.zero_add, Nat.add_zero, c_no2, c_no3, c_no4, c_no5, c_no6, r_no2, r_no3, r_no4, r_no5, r_no6, zk_inR, zk_in2, zk_in3, zk_wiN, Nat.reduceAdd, ngI_e, ngI_le, ngI_m, cs_cmpN, zl_0, zl_1, zl_2, zl_3, zl_4, zl_5, zl_6, zl_7, zl_8, zl_9, zl_10, zl_12, zl_13, zl_14, zl_15, zl_16, zl_20, zl_32, zl_40, zl_48, zl_57, zl_59, zl_60, zl_63, zl_64, zl_97, zl_99, zl_101, zl_119, zl_120, zl_122, zl_128, zl_136, zl_152, zl_168, zl_184, zl_200, zl_201, zl_202, zl_203, zl_250, zl_255, zl_320, zl_999, zl_1000, hc, cs_bit hd, lb_or]
      rw [lb_congr (f := fun c => zTo t i c || decide (c = t i)) (g := zTo t (i + 1)) (fun c _ => by
        show _ = (zTo t i c || decide (t i = c))
        rw [show decide (c = t i) = decide (t i = c) from decide_eq_decide.mpr ⟨fun z => z.symm, fun z => z.symm⟩])]
      exact ih
  unfold F_X7_cellBits
  rw [lb_z]
  exact key n 0 ax_FU (by omega) (by unfold ax_FU; omega)
theorem t_tells (v w u : Int32) : zT (fun m => F_X10_tells m v w u) (fun m => F_X11_tells m v w u) := zT_of (fun m G h => by
  obtain ⟨hV, hC, hL, -⟩ := id h
  rcases zk_cs v (n := 8) (by omega) with e | ⟨s, hs, rfl⟩
  · exact zT_no 0 (by omega) (-nI 2) h (by unfold F_X10_tells; simp (disch := omega) only [↓zl_m1, zz_leT, zz_leF, zz_ltT, zz_ltF, zz_eqT, zz_eqF, zz_okN, zz_okF, nI_clamp, nI_add, pk_mul, pk_sub, zz_bS, zz_b2S, if_true, if_false, Bool.true_eq_false, Bool.false_eq_true, eq_self, ne_eq, not_true_eq_false, not_false_eq_true, false_or, or_false, true_or, or_true, and_true, true_and, and_false, false_and, mI_e, mI_e2, mI_le, mI_le2, mI_lt, mI_lt2, mI_ok, bI_0n, bI_1n, bI_orn, Nat.mul_zero, Nat.zero_add, Nat.add_zero, c_no2, c_no3, c_no4, c_no5, c_no6, r_no2, r_no3, r_no4, r_no5, r_no6, zk_inR, zk_in2, zk_in3, zk_wiN, Nat.reduceAdd, ngI_e, ngI_le, ngI_m, cs_cmpN, zl_0, zl_1, zl_2, zl_3, zl_4, zl_5, zl_6, zl_7, zl_8, zl_9, zl_10, zl_12, zl_13, zl_14, zl_15, zl_16, zl_20, zl_32, zl_40, zl_48, zl_57, zl_59, zl_60, zl_63, zl_64, zl_97, zl_99, zl_101, zl_119, zl_120, zl_122, zl_128, zl_136, zl_152, zl_168, zl_184, zl_200, zl_201, zl_202, zl_203, zl_250, zl_255, zl_320, zl_999, zl_1000, c_isPerson hC hV, c_isSeed hC hV, cs_isCell, c_isShelf, c_isPair hC hV, c_isKind, e]) (fun m1 e1 hL1 => by unfold F_X11_tells; simp (disch := omega) only [↓zl_m1, zz_leT, zz_leF, zz_ltT, zz_ltF, zz_eqT, zz_eqF, zz_okN, zz_okF, nI_clamp, nI_add, pk_mul, pk_sub, zz_bS, zz_b2S, if_true, if_false, Bool.true_eq_false, Bool.false_eq_true, eq_self, ne_eq, not_true_eq_false, not_false_eq_true, false_or, or_false, true_or, or_true, and_true, true_and, and_false, false_and, mI_e, mI_e2, mI_le, mI_le2, mI_lt, mI_lt2, mI_ok, bI_0n, bI_1n, bI_orn, Nat.mul_zero, Nat.zero_add, Nat.add_zero, c_no2, c_no3, c_no4, c_no5, c_no6, r_no2, r_no3, r_no4, r_no5, r_no6, zk_inR, zk_in2, zk_in3, zk_wiN, Nat.reduceAdd, ngI_e, ngI_le, ngI_m, cs_cmpN, zl_0, zl_1, zl_2, zl_3, zl_4, zl_5, zl_6, zl_7, zl_8, zl_9, zl_10, zl_12, zl_13, zl_14, zl_15, zl_16, zl_20, zl_32, zl_40, zl_48, zl_57, zl_59, zl_60, zl_63, zl_64, zl_97, zl_99, zl_101, zl_119, zl_120, zl_122, zl_128, zl_136, zl_152, zl_168, zl_184, zl_200, zl_201, zl_202, zl_203, zl_250, zl_255, zl_320, zl_999, zl_1000, r_isOne hL1 hV, r_isSeed hL1 hV, cr_isCell, r_isShelf, r_areTwo hL1 hV, zk_wiN, e])
  rcases zk_cs w (n := 11) (by omega) with e | ⟨n, hn, rfl⟩
  · exact zT_no 0 (by omega) (-nI 2) h (by unfold F_X10_tells; simp (disch := omega) only [↓zl_m1, zz_leT, zz_leF, zz_ltT, zz_ltF, zz_eqT, zz_eqF, zz_okN, zz_okF, nI_clamp, nI_add, pk_mul, pk_sub, zz_bS, zz_b2S, if_true, if_false, Bool.true_eq_false, Bool.false_eq_true, eq_self, ne_eq, not_true_eq_false, not_false_eq_true, false_or, or_false, true_or, or_true, and_true, true_and, and_false, false_and, mI_e, mI_e2, mI_le, mI_le2, mI_lt, mI_lt2, mI_ok, bI_0n, bI_1n, bI_orn, Nat.mul_zero, Nat.zero_add, Nat.add_zero, c_no2, c_no3, c_no4, c_no5, c_no6, r_no2, r_no3, r_no4, r_no5, r_no6, zk_inR, zk_in2, zk_in3, zk_wiN, Nat.reduceAdd, ngI_e, ngI_le, ngI_m, cs_cmpN, zl_0, zl_1, zl_2, zl_3, zl_4, zl_5, zl_6, zl_7, zl_8, zl_9, zl_10, zl_12, zl_13, zl_14, zl_15, zl_16, zl_20, zl_32, zl_40, zl_48, zl_57, zl_59, zl_60, zl_63, zl_64, zl_97, zl_99, zl_101, zl_119, zl_120, zl_122, zl_128, zl_136, zl_152, zl_168, zl_184, zl_200, zl_201, zl_202, zl_203, zl_250, zl_255, zl_320, zl_999, zl_1000, c_isPerson hC hV, c_isSeed hC hV, cs_isCell, c_isShelf, c_isPair hC hV, c_isKind, e]) (fun m1 e1 hL1 => by unfold F_X11_tells; simp (disch := omega) only [↓zl_m1, zz_leT, zz_leF, zz_ltT, zz_ltF, zz_eqT, zz_eqF, zz_okN, zz_okF, nI_clamp, nI_add, pk_mul, pk_sub, zz_bS, zz_b2S, if_true, if_false, Bool.true_eq_false, Bool.false_eq_true, eq_self, ne_eq, not_true_eq_false, not_false_eq_true, false_or, or_false, true_or, or_true, and_true, true_and, and_false, false_and, mI_e, mI_e2, mI_le, mI_le2, mI_lt, mI_lt2, mI_ok, bI_0n, bI_1n, bI_orn, Nat.mul_zero, Nat.zero_add, Nat.add_zero, c_no2, c_no3, c_no4, c_no5, c_no6, r_no2, r_no3, r_no4, r_no5, r_no6, zk_inR, zk_in2, zk_in3, zk_wiN, Nat.reduceAdd, ngI_e, ngI_le, ngI_m, cs_cmpN, zl_0, zl_1, zl_2, zl_3, zl_4, zl_5, zl_6, zl_7, zl_8, zl_9, zl_10, zl_12, zl_13, zl_14, zl_15, zl_16, zl_20, zl_32, zl_40, zl_48, zl_57, zl_59, zl_60, zl_63, zl_64, zl_97, zl_99, zl_101, zl_119, zl_120, zl_122, zl_128, zl_136, zl_152, zl_168, zl_184, zl_200, zl_201, zl_202, zl_203, zl_250, zl_255, zl_320, zl_999, zl_1000, r_isOne hL1 hV, r_isSeed hL1 hV, cr_isCell, r_isShelf, r_areTwo hL1 hV, zk_wiN, e])
  rcases zk_i u with e | hu
  · exact zT_no 0 (by omega) (-nI 2) h (by unfold F_X10_tells; simp (disch := omega) only [↓zl_m1, zz_leT, zz_leF, zz_ltT, zz_ltF, zz_eqT, zz_eqF, zz_okN, zz_okF, nI_clamp, nI_add, pk_mul, pk_sub, zz_bS, zz_b2S, if_true, if_false, Bool.true_eq_false, Bool.false_eq_true, eq_self, ne_eq, not_true_eq_false, not_false_eq_true, false_or, or_false, true_or, or_true, and_true, true_and, and_false, false_and, mI_e, mI_e2, mI_le, mI_le2, mI_lt, mI_lt2, mI_ok, bI_0n, bI_1n, bI_orn, Nat.mul_zero, Nat.zero_add, Nat.add_zero, c_no2, c_no3, c_no4, c_no5, c_no6, r_no2, r_no3, r_no4, r_no5, r_no6, zk_inR, zk_in2, zk_in3, zk_wiN, Nat.reduceAdd, ngI_e, ngI_le, ngI_m, cs_cmpN, zl_0, zl_1, zl_2, zl_3, zl_4, zl_5, zl_6, zl_7, zl_8, zl_9, zl_10, zl_12, zl_13, zl_14, zl_15, zl_16, zl_20, zl_32, zl_40, zl_48, zl_57, zl_59, zl_60, zl_63, zl_64, zl_97, zl_99, zl_101, zl_119, zl_120, zl_122, zl_128, zl_136, zl_152, zl_168, zl_184, zl_200, zl_201, zl_202, zl_203, zl_250, zl_255, zl_320, zl_999, zl_1000, c_isPerson hC hV, c_isSeed hC hV, cs_isCell, c_isShelf, c_isPair hC hV, c_isKind, e]) (fun m1 e1 hL1 => by unfold F_X11_tells; simp (disch := omega) only [↓zl_m1, zz_leT, zz_leF, zz_ltT, zz_ltF, zz_eqT, zz_eqF, zz_okN, zz_okF, nI_clamp, nI_add, pk_mul, pk_sub, zz_bS, zz_b2S, if_true, if_false, Bool.true_eq_false, Bool.false_eq_true, eq_self, ne_eq, not_true_eq_false, not_false_eq_true, false_or, or_false, true_or, or_true, and_true, true_and, and_false, false_and, mI_e, mI_e2, mI_le, mI_le2, mI_lt, mI_lt2, mI_ok, bI_0n, bI_1n, bI_orn, Nat.mul_zero, Nat.zero_add, Nat.add_zero, c_no2, c_no3, c_no4, c_no5, c_no6, r_no2, r_no3, r_no4, r_no5, r_no6, zk_inR, zk_in2, zk_in3, zk_wiN, Nat.reduceAdd, ngI_e, ngI_le, ngI_m, cs_cmpN, zl_0, zl_1, zl_2, zl_3, zl_4, zl_5, zl_6, zl_7, zl_8, zl_9, zl_10, zl_12, zl_13, zl_14, zl_15, zl_16, zl_20, zl_32, zl_40, zl_48, zl_57, zl_59, zl_60, zl_63, zl_64, zl_97, zl_99, zl_101, zl_119, zl_120, zl_122, zl_128, zl_136, zl_152, zl_168, zl_184, zl_200, zl_201, zl_202, zl_203, zl_250, zl_255, zl_320, zl_999, zl_1000, r_isOne hL1 hV, r_isSeed hL1 hV, cr_isCell, r_isShelf, r_areTwo hL1 hV, zk_wiN, e])
  have hu1 : (mI ≤ u) = True := by
    rcases hu with rfl | ⟨k, hk, rfl⟩
    · exact eq_true (Int32.le_refl _)
    · exact mI_le hk
  rcases wk_row h hs (show n ≤ 40 by omega) with ⟨j, hj, c1, r1⟩ | ⟨l, hl, hl2, hR, c1, r1⟩
  · exact zT_no j (by omega) (-nI (j + 2)) h (by unfold F_X10_tells; simp (disch := omega) only [↓zl_m1, zz_leT, zz_leF, zz_ltT, zz_ltF, zz_eqT, zz_eqF, zz_okN, zz_okF, nI_clamp, nI_add, pk_mul, pk_sub, zz_bS, zz_b2S, if_true, if_false, Bool.true_eq_false, Bool.false_eq_true, eq_self, ne_eq, not_true_eq_false, not_false_eq_true, false_or, or_false, true_or, or_true, and_true, true_and, and_false, false_and, mI_e, mI_e2, mI_le, mI_le2, mI_lt, mI_lt2, mI_ok, bI_0n, bI_1n, bI_orn, Nat.mul_zero, Nat.zero_add, Nat.add_zero, c_no2, c_no3, c_no4, c_no5, c_no6, r_no2, r_no3, r_no4, r_no5, r_no6, zk_inR, zk_in2, zk_in3, zk_wiN, Nat.reduceAdd, ngI_e, ngI_le, ngI_m, cs_cmpN, zl_0, zl_1, zl_2, zl_3, zl_4, zl_5, zl_6, zl_7, zl_8, zl_9, zl_10, zl_12, zl_13, zl_14, zl_15, zl_16, zl_20, zl_32, zl_40, zl_48, zl_57, zl_59, zl_60, zl_63, zl_64, zl_97, zl_99, zl_101, zl_119, zl_120, zl_122, zl_128, zl_136, zl_152, zl_168, zl_184, zl_200, zl_201, zl_202, zl_203, zl_250, zl_255, zl_320, zl_999, zl_1000, c_isShelf, hu1, c1, c_noJ (show j < 5 by omega)]) (fun m1 e1 hL1 => by unfold F_X11_tells; simp (disch := omega) only [↓zl_m1, zz_leT, zz_leF, zz_ltT, zz_ltF, zz_eqT, zz_eqF, zz_okN, zz_okF, nI_clamp, nI_add, pk_mul, pk_sub, zz_bS, zz_b2S, if_true, if_false, Bool.true_eq_false, Bool.false_eq_true, eq_self, ne_eq, not_true_eq_false, not_false_eq_true, false_or, or_false, true_or, or_true, and_true, true_and, and_false, false_and, mI_e, mI_e2, mI_le, mI_le2, mI_lt, mI_lt2, mI_ok, bI_0n, bI_1n, bI_orn, Nat.mul_zero, Nat.zero_add, Nat.add_zero, c_no2, c_no3, c_no4, c_no5, c_no6, r_no2, r_no3, r_no4, r_no5, r_no6, zk_inR, zk_in2, zk_in3, zk_wiN, Nat.reduceAdd, ngI_e, ngI_le, ngI_m, cs_cmpN, zl_0, zl_1, zl_2, zl_3, zl_4, zl_5, zl_6, zl_7, zl_8, zl_9, zl_10, zl_12, zl_13, zl_14, zl_15, zl_16, zl_20, zl_32, zl_40, zl_48, zl_57, zl_59, zl_60, zl_63, zl_64, zl_97, zl_99, zl_101, zl_119, zl_120, zl_122, zl_128, zl_136, zl_152, zl_168, zl_184, zl_200, zl_201, zl_202, zl_203, zl_250, zl_255, zl_320, zl_999, zl_1000, r_isShelf, hu1, r1 m1 e1, r_noJ (show j < 5 by omega)])
  -- the reference's check of the told cells
  have rr : ∀ m1, zE [19, 20] m m1 → F_X11_noRow_ m1 (nI s) (nI n) = some (nI 0) ∧ ∀ i, i < n → ∃ x, F_X11_toldAt m1 (nI s) (nI i) = some x ∧ (∀ c, zcl m s i = some c → x = nI c) ∧ (zcl m s i = none → ax_ok x 64 = false) := fun m1 e1 => by
    obtain ⟨t, ht, b1, b2, b3, b4, b5⟩ := id hR
    constructor
    · have q1 : m1.1 31 0 s = nI t := (e1.i (show 31 ∉ [19, 20] by decide) 0 s).trans b2
      have q2 : m1.1 32 0 s = nI l := (e1.i (show 32 ∉ [19, 20] by decide) 0 s).trans b4
      unfold F_X11_noRow_ F_X11_isRow F_X11_noRow; simp (disch := omega) only [↓zl_m1, zz_leT, zz_leF, zz_ltT, zz_ltF, zz_eqT, zz_eqF, zz_okN, zz_okF, nI_clamp, nI_add, pk_mul, pk_sub, zz_bS, zz_b2S, if_true, if_false, Bool.true_eq_false, Bool.false_eq_true, eq_self, ne_eq, not_true_eq_false, not_false_eq_true, false_or, or_false, true_or, or_true, and_true, true_and, and_false, false_and, mI_e, mI_e2, mI_le, mI_le2, mI_lt, mI_lt2, mI_ok, bI_0n, bI_1n, bI_orn, Nat.mul_zero, Nat.zero_add, Nat.add_zero, c_no2, c_no3, c_no4, c_no5, c_no6, r_no2, r_no3, r_no4, r_no5, r_no6, zk_inR, zk_in2, zk_in3, zk_wiN, Nat.reduceAdd, ngI_e, ngI_le, ngI_m, cs_cmpN, zl_0, zl_1, zl_2, zl_3, zl_4, zl_5, zl_6, zl_7, zl_8, zl_9, zl_10, zl_12, zl_13, zl_14, zl_15, zl_16, zl_20, zl_32, zl_40, zl_48, zl_57, zl_59, zl_60, zl_63, zl_64, zl_97, zl_99, zl_101, zl_119, zl_120, zl_122, zl_128, zl_136, zl_152, zl_168, zl_184, zl_200, zl_201, zl_202, zl_203, zl_250, zl_255, zl_320, zl_999, zl_1000, q1, q2]
    · intro i hi
      exact r_toldAt hs (show i < 40 by omega) ((e1.l (show 33 ∉ [19, 20] by decide) 0 (40 * s + i)).trans (b5 i (by omega)).symm)
  cases e : zany (fun i => (zcl m s i).isNone) n with
  | true =>
    have ca := c_areCells hR hl2 hl
    rw [e] at ca
    exact zT_no 3 (by omega) (-nI 5) h (by unfold F_X10_tells; simp (disch := omega) only [↓zl_m1, zz_leT, zz_leF, zz_ltT, zz_ltF, zz_eqT, zz_eqF, zz_okN, zz_okF, nI_clamp, nI_add, pk_mul, pk_sub, zz_bS, zz_b2S, if_true, if_false, Bool.true_eq_false, Bool.false_eq_true, eq_self, ne_eq, not_true_eq_false, not_false_eq_true, false_or, or_false, true_or, or_true, and_true, true_and, and_false, false_and, mI_e, mI_e2, mI_le, mI_le2, mI_lt, mI_lt2, mI_ok, bI_0n, bI_1n, bI_orn, Nat.mul_zero, Nat.zero_add, Nat.add_zero, c_no2, c_no3, c_no4, c_no5, c_no6, r_no2, r_no3, r_no4, r_no5, r_no6, zk_inR, zk_in2, zk_in3, zk_wiN, Nat.reduceAdd, ngI_e, ngI_le, ngI_m, cs_cmpN, zl_0, zl_1, zl_2, zl_3, zl_4, zl_5, zl_6, zl_7, zl_8, zl_9, zl_10, zl_12, zl_13, zl_14, zl_15, zl_16, zl_20, zl_32, zl_40, zl_48, zl_57, zl_59, zl_60, zl_63, zl_64, zl_97, zl_99, zl_101, zl_119, zl_120, zl_122, zl_128, zl_136, zl_152, zl_168, zl_184, zl_200, zl_201, zl_202, zl_203, zl_250, zl_255, zl_320, zl_999, zl_1000, c_isShelf, hu1, c1, ca, Bool.not_true]) (fun m1 e1 hL1 => by
      obtain ⟨q1, q2⟩ := rr m1 (e1.mo (by decide))
      have key : ∀ k i f, i + k = n → k < f → (zany (fun i => (zcl m s i).isNone) i = false → F_X11_tells_L28 f m1 (nI s) (nI n) u (nI i) = some (-nI 5, zrn m1 (3 + 2))) := by
        refine zz_loop n (fun f => ?_) (fun f i hi ih => ?_)
        · intro h0; rw [e] at h0; cases h0
        · intro h0
          obtain ⟨x, x1, x2, x3⟩ := q2 i hi
          rw [F_X11_tells_L28]
          cases e2 : zcl m s i with
          | none => simp (disch := omega) only [↓zl_m1, zz_leT, zz_leF, zz_ltT, zz_ltF, zz_eqT, zz_eqF, zz_okN, zz_okF, nI_clamp, nI_add, pk_mul, pk_sub, zz_bS, zz_b2S, if_true, if_false, Bool.true_eq_false, Bool.false_eq_true, eq_self, ne_eq, not_true_eq_false, not_false_eq_true, false_or, or_false, true_or, or_true, and_true, true_and, and_false, false_and, mI_e, mI_e2, mI_le, mI_le2, mI_lt, mI_lt2, mI_ok, bI_0n, bI_1n, bI_orn, Nat.mul_zero, Nat.zero_add, Nat.add_zero, c_no2, c_no3, c_no4, c_no5, c_no6, r_no2, r_no3, r_no4, r_no5, r_no6, zk_inR, zk_in2, zk_in3, zk_wiN, Nat.reduceAdd, ngI_e, ngI_le, ngI_m, cs_cmpN, zl_0, zl_1, zl_2, zl_3, zl_4, zl_5, zl_6, zl_7, zl_8, zl_9, zl_10, zl_12, zl_13, zl_14, zl_15, zl_16, zl_20, zl_32, zl_40, zl_48, zl_57, zl_59, zl_60, zl_63, zl_64, zl_97, zl_99, zl_101, zl_119, zl_120, zl_122, zl_128, zl_136, zl_152, zl_168, zl_184, zl_200, zl_201, zl_202, zl_203, zl_250, zl_255, zl_320, zl_999, zl_1000, x1, cr_isCell, x3 e2]
          | some d =>
            have hx := x2 d e2
            subst hx
            have hd := zcel_lt (show zcel (m.2 9 s i) = some d from e2)
            simp (disch := omega) only [↓zl_m1, zz_leT, zz_leF, zz_ltT, zz_ltF, zz_eqT, zz_eqF, zz_okN, zz_okF, nI_clamp, nI_add, pk_mul, pk_sub, zz_bS, zz_b2S, if_true, if_false, Bool.true_eq_false, Bool.false_eq_true, eq_self, ne_eq, not_true_eq_false, not_false_eq_true, false_or, or_false, true_or, or_true, and_true, true_and, and_false, false_and, mI_e, mI_e2, mI_le, mI_le2, mI_lt, mI_lt2, mI_ok, bI_0n, bI_1n, bI_orn, Nat.mul_zero, Nat.zero_add, Nat.add_zero, c_no2, c_no3, c_no4, c_no5, c_no6, r_no2, r_no3, r_no4, r_no5, r_no6, zk_inR, zk_in2, zk_in3, zk_wiN, Nat.reduceAdd, ngI_e, ngI_le, ngI_m, cs_cmpN, zl_0, zl_1, zl_2, zl_3, zl_4, zl_5, zl_6, zl_7, zl_8, zl_9, zl_10, zl_12, zl_13, zl_14, zl_15, zl_16, zl_20, zl_32, zl_40, zl_48, zl_57, zl_59, zl_60, zl_63, zl_64, zl_97, zl_99, zl_101, zl_119, zl_120, zl_122, zl_128, zl_136, zl_152, zl_168, zl_184, zl_200, zl_201, zl_202, zl_203, zl_250, zl_255, zl_320, zl_999, zl_1000, x1, cr_isCell]
            exact ih (by rw [zany, h0, e2]; rfl)
      unfold F_X11_tells
      simp (disch := omega) only [↓zl_m1, zz_leT, zz_leF, zz_ltT, zz_ltF, zz_eqT, zz_eqF, zz_okN, zz_okF, nI_clamp, nI_add, pk_mul, pk_sub, zz_bS, zz_b2S, if_true, if_false, Bool.true_eq_false, Bool.false_eq_true, eq_self, ne_eq, not_true_eq_false, not_false_eq_true, false_or, or_false, true_or, or_true, and_true, true_and, and_false, false_and, mI_e, mI_e2, mI_le, mI_le2, mI_lt, mI_lt2, mI_ok, bI_0n, bI_1n, bI_orn, Nat.mul_zero, Nat.zero_add, Nat.add_zero, c_no2, c_no3, c_no4, c_no5, c_no6, r_no2, r_no3, r_no4, r_no5, r_no6, zk_inR, zk_in2, zk_in3, zk_wiN, Nat.reduceAdd, ngI_e, ngI_le, ngI_m, cs_cmpN, zl_0, zl_1, zl_2, zl_3, zl_4, zl_5, zl_6, zl_7, zl_8, zl_9, zl_10, zl_12, zl_13, zl_14, zl_15, zl_16, zl_20, zl_32, zl_40, zl_48, zl_57, zl_59, zl_60, zl_63, zl_64, zl_97, zl_99, zl_101, zl_119, zl_120, zl_122, zl_128, zl_136, zl_152, zl_168, zl_184, zl_200, zl_201, zl_202, zl_203, zl_250, zl_255, zl_320, zl_999, zl_1000, r_isShelf, hu1, q1]
      exact key n 0 ax_FU (by omega) (by unfold ax_FU; omega) rfl)
  | false =>
    have ca := c_areCells hR hl2 hl
    rw [e] at ca
    obtain ⟨t, ht⟩ : ∃ t : Nat → Nat, ∀ i, t i = (zcl m s i).getD 0 := ⟨_, fun _ => rfl⟩
    have hts : ∀ i, i < n → zcl m s i = some (t i) := fun i hi => by
      have h1 := zany_f.mp e i hi
      have h1 : (zcl m s i).isNone = false := h1
      rw [ht]
      cases e2 : zcl m s i with
      | none => rw [e2] at h1; cases h1
      | some d => rfl
    have cb := c_cellBits hR hl2 hl hts
    obtain ⟨m1, a1, a2, a3⟩ := c_coverF (m := m) (zTo t n)
    have gen : ∀ m2, zE [19, 20] m m2 → ∃ m3, F_X11_tells m2 (nI s) (nI n) u = (match zcT (zTo t n) with | some l => (if u = mI then some (nI l.length, m3) else if nI l.length ≤ u then some (-nI 5, zrn m3 5) else if ax_ok u 3 = true then some (m3.1 39 0 u.toNatClampNeg, m3) else none) | none => some (mI, m3)) ∧ zE [39] m2 m3 ∧ ∀ l, zcT (zTo t n) = some l → zLs m3 39 0 l := fun m2 e2 => by
      obtain ⟨q1, q2⟩ := rr m2 e2
      have td : zTd m2 s n t := ⟨hs, by omega, fun i hi => by
        obtain ⟨x, x1, x2, x3⟩ := q2 i hi
        have hx := x2 _ (hts i hi)
        subst hx
        exact ⟨zcel_lt (show zcel (m.2 9 s i) = some (t i) from hts i hi), x1⟩⟩
      obtain ⟨m3, f1, f2, f3⟩ := r_fewest td
      refine ⟨m3, ?_, f2, f3⟩
      have key : ∀ k i f, i + k = n → k < f → F_X11_tells_L28 f m2 (nI s) (nI n) u (nI i) = (match zcT (zTo t n) with | some l => (if u = mI then some (nI l.length, m3) else if nI l.length ≤ u then some (-nI 5, zrn m3 5) else if ax_ok u 3 = true then some (m3.1 39 0 u.toNatClampNeg, m3) else none) | none => some (mI, m3)) := by
        refine zz_loop n (fun f => ?_) (fun f i hi ih => ?_)
        · rw [F_X11_tells_L28, if_pos (Int32.le_refl _), f1]
          cases e4 : zcT (zTo t n) with
          | none =>
            rw [zz_b2S, if_pos (show mI = -1 from rfl)]
          | some l =>
            have hlen : l.length ≤ 3 := (a3 l e4).2
            simp (disch := omega) only [↓zl_m1, zz_leT, zz_leF, zz_ltT, zz_ltF, zz_eqT, zz_eqF, zz_okN, zz_okF, nI_clamp, nI_add, pk_mul, pk_sub, zz_bS, zz_b2S, if_true, if_false, Bool.true_eq_false, Bool.false_eq_true, eq_self, ne_eq, not_true_eq_false, not_false_eq_true, false_or, or_false, true_or, or_true, and_true, true_and, and_false, false_and, mI_e, mI_e2, mI_le, mI_le2, mI_lt, mI_lt2, mI_ok, bI_0n, bI_1n, bI_orn, Nat.mul_zero, Nat.zero_add, Nat.add_zero, c_no2, c_no3, c_no4, c_no5, c_no6, r_no2, r_no3, r_no4, r_no5, r_no6, zk_inR, zk_in2, zk_in3, zk_wiN, Nat.reduceAdd, ngI_e, ngI_le, ngI_m, cs_cmpN, zl_0, zl_1, zl_2, zl_3, zl_4, zl_5, zl_6, zl_7, zl_8, zl_9, zl_10, zl_12, zl_13, zl_14, zl_15, zl_16, zl_20, zl_32, zl_40, zl_48, zl_57, zl_59, zl_60, zl_63, zl_64, zl_97, zl_99, zl_101, zl_119, zl_120, zl_122, zl_128, zl_136, zl_152, zl_168, zl_184, zl_200, zl_201, zl_202, zl_203, zl_250, zl_255, zl_320, zl_999, zl_1000]
        · obtain ⟨x, x1, x2, x3⟩ := q2 i hi
          have hx := x2 _ (hts i hi)
          subst hx
          have hd := zcel_lt (show zcel (m.2 9 s i) = some (t i) from hts i hi)
          rw [F_X11_tells_L28]
          simp (disch := omega) only [↓zl_m1, zz_leT, zz_leF, zz_ltT, zz_ltF, zz_eqT, zz_eqF, zz_okN, zz_okF, nI_clamp, nI_add, pk_mul, pk_sub, zz_bS, zz_b2S, if_true, if_false, Bool.true_eq_false, Bool.false_eq_true, eq_self, ne_eq, not_true_eq_false, not_false_eq_true, false_or, or_false, true_or, or_true, and_true, true_and, and_false, false_and, mI_e, mI_e2, mI_le, mI_le2, mI_lt, mI_lt2, mI_ok, bI_0n, bI_1n, bI_orn, Nat.mul_zero, Nat.zero_add, Nat.add_zero, c_no2, c_no3, c_no4, c_no5, c_no6, r_no2, r_no3, r_no4, r_no5, r_no6, zk_inR, zk_in2, zk_in3, zk_wiN, Nat.reduceAdd, ngI_e, ngI_le, ngI_m, cs_cmpN, zl_0, zl_1, zl_2, zl_3, zl_4, zl_5, zl_6, zl_7, zl_8, zl_9, zl_10, zl_12, zl_13, zl_14, zl_15, zl_16, zl_20, zl_32, zl_40, zl_48, zl_57, zl_59, zl_60, zl_63, zl_64, zl_97, zl_99, zl_101, zl_119, zl_120, zl_122, zl_128, zl_136, zl_152, zl_168, zl_184, zl_200, zl_201, zl_202, zl_203, zl_250, zl_255, zl_320, zl_999, zl_1000, x1, cr_isCell]
          exact ih
      unfold F_X11_tells
      simp (disch := omega) only [↓zl_m1, zz_leT, zz_leF, zz_ltT, zz_ltF, zz_eqT, zz_eqF, zz_okN, zz_okF, nI_clamp, nI_add, pk_mul, pk_sub, zz_bS, zz_b2S, if_true, if_false, Bool.true_eq_false, Bool.false_eq_true, eq_self, ne_eq, not_true_eq_false, not_false_eq_true, false_or, or_false, true_or, or_true, and_true, true_and, and_false, false_and, mI_e, mI_e2, mI_le, mI_le2, mI_lt, mI_lt2, mI_ok, bI_0n, bI_1n, bI_orn, Nat.mul_zero, Nat.zero_add, Nat.add_zero, c_no2, c_no3, c_no4, c_no5, c_no6, r_no2, r_no3, r_no4, r_no5, r_no6, zk_inR, zk_in2, zk_in3, zk_wiN, Nat.reduceAdd, ngI_e, ngI_le, ngI_m, cs_cmpN, zl_0, zl_1, zl_2, zl_3, zl_4, zl_5, zl_6, zl_7, zl_8, zl_9, zl_10, zl_12, zl_13, zl_14, zl_15, zl_16, zl_20, zl_32, zl_40, zl_48, zl_57, zl_59, zl_60, zl_63, zl_64, zl_97, zl_99, zl_101, zl_119, zl_120, zl_122, zl_128, zl_136, zl_152, zl_168, zl_184, zl_200, zl_201, zl_202, zl_203, zl_250, zl_255, zl_320, zl_999, zl_1000, r_isShelf, hu1, q1]
      exact key n 0 ax_FU (by omega) (by unfold ax_FU; omega)
    cases ez : zcT (zTo t n) with
    | none =>
      rw [ez] at a1
      have a1 : F_X1_find m (lb (zTo t n)) = some (mI, m1) := a1
      obtain ⟨m2, b1, b2, b3⟩ := gen m1 (a2.mo (by decide))
      rw [ez] at b1
      have b1 : F_X11_tells m1 (nI s) (nI n) u = some (mI, m2) := b1
      refine ⟨mI, m1, m2, ?_, b1, G, h.E ((a2.mo (l2 := [19, 39]) (by decide)).tr (b2.mo (by decide))) (by decide)⟩
      unfold F_X10_tells; simp (disch := omega) only [↓zl_m1, zz_leT, zz_leF, zz_ltT, zz_ltF, zz_eqT, zz_eqF, zz_okN, zz_okF, nI_clamp, nI_add, pk_mul, pk_sub, zz_bS, zz_b2S, if_true, if_false, Bool.true_eq_false, Bool.false_eq_true, eq_self, ne_eq, not_true_eq_false, not_false_eq_true, false_or, or_false, true_or, or_true, and_true, true_and, and_false, false_and, mI_e, mI_e2, mI_le, mI_le2, mI_lt, mI_lt2, mI_ok, bI_0n, bI_1n, bI_orn, Nat.mul_zero, Nat.zero_add, Nat.add_zero, c_no2, c_no3, c_no4, c_no5, c_no6, r_no2, r_no3, r_no4, r_no5, r_no6, zk_inR, zk_in2, zk_in3, zk_wiN, Nat.reduceAdd, ngI_e, ngI_le, ngI_m, cs_cmpN, zl_0, zl_1, zl_2, zl_3, zl_4, zl_5, zl_6, zl_7, zl_8, zl_9, zl_10, zl_12, zl_13, zl_14, zl_15, zl_16, zl_20, zl_32, zl_40, zl_48, zl_57, zl_59, zl_60, zl_63, zl_64, zl_97, zl_99, zl_101, zl_119, zl_120, zl_122, zl_128, zl_136, zl_152, zl_168, zl_184, zl_200, zl_201, zl_202, zl_203, zl_250, zl_255, zl_320, zl_999, zl_1000, c_isShelf, hu1, c1, ca, Bool.not_false, cb, a1]
    | some L =>
      obtain ⟨a4, hlen⟩ := a3 L ez
      rw [ez] at a1
      have a1 : F_X1_find m (lb (zTo t n)) = some (nI L.length, m1) := a1
      rcases hu with rfl | ⟨k, hk, rfl⟩
      · obtain ⟨m2, b1, b2, b3⟩ := gen m1 (a2.mo (by decide))
        rw [ez] at b1
        have b1 : F_X11_tells m1 (nI s) (nI n) mI = some (nI L.length, m2) := b1.trans (if_pos rfl)
        refine ⟨nI L.length, m1, m2, ?_, b1, G, h.E ((a2.mo (l2 := [19, 39]) (by decide)).tr (b2.mo (by decide))) (by decide)⟩
        unfold F_X10_tells; simp (disch := omega) only [↓zl_m1, zz_leT, zz_leF, zz_ltT, zz_ltF, zz_eqT, zz_eqF, zz_okN, zz_okF, nI_clamp, nI_add, pk_mul, pk_sub, zz_bS, zz_b2S, if_true, if_false, Bool.true_eq_false, Bool.false_eq_true, eq_self, ne_eq, not_true_eq_false, not_false_eq_true, false_or, or_false, true_or, or_true, and_true, true_and, and_false, false_and, mI_e, mI_e2, mI_le, mI_le2, mI_lt, mI_lt2, mI_ok, bI_0n, bI_1n, bI_orn, Nat.mul_zero, Nat.zero_add, Nat.add_zero, c_no2, c_no3, c_no4, c_no5, c_no6, r_no2, r_no3, r_no4, r_no5, r_no6, zk_inR, zk_in2, zk_in3, zk_wiN, Nat.reduceAdd, ngI_e, ngI_le, ngI_m, cs_cmpN, zl_0, zl_1, zl_2, zl_3, zl_4, zl_5, zl_6, zl_7, zl_8, zl_9, zl_10, zl_12, zl_13, zl_14, zl_15, zl_16, zl_20, zl_32, zl_40, zl_48, zl_57, zl_59, zl_60, zl_63, zl_64, zl_97, zl_99, zl_101, zl_119, zl_120, zl_122, zl_128, zl_136, zl_152, zl_168, zl_184, zl_200, zl_201, zl_202, zl_203, zl_250, zl_255, zl_320, zl_999, zl_1000, c_isShelf, hu1, c1, ca, Bool.not_false, cb, a1]
      · by_cases hkl : k < L.length
        · obtain ⟨m2, b1, b2, b3⟩ := gen m1 (a2.mo (by decide))
          have b4 := b3 L ez k hkl
          have a5 := a4 k hkl
          rw [Nat.zero_add] at b4 a5
          rw [ez] at b1
          have b1 : F_X11_tells m1 (nI s) (nI n) (nI k) = some (nI L[k], m2) := by
            rw [b1]
            simp (disch := omega) only [↓zl_m1, zz_leT, zz_leF, zz_ltT, zz_ltF, zz_eqT, zz_eqF, zz_okN, zz_okF, nI_clamp, nI_add, pk_mul, pk_sub, zz_bS, zz_b2S, if_true, if_false, Bool.true_eq_false, Bool.false_eq_true, eq_self, ne_eq, not_true_eq_false, not_false_eq_true, false_or, or_false, true_or, or_true, and_true, true_and, and_false, false_and, mI_e, mI_e2, mI_le, mI_le2, mI_lt, mI_lt2, mI_ok, bI_0n, bI_1n, bI_orn, Nat.mul_zero, Nat.zero_add, Nat.add_zero, c_no2, c_no3, c_no4, c_no5, c_no6, r_no2, r_no3, r_no4, r_no5, r_no6, zk_inR, zk_in2, zk_in3, zk_wiN, Nat.reduceAdd, ngI_e, ngI_le, ngI_m, cs_cmpN, zl_0, zl_1, zl_2, zl_3, zl_4, zl_5, zl_6, zl_7, zl_8, zl_9, zl_10, zl_12, zl_13, zl_14, zl_15, zl_16, zl_20, zl_32, zl_40, zl_48, zl_57, zl_59, zl_60, zl_63, zl_64, zl_97, zl_99, zl_101, zl_119, zl_120, zl_122, zl_128, zl_136, zl_152, zl_168, zl_184, zl_200, zl_201, zl_202, zl_203, zl_250, zl_255, zl_320, zl_999, zl_1000, b4]
          refine ⟨nI L[k], m1, m2, ?_, b1, G, h.E ((a2.mo (l2 := [19, 39]) (by decide)).tr (b2.mo (by decide))) (by decide)⟩
          unfold F_X10_tells; simp (disch := omega) only [↓zl_m1, zz_leT, zz_leF, zz_ltT, zz_ltF, zz_eqT, zz_eqF, zz_okN, zz_okF, nI_clamp, nI_add, pk_mul, pk_sub, zz_bS, zz_b2S, if_true, if_false, Bool.true_eq_false, Bool.false_eq_true, eq_self, ne_eq, not_true_eq_false, not_false_eq_true, false_or, or_false, true_or, or_true, and_true, true_and, and_false, false_and, mI_e, mI_e2, mI_le, mI_le2, mI_lt, mI_lt2, mI_ok, bI_0n, bI_1n, bI_orn, Nat.mul_zero, Nat.zero_add, Nat.add_zero, c_no2, c_no3, c_no4, c_no5, c_no6, r_no2, r_no3, r_no4, r_no5, r_no6, zk_inR, zk_in2, zk_in3, zk_wiN, Nat.reduceAdd, ngI_e, ngI_le, ngI_m, cs_cmpN, zl_0, zl_1, zl_2, zl_3, zl_4, zl_5, zl_6, zl_7, zl_8, zl_9, zl_10, zl_12, zl_13, zl_14, zl_15, zl_16, zl_20, zl_32, zl_40, zl_48, zl_57, zl_59, zl_60, zl_63, zl_64, zl_97, zl_99, zl_101, zl_119, zl_120, zl_122, zl_128, zl_136, zl_152, zl_168, zl_184, zl_200, zl_201, zl_202, zl_203, zl_250, zl_255, zl_320, zl_999, zl_1000, c_isShelf, hu1, c1, ca, Bool.not_false, cb, a1, a5]
        · obtain ⟨m2, b1, b2, b3⟩ := gen (zrf m1 3) ((a2.mo (by decide)).tr ((zrf_E m1 3).mo (by decide)))
          rw [ez] at b1
          have b1 : F_X11_tells (zrf m1 3) (nI s) (nI n) (nI k) = some (-nI 5, zrn m2 5) := by
            rw [b1]
            simp (disch := omega) only [↓zl_m1, zz_leT, zz_leF, zz_ltT, zz_ltF, zz_eqT, zz_eqF, zz_okN, zz_okF, nI_clamp, nI_add, pk_mul, pk_sub, zz_bS, zz_b2S, if_true, if_false, Bool.true_eq_false, Bool.false_eq_true, eq_self, ne_eq, not_true_eq_false, not_false_eq_true, false_or, or_false, true_or, or_true, and_true, true_and, and_false, false_and, mI_e, mI_e2, mI_le, mI_le2, mI_lt, mI_lt2, mI_ok, bI_0n, bI_1n, bI_orn, Nat.mul_zero, Nat.zero_add, Nat.add_zero, c_no2, c_no3, c_no4, c_no5, c_no6, r_no2, r_no3, r_no4, r_no5, r_no6, zk_inR, zk_in2, zk_in3, zk_wiN, Nat.reduceAdd, ngI_e, ngI_le, ngI_m, cs_cmpN, zl_0, zl_1, zl_2, zl_3, zl_4, zl_5, zl_6, zl_7, zl_8, zl_9, zl_10, zl_12, zl_13, zl_14, zl_15, zl_16, zl_20, zl_32, zl_40, zl_48, zl_57, zl_59, zl_60, zl_63, zl_64, zl_97, zl_99, zl_101, zl_119, zl_120, zl_122, zl_128, zl_136, zl_152, zl_168, zl_184, zl_200, zl_201, zl_202, zl_203, zl_250, zl_255, zl_320, zl_999, zl_1000]
          have hR1 : zRG m1 G := h.E a2 (by decide)
          refine ⟨-nI 5, zrf m1 3, zrn m2 5, ?_, b1, G, hR1.no2 (j := 3) (by decide) (k := 39) (by decide) b2⟩
          unfold F_X10_tells; simp (disch := omega) only [↓zl_m1, zz_leT, zz_leF, zz_ltT, zz_ltF, zz_eqT, zz_eqF, zz_okN, zz_okF, nI_clamp, nI_add, pk_mul, pk_sub, zz_bS, zz_b2S, if_true, if_false, Bool.true_eq_false, Bool.false_eq_true, eq_self, ne_eq, not_true_eq_false, not_false_eq_true, false_or, or_false, true_or, or_true, and_true, true_and, and_false, false_and, mI_e, mI_e2, mI_le, mI_le2, mI_lt, mI_lt2, mI_ok, bI_0n, bI_1n, bI_orn, Nat.mul_zero, Nat.zero_add, Nat.add_zero, c_no2, c_no3, c_no4, c_no5, c_no6, r_no2, r_no3, r_no4, r_no5, r_no6, zk_inR, zk_in2, zk_in3, zk_wiN, Nat.reduceAdd, ngI_e, ngI_le, ngI_m, cs_cmpN, zl_0, zl_1, zl_2, zl_3, zl_4, zl_5, zl_6, zl_7, zl_8, zl_9, zl_10, zl_12, zl_13, zl_14, zl_15, zl_16, zl_20, zl_32, zl_40, zl_48, zl_57, zl_59, zl_60, zl_63, zl_64, zl_97, zl_99, zl_101, zl_119, zl_120, zl_122, zl_128, zl_136, zl_152, zl_168, zl_184, zl_200, zl_201, zl_202, zl_203, zl_250, zl_255, zl_320, zl_999, zl_1000, c_isShelf, hu1, c1, ca, Bool.not_false, cb, a1])
