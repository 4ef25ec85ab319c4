/-! STATEMENTS of a tape, on both sides -/
theorem zru_P {P : Nat → Bool} : ∀ k i j, i ≤ j → j < zru P k i → P j = true
  | 0, i, j, h1, h2 => by rw [zru] at h2; omega
  | k + 1, i, j, h1, h2 => by
    rw [zru] at h2
    by_cases e : P i = true
    · rw [if_pos e] at h2
      by_cases e2 : j = i
      · subst e2; exact e
      · exact zru_P k (i + 1) j (by omega) h2
    · rw [if_neg e] at h2; omega
def znm (t : Nat → Nat) (n i B : Nat) : Option Nat := if zpk t n i = 2 ∧ zpa t n i - zps t n i ≤ 3 ∧ zvl t (zps t n i) (zpa t n i - zps t n i) < B then some (zvl t (zps t n i) (zpa t n i - zps t n i)) else none
theorem znm_lt {t : Nat → Nat} {n i B v : Nat} (h : znm t n i B = some v) : v < B := by
  unfold znm at h
  split at h
  · rename_i e
    cases h
    exact e.2.2
  · cases h
def zcS (m0 : ax_M) (t : Nat → Nat) (n : Nat) (m : ax_M) (i s : Nat) (G : zG) : Prop := zTa m t n ∧ zE [1, 2, 4, 6, 12] m0 m ∧ (∀ g2 K, g2 ≠ 2 → zC m0 g2 K → zC m g2 K) ∧ zC m 2 G ∧ m.1 12 0 3 = nI i ∧ m.1 12 0 2 = nI s
def zqS (m0 : ax_M) (t : Nat → Nat) (n : Nat) (m : ax_M) (i s : Nat) (G : zG) : Prop := zTb m t n ∧ zE [22, 23, 24, 25, 26, 27, 28, 29] m0 m ∧ (∀ j, j ∉ [1, 4, 9, 12, 13, 14, 15] → m.1 22 0 j = m0.1 22 0 j) ∧ zL m G ∧ m.1 22 0 13 = nI i ∧ m.1 22 0 12 = nI s
theorem zL.F {m m1 : ax_M} {G : zG} (h : zL m G) (e : zFr m m1) : zL m1 G := by
  unfold zL at *
  rw [e.2 1 (by decide), e.2 4 (by decide), e.2 9 (by decide), (e.1 23 (by decide)).1, (e.1 24 (by decide)).1, (e.1 25 (by decide)).1, (e.1 26 (by decide)).1, (e.1 27 (by decide)).1, (e.1 28 (by decide)).1, (e.1 29 (by decide)).1]
  exact h
section
variable {m0 m m1 : ax_M} {t : Nat → Nat} {n i s : Nat} {G G2 : zG}
theorem zcS.go (h : zcS m0 t n m i s G) (e : zGo m m1 2 G2) : zcS m0 t n m1 i s G2 := by
  obtain ⟨h1, h2, h3, h4, h5, h6⟩ := h
  refine ⟨zTa_E h1 e.2.2 (by decide), h2.tr (e.2.2.mo (by decide)), fun g2 K hg hK => e.2.1 g2 K hg (h3 g2 K hg hK), e.1, ?_, ?_⟩
  · rw [(e.2.2 12 (by decide)).1]; exact h5
  · rw [(e.2.2 12 (by decide)).1]; exact h6
theorem zqS.go (h : zqS m0 t n m i s G) (e : zLo m m1 G2) : zqS m0 t n m1 i s G2 := by
  obtain ⟨h1, h2, h3, h4, h5, h6⟩ := h
  refine ⟨?_, h2.tr e.2.1, fun j hj => ?_, e.1, ?_, ?_⟩
  · unfold zTb at *
    rw [e.2.2 10 (by decide), (e.2.1 30 (by decide)).1]
    exact h1
  · rw [e.2.2 j (fun z => hj (by simp at z ⊢; omega))]; exact h3 j hj
  · rw [e.2.2 13 (by decide)]; exact h5
  · rw [e.2.2 12 (by decide)]; exact h6
theorem cS_adv (hn : n ≤ 250) (hb : ∀ i, i < n → t i < 256) (h : zcS m0 t n m i s G) (hi : i ≤ n) : ∃ m1, F_X4_advance m = some m1 ∧ zcS m0 t n m1 (zpa t n i) (zps t n i) G ∧ m1.1 12 0 1 = nI (zpk t n i) := by
  obtain ⟨h1, h2, h3, h4, h5, h6⟩ := h
  obtain ⟨m1, a1, a2, a3, a4, a5⟩ := c_adv h1 hn hb hi h5
  exact ⟨m1, a1, ⟨zTa_E h1 a2 (by decide), h2.tr (a2.mo (by decide)), fun g2 K hg hK => (h3 g2 K hg hK).E a2 (by decide), h4.E a2 (by decide), a5, a4⟩, a3⟩
theorem rS_nxt (hn : n ≤ 250) (hb : ∀ i, i < n → t i < 256) (h : zqS m0 t n m i s G) (hi : i ≤ n) : ∃ m1, F_X11_next m = some m1 ∧ zqS m0 t n m1 (zpa t n i) (zps t n i) G ∧ m1.1 22 0 14 = ztI (zpk t n i) (zpa t n i - zps t n i) ∧ (zpk t n i = 2 → m1.1 22 0 15 = nI (zvl t (zps t n i) (min 3 (zpa t n i - zps t n i)))) := by
  obtain ⟨h1, h2, h3, h4, h5, h6⟩ := h
  obtain ⟨m1, a1, a2, a3, a4, a5, a6⟩ := r_nxt h1 hn hb hi h5
  refine ⟨m1, a1, ⟨zTb_F h1 a2, h2.tr (a2.1.mo (by decide)), fun j hj => ?_, h4.F a2, a4, a3⟩, a5, a6⟩
  rw [a2.2 j (fun z => hj (by simp at z ⊢; omega))]
  exact h3 j hj
theorem zpk_2 {j : Nat} (h : zpk t n i = 2) (hj : zps t n i ≤ j) (hj2 : j < zpa t n i) : zkd (t j) = 2 ∧ zps t n i < n := by
  unfold zpk at h
  unfold zpa at hj2
  by_cases e : zps t n i < n
  · rw [if_pos e] at h
    rw [if_pos e, if_pos (by omega)] at hj2
    refine ⟨?_, e⟩
    by_cases e2 : j = zps t n i
    · subst e2; exact h
    · have := of_decide_eq_true (zru_P _ _ j (by omega) hj2)
      rw [this, h]
  · rw [if_neg e] at h; cases h
theorem cS_num (hn : n ≤ 250) (hb : ∀ i, i < n → t i < 256) (h : zcS m0 t n m i s G) (hi : i ≤ n) {B : Nat} (hB : B ≤ 1000) : ∃ m1, F_X4_readNumber m (nI B) = some (zlo2 (znm t n i B), m1) ∧ zcS m0 t n m1 (zpa t n i) (zps t n i) G := by
  obtain ⟨m1, a1, a2, a3⟩ := cS_adv hn hb h hi
  obtain ⟨p1, p2, p3⟩ := zpa_b (t := t) hi
  obtain ⟨q1, q2⟩ := zps_b (t := t) hi
  refine ⟨m1, ?_, a2⟩
  have hk := zkd_b (t (zps t n i))
  have hk0 : zpk t n i < 5 := by unfold zpk; split <;> omega
  unfold F_X4_readNumber
  by_cases e : zpk t n i = 2
  · by_cases e2 : zpa t n i - zps t n i ≤ 3
    · have key : ∀ k j f, j + k = zpa t n i → k < f → (zps t n i ≤ j → F_X4_readNumber_L20 f m1 (nI B) (nI (zvl t (zps t n i) (j - zps t n i))) (nI j) = some (zlo2 (znm t n i B), m1)) := by
        refine zz_loop (zpa t n i) (fun f => ?_) (fun f j hj ih => ?_)
        · intro hs
          have zb := zvl_b (t := t) hb (s := zps t n i) (zpa t n i - zps t n i) (by omega) e2
          rw [F_X4_readNumber_L20, a2.2.2.2.2.1, if_pos (Int32.le_refl _)]
          by_cases e3 : zvl t (zps t n i) (zpa t n i - zps t n i) < B
          · rw [if_neg (nI_ge e3 (by omega))]; unfold znm; rw [if_pos (show zpk t n i = 2 ∧ _ ∧ _ from ⟨e, e2, e3⟩)]; rfl
          · rw [if_pos (nI_le (by omega) (by omega))]; unfold znm; rw [if_neg (fun z => e3 z.2.2)]; rfl
        · intro hs
          have hd := zkd_2 (zpk_2 e hs hj).1
          have hjn : j < n := by omega
          have hbj := hb j hjn
          have zb := zvl_b (t := t) hb (s := zps t n i) (j - zps t n i) (by omega) (by omega)
          have hv : zvl t (zps t n i) (j + 1 - zps t n i) = 10 * zvl t (zps t n i) (j - zps t n i) + t j - 48 := by
            rw [show j + 1 - zps t n i = (j - zps t n i) + 1 by omega, zvl, show zps t n i + (j - zps t n i) = j by omega]
            omega
          have i2 := ih (by omega)
          rw [hv] at i2
          rw [F_X4_readNumber_L20]
          simp (disch := omega) only [↓zl_m1, zz_leT, zz_leF, zz_ltT, zz_ltF, zz_eqT, zz_eqF, zz_okN, zz_okF, nI_clamp, nI_add, pk_mul, pk_sub, zz_bS, zz_b2S, if_true, if_false, Bool.true_eq_false, Bool.false_eq_true, eq_self, ne_eq, not_true_eq_false, not_false_eq_true, false_or, or_false, true_or, or_true, and_true, true_and, and_false, false_and, mI_e, mI_e2, mI_le, mI_le2, mI_lt, mI_lt2, mI_ok, bI_0n, bI_1n, bI_orn, Nat.mul_zero, Nat.zero_add, Nat.add_zero, c_no2, c_no3, c_no4, c_no5, c_no6, r_no2, r_no3, r_no4, r_no5, r_no6, zk_inR, zk_in2, zk_in3, zk_wiN, Nat.reduceAdd, ngI_e, ngI_le, ngI_m, cs_cmpN, zl_0, zl_1, zl_2, zl_3, zl_4, zl_5, zl_6, zl_7, zl_8, zl_9, zl_10, zl_12, zl_13, zl_14, zl_15, zl_16, zl_20, zl_32, zl_40, zl_48, zl_57, zl_59, zl_60, zl_63, zl_64, zl_97, zl_99, zl_101, zl_119, zl_120, zl_122, zl_128, zl_136, zl_152, zl_168, zl_184, zl_200, zl_201, zl_202, zl_203, zl_250, zl_255, zl_320, zl_999, zl_1000, a2.2.2.2.2.1, c_at a2.1 hn hjn]
          exact i2
      have k2 := key (zpa t n i - zps t n i) (zps t n i) ax_FU (by omega) (by unfold ax_FU; omega) (Nat.le_refl _)
      rw [Nat.sub_self] at k2
      have k2 : F_X4_readNumber_L20 ax_FU m1 (nI B) (nI 0) (nI (zps t n i)) = some (zlo2 (znm t n i B), m1) := k2
      rw [e] at a3
      simp (disch := omega) only [↓zl_m1, zz_leT, zz_leF, zz_ltT, zz_ltF, zz_eqT, zz_eqF, zz_okN, zz_okF, nI_clamp, nI_add, pk_mul, pk_sub, zz_bS, zz_b2S, if_true, if_false, Bool.true_eq_false, Bool.false_eq_true, eq_self, ne_eq, not_true_eq_false, not_false_eq_true, false_or, or_false, true_or, or_true, and_true, true_and, and_false, false_and, mI_e, mI_e2, mI_le, mI_le2, mI_lt, mI_lt2, mI_ok, bI_0n, bI_1n, bI_orn, Nat.mul_zero, Nat.zero_add, Nat.add_zero, c_no2, c_no3, c_no4, c_no5, c_no6, r_no2, r_no3, r_no4, r_no5, r_no6, zk_inR, zk_in2, zk_in3, zk_wiN, Nat.reduceAdd, ngI_e, ngI_le, ngI_m, cs_cmpN, zl_0, zl_1, zl_2, zl_3, zl_4, zl_5, zl_6, zl_7, zl_8, zl_9, zl_10, zl_12, zl_13, zl_14, zl_15, zl_16, zl_20, zl_32, zl_40, zl_48, zl_57, zl_59, zl_60, zl_63, zl_64, zl_97, zl_99, zl_101, zl_119, zl_120, zl_122, zl_128, zl_136, zl_152, zl_168, zl_184, zl_200, zl_201, zl_202, zl_203, zl_250, zl_255, zl_320, zl_999, zl_1000, a1, a3, a2.2.2.2.2.1, a2.2.2.2.2.2]
      exact k2
    · have zn : znm t n i B = none := by unfold znm; rw [if_neg (fun z => e2 z.2.1)]
      rw [zn]
      rw [e] at a3
      simp (disch := omega) only [↓zl_m1, zz_leT, zz_leF, zz_ltT, zz_ltF, zz_eqT, zz_eqF, zz_okN, zz_okF, nI_clamp, nI_add, pk_mul, pk_sub, zz_bS, zz_b2S, if_true, if_false, Bool.true_eq_false, Bool.false_eq_true, eq_self, ne_eq, not_true_eq_false, not_false_eq_true, false_or, or_false, true_or, or_true, and_true, true_and, and_false, false_and, mI_e, mI_e2, mI_le, mI_le2, mI_lt, mI_lt2, mI_ok, bI_0n, bI_1n, bI_orn, Nat.mul_zero, Nat.zero_add, Nat.add_zero, c_no2, c_no3, c_no4, c_no5, c_no6, r_no2, r_no3, r_no4, r_no5, r_no6, zk_inR, zk_in2, zk_in3, zk_wiN, Nat.reduceAdd, ngI_e, ngI_le, ngI_m, cs_cmpN, zl_0, zl_1, zl_2, zl_3, zl_4, zl_5, zl_6, zl_7, zl_8, zl_9, zl_10, zl_12, zl_13, zl_14, zl_15, zl_16, zl_20, zl_32, zl_40, zl_48, zl_57, zl_59, zl_60, zl_63, zl_64, zl_97, zl_99, zl_101, zl_119, zl_120, zl_122, zl_128, zl_136, zl_152, zl_168, zl_184, zl_200, zl_201, zl_202, zl_203, zl_250, zl_255, zl_320, zl_999, zl_1000, a1, a3, a2.2.2.2.2.1, a2.2.2.2.2.2]
      rfl
  · have zn : znm t n i B = none := by unfold znm; rw [if_neg (fun z => e z.1)]
    rw [zn]
    simp (disch := omega) only [↓zl_m1, zz_leT, zz_leF, zz_ltT, zz_ltF, zz_eqT, zz_eqF, zz_okN, zz_okF, nI_clamp, nI_add, pk_mul, pk_sub, zz_bS, zz_b2S, if_true, if_false, Bool.true_eq_false, Bool.false_eq_true, eq_self, ne_eq, not_true_eq_false, not_false_eq_true, false_or, or_false, true_or, or_true, and_true, true_and, and_false, false_and, mI_e, mI_e2, mI_le, mI_le2, mI_lt, mI_lt2, mI_ok, bI_0n, bI_1n, bI_orn, Nat.mul_zero, Nat.zero_add, Nat.add_zero, c_no2, c_no3, c_no4, c_no5, c_no6, r_no2, r_no3, r_no4, r_no5, r_no6, zk_inR, zk_in2, zk_in3, zk_wiN, Nat.reduceAdd, ngI_e, ngI_le, ngI_m, cs_cmpN, zl_0, zl_1, zl_2, zl_3, zl_4, zl_5, zl_6, zl_7, zl_8, zl_9, zl_10, zl_12, zl_13, zl_14, zl_15, zl_16, zl_20, zl_32, zl_40, zl_48, zl_57, zl_59, zl_60, zl_63, zl_64, zl_97, zl_99, zl_101, zl_119, zl_120, zl_122, zl_128, zl_136, zl_152, zl_168, zl_184, zl_200, zl_201, zl_202, zl_203, zl_250, zl_255, zl_320, zl_999, zl_1000, a1, a3]
    rfl
theorem ztI_48 {k l : Nat} : (ztI k l = nI 48) = (k = 2 ∧ l ≤ 3) := by
  unfold ztI
  refine propext ?_
  by_cases e0 : k = 0
  · rw [if_pos e0, zz_eq (by omega) (by omega)]; omega
  · by_cases e1 : k = 1
    · rw [if_neg e0, if_pos e1, zz_eq (by omega) (by omega)]; omega
    · by_cases e2 : k = 2
      · rw [if_neg e0, if_neg e1, if_pos e2]
        by_cases e3 : l ≤ 3
        · rw [if_pos e3]; exact ⟨fun _ => ⟨e2, e3⟩, fun _ => rfl⟩
        · rw [if_neg e3, zz_eq (by omega) (by omega)]; omega
      · by_cases e3 : k = 3
        · rw [if_neg e0, if_neg e1, if_neg e2, if_pos e3, zz_eq (by omega) (by omega)]; omega
        · rw [if_neg e0, if_neg e1, if_neg e2, if_neg e3, zz_eq (by omega) (by omega)]; omega
theorem rS_num (hn : n ≤ 250) (hb : ∀ i, i < n → t i < 256) (h : zqS m0 t n m i s G) (hi : i ≤ n) {B : Nat} {H : Int32} (hB : B ≤ 1000) (hH : ∀ v, F_X11_within v (nI 0) H = some (bI (ax_ok v B))) : ∃ m1, F_X11_number m (nI 0) H = some (zlo2 (znm t n i B), m1) ∧ zqS m0 t n m1 (zpa t n i) (zps t n i) G := by
  obtain ⟨m1, a1, a2, a3, a4⟩ := rS_nxt hn hb h hi
  obtain ⟨p1, p2, p3⟩ := zpa_b (t := t) hi
  refine ⟨m1, ?_, a2⟩
  unfold F_X11_number
  by_cases e : zpk t n i = 2 ∧ zpa t n i - zps t n i ≤ 3
  · have a3 : m1.1 22 0 14 = nI 48 := by rw [a3, ztI_48]; exact e
    have a4 := a4 e.1
    rw [show min 3 (zpa t n i - zps t n i) = zpa t n i - zps t n i by omega] at a4
    have zb := zvl_b (t := t) hb (s := zps t n i) (zpa t n i - zps t n i) (by omega) e.2
    unfold znm
    by_cases e3 : zvl t (zps t n i) (zpa t n i - zps t n i) < B
    · rw [if_pos ⟨e.1, e.2, e3⟩]
      simp (disch := omega) only [↓zl_m1, zz_leT, zz_leF, zz_ltT, zz_ltF, zz_eqT, zz_eqF, zz_okN, zz_okF, nI_clamp, nI_add, pk_mul, pk_sub, zz_bS, zz_b2S, if_true, if_false, Bool.true_eq_false, Bool.false_eq_true, eq_self, ne_eq, not_true_eq_false, not_false_eq_true, false_or, or_false, true_or, or_true, and_true, true_and, and_false, false_and, mI_e, mI_e2, mI_le, mI_le2, mI_lt, mI_lt2, mI_ok, bI_0n, bI_1n, bI_orn, Nat.mul_zero, Nat.zero_add, Nat.add_zero, c_no2, c_no3, c_no4, c_no5, c_no6, r_no2, r_no3, r_no4, r_no5, r_no6, zk_inR, zk_in2, zk_in3, zk_wiN, Nat.reduceAdd, ngI_e, ngI_le, ngI_m, cs_cmpN, zl_0, zl_1, zl_2, zl_3, zl_4, zl_5, zl_6, zl_7, zl_8, zl_9, zl_10, zl_12, zl_13, zl_14, zl_15, zl_16, zl_20, zl_32, zl_40, zl_48, zl_57, zl_59, zl_60, zl_63, zl_64, zl_97, zl_99, zl_101, zl_119, zl_120, zl_122, zl_128, zl_136, zl_152, zl_168, zl_184, zl_200, zl_201, zl_202, zl_203, zl_250, zl_255, zl_320, zl_999, zl_1000, a1, a3, hH, a4]
      rfl
    · rw [if_neg (fun z => e3 z.2.2)]
      simp (disch := omega) only [↓zl_m1, zz_leT, zz_leF, zz_ltT, zz_ltF, zz_eqT, zz_eqF, zz_okN, zz_okF, nI_clamp, nI_add, pk_mul, pk_sub, zz_bS, zz_b2S, if_true, if_false, Bool.true_eq_false, Bool.false_eq_true, eq_self, ne_eq, not_true_eq_false, not_false_eq_true, false_or, or_false, true_or, or_true, and_true, true_and, and_false, false_and, mI_e, mI_e2, mI_le, mI_le2, mI_lt, mI_lt2, mI_ok, bI_0n, bI_1n, bI_orn, Nat.mul_zero, Nat.zero_add, Nat.add_zero, c_no2, c_no3, c_no4, c_no5, c_no6, r_no2, r_no3, r_no4, r_no5, r_no6, zk_inR, zk_in2, zk_in3, zk_wiN, Nat.reduceAdd, ngI_e, ngI_le, ngI_m, cs_cmpN, zl_0, zl_1, zl_2, zl_3, zl_4, zl_5, zl_6, zl_7, zl_8, zl_9, zl_10, zl_12, zl_13, zl_14, zl_15, zl_16, zl_20, zl_32, zl_40, zl_48, zl_57, zl_59, zl_60, zl_63, zl_64, zl_97, zl_99, zl_101, zl_119, zl_120, zl_122, zl_128, zl_136, zl_152, zl_168, zl_184, zl_200, zl_201, zl_202, zl_203, zl_250, zl_255, zl_320, zl_999, zl_1000, a1, a3, hH, a4]
      rfl
  · have zn : znm t n i B = none := by unfold znm; rw [if_neg (fun z => e ⟨z.1, z.2.1⟩)]
    rw [zn]
    have q : (m1.1 22 0 14 = nI 48) = False := by rw [a3, ztI_48]; exact eq_false e
    simp (disch := omega) only [↓zl_m1, zz_leT, zz_leF, zz_ltT, zz_ltF, zz_eqT, zz_eqF, zz_okN, zz_okF, nI_clamp, nI_add, pk_mul, pk_sub, zz_bS, zz_b2S, if_true, if_false, Bool.true_eq_false, Bool.false_eq_true, eq_self, ne_eq, not_true_eq_false, not_false_eq_true, false_or, or_false, true_or, or_true, and_true, true_and, and_false, false_and, mI_e, mI_e2, mI_le, mI_le2, mI_lt, mI_lt2, mI_ok, bI_0n, bI_1n, bI_orn, Nat.mul_zero, Nat.zero_add, Nat.add_zero, c_no2, c_no3, c_no4, c_no5, c_no6, r_no2, r_no3, r_no4, r_no5, r_no6, zk_inR, zk_in2, zk_in3, zk_wiN, Nat.reduceAdd, ngI_e, ngI_le, ngI_m, cs_cmpN, zl_0, zl_1, zl_2, zl_3, zl_4, zl_5, zl_6, zl_7, zl_8, zl_9, zl_10, zl_12, zl_13, zl_14, zl_15, zl_16, zl_20, zl_32, zl_40, zl_48, zl_57, zl_59, zl_60, zl_63, zl_64, zl_97, zl_99, zl_101, zl_119, zl_120, zl_122, zl_128, zl_136, zl_152, zl_168, zl_184, zl_200, zl_201, zl_202, zl_203, zl_250, zl_255, zl_320, zl_999, zl_1000, a1, q]
    rfl
/-- a word -/
def zis (t : Nat → Nat) (s a k g : Nat) : Bool := decide (k = 1) && (decide (a - s = (ax_word g).length) && !zany (fun i => !decide (nI (t (s + i)) = ax_chr g i)) (ax_word g).length)
theorem word_len : ∀ g, g < 6 → (ax_word g).length ≤ 6 := by decide
theorem cS_word (hn : n ≤ 250) (h : zcS m0 t n m i s G) (hi : i ≤ n) (hs : s ≤ i) {k g : Nat} (hk : k < 5) (hg : g < 6) (h1 : m.1 12 0 1 = nI k) : F_X4_isWord m g = some (bI (zis t s i k g)) := by
  obtain ⟨hT, -, -, -, h5, h6⟩ := h
  have hl := word_len g hg
  unfold F_X4_isWord zis
  by_cases e1 : k = 1
  · by_cases e2 : i - s = (ax_word g).length
    · have key : ∀ r j f, j + r = (ax_word g).length → r < f → (zany (fun i => !decide (nI (t (s + i)) = ax_chr g i)) j = false → F_X4_isWord_L16 f m g (nI j) = some (bI (!zany (fun i => !decide (nI (t (s + i)) = ax_chr g i)) (ax_word g).length))) := by
        refine zz_loop (ax_word g).length (fun f => ?_) (fun f j hj ih => ?_)
        · intro h0
          rw [F_X4_isWord_L16, show Int32.ofNat (ax_word g).length = nI (ax_word g).length from rfl, if_pos (Int32.le_refl _), h0]; rfl
        · intro h0
          have ca := c_at hT hn (i := s + j) (by omega)
          have w := show Int32.ofNat (ax_word g).length = nI (ax_word g).length from rfl
          rw [F_X4_isWord_L16, w]
          by_cases e3 : nI (t (s + j)) = ax_chr g j
          · simp (disch := omega) only [↓zl_m1, zz_leT, zz_leF, zz_ltT, zz_ltF, zz_eqT, zz_eqF, zz_okN, zz_okF, nI_clamp, nI_add, pk_mul, pk_sub, zz_bS, zz_b2S, if_true, if_false, Bool.true_eq_false, Bool.false_eq_true, eq_self, ne_eq, not_true_eq_false, not_false_eq_true, false_or, or_false, true_or, or_true, and_true, true_and, and_false, false_and, mI_e, mI_e2, mI_le, mI_le2, mI_lt, mI_lt2, mI_ok, bI_0n, bI_1n, bI_orn, Nat.mul_zero, Nat.zero_add, Nat.add_zero, c_no2, c_no3, c_no4, c_no5, c_no6, r_no2, r_no3, r_no4, r_no5, r_no6, zk_inR, zk_in2, zk_in3, zk_wiN, Nat.reduceAdd, ngI_e, ngI_le, ngI_m, cs_cmpN, zl_0, zl_1, zl_2, zl_3, zl_4, zl_5, zl_6, zl_7, zl_8, zl_9, zl_10, zl_12, zl_13, zl_14, zl_15, zl_16, zl_20, zl_32, zl_40, zl_48, zl_57, zl_59, zl_60, zl_63, zl_64, zl_97, zl_99, zl_101, zl_119, zl_120, zl_122, zl_128, zl_136, zl_152, zl_168, zl_184, zl_200, zl_201, zl_202, zl_203, zl_250, zl_255, zl_320, zl_999, zl_1000, h6, ca, e3]
            exact ih (by rw [zany, h0, decide_eq_true e3]; rfl)
          · simp (disch := omega) only [↓zl_m1, zz_leT, zz_leF, zz_ltT, zz_ltF, zz_eqT, zz_eqF, zz_okN, zz_okF, nI_clamp, nI_add, pk_mul, pk_sub, zz_bS, zz_b2S, if_true, if_false, Bool.true_eq_false, Bool.false_eq_true, eq_self, ne_eq, not_true_eq_false, not_false_eq_true, false_or, or_false, true_or, or_true, and_true, true_and, and_false, false_and, mI_e, mI_e2, mI_le, mI_le2, mI_lt, mI_lt2, mI_ok, bI_0n, bI_1n, bI_orn, Nat.mul_zero, Nat.zero_add, Nat.add_zero, c_no2, c_no3, c_no4, c_no5, c_no6, r_no2, r_no3, r_no4, r_no5, r_no6, zk_inR, zk_in2, zk_in3, zk_wiN, Nat.reduceAdd, ngI_e, ngI_le, ngI_m, cs_cmpN, zl_0, zl_1, zl_2, zl_3, zl_4, zl_5, zl_6, zl_7, zl_8, zl_9, zl_10, zl_12, zl_13, zl_14, zl_15, zl_16, zl_20, zl_32, zl_40, zl_48, zl_57, zl_59, zl_60, zl_63, zl_64, zl_97, zl_99, zl_101, zl_119, zl_120, zl_122, zl_128, zl_136, zl_152, zl_168, zl_184, zl_200, zl_201, zl_202, zl_203, zl_250, zl_255, zl_320, zl_999, zl_1000, h6, ca, e3]
            rw [zany_t.mpr ⟨j, hj, by rw [decide_eq_false e3]; rfl⟩]
            rfl
      have k2 := key (ax_word g).length 0 ax_FU (by omega) (by unfold ax_FU; omega) rfl
      have w : (nI (i - s) = Int32.ofNat (ax_word g).length) = True := eq_true (by rw [e2]; rfl)
      rw [decide_eq_true e1, decide_eq_true e2, Bool.true_and, Bool.true_and]
      simp (disch := omega) only [↓zl_m1, zz_leT, zz_leF, zz_ltT, zz_ltF, zz_eqT, zz_eqF, zz_okN, zz_okF, nI_clamp, nI_add, pk_mul, pk_sub, zz_bS, zz_b2S, if_true, if_false, Bool.true_eq_false, Bool.false_eq_true, eq_self, ne_eq, not_true_eq_false, not_false_eq_true, false_or, or_false, true_or, or_true, and_true, true_and, and_false, false_and, mI_e, mI_e2, mI_le, mI_le2, mI_lt, mI_lt2, mI_ok, bI_0n, bI_1n, bI_orn, Nat.mul_zero, Nat.zero_add, Nat.add_zero, c_no2, c_no3, c_no4, c_no5, c_no6, r_no2, r_no3, r_no4, r_no5, r_no6, zk_inR, zk_in2, zk_in3, zk_wiN, Nat.reduceAdd, ngI_e, ngI_le, ngI_m, cs_cmpN, zl_0, zl_1, zl_2, zl_3, zl_4, zl_5, zl_6, zl_7, zl_8, zl_9, zl_10, zl_12, zl_13, zl_14, zl_15, zl_16, zl_20, zl_32, zl_40, zl_48, zl_57, zl_59, zl_60, zl_63, zl_64, zl_97, zl_99, zl_101, zl_119, zl_120, zl_122, zl_128, zl_136, zl_152, zl_168, zl_184, zl_200, zl_201, zl_202, zl_203, zl_250, zl_255, zl_320, zl_999, zl_1000, h1, e1, h5, h6, w]
      exact k2
    · have w : (nI (i - s) = Int32.ofNat (ax_word g).length) = False := eq_false (by rw [show Int32.ofNat (ax_word g).length = nI (ax_word g).length from rfl, nI_eq (by omega) (by omega)]; exact e2)
      rw [decide_eq_false e2, Bool.false_and, Bool.and_false]
      simp (disch := omega) only [↓zl_m1, zz_leT, zz_leF, zz_ltT, zz_ltF, zz_eqT, zz_eqF, zz_okN, zz_okF, nI_clamp, nI_add, pk_mul, pk_sub, zz_bS, zz_b2S, if_true, if_false, Bool.true_eq_false, Bool.false_eq_true, eq_self, ne_eq, not_true_eq_false, not_false_eq_true, false_or, or_false, true_or, or_true, and_true, true_and, and_false, false_and, mI_e, mI_e2, mI_le, mI_le2, mI_lt, mI_lt2, mI_ok, bI_0n, bI_1n, bI_orn, Nat.mul_zero, Nat.zero_add, Nat.add_zero, c_no2, c_no3, c_no4, c_no5, c_no6, r_no2, r_no3, r_no4, r_no5, r_no6, zk_inR, zk_in2, zk_in3, zk_wiN, Nat.reduceAdd, ngI_e, ngI_le, ngI_m, cs_cmpN, zl_0, zl_1, zl_2, zl_3, zl_4, zl_5, zl_6, zl_7, zl_8, zl_9, zl_10, zl_12, zl_13, zl_14, zl_15, zl_16, zl_20, zl_32, zl_40, zl_48, zl_57, zl_59, zl_60, zl_63, zl_64, zl_97, zl_99, zl_101, zl_119, zl_120, zl_122, zl_128, zl_136, zl_152, zl_168, zl_184, zl_200, zl_201, zl_202, zl_203, zl_250, zl_255, zl_320, zl_999, zl_1000, h1, e1, h5, h6, w]
      rfl
  · rw [decide_eq_false e1, Bool.false_and]
    simp (disch := omega) only [↓zl_m1, zz_leT, zz_leF, zz_ltT, zz_ltF, zz_eqT, zz_eqF, zz_okN, zz_okF, nI_clamp, nI_add, pk_mul, pk_sub, zz_bS, zz_b2S, if_true, if_false, Bool.true_eq_false, Bool.false_eq_true, eq_self, ne_eq, not_true_eq_false, not_false_eq_true, false_or, or_false, true_or, or_true, and_true, true_and, and_false, false_and, mI_e, mI_e2, mI_le, mI_le2, mI_lt, mI_lt2, mI_ok, bI_0n, bI_1n, bI_orn, Nat.mul_zero, Nat.zero_add, Nat.add_zero, c_no2, c_no3, c_no4, c_no5, c_no6, r_no2, r_no3, r_no4, r_no5, r_no6, zk_inR, zk_in2, zk_in3, zk_wiN, Nat.reduceAdd, ngI_e, ngI_le, ngI_m, cs_cmpN, zl_0, zl_1, zl_2, zl_3, zl_4, zl_5, zl_6, zl_7, zl_8, zl_9, zl_10, zl_12, zl_13, zl_14, zl_15, zl_16, zl_20, zl_32, zl_40, zl_48, zl_57, zl_59, zl_60, zl_63, zl_64, zl_97, zl_99, zl_101, zl_119, zl_120, zl_122, zl_128, zl_136, zl_152, zl_168, zl_184, zl_200, zl_201, zl_202, zl_203, zl_250, zl_255, zl_320, zl_999, zl_1000, h1]
    rfl
theorem ztI_119 {k l : Nat} : (ztI k l = nI 119) = (k = 1) := by
  unfold ztI
  refine propext ?_
  by_cases e0 : k = 0
  · rw [if_pos e0, zz_eq (by omega) (by omega)]; omega
  · by_cases e1 : k = 1
    · rw [if_neg e0, if_pos e1]; exact ⟨fun _ => e1, fun _ => rfl⟩
    · by_cases e2 : k = 2
      · rw [if_neg e0, if_neg e1, if_pos e2]
        by_cases e3 : l ≤ 3
        · rw [if_pos e3, zz_eq (by omega) (by omega)]; omega
        · rw [if_neg e3, zz_eq (by omega) (by omega)]; omega
      · by_cases e3 : k = 3
        · rw [if_neg e0, if_neg e1, if_neg e2, if_pos e3, zz_eq (by omega) (by omega)]; omega
        · rw [if_neg e0, if_neg e1, if_neg e2, if_neg e3, zz_eq (by omega) (by omega)]; omega
theorem rS_word (hn : n ≤ 250) (h : zqS m0 t n m i s G) (hi : i ≤ n) (hs : s ≤ i) {k g : Nat} (hg : g < 6) (h1 : m.1 22 0 14 = ztI k (i - s)) : F_X11_isWord m g = some (bI (zis t s i k g)) := by
  obtain ⟨hT, -, -, -, h5, h6⟩ := h
  have hl := word_len g hg
  have q : (m.1 22 0 14 = nI 119) = (k = 1) := by rw [h1, ztI_119]
  unfold F_X11_isWord zis
  by_cases e1 : k = 1
  · by_cases e2 : i - s = (ax_word g).length
    · have key : ∀ r j f, j + r = (ax_word g).length → r < f → (zany (fun i => !decide (nI (t (s + i)) = ax_chr g i)) j = false → F_X11_isWord_L16 f m g (nI j) = some (bI (!zany (fun i => !decide (nI (t (s + i)) = ax_chr g i)) (ax_word g).length))) := by
        refine zz_loop (ax_word g).length (fun f => ?_) (fun f j hj ih => ?_)
        · intro h0
          rw [F_X11_isWord_L16, show Int32.ofNat (ax_word g).length = nI (ax_word g).length from rfl, if_pos (Int32.le_refl _), h0]; rfl
        · intro h0
          have ca := hT.2 (s + j) (by omega)
          have w := show Int32.ofNat (ax_word g).length = nI (ax_word g).length from rfl
          rw [F_X11_isWord_L16, w]
          by_cases e3 : nI (t (s + j)) = ax_chr g j
          · simp (disch := omega) only [↓zl_m1, zz_leT, zz_leF, zz_ltT, zz_ltF, zz_eqT, zz_eqF, zz_okN, zz_okF, nI_clamp, nI_add, pk_mul, pk_sub, zz_bS, zz_b2S, if_true, if_false, Bool.true_eq_false, Bool.false_eq_true, eq_self, ne_eq, not_true_eq_false, not_false_eq_true, false_or, or_false, true_or, or_true, and_true, true_and, and_false, false_and, mI_e, mI_e2, mI_le, mI_le2, mI_lt, mI_lt2, mI_ok, bI_0n, bI_1n, bI_orn, Nat.mul_zero, Nat.zero_add, Nat.add_zero, c_no2, c_no3, c_no4, c_no5, c_no6, r_no2, r_no3, r_no4, r_no5, r_no6, zk_inR, zk_in2, zk_in3, zk_wiN, Nat.reduceAdd, ngI_e, ngI_le, ngI_m, cs_cmpN, zl_0, zl_1, zl_2, zl_3, zl_4, zl_5, zl_6, zl_7, zl_8, zl_9, zl_10, zl_12, zl_13, zl_14, zl_15, zl_16, zl_20, zl_32, zl_40, zl_48, zl_57, zl_59, zl_60, zl_63, zl_64, zl_97, zl_99, zl_101, zl_119, zl_120, zl_122, zl_128, zl_136, zl_152, zl_168, zl_184, zl_200, zl_201, zl_202, zl_203, zl_250, zl_255, zl_320, zl_999, zl_1000, h6, ca, e3]
            exact ih (by rw [zany, h0, decide_eq_true e3]; rfl)
          · simp (disch := omega) only [↓zl_m1, zz_leT, zz_leF, zz_ltT, zz_ltF, zz_eqT, zz_eqF, zz_okN, zz_okF, nI_clamp, nI_add, pk_mul, pk_sub, zz_bS, zz_b2S, if_true, if_false, Bool.true_eq_false, Bool.false_eq_true, eq_self, ne_eq, not_true_eq_false, not_false_eq_true, false_or, or_false, true_or, or_true, and_true, true_and, and_false, false_and, mI_e, mI_e2, mI_le, mI_le2, mI_lt, mI_lt2, mI_ok, bI_0n, bI_1n, bI_orn, Nat.mul_zero, Nat.zero_add, Nat.add_zero, c_no2, c_no3, c_no4, c_no5, c_no6, r_no2, r_no3, r_no4, r_no5, r_no6, zk_inR, zk_in2, zk_in3, zk_wiN, Nat.reduceAdd, ngI_e, ngI_le, ngI_m, cs_cmpN, zl_0, zl_1, zl_2, zl_3, zl_4, zl_5, zl_6, zl_7, zl_8, zl_9, zl_10, zl_12, zl_13, zl_14, zl_15, zl_16, zl_20, zl_32, zl_40, zl_48, zl_57, zl_59, zl_60, zl_63, zl_64, zl_97, zl_99, zl_101, zl_119, zl_120, zl_122, zl_128, zl_136, zl_152, zl_168, zl_184, zl_200, zl_201, zl_202, zl_203, zl_250, zl_255, zl_320, zl_999, zl_1000, h6, ca, e3]
            rw [zany_t.mpr ⟨j, hj, by rw [decide_eq_false e3]; rfl⟩]
            rfl
      have k2 := key (ax_word g).length 0 ax_FU (by omega) (by unfold ax_FU; omega) rfl
      have w : (nI (i - s) = Int32.ofNat (ax_word g).length) = True := eq_true (by rw [e2]; rfl)
      rw [decide_eq_true e1, decide_eq_true e2, Bool.true_and, Bool.true_and]
      simp (disch := omega) only [↓zl_m1, zz_leT, zz_leF, zz_ltT, zz_ltF, zz_eqT, zz_eqF, zz_okN, zz_okF, nI_clamp, nI_add, pk_mul, pk_sub, zz_bS, zz_b2S, if_true, if_false, Bool.true_eq_false, Bool.false_eq_true, eq_self, ne_eq, not_true_eq_false, not_false_eq_true, false_or, or_false, true_or, or_true, and_true, true_and, and_false, false_and, mI_e, mI_e2, mI_le, mI_le2, mI_lt, mI_lt2, mI_ok, bI_0n, bI_1n, bI_orn, Nat.mul_zero, Nat.zero_add, Nat.add_zero, c_no2, c_no3, c_no4, c_no5, c_no6, r_no2, r_no3, r_no4, r_no5, r_no6, zk_inR, zk_in2, zk_in3, zk_wiN, Nat.reduceAdd, ngI_e, ngI_le, ngI_m, cs_cmpN, zl_0, zl_1, zl_2, zl_3, zl_4, zl_5, zl_6, zl_7, zl_8, zl_9, zl_10, zl_12, zl_13, zl_14, zl_15, zl_16, zl_20, zl_32, zl_40, zl_48, zl_57, zl_59, zl_60, zl_63, zl_64, zl_97, zl_99, zl_101, zl_119, zl_120, zl_122, zl_128, zl_136, zl_152, zl_168, zl_184, zl_200, zl_201, zl_202, zl_203, zl_250, zl_255, zl_320, zl_999, zl_1000, q, e1, h5, h6, w]
      exact k2
    · have w : (nI (i - s) = Int32.ofNat (ax_word g).length) = False := eq_false (by rw [show Int32.ofNat (ax_word g).length = nI (ax_word g).length from rfl, nI_eq (by omega) (by omega)]; exact e2)
      rw [decide_eq_false e2, Bool.false_and, Bool.and_false]
      simp (disch := omega) only [↓zl_m1, zz_leT, zz_leF, zz_ltT, zz_ltF, zz_eqT, zz_eqF, zz_okN, zz_okF, nI_clamp, nI_add, pk_mul, pk_sub, zz_bS, zz_b2S, if_true, if_false, Bool.true_eq_false, Bool.false_eq_true, eq_self, ne_eq, not_true_eq_false, not_false_eq_true, false_or, or_false, true_or, or_true, and_true, true_and, and_false, false_and, mI_e, mI_e2, mI_le, mI_le2, mI_lt, mI_lt2, mI_ok, bI_0n, bI_1n, bI_orn, Nat.mul_zero, Nat.zero_add, Nat.add_zero, c_no2, c_no3, c_no4, c_no5, c_no6, r_no2, r_no3, r_no4, r_no5, r_no6, zk_inR, zk_in2, zk_in3, zk_wiN, Nat.reduceAdd, ngI_e, ngI_le, ngI_m, cs_cmpN, zl_0, zl_1, zl_2, zl_3, zl_4, zl_5, zl_6, zl_7, zl_8, zl_9, zl_10, zl_12, zl_13, zl_14, zl_15, zl_16, zl_20, zl_32, zl_40, zl_48, zl_57, zl_59, zl_60, zl_63, zl_64, zl_97, zl_99, zl_101, zl_119, zl_120, zl_122, zl_128, zl_136, zl_152, zl_168, zl_184, zl_200, zl_201, zl_202, zl_203, zl_250, zl_255, zl_320, zl_999, zl_1000, q, e1, h5, h6, w]
      rfl
  · rw [decide_eq_false e1, Bool.false_and]
    simp (disch := omega) only [↓zl_m1, zz_leT, zz_leF, zz_ltT, zz_ltF, zz_eqT, zz_eqF, zz_okN, zz_okF, nI_clamp, nI_add, pk_mul, pk_sub, zz_bS, zz_b2S, if_true, if_false, Bool.true_eq_false, Bool.false_eq_true, eq_self, ne_eq, not_true_eq_false, not_false_eq_true, false_or, or_false, true_or, or_true, and_true, true_and, and_false, false_and, mI_e, mI_e2, mI_le, mI_le2, mI_lt, mI_lt2, mI_ok, bI_0n, bI_1n, bI_orn, Nat.mul_zero, Nat.zero_add, Nat.add_zero, c_no2, c_no3, c_no4, c_no5, c_no6, r_no2, r_no3, r_no4, r_no5, r_no6, zk_inR, zk_in2, zk_in3, zk_wiN, Nat.reduceAdd, ngI_e, ngI_le, ngI_m, cs_cmpN, zl_0, zl_1, zl_2, zl_3, zl_4, zl_5, zl_6, zl_7, zl_8, zl_9, zl_10, zl_12, zl_13, zl_14, zl_15, zl_16, zl_20, zl_32, zl_40, zl_48, zl_57, zl_59, zl_60, zl_63, zl_64, zl_97, zl_99, zl_101, zl_119, zl_120, zl_122, zl_128, zl_136, zl_152, zl_168, zl_184, zl_200, zl_201, zl_202, zl_203, zl_250, zl_255, zl_320, zl_999, zl_1000, q, e1]
    rfl
end
