/-! TOKENS of a tape -/
def zkd (b : Nat) : Nat := if 97 ≤ b ∧ b ≤ 122 then 1 else if 48 ≤ b ∧ b ≤ 57 then 2 else if b = 59 then 3 else 4
theorem tk_of : ∀ b, b < 256 → F_X4_tokenOf (nI b) = some (nI (zkd b)) := by decide +kernel
theorem tk_le : ∀ b, b < 256 → F_X11_isLetter (nI b) = some (bI (decide (zkd b = 1))) := by decide +kernel
theorem tk_di : ∀ b, b < 256 → F_X11_isDigit (nI b) = some (bI (decide (zkd b = 2))) := by decide +kernel
theorem zkd_b (b : Nat) : 1 ≤ zkd b ∧ zkd b ≤ 4 := by unfold zkd; split <;> (try split) <;> (try split) <;> omega
theorem zkd_2 {b : Nat} (h : zkd b = 2) : 48 ≤ b ∧ b ≤ 57 := by
  unfold zkd at h
  split at h
  · omega
  · split at h
    · assumption
    · split at h <;> omega
theorem zkd_3 {b : Nat} : zkd b = 3 ↔ b = 59 := by
  unfold zkd
  split
  · omega
  · split
    · omega
    · split <;> omega
theorem zkd_sp : zkd 32 = 4 := by decide
def zru (P : Nat → Bool) : Nat → Nat → Nat
  | 0, i => i
  | k + 1, i => if P i = true then zru P k (i + 1) else i
theorem zru_b (P : Nat → Bool) : ∀ k i, i ≤ zru P k i ∧ zru P k i ≤ i + k
  | 0, i => ⟨Nat.le_refl _, Nat.le_refl _⟩
  | k + 1, i => by
    rw [zru]
    split
    · have := zru_b P k (i + 1); omega
    · omega
/-- where the next token begins, of what kind it is, where it ends -/
def zps (t : Nat → Nat) (n i : Nat) : Nat := zru (fun j => decide (t j = 32)) (n - i) i
def zpk (t : Nat → Nat) (n i : Nat) : Nat := if zps t n i < n then zkd (t (zps t n i)) else 0
def zpa (t : Nat → Nat) (n i : Nat) : Nat := if zps t n i < n then (if zkd (t (zps t n i)) ≤ 2 then zru (fun j => decide (zkd (t j) = zkd (t (zps t n i)))) (n - (zps t n i + 1)) (zps t n i + 1) else zps t n i + 1) else zps t n i
theorem zps_b {t : Nat → Nat} {n i : Nat} (hi : i ≤ n) : i ≤ zps t n i ∧ zps t n i ≤ n := by
  have := zru_b (fun j => decide (t j = 32)) (n - i) i
  unfold zps
  omega
theorem zpa_b {t : Nat → Nat} {n i : Nat} (hi : i ≤ n) : zps t n i ≤ zpa t n i ∧ zpa t n i ≤ n ∧ (zpk t n i ≠ 0 → zps t n i + 1 ≤ zpa t n i) := by
  have h1 := zps_b (t := t) hi
  unfold zpa zpk
  by_cases e : zps t n i < n
  · rw [if_pos e, if_pos e]
    have := zru_b (fun j => decide (zkd (t j) = zkd (t (zps t n i)))) (n - (zps t n i + 1)) (zps t n i + 1)
    split <;> omega
  · rw [if_neg e, if_neg e]
    omega
/-- a number's value by its first digits -/
def zvl (t : Nat → Nat) (s : Nat) : Nat → Nat
  | 0 => 0
  | k + 1 => 10 * zvl t s k + (t (s + k) - 48)
def zTa (m : ax_M) (t : Nat → Nat) (n : Nat) : Prop := m.1 10 0 1 = nI n ∧ ∀ i, i < n → m.1 11 0 i = nI (t i)
def zTb (m : ax_M) (t : Nat → Nat) (n : Nat) : Prop := m.1 22 0 10 = nI n ∧ ∀ i, i < n → m.1 30 0 i = nI (t i)
section
variable {m : ax_M} {t : Nat → Nat} {n : Nat}
theorem zTa_E {m1 : ax_M} {l : List Nat} (h : zTa m t n) (e : zE l m m1) (hl : 10 ∉ l ∧ 11 ∉ l) : zTa m1 t n := by
  unfold zTa at *
  rw [(e 10 hl.1).1, (e 11 hl.2).1]
  exact h
theorem c_at (h : zTa m t n) (hn : n ≤ 250) {i : Nat} (hi : i < n) : F_X8_at m (nI i) = some (nI (t i)) := by
  unfold F_X8_at
  simp (disch := omega) only [↓zl_m1, zz_leT, zz_leF, zz_ltT, zz_ltF, zz_eqT, zz_eqF, zz_okN, zz_okF, nI_clamp, nI_add, pk_mul, pk_sub, zz_bS, zz_b2S, if_true, if_false, Bool.true_eq_false, Bool.false_eq_true, eq_self, ne_eq, not_true_eq_false, not_false_eq_true, false_or, or_false, true_or, or_true, and_true, true_and, and_false, false_and, mI_e, mI_e2, mI_le, mI_le2, mI_lt, mI_lt2, mI_ok, bI_0n, bI_1n, bI_orn, Nat.mul_zero, Nat.zero_add, Nat.add_zero, c_no2, c_no3, c_no4, c_no5, c_no6, r_no2, r_no3, r_no4, r_no5, r_no6, zk_inR, zk_in2, zk_in3, zk_wiN, Nat.reduceAdd, ngI_e, ngI_le, ngI_m, cs_cmpN, zl_0, zl_1, zl_2, zl_3, zl_4, zl_5, zl_6, zl_7, zl_8, zl_9, zl_10, zl_12, zl_13, zl_14, zl_15, zl_16, zl_20, zl_32, zl_40, zl_48, zl_57, zl_59, zl_60, zl_63, zl_64, zl_97, zl_99, zl_101, zl_119, zl_120, zl_122, zl_128, zl_136, zl_152, zl_168, zl_184, zl_200, zl_201, zl_202, zl_203, zl_250, zl_255, zl_320, zl_999, zl_1000, h.1, h.2 i hi]
theorem c_atN (h : zTa m t n) (hn : n ≤ 250) {i : Nat} (hi : n ≤ i) (hi2 : i < 2 ^ 31) : F_X8_at m (nI i) = some mI := by
  unfold F_X8_at
  simp (disch := omega) only [↓zl_m1, zz_leT, zz_leF, zz_ltT, zz_ltF, zz_eqT, zz_eqF, zz_okN, zz_okF, nI_clamp, nI_add, pk_mul, pk_sub, zz_bS, zz_b2S, if_true, if_false, Bool.true_eq_false, Bool.false_eq_true, eq_self, ne_eq, not_true_eq_false, not_false_eq_true, false_or, or_false, true_or, or_true, and_true, true_and, and_false, false_and, mI_e, mI_e2, mI_le, mI_le2, mI_lt, mI_lt2, mI_ok, bI_0n, bI_1n, bI_orn, Nat.mul_zero, Nat.zero_add, Nat.add_zero, c_no2, c_no3, c_no4, c_no5, c_no6, r_no2, r_no3, r_no4, r_no5, r_no6, zk_inR, zk_in2, zk_in3, zk_wiN, Nat.reduceAdd, ngI_e, ngI_le, ngI_m, cs_cmpN, zl_0, zl_1, zl_2, zl_3, zl_4, zl_5, zl_6, zl_7, zl_8, zl_9, zl_10, zl_12, zl_13, zl_14, zl_15, zl_16, zl_20, zl_32, zl_40, zl_48, zl_57, zl_59, zl_60, zl_63, zl_64, zl_97, zl_99, zl_101, zl_119, zl_120, zl_122, zl_128, zl_136, zl_152, zl_168, zl_184, zl_200, zl_201, zl_202, zl_203, zl_250, zl_255, zl_320, zl_999, zl_1000, h.1]
theorem zru_s {P : Nat → Bool} {n j : Nat} (hj : j < n) : zru P (n - j) j = if P j = true then zru P (n - (j + 1)) (j + 1) else j := by
  rw [show n - j = (n - (j + 1)) + 1 by omega, zru]
theorem zru_e {P : Nat → Bool} {n j : Nat} (hj : n ≤ j) : zru P (n - j) j = j := by
  rw [show n - j = 0 by omega, zru]
theorem c_run (hn : n ≤ 250) (hb : ∀ i, i < n → t i < 256) {q : Nat} (hq : q < 5) : ∀ k j f, j + k = n → k < f → (∀ m, zTa m t n → m.1 12 0 1 = nI q → m.1 12 0 3 = nI j → ∃ m1, F_X4_advance_L52 f m = some m1 ∧ zE [12] m m1 ∧ m1.1 12 0 1 = nI q ∧ m1.1 12 0 2 = m.1 12 0 2 ∧ m1.1 12 0 3 = nI (zru (fun j => decide (zkd (t j) = q)) (n - j) j)) := by
  refine zz_loop n (fun f => ?_) (fun f j hj ih => ?_)
  · intro m h h1 h3
    refine ⟨m, ?_, zE.rf _ _, h1, rfl, ?_⟩
    · rw [F_X4_advance_L52, h.1, h3, if_pos (Int32.le_refl _)]
    · rw [h3, zru_e (Nat.le_refl _)]
  · intro m h h1 h3
    have hz := zkd_b (t j)
    have tk := tk_of (t j) (hb j hj)
    have ca := c_at h hn hj
    rw [zru_s hj]
    by_cases e : zkd (t j) = q
    · have e1 : zE [12] m (ax_ui m 12 0 3 (nI (j + 1))) := (zE.rf _ _).ui (by decide)
      obtain ⟨m1, a1, a2, a3, a4, a5⟩ := ih (ax_ui m 12 0 3 (nI (j + 1))) (zTa_E h e1 (by decide)) (by rw [zu_j (by decide)]; exact h1) zu_s
      rw [if_pos (decide_eq_true e)]
      refine ⟨m1, ?_, e1.tr a2, a3, a4.trans (zu_j (by decide)), a5⟩
      rw [F_X4_advance_L52]
      simp (disch := omega) only [↓zl_m1, zz_leT, zz_leF, zz_ltT, zz_ltF, zz_eqT, zz_eqF, zz_okN, zz_okF, nI_clamp, nI_add, pk_mul, pk_sub, zz_bS, zz_b2S, if_true, if_false, Bool.true_eq_false, Bool.false_eq_true, eq_self, ne_eq, not_true_eq_false, not_false_eq_true, false_or, or_false, true_or, or_true, and_true, true_and, and_false, false_and, mI_e, mI_e2, mI_le, mI_le2, mI_lt, mI_lt2, mI_ok, bI_0n, bI_1n, bI_orn, Nat.mul_zero, Nat.zero_add, Nat.add_zero, c_no2, c_no3, c_no4, c_no5, c_no6, r_no2, r_no3, r_no4, r_no5, r_no6, zk_inR, zk_in2, zk_in3, zk_wiN, Nat.reduceAdd, ngI_e, ngI_le, ngI_m, cs_cmpN, zl_0, zl_1, zl_2, zl_3, zl_4, zl_5, zl_6, zl_7, zl_8, zl_9, zl_10, zl_12, zl_13, zl_14, zl_15, zl_16, zl_20, zl_32, zl_40, zl_48, zl_57, zl_59, zl_60, zl_63, zl_64, zl_97, zl_99, zl_101, zl_119, zl_120, zl_122, zl_128, zl_136, zl_152, zl_168, zl_184, zl_200, zl_201, zl_202, zl_203, zl_250, zl_255, zl_320, zl_999, zl_1000, h.1, h3, ca, tk, h1, e]
      exact a1
    · rw [if_neg (by rw [decide_eq_false e]; decide)]
      refine ⟨m, ?_, zE.rf _ _, h1, rfl, h3⟩
      rw [F_X4_advance_L52]
      simp (disch := omega) only [↓zl_m1, zz_leT, zz_leF, zz_ltT, zz_ltF, zz_eqT, zz_eqF, zz_okN, zz_okF, nI_clamp, nI_add, pk_mul, pk_sub, zz_bS, zz_b2S, if_true, if_false, Bool.true_eq_false, Bool.false_eq_true, eq_self, ne_eq, not_true_eq_false, not_false_eq_true, false_or, or_false, true_or, or_true, and_true, true_and, and_false, false_and, mI_e, mI_e2, mI_le, mI_le2, mI_lt, mI_lt2, mI_ok, bI_0n, bI_1n, bI_orn, Nat.mul_zero, Nat.zero_add, Nat.add_zero, c_no2, c_no3, c_no4, c_no5, c_no6, r_no2, r_no3, r_no4, r_no5, r_no6, zk_inR, zk_in2, zk_in3, zk_wiN, Nat.reduceAdd, ngI_e, ngI_le, ngI_m, cs_cmpN, zl_0, zl_1, zl_2, zl_3, zl_4, zl_5, zl_6, zl_7, zl_8, zl_9, zl_10, zl_12, zl_13, zl_14, zl_15, zl_16, zl_20, zl_32, zl_40, zl_48, zl_57, zl_59, zl_60, zl_63, zl_64, zl_97, zl_99, zl_101, zl_119, zl_120, zl_122, zl_128, zl_136, zl_152, zl_168, zl_184, zl_200, zl_201, zl_202, zl_203, zl_250, zl_255, zl_320, zl_999, zl_1000, h.1, h3, ca, tk, h1]
theorem c_adv (h : zTa m t n) (hn : n ≤ 250) (hb : ∀ i, i < n → t i < 256) {i : Nat} (hi : i ≤ n) (h3 : m.1 12 0 3 = nI i) : ∃ m1, F_X4_advance m = some m1 ∧ zE [12] m m1 ∧ m1.1 12 0 1 = nI (zpk t n i) ∧ m1.1 12 0 2 = nI (zps t n i) ∧ m1.1 12 0 3 = nI (zpa t n i) := by
  -- where the token begins
  have beg : ∀ s, s ≤ n → zps t n i = s → ∀ m0, zTa m0 t n → m0.1 12 0 2 = nI s → ∃ m1, (if s < n then (ax_b (F_X4_tokenOf (nI (t s))) (fun r40 => if ((ax_ui m0 12 0 1 r40).1 12 0 1) = 0 then (if ((ax_ui (ax_ui m0 12 0 1 r40) 12 0 3 ((ax_ui m0 12 0 1 r40).1 12 0 2)).1 12 0 1) = 1 then (F_X4_advance_L52 ax_FU (ax_ui (ax_ui m0 12 0 1 r40) 12 0 3 ((ax_ui m0 12 0 1 r40).1 12 0 2))) else (if ((ax_ui (ax_ui m0 12 0 1 r40) 12 0 3 ((ax_ui m0 12 0 1 r40).1 12 0 2)).1 12 0 1) = 2 then (F_X4_advance_L52 ax_FU (ax_ui (ax_ui m0 12 0 1 r40) 12 0 3 ((ax_ui m0 12 0 1 r40).1 12 0 2))) else (some (ax_ui (ax_ui m0 12 0 1 r40) 12 0 3 ((ax_ui m0 12 0 1 r40).1 12 0 2))))) else (if ((ax_ui (ax_ui m0 12 0 1 r40) 12 0 3 (((ax_ui m0 12 0 1 r40).1 12 0 2) + 1)).1 12 0 1) = 1 then (F_X4_advance_L52 ax_FU (ax_ui (ax_ui m0 12 0 1 r40) 12 0 3 (((ax_ui m0 12 0 1 r40).1 12 0 2) + 1))) else (if ((ax_ui (ax_ui m0 12 0 1 r40) 12 0 3 (((ax_ui m0 12 0 1 r40).1 12 0 2) + 1)).1 12 0 1) = 2 then (F_X4_advance_L52 ax_FU (ax_ui (ax_ui m0 12 0 1 r40) 12 0 3 (((ax_ui m0 12 0 1 r40).1 12 0 2) + 1))) else (some (ax_ui (ax_ui m0 12 0 1 r40) 12 0 3 (((ax_ui m0 12 0 1 r40).1 12 0 2) + 1))))))) else some (ax_ui (ax_ui m0 12 0 1 (nI 0)) 12 0 3 (nI s))) = some m1 ∧ zE [12] m0 m1 ∧ m1.1 12 0 1 = nI (zpk t n i) ∧ m1.1 12 0 2 = nI (zps t n i) ∧ m1.1 12 0 3 = nI (zpa t n i) := by
    intro s hs hz m0 h0 h2
    unfold zpk zpa
    rw [hz]
    by_cases e : s < n
    · rw [if_pos e, if_pos e, if_pos e]
      have tk := tk_of (t s) (hb s e)
      obtain ⟨q, hq⟩ : ∃ q, q = zkd (t s) := ⟨_, rfl⟩
      rw [← hq] at tk ⊢
      have hqb := zkd_b (t s)
      rw [← hq] at hqb
      have e1 : zE [12] m0 (ax_ui (ax_ui m0 12 0 1 (nI q)) 12 0 3 (nI (s + 1))) := ((zE.rf _ _).ui (by decide)).ui (by decide)
      by_cases e2 : q ≤ 2
      · rw [if_pos e2]
        obtain ⟨m1, a1, a2, a3, a4, a5⟩ := c_run hn hb (q := q) (by omega) (n - (s + 1)) (s + 1) ax_FU (by omega) (by unfold ax_FU; omega) (ax_ui (ax_ui m0 12 0 1 (nI q)) 12 0 3 (nI (s + 1))) (zTa_E h0 e1 (by decide)) (by rw [zu_j (by decide)]; exact zu_s) zu_s
        refine ⟨m1, ?_, e1.tr a2, a3, ?_, a5⟩
        · rcases (by omega : q = 1 ∨ q = 2) with hq2 | hq2
          · rw [hq2] at tk a1
            simp (disch := omega) only [↓zl_m1, zz_leT, zz_leF, zz_ltT, zz_ltF, zz_eqT, zz_eqF, zz_okN, zz_okF, nI_clamp, nI_add, pk_mul, pk_sub, zz_bS, zz_b2S, if_true, if_false, Bool.true_eq_false, Bool.false_eq_true, eq_self, ne_eq, not_true_eq_false, not_false_eq_true, false_or, or_false, true_or, or_true, and_true, true_and, and_false, false_and, mI_e, mI_e2, mI_le, mI_le2, mI_lt, mI_lt2, mI_ok, bI_0n, bI_1n, bI_orn, Nat.mul_zero, Nat.zero_add, Nat.add_zero, c_no2, c_no3, c_no4, c_no5, c_no6, r_no2, r_no3, r_no4, r_no5, r_no6, zk_inR, zk_in2, zk_in3, zk_wiN, Nat.reduceAdd, ngI_e, ngI_le, ngI_m, cs_cmpN, zl_0, zl_1, zl_2, zl_3, zl_4, zl_5, zl_6, zl_7, zl_8, zl_9, zl_10, zl_12, zl_13, zl_14, zl_15, zl_16, zl_20, zl_32, zl_40, zl_48, zl_57, zl_59, zl_60, zl_63, zl_64, zl_97, zl_99, zl_101, zl_119, zl_120, zl_122, zl_128, zl_136, zl_152, zl_168, zl_184, zl_200, zl_201, zl_202, zl_203, zl_250, zl_255, zl_320, zl_999, zl_1000, zu_s, zu_k, zu_j, zu_i, zu_l, zv_s, zv_k, zv_j, zv_i, zv_l, tk, h2]
            exact a1
          · rw [hq2] at tk a1
            simp (disch := omega) only [↓zl_m1, zz_leT, zz_leF, zz_ltT, zz_ltF, zz_eqT, zz_eqF, zz_okN, zz_okF, nI_clamp, nI_add, pk_mul, pk_sub, zz_bS, zz_b2S, if_true, if_false, Bool.true_eq_false, Bool.false_eq_true, eq_self, ne_eq, not_true_eq_false, not_false_eq_true, false_or, or_false, true_or, or_true, and_true, true_and, and_false, false_and, mI_e, mI_e2, mI_le, mI_le2, mI_lt, mI_lt2, mI_ok, bI_0n, bI_1n, bI_orn, Nat.mul_zero, Nat.zero_add, Nat.add_zero, c_no2, c_no3, c_no4, c_no5, c_no6, r_no2, r_no3, r_no4, r_no5, r_no6, zk_inR, zk_in2, zk_in3, zk_wiN, Nat.reduceAdd, ngI_e, ngI_le, ngI_m, cs_cmpN, zl_0, zl_1, zl_2, zl_3, zl_4, zl_5, zl_6, zl_7, zl_8, zl_9, zl_10, zl_12, zl_13, zl_14, zl_15, zl_16, zl_20, zl_32, zl_40, zl_48, zl_57, zl_59, zl_60, zl_63, zl_64, zl_97, zl_99, zl_101, zl_119, zl_120, zl_122, zl_128, zl_136, zl_152, zl_168, zl_184, zl_200, zl_201, zl_202, zl_203, zl_250, zl_255, zl_320, zl_999, zl_1000, zu_s, zu_k, zu_j, zu_i, zu_l, zv_s, zv_k, zv_j, zv_i, zv_l, tk, h2]
            exact a1
        · rw [a4, zu_j (by decide), zu_j (by decide)]; exact h2
      · rw [if_neg e2]
        refine ⟨ax_ui (ax_ui m0 12 0 1 (nI q)) 12 0 3 (nI (s + 1)), ?_, e1, ?_, ?_, zu_s⟩
        · simp (disch := omega) only [↓zl_m1, zz_leT, zz_leF, zz_ltT, zz_ltF, zz_eqT, zz_eqF, zz_okN, zz_okF, nI_clamp, nI_add, pk_mul, pk_sub, zz_bS, zz_b2S, if_true, if_false, Bool.true_eq_false, Bool.false_eq_true, eq_self, ne_eq, not_true_eq_false, not_false_eq_true, false_or, or_false, true_or, or_true, and_true, true_and, and_false, false_and, mI_e, mI_e2, mI_le, mI_le2, mI_lt, mI_lt2, mI_ok, bI_0n, bI_1n, bI_orn, Nat.mul_zero, Nat.zero_add, Nat.add_zero, c_no2, c_no3, c_no4, c_no5, c_no6, r_no2, r_no3, r_no4, r_no5, r_no6, zk_inR, zk_in2, zk_in3, zk_wiN, Nat.reduceAdd, ngI_e, ngI_le, ngI_m, cs_cmpN, zl_0, zl_1, zl_2, zl_3, zl_4, zl_5, zl_6, zl_7, zl_8, zl_9, zl_10, zl_12, zl_13, zl_14, zl_15, zl_16, zl_20, zl_32, zl_40, zl_48, zl_57, zl_59, zl_60, zl_63, zl_64, zl_97, zl_99, zl_101, zl_119, zl_120, zl_122, zl_128, zl_136, zl_152, zl_168, zl_184, zl_200, zl_201, zl_202, zl_203, zl_250, zl_255, zl_320, zl_999, zl_1000, zu_s, zu_k, zu_j, zu_i, zu_l, zv_s, zv_k, zv_j, zv_i, zv_l, tk, h2]
        · rw [zu_j (by decide)]; exact zu_s
        · rw [zu_j (by decide), zu_j (by decide)]; exact h2
    · rw [if_neg e, if_neg e, if_neg e]
      refine ⟨_, rfl, ((zE.rf _ _).ui (by decide)).ui (by decide), ?_, ?_, zu_s⟩
      · rw [zu_j (by decide)]; exact zu_s
      · rw [zu_j (by decide), zu_j (by decide)]; exact h2
  have key : ∀ k j f, j + k = n → k < f → (zps t n i = zru (fun j => decide (t j = 32)) (n - j) j → ∀ m0, zTa m0 t n → m0.1 12 0 2 = nI j → ∃ m1, F_X4_advance_L4 f m0 = some m1 ∧ zE [12] m0 m1 ∧ m1.1 12 0 1 = nI (zpk t n i) ∧ m1.1 12 0 2 = nI (zps t n i) ∧ m1.1 12 0 3 = nI (zpa t n i)) := by
    refine zz_loop n (fun f => ?_) (fun f j hj ih => ?_)
    · intro hz m0 h0 h2
      rw [zru_e (Nat.le_refl _)] at hz
      obtain ⟨m1, a1, a2⟩ := beg n (Nat.le_refl _) hz m0 h0 h2
      rw [if_neg (Nat.lt_irrefl _)] at a1
      refine ⟨m1, ?_, a2⟩
      have ca := c_atN h0 hn (i := n) (Nat.le_refl _) (by omega)
      have t0 : F_X4_tokenOf mI = some (nI 0) := by decide
      rw [F_X4_advance_L4]
      simp (disch := omega) only [↓zl_m1, zz_leT, zz_leF, zz_ltT, zz_ltF, zz_eqT, zz_eqF, zz_okN, zz_okF, nI_clamp, nI_add, pk_mul, pk_sub, zz_bS, zz_b2S, if_true, if_false, Bool.true_eq_false, Bool.false_eq_true, eq_self, ne_eq, not_true_eq_false, not_false_eq_true, false_or, or_false, true_or, or_true, and_true, true_and, and_false, false_and, mI_e, mI_e2, mI_le, mI_le2, mI_lt, mI_lt2, mI_ok, bI_0n, bI_1n, bI_orn, Nat.mul_zero, Nat.zero_add, Nat.add_zero, c_no2, c_no3, c_no4, c_no5, c_no6, r_no2, r_no3, r_no4, r_no5, r_no6, zk_inR, zk_in2, zk_in3, zk_wiN, Nat.reduceAdd, ngI_e, ngI_le, ngI_m, cs_cmpN, zl_0, zl_1, zl_2, zl_3, zl_4, zl_5, zl_6, zl_7, zl_8, zl_9, zl_10, zl_12, zl_13, zl_14, zl_15, zl_16, zl_20, zl_32, zl_40, zl_48, zl_57, zl_59, zl_60, zl_63, zl_64, zl_97, zl_99, zl_101, zl_119, zl_120, zl_122, zl_128, zl_136, zl_152, zl_168, zl_184, zl_200, zl_201, zl_202, zl_203, zl_250, zl_255, zl_320, zl_999, zl_1000, zu_s, zu_k, zu_j, zu_i, zu_l, zv_s, zv_k, zv_j, zv_i, zv_l, h0.1, h2, ca, t0]
      exact a1
    · intro hz m0 h0 h2
      rw [zru_s hj] at hz
      have ca := c_at h0 hn hj
      have hbj := hb j hj
      by_cases e : t j = 32
      · rw [if_pos (decide_eq_true e)] at hz
        have e1 : zE [12] m0 (ax_ui m0 12 0 2 (nI (j + 1))) := (zE.rf _ _).ui (by decide)
        obtain ⟨m1, a1, a2, a3⟩ := ih hz (ax_ui m0 12 0 2 (nI (j + 1))) (zTa_E h0 e1 (by decide)) zu_s
        refine ⟨m1, ?_, e1.tr a2, a3⟩
        rw [F_X4_advance_L4]
        simp (disch := omega) only [↓zl_m1, zz_leT, zz_leF, zz_ltT, zz_ltF, zz_eqT, zz_eqF, zz_okN, zz_okF, nI_clamp, nI_add, pk_mul, pk_sub, zz_bS, zz_b2S, if_true, if_false, Bool.true_eq_false, Bool.false_eq_true, eq_self, ne_eq, not_true_eq_false, not_false_eq_true, false_or, or_false, true_or, or_true, and_true, true_and, and_false, false_and, mI_e, mI_e2, mI_le, mI_le2, mI_lt, mI_lt2, mI_ok, bI_0n, bI_1n, bI_orn, Nat.mul_zero, Nat.zero_add, Nat.add_zero, c_no2, c_no3, c_no4, c_no5, c_no6, r_no2, r_no3, r_no4, r_no5, r_no6, zk_inR, zk_in2, zk_in3, zk_wiN, Nat.reduceAdd, ngI_e, ngI_le, ngI_m, cs_cmpN, zl_0, zl_1, zl_2, zl_3, zl_4, zl_5, zl_6, zl_7, zl_8, zl_9, zl_10, zl_12, zl_13, zl_14, zl_15, zl_16, zl_20, zl_32, zl_40, zl_48, zl_57, zl_59, zl_60, zl_63, zl_64, zl_97, zl_99, zl_101, zl_119, zl_120, zl_122, zl_128, zl_136, zl_152, zl_168, zl_184, zl_200, zl_201, zl_202, zl_203, zl_250, zl_255, zl_320, zl_999, zl_1000, zu_s, zu_k, zu_j, zu_i, zu_l, zv_s, zv_k, zv_j, zv_i, zv_l, h0.1, h2, ca, e]
        exact a1
      · rw [if_neg (by rw [decide_eq_false e]; decide)] at hz
        obtain ⟨m1, a1, a2⟩ := beg j (by omega) hz m0 h0 h2
        rw [if_pos hj] at a1
        refine ⟨m1, ?_, a2⟩
        rw [F_X4_advance_L4, h0.1, h2, if_neg (nI_ge hj (by omega)), ca, zz_bS, if_neg (show ¬ nI (t j) = 32 by rw [zl_32, nI_eq (by omega) (by omega)]; exact e), zz_bS]
        exact a1
  have e1 : zE [12] m (ax_ui m 12 0 2 (nI i)) := (zE.rf _ _).ui (by decide)
  obtain ⟨m1, a1, a2, a3⟩ := key (n - i) i ax_FU (by omega) (by unfold ax_FU; omega) rfl (ax_ui m 12 0 2 (nI i)) (zTa_E h e1 (by decide)) zu_s
  refine ⟨m1, ?_, e1.tr a2, a3⟩
  unfold F_X4_advance
  rw [h3]
  exact a1
end
/-- the reference's fields of a token -/
def zFr (m m1 : ax_M) : Prop := zE [22] m m1 ∧ ∀ j, j ∉ [12, 13, 14, 15] → m1.1 22 0 j = m.1 22 0 j
theorem zFr.rf (m : ax_M) : zFr m m := ⟨zE.rf _ _, fun _ _ => rfl⟩
theorem zFr.tr {m m1 m2 : ax_M} (h : zFr m m1) (h2 : zFr m1 m2) : zFr m m2 := ⟨h.1.tr h2.1, fun j hj => (h2.2 j hj).trans (h.2 j hj)⟩
theorem zFr.ui {m m1 : ax_M} {j : Nat} {v : Int32} (hj : j ∈ [12, 13, 14, 15]) (h : zFr m m1) : zFr m (ax_ui m1 22 0 j v) := ⟨h.1.ui (by decide), fun i hi => by
  have : i ≠ j := fun z => hi (z ▸ hj)
  rw [zu_j this]
  exact h.2 i hi⟩
theorem zTb_F {m m1 : ax_M} {t : Nat → Nat} {n : Nat} (h : zTb m t n) (e : zFr m m1) : zTb m1 t n := by
  unfold zTb at *
  rw [e.2 10 (by decide), (e.1 30 (by decide)).1]
  exact h
def ztI (k l : Nat) : Int32 := if k = 0 then nI 101 else if k = 1 then nI 119 else if k = 2 then (if l ≤ 3 then nI 48 else nI 120) else if k = 3 then nI 59 else nI 120
section
variable {t : Nat → Nat} {n : Nat}
theorem zvl_b (hb : ∀ i, i < n → t i < 256) {s : Nat} : ∀ k, s + k ≤ n → k ≤ 3 → zvl t s k ≤ 22977 := by
  intro k hk h3
  rcases (by omega : k = 0 ∨ k = 1 ∨ k = 2 ∨ k = 3) with rfl | rfl | rfl | rfl
  · simp [zvl]
  · have := hb (s + 0) (by omega); simp only [zvl] at *; omega
  · have := hb (s + 0) (by omega); have := hb (s + 1) (by omega); simp only [zvl] at *; omega
  · have := hb (s + 0) (by omega); have := hb (s + 1) (by omega); have := hb (s + 2) (by omega); simp only [zvl] at *; omega
theorem r_L50 (hn : n ≤ 250) (hb : ∀ i, i < n → t i < 256) : ∀ k j f, j + k = n → k < f → (∀ m, zTb m t n → m.1 22 0 13 = nI j → ∃ m1, F_X11_next_L50 f m = some m1 ∧ zFr m m1 ∧ m1.1 22 0 12 = m.1 22 0 12 ∧ m1.1 22 0 13 = nI (zru (fun j => decide (zkd (t j) = 1)) (n - j) j) ∧ m1.1 22 0 14 = nI 119) := by
  refine zz_loop n (fun f => ?_) (fun f j hj ih => ?_)
  · intro m h h3
    refine ⟨ax_ui m 22 0 14 (nI 119), ?_, (zFr.rf m).ui (by decide), zu_j (by decide), ?_, zu_s⟩
    · rw [F_X11_next_L50, h.1, h3, if_pos (Int32.le_refl _)]; rfl
    · rw [zu_j (by decide), h3, zru_e (Nat.le_refl _)]
  · intro m h h3
    have le := tk_le (t j) (hb j hj)
    rw [zru_s hj]
    by_cases e : zkd (t j) = 1
    · rw [decide_eq_true e] at le
      obtain ⟨m1, a1, a2, a3, a4, a5⟩ := ih (ax_ui m 22 0 13 (nI (j + 1))) (zTb_F h ((zFr.rf m).ui (by decide))) zu_s
      rw [if_pos (decide_eq_true e)]
      refine ⟨m1, ?_, ((zFr.rf m).ui (by decide)).tr a2, a3.trans (zu_j (by decide)), a4, a5⟩
      rw [F_X11_next_L50]
      simp (disch := omega) only [↓zl_m1, zz_leT, zz_leF, zz_ltT, zz_ltF, zz_eqT, zz_eqF, zz_okN, zz_okF, nI_clamp, nI_add, pk_mul, pk_sub, zz_bS, zz_b2S, if_true, if_false, Bool.true_eq_false, Bool.false_eq_true, eq_self, ne_eq, not_true_eq_false, not_false_eq_true, false_or, or_false, true_or, or_true, and_true, true_and, and_false, false_and, mI_e, mI_e2, mI_le, mI_le2, mI_lt, mI_lt2, mI_ok, bI_0n, bI_1n, bI_orn, Nat.mul_zero, Nat.zero_add, Nat.add_zero, c_no2, c_no3, c_no4, c_no5, c_no6, r_no2, r_no3, r_no4, r_no5, r_no6, zk_inR, zk_in2, zk_in3, zk_wiN, Nat.reduceAdd, ngI_e, ngI_le, ngI_m, cs_cmpN, zl_0, zl_1, zl_2, zl_3, zl_4, zl_5, zl_6, zl_7, zl_8, zl_9, zl_10, zl_12, zl_13, zl_14, zl_15, zl_16, zl_20, zl_32, zl_40, zl_48, zl_57, zl_59, zl_60, zl_63, zl_64, zl_97, zl_99, zl_101, zl_119, zl_120, zl_122, zl_128, zl_136, zl_152, zl_168, zl_184, zl_200, zl_201, zl_202, zl_203, zl_250, zl_255, zl_320, zl_999, zl_1000, h.1, h3, h.2 j hj, le]
      exact a1
    · rw [decide_eq_false e] at le
      rw [if_neg (by rw [decide_eq_false e]; decide)]
      refine ⟨ax_ui m 22 0 14 (nI 119), ?_, (zFr.rf m).ui (by decide), zu_j (by decide), ?_, zu_s⟩
      · rw [F_X11_next_L50]
        simp (disch := omega) only [↓zl_m1, zz_leT, zz_leF, zz_ltT, zz_ltF, zz_eqT, zz_eqF, zz_okN, zz_okF, nI_clamp, nI_add, pk_mul, pk_sub, zz_bS, zz_b2S, if_true, if_false, Bool.true_eq_false, Bool.false_eq_true, eq_self, ne_eq, not_true_eq_false, not_false_eq_true, false_or, or_false, true_or, or_true, and_true, true_and, and_false, false_and, mI_e, mI_e2, mI_le, mI_le2, mI_lt, mI_lt2, mI_ok, bI_0n, bI_1n, bI_orn, Nat.mul_zero, Nat.zero_add, Nat.add_zero, c_no2, c_no3, c_no4, c_no5, c_no6, r_no2, r_no3, r_no4, r_no5, r_no6, zk_inR, zk_in2, zk_in3, zk_wiN, Nat.reduceAdd, ngI_e, ngI_le, ngI_m, cs_cmpN, zl_0, zl_1, zl_2, zl_3, zl_4, zl_5, zl_6, zl_7, zl_8, zl_9, zl_10, zl_12, zl_13, zl_14, zl_15, zl_16, zl_20, zl_32, zl_40, zl_48, zl_57, zl_59, zl_60, zl_63, zl_64, zl_97, zl_99, zl_101, zl_119, zl_120, zl_122, zl_128, zl_136, zl_152, zl_168, zl_184, zl_200, zl_201, zl_202, zl_203, zl_250, zl_255, zl_320, zl_999, zl_1000, h.1, h3, h.2 j hj, le]
      · rw [zu_j (by decide), h3]
theorem r_L81 (hn : n ≤ 250) (hb : ∀ i, i < n → t i < 256) {s : Nat} : ∀ k j f, j + k = n → k < f → (s < j → ∀ m, zTb m t n → m.1 22 0 12 = nI s → m.1 22 0 13 = nI j → m.1 22 0 15 = nI (zvl t s (min 3 (j - s))) → ∃ m1, F_X11_next_L81 f m = some m1 ∧ zFr m m1 ∧ m1.1 22 0 12 = nI s ∧ m1.1 22 0 13 = nI (zru (fun j => decide (zkd (t j) = 2)) (n - j) j) ∧ m1.1 22 0 14 = ztI 2 (zru (fun j => decide (zkd (t j) = 2)) (n - j) j - s) ∧ m1.1 22 0 15 = nI (zvl t s (min 3 (zru (fun j => decide (zkd (t j) = 2)) (n - j) j - s)))) := by
  have stop : ∀ j, s < j → j ≤ n → ∀ m, zTb m t n → m.1 22 0 12 = nI s → m.1 22 0 13 = nI j → m.1 22 0 15 = nI (zvl t s (min 3 (j - s))) → ∃ m1, (if nI j - nI s ≤ nI 3 then some (ax_ui m 22 0 14 (nI 48)) else some (ax_ui m 22 0 14 (nI 120))) = some m1 ∧ zFr m m1 ∧ m1.1 22 0 12 = nI s ∧ m1.1 22 0 13 = nI j ∧ m1.1 22 0 14 = ztI 2 (j - s) ∧ m1.1 22 0 15 = nI (zvl t s (min 3 (j - s))) := by
    intro j hs hj m h h2 h3 h5
    rw [pk_sub (by omega)]
    by_cases e : j - s ≤ 3
    · refine ⟨ax_ui m 22 0 14 (nI 48), by rw [if_pos (nI_le e (by omega))], (zFr.rf m).ui (by decide), (zu_j (by decide)).trans h2, (zu_j (by decide)).trans h3, ?_, (zu_j (by decide)).trans h5⟩
      rw [zu_s]; unfold ztI; rw [if_neg (by omega), if_neg (by omega), if_pos rfl, if_pos e]
    · refine ⟨ax_ui m 22 0 14 (nI 120), by rw [if_neg (nI_ge (by omega) (by omega))], (zFr.rf m).ui (by decide), (zu_j (by decide)).trans h2, (zu_j (by decide)).trans h3, ?_, (zu_j (by decide)).trans h5⟩
      rw [zu_s]; unfold ztI; rw [if_neg (by omega), if_neg (by omega), if_pos rfl, if_neg e]
  refine zz_loop n (fun f => ?_) (fun f j hj ih => ?_)
  · intro hs m h h2 h3 h5
    obtain ⟨m1, a1, a2⟩ := stop n hs (Nat.le_refl _) m h h2 h3 h5
    rw [zru_e (Nat.le_refl _)]
    refine ⟨m1, ?_, a2⟩
    rw [F_X11_next_L81, h.1, h3, if_pos (Int32.le_refl _), h2]
    exact a1
  · intro hs m h h2 h3 h5
    have di := tk_di (t j) (hb j hj)
    rw [zru_s hj]
    by_cases e : zkd (t j) = 2
    · rw [decide_eq_true e] at di
      have hd := zkd_2 e
      rw [if_pos (decide_eq_true e)]
      by_cases e3 : 3 ≤ j - s
      · obtain ⟨m1, a1, a2, a3⟩ := ih (by omega) (ax_ui m 22 0 13 (nI (j + 1))) (zTb_F h ((zFr.rf m).ui (by decide))) ((zu_j (by decide)).trans h2) zu_s (by
          rw [zu_j (by decide), h5, show min 3 (j + 1 - s) = min 3 (j - s) by omega])
        refine ⟨m1, ?_, ((zFr.rf m).ui (by decide)).tr a2, a3⟩
        rw [F_X11_next_L81]
        simp (disch := omega) only [↓zl_m1, zz_leT, zz_leF, zz_ltT, zz_ltF, zz_eqT, zz_eqF, zz_okN, zz_okF, nI_clamp, nI_add, pk_mul, pk_sub, zz_bS, zz_b2S, if_true, if_false, Bool.true_eq_false, Bool.false_eq_true, eq_self, ne_eq, not_true_eq_false, not_false_eq_true, false_or, or_false, true_or, or_true, and_true, true_and, and_false, false_and, mI_e, mI_e2, mI_le, mI_le2, mI_lt, mI_lt2, mI_ok, bI_0n, bI_1n, bI_orn, Nat.mul_zero, Nat.zero_add, Nat.add_zero, c_no2, c_no3, c_no4, c_no5, c_no6, r_no2, r_no3, r_no4, r_no5, r_no6, zk_inR, zk_in2, zk_in3, zk_wiN, Nat.reduceAdd, ngI_e, ngI_le, ngI_m, cs_cmpN, zl_0, zl_1, zl_2, zl_3, zl_4, zl_5, zl_6, zl_7, zl_8, zl_9, zl_10, zl_12, zl_13, zl_14, zl_15, zl_16, zl_20, zl_32, zl_40, zl_48, zl_57, zl_59, zl_60, zl_63, zl_64, zl_97, zl_99, zl_101, zl_119, zl_120, zl_122, zl_128, zl_136, zl_152, zl_168, zl_184, zl_200, zl_201, zl_202, zl_203, zl_250, zl_255, zl_320, zl_999, zl_1000, h.1, h2, h3, h.2 j hj, di]
        exact a1
      · have hv : zvl t s (j - s + 1) = 10 * zvl t s (j - s) + (t j - 48) := by
          rw [zvl, show s + (j - s) = j by omega]
        have hz := zvl_b (t := t) hb (s := s) (j - s) (by omega) (by omega)
        have hbj := hb j hj
        have e1 : zFr m (ax_ui (ax_ui m 22 0 15 (nI (10 * zvl t s (j - s) + t j - 48))) 22 0 13 (nI (j + 1))) := ((zFr.rf m).ui (by decide)).ui (by decide)
        obtain ⟨m1, a1, a2, a3⟩ := ih (by omega) (ax_ui (ax_ui m 22 0 15 (nI (10 * zvl t s (j - s) + t j - 48))) 22 0 13 (nI (j + 1))) (zTb_F h e1) (by rw [zu_j (by decide), zu_j (by decide)]; exact h2) zu_s (by
          rw [zu_j (by decide), zu_s, show min 3 (j + 1 - s) = j - s + 1 by omega, hv, show 10 * zvl t s (j - s) + t j - 48 = 10 * zvl t s (j - s) + (t j - 48) by omega])
        refine ⟨m1, ?_, e1.tr a2, a3⟩
        have h5 : m.1 22 0 15 = nI (zvl t s (j - s)) := by rw [h5, show min 3 (j - s) = j - s by omega]
        rw [F_X11_next_L81]
        simp (disch := omega) only [↓zl_m1, zz_leT, zz_leF, zz_ltT, zz_ltF, zz_eqT, zz_eqF, zz_okN, zz_okF, nI_clamp, nI_add, pk_mul, pk_sub, zz_bS, zz_b2S, if_true, if_false, Bool.true_eq_false, Bool.false_eq_true, eq_self, ne_eq, not_true_eq_false, not_false_eq_true, false_or, or_false, true_or, or_true, and_true, true_and, and_false, false_and, mI_e, mI_e2, mI_le, mI_le2, mI_lt, mI_lt2, mI_ok, bI_0n, bI_1n, bI_orn, Nat.mul_zero, Nat.zero_add, Nat.add_zero, c_no2, c_no3, c_no4, c_no5, c_no6, r_no2, r_no3, r_no4, r_no5, r_no6, zk_inR, zk_in2, zk_in3, zk_wiN, Nat.reduceAdd, ngI_e, ngI_le, ngI_m, cs_cmpN, zl_0, zl_1, zl_2, zl_3, zl_4, zl_5, zl_6, zl_7, zl_8, zl_9, zl_10, zl_12, zl_13, zl_14, zl_15, zl_16, zl_20, zl_32, zl_40, zl_48, zl_57, zl_59, zl_60, zl_63, zl_64, zl_97, zl_99, zl_101, zl_119, zl_120, zl_122, zl_128, zl_136, zl_152, zl_168, zl_184, zl_200, zl_201, zl_202, zl_203, zl_250, zl_255, zl_320, zl_999, zl_1000, zu_s, zu_k, zu_j, zu_i, zu_l, zv_s, zv_k, zv_j, zv_i, zv_l, h.1, h2, h3, h.2 j hj, di, h5]
        exact a1
    · rw [decide_eq_false e] at di
      rw [if_neg (by rw [decide_eq_false e]; decide)]
      obtain ⟨m1, a1, a2⟩ := stop j hs (by omega) m h h2 h3 h5
      refine ⟨m1, ?_, a2⟩
      rw [F_X11_next_L81, h.1, h3, if_neg (nI_ge hj (by omega)), if_pos (zz_okN (by omega) (by omega)), nI_clamp (by omega), h.2 j hj, di, zz_bS, if_pos (show bI false = 0 from rfl), h2]
      exact a1
theorem r_nxt {m : ax_M} (h : zTb m t n) (hn : n ≤ 250) (hb : ∀ i, i < n → t i < 256) {i : Nat} (hi : i ≤ n) (h3 : m.1 22 0 13 = nI i) : ∃ m1, F_X11_next m = some m1 ∧ zFr m m1 ∧ m1.1 22 0 12 = nI (zps t n i) ∧ m1.1 22 0 13 = nI (zpa t n i) ∧ m1.1 22 0 14 = ztI (zpk t n i) (zpa t n i - zps t n i) ∧ (zpk t n i = 2 → m1.1 22 0 15 = nI (zvl t (zps t n i) (min 3 (zpa t n i - zps t n i)))) := by
  have key : ∀ k j f, j + k = n → k < f → (zps t n i = zru (fun j => decide (t j = 32)) (n - j) j → ∀ m0, zTb m0 t n → m0.1 22 0 12 = nI j → ∃ m1, F_X11_next_L4 f m0 = some m1 ∧ zFr m0 m1 ∧ m1.1 22 0 12 = nI (zps t n i) ∧ m1.1 22 0 13 = nI (zpa t n i) ∧ m1.1 22 0 14 = ztI (zpk t n i) (zpa t n i - zps t n i) ∧ (zpk t n i = 2 → m1.1 22 0 15 = nI (zvl t (zps t n i) (min 3 (zpa t n i - zps t n i))))) := by
    refine zz_loop n (fun f => ?_) (fun f j hj ih => ?_)
    · intro hz m0 h0 h2
      rw [zru_e (Nat.le_refl _)] at hz
      unfold zpk zpa
      rw [hz, if_neg (Nat.lt_irrefl _), if_neg (Nat.lt_irrefl _)]
      refine ⟨ax_ui (ax_ui m0 22 0 13 (nI n)) 22 0 14 (nI 101), ?_, ((zFr.rf m0).ui (by decide)).ui (by decide), ?_, ?_, zu_s, fun h => by omega⟩
      · rw [F_X11_next_L4]
        simp (disch := omega) only [↓zl_m1, zz_leT, zz_leF, zz_ltT, zz_ltF, zz_eqT, zz_eqF, zz_okN, zz_okF, nI_clamp, nI_add, pk_mul, pk_sub, zz_bS, zz_b2S, if_true, if_false, Bool.true_eq_false, Bool.false_eq_true, eq_self, ne_eq, not_true_eq_false, not_false_eq_true, false_or, or_false, true_or, or_true, and_true, true_and, and_false, false_and, mI_e, mI_e2, mI_le, mI_le2, mI_lt, mI_lt2, mI_ok, bI_0n, bI_1n, bI_orn, Nat.mul_zero, Nat.zero_add, Nat.add_zero, c_no2, c_no3, c_no4, c_no5, c_no6, r_no2, r_no3, r_no4, r_no5, r_no6, zk_inR, zk_in2, zk_in3, zk_wiN, Nat.reduceAdd, ngI_e, ngI_le, ngI_m, cs_cmpN, zl_0, zl_1, zl_2, zl_3, zl_4, zl_5, zl_6, zl_7, zl_8, zl_9, zl_10, zl_12, zl_13, zl_14, zl_15, zl_16, zl_20, zl_32, zl_40, zl_48, zl_57, zl_59, zl_60, zl_63, zl_64, zl_97, zl_99, zl_101, zl_119, zl_120, zl_122, zl_128, zl_136, zl_152, zl_168, zl_184, zl_200, zl_201, zl_202, zl_203, zl_250, zl_255, zl_320, zl_999, zl_1000, zu_s, zu_k, zu_j, zu_i, zu_l, zv_s, zv_k, zv_j, zv_i, zv_l, h0.1, h2]
      · rw [zu_j (by decide), zu_j (by decide)]; exact h2
      · rw [zu_j (by decide)]; exact zu_s
    · intro hz m0 h0 h2
      rw [zru_s hj] at hz
      have hbj := hb j hj
      by_cases e : t j = 32
      · rw [if_pos (decide_eq_true e)] at hz
        obtain ⟨m1, a1, a2, a3⟩ := ih hz (ax_ui m0 22 0 12 (nI (j + 1))) (zTb_F h0 ((zFr.rf m0).ui (by decide))) zu_s
        refine ⟨m1, ?_, ((zFr.rf m0).ui (by decide)).tr a2, a3⟩
        rw [F_X11_next_L4]
        simp (disch := omega) only [↓zl_m1, zz_leT, zz_leF, zz_ltT, zz_ltF, zz_eqT, zz_eqF, zz_okN, zz_okF, nI_clamp, nI_add, pk_mul, pk_sub, zz_bS, zz_b2S, if_true, if_false, Bool.true_eq_false, Bool.false_eq_true, eq_self, ne_eq, not_true_eq_false, not_false_eq_true, false_or, or_false, true_or, or_true, and_true, true_and, and_false, false_and, mI_e, mI_e2, mI_le, mI_le2, mI_lt, mI_lt2, mI_ok, bI_0n, bI_1n, bI_orn, Nat.mul_zero, Nat.zero_add, Nat.add_zero, c_no2, c_no3, c_no4, c_no5, c_no6, r_no2, r_no3, r_no4, r_no5, r_no6, zk_inR, zk_in2, zk_in3, zk_wiN, Nat.reduceAdd, ngI_e, ngI_le, ngI_m, cs_cmpN, zl_0, zl_1, zl_2, zl_3, zl_4, zl_5, zl_6, zl_7, zl_8, zl_9, zl_10, zl_12, zl_13, zl_14, zl_15, zl_16, zl_20, zl_32, zl_40, zl_48, zl_57, zl_59, zl_60, zl_63, zl_64, zl_97, zl_99, zl_101, zl_119, zl_120, zl_122, zl_128, zl_136, zl_152, zl_168, zl_184, zl_200, zl_201, zl_202, zl_203, zl_250, zl_255, zl_320, zl_999, zl_1000, zu_s, zu_k, zu_j, zu_i, zu_l, zv_s, zv_k, zv_j, zv_i, zv_l, h0.1, h2, h0.2 j hj, e]
        exact a1
      · rw [if_neg (by rw [decide_eq_false e]; decide)] at hz
        have le := tk_le (t j) hbj
        have di := tk_di (t j) hbj
        have zb := zkd_b (t j)
        have e2 : zFr m0 (ax_ui (ax_ui m0 22 0 13 (nI j)) 22 0 13 (nI (j + 1))) := ((zFr.rf m0).ui (by decide)).ui (by decide)
        unfold zpk zpa
        rw [hz, if_pos hj, if_pos hj]
        obtain ⟨q, hq⟩ : ∃ q, q = zkd (t j) := ⟨_, rfl⟩
        rw [← hq] at le di zb ⊢
        rcases (by omega : q = 1 ∨ q = 2 ∨ q = 3 ∨ q = 4) with rfl | rfl | rfl | rfl
        · obtain ⟨m1, a1, a2, a3, a4, a5⟩ := r_L50 hn hb (n - (j + 1)) (j + 1) ax_FU (by omega) (by unfold ax_FU; omega) (ax_ui (ax_ui m0 22 0 13 (nI j)) 22 0 13 (nI (j + 1))) (zTb_F h0 e2) zu_s
          rw [if_pos (by omega)]
          refine ⟨m1, ?_, e2.tr a2, ?_, a4, a5, fun h => by omega⟩
          · rw [decide_eq_true rfl] at le
            rw [F_X11_next_L4]
            simp (disch := omega) only [↓zl_m1, zz_leT, zz_leF, zz_ltT, zz_ltF, zz_eqT, zz_eqF, zz_okN, zz_okF, nI_clamp, nI_add, pk_mul, pk_sub, zz_bS, zz_b2S, if_true, if_false, Bool.true_eq_false, Bool.false_eq_true, eq_self, ne_eq, not_true_eq_false, not_false_eq_true, false_or, or_false, true_or, or_true, and_true, true_and, and_false, false_and, mI_e, mI_e2, mI_le, mI_le2, mI_lt, mI_lt2, mI_ok, bI_0n, bI_1n, bI_orn, Nat.mul_zero, Nat.zero_add, Nat.add_zero, c_no2, c_no3, c_no4, c_no5, c_no6, r_no2, r_no3, r_no4, r_no5, r_no6, zk_inR, zk_in2, zk_in3, zk_wiN, Nat.reduceAdd, ngI_e, ngI_le, ngI_m, cs_cmpN, zl_0, zl_1, zl_2, zl_3, zl_4, zl_5, zl_6, zl_7, zl_8, zl_9, zl_10, zl_12, zl_13, zl_14, zl_15, zl_16, zl_20, zl_32, zl_40, zl_48, zl_57, zl_59, zl_60, zl_63, zl_64, zl_97, zl_99, zl_101, zl_119, zl_120, zl_122, zl_128, zl_136, zl_152, zl_168, zl_184, zl_200, zl_201, zl_202, zl_203, zl_250, zl_255, zl_320, zl_999, zl_1000, zu_s, zu_k, zu_j, zu_i, zu_l, zv_s, zv_k, zv_j, zv_i, zv_l, h0.1, h2, h0.2 j hj, le]
            exact a1
          · rw [a3, zu_j (by decide), zu_j (by decide)]; exact h2
        · have hd := zkd_2 hq.symm
          have e3 : zFr m0 (ax_ui (ax_ui (ax_ui m0 22 0 13 (nI j)) 22 0 13 (nI (j + 1))) 22 0 15 (nI (t j - 48))) := e2.ui (by decide)
          obtain ⟨m1, a1, a2, a3, a4, a5, a6⟩ := r_L81 hn hb (s := j) (n - (j + 1)) (j + 1) ax_FU (by omega) (by unfold ax_FU; omega) (by omega) (ax_ui (ax_ui (ax_ui m0 22 0 13 (nI j)) 22 0 13 (nI (j + 1))) 22 0 15 (nI (t j - 48))) (zTb_F h0 e3) (by rw [zu_j (by decide), zu_j (by decide), zu_j (by decide)]; exact h2) (by rw [zu_j (by decide)]; exact zu_s) (by
            rw [zu_s, show min 3 (j + 1 - j) = 1 by omega, zvl, zvl, Nat.add_zero, Nat.mul_zero, Nat.zero_add])
          rw [if_pos (by omega)]
          refine ⟨m1, ?_, e3.tr a2, a3, a4, a5, fun _ => a6⟩
          rw [decide_eq_false (by omega)] at le
          rw [decide_eq_true rfl] at di
          rw [F_X11_next_L4]
          simp (disch := omega) only [↓zl_m1, zz_leT, zz_leF, zz_ltT, zz_ltF, zz_eqT, zz_eqF, zz_okN, zz_okF, nI_clamp, nI_add, pk_mul, pk_sub, zz_bS, zz_b2S, if_true, if_false, Bool.true_eq_false, Bool.false_eq_true, eq_self, ne_eq, not_true_eq_false, not_false_eq_true, false_or, or_false, true_or, or_true, and_true, true_and, and_false, false_and, mI_e, mI_e2, mI_le, mI_le2, mI_lt, mI_lt2, mI_ok, bI_0n, bI_1n, bI_orn, Nat.mul_zero, Nat.zero_add, Nat.add_zero, c_no2, c_no3, c_no4, c_no5, c_no6, r_no2, r_no3, r_no4, r_no5, r_no6, zk_inR, zk_in2, zk_in3, zk_wiN, Nat.reduceAdd, ngI_e, ngI_le, ngI_m, cs_cmpN, zl_0, zl_1, zl_2, zl_3, zl_4, zl_5, zl_6, zl_7, zl_8, zl_9, zl_10, zl_12, zl_13, zl_14, zl_15, zl_16, zl_20, zl_32, zl_40, zl_48, zl_57, zl_59, zl_60, zl_63, zl_64, zl_97, zl_99, zl_101, zl_119, zl_120, zl_122, zl_128, zl_136, zl_152, zl_168, zl_184, zl_200, zl_201, zl_202, zl_203, zl_250, zl_255, zl_320, zl_999, zl_1000, zu_s, zu_k, zu_j, zu_i, zu_l, zv_s, zv_k, zv_j, zv_i, zv_l, h0.1, h2, h0.2 j hj, le, di]
          exact a1
        · have h59 := zkd_3.mp hq.symm
          rw [if_neg (by omega)]
          refine ⟨ax_ui (ax_ui (ax_ui m0 22 0 13 (nI j)) 22 0 13 (nI (j + 1))) 22 0 14 (nI 59), ?_, e2.ui (by decide), ?_, ?_, zu_s, fun h => by omega⟩
          · rw [decide_eq_false (by omega)] at le di
            rw [F_X11_next_L4]
            simp (disch := omega) only [↓zl_m1, zz_leT, zz_leF, zz_ltT, zz_ltF, zz_eqT, zz_eqF, zz_okN, zz_okF, nI_clamp, nI_add, pk_mul, pk_sub, zz_bS, zz_b2S, if_true, if_false, Bool.true_eq_false, Bool.false_eq_true, eq_self, ne_eq, not_true_eq_false, not_false_eq_true, false_or, or_false, true_or, or_true, and_true, true_and, and_false, false_and, mI_e, mI_e2, mI_le, mI_le2, mI_lt, mI_lt2, mI_ok, bI_0n, bI_1n, bI_orn, Nat.mul_zero, Nat.zero_add, Nat.add_zero, c_no2, c_no3, c_no4, c_no5, c_no6, r_no2, r_no3, r_no4, r_no5, r_no6, zk_inR, zk_in2, zk_in3, zk_wiN, Nat.reduceAdd, ngI_e, ngI_le, ngI_m, cs_cmpN, zl_0, zl_1, zl_2, zl_3, zl_4, zl_5, zl_6, zl_7, zl_8, zl_9, zl_10, zl_12, zl_13, zl_14, zl_15, zl_16, zl_20, zl_32, zl_40, zl_48, zl_57, zl_59, zl_60, zl_63, zl_64, zl_97, zl_99, zl_101, zl_119, zl_120, zl_122, zl_128, zl_136, zl_152, zl_168, zl_184, zl_200, zl_201, zl_202, zl_203, zl_250, zl_255, zl_320, zl_999, zl_1000, zu_s, zu_k, zu_j, zu_i, zu_l, zv_s, zv_k, zv_j, zv_i, zv_l, h0.1, h2, h0.2 j hj, h59]
            rw [h59] at le di
            simp (disch := omega) only [↓zl_m1, zz_leT, zz_leF, zz_ltT, zz_ltF, zz_eqT, zz_eqF, zz_okN, zz_okF, nI_clamp, nI_add, pk_mul, pk_sub, zz_bS, zz_b2S, if_true, if_false, Bool.true_eq_false, Bool.false_eq_true, eq_self, ne_eq, not_true_eq_false, not_false_eq_true, false_or, or_false, true_or, or_true, and_true, true_and, and_false, false_and, mI_e, mI_e2, mI_le, mI_le2, mI_lt, mI_lt2, mI_ok, bI_0n, bI_1n, bI_orn, Nat.mul_zero, Nat.zero_add, Nat.add_zero, c_no2, c_no3, c_no4, c_no5, c_no6, r_no2, r_no3, r_no4, r_no5, r_no6, zk_inR, zk_in2, zk_in3, zk_wiN, Nat.reduceAdd, ngI_e, ngI_le, ngI_m, cs_cmpN, zl_0, zl_1, zl_2, zl_3, zl_4, zl_5, zl_6, zl_7, zl_8, zl_9, zl_10, zl_12, zl_13, zl_14, zl_15, zl_16, zl_20, zl_32, zl_40, zl_48, zl_57, zl_59, zl_60, zl_63, zl_64, zl_97, zl_99, zl_101, zl_119, zl_120, zl_122, zl_128, zl_136, zl_152, zl_168, zl_184, zl_200, zl_201, zl_202, zl_203, zl_250, zl_255, zl_320, zl_999, zl_1000, zu_s, zu_k, zu_j, zu_i, zu_l, zv_s, zv_k, zv_j, zv_i, zv_l, le, di]
          · rw [zu_j (by decide), zu_j (by decide), zu_j (by decide)]; exact h2
          · rw [zu_j (by decide)]; exact zu_s
        · have h59 : t j ≠ 59 := fun z => by have := zkd_3.mpr z; omega
          rw [if_neg (by omega)]
          refine ⟨ax_ui (ax_ui (ax_ui m0 22 0 13 (nI j)) 22 0 13 (nI (j + 1))) 22 0 14 (nI 120), ?_, e2.ui (by decide), ?_, ?_, zu_s, fun h => by omega⟩
          · rw [decide_eq_false (by omega)] at le di
            rw [F_X11_next_L4]
            simp (disch := omega) only [↓zl_m1, zz_leT, zz_leF, zz_ltT, zz_ltF, zz_eqT, zz_eqF, zz_okN, zz_okF, nI_clamp, nI_add, pk_mul, pk_sub, zz_bS, zz_b2S, if_true, if_false, Bool.true_eq_false, Bool.false_eq_true, eq_self, ne_eq, not_true_eq_false, not_false_eq_true, false_or, or_false, true_or, or_true, and_true, true_and, and_false, false_and, mI_e, mI_e2, mI_le, mI_le2, mI_lt, mI_lt2, mI_ok, bI_0n, bI_1n, bI_orn, Nat.mul_zero, Nat.zero_add, Nat.add_zero, c_no2, c_no3, c_no4, c_no5, c_no6, r_no2, r_no3, r_no4, r_no5, r_no6, zk_inR, zk_in2, zk_in3, zk_wiN, Nat.reduceAdd, ngI_e, ngI_le, ngI_m, cs_cmpN, zl_0, zl_1, zl_2, zl_3, zl_4, zl_5, zl_6, zl_7, zl_8, zl_9, zl_10, zl_12, zl_13, zl_14, zl_15, zl_16, zl_20, zl_32, zl_40, zl_48, zl_57, zl_59, zl_60, zl_63, zl_64, zl_97, zl_99, zl_101, zl_119, zl_120, zl_122, zl_128, zl_136, zl_152, zl_168, zl_184, zl_200, zl_201, zl_202, zl_203, zl_250, zl_255, zl_320, zl_999, zl_1000, zu_s, zu_k, zu_j, zu_i, zu_l, zv_s, zv_k, zv_j, zv_i, zv_l, h0.1, h2, h0.2 j hj, le, di]
          · rw [zu_j (by decide), zu_j (by decide), zu_j (by decide)]; exact h2
          · rw [zu_j (by decide)]; exact zu_s
  obtain ⟨m1, a1, a2, a3⟩ := key (n - i) i ax_FU (by omega) (by unfold ax_FU; omega) rfl (ax_ui m 22 0 12 (nI i)) (zTb_F h ((zFr.rf m).ui (by decide))) zu_s
  refine ⟨m1, ?_, ((zFr.rf m).ui (by decide)).tr a2, a3⟩
  unfold F_X11_next
  rw [h3]
  exact a1
end
