/-! THE CLASS'S WAYS; calls way, bar, reach, together -/
theorem zn_any {f : Nat → Bool} {e : Nat} (he : e < 64) : zn f e = zany (fun c => f c && znb c e) 64 := by
  cases h : zn f e with
  | true =>
    obtain ⟨d, hd, h1, h2⟩ := (zn_t he).mp h
    exact (zany_t.mpr ⟨d, hd, by show (f d && znb d e) = true; rw [h1, h2]; rfl⟩).symm
  | false =>
    refine (zany_f.mpr (fun d hd => ?_)).symm
    show (f d && znb d e) = false
    cases h1 : f d with
    | false => rfl
    | true =>
      cases h2 : znb d e with
      | false => rfl
      | true => rw [(zn_t he).mpr ⟨d, hd, h2, h1⟩] at h; cases h
theorem zWb_new {op : Nat → Bool} {a t n e : Nat} (he : e < 64) : (zn (zls (zWb op a t) n) e && ((op e || decide (e = a)) && !zWb op a t n e)) = zls (zWb op a t) (n + 1) e := by
  rw [← show (zany (fun c => (zls (zWb op a t) n c && true) && znb c e) 64 && (!zWb op a t n e && (op e || decide (e = a)))) = zls (zWb op a t) (n + 1) e from zB_new he, zn_any he]
  rw [zany_congr (f := fun c => (zls (zWb op a t) n c && true) && znb c e) (g := fun c => zls (zWb op a t) n c && znb c e) (fun c _ => by rw [Bool.and_true]), Bool.and_comm (op e || decide (e = a))]
theorem zWb_un {op : Nat → Bool} {a t n e : Nat} : (((op e || decide (e = a)) && !zWb op a t n e) && !zls (zWb op a t) (n + 1) e) = ((op e || decide (e = a)) && !zWb op a t (n + 1) e) := by
  show (_ && !(zWb op a t (n + 1) e && !zWb op a t n e)) = _
  cases h : zWb op a t n e with
  | true => rw [show zWb op a t (n + 1) e = true from zit_m1 h]; simp
  | false => simp
theorem c_find {m : ax_M} (op : Nat → Bool) {a t : Nat} (ha : a < 64) (ht : t < 64) : ∃ m1, F_X9_find m (nI a) (nI t) (lb op) = some (zlo2 (zway op a t), m1) ∧ zE [14] m m1 ∧ (∀ k, zway op a t = some k → a ≠ t → ∀ j, j < k → m1.2 14 0 j = lb (zls (zWb op a t) j)) := by
  by_cases e0 : a = t
  · subst e0
    refine ⟨m, ?_, zE.rf _ _, fun k h1 h2 => absurd rfl h2⟩
    unfold F_X9_find
    rw [if_pos rfl, zway_0]; rfl
  cases e1 : op t with
  | false =>
    refine ⟨m, ?_, zE.rf _ _, fun k h1 => ?_⟩
    · unfold F_X9_find
      simp (disch := omega) only [↓zl_m1, zz_leT, zz_leF, zz_ltT, zz_ltF, zz_eqT, zz_eqF, zz_okN, zz_okF, nI_clamp, nI_add, pk_mul, pk_sub, zz_bS, zz_b2S, if_true, if_false, Bool.true_eq_false, Bool.false_eq_true, eq_self, ne_eq, not_true_eq_false, not_false_eq_true, false_or, or_false, true_or, or_true, and_true, true_and, and_false, false_and, mI_e, mI_e2, mI_le, mI_le2, mI_lt, mI_lt2, mI_ok, bI_0n, bI_1n, bI_orn, Nat.mul_zero, Nat.zero_add, Nat.add_zero, c_no2, c_no3, c_no4, c_no5, c_no6, r_no2, r_no3, r_no4, r_no5, r_no6, zk_inR, zk_in2, zk_in3, zk_wiN, Nat.reduceAdd, ngI_e, ngI_le, ngI_m, cs_cmpN, zl_0, zl_1, zl_2, zl_3, zl_4, zl_5, zl_6, zl_7, zl_8, zl_9, zl_10, zl_12, zl_13, zl_14, zl_15, zl_16, zl_20, zl_32, zl_40, zl_48, zl_57, zl_59, zl_60, zl_63, zl_64, zl_97, zl_99, zl_101, zl_119, zl_120, zl_122, zl_128, zl_136, zl_152, zl_168, zl_184, zl_200, zl_201, zl_202, zl_203, zl_250, zl_255, zl_320, zl_999, zl_1000, cs_has ht, e1]
      unfold zway
      rw [zfi_fn e0 e1]; rfl
    · unfold zway at h1
      rw [zfi_fn e0 e1] at h1; cases h1
  | true =>
    obtain ⟨D, hD⟩ : ∃ D, D = zWb op a t := ⟨_, rfl⟩
    have hz : zway op a t = zfi D a 63 := by rw [hD]; exact zfi_fb ha ht e1 63
    rw [hz]
    have key : ∀ r k f, k + r = 64 → r < f → 0 < k → (∀ m1, zE [14] m m1 → (∀ j, j < k → m1.2 14 0 j = lb (zls D j)) → (∀ j, j < k → D j a = false) → ∃ m2, F_X9_find_L29 f m1 (nI a) (lb (fun c => (op c || decide (c = a)) && !D (k - 1) c)) (nI k) = some (zlo2 (zfi D a 63), m2) ∧ zE [14] m m2 ∧ (∀ k, zfi D a 63 = some k → ∀ j, j < k → m2.2 14 0 j = lb (zls D j))) := by
      intro r
      induction r with
      | zero =>
        intro k f h1 h2 h3 m1 e h4 h5
        obtain ⟨f, rfl⟩ : ∃ z, f = z + 1 := ⟨f - 1, by omega⟩
        have hn : zfi D a 63 = none := zfi_no (fun j hj => h5 j (by omega))
        refine ⟨m1, ?_, e, fun k hk => by rw [hn] at hk; cases hk⟩
        rw [F_X9_find_L29, hn]
        simp (disch := omega) only [↓zl_m1, zz_leT, zz_leF, zz_ltT, zz_ltF, zz_eqT, zz_eqF, zz_okN, zz_okF, nI_clamp, nI_add, pk_mul, pk_sub, zz_bS, zz_b2S, if_true, if_false, Bool.true_eq_false, Bool.false_eq_true, eq_self, ne_eq, not_true_eq_false, not_false_eq_true, false_or, or_false, true_or, or_true, and_true, true_and, and_false, false_and, mI_e, mI_e2, mI_le, mI_le2, mI_lt, mI_lt2, mI_ok, bI_0n, bI_1n, bI_orn, Nat.mul_zero, Nat.zero_add, Nat.add_zero, c_no2, c_no3, c_no4, c_no5, c_no6, r_no2, r_no3, r_no4, r_no5, r_no6, zk_inR, zk_in2, zk_in3, zk_wiN, Nat.reduceAdd, ngI_e, ngI_le, ngI_m, cs_cmpN, zl_0, zl_1, zl_2, zl_3, zl_4, zl_5, zl_6, zl_7, zl_8, zl_9, zl_10, zl_12, zl_13, zl_14, zl_15, zl_16, zl_20, zl_32, zl_40, zl_48, zl_57, zl_59, zl_60, zl_63, zl_64, zl_97, zl_99, zl_101, zl_119, zl_120, zl_122, zl_128, zl_136, zl_152, zl_168, zl_184, zl_200, zl_201, zl_202, zl_203, zl_250, zl_255, zl_320, zl_999, zl_1000]
        rfl
      | succ r ih =>
        intro k f h1 h2 h3 m1 e h4 h5
        obtain ⟨f, rfl⟩ : ∃ z, f = z + 1 := ⟨f - 1, by omega⟩
        have q1 := h4 (k - 1) (by omega)
        have lay : lb (zn (zls D (k - 1))) &&& lb (fun c => (op c || decide (c = a)) && !D (k - 1) c) = lb (zls D k) := by
          rw [lb_and]
          refine lb_congr (fun c hc => ?_)
          have := zWb_new (op := op) (a := a) (t := t) (n := k - 1) hc
          rw [← hD, show k - 1 + 1 = k by omega] at this
          exact this
        have la : zls D k a = D k a := by
          have : zls D (k - 1 + 1) a = (D (k - 1 + 1) a && !D (k - 1) a) := rfl
          rw [show k - 1 + 1 = k by omega] at this
          rw [this, h5 (k - 1) (by omega), Bool.not_false, Bool.and_true]
        have h4b : ∀ j, j < k + 1 → (ax_ul m1 14 0 k (lb (zls D k))).2 14 0 j = lb (zls D j) := fun j hj => by
          by_cases e2 : j = k
          · subst e2; exact zv_s
          · rw [zv_j e2]; exact h4 j (by omega)
        rw [F_X9_find_L29]
        cases e2 : D k a with
        | true =>
          have hs : zfi D a 63 = some k := zfi_of (by omega) e2 h5
          refine ⟨ax_ul m1 14 0 k (lb (zls D k)), ?_, e.ul (by decide), fun k2 hk2 j hj => ?_⟩
          · simp (disch := omega) only [↓zl_m1, zz_leT, zz_leF, zz_ltT, zz_ltF, zz_eqT, zz_eqF, zz_okN, zz_okF, nI_clamp, nI_add, pk_mul, pk_sub, zz_bS, zz_b2S, if_true, if_false, Bool.true_eq_false, Bool.false_eq_true, eq_self, ne_eq, not_true_eq_false, not_false_eq_true, false_or, or_false, true_or, or_true, and_true, true_and, and_false, false_and, mI_e, mI_e2, mI_le, mI_le2, mI_lt, mI_lt2, mI_ok, bI_0n, bI_1n, bI_orn, Nat.mul_zero, Nat.zero_add, Nat.add_zero, c_no2, c_no3, c_no4, c_no5, c_no6, r_no2, r_no3, r_no4, r_no5, r_no6, zk_inR, zk_in2, zk_in3, zk_wiN, Nat.reduceAdd, ngI_e, ngI_le, ngI_m, cs_cmpN, zl_0, zl_1, zl_2, zl_3, zl_4, zl_5, zl_6, zl_7, zl_8, zl_9, zl_10, zl_12, zl_13, zl_14, zl_15, zl_16, zl_20, zl_32, zl_40, zl_48, zl_57, zl_59, zl_60, zl_63, zl_64, zl_97, zl_99, zl_101, zl_119, zl_120, zl_122, zl_128, zl_136, zl_152, zl_168, zl_184, zl_200, zl_201, zl_202, zl_203, zl_250, zl_255, zl_320, zl_999, zl_1000, zu_s, zu_k, zu_j, zu_i, zu_l, zv_s, zv_k, zv_j, zv_i, zv_l, q1, cs_beside, lay, cs_has ha, la, e2]
            rw [hs]; rfl
          · rw [hs] at hk2
            cases hk2
            exact h4b j (by omega)
        | false =>
          obtain ⟨m2, i1, i2⟩ := ih (k + 1) f (by omega) (by omega) (by omega) (ax_ul m1 14 0 k (lb (zls D k))) (e.ul (by decide)) h4b (fun j hj => by
            by_cases e3 : j = k
            · subst e3; exact e2
            · exact h5 j (by omega))
          refine ⟨m2, ?_, i2⟩
          have un : lb (fun c => (op c || decide (c = a)) && !D (k - 1) c) &&& (lb (zls D k) ^^^ (-1)) = lb (fun c => (op c || decide (c = a)) && !D (k + 1 - 1) c) := by
            rw [lb_not, lb_and]
            refine lb_congr (fun c hc => ?_)
            have := zWb_un (op := op) (a := a) (t := t) (n := k - 1) (e := c)
            rw [← hD, show k - 1 + 1 = k by omega] at this
            exact this
          simp (disch := omega) only [↓zl_m1, zz_leT, zz_leF, zz_ltT, zz_ltF, zz_eqT, zz_eqF, zz_okN, zz_okF, nI_clamp, nI_add, pk_mul, pk_sub, zz_bS, zz_b2S, if_true, if_false, Bool.true_eq_false, Bool.false_eq_true, eq_self, ne_eq, not_true_eq_false, not_false_eq_true, false_or, or_false, true_or, or_true, and_true, true_and, and_false, false_and, mI_e, mI_e2, mI_le, mI_le2, mI_lt, mI_lt2, mI_ok, bI_0n, bI_1n, bI_orn, Nat.mul_zero, Nat.zero_add, Nat.add_zero, c_no2, c_no3, c_no4, c_no5, c_no6, r_no2, r_no3, r_no4, r_no5, r_no6, zk_inR, zk_in2, zk_in3, zk_wiN, Nat.reduceAdd, ngI_e, ngI_le, ngI_m, cs_cmpN, zl_0, zl_1, zl_2, zl_3, zl_4, zl_5, zl_6, zl_7, zl_8, zl_9, zl_10, zl_12, zl_13, zl_14, zl_15, zl_16, zl_20, zl_32, zl_40, zl_48, zl_57, zl_59, zl_60, zl_63, zl_64, zl_97, zl_99, zl_101, zl_119, zl_120, zl_122, zl_128, zl_136, zl_152, zl_168, zl_184, zl_200, zl_201, zl_202, zl_203, zl_250, zl_255, zl_320, zl_999, zl_1000, zu_s, zu_k, zu_j, zu_i, zu_l, zv_s, zv_k, zv_j, zv_i, zv_l, q1, cs_beside, lay, cs_has ha, la, e2, un]
          exact i1
    have st := key 63 1 ax_FU rfl (by decide) (by omega) (ax_ul m 14 0 0 (lb (fun i => decide (i = t)))) ((zE.rf _ _).ul (by decide)) (fun j hj => by
      have : j = 0 := by omega
      subst this
      rw [zv_s, hD]; rfl) (fun j hj => by
      have : j = 0 := by omega
      subst this
      rw [hD]; exact decide_eq_false e0)
    obtain ⟨m2, s1, s2, s3⟩ := st
    refine ⟨m2, ?_, s2, fun k hk _ => by rw [← hD]; exact s3 k hk⟩
    unfold F_X9_find
    have un : (lb op ||| lb (fun i => decide (i = a))) &&& (lb (fun i => decide (i = t)) ^^^ (-1)) = lb (fun c => (op c || decide (c = a)) && !D 0 c) := by
      rw [lb_or, lb_not, lb_and, hD]; rfl
    simp (disch := omega) only [↓zl_m1, zz_leT, zz_leF, zz_ltT, zz_ltF, zz_eqT, zz_eqF, zz_okN, zz_okF, nI_clamp, nI_add, pk_mul, pk_sub, zz_bS, zz_b2S, if_true, if_false, Bool.true_eq_false, Bool.false_eq_true, eq_self, ne_eq, not_true_eq_false, not_false_eq_true, false_or, or_false, true_or, or_true, and_true, true_and, and_false, false_and, mI_e, mI_e2, mI_le, mI_le2, mI_lt, mI_lt2, mI_ok, bI_0n, bI_1n, bI_orn, Nat.mul_zero, Nat.zero_add, Nat.add_zero, c_no2, c_no3, c_no4, c_no5, c_no6, r_no2, r_no3, r_no4, r_no5, r_no6, zk_inR, zk_in2, zk_in3, zk_wiN, Nat.reduceAdd, ngI_e, ngI_le, ngI_m, cs_cmpN, zl_0, zl_1, zl_2, zl_3, zl_4, zl_5, zl_6, zl_7, zl_8, zl_9, zl_10, zl_12, zl_13, zl_14, zl_15, zl_16, zl_20, zl_32, zl_40, zl_48, zl_57, zl_59, zl_60, zl_63, zl_64, zl_97, zl_99, zl_101, zl_119, zl_120, zl_122, zl_128, zl_136, zl_152, zl_168, zl_184, zl_200, zl_201, zl_202, zl_203, zl_250, zl_255, zl_320, zl_999, zl_1000, cs_has ht, e1, cs_bit ha, cs_bit ht, un]
    exact s1
/-- the cells of a way -/
def zmin (f : Nat → Bool) : Nat := match zfi (fun j _ => f j) 0 63 with
  | some j => j
  | none => 64
theorem zmin_s {f : Nat → Bool} (h : ∃ d, d < 64 ∧ f d = true) : zmin f < 64 ∧ f (zmin f) = true ∧ ∀ j, j < zmin f → f j = false := by
  unfold zmin
  cases e : zfi (fun j _ => f j) 0 63 with
  | some j =>
    obtain ⟨h1, h2, h3⟩ := zfi_s e
    exact ⟨Nat.lt_succ_of_le h1, h2, h3⟩
  | none =>
    obtain ⟨d, hd, h2⟩ := h
    have := zfi_n e d (by omega)
    rw [h2] at this; cases this
theorem zmin_u {f : Nat → Bool} {d : Nat} (hd : d < 64) (h : f d = true) (h2 : ∀ j, j < 64 → f j = true → d ≤ j) : zmin f = d := by
  obtain ⟨a, b, c⟩ := zmin_s ⟨d, hd, h⟩
  have := h2 _ a b
  by_cases e : zmin f = d
  · exact e
  · rw [c d (by omega)] at h; cases h
def znx (D : Nat → Nat → Bool) (c k : Nat) : Nat := zmin (fun d => znb c d && zls D k d)
def zce (D : Nat → Nat → Bool) : Nat → Nat → Nat → Nat
  | 0, c, _ => c
  | i + 1, c, k => zce D i (znx D c (k - 1)) (k - 1)
theorem znx_ok {op : Nat → Bool} {a t c k : Nat} (hc : c < 64) (h : zls (zWb op a t) (k + 1) c = true) : znx (zWb op a t) c k < 64 ∧ (znb c (znx (zWb op a t) c k) = true ∧ zls (zWb op a t) k (znx (zWb op a t) c k) = true) ∧ ∀ j, j < znx (zWb op a t) c k → (znb c j && zls (zWb op a t) k j) = false := by
  have h2 := zWb_new (op := op) (a := a) (t := t) (n := k) hc
  rw [h, Bool.and_eq_true] at h2
  obtain ⟨d, hd, h3, h4⟩ := (zn_t hc).mp h2.1
  have := zmin_s (f := fun d => znb c d && zls (zWb op a t) k d) ⟨d, hd, by show (znb c d && zls (zWb op a t) k d) = true; rw [znb_c c hc d hd, h3, h4]; rfl⟩
  obtain ⟨q1, q2, q3⟩ := this
  rw [Bool.and_eq_true] at q2
  exact ⟨q1, q2, q3⟩
theorem c_low2 {f : Nat → Bool} (h : ∃ d, d < 64 ∧ f d = true) : F_X0_lowest (lb f) = some (nI (zmin f)) := by
  obtain ⟨a, b, c⟩ := zmin_s h
  exact cs_low a b c
theorem c_cellOf {m : ax_M} {op : Nat → Bool} {a t s : Nat} (hs : s ≤ 63) (hl : ∀ j, j < s → m.2 14 0 j = lb (zls (zWb op a t) j)) : ∀ r k c f, r ≤ k → k ≤ s → r < f → c < 64 → zls (zWb op a t) k c = true → ∀ v : Nat, v < s → s - v = k - r + 1 → F_X9_cellOf_L6 f m (nI s) (nI v) (nI c) (nI k + mI) = some (nI (zce (zWb op a t) r c k)) := by
  have pm : ∀ k, nI (k + 1) + mI = nI k := fun k => pk_m1 k
  intro r
  induction r with
  | zero =>
    intro k c f h1 h2 h3 hc hz v hv hv2
    obtain ⟨f, rfl⟩ : ∃ z, f = z + 1 := ⟨f - 1, by omega⟩
    rw [F_X9_cellOf_L6]
    cases k with
    | zero =>
      have e1 : nI 0 + mI = mI := by decide
      rw [e1, if_pos (by decide)]; rfl
    | succ k =>
      rw [pm]
      simp (disch := omega) only [↓zl_m1, zz_leT, zz_leF, zz_ltT, zz_ltF, zz_eqT, zz_eqF, zz_okN, zz_okF, nI_clamp, nI_add, pk_mul, pk_sub, zz_bS, zz_b2S, if_true, if_false, Bool.true_eq_false, Bool.false_eq_true, eq_self, ne_eq, not_true_eq_false, not_false_eq_true, false_or, or_false, true_or, or_true, and_true, true_and, and_false, false_and, mI_e, mI_e2, mI_le, mI_le2, mI_lt, mI_lt2, mI_ok, bI_0n, bI_1n, bI_orn, Nat.mul_zero, Nat.zero_add, Nat.add_zero, c_no2, c_no3, c_no4, c_no5, c_no6, r_no2, r_no3, r_no4, r_no5, r_no6, zk_inR, zk_in2, zk_in3, zk_wiN, Nat.reduceAdd, ngI_e, ngI_le, ngI_m, cs_cmpN, zl_0, zl_1, zl_2, zl_3, zl_4, zl_5, zl_6, zl_7, zl_8, zl_9, zl_10, zl_12, zl_13, zl_14, zl_15, zl_16, zl_20, zl_32, zl_40, zl_48, zl_57, zl_59, zl_60, zl_63, zl_64, zl_97, zl_99, zl_101, zl_119, zl_120, zl_122, zl_128, zl_136, zl_152, zl_168, zl_184, zl_200, zl_201, zl_202, zl_203, zl_250, zl_255, zl_320, zl_999, zl_1000]
      rfl
  | succ r ih =>
    intro k c f h1 h2 h3 hc hz v hv hv2
    obtain ⟨f, rfl⟩ : ∃ z, f = z + 1 := ⟨f - 1, by omega⟩
    obtain ⟨k, rfl⟩ : ∃ z, k = z + 1 := ⟨k - 1, by omega⟩
    obtain ⟨q1, q2, q3⟩ := znx_ok hc hz
    have ih2 := ih k (znx (zWb op a t) c k) f (by omega) (by omega) (by omega) q1 q2.2 v hv (by omega)
    have lo : F_X0_lowest (lb (zn (fun i => decide (i = c))) &&& lb (zls (zWb op a t) k)) = some (nI (znx (zWb op a t) c k)) := by
      rw [lb_and]
      exact c_low2 (f := fun d => znb c d && zls (zWb op a t) k d) ⟨_, q1, by show (znb c _ && zls (zWb op a t) k _) = true; rw [q2.1, q2.2]; rfl⟩
    rw [F_X9_cellOf_L6, pm]
    simp (disch := omega) only [↓zl_m1, zz_leT, zz_leF, zz_ltT, zz_ltF, zz_eqT, zz_eqF, zz_okN, zz_okF, nI_clamp, nI_add, pk_mul, pk_sub, zz_bS, zz_b2S, if_true, if_false, Bool.true_eq_false, Bool.false_eq_true, eq_self, ne_eq, not_true_eq_false, not_false_eq_true, false_or, or_false, true_or, or_true, and_true, true_and, and_false, false_and, mI_e, mI_e2, mI_le, mI_le2, mI_lt, mI_lt2, mI_ok, bI_0n, bI_1n, bI_orn, Nat.mul_zero, Nat.zero_add, Nat.add_zero, c_no2, c_no3, c_no4, c_no5, c_no6, r_no2, r_no3, r_no4, r_no5, r_no6, zk_inR, zk_in2, zk_in3, zk_wiN, Nat.reduceAdd, ngI_e, ngI_le, ngI_m, cs_cmpN, zl_0, zl_1, zl_2, zl_3, zl_4, zl_5, zl_6, zl_7, zl_8, zl_9, zl_10, zl_12, zl_13, zl_14, zl_15, zl_16, zl_20, zl_32, zl_40, zl_48, zl_57, zl_59, zl_60, zl_63, zl_64, zl_97, zl_99, zl_101, zl_119, zl_120, zl_122, zl_128, zl_136, zl_152, zl_168, zl_184, zl_200, zl_201, zl_202, zl_203, zl_250, zl_255, zl_320, zl_999, zl_1000, cs_bit hc, cs_beside, hl k (by omega), lo]
    exact ih2
/-- the reference's labels, back -/
theorem zback {op : Nat → Bool} {a t M : Nat} (hat : a ≠ t) (ht : op t = true) (hM : ∀ j, j < M → zWb op a t j a = false) : ∀ k, k ≤ M → ∀ c, c < 64 → zB (zXb op a t) (zYb op a) t k c = zWb op a t k c
  | 0, _, c, _ => rfl
  | k + 1, hk, c, hc => by
    have ih := zback hat ht hM k (by omega)
    rw [zWb_s _ _ _ _ _ hc, zB_s, ih c hc]
    congr 1
    have e1 : zYb op a c = (op c || decide (c = a)) := Bool.or_comm _ _
    rw [e1]
    congr 1
    refine zn_cg (fun d hd => ?_) hc
    rw [ih d hd]
    cases h : zWb op a t k d with
    | false => rfl
    | true =>
      have hda : d ≠ a := fun z => by rw [z, hM k (by omega)] at h; cases h
      show (true && (op d && (decide (d = t) || !decide (d = a)))) = true
      rw [decide_eq_false hda]
      rcases zB_Y h with e | e
      · rw [e, ht]; simp
      · rw [Bool.or_eq_true] at e
        rcases e with e | e
        · rw [e]; simp
        · exact absurd (of_decide_eq_true e) hda
theorem zlab_k {X Y : Nat → Bool} {a n k c : Nat} (hk : k ≤ n) (hn : n < 1000) : (zlab (zB X Y a) n c = nI k) = (zls (zB X Y a) k c = true) := by
  rw [← zfi_ls]
  unfold zlab
  refine propext ⟨fun h => ?_, fun h => ?_⟩
  · cases e : zfi (zB X Y a) c n with
    | none =>
      rw [e] at h
      have h : mI = nI k := h
      rw [mI_e2 (by omega)] at h
      exact h.elim
    | some j =>
      rw [e] at h
      have h : nI j = nI k := h
      obtain ⟨b1, b2, b3⟩ := zfi_s e
      rw [zz_eq (by omega) (by omega)] at h
      subst h
      exact zfi_of (Nat.le_refl _) b2 b3
  · obtain ⟨b1, b2, b3⟩ := zfi_s h
    rw [zfi_of hk b2 b3]
    rfl
/-- of the ways from a cell the least with a label -/
theorem r_wayI {m : ax_M} {P : Nat → Bool} {c : Nat} (hc : c < 64) {lb2 : Int32} (hP : ∀ d, d < 64 → (m.1 37 0 d = lb2) = (P d = true)) (K : ax_M → Int32 → Option (Int32 × ax_M)) (i M x : Int32) (hx : M - x - nI 1 = lb2) (hz : ∃ d, d < 64 ∧ (znb c d && P d) = true) : F_X11_way_L52 ax_FU K m i M (nI c) x mI (nI 0) = K m (nI (zmin (fun d => znb c d && P d))) := by
  have key : ∀ k w f, w + k = 4 → k < f → (∀ o : Option Nat, (o = none → ∀ w2 d, w2 < w → zst c w2 = some d → P d = false) → (∀ d, o = some d → d < 64 ∧ znb c d = true ∧ P d = true ∧ ∀ w2 d2, w2 < w → zst c w2 = some d2 → P d2 = true → d ≤ d2) → F_X11_way_L52 f K m i M (nI c) x (zlo2 o) (nI w) = K m (nI (zmin (fun d => znb c d && P d)))) := by
    refine zz_loop 4 (fun f => ?_) (fun f w hw ih => ?_)
    · intro o h1 h2
      rw [F_X11_way_L52, zl_4, if_pos (Int32.le_refl _)]
      have all : ∀ d, d < 64 → znb c d = true → ∃ w2, w2 < 4 ∧ zst c w2 = some d := fun d hd h => by
        rw [← zst_all c hc d hd] at h
        obtain ⟨w2, hw2, h3⟩ := zany_t.mp h
        exact ⟨w2, hw2, of_decide_eq_true h3⟩
      cases o with
      | none =>
        obtain ⟨d, hd, h3⟩ := hz
        rw [Bool.and_eq_true] at h3
        obtain ⟨w2, hw2, h4⟩ := all d hd h3.1
        have := h1 rfl w2 d hw2 h4
        rw [h3.2] at this; cases this
      | some d =>
        obtain ⟨a1, a2, a3, a4⟩ := h2 d rfl
        rw [zmin_u (d := d) a1 (by show (znb c d && P d) = true; rw [a2, a3]; rfl) (fun j hj h => ?_)]
        · rfl
        · rw [Bool.and_eq_true] at h
          obtain ⟨w2, hw2, h4⟩ := all j hj h.1
          exact a4 w2 j hw2 h4 h.2
    · intro o h1 h2
      have hb := r_besd c hc w hw
      have ws : ∀ w2, w2 < w + 1 → w2 < w ∨ w2 = w := fun w2 h => by omega
      have keep : (∀ d, zst c w = some d → P d = false) → F_X11_way_L52 f K m i M (nI c) x (zlo2 o) (nI (w + 1)) = K m (nI (zmin (fun d => znb c d && P d))) := fun hn => ih o (fun ho w2 d hw2 hd => by
          rcases ws w2 hw2 with h | h
          · exact h1 ho w2 d h hd
          · subst h; exact hn d hd) (fun d ho => by
          obtain ⟨a1, a2, a3, a4⟩ := h2 d ho
          refine ⟨a1, a2, a3, fun w2 d2 hw2 hd2 hp => ?_⟩
          rcases ws w2 hw2 with h | h
          · exact a4 w2 d2 h hd2 hp
          · subst h; rw [hn d2 hd2] at hp; cases hp)
      rw [F_X11_way_L52]
      cases e2 : zst c w with
      | none =>
        rw [e2] at hb
        have hb : F_X11_beside (nI c) (nI w) = some mI := hb
        simp (disch := omega) only [↓zl_m1, zz_leT, zz_leF, zz_ltT, zz_ltF, zz_eqT, zz_eqF, zz_okN, zz_okF, nI_clamp, nI_add, pk_mul, pk_sub, zz_bS, zz_b2S, if_true, if_false, Bool.true_eq_false, Bool.false_eq_true, eq_self, ne_eq, not_true_eq_false, not_false_eq_true, false_or, or_false, true_or, or_true, and_true, true_and, and_false, false_and, mI_e, mI_e2, mI_le, mI_le2, mI_lt, mI_lt2, mI_ok, bI_0n, bI_1n, bI_orn, Nat.mul_zero, Nat.zero_add, Nat.add_zero, c_no2, c_no3, c_no4, c_no5, c_no6, r_no2, r_no3, r_no4, r_no5, r_no6, zk_inR, zk_in2, zk_in3, zk_wiN, Nat.reduceAdd, ngI_e, ngI_le, ngI_m, cs_cmpN, zl_0, zl_1, zl_2, zl_3, zl_4, zl_5, zl_6, zl_7, zl_8, zl_9, zl_10, zl_12, zl_13, zl_14, zl_15, zl_16, zl_20, zl_32, zl_40, zl_48, zl_57, zl_59, zl_60, zl_63, zl_64, zl_97, zl_99, zl_101, zl_119, zl_120, zl_122, zl_128, zl_136, zl_152, zl_168, zl_184, zl_200, zl_201, zl_202, zl_203, zl_250, zl_255, zl_320, zl_999, zl_1000, hb]
        exact keep (fun d h => by rw [e2] at h; cases h)
      | some d =>
        rw [e2] at hb
        have hb : F_X11_beside (nI c) (nI w) = some (nI d) := hb
        have hd := zst_lt hc e2
        have hnb : znb c d = true := by rw [← zst_all c hc d hd]; exact zany_t.mpr ⟨w, hw, decide_eq_true e2⟩
        have hPd := hP d hd
        cases e3 : P d with
        | false =>
          have q : (m.1 37 0 d = lb2) = False := by rw [hPd, e3]; simp
          simp (disch := omega) only [↓zl_m1, zz_leT, zz_leF, zz_ltT, zz_ltF, zz_eqT, zz_eqF, zz_okN, zz_okF, nI_clamp, nI_add, pk_mul, pk_sub, zz_bS, zz_b2S, if_true, if_false, Bool.true_eq_false, Bool.false_eq_true, eq_self, ne_eq, not_true_eq_false, not_false_eq_true, false_or, or_false, true_or, or_true, and_true, true_and, and_false, false_and, mI_e, mI_e2, mI_le, mI_le2, mI_lt, mI_lt2, mI_ok, bI_0n, bI_1n, bI_orn, Nat.mul_zero, Nat.zero_add, Nat.add_zero, c_no2, c_no3, c_no4, c_no5, c_no6, r_no2, r_no3, r_no4, r_no5, r_no6, zk_inR, zk_in2, zk_in3, zk_wiN, Nat.reduceAdd, ngI_e, ngI_le, ngI_m, cs_cmpN, zl_0, zl_1, zl_2, zl_3, zl_4, zl_5, zl_6, zl_7, zl_8, zl_9, zl_10, zl_12, zl_13, zl_14, zl_15, zl_16, zl_20, zl_32, zl_40, zl_48, zl_57, zl_59, zl_60, zl_63, zl_64, zl_97, zl_99, zl_101, zl_119, zl_120, zl_122, zl_128, zl_136, zl_152, zl_168, zl_184, zl_200, zl_201, zl_202, zl_203, zl_250, zl_255, zl_320, zl_999, zl_1000, hb, hx, q]
          exact keep (fun d2 h => by rw [e2] at h; cases h; exact e3)
        | true =>
          have q : (m.1 37 0 d = lb2) = True := by rw [hPd, e3]; simp
          have take : (∀ d0, o = some d0 → d < d0) → F_X11_way_L52 f K m i M (nI c) x (nI d) (nI (w + 1)) = K m (nI (zmin (fun d => znb c d && P d))) := fun hlt => ih (some d) (fun ho => by cases ho) (fun d2 ho => by
            cases ho
            refine ⟨hd, hnb, e3, fun w2 d2 hw2 hd2 hp => ?_⟩
            rcases ws w2 hw2 with h | h
            · cases o with
              | none => have := h1 rfl w2 d2 h hd2; rw [hp] at this; cases this
              | some d0 =>
                have := hlt d0 rfl
                have := (h2 d0 rfl).2.2.2 w2 d2 h hd2 hp
                omega
            · subst h; rw [e2] at hd2; cases hd2; exact Nat.le_refl _)
          cases o with
          | none =>
            show (if nI 4 ≤ nI w then _ else _) = _
            have t2 := take (fun d0 h => by cases h)
            have z : zlo2 (none : Option Nat) = mI := rfl
            rw [z]
            simp (disch := omega) only [↓zl_m1, zz_leT, zz_leF, zz_ltT, zz_ltF, zz_eqT, zz_eqF, zz_okN, zz_okF, nI_clamp, nI_add, pk_mul, pk_sub, zz_bS, zz_b2S, if_true, if_false, Bool.true_eq_false, Bool.false_eq_true, eq_self, ne_eq, not_true_eq_false, not_false_eq_true, false_or, or_false, true_or, or_true, and_true, true_and, and_false, false_and, mI_e, mI_e2, mI_le, mI_le2, mI_lt, mI_lt2, mI_ok, bI_0n, bI_1n, bI_orn, Nat.mul_zero, Nat.zero_add, Nat.add_zero, c_no2, c_no3, c_no4, c_no5, c_no6, r_no2, r_no3, r_no4, r_no5, r_no6, zk_inR, zk_in2, zk_in3, zk_wiN, Nat.reduceAdd, ngI_e, ngI_le, ngI_m, cs_cmpN, zl_0, zl_1, zl_2, zl_3, zl_4, zl_5, zl_6, zl_7, zl_8, zl_9, zl_10, zl_12, zl_13, zl_14, zl_15, zl_16, zl_20, zl_32, zl_40, zl_48, zl_57, zl_59, zl_60, zl_63, zl_64, zl_97, zl_99, zl_101, zl_119, zl_120, zl_122, zl_128, zl_136, zl_152, zl_168, zl_184, zl_200, zl_201, zl_202, zl_203, zl_250, zl_255, zl_320, zl_999, zl_1000, hb, hx, q]
            exact t2
          | some d0 =>
            obtain ⟨a1, a2, a3, a4⟩ := h2 d0 rfl
            have z : zlo2 (some d0) = nI d0 := rfl
            rw [z]
            by_cases e4 : d0 ≤ d
            · have k2 : F_X11_way_L52 f K m i M (nI c) x (nI d0) (nI (w + 1)) = K m (nI (zmin (fun d => znb c d && P d))) := ih (some d0) (fun ho => by cases ho) (fun d2 ho => by
                cases ho
                refine ⟨a1, a2, a3, fun w2 d2 hw2 hd2 hp => ?_⟩
                rcases ws w2 hw2 with h | h
                · exact a4 w2 d2 h hd2 hp
                · subst h; rw [e2] at hd2; cases hd2; exact e4)
              simp (disch := omega) only [↓zl_m1, zz_leT, zz_leF, zz_ltT, zz_ltF, zz_eqT, zz_eqF, zz_okN, zz_okF, nI_clamp, nI_add, pk_mul, pk_sub, zz_bS, zz_b2S, if_true, if_false, Bool.true_eq_false, Bool.false_eq_true, eq_self, ne_eq, not_true_eq_false, not_false_eq_true, false_or, or_false, true_or, or_true, and_true, true_and, and_false, false_and, mI_e, mI_e2, mI_le, mI_le2, mI_lt, mI_lt2, mI_ok, bI_0n, bI_1n, bI_orn, Nat.mul_zero, Nat.zero_add, Nat.add_zero, c_no2, c_no3, c_no4, c_no5, c_no6, r_no2, r_no3, r_no4, r_no5, r_no6, zk_inR, zk_in2, zk_in3, zk_wiN, Nat.reduceAdd, ngI_e, ngI_le, ngI_m, cs_cmpN, zl_0, zl_1, zl_2, zl_3, zl_4, zl_5, zl_6, zl_7, zl_8, zl_9, zl_10, zl_12, zl_13, zl_14, zl_15, zl_16, zl_20, zl_32, zl_40, zl_48, zl_57, zl_59, zl_60, zl_63, zl_64, zl_97, zl_99, zl_101, zl_119, zl_120, zl_122, zl_128, zl_136, zl_152, zl_168, zl_184, zl_200, zl_201, zl_202, zl_203, zl_250, zl_255, zl_320, zl_999, zl_1000, hb, hx, q]
              exact k2
            · have t2 := take (fun d1 h => by cases h; omega)
              simp (disch := omega) only [↓zl_m1, zz_leT, zz_leF, zz_ltT, zz_ltF, zz_eqT, zz_eqF, zz_okN, zz_okF, nI_clamp, nI_add, pk_mul, pk_sub, zz_bS, zz_b2S, if_true, if_false, Bool.true_eq_false, Bool.false_eq_true, eq_self, ne_eq, not_true_eq_false, not_false_eq_true, false_or, or_false, true_or, or_true, and_true, true_and, and_false, false_and, mI_e, mI_e2, mI_le, mI_le2, mI_lt, mI_lt2, mI_ok, bI_0n, bI_1n, bI_orn, Nat.mul_zero, Nat.zero_add, Nat.add_zero, c_no2, c_no3, c_no4, c_no5, c_no6, r_no2, r_no3, r_no4, r_no5, r_no6, zk_inR, zk_in2, zk_in3, zk_wiN, Nat.reduceAdd, ngI_e, ngI_le, ngI_m, cs_cmpN, zl_0, zl_1, zl_2, zl_3, zl_4, zl_5, zl_6, zl_7, zl_8, zl_9, zl_10, zl_12, zl_13, zl_14, zl_15, zl_16, zl_20, zl_32, zl_40, zl_48, zl_57, zl_59, zl_60, zl_63, zl_64, zl_97, zl_99, zl_101, zl_119, zl_120, zl_122, zl_128, zl_136, zl_152, zl_168, zl_184, zl_200, zl_201, zl_202, zl_203, zl_250, zl_255, zl_320, zl_999, zl_1000, hb, hx, q]
              exact t2
  exact key 4 0 ax_FU rfl (by decide) none (fun _ w2 d h => by omega) (fun d h => by cases h)
