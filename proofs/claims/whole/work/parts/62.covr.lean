/-! COVERS: fewest seeds that tell of all told cells -/
def zq (a c : Nat) : Bool := decide (zfar c a ≤ 1)
def zwo (T : Nat → Bool) (a : Nat) : Nat → Bool := fun c => T c && !zq a c
def zcv : Nat → Nat → (Nat → Bool) → Option (List Nat)
  | 0, _, T => if zany T 64 = false then some [] else none
  | k + 1, lo, T => zfs (fun a => match zcv k (a + 1) (zwo T a) with | some l => some (a :: l) | none => none) (64 - lo) lo
theorem zfs_in {β : Type} {g : Nat → Option β} {j : Nat} (hj : g j ≠ none) : ∀ {k i : Nat}, i ≤ j → j < i + k → zfs g k i ≠ none
  | 0, i, h1, h2 => by omega
  | k + 1, i, h1, h2 => by
    rw [zfs]
    cases e : g i with
    | some b => simp
    | none =>
      have : i ≠ j := fun z => hj (by rw [← z]; exact e)
      exact zfs_in hj (by omega) (by omega)
theorem zfs_out {β : Type} {g : Nat → Option β} : ∀ {k i : Nat}, zfs g k i = none → ∀ j, i ≤ j → j < i + k → g j = none
  | 0, i, _, j, h1, h2 => by omega
  | k + 1, i, h, j, h1, h2 => by
    rw [zfs] at h
    cases e : g i with
    | some b => rw [e] at h; cases h
    | none =>
      rw [e] at h
      by_cases e2 : j = i
      · subst e2; exact e
      · exact zfs_out h j (by omega) (by omega)
theorem zcv_cg : ∀ (k lo : Nat) {T S : Nat → Bool}, (∀ c, c < 64 → T c = S c) → zcv k lo T = zcv k lo S
  | 0, _, T, S, h => by rw [zcv, zcv, zany_congr h]
  | k + 1, lo, T, S, h => by
    rw [zcv, zcv]
    refine zfs_c (fun a _ _ => ?_)
    rw [zcv_cg k (a + 1) (T := zwo T a) (S := zwo S a) (fun c hc => by unfold zwo; rw [h c hc])]
theorem zcv_lo {T : Nat → Bool} (k : Nat) (h : zcv k 0 T = none) (lo : Nat) : zcv k lo T = none := by
  cases k with
  | zero => exact h
  | succ k =>
    rw [zcv] at h ⊢
    refine zfs_n (fun a h1 h2 => ?_)
    exact zfs_out h a (by omega) (by omega)
theorem zcv_far : ∀ (k lo : Nat) {T : Nat → Bool} {L : Nat}, L < 64 → T L = true → L + 9 < lo → zcv k lo T = none
  | 0, lo, T, L, hL, h, _ => by
    rw [zcv, if_neg]
    rw [zany_t.mpr ⟨L, hL, h⟩]
    decide
  | k + 1, lo, T, L, hL, h, hlo => by
    rw [zcv]
    refine zfs_n (fun a h1 h2 => ?_)
    have : zwo T a L = true := by
      unfold zwo zq
      rw [h, decide_eq_false]
      · rfl
      · unfold zfar; omega
    rw [zcv_far k (a + 1) hL this (by omega)]
/-- no fewer do -/
def zNf (k : Nat) (T : Nat → Bool) : Prop := ∀ j, j < k → zcv j 0 T = none
theorem zcv1 {T : Nat → Bool} {a : Nat} (ha : a < 64) (h : zany (zwo T a) 64 = false) : zcv 1 0 T ≠ none := by
  rw [zcv]
  refine zfs_in (j := a) ?_ (by omega) (by omega)
  rw [zcv, if_pos h]
  simp
theorem zcv2 {T : Nat → Bool} {a b : Nat} (hab : a < b) (hb : b < 64) (h : zany (zwo (zwo T a) b) 64 = false) : zcv 2 0 T ≠ none := by
  rw [zcv]
  refine zfs_in (j := a) ?_ (by omega) (by omega)
  have : zcv 1 (a + 1) (zwo T a) ≠ none := by
    rw [zcv]
    refine zfs_in (j := b) ?_ (by omega) (by omega)
    rw [zcv, if_pos h]
    simp
  cases e : zcv 1 (a + 1) (zwo T a) with
  | none => exact absurd e this
  | some l => simp
theorem zwo_c (T : Nat → Bool) (a b c : Nat) : zwo (zwo T a) b c = zwo (zwo T b) a c := by
  unfold zwo
  cases T c <;> cases zq a c <;> cases zq b c <;> rfl
theorem zwo_s (T : Nat → Bool) (a c : Nat) : zwo (zwo T a) a c = zwo T a c := by
  unfold zwo
  cases T c <;> cases zq a c <;> rfl
theorem zNf_wo {k : Nat} {T : Nat → Bool} {a : Nat} (ha : a < 64) (hk : k ≤ 2) (h : zNf (k + 1) T) : zNf k (zwo T a) := by
  intro j hj
  cases e : zcv j 0 (zwo T a) with
  | none => rfl
  | some l =>
    exfalso
    rcases (by omega : j = 0 ∨ j = 1) with rfl | rfl
    · rw [zcv] at e
      by_cases e2 : zany (zwo T a) 64 = false
      · exact zcv1 ha e2 (h 1 (by omega))
      · rw [if_neg e2] at e; cases e
    · have e3 : zcv 1 0 (zwo T a) ≠ none := by rw [e]; simp
      by_cases e4 : ∃ b, b < 64 ∧ zany (zwo (zwo T a) b) 64 = false
      · obtain ⟨b, hb, e5⟩ := e4
        by_cases hab : a < b
        · exact zcv2 hab hb e5 (h 2 (by omega))
        · by_cases hba : b < a
          · refine zcv2 hba ha ?_ (h 2 (by omega))
            rw [← e5]
            exact zany_congr (fun c _ => zwo_c T b a c)
          · have : a = b := by omega
            subst this
            refine zcv1 ha ?_ (h 1 (by omega))
            rw [← e5]
            exact (zany_congr (fun c _ => zwo_s T a c)).symm
      · apply e3
        rw [zcv]
        refine zfs_n (fun b h1 h2 => ?_)
        rw [zcv, if_neg (fun z => e4 ⟨b, by omega, z⟩)]
/-- the class's search -/
def zLs (m : ax_M) (k c : Nat) (l : List Nat) : Prop := ∀ j, (hj : j < l.length) → m.1 k 0 (c + j) = nI l[j]
theorem zone1 {a : Nat} (ha : a < 64) : F_X0_zone (nI a) (nI 1) = some (lb (zq a)) := c_zoneAll a ha 1 (by omega)
theorem zcv_len : ∀ (k lo : Nat) (T : Nat → Bool) (l : List Nat), zcv k lo T = some l → l.length = k
  | 0, lo, T, l, h => by
    rw [zcv] at h
    by_cases e : zany T 64 = false
    · rw [if_pos e] at h; cases h; rfl
    · rw [if_neg e] at h; cases h
  | k + 1, lo, T, l, h => by
    rw [zcv] at h
    have : ∀ (n i : Nat), zfs (fun a => match zcv k (a + 1) (zwo T a) with | some l => some (a :: l) | none => none) n i = some l → l.length = k + 1 := by
      intro n
      induction n with
      | zero => intro i h; cases h
      | succ n ih =>
        intro i h
        rw [zfs] at h
        cases e : zcv k (i + 1) (zwo T i) with
        | some l2 =>
          rw [e] at h
          cases h
          rw [List.length_cons, zcv_len k _ _ _ e]
        | none =>
          rw [e] at h
          exact ih (i + 1) h
    exact this _ _ h
theorem c_covers : ∀ (k d : Nat), k < d → ∀ (m : ax_M) (T : Nat → Bool) (c lo : Nat), c + k ≤ 3 → zNf k T → lo ≤ 64 → (if c = 0 then lo = 0 else m.1 19 0 (c - 1) + 1 = nI lo) →
    ∃ m1, F_X1_covers d m (lb T) (nI c) (nI (c + k)) = some (bI (zcv k lo T).isSome, m1) ∧ zE [19] m m1 ∧ (∀ j, j < c → m1.1 19 0 j = m.1 19 0 j) ∧ (∀ l, zcv k lo T = some l → zLs m1 19 c l) := by
  intro k
  induction k with
  | zero =>
    intro d hd m T c lo hc hN hlo hs
    obtain ⟨d, rfl⟩ : ∃ z, d = z + 1 := ⟨d - 1, by omega⟩
    refine ⟨m, ?_, zE.rf _ _, fun _ _ => rfl, fun l h j hj => ?_⟩
    · rw [F_X1_covers, zcv, Nat.add_zero]
      have q : (lg_cmp (lb T) 0 = nI 0) = (zany T 64 = false) := by rw [cs_cmpN, lb_0]; exact propext zany_f.symm
      cases e : zany T 64 with
      | false => simp (disch := omega) only [↓zl_m1, zz_leT, zz_leF, zz_ltT, zz_ltF, zz_eqT, zz_eqF, zz_okN, zz_okF, nI_clamp, nI_add, pk_mul, pk_sub, zz_bS, zz_b2S, if_true, if_false, Bool.true_eq_false, Bool.false_eq_true, eq_self, ne_eq, not_true_eq_false, not_false_eq_true, false_or, or_false, true_or, or_true, and_true, true_and, and_false, false_and, mI_e, mI_e2, mI_le, mI_le2, mI_lt, mI_lt2, mI_ok, bI_0n, bI_1n, bI_orn, Nat.mul_zero, Nat.zero_add, Nat.add_zero, c_no2, c_no3, c_no4, c_no5, c_no6, r_no2, r_no3, r_no4, r_no5, r_no6, zk_inR, zk_in2, zk_in3, zk_wiN, Nat.reduceAdd, ngI_e, ngI_le, ngI_m, cs_cmpN, zl_0, zl_1, zl_2, zl_3, zl_4, zl_5, zl_6, zl_7, zl_8, zl_9, zl_10, zl_12, zl_13, zl_14, zl_15, zl_16, zl_20, zl_32, zl_40, zl_48, zl_57, zl_59, zl_60, zl_63, zl_64, zl_97, zl_99, zl_101, zl_119, zl_120, zl_122, zl_128, zl_136, zl_152, zl_168, zl_184, zl_200, zl_201, zl_202, zl_203, zl_250, zl_255, zl_320, zl_999, zl_1000, q, e]; rfl
      | true => simp (disch := omega) only [↓zl_m1, zz_leT, zz_leF, zz_ltT, zz_ltF, zz_eqT, zz_eqF, zz_okN, zz_okF, nI_clamp, nI_add, pk_mul, pk_sub, zz_bS, zz_b2S, if_true, if_false, Bool.true_eq_false, Bool.false_eq_true, eq_self, ne_eq, not_true_eq_false, not_false_eq_true, false_or, or_false, true_or, or_true, and_true, true_and, and_false, false_and, mI_e, mI_e2, mI_le, mI_le2, mI_lt, mI_lt2, mI_ok, bI_0n, bI_1n, bI_orn, Nat.mul_zero, Nat.zero_add, Nat.add_zero, c_no2, c_no3, c_no4, c_no5, c_no6, r_no2, r_no3, r_no4, r_no5, r_no6, zk_inR, zk_in2, zk_in3, zk_wiN, Nat.reduceAdd, ngI_e, ngI_le, ngI_m, cs_cmpN, zl_0, zl_1, zl_2, zl_3, zl_4, zl_5, zl_6, zl_7, zl_8, zl_9, zl_10, zl_12, zl_13, zl_14, zl_15, zl_16, zl_20, zl_32, zl_40, zl_48, zl_57, zl_59, zl_60, zl_63, zl_64, zl_97, zl_99, zl_101, zl_119, zl_120, zl_122, zl_128, zl_136, zl_152, zl_168, zl_184, zl_200, zl_201, zl_202, zl_203, zl_250, zl_255, zl_320, zl_999, zl_1000, q, e]; rfl
    · rw [zcv_len 0 _ _ _ h] at hj; omega
  | succ k ih =>
    intro d hd m T c lo hc hN hlo hs
    obtain ⟨d, rfl⟩ : ∃ z, d = z + 1 := ⟨d - 1, by omega⟩
    have hT : zany T 64 = true := by
      have h0 := hN 0 (by omega)
      rw [zcv] at h0
      cases e : zany T 64 with
      | true => rfl
      | false => rw [if_pos e] at h0; cases h0
    obtain ⟨L0, hL0, hL1⟩ := zany_t.mp hT
    obtain ⟨hz1, hz2, hz3⟩ := zmin_s ⟨L0, hL0, hL1⟩
    have low : F_X0_lowest (lb T) = some (nI (zmin T)) := c_low2 ⟨L0, hL0, hL1⟩
    obtain ⟨L, hLd⟩ : ∃ L, L = zmin T := ⟨_, rfl⟩
    rw [← hLd] at hz1 hz2 hz3 low
    obtain ⟨g, hg⟩ : ∃ g : Nat → Option (List Nat), g = fun a => match zcv k (a + 1) (zwo T a) with | some l => some (a :: l) | none => none := ⟨_, rfl⟩
    have key : ∀ n a f, a + n = 64 → n < f → (∀ m0, zE [19] m m0 → (∀ j, j < c → m0.1 19 0 j = m.1 19 0 j) → ∃ m1, F_X1_covers_L40 (F_X1_covers d) f m0 (lb T) (nI c) (nI (c + (k + 1))) (nI (min 63 (L + 9))) (nI a) = some (bI (zfs g n a).isSome, m1) ∧ zE [19] m m1 ∧ (∀ j, j < c → m1.1 19 0 j = m.1 19 0 j) ∧ (∀ l, zfs g n a = some l → zLs m1 19 c l)) := by
      intro n
      induction n with
      | zero =>
        intro a f h1 h2 m0 e0 h0
        obtain ⟨f, rfl⟩ : ∃ z, f = z + 1 := ⟨f - 1, by omega⟩
        refine ⟨m0, ?_, e0, h0, fun l h => (by cases h)⟩
        rw [F_X1_covers_L40]
        simp (disch := omega) only [↓zl_m1, zz_leT, zz_leF, zz_ltT, zz_ltF, zz_eqT, zz_eqF, zz_okN, zz_okF, nI_clamp, nI_add, pk_mul, pk_sub, zz_bS, zz_b2S, if_true, if_false, Bool.true_eq_false, Bool.false_eq_true, eq_self, ne_eq, not_true_eq_false, not_false_eq_true, false_or, or_false, true_or, or_true, and_true, true_and, and_false, false_and, mI_e, mI_e2, mI_le, mI_le2, mI_lt, mI_lt2, mI_ok, bI_0n, bI_1n, bI_orn, Nat.mul_zero, Nat.zero_add, Nat.add_zero, c_no2, c_no3, c_no4, c_no5, c_no6, r_no2, r_no3, r_no4, r_no5, r_no6, zk_inR, zk_in2, zk_in3, zk_wiN, Nat.reduceAdd, ngI_e, ngI_le, ngI_m, cs_cmpN, zl_0, zl_1, zl_2, zl_3, zl_4, zl_5, zl_6, zl_7, zl_8, zl_9, zl_10, zl_12, zl_13, zl_14, zl_15, zl_16, zl_20, zl_32, zl_40, zl_48, zl_57, zl_59, zl_60, zl_63, zl_64, zl_97, zl_99, zl_101, zl_119, zl_120, zl_122, zl_128, zl_136, zl_152, zl_168, zl_184, zl_200, zl_201, zl_202, zl_203, zl_250, zl_255, zl_320, zl_999, zl_1000]
        rfl
      | succ n ihn =>
        intro a f h1 h2 m0 e0 h0
        obtain ⟨f, rfl⟩ : ∃ z, f = z + 1 := ⟨f - 1, by omega⟩
        have ha : a < 64 := by omega
        by_cases hend : min 63 (L + 9) < a
        · -- farther on than any that would do
          have zn : zfs g (n + 1) a = none := zfs_n (fun j h3 h4 => by
            rw [hg]
            show (match zcv k (j + 1) (zwo T j) with | some l => some (j :: l) | none => none) = none
            have : zwo T j L = true := by
              unfold zwo zq
              rw [hz2, decide_eq_false]
              · rfl
              · unfold zfar; omega
            rw [zcv_far k (j + 1) hz1 this (by omega)])
          rw [zn]
          refine ⟨m0, ?_, e0, h0, fun l h => (by cases h)⟩
          rw [F_X1_covers_L40]
          simp (disch := omega) only [↓zl_m1, zz_leT, zz_leF, zz_ltT, zz_ltF, zz_eqT, zz_eqF, zz_okN, zz_okF, nI_clamp, nI_add, pk_mul, pk_sub, zz_bS, zz_b2S, if_true, if_false, Bool.true_eq_false, Bool.false_eq_true, eq_self, ne_eq, not_true_eq_false, not_false_eq_true, false_or, or_false, true_or, or_true, and_true, true_and, and_false, false_and, mI_e, mI_e2, mI_le, mI_le2, mI_lt, mI_lt2, mI_ok, bI_0n, bI_1n, bI_orn, Nat.mul_zero, Nat.zero_add, Nat.add_zero, c_no2, c_no3, c_no4, c_no5, c_no6, r_no2, r_no3, r_no4, r_no5, r_no6, zk_inR, zk_in2, zk_in3, zk_wiN, Nat.reduceAdd, ngI_e, ngI_le, ngI_m, cs_cmpN, zl_0, zl_1, zl_2, zl_3, zl_4, zl_5, zl_6, zl_7, zl_8, zl_9, zl_10, zl_12, zl_13, zl_14, zl_15, zl_16, zl_20, zl_32, zl_40, zl_48, zl_57, zl_59, zl_60, zl_63, zl_64, zl_97, zl_99, zl_101, zl_119, zl_120, zl_122, zl_128, zl_136, zl_152, zl_168, zl_184, zl_200, zl_201, zl_202, zl_203, zl_250, zl_255, zl_320, zl_999, zl_1000]
          rfl
        · rw [F_X1_covers_L40]
          have q : (lb (zq a) &&& lb T = 0) = (zany (fun c => zq a c && T c) 64 = false) := by rw [lb_and, lb_0]; exact propext zany_f.symm
          cases e : zany (fun c => zq a c && T c) 64 with
          | false =>
            have e2 : ∀ c, c < 64 → zwo T a c = T c := fun c hc2 => by
              have h4 := zany_f.mp e c hc2
              have h4 : (zq a c && T c) = false := h4
              unfold zwo
              cases h5 : T c with
              | false => rfl
              | true => rw [h5, Bool.and_true] at h4; rw [h4]; rfl
            have zg : g a = none := by
              rw [hg]
              show (match zcv k (a + 1) (zwo T a) with | some l => some (a :: l) | none => none) = none
              rw [zcv_cg k (a + 1) e2, zcv_lo k (hN k (by omega))]
            have z : zfs g (n + 1) a = zfs g n (a + 1) := by rw [zfs, zg]
            rw [z]
            obtain ⟨m1, i1, i2⟩ := ihn (a + 1) f (by omega) (by omega) m0 e0 h0
            refine ⟨m1, ?_, i2⟩
            simp (disch := omega) only [↓zl_m1, zz_leT, zz_leF, zz_ltT, zz_ltF, zz_eqT, zz_eqF, zz_okN, zz_okF, nI_clamp, nI_add, pk_mul, pk_sub, zz_bS, zz_b2S, if_true, if_false, Bool.true_eq_false, Bool.false_eq_true, eq_self, ne_eq, not_true_eq_false, not_false_eq_true, false_or, or_false, true_or, or_true, and_true, true_and, and_false, false_and, mI_e, mI_e2, mI_le, mI_le2, mI_lt, mI_lt2, mI_ok, bI_0n, bI_1n, bI_orn, Nat.mul_zero, Nat.zero_add, Nat.add_zero, c_no2, c_no3, c_no4, c_no5, c_no6, r_no2, r_no3, r_no4, r_no5, r_no6, zk_inR, zk_in2, zk_in3, zk_wiN, Nat.reduceAdd, ngI_e, ngI_le, ngI_m, cs_cmpN, zl_0, zl_1, zl_2, zl_3, zl_4, zl_5, zl_6, zl_7, zl_8, zl_9, zl_10, zl_12, zl_13, zl_14, zl_15, zl_16, zl_20, zl_32, zl_40, zl_48, zl_57, zl_59, zl_60, zl_63, zl_64, zl_97, zl_99, zl_101, zl_119, zl_120, zl_122, zl_128, zl_136, zl_152, zl_168, zl_184, zl_200, zl_201, zl_202, zl_203, zl_250, zl_255, zl_320, zl_999, zl_1000, zone1 ha, q, e]
            exact i1
          | true =>
            have e02 : zE [19] m (ax_ui m0 19 0 c (nI a)) := e0.ui (by decide)
            obtain ⟨m1, a1, a2, a3, a4⟩ := ih d (by omega) (ax_ui m0 19 0 c (nI a)) (zwo T a) (c + 1) (a + 1) (by omega) (zNf_wo ha (by omega) hN) (by omega) (by
              rw [if_neg (by omega), show c + 1 - 1 = c by omega, zu_s, nI_1])
            rw [show c + 1 + k = c + (k + 1) by omega] at a1
            have hw : lb T &&& (lb (zq a) ^^^ (-1)) = lb (zwo T a) := by rw [lb_not, lb_and]; rfl
            have h1c : ∀ j, j < c → m1.1 19 0 j = m.1 19 0 j := fun j hj => by rw [a3 j (by omega), zu_j (by omega)]; exact h0 j hj
            have h1a : m1.1 19 0 c = nI a := by rw [a3 c (by omega), zu_s]
            cases e3 : zcv k (a + 1) (zwo T a) with
            | some l =>
              have zg : g a = some (a :: l) := by rw [hg]; show (match zcv k (a + 1) (zwo T a) with | some l => some (a :: l) | none => none) = _; rw [e3]
              have z : zfs g (n + 1) a = some (a :: l) := by rw [zfs, zg]
              rw [z]
              rw [e3] at a1
              refine ⟨m1, ?_, e02.tr a2, h1c, fun l2 h5 => ?_⟩
              · simp (disch := omega) only [↓zl_m1, zz_leT, zz_leF, zz_ltT, zz_ltF, zz_eqT, zz_eqF, zz_okN, zz_okF, nI_clamp, nI_add, pk_mul, pk_sub, zz_bS, zz_b2S, if_true, if_false, Bool.true_eq_false, Bool.false_eq_true, eq_self, ne_eq, not_true_eq_false, not_false_eq_true, false_or, or_false, true_or, or_true, and_true, true_and, and_false, false_and, mI_e, mI_e2, mI_le, mI_le2, mI_lt, mI_lt2, mI_ok, bI_0n, bI_1n, bI_orn, Nat.mul_zero, Nat.zero_add, Nat.add_zero, c_no2, c_no3, c_no4, c_no5, c_no6, r_no2, r_no3, r_no4, r_no5, r_no6, zk_inR, zk_in2, zk_in3, zk_wiN, Nat.reduceAdd, ngI_e, ngI_le, ngI_m, cs_cmpN, zl_0, zl_1, zl_2, zl_3, zl_4, zl_5, zl_6, zl_7, zl_8, zl_9, zl_10, zl_12, zl_13, zl_14, zl_15, zl_16, zl_20, zl_32, zl_40, zl_48, zl_57, zl_59, zl_60, zl_63, zl_64, zl_97, zl_99, zl_101, zl_119, zl_120, zl_122, zl_128, zl_136, zl_152, zl_168, zl_184, zl_200, zl_201, zl_202, zl_203, zl_250, zl_255, zl_320, zl_999, zl_1000, zone1 ha, q, e, hw, a1, Option.isSome_some]
                rfl
              · cases h5
                intro j hj
                cases j with
                | zero => exact h1a
                | succ j =>
                  have := a4 l e3 j (by rw [List.length_cons] at hj; omega)
                  rw [show c + (j + 1) = c + 1 + j by omega]
                  exact this
            | none =>
              have zg : g a = none := by rw [hg]; show (match zcv k (a + 1) (zwo T a) with | some l => some (a :: l) | none => none) = _; rw [e3]
              have z : zfs g (n + 1) a = zfs g n (a + 1) := by rw [zfs, zg]
              rw [z]
              rw [e3] at a1
              obtain ⟨m2, i1, i2⟩ := ihn (a + 1) f (by omega) (by omega) m1 (e02.tr a2) h1c
              refine ⟨m2, ?_, i2⟩
              simp (disch := omega) only [↓zl_m1, zz_leT, zz_leF, zz_ltT, zz_ltF, zz_eqT, zz_eqF, zz_okN, zz_okF, nI_clamp, nI_add, pk_mul, pk_sub, zz_bS, zz_b2S, if_true, if_false, Bool.true_eq_false, Bool.false_eq_true, eq_self, ne_eq, not_true_eq_false, not_false_eq_true, false_or, or_false, true_or, or_true, and_true, true_and, and_false, false_and, mI_e, mI_e2, mI_le, mI_le2, mI_lt, mI_lt2, mI_ok, bI_0n, bI_1n, bI_orn, Nat.mul_zero, Nat.zero_add, Nat.add_zero, c_no2, c_no3, c_no4, c_no5, c_no6, r_no2, r_no3, r_no4, r_no5, r_no6, zk_inR, zk_in2, zk_in3, zk_wiN, Nat.reduceAdd, ngI_e, ngI_le, ngI_m, cs_cmpN, zl_0, zl_1, zl_2, zl_3, zl_4, zl_5, zl_6, zl_7, zl_8, zl_9, zl_10, zl_12, zl_13, zl_14, zl_15, zl_16, zl_20, zl_32, zl_40, zl_48, zl_57, zl_59, zl_60, zl_63, zl_64, zl_97, zl_99, zl_101, zl_119, zl_120, zl_122, zl_128, zl_136, zl_152, zl_168, zl_184, zl_200, zl_201, zl_202, zl_203, zl_250, zl_255, zl_320, zl_999, zl_1000, zone1 ha, q, e, hw, a1, Option.isSome_none]
              exact i1
    have zt : zcv (k + 1) lo T = zfs g (64 - lo) lo := by rw [zcv, hg]
    rw [zt]
    obtain ⟨m1, k1, k2⟩ := key (64 - lo) lo ax_FU (by omega) (by unfold ax_FU; omega) m (zE.rf _ _) (fun _ _ => rfl)
    refine ⟨m1, ?_, k2⟩
    have q : (lg_cmp (lb T) 0 = nI 0) = False := by
      rw [cs_cmpN, lb_0]
      exact eq_false (fun z => by have := z L hz1; rw [hz2] at this; cases this)
    rw [F_X1_covers]
    by_cases e0 : c = 0
    · rw [if_pos e0] at hs
      subst hs
      simp (disch := omega) only [↓zl_m1, zz_leT, zz_leF, zz_ltT, zz_ltF, zz_eqT, zz_eqF, zz_okN, zz_okF, nI_clamp, nI_add, pk_mul, pk_sub, zz_bS, zz_b2S, if_true, if_false, Bool.true_eq_false, Bool.false_eq_true, eq_self, ne_eq, not_true_eq_false, not_false_eq_true, false_or, or_false, true_or, or_true, and_true, true_and, and_false, false_and, mI_e, mI_e2, mI_le, mI_le2, mI_lt, mI_lt2, mI_ok, bI_0n, bI_1n, bI_orn, Nat.mul_zero, Nat.zero_add, Nat.add_zero, c_no2, c_no3, c_no4, c_no5, c_no6, r_no2, r_no3, r_no4, r_no5, r_no6, zk_inR, zk_in2, zk_in3, zk_wiN, Nat.reduceAdd, ngI_e, ngI_le, ngI_m, cs_cmpN, zl_0, zl_1, zl_2, zl_3, zl_4, zl_5, zl_6, zl_7, zl_8, zl_9, zl_10, zl_12, zl_13, zl_14, zl_15, zl_16, zl_20, zl_32, zl_40, zl_48, zl_57, zl_59, zl_60, zl_63, zl_64, zl_97, zl_99, zl_101, zl_119, zl_120, zl_122, zl_128, zl_136, zl_152, zl_168, zl_184, zl_200, zl_201, zl_202, zl_203, zl_250, zl_255, zl_320, zl_999, zl_1000, q, low, e0, zz_min 63 (L + 9) (by omega) (by omega)]
      rw [e0, Nat.zero_add] at k1
      exact k1
    · rw [if_neg e0] at hs
      have hs : m.1 19 0 (c - 1) + nI 1 = nI lo := hs
      simp (disch := omega) only [↓zl_m1, zz_leT, zz_leF, zz_ltT, zz_ltF, zz_eqT, zz_eqF, zz_okN, zz_okF, nI_clamp, nI_add, pk_mul, pk_sub, zz_bS, zz_b2S, if_true, if_false, Bool.true_eq_false, Bool.false_eq_true, eq_self, ne_eq, not_true_eq_false, not_false_eq_true, false_or, or_false, true_or, or_true, and_true, true_and, and_false, false_and, mI_e, mI_e2, mI_le, mI_le2, mI_lt, mI_lt2, mI_ok, bI_0n, bI_1n, bI_orn, Nat.mul_zero, Nat.zero_add, Nat.add_zero, c_no2, c_no3, c_no4, c_no5, c_no6, r_no2, r_no3, r_no4, r_no5, r_no6, zk_inR, zk_in2, zk_in3, zk_wiN, Nat.reduceAdd, ngI_e, ngI_le, ngI_m, cs_cmpN, zl_0, zl_1, zl_2, zl_3, zl_4, zl_5, zl_6, zl_7, zl_8, zl_9, zl_10, zl_12, zl_13, zl_14, zl_15, zl_16, zl_20, zl_32, zl_40, zl_48, zl_57, zl_59, zl_60, zl_63, zl_64, zl_97, zl_99, zl_101, zl_119, zl_120, zl_122, zl_128, zl_136, zl_152, zl_168, zl_184, zl_200, zl_201, zl_202, zl_203, zl_250, zl_255, zl_320, zl_999, zl_1000, q, low, e0, zz_min 63 (L + 9) (by omega) (by omega), hs]
      exact k1
/-- the smallest size that does -/
def zcT (T : Nat → Bool) : Option (List Nat) := zfs (fun k => zcv k 0 T) 4 0
theorem c_coverF {m : ax_M} (T : Nat → Bool) : ∃ m1, F_X1_find m (lb T) = some ((match zcT T with | some l => nI l.length | none => mI), m1) ∧ zE [19] m m1 ∧ ∀ l, zcT T = some l → zLs m1 19 0 l ∧ l.length ≤ 3 := by
  have key : ∀ n k f, k + n = 4 → n < f → zNf k T → (∀ m0, zE [19] m m0 → ∃ m1, F_X1_find_L2 f m0 (lb T) (nI k) = some ((match zfs (fun k => zcv k 0 T) n k with | some l => nI l.length | none => mI), m1) ∧ zE [19] m m1 ∧ ∀ l, zfs (fun k => zcv k 0 T) n k = some l → zLs m1 19 0 l ∧ l.length ≤ 3) := by
    intro n
    induction n with
    | zero =>
      intro k f h1 h2 hN m0 e0
      obtain ⟨f, rfl⟩ : ∃ z, f = z + 1 := ⟨f - 1, by omega⟩
      refine ⟨m0, ?_, e0, fun l h => (by cases h)⟩
      rw [F_X1_find_L2]
      simp (disch := omega) only [↓zl_m1, zz_leT, zz_leF, zz_ltT, zz_ltF, zz_eqT, zz_eqF, zz_okN, zz_okF, nI_clamp, nI_add, pk_mul, pk_sub, zz_bS, zz_b2S, if_true, if_false, Bool.true_eq_false, Bool.false_eq_true, eq_self, ne_eq, not_true_eq_false, not_false_eq_true, false_or, or_false, true_or, or_true, and_true, true_and, and_false, false_and, mI_e, mI_e2, mI_le, mI_le2, mI_lt, mI_lt2, mI_ok, bI_0n, bI_1n, bI_orn, Nat.mul_zero, Nat.zero_add, Nat.add_zero, c_no2, c_no3, c_no4, c_no5, c_no6, r_no2, r_no3, r_no4, r_no5, r_no6, zk_inR, zk_in2, zk_in3, zk_wiN, Nat.reduceAdd, ngI_e, ngI_le, ngI_m, cs_cmpN, zl_0, zl_1, zl_2, zl_3, zl_4, zl_5, zl_6, zl_7, zl_8, zl_9, zl_10, zl_12, zl_13, zl_14, zl_15, zl_16, zl_20, zl_32, zl_40, zl_48, zl_57, zl_59, zl_60, zl_63, zl_64, zl_97, zl_99, zl_101, zl_119, zl_120, zl_122, zl_128, zl_136, zl_152, zl_168, zl_184, zl_200, zl_201, zl_202, zl_203, zl_250, zl_255, zl_320, zl_999, zl_1000]
      rfl
    | succ n ih =>
      intro k f h1 h2 hN m0 e0
      obtain ⟨f, rfl⟩ : ∃ z, f = z + 1 := ⟨f - 1, by omega⟩
      obtain ⟨m1, a1, a2, a3, a4⟩ := c_covers k 12 (by omega) m0 T 0 0 (by omega) hN (by omega) (by rw [if_pos rfl])
      rw [Nat.zero_add] at a1
      rw [F_X1_find_L2, zfs]
      cases e : zcv k 0 T with
      | some l =>
        rw [e] at a1
        have hl := zcv_len _ _ _ _ e
        refine ⟨m1, ?_, e0.tr a2, fun l2 h5 => (by cases h5; exact ⟨a4 l e, by omega⟩)⟩
        simp (disch := omega) only [↓zl_m1, zz_leT, zz_leF, zz_ltT, zz_ltF, zz_eqT, zz_eqF, zz_okN, zz_okF, nI_clamp, nI_add, pk_mul, pk_sub, zz_bS, zz_b2S, if_true, if_false, Bool.true_eq_false, Bool.false_eq_true, eq_self, ne_eq, not_true_eq_false, not_false_eq_true, false_or, or_false, true_or, or_true, and_true, true_and, and_false, false_and, mI_e, mI_e2, mI_le, mI_le2, mI_lt, mI_lt2, mI_ok, bI_0n, bI_1n, bI_orn, Nat.mul_zero, Nat.zero_add, Nat.add_zero, c_no2, c_no3, c_no4, c_no5, c_no6, r_no2, r_no3, r_no4, r_no5, r_no6, zk_inR, zk_in2, zk_in3, zk_wiN, Nat.reduceAdd, ngI_e, ngI_le, ngI_m, cs_cmpN, zl_0, zl_1, zl_2, zl_3, zl_4, zl_5, zl_6, zl_7, zl_8, zl_9, zl_10, zl_12, zl_13, zl_14, zl_15, zl_16, zl_20, zl_32, zl_40, zl_48, zl_57, zl_59, zl_60, zl_63, zl_64, zl_97, zl_99, zl_101, zl_119, zl_120, zl_122, zl_128, zl_136, zl_152, zl_168, zl_184, zl_200, zl_201, zl_202, zl_203, zl_250, zl_255, zl_320, zl_999, zl_1000, a1, Option.isSome_some]
        show _ = some (nI l.length, m1)
        rw [hl]
      | none =>
        rw [e] at a1
        obtain ⟨m2, i1, i2⟩ := ih (k + 1) f (by omega) (by omega) (fun j hj => by
          by_cases e2 : j = k
          · subst e2; exact e
          · exact hN j (by omega)) m1 (e0.tr a2)
        refine ⟨m2, ?_, i2⟩
        simp (disch := omega) only [↓zl_m1, zz_leT, zz_leF, zz_ltT, zz_ltF, zz_eqT, zz_eqF, zz_okN, zz_okF, nI_clamp, nI_add, pk_mul, pk_sub, zz_bS, zz_b2S, if_true, if_false, Bool.true_eq_false, Bool.false_eq_true, eq_self, ne_eq, not_true_eq_false, not_false_eq_true, false_or, or_false, true_or, or_true, and_true, true_and, and_false, false_and, mI_e, mI_e2, mI_le, mI_le2, mI_lt, mI_lt2, mI_ok, bI_0n, bI_1n, bI_orn, Nat.mul_zero, Nat.zero_add, Nat.add_zero, c_no2, c_no3, c_no4, c_no5, c_no6, r_no2, r_no3, r_no4, r_no5, r_no6, zk_inR, zk_in2, zk_in3, zk_wiN, Nat.reduceAdd, ngI_e, ngI_le, ngI_m, cs_cmpN, zl_0, zl_1, zl_2, zl_3, zl_4, zl_5, zl_6, zl_7, zl_8, zl_9, zl_10, zl_12, zl_13, zl_14, zl_15, zl_16, zl_20, zl_32, zl_40, zl_48, zl_57, zl_59, zl_60, zl_63, zl_64, zl_97, zl_99, zl_101, zl_119, zl_120, zl_122, zl_128, zl_136, zl_152, zl_168, zl_184, zl_200, zl_201, zl_202, zl_203, zl_250, zl_255, zl_320, zl_999, zl_1000, a1, Option.isSome_none]
        exact i1
  obtain ⟨m1, a1, a2, a3⟩ := key 4 0 ax_FU rfl (by decide) (fun j hj => by omega) m (zE.rf _ _)
  exact ⟨m1, a1, a2, a3⟩
