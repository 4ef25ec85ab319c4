/-! RINGS -/
def zfs {β : Type} (g : Nat → Option β) : Nat → Nat → Option β
  | 0, _ => none
  | k + 1, i => match g i with
    | some b => some b
    | none => zfs g k (i + 1)
theorem zfs_n {β : Type} {g : Nat → Option β} : ∀ {k i : Nat}, (∀ j, i ≤ j → j < i + k → g j = none) → zfs g k i = none
  | 0, _, _ => rfl
  | k + 1, i, h => by
    rw [zfs, h i (by omega) (by omega)]
    exact zfs_n (fun j h1 h2 => h j (by omega) (by omega))
theorem zfs_x {β : Type} {g : Nat → Option β} : ∀ {k i : Nat} (r : Nat), (∀ j, i + k ≤ j → j < i + k + r → g j = none) → zfs g (k + r) i = zfs g k i
  | 0, i, r, h => by
    rw [Nat.zero_add, zfs_n (fun j h1 h2 => h j (by omega) (by omega))]; rfl
  | k + 1, i, r, h => by
    rw [show k + 1 + r = k + r + 1 by omega, zfs, zfs]
    cases g i with
    | some b => rfl
    | none => exact zfs_x r (fun j h1 h2 => h j (by omega) (by omega))
theorem zfs_c {β : Type} {g g2 : Nat → Option β} : ∀ {k i : Nat}, (∀ j, i ≤ j → j < i + k → g j = g2 j) → zfs g k i = zfs g2 k i
  | 0, _, _ => rfl
  | k + 1, i, h => by
    rw [zfs, zfs, h i (by omega) (by omega), zfs_c (fun j h1 h2 => h j (by omega) (by omega))]
def zup (r : Nat → Nat) (k v : Nat) : Nat → Nat := fun j => if j = k then v else r j
def zrg (ow : Nat → Nat → Bool) : Nat → (Nat → Nat) → Nat → (Nat → Bool) → Option (Nat → Nat)
  | 0, r, c, _ => if ow (r (c - 1)) (r 0) = true then some r else none
  | n + 1, r, c, u => zfs (fun p => if (ow (r (c - 1)) p && !u p) = true then zrg ow n (zup r c p) (c + 1) (fun i => u i || decide (i = p)) else none) (7 - r 0) (r 0 + 1)
def zRw (m : ax_M) (k : Nat) (r : Nat → Nat) (c : Nat) : Prop := ∀ j, j < c → m.1 k 0 j = nI (r j)
theorem c_closes {ow : Nat → Nat → Bool} : ∀ (n d : Nat), n < d → ∀ (m : ax_M) (r : Nat → Nat) (c : Nat) (u : Nat → Bool), 0 < c → c + n ≤ 8 → (∀ j, j < c → r j < 8) → zRw m 16 r c → (∀ x, x < 8 → m.1 17 0 x = zm (ow x) 8) →
    ∃ m1, F_X5_closes d m (nI c) (nI (c + n)) (zm u 8) = some (bI (zrg ow n r c u).isSome, m1) ∧ zE [16] m m1 ∧ (∀ r2, zrg ow n r c u = some r2 → zRw m1 16 r2 (c + n)) ∧ (zrg ow n r c u = none → zRw m1 16 r c) := by
  intro n
  induction n with
  | zero =>
    intro d hd m r c u hc hcn hr hm ho
    obtain ⟨d, rfl⟩ : ∃ z, d = z + 1 := ⟨d - 1, by omega⟩
    have l1 := hr (c - 1) (by omega)
    have f1 := hr 0 (by omega)
    have q1 := hm (c - 1) (by omega)
    have q2 := hm 0 (by omega)
    have q3 := ho _ l1
    refine ⟨m, ?_, zE.rf _ _, fun r2 h2 => ?_, fun _ => hm⟩
    · rw [F_X5_closes, zrg, Nat.add_zero]
      cases e : ow (r (c - 1)) (r 0) with
      | true =>
        simp (disch := omega) only [↓zl_m1, zz_leT, zz_leF, zz_ltT, zz_ltF, zz_eqT, zz_eqF, zz_okN, zz_okF, nI_clamp, nI_add, pk_mul, pk_sub, zz_bS, zz_b2S, if_true, if_false, Bool.true_eq_false, Bool.false_eq_true, eq_self, ne_eq, not_true_eq_false, not_false_eq_true, false_or, or_false, true_or, or_true, and_true, true_and, and_false, false_and, mI_e, mI_e2, mI_le, mI_le2, mI_lt, mI_lt2, mI_ok, bI_0n, bI_1n, bI_orn, Nat.mul_zero, Nat.zero_add, Nat.add_zero, c_no2, c_no3, c_no4, c_no5, c_no6, r_no2, r_no3, r_no4, r_no5, r_no6, zk_inR, zk_in2, zk_in3, zk_wiN, Nat.reduceAdd, ngI_e, ngI_le, ngI_m, cs_cmpN, zl_0, zl_1, zl_2, zl_3, zl_4, zl_5, zl_6, zl_7, zl_8, zl_9, zl_10, zl_12, zl_13, zl_14, zl_15, zl_16, zl_20, zl_32, zl_40, zl_48, zl_57, zl_59, zl_60, zl_63, zl_64, zl_97, zl_99, zl_101, zl_119, zl_120, zl_122, zl_128, zl_136, zl_152, zl_168, zl_184, zl_200, zl_201, zl_202, zl_203, zl_250, zl_255, zl_320, zl_999, zl_1000, q1, q2, q3, zm_u (show 8 ≤ 32 by omega) f1, e]
        rfl
      | false =>
        simp (disch := omega) only [↓zl_m1, zz_leT, zz_leF, zz_ltT, zz_ltF, zz_eqT, zz_eqF, zz_okN, zz_okF, nI_clamp, nI_add, pk_mul, pk_sub, zz_bS, zz_b2S, if_true, if_false, Bool.true_eq_false, Bool.false_eq_true, eq_self, ne_eq, not_true_eq_false, not_false_eq_true, false_or, or_false, true_or, or_true, and_true, true_and, and_false, false_and, mI_e, mI_e2, mI_le, mI_le2, mI_lt, mI_lt2, mI_ok, bI_0n, bI_1n, bI_orn, Nat.mul_zero, Nat.zero_add, Nat.add_zero, c_no2, c_no3, c_no4, c_no5, c_no6, r_no2, r_no3, r_no4, r_no5, r_no6, zk_inR, zk_in2, zk_in3, zk_wiN, Nat.reduceAdd, ngI_e, ngI_le, ngI_m, cs_cmpN, zl_0, zl_1, zl_2, zl_3, zl_4, zl_5, zl_6, zl_7, zl_8, zl_9, zl_10, zl_12, zl_13, zl_14, zl_15, zl_16, zl_20, zl_32, zl_40, zl_48, zl_57, zl_59, zl_60, zl_63, zl_64, zl_97, zl_99, zl_101, zl_119, zl_120, zl_122, zl_128, zl_136, zl_152, zl_168, zl_184, zl_200, zl_201, zl_202, zl_203, zl_250, zl_255, zl_320, zl_999, zl_1000, q1, q2, q3, zm_u (show 8 ≤ 32 by omega) f1, e]
        rfl
    · rw [zrg] at h2
      by_cases e : ow (r (c - 1)) (r 0) = true
      · rw [if_pos e] at h2; cases h2; exact hm
      · rw [if_neg e] at h2; cases h2
  | succ n ih =>
    intro d hd m r c u hc hcn hr hm ho
    obtain ⟨d, rfl⟩ : ∃ z, d = z + 1 := ⟨d - 1, by omega⟩
    have l1 := hr (c - 1) (by omega)
    have f1 := hr 0 (by omega)
    have q1 := hm (c - 1) (by omega)
    have q2 := hm 0 (by omega)
    have q3 := ho _ l1
    obtain ⟨g, hg⟩ : ∃ g : Nat → Option (Nat → Nat), g = fun p => if (ow (r (c - 1)) p && !u p) = true then zrg ow n (zup r c p) (c + 1) (fun i => u i || decide (i = p)) else none := ⟨_, rfl⟩
    have key : ∀ k p f, p + k = 8 → k < f → (∀ m0, zE [16] m m0 → zRw m0 16 r c → ∃ m1, F_X5_closes_L42 (F_X5_closes d) f m0 (nI c) (nI (c + (n + 1))) (zm u 8) (zm (ow (r (c - 1))) 8) (nI p) = some (bI (zfs g k p).isSome, m1) ∧ zE [16] m m1 ∧ (∀ r2, zfs g k p = some r2 → zRw m1 16 r2 (c + (n + 1))) ∧ (zfs g k p = none → zRw m1 16 r c)) := by
      intro k
      induction k with
      | zero =>
        intro p f h1 h2 m0 e0 h0
        obtain ⟨f, rfl⟩ : ∃ z, f = z + 1 := ⟨f - 1, by omega⟩
        refine ⟨m0, ?_, e0, fun r2 h => (by cases h), fun _ => h0⟩
        rw [F_X5_closes_L42, show nI p = 8 by rw [show p = 8 by omega]; rfl, if_pos (Int32.le_refl _)]
        rfl
      | succ k ihk =>
        intro p f h1 h2 m0 e0 h0
        obtain ⟨f, rfl⟩ : ∃ z, f = z + 1 := ⟨f - 1, by omega⟩
        have hp8 : p < 8 := by omega
        rw [F_X5_closes_L42]
        have mk : (ax_iushr (zm (ow (r (c - 1))) 8 &&& (zm u 8 ^^^ mI)) (nI p) &&& nI 1 = nI 0) = ((ow (r (c - 1)) p && !u p) = false) := by
          rw [zm_andm (by omega), zm_u (by omega) hp8]
        cases e : (ow (r (c - 1)) p && !u p) with
        | false =>
          have hgp : g p = none := by rw [hg]; show (if (ow (r (c - 1)) p && !u p) = true then _ else none) = none; rw [if_neg (by rw [e]; decide)]
          obtain ⟨m1, i1, i2⟩ := ihk (p + 1) f (by omega) (by omega) m0 e0 h0
          have z : zfs g (k + 1) p = zfs g k (p + 1) := by rw [zfs, hgp]
          rw [z]
          refine ⟨m1, ?_, i2⟩
          simp (disch := omega) only [↓zl_m1, zz_leT, zz_leF, zz_ltT, zz_ltF, zz_eqT, zz_eqF, zz_okN, zz_okF, nI_clamp, nI_add, pk_mul, pk_sub, zz_bS, zz_b2S, if_true, if_false, Bool.true_eq_false, Bool.false_eq_true, eq_self, ne_eq, not_true_eq_false, not_false_eq_true, false_or, or_false, true_or, or_true, and_true, true_and, and_false, false_and, mI_e, mI_e2, mI_le, mI_le2, mI_lt, mI_lt2, mI_ok, bI_0n, bI_1n, bI_orn, Nat.mul_zero, Nat.zero_add, Nat.add_zero, c_no2, c_no3, c_no4, c_no5, c_no6, r_no2, r_no3, r_no4, r_no5, r_no6, zk_inR, zk_in2, zk_in3, zk_wiN, Nat.reduceAdd, ngI_e, ngI_le, ngI_m, cs_cmpN, zl_0, zl_1, zl_2, zl_3, zl_4, zl_5, zl_6, zl_7, zl_8, zl_9, zl_10, zl_12, zl_13, zl_14, zl_15, zl_16, zl_20, zl_32, zl_40, zl_48, zl_57, zl_59, zl_60, zl_63, zl_64, zl_97, zl_99, zl_101, zl_119, zl_120, zl_122, zl_128, zl_136, zl_152, zl_168, zl_184, zl_200, zl_201, zl_202, zl_203, zl_250, zl_255, zl_320, zl_999, zl_1000, mk, e]
          exact i1
        | true =>
          have hgp : g p = zrg ow n (zup r c p) (c + 1) (fun i => u i || decide (i = p)) := by rw [hg]; exact if_pos e
          have hm2 : zRw (ax_ui m0 16 0 c (nI p)) 16 (zup r c p) (c + 1) := fun j hj => by
            unfold zup
            by_cases e2 : j = c
            · subst e2; rw [if_pos rfl]; exact zu_s
            · rw [if_neg e2, zu_j e2]; exact h0 j (by omega)
          have hr2 : ∀ j, j < c + 1 → zup r c p j < 8 := fun j hj => by
            unfold zup
            by_cases e2 : j = c
            · rw [if_pos e2]; exact hp8
            · rw [if_neg e2]; exact hr j (by omega)
          have e02 : zE [16] m (ax_ui m0 16 0 c (nI p)) := e0.ui (by decide)
          obtain ⟨m1, a1, a2, a3, a4⟩ := ih d (by omega) (ax_ui m0 16 0 c (nI p)) (zup r c p) (c + 1) (fun i => u i || decide (i = p)) (by omega) (by omega) hr2 hm2 (fun x hx => by rw [(e02 17 (by decide)).1]; exact ho x hx)
          have um : zm u 8 ||| ax_ishl (nI 1) (nI p) = zm (fun i => u i || decide (i = p)) 8 := zm_set (by omega) hp8 (fun i _ => rfl)
          rw [show c + 1 + n = c + (n + 1) by omega] at a1 a3
          rw [← hgp] at a1 a3 a4
          cases e3 : g p with
          | some r2 =>
            rw [e3] at a1
            have z : zfs g (k + 1) p = some r2 := by rw [zfs, e3]
            rw [z]
            refine ⟨m1, ?_, e02.tr a2, fun r3 h3 => by cases h3; exact a3 _ e3, fun h3 => by cases h3⟩
            simp (disch := omega) only [↓zl_m1, zz_leT, zz_leF, zz_ltT, zz_ltF, zz_eqT, zz_eqF, zz_okN, zz_okF, nI_clamp, nI_add, pk_mul, pk_sub, zz_bS, zz_b2S, if_true, if_false, Bool.true_eq_false, Bool.false_eq_true, eq_self, ne_eq, not_true_eq_false, not_false_eq_true, false_or, or_false, true_or, or_true, and_true, true_and, and_false, false_and, mI_e, mI_e2, mI_le, mI_le2, mI_lt, mI_lt2, mI_ok, bI_0n, bI_1n, bI_orn, Nat.mul_zero, Nat.zero_add, Nat.add_zero, c_no2, c_no3, c_no4, c_no5, c_no6, r_no2, r_no3, r_no4, r_no5, r_no6, zk_inR, zk_in2, zk_in3, zk_wiN, Nat.reduceAdd, ngI_e, ngI_le, ngI_m, cs_cmpN, zl_0, zl_1, zl_2, zl_3, zl_4, zl_5, zl_6, zl_7, zl_8, zl_9, zl_10, zl_12, zl_13, zl_14, zl_15, zl_16, zl_20, zl_32, zl_40, zl_48, zl_57, zl_59, zl_60, zl_63, zl_64, zl_97, zl_99, zl_101, zl_119, zl_120, zl_122, zl_128, zl_136, zl_152, zl_168, zl_184, zl_200, zl_201, zl_202, zl_203, zl_250, zl_255, zl_320, zl_999, zl_1000, mk, e, um, a1]
            rfl
          | none =>
            rw [e3] at a1
            have z : zfs g (k + 1) p = zfs g k (p + 1) := by rw [zfs, e3]
            rw [z]
            have h1c : zRw m1 16 r c := fun j hj => by
              have := a4 e3 j (by omega)
              unfold zup at this
              rw [if_neg (by omega)] at this
              exact this
            obtain ⟨m2, i1, i2⟩ := ihk (p + 1) f (by omega) (by omega) m1 (e02.tr a2) h1c
            refine ⟨m2, ?_, i2⟩
            simp (disch := omega) only [↓zl_m1, zz_leT, zz_leF, zz_ltT, zz_ltF, zz_eqT, zz_eqF, zz_okN, zz_okF, nI_clamp, nI_add, pk_mul, pk_sub, zz_bS, zz_b2S, if_true, if_false, Bool.true_eq_false, Bool.false_eq_true, eq_self, ne_eq, not_true_eq_false, not_false_eq_true, false_or, or_false, true_or, or_true, and_true, true_and, and_false, false_and, mI_e, mI_e2, mI_le, mI_le2, mI_lt, mI_lt2, mI_ok, bI_0n, bI_1n, bI_orn, Nat.mul_zero, Nat.zero_add, Nat.add_zero, c_no2, c_no3, c_no4, c_no5, c_no6, r_no2, r_no3, r_no4, r_no5, r_no6, zk_inR, zk_in2, zk_in3, zk_wiN, Nat.reduceAdd, ngI_e, ngI_le, ngI_m, cs_cmpN, zl_0, zl_1, zl_2, zl_3, zl_4, zl_5, zl_6, zl_7, zl_8, zl_9, zl_10, zl_12, zl_13, zl_14, zl_15, zl_16, zl_20, zl_32, zl_40, zl_48, zl_57, zl_59, zl_60, zl_63, zl_64, zl_97, zl_99, zl_101, zl_119, zl_120, zl_122, zl_128, zl_136, zl_152, zl_168, zl_184, zl_200, zl_201, zl_202, zl_203, zl_250, zl_255, zl_320, zl_999, zl_1000, mk, e, um, a1, Option.isSome_none]
            exact i1
    obtain ⟨m1, k1, k2⟩ := key (7 - r 0) (r 0 + 1) ax_FU (by omega) (by unfold ax_FU; omega) m (zE.rf _ _) hm
    have z : zrg ow (n + 1) r c u = zfs g (7 - r 0) (r 0 + 1) := by rw [hg]; rfl
    rw [z]
    refine ⟨m1, ?_, k2⟩
    rw [F_X5_closes]
    simp (disch := omega) only [↓zl_m1, zz_leT, zz_leF, zz_ltT, zz_ltF, zz_eqT, zz_eqF, zz_okN, zz_okF, nI_clamp, nI_add, pk_mul, pk_sub, zz_bS, zz_b2S, if_true, if_false, Bool.true_eq_false, Bool.false_eq_true, eq_self, ne_eq, not_true_eq_false, not_false_eq_true, false_or, or_false, true_or, or_true, and_true, true_and, and_false, false_and, mI_e, mI_e2, mI_le, mI_le2, mI_lt, mI_lt2, mI_ok, bI_0n, bI_1n, bI_orn, Nat.mul_zero, Nat.zero_add, Nat.add_zero, c_no2, c_no3, c_no4, c_no5, c_no6, r_no2, r_no3, r_no4, r_no5, r_no6, zk_inR, zk_in2, zk_in3, zk_wiN, Nat.reduceAdd, ngI_e, ngI_le, ngI_m, cs_cmpN, zl_0, zl_1, zl_2, zl_3, zl_4, zl_5, zl_6, zl_7, zl_8, zl_9, zl_10, zl_12, zl_13, zl_14, zl_15, zl_16, zl_20, zl_32, zl_40, zl_48, zl_57, zl_59, zl_60, zl_63, zl_64, zl_97, zl_99, zl_101, zl_119, zl_120, zl_122, zl_128, zl_136, zl_152, zl_168, zl_184, zl_200, zl_201, zl_202, zl_203, zl_250, zl_255, zl_320, zl_999, zl_1000, q1, q2, q3]
    exact k1
theorem r_rings {m : ax_M} {G : zG} (hV : zV G) : ∀ (n d : Nat), n < d → ∀ (m : ax_M), zL m G → ∀ (r : Nat → Nat) (c : Nat) (u : Nat → Bool), 0 < c → c + n ≤ 8 → (∀ j, j < c → r j < 8) → zRw m 38 r c → r 0 < gP G →
    ∃ m1, F_X11_rings d m (nI (c + n)) (nI c) (zm u 8) = some (bI (zrg (gEd G) n r c u).isSome, m1) ∧ zE [38] m m1 ∧ (∀ r2, zrg (gEd G) n r c u = some r2 → zRw m1 38 r2 (c + n)) ∧ (zrg (gEd G) n r c u = none → zRw m1 38 r c) := by
  have hp := hV.p
  intro n
  induction n with
  | zero =>
    intro d hd m hL r c u hc hcn hr hm h0P
    obtain ⟨d, rfl⟩ : ∃ z, d = z + 1 := ⟨d - 1, by omega⟩
    have l1 := hr (c - 1) (by omega)
    have f1 := hr 0 (by omega)
    have q1 := hm (c - 1) (by omega)
    have q2 := hm 0 (by omega)
    have q3 := hL.d l1 f1
    have hd2 := hV.d l1 f1
    refine ⟨m, ?_, zE.rf _ _, fun r2 h2 => ?_, fun _ => hm⟩
    · rw [F_X11_rings, zrg, Nat.add_zero]
      by_cases e : 0 < gD G (r (c - 1)) (r 0)
      · rw [if_pos (show gEd G (r (c - 1)) (r 0) = true from decide_eq_true e)]
        simp (disch := omega) only [↓zl_m1, zz_leT, zz_leF, zz_ltT, zz_ltF, zz_eqT, zz_eqF, zz_okN, zz_okF, nI_clamp, nI_add, pk_mul, pk_sub, zz_bS, zz_b2S, if_true, if_false, Bool.true_eq_false, Bool.false_eq_true, eq_self, ne_eq, not_true_eq_false, not_false_eq_true, false_or, or_false, true_or, or_true, and_true, true_and, and_false, false_and, mI_e, mI_e2, mI_le, mI_le2, mI_lt, mI_lt2, mI_ok, bI_0n, bI_1n, bI_orn, Nat.mul_zero, Nat.zero_add, Nat.add_zero, c_no2, c_no3, c_no4, c_no5, c_no6, r_no2, r_no3, r_no4, r_no5, r_no6, zk_inR, zk_in2, zk_in3, zk_wiN, Nat.reduceAdd, ngI_e, ngI_le, ngI_m, cs_cmpN, zl_0, zl_1, zl_2, zl_3, zl_4, zl_5, zl_6, zl_7, zl_8, zl_9, zl_10, zl_12, zl_13, zl_14, zl_15, zl_16, zl_20, zl_32, zl_40, zl_48, zl_57, zl_59, zl_60, zl_63, zl_64, zl_97, zl_99, zl_101, zl_119, zl_120, zl_122, zl_128, zl_136, zl_152, zl_168, zl_184, zl_200, zl_201, zl_202, zl_203, zl_250, zl_255, zl_320, zl_999, zl_1000, q1, q2, q3]
        rfl
      · rw [if_neg (show ¬ gEd G (r (c - 1)) (r 0) = true by unfold gEd; rw [decide_eq_false e]; decide)]
        simp (disch := omega) only [↓zl_m1, zz_leT, zz_leF, zz_ltT, zz_ltF, zz_eqT, zz_eqF, zz_okN, zz_okF, nI_clamp, nI_add, pk_mul, pk_sub, zz_bS, zz_b2S, if_true, if_false, Bool.true_eq_false, Bool.false_eq_true, eq_self, ne_eq, not_true_eq_false, not_false_eq_true, false_or, or_false, true_or, or_true, and_true, true_and, and_false, false_and, mI_e, mI_e2, mI_le, mI_le2, mI_lt, mI_lt2, mI_ok, bI_0n, bI_1n, bI_orn, Nat.mul_zero, Nat.zero_add, Nat.add_zero, c_no2, c_no3, c_no4, c_no5, c_no6, r_no2, r_no3, r_no4, r_no5, r_no6, zk_inR, zk_in2, zk_in3, zk_wiN, Nat.reduceAdd, ngI_e, ngI_le, ngI_m, cs_cmpN, zl_0, zl_1, zl_2, zl_3, zl_4, zl_5, zl_6, zl_7, zl_8, zl_9, zl_10, zl_12, zl_13, zl_14, zl_15, zl_16, zl_20, zl_32, zl_40, zl_48, zl_57, zl_59, zl_60, zl_63, zl_64, zl_97, zl_99, zl_101, zl_119, zl_120, zl_122, zl_128, zl_136, zl_152, zl_168, zl_184, zl_200, zl_201, zl_202, zl_203, zl_250, zl_255, zl_320, zl_999, zl_1000, q1, q2, q3]
        rfl
    · rw [zrg] at h2
      by_cases e : gEd G (r (c - 1)) (r 0) = true
      · rw [if_pos e] at h2; cases h2; exact hm
      · rw [if_neg e] at h2; cases h2
  | succ n ih =>
    intro d hd m hL r c u hc hcn hr hm h0P
    obtain ⟨d, rfl⟩ : ∃ z, d = z + 1 := ⟨d - 1, by omega⟩
    have l1 := hr (c - 1) (by omega)
    have f1 := hr 0 (by omega)
    have q1 := hm (c - 1) (by omega)
    have q2 := hm 0 (by omega)
    obtain ⟨g, hg⟩ : ∃ g : Nat → Option (Nat → Nat), g = fun p => if (gEd G (r (c - 1)) p && !u p) = true then zrg (gEd G) n (zup r c p) (c + 1) (fun i => u i || decide (i = p)) else none := ⟨_, rfl⟩
    have key : ∀ k p f, p + k = gP G → k < f → (∀ m0, zE [38] m m0 → zRw m0 38 r c → ∃ m1, F_X11_rings_L33 (F_X11_rings d) f m0 (nI (c + (n + 1))) (nI c) (zm u 8) (nI (r (c - 1))) (nI p) = some (bI (zfs g k p).isSome, m1) ∧ zE [38] m m1 ∧ (∀ r2, zfs g k p = some r2 → zRw m1 38 r2 (c + (n + 1))) ∧ (zfs g k p = none → zRw m1 38 r c)) := by
      intro k
      induction k with
      | zero =>
        intro p f h1 h2 m0 e0 h0
        obtain ⟨f, rfl⟩ : ∃ z, f = z + 1 := ⟨f - 1, by omega⟩
        have hL0 : zL m0 G := hL.E e0 (by decide)
        refine ⟨m0, ?_, e0, fun r2 h => (by cases h), fun _ => h0⟩
        rw [F_X11_rings_L33, hL0.p, show p = gP G by omega, if_pos (Int32.le_refl _)]
        rfl
      | succ k ihk =>
        intro p f h1 h2 m0 e0 h0
        obtain ⟨f, rfl⟩ : ∃ z, f = z + 1 := ⟨f - 1, by omega⟩
        have hL0 : zL m0 G := hL.E e0 (by decide)
        have hp8 : p < 8 := by omega
        have hd2 := hV.d l1 hp8
        have q3 := hL0.d l1 hp8
        rw [F_X11_rings_L33]
        have no : (gEd G (r (c - 1)) p && !u p) = false → ∃ m1, F_X11_rings_L33 (F_X11_rings d) f m0 (nI (c + (n + 1))) (nI c) (zm u 8) (nI (r (c - 1))) (nI (p + 1)) = some (bI (zfs g (k + 1) p).isSome, m1) ∧ zE [38] m m1 ∧ (∀ r2, zfs g (k + 1) p = some r2 → zRw m1 38 r2 (c + (n + 1))) ∧ (zfs g (k + 1) p = none → zRw m1 38 r c) := fun e => by
          have hgp : g p = none := by rw [hg]; show (if (gEd G (r (c - 1)) p && !u p) = true then _ else none) = none; rw [if_neg (by rw [e]; decide)]
          have z : zfs g (k + 1) p = zfs g k (p + 1) := by rw [zfs, hgp]
          rw [z]
          exact ihk (p + 1) f (by omega) (by omega) m0 e0 h0
        cases eu : u p with
        | true =>
          obtain ⟨m1, i1, i2⟩ := no (by rw [eu]; simp)
          refine ⟨m1, ?_, i2⟩
          simp (disch := omega) only [↓zl_m1, zz_leT, zz_leF, zz_ltT, zz_ltF, zz_eqT, zz_eqF, zz_okN, zz_okF, nI_clamp, nI_add, pk_mul, pk_sub, zz_bS, zz_b2S, if_true, if_false, Bool.true_eq_false, Bool.false_eq_true, eq_self, ne_eq, not_true_eq_false, not_false_eq_true, false_or, or_false, true_or, or_true, and_true, true_and, and_false, false_and, mI_e, mI_e2, mI_le, mI_le2, mI_lt, mI_lt2, mI_ok, bI_0n, bI_1n, bI_orn, Nat.mul_zero, Nat.zero_add, Nat.add_zero, c_no2, c_no3, c_no4, c_no5, c_no6, r_no2, r_no3, r_no4, r_no5, r_no6, zk_inR, zk_in2, zk_in3, zk_wiN, Nat.reduceAdd, ngI_e, ngI_le, ngI_m, cs_cmpN, zl_0, zl_1, zl_2, zl_3, zl_4, zl_5, zl_6, zl_7, zl_8, zl_9, zl_10, zl_12, zl_13, zl_14, zl_15, zl_16, zl_20, zl_32, zl_40, zl_48, zl_57, zl_59, zl_60, zl_63, zl_64, zl_97, zl_99, zl_101, zl_119, zl_120, zl_122, zl_128, zl_136, zl_152, zl_168, zl_184, zl_200, zl_201, zl_202, zl_203, zl_250, zl_255, zl_320, zl_999, zl_1000, hL0.p, zt_sn (show 8 ≤ 32 by omega) hp8, eu]
          exact i1
        | false =>
          by_cases ed : gD G (r (c - 1)) p = 0
          · obtain ⟨m1, i1, i2⟩ := no (by rw [show gEd G (r (c - 1)) p = false from decide_eq_false (by omega)]; rfl)
            refine ⟨m1, ?_, i2⟩
            simp (disch := omega) only [↓zl_m1, zz_leT, zz_leF, zz_ltT, zz_ltF, zz_eqT, zz_eqF, zz_okN, zz_okF, nI_clamp, nI_add, pk_mul, pk_sub, zz_bS, zz_b2S, if_true, if_false, Bool.true_eq_false, Bool.false_eq_true, eq_self, ne_eq, not_true_eq_false, not_false_eq_true, false_or, or_false, true_or, or_true, and_true, true_and, and_false, false_and, mI_e, mI_e2, mI_le, mI_le2, mI_lt, mI_lt2, mI_ok, bI_0n, bI_1n, bI_orn, Nat.mul_zero, Nat.zero_add, Nat.add_zero, c_no2, c_no3, c_no4, c_no5, c_no6, r_no2, r_no3, r_no4, r_no5, r_no6, zk_inR, zk_in2, zk_in3, zk_wiN, Nat.reduceAdd, ngI_e, ngI_le, ngI_m, cs_cmpN, zl_0, zl_1, zl_2, zl_3, zl_4, zl_5, zl_6, zl_7, zl_8, zl_9, zl_10, zl_12, zl_13, zl_14, zl_15, zl_16, zl_20, zl_32, zl_40, zl_48, zl_57, zl_59, zl_60, zl_63, zl_64, zl_97, zl_99, zl_101, zl_119, zl_120, zl_122, zl_128, zl_136, zl_152, zl_168, zl_184, zl_200, zl_201, zl_202, zl_203, zl_250, zl_255, zl_320, zl_999, zl_1000, hL0.p, zt_sn (show 8 ≤ 32 by omega) hp8, eu, q3, ed]
            exact i1
          · have e : (gEd G (r (c - 1)) p && !u p) = true := by rw [eu, show gEd G (r (c - 1)) p = true from decide_eq_true (by omega)]; rfl
            have hgp : g p = zrg (gEd G) n (zup r c p) (c + 1) (fun i => u i || decide (i = p)) := by rw [hg]; exact if_pos e
            have hm2 : zRw (ax_ui m0 38 0 c (nI p)) 38 (zup r c p) (c + 1) := fun j hj => by
              unfold zup
              by_cases e2 : j = c
              · subst e2; rw [if_pos rfl]; exact zu_s
              · rw [if_neg e2, zu_j e2]; exact h0 j (by omega)
            have hr2 : ∀ j, j < c + 1 → zup r c p j < 8 := fun j hj => by
              unfold zup
              by_cases e2 : j = c
              · rw [if_pos e2]; exact hp8
              · rw [if_neg e2]; exact hr j (by omega)
            have e02 : zE [38] m (ax_ui m0 38 0 c (nI p)) := e0.ui (by decide)
            obtain ⟨m1, a1, a2, a3, a4⟩ := ih d (by omega) (ax_ui m0 38 0 c (nI p)) (hL.E e02 (by decide)) (zup r c p) (c + 1) (fun i => u i || decide (i = p)) (by omega) (by omega) hr2 hm2 (by unfold zup; rw [if_neg (by omega)]; exact h0P)
            have um : zm u 8 ||| ax_ishl (nI 1) (nI p) = zm (fun i => u i || decide (i = p)) 8 := zm_set (by omega) hp8 (fun i _ => rfl)
            rw [show c + 1 + n = c + (n + 1) by omega] at a1 a3
            rw [← hgp] at a1 a3 a4
            cases e3 : g p with
            | some r2 =>
              rw [e3] at a1
              have z : zfs g (k + 1) p = some r2 := by rw [zfs, e3]
              rw [z]
              refine ⟨m1, ?_, e02.tr a2, fun r3 h3 => by cases h3; exact a3 _ e3, fun h3 => by cases h3⟩
              simp (disch := omega) only [↓zl_m1, zz_leT, zz_leF, zz_ltT, zz_ltF, zz_eqT, zz_eqF, zz_okN, zz_okF, nI_clamp, nI_add, pk_mul, pk_sub, zz_bS, zz_b2S, if_true, if_false, Bool.true_eq_false, Bool.false_eq_true, eq_self, ne_eq, not_true_eq_false, not_false_eq_true, false_or, or_false, true_or, or_true, and_true, true_and, and_false, false_and, mI_e, mI_e2, mI_le, mI_le2, mI_lt, mI_lt2, mI_ok, bI_0n, bI_1n, bI_orn, Nat.mul_zero, Nat.zero_add, Nat.add_zero, c_no2, c_no3, c_no4, c_no5, c_no6, r_no2, r_no3, r_no4, r_no5, r_no6, zk_inR, zk_in2, zk_in3, zk_wiN, Nat.reduceAdd, ngI_e, ngI_le, ngI_m, cs_cmpN, zl_0, zl_1, zl_2, zl_3, zl_4, zl_5, zl_6, zl_7, zl_8, zl_9, zl_10, zl_12, zl_13, zl_14, zl_15, zl_16, zl_20, zl_32, zl_40, zl_48, zl_57, zl_59, zl_60, zl_63, zl_64, zl_97, zl_99, zl_101, zl_119, zl_120, zl_122, zl_128, zl_136, zl_152, zl_168, zl_184, zl_200, zl_201, zl_202, zl_203, zl_250, zl_255, zl_320, zl_999, zl_1000, hL0.p, zt_sn (show 8 ≤ 32 by omega) hp8, eu, q3, ed, um, a1, Option.isSome_some]
              rfl
            | none =>
              rw [e3] at a1
              have z : zfs g (k + 1) p = zfs g k (p + 1) := by rw [zfs, e3]
              rw [z]
              have h1c : zRw m1 38 r c := fun j hj => by
                have := a4 e3 j (by omega)
                unfold zup at this
                rw [if_neg (by omega)] at this
                exact this
              obtain ⟨m2, i1, i2⟩ := ihk (p + 1) f (by omega) (by omega) m1 (e02.tr a2) h1c
              refine ⟨m2, ?_, i2⟩
              simp (disch := omega) only [↓zl_m1, zz_leT, zz_leF, zz_ltT, zz_ltF, zz_eqT, zz_eqF, zz_okN, zz_okF, nI_clamp, nI_add, pk_mul, pk_sub, zz_bS, zz_b2S, if_true, if_false, Bool.true_eq_false, Bool.false_eq_true, eq_self, ne_eq, not_true_eq_false, not_false_eq_true, false_or, or_false, true_or, or_true, and_true, true_and, and_false, false_and, mI_e, mI_e2, mI_le, mI_le2, mI_lt, mI_lt2, mI_ok, bI_0n, bI_1n, bI_orn, Nat.mul_zero, Nat.zero_add, Nat.add_zero, c_no2, c_no3, c_no4, c_no5, c_no6, r_no2, r_no3, r_no4, r_no5, r_no6, zk_inR, zk_in2, zk_in3, zk_wiN, Nat.reduceAdd, ngI_e, ngI_le, ngI_m, cs_cmpN, zl_0, zl_1, zl_2, zl_3, zl_4, zl_5, zl_6, zl_7, zl_8, zl_9, zl_10, zl_12, zl_13, zl_14, zl_15, zl_16, zl_20, zl_32, zl_40, zl_48, zl_57, zl_59, zl_60, zl_63, zl_64, zl_97, zl_99, zl_101, zl_119, zl_120, zl_122, zl_128, zl_136, zl_152, zl_168, zl_184, zl_200, zl_201, zl_202, zl_203, zl_250, zl_255, zl_320, zl_999, zl_1000, hL0.p, zt_sn (show 8 ≤ 32 by omega) hp8, eu, q3, ed, um, a1, Option.isSome_none]
              exact i1
    obtain ⟨m1, k1, k2⟩ := key (gP G - (r 0 + 1)) (r 0 + 1) ax_FU (by omega) (by unfold ax_FU; omega) m (zE.rf _ _) hm
    have z : zrg (gEd G) (n + 1) r c u = zfs g (gP G - (r 0 + 1)) (r 0 + 1) := by
      have z1 : zrg (gEd G) (n + 1) r c u = zfs g (7 - r 0) (r 0 + 1) := by rw [hg]; rfl
      rw [z1, show 7 - r 0 = (gP G - (r 0 + 1)) + (8 - gP G) by omega]
      refine zfs_x _ (fun j h1 h2 => ?_)
      rw [hg]
      have := hV.z (x := r (c - 1)) (y := j) l1 (by omega) (.inr (.inl (by omega)))
      show (if (gEd G (r (c - 1)) j && !u j) = true then _ else none) = none
      rw [if_neg (by rw [show gEd G (r (c - 1)) j = false from decide_eq_false (by omega)]; simp)]
    rw [z]
    refine ⟨m1, ?_, k2⟩
    rw [F_X11_rings]
    simp (disch := omega) only [↓zl_m1, zz_leT, zz_leF, zz_ltT, zz_ltF, zz_eqT, zz_eqF, zz_okN, zz_okF, nI_clamp, nI_add, pk_mul, pk_sub, zz_bS, zz_b2S, if_true, if_false, Bool.true_eq_false, Bool.false_eq_true, eq_self, ne_eq, not_true_eq_false, not_false_eq_true, false_or, or_false, true_or, or_true, and_true, true_and, and_false, false_and, mI_e, mI_e2, mI_le, mI_le2, mI_lt, mI_lt2, mI_ok, bI_0n, bI_1n, bI_orn, Nat.mul_zero, Nat.zero_add, Nat.add_zero, c_no2, c_no3, c_no4, c_no5, c_no6, r_no2, r_no3, r_no4, r_no5, r_no6, zk_inR, zk_in2, zk_in3, zk_wiN, Nat.reduceAdd, ngI_e, ngI_le, ngI_m, cs_cmpN, zl_0, zl_1, zl_2, zl_3, zl_4, zl_5, zl_6, zl_7, zl_8, zl_9, zl_10, zl_12, zl_13, zl_14, zl_15, zl_16, zl_20, zl_32, zl_40, zl_48, zl_57, zl_59, zl_60, zl_63, zl_64, zl_97, zl_99, zl_101, zl_119, zl_120, zl_122, zl_128, zl_136, zl_152, zl_168, zl_184, zl_200, zl_201, zl_202, zl_203, zl_250, zl_255, zl_320, zl_999, zl_1000, q1, q2]
    exact k1
/-- the first of the smallest -/
def zrS (ow : Nat → Nat → Bool) (N s : Nat) : Option (Nat × (Nat → Nat)) := match zfs (fun f => zrg ow (s - 1) (fun _ => f) 1 (fun i => decide (i = f))) N 0 with
  | some r => some (s, r)
  | none => none
def zrT (ow : Nat → Nat → Bool) : Option (Nat × (Nat → Nat)) := zfs (zrS ow 8) 6 3
/-- too many for the people -/
theorem zrg_no {G : zG} (hV : zV G) : ∀ (n : Nat) (r : Nat → Nat) (c : Nat) (u : Nat → Bool), (∀ j, j < c → r j < 8) → 0 < c → c + n ≤ 8 → (∀ i, i < 8 → u i = true → i < gP G) → zc u 8 = c → gP G < c + n → zrg (gEd G) n r c u = none
  | 0, r, c, u, _, _, _, h1, h2, h3 => by
    exfalso
    have := zc_mono (f := u) (g := fun i => decide (i < gP G) && true) (n := 8) (fun i hi h => by rw [decide_eq_true (h1 i hi h)]; rfl)
    have hp := hV.p
    have h4 := zc_cut (f := fun _ => true) (n := gP G) (8 - gP G)
    rw [show gP G + (8 - gP G) = 8 by omega] at h4
    have h5 := zc_le (fun _ => true) (gP G)
    omega
  | n + 1, r, c, u, hr, hc, hcn, h1, h2, h3 => by
    rw [zrg]
    refine zfs_n (fun p hp1 hp2 => ?_)
    have hp8 : p < 8 := by omega
    cases e : (gEd G (r (c - 1)) p && !u p) with
    | false => rw [if_neg (by decide)]
    | true =>
      rw [if_pos rfl]
      rw [Bool.and_eq_true, Bool.not_eq_true'] at e
      have hpP : p < gP G := by
        by_cases e2 : p < gP G
        · exact e2
        · have := hV.z (hr (c - 1) (by omega)) hp8 (.inr (.inl (by omega)))
          have h5 := of_decide_eq_true e.1
          omega
      refine zrg_no hV n _ _ _ (fun j hj => ?_) (by omega) (by omega) (fun i hi h => ?_) ?_ (by omega)
      · unfold zup
        by_cases e2 : j = c
        · rw [if_pos e2]; exact hp8
        · rw [if_neg e2]; exact hr j (by omega)
      · rw [Bool.or_eq_true] at h
        rcases h with h | h
        · exact h1 i hi h
        · rw [of_decide_eq_true h]; exact hpP
      · have q1 := zc_strict (f := u) (g := fun i => u i || decide (i = p)) (n := 8) (a := p) (fun i _ h => by show (u i || _) = true; rw [h]; rfl) hp8 e.2 (by show (u p || decide (p = p)) = true; rw [decide_eq_true rfl, Bool.or_true])
        have q2 : ∀ n, zc (fun i => u i || decide (i = p)) n ≤ zc u n + 1 ∧ (n ≤ p → zc (fun i => u i || decide (i = p)) n ≤ zc u n) := by
          intro n
          induction n with
          | zero => exact ⟨by simp [zc], fun _ => Nat.le_refl _⟩
          | succ n ihn =>
            rw [zc, zc]
            by_cases e3 : n = p
            · subst e3
              have := ihn.2 (Nat.le_refl _)
              refine ⟨?_, fun h => by omega⟩
              split <;> split <;> omega
            · rw [decide_eq_false e3, Bool.or_false]
              refine ⟨?_, fun h => ?_⟩
              · have := ihn.1
                split <;> omega
              · have := ihn.2 (by omega)
                split <;> omega
        have := (q2 8).1
        omega
theorem zrg_P {G : zG} (hV : zV G) {f n : Nat} (hf : gP G ≤ f) (hf8 : f < 8) (hn : 0 < n) : zrg (gEd G) n (fun _ => f) 1 (fun i => decide (i = f)) = none := by
  obtain ⟨n, rfl⟩ : ∃ z, n = z + 1 := ⟨n - 1, by omega⟩
  rw [zrg]
  refine zfs_n (fun p h1 h2 => ?_)
  have h1 : f + 1 ≤ p := h1
  have h2 : p < f + 1 + (7 - f) := h2
  have := hV.z (x := f) (y := p) hf8 (by omega) (.inl hf)
  rw [if_neg (by rw [show gEd G f p = false from decide_eq_false (by omega)]; simp)]
theorem zrS_P {G : zG} (hV : zV G) {s : Nat} (hs : 3 ≤ s) : zrS (gEd G) 8 s = zrS (gEd G) (gP G) s := by
  have hp := hV.p
  unfold zrS
  have := zfs_x (g := fun f => zrg (gEd G) (s - 1) (fun _ => f) 1 (fun i => decide (i = f))) (k := gP G) (i := 0) (8 - gP G) (fun j h1 h2 => zrg_P hV (by omega) (by omega) (by omega))
  rw [show gP G + (8 - gP G) = 8 by omega] at this
  rw [this]
theorem zrS_no {G : zG} (hV : zV G) {s : Nat} (hs : gP G < s) (hs8 : s ≤ 8) (hs3 : 3 ≤ s) : zrS (gEd G) (gP G) s = none := by
  have hp := hV.p
  unfold zrS
  rw [zfs_n (fun f h1 h2 => ?_)]
  refine zrg_no hV (s - 1) _ 1 _ (fun j _ => by show f < 8; omega) (by omega) (by omega) (fun i _ h => by rw [of_decide_eq_true h]; omega) ?_ (by omega)
  have a1 := zc_strict (f := fun _ => false) (g := fun i => decide (i = f)) (n := 8) (a := f) (fun c _ h => by cases h) (by omega) rfl (decide_eq_true rfl)
  have a2 : ∀ n, zc (fun i => decide (i = f)) n ≤ 1 ∧ (n ≤ f → zc (fun i => decide (i = f)) n = 0) := by
    intro n
    induction n with
    | zero => exact ⟨by simp [zc], fun _ => rfl⟩
    | succ n ihn =>
      rw [zc]
      by_cases e3 : n = f
      · subst e3
        have := ihn.2 (Nat.le_refl _)
        refine ⟨?_, fun h => by omega⟩
        split <;> omega
      · rw [decide_eq_false e3]
        refine ⟨?_, fun h => ?_⟩
        · have := ihn.1
          simp
          omega
        · have := ihn.2 (by omega)
          simp
          omega
  have := (a2 8).1
  omega
theorem c_ringF {m : ax_M} {G : zG} (hC : zC m 0 G) (hV : zV G) : ∃ m1, F_X5_find m 0 = some ((match zrT (gEd G) with | some q => nI q.1 | none => mI), m1) ∧ zE [16, 17] m m1 ∧ ∀ s r, zrT (gEd G) = some (s, r) → zRw m1 16 r s ∧ 3 ≤ s ∧ s ≤ 8 := by
  have inn : ∀ (K : ax_M → Option (Int32 × ax_M)) (s : Nat), 3 ≤ s → s ≤ 8 → ∀ k f n, f + k = 8 → k < n → (∀ m1, zE [16, 17] m m1 → (∀ x, x < 8 → m1.1 17 0 x = zm (gEd G x) 8) → ∃ m2, F_X5_find_L25 n K m1 (nI s) (nI f) = (match zfs (fun f => zrg (gEd G) (s - 1) (fun _ => f) 1 (fun i => decide (i = f))) k f with | some _ => some (nI s, m2) | none => K m2) ∧ zE [16, 17] m m2 ∧ (∀ x, x < 8 → m2.1 17 0 x = zm (gEd G x) 8) ∧ (∀ r, zfs (fun f => zrg (gEd G) (s - 1) (fun _ => f) 1 (fun i => decide (i = f))) k f = some r → zRw m2 16 r s)) := by
    intro K s hs3 hs8 k
    induction k with
    | zero =>
      intro f n h1 h2 m1 e1 h3
      obtain ⟨n, rfl⟩ : ∃ z, n = z + 1 := ⟨n - 1, by omega⟩
      refine ⟨m1, ?_, e1, h3, fun r h => (by cases h)⟩
      rw [F_X5_find_L25, show nI f = 8 by rw [show f = 8 by omega]; rfl, if_pos (Int32.le_refl _)]
      rfl
    | succ k ih =>
      intro f n h1 h2 m1 e1 h3
      obtain ⟨n, rfl⟩ : ∃ z, n = z + 1 := ⟨n - 1, by omega⟩
      have hf8 : f < 8 := by omega
      have e2 : zE [16, 17] m (ax_ui m1 16 0 0 (nI f)) := e1.ui (by decide)
      obtain ⟨m2, a1, a2, a3, a4⟩ := c_closes (ow := gEd G) (s - 1) 12 (by omega) (ax_ui m1 16 0 0 (nI f)) (fun _ => f) 1 (fun i => decide (i = f)) (by omega) (by omega) (fun _ _ => hf8) (fun j hj => by
        have : j = 0 := by omega
        subst this; exact zu_s) (fun x hx => by rw [zu_k (by decide)]; exact h3 x hx)
      rw [show 1 + (s - 1) = s by omega] at a1 a3
      have e3 : zE [16, 17] m m2 := e2.tr (a2.mo (by decide))
      have h4 : ∀ x, x < 8 → m2.1 17 0 x = zm (gEd G x) 8 := fun x hx => by rw [(a2 17 (by decide)).1, zu_k (by decide)]; exact h3 x hx
      have one : ax_ishl (nI 1) (nI f) = zm (fun i => decide (i = f)) 8 := zm_one hf8 (by omega)
      rw [zfs, F_X5_find_L25]
      cases ez : zrg (gEd G) (s - 1) (fun _ => f) 1 (fun i => decide (i = f)) with
      | some r =>
        rw [ez] at a1
        refine ⟨m2, ?_, e3, h4, fun r2 h5 => (by cases h5; exact a3 r ez)⟩
        simp (disch := omega) only [↓zl_m1, zz_leT, zz_leF, zz_ltT, zz_ltF, zz_eqT, zz_eqF, zz_okN, zz_okF, nI_clamp, nI_add, pk_mul, pk_sub, zz_bS, zz_b2S, if_true, if_false, Bool.true_eq_false, Bool.false_eq_true, eq_self, ne_eq, not_true_eq_false, not_false_eq_true, false_or, or_false, true_or, or_true, and_true, true_and, and_false, false_and, mI_e, mI_e2, mI_le, mI_le2, mI_lt, mI_lt2, mI_ok, bI_0n, bI_1n, bI_orn, Nat.mul_zero, Nat.zero_add, Nat.add_zero, c_no2, c_no3, c_no4, c_no5, c_no6, r_no2, r_no3, r_no4, r_no5, r_no6, zk_inR, zk_in2, zk_in3, zk_wiN, Nat.reduceAdd, ngI_e, ngI_le, ngI_m, cs_cmpN, zl_0, zl_1, zl_2, zl_3, zl_4, zl_5, zl_6, zl_7, zl_8, zl_9, zl_10, zl_12, zl_13, zl_14, zl_15, zl_16, zl_20, zl_32, zl_40, zl_48, zl_57, zl_59, zl_60, zl_63, zl_64, zl_97, zl_99, zl_101, zl_119, zl_120, zl_122, zl_128, zl_136, zl_152, zl_168, zl_184, zl_200, zl_201, zl_202, zl_203, zl_250, zl_255, zl_320, zl_999, zl_1000, one, a1, Option.isSome_some]
      | none =>
        rw [ez] at a1
        obtain ⟨m3, i1, i2⟩ := ih (f + 1) n (by omega) (by omega) m2 e3 h4
        refine ⟨m3, ?_, i2⟩
        simp (disch := omega) only [↓zl_m1, zz_leT, zz_leF, zz_ltT, zz_ltF, zz_eqT, zz_eqF, zz_okN, zz_okF, nI_clamp, nI_add, pk_mul, pk_sub, zz_bS, zz_b2S, if_true, if_false, Bool.true_eq_false, Bool.false_eq_true, eq_self, ne_eq, not_true_eq_false, not_false_eq_true, false_or, or_false, true_or, or_true, and_true, true_and, and_false, false_and, mI_e, mI_e2, mI_le, mI_le2, mI_lt, mI_lt2, mI_ok, bI_0n, bI_1n, bI_orn, Nat.mul_zero, Nat.zero_add, Nat.add_zero, c_no2, c_no3, c_no4, c_no5, c_no6, r_no2, r_no3, r_no4, r_no5, r_no6, zk_inR, zk_in2, zk_in3, zk_wiN, Nat.reduceAdd, ngI_e, ngI_le, ngI_m, cs_cmpN, zl_0, zl_1, zl_2, zl_3, zl_4, zl_5, zl_6, zl_7, zl_8, zl_9, zl_10, zl_12, zl_13, zl_14, zl_15, zl_16, zl_20, zl_32, zl_40, zl_48, zl_57, zl_59, zl_60, zl_63, zl_64, zl_97, zl_99, zl_101, zl_119, zl_120, zl_122, zl_128, zl_136, zl_152, zl_168, zl_184, zl_200, zl_201, zl_202, zl_203, zl_250, zl_255, zl_320, zl_999, zl_1000, one, a1, Option.isSome_none]
        exact i1
  have mid : ∀ k s n, s + k = 9 → k < n → 3 ≤ s → (∀ m1, zE [16, 17] m m1 → (∀ x, x < 8 → m1.1 17 0 x = zm (gEd G x) 8) → ∃ m2, F_X5_find_L18 n m1 (nI s) = some ((match zfs (zrS (gEd G) 8) k s with | some q => nI q.1 | none => mI), m2) ∧ zE [16, 17] m m2 ∧ ∀ s2 r, zfs (zrS (gEd G) 8) k s = some (s2, r) → zRw m2 16 r s2 ∧ 3 ≤ s2 ∧ s2 ≤ 8) := by
    intro k
    induction k with
    | zero =>
      intro s n h1 h2 hs m1 e1 h3
      obtain ⟨n, rfl⟩ : ∃ z, n = z + 1 := ⟨n - 1, by omega⟩
      have : s = 9 := by omega
      subst this
      refine ⟨m1, ?_, e1, fun s2 r h => (by cases h)⟩
      rw [F_X5_find_L18]
      simp (disch := omega) only [↓zl_m1, zz_leT, zz_leF, zz_ltT, zz_ltF, zz_eqT, zz_eqF, zz_okN, zz_okF, nI_clamp, nI_add, pk_mul, pk_sub, zz_bS, zz_b2S, if_true, if_false, Bool.true_eq_false, Bool.false_eq_true, eq_self, ne_eq, not_true_eq_false, not_false_eq_true, false_or, or_false, true_or, or_true, and_true, true_and, and_false, false_and, mI_e, mI_e2, mI_le, mI_le2, mI_lt, mI_lt2, mI_ok, bI_0n, bI_1n, bI_orn, Nat.mul_zero, Nat.zero_add, Nat.add_zero, c_no2, c_no3, c_no4, c_no5, c_no6, r_no2, r_no3, r_no4, r_no5, r_no6, zk_inR, zk_in2, zk_in3, zk_wiN, Nat.reduceAdd, ngI_e, ngI_le, ngI_m, cs_cmpN, zl_0, zl_1, zl_2, zl_3, zl_4, zl_5, zl_6, zl_7, zl_8, zl_9, zl_10, zl_12, zl_13, zl_14, zl_15, zl_16, zl_20, zl_32, zl_40, zl_48, zl_57, zl_59, zl_60, zl_63, zl_64, zl_97, zl_99, zl_101, zl_119, zl_120, zl_122, zl_128, zl_136, zl_152, zl_168, zl_184, zl_200, zl_201, zl_202, zl_203, zl_250, zl_255, zl_320, zl_999, zl_1000]
      rfl
    | succ k ih =>
      intro s n h1 h2 hs m1 e1 h3
      obtain ⟨n, rfl⟩ : ∃ z, n = z + 1 := ⟨n - 1, by omega⟩
      obtain ⟨m2, a1, a2, a3, a4⟩ := inn (fun m25 => F_X5_find_L18 n m25 (nI (s + 1))) s hs (by omega) 8 0 ax_FU rfl (by decide) m1 e1 h3
      have st : F_X5_find_L18 (n + 1) m1 (nI s) = F_X5_find_L25 ax_FU (fun m25 => F_X5_find_L18 n m25 (nI (s + 1))) m1 (nI s) (nI 0) := by
        rw [F_X5_find_L18, zl_8, if_neg (nI_nlt (by omega) (by omega)), nI_1]
        rfl
      rw [st, a1]
      cases ez : zfs (fun f => zrg (gEd G) (s - 1) (fun _ => f) 1 (fun i => decide (i = f))) 8 0 with
      | some r =>
        have zs : zrS (gEd G) 8 s = some (s, r) := by unfold zrS; rw [ez]
        refine ⟨m2, ?_, a2, fun s2 r2 h5 => ?_⟩
        · rw [zfs, zs]
        · rw [zfs, zs] at h5
          cases h5
          exact ⟨a4 r ez, hs, by omega⟩
      | none =>
        have zs : zrS (gEd G) 8 s = none := by unfold zrS; rw [ez]
        obtain ⟨m3, i1, i2, i3⟩ := ih (s + 1) n (by omega) (by omega) (by omega) m2 a2 a3
        refine ⟨m3, ?_, i2, fun s2 r2 h5 => ?_⟩
        · rw [zfs, zs]
          exact i1
        · rw [zfs, zs] at h5
          exact i3 s2 r2 h5
  have ini : ∀ k i n, i + k = 8 → k < n → (∀ m1, zE [16, 17] m m1 → (∀ x, x < i → m1.1 17 0 x = zm (gEd G x) 8) → ∃ m2, F_X5_find_L2 n m1 0 (nI i) = some ((match zrT (gEd G) with | some q => nI q.1 | none => mI), m2) ∧ zE [16, 17] m m2 ∧ ∀ s2 r, zrT (gEd G) = some (s2, r) → zRw m2 16 r s2 ∧ 3 ≤ s2 ∧ s2 ≤ 8) := by
    refine zz_loop 8 (fun n => ?_) (fun n i hi ih => ?_)
    · intro m1 e1 h3
      obtain ⟨m2, a1, a2⟩ := mid 6 3 ax_FU rfl (by decide) (by omega) m1 e1 h3
      refine ⟨m2, ?_, a2⟩
      rw [F_X5_find_L2, zl_8, if_pos (Int32.le_refl _)]
      exact a1
    · intro m1 e1 h3
      have hC1 : zC m1 0 G := hC.E e1 (by decide)
      obtain ⟨m2, a1, a2⟩ := ih (ax_ui m1 17 0 i (zm (gEd G i) 8)) (e1.ui (by decide)) (fun x hx => by
        by_cases e2 : x = i
        · subst e2; exact zu_s
        · rw [zu_j e2]; exact h3 x (by omega))
      refine ⟨m2, ?_, a2⟩
      have cr := c_creditorsOf hC1 hV hi
      have cr : F_X2_creditorsOf m1 0 (nI i) = some (zm (gEd G i) 8) := cr
      rw [F_X5_find_L2]
      simp (disch := omega) only [↓zl_m1, zz_leT, zz_leF, zz_ltT, zz_ltF, zz_eqT, zz_eqF, zz_okN, zz_okF, nI_clamp, nI_add, pk_mul, pk_sub, zz_bS, zz_b2S, if_true, if_false, Bool.true_eq_false, Bool.false_eq_true, eq_self, ne_eq, not_true_eq_false, not_false_eq_true, false_or, or_false, true_or, or_true, and_true, true_and, and_false, false_and, mI_e, mI_e2, mI_le, mI_le2, mI_lt, mI_lt2, mI_ok, bI_0n, bI_1n, bI_orn, Nat.mul_zero, Nat.zero_add, Nat.add_zero, c_no2, c_no3, c_no4, c_no5, c_no6, r_no2, r_no3, r_no4, r_no5, r_no6, zk_inR, zk_in2, zk_in3, zk_wiN, Nat.reduceAdd, ngI_e, ngI_le, ngI_m, cs_cmpN, zl_0, zl_1, zl_2, zl_3, zl_4, zl_5, zl_6, zl_7, zl_8, zl_9, zl_10, zl_12, zl_13, zl_14, zl_15, zl_16, zl_20, zl_32, zl_40, zl_48, zl_57, zl_59, zl_60, zl_63, zl_64, zl_97, zl_99, zl_101, zl_119, zl_120, zl_122, zl_128, zl_136, zl_152, zl_168, zl_184, zl_200, zl_201, zl_202, zl_203, zl_250, zl_255, zl_320, zl_999, zl_1000, cr]
      exact a1
  obtain ⟨m1, a1, a2, a3⟩ := ini 8 0 ax_FU rfl (by decide) m (zE.rf _ _) (fun x hx => by omega)
  exact ⟨m1, a1, a2, a3⟩
