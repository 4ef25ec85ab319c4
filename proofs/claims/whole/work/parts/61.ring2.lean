/-! CALLS, fourteenth: ring -/
/-- the class refused, the reference refuses behind some scratch work of its own -/
theorem zRG.no2 {m m2 : ax_M} {G : zG} {j k : Nat} (hj : j < 5) (hk : k ∈ [36, 37, 38, 39]) (h : zRG m G) (e : zE [k] (zrf m j) m2) : zRG (zrn m2 (j + 2)) G := by
  have q := h.no hj rfl
  have nk : ∀ a, a ∉ [36, 37, 38, 39] → a ∉ [k] := fun a h1 h2 => by
    have : a = k := by simpa using h2
    subst this
    exact h1 hk
  obtain ⟨gV, gC, gL, gK, gS, gT, gF⟩ := q
  obtain ⟨hV1, hC1, hL1, hK1, hS1, hT1, hF1⟩ := h
  have f2 : zE [20, 34, 36, 37, 38, 39] m (zrn m2 (j + 2)) := ((zrf_E m j).mo (by decide)).tr ((e.mo (fun a ha => by
    have : a = k := by simpa using ha
    subst this
    simp at hk ⊢
    omega)).tr ((zrn_E m2 (j + 2)).mo (by decide)))
  refine ⟨gV, hC1.E f2 (by decide), hL1.E f2 (by decide), hK1.E f2 (by decide), hS1.E f2 (by decide), hT1.E f2 (by decide), fun i hi => ?_⟩
  have g := gF i hi
  have d1 : (zrn m2 (j + 2)).1 20 0 i = (zrn (zrf m j) (j + 2)).1 20 0 i := by
    rw [(zrn_E m2 (j + 2) 20 (by decide)).1, (e 20 (nk 20 (by decide))).1, (zrn_E (zrf m j) (j + 2) 20 (by decide)).1]
  have d2 : (zrn m2 (j + 2)).1 34 0 (i + 2) = (zrn (zrf m j) (j + 2)).1 34 0 (i + 2) := by
    have x1 : m2.1 34 = (zrf m j).1 34 := (e 34 (nk 34 (by decide))).1
    unfold zrn
    by_cases e9 : i + 2 = j + 2
    · rw [e9, zu_s, zu_s, x1]
    · rw [zu_j e9, zu_j e9, x1]
  rw [d1, d2]
  exact g
theorem zrT_P {G : zG} (hV : zV G) : zrT (gEd G) = zfs (zrS (gEd G) (gP G)) (gP G - 2) 3 := by
  have hp := hV.p
  unfold zrT
  rw [zfs_c (g2 := zrS (gEd G) (gP G)) (fun j h1 h2 => zrS_P hV h1)]
  rw [show 6 = (gP G - 2) + (6 - (gP G - 2)) by omega]
  exact zfs_x _ (fun j h1 h2 => zrS_no hV (by omega) (by omega) (by omega))
def zFin (v many : Int32) (m : ax_M) : Option (Int32 × ax_M) := if v = mI then some (many, m) else if many ≤ v then ax_b2 (F_X11_no m (-nI 5)) (fun r12 m13 => some (r12, m13)) else if ax_ok v 8 = true then some (m.1 38 0 v.toNatClampNeg, m) else none
theorem r_ringL {G : zG} (hV : zV G) {m : ax_M} (hL : zL m G) (v : Int32) : ∀ k s n, (s + k = gP G + 1 ∨ (k = 0 ∧ gP G < s ∧ s < 100)) → k + 1 < n → 3 ≤ s → (∀ m1, zE [38] m m1 → ∃ m2, F_X11_ring_L11 n m1 v mI (nI s) = (match zfs (zrS (gEd G) (gP G)) k s with | some q => zFin v (nI q.1) m2 | none => some (mI, m2)) ∧ zE [38] m m2 ∧ ∀ s2 r, zfs (zrS (gEd G) (gP G)) k s = some (s2, r) → zRw m2 38 r s2) := by
  have hp := hV.p
  have inn : ∀ (K : ax_M → Int32 → Option (Int32 × ax_M)) (s : Nat), 3 ≤ s → s ≤ gP G → ∀ k f n, f + k = gP G → k + 1 < n → (∀ m1, zE [38] m m1 → ∃ m2, F_X11_ring_L20 n K m1 v mI (nI s) (nI f) = (match zfs (fun f => zrg (gEd G) (s - 1) (fun _ => f) 1 (fun i => decide (i = f))) k f with | some _ => K m2 (nI s) | none => K m2 mI) ∧ zE [38] m m2 ∧ (∀ r, zfs (fun f => zrg (gEd G) (s - 1) (fun _ => f) 1 (fun i => decide (i = f))) k f = some r → zRw m2 38 r s)) := by
    intro K s hs3 hsP k
    induction k with
    | zero =>
      intro f n h1 h2 m1 e1
      obtain ⟨n, rfl⟩ : ∃ z, n = z + 1 := ⟨n - 1, by omega⟩
      have hL1 : zL m1 G := hL.E e1 (by decide)
      refine ⟨m1, ?_, e1, fun r h => (by cases h)⟩
      rw [F_X11_ring_L20, hL1.p, show f = gP G by omega, if_pos (Int32.le_refl _)]
      rfl
    | succ k ih =>
      intro f n h1 h2 m1 e1
      obtain ⟨n, rfl⟩ : ∃ z, n = z + 1 := ⟨n - 1, by omega⟩
      have hL1 : zL m1 G := hL.E e1 (by decide)
      have hf8 : f < 8 := by omega
      have e2 : zE [38] m (ax_ui m1 38 0 0 (nI f)) := e1.ui (by decide)
      obtain ⟨m2, a1, a2, a3, a4⟩ := r_rings (m := m1) hV (s - 1) 12 (by omega) (ax_ui m1 38 0 0 (nI f)) (hL.E e2 (by decide)) (fun _ => f) 1 (fun i => decide (i = f)) (by omega) (by omega) (fun _ _ => hf8) (fun j hj => by
        have : j = 0 := by omega
        subst this; exact zu_s) (by show f < gP G; omega)
      rw [show 1 + (s - 1) = s by omega] at a1 a3
      have e3 : zE [38] m m2 := e2.tr a2
      have one : ax_ishl (nI 1) (nI f) = zm (fun i => decide (i = f)) 8 := zm_one hf8 (by omega)
      have hL2 : zL m2 G := hL.E e3 (by decide)
      rw [zfs, F_X11_ring_L20]
      cases ez : zrg (gEd G) (s - 1) (fun _ => f) 1 (fun i => decide (i = f)) with
      | some r =>
        rw [ez] at a1
        refine ⟨m2, ?_, e3, fun r2 h5 => (by cases h5; exact a3 r ez)⟩
        obtain ⟨n, rfl⟩ : ∃ z, n = z + 1 := ⟨n - 1, by omega⟩
        have last : F_X11_ring_L20 (n + 1) K m2 v (nI s) (nI s) (nI (f + 1)) = K m2 (nI s) := by
          rw [F_X11_ring_L20, hL2.p]
          by_cases e5 : gP G ≤ f + 1
          · simp (disch := omega) only [↓zl_m1, zz_leT, zz_leF, zz_ltT, zz_ltF, zz_eqT, zz_eqF, zz_okN, zz_okF, nI_clamp, nI_add, pk_mul, pk_sub, zz_bS, zz_b2S, if_true, if_false, Bool.true_eq_false, Bool.false_eq_true, eq_self, ne_eq, not_true_eq_false, not_false_eq_true, false_or, or_false, true_or, or_true, and_true, true_and, and_false, false_and, mI_e, mI_e2, mI_le, mI_le2, mI_lt, mI_lt2, mI_ok, bI_0n, bI_1n, bI_orn, Nat.mul_zero, Nat.zero_add, Nat.add_zero, c_no2, c_no3, c_no4, c_no5, c_no6, r_no2, r_no3, r_no4, r_no5, r_no6, zk_inR, zk_in2, zk_in3, zk_wiN, Nat.reduceAdd, ngI_e, ngI_le, ngI_m, cs_cmpN, zl_0, zl_1, zl_2, zl_3, zl_4, zl_5, zl_6, zl_7, zl_8, zl_9, zl_10, zl_12, zl_13, zl_14, zl_15, zl_16, zl_20, zl_32, zl_40, zl_48, zl_57, zl_59, zl_60, zl_63, zl_64, zl_97, zl_99, zl_101, zl_119, zl_120, zl_122, zl_128, zl_136, zl_152, zl_168, zl_184, zl_200, zl_201, zl_202, zl_203, zl_250, zl_255, zl_320, zl_999, zl_1000]
          · simp (disch := omega) only [↓zl_m1, zz_leT, zz_leF, zz_ltT, zz_ltF, zz_eqT, zz_eqF, zz_okN, zz_okF, nI_clamp, nI_add, pk_mul, pk_sub, zz_bS, zz_b2S, if_true, if_false, Bool.true_eq_false, Bool.false_eq_true, eq_self, ne_eq, not_true_eq_false, not_false_eq_true, false_or, or_false, true_or, or_true, and_true, true_and, and_false, false_and, mI_e, mI_e2, mI_le, mI_le2, mI_lt, mI_lt2, mI_ok, bI_0n, bI_1n, bI_orn, Nat.mul_zero, Nat.zero_add, Nat.add_zero, c_no2, c_no3, c_no4, c_no5, c_no6, r_no2, r_no3, r_no4, r_no5, r_no6, zk_inR, zk_in2, zk_in3, zk_wiN, Nat.reduceAdd, ngI_e, ngI_le, ngI_m, cs_cmpN, zl_0, zl_1, zl_2, zl_3, zl_4, zl_5, zl_6, zl_7, zl_8, zl_9, zl_10, zl_12, zl_13, zl_14, zl_15, zl_16, zl_20, zl_32, zl_40, zl_48, zl_57, zl_59, zl_60, zl_63, zl_64, zl_97, zl_99, zl_101, zl_119, zl_120, zl_122, zl_128, zl_136, zl_152, zl_168, zl_184, zl_200, zl_201, zl_202, zl_203, zl_250, zl_255, zl_320, zl_999, zl_1000]
        simp (disch := omega) only [↓zl_m1, zz_leT, zz_leF, zz_ltT, zz_ltF, zz_eqT, zz_eqF, zz_okN, zz_okF, nI_clamp, nI_add, pk_mul, pk_sub, zz_bS, zz_b2S, if_true, if_false, Bool.true_eq_false, Bool.false_eq_true, eq_self, ne_eq, not_true_eq_false, not_false_eq_true, false_or, or_false, true_or, or_true, and_true, true_and, and_false, false_and, mI_e, mI_e2, mI_le, mI_le2, mI_lt, mI_lt2, mI_ok, bI_0n, bI_1n, bI_orn, Nat.mul_zero, Nat.zero_add, Nat.add_zero, c_no2, c_no3, c_no4, c_no5, c_no6, r_no2, r_no3, r_no4, r_no5, r_no6, zk_inR, zk_in2, zk_in3, zk_wiN, Nat.reduceAdd, ngI_e, ngI_le, ngI_m, cs_cmpN, zl_0, zl_1, zl_2, zl_3, zl_4, zl_5, zl_6, zl_7, zl_8, zl_9, zl_10, zl_12, zl_13, zl_14, zl_15, zl_16, zl_20, zl_32, zl_40, zl_48, zl_57, zl_59, zl_60, zl_63, zl_64, zl_97, zl_99, zl_101, zl_119, zl_120, zl_122, zl_128, zl_136, zl_152, zl_168, zl_184, zl_200, zl_201, zl_202, zl_203, zl_250, zl_255, zl_320, zl_999, zl_1000, hL1.p, one, a1, Option.isSome_some]
        exact last
      | none =>
        rw [ez] at a1
        obtain ⟨m3, i1, i2⟩ := ih (f + 1) n (by omega) (by omega) m2 e3
        refine ⟨m3, ?_, i2⟩
        simp (disch := omega) only [↓zl_m1, zz_leT, zz_leF, zz_ltT, zz_ltF, zz_eqT, zz_eqF, zz_okN, zz_okF, nI_clamp, nI_add, pk_mul, pk_sub, zz_bS, zz_b2S, if_true, if_false, Bool.true_eq_false, Bool.false_eq_true, eq_self, ne_eq, not_true_eq_false, not_false_eq_true, false_or, or_false, true_or, or_true, and_true, true_and, and_false, false_and, mI_e, mI_e2, mI_le, mI_le2, mI_lt, mI_lt2, mI_ok, bI_0n, bI_1n, bI_orn, Nat.mul_zero, Nat.zero_add, Nat.add_zero, c_no2, c_no3, c_no4, c_no5, c_no6, r_no2, r_no3, r_no4, r_no5, r_no6, zk_inR, zk_in2, zk_in3, zk_wiN, Nat.reduceAdd, ngI_e, ngI_le, ngI_m, cs_cmpN, zl_0, zl_1, zl_2, zl_3, zl_4, zl_5, zl_6, zl_7, zl_8, zl_9, zl_10, zl_12, zl_13, zl_14, zl_15, zl_16, zl_20, zl_32, zl_40, zl_48, zl_57, zl_59, zl_60, zl_63, zl_64, zl_97, zl_99, zl_101, zl_119, zl_120, zl_122, zl_128, zl_136, zl_152, zl_168, zl_184, zl_200, zl_201, zl_202, zl_203, zl_250, zl_255, zl_320, zl_999, zl_1000, hL1.p, one, a1, Option.isSome_none]
        exact i1
  intro k
  induction k with
  | zero =>
    intro s n h1 h2 hs m1 e1
    obtain ⟨n, rfl⟩ : ∃ z, n = z + 1 := ⟨n - 1, by omega⟩
    have hL1 : zL m1 G := hL.E e1 (by decide)
    refine ⟨m1, ?_, e1, fun s2 r h => (by cases h)⟩
    rw [F_X11_ring_L11, hL1.p]
    simp (disch := omega) only [↓zl_m1, zz_leT, zz_leF, zz_ltT, zz_ltF, zz_eqT, zz_eqF, zz_okN, zz_okF, nI_clamp, nI_add, pk_mul, pk_sub, zz_bS, zz_b2S, if_true, if_false, Bool.true_eq_false, Bool.false_eq_true, eq_self, ne_eq, not_true_eq_false, not_false_eq_true, false_or, or_false, true_or, or_true, and_true, true_and, and_false, false_and, mI_e, mI_e2, mI_le, mI_le2, mI_lt, mI_lt2, mI_ok, bI_0n, bI_1n, bI_orn, Nat.mul_zero, Nat.zero_add, Nat.add_zero, c_no2, c_no3, c_no4, c_no5, c_no6, r_no2, r_no3, r_no4, r_no5, r_no6, zk_inR, zk_in2, zk_in3, zk_wiN, Nat.reduceAdd, ngI_e, ngI_le, ngI_m, cs_cmpN, zl_0, zl_1, zl_2, zl_3, zl_4, zl_5, zl_6, zl_7, zl_8, zl_9, zl_10, zl_12, zl_13, zl_14, zl_15, zl_16, zl_20, zl_32, zl_40, zl_48, zl_57, zl_59, zl_60, zl_63, zl_64, zl_97, zl_99, zl_101, zl_119, zl_120, zl_122, zl_128, zl_136, zl_152, zl_168, zl_184, zl_200, zl_201, zl_202, zl_203, zl_250, zl_255, zl_320, zl_999, zl_1000]
    rfl
  | succ k ih =>
    intro s n h1 h2 hs m1 e1
    obtain ⟨n, rfl⟩ : ∃ z, n = z + 1 := ⟨n - 1, by omega⟩
    have hsP : s ≤ gP G := by omega
    have hL1 : zL m1 G := hL.E e1 (by decide)
    obtain ⟨m2, a1, a2, a3⟩ := inn (fun m44 y43 => F_X11_ring_L11 n m44 v y43 (nI (s + 1))) s hs hsP (gP G) 0 ax_FU (by omega) (by unfold ax_FU; omega) m1 e1
    have st : F_X11_ring_L11 (n + 1) m1 v mI (nI s) = F_X11_ring_L20 ax_FU (fun m44 y43 => F_X11_ring_L11 n m44 v y43 (nI (s + 1))) m1 v mI (nI s) (nI 0) := by
      rw [F_X11_ring_L11, hL1.p, if_neg (nI_nlt hsP (by omega)), nI_1, if_pos (show mI = -1 from rfl)]
      rfl
    rw [st, a1]
    cases ez : zfs (fun f => zrg (gEd G) (s - 1) (fun _ => f) 1 (fun i => decide (i = f))) (gP G) 0 with
    | some r =>
      have zs : zrS (gEd G) (gP G) s = some (s, r) := by unfold zrS; rw [ez]
      have hL2 : zL m2 G := hL.E a2 (by decide)
      refine ⟨m2, ?_, a2, fun s2 r2 h5 => ?_⟩
      · rw [zfs, zs]
        show F_X11_ring_L11 n m2 v (nI s) (nI (s + 1)) = zFin v (nI s) m2
        obtain ⟨n, rfl⟩ : ∃ z, n = z + 1 := ⟨n - 1, by omega⟩
        rw [F_X11_ring_L11, hL2.p]
        unfold zFin
        by_cases e5 : gP G < s + 1
        · simp (disch := omega) only [↓zl_m1, zz_leT, zz_leF, zz_ltT, zz_ltF, zz_eqT, zz_eqF, zz_okN, zz_okF, nI_clamp, nI_add, pk_mul, pk_sub, zz_bS, zz_b2S, if_true, if_false, Bool.true_eq_false, Bool.false_eq_true, eq_self, ne_eq, not_true_eq_false, not_false_eq_true, false_or, or_false, true_or, or_true, and_true, true_and, and_false, false_and, mI_e, mI_e2, mI_le, mI_le2, mI_lt, mI_lt2, mI_ok, bI_0n, bI_1n, bI_orn, Nat.mul_zero, Nat.zero_add, Nat.add_zero, c_no2, c_no3, c_no4, c_no5, c_no6, r_no2, r_no3, r_no4, r_no5, r_no6, zk_inR, zk_in2, zk_in3, zk_wiN, Nat.reduceAdd, ngI_e, ngI_le, ngI_m, cs_cmpN, zl_0, zl_1, zl_2, zl_3, zl_4, zl_5, zl_6, zl_7, zl_8, zl_9, zl_10, zl_12, zl_13, zl_14, zl_15, zl_16, zl_20, zl_32, zl_40, zl_48, zl_57, zl_59, zl_60, zl_63, zl_64, zl_97, zl_99, zl_101, zl_119, zl_120, zl_122, zl_128, zl_136, zl_152, zl_168, zl_184, zl_200, zl_201, zl_202, zl_203, zl_250, zl_255, zl_320, zl_999, zl_1000]
        · simp (disch := omega) only [↓zl_m1, zz_leT, zz_leF, zz_ltT, zz_ltF, zz_eqT, zz_eqF, zz_okN, zz_okF, nI_clamp, nI_add, pk_mul, pk_sub, zz_bS, zz_b2S, if_true, if_false, Bool.true_eq_false, Bool.false_eq_true, eq_self, ne_eq, not_true_eq_false, not_false_eq_true, false_or, or_false, true_or, or_true, and_true, true_and, and_false, false_and, mI_e, mI_e2, mI_le, mI_le2, mI_lt, mI_lt2, mI_ok, bI_0n, bI_1n, bI_orn, Nat.mul_zero, Nat.zero_add, Nat.add_zero, c_no2, c_no3, c_no4, c_no5, c_no6, r_no2, r_no3, r_no4, r_no5, r_no6, zk_inR, zk_in2, zk_in3, zk_wiN, Nat.reduceAdd, ngI_e, ngI_le, ngI_m, cs_cmpN, zl_0, zl_1, zl_2, zl_3, zl_4, zl_5, zl_6, zl_7, zl_8, zl_9, zl_10, zl_12, zl_13, zl_14, zl_15, zl_16, zl_20, zl_32, zl_40, zl_48, zl_57, zl_59, zl_60, zl_63, zl_64, zl_97, zl_99, zl_101, zl_119, zl_120, zl_122, zl_128, zl_136, zl_152, zl_168, zl_184, zl_200, zl_201, zl_202, zl_203, zl_250, zl_255, zl_320, zl_999, zl_1000]
      · rw [zfs, zs] at h5
        cases h5
        exact a3 r ez
    | none =>
      have zs : zrS (gEd G) (gP G) s = none := by unfold zrS; rw [ez]
      obtain ⟨m3, i1, i2, i3⟩ := ih (s + 1) n (by omega) (by omega) (by omega) m2 a2
      refine ⟨m3, ?_, i2, fun s2 r2 h5 => ?_⟩
      · rw [zfs, zs]
        exact i1
      · rw [zfs, zs] at h5
        exact i3 s2 r2 h5
theorem t_ring (v : Int32) : zT (fun m => F_X10_ring m v) (fun m => F_X11_ring m v) := zT_of (fun m G h => by
  obtain ⟨hV, hC, hL, -⟩ := id h
  have hp := hV.p
  rcases zk_i v with e | hu
  · exact zT_no 0 (by omega) (-nI 2) h (by unfold F_X10_ring; simp (disch := omega) only [↓zl_m1, zz_leT, zz_leF, zz_ltT, zz_ltF, zz_eqT, zz_eqF, zz_okN, zz_okF, nI_clamp, nI_add, pk_mul, pk_sub, zz_bS, zz_b2S, if_true, if_false, Bool.true_eq_false, Bool.false_eq_true, eq_self, ne_eq, not_true_eq_false, not_false_eq_true, false_or, or_false, true_or, or_true, and_true, true_and, and_false, false_and, mI_e, mI_e2, mI_le, mI_le2, mI_lt, mI_lt2, mI_ok, bI_0n, bI_1n, bI_orn, Nat.mul_zero, Nat.zero_add, Nat.add_zero, c_no2, c_no3, c_no4, c_no5, c_no6, r_no2, r_no3, r_no4, r_no5, r_no6, zk_inR, zk_in2, zk_in3, zk_wiN, Nat.reduceAdd, ngI_e, ngI_le, ngI_m, cs_cmpN, zl_0, zl_1, zl_2, zl_3, zl_4, zl_5, zl_6, zl_7, zl_8, zl_9, zl_10, zl_12, zl_13, zl_14, zl_15, zl_16, zl_20, zl_32, zl_40, zl_48, zl_57, zl_59, zl_60, zl_63, zl_64, zl_97, zl_99, zl_101, zl_119, zl_120, zl_122, zl_128, zl_136, zl_152, zl_168, zl_184, zl_200, zl_201, zl_202, zl_203, zl_250, zl_255, zl_320, zl_999, zl_1000, c_isPerson hC hV, c_isSeed hC hV, cs_isCell, c_isShelf, c_isPair hC hV, c_isKind, e]) (fun m1 e1 hL1 => by unfold F_X11_ring; simp (disch := omega) only [↓zl_m1, zz_leT, zz_leF, zz_ltT, zz_ltF, zz_eqT, zz_eqF, zz_okN, zz_okF, nI_clamp, nI_add, pk_mul, pk_sub, zz_bS, zz_b2S, if_true, if_false, Bool.true_eq_false, Bool.false_eq_true, eq_self, ne_eq, not_true_eq_false, not_false_eq_true, false_or, or_false, true_or, or_true, and_true, true_and, and_false, false_and, mI_e, mI_e2, mI_le, mI_le2, mI_lt, mI_lt2, mI_ok, bI_0n, bI_1n, bI_orn, Nat.mul_zero, Nat.zero_add, Nat.add_zero, c_no2, c_no3, c_no4, c_no5, c_no6, r_no2, r_no3, r_no4, r_no5, r_no6, zk_inR, zk_in2, zk_in3, zk_wiN, Nat.reduceAdd, ngI_e, ngI_le, ngI_m, cs_cmpN, zl_0, zl_1, zl_2, zl_3, zl_4, zl_5, zl_6, zl_7, zl_8, zl_9, zl_10, zl_12, zl_13, zl_14, zl_15, zl_16, zl_20, zl_32, zl_40, zl_48, zl_57, zl_59, zl_60, zl_63, zl_64, zl_97, zl_99, zl_101, zl_119, zl_120, zl_122, zl_128, zl_136, zl_152, zl_168, zl_184, zl_200, zl_201, zl_202, zl_203, zl_250, zl_255, zl_320, zl_999, zl_1000, r_isOne hL1 hV, r_isSeed hL1 hV, cr_isCell, r_isShelf, r_areTwo hL1 hV, zk_wiN, e])
  have hu1 : (mI ≤ v) = True := by
    rcases hu with rfl | ⟨k, hk, rfl⟩
    · exact eq_true (Int32.le_refl _)
    · exact mI_le hk
  obtain ⟨m1, a1, a2, a3⟩ := c_ringF hC hV
  have gen : ∀ m2, zE [16, 17, 20] m m2 → ∃ m3, F_X11_ring m2 v = (match zrT (gEd G) with | some q => zFin v (nI q.1) m3 | none => some (mI, m3)) ∧ zE [38] m2 m3 ∧ ∀ s2 r, zrT (gEd G) = some (s2, r) → zRw m3 38 r s2 := fun m2 e2 => by
    have hL2 : zL m2 G := hL.E e2 (by decide)
    obtain ⟨m3, b1, b2, b3⟩ := r_ringL hV hL2 v (gP G - 2) 3 ax_FU (by omega) (by unfold ax_FU; omega) (by omega) m2 (zE.rf _ _)
    rw [← zrT_P hV] at b1 b3
    refine ⟨m3, ?_, b2, b3⟩
    unfold F_X11_ring
    simp (disch := omega) only [↓zl_m1, zz_leT, zz_leF, zz_ltT, zz_ltF, zz_eqT, zz_eqF, zz_okN, zz_okF, nI_clamp, nI_add, pk_mul, pk_sub, zz_bS, zz_b2S, if_true, if_false, Bool.true_eq_false, Bool.false_eq_true, eq_self, ne_eq, not_true_eq_false, not_false_eq_true, false_or, or_false, true_or, or_true, and_true, true_and, and_false, false_and, mI_e, mI_e2, mI_le, mI_le2, mI_lt, mI_lt2, mI_ok, bI_0n, bI_1n, bI_orn, Nat.mul_zero, Nat.zero_add, Nat.add_zero, c_no2, c_no3, c_no4, c_no5, c_no6, r_no2, r_no3, r_no4, r_no5, r_no6, zk_inR, zk_in2, zk_in3, zk_wiN, Nat.reduceAdd, ngI_e, ngI_le, ngI_m, cs_cmpN, zl_0, zl_1, zl_2, zl_3, zl_4, zl_5, zl_6, zl_7, zl_8, zl_9, zl_10, zl_12, zl_13, zl_14, zl_15, zl_16, zl_20, zl_32, zl_40, zl_48, zl_57, zl_59, zl_60, zl_63, zl_64, zl_97, zl_99, zl_101, zl_119, zl_120, zl_122, zl_128, zl_136, zl_152, zl_168, zl_184, zl_200, zl_201, zl_202, zl_203, zl_250, zl_255, zl_320, zl_999, zl_1000, hu1]
    exact b1
  cases ez : zrT (gEd G) with
  | none =>
    rw [ez] at a1
    have a1 : F_X5_find m 0 = some (mI, m1) := a1
    obtain ⟨m2, b1, b2, b3⟩ := gen m1 (a2.mo (by decide))
    rw [ez] at b1
    have b1 : F_X11_ring m1 v = some (mI, m2) := b1
    refine ⟨mI, m1, m2, ?_, b1, G, h.E ((a2.mo (l2 := [16, 17, 38]) (by decide)).tr (b2.mo (by decide))) (by decide)⟩
    unfold F_X10_ring; simp (disch := omega) only [↓zl_m1, zz_leT, zz_leF, zz_ltT, zz_ltF, zz_eqT, zz_eqF, zz_okN, zz_okF, nI_clamp, nI_add, pk_mul, pk_sub, zz_bS, zz_b2S, if_true, if_false, Bool.true_eq_false, Bool.false_eq_true, eq_self, ne_eq, not_true_eq_false, not_false_eq_true, false_or, or_false, true_or, or_true, and_true, true_and, and_false, false_and, mI_e, mI_e2, mI_le, mI_le2, mI_lt, mI_lt2, mI_ok, bI_0n, bI_1n, bI_orn, Nat.mul_zero, Nat.zero_add, Nat.add_zero, c_no2, c_no3, c_no4, c_no5, c_no6, r_no2, r_no3, r_no4, r_no5, r_no6, zk_inR, zk_in2, zk_in3, zk_wiN, Nat.reduceAdd, ngI_e, ngI_le, ngI_m, cs_cmpN, zl_0, zl_1, zl_2, zl_3, zl_4, zl_5, zl_6, zl_7, zl_8, zl_9, zl_10, zl_12, zl_13, zl_14, zl_15, zl_16, zl_20, zl_32, zl_40, zl_48, zl_57, zl_59, zl_60, zl_63, zl_64, zl_97, zl_99, zl_101, zl_119, zl_120, zl_122, zl_128, zl_136, zl_152, zl_168, zl_184, zl_200, zl_201, zl_202, zl_203, zl_250, zl_255, zl_320, zl_999, zl_1000, hu1, a1]
  | some q =>
    obtain ⟨s, r⟩ := q
    obtain ⟨a4, hs3, hs8⟩ := a3 s r ez
    rw [ez] at a1
    have a1 : F_X5_find m 0 = some (nI s, m1) := a1
    rcases hu with rfl | ⟨k, hk, rfl⟩
    · obtain ⟨m2, b1, b2, b3⟩ := gen m1 (a2.mo (by decide))
      rw [ez] at b1
      have b1 : F_X11_ring m1 mI = zFin mI (nI s) m2 := b1
      refine ⟨nI s, m1, m2, ?_, ?_, G, h.E ((a2.mo (l2 := [16, 17, 38]) (by decide)).tr (b2.mo (by decide))) (by decide)⟩
      · unfold F_X10_ring; simp (disch := omega) only [↓zl_m1, zz_leT, zz_leF, zz_ltT, zz_ltF, zz_eqT, zz_eqF, zz_okN, zz_okF, nI_clamp, nI_add, pk_mul, pk_sub, zz_bS, zz_b2S, if_true, if_false, Bool.true_eq_false, Bool.false_eq_true, eq_self, ne_eq, not_true_eq_false, not_false_eq_true, false_or, or_false, true_or, or_true, and_true, true_and, and_false, false_and, mI_e, mI_e2, mI_le, mI_le2, mI_lt, mI_lt2, mI_ok, bI_0n, bI_1n, bI_orn, Nat.mul_zero, Nat.zero_add, Nat.add_zero, c_no2, c_no3, c_no4, c_no5, c_no6, r_no2, r_no3, r_no4, r_no5, r_no6, zk_inR, zk_in2, zk_in3, zk_wiN, Nat.reduceAdd, ngI_e, ngI_le, ngI_m, cs_cmpN, zl_0, zl_1, zl_2, zl_3, zl_4, zl_5, zl_6, zl_7, zl_8, zl_9, zl_10, zl_12, zl_13, zl_14, zl_15, zl_16, zl_20, zl_32, zl_40, zl_48, zl_57, zl_59, zl_60, zl_63, zl_64, zl_97, zl_99, zl_101, zl_119, zl_120, zl_122, zl_128, zl_136, zl_152, zl_168, zl_184, zl_200, zl_201, zl_202, zl_203, zl_250, zl_255, zl_320, zl_999, zl_1000, hu1, a1]
      · show F_X11_ring m1 mI = _
        rw [b1]; unfold zFin; rw [if_pos rfl]
    · by_cases hks : k < s
      · obtain ⟨m2, b1, b2, b3⟩ := gen m1 (a2.mo (by decide))
        have b4 := b3 s r ez k hks
        rw [ez] at b1
        have b1 : F_X11_ring m1 (nI k) = zFin (nI k) (nI s) m2 := b1
        refine ⟨nI (r k), m1, m2, ?_, ?_, G, h.E ((a2.mo (l2 := [16, 17, 38]) (by decide)).tr (b2.mo (by decide))) (by decide)⟩
        · unfold F_X10_ring; simp (disch := omega) only [↓zl_m1, zz_leT, zz_leF, zz_ltT, zz_ltF, zz_eqT, zz_eqF, zz_okN, zz_okF, nI_clamp, nI_add, pk_mul, pk_sub, zz_bS, zz_b2S, if_true, if_false, Bool.true_eq_false, Bool.false_eq_true, eq_self, ne_eq, not_true_eq_false, not_false_eq_true, false_or, or_false, true_or, or_true, and_true, true_and, and_false, false_and, mI_e, mI_e2, mI_le, mI_le2, mI_lt, mI_lt2, mI_ok, bI_0n, bI_1n, bI_orn, Nat.mul_zero, Nat.zero_add, Nat.add_zero, c_no2, c_no3, c_no4, c_no5, c_no6, r_no2, r_no3, r_no4, r_no5, r_no6, zk_inR, zk_in2, zk_in3, zk_wiN, Nat.reduceAdd, ngI_e, ngI_le, ngI_m, cs_cmpN, zl_0, zl_1, zl_2, zl_3, zl_4, zl_5, zl_6, zl_7, zl_8, zl_9, zl_10, zl_12, zl_13, zl_14, zl_15, zl_16, zl_20, zl_32, zl_40, zl_48, zl_57, zl_59, zl_60, zl_63, zl_64, zl_97, zl_99, zl_101, zl_119, zl_120, zl_122, zl_128, zl_136, zl_152, zl_168, zl_184, zl_200, zl_201, zl_202, zl_203, zl_250, zl_255, zl_320, zl_999, zl_1000, hu1, a1, a4 k hks]
        · show F_X11_ring m1 (nI k) = _
          rw [b1]; unfold zFin; simp (disch := omega) only [↓zl_m1, zz_leT, zz_leF, zz_ltT, zz_ltF, zz_eqT, zz_eqF, zz_okN, zz_okF, nI_clamp, nI_add, pk_mul, pk_sub, zz_bS, zz_b2S, if_true, if_false, Bool.true_eq_false, Bool.false_eq_true, eq_self, ne_eq, not_true_eq_false, not_false_eq_true, false_or, or_false, true_or, or_true, and_true, true_and, and_false, false_and, mI_e, mI_e2, mI_le, mI_le2, mI_lt, mI_lt2, mI_ok, bI_0n, bI_1n, bI_orn, Nat.mul_zero, Nat.zero_add, Nat.add_zero, c_no2, c_no3, c_no4, c_no5, c_no6, r_no2, r_no3, r_no4, r_no5, r_no6, zk_inR, zk_in2, zk_in3, zk_wiN, Nat.reduceAdd, ngI_e, ngI_le, ngI_m, cs_cmpN, zl_0, zl_1, zl_2, zl_3, zl_4, zl_5, zl_6, zl_7, zl_8, zl_9, zl_10, zl_12, zl_13, zl_14, zl_15, zl_16, zl_20, zl_32, zl_40, zl_48, zl_57, zl_59, zl_60, zl_63, zl_64, zl_97, zl_99, zl_101, zl_119, zl_120, zl_122, zl_128, zl_136, zl_152, zl_168, zl_184, zl_200, zl_201, zl_202, zl_203, zl_250, zl_255, zl_320, zl_999, zl_1000, b4]
      · obtain ⟨m2, b1, b2, b3⟩ := gen (zrf m1 3) ((a2.mo (by decide)).tr ((zrf_E m1 3).mo (by decide)))
        rw [ez] at b1
        have b1 : F_X11_ring (zrf m1 3) (nI k) = zFin (nI k) (nI s) m2 := b1
        have b5 : F_X11_ring (zrf m1 3) (nI k) = some (-nI 5, zrn m2 5) := by
          rw [b1]; unfold zFin; simp (disch := omega) only [↓zl_m1, zz_leT, zz_leF, zz_ltT, zz_ltF, zz_eqT, zz_eqF, zz_okN, zz_okF, nI_clamp, nI_add, pk_mul, pk_sub, zz_bS, zz_b2S, if_true, if_false, Bool.true_eq_false, Bool.false_eq_true, eq_self, ne_eq, not_true_eq_false, not_false_eq_true, false_or, or_false, true_or, or_true, and_true, true_and, and_false, false_and, mI_e, mI_e2, mI_le, mI_le2, mI_lt, mI_lt2, mI_ok, bI_0n, bI_1n, bI_orn, Nat.mul_zero, Nat.zero_add, Nat.add_zero, c_no2, c_no3, c_no4, c_no5, c_no6, r_no2, r_no3, r_no4, r_no5, r_no6, zk_inR, zk_in2, zk_in3, zk_wiN, Nat.reduceAdd, ngI_e, ngI_le, ngI_m, cs_cmpN, zl_0, zl_1, zl_2, zl_3, zl_4, zl_5, zl_6, zl_7, zl_8, zl_9, zl_10, zl_12, zl_13, zl_14, zl_15, zl_16, zl_20, zl_32, zl_40, zl_48, zl_57, zl_59, zl_60, zl_63, zl_64, zl_97, zl_99, zl_101, zl_119, zl_120, zl_122, zl_128, zl_136, zl_152, zl_168, zl_184, zl_200, zl_201, zl_202, zl_203, zl_250, zl_255, zl_320, zl_999, zl_1000]
        have hR1 : zRG m1 G := h.E a2 (by decide)
        refine ⟨-nI 5, zrf m1 3, zrn m2 5, ?_, b5, G, hR1.no2 (j := 3) (by decide) (k := 38) (by decide) b2⟩
        unfold F_X10_ring; simp (disch := omega) only [↓zl_m1, zz_leT, zz_leF, zz_ltT, zz_ltF, zz_eqT, zz_eqF, zz_okN, zz_okF, nI_clamp, nI_add, pk_mul, pk_sub, zz_bS, zz_b2S, if_true, if_false, Bool.true_eq_false, Bool.false_eq_true, eq_self, ne_eq, not_true_eq_false, not_false_eq_true, false_or, or_false, true_or, or_true, and_true, true_and, and_false, false_and, mI_e, mI_e2, mI_le, mI_le2, mI_lt, mI_lt2, mI_ok, bI_0n, bI_1n, bI_orn, Nat.mul_zero, Nat.zero_add, Nat.add_zero, c_no2, c_no3, c_no4, c_no5, c_no6, r_no2, r_no3, r_no4, r_no5, r_no6, zk_inR, zk_in2, zk_in3, zk_wiN, Nat.reduceAdd, ngI_e, ngI_le, ngI_m, cs_cmpN, zl_0, zl_1, zl_2, zl_3, zl_4, zl_5, zl_6, zl_7, zl_8, zl_9, zl_10, zl_12, zl_13, zl_14, zl_15, zl_16, zl_20, zl_32, zl_40, zl_48, zl_57, zl_59, zl_60, zl_63, zl_64, zl_97, zl_99, zl_101, zl_119, zl_120, zl_122, zl_128, zl_136, zl_152, zl_168, zl_184, zl_200, zl_201, zl_202, zl_203, zl_250, zl_255, zl_320, zl_999, zl_1000, hu1, a1])
