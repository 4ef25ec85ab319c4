/-! CALLS, seventh: strike; copies of a garden, image, back, weed -/
theorem cpi_ne {m : ax_M} {k i k2 i2 sp dp n a b c : Nat} (h : ¬ (a = k2 ∧ b = i2)) : (ax_cpi m k i k2 i2 sp dp n).1 a b c = m.1 a b c := if_neg (c := (a = k2 ∧ b = i2) ∧ dp ≤ c ∧ c < dp + n) (fun z => h z.1)
theorem cpi_in {m : ax_M} {k i k2 i2 sp dp n c : Nat} (h : dp ≤ c) (h2 : c < dp + n) : (ax_cpi m k i k2 i2 sp dp n).1 k2 i2 c = m.1 k i (sp + (c - dp)) := if_pos ⟨⟨rfl, rfl⟩, h, h2⟩
theorem zC.cpi {m : ax_M} {g g2 : Nat} {G : zG} (h : zC m g G) (hg : g ≠ g2) {k i sp dp n : Nat} (k2 : Nat) (hk : k2 = 2 ∨ k2 = 4) : zC (ax_cpi m k i k2 g2 sp dp n) g G := by
  have q : ∀ a b c, (a = 1 ∨ a = 6 ∨ b = g) → (ax_cpi m k i k2 g2 sp dp n).1 a b c = m.1 a b c := fun a b c hz => cpi_ne (fun z => by omega)
  unfold zC at *
  rw [q _ _ _ (.inl rfl), q _ _ _ (.inl rfl), q _ _ _ (.inl rfl)]
  refine ⟨h.1, h.2.1, h.2.2.1, h.2.2.2.1, fun p hp => ?_, fun x y hx hy => ?_, fun j hj => ?_⟩
  · rw [q _ _ _ (.inr (.inr rfl))]; exact h.2.2.2.2.1 p hp
  · rw [q _ _ _ (.inr (.inr rfl))]; exact h.2.2.2.2.2.1 x y hx hy
  · rw [q _ _ _ (.inr (.inl rfl)), q _ _ _ (.inr (.inl rfl)), q _ _ _ (.inr (.inl rfl)), q _ _ _ (.inr (.inl rfl))]; exact h.2.2.2.2.2.2 j hj
/-- all of a garden but its seeds from i on and seedness -/
def zCp (m : ax_M) (g : Nat) (G : zG) (i : Nat) : Prop := m.1 1 g 1 = nI (gP G) ∧ m.1 1 g 4 = nI (gS G) ∧ m.2 1 g 0 = lb (gW G) ∧ (∀ p, p < 8 → m.1 2 g p = nI (gO G p)) ∧ (∀ x y, x < 8 → y < 8 → m.1 4 g (8 * x + y) = nI (gD G x y)) ∧ (∀ j, j < i → m.1 6 (16 * g + j) 0 = nI (gK G j) ∧ m.1 6 (16 * g + j) 1 = nI (gA G j) ∧ m.1 6 (16 * g + j) 2 = nI (gC G j) ∧ m.1 6 (16 * g + j) 3 = nI (gR G j))
theorem c_become {m : ax_M} {g g2 : Nat} {G : zG} (h : zC m g2 G) (hg : g2 ≠ g) : ∃ m1, F_X3_become m g g2 = some m1 ∧ zGo m m1 g G := by
  have key : ∀ k i n, i + k = 16 → k < n → (∀ m0, zCp m0 g G i → (∀ g3 K, g3 ≠ g → zC m g3 K → zC m0 g3 K) → zE [1, 2, 4, 6] m m0 → ∃ m1, F_X3_become_L27 n m0 g g2 (nI i) = some m1 ∧ zGo m m1 g G) := by
    refine zz_loop 16 (fun n => ?_) (fun n i hi ih => ?_)
    · intro m0 h1 h2 h3
      have h0 := h2 g2 G hg h
      refine ⟨ax_ui m0 1 g 6 (gZ G), ?_, ⟨?_, ?_, ?_, ?_, ?_, ?_, ?_⟩, fun g3 K hg3 hK => (h2 g3 K hg3 hK).vz hg3 _, h3.ui (by decide)⟩
      · rw [F_X3_become_L27]
        simp (disch := omega) only [↓zl_m1, zz_leT, zz_leF, zz_ltT, zz_ltF, zz_eqT, zz_eqF, zz_okN, zz_okF, nI_clamp, nI_add, pk_mul, pk_sub, zz_bS, zz_b2S, if_true, if_false, Bool.true_eq_false, Bool.false_eq_true, eq_self, ne_eq, not_true_eq_false, not_false_eq_true, false_or, or_false, true_or, or_true, and_true, true_and, and_false, false_and, mI_e, mI_e2, mI_le, mI_le2, mI_lt, mI_lt2, mI_ok, bI_0n, bI_1n, bI_orn, Nat.mul_zero, Nat.zero_add, Nat.add_zero, c_no2, c_no3, c_no4, c_no5, c_no6, r_no2, r_no3, r_no4, r_no5, r_no6, zk_inR, zk_in2, zk_in3, zk_wiN, Nat.reduceAdd, zl_0, zl_1, zl_2, zl_3, zl_4, zl_5, zl_6, zl_7, zl_8, zl_9, zl_10, zl_12, zl_13, zl_14, zl_15, zl_16, zl_20, zl_32, zl_40, zl_48, zl_57, zl_59, zl_60, zl_63, zl_64, zl_97, zl_99, zl_101, zl_119, zl_120, zl_122, zl_128, zl_136, zl_152, zl_168, zl_184, zl_200, zl_201, zl_202, zl_203, zl_250, zl_255, zl_320, zl_999, zl_1000, h0.e]
      · rw [zu_j (by decide)]; exact h1.1
      · rw [zu_j (by decide)]; exact h1.2.1
      · exact zu_s
      · exact h1.2.2.1
      · intro p hp; rw [zu_k (by decide)]; exact h1.2.2.2.1 p hp
      · intro x y hx hy; rw [zu_k (by decide)]; exact h1.2.2.2.2.1 x y hx hy
      · intro j hj; rw [zu_k (by decide), zu_k (by decide), zu_k (by decide), zu_k (by decide)]; exact h1.2.2.2.2.2 j hj
    · intro m0 h1 h2 h3
      have h0 := h2 g2 G hg h
      obtain ⟨m1, i1, i2⟩ := ih (ax_ui (ax_ui (ax_ui (ax_ui m0 6 (16 * g + i) 0 (nI (gK G i))) 6 (16 * g + i) 1 (nI (gA G i))) 6 (16 * g + i) 2 (nI (gC G i))) 6 (16 * g + i) 3 (nI (gR G i))) (by
          refine ⟨?_, ?_, h1.2.2.1, fun p hp => ?_, fun x y hx hy => ?_, fun j hj => ?_⟩
          · rw [zu_k (by decide), zu_k (by decide), zu_k (by decide), zu_k (by decide)]; exact h1.1
          · rw [zu_k (by decide), zu_k (by decide), zu_k (by decide), zu_k (by decide)]; exact h1.2.1
          · rw [zu_k (by decide), zu_k (by decide), zu_k (by decide), zu_k (by decide)]; exact h1.2.2.2.1 p hp
          · rw [zu_k (by decide), zu_k (by decide), zu_k (by decide), zu_k (by decide)]; exact h1.2.2.2.2.1 x y hx hy
          · by_cases e1 : j = i
            · subst e1
              simp (disch := omega) only [zu_s, zu_j, and_self]
            · simp (disch := omega) only [zu_i]
              exact h1.2.2.2.2.2 j (by omega))
        (fun g3 K hg3 hK => ((((h2 g3 K hg3 hK).v6 hg3 (by omega) hi _).v6 hg3 (by omega) hi _).v6 hg3 (by omega) hi _).v6 hg3 (by omega) hi _)
        ((((h3.ui (by decide)).ui (by decide)).ui (by decide)).ui (by decide))
      refine ⟨m1, ?_, i2⟩
      rw [F_X3_become_L27]
      unfold F_X6_become F_X6_fill
      simp (disch := omega) only [↓zl_m1, zz_leT, zz_leF, zz_ltT, zz_ltF, zz_eqT, zz_eqF, zz_okN, zz_okF, nI_clamp, nI_add, pk_mul, pk_sub, zz_bS, zz_b2S, if_true, if_false, Bool.true_eq_false, Bool.false_eq_true, eq_self, ne_eq, not_true_eq_false, not_false_eq_true, false_or, or_false, true_or, or_true, and_true, true_and, and_false, false_and, mI_e, mI_e2, mI_le, mI_le2, mI_lt, mI_lt2, mI_ok, bI_0n, bI_1n, bI_orn, Nat.mul_zero, Nat.zero_add, Nat.add_zero, c_no2, c_no3, c_no4, c_no5, c_no6, r_no2, r_no3, r_no4, r_no5, r_no6, zk_inR, zk_in2, zk_in3, zk_wiN, Nat.reduceAdd, zl_0, zl_1, zl_2, zl_3, zl_4, zl_5, zl_6, zl_7, zl_8, zl_9, zl_10, zl_12, zl_13, zl_14, zl_15, zl_16, zl_20, zl_32, zl_40, zl_48, zl_57, zl_59, zl_60, zl_63, zl_64, zl_97, zl_99, zl_101, zl_119, zl_120, zl_122, zl_128, zl_136, zl_152, zl_168, zl_184, zl_200, zl_201, zl_202, zl_203, zl_250, zl_255, zl_320, zl_999, zl_1000, h0.k hi, h0.a hi, h0.c hi, h0.r hi]
      exact i1
  obtain ⟨m0, hm0⟩ : ∃ m0, m0 = ax_ui (ax_cpi (ax_cpi (ax_ui (ax_ul m 1 g 0 (lb (gW G))) 1 g 1 (nI (gP G))) 2 g2 2 g 0 0 8) 4 g2 4 g 0 0 64) 1 g 4 (nI (gS G)) := ⟨_, rfl⟩
  obtain ⟨m1, i1, i2⟩ := key 16 0 ax_FU rfl (by decide) m0 (by
      subst hm0
      refine ⟨?_, zu_s, ?_, fun p hp => ?_, fun x y hx hy => ?_, fun j hj => by omega⟩
      · rw [zu_j (by decide), cpi_ne (by omega), cpi_ne (by omega)]; exact zu_s
      · show (ax_ul m 1 g 0 (lb (gW G))).2 1 g 0 = _
        exact zv_s
      · rw [zu_k (by decide), cpi_ne (by omega), cpi_in (by omega) (by omega), zu_k (by decide)]
        rw [show 0 + (p - 0) = p by omega]
        exact h.o hp
      · rw [zu_k (by decide), cpi_in (by omega) (by omega), cpi_ne (by omega), zu_k (by decide)]
        rw [show 0 + (8 * x + y - 0) = 8 * x + y by omega]
        exact h.d hx hy)
    (fun g3 K hg3 hK => by
      subst hm0
      exact ((((hK.vw hg3 _).vp hg3 _).cpi hg3 2 (.inl rfl)).cpi hg3 4 (.inr rfl)).vs hg3 _)
    (by
      subst hm0
      exact ((((((zE.rf _ m).ul (by decide)).ui (by decide)).cpi (by decide)).cpi (by decide)).ui (by decide)))
  refine ⟨m1, ?_, i2⟩
  subst hm0
  unfold F_X3_become F_X2_become
  have q : (ax_cpi (ax_cpi (ax_ui (ax_ul m 1 g 0 (lb (gW G))) 1 g 1 (nI (gP G))) 2 g2 2 g 0 0 8) 4 g2 4 g 0 0 64).1 1 g2 4 = nI (gS G) := by
    rw [cpi_ne (by omega), cpi_ne (by omega), zu_j (by decide)]
    exact h.s
  simp (disch := omega) only [↓zl_m1, zz_leT, zz_leF, zz_ltT, zz_ltF, zz_eqT, zz_eqF, zz_okN, zz_okF, nI_clamp, nI_add, pk_mul, pk_sub, zz_bS, zz_b2S, if_true, if_false, Bool.true_eq_false, Bool.false_eq_true, eq_self, ne_eq, not_true_eq_false, not_false_eq_true, false_or, or_false, true_or, or_true, and_true, true_and, and_false, false_and, mI_e, mI_e2, mI_le, mI_le2, mI_lt, mI_lt2, mI_ok, bI_0n, bI_1n, bI_orn, Nat.mul_zero, Nat.zero_add, Nat.add_zero, c_no2, c_no3, c_no4, c_no5, c_no6, r_no2, r_no3, r_no4, r_no5, r_no6, zk_inR, zk_in2, zk_in3, zk_wiN, Nat.reduceAdd, zl_0, zl_1, zl_2, zl_3, zl_4, zl_5, zl_6, zl_7, zl_8, zl_9, zl_10, zl_12, zl_13, zl_14, zl_15, zl_16, zl_20, zl_32, zl_40, zl_48, zl_57, zl_59, zl_60, zl_63, zl_64, zl_97, zl_99, zl_101, zl_119, zl_120, zl_122, zl_128, zl_136, zl_152, zl_168, zl_184, zl_200, zl_201, zl_202, zl_203, zl_250, zl_255, zl_320, zl_999, zl_1000, h.w, zv_l, h.p, q]
  exact i1
theorem t_image : zT F_X10_image F_X11_image := zT_of (fun m G h => by
  obtain ⟨hV, hC, hL, hK, hS, hT, hF⟩ := id h
  obtain ⟨m1, e1, e2⟩ := c_become hC (show 0 ≠ 1 by decide)
  have hL1 : zL (ax_ui (ax_ui m1 0 0 3 (nI 1)) 22 0 20 (nI 1)) G := (((hL.E e2.2.2 (by decide)).E ((zE.rf [0] m1).ui (k := 0) (i := 0) (j := 3) (v := nI 1) (by decide)) (by decide)).x (nI 1) (by decide))
  obtain ⟨m2, k1, k2, k3⟩ := r_keep35 hL1
  have e3 : zE [0, 1, 2, 4, 6, 22, 35] m m2 := ((((e2.2.2.mo (by decide)).ui (by decide)).ui (by decide))).tr (k3.mo (by decide))
  have hC2 : ∀ g K, zC m1 g K → zC m2 g K := fun g K hK => ((hK.E ((zE.rf [0] m1).ui (k := 0) (i := 0) (j := 3) (v := nI 1) (by decide)) (by decide)).E ((zE.rf [22] _).ui (k := 22) (i := 0) (j := 20) (v := nI 1) (by decide)) (by decide)).E k3 (by decide)
  refine ⟨nI 1, ax_ui m1 0 0 3 (nI 1), m2, ?_, ?_, G, hV, hC2 0 G (e2.2.1 0 G (by decide) hC), hL1.E k3 (by decide), .inr ⟨?_, ?_, G, hV, hC2 1 G e2.1, k2⟩, hS.E e3 (by decide), ?_, hF.E e3 (by decide)⟩
  · unfold F_X10_image; rw [e1, zz_bS]; rfl
  · unfold F_X11_image
    rw [show (1 : Int32) = nI 1 from rfl, k1, zz_bS]
  · rw [(k3 0 (by decide)).1, zu_k (by decide)]; exact zu_s
  · rw [(k3 22 (by decide)).1]; exact zu_s
  · obtain ⟨n, t1, t2, t3, t4⟩ := hT
    refine ⟨n, t1, ?_, ?_, ?_⟩
    · rw [(e3 10 (by decide)).1]; exact t2
    · rw [(k3 22 (by decide)).1, zu_j (by decide), zu_k (by decide), (e2.2.2 22 (by decide)).1]; exact t3
    · rw [(e3 11 (by decide)).1, (e3 30 (by decide)).1]; exact t4)
/-- lost seeds on shelves -/
def zlo (v : Int32) (n : Nat) : Bool := decide (¬ v < nI (10 + n))
theorem zlo_m {n : Nat} (hn : n ≤ 16) : zlo mI n = false := by
  unfold zlo
  exact decide_eq_false (fun z => z (by rw [mI_lt (by omega)]; trivial))
theorem zlo_lt {n a : Nat} (hn : n ≤ 16) (h : a < 10 + n) : zlo (nI a) n = false := by
  unfold zlo
  exact decide_eq_false (fun z => z (nI_lt h (by omega)))
theorem zlo_ge {n a : Nat} (ha : a < 2 ^ 30) (h : 10 + n ≤ a) : zlo (nI a) n = true := by
  unfold zlo
  exact decide_eq_true (nI_nlt h (by omega))
theorem zif_s {α : Type} {s i : Nat} {c : Bool} {a b : α} (h : ¬ s = i) : (if s < i + 1 ∧ c = true then a else b) = if s < i ∧ c = true then a else b := by
  by_cases e : s < i
  · by_cases e2 : c = true
    · rw [if_pos ⟨by omega, e2⟩, if_pos ⟨e, e2⟩]
    · rw [if_neg (fun z => e2 z.2), if_neg (fun z => e2 z.2)]
  · rw [if_neg (fun z => e (by omega)), if_neg (fun z => e z.1)]
theorem c_drop {m : ax_M} {G : zG} (hC : zC m 0 G) (hV : zV G) (hS : zSh m 16) : ∃ m1, F_X10_dropLostSeeds m = some m1 ∧ zE [8] m m1 ∧ ∀ s, s < 8 → m1.1 8 s 0 = (if zlo (m.1 8 s 0) (gS G) = true then mI else m.1 8 s 0) ∧ m1.1 8 s 1 = (if zlo (m.1 8 s 0) (gS G) = true then nI 0 else m.1 8 s 1) := by
  have hs := hV.s
  have key : ∀ k i n, i + k = 8 → k < n → (∀ m0, zE [8] m m0 → (∀ s, s < 8 → m0.1 8 s 0 = (if s < i ∧ zlo (m.1 8 s 0) (gS G) = true then mI else m.1 8 s 0) ∧ m0.1 8 s 1 = (if s < i ∧ zlo (m.1 8 s 0) (gS G) = true then nI 0 else m.1 8 s 1)) → ∃ m1, F_X10_dropLostSeeds_L2 n m0 (nI i) = some m1 ∧ zE [8] m m1 ∧ ∀ s, s < 8 → m1.1 8 s 0 = (if zlo (m.1 8 s 0) (gS G) = true then mI else m.1 8 s 0) ∧ m1.1 8 s 1 = (if zlo (m.1 8 s 0) (gS G) = true then nI 0 else m.1 8 s 1)) := by
    refine zz_loop 8 (fun n => ?_) (fun n i hi ih => ?_)
    · intro m0 e h0
      refine ⟨m0, ?_, e, fun s hs8 => ?_⟩
      · rw [F_X10_dropLostSeeds_L2, zl_8, if_pos (Int32.le_refl _)]
      · have := h0 s hs8
        simp only [hs8, true_and] at this
        exact this
    · intro m0 e h0
      have hi0 := h0 i hi
      rw [if_neg (show ¬ (i < i ∧ _) from fun z => absurd z.1 (Nat.lt_irrefl _)), if_neg (show ¬ (i < i ∧ _) from fun z => absurd z.1 (Nat.lt_irrefl _))] at hi0
      have hC0 : zC m0 0 G := hC.E e (by decide)
      have keep : zlo (m.1 8 i 0) (gS G) = false → ∀ s, s < 8 → m0.1 8 s 0 = (if s < i + 1 ∧ zlo (m.1 8 s 0) (gS G) = true then mI else m.1 8 s 0) ∧ m0.1 8 s 1 = (if s < i + 1 ∧ zlo (m.1 8 s 0) (gS G) = true then nI 0 else m.1 8 s 1) := by
        intro hz s hs8
        by_cases e1 : s = i
        · subst e1
          rw [if_neg (by rw [hz]; simp), if_neg (by rw [hz]; simp)]
          exact hi0
        · rw [zif_s e1, zif_s e1]
          exact h0 s hs8
      rw [F_X10_dropLostSeeds_L2]
      unfold F_X7_holdsSeed F_X7_seedNumber F_X7_holdsSeed F_X7_clear
      rcases hS i hi with ⟨a1, -⟩ | ⟨k, hk, a1, -⟩ | ⟨t, l, ht, -, a1, -⟩
      · have hz : zlo (m.1 8 i 0) (gS G) = false := by rw [a1]; exact zlo_m hs
        simp (disch := omega) only [↓zl_m1, zz_leT, zz_leF, zz_ltT, zz_ltF, zz_eqT, zz_eqF, zz_okN, zz_okF, nI_clamp, nI_add, pk_mul, pk_sub, zz_bS, zz_b2S, if_true, if_false, Bool.true_eq_false, Bool.false_eq_true, eq_self, ne_eq, not_true_eq_false, not_false_eq_true, false_or, or_false, true_or, or_true, and_true, true_and, and_false, false_and, mI_e, mI_e2, mI_le, mI_le2, mI_lt, mI_lt2, mI_ok, bI_0n, bI_1n, bI_orn, Nat.mul_zero, Nat.zero_add, Nat.add_zero, c_no2, c_no3, c_no4, c_no5, c_no6, r_no2, r_no3, r_no4, r_no5, r_no6, zk_inR, zk_in2, zk_in3, zk_wiN, Nat.reduceAdd, zl_0, zl_1, zl_2, zl_3, zl_4, zl_5, zl_6, zl_7, zl_8, zl_9, zl_10, zl_12, zl_13, zl_14, zl_15, zl_16, zl_20, zl_32, zl_40, zl_48, zl_57, zl_59, zl_60, zl_63, zl_64, zl_97, zl_99, zl_101, zl_119, zl_120, zl_122, zl_128, zl_136, zl_152, zl_168, zl_184, zl_200, zl_201, zl_202, zl_203, zl_250, zl_255, zl_320, zl_999, zl_1000, hi0.1, a1]
        exact ih m0 e (keep hz)
      · by_cases e2 : k < gS G
        · have hz : zlo (m.1 8 i 0) (gS G) = false := by rw [a1]; exact zlo_lt hs (by omega)
          simp (disch := omega) only [↓zl_m1, zz_leT, zz_leF, zz_ltT, zz_ltF, zz_eqT, zz_eqF, zz_okN, zz_okF, nI_clamp, nI_add, pk_mul, pk_sub, zz_bS, zz_b2S, if_true, if_false, Bool.true_eq_false, Bool.false_eq_true, eq_self, ne_eq, not_true_eq_false, not_false_eq_true, false_or, or_false, true_or, or_true, and_true, true_and, and_false, false_and, mI_e, mI_e2, mI_le, mI_le2, mI_lt, mI_lt2, mI_ok, bI_0n, bI_1n, bI_orn, Nat.mul_zero, Nat.zero_add, Nat.add_zero, c_no2, c_no3, c_no4, c_no5, c_no6, r_no2, r_no3, r_no4, r_no5, r_no6, zk_inR, zk_in2, zk_in3, zk_wiN, Nat.reduceAdd, zl_0, zl_1, zl_2, zl_3, zl_4, zl_5, zl_6, zl_7, zl_8, zl_9, zl_10, zl_12, zl_13, zl_14, zl_15, zl_16, zl_20, zl_32, zl_40, zl_48, zl_57, zl_59, zl_60, zl_63, zl_64, zl_97, zl_99, zl_101, zl_119, zl_120, zl_122, zl_128, zl_136, zl_152, zl_168, zl_184, zl_200, zl_201, zl_202, zl_203, zl_250, zl_255, zl_320, zl_999, zl_1000, hi0.1, a1, c_isSeed hC0 hV, Nat.add_sub_cancel_left]
          exact ih m0 e (keep hz)
        · have hz : zlo (m.1 8 i 0) (gS G) = true := by rw [a1]; exact zlo_ge (by omega) (by omega)
          simp (disch := omega) only [↓zl_m1, zz_leT, zz_leF, zz_ltT, zz_ltF, zz_eqT, zz_eqF, zz_okN, zz_okF, nI_clamp, nI_add, pk_mul, pk_sub, zz_bS, zz_b2S, if_true, if_false, Bool.true_eq_false, Bool.false_eq_true, eq_self, ne_eq, not_true_eq_false, not_false_eq_true, false_or, or_false, true_or, or_true, and_true, true_and, and_false, false_and, mI_e, mI_e2, mI_le, mI_le2, mI_lt, mI_lt2, mI_ok, bI_0n, bI_1n, bI_orn, Nat.mul_zero, Nat.zero_add, Nat.add_zero, c_no2, c_no3, c_no4, c_no5, c_no6, r_no2, r_no3, r_no4, r_no5, r_no6, zk_inR, zk_in2, zk_in3, zk_wiN, Nat.reduceAdd, zl_0, zl_1, zl_2, zl_3, zl_4, zl_5, zl_6, zl_7, zl_8, zl_9, zl_10, zl_12, zl_13, zl_14, zl_15, zl_16, zl_20, zl_32, zl_40, zl_48, zl_57, zl_59, zl_60, zl_63, zl_64, zl_97, zl_99, zl_101, zl_119, zl_120, zl_122, zl_128, zl_136, zl_152, zl_168, zl_184, zl_200, zl_201, zl_202, zl_203, zl_250, zl_255, zl_320, zl_999, zl_1000, hi0.1, a1, c_isSeed hC0 hV, Nat.add_sub_cancel_left]
          refine ih _ ((e.ui (by decide)).ui (by decide)) (fun s hs8 => ?_)
          by_cases e1 : s = i
          · subst e1
            rw [if_pos ⟨by omega, hz⟩, if_pos ⟨by omega, hz⟩, zu_j (by decide), zu_s, zu_s]
            exact ⟨rfl, rfl⟩
          · rw [zu_i e1, zu_i e1, zu_i e1, zu_i e1, zif_s e1, zif_s e1]
            exact h0 s hs8
      · have hz : zlo (m.1 8 i 0) (gS G) = false := by rw [a1]; exact zlo_lt hs (by omega)
        simp (disch := omega) only [↓zl_m1, zz_leT, zz_leF, zz_ltT, zz_ltF, zz_eqT, zz_eqF, zz_okN, zz_okF, nI_clamp, nI_add, pk_mul, pk_sub, zz_bS, zz_b2S, if_true, if_false, Bool.true_eq_false, Bool.false_eq_true, eq_self, ne_eq, not_true_eq_false, not_false_eq_true, false_or, or_false, true_or, or_true, and_true, true_and, and_false, false_and, mI_e, mI_e2, mI_le, mI_le2, mI_lt, mI_lt2, mI_ok, bI_0n, bI_1n, bI_orn, Nat.mul_zero, Nat.zero_add, Nat.add_zero, c_no2, c_no3, c_no4, c_no5, c_no6, r_no2, r_no3, r_no4, r_no5, r_no6, zk_inR, zk_in2, zk_in3, zk_wiN, Nat.reduceAdd, zl_0, zl_1, zl_2, zl_3, zl_4, zl_5, zl_6, zl_7, zl_8, zl_9, zl_10, zl_12, zl_13, zl_14, zl_15, zl_16, zl_20, zl_32, zl_40, zl_48, zl_57, zl_59, zl_60, zl_63, zl_64, zl_97, zl_99, zl_101, zl_119, zl_120, zl_122, zl_128, zl_136, zl_152, zl_168, zl_184, zl_200, zl_201, zl_202, zl_203, zl_250, zl_255, zl_320, zl_999, zl_1000, hi0.1, a1]
        exact ih m0 e (keep hz)
  exact key 8 0 ax_FU rfl (by decide) m (zE.rf _ _) (fun s hs8 => by rw [if_neg (by omega), if_neg (by omega)]; exact ⟨rfl, rfl⟩)
theorem r_unshelve {m : ax_M} {G : zG} (hL : zL m G) (hV : zV G) : ∃ m1, F_X11_unshelve m = some m1 ∧ zE [31] m m1 ∧ ∀ s, s < 8 → m1.1 31 0 s = (if zlo (m.1 31 0 s) (gS G) = true then mI else m.1 31 0 s) := by
  have hs := hV.s
  have key : ∀ k i n, i + k = 8 → k < n → (∀ m0, zE [31] m m0 → (∀ s, s < 8 → m0.1 31 0 s = (if s < i ∧ zlo (m.1 31 0 s) (gS G) = true then mI else m.1 31 0 s)) → ∃ m1, F_X11_unshelve_L2 n m0 (nI i) = some m1 ∧ zE [31] m m1 ∧ ∀ s, s < 8 → m1.1 31 0 s = (if zlo (m.1 31 0 s) (gS G) = true then mI else m.1 31 0 s)) := by
    refine zz_loop 8 (fun n => ?_) (fun n i hi ih => ?_)
    · intro m0 e h0
      refine ⟨m0, ?_, e, fun s hs8 => ?_⟩
      · rw [F_X11_unshelve_L2, zl_8, if_pos (Int32.le_refl _)]
      · have := h0 s hs8
        simp only [hs8, true_and] at this
        exact this
    · intro m0 e h0
      have hi0 := h0 i hi
      rw [if_neg (show ¬ (i < i ∧ _) from fun z => absurd z.1 (Nat.lt_irrefl _))] at hi0
      have hL0 : zL m0 G := hL.E e (by decide)
      rw [F_X11_unshelve_L2]
      simp (disch := omega) only [↓zl_m1, zz_leT, zz_leF, zz_ltT, zz_ltF, zz_eqT, zz_eqF, zz_okN, zz_okF, nI_clamp, nI_add, pk_mul, pk_sub, zz_bS, zz_b2S, if_true, if_false, Bool.true_eq_false, Bool.false_eq_true, eq_self, ne_eq, not_true_eq_false, not_false_eq_true, false_or, or_false, true_or, or_true, and_true, true_and, and_false, false_and, mI_e, mI_e2, mI_le, mI_le2, mI_lt, mI_lt2, mI_ok, bI_0n, bI_1n, bI_orn, Nat.mul_zero, Nat.zero_add, Nat.add_zero, c_no2, c_no3, c_no4, c_no5, c_no6, r_no2, r_no3, r_no4, r_no5, r_no6, zk_inR, zk_in2, zk_in3, zk_wiN, Nat.reduceAdd, zl_0, zl_1, zl_2, zl_3, zl_4, zl_5, zl_6, zl_7, zl_8, zl_9, zl_10, zl_12, zl_13, zl_14, zl_15, zl_16, zl_20, zl_32, zl_40, zl_48, zl_57, zl_59, zl_60, zl_63, zl_64, zl_97, zl_99, zl_101, zl_119, zl_120, zl_122, zl_128, zl_136, zl_152, zl_168, zl_184, zl_200, zl_201, zl_202, zl_203, zl_250, zl_255, zl_320, zl_999, zl_1000, hi0, hL0.s]
      by_cases hz : m.1 31 0 i < nI (10 + gS G)
      · rw [if_pos hz]
        refine ih m0 e (fun s hs8 => ?_)
        by_cases e1 : s = i
        · subst e1
          rw [if_neg (by unfold zlo; simp [hz])]
          exact hi0
        · rw [zif_s e1]
          exact h0 s hs8
      · rw [if_neg hz]
        refine ih _ (e.ui (by decide)) (fun s hs8 => ?_)
        by_cases e1 : s = i
        · subst e1
          rw [if_pos ⟨by omega, by unfold zlo; simp [hz]⟩, zu_s]
        · rw [zu_j e1, zif_s e1]
          exact h0 s hs8
  exact key 8 0 ax_FU rfl (by decide) m (zE.rf _ _) (fun s hs8 => by rw [if_neg (by omega)])
/-- shelves behind both -/
theorem zSh.dr {m m2 : ax_M} {n : Nat} (h : zSh m 16) (hn : n ≤ 16) (e9 : m2.2 9 = m.2 9) (e33 : m2.2 33 = m.2 33) (e32 : m2.1 32 = m.1 32) (h8 : ∀ s, s < 8 → m2.1 8 s 0 = (if zlo (m.1 8 s 0) n = true then mI else m.1 8 s 0) ∧ m2.1 8 s 1 = (if zlo (m.1 8 s 0) n = true then nI 0 else m.1 8 s 1)) (h31 : ∀ s, s < 8 → m2.1 31 0 s = (if zlo (m.1 31 0 s) n = true then mI else m.1 31 0 s)) : zSh m2 n := by
  intro s hs
  obtain ⟨a1, a2⟩ := h8 s hs
  have a3 := h31 s hs
  rcases h s hs with ⟨b1, b2, b3⟩ | ⟨k, hk, b1, b2, b3⟩ | ⟨t, l, ht, hl, b1, b2, b3, b4, b5⟩
  · have hz : zlo mI n = false := zlo_m hn
    rw [b1, hz, if_neg (by decide)] at a1
    rw [b1, hz, if_neg (by decide)] at a2
    rw [b2, hz, if_neg (by decide)] at a3
    exact .inl ⟨a1, a3, a2.trans b3⟩
  · by_cases e2 : k < n
    · have hz : zlo (nI (10 + k)) n = false := zlo_lt hn (by omega)
      rw [b1, hz, if_neg (by decide)] at a1
      rw [b1, hz, if_neg (by decide)] at a2
      rw [b2, hz, if_neg (by decide)] at a3
      exact .inr (.inl ⟨k, e2, a1, a3, a2.trans b3⟩)
    · have hz : zlo (nI (10 + k)) n = true := zlo_ge (by omega) (by omega)
      rw [b1, hz, if_pos rfl] at a1
      rw [b1, hz, if_pos rfl] at a2
      rw [b2, hz, if_pos rfl] at a3
      exact .inl ⟨a1, a3, a2⟩
  · have hz : zlo (nI t) n = false := zlo_lt hn (by omega)
    rw [b1, hz, if_neg (by decide)] at a1
    rw [b1, hz, if_neg (by decide)] at a2
    rw [b2, hz, if_neg (by decide)] at a3
    exact .inr (.inr ⟨t, l, ht, hl, a1, a3, a2.trans b3, by rw [e32]; exact b4, by rw [e9, e33]; exact b5⟩)
/-- both sides' gardens come to G2, and then the shelves are looked through -/
theorem t_lost {m m1 : ax_M} {G G2 : zG} {f : ax_M → Option ax_M} (h : zRG m G) (hV : zV G2) (c1 : zGo m m1 0 G2) (hf : ∀ m3, zE [8] m1 m3 → ∃ m4, f m3 = some m4 ∧ zLo m3 m4 G2) : ∃ m3, F_X10_dropLostSeeds m1 = some m3 ∧ zE [8] m1 m3 ∧ ∃ m4, f m3 = some m4 ∧ zL m4 G2 ∧ ∃ m5, F_X11_unshelve m4 = some m5 ∧ zRG m5 G2 ∧ m3.1 1 0 4 = nI (gS G2) ∧ m5.1 22 0 4 = nI (gS G2) := by
  obtain ⟨-, hC, hL, hK, hS, hT, hF⟩ := id h
  have hs := hV.s
  have hS16 : zSh m 16 := hS.mo h.1.s
  have hS1 : zSh m1 16 := hS16.E c1.2.2 (by decide)
  obtain ⟨m3, d1, d2, d3⟩ := c_drop c1.1 hV hS1
  obtain ⟨m4, e1, e2⟩ := hf m3 d2
  obtain ⟨m5, u1, u2, u3⟩ := r_unshelve e2.1 hV
  have f1 : zE [1, 2, 4, 6, 8] m m3 := (c1.2.2.mo (by decide)).tr (d2.mo (by decide))
  have f2 : zE [22, 23, 24, 25, 26, 27, 28, 29, 31] m3 m5 := (e2.2.1.mo (by decide)).tr (u2.mo (by decide))
  have f3 : zE [1, 2, 4, 6, 8, 22, 23, 24, 25, 26, 27, 28, 29, 31] m m5 := (f1.mo (by decide)).tr (f2.mo (by decide))
  have h22 : ∀ j, j ∉ [1, 4, 9] → m5.1 22 0 j = m.1 22 0 j := fun j hj => by rw [(u2 22 (by decide)).1, e2.2.2 j hj, (f1 22 (by decide)).1]
  have hC3 : ∀ g K, zC m1 g K → zC m5 g K := fun g K hK => (hK.E d2 (by decide)).E f2 (by decide)
  have hL5 : zL m5 G2 := e2.1.E u2 (by decide)
  refine ⟨m3, d1, d2, m4, e1, e2.1, m5, u1, ⟨hV, hC3 0 G2 c1.1, hL5, ?_, ?_, ?_, hF.E f3 (by decide)⟩, ?_, hL5.s⟩
  · unfold zKp at *
    rw [(f3 0 (by decide)).1, h22 20 (by decide)]
    rcases hK with h | ⟨h1, h2, K, h3, h4, h5⟩
    · exact .inl h
    · exact .inr ⟨h1, h2, K, h3, hC3 1 K (c1.2.1 1 K (by decide) h4), h5.E f3 (by decide)⟩
  · refine hS16.dr (m2 := m5) hs (f3 9 (by decide)).2 (f3 33 (by decide)).2 (f3 32 (by decide)).1 (fun s hs8 => ?_) (fun s hs8 => ?_)
    · rw [(f2 8 (by decide)).1]
      have := d3 s hs8
      rw [(c1.2.2 8 (by decide)).1] at this
      exact this
    · rw [u3 s hs8, (e2.2.1 31 (by decide)).1, (f1 31 (by decide)).1]
  · unfold zTp at *
    rw [(f3 10 (by decide)).1, h22 10 (by decide), (f3 11 (by decide)).1, (f3 30 (by decide)).1]
    exact hT
  · rw [(d2 1 (by decide)).1]; exact c1.1.s
theorem zV.weed {G : zG} (h : zV G) {n : Nat} (hn : n ≤ gS G) : zV (zgu G 0 1 n) := by
  have hS : gS (zgu G 0 1 n) = n := zgu_s
  have hs := h.s
  refine ⟨h.p, by rw [hS]; omega, fun q hq => h.o hq, fun q hq => h.w hq, fun x y hx hy => h.d hx hy, fun x y hx hy => h.z hx hy, fun i hi => ⟨h.k hi, h.a hi, h.c hi, h.r hi⟩, fun i hi => h.rp (i := i) ?_⟩
  rw [hS] at hi
  omega
theorem t_weed : zT F_X10_weed F_X11_weed := zT_of (fun m G h => by
  obtain ⟨hV, hC, hL, -⟩ := id h
  have hs := hV.s
  by_cases e : gS G = 0
  · exact zT_no 3 (by omega) (-nI 5) h (by unfold F_X10_weed; simp (disch := omega) only [↓zl_m1, zz_leT, zz_leF, zz_ltT, zz_ltF, zz_eqT, zz_eqF, zz_okN, zz_okF, nI_clamp, nI_add, pk_mul, pk_sub, zz_bS, zz_b2S, if_true, if_false, Bool.true_eq_false, Bool.false_eq_true, eq_self, ne_eq, not_true_eq_false, not_false_eq_true, false_or, or_false, true_or, or_true, and_true, true_and, and_false, false_and, mI_e, mI_e2, mI_le, mI_le2, mI_lt, mI_lt2, mI_ok, bI_0n, bI_1n, bI_orn, Nat.mul_zero, Nat.zero_add, Nat.add_zero, c_no2, c_no3, c_no4, c_no5, c_no6, r_no2, r_no3, r_no4, r_no5, r_no6, zk_inR, zk_in2, zk_in3, zk_wiN, Nat.reduceAdd, zl_0, zl_1, zl_2, zl_3, zl_4, zl_5, zl_6, zl_7, zl_8, zl_9, zl_10, zl_12, zl_13, zl_14, zl_15, zl_16, zl_20, zl_32, zl_40, zl_48, zl_57, zl_59, zl_60, zl_63, zl_64, zl_97, zl_99, zl_101, zl_119, zl_120, zl_122, zl_128, zl_136, zl_152, zl_168, zl_184, zl_200, zl_201, zl_202, zl_203, zl_250, zl_255, zl_320, zl_999, zl_1000, c_isPerson hC hV, c_isSeed hC hV, cs_isCell, c_isShelf, c_isPair hC hV, c_isKind, hC.s, e]) (fun m1 e1 hL1 => by unfold F_X11_weed; simp (disch := omega) only [↓zl_m1, zz_leT, zz_leF, zz_ltT, zz_ltF, zz_eqT, zz_eqF, zz_okN, zz_okF, nI_clamp, nI_add, pk_mul, pk_sub, zz_bS, zz_b2S, if_true, if_false, Bool.true_eq_false, Bool.false_eq_true, eq_self, ne_eq, not_true_eq_false, not_false_eq_true, false_or, or_false, true_or, or_true, and_true, true_and, and_false, false_and, mI_e, mI_e2, mI_le, mI_le2, mI_lt, mI_lt2, mI_ok, bI_0n, bI_1n, bI_orn, Nat.mul_zero, Nat.zero_add, Nat.add_zero, c_no2, c_no3, c_no4, c_no5, c_no6, r_no2, r_no3, r_no4, r_no5, r_no6, zk_inR, zk_in2, zk_in3, zk_wiN, Nat.reduceAdd, zl_0, zl_1, zl_2, zl_3, zl_4, zl_5, zl_6, zl_7, zl_8, zl_9, zl_10, zl_12, zl_13, zl_14, zl_15, zl_16, zl_20, zl_32, zl_40, zl_48, zl_57, zl_59, zl_60, zl_63, zl_64, zl_97, zl_99, zl_101, zl_119, zl_120, zl_122, zl_128, zl_136, zl_152, zl_168, zl_184, zl_200, zl_201, zl_202, zl_203, zl_250, zl_255, zl_320, zl_999, zl_1000, r_isOne hL1 hV, r_isSeed hL1 hV, cr_isCell, r_isShelf, r_areTwo hL1 hV, zk_wiN, hL1.s, e])
  · have c1 := go_s hC (gS G - 1)
    have hV2 := hV.weed (n := gS G - 1) (by omega)
    obtain ⟨m3, d1, d2, m4, e1, e2, m5, u1, u2, u3, u4⟩ := t_lost (f := fun m => some (ax_ui m 22 0 4 (nI (gS G - 1)))) h hV2 c1 (fun m3 hm3 => ⟨_, rfl, lo_s (zLg hL c1 |>.E hm3 (by decide)) (gS G - 1)⟩)
    have hL3 : zL m3 G := (zLg hL c1).E d2 (by decide)
    refine ⟨nI (gS G - 1), m3, m5, ?_, ?_, _, u2⟩
    · unfold F_X10_weed
      have u3 : m3.1 1 0 4 = nI (gS G - 1) := u3
      simp (disch := omega) only [↓zl_m1, zz_leT, zz_leF, zz_ltT, zz_ltF, zz_eqT, zz_eqF, zz_okN, zz_okF, nI_clamp, nI_add, pk_mul, pk_sub, zz_bS, zz_b2S, if_true, if_false, Bool.true_eq_false, Bool.false_eq_true, eq_self, ne_eq, not_true_eq_false, not_false_eq_true, false_or, or_false, true_or, or_true, and_true, true_and, and_false, false_and, mI_e, mI_e2, mI_le, mI_le2, mI_lt, mI_lt2, mI_ok, bI_0n, bI_1n, bI_orn, Nat.mul_zero, Nat.zero_add, Nat.add_zero, c_no2, c_no3, c_no4, c_no5, c_no6, r_no2, r_no3, r_no4, r_no5, r_no6, zk_inR, zk_in2, zk_in3, zk_wiN, Nat.reduceAdd, zl_0, zl_1, zl_2, zl_3, zl_4, zl_5, zl_6, zl_7, zl_8, zl_9, zl_10, zl_12, zl_13, zl_14, zl_15, zl_16, zl_20, zl_32, zl_40, zl_48, zl_57, zl_59, zl_60, zl_63, zl_64, zl_97, zl_99, zl_101, zl_119, zl_120, zl_122, zl_128, zl_136, zl_152, zl_168, zl_184, zl_200, zl_201, zl_202, zl_203, zl_250, zl_255, zl_320, zl_999, zl_1000, hC.s, d1, u3]
    · unfold F_X11_weed
      have u4 : m5.1 22 0 4 = nI (gS G - 1) := u4
      have e1 := Option.some.inj e1
      simp (disch := omega) only [↓zl_m1, zz_leT, zz_leF, zz_ltT, zz_ltF, zz_eqT, zz_eqF, zz_okN, zz_okF, nI_clamp, nI_add, pk_mul, pk_sub, zz_bS, zz_b2S, if_true, if_false, Bool.true_eq_false, Bool.false_eq_true, eq_self, ne_eq, not_true_eq_false, not_false_eq_true, false_or, or_false, true_or, or_true, and_true, true_and, and_false, false_and, mI_e, mI_e2, mI_le, mI_le2, mI_lt, mI_lt2, mI_ok, bI_0n, bI_1n, bI_orn, Nat.mul_zero, Nat.zero_add, Nat.add_zero, c_no2, c_no3, c_no4, c_no5, c_no6, r_no2, r_no3, r_no4, r_no5, r_no6, zk_inR, zk_in2, zk_in3, zk_wiN, Nat.reduceAdd, zl_0, zl_1, zl_2, zl_3, zl_4, zl_5, zl_6, zl_7, zl_8, zl_9, zl_10, zl_12, zl_13, zl_14, zl_15, zl_16, zl_20, zl_32, zl_40, zl_48, zl_57, zl_59, zl_60, zl_63, zl_64, zl_97, zl_99, zl_101, zl_119, zl_120, zl_122, zl_128, zl_136, zl_152, zl_168, zl_184, zl_200, zl_201, zl_202, zl_203, zl_250, zl_255, zl_320, zl_999, zl_1000, hL3.s, e1, u1, u4])
theorem t_back : zT F_X10_back F_X11_back := zT_of (fun m G h => by
  obtain ⟨hV, hC, hL, hK, hS, hT, hF⟩ := id h
  rcases hK with ⟨h1, h2⟩ | ⟨h1, h2, K, h3, h4, h5⟩
  · exact zT_no 3 (by omega) (-nI 5) h (by unfold F_X10_back; simp (disch := omega) only [↓zl_m1, zz_leT, zz_leF, zz_ltT, zz_ltF, zz_eqT, zz_eqF, zz_okN, zz_okF, nI_clamp, nI_add, pk_mul, pk_sub, zz_bS, zz_b2S, if_true, if_false, Bool.true_eq_false, Bool.false_eq_true, eq_self, ne_eq, not_true_eq_false, not_false_eq_true, false_or, or_false, true_or, or_true, and_true, true_and, and_false, false_and, mI_e, mI_e2, mI_le, mI_le2, mI_lt, mI_lt2, mI_ok, bI_0n, bI_1n, bI_orn, Nat.mul_zero, Nat.zero_add, Nat.add_zero, c_no2, c_no3, c_no4, c_no5, c_no6, r_no2, r_no3, r_no4, r_no5, r_no6, zk_inR, zk_in2, zk_in3, zk_wiN, Nat.reduceAdd, zl_0, zl_1, zl_2, zl_3, zl_4, zl_5, zl_6, zl_7, zl_8, zl_9, zl_10, zl_12, zl_13, zl_14, zl_15, zl_16, zl_20, zl_32, zl_40, zl_48, zl_57, zl_59, zl_60, zl_63, zl_64, zl_97, zl_99, zl_101, zl_119, zl_120, zl_122, zl_128, zl_136, zl_152, zl_168, zl_184, zl_200, zl_201, zl_202, zl_203, zl_250, zl_255, zl_320, zl_999, zl_1000, h1]) (fun m1 e1 hL1 => by unfold F_X11_back; simp (disch := omega) only [↓zl_m1, zz_leT, zz_leF, zz_ltT, zz_ltF, zz_eqT, zz_eqF, zz_okN, zz_okF, nI_clamp, nI_add, pk_mul, pk_sub, zz_bS, zz_b2S, if_true, if_false, Bool.true_eq_false, Bool.false_eq_true, eq_self, ne_eq, not_true_eq_false, not_false_eq_true, false_or, or_false, true_or, or_true, and_true, true_and, and_false, false_and, mI_e, mI_e2, mI_le, mI_le2, mI_lt, mI_lt2, mI_ok, bI_0n, bI_1n, bI_orn, Nat.mul_zero, Nat.zero_add, Nat.add_zero, c_no2, c_no3, c_no4, c_no5, c_no6, r_no2, r_no3, r_no4, r_no5, r_no6, zk_inR, zk_in2, zk_in3, zk_wiN, Nat.reduceAdd, zl_0, zl_1, zl_2, zl_3, zl_4, zl_5, zl_6, zl_7, zl_8, zl_9, zl_10, zl_12, zl_13, zl_14, zl_15, zl_16, zl_20, zl_32, zl_40, zl_48, zl_57, zl_59, zl_60, zl_63, zl_64, zl_97, zl_99, zl_101, zl_119, zl_120, zl_122, zl_128, zl_136, zl_152, zl_168, zl_184, zl_200, zl_201, zl_202, zl_203, zl_250, zl_255, zl_320, zl_999, zl_1000, (e1.i (show 22 ∉ [20] by decide) 0 20).trans h2])
  · obtain ⟨m1, b1, b2⟩ := c_become h4 (show 1 ≠ 0 by decide)
    obtain ⟨m3, d1, d2, m4, e1, e2, m5, u1, u2, u3, u4⟩ := t_lost (f := F_X11_again_35) h h3 b2 (fun m3 hm3 => r_again35 ((h5.E b2.2.2 (by decide)).E hm3 (by decide)))
    have h6 : m3.1 22 0 20 = nI 1 := by rw [(d2 22 (by decide)).1, (b2.2.2 22 (by decide)).1]; exact h2
    refine ⟨nI 1, m3, m5, ?_, ?_, _, u2⟩
    · unfold F_X10_back
      simp (disch := omega) only [↓zl_m1, zz_leT, zz_leF, zz_ltT, zz_ltF, zz_eqT, zz_eqF, zz_okN, zz_okF, nI_clamp, nI_add, pk_mul, pk_sub, zz_bS, zz_b2S, if_true, if_false, Bool.true_eq_false, Bool.false_eq_true, eq_self, ne_eq, not_true_eq_false, not_false_eq_true, false_or, or_false, true_or, or_true, and_true, true_and, and_false, false_and, mI_e, mI_e2, mI_le, mI_le2, mI_lt, mI_lt2, mI_ok, bI_0n, bI_1n, bI_orn, Nat.mul_zero, Nat.zero_add, Nat.add_zero, c_no2, c_no3, c_no4, c_no5, c_no6, r_no2, r_no3, r_no4, r_no5, r_no6, zk_inR, zk_in2, zk_in3, zk_wiN, Nat.reduceAdd, zl_0, zl_1, zl_2, zl_3, zl_4, zl_5, zl_6, zl_7, zl_8, zl_9, zl_10, zl_12, zl_13, zl_14, zl_15, zl_16, zl_20, zl_32, zl_40, zl_48, zl_57, zl_59, zl_60, zl_63, zl_64, zl_97, zl_99, zl_101, zl_119, zl_120, zl_122, zl_128, zl_136, zl_152, zl_168, zl_184, zl_200, zl_201, zl_202, zl_203, zl_250, zl_255, zl_320, zl_999, zl_1000, h1, b1, d1]
    · unfold F_X11_back
      simp (disch := omega) only [↓zl_m1, zz_leT, zz_leF, zz_ltT, zz_ltF, zz_eqT, zz_eqF, zz_okN, zz_okF, nI_clamp, nI_add, pk_mul, pk_sub, zz_bS, zz_b2S, if_true, if_false, Bool.true_eq_false, Bool.false_eq_true, eq_self, ne_eq, not_true_eq_false, not_false_eq_true, false_or, or_false, true_or, or_true, and_true, true_and, and_false, false_and, mI_e, mI_e2, mI_le, mI_le2, mI_lt, mI_lt2, mI_ok, bI_0n, bI_1n, bI_orn, Nat.mul_zero, Nat.zero_add, Nat.add_zero, c_no2, c_no3, c_no4, c_no5, c_no6, r_no2, r_no3, r_no4, r_no5, r_no6, zk_inR, zk_in2, zk_in3, zk_wiN, Nat.reduceAdd, zl_0, zl_1, zl_2, zl_3, zl_4, zl_5, zl_6, zl_7, zl_8, zl_9, zl_10, zl_12, zl_13, zl_14, zl_15, zl_16, zl_20, zl_32, zl_40, zl_48, zl_57, zl_59, zl_60, zl_63, zl_64, zl_97, zl_99, zl_101, zl_119, zl_120, zl_122, zl_128, zl_136, zl_152, zl_168, zl_184, zl_200, zl_201, zl_202, zl_203, zl_250, zl_255, zl_320, zl_999, zl_1000, h6, e1, u1])
