/-! THE REFERENCE'S WALKS: labels -/
theorem zst_all : ∀ c, c < 64 → ∀ d, d < 64 → zany (fun w2 => decide (zst c w2 = some d)) 4 = znb c d := by decide +kernel
def gA1 (G : zG) (v : Int32) (i : Nat) : Bool := decide (nI (gR G i) ≠ v)
theorem r_walks {m : ax_M} {G : zG} (hL : zL m G) (hV : zV G) {p : Nat} (hp : p < 8) (v : Int32) : ∃ m1, F_X11_walks m (nI p) v = some m1 ∧ zE [37] m m1 ∧ ∀ c, c < 64 → m1.1 37 0 c = zlab (zWf (fun c => gQ G p c (gA1 G v)) (gO G p)) 63 c := by
  obtain ⟨a, haa⟩ : ∃ a, a = gO G p := ⟨_, rfl⟩
  have ha : a < 64 := by rw [haa]; exact hV.o hp
  have hqu : ∀ m1 d, zE [37] m m1 → d < 64 → F_X11_isQuiet m1 (nI p) (nI d) v = some (bI ((fun c => gQ G p c (gA1 G v)) d)) := fun m1 d e hd => r_isQuiet (hL.E e (by decide)) hV hp hd v
  obtain ⟨D, hD⟩ : ∃ D, D = zB (fun _ => true) (fun c => gQ G p c (gA1 G v)) a := ⟨_, rfl⟩
  have mo : ∀ n c j, D j c = true → j ≤ n → D n c = true := fun n c j h1 h2 => by rw [hD] at *; exact zit_le h2 h1
  -- a round of ways from one cell
  have one : ∀ (K : ax_M → Int32 → Option ax_M) (n c : Nat) (nw : Nat → Bool) (m1 : ax_M), n < 900 → c < 64 → zE [37] m m1 → (∀ d, nw d = true → D n d = false) → (∀ d, d < 64 → m1.1 37 0 d = if nw d = true then nI (n + 1) else zlab D n d) →
      ∃ m2 nw2, F_X11_walks_L42 ax_FU K m1 (nI p) v (bI (zany nw 64)) (nI n) (nI c) (nI 0) = K m2 (bI (zany nw2 64)) ∧ zE [37] m m2 ∧ (∀ d, nw2 d = true → D n d = false) ∧ (∀ d, d < 64 → m2.1 37 0 d = if nw2 d = true then nI (n + 1) else zlab D n d) ∧ (∀ d, d < 64 → nw2 d = (nw d || (znb c d && (!D n d && (fun c => gQ G p c (gA1 G v)) d)))) := by
    intro K n c nw m1 hn hc he hnw hm
    have key : ∀ k w f, w + k = 4 → k < f → (∀ (nw1 : Nat → Bool) (m1 : ax_M), zE [37] m m1 → (∀ d, nw1 d = true → D n d = false) → (∀ d, d < 64 → m1.1 37 0 d = if nw1 d = true then nI (n + 1) else zlab D n d) → (∀ d, d < 64 → nw1 d = (nw d || (zany (fun w2 => decide (zst c w2 = some d)) w && (!D n d && (fun c => gQ G p c (gA1 G v)) d)))) →
        ∃ m2 nw2, F_X11_walks_L42 f K m1 (nI p) v (bI (zany nw1 64)) (nI n) (nI c) (nI w) = K m2 (bI (zany nw2 64)) ∧ zE [37] m m2 ∧ (∀ d, nw2 d = true → D n d = false) ∧ (∀ d, d < 64 → m2.1 37 0 d = if nw2 d = true then nI (n + 1) else zlab D n d) ∧ (∀ d, d < 64 → nw2 d = (nw d || (znb c d && (!D n d && (fun c => gQ G p c (gA1 G v)) d))))) := by
      refine zz_loop 4 (fun f => ?_) (fun f w hw ih => ?_)
      · intro nw1 m1 e1 h1 h2 h3
        refine ⟨m1, nw1, ?_, e1, h1, h2, fun d hd => ?_⟩
        · rw [F_X11_walks_L42, zl_4, if_pos (Int32.le_refl _)]
        · rw [h3 d hd, zst_all c hc d hd]
      · intro nw1 m1 e1 h1 h2 h3
        have skip : (∀ d, d < 64 → zst c w = some d → (!D n d && (fun c => gQ G p c (gA1 G v)) d) = true → nw1 d = true) → ∃ m2 nw2, F_X11_walks_L42 f K m1 (nI p) v (bI (zany nw1 64)) (nI n) (nI c) (nI (w + 1)) = K m2 (bI (zany nw2 64)) ∧ zE [37] m m2 ∧ (∀ d, nw2 d = true → D n d = false) ∧ (∀ d, d < 64 → m2.1 37 0 d = if nw2 d = true then nI (n + 1) else zlab D n d) ∧ (∀ d, d < 64 → nw2 d = (nw d || (znb c d && (!D n d && (fun c => gQ G p c (gA1 G v)) d)))) := fun hz => ih nw1 m1 e1 h1 h2 (fun d hd => by
          rw [zany]
          by_cases e : zst c w = some d
          · rw [decide_eq_true e, Bool.or_true, Bool.true_and]
            cases e2 : (!D n d && (fun c => gQ G p c (gA1 G v)) d) with
            | true => rw [hz d hd e e2, Bool.or_true]
            | false =>
              rw [h3 d hd, e2, Bool.and_false]
          · rw [decide_eq_false e, Bool.or_false]; exact h3 d hd)
        rw [F_X11_walks_L42]
        have hb := r_besd c hc w hw
        cases e2 : zst c w with
        | none =>
          rw [e2] at hb
          have hb : F_X11_beside (nI c) (nI w) = some mI := hb
          obtain ⟨m2, nw2, s1, s2⟩ := skip (fun d _ h => by rw [e2] at h; cases h)
          refine ⟨m2, nw2, ?_, s2⟩
          simp (disch := omega) only [↓zl_m1, zz_leT, zz_leF, zz_ltT, zz_ltF, zz_eqT, zz_eqF, zz_okN, zz_okF, nI_clamp, nI_add, pk_mul, pk_sub, zz_bS, zz_b2S, if_true, if_false, Bool.true_eq_false, Bool.false_eq_true, eq_self, ne_eq, not_true_eq_false, not_false_eq_true, false_or, or_false, true_or, or_true, and_true, true_and, and_false, false_and, mI_e, mI_e2, mI_le, mI_le2, mI_lt, mI_lt2, mI_ok, bI_0n, bI_1n, bI_orn, Nat.mul_zero, Nat.zero_add, Nat.add_zero, c_no2, c_no3, c_no4, c_no5, c_no6, r_no2, r_no3, r_no4, r_no5, r_no6, zk_inR, zk_in2, zk_in3, zk_wiN, Nat.reduceAdd, ngI_e, ngI_le, ngI_m, cs_cmpN, zl_0, zl_1, zl_2, zl_3, zl_4, zl_5, zl_6, zl_7, zl_8, zl_9, zl_10, zl_12, zl_13, zl_14, zl_15, zl_16, zl_20, zl_32, zl_40, zl_48, zl_57, zl_59, zl_60, zl_63, zl_64, zl_97, zl_99, zl_101, zl_119, zl_120, zl_122, zl_128, zl_136, zl_152, zl_168, zl_184, zl_200, zl_201, zl_202, zl_203, zl_250, zl_255, zl_320, zl_999, zl_1000, hb]
          exact s1
        | some d =>
          rw [e2] at hb
          have hb : F_X11_beside (nI c) (nI w) = some (nI d) := hb
          have hd := zst_lt hc e2
          have hmd := h2 d hd
          cases e3 : nw1 d with
          | true =>
            rw [e3, if_pos rfl] at hmd
            obtain ⟨m2, nw2, s1, s2⟩ := skip (fun d2 _ h _ => by rw [e2] at h; cases h; exact e3)
            refine ⟨m2, nw2, ?_, s2⟩
            simp (disch := omega) only [↓zl_m1, zz_leT, zz_leF, zz_ltT, zz_ltF, zz_eqT, zz_eqF, zz_okN, zz_okF, nI_clamp, nI_add, pk_mul, pk_sub, zz_bS, zz_b2S, if_true, if_false, Bool.true_eq_false, Bool.false_eq_true, eq_self, ne_eq, not_true_eq_false, not_false_eq_true, false_or, or_false, true_or, or_true, and_true, true_and, and_false, false_and, mI_e, mI_e2, mI_le, mI_le2, mI_lt, mI_lt2, mI_ok, bI_0n, bI_1n, bI_orn, Nat.mul_zero, Nat.zero_add, Nat.add_zero, c_no2, c_no3, c_no4, c_no5, c_no6, r_no2, r_no3, r_no4, r_no5, r_no6, zk_inR, zk_in2, zk_in3, zk_wiN, Nat.reduceAdd, ngI_e, ngI_le, ngI_m, cs_cmpN, zl_0, zl_1, zl_2, zl_3, zl_4, zl_5, zl_6, zl_7, zl_8, zl_9, zl_10, zl_12, zl_13, zl_14, zl_15, zl_16, zl_20, zl_32, zl_40, zl_48, zl_57, zl_59, zl_60, zl_63, zl_64, zl_97, zl_99, zl_101, zl_119, zl_120, zl_122, zl_128, zl_136, zl_152, zl_168, zl_184, zl_200, zl_201, zl_202, zl_203, zl_250, zl_255, zl_320, zl_999, zl_1000, hb, hmd]
            exact s1
          | false =>
            rw [e3, if_neg (by decide)] at hmd
            cases e4 : D n d with
            | true =>
              have q : (zlab D n d = mI) = False := by rw [zlab_m (by omega) (fun j h1 h2 => mo n d j h1 h2), e4]; simp
              obtain ⟨m2, nw2, s1, s2⟩ := skip (fun d2 _ h h5 => by rw [e2] at h; cases h; rw [e4] at h5; cases h5)
              refine ⟨m2, nw2, ?_, s2⟩
              simp (disch := omega) only [↓zl_m1, zz_leT, zz_leF, zz_ltT, zz_ltF, zz_eqT, zz_eqF, zz_okN, zz_okF, nI_clamp, nI_add, pk_mul, pk_sub, zz_bS, zz_b2S, if_true, if_false, Bool.true_eq_false, Bool.false_eq_true, eq_self, ne_eq, not_true_eq_false, not_false_eq_true, false_or, or_false, true_or, or_true, and_true, true_and, and_false, false_and, mI_e, mI_e2, mI_le, mI_le2, mI_lt, mI_lt2, mI_ok, bI_0n, bI_1n, bI_orn, Nat.mul_zero, Nat.zero_add, Nat.add_zero, c_no2, c_no3, c_no4, c_no5, c_no6, r_no2, r_no3, r_no4, r_no5, r_no6, zk_inR, zk_in2, zk_in3, zk_wiN, Nat.reduceAdd, ngI_e, ngI_le, ngI_m, cs_cmpN, zl_0, zl_1, zl_2, zl_3, zl_4, zl_5, zl_6, zl_7, zl_8, zl_9, zl_10, zl_12, zl_13, zl_14, zl_15, zl_16, zl_20, zl_32, zl_40, zl_48, zl_57, zl_59, zl_60, zl_63, zl_64, zl_97, zl_99, zl_101, zl_119, zl_120, zl_122, zl_128, zl_136, zl_152, zl_168, zl_184, zl_200, zl_201, zl_202, zl_203, zl_250, zl_255, zl_320, zl_999, zl_1000, hb, hmd, q]
              exact s1
            | false =>
              have q : (zlab D n d = mI) = True := by rw [zlab_m (by omega) (fun j h1 h2 => mo n d j h1 h2), e4]; simp
              have add : (fun c => gQ G p c (gA1 G v)) d = true → ∃ m2 nw2, F_X11_walks_L42 f K (ax_ui m1 37 0 d (nI (n + 1))) (nI p) v (nI 1) (nI n) (nI c) (nI (w + 1)) = K m2 (bI (zany nw2 64)) ∧ zE [37] m m2 ∧ (∀ d, nw2 d = true → D n d = false) ∧ (∀ d, d < 64 → m2.1 37 0 d = if nw2 d = true then nI (n + 1) else zlab D n d) ∧ (∀ d, d < 64 → nw2 d = (nw d || (znb c d && (!D n d && (fun c => gQ G p c (gA1 G v)) d)))) := fun hy => by
                have t1 : zany (fun d2 => nw1 d2 || decide (d2 = d)) 64 = true := zany_t.mpr ⟨d, hd, by show (nw1 d || decide (d = d)) = true; rw [decide_eq_true rfl, Bool.or_true]⟩
                obtain ⟨m2, nw2, s1, s2⟩ := ih (fun d2 => nw1 d2 || decide (d2 = d)) (ax_ui m1 37 0 d (nI (n + 1))) (e1.ui (by decide)) (fun d2 h5 => by
                    rw [Bool.or_eq_true] at h5
                    rcases h5 with h5 | h5
                    · exact h1 d2 h5
                    · rw [of_decide_eq_true h5]; exact e4) (fun d2 hd2 => by
                    by_cases e5 : d2 = d
                    · subst e5
                      rw [zu_s, if_pos (by rw [decide_eq_true rfl, Bool.or_true])]
                    · rw [zu_j e5, h2 d2 hd2, decide_eq_false e5, Bool.or_false]) (fun d2 hd2 => by
                    rw [zany, h3 d2 hd2]
                    by_cases e5 : d2 = d
                    · subst e5
                      rw [decide_eq_true (show d2 = d2 from rfl), decide_eq_true e2, e4, hy]
                      simp
                    · rw [decide_eq_false e5, decide_eq_false (show ¬ zst c w = some d2 from fun z => e5 (by rw [e2] at z; cases z; rfl)), Bool.or_false, Bool.or_false])
                rw [t1] at s1
                exact ⟨m2, nw2, s1, s2⟩
              have drop : (fun c => gQ G p c (gA1 G v)) d = false → ∃ m2 nw2, F_X11_walks_L42 f K m1 (nI p) v (bI (zany nw1 64)) (nI n) (nI c) (nI (w + 1)) = K m2 (bI (zany nw2 64)) ∧ zE [37] m m2 ∧ (∀ d, nw2 d = true → D n d = false) ∧ (∀ d, d < 64 → m2.1 37 0 d = if nw2 d = true then nI (n + 1) else zlab D n d) ∧ (∀ d, d < 64 → nw2 d = (nw d || (znb c d && (!D n d && (fun c => gQ G p c (gA1 G v)) d)))) := fun hy =>
                skip (fun d2 _ h h5 => by rw [e2] at h; cases h; rw [hy, Bool.and_false] at h5; cases h5)
              have hq := hqu m1 d e1 hd
              cases e6 : (fun c => gQ G p c (gA1 G v)) d with
              | true =>
                rw [e6] at hq
                obtain ⟨m2, nw2, s1, s2⟩ := add e6
                refine ⟨m2, nw2, ?_, s2⟩
                simp (disch := omega) only [↓zl_m1, zz_leT, zz_leF, zz_ltT, zz_ltF, zz_eqT, zz_eqF, zz_okN, zz_okF, nI_clamp, nI_add, pk_mul, pk_sub, zz_bS, zz_b2S, if_true, if_false, Bool.true_eq_false, Bool.false_eq_true, eq_self, ne_eq, not_true_eq_false, not_false_eq_true, false_or, or_false, true_or, or_true, and_true, true_and, and_false, false_and, mI_e, mI_e2, mI_le, mI_le2, mI_lt, mI_lt2, mI_ok, bI_0n, bI_1n, bI_orn, Nat.mul_zero, Nat.zero_add, Nat.add_zero, c_no2, c_no3, c_no4, c_no5, c_no6, r_no2, r_no3, r_no4, r_no5, r_no6, zk_inR, zk_in2, zk_in3, zk_wiN, Nat.reduceAdd, ngI_e, ngI_le, ngI_m, cs_cmpN, zl_0, zl_1, zl_2, zl_3, zl_4, zl_5, zl_6, zl_7, zl_8, zl_9, zl_10, zl_12, zl_13, zl_14, zl_15, zl_16, zl_20, zl_32, zl_40, zl_48, zl_57, zl_59, zl_60, zl_63, zl_64, zl_97, zl_99, zl_101, zl_119, zl_120, zl_122, zl_128, zl_136, zl_152, zl_168, zl_184, zl_200, zl_201, zl_202, zl_203, zl_250, zl_255, zl_320, zl_999, zl_1000, hb, hmd, q, hq]
                exact s1
              | false =>
                rw [e6] at hq
                obtain ⟨m2, nw2, s1, s2⟩ := drop e6
                refine ⟨m2, nw2, ?_, s2⟩
                simp (disch := omega) only [↓zl_m1, zz_leT, zz_leF, zz_ltT, zz_ltF, zz_eqT, zz_eqF, zz_okN, zz_okF, nI_clamp, nI_add, pk_mul, pk_sub, zz_bS, zz_b2S, if_true, if_false, Bool.true_eq_false, Bool.false_eq_true, eq_self, ne_eq, not_true_eq_false, not_false_eq_true, false_or, or_false, true_or, or_true, and_true, true_and, and_false, false_and, mI_e, mI_e2, mI_le, mI_le2, mI_lt, mI_lt2, mI_ok, bI_0n, bI_1n, bI_orn, Nat.mul_zero, Nat.zero_add, Nat.add_zero, c_no2, c_no3, c_no4, c_no5, c_no6, r_no2, r_no3, r_no4, r_no5, r_no6, zk_inR, zk_in2, zk_in3, zk_wiN, Nat.reduceAdd, ngI_e, ngI_le, ngI_m, cs_cmpN, zl_0, zl_1, zl_2, zl_3, zl_4, zl_5, zl_6, zl_7, zl_8, zl_9, zl_10, zl_12, zl_13, zl_14, zl_15, zl_16, zl_20, zl_32, zl_40, zl_48, zl_57, zl_59, zl_60, zl_63, zl_64, zl_97, zl_99, zl_101, zl_119, zl_120, zl_122, zl_128, zl_136, zl_152, zl_168, zl_184, zl_200, zl_201, zl_202, zl_203, zl_250, zl_255, zl_320, zl_999, zl_1000, hb, hmd, q, hq]
                exact s1
    exact key 4 0 ax_FU rfl (by decide) nw m1 he hnw hm (fun d _ => by rw [zany, Bool.false_and, Bool.or_false])
  -- all cells of a round
  have rnd : ∀ (K : ax_M → Int32 → Option ax_M) (n : Nat) (m1 : ax_M), n < 900 → zE [37] m m1 → (∀ d, d < 64 → m1.1 37 0 d = zlab D n d) →
      ∃ m2, F_X11_walks_L30 ax_FU K m1 (nI p) v (nI 0) (nI n) (nI 0) = K m2 (bI (zany (zls D (n + 1)) 64)) ∧ zE [37] m m2 ∧ (∀ d, d < 64 → m2.1 37 0 d = zlab D (n + 1) d) := by
    intro K n m1 hn he hm
    have key : ∀ k c f, c + k = 64 → k < f → (∀ (nw : Nat → Bool) (m1 : ax_M), zE [37] m m1 → (∀ d, nw d = true → D n d = false) → (∀ d, d < 64 → m1.1 37 0 d = if nw d = true then nI (n + 1) else zlab D n d) → (∀ d, d < 64 → nw d = (zany (fun c2 => (zls D n c2 && (fun _ => true) c2) && znb c2 d) c && (!D n d && (fun c => gQ G p c (gA1 G v)) d))) →
        ∃ m2, F_X11_walks_L30 f K m1 (nI p) v (bI (zany nw 64)) (nI n) (nI c) = K m2 (bI (zany (zls D (n + 1)) 64)) ∧ zE [37] m m2 ∧ (∀ d, d < 64 → m2.1 37 0 d = zlab D (n + 1) d)) := by
      refine zz_loop 64 (fun f => ?_) (fun f c hc ih => ?_)
      · intro nw m1 e1 h1 h2 h3
        have h4 : ∀ d, d < 64 → nw d = zls D (n + 1) d := fun d hd => by rw [h3 d hd, hD]; exact zB_new hd
        refine ⟨m1, ?_, e1, fun d hd => ?_⟩
        · rw [F_X11_walks_L30, zl_64, if_pos (Int32.le_refl _), zany_congr (fun d hd => h4 d hd)]
        · rw [h2 d hd, h4 d hd, hD, zlab_s]
      · intro nw m1 e1 h1 h2 h3
        have skip : (zls D n c && (fun _ => true) c) = false → ∃ m2, F_X11_walks_L30 f K m1 (nI p) v (bI (zany nw 64)) (nI n) (nI (c + 1)) = K m2 (bI (zany (zls D (n + 1)) 64)) ∧ zE [37] m m2 ∧ (∀ d, d < 64 → m2.1 37 0 d = zlab D (n + 1) d) := fun hz => ih nw m1 e1 h1 h2 (fun d hd => by rw [zany, hz, Bool.false_and, Bool.or_false]; exact h3 d hd)
        have go : (zls D n c && (fun _ => true) c) = true → ∃ m2, F_X11_walks_L42 ax_FU (fun m3 y3 => F_X11_walks_L30 f K m3 (nI p) v y3 (nI n) (nI (c + 1))) m1 (nI p) v (bI (zany nw 64)) (nI n) (nI c) (nI 0) = K m2 (bI (zany (zls D (n + 1)) 64)) ∧ zE [37] m m2 ∧ (∀ d, d < 64 → m2.1 37 0 d = zlab D (n + 1) d) := fun hz => by
          obtain ⟨m3, nw3, o1, o2, o3, o4, o5⟩ := one (fun m3 y3 => F_X11_walks_L30 f K m3 (nI p) v y3 (nI n) (nI (c + 1))) n c nw m1 hn hc e1 h1 h2
          obtain ⟨m2, i1, i2⟩ := ih nw3 m3 o2 o3 o4 (fun d hd => by
            rw [o5 d hd, h3 d hd, zany, hz, Bool.true_and, Bool.and_or_distrib_right])
          exact ⟨m2, o1.trans i1, i2⟩
        have hmc := h2 c hc
        have q1 : (m1.1 37 0 c = nI n) = (zls D n c = true) := by
          rw [hmc]
          cases e2 : nw c with
          | true =>
            rw [if_pos rfl, zz_eq (by omega) (by omega)]
            have h5 := h1 c e2
            refine propext ⟨fun z => by omega, fun z => ?_⟩
            cases n with
            | zero => have z : D 0 c = true := z; rw [z] at h5; cases h5
            | succ n =>
              have z : (D (n + 1) c && !D n c) = true := z
              rw [h5] at z; cases z
          | false => rw [if_neg (by decide), hD, zlab_n (by omega)]
        rw [F_X11_walks_L30]
        by_cases e5 : zls D n c = true
        · obtain ⟨m2, g1, g2⟩ := go (by rw [e5]; rfl)
          refine ⟨m2, ?_, g2⟩
          simp (disch := omega) only [↓zl_m1, zz_leT, zz_leF, zz_ltT, zz_ltF, zz_eqT, zz_eqF, zz_okN, zz_okF, nI_clamp, nI_add, pk_mul, pk_sub, zz_bS, zz_b2S, if_true, if_false, Bool.true_eq_false, Bool.false_eq_true, eq_self, ne_eq, not_true_eq_false, not_false_eq_true, false_or, or_false, true_or, or_true, and_true, true_and, and_false, false_and, mI_e, mI_e2, mI_le, mI_le2, mI_lt, mI_lt2, mI_ok, bI_0n, bI_1n, bI_orn, Nat.mul_zero, Nat.zero_add, Nat.add_zero, c_no2, c_no3, c_no4, c_no5, c_no6, r_no2, r_no3, r_no4, r_no5, r_no6, zk_inR, zk_in2, zk_in3, zk_wiN, Nat.reduceAdd, ngI_e, ngI_le, ngI_m, cs_cmpN, zl_0, zl_1, zl_2, zl_3, zl_4, zl_5, zl_6, zl_7, zl_8, zl_9, zl_10, zl_12, zl_13, zl_14, zl_15, zl_16, zl_20, zl_32, zl_40, zl_48, zl_57, zl_59, zl_60, zl_63, zl_64, zl_97, zl_99, zl_101, zl_119, zl_120, zl_122, zl_128, zl_136, zl_152, zl_168, zl_184, zl_200, zl_201, zl_202, zl_203, zl_250, zl_255, zl_320, zl_999, zl_1000, q1, e5]
          exact g1
        · obtain ⟨m2, g1, g2⟩ := skip (by rw [ts_nt e5]; rfl)
          refine ⟨m2, ?_, g2⟩
          simp (disch := omega) only [↓zl_m1, zz_leT, zz_leF, zz_ltT, zz_ltF, zz_eqT, zz_eqF, zz_okN, zz_okF, nI_clamp, nI_add, pk_mul, pk_sub, zz_bS, zz_b2S, if_true, if_false, Bool.true_eq_false, Bool.false_eq_true, eq_self, ne_eq, not_true_eq_false, not_false_eq_true, false_or, or_false, true_or, or_true, and_true, true_and, and_false, false_and, mI_e, mI_e2, mI_le, mI_le2, mI_lt, mI_lt2, mI_ok, bI_0n, bI_1n, bI_orn, Nat.mul_zero, Nat.zero_add, Nat.add_zero, c_no2, c_no3, c_no4, c_no5, c_no6, r_no2, r_no3, r_no4, r_no5, r_no6, zk_inR, zk_in2, zk_in3, zk_wiN, Nat.reduceAdd, ngI_e, ngI_le, ngI_m, cs_cmpN, zl_0, zl_1, zl_2, zl_3, zl_4, zl_5, zl_6, zl_7, zl_8, zl_9, zl_10, zl_12, zl_13, zl_14, zl_15, zl_16, zl_20, zl_32, zl_40, zl_48, zl_57, zl_59, zl_60, zl_63, zl_64, zl_97, zl_99, zl_101, zl_119, zl_120, zl_122, zl_128, zl_136, zl_152, zl_168, zl_184, zl_200, zl_201, zl_202, zl_203, zl_250, zl_255, zl_320, zl_999, zl_1000, q1, e5]
          exact g1
    have z0 : ∀ d, d < 64 → (fun _ => false : Nat → Bool) d = (zany (fun c2 => (zls D n c2 && (fun _ => true) c2) && znb c2 d) 0 && (!D n d && (fun c => gQ G p c (gA1 G v)) d)) := fun d _ => by rw [zany, Bool.false_and]
    have k2 := key 64 0 ax_FU rfl (by decide) (fun _ => false) m1 he (fun d h => by cases h) (fun d hd => by rw [if_neg (by decide)]; exact hm d hd) z0
    rw [zany_f.mpr (fun i _ => rfl)] at k2
    exact k2
  -- rounds
  have all : ∀ k n f, n + k = 64 → 2 * k + 2 < f → (∀ m1, zE [37] m m1 → (∀ d, d < 64 → m1.1 37 0 d = zlab D n d) → ∃ m2, F_X11_walks_L24 f m1 (nI p) v (nI 1) (nI n) = some m2 ∧ zE [37] m m2 ∧ ∀ d, d < 64 → m2.1 37 0 d = zlab D 63 d) := by
    intro k
    induction k with
    | zero =>
      intro n f h1 h2 m1 e1 h3
      have : n = 64 := by omega
      subst this
      obtain ⟨f, rfl⟩ : ∃ z, f = z + 1 + 1 := ⟨f - 2, by omega⟩
      have st : ∀ d, d < 64 → zls D 65 d = false := fun d hd => by
        show (D 65 d && !D 64 d) = false
        rw [hD, zB_end (fun _ => true) (fun c => gQ G p c (gA1 G v)) ha 65 d hd (by omega), zB_end (fun _ => true) (fun c => gQ G p c (gA1 G v)) ha 64 d hd (by omega)]
        cases zB (fun _ => true) (fun c => gQ G p c (gA1 G v)) a 63 d <;> rfl
      obtain ⟨m2, r1, r2, r3⟩ := rnd (fun m64 y63 => F_X11_walks_L24 (f + 1) m64 (nI p) v y63 (nI (64 + 1))) 64 m1 (by omega) e1 h3
      refine ⟨m2, ?_, r2, fun d hd => ?_⟩
      · rw [F_X11_walks_L24, if_neg (by decide), nI_1, show (0 : Int32) = nI 0 from rfl]
        refine r1.trans ?_
        rw [zany_f.mpr st, F_X11_walks_L24, if_pos (show bI false = 0 from rfl)]
      · rw [r3 d hd]
        rw [show zlab D (64 + 1) d = zlab D 64 d by rw [hD, zlab_s, if_neg (by rw [← hD, st d hd]; decide)]]
        rw [show zlab D 64 d = zlab D 63 d by
          rw [hD, show (64 : Nat) = 63 + 1 from rfl, zlab_s, if_neg]
          show ¬ (zB (fun _ => true) (fun c => gQ G p c (gA1 G v)) a 64 d && !zB (fun _ => true) (fun c => gQ G p c (gA1 G v)) a 63 d) = true
          rw [zB_end (fun _ => true) (fun c => gQ G p c (gA1 G v)) ha 64 d hd (by omega)]
          cases zB (fun _ => true) (fun c => gQ G p c (gA1 G v)) a 63 d <;> decide]
    | succ k ih =>
      intro n f h1 h2 m1 e1 h3
      obtain ⟨f, rfl⟩ : ∃ z, f = z + 1 + 1 := ⟨f - 2, by omega⟩
      obtain ⟨m2, r1, r2, r3⟩ := rnd (fun m64 y63 => F_X11_walks_L24 (f + 1) m64 (nI p) v y63 (nI (n + 1))) n m1 (by omega) e1 h3
      have step : F_X11_walks_L24 (f + 1 + 1) m1 (nI p) v (nI 1) (nI n) = F_X11_walks_L24 (f + 1) m2 (nI p) v (bI (zany (zls D (n + 1)) 64)) (nI (n + 1)) := by
        rw [F_X11_walks_L24, if_neg (by decide), nI_1, show (0 : Int32) = nI 0 from rfl]
        exact r1
      rw [step]
      cases e2 : zany (zls D (n + 1)) 64 with
      | true => exact ih (n + 1) (f + 1) (by omega) (by omega) m2 r2 r3
      | false =>
        refine ⟨m2, by rw [F_X11_walks_L24, if_pos (show bI false = 0 from rfl)], r2, fun d hd => ?_⟩
        rw [r3 d hd]
        have h6 := zany_f.mp e2
        have st := zit_st (F := zXY (fun _ => true) (fun c => gQ G p c (gA1 G v))) (D0 := fun i => decide (i = a)) (zXY_cg (fun _ => true) (fun c => gQ G p c (gA1 G v))) (n := n) (fun c hc => by
          have h7 := h6 c hc
          have h7 : (D (n + 1) c && !D n c) = false := h7
          have h8 : D (n + 1) c = D n c := by
            cases e3 : D n c with
            | true => exact mo (n + 1) c n e3 (by omega)
            | false => rw [e3, Bool.not_false, Bool.and_true] at h7; exact h7
          rw [hD] at h8
          exact h8)
        have st2 : ∀ j, n ≤ j → D j d = D n d := fun j hj => by
          have := st (j - n) d hd
          rw [show n + (j - n) = j by omega] at this
          rw [hD]
          exact this
        unfold zlab
        cases e5 : zfi D d (n + 1) with
        | some j =>
          obtain ⟨a1, a2, a3⟩ := zfi_s e5
          have hj : j ≤ 63 := by
            by_cases e6 : j ≤ n
            · omega
            · exfalso
              rw [st2 j (by omega), a3 n (by omega)] at a2
              cases a2
          rw [zfi_of hj a2 a3]
        | none =>
          rw [zfi_no (fun j hj => ?_)]
          by_cases e6 : j ≤ n + 1
          · exact zfi_n e5 j e6
          · rw [st2 j (by omega)]; exact zfi_n e5 n (by omega)
  -- the start
  have ini : ∀ k i f, i + k = 64 → k < f → (∀ m1, zE [37] m m1 → (∀ d, d < i → m1.1 37 0 d = mI) → ∃ m2, F_X11_walks_L2 f m1 (nI p) v (nI i) = some m2 ∧ zE [37] m m2 ∧ ∀ d, d < 64 → m2.1 37 0 d = zlab D 63 d) := by
    refine zz_loop 64 (fun f => ?_) (fun f i hi ih => ?_)
    · intro m1 e1 h1
      obtain ⟨m2, a1, a2⟩ := all 64 0 ax_FU rfl (by decide) (ax_ui m1 37 0 a (nI 0)) (e1.ui (by decide)) (fun d hd => by
        unfold zlab zfi
        by_cases e2 : d = a
        · subst e2
          rw [zu_s, if_pos (by rw [hD]; exact decide_eq_true rfl)]
          rfl
        · rw [zu_j e2, h1 d hd, if_neg (by rw [hD]; intro z; exact e2 (of_decide_eq_true z))]
          rfl)
      refine ⟨m2, ?_, a2⟩
      have o1 : m1.1 24 0 p = nI a := by rw [(e1 24 (by decide)).1, haa]; exact hL.o hp
      rw [F_X11_walks_L2]
      simp (disch := omega) only [↓zl_m1, zz_leT, zz_leF, zz_ltT, zz_ltF, zz_eqT, zz_eqF, zz_okN, zz_okF, nI_clamp, nI_add, pk_mul, pk_sub, zz_bS, zz_b2S, if_true, if_false, Bool.true_eq_false, Bool.false_eq_true, eq_self, ne_eq, not_true_eq_false, not_false_eq_true, false_or, or_false, true_or, or_true, and_true, true_and, and_false, false_and, mI_e, mI_e2, mI_le, mI_le2, mI_lt, mI_lt2, mI_ok, bI_0n, bI_1n, bI_orn, Nat.mul_zero, Nat.zero_add, Nat.add_zero, c_no2, c_no3, c_no4, c_no5, c_no6, r_no2, r_no3, r_no4, r_no5, r_no6, zk_inR, zk_in2, zk_in3, zk_wiN, Nat.reduceAdd, ngI_e, ngI_le, ngI_m, cs_cmpN, zl_0, zl_1, zl_2, zl_3, zl_4, zl_5, zl_6, zl_7, zl_8, zl_9, zl_10, zl_12, zl_13, zl_14, zl_15, zl_16, zl_20, zl_32, zl_40, zl_48, zl_57, zl_59, zl_60, zl_63, zl_64, zl_97, zl_99, zl_101, zl_119, zl_120, zl_122, zl_128, zl_136, zl_152, zl_168, zl_184, zl_200, zl_201, zl_202, zl_203, zl_250, zl_255, zl_320, zl_999, zl_1000, o1]
      exact a1
    · intro m1 e1 h1
      obtain ⟨m2, a1, a2⟩ := ih (ax_ui m1 37 0 i mI) (e1.ui (by decide)) (fun d hd => by
        by_cases e2 : d = i
        · subst e2; exact zu_s
        · rw [zu_j e2]; exact h1 d (by omega))
      refine ⟨m2, ?_, a2⟩
      rw [F_X11_walks_L2]
      simp (disch := omega) only [↓zl_m1, zz_leT, zz_leF, zz_ltT, zz_ltF, zz_eqT, zz_eqF, zz_okN, zz_okF, nI_clamp, nI_add, pk_mul, pk_sub, zz_bS, zz_b2S, if_true, if_false, Bool.true_eq_false, Bool.false_eq_true, eq_self, ne_eq, not_true_eq_false, not_false_eq_true, false_or, or_false, true_or, or_true, and_true, true_and, and_false, false_and, mI_e, mI_e2, mI_le, mI_le2, mI_lt, mI_lt2, mI_ok, bI_0n, bI_1n, bI_orn, Nat.mul_zero, Nat.zero_add, Nat.add_zero, c_no2, c_no3, c_no4, c_no5, c_no6, r_no2, r_no3, r_no4, r_no5, r_no6, zk_inR, zk_in2, zk_in3, zk_wiN, Nat.reduceAdd, ngI_e, ngI_le, ngI_m, cs_cmpN, zl_0, zl_1, zl_2, zl_3, zl_4, zl_5, zl_6, zl_7, zl_8, zl_9, zl_10, zl_12, zl_13, zl_14, zl_15, zl_16, zl_20, zl_32, zl_40, zl_48, zl_57, zl_59, zl_60, zl_63, zl_64, zl_97, zl_99, zl_101, zl_119, zl_120, zl_122, zl_128, zl_136, zl_152, zl_168, zl_184, zl_200, zl_201, zl_202, zl_203, zl_250, zl_255, zl_320, zl_999, zl_1000]
      exact a1
  obtain ⟨m2, a1, a2, a3⟩ := ini 64 0 ax_FU rfl (by decide) m (zE.rf _ _) (fun d hd => by omega)
  refine ⟨m2, a1, a2, fun c hc => ?_⟩
  rw [a3 c hc, hD, haa]
  rfl
