/-! CALLS, sixth: bare, strike -/
def gPay (G : zG) (n : Nat) : zG := (fun f a => if f = 2 ∧ a < n then G.1 2 a - gDu G (a / 8) (a % 8) (gS G) else G.1 f a, G.2)
theorem gPay_D {G : zG} {n x y : Nat} (hy : y < 8) : gD (gPay G n) x y = if 8 * x + y < n then gD G x y - gDu G x y (gS G) else gD G x y := by
  show (if 2 = 2 ∧ 8 * x + y < n then G.1 2 (8 * x + y) - gDu G ((8 * x + y) / 8) ((8 * x + y) % 8) (gS G) else G.1 2 (8 * x + y)) = _
  rw [show (8 * x + y) / 8 = x by omega, show (8 * x + y) % 8 = y by omega]
  simp only [true_and]
  rfl
theorem gPay_f {G : zG} {n f a : Nat} (h : f ≠ 2) : (gPay G n).1 f a = G.1 f a := if_neg (fun z => h z.1)
theorem gPay_V {G : zG} (h : zV G) (n : Nat) : zV (gPay G n) := by
  refine ⟨h.p, h.s, fun q hq => h.o hq, fun q hq => h.w hq, fun x y hx hy => ?_, fun x y hx hy hz => ?_, fun i hi => ⟨h.k hi, h.a hi, h.c hi, h.r hi⟩, fun i hi => h.rp hi⟩
  · rw [gPay_D hy]
    have := h.d hx hy
    split <;> omega
  · rw [gPay_D hy]
    have := h.z hx hy hz
    split <;> omega
theorem gDu_cg {G G2 : zG} {x y : Nat} (h1 : gD G2 x y = gD G x y) (hf : ∀ i, gF G2 i y = gF G i y) (hn : ∀ i, gN G2 (gO G2 x) i = gN G (gO G x) i) (hp : ∀ i, gPr G2 i = gPr G i) : ∀ n, gDu G2 x y n = gDu G x y n
  | 0 => rfl
  | n + 1 => by rw [gDu, gDu, gDu_cg h1 hf hn hp n, h1, hf, hn, hp]
theorem gPay_du {G : zG} {x y : Nat} (hy : y < 8) : gDu (gPay G (8 * x + y)) x y (gS (gPay G (8 * x + y))) = gDu G x y (gS G) :=
  gDu_cg (G := G) (G2 := gPay G (8 * x + y)) (by rw [gPay_D hy, if_neg (by omega)]) (fun _ => rfl) (fun _ => rfl) (fun _ => rfl) _
theorem zgu_ex {G : zG} {f a v : Nat} {H : zG} (h1 : H.1 f a = v) (h2 : ∀ f2 a2, ¬ (f2 = f ∧ a2 = a) → H.1 f2 a2 = G.1 f2 a2) (h3 : H.2 = G.2) : zgu G f a v = H := by
  obtain ⟨H1, H2⟩ := H
  have h3 : H2 = G.2 := h3
  subst h3
  have : (fun f2 a2 => if f2 = f ∧ a2 = a then v else G.1 f2 a2) = H1 := by
    funext f2 a2
    by_cases e : f2 = f ∧ a2 = a
    · rw [if_pos e, e.1, e.2]; exact h1.symm
    · rw [if_neg e]; exact (h2 f2 a2 e).symm
  show ((fun f2 a2 => if f2 = f ∧ a2 = a then v else G.1 f2 a2), G.2) = (H1, G.2)
  rw [this]
theorem gPay_s {G : zG} {x y : Nat} (hy : y < 8) : zgu (gPay G (8 * x + y)) 2 (8 * x + y) (gD G x y - gDu G x y (gS G)) = gPay G (8 * x + y + 1) := by
  refine zgu_ex ?_ (fun f2 a2 h => ?_) rfl
  · have := gPay_D (G := G) (n := 8 * x + y + 1) (x := x) hy
    rw [if_pos (by omega)] at this
    exact this
  · by_cases e : f2 = 2
    · subst e
      have ha : a2 ≠ 8 * x + y := fun z => h ⟨rfl, z⟩
      show (if 2 = 2 ∧ a2 < 8 * x + y + 1 then _ else _) = (if 2 = 2 ∧ a2 < 8 * x + y then _ else _)
      by_cases e2 : a2 < 8 * x + y
      · rw [if_pos ⟨rfl, by omega⟩, if_pos ⟨rfl, e2⟩]
      · rw [if_neg (by omega), if_neg (by omega)]
    · rw [gPay_f e, gPay_f e]
theorem gPay_0 {G : zG} (hV : zV G) {n k : Nat} (h : ∀ a, n ≤ a → a < n + k → G.1 2 a = 0) : gPay G (n + k) = gPay G n := by
  have : (gPay G (n + k)).1 = (gPay G n).1 := by
    funext f a
    show (if f = 2 ∧ a < n + k then _ else _) = (if f = 2 ∧ a < n then _ else _)
    by_cases e : f = 2 ∧ a < n
    · rw [if_pos e, if_pos (by omega)]
    · rw [if_neg e]
      by_cases e2 : f = 2 ∧ a < n + k
      · rw [if_pos e2, e2.1, h a (by omega) e2.2, Nat.zero_sub]
      · rw [if_neg e2]
  exact Prod.ext this rfl
def gAd (G : zG) (p : Nat) : Nat := zs (fun y => gDu G p y (gS G)) 8
def gNr (G : zG) (p : Nat) : Bool := zany (fun i => gN G (gO G p) i && decide (gK G i = 4)) (gS G)
def gSt (G : zG) (p : Nat) : Bool := decide (gAd G p < gOw G p) && gNr G p
theorem gAd_p {G : zG} (hV : zV G) {p : Nat} (hp : p < 8) : zs (fun y => gDu G p y (gS G)) (gP G) = gAd G p := zs_to hV.p (fun j h1 h2 => gDu_self hV hp h2 (hV.z hp h2 (.inr (.inl h1))) _ hV.s)
theorem gAd_le {G : zG} (hV : zV G) {p : Nat} (hp : p < 8) : gAd G p ≤ 7992 := zs_le 8 (fun j hj => Nat.le_trans (gDu_le hV hp hj _ hV.s) (hV.d hp hj))
/-- after all is paid: who keeps something up -/
theorem gPay_ow {G : zG} (hV : zV G) {p : Nat} (hp : p < 8) : gOw (gPay G 64) p + gAd G p = gOw G p := by
  unfold gOw gAd
  rw [← zs_add]
  refine zs_congr (fun y hy => ?_)
  have := gDu_le hV hp hy _ hV.s
  rw [gPay_D hy, if_pos (by omega)]
  omega
theorem gDu_ge {G : zG} {x y i : Nat} (h : (gF G i y && gN G (gO G x) i) = true) : ∀ n, i < n → gD G x y + 1 - gPr G i ≤ gDu G x y n
  | 0, hi => by omega
  | n + 1, hi => by
    rw [gDu]
    by_cases e : i = n
    · subst e; rw [if_pos h]; exact Nat.le_max_right _ _
    · have := gDu_ge h n (by omega)
      split
      · exact Nat.le_trans this (Nat.le_max_left _ _)
      · exact this
theorem gPay_up {G : zG} (hV : zV G) {p i : Nat} (hp : p < gP G) (hi : i < gS G) : gUp (gPay G 64) i p = (gN G (gO G p) i && (decide (gK G i = 4) && decide (gAd G p < gOw G p))) := by
  have hP := hV.p
  have hS := hV.s
  have hp8 : p < 8 := by omega
  have hr := hV.r (show i < 16 by omega)
  have hb := gPr_b hV (show i < 16 by omega)
  show (gN G (gO G p) i && (if gK G i = 4 then decide (0 < gOw (gPay G 64) p) else decide (gPr G i ≤ gD (gPay G 64) p (gR G i)))) = _
  cases e : gN G (gO G p) i with
  | false => rfl
  | true =>
    rw [Bool.true_and, Bool.true_and]
    by_cases e2 : gK G i = 4
    · rw [if_pos e2, decide_eq_true e2, Bool.true_and]
      have := gPay_ow hV hp8
      exact decide_eq_decide.mpr (by omega)
    · rw [if_neg e2, decide_eq_false e2, Bool.false_and]
      refine decide_eq_false ?_
      have h1 := gDu_ge (G := G) (x := p) (y := gR G i) (i := i) (by unfold gF; rw [decide_eq_true rfl, decide_eq_false e2, e]; rfl) (gS G) hi
      rw [gPay_D hr, if_pos (by omega)]
      omega
theorem gPay_any {G : zG} (hV : zV G) : zany (fun i => zany (gUp (gPay G 64) i) (gP G)) (gS G) = zany (gSt G) (gP G) := by
  cases e : zany (gSt G) (gP G) with
  | true =>
    obtain ⟨p, hp, h⟩ := zany_t.mp e
    unfold gSt at h
    rw [Bool.and_eq_true] at h
    obtain ⟨i, hi, h2⟩ := zany_t.mp h.2
    rw [Bool.and_eq_true] at h2
    exact zany_t.mpr ⟨i, hi, zany_t.mpr ⟨p, hp, by rw [gPay_up hV hp hi, h2.1, h2.2, h.1]; rfl⟩⟩
  | false =>
    refine zany_f.mpr (fun i hi => zany_f.mpr (fun p hp => ?_))
    have h := zany_f.mp e p hp
    rw [gPay_up hV hp hi]
    unfold gSt at h
    cases e1 : gN G (gO G p) i with
    | false => rfl
    | true =>
      cases e2 : decide (gK G i = 4) with
      | false => rfl
      | true =>
        rw [show gNr G p = true from zany_t.mpr ⟨i, hi, by show (gN G (gO G p) i && decide (gK G i = 4)) = true; rw [e1, e2]; rfl⟩, Bool.and_true] at h
        rw [h]; rfl
def gBare (G : zG) : Int32 := if zany (gSt G) (gP G) = true then mI else nI (zs (gAd G) (gP G))
theorem c_allDue {m : ax_M} {g : Nat} {G : zG} (h : zC m g G) (hV : zV G) {p : Nat} (hp : p < 8) : F_X3_allDueOf m g (nI p) = some (nI (gAd G p)) := by
  have hP := hV.p
  have key : ∀ k i n, i + k = gP G → k < n → F_X3_allDueOf_L4 n m g (nI p) (nI (zs (fun y => gDu G p y (gS G)) i)) (nI i) = some (nI (zs (fun y => gDu G p y (gS G)) (gP G))) := by
    refine zz_loop (gP G) (fun n => ?_) (fun n i hi ih => ?_)
    · rw [F_X3_allDueOf_L4, h.p, if_pos (Int32.le_refl _)]
    · rw [F_X3_allDueOf_L4]
      simp (disch := omega) only [↓zl_m1, zz_leT, zz_leF, zz_ltT, zz_ltF, zz_eqT, zz_eqF, zz_okN, zz_okF, nI_clamp, nI_add, pk_mul, pk_sub, zz_bS, zz_b2S, if_true, if_false, Bool.true_eq_false, Bool.false_eq_true, eq_self, ne_eq, not_true_eq_false, not_false_eq_true, false_or, or_false, true_or, or_true, and_true, true_and, and_false, false_and, mI_e, mI_e2, mI_le, mI_le2, mI_lt, mI_lt2, mI_ok, bI_0n, bI_1n, bI_orn, Nat.mul_zero, Nat.zero_add, Nat.add_zero, c_no2, c_no3, c_no4, c_no5, c_no6, r_no2, r_no3, r_no4, r_no5, r_no6, zk_inR, zk_in2, zk_in3, zk_wiN, Nat.reduceAdd, zl_0, zl_1, zl_2, zl_3, zl_4, zl_5, zl_6, zl_7, zl_8, zl_9, zl_10, zl_12, zl_13, zl_14, zl_15, zl_16, zl_20, zl_32, zl_40, zl_48, zl_57, zl_59, zl_60, zl_63, zl_64, zl_97, zl_99, zl_101, zl_119, zl_120, zl_122, zl_128, zl_136, zl_152, zl_168, zl_184, zl_200, zl_201, zl_202, zl_203, zl_250, zl_255, zl_320, zl_999, zl_1000, h.p, c_dueOf h hV hp (show i < 8 by omega)]
      exact ih
  have k2 := key (gP G) 0 ax_FU (by omega) (by unfold ax_FU; omega)
  rw [gAd_p hV hp] at k2
  exact k2
theorem c_nearRank {m : ax_M} {g : Nat} {G : zG} (h : zC m g G) (hV : zV G) {p : Nat} (hp : p < 8) : F_X3_isNearRank m g (nI p) = some (bI (gNr G p)) := by
  have hs := hV.s
  have key : ∀ k i n, i + k = gS G → k < n → (zany (fun i => gN G (gO G p) i && decide (gK G i = 4)) i = false → F_X3_isNearRank_L11 n m g (zm (fun i => true && gN G (gO G p) i) (gS G)) (nI i) = some (bI (gNr G p))) := by
    refine zz_loop (gS G) (fun n => ?_) (fun n i hi ih => ?_)
    · intro h0; rw [F_X3_isNearRank_L11, h.s, if_pos (Int32.le_refl _)]; unfold gNr; rw [h0]; rfl
    · intro h0
      have hk := hV.k (show i < 16 by omega)
      rw [F_X3_isNearRank_L11]
      by_cases e : gK G i = 4
      · simp (disch := omega) only [↓zl_m1, zz_leT, zz_leF, zz_ltT, zz_ltF, zz_eqT, zz_eqF, zz_okN, zz_okF, nI_clamp, nI_add, pk_mul, pk_sub, zz_bS, zz_b2S, if_true, if_false, Bool.true_eq_false, Bool.false_eq_true, eq_self, ne_eq, not_true_eq_false, not_false_eq_true, false_or, or_false, true_or, or_true, and_true, true_and, and_false, false_and, mI_e, mI_e2, mI_le, mI_le2, mI_lt, mI_lt2, mI_ok, bI_0n, bI_1n, bI_orn, Nat.mul_zero, Nat.zero_add, Nat.add_zero, c_no2, c_no3, c_no4, c_no5, c_no6, r_no2, r_no3, r_no4, r_no5, r_no6, zk_inR, zk_in2, zk_in3, zk_wiN, Nat.reduceAdd, zl_0, zl_1, zl_2, zl_3, zl_4, zl_5, zl_6, zl_7, zl_8, zl_9, zl_10, zl_12, zl_13, zl_14, zl_15, zl_16, zl_20, zl_32, zl_40, zl_48, zl_57, zl_59, zl_60, zl_63, zl_64, zl_97, zl_99, zl_101, zl_119, zl_120, zl_122, zl_128, zl_136, zl_152, zl_168, zl_184, zl_200, zl_201, zl_202, zl_203, zl_250, zl_255, zl_320, zl_999, zl_1000, h.s, h.k (show i < 16 by omega), e, zm_u (show gS G ≤ 32 by omega) hi, Bool.true_and]
        cases e2 : gN G (gO G p) i with
        | false =>
          rw [if_pos rfl]
          exact ih (by rw [zany, h0]; show (false || (gN G (gO G p) i && decide (gK G i = 4))) = false; rw [e2]; rfl)
        | true =>
          rw [if_neg (by decide)]
          unfold gNr
          rw [zany_t.mpr ⟨i, hi, by show (gN G (gO G p) i && decide (gK G i = 4)) = true; rw [e2, decide_eq_true e]; rfl⟩]
          rfl
      · simp (disch := omega) only [↓zl_m1, zz_leT, zz_leF, zz_ltT, zz_ltF, zz_eqT, zz_eqF, zz_okN, zz_okF, nI_clamp, nI_add, pk_mul, pk_sub, zz_bS, zz_b2S, if_true, if_false, Bool.true_eq_false, Bool.false_eq_true, eq_self, ne_eq, not_true_eq_false, not_false_eq_true, false_or, or_false, true_or, or_true, and_true, true_and, and_false, false_and, mI_e, mI_e2, mI_le, mI_le2, mI_lt, mI_lt2, mI_ok, bI_0n, bI_1n, bI_orn, Nat.mul_zero, Nat.zero_add, Nat.add_zero, c_no2, c_no3, c_no4, c_no5, c_no6, r_no2, r_no3, r_no4, r_no5, r_no6, zk_inR, zk_in2, zk_in3, zk_wiN, Nat.reduceAdd, zl_0, zl_1, zl_2, zl_3, zl_4, zl_5, zl_6, zl_7, zl_8, zl_9, zl_10, zl_12, zl_13, zl_14, zl_15, zl_16, zl_20, zl_32, zl_40, zl_48, zl_57, zl_59, zl_60, zl_63, zl_64, zl_97, zl_99, zl_101, zl_119, zl_120, zl_122, zl_128, zl_136, zl_152, zl_168, zl_184, zl_200, zl_201, zl_202, zl_203, zl_250, zl_255, zl_320, zl_999, zl_1000, h.s, h.k (show i < 16 by omega), e]
        exact ih (by rw [zany, h0]; show (false || (gN G (gO G p) i && decide (gK G i = 4))) = false; rw [decide_eq_false e, Bool.and_false]; rfl)
  unfold F_X3_isNearRank
  simp (disch := omega) only [↓zl_m1, zz_leT, zz_leF, zz_ltT, zz_ltF, zz_eqT, zz_eqF, zz_okN, zz_okF, nI_clamp, nI_add, pk_mul, pk_sub, zz_bS, zz_b2S, if_true, if_false, Bool.true_eq_false, Bool.false_eq_true, eq_self, ne_eq, not_true_eq_false, not_false_eq_true, false_or, or_false, true_or, or_true, and_true, true_and, and_false, false_and, mI_e, mI_e2, mI_le, mI_le2, mI_lt, mI_lt2, mI_ok, bI_0n, bI_1n, bI_orn, Nat.mul_zero, Nat.zero_add, Nat.add_zero, c_no2, c_no3, c_no4, c_no5, c_no6, r_no2, r_no3, r_no4, r_no5, r_no6, zk_inR, zk_in2, zk_in3, zk_wiN, Nat.reduceAdd, zl_0, zl_1, zl_2, zl_3, zl_4, zl_5, zl_6, zl_7, zl_8, zl_9, zl_10, zl_12, zl_13, zl_14, zl_15, zl_16, zl_20, zl_32, zl_40, zl_48, zl_57, zl_59, zl_60, zl_63, zl_64, zl_97, zl_99, zl_101, zl_119, zl_120, zl_122, zl_128, zl_136, zl_152, zl_168, zl_184, zl_200, zl_201, zl_202, zl_203, zl_250, zl_255, zl_320, zl_999, zl_1000, c_allSeeds h hV, h.o hp, c_near h hV (hV.o hp)]
  exact key (gS G) 0 ax_FU (by omega) (by unfold ax_FU; omega) rfl
theorem c_bare {m : ax_M} {G : zG} (hC : zC m 0 G) (hV : zV G) : F_X10_bare m = some (gBare G) := by
  have hP := hV.p
  have sb : ∀ i, i ≤ 8 → zs (gAd G) i ≤ i * 7992 := fun i hi => zs_le i (fun j hj => gAd_le hV (by omega))
  have key : ∀ k i n, i + k = gP G → k < n → (zany (gSt G) i = false → F_X10_bare_L4 n m (nI (zs (gAd G) i)) (nI i) = some (gBare G)) := by
    refine zz_loop (gP G) (fun n => ?_) (fun n i hi ih => ?_)
    · intro h0
      rw [F_X10_bare_L4, hC.p, if_pos (Int32.le_refl _)]
      unfold gBare
      rw [h0, if_neg (by decide)]
    · intro h0
      have hi8 : i < 8 := by omega
      have a1 := gAd_le hV hi8
      have a2 := gOw_le hV hi8
      have a3 := sb i (by omega)
      have go : gSt G i = false → F_X10_bare_L4 n m (nI (zs (gAd G) i + gAd G i)) (nI (i + 1)) = some (gBare G) := fun hz => ih (by rw [zany, h0, hz]; rfl)
      rw [F_X10_bare_L4]
      by_cases e : gOw G i ≤ gAd G i
      · simp (disch := omega) only [↓zl_m1, zz_leT, zz_leF, zz_ltT, zz_ltF, zz_eqT, zz_eqF, zz_okN, zz_okF, nI_clamp, nI_add, pk_mul, pk_sub, zz_bS, zz_b2S, if_true, if_false, Bool.true_eq_false, Bool.false_eq_true, eq_self, ne_eq, not_true_eq_false, not_false_eq_true, false_or, or_false, true_or, or_true, and_true, true_and, and_false, false_and, mI_e, mI_e2, mI_le, mI_le2, mI_lt, mI_lt2, mI_ok, bI_0n, bI_1n, bI_orn, Nat.mul_zero, Nat.zero_add, Nat.add_zero, c_no2, c_no3, c_no4, c_no5, c_no6, r_no2, r_no3, r_no4, r_no5, r_no6, zk_inR, zk_in2, zk_in3, zk_wiN, Nat.reduceAdd, zl_0, zl_1, zl_2, zl_3, zl_4, zl_5, zl_6, zl_7, zl_8, zl_9, zl_10, zl_12, zl_13, zl_14, zl_15, zl_16, zl_20, zl_32, zl_40, zl_48, zl_57, zl_59, zl_60, zl_63, zl_64, zl_97, zl_99, zl_101, zl_119, zl_120, zl_122, zl_128, zl_136, zl_152, zl_168, zl_184, zl_200, zl_201, zl_202, zl_203, zl_250, zl_255, zl_320, zl_999, zl_1000, hC.p, c_allDue hC hV hi8, c_owedBy hC hi8]
        exact go (by unfold gSt; rw [decide_eq_false (by omega)]; rfl)
      · simp (disch := omega) only [↓zl_m1, zz_leT, zz_leF, zz_ltT, zz_ltF, zz_eqT, zz_eqF, zz_okN, zz_okF, nI_clamp, nI_add, pk_mul, pk_sub, zz_bS, zz_b2S, if_true, if_false, Bool.true_eq_false, Bool.false_eq_true, eq_self, ne_eq, not_true_eq_false, not_false_eq_true, false_or, or_false, true_or, or_true, and_true, true_and, and_false, false_and, mI_e, mI_e2, mI_le, mI_le2, mI_lt, mI_lt2, mI_ok, bI_0n, bI_1n, bI_orn, Nat.mul_zero, Nat.zero_add, Nat.add_zero, c_no2, c_no3, c_no4, c_no5, c_no6, r_no2, r_no3, r_no4, r_no5, r_no6, zk_inR, zk_in2, zk_in3, zk_wiN, Nat.reduceAdd, zl_0, zl_1, zl_2, zl_3, zl_4, zl_5, zl_6, zl_7, zl_8, zl_9, zl_10, zl_12, zl_13, zl_14, zl_15, zl_16, zl_20, zl_32, zl_40, zl_48, zl_57, zl_59, zl_60, zl_63, zl_64, zl_97, zl_99, zl_101, zl_119, zl_120, zl_122, zl_128, zl_136, zl_152, zl_168, zl_184, zl_200, zl_201, zl_202, zl_203, zl_250, zl_255, zl_320, zl_999, zl_1000, hC.p, c_allDue hC hV hi8, c_owedBy hC hi8, c_nearRank hC hV hi8]
        cases e2 : gNr G i with
        | false =>
          rw [if_pos rfl]
          exact go (by unfold gSt; rw [e2, Bool.and_false])
        | true =>
          rw [if_neg (by decide)]
          unfold gBare
          rw [if_pos (zany_t.mpr ⟨i, hi, by unfold gSt; rw [e2, decide_eq_true (by omega)]; rfl⟩)]
  exact key (gP G) 0 ax_FU (by omega) (by unfold ax_FU; omega) rfl
theorem zLo.lt {m m1 : ax_M} {G : zG} (h : zLo m m1 G) : zE [22, 23, 24, 25, 26, 27, 28, 29] m m1 := h.2.1
theorem r_bare {m : ax_M} {G : zG} (hL : zL m G) (hV : zV G) : ∃ m2, F_X11_bare m = some (gBare G, m2) ∧ zL m2 G ∧ zE [22, 23, 24, 25, 26, 27, 28, 29, 36] m m2 ∧ (∀ j, j ∉ [1, 4, 9] → m2.1 22 0 j = m.1 22 0 j) := by
  have hP := hV.p
  have hS := hV.s
  obtain ⟨m0, k1, k2, k3⟩ := r_keep36 hL
  have hL0 : zL m0 G := hL.E k3 (by decide)
  have inn : ∀ (K : ax_M → Int32 → Option (Int32 × ax_M)) (a x : Nat) (m1 : ax_M), x < gP G → zLo m0 m1 (gPay G (8 * x)) → ∃ m2, F_X11_bare_L14 ax_FU K m1 (nI a) (nI x) (nI 0) = K m2 (nI (a + gAd G x)) ∧ zLo m0 m2 (gPay G (8 * (x + 1))) := by
    intro K a x m1 hx h1
    have key : ∀ k i n, i + k = gP G → k < n → (∀ m1, zLo m0 m1 (gPay G (8 * x + i)) → ∃ m2, F_X11_bare_L14 n K m1 (nI (a + zs (fun y => gDu G x y (gS G)) i)) (nI x) (nI i) = K m2 (nI (a + gAd G x)) ∧ zLo m0 m2 (gPay G (8 * (x + 1)))) := by
      refine zz_loop (gP G) (fun n => ?_) (fun n i hi ih => ?_)
      · intro m1 h1
        refine ⟨m1, ?_, ?_⟩
        · rw [F_X11_bare_L14, show m1.1 22 0 1 = nI (gP G) from h1.1.p, if_pos (Int32.le_refl _), gAd_p hV (by omega)]
        · have := gPay_0 hV (n := 8 * x + gP G) (k := 8 - gP G) (fun b h2 h3 => by
            have := hV.z (x := x) (y := b - 8 * x) (by omega) (by omega) (.inr (.inl (by omega)))
            unfold gD at this
            rw [show 8 * x + (b - 8 * x) = b by omega] at this
            exact this)
          rw [show 8 * x + gP G + (8 - gP G) = 8 * (x + 1) by omega] at this
          rw [this]
          exact h1
      · intro m1 h1
        have hx8 : x < 8 := by omega
        have hi8 : i < 8 := by omega
        have hd := gDu_le hV hx8 hi8 (gS G) hS
        have hV1 := gPay_V hV (8 * x + i)
        have e0 : gD (gPay G (8 * x + i)) x i = gD G x i := by rw [gPay_D hi8, if_neg (by omega)]
        have e1 := lo_d h1.1 hx8 hi8 (gD G x i - gDu G x i (gS G))
        rw [gPay_s hi8] at e1
        obtain ⟨m2, i1, i2⟩ := ih _ (h1.tr e1)
        refine ⟨m2, ?_, i2⟩
        rw [zs, ← Nat.add_assoc] at i1
        rw [F_X11_bare_L14]
        have q2 := h1.1.d hx8 hi8
        have q3 : F_X11_dueOf m1 (nI x) (nI i) = some (nI (gDu G x i (gS G))) := by
          have := r_dueOf h1.1 hV1 hx8 hi8
          rw [gPay_du hi8] at this
          exact this
        rw [e0] at q2
        have q1 : m1.1 22 0 1 = nI (gP G) := h1.1.p
        by_cases ex : x = i
        · have z0 : gDu G x i (gS G) = 0 := gDu_self hV hx8 hi8 (hV.z hx8 hi8 (.inr (.inr ex))) _ hS
          rw [z0] at i1
          subst ex
          simp (disch := omega) only [↓zl_m1, zz_leT, zz_leF, zz_ltT, zz_ltF, zz_eqT, zz_eqF, zz_okN, zz_okF, nI_clamp, nI_add, pk_mul, pk_sub, zz_bS, zz_b2S, if_true, if_false, Bool.true_eq_false, Bool.false_eq_true, eq_self, ne_eq, not_true_eq_false, not_false_eq_true, false_or, or_false, true_or, or_true, and_true, true_and, and_false, false_and, mI_e, mI_e2, mI_le, mI_le2, mI_lt, mI_lt2, mI_ok, bI_0n, bI_1n, bI_orn, Nat.mul_zero, Nat.zero_add, Nat.add_zero, c_no2, c_no3, c_no4, c_no5, c_no6, r_no2, r_no3, r_no4, r_no5, r_no6, zk_inR, zk_in2, zk_in3, zk_wiN, Nat.reduceAdd, zl_0, zl_1, zl_2, zl_3, zl_4, zl_5, zl_6, zl_7, zl_8, zl_9, zl_10, zl_12, zl_13, zl_14, zl_15, zl_16, zl_20, zl_32, zl_40, zl_48, zl_57, zl_59, zl_60, zl_63, zl_64, zl_97, zl_99, zl_101, zl_119, zl_120, zl_122, zl_128, zl_136, zl_152, zl_168, zl_184, zl_200, zl_201, zl_202, zl_203, zl_250, zl_255, zl_320, zl_999, zl_1000, q1, q2]
          exact i1
        · simp (disch := omega) only [↓zl_m1, zz_leT, zz_leF, zz_ltT, zz_ltF, zz_eqT, zz_eqF, zz_okN, zz_okF, nI_clamp, nI_add, pk_mul, pk_sub, zz_bS, zz_b2S, if_true, if_false, Bool.true_eq_false, Bool.false_eq_true, eq_self, ne_eq, not_true_eq_false, not_false_eq_true, false_or, or_false, true_or, or_true, and_true, true_and, and_false, false_and, mI_e, mI_e2, mI_le, mI_le2, mI_lt, mI_lt2, mI_ok, bI_0n, bI_1n, bI_orn, Nat.mul_zero, Nat.zero_add, Nat.add_zero, c_no2, c_no3, c_no4, c_no5, c_no6, r_no2, r_no3, r_no4, r_no5, r_no6, zk_inR, zk_in2, zk_in3, zk_wiN, Nat.reduceAdd, zl_0, zl_1, zl_2, zl_3, zl_4, zl_5, zl_6, zl_7, zl_8, zl_9, zl_10, zl_12, zl_13, zl_14, zl_15, zl_16, zl_20, zl_32, zl_40, zl_48, zl_57, zl_59, zl_60, zl_63, zl_64, zl_97, zl_99, zl_101, zl_119, zl_120, zl_122, zl_128, zl_136, zl_152, zl_168, zl_184, zl_200, zl_201, zl_202, zl_203, zl_250, zl_255, zl_320, zl_999, zl_1000, q1, q2, q3]
          exact i1
    exact key (gP G) 0 ax_FU (by omega) (by unfold ax_FU; omega) m1 h1
  have key : ∀ k i n, i + k = gP G → k < n → (∀ m1, zLo m0 m1 (gPay G (8 * i)) → ∃ m2, F_X11_bare_L8 n m1 (nI (zs (gAd G) i)) (nI i) = some (gBare G, m2) ∧ zLo m0 m2 G) := by
    refine zz_loop (gP G) (fun n => ?_) (fun n i hi ih => ?_)
    · intro m1 h1
      have hV1 := gPay_V hV 64
      have e64 : gPay G 64 = gPay G (8 * gP G) := by
        have := gPay_0 hV (n := 8 * gP G) (k := 64 - 8 * gP G) (fun b h2 h3 => by
          have := hV.z (x := b / 8) (y := b % 8) (by omega) (by omega) (.inl (by omega))
          unfold gD at this
          rw [show 8 * (b / 8) + b % 8 = b by omega] at this
          exact this)
        rw [show 8 * gP G + (64 - 8 * gP G) = 64 by omega] at this
        exact this
      rw [← e64] at h1
      obtain ⟨m2, a1, a2⟩ := r_again36 (k2.E h1.2.1 (by decide))
      refine ⟨m2, ?_, h1.tr a2⟩
      have up := r_upAll h1.1 hV1
      have up2 : F_X11_upOf m1 mI = some (zm (fun i => zany (gUp (gPay G 64) i) (gP G)) (gS G)) := up
      rw [F_X11_bare_L8]
      have q1 : m1.1 22 0 1 = nI (gP G) := h1.1.p
      simp (disch := omega) only [↓zl_m1, zz_leT, zz_leF, zz_ltT, zz_ltF, zz_eqT, zz_eqF, zz_okN, zz_okF, nI_clamp, nI_add, pk_mul, pk_sub, zz_bS, zz_b2S, if_true, if_false, Bool.true_eq_false, Bool.false_eq_true, eq_self, ne_eq, not_true_eq_false, not_false_eq_true, false_or, or_false, true_or, or_true, and_true, true_and, and_false, false_and, mI_e, mI_e2, mI_le, mI_le2, mI_lt, mI_lt2, mI_ok, bI_0n, bI_1n, bI_orn, Nat.mul_zero, Nat.zero_add, Nat.add_zero, c_no2, c_no3, c_no4, c_no5, c_no6, r_no2, r_no3, r_no4, r_no5, r_no6, zk_inR, zk_in2, zk_in3, zk_wiN, Nat.reduceAdd, zl_0, zl_1, zl_2, zl_3, zl_4, zl_5, zl_6, zl_7, zl_8, zl_9, zl_10, zl_12, zl_13, zl_14, zl_15, zl_16, zl_20, zl_32, zl_40, zl_48, zl_57, zl_59, zl_60, zl_63, zl_64, zl_97, zl_99, zl_101, zl_119, zl_120, zl_122, zl_128, zl_136, zl_152, zl_168, zl_184, zl_200, zl_201, zl_202, zl_203, zl_250, zl_255, zl_320, zl_999, zl_1000, q1, up2, zm_any (show gS G ≤ 32 by omega), a1]
      rw [gPay_any hV]
      unfold gBare
      cases zany (gSt G) (gP G) with
      | false => rw [if_pos rfl, if_neg (by decide)]
      | true => rw [if_neg (by decide), if_pos rfl]
    · intro m1 h1
      have q1 : m1.1 22 0 1 = nI (gP G) := h1.1.p
      obtain ⟨m3, i1, i2⟩ := inn (fun m56 y55 => F_X11_bare_L8 n m56 y55 (nI i + 1)) (zs (gAd G) i) i m1 hi h1
      obtain ⟨m2, j1, j2⟩ := ih m3 i2
      refine ⟨m2, ?_, j2⟩
      rw [F_X11_bare_L8, q1, if_neg (by rw [zz_le (by omega) (by omega)]; omega)]
      refine i1.trans ?_
      rw [nI_1]
      exact j1
  have hL00 : zLo m0 m0 (gPay G (8 * 0)) := by
    have : gPay G (8 * 0) = G := Prod.ext (by funext f a; exact if_neg (by omega)) rfl
    rw [this]
    exact ⟨hL0, zE.rf _ _, fun _ _ => rfl⟩
  obtain ⟨m2, b1, b2⟩ := key (gP G) 0 ax_FU (by omega) (by unfold ax_FU; omega) m0 hL00
  refine ⟨m2, ?_, b2.1, (k3.mo (by decide)).tr (b2.2.1.mo (by decide)), fun j hj => ?_⟩
  · unfold F_X11_bare
    rw [k1, zz_bS]
    exact b1
  · rw [b2.2.2 j hj, (k3 22 (by decide)).1]
theorem t_bare : zT (zpu F_X10_bare) F_X11_bare := zT_of (fun m G h => by
  obtain ⟨hV, hC, hL, -⟩ := id h
  obtain ⟨m2, e1, e2, e3, e4⟩ := r_bare hL hV
  refine ⟨gBare G, m, m2, ?_, e1, G, ?_⟩
  · unfold zpu; rw [c_bare hC hV, zz_bS]
  · exact h.ch hV (e3.mo (by decide)) (e4 10 (by decide)) (e4 20 (by decide)) (hC.E e3 (by decide)) e2 (fun K hK => hK.E e3 (by decide)) (Nat.le_refl _))
