/-! CALLS, eighth: strike, status, step, tape -/
def gSk (G : zG) (n : Nat → Nat → Bool) : zG := (fun f a => if f = 2 ∧ n (a / 8) (a % 8) = true then G.1 2 a - gMi G (a / 8) (a % 8) else G.1 f a, G.2)
theorem gSk_D {G : zG} {n : Nat → Nat → Bool} {x y : Nat} (hy : y < 8) : gD (gSk G n) x y = if n x y = true then gD G x y - gMi G x y else gD G x y := by
  show (if 2 = 2 ∧ n ((8 * x + y) / 8) ((8 * x + y) % 8) = true then G.1 2 (8 * x + y) - gMi G ((8 * x + y) / 8) ((8 * x + y) % 8) else G.1 2 (8 * x + y)) = _
  rw [show (8 * x + y) / 8 = x by omega, show (8 * x + y) % 8 = y by omega]
  simp only [true_and]
  rfl
theorem gSk_V {G : zG} (h : zV G) (n : Nat → Nat → Bool) : zV (gSk G n) := by
  refine ⟨h.p, h.s, fun q hq => h.o hq, fun q hq => h.w hq, fun x y hx hy => ?_, fun x y hx hy hz => ?_, fun i hi => ⟨h.k hi, h.a hi, h.c hi, h.r hi⟩, fun i hi => h.rp hi⟩
  · rw [gSk_D hy]
    have := h.d hx hy
    split <;> omega
  · rw [gSk_D hy]
    have := h.z hx hy hz
    split <;> omega
/-- the same where anybody looks -/
def zGe (G G2 : zG) : Prop := (∀ f a, f < 7 → a < zlen f → G.1 f a = G2.1 f a) ∧ (∀ c, c < 64 → gW G c = gW G2 c) ∧ gZ G = gZ G2
theorem zC.cg {m : ax_M} {g : Nat} {G G2 : zG} (h : zC m g G) (e : zGe G G2) : zC m g G2 := by
  obtain ⟨h1, h2, h3⟩ := zC_f.mp h
  exact zC_f.mpr ⟨fun f a hf ha => by rw [← e.1 f a hf ha]; exact h1 f a hf ha, h2.trans e.2.2, h3.trans (lb_congr e.2.1)⟩
theorem zL.cg {m : ax_M} {G G2 : zG} (h : zL m G) (e : zGe G G2) : zL m G2 := by
  obtain ⟨h1, h2, h3⟩ := zL_f.mp h
  exact zL_f.mpr ⟨fun f a hf ha => by rw [← e.1 f a hf ha]; exact h1 f a hf ha, h2.trans e.2.2, fun c hc => by rw [← e.2.1 c hc]; exact h3 c hc⟩
theorem zGo.cg {m m1 : ax_M} {g : Nat} {G G2 : zG} (h : zGo m m1 g G) (e : zGe G G2) : zGo m m1 g G2 := ⟨h.1.cg e, h.2⟩
theorem zLo.cg {m m1 : ax_M} {G G2 : zG} (h : zLo m m1 G) (e : zGe G G2) : zLo m m1 G2 := ⟨h.1.cg e, h.2⟩
theorem gSk_ge {G : zG} (hV : zV G) {n n2 : Nat → Nat → Bool} (h : ∀ x y, x < gP G → y < gP G → x ≠ y → n x y = n2 x y) : zGe (gSk G n) (gSk G n2) := by
  refine ⟨fun f a hf ha => ?_, fun _ _ => rfl, rfl⟩
  show (if f = 2 ∧ n (a / 8) (a % 8) = true then _ else _) = (if f = 2 ∧ n2 (a / 8) (a % 8) = true then _ else _)
  by_cases e : f = 2
  · subst e
    have ha : a < 64 := ha
    by_cases e2 : a / 8 < gP G ∧ a % 8 < gP G ∧ a / 8 ≠ a % 8
    · rw [h _ _ e2.1 e2.2.1 e2.2.2]
    · have e3 := hV.z (x := a / 8) (y := a % 8) (by omega) (by omega) (by omega)
      unfold gD at e3
      rw [show 8 * (a / 8) + a % 8 = a by omega] at e3
      rw [e3, Nat.zero_sub]
      split <;> split <;> rfl
  · rw [if_neg (fun z => e z.1), if_neg (fun z => e z.1)]
theorem gMi_b (G : zG) (x y : Nat) : gMi G x y ≤ gD G x y ∧ gMi G x y ≤ gD G y x := ⟨Nat.min_le_left _ _, Nat.min_le_right _ _⟩
/-- one pair struck out -/
theorem gSk_s {G : zG} {n n2 : Nat → Nat → Bool} {x y : Nat} (hx : x < 8) (hy : y < 8) (hxy : x ≠ y) (h1 : n x y = false) (h2 : n y x = false) (h3 : ∀ a b, b < 8 → n2 a b = (n a b || (decide (a = x) && decide (b = y)) || (decide (a = y) && decide (b = x)))) : zgu (zgu (gSk G n) 2 (8 * x + y) (gD G x y - gMi G x y)) 2 (8 * y + x) (gD G y x - gMi G x y) = gSk G n2 := by
  refine zgu_ex ?_ (fun f a hz => ?_) rfl
  · have := gSk_D (G := G) (n := n2) (x := y) (y := x) hx
    rw [if_pos (by rw [h3 _ _ hx, decide_eq_true (show y = y from rfl), decide_eq_true (show x = x from rfl)]; simp)] at this
    rw [gMi_c G x y]
    exact this
  · show (if f = 2 ∧ n2 (a / 8) (a % 8) = true then _ else _) = (if f = 2 ∧ a = 8 * x + y then _ else if f = 2 ∧ n (a / 8) (a % 8) = true then _ else _)
    by_cases e : f = 2
    · subst e
      have ha : a ≠ 8 * y + x := fun z => hz ⟨rfl, z⟩
      have hn := h3 (a / 8) (a % 8) (by omega)
      by_cases e2 : a = 8 * x + y
      · rw [if_pos (show 2 = 2 ∧ n2 (a / 8) (a % 8) = true from ⟨rfl, by rw [hn, decide_eq_true (show a / 8 = x by omega), decide_eq_true (show a % 8 = y by omega)]; simp⟩), if_pos (show 2 = 2 ∧ a = 8 * x + y from ⟨rfl, e2⟩), e2, show (8 * x + y) / 8 = x by omega, show (8 * x + y) % 8 = y by omega]
        rfl
      · rw [if_neg (show ¬ (2 = 2 ∧ a = 8 * x + y) from fun z => e2 z.2)]
        have e3 : n2 (a / 8) (a % 8) = n (a / 8) (a % 8) := by
          rw [hn]
          have q1 : (decide (a / 8 = x) && decide (a % 8 = y)) = false := by
            rw [← Bool.decide_and]; exact decide_eq_false (by omega)
          have q2 : (decide (a / 8 = y) && decide (a % 8 = x)) = false := by
            rw [← Bool.decide_and]; exact decide_eq_false (by omega)
          rw [q1, q2, Bool.or_false, Bool.or_false]
        rw [e3]
    · rw [if_neg (fun z => e z.1), if_neg (fun z => e z.1), if_neg (fun z => e z.1)]
/-- the pairs up to one, in the class's order and in the reference's -/
def znC (x y a b : Nat) : Bool := decide (a ≠ b) && (decide (min a b < x) || (decide (min a b = x) && decide (max a b < y)))
def znR (x y a b : Nat) : Bool := decide (a ≠ b) && (decide (max a b < x) || (decide (max a b = x) && decide (min a b < y)))
theorem znC_s {x y a b : Nat} (h : x < y) : znC x (y + 1) a b = (znC x y a b || (decide (a = x) && decide (b = y)) || (decide (a = y) && decide (b = x))) := by
  unfold znC
  rw [← Bool.decide_and, ← Bool.decide_and, ← Bool.decide_and, ← Bool.decide_and, ← Bool.decide_or, ← Bool.decide_or, ← Bool.decide_and, ← Bool.decide_and, ← Bool.decide_or, ← Bool.decide_or]
  exact decide_eq_decide.mpr (by omega)
theorem znR_s {x y a b : Nat} (h : y < x) : znR x (y + 1) a b = (znR x y a b || (decide (a = x) && decide (b = y)) || (decide (a = y) && decide (b = x))) := by
  unfold znR
  rw [← Bool.decide_and, ← Bool.decide_and, ← Bool.decide_and, ← Bool.decide_and, ← Bool.decide_or, ← Bool.decide_or, ← Bool.decide_and, ← Bool.decide_and, ← Bool.decide_or, ← Bool.decide_or]
  exact decide_eq_decide.mpr (by omega)
theorem znC_f {x y : Nat} (h : x < y) : znC x y x y = false ∧ znC x y y x = false := by
  unfold znC
  constructor <;> (rw [← Bool.decide_and, ← Bool.decide_or, ← Bool.decide_and]; exact decide_eq_false (by omega))
theorem znR_f {x y : Nat} (h : y < x) : znR x y x y = false ∧ znR x y y x = false := by
  unfold znR
  constructor <;> (rw [← Bool.decide_and, ← Bool.decide_or, ← Bool.decide_and]; exact decide_eq_false (by omega))
def gStr (G : zG) : zG := gSk G (fun a b => decide (a ≠ b))
theorem dand {p q : Prop} {i : Decidable p} {j : Decidable q} : (decide p && decide q) = decide (p ∧ q) := (Bool.decide_and p q).symm
theorem dor {p q : Prop} {i : Decidable p} {j : Decidable q} : (decide p || decide q) = decide (p ∨ q) := (Bool.decide_or p q).symm
theorem c_cancel {m : ax_M} {g : Nat} {G : zG} (h : zC m g G) (hV : zV G) : ∃ m1, F_X2_cancel m g = some m1 ∧ zGo m m1 g (gStr G) := by
  have hp := hV.p
  have inn : ∀ (K : ax_M → Option ax_M) (x : Nat) (m1 : ax_M), x < 8 → zGo m m1 g (gSk G (znC x (x + 1))) → ∃ m2, F_X2_cancel_L9 ax_FU K m1 g (nI x) (nI (x + 1)) = K m2 ∧ zGo m m2 g (gSk G (znC x 8)) := by
    intro K x m1 hx h1
    have key : ∀ k i n, i + k = 8 → k < n → (x < i → ∀ m1, zGo m m1 g (gSk G (znC x i)) → ∃ m2, F_X2_cancel_L9 n K m1 g (nI x) (nI i) = K m2 ∧ zGo m m2 g (gSk G (znC x 8))) := by
      refine zz_loop 8 (fun n => ?_) (fun n i hi ih => ?_)
      · intro _ m1 h1
        exact ⟨m1, by rw [F_X2_cancel_L9, zl_8, if_pos (Int32.le_refl _)], h1⟩
      · intro hx2 m1 h1
        have hV1 := gSk_V hV (znC x i)
        have d1 := hV.d hx hi
        have d2 := hV.d hi hx
        have hb := gMi_b G x i
        have z := znC_f hx2
        have e1 : gD (gSk G (znC x i)) x i = gD G x i := by rw [gSk_D hi, if_neg (by rw [z.1]; decide)]
        have e2 : gD (gSk G (znC x i)) i x = gD G i x := by rw [gSk_D hx, if_neg (by rw [z.2]; decide)]
        have o1 := c_of h1.1 hx hi
        have o2 := c_of h1.1 hi hx
        rw [e1] at o1
        rw [e2] at o2
        have s1 := go_d h1.1 hx hi (gD G x i - gMi G x i)
        have o3 := c_of s1.1 hi hx
        rw [gD_s hx hi hi hx, if_neg (by omega), e2] at o3
        have s2 := go_d s1.1 hi hx (gD G i x - gMi G x i)
        rw [gSk_s (n2 := znC x (i + 1)) hx hi (by omega) z.1 z.2 (fun a b _ => znC_s hx2)] at s2
        obtain ⟨m2, i1, i2⟩ := ih (by omega) _ ((h1.tr s1).tr s2)
        refine ⟨m2, ?_, i2⟩
        rw [F_X2_cancel_L9]
        unfold F_X2_put
        have mm : ax_min (nI (gD G x i)) (nI (gD G i x)) = nI (gMi G x i) := zz_min _ _ (by omega) (by omega)
        simp (disch := omega) only [↓zl_m1, zz_leT, zz_leF, zz_ltT, zz_ltF, zz_eqT, zz_eqF, zz_okN, zz_okF, nI_clamp, nI_add, pk_mul, pk_sub, zz_bS, zz_b2S, if_true, if_false, Bool.true_eq_false, Bool.false_eq_true, eq_self, ne_eq, not_true_eq_false, not_false_eq_true, false_or, or_false, true_or, or_true, and_true, true_and, and_false, false_and, mI_e, mI_e2, mI_le, mI_le2, mI_lt, mI_lt2, mI_ok, bI_0n, bI_1n, bI_orn, Nat.mul_zero, Nat.zero_add, Nat.add_zero, c_no2, c_no3, c_no4, c_no5, c_no6, r_no2, r_no3, r_no4, r_no5, r_no6, zk_inR, zk_in2, zk_in3, zk_wiN, Nat.reduceAdd, zl_0, zl_1, zl_2, zl_3, zl_4, zl_5, zl_6, zl_7, zl_8, zl_9, zl_10, zl_12, zl_13, zl_14, zl_15, zl_16, zl_20, zl_32, zl_40, zl_48, zl_57, zl_59, zl_60, zl_63, zl_64, zl_97, zl_99, zl_101, zl_119, zl_120, zl_122, zl_128, zl_136, zl_152, zl_168, zl_184, zl_200, zl_201, zl_202, zl_203, zl_250, zl_255, zl_320, zl_999, zl_1000, o1, o2, mm, Nat.mul_comm x 8, Nat.mul_comm i 8, o3]
        exact i1
    exact key (8 - (x + 1)) (x + 1) ax_FU (by omega) (by unfold ax_FU; omega) (by omega) m1 h1
  have key : ∀ k i n, i + k = 8 → k < n → (∀ m1, zGo m m1 g (gSk G (znC i (i + 1))) → ∃ m2, F_X2_cancel_L2 n m1 g (nI i) = some m2 ∧ zGo m m2 g (gStr G)) := by
    refine zz_loop 8 (fun n => ?_) (fun n i hi ih => ?_)
    · intro m1 h1
      refine ⟨m1, by rw [F_X2_cancel_L2, zl_8, if_pos (Int32.le_refl _)], h1.cg (gSk_ge hV (fun a b ha hb hab => ?_))⟩
      unfold znC
      rw [dand, dor, dand]
      exact decide_eq_decide.mpr (by omega)
    · intro m1 h1
      obtain ⟨m2, i1, i2⟩ := inn (fun m47 => F_X2_cancel_L2 n m47 g (nI (i + 1))) i m1 hi h1
      obtain ⟨m3, j1, j2⟩ := ih m2 (i2.cg (gSk_ge hV (fun a b ha hb hab => by
        unfold znC
        rw [dand, dor, dand, dand, dor, dand]
        exact decide_eq_decide.mpr (by omega))))
      refine ⟨m3, ?_, j2⟩
      rw [F_X2_cancel_L2, zl_8, if_neg (by rw [zz_le (by omega) (by omega)]; omega), nI_1]
      exact i1.trans j1
  have h0 : zGo m m g (gSk G (znC 0 (0 + 1))) := by
    have e : zGe G (gSk G (znC 0 (0 + 1))) := by
      refine ⟨fun f a hf ha => ?_, fun _ _ => rfl, rfl⟩
      show _ = (if f = 2 ∧ znC 0 (0 + 1) (a / 8) (a % 8) = true then _ else _)
      rw [if_neg]
      rintro ⟨-, z⟩
      unfold znC at z
      rw [dand, dor, dand] at z
      have := of_decide_eq_true z
      omega
    exact ⟨h.cg e, fun _ _ _ hK => hK, zE.rf _ _⟩
  obtain ⟨m2, a1, a2⟩ := key 8 0 ax_FU rfl (by decide) m h0
  exact ⟨m2, a1, a2⟩
theorem r_strikeL {m : ax_M} {G : zG} (h : zL m G) (hV : zV G) (v : Int32) : ∃ m1, F_X11_strike_L5 ax_FU m v (nI 0) = some (v, m1) ∧ zLo m m1 (gStr G) := by
  have hp := hV.p
  have inn : ∀ (K : ax_M → Option (Int32 × ax_M)) (x : Nat) (m1 : ax_M), x < gP G → zLo m m1 (gSk G (znR x 0)) → ∃ m2, F_X11_strike_L11 ax_FU K m1 v (nI x) (nI 0) = K m2 ∧ zLo m m2 (gSk G (znR x x)) := by
    intro K x m1 hx h1
    have hx8 : x < 8 := by omega
    have key : ∀ k i n, i + k = x → k < n → (∀ m1, zLo m m1 (gSk G (znR x i)) → ∃ m2, F_X11_strike_L11 n K m1 v (nI x) (nI i) = K m2 ∧ zLo m m2 (gSk G (znR x x))) := by
      refine zz_loop x (fun n => ?_) (fun n i hi ih => ?_)
      · intro m1 h1
        exact ⟨m1, by rw [F_X11_strike_L11, if_pos (Int32.le_refl _)], h1⟩
      · intro m1 h1
        have hi8 : i < 8 := by omega
        have d1 := hV.d hx8 hi8
        have d2 := hV.d hi8 hx8
        have hb := gMi_b G x i
        have z := znR_f hi
        have e1 : gD (gSk G (znR x i)) x i = gD G x i := by rw [gSk_D hi8, if_neg (by rw [z.1]; decide)]
        have e2 : gD (gSk G (znR x i)) i x = gD G i x := by rw [gSk_D hx8, if_neg (by rw [z.2]; decide)]
        have o1 := h1.1.d hx8 hi8
        have o2 := h1.1.d hi8 hx8
        rw [e1] at o1
        rw [e2] at o2
        have s1 := lo_d h1.1 hx8 hi8 (gD G x i - gMi G x i)
        have s2 := lo_d s1.1 hi8 hx8 (gD G i x - gMi G x i)
        rw [gSk_s (n2 := znR x (i + 1)) hx8 hi8 (by omega) z.1 z.2 (fun a b _ => znR_s hi)] at s2
        obtain ⟨m2, i1, i2⟩ := ih _ ((h1.tr s1).tr s2)
        refine ⟨m2, ?_, i2⟩
        rw [F_X11_strike_L11]
        have mm : ax_min (nI (gD G x i)) (nI (gD G i x)) = nI (gMi G x i) := zz_min _ _ (by omega) (by omega)
        simp (disch := omega) only [↓zl_m1, zz_leT, zz_leF, zz_ltT, zz_ltF, zz_eqT, zz_eqF, zz_okN, zz_okF, nI_clamp, nI_add, pk_mul, pk_sub, zz_bS, zz_b2S, if_true, if_false, Bool.true_eq_false, Bool.false_eq_true, eq_self, ne_eq, not_true_eq_false, not_false_eq_true, false_or, or_false, true_or, or_true, and_true, true_and, and_false, false_and, mI_e, mI_e2, mI_le, mI_le2, mI_lt, mI_lt2, mI_ok, bI_0n, bI_1n, bI_orn, Nat.mul_zero, Nat.zero_add, Nat.add_zero, c_no2, c_no3, c_no4, c_no5, c_no6, r_no2, r_no3, r_no4, r_no5, r_no6, zk_inR, zk_in2, zk_in3, zk_wiN, Nat.reduceAdd, zl_0, zl_1, zl_2, zl_3, zl_4, zl_5, zl_6, zl_7, zl_8, zl_9, zl_10, zl_12, zl_13, zl_14, zl_15, zl_16, zl_20, zl_32, zl_40, zl_48, zl_57, zl_59, zl_60, zl_63, zl_64, zl_97, zl_99, zl_101, zl_119, zl_120, zl_122, zl_128, zl_136, zl_152, zl_168, zl_184, zl_200, zl_201, zl_202, zl_203, zl_250, zl_255, zl_320, zl_999, zl_1000, zu_s, zu_k, zu_j, zu_i, zu_l, zv_s, zv_k, zv_j, zv_i, zv_l, o1, o2, mm]
        exact i1
    exact key x 0 ax_FU (by omega) (by unfold ax_FU; omega) m1 h1
  have key : ∀ k i n, i + k = gP G → k < n → (∀ m1, zLo m m1 (gSk G (znR i 0)) → ∃ m2, F_X11_strike_L5 n m1 v (nI i) = some (v, m2) ∧ zLo m m2 (gStr G)) := by
    refine zz_loop (gP G) (fun n => ?_) (fun n i hi ih => ?_)
    · intro m1 h1
      have q1 : m1.1 22 0 1 = nI (gP G) := h1.1.p
      refine ⟨m1, by rw [F_X11_strike_L5, q1, if_pos (Int32.le_refl _)], h1.cg (gSk_ge hV (fun a b ha hb hab => ?_))⟩
      unfold znR
      rw [dand, dor, dand]
      exact decide_eq_decide.mpr (by omega)
    · intro m1 h1
      have q1 : m1.1 22 0 1 = nI (gP G) := h1.1.p
      obtain ⟨m2, i1, i2⟩ := inn (fun m37 => F_X11_strike_L5 n m37 v (nI (i + 1))) i m1 hi h1
      obtain ⟨m3, j1, j2⟩ := ih m2 (i2.cg (gSk_ge hV (fun a b ha hb hab => by
        unfold znR
        rw [dand, dor, dand, dand, dor, dand]
        exact decide_eq_decide.mpr (by omega))))
      refine ⟨m3, ?_, j2⟩
      rw [F_X11_strike_L5, q1, if_neg (by rw [zz_le (by omega) (by omega)]; omega), nI_1]
      exact i1.trans j1
  have h0 : zLo m m (gSk G (znR 0 0)) := by
    have e : zGe G (gSk G (znR 0 0)) := by
      refine ⟨fun f a hf ha => ?_, fun _ _ => rfl, rfl⟩
      show _ = (if f = 2 ∧ znR 0 0 (a / 8) (a % 8) = true then _ else _)
      rw [if_neg]
      rintro ⟨-, z⟩
      unfold znR at z
      rw [dand, dor, dand] at z
      have := of_decide_eq_true z
      omega
    exact ⟨h.cg e, zE.rf _ _, fun _ _ => rfl⟩
  obtain ⟨m2, a1, a2⟩ := key (gP G) 0 ax_FU (by omega) (by unfold ax_FU; omega) m h0
  exact ⟨m2, a1, a2⟩
theorem t_strike : zT F_X10_strike F_X11_strike := zT_of (fun m G h => by
  obtain ⟨hV, hC, hL, -⟩ := id h
  obtain ⟨m1, e1, e2⟩ := c_cancel hC hV
  have hL1 := zLg hL e2
  obtain ⟨m2, e3, e4⟩ := r_strikeL hL1 hV (nI (gMu G))
  refine ⟨nI (gMu G), m1, m2, ?_, ?_, _, h.go e2 e4 (gSk_V hV _) (Nat.le_refl _)⟩
  · unfold F_X10_strike; rw [c_shared hC hV, zz_bS, e1, zz_bS]
  · unfold F_X11_strike; rw [r_mutual hL1 hV, zz_bS]; exact e3)
