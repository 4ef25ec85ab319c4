/-! CALLS, second: those that change one thing of the garden -/
theorem zk_inR {α : Type} {v : Int32} {n : Nat} {a b : α} {i1 : Decidable (v < nI 0)} {i2 : Decidable (nI n ≤ v)} (hn : n < 2 ^ 31) : (@ite α (v < nI 0) i1 a (@ite α (nI n ≤ v) i2 a b)) = if ax_ok v n = true then b else a := by
  rcases zk_cs v hn with h | ⟨j, hj, rfl⟩
  · rw [h, if_neg (show ¬ false = true by decide)]
    by_cases h2 : v < nI 0
    · rw [if_pos h2]
    · rw [if_neg h2, if_pos ((zk_out h hn).resolve_left h2)]
  · rw [if_neg (show ¬ nI j < nI 0 from nI_pos (by omega)), if_neg (nI_ge hj hn), if_pos (zz_okN hj (by omega))]
theorem zk_in3 {α : Type} {v : Int32} {n : Nat} {a b : α} {i1 : Decidable (v < nI 0)} {i2 : Decidable (nI n < v)} (hn : n + 1 < 2 ^ 31) : (@ite α (v < nI 0) i1 a (@ite α (nI n < v) i2 a b)) = if ax_ok v (n + 1) = true then b else a := by
  rcases zk_cs v hn with h | ⟨j, hj, rfl⟩
  · rw [h, if_neg (show ¬ false = true by decide)]
    by_cases h2 : v < nI 0
    · rw [if_pos h2]
    · have h3 := (zk_out h hn).resolve_left h2
      rw [Int32.le_iff_toInt_le, nI_toInt hn] at h3
      rw [if_neg h2, if_pos (by rw [Int32.lt_iff_toInt_lt, nI_toInt (by omega)]; omega)]
  · rw [if_neg (show ¬ nI j < nI 0 from nI_pos (by omega)), if_neg (nI_nlt (by omega) (by omega)), if_pos (zz_okN hj (by omega))]
theorem zk_in2 {α : Type} {v : Int32} {n : Nat} {a b : α} {i1 : Decidable (v < nI 0)} {i2 : Decidable (v ≤ nI n)} (hn : n + 1 < 2 ^ 31) : (@ite α (v < nI 0) i1 a (@ite α (v ≤ nI n) i2 b a)) = if ax_ok v (n + 1) = true then b else a := by
  rcases zk_cs v hn with h | ⟨j, hj, rfl⟩
  · rw [h, if_neg (show ¬ false = true by decide)]
    by_cases h2 : v < nI 0
    · rw [if_pos h2]
    · have h3 := (zk_out h hn).resolve_left h2
      rw [Int32.le_iff_toInt_le, nI_toInt hn] at h3
      rw [if_neg h2, if_neg (by rw [Int32.le_iff_toInt_le, nI_toInt (by omega)]; omega)]
  · rw [if_neg (show ¬ nI j < nI 0 from nI_pos (by omega)), if_pos (nI_le (by omega) (by omega)), if_pos (zz_okN hj (by omega))]
theorem bI_inj (a b : Bool) : (bI a = bI b) = (a = b) := by cases a <;> cases b <;> simp [bI]
theorem gP_u {G : zG} {f a v : Nat} (h : f ≠ 0) : gP (zgu G f a v) = gP G := zgu_f h.symm
theorem gS_u {G : zG} {f a v : Nat} (h : f ≠ 0) : gS (zgu G f a v) = gS G := zgu_f h.symm
theorem gO_u {G : zG} {f a v p : Nat} (h : f ≠ 1) : gO (zgu G f a v) p = gO G p := zgu_f h.symm
theorem gD_u {G : zG} {f a v x y : Nat} (h : f ≠ 2) : gD (zgu G f a v) x y = gD G x y := zgu_f h.symm
theorem gK_u {G : zG} {f a v i : Nat} (h : f ≠ 3) : gK (zgu G f a v) i = gK G i := zgu_f h.symm
theorem gA_u {G : zG} {f a v i : Nat} (h : f ≠ 4) : gA (zgu G f a v) i = gA G i := zgu_f h.symm
theorem gC_u {G : zG} {f a v i : Nat} (h : f ≠ 5) : gC (zgu G f a v) i = gC G i := zgu_f h.symm
theorem gR_u {G : zG} {f a v i : Nat} (h : f ≠ 6) : gR (zgu G f a v) i = gR G i := zgu_f h.symm
theorem gW_u {G : zG} {f a v c : Nat} : gW (zgu G f a v) c = gW G c := rfl
theorem gO_s {G : zG} {a v p : Nat} : gO (zgu G 1 a v) p = if p = a then v else gO G p := by
  show (if 1 = 1 ∧ p = a then v else G.1 1 p) = _
  simp only [true_and]; rfl
theorem gD_s {G : zG} {x y v a b : Nat} (hx : x < 8) (hy : y < 8) (ha : a < 8) (hb : b < 8) : gD (zgu G 2 (8 * x + y) v) a b = if a = x ∧ b = y then v else gD G a b := by
  show (if 2 = 2 ∧ 8 * a + b = 8 * x + y then v else G.1 2 (8 * a + b)) = _
  by_cases e : a = x ∧ b = y
  · rw [if_pos e, if_pos (by omega)]
  · rw [if_neg e, if_neg (by omega)]; rfl
theorem zV.uw {G : zG} (h : zV G) {w : Nat → Bool} (hw : ∀ p, p < gP G → w (gO G p) = false) : zV (zgw G w) := ⟨h.1, h.2.1, h.2.2.1, hw, h.2.2.2.2⟩
theorem zV.uo {G : zG} (h : zV G) {p c : Nat} (hc : c < 64) (hw : gW G c = false) : zV (zgu G 1 p c) := by
  refine ⟨h.p, h.s, fun q hq => ?_, fun q hq => ?_, fun x y hx hy => h.d hx hy, fun x y hx hy => h.z hx hy, fun i hi => ⟨h.k hi, h.a hi, h.c hi, h.r hi⟩, fun i hi => h.rp hi⟩
  · rw [gO_s]; split
    · exact hc
    · exact h.o hq
  · rw [gO_s, gW_u]; split
    · exact hw
    · exact h.w hq
theorem zV.ud {G : zG} (h : zV G) {x y n : Nat} (hx : x < gP G) (hy : y < gP G) (hxy : x ≠ y) (hn : n ≤ 999) : zV (zgu G 2 (8 * x + y) n) := by
  have hp := h.p
  refine ⟨h.p, h.s, fun q hq => h.o hq, fun q hq => h.w hq, fun a b ha hb => ?_, fun a b ha hb hz => ?_, fun i hi => ⟨h.k hi, h.a hi, h.c hi, h.r hi⟩, fun i hi => h.rp hi⟩
  · rw [gD_s (by omega) (by omega) ha hb]; split
    · exact hn
    · exact h.d ha hb
  · rw [gD_s (by omega) (by omega) ha hb]; split
    · rename_i e
      have hz : gP G ≤ a ∨ gP G ≤ b ∨ a = b := hz
      omega
    · exact h.z ha hb hz
theorem zV.person {G : zG} (h : zV G) {c : Nat} (hp : gP G < 8) (hc : c < 64) (hw : gW G c = false) : zV (zgu (zgu G 1 (gP G) c) 0 0 (gP G + 1)) := by
  have hP : gP (zgu (zgu G 1 (gP G) c) 0 0 (gP G + 1)) = gP G + 1 := zgu_s
  refine ⟨by rw [hP]; omega, h.s, fun q hq => ?_, fun q hq => ?_, fun x y hx hy => h.d hx hy, fun x y hx hy hz => ?_, fun i hi => ⟨h.k hi, h.a hi, h.c hi, h.r hi⟩, fun i hi => ?_⟩
  · rw [gO_u (by omega), gO_s]; split
    · exact hc
    · exact h.o hq
  · rw [gO_u (by omega), gO_s, gW_u, gW_u]; split
    · exact hw
    · exact h.w (by rw [hP] at hq; omega)
  · rw [hP] at hz
    exact h.z hx hy (by omega)
  · rw [hP]
    have : gR G i < gP G := h.rp hi
    exact Nat.lt_succ_of_lt this
def zgs (G : zG) (k a c r : Nat) : zG := zgu (zgu (zgu (zgu (zgu G 3 (gS G) k) 4 (gS G) a) 5 (gS G) c) 6 (gS G) r) 0 1 (gS G + 1)
theorem zV.sow {G : zG} (h : zV G) {k a c r : Nat} (hs : gS G < 16) (hk : k < 6) (ha : a ≤ 9) (hc : c < 64) (hr : r < gP G) : zV (zgs G k a c r) := by
  have hS : gS (zgs G k a c r) = gS G + 1 := zgu_s
  have hp := h.p
  have at_ : ∀ (H : zG) (f v i : Nat), (zgu H f (gS G) v).1 f i = if i = gS G then v else H.1 f i := fun H f v i => by
    show (if f = f ∧ i = gS G then v else H.1 f i) = _
    simp only [true_and]
  have eK : ∀ i, gK (zgs G k a c r) i = if i = gS G then k else gK G i := fun i => by
    unfold zgs; rw [gK_u (by omega), gK_u (by omega), gK_u (by omega), gK_u (by omega)]; exact at_ G 3 k i
  have eA : ∀ i, gA (zgs G k a c r) i = if i = gS G then a else gA G i := fun i => by
    unfold zgs; rw [gA_u (by omega), gA_u (by omega), gA_u (by omega)]; exact (at_ _ 4 a i).trans (by rfl)
  have eC : ∀ i, gC (zgs G k a c r) i = if i = gS G then c else gC G i := fun i => by
    unfold zgs; rw [gC_u (by omega), gC_u (by omega)]; exact (at_ _ 5 c i).trans (by rfl)
  have eR : ∀ i, gR (zgs G k a c r) i = if i = gS G then r else gR G i := fun i => by
    unfold zgs; rw [gR_u (by omega)]; exact (at_ _ 6 r i).trans (by rfl)
  refine ⟨h.p, by rw [hS]; omega, fun q hq => h.o hq, fun q hq => h.w hq, fun x y hx hy => h.d hx hy, fun x y hx hy => h.z hx hy, fun i hi => ?_, fun i hi => ?_⟩
  · rw [eK, eA, eC, eR]
    have := h.k hi; have := h.a hi; have := h.c hi; have := h.r hi
    split <;> omega
  · rw [eR]
    rw [hS] at hi
    show _ < gP G
    split
    · exact hr
    · exact h.rp (by omega)
theorem c_putWall {m : ax_M} {g : Nat} {G : zG} (h : zC m g G) {c : Nat} (hc : c < 64) (b : Bool) : F_X3_putWall m g (nI c) (bI b) = some (ax_ul m 1 g 0 (lb (fun i => if i = c then b else gW G i))) := by
  unfold F_X3_putWall
  rw [cs_bit hc, zz_bS, zz_bS, h.w, lb_not, lb_and, lb_or]
  cases b with
  | false =>
    rw [if_pos (show bI false = 0 from rfl), lb_congr (fun i _ => ?_)]
    by_cases e : i = c
    · rw [if_pos e, decide_eq_true e]; simp
    · rw [if_neg e, decide_eq_false e]; simp
  | true =>
    rw [if_neg (show ¬ bI true = 0 by decide), lb_congr (fun i _ => ?_)]
    by_cases e : i = c
    · rw [if_pos e, decide_eq_true e]; simp
    · rw [if_neg e, decide_eq_false e]; simp
theorem t_wall (v : Int32) (b : Bool) : zT (fun m => F_X10_wall m v (bI b)) (fun m => F_X11_wall m v (bI b)) := zT_of (fun m G h => by
  obtain ⟨hV, hC, hL, -⟩ := id h
  rcases zk_cs v (n := 64) (by omega) with e | ⟨c, hc, rfl⟩
  · exact zT_no 0 (by omega) (-nI 2) h (by unfold F_X10_wall; simp (disch := omega) only [↓zl_m1, zz_leT, zz_leF, zz_ltT, zz_ltF, zz_eqT, zz_eqF, zz_okN, zz_okF, nI_clamp, nI_add, pk_mul, pk_sub, zz_bS, zz_b2S, if_true, if_false, Bool.true_eq_false, Bool.false_eq_true, eq_self, ne_eq, not_true_eq_false, not_false_eq_true, false_or, or_false, true_or, or_true, and_true, true_and, and_false, false_and, mI_e, mI_e2, mI_le, mI_le2, mI_lt, mI_lt2, mI_ok, bI_0n, bI_1n, bI_orn, Nat.mul_zero, Nat.zero_add, Nat.add_zero, c_no2, c_no3, c_no4, c_no5, c_no6, r_no2, r_no3, r_no4, r_no5, r_no6, zk_inR, zk_in2, zk_in3, zk_wiN, Nat.reduceAdd, zl_0, zl_1, zl_2, zl_3, zl_4, zl_5, zl_6, zl_7, zl_8, zl_9, zl_10, zl_12, zl_13, zl_14, zl_15, zl_16, zl_20, zl_32, zl_40, zl_48, zl_57, zl_59, zl_60, zl_63, zl_64, zl_97, zl_99, zl_101, zl_119, zl_120, zl_122, zl_128, zl_136, zl_152, zl_168, zl_184, zl_200, zl_201, zl_202, zl_203, zl_250, zl_255, zl_320, zl_999, zl_1000, c_isPerson hC hV, c_isSeed hC hV, cs_isCell, c_isShelf, c_isPair hC hV, c_isKind, e]) (fun m1 e1 hL1 => by unfold F_X11_wall; simp (disch := omega) only [↓zl_m1, zz_leT, zz_leF, zz_ltT, zz_ltF, zz_eqT, zz_eqF, zz_okN, zz_okF, nI_clamp, nI_add, pk_mul, pk_sub, zz_bS, zz_b2S, if_true, if_false, Bool.true_eq_false, Bool.false_eq_true, eq_self, ne_eq, not_true_eq_false, not_false_eq_true, false_or, or_false, true_or, or_true, and_true, true_and, and_false, false_and, mI_e, mI_e2, mI_le, mI_le2, mI_lt, mI_lt2, mI_ok, bI_0n, bI_1n, bI_orn, Nat.mul_zero, Nat.zero_add, Nat.add_zero, c_no2, c_no3, c_no4, c_no5, c_no6, r_no2, r_no3, r_no4, r_no5, r_no6, zk_inR, zk_in2, zk_in3, zk_wiN, Nat.reduceAdd, zl_0, zl_1, zl_2, zl_3, zl_4, zl_5, zl_6, zl_7, zl_8, zl_9, zl_10, zl_12, zl_13, zl_14, zl_15, zl_16, zl_20, zl_32, zl_40, zl_48, zl_57, zl_59, zl_60, zl_63, zl_64, zl_97, zl_99, zl_101, zl_119, zl_120, zl_122, zl_128, zl_136, zl_152, zl_168, zl_184, zl_200, zl_201, zl_202, zl_203, zl_250, zl_255, zl_320, zl_999, zl_1000, r_isOne hL1 hV, r_isSeed hL1 hV, cr_isCell, r_isShelf, r_areTwo hL1 hV, zk_wiN, e])
  · by_cases e2 : gW G c = b
    · subst e2
      have hz : gW G c = true → zany (fun p => decide (gO G p = c)) (gP G) = false := fun hw => zany_f.mpr (fun p hp => decide_eq_false (fun z => by have := hV.w hp; rw [z, hw] at this; cases this))
      cases hw : gW G c with
      | true => exact zT_an (nI 0) h (by unfold F_X10_wall; simp (disch := omega) only [↓zl_m1, zz_leT, zz_leF, zz_ltT, zz_ltF, zz_eqT, zz_eqF, zz_okN, zz_okF, nI_clamp, nI_add, pk_mul, pk_sub, zz_bS, zz_b2S, if_true, if_false, Bool.true_eq_false, Bool.false_eq_true, eq_self, ne_eq, not_true_eq_false, not_false_eq_true, false_or, or_false, true_or, or_true, and_true, true_and, and_false, false_and, mI_e, mI_e2, mI_le, mI_le2, mI_lt, mI_lt2, mI_ok, bI_0n, bI_1n, bI_orn, Nat.mul_zero, Nat.zero_add, Nat.add_zero, c_no2, c_no3, c_no4, c_no5, c_no6, r_no2, r_no3, r_no4, r_no5, r_no6, zk_inR, zk_in2, zk_in3, zk_wiN, Nat.reduceAdd, zl_0, zl_1, zl_2, zl_3, zl_4, zl_5, zl_6, zl_7, zl_8, zl_9, zl_10, zl_12, zl_13, zl_14, zl_15, zl_16, zl_20, zl_32, zl_40, zl_48, zl_57, zl_59, zl_60, zl_63, zl_64, zl_97, zl_99, zl_101, zl_119, zl_120, zl_122, zl_128, zl_136, zl_152, zl_168, zl_184, zl_200, zl_201, zl_202, zl_203, zl_250, zl_255, zl_320, zl_999, zl_1000, c_isPerson hC hV, c_isSeed hC hV, cs_isCell, c_isShelf, c_isPair hC hV, c_isKind, hw, hz hw, c_isStoodOn hC hV hc, c_hasWall hC hc]) (by unfold F_X11_wall; simp (disch := omega) only [↓zl_m1, zz_leT, zz_leF, zz_ltT, zz_ltF, zz_eqT, zz_eqF, zz_okN, zz_okF, nI_clamp, nI_add, pk_mul, pk_sub, zz_bS, zz_b2S, if_true, if_false, Bool.true_eq_false, Bool.false_eq_true, eq_self, ne_eq, not_true_eq_false, not_false_eq_true, false_or, or_false, true_or, or_true, and_true, true_and, and_false, false_and, mI_e, mI_e2, mI_le, mI_le2, mI_lt, mI_lt2, mI_ok, bI_0n, bI_1n, bI_orn, Nat.mul_zero, Nat.zero_add, Nat.add_zero, c_no2, c_no3, c_no4, c_no5, c_no6, r_no2, r_no3, r_no4, r_no5, r_no6, zk_inR, zk_in2, zk_in3, zk_wiN, Nat.reduceAdd, zl_0, zl_1, zl_2, zl_3, zl_4, zl_5, zl_6, zl_7, zl_8, zl_9, zl_10, zl_12, zl_13, zl_14, zl_15, zl_16, zl_20, zl_32, zl_40, zl_48, zl_57, zl_59, zl_60, zl_63, zl_64, zl_97, zl_99, zl_101, zl_119, zl_120, zl_122, zl_128, zl_136, zl_152, zl_168, zl_184, zl_200, zl_201, zl_202, zl_203, zl_250, zl_255, zl_320, zl_999, zl_1000, r_isOne hL hV, r_isSeed hL hV, cr_isCell, r_isShelf, r_areTwo hL hV, zk_wiN, hw, hL.w hc])
      | false => exact zT_an (nI 0) h (by unfold F_X10_wall; simp (disch := omega) only [↓zl_m1, zz_leT, zz_leF, zz_ltT, zz_ltF, zz_eqT, zz_eqF, zz_okN, zz_okF, nI_clamp, nI_add, pk_mul, pk_sub, zz_bS, zz_b2S, if_true, if_false, Bool.true_eq_false, Bool.false_eq_true, eq_self, ne_eq, not_true_eq_false, not_false_eq_true, false_or, or_false, true_or, or_true, and_true, true_and, and_false, false_and, mI_e, mI_e2, mI_le, mI_le2, mI_lt, mI_lt2, mI_ok, bI_0n, bI_1n, bI_orn, Nat.mul_zero, Nat.zero_add, Nat.add_zero, c_no2, c_no3, c_no4, c_no5, c_no6, r_no2, r_no3, r_no4, r_no5, r_no6, zk_inR, zk_in2, zk_in3, zk_wiN, Nat.reduceAdd, zl_0, zl_1, zl_2, zl_3, zl_4, zl_5, zl_6, zl_7, zl_8, zl_9, zl_10, zl_12, zl_13, zl_14, zl_15, zl_16, zl_20, zl_32, zl_40, zl_48, zl_57, zl_59, zl_60, zl_63, zl_64, zl_97, zl_99, zl_101, zl_119, zl_120, zl_122, zl_128, zl_136, zl_152, zl_168, zl_184, zl_200, zl_201, zl_202, zl_203, zl_250, zl_255, zl_320, zl_999, zl_1000, c_isPerson hC hV, c_isSeed hC hV, cs_isCell, c_isShelf, c_isPair hC hV, c_isKind, hw, c_hasWall hC hc]) (by unfold F_X11_wall; simp (disch := omega) only [↓zl_m1, zz_leT, zz_leF, zz_ltT, zz_ltF, zz_eqT, zz_eqF, zz_okN, zz_okF, nI_clamp, nI_add, pk_mul, pk_sub, zz_bS, zz_b2S, if_true, if_false, Bool.true_eq_false, Bool.false_eq_true, eq_self, ne_eq, not_true_eq_false, not_false_eq_true, false_or, or_false, true_or, or_true, and_true, true_and, and_false, false_and, mI_e, mI_e2, mI_le, mI_le2, mI_lt, mI_lt2, mI_ok, bI_0n, bI_1n, bI_orn, Nat.mul_zero, Nat.zero_add, Nat.add_zero, c_no2, c_no3, c_no4, c_no5, c_no6, r_no2, r_no3, r_no4, r_no5, r_no6, zk_inR, zk_in2, zk_in3, zk_wiN, Nat.reduceAdd, zl_0, zl_1, zl_2, zl_3, zl_4, zl_5, zl_6, zl_7, zl_8, zl_9, zl_10, zl_12, zl_13, zl_14, zl_15, zl_16, zl_20, zl_32, zl_40, zl_48, zl_57, zl_59, zl_60, zl_63, zl_64, zl_97, zl_99, zl_101, zl_119, zl_120, zl_122, zl_128, zl_136, zl_152, zl_168, zl_184, zl_200, zl_201, zl_202, zl_203, zl_250, zl_255, zl_320, zl_999, zl_1000, r_isOne hL hV, r_isSeed hL hV, cr_isCell, r_isShelf, r_areTwo hL hV, zk_wiN, hw, hL.w hc])
    · have e3 : (gW G c = b) = False := eq_false e2
      have fin : zany (fun p => decide (gO G p = c)) (gP G) = false ∨ b = false → ∃ a m1 m2, some (nI 1, ax_ul m 1 0 0 (lb (fun i => if i = c then b else gW G i))) = some (a, m1) ∧ F_X11_wall m1 (nI c) (bI b) = some (a, m2) ∧ zR m2 := fun hb => by
        have e4 : zE zlg m (ax_ul m 1 0 0 (lb (fun i => if i = c then b else gW G i))) := (zE.rf _ _).ul (by decide)
        have hL1 : zL (ax_ul m 1 0 0 (lb (fun i => if i = c then b else gW G i))) G := hL
        refine ⟨_, _, ax_ui (ax_ul m 1 0 0 (lb (fun i => if i = c then b else gW G i))) 23 0 c (bI b), rfl, ?_, zgw G (fun i => if i = c then b else gW G i), h.ch ?_ (e4.ui (by decide)) rfl rfl ?_ (hL1.uw b) ?_ (Nat.le_refl _)⟩
        · unfold F_X11_wall
          cases b with
          | false => simp (disch := omega) only [↓zl_m1, zz_leT, zz_leF, zz_ltT, zz_ltF, zz_eqT, zz_eqF, zz_okN, zz_okF, nI_clamp, nI_add, pk_mul, pk_sub, zz_bS, zz_b2S, if_true, if_false, Bool.true_eq_false, Bool.false_eq_true, eq_self, ne_eq, not_true_eq_false, not_false_eq_true, false_or, or_false, true_or, or_true, and_true, true_and, and_false, false_and, mI_e, mI_e2, mI_le, mI_le2, mI_lt, mI_lt2, mI_ok, bI_0n, bI_1n, bI_orn, Nat.mul_zero, Nat.zero_add, Nat.add_zero, c_no2, c_no3, c_no4, c_no5, c_no6, r_no2, r_no3, r_no4, r_no5, r_no6, zk_inR, zk_in2, zk_in3, zk_wiN, Nat.reduceAdd, zl_0, zl_1, zl_2, zl_3, zl_4, zl_5, zl_6, zl_7, zl_8, zl_9, zl_10, zl_12, zl_13, zl_14, zl_15, zl_16, zl_20, zl_32, zl_40, zl_48, zl_57, zl_59, zl_60, zl_63, zl_64, zl_97, zl_99, zl_101, zl_119, zl_120, zl_122, zl_128, zl_136, zl_152, zl_168, zl_184, zl_200, zl_201, zl_202, zl_203, zl_250, zl_255, zl_320, zl_999, zl_1000, cr_isCell, hL1.w hc, bI_inj, e3]
          | true => simp (disch := omega) only [↓zl_m1, zz_leT, zz_leF, zz_ltT, zz_ltF, zz_eqT, zz_eqF, zz_okN, zz_okF, nI_clamp, nI_add, pk_mul, pk_sub, zz_bS, zz_b2S, if_true, if_false, Bool.true_eq_false, Bool.false_eq_true, eq_self, ne_eq, not_true_eq_false, not_false_eq_true, false_or, or_false, true_or, or_true, and_true, true_and, and_false, false_and, mI_e, mI_e2, mI_le, mI_le2, mI_lt, mI_lt2, mI_ok, bI_0n, bI_1n, bI_orn, Nat.mul_zero, Nat.zero_add, Nat.add_zero, c_no2, c_no3, c_no4, c_no5, c_no6, r_no2, r_no3, r_no4, r_no5, r_no6, zk_inR, zk_in2, zk_in3, zk_wiN, Nat.reduceAdd, zl_0, zl_1, zl_2, zl_3, zl_4, zl_5, zl_6, zl_7, zl_8, zl_9, zl_10, zl_12, zl_13, zl_14, zl_15, zl_16, zl_20, zl_32, zl_40, zl_48, zl_57, zl_59, zl_60, zl_63, zl_64, zl_97, zl_99, zl_101, zl_119, zl_120, zl_122, zl_128, zl_136, zl_152, zl_168, zl_184, zl_200, zl_201, zl_202, zl_203, zl_250, zl_255, zl_320, zl_999, zl_1000, cr_isCell, hL1.w hc, bI_inj, e3, r_somebodyAt hL1 hV hc, hb.resolve_right (by decide)]
        · refine hV.uw (fun p hp => ?_)
          have := hV.w hp
          split
          · rename_i e5
            rcases hb with hb | hb
            · have := zany_f.mp hb p hp
              rw [decide_eq_true e5] at this; cases this
            · exact hb
          · exact this
        · exact (hC.uw _).E (l := [23]) ((zE.rf _ _).ui (by decide)) (by decide)
        · intro K hK
          exact (hK.vw (by decide) _).E (l := [23]) ((zE.rf _ _).ui (by decide)) (by decide)
      cases hb : b with
      | false =>
        subst hb
        have fin2 := fin (.inr rfl)
        have : F_X10_wall m (nI c) (bI false) = some (nI 1, ax_ul m 1 0 0 (lb (fun i => if i = c then false else gW G i))) := by
          unfold F_X10_wall; simp (disch := omega) only [↓zl_m1, zz_leT, zz_leF, zz_ltT, zz_ltF, zz_eqT, zz_eqF, zz_okN, zz_okF, nI_clamp, nI_add, pk_mul, pk_sub, zz_bS, zz_b2S, if_true, if_false, Bool.true_eq_false, Bool.false_eq_true, eq_self, ne_eq, not_true_eq_false, not_false_eq_true, false_or, or_false, true_or, or_true, and_true, true_and, and_false, false_and, mI_e, mI_e2, mI_le, mI_le2, mI_lt, mI_lt2, mI_ok, bI_0n, bI_1n, bI_orn, Nat.mul_zero, Nat.zero_add, Nat.add_zero, c_no2, c_no3, c_no4, c_no5, c_no6, r_no2, r_no3, r_no4, r_no5, r_no6, zk_inR, zk_in2, zk_in3, zk_wiN, Nat.reduceAdd, zl_0, zl_1, zl_2, zl_3, zl_4, zl_5, zl_6, zl_7, zl_8, zl_9, zl_10, zl_12, zl_13, zl_14, zl_15, zl_16, zl_20, zl_32, zl_40, zl_48, zl_57, zl_59, zl_60, zl_63, zl_64, zl_97, zl_99, zl_101, zl_119, zl_120, zl_122, zl_128, zl_136, zl_152, zl_168, zl_184, zl_200, zl_201, zl_202, zl_203, zl_250, zl_255, zl_320, zl_999, zl_1000, cs_isCell, c_hasWall hC hc, bI_inj, e3, c_putWall hC hc]
        rw [this]; exact fin2
      | true =>
        subst hb
        cases hz : zany (fun p => decide (gO G p = c)) (gP G) with
        | true =>
          exact zT_no 3 (by omega) (-nI 5) h (by unfold F_X10_wall; simp (disch := omega) only [↓zl_m1, zz_leT, zz_leF, zz_ltT, zz_ltF, zz_eqT, zz_eqF, zz_okN, zz_okF, nI_clamp, nI_add, pk_mul, pk_sub, zz_bS, zz_b2S, if_true, if_false, Bool.true_eq_false, Bool.false_eq_true, eq_self, ne_eq, not_true_eq_false, not_false_eq_true, false_or, or_false, true_or, or_true, and_true, true_and, and_false, false_and, mI_e, mI_e2, mI_le, mI_le2, mI_lt, mI_lt2, mI_ok, bI_0n, bI_1n, bI_orn, Nat.mul_zero, Nat.zero_add, Nat.add_zero, c_no2, c_no3, c_no4, c_no5, c_no6, r_no2, r_no3, r_no4, r_no5, r_no6, zk_inR, zk_in2, zk_in3, zk_wiN, Nat.reduceAdd, zl_0, zl_1, zl_2, zl_3, zl_4, zl_5, zl_6, zl_7, zl_8, zl_9, zl_10, zl_12, zl_13, zl_14, zl_15, zl_16, zl_20, zl_32, zl_40, zl_48, zl_57, zl_59, zl_60, zl_63, zl_64, zl_97, zl_99, zl_101, zl_119, zl_120, zl_122, zl_128, zl_136, zl_152, zl_168, zl_184, zl_200, zl_201, zl_202, zl_203, zl_250, zl_255, zl_320, zl_999, zl_1000, c_isPerson hC hV, c_isSeed hC hV, cs_isCell, c_isShelf, c_isPair hC hV, c_isKind, c_isStoodOn hC hV hc, hz]) (fun m1 e1 hL1 => by unfold F_X11_wall; simp (disch := omega) only [↓zl_m1, zz_leT, zz_leF, zz_ltT, zz_ltF, zz_eqT, zz_eqF, zz_okN, zz_okF, nI_clamp, nI_add, pk_mul, pk_sub, zz_bS, zz_b2S, if_true, if_false, Bool.true_eq_false, Bool.false_eq_true, eq_self, ne_eq, not_true_eq_false, not_false_eq_true, false_or, or_false, true_or, or_true, and_true, true_and, and_false, false_and, mI_e, mI_e2, mI_le, mI_le2, mI_lt, mI_lt2, mI_ok, bI_0n, bI_1n, bI_orn, Nat.mul_zero, Nat.zero_add, Nat.add_zero, c_no2, c_no3, c_no4, c_no5, c_no6, r_no2, r_no3, r_no4, r_no5, r_no6, zk_inR, zk_in2, zk_in3, zk_wiN, Nat.reduceAdd, zl_0, zl_1, zl_2, zl_3, zl_4, zl_5, zl_6, zl_7, zl_8, zl_9, zl_10, zl_12, zl_13, zl_14, zl_15, zl_16, zl_20, zl_32, zl_40, zl_48, zl_57, zl_59, zl_60, zl_63, zl_64, zl_97, zl_99, zl_101, zl_119, zl_120, zl_122, zl_128, zl_136, zl_152, zl_168, zl_184, zl_200, zl_201, zl_202, zl_203, zl_250, zl_255, zl_320, zl_999, zl_1000, r_isOne hL1 hV, r_isSeed hL1 hV, cr_isCell, r_isShelf, r_areTwo hL1 hV, zk_wiN, hL1.w hc, bI_inj, e3, r_somebodyAt hL1 hV hc, hz])
        | false =>
          have fin2 := fin (.inl hz)
          have : F_X10_wall m (nI c) (bI true) = some (nI 1, ax_ul m 1 0 0 (lb (fun i => if i = c then true else gW G i))) := by
            unfold F_X10_wall; simp (disch := omega) only [↓zl_m1, zz_leT, zz_leF, zz_ltT, zz_ltF, zz_eqT, zz_eqF, zz_okN, zz_okF, nI_clamp, nI_add, pk_mul, pk_sub, zz_bS, zz_b2S, if_true, if_false, Bool.true_eq_false, Bool.false_eq_true, eq_self, ne_eq, not_true_eq_false, not_false_eq_true, false_or, or_false, true_or, or_true, and_true, true_and, and_false, false_and, mI_e, mI_e2, mI_le, mI_le2, mI_lt, mI_lt2, mI_ok, bI_0n, bI_1n, bI_orn, Nat.mul_zero, Nat.zero_add, Nat.add_zero, c_no2, c_no3, c_no4, c_no5, c_no6, r_no2, r_no3, r_no4, r_no5, r_no6, zk_inR, zk_in2, zk_in3, zk_wiN, Nat.reduceAdd, zl_0, zl_1, zl_2, zl_3, zl_4, zl_5, zl_6, zl_7, zl_8, zl_9, zl_10, zl_12, zl_13, zl_14, zl_15, zl_16, zl_20, zl_32, zl_40, zl_48, zl_57, zl_59, zl_60, zl_63, zl_64, zl_97, zl_99, zl_101, zl_119, zl_120, zl_122, zl_128, zl_136, zl_152, zl_168, zl_184, zl_200, zl_201, zl_202, zl_203, zl_250, zl_255, zl_320, zl_999, zl_1000, cs_isCell, c_hasWall hC hc, bI_inj, e3, c_putWall hC hc, c_isStoodOn hC hV hc, hz]
          rw [this]; exact fin2)
