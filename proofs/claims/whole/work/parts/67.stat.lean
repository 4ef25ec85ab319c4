/-! EACH STATEMENT, on both sides -/
def zvs (t : Nat → Nat) (n : Nat) (G : zG) (i s : Nat) (c r : ax_M → Option (Int32 × ax_M)) : Prop := ∃ ok i2 s2 G2, zV G2 ∧ i ≤ i2 ∧ i2 ≤ n ∧ gS G ≤ gS G2 ∧ (∀ m0 m, zcS m0 t n m i s G → ∃ m1, c m = some (bI ok, m1) ∧ zcS m0 t n m1 i2 s2 G2) ∧ (∀ m0 m, zqS m0 t n m i s G → ∃ m1, r m = some (bI ok, m1) ∧ zqS m0 t n m1 i2 s2 G2)
theorem wi63 (v : Int32) : F_X11_within v (nI 0) 63 = some (bI (ax_ok v 64)) := zk_wiN (n := 63) (by omega)
section
variable {t : Nat → Nat} {n i s : Nat} {G : zG} {c r : ax_M → Option (Int32 × ax_M)}
theorem zvs_no (hV : zV G) (hi : i ≤ n) (hc : ∀ m, zC m 2 G → c m = some (0, m)) (hr : ∀ m, zL m G → r m = some (0, m)) : zvs t n G i s c r :=
  ⟨false, i, s, G, hV, Nat.le_refl _, hi, Nat.le_refl _, fun _ m h => ⟨m, hc m h.2.2.2.1, h⟩, fun _ m h => ⟨m, hr m h.2.2.2.1, h⟩⟩
theorem zvs_ok {G2 : zG} (hi : i ≤ n) (hV : zV G2) (hs : gS G ≤ gS G2) (hc : ∀ m, zC m 2 G → ∃ m1, c m = some (1, m1) ∧ zGo m m1 2 G2) (hr : ∀ m, zL m G → ∃ m1, r m = some (1, m1) ∧ zLo m m1 G2) : zvs t n G i s c r := by
  refine ⟨true, i, s, G2, hV, Nat.le_refl _, hi, hs, fun m0 m h => ?_, fun m0 m h => ?_⟩
  · obtain ⟨m1, a1, a2⟩ := hc m h.2.2.2.1
    exact ⟨m1, a1, h.go a2⟩
  · obtain ⟨m1, a1, a2⟩ := hr m h.2.2.2.1
    exact ⟨m1, a1, h.go a2⟩
theorem zb2 {α β γ : Type} {X : Option (α × β)} {a : α} {m1 : β} {k : α → β → Option γ} {y : Option γ} (h : X = some (a, m1)) (h2 : k a m1 = y) : ax_b2 X k = y := by rw [h]; exact h2
theorem nI_nm {v : Nat} (hv : v < 2 ^ 31) : ¬ nI v = -1 := by rw [zl_m1, mI_e hv]; exact id
theorem zvs_num {b h : ax_M → Int32} {c' r' : Int32 → ax_M → Option (Int32 × ax_M)} (hV : zV G) (hn : n ≤ 250) (hb : ∀ i, i < n → t i < 256) (hi : i ≤ n) {B : Nat} (hB : B ≤ 1000) (hbm : ∀ m, zC m 2 G → b m = nI B) (hh : ∀ m, zL m G → ∀ v, F_X11_within v (nI 0) (h m) = some (bI (ax_ok v B))) (k : ∀ v, v < B → zvs t n G (zpa t n i) (zps t n i) (c' (nI v)) (r' (nI v))) : zvs t n G i s (fun m => ax_b2 (F_X4_readNumber m (b m)) (fun v m1 => if v = -1 then some (0, m1) else c' v m1)) (fun m => ax_b2 (F_X11_number m 0 (h m)) (fun v m1 => if v = -1 then some (0, m1) else r' v m1)) := by
  obtain ⟨p1, p2, p3⟩ := zpa_b (t := t) hi
  obtain ⟨q1, q2⟩ := zps_b (t := t) hi
  have cc : ∀ m0 m, zcS m0 t n m i s G → ∃ m1, F_X4_readNumber m (b m) = some (zlo2 (znm t n i B), m1) ∧ zcS m0 t n m1 (zpa t n i) (zps t n i) G := fun m0 m z => by
    rw [hbm m z.2.2.2.1]; exact cS_num hn hb z hi hB
  have rr : ∀ m0 m, zqS m0 t n m i s G → ∃ m1, F_X11_number m 0 (h m) = some (zlo2 (znm t n i B), m1) ∧ zqS m0 t n m1 (zpa t n i) (zps t n i) G := fun m0 m z => rS_num hn hb z hi hB (hh m z.2.2.2.1)
  obtain ⟨o, ho⟩ : ∃ o, o = znm t n i B := ⟨_, rfl⟩
  rw [← ho] at cc rr
  match o, ho with
  | none, _ =>
    refine ⟨false, zpa t n i, zps t n i, G, hV, by omega, p2, Nat.le_refl _, fun m0 m z => ?_, fun m0 m z => ?_⟩
    · obtain ⟨m1, a1, a2⟩ := cc m0 m z
      exact ⟨m1, zb2 a1 (if_pos rfl), a2⟩
    · obtain ⟨m1, a1, a2⟩ := rr m0 m z
      exact ⟨m1, zb2 a1 (if_pos rfl), a2⟩
  | some v, ho =>
    have hv := znm_lt ho.symm
    have nm := nI_nm (v := v) (by omega)
    obtain ⟨ok, i2, s2, G2, h1, h2, h3, h4, h5, h6⟩ := k v hv
    refine ⟨ok, i2, s2, G2, h1, by omega, h3, h4, fun m0 m z => ?_, fun m0 m z => ?_⟩
    · obtain ⟨m1, a1, a2⟩ := cc m0 m z
      obtain ⟨m2, b1, b2⟩ := h5 m0 m1 a2
      exact ⟨m2, zb2 a1 ((if_neg nm).trans b1), b2⟩
    · obtain ⟨m1, a1, a2⟩ := rr m0 m z
      obtain ⟨m2, b1, b2⟩ := h6 m0 m1 a2
      exact ⟨m2, zb2 a1 ((if_neg nm).trans b1), b2⟩
theorem zvs_floor {c' r' : Int32 → ax_M → Option (Int32 × ax_M)} (hV : zV G) (hn : n ≤ 250) (hb : ∀ i, i < n → t i < 256) (hi : i ≤ n) (k : ∀ v, v < 64 → gW G v = false → zvs t n G (zpa t n i) (zps t n i) (c' (nI v)) (r' (nI v))) : zvs t n G i s (fun m => ax_b2 (F_X4_readFloor m 2) (fun v m1 => if v = -1 then some (0, m1) else c' v m1)) (fun m => ax_b2 (F_X11_number m 0 63) (fun v m1 => if v = -1 then some (0, m1) else (if ax_ok v 64 = true then (if (m1.1 23 0 v.toNatClampNeg) = 0 then r' v m1 else some (0, m1)) else none))) := by
  obtain ⟨p1, p2, p3⟩ := zpa_b (t := t) hi
  obtain ⟨q1, q2⟩ := zps_b (t := t) hi
  have cc : ∀ m0 m, zcS m0 t n m i s G → ∃ m1, F_X4_readNumber m (nI 64) = some (zlo2 (znm t n i 64), m1) ∧ zcS m0 t n m1 (zpa t n i) (zps t n i) G := fun m0 m z => cS_num hn hb z hi (by omega)
  have rr : ∀ m0 m, zqS m0 t n m i s G → ∃ m1, F_X11_number m 0 63 = some (zlo2 (znm t n i 64), m1) ∧ zqS m0 t n m1 (zpa t n i) (zps t n i) G := fun m0 m z => rS_num hn hb z hi (by omega) wi63
  obtain ⟨o, ho⟩ : ∃ o, o = znm t n i 64 := ⟨_, rfl⟩
  rw [← ho] at cc rr
  match o, ho with
  | none, _ =>
    refine ⟨false, zpa t n i, zps t n i, G, hV, by omega, p2, Nat.le_refl _, fun m0 m z => ?_, fun m0 m z => ?_⟩
    · obtain ⟨m1, a1, a2⟩ := cc m0 m z
      exact ⟨m1, by unfold F_X4_readFloor; simp (disch := omega) only [↓zl_m1, zz_leT, zz_leF, zz_ltT, zz_ltF, zz_eqT, zz_eqF, zz_okN, zz_okF, nI_clamp, nI_add, pk_mul, pk_sub, zz_bS, zz_b2S, if_true, if_false, Bool.true_eq_false, Bool.false_eq_true, eq_self, ne_eq, not_true_eq_false, not_false_eq_true, false_or, or_false, true_or, or_true, and_true, true_and, and_false, false_and, mI_e, mI_e2, mI_le, mI_le2, mI_lt, mI_lt2, mI_ok, bI_0n, bI_1n, bI_orn, Nat.mul_zero, Nat.zero_add, Nat.add_zero, c_no2, c_no3, c_no4, c_no5, c_no6, r_no2, r_no3, r_no4, r_no5, r_no6, zk_inR, zk_in2, zk_in3, zk_wiN, Nat.reduceAdd, ngI_e, ngI_le, ngI_m, cs_cmpN, zl_0, zl_1, zl_2, zl_3, zl_4, zl_5, zl_6, zl_7, zl_8, zl_9, zl_10, zl_12, zl_13, zl_14, zl_15, zl_16, zl_20, zl_32, zl_40, zl_48, zl_57, zl_59, zl_60, zl_63, zl_64, zl_97, zl_99, zl_101, zl_119, zl_120, zl_122, zl_128, zl_136, zl_152, zl_168, zl_184, zl_200, zl_201, zl_202, zl_203, zl_250, zl_255, zl_320, zl_999, zl_1000, a1]; rfl, a2⟩
    · obtain ⟨m1, a1, a2⟩ := rr m0 m z
      exact ⟨m1, zb2 a1 (if_pos rfl), a2⟩
  | some v, ho =>
    have hv := znm_lt ho.symm
    have nm := nI_nm (v := v) (by omega)
    cases hw : gW G v with
    | true =>
      refine ⟨false, zpa t n i, zps t n i, G, hV, by omega, p2, Nat.le_refl _, fun m0 m z => ?_, fun m0 m z => ?_⟩
      · obtain ⟨m1, a1, a2⟩ := cc m0 m z
        have cw := c_hasWall a2.2.2.2.1 hv
        rw [hw] at cw
        have a1 : F_X4_readNumber m (nI 64) = some (nI v, m1) := a1
        exact ⟨m1, by unfold F_X4_readFloor; simp (disch := omega) only [↓zl_m1, zz_leT, zz_leF, zz_ltT, zz_ltF, zz_eqT, zz_eqF, zz_okN, zz_okF, nI_clamp, nI_add, pk_mul, pk_sub, zz_bS, zz_b2S, if_true, if_false, Bool.true_eq_false, Bool.false_eq_true, eq_self, ne_eq, not_true_eq_false, not_false_eq_true, false_or, or_false, true_or, or_true, and_true, true_and, and_false, false_and, mI_e, mI_e2, mI_le, mI_le2, mI_lt, mI_lt2, mI_ok, bI_0n, bI_1n, bI_orn, Nat.mul_zero, Nat.zero_add, Nat.add_zero, c_no2, c_no3, c_no4, c_no5, c_no6, r_no2, r_no3, r_no4, r_no5, r_no6, zk_inR, zk_in2, zk_in3, zk_wiN, Nat.reduceAdd, ngI_e, ngI_le, ngI_m, cs_cmpN, zl_0, zl_1, zl_2, zl_3, zl_4, zl_5, zl_6, zl_7, zl_8, zl_9, zl_10, zl_12, zl_13, zl_14, zl_15, zl_16, zl_20, zl_32, zl_40, zl_48, zl_57, zl_59, zl_60, zl_63, zl_64, zl_97, zl_99, zl_101, zl_119, zl_120, zl_122, zl_128, zl_136, zl_152, zl_168, zl_184, zl_200, zl_201, zl_202, zl_203, zl_250, zl_255, zl_320, zl_999, zl_1000, a1, cw]; rfl, a2⟩
      · obtain ⟨m1, a1, a2⟩ := rr m0 m z
        have rw0 := a2.2.2.2.1.w hv
        rw [hw] at rw0
        have a1 : F_X11_number m (nI 0) (nI 63) = some (nI v, m1) := a1
        exact ⟨m1, by simp (disch := omega) only [↓zl_m1, zz_leT, zz_leF, zz_ltT, zz_ltF, zz_eqT, zz_eqF, zz_okN, zz_okF, nI_clamp, nI_add, pk_mul, pk_sub, zz_bS, zz_b2S, if_true, if_false, Bool.true_eq_false, Bool.false_eq_true, eq_self, ne_eq, not_true_eq_false, not_false_eq_true, false_or, or_false, true_or, or_true, and_true, true_and, and_false, false_and, mI_e, mI_e2, mI_le, mI_le2, mI_lt, mI_lt2, mI_ok, bI_0n, bI_1n, bI_orn, Nat.mul_zero, Nat.zero_add, Nat.add_zero, c_no2, c_no3, c_no4, c_no5, c_no6, r_no2, r_no3, r_no4, r_no5, r_no6, zk_inR, zk_in2, zk_in3, zk_wiN, Nat.reduceAdd, ngI_e, ngI_le, ngI_m, cs_cmpN, zl_0, zl_1, zl_2, zl_3, zl_4, zl_5, zl_6, zl_7, zl_8, zl_9, zl_10, zl_12, zl_13, zl_14, zl_15, zl_16, zl_20, zl_32, zl_40, zl_48, zl_57, zl_59, zl_60, zl_63, zl_64, zl_97, zl_99, zl_101, zl_119, zl_120, zl_122, zl_128, zl_136, zl_152, zl_168, zl_184, zl_200, zl_201, zl_202, zl_203, zl_250, zl_255, zl_320, zl_999, zl_1000, a1, rw0]; rfl, a2⟩
    | false =>
      obtain ⟨ok, i2, s2, G2, h1, h2, h3, h4, h5, h6⟩ := k v hv hw
      refine ⟨ok, i2, s2, G2, h1, by omega, h3, h4, fun m0 m z => ?_, fun m0 m z => ?_⟩
      · obtain ⟨m1, a1, a2⟩ := cc m0 m z
        obtain ⟨m2, b1, b2⟩ := h5 m0 m1 a2
        have cw := c_hasWall a2.2.2.2.1 hv
        rw [hw] at cw
        have a1 : F_X4_readNumber m (nI 64) = some (nI v, m1) := a1
        exact ⟨m2, by unfold F_X4_readFloor; simp (disch := omega) only [↓zl_m1, zz_leT, zz_leF, zz_ltT, zz_ltF, zz_eqT, zz_eqF, zz_okN, zz_okF, nI_clamp, nI_add, pk_mul, pk_sub, zz_bS, zz_b2S, if_true, if_false, Bool.true_eq_false, Bool.false_eq_true, eq_self, ne_eq, not_true_eq_false, not_false_eq_true, false_or, or_false, true_or, or_true, and_true, true_and, and_false, false_and, mI_e, mI_e2, mI_le, mI_le2, mI_lt, mI_lt2, mI_ok, bI_0n, bI_1n, bI_orn, Nat.mul_zero, Nat.zero_add, Nat.add_zero, c_no2, c_no3, c_no4, c_no5, c_no6, r_no2, r_no3, r_no4, r_no5, r_no6, zk_inR, zk_in2, zk_in3, zk_wiN, Nat.reduceAdd, ngI_e, ngI_le, ngI_m, cs_cmpN, zl_0, zl_1, zl_2, zl_3, zl_4, zl_5, zl_6, zl_7, zl_8, zl_9, zl_10, zl_12, zl_13, zl_14, zl_15, zl_16, zl_20, zl_32, zl_40, zl_48, zl_57, zl_59, zl_60, zl_63, zl_64, zl_97, zl_99, zl_101, zl_119, zl_120, zl_122, zl_128, zl_136, zl_152, zl_168, zl_184, zl_200, zl_201, zl_202, zl_203, zl_250, zl_255, zl_320, zl_999, zl_1000, a1, cw]; exact b1, b2⟩
      · obtain ⟨m1, a1, a2⟩ := rr m0 m z
        obtain ⟨m2, b1, b2⟩ := h6 m0 m1 a2
        have rw0 := a2.2.2.2.1.w hv
        rw [hw] at rw0
        have a1 : F_X11_number m (nI 0) (nI 63) = some (nI v, m1) := a1
        exact ⟨m2, by simp (disch := omega) only [↓zl_m1, zz_leT, zz_leF, zz_ltT, zz_ltF, zz_eqT, zz_eqF, zz_okN, zz_okF, nI_clamp, nI_add, pk_mul, pk_sub, zz_bS, zz_b2S, if_true, if_false, Bool.true_eq_false, Bool.false_eq_true, eq_self, ne_eq, not_true_eq_false, not_false_eq_true, false_or, or_false, true_or, or_true, and_true, true_and, and_false, false_and, mI_e, mI_e2, mI_le, mI_le2, mI_lt, mI_lt2, mI_ok, bI_0n, bI_1n, bI_orn, Nat.mul_zero, Nat.zero_add, Nat.add_zero, c_no2, c_no3, c_no4, c_no5, c_no6, r_no2, r_no3, r_no4, r_no5, r_no6, zk_inR, zk_in2, zk_in3, zk_wiN, Nat.reduceAdd, ngI_e, ngI_le, ngI_m, cs_cmpN, zl_0, zl_1, zl_2, zl_3, zl_4, zl_5, zl_6, zl_7, zl_8, zl_9, zl_10, zl_12, zl_13, zl_14, zl_15, zl_16, zl_20, zl_32, zl_40, zl_48, zl_57, zl_59, zl_60, zl_63, zl_64, zl_97, zl_99, zl_101, zl_119, zl_120, zl_122, zl_128, zl_136, zl_152, zl_168, zl_184, zl_200, zl_201, zl_202, zl_203, zl_250, zl_255, zl_320, zl_999, zl_1000, a1, rw0]; exact b1, b2⟩
theorem wiP (hV : zV G) {m : ax_M} (h : zL m G) (v : Int32) : F_X11_within v (nI 0) ((m.1 22 0 1) - 1) = some (bI (ax_ok v (gP G))) := by
  have := hV.p
  rw [h.p]; exact zk_wi1 (by omega)
theorem z_wall (hV : zV G) (hn : n ≤ 250) (hb : ∀ i, i < n → t i < 256) (hi : i ≤ n) : zvs t n G i s (fun m => F_X4_readWall m 2) (fun m => ax_b2 (F_X11_number m 0 63) (fun r133 m134 => if r133 = (-1) then (some (0, m134)) else (ax_b (F_X11_somebodyAt m134 r133) (fun r138 => if r138 = 0 then (if ax_ok r133 64 = true then (some (1, (ax_ui m134 23 0 r133.toNatClampNeg 1))) else none) else (some (0, m134)))))) := by
  obtain ⟨p1, p2, p3⟩ := zpa_b (t := t) hi
  unfold F_X4_readWall
  refine zvs_num (B := 64) (b := fun _ => 64) (h := fun _ => 63) hV hn hb hi (by omega) (fun _ _ => rfl) (fun _ _ => wi63) (fun v hv => ?_)
  cases e : zany (fun p => decide (gO G p = v)) (gP G) with
  | true => exact zvs_no hV p2 (fun m h => by simp (disch := omega) only [↓zl_m1, zz_leT, zz_leF, zz_ltT, zz_ltF, zz_eqT, zz_eqF, zz_okN, zz_okF, nI_clamp, nI_add, pk_mul, pk_sub, zz_bS, zz_b2S, if_true, if_false, Bool.true_eq_false, Bool.false_eq_true, eq_self, ne_eq, not_true_eq_false, not_false_eq_true, false_or, or_false, true_or, or_true, and_true, true_and, and_false, false_and, mI_e, mI_e2, mI_le, mI_le2, mI_lt, mI_lt2, mI_ok, bI_0n, bI_1n, bI_orn, Nat.mul_zero, Nat.zero_add, Nat.add_zero, c_no2, c_no3, c_no4, c_no5, c_no6, r_no2, r_no3, r_no4, r_no5, r_no6, zk_inR, zk_in2, zk_in3, zk_wiN, Nat.reduceAdd, ngI_e, ngI_le, ngI_m, cs_cmpN, zl_0, zl_1, zl_2, zl_3, zl_4, zl_5, zl_6, zl_7, zl_8, zl_9, zl_10, zl_12, zl_13, zl_14, zl_15, zl_16, zl_20, zl_32, zl_40, zl_48, zl_57, zl_59, zl_60, zl_63, zl_64, zl_97, zl_99, zl_101, zl_119, zl_120, zl_122, zl_128, zl_136, zl_152, zl_168, zl_184, zl_200, zl_201, zl_202, zl_203, zl_250, zl_255, zl_320, zl_999, zl_1000, c_isStoodOn h hV hv, e]) (fun m h => by simp (disch := omega) only [↓zl_m1, zz_leT, zz_leF, zz_ltT, zz_ltF, zz_eqT, zz_eqF, zz_okN, zz_okF, nI_clamp, nI_add, pk_mul, pk_sub, zz_bS, zz_b2S, if_true, if_false, Bool.true_eq_false, Bool.false_eq_true, eq_self, ne_eq, not_true_eq_false, not_false_eq_true, false_or, or_false, true_or, or_true, and_true, true_and, and_false, false_and, mI_e, mI_e2, mI_le, mI_le2, mI_lt, mI_lt2, mI_ok, bI_0n, bI_1n, bI_orn, Nat.mul_zero, Nat.zero_add, Nat.add_zero, c_no2, c_no3, c_no4, c_no5, c_no6, r_no2, r_no3, r_no4, r_no5, r_no6, zk_inR, zk_in2, zk_in3, zk_wiN, Nat.reduceAdd, ngI_e, ngI_le, ngI_m, cs_cmpN, zl_0, zl_1, zl_2, zl_3, zl_4, zl_5, zl_6, zl_7, zl_8, zl_9, zl_10, zl_12, zl_13, zl_14, zl_15, zl_16, zl_20, zl_32, zl_40, zl_48, zl_57, zl_59, zl_60, zl_63, zl_64, zl_97, zl_99, zl_101, zl_119, zl_120, zl_122, zl_128, zl_136, zl_152, zl_168, zl_184, zl_200, zl_201, zl_202, zl_203, zl_250, zl_255, zl_320, zl_999, zl_1000, r_somebodyAt h hV hv, e])
  | false =>
    refine zvs_ok (G2 := zgw G (fun i => if i = v then true else gW G i)) p2 (hV.uw (fun p hp => ?_)) (Nat.le_refl _) (fun m h => ⟨_, ?_, go_w h _⟩) (fun m h => ⟨_, ?_, lo_w h true⟩)
    · have := zany_f.mp e p hp
      rw [if_neg (fun z => by rw [decide_eq_true z] at this; cases this)]
      exact hV.w hp
    · have pw : F_X3_putWall m 2 (nI v) (nI 1) = _ := c_putWall h hv true
      simp (disch := omega) only [↓zl_m1, zz_leT, zz_leF, zz_ltT, zz_ltF, zz_eqT, zz_eqF, zz_okN, zz_okF, nI_clamp, nI_add, pk_mul, pk_sub, zz_bS, zz_b2S, if_true, if_false, Bool.true_eq_false, Bool.false_eq_true, eq_self, ne_eq, not_true_eq_false, not_false_eq_true, false_or, or_false, true_or, or_true, and_true, true_and, and_false, false_and, mI_e, mI_e2, mI_le, mI_le2, mI_lt, mI_lt2, mI_ok, bI_0n, bI_1n, bI_orn, Nat.mul_zero, Nat.zero_add, Nat.add_zero, c_no2, c_no3, c_no4, c_no5, c_no6, r_no2, r_no3, r_no4, r_no5, r_no6, zk_inR, zk_in2, zk_in3, zk_wiN, Nat.reduceAdd, ngI_e, ngI_le, ngI_m, cs_cmpN, zl_0, zl_1, zl_2, zl_3, zl_4, zl_5, zl_6, zl_7, zl_8, zl_9, zl_10, zl_12, zl_13, zl_14, zl_15, zl_16, zl_20, zl_32, zl_40, zl_48, zl_57, zl_59, zl_60, zl_63, zl_64, zl_97, zl_99, zl_101, zl_119, zl_120, zl_122, zl_128, zl_136, zl_152, zl_168, zl_184, zl_200, zl_201, zl_202, zl_203, zl_250, zl_255, zl_320, zl_999, zl_1000, c_isStoodOn h hV hv, e, pw]
    · simp (disch := omega) only [↓zl_m1, zz_leT, zz_leF, zz_ltT, zz_ltF, zz_eqT, zz_eqF, zz_okN, zz_okF, nI_clamp, nI_add, pk_mul, pk_sub, zz_bS, zz_b2S, if_true, if_false, Bool.true_eq_false, Bool.false_eq_true, eq_self, ne_eq, not_true_eq_false, not_false_eq_true, false_or, or_false, true_or, or_true, and_true, true_and, and_false, false_and, mI_e, mI_e2, mI_le, mI_le2, mI_lt, mI_lt2, mI_ok, bI_0n, bI_1n, bI_orn, Nat.mul_zero, Nat.zero_add, Nat.add_zero, c_no2, c_no3, c_no4, c_no5, c_no6, r_no2, r_no3, r_no4, r_no5, r_no6, zk_inR, zk_in2, zk_in3, zk_wiN, Nat.reduceAdd, ngI_e, ngI_le, ngI_m, cs_cmpN, zl_0, zl_1, zl_2, zl_3, zl_4, zl_5, zl_6, zl_7, zl_8, zl_9, zl_10, zl_12, zl_13, zl_14, zl_15, zl_16, zl_20, zl_32, zl_40, zl_48, zl_57, zl_59, zl_60, zl_63, zl_64, zl_97, zl_99, zl_101, zl_119, zl_120, zl_122, zl_128, zl_136, zl_152, zl_168, zl_184, zl_200, zl_201, zl_202, zl_203, zl_250, zl_255, zl_320, zl_999, zl_1000, r_somebodyAt h hV hv, e]
      rfl
theorem z_open (hV : zV G) (hn : n ≤ 250) (hb : ∀ i, i < n → t i < 256) (hi : i ≤ n) : zvs t n G i s (fun m => F_X4_readOpen m 2) (fun m => ax_b2 (F_X11_number m 0 63) (fun r124 m125 => if r124 = (-1) then (some (0, m125)) else (if ax_ok r124 64 = true then (some (1, (ax_ui m125 23 0 r124.toNatClampNeg 0))) else none))) := by
  obtain ⟨p1, p2, p3⟩ := zpa_b (t := t) hi
  unfold F_X4_readOpen
  refine zvs_num (B := 64) (b := fun _ => 64) (h := fun _ => 63) hV hn hb hi (by omega) (fun _ _ => rfl) (fun _ _ => wi63) (fun v hv => ?_)
  refine zvs_ok (G2 := zgw G (fun i => if i = v then false else gW G i)) p2 (hV.uw (fun p hp => ?_)) (Nat.le_refl _) (fun m h => ⟨_, ?_, go_w h _⟩) (fun m h => ⟨_, ?_, lo_w h false⟩)
  · split
    · rfl
    · exact hV.w hp
  · have pw : F_X3_putWall m 2 (nI v) (nI 0) = _ := c_putWall h hv false
    simp (disch := omega) only [↓zl_m1, zz_leT, zz_leF, zz_ltT, zz_ltF, zz_eqT, zz_eqF, zz_okN, zz_okF, nI_clamp, nI_add, pk_mul, pk_sub, zz_bS, zz_b2S, if_true, if_false, Bool.true_eq_false, Bool.false_eq_true, eq_self, ne_eq, not_true_eq_false, not_false_eq_true, false_or, or_false, true_or, or_true, and_true, true_and, and_false, false_and, mI_e, mI_e2, mI_le, mI_le2, mI_lt, mI_lt2, mI_ok, bI_0n, bI_1n, bI_orn, Nat.mul_zero, Nat.zero_add, Nat.add_zero, c_no2, c_no3, c_no4, c_no5, c_no6, r_no2, r_no3, r_no4, r_no5, r_no6, zk_inR, zk_in2, zk_in3, zk_wiN, Nat.reduceAdd, ngI_e, ngI_le, ngI_m, cs_cmpN, zl_0, zl_1, zl_2, zl_3, zl_4, zl_5, zl_6, zl_7, zl_8, zl_9, zl_10, zl_12, zl_13, zl_14, zl_15, zl_16, zl_20, zl_32, zl_40, zl_48, zl_57, zl_59, zl_60, zl_63, zl_64, zl_97, zl_99, zl_101, zl_119, zl_120, zl_122, zl_128, zl_136, zl_152, zl_168, zl_184, zl_200, zl_201, zl_202, zl_203, zl_250, zl_255, zl_320, zl_999, zl_1000, pw]
  · simp (disch := omega) only [↓zl_m1, zz_leT, zz_leF, zz_ltT, zz_ltF, zz_eqT, zz_eqF, zz_okN, zz_okF, nI_clamp, nI_add, pk_mul, pk_sub, zz_bS, zz_b2S, if_true, if_false, Bool.true_eq_false, Bool.false_eq_true, eq_self, ne_eq, not_true_eq_false, not_false_eq_true, false_or, or_false, true_or, or_true, and_true, true_and, and_false, false_and, mI_e, mI_e2, mI_le, mI_le2, mI_lt, mI_lt2, mI_ok, bI_0n, bI_1n, bI_orn, Nat.mul_zero, Nat.zero_add, Nat.add_zero, c_no2, c_no3, c_no4, c_no5, c_no6, r_no2, r_no3, r_no4, r_no5, r_no6, zk_inR, zk_in2, zk_in3, zk_wiN, Nat.reduceAdd, ngI_e, ngI_le, ngI_m, cs_cmpN, zl_0, zl_1, zl_2, zl_3, zl_4, zl_5, zl_6, zl_7, zl_8, zl_9, zl_10, zl_12, zl_13, zl_14, zl_15, zl_16, zl_20, zl_32, zl_40, zl_48, zl_57, zl_59, zl_60, zl_63, zl_64, zl_97, zl_99, zl_101, zl_119, zl_120, zl_122, zl_128, zl_136, zl_152, zl_168, zl_184, zl_200, zl_201, zl_202, zl_203, zl_250, zl_255, zl_320, zl_999, zl_1000]
    rfl
theorem z_person (hV : zV G) (hn : n ≤ 250) (hb : ∀ i, i < n → t i < 256) (hi : i ≤ n) : zvs t n G i s (fun m => F_X4_readPerson m 2) (fun m => if (m.1 22 0 1) = 8 then (some (0, m)) else (ax_b2 (F_X11_number m 0 63) (fun r109 m110 => if r109 = (-1) then (some (0, m110)) else (if ax_ok r109 64 = true then (if (m110.1 23 0 r109.toNatClampNeg) = 0 then (ax_b2 (F_X11_newOne m110 r109) (fun r118 m119 => some (1, m119))) else (some (0, m110))) else (none))))) := by
  obtain ⟨p1, p2, p3⟩ := zpa_b (t := t) hi
  have hP := hV.p
  by_cases e : gP G < 8
  · have key := zvs_floor (s := s) (c' := fun r4 m5 => ax_b2 (F_X3_addPerson m5 2 r4) (fun r9 m10 => some (1, m10))) (r' := fun r109 m110 => ax_b2 (F_X11_newOne m110 r109) (fun r118 m119 => some (1, m119))) hV hn hb hi (fun v hv hw => by
      refine zvs_ok (G2 := zgu (zgu G 1 (gP G) v) 0 0 (gP G + 1)) p2 (hV.person e hv hw) (by unfold gS; rw [zgu_a (by decide), zgu_f (by decide)]; exact Nat.le_refl _) (fun m h => ?_) (fun m h => ?_)
      · obtain ⟨m1, a1, a2⟩ := c_addPerson h e v
        exact ⟨m1, by simp (disch := omega) only [↓zl_m1, zz_leT, zz_leF, zz_ltT, zz_ltF, zz_eqT, zz_eqF, zz_okN, zz_okF, nI_clamp, nI_add, pk_mul, pk_sub, zz_bS, zz_b2S, if_true, if_false, Bool.true_eq_false, Bool.false_eq_true, eq_self, ne_eq, not_true_eq_false, not_false_eq_true, false_or, or_false, true_or, or_true, and_true, true_and, and_false, false_and, mI_e, mI_e2, mI_le, mI_le2, mI_lt, mI_lt2, mI_ok, bI_0n, bI_1n, bI_orn, Nat.mul_zero, Nat.zero_add, Nat.add_zero, c_no2, c_no3, c_no4, c_no5, c_no6, r_no2, r_no3, r_no4, r_no5, r_no6, zk_inR, zk_in2, zk_in3, zk_wiN, Nat.reduceAdd, ngI_e, ngI_le, ngI_m, cs_cmpN, zl_0, zl_1, zl_2, zl_3, zl_4, zl_5, zl_6, zl_7, zl_8, zl_9, zl_10, zl_12, zl_13, zl_14, zl_15, zl_16, zl_20, zl_32, zl_40, zl_48, zl_57, zl_59, zl_60, zl_63, zl_64, zl_97, zl_99, zl_101, zl_119, zl_120, zl_122, zl_128, zl_136, zl_152, zl_168, zl_184, zl_200, zl_201, zl_202, zl_203, zl_250, zl_255, zl_320, zl_999, zl_1000, a1], a2⟩
      · obtain ⟨m1, a1, a2⟩ := r_newOne h hV e v
        exact ⟨m1, by simp (disch := omega) only [↓zl_m1, zz_leT, zz_leF, zz_ltT, zz_ltF, zz_eqT, zz_eqF, zz_okN, zz_okF, nI_clamp, nI_add, pk_mul, pk_sub, zz_bS, zz_b2S, if_true, if_false, Bool.true_eq_false, Bool.false_eq_true, eq_self, ne_eq, not_true_eq_false, not_false_eq_true, false_or, or_false, true_or, or_true, and_true, true_and, and_false, false_and, mI_e, mI_e2, mI_le, mI_le2, mI_lt, mI_lt2, mI_ok, bI_0n, bI_1n, bI_orn, Nat.mul_zero, Nat.zero_add, Nat.add_zero, c_no2, c_no3, c_no4, c_no5, c_no6, r_no2, r_no3, r_no4, r_no5, r_no6, zk_inR, zk_in2, zk_in3, zk_wiN, Nat.reduceAdd, ngI_e, ngI_le, ngI_m, cs_cmpN, zl_0, zl_1, zl_2, zl_3, zl_4, zl_5, zl_6, zl_7, zl_8, zl_9, zl_10, zl_12, zl_13, zl_14, zl_15, zl_16, zl_20, zl_32, zl_40, zl_48, zl_57, zl_59, zl_60, zl_63, zl_64, zl_97, zl_99, zl_101, zl_119, zl_120, zl_122, zl_128, zl_136, zl_152, zl_168, zl_184, zl_200, zl_201, zl_202, zl_203, zl_250, zl_255, zl_320, zl_999, zl_1000, a1], a2⟩)
    obtain ⟨ok, i2, s2, G2, h1, h2, h3, h4, h5, h6⟩ := key
    refine ⟨ok, i2, s2, G2, h1, h2, h3, h4, fun m0 m z => ?_, fun m0 m z => ?_⟩
    · obtain ⟨m1, a1, a2⟩ := h5 m0 m z
      refine ⟨m1, ?_, a2⟩
      unfold F_X4_readPerson
      exact (if_pos (by rw [z.2.2.2.1.p, zl_8, zz_lt (by omega) (by omega)]; exact e)).trans a1
    · obtain ⟨m1, a1, a2⟩ := h6 m0 m z
      refine ⟨m1, ?_, a2⟩
      exact (if_neg (by rw [z.2.2.2.1.p, zl_8, zz_eq (by omega) (by omega)]; omega)).trans a1
  · have e2 : gP G = 8 := by omega
    exact zvs_no hV hi (fun m h => by unfold F_X4_readPerson; simp (disch := omega) only [↓zl_m1, zz_leT, zz_leF, zz_ltT, zz_ltF, zz_eqT, zz_eqF, zz_okN, zz_okF, nI_clamp, nI_add, pk_mul, pk_sub, zz_bS, zz_b2S, if_true, if_false, Bool.true_eq_false, Bool.false_eq_true, eq_self, ne_eq, not_true_eq_false, not_false_eq_true, false_or, or_false, true_or, or_true, and_true, true_and, and_false, false_and, mI_e, mI_e2, mI_le, mI_le2, mI_lt, mI_lt2, mI_ok, bI_0n, bI_1n, bI_orn, Nat.mul_zero, Nat.zero_add, Nat.add_zero, c_no2, c_no3, c_no4, c_no5, c_no6, r_no2, r_no3, r_no4, r_no5, r_no6, zk_inR, zk_in2, zk_in3, zk_wiN, Nat.reduceAdd, ngI_e, ngI_le, ngI_m, cs_cmpN, zl_0, zl_1, zl_2, zl_3, zl_4, zl_5, zl_6, zl_7, zl_8, zl_9, zl_10, zl_12, zl_13, zl_14, zl_15, zl_16, zl_20, zl_32, zl_40, zl_48, zl_57, zl_59, zl_60, zl_63, zl_64, zl_97, zl_99, zl_101, zl_119, zl_120, zl_122, zl_128, zl_136, zl_152, zl_168, zl_184, zl_200, zl_201, zl_202, zl_203, zl_250, zl_255, zl_320, zl_999, zl_1000, h.p, e2]) (fun m h => by simp (disch := omega) only [↓zl_m1, zz_leT, zz_leF, zz_ltT, zz_ltF, zz_eqT, zz_eqF, zz_okN, zz_okF, nI_clamp, nI_add, pk_mul, pk_sub, zz_bS, zz_b2S, if_true, if_false, Bool.true_eq_false, Bool.false_eq_true, eq_self, ne_eq, not_true_eq_false, not_false_eq_true, false_or, or_false, true_or, or_true, and_true, true_and, and_false, false_and, mI_e, mI_e2, mI_le, mI_le2, mI_lt, mI_lt2, mI_ok, bI_0n, bI_1n, bI_orn, Nat.mul_zero, Nat.zero_add, Nat.add_zero, c_no2, c_no3, c_no4, c_no5, c_no6, r_no2, r_no3, r_no4, r_no5, r_no6, zk_inR, zk_in2, zk_in3, zk_wiN, Nat.reduceAdd, ngI_e, ngI_le, ngI_m, cs_cmpN, zl_0, zl_1, zl_2, zl_3, zl_4, zl_5, zl_6, zl_7, zl_8, zl_9, zl_10, zl_12, zl_13, zl_14, zl_15, zl_16, zl_20, zl_32, zl_40, zl_48, zl_57, zl_59, zl_60, zl_63, zl_64, zl_97, zl_99, zl_101, zl_119, zl_120, zl_122, zl_128, zl_136, zl_152, zl_168, zl_184, zl_200, zl_201, zl_202, zl_203, zl_250, zl_255, zl_320, zl_999, zl_1000, h.p, e2])
theorem z_owes (hV : zV G) (hn : n ≤ 250) (hb : ∀ i, i < n → t i < 256) (hi : i ≤ n) : zvs t n G i s (fun m => F_X4_readOwes m 2) (fun m => ax_b2 (F_X11_number m 0 ((m.1 22 0 1) - 1)) (fun r83 m84 => if r83 = (-1) then (some (0, m84)) else (ax_b2 (F_X11_number m84 0 ((m84.1 22 0 1) - 1)) (fun r88 m89 => if r88 = (-1) then (some (0, m89)) else (if r88 = r83 then (some (0, m89)) else (ax_b2 (F_X11_number m89 0 999) (fun r95 m96 => if r95 = (-1) then (some (0, m96)) else (if ax_ok ((8 * r83) + r88) 64 = true then (some (1, (ax_ui m96 25 0 ((8 * r83) + r88).toNatClampNeg r95))) else (none))))))))) := by
  obtain ⟨p1, p2, p3⟩ := zpa_b (t := t) hi
  have hP := hV.p
  unfold F_X4_readOwes
  refine zvs_num (B := gP G) (b := fun m => m.1 1 2 1) (h := fun m => (m.1 22 0 1) - 1) hV hn hb hi (by omega) (fun _ h => h.p) (fun _ h => wiP hV h) (fun v hv => ?_)
  refine zvs_num (B := gP G) (b := fun m => m.1 1 2 1) (h := fun m => (m.1 22 0 1) - 1) (c' := fun r7 m8 => if r7 = nI v then (some (0, m8)) else (ax_b2 (F_X4_readNumber m8 1000) (fun r14 m15 => if r14 = (-1) then (some (0, m15)) else (ax_b (F_X2_put m15 2 (nI v) r7 r14) (fun m20 => some (1, m20)))))) (r' := fun r88 m89 => if r88 = nI v then (some (0, m89)) else (ax_b2 (F_X11_number m89 0 999) (fun r95 m96 => if r95 = (-1) then (some (0, m96)) else (if ax_ok ((8 * nI v) + r88) 64 = true then (some (1, (ax_ui m96 25 0 ((8 * nI v) + r88).toNatClampNeg r95))) else (none))))) hV hn hb p2 (by omega) (fun _ h => h.p) (fun _ h => wiP hV h) (fun w hw => ?_)
  obtain ⟨p4, p5, p6⟩ := zpa_b (t := t) p2
  by_cases e : w = v
  · subst e
    exact zvs_no hV p5 (fun m h => if_pos rfl) (fun m h => if_pos rfl)
  · have e2 : ¬ nI w = nI v := by rw [zz_eq (by omega) (by omega)]; exact e
    simp only [if_neg e2]
    refine zvs_num (B := 1000) (b := fun _ => 1000) (h := fun _ => 999) hV hn hb p5 (by omega) (fun _ _ => rfl) (fun _ _ v => zk_wiN (n := 999) (by omega)) (fun x hx => ?_)
    obtain ⟨p7, p8, p9⟩ := zpa_b (t := t) p5
    refine zvs_ok (G2 := zgu G 2 (8 * v + w) x) p8 (hV.ud hv hw (fun z => e z.symm) (by omega)) (by unfold gS; rw [zgu_f (by decide)]; exact Nat.le_refl _) (fun m h => ⟨_, ?_, go_d h (show v < 8 by omega) (show w < 8 by omega) x⟩) (fun m h => ⟨_, ?_, lo_d h (show v < 8 by omega) (show w < 8 by omega) x⟩)
    · unfold F_X2_put
      simp (disch := omega) only [↓zl_m1, zz_leT, zz_leF, zz_ltT, zz_ltF, zz_eqT, zz_eqF, zz_okN, zz_okF, nI_clamp, nI_add, pk_mul, pk_sub, zz_bS, zz_b2S, if_true, if_false, Bool.true_eq_false, Bool.false_eq_true, eq_self, ne_eq, not_true_eq_false, not_false_eq_true, false_or, or_false, true_or, or_true, and_true, true_and, and_false, false_and, mI_e, mI_e2, mI_le, mI_le2, mI_lt, mI_lt2, mI_ok, bI_0n, bI_1n, bI_orn, Nat.mul_zero, Nat.zero_add, Nat.add_zero, c_no2, c_no3, c_no4, c_no5, c_no6, r_no2, r_no3, r_no4, r_no5, r_no6, zk_inR, zk_in2, zk_in3, zk_wiN, Nat.reduceAdd, ngI_e, ngI_le, ngI_m, cs_cmpN, zl_0, zl_1, zl_2, zl_3, zl_4, zl_5, zl_6, zl_7, zl_8, zl_9, zl_10, zl_12, zl_13, zl_14, zl_15, zl_16, zl_20, zl_32, zl_40, zl_48, zl_57, zl_59, zl_60, zl_63, zl_64, zl_97, zl_99, zl_101, zl_119, zl_120, zl_122, zl_128, zl_136, zl_152, zl_168, zl_184, zl_200, zl_201, zl_202, zl_203, zl_250, zl_255, zl_320, zl_999, zl_1000, Nat.mul_comm v 8]
    · simp (disch := omega) only [↓zl_m1, zz_leT, zz_leF, zz_ltT, zz_ltF, zz_eqT, zz_eqF, zz_okN, zz_okF, nI_clamp, nI_add, pk_mul, pk_sub, zz_bS, zz_b2S, if_true, if_false, Bool.true_eq_false, Bool.false_eq_true, eq_self, ne_eq, not_true_eq_false, not_false_eq_true, false_or, or_false, true_or, or_true, and_true, true_and, and_false, false_and, mI_e, mI_e2, mI_le, mI_le2, mI_lt, mI_lt2, mI_ok, bI_0n, bI_1n, bI_orn, Nat.mul_zero, Nat.zero_add, Nat.add_zero, c_no2, c_no3, c_no4, c_no5, c_no6, r_no2, r_no3, r_no4, r_no5, r_no6, zk_inR, zk_in2, zk_in3, zk_wiN, Nat.reduceAdd, ngI_e, ngI_le, ngI_m, cs_cmpN, zl_0, zl_1, zl_2, zl_3, zl_4, zl_5, zl_6, zl_7, zl_8, zl_9, zl_10, zl_12, zl_13, zl_14, zl_15, zl_16, zl_20, zl_32, zl_40, zl_48, zl_57, zl_59, zl_60, zl_63, zl_64, zl_97, zl_99, zl_101, zl_119, zl_120, zl_122, zl_128, zl_136, zl_152, zl_168, zl_184, zl_200, zl_201, zl_202, zl_203, zl_250, zl_255, zl_320, zl_999, zl_1000]
theorem z_seed (hV : zV G) (hn : n ≤ 250) (hb : ∀ i, i < n → t i < 256) (hi : i ≤ n) : zvs t n G i s (fun m => F_X4_readSeed m 2) (fun m => if (m.1 22 0 4) = 16 then (some (0, m)) else (ax_b2 (F_X11_number m 0 5) (fun r48 m49 => if r48 = (-1) then (some (0, m49)) else (ax_b2 (F_X11_number m49 0 9) (fun r56 m57 => if r56 = (-1) then (some (0, m57)) else (ax_b2 (F_X11_number m57 0 63) (fun r63 m64 => if r63 = (-1) then (some (0, m64)) else (ax_b2 (F_X11_number m64 0 ((m64.1 22 0 1) - 1)) (fun r69 m70 => if r69 = (-1) then (some (0, m70)) else (ax_b2 (F_X11_newSeed m70 r48 r56 r63 r69) (fun r74 m75 => some (1, m75)))))))))))) := by
  obtain ⟨p1, p2, p3⟩ := zpa_b (t := t) hi
  have hP := hV.p
  have hS := hV.s
  by_cases e : gS G < 16
  · have key : zvs t n G i s (fun m => ax_b2 (F_X4_readNumber m 6) (fun r4 m5 => if r4 = (-1) then (some (0, m5)) else (ax_b2 (F_X4_readNumber m5 10) (fun r9 m10 => if r9 = (-1) then (some (0, m10)) else (ax_b2 (F_X4_readNumber m10 64) (fun r14 m15 => if r14 = (-1) then (some (0, m15)) else (ax_b2 (F_X4_readNumber m15 (m15.1 1 2 1)) (fun r19 m20 => if r19 = (-1) then (some (0, m20)) else (ax_b2 (F_X3_addSeed m20 2 r4 r9 r14 r19) (fun r24 m25 => some (1, m25))))))))))) (fun m => ax_b2 (F_X11_number m 0 5) (fun r48 m49 => if r48 = (-1) then (some (0, m49)) else (ax_b2 (F_X11_number m49 0 9) (fun r56 m57 => if r56 = (-1) then (some (0, m57)) else (ax_b2 (F_X11_number m57 0 63) (fun r63 m64 => if r63 = (-1) then (some (0, m64)) else (ax_b2 (F_X11_number m64 0 ((m64.1 22 0 1) - 1)) (fun r69 m70 => if r69 = (-1) then (some (0, m70)) else (ax_b2 (F_X11_newSeed m70 r48 r56 r63 r69) (fun r74 m75 => some (1, m75))))))))))) := by
      refine zvs_num (B := 6) (b := fun _ => 6) (h := fun _ => 5) hV hn hb hi (by omega) (fun _ _ => rfl) (fun _ _ v => zk_wiN (n := 5) (by omega)) (fun a ha => ?_)
      refine zvs_num (B := 10) (b := fun _ => 10) (h := fun _ => 9) hV hn hb p2 (by omega) (fun _ _ => rfl) (fun _ _ v => zk_wiN (n := 9) (by omega)) (fun b hb2 => ?_)
      obtain ⟨p4, p5, p6⟩ := zpa_b (t := t) p2
      refine zvs_num (B := 64) (b := fun _ => 64) (h := fun _ => 63) hV hn hb p5 (by omega) (fun _ _ => rfl) (fun _ _ => wi63) (fun c hc => ?_)
      obtain ⟨p7, p8, p9⟩ := zpa_b (t := t) p5
      refine zvs_num (B := gP G) (b := fun m => m.1 1 2 1) (h := fun m => (m.1 22 0 1) - 1) hV hn hb p8 (by omega) (fun _ h => h.p) (fun _ h => wiP hV h) (fun d hd => ?_)
      obtain ⟨p10, p11, p12⟩ := zpa_b (t := t) p8
      refine zvs_ok (G2 := zgs G a b c d) p11 (hV.sow e ha (by omega) hc hd) (by show gS G ≤ gS (zgs G a b c d); rw [show gS (zgs G a b c d) = gS G + 1 from zgu_s]; omega) (fun m h => ?_) (fun m h => ?_)
      · obtain ⟨m1, a1, a2⟩ := c_addSeed h e a b c d
        exact ⟨m1, by simp (disch := omega) only [↓zl_m1, zz_leT, zz_leF, zz_ltT, zz_ltF, zz_eqT, zz_eqF, zz_okN, zz_okF, nI_clamp, nI_add, pk_mul, pk_sub, zz_bS, zz_b2S, if_true, if_false, Bool.true_eq_false, Bool.false_eq_true, eq_self, ne_eq, not_true_eq_false, not_false_eq_true, false_or, or_false, true_or, or_true, and_true, true_and, and_false, false_and, mI_e, mI_e2, mI_le, mI_le2, mI_lt, mI_lt2, mI_ok, bI_0n, bI_1n, bI_orn, Nat.mul_zero, Nat.zero_add, Nat.add_zero, c_no2, c_no3, c_no4, c_no5, c_no6, r_no2, r_no3, r_no4, r_no5, r_no6, zk_inR, zk_in2, zk_in3, zk_wiN, Nat.reduceAdd, ngI_e, ngI_le, ngI_m, cs_cmpN, zl_0, zl_1, zl_2, zl_3, zl_4, zl_5, zl_6, zl_7, zl_8, zl_9, zl_10, zl_12, zl_13, zl_14, zl_15, zl_16, zl_20, zl_32, zl_40, zl_48, zl_57, zl_59, zl_60, zl_63, zl_64, zl_97, zl_99, zl_101, zl_119, zl_120, zl_122, zl_128, zl_136, zl_152, zl_168, zl_184, zl_200, zl_201, zl_202, zl_203, zl_250, zl_255, zl_320, zl_999, zl_1000, a1], a2⟩
      · obtain ⟨m1, a1, a2⟩ := r_newSeed h e a b c d
        exact ⟨m1, by simp (disch := omega) only [↓zl_m1, zz_leT, zz_leF, zz_ltT, zz_ltF, zz_eqT, zz_eqF, zz_okN, zz_okF, nI_clamp, nI_add, pk_mul, pk_sub, zz_bS, zz_b2S, if_true, if_false, Bool.true_eq_false, Bool.false_eq_true, eq_self, ne_eq, not_true_eq_false, not_false_eq_true, false_or, or_false, true_or, or_true, and_true, true_and, and_false, false_and, mI_e, mI_e2, mI_le, mI_le2, mI_lt, mI_lt2, mI_ok, bI_0n, bI_1n, bI_orn, Nat.mul_zero, Nat.zero_add, Nat.add_zero, c_no2, c_no3, c_no4, c_no5, c_no6, r_no2, r_no3, r_no4, r_no5, r_no6, zk_inR, zk_in2, zk_in3, zk_wiN, Nat.reduceAdd, ngI_e, ngI_le, ngI_m, cs_cmpN, zl_0, zl_1, zl_2, zl_3, zl_4, zl_5, zl_6, zl_7, zl_8, zl_9, zl_10, zl_12, zl_13, zl_14, zl_15, zl_16, zl_20, zl_32, zl_40, zl_48, zl_57, zl_59, zl_60, zl_63, zl_64, zl_97, zl_99, zl_101, zl_119, zl_120, zl_122, zl_128, zl_136, zl_152, zl_168, zl_184, zl_200, zl_201, zl_202, zl_203, zl_250, zl_255, zl_320, zl_999, zl_1000, a1], a2⟩
    obtain ⟨ok, i2, s2, G2, h1, h2, h3, h4, h5, h6⟩ := key
    refine ⟨ok, i2, s2, G2, h1, h2, h3, h4, fun m0 m z => ?_, fun m0 m z => ?_⟩
    · obtain ⟨m1, a1, a2⟩ := h5 m0 m z
      refine ⟨m1, ?_, a2⟩
      unfold F_X4_readSeed
      exact (if_pos (by rw [z.2.2.2.1.s, zl_16, zz_lt (by omega) (by omega)]; exact e)).trans a1
    · obtain ⟨m1, a1, a2⟩ := h6 m0 m z
      refine ⟨m1, ?_, a2⟩
      exact (if_neg (by rw [z.2.2.2.1.s, zl_16, zz_eq (by omega) (by omega)]; omega)).trans a1
  · have e2 : gS G = 16 := by omega
    exact zvs_no hV hi (fun m h => by unfold F_X4_readSeed; simp (disch := omega) only [↓zl_m1, zz_leT, zz_leF, zz_ltT, zz_ltF, zz_eqT, zz_eqF, zz_okN, zz_okF, nI_clamp, nI_add, pk_mul, pk_sub, zz_bS, zz_b2S, if_true, if_false, Bool.true_eq_false, Bool.false_eq_true, eq_self, ne_eq, not_true_eq_false, not_false_eq_true, false_or, or_false, true_or, or_true, and_true, true_and, and_false, false_and, mI_e, mI_e2, mI_le, mI_le2, mI_lt, mI_lt2, mI_ok, bI_0n, bI_1n, bI_orn, Nat.mul_zero, Nat.zero_add, Nat.add_zero, c_no2, c_no3, c_no4, c_no5, c_no6, r_no2, r_no3, r_no4, r_no5, r_no6, zk_inR, zk_in2, zk_in3, zk_wiN, Nat.reduceAdd, ngI_e, ngI_le, ngI_m, cs_cmpN, zl_0, zl_1, zl_2, zl_3, zl_4, zl_5, zl_6, zl_7, zl_8, zl_9, zl_10, zl_12, zl_13, zl_14, zl_15, zl_16, zl_20, zl_32, zl_40, zl_48, zl_57, zl_59, zl_60, zl_63, zl_64, zl_97, zl_99, zl_101, zl_119, zl_120, zl_122, zl_128, zl_136, zl_152, zl_168, zl_184, zl_200, zl_201, zl_202, zl_203, zl_250, zl_255, zl_320, zl_999, zl_1000, h.s, e2]) (fun m h => by simp (disch := omega) only [↓zl_m1, zz_leT, zz_leF, zz_ltT, zz_ltF, zz_eqT, zz_eqF, zz_okN, zz_okF, nI_clamp, nI_add, pk_mul, pk_sub, zz_bS, zz_b2S, if_true, if_false, Bool.true_eq_false, Bool.false_eq_true, eq_self, ne_eq, not_true_eq_false, not_false_eq_true, false_or, or_false, true_or, or_true, and_true, true_and, and_false, false_and, mI_e, mI_e2, mI_le, mI_le2, mI_lt, mI_lt2, mI_ok, bI_0n, bI_1n, bI_orn, Nat.mul_zero, Nat.zero_add, Nat.add_zero, c_no2, c_no3, c_no4, c_no5, c_no6, r_no2, r_no3, r_no4, r_no5, r_no6, zk_inR, zk_in2, zk_in3, zk_wiN, Nat.reduceAdd, ngI_e, ngI_le, ngI_m, cs_cmpN, zl_0, zl_1, zl_2, zl_3, zl_4, zl_5, zl_6, zl_7, zl_8, zl_9, zl_10, zl_12, zl_13, zl_14, zl_15, zl_16, zl_20, zl_32, zl_40, zl_48, zl_57, zl_59, zl_60, zl_63, zl_64, zl_97, zl_99, zl_101, zl_119, zl_120, zl_122, zl_128, zl_136, zl_152, zl_168, zl_184, zl_200, zl_201, zl_202, zl_203, zl_250, zl_255, zl_320, zl_999, zl_1000, h.s, e2])
theorem z_go (hV : zV G) (hn : n ≤ 250) (hb : ∀ i, i < n → t i < 256) (hi : i ≤ n) : zvs t n G i s (fun m => F_X4_readGo m 2) (fun m => ax_b2 (F_X11_number m 0 ((m.1 22 0 1) - 1)) (fun r26 m27 => if r26 = (-1) then (some (0, m27)) else (ax_b2 (F_X11_number m27 0 63) (fun r32 m33 => if r32 = (-1) then (some (0, m33)) else (if ax_ok r32 64 = true then (if (m33.1 23 0 r32.toNatClampNeg) = 0 then (if ax_ok r26 8 = true then (some (1, (ax_ui m33 24 0 r26.toNatClampNeg r32))) else (none)) else (some (0, m33))) else (none)))))) := by
  obtain ⟨p1, p2, p3⟩ := zpa_b (t := t) hi
  have hP := hV.p
  unfold F_X4_readGo
  refine zvs_num (B := gP G) (b := fun m => m.1 1 2 1) (h := fun m => (m.1 22 0 1) - 1) hV hn hb hi (by omega) (fun _ h => h.p) (fun _ h => wiP hV h) (fun v hv => ?_)
  refine zvs_floor (c' := fun r7 m8 => if ax_ok (nI v) 8 = true then (some (1, (ax_ui m8 2 2 (nI v).toNatClampNeg r7))) else (none)) (r' := fun r32 m33 => if ax_ok (nI v) 8 = true then (some (1, (ax_ui m33 24 0 (nI v).toNatClampNeg r32))) else (none)) hV hn hb p2 (fun w hw hw2 => ?_)
  obtain ⟨p4, p5, p6⟩ := zpa_b (t := t) p2
  refine zvs_ok (G2 := zgu G 1 v w) p5 (hV.uo hw hw2) (by unfold gS; rw [zgu_f (by decide)]; exact Nat.le_refl _) (fun m h => ⟨_, ?_, go_o h (show v < 8 by omega) w⟩) (fun m h => ⟨_, ?_, lo_o h (show v < 8 by omega) w⟩)
  · simp (disch := omega) only [↓zl_m1, zz_leT, zz_leF, zz_ltT, zz_ltF, zz_eqT, zz_eqF, zz_okN, zz_okF, nI_clamp, nI_add, pk_mul, pk_sub, zz_bS, zz_b2S, if_true, if_false, Bool.true_eq_false, Bool.false_eq_true, eq_self, ne_eq, not_true_eq_false, not_false_eq_true, false_or, or_false, true_or, or_true, and_true, true_and, and_false, false_and, mI_e, mI_e2, mI_le, mI_le2, mI_lt, mI_lt2, mI_ok, bI_0n, bI_1n, bI_orn, Nat.mul_zero, Nat.zero_add, Nat.add_zero, c_no2, c_no3, c_no4, c_no5, c_no6, r_no2, r_no3, r_no4, r_no5, r_no6, zk_inR, zk_in2, zk_in3, zk_wiN, Nat.reduceAdd, ngI_e, ngI_le, ngI_m, cs_cmpN, zl_0, zl_1, zl_2, zl_3, zl_4, zl_5, zl_6, zl_7, zl_8, zl_9, zl_10, zl_12, zl_13, zl_14, zl_15, zl_16, zl_20, zl_32, zl_40, zl_48, zl_57, zl_59, zl_60, zl_63, zl_64, zl_97, zl_99, zl_101, zl_119, zl_120, zl_122, zl_128, zl_136, zl_152, zl_168, zl_184, zl_200, zl_201, zl_202, zl_203, zl_250, zl_255, zl_320, zl_999, zl_1000]
  · simp (disch := omega) only [↓zl_m1, zz_leT, zz_leF, zz_ltT, zz_ltF, zz_eqT, zz_eqF, zz_okN, zz_okF, nI_clamp, nI_add, pk_mul, pk_sub, zz_bS, zz_b2S, if_true, if_false, Bool.true_eq_false, Bool.false_eq_true, eq_self, ne_eq, not_true_eq_false, not_false_eq_true, false_or, or_false, true_or, or_true, and_true, true_and, and_false, false_and, mI_e, mI_e2, mI_le, mI_le2, mI_lt, mI_lt2, mI_ok, bI_0n, bI_1n, bI_orn, Nat.mul_zero, Nat.zero_add, Nat.add_zero, c_no2, c_no3, c_no4, c_no5, c_no6, r_no2, r_no3, r_no4, r_no5, r_no6, zk_inR, zk_in2, zk_in3, zk_wiN, Nat.reduceAdd, ngI_e, ngI_le, ngI_m, cs_cmpN, zl_0, zl_1, zl_2, zl_3, zl_4, zl_5, zl_6, zl_7, zl_8, zl_9, zl_10, zl_12, zl_13, zl_14, zl_15, zl_16, zl_20, zl_32, zl_40, zl_48, zl_57, zl_59, zl_60, zl_63, zl_64, zl_97, zl_99, zl_101, zl_119, zl_120, zl_122, zl_128, zl_136, zl_152, zl_168, zl_184, zl_200, zl_201, zl_202, zl_203, zl_250, zl_255, zl_320, zl_999, zl_1000]
end
