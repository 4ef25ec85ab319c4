/-! THE TAPE as statements: the garden's own call -/
theorem nI_ex (v : Int32) : ∃ s, v = nI s := ⟨v.toBitVec.toNat, by unfold nI; apply Int32.toBitVec_inj.mp; simp⟩
theorem ztI_101 {k l : Nat} : (ztI k l = nI 101) = (k = 0) := by
  unfold ztI
  refine propext ?_
  by_cases e0 : k = 0
  · rw [if_pos e0]; exact ⟨fun _ => e0, fun _ => rfl⟩
  · by_cases e1 : k = 1
    · rw [if_neg e0, if_pos e1, zz_eq (by omega) (by omega)]; omega
    · by_cases e2 : k = 2
      · rw [if_neg e0, if_neg e1, if_pos e2]
        by_cases e3 : l ≤ 3
        · rw [if_pos e3, zz_eq (by omega) (by omega)]; omega
        · rw [if_neg e3, zz_eq (by omega) (by omega)]; omega
      · by_cases e3 : k = 3
        · rw [if_neg e0, if_neg e1, if_neg e2, if_pos e3, zz_eq (by omega) (by omega)]; omega
        · rw [if_neg e0, if_neg e1, if_neg e2, if_neg e3, zz_eq (by omega) (by omega)]; omega
theorem ztI_59 {k l : Nat} : (ztI k l = nI 59) = (k = 3) := by
  unfold ztI
  refine propext ?_
  by_cases e0 : k = 0
  · rw [if_pos e0, zz_eq (by omega) (by omega)]; omega
  · by_cases e1 : k = 1
    · rw [if_neg e0, if_pos e1, zz_eq (by omega) (by omega)]; omega
    · by_cases e2 : k = 2
      · rw [if_neg e0, if_neg e1, if_pos e2]
        by_cases e3 : l ≤ 3
        · rw [if_pos e3, zz_eq (by omega) (by omega)]; omega
        · rw [if_neg e3, zz_eq (by omega) (by omega)]; omega
      · by_cases e3 : k = 3
        · rw [if_neg e0, if_neg e1, if_neg e2, if_pos e3]; exact ⟨fun _ => e3, fun _ => rfl⟩
        · rw [if_neg e0, if_neg e1, if_neg e2, if_neg e3, zz_eq (by omega) (by omega)]; omega
section
variable {t : Nat → Nat} {n i : Nat} {G : zG}
def zrd (t : Nat → Nat) (n : Nat) (G : zG) (i : Nat) (W : Nat → Bool) : Prop := ∃ ok i2 s2 G2, zV G2 ∧ (ok = true → ∃ g, g < 6 ∧ W g = true) ∧ zpa t n i ≤ i2 ∧ i2 ≤ n ∧ gS G ≤ gS G2 ∧ (s2 = zps t n i ∨ s2 ≤ n) ∧ (∀ m0 m, zcS m0 t n m (zpa t n i) (zps t n i) G → (∀ g, g < 6 → F_X4_isWord m g = some (bI (W g))) → ∃ m1, (ax_b (F_X4_isWord m 0) (fun r5 => if r5 = 0 then (ax_b (F_X4_isWord m 1) (fun r9 => if r9 = 0 then (ax_b (F_X4_isWord m 2) (fun r13 => if r13 = 0 then (ax_b (F_X4_isWord m 3) (fun r17 => if r17 = 0 then (ax_b (F_X4_isWord m 4) (fun r21 => if r21 = 0 then (ax_b (F_X4_isWord m 5) (fun r25 => if r25 = 0 then (some (0, m)) else (ax_b2 (F_X4_readGo m 2) (fun r29 m30 => if r29 = 0 then (some (0, m30)) else (some (1, m30)))))) else (ax_b2 (F_X4_readSeed m 2) (fun r36 m37 => if r36 = 0 ∨ r36 = 1 then some (r36, m37) else none)))) else (ax_b2 (F_X4_readOwes m 2) (fun r42 m43 => if r42 = 0 ∨ r42 = 1 then some (r42, m43) else none)))) else (ax_b2 (F_X4_readPerson m 2) (fun r48 m49 => if r48 = 0 ∨ r48 = 1 then some (r48, m49) else none)))) else (ax_b2 (F_X4_readOpen m 2) (fun r54 m55 => if r54 = 0 ∨ r54 = 1 then some (r54, m55) else none)))) else (ax_b2 (F_X4_readWall m 2) (fun r60 m61 => if r60 = 0 ∨ r60 = 1 then some (r60, m61) else none)))) = some (bI ok, m1) ∧ zcS m0 t n m1 i2 s2 G2) ∧ (∀ m0 m, zqS m0 t n m (zpa t n i) (zps t n i) G → (∀ g, g < 6 → F_X11_isWord m g = some (bI (W g))) → ∃ m1, F_X11_statement m = some (bI ok, m1) ∧ zqS m0 t n m1 i2 s2 G2)
theorem zrd_of {W : Nat → Bool} {c r : ax_M → Option (Int32 × ax_M)} {g : Nat} (hg : g < 6) (hW : W g = true) (h : zvs t n G (zpa t n i) (zps t n i) c r) (hc : ∀ m m1 ok, (∀ g, g < 6 → F_X4_isWord m g = some (bI (W g))) → c m = some (bI ok, m1) → (ax_b (F_X4_isWord m 0) (fun r5 => if r5 = 0 then (ax_b (F_X4_isWord m 1) (fun r9 => if r9 = 0 then (ax_b (F_X4_isWord m 2) (fun r13 => if r13 = 0 then (ax_b (F_X4_isWord m 3) (fun r17 => if r17 = 0 then (ax_b (F_X4_isWord m 4) (fun r21 => if r21 = 0 then (ax_b (F_X4_isWord m 5) (fun r25 => if r25 = 0 then (some (0, m)) else (ax_b2 (F_X4_readGo m 2) (fun r29 m30 => if r29 = 0 then (some (0, m30)) else (some (1, m30)))))) else (ax_b2 (F_X4_readSeed m 2) (fun r36 m37 => if r36 = 0 ∨ r36 = 1 then some (r36, m37) else none)))) else (ax_b2 (F_X4_readOwes m 2) (fun r42 m43 => if r42 = 0 ∨ r42 = 1 then some (r42, m43) else none)))) else (ax_b2 (F_X4_readPerson m 2) (fun r48 m49 => if r48 = 0 ∨ r48 = 1 then some (r48, m49) else none)))) else (ax_b2 (F_X4_readOpen m 2) (fun r54 m55 => if r54 = 0 ∨ r54 = 1 then some (r54, m55) else none)))) else (ax_b2 (F_X4_readWall m 2) (fun r60 m61 => if r60 = 0 ∨ r60 = 1 then some (r60, m61) else none)))) = some (bI ok, m1)) (hr : ∀ m, (∀ g, g < 6 → F_X11_isWord m g = some (bI (W g))) → F_X11_statement m = r m) : zrd t n G i W := by
  obtain ⟨ok, i2, s2, G2, h1, h2, h3, h4, hs, h5, h6⟩ := h
  refine ⟨ok, i2, s2, G2, h1, fun _ => ⟨g, hg, hW⟩, h2, h3, h4, hs, fun m0 m z w => ?_, fun m0 m z w => ?_⟩
  · obtain ⟨m1, a1, a2⟩ := h5 m0 m z
    exact ⟨m1, hc m m1 ok w a1, a2⟩
  · obtain ⟨m1, a1, a2⟩ := h6 m0 m z
    exact ⟨m1, by rw [hr m w]; exact a1, a2⟩
theorem zrd_all (hV : zV G) (hn : n ≤ 250) (hb : ∀ i, i < n → t i < 256) (hi : i ≤ n) (W : Nat → Bool) : zrd t n G i W := by
  obtain ⟨p1, p2, p3⟩ := zpa_b (t := t) hi
  have f0 : bI false = 0 := rfl
  have t0 : ¬ bI true = 0 := by decide
  have b0 : ∀ b, (bI b = 0 ∨ bI b = 1) := fun b => by cases b <;> decide
  cases e0 : W 0 with
  | true =>
    refine zrd_of (g := 0) (by omega) e0 (z_wall hV hn hb p2) (fun m m1 ok w a => ?_) (fun m w => ?_)
    · have w0 := w 0 (by omega)
      rw [e0] at w0
      rw [w0, zz_bS, if_neg t0]
      exact zb2 a (if_pos (b0 ok))
    · have w0 := w 0 (by omega)
      rw [e0] at w0
      rw [F_X11_statement, w0, zz_bS, if_neg t0]
  | false =>
  cases e1 : W 1 with
  | true =>
    refine zrd_of (g := 1) (by omega) e1 (z_open hV hn hb p2) (fun m m1 ok w a => ?_) (fun m w => ?_)
    · have w0 := w 0 (by omega)
      have w1 := w 1 (by omega)
      rw [e0] at w0
      rw [e1] at w1
      rw [w0, zz_bS, if_pos f0, w1, zz_bS, if_neg t0]
      exact zb2 a (if_pos (b0 ok))
    · have w0 := w 0 (by omega)
      have w1 := w 1 (by omega)
      rw [e0] at w0
      rw [e1] at w1
      rw [F_X11_statement, w0, zz_bS, if_pos f0, w1, zz_bS, if_neg t0]
  | false =>
  cases e2 : W 2 with
  | true =>
    refine zrd_of (g := 2) (by omega) e2 (z_person hV hn hb p2) (fun m m1 ok w a => ?_) (fun m w => ?_)
    · have w0 := w 0 (by omega)
      have w1 := w 1 (by omega)
      have w2 := w 2 (by omega)
      rw [e0] at w0
      rw [e1] at w1
      rw [e2] at w2
      rw [w0, zz_bS, if_pos f0, w1, zz_bS, if_pos f0, w2, zz_bS, if_neg t0]
      exact zb2 a (if_pos (b0 ok))
    · have w0 := w 0 (by omega)
      have w1 := w 1 (by omega)
      have w2 := w 2 (by omega)
      rw [e0] at w0
      rw [e1] at w1
      rw [e2] at w2
      rw [F_X11_statement, w0, zz_bS, if_pos f0, w1, zz_bS, if_pos f0, w2, zz_bS, if_neg t0]
  | false =>
  cases e3 : W 3 with
  | true =>
    refine zrd_of (g := 3) (by omega) e3 (z_owes hV hn hb p2) (fun m m1 ok w a => ?_) (fun m w => ?_)
    · have w0 := w 0 (by omega)
      have w1 := w 1 (by omega)
      have w2 := w 2 (by omega)
      have w3 := w 3 (by omega)
      rw [e0] at w0
      rw [e1] at w1
      rw [e2] at w2
      rw [e3] at w3
      rw [w0, zz_bS, if_pos f0, w1, zz_bS, if_pos f0, w2, zz_bS, if_pos f0, w3, zz_bS, if_neg t0]
      exact zb2 a (if_pos (b0 ok))
    · have w0 := w 0 (by omega)
      have w1 := w 1 (by omega)
      have w2 := w 2 (by omega)
      have w3 := w 3 (by omega)
      rw [e0] at w0
      rw [e1] at w1
      rw [e2] at w2
      rw [e3] at w3
      rw [F_X11_statement, w0, zz_bS, if_pos f0, w1, zz_bS, if_pos f0, w2, zz_bS, if_pos f0, w3, zz_bS, if_neg t0]
  | false =>
  cases e4 : W 4 with
  | true =>
    refine zrd_of (g := 4) (by omega) e4 (z_seed hV hn hb p2) (fun m m1 ok w a => ?_) (fun m w => ?_)
    · have w0 := w 0 (by omega)
      have w1 := w 1 (by omega)
      have w2 := w 2 (by omega)
      have w3 := w 3 (by omega)
      have w4 := w 4 (by omega)
      rw [e0] at w0
      rw [e1] at w1
      rw [e2] at w2
      rw [e3] at w3
      rw [e4] at w4
      rw [w0, zz_bS, if_pos f0, w1, zz_bS, if_pos f0, w2, zz_bS, if_pos f0, w3, zz_bS, if_pos f0, w4, zz_bS, if_neg t0]
      exact zb2 a (if_pos (b0 ok))
    · have w0 := w 0 (by omega)
      have w1 := w 1 (by omega)
      have w2 := w 2 (by omega)
      have w3 := w 3 (by omega)
      have w4 := w 4 (by omega)
      rw [e0] at w0
      rw [e1] at w1
      rw [e2] at w2
      rw [e3] at w3
      rw [e4] at w4
      rw [F_X11_statement, w0, zz_bS, if_pos f0, w1, zz_bS, if_pos f0, w2, zz_bS, if_pos f0, w3, zz_bS, if_pos f0, w4, zz_bS, if_neg t0]
  | false =>
  cases e5 : W 5 with
  | true =>
    refine zrd_of (g := 5) (by omega) e5 (z_go hV hn hb p2) (fun m m1 ok w a => ?_) (fun m w => ?_)
    · have w0 := w 0 (by omega)
      have w1 := w 1 (by omega)
      have w2 := w 2 (by omega)
      have w3 := w 3 (by omega)
      have w4 := w 4 (by omega)
      have w5 := w 5 (by omega)
      rw [e0] at w0
      rw [e1] at w1
      rw [e2] at w2
      rw [e3] at w3
      rw [e4] at w4
      rw [e5] at w5
      rw [w0, zz_bS, if_pos f0, w1, zz_bS, if_pos f0, w2, zz_bS, if_pos f0, w3, zz_bS, if_pos f0, w4, zz_bS, if_pos f0, w5, zz_bS, if_neg t0]
      cases ok with
      | true => exact zb2 a (if_neg t0)
      | false => exact zb2 a (if_pos f0)
    · have w0 := w 0 (by omega)
      have w1 := w 1 (by omega)
      have w2 := w 2 (by omega)
      have w3 := w 3 (by omega)
      have w4 := w 4 (by omega)
      have w5 := w 5 (by omega)
      rw [e0] at w0
      rw [e1] at w1
      rw [e2] at w2
      rw [e3] at w3
      rw [e4] at w4
      rw [e5] at w5
      rw [F_X11_statement, w0, zz_bS, if_pos f0, w1, zz_bS, if_pos f0, w2, zz_bS, if_pos f0, w3, zz_bS, if_pos f0, w4, zz_bS, if_pos f0, w5, zz_bS, if_neg t0]
  | false =>
    have hw : ∀ g, g < 6 → W g = false := fun g hg => by
      match g, hg with
      | 0, _ => exact e0
      | 1, _ => exact e1
      | 2, _ => exact e2
      | 3, _ => exact e3
      | 4, _ => exact e4
      | 5, _ => exact e5
    refine ⟨false, zpa t n i, zps t n i, G, hV, fun z => (by cases z), Nat.le_refl _, p2, Nat.le_refl _, .inl rfl, fun m0 m z w => ⟨m, ?_, z⟩, fun m0 m z w => ⟨m, ?_, z⟩⟩
    · have w2 : ∀ g, g < 6 → F_X4_isWord m g = some (bI false) := fun g hg => by rw [w g hg, hw g hg]
      rw [w2 0 (by omega), zz_bS, if_pos f0, w2 1 (by omega), zz_bS, if_pos f0, w2 2 (by omega), zz_bS, if_pos f0, w2 3 (by omega), zz_bS, if_pos f0, w2 4 (by omega), zz_bS, if_pos f0, w2 5 (by omega), zz_bS, if_pos f0, f0]
    · have w2 : ∀ g, g < 6 → F_X11_isWord m g = some (bI false) := fun g hg => by rw [w g hg, hw g hg]
      rw [F_X11_statement, w2 0 (by omega), zz_bS, if_pos f0, w2 1 (by omega), zz_bS, if_pos f0, w2 2 (by omega), zz_bS, if_pos f0, w2 3 (by omega), zz_bS, if_pos f0, w2 4 (by omega), zz_bS, if_pos f0, w2 5 (by omega), zz_bS, if_pos f0, f0]
/-- one statement with the token before it -/
theorem z_stat (hV : zV G) (hn : n ≤ 250) (hb : ∀ i, i < n → t i < 256) (hi : i ≤ n) : ∃ ok i2 s2 G2, zV G2 ∧ (ok = true → i + 1 ≤ i2) ∧ i2 ≤ n ∧ s2 ≤ n ∧ gS G ≤ gS G2 ∧ (∀ m0 m s, zcS m0 t n m i s G → ∃ m1, F_X4_readStatement m 2 = some (bI ok, m1) ∧ zcS m0 t n m1 i2 s2 G2) ∧ (∀ m0 m s, zqS m0 t n m i s G → ∃ m2, F_X11_next m = some m2 ∧ ∃ m1, F_X11_statement m2 = some (bI ok, m1) ∧ zqS m0 t n m1 i2 s2 G2) := by
  obtain ⟨p1, p2, p3⟩ := zpa_b (t := t) hi
  obtain ⟨q1, q2⟩ := zps_b (t := t) hi
  obtain ⟨ok, i2, s2, G2, h1, h2, h3, h4, h5, hs, h6, h7⟩ := zrd_all hV hn hb hi (fun g => zis t (zps t n i) (zpa t n i) (zpk t n i) g)
  have k5 : zpk t n i < 5 := by
    have := zkd_b (t (zps t n i))
    unfold zpk; split <;> omega
  refine ⟨ok, i2, s2, G2, h1, fun z => ?_, h4, by omega, h5, fun m0 m s z => ?_, fun m0 m s z => ?_⟩
  · obtain ⟨g, hg, w⟩ := h2 z
    have w : zis t (zps t n i) (zpa t n i) (zpk t n i) g = true := w
    unfold zis at w
    have w2 : zpk t n i = 1 := by
      by_cases e : zpk t n i = 1
      · exact e
      · rw [decide_eq_false e] at w; cases w
    have := p3 (by omega)
    omega
  · obtain ⟨m1, a1, a2, a3⟩ := cS_adv hn hb z hi
    obtain ⟨m2, b1, b2⟩ := h6 m0 m1 a2 (fun g hg => cS_word hn a2 p2 p1 k5 hg a3)
    refine ⟨m2, ?_, b2⟩
    rw [F_X4_readStatement, a1, zz_bS]
    exact b1
  · obtain ⟨m1, a1, a2, a3, a4⟩ := rS_nxt hn hb z hi
    obtain ⟨m2, b1, b2⟩ := h7 m0 m1 a2 (fun g hg => rS_word hn a2 p2 p1 hg a3)
    exact ⟨m1, a1, m2, b1, b2⟩
end
