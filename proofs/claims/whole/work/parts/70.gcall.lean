/-! THE CALL garden -/
theorem neg20 : ∀ s, s < 251 → ¬ (0 : Int32) ≤ (-20) - nI s := by decide +kernel
theorem zRG.gd {m mf : ax_M} {G G2 : zG} (h : zRG m G) (hV2 : zV G2) (e : zE [1, 2, 4, 6, 10, 12, 20, 22, 23, 24, 25, 26, 27, 28, 29, 34, 36] m mf) (hC2 : zC mf 0 G2) (hL2 : zL mf G2) (hK2 : ∀ K, zC m 1 K → zC mf 1 K) (h20 : mf.1 22 0 20 = m.1 22 0 20) (hT2 : zTp mf) (hF2 : zRf mf) (hn : gS G ≤ gS G2) : zRG mf G2 := by
  obtain ⟨hV, hC, hL, hK, hS, hT, hF⟩ := h
  refine ⟨hV2, hC2, hL2, ?_, (hS.E e (by decide)).mo hn, hT2, hF2⟩
  unfold zKp at *
  rw [(e 0 (by decide)).1, h20]
  rcases hK with h | ⟨h1, h2, K, h3, h4, h5⟩
  · exact .inl h
  · exact .inr ⟨h1, h2, K, h3, hK2 K h4, h5.E e (by decide)⟩
theorem t_garden : zT F_X10_garden F_X11_garden := zT_of (fun m G h => by
  obtain ⟨hV, hC, hL, hK, hS, ⟨n, hn, t1, t2, t3⟩, hF⟩ := id h
  obtain ⟨t, ht⟩ : ∃ t : Nat → Nat, t = fun i => (m.1 11 0 i).toNatClampNeg := ⟨_, rfl⟩
  have tv : ∀ i, i < n → t i < 256 ∧ m.1 11 0 i = nI (t i) ∧ m.1 30 0 i = nI (t i) := fun i hi => by
    obtain ⟨b, b1, b2, b3⟩ := t3 i hi
    have : t i = b := by rw [ht]; show (m.1 11 0 i).toNatClampNeg = b; rw [b2, nI_clamp (by omega)]
    rw [this]
    exact ⟨b1, b2, b3⟩
  have hb : ∀ i, i < n → t i < 256 := fun i hi => (tv i hi).1
  obtain ⟨m1, a1, a2⟩ := c_become (m := m) (g := 2) (g2 := 0) hC (by decide)
  have e2 : zE [1, 2, 4, 6, 12] m (ax_ui m1 12 0 3 0) := (a2.2.2.mo (by decide)).ui (by decide)
  obtain ⟨s0, hs0⟩ := nI_ex ((ax_ui m1 12 0 3 0).1 12 0 2)
  have z2 : zcS (ax_ui m1 12 0 3 0) t n (ax_ui m1 12 0 3 0) 0 s0 G := by
    refine ⟨⟨?_, fun i hi => ?_⟩, zE.rf _ _, fun _ _ _ hK => hK, a2.1.E ((zE.rf [12] m1).ui (k := 12) (i := 0) (j := 3) (v := 0) (by decide)) (by decide), zu_s, hs0⟩
    · rw [(e2 10 (by decide)).1]; exact t1
    · rw [(e2 11 (by decide)).1]; exact (tv i hi).2.1
  obtain ⟨ok, cnt, i2, s2, G2, hV2, gn, hcn, hs2, cl, re⟩ := zgl (t := t) hn hb (n + 1) 0 1 G (by omega) (by omega) (by omega) (by omega) hV
  obtain ⟨m3, b1, b2⟩ := cl _ _ s0 ax_FU z2 (by unfold ax_FU; omega)
  have e3 : zE [1, 2, 4, 6, 10, 12] m (ax_ui m3 10 0 1 0) := ((e2.mo (by decide)).tr (b2.2.1.mo (by decide))).ui (by decide)
  have kc : ∀ g K, g ≠ 2 → zC m g K → zC (ax_ui m3 10 0 1 0) g K := fun g K hg hK => (b2.2.2.1 g K hg ((a2.2.1 g K hg hK).E ((zE.rf [12] m1).ui (k := 12) (i := 0) (j := 3) (v := 0) (by decide)) (by decide))).E ((zE.rf [10] m3).ui (k := 10) (i := 0) (j := 1) (v := 0) (by decide)) (by decide)
  have c2 : zC (ax_ui m3 10 0 1 0) 2 G2 := b2.2.2.2.1.E ((zE.rf [10] m3).ui (k := 10) (i := 0) (j := 1) (v := 0) (by decide)) (by decide)
  have hcall : ∀ v, F_X4_readAll_L5 ax_FU (ax_ui m1 12 0 3 0) 2 (nI 1) = some (v, m3) → F_X10_garden m = if 0 ≤ v then (ax_b (F_X3_become (ax_ui m3 10 0 1 0) 0 2) (fun m11 => some (v, m11))) else (ax_b2 (F_X10_refuse (ax_ui m3 10 0 1 0) (-2)) (fun r14 m15 => some (v, m15))) := fun v a => by
    rw [F_X10_garden, a1, zz_bS, F_X4_readAll]
    exact zb2 a rfl
  -- the reference, from a state that is like m but for what the class changed
  have ref : ∀ m4, zE [1, 2, 4, 6, 10, 12, 20] m m4 → ∃ m7, zE [22, 23, 24, 25, 26, 27, 28, 29, 36] m4 m7 ∧ (∀ j, j ∉ [1, 4, 9, 12, 13, 14, 15] → m7.1 22 0 j = m4.1 22 0 j) ∧ zL m7 G2 ∧ m7.1 22 0 12 = nI s2 ∧ zO m7 36 G ∧ ((ok = true ∧ F_X11_garden m4 = some (nI cnt, ax_ui m7 22 0 10 0)) ∨ (ok = false ∧ ∃ v f2, F_X11_garden m4 = F_X11_garden_L11 (f2 + 1) m7 v 0)) := by
    intro m4 e4
    have hL4 : zL m4 G := hL.E e4 (by decide)
    obtain ⟨m5, k1, k2, k3⟩ := r_keep36 hL4
    have e5 : zE [1, 2, 4, 6, 10, 12, 20, 36] m m5 := (e4.mo (by decide)).tr (k3.mo (by decide))
    have e6 : zE [22, 36] m4 (ax_ui m5 22 0 13 0) := (k3.mo (by decide)).ui (by decide)
    obtain ⟨s1, hs1⟩ := nI_ex ((ax_ui m5 22 0 13 0).1 22 0 12)
    have z6 : zqS (ax_ui m5 22 0 13 0) t n (ax_ui m5 22 0 13 0) 0 s1 G := by
      refine ⟨⟨?_, fun i hi => ?_⟩, zE.rf _ _, fun _ _ => rfl, (hL4.E k3 (by decide)).x 0 (by decide), zu_s, hs1⟩
      · rw [zu_j (by decide), (e5 22 (by decide)).1]; exact t2
      · rw [zu_k (by decide), (e5 30 (by decide)).1]; exact (tv i hi).2.2
    obtain ⟨m7, r1, r2⟩ := re _ _ s1 ax_FU z6 (by unfold ax_FU; omega)
    refine ⟨m7, (e6.mo (by decide)).tr (r1.2.1.mo (by decide)), fun j hj => ?_, r1.2.2.2.1, r1.2.2.2.2.2, ?_, ?_⟩
    · rw [r1.2.2.1 j hj, zu_j (fun z => hj (by rw [z]; decide)), (k3 22 (by decide)).1]
    · exact (k2.E ((zE.rf [22] m5).ui (k := 22) (i := 0) (j := 13) (v := 0) (by decide)) (by decide)).E r1.2.1 (by decide)
    · rcases r2 with ⟨r2, r3⟩ | ⟨r2, v, f2, r3⟩
      · exact .inl ⟨r2, by rw [F_X11_garden, k1, zz_bS]; exact r3⟩
      · exact .inr ⟨r2, v, f2, by rw [F_X11_garden, k1, zz_bS]; exact r3⟩
  cases ok with
  | true =>
    obtain ⟨m4, d1, d2⟩ := c_become (m := ax_ui m3 10 0 1 0) (g := 0) (g2 := 2) c2 (by decide)
    have e4 : zE [1, 2, 4, 6, 10, 12] m m4 := e3.tr (d2.2.2.mo (by decide))
    obtain ⟨m7, f1, f2, f3, f4, f5, f6⟩ := ref m4 (e4.mo (by decide))
    rcases f6 with ⟨-, f6⟩ | ⟨z, -⟩
    · have ef : zE [22, 23, 24, 25, 26, 27, 28, 29, 36] m4 (ax_ui m7 22 0 10 0) := f1.ui (by decide)
      refine ⟨nI cnt, m4, ax_ui m7 22 0 10 0, ?_, f6, G2, h.gd hV2 ((e4.mo (by decide)).tr (ef.mo (by decide))) (d2.1.E ef (by decide)) (f3.x 0 (by decide)) (fun K hK => (d2.2.1 1 K (by decide) (kc 1 K (by decide) hK)).E ef (by decide)) ?_ (zTp.em ?_ ?_) (hF.E ((e4.mo (by decide)).tr (ef.mo (by decide)) : zE [1, 2, 4, 6, 10, 12, 22, 23, 24, 25, 26, 27, 28, 29, 36] m _) (by decide)) gn⟩
      · rw [hcall _ b1, if_pos rfl, if_pos (by rw [zl_0]; exact nI_le (Nat.zero_le _) (by omega)), d1, zz_bS]
      · rw [zu_j (by decide), f2 20 (by decide), (e4 22 (by decide)).1]
      · rw [(ef 10 (by decide)).1, (d2.2.2 10 (by decide)).1, zu_s]; rfl
      · rw [zu_s]; rfl
    · cases z
  | false =>
    have e4 : zE [1, 2, 4, 6, 10, 12, 20] m (zrf (ax_ui m3 10 0 1 0) 0) := (e3.mo (by decide)).tr ((zrf_E _ 0).mo (by decide))
    obtain ⟨m7, f1, f2, f3, f4, f5, f6⟩ := ref _ e4
    rcases f6 with ⟨z, -⟩ | ⟨-, v, fu, f6⟩
    · cases z
    · obtain ⟨m8, k1, k2⟩ := r_again36 f5
      have ef : zE [22, 23, 24, 25, 26, 27, 28, 29, 34, 36] (zrf (ax_ui m3 10 0 1 0) 0) (zrn (ax_ui m8 22 0 10 0) 2) := (((f1.mo (by decide)).tr (k2.2.1.mo (by decide))).ui (by decide)).tr ((zrn_E _ 2).mo (by decide))
      have g8 : ∀ K, zC m 0 K → zC (zrn (ax_ui m8 22 0 10 0) 2) 0 K := fun K hK => ((kc 0 K (by decide) hK).E (zrf_E _ 0) (by decide)).E ef (by decide)
      refine ⟨(-20) - nI s2, zrf (ax_ui m3 10 0 1 0) 0, zrn (ax_ui m8 22 0 10 0) 2, ?_, ?_, G, h.gd hV ((e4.mo (by decide)).tr (ef.mo (by decide))) (g8 G hC) ((k2.1.x 0 (by decide)).E (zrn_E _ 2) (by decide)) (fun K hK => ((kc 1 K (by decide) hK).E (zrf_E _ 0) (by decide)).E ef (by decide)) ?_ (zTp.em ?_ ?_) ?_ (Nat.le_refl _)⟩
      · have b1 : F_X4_readAll_L5 ax_FU (ax_ui m1 12 0 3 0) 2 (nI 1) = some ((-20) - nI s2, m3) := b1
        rw [hcall _ b1, if_neg (neg20 s2 (by omega))]
        rfl
      · rw [f6, F_X11_garden_L11, if_pos rfl, k1, zz_bS]
        refine zb2 (show F_X11_no (ax_ui m8 22 0 10 0) (-2) = some (-2, zrn (ax_ui m8 22 0 10 0) 2) from rfl) ?_
        rw [show (zrn (ax_ui m8 22 0 10 0) 2).1 22 0 12 = nI s2 by
          rw [(zrn_E _ 2 22 (by decide)).1, zu_j (by decide), k2.2.2 12 (by decide)]; exact f4]
      · rw [(zrn_E _ 2 22 (by decide)).1, zu_j (by decide), k2.2.2 20 (by decide), f2 20 (by decide), (e4 22 (by decide)).1]
      · rw [(ef 10 (by decide)).1, (zrf_E _ 0 10 (by decide)).1, zu_s]; rfl
      · rw [(zrn_E _ 2 22 (by decide)).1, zu_s]; rfl
      · intro j hj
        rw [(ef 20 (by decide)).1]
        have q34 : (ax_ui m8 22 0 10 0).1 34 = m.1 34 := by
          rw [show (ax_ui m8 22 0 10 0).1 34 = m8.1 34 from ((zE.rf [22] m8).ui (k := 22) (i := 0) (j := 10) (v := 0) (by decide) 34 (by decide)).1, (k2.2.1 34 (by decide)).1, (f1 34 (by decide)).1, (e4 34 (by decide)).1]
        have q20 : (ax_ui m3 10 0 1 0).1 20 = m.1 20 := (e3 20 (by decide)).1
        unfold zrf zrn
        by_cases e : j = 0
        · subst e
          rw [zu_s, zu_s, q34, q20, hF 0 (by omega)]
        · rw [zu_j e, zu_j (show j + 2 ≠ 2 by omega), q34, q20, hF j hj])
