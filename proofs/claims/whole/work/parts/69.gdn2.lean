/-! THE GARDEN's call: the loops and the whole -/
section
variable {t : Nat → Nat} {n : Nat}
theorem zgl (hn : n ≤ 250) (hb : ∀ i, i < n → t i < 256) : ∀ d i c G, n - i < d → i ≤ n → 1 ≤ c → 2 * (c - 1) ≤ i → zV G → ∃ ok cnt i2 s2 G2, zV G2 ∧ gS G ≤ gS G2 ∧ cnt ≤ 250 ∧ s2 ≤ 250 ∧ (∀ m0 m s f, zcS m0 t n m i s G → d ≤ f → ∃ m1, F_X4_readAll_L5 f m 2 (nI c) = some ((if ok = true then nI cnt else (-20) - nI s2), m1) ∧ zcS m0 t n m1 i2 s2 G2) ∧ (∀ m0 m s f, zqS m0 t n m i s G → d < f → ∃ m1, zqS m0 t n m1 i2 s2 G2 ∧ ((ok = true ∧ F_X11_garden_L11 f m (nI (c - 1)) 1 = some (nI cnt, ax_ui m1 22 0 10 0)) ∨ (ok = false ∧ ∃ v f2, F_X11_garden_L11 f m (nI (c - 1)) 1 = F_X11_garden_L11 (f2 + 1) m1 v 0))) := by
  intro d
  induction d with
  | zero => intro i c G h1 h2 h3 h4 hV; omega
  | succ d ih =>
    intro i c G h1 h2 h3 h4 hV
    obtain ⟨ok, i2, s2, G2, hV2, g1, g2, gs, g3, g4, g5⟩ := z_stat (i := i) hV hn hb h2
    have t0 : ¬ bI true = 0 := by decide
    have f0 : bI false = 0 := rfl
    have c0 : ¬ (250 : Int32) < nI c := by
      rw [zl_250, zz_lt (by omega) (by omega)]; omega
    have o0 : ¬ (1 : Int32) = 0 := by decide
    have cs : ∀ m0 m s f m1, zcS m0 t n m i s G → F_X4_readStatement m 2 = some (bI ok, m1) → F_X4_readAll_L5 (f + 1) m 2 (nI c) = if bI ok = 0 then (some (((-20) - (m1.1 12 0 2)), m1)) else (ax_b (F_X4_advance m1) (fun m10 => if (m10.1 12 0 1) = 0 then (some (nI c, m10)) else (if (m10.1 12 0 1) = 3 then (F_X4_readAll_L5 f m10 2 (nI c + 1)) else (some (((-20) - (m10.1 12 0 2)), m10))))) := fun m0 m s f m1 z a => by
      rw [F_X4_readAll_L5, if_neg c0]
      exact zb2 a rfl
    have rs : ∀ m f m1 m2, F_X11_next m = some m2 → F_X11_statement m2 = some (bI ok, m1) → F_X11_garden_L11 (f + 1) m (nI (c - 1)) 1 = if bI ok = 0 then (F_X11_garden_L11 f m1 (nI (c - 1)) (bI ok)) else (ax_b (F_X11_next m1) (fun m24 => if (m24.1 22 0 14) = 101 then (some ((nI (c - 1) + 1), (ax_ui m24 22 0 10 0))) else (if (m24.1 22 0 14) = 59 then (F_X11_garden_L11 f m24 (nI (c - 1) + 1) 1) else (F_X11_garden_L11 f m24 (nI (c - 1) + 1) 0)))) := fun m f m1 m2 a b => by
      rw [F_X11_garden_L11, if_neg o0, a, zz_bS]
      exact zb2 b rfl
    have n1 : nI c + 1 = nI (c + 1) := by rw [zl_1, nI_add]
    have n2 : nI (c - 1) + 1 = nI c := by rw [zl_1, nI_add, show c - 1 + 1 = c by omega]
    cases ok with
    | false =>
      refine ⟨false, 0, i2, s2, G2, hV2, g3, by omega, by omega, fun m0 m s f z hf => ?_, fun m0 m s f z hf => ?_⟩
      · obtain ⟨f, rfl⟩ : ∃ f2, f = f2 + 1 := ⟨f - 1, by omega⟩
        obtain ⟨m1, a1, a2⟩ := g4 m0 m s z
        refine ⟨m1, ?_, a2⟩
        rw [cs m0 m s f m1 z a1, if_pos f0, a2.2.2.2.2.2]
        rfl
      · obtain ⟨f, rfl⟩ : ∃ f2, f = f2 + 1 + 1 := ⟨f - 2, by omega⟩
        obtain ⟨m2, b1, m1, b2, b3⟩ := g5 m0 m s z
        refine ⟨m1, b3, .inr ⟨rfl, nI (c - 1), f, ?_⟩⟩
        rw [rs m (f + 1) m1 m2 b1 b2, if_pos f0]
        rfl
    | true =>
      have g1 := g1 rfl
      obtain ⟨p1, p2, p3⟩ := zpa_b (t := t) g2
      obtain ⟨q1, q2⟩ := zps_b (t := t) g2
      by_cases k0 : zpk t n i2 = 0
      · refine ⟨true, c, zpa t n i2, zps t n i2, G2, hV2, g3, by omega, by omega, fun m0 m s f z hf => ?_, fun m0 m s f z hf => ?_⟩
        · obtain ⟨f, rfl⟩ : ∃ f2, f = f2 + 1 := ⟨f - 1, by omega⟩
          obtain ⟨m1, a1, a2⟩ := g4 m0 m s z
          obtain ⟨m3, d1, d2, d3⟩ := cS_adv hn hb a2 g2
          refine ⟨m3, ?_, d2⟩
          rw [cs m0 m s f m1 z a1, if_neg t0, d1, zz_bS, d3, k0, if_pos (show nI 0 = 0 from rfl), if_pos rfl]
        · obtain ⟨f, rfl⟩ : ∃ f2, f = f2 + 1 := ⟨f - 1, by omega⟩
          obtain ⟨m2, b1, m1, b2, b3⟩ := g5 m0 m s z
          obtain ⟨m3, d1, d2, d3, d4⟩ := rS_nxt hn hb b3 g2
          refine ⟨m3, d2, .inl ⟨rfl, ?_⟩⟩
          rw [rs m f m1 m2 b1 b2, if_neg t0, d1, zz_bS, if_pos (by rw [zl_101, d3, ztI_101]; exact k0), n2]
      · by_cases k3 : zpk t n i2 = 3
        · have p4 := p3 k0
          obtain ⟨ok, cnt, i3, s3, G3, r1, r2, r3, r4, r5, r6⟩ := ih (zpa t n i2) (c + 1) G2 (by omega) p2 (by omega) (by omega) hV2
          refine ⟨ok, cnt, i3, s3, G3, r1, by omega, r3, r4, fun m0 m s f z hf => ?_, fun m0 m s f z hf => ?_⟩
          · obtain ⟨f, rfl⟩ : ∃ f2, f = f2 + 1 := ⟨f - 1, by omega⟩
            obtain ⟨m1, a1, a2⟩ := g4 m0 m s z
            obtain ⟨m3, d1, d2, d3⟩ := cS_adv hn hb a2 g2
            obtain ⟨m4, e1, e2⟩ := r5 m0 m3 (zps t n i2) f d2 (by omega)
            refine ⟨m4, ?_, e2⟩
            rw [cs m0 m s f m1 z a1, if_neg t0, d1, zz_bS, d3, k3, if_neg (by decide), if_pos (show nI 3 = 3 from rfl), n1]
            exact e1
          · obtain ⟨f, rfl⟩ : ∃ f2, f = f2 + 1 := ⟨f - 1, by omega⟩
            obtain ⟨m2, b1, m1, b2, b3⟩ := g5 m0 m s z
            obtain ⟨m3, d1, d2, d3, d4⟩ := rS_nxt hn hb b3 g2
            obtain ⟨m4, e1, e2⟩ := r6 m0 m3 (zps t n i2) f d2 (by omega)
            refine ⟨m4, e1, ?_⟩
            rw [rs m f m1 m2 b1 b2, if_neg t0, d1, zz_bS, if_neg (by rw [zl_101, d3, ztI_101]; exact k0), if_pos (by rw [zl_59, d3, ztI_59]; exact k3), n2]
            exact e2
        · refine ⟨false, 0, zpa t n i2, zps t n i2, G2, hV2, g3, by omega, by omega, fun m0 m s f z hf => ?_, fun m0 m s f z hf => ?_⟩
          · obtain ⟨f, rfl⟩ : ∃ f2, f = f2 + 1 := ⟨f - 1, by omega⟩
            obtain ⟨m1, a1, a2⟩ := g4 m0 m s z
            obtain ⟨m3, d1, d2, d3⟩ := cS_adv hn hb a2 g2
            have k5 : zpk t n i2 < 5 := by
              have := zkd_b (t (zps t n i2))
              unfold zpk; split <;> omega
            refine ⟨m3, ?_, d2⟩
            rw [cs m0 m s f m1 z a1, if_neg t0, d1, zz_bS, d3, if_neg (by rw [zl_0, zz_eq (by omega) (by omega)]; exact k0), if_neg (by rw [zl_3, zz_eq (by omega) (by omega)]; exact k3), d2.2.2.2.2.2]
            rfl
          · obtain ⟨f, rfl⟩ : ∃ f2, f = f2 + 1 + 1 := ⟨f - 2, by omega⟩
            obtain ⟨m2, b1, m1, b2, b3⟩ := g5 m0 m s z
            obtain ⟨m3, d1, d2, d3, d4⟩ := rS_nxt hn hb b3 g2
            refine ⟨m3, d2, .inr ⟨rfl, nI (c - 1) + 1, f, ?_⟩⟩
            rw [rs m (f + 1) m1 m2 b1 b2, if_neg t0, d1, zz_bS, if_neg (by rw [zl_101, d3, ztI_101]; exact k0), if_neg (by rw [zl_59, d3, ztI_59]; exact k3)]
end
