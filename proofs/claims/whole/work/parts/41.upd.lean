/-! CHANGES of a garden -/
def zgu (G : zG) (f a v : Nat) : zG := (fun f2 a2 => if f2 = f ∧ a2 = a then v else G.1 f2 a2, G.2)
def zgw (G : zG) (w : Nat → Bool) : zG := (G.1, (w, G.2.2))
def zgz (G : zG) (v : Int32) : zG := (G.1, (G.2.1, v))
theorem zgu_s {G : zG} {f a v : Nat} : (zgu G f a v).1 f a = v := if_pos ⟨rfl, rfl⟩
theorem zgu_f {G : zG} {f a v f2 a2 : Nat} (h : f2 ≠ f) : (zgu G f a v).1 f2 a2 = G.1 f2 a2 := if_neg (fun z => h z.1)
theorem zgu_a {G : zG} {f a v f2 a2 : Nat} (h : a2 ≠ a) : (zgu G f a v).1 f2 a2 = G.1 f2 a2 := if_neg (fun z => h z.2)
theorem zgu_2 {G : zG} {f a v : Nat} : (zgu G f a v).2 = G.2 := rfl
/-- by fields: what a garden is at all places -/
def zCf (m : ax_M) (g f a : Nat) : Int32 := match f with
  | 0 => if a = 0 then m.1 1 g 1 else m.1 1 g 4
  | 1 => m.1 2 g a
  | 2 => m.1 4 g a
  | n + 3 => m.1 6 (16 * g + a) n
def zLf (m : ax_M) (f a : Nat) : Int32 := match f with
  | 0 => if a = 0 then m.1 22 0 1 else m.1 22 0 4
  | 1 => m.1 24 0 a
  | 2 => m.1 25 0 a
  | n + 3 => m.1 (26 + n) 0 a
def zlen (f : Nat) : Nat := match f with
  | 0 => 2
  | 1 => 8
  | 2 => 64
  | _ => 16
theorem zC_f {m : ax_M} {g : Nat} {G : zG} : zC m g G ↔ (∀ f a, f < 7 → a < zlen f → zCf m g f a = nI (G.1 f a)) ∧ m.1 1 g 6 = gZ G ∧ m.2 1 g 0 = lb (gW G) := by
  constructor
  · intro h
    refine ⟨fun f a hf ha => ?_, h.e, h.w⟩
    match f, hf, ha with
    | 0, _, ha =>
      rcases (by have : zlen 0 = 2 := rfl; omega : a = 0 ∨ a = 1) with rfl | rfl
      · exact h.p
      · exact h.s
    | 1, _, ha => exact h.o ha
    | 2, _, ha =>
      have ha2 : a < 64 := ha
      have := h.d (x := a / 8) (y := a % 8) (by omega) (by omega)
      unfold gD at this
      rw [show 8 * (a / 8) + a % 8 = a by omega] at this
      exact this
    | 3, _, ha => exact h.k ha
    | 4, _, ha => exact h.a ha
    | 5, _, ha => exact h.c ha
    | 6, _, ha => exact h.r ha
    | n + 7, hf, _ => omega
  · rintro ⟨h, h1, h2⟩
    refine ⟨h 0 0 (by omega) (by decide), h 0 1 (by omega) (by decide), h1, h2, fun p hp => h 1 p (by omega) hp, fun x y hx hy => h 2 (8 * x + y) (by omega) (by show 8 * x + y < 64; omega), fun i hi => ⟨h 3 i (by omega) hi, h 4 i (by omega) hi, h 5 i (by omega) hi, h 6 i (by omega) hi⟩⟩
theorem zL_f {m : ax_M} {G : zG} : zL m G ↔ (∀ f a, f < 7 → a < zlen f → zLf m f a = nI (G.1 f a)) ∧ m.1 22 0 9 = gZ G ∧ (∀ c, c < 64 → m.1 23 0 c = bI (gW G c)) := by
  constructor
  · intro h
    refine ⟨fun f a hf ha => ?_, h.e, fun c hc => h.w hc⟩
    match f, hf, ha with
    | 0, _, ha =>
      rcases (by have : zlen 0 = 2 := rfl; omega : a = 0 ∨ a = 1) with rfl | rfl
      · exact h.p
      · exact h.s
    | 1, _, ha => exact h.o ha
    | 2, _, ha =>
      have ha2 : a < 64 := ha
      have := h.d (x := a / 8) (y := a % 8) (by omega) (by omega)
      unfold gD at this
      rw [show 8 * (a / 8) + a % 8 = a by omega] at this
      exact this
    | 3, _, ha => exact h.k ha
    | 4, _, ha => exact h.a ha
    | 5, _, ha => exact h.c ha
    | 6, _, ha => exact h.r ha
    | n + 7, hf, _ => omega
  · rintro ⟨h, h1, h2⟩
    refine ⟨h 0 0 (by omega) (by decide), h 0 1 (by omega) (by decide), h1, h2, fun p hp => h 1 p (by omega) hp, fun x y hx hy => h 2 (8 * x + y) (by omega) (by show 8 * x + y < 64; omega), fun i hi => ⟨h 3 i (by omega) hi, h 4 i (by omega) hi, h 5 i (by omega) hi, h 6 i (by omega) hi⟩⟩
/-- where a field's place lies -/
def zCk (f : Nat) : Nat := match f with
  | 0 => 1
  | 1 => 2
  | 2 => 4
  | _ => 6
def zCi (g f a : Nat) : Nat := match f with
  | _ + 3 => 16 * g + a
  | _ => g
def zCj (f a : Nat) : Nat := match f with
  | 0 => if a = 0 then 1 else 4
  | n + 3 => n
  | _ => a
theorem zCf_at (m : ax_M) (g f a : Nat) : zCf m g f a = m.1 (zCk f) (zCi g f a) (zCj f a) := by
  match f with
  | 0 => unfold zCf zCk zCi zCj; by_cases h : a = 0 <;> simp [h]
  | 1 => rfl
  | 2 => rfl
  | n + 3 => rfl
theorem zC_in {g g2 f a f2 a2 : Nat} (hf : f < 7) (ha : a < zlen f) (hf2 : f2 < 7) (ha2 : a2 < zlen f2) (h : zCk f = zCk f2 ∧ zCi g f a = zCi g2 f2 a2 ∧ zCj f a = zCj f2 a2) : g = g2 ∧ f = f2 ∧ a = a2 := by
  obtain ⟨h1, h2, h3⟩ := h
  match f, hf, ha, h1, h2, h3 with
  | 0, _, ha, h1, h2, h3 =>
    have ha : a < 2 := ha
    match f2, hf2, ha2, h1, h2, h3 with
    | 0, _, ha2, _, h2, h3 =>
      have ha2 : a2 < 2 := ha2
      refine ⟨h2, rfl, ?_⟩
      have h3 : (if a = 0 then 1 else 4) = (if a2 = 0 then 1 else 4) := h3
      by_cases e : a = 0 <;> by_cases e2 : a2 = 0 <;> simp [e, e2] at h3 <;> omega
    | 1, _, _, h1, _, _ => exact absurd h1 (by decide)
    | 2, _, _, h1, _, _ => exact absurd h1 (by decide)
    | n + 3, _, _, h1, _, _ => have h1 : 1 = 6 := h1; omega
  | 1, _, ha, h1, h2, h3 =>
    match f2, hf2, ha2, h1, h2, h3 with
    | 0, _, _, h1, _, _ => exact absurd h1 (by decide)
    | 1, _, _, _, h2, h3 => exact ⟨h2, rfl, h3⟩
    | 2, _, _, h1, _, _ => exact absurd h1 (by decide)
    | n + 3, _, _, h1, _, _ => have h1 : 2 = 6 := h1; omega
  | 2, _, ha, h1, h2, h3 =>
    match f2, hf2, ha2, h1, h2, h3 with
    | 0, _, _, h1, _, _ => exact absurd h1 (by decide)
    | 1, _, _, h1, _, _ => exact absurd h1 (by decide)
    | 2, _, _, _, h2, h3 => exact ⟨h2, rfl, h3⟩
    | n + 3, _, _, h1, _, _ => have h1 : 4 = 6 := h1; omega
  | n + 3, _, ha, h1, h2, h3 =>
    match f2, hf2, ha2, h1, h2, h3 with
    | 0, _, _, h1, _, _ => have h1 : 6 = 1 := h1; omega
    | 1, _, _, h1, _, _ => have h1 : 6 = 2 := h1; omega
    | 2, _, _, h1, _, _ => have h1 : 6 = 4 := h1; omega
    | n2 + 3, _, ha2, _, h2, h3 =>
      have ha : a < 16 := ha
      have ha2 : a2 < 16 := ha2
      have h2 : 16 * g + a = 16 * g2 + a2 := h2
      have h3 : n = n2 := h3
      refine ⟨by omega, by omega, by omega⟩
theorem zCk_6 {f a : Nat} (hf : f < 7) : ¬ (zCk f = 1 ∧ zCj f a = 6) := by
  match f, hf with
  | 0, _ => unfold zCj; by_cases h : a = 0 <;> simp [h]
  | 1, _ => exact fun z => absurd z.1 (by decide)
  | 2, _ => exact fun z => absurd z.1 (by decide)
  | n + 3, _ => intro z; have h1 : 6 = 1 := z.1; omega
/-- one field's place of a garden changed: that garden, another -/
theorem zC.u {m : ax_M} {g : Nat} {G : zG} (h : zC m g G) {f a : Nat} (hf : f < 7) (ha : a < zlen f) (v : Nat) : zC (ax_ui m (zCk f) (zCi g f a) (zCj f a) (nI v)) g (zgu G f a v) := by
  obtain ⟨h1, h2, h3⟩ := zC_f.mp h
  refine zC_f.mpr ⟨fun f2 a2 hf2 ha2 => ?_, ?_, h3⟩
  · rw [zCf_at]
    by_cases e : f2 = f ∧ a2 = a
    · obtain ⟨rfl, rfl⟩ := e
      rw [zu_s, zgu_s]
    · have : ¬ (zCk f2 = zCk f ∧ zCi g f2 a2 = zCi g f a ∧ zCj f2 a2 = zCj f a) := fun z => e (zC_in hf2 ha2 hf ha z).2
      rw [show (ax_ui m (zCk f) (zCi g f a) (zCj f a) (nI v)).1 (zCk f2) (zCi g f2 a2) (zCj f2 a2) = m.1 (zCk f2) (zCi g f2 a2) (zCj f2 a2) from if_neg this, ← zCf_at, h1 f2 a2 hf2 ha2]
      exact congrArg nI (if_neg e).symm
  · rw [show (ax_ui m (zCk f) (zCi g f a) (zCj f a) (nI v)).1 1 g 6 = m.1 1 g 6 from if_neg (fun z => zCk_6 hf ⟨z.1.symm, z.2.2.symm⟩)]
    exact h2
theorem zC.v {m : ax_M} {g g2 : Nat} {G : zG} (h : zC m g G) (hg : g ≠ g2) {f a : Nat} (hf : f < 7) (ha : a < zlen f) (v : Int32) : zC (ax_ui m (zCk f) (zCi g2 f a) (zCj f a) v) g G := by
  obtain ⟨h1, h2, h3⟩ := zC_f.mp h
  refine zC_f.mpr ⟨fun f2 a2 hf2 ha2 => ?_, ?_, h3⟩
  · rw [zCf_at]
    have : ¬ (zCk f2 = zCk f ∧ zCi g f2 a2 = zCi g2 f a ∧ zCj f2 a2 = zCj f a) := fun z => hg (zC_in hf2 ha2 hf ha z).1
    rw [show (ax_ui m (zCk f) (zCi g2 f a) (zCj f a) v).1 (zCk f2) (zCi g f2 a2) (zCj f2 a2) = m.1 (zCk f2) (zCi g f2 a2) (zCj f2 a2) from if_neg this, ← zCf_at, h1 f2 a2 hf2 ha2]
  · rw [show (ax_ui m (zCk f) (zCi g2 f a) (zCj f a) v).1 1 g 6 = m.1 1 g 6 from if_neg (fun z => zCk_6 hf ⟨z.1.symm, z.2.2.symm⟩)]
    exact h2
section
variable {m : ax_M} {g g2 : Nat} {G : zG}
theorem zC.up (h : zC m g G) (v : Nat) : zC (ax_ui m 1 g 1 (nI v)) g (zgu G 0 0 v) := h.u (f := 0) (a := 0) (by decide) (by decide) v
theorem zC.us (h : zC m g G) (v : Nat) : zC (ax_ui m 1 g 4 (nI v)) g (zgu G 0 1 v) := h.u (f := 0) (a := 1) (by decide) (by decide) v
theorem zC.uo (h : zC m g G) {p : Nat} (hp : p < 8) (v : Nat) : zC (ax_ui m 2 g p (nI v)) g (zgu G 1 p v) := h.u (f := 1) (a := p) (by decide) hp v
theorem zC.ud (h : zC m g G) {x y : Nat} (hx : x < 8) (hy : y < 8) (v : Nat) : zC (ax_ui m 4 g (8 * x + y) (nI v)) g (zgu G 2 (8 * x + y) v) := h.u (f := 2) (a := 8 * x + y) (by decide) (by show 8 * x + y < 64; omega) v
theorem zC.u6 (h : zC m g G) {n i : Nat} (hn : n < 4) (hi : i < 16) (v : Nat) : zC (ax_ui m 6 (16 * g + i) n (nI v)) g (zgu G (n + 3) i v) := h.u (f := n + 3) (a := i) (by omega) hi v
theorem zC.uz (h : zC m g G) (v : Int32) : zC (ax_ui m 1 g 6 v) g (zgz G v) := by
  obtain ⟨h1, h2, h3⟩ := zC_f.mp h
  refine zC_f.mpr ⟨fun f2 a2 hf2 ha2 => ?_, zu_s, h3⟩
  rw [zCf_at, show (ax_ui m 1 g 6 v).1 (zCk f2) (zCi g f2 a2) (zCj f2 a2) = m.1 (zCk f2) (zCi g f2 a2) (zCj f2 a2) from if_neg (fun z => zCk_6 hf2 ⟨z.1, z.2.2⟩), ← zCf_at]
  exact h1 f2 a2 hf2 ha2
theorem zC.uw (h : zC m g G) (w : Nat → Bool) : zC (ax_ul m 1 g 0 (lb w)) g (zgw G w) := by
  obtain ⟨h1, h2, h3⟩ := zC_f.mp h
  refine zC_f.mpr ⟨fun f2 a2 hf2 ha2 => ?_, h2, zv_s⟩
  exact h1 f2 a2 hf2 ha2
theorem zC.vp (h : zC m g G) (hg : g ≠ g2) (v : Int32) : zC (ax_ui m 1 g2 1 v) g G := h.v hg (f := 0) (a := 0) (by decide) (by decide) v
theorem zC.vs (h : zC m g G) (hg : g ≠ g2) (v : Int32) : zC (ax_ui m 1 g2 4 v) g G := h.v hg (f := 0) (a := 1) (by decide) (by decide) v
theorem zC.vo (h : zC m g G) (hg : g ≠ g2) {p : Nat} (hp : p < 8) (v : Int32) : zC (ax_ui m 2 g2 p v) g G := h.v hg (f := 1) (a := p) (by decide) hp v
theorem zC.vd (h : zC m g G) (hg : g ≠ g2) {x y : Nat} (hx : x < 8) (hy : y < 8) (v : Int32) : zC (ax_ui m 4 g2 (8 * x + y) v) g G := h.v hg (f := 2) (a := 8 * x + y) (by decide) (by show 8 * x + y < 64; omega) v
theorem zC.v6 (h : zC m g G) (hg : g ≠ g2) {n i : Nat} (hn : n < 4) (hi : i < 16) (v : Int32) : zC (ax_ui m 6 (16 * g2 + i) n v) g G := h.v hg (f := n + 3) (a := i) (by omega) hi v
theorem zC.vz (h : zC m g G) (hg : g ≠ g2) (v : Int32) : zC (ax_ui m 1 g2 6 v) g G := by
  obtain ⟨h1, h2, h3⟩ := zC_f.mp h
  refine zC_f.mpr ⟨fun f2 a2 hf2 ha2 => ?_, ?_, h3⟩
  · rw [zCf_at, show (ax_ui m 1 g2 6 v).1 (zCk f2) (zCi g f2 a2) (zCj f2 a2) = m.1 (zCk f2) (zCi g f2 a2) (zCj f2 a2) from if_neg (fun z => zCk_6 hf2 ⟨z.1, z.2.2⟩), ← zCf_at]
    exact h1 f2 a2 hf2 ha2
  · rw [zu_i hg]; exact h2
theorem zC.vw (h : zC m g G) (hg : g ≠ g2) (w : Int64) : zC (ax_ul m 1 g2 0 w) g G := by
  obtain ⟨h1, h2, h3⟩ := zC_f.mp h
  refine zC_f.mpr ⟨fun f2 a2 hf2 ha2 => h1 f2 a2 hf2 ha2, h2, ?_⟩
  rw [zv_i hg]; exact h3
end
def zLk (f : Nat) : Nat := match f with
  | 0 => 22
  | 1 => 24
  | 2 => 25
  | n + 3 => 26 + n
def zLj (f a : Nat) : Nat := match f with
  | 0 => if a = 0 then 1 else 4
  | _ => a
theorem zLf_at (m : ax_M) (f a : Nat) : zLf m f a = m.1 (zLk f) 0 (zLj f a) := by
  match f with
  | 0 => unfold zLf zLk zLj; by_cases h : a = 0 <;> simp [h]
  | 1 => rfl
  | 2 => rfl
  | n + 3 => rfl
theorem zL_in {f a f2 a2 : Nat} (hf : f < 7) (ha : a < zlen f) (hf2 : f2 < 7) (ha2 : a2 < zlen f2) (h : zLk f = zLk f2 ∧ zLj f a = zLj f2 a2) : f = f2 ∧ a = a2 := by
  obtain ⟨h1, h3⟩ := h
  match f, hf, ha, h1, h3 with
  | 0, _, ha, h1, h3 =>
    have ha : a < 2 := ha
    match f2, hf2, ha2, h1, h3 with
    | 0, _, ha2, _, h3 =>
      have ha2 : a2 < 2 := ha2
      refine ⟨rfl, ?_⟩
      have h3 : (if a = 0 then 1 else 4) = (if a2 = 0 then 1 else 4) := h3
      by_cases e : a = 0 <;> by_cases e2 : a2 = 0 <;> simp [e, e2] at h3 <;> omega
    | 1, _, _, h1, _ => exact absurd h1 (by decide)
    | 2, _, _, h1, _ => exact absurd h1 (by decide)
    | n + 3, _, _, h1, _ => have h1 : 22 = 26 + n := h1; omega
  | 1, _, ha, h1, h3 =>
    match f2, hf2, ha2, h1, h3 with
    | 0, _, _, h1, _ => exact absurd h1 (by decide)
    | 1, _, _, _, h3 => exact ⟨rfl, h3⟩
    | 2, _, _, h1, _ => exact absurd h1 (by decide)
    | n + 3, _, _, h1, _ => have h1 : 24 = 26 + n := h1; omega
  | 2, _, ha, h1, h3 =>
    match f2, hf2, ha2, h1, h3 with
    | 0, _, _, h1, _ => exact absurd h1 (by decide)
    | 1, _, _, h1, _ => exact absurd h1 (by decide)
    | 2, _, _, _, h3 => exact ⟨rfl, h3⟩
    | n + 3, _, _, h1, _ => have h1 : 25 = 26 + n := h1; omega
  | n + 3, _, ha, h1, h3 =>
    match f2, hf2, ha2, h1, h3 with
    | 0, _, _, h1, _ => have h1 : 26 + n = 22 := h1; omega
    | 1, _, _, h1, _ => have h1 : 26 + n = 24 := h1; omega
    | 2, _, _, h1, _ => have h1 : 26 + n = 25 := h1; omega
    | n2 + 3, _, ha2, h1, h3 =>
      have h1 : 26 + n = 26 + n2 := h1
      have h3 : a = a2 := h3
      exact ⟨by omega, h3⟩
theorem zLk_9 {f a : Nat} (hf : f < 7) : ¬ (zLk f = 22 ∧ zLj f a = 9) ∧ zLk f ≠ 23 := by
  match f, hf with
  | 0, _ => refine ⟨?_, by decide⟩; unfold zLj; by_cases h : a = 0 <;> simp [h]
  | 1, _ => exact ⟨fun z => absurd z.1 (by decide), by decide⟩
  | 2, _ => exact ⟨fun z => absurd z.1 (by decide), by decide⟩
  | n + 3, _ => exact ⟨fun z => by have h1 : 26 + n = 22 := z.1; omega, fun z => by have h1 : 26 + n = 23 := z; omega⟩
theorem zL.u {m : ax_M} {G : zG} (h : zL m G) {f a : Nat} (hf : f < 7) (ha : a < zlen f) (v : Nat) : zL (ax_ui m (zLk f) 0 (zLj f a) (nI v)) (zgu G f a v) := by
  obtain ⟨h1, h2, h3⟩ := zL_f.mp h
  refine zL_f.mpr ⟨fun f2 a2 hf2 ha2 => ?_, ?_, fun c hc => ?_⟩
  · rw [zLf_at]
    by_cases e : f2 = f ∧ a2 = a
    · obtain ⟨rfl, rfl⟩ := e
      rw [zu_s, zgu_s]
    · have : ¬ (zLk f2 = zLk f ∧ 0 = 0 ∧ zLj f2 a2 = zLj f a) := fun z => e (zL_in hf2 ha2 hf ha ⟨z.1, z.2.2⟩)
      rw [show (ax_ui m (zLk f) 0 (zLj f a) (nI v)).1 (zLk f2) 0 (zLj f2 a2) = m.1 (zLk f2) 0 (zLj f2 a2) from if_neg this, ← zLf_at, h1 f2 a2 hf2 ha2]
      exact congrArg nI (if_neg e).symm
  · rw [show (ax_ui m (zLk f) 0 (zLj f a) (nI v)).1 22 0 9 = m.1 22 0 9 from if_neg (fun z => (zLk_9 hf).1 ⟨z.1.symm, z.2.2.symm⟩)]
    exact h2
  · rw [zu_k (zLk_9 (a := a) hf).2.symm]
    exact h3 c hc
section
variable {m : ax_M} {G : zG}
theorem zL.up (h : zL m G) (v : Nat) : zL (ax_ui m 22 0 1 (nI v)) (zgu G 0 0 v) := h.u (f := 0) (a := 0) (by decide) (by decide) v
theorem zL.us (h : zL m G) (v : Nat) : zL (ax_ui m 22 0 4 (nI v)) (zgu G 0 1 v) := h.u (f := 0) (a := 1) (by decide) (by decide) v
theorem zL.uo (h : zL m G) {p : Nat} (hp : p < 8) (v : Nat) : zL (ax_ui m 24 0 p (nI v)) (zgu G 1 p v) := h.u (f := 1) (a := p) (by decide) hp v
theorem zL.ud (h : zL m G) {x y : Nat} (hx : x < 8) (hy : y < 8) (v : Nat) : zL (ax_ui m 25 0 (8 * x + y) (nI v)) (zgu G 2 (8 * x + y) v) := h.u (f := 2) (a := 8 * x + y) (by decide) (by show 8 * x + y < 64; omega) v
theorem zL.u6 (h : zL m G) {n i : Nat} (hn : n < 4) (hi : i < 16) (v : Nat) : zL (ax_ui m (26 + n) 0 i (nI v)) (zgu G (n + 3) i v) := h.u (f := n + 3) (a := i) (by omega) hi v
theorem zL.uz (h : zL m G) (v : Int32) : zL (ax_ui m 22 0 9 v) (zgz G v) := by
  obtain ⟨h1, h2, h3⟩ := zL_f.mp h
  refine zL_f.mpr ⟨fun f2 a2 hf2 ha2 => ?_, zu_s, fun c hc => ?_⟩
  · rw [zLf_at, show (ax_ui m 22 0 9 v).1 (zLk f2) 0 (zLj f2 a2) = m.1 (zLk f2) 0 (zLj f2 a2) from if_neg (fun z => (zLk_9 hf2).1 ⟨z.1, z.2.2⟩), ← zLf_at]
    exact h1 f2 a2 hf2 ha2
  · rw [zu_k (by decide)]
    exact h3 c hc
theorem zL.uw (h : zL m G) {c : Nat} (b : Bool) : zL (ax_ui m 23 0 c (bI b)) (zgw G (fun i => if i = c then b else gW G i)) := by
  obtain ⟨h1, h2, h3⟩ := zL_f.mp h
  refine zL_f.mpr ⟨fun f2 a2 hf2 ha2 => ?_, ?_, fun i hi => ?_⟩
  · rw [zLf_at, zu_k (zLk_9 (a := a2) hf2).2, ← zLf_at]
    exact h1 f2 a2 hf2 ha2
  · rw [zu_k (by decide)]; exact h2
  · show _ = bI (if i = c then b else gW G i)
    by_cases e : i = c
    · subst e; rw [zu_s, if_pos rfl]
    · rw [zu_j e, h3 i hi, if_neg e]
/-- any other field of the reference's object -/
theorem zL.x (h : zL m G) {j : Nat} (v : Int32) (hj : j ≠ 1 ∧ j ≠ 4 ∧ j ≠ 9) : zL (ax_ui m 22 0 j v) G := by
  unfold zL at *
  rw [zu_j (by omega), zu_j (by omega), zu_j (by omega)]
  refine ⟨h.1, h.2.1, h.2.2.1, fun c hc => ?_, fun p hp => ?_, fun x y hx hy => ?_, fun i hi => ?_⟩
  · rw [zu_k (by decide)]; exact h.2.2.2.1 c hc
  · rw [zu_k (by decide)]; exact h.2.2.2.2.1 p hp
  · rw [zu_k (by decide)]; exact h.2.2.2.2.2.1 x y hx hy
  · rw [zu_k (by decide), zu_k (by decide), zu_k (by decide), zu_k (by decide)]; exact h.2.2.2.2.2.2 i hi
end
theorem zSh.mo {m : ax_M} {n n2 : Nat} (h : zSh m n) (hn : n ≤ n2) : zSh m n2 := by
  intro s hs
  rcases h s hs with h | ⟨k, h1, h2⟩ | h
  · exact .inl h
  · exact .inr (.inl ⟨k, by omega, h2⟩)
  · exact .inr (.inr h)
def zlg : List Nat := [1, 2, 4, 6, 12, 14, 16, 17, 19, 21, 22, 23, 24, 25, 26, 27, 28, 29, 36, 37, 38, 39]
/-- both gardens changed alike -/
theorem zRG.ch {m m2 : ax_M} {G G2 : zG} (h : zRG m G) (hV : zV G2) (e : zE zlg m m2) (h10 : m2.1 22 0 10 = m.1 22 0 10) (h20 : m2.1 22 0 20 = m.1 22 0 20) (hC : zC m2 0 G2) (hL : zL m2 G2) (hK : ∀ K, zC m 1 K → zC m2 1 K) (hn : gS G ≤ gS G2) : zRG m2 G2 := by
  obtain ⟨-, -, -, hK0, hS, hT, hF⟩ := h
  refine ⟨hV, hC, hL, ?_, (hS.E e (by decide)).mo hn, ?_, hF.E e (by decide)⟩
  · unfold zKp at *
    rw [(e 0 (by decide)).1, h20]
    rcases hK0 with h | ⟨h1, h2, K, h3, h4, h5⟩
    · exact .inl h
    · exact .inr ⟨h1, h2, K, h3, hK K h4, h5.E e (by decide)⟩
  · unfold zTp at *
    rw [(e 10 (by decide)).1, h10, (e 11 (by decide)).1, (e 30 (by decide)).1]
    exact hT
