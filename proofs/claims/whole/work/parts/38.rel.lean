/-! THE RELATION between the class's memory and the reference's; frames -/
def zE (l : List Nat) (m m' : ax_M) : Prop := ∀ k, k ∉ l → m'.1 k = m.1 k ∧ m'.2 k = m.2 k
theorem zE.rf (l : List Nat) (m : ax_M) : zE l m m := fun _ _ => ⟨rfl, rfl⟩
theorem zE.tr {l : List Nat} {m m1 m2 : ax_M} (h : zE l m m1) (h2 : zE l m1 m2) : zE l m m2 := fun k hk => ⟨(h2 k hk).1.trans (h k hk).1, (h2 k hk).2.trans (h k hk).2⟩
theorem zE.mo {l l2 : List Nat} {m m1 : ax_M} (h : zE l m m1) (h2 : ∀ k, k ∈ l → k ∈ l2) : zE l2 m m1 := fun k hk => h k (fun z => hk (h2 k z))
theorem zE.ui {l : List Nat} {m m1 : ax_M} {k i j : Nat} {v : Int32} (hk : k ∈ l) (h : zE l m m1) : zE l m (ax_ui m1 k i j v) := by
  intro a ha
  obtain ⟨h1, h2⟩ := h a ha
  refine ⟨?_, h2⟩
  rw [← h1]
  funext b c
  exact zu_k (fun z => ha (z ▸ hk))
theorem zE.ul {l : List Nat} {m m1 : ax_M} {k i j : Nat} {v : Int64} (hk : k ∈ l) (h : zE l m m1) : zE l m (ax_ul m1 k i j v) := by
  intro a ha
  obtain ⟨h1, h2⟩ := h a ha
  refine ⟨h1, ?_⟩
  rw [← h2]
  funext b c
  exact zv_k (fun z => ha (z ▸ hk))
theorem zE.cpi {l : List Nat} {m m1 : ax_M} {k i k2 i2 sp dp n : Nat} (hk : k2 ∈ l) (h : zE l m m1) : zE l m (ax_cpi m1 k i k2 i2 sp dp n) := by
  intro a ha
  obtain ⟨h1, h2⟩ := h a ha
  refine ⟨?_, h2⟩
  rw [← h1]
  funext b c
  exact if_neg (c := (a = k2 ∧ b = i2) ∧ dp ≤ c ∧ c < dp + n) (fun z => ha (z.1.1 ▸ hk))
theorem zE.cpl {l : List Nat} {m m1 : ax_M} {k i k2 i2 sp dp n : Nat} (hk : k2 ∈ l) (h : zE l m m1) : zE l m (ax_cpl m1 k i k2 i2 sp dp n) := by
  intro a ha
  obtain ⟨h1, h2⟩ := h a ha
  refine ⟨h1, ?_⟩
  rw [← h2]
  funext b c
  exact if_neg (c := (a = k2 ∧ b = i2) ∧ dp ≤ c ∧ c < dp + n) (fun z => ha (z.1.1 ▸ hk))
theorem zE.i {l : List Nat} {m m1 : ax_M} (h : zE l m m1) {k : Nat} (hk : k ∉ l) (i j : Nat) : m1.1 k i j = m.1 k i j := by rw [(h k hk).1]
theorem zE.l {l : List Nat} {m m1 : ax_M} (h : zE l m m1) {k : Nat} (hk : k ∉ l) (i j : Nat) : m1.2 k i j = m.2 k i j := by rw [(h k hk).2]
theorem zC.E {l : List Nat} {m m1 : ax_M} {g : Nat} {G : zG} (h : zC m g G) (e : zE l m m1) (hl : 1 ∉ l ∧ 2 ∉ l ∧ 4 ∉ l ∧ 6 ∉ l) : zC m1 g G := by
  unfold zC at *
  rw [(e 1 hl.1).1, (e 1 hl.1).2, (e 2 hl.2.1).1, (e 4 hl.2.2.1).1, (e 6 hl.2.2.2).1]
  exact h
theorem zL.E {l : List Nat} {m m1 : ax_M} {G : zG} (h : zL m G) (e : zE l m m1) (hl : 22 ∉ l ∧ 23 ∉ l ∧ 24 ∉ l ∧ 25 ∉ l ∧ 26 ∉ l ∧ 27 ∉ l ∧ 28 ∉ l ∧ 29 ∉ l) : zL m1 G := by
  obtain ⟨l1, l2, l3, l4, l5, l6, l7, l8⟩ := hl
  unfold zL at *
  rw [(e 22 l1).1, (e 23 l2).1, (e 24 l3).1, (e 25 l4).1, (e 26 l5).1, (e 27 l6).1, (e 28 l7).1, (e 29 l8).1]
  exact h
/-- an image of the reference -/
def zO (m : ax_M) (k : Nat) (G : zG) : Prop := m.1 k 0 200 = nI (gP G) ∧ m.1 k 0 201 = nI (gS G) ∧ m.1 k 0 202 = gZ G ∧ (∀ c, c < 64 → m.1 k 0 c = bI (gW G c)) ∧ (∀ p, p < 8 → m.1 k 0 (128 + p) = nI (gO G p)) ∧ (∀ x y, x < 8 → y < 8 → m.1 k 0 (64 + (8 * x + y)) = nI (gD G x y)) ∧ (∀ i, i < 16 → m.1 k 0 (136 + i) = nI (gK G i) ∧ m.1 k 0 (152 + i) = nI (gA G i) ∧ m.1 k 0 (168 + i) = nI (gC G i) ∧ m.1 k 0 (184 + i) = nI (gR G i))
theorem zO.E {l : List Nat} {m m1 : ax_M} {k : Nat} {G : zG} (h : zO m k G) (e : zE l m m1) (hl : k ∉ l) : zO m1 k G := by
  unfold zO at *
  rw [(e k hl).1]
  exact h
/-- what is kept -/
def zKp (m : ax_M) : Prop := (m.1 0 0 3 = nI 0 ∧ m.1 22 0 20 = nI 0) ∨ (m.1 0 0 3 = nI 1 ∧ m.1 22 0 20 = nI 1 ∧ ∃ K, zV K ∧ zC m 1 K ∧ zO m 35 K)
theorem zKp.E {l : List Nat} {m m1 : ax_M} (h : zKp m) (e : zE l m m1) (hl : 0 ∉ l ∧ 22 ∉ l ∧ 35 ∉ l ∧ 1 ∉ l ∧ 2 ∉ l ∧ 4 ∉ l ∧ 6 ∉ l) : zKp m1 := by
  obtain ⟨l1, l2, l3, l4⟩ := hl
  unfold zKp at *
  rw [(e 0 l1).1, (e 22 l2).1]
  rcases h with h | ⟨h1, h2, K, h3, h4, h5⟩
  · exact .inl h
  · exact .inr ⟨h1, h2, K, h3, h4.E e l4, h5.E e l3⟩
/-- a shelf -/
def zSh1 (m : ax_M) (n s : Nat) : Prop := (m.1 8 s 0 = mI ∧ m.1 31 0 s = mI ∧ m.1 8 s 1 = nI 0) ∨ (∃ k, k < n ∧ m.1 8 s 0 = nI (10 + k) ∧ m.1 31 0 s = nI (10 + k) ∧ m.1 8 s 1 = nI 0) ∨ (∃ t l, t < 5 ∧ l ≤ 40 ∧ m.1 8 s 0 = nI t ∧ m.1 31 0 s = nI t ∧ m.1 8 s 1 = nI l ∧ m.1 32 0 s = nI l ∧ ∀ i, i < l → m.2 9 s i = m.2 33 0 (40 * s + i))
def zSh (m : ax_M) (n : Nat) : Prop := ∀ s, s < 8 → zSh1 m n s
theorem zSh.E {l : List Nat} {m m1 : ax_M} {n : Nat} (h : zSh m n) (e : zE l m m1) (hl : 8 ∉ l ∧ 31 ∉ l ∧ 32 ∉ l ∧ 9 ∉ l ∧ 33 ∉ l) : zSh m1 n := by
  obtain ⟨l1, l2, l3, l4, l5⟩ := hl
  unfold zSh zSh1 at *
  rw [(e 8 l1).1, (e 31 l2).1, (e 32 l3).1, (e 9 l4).2, (e 33 l5).2]
  exact h
/-- the tape -/
def zTp (m : ax_M) : Prop := ∃ n, n ≤ 250 ∧ m.1 10 0 1 = nI n ∧ m.1 22 0 10 = nI n ∧ ∀ i, i < n → ∃ b, b < 256 ∧ m.1 11 0 i = nI b ∧ m.1 30 0 i = nI b
theorem zTp.E {l : List Nat} {m m1 : ax_M} (h : zTp m) (e : zE l m m1) (hl : 10 ∉ l ∧ 22 ∉ l ∧ 11 ∉ l ∧ 30 ∉ l) : zTp m1 := by
  obtain ⟨l1, l2, l3, l4⟩ := hl
  unfold zTp at *
  rw [(e 10 l1).1, (e 22 l2).1, (e 11 l3).1, (e 30 l4).1]
  exact h
def zRf (m : ax_M) : Prop := ∀ j, j < 5 → m.1 20 0 j = m.1 34 0 (j + 2)
theorem zRf.E {l : List Nat} {m m1 : ax_M} (h : zRf m) (e : zE l m m1) (hl : 20 ∉ l ∧ 34 ∉ l) : zRf m1 := by
  unfold zRf at *
  rw [(e 20 hl.1).1, (e 34 hl.2).1]
  exact h
def zRG (m : ax_M) (G : zG) : Prop := zV G ∧ zC m 0 G ∧ zL m G ∧ zKp m ∧ zSh m (gS G) ∧ zTp m ∧ zRf m
def zR (m : ax_M) : Prop := ∃ G, zRG m G
theorem zRG.E {l : List Nat} {m m1 : ax_M} {G : zG} (h : zRG m G) (e : zE l m m1) (hl : ∀ k, k ∈ l → k ∈ [12, 14, 16, 17, 19, 21, 36, 37, 38, 39]) : zRG m1 G := by
  obtain ⟨hV, hC, hL, hK, hS, hT, hF⟩ := h
  have nl : ∀ k, k ∉ [12, 14, 16, 17, 19, 21, 36, 37, 38, 39] → k ∉ l := fun k h1 h2 => h1 (hl k h2)
  have e2 : zE [12, 14, 16, 17, 19, 21, 36, 37, 38, 39] m m1 := e.mo hl
  exact ⟨hV, hC.E e2 (by decide), hL.E e2 (by decide), hK.E e2 (by decide), hS.E e2 (by decide), hT.E e2 (by decide), hF.E e2 (by decide)⟩
/-! refusals -/
def zrf (m : ax_M) (j : Nat) : ax_M := ax_ui m 20 0 j (m.1 20 0 j + 1)
def zrn (m : ax_M) (j : Nat) : ax_M := ax_ui m 34 0 j (m.1 34 0 j + 1)
theorem c_no2 (m : ax_M) : F_X10_refuse m (-nI 2) = some (-nI 2, zrf m 0) := rfl
theorem c_no3 (m : ax_M) : F_X10_refuse m (-nI 3) = some (-nI 3, zrf m 1) := rfl
theorem c_no4 (m : ax_M) : F_X10_refuse m (-nI 4) = some (-nI 4, zrf m 2) := rfl
theorem c_no5 (m : ax_M) : F_X10_refuse m (-nI 5) = some (-nI 5, zrf m 3) := rfl
theorem c_no6 (m : ax_M) : F_X10_refuse m (-nI 6) = some (-nI 6, zrf m 4) := rfl
theorem r_no2 (m : ax_M) : F_X11_no m (-nI 2) = some (-nI 2, zrn m 2) := rfl
theorem r_no3 (m : ax_M) : F_X11_no m (-nI 3) = some (-nI 3, zrn m 3) := rfl
theorem r_no4 (m : ax_M) : F_X11_no m (-nI 4) = some (-nI 4, zrn m 4) := rfl
theorem r_no5 (m : ax_M) : F_X11_no m (-nI 5) = some (-nI 5, zrn m 5) := rfl
theorem r_no6 (m : ax_M) : F_X11_no m (-nI 6) = some (-nI 6, zrn m 6) := rfl
theorem zrf_E (m : ax_M) (j : Nat) : zE [20] m (zrf m j) := (zE.rf [20] m).ui (by decide)
theorem zrn_E (m : ax_M) (j : Nat) : zE [34] m (zrn m j) := (zE.rf [34] m).ui (by decide)
theorem zRG.no {m m1 : ax_M} {G : zG} {j : Nat} (hj : j < 5) (h : zRG m G) (e : m1 = zrf m j) : zRG (zrn m1 (j + 2)) G := by
  subst e
  obtain ⟨hV, hC, hL, hK, hS, hT, hF⟩ := h
  have e2 : zE [20, 34] m (zrn (zrf m j) (j + 2)) := ((zE.rf [20, 34] m).ui (by decide)).ui (by decide)
  refine ⟨hV, hC.E e2 (by decide), hL.E e2 (by decide), hK.E e2 (by decide), hS.E e2 (by decide), hT.E e2 (by decide), fun i hi => ?_⟩
  have h1 := hF j hj
  have h2 := hF i hi
  by_cases e3 : i = j
  · subst e3
    unfold zrn zrf
    rw [zu_k (by decide), zu_s, zu_s, zu_k (by decide), h1]
  · unfold zrn zrf
    rw [zu_k (by decide), zu_j e3, zu_j (by omega), zu_k (by decide), h2]
/-- a call on both: the class's first -/
def zT {α : Type} (f g : ax_M → Option (α × ax_M)) : Prop := ∀ m, zR m → ∃ a m1 m2, f m = some (a, m1) ∧ g m1 = some (a, m2) ∧ zR m2
/-- the shape of most calls: by one garden; a refusal or an answer with nothing changed but what nobody reads -/
theorem zT_of {α : Type} {f g : ax_M → Option (α × ax_M)} (h : ∀ m G, zRG m G → ∃ a m1 m2, f m = some (a, m1) ∧ g m1 = some (a, m2) ∧ zR m2) : zT f g := fun m ⟨G, hG⟩ => h m G hG
theorem zT_no {α : Type} {o : Option (α × ax_M)} {g : ax_M → Option (α × ax_M)} {m : ax_M} {G : zG} (j : Nat) (hj : j < 5) (a : α) (h : zRG m G) (hf : o = some (a, zrf m j)) (hg : ∀ m1, zE [20] m m1 → zL m1 G → g m1 = some (a, zrn m1 (j + 2))) : ∃ a m1 m2, o = some (a, m1) ∧ g m1 = some (a, m2) ∧ zR m2 :=
  ⟨a, _, _, hf, hg _ (zrf_E m j) (h.2.2.1.E (zrf_E m j) (by decide)), G, h.no hj rfl⟩
theorem zT_an {α : Type} {o : Option (α × ax_M)} {g : ax_M → Option (α × ax_M)} {m : ax_M} {G : zG} (a : α) (h : zRG m G) (hf : o = some (a, m)) (hg : g m = some (a, m)) : ∃ a m1 m2, o = some (a, m1) ∧ g m1 = some (a, m2) ∧ zR m2 :=
  ⟨a, m, m, hf, hg, G, h⟩
def zpu {α : Type} (f : ax_M → Option α) (m : ax_M) : Option (α × ax_M) := ax_b (f m) (fun a => some (a, m))
theorem zpu_of {α : Type} {f : ax_M → Option α} {m m1 : ax_M} {a : α} (h : zpu f m = some (a, m1)) : f m = some a ∧ m1 = m := by
  obtain ⟨b, h1, h2⟩ := ax_b_of h
  obtain ⟨rfl, rfl⟩ := Prod.mk.inj (Option.some.inj h2)
  exact ⟨h1, rfl⟩
