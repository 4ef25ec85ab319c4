/-! NORMAL FORMS: every written int as nI or mI; reads of a changed memory -/
theorem zl_101 : (101 : Int32) = nI 101 := by decide
theorem zl_119 : (119 : Int32) = nI 119 := by decide
theorem zl_120 : (120 : Int32) = nI 120 := by decide
theorem zl_1000 : (1000 : Int32) = nI 1000 := by decide
def mI : Int32 := -1
theorem zl_m1 : (-1 : Int32) = mI := by decide
theorem mI_e {a : Nat} (ha : a < 2 ^ 31) : (nI a = mI) = False := zz_m1 ha
theorem mI_e2 {a : Nat} (ha : a < 2 ^ 31) : (mI = nI a) = False := zz_m1s ha
theorem mI_toInt : mI.toInt = -1 := by decide
theorem mI_le {a : Nat} (ha : a < 2 ^ 31) : (mI ≤ nI a) = True := eq_true (by rw [Int32.le_iff_toInt_le, mI_toInt, nI_toInt ha]; omega)
theorem mI_le2 {a : Nat} (ha : a < 2 ^ 31) : (nI a ≤ mI) = False := eq_false (by rw [Int32.le_iff_toInt_le, mI_toInt, nI_toInt ha]; omega)
theorem mI_lt {a : Nat} (ha : a < 2 ^ 31) : (mI < nI a) = True := eq_true (by rw [Int32.lt_iff_toInt_lt, mI_toInt, nI_toInt ha]; omega)
theorem mI_lt2 {a : Nat} (ha : a < 2 ^ 31) : (nI a < mI) = False := eq_false (by rw [Int32.lt_iff_toInt_lt, mI_toInt, nI_toInt ha]; omega)
theorem mI_ok {n : Nat} : ax_ok mI n = false := by
  unfold ax_ok
  rw [mI_toInt]
  rfl
theorem bI_0n (b : Bool) : (bI b = nI 0) = (b = false) := bI_0 b
theorem bI_1n (b : Bool) : (bI b = nI 1) = (b = true) := bI_1 b
theorem bI_orn (b : Bool) : (bI b = nI 0 ∨ bI b = nI 1) = True := bI_or b
theorem zu_s {m : ax_M} {k i j : Nat} {v : Int32} : (ax_ui m k i j v).1 k i j = v := if_pos ⟨rfl, rfl, rfl⟩
theorem zu_k {m : ax_M} {k i j a b c : Nat} {v : Int32} (h : a ≠ k) : (ax_ui m k i j v).1 a b c = m.1 a b c := if_neg (fun z => h z.1)
theorem zu_i {m : ax_M} {k i j a b c : Nat} {v : Int32} (h : b ≠ i) : (ax_ui m k i j v).1 a b c = m.1 a b c := if_neg (fun z => h z.2.1)
theorem zu_j {m : ax_M} {k i j a b c : Nat} {v : Int32} (h : c ≠ j) : (ax_ui m k i j v).1 a b c = m.1 a b c := if_neg (fun z => h z.2.2)
theorem zu_l {m : ax_M} {k i j : Nat} {v : Int32} : (ax_ui m k i j v).2 = m.2 := rfl
theorem zv_s {m : ax_M} {k i j : Nat} {v : Int64} : (ax_ul m k i j v).2 k i j = v := if_pos ⟨rfl, rfl, rfl⟩
theorem zv_k {m : ax_M} {k i j a b c : Nat} {v : Int64} (h : a ≠ k) : (ax_ul m k i j v).2 a b c = m.2 a b c := if_neg (fun z => h z.1)
theorem zv_i {m : ax_M} {k i j a b c : Nat} {v : Int64} (h : b ≠ i) : (ax_ul m k i j v).2 a b c = m.2 a b c := if_neg (fun z => h z.2.1)
theorem zv_j {m : ax_M} {k i j a b c : Nat} {v : Int64} (h : c ≠ j) : (ax_ul m k i j v).2 a b c = m.2 a b c := if_neg (fun z => h z.2.2)
theorem zv_l {m : ax_M} {k i j : Nat} {v : Int64} : (ax_ul m k i j v).1 = m.1 := rfl
theorem zm_s {f : Nat → Bool} {n : Nat} (h : f n = true) : zm f n ||| ax_ishl (nI 1) (nI n) = zm f (n + 1) := by rw [zm, if_pos h]; rfl
theorem zm_n {f : Nat → Bool} {n : Nat} (h : f n = false) : zm f (n + 1) = zm f n := by rw [zm, h]; rfl
theorem zm_u {f : Nat → Bool} {n k : Nat} (hn : n ≤ 32) (hk : k < n) : (ax_iushr (zm f n) (nI k) &&& nI 1 = nI 0) = (f k = false) := zm_tu hn hk
theorem zm_z {f : Nat → Bool} {n : Nat} (hn : n ≤ 32) : (zm f n = nI 0) = (∀ i, i < n → f i = false) := propext (zm_0 hn)
theorem zs_congr {f g : Nat → Nat} : ∀ {n : Nat}, (∀ j, j < n → f j = g j) → zs f n = zs g n
  | 0, _ => rfl
  | n + 1, h => by rw [zs, zs, zs_congr (fun j hj => h j (by omega)), h n (by omega)]
theorem zs_cut {f : Nat → Nat} {n : Nat} : ∀ k, (∀ j, n ≤ j → j < n + k → f j = 0) → zs f (n + k) = zs f n
  | 0, _ => rfl
  | k + 1, h => by rw [← Nat.add_assoc, zs, zs_cut k (fun j h1 h2 => h j h1 (by omega)), h (n + k) (by omega) (by omega), Nat.add_zero]
theorem zs_to {f : Nat → Nat} {n N : Nat} (hn : n ≤ N) (h : ∀ j, n ≤ j → j < N → f j = 0) : zs f n = zs f N := by
  have := zs_cut (f := f) (n := n) (N - n) (fun j h1 h2 => h j h1 (by omega))
  rw [show n + (N - n) = N by omega] at this
  exact this.symm
def zany (f : Nat → Bool) : Nat → Bool
  | 0 => false
  | n + 1 => zany f n || f n
theorem zany_t {f : Nat → Bool} : ∀ {n : Nat}, zany f n = true ↔ ∃ i, i < n ∧ f i = true
  | 0 => ⟨fun h => (by cases h), fun ⟨i, h, _⟩ => (by omega)⟩
  | n + 1 => by
    rw [zany, Bool.or_eq_true, zany_t (n := n)]
    constructor
    · rintro (⟨i, h, e⟩ | e)
      · exact ⟨i, by omega, e⟩
      · exact ⟨n, by omega, e⟩
    · rintro ⟨i, h, e⟩
      by_cases h2 : i = n
      · subst h2; exact .inr e
      · exact .inl ⟨i, by omega, e⟩
theorem zany_f {f : Nat → Bool} {n : Nat} : zany f n = false ↔ ∀ i, i < n → f i = false := by
  constructor
  · intro h i hi
    cases e : f i with
    | false => rfl
    | true => rw [zany_t.mpr ⟨i, hi, e⟩] at h; cases h
  · intro h
    cases e : zany f n with
    | false => rfl
    | true => obtain ⟨i, hi, e2⟩ := zany_t.mp e; rw [h i hi] at e2; cases e2
theorem zany_congr {f g : Nat → Bool} : ∀ {n : Nat}, (∀ k, k < n → f k = g k) → zany f n = zany g n
  | 0, _ => rfl
  | n + 1, h => by rw [zany, zany, zany_congr (fun k hk => h k (by omega)), h n (by omega)]
theorem zm_any {f : Nat → Bool} {n : Nat} (hn : n ≤ 32) : (zm f n = nI 0) = (zany f n = false) := by rw [zm_z hn]; exact propext zany_f.symm
theorem zz_max (a b : Nat) (ha : a < 2 ^ 31) (hb : b < 2 ^ 31) : ax_max (nI a) (nI b) = nI (max a b) := by
  unfold ax_max
  by_cases h : a < b
  · rw [if_pos (nI_lt h hb), Nat.max_eq_right (by omega)]
  · rw [if_neg (nI_nlt (by omega) ha), Nat.max_eq_left (by omega)]
theorem zz_min (a b : Nat) (ha : a < 2 ^ 31) (hb : b < 2 ^ 31) : ax_min (nI a) (nI b) = nI (min a b) := by
  unfold ax_min
  by_cases h : b < a
  · rw [if_pos (nI_lt h ha), Nat.min_eq_right (by omega)]
  · rw [if_neg (nI_nlt (by omega) hb), Nat.min_eq_left (by omega)]
/-! THE GARDEN: people and seeds (0), places (1), debts (2), kind, a, cell, creditor (3 to 6); walls; seedness -/
abbrev zG : Type := (Nat → Nat → Nat) × ((Nat → Bool) × Int32)
def gP (G : zG) : Nat := G.1 0 0
def gS (G : zG) : Nat := G.1 0 1
def gO (G : zG) (p : Nat) : Nat := G.1 1 p
def gD (G : zG) (x y : Nat) : Nat := G.1 2 (8 * x + y)
def gK (G : zG) (i : Nat) : Nat := G.1 3 i
def gA (G : zG) (i : Nat) : Nat := G.1 4 i
def gC (G : zG) (i : Nat) : Nat := G.1 5 i
def gR (G : zG) (i : Nat) : Nat := G.1 6 i
def gW (G : zG) (c : Nat) : Bool := G.2.1 c
def gZ (G : zG) : Int32 := G.2.2
def zV (G : zG) : Prop := gP G ≤ 8 ∧ gS G ≤ 16 ∧ (∀ p, p < 8 → gO G p < 64) ∧ (∀ p, p < gP G → gW G (gO G p) = false) ∧ (∀ x y, x < 8 → y < 8 → gD G x y ≤ 999) ∧ (∀ x y, x < 8 → y < 8 → (gP G ≤ x ∨ gP G ≤ y ∨ x = y) → gD G x y = 0) ∧ (∀ i, i < 16 → gK G i < 6 ∧ gA G i ≤ 9 ∧ gC G i < 64 ∧ gR G i < 8) ∧ (∀ i, i < gS G → gR G i < gP G)
theorem zV.p {G : zG} (h : zV G) : gP G ≤ 8 := h.1
theorem zV.s {G : zG} (h : zV G) : gS G ≤ 16 := h.2.1
theorem zV.o {G : zG} (h : zV G) {p : Nat} (hp : p < 8) : gO G p < 64 := h.2.2.1 p hp
theorem zV.w {G : zG} (h : zV G) {p : Nat} (hp : p < gP G) : gW G (gO G p) = false := h.2.2.2.1 p hp
theorem zV.d {G : zG} (h : zV G) {x y : Nat} (hx : x < 8) (hy : y < 8) : gD G x y ≤ 999 := h.2.2.2.2.1 x y hx hy
theorem zV.z {G : zG} (h : zV G) {x y : Nat} (hx : x < 8) (hy : y < 8) (h2 : gP G ≤ x ∨ gP G ≤ y ∨ x = y) : gD G x y = 0 := h.2.2.2.2.2.1 x y hx hy h2
theorem zV.k {G : zG} (h : zV G) {i : Nat} (hi : i < 16) : gK G i < 6 := (h.2.2.2.2.2.2.1 i hi).1
theorem zV.a {G : zG} (h : zV G) {i : Nat} (hi : i < 16) : gA G i ≤ 9 := (h.2.2.2.2.2.2.1 i hi).2.1
theorem zV.c {G : zG} (h : zV G) {i : Nat} (hi : i < 16) : gC G i < 64 := (h.2.2.2.2.2.2.1 i hi).2.2.1
theorem zV.r {G : zG} (h : zV G) {i : Nat} (hi : i < 16) : gR G i < 8 := (h.2.2.2.2.2.2.1 i hi).2.2.2
theorem zV.rp {G : zG} (h : zV G) {i : Nat} (hi : i < gS G) : gR G i < gP G := h.2.2.2.2.2.2.2 i hi
/-- the class's garden g -/
def zC (m : ax_M) (g : Nat) (G : zG) : Prop := m.1 1 g 1 = nI (gP G) ∧ m.1 1 g 4 = nI (gS G) ∧ m.1 1 g 6 = gZ G ∧ m.2 1 g 0 = lb (gW G) ∧ (∀ p, p < 8 → m.1 2 g p = nI (gO G p)) ∧ (∀ x y, x < 8 → y < 8 → m.1 4 g (8 * x + y) = nI (gD G x y)) ∧ (∀ i, i < 16 → m.1 6 (16 * g + i) 0 = nI (gK G i) ∧ m.1 6 (16 * g + i) 1 = nI (gA G i) ∧ m.1 6 (16 * g + i) 2 = nI (gC G i) ∧ m.1 6 (16 * g + i) 3 = nI (gR G i))
section
variable {m : ax_M} {g : Nat} {G : zG}
theorem zC.p (h : zC m g G) : m.1 1 g 1 = nI (gP G) := h.1
theorem zC.s (h : zC m g G) : m.1 1 g 4 = nI (gS G) := h.2.1
theorem zC.e (h : zC m g G) : m.1 1 g 6 = gZ G := h.2.2.1
theorem zC.w (h : zC m g G) : m.2 1 g 0 = lb (gW G) := h.2.2.2.1
theorem zC.o (h : zC m g G) {p : Nat} (hp : p < 8) : m.1 2 g p = nI (gO G p) := h.2.2.2.2.1 p hp
theorem zC.d (h : zC m g G) {x y : Nat} (hx : x < 8) (hy : y < 8) : m.1 4 g (8 * x + y) = nI (gD G x y) := h.2.2.2.2.2.1 x y hx hy
theorem zC.k (h : zC m g G) {i : Nat} (hi : i < 16) : m.1 6 (16 * g + i) 0 = nI (gK G i) := (h.2.2.2.2.2.2 i hi).1
theorem zC.a (h : zC m g G) {i : Nat} (hi : i < 16) : m.1 6 (16 * g + i) 1 = nI (gA G i) := (h.2.2.2.2.2.2 i hi).2.1
theorem zC.c (h : zC m g G) {i : Nat} (hi : i < 16) : m.1 6 (16 * g + i) 2 = nI (gC G i) := (h.2.2.2.2.2.2 i hi).2.2.1
theorem zC.r (h : zC m g G) {i : Nat} (hi : i < 16) : m.1 6 (16 * g + i) 3 = nI (gR G i) := (h.2.2.2.2.2.2 i hi).2.2.2
end
/-- the reference's garden -/
def zL (m : ax_M) (G : zG) : Prop := m.1 22 0 1 = nI (gP G) ∧ m.1 22 0 4 = nI (gS G) ∧ m.1 22 0 9 = gZ G ∧ (∀ c, c < 64 → m.1 23 0 c = bI (gW G c)) ∧ (∀ p, p < 8 → m.1 24 0 p = nI (gO G p)) ∧ (∀ x y, x < 8 → y < 8 → m.1 25 0 (8 * x + y) = nI (gD G x y)) ∧ (∀ i, i < 16 → m.1 26 0 i = nI (gK G i) ∧ m.1 27 0 i = nI (gA G i) ∧ m.1 28 0 i = nI (gC G i) ∧ m.1 29 0 i = nI (gR G i))
section
variable {m : ax_M} {G : zG}
theorem zL.p (h : zL m G) : m.1 22 0 1 = nI (gP G) := h.1
theorem zL.s (h : zL m G) : m.1 22 0 4 = nI (gS G) := h.2.1
theorem zL.e (h : zL m G) : m.1 22 0 9 = gZ G := h.2.2.1
theorem zL.w (h : zL m G) {c : Nat} (hc : c < 64) : m.1 23 0 c = bI (gW G c) := h.2.2.2.1 c hc
theorem zL.o (h : zL m G) {p : Nat} (hp : p < 8) : m.1 24 0 p = nI (gO G p) := h.2.2.2.2.1 p hp
theorem zL.d (h : zL m G) {x y : Nat} (hx : x < 8) (hy : y < 8) : m.1 25 0 (8 * x + y) = nI (gD G x y) := h.2.2.2.2.2.1 x y hx hy
theorem zL.k (h : zL m G) {i : Nat} (hi : i < 16) : m.1 26 0 i = nI (gK G i) := (h.2.2.2.2.2.2 i hi).1
theorem zL.a (h : zL m G) {i : Nat} (hi : i < 16) : m.1 27 0 i = nI (gA G i) := (h.2.2.2.2.2.2 i hi).2.1
theorem zL.c (h : zL m G) {i : Nat} (hi : i < 16) : m.1 28 0 i = nI (gC G i) := (h.2.2.2.2.2.2 i hi).2.2.1
theorem zL.r (h : zL m G) {i : Nat} (hi : i < 16) : m.1 29 0 i = nI (gR G i) := (h.2.2.2.2.2.2 i hi).2.2.2
end
/-! what the document says -/
def zrc (k : Nat) : Nat := if k = 1 then 0 else if k = 2 then 2 else if k = 3 then 0 else if k = 4 then 2 else 1
def zfar (c d : Nat) : Nat := max (max (c / 8 - d / 8) (d / 8 - c / 8)) (max (c % 8 - d % 8) (d % 8 - c % 8))
def gOw (G : zG) (x : Nat) : Nat := zs (gD G x) 8
def gTo (G : zG) (y : Nat) : Nat := zs (fun x => gD G x y) 8
def gPr (G : zG) (i : Nat) : Nat := max 1 (if gK G i = 3 then 10 * gA G i else if gK G i = 5 then gA G i else 1)
def gE (G : zG) (p i : Nat) : Bool := if gK G i = 4 then decide (0 < gOw G p) else decide (gPr G i ≤ gD G p (gR G i))
def gN (G : zG) (c i : Nat) : Bool := decide (zfar c (gC G i) ≤ zrc (gK G i))
def gU (G : zG) (i p c : Nat) : Bool := gN G c i && gE G p i
def gUp (G : zG) (i p : Nat) : Bool := gU G i p (gO G p)
theorem gOw_le {G : zG} (h : zV G) {x : Nat} (hx : x < 8) : gOw G x ≤ 7992 := zs_le 8 (fun _ hi => h.d hx hi)
theorem gTo_le {G : zG} (h : zV G) {x : Nat} (hx : x < 8) : gTo G x ≤ 7992 := zs_le 8 (fun _ hi => h.d hi hx)
theorem gOw_p {G : zG} (h : zV G) {x : Nat} (hx : x < 8) : zs (gD G x) (gP G) = gOw G x := zs_to h.p (fun j h1 h2 => h.z hx h2 (.inr (.inl h1)))
theorem gTo_p {G : zG} (h : zV G) {x : Nat} (hx : x < 8) : zs (fun y => gD G y x) (gP G) = gTo G x := zs_to h.p (fun j h1 h2 => h.z h2 hx (.inl h1))
theorem gPr_b {G : zG} (h : zV G) {i : Nat} (hi : i < 16) : 1 ≤ gPr G i ∧ gPr G i ≤ 90 := by
  have := h.a hi
  unfold gPr
  split
  · omega
  · split <;> omega
