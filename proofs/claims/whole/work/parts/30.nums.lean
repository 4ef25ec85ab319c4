/-! NUMBERS: ints that are small naturals -/
theorem zz_0 : (0 : Int32) = nI 0 := rfl
theorem zz_1 : (1 : Int32) = nI 1 := rfl
theorem zz_okN {j n : Nat} (h : j < n) (h2 : j < 2 ^ 31) : ax_ok (nI j) n = true := by
  unfold ax_ok
  rw [nI_toInt h2]
  simp
  omega
theorem zz_okF {j n : Nat} (h : n ≤ j) (h2 : j < 2 ^ 31) : ax_ok (nI j) n = false := by
  unfold ax_ok
  rw [nI_toInt h2]
  simp
  omega
theorem zz_ok_of {x : Int32} {n : Nat} (hn : n < 2 ^ 31) (h : ax_ok x n = true) : ∃ j, j < n ∧ x = nI j := vp_in_of (ax_ok_in h) hn
theorem zz_le {a b : Nat} (ha : a < 2 ^ 31) (hb : b < 2 ^ 31) : (nI a ≤ nI b) = (a ≤ b) := propext (nI_leI ha hb)
theorem zz_lt {a b : Nat} (ha : a < 2 ^ 31) (hb : b < 2 ^ 31) : (nI a < nI b) = (a < b) := propext (nI_ltI ha hb)
theorem zz_eq {a b : Nat} (ha : a < 2 ^ 31) (hb : b < 2 ^ 31) : (nI a = nI b) = (a = b) := propext (nI_eq ha hb)
theorem zz_m1 {a : Nat} (ha : a < 2 ^ 31) : (nI a = -1) = False := by
  refine eq_false (fun h => ?_)
  have h1 := congrArg Int32.toInt h
  rw [nI_toInt ha] at h1
  have h2 : (-1 : Int32).toInt = -1 := by decide
  omega
theorem zz_bS {α β : Type} (a : α) (f : α → Option β) : ax_b (some a) f = f a := by simp only [ax_b]
theorem zz_b2S {α β γ : Type} (a : α) (b : β) (f : α → β → Option γ) : ax_b2 (some (a, b)) f = f a b := by simp only [ax_b2]
/-- a counted loop -/
theorem zz_loop {P : Nat → Nat → Prop} (e : Nat) (hx : ∀ n, P (n + 1) e) (hs : ∀ n i, i < e → P n (i + 1) → P (n + 1) i) : ∀ k i n, i + k = e → k < n → P n i := by
  intro k
  induction k with
  | zero =>
    intro i n h1 h2
    obtain ⟨n, rfl⟩ : ∃ z, n = z + 1 := ⟨n - 1, by omega⟩
    have : i = e := by omega
    subst this
    exact hx n
  | succ k ih =>
    intro i n h1 h2
    obtain ⟨n, rfl⟩ : ∃ z, n = z + 1 := ⟨n - 1, by omega⟩
    exact hs n i (by omega) (ih (i + 1) n (by omega) (by omega))
def zs (f : Nat → Nat) : Nat → Nat
  | 0 => 0
  | n + 1 => zs f n + f n
theorem zs_le {f : Nat → Nat} {b : Nat} : ∀ n, (∀ i, i < n → f i ≤ b) → zs f n ≤ n * b
  | 0, _ => by simp [zs]
  | n + 1, h => by
    have h1 := zs_le n (fun i hi => h i (by omega))
    have h2 := h n (by omega)
    simp only [zs, Nat.succ_mul]
    omega
/-- the coins of the class's garden g -/
def zd (m : ax_M) (g : Nat) (d : Nat → Nat → Nat) : Prop := ∀ x y, x < 8 → y < 8 → m.1 4 g (8 * x + y) = nI (d x y) ∧ d x y ≤ 999
theorem zz_of {m : ax_M} {g : Nat} {d : Nat → Nat → Nat} (h : zd m g d) {x y : Nat} (hx : x < 8) (hy : y < 8) : F_X2_of m g (nI x) (nI y) = some (nI (d x y)) := by
  have e : nI x * 8 + nI y = nI (8 * x + y) := by rw [show (8 : Int32) = nI 8 from rfl, pk_mul, nI_add, Nat.mul_comm]
  unfold F_X2_of
  rw [e, if_pos (zz_okN (by omega) (by omega)), nI_clamp (by omega), (h x y hx hy).1]
theorem zz_owedBy {m : ax_M} {g : Nat} {d : Nat → Nat → Nat} (h : zd m g d) {x : Nat} (hx : x < 8) : F_X2_owedBy m g (nI x) = some (nI (zs (d x) 8)) := by
  have key : ∀ k i n, i + k = 8 → k < n → F_X2_owedBy_L4 n m g (nI x) (nI (zs (d x) i)) (nI i) = some (nI (zs (d x) 8)) := by
    refine zz_loop 8 (fun n => ?_) (fun n i hi ih => ?_)
    · rw [F_X2_owedBy_L4, if_pos (by exact Int32.le_refl _)]
    · rw [F_X2_owedBy_L4, show (8 : Int32) = nI 8 from rfl, if_neg (by rw [zz_le (by omega) (by omega)]; omega), zz_of h hx hi, zz_bS, nI_add, nI_1]
      exact ih
  exact key 8 0 ax_FU rfl (by decide)
