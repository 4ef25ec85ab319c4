/-! POPULATION COUNT: digits of naturals -/
def dg (B : Nat) : (Nat → Nat) → Nat → Nat
  | _, 0 => 0
  | f, n + 1 => f 0 + B * dg B (fun j => f (j + 1)) n
theorem dg_congr {B : Nat} : ∀ {n : Nat} {f g : Nat → Nat}, (∀ j, j < n → f j = g j) → dg B f n = dg B g n
  | 0, _, _, _ => rfl
  | n + 1, f, g, h => by rw [dg, dg, h 0 (by omega), dg_congr (fun j hj => h (j + 1) (by omega))]
theorem dg_div {B : Nat} (hB : 0 < B) : ∀ {n : Nat} {f : Nat → Nat}, (∀ j, j < n → f j < B) → f n = 0 → dg B f n / B = dg B (fun j => f (j + 1)) n := by
  intro n f h h0
  have e : dg B f n = dg B f (n + 1) := by
    clear h
    induction n generalizing f with
    | zero => simp [dg, h0]
    | succ n ih =>
      have := ih (f := fun j => f (j + 1)) h0
      rw [dg, this]
      rfl
  cases n with
  | zero => simp [dg]
  | succ n => rw [e, dg, Nat.add_mul_div_left _ _ hB, Nat.div_eq_of_lt (h 0 (by omega)), Nat.zero_add]
theorem dg_group {B : Nat} : ∀ {n : Nat} {f : Nat → Nat}, dg B f (2 * n) = dg (B * B) (fun j => f (2 * j) + B * f (2 * j + 1)) n
  | 0, _ => rfl
  | n + 1, f => by
    rw [show 2 * (n + 1) = 2 * n + 1 + 1 by omega, dg, dg, dg_group (n := n), dg, Nat.mul_add, Nat.mul_assoc, Nat.add_assoc]
    rfl
theorem dg_add {B : Nat} : ∀ {n : Nat} {f g : Nat → Nat}, dg B f n + dg B g n = dg B (fun j => f j + g j) n
  | 0, _, _ => rfl
  | n + 1, f, g => by rw [dg, dg, dg, ← dg_add (n := n), Nat.mul_add]; omega
theorem dg_sub {B n : Nat} {f g : Nat → Nat} (h : ∀ j, j < n → g j ≤ f j) : dg B f n - dg B g n = dg B (fun j => f j - g j) n := by
  have : dg B (fun j => f j - g j) n + dg B g n = dg B f n := by
    rw [dg_add]
    exact dg_congr (fun j hj => by have := h j hj; omega)
  omega
theorem nat_and_dig {k a b c d : Nat} (hb : b < 2 ^ k) (hd : d < 2 ^ k) : (b + 2 ^ k * a) &&& (d + 2 ^ k * c) = (b &&& d) + 2 ^ k * (a &&& c) := by
  have hbd : b &&& d < 2 ^ k := Nat.and_lt_two_pow b hd
  apply Nat.eq_of_testBit_eq
  intro i
  rw [Nat.testBit_and, Nat.add_comm b, Nat.add_comm d, Nat.add_comm (b &&& d)]
  rcases Nat.lt_or_ge i k with h | h
  · simp only [Nat.testBit_two_pow_mul_add _ hb, Nat.testBit_two_pow_mul_add _ hd, Nat.testBit_two_pow_mul_add _ hbd, h, if_true, Nat.testBit_and]
  · simp only [Nat.testBit_two_pow_mul_add _ hb, Nat.testBit_two_pow_mul_add _ hd, Nat.testBit_two_pow_mul_add _ hbd, Nat.not_lt.mpr h, if_false, Nat.testBit_and]
theorem dg_and {B k : Nat} (hB : B = 2 ^ k) : ∀ {n : Nat} {f g : Nat → Nat}, (∀ j, j < n → f j < B) → (∀ j, j < n → g j < B) → dg B f n &&& dg B g n = dg B (fun j => f j &&& g j) n
  | 0, _, _, _, _ => by simp [dg]
  | n + 1, f, g, h, h2 => by
    rw [dg, dg, dg, ← dg_and hB (fun j hj => h (j + 1) (by omega)) (fun j hj => h2 (j + 1) (by omega)), hB, nat_and_dig (by rw [← hB]; exact h 0 (by omega)) (by rw [← hB]; exact h2 0 (by omega))]
theorem dg_le {B : Nat} : ∀ {n : Nat} {f g : Nat → Nat}, (∀ j, j < n → g j ≤ f j) → dg B g n ≤ dg B f n
  | 0, _, _, _ => Nat.le_refl _
  | n + 1, f, g, h => by
    have h1 := dg_le (B := B) (n := n) (f := fun j => f (j + 1)) (g := fun j => g (j + 1)) (fun j hj => h (j + 1) (by omega))
    have h2 := h 0 (by omega)
    rw [dg, dg]
    exact Nat.add_le_add h2 (Nat.mul_le_mul_left _ h1)
theorem dg_lt {B : Nat} (hB : 0 < B) : ∀ {n : Nat} {f : Nat → Nat}, (∀ j, j < n → f j < B) → dg B f n < B ^ n
  | 0, _, _ => by simp [dg]
  | n + 1, f, h => by
    have h1 := dg_lt hB (n := n) (f := fun j => f (j + 1)) (fun j hj => h (j + 1) (by omega))
    have h2 := h 0 (by omega)
    rw [dg, Nat.pow_succ]
    calc f 0 + B * dg B (fun j => f (j + 1)) n < B + B * dg B (fun j => f (j + 1)) n := by omega
      _ = B * (dg B (fun j => f (j + 1)) n + 1) := by rw [Nat.mul_add, Nat.mul_one, Nat.add_comm]
      _ ≤ B * B ^ n := Nat.mul_le_mul_left _ h1
      _ = B ^ n * B := Nat.mul_comm _ _
/-- pairs -/
theorem pop_1 {b : Nat → Nat} {n : Nat} (hb : ∀ j, b j ≤ 1) (h0 : b (2 * n) = 0) : dg 2 b (2 * n) - (dg 2 b (2 * n) / 2 &&& dg 4 (fun _ => 1) n) = dg 4 (fun j => b (2 * j) + b (2 * j + 1)) n ∧ (dg 2 b (2 * n) / 2 &&& dg 4 (fun _ => 1) n) ≤ dg 2 b (2 * n) := by
  have h2 : ∀ j, b j < 2 := fun j => by have := hb j; omega
  rw [dg_div (by decide) (fun j _ => h2 j) h0, dg_group, dg_group, show 2 * 2 = 4 from rfl, dg_and (k := 2) rfl (fun j _ => by have := hb (2 * j + 1); have := hb (2 * j + 1 + 1); show b (2 * j + 1) + 2 * b (2 * j + 1 + 1) < 4; omega) (fun _ _ => by show 1 < 4; omega)]
  have key : ∀ j, (b (2 * j + 1) + 2 * b (2 * j + 1 + 1) &&& 1) = b (2 * j + 1) := fun j => by
    rw [Nat.and_one_is_mod]
    have := hb (2 * j + 1)
    omega
  rw [dg_congr (g := fun j => b (2 * j + 1)) (fun j _ => key j)]
  refine ⟨?_, dg_le (fun j _ => by omega)⟩
  rw [dg_sub (fun j _ => by omega)]
  exact dg_congr (fun j _ => by omega)
theorem and_3 {a b : Nat} (ha : a < 4) : (a + 4 * b) &&& 3 = a := by
  rw [show (3 : Nat) = 2 ^ 2 - 1 from rfl, Nat.and_two_pow_sub_one_eq_mod]
  omega
theorem and_15 {a b : Nat} (ha : a < 16) : (a + 16 * b) &&& 15 = a := by
  rw [show (15 : Nat) = 2 ^ 4 - 1 from rfl, Nat.and_two_pow_sub_one_eq_mod]
  omega
theorem pop_2 {c : Nat → Nat} {n : Nat} (hc : ∀ j, c j ≤ 2) (h0 : c (2 * n) = 0) : (dg 4 c (2 * n) &&& dg 16 (fun _ => 3) n) + (dg 4 c (2 * n) / 4 &&& dg 16 (fun _ => 3) n) = dg 16 (fun j => c (2 * j) + c (2 * j + 1)) n := by
  have h4 : ∀ j, c j < 4 := fun j => by have := hc j; omega
  rw [dg_div (by decide) (fun j _ => h4 j) h0, dg_group, dg_group, show 4 * 4 = 16 from rfl, dg_and (k := 4) rfl (fun j _ => by have := hc (2 * j); have := hc (2 * j + 1); show c (2 * j) + 4 * c (2 * j + 1) < 16; omega) (fun _ _ => by show 3 < 16; omega),
    dg_and (k := 4) rfl (fun j _ => by have := hc (2 * j + 1); have := hc (2 * j + 1 + 1); show c (2 * j + 1) + 4 * c (2 * j + 1 + 1) < 16; omega) (fun _ _ => by show 3 < 16; omega), dg_add]
  exact dg_congr (fun j _ => by
    show ((c (2 * j) + 4 * c (2 * j + 1)) &&& 3) + ((c (2 * j + 1) + 4 * c (2 * j + 1 + 1)) &&& 3) = _
    rw [and_3 (h4 _), and_3 (h4 _)])
theorem pop_3 {e : Nat → Nat} {n : Nat} (he : ∀ j, e j ≤ 4) (h0 : e (2 * n) = 0) : (dg 16 e (2 * n) + dg 16 e (2 * n) / 16) &&& dg 256 (fun _ => 15) n = dg 256 (fun j => e (2 * j) + e (2 * j + 1)) n := by
  have h4 : ∀ j, e j < 16 := fun j => by have := he j; omega
  rw [dg_div (by decide) (fun j _ => h4 j) h0, dg_group, dg_group, show 16 * 16 = 256 from rfl, dg_add, dg_and (k := 8) rfl (fun j _ => by have := he (2 * j); have := he (2 * j + 1); have := he (2 * j + 1 + 1); show (e (2 * j) + 16 * e (2 * j + 1)) + (e (2 * j + 1) + 16 * e (2 * j + 1 + 1)) < 256; omega) (fun _ _ => by show 15 < 256; omega)]
  exact dg_congr (fun j _ => by
    have h1 := he (2 * j)
    have h2 := he (2 * j + 1)
    show ((e (2 * j) + 16 * e (2 * j + 1)) + (e (2 * j + 1) + 16 * e (2 * j + 1 + 1))) &&& 15 = _
    rw [show (e (2 * j) + 16 * e (2 * j + 1)) + (e (2 * j + 1) + 16 * e (2 * j + 1 + 1)) = (e (2 * j) + e (2 * j + 1)) + 16 * (e (2 * j + 1) + e (2 * j + 1 + 1)) by omega, and_15 (by omega)])
