/-! STEP BY STEP: sets that grow; chain -/
def zit (F : (Nat → Bool) → Nat → Bool) (D0 : Nat → Bool) : Nat → Nat → Bool
  | 0 => D0
  | n + 1 => fun c => zit F D0 n c || F (zit F D0 n) c
def zcg (F : (Nat → Bool) → Nat → Bool) (N : Nat) : Prop := ∀ f g : Nat → Bool, (∀ c, c < N → f c = g c) → ∀ c, c < N → F f c = F g c
section
variable {F : (Nat → Bool) → Nat → Bool} {D0 : Nat → Bool} {N : Nat}
theorem zit_m1 {n c : Nat} (h : zit F D0 n c = true) : zit F D0 (n + 1) c = true := by
  show (zit F D0 n c || F (zit F D0 n) c) = true
  rw [h]; rfl
theorem zit_mo {n c : Nat} (h : zit F D0 n c = true) : ∀ k, zit F D0 (n + k) c = true
  | 0 => h
  | k + 1 => zit_m1 (zit_mo h k)
theorem zit_le {n k c : Nat} (hk : n ≤ k) (h : zit F D0 n c = true) : zit F D0 k c = true := by
  have := zit_mo h (k - n)
  rw [show n + (k - n) = k by omega] at this
  exact this
theorem zit_st (hF : zcg F N) {n : Nat} (h : ∀ c, c < N → zit F D0 (n + 1) c = zit F D0 n c) : ∀ k c, c < N → zit F D0 (n + k) c = zit F D0 n c
  | 0, _, _ => rfl
  | k + 1, c, hc => by
    have ih := zit_st hF h k
    show (zit F D0 (n + k) c || F (zit F D0 (n + k)) c) = _
    rw [hF _ _ ih c hc, ih c hc]
    exact h c hc
theorem zc_mono {f g : Nat → Bool} : ∀ {n : Nat}, (∀ c, c < n → f c = true → g c = true) → zc f n ≤ zc g n
  | 0, _ => Nat.le_refl _
  | n + 1, h => by
    have ih := zc_mono (f := f) (g := g) (n := n) (fun c hc => h c (by omega))
    have h2 := h n (by omega)
    rw [zc, zc]
    cases e : f n with
    | false => simp; omega
    | true => rw [h2 e]; simp; omega
theorem zc_strict {f g : Nat → Bool} {a : Nat} : ∀ {n : Nat}, (∀ c, c < n → f c = true → g c = true) → a < n → f a = false → g a = true → zc f n + 1 ≤ zc g n
  | 0, _, h, _, _ => by omega
  | n + 1, h, ha, hf, hg => by
    rw [zc, zc]
    by_cases e : a = n
    · subst e
      have := zc_mono (f := f) (g := g) (n := a) (fun c hc => h c (by omega))
      rw [hf, hg]
      simp
      omega
    · have ih := zc_strict (f := f) (g := g) (n := n) (fun c hc => h c (by omega)) (by omega) hf hg
      have h2 := h n (by omega)
      cases e : f n with
      | false => simp; omega
      | true => rw [h2 e]; simp; omega
theorem zit_cn {n : Nat} : (∀ k, k < n → ∃ c, c < N ∧ zit F D0 (k + 1) c ≠ zit F D0 k c) → zc D0 N + n ≤ zc (zit F D0 n) N := by
  induction n with
  | zero => intro _; exact Nat.le_refl _
  | succ n ih =>
    intro h
    have h1 := ih (fun k hk => h k (by omega))
    obtain ⟨c, hc, e⟩ := h n (by omega)
    have h0 : zit F D0 n c = false := by
      cases e2 : zit F D0 n c with
      | false => rfl
      | true => exact absurd ((zit_m1 e2).trans e2.symm) e
    have h2 : zit F D0 (n + 1) c = true := by
      cases e2 : zit F D0 (n + 1) c with
      | true => rfl
      | false => exact absurd (e2.trans h0.symm) e
    have := zc_strict (f := zit F D0 n) (g := zit F D0 (n + 1)) (n := N) (fun c _ h => zit_m1 h) hc h0 h2
    omega
/-- it grows no more from some step below N on -/
theorem zit_end (hF : zcg F N) (h0 : 0 < zc D0 N) : ∃ n, n < N ∧ ∀ k c, c < N → n ≤ k → zit F D0 k c = zit F D0 n c := by
  by_cases h : ∃ n, n < N ∧ ∀ c, c < N → zit F D0 (n + 1) c = zit F D0 n c
  · obtain ⟨n, hn, h1⟩ := h
    refine ⟨n, hn, fun k c hc hk => ?_⟩
    have := zit_st hF h1 (k - n) c hc
    rw [show n + (k - n) = k by omega] at this
    exact this
  · exfalso
    have h2 : ∀ k, k < N → ∃ c, c < N ∧ zit F D0 (k + 1) c ≠ zit F D0 k c := by
      intro k hk
      by_cases h3 : ∃ c, c < N ∧ zit F D0 (k + 1) c ≠ zit F D0 k c
      · exact h3
      · exact absurd ⟨k, hk, fun c hc => by
          by_cases h4 : zit F D0 (k + 1) c = zit F D0 k c
          · exact h4
          · exact absurd ⟨c, hc, h4⟩ h3⟩ h
    have := zit_cn h2
    have := zc_le (zit F D0 N) N
    omega
/-- the least step at which one is in, up to n -/
def zfi (D : Nat → Nat → Bool) (c : Nat) : Nat → Option Nat
  | 0 => if D 0 c = true then some 0 else none
  | n + 1 => match zfi D c n with
    | some k => some k
    | none => if D (n + 1) c = true then some (n + 1) else none
theorem zfi_s {D : Nat → Nat → Bool} {c : Nat} : ∀ {n k : Nat}, zfi D c n = some k → k ≤ n ∧ D k c = true ∧ ∀ j, j < k → D j c = false
  | 0, k, h => by
    unfold zfi at h
    by_cases e : D 0 c = true
    · rw [if_pos e] at h
      cases h
      exact ⟨Nat.le_refl _, e, fun j hj => by omega⟩
    · rw [if_neg e] at h; cases h
  | n + 1, k, h => by
    rw [zfi] at h
    cases e2 : zfi D c n with
    | some k2 =>
      rw [e2] at h
      cases h
      obtain ⟨a, b, d⟩ := zfi_s e2
      exact ⟨by omega, b, d⟩
    | none =>
      rw [e2] at h
      have h : (if D (n + 1) c = true then some (n + 1) else none) = some k := h
      by_cases e : D (n + 1) c = true
      · rw [if_pos e] at h
        cases h
        refine ⟨Nat.le_refl _, e, fun j hj => ?_⟩
        have q : ∀ m, zfi D c m = none → ∀ j, j ≤ m → D j c = false := by
          intro m
          induction m with
          | zero =>
            intro hm j hj
            have : j = 0 := by omega
            subst this
            cases e3 : D 0 c with
            | false => rfl
            | true => unfold zfi at hm; rw [e3] at hm; cases hm
          | succ m ihm =>
            intro hm j hj
            rw [zfi] at hm
            cases e4 : zfi D c m with
            | some k3 => rw [e4] at hm; cases hm
            | none =>
              rw [e4] at hm
              by_cases e5 : j = m + 1
              · subst e5
                cases e3 : D (m + 1) c with
                | false => rfl
                | true =>
                  have hm : (if D (m + 1) c = true then some (m + 1) else none) = none := hm
                  rw [if_pos e3] at hm; cases hm
              · exact ihm e4 j (by omega)
        exact q n e2 j (by omega)
      · rw [if_neg e] at h; cases h
theorem zfi_n {D : Nat → Nat → Bool} {c : Nat} : ∀ {n : Nat}, zfi D c n = none → ∀ j, j ≤ n → D j c = false
  | 0, h, j, hj => by
    have : j = 0 := by omega
    subst this
    cases e3 : D 0 c with
    | false => rfl
    | true => unfold zfi at h; rw [e3] at h; cases h
  | n + 1, h, j, hj => by
    rw [zfi] at h
    cases e4 : zfi D c n with
    | some k3 => rw [e4] at h; cases h
    | none =>
      rw [e4] at h
      by_cases e5 : j = n + 1
      · subst e5
        cases e3 : D (n + 1) c with
        | false => rfl
        | true =>
          have h : (if D (n + 1) c = true then some (n + 1) else none) = none := h
          rw [if_pos e3] at h; cases h
      · exact zfi_n e4 j (by omega)
theorem zfi_of {D : Nat → Nat → Bool} {c n k : Nat} (hk : k ≤ n) (h : D k c = true) (h2 : ∀ j, j < k → D j c = false) : zfi D c n = some k := by
  cases e : zfi D c n with
  | none => rw [zfi_n e k hk] at h; cases h
  | some k2 =>
    obtain ⟨a, b, d⟩ := zfi_s e
    by_cases e1 : k2 < k
    · rw [h2 k2 e1] at b; cases b
    · by_cases e2 : k < k2
      · rw [d k e2] at h; cases h
      · rw [show k2 = k by omega]
theorem zfi_no {D : Nat → Nat → Bool} {c n : Nat} (h : ∀ j, j ≤ n → D j c = false) : zfi D c n = none := by
  cases e : zfi D c n with
  | none => rfl
  | some k =>
    obtain ⟨a, b, -⟩ := zfi_s e
    rw [h k a] at b; cases b
end
/-! chain -/
def zN (e : Nat → Nat → Bool) (f : Nat → Bool) (c : Nat) : Bool := zany (fun u => f u && e u c) 8
theorem zN_cg (e : Nat → Nat → Bool) : zcg (zN e) 8 := fun f g h c _ => zany_congr (fun k hk => by rw [h k hk])
def gEd (G : zG) (x y : Nat) : Bool := decide (0 < gD G x y)
def gRc (G : zG) (x : Nat) : Nat → Nat → Bool := zit (zN (gEd G)) (fun i => decide (i = x))
def gWk (G : zG) (x : Nat) : Nat → Nat → Bool
  | 0 => fun c => gEd G x c
  | n + 1 => fun c => gWk G x n c || zN (gEd G) (gWk G x n) c
theorem zN_x {e : Nat → Nat → Bool} {x c : Nat} (hx : x < 8) : zN e (fun i => decide (i = x)) c = e x c := by
  cases h : e x c with
  | true => exact zany_t.mpr ⟨x, hx, by show (decide (x = x) && e x c) = true; rw [decide_eq_true rfl, h]; rfl⟩
  | false =>
    refine zany_f.mpr (fun u hu => ?_)
    by_cases e2 : u = x
    · subst e2; rw [h, Bool.and_false]
    · show (decide (u = x) && e u c) = false
      rw [decide_eq_false e2]; rfl
theorem zN_or {e : Nat → Nat → Bool} {f g : Nat → Bool} {c : Nat} : zN e (fun u => f u || g u) c = (zN e f c || zN e g c) := by
  cases h : zN e f c with
  | true =>
    obtain ⟨u, hu, h2⟩ := zany_t.mp h
    rw [Bool.and_eq_true] at h2
    exact zany_t.mpr ⟨u, hu, by show ((f u || g u) && e u c) = true; rw [h2.1, h2.2]; rfl⟩
  | false =>
    cases h2 : zN e g c with
    | true =>
      obtain ⟨u, hu, h3⟩ := zany_t.mp h2
      rw [Bool.and_eq_true] at h3
      exact zany_t.mpr ⟨u, hu, by show ((f u || g u) && e u c) = true; rw [h3.1, h3.2, Bool.or_true]; rfl⟩
    | false =>
      refine zany_f.mpr (fun u hu => ?_)
      have h3 := zany_f.mp h u hu
      have h4 := zany_f.mp h2 u hu
      show ((f u || g u) && e u c) = false
      rw [Bool.and_or_distrib_right, h3, h4]; rfl
theorem gRc_W {G : zG} {x : Nat} (hx : x < 8) : ∀ n c, gRc G x (n + 1) c = (decide (c = x) || gWk G x n c)
  | 0, c => by
    show (decide (c = x) || zN (gEd G) (fun i => decide (i = x)) c) = _
    rw [zN_x hx]; rfl
  | n + 1, c => by
    have ih := gRc_W (G := G) hx n
    show (gRc G x (n + 1) c || zN (gEd G) (gRc G x (n + 1)) c) = _
    have e : gRc G x (n + 1) = fun c => decide (c = x) || gWk G x n c := funext ih
    rw [e]
    rw [zN_or, zN_x hx]
    show ((decide (c = x) || gWk G x n c) || (gEd G x c || zN (gEd G) (gWk G x n) c)) = (decide (c = x) || (gWk G x n c || zN (gEd G) (gWk G x n) c))
    have hw : gEd G x c = true → gWk G x n c = true := by
      intro h
      clear e ih
      induction n with
      | zero => exact h
      | succ n ihn => show (gWk G x n c || _) = true; rw [ihn]; rfl
    cases h1 : gEd G x c with
    | false => simp [Bool.or_assoc]
    | true => rw [hw h1]; simp
def gCh (G : zG) (x y : Nat) : Int32 := match zfi (gRc G x) y 7 with
  | some k => nI k
  | none => mI
theorem c_links {m : ax_M} {g : Nat} {G : zG} (h : zC m g G) (hV : zV G) {x y : Nat} (hx : x < 8) (hy : y < 8) (hxy : x ≠ y) : F_X2_links m g (nI x) (nI y) = some (gCh G x y) := by
  have hR0 : gRc G x 0 y = false := decide_eq_false (by omega)
  have hRW : ∀ n, gRc G x (n + 1) y = gWk G x n y := fun n => by rw [gRc_W hx, decide_eq_false (show ¬ y = x by omega), Bool.false_or]
  have key : ∀ k i n, i + k = 7 → k < n → (∀ j, j < i → gWk G x j y = false) → F_X2_links_L6 n m g (nI y) (zm (gWk G x i) 8) (nI (i + 1)) = some (gCh G x y) := by
    intro k
    induction k with
    | zero =>
      intro i n h1 h2 h3
      obtain ⟨n, rfl⟩ : ∃ z, n = z + 1 := ⟨n - 1, by omega⟩
      have : i = 7 := by omega
      subst this
      rw [F_X2_links_L6]
      simp (disch := omega) only [↓zl_m1, zz_leT, zz_leF, zz_ltT, zz_ltF, zz_eqT, zz_eqF, zz_okN, zz_okF, nI_clamp, nI_add, pk_mul, pk_sub, zz_bS, zz_b2S, if_true, if_false, Bool.true_eq_false, Bool.false_eq_true, eq_self, ne_eq, not_true_eq_false, not_false_eq_true, false_or, or_false, true_or, or_true, and_true, true_and, and_false, false_and, mI_e, mI_e2, mI_le, mI_le2, mI_lt, mI_lt2, mI_ok, bI_0n, bI_1n, bI_orn, Nat.mul_zero, Nat.zero_add, Nat.add_zero, c_no2, c_no3, c_no4, c_no5, c_no6, r_no2, r_no3, r_no4, r_no5, r_no6, zk_inR, zk_in2, zk_in3, zk_wiN, Nat.reduceAdd, ngI_e, ngI_le, ngI_m, cs_cmpN, zl_0, zl_1, zl_2, zl_3, zl_4, zl_5, zl_6, zl_7, zl_8, zl_9, zl_10, zl_12, zl_13, zl_14, zl_15, zl_16, zl_20, zl_32, zl_40, zl_48, zl_57, zl_59, zl_60, zl_63, zl_64, zl_97, zl_99, zl_101, zl_119, zl_120, zl_122, zl_128, zl_136, zl_152, zl_168, zl_184, zl_200, zl_201, zl_202, zl_203, zl_250, zl_255, zl_320, zl_999, zl_1000]
      unfold gCh
      rw [zfi_no (fun j hj => ?_)]
      cases j with
      | zero => exact hR0
      | succ j => rw [hRW]; exact h3 j (by omega)
    | succ k ih =>
      intro i n h1 h2 h3
      obtain ⟨n, rfl⟩ : ∃ z, n = z + 1 := ⟨n - 1, by omega⟩
      rw [F_X2_links_L6]
      cases e : gWk G x i y with
      | true =>
        simp (disch := omega) only [↓zl_m1, zz_leT, zz_leF, zz_ltT, zz_ltF, zz_eqT, zz_eqF, zz_okN, zz_okF, nI_clamp, nI_add, pk_mul, pk_sub, zz_bS, zz_b2S, if_true, if_false, Bool.true_eq_false, Bool.false_eq_true, eq_self, ne_eq, not_true_eq_false, not_false_eq_true, false_or, or_false, true_or, or_true, and_true, true_and, and_false, false_and, mI_e, mI_e2, mI_le, mI_le2, mI_lt, mI_lt2, mI_ok, bI_0n, bI_1n, bI_orn, Nat.mul_zero, Nat.zero_add, Nat.add_zero, c_no2, c_no3, c_no4, c_no5, c_no6, r_no2, r_no3, r_no4, r_no5, r_no6, zk_inR, zk_in2, zk_in3, zk_wiN, Nat.reduceAdd, ngI_e, ngI_le, ngI_m, cs_cmpN, zl_0, zl_1, zl_2, zl_3, zl_4, zl_5, zl_6, zl_7, zl_8, zl_9, zl_10, zl_12, zl_13, zl_14, zl_15, zl_16, zl_20, zl_32, zl_40, zl_48, zl_57, zl_59, zl_60, zl_63, zl_64, zl_97, zl_99, zl_101, zl_119, zl_120, zl_122, zl_128, zl_136, zl_152, zl_168, zl_184, zl_200, zl_201, zl_202, zl_203, zl_250, zl_255, zl_320, zl_999, zl_1000, zm_u (show 8 ≤ 32 by omega) hy, e]
        unfold gCh
        rw [zfi_of (k := i + 1) (by omega) (by rw [hRW]; exact e) (fun j hj => ?_)]
        cases j with
        | zero => exact hR0
        | succ j => rw [hRW]; exact h3 j (by omega)
      | false =>
        have ih2 := ih (i + 1) n (by omega) (by omega) (fun j hj => by
          by_cases e2 : j = i
          · subst e2; exact e
          · exact h3 j (by omega))
        simp (disch := omega) only [↓zl_m1, zz_leT, zz_leF, zz_ltT, zz_ltF, zz_eqT, zz_eqF, zz_okN, zz_okF, nI_clamp, nI_add, pk_mul, pk_sub, zz_bS, zz_b2S, if_true, if_false, Bool.true_eq_false, Bool.false_eq_true, eq_self, ne_eq, not_true_eq_false, not_false_eq_true, false_or, or_false, true_or, or_true, and_true, true_and, and_false, false_and, mI_e, mI_e2, mI_le, mI_le2, mI_lt, mI_lt2, mI_ok, bI_0n, bI_1n, bI_orn, Nat.mul_zero, Nat.zero_add, Nat.add_zero, c_no2, c_no3, c_no4, c_no5, c_no6, r_no2, r_no3, r_no4, r_no5, r_no6, zk_inR, zk_in2, zk_in3, zk_wiN, Nat.reduceAdd, ngI_e, ngI_le, ngI_m, cs_cmpN, zl_0, zl_1, zl_2, zl_3, zl_4, zl_5, zl_6, zl_7, zl_8, zl_9, zl_10, zl_12, zl_13, zl_14, zl_15, zl_16, zl_20, zl_32, zl_40, zl_48, zl_57, zl_59, zl_60, zl_63, zl_64, zl_97, zl_99, zl_101, zl_119, zl_120, zl_122, zl_128, zl_136, zl_152, zl_168, zl_184, zl_200, zl_201, zl_202, zl_203, zl_250, zl_255, zl_320, zl_999, zl_1000, zm_u (show 8 ≤ 32 by omega) hy, e, c_creditorsOfAll h hV, zm_or (show 8 ≤ 32 by omega)]
        exact ih2
  unfold F_X2_links
  rw [c_creditorsOf h hV hx, zz_bS]
  exact key 7 0 ax_FU (by omega) (by unfold ax_FU; omega) (fun j hj => by omega)
/-- the reference's -/
def zls (D : Nat → Nat → Bool) : Nat → Nat → Bool
  | 0 => D 0
  | n + 1 => fun c => D (n + 1) c && !D n c
theorem gRc_P {G : zG} (hV : zV G) {x : Nat} (hx : x < gP G) : ∀ n c, c < 8 → gRc G x n c = true → c < gP G
  | 0, c, hc, h => by have := of_decide_eq_true h; omega
  | n + 1, c, hc, h => by
    have h : (gRc G x n c || zN (gEd G) (gRc G x n) c) = true := h
    rw [Bool.or_eq_true] at h
    rcases h with h | h
    · exact gRc_P hV hx n c hc h
    · obtain ⟨u, hu, h2⟩ := zany_t.mp h
      rw [Bool.and_eq_true] at h2
      by_cases e : c < gP G
      · exact e
      · have := hV.z hu hc (.inr (.inl (by omega)))
        have h3 := of_decide_eq_true h2.2
        omega
theorem zls_next {G : zG} (hV : zV G) {x : Nat} (hx : x < gP G) (n c : Nat) (hc : c < 8) : zany (fun p => zls (gRc G x) n p && (!gRc G x n c && gEd G p c)) (gP G) = zls (gRc G x) (n + 1) c := by
  have hp := hV.p
  show _ = ((gRc G x n c || zN (gEd G) (gRc G x n) c) && !gRc G x n c)
  cases h : gRc G x n c with
  | true =>
    rw [zany_f.mpr (fun i hi => by simp)]
    rfl
  | false =>
    show zany (fun p => zls (gRc G x) n p && (true && gEd G p c)) (gP G) = (zN (gEd G) (gRc G x n) c && true)
    rw [Bool.and_true]
    cases h2 : zN (gEd G) (gRc G x n) c with
    | false =>
      refine zany_f.mpr (fun p hp2 => ?_)
      have h3 := zany_f.mp h2 p (by omega)
      have h4 : zls (gRc G x) n p = true → gRc G x n p = true := by
        cases n with
        | zero => exact id
        | succ n => intro z; have z : (gRc G x (n + 1) p && !gRc G x n p) = true := z; rw [Bool.and_eq_true] at z; exact z.1
      cases h5 : zls (gRc G x) n p with
      | false => rfl
      | true => rw [h4 h5] at h3; rw [Bool.true_and, Bool.true_and]; exact h3
    | true =>
      obtain ⟨u, hu, h3⟩ := zany_t.mp h2
      rw [Bool.and_eq_true] at h3
      refine zany_t.mpr ⟨u, gRc_P hV hx n u hu h3.1, ?_⟩
      show (zls (gRc G x) n u && (true && gEd G u c)) = true
      rw [h3.2, Bool.true_and, Bool.and_true]
      cases n with
      | zero => exact h3.1
      | succ n =>
        show (gRc G x (n + 1) u && !gRc G x n u) = true
        rw [h3.1, Bool.true_and]
        cases h6 : gRc G x n u with
        | false => rfl
        | true =>
          have : gRc G x (n + 1) c = true := by
            show (gRc G x n c || zN (gEd G) (gRc G x n) c) = true
            rw [show zN (gEd G) (gRc G x n) c = true from zany_t.mpr ⟨u, hu, by show (gRc G x n u && gEd G u c) = true; rw [h6, h3.2]; rfl⟩, Bool.or_true]
          rw [this] at h; cases h
theorem zt_sn {f : Nat → Bool} {n k : Nat} (hn : n ≤ 32) (hk : k < n) : (ax_ishr (zm f n) (nI k) &&& nI 1 = nI 1) = (f k = true) := by
  have := zt_s (x := zm f n) (k := k) (by omega)
  rw [zm_bt f n hn, decide_eq_true hk, Bool.true_and] at this
  exact this
theorem zt_sz {f : Nat → Bool} {n k : Nat} (hn : n ≤ 32) (hk : k < n) : (ax_ishr (zm f n) (nI k) &&& nI 1 = nI 0) = (f k = false) := by
  have key : ∀ i, i < 32 → bt (ax_ishr (zm f n) (nI k) &&& 1) i = (decide (i = 0) && f k) := fun i hi => by
    rw [b_and, bt_1 hi]
    unfold ax_ishr
    rw [b_sshr k (by omega) _ hi]
    by_cases e : i = 0
    · subst e; rw [Nat.add_zero, if_pos (by omega), zm_bt f n hn, decide_eq_true hk, Bool.true_and, Bool.and_comm]
    · rw [decide_eq_false e, Bool.and_false, Bool.false_and]
  refine propext ⟨fun h => ?_, fun h => b_eq0.mpr (fun i hi => ?_)⟩
  · have h1 := key 0 (by omega)
    rw [show (ax_ishr (zm f n) (nI k) &&& 1) = 0 from h, b_0, decide_eq_true rfl, Bool.true_and] at h1
    exact h1.symm
  · show bt (ax_ishr (zm f n) (nI k) &&& 1) i = false
    rw [key i hi, h, Bool.and_false]
theorem zm_one {x n : Nat} (hx : x < n) (hn : n ≤ 32) : ax_ishl (nI 1) (nI x) = zm (fun i => decide (i = x)) n := zm_of hn (fun i _ => by
  show bt (ax_ishl 1 (nI x)) i = _
  rw [bt_one (by omega)]
  by_cases e : i = x
  · rw [decide_eq_true e, decide_eq_true (by omega)]; rfl
  · rw [decide_eq_false e, Bool.and_false])
theorem zm_set {f f2 : Nat → Bool} {n k : Nat} (hn : n ≤ 32) (hk : k < n) (h : ∀ i, i < n → f2 i = (f i || decide (i = k))) : zm f n ||| ax_ishl (nI 1) (nI k) = zm f2 n := by
  rw [zm_one hk hn, zm_or hn]
  exact zm_congr (fun i hi => (h i hi).symm)
theorem zx_f {A X : Nat → Bool} {i : Nat} (h : X i = false) : zm (fun q => A q || (decide (q < i + 1) && X q)) 8 = zm (fun q => A q || (decide (q < i) && X q)) 8 := zm_congr (fun q _ => by
  by_cases e : q = i
  · subst e; rw [h, Bool.and_false, Bool.and_false]
  · rw [show decide (q < i + 1) = decide (q < i) from decide_eq_decide.mpr (by omega)])
theorem zx_t {A X : Nat → Bool} {i : Nat} (hi : i < 8) (h : X i = true) : zm (fun q => A q || (decide (q < i) && X q)) 8 ||| ax_ishl (nI 1) (nI i) = zm (fun q => A q || (decide (q < i + 1) && X q)) 8 := zm_set (by omega) hi (fun q _ => by
  by_cases e : q = i
  · subst e
    rw [h, decide_eq_true (show q < q + 1 by omega), decide_eq_true (show q = q from rfl), Bool.and_true, Bool.or_true, Bool.or_true]
  · rw [show decide (q < i + 1) = decide (q < i) from decide_eq_decide.mpr (by omega), decide_eq_false e, Bool.or_false])
theorem r_chainI {m : ax_M} {G : zG} (hL : zL m G) (hV : zV G) {x : Nat} (y : Int32) (K : ax_M → Int32 → Option (Int32 × ax_M)) (w : Int32) (n p : Nat) (A : Nat → Bool) (hpp : p < gP G) : F_X11_chain_L29 ax_FU K m y (zm (gRc G x n) 8) (zm (zls (gRc G x) n) 8) w (zm A 8) (nI p) (nI 0) = K m (zm (fun q => A q || (decide (q < gP G) && (zls (gRc G x) n p && (!gRc G x n q && gEd G p q)))) 8) := by
  have hp := hV.p
  have hp8 : p < 8 := by omega
  obtain ⟨X, hX⟩ : ∃ X : Nat → Bool, X = fun q => zls (gRc G x) n p && (!gRc G x n q && gEd G p q) := ⟨_, rfl⟩
  have hXi : ∀ i, X i = (zls (gRc G x) n p && (!gRc G x n i && gEd G p i)) := fun i => by rw [hX]
  have key : ∀ k i f, i + k = gP G → k < f → F_X11_chain_L29 f K m y (zm (gRc G x n) 8) (zm (zls (gRc G x) n) 8) w (zm (fun q => A q || (decide (q < i) && X q)) 8) (nI p) (nI i) = K m (zm (fun q => A q || (decide (q < gP G) && X q)) 8) := by
    refine zz_loop (gP G) (fun f => ?_) (fun f i hi ih => ?_)
    · rw [F_X11_chain_L29, hL.p, if_pos (Int32.le_refl _)]
    · have hi8 : i < 8 := by omega
      have hd := hV.d hp8 hi8
      have hx := hXi i
      rw [F_X11_chain_L29]
      cases e1 : zls (gRc G x) n p with
      | false =>
        rw [e1, Bool.false_and] at hx
        rw [zx_f hx] at ih
        simp (disch := omega) only [↓zl_m1, zz_leT, zz_leF, zz_ltT, zz_ltF, zz_eqT, zz_eqF, zz_okN, zz_okF, nI_clamp, nI_add, pk_mul, pk_sub, zz_bS, zz_b2S, if_true, if_false, Bool.true_eq_false, Bool.false_eq_true, eq_self, ne_eq, not_true_eq_false, not_false_eq_true, false_or, or_false, true_or, or_true, and_true, true_and, and_false, false_and, mI_e, mI_e2, mI_le, mI_le2, mI_lt, mI_lt2, mI_ok, bI_0n, bI_1n, bI_orn, Nat.mul_zero, Nat.zero_add, Nat.add_zero, c_no2, c_no3, c_no4, c_no5, c_no6, r_no2, r_no3, r_no4, r_no5, r_no6, zk_inR, zk_in2, zk_in3, zk_wiN, Nat.reduceAdd, ngI_e, ngI_le, ngI_m, cs_cmpN, zl_0, zl_1, zl_2, zl_3, zl_4, zl_5, zl_6, zl_7, zl_8, zl_9, zl_10, zl_12, zl_13, zl_14, zl_15, zl_16, zl_20, zl_32, zl_40, zl_48, zl_57, zl_59, zl_60, zl_63, zl_64, zl_97, zl_99, zl_101, zl_119, zl_120, zl_122, zl_128, zl_136, zl_152, zl_168, zl_184, zl_200, zl_201, zl_202, zl_203, zl_250, zl_255, zl_320, zl_999, zl_1000, hL.p, zt_sn (show 8 ≤ 32 by omega) hp8, e1]
        exact ih
      | true =>
        cases e2 : gRc G x n i with
        | true =>
          rw [e1, e2, Bool.not_true, Bool.false_and, Bool.and_false] at hx
          rw [zx_f hx] at ih
          simp (disch := omega) only [↓zl_m1, zz_leT, zz_leF, zz_ltT, zz_ltF, zz_eqT, zz_eqF, zz_okN, zz_okF, nI_clamp, nI_add, pk_mul, pk_sub, zz_bS, zz_b2S, if_true, if_false, Bool.true_eq_false, Bool.false_eq_true, eq_self, ne_eq, not_true_eq_false, not_false_eq_true, false_or, or_false, true_or, or_true, and_true, true_and, and_false, false_and, mI_e, mI_e2, mI_le, mI_le2, mI_lt, mI_lt2, mI_ok, bI_0n, bI_1n, bI_orn, Nat.mul_zero, Nat.zero_add, Nat.add_zero, c_no2, c_no3, c_no4, c_no5, c_no6, r_no2, r_no3, r_no4, r_no5, r_no6, zk_inR, zk_in2, zk_in3, zk_wiN, Nat.reduceAdd, ngI_e, ngI_le, ngI_m, cs_cmpN, zl_0, zl_1, zl_2, zl_3, zl_4, zl_5, zl_6, zl_7, zl_8, zl_9, zl_10, zl_12, zl_13, zl_14, zl_15, zl_16, zl_20, zl_32, zl_40, zl_48, zl_57, zl_59, zl_60, zl_63, zl_64, zl_97, zl_99, zl_101, zl_119, zl_120, zl_122, zl_128, zl_136, zl_152, zl_168, zl_184, zl_200, zl_201, zl_202, zl_203, zl_250, zl_255, zl_320, zl_999, zl_1000, hL.p, zt_sn (show 8 ≤ 32 by omega) hp8, e1, zt_sz (show 8 ≤ 32 by omega) hi8, e2]
          exact ih
        | false =>
          rw [e1, e2, Bool.not_false, Bool.true_and, Bool.true_and] at hx
          by_cases e3 : 0 < gD G p i
          · rw [show gEd G p i = true from decide_eq_true e3] at hx
            rw [← zx_t hi8 hx] at ih
            simp (disch := omega) only [↓zl_m1, zz_leT, zz_leF, zz_ltT, zz_ltF, zz_eqT, zz_eqF, zz_okN, zz_okF, nI_clamp, nI_add, pk_mul, pk_sub, zz_bS, zz_b2S, if_true, if_false, Bool.true_eq_false, Bool.false_eq_true, eq_self, ne_eq, not_true_eq_false, not_false_eq_true, false_or, or_false, true_or, or_true, and_true, true_and, and_false, false_and, mI_e, mI_e2, mI_le, mI_le2, mI_lt, mI_lt2, mI_ok, bI_0n, bI_1n, bI_orn, Nat.mul_zero, Nat.zero_add, Nat.add_zero, c_no2, c_no3, c_no4, c_no5, c_no6, r_no2, r_no3, r_no4, r_no5, r_no6, zk_inR, zk_in2, zk_in3, zk_wiN, Nat.reduceAdd, ngI_e, ngI_le, ngI_m, cs_cmpN, zl_0, zl_1, zl_2, zl_3, zl_4, zl_5, zl_6, zl_7, zl_8, zl_9, zl_10, zl_12, zl_13, zl_14, zl_15, zl_16, zl_20, zl_32, zl_40, zl_48, zl_57, zl_59, zl_60, zl_63, zl_64, zl_97, zl_99, zl_101, zl_119, zl_120, zl_122, zl_128, zl_136, zl_152, zl_168, zl_184, zl_200, zl_201, zl_202, zl_203, zl_250, zl_255, zl_320, zl_999, zl_1000, hL.p, zt_sn (show 8 ≤ 32 by omega) hp8, e1, zt_sz (show 8 ≤ 32 by omega) hi8, e2, hL.d hp8 hi8]
            exact ih
          · rw [show gEd G p i = false from decide_eq_false e3] at hx
            rw [zx_f hx] at ih
            simp (disch := omega) only [↓zl_m1, zz_leT, zz_leF, zz_ltT, zz_ltF, zz_eqT, zz_eqF, zz_okN, zz_okF, nI_clamp, nI_add, pk_mul, pk_sub, zz_bS, zz_b2S, if_true, if_false, Bool.true_eq_false, Bool.false_eq_true, eq_self, ne_eq, not_true_eq_false, not_false_eq_true, false_or, or_false, true_or, or_true, and_true, true_and, and_false, false_and, mI_e, mI_e2, mI_le, mI_le2, mI_lt, mI_lt2, mI_ok, bI_0n, bI_1n, bI_orn, Nat.mul_zero, Nat.zero_add, Nat.add_zero, c_no2, c_no3, c_no4, c_no5, c_no6, r_no2, r_no3, r_no4, r_no5, r_no6, zk_inR, zk_in2, zk_in3, zk_wiN, Nat.reduceAdd, ngI_e, ngI_le, ngI_m, cs_cmpN, zl_0, zl_1, zl_2, zl_3, zl_4, zl_5, zl_6, zl_7, zl_8, zl_9, zl_10, zl_12, zl_13, zl_14, zl_15, zl_16, zl_20, zl_32, zl_40, zl_48, zl_57, zl_59, zl_60, zl_63, zl_64, zl_97, zl_99, zl_101, zl_119, zl_120, zl_122, zl_128, zl_136, zl_152, zl_168, zl_184, zl_200, zl_201, zl_202, zl_203, zl_250, zl_255, zl_320, zl_999, zl_1000, hL.p, zt_sn (show 8 ≤ 32 by omega) hp8, e1, zt_sz (show 8 ≤ 32 by omega) hi8, e2, hL.d hp8 hi8]
            exact ih
  have k2 := key (gP G) 0 ax_FU (by omega) (by unfold ax_FU; omega)
  rw [zm_congr (f := fun q => A q || (decide (q < 0) && X q)) (g := A) (fun q _ => by rw [decide_eq_false (by omega), Bool.false_and, Bool.or_false]), hX] at k2
  exact k2
theorem r_chainO {m : ax_M} {G : zG} (hL : zL m G) (hV : zV G) {x : Nat} (hx : x < gP G) (y : Int32) (K : ax_M → Int32 → Option (Int32 × ax_M)) (w : Int32) (n : Nat) : F_X11_chain_L23 ax_FU K m y (zm (gRc G x n) 8) (zm (zls (gRc G x) n) 8) w 0 (nI 0) = K m (zm (zls (gRc G x) (n + 1)) 8) := by
  have hp := hV.p
  have key : ∀ k i f, i + k = gP G → k < f → F_X11_chain_L23 f K m y (zm (gRc G x n) 8) (zm (zls (gRc G x) n) 8) w (zm (fun q => decide (q < gP G) && zany (fun p => zls (gRc G x) n p && (!gRc G x n q && gEd G p q)) i) 8) (nI i) = K m (zm (zls (gRc G x) (n + 1)) 8) := by
    refine zz_loop (gP G) (fun f => ?_) (fun f i hi ih => ?_)
    · rw [F_X11_chain_L23, hL.p, if_pos (Int32.le_refl _)]
      refine congrArg (K m) (zm_congr (fun q hq => ?_))
      rw [zls_next hV hx n q hq]
      cases e : zls (gRc G x) (n + 1) q with
      | false => rw [Bool.and_false]
      | true =>
        have e : (gRc G x (n + 1) q && !gRc G x n q) = true := e
        rw [Bool.and_eq_true] at e
        rw [decide_eq_true (gRc_P hV hx (n + 1) q hq e.1)]
        rfl
    · rw [F_X11_chain_L23, hL.p, if_neg (by rw [zz_le (by omega) (by omega)]; omega)]
      rw [show (0 : Int32) = nI 0 from rfl, r_chainI hL hV _ _ _ _ _ _ hi, nI_1]
      rw [zm_congr (f := fun q => (decide (q < gP G) && zany (fun p => zls (gRc G x) n p && (!gRc G x n q && gEd G p q)) i) || (decide (q < gP G) && (zls (gRc G x) n i && (!gRc G x n q && gEd G i q)))) (g := fun q => decide (q < gP G) && zany (fun p => zls (gRc G x) n p && (!gRc G x n q && gEd G p q)) (i + 1)) (fun q _ => ?_)]
      · exact ih
      · rw [zany]
        exact (Bool.and_or_distrib_left _ _ _).symm
  have k2 := key (gP G) 0 ax_FU (by omega) (by unfold ax_FU; omega)
  rw [(zm_0 (f := fun q => decide (q < gP G) && zany (fun p => zls (gRc G x) n p && (!gRc G x n q && gEd G p q)) 0) (n := 8) (by omega)).mpr (fun q _ => by rw [zany, Bool.and_false])] at k2
  exact k2
theorem r_chainL {m : ax_M} {G : zG} (hL : zL m G) (hV : zV G) {x y : Nat} (hx : x < gP G) (hy : y < gP G) (hxy : x ≠ y) : F_X11_chain_L17 ax_FU m (nI y) (zm (gRc G x 0) 8) (zm (zls (gRc G x) 0) 8) (nI 1) = some (gCh G x y, m) := by
  have hp := hV.p
  have hx8 : x < 8 := by omega
  have hy8 : y < 8 := by omega
  have h0 : gRc G x 0 y = false := decide_eq_false (by omega)
  have cnt : 0 < zc (gRc G x 0) 8 := by
    have := zc_strict (f := fun _ => false) (g := gRc G x 0) (n := 8) (a := x) (fun c _ h => by cases h) hx8 rfl (decide_eq_true rfl)
    omega
  obtain ⟨n0, hn0, hst⟩ := zit_end (F := zN (gEd G)) (D0 := fun i => decide (i = x)) (N := 8) (zN_cg _) cnt
  -- behind n rounds: n is the number of rounds done; n ≤ 8
  have key : ∀ k n f, n + k = 8 → k < f → (∀ j, j ≤ n → gRc G x j y = false) → F_X11_chain_L17 f m (nI y) (zm (gRc G x n) 8) (zm (zls (gRc G x) n) 8) (nI (n + 1)) = some (gCh G x y, m) := by
    intro k
    induction k with
    | zero =>
      intro n f h1 h2 h3
      obtain ⟨f, rfl⟩ : ∃ z, f = z + 1 := ⟨f - 1, by omega⟩
      have : n = 8 := by omega
      subst this
      have e0 : zm (zls (gRc G x) 8) 8 = 0 := (zm_0 (by omega)).mpr (fun c hc => by
        show (gRc G x 8 c && !gRc G x 7 c) = false
        have a1 : gRc G x 8 c = gRc G x n0 c := hst 8 c hc (by omega)
        have a2 : gRc G x 7 c = gRc G x n0 c := hst 7 c hc (by omega)
        rw [a1, a2]
        cases gRc G x n0 c <;> rfl)
      rw [F_X11_chain_L17, e0, if_pos rfl]
      unfold gCh
      rw [zfi_no (fun j hj => h3 j (by omega))]
      rfl
    | succ k ih =>
      intro n f h1 h2 h3
      obtain ⟨f, rfl⟩ : ∃ z, f = z + 1 := ⟨f - 1, by omega⟩
      rw [F_X11_chain_L17]
      by_cases e0 : zm (zls (gRc G x) n) 8 = 0
      · rw [if_pos e0]
        unfold gCh
        have e1 := (zm_0 (n := 8) (by omega)).mp e0
        rw [zfi_no (fun j hj => ?_)]
        · rfl
        · by_cases hjn : j ≤ n
          · exact h3 j hjn
          · cases n with
            | zero =>
              exfalso
              have := e1 x hx8
              have h5 : gRc G x 0 x = true := decide_eq_true rfl
              rw [show zls (gRc G x) 0 x = gRc G x 0 x from rfl, h5] at this
              cases this
            | succ n =>
              have st := zit_st (F := zN (gEd G)) (D0 := fun i => decide (i = x)) (zN_cg (gEd G)) (n := n) (fun c hc => by
                have h6 := e1 c hc
                have h6 : (gRc G x (n + 1) c && !gRc G x n c) = false := h6
                show gRc G x (n + 1) c = gRc G x n c
                cases h7 : gRc G x n c with
                | true => exact zit_m1 h7
                | false => rw [h7, Bool.not_false, Bool.and_true] at h6; exact h6) (j - n) y hy8
              rw [show n + (j - n) = j by omega] at st
              exact st.trans (h3 n (by omega))
      · rw [if_neg e0, show (0 : Int32) = nI 0 from rfl]
        rw [show F_X11_chain_L23 ax_FU _ m (nI y) (zm (gRc G x n) 8) (zm (zls (gRc G x) n) 8) (nI (n + 1)) (nI 0) (nI 0) = _ from r_chainO hL hV hx (nI y) _ _ n]
        cases e1 : gRc G x (n + 1) y with
        | true =>
          have e2 : zls (gRc G x) (n + 1) y = true := by show (gRc G x (n + 1) y && !gRc G x n y) = true; rw [e1, h3 n (by omega)]; rfl
          simp (disch := omega) only [↓zl_m1, zz_leT, zz_leF, zz_ltT, zz_ltF, zz_eqT, zz_eqF, zz_okN, zz_okF, nI_clamp, nI_add, pk_mul, pk_sub, zz_bS, zz_b2S, if_true, if_false, Bool.true_eq_false, Bool.false_eq_true, eq_self, ne_eq, not_true_eq_false, not_false_eq_true, false_or, or_false, true_or, or_true, and_true, true_and, and_false, false_and, mI_e, mI_e2, mI_le, mI_le2, mI_lt, mI_lt2, mI_ok, bI_0n, bI_1n, bI_orn, Nat.mul_zero, Nat.zero_add, Nat.add_zero, c_no2, c_no3, c_no4, c_no5, c_no6, r_no2, r_no3, r_no4, r_no5, r_no6, zk_inR, zk_in2, zk_in3, zk_wiN, Nat.reduceAdd, ngI_e, ngI_le, ngI_m, cs_cmpN, zl_0, zl_1, zl_2, zl_3, zl_4, zl_5, zl_6, zl_7, zl_8, zl_9, zl_10, zl_12, zl_13, zl_14, zl_15, zl_16, zl_20, zl_32, zl_40, zl_48, zl_57, zl_59, zl_60, zl_63, zl_64, zl_97, zl_99, zl_101, zl_119, zl_120, zl_122, zl_128, zl_136, zl_152, zl_168, zl_184, zl_200, zl_201, zl_202, zl_203, zl_250, zl_255, zl_320, zl_999, zl_1000, zt_sn (show 8 ≤ 32 by omega) hy8, e2]
          have hn7 : n + 1 ≤ 7 := by
            by_cases e3 : n + 1 ≤ 7
            · exact e3
            · exfalso
              have a1 : gRc G x (n + 1) y = gRc G x n0 y := hst (n + 1) y hy8 (by omega)
              rw [a1, h3 n0 (by omega)] at e1
              cases e1
          unfold gCh
          rw [zfi_of (k := n + 1) hn7 e1 (fun j hj => h3 j (by omega))]
        | false =>
          have e2 : zls (gRc G x) (n + 1) y = false := by show (gRc G x (n + 1) y && !gRc G x n y) = false; rw [e1]; rfl
          have ih2 := ih (n + 1) f (by omega) (by omega) (fun j hj => by
            by_cases e3 : j = n + 1
            · subst e3; exact e1
            · exact h3 j (by omega))
          simp (disch := omega) only [↓zl_m1, zz_leT, zz_leF, zz_ltT, zz_ltF, zz_eqT, zz_eqF, zz_okN, zz_okF, nI_clamp, nI_add, pk_mul, pk_sub, zz_bS, zz_b2S, if_true, if_false, Bool.true_eq_false, Bool.false_eq_true, eq_self, ne_eq, not_true_eq_false, not_false_eq_true, false_or, or_false, true_or, or_true, and_true, true_and, and_false, false_and, mI_e, mI_e2, mI_le, mI_le2, mI_lt, mI_lt2, mI_ok, bI_0n, bI_1n, bI_orn, Nat.mul_zero, Nat.zero_add, Nat.add_zero, c_no2, c_no3, c_no4, c_no5, c_no6, r_no2, r_no3, r_no4, r_no5, r_no6, zk_inR, zk_in2, zk_in3, zk_wiN, Nat.reduceAdd, ngI_e, ngI_le, ngI_m, cs_cmpN, zl_0, zl_1, zl_2, zl_3, zl_4, zl_5, zl_6, zl_7, zl_8, zl_9, zl_10, zl_12, zl_13, zl_14, zl_15, zl_16, zl_20, zl_32, zl_40, zl_48, zl_57, zl_59, zl_60, zl_63, zl_64, zl_97, zl_99, zl_101, zl_119, zl_120, zl_122, zl_128, zl_136, zl_152, zl_168, zl_184, zl_200, zl_201, zl_202, zl_203, zl_250, zl_255, zl_320, zl_999, zl_1000, zt_sn (show 8 ≤ 32 by omega) hy8, e2, zm_or (show 8 ≤ 32 by omega)]
          rw [zm_congr (g := gRc G x (n + 1)) (fun c _ => ?_)]
          · exact ih2
          · show (gRc G x n c || (gRc G x (n + 1) c && !gRc G x n c)) = _
            cases h7 : gRc G x n c with
            | true => rw [show gRc G x (n + 1) c = true from zit_m1 h7]; rfl
            | false => simp
  exact key 8 0 ax_FU (by omega) (by unfold ax_FU; omega) (fun j hj => by
    have : j = 0 := by omega
    subst this; exact h0)
theorem t_chain (v w : Int32) : zT (fun m => F_X10_chain m v w) (fun m => F_X11_chain m v w) := zT_of (fun m G h => by
  obtain ⟨hV, hC, hL, -⟩ := id h
  have hp := hV.p
  rcases zpr_cs hV v w with e | ⟨x, y, hx, hy, hxy, rfl, rfl⟩
  · exact zT_no 0 (by omega) (-nI 2) h (by unfold F_X10_chain; simp (disch := omega) only [↓zl_m1, zz_leT, zz_leF, zz_ltT, zz_ltF, zz_eqT, zz_eqF, zz_okN, zz_okF, nI_clamp, nI_add, pk_mul, pk_sub, zz_bS, zz_b2S, if_true, if_false, Bool.true_eq_false, Bool.false_eq_true, eq_self, ne_eq, not_true_eq_false, not_false_eq_true, false_or, or_false, true_or, or_true, and_true, true_and, and_false, false_and, mI_e, mI_e2, mI_le, mI_le2, mI_lt, mI_lt2, mI_ok, bI_0n, bI_1n, bI_orn, Nat.mul_zero, Nat.zero_add, Nat.add_zero, c_no2, c_no3, c_no4, c_no5, c_no6, r_no2, r_no3, r_no4, r_no5, r_no6, zk_inR, zk_in2, zk_in3, zk_wiN, Nat.reduceAdd, ngI_e, ngI_le, ngI_m, cs_cmpN, zl_0, zl_1, zl_2, zl_3, zl_4, zl_5, zl_6, zl_7, zl_8, zl_9, zl_10, zl_12, zl_13, zl_14, zl_15, zl_16, zl_20, zl_32, zl_40, zl_48, zl_57, zl_59, zl_60, zl_63, zl_64, zl_97, zl_99, zl_101, zl_119, zl_120, zl_122, zl_128, zl_136, zl_152, zl_168, zl_184, zl_200, zl_201, zl_202, zl_203, zl_250, zl_255, zl_320, zl_999, zl_1000, c_isPerson hC hV, c_isSeed hC hV, cs_isCell, c_isShelf, c_isPair hC hV, c_isKind, e]) (fun m1 e1 hL1 => by unfold F_X11_chain; simp (disch := omega) only [↓zl_m1, zz_leT, zz_leF, zz_ltT, zz_ltF, zz_eqT, zz_eqF, zz_okN, zz_okF, nI_clamp, nI_add, pk_mul, pk_sub, zz_bS, zz_b2S, if_true, if_false, Bool.true_eq_false, Bool.false_eq_true, eq_self, ne_eq, not_true_eq_false, not_false_eq_true, false_or, or_false, true_or, or_true, and_true, true_and, and_false, false_and, mI_e, mI_e2, mI_le, mI_le2, mI_lt, mI_lt2, mI_ok, bI_0n, bI_1n, bI_orn, Nat.mul_zero, Nat.zero_add, Nat.add_zero, c_no2, c_no3, c_no4, c_no5, c_no6, r_no2, r_no3, r_no4, r_no5, r_no6, zk_inR, zk_in2, zk_in3, zk_wiN, Nat.reduceAdd, ngI_e, ngI_le, ngI_m, cs_cmpN, zl_0, zl_1, zl_2, zl_3, zl_4, zl_5, zl_6, zl_7, zl_8, zl_9, zl_10, zl_12, zl_13, zl_14, zl_15, zl_16, zl_20, zl_32, zl_40, zl_48, zl_57, zl_59, zl_60, zl_63, zl_64, zl_97, zl_99, zl_101, zl_119, zl_120, zl_122, zl_128, zl_136, zl_152, zl_168, zl_184, zl_200, zl_201, zl_202, zl_203, zl_250, zl_255, zl_320, zl_999, zl_1000, r_isOne hL1 hV, r_isSeed hL1 hV, cr_isCell, r_isShelf, r_areTwo hL1 hV, zk_wiN, e])
  · have c1 := c_links hC hV (show x < 8 by omega) (show y < 8 by omega) hxy
    have r1 := r_chainL hL hV hx hy hxy
    have one : ax_ishl (nI 1) (nI x) = zm (gRc G x 0) 8 := zm_one (by omega) (by omega)
    refine zT_an (gCh G x y) h ?_ ?_
    · unfold F_X10_chain; simp (disch := omega) only [↓zl_m1, zz_leT, zz_leF, zz_ltT, zz_ltF, zz_eqT, zz_eqF, zz_okN, zz_okF, nI_clamp, nI_add, pk_mul, pk_sub, zz_bS, zz_b2S, if_true, if_false, Bool.true_eq_false, Bool.false_eq_true, eq_self, ne_eq, not_true_eq_false, not_false_eq_true, false_or, or_false, true_or, or_true, and_true, true_and, and_false, false_and, mI_e, mI_e2, mI_le, mI_le2, mI_lt, mI_lt2, mI_ok, bI_0n, bI_1n, bI_orn, Nat.mul_zero, Nat.zero_add, Nat.add_zero, c_no2, c_no3, c_no4, c_no5, c_no6, r_no2, r_no3, r_no4, r_no5, r_no6, zk_inR, zk_in2, zk_in3, zk_wiN, Nat.reduceAdd, ngI_e, ngI_le, ngI_m, cs_cmpN, zl_0, zl_1, zl_2, zl_3, zl_4, zl_5, zl_6, zl_7, zl_8, zl_9, zl_10, zl_12, zl_13, zl_14, zl_15, zl_16, zl_20, zl_32, zl_40, zl_48, zl_57, zl_59, zl_60, zl_63, zl_64, zl_97, zl_99, zl_101, zl_119, zl_120, zl_122, zl_128, zl_136, zl_152, zl_168, zl_184, zl_200, zl_201, zl_202, zl_203, zl_250, zl_255, zl_320, zl_999, zl_1000, c_isPair hC hV, zpr_t hV hx hy hxy, c1]
    · unfold F_X11_chain
      simp (disch := omega) only [↓zl_m1, zz_leT, zz_leF, zz_ltT, zz_ltF, zz_eqT, zz_eqF, zz_okN, zz_okF, nI_clamp, nI_add, pk_mul, pk_sub, zz_bS, zz_b2S, if_true, if_false, Bool.true_eq_false, Bool.false_eq_true, eq_self, ne_eq, not_true_eq_false, not_false_eq_true, false_or, or_false, true_or, or_true, and_true, true_and, and_false, false_and, mI_e, mI_e2, mI_le, mI_le2, mI_lt, mI_lt2, mI_ok, bI_0n, bI_1n, bI_orn, Nat.mul_zero, Nat.zero_add, Nat.add_zero, c_no2, c_no3, c_no4, c_no5, c_no6, r_no2, r_no3, r_no4, r_no5, r_no6, zk_inR, zk_in2, zk_in3, zk_wiN, Nat.reduceAdd, ngI_e, ngI_le, ngI_m, cs_cmpN, zl_0, zl_1, zl_2, zl_3, zl_4, zl_5, zl_6, zl_7, zl_8, zl_9, zl_10, zl_12, zl_13, zl_14, zl_15, zl_16, zl_20, zl_32, zl_40, zl_48, zl_57, zl_59, zl_60, zl_63, zl_64, zl_97, zl_99, zl_101, zl_119, zl_120, zl_122, zl_128, zl_136, zl_152, zl_168, zl_184, zl_200, zl_201, zl_202, zl_203, zl_250, zl_255, zl_320, zl_999, zl_1000, r_areTwo hL hV, zpr_t hV hx hy hxy, one]
      exact r1)
