def F_X11_guess_L54 : Nat → (ax_M → Int32 → Option (Int32 × ax_M)) → ax_M → Int32 → Int32 → Int32 → Int32 → Int32 → Int32 → Int32 → Int32 → Option (Int32 × ax_M)
  | 0, _, _, _, _, _, _, _, _, _, _ => none
  | n + 1, K81, m, v1, v2, v3, v4, v5, v6, v7, v8 => if (m.1 22 0 1) ≤ v8 then (K81 m v7) else (if v8 = v1 then (F_X11_guess_L54 n K81 m v1 v2 v3 v4 v5 v6 v7 (v8 + 1)) else (if v8 = v2 then (F_X11_guess_L54 n K81 m v1 v2 v3 v4 v5 v6 v7 (v8 + 1)) else (if ax_ok v8 8 = true then (if ax_ok v6 16 = true then (ax_b (F_X11_far (m.1 24 0 v8.toNatClampNeg) (m.1 28 0 v6.toNatClampNeg)) (fun r68 => ax_b (F_X11_reachOf m v6) (fun r70 => if r70 < r68 then (F_X11_guess_L54 n K81 m v1 v2 v3 v4 v5 v6 v7 (v8 + 1)) else (F_X11_guess_L54 n K81 m v1 v2 v3 v4 v5 v6 1 (v8 + 1))))) else (none)) else (none))))
set_option maxRecDepth 20000 in
set_option maxHeartbeats 4000000 in
theorem R_X11_guess_L54 {e : Nat} {v1 : Int32} {v2 : Int32} {v3 : Int32} {v4 : Int32} {v5 : Int32} {v6 : Int32} {K81 : ax_M → Int32 → Option (Int32 × ax_M)} (hK81 : ∀ (my : ax_M) (y7 : Int32) (q : (Int32 × ax_M)), K81 my y7 = some q → ax_Ru (e + 10) L_X11_guess 81 [some (.inr (.inr (22, 0))), some (.inl v1), some (.inl v2), some (.inl v3), some (.inl v4), some (.inl v5), some (.inl v6), some (.inl y7), none] [] my (some (.inl q.1), q.2)) : ∀ (n : Nat) (m : ax_M) (v7 : Int32) (v8 : Int32) (q : (Int32 × ax_M)), F_X11_guess_L54 n K81 m v1 v2 v3 v4 v5 v6 v7 v8 = some q → ax_Ru (e + 10) L_X11_guess 54 [some (.inr (.inr (22, 0))), some (.inl v1), some (.inl v2), some (.inl v3), some (.inl v4), some (.inl v5), some (.inl v6), some (.inl v7), some (.inl v8)] [] m (some (.inl q.1), q.2) := by
  intro n
  induction n with
  | zero =>
    intro m v7 v8 q h
    cases h
  | succ n ih =>
    intro m v7 v8 q h
    rw [F_X11_guess_L54] at h
    have s58 : ∀ n, ax_ex (e + 10) L_X11_guess 54 [some (.inr (.inr (22, 0))), some (.inl v1), some (.inl v2), some (.inl v3), some (.inl v4), some (.inl v5), some (.inl v6), some (.inl v7), some (.inl v8)] [] m (n + 4) = if (m.1 22 0 1) ≤ v8 then ax_ex (e + 10) L_X11_guess 81 [some (.inr (.inr (22, 0))), some (.inl v1), some (.inl v2), some (.inl v3), some (.inl v4), some (.inl v5), some (.inl v6), some (.inl v7), some (.inl v8)] [] m n else ax_ex (e + 10) L_X11_guess 58 [some (.inr (.inr (22, 0))), some (.inl v1), some (.inl v2), some (.inl v3), some (.inl v4), some (.inl v5), some (.inl v6), some (.inl v7), some (.inl v8)] [] m n := fun n => rfl
    by_cases c57 : (m.1 22 0 1) ≤ v8
    · rw [if_pos c57] at h
      refine ax_gt c57 s58 ?_
      exact ax_fg (lv2 := [some (.inr (.inr (22, 0))), some (.inl v1), some (.inl v2), some (.inl v3), some (.inl v4), some (.inl v5), some (.inl v6), some (.inl v7), none]) ⟨rfl, rfl, rfl, rfl, rfl, rfl, rfl, rfl, trivial⟩ (hK81 m v7 _ h)
    · rw [if_neg c57] at h
      refine ax_gf c57 s58 ?_
      have s60 : ∀ n, ax_ex (e + 10) L_X11_guess 58 [some (.inr (.inr (22, 0))), some (.inl v1), some (.inl v2), some (.inl v3), some (.inl v4), some (.inl v5), some (.inl v6), some (.inl v7), some (.inl v8)] [] m (n + 3) = if v8 = v1 then ax_ex (e + 10) L_X11_guess 79 [some (.inr (.inr (22, 0))), some (.inl v1), some (.inl v2), some (.inl v3), some (.inl v4), some (.inl v5), some (.inl v6), some (.inl v7), some (.inl v8)] [] m n else ax_ex (e + 10) L_X11_guess 61 [some (.inr (.inr (22, 0))), some (.inl v1), some (.inl v2), some (.inl v3), some (.inl v4), some (.inl v5), some (.inl v6), some (.inl v7), some (.inl v8)] [] m n := fun n => rfl
      by_cases c59 : v8 = v1
      · rw [if_pos c59] at h
        refine ax_gt c59 s60 ?_
        refine ax_go (j := 2) (k2 := 54) (lv2 := [some (.inr (.inr (22, 0))), some (.inl v1), some (.inl v2), some (.inl v3), some (.inl v4), some (.inl v5), some (.inl v6), some (.inl v7), some (.inl (v8 + 1))]) (st2 := []) (m2 := m) (fun n => rfl) ?_
        exact ax_fg (lv2 := [some (.inr (.inr (22, 0))), some (.inl v1), some (.inl v2), some (.inl v3), some (.inl v4), some (.inl v5), some (.inl v6), some (.inl v7), some (.inl (v8 + 1))]) ⟨rfl, rfl, rfl, rfl, rfl, rfl, rfl, rfl, rfl, trivial⟩ (ih m v7 (v8 + 1) _ h)
      · rw [if_neg c59] at h
        refine ax_gf c59 s60 ?_
        have s62 : ∀ n, ax_ex (e + 10) L_X11_guess 61 [some (.inr (.inr (22, 0))), some (.inl v1), some (.inl v2), some (.inl v3), some (.inl v4), some (.inl v5), some (.inl v6), some (.inl v7), some (.inl v8)] [] m (n + 3) = if v8 = v2 then ax_ex (e + 10) L_X11_guess 79 [some (.inr (.inr (22, 0))), some (.inl v1), some (.inl v2), some (.inl v3), some (.inl v4), some (.inl v5), some (.inl v6), some (.inl v7), some (.inl v8)] [] m n else ax_ex (e + 10) L_X11_guess 64 [some (.inr (.inr (22, 0))), some (.inl v1), some (.inl v2), some (.inl v3), some (.inl v4), some (.inl v5), some (.inl v6), some (.inl v7), some (.inl v8)] [] m n := fun n => rfl
        by_cases c61 : v8 = v2
        · rw [if_pos c61] at h
          refine ax_gt c61 s62 ?_
          refine ax_go (j := 2) (k2 := 54) (lv2 := [some (.inr (.inr (22, 0))), some (.inl v1), some (.inl v2), some (.inl v3), some (.inl v4), some (.inl v5), some (.inl v6), some (.inl v7), some (.inl (v8 + 1))]) (st2 := []) (m2 := m) (fun n => rfl) ?_
          exact ax_fg (lv2 := [some (.inr (.inr (22, 0))), some (.inl v1), some (.inl v2), some (.inl v3), some (.inl v4), some (.inl v5), some (.inl v6), some (.inl v7), some (.inl (v8 + 1))]) ⟨rfl, rfl, rfl, rfl, rfl, rfl, rfl, rfl, rfl, trivial⟩ (ih m v7 (v8 + 1) _ h)
        · rw [if_neg c61] at h
          refine ax_gf c61 s62 ?_
          have s64 : ∀ n, ax_ex (e + 10) L_X11_guess 64 [some (.inr (.inr (22, 0))), some (.inl v1), some (.inl v2), some (.inl v3), some (.inl v4), some (.inl v5), some (.inl v6), some (.inl v7), some (.inl v8)] [] m (n + 4) = if ax_ok v8 8 = true then ax_ex (e + 10) L_X11_guess 68 [some (.inr (.inr (22, 0))), some (.inl v1), some (.inl v2), some (.inl v3), some (.inl v4), some (.inl v5), some (.inl v6), some (.inl v7), some (.inl v8)] [.inl (m.1 24 0 v8.toNatClampNeg)] m n else none := fun n => rfl
          by_cases c63 : ax_ok v8 8 = true
          · rw [if_pos c63] at h
            refine ax_gt c63 s64 ?_
            have s66 : ∀ n, ax_ex (e + 10) L_X11_guess 68 [some (.inr (.inr (22, 0))), some (.inl v1), some (.inl v2), some (.inl v3), some (.inl v4), some (.inl v5), some (.inl v6), some (.inl v7), some (.inl v8)] [.inl (m.1 24 0 v8.toNatClampNeg)] m (n + 4) = if ax_ok v6 16 = true then ax_ex (e + 10) L_X11_guess 72 [some (.inr (.inr (22, 0))), some (.inl v1), some (.inl v2), some (.inl v3), some (.inl v4), some (.inl v5), some (.inl v6), some (.inl v7), some (.inl v8)] [.inl (m.1 28 0 v6.toNatClampNeg), .inl (m.1 24 0 v8.toNatClampNeg)] m n else none := fun n => rfl
            by_cases c65 : ax_ok v6 16 = true
            · rw [if_pos c65] at h
              refine ax_gt c65 s66 ?_
              obtain ⟨r68, q67, h⟩ := ax_b_of h
              have s74 : ∀ n, ax_ex (e + 10) L_X11_guess 72 [some (.inr (.inr (22, 0))), some (.inl v1), some (.inl v2), some (.inl v3), some (.inl v4), some (.inl v5), some (.inl v6), some (.inl v7), some (.inl v8)] [.inl (m.1 28 0 v6.toNatClampNeg), .inl (m.1 24 0 v8.toNatClampNeg)] m (n + 1) = ax_aft (fun s m2 => ax_ex (e + 10) L_X11_guess 73 [some (.inr (.inr (22, 0))), some (.inl v1), some (.inl v2), some (.inl v3), some (.inl v4), some (.inl v5), some (.inl v6), some (.inl v7), some (.inl v8)] s m2 n) [] (ax_ex (e + 9) L_X11_far 0 (ax_entry [.inl (m.1 24 0 v8.toNatClampNeg), .inl (m.1 28 0 v6.toNatClampNeg)] 2) [] m n) := fun n => rfl
              refine ax_gci (j := 1) (k2 := 73) (lv2 := [some (.inr (.inr (22, 0))), some (.inl v1), some (.inl v2), some (.inl v3), some (.inl v4), some (.inl v5), some (.inl v6), some (.inl v7), some (.inl v8)]) (rest := []) ((R_X11_far (by omega) q67)) s74 ?_
              obtain ⟨r70, q69, h⟩ := ax_b_of h
              have s73 : ∀ n, ax_ex (e + 10) L_X11_guess 73 [some (.inr (.inr (22, 0))), some (.inl v1), some (.inl v2), some (.inl v3), some (.inl v4), some (.inl v5), some (.inl v6), some (.inl v7), some (.inl v8)] [.inl r68] m (n + 3) = ax_aft (fun s m2 => ax_ex (e + 10) L_X11_guess 76 [some (.inr (.inr (22, 0))), some (.inl v1), some (.inl v2), some (.inl v3), some (.inl v4), some (.inl v5), some (.inl v6), some (.inl v7), some (.inl v8)] s m2 n) [.inl r68] (ax_ex (e + 9) L_X11_reachOf 0 (ax_entry [.inr (.inr (22, 0)), .inl v6] 2) [] m n) := fun n => rfl
              refine ax_gci (j := 3) (k2 := 76) (lv2 := [some (.inr (.inr (22, 0))), some (.inl v1), some (.inl v2), some (.inl v3), some (.inl v4), some (.inl v5), some (.inl v6), some (.inl v7), some (.inl v8)]) (rest := [.inl r68]) ((R_X11_reachOf (by omega) q69)) s73 ?_
              have s72 : ∀ n, ax_ex (e + 10) L_X11_guess 76 [some (.inr (.inr (22, 0))), some (.inl v1), some (.inl v2), some (.inl v3), some (.inl v4), some (.inl v5), some (.inl v6), some (.inl v7), some (.inl v8)] [.inl r70, .inl r68] m (n + 1) = if r70 < r68 then ax_ex (e + 10) L_X11_guess 79 [some (.inr (.inr (22, 0))), some (.inl v1), some (.inl v2), some (.inl v3), some (.inl v4), some (.inl v5), some (.inl v6), some (.inl v7), some (.inl v8)] [] m n else ax_ex (e + 10) L_X11_guess 77 [some (.inr (.inr (22, 0))), some (.inl v1), some (.inl v2), some (.inl v3), some (.inl v4), some (.inl v5), some (.inl v6), some (.inl v7), some (.inl v8)] [] m n := fun n => rfl
              by_cases c71 : r70 < r68
              · rw [if_pos c71] at h
                refine ax_gt c71 s72 ?_
                refine ax_go (j := 2) (k2 := 54) (lv2 := [some (.inr (.inr (22, 0))), some (.inl v1), some (.inl v2), some (.inl v3), some (.inl v4), some (.inl v5), some (.inl v6), some (.inl v7), some (.inl (v8 + 1))]) (st2 := []) (m2 := m) (fun n => rfl) ?_
                exact ax_fg (lv2 := [some (.inr (.inr (22, 0))), some (.inl v1), some (.inl v2), some (.inl v3), some (.inl v4), some (.inl v5), some (.inl v6), some (.inl v7), some (.inl (v8 + 1))]) ⟨rfl, rfl, rfl, rfl, rfl, rfl, rfl, rfl, rfl, trivial⟩ (ih m v7 (v8 + 1) _ h)
              · rw [if_neg c71] at h
                refine ax_gf c71 s72 ?_
                refine ax_go (j := 4) (k2 := 54) (lv2 := [some (.inr (.inr (22, 0))), some (.inl v1), some (.inl v2), some (.inl v3), some (.inl v4), some (.inl v5), some (.inl v6), some (.inl 1), some (.inl (v8 + 1))]) (st2 := []) (m2 := m) (fun n => rfl) ?_
                exact ax_fg (lv2 := [some (.inr (.inr (22, 0))), some (.inl v1), some (.inl v2), some (.inl v3), some (.inl v4), some (.inl v5), some (.inl v6), some (.inl 1), some (.inl (v8 + 1))]) ⟨rfl, rfl, rfl, rfl, rfl, rfl, rfl, rfl, rfl, trivial⟩ (ih m 1 (v8 + 1) _ h)
            · rw [if_neg c65] at h
              cases h
          · rw [if_neg c63] at h
            cases h
def F_X11_guess_L20 : Nat → ax_M → Int32 → Int32 → Int32 → Int32 → Int32 → Int32 → Option (Int32 × ax_M)
  | 0, _, _, _, _, _, _, _ => none
  | n + 1, m, v1, v2, v3, v4, v5, v6 => if (m.1 22 0 4) ≤ v6 then (if v3 = 0 then (some (v4, m)) else (some (v5, m))) else (if ax_ok v6 16 = true then (if (m.1 29 0 v6.toNatClampNeg) = v2 then (if ax_ok v6 16 = true then (if 2 < (m.1 26 0 v6.toNatClampNeg) then (F_X11_guess_L20 n m v1 v2 v3 v4 v5 (v6 + 1)) else (if ax_ok v1 8 = true then (if ax_ok v6 16 = true then (ax_b (F_X11_far (m.1 24 0 v1.toNatClampNeg) (m.1 28 0 v6.toNatClampNeg)) (fun r34 => ax_b (F_X11_reachOf m v6) (fun r36 => if r34 ≤ r36 then (F_X11_guess_L54 ax_FU (fun m76 y75 => ax_b (F_X11_byOf m76 v6) (fun r78 => if r78 = 0 then (F_X11_guess_L20 n m76 v1 v2 v3 0 v5 (v6 + 1)) else (if y75 = 0 then (F_X11_guess_L20 n m76 v1 v2 v3 v4 1 (v6 + 1)) else (F_X11_guess_L20 n m76 v1 v2 v3 v4 v5 (v6 + 1))))) m v1 v2 v3 v4 v5 v6 0 0) else (F_X11_guess_L20 n m v1 v2 v3 v4 v5 (v6 + 1))))) else (none)) else (none))) else (none)) else (F_X11_guess_L20 n m v1 v2 v3 v4 v5 (v6 + 1))) else (none))
set_option maxRecDepth 20000 in
set_option maxHeartbeats 4000000 in
theorem R_X11_guess_L20 {e : Nat} {v1 : Int32} {v2 : Int32} {v3 : Int32} : ∀ (n : Nat) (m : ax_M) (v4 : Int32) (v5 : Int32) (v6 : Int32) (q : (Int32 × ax_M)), F_X11_guess_L20 n m v1 v2 v3 v4 v5 v6 = some q → ax_Ru (e + 10) L_X11_guess 20 [some (.inr (.inr (22, 0))), some (.inl v1), some (.inl v2), some (.inl v3), some (.inl v4), some (.inl v5), some (.inl v6), none, none] [] m (some (.inl q.1), q.2) := by
  intro n
  induction n with
  | zero =>
    intro m v4 v5 v6 q h
    cases h
  | succ n ih =>
    intro m v4 v5 v6 q h
    rw [F_X11_guess_L20] at h
    have s18 : ∀ n, ax_ex (e + 10) L_X11_guess 20 [some (.inr (.inr (22, 0))), some (.inl v1), some (.inl v2), some (.inl v3), some (.inl v4), some (.inl v5), some (.inl v6), none, none] [] m (n + 4) = if (m.1 22 0 4) ≤ v6 then ax_ex (e + 10) L_X11_guess 94 [some (.inr (.inr (22, 0))), some (.inl v1), some (.inl v2), some (.inl v3), some (.inl v4), some (.inl v5), some (.inl v6), none, none] [] m n else ax_ex (e + 10) L_X11_guess 24 [some (.inr (.inr (22, 0))), some (.inl v1), some (.inl v2), some (.inl v3), some (.inl v4), some (.inl v5), some (.inl v6), none, none] [] m n := fun n => rfl
    by_cases c17 : (m.1 22 0 4) ≤ v6
    · rw [if_pos c17] at h
      refine ax_gt c17 s18 ?_
      have s20 : ∀ n, ax_ex (e + 10) L_X11_guess 94 [some (.inr (.inr (22, 0))), some (.inl v1), some (.inl v2), some (.inl v3), some (.inl v4), some (.inl v5), some (.inl v6), none, none] [] m (n + 2) = if v3 = 0 then ax_ex (e + 10) L_X11_guess 96 [some (.inr (.inr (22, 0))), some (.inl v1), some (.inl v2), some (.inl v3), some (.inl v4), some (.inl v5), some (.inl v6), none, none] [] m n else ax_ex (e + 10) L_X11_guess 98 [some (.inr (.inr (22, 0))), some (.inl v1), some (.inl v2), some (.inl v3), some (.inl v4), some (.inl v5), some (.inl v6), none, none] [] m n := fun n => rfl
      by_cases c19 : v3 = 0
      · rw [if_pos c19] at h
        refine ax_gt c19 s20 ?_
        obtain rfl := Option.some.inj h
        exact ax_rs 3 (fun n => rfl)
      · rw [if_neg c19] at h
        refine ax_gf c19 s20 ?_
        obtain rfl := Option.some.inj h
        exact ax_rs 2 (fun n => rfl)
    · rw [if_neg c17] at h
      refine ax_gf c17 s18 ?_
      have s22 : ∀ n, ax_ex (e + 10) L_X11_guess 24 [some (.inr (.inr (22, 0))), some (.inl v1), some (.inl v2), some (.inl v3), some (.inl v4), some (.inl v5), some (.inl v6), none, none] [] m (n + 4) = if ax_ok v6 16 = true then ax_ex (e + 10) L_X11_guess 28 [some (.inr (.inr (22, 0))), some (.inl v1), some (.inl v2), some (.inl v3), some (.inl v4), some (.inl v5), some (.inl v6), none, none] [.inl (m.1 29 0 v6.toNatClampNeg)] m n else none := fun n => rfl
      by_cases c21 : ax_ok v6 16 = true
      · rw [if_pos c21] at h
        refine ax_gt c21 s22 ?_
        have s24 : ∀ n, ax_ex (e + 10) L_X11_guess 28 [some (.inr (.inr (22, 0))), some (.inl v1), some (.inl v2), some (.inl v3), some (.inl v4), some (.inl v5), some (.inl v6), none, none] [.inl (m.1 29 0 v6.toNatClampNeg)] m (n + 2) = if (m.1 29 0 v6.toNatClampNeg) = v2 then ax_ex (e + 10) L_X11_guess 30 [some (.inr (.inr (22, 0))), some (.inl v1), some (.inl v2), some (.inl v3), some (.inl v4), some (.inl v5), some (.inl v6), none, none] [] m n else ax_ex (e + 10) L_X11_guess 92 [some (.inr (.inr (22, 0))), some (.inl v1), some (.inl v2), some (.inl v3), some (.inl v4), some (.inl v5), some (.inl v6), none, none] [] m n := fun n => rfl
        by_cases c23 : (m.1 29 0 v6.toNatClampNeg) = v2
        · rw [if_pos c23] at h
          refine ax_gt c23 s24 ?_
          have s26 : ∀ n, ax_ex (e + 10) L_X11_guess 30 [some (.inr (.inr (22, 0))), some (.inl v1), some (.inl v2), some (.inl v3), some (.inl v4), some (.inl v5), some (.inl v6), none, none] [] m (n + 4) = if ax_ok v6 16 = true then ax_ex (e + 10) L_X11_guess 34 [some (.inr (.inr (22, 0))), some (.inl v1), some (.inl v2), some (.inl v3), some (.inl v4), some (.inl v5), some (.inl v6), none, none] [.inl (m.1 26 0 v6.toNatClampNeg)] m n else none := fun n => rfl
          by_cases c25 : ax_ok v6 16 = true
          · rw [if_pos c25] at h
            refine ax_gt c25 s26 ?_
            have s28 : ∀ n, ax_ex (e + 10) L_X11_guess 34 [some (.inr (.inr (22, 0))), some (.inl v1), some (.inl v2), some (.inl v3), some (.inl v4), some (.inl v5), some (.inl v6), none, none] [.inl (m.1 26 0 v6.toNatClampNeg)] m (n + 2) = if 2 < (m.1 26 0 v6.toNatClampNeg) then ax_ex (e + 10) L_X11_guess 92 [some (.inr (.inr (22, 0))), some (.inl v1), some (.inl v2), some (.inl v3), some (.inl v4), some (.inl v5), some (.inl v6), none, none] [] m n else ax_ex (e + 10) L_X11_guess 36 [some (.inr (.inr (22, 0))), some (.inl v1), some (.inl v2), some (.inl v3), some (.inl v4), some (.inl v5), some (.inl v6), none, none] [] m n := fun n => rfl
            by_cases c27 : 2 < (m.1 26 0 v6.toNatClampNeg)
            · rw [if_pos c27] at h
              refine ax_gt c27 s28 ?_
              refine ax_go (j := 2) (k2 := 20) (lv2 := [some (.inr (.inr (22, 0))), some (.inl v1), some (.inl v2), some (.inl v3), some (.inl v4), some (.inl v5), some (.inl (v6 + 1)), none, none]) (st2 := []) (m2 := m) (fun n => rfl) ?_
              exact ax_fg (lv2 := [some (.inr (.inr (22, 0))), some (.inl v1), some (.inl v2), some (.inl v3), some (.inl v4), some (.inl v5), some (.inl (v6 + 1)), none, none]) ⟨rfl, rfl, rfl, rfl, rfl, rfl, rfl, trivial⟩ (ih m v4 v5 (v6 + 1) _ h)
            · rw [if_neg c27] at h
              refine ax_gf c27 s28 ?_
              have s30 : ∀ n, ax_ex (e + 10) L_X11_guess 36 [some (.inr (.inr (22, 0))), some (.inl v1), some (.inl v2), some (.inl v3), some (.inl v4), some (.inl v5), some (.inl v6), none, none] [] m (n + 4) = if ax_ok v1 8 = true then ax_ex (e + 10) L_X11_guess 40 [some (.inr (.inr (22, 0))), some (.inl v1), some (.inl v2), some (.inl v3), some (.inl v4), some (.inl v5), some (.inl v6), none, none] [.inl (m.1 24 0 v1.toNatClampNeg)] m n else none := fun n => rfl
              by_cases c29 : ax_ok v1 8 = true
              · rw [if_pos c29] at h
                refine ax_gt c29 s30 ?_
                have s32 : ∀ n, ax_ex (e + 10) L_X11_guess 40 [some (.inr (.inr (22, 0))), some (.inl v1), some (.inl v2), some (.inl v3), some (.inl v4), some (.inl v5), some (.inl v6), none, none] [.inl (m.1 24 0 v1.toNatClampNeg)] m (n + 4) = if ax_ok v6 16 = true then ax_ex (e + 10) L_X11_guess 44 [some (.inr (.inr (22, 0))), some (.inl v1), some (.inl v2), some (.inl v3), some (.inl v4), some (.inl v5), some (.inl v6), none, none] [.inl (m.1 28 0 v6.toNatClampNeg), .inl (m.1 24 0 v1.toNatClampNeg)] m n else none := fun n => rfl
                by_cases c31 : ax_ok v6 16 = true
                · rw [if_pos c31] at h
                  refine ax_gt c31 s32 ?_
                  obtain ⟨r34, q33, h⟩ := ax_b_of h
                  have s86 : ∀ n, ax_ex (e + 10) L_X11_guess 44 [some (.inr (.inr (22, 0))), some (.inl v1), some (.inl v2), some (.inl v3), some (.inl v4), some (.inl v5), some (.inl v6), none, none] [.inl (m.1 28 0 v6.toNatClampNeg), .inl (m.1 24 0 v1.toNatClampNeg)] m (n + 1) = ax_aft (fun s m2 => ax_ex (e + 10) L_X11_guess 45 [some (.inr (.inr (22, 0))), some (.inl v1), some (.inl v2), some (.inl v3), some (.inl v4), some (.inl v5), some (.inl v6), none, none] s m2 n) [] (ax_ex (e + 9) L_X11_far 0 (ax_entry [.inl (m.1 24 0 v1.toNatClampNeg), .inl (m.1 28 0 v6.toNatClampNeg)] 2) [] m n) := fun n => rfl
                  refine ax_gci (j := 1) (k2 := 45) (lv2 := [some (.inr (.inr (22, 0))), some (.inl v1), some (.inl v2), some (.inl v3), some (.inl v4), some (.inl v5), some (.inl v6), none, none]) (rest := []) ((R_X11_far (by omega) q33)) s86 ?_
                  obtain ⟨r36, q35, h⟩ := ax_b_of h
                  have s85 : ∀ n, ax_ex (e + 10) L_X11_guess 45 [some (.inr (.inr (22, 0))), some (.inl v1), some (.inl v2), some (.inl v3), some (.inl v4), some (.inl v5), some (.inl v6), none, none] [.inl r34] m (n + 3) = ax_aft (fun s m2 => ax_ex (e + 10) L_X11_guess 48 [some (.inr (.inr (22, 0))), some (.inl v1), some (.inl v2), some (.inl v3), some (.inl v4), some (.inl v5), some (.inl v6), none, none] s m2 n) [.inl r34] (ax_ex (e + 9) L_X11_reachOf 0 (ax_entry [.inr (.inr (22, 0)), .inl v6] 2) [] m n) := fun n => rfl
                  refine ax_gci (j := 3) (k2 := 48) (lv2 := [some (.inr (.inr (22, 0))), some (.inl v1), some (.inl v2), some (.inl v3), some (.inl v4), some (.inl v5), some (.inl v6), none, none]) (rest := [.inl r34]) ((R_X11_reachOf (by omega) q35)) s85 ?_
                  have s38 : ∀ n, ax_ex (e + 10) L_X11_guess 48 [some (.inr (.inr (22, 0))), some (.inl v1), some (.inl v2), some (.inl v3), some (.inl v4), some (.inl v5), some (.inl v6), none, none] [.inl r36, .inl r34] m (n + 1) = if r34 ≤ r36 then ax_ex (e + 10) L_X11_guess 50 [some (.inr (.inr (22, 0))), some (.inl v1), some (.inl v2), some (.inl v3), some (.inl v4), some (.inl v5), some (.inl v6), none, none] [] m n else ax_ex (e + 10) L_X11_guess 49 [some (.inr (.inr (22, 0))), some (.inl v1), some (.inl v2), some (.inl v3), some (.inl v4), some (.inl v5), some (.inl v6), none, none] [] m n := fun n => rfl
                  by_cases c37 : r34 ≤ r36
                  · rw [if_pos c37] at h
                    refine ax_gt c37 s38 ?_
                    refine ax_go (j := 4) (k2 := 54) (lv2 := [some (.inr (.inr (22, 0))), some (.inl v1), some (.inl v2), some (.inl v3), some (.inl v4), some (.inl v5), some (.inl v6), some (.inl 0), some (.inl 0)]) (st2 := []) (m2 := m) (fun n => rfl) ?_
                    refine ax_fg (lv2 := [some (.inr (.inr (22, 0))), some (.inl v1), some (.inl v2), some (.inl v3), some (.inl v4), some (.inl v5), some (.inl v6), some (.inl 0), some (.inl 0)]) ⟨rfl, rfl, rfl, rfl, rfl, rfl, rfl, rfl, rfl, trivial⟩ ?_
                    refine R_X11_guess_L54 ?_ _ m 0 0 _ h
                    · intro m76 y75 q h
                      obtain ⟨r78, q77, h⟩ := ax_b_of h
                      have s83 : ∀ n, ax_ex (e + 10) L_X11_guess 81 [some (.inr (.inr (22, 0))), some (.inl v1), some (.inl v2), some (.inl v3), some (.inl v4), some (.inl v5), some (.inl v6), some (.inl y75), none] [] m76 (n + 3) = ax_aft (fun s m2 => ax_ex (e + 10) L_X11_guess 84 [some (.inr (.inr (22, 0))), some (.inl v1), some (.inl v2), some (.inl v3), some (.inl v4), some (.inl v5), some (.inl v6), some (.inl y75), none] s m2 n) [] (ax_ex (e + 9) L_X11_byOf 0 (ax_entry [.inr (.inr (22, 0)), .inl v6] 4) [] m76 n) := fun n => rfl
                      refine ax_gci (j := 3) (k2 := 84) (lv2 := [some (.inr (.inr (22, 0))), some (.inl v1), some (.inl v2), some (.inl v3), some (.inl v4), some (.inl v5), some (.inl v6), some (.inl y75), none]) (rest := []) ((R_X11_byOf (by omega) q77)) s83 ?_
                      have s80 : ∀ n, ax_ex (e + 10) L_X11_guess 84 [some (.inr (.inr (22, 0))), some (.inl v1), some (.inl v2), some (.inl v3), some (.inl v4), some (.inl v5), some (.inl v6), some (.inl y75), none] [.inl r78] m76 (n + 1) = if r78 = 0 then ax_ex (e + 10) L_X11_guess 85 [some (.inr (.inr (22, 0))), some (.inl v1), some (.inl v2), some (.inl v3), some (.inl v4), some (.inl v5), some (.inl v6), some (.inl y75), none] [] m76 n else ax_ex (e + 10) L_X11_guess 88 [some (.inr (.inr (22, 0))), some (.inl v1), some (.inl v2), some (.inl v3), some (.inl v4), some (.inl v5), some (.inl v6), some (.inl y75), none] [] m76 n := fun n => rfl
                      by_cases c79 : r78 = 0
                      · rw [if_pos c79] at h
                        refine ax_gt c79 s80 ?_
                        refine ax_go (j := 5) (k2 := 20) (lv2 := [some (.inr (.inr (22, 0))), some (.inl v1), some (.inl v2), some (.inl v3), some (.inl 0), some (.inl v5), some (.inl (v6 + 1)), some (.inl y75), none]) (st2 := []) (m2 := m76) (fun n => rfl) ?_
                        exact ax_fg (lv2 := [some (.inr (.inr (22, 0))), some (.inl v1), some (.inl v2), some (.inl v3), some (.inl 0), some (.inl v5), some (.inl (v6 + 1)), none, none]) ⟨rfl, rfl, rfl, rfl, rfl, rfl, rfl, trivial⟩ (ih m76 0 v5 (v6 + 1) _ h)
                      · rw [if_neg c79] at h
                        refine ax_gf c79 s80 ?_
                        have s82 : ∀ n, ax_ex (e + 10) L_X11_guess 88 [some (.inr (.inr (22, 0))), some (.inl v1), some (.inl v2), some (.inl v3), some (.inl v4), some (.inl v5), some (.inl v6), some (.inl y75), none] [] m76 (n + 2) = if y75 = 0 then ax_ex (e + 10) L_X11_guess 90 [some (.inr (.inr (22, 0))), some (.inl v1), some (.inl v2), some (.inl v3), some (.inl v4), some (.inl v5), some (.inl v6), some (.inl y75), none] [] m76 n else ax_ex (e + 10) L_X11_guess 92 [some (.inr (.inr (22, 0))), some (.inl v1), some (.inl v2), some (.inl v3), some (.inl v4), some (.inl v5), some (.inl v6), some (.inl y75), none] [] m76 n := fun n => rfl
                        by_cases c81 : y75 = 0
                        · rw [if_pos c81] at h
                          refine ax_gt c81 s82 ?_
                          refine ax_go (j := 4) (k2 := 20) (lv2 := [some (.inr (.inr (22, 0))), some (.inl v1), some (.inl v2), some (.inl v3), some (.inl v4), some (.inl 1), some (.inl (v6 + 1)), some (.inl y75), none]) (st2 := []) (m2 := m76) (fun n => rfl) ?_
                          exact ax_fg (lv2 := [some (.inr (.inr (22, 0))), some (.inl v1), some (.inl v2), some (.inl v3), some (.inl v4), some (.inl 1), some (.inl (v6 + 1)), none, none]) ⟨rfl, rfl, rfl, rfl, rfl, rfl, rfl, trivial⟩ (ih m76 v4 1 (v6 + 1) _ h)
                        · rw [if_neg c81] at h
                          refine ax_gf c81 s82 ?_
                          refine ax_go (j := 2) (k2 := 20) (lv2 := [some (.inr (.inr (22, 0))), some (.inl v1), some (.inl v2), some (.inl v3), some (.inl v4), some (.inl v5), some (.inl (v6 + 1)), some (.inl y75), none]) (st2 := []) (m2 := m76) (fun n => rfl) ?_
                          exact ax_fg (lv2 := [some (.inr (.inr (22, 0))), some (.inl v1), some (.inl v2), some (.inl v3), some (.inl v4), some (.inl v5), some (.inl (v6 + 1)), none, none]) ⟨rfl, rfl, rfl, rfl, rfl, rfl, rfl, trivial⟩ (ih m76 v4 v5 (v6 + 1) _ h)
                  · rw [if_neg c37] at h
                    refine ax_gf c37 s38 ?_
                    refine ax_go (j := 3) (k2 := 20) (lv2 := [some (.inr (.inr (22, 0))), some (.inl v1), some (.inl v2), some (.inl v3), some (.inl v4), some (.inl v5), some (.inl (v6 + 1)), none, none]) (st2 := []) (m2 := m) (fun n => rfl) ?_
                    exact ax_fg (lv2 := [some (.inr (.inr (22, 0))), some (.inl v1), some (.inl v2), some (.inl v3), some (.inl v4), some (.inl v5), some (.inl (v6 + 1)), none, none]) ⟨rfl, rfl, rfl, rfl, rfl, rfl, rfl, trivial⟩ (ih m v4 v5 (v6 + 1) _ h)
                · rw [if_neg c31] at h
                  cases h
              · rw [if_neg c29] at h
                cases h
          · rw [if_neg c25] at h
            cases h
        · rw [if_neg c23] at h
          refine ax_gf c23 s24 ?_
          refine ax_go (j := 2) (k2 := 20) (lv2 := [some (.inr (.inr (22, 0))), some (.inl v1), some (.inl v2), some (.inl v3), some (.inl v4), some (.inl v5), some (.inl (v6 + 1)), none, none]) (st2 := []) (m2 := m) (fun n => rfl) ?_
          exact ax_fg (lv2 := [some (.inr (.inr (22, 0))), some (.inl v1), some (.inl v2), some (.inl v3), some (.inl v4), some (.inl v5), some (.inl (v6 + 1)), none, none]) ⟨rfl, rfl, rfl, rfl, rfl, rfl, rfl, trivial⟩ (ih m v4 v5 (v6 + 1) _ h)
      · rw [if_neg c21] at h
        cases h
def F_X11_guess (m : ax_M) (v1 : Int32) (v2 : Int32) (v3 : Int32) : Option (Int32 × ax_M) := ax_b (F_X11_areTwo m v1 v2) (fun r2 => if r2 = 0 then (ax_b2 (F_X11_no m (-2)) (fun r6 m7 => some (r6, m7))) else (ax_b (F_X11_within v3 0 1) (fun r10 => if r10 = 0 then (ax_b2 (F_X11_no m (-2)) (fun r14 m15 => some (r14, m15))) else (F_X11_guess_L20 ax_FU m v1 v2 v3 1 0 0))))
set_option maxRecDepth 20000 in
set_option maxHeartbeats 4000000 in
theorem R_X11_guess {d : Nat} (hd : 10 ≤ d) {m : ax_M} {v1 : Int32} {v2 : Int32} {v3 : Int32} {q : (Int32 × ax_M)} (h : F_X11_guess m v1 v2 v3 = some q) : ax_Ru d L_X11_guess 0 (ax_entry [.inr (.inr (22, 0)), .inl v1, .inl v2, .inl v3] 9) [] m (some (.inl q.1), q.2) := by
  obtain ⟨e, rfl⟩ : ∃ e, d = e + 10 := ⟨d - 10, by omega⟩
  unfold F_X11_guess at h
  obtain ⟨r2, q1, h⟩ := ax_b_of h
  have s89 : ∀ n, ax_ex (e + 10) L_X11_guess 0 (ax_entry [.inr (.inr (22, 0)), .inl v1, .inl v2, .inl v3] 9) [] m (n + 4) = ax_aft (fun s m2 => ax_ex (e + 10) L_X11_guess 4 [some (.inr (.inr (22, 0))), some (.inl v1), some (.inl v2), some (.inl v3), none, none, none, none, none] s m2 n) [] (ax_ex (e + 9) L_X11_areTwo 0 (ax_entry [.inr (.inr (22, 0)), .inl v1, .inl v2] 3) [] m n) := fun n => rfl
  refine ax_gci (j := 4) (k2 := 4) (lv2 := [some (.inr (.inr (22, 0))), some (.inl v1), some (.inl v2), some (.inl v3), none, none, none, none, none]) (rest := []) ((R_X11_areTwo (by omega) q1)) s89 ?_
  have s4 : ∀ n, ax_ex (e + 10) L_X11_guess 4 [some (.inr (.inr (22, 0))), some (.inl v1), some (.inl v2), some (.inl v3), none, none, none, none, none] [.inl r2] m (n + 1) = if r2 = 0 then ax_ex (e + 10) L_X11_guess 10 [some (.inr (.inr (22, 0))), some (.inl v1), some (.inl v2), some (.inl v3), none, none, none, none, none] [] m n else ax_ex (e + 10) L_X11_guess 5 [some (.inr (.inr (22, 0))), some (.inl v1), some (.inl v2), some (.inl v3), none, none, none, none, none] [] m n := fun n => rfl
  by_cases c3 : r2 = 0
  · rw [if_pos c3] at h
    refine ax_gt c3 s4 ?_
    obtain ⟨r6, m7, q5, h⟩ := ax_b2_of h
    have s8 : ∀ n, ax_ex (e + 10) L_X11_guess 10 [some (.inr (.inr (22, 0))), some (.inl v1), some (.inl v2), some (.inl v3), none, none, none, none, none] [] m (n + 3) = ax_aft (fun s m2 => ax_ex (e + 10) L_X11_guess 13 [some (.inr (.inr (22, 0))), some (.inl v1), some (.inl v2), some (.inl v3), none, none, none, none, none] s m2 n) [] (ax_ex (e + 9) L_X11_no 0 (ax_entry [.inr (.inr (22, 0)), .inl (-2)] 2) [] m n) := fun n => rfl
    refine ax_gci (j := 3) (k2 := 13) (lv2 := [some (.inr (.inr (22, 0))), some (.inl v1), some (.inl v2), some (.inl v3), none, none, none, none, none]) (rest := []) ((R_X11_no (by omega) q5)) s8 ?_
    obtain rfl := Option.some.inj h
    exact ax_rs 1 (fun n => rfl)
  · rw [if_neg c3] at h
    refine ax_gf c3 s4 ?_
    obtain ⟨r10, q9, h⟩ := ax_b_of h
    have s88 : ∀ n, ax_ex (e + 10) L_X11_guess 5 [some (.inr (.inr (22, 0))), some (.inl v1), some (.inl v2), some (.inl v3), none, none, none, none, none] [] m (n + 4) = ax_aft (fun s m2 => ax_ex (e + 10) L_X11_guess 9 [some (.inr (.inr (22, 0))), some (.inl v1), some (.inl v2), some (.inl v3), none, none, none, none, none] s m2 n) [] (ax_ex (e + 9) L_X11_within 0 (ax_entry [.inl v3, .inl 0, .inl 1] 3) [] m n) := fun n => rfl
    refine ax_gci (j := 4) (k2 := 9) (lv2 := [some (.inr (.inr (22, 0))), some (.inl v1), some (.inl v2), some (.inl v3), none, none, none, none, none]) (rest := []) ((R_X11_within (by omega) q9)) s88 ?_
    have s12 : ∀ n, ax_ex (e + 10) L_X11_guess 9 [some (.inr (.inr (22, 0))), some (.inl v1), some (.inl v2), some (.inl v3), none, none, none, none, none] [.inl r10] m (n + 1) = if r10 = 0 then ax_ex (e + 10) L_X11_guess 10 [some (.inr (.inr (22, 0))), some (.inl v1), some (.inl v2), some (.inl v3), none, none, none, none, none] [] m n else ax_ex (e + 10) L_X11_guess 14 [some (.inr (.inr (22, 0))), some (.inl v1), some (.inl v2), some (.inl v3), none, none, none, none, none] [] m n := fun n => rfl
    by_cases c11 : r10 = 0
    · rw [if_pos c11] at h
      refine ax_gt c11 s12 ?_
      obtain ⟨r14, m15, q13, h⟩ := ax_b2_of h
      have s16 : ∀ n, ax_ex (e + 10) L_X11_guess 10 [some (.inr (.inr (22, 0))), some (.inl v1), some (.inl v2), some (.inl v3), none, none, none, none, none] [] m (n + 3) = ax_aft (fun s m2 => ax_ex (e + 10) L_X11_guess 13 [some (.inr (.inr (22, 0))), some (.inl v1), some (.inl v2), some (.inl v3), none, none, none, none, none] s m2 n) [] (ax_ex (e + 9) L_X11_no 0 (ax_entry [.inr (.inr (22, 0)), .inl (-2)] 2) [] m n) := fun n => rfl
      refine ax_gci (j := 3) (k2 := 13) (lv2 := [some (.inr (.inr (22, 0))), some (.inl v1), some (.inl v2), some (.inl v3), none, none, none, none, none]) (rest := []) ((R_X11_no (by omega) q13)) s16 ?_
      obtain rfl := Option.some.inj h
      exact ax_rs 1 (fun n => rfl)
    · rw [if_neg c11] at h
      refine ax_gf c11 s12 ?_
      refine ax_go (j := 6) (k2 := 20) (lv2 := [some (.inr (.inr (22, 0))), some (.inl v1), some (.inl v2), some (.inl v3), some (.inl 1), some (.inl 0), some (.inl 0), none, none]) (st2 := []) (m2 := m) (fun n => rfl) ?_
      refine ax_fg (lv2 := [some (.inr (.inr (22, 0))), some (.inl v1), some (.inl v2), some (.inl v3), some (.inl 1), some (.inl 0), some (.inl 0), none, none]) ⟨rfl, rfl, rfl, rfl, rfl, rfl, rfl, trivial⟩ ?_
      refine R_X11_guess_L20 _ m 1 0 0 _ h
def F_X11_toldAt (m : ax_M) (v1 : Int32) (v2 : Int32) : Option Int32 := if ax_ok ((40 * v1) + v2) 320 = true then (if (lg_cmp (m.2 33 0 ((40 * v1) + v2).toNatClampNeg) (((m.2 33 0 ((40 * v1) + v2).toNatClampNeg).toInt32).toInt64)) = 0 then (some ((m.2 33 0 ((40 * v1) + v2).toNatClampNeg).toInt32)) else (some (-1))) else (none)
set_option maxRecDepth 20000 in
set_option maxHeartbeats 4000000 in
theorem R_X11_toldAt {d : Nat} (hd : 1 ≤ d) {m : ax_M} {v1 : Int32} {v2 : Int32} {q : Int32} (h : F_X11_toldAt m v1 v2 = some q) : ax_Ru d L_X11_toldAt 0 (ax_entry [.inr (.inr (22, 0)), .inl v1, .inl v2] 5) [] m (some (.inl q), m) := by
  obtain ⟨e, rfl⟩ : ∃ e, d = e + 1 := ⟨d - 1, by omega⟩
  unfold F_X11_toldAt at h
  refine ax_go (j := 7) (k2 := 7) (lv2 := [some (.inr (.inr (22, 0))), some (.inl v1), some (.inl v2), none, none]) (st2 := [.inl ((40 * v1) + v2), .inr (.inr (33, 0))]) (m2 := m) (fun n => rfl) ?_
  obtain ⟨y1, hy1⟩ : ∃ y : Int32, y = ((40 * v1) + v2) := ⟨_, rfl⟩
  rw [← hy1] at h ⊢
  have s3 : ∀ n, ax_ex (e + 1) L_X11_toldAt 7 [some (.inr (.inr (22, 0))), some (.inl v1), some (.inl v2), none, none] [.inl y1, .inr (.inr (33, 0))] m (n + 1) = if ax_ok y1 320 = true then ax_ex (e + 1) L_X11_toldAt 8 [some (.inr (.inr (22, 0))), some (.inl v1), some (.inl v2), none, none] [.inr (.inl (m.2 33 0 y1.toNatClampNeg))] m n else none := fun n => rfl
  by_cases c2 : ax_ok y1 320 = true
  · rw [if_pos c2] at h
    refine ax_gt c2 s3 ?_
    refine ax_go (j := 6) (k2 := 14) (lv2 := [some (.inr (.inr (22, 0))), some (.inl v1), some (.inl v2), some (.inr (.inl (m.2 33 0 y1.toNatClampNeg))), none]) (st2 := [.inl (lg_cmp (m.2 33 0 y1.toNatClampNeg) (((m.2 33 0 y1.toNatClampNeg).toInt32).toInt64))]) (m2 := m) (fun n => rfl) ?_
    obtain ⟨y4, hy4⟩ : ∃ y : Int32, y = (lg_cmp (m.2 33 0 y1.toNatClampNeg) (((m.2 33 0 y1.toNatClampNeg).toInt32).toInt64)) := ⟨_, rfl⟩
    rw [← hy4] at h ⊢
    have s6 : ∀ n, ax_ex (e + 1) L_X11_toldAt 14 [some (.inr (.inr (22, 0))), some (.inl v1), some (.inl v2), some (.inr (.inl (m.2 33 0 y1.toNatClampNeg))), none] [.inl y4] m (n + 1) = if y4 = 0 then ax_ex (e + 1) L_X11_toldAt 15 [some (.inr (.inr (22, 0))), some (.inl v1), some (.inl v2), some (.inr (.inl (m.2 33 0 y1.toNatClampNeg))), none] [] m n else ax_ex (e + 1) L_X11_toldAt 18 [some (.inr (.inr (22, 0))), some (.inl v1), some (.inl v2), some (.inr (.inl (m.2 33 0 y1.toNatClampNeg))), none] [] m n := fun n => rfl
    by_cases c5 : y4 = 0
    · rw [if_pos c5] at h
      refine ax_gt c5 s6 ?_
      obtain rfl := Option.some.inj h
      exact ax_rs 4 (fun n => rfl)
    · rw [if_neg c5] at h
      refine ax_gf c5 s6 ?_
      obtain rfl := Option.some.inj h
      exact ax_rs 2 (fun n => rfl)
  · rw [if_neg c2] at h
    cases h
def F_X11_tellsAll_L9 : Nat → (Int32 → Option Int32) → ax_M → Int32 → Int32 → Int32 → Int32 → Int32 → Int32 → Option Int32
  | 0, _, _, _, _, _, _, _, _ => none
  | n + 1, K27, m, v1, v2, v3, v4, v5, v6 => if v3 ≤ v6 then (K27 v5) else (ax_b (F_X11_toldAt m v1 v4) (fun r18 => if ax_ok v6 3 = true then (ax_b (F_X11_far r18 (m.1 39 0 v6.toNatClampNeg)) (fun r22 => if 2 ≤ r22 then (F_X11_tellsAll_L9 n K27 m v1 v2 v3 v4 v5 (v6 + 1)) else (F_X11_tellsAll_L9 n K27 m v1 v2 v3 v4 1 (v6 + 1)))) else (none)))
set_option maxRecDepth 20000 in
set_option maxHeartbeats 4000000 in
theorem R_X11_tellsAll_L9 {e : Nat} {m : ax_M} {v1 : Int32} {v2 : Int32} {v3 : Int32} {v4 : Int32} {K27 : Int32 → Option Int32} (hK27 : ∀ (y5 : Int32) (q : Int32), K27 y5 = some q → ax_Ru (e + 7) L_X11_tellsAll 27 [some (.inr (.inr (22, 0))), some (.inl v1), some (.inl v2), some (.inl v3), some (.inl v4), some (.inl y5), none] [] m (some (.inl q), m)) : ∀ (n : Nat) (v5 : Int32) (v6 : Int32) (q : Int32), F_X11_tellsAll_L9 n K27 m v1 v2 v3 v4 v5 v6 = some q → ax_Ru (e + 7) L_X11_tellsAll 9 [some (.inr (.inr (22, 0))), some (.inl v1), some (.inl v2), some (.inl v3), some (.inl v4), some (.inl v5), some (.inl v6)] [] m (some (.inl q), m) := by
  intro n
  induction n with
  | zero =>
    intro v5 v6 q h
    cases h
  | succ n ih =>
    intro v5 v6 q h
    rw [F_X11_tellsAll_L9] at h
    have s16 : ∀ n, ax_ex (e + 7) L_X11_tellsAll 9 [some (.inr (.inr (22, 0))), some (.inl v1), some (.inl v2), some (.inl v3), some (.inl v4), some (.inl v5), some (.inl v6)] [] m (n + 3) = if v3 ≤ v6 then ax_ex (e + 7) L_X11_tellsAll 27 [some (.inr (.inr (22, 0))), some (.inl v1), some (.inl v2), some (.inl v3), some (.inl v4), some (.inl v5), some (.inl v6)] [] m n else ax_ex (e + 7) L_X11_tellsAll 12 [some (.inr (.inr (22, 0))), some (.inl v1), some (.inl v2), some (.inl v3), some (.inl v4), some (.inl v5), some (.inl v6)] [] m n := fun n => rfl
    by_cases c15 : v3 ≤ v6
    · rw [if_pos c15] at h
      refine ax_gt c15 s16 ?_
      exact ax_fg (lv2 := [some (.inr (.inr (22, 0))), some (.inl v1), some (.inl v2), some (.inl v3), some (.inl v4), some (.inl v5), none]) ⟨rfl, rfl, rfl, rfl, rfl, rfl, trivial⟩ (hK27 v5 _ h)
    · rw [if_neg c15] at h
      refine ax_gf c15 s16 ?_
      obtain ⟨r18, q17, h⟩ := ax_b_of h
      have s26 : ∀ n, ax_ex (e + 7) L_X11_tellsAll 12 [some (.inr (.inr (22, 0))), some (.inl v1), some (.inl v2), some (.inl v3), some (.inl v4), some (.inl v5), some (.inl v6)] [] m (n + 4) = ax_aft (fun s m2 => ax_ex (e + 7) L_X11_tellsAll 16 [some (.inr (.inr (22, 0))), some (.inl v1), some (.inl v2), some (.inl v3), some (.inl v4), some (.inl v5), some (.inl v6)] s m2 n) [] (ax_ex (e + 6) L_X11_toldAt 0 (ax_entry [.inr (.inr (22, 0)), .inl v1, .inl v4] 5) [] m n) := fun n => rfl
      refine ax_gci (j := 4) (k2 := 16) (lv2 := [some (.inr (.inr (22, 0))), some (.inl v1), some (.inl v2), some (.inl v3), some (.inl v4), some (.inl v5), some (.inl v6)]) (rest := []) ((R_X11_toldAt (by omega) q17)) s26 ?_
      have s20 : ∀ n, ax_ex (e + 7) L_X11_tellsAll 16 [some (.inr (.inr (22, 0))), some (.inl v1), some (.inl v2), some (.inl v3), some (.inl v4), some (.inl v5), some (.inl v6)] [.inl r18] m (n + 4) = if ax_ok v6 3 = true then ax_ex (e + 7) L_X11_tellsAll 20 [some (.inr (.inr (22, 0))), some (.inl v1), some (.inl v2), some (.inl v3), some (.inl v4), some (.inl v5), some (.inl v6)] [.inl (m.1 39 0 v6.toNatClampNeg), .inl r18] m n else none := fun n => rfl
      by_cases c19 : ax_ok v6 3 = true
      · rw [if_pos c19] at h
        refine ax_gt c19 s20 ?_
        obtain ⟨r22, q21, h⟩ := ax_b_of h
        have s25 : ∀ n, ax_ex (e + 7) L_X11_tellsAll 20 [some (.inr (.inr (22, 0))), some (.inl v1), some (.inl v2), some (.inl v3), some (.inl v4), some (.inl v5), some (.inl v6)] [.inl (m.1 39 0 v6.toNatClampNeg), .inl r18] m (n + 1) = ax_aft (fun s m2 => ax_ex (e + 7) L_X11_tellsAll 21 [some (.inr (.inr (22, 0))), some (.inl v1), some (.inl v2), some (.inl v3), some (.inl v4), some (.inl v5), some (.inl v6)] s m2 n) [] (ax_ex (e + 6) L_X11_far 0 (ax_entry [.inl r18, .inl (m.1 39 0 v6.toNatClampNeg)] 2) [] m n) := fun n => rfl
        refine ax_gci (j := 1) (k2 := 21) (lv2 := [some (.inr (.inr (22, 0))), some (.inl v1), some (.inl v2), some (.inl v3), some (.inl v4), some (.inl v5), some (.inl v6)]) (rest := []) ((R_X11_far (by omega) q21)) s25 ?_
        have s24 : ∀ n, ax_ex (e + 7) L_X11_tellsAll 21 [some (.inr (.inr (22, 0))), some (.inl v1), some (.inl v2), some (.inl v3), some (.inl v4), some (.inl v5), some (.inl v6)] [.inl r22] m (n + 2) = if 2 ≤ r22 then ax_ex (e + 7) L_X11_tellsAll 25 [some (.inr (.inr (22, 0))), some (.inl v1), some (.inl v2), some (.inl v3), some (.inl v4), some (.inl v5), some (.inl v6)] [] m n else ax_ex (e + 7) L_X11_tellsAll 23 [some (.inr (.inr (22, 0))), some (.inl v1), some (.inl v2), some (.inl v3), some (.inl v4), some (.inl v5), some (.inl v6)] [] m n := fun n => rfl
        by_cases c23 : 2 ≤ r22
        · rw [if_pos c23] at h
          refine ax_gt c23 s24 ?_
          refine ax_go (j := 2) (k2 := 9) (lv2 := [some (.inr (.inr (22, 0))), some (.inl v1), some (.inl v2), some (.inl v3), some (.inl v4), some (.inl v5), some (.inl (v6 + 1))]) (st2 := []) (m2 := m) (fun n => rfl) ?_
          exact ax_fg (lv2 := [some (.inr (.inr (22, 0))), some (.inl v1), some (.inl v2), some (.inl v3), some (.inl v4), some (.inl v5), some (.inl (v6 + 1))]) ⟨rfl, rfl, rfl, rfl, rfl, rfl, rfl, trivial⟩ (ih v5 (v6 + 1) _ h)
        · rw [if_neg c23] at h
          refine ax_gf c23 s24 ?_
          refine ax_go (j := 4) (k2 := 9) (lv2 := [some (.inr (.inr (22, 0))), some (.inl v1), some (.inl v2), some (.inl v3), some (.inl v4), some (.inl 1), some (.inl (v6 + 1))]) (st2 := []) (m2 := m) (fun n => rfl) ?_
          exact ax_fg (lv2 := [some (.inr (.inr (22, 0))), some (.inl v1), some (.inl v2), some (.inl v3), some (.inl v4), some (.inl 1), some (.inl (v6 + 1))]) ⟨rfl, rfl, rfl, rfl, rfl, rfl, rfl, trivial⟩ (ih 1 (v6 + 1) _ h)
      · rw [if_neg c19] at h
        cases h
def F_X11_tellsAll_L2 : Nat → ax_M → Int32 → Int32 → Int32 → Int32 → Option Int32
  | 0, _, _, _, _, _ => none
  | n + 1, m, v1, v2, v3, v4 => if v2 ≤ v4 then (some 1) else (F_X11_tellsAll_L9 ax_FU (fun y27 => if y27 = 0 then (some 0) else (F_X11_tellsAll_L2 n m v1 v2 v3 (v4 + 1))) m v1 v2 v3 v4 0 0)
set_option maxRecDepth 20000 in
set_option maxHeartbeats 4000000 in
theorem R_X11_tellsAll_L2 {e : Nat} {m : ax_M} {v1 : Int32} {v2 : Int32} {v3 : Int32} : ∀ (n : Nat) (v4 : Int32) (q : Int32), F_X11_tellsAll_L2 n m v1 v2 v3 v4 = some q → ax_Ru (e + 7) L_X11_tellsAll 2 [some (.inr (.inr (22, 0))), some (.inl v1), some (.inl v2), some (.inl v3), some (.inl v4), none, none] [] m (some (.inl q), m) := by
  intro n
  induction n with
  | zero =>
    intro v4 q h
    cases h
  | succ n ih =>
    intro v4 q h
    rw [F_X11_tellsAll_L2] at h
    have s2 : ∀ n, ax_ex (e + 7) L_X11_tellsAll 2 [some (.inr (.inr (22, 0))), some (.inl v1), some (.inl v2), some (.inl v3), some (.inl v4), none, none] [] m (n + 3) = if v2 ≤ v4 then ax_ex (e + 7) L_X11_tellsAll 33 [some (.inr (.inr (22, 0))), some (.inl v1), some (.inl v2), some (.inl v3), some (.inl v4), none, none] [] m n else ax_ex (e + 7) L_X11_tellsAll 5 [some (.inr (.inr (22, 0))), some (.inl v1), some (.inl v2), some (.inl v3), some (.inl v4), none, none] [] m n := fun n => rfl
    by_cases c1 : v2 ≤ v4
    · rw [if_pos c1] at h
      refine ax_gt c1 s2 ?_
      obtain rfl := Option.some.inj h
      exact ax_rq (c := (1 : Int32) = 0 ∨ (1 : Int32) = 1) (j := 2) (by decide) (fun n => rfl)
    · rw [if_neg c1] at h
      refine ax_gf c1 s2 ?_
      refine ax_go (j := 4) (k2 := 9) (lv2 := [some (.inr (.inr (22, 0))), some (.inl v1), some (.inl v2), some (.inl v3), some (.inl v4), some (.inl 0), some (.inl 0)]) (st2 := []) (m2 := m) (fun n => rfl) ?_
      refine ax_fg (lv2 := [some (.inr (.inr (22, 0))), some (.inl v1), some (.inl v2), some (.inl v3), some (.inl v4), some (.inl 0), some (.inl 0)]) ⟨rfl, rfl, rfl, rfl, rfl, rfl, rfl, trivial⟩ ?_
      refine R_X11_tellsAll_L9 ?_ _ 0 0 _ h
      · intro y27 q h
        have s29 : ∀ n, ax_ex (e + 7) L_X11_tellsAll 27 [some (.inr (.inr (22, 0))), some (.inl v1), some (.inl v2), some (.inl v3), some (.inl v4), some (.inl y27), none] [] m (n + 2) = if y27 = 0 then ax_ex (e + 7) L_X11_tellsAll 29 [some (.inr (.inr (22, 0))), some (.inl v1), some (.inl v2), some (.inl v3), some (.inl v4), some (.inl y27), none] [] m n else ax_ex (e + 7) L_X11_tellsAll 31 [some (.inr (.inr (22, 0))), some (.inl v1), some (.inl v2), some (.inl v3), some (.inl v4), some (.inl y27), none] [] m n := fun n => rfl
        by_cases c28 : y27 = 0
        · rw [if_pos c28] at h
          refine ax_gt c28 s29 ?_
          obtain rfl := Option.some.inj h
          exact ax_rq (c := (0 : Int32) = 0 ∨ (0 : Int32) = 1) (j := 2) (by decide) (fun n => rfl)
        · rw [if_neg c28] at h
          refine ax_gf c28 s29 ?_
          refine ax_go (j := 2) (k2 := 2) (lv2 := [some (.inr (.inr (22, 0))), some (.inl v1), some (.inl v2), some (.inl v3), some (.inl (v4 + 1)), some (.inl y27), none]) (st2 := []) (m2 := m) (fun n => rfl) ?_
          exact ax_fg (lv2 := [some (.inr (.inr (22, 0))), some (.inl v1), some (.inl v2), some (.inl v3), some (.inl (v4 + 1)), none, none]) ⟨rfl, rfl, rfl, rfl, rfl, trivial⟩ (ih (v4 + 1) _ h)
def F_X11_tellsAll (m : ax_M) (v1 : Int32) (v2 : Int32) (v3 : Int32) : Option Int32 := F_X11_tellsAll_L2 ax_FU m v1 v2 v3 0
set_option maxRecDepth 20000 in
set_option maxHeartbeats 4000000 in
theorem R_X11_tellsAll {d : Nat} (hd : 7 ≤ d) {m : ax_M} {v1 : Int32} {v2 : Int32} {v3 : Int32} {q : Int32} (h : F_X11_tellsAll m v1 v2 v3 = some q) : ax_Ru d L_X11_tellsAll 0 (ax_entry [.inr (.inr (22, 0)), .inl v1, .inl v2, .inl v3] 7) [] m (some (.inl q), m) := by
  obtain ⟨e, rfl⟩ : ∃ e, d = e + 7 := ⟨d - 7, by omega⟩
  unfold F_X11_tellsAll at h
  refine ax_go (j := 2) (k2 := 2) (lv2 := [some (.inr (.inr (22, 0))), some (.inl v1), some (.inl v2), some (.inl v3), some (.inl 0), none, none]) (st2 := []) (m2 := m) (fun n => rfl) ?_
  refine ax_fg (lv2 := [some (.inr (.inr (22, 0))), some (.inl v1), some (.inl v2), some (.inl v3), some (.inl 0), none, none]) ⟨rfl, rfl, rfl, rfl, rfl, trivial⟩ ?_
  refine R_X11_tellsAll_L2 _ 0 _ h
def F_X11_fewest_L122 : Nat → (ax_M → Option (Int32 × ax_M)) → ax_M → Int32 → Int32 → Option (Int32 × ax_M)
  | 0, _, _, _, _ => none
  | n + 1, K145, m, v1, v2 => if ax_ok 2 3 = true then (if 64 ≤ (m.1 39 0 (2 : Int32).toNatClampNeg) then (K145 m) else (ax_b (F_X11_tellsAll m v1 v2 3) (fun r51 => if r51 = 0 then (if ax_ok 2 3 = true then (if ax_ok 2 3 = true then (F_X11_fewest_L122 n K145 (ax_ui m 39 0 (2 : Int32).toNatClampNeg ((m.1 39 0 (2 : Int32).toNatClampNeg) + 1)) v1 v2) else (none)) else (none)) else (some (3, m))))) else (none)
set_option maxRecDepth 20000 in
set_option maxHeartbeats 4000000 in
theorem R_X11_fewest_L122 {e : Nat} {v1 : Int32} {v2 : Int32} {K145 : ax_M → Option (Int32 × ax_M)} (hK145 : ∀ (my : ax_M) (q : (Int32 × ax_M)), K145 my = some q → ax_Ru (e + 8) L_X11_fewest 145 [some (.inr (.inr (22, 0))), some (.inl v1), some (.inl v2)] [] my (some (.inl q.1), q.2)) : ∀ (n : Nat) (m : ax_M) (q : (Int32 × ax_M)), F_X11_fewest_L122 n K145 m v1 v2 = some q → ax_Ru (e + 8) L_X11_fewest 122 [some (.inr (.inr (22, 0))), some (.inl v1), some (.inl v2)] [] m (some (.inl q.1), q.2) := by
  intro n
  induction n with
  | zero =>
    intro m q h
    cases h
  | succ n ih =>
    intro m q h
    rw [F_X11_fewest_L122] at h
    have s47 : ∀ n, ax_ex (e + 8) L_X11_fewest 122 [some (.inr (.inr (22, 0))), some (.inl v1), some (.inl v2)] [] m (n + 4) = if ax_ok 2 3 = true then ax_ex (e + 8) L_X11_fewest 126 [some (.inr (.inr (22, 0))), some (.inl v1), some (.inl v2)] [.inl (m.1 39 0 (2 : Int32).toNatClampNeg)] m n else none := fun n => rfl
    by_cases c46 : ax_ok 2 3 = true
    · rw [if_pos c46] at h
      refine ax_gt c46 s47 ?_
      have s49 : ∀ n, ax_ex (e + 8) L_X11_fewest 126 [some (.inr (.inr (22, 0))), some (.inl v1), some (.inl v2)] [.inl (m.1 39 0 (2 : Int32).toNatClampNeg)] m (n + 2) = if 64 ≤ (m.1 39 0 (2 : Int32).toNatClampNeg) then ax_ex (e + 8) L_X11_fewest 145 [some (.inr (.inr (22, 0))), some (.inl v1), some (.inl v2)] [] m n else ax_ex (e + 8) L_X11_fewest 128 [some (.inr (.inr (22, 0))), some (.inl v1), some (.inl v2)] [] m n := fun n => rfl
      by_cases c48 : 64 ≤ (m.1 39 0 (2 : Int32).toNatClampNeg)
      · rw [if_pos c48] at h
        refine ax_gt c48 s49 ?_
        exact ax_fg (lv2 := [some (.inr (.inr (22, 0))), some (.inl v1), some (.inl v2)]) ⟨rfl, rfl, rfl, trivial⟩ (hK145 m _ h)
      · rw [if_neg c48] at h
        refine ax_gf c48 s49 ?_
        obtain ⟨r51, q50, h⟩ := ax_b_of h
        have s58 : ∀ n, ax_ex (e + 8) L_X11_fewest 128 [some (.inr (.inr (22, 0))), some (.inl v1), some (.inl v2)] [] m (n + 5) = ax_aft (fun s m2 => ax_ex (e + 8) L_X11_fewest 133 [some (.inr (.inr (22, 0))), some (.inl v1), some (.inl v2)] s m2 n) [] (ax_ex (e + 7) L_X11_tellsAll 0 (ax_entry [.inr (.inr (22, 0)), .inl v1, .inl v2, .inl 3] 7) [] m n) := fun n => rfl
        refine ax_gci (j := 5) (k2 := 133) (lv2 := [some (.inr (.inr (22, 0))), some (.inl v1), some (.inl v2)]) (rest := []) ((R_X11_tellsAll (by omega) q50)) s58 ?_
        have s53 : ∀ n, ax_ex (e + 8) L_X11_fewest 133 [some (.inr (.inr (22, 0))), some (.inl v1), some (.inl v2)] [.inl r51] m (n + 1) = if r51 = 0 then ax_ex (e + 8) L_X11_fewest 136 [some (.inr (.inr (22, 0))), some (.inl v1), some (.inl v2)] [] m n else ax_ex (e + 8) L_X11_fewest 134 [some (.inr (.inr (22, 0))), some (.inl v1), some (.inl v2)] [] m n := fun n => rfl
        by_cases c52 : r51 = 0
        · rw [if_pos c52] at h
          refine ax_gt c52 s53 ?_
          have s55 : ∀ n, ax_ex (e + 8) L_X11_fewest 136 [some (.inr (.inr (22, 0))), some (.inl v1), some (.inl v2)] [] m (n + 5) = if ax_ok 2 3 = true then ax_ex (e + 8) L_X11_fewest 141 [some (.inr (.inr (22, 0))), some (.inl v1), some (.inl v2)] [.inl (m.1 39 0 (2 : Int32).toNatClampNeg), .inl 2, .inr (.inr (39, 0))] m n else none := fun n => rfl
          by_cases c54 : ax_ok 2 3 = true
          · rw [if_pos c54] at h
            refine ax_gt c54 s55 ?_
            have s57 : ∀ n, ax_ex (e + 8) L_X11_fewest 141 [some (.inr (.inr (22, 0))), some (.inl v1), some (.inl v2)] [.inl (m.1 39 0 (2 : Int32).toNatClampNeg), .inl 2, .inr (.inr (39, 0))] m (n + 3) = if ax_ok 2 3 = true then ax_ex (e + 8) L_X11_fewest 144 [some (.inr (.inr (22, 0))), some (.inl v1), some (.inl v2)] [] (ax_ui m 39 0 (2 : Int32).toNatClampNeg ((m.1 39 0 (2 : Int32).toNatClampNeg) + 1)) n else none := fun n => rfl
            by_cases c56 : ax_ok 2 3 = true
            · rw [if_pos c56] at h
              refine ax_gt c56 s57 ?_
              refine ax_go (j := 1) (k2 := 122) (lv2 := [some (.inr (.inr (22, 0))), some (.inl v1), some (.inl v2)]) (st2 := []) (m2 := (ax_ui m 39 0 (2 : Int32).toNatClampNeg ((m.1 39 0 (2 : Int32).toNatClampNeg) + 1))) (fun n => rfl) ?_
              exact ax_fg (lv2 := [some (.inr (.inr (22, 0))), some (.inl v1), some (.inl v2)]) ⟨rfl, rfl, rfl, trivial⟩ (ih (ax_ui m 39 0 (2 : Int32).toNatClampNeg ((m.1 39 0 (2 : Int32).toNatClampNeg) + 1)) _ h)
            · rw [if_neg c56] at h
              cases h
          · rw [if_neg c54] at h
            cases h
        · rw [if_neg c52] at h
          refine ax_gf c52 s53 ?_
          obtain rfl := Option.some.inj h
          exact ax_rs 2 (fun n => rfl)
    · rw [if_neg c46] at h
      cases h
def F_X11_fewest_L106 : Nat → (ax_M → Option (Int32 × ax_M)) → ax_M → Int32 → Int32 → Option (Int32 × ax_M)
  | 0, _, _, _, _ => none
  | n + 1, K154, m, v1, v2 => if ax_ok 1 3 = true then (if 64 ≤ (m.1 39 0 (1 : Int32).toNatClampNeg) then (K154 m) else (if ax_ok 1 3 = true then (if ax_ok 2 3 = true then (F_X11_fewest_L122 ax_FU (fun m73 => if ax_ok 1 3 = true then (if ax_ok 1 3 = true then (F_X11_fewest_L106 n K154 (ax_ui m73 39 0 (1 : Int32).toNatClampNeg ((m73.1 39 0 (1 : Int32).toNatClampNeg) + 1)) v1 v2) else (none)) else (none)) (ax_ui m 39 0 (2 : Int32).toNatClampNeg ((m.1 39 0 (1 : Int32).toNatClampNeg) + 1)) v1 v2) else (none)) else (none))) else (none)
set_option maxRecDepth 20000 in
set_option maxHeartbeats 4000000 in
theorem R_X11_fewest_L106 {e : Nat} {v1 : Int32} {v2 : Int32} {K154 : ax_M → Option (Int32 × ax_M)} (hK154 : ∀ (my : ax_M) (q : (Int32 × ax_M)), K154 my = some q → ax_Ru (e + 8) L_X11_fewest 154 [some (.inr (.inr (22, 0))), some (.inl v1), some (.inl v2)] [] my (some (.inl q.1), q.2)) : ∀ (n : Nat) (m : ax_M) (q : (Int32 × ax_M)), F_X11_fewest_L106 n K154 m v1 v2 = some q → ax_Ru (e + 8) L_X11_fewest 106 [some (.inr (.inr (22, 0))), some (.inl v1), some (.inl v2)] [] m (some (.inl q.1), q.2) := by
  intro n
  induction n with
  | zero =>
    intro m q h
    cases h
  | succ n ih =>
    intro m q h
    rw [F_X11_fewest_L106] at h
    have s66 : ∀ n, ax_ex (e + 8) L_X11_fewest 106 [some (.inr (.inr (22, 0))), some (.inl v1), some (.inl v2)] [] m (n + 4) = if ax_ok 1 3 = true then ax_ex (e + 8) L_X11_fewest 110 [some (.inr (.inr (22, 0))), some (.inl v1), some (.inl v2)] [.inl (m.1 39 0 (1 : Int32).toNatClampNeg)] m n else none := fun n => rfl
    by_cases c65 : ax_ok 1 3 = true
    · rw [if_pos c65] at h
      refine ax_gt c65 s66 ?_
      have s68 : ∀ n, ax_ex (e + 8) L_X11_fewest 110 [some (.inr (.inr (22, 0))), some (.inl v1), some (.inl v2)] [.inl (m.1 39 0 (1 : Int32).toNatClampNeg)] m (n + 2) = if 64 ≤ (m.1 39 0 (1 : Int32).toNatClampNeg) then ax_ex (e + 8) L_X11_fewest 154 [some (.inr (.inr (22, 0))), some (.inl v1), some (.inl v2)] [] m n else ax_ex (e + 8) L_X11_fewest 112 [some (.inr (.inr (22, 0))), some (.inl v1), some (.inl v2)] [] m n := fun n => rfl
      by_cases c67 : 64 ≤ (m.1 39 0 (1 : Int32).toNatClampNeg)
      · rw [if_pos c67] at h
        refine ax_gt c67 s68 ?_
        exact ax_fg (lv2 := [some (.inr (.inr (22, 0))), some (.inl v1), some (.inl v2)]) ⟨rfl, rfl, rfl, trivial⟩ (hK154 m _ h)
      · rw [if_neg c67] at h
        refine ax_gf c67 s68 ?_
        have s70 : ∀ n, ax_ex (e + 8) L_X11_fewest 112 [some (.inr (.inr (22, 0))), some (.inl v1), some (.inl v2)] [] m (n + 7) = if ax_ok 1 3 = true then ax_ex (e + 8) L_X11_fewest 119 [some (.inr (.inr (22, 0))), some (.inl v1), some (.inl v2)] [.inl (m.1 39 0 (1 : Int32).toNatClampNeg), .inl 2, .inr (.inr (39, 0))] m n else none := fun n => rfl
        by_cases c69 : ax_ok 1 3 = true
        · rw [if_pos c69] at h
          refine ax_gt c69 s70 ?_
          have s72 : ∀ n, ax_ex (e + 8) L_X11_fewest 119 [some (.inr (.inr (22, 0))), some (.inl v1), some (.inl v2)] [.inl (m.1 39 0 (1 : Int32).toNatClampNeg), .inl 2, .inr (.inr (39, 0))] m (n + 3) = if ax_ok 2 3 = true then ax_ex (e + 8) L_X11_fewest 122 [some (.inr (.inr (22, 0))), some (.inl v1), some (.inl v2)] [] (ax_ui m 39 0 (2 : Int32).toNatClampNeg ((m.1 39 0 (1 : Int32).toNatClampNeg) + 1)) n else none := fun n => rfl
          by_cases c71 : ax_ok 2 3 = true
          · rw [if_pos c71] at h
            refine ax_gt c71 s72 ?_
            refine ax_fg (lv2 := [some (.inr (.inr (22, 0))), some (.inl v1), some (.inl v2)]) ⟨rfl, rfl, rfl, trivial⟩ ?_
            refine R_X11_fewest_L122 ?_ _ (ax_ui m 39 0 (2 : Int32).toNatClampNeg ((m.1 39 0 (1 : Int32).toNatClampNeg) + 1)) _ h
            · intro m73 q h
              have s75 : ∀ n, ax_ex (e + 8) L_X11_fewest 145 [some (.inr (.inr (22, 0))), some (.inl v1), some (.inl v2)] [] m73 (n + 5) = if ax_ok 1 3 = true then ax_ex (e + 8) L_X11_fewest 150 [some (.inr (.inr (22, 0))), some (.inl v1), some (.inl v2)] [.inl (m73.1 39 0 (1 : Int32).toNatClampNeg), .inl 1, .inr (.inr (39, 0))] m73 n else none := fun n => rfl
              by_cases c74 : ax_ok 1 3 = true
              · rw [if_pos c74] at h
                refine ax_gt c74 s75 ?_
                have s77 : ∀ n, ax_ex (e + 8) L_X11_fewest 150 [some (.inr (.inr (22, 0))), some (.inl v1), some (.inl v2)] [.inl (m73.1 39 0 (1 : Int32).toNatClampNeg), .inl 1, .inr (.inr (39, 0))] m73 (n + 3) = if ax_ok 1 3 = true then ax_ex (e + 8) L_X11_fewest 153 [some (.inr (.inr (22, 0))), some (.inl v1), some (.inl v2)] [] (ax_ui m73 39 0 (1 : Int32).toNatClampNeg ((m73.1 39 0 (1 : Int32).toNatClampNeg) + 1)) n else none := fun n => rfl
                by_cases c76 : ax_ok 1 3 = true
                · rw [if_pos c76] at h
                  refine ax_gt c76 s77 ?_
                  refine ax_go (j := 1) (k2 := 106) (lv2 := [some (.inr (.inr (22, 0))), some (.inl v1), some (.inl v2)]) (st2 := []) (m2 := (ax_ui m73 39 0 (1 : Int32).toNatClampNeg ((m73.1 39 0 (1 : Int32).toNatClampNeg) + 1))) (fun n => rfl) ?_
                  exact ax_fg (lv2 := [some (.inr (.inr (22, 0))), some (.inl v1), some (.inl v2)]) ⟨rfl, rfl, rfl, trivial⟩ (ih (ax_ui m73 39 0 (1 : Int32).toNatClampNeg ((m73.1 39 0 (1 : Int32).toNatClampNeg) + 1)) _ h)
                · rw [if_neg c76] at h
                  cases h
              · rw [if_neg c74] at h
                cases h
          · rw [if_neg c71] at h
            cases h
        · rw [if_neg c69] at h
          cases h
    · rw [if_neg c65] at h
      cases h
def F_X11_fewest_L90 : Nat → ax_M → Int32 → Int32 → Option (Int32 × ax_M)
  | 0, _, _, _ => none
  | n + 1, m, v1, v2 => if ax_ok 0 3 = true then (if 64 ≤ (m.1 39 0 (0 : Int32).toNatClampNeg) then (some ((-1), m)) else (if ax_ok 0 3 = true then (if ax_ok 1 3 = true then (F_X11_fewest_L106 ax_FU (fun m79 => if ax_ok 0 3 = true then (if ax_ok 0 3 = true then (F_X11_fewest_L90 n (ax_ui m79 39 0 (0 : Int32).toNatClampNeg ((m79.1 39 0 (0 : Int32).toNatClampNeg) + 1)) v1 v2) else (none)) else (none)) (ax_ui m 39 0 (1 : Int32).toNatClampNeg ((m.1 39 0 (0 : Int32).toNatClampNeg) + 1)) v1 v2) else (none)) else (none))) else (none)
set_option maxRecDepth 20000 in
set_option maxHeartbeats 4000000 in
theorem R_X11_fewest_L90 {e : Nat} {v1 : Int32} {v2 : Int32} : ∀ (n : Nat) (m : ax_M) (q : (Int32 × ax_M)), F_X11_fewest_L90 n m v1 v2 = some q → ax_Ru (e + 8) L_X11_fewest 90 [some (.inr (.inr (22, 0))), some (.inl v1), some (.inl v2)] [] m (some (.inl q.1), q.2) := by
  intro n
  induction n with
  | zero =>
    intro m q h
    cases h
  | succ n ih =>
    intro m q h
    rw [F_X11_fewest_L90] at h
    have s18 : ∀ n, ax_ex (e + 8) L_X11_fewest 90 [some (.inr (.inr (22, 0))), some (.inl v1), some (.inl v2)] [] m (n + 4) = if ax_ok 0 3 = true then ax_ex (e + 8) L_X11_fewest 94 [some (.inr (.inr (22, 0))), some (.inl v1), some (.inl v2)] [.inl (m.1 39 0 (0 : Int32).toNatClampNeg)] m n else none := fun n => rfl
    by_cases c17 : ax_ok 0 3 = true
    · rw [if_pos c17] at h
      refine ax_gt c17 s18 ?_
      have s20 : ∀ n, ax_ex (e + 8) L_X11_fewest 94 [some (.inr (.inr (22, 0))), some (.inl v1), some (.inl v2)] [.inl (m.1 39 0 (0 : Int32).toNatClampNeg)] m (n + 2) = if 64 ≤ (m.1 39 0 (0 : Int32).toNatClampNeg) then ax_ex (e + 8) L_X11_fewest 163 [some (.inr (.inr (22, 0))), some (.inl v1), some (.inl v2)] [] m n else ax_ex (e + 8) L_X11_fewest 96 [some (.inr (.inr (22, 0))), some (.inl v1), some (.inl v2)] [] m n := fun n => rfl
      by_cases c19 : 64 ≤ (m.1 39 0 (0 : Int32).toNatClampNeg)
      · rw [if_pos c19] at h
        refine ax_gt c19 s20 ?_
        obtain rfl := Option.some.inj h
        exact ax_rs 2 (fun n => rfl)
      · rw [if_neg c19] at h
        refine ax_gf c19 s20 ?_
        have s22 : ∀ n, ax_ex (e + 8) L_X11_fewest 96 [some (.inr (.inr (22, 0))), some (.inl v1), some (.inl v2)] [] m (n + 7) = if ax_ok 0 3 = true then ax_ex (e + 8) L_X11_fewest 103 [some (.inr (.inr (22, 0))), some (.inl v1), some (.inl v2)] [.inl (m.1 39 0 (0 : Int32).toNatClampNeg), .inl 1, .inr (.inr (39, 0))] m n else none := fun n => rfl
        by_cases c21 : ax_ok 0 3 = true
        · rw [if_pos c21] at h
          refine ax_gt c21 s22 ?_
          have s24 : ∀ n, ax_ex (e + 8) L_X11_fewest 103 [some (.inr (.inr (22, 0))), some (.inl v1), some (.inl v2)] [.inl (m.1 39 0 (0 : Int32).toNatClampNeg), .inl 1, .inr (.inr (39, 0))] m (n + 3) = if ax_ok 1 3 = true then ax_ex (e + 8) L_X11_fewest 106 [some (.inr (.inr (22, 0))), some (.inl v1), some (.inl v2)] [] (ax_ui m 39 0 (1 : Int32).toNatClampNeg ((m.1 39 0 (0 : Int32).toNatClampNeg) + 1)) n else none := fun n => rfl
          by_cases c23 : ax_ok 1 3 = true
          · rw [if_pos c23] at h
            refine ax_gt c23 s24 ?_
            refine ax_fg (lv2 := [some (.inr (.inr (22, 0))), some (.inl v1), some (.inl v2)]) ⟨rfl, rfl, rfl, trivial⟩ ?_
            refine R_X11_fewest_L106 ?_ _ (ax_ui m 39 0 (1 : Int32).toNatClampNeg ((m.1 39 0 (0 : Int32).toNatClampNeg) + 1)) _ h
            · intro m79 q h
              have s81 : ∀ n, ax_ex (e + 8) L_X11_fewest 154 [some (.inr (.inr (22, 0))), some (.inl v1), some (.inl v2)] [] m79 (n + 5) = if ax_ok 0 3 = true then ax_ex (e + 8) L_X11_fewest 159 [some (.inr (.inr (22, 0))), some (.inl v1), some (.inl v2)] [.inl (m79.1 39 0 (0 : Int32).toNatClampNeg), .inl 0, .inr (.inr (39, 0))] m79 n else none := fun n => rfl
              by_cases c80 : ax_ok 0 3 = true
              · rw [if_pos c80] at h
                refine ax_gt c80 s81 ?_
                have s83 : ∀ n, ax_ex (e + 8) L_X11_fewest 159 [some (.inr (.inr (22, 0))), some (.inl v1), some (.inl v2)] [.inl (m79.1 39 0 (0 : Int32).toNatClampNeg), .inl 0, .inr (.inr (39, 0))] m79 (n + 3) = if ax_ok 0 3 = true then ax_ex (e + 8) L_X11_fewest 162 [some (.inr (.inr (22, 0))), some (.inl v1), some (.inl v2)] [] (ax_ui m79 39 0 (0 : Int32).toNatClampNeg ((m79.1 39 0 (0 : Int32).toNatClampNeg) + 1)) n else none := fun n => rfl
                by_cases c82 : ax_ok 0 3 = true
                · rw [if_pos c82] at h
                  refine ax_gt c82 s83 ?_
                  refine ax_go (j := 1) (k2 := 90) (lv2 := [some (.inr (.inr (22, 0))), some (.inl v1), some (.inl v2)]) (st2 := []) (m2 := (ax_ui m79 39 0 (0 : Int32).toNatClampNeg ((m79.1 39 0 (0 : Int32).toNatClampNeg) + 1))) (fun n => rfl) ?_
                  exact ax_fg (lv2 := [some (.inr (.inr (22, 0))), some (.inl v1), some (.inl v2)]) ⟨rfl, rfl, rfl, trivial⟩ (ih (ax_ui m79 39 0 (0 : Int32).toNatClampNeg ((m79.1 39 0 (0 : Int32).toNatClampNeg) + 1)) _ h)
                · rw [if_neg c82] at h
                  cases h
              · rw [if_neg c80] at h
                cases h
          · rw [if_neg c23] at h
            cases h
        · rw [if_neg c21] at h
          cases h
    · rw [if_neg c17] at h
      cases h
def F_X11_fewest_L53 : Nat → (ax_M → Option (Int32 × ax_M)) → ax_M → Int32 → Int32 → Option (Int32 × ax_M)
  | 0, _, _, _, _ => none
  | n + 1, K76, m, v1, v2 => if ax_ok 1 3 = true then (if 64 ≤ (m.1 39 0 (1 : Int32).toNatClampNeg) then (K76 m) else (ax_b (F_X11_tellsAll m v1 v2 2) (fun r108 => if r108 = 0 then (if ax_ok 1 3 = true then (if ax_ok 1 3 = true then (F_X11_fewest_L53 n K76 (ax_ui m 39 0 (1 : Int32).toNatClampNeg ((m.1 39 0 (1 : Int32).toNatClampNeg) + 1)) v1 v2) else (none)) else (none)) else (some (2, m))))) else (none)
set_option maxRecDepth 20000 in
set_option maxHeartbeats 4000000 in
theorem R_X11_fewest_L53 {e : Nat} {v1 : Int32} {v2 : Int32} {K76 : ax_M → Option (Int32 × ax_M)} (hK76 : ∀ (my : ax_M) (q : (Int32 × ax_M)), K76 my = some q → ax_Ru (e + 8) L_X11_fewest 76 [some (.inr (.inr (22, 0))), some (.inl v1), some (.inl v2)] [] my (some (.inl q.1), q.2)) : ∀ (n : Nat) (m : ax_M) (q : (Int32 × ax_M)), F_X11_fewest_L53 n K76 m v1 v2 = some q → ax_Ru (e + 8) L_X11_fewest 53 [some (.inr (.inr (22, 0))), some (.inl v1), some (.inl v2)] [] m (some (.inl q.1), q.2) := by
  intro n
  induction n with
  | zero =>
    intro m q h
    cases h
  | succ n ih =>
    intro m q h
    rw [F_X11_fewest_L53] at h
    have s104 : ∀ n, ax_ex (e + 8) L_X11_fewest 53 [some (.inr (.inr (22, 0))), some (.inl v1), some (.inl v2)] [] m (n + 4) = if ax_ok 1 3 = true then ax_ex (e + 8) L_X11_fewest 57 [some (.inr (.inr (22, 0))), some (.inl v1), some (.inl v2)] [.inl (m.1 39 0 (1 : Int32).toNatClampNeg)] m n else none := fun n => rfl
    by_cases c103 : ax_ok 1 3 = true
    · rw [if_pos c103] at h
      refine ax_gt c103 s104 ?_
      have s106 : ∀ n, ax_ex (e + 8) L_X11_fewest 57 [some (.inr (.inr (22, 0))), some (.inl v1), some (.inl v2)] [.inl (m.1 39 0 (1 : Int32).toNatClampNeg)] m (n + 2) = if 64 ≤ (m.1 39 0 (1 : Int32).toNatClampNeg) then ax_ex (e + 8) L_X11_fewest 76 [some (.inr (.inr (22, 0))), some (.inl v1), some (.inl v2)] [] m n else ax_ex (e + 8) L_X11_fewest 59 [some (.inr (.inr (22, 0))), some (.inl v1), some (.inl v2)] [] m n := fun n => rfl
      by_cases c105 : 64 ≤ (m.1 39 0 (1 : Int32).toNatClampNeg)
      · rw [if_pos c105] at h
        refine ax_gt c105 s106 ?_
        exact ax_fg (lv2 := [some (.inr (.inr (22, 0))), some (.inl v1), some (.inl v2)]) ⟨rfl, rfl, rfl, trivial⟩ (hK76 m _ h)
      · rw [if_neg c105] at h
        refine ax_gf c105 s106 ?_
        obtain ⟨r108, q107, h⟩ := ax_b_of h
        have s115 : ∀ n, ax_ex (e + 8) L_X11_fewest 59 [some (.inr (.inr (22, 0))), some (.inl v1), some (.inl v2)] [] m (n + 5) = ax_aft (fun s m2 => ax_ex (e + 8) L_X11_fewest 64 [some (.inr (.inr (22, 0))), some (.inl v1), some (.inl v2)] s m2 n) [] (ax_ex (e + 7) L_X11_tellsAll 0 (ax_entry [.inr (.inr (22, 0)), .inl v1, .inl v2, .inl 2] 7) [] m n) := fun n => rfl
        refine ax_gci (j := 5) (k2 := 64) (lv2 := [some (.inr (.inr (22, 0))), some (.inl v1), some (.inl v2)]) (rest := []) ((R_X11_tellsAll (by omega) q107)) s115 ?_
        have s110 : ∀ n, ax_ex (e + 8) L_X11_fewest 64 [some (.inr (.inr (22, 0))), some (.inl v1), some (.inl v2)] [.inl r108] m (n + 1) = if r108 = 0 then ax_ex (e + 8) L_X11_fewest 67 [some (.inr (.inr (22, 0))), some (.inl v1), some (.inl v2)] [] m n else ax_ex (e + 8) L_X11_fewest 65 [some (.inr (.inr (22, 0))), some (.inl v1), some (.inl v2)] [] m n := fun n => rfl
        by_cases c109 : r108 = 0
        · rw [if_pos c109] at h
          refine ax_gt c109 s110 ?_
          have s112 : ∀ n, ax_ex (e + 8) L_X11_fewest 67 [some (.inr (.inr (22, 0))), some (.inl v1), some (.inl v2)] [] m (n + 5) = if ax_ok 1 3 = true then ax_ex (e + 8) L_X11_fewest 72 [some (.inr (.inr (22, 0))), some (.inl v1), some (.inl v2)] [.inl (m.1 39 0 (1 : Int32).toNatClampNeg), .inl 1, .inr (.inr (39, 0))] m n else none := fun n => rfl
          by_cases c111 : ax_ok 1 3 = true
          · rw [if_pos c111] at h
            refine ax_gt c111 s112 ?_
            have s114 : ∀ n, ax_ex (e + 8) L_X11_fewest 72 [some (.inr (.inr (22, 0))), some (.inl v1), some (.inl v2)] [.inl (m.1 39 0 (1 : Int32).toNatClampNeg), .inl 1, .inr (.inr (39, 0))] m (n + 3) = if ax_ok 1 3 = true then ax_ex (e + 8) L_X11_fewest 75 [some (.inr (.inr (22, 0))), some (.inl v1), some (.inl v2)] [] (ax_ui m 39 0 (1 : Int32).toNatClampNeg ((m.1 39 0 (1 : Int32).toNatClampNeg) + 1)) n else none := fun n => rfl
            by_cases c113 : ax_ok 1 3 = true
            · rw [if_pos c113] at h
              refine ax_gt c113 s114 ?_
              refine ax_go (j := 1) (k2 := 53) (lv2 := [some (.inr (.inr (22, 0))), some (.inl v1), some (.inl v2)]) (st2 := []) (m2 := (ax_ui m 39 0 (1 : Int32).toNatClampNeg ((m.1 39 0 (1 : Int32).toNatClampNeg) + 1))) (fun n => rfl) ?_
              exact ax_fg (lv2 := [some (.inr (.inr (22, 0))), some (.inl v1), some (.inl v2)]) ⟨rfl, rfl, rfl, trivial⟩ (ih (ax_ui m 39 0 (1 : Int32).toNatClampNeg ((m.1 39 0 (1 : Int32).toNatClampNeg) + 1)) _ h)
            · rw [if_neg c113] at h
              cases h
          · rw [if_neg c111] at h
            cases h
        · rw [if_neg c109] at h
          refine ax_gf c109 s110 ?_
          obtain rfl := Option.some.inj h
          exact ax_rs 2 (fun n => rfl)
    · rw [if_neg c103] at h
      cases h
def F_X11_fewest_L37 : Nat → ax_M → Int32 → Int32 → Option (Int32 × ax_M)
  | 0, _, _, _ => none
  | n + 1, m, v1, v2 => if ax_ok 0 3 = true then (if 64 ≤ (m.1 39 0 (0 : Int32).toNatClampNeg) then (if ax_ok 0 3 = true then (F_X11_fewest_L90 ax_FU (ax_ui m 39 0 (0 : Int32).toNatClampNeg 0) v1 v2) else (none)) else (if ax_ok 0 3 = true then (if ax_ok 1 3 = true then (F_X11_fewest_L53 ax_FU (fun m116 => if ax_ok 0 3 = true then (if ax_ok 0 3 = true then (F_X11_fewest_L37 n (ax_ui m116 39 0 (0 : Int32).toNatClampNeg ((m116.1 39 0 (0 : Int32).toNatClampNeg) + 1)) v1 v2) else (none)) else (none)) (ax_ui m 39 0 (1 : Int32).toNatClampNeg ((m.1 39 0 (0 : Int32).toNatClampNeg) + 1)) v1 v2) else (none)) else (none))) else (none)
set_option maxRecDepth 20000 in
set_option maxHeartbeats 4000000 in
theorem R_X11_fewest_L37 {e : Nat} {v1 : Int32} {v2 : Int32} : ∀ (n : Nat) (m : ax_M) (q : (Int32 × ax_M)), F_X11_fewest_L37 n m v1 v2 = some q → ax_Ru (e + 8) L_X11_fewest 37 [some (.inr (.inr (22, 0))), some (.inl v1), some (.inl v2)] [] m (some (.inl q.1), q.2) := by
  intro n
  induction n with
  | zero =>
    intro m q h
    cases h
  | succ n ih =>
    intro m q h
    rw [F_X11_fewest_L37] at h
    have s12 : ∀ n, ax_ex (e + 8) L_X11_fewest 37 [some (.inr (.inr (22, 0))), some (.inl v1), some (.inl v2)] [] m (n + 4) = if ax_ok 0 3 = true then ax_ex (e + 8) L_X11_fewest 41 [some (.inr (.inr (22, 0))), some (.inl v1), some (.inl v2)] [.inl (m.1 39 0 (0 : Int32).toNatClampNeg)] m n else none := fun n => rfl
    by_cases c11 : ax_ok 0 3 = true
    · rw [if_pos c11] at h
      refine ax_gt c11 s12 ?_
      have s14 : ∀ n, ax_ex (e + 8) L_X11_fewest 41 [some (.inr (.inr (22, 0))), some (.inl v1), some (.inl v2)] [.inl (m.1 39 0 (0 : Int32).toNatClampNeg)] m (n + 2) = if 64 ≤ (m.1 39 0 (0 : Int32).toNatClampNeg) then ax_ex (e + 8) L_X11_fewest 85 [some (.inr (.inr (22, 0))), some (.inl v1), some (.inl v2)] [] m n else ax_ex (e + 8) L_X11_fewest 43 [some (.inr (.inr (22, 0))), some (.inl v1), some (.inl v2)] [] m n := fun n => rfl
      by_cases c13 : 64 ≤ (m.1 39 0 (0 : Int32).toNatClampNeg)
      · rw [if_pos c13] at h
        refine ax_gt c13 s14 ?_
        have s16 : ∀ n, ax_ex (e + 8) L_X11_fewest 85 [some (.inr (.inr (22, 0))), some (.inl v1), some (.inl v2)] [] m (n + 5) = if ax_ok 0 3 = true then ax_ex (e + 8) L_X11_fewest 90 [some (.inr (.inr (22, 0))), some (.inl v1), some (.inl v2)] [] (ax_ui m 39 0 (0 : Int32).toNatClampNeg 0) n else none := fun n => rfl
        by_cases c15 : ax_ok 0 3 = true
        · rw [if_pos c15] at h
          refine ax_gt c15 s16 ?_
          refine ax_fg (lv2 := [some (.inr (.inr (22, 0))), some (.inl v1), some (.inl v2)]) ⟨rfl, rfl, rfl, trivial⟩ ?_
          refine R_X11_fewest_L90 _ (ax_ui m 39 0 (0 : Int32).toNatClampNeg 0) _ h
        · rw [if_neg c15] at h
          cases h
      · rw [if_neg c13] at h
        refine ax_gf c13 s14 ?_
        have s87 : ∀ n, ax_ex (e + 8) L_X11_fewest 43 [some (.inr (.inr (22, 0))), some (.inl v1), some (.inl v2)] [] m (n + 7) = if ax_ok 0 3 = true then ax_ex (e + 8) L_X11_fewest 50 [some (.inr (.inr (22, 0))), some (.inl v1), some (.inl v2)] [.inl (m.1 39 0 (0 : Int32).toNatClampNeg), .inl 1, .inr (.inr (39, 0))] m n else none := fun n => rfl
        by_cases c86 : ax_ok 0 3 = true
        · rw [if_pos c86] at h
          refine ax_gt c86 s87 ?_
          have s89 : ∀ n, ax_ex (e + 8) L_X11_fewest 50 [some (.inr (.inr (22, 0))), some (.inl v1), some (.inl v2)] [.inl (m.1 39 0 (0 : Int32).toNatClampNeg), .inl 1, .inr (.inr (39, 0))] m (n + 3) = if ax_ok 1 3 = true then ax_ex (e + 8) L_X11_fewest 53 [some (.inr (.inr (22, 0))), some (.inl v1), some (.inl v2)] [] (ax_ui m 39 0 (1 : Int32).toNatClampNeg ((m.1 39 0 (0 : Int32).toNatClampNeg) + 1)) n else none := fun n => rfl
          by_cases c88 : ax_ok 1 3 = true
          · rw [if_pos c88] at h
            refine ax_gt c88 s89 ?_
            refine ax_fg (lv2 := [some (.inr (.inr (22, 0))), some (.inl v1), some (.inl v2)]) ⟨rfl, rfl, rfl, trivial⟩ ?_
            refine R_X11_fewest_L53 ?_ _ (ax_ui m 39 0 (1 : Int32).toNatClampNeg ((m.1 39 0 (0 : Int32).toNatClampNeg) + 1)) _ h
            · intro m116 q h
              have s118 : ∀ n, ax_ex (e + 8) L_X11_fewest 76 [some (.inr (.inr (22, 0))), some (.inl v1), some (.inl v2)] [] m116 (n + 5) = if ax_ok 0 3 = true then ax_ex (e + 8) L_X11_fewest 81 [some (.inr (.inr (22, 0))), some (.inl v1), some (.inl v2)] [.inl (m116.1 39 0 (0 : Int32).toNatClampNeg), .inl 0, .inr (.inr (39, 0))] m116 n else none := fun n => rfl
              by_cases c117 : ax_ok 0 3 = true
              · rw [if_pos c117] at h
                refine ax_gt c117 s118 ?_
                have s120 : ∀ n, ax_ex (e + 8) L_X11_fewest 81 [some (.inr (.inr (22, 0))), some (.inl v1), some (.inl v2)] [.inl (m116.1 39 0 (0 : Int32).toNatClampNeg), .inl 0, .inr (.inr (39, 0))] m116 (n + 3) = if ax_ok 0 3 = true then ax_ex (e + 8) L_X11_fewest 84 [some (.inr (.inr (22, 0))), some (.inl v1), some (.inl v2)] [] (ax_ui m116 39 0 (0 : Int32).toNatClampNeg ((m116.1 39 0 (0 : Int32).toNatClampNeg) + 1)) n else none := fun n => rfl
                by_cases c119 : ax_ok 0 3 = true
                · rw [if_pos c119] at h
                  refine ax_gt c119 s120 ?_
                  refine ax_go (j := 1) (k2 := 37) (lv2 := [some (.inr (.inr (22, 0))), some (.inl v1), some (.inl v2)]) (st2 := []) (m2 := (ax_ui m116 39 0 (0 : Int32).toNatClampNeg ((m116.1 39 0 (0 : Int32).toNatClampNeg) + 1))) (fun n => rfl) ?_
                  exact ax_fg (lv2 := [some (.inr (.inr (22, 0))), some (.inl v1), some (.inl v2)]) ⟨rfl, rfl, rfl, trivial⟩ (ih (ax_ui m116 39 0 (0 : Int32).toNatClampNeg ((m116.1 39 0 (0 : Int32).toNatClampNeg) + 1)) _ h)
                · rw [if_neg c119] at h
                  cases h
              · rw [if_neg c117] at h
                cases h
          · rw [if_neg c88] at h
            cases h
        · rw [if_neg c86] at h
          cases h
    · rw [if_neg c11] at h
      cases h
def F_X11_fewest_L9 : Nat → ax_M → Int32 → Int32 → Option (Int32 × ax_M)
  | 0, _, _, _ => none
  | n + 1, m, v1, v2 => if ax_ok 0 3 = true then (if 64 ≤ (m.1 39 0 (0 : Int32).toNatClampNeg) then (if ax_ok 0 3 = true then (F_X11_fewest_L37 ax_FU (ax_ui m 39 0 (0 : Int32).toNatClampNeg 0) v1 v2) else (none)) else (ax_b (F_X11_tellsAll m v1 v2 1) (fun r124 => if r124 = 0 then (if ax_ok 0 3 = true then (if ax_ok 0 3 = true then (F_X11_fewest_L9 n (ax_ui m 39 0 (0 : Int32).toNatClampNeg ((m.1 39 0 (0 : Int32).toNatClampNeg) + 1)) v1 v2) else (none)) else (none)) else (some (1, m))))) else (none)
set_option maxRecDepth 20000 in
set_option maxHeartbeats 4000000 in
theorem R_X11_fewest_L9 {e : Nat} {v1 : Int32} {v2 : Int32} : ∀ (n : Nat) (m : ax_M) (q : (Int32 × ax_M)), F_X11_fewest_L9 n m v1 v2 = some q → ax_Ru (e + 8) L_X11_fewest 9 [some (.inr (.inr (22, 0))), some (.inl v1), some (.inl v2)] [] m (some (.inl q.1), q.2) := by
  intro n
  induction n with
  | zero =>
    intro m q h
    cases h
  | succ n ih =>
    intro m q h
    rw [F_X11_fewest_L9] at h
    have s6 : ∀ n, ax_ex (e + 8) L_X11_fewest 9 [some (.inr (.inr (22, 0))), some (.inl v1), some (.inl v2)] [] m (n + 4) = if ax_ok 0 3 = true then ax_ex (e + 8) L_X11_fewest 13 [some (.inr (.inr (22, 0))), some (.inl v1), some (.inl v2)] [.inl (m.1 39 0 (0 : Int32).toNatClampNeg)] m n else none := fun n => rfl
    by_cases c5 : ax_ok 0 3 = true
    · rw [if_pos c5] at h
      refine ax_gt c5 s6 ?_
      have s8 : ∀ n, ax_ex (e + 8) L_X11_fewest 13 [some (.inr (.inr (22, 0))), some (.inl v1), some (.inl v2)] [.inl (m.1 39 0 (0 : Int32).toNatClampNeg)] m (n + 2) = if 64 ≤ (m.1 39 0 (0 : Int32).toNatClampNeg) then ax_ex (e + 8) L_X11_fewest 32 [some (.inr (.inr (22, 0))), some (.inl v1), some (.inl v2)] [] m n else ax_ex (e + 8) L_X11_fewest 15 [some (.inr (.inr (22, 0))), some (.inl v1), some (.inl v2)] [] m n := fun n => rfl
      by_cases c7 : 64 ≤ (m.1 39 0 (0 : Int32).toNatClampNeg)
      · rw [if_pos c7] at h
        refine ax_gt c7 s8 ?_
        have s10 : ∀ n, ax_ex (e + 8) L_X11_fewest 32 [some (.inr (.inr (22, 0))), some (.inl v1), some (.inl v2)] [] m (n + 5) = if ax_ok 0 3 = true then ax_ex (e + 8) L_X11_fewest 37 [some (.inr (.inr (22, 0))), some (.inl v1), some (.inl v2)] [] (ax_ui m 39 0 (0 : Int32).toNatClampNeg 0) n else none := fun n => rfl
        by_cases c9 : ax_ok 0 3 = true
        · rw [if_pos c9] at h
          refine ax_gt c9 s10 ?_
          refine ax_fg (lv2 := [some (.inr (.inr (22, 0))), some (.inl v1), some (.inl v2)]) ⟨rfl, rfl, rfl, trivial⟩ ?_
          refine R_X11_fewest_L37 _ (ax_ui m 39 0 (0 : Int32).toNatClampNeg 0) _ h
        · rw [if_neg c9] at h
          cases h
      · rw [if_neg c7] at h
        refine ax_gf c7 s8 ?_
        obtain ⟨r124, q123, h⟩ := ax_b_of h
        have s131 : ∀ n, ax_ex (e + 8) L_X11_fewest 15 [some (.inr (.inr (22, 0))), some (.inl v1), some (.inl v2)] [] m (n + 5) = ax_aft (fun s m2 => ax_ex (e + 8) L_X11_fewest 20 [some (.inr (.inr (22, 0))), some (.inl v1), some (.inl v2)] s m2 n) [] (ax_ex (e + 7) L_X11_tellsAll 0 (ax_entry [.inr (.inr (22, 0)), .inl v1, .inl v2, .inl 1] 7) [] m n) := fun n => rfl
        refine ax_gci (j := 5) (k2 := 20) (lv2 := [some (.inr (.inr (22, 0))), some (.inl v1), some (.inl v2)]) (rest := []) ((R_X11_tellsAll (by omega) q123)) s131 ?_
        have s126 : ∀ n, ax_ex (e + 8) L_X11_fewest 20 [some (.inr (.inr (22, 0))), some (.inl v1), some (.inl v2)] [.inl r124] m (n + 1) = if r124 = 0 then ax_ex (e + 8) L_X11_fewest 23 [some (.inr (.inr (22, 0))), some (.inl v1), some (.inl v2)] [] m n else ax_ex (e + 8) L_X11_fewest 21 [some (.inr (.inr (22, 0))), some (.inl v1), some (.inl v2)] [] m n := fun n => rfl
        by_cases c125 : r124 = 0
        · rw [if_pos c125] at h
          refine ax_gt c125 s126 ?_
          have s128 : ∀ n, ax_ex (e + 8) L_X11_fewest 23 [some (.inr (.inr (22, 0))), some (.inl v1), some (.inl v2)] [] m (n + 5) = if ax_ok 0 3 = true then ax_ex (e + 8) L_X11_fewest 28 [some (.inr (.inr (22, 0))), some (.inl v1), some (.inl v2)] [.inl (m.1 39 0 (0 : Int32).toNatClampNeg), .inl 0, .inr (.inr (39, 0))] m n else none := fun n => rfl
          by_cases c127 : ax_ok 0 3 = true
          · rw [if_pos c127] at h
            refine ax_gt c127 s128 ?_
            have s130 : ∀ n, ax_ex (e + 8) L_X11_fewest 28 [some (.inr (.inr (22, 0))), some (.inl v1), some (.inl v2)] [.inl (m.1 39 0 (0 : Int32).toNatClampNeg), .inl 0, .inr (.inr (39, 0))] m (n + 3) = if ax_ok 0 3 = true then ax_ex (e + 8) L_X11_fewest 31 [some (.inr (.inr (22, 0))), some (.inl v1), some (.inl v2)] [] (ax_ui m 39 0 (0 : Int32).toNatClampNeg ((m.1 39 0 (0 : Int32).toNatClampNeg) + 1)) n else none := fun n => rfl
            by_cases c129 : ax_ok 0 3 = true
            · rw [if_pos c129] at h
              refine ax_gt c129 s130 ?_
              refine ax_go (j := 1) (k2 := 9) (lv2 := [some (.inr (.inr (22, 0))), some (.inl v1), some (.inl v2)]) (st2 := []) (m2 := (ax_ui m 39 0 (0 : Int32).toNatClampNeg ((m.1 39 0 (0 : Int32).toNatClampNeg) + 1))) (fun n => rfl) ?_
              exact ax_fg (lv2 := [some (.inr (.inr (22, 0))), some (.inl v1), some (.inl v2)]) ⟨rfl, rfl, rfl, trivial⟩ (ih (ax_ui m 39 0 (0 : Int32).toNatClampNeg ((m.1 39 0 (0 : Int32).toNatClampNeg) + 1)) _ h)
            · rw [if_neg c129] at h
              cases h
          · rw [if_neg c127] at h
            cases h
        · rw [if_neg c125] at h
          refine ax_gf c125 s126 ?_
          obtain rfl := Option.some.inj h
          exact ax_rs 2 (fun n => rfl)
    · rw [if_neg c5] at h
      cases h
def F_X11_fewest (m : ax_M) (v1 : Int32) (v2 : Int32) : Option (Int32 × ax_M) := if v2 = 0 then (some (0, m)) else (if ax_ok 0 3 = true then (F_X11_fewest_L9 ax_FU (ax_ui m 39 0 (0 : Int32).toNatClampNeg 0) v1 v2) else (none))
set_option maxRecDepth 20000 in
set_option maxHeartbeats 4000000 in
theorem R_X11_fewest {d : Nat} (hd : 8 ≤ d) {m : ax_M} {v1 : Int32} {v2 : Int32} {q : (Int32 × ax_M)} (h : F_X11_fewest m v1 v2 = some q) : ax_Ru d L_X11_fewest 0 (ax_entry [.inr (.inr (22, 0)), .inl v1, .inl v2] 3) [] m (some (.inl q.1), q.2) := by
  obtain ⟨e, rfl⟩ : ∃ e, d = e + 8 := ⟨d - 8, by omega⟩
  unfold F_X11_fewest at h
  have s2 : ∀ n, ax_ex (e + 8) L_X11_fewest 0 (ax_entry [.inr (.inr (22, 0)), .inl v1, .inl v2] 3) [] m (n + 2) = if v2 = 0 then ax_ex (e + 8) L_X11_fewest 2 [some (.inr (.inr (22, 0))), some (.inl v1), some (.inl v2)] [] m n else ax_ex (e + 8) L_X11_fewest 4 [some (.inr (.inr (22, 0))), some (.inl v1), some (.inl v2)] [] m n := fun n => rfl
  by_cases c1 : v2 = 0
  · rw [if_pos c1] at h
    refine ax_gt c1 s2 ?_
    obtain rfl := Option.some.inj h
    exact ax_rs 2 (fun n => rfl)
  · rw [if_neg c1] at h
    refine ax_gf c1 s2 ?_
    have s4 : ∀ n, ax_ex (e + 8) L_X11_fewest 4 [some (.inr (.inr (22, 0))), some (.inl v1), some (.inl v2)] [] m (n + 5) = if ax_ok 0 3 = true then ax_ex (e + 8) L_X11_fewest 9 [some (.inr (.inr (22, 0))), some (.inl v1), some (.inl v2)] [] (ax_ui m 39 0 (0 : Int32).toNatClampNeg 0) n else none := fun n => rfl
    by_cases c3 : ax_ok 0 3 = true
    · rw [if_pos c3] at h
      refine ax_gt c3 s4 ?_
      refine ax_fg (lv2 := [some (.inr (.inr (22, 0))), some (.inl v1), some (.inl v2)]) ⟨rfl, rfl, rfl, trivial⟩ ?_
      refine R_X11_fewest_L9 _ (ax_ui m 39 0 (0 : Int32).toNatClampNeg 0) _ h
    · rw [if_neg c3] at h
      cases h
def F_X11_noRow_ (m : ax_M) (v1 : Int32) (v2 : Int32) : Option Int32 := ax_b (F_X11_isRow m v1) (fun r2 => if r2 = 0 then (ax_b (F_X11_noRow m v1) (fun r6 => some r6)) else (if ax_ok v1 8 = true then (if v2 ≤ (m.1 32 0 v1.toNatClampNeg) then (some 0) else (some (-2))) else (none)))
set_option maxRecDepth 20000 in
set_option maxHeartbeats 4000000 in
theorem R_X11_noRow_ {d : Nat} (hd : 3 ≤ d) {m : ax_M} {v1 : Int32} {v2 : Int32} {q : Int32} (h : F_X11_noRow_ m v1 v2 = some q) : ax_Ru d L_X11_noRow_ 0 (ax_entry [.inr (.inr (22, 0)), .inl v1, .inl v2] 3) [] m (some (.inl q), m) := by
  obtain ⟨e, rfl⟩ : ∃ e, d = e + 3 := ⟨d - 3, by omega⟩
  unfold F_X11_noRow_ at h
  obtain ⟨r2, q1, h⟩ := ax_b_of h
  have s12 : ∀ n, ax_ex (e + 3) L_X11_noRow_ 0 (ax_entry [.inr (.inr (22, 0)), .inl v1, .inl v2] 3) [] m (n + 3) = ax_aft (fun s m2 => ax_ex (e + 3) L_X11_noRow_ 3 [some (.inr (.inr (22, 0))), some (.inl v1), some (.inl v2)] s m2 n) [] (ax_ex (e + 2) L_X11_isRow 0 (ax_entry [.inr (.inr (22, 0)), .inl v1] 2) [] m n) := fun n => rfl
  refine ax_gci (j := 3) (k2 := 3) (lv2 := [some (.inr (.inr (22, 0))), some (.inl v1), some (.inl v2)]) (rest := []) ((R_X11_isRow (by omega) q1)) s12 ?_
  have s4 : ∀ n, ax_ex (e + 3) L_X11_noRow_ 3 [some (.inr (.inr (22, 0))), some (.inl v1), some (.inl v2)] [.inl r2] m (n + 1) = if r2 = 0 then ax_ex (e + 3) L_X11_noRow_ 4 [some (.inr (.inr (22, 0))), some (.inl v1), some (.inl v2)] [] m n else ax_ex (e + 3) L_X11_noRow_ 8 [some (.inr (.inr (22, 0))), some (.inl v1), some (.inl v2)] [] m n := fun n => rfl
  by_cases c3 : r2 = 0
  · rw [if_pos c3] at h
    refine ax_gt c3 s4 ?_
    obtain ⟨r6, q5, h⟩ := ax_b_of h
    have s7 : ∀ n, ax_ex (e + 3) L_X11_noRow_ 4 [some (.inr (.inr (22, 0))), some (.inl v1), some (.inl v2)] [] m (n + 3) = ax_aft (fun s m2 => ax_ex (e + 3) L_X11_noRow_ 7 [some (.inr (.inr (22, 0))), some (.inl v1), some (.inl v2)] s m2 n) [] (ax_ex (e + 2) L_X11_noRow 0 (ax_entry [.inr (.inr (22, 0)), .inl v1] 2) [] m n) := fun n => rfl
    refine ax_gci (j := 3) (k2 := 7) (lv2 := [some (.inr (.inr (22, 0))), some (.inl v1), some (.inl v2)]) (rest := []) ((R_X11_noRow (by omega) q5)) s7 ?_
    obtain rfl := Option.some.inj h
    exact ax_rs 2 (fun n => rfl)
  · rw [if_neg c3] at h
    refine ax_gf c3 s4 ?_
    have s9 : ∀ n, ax_ex (e + 3) L_X11_noRow_ 8 [some (.inr (.inr (22, 0))), some (.inl v1), some (.inl v2)] [] m (n + 5) = if ax_ok v1 8 = true then ax_ex (e + 3) L_X11_noRow_ 13 [some (.inr (.inr (22, 0))), some (.inl v1), some (.inl v2)] [.inl (m.1 32 0 v1.toNatClampNeg), .inl v2] m n else none := fun n => rfl
    by_cases c8 : ax_ok v1 8 = true
    · rw [if_pos c8] at h
      refine ax_gt c8 s9 ?_
      have s11 : ∀ n, ax_ex (e + 3) L_X11_noRow_ 13 [some (.inr (.inr (22, 0))), some (.inl v1), some (.inl v2)] [.inl (m.1 32 0 v1.toNatClampNeg), .inl v2] m (n + 1) = if v2 ≤ (m.1 32 0 v1.toNatClampNeg) then ax_ex (e + 3) L_X11_noRow_ 16 [some (.inr (.inr (22, 0))), some (.inl v1), some (.inl v2)] [] m n else ax_ex (e + 3) L_X11_noRow_ 14 [some (.inr (.inr (22, 0))), some (.inl v1), some (.inl v2)] [] m n := fun n => rfl
      by_cases c10 : v2 ≤ (m.1 32 0 v1.toNatClampNeg)
      · rw [if_pos c10] at h
        refine ax_gt c10 s11 ?_
        obtain rfl := Option.some.inj h
        exact ax_rs 2 (fun n => rfl)
      · rw [if_neg c10] at h
        refine ax_gf c10 s11 ?_
        obtain rfl := Option.some.inj h
        exact ax_rs 3 (fun n => rfl)
    · rw [if_neg c8] at h
      cases h
def F_X11_tells_L28 : Nat → ax_M → Int32 → Int32 → Int32 → Int32 → Option (Int32 × ax_M)
  | 0, _, _, _, _, _ => none
  | n + 1, m, v1, v2, v3, v5 => if v2 ≤ v5 then (ax_b2 (F_X11_fewest m v1 v2) (fun r26 m27 => if r26 = (-1) then (some (r26, m27)) else (if v3 = (-1) then (some (r26, m27)) else (if r26 ≤ v3 then (ax_b2 (F_X11_no m27 (-5)) (fun r35 m36 => some (r35, m36))) else (if ax_ok v3 3 = true then (some ((m27.1 39 0 v3.toNatClampNeg), m27)) else (none)))))) else (ax_b (F_X11_toldAt m v1 v5) (fun r42 => ax_b (F_X11_isCell r42) (fun r44 => if r44 = 0 then (ax_b2 (F_X11_no m (-5)) (fun r48 m49 => some (r48, m49))) else (F_X11_tells_L28 n m v1 v2 v3 (v5 + 1)))))
set_option maxRecDepth 20000 in
set_option maxHeartbeats 4000000 in
theorem R_X11_tells_L28 {e : Nat} {v1 : Int32} {v2 : Int32} {v3 : Int32} : ∀ (n : Nat) (m : ax_M) (v5 : Int32) (q : (Int32 × ax_M)), F_X11_tells_L28 n m v1 v2 v3 v5 = some q → ax_Ru (e + 9) L_X11_tells 28 [some (.inr (.inr (22, 0))), some (.inl v1), some (.inl v2), some (.inl v3), none, some (.inl v5)] [] m (some (.inl q.1), q.2) := by
  intro n
  induction n with
  | zero =>
    intro m v5 q h
    cases h
  | succ n ih =>
    intro m v5 q h
    rw [F_X11_tells_L28] at h
    have s24 : ∀ n, ax_ex (e + 9) L_X11_tells 28 [some (.inr (.inr (22, 0))), some (.inl v1), some (.inl v2), some (.inl v3), none, some (.inl v5)] [] m (n + 3) = if v2 ≤ v5 then ax_ex (e + 9) L_X11_tells 43 [some (.inr (.inr (22, 0))), some (.inl v1), some (.inl v2), some (.inl v3), none, some (.inl v5)] [] m n else ax_ex (e + 9) L_X11_tells 31 [some (.inr (.inr (22, 0))), some (.inl v1), some (.inl v2), some (.inl v3), none, some (.inl v5)] [] m n := fun n => rfl
    by_cases c23 : v2 ≤ v5
    · rw [if_pos c23] at h
      refine ax_gt c23 s24 ?_
      obtain ⟨r26, m27, q25, h⟩ := ax_b2_of h
      have s40 : ∀ n, ax_ex (e + 9) L_X11_tells 43 [some (.inr (.inr (22, 0))), some (.inl v1), some (.inl v2), some (.inl v3), none, some (.inl v5)] [] m (n + 4) = ax_aft (fun s m2 => ax_ex (e + 9) L_X11_tells 47 [some (.inr (.inr (22, 0))), some (.inl v1), some (.inl v2), some (.inl v3), none, some (.inl v5)] s m2 n) [] (ax_ex (e + 8) L_X11_fewest 0 (ax_entry [.inr (.inr (22, 0)), .inl v1, .inl v2] 3) [] m n) := fun n => rfl
      refine ax_gci (j := 4) (k2 := 47) (lv2 := [some (.inr (.inr (22, 0))), some (.inl v1), some (.inl v2), some (.inl v3), none, some (.inl v5)]) (rest := []) ((R_X11_fewest (by omega) q25)) s40 ?_
      have s29 : ∀ n, ax_ex (e + 9) L_X11_tells 47 [some (.inr (.inr (22, 0))), some (.inl v1), some (.inl v2), some (.inl v3), none, some (.inl v5)] [.inl r26] m27 (n + 4) = if r26 = (-1) then ax_ex (e + 9) L_X11_tells 54 [some (.inr (.inr (22, 0))), some (.inl v1), some (.inl v2), some (.inl v3), none, some (.inl r26)] [] m27 n else ax_ex (e + 9) L_X11_tells 51 [some (.inr (.inr (22, 0))), some (.inl v1), some (.inl v2), some (.inl v3), none, some (.inl r26)] [] m27 n := fun n => rfl
      by_cases c28 : r26 = (-1)
      · rw [if_pos c28] at h
        refine ax_gt c28 s29 ?_
        obtain rfl := Option.some.inj h
        exact ax_rs 2 (fun n => rfl)
      · rw [if_neg c28] at h
        refine ax_gf c28 s29 ?_
        have s31 : ∀ n, ax_ex (e + 9) L_X11_tells 51 [some (.inr (.inr (22, 0))), some (.inl v1), some (.inl v2), some (.inl v3), none, some (.inl r26)] [] m27 (n + 3) = if v3 = (-1) then ax_ex (e + 9) L_X11_tells 54 [some (.inr (.inr (22, 0))), some (.inl v1), some (.inl v2), some (.inl v3), none, some (.inl r26)] [] m27 n else ax_ex (e + 9) L_X11_tells 56 [some (.inr (.inr (22, 0))), some (.inl v1), some (.inl v2), some (.inl v3), none, some (.inl r26)] [] m27 n := fun n => rfl
        by_cases c30 : v3 = (-1)
        · rw [if_pos c30] at h
          refine ax_gt c30 s31 ?_
          obtain rfl := Option.some.inj h
          exact ax_rs 2 (fun n => rfl)
        · rw [if_neg c30] at h
          refine ax_gf c30 s31 ?_
          have s33 : ∀ n, ax_ex (e + 9) L_X11_tells 56 [some (.inr (.inr (22, 0))), some (.inl v1), some (.inl v2), some (.inl v3), none, some (.inl r26)] [] m27 (n + 3) = if r26 ≤ v3 then ax_ex (e + 9) L_X11_tells 64 [some (.inr (.inr (22, 0))), some (.inl v1), some (.inl v2), some (.inl v3), none, some (.inl r26)] [] m27 n else ax_ex (e + 9) L_X11_tells 59 [some (.inr (.inr (22, 0))), some (.inl v1), some (.inl v2), some (.inl v3), none, some (.inl r26)] [] m27 n := fun n => rfl
          by_cases c32 : r26 ≤ v3
          · rw [if_pos c32] at h
            refine ax_gt c32 s33 ?_
            obtain ⟨r35, m36, q34, h⟩ := ax_b2_of h
            have s37 : ∀ n, ax_ex (e + 9) L_X11_tells 64 [some (.inr (.inr (22, 0))), some (.inl v1), some (.inl v2), some (.inl v3), none, some (.inl r26)] [] m27 (n + 3) = ax_aft (fun s m2 => ax_ex (e + 9) L_X11_tells 67 [some (.inr (.inr (22, 0))), some (.inl v1), some (.inl v2), some (.inl v3), none, some (.inl r26)] s m2 n) [] (ax_ex (e + 8) L_X11_no 0 (ax_entry [.inr (.inr (22, 0)), .inl (-5)] 2) [] m27 n) := fun n => rfl
            refine ax_gci (j := 3) (k2 := 67) (lv2 := [some (.inr (.inr (22, 0))), some (.inl v1), some (.inl v2), some (.inl v3), none, some (.inl r26)]) (rest := []) ((R_X11_no (by omega) q34)) s37 ?_
            obtain rfl := Option.some.inj h
            exact ax_rs 1 (fun n => rfl)
          · rw [if_neg c32] at h
            refine ax_gf c32 s33 ?_
            have s39 : ∀ n, ax_ex (e + 9) L_X11_tells 59 [some (.inr (.inr (22, 0))), some (.inl v1), some (.inl v2), some (.inl v3), none, some (.inl r26)] [] m27 (n + 4) = if ax_ok v3 3 = true then ax_ex (e + 9) L_X11_tells 63 [some (.inr (.inr (22, 0))), some (.inl v1), some (.inl v2), some (.inl v3), none, some (.inl r26)] [.inl (m27.1 39 0 v3.toNatClampNeg)] m27 n else none := fun n => rfl
            by_cases c38 : ax_ok v3 3 = true
            · rw [if_pos c38] at h
              refine ax_gt c38 s39 ?_
              obtain rfl := Option.some.inj h
              exact ax_rs 2 (fun n => rfl)
            · rw [if_neg c38] at h
              cases h
    · rw [if_neg c23] at h
      refine ax_gf c23 s24 ?_
      obtain ⟨r42, q41, h⟩ := ax_b_of h
      have s52 : ∀ n, ax_ex (e + 9) L_X11_tells 31 [some (.inr (.inr (22, 0))), some (.inl v1), some (.inl v2), some (.inl v3), none, some (.inl v5)] [] m (n + 4) = ax_aft (fun s m2 => ax_ex (e + 9) L_X11_tells 35 [some (.inr (.inr (22, 0))), some (.inl v1), some (.inl v2), some (.inl v3), none, some (.inl v5)] s m2 n) [] (ax_ex (e + 8) L_X11_toldAt 0 (ax_entry [.inr (.inr (22, 0)), .inl v1, .inl v5] 5) [] m n) := fun n => rfl
      refine ax_gci (j := 4) (k2 := 35) (lv2 := [some (.inr (.inr (22, 0))), some (.inl v1), some (.inl v2), some (.inl v3), none, some (.inl v5)]) (rest := []) ((R_X11_toldAt (by omega) q41)) s52 ?_
      obtain ⟨r44, q43, h⟩ := ax_b_of h
      have s51 : ∀ n, ax_ex (e + 9) L_X11_tells 35 [some (.inr (.inr (22, 0))), some (.inl v1), some (.inl v2), some (.inl v3), none, some (.inl v5)] [.inl r42] m (n + 1) = ax_aft (fun s m2 => ax_ex (e + 9) L_X11_tells 36 [some (.inr (.inr (22, 0))), some (.inl v1), some (.inl v2), some (.inl v3), none, some (.inl v5)] s m2 n) [] (ax_ex (e + 8) L_X11_isCell 0 (ax_entry [.inl r42] 1) [] m n) := fun n => rfl
      refine ax_gci (j := 1) (k2 := 36) (lv2 := [some (.inr (.inr (22, 0))), some (.inl v1), some (.inl v2), some (.inl v3), none, some (.inl v5)]) (rest := []) ((R_X11_isCell (by omega) q43)) s51 ?_
      have s46 : ∀ n, ax_ex (e + 9) L_X11_tells 36 [some (.inr (.inr (22, 0))), some (.inl v1), some (.inl v2), some (.inl v3), none, some (.inl v5)] [.inl r44] m (n + 1) = if r44 = 0 then ax_ex (e + 9) L_X11_tells 37 [some (.inr (.inr (22, 0))), some (.inl v1), some (.inl v2), some (.inl v3), none, some (.inl v5)] [] m n else ax_ex (e + 9) L_X11_tells 41 [some (.inr (.inr (22, 0))), some (.inl v1), some (.inl v2), some (.inl v3), none, some (.inl v5)] [] m n := fun n => rfl
      by_cases c45 : r44 = 0
      · rw [if_pos c45] at h
        refine ax_gt c45 s46 ?_
        obtain ⟨r48, m49, q47, h⟩ := ax_b2_of h
        have s50 : ∀ n, ax_ex (e + 9) L_X11_tells 37 [some (.inr (.inr (22, 0))), some (.inl v1), some (.inl v2), some (.inl v3), none, some (.inl v5)] [] m (n + 3) = ax_aft (fun s m2 => ax_ex (e + 9) L_X11_tells 40 [some (.inr (.inr (22, 0))), some (.inl v1), some (.inl v2), some (.inl v3), none, some (.inl v5)] s m2 n) [] (ax_ex (e + 8) L_X11_no 0 (ax_entry [.inr (.inr (22, 0)), .inl (-5)] 2) [] m n) := fun n => rfl
        refine ax_gci (j := 3) (k2 := 40) (lv2 := [some (.inr (.inr (22, 0))), some (.inl v1), some (.inl v2), some (.inl v3), none, some (.inl v5)]) (rest := []) ((R_X11_no (by omega) q47)) s50 ?_
        obtain rfl := Option.some.inj h
        exact ax_rs 1 (fun n => rfl)
      · rw [if_neg c45] at h
        refine ax_gf c45 s46 ?_
        refine ax_go (j := 2) (k2 := 28) (lv2 := [some (.inr (.inr (22, 0))), some (.inl v1), some (.inl v2), some (.inl v3), none, some (.inl (v5 + 1))]) (st2 := []) (m2 := m) (fun n => rfl) ?_
        exact ax_fg (lv2 := [some (.inr (.inr (22, 0))), some (.inl v1), some (.inl v2), some (.inl v3), none, some (.inl (v5 + 1))]) ⟨rfl, rfl, rfl, rfl, rfl, trivial⟩ (ih m (v5 + 1) _ h)
def F_X11_tells (m : ax_M) (v1 : Int32) (v2 : Int32) (v3 : Int32) : Option (Int32 × ax_M) := ax_b (F_X11_isShelf v1) (fun r2 => if r2 = 0 then (ax_b2 (F_X11_no m (-2)) (fun r6 m7 => some (r6, m7))) else (ax_b (F_X11_within v2 0 10) (fun r10 => if r10 = 0 then (ax_b2 (F_X11_no m (-2)) (fun r14 m15 => some (r14, m15))) else (if (-1) ≤ v3 then (ax_b (F_X11_noRow_ m v1 v2) (fun r20 => if 0 ≤ r20 then (F_X11_tells_L28 ax_FU m v1 v2 v3 0) else (ax_b2 (F_X11_no m r20) (fun r55 m56 => some (r55, m56))))) else (ax_b2 (F_X11_no m (-2)) (fun r60 m61 => some (r60, m61)))))))
set_option maxRecDepth 20000 in
set_option maxHeartbeats 4000000 in
theorem R_X11_tells {d : Nat} (hd : 9 ≤ d) {m : ax_M} {v1 : Int32} {v2 : Int32} {v3 : Int32} {q : (Int32 × ax_M)} (h : F_X11_tells m v1 v2 v3 = some q) : ax_Ru d L_X11_tells 0 (ax_entry [.inr (.inr (22, 0)), .inl v1, .inl v2, .inl v3] 6) [] m (some (.inl q.1), q.2) := by
  obtain ⟨e, rfl⟩ : ∃ e, d = e + 9 := ⟨d - 9, by omega⟩
  unfold F_X11_tells at h
  obtain ⟨r2, q1, h⟩ := ax_b_of h
  have s64 : ∀ n, ax_ex (e + 9) L_X11_tells 0 (ax_entry [.inr (.inr (22, 0)), .inl v1, .inl v2, .inl v3] 6) [] m (n + 2) = ax_aft (fun s m2 => ax_ex (e + 9) L_X11_tells 2 [some (.inr (.inr (22, 0))), some (.inl v1), some (.inl v2), some (.inl v3), none, none] s m2 n) [] (ax_ex (e + 8) L_X11_isShelf 0 (ax_entry [.inl v1] 1) [] m n) := fun n => rfl
  refine ax_gci (j := 2) (k2 := 2) (lv2 := [some (.inr (.inr (22, 0))), some (.inl v1), some (.inl v2), some (.inl v3), none, none]) (rest := []) ((R_X11_isShelf (by omega) q1)) s64 ?_
  have s4 : ∀ n, ax_ex (e + 9) L_X11_tells 2 [some (.inr (.inr (22, 0))), some (.inl v1), some (.inl v2), some (.inl v3), none, none] [.inl r2] m (n + 1) = if r2 = 0 then ax_ex (e + 9) L_X11_tells 11 [some (.inr (.inr (22, 0))), some (.inl v1), some (.inl v2), some (.inl v3), none, none] [] m n else ax_ex (e + 9) L_X11_tells 3 [some (.inr (.inr (22, 0))), some (.inl v1), some (.inl v2), some (.inl v3), none, none] [] m n := fun n => rfl
  by_cases c3 : r2 = 0
  · rw [if_pos c3] at h
    refine ax_gt c3 s4 ?_
    obtain ⟨r6, m7, q5, h⟩ := ax_b2_of h
    have s8 : ∀ n, ax_ex (e + 9) L_X11_tells 11 [some (.inr (.inr (22, 0))), some (.inl v1), some (.inl v2), some (.inl v3), none, none] [] m (n + 3) = ax_aft (fun s m2 => ax_ex (e + 9) L_X11_tells 14 [some (.inr (.inr (22, 0))), some (.inl v1), some (.inl v2), some (.inl v3), none, none] s m2 n) [] (ax_ex (e + 8) L_X11_no 0 (ax_entry [.inr (.inr (22, 0)), .inl (-2)] 2) [] m n) := fun n => rfl
    refine ax_gci (j := 3) (k2 := 14) (lv2 := [some (.inr (.inr (22, 0))), some (.inl v1), some (.inl v2), some (.inl v3), none, none]) (rest := []) ((R_X11_no (by omega) q5)) s8 ?_
    obtain rfl := Option.some.inj h
    exact ax_rs 1 (fun n => rfl)
  · rw [if_neg c3] at h
    refine ax_gf c3 s4 ?_
    obtain ⟨r10, q9, h⟩ := ax_b_of h
    have s63 : ∀ n, ax_ex (e + 9) L_X11_tells 3 [some (.inr (.inr (22, 0))), some (.inl v1), some (.inl v2), some (.inl v3), none, none] [] m (n + 4) = ax_aft (fun s m2 => ax_ex (e + 9) L_X11_tells 7 [some (.inr (.inr (22, 0))), some (.inl v1), some (.inl v2), some (.inl v3), none, none] s m2 n) [] (ax_ex (e + 8) L_X11_within 0 (ax_entry [.inl v2, .inl 0, .inl 10] 3) [] m n) := fun n => rfl
    refine ax_gci (j := 4) (k2 := 7) (lv2 := [some (.inr (.inr (22, 0))), some (.inl v1), some (.inl v2), some (.inl v3), none, none]) (rest := []) ((R_X11_within (by omega) q9)) s63 ?_
    have s12 : ∀ n, ax_ex (e + 9) L_X11_tells 7 [some (.inr (.inr (22, 0))), some (.inl v1), some (.inl v2), some (.inl v3), none, none] [.inl r10] m (n + 1) = if r10 = 0 then ax_ex (e + 9) L_X11_tells 11 [some (.inr (.inr (22, 0))), some (.inl v1), some (.inl v2), some (.inl v3), none, none] [] m n else ax_ex (e + 9) L_X11_tells 8 [some (.inr (.inr (22, 0))), some (.inl v1), some (.inl v2), some (.inl v3), none, none] [] m n := fun n => rfl
    by_cases c11 : r10 = 0
    · rw [if_pos c11] at h
      refine ax_gt c11 s12 ?_
      obtain ⟨r14, m15, q13, h⟩ := ax_b2_of h
      have s16 : ∀ n, ax_ex (e + 9) L_X11_tells 11 [some (.inr (.inr (22, 0))), some (.inl v1), some (.inl v2), some (.inl v3), none, none] [] m (n + 3) = ax_aft (fun s m2 => ax_ex (e + 9) L_X11_tells 14 [some (.inr (.inr (22, 0))), some (.inl v1), some (.inl v2), some (.inl v3), none, none] s m2 n) [] (ax_ex (e + 8) L_X11_no 0 (ax_entry [.inr (.inr (22, 0)), .inl (-2)] 2) [] m n) := fun n => rfl
      refine ax_gci (j := 3) (k2 := 14) (lv2 := [some (.inr (.inr (22, 0))), some (.inl v1), some (.inl v2), some (.inl v3), none, none]) (rest := []) ((R_X11_no (by omega) q13)) s16 ?_
      obtain rfl := Option.some.inj h
      exact ax_rs 1 (fun n => rfl)
    · rw [if_neg c11] at h
      refine ax_gf c11 s12 ?_
      have s18 : ∀ n, ax_ex (e + 9) L_X11_tells 8 [some (.inr (.inr (22, 0))), some (.inl v1), some (.inl v2), some (.inl v3), none, none] [] m (n + 3) = if (-1) ≤ v3 then ax_ex (e + 9) L_X11_tells 15 [some (.inr (.inr (22, 0))), some (.inl v1), some (.inl v2), some (.inl v3), none, none] [] m n else ax_ex (e + 9) L_X11_tells 11 [some (.inr (.inr (22, 0))), some (.inl v1), some (.inl v2), some (.inl v3), none, none] [] m n := fun n => rfl
      by_cases c17 : (-1) ≤ v3
      · rw [if_pos c17] at h
        refine ax_gt c17 s18 ?_
        obtain ⟨r20, q19, h⟩ := ax_b_of h
        have s58 : ∀ n, ax_ex (e + 9) L_X11_tells 15 [some (.inr (.inr (22, 0))), some (.inl v1), some (.inl v2), some (.inl v3), none, none] [] m (n + 4) = ax_aft (fun s m2 => ax_ex (e + 9) L_X11_tells 19 [some (.inr (.inr (22, 0))), some (.inl v1), some (.inl v2), some (.inl v3), none, none] s m2 n) [] (ax_ex (e + 8) L_X11_noRow_ 0 (ax_entry [.inr (.inr (22, 0)), .inl v1, .inl v2] 3) [] m n) := fun n => rfl
        refine ax_gci (j := 4) (k2 := 19) (lv2 := [some (.inr (.inr (22, 0))), some (.inl v1), some (.inl v2), some (.inl v3), none, none]) (rest := []) ((R_X11_noRow_ (by omega) q19)) s58 ?_
        have s22 : ∀ n, ax_ex (e + 9) L_X11_tells 19 [some (.inr (.inr (22, 0))), some (.inl v1), some (.inl v2), some (.inl v3), none, none] [.inl r20] m (n + 3) = if 0 ≤ r20 then ax_ex (e + 9) L_X11_tells 26 [some (.inr (.inr (22, 0))), some (.inl v1), some (.inl v2), some (.inl v3), some (.inl r20), none] [] m n else ax_ex (e + 9) L_X11_tells 22 [some (.inr (.inr (22, 0))), some (.inl v1), some (.inl v2), some (.inl v3), some (.inl r20), none] [] m n := fun n => rfl
        by_cases c21 : 0 ≤ r20
        · rw [if_pos c21] at h
          refine ax_gt c21 s22 ?_
          refine ax_go (j := 2) (k2 := 28) (lv2 := [some (.inr (.inr (22, 0))), some (.inl v1), some (.inl v2), some (.inl v3), some (.inl r20), some (.inl 0)]) (st2 := []) (m2 := m) (fun n => rfl) ?_
          refine ax_fg (lv2 := [some (.inr (.inr (22, 0))), some (.inl v1), some (.inl v2), some (.inl v3), none, some (.inl 0)]) ⟨rfl, rfl, rfl, rfl, rfl, trivial⟩ ?_
          refine R_X11_tells_L28 _ m 0 _ h
        · rw [if_neg c21] at h
          refine ax_gf c21 s22 ?_
          obtain ⟨r55, m56, q54, h⟩ := ax_b2_of h
          have s57 : ∀ n, ax_ex (e + 9) L_X11_tells 22 [some (.inr (.inr (22, 0))), some (.inl v1), some (.inl v2), some (.inl v3), some (.inl r20), none] [] m (n + 3) = ax_aft (fun s m2 => ax_ex (e + 9) L_X11_tells 25 [some (.inr (.inr (22, 0))), some (.inl v1), some (.inl v2), some (.inl v3), some (.inl r20), none] s m2 n) [] (ax_ex (e + 8) L_X11_no 0 (ax_entry [.inr (.inr (22, 0)), .inl r20] 2) [] m n) := fun n => rfl
          refine ax_gci (j := 3) (k2 := 25) (lv2 := [some (.inr (.inr (22, 0))), some (.inl v1), some (.inl v2), some (.inl v3), some (.inl r20), none]) (rest := []) ((R_X11_no (by omega) q54)) s57 ?_
          obtain rfl := Option.some.inj h
          exact ax_rs 1 (fun n => rfl)
      · rw [if_neg c17] at h
        refine ax_gf c17 s18 ?_
        obtain ⟨r60, m61, q59, h⟩ := ax_b2_of h
        have s62 : ∀ n, ax_ex (e + 9) L_X11_tells 11 [some (.inr (.inr (22, 0))), some (.inl v1), some (.inl v2), some (.inl v3), none, none] [] m (n + 3) = ax_aft (fun s m2 => ax_ex (e + 9) L_X11_tells 14 [some (.inr (.inr (22, 0))), some (.inl v1), some (.inl v2), some (.inl v3), none, none] s m2 n) [] (ax_ex (e + 8) L_X11_no 0 (ax_entry [.inr (.inr (22, 0)), .inl (-2)] 2) [] m n) := fun n => rfl
        refine ax_gci (j := 3) (k2 := 14) (lv2 := [some (.inr (.inr (22, 0))), some (.inl v1), some (.inl v2), some (.inl v3), none, none]) (rest := []) ((R_X11_no (by omega) q59)) s62 ?_
        obtain rfl := Option.some.inj h
        exact ax_rs 1 (fun n => rfl)
def F_X11_wrong_L7 : Nat → ax_M → Int32 → Int32 → Int32 → Int32 → Option Int32
  | 0, _, _, _, _, _ => none
  | n + 1, m, v2, v3, v4, v5 => if v3 ≤ v5 then (some (-1)) else (ax_b (F_X11_toldAt m v2 v5) (fun r6 => ax_b (F_X11_isCell r6) (fun r8 => if r8 = 0 then (some v5) else (if ax_ok r6 64 = true then (if (m.1 23 0 r6.toNatClampNeg) = 0 then (if ((ax_abs ((r6 / 8) - (v4 / 8))) + (ax_abs ((ax_irem r6 8) - (ax_irem v4 8)))) = 1 then (F_X11_wrong_L7 n m v2 v3 r6 (v5 + 1)) else (some v5)) else (some v5)) else (none)))))
set_option maxRecDepth 20000 in
set_option maxHeartbeats 4000000 in
theorem R_X11_wrong_L7 {e : Nat} {m : ax_M} {v2 : Int32} {v3 : Int32} : ∀ (n : Nat) (v4 : Int32) (v5 : Int32) (q : Int32), F_X11_wrong_L7 n m v2 v3 v4 v5 = some q → ax_Ru (e + 6) L_X11_wrong 7 [some (.inr (.inr (22, 0))), none, some (.inl v2), some (.inl v3), some (.inl v4), some (.inl v5), none] [] m (some (.inl q), m) := by
  intro n
  induction n with
  | zero =>
    intro v4 v5 q h
    cases h
  | succ n ih =>
    intro v4 v5 q h
    rw [F_X11_wrong_L7] at h
    have s4 : ∀ n, ax_ex (e + 6) L_X11_wrong 7 [some (.inr (.inr (22, 0))), none, some (.inl v2), some (.inl v3), some (.inl v4), some (.inl v5), none] [] m (n + 3) = if v3 ≤ v5 then ax_ex (e + 6) L_X11_wrong 48 [some (.inr (.inr (22, 0))), none, some (.inl v2), some (.inl v3), some (.inl v4), some (.inl v5), none] [] m n else ax_ex (e + 6) L_X11_wrong 10 [some (.inr (.inr (22, 0))), none, some (.inl v2), some (.inl v3), some (.inl v4), some (.inl v5), none] [] m n := fun n => rfl
    by_cases c3 : v3 ≤ v5
    · rw [if_pos c3] at h
      refine ax_gt c3 s4 ?_
      obtain rfl := Option.some.inj h
      exact ax_rs 2 (fun n => rfl)
    · rw [if_neg c3] at h
      refine ax_gf c3 s4 ?_
      obtain ⟨r6, q5, h⟩ := ax_b_of h
      have s23 : ∀ n, ax_ex (e + 6) L_X11_wrong 10 [some (.inr (.inr (22, 0))), none, some (.inl v2), some (.inl v3), some (.inl v4), some (.inl v5), none] [] m (n + 4) = ax_aft (fun s m2 => ax_ex (e + 6) L_X11_wrong 14 [some (.inr (.inr (22, 0))), none, some (.inl v2), some (.inl v3), some (.inl v4), some (.inl v5), none] s m2 n) [] (ax_ex (e + 5) L_X11_toldAt 0 (ax_entry [.inr (.inr (22, 0)), .inl v2, .inl v5] 5) [] m n) := fun n => rfl
      refine ax_gci (j := 4) (k2 := 14) (lv2 := [some (.inr (.inr (22, 0))), none, some (.inl v2), some (.inl v3), some (.inl v4), some (.inl v5), none]) (rest := []) ((R_X11_toldAt (by omega) q5)) s23 ?_
      obtain ⟨r8, q7, h⟩ := ax_b_of h
      have s22 : ∀ n, ax_ex (e + 6) L_X11_wrong 14 [some (.inr (.inr (22, 0))), none, some (.inl v2), some (.inl v3), some (.inl v4), some (.inl v5), none] [.inl r6] m (n + 3) = ax_aft (fun s m2 => ax_ex (e + 6) L_X11_wrong 17 [some (.inr (.inr (22, 0))), none, some (.inl v2), some (.inl v3), some (.inl v4), some (.inl v5), some (.inl r6)] s m2 n) [] (ax_ex (e + 5) L_X11_isCell 0 (ax_entry [.inl r6] 1) [] m n) := fun n => rfl
      refine ax_gci (j := 3) (k2 := 17) (lv2 := [some (.inr (.inr (22, 0))), none, some (.inl v2), some (.inl v3), some (.inl v4), some (.inl v5), some (.inl r6)]) (rest := []) ((R_X11_isCell (by omega) q7)) s22 ?_
      have s10 : ∀ n, ax_ex (e + 6) L_X11_wrong 17 [some (.inr (.inr (22, 0))), none, some (.inl v2), some (.inl v3), some (.inl v4), some (.inl v5), some (.inl r6)] [.inl r8] m (n + 1) = if r8 = 0 then ax_ex (e + 6) L_X11_wrong 42 [some (.inr (.inr (22, 0))), none, some (.inl v2), some (.inl v3), some (.inl v4), some (.inl v5), some (.inl r6)] [] m n else ax_ex (e + 6) L_X11_wrong 18 [some (.inr (.inr (22, 0))), none, some (.inl v2), some (.inl v3), some (.inl v4), some (.inl v5), some (.inl r6)] [] m n := fun n => rfl
      by_cases c9 : r8 = 0
      · rw [if_pos c9] at h
        refine ax_gt c9 s10 ?_
        obtain rfl := Option.some.inj h
        exact ax_rs 2 (fun n => rfl)
      · rw [if_neg c9] at h
        refine ax_gf c9 s10 ?_
        have s12 : ∀ n, ax_ex (e + 6) L_X11_wrong 18 [some (.inr (.inr (22, 0))), none, some (.inl v2), some (.inl v3), some (.inl v4), some (.inl v5), some (.inl r6)] [] m (n + 4) = if ax_ok r6 64 = true then ax_ex (e + 6) L_X11_wrong 22 [some (.inr (.inr (22, 0))), none, some (.inl v2), some (.inl v3), some (.inl v4), some (.inl v5), some (.inl r6)] [.inl (m.1 23 0 r6.toNatClampNeg)] m n else none := fun n => rfl
        by_cases c11 : ax_ok r6 64 = true
        · rw [if_pos c11] at h
          refine ax_gt c11 s12 ?_
          have s14 : ∀ n, ax_ex (e + 6) L_X11_wrong 22 [some (.inr (.inr (22, 0))), none, some (.inl v2), some (.inl v3), some (.inl v4), some (.inl v5), some (.inl r6)] [.inl (m.1 23 0 r6.toNatClampNeg)] m (n + 1) = if (m.1 23 0 r6.toNatClampNeg) = 0 then ax_ex (e + 6) L_X11_wrong 23 [some (.inr (.inr (22, 0))), none, some (.inl v2), some (.inl v3), some (.inl v4), some (.inl v5), some (.inl r6)] [] m n else ax_ex (e + 6) L_X11_wrong 42 [some (.inr (.inr (22, 0))), none, some (.inl v2), some (.inl v3), some (.inl v4), some (.inl v5), some (.inl r6)] [] m n := fun n => rfl
          by_cases c13 : (m.1 23 0 r6.toNatClampNeg) = 0
          · rw [if_pos c13] at h
            refine ax_gt c13 s14 ?_
            have s15 : ∀ n, ax_ex (e + 6) L_X11_wrong 23 [some (.inr (.inr (22, 0))), none, some (.inl v2), some (.inl v3), some (.inl v4), some (.inl v5), some (.inl r6)] [] m (n + 3) = if (8 : Int32) = 0 then none else ax_ex (e + 6) L_X11_wrong 26 [some (.inr (.inr (22, 0))), none, some (.inl v2), some (.inl v3), some (.inl v4), some (.inl v5), some (.inl r6)] [.inl (r6 / 8)] m n := fun n => rfl
            refine ax_gf (by decide) s15 ?_
            have s16 : ∀ n, ax_ex (e + 6) L_X11_wrong 26 [some (.inr (.inr (22, 0))), none, some (.inl v2), some (.inl v3), some (.inl v4), some (.inl v5), some (.inl r6)] [.inl (r6 / 8)] m (n + 3) = if (8 : Int32) = 0 then none else ax_ex (e + 6) L_X11_wrong 29 [some (.inr (.inr (22, 0))), none, some (.inl v2), some (.inl v3), some (.inl v4), some (.inl v5), some (.inl r6)] [.inl (v4 / 8), .inl (r6 / 8)] m n := fun n => rfl
            refine ax_gf (by decide) s16 ?_
            have s17 : ∀ n, ax_ex (e + 6) L_X11_wrong 29 [some (.inr (.inr (22, 0))), none, some (.inl v2), some (.inl v3), some (.inl v4), some (.inl v5), some (.inl r6)] [.inl (v4 / 8), .inl (r6 / 8)] m (n + 5) = if (8 : Int32) = 0 then none else ax_ex (e + 6) L_X11_wrong 34 [some (.inr (.inr (22, 0))), none, some (.inl v2), some (.inl v3), some (.inl v4), some (.inl v5), some (.inl r6)] [.inl (ax_irem r6 8), .inl (ax_abs ((r6 / 8) - (v4 / 8)))] m n := fun n => rfl
            refine ax_gf (by decide) s17 ?_
            have s18 : ∀ n, ax_ex (e + 6) L_X11_wrong 34 [some (.inr (.inr (22, 0))), none, some (.inl v2), some (.inl v3), some (.inl v4), some (.inl v5), some (.inl r6)] [.inl (ax_irem r6 8), .inl (ax_abs ((r6 / 8) - (v4 / 8)))] m (n + 3) = if (8 : Int32) = 0 then none else ax_ex (e + 6) L_X11_wrong 37 [some (.inr (.inr (22, 0))), none, some (.inl v2), some (.inl v3), some (.inl v4), some (.inl v5), some (.inl r6)] [.inl (ax_irem v4 8), .inl (ax_irem r6 8), .inl (ax_abs ((r6 / 8) - (v4 / 8)))] m n := fun n => rfl
            refine ax_gf (by decide) s18 ?_
            refine ax_go (j := 4) (k2 := 41) (lv2 := [some (.inr (.inr (22, 0))), none, some (.inl v2), some (.inl v3), some (.inl v4), some (.inl v5), some (.inl r6)]) (st2 := [.inl 1, .inl ((ax_abs ((r6 / 8) - (v4 / 8))) + (ax_abs ((ax_irem r6 8) - (ax_irem v4 8))))]) (m2 := m) (fun n => rfl) ?_
            obtain ⟨y19, hy19⟩ : ∃ y : Int32, y = ((ax_abs ((r6 / 8) - (v4 / 8))) + (ax_abs ((ax_irem r6 8) - (ax_irem v4 8)))) := ⟨_, rfl⟩
            rw [← hy19] at h ⊢
            have s21 : ∀ n, ax_ex (e + 6) L_X11_wrong 41 [some (.inr (.inr (22, 0))), none, some (.inl v2), some (.inl v3), some (.inl v4), some (.inl v5), some (.inl r6)] [.inl 1, .inl y19] m (n + 1) = if y19 = 1 then ax_ex (e + 6) L_X11_wrong 44 [some (.inr (.inr (22, 0))), none, some (.inl v2), some (.inl v3), some (.inl v4), some (.inl v5), some (.inl r6)] [] m n else ax_ex (e + 6) L_X11_wrong 42 [some (.inr (.inr (22, 0))), none, some (.inl v2), some (.inl v3), some (.inl v4), some (.inl v5), some (.inl r6)] [] m n := fun n => rfl
            by_cases c20 : y19 = 1
            · rw [if_pos c20] at h
              refine ax_gt c20 s21 ?_
              refine ax_go (j := 4) (k2 := 7) (lv2 := [some (.inr (.inr (22, 0))), none, some (.inl v2), some (.inl v3), some (.inl r6), some (.inl (v5 + 1)), some (.inl r6)]) (st2 := []) (m2 := m) (fun n => rfl) ?_
              exact ax_fg (lv2 := [some (.inr (.inr (22, 0))), none, some (.inl v2), some (.inl v3), some (.inl r6), some (.inl (v5 + 1)), none]) ⟨rfl, rfl, rfl, rfl, rfl, trivial⟩ (ih r6 (v5 + 1) _ h)
            · rw [if_neg c20] at h
              refine ax_gf c20 s21 ?_
              obtain rfl := Option.some.inj h
              exact ax_rs 2 (fun n => rfl)
          · rw [if_neg c13] at h
            refine ax_gf c13 s14 ?_
            obtain rfl := Option.some.inj h
            exact ax_rs 2 (fun n => rfl)
        · rw [if_neg c11] at h
          cases h
def F_X11_wrong (m : ax_M) (v1 : Int32) (v2 : Int32) (v3 : Int32) : Option Int32 := if ax_ok v1 8 = true then (F_X11_wrong_L7 ax_FU m v2 v3 (m.1 24 0 v1.toNatClampNeg) 0) else (none)
set_option maxRecDepth 20000 in
set_option maxHeartbeats 4000000 in
theorem R_X11_wrong {d : Nat} (hd : 6 ≤ d) {m : ax_M} {v1 : Int32} {v2 : Int32} {v3 : Int32} {q : Int32} (h : F_X11_wrong m v1 v2 v3 = some q) : ax_Ru d L_X11_wrong 0 (ax_entry [.inr (.inr (22, 0)), .inl v1, .inl v2, .inl v3] 7) [] m (some (.inl q), m) := by
  obtain ⟨e, rfl⟩ : ∃ e, d = e + 6 := ⟨d - 6, by omega⟩
  unfold F_X11_wrong at h
  have s2 : ∀ n, ax_ex (e + 6) L_X11_wrong 0 (ax_entry [.inr (.inr (22, 0)), .inl v1, .inl v2, .inl v3] 7) [] m (n + 4) = if ax_ok v1 8 = true then ax_ex (e + 6) L_X11_wrong 4 [some (.inr (.inr (22, 0))), some (.inl v1), some (.inl v2), some (.inl v3), none, none, none] [.inl (m.1 24 0 v1.toNatClampNeg)] m n else none := fun n => rfl
  by_cases c1 : ax_ok v1 8 = true
  · rw [if_pos c1] at h
    refine ax_gt c1 s2 ?_
    refine ax_go (j := 3) (k2 := 7) (lv2 := [some (.inr (.inr (22, 0))), some (.inl v1), some (.inl v2), some (.inl v3), some (.inl (m.1 24 0 v1.toNatClampNeg)), some (.inl 0), none]) (st2 := []) (m2 := m) (fun n => rfl) ?_
    refine ax_fg (lv2 := [some (.inr (.inr (22, 0))), none, some (.inl v2), some (.inl v3), some (.inl (m.1 24 0 v1.toNatClampNeg)), some (.inl 0), none]) ⟨rfl, rfl, rfl, rfl, rfl, trivial⟩ ?_
    refine R_X11_wrong_L7 _ (m.1 24 0 v1.toNatClampNeg) 0 _ h
  · rw [if_neg c1] at h
    cases h
def F_X11_noWalk (m : ax_M) (v1 : Int32) (v2 : Int32) (v3 : Int32) : Option Int32 := ax_b (F_X11_isShelf v2) (fun r2 => if r2 = 0 then (some (-2)) else (ax_b (F_X11_within v3 0 40) (fun r6 => if r6 = 0 then (some (-2)) else (ax_b (F_X11_isOne m v1) (fun r10 => if r10 = 0 then (some (-2)) else (ax_b (F_X11_noRow_ m v2 v3) (fun r14 => some r14)))))))
set_option maxRecDepth 20000 in
set_option maxHeartbeats 4000000 in
theorem R_X11_noWalk {d : Nat} (hd : 4 ≤ d) {m : ax_M} {v1 : Int32} {v2 : Int32} {v3 : Int32} {q : Int32} (h : F_X11_noWalk m v1 v2 v3 = some q) : ax_Ru d L_X11_noWalk 0 (ax_entry [.inr (.inr (22, 0)), .inl v1, .inl v2, .inl v3] 4) [] m (some (.inl q), m) := by
  obtain ⟨e, rfl⟩ : ∃ e, d = e + 4 := ⟨d - 4, by omega⟩
  unfold F_X11_noWalk at h
  obtain ⟨r2, q1, h⟩ := ax_b_of h
  have s18 : ∀ n, ax_ex (e + 4) L_X11_noWalk 0 (ax_entry [.inr (.inr (22, 0)), .inl v1, .inl v2, .inl v3] 4) [] m (n + 2) = ax_aft (fun s m2 => ax_ex (e + 4) L_X11_noWalk 2 [some (.inr (.inr (22, 0))), some (.inl v1), some (.inl v2), some (.inl v3)] s m2 n) [] (ax_ex (e + 3) L_X11_isShelf 0 (ax_entry [.inl v2] 1) [] m n) := fun n => rfl
  refine ax_gci (j := 2) (k2 := 2) (lv2 := [some (.inr (.inr (22, 0))), some (.inl v1), some (.inl v2), some (.inl v3)]) (rest := []) ((R_X11_isShelf (by omega) q1)) s18 ?_
  have s4 : ∀ n, ax_ex (e + 4) L_X11_noWalk 2 [some (.inr (.inr (22, 0))), some (.inl v1), some (.inl v2), some (.inl v3)] [.inl r2] m (n + 1) = if r2 = 0 then ax_ex (e + 4) L_X11_noWalk 12 [some (.inr (.inr (22, 0))), some (.inl v1), some (.inl v2), some (.inl v3)] [] m n else ax_ex (e + 4) L_X11_noWalk 3 [some (.inr (.inr (22, 0))), some (.inl v1), some (.inl v2), some (.inl v3)] [] m n := fun n => rfl
  by_cases c3 : r2 = 0
  · rw [if_pos c3] at h
    refine ax_gt c3 s4 ?_
    obtain rfl := Option.some.inj h
    exact ax_rs 3 (fun n => rfl)
  · rw [if_neg c3] at h
    refine ax_gf c3 s4 ?_
    obtain ⟨r6, q5, h⟩ := ax_b_of h
    have s17 : ∀ n, ax_ex (e + 4) L_X11_noWalk 3 [some (.inr (.inr (22, 0))), some (.inl v1), some (.inl v2), some (.inl v3)] [] m (n + 4) = ax_aft (fun s m2 => ax_ex (e + 4) L_X11_noWalk 7 [some (.inr (.inr (22, 0))), some (.inl v1), some (.inl v2), some (.inl v3)] s m2 n) [] (ax_ex (e + 3) L_X11_within 0 (ax_entry [.inl v3, .inl 0, .inl 40] 3) [] m n) := fun n => rfl
    refine ax_gci (j := 4) (k2 := 7) (lv2 := [some (.inr (.inr (22, 0))), some (.inl v1), some (.inl v2), some (.inl v3)]) (rest := []) ((R_X11_within (by omega) q5)) s17 ?_
    have s8 : ∀ n, ax_ex (e + 4) L_X11_noWalk 7 [some (.inr (.inr (22, 0))), some (.inl v1), some (.inl v2), some (.inl v3)] [.inl r6] m (n + 1) = if r6 = 0 then ax_ex (e + 4) L_X11_noWalk 12 [some (.inr (.inr (22, 0))), some (.inl v1), some (.inl v2), some (.inl v3)] [] m n else ax_ex (e + 4) L_X11_noWalk 8 [some (.inr (.inr (22, 0))), some (.inl v1), some (.inl v2), some (.inl v3)] [] m n := fun n => rfl
    by_cases c7 : r6 = 0
    · rw [if_pos c7] at h
      refine ax_gt c7 s8 ?_
      obtain rfl := Option.some.inj h
      exact ax_rs 3 (fun n => rfl)
    · rw [if_neg c7] at h
      refine ax_gf c7 s8 ?_
      obtain ⟨r10, q9, h⟩ := ax_b_of h
      have s16 : ∀ n, ax_ex (e + 4) L_X11_noWalk 8 [some (.inr (.inr (22, 0))), some (.inl v1), some (.inl v2), some (.inl v3)] [] m (n + 3) = ax_aft (fun s m2 => ax_ex (e + 4) L_X11_noWalk 11 [some (.inr (.inr (22, 0))), some (.inl v1), some (.inl v2), some (.inl v3)] s m2 n) [] (ax_ex (e + 3) L_X11_isOne 0 (ax_entry [.inr (.inr (22, 0)), .inl v1] 2) [] m n) := fun n => rfl
      refine ax_gci (j := 3) (k2 := 11) (lv2 := [some (.inr (.inr (22, 0))), some (.inl v1), some (.inl v2), some (.inl v3)]) (rest := []) ((R_X11_isOne (by omega) q9)) s16 ?_
      have s12 : ∀ n, ax_ex (e + 4) L_X11_noWalk 11 [some (.inr (.inr (22, 0))), some (.inl v1), some (.inl v2), some (.inl v3)] [.inl r10] m (n + 1) = if r10 = 0 then ax_ex (e + 4) L_X11_noWalk 12 [some (.inr (.inr (22, 0))), some (.inl v1), some (.inl v2), some (.inl v3)] [] m n else ax_ex (e + 4) L_X11_noWalk 14 [some (.inr (.inr (22, 0))), some (.inl v1), some (.inl v2), some (.inl v3)] [] m n := fun n => rfl
      by_cases c11 : r10 = 0
      · rw [if_pos c11] at h
        refine ax_gt c11 s12 ?_
        obtain rfl := Option.some.inj h
        exact ax_rs 3 (fun n => rfl)
      · rw [if_neg c11] at h
        refine ax_gf c11 s12 ?_
        obtain ⟨r14, q13, h⟩ := ax_b_of h
        have s15 : ∀ n, ax_ex (e + 4) L_X11_noWalk 14 [some (.inr (.inr (22, 0))), some (.inl v1), some (.inl v2), some (.inl v3)] [] m (n + 4) = ax_aft (fun s m2 => ax_ex (e + 4) L_X11_noWalk 18 [some (.inr (.inr (22, 0))), some (.inl v1), some (.inl v2), some (.inl v3)] s m2 n) [] (ax_ex (e + 3) L_X11_noRow_ 0 (ax_entry [.inr (.inr (22, 0)), .inl v2, .inl v3] 3) [] m n) := fun n => rfl
        refine ax_gci (j := 4) (k2 := 18) (lv2 := [some (.inr (.inr (22, 0))), some (.inl v1), some (.inl v2), some (.inl v3)]) (rest := []) ((R_X11_noRow_ (by omega) q13)) s15 ?_
        obtain rfl := Option.some.inj h
        exact ax_rs 1 (fun n => rfl)
def F_X11_judge (m : ax_M) (v1 : Int32) (v2 : Int32) (v3 : Int32) : Option (Int32 × ax_M) := ax_b (F_X11_noWalk m v1 v2 v3) (fun r2 => if 0 ≤ r2 then (ax_b (F_X11_wrong m v1 v2 v3) (fun r6 => some (r6, m))) else (ax_b2 (F_X11_no m r2) (fun r9 m10 => some (r9, m10))))
set_option maxRecDepth 20000 in
set_option maxHeartbeats 4000000 in
theorem R_X11_judge {d : Nat} (hd : 7 ≤ d) {m : ax_M} {v1 : Int32} {v2 : Int32} {v3 : Int32} {q : (Int32 × ax_M)} (h : F_X11_judge m v1 v2 v3 = some q) : ax_Ru d L_X11_judge 0 (ax_entry [.inr (.inr (22, 0)), .inl v1, .inl v2, .inl v3] 5) [] m (some (.inl q.1), q.2) := by
  obtain ⟨e, rfl⟩ : ∃ e, d = e + 7 := ⟨d - 7, by omega⟩
  unfold F_X11_judge at h
  obtain ⟨r2, q1, h⟩ := ax_b_of h
  have s12 : ∀ n, ax_ex (e + 7) L_X11_judge 0 (ax_entry [.inr (.inr (22, 0)), .inl v1, .inl v2, .inl v3] 5) [] m (n + 5) = ax_aft (fun s m2 => ax_ex (e + 7) L_X11_judge 5 [some (.inr (.inr (22, 0))), some (.inl v1), some (.inl v2), some (.inl v3), none] s m2 n) [] (ax_ex (e + 6) L_X11_noWalk 0 (ax_entry [.inr (.inr (22, 0)), .inl v1, .inl v2, .inl v3] 4) [] m n) := fun n => rfl
  refine ax_gci (j := 5) (k2 := 5) (lv2 := [some (.inr (.inr (22, 0))), some (.inl v1), some (.inl v2), some (.inl v3), none]) (rest := []) ((R_X11_noWalk (by omega) q1)) s12 ?_
  have s4 : ∀ n, ax_ex (e + 7) L_X11_judge 5 [some (.inr (.inr (22, 0))), some (.inl v1), some (.inl v2), some (.inl v3), none] [.inl r2] m (n + 3) = if 0 ≤ r2 then ax_ex (e + 7) L_X11_judge 12 [some (.inr (.inr (22, 0))), some (.inl v1), some (.inl v2), some (.inl v3), some (.inl r2)] [] m n else ax_ex (e + 7) L_X11_judge 8 [some (.inr (.inr (22, 0))), some (.inl v1), some (.inl v2), some (.inl v3), some (.inl r2)] [] m n := fun n => rfl
  by_cases c3 : 0 ≤ r2
  · rw [if_pos c3] at h
    refine ax_gt c3 s4 ?_
    obtain ⟨r6, q5, h⟩ := ax_b_of h
    have s7 : ∀ n, ax_ex (e + 7) L_X11_judge 12 [some (.inr (.inr (22, 0))), some (.inl v1), some (.inl v2), some (.inl v3), some (.inl r2)] [] m (n + 5) = ax_aft (fun s m2 => ax_ex (e + 7) L_X11_judge 17 [some (.inr (.inr (22, 0))), some (.inl v1), some (.inl v2), some (.inl v3), some (.inl r2)] s m2 n) [] (ax_ex (e + 6) L_X11_wrong 0 (ax_entry [.inr (.inr (22, 0)), .inl v1, .inl v2, .inl v3] 7) [] m n) := fun n => rfl
    refine ax_gci (j := 5) (k2 := 17) (lv2 := [some (.inr (.inr (22, 0))), some (.inl v1), some (.inl v2), some (.inl v3), some (.inl r2)]) (rest := []) ((R_X11_wrong (by omega) q5)) s7 ?_
    obtain rfl := Option.some.inj h
    exact ax_rs 1 (fun n => rfl)
  · rw [if_neg c3] at h
    refine ax_gf c3 s4 ?_
    obtain ⟨r9, m10, q8, h⟩ := ax_b2_of h
    have s11 : ∀ n, ax_ex (e + 7) L_X11_judge 8 [some (.inr (.inr (22, 0))), some (.inl v1), some (.inl v2), some (.inl v3), some (.inl r2)] [] m (n + 3) = ax_aft (fun s m2 => ax_ex (e + 7) L_X11_judge 11 [some (.inr (.inr (22, 0))), some (.inl v1), some (.inl v2), some (.inl v3), some (.inl r2)] s m2 n) [] (ax_ex (e + 6) L_X11_no 0 (ax_entry [.inr (.inr (22, 0)), .inl r2] 2) [] m n) := fun n => rfl
    refine ax_gci (j := 3) (k2 := 11) (lv2 := [some (.inr (.inr (22, 0))), some (.inl v1), some (.inl v2), some (.inl v3), some (.inl r2)]) (rest := []) ((R_X11_no (by omega) q8)) s11 ?_
    obtain rfl := Option.some.inj h
    exact ax_rs 2 (fun n => rfl)
def F_X11_seen_L25 : Nat → ax_M → Int32 → Int32 → Int32 → Int32 → Option (Int32 × ax_M)
  | 0, _, _, _, _, _ => none
  | n + 1, m, v1, v2, v3, v5 => if v3 ≤ v5 then (some ((-1), m)) else (ax_b (F_X11_toldAt m v2 v5) (fun r12 => ax_b (F_X11_isQuiet m v1 r12 (-1)) (fun r14 => if r14 = 0 then (some (v5, m)) else (F_X11_seen_L25 n m v1 v2 v3 (v5 + 1)))))
set_option maxRecDepth 20000 in
set_option maxHeartbeats 4000000 in
theorem R_X11_seen_L25 {e : Nat} {v1 : Int32} {v2 : Int32} {v3 : Int32} : ∀ (n : Nat) (m : ax_M) (v5 : Int32) (q : (Int32 × ax_M)), F_X11_seen_L25 n m v1 v2 v3 v5 = some q → ax_Ru (e + 10) L_X11_seen 25 [some (.inr (.inr (22, 0))), some (.inl v1), some (.inl v2), some (.inl v3), none, some (.inl v5)] [] m (some (.inl q.1), q.2) := by
  intro n
  induction n with
  | zero =>
    intro m v5 q h
    cases h
  | succ n ih =>
    intro m v5 q h
    rw [F_X11_seen_L25] at h
    have s10 : ∀ n, ax_ex (e + 10) L_X11_seen 25 [some (.inr (.inr (22, 0))), some (.inl v1), some (.inl v2), some (.inl v3), none, some (.inl v5)] [] m (n + 3) = if v3 ≤ v5 then ax_ex (e + 10) L_X11_seen 41 [some (.inr (.inr (22, 0))), some (.inl v1), some (.inl v2), some (.inl v3), none, some (.inl v5)] [] m n else ax_ex (e + 10) L_X11_seen 28 [some (.inr (.inr (22, 0))), some (.inl v1), some (.inl v2), some (.inl v3), none, some (.inl v5)] [] m n := fun n => rfl
    by_cases c9 : v3 ≤ v5
    · rw [if_pos c9] at h
      refine ax_gt c9 s10 ?_
      obtain rfl := Option.some.inj h
      exact ax_rs 2 (fun n => rfl)
    · rw [if_neg c9] at h
      refine ax_gf c9 s10 ?_
      obtain ⟨r12, q11, h⟩ := ax_b_of h
      have s18 : ∀ n, ax_ex (e + 10) L_X11_seen 28 [some (.inr (.inr (22, 0))), some (.inl v1), some (.inl v2), some (.inl v3), none, some (.inl v5)] [] m (n + 6) = ax_aft (fun s m2 => ax_ex (e + 10) L_X11_seen 34 [some (.inr (.inr (22, 0))), some (.inl v1), some (.inl v2), some (.inl v3), none, some (.inl v5)] s m2 n) [.inl v1, .inr (.inr (22, 0))] (ax_ex (e + 9) L_X11_toldAt 0 (ax_entry [.inr (.inr (22, 0)), .inl v2, .inl v5] 5) [] m n) := fun n => rfl
      refine ax_gci (j := 6) (k2 := 34) (lv2 := [some (.inr (.inr (22, 0))), some (.inl v1), some (.inl v2), some (.inl v3), none, some (.inl v5)]) (rest := [.inl v1, .inr (.inr (22, 0))]) ((R_X11_toldAt (by omega) q11)) s18 ?_
      obtain ⟨r14, q13, h⟩ := ax_b_of h
      have s17 : ∀ n, ax_ex (e + 10) L_X11_seen 34 [some (.inr (.inr (22, 0))), some (.inl v1), some (.inl v2), some (.inl v3), none, some (.inl v5)] [.inl r12, .inl v1, .inr (.inr (22, 0))] m (n + 2) = ax_aft (fun s m2 => ax_ex (e + 10) L_X11_seen 36 [some (.inr (.inr (22, 0))), some (.inl v1), some (.inl v2), some (.inl v3), none, some (.inl v5)] s m2 n) [] (ax_ex (e + 9) L_X11_isQuiet 0 (ax_entry [.inr (.inr (22, 0)), .inl v1, .inl r12, .inl (-1)] 5) [] m n) := fun n => rfl
      refine ax_gci (j := 2) (k2 := 36) (lv2 := [some (.inr (.inr (22, 0))), some (.inl v1), some (.inl v2), some (.inl v3), none, some (.inl v5)]) (rest := []) ((R_X11_isQuiet (by omega) q13)) s17 ?_
      have s16 : ∀ n, ax_ex (e + 10) L_X11_seen 36 [some (.inr (.inr (22, 0))), some (.inl v1), some (.inl v2), some (.inl v3), none, some (.inl v5)] [.inl r14] m (n + 1) = if r14 = 0 then ax_ex (e + 10) L_X11_seen 37 [some (.inr (.inr (22, 0))), some (.inl v1), some (.inl v2), some (.inl v3), none, some (.inl v5)] [] m n else ax_ex (e + 10) L_X11_seen 39 [some (.inr (.inr (22, 0))), some (.inl v1), some (.inl v2), some (.inl v3), none, some (.inl v5)] [] m n := fun n => rfl
      by_cases c15 : r14 = 0
      · rw [if_pos c15] at h
        refine ax_gt c15 s16 ?_
        obtain rfl := Option.some.inj h
        exact ax_rs 2 (fun n => rfl)
      · rw [if_neg c15] at h
        refine ax_gf c15 s16 ?_
        refine ax_go (j := 2) (k2 := 25) (lv2 := [some (.inr (.inr (22, 0))), some (.inl v1), some (.inl v2), some (.inl v3), none, some (.inl (v5 + 1))]) (st2 := []) (m2 := m) (fun n => rfl) ?_
        exact ax_fg (lv2 := [some (.inr (.inr (22, 0))), some (.inl v1), some (.inl v2), some (.inl v3), none, some (.inl (v5 + 1))]) ⟨rfl, rfl, rfl, rfl, rfl, trivial⟩ (ih m (v5 + 1) _ h)
def F_X11_seen (m : ax_M) (v1 : Int32) (v2 : Int32) (v3 : Int32) : Option (Int32 × ax_M) := ax_b (F_X11_noWalk m v1 v2 v3) (fun r2 => if 0 ≤ r2 then (ax_b (F_X11_wrong m v1 v2 v3) (fun r6 => if r6 = (-1) then (F_X11_seen_L25 ax_FU m v1 v2 v3 0) else (ax_b2 (F_X11_no m (-5)) (fun r21 m22 => some (r21, m22))))) else (ax_b2 (F_X11_no m r2) (fun r26 m27 => some (r26, m27))))
set_option maxRecDepth 20000 in
set_option maxHeartbeats 4000000 in
theorem R_X11_seen {d : Nat} (hd : 10 ≤ d) {m : ax_M} {v1 : Int32} {v2 : Int32} {v3 : Int32} {q : (Int32 × ax_M)} (h : F_X11_seen m v1 v2 v3 = some q) : ax_Ru d L_X11_seen 0 (ax_entry [.inr (.inr (22, 0)), .inl v1, .inl v2, .inl v3] 6) [] m (some (.inl q.1), q.2) := by
  obtain ⟨e, rfl⟩ : ∃ e, d = e + 10 := ⟨d - 10, by omega⟩
  unfold F_X11_seen at h
  obtain ⟨r2, q1, h⟩ := ax_b_of h
  have s29 : ∀ n, ax_ex (e + 10) L_X11_seen 0 (ax_entry [.inr (.inr (22, 0)), .inl v1, .inl v2, .inl v3] 6) [] m (n + 5) = ax_aft (fun s m2 => ax_ex (e + 10) L_X11_seen 5 [some (.inr (.inr (22, 0))), some (.inl v1), some (.inl v2), some (.inl v3), none, none] s m2 n) [] (ax_ex (e + 9) L_X11_noWalk 0 (ax_entry [.inr (.inr (22, 0)), .inl v1, .inl v2, .inl v3] 4) [] m n) := fun n => rfl
  refine ax_gci (j := 5) (k2 := 5) (lv2 := [some (.inr (.inr (22, 0))), some (.inl v1), some (.inl v2), some (.inl v3), none, none]) (rest := []) ((R_X11_noWalk (by omega) q1)) s29 ?_
  have s4 : ∀ n, ax_ex (e + 10) L_X11_seen 5 [some (.inr (.inr (22, 0))), some (.inl v1), some (.inl v2), some (.inl v3), none, none] [.inl r2] m (n + 3) = if 0 ≤ r2 then ax_ex (e + 10) L_X11_seen 12 [some (.inr (.inr (22, 0))), some (.inl v1), some (.inl v2), some (.inl v3), some (.inl r2), none] [] m n else ax_ex (e + 10) L_X11_seen 8 [some (.inr (.inr (22, 0))), some (.inl v1), some (.inl v2), some (.inl v3), some (.inl r2), none] [] m n := fun n => rfl
  by_cases c3 : 0 ≤ r2
  · rw [if_pos c3] at h
    refine ax_gt c3 s4 ?_
    obtain ⟨r6, q5, h⟩ := ax_b_of h
    have s24 : ∀ n, ax_ex (e + 10) L_X11_seen 12 [some (.inr (.inr (22, 0))), some (.inl v1), some (.inl v2), some (.inl v3), some (.inl r2), none] [] m (n + 5) = ax_aft (fun s m2 => ax_ex (e + 10) L_X11_seen 17 [some (.inr (.inr (22, 0))), some (.inl v1), some (.inl v2), some (.inl v3), some (.inl r2), none] s m2 n) [] (ax_ex (e + 9) L_X11_wrong 0 (ax_entry [.inr (.inr (22, 0)), .inl v1, .inl v2, .inl v3] 7) [] m n) := fun n => rfl
    refine ax_gci (j := 5) (k2 := 17) (lv2 := [some (.inr (.inr (22, 0))), some (.inl v1), some (.inl v2), some (.inl v3), some (.inl r2), none]) (rest := []) ((R_X11_wrong (by omega) q5)) s24 ?_
    have s8 : ∀ n, ax_ex (e + 10) L_X11_seen 17 [some (.inr (.inr (22, 0))), some (.inl v1), some (.inl v2), some (.inl v3), some (.inl r2), none] [.inl r6] m (n + 2) = if r6 = (-1) then ax_ex (e + 10) L_X11_seen 23 [some (.inr (.inr (22, 0))), some (.inl v1), some (.inl v2), some (.inl v3), some (.inl r2), none] [] m n else ax_ex (e + 10) L_X11_seen 19 [some (.inr (.inr (22, 0))), some (.inl v1), some (.inl v2), some (.inl v3), some (.inl r2), none] [] m n := fun n => rfl
    by_cases c7 : r6 = (-1)
    · rw [if_pos c7] at h
      refine ax_gt c7 s8 ?_
      refine ax_go (j := 2) (k2 := 25) (lv2 := [some (.inr (.inr (22, 0))), some (.inl v1), some (.inl v2), some (.inl v3), some (.inl r2), some (.inl 0)]) (st2 := []) (m2 := m) (fun n => rfl) ?_
      refine ax_fg (lv2 := [some (.inr (.inr (22, 0))), some (.inl v1), some (.inl v2), some (.inl v3), none, some (.inl 0)]) ⟨rfl, rfl, rfl, rfl, rfl, trivial⟩ ?_
      refine R_X11_seen_L25 _ m 0 _ h
    · rw [if_neg c7] at h
      refine ax_gf c7 s8 ?_
      obtain ⟨r21, m22, q20, h⟩ := ax_b2_of h
      have s23 : ∀ n, ax_ex (e + 10) L_X11_seen 19 [some (.inr (.inr (22, 0))), some (.inl v1), some (.inl v2), some (.inl v3), some (.inl r2), none] [] m (n + 3) = ax_aft (fun s m2 => ax_ex (e + 10) L_X11_seen 22 [some (.inr (.inr (22, 0))), some (.inl v1), some (.inl v2), some (.inl v3), some (.inl r2), none] s m2 n) [] (ax_ex (e + 9) L_X11_no 0 (ax_entry [.inr (.inr (22, 0)), .inl (-5)] 2) [] m n) := fun n => rfl
      refine ax_gci (j := 3) (k2 := 22) (lv2 := [some (.inr (.inr (22, 0))), some (.inl v1), some (.inl v2), some (.inl v3), some (.inl r2), none]) (rest := []) ((R_X11_no (by omega) q20)) s23 ?_
      obtain rfl := Option.some.inj h
      exact ax_rs 1 (fun n => rfl)
  · rw [if_neg c3] at h
    refine ax_gf c3 s4 ?_
    obtain ⟨r26, m27, q25, h⟩ := ax_b2_of h
    have s28 : ∀ n, ax_ex (e + 10) L_X11_seen 8 [some (.inr (.inr (22, 0))), some (.inl v1), some (.inl v2), some (.inl v3), some (.inl r2), none] [] m (n + 3) = ax_aft (fun s m2 => ax_ex (e + 10) L_X11_seen 11 [some (.inr (.inr (22, 0))), some (.inl v1), some (.inl v2), some (.inl v3), some (.inl r2), none] s m2 n) [] (ax_ex (e + 9) L_X11_no 0 (ax_entry [.inr (.inr (22, 0)), .inl r2] 2) [] m n) := fun n => rfl
    refine ax_gci (j := 3) (k2 := 11) (lv2 := [some (.inr (.inr (22, 0))), some (.inl v1), some (.inl v2), some (.inl v3), some (.inl r2), none]) (rest := []) ((R_X11_no (by omega) q25)) s28 ?_
    obtain rfl := Option.some.inj h
    exact ax_rs 1 (fun n => rfl)
def F_X11_walk (m : ax_M) (v1 : Int32) (v2 : Int32) (v3 : Int32) : Option (Int32 × ax_M) := ax_b (F_X11_noWalk m v1 v2 v3) (fun r2 => if 0 ≤ r2 then (ax_b (F_X11_wrong m v1 v2 v3) (fun r6 => if r6 = (-1) then (if v3 ≤ 0 then (if ax_ok v1 8 = true then (some ((m.1 24 0 v1.toNatClampNeg), m)) else (none)) else (ax_b (F_X11_toldAt m v2 (v3 - 1)) (fun r14 => if ax_ok v1 8 = true then (if ax_ok v1 8 = true then (some (((ax_ui m 24 0 v1.toNatClampNeg r14).1 24 0 v1.toNatClampNeg), (ax_ui m 24 0 v1.toNatClampNeg r14))) else (none)) else (none)))) else (ax_b2 (F_X11_no m (-5)) (fun r21 m22 => some (r21, m22))))) else (ax_b2 (F_X11_no m r2) (fun r26 m27 => some (r26, m27))))
set_option maxRecDepth 20000 in
set_option maxHeartbeats 4000000 in
theorem R_X11_walk {d : Nat} (hd : 7 ≤ d) {m : ax_M} {v1 : Int32} {v2 : Int32} {v3 : Int32} {q : (Int32 × ax_M)} (h : F_X11_walk m v1 v2 v3 = some q) : ax_Ru d L_X11_walk 0 (ax_entry [.inr (.inr (22, 0)), .inl v1, .inl v2, .inl v3] 5) [] m (some (.inl q.1), q.2) := by
  obtain ⟨e, rfl⟩ : ∃ e, d = e + 7 := ⟨d - 7, by omega⟩
  unfold F_X11_walk at h
  obtain ⟨r2, q1, h⟩ := ax_b_of h
  have s29 : ∀ n, ax_ex (e + 7) L_X11_walk 0 (ax_entry [.inr (.inr (22, 0)), .inl v1, .inl v2, .inl v3] 5) [] m (n + 5) = ax_aft (fun s m2 => ax_ex (e + 7) L_X11_walk 5 [some (.inr (.inr (22, 0))), some (.inl v1), some (.inl v2), some (.inl v3), none] s m2 n) [] (ax_ex (e + 6) L_X11_noWalk 0 (ax_entry [.inr (.inr (22, 0)), .inl v1, .inl v2, .inl v3] 4) [] m n) := fun n => rfl
  refine ax_gci (j := 5) (k2 := 5) (lv2 := [some (.inr (.inr (22, 0))), some (.inl v1), some (.inl v2), some (.inl v3), none]) (rest := []) ((R_X11_noWalk (by omega) q1)) s29 ?_
  have s4 : ∀ n, ax_ex (e + 7) L_X11_walk 5 [some (.inr (.inr (22, 0))), some (.inl v1), some (.inl v2), some (.inl v3), none] [.inl r2] m (n + 3) = if 0 ≤ r2 then ax_ex (e + 7) L_X11_walk 12 [some (.inr (.inr (22, 0))), some (.inl v1), some (.inl v2), some (.inl v3), some (.inl r2)] [] m n else ax_ex (e + 7) L_X11_walk 8 [some (.inr (.inr (22, 0))), some (.inl v1), some (.inl v2), some (.inl v3), some (.inl r2)] [] m n := fun n => rfl
  by_cases c3 : 0 ≤ r2
  · rw [if_pos c3] at h
    refine ax_gt c3 s4 ?_
    obtain ⟨r6, q5, h⟩ := ax_b_of h
    have s24 : ∀ n, ax_ex (e + 7) L_X11_walk 12 [some (.inr (.inr (22, 0))), some (.inl v1), some (.inl v2), some (.inl v3), some (.inl r2)] [] m (n + 5) = ax_aft (fun s m2 => ax_ex (e + 7) L_X11_walk 17 [some (.inr (.inr (22, 0))), some (.inl v1), some (.inl v2), some (.inl v3), some (.inl r2)] s m2 n) [] (ax_ex (e + 6) L_X11_wrong 0 (ax_entry [.inr (.inr (22, 0)), .inl v1, .inl v2, .inl v3] 7) [] m n) := fun n => rfl
    refine ax_gci (j := 5) (k2 := 17) (lv2 := [some (.inr (.inr (22, 0))), some (.inl v1), some (.inl v2), some (.inl v3), some (.inl r2)]) (rest := []) ((R_X11_wrong (by omega) q5)) s24 ?_
    have s8 : ∀ n, ax_ex (e + 7) L_X11_walk 17 [some (.inr (.inr (22, 0))), some (.inl v1), some (.inl v2), some (.inl v3), some (.inl r2)] [.inl r6] m (n + 2) = if r6 = (-1) then ax_ex (e + 7) L_X11_walk 23 [some (.inr (.inr (22, 0))), some (.inl v1), some (.inl v2), some (.inl v3), some (.inl r2)] [] m n else ax_ex (e + 7) L_X11_walk 19 [some (.inr (.inr (22, 0))), some (.inl v1), some (.inl v2), some (.inl v3), some (.inl r2)] [] m n := fun n => rfl
    by_cases c7 : r6 = (-1)
    · rw [if_pos c7] at h
      refine ax_gt c7 s8 ?_
      have s10 : ∀ n, ax_ex (e + 7) L_X11_walk 23 [some (.inr (.inr (22, 0))), some (.inl v1), some (.inl v2), some (.inl v3), some (.inl r2)] [] m (n + 2) = if v3 ≤ 0 then ax_ex (e + 7) L_X11_walk 35 [some (.inr (.inr (22, 0))), some (.inl v1), some (.inl v2), some (.inl v3), some (.inl r2)] [] m n else ax_ex (e + 7) L_X11_walk 25 [some (.inr (.inr (22, 0))), some (.inl v1), some (.inl v2), some (.inl v3), some (.inl r2)] [] m n := fun n => rfl
      by_cases c9 : v3 ≤ 0
      · rw [if_pos c9] at h
        refine ax_gt c9 s10 ?_
        have s12 : ∀ n, ax_ex (e + 7) L_X11_walk 35 [some (.inr (.inr (22, 0))), some (.inl v1), some (.inl v2), some (.inl v3), some (.inl r2)] [] m (n + 4) = if ax_ok v1 8 = true then ax_ex (e + 7) L_X11_walk 39 [some (.inr (.inr (22, 0))), some (.inl v1), some (.inl v2), some (.inl v3), some (.inl r2)] [.inl (m.1 24 0 v1.toNatClampNeg)] m n else none := fun n => rfl
        by_cases c11 : ax_ok v1 8 = true
        · rw [if_pos c11] at h
          refine ax_gt c11 s12 ?_
          obtain rfl := Option.some.inj h
          exact ax_rs 1 (fun n => rfl)
        · rw [if_neg c11] at h
          cases h
      · rw [if_neg c9] at h
        refine ax_gf c9 s10 ?_
        obtain ⟨r14, q13, h⟩ := ax_b_of h
        have s19 : ∀ n, ax_ex (e + 7) L_X11_walk 25 [some (.inr (.inr (22, 0))), some (.inl v1), some (.inl v2), some (.inl v3), some (.inl r2)] [] m (n + 9) = ax_aft (fun s m2 => ax_ex (e + 7) L_X11_walk 34 [some (.inr (.inr (22, 0))), some (.inl v1), some (.inl v2), some (.inl v3), some (.inl r2)] s m2 n) [.inl v1, .inr (.inr (24, 0))] (ax_ex (e + 6) L_X11_toldAt 0 (ax_entry [.inr (.inr (22, 0)), .inl v2, .inl (v3 - 1)] 5) [] m n) := fun n => rfl
        refine ax_gci (j := 9) (k2 := 34) (lv2 := [some (.inr (.inr (22, 0))), some (.inl v1), some (.inl v2), some (.inl v3), some (.inl r2)]) (rest := [.inl v1, .inr (.inr (24, 0))]) ((R_X11_toldAt (by omega) q13)) s19 ?_
        have s16 : ∀ n, ax_ex (e + 7) L_X11_walk 34 [some (.inr (.inr (22, 0))), some (.inl v1), some (.inl v2), some (.inl v3), some (.inl r2)] [.inl r14, .inl v1, .inr (.inr (24, 0))] m (n + 1) = if ax_ok v1 8 = true then ax_ex (e + 7) L_X11_walk 35 [some (.inr (.inr (22, 0))), some (.inl v1), some (.inl v2), some (.inl v3), some (.inl r2)] [] (ax_ui m 24 0 v1.toNatClampNeg r14) n else none := fun n => rfl
        by_cases c15 : ax_ok v1 8 = true
        · rw [if_pos c15] at h
          refine ax_gt c15 s16 ?_
          have s18 : ∀ n, ax_ex (e + 7) L_X11_walk 35 [some (.inr (.inr (22, 0))), some (.inl v1), some (.inl v2), some (.inl v3), some (.inl r2)] [] (ax_ui m 24 0 v1.toNatClampNeg r14) (n + 4) = if ax_ok v1 8 = true then ax_ex (e + 7) L_X11_walk 39 [some (.inr (.inr (22, 0))), some (.inl v1), some (.inl v2), some (.inl v3), some (.inl r2)] [.inl ((ax_ui m 24 0 v1.toNatClampNeg r14).1 24 0 v1.toNatClampNeg)] (ax_ui m 24 0 v1.toNatClampNeg r14) n else none := fun n => rfl
          by_cases c17 : ax_ok v1 8 = true
          · rw [if_pos c17] at h
            refine ax_gt c17 s18 ?_
            obtain rfl := Option.some.inj h
            exact ax_rs 1 (fun n => rfl)
          · rw [if_neg c17] at h
            cases h
        · rw [if_neg c15] at h
          cases h
    · rw [if_neg c7] at h
      refine ax_gf c7 s8 ?_
      obtain ⟨r21, m22, q20, h⟩ := ax_b2_of h
      have s23 : ∀ n, ax_ex (e + 7) L_X11_walk 19 [some (.inr (.inr (22, 0))), some (.inl v1), some (.inl v2), some (.inl v3), some (.inl r2)] [] m (n + 3) = ax_aft (fun s m2 => ax_ex (e + 7) L_X11_walk 22 [some (.inr (.inr (22, 0))), some (.inl v1), some (.inl v2), some (.inl v3), some (.inl r2)] s m2 n) [] (ax_ex (e + 6) L_X11_no 0 (ax_entry [.inr (.inr (22, 0)), .inl (-5)] 2) [] m n) := fun n => rfl
      refine ax_gci (j := 3) (k2 := 22) (lv2 := [some (.inr (.inr (22, 0))), some (.inl v1), some (.inl v2), some (.inl v3), some (.inl r2)]) (rest := []) ((R_X11_no (by omega) q20)) s23 ?_
      obtain rfl := Option.some.inj h
      exact ax_rs 1 (fun n => rfl)
  · rw [if_neg c3] at h
    refine ax_gf c3 s4 ?_
    obtain ⟨r26, m27, q25, h⟩ := ax_b2_of h
    have s28 : ∀ n, ax_ex (e + 7) L_X11_walk 8 [some (.inr (.inr (22, 0))), some (.inl v1), some (.inl v2), some (.inl v3), some (.inl r2)] [] m (n + 3) = ax_aft (fun s m2 => ax_ex (e + 7) L_X11_walk 11 [some (.inr (.inr (22, 0))), some (.inl v1), some (.inl v2), some (.inl v3), some (.inl r2)] s m2 n) [] (ax_ex (e + 6) L_X11_no 0 (ax_entry [.inr (.inr (22, 0)), .inl r2] 2) [] m n) := fun n => rfl
    refine ax_gci (j := 3) (k2 := 11) (lv2 := [some (.inr (.inr (22, 0))), some (.inl v1), some (.inl v2), some (.inl v3), some (.inl r2)]) (rest := []) ((R_X11_no (by omega) q25)) s28 ?_
    obtain rfl := Option.some.inj h
    exact ax_rs 1 (fun n => rfl)
def F_X11_goes (m : ax_M) (v1 : Int32) (v2 : Int32) : Option (Int32 × ax_M) := if ax_ok v1 8 = true then (ax_b (F_X11_beside (m.1 24 0 v1.toNatClampNeg) v2) (fun r4 => if r4 = (-1) then (some (0, m)) else (if ax_ok r4 64 = true then (if (m.1 23 0 r4.toNatClampNeg) = 0 then (if ax_ok v1 8 = true then (some (1, (ax_ui m 24 0 v1.toNatClampNeg r4))) else (none)) else (some (0, m))) else (none)))) else (none)
set_option maxRecDepth 20000 in
set_option maxHeartbeats 4000000 in
theorem R_X11_goes {d : Nat} (hd : 2 ≤ d) {m : ax_M} {v1 : Int32} {v2 : Int32} {q : (Int32 × ax_M)} (h : F_X11_goes m v1 v2 = some q) : ax_Ru d L_X11_goes 0 (ax_entry [.inr (.inr (22, 0)), .inl v1, .inl v2] 4) [] m (some (.inl q.1), q.2) := by
  obtain ⟨e, rfl⟩ : ∃ e, d = e + 2 := ⟨d - 2, by omega⟩
  unfold F_X11_goes at h
  have s2 : ∀ n, ax_ex (e + 2) L_X11_goes 0 (ax_entry [.inr (.inr (22, 0)), .inl v1, .inl v2] 4) [] m (n + 4) = if ax_ok v1 8 = true then ax_ex (e + 2) L_X11_goes 4 [some (.inr (.inr (22, 0))), some (.inl v1), some (.inl v2), none] [.inl (m.1 24 0 v1.toNatClampNeg)] m n else none := fun n => rfl
  by_cases c1 : ax_ok v1 8 = true
  · rw [if_pos c1] at h
    refine ax_gt c1 s2 ?_
    obtain ⟨r4, q3, h⟩ := ax_b_of h
    have s13 : ∀ n, ax_ex (e + 2) L_X11_goes 4 [some (.inr (.inr (22, 0))), some (.inl v1), some (.inl v2), none] [.inl (m.1 24 0 v1.toNatClampNeg)] m (n + 2) = ax_aft (fun s m2 => ax_ex (e + 2) L_X11_goes 6 [some (.inr (.inr (22, 0))), some (.inl v1), some (.inl v2), none] s m2 n) [] (ax_ex (e + 1) L_X11_beside 0 (ax_entry [.inl (m.1 24 0 v1.toNatClampNeg), .inl v2] 2) [] m n) := fun n => rfl
    refine ax_gci (j := 2) (k2 := 6) (lv2 := [some (.inr (.inr (22, 0))), some (.inl v1), some (.inl v2), none]) (rest := []) ((R_X11_beside (by omega) q3)) s13 ?_
    have s6 : ∀ n, ax_ex (e + 2) L_X11_goes 6 [some (.inr (.inr (22, 0))), some (.inl v1), some (.inl v2), none] [.inl r4] m (n + 4) = if r4 = (-1) then ax_ex (e + 2) L_X11_goes 15 [some (.inr (.inr (22, 0))), some (.inl v1), some (.inl v2), some (.inl r4)] [] m n else ax_ex (e + 2) L_X11_goes 10 [some (.inr (.inr (22, 0))), some (.inl v1), some (.inl v2), some (.inl r4)] [] m n := fun n => rfl
    by_cases c5 : r4 = (-1)
    · rw [if_pos c5] at h
      refine ax_gt c5 s6 ?_
      obtain rfl := Option.some.inj h
      exact ax_rq (c := (0 : Int32) = 0 ∨ (0 : Int32) = 1) (j := 2) (by decide) (fun n => rfl)
    · rw [if_neg c5] at h
      refine ax_gf c5 s6 ?_
      have s8 : ∀ n, ax_ex (e + 2) L_X11_goes 10 [some (.inr (.inr (22, 0))), some (.inl v1), some (.inl v2), some (.inl r4)] [] m (n + 4) = if ax_ok r4 64 = true then ax_ex (e + 2) L_X11_goes 14 [some (.inr (.inr (22, 0))), some (.inl v1), some (.inl v2), some (.inl r4)] [.inl (m.1 23 0 r4.toNatClampNeg)] m n else none := fun n => rfl
      by_cases c7 : ax_ok r4 64 = true
      · rw [if_pos c7] at h
        refine ax_gt c7 s8 ?_
        have s10 : ∀ n, ax_ex (e + 2) L_X11_goes 14 [some (.inr (.inr (22, 0))), some (.inl v1), some (.inl v2), some (.inl r4)] [.inl (m.1 23 0 r4.toNatClampNeg)] m (n + 1) = if (m.1 23 0 r4.toNatClampNeg) = 0 then ax_ex (e + 2) L_X11_goes 17 [some (.inr (.inr (22, 0))), some (.inl v1), some (.inl v2), some (.inl r4)] [] m n else ax_ex (e + 2) L_X11_goes 15 [some (.inr (.inr (22, 0))), some (.inl v1), some (.inl v2), some (.inl r4)] [] m n := fun n => rfl
        by_cases c9 : (m.1 23 0 r4.toNatClampNeg) = 0
        · rw [if_pos c9] at h
          refine ax_gt c9 s10 ?_
          have s12 : ∀ n, ax_ex (e + 2) L_X11_goes 17 [some (.inr (.inr (22, 0))), some (.inl v1), some (.inl v2), some (.inl r4)] [] m (n + 5) = if ax_ok v1 8 = true then ax_ex (e + 2) L_X11_goes 22 [some (.inr (.inr (22, 0))), some (.inl v1), some (.inl v2), some (.inl r4)] [] (ax_ui m 24 0 v1.toNatClampNeg r4) n else none := fun n => rfl
          by_cases c11 : ax_ok v1 8 = true
          · rw [if_pos c11] at h
            refine ax_gt c11 s12 ?_
            obtain rfl := Option.some.inj h
            exact ax_rq (c := (1 : Int32) = 0 ∨ (1 : Int32) = 1) (j := 2) (by decide) (fun n => rfl)
          · rw [if_neg c11] at h
            cases h
        · rw [if_neg c9] at h
          refine ax_gf c9 s10 ?_
          obtain rfl := Option.some.inj h
          exact ax_rq (c := (0 : Int32) = 0 ∨ (0 : Int32) = 1) (j := 2) (by decide) (fun n => rfl)
      · rw [if_neg c7] at h
        cases h
  · rw [if_neg c1] at h
    cases h
def F_X11_step (m : ax_M) (v1 : Int32) (v2 : Int32) : Option (Int32 × ax_M) := ax_b (F_X11_isOne m v1) (fun r2 => if r2 = 0 then (ax_b2 (F_X11_no m (-2)) (fun r6 m7 => some (r6, m7))) else (ax_b (F_X11_within v2 0 3) (fun r10 => if r10 = 0 then (ax_b2 (F_X11_no m (-2)) (fun r14 m15 => some (r14, m15))) else (ax_b2 (F_X11_goes m v1 v2) (fun r18 m19 => if r18 = 0 then (ax_b2 (F_X11_no m19 (-5)) (fun r23 m24 => some (r23, m24))) else (if ax_ok v1 8 = true then (some ((m19.1 24 0 v1.toNatClampNeg), m19)) else (none)))))))
set_option maxRecDepth 20000 in
set_option maxHeartbeats 4000000 in
theorem R_X11_step {d : Nat} (hd : 3 ≤ d) {m : ax_M} {v1 : Int32} {v2 : Int32} {q : (Int32 × ax_M)} (h : F_X11_step m v1 v2 = some q) : ax_Ru d L_X11_step 0 (ax_entry [.inr (.inr (22, 0)), .inl v1, .inl v2] 3) [] m (some (.inl q.1), q.2) := by
  obtain ⟨e, rfl⟩ : ∃ e, d = e + 3 := ⟨d - 3, by omega⟩
  unfold F_X11_step at h
  obtain ⟨r2, q1, h⟩ := ax_b_of h
  have s30 : ∀ n, ax_ex (e + 3) L_X11_step 0 (ax_entry [.inr (.inr (22, 0)), .inl v1, .inl v2] 3) [] m (n + 3) = ax_aft (fun s m2 => ax_ex (e + 3) L_X11_step 3 [some (.inr (.inr (22, 0))), some (.inl v1), some (.inl v2)] s m2 n) [] (ax_ex (e + 2) L_X11_isOne 0 (ax_entry [.inr (.inr (22, 0)), .inl v1] 2) [] m n) := fun n => rfl
  refine ax_gci (j := 3) (k2 := 3) (lv2 := [some (.inr (.inr (22, 0))), some (.inl v1), some (.inl v2)]) (rest := []) ((R_X11_isOne (by omega) q1)) s30 ?_
  have s4 : ∀ n, ax_ex (e + 3) L_X11_step 3 [some (.inr (.inr (22, 0))), some (.inl v1), some (.inl v2)] [.inl r2] m (n + 1) = if r2 = 0 then ax_ex (e + 3) L_X11_step 9 [some (.inr (.inr (22, 0))), some (.inl v1), some (.inl v2)] [] m n else ax_ex (e + 3) L_X11_step 4 [some (.inr (.inr (22, 0))), some (.inl v1), some (.inl v2)] [] m n := fun n => rfl
  by_cases c3 : r2 = 0
  · rw [if_pos c3] at h
    refine ax_gt c3 s4 ?_
    obtain ⟨r6, m7, q5, h⟩ := ax_b2_of h
    have s8 : ∀ n, ax_ex (e + 3) L_X11_step 9 [some (.inr (.inr (22, 0))), some (.inl v1), some (.inl v2)] [] m (n + 3) = ax_aft (fun s m2 => ax_ex (e + 3) L_X11_step 12 [some (.inr (.inr (22, 0))), some (.inl v1), some (.inl v2)] s m2 n) [] (ax_ex (e + 2) L_X11_no 0 (ax_entry [.inr (.inr (22, 0)), .inl (-2)] 2) [] m n) := fun n => rfl
    refine ax_gci (j := 3) (k2 := 12) (lv2 := [some (.inr (.inr (22, 0))), some (.inl v1), some (.inl v2)]) (rest := []) ((R_X11_no (by omega) q5)) s8 ?_
    obtain rfl := Option.some.inj h
    exact ax_rs 1 (fun n => rfl)
  · rw [if_neg c3] at h
    refine ax_gf c3 s4 ?_
    obtain ⟨r10, q9, h⟩ := ax_b_of h
    have s29 : ∀ n, ax_ex (e + 3) L_X11_step 4 [some (.inr (.inr (22, 0))), some (.inl v1), some (.inl v2)] [] m (n + 4) = ax_aft (fun s m2 => ax_ex (e + 3) L_X11_step 8 [some (.inr (.inr (22, 0))), some (.inl v1), some (.inl v2)] s m2 n) [] (ax_ex (e + 2) L_X11_within 0 (ax_entry [.inl v2, .inl 0, .inl 3] 3) [] m n) := fun n => rfl
    refine ax_gci (j := 4) (k2 := 8) (lv2 := [some (.inr (.inr (22, 0))), some (.inl v1), some (.inl v2)]) (rest := []) ((R_X11_within (by omega) q9)) s29 ?_
    have s12 : ∀ n, ax_ex (e + 3) L_X11_step 8 [some (.inr (.inr (22, 0))), some (.inl v1), some (.inl v2)] [.inl r10] m (n + 1) = if r10 = 0 then ax_ex (e + 3) L_X11_step 9 [some (.inr (.inr (22, 0))), some (.inl v1), some (.inl v2)] [] m n else ax_ex (e + 3) L_X11_step 13 [some (.inr (.inr (22, 0))), some (.inl v1), some (.inl v2)] [] m n := fun n => rfl
    by_cases c11 : r10 = 0
    · rw [if_pos c11] at h
      refine ax_gt c11 s12 ?_
      obtain ⟨r14, m15, q13, h⟩ := ax_b2_of h
      have s16 : ∀ n, ax_ex (e + 3) L_X11_step 9 [some (.inr (.inr (22, 0))), some (.inl v1), some (.inl v2)] [] m (n + 3) = ax_aft (fun s m2 => ax_ex (e + 3) L_X11_step 12 [some (.inr (.inr (22, 0))), some (.inl v1), some (.inl v2)] s m2 n) [] (ax_ex (e + 2) L_X11_no 0 (ax_entry [.inr (.inr (22, 0)), .inl (-2)] 2) [] m n) := fun n => rfl
      refine ax_gci (j := 3) (k2 := 12) (lv2 := [some (.inr (.inr (22, 0))), some (.inl v1), some (.inl v2)]) (rest := []) ((R_X11_no (by omega) q13)) s16 ?_
      obtain rfl := Option.some.inj h
      exact ax_rs 1 (fun n => rfl)
    · rw [if_neg c11] at h
      refine ax_gf c11 s12 ?_
      obtain ⟨r18, m19, q17, h⟩ := ax_b2_of h
      have s28 : ∀ n, ax_ex (e + 3) L_X11_step 13 [some (.inr (.inr (22, 0))), some (.inl v1), some (.inl v2)] [] m (n + 4) = ax_aft (fun s m2 => ax_ex (e + 3) L_X11_step 17 [some (.inr (.inr (22, 0))), some (.inl v1), some (.inl v2)] s m2 n) [] (ax_ex (e + 2) L_X11_goes 0 (ax_entry [.inr (.inr (22, 0)), .inl v1, .inl v2] 4) [] m n) := fun n => rfl
      refine ax_gci (j := 4) (k2 := 17) (lv2 := [some (.inr (.inr (22, 0))), some (.inl v1), some (.inl v2)]) (rest := []) ((R_X11_goes (by omega) q17)) s28 ?_
      have s21 : ∀ n, ax_ex (e + 3) L_X11_step 17 [some (.inr (.inr (22, 0))), some (.inl v1), some (.inl v2)] [.inl r18] m19 (n + 1) = if r18 = 0 then ax_ex (e + 3) L_X11_step 23 [some (.inr (.inr (22, 0))), some (.inl v1), some (.inl v2)] [] m19 n else ax_ex (e + 3) L_X11_step 18 [some (.inr (.inr (22, 0))), some (.inl v1), some (.inl v2)] [] m19 n := fun n => rfl
      by_cases c20 : r18 = 0
      · rw [if_pos c20] at h
        refine ax_gt c20 s21 ?_
        obtain ⟨r23, m24, q22, h⟩ := ax_b2_of h
        have s25 : ∀ n, ax_ex (e + 3) L_X11_step 23 [some (.inr (.inr (22, 0))), some (.inl v1), some (.inl v2)] [] m19 (n + 3) = ax_aft (fun s m2 => ax_ex (e + 3) L_X11_step 26 [some (.inr (.inr (22, 0))), some (.inl v1), some (.inl v2)] s m2 n) [] (ax_ex (e + 2) L_X11_no 0 (ax_entry [.inr (.inr (22, 0)), .inl (-5)] 2) [] m19 n) := fun n => rfl
        refine ax_gci (j := 3) (k2 := 26) (lv2 := [some (.inr (.inr (22, 0))), some (.inl v1), some (.inl v2)]) (rest := []) ((R_X11_no (by omega) q22)) s25 ?_
        obtain rfl := Option.some.inj h
        exact ax_rs 1 (fun n => rfl)
      · rw [if_neg c20] at h
        refine ax_gf c20 s21 ?_
        have s27 : ∀ n, ax_ex (e + 3) L_X11_step 18 [some (.inr (.inr (22, 0))), some (.inl v1), some (.inl v2)] [] m19 (n + 4) = if ax_ok v1 8 = true then ax_ex (e + 3) L_X11_step 22 [some (.inr (.inr (22, 0))), some (.inl v1), some (.inl v2)] [.inl (m19.1 24 0 v1.toNatClampNeg)] m19 n else none := fun n => rfl
        by_cases c26 : ax_ok v1 8 = true
        · rw [if_pos c26] at h
          refine ax_gt c26 s27 ?_
          obtain rfl := Option.some.inj h
          exact ax_rs 2 (fun n => rfl)
        · rw [if_neg c26] at h
          cases h
def F_X11_pay (m : ax_M) (v1 : Int32) (v2 : Int32) (v3 : Int32) : Option (Int32 × ax_M) := ax_b (F_X11_areTwo m v1 v2) (fun r2 => if r2 = 0 then (ax_b2 (F_X11_no m (-2)) (fun r6 m7 => some (r6, m7))) else (ax_b (F_X11_within v3 1 999) (fun r10 => if r10 = 0 then (ax_b2 (F_X11_no m (-2)) (fun r14 m15 => some (r14, m15))) else (if ax_ok ((8 * v1) + v2) 64 = true then (if v3 ≤ (m.1 25 0 ((8 * v1) + v2).toNatClampNeg) then (if ax_ok ((8 * v1) + v2) 64 = true then (if ax_ok ((8 * v1) + v2) 64 = true then (if ax_ok ((8 * v1) + v2) 64 = true then (some (((ax_ui m 25 0 ((8 * v1) + v2).toNatClampNeg ((m.1 25 0 ((8 * v1) + v2).toNatClampNeg) - v3)).1 25 0 ((8 * v1) + v2).toNatClampNeg), (ax_ui m 25 0 ((8 * v1) + v2).toNatClampNeg ((m.1 25 0 ((8 * v1) + v2).toNatClampNeg) - v3)))) else (none)) else (none)) else (none)) else (ax_b2 (F_X11_no m (-5)) (fun r29 m30 => some (r29, m30)))) else (none)))))
set_option maxRecDepth 20000 in
set_option maxHeartbeats 4000000 in
theorem R_X11_pay {d : Nat} (hd : 4 ≤ d) {m : ax_M} {v1 : Int32} {v2 : Int32} {v3 : Int32} {q : (Int32 × ax_M)} (h : F_X11_pay m v1 v2 v3 = some q) : ax_Ru d L_X11_pay 0 (ax_entry [.inr (.inr (22, 0)), .inl v1, .inl v2, .inl v3] 4) [] m (some (.inl q.1), q.2) := by
  obtain ⟨e, rfl⟩ : ∃ e, d = e + 4 := ⟨d - 4, by omega⟩
  unfold F_X11_pay at h
  obtain ⟨r2, q1, h⟩ := ax_b_of h
  have s33 : ∀ n, ax_ex (e + 4) L_X11_pay 0 (ax_entry [.inr (.inr (22, 0)), .inl v1, .inl v2, .inl v3] 4) [] m (n + 4) = ax_aft (fun s m2 => ax_ex (e + 4) L_X11_pay 4 [some (.inr (.inr (22, 0))), some (.inl v1), some (.inl v2), some (.inl v3)] s m2 n) [] (ax_ex (e + 3) L_X11_areTwo 0 (ax_entry [.inr (.inr (22, 0)), .inl v1, .inl v2] 3) [] m n) := fun n => rfl
  refine ax_gci (j := 4) (k2 := 4) (lv2 := [some (.inr (.inr (22, 0))), some (.inl v1), some (.inl v2), some (.inl v3)]) (rest := []) ((R_X11_areTwo (by omega) q1)) s33 ?_
  have s4 : ∀ n, ax_ex (e + 4) L_X11_pay 4 [some (.inr (.inr (22, 0))), some (.inl v1), some (.inl v2), some (.inl v3)] [.inl r2] m (n + 1) = if r2 = 0 then ax_ex (e + 4) L_X11_pay 10 [some (.inr (.inr (22, 0))), some (.inl v1), some (.inl v2), some (.inl v3)] [] m n else ax_ex (e + 4) L_X11_pay 5 [some (.inr (.inr (22, 0))), some (.inl v1), some (.inl v2), some (.inl v3)] [] m n := fun n => rfl
  by_cases c3 : r2 = 0
  · rw [if_pos c3] at h
    refine ax_gt c3 s4 ?_
    obtain ⟨r6, m7, q5, h⟩ := ax_b2_of h
    have s8 : ∀ n, ax_ex (e + 4) L_X11_pay 10 [some (.inr (.inr (22, 0))), some (.inl v1), some (.inl v2), some (.inl v3)] [] m (n + 3) = ax_aft (fun s m2 => ax_ex (e + 4) L_X11_pay 13 [some (.inr (.inr (22, 0))), some (.inl v1), some (.inl v2), some (.inl v3)] s m2 n) [] (ax_ex (e + 3) L_X11_no 0 (ax_entry [.inr (.inr (22, 0)), .inl (-2)] 2) [] m n) := fun n => rfl
    refine ax_gci (j := 3) (k2 := 13) (lv2 := [some (.inr (.inr (22, 0))), some (.inl v1), some (.inl v2), some (.inl v3)]) (rest := []) ((R_X11_no (by omega) q5)) s8 ?_
    obtain rfl := Option.some.inj h
    exact ax_rs 1 (fun n => rfl)
  · rw [if_neg c3] at h
    refine ax_gf c3 s4 ?_
    obtain ⟨r10, q9, h⟩ := ax_b_of h
    have s32 : ∀ n, ax_ex (e + 4) L_X11_pay 5 [some (.inr (.inr (22, 0))), some (.inl v1), some (.inl v2), some (.inl v3)] [] m (n + 4) = ax_aft (fun s m2 => ax_ex (e + 4) L_X11_pay 9 [some (.inr (.inr (22, 0))), some (.inl v1), some (.inl v2), some (.inl v3)] s m2 n) [] (ax_ex (e + 3) L_X11_within 0 (ax_entry [.inl v3, .inl 1, .inl 999] 3) [] m n) := fun n => rfl
    refine ax_gci (j := 4) (k2 := 9) (lv2 := [some (.inr (.inr (22, 0))), some (.inl v1), some (.inl v2), some (.inl v3)]) (rest := []) ((R_X11_within (by omega) q9)) s32 ?_
    have s12 : ∀ n, ax_ex (e + 4) L_X11_pay 9 [some (.inr (.inr (22, 0))), some (.inl v1), some (.inl v2), some (.inl v3)] [.inl r10] m (n + 1) = if r10 = 0 then ax_ex (e + 4) L_X11_pay 10 [some (.inr (.inr (22, 0))), some (.inl v1), some (.inl v2), some (.inl v3)] [] m n else ax_ex (e + 4) L_X11_pay 14 [some (.inr (.inr (22, 0))), some (.inl v1), some (.inl v2), some (.inl v3)] [] m n := fun n => rfl
    by_cases c11 : r10 = 0
    · rw [if_pos c11] at h
      refine ax_gt c11 s12 ?_
      obtain ⟨r14, m15, q13, h⟩ := ax_b2_of h
      have s16 : ∀ n, ax_ex (e + 4) L_X11_pay 10 [some (.inr (.inr (22, 0))), some (.inl v1), some (.inl v2), some (.inl v3)] [] m (n + 3) = ax_aft (fun s m2 => ax_ex (e + 4) L_X11_pay 13 [some (.inr (.inr (22, 0))), some (.inl v1), some (.inl v2), some (.inl v3)] s m2 n) [] (ax_ex (e + 3) L_X11_no 0 (ax_entry [.inr (.inr (22, 0)), .inl (-2)] 2) [] m n) := fun n => rfl
      refine ax_gci (j := 3) (k2 := 13) (lv2 := [some (.inr (.inr (22, 0))), some (.inl v1), some (.inl v2), some (.inl v3)]) (rest := []) ((R_X11_no (by omega) q13)) s16 ?_
      obtain rfl := Option.some.inj h
      exact ax_rs 1 (fun n => rfl)
    · rw [if_neg c11] at h
      refine ax_gf c11 s12 ?_
      refine ax_go (j := 7) (k2 := 21) (lv2 := [some (.inr (.inr (22, 0))), some (.inl v1), some (.inl v2), some (.inl v3)]) (st2 := [.inl ((8 * v1) + v2), .inr (.inr (25, 0))]) (m2 := m) (fun n => rfl) ?_
      obtain ⟨y17, hy17⟩ : ∃ y : Int32, y = ((8 * v1) + v2) := ⟨_, rfl⟩
      rw [← hy17] at h ⊢
      have s19 : ∀ n, ax_ex (e + 4) L_X11_pay 21 [some (.inr (.inr (22, 0))), some (.inl v1), some (.inl v2), some (.inl v3)] [.inl y17, .inr (.inr (25, 0))] m (n + 1) = if ax_ok y17 64 = true then ax_ex (e + 4) L_X11_pay 22 [some (.inr (.inr (22, 0))), some (.inl v1), some (.inl v2), some (.inl v3)] [.inl (m.1 25 0 y17.toNatClampNeg)] m n else none := fun n => rfl
      by_cases c18 : ax_ok y17 64 = true
      · rw [if_pos c18] at h
        refine ax_gt c18 s19 ?_
        have s21 : ∀ n, ax_ex (e + 4) L_X11_pay 22 [some (.inr (.inr (22, 0))), some (.inl v1), some (.inl v2), some (.inl v3)] [.inl (m.1 25 0 y17.toNatClampNeg)] m (n + 2) = if v3 ≤ (m.1 25 0 y17.toNatClampNeg) then ax_ex (e + 4) L_X11_pay 28 [some (.inr (.inr (22, 0))), some (.inl v1), some (.inl v2), some (.inl v3)] [] m n else ax_ex (e + 4) L_X11_pay 24 [some (.inr (.inr (22, 0))), some (.inl v1), some (.inl v2), some (.inl v3)] [] m n := fun n => rfl
        by_cases c20 : v3 ≤ (m.1 25 0 y17.toNatClampNeg)
        · rw [if_pos c20] at h
          refine ax_gt c20 s21 ?_
          refine ax_go (j := 8) (k2 := 36) (lv2 := [some (.inr (.inr (22, 0))), some (.inl v1), some (.inl v2), some (.inl v3)]) (st2 := [.inl ((8 * v1) + v2), .inr (.inr (25, 0)), .inl ((8 * v1) + v2), .inr (.inr (25, 0))]) (m2 := m) (fun n => rfl) ?_
          rw [← hy17]
          have s23 : ∀ n, ax_ex (e + 4) L_X11_pay 36 [some (.inr (.inr (22, 0))), some (.inl v1), some (.inl v2), some (.inl v3)] [.inl y17, .inr (.inr (25, 0)), .inl y17, .inr (.inr (25, 0))] m (n + 1) = if ax_ok y17 64 = true then ax_ex (e + 4) L_X11_pay 37 [some (.inr (.inr (22, 0))), some (.inl v1), some (.inl v2), some (.inl v3)] [.inl (m.1 25 0 y17.toNatClampNeg), .inl y17, .inr (.inr (25, 0))] m n else none := fun n => rfl
          by_cases c22 : ax_ok y17 64 = true
          · rw [if_pos c22] at h
            refine ax_gt c22 s23 ?_
            have s25 : ∀ n, ax_ex (e + 4) L_X11_pay 37 [some (.inr (.inr (22, 0))), some (.inl v1), some (.inl v2), some (.inl v3)] [.inl (m.1 25 0 y17.toNatClampNeg), .inl y17, .inr (.inr (25, 0))] m (n + 3) = if ax_ok y17 64 = true then ax_ex (e + 4) L_X11_pay 40 [some (.inr (.inr (22, 0))), some (.inl v1), some (.inl v2), some (.inl v3)] [] (ax_ui m 25 0 y17.toNatClampNeg ((m.1 25 0 y17.toNatClampNeg) - v3)) n else none := fun n => rfl
            by_cases c24 : ax_ok y17 64 = true
            · rw [if_pos c24] at h
              refine ax_gt c24 s25 ?_
              refine ax_go (j := 7) (k2 := 47) (lv2 := [some (.inr (.inr (22, 0))), some (.inl v1), some (.inl v2), some (.inl v3)]) (st2 := [.inl ((8 * v1) + v2), .inr (.inr (25, 0))]) (m2 := (ax_ui m 25 0 y17.toNatClampNeg ((m.1 25 0 y17.toNatClampNeg) - v3))) (fun n => rfl) ?_
              rw [← hy17]
              have s27 : ∀ n, ax_ex (e + 4) L_X11_pay 47 [some (.inr (.inr (22, 0))), some (.inl v1), some (.inl v2), some (.inl v3)] [.inl y17, .inr (.inr (25, 0))] (ax_ui m 25 0 y17.toNatClampNeg ((m.1 25 0 y17.toNatClampNeg) - v3)) (n + 1) = if ax_ok y17 64 = true then ax_ex (e + 4) L_X11_pay 48 [some (.inr (.inr (22, 0))), some (.inl v1), some (.inl v2), some (.inl v3)] [.inl ((ax_ui m 25 0 y17.toNatClampNeg ((m.1 25 0 y17.toNatClampNeg) - v3)).1 25 0 y17.toNatClampNeg)] (ax_ui m 25 0 y17.toNatClampNeg ((m.1 25 0 y17.toNatClampNeg) - v3)) n else none := fun n => rfl
              by_cases c26 : ax_ok y17 64 = true
              · rw [if_pos c26] at h
                refine ax_gt c26 s27 ?_
                obtain rfl := Option.some.inj h
                exact ax_rs 1 (fun n => rfl)
              · rw [if_neg c26] at h
                cases h
            · rw [if_neg c24] at h
              cases h
          · rw [if_neg c22] at h
            cases h
        · rw [if_neg c20] at h
          refine ax_gf c20 s21 ?_
          obtain ⟨r29, m30, q28, h⟩ := ax_b2_of h
          have s31 : ∀ n, ax_ex (e + 4) L_X11_pay 24 [some (.inr (.inr (22, 0))), some (.inl v1), some (.inl v2), some (.inl v3)] [] m (n + 3) = ax_aft (fun s m2 => ax_ex (e + 4) L_X11_pay 27 [some (.inr (.inr (22, 0))), some (.inl v1), some (.inl v2), some (.inl v3)] s m2 n) [] (ax_ex (e + 3) L_X11_no 0 (ax_entry [.inr (.inr (22, 0)), .inl (-5)] 2) [] m n) := fun n => rfl
          refine ax_gci (j := 3) (k2 := 27) (lv2 := [some (.inr (.inr (22, 0))), some (.inl v1), some (.inl v2), some (.inl v3)]) (rest := []) ((R_X11_no (by omega) q28)) s31 ?_
          obtain rfl := Option.some.inj h
          exact ax_rs 1 (fun n => rfl)
      · rw [if_neg c18] at h
        cases h
def F_X11_strike_L11 : Nat → (ax_M → Option (Int32 × ax_M)) → ax_M → Int32 → Int32 → Int32 → Option (Int32 × ax_M)
  | 0, _, _, _, _, _ => none
  | n + 1, K58, m, v1, v2, v3 => if v2 ≤ v3 then (K58 m) else (if ax_ok ((8 * v2) + v3) 64 = true then (if ax_ok ((8 * v3) + v2) 64 = true then (if ax_ok ((8 * v2) + v3) 64 = true then (if ax_ok ((8 * v2) + v3) 64 = true then (if ax_ok ((8 * v3) + v2) 64 = true then (if ax_ok ((8 * v3) + v2) 64 = true then (F_X11_strike_L11 n K58 (ax_ui (ax_ui m 25 0 ((8 * v2) + v3).toNatClampNeg ((m.1 25 0 ((8 * v2) + v3).toNatClampNeg) - (ax_min (m.1 25 0 ((8 * v2) + v3).toNatClampNeg) (m.1 25 0 ((8 * v3) + v2).toNatClampNeg)))) 25 0 ((8 * v3) + v2).toNatClampNeg (((ax_ui m 25 0 ((8 * v2) + v3).toNatClampNeg ((m.1 25 0 ((8 * v2) + v3).toNatClampNeg) - (ax_min (m.1 25 0 ((8 * v2) + v3).toNatClampNeg) (m.1 25 0 ((8 * v3) + v2).toNatClampNeg)))).1 25 0 ((8 * v3) + v2).toNatClampNeg) - (ax_min (m.1 25 0 ((8 * v2) + v3).toNatClampNeg) (m.1 25 0 ((8 * v3) + v2).toNatClampNeg)))) v1 v2 (v3 + 1)) else (none)) else (none)) else (none)) else (none)) else (none)) else (none))
set_option maxRecDepth 20000 in
set_option maxHeartbeats 4000000 in
theorem R_X11_strike_L11 {e : Nat} {v1 : Int32} {v2 : Int32} {K58 : ax_M → Option (Int32 × ax_M)} (hK58 : ∀ (my : ax_M) (q : (Int32 × ax_M)), K58 my = some q → ax_Ru (e + 7) L_X11_strike 58 [some (.inr (.inr (22, 0))), some (.inl v1), some (.inl v2), none, none] [] my (some (.inl q.1), q.2)) : ∀ (n : Nat) (m : ax_M) (v3 : Int32) (q : (Int32 × ax_M)), F_X11_strike_L11 n K58 m v1 v2 v3 = some q → ax_Ru (e + 7) L_X11_strike 11 [some (.inr (.inr (22, 0))), some (.inl v1), some (.inl v2), some (.inl v3), none] [] m (some (.inl q.1), q.2) := by
  intro n
  induction n with
  | zero =>
    intro m v3 q h
    cases h
  | succ n ih =>
    intro m v3 q h
    rw [F_X11_strike_L11] at h
    have s22 : ∀ n, ax_ex (e + 7) L_X11_strike 11 [some (.inr (.inr (22, 0))), some (.inl v1), some (.inl v2), some (.inl v3), none] [] m (n + 3) = if v2 ≤ v3 then ax_ex (e + 7) L_X11_strike 58 [some (.inr (.inr (22, 0))), some (.inl v1), some (.inl v2), some (.inl v3), none] [] m n else ax_ex (e + 7) L_X11_strike 14 [some (.inr (.inr (22, 0))), some (.inl v1), some (.inl v2), some (.inl v3), none] [] m n := fun n => rfl
    by_cases c21 : v2 ≤ v3
    · rw [if_pos c21] at h
      refine ax_gt c21 s22 ?_
      exact ax_fg (lv2 := [some (.inr (.inr (22, 0))), some (.inl v1), some (.inl v2), none, none]) ⟨rfl, rfl, rfl, trivial⟩ (hK58 m _ h)
    · rw [if_neg c21] at h
      refine ax_gf c21 s22 ?_
      refine ax_go (j := 7) (k2 := 21) (lv2 := [some (.inr (.inr (22, 0))), some (.inl v1), some (.inl v2), some (.inl v3), none]) (st2 := [.inl ((8 * v2) + v3), .inr (.inr (25, 0))]) (m2 := m) (fun n => rfl) ?_
      obtain ⟨y23, hy23⟩ : ∃ y : Int32, y = ((8 * v2) + v3) := ⟨_, rfl⟩
      rw [← hy23] at h ⊢
      have s25 : ∀ n, ax_ex (e + 7) L_X11_strike 21 [some (.inr (.inr (22, 0))), some (.inl v1), some (.inl v2), some (.inl v3), none] [.inl y23, .inr (.inr (25, 0))] m (n + 1) = if ax_ok y23 64 = true then ax_ex (e + 7) L_X11_strike 22 [some (.inr (.inr (22, 0))), some (.inl v1), some (.inl v2), some (.inl v3), none] [.inl (m.1 25 0 y23.toNatClampNeg)] m n else none := fun n => rfl
      by_cases c24 : ax_ok y23 64 = true
      · rw [if_pos c24] at h
        refine ax_gt c24 s25 ?_
        refine ax_go (j := 7) (k2 := 29) (lv2 := [some (.inr (.inr (22, 0))), some (.inl v1), some (.inl v2), some (.inl v3), none]) (st2 := [.inl ((8 * v3) + v2), .inr (.inr (25, 0)), .inl (m.1 25 0 y23.toNatClampNeg)]) (m2 := m) (fun n => rfl) ?_
        obtain ⟨y26, hy26⟩ : ∃ y : Int32, y = ((8 * v3) + v2) := ⟨_, rfl⟩
        rw [← hy26] at h ⊢
        have s28 : ∀ n, ax_ex (e + 7) L_X11_strike 29 [some (.inr (.inr (22, 0))), some (.inl v1), some (.inl v2), some (.inl v3), none] [.inl y26, .inr (.inr (25, 0)), .inl (m.1 25 0 y23.toNatClampNeg)] m (n + 1) = if ax_ok y26 64 = true then ax_ex (e + 7) L_X11_strike 30 [some (.inr (.inr (22, 0))), some (.inl v1), some (.inl v2), some (.inl v3), none] [.inl (m.1 25 0 y26.toNatClampNeg), .inl (m.1 25 0 y23.toNatClampNeg)] m n else none := fun n => rfl
        by_cases c27 : ax_ok y26 64 = true
        · rw [if_pos c27] at h
          refine ax_gt c27 s28 ?_
          refine ax_go (j := 10) (k2 := 40) (lv2 := [some (.inr (.inr (22, 0))), some (.inl v1), some (.inl v2), some (.inl v3), some (.inl (ax_min (m.1 25 0 y23.toNatClampNeg) (m.1 25 0 y26.toNatClampNeg)))]) (st2 := [.inl ((8 * v2) + v3), .inr (.inr (25, 0)), .inl ((8 * v2) + v3), .inr (.inr (25, 0))]) (m2 := m) (fun n => rfl) ?_
          rw [← hy23]
          have s30 : ∀ n, ax_ex (e + 7) L_X11_strike 40 [some (.inr (.inr (22, 0))), some (.inl v1), some (.inl v2), some (.inl v3), some (.inl (ax_min (m.1 25 0 y23.toNatClampNeg) (m.1 25 0 y26.toNatClampNeg)))] [.inl y23, .inr (.inr (25, 0)), .inl y23, .inr (.inr (25, 0))] m (n + 1) = if ax_ok y23 64 = true then ax_ex (e + 7) L_X11_strike 41 [some (.inr (.inr (22, 0))), some (.inl v1), some (.inl v2), some (.inl v3), some (.inl (ax_min (m.1 25 0 y23.toNatClampNeg) (m.1 25 0 y26.toNatClampNeg)))] [.inl (m.1 25 0 y23.toNatClampNeg), .inl y23, .inr (.inr (25, 0))] m n else none := fun n => rfl
          by_cases c29 : ax_ok y23 64 = true
          · rw [if_pos c29] at h
            refine ax_gt c29 s30 ?_
            have s32 : ∀ n, ax_ex (e + 7) L_X11_strike 41 [some (.inr (.inr (22, 0))), some (.inl v1), some (.inl v2), some (.inl v3), some (.inl (ax_min (m.1 25 0 y23.toNatClampNeg) (m.1 25 0 y26.toNatClampNeg)))] [.inl (m.1 25 0 y23.toNatClampNeg), .inl y23, .inr (.inr (25, 0))] m (n + 3) = if ax_ok y23 64 = true then ax_ex (e + 7) L_X11_strike 44 [some (.inr (.inr (22, 0))), some (.inl v1), some (.inl v2), some (.inl v3), some (.inl (ax_min (m.1 25 0 y23.toNatClampNeg) (m.1 25 0 y26.toNatClampNeg)))] [] (ax_ui m 25 0 y23.toNatClampNeg ((m.1 25 0 y23.toNatClampNeg) - (ax_min (m.1 25 0 y23.toNatClampNeg) (m.1 25 0 y26.toNatClampNeg)))) n else none := fun n => rfl
            by_cases c31 : ax_ok y23 64 = true
            · rw [if_pos c31] at h
              refine ax_gt c31 s32 ?_
              refine ax_go (j := 8) (k2 := 52) (lv2 := [some (.inr (.inr (22, 0))), some (.inl v1), some (.inl v2), some (.inl v3), some (.inl (ax_min (m.1 25 0 y23.toNatClampNeg) (m.1 25 0 y26.toNatClampNeg)))]) (st2 := [.inl ((8 * v3) + v2), .inr (.inr (25, 0)), .inl ((8 * v3) + v2), .inr (.inr (25, 0))]) (m2 := (ax_ui m 25 0 y23.toNatClampNeg ((m.1 25 0 y23.toNatClampNeg) - (ax_min (m.1 25 0 y23.toNatClampNeg) (m.1 25 0 y26.toNatClampNeg))))) (fun n => rfl) ?_
              rw [← hy26]
              have s34 : ∀ n, ax_ex (e + 7) L_X11_strike 52 [some (.inr (.inr (22, 0))), some (.inl v1), some (.inl v2), some (.inl v3), some (.inl (ax_min (m.1 25 0 y23.toNatClampNeg) (m.1 25 0 y26.toNatClampNeg)))] [.inl y26, .inr (.inr (25, 0)), .inl y26, .inr (.inr (25, 0))] (ax_ui m 25 0 y23.toNatClampNeg ((m.1 25 0 y23.toNatClampNeg) - (ax_min (m.1 25 0 y23.toNatClampNeg) (m.1 25 0 y26.toNatClampNeg)))) (n + 1) = if ax_ok y26 64 = true then ax_ex (e + 7) L_X11_strike 53 [some (.inr (.inr (22, 0))), some (.inl v1), some (.inl v2), some (.inl v3), some (.inl (ax_min (m.1 25 0 y23.toNatClampNeg) (m.1 25 0 y26.toNatClampNeg)))] [.inl ((ax_ui m 25 0 y23.toNatClampNeg ((m.1 25 0 y23.toNatClampNeg) - (ax_min (m.1 25 0 y23.toNatClampNeg) (m.1 25 0 y26.toNatClampNeg)))).1 25 0 y26.toNatClampNeg), .inl y26, .inr (.inr (25, 0))] (ax_ui m 25 0 y23.toNatClampNeg ((m.1 25 0 y23.toNatClampNeg) - (ax_min (m.1 25 0 y23.toNatClampNeg) (m.1 25 0 y26.toNatClampNeg)))) n else none := fun n => rfl
              by_cases c33 : ax_ok y26 64 = true
              · rw [if_pos c33] at h
                refine ax_gt c33 s34 ?_
                have s36 : ∀ n, ax_ex (e + 7) L_X11_strike 53 [some (.inr (.inr (22, 0))), some (.inl v1), some (.inl v2), some (.inl v3), some (.inl (ax_min (m.1 25 0 y23.toNatClampNeg) (m.1 25 0 y26.toNatClampNeg)))] [.inl ((ax_ui m 25 0 y23.toNatClampNeg ((m.1 25 0 y23.toNatClampNeg) - (ax_min (m.1 25 0 y23.toNatClampNeg) (m.1 25 0 y26.toNatClampNeg)))).1 25 0 y26.toNatClampNeg), .inl y26, .inr (.inr (25, 0))] (ax_ui m 25 0 y23.toNatClampNeg ((m.1 25 0 y23.toNatClampNeg) - (ax_min (m.1 25 0 y23.toNatClampNeg) (m.1 25 0 y26.toNatClampNeg)))) (n + 3) = if ax_ok y26 64 = true then ax_ex (e + 7) L_X11_strike 56 [some (.inr (.inr (22, 0))), some (.inl v1), some (.inl v2), some (.inl v3), some (.inl (ax_min (m.1 25 0 y23.toNatClampNeg) (m.1 25 0 y26.toNatClampNeg)))] [] (ax_ui (ax_ui m 25 0 y23.toNatClampNeg ((m.1 25 0 y23.toNatClampNeg) - (ax_min (m.1 25 0 y23.toNatClampNeg) (m.1 25 0 y26.toNatClampNeg)))) 25 0 y26.toNatClampNeg (((ax_ui m 25 0 y23.toNatClampNeg ((m.1 25 0 y23.toNatClampNeg) - (ax_min (m.1 25 0 y23.toNatClampNeg) (m.1 25 0 y26.toNatClampNeg)))).1 25 0 y26.toNatClampNeg) - (ax_min (m.1 25 0 y23.toNatClampNeg) (m.1 25 0 y26.toNatClampNeg)))) n else none := fun n => rfl
                by_cases c35 : ax_ok y26 64 = true
                · rw [if_pos c35] at h
                  refine ax_gt c35 s36 ?_
                  refine ax_go (j := 2) (k2 := 11) (lv2 := [some (.inr (.inr (22, 0))), some (.inl v1), some (.inl v2), some (.inl (v3 + 1)), some (.inl (ax_min (m.1 25 0 y23.toNatClampNeg) (m.1 25 0 y26.toNatClampNeg)))]) (st2 := []) (m2 := (ax_ui (ax_ui m 25 0 y23.toNatClampNeg ((m.1 25 0 y23.toNatClampNeg) - (ax_min (m.1 25 0 y23.toNatClampNeg) (m.1 25 0 y26.toNatClampNeg)))) 25 0 y26.toNatClampNeg (((ax_ui m 25 0 y23.toNatClampNeg ((m.1 25 0 y23.toNatClampNeg) - (ax_min (m.1 25 0 y23.toNatClampNeg) (m.1 25 0 y26.toNatClampNeg)))).1 25 0 y26.toNatClampNeg) - (ax_min (m.1 25 0 y23.toNatClampNeg) (m.1 25 0 y26.toNatClampNeg))))) (fun n => rfl) ?_
                  exact ax_fg (lv2 := [some (.inr (.inr (22, 0))), some (.inl v1), some (.inl v2), some (.inl (v3 + 1)), none]) ⟨rfl, rfl, rfl, rfl, trivial⟩ (ih (ax_ui (ax_ui m 25 0 y23.toNatClampNeg ((m.1 25 0 y23.toNatClampNeg) - (ax_min (m.1 25 0 y23.toNatClampNeg) (m.1 25 0 y26.toNatClampNeg)))) 25 0 y26.toNatClampNeg (((ax_ui m 25 0 y23.toNatClampNeg ((m.1 25 0 y23.toNatClampNeg) - (ax_min (m.1 25 0 y23.toNatClampNeg) (m.1 25 0 y26.toNatClampNeg)))).1 25 0 y26.toNatClampNeg) - (ax_min (m.1 25 0 y23.toNatClampNeg) (m.1 25 0 y26.toNatClampNeg)))) (v3 + 1) _ h)
                · rw [if_neg c35] at h
                  cases h
              · rw [if_neg c33] at h
                cases h
            · rw [if_neg c31] at h
              cases h
          · rw [if_neg c29] at h
            cases h
        · rw [if_neg c27] at h
          cases h
      · rw [if_neg c24] at h
        cases h
def F_X11_strike_L5 : Nat → ax_M → Int32 → Int32 → Option (Int32 × ax_M)
  | 0, _, _, _ => none
  | n + 1, m, v1, v2 => if (m.1 22 0 1) ≤ v2 then (some (v1, m)) else (F_X11_strike_L11 ax_FU (fun m37 => F_X11_strike_L5 n m37 v1 (v2 + 1)) m v1 v2 0)
set_option maxRecDepth 20000 in
set_option maxHeartbeats 4000000 in
theorem R_X11_strike_L5 {e : Nat} {v1 : Int32} : ∀ (n : Nat) (m : ax_M) (v2 : Int32) (q : (Int32 × ax_M)), F_X11_strike_L5 n m v1 v2 = some q → ax_Ru (e + 7) L_X11_strike 5 [some (.inr (.inr (22, 0))), some (.inl v1), some (.inl v2), none, none] [] m (some (.inl q.1), q.2) := by
  intro n
  induction n with
  | zero =>
    intro m v2 q h
    cases h
  | succ n ih =>
    intro m v2 q h
    rw [F_X11_strike_L5] at h
    have s4 : ∀ n, ax_ex (e + 7) L_X11_strike 5 [some (.inr (.inr (22, 0))), some (.inl v1), some (.inl v2), none, none] [] m (n + 4) = if (m.1 22 0 1) ≤ v2 then ax_ex (e + 7) L_X11_strike 60 [some (.inr (.inr (22, 0))), some (.inl v1), some (.inl v2), none, none] [] m n else ax_ex (e + 7) L_X11_strike 9 [some (.inr (.inr (22, 0))), some (.inl v1), some (.inl v2), none, none] [] m n := fun n => rfl
    by_cases c3 : (m.1 22 0 1) ≤ v2
    · rw [if_pos c3] at h
      refine ax_gt c3 s4 ?_
      obtain rfl := Option.some.inj h
      exact ax_rs 2 (fun n => rfl)
    · rw [if_neg c3] at h
      refine ax_gf c3 s4 ?_
      refine ax_go (j := 2) (k2 := 11) (lv2 := [some (.inr (.inr (22, 0))), some (.inl v1), some (.inl v2), some (.inl 0), none]) (st2 := []) (m2 := m) (fun n => rfl) ?_
      refine ax_fg (lv2 := [some (.inr (.inr (22, 0))), some (.inl v1), some (.inl v2), some (.inl 0), none]) ⟨rfl, rfl, rfl, rfl, trivial⟩ ?_
      refine R_X11_strike_L11 ?_ _ m 0 _ h
      · intro m37 q h
        refine ax_go (j := 2) (k2 := 5) (lv2 := [some (.inr (.inr (22, 0))), some (.inl v1), some (.inl (v2 + 1)), none, none]) (st2 := []) (m2 := m37) (fun n => rfl) ?_
        exact ax_fg (lv2 := [some (.inr (.inr (22, 0))), some (.inl v1), some (.inl (v2 + 1)), none, none]) ⟨rfl, rfl, rfl, trivial⟩ (ih m37 (v2 + 1) _ h)
def F_X11_strike (m : ax_M) : Option (Int32 × ax_M) := ax_b (F_X11_mutual m) (fun r2 => F_X11_strike_L5 ax_FU m r2 0)
set_option maxRecDepth 20000 in
set_option maxHeartbeats 4000000 in
theorem R_X11_strike {d : Nat} (hd : 7 ≤ d) {m : ax_M} {q : (Int32 × ax_M)} (h : F_X11_strike m = some q) : ax_Ru d L_X11_strike 0 (ax_entry [.inr (.inr (22, 0))] 5) [] m (some (.inl q.1), q.2) := by
  obtain ⟨e, rfl⟩ : ∃ e, d = e + 7 := ⟨d - 7, by omega⟩
  unfold F_X11_strike at h
  obtain ⟨r2, q1, h⟩ := ax_b_of h
  have s40 : ∀ n, ax_ex (e + 7) L_X11_strike 0 (ax_entry [.inr (.inr (22, 0))] 5) [] m (n + 2) = ax_aft (fun s m2 => ax_ex (e + 7) L_X11_strike 2 [some (.inr (.inr (22, 0))), none, none, none, none] s m2 n) [] (ax_ex (e + 6) L_X11_mutual 0 (ax_entry [.inr (.inr (22, 0))] 4) [] m n) := fun n => rfl
  refine ax_gci (j := 2) (k2 := 2) (lv2 := [some (.inr (.inr (22, 0))), none, none, none, none]) (rest := []) ((R_X11_mutual (by omega) q1)) s40 ?_
  refine ax_go (j := 3) (k2 := 5) (lv2 := [some (.inr (.inr (22, 0))), some (.inl r2), some (.inl 0), none, none]) (st2 := []) (m2 := m) (fun n => rfl) ?_
  refine ax_fg (lv2 := [some (.inr (.inr (22, 0))), some (.inl r2), some (.inl 0), none, none]) ⟨rfl, rfl, rfl, trivial⟩ ?_
  refine R_X11_strike_L5 _ m 0 _ h
def F_X11_draw (m : ax_M) (v1 : Int32) : Option (Int32 × ax_M) := if v1 = 0 then (none) else (some ((ax_irem (ax_iushr ((ax_ui m 22 0 9 (((m.1 22 0 9) * 1103515245) + 12345)).1 22 0 9) 16) v1), (ax_ui m 22 0 9 (((m.1 22 0 9) * 1103515245) + 12345))))
set_option maxRecDepth 20000 in
set_option maxHeartbeats 4000000 in
theorem R_X11_draw {d : Nat} (hd : 1 ≤ d) {m : ax_M} {v1 : Int32} {q : (Int32 × ax_M)} (h : F_X11_draw m v1 = some q) : ax_Ru d L_X11_draw 0 (ax_entry [.inr (.inr (22, 0)), .inl v1] 2) [] m (some (.inl q.1), q.2) := by
  obtain ⟨e, rfl⟩ : ∃ e, d = e + 1 := ⟨d - 1, by omega⟩
  unfold F_X11_draw at h
  have s2 : ∀ n, ax_ex (e + 1) L_X11_draw 0 (ax_entry [.inr (.inr (22, 0)), .inl v1] 2) [] m (n + 14) = if v1 = 0 then none else ax_ex (e + 1) L_X11_draw 14 [some (.inr (.inr (22, 0))), some (.inl v1)] [.inl (ax_irem (ax_iushr ((ax_ui m 22 0 9 (((m.1 22 0 9) * 1103515245) + 12345)).1 22 0 9) 16) v1)] (ax_ui m 22 0 9 (((m.1 22 0 9) * 1103515245) + 12345)) n := fun n => rfl
  by_cases c1 : v1 = 0
  · rw [if_pos c1] at h
    cases h
  · rw [if_neg c1] at h
    refine ax_gf c1 s2 ?_
    obtain rfl := Option.some.inj h
    exact ax_rs 1 (fun n => rfl)
def F_X11_days_L20 : Nat → ax_M → Int32 → Int32 → Int32 → Option (Int32 × ax_M)
  | 0, _, _, _, _ => none
  | n + 1, m, v1, v2, v3 => if v1 ≤ v3 then (some (v2, m)) else (ax_b2 (F_X11_draw m (m.1 22 0 1)) (fun r18 m19 => ax_b2 (F_X11_draw m19 4) (fun r21 m22 => ax_b2 (F_X11_goes m22 r18 r21) (fun r24 m25 => ax_b (F_X11_upOf m25 (-1)) (fun r27 => ax_b (F_J6_bitCount_0f7a4 r27) (fun r29 => F_X11_days_L20 n m25 v1 (v2 + r29) (v3 + 1)))))))
set_option maxRecDepth 20000 in
set_option maxHeartbeats 4000000 in
theorem R_X11_days_L20 {e : Nat} {v1 : Int32} : ∀ (n : Nat) (m : ax_M) (v2 : Int32) (v3 : Int32) (q : (Int32 × ax_M)), F_X11_days_L20 n m v1 v2 v3 = some q → ax_Ru (e + 11) L_X11_days 20 [some (.inr (.inr (22, 0))), some (.inl v1), some (.inl v2), some (.inl v3), none] [] m (some (.inl q.1), q.2) := by
  intro n
  induction n with
  | zero =>
    intro m v2 v3 q h
    cases h
  | succ n ih =>
    intro m v2 v3 q h
    rw [F_X11_days_L20] at h
    have s16 : ∀ n, ax_ex (e + 11) L_X11_days 20 [some (.inr (.inr (22, 0))), some (.inl v1), some (.inl v2), some (.inl v3), none] [] m (n + 3) = if v1 ≤ v3 then ax_ex (e + 11) L_X11_days 44 [some (.inr (.inr (22, 0))), some (.inl v1), some (.inl v2), some (.inl v3), none] [] m n else ax_ex (e + 11) L_X11_days 23 [some (.inr (.inr (22, 0))), some (.inl v1), some (.inl v2), some (.inl v3), none] [] m n := fun n => rfl
    by_cases c15 : v1 ≤ v3
    · rw [if_pos c15] at h
      refine ax_gt c15 s16 ?_
      obtain rfl := Option.some.inj h
      exact ax_rs 2 (fun n => rfl)
    · rw [if_neg c15] at h
      refine ax_gf c15 s16 ?_
      obtain ⟨r18, m19, q17, h⟩ := ax_b2_of h
      have s34 : ∀ n, ax_ex (e + 11) L_X11_days 23 [some (.inr (.inr (22, 0))), some (.inl v1), some (.inl v2), some (.inl v3), none] [] m (n + 4) = ax_aft (fun s m2 => ax_ex (e + 11) L_X11_days 27 [some (.inr (.inr (22, 0))), some (.inl v1), some (.inl v2), some (.inl v3), none] s m2 n) [] (ax_ex (e + 10) L_X11_draw 0 (ax_entry [.inr (.inr (22, 0)), .inl (m.1 22 0 1)] 2) [] m n) := fun n => rfl
      refine ax_gci (j := 4) (k2 := 27) (lv2 := [some (.inr (.inr (22, 0))), some (.inl v1), some (.inl v2), some (.inl v3), none]) (rest := []) ((R_X11_draw (by omega) q17)) s34 ?_
      obtain ⟨r21, m22, q20, h⟩ := ax_b2_of h
      have s33 : ∀ n, ax_ex (e + 11) L_X11_days 27 [some (.inr (.inr (22, 0))), some (.inl v1), some (.inl v2), some (.inl v3), none] [.inl r18] m19 (n + 6) = ax_aft (fun s m2 => ax_ex (e + 11) L_X11_days 33 [some (.inr (.inr (22, 0))), some (.inl v1), some (.inl v2), some (.inl v3), some (.inl r18)] s m2 n) [.inl r18, .inr (.inr (22, 0))] (ax_ex (e + 10) L_X11_draw 0 (ax_entry [.inr (.inr (22, 0)), .inl 4] 2) [] m19 n) := fun n => rfl
      refine ax_gci (j := 6) (k2 := 33) (lv2 := [some (.inr (.inr (22, 0))), some (.inl v1), some (.inl v2), some (.inl v3), some (.inl r18)]) (rest := [.inl r18, .inr (.inr (22, 0))]) ((R_X11_draw (by omega) q20)) s33 ?_
      obtain ⟨r24, m25, q23, h⟩ := ax_b2_of h
      have s32 : ∀ n, ax_ex (e + 11) L_X11_days 33 [some (.inr (.inr (22, 0))), some (.inl v1), some (.inl v2), some (.inl v3), some (.inl r18)] [.inl r21, .inl r18, .inr (.inr (22, 0))] m22 (n + 1) = ax_aft (fun s m2 => ax_ex (e + 11) L_X11_days 34 [some (.inr (.inr (22, 0))), some (.inl v1), some (.inl v2), some (.inl v3), some (.inl r18)] s m2 n) [] (ax_ex (e + 10) L_X11_goes 0 (ax_entry [.inr (.inr (22, 0)), .inl r18, .inl r21] 4) [] m22 n) := fun n => rfl
      refine ax_gci (j := 1) (k2 := 34) (lv2 := [some (.inr (.inr (22, 0))), some (.inl v1), some (.inl v2), some (.inl v3), some (.inl r18)]) (rest := []) ((R_X11_goes (by omega) q23)) s32 ?_
      obtain ⟨r27, q26, h⟩ := ax_b_of h
      have s31 : ∀ n, ax_ex (e + 11) L_X11_days 34 [some (.inr (.inr (22, 0))), some (.inl v1), some (.inl v2), some (.inl v3), some (.inl r18)] [.inl r24] m25 (n + 5) = ax_aft (fun s m2 => ax_ex (e + 11) L_X11_days 39 [some (.inr (.inr (22, 0))), some (.inl v1), some (.inl v2), some (.inl v3), some (.inl r18)] s m2 n) [.inl v2] (ax_ex (e + 10) L_X11_upOf 0 (ax_entry [.inr (.inr (22, 0)), .inl (-1)] 4) [] m25 n) := fun n => rfl
      refine ax_gci (j := 5) (k2 := 39) (lv2 := [some (.inr (.inr (22, 0))), some (.inl v1), some (.inl v2), some (.inl v3), some (.inl r18)]) (rest := [.inl v2]) ((R_X11_upOf (by omega) q26)) s31 ?_
      obtain ⟨r29, q28, h⟩ := ax_b_of h
      have s30 : ∀ n, ax_ex (e + 11) L_X11_days 39 [some (.inr (.inr (22, 0))), some (.inl v1), some (.inl v2), some (.inl v3), some (.inl r18)] [.inl r27, .inl v2] m25 (n + 1) = ax_aft (fun s m2 => ax_ex (e + 11) L_X11_days 40 [some (.inr (.inr (22, 0))), some (.inl v1), some (.inl v2), some (.inl v3), some (.inl r18)] s m2 n) [.inl v2] (ax_ex (e + 10) L_J6_bitCount_0f7a4 0 (ax_entry [.inl r27] 1) [] m25 n) := fun n => rfl
      refine ax_gci (j := 1) (k2 := 40) (lv2 := [some (.inr (.inr (22, 0))), some (.inl v1), some (.inl v2), some (.inl v3), some (.inl r18)]) (rest := [.inl v2]) ((R_J6_bitCount_0f7a4 (by omega) q28)) s30 ?_
      refine ax_go (j := 4) (k2 := 20) (lv2 := [some (.inr (.inr (22, 0))), some (.inl v1), some (.inl (v2 + r29)), some (.inl (v3 + 1)), some (.inl r18)]) (st2 := []) (m2 := m25) (fun n => rfl) ?_
      exact ax_fg (lv2 := [some (.inr (.inr (22, 0))), some (.inl v1), some (.inl (v2 + r29)), some (.inl (v3 + 1)), none]) ⟨rfl, rfl, rfl, rfl, trivial⟩ (ih m25 (v2 + r29) (v3 + 1) _ h)
def F_X11_days (m : ax_M) (v1 : Int32) : Option (Int32 × ax_M) := ax_b (F_X11_within v1 1 99) (fun r2 => if r2 = 0 then (ax_b2 (F_X11_no m (-2)) (fun r6 m7 => some (r6, m7))) else (if (m.1 22 0 1) = 0 then (ax_b2 (F_X11_no m (-5)) (fun r12 m13 => some (r12, m13))) else (F_X11_days_L20 ax_FU m v1 0 0)))
set_option maxRecDepth 20000 in
set_option maxHeartbeats 4000000 in
theorem R_X11_days {d : Nat} (hd : 11 ≤ d) {m : ax_M} {v1 : Int32} {q : (Int32 × ax_M)} (h : F_X11_days m v1 = some q) : ax_Ru d L_X11_days 0 (ax_entry [.inr (.inr (22, 0)), .inl v1] 5) [] m (some (.inl q.1), q.2) := by
  obtain ⟨e, rfl⟩ : ∃ e, d = e + 11 := ⟨d - 11, by omega⟩
  unfold F_X11_days at h
  obtain ⟨r2, q1, h⟩ := ax_b_of h
  have s36 : ∀ n, ax_ex (e + 11) L_X11_days 0 (ax_entry [.inr (.inr (22, 0)), .inl v1] 5) [] m (n + 4) = ax_aft (fun s m2 => ax_ex (e + 11) L_X11_days 4 [some (.inr (.inr (22, 0))), some (.inl v1), none, none, none] s m2 n) [] (ax_ex (e + 10) L_X11_within 0 (ax_entry [.inl v1, .inl 1, .inl 99] 3) [] m n) := fun n => rfl
  refine ax_gci (j := 4) (k2 := 4) (lv2 := [some (.inr (.inr (22, 0))), some (.inl v1), none, none, none]) (rest := []) ((R_X11_within (by omega) q1)) s36 ?_
  have s4 : ∀ n, ax_ex (e + 11) L_X11_days 4 [some (.inr (.inr (22, 0))), some (.inl v1), none, none, none] [.inl r2] m (n + 1) = if r2 = 0 then ax_ex (e + 11) L_X11_days 5 [some (.inr (.inr (22, 0))), some (.inl v1), none, none, none] [] m n else ax_ex (e + 11) L_X11_days 9 [some (.inr (.inr (22, 0))), some (.inl v1), none, none, none] [] m n := fun n => rfl
  by_cases c3 : r2 = 0
  · rw [if_pos c3] at h
    refine ax_gt c3 s4 ?_
    obtain ⟨r6, m7, q5, h⟩ := ax_b2_of h
    have s8 : ∀ n, ax_ex (e + 11) L_X11_days 5 [some (.inr (.inr (22, 0))), some (.inl v1), none, none, none] [] m (n + 3) = ax_aft (fun s m2 => ax_ex (e + 11) L_X11_days 8 [some (.inr (.inr (22, 0))), some (.inl v1), none, none, none] s m2 n) [] (ax_ex (e + 10) L_X11_no 0 (ax_entry [.inr (.inr (22, 0)), .inl (-2)] 2) [] m n) := fun n => rfl
    refine ax_gci (j := 3) (k2 := 8) (lv2 := [some (.inr (.inr (22, 0))), some (.inl v1), none, none, none]) (rest := []) ((R_X11_no (by omega) q5)) s8 ?_
    obtain rfl := Option.some.inj h
    exact ax_rs 1 (fun n => rfl)
  · rw [if_neg c3] at h
    refine ax_gf c3 s4 ?_
    have s10 : ∀ n, ax_ex (e + 11) L_X11_days 9 [some (.inr (.inr (22, 0))), some (.inl v1), none, none, none] [] m (n + 3) = if (m.1 22 0 1) = 0 then ax_ex (e + 11) L_X11_days 12 [some (.inr (.inr (22, 0))), some (.inl v1), none, none, none] [] m n else ax_ex (e + 11) L_X11_days 16 [some (.inr (.inr (22, 0))), some (.inl v1), none, none, none] [] m n := fun n => rfl
    by_cases c9 : (m.1 22 0 1) = 0
    · rw [if_pos c9] at h
      refine ax_gt c9 s10 ?_
      obtain ⟨r12, m13, q11, h⟩ := ax_b2_of h
      have s14 : ∀ n, ax_ex (e + 11) L_X11_days 12 [some (.inr (.inr (22, 0))), some (.inl v1), none, none, none] [] m (n + 3) = ax_aft (fun s m2 => ax_ex (e + 11) L_X11_days 15 [some (.inr (.inr (22, 0))), some (.inl v1), none, none, none] s m2 n) [] (ax_ex (e + 10) L_X11_no 0 (ax_entry [.inr (.inr (22, 0)), .inl (-5)] 2) [] m n) := fun n => rfl
      refine ax_gci (j := 3) (k2 := 15) (lv2 := [some (.inr (.inr (22, 0))), some (.inl v1), none, none, none]) (rest := []) ((R_X11_no (by omega) q11)) s14 ?_
      obtain rfl := Option.some.inj h
      exact ax_rs 1 (fun n => rfl)
    · rw [if_neg c9] at h
      refine ax_gf c9 s10 ?_
      refine ax_go (j := 4) (k2 := 20) (lv2 := [some (.inr (.inr (22, 0))), some (.inl v1), some (.inl 0), some (.inl 0), none]) (st2 := []) (m2 := m) (fun n => rfl) ?_
      refine ax_fg (lv2 := [some (.inr (.inr (22, 0))), some (.inl v1), some (.inl 0), some (.inl 0), none]) ⟨rfl, rfl, rfl, rfl, trivial⟩ ?_
      refine R_X11_days_L20 _ m 0 0 _ h
def F_X11_unshelve_L2 : Nat → ax_M → Int32 → Option ax_M
  | 0, _, _ => none
  | n + 1, m, v1 => if 8 ≤ v1 then (some m) else (if ax_ok v1 8 = true then (if (m.1 31 0 v1.toNatClampNeg) < (10 + (m.1 22 0 4)) then (F_X11_unshelve_L2 n m (v1 + 1)) else (if ax_ok v1 8 = true then (F_X11_unshelve_L2 n (ax_ui m 31 0 v1.toNatClampNeg (-1)) (v1 + 1)) else (none))) else (none))
set_option maxRecDepth 20000 in
set_option maxHeartbeats 4000000 in
theorem R_X11_unshelve_L2 {e : Nat} : ∀ (n : Nat) (m : ax_M) (v1 : Int32) (q : ax_M), F_X11_unshelve_L2 n m v1 = some q → ax_Ru (e + 1) L_X11_unshelve 2 [some (.inr (.inr (22, 0))), some (.inl v1)] [] m (none, q) := by
  intro n
  induction n with
  | zero =>
    intro m v1 q h
    cases h
  | succ n ih =>
    intro m v1 q h
    rw [F_X11_unshelve_L2] at h
    have s2 : ∀ n, ax_ex (e + 1) L_X11_unshelve 2 [some (.inr (.inr (22, 0))), some (.inl v1)] [] m (n + 3) = if 8 ≤ v1 then ax_ex (e + 1) L_X11_unshelve 21 [some (.inr (.inr (22, 0))), some (.inl v1)] [] m n else ax_ex (e + 1) L_X11_unshelve 5 [some (.inr (.inr (22, 0))), some (.inl v1)] [] m n := fun n => rfl
    by_cases c1 : 8 ≤ v1
    · rw [if_pos c1] at h
      refine ax_gt c1 s2 ?_
      obtain rfl := Option.some.inj h
      exact ax_rs 1 (fun n => rfl)
    · rw [if_neg c1] at h
      refine ax_gf c1 s2 ?_
      have s4 : ∀ n, ax_ex (e + 1) L_X11_unshelve 5 [some (.inr (.inr (22, 0))), some (.inl v1)] [] m (n + 4) = if ax_ok v1 8 = true then ax_ex (e + 1) L_X11_unshelve 9 [some (.inr (.inr (22, 0))), some (.inl v1)] [.inl (m.1 31 0 v1.toNatClampNeg)] m n else none := fun n => rfl
      by_cases c3 : ax_ok v1 8 = true
      · rw [if_pos c3] at h
        refine ax_gt c3 s4 ?_
        refine ax_go (j := 4) (k2 := 13) (lv2 := [some (.inr (.inr (22, 0))), some (.inl v1)]) (st2 := [.inl (10 + (m.1 22 0 4)), .inl (m.1 31 0 v1.toNatClampNeg)]) (m2 := m) (fun n => rfl) ?_
        obtain ⟨y5, hy5⟩ : ∃ y : Int32, y = (10 + (m.1 22 0 4)) := ⟨_, rfl⟩
        rw [← hy5] at h ⊢
        have s7 : ∀ n, ax_ex (e + 1) L_X11_unshelve 13 [some (.inr (.inr (22, 0))), some (.inl v1)] [.inl y5, .inl (m.1 31 0 v1.toNatClampNeg)] m (n + 1) = if (m.1 31 0 v1.toNatClampNeg) < y5 then ax_ex (e + 1) L_X11_unshelve 19 [some (.inr (.inr (22, 0))), some (.inl v1)] [] m n else ax_ex (e + 1) L_X11_unshelve 14 [some (.inr (.inr (22, 0))), some (.inl v1)] [] m n := fun n => rfl
        by_cases c6 : (m.1 31 0 v1.toNatClampNeg) < y5
        · rw [if_pos c6] at h
          refine ax_gt c6 s7 ?_
          refine ax_go (j := 2) (k2 := 2) (lv2 := [some (.inr (.inr (22, 0))), some (.inl (v1 + 1))]) (st2 := []) (m2 := m) (fun n => rfl) ?_
          exact ax_fg (lv2 := [some (.inr (.inr (22, 0))), some (.inl (v1 + 1))]) ⟨rfl, rfl, trivial⟩ (ih m (v1 + 1) _ h)
        · rw [if_neg c6] at h
          refine ax_gf c6 s7 ?_
          have s9 : ∀ n, ax_ex (e + 1) L_X11_unshelve 14 [some (.inr (.inr (22, 0))), some (.inl v1)] [] m (n + 5) = if ax_ok v1 8 = true then ax_ex (e + 1) L_X11_unshelve 19 [some (.inr (.inr (22, 0))), some (.inl v1)] [] (ax_ui m 31 0 v1.toNatClampNeg (-1)) n else none := fun n => rfl
          by_cases c8 : ax_ok v1 8 = true
          · rw [if_pos c8] at h
            refine ax_gt c8 s9 ?_
            refine ax_go (j := 2) (k2 := 2) (lv2 := [some (.inr (.inr (22, 0))), some (.inl (v1 + 1))]) (st2 := []) (m2 := (ax_ui m 31 0 v1.toNatClampNeg (-1))) (fun n => rfl) ?_
            exact ax_fg (lv2 := [some (.inr (.inr (22, 0))), some (.inl (v1 + 1))]) ⟨rfl, rfl, trivial⟩ (ih (ax_ui m 31 0 v1.toNatClampNeg (-1)) (v1 + 1) _ h)
          · rw [if_neg c8] at h
            cases h
      · rw [if_neg c3] at h
        cases h
def F_X11_unshelve (m : ax_M) : Option ax_M := F_X11_unshelve_L2 ax_FU m 0
set_option maxRecDepth 20000 in
set_option maxHeartbeats 4000000 in
theorem R_X11_unshelve {d : Nat} (hd : 1 ≤ d) {m : ax_M} {q : ax_M} (h : F_X11_unshelve m = some q) : ax_Ru d L_X11_unshelve 0 (ax_entry [.inr (.inr (22, 0))] 2) [] m (none, q) := by
  obtain ⟨e, rfl⟩ : ∃ e, d = e + 1 := ⟨d - 1, by omega⟩
  unfold F_X11_unshelve at h
  refine ax_go (j := 2) (k2 := 2) (lv2 := [some (.inr (.inr (22, 0))), some (.inl 0)]) (st2 := []) (m2 := m) (fun n => rfl) ?_
  refine ax_fg (lv2 := [some (.inr (.inr (22, 0))), some (.inl 0)]) ⟨rfl, rfl, trivial⟩ ?_
  refine R_X11_unshelve_L2 _ m 0 _ h
def F_X11_weed (m : ax_M) : Option (Int32 × ax_M) := if (m.1 22 0 4) = 0 then (ax_b2 (F_X11_no m (-5)) (fun r4 m5 => some (r4, m5))) else (ax_b (F_X11_unshelve (ax_ui m 22 0 4 ((m.1 22 0 4) - 1))) (fun m9 => some ((m9.1 22 0 4), m9)))
set_option maxRecDepth 20000 in
set_option maxHeartbeats 4000000 in
theorem R_X11_weed {d : Nat} (hd : 2 ≤ d) {m : ax_M} {q : (Int32 × ax_M)} (h : F_X11_weed m = some q) : ax_Ru d L_X11_weed 0 (ax_entry [.inr (.inr (22, 0))] 1) [] m (some (.inl q.1), q.2) := by
  obtain ⟨e, rfl⟩ : ∃ e, d = e + 2 := ⟨d - 2, by omega⟩
  unfold F_X11_weed at h
  have s2 : ∀ n, ax_ex (e + 2) L_X11_weed 0 (ax_entry [.inr (.inr (22, 0))] 1) [] m (n + 3) = if (m.1 22 0 4) = 0 then ax_ex (e + 2) L_X11_weed 3 [some (.inr (.inr (22, 0)))] [] m n else ax_ex (e + 2) L_X11_weed 7 [some (.inr (.inr (22, 0)))] [] m n := fun n => rfl
  by_cases c1 : (m.1 22 0 4) = 0
  · rw [if_pos c1] at h
    refine ax_gt c1 s2 ?_
    obtain ⟨r4, m5, q3, h⟩ := ax_b2_of h
    have s6 : ∀ n, ax_ex (e + 2) L_X11_weed 3 [some (.inr (.inr (22, 0)))] [] m (n + 3) = ax_aft (fun s m2 => ax_ex (e + 2) L_X11_weed 6 [some (.inr (.inr (22, 0)))] s m2 n) [] (ax_ex (e + 1) L_X11_no 0 (ax_entry [.inr (.inr (22, 0)), .inl (-5)] 2) [] m n) := fun n => rfl
    refine ax_gci (j := 3) (k2 := 6) (lv2 := [some (.inr (.inr (22, 0)))]) (rest := []) ((R_X11_no (by omega) q3)) s6 ?_
    obtain rfl := Option.some.inj h
    exact ax_rs 1 (fun n => rfl)
  · rw [if_neg c1] at h
    refine ax_gf c1 s2 ?_
    obtain ⟨m9, q7, h⟩ := ax_b_of h
    have s10 : ∀ n, ax_ex (e + 2) L_X11_weed 7 [some (.inr (.inr (22, 0)))] [] m (n + 8) = ax_aft (fun s m2 => ax_ex (e + 2) L_X11_weed 15 [some (.inr (.inr (22, 0)))] s m2 n) [] (ax_ex (e + 1) L_X11_unshelve 0 (ax_entry [.inr (.inr (22, 0))] 2) [] (ax_ui m 22 0 4 ((m.1 22 0 4) - 1)) n) := fun n => rfl
    refine ax_gcv (j := 8) (k2 := 15) (lv2 := [some (.inr (.inr (22, 0)))]) (rest := []) ((R_X11_unshelve (by omega) q7)) s10 ?_
    obtain rfl := Option.some.inj h
    exact ax_rs 3 (fun n => rfl)
def F_X11_seed (m : ax_M) (v1 : Int32) : Option (Int32 × ax_M) := some ((m.1 22 0 9), (ax_ui m 22 0 9 v1))
set_option maxRecDepth 20000 in
set_option maxHeartbeats 4000000 in
theorem R_X11_seed {d : Nat} (hd : 1 ≤ d) {m : ax_M} {v1 : Int32} {q : (Int32 × ax_M)} (h : F_X11_seed m v1 = some q) : ax_Ru d L_X11_seed 0 (ax_entry [.inr (.inr (22, 0)), .inl v1] 3) [] m (some (.inl q.1), q.2) := by
  obtain ⟨e, rfl⟩ : ∃ e, d = e + 1 := ⟨d - 1, by omega⟩
  unfold F_X11_seed at h
  obtain rfl := Option.some.inj h
  exact ax_rs 8 (fun n => rfl)
def F_X11_keep_35_L45 : Nat → ax_M → Int32 → Option ax_M
  | 0, _, _ => none
  | n + 1, m, v2 => if 16 ≤ v2 then (if ax_ok 200 203 = true then (if ax_ok 201 203 = true then (if ax_ok 202 203 = true then (some (ax_ui (ax_ui (ax_ui m 35 0 (200 : Int32).toNatClampNeg (m.1 22 0 1)) 35 0 (201 : Int32).toNatClampNeg ((ax_ui m 35 0 (200 : Int32).toNatClampNeg (m.1 22 0 1)).1 22 0 4)) 35 0 (202 : Int32).toNatClampNeg ((ax_ui (ax_ui m 35 0 (200 : Int32).toNatClampNeg (m.1 22 0 1)) 35 0 (201 : Int32).toNatClampNeg ((ax_ui m 35 0 (200 : Int32).toNatClampNeg (m.1 22 0 1)).1 22 0 4)).1 22 0 9))) else (none)) else (none)) else (none)) else (if ax_ok v2 16 = true then (if ax_ok (136 + v2) 203 = true then (if ax_ok v2 16 = true then (if ax_ok (152 + v2) 203 = true then (if ax_ok v2 16 = true then (if ax_ok (168 + v2) 203 = true then (if ax_ok v2 16 = true then (if ax_ok (184 + v2) 203 = true then (F_X11_keep_35_L45 n (ax_ui (ax_ui (ax_ui (ax_ui m 35 0 (136 + v2).toNatClampNeg (m.1 26 0 v2.toNatClampNeg)) 35 0 (152 + v2).toNatClampNeg ((ax_ui m 35 0 (136 + v2).toNatClampNeg (m.1 26 0 v2.toNatClampNeg)).1 27 0 v2.toNatClampNeg)) 35 0 (168 + v2).toNatClampNeg ((ax_ui (ax_ui m 35 0 (136 + v2).toNatClampNeg (m.1 26 0 v2.toNatClampNeg)) 35 0 (152 + v2).toNatClampNeg ((ax_ui m 35 0 (136 + v2).toNatClampNeg (m.1 26 0 v2.toNatClampNeg)).1 27 0 v2.toNatClampNeg)).1 28 0 v2.toNatClampNeg)) 35 0 (184 + v2).toNatClampNeg ((ax_ui (ax_ui (ax_ui m 35 0 (136 + v2).toNatClampNeg (m.1 26 0 v2.toNatClampNeg)) 35 0 (152 + v2).toNatClampNeg ((ax_ui m 35 0 (136 + v2).toNatClampNeg (m.1 26 0 v2.toNatClampNeg)).1 27 0 v2.toNatClampNeg)) 35 0 (168 + v2).toNatClampNeg ((ax_ui (ax_ui m 35 0 (136 + v2).toNatClampNeg (m.1 26 0 v2.toNatClampNeg)) 35 0 (152 + v2).toNatClampNeg ((ax_ui m 35 0 (136 + v2).toNatClampNeg (m.1 26 0 v2.toNatClampNeg)).1 27 0 v2.toNatClampNeg)).1 28 0 v2.toNatClampNeg)).1 29 0 v2.toNatClampNeg)) (v2 + 1)) else (none)) else (none)) else (none)) else (none)) else (none)) else (none)) else (none)) else (none))
set_option maxRecDepth 20000 in
set_option maxHeartbeats 4000000 in
theorem R_X11_keep_35_L45 {e : Nat} : ∀ (n : Nat) (m : ax_M) (v2 : Int32) (q : ax_M), F_X11_keep_35_L45 n m v2 = some q → ax_Ru (e + 1) L_X11_keep 45 [some (.inr (.inr (22, 0))), some (.inr (.inr (35, 0))), some (.inl v2)] [] m (none, q) := by
  intro n
  induction n with
  | zero =>
    intro m v2 q h
    cases h
  | succ n ih =>
    intro m v2 q h
    rw [F_X11_keep_35_L45] at h
    have s6 : ∀ n, ax_ex (e + 1) L_X11_keep 45 [some (.inr (.inr (22, 0))), some (.inr (.inr (35, 0))), some (.inl v2)] [] m (n + 3) = if 16 ≤ v2 then ax_ex (e + 1) L_X11_keep 86 [some (.inr (.inr (22, 0))), some (.inr (.inr (35, 0))), some (.inl v2)] [] m n else ax_ex (e + 1) L_X11_keep 48 [some (.inr (.inr (22, 0))), some (.inr (.inr (35, 0))), some (.inl v2)] [] m n := fun n => rfl
    by_cases c5 : 16 ≤ v2
    · rw [if_pos c5] at h
      refine ax_gt c5 s6 ?_
      have s8 : ∀ n, ax_ex (e + 1) L_X11_keep 86 [some (.inr (.inr (22, 0))), some (.inr (.inr (35, 0))), some (.inl v2)] [] m (n + 5) = if ax_ok 200 203 = true then ax_ex (e + 1) L_X11_keep 91 [some (.inr (.inr (22, 0))), some (.inr (.inr (35, 0))), some (.inl v2)] [] (ax_ui m 35 0 (200 : Int32).toNatClampNeg (m.1 22 0 1)) n else none := fun n => rfl
      by_cases c7 : ax_ok 200 203 = true
      · rw [if_pos c7] at h
        refine ax_gt c7 s8 ?_
        have s10 : ∀ n, ax_ex (e + 1) L_X11_keep 91 [some (.inr (.inr (22, 0))), some (.inr (.inr (35, 0))), some (.inl v2)] [] (ax_ui m 35 0 (200 : Int32).toNatClampNeg (m.1 22 0 1)) (n + 5) = if ax_ok 201 203 = true then ax_ex (e + 1) L_X11_keep 96 [some (.inr (.inr (22, 0))), some (.inr (.inr (35, 0))), some (.inl v2)] [] (ax_ui (ax_ui m 35 0 (200 : Int32).toNatClampNeg (m.1 22 0 1)) 35 0 (201 : Int32).toNatClampNeg ((ax_ui m 35 0 (200 : Int32).toNatClampNeg (m.1 22 0 1)).1 22 0 4)) n else none := fun n => rfl
        by_cases c9 : ax_ok 201 203 = true
        · rw [if_pos c9] at h
          refine ax_gt c9 s10 ?_
          have s12 : ∀ n, ax_ex (e + 1) L_X11_keep 96 [some (.inr (.inr (22, 0))), some (.inr (.inr (35, 0))), some (.inl v2)] [] (ax_ui (ax_ui m 35 0 (200 : Int32).toNatClampNeg (m.1 22 0 1)) 35 0 (201 : Int32).toNatClampNeg ((ax_ui m 35 0 (200 : Int32).toNatClampNeg (m.1 22 0 1)).1 22 0 4)) (n + 5) = if ax_ok 202 203 = true then ax_ex (e + 1) L_X11_keep 101 [some (.inr (.inr (22, 0))), some (.inr (.inr (35, 0))), some (.inl v2)] [] (ax_ui (ax_ui (ax_ui m 35 0 (200 : Int32).toNatClampNeg (m.1 22 0 1)) 35 0 (201 : Int32).toNatClampNeg ((ax_ui m 35 0 (200 : Int32).toNatClampNeg (m.1 22 0 1)).1 22 0 4)) 35 0 (202 : Int32).toNatClampNeg ((ax_ui (ax_ui m 35 0 (200 : Int32).toNatClampNeg (m.1 22 0 1)) 35 0 (201 : Int32).toNatClampNeg ((ax_ui m 35 0 (200 : Int32).toNatClampNeg (m.1 22 0 1)).1 22 0 4)).1 22 0 9)) n else none := fun n => rfl
          by_cases c11 : ax_ok 202 203 = true
          · rw [if_pos c11] at h
            refine ax_gt c11 s12 ?_
            obtain rfl := Option.some.inj h
            exact ax_rs 1 (fun n => rfl)
          · rw [if_neg c11] at h
            cases h
        · rw [if_neg c9] at h
          cases h
      · rw [if_neg c7] at h
        cases h
    · rw [if_neg c5] at h
      refine ax_gf c5 s6 ?_
      have s14 : ∀ n, ax_ex (e + 1) L_X11_keep 48 [some (.inr (.inr (22, 0))), some (.inr (.inr (35, 0))), some (.inl v2)] [] m (n + 8) = if ax_ok v2 16 = true then ax_ex (e + 1) L_X11_keep 56 [some (.inr (.inr (22, 0))), some (.inr (.inr (35, 0))), some (.inl v2)] [.inl (m.1 26 0 v2.toNatClampNeg), .inl (136 + v2), .inr (.inr (35, 0))] m n else none := fun n => rfl
      by_cases c13 : ax_ok v2 16 = true
      · rw [if_pos c13] at h
        refine ax_gt c13 s14 ?_
        obtain ⟨y15, hy15⟩ : ∃ y : Int32, y = (136 + v2) := ⟨_, rfl⟩
        rw [← hy15] at h ⊢
        have s17 : ∀ n, ax_ex (e + 1) L_X11_keep 56 [some (.inr (.inr (22, 0))), some (.inr (.inr (35, 0))), some (.inl v2)] [.inl (m.1 26 0 v2.toNatClampNeg), .inl y15, .inr (.inr (35, 0))] m (n + 1) = if ax_ok y15 203 = true then ax_ex (e + 1) L_X11_keep 57 [some (.inr (.inr (22, 0))), some (.inr (.inr (35, 0))), some (.inl v2)] [] (ax_ui m 35 0 y15.toNatClampNeg (m.1 26 0 v2.toNatClampNeg)) n else none := fun n => rfl
        by_cases c16 : ax_ok y15 203 = true
        · rw [if_pos c16] at h
          refine ax_gt c16 s17 ?_
          have s19 : ∀ n, ax_ex (e + 1) L_X11_keep 57 [some (.inr (.inr (22, 0))), some (.inr (.inr (35, 0))), some (.inl v2)] [] (ax_ui m 35 0 y15.toNatClampNeg (m.1 26 0 v2.toNatClampNeg)) (n + 8) = if ax_ok v2 16 = true then ax_ex (e + 1) L_X11_keep 65 [some (.inr (.inr (22, 0))), some (.inr (.inr (35, 0))), some (.inl v2)] [.inl ((ax_ui m 35 0 y15.toNatClampNeg (m.1 26 0 v2.toNatClampNeg)).1 27 0 v2.toNatClampNeg), .inl (152 + v2), .inr (.inr (35, 0))] (ax_ui m 35 0 y15.toNatClampNeg (m.1 26 0 v2.toNatClampNeg)) n else none := fun n => rfl
          by_cases c18 : ax_ok v2 16 = true
          · rw [if_pos c18] at h
            refine ax_gt c18 s19 ?_
            obtain ⟨y20, hy20⟩ : ∃ y : Int32, y = (152 + v2) := ⟨_, rfl⟩
            rw [← hy20] at h ⊢
            have s22 : ∀ n, ax_ex (e + 1) L_X11_keep 65 [some (.inr (.inr (22, 0))), some (.inr (.inr (35, 0))), some (.inl v2)] [.inl ((ax_ui m 35 0 y15.toNatClampNeg (m.1 26 0 v2.toNatClampNeg)).1 27 0 v2.toNatClampNeg), .inl y20, .inr (.inr (35, 0))] (ax_ui m 35 0 y15.toNatClampNeg (m.1 26 0 v2.toNatClampNeg)) (n + 1) = if ax_ok y20 203 = true then ax_ex (e + 1) L_X11_keep 66 [some (.inr (.inr (22, 0))), some (.inr (.inr (35, 0))), some (.inl v2)] [] (ax_ui (ax_ui m 35 0 y15.toNatClampNeg (m.1 26 0 v2.toNatClampNeg)) 35 0 y20.toNatClampNeg ((ax_ui m 35 0 y15.toNatClampNeg (m.1 26 0 v2.toNatClampNeg)).1 27 0 v2.toNatClampNeg)) n else none := fun n => rfl
            by_cases c21 : ax_ok y20 203 = true
            · rw [if_pos c21] at h
              refine ax_gt c21 s22 ?_
              have s24 : ∀ n, ax_ex (e + 1) L_X11_keep 66 [some (.inr (.inr (22, 0))), some (.inr (.inr (35, 0))), some (.inl v2)] [] (ax_ui (ax_ui m 35 0 y15.toNatClampNeg (m.1 26 0 v2.toNatClampNeg)) 35 0 y20.toNatClampNeg ((ax_ui m 35 0 y15.toNatClampNeg (m.1 26 0 v2.toNatClampNeg)).1 27 0 v2.toNatClampNeg)) (n + 8) = if ax_ok v2 16 = true then ax_ex (e + 1) L_X11_keep 74 [some (.inr (.inr (22, 0))), some (.inr (.inr (35, 0))), some (.inl v2)] [.inl ((ax_ui (ax_ui m 35 0 y15.toNatClampNeg (m.1 26 0 v2.toNatClampNeg)) 35 0 y20.toNatClampNeg ((ax_ui m 35 0 y15.toNatClampNeg (m.1 26 0 v2.toNatClampNeg)).1 27 0 v2.toNatClampNeg)).1 28 0 v2.toNatClampNeg), .inl (168 + v2), .inr (.inr (35, 0))] (ax_ui (ax_ui m 35 0 y15.toNatClampNeg (m.1 26 0 v2.toNatClampNeg)) 35 0 y20.toNatClampNeg ((ax_ui m 35 0 y15.toNatClampNeg (m.1 26 0 v2.toNatClampNeg)).1 27 0 v2.toNatClampNeg)) n else none := fun n => rfl
              by_cases c23 : ax_ok v2 16 = true
              · rw [if_pos c23] at h
                refine ax_gt c23 s24 ?_
                obtain ⟨y25, hy25⟩ : ∃ y : Int32, y = (168 + v2) := ⟨_, rfl⟩
                rw [← hy25] at h ⊢
                have s27 : ∀ n, ax_ex (e + 1) L_X11_keep 74 [some (.inr (.inr (22, 0))), some (.inr (.inr (35, 0))), some (.inl v2)] [.inl ((ax_ui (ax_ui m 35 0 y15.toNatClampNeg (m.1 26 0 v2.toNatClampNeg)) 35 0 y20.toNatClampNeg ((ax_ui m 35 0 y15.toNatClampNeg (m.1 26 0 v2.toNatClampNeg)).1 27 0 v2.toNatClampNeg)).1 28 0 v2.toNatClampNeg), .inl y25, .inr (.inr (35, 0))] (ax_ui (ax_ui m 35 0 y15.toNatClampNeg (m.1 26 0 v2.toNatClampNeg)) 35 0 y20.toNatClampNeg ((ax_ui m 35 0 y15.toNatClampNeg (m.1 26 0 v2.toNatClampNeg)).1 27 0 v2.toNatClampNeg)) (n + 1) = if ax_ok y25 203 = true then ax_ex (e + 1) L_X11_keep 75 [some (.inr (.inr (22, 0))), some (.inr (.inr (35, 0))), some (.inl v2)] [] (ax_ui (ax_ui (ax_ui m 35 0 y15.toNatClampNeg (m.1 26 0 v2.toNatClampNeg)) 35 0 y20.toNatClampNeg ((ax_ui m 35 0 y15.toNatClampNeg (m.1 26 0 v2.toNatClampNeg)).1 27 0 v2.toNatClampNeg)) 35 0 y25.toNatClampNeg ((ax_ui (ax_ui m 35 0 y15.toNatClampNeg (m.1 26 0 v2.toNatClampNeg)) 35 0 y20.toNatClampNeg ((ax_ui m 35 0 y15.toNatClampNeg (m.1 26 0 v2.toNatClampNeg)).1 27 0 v2.toNatClampNeg)).1 28 0 v2.toNatClampNeg)) n else none := fun n => rfl
                by_cases c26 : ax_ok y25 203 = true
                · rw [if_pos c26] at h
                  refine ax_gt c26 s27 ?_
                  have s29 : ∀ n, ax_ex (e + 1) L_X11_keep 75 [some (.inr (.inr (22, 0))), some (.inr (.inr (35, 0))), some (.inl v2)] [] (ax_ui (ax_ui (ax_ui m 35 0 y15.toNatClampNeg (m.1 26 0 v2.toNatClampNeg)) 35 0 y20.toNatClampNeg ((ax_ui m 35 0 y15.toNatClampNeg (m.1 26 0 v2.toNatClampNeg)).1 27 0 v2.toNatClampNeg)) 35 0 y25.toNatClampNeg ((ax_ui (ax_ui m 35 0 y15.toNatClampNeg (m.1 26 0 v2.toNatClampNeg)) 35 0 y20.toNatClampNeg ((ax_ui m 35 0 y15.toNatClampNeg (m.1 26 0 v2.toNatClampNeg)).1 27 0 v2.toNatClampNeg)).1 28 0 v2.toNatClampNeg)) (n + 8) = if ax_ok v2 16 = true then ax_ex (e + 1) L_X11_keep 83 [some (.inr (.inr (22, 0))), some (.inr (.inr (35, 0))), some (.inl v2)] [.inl ((ax_ui (ax_ui (ax_ui m 35 0 y15.toNatClampNeg (m.1 26 0 v2.toNatClampNeg)) 35 0 y20.toNatClampNeg ((ax_ui m 35 0 y15.toNatClampNeg (m.1 26 0 v2.toNatClampNeg)).1 27 0 v2.toNatClampNeg)) 35 0 y25.toNatClampNeg ((ax_ui (ax_ui m 35 0 y15.toNatClampNeg (m.1 26 0 v2.toNatClampNeg)) 35 0 y20.toNatClampNeg ((ax_ui m 35 0 y15.toNatClampNeg (m.1 26 0 v2.toNatClampNeg)).1 27 0 v2.toNatClampNeg)).1 28 0 v2.toNatClampNeg)).1 29 0 v2.toNatClampNeg), .inl (184 + v2), .inr (.inr (35, 0))] (ax_ui (ax_ui (ax_ui m 35 0 y15.toNatClampNeg (m.1 26 0 v2.toNatClampNeg)) 35 0 y20.toNatClampNeg ((ax_ui m 35 0 y15.toNatClampNeg (m.1 26 0 v2.toNatClampNeg)).1 27 0 v2.toNatClampNeg)) 35 0 y25.toNatClampNeg ((ax_ui (ax_ui m 35 0 y15.toNatClampNeg (m.1 26 0 v2.toNatClampNeg)) 35 0 y20.toNatClampNeg ((ax_ui m 35 0 y15.toNatClampNeg (m.1 26 0 v2.toNatClampNeg)).1 27 0 v2.toNatClampNeg)).1 28 0 v2.toNatClampNeg)) n else none := fun n => rfl
                  by_cases c28 : ax_ok v2 16 = true
                  · rw [if_pos c28] at h
                    refine ax_gt c28 s29 ?_
                    obtain ⟨y30, hy30⟩ : ∃ y : Int32, y = (184 + v2) := ⟨_, rfl⟩
                    rw [← hy30] at h ⊢
                    have s32 : ∀ n, ax_ex (e + 1) L_X11_keep 83 [some (.inr (.inr (22, 0))), some (.inr (.inr (35, 0))), some (.inl v2)] [.inl ((ax_ui (ax_ui (ax_ui m 35 0 y15.toNatClampNeg (m.1 26 0 v2.toNatClampNeg)) 35 0 y20.toNatClampNeg ((ax_ui m 35 0 y15.toNatClampNeg (m.1 26 0 v2.toNatClampNeg)).1 27 0 v2.toNatClampNeg)) 35 0 y25.toNatClampNeg ((ax_ui (ax_ui m 35 0 y15.toNatClampNeg (m.1 26 0 v2.toNatClampNeg)) 35 0 y20.toNatClampNeg ((ax_ui m 35 0 y15.toNatClampNeg (m.1 26 0 v2.toNatClampNeg)).1 27 0 v2.toNatClampNeg)).1 28 0 v2.toNatClampNeg)).1 29 0 v2.toNatClampNeg), .inl y30, .inr (.inr (35, 0))] (ax_ui (ax_ui (ax_ui m 35 0 y15.toNatClampNeg (m.1 26 0 v2.toNatClampNeg)) 35 0 y20.toNatClampNeg ((ax_ui m 35 0 y15.toNatClampNeg (m.1 26 0 v2.toNatClampNeg)).1 27 0 v2.toNatClampNeg)) 35 0 y25.toNatClampNeg ((ax_ui (ax_ui m 35 0 y15.toNatClampNeg (m.1 26 0 v2.toNatClampNeg)) 35 0 y20.toNatClampNeg ((ax_ui m 35 0 y15.toNatClampNeg (m.1 26 0 v2.toNatClampNeg)).1 27 0 v2.toNatClampNeg)).1 28 0 v2.toNatClampNeg)) (n + 1) = if ax_ok y30 203 = true then ax_ex (e + 1) L_X11_keep 84 [some (.inr (.inr (22, 0))), some (.inr (.inr (35, 0))), some (.inl v2)] [] (ax_ui (ax_ui (ax_ui (ax_ui m 35 0 y15.toNatClampNeg (m.1 26 0 v2.toNatClampNeg)) 35 0 y20.toNatClampNeg ((ax_ui m 35 0 y15.toNatClampNeg (m.1 26 0 v2.toNatClampNeg)).1 27 0 v2.toNatClampNeg)) 35 0 y25.toNatClampNeg ((ax_ui (ax_ui m 35 0 y15.toNatClampNeg (m.1 26 0 v2.toNatClampNeg)) 35 0 y20.toNatClampNeg ((ax_ui m 35 0 y15.toNatClampNeg (m.1 26 0 v2.toNatClampNeg)).1 27 0 v2.toNatClampNeg)).1 28 0 v2.toNatClampNeg)) 35 0 y30.toNatClampNeg ((ax_ui (ax_ui (ax_ui m 35 0 y15.toNatClampNeg (m.1 26 0 v2.toNatClampNeg)) 35 0 y20.toNatClampNeg ((ax_ui m 35 0 y15.toNatClampNeg (m.1 26 0 v2.toNatClampNeg)).1 27 0 v2.toNatClampNeg)) 35 0 y25.toNatClampNeg ((ax_ui (ax_ui m 35 0 y15.toNatClampNeg (m.1 26 0 v2.toNatClampNeg)) 35 0 y20.toNatClampNeg ((ax_ui m 35 0 y15.toNatClampNeg (m.1 26 0 v2.toNatClampNeg)).1 27 0 v2.toNatClampNeg)).1 28 0 v2.toNatClampNeg)).1 29 0 v2.toNatClampNeg)) n else none := fun n => rfl
                    by_cases c31 : ax_ok y30 203 = true
                    · rw [if_pos c31] at h
                      refine ax_gt c31 s32 ?_
                      refine ax_go (j := 2) (k2 := 45) (lv2 := [some (.inr (.inr (22, 0))), some (.inr (.inr (35, 0))), some (.inl (v2 + 1))]) (st2 := []) (m2 := (ax_ui (ax_ui (ax_ui (ax_ui m 35 0 y15.toNatClampNeg (m.1 26 0 v2.toNatClampNeg)) 35 0 y20.toNatClampNeg ((ax_ui m 35 0 y15.toNatClampNeg (m.1 26 0 v2.toNatClampNeg)).1 27 0 v2.toNatClampNeg)) 35 0 y25.toNatClampNeg ((ax_ui (ax_ui m 35 0 y15.toNatClampNeg (m.1 26 0 v2.toNatClampNeg)) 35 0 y20.toNatClampNeg ((ax_ui m 35 0 y15.toNatClampNeg (m.1 26 0 v2.toNatClampNeg)).1 27 0 v2.toNatClampNeg)).1 28 0 v2.toNatClampNeg)) 35 0 y30.toNatClampNeg ((ax_ui (ax_ui (ax_ui m 35 0 y15.toNatClampNeg (m.1 26 0 v2.toNatClampNeg)) 35 0 y20.toNatClampNeg ((ax_ui m 35 0 y15.toNatClampNeg (m.1 26 0 v2.toNatClampNeg)).1 27 0 v2.toNatClampNeg)) 35 0 y25.toNatClampNeg ((ax_ui (ax_ui m 35 0 y15.toNatClampNeg (m.1 26 0 v2.toNatClampNeg)) 35 0 y20.toNatClampNeg ((ax_ui m 35 0 y15.toNatClampNeg (m.1 26 0 v2.toNatClampNeg)).1 27 0 v2.toNatClampNeg)).1 28 0 v2.toNatClampNeg)).1 29 0 v2.toNatClampNeg))) (fun n => rfl) ?_
                      exact ax_fg (lv2 := [some (.inr (.inr (22, 0))), some (.inr (.inr (35, 0))), some (.inl (v2 + 1))]) ⟨rfl, rfl, rfl, trivial⟩ (ih (ax_ui (ax_ui (ax_ui (ax_ui m 35 0 y15.toNatClampNeg (m.1 26 0 v2.toNatClampNeg)) 35 0 y20.toNatClampNeg ((ax_ui m 35 0 y15.toNatClampNeg (m.1 26 0 v2.toNatClampNeg)).1 27 0 v2.toNatClampNeg)) 35 0 y25.toNatClampNeg ((ax_ui (ax_ui m 35 0 y15.toNatClampNeg (m.1 26 0 v2.toNatClampNeg)) 35 0 y20.toNatClampNeg ((ax_ui m 35 0 y15.toNatClampNeg (m.1 26 0 v2.toNatClampNeg)).1 27 0 v2.toNatClampNeg)).1 28 0 v2.toNatClampNeg)) 35 0 y30.toNatClampNeg ((ax_ui (ax_ui (ax_ui m 35 0 y15.toNatClampNeg (m.1 26 0 v2.toNatClampNeg)) 35 0 y20.toNatClampNeg ((ax_ui m 35 0 y15.toNatClampNeg (m.1 26 0 v2.toNatClampNeg)).1 27 0 v2.toNatClampNeg)) 35 0 y25.toNatClampNeg ((ax_ui (ax_ui m 35 0 y15.toNatClampNeg (m.1 26 0 v2.toNatClampNeg)) 35 0 y20.toNatClampNeg ((ax_ui m 35 0 y15.toNatClampNeg (m.1 26 0 v2.toNatClampNeg)).1 27 0 v2.toNatClampNeg)).1 28 0 v2.toNatClampNeg)).1 29 0 v2.toNatClampNeg)) (v2 + 1) _ h)
                    · rw [if_neg c31] at h
                      cases h
                  · rw [if_neg c28] at h
                    cases h
                · rw [if_neg c26] at h
                  cases h
              · rw [if_neg c23] at h
                cases h
            · rw [if_neg c21] at h
              cases h
          · rw [if_neg c18] at h
            cases h
        · rw [if_neg c16] at h
          cases h
      · rw [if_neg c13] at h
        cases h
def F_X11_keep_35_L29 : Nat → ax_M → Int32 → Option ax_M
  | 0, _, _ => none
  | n + 1, m, v2 => if 8 ≤ v2 then (F_X11_keep_35_L45 ax_FU m 0) else (if ax_ok v2 8 = true then (if ax_ok (128 + v2) 203 = true then (F_X11_keep_35_L29 n (ax_ui m 35 0 (128 + v2).toNatClampNeg (m.1 24 0 v2.toNatClampNeg)) (v2 + 1)) else (none)) else (none))
set_option maxRecDepth 20000 in
set_option maxHeartbeats 4000000 in
theorem R_X11_keep_35_L29 {e : Nat} : ∀ (n : Nat) (m : ax_M) (v2 : Int32) (q : ax_M), F_X11_keep_35_L29 n m v2 = some q → ax_Ru (e + 1) L_X11_keep 29 [some (.inr (.inr (22, 0))), some (.inr (.inr (35, 0))), some (.inl v2)] [] m (none, q) := by
  intro n
  induction n with
  | zero =>
    intro m v2 q h
    cases h
  | succ n ih =>
    intro m v2 q h
    rw [F_X11_keep_35_L29] at h
    have s4 : ∀ n, ax_ex (e + 1) L_X11_keep 29 [some (.inr (.inr (22, 0))), some (.inr (.inr (35, 0))), some (.inl v2)] [] m (n + 3) = if 8 ≤ v2 then ax_ex (e + 1) L_X11_keep 43 [some (.inr (.inr (22, 0))), some (.inr (.inr (35, 0))), some (.inl v2)] [] m n else ax_ex (e + 1) L_X11_keep 32 [some (.inr (.inr (22, 0))), some (.inr (.inr (35, 0))), some (.inl v2)] [] m n := fun n => rfl
    by_cases c3 : 8 ≤ v2
    · rw [if_pos c3] at h
      refine ax_gt c3 s4 ?_
      refine ax_go (j := 2) (k2 := 45) (lv2 := [some (.inr (.inr (22, 0))), some (.inr (.inr (35, 0))), some (.inl 0)]) (st2 := []) (m2 := m) (fun n => rfl) ?_
      refine ax_fg (lv2 := [some (.inr (.inr (22, 0))), some (.inr (.inr (35, 0))), some (.inl 0)]) ⟨rfl, rfl, rfl, trivial⟩ ?_
      refine R_X11_keep_35_L45 _ m 0 _ h
    · rw [if_neg c3] at h
      refine ax_gf c3 s4 ?_
      have s35 : ∀ n, ax_ex (e + 1) L_X11_keep 32 [some (.inr (.inr (22, 0))), some (.inr (.inr (35, 0))), some (.inl v2)] [] m (n + 8) = if ax_ok v2 8 = true then ax_ex (e + 1) L_X11_keep 40 [some (.inr (.inr (22, 0))), some (.inr (.inr (35, 0))), some (.inl v2)] [.inl (m.1 24 0 v2.toNatClampNeg), .inl (128 + v2), .inr (.inr (35, 0))] m n else none := fun n => rfl
      by_cases c34 : ax_ok v2 8 = true
      · rw [if_pos c34] at h
        refine ax_gt c34 s35 ?_
        obtain ⟨y36, hy36⟩ : ∃ y : Int32, y = (128 + v2) := ⟨_, rfl⟩
        rw [← hy36] at h ⊢
        have s38 : ∀ n, ax_ex (e + 1) L_X11_keep 40 [some (.inr (.inr (22, 0))), some (.inr (.inr (35, 0))), some (.inl v2)] [.inl (m.1 24 0 v2.toNatClampNeg), .inl y36, .inr (.inr (35, 0))] m (n + 1) = if ax_ok y36 203 = true then ax_ex (e + 1) L_X11_keep 41 [some (.inr (.inr (22, 0))), some (.inr (.inr (35, 0))), some (.inl v2)] [] (ax_ui m 35 0 y36.toNatClampNeg (m.1 24 0 v2.toNatClampNeg)) n else none := fun n => rfl
        by_cases c37 : ax_ok y36 203 = true
        · rw [if_pos c37] at h
          refine ax_gt c37 s38 ?_
          refine ax_go (j := 2) (k2 := 29) (lv2 := [some (.inr (.inr (22, 0))), some (.inr (.inr (35, 0))), some (.inl (v2 + 1))]) (st2 := []) (m2 := (ax_ui m 35 0 y36.toNatClampNeg (m.1 24 0 v2.toNatClampNeg))) (fun n => rfl) ?_
          exact ax_fg (lv2 := [some (.inr (.inr (22, 0))), some (.inr (.inr (35, 0))), some (.inl (v2 + 1))]) ⟨rfl, rfl, rfl, trivial⟩ (ih (ax_ui m 35 0 y36.toNatClampNeg (m.1 24 0 v2.toNatClampNeg)) (v2 + 1) _ h)
        · rw [if_neg c37] at h
          cases h
      · rw [if_neg c34] at h
        cases h
def F_X11_keep_35_L2 : Nat → ax_M → Int32 → Option ax_M
  | 0, _, _ => none
  | n + 1, m, v2 => if 64 ≤ v2 then (F_X11_keep_35_L29 ax_FU m 0) else (if ax_ok v2 64 = true then (if (m.1 23 0 v2.toNatClampNeg) = 0 then (if ax_ok v2 203 = true then (if ax_ok v2 64 = true then (if ax_ok (64 + v2) 203 = true then (F_X11_keep_35_L2 n (ax_ui (ax_ui m 35 0 v2.toNatClampNeg 0) 35 0 (64 + v2).toNatClampNeg ((ax_ui m 35 0 v2.toNatClampNeg 0).1 25 0 v2.toNatClampNeg)) (v2 + 1)) else (none)) else (none)) else (none)) else (if ax_ok v2 203 = true then (if ax_ok v2 64 = true then (if ax_ok (64 + v2) 203 = true then (F_X11_keep_35_L2 n (ax_ui (ax_ui m 35 0 v2.toNatClampNeg 1) 35 0 (64 + v2).toNatClampNeg ((ax_ui m 35 0 v2.toNatClampNeg 1).1 25 0 v2.toNatClampNeg)) (v2 + 1)) else (none)) else (none)) else (none))) else (none))
set_option maxRecDepth 20000 in
set_option maxHeartbeats 4000000 in
theorem R_X11_keep_35_L2 {e : Nat} : ∀ (n : Nat) (m : ax_M) (v2 : Int32) (q : ax_M), F_X11_keep_35_L2 n m v2 = some q → ax_Ru (e + 1) L_X11_keep 2 [some (.inr (.inr (22, 0))), some (.inr (.inr (35, 0))), some (.inl v2)] [] m (none, q) := by
  intro n
  induction n with
  | zero =>
    intro m v2 q h
    cases h
  | succ n ih =>
    intro m v2 q h
    rw [F_X11_keep_35_L2] at h
    have s2 : ∀ n, ax_ex (e + 1) L_X11_keep 2 [some (.inr (.inr (22, 0))), some (.inr (.inr (35, 0))), some (.inl v2)] [] m (n + 3) = if 64 ≤ v2 then ax_ex (e + 1) L_X11_keep 27 [some (.inr (.inr (22, 0))), some (.inr (.inr (35, 0))), some (.inl v2)] [] m n else ax_ex (e + 1) L_X11_keep 5 [some (.inr (.inr (22, 0))), some (.inr (.inr (35, 0))), some (.inl v2)] [] m n := fun n => rfl
    by_cases c1 : 64 ≤ v2
    · rw [if_pos c1] at h
      refine ax_gt c1 s2 ?_
      refine ax_go (j := 2) (k2 := 29) (lv2 := [some (.inr (.inr (22, 0))), some (.inr (.inr (35, 0))), some (.inl 0)]) (st2 := []) (m2 := m) (fun n => rfl) ?_
      refine ax_fg (lv2 := [some (.inr (.inr (22, 0))), some (.inr (.inr (35, 0))), some (.inl 0)]) ⟨rfl, rfl, rfl, trivial⟩ ?_
      refine R_X11_keep_35_L29 _ m 0 _ h
    · rw [if_neg c1] at h
      refine ax_gf c1 s2 ?_
      have s41 : ∀ n, ax_ex (e + 1) L_X11_keep 5 [some (.inr (.inr (22, 0))), some (.inr (.inr (35, 0))), some (.inl v2)] [] m (n + 6) = if ax_ok v2 64 = true then ax_ex (e + 1) L_X11_keep 11 [some (.inr (.inr (22, 0))), some (.inr (.inr (35, 0))), some (.inl v2)] [.inl (m.1 23 0 v2.toNatClampNeg), .inl v2, .inr (.inr (35, 0))] m n else none := fun n => rfl
      by_cases c40 : ax_ok v2 64 = true
      · rw [if_pos c40] at h
        refine ax_gt c40 s41 ?_
        have s43 : ∀ n, ax_ex (e + 1) L_X11_keep 11 [some (.inr (.inr (22, 0))), some (.inr (.inr (35, 0))), some (.inl v2)] [.inl (m.1 23 0 v2.toNatClampNeg), .inl v2, .inr (.inr (35, 0))] m (n + 1) = if (m.1 23 0 v2.toNatClampNeg) = 0 then ax_ex (e + 1) L_X11_keep 14 [some (.inr (.inr (22, 0))), some (.inr (.inr (35, 0))), some (.inl v2)] [.inl v2, .inr (.inr (35, 0))] m n else ax_ex (e + 1) L_X11_keep 12 [some (.inr (.inr (22, 0))), some (.inr (.inr (35, 0))), some (.inl v2)] [.inl v2, .inr (.inr (35, 0))] m n := fun n => rfl
        by_cases c42 : (m.1 23 0 v2.toNatClampNeg) = 0
        · rw [if_pos c42] at h
          refine ax_gt c42 s43 ?_
          have s45 : ∀ n, ax_ex (e + 1) L_X11_keep 14 [some (.inr (.inr (22, 0))), some (.inr (.inr (35, 0))), some (.inl v2)] [.inl v2, .inr (.inr (35, 0))] m (n + 2) = if ax_ok v2 203 = true then ax_ex (e + 1) L_X11_keep 16 [some (.inr (.inr (22, 0))), some (.inr (.inr (35, 0))), some (.inl v2)] [] (ax_ui m 35 0 v2.toNatClampNeg 0) n else none := fun n => rfl
          by_cases c44 : ax_ok v2 203 = true
          · rw [if_pos c44] at h
            refine ax_gt c44 s45 ?_
            have s47 : ∀ n, ax_ex (e + 1) L_X11_keep 16 [some (.inr (.inr (22, 0))), some (.inr (.inr (35, 0))), some (.inl v2)] [] (ax_ui m 35 0 v2.toNatClampNeg 0) (n + 8) = if ax_ok v2 64 = true then ax_ex (e + 1) L_X11_keep 24 [some (.inr (.inr (22, 0))), some (.inr (.inr (35, 0))), some (.inl v2)] [.inl ((ax_ui m 35 0 v2.toNatClampNeg 0).1 25 0 v2.toNatClampNeg), .inl (64 + v2), .inr (.inr (35, 0))] (ax_ui m 35 0 v2.toNatClampNeg 0) n else none := fun n => rfl
            by_cases c46 : ax_ok v2 64 = true
            · rw [if_pos c46] at h
              refine ax_gt c46 s47 ?_
              obtain ⟨y48, hy48⟩ : ∃ y : Int32, y = (64 + v2) := ⟨_, rfl⟩
              rw [← hy48] at h ⊢
              have s50 : ∀ n, ax_ex (e + 1) L_X11_keep 24 [some (.inr (.inr (22, 0))), some (.inr (.inr (35, 0))), some (.inl v2)] [.inl ((ax_ui m 35 0 v2.toNatClampNeg 0).1 25 0 v2.toNatClampNeg), .inl y48, .inr (.inr (35, 0))] (ax_ui m 35 0 v2.toNatClampNeg 0) (n + 1) = if ax_ok y48 203 = true then ax_ex (e + 1) L_X11_keep 25 [some (.inr (.inr (22, 0))), some (.inr (.inr (35, 0))), some (.inl v2)] [] (ax_ui (ax_ui m 35 0 v2.toNatClampNeg 0) 35 0 y48.toNatClampNeg ((ax_ui m 35 0 v2.toNatClampNeg 0).1 25 0 v2.toNatClampNeg)) n else none := fun n => rfl
              by_cases c49 : ax_ok y48 203 = true
              · rw [if_pos c49] at h
                refine ax_gt c49 s50 ?_
                refine ax_go (j := 2) (k2 := 2) (lv2 := [some (.inr (.inr (22, 0))), some (.inr (.inr (35, 0))), some (.inl (v2 + 1))]) (st2 := []) (m2 := (ax_ui (ax_ui m 35 0 v2.toNatClampNeg 0) 35 0 y48.toNatClampNeg ((ax_ui m 35 0 v2.toNatClampNeg 0).1 25 0 v2.toNatClampNeg))) (fun n => rfl) ?_
                exact ax_fg (lv2 := [some (.inr (.inr (22, 0))), some (.inr (.inr (35, 0))), some (.inl (v2 + 1))]) ⟨rfl, rfl, rfl, trivial⟩ (ih (ax_ui (ax_ui m 35 0 v2.toNatClampNeg 0) 35 0 y48.toNatClampNeg ((ax_ui m 35 0 v2.toNatClampNeg 0).1 25 0 v2.toNatClampNeg)) (v2 + 1) _ h)
              · rw [if_neg c49] at h
                cases h
            · rw [if_neg c46] at h
              cases h
          · rw [if_neg c44] at h
            cases h
        · rw [if_neg c42] at h
          refine ax_gf c42 s43 ?_
          have s52 : ∀ n, ax_ex (e + 1) L_X11_keep 12 [some (.inr (.inr (22, 0))), some (.inr (.inr (35, 0))), some (.inl v2)] [.inl v2, .inr (.inr (35, 0))] m (n + 3) = if ax_ok v2 203 = true then ax_ex (e + 1) L_X11_keep 16 [some (.inr (.inr (22, 0))), some (.inr (.inr (35, 0))), some (.inl v2)] [] (ax_ui m 35 0 v2.toNatClampNeg 1) n else none := fun n => rfl
          by_cases c51 : ax_ok v2 203 = true
          · rw [if_pos c51] at h
            refine ax_gt c51 s52 ?_
            have s54 : ∀ n, ax_ex (e + 1) L_X11_keep 16 [some (.inr (.inr (22, 0))), some (.inr (.inr (35, 0))), some (.inl v2)] [] (ax_ui m 35 0 v2.toNatClampNeg 1) (n + 8) = if ax_ok v2 64 = true then ax_ex (e + 1) L_X11_keep 24 [some (.inr (.inr (22, 0))), some (.inr (.inr (35, 0))), some (.inl v2)] [.inl ((ax_ui m 35 0 v2.toNatClampNeg 1).1 25 0 v2.toNatClampNeg), .inl (64 + v2), .inr (.inr (35, 0))] (ax_ui m 35 0 v2.toNatClampNeg 1) n else none := fun n => rfl
            by_cases c53 : ax_ok v2 64 = true
            · rw [if_pos c53] at h
              refine ax_gt c53 s54 ?_
              obtain ⟨y55, hy55⟩ : ∃ y : Int32, y = (64 + v2) := ⟨_, rfl⟩
              rw [← hy55] at h ⊢
              have s57 : ∀ n, ax_ex (e + 1) L_X11_keep 24 [some (.inr (.inr (22, 0))), some (.inr (.inr (35, 0))), some (.inl v2)] [.inl ((ax_ui m 35 0 v2.toNatClampNeg 1).1 25 0 v2.toNatClampNeg), .inl y55, .inr (.inr (35, 0))] (ax_ui m 35 0 v2.toNatClampNeg 1) (n + 1) = if ax_ok y55 203 = true then ax_ex (e + 1) L_X11_keep 25 [some (.inr (.inr (22, 0))), some (.inr (.inr (35, 0))), some (.inl v2)] [] (ax_ui (ax_ui m 35 0 v2.toNatClampNeg 1) 35 0 y55.toNatClampNeg ((ax_ui m 35 0 v2.toNatClampNeg 1).1 25 0 v2.toNatClampNeg)) n else none := fun n => rfl
              by_cases c56 : ax_ok y55 203 = true
              · rw [if_pos c56] at h
                refine ax_gt c56 s57 ?_
                refine ax_go (j := 2) (k2 := 2) (lv2 := [some (.inr (.inr (22, 0))), some (.inr (.inr (35, 0))), some (.inl (v2 + 1))]) (st2 := []) (m2 := (ax_ui (ax_ui m 35 0 v2.toNatClampNeg 1) 35 0 y55.toNatClampNeg ((ax_ui m 35 0 v2.toNatClampNeg 1).1 25 0 v2.toNatClampNeg))) (fun n => rfl) ?_
                exact ax_fg (lv2 := [some (.inr (.inr (22, 0))), some (.inr (.inr (35, 0))), some (.inl (v2 + 1))]) ⟨rfl, rfl, rfl, trivial⟩ (ih (ax_ui (ax_ui m 35 0 v2.toNatClampNeg 1) 35 0 y55.toNatClampNeg ((ax_ui m 35 0 v2.toNatClampNeg 1).1 25 0 v2.toNatClampNeg)) (v2 + 1) _ h)
              · rw [if_neg c56] at h
                cases h
            · rw [if_neg c53] at h
              cases h
          · rw [if_neg c51] at h
            cases h
      · rw [if_neg c40] at h
        cases h
def F_X11_keep_35 (m : ax_M) : Option ax_M := F_X11_keep_35_L2 ax_FU m 0
set_option maxRecDepth 20000 in
set_option maxHeartbeats 4000000 in
theorem R_X11_keep_35 {d : Nat} (hd : 1 ≤ d) {m : ax_M} {q : ax_M} (h : F_X11_keep_35 m = some q) : ax_Ru d L_X11_keep 0 (ax_entry [.inr (.inr (22, 0)), .inr (.inr (35, 0))] 3) [] m (none, q) := by
  obtain ⟨e, rfl⟩ : ∃ e, d = e + 1 := ⟨d - 1, by omega⟩
  unfold F_X11_keep_35 at h
  refine ax_go (j := 2) (k2 := 2) (lv2 := [some (.inr (.inr (22, 0))), some (.inr (.inr (35, 0))), some (.inl 0)]) (st2 := []) (m2 := m) (fun n => rfl) ?_
  refine ax_fg (lv2 := [some (.inr (.inr (22, 0))), some (.inr (.inr (35, 0))), some (.inl 0)]) ⟨rfl, rfl, rfl, trivial⟩ ?_
  refine R_X11_keep_35_L2 _ m 0 _ h
def F_X11_image (m : ax_M) : Option (Int32 × ax_M) := ax_b (F_X11_keep_35 (ax_ui m 22 0 20 1)) (fun m4 => some (1, m4))
set_option maxRecDepth 20000 in
set_option maxHeartbeats 4000000 in
theorem R_X11_image {d : Nat} (hd : 2 ≤ d) {m : ax_M} {q : (Int32 × ax_M)} (h : F_X11_image m = some q) : ax_Ru d L_X11_image 0 (ax_entry [.inr (.inr (22, 0))] 1) [] m (some (.inl q.1), q.2) := by
  obtain ⟨e, rfl⟩ : ∃ e, d = e + 2 := ⟨d - 2, by omega⟩
  unfold F_X11_image at h
  have s1 : ∀ n, ax_ex (e + 2) L_X11_image 0 (ax_entry [.inr (.inr (22, 0))] 1) [] m (n + 3) = if (1 : Int32) = 0 ∨ (1 : Int32) = 1 then ax_ex (e + 2) L_X11_image 3 [some (.inr (.inr (22, 0)))] [] (ax_ui m 22 0 20 1) n else none := fun n => rfl
  refine ax_gt (by decide) s1 ?_
  obtain ⟨m4, q2, h⟩ := ax_b_of h
  have s5 : ∀ n, ax_ex (e + 2) L_X11_image 3 [some (.inr (.inr (22, 0)))] [] (ax_ui m 22 0 20 1) (n + 4) = ax_aft (fun s m2 => ax_ex (e + 2) L_X11_image 7 [some (.inr (.inr (22, 0)))] s m2 n) [] (ax_ex (e + 1) L_X11_keep 0 (ax_entry [.inr (.inr (22, 0)), .inr (.inr (35, 0))] 3) [] (ax_ui m 22 0 20 1) n) := fun n => rfl
  refine ax_gcv (j := 4) (k2 := 7) (lv2 := [some (.inr (.inr (22, 0)))]) (rest := []) ((R_X11_keep_35 (by omega) q2)) s5 ?_
  obtain rfl := Option.some.inj h
  exact ax_rs 2 (fun n => rfl)
def F_X11_again_35_L46 : Nat → ax_M → Int32 → Option ax_M
  | 0, _, _ => none
  | n + 1, m, v2 => if 16 ≤ v2 then (if ax_ok 200 203 = true then (if ax_ok 201 203 = true then (if ax_ok 202 203 = true then (some (ax_ui (ax_ui (ax_ui m 22 0 1 (m.1 35 0 (200 : Int32).toNatClampNeg)) 22 0 4 ((ax_ui m 22 0 1 (m.1 35 0 (200 : Int32).toNatClampNeg)).1 35 0 (201 : Int32).toNatClampNeg)) 22 0 9 ((ax_ui (ax_ui m 22 0 1 (m.1 35 0 (200 : Int32).toNatClampNeg)) 22 0 4 ((ax_ui m 22 0 1 (m.1 35 0 (200 : Int32).toNatClampNeg)).1 35 0 (201 : Int32).toNatClampNeg)).1 35 0 (202 : Int32).toNatClampNeg))) else (none)) else (none)) else (none)) else (if ax_ok (136 + v2) 203 = true then (if ax_ok v2 16 = true then (if ax_ok (152 + v2) 203 = true then (if ax_ok v2 16 = true then (if ax_ok (168 + v2) 203 = true then (if ax_ok v2 16 = true then (if ax_ok (184 + v2) 203 = true then (if ax_ok v2 16 = true then (F_X11_again_35_L46 n (ax_ui (ax_ui (ax_ui (ax_ui m 26 0 v2.toNatClampNeg (m.1 35 0 (136 + v2).toNatClampNeg)) 27 0 v2.toNatClampNeg ((ax_ui m 26 0 v2.toNatClampNeg (m.1 35 0 (136 + v2).toNatClampNeg)).1 35 0 (152 + v2).toNatClampNeg)) 28 0 v2.toNatClampNeg ((ax_ui (ax_ui m 26 0 v2.toNatClampNeg (m.1 35 0 (136 + v2).toNatClampNeg)) 27 0 v2.toNatClampNeg ((ax_ui m 26 0 v2.toNatClampNeg (m.1 35 0 (136 + v2).toNatClampNeg)).1 35 0 (152 + v2).toNatClampNeg)).1 35 0 (168 + v2).toNatClampNeg)) 29 0 v2.toNatClampNeg ((ax_ui (ax_ui (ax_ui m 26 0 v2.toNatClampNeg (m.1 35 0 (136 + v2).toNatClampNeg)) 27 0 v2.toNatClampNeg ((ax_ui m 26 0 v2.toNatClampNeg (m.1 35 0 (136 + v2).toNatClampNeg)).1 35 0 (152 + v2).toNatClampNeg)) 28 0 v2.toNatClampNeg ((ax_ui (ax_ui m 26 0 v2.toNatClampNeg (m.1 35 0 (136 + v2).toNatClampNeg)) 27 0 v2.toNatClampNeg ((ax_ui m 26 0 v2.toNatClampNeg (m.1 35 0 (136 + v2).toNatClampNeg)).1 35 0 (152 + v2).toNatClampNeg)).1 35 0 (168 + v2).toNatClampNeg)).1 35 0 (184 + v2).toNatClampNeg)) (v2 + 1)) else (none)) else (none)) else (none)) else (none)) else (none)) else (none)) else (none)) else (none))
set_option maxRecDepth 20000 in
set_option maxHeartbeats 4000000 in
theorem R_X11_again_35_L46 {e : Nat} : ∀ (n : Nat) (m : ax_M) (v2 : Int32) (q : ax_M), F_X11_again_35_L46 n m v2 = some q → ax_Ru (e + 1) L_X11_again 46 [some (.inr (.inr (22, 0))), some (.inr (.inr (35, 0))), some (.inl v2)] [] m (none, q) := by
  intro n
  induction n with
  | zero =>
    intro m v2 q h
    cases h
  | succ n ih =>
    intro m v2 q h
    rw [F_X11_again_35_L46] at h
    have s6 : ∀ n, ax_ex (e + 1) L_X11_again 46 [some (.inr (.inr (22, 0))), some (.inr (.inr (35, 0))), some (.inl v2)] [] m (n + 3) = if 16 ≤ v2 then ax_ex (e + 1) L_X11_again 87 [some (.inr (.inr (22, 0))), some (.inr (.inr (35, 0))), some (.inl v2)] [] m n else ax_ex (e + 1) L_X11_again 49 [some (.inr (.inr (22, 0))), some (.inr (.inr (35, 0))), some (.inl v2)] [] m n := fun n => rfl
    by_cases c5 : 16 ≤ v2
    · rw [if_pos c5] at h
      refine ax_gt c5 s6 ?_
      have s8 : ∀ n, ax_ex (e + 1) L_X11_again 87 [some (.inr (.inr (22, 0))), some (.inr (.inr (35, 0))), some (.inl v2)] [] m (n + 4) = if ax_ok 200 203 = true then ax_ex (e + 1) L_X11_again 91 [some (.inr (.inr (22, 0))), some (.inr (.inr (35, 0))), some (.inl v2)] [.inl (m.1 35 0 (200 : Int32).toNatClampNeg), .inr (.inr (22, 0))] m n else none := fun n => rfl
      by_cases c7 : ax_ok 200 203 = true
      · rw [if_pos c7] at h
        refine ax_gt c7 s8 ?_
        have s10 : ∀ n, ax_ex (e + 1) L_X11_again 91 [some (.inr (.inr (22, 0))), some (.inr (.inr (35, 0))), some (.inl v2)] [.inl (m.1 35 0 (200 : Int32).toNatClampNeg), .inr (.inr (22, 0))] m (n + 5) = if ax_ok 201 203 = true then ax_ex (e + 1) L_X11_again 96 [some (.inr (.inr (22, 0))), some (.inr (.inr (35, 0))), some (.inl v2)] [.inl ((ax_ui m 22 0 1 (m.1 35 0 (200 : Int32).toNatClampNeg)).1 35 0 (201 : Int32).toNatClampNeg), .inr (.inr (22, 0))] (ax_ui m 22 0 1 (m.1 35 0 (200 : Int32).toNatClampNeg)) n else none := fun n => rfl
        by_cases c9 : ax_ok 201 203 = true
        · rw [if_pos c9] at h
          refine ax_gt c9 s10 ?_
          have s12 : ∀ n, ax_ex (e + 1) L_X11_again 96 [some (.inr (.inr (22, 0))), some (.inr (.inr (35, 0))), some (.inl v2)] [.inl ((ax_ui m 22 0 1 (m.1 35 0 (200 : Int32).toNatClampNeg)).1 35 0 (201 : Int32).toNatClampNeg), .inr (.inr (22, 0))] (ax_ui m 22 0 1 (m.1 35 0 (200 : Int32).toNatClampNeg)) (n + 5) = if ax_ok 202 203 = true then ax_ex (e + 1) L_X11_again 101 [some (.inr (.inr (22, 0))), some (.inr (.inr (35, 0))), some (.inl v2)] [.inl ((ax_ui (ax_ui m 22 0 1 (m.1 35 0 (200 : Int32).toNatClampNeg)) 22 0 4 ((ax_ui m 22 0 1 (m.1 35 0 (200 : Int32).toNatClampNeg)).1 35 0 (201 : Int32).toNatClampNeg)).1 35 0 (202 : Int32).toNatClampNeg), .inr (.inr (22, 0))] (ax_ui (ax_ui m 22 0 1 (m.1 35 0 (200 : Int32).toNatClampNeg)) 22 0 4 ((ax_ui m 22 0 1 (m.1 35 0 (200 : Int32).toNatClampNeg)).1 35 0 (201 : Int32).toNatClampNeg)) n else none := fun n => rfl
          by_cases c11 : ax_ok 202 203 = true
          · rw [if_pos c11] at h
            refine ax_gt c11 s12 ?_
            obtain rfl := Option.some.inj h
            exact ax_rs 2 (fun n => rfl)
          · rw [if_neg c11] at h
            cases h
        · rw [if_neg c9] at h
          cases h
      · rw [if_neg c7] at h
        cases h
    · rw [if_neg c5] at h
      refine ax_gf c5 s6 ?_
      refine ax_go (j := 7) (k2 := 56) (lv2 := [some (.inr (.inr (22, 0))), some (.inr (.inr (35, 0))), some (.inl v2)]) (st2 := [.inl (136 + v2), .inr (.inr (35, 0)), .inl v2, .inr (.inr (26, 0))]) (m2 := m) (fun n => rfl) ?_
      obtain ⟨y13, hy13⟩ : ∃ y : Int32, y = (136 + v2) := ⟨_, rfl⟩
      rw [← hy13] at h ⊢
      have s15 : ∀ n, ax_ex (e + 1) L_X11_again 56 [some (.inr (.inr (22, 0))), some (.inr (.inr (35, 0))), some (.inl v2)] [.inl y13, .inr (.inr (35, 0)), .inl v2, .inr (.inr (26, 0))] m (n + 1) = if ax_ok y13 203 = true then ax_ex (e + 1) L_X11_again 57 [some (.inr (.inr (22, 0))), some (.inr (.inr (35, 0))), some (.inl v2)] [.inl (m.1 35 0 y13.toNatClampNeg), .inl v2, .inr (.inr (26, 0))] m n else none := fun n => rfl
      by_cases c14 : ax_ok y13 203 = true
      · rw [if_pos c14] at h
        refine ax_gt c14 s15 ?_
        have s17 : ∀ n, ax_ex (e + 1) L_X11_again 57 [some (.inr (.inr (22, 0))), some (.inr (.inr (35, 0))), some (.inl v2)] [.inl (m.1 35 0 y13.toNatClampNeg), .inl v2, .inr (.inr (26, 0))] m (n + 1) = if ax_ok v2 16 = true then ax_ex (e + 1) L_X11_again 58 [some (.inr (.inr (22, 0))), some (.inr (.inr (35, 0))), some (.inl v2)] [] (ax_ui m 26 0 v2.toNatClampNeg (m.1 35 0 y13.toNatClampNeg)) n else none := fun n => rfl
        by_cases c16 : ax_ok v2 16 = true
        · rw [if_pos c16] at h
          refine ax_gt c16 s17 ?_
          refine ax_go (j := 7) (k2 := 65) (lv2 := [some (.inr (.inr (22, 0))), some (.inr (.inr (35, 0))), some (.inl v2)]) (st2 := [.inl (152 + v2), .inr (.inr (35, 0)), .inl v2, .inr (.inr (27, 0))]) (m2 := (ax_ui m 26 0 v2.toNatClampNeg (m.1 35 0 y13.toNatClampNeg))) (fun n => rfl) ?_
          obtain ⟨y18, hy18⟩ : ∃ y : Int32, y = (152 + v2) := ⟨_, rfl⟩
          rw [← hy18] at h ⊢
          have s20 : ∀ n, ax_ex (e + 1) L_X11_again 65 [some (.inr (.inr (22, 0))), some (.inr (.inr (35, 0))), some (.inl v2)] [.inl y18, .inr (.inr (35, 0)), .inl v2, .inr (.inr (27, 0))] (ax_ui m 26 0 v2.toNatClampNeg (m.1 35 0 y13.toNatClampNeg)) (n + 1) = if ax_ok y18 203 = true then ax_ex (e + 1) L_X11_again 66 [some (.inr (.inr (22, 0))), some (.inr (.inr (35, 0))), some (.inl v2)] [.inl ((ax_ui m 26 0 v2.toNatClampNeg (m.1 35 0 y13.toNatClampNeg)).1 35 0 y18.toNatClampNeg), .inl v2, .inr (.inr (27, 0))] (ax_ui m 26 0 v2.toNatClampNeg (m.1 35 0 y13.toNatClampNeg)) n else none := fun n => rfl
          by_cases c19 : ax_ok y18 203 = true
          · rw [if_pos c19] at h
            refine ax_gt c19 s20 ?_
            have s22 : ∀ n, ax_ex (e + 1) L_X11_again 66 [some (.inr (.inr (22, 0))), some (.inr (.inr (35, 0))), some (.inl v2)] [.inl ((ax_ui m 26 0 v2.toNatClampNeg (m.1 35 0 y13.toNatClampNeg)).1 35 0 y18.toNatClampNeg), .inl v2, .inr (.inr (27, 0))] (ax_ui m 26 0 v2.toNatClampNeg (m.1 35 0 y13.toNatClampNeg)) (n + 1) = if ax_ok v2 16 = true then ax_ex (e + 1) L_X11_again 67 [some (.inr (.inr (22, 0))), some (.inr (.inr (35, 0))), some (.inl v2)] [] (ax_ui (ax_ui m 26 0 v2.toNatClampNeg (m.1 35 0 y13.toNatClampNeg)) 27 0 v2.toNatClampNeg ((ax_ui m 26 0 v2.toNatClampNeg (m.1 35 0 y13.toNatClampNeg)).1 35 0 y18.toNatClampNeg)) n else none := fun n => rfl
            by_cases c21 : ax_ok v2 16 = true
            · rw [if_pos c21] at h
              refine ax_gt c21 s22 ?_
              refine ax_go (j := 7) (k2 := 74) (lv2 := [some (.inr (.inr (22, 0))), some (.inr (.inr (35, 0))), some (.inl v2)]) (st2 := [.inl (168 + v2), .inr (.inr (35, 0)), .inl v2, .inr (.inr (28, 0))]) (m2 := (ax_ui (ax_ui m 26 0 v2.toNatClampNeg (m.1 35 0 y13.toNatClampNeg)) 27 0 v2.toNatClampNeg ((ax_ui m 26 0 v2.toNatClampNeg (m.1 35 0 y13.toNatClampNeg)).1 35 0 y18.toNatClampNeg))) (fun n => rfl) ?_
              obtain ⟨y23, hy23⟩ : ∃ y : Int32, y = (168 + v2) := ⟨_, rfl⟩
              rw [← hy23] at h ⊢
              have s25 : ∀ n, ax_ex (e + 1) L_X11_again 74 [some (.inr (.inr (22, 0))), some (.inr (.inr (35, 0))), some (.inl v2)] [.inl y23, .inr (.inr (35, 0)), .inl v2, .inr (.inr (28, 0))] (ax_ui (ax_ui m 26 0 v2.toNatClampNeg (m.1 35 0 y13.toNatClampNeg)) 27 0 v2.toNatClampNeg ((ax_ui m 26 0 v2.toNatClampNeg (m.1 35 0 y13.toNatClampNeg)).1 35 0 y18.toNatClampNeg)) (n + 1) = if ax_ok y23 203 = true then ax_ex (e + 1) L_X11_again 75 [some (.inr (.inr (22, 0))), some (.inr (.inr (35, 0))), some (.inl v2)] [.inl ((ax_ui (ax_ui m 26 0 v2.toNatClampNeg (m.1 35 0 y13.toNatClampNeg)) 27 0 v2.toNatClampNeg ((ax_ui m 26 0 v2.toNatClampNeg (m.1 35 0 y13.toNatClampNeg)).1 35 0 y18.toNatClampNeg)).1 35 0 y23.toNatClampNeg), .inl v2, .inr (.inr (28, 0))] (ax_ui (ax_ui m 26 0 v2.toNatClampNeg (m.1 35 0 y13.toNatClampNeg)) 27 0 v2.toNatClampNeg ((ax_ui m 26 0 v2.toNatClampNeg (m.1 35 0 y13.toNatClampNeg)).1 35 0 y18.toNatClampNeg)) n else none := fun n => rfl
              by_cases c24 : ax_ok y23 203 = true
              · rw [if_pos c24] at h
                refine ax_gt c24 s25 ?_
                have s27 : ∀ n, ax_ex (e + 1) L_X11_again 75 [some (.inr (.inr (22, 0))), some (.inr (.inr (35, 0))), some (.inl v2)] [.inl ((ax_ui (ax_ui m 26 0 v2.toNatClampNeg (m.1 35 0 y13.toNatClampNeg)) 27 0 v2.toNatClampNeg ((ax_ui m 26 0 v2.toNatClampNeg (m.1 35 0 y13.toNatClampNeg)).1 35 0 y18.toNatClampNeg)).1 35 0 y23.toNatClampNeg), .inl v2, .inr (.inr (28, 0))] (ax_ui (ax_ui m 26 0 v2.toNatClampNeg (m.1 35 0 y13.toNatClampNeg)) 27 0 v2.toNatClampNeg ((ax_ui m 26 0 v2.toNatClampNeg (m.1 35 0 y13.toNatClampNeg)).1 35 0 y18.toNatClampNeg)) (n + 1) = if ax_ok v2 16 = true then ax_ex (e + 1) L_X11_again 76 [some (.inr (.inr (22, 0))), some (.inr (.inr (35, 0))), some (.inl v2)] [] (ax_ui (ax_ui (ax_ui m 26 0 v2.toNatClampNeg (m.1 35 0 y13.toNatClampNeg)) 27 0 v2.toNatClampNeg ((ax_ui m 26 0 v2.toNatClampNeg (m.1 35 0 y13.toNatClampNeg)).1 35 0 y18.toNatClampNeg)) 28 0 v2.toNatClampNeg ((ax_ui (ax_ui m 26 0 v2.toNatClampNeg (m.1 35 0 y13.toNatClampNeg)) 27 0 v2.toNatClampNeg ((ax_ui m 26 0 v2.toNatClampNeg (m.1 35 0 y13.toNatClampNeg)).1 35 0 y18.toNatClampNeg)).1 35 0 y23.toNatClampNeg)) n else none := fun n => rfl
                by_cases c26 : ax_ok v2 16 = true
                · rw [if_pos c26] at h
                  refine ax_gt c26 s27 ?_
                  refine ax_go (j := 7) (k2 := 83) (lv2 := [some (.inr (.inr (22, 0))), some (.inr (.inr (35, 0))), some (.inl v2)]) (st2 := [.inl (184 + v2), .inr (.inr (35, 0)), .inl v2, .inr (.inr (29, 0))]) (m2 := (ax_ui (ax_ui (ax_ui m 26 0 v2.toNatClampNeg (m.1 35 0 y13.toNatClampNeg)) 27 0 v2.toNatClampNeg ((ax_ui m 26 0 v2.toNatClampNeg (m.1 35 0 y13.toNatClampNeg)).1 35 0 y18.toNatClampNeg)) 28 0 v2.toNatClampNeg ((ax_ui (ax_ui m 26 0 v2.toNatClampNeg (m.1 35 0 y13.toNatClampNeg)) 27 0 v2.toNatClampNeg ((ax_ui m 26 0 v2.toNatClampNeg (m.1 35 0 y13.toNatClampNeg)).1 35 0 y18.toNatClampNeg)).1 35 0 y23.toNatClampNeg))) (fun n => rfl) ?_
                  obtain ⟨y28, hy28⟩ : ∃ y : Int32, y = (184 + v2) := ⟨_, rfl⟩
                  rw [← hy28] at h ⊢
                  have s30 : ∀ n, ax_ex (e + 1) L_X11_again 83 [some (.inr (.inr (22, 0))), some (.inr (.inr (35, 0))), some (.inl v2)] [.inl y28, .inr (.inr (35, 0)), .inl v2, .inr (.inr (29, 0))] (ax_ui (ax_ui (ax_ui m 26 0 v2.toNatClampNeg (m.1 35 0 y13.toNatClampNeg)) 27 0 v2.toNatClampNeg ((ax_ui m 26 0 v2.toNatClampNeg (m.1 35 0 y13.toNatClampNeg)).1 35 0 y18.toNatClampNeg)) 28 0 v2.toNatClampNeg ((ax_ui (ax_ui m 26 0 v2.toNatClampNeg (m.1 35 0 y13.toNatClampNeg)) 27 0 v2.toNatClampNeg ((ax_ui m 26 0 v2.toNatClampNeg (m.1 35 0 y13.toNatClampNeg)).1 35 0 y18.toNatClampNeg)).1 35 0 y23.toNatClampNeg)) (n + 1) = if ax_ok y28 203 = true then ax_ex (e + 1) L_X11_again 84 [some (.inr (.inr (22, 0))), some (.inr (.inr (35, 0))), some (.inl v2)] [.inl ((ax_ui (ax_ui (ax_ui m 26 0 v2.toNatClampNeg (m.1 35 0 y13.toNatClampNeg)) 27 0 v2.toNatClampNeg ((ax_ui m 26 0 v2.toNatClampNeg (m.1 35 0 y13.toNatClampNeg)).1 35 0 y18.toNatClampNeg)) 28 0 v2.toNatClampNeg ((ax_ui (ax_ui m 26 0 v2.toNatClampNeg (m.1 35 0 y13.toNatClampNeg)) 27 0 v2.toNatClampNeg ((ax_ui m 26 0 v2.toNatClampNeg (m.1 35 0 y13.toNatClampNeg)).1 35 0 y18.toNatClampNeg)).1 35 0 y23.toNatClampNeg)).1 35 0 y28.toNatClampNeg), .inl v2, .inr (.inr (29, 0))] (ax_ui (ax_ui (ax_ui m 26 0 v2.toNatClampNeg (m.1 35 0 y13.toNatClampNeg)) 27 0 v2.toNatClampNeg ((ax_ui m 26 0 v2.toNatClampNeg (m.1 35 0 y13.toNatClampNeg)).1 35 0 y18.toNatClampNeg)) 28 0 v2.toNatClampNeg ((ax_ui (ax_ui m 26 0 v2.toNatClampNeg (m.1 35 0 y13.toNatClampNeg)) 27 0 v2.toNatClampNeg ((ax_ui m 26 0 v2.toNatClampNeg (m.1 35 0 y13.toNatClampNeg)).1 35 0 y18.toNatClampNeg)).1 35 0 y23.toNatClampNeg)) n else none := fun n => rfl
                  by_cases c29 : ax_ok y28 203 = true
                  · rw [if_pos c29] at h
                    refine ax_gt c29 s30 ?_
                    have s32 : ∀ n, ax_ex (e + 1) L_X11_again 84 [some (.inr (.inr (22, 0))), some (.inr (.inr (35, 0))), some (.inl v2)] [.inl ((ax_ui (ax_ui (ax_ui m 26 0 v2.toNatClampNeg (m.1 35 0 y13.toNatClampNeg)) 27 0 v2.toNatClampNeg ((ax_ui m 26 0 v2.toNatClampNeg (m.1 35 0 y13.toNatClampNeg)).1 35 0 y18.toNatClampNeg)) 28 0 v2.toNatClampNeg ((ax_ui (ax_ui m 26 0 v2.toNatClampNeg (m.1 35 0 y13.toNatClampNeg)) 27 0 v2.toNatClampNeg ((ax_ui m 26 0 v2.toNatClampNeg (m.1 35 0 y13.toNatClampNeg)).1 35 0 y18.toNatClampNeg)).1 35 0 y23.toNatClampNeg)).1 35 0 y28.toNatClampNeg), .inl v2, .inr (.inr (29, 0))] (ax_ui (ax_ui (ax_ui m 26 0 v2.toNatClampNeg (m.1 35 0 y13.toNatClampNeg)) 27 0 v2.toNatClampNeg ((ax_ui m 26 0 v2.toNatClampNeg (m.1 35 0 y13.toNatClampNeg)).1 35 0 y18.toNatClampNeg)) 28 0 v2.toNatClampNeg ((ax_ui (ax_ui m 26 0 v2.toNatClampNeg (m.1 35 0 y13.toNatClampNeg)) 27 0 v2.toNatClampNeg ((ax_ui m 26 0 v2.toNatClampNeg (m.1 35 0 y13.toNatClampNeg)).1 35 0 y18.toNatClampNeg)).1 35 0 y23.toNatClampNeg)) (n + 1) = if ax_ok v2 16 = true then ax_ex (e + 1) L_X11_again 85 [some (.inr (.inr (22, 0))), some (.inr (.inr (35, 0))), some (.inl v2)] [] (ax_ui (ax_ui (ax_ui (ax_ui m 26 0 v2.toNatClampNeg (m.1 35 0 y13.toNatClampNeg)) 27 0 v2.toNatClampNeg ((ax_ui m 26 0 v2.toNatClampNeg (m.1 35 0 y13.toNatClampNeg)).1 35 0 y18.toNatClampNeg)) 28 0 v2.toNatClampNeg ((ax_ui (ax_ui m 26 0 v2.toNatClampNeg (m.1 35 0 y13.toNatClampNeg)) 27 0 v2.toNatClampNeg ((ax_ui m 26 0 v2.toNatClampNeg (m.1 35 0 y13.toNatClampNeg)).1 35 0 y18.toNatClampNeg)).1 35 0 y23.toNatClampNeg)) 29 0 v2.toNatClampNeg ((ax_ui (ax_ui (ax_ui m 26 0 v2.toNatClampNeg (m.1 35 0 y13.toNatClampNeg)) 27 0 v2.toNatClampNeg ((ax_ui m 26 0 v2.toNatClampNeg (m.1 35 0 y13.toNatClampNeg)).1 35 0 y18.toNatClampNeg)) 28 0 v2.toNatClampNeg ((ax_ui (ax_ui m 26 0 v2.toNatClampNeg (m.1 35 0 y13.toNatClampNeg)) 27 0 v2.toNatClampNeg ((ax_ui m 26 0 v2.toNatClampNeg (m.1 35 0 y13.toNatClampNeg)).1 35 0 y18.toNatClampNeg)).1 35 0 y23.toNatClampNeg)).1 35 0 y28.toNatClampNeg)) n else none := fun n => rfl
                    by_cases c31 : ax_ok v2 16 = true
                    · rw [if_pos c31] at h
                      refine ax_gt c31 s32 ?_
                      refine ax_go (j := 2) (k2 := 46) (lv2 := [some (.inr (.inr (22, 0))), some (.inr (.inr (35, 0))), some (.inl (v2 + 1))]) (st2 := []) (m2 := (ax_ui (ax_ui (ax_ui (ax_ui m 26 0 v2.toNatClampNeg (m.1 35 0 y13.toNatClampNeg)) 27 0 v2.toNatClampNeg ((ax_ui m 26 0 v2.toNatClampNeg (m.1 35 0 y13.toNatClampNeg)).1 35 0 y18.toNatClampNeg)) 28 0 v2.toNatClampNeg ((ax_ui (ax_ui m 26 0 v2.toNatClampNeg (m.1 35 0 y13.toNatClampNeg)) 27 0 v2.toNatClampNeg ((ax_ui m 26 0 v2.toNatClampNeg (m.1 35 0 y13.toNatClampNeg)).1 35 0 y18.toNatClampNeg)).1 35 0 y23.toNatClampNeg)) 29 0 v2.toNatClampNeg ((ax_ui (ax_ui (ax_ui m 26 0 v2.toNatClampNeg (m.1 35 0 y13.toNatClampNeg)) 27 0 v2.toNatClampNeg ((ax_ui m 26 0 v2.toNatClampNeg (m.1 35 0 y13.toNatClampNeg)).1 35 0 y18.toNatClampNeg)) 28 0 v2.toNatClampNeg ((ax_ui (ax_ui m 26 0 v2.toNatClampNeg (m.1 35 0 y13.toNatClampNeg)) 27 0 v2.toNatClampNeg ((ax_ui m 26 0 v2.toNatClampNeg (m.1 35 0 y13.toNatClampNeg)).1 35 0 y18.toNatClampNeg)).1 35 0 y23.toNatClampNeg)).1 35 0 y28.toNatClampNeg))) (fun n => rfl) ?_
                      exact ax_fg (lv2 := [some (.inr (.inr (22, 0))), some (.inr (.inr (35, 0))), some (.inl (v2 + 1))]) ⟨rfl, rfl, rfl, trivial⟩ (ih (ax_ui (ax_ui (ax_ui (ax_ui m 26 0 v2.toNatClampNeg (m.1 35 0 y13.toNatClampNeg)) 27 0 v2.toNatClampNeg ((ax_ui m 26 0 v2.toNatClampNeg (m.1 35 0 y13.toNatClampNeg)).1 35 0 y18.toNatClampNeg)) 28 0 v2.toNatClampNeg ((ax_ui (ax_ui m 26 0 v2.toNatClampNeg (m.1 35 0 y13.toNatClampNeg)) 27 0 v2.toNatClampNeg ((ax_ui m 26 0 v2.toNatClampNeg (m.1 35 0 y13.toNatClampNeg)).1 35 0 y18.toNatClampNeg)).1 35 0 y23.toNatClampNeg)) 29 0 v2.toNatClampNeg ((ax_ui (ax_ui (ax_ui m 26 0 v2.toNatClampNeg (m.1 35 0 y13.toNatClampNeg)) 27 0 v2.toNatClampNeg ((ax_ui m 26 0 v2.toNatClampNeg (m.1 35 0 y13.toNatClampNeg)).1 35 0 y18.toNatClampNeg)) 28 0 v2.toNatClampNeg ((ax_ui (ax_ui m 26 0 v2.toNatClampNeg (m.1 35 0 y13.toNatClampNeg)) 27 0 v2.toNatClampNeg ((ax_ui m 26 0 v2.toNatClampNeg (m.1 35 0 y13.toNatClampNeg)).1 35 0 y18.toNatClampNeg)).1 35 0 y23.toNatClampNeg)).1 35 0 y28.toNatClampNeg)) (v2 + 1) _ h)
                    · rw [if_neg c31] at h
                      cases h
                  · rw [if_neg c29] at h
                    cases h
                · rw [if_neg c26] at h
                  cases h
              · rw [if_neg c24] at h
                cases h
            · rw [if_neg c21] at h
              cases h
          · rw [if_neg c19] at h
            cases h
        · rw [if_neg c16] at h
          cases h
      · rw [if_neg c14] at h
        cases h
def F_X11_again_35_L30 : Nat → ax_M → Int32 → Option ax_M
  | 0, _, _ => none
  | n + 1, m, v2 => if 8 ≤ v2 then (F_X11_again_35_L46 ax_FU m 0) else (if ax_ok (128 + v2) 203 = true then (if ax_ok v2 8 = true then (F_X11_again_35_L30 n (ax_ui m 24 0 v2.toNatClampNeg (m.1 35 0 (128 + v2).toNatClampNeg)) (v2 + 1)) else (none)) else (none))
set_option maxRecDepth 20000 in
set_option maxHeartbeats 4000000 in
theorem R_X11_again_35_L30 {e : Nat} : ∀ (n : Nat) (m : ax_M) (v2 : Int32) (q : ax_M), F_X11_again_35_L30 n m v2 = some q → ax_Ru (e + 1) L_X11_again 30 [some (.inr (.inr (22, 0))), some (.inr (.inr (35, 0))), some (.inl v2)] [] m (none, q) := by
  intro n
  induction n with
  | zero =>
    intro m v2 q h
    cases h
  | succ n ih =>
    intro m v2 q h
    rw [F_X11_again_35_L30] at h
    have s4 : ∀ n, ax_ex (e + 1) L_X11_again 30 [some (.inr (.inr (22, 0))), some (.inr (.inr (35, 0))), some (.inl v2)] [] m (n + 3) = if 8 ≤ v2 then ax_ex (e + 1) L_X11_again 44 [some (.inr (.inr (22, 0))), some (.inr (.inr (35, 0))), some (.inl v2)] [] m n else ax_ex (e + 1) L_X11_again 33 [some (.inr (.inr (22, 0))), some (.inr (.inr (35, 0))), some (.inl v2)] [] m n := fun n => rfl
    by_cases c3 : 8 ≤ v2
    · rw [if_pos c3] at h
      refine ax_gt c3 s4 ?_
      refine ax_go (j := 2) (k2 := 46) (lv2 := [some (.inr (.inr (22, 0))), some (.inr (.inr (35, 0))), some (.inl 0)]) (st2 := []) (m2 := m) (fun n => rfl) ?_
      refine ax_fg (lv2 := [some (.inr (.inr (22, 0))), some (.inr (.inr (35, 0))), some (.inl 0)]) ⟨rfl, rfl, rfl, trivial⟩ ?_
      refine R_X11_again_35_L46 _ m 0 _ h
    · rw [if_neg c3] at h
      refine ax_gf c3 s4 ?_
      refine ax_go (j := 7) (k2 := 40) (lv2 := [some (.inr (.inr (22, 0))), some (.inr (.inr (35, 0))), some (.inl v2)]) (st2 := [.inl (128 + v2), .inr (.inr (35, 0)), .inl v2, .inr (.inr (24, 0))]) (m2 := m) (fun n => rfl) ?_
      obtain ⟨y34, hy34⟩ : ∃ y : Int32, y = (128 + v2) := ⟨_, rfl⟩
      rw [← hy34] at h ⊢
      have s36 : ∀ n, ax_ex (e + 1) L_X11_again 40 [some (.inr (.inr (22, 0))), some (.inr (.inr (35, 0))), some (.inl v2)] [.inl y34, .inr (.inr (35, 0)), .inl v2, .inr (.inr (24, 0))] m (n + 1) = if ax_ok y34 203 = true then ax_ex (e + 1) L_X11_again 41 [some (.inr (.inr (22, 0))), some (.inr (.inr (35, 0))), some (.inl v2)] [.inl (m.1 35 0 y34.toNatClampNeg), .inl v2, .inr (.inr (24, 0))] m n else none := fun n => rfl
      by_cases c35 : ax_ok y34 203 = true
      · rw [if_pos c35] at h
        refine ax_gt c35 s36 ?_
        have s38 : ∀ n, ax_ex (e + 1) L_X11_again 41 [some (.inr (.inr (22, 0))), some (.inr (.inr (35, 0))), some (.inl v2)] [.inl (m.1 35 0 y34.toNatClampNeg), .inl v2, .inr (.inr (24, 0))] m (n + 1) = if ax_ok v2 8 = true then ax_ex (e + 1) L_X11_again 42 [some (.inr (.inr (22, 0))), some (.inr (.inr (35, 0))), some (.inl v2)] [] (ax_ui m 24 0 v2.toNatClampNeg (m.1 35 0 y34.toNatClampNeg)) n else none := fun n => rfl
        by_cases c37 : ax_ok v2 8 = true
        · rw [if_pos c37] at h
          refine ax_gt c37 s38 ?_
          refine ax_go (j := 2) (k2 := 30) (lv2 := [some (.inr (.inr (22, 0))), some (.inr (.inr (35, 0))), some (.inl (v2 + 1))]) (st2 := []) (m2 := (ax_ui m 24 0 v2.toNatClampNeg (m.1 35 0 y34.toNatClampNeg))) (fun n => rfl) ?_
          exact ax_fg (lv2 := [some (.inr (.inr (22, 0))), some (.inr (.inr (35, 0))), some (.inl (v2 + 1))]) ⟨rfl, rfl, rfl, trivial⟩ (ih (ax_ui m 24 0 v2.toNatClampNeg (m.1 35 0 y34.toNatClampNeg)) (v2 + 1) _ h)
        · rw [if_neg c37] at h
          cases h
      · rw [if_neg c35] at h
        cases h
def F_X11_again_35_L2 : Nat → ax_M → Int32 → Option ax_M
  | 0, _, _ => none
  | n + 1, m, v2 => if 64 ≤ v2 then (F_X11_again_35_L30 ax_FU m 0) else (if ax_ok v2 203 = true then (if (m.1 35 0 v2.toNatClampNeg) = 1 then (if ax_ok v2 64 = true then (if ax_ok (64 + v2) 203 = true then (if ax_ok v2 64 = true then (F_X11_again_35_L2 n (ax_ui (ax_ui m 23 0 v2.toNatClampNeg 1) 25 0 v2.toNatClampNeg ((ax_ui m 23 0 v2.toNatClampNeg 1).1 35 0 (64 + v2).toNatClampNeg)) (v2 + 1)) else (none)) else (none)) else none) else (if ax_ok v2 64 = true then (if ax_ok (64 + v2) 203 = true then (if ax_ok v2 64 = true then (F_X11_again_35_L2 n (ax_ui (ax_ui m 23 0 v2.toNatClampNeg 0) 25 0 v2.toNatClampNeg ((ax_ui m 23 0 v2.toNatClampNeg 0).1 35 0 (64 + v2).toNatClampNeg)) (v2 + 1)) else (none)) else (none)) else none)) else (none))
set_option maxRecDepth 20000 in
set_option maxHeartbeats 4000000 in
theorem R_X11_again_35_L2 {e : Nat} : ∀ (n : Nat) (m : ax_M) (v2 : Int32) (q : ax_M), F_X11_again_35_L2 n m v2 = some q → ax_Ru (e + 1) L_X11_again 2 [some (.inr (.inr (22, 0))), some (.inr (.inr (35, 0))), some (.inl v2)] [] m (none, q) := by
  intro n
  induction n with
  | zero =>
    intro m v2 q h
    cases h
  | succ n ih =>
    intro m v2 q h
    rw [F_X11_again_35_L2] at h
    have s2 : ∀ n, ax_ex (e + 1) L_X11_again 2 [some (.inr (.inr (22, 0))), some (.inr (.inr (35, 0))), some (.inl v2)] [] m (n + 3) = if 64 ≤ v2 then ax_ex (e + 1) L_X11_again 28 [some (.inr (.inr (22, 0))), some (.inr (.inr (35, 0))), some (.inl v2)] [] m n else ax_ex (e + 1) L_X11_again 5 [some (.inr (.inr (22, 0))), some (.inr (.inr (35, 0))), some (.inl v2)] [] m n := fun n => rfl
    by_cases c1 : 64 ≤ v2
    · rw [if_pos c1] at h
      refine ax_gt c1 s2 ?_
      refine ax_go (j := 2) (k2 := 30) (lv2 := [some (.inr (.inr (22, 0))), some (.inr (.inr (35, 0))), some (.inl 0)]) (st2 := []) (m2 := m) (fun n => rfl) ?_
      refine ax_fg (lv2 := [some (.inr (.inr (22, 0))), some (.inr (.inr (35, 0))), some (.inl 0)]) ⟨rfl, rfl, rfl, trivial⟩ ?_
      refine R_X11_again_35_L30 _ m 0 _ h
    · rw [if_neg c1] at h
      refine ax_gf c1 s2 ?_
      have s41 : ∀ n, ax_ex (e + 1) L_X11_again 5 [some (.inr (.inr (22, 0))), some (.inr (.inr (35, 0))), some (.inl v2)] [] m (n + 6) = if ax_ok v2 203 = true then ax_ex (e + 1) L_X11_again 11 [some (.inr (.inr (22, 0))), some (.inr (.inr (35, 0))), some (.inl v2)] [.inl (m.1 35 0 v2.toNatClampNeg), .inl v2, .inr (.inr (23, 0))] m n else none := fun n => rfl
      by_cases c40 : ax_ok v2 203 = true
      · rw [if_pos c40] at h
        refine ax_gt c40 s41 ?_
        have s43 : ∀ n, ax_ex (e + 1) L_X11_again 11 [some (.inr (.inr (22, 0))), some (.inr (.inr (35, 0))), some (.inl v2)] [.inl (m.1 35 0 v2.toNatClampNeg), .inl v2, .inr (.inr (23, 0))] m (n + 2) = if (m.1 35 0 v2.toNatClampNeg) = 1 then ax_ex (e + 1) L_X11_again 13 [some (.inr (.inr (22, 0))), some (.inr (.inr (35, 0))), some (.inl v2)] [.inl v2, .inr (.inr (23, 0))] m n else ax_ex (e + 1) L_X11_again 15 [some (.inr (.inr (22, 0))), some (.inr (.inr (35, 0))), some (.inl v2)] [.inl v2, .inr (.inr (23, 0))] m n := fun n => rfl
        by_cases c42 : (m.1 35 0 v2.toNatClampNeg) = 1
        · rw [if_pos c42] at h
          refine ax_gt c42 s43 ?_
          have s44 : ∀ n, ax_ex (e + 1) L_X11_again 13 [some (.inr (.inr (22, 0))), some (.inr (.inr (35, 0))), some (.inl v2)] [.inl v2, .inr (.inr (23, 0))] m (n + 3) = (if ax_ok v2 64 = true then (if (1 : Int32) = 0 ∨ (1 : Int32) = 1 then ax_ex (e + 1) L_X11_again 17 [some (.inr (.inr (22, 0))), some (.inr (.inr (35, 0))), some (.inl v2)] [] (ax_ui m 23 0 v2.toNatClampNeg 1) n else none) else none) := fun n => rfl
          by_cases c50 : ax_ok v2 64 = true
          · rw [if_pos c50] at h
            refine ax_go (j := 3) (k2 := 17) (lv2 := [some (.inr (.inr (22, 0))), some (.inr (.inr (35, 0))), some (.inl v2)]) (st2 := []) (m2 := (ax_ui m 23 0 v2.toNatClampNeg 1)) (fun n => (s44 n).trans ((if_pos c50).trans (if_pos (by decide)))) ?_
            refine ax_go (j := 7) (k2 := 24) (lv2 := [some (.inr (.inr (22, 0))), some (.inr (.inr (35, 0))), some (.inl v2)]) (st2 := [.inl (64 + v2), .inr (.inr (35, 0)), .inl v2, .inr (.inr (25, 0))]) (m2 := (ax_ui m 23 0 v2.toNatClampNeg 1)) (fun n => rfl) ?_
            obtain ⟨y45, hy45⟩ : ∃ y : Int32, y = (64 + v2) := ⟨_, rfl⟩
            rw [← hy45] at h ⊢
            have s47 : ∀ n, ax_ex (e + 1) L_X11_again 24 [some (.inr (.inr (22, 0))), some (.inr (.inr (35, 0))), some (.inl v2)] [.inl y45, .inr (.inr (35, 0)), .inl v2, .inr (.inr (25, 0))] (ax_ui m 23 0 v2.toNatClampNeg 1) (n + 1) = if ax_ok y45 203 = true then ax_ex (e + 1) L_X11_again 25 [some (.inr (.inr (22, 0))), some (.inr (.inr (35, 0))), some (.inl v2)] [.inl ((ax_ui m 23 0 v2.toNatClampNeg 1).1 35 0 y45.toNatClampNeg), .inl v2, .inr (.inr (25, 0))] (ax_ui m 23 0 v2.toNatClampNeg 1) n else none := fun n => rfl
            by_cases c46 : ax_ok y45 203 = true
            · rw [if_pos c46] at h
              refine ax_gt c46 s47 ?_
              have s49 : ∀ n, ax_ex (e + 1) L_X11_again 25 [some (.inr (.inr (22, 0))), some (.inr (.inr (35, 0))), some (.inl v2)] [.inl ((ax_ui m 23 0 v2.toNatClampNeg 1).1 35 0 y45.toNatClampNeg), .inl v2, .inr (.inr (25, 0))] (ax_ui m 23 0 v2.toNatClampNeg 1) (n + 1) = if ax_ok v2 64 = true then ax_ex (e + 1) L_X11_again 26 [some (.inr (.inr (22, 0))), some (.inr (.inr (35, 0))), some (.inl v2)] [] (ax_ui (ax_ui m 23 0 v2.toNatClampNeg 1) 25 0 v2.toNatClampNeg ((ax_ui m 23 0 v2.toNatClampNeg 1).1 35 0 y45.toNatClampNeg)) n else none := fun n => rfl
              by_cases c48 : ax_ok v2 64 = true
              · rw [if_pos c48] at h
                refine ax_gt c48 s49 ?_
                refine ax_go (j := 2) (k2 := 2) (lv2 := [some (.inr (.inr (22, 0))), some (.inr (.inr (35, 0))), some (.inl (v2 + 1))]) (st2 := []) (m2 := (ax_ui (ax_ui m 23 0 v2.toNatClampNeg 1) 25 0 v2.toNatClampNeg ((ax_ui m 23 0 v2.toNatClampNeg 1).1 35 0 y45.toNatClampNeg))) (fun n => rfl) ?_
                exact ax_fg (lv2 := [some (.inr (.inr (22, 0))), some (.inr (.inr (35, 0))), some (.inl (v2 + 1))]) ⟨rfl, rfl, rfl, trivial⟩ (ih (ax_ui (ax_ui m 23 0 v2.toNatClampNeg 1) 25 0 v2.toNatClampNeg ((ax_ui m 23 0 v2.toNatClampNeg 1).1 35 0 y45.toNatClampNeg)) (v2 + 1) _ h)
              · rw [if_neg c48] at h
                cases h
            · rw [if_neg c46] at h
              cases h
          · rw [if_neg c50] at h
            cases h
        · rw [if_neg c42] at h
          refine ax_gf c42 s43 ?_
          have s51 : ∀ n, ax_ex (e + 1) L_X11_again 15 [some (.inr (.inr (22, 0))), some (.inr (.inr (35, 0))), some (.inl v2)] [.inl v2, .inr (.inr (23, 0))] m (n + 2) = (if ax_ok v2 64 = true then (if (0 : Int32) = 0 ∨ (0 : Int32) = 1 then ax_ex (e + 1) L_X11_again 17 [some (.inr (.inr (22, 0))), some (.inr (.inr (35, 0))), some (.inl v2)] [] (ax_ui m 23 0 v2.toNatClampNeg 0) n else none) else none) := fun n => rfl
          by_cases c57 : ax_ok v2 64 = true
          · rw [if_pos c57] at h
            refine ax_go (j := 2) (k2 := 17) (lv2 := [some (.inr (.inr (22, 0))), some (.inr (.inr (35, 0))), some (.inl v2)]) (st2 := []) (m2 := (ax_ui m 23 0 v2.toNatClampNeg 0)) (fun n => (s51 n).trans ((if_pos c57).trans (if_pos (by decide)))) ?_
            refine ax_go (j := 7) (k2 := 24) (lv2 := [some (.inr (.inr (22, 0))), some (.inr (.inr (35, 0))), some (.inl v2)]) (st2 := [.inl (64 + v2), .inr (.inr (35, 0)), .inl v2, .inr (.inr (25, 0))]) (m2 := (ax_ui m 23 0 v2.toNatClampNeg 0)) (fun n => rfl) ?_
            obtain ⟨y52, hy52⟩ : ∃ y : Int32, y = (64 + v2) := ⟨_, rfl⟩
            rw [← hy52] at h ⊢
            have s54 : ∀ n, ax_ex (e + 1) L_X11_again 24 [some (.inr (.inr (22, 0))), some (.inr (.inr (35, 0))), some (.inl v2)] [.inl y52, .inr (.inr (35, 0)), .inl v2, .inr (.inr (25, 0))] (ax_ui m 23 0 v2.toNatClampNeg 0) (n + 1) = if ax_ok y52 203 = true then ax_ex (e + 1) L_X11_again 25 [some (.inr (.inr (22, 0))), some (.inr (.inr (35, 0))), some (.inl v2)] [.inl ((ax_ui m 23 0 v2.toNatClampNeg 0).1 35 0 y52.toNatClampNeg), .inl v2, .inr (.inr (25, 0))] (ax_ui m 23 0 v2.toNatClampNeg 0) n else none := fun n => rfl
            by_cases c53 : ax_ok y52 203 = true
            · rw [if_pos c53] at h
              refine ax_gt c53 s54 ?_
              have s56 : ∀ n, ax_ex (e + 1) L_X11_again 25 [some (.inr (.inr (22, 0))), some (.inr (.inr (35, 0))), some (.inl v2)] [.inl ((ax_ui m 23 0 v2.toNatClampNeg 0).1 35 0 y52.toNatClampNeg), .inl v2, .inr (.inr (25, 0))] (ax_ui m 23 0 v2.toNatClampNeg 0) (n + 1) = if ax_ok v2 64 = true then ax_ex (e + 1) L_X11_again 26 [some (.inr (.inr (22, 0))), some (.inr (.inr (35, 0))), some (.inl v2)] [] (ax_ui (ax_ui m 23 0 v2.toNatClampNeg 0) 25 0 v2.toNatClampNeg ((ax_ui m 23 0 v2.toNatClampNeg 0).1 35 0 y52.toNatClampNeg)) n else none := fun n => rfl
              by_cases c55 : ax_ok v2 64 = true
              · rw [if_pos c55] at h
                refine ax_gt c55 s56 ?_
                refine ax_go (j := 2) (k2 := 2) (lv2 := [some (.inr (.inr (22, 0))), some (.inr (.inr (35, 0))), some (.inl (v2 + 1))]) (st2 := []) (m2 := (ax_ui (ax_ui m 23 0 v2.toNatClampNeg 0) 25 0 v2.toNatClampNeg ((ax_ui m 23 0 v2.toNatClampNeg 0).1 35 0 y52.toNatClampNeg))) (fun n => rfl) ?_
                exact ax_fg (lv2 := [some (.inr (.inr (22, 0))), some (.inr (.inr (35, 0))), some (.inl (v2 + 1))]) ⟨rfl, rfl, rfl, trivial⟩ (ih (ax_ui (ax_ui m 23 0 v2.toNatClampNeg 0) 25 0 v2.toNatClampNeg ((ax_ui m 23 0 v2.toNatClampNeg 0).1 35 0 y52.toNatClampNeg)) (v2 + 1) _ h)
              · rw [if_neg c55] at h
                cases h
            · rw [if_neg c53] at h
              cases h
          · rw [if_neg c57] at h
            cases h
      · rw [if_neg c40] at h
        cases h
def F_X11_again_35 (m : ax_M) : Option ax_M := F_X11_again_35_L2 ax_FU m 0
set_option maxRecDepth 20000 in
set_option maxHeartbeats 4000000 in
theorem R_X11_again_35 {d : Nat} (hd : 1 ≤ d) {m : ax_M} {q : ax_M} (h : F_X11_again_35 m = some q) : ax_Ru d L_X11_again 0 (ax_entry [.inr (.inr (22, 0)), .inr (.inr (35, 0))] 3) [] m (none, q) := by
  obtain ⟨e, rfl⟩ : ∃ e, d = e + 1 := ⟨d - 1, by omega⟩
  unfold F_X11_again_35 at h
  refine ax_go (j := 2) (k2 := 2) (lv2 := [some (.inr (.inr (22, 0))), some (.inr (.inr (35, 0))), some (.inl 0)]) (st2 := []) (m2 := m) (fun n => rfl) ?_
  refine ax_fg (lv2 := [some (.inr (.inr (22, 0))), some (.inr (.inr (35, 0))), some (.inl 0)]) ⟨rfl, rfl, rfl, trivial⟩ ?_
  refine R_X11_again_35_L2 _ m 0 _ h
def F_X11_back (m : ax_M) : Option (Int32 × ax_M) := if (m.1 22 0 20) = 0 then (ax_b2 (F_X11_no m (-5)) (fun r4 m5 => some (r4, m5))) else (ax_b (F_X11_again_35 m) (fun m9 => ax_b (F_X11_unshelve m9) (fun m12 => some (1, m12))))
set_option maxRecDepth 20000 in
set_option maxHeartbeats 4000000 in
theorem R_X11_back {d : Nat} (hd : 2 ≤ d) {m : ax_M} {q : (Int32 × ax_M)} (h : F_X11_back m = some q) : ax_Ru d L_X11_back 0 (ax_entry [.inr (.inr (22, 0))] 1) [] m (some (.inl q.1), q.2) := by
  obtain ⟨e, rfl⟩ : ∃ e, d = e + 2 := ⟨d - 2, by omega⟩
  unfold F_X11_back at h
  have s2 : ∀ n, ax_ex (e + 2) L_X11_back 0 (ax_entry [.inr (.inr (22, 0))] 1) [] m (n + 3) = if (m.1 22 0 20) = 0 then ax_ex (e + 2) L_X11_back 3 [some (.inr (.inr (22, 0)))] [] m n else ax_ex (e + 2) L_X11_back 7 [some (.inr (.inr (22, 0)))] [] m n := fun n => rfl
  by_cases c1 : (m.1 22 0 20) = 0
  · rw [if_pos c1] at h
    refine ax_gt c1 s2 ?_
    obtain ⟨r4, m5, q3, h⟩ := ax_b2_of h
    have s6 : ∀ n, ax_ex (e + 2) L_X11_back 3 [some (.inr (.inr (22, 0)))] [] m (n + 3) = ax_aft (fun s m2 => ax_ex (e + 2) L_X11_back 6 [some (.inr (.inr (22, 0)))] s m2 n) [] (ax_ex (e + 1) L_X11_no 0 (ax_entry [.inr (.inr (22, 0)), .inl (-5)] 2) [] m n) := fun n => rfl
    refine ax_gci (j := 3) (k2 := 6) (lv2 := [some (.inr (.inr (22, 0)))]) (rest := []) ((R_X11_no (by omega) q3)) s6 ?_
    obtain rfl := Option.some.inj h
    exact ax_rs 1 (fun n => rfl)
  · rw [if_neg c1] at h
    refine ax_gf c1 s2 ?_
    obtain ⟨m9, q7, h⟩ := ax_b_of h
    have s14 : ∀ n, ax_ex (e + 2) L_X11_back 7 [some (.inr (.inr (22, 0)))] [] m (n + 4) = ax_aft (fun s m2 => ax_ex (e + 2) L_X11_back 11 [some (.inr (.inr (22, 0)))] s m2 n) [] (ax_ex (e + 1) L_X11_again 0 (ax_entry [.inr (.inr (22, 0)), .inr (.inr (35, 0))] 3) [] m n) := fun n => rfl
    refine ax_gcv (j := 4) (k2 := 11) (lv2 := [some (.inr (.inr (22, 0)))]) (rest := []) ((R_X11_again_35 (by omega) q7)) s14 ?_
    obtain ⟨m12, q10, h⟩ := ax_b_of h
    have s13 : ∀ n, ax_ex (e + 2) L_X11_back 11 [some (.inr (.inr (22, 0)))] [] m9 (n + 2) = ax_aft (fun s m2 => ax_ex (e + 2) L_X11_back 13 [some (.inr (.inr (22, 0)))] s m2 n) [] (ax_ex (e + 1) L_X11_unshelve 0 (ax_entry [.inr (.inr (22, 0))] 2) [] m9 n) := fun n => rfl
    refine ax_gcv (j := 2) (k2 := 13) (lv2 := [some (.inr (.inr (22, 0)))]) (rest := []) ((R_X11_unshelve (by omega) q10)) s13 ?_
    obtain rfl := Option.some.inj h
    exact ax_rs 2 (fun n => rfl)
