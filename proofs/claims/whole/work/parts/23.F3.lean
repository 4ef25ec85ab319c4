def F_X10_days_L39 : Nat → ax_M → Int32 → Int32 → Int32 → Option (Int32 × ax_M)
  | 0, _, _, _, _ => none
  | n + 1, m, v1, v2, v3 => if v1 ≤ v3 then (some (v2, m)) else (ax_b2 (F_X3_draw m 0 (m.1 1 0 1)) (fun r20 m21 => ax_b2 (F_X3_draw m21 0 4) (fun r23 m24 => ax_b2 (F_X3_go m24 0 r20 r23) (fun r26 m27 => ax_b (F_X3_shownBy m27 0 r20) (fun r29 => if ax_ok r20 8 = true then (ax_b (F_X10_countShowing (ax_ui m27 21 0 r20.toNatClampNeg r29)) (fun r33 => F_X10_days_L39 n (ax_ui m27 21 0 r20.toNatClampNeg r29) v1 (v2 + r33) (v3 + 1))) else (none))))))
set_option maxRecDepth 20000 in
set_option maxHeartbeats 4000000 in
theorem R_X10_days_L39 {e : Nat} {v1 : Int32} : ∀ (n : Nat) (m : ax_M) (v2 : Int32) (v3 : Int32) (q : (Int32 × ax_M)), F_X10_days_L39 n m v1 v2 v3 = some q → ax_Ru (e + 9) L_X10_days 39 [some (.inr (.inr (0, 0))), some (.inl v1), some (.inl v2), some (.inl v3), none] [] m (some (.inl q.1), q.2) := by
  intro n
  induction n with
  | zero =>
    intro m v2 v3 q h
    cases h
  | succ n ih =>
    intro m v2 v3 q h
    rw [F_X10_days_L39] at h
    have s18 : ∀ n, ax_ex (e + 9) L_X10_days 39 [some (.inr (.inr (0, 0))), some (.inl v1), some (.inl v2), some (.inl v3), none] [] m (n + 3) = if v1 ≤ v3 then ax_ex (e + 9) L_X10_days 73 [some (.inr (.inr (0, 0))), some (.inl v1), some (.inl v2), some (.inl v3), none] [] m n else ax_ex (e + 9) L_X10_days 42 [some (.inr (.inr (0, 0))), some (.inl v1), some (.inl v2), some (.inl v3), none] [] m n := fun n => rfl
    by_cases c17 : v1 ≤ v3
    · rw [if_pos c17] at h
      refine ax_gt c17 s18 ?_
      obtain rfl := Option.some.inj h
      exact ax_rs 2 (fun n => rfl)
    · rw [if_neg c17] at h
      refine ax_gf c17 s18 ?_
      obtain ⟨r20, m21, q19, h⟩ := ax_b2_of h
      have s38 : ∀ n, ax_ex (e + 9) L_X10_days 42 [some (.inr (.inr (0, 0))), some (.inl v1), some (.inl v2), some (.inl v3), none] [] m (n + 6) = ax_aft (fun s m2 => ax_ex (e + 9) L_X10_days 48 [some (.inr (.inr (0, 0))), some (.inl v1), some (.inl v2), some (.inl v3), none] s m2 n) [] (ax_ex (e + 8) L_X3_draw 0 (ax_entry [.inr (.inr (1, 0)), .inl (m.1 1 0 1)] 2) [] m n) := fun n => rfl
      refine ax_gci (j := 6) (k2 := 48) (lv2 := [some (.inr (.inr (0, 0))), some (.inl v1), some (.inl v2), some (.inl v3), none]) (rest := []) ((R_X3_draw (by omega) q19)) s38 ?_
      obtain ⟨r23, m24, q22, h⟩ := ax_b2_of h
      have s37 : ∀ n, ax_ex (e + 9) L_X10_days 48 [some (.inr (.inr (0, 0))), some (.inl v1), some (.inl v2), some (.inl v3), none] [.inl r20] m21 (n + 8) = ax_aft (fun s m2 => ax_ex (e + 9) L_X10_days 56 [some (.inr (.inr (0, 0))), some (.inl v1), some (.inl v2), some (.inl v3), some (.inl r20)] s m2 n) [.inl r20, .inr (.inr (1, 0))] (ax_ex (e + 8) L_X3_draw 0 (ax_entry [.inr (.inr (1, 0)), .inl 4] 2) [] m21 n) := fun n => rfl
      refine ax_gci (j := 8) (k2 := 56) (lv2 := [some (.inr (.inr (0, 0))), some (.inl v1), some (.inl v2), some (.inl v3), some (.inl r20)]) (rest := [.inl r20, .inr (.inr (1, 0))]) ((R_X3_draw (by omega) q22)) s37 ?_
      obtain ⟨r26, m27, q25, h⟩ := ax_b2_of h
      have s36 : ∀ n, ax_ex (e + 9) L_X10_days 56 [some (.inr (.inr (0, 0))), some (.inl v1), some (.inl v2), some (.inl v3), some (.inl r20)] [.inl r23, .inl r20, .inr (.inr (1, 0))] m24 (n + 1) = ax_aft (fun s m2 => ax_ex (e + 9) L_X10_days 57 [some (.inr (.inr (0, 0))), some (.inl v1), some (.inl v2), some (.inl v3), some (.inl r20)] s m2 n) [] (ax_ex (e + 8) L_X3_go 0 (ax_entry [.inr (.inr (1, 0)), .inl r20, .inl r23] 4) [] m24 n) := fun n => rfl
      refine ax_gci (j := 1) (k2 := 57) (lv2 := [some (.inr (.inr (0, 0))), some (.inl v1), some (.inl v2), some (.inl v3), some (.inl r20)]) (rest := []) ((R_X3_go (by omega) q25)) s36 ?_
      obtain ⟨r29, q28, h⟩ := ax_b_of h
      have s35 : ∀ n, ax_ex (e + 9) L_X10_days 57 [some (.inr (.inr (0, 0))), some (.inl v1), some (.inl v2), some (.inl v3), some (.inl r20)] [.inl r26] m27 (n + 8) = ax_aft (fun s m2 => ax_ex (e + 9) L_X10_days 65 [some (.inr (.inr (0, 0))), some (.inl v1), some (.inl v2), some (.inl v3), some (.inl r20)] s m2 n) [.inl r20, .inr (.inr (21, 0))] (ax_ex (e + 8) L_X3_shownBy 0 (ax_entry [.inr (.inr (1, 0)), .inl r20] 2) [] m27 n) := fun n => rfl
      refine ax_gci (j := 8) (k2 := 65) (lv2 := [some (.inr (.inr (0, 0))), some (.inl v1), some (.inl v2), some (.inl v3), some (.inl r20)]) (rest := [.inl r20, .inr (.inr (21, 0))]) ((R_X3_shownBy (by omega) q28)) s35 ?_
      have s31 : ∀ n, ax_ex (e + 9) L_X10_days 65 [some (.inr (.inr (0, 0))), some (.inl v1), some (.inl v2), some (.inl v3), some (.inl r20)] [.inl r29, .inl r20, .inr (.inr (21, 0))] m27 (n + 1) = if ax_ok r20 8 = true then ax_ex (e + 9) L_X10_days 66 [some (.inr (.inr (0, 0))), some (.inl v1), some (.inl v2), some (.inl v3), some (.inl r20)] [] (ax_ui m27 21 0 r20.toNatClampNeg r29) n else none := fun n => rfl
      by_cases c30 : ax_ok r20 8 = true
      · rw [if_pos c30] at h
        refine ax_gt c30 s31 ?_
        obtain ⟨r33, q32, h⟩ := ax_b_of h
        have s34 : ∀ n, ax_ex (e + 9) L_X10_days 66 [some (.inr (.inr (0, 0))), some (.inl v1), some (.inl v2), some (.inl v3), some (.inl r20)] [] (ax_ui m27 21 0 r20.toNatClampNeg r29) (n + 3) = ax_aft (fun s m2 => ax_ex (e + 9) L_X10_days 69 [some (.inr (.inr (0, 0))), some (.inl v1), some (.inl v2), some (.inl v3), some (.inl r20)] s m2 n) [.inl v2] (ax_ex (e + 8) L_X10_countShowing 0 (ax_entry [.inr (.inr (0, 0))] 3) [] (ax_ui m27 21 0 r20.toNatClampNeg r29) n) := fun n => rfl
        refine ax_gci (j := 3) (k2 := 69) (lv2 := [some (.inr (.inr (0, 0))), some (.inl v1), some (.inl v2), some (.inl v3), some (.inl r20)]) (rest := [.inl v2]) ((R_X10_countShowing (by omega) q32)) s34 ?_
        refine ax_go (j := 4) (k2 := 39) (lv2 := [some (.inr (.inr (0, 0))), some (.inl v1), some (.inl (v2 + r33)), some (.inl (v3 + 1)), some (.inl r20)]) (st2 := []) (m2 := (ax_ui m27 21 0 r20.toNatClampNeg r29)) (fun n => rfl) ?_
        exact ax_fg (lv2 := [some (.inr (.inr (0, 0))), some (.inl v1), some (.inl (v2 + r33)), some (.inl (v3 + 1)), none]) ⟨rfl, rfl, rfl, rfl, trivial⟩ (ih (ax_ui m27 21 0 r20.toNatClampNeg r29) (v2 + r33) (v3 + 1) _ h)
      · rw [if_neg c30] at h
        cases h
def F_X10_days_L20 : Nat → ax_M → Int32 → Int32 → Option (Int32 × ax_M)
  | 0, _, _, _ => none
  | n + 1, m, v1, v2 => if (m.1 1 0 1) ≤ v2 then (F_X10_days_L39 ax_FU m v1 0 0) else (ax_b (F_X3_shownBy m 0 v2) (fun r41 => if ax_ok v2 8 = true then (F_X10_days_L20 n (ax_ui m 21 0 v2.toNatClampNeg r41) v1 (v2 + 1)) else (none)))
set_option maxRecDepth 20000 in
set_option maxHeartbeats 4000000 in
theorem R_X10_days_L20 {e : Nat} {v1 : Int32} : ∀ (n : Nat) (m : ax_M) (v2 : Int32) (q : (Int32 × ax_M)), F_X10_days_L20 n m v1 v2 = some q → ax_Ru (e + 9) L_X10_days 20 [some (.inr (.inr (0, 0))), some (.inl v1), some (.inl v2), none, none] [] m (some (.inl q.1), q.2) := by
  intro n
  induction n with
  | zero =>
    intro m v2 q h
    cases h
  | succ n ih =>
    intro m v2 q h
    rw [F_X10_days_L20] at h
    have s16 : ∀ n, ax_ex (e + 9) L_X10_days 20 [some (.inr (.inr (0, 0))), some (.inl v1), some (.inl v2), none, none] [] m (n + 5) = if (m.1 1 0 1) ≤ v2 then ax_ex (e + 9) L_X10_days 35 [some (.inr (.inr (0, 0))), some (.inl v1), some (.inl v2), none, none] [] m n else ax_ex (e + 9) L_X10_days 25 [some (.inr (.inr (0, 0))), some (.inl v1), some (.inl v2), none, none] [] m n := fun n => rfl
    by_cases c15 : (m.1 1 0 1) ≤ v2
    · rw [if_pos c15] at h
      refine ax_gt c15 s16 ?_
      refine ax_go (j := 4) (k2 := 39) (lv2 := [some (.inr (.inr (0, 0))), some (.inl v1), some (.inl 0), some (.inl 0), none]) (st2 := []) (m2 := m) (fun n => rfl) ?_
      refine ax_fg (lv2 := [some (.inr (.inr (0, 0))), some (.inl v1), some (.inl 0), some (.inl 0), none]) ⟨rfl, rfl, rfl, rfl, trivial⟩ ?_
      refine R_X10_days_L39 _ m 0 0 _ h
    · rw [if_neg c15] at h
      refine ax_gf c15 s16 ?_
      obtain ⟨r41, q40, h⟩ := ax_b_of h
      have s44 : ∀ n, ax_ex (e + 9) L_X10_days 25 [some (.inr (.inr (0, 0))), some (.inl v1), some (.inl v2), none, none] [] m (n + 7) = ax_aft (fun s m2 => ax_ex (e + 9) L_X10_days 32 [some (.inr (.inr (0, 0))), some (.inl v1), some (.inl v2), none, none] s m2 n) [.inl v2, .inr (.inr (21, 0))] (ax_ex (e + 8) L_X3_shownBy 0 (ax_entry [.inr (.inr (1, 0)), .inl v2] 2) [] m n) := fun n => rfl
      refine ax_gci (j := 7) (k2 := 32) (lv2 := [some (.inr (.inr (0, 0))), some (.inl v1), some (.inl v2), none, none]) (rest := [.inl v2, .inr (.inr (21, 0))]) ((R_X3_shownBy (by omega) q40)) s44 ?_
      have s43 : ∀ n, ax_ex (e + 9) L_X10_days 32 [some (.inr (.inr (0, 0))), some (.inl v1), some (.inl v2), none, none] [.inl r41, .inl v2, .inr (.inr (21, 0))] m (n + 1) = if ax_ok v2 8 = true then ax_ex (e + 9) L_X10_days 33 [some (.inr (.inr (0, 0))), some (.inl v1), some (.inl v2), none, none] [] (ax_ui m 21 0 v2.toNatClampNeg r41) n else none := fun n => rfl
      by_cases c42 : ax_ok v2 8 = true
      · rw [if_pos c42] at h
        refine ax_gt c42 s43 ?_
        refine ax_go (j := 2) (k2 := 20) (lv2 := [some (.inr (.inr (0, 0))), some (.inl v1), some (.inl (v2 + 1)), none, none]) (st2 := []) (m2 := (ax_ui m 21 0 v2.toNatClampNeg r41)) (fun n => rfl) ?_
        exact ax_fg (lv2 := [some (.inr (.inr (0, 0))), some (.inl v1), some (.inl (v2 + 1)), none, none]) ⟨rfl, rfl, rfl, trivial⟩ (ih (ax_ui m 21 0 v2.toNatClampNeg r41) (v2 + 1) _ h)
      · rw [if_neg c42] at h
        cases h
def F_X10_days (m : ax_M) (v1 : Int32) : Option (Int32 × ax_M) := if v1 < 1 then (ax_b2 (F_X10_refuse m (-2)) (fun r4 m5 => some (r4, m5))) else (if v1 ≤ 99 then (if (m.1 1 0 1) = 0 then (ax_b2 (F_X10_refuse m (-5)) (fun r12 m13 => some (r12, m13))) else (F_X10_days_L20 ax_FU m v1 0)) else (ax_b2 (F_X10_refuse m (-2)) (fun r47 m48 => some (r47, m48))))
set_option maxRecDepth 20000 in
set_option maxHeartbeats 4000000 in
theorem R_X10_days {d : Nat} (hd : 9 ≤ d) {m : ax_M} {v1 : Int32} {q : (Int32 × ax_M)} (h : F_X10_days m v1 = some q) : ax_Ru d L_X10_days 0 (ax_entry [.inr (.inr (0, 0)), .inl v1] 5) [] m (some (.inl q.1), q.2) := by
  obtain ⟨e, rfl⟩ : ∃ e, d = e + 9 := ⟨d - 9, by omega⟩
  unfold F_X10_days at h
  have s2 : ∀ n, ax_ex (e + 9) L_X10_days 0 (ax_entry [.inr (.inr (0, 0)), .inl v1] 5) [] m (n + 3) = if v1 < 1 then ax_ex (e + 9) L_X10_days 6 [some (.inr (.inr (0, 0))), some (.inl v1), none, none, none] [] m n else ax_ex (e + 9) L_X10_days 3 [some (.inr (.inr (0, 0))), some (.inl v1), none, none, none] [] m n := fun n => rfl
  by_cases c1 : v1 < 1
  · rw [if_pos c1] at h
    refine ax_gt c1 s2 ?_
    obtain ⟨r4, m5, q3, h⟩ := ax_b2_of h
    have s6 : ∀ n, ax_ex (e + 9) L_X10_days 6 [some (.inr (.inr (0, 0))), some (.inl v1), none, none, none] [] m (n + 3) = ax_aft (fun s m2 => ax_ex (e + 9) L_X10_days 9 [some (.inr (.inr (0, 0))), some (.inl v1), none, none, none] s m2 n) [] (ax_ex (e + 8) L_X10_refuse 0 (ax_entry [.inr (.inr (0, 0)), .inl (-2)] 3) [] m n) := fun n => rfl
    refine ax_gci (j := 3) (k2 := 9) (lv2 := [some (.inr (.inr (0, 0))), some (.inl v1), none, none, none]) (rest := []) ((R_X10_refuse (by omega) q3)) s6 ?_
    obtain rfl := Option.some.inj h
    exact ax_rs 1 (fun n => rfl)
  · rw [if_neg c1] at h
    refine ax_gf c1 s2 ?_
    have s8 : ∀ n, ax_ex (e + 9) L_X10_days 3 [some (.inr (.inr (0, 0))), some (.inl v1), none, none, none] [] m (n + 3) = if v1 ≤ 99 then ax_ex (e + 9) L_X10_days 10 [some (.inr (.inr (0, 0))), some (.inl v1), none, none, none] [] m n else ax_ex (e + 9) L_X10_days 6 [some (.inr (.inr (0, 0))), some (.inl v1), none, none, none] [] m n := fun n => rfl
    by_cases c7 : v1 ≤ 99
    · rw [if_pos c7] at h
      refine ax_gt c7 s8 ?_
      have s10 : ∀ n, ax_ex (e + 9) L_X10_days 10 [some (.inr (.inr (0, 0))), some (.inl v1), none, none, none] [] m (n + 4) = if (m.1 1 0 1) = 0 then ax_ex (e + 9) L_X10_days 14 [some (.inr (.inr (0, 0))), some (.inl v1), none, none, none] [] m n else ax_ex (e + 9) L_X10_days 18 [some (.inr (.inr (0, 0))), some (.inl v1), none, none, none] [] m n := fun n => rfl
      by_cases c9 : (m.1 1 0 1) = 0
      · rw [if_pos c9] at h
        refine ax_gt c9 s10 ?_
        obtain ⟨r12, m13, q11, h⟩ := ax_b2_of h
        have s14 : ∀ n, ax_ex (e + 9) L_X10_days 14 [some (.inr (.inr (0, 0))), some (.inl v1), none, none, none] [] m (n + 3) = ax_aft (fun s m2 => ax_ex (e + 9) L_X10_days 17 [some (.inr (.inr (0, 0))), some (.inl v1), none, none, none] s m2 n) [] (ax_ex (e + 8) L_X10_refuse 0 (ax_entry [.inr (.inr (0, 0)), .inl (-5)] 3) [] m n) := fun n => rfl
        refine ax_gci (j := 3) (k2 := 17) (lv2 := [some (.inr (.inr (0, 0))), some (.inl v1), none, none, none]) (rest := []) ((R_X10_refuse (by omega) q11)) s14 ?_
        obtain rfl := Option.some.inj h
        exact ax_rs 1 (fun n => rfl)
      · rw [if_neg c9] at h
        refine ax_gf c9 s10 ?_
        refine ax_go (j := 2) (k2 := 20) (lv2 := [some (.inr (.inr (0, 0))), some (.inl v1), some (.inl 0), none, none]) (st2 := []) (m2 := m) (fun n => rfl) ?_
        refine ax_fg (lv2 := [some (.inr (.inr (0, 0))), some (.inl v1), some (.inl 0), none, none]) ⟨rfl, rfl, rfl, trivial⟩ ?_
        refine R_X10_days_L20 _ m 0 _ h
    · rw [if_neg c7] at h
      refine ax_gf c7 s8 ?_
      obtain ⟨r47, m48, q46, h⟩ := ax_b2_of h
      have s49 : ∀ n, ax_ex (e + 9) L_X10_days 6 [some (.inr (.inr (0, 0))), some (.inl v1), none, none, none] [] m (n + 3) = ax_aft (fun s m2 => ax_ex (e + 9) L_X10_days 9 [some (.inr (.inr (0, 0))), some (.inl v1), none, none, none] s m2 n) [] (ax_ex (e + 8) L_X10_refuse 0 (ax_entry [.inr (.inr (0, 0)), .inl (-2)] 3) [] m n) := fun n => rfl
      refine ax_gci (j := 3) (k2 := 9) (lv2 := [some (.inr (.inr (0, 0))), some (.inl v1), none, none, none]) (rest := []) ((R_X10_refuse (by omega) q46)) s49 ?_
      obtain rfl := Option.some.inj h
      exact ax_rs 1 (fun n => rfl)
def F_X10_dropLostSeeds_L2 : Nat → ax_M → Int32 → Option ax_M
  | 0, _, _ => none
  | n + 1, m, v1 => if 8 ≤ v1 then (some m) else (if ax_ok v1 8 = true then (ax_b (F_X7_holdsSeed m (8 * 0 + v1.toNatClampNeg)) (fun r6 => if r6 = 0 then (F_X10_dropLostSeeds_L2 n m (v1 + 1)) else (if ax_ok v1 8 = true then (ax_b (F_X7_seedNumber m (8 * 0 + v1.toNatClampNeg)) (fun r12 => ax_b (F_X3_isSeed m 0 r12) (fun r14 => if r14 = 0 then (if ax_ok v1 8 = true then (ax_b (F_X7_clear m (8 * 0 + v1.toNatClampNeg)) (fun m21 => F_X10_dropLostSeeds_L2 n m21 (v1 + 1))) else (none)) else (F_X10_dropLostSeeds_L2 n m (v1 + 1))))) else (none)))) else (none))
set_option maxRecDepth 20000 in
set_option maxHeartbeats 4000000 in
theorem R_X10_dropLostSeeds_L2 {e : Nat} : ∀ (n : Nat) (m : ax_M) (v1 : Int32) (q : ax_M), F_X10_dropLostSeeds_L2 n m v1 = some q → ax_Ru (e + 3) L_X10_dropLostSeeds 2 [some (.inr (.inr (0, 0))), some (.inl v1)] [] m (none, q) := by
  intro n
  induction n with
  | zero =>
    intro m v1 q h
    cases h
  | succ n ih =>
    intro m v1 q h
    rw [F_X10_dropLostSeeds_L2] at h
    have s2 : ∀ n, ax_ex (e + 3) L_X10_dropLostSeeds 2 [some (.inr (.inr (0, 0))), some (.inl v1)] [] m (n + 3) = if 8 ≤ v1 then ax_ex (e + 3) L_X10_dropLostSeeds 27 [some (.inr (.inr (0, 0))), some (.inl v1)] [] m n else ax_ex (e + 3) L_X10_dropLostSeeds 5 [some (.inr (.inr (0, 0))), some (.inl v1)] [] m n := fun n => rfl
    by_cases c1 : 8 ≤ v1
    · rw [if_pos c1] at h
      refine ax_gt c1 s2 ?_
      obtain rfl := Option.some.inj h
      exact ax_rs 1 (fun n => rfl)
    · rw [if_neg c1] at h
      refine ax_gf c1 s2 ?_
      have s4 : ∀ n, ax_ex (e + 3) L_X10_dropLostSeeds 5 [some (.inr (.inr (0, 0))), some (.inl v1)] [] m (n + 4) = if ax_ok v1 8 = true then ax_ex (e + 3) L_X10_dropLostSeeds 9 [some (.inr (.inr (0, 0))), some (.inl v1)] [.inr (.inr (8, (8 * 0 + v1.toNatClampNeg)))] m n else none := fun n => rfl
      by_cases c3 : ax_ok v1 8 = true
      · rw [if_pos c3] at h
        refine ax_gt c3 s4 ?_
        obtain ⟨r6, q5, h⟩ := ax_b_of h
        have s25 : ∀ n, ax_ex (e + 3) L_X10_dropLostSeeds 9 [some (.inr (.inr (0, 0))), some (.inl v1)] [.inr (.inr (8, (8 * 0 + v1.toNatClampNeg)))] m (n + 1) = ax_aft (fun s m2 => ax_ex (e + 3) L_X10_dropLostSeeds 10 [some (.inr (.inr (0, 0))), some (.inl v1)] s m2 n) [] (ax_ex (e + 2) L_X7_holdsSeed 0 (ax_entry [.inr (.inr (8, (8 * 0 + v1.toNatClampNeg)))] 1) [] m n) := fun n => rfl
        refine ax_gci (j := 1) (k2 := 10) (lv2 := [some (.inr (.inr (0, 0))), some (.inl v1)]) (rest := []) ((R_X7_holdsSeed (by omega) q5)) s25 ?_
        have s8 : ∀ n, ax_ex (e + 3) L_X10_dropLostSeeds 10 [some (.inr (.inr (0, 0))), some (.inl v1)] [.inl r6] m (n + 1) = if r6 = 0 then ax_ex (e + 3) L_X10_dropLostSeeds 25 [some (.inr (.inr (0, 0))), some (.inl v1)] [] m n else ax_ex (e + 3) L_X10_dropLostSeeds 11 [some (.inr (.inr (0, 0))), some (.inl v1)] [] m n := fun n => rfl
        by_cases c7 : r6 = 0
        · rw [if_pos c7] at h
          refine ax_gt c7 s8 ?_
          refine ax_go (j := 2) (k2 := 2) (lv2 := [some (.inr (.inr (0, 0))), some (.inl (v1 + 1))]) (st2 := []) (m2 := m) (fun n => rfl) ?_
          exact ax_fg (lv2 := [some (.inr (.inr (0, 0))), some (.inl (v1 + 1))]) ⟨rfl, rfl, trivial⟩ (ih m (v1 + 1) _ h)
        · rw [if_neg c7] at h
          refine ax_gf c7 s8 ?_
          have s10 : ∀ n, ax_ex (e + 3) L_X10_dropLostSeeds 11 [some (.inr (.inr (0, 0))), some (.inl v1)] [] m (n + 6) = if ax_ok v1 8 = true then ax_ex (e + 3) L_X10_dropLostSeeds 17 [some (.inr (.inr (0, 0))), some (.inl v1)] [.inr (.inr (8, (8 * 0 + v1.toNatClampNeg))), .inr (.inr (1, 0))] m n else none := fun n => rfl
          by_cases c9 : ax_ok v1 8 = true
          · rw [if_pos c9] at h
            refine ax_gt c9 s10 ?_
            obtain ⟨r12, q11, h⟩ := ax_b_of h
            have s24 : ∀ n, ax_ex (e + 3) L_X10_dropLostSeeds 17 [some (.inr (.inr (0, 0))), some (.inl v1)] [.inr (.inr (8, (8 * 0 + v1.toNatClampNeg))), .inr (.inr (1, 0))] m (n + 1) = ax_aft (fun s m2 => ax_ex (e + 3) L_X10_dropLostSeeds 18 [some (.inr (.inr (0, 0))), some (.inl v1)] s m2 n) [.inr (.inr (1, 0))] (ax_ex (e + 2) L_X7_seedNumber 0 (ax_entry [.inr (.inr (8, (8 * 0 + v1.toNatClampNeg)))] 1) [] m n) := fun n => rfl
            refine ax_gci (j := 1) (k2 := 18) (lv2 := [some (.inr (.inr (0, 0))), some (.inl v1)]) (rest := [.inr (.inr (1, 0))]) ((R_X7_seedNumber (by omega) q11)) s24 ?_
            obtain ⟨r14, q13, h⟩ := ax_b_of h
            have s23 : ∀ n, ax_ex (e + 3) L_X10_dropLostSeeds 18 [some (.inr (.inr (0, 0))), some (.inl v1)] [.inl r12, .inr (.inr (1, 0))] m (n + 1) = ax_aft (fun s m2 => ax_ex (e + 3) L_X10_dropLostSeeds 19 [some (.inr (.inr (0, 0))), some (.inl v1)] s m2 n) [] (ax_ex (e + 2) L_X3_isSeed 0 (ax_entry [.inr (.inr (1, 0)), .inl r12] 2) [] m n) := fun n => rfl
            refine ax_gci (j := 1) (k2 := 19) (lv2 := [some (.inr (.inr (0, 0))), some (.inl v1)]) (rest := []) ((R_X3_isSeed (by omega) q13)) s23 ?_
            have s16 : ∀ n, ax_ex (e + 3) L_X10_dropLostSeeds 19 [some (.inr (.inr (0, 0))), some (.inl v1)] [.inl r14] m (n + 1) = if r14 = 0 then ax_ex (e + 3) L_X10_dropLostSeeds 20 [some (.inr (.inr (0, 0))), some (.inl v1)] [] m n else ax_ex (e + 3) L_X10_dropLostSeeds 25 [some (.inr (.inr (0, 0))), some (.inl v1)] [] m n := fun n => rfl
            by_cases c15 : r14 = 0
            · rw [if_pos c15] at h
              refine ax_gt c15 s16 ?_
              have s18 : ∀ n, ax_ex (e + 3) L_X10_dropLostSeeds 20 [some (.inr (.inr (0, 0))), some (.inl v1)] [] m (n + 4) = if ax_ok v1 8 = true then ax_ex (e + 3) L_X10_dropLostSeeds 24 [some (.inr (.inr (0, 0))), some (.inl v1)] [.inr (.inr (8, (8 * 0 + v1.toNatClampNeg)))] m n else none := fun n => rfl
              by_cases c17 : ax_ok v1 8 = true
              · rw [if_pos c17] at h
                refine ax_gt c17 s18 ?_
                obtain ⟨m21, q19, h⟩ := ax_b_of h
                have s22 : ∀ n, ax_ex (e + 3) L_X10_dropLostSeeds 24 [some (.inr (.inr (0, 0))), some (.inl v1)] [.inr (.inr (8, (8 * 0 + v1.toNatClampNeg)))] m (n + 1) = ax_aft (fun s m2 => ax_ex (e + 3) L_X10_dropLostSeeds 25 [some (.inr (.inr (0, 0))), some (.inl v1)] s m2 n) [] (ax_ex (e + 2) L_X7_clear 0 (ax_entry [.inr (.inr (8, (8 * 0 + v1.toNatClampNeg)))] 1) [] m n) := fun n => rfl
                refine ax_gcv (j := 1) (k2 := 25) (lv2 := [some (.inr (.inr (0, 0))), some (.inl v1)]) (rest := []) ((R_X7_clear (by omega) q19)) s22 ?_
                refine ax_go (j := 2) (k2 := 2) (lv2 := [some (.inr (.inr (0, 0))), some (.inl (v1 + 1))]) (st2 := []) (m2 := m21) (fun n => rfl) ?_
                exact ax_fg (lv2 := [some (.inr (.inr (0, 0))), some (.inl (v1 + 1))]) ⟨rfl, rfl, trivial⟩ (ih m21 (v1 + 1) _ h)
              · rw [if_neg c17] at h
                cases h
            · rw [if_neg c15] at h
              refine ax_gf c15 s16 ?_
              refine ax_go (j := 2) (k2 := 2) (lv2 := [some (.inr (.inr (0, 0))), some (.inl (v1 + 1))]) (st2 := []) (m2 := m) (fun n => rfl) ?_
              exact ax_fg (lv2 := [some (.inr (.inr (0, 0))), some (.inl (v1 + 1))]) ⟨rfl, rfl, trivial⟩ (ih m (v1 + 1) _ h)
          · rw [if_neg c9] at h
            cases h
      · rw [if_neg c3] at h
        cases h
def F_X10_dropLostSeeds (m : ax_M) : Option ax_M := F_X10_dropLostSeeds_L2 ax_FU m 0
set_option maxRecDepth 20000 in
set_option maxHeartbeats 4000000 in
theorem R_X10_dropLostSeeds {d : Nat} (hd : 3 ≤ d) {m : ax_M} {q : ax_M} (h : F_X10_dropLostSeeds m = some q) : ax_Ru d L_X10_dropLostSeeds 0 (ax_entry [.inr (.inr (0, 0))] 2) [] m (none, q) := by
  obtain ⟨e, rfl⟩ : ∃ e, d = e + 3 := ⟨d - 3, by omega⟩
  unfold F_X10_dropLostSeeds at h
  refine ax_go (j := 2) (k2 := 2) (lv2 := [some (.inr (.inr (0, 0))), some (.inl 0)]) (st2 := []) (m2 := m) (fun n => rfl) ?_
  refine ax_fg (lv2 := [some (.inr (.inr (0, 0))), some (.inl 0)]) ⟨rfl, rfl, trivial⟩ ?_
  refine R_X10_dropLostSeeds_L2 _ m 0 _ h
def F_X10_weed (m : ax_M) : Option (Int32 × ax_M) := if (m.1 1 0 4) = 0 then (ax_b2 (F_X10_refuse m (-5)) (fun r4 m5 => some (r4, m5))) else (ax_b (F_X10_dropLostSeeds (ax_ui m 1 0 4 ((m.1 1 0 4) - 1))) (fun m9 => some ((m9.1 1 0 4), m9)))
set_option maxRecDepth 20000 in
set_option maxHeartbeats 4000000 in
theorem R_X10_weed {d : Nat} (hd : 4 ≤ d) {m : ax_M} {q : (Int32 × ax_M)} (h : F_X10_weed m = some q) : ax_Ru d L_X10_weed 0 (ax_entry [.inr (.inr (0, 0))] 1) [] m (some (.inl q.1), q.2) := by
  obtain ⟨e, rfl⟩ : ∃ e, d = e + 4 := ⟨d - 4, by omega⟩
  unfold F_X10_weed at h
  have s2 : ∀ n, ax_ex (e + 4) L_X10_weed 0 (ax_entry [.inr (.inr (0, 0))] 1) [] m (n + 4) = if (m.1 1 0 4) = 0 then ax_ex (e + 4) L_X10_weed 4 [some (.inr (.inr (0, 0)))] [] m n else ax_ex (e + 4) L_X10_weed 8 [some (.inr (.inr (0, 0)))] [] m n := fun n => rfl
  by_cases c1 : (m.1 1 0 4) = 0
  · rw [if_pos c1] at h
    refine ax_gt c1 s2 ?_
    obtain ⟨r4, m5, q3, h⟩ := ax_b2_of h
    have s6 : ∀ n, ax_ex (e + 4) L_X10_weed 4 [some (.inr (.inr (0, 0)))] [] m (n + 3) = ax_aft (fun s m2 => ax_ex (e + 4) L_X10_weed 7 [some (.inr (.inr (0, 0)))] s m2 n) [] (ax_ex (e + 3) L_X10_refuse 0 (ax_entry [.inr (.inr (0, 0)), .inl (-5)] 3) [] m n) := fun n => rfl
    refine ax_gci (j := 3) (k2 := 7) (lv2 := [some (.inr (.inr (0, 0)))]) (rest := []) ((R_X10_refuse (by omega) q3)) s6 ?_
    obtain rfl := Option.some.inj h
    exact ax_rs 1 (fun n => rfl)
  · rw [if_neg c1] at h
    refine ax_gf c1 s2 ?_
    obtain ⟨m9, q7, h⟩ := ax_b_of h
    have s10 : ∀ n, ax_ex (e + 4) L_X10_weed 8 [some (.inr (.inr (0, 0)))] [] m (n + 9) = ax_aft (fun s m2 => ax_ex (e + 4) L_X10_weed 17 [some (.inr (.inr (0, 0)))] s m2 n) [] (ax_ex (e + 3) L_X10_dropLostSeeds 0 (ax_entry [.inr (.inr (0, 0))] 2) [] (ax_ui m 1 0 4 ((m.1 1 0 4) - 1)) n) := fun n => rfl
    refine ax_gcv (j := 9) (k2 := 17) (lv2 := [some (.inr (.inr (0, 0)))]) (rest := []) ((R_X10_dropLostSeeds (by omega) q7)) s10 ?_
    obtain rfl := Option.some.inj h
    exact ax_rs 4 (fun n => rfl)
def F_X10_seed (m : ax_M) (v1 : Int32) : Option (Int32 × ax_M) := some ((m.1 1 0 6), (ax_ui m 1 0 6 v1))
set_option maxRecDepth 20000 in
set_option maxHeartbeats 4000000 in
theorem R_X10_seed {d : Nat} (hd : 1 ≤ d) {m : ax_M} {v1 : Int32} {q : (Int32 × ax_M)} (h : F_X10_seed m v1 = some q) : ax_Ru d L_X10_seed 0 (ax_entry [.inr (.inr (0, 0)), .inl v1] 3) [] m (some (.inl q.1), q.2) := by
  obtain ⟨e, rfl⟩ : ∃ e, d = e + 1 := ⟨d - 1, by omega⟩
  unfold F_X10_seed at h
  obtain rfl := Option.some.inj h
  exact ax_rs 10 (fun n => rfl)
def F_X10_image (m : ax_M) : Option (Int32 × ax_M) := ax_b (F_X3_become m 1 0) (fun m3 => some (1, (ax_ui m3 0 0 3 1)))
set_option maxRecDepth 20000 in
set_option maxHeartbeats 4000000 in
theorem R_X10_image {d : Nat} (hd : 8 ≤ d) {m : ax_M} {q : (Int32 × ax_M)} (h : F_X10_image m = some q) : ax_Ru d L_X10_image 0 (ax_entry [.inr (.inr (0, 0))] 1) [] m (some (.inl q.1), q.2) := by
  obtain ⟨e, rfl⟩ : ∃ e, d = e + 8 := ⟨d - 8, by omega⟩
  unfold F_X10_image at h
  obtain ⟨m3, q1, h⟩ := ax_b_of h
  have s5 : ∀ n, ax_ex (e + 8) L_X10_image 0 (ax_entry [.inr (.inr (0, 0))] 1) [] m (n + 5) = ax_aft (fun s m2 => ax_ex (e + 8) L_X10_image 5 [some (.inr (.inr (0, 0)))] s m2 n) [] (ax_ex (e + 7) L_X3_become 0 (ax_entry [.inr (.inr (1, 1)), .inr (.inr (1, 0))] 3) [] m n) := fun n => rfl
  refine ax_gcv (j := 5) (k2 := 5) (lv2 := [some (.inr (.inr (0, 0)))]) (rest := []) ((R_X3_become (by omega) q1)) s5 ?_
  have s4 : ∀ n, ax_ex (e + 8) L_X10_image 5 [some (.inr (.inr (0, 0)))] [] m3 (n + 3) = if (1 : Int32) = 0 ∨ (1 : Int32) = 1 then ax_ex (e + 8) L_X10_image 8 [some (.inr (.inr (0, 0)))] [] (ax_ui m3 0 0 3 1) n else none := fun n => rfl
  refine ax_gt (by decide) s4 ?_
  obtain rfl := Option.some.inj h
  exact ax_rs 2 (fun n => rfl)
def F_X10_back (m : ax_M) : Option (Int32 × ax_M) := if (m.1 0 0 3) = 0 then (ax_b2 (F_X10_refuse m (-5)) (fun r4 m5 => some (r4, m5))) else (ax_b (F_X3_become m 0 1) (fun m9 => ax_b (F_X10_dropLostSeeds m9) (fun m12 => some (1, m12))))
set_option maxRecDepth 20000 in
set_option maxHeartbeats 4000000 in
theorem R_X10_back {d : Nat} (hd : 8 ≤ d) {m : ax_M} {q : (Int32 × ax_M)} (h : F_X10_back m = some q) : ax_Ru d L_X10_back 0 (ax_entry [.inr (.inr (0, 0))] 1) [] m (some (.inl q.1), q.2) := by
  obtain ⟨e, rfl⟩ : ∃ e, d = e + 8 := ⟨d - 8, by omega⟩
  unfold F_X10_back at h
  have s2 : ∀ n, ax_ex (e + 8) L_X10_back 0 (ax_entry [.inr (.inr (0, 0))] 1) [] m (n + 3) = if (m.1 0 0 3) = 0 then ax_ex (e + 8) L_X10_back 3 [some (.inr (.inr (0, 0)))] [] m n else ax_ex (e + 8) L_X10_back 7 [some (.inr (.inr (0, 0)))] [] m n := fun n => rfl
  by_cases c1 : (m.1 0 0 3) = 0
  · rw [if_pos c1] at h
    refine ax_gt c1 s2 ?_
    obtain ⟨r4, m5, q3, h⟩ := ax_b2_of h
    have s6 : ∀ n, ax_ex (e + 8) L_X10_back 3 [some (.inr (.inr (0, 0)))] [] m (n + 3) = ax_aft (fun s m2 => ax_ex (e + 8) L_X10_back 6 [some (.inr (.inr (0, 0)))] s m2 n) [] (ax_ex (e + 7) L_X10_refuse 0 (ax_entry [.inr (.inr (0, 0)), .inl (-5)] 3) [] m n) := fun n => rfl
    refine ax_gci (j := 3) (k2 := 6) (lv2 := [some (.inr (.inr (0, 0)))]) (rest := []) ((R_X10_refuse (by omega) q3)) s6 ?_
    obtain rfl := Option.some.inj h
    exact ax_rs 1 (fun n => rfl)
  · rw [if_neg c1] at h
    refine ax_gf c1 s2 ?_
    obtain ⟨m9, q7, h⟩ := ax_b_of h
    have s14 : ∀ n, ax_ex (e + 8) L_X10_back 7 [some (.inr (.inr (0, 0)))] [] m (n + 5) = ax_aft (fun s m2 => ax_ex (e + 8) L_X10_back 12 [some (.inr (.inr (0, 0)))] s m2 n) [] (ax_ex (e + 7) L_X3_become 0 (ax_entry [.inr (.inr (1, 0)), .inr (.inr (1, 1))] 3) [] m n) := fun n => rfl
    refine ax_gcv (j := 5) (k2 := 12) (lv2 := [some (.inr (.inr (0, 0)))]) (rest := []) ((R_X3_become (by omega) q7)) s14 ?_
    obtain ⟨m12, q10, h⟩ := ax_b_of h
    have s13 : ∀ n, ax_ex (e + 8) L_X10_back 12 [some (.inr (.inr (0, 0)))] [] m9 (n + 2) = ax_aft (fun s m2 => ax_ex (e + 8) L_X10_back 14 [some (.inr (.inr (0, 0)))] s m2 n) [] (ax_ex (e + 7) L_X10_dropLostSeeds 0 (ax_entry [.inr (.inr (0, 0))] 2) [] m9 n) := fun n => rfl
    refine ax_gcv (j := 2) (k2 := 14) (lv2 := [some (.inr (.inr (0, 0)))]) (rest := []) ((R_X10_dropLostSeeds (by omega) q10)) s13 ?_
    obtain rfl := Option.some.inj h
    exact ax_rs 2 (fun n => rfl)
def F_X10_fullShelves_L4 : Nat → ax_M → Int32 → Int32 → Option Int32
  | 0, _, _, _ => none
  | n + 1, m, v1, v2 => if 8 ≤ v2 then (some v1) else (if ax_ok v2 8 = true then (ax_b (F_X7_isEmpty m (8 * 0 + v2.toNatClampNeg)) (fun r6 => if r6 = 0 then (F_X10_fullShelves_L4 n m (v1 + 1) (v2 + 1)) else (F_X10_fullShelves_L4 n m v1 (v2 + 1)))) else (none))
set_option maxRecDepth 20000 in
set_option maxHeartbeats 4000000 in
theorem R_X10_fullShelves_L4 {e : Nat} {m : ax_M} : ∀ (n : Nat) (v1 : Int32) (v2 : Int32) (q : Int32), F_X10_fullShelves_L4 n m v1 v2 = some q → ax_Ru (e + 2) L_X10_fullShelves 4 [some (.inr (.inr (0, 0))), some (.inl v1), some (.inl v2)] [] m (some (.inl q), m) := by
  intro n
  induction n with
  | zero =>
    intro v1 v2 q h
    cases h
  | succ n ih =>
    intro v1 v2 q h
    rw [F_X10_fullShelves_L4] at h
    have s2 : ∀ n, ax_ex (e + 2) L_X10_fullShelves 4 [some (.inr (.inr (0, 0))), some (.inl v1), some (.inl v2)] [] m (n + 3) = if 8 ≤ v2 then ax_ex (e + 2) L_X10_fullShelves 16 [some (.inr (.inr (0, 0))), some (.inl v1), some (.inl v2)] [] m n else ax_ex (e + 2) L_X10_fullShelves 7 [some (.inr (.inr (0, 0))), some (.inl v1), some (.inl v2)] [] m n := fun n => rfl
    by_cases c1 : 8 ≤ v2
    · rw [if_pos c1] at h
      refine ax_gt c1 s2 ?_
      obtain rfl := Option.some.inj h
      exact ax_rs 2 (fun n => rfl)
    · rw [if_neg c1] at h
      refine ax_gf c1 s2 ?_
      have s4 : ∀ n, ax_ex (e + 2) L_X10_fullShelves 7 [some (.inr (.inr (0, 0))), some (.inl v1), some (.inl v2)] [] m (n + 4) = if ax_ok v2 8 = true then ax_ex (e + 2) L_X10_fullShelves 11 [some (.inr (.inr (0, 0))), some (.inl v1), some (.inl v2)] [.inr (.inr (8, (8 * 0 + v2.toNatClampNeg)))] m n else none := fun n => rfl
      by_cases c3 : ax_ok v2 8 = true
      · rw [if_pos c3] at h
        refine ax_gt c3 s4 ?_
        obtain ⟨r6, q5, h⟩ := ax_b_of h
        have s9 : ∀ n, ax_ex (e + 2) L_X10_fullShelves 11 [some (.inr (.inr (0, 0))), some (.inl v1), some (.inl v2)] [.inr (.inr (8, (8 * 0 + v2.toNatClampNeg)))] m (n + 1) = ax_aft (fun s m2 => ax_ex (e + 2) L_X10_fullShelves 12 [some (.inr (.inr (0, 0))), some (.inl v1), some (.inl v2)] s m2 n) [] (ax_ex (e + 1) L_X7_isEmpty 0 (ax_entry [.inr (.inr (8, (8 * 0 + v2.toNatClampNeg)))] 1) [] m n) := fun n => rfl
        refine ax_gci (j := 1) (k2 := 12) (lv2 := [some (.inr (.inr (0, 0))), some (.inl v1), some (.inl v2)]) (rest := []) ((R_X7_isEmpty (by omega) q5)) s9 ?_
        have s8 : ∀ n, ax_ex (e + 2) L_X10_fullShelves 12 [some (.inr (.inr (0, 0))), some (.inl v1), some (.inl v2)] [.inl r6] m (n + 1) = if r6 = 0 then ax_ex (e + 2) L_X10_fullShelves 13 [some (.inr (.inr (0, 0))), some (.inl v1), some (.inl v2)] [] m n else ax_ex (e + 2) L_X10_fullShelves 14 [some (.inr (.inr (0, 0))), some (.inl v1), some (.inl v2)] [] m n := fun n => rfl
        by_cases c7 : r6 = 0
        · rw [if_pos c7] at h
          refine ax_gt c7 s8 ?_
          refine ax_go (j := 3) (k2 := 4) (lv2 := [some (.inr (.inr (0, 0))), some (.inl (v1 + 1)), some (.inl (v2 + 1))]) (st2 := []) (m2 := m) (fun n => rfl) ?_
          exact ax_fg (lv2 := [some (.inr (.inr (0, 0))), some (.inl (v1 + 1)), some (.inl (v2 + 1))]) ⟨rfl, rfl, rfl, trivial⟩ (ih (v1 + 1) (v2 + 1) _ h)
        · rw [if_neg c7] at h
          refine ax_gf c7 s8 ?_
          refine ax_go (j := 2) (k2 := 4) (lv2 := [some (.inr (.inr (0, 0))), some (.inl v1), some (.inl (v2 + 1))]) (st2 := []) (m2 := m) (fun n => rfl) ?_
          exact ax_fg (lv2 := [some (.inr (.inr (0, 0))), some (.inl v1), some (.inl (v2 + 1))]) ⟨rfl, rfl, rfl, trivial⟩ (ih v1 (v2 + 1) _ h)
      · rw [if_neg c3] at h
        cases h
def F_X10_fullShelves (m : ax_M) : Option Int32 := F_X10_fullShelves_L4 ax_FU m 0 0
set_option maxRecDepth 20000 in
set_option maxHeartbeats 4000000 in
theorem R_X10_fullShelves {d : Nat} (hd : 2 ≤ d) {m : ax_M} {q : Int32} (h : F_X10_fullShelves m = some q) : ax_Ru d L_X10_fullShelves 0 (ax_entry [.inr (.inr (0, 0))] 3) [] m (some (.inl q), m) := by
  obtain ⟨e, rfl⟩ : ∃ e, d = e + 2 := ⟨d - 2, by omega⟩
  unfold F_X10_fullShelves at h
  refine ax_go (j := 4) (k2 := 4) (lv2 := [some (.inr (.inr (0, 0))), some (.inl 0), some (.inl 0)]) (st2 := []) (m2 := m) (fun n => rfl) ?_
  refine ax_fg (lv2 := [some (.inr (.inr (0, 0))), some (.inl 0), some (.inl 0)]) ⟨rfl, rfl, rfl, trivial⟩ ?_
  refine R_X10_fullShelves_L4 _ 0 0 _ h
def F_X10_status (m : ax_M) (v1 : Int32) : Option Int32 := if v1 < 12 then (if v1 = 0 then (some (m.1 1 0 1)) else (if v1 = 1 then (some (m.1 1 0 4)) else (if v1 = 2 then (ax_b (F_J13_bitCount_95d88 (m.2 1 0 0)) (fun r8 => some r8)) else (if v1 = 3 then (ax_b (F_X2_all m 0) (fun r12 => some r12)) else (if v1 = 4 then (ax_b (F_X3_shown m 0) (fun r16 => ax_b (F_J6_bitCount_0f7a4 r16) (fun r18 => some r18))) else (if v1 = 5 then (ax_b (F_X3_debtors m 0) (fun r23 => some r23)) else (if v1 = 6 then (some (m.1 10 0 1)) else (if v1 = 7 then (some (m.1 1 0 6)) else (if v1 = 8 then (ax_b (F_X10_fullShelves m) (fun r29 => some r29)) else (some (-1))))))))))) else (if (12 + 5) ≤ v1 then (if v1 = 0 then (some (m.1 1 0 1)) else (if v1 = 1 then (some (m.1 1 0 4)) else (if v1 = 2 then (ax_b (F_J13_bitCount_95d88 (m.2 1 0 0)) (fun r39 => some r39)) else (if v1 = 3 then (ax_b (F_X2_all m 0) (fun r43 => some r43)) else (if v1 = 4 then (ax_b (F_X3_shown m 0) (fun r47 => ax_b (F_J6_bitCount_0f7a4 r47) (fun r49 => some r49))) else (if v1 = 5 then (ax_b (F_X3_debtors m 0) (fun r54 => some r54)) else (if v1 = 6 then (some (m.1 10 0 1)) else (if v1 = 7 then (some (m.1 1 0 6)) else (if v1 = 8 then (ax_b (F_X10_fullShelves m) (fun r60 => some r60)) else (some (-1))))))))))) else (if ax_ok (v1 - 12) 5 = true then (some (m.1 20 0 (v1 - 12).toNatClampNeg)) else (none)))
set_option maxRecDepth 20000 in
set_option maxHeartbeats 4000000 in
theorem R_X10_status {d : Nat} (hd : 10 ≤ d) {m : ax_M} {v1 : Int32} {q : Int32} (h : F_X10_status m v1 = some q) : ax_Ru d L_X10_status 0 (ax_entry [.inr (.inr (0, 0)), .inl v1] 2) [] m (some (.inl q), m) := by
  obtain ⟨e, rfl⟩ : ∃ e, d = e + 10 := ⟨d - 10, by omega⟩
  unfold F_X10_status at h
  have s2 : ∀ n, ax_ex (e + 10) L_X10_status 0 (ax_entry [.inr (.inr (0, 0)), .inl v1] 2) [] m (n + 3) = if v1 < 12 then ax_ex (e + 10) L_X10_status 17 [some (.inr (.inr (0, 0))), some (.inl v1)] [] m n else ax_ex (e + 10) L_X10_status 3 [some (.inr (.inr (0, 0))), some (.inl v1)] [] m n := fun n => rfl
  by_cases c1 : v1 < 12
  · rw [if_pos c1] at h
    refine ax_gt c1 s2 ?_
    have s3 : ∀ n, ax_ex (e + 10) L_X10_status 17 [some (.inr (.inr (0, 0))), some (.inl v1)] [] m (n + 2) = (if v1 = 0 then ax_ex (e + 10) L_X10_status 19 [some (.inr (.inr (0, 0))), some (.inl v1)] [] m n else (if v1 = 1 then ax_ex (e + 10) L_X10_status 23 [some (.inr (.inr (0, 0))), some (.inl v1)] [] m n else (if v1 = 2 then ax_ex (e + 10) L_X10_status 27 [some (.inr (.inr (0, 0))), some (.inl v1)] [] m n else (if v1 = 3 then ax_ex (e + 10) L_X10_status 32 [some (.inr (.inr (0, 0))), some (.inl v1)] [] m n else (if v1 = 4 then ax_ex (e + 10) L_X10_status 37 [some (.inr (.inr (0, 0))), some (.inl v1)] [] m n else (if v1 = 5 then ax_ex (e + 10) L_X10_status 42 [some (.inr (.inr (0, 0))), some (.inl v1)] [] m n else (if v1 = 6 then ax_ex (e + 10) L_X10_status 46 [some (.inr (.inr (0, 0))), some (.inl v1)] [] m n else (if v1 = 7 then ax_ex (e + 10) L_X10_status 51 [some (.inr (.inr (0, 0))), some (.inl v1)] [] m n else (if v1 = 8 then ax_ex (e + 10) L_X10_status 55 [some (.inr (.inr (0, 0))), some (.inl v1)] [] m n else ax_ex (e + 10) L_X10_status 58 [some (.inr (.inr (0, 0))), some (.inl v1)] [] m n))))))))) := fun n => rfl
    by_cases c4 : v1 = 0
    · rw [if_pos c4] at h
      refine ax_go (j := 2) (k2 := 19) (lv2 := [some (.inr (.inr (0, 0))), some (.inl v1)]) (st2 := []) (m2 := m) (fun n => (s3 n).trans (if_pos c4)) ?_
      obtain rfl := Option.some.inj h
      exact ax_rs 4 (fun n => rfl)
    · rw [if_neg c4] at h
      by_cases c5 : v1 = 1
      · rw [if_pos c5] at h
        refine ax_go (j := 2) (k2 := 23) (lv2 := [some (.inr (.inr (0, 0))), some (.inl v1)]) (st2 := []) (m2 := m) (fun n => ((s3 n).trans (if_neg c4)).trans (if_pos c5)) ?_
        obtain rfl := Option.some.inj h
        exact ax_rs 4 (fun n => rfl)
      · rw [if_neg c5] at h
        by_cases c6 : v1 = 2
        · rw [if_pos c6] at h
          refine ax_go (j := 2) (k2 := 27) (lv2 := [some (.inr (.inr (0, 0))), some (.inl v1)]) (st2 := []) (m2 := m) (fun n => (((s3 n).trans (if_neg c4)).trans (if_neg c5)).trans (if_pos c6)) ?_
          obtain ⟨r8, q7, h⟩ := ax_b_of h
          have s9 : ∀ n, ax_ex (e + 10) L_X10_status 27 [some (.inr (.inr (0, 0))), some (.inl v1)] [] m (n + 4) = ax_aft (fun s m2 => ax_ex (e + 10) L_X10_status 31 [some (.inr (.inr (0, 0))), some (.inl v1)] s m2 n) [] (ax_ex (e + 9) L_J13_bitCount_95d88 0 (ax_entry [.inr (.inl (m.2 1 0 0))] 2) [] m n) := fun n => rfl
          refine ax_gci (j := 4) (k2 := 31) (lv2 := [some (.inr (.inr (0, 0))), some (.inl v1)]) (rest := []) ((R_J13_bitCount_95d88 (by omega) q7)) s9 ?_
          obtain rfl := Option.some.inj h
          exact ax_rs 1 (fun n => rfl)
        · rw [if_neg c6] at h
          by_cases c10 : v1 = 3
          · rw [if_pos c10] at h
            refine ax_go (j := 2) (k2 := 32) (lv2 := [some (.inr (.inr (0, 0))), some (.inl v1)]) (st2 := []) (m2 := m) (fun n => ((((s3 n).trans (if_neg c4)).trans (if_neg c5)).trans (if_neg c6)).trans (if_pos c10)) ?_
            obtain ⟨r12, q11, h⟩ := ax_b_of h
            have s13 : ∀ n, ax_ex (e + 10) L_X10_status 32 [some (.inr (.inr (0, 0))), some (.inl v1)] [] m (n + 4) = ax_aft (fun s m2 => ax_ex (e + 10) L_X10_status 36 [some (.inr (.inr (0, 0))), some (.inl v1)] s m2 n) [] (ax_ex (e + 9) L_X2_all 0 (ax_entry [.inr (.inr (3, 0))] 3) [] m n) := fun n => rfl
            refine ax_gci (j := 4) (k2 := 36) (lv2 := [some (.inr (.inr (0, 0))), some (.inl v1)]) (rest := []) ((R_X2_all (by omega) q11)) s13 ?_
            obtain rfl := Option.some.inj h
            exact ax_rs 1 (fun n => rfl)
          · rw [if_neg c10] at h
            by_cases c14 : v1 = 4
            · rw [if_pos c14] at h
              refine ax_go (j := 2) (k2 := 37) (lv2 := [some (.inr (.inr (0, 0))), some (.inl v1)]) (st2 := []) (m2 := m) (fun n => (((((s3 n).trans (if_neg c4)).trans (if_neg c5)).trans (if_neg c6)).trans (if_neg c10)).trans (if_pos c14)) ?_
              obtain ⟨r16, q15, h⟩ := ax_b_of h
              have s20 : ∀ n, ax_ex (e + 10) L_X10_status 37 [some (.inr (.inr (0, 0))), some (.inl v1)] [] m (n + 3) = ax_aft (fun s m2 => ax_ex (e + 10) L_X10_status 40 [some (.inr (.inr (0, 0))), some (.inl v1)] s m2 n) [] (ax_ex (e + 9) L_X3_shown 0 (ax_entry [.inr (.inr (1, 0))] 3) [] m n) := fun n => rfl
              refine ax_gci (j := 3) (k2 := 40) (lv2 := [some (.inr (.inr (0, 0))), some (.inl v1)]) (rest := []) ((R_X3_shown (by omega) q15)) s20 ?_
              obtain ⟨r18, q17, h⟩ := ax_b_of h
              have s19 : ∀ n, ax_ex (e + 10) L_X10_status 40 [some (.inr (.inr (0, 0))), some (.inl v1)] [.inl r16] m (n + 1) = ax_aft (fun s m2 => ax_ex (e + 10) L_X10_status 41 [some (.inr (.inr (0, 0))), some (.inl v1)] s m2 n) [] (ax_ex (e + 9) L_J6_bitCount_0f7a4 0 (ax_entry [.inl r16] 1) [] m n) := fun n => rfl
              refine ax_gci (j := 1) (k2 := 41) (lv2 := [some (.inr (.inr (0, 0))), some (.inl v1)]) (rest := []) ((R_J6_bitCount_0f7a4 (by omega) q17)) s19 ?_
              obtain rfl := Option.some.inj h
              exact ax_rs 1 (fun n => rfl)
            · rw [if_neg c14] at h
              by_cases c21 : v1 = 5
              · rw [if_pos c21] at h
                refine ax_go (j := 2) (k2 := 42) (lv2 := [some (.inr (.inr (0, 0))), some (.inl v1)]) (st2 := []) (m2 := m) (fun n => ((((((s3 n).trans (if_neg c4)).trans (if_neg c5)).trans (if_neg c6)).trans (if_neg c10)).trans (if_neg c14)).trans (if_pos c21)) ?_
                obtain ⟨r23, q22, h⟩ := ax_b_of h
                have s24 : ∀ n, ax_ex (e + 10) L_X10_status 42 [some (.inr (.inr (0, 0))), some (.inl v1)] [] m (n + 3) = ax_aft (fun s m2 => ax_ex (e + 10) L_X10_status 45 [some (.inr (.inr (0, 0))), some (.inl v1)] s m2 n) [] (ax_ex (e + 9) L_X3_debtors 0 (ax_entry [.inr (.inr (1, 0))] 3) [] m n) := fun n => rfl
                refine ax_gci (j := 3) (k2 := 45) (lv2 := [some (.inr (.inr (0, 0))), some (.inl v1)]) (rest := []) ((R_X3_debtors (by omega) q22)) s24 ?_
                obtain rfl := Option.some.inj h
                exact ax_rs 1 (fun n => rfl)
              · rw [if_neg c21] at h
                by_cases c25 : v1 = 6
                · rw [if_pos c25] at h
                  refine ax_go (j := 2) (k2 := 46) (lv2 := [some (.inr (.inr (0, 0))), some (.inl v1)]) (st2 := []) (m2 := m) (fun n => (((((((s3 n).trans (if_neg c4)).trans (if_neg c5)).trans (if_neg c6)).trans (if_neg c10)).trans (if_neg c14)).trans (if_neg c21)).trans (if_pos c25)) ?_
                  obtain rfl := Option.some.inj h
                  exact ax_rs 5 (fun n => rfl)
                · rw [if_neg c25] at h
                  by_cases c26 : v1 = 7
                  · rw [if_pos c26] at h
                    refine ax_go (j := 2) (k2 := 51) (lv2 := [some (.inr (.inr (0, 0))), some (.inl v1)]) (st2 := []) (m2 := m) (fun n => ((((((((s3 n).trans (if_neg c4)).trans (if_neg c5)).trans (if_neg c6)).trans (if_neg c10)).trans (if_neg c14)).trans (if_neg c21)).trans (if_neg c25)).trans (if_pos c26)) ?_
                    obtain rfl := Option.some.inj h
                    exact ax_rs 4 (fun n => rfl)
                  · rw [if_neg c26] at h
                    by_cases c27 : v1 = 8
                    · rw [if_pos c27] at h
                      refine ax_go (j := 2) (k2 := 55) (lv2 := [some (.inr (.inr (0, 0))), some (.inl v1)]) (st2 := []) (m2 := m) (fun n => (((((((((s3 n).trans (if_neg c4)).trans (if_neg c5)).trans (if_neg c6)).trans (if_neg c10)).trans (if_neg c14)).trans (if_neg c21)).trans (if_neg c25)).trans (if_neg c26)).trans (if_pos c27)) ?_
                      obtain ⟨r29, q28, h⟩ := ax_b_of h
                      have s30 : ∀ n, ax_ex (e + 10) L_X10_status 55 [some (.inr (.inr (0, 0))), some (.inl v1)] [] m (n + 2) = ax_aft (fun s m2 => ax_ex (e + 10) L_X10_status 57 [some (.inr (.inr (0, 0))), some (.inl v1)] s m2 n) [] (ax_ex (e + 9) L_X10_fullShelves 0 (ax_entry [.inr (.inr (0, 0))] 3) [] m n) := fun n => rfl
                      refine ax_gci (j := 2) (k2 := 57) (lv2 := [some (.inr (.inr (0, 0))), some (.inl v1)]) (rest := []) ((R_X10_fullShelves (by omega) q28)) s30 ?_
                      obtain rfl := Option.some.inj h
                      exact ax_rs 1 (fun n => rfl)
                    · rw [if_neg c27] at h
                      refine ax_go (j := 2) (k2 := 58) (lv2 := [some (.inr (.inr (0, 0))), some (.inl v1)]) (st2 := []) (m2 := m) (fun n => ((((((((((s3 n).trans (if_neg c4)).trans (if_neg c5)).trans (if_neg c6)).trans (if_neg c10)).trans (if_neg c14)).trans (if_neg c21)).trans (if_neg c25)).trans (if_neg c26)).trans (if_neg c27))) ?_
                      obtain rfl := Option.some.inj h
                      exact ax_rs 2 (fun n => rfl)
  · rw [if_neg c1] at h
    refine ax_gf c1 s2 ?_
    refine ax_go (j := 6) (k2 := 9) (lv2 := [some (.inr (.inr (0, 0))), some (.inl v1)]) (st2 := [.inl (12 + 5), .inl v1]) (m2 := m) (fun n => rfl) ?_
    obtain ⟨y31, hy31⟩ : ∃ y : Int32, y = (12 + 5) := ⟨_, rfl⟩
    rw [← hy31] at h ⊢
    have s33 : ∀ n, ax_ex (e + 10) L_X10_status 9 [some (.inr (.inr (0, 0))), some (.inl v1)] [.inl y31, .inl v1] m (n + 1) = if y31 ≤ v1 then ax_ex (e + 10) L_X10_status 17 [some (.inr (.inr (0, 0))), some (.inl v1)] [] m n else ax_ex (e + 10) L_X10_status 10 [some (.inr (.inr (0, 0))), some (.inl v1)] [] m n := fun n => rfl
    by_cases c32 : y31 ≤ v1
    · rw [if_pos c32] at h
      refine ax_gt c32 s33 ?_
      have s34 : ∀ n, ax_ex (e + 10) L_X10_status 17 [some (.inr (.inr (0, 0))), some (.inl v1)] [] m (n + 2) = (if v1 = 0 then ax_ex (e + 10) L_X10_status 19 [some (.inr (.inr (0, 0))), some (.inl v1)] [] m n else (if v1 = 1 then ax_ex (e + 10) L_X10_status 23 [some (.inr (.inr (0, 0))), some (.inl v1)] [] m n else (if v1 = 2 then ax_ex (e + 10) L_X10_status 27 [some (.inr (.inr (0, 0))), some (.inl v1)] [] m n else (if v1 = 3 then ax_ex (e + 10) L_X10_status 32 [some (.inr (.inr (0, 0))), some (.inl v1)] [] m n else (if v1 = 4 then ax_ex (e + 10) L_X10_status 37 [some (.inr (.inr (0, 0))), some (.inl v1)] [] m n else (if v1 = 5 then ax_ex (e + 10) L_X10_status 42 [some (.inr (.inr (0, 0))), some (.inl v1)] [] m n else (if v1 = 6 then ax_ex (e + 10) L_X10_status 46 [some (.inr (.inr (0, 0))), some (.inl v1)] [] m n else (if v1 = 7 then ax_ex (e + 10) L_X10_status 51 [some (.inr (.inr (0, 0))), some (.inl v1)] [] m n else (if v1 = 8 then ax_ex (e + 10) L_X10_status 55 [some (.inr (.inr (0, 0))), some (.inl v1)] [] m n else ax_ex (e + 10) L_X10_status 58 [some (.inr (.inr (0, 0))), some (.inl v1)] [] m n))))))))) := fun n => rfl
      by_cases c35 : v1 = 0
      · rw [if_pos c35] at h
        refine ax_go (j := 2) (k2 := 19) (lv2 := [some (.inr (.inr (0, 0))), some (.inl v1)]) (st2 := []) (m2 := m) (fun n => (s34 n).trans (if_pos c35)) ?_
        obtain rfl := Option.some.inj h
        exact ax_rs 4 (fun n => rfl)
      · rw [if_neg c35] at h
        by_cases c36 : v1 = 1
        · rw [if_pos c36] at h
          refine ax_go (j := 2) (k2 := 23) (lv2 := [some (.inr (.inr (0, 0))), some (.inl v1)]) (st2 := []) (m2 := m) (fun n => ((s34 n).trans (if_neg c35)).trans (if_pos c36)) ?_
          obtain rfl := Option.some.inj h
          exact ax_rs 4 (fun n => rfl)
        · rw [if_neg c36] at h
          by_cases c37 : v1 = 2
          · rw [if_pos c37] at h
            refine ax_go (j := 2) (k2 := 27) (lv2 := [some (.inr (.inr (0, 0))), some (.inl v1)]) (st2 := []) (m2 := m) (fun n => (((s34 n).trans (if_neg c35)).trans (if_neg c36)).trans (if_pos c37)) ?_
            obtain ⟨r39, q38, h⟩ := ax_b_of h
            have s40 : ∀ n, ax_ex (e + 10) L_X10_status 27 [some (.inr (.inr (0, 0))), some (.inl v1)] [] m (n + 4) = ax_aft (fun s m2 => ax_ex (e + 10) L_X10_status 31 [some (.inr (.inr (0, 0))), some (.inl v1)] s m2 n) [] (ax_ex (e + 9) L_J13_bitCount_95d88 0 (ax_entry [.inr (.inl (m.2 1 0 0))] 2) [] m n) := fun n => rfl
            refine ax_gci (j := 4) (k2 := 31) (lv2 := [some (.inr (.inr (0, 0))), some (.inl v1)]) (rest := []) ((R_J13_bitCount_95d88 (by omega) q38)) s40 ?_
            obtain rfl := Option.some.inj h
            exact ax_rs 1 (fun n => rfl)
          · rw [if_neg c37] at h
            by_cases c41 : v1 = 3
            · rw [if_pos c41] at h
              refine ax_go (j := 2) (k2 := 32) (lv2 := [some (.inr (.inr (0, 0))), some (.inl v1)]) (st2 := []) (m2 := m) (fun n => ((((s34 n).trans (if_neg c35)).trans (if_neg c36)).trans (if_neg c37)).trans (if_pos c41)) ?_
              obtain ⟨r43, q42, h⟩ := ax_b_of h
              have s44 : ∀ n, ax_ex (e + 10) L_X10_status 32 [some (.inr (.inr (0, 0))), some (.inl v1)] [] m (n + 4) = ax_aft (fun s m2 => ax_ex (e + 10) L_X10_status 36 [some (.inr (.inr (0, 0))), some (.inl v1)] s m2 n) [] (ax_ex (e + 9) L_X2_all 0 (ax_entry [.inr (.inr (3, 0))] 3) [] m n) := fun n => rfl
              refine ax_gci (j := 4) (k2 := 36) (lv2 := [some (.inr (.inr (0, 0))), some (.inl v1)]) (rest := []) ((R_X2_all (by omega) q42)) s44 ?_
              obtain rfl := Option.some.inj h
              exact ax_rs 1 (fun n => rfl)
            · rw [if_neg c41] at h
              by_cases c45 : v1 = 4
              · rw [if_pos c45] at h
                refine ax_go (j := 2) (k2 := 37) (lv2 := [some (.inr (.inr (0, 0))), some (.inl v1)]) (st2 := []) (m2 := m) (fun n => (((((s34 n).trans (if_neg c35)).trans (if_neg c36)).trans (if_neg c37)).trans (if_neg c41)).trans (if_pos c45)) ?_
                obtain ⟨r47, q46, h⟩ := ax_b_of h
                have s51 : ∀ n, ax_ex (e + 10) L_X10_status 37 [some (.inr (.inr (0, 0))), some (.inl v1)] [] m (n + 3) = ax_aft (fun s m2 => ax_ex (e + 10) L_X10_status 40 [some (.inr (.inr (0, 0))), some (.inl v1)] s m2 n) [] (ax_ex (e + 9) L_X3_shown 0 (ax_entry [.inr (.inr (1, 0))] 3) [] m n) := fun n => rfl
                refine ax_gci (j := 3) (k2 := 40) (lv2 := [some (.inr (.inr (0, 0))), some (.inl v1)]) (rest := []) ((R_X3_shown (by omega) q46)) s51 ?_
                obtain ⟨r49, q48, h⟩ := ax_b_of h
                have s50 : ∀ n, ax_ex (e + 10) L_X10_status 40 [some (.inr (.inr (0, 0))), some (.inl v1)] [.inl r47] m (n + 1) = ax_aft (fun s m2 => ax_ex (e + 10) L_X10_status 41 [some (.inr (.inr (0, 0))), some (.inl v1)] s m2 n) [] (ax_ex (e + 9) L_J6_bitCount_0f7a4 0 (ax_entry [.inl r47] 1) [] m n) := fun n => rfl
                refine ax_gci (j := 1) (k2 := 41) (lv2 := [some (.inr (.inr (0, 0))), some (.inl v1)]) (rest := []) ((R_J6_bitCount_0f7a4 (by omega) q48)) s50 ?_
                obtain rfl := Option.some.inj h
                exact ax_rs 1 (fun n => rfl)
              · rw [if_neg c45] at h
                by_cases c52 : v1 = 5
                · rw [if_pos c52] at h
                  refine ax_go (j := 2) (k2 := 42) (lv2 := [some (.inr (.inr (0, 0))), some (.inl v1)]) (st2 := []) (m2 := m) (fun n => ((((((s34 n).trans (if_neg c35)).trans (if_neg c36)).trans (if_neg c37)).trans (if_neg c41)).trans (if_neg c45)).trans (if_pos c52)) ?_
                  obtain ⟨r54, q53, h⟩ := ax_b_of h
                  have s55 : ∀ n, ax_ex (e + 10) L_X10_status 42 [some (.inr (.inr (0, 0))), some (.inl v1)] [] m (n + 3) = ax_aft (fun s m2 => ax_ex (e + 10) L_X10_status 45 [some (.inr (.inr (0, 0))), some (.inl v1)] s m2 n) [] (ax_ex (e + 9) L_X3_debtors 0 (ax_entry [.inr (.inr (1, 0))] 3) [] m n) := fun n => rfl
                  refine ax_gci (j := 3) (k2 := 45) (lv2 := [some (.inr (.inr (0, 0))), some (.inl v1)]) (rest := []) ((R_X3_debtors (by omega) q53)) s55 ?_
                  obtain rfl := Option.some.inj h
                  exact ax_rs 1 (fun n => rfl)
                · rw [if_neg c52] at h
                  by_cases c56 : v1 = 6
                  · rw [if_pos c56] at h
                    refine ax_go (j := 2) (k2 := 46) (lv2 := [some (.inr (.inr (0, 0))), some (.inl v1)]) (st2 := []) (m2 := m) (fun n => (((((((s34 n).trans (if_neg c35)).trans (if_neg c36)).trans (if_neg c37)).trans (if_neg c41)).trans (if_neg c45)).trans (if_neg c52)).trans (if_pos c56)) ?_
                    obtain rfl := Option.some.inj h
                    exact ax_rs 5 (fun n => rfl)
                  · rw [if_neg c56] at h
                    by_cases c57 : v1 = 7
                    · rw [if_pos c57] at h
                      refine ax_go (j := 2) (k2 := 51) (lv2 := [some (.inr (.inr (0, 0))), some (.inl v1)]) (st2 := []) (m2 := m) (fun n => ((((((((s34 n).trans (if_neg c35)).trans (if_neg c36)).trans (if_neg c37)).trans (if_neg c41)).trans (if_neg c45)).trans (if_neg c52)).trans (if_neg c56)).trans (if_pos c57)) ?_
                      obtain rfl := Option.some.inj h
                      exact ax_rs 4 (fun n => rfl)
                    · rw [if_neg c57] at h
                      by_cases c58 : v1 = 8
                      · rw [if_pos c58] at h
                        refine ax_go (j := 2) (k2 := 55) (lv2 := [some (.inr (.inr (0, 0))), some (.inl v1)]) (st2 := []) (m2 := m) (fun n => (((((((((s34 n).trans (if_neg c35)).trans (if_neg c36)).trans (if_neg c37)).trans (if_neg c41)).trans (if_neg c45)).trans (if_neg c52)).trans (if_neg c56)).trans (if_neg c57)).trans (if_pos c58)) ?_
                        obtain ⟨r60, q59, h⟩ := ax_b_of h
                        have s61 : ∀ n, ax_ex (e + 10) L_X10_status 55 [some (.inr (.inr (0, 0))), some (.inl v1)] [] m (n + 2) = ax_aft (fun s m2 => ax_ex (e + 10) L_X10_status 57 [some (.inr (.inr (0, 0))), some (.inl v1)] s m2 n) [] (ax_ex (e + 9) L_X10_fullShelves 0 (ax_entry [.inr (.inr (0, 0))] 3) [] m n) := fun n => rfl
                        refine ax_gci (j := 2) (k2 := 57) (lv2 := [some (.inr (.inr (0, 0))), some (.inl v1)]) (rest := []) ((R_X10_fullShelves (by omega) q59)) s61 ?_
                        obtain rfl := Option.some.inj h
                        exact ax_rs 1 (fun n => rfl)
                      · rw [if_neg c58] at h
                        refine ax_go (j := 2) (k2 := 58) (lv2 := [some (.inr (.inr (0, 0))), some (.inl v1)]) (st2 := []) (m2 := m) (fun n => ((((((((((s34 n).trans (if_neg c35)).trans (if_neg c36)).trans (if_neg c37)).trans (if_neg c41)).trans (if_neg c45)).trans (if_neg c52)).trans (if_neg c56)).trans (if_neg c57)).trans (if_neg c58))) ?_
                        obtain rfl := Option.some.inj h
                        exact ax_rs 2 (fun n => rfl)
    · rw [if_neg c32] at h
      refine ax_gf c32 s33 ?_
      refine ax_go (j := 5) (k2 := 15) (lv2 := [some (.inr (.inr (0, 0))), some (.inl v1)]) (st2 := [.inl (v1 - 12), .inr (.inr (20, 0))]) (m2 := m) (fun n => rfl) ?_
      obtain ⟨y62, hy62⟩ : ∃ y : Int32, y = (v1 - 12) := ⟨_, rfl⟩
      rw [← hy62] at h ⊢
      have s64 : ∀ n, ax_ex (e + 10) L_X10_status 15 [some (.inr (.inr (0, 0))), some (.inl v1)] [.inl y62, .inr (.inr (20, 0))] m (n + 1) = if ax_ok y62 5 = true then ax_ex (e + 10) L_X10_status 16 [some (.inr (.inr (0, 0))), some (.inl v1)] [.inl (m.1 20 0 y62.toNatClampNeg)] m n else none := fun n => rfl
      by_cases c63 : ax_ok y62 5 = true
      · rw [if_pos c63] at h
        refine ax_gt c63 s64 ?_
        obtain rfl := Option.some.inj h
        exact ax_rs 1 (fun n => rfl)
      · rw [if_neg c63] at h
        cases h
def F_X11_no (m : ax_M) (v1 : Int32) : Option (Int32 × ax_M) := if ax_ok (-v1) 7 = true then (if ax_ok (-v1) 7 = true then (some (v1, (ax_ui m 34 0 (-v1).toNatClampNeg ((m.1 34 0 (-v1).toNatClampNeg) + 1)))) else (none)) else (none)
set_option maxRecDepth 20000 in
set_option maxHeartbeats 4000000 in
theorem R_X11_no {d : Nat} (hd : 1 ≤ d) {m : ax_M} {v1 : Int32} {q : (Int32 × ax_M)} (h : F_X11_no m v1 = some q) : ax_Ru d L_X11_no 0 (ax_entry [.inr (.inr (22, 0)), .inl v1] 2) [] m (some (.inl q.1), q.2) := by
  obtain ⟨e, rfl⟩ : ∃ e, d = e + 1 := ⟨d - 1, by omega⟩
  unfold F_X11_no at h
  refine ax_go (j := 5) (k2 := 5) (lv2 := [some (.inr (.inr (22, 0))), some (.inl v1)]) (st2 := [.inl (-v1), .inr (.inr (34, 0)), .inl (-v1), .inr (.inr (34, 0))]) (m2 := m) (fun n => rfl) ?_
  obtain ⟨y1, hy1⟩ : ∃ y : Int32, y = (-v1) := ⟨_, rfl⟩
  rw [← hy1] at h ⊢
  have s3 : ∀ n, ax_ex (e + 1) L_X11_no 5 [some (.inr (.inr (22, 0))), some (.inl v1)] [.inl y1, .inr (.inr (34, 0)), .inl y1, .inr (.inr (34, 0))] m (n + 1) = if ax_ok y1 7 = true then ax_ex (e + 1) L_X11_no 6 [some (.inr (.inr (22, 0))), some (.inl v1)] [.inl (m.1 34 0 y1.toNatClampNeg), .inl y1, .inr (.inr (34, 0))] m n else none := fun n => rfl
  by_cases c2 : ax_ok y1 7 = true
  · rw [if_pos c2] at h
    refine ax_gt c2 s3 ?_
    have s5 : ∀ n, ax_ex (e + 1) L_X11_no 6 [some (.inr (.inr (22, 0))), some (.inl v1)] [.inl (m.1 34 0 y1.toNatClampNeg), .inl y1, .inr (.inr (34, 0))] m (n + 3) = if ax_ok y1 7 = true then ax_ex (e + 1) L_X11_no 9 [some (.inr (.inr (22, 0))), some (.inl v1)] [] (ax_ui m 34 0 y1.toNatClampNeg ((m.1 34 0 y1.toNatClampNeg) + 1)) n else none := fun n => rfl
    by_cases c4 : ax_ok y1 7 = true
    · rw [if_pos c4] at h
      refine ax_gt c4 s5 ?_
      obtain rfl := Option.some.inj h
      exact ax_rs 2 (fun n => rfl)
    · rw [if_neg c4] at h
      cases h
  · rw [if_neg c2] at h
    cases h
def F_X11_within (v0 : Int32) (v1 : Int32) (v2 : Int32) : Option Int32 := if v0 < v1 then (some 0) else (if v2 < v0 then (some 0) else (some 1))
set_option maxRecDepth 20000 in
set_option maxHeartbeats 4000000 in
theorem R_X11_within {d : Nat} (hd : 1 ≤ d) {m : ax_M} {v0 : Int32} {v1 : Int32} {v2 : Int32} {q : Int32} (h : F_X11_within v0 v1 v2 = some q) : ax_Ru d L_X11_within 0 (ax_entry [.inl v0, .inl v1, .inl v2] 3) [] m (some (.inl q), m) := by
  obtain ⟨e, rfl⟩ : ∃ e, d = e + 1 := ⟨d - 1, by omega⟩
  unfold F_X11_within at h
  have s2 : ∀ n, ax_ex (e + 1) L_X11_within 0 (ax_entry [.inl v0, .inl v1, .inl v2] 3) [] m (n + 3) = if v0 < v1 then ax_ex (e + 1) L_X11_within 8 [some (.inl v0), some (.inl v1), some (.inl v2)] [] m n else ax_ex (e + 1) L_X11_within 3 [some (.inl v0), some (.inl v1), some (.inl v2)] [] m n := fun n => rfl
  by_cases c1 : v0 < v1
  · rw [if_pos c1] at h
    refine ax_gt c1 s2 ?_
    obtain rfl := Option.some.inj h
    exact ax_rq (c := (0 : Int32) = 0 ∨ (0 : Int32) = 1) (j := 2) (by decide) (fun n => rfl)
  · rw [if_neg c1] at h
    refine ax_gf c1 s2 ?_
    have s4 : ∀ n, ax_ex (e + 1) L_X11_within 3 [some (.inl v0), some (.inl v1), some (.inl v2)] [] m (n + 3) = if v2 < v0 then ax_ex (e + 1) L_X11_within 8 [some (.inl v0), some (.inl v1), some (.inl v2)] [] m n else ax_ex (e + 1) L_X11_within 6 [some (.inl v0), some (.inl v1), some (.inl v2)] [] m n := fun n => rfl
    by_cases c3 : v2 < v0
    · rw [if_pos c3] at h
      refine ax_gt c3 s4 ?_
      obtain rfl := Option.some.inj h
      exact ax_rq (c := (0 : Int32) = 0 ∨ (0 : Int32) = 1) (j := 2) (by decide) (fun n => rfl)
    · rw [if_neg c3] at h
      refine ax_gf c3 s4 ?_
      obtain rfl := Option.some.inj h
      exact ax_rq (c := (1 : Int32) = 0 ∨ (1 : Int32) = 1) (j := 3) (by decide) (fun n => rfl)
def F_X11_isCell (v0 : Int32) : Option Int32 := ax_b (F_X11_within v0 0 63) (fun r2 => if r2 = 0 ∨ r2 = 1 then some r2 else none)
set_option maxRecDepth 20000 in
set_option maxHeartbeats 4000000 in
theorem R_X11_isCell {d : Nat} (hd : 2 ≤ d) {m : ax_M} {v0 : Int32} {q : Int32} (h : F_X11_isCell v0 = some q) : ax_Ru d L_X11_isCell 0 (ax_entry [.inl v0] 1) [] m (some (.inl q), m) := by
  obtain ⟨e, rfl⟩ : ∃ e, d = e + 2 := ⟨d - 2, by omega⟩
  unfold F_X11_isCell at h
  obtain ⟨r2, q1, h⟩ := ax_b_of h
  have s4 : ∀ n, ax_ex (e + 2) L_X11_isCell 0 (ax_entry [.inl v0] 1) [] m (n + 4) = ax_aft (fun s m2 => ax_ex (e + 2) L_X11_isCell 4 [some (.inl v0)] s m2 n) [] (ax_ex (e + 1) L_X11_within 0 (ax_entry [.inl v0, .inl 0, .inl 63] 3) [] m n) := fun n => rfl
  refine ax_gci (j := 4) (k2 := 4) (lv2 := [some (.inl v0)]) (rest := []) ((R_X11_within (by omega) q1)) s4 ?_
  have s_ : ∀ n, ax_ex (e + 2) L_X11_isCell 4 [some (.inl v0)] [.inl r2] m (n + 1) = if r2 = 0 ∨ r2 = 1 then some (some (.inl r2), m) else none := fun n => rfl
  by_cases c3 : r2 = 0 ∨ r2 = 1
  · rw [if_pos c3] at h
    obtain rfl := Option.some.inj h
    exact ax_rs 1 (fun n => (s_ n).trans (if_pos c3))
  · rw [if_neg c3] at h
    cases h
def F_X11_isOne (m : ax_M) (v1 : Int32) : Option Int32 := ax_b (F_X11_within v1 0 ((m.1 22 0 1) - 1)) (fun r2 => if r2 = 0 ∨ r2 = 1 then some r2 else none)
set_option maxRecDepth 20000 in
set_option maxHeartbeats 4000000 in
theorem R_X11_isOne {d : Nat} (hd : 2 ≤ d) {m : ax_M} {v1 : Int32} {q : Int32} (h : F_X11_isOne m v1 = some q) : ax_Ru d L_X11_isOne 0 (ax_entry [.inr (.inr (22, 0)), .inl v1] 2) [] m (some (.inl q), m) := by
  obtain ⟨e, rfl⟩ : ∃ e, d = e + 2 := ⟨d - 2, by omega⟩
  unfold F_X11_isOne at h
  obtain ⟨r2, q1, h⟩ := ax_b_of h
  have s4 : ∀ n, ax_ex (e + 2) L_X11_isOne 0 (ax_entry [.inr (.inr (22, 0)), .inl v1] 2) [] m (n + 7) = ax_aft (fun s m2 => ax_ex (e + 2) L_X11_isOne 7 [some (.inr (.inr (22, 0))), some (.inl v1)] s m2 n) [] (ax_ex (e + 1) L_X11_within 0 (ax_entry [.inl v1, .inl 0, .inl ((m.1 22 0 1) - 1)] 3) [] m n) := fun n => rfl
  refine ax_gci (j := 7) (k2 := 7) (lv2 := [some (.inr (.inr (22, 0))), some (.inl v1)]) (rest := []) ((R_X11_within (by omega) q1)) s4 ?_
  have s_ : ∀ n, ax_ex (e + 2) L_X11_isOne 7 [some (.inr (.inr (22, 0))), some (.inl v1)] [.inl r2] m (n + 1) = if r2 = 0 ∨ r2 = 1 then some (some (.inl r2), m) else none := fun n => rfl
  by_cases c3 : r2 = 0 ∨ r2 = 1
  · rw [if_pos c3] at h
    obtain rfl := Option.some.inj h
    exact ax_rs 1 (fun n => (s_ n).trans (if_pos c3))
  · rw [if_neg c3] at h
    cases h
def F_X11_isSeed (m : ax_M) (v1 : Int32) : Option Int32 := ax_b (F_X11_within v1 0 ((m.1 22 0 4) - 1)) (fun r2 => if r2 = 0 ∨ r2 = 1 then some r2 else none)
set_option maxRecDepth 20000 in
set_option maxHeartbeats 4000000 in
theorem R_X11_isSeed {d : Nat} (hd : 2 ≤ d) {m : ax_M} {v1 : Int32} {q : Int32} (h : F_X11_isSeed m v1 = some q) : ax_Ru d L_X11_isSeed 0 (ax_entry [.inr (.inr (22, 0)), .inl v1] 2) [] m (some (.inl q), m) := by
  obtain ⟨e, rfl⟩ : ∃ e, d = e + 2 := ⟨d - 2, by omega⟩
  unfold F_X11_isSeed at h
  obtain ⟨r2, q1, h⟩ := ax_b_of h
  have s4 : ∀ n, ax_ex (e + 2) L_X11_isSeed 0 (ax_entry [.inr (.inr (22, 0)), .inl v1] 2) [] m (n + 7) = ax_aft (fun s m2 => ax_ex (e + 2) L_X11_isSeed 7 [some (.inr (.inr (22, 0))), some (.inl v1)] s m2 n) [] (ax_ex (e + 1) L_X11_within 0 (ax_entry [.inl v1, .inl 0, .inl ((m.1 22 0 4) - 1)] 3) [] m n) := fun n => rfl
  refine ax_gci (j := 7) (k2 := 7) (lv2 := [some (.inr (.inr (22, 0))), some (.inl v1)]) (rest := []) ((R_X11_within (by omega) q1)) s4 ?_
  have s_ : ∀ n, ax_ex (e + 2) L_X11_isSeed 7 [some (.inr (.inr (22, 0))), some (.inl v1)] [.inl r2] m (n + 1) = if r2 = 0 ∨ r2 = 1 then some (some (.inl r2), m) else none := fun n => rfl
  by_cases c3 : r2 = 0 ∨ r2 = 1
  · rw [if_pos c3] at h
    obtain rfl := Option.some.inj h
    exact ax_rs 1 (fun n => (s_ n).trans (if_pos c3))
  · rw [if_neg c3] at h
    cases h
def F_X11_isShelf (v0 : Int32) : Option Int32 := ax_b (F_X11_within v0 0 7) (fun r2 => if r2 = 0 ∨ r2 = 1 then some r2 else none)
set_option maxRecDepth 20000 in
set_option maxHeartbeats 4000000 in
theorem R_X11_isShelf {d : Nat} (hd : 2 ≤ d) {m : ax_M} {v0 : Int32} {q : Int32} (h : F_X11_isShelf v0 = some q) : ax_Ru d L_X11_isShelf 0 (ax_entry [.inl v0] 1) [] m (some (.inl q), m) := by
  obtain ⟨e, rfl⟩ : ∃ e, d = e + 2 := ⟨d - 2, by omega⟩
  unfold F_X11_isShelf at h
  obtain ⟨r2, q1, h⟩ := ax_b_of h
  have s4 : ∀ n, ax_ex (e + 2) L_X11_isShelf 0 (ax_entry [.inl v0] 1) [] m (n + 4) = ax_aft (fun s m2 => ax_ex (e + 2) L_X11_isShelf 4 [some (.inl v0)] s m2 n) [] (ax_ex (e + 1) L_X11_within 0 (ax_entry [.inl v0, .inl 0, .inl 7] 3) [] m n) := fun n => rfl
  refine ax_gci (j := 4) (k2 := 4) (lv2 := [some (.inl v0)]) (rest := []) ((R_X11_within (by omega) q1)) s4 ?_
  have s_ : ∀ n, ax_ex (e + 2) L_X11_isShelf 4 [some (.inl v0)] [.inl r2] m (n + 1) = if r2 = 0 ∨ r2 = 1 then some (some (.inl r2), m) else none := fun n => rfl
  by_cases c3 : r2 = 0 ∨ r2 = 1
  · rw [if_pos c3] at h
    obtain rfl := Option.some.inj h
    exact ax_rs 1 (fun n => (s_ n).trans (if_pos c3))
  · rw [if_neg c3] at h
    cases h
def F_X11_isRow (m : ax_M) (v1 : Int32) : Option Int32 := if ax_ok v1 8 = true then (ax_b (F_X11_within (m.1 31 0 v1.toNatClampNeg) 0 4) (fun r4 => if r4 = 0 ∨ r4 = 1 then some r4 else none)) else (none)
set_option maxRecDepth 20000 in
set_option maxHeartbeats 4000000 in
theorem R_X11_isRow {d : Nat} (hd : 2 ≤ d) {m : ax_M} {v1 : Int32} {q : Int32} (h : F_X11_isRow m v1 = some q) : ax_Ru d L_X11_isRow 0 (ax_entry [.inr (.inr (22, 0)), .inl v1] 2) [] m (some (.inl q), m) := by
  obtain ⟨e, rfl⟩ : ∃ e, d = e + 2 := ⟨d - 2, by omega⟩
  unfold F_X11_isRow at h
  have s2 : ∀ n, ax_ex (e + 2) L_X11_isRow 0 (ax_entry [.inr (.inr (22, 0)), .inl v1] 2) [] m (n + 4) = if ax_ok v1 8 = true then ax_ex (e + 2) L_X11_isRow 4 [some (.inr (.inr (22, 0))), some (.inl v1)] [.inl (m.1 31 0 v1.toNatClampNeg)] m n else none := fun n => rfl
  by_cases c1 : ax_ok v1 8 = true
  · rw [if_pos c1] at h
    refine ax_gt c1 s2 ?_
    obtain ⟨r4, q3, h⟩ := ax_b_of h
    have s6 : ∀ n, ax_ex (e + 2) L_X11_isRow 4 [some (.inr (.inr (22, 0))), some (.inl v1)] [.inl (m.1 31 0 v1.toNatClampNeg)] m (n + 3) = ax_aft (fun s m2 => ax_ex (e + 2) L_X11_isRow 7 [some (.inr (.inr (22, 0))), some (.inl v1)] s m2 n) [] (ax_ex (e + 1) L_X11_within 0 (ax_entry [.inl (m.1 31 0 v1.toNatClampNeg), .inl 0, .inl 4] 3) [] m n) := fun n => rfl
    refine ax_gci (j := 3) (k2 := 7) (lv2 := [some (.inr (.inr (22, 0))), some (.inl v1)]) (rest := []) ((R_X11_within (by omega) q3)) s6 ?_
    have s_ : ∀ n, ax_ex (e + 2) L_X11_isRow 7 [some (.inr (.inr (22, 0))), some (.inl v1)] [.inl r4] m (n + 1) = if r4 = 0 ∨ r4 = 1 then some (some (.inl r4), m) else none := fun n => rfl
    by_cases c5 : r4 = 0 ∨ r4 = 1
    · rw [if_pos c5] at h
      obtain rfl := Option.some.inj h
      exact ax_rs 1 (fun n => (s_ n).trans (if_pos c5))
    · rw [if_neg c5] at h
      cases h
  · rw [if_neg c1] at h
    cases h
def F_X11_areTwo (m : ax_M) (v1 : Int32) (v2 : Int32) : Option Int32 := ax_b (F_X11_isOne m v1) (fun r2 => if r2 = 0 then (some 0) else (ax_b (F_X11_isOne m v2) (fun r6 => if r6 = 0 then (some 0) else (if v1 = v2 then (some 0) else (some 1)))))
set_option maxRecDepth 20000 in
set_option maxHeartbeats 4000000 in
theorem R_X11_areTwo {d : Nat} (hd : 3 ≤ d) {m : ax_M} {v1 : Int32} {v2 : Int32} {q : Int32} (h : F_X11_areTwo m v1 v2 = some q) : ax_Ru d L_X11_areTwo 0 (ax_entry [.inr (.inr (22, 0)), .inl v1, .inl v2] 3) [] m (some (.inl q), m) := by
  obtain ⟨e, rfl⟩ : ∃ e, d = e + 3 := ⟨d - 3, by omega⟩
  unfold F_X11_areTwo at h
  obtain ⟨r2, q1, h⟩ := ax_b_of h
  have s12 : ∀ n, ax_ex (e + 3) L_X11_areTwo 0 (ax_entry [.inr (.inr (22, 0)), .inl v1, .inl v2] 3) [] m (n + 3) = ax_aft (fun s m2 => ax_ex (e + 3) L_X11_areTwo 3 [some (.inr (.inr (22, 0))), some (.inl v1), some (.inl v2)] s m2 n) [] (ax_ex (e + 2) L_X11_isOne 0 (ax_entry [.inr (.inr (22, 0)), .inl v1] 2) [] m n) := fun n => rfl
  refine ax_gci (j := 3) (k2 := 3) (lv2 := [some (.inr (.inr (22, 0))), some (.inl v1), some (.inl v2)]) (rest := []) ((R_X11_isOne (by omega) q1)) s12 ?_
  have s4 : ∀ n, ax_ex (e + 3) L_X11_areTwo 3 [some (.inr (.inr (22, 0))), some (.inl v1), some (.inl v2)] [.inl r2] m (n + 1) = if r2 = 0 then ax_ex (e + 3) L_X11_areTwo 13 [some (.inr (.inr (22, 0))), some (.inl v1), some (.inl v2)] [] m n else ax_ex (e + 3) L_X11_areTwo 4 [some (.inr (.inr (22, 0))), some (.inl v1), some (.inl v2)] [] m n := fun n => rfl
  by_cases c3 : r2 = 0
  · rw [if_pos c3] at h
    refine ax_gt c3 s4 ?_
    obtain rfl := Option.some.inj h
    exact ax_rq (c := (0 : Int32) = 0 ∨ (0 : Int32) = 1) (j := 2) (by decide) (fun n => rfl)
  · rw [if_neg c3] at h
    refine ax_gf c3 s4 ?_
    obtain ⟨r6, q5, h⟩ := ax_b_of h
    have s11 : ∀ n, ax_ex (e + 3) L_X11_areTwo 4 [some (.inr (.inr (22, 0))), some (.inl v1), some (.inl v2)] [] m (n + 3) = ax_aft (fun s m2 => ax_ex (e + 3) L_X11_areTwo 7 [some (.inr (.inr (22, 0))), some (.inl v1), some (.inl v2)] s m2 n) [] (ax_ex (e + 2) L_X11_isOne 0 (ax_entry [.inr (.inr (22, 0)), .inl v2] 2) [] m n) := fun n => rfl
    refine ax_gci (j := 3) (k2 := 7) (lv2 := [some (.inr (.inr (22, 0))), some (.inl v1), some (.inl v2)]) (rest := []) ((R_X11_isOne (by omega) q5)) s11 ?_
    have s8 : ∀ n, ax_ex (e + 3) L_X11_areTwo 7 [some (.inr (.inr (22, 0))), some (.inl v1), some (.inl v2)] [.inl r6] m (n + 1) = if r6 = 0 then ax_ex (e + 3) L_X11_areTwo 13 [some (.inr (.inr (22, 0))), some (.inl v1), some (.inl v2)] [] m n else ax_ex (e + 3) L_X11_areTwo 8 [some (.inr (.inr (22, 0))), some (.inl v1), some (.inl v2)] [] m n := fun n => rfl
    by_cases c7 : r6 = 0
    · rw [if_pos c7] at h
      refine ax_gt c7 s8 ?_
      obtain rfl := Option.some.inj h
      exact ax_rq (c := (0 : Int32) = 0 ∨ (0 : Int32) = 1) (j := 2) (by decide) (fun n => rfl)
    · rw [if_neg c7] at h
      refine ax_gf c7 s8 ?_
      have s10 : ∀ n, ax_ex (e + 3) L_X11_areTwo 8 [some (.inr (.inr (22, 0))), some (.inl v1), some (.inl v2)] [] m (n + 3) = if v1 = v2 then ax_ex (e + 3) L_X11_areTwo 13 [some (.inr (.inr (22, 0))), some (.inl v1), some (.inl v2)] [] m n else ax_ex (e + 3) L_X11_areTwo 11 [some (.inr (.inr (22, 0))), some (.inl v1), some (.inl v2)] [] m n := fun n => rfl
      by_cases c9 : v1 = v2
      · rw [if_pos c9] at h
        refine ax_gt c9 s10 ?_
        obtain rfl := Option.some.inj h
        exact ax_rq (c := (0 : Int32) = 0 ∨ (0 : Int32) = 1) (j := 2) (by decide) (fun n => rfl)
      · rw [if_neg c9] at h
        refine ax_gf c9 s10 ?_
        obtain rfl := Option.some.inj h
        exact ax_rq (c := (1 : Int32) = 0 ∨ (1 : Int32) = 1) (j := 3) (by decide) (fun n => rfl)
def F_X11_row_L29 : Nat → ax_M → Int32 → Int32 → Option (Int32 × ax_M)
  | 0, _, _, _ => none
  | n + 1, m, v1, v4 => if 40 ≤ v4 then (some (1, m)) else (if ax_ok ((40 * v1) + v4) 320 = true then (F_X11_row_L29 n (ax_ul m 33 0 ((40 * v1) + v4).toNatClampNeg 0) v1 (v4 + 1)) else (none))
set_option maxRecDepth 20000 in
set_option maxHeartbeats 4000000 in
theorem R_X11_row_L29 {e : Nat} {v1 : Int32} : ∀ (n : Nat) (m : ax_M) (v4 : Int32) (q : (Int32 × ax_M)), F_X11_row_L29 n m v1 v4 = some q → ax_Ru (e + 3) L_X11_row 29 [some (.inr (.inr (22, 0))), some (.inl v1), none, none, some (.inl v4)] [] m (some (.inl q.1), q.2) := by
  intro n
  induction n with
  | zero =>
    intro m v4 q h
    cases h
  | succ n ih =>
    intro m v4 q h
    rw [F_X11_row_L29] at h
    have s30 : ∀ n, ax_ex (e + 3) L_X11_row 29 [some (.inr (.inr (22, 0))), some (.inl v1), none, none, some (.inl v4)] [] m (n + 3) = if 40 ≤ v4 then ax_ex (e + 3) L_X11_row 43 [some (.inr (.inr (22, 0))), some (.inl v1), none, none, some (.inl v4)] [] m n else ax_ex (e + 3) L_X11_row 32 [some (.inr (.inr (22, 0))), some (.inl v1), none, none, some (.inl v4)] [] m n := fun n => rfl
    by_cases c29 : 40 ≤ v4
    · rw [if_pos c29] at h
      refine ax_gt c29 s30 ?_
      obtain rfl := Option.some.inj h
      exact ax_rs 2 (fun n => rfl)
    · rw [if_neg c29] at h
      refine ax_gf c29 s30 ?_
      refine ax_go (j := 8) (k2 := 40) (lv2 := [some (.inr (.inr (22, 0))), some (.inl v1), none, none, some (.inl v4)]) (st2 := [.inr (.inl 0), .inl ((40 * v1) + v4), .inr (.inr (33, 0))]) (m2 := m) (fun n => rfl) ?_
      obtain ⟨y31, hy31⟩ : ∃ y : Int32, y = ((40 * v1) + v4) := ⟨_, rfl⟩
      rw [← hy31] at h ⊢
      have s33 : ∀ n, ax_ex (e + 3) L_X11_row 40 [some (.inr (.inr (22, 0))), some (.inl v1), none, none, some (.inl v4)] [.inr (.inl 0), .inl y31, .inr (.inr (33, 0))] m (n + 1) = if ax_ok y31 320 = true then ax_ex (e + 3) L_X11_row 41 [some (.inr (.inr (22, 0))), some (.inl v1), none, none, some (.inl v4)] [] (ax_ul m 33 0 y31.toNatClampNeg 0) n else none := fun n => rfl
      by_cases c32 : ax_ok y31 320 = true
      · rw [if_pos c32] at h
        refine ax_gt c32 s33 ?_
        refine ax_go (j := 2) (k2 := 29) (lv2 := [some (.inr (.inr (22, 0))), some (.inl v1), none, none, some (.inl (v4 + 1))]) (st2 := []) (m2 := (ax_ul m 33 0 y31.toNatClampNeg 0)) (fun n => rfl) ?_
        exact ax_fg (lv2 := [some (.inr (.inr (22, 0))), some (.inl v1), none, none, some (.inl (v4 + 1))]) ⟨rfl, rfl, rfl, trivial⟩ (ih (ax_ul m 33 0 y31.toNatClampNeg 0) (v4 + 1) _ h)
      · rw [if_neg c32] at h
        cases h
def F_X11_row (m : ax_M) (v1 : Int32) (v2 : Int32) (v3 : Int32) : Option (Int32 × ax_M) := ax_b (F_X11_isShelf v1) (fun r2 => if r2 = 0 then (ax_b2 (F_X11_no m (-2)) (fun r6 m7 => some (r6, m7))) else (ax_b (F_X11_within v2 0 4) (fun r10 => if r10 = 0 then (ax_b2 (F_X11_no m (-2)) (fun r14 m15 => some (r14, m15))) else (ax_b (F_X11_within v3 0 40) (fun r18 => if r18 = 0 then (ax_b2 (F_X11_no m (-2)) (fun r22 m23 => some (r22, m23))) else (if ax_ok v1 8 = true then (if ax_ok v1 8 = true then (F_X11_row_L29 ax_FU (ax_ui (ax_ui m 31 0 v1.toNatClampNeg v2) 32 0 v1.toNatClampNeg v3) v1 0) else (none)) else (none)))))))
set_option maxRecDepth 20000 in
set_option maxHeartbeats 4000000 in
theorem R_X11_row {d : Nat} (hd : 3 ≤ d) {m : ax_M} {v1 : Int32} {v2 : Int32} {v3 : Int32} {q : (Int32 × ax_M)} (h : F_X11_row m v1 v2 v3 = some q) : ax_Ru d L_X11_row 0 (ax_entry [.inr (.inr (22, 0)), .inl v1, .inl v2, .inl v3] 5) [] m (some (.inl q.1), q.2) := by
  obtain ⟨e, rfl⟩ : ∃ e, d = e + 3 := ⟨d - 3, by omega⟩
  unfold F_X11_row at h
  obtain ⟨r2, q1, h⟩ := ax_b_of h
  have s37 : ∀ n, ax_ex (e + 3) L_X11_row 0 (ax_entry [.inr (.inr (22, 0)), .inl v1, .inl v2, .inl v3] 5) [] m (n + 2) = ax_aft (fun s m2 => ax_ex (e + 3) L_X11_row 2 [some (.inr (.inr (22, 0))), some (.inl v1), some (.inl v2), some (.inl v3), none] s m2 n) [] (ax_ex (e + 2) L_X11_isShelf 0 (ax_entry [.inl v1] 1) [] m n) := fun n => rfl
  refine ax_gci (j := 2) (k2 := 2) (lv2 := [some (.inr (.inr (22, 0))), some (.inl v1), some (.inl v2), some (.inl v3), none]) (rest := []) ((R_X11_isShelf (by omega) q1)) s37 ?_
  have s4 : ∀ n, ax_ex (e + 3) L_X11_row 2 [some (.inr (.inr (22, 0))), some (.inl v1), some (.inl v2), some (.inl v3), none] [.inl r2] m (n + 1) = if r2 = 0 then ax_ex (e + 3) L_X11_row 13 [some (.inr (.inr (22, 0))), some (.inl v1), some (.inl v2), some (.inl v3), none] [] m n else ax_ex (e + 3) L_X11_row 3 [some (.inr (.inr (22, 0))), some (.inl v1), some (.inl v2), some (.inl v3), none] [] m n := fun n => rfl
  by_cases c3 : r2 = 0
  · rw [if_pos c3] at h
    refine ax_gt c3 s4 ?_
    obtain ⟨r6, m7, q5, h⟩ := ax_b2_of h
    have s8 : ∀ n, ax_ex (e + 3) L_X11_row 13 [some (.inr (.inr (22, 0))), some (.inl v1), some (.inl v2), some (.inl v3), none] [] m (n + 3) = ax_aft (fun s m2 => ax_ex (e + 3) L_X11_row 16 [some (.inr (.inr (22, 0))), some (.inl v1), some (.inl v2), some (.inl v3), none] s m2 n) [] (ax_ex (e + 2) L_X11_no 0 (ax_entry [.inr (.inr (22, 0)), .inl (-2)] 2) [] m n) := fun n => rfl
    refine ax_gci (j := 3) (k2 := 16) (lv2 := [some (.inr (.inr (22, 0))), some (.inl v1), some (.inl v2), some (.inl v3), none]) (rest := []) ((R_X11_no (by omega) q5)) s8 ?_
    obtain rfl := Option.some.inj h
    exact ax_rs 1 (fun n => rfl)
  · rw [if_neg c3] at h
    refine ax_gf c3 s4 ?_
    obtain ⟨r10, q9, h⟩ := ax_b_of h
    have s36 : ∀ n, ax_ex (e + 3) L_X11_row 3 [some (.inr (.inr (22, 0))), some (.inl v1), some (.inl v2), some (.inl v3), none] [] m (n + 4) = ax_aft (fun s m2 => ax_ex (e + 3) L_X11_row 7 [some (.inr (.inr (22, 0))), some (.inl v1), some (.inl v2), some (.inl v3), none] s m2 n) [] (ax_ex (e + 2) L_X11_within 0 (ax_entry [.inl v2, .inl 0, .inl 4] 3) [] m n) := fun n => rfl
    refine ax_gci (j := 4) (k2 := 7) (lv2 := [some (.inr (.inr (22, 0))), some (.inl v1), some (.inl v2), some (.inl v3), none]) (rest := []) ((R_X11_within (by omega) q9)) s36 ?_
    have s12 : ∀ n, ax_ex (e + 3) L_X11_row 7 [some (.inr (.inr (22, 0))), some (.inl v1), some (.inl v2), some (.inl v3), none] [.inl r10] m (n + 1) = if r10 = 0 then ax_ex (e + 3) L_X11_row 13 [some (.inr (.inr (22, 0))), some (.inl v1), some (.inl v2), some (.inl v3), none] [] m n else ax_ex (e + 3) L_X11_row 8 [some (.inr (.inr (22, 0))), some (.inl v1), some (.inl v2), some (.inl v3), none] [] m n := fun n => rfl
    by_cases c11 : r10 = 0
    · rw [if_pos c11] at h
      refine ax_gt c11 s12 ?_
      obtain ⟨r14, m15, q13, h⟩ := ax_b2_of h
      have s16 : ∀ n, ax_ex (e + 3) L_X11_row 13 [some (.inr (.inr (22, 0))), some (.inl v1), some (.inl v2), some (.inl v3), none] [] m (n + 3) = ax_aft (fun s m2 => ax_ex (e + 3) L_X11_row 16 [some (.inr (.inr (22, 0))), some (.inl v1), some (.inl v2), some (.inl v3), none] s m2 n) [] (ax_ex (e + 2) L_X11_no 0 (ax_entry [.inr (.inr (22, 0)), .inl (-2)] 2) [] m n) := fun n => rfl
      refine ax_gci (j := 3) (k2 := 16) (lv2 := [some (.inr (.inr (22, 0))), some (.inl v1), some (.inl v2), some (.inl v3), none]) (rest := []) ((R_X11_no (by omega) q13)) s16 ?_
      obtain rfl := Option.some.inj h
      exact ax_rs 1 (fun n => rfl)
    · rw [if_neg c11] at h
      refine ax_gf c11 s12 ?_
      obtain ⟨r18, q17, h⟩ := ax_b_of h
      have s35 : ∀ n, ax_ex (e + 3) L_X11_row 8 [some (.inr (.inr (22, 0))), some (.inl v1), some (.inl v2), some (.inl v3), none] [] m (n + 4) = ax_aft (fun s m2 => ax_ex (e + 3) L_X11_row 12 [some (.inr (.inr (22, 0))), some (.inl v1), some (.inl v2), some (.inl v3), none] s m2 n) [] (ax_ex (e + 2) L_X11_within 0 (ax_entry [.inl v3, .inl 0, .inl 40] 3) [] m n) := fun n => rfl
      refine ax_gci (j := 4) (k2 := 12) (lv2 := [some (.inr (.inr (22, 0))), some (.inl v1), some (.inl v2), some (.inl v3), none]) (rest := []) ((R_X11_within (by omega) q17)) s35 ?_
      have s20 : ∀ n, ax_ex (e + 3) L_X11_row 12 [some (.inr (.inr (22, 0))), some (.inl v1), some (.inl v2), some (.inl v3), none] [.inl r18] m (n + 1) = if r18 = 0 then ax_ex (e + 3) L_X11_row 13 [some (.inr (.inr (22, 0))), some (.inl v1), some (.inl v2), some (.inl v3), none] [] m n else ax_ex (e + 3) L_X11_row 17 [some (.inr (.inr (22, 0))), some (.inl v1), some (.inl v2), some (.inl v3), none] [] m n := fun n => rfl
      by_cases c19 : r18 = 0
      · rw [if_pos c19] at h
        refine ax_gt c19 s20 ?_
        obtain ⟨r22, m23, q21, h⟩ := ax_b2_of h
        have s24 : ∀ n, ax_ex (e + 3) L_X11_row 13 [some (.inr (.inr (22, 0))), some (.inl v1), some (.inl v2), some (.inl v3), none] [] m (n + 3) = ax_aft (fun s m2 => ax_ex (e + 3) L_X11_row 16 [some (.inr (.inr (22, 0))), some (.inl v1), some (.inl v2), some (.inl v3), none] s m2 n) [] (ax_ex (e + 2) L_X11_no 0 (ax_entry [.inr (.inr (22, 0)), .inl (-2)] 2) [] m n) := fun n => rfl
        refine ax_gci (j := 3) (k2 := 16) (lv2 := [some (.inr (.inr (22, 0))), some (.inl v1), some (.inl v2), some (.inl v3), none]) (rest := []) ((R_X11_no (by omega) q21)) s24 ?_
        obtain rfl := Option.some.inj h
        exact ax_rs 1 (fun n => rfl)
      · rw [if_neg c19] at h
        refine ax_gf c19 s20 ?_
        have s26 : ∀ n, ax_ex (e + 3) L_X11_row 17 [some (.inr (.inr (22, 0))), some (.inl v1), some (.inl v2), some (.inl v3), none] [] m (n + 5) = if ax_ok v1 8 = true then ax_ex (e + 3) L_X11_row 22 [some (.inr (.inr (22, 0))), some (.inl v1), some (.inl v2), some (.inl v3), none] [] (ax_ui m 31 0 v1.toNatClampNeg v2) n else none := fun n => rfl
        by_cases c25 : ax_ok v1 8 = true
        · rw [if_pos c25] at h
          refine ax_gt c25 s26 ?_
          have s28 : ∀ n, ax_ex (e + 3) L_X11_row 22 [some (.inr (.inr (22, 0))), some (.inl v1), some (.inl v2), some (.inl v3), none] [] (ax_ui m 31 0 v1.toNatClampNeg v2) (n + 5) = if ax_ok v1 8 = true then ax_ex (e + 3) L_X11_row 27 [some (.inr (.inr (22, 0))), some (.inl v1), some (.inl v2), some (.inl v3), none] [] (ax_ui (ax_ui m 31 0 v1.toNatClampNeg v2) 32 0 v1.toNatClampNeg v3) n else none := fun n => rfl
          by_cases c27 : ax_ok v1 8 = true
          · rw [if_pos c27] at h
            refine ax_gt c27 s28 ?_
            refine ax_go (j := 2) (k2 := 29) (lv2 := [some (.inr (.inr (22, 0))), some (.inl v1), some (.inl v2), some (.inl v3), some (.inl 0)]) (st2 := []) (m2 := (ax_ui (ax_ui m 31 0 v1.toNatClampNeg v2) 32 0 v1.toNatClampNeg v3)) (fun n => rfl) ?_
            refine ax_fg (lv2 := [some (.inr (.inr (22, 0))), some (.inl v1), none, none, some (.inl 0)]) ⟨rfl, rfl, rfl, trivial⟩ ?_
            refine R_X11_row_L29 _ (ax_ui (ax_ui m 31 0 v1.toNatClampNeg v2) 32 0 v1.toNatClampNeg v3) 0 _ h
          · rw [if_neg c27] at h
            cases h
        · rw [if_neg c25] at h
          cases h
def F_X11_noRow (m : ax_M) (v1 : Int32) : Option Int32 := if ax_ok v1 8 = true then (if (m.1 31 0 v1.toNatClampNeg) < 10 then (if ax_ok v1 8 = true then (if 0 ≤ (m.1 31 0 v1.toNatClampNeg) then (some 0) else (some (-4))) else (none)) else (some (-3))) else (none)
set_option maxRecDepth 20000 in
set_option maxHeartbeats 4000000 in
theorem R_X11_noRow {d : Nat} (hd : 1 ≤ d) {m : ax_M} {v1 : Int32} {q : Int32} (h : F_X11_noRow m v1 = some q) : ax_Ru d L_X11_noRow 0 (ax_entry [.inr (.inr (22, 0)), .inl v1] 2) [] m (some (.inl q), m) := by
  obtain ⟨e, rfl⟩ : ∃ e, d = e + 1 := ⟨d - 1, by omega⟩
  unfold F_X11_noRow at h
  have s2 : ∀ n, ax_ex (e + 1) L_X11_noRow 0 (ax_entry [.inr (.inr (22, 0)), .inl v1] 2) [] m (n + 4) = if ax_ok v1 8 = true then ax_ex (e + 1) L_X11_noRow 4 [some (.inr (.inr (22, 0))), some (.inl v1)] [.inl (m.1 31 0 v1.toNatClampNeg)] m n else none := fun n => rfl
  by_cases c1 : ax_ok v1 8 = true
  · rw [if_pos c1] at h
    refine ax_gt c1 s2 ?_
    have s4 : ∀ n, ax_ex (e + 1) L_X11_noRow 4 [some (.inr (.inr (22, 0))), some (.inl v1)] [.inl (m.1 31 0 v1.toNatClampNeg)] m (n + 2) = if (m.1 31 0 v1.toNatClampNeg) < 10 then ax_ex (e + 1) L_X11_noRow 8 [some (.inr (.inr (22, 0))), some (.inl v1)] [] m n else ax_ex (e + 1) L_X11_noRow 6 [some (.inr (.inr (22, 0))), some (.inl v1)] [] m n := fun n => rfl
    by_cases c3 : (m.1 31 0 v1.toNatClampNeg) < 10
    · rw [if_pos c3] at h
      refine ax_gt c3 s4 ?_
      have s6 : ∀ n, ax_ex (e + 1) L_X11_noRow 8 [some (.inr (.inr (22, 0))), some (.inl v1)] [] m (n + 4) = if ax_ok v1 8 = true then ax_ex (e + 1) L_X11_noRow 12 [some (.inr (.inr (22, 0))), some (.inl v1)] [.inl (m.1 31 0 v1.toNatClampNeg)] m n else none := fun n => rfl
      by_cases c5 : ax_ok v1 8 = true
      · rw [if_pos c5] at h
        refine ax_gt c5 s6 ?_
        have s8 : ∀ n, ax_ex (e + 1) L_X11_noRow 12 [some (.inr (.inr (22, 0))), some (.inl v1)] [.inl (m.1 31 0 v1.toNatClampNeg)] m (n + 1) = if 0 ≤ (m.1 31 0 v1.toNatClampNeg) then ax_ex (e + 1) L_X11_noRow 15 [some (.inr (.inr (22, 0))), some (.inl v1)] [] m n else ax_ex (e + 1) L_X11_noRow 13 [some (.inr (.inr (22, 0))), some (.inl v1)] [] m n := fun n => rfl
        by_cases c7 : 0 ≤ (m.1 31 0 v1.toNatClampNeg)
        · rw [if_pos c7] at h
          refine ax_gt c7 s8 ?_
          obtain rfl := Option.some.inj h
          exact ax_rs 2 (fun n => rfl)
        · rw [if_neg c7] at h
          refine ax_gf c7 s8 ?_
          obtain rfl := Option.some.inj h
          exact ax_rs 3 (fun n => rfl)
      · rw [if_neg c5] at h
        cases h
    · rw [if_neg c3] at h
      refine ax_gf c3 s4 ?_
      obtain rfl := Option.some.inj h
      exact ax_rs 3 (fun n => rfl)
  · rw [if_neg c1] at h
    cases h
def F_X11_kept (v0 : Int32) (v1 : Int64) : Option Int64 := if v0 = 0 then (some ((ax_i2b v1.toInt32).toInt64)) else (if v0 = 1 then (some ((ax_i2s v1.toInt32).toInt64)) else (if v0 = 2 then (some v1.toInt32.toInt64) else (if v0 = 3 then (some v1) else (if (lg_cmp v1 0) = 0 then (some 0) else (some 1)))))
set_option maxRecDepth 20000 in
set_option maxHeartbeats 4000000 in
theorem R_X11_kept {d : Nat} (hd : 1 ≤ d) {m : ax_M} {v0 : Int32} {v1 : Int64} {q : Int64} (h : F_X11_kept v0 v1 = some q) : ax_Ru d L_X11_kept 0 (ax_entry [.inl v0, .inr (.inl v1)] 3) [] m (some (.inr (.inl q)), m) := by
  obtain ⟨e, rfl⟩ : ∃ e, d = e + 1 := ⟨d - 1, by omega⟩
  unfold F_X11_kept at h
  have s1 : ∀ n, ax_ex (e + 1) L_X11_kept 0 (ax_entry [.inl v0, .inr (.inl v1)] 3) [] m (n + 2) = (if v0 = 0 then ax_ex (e + 1) L_X11_kept 2 [some (.inl v0), some (.inr (.inl v1)), none] [] m n else (if v0 = 1 then ax_ex (e + 1) L_X11_kept 7 [some (.inl v0), some (.inr (.inl v1)), none] [] m n else (if v0 = 2 then ax_ex (e + 1) L_X11_kept 12 [some (.inl v0), some (.inr (.inl v1)), none] [] m n else (if v0 = 3 then ax_ex (e + 1) L_X11_kept 16 [some (.inl v0), some (.inr (.inl v1)), none] [] m n else ax_ex (e + 1) L_X11_kept 18 [some (.inl v0), some (.inr (.inl v1)), none] [] m n)))) := fun n => rfl
  by_cases c2 : v0 = 0
  · rw [if_pos c2] at h
    refine ax_go (j := 2) (k2 := 2) (lv2 := [some (.inl v0), some (.inr (.inl v1)), none]) (st2 := []) (m2 := m) (fun n => (s1 n).trans (if_pos c2)) ?_
    obtain rfl := Option.some.inj h
    exact ax_rs 5 (fun n => rfl)
  · rw [if_neg c2] at h
    by_cases c3 : v0 = 1
    · rw [if_pos c3] at h
      refine ax_go (j := 2) (k2 := 7) (lv2 := [some (.inl v0), some (.inr (.inl v1)), none]) (st2 := []) (m2 := m) (fun n => ((s1 n).trans (if_neg c2)).trans (if_pos c3)) ?_
      obtain rfl := Option.some.inj h
      exact ax_rs 5 (fun n => rfl)
    · rw [if_neg c3] at h
      by_cases c4 : v0 = 2
      · rw [if_pos c4] at h
        refine ax_go (j := 2) (k2 := 12) (lv2 := [some (.inl v0), some (.inr (.inl v1)), none]) (st2 := []) (m2 := m) (fun n => (((s1 n).trans (if_neg c2)).trans (if_neg c3)).trans (if_pos c4)) ?_
        obtain rfl := Option.some.inj h
        exact ax_rs 4 (fun n => rfl)
      · rw [if_neg c4] at h
        by_cases c5 : v0 = 3
        · rw [if_pos c5] at h
          refine ax_go (j := 2) (k2 := 16) (lv2 := [some (.inl v0), some (.inr (.inl v1)), none]) (st2 := []) (m2 := m) (fun n => ((((s1 n).trans (if_neg c2)).trans (if_neg c3)).trans (if_neg c4)).trans (if_pos c5)) ?_
          obtain rfl := Option.some.inj h
          exact ax_rs 2 (fun n => rfl)
        · rw [if_neg c5] at h
          refine ax_go (j := 2) (k2 := 18) (lv2 := [some (.inl v0), some (.inr (.inl v1)), none]) (st2 := []) (m2 := m) (fun n => (((((s1 n).trans (if_neg c2)).trans (if_neg c3)).trans (if_neg c4)).trans (if_neg c5))) ?_
          refine ax_go (j := 3) (k2 := 21) (lv2 := [some (.inl v0), some (.inr (.inl v1)), none]) (st2 := [.inl (lg_cmp v1 0)]) (m2 := m) (fun n => rfl) ?_
          obtain ⟨y6, hy6⟩ : ∃ y : Int32, y = (lg_cmp v1 0) := ⟨_, rfl⟩
          rw [← hy6] at h ⊢
          have s8 : ∀ n, ax_ex (e + 1) L_X11_kept 21 [some (.inl v0), some (.inr (.inl v1)), none] [.inl y6] m (n + 1) = if y6 = 0 then ax_ex (e + 1) L_X11_kept 24 [some (.inl v0), some (.inr (.inl v1)), none] [] m n else ax_ex (e + 1) L_X11_kept 22 [some (.inl v0), some (.inr (.inl v1)), none] [] m n := fun n => rfl
          by_cases c7 : y6 = 0
          · rw [if_pos c7] at h
            refine ax_gt c7 s8 ?_
            obtain rfl := Option.some.inj h
            exact ax_rs 2 (fun n => rfl)
          · rw [if_neg c7] at h
            refine ax_gf c7 s8 ?_
            obtain rfl := Option.some.inj h
            exact ax_rs 3 (fun n => rfl)
def F_X11_set (m : ax_M) (v1 : Int32) (v2 : Int32) (v3 : Int64) : Option (Int32 × ax_M) := ax_b (F_X11_isShelf v1) (fun r2 => if r2 = 0 then (ax_b2 (F_X11_no m (-2)) (fun r6 m7 => some (r6, m7))) else (ax_b (F_X11_isRow m v1) (fun r10 => if r10 = 0 then (ax_b (F_X11_noRow m v1) (fun r14 => ax_b2 (F_X11_no m r14) (fun r16 m17 => some (r16, m17)))) else (if ax_ok v1 8 = true then (ax_b (F_X11_within v2 0 ((m.1 32 0 v1.toNatClampNeg) - 1)) (fun r23 => if r23 = 0 then (ax_b2 (F_X11_no m (-2)) (fun r27 m28 => some (r27, m28))) else (if ax_ok v1 8 = true then (ax_b (F_X11_kept (m.1 31 0 v1.toNatClampNeg) v3) (fun r33 => if ax_ok ((40 * v1) + v2) 320 = true then (some (1, (ax_ul m 33 0 ((40 * v1) + v2).toNatClampNeg r33))) else (none))) else (none)))) else (none)))))
set_option maxRecDepth 20000 in
set_option maxHeartbeats 4000000 in
theorem R_X11_set {d : Nat} (hd : 3 ≤ d) {m : ax_M} {v1 : Int32} {v2 : Int32} {v3 : Int64} {q : (Int32 × ax_M)} (h : F_X11_set m v1 v2 v3 = some q) : ax_Ru d L_X11_set 0 (ax_entry [.inr (.inr (22, 0)), .inl v1, .inl v2, .inr (.inl v3)] 5) [] m (some (.inl q.1), q.2) := by
  obtain ⟨e, rfl⟩ : ∃ e, d = e + 3 := ⟨d - 3, by omega⟩
  unfold F_X11_set at h
  obtain ⟨r2, q1, h⟩ := ax_b_of h
  have s40 : ∀ n, ax_ex (e + 3) L_X11_set 0 (ax_entry [.inr (.inr (22, 0)), .inl v1, .inl v2, .inr (.inl v3)] 5) [] m (n + 2) = ax_aft (fun s m2 => ax_ex (e + 3) L_X11_set 2 [some (.inr (.inr (22, 0))), some (.inl v1), some (.inl v2), some (.inr (.inl v3)), none] s m2 n) [] (ax_ex (e + 2) L_X11_isShelf 0 (ax_entry [.inl v1] 1) [] m n) := fun n => rfl
  refine ax_gci (j := 2) (k2 := 2) (lv2 := [some (.inr (.inr (22, 0))), some (.inl v1), some (.inl v2), some (.inr (.inl v3)), none]) (rest := []) ((R_X11_isShelf (by omega) q1)) s40 ?_
  have s4 : ∀ n, ax_ex (e + 3) L_X11_set 2 [some (.inr (.inr (22, 0))), some (.inl v1), some (.inl v2), some (.inr (.inl v3)), none] [.inl r2] m (n + 1) = if r2 = 0 then ax_ex (e + 3) L_X11_set 3 [some (.inr (.inr (22, 0))), some (.inl v1), some (.inl v2), some (.inr (.inl v3)), none] [] m n else ax_ex (e + 3) L_X11_set 7 [some (.inr (.inr (22, 0))), some (.inl v1), some (.inl v2), some (.inr (.inl v3)), none] [] m n := fun n => rfl
  by_cases c3 : r2 = 0
  · rw [if_pos c3] at h
    refine ax_gt c3 s4 ?_
    obtain ⟨r6, m7, q5, h⟩ := ax_b2_of h
    have s8 : ∀ n, ax_ex (e + 3) L_X11_set 3 [some (.inr (.inr (22, 0))), some (.inl v1), some (.inl v2), some (.inr (.inl v3)), none] [] m (n + 3) = ax_aft (fun s m2 => ax_ex (e + 3) L_X11_set 6 [some (.inr (.inr (22, 0))), some (.inl v1), some (.inl v2), some (.inr (.inl v3)), none] s m2 n) [] (ax_ex (e + 2) L_X11_no 0 (ax_entry [.inr (.inr (22, 0)), .inl (-2)] 2) [] m n) := fun n => rfl
    refine ax_gci (j := 3) (k2 := 6) (lv2 := [some (.inr (.inr (22, 0))), some (.inl v1), some (.inl v2), some (.inr (.inl v3)), none]) (rest := []) ((R_X11_no (by omega) q5)) s8 ?_
    obtain rfl := Option.some.inj h
    exact ax_rs 1 (fun n => rfl)
  · rw [if_neg c3] at h
    refine ax_gf c3 s4 ?_
    obtain ⟨r10, q9, h⟩ := ax_b_of h
    have s39 : ∀ n, ax_ex (e + 3) L_X11_set 7 [some (.inr (.inr (22, 0))), some (.inl v1), some (.inl v2), some (.inr (.inl v3)), none] [] m (n + 3) = ax_aft (fun s m2 => ax_ex (e + 3) L_X11_set 10 [some (.inr (.inr (22, 0))), some (.inl v1), some (.inl v2), some (.inr (.inl v3)), none] s m2 n) [] (ax_ex (e + 2) L_X11_isRow 0 (ax_entry [.inr (.inr (22, 0)), .inl v1] 2) [] m n) := fun n => rfl
    refine ax_gci (j := 3) (k2 := 10) (lv2 := [some (.inr (.inr (22, 0))), some (.inl v1), some (.inl v2), some (.inr (.inl v3)), none]) (rest := []) ((R_X11_isRow (by omega) q9)) s39 ?_
    have s12 : ∀ n, ax_ex (e + 3) L_X11_set 10 [some (.inr (.inr (22, 0))), some (.inl v1), some (.inl v2), some (.inr (.inl v3)), none] [.inl r10] m (n + 1) = if r10 = 0 then ax_ex (e + 3) L_X11_set 11 [some (.inr (.inr (22, 0))), some (.inl v1), some (.inl v2), some (.inr (.inl v3)), none] [] m n else ax_ex (e + 3) L_X11_set 17 [some (.inr (.inr (22, 0))), some (.inl v1), some (.inl v2), some (.inr (.inl v3)), none] [] m n := fun n => rfl
    by_cases c11 : r10 = 0
    · rw [if_pos c11] at h
      refine ax_gt c11 s12 ?_
      obtain ⟨r14, q13, h⟩ := ax_b_of h
      have s19 : ∀ n, ax_ex (e + 3) L_X11_set 11 [some (.inr (.inr (22, 0))), some (.inl v1), some (.inl v2), some (.inr (.inl v3)), none] [] m (n + 4) = ax_aft (fun s m2 => ax_ex (e + 3) L_X11_set 15 [some (.inr (.inr (22, 0))), some (.inl v1), some (.inl v2), some (.inr (.inl v3)), none] s m2 n) [.inr (.inr (22, 0))] (ax_ex (e + 2) L_X11_noRow 0 (ax_entry [.inr (.inr (22, 0)), .inl v1] 2) [] m n) := fun n => rfl
      refine ax_gci (j := 4) (k2 := 15) (lv2 := [some (.inr (.inr (22, 0))), some (.inl v1), some (.inl v2), some (.inr (.inl v3)), none]) (rest := [.inr (.inr (22, 0))]) ((R_X11_noRow (by omega) q13)) s19 ?_
      obtain ⟨r16, m17, q15, h⟩ := ax_b2_of h
      have s18 : ∀ n, ax_ex (e + 3) L_X11_set 15 [some (.inr (.inr (22, 0))), some (.inl v1), some (.inl v2), some (.inr (.inl v3)), none] [.inl r14, .inr (.inr (22, 0))] m (n + 1) = ax_aft (fun s m2 => ax_ex (e + 3) L_X11_set 16 [some (.inr (.inr (22, 0))), some (.inl v1), some (.inl v2), some (.inr (.inl v3)), none] s m2 n) [] (ax_ex (e + 2) L_X11_no 0 (ax_entry [.inr (.inr (22, 0)), .inl r14] 2) [] m n) := fun n => rfl
      refine ax_gci (j := 1) (k2 := 16) (lv2 := [some (.inr (.inr (22, 0))), some (.inl v1), some (.inl v2), some (.inr (.inl v3)), none]) (rest := []) ((R_X11_no (by omega) q15)) s18 ?_
      obtain rfl := Option.some.inj h
      exact ax_rs 1 (fun n => rfl)
    · rw [if_neg c11] at h
      refine ax_gf c11 s12 ?_
      have s21 : ∀ n, ax_ex (e + 3) L_X11_set 17 [some (.inr (.inr (22, 0))), some (.inl v1), some (.inl v2), some (.inr (.inl v3)), none] [] m (n + 6) = if ax_ok v1 8 = true then ax_ex (e + 3) L_X11_set 23 [some (.inr (.inr (22, 0))), some (.inl v1), some (.inl v2), some (.inr (.inl v3)), none] [.inl (m.1 32 0 v1.toNatClampNeg), .inl 0, .inl v2] m n else none := fun n => rfl
      by_cases c20 : ax_ok v1 8 = true
      · rw [if_pos c20] at h
        refine ax_gt c20 s21 ?_
        obtain ⟨r23, q22, h⟩ := ax_b_of h
        have s38 : ∀ n, ax_ex (e + 3) L_X11_set 23 [some (.inr (.inr (22, 0))), some (.inl v1), some (.inl v2), some (.inr (.inl v3)), none] [.inl (m.1 32 0 v1.toNatClampNeg), .inl 0, .inl v2] m (n + 3) = ax_aft (fun s m2 => ax_ex (e + 3) L_X11_set 26 [some (.inr (.inr (22, 0))), some (.inl v1), some (.inl v2), some (.inr (.inl v3)), none] s m2 n) [] (ax_ex (e + 2) L_X11_within 0 (ax_entry [.inl v2, .inl 0, .inl ((m.1 32 0 v1.toNatClampNeg) - 1)] 3) [] m n) := fun n => rfl
        refine ax_gci (j := 3) (k2 := 26) (lv2 := [some (.inr (.inr (22, 0))), some (.inl v1), some (.inl v2), some (.inr (.inl v3)), none]) (rest := []) ((R_X11_within (by omega) q22)) s38 ?_
        have s25 : ∀ n, ax_ex (e + 3) L_X11_set 26 [some (.inr (.inr (22, 0))), some (.inl v1), some (.inl v2), some (.inr (.inl v3)), none] [.inl r23] m (n + 1) = if r23 = 0 then ax_ex (e + 3) L_X11_set 27 [some (.inr (.inr (22, 0))), some (.inl v1), some (.inl v2), some (.inr (.inl v3)), none] [] m n else ax_ex (e + 3) L_X11_set 31 [some (.inr (.inr (22, 0))), some (.inl v1), some (.inl v2), some (.inr (.inl v3)), none] [] m n := fun n => rfl
        by_cases c24 : r23 = 0
        · rw [if_pos c24] at h
          refine ax_gt c24 s25 ?_
          obtain ⟨r27, m28, q26, h⟩ := ax_b2_of h
          have s29 : ∀ n, ax_ex (e + 3) L_X11_set 27 [some (.inr (.inr (22, 0))), some (.inl v1), some (.inl v2), some (.inr (.inl v3)), none] [] m (n + 3) = ax_aft (fun s m2 => ax_ex (e + 3) L_X11_set 30 [some (.inr (.inr (22, 0))), some (.inl v1), some (.inl v2), some (.inr (.inl v3)), none] s m2 n) [] (ax_ex (e + 2) L_X11_no 0 (ax_entry [.inr (.inr (22, 0)), .inl (-2)] 2) [] m n) := fun n => rfl
          refine ax_gci (j := 3) (k2 := 30) (lv2 := [some (.inr (.inr (22, 0))), some (.inl v1), some (.inl v2), some (.inr (.inl v3)), none]) (rest := []) ((R_X11_no (by omega) q26)) s29 ?_
          obtain rfl := Option.some.inj h
          exact ax_rs 1 (fun n => rfl)
        · rw [if_neg c24] at h
          refine ax_gf c24 s25 ?_
          have s31 : ∀ n, ax_ex (e + 3) L_X11_set 31 [some (.inr (.inr (22, 0))), some (.inl v1), some (.inl v2), some (.inr (.inl v3)), none] [] m (n + 11) = if ax_ok v1 8 = true then ax_ex (e + 3) L_X11_set 42 [some (.inr (.inr (22, 0))), some (.inl v1), some (.inl v2), some (.inr (.inl v3)), none] [.inl (m.1 31 0 v1.toNatClampNeg), .inl ((40 * v1) + v2), .inr (.inr (33, 0))] m n else none := fun n => rfl
          by_cases c30 : ax_ok v1 8 = true
          · rw [if_pos c30] at h
            refine ax_gt c30 s31 ?_
            obtain ⟨r33, q32, h⟩ := ax_b_of h
            have s37 : ∀ n, ax_ex (e + 3) L_X11_set 42 [some (.inr (.inr (22, 0))), some (.inl v1), some (.inl v2), some (.inr (.inl v3)), none] [.inl (m.1 31 0 v1.toNatClampNeg), .inl ((40 * v1) + v2), .inr (.inr (33, 0))] m (n + 2) = ax_aft (fun s m2 => ax_ex (e + 3) L_X11_set 44 [some (.inr (.inr (22, 0))), some (.inl v1), some (.inl v2), some (.inr (.inl v3)), none] s m2 n) [.inl ((40 * v1) + v2), .inr (.inr (33, 0))] (ax_ex (e + 2) L_X11_kept 0 (ax_entry [.inl (m.1 31 0 v1.toNatClampNeg), .inr (.inl v3)] 3) [] m n) := fun n => rfl
            refine ax_gcl (j := 2) (k2 := 44) (lv2 := [some (.inr (.inr (22, 0))), some (.inl v1), some (.inl v2), some (.inr (.inl v3)), none]) (rest := [.inl ((40 * v1) + v2), .inr (.inr (33, 0))]) ((R_X11_kept (by omega) q32)) s37 ?_
            obtain ⟨y34, hy34⟩ : ∃ y : Int32, y = ((40 * v1) + v2) := ⟨_, rfl⟩
            rw [← hy34] at h ⊢
            have s36 : ∀ n, ax_ex (e + 3) L_X11_set 44 [some (.inr (.inr (22, 0))), some (.inl v1), some (.inl v2), some (.inr (.inl v3)), none] [.inr (.inl r33), .inl y34, .inr (.inr (33, 0))] m (n + 1) = if ax_ok y34 320 = true then ax_ex (e + 3) L_X11_set 45 [some (.inr (.inr (22, 0))), some (.inl v1), some (.inl v2), some (.inr (.inl v3)), none] [] (ax_ul m 33 0 y34.toNatClampNeg r33) n else none := fun n => rfl
            by_cases c35 : ax_ok y34 320 = true
            · rw [if_pos c35] at h
              refine ax_gt c35 s36 ?_
              obtain rfl := Option.some.inj h
              exact ax_rs 2 (fun n => rfl)
            · rw [if_neg c35] at h
              cases h
          · rw [if_neg c30] at h
            cases h
      · rw [if_neg c20] at h
        cases h
def F_X11_copy_L128 : Nat → ax_M → Int32 → Int32 → Int32 → Int32 → Int32 → Int32 → Option (Int32 × ax_M)
  | 0, _, _, _, _, _, _, _ => none
  | n + 1, m, v1, v2, v3, v4, v5, v6 => if v5 ≤ v6 then (some (v5, m)) else (if ax_ok (((40 * v1) + v3) + v6) 320 = true then (if ax_ok (((40 * v2) + v4) + v6) 320 = true then (F_X11_copy_L128 n (ax_ul m 33 0 (((40 * v2) + v4) + v6).toNatClampNeg (m.2 33 0 (((40 * v1) + v3) + v6).toNatClampNeg)) v1 v2 v3 v4 v5 (v6 + 1)) else (none)) else (none))
set_option maxRecDepth 20000 in
set_option maxHeartbeats 4000000 in
theorem R_X11_copy_L128 {e : Nat} {v1 : Int32} {v2 : Int32} {v3 : Int32} {v4 : Int32} {v5 : Int32} : ∀ (n : Nat) (m : ax_M) (v6 : Int32) (q : (Int32 × ax_M)), F_X11_copy_L128 n m v1 v2 v3 v4 v5 v6 = some q → ax_Ru (e + 3) L_X11_copy 128 [some (.inr (.inr (22, 0))), some (.inl v1), some (.inl v2), some (.inl v3), some (.inl v4), some (.inl v5), some (.inl v6)] [] m (some (.inl q.1), q.2) := by
  intro n
  induction n with
  | zero =>
    intro m v6 q h
    cases h
  | succ n ih =>
    intro m v6 q h
    rw [F_X11_copy_L128] at h
    have s86 : ∀ n, ax_ex (e + 3) L_X11_copy 128 [some (.inr (.inr (22, 0))), some (.inl v1), some (.inl v2), some (.inl v3), some (.inl v4), some (.inl v5), some (.inl v6)] [] m (n + 3) = if v5 ≤ v6 then ax_ex (e + 3) L_X11_copy 153 [some (.inr (.inr (22, 0))), some (.inl v1), some (.inl v2), some (.inl v3), some (.inl v4), some (.inl v5), some (.inl v6)] [] m n else ax_ex (e + 3) L_X11_copy 131 [some (.inr (.inr (22, 0))), some (.inl v1), some (.inl v2), some (.inl v3), some (.inl v4), some (.inl v5), some (.inl v6)] [] m n := fun n => rfl
    by_cases c85 : v5 ≤ v6
    · rw [if_pos c85] at h
      refine ax_gt c85 s86 ?_
      obtain rfl := Option.some.inj h
      exact ax_rs 2 (fun n => rfl)
    · rw [if_neg c85] at h
      refine ax_gf c85 s86 ?_
      refine ax_go (j := 18) (k2 := 149) (lv2 := [some (.inr (.inr (22, 0))), some (.inl v1), some (.inl v2), some (.inl v3), some (.inl v4), some (.inl v5), some (.inl v6)]) (st2 := [.inl (((40 * v1) + v3) + v6), .inr (.inr (33, 0)), .inl (((40 * v2) + v4) + v6), .inr (.inr (33, 0))]) (m2 := m) (fun n => rfl) ?_
      obtain ⟨y87, hy87⟩ : ∃ y : Int32, y = (((40 * v1) + v3) + v6) := ⟨_, rfl⟩
      rw [← hy87] at h ⊢
      have s89 : ∀ n, ax_ex (e + 3) L_X11_copy 149 [some (.inr (.inr (22, 0))), some (.inl v1), some (.inl v2), some (.inl v3), some (.inl v4), some (.inl v5), some (.inl v6)] [.inl y87, .inr (.inr (33, 0)), .inl (((40 * v2) + v4) + v6), .inr (.inr (33, 0))] m (n + 1) = if ax_ok y87 320 = true then ax_ex (e + 3) L_X11_copy 150 [some (.inr (.inr (22, 0))), some (.inl v1), some (.inl v2), some (.inl v3), some (.inl v4), some (.inl v5), some (.inl v6)] [.inr (.inl (m.2 33 0 y87.toNatClampNeg)), .inl (((40 * v2) + v4) + v6), .inr (.inr (33, 0))] m n else none := fun n => rfl
      by_cases c88 : ax_ok y87 320 = true
      · rw [if_pos c88] at h
        refine ax_gt c88 s89 ?_
        obtain ⟨y90, hy90⟩ : ∃ y : Int32, y = (((40 * v2) + v4) + v6) := ⟨_, rfl⟩
        rw [← hy90] at h ⊢
        have s92 : ∀ n, ax_ex (e + 3) L_X11_copy 150 [some (.inr (.inr (22, 0))), some (.inl v1), some (.inl v2), some (.inl v3), some (.inl v4), some (.inl v5), some (.inl v6)] [.inr (.inl (m.2 33 0 y87.toNatClampNeg)), .inl y90, .inr (.inr (33, 0))] m (n + 1) = if ax_ok y90 320 = true then ax_ex (e + 3) L_X11_copy 151 [some (.inr (.inr (22, 0))), some (.inl v1), some (.inl v2), some (.inl v3), some (.inl v4), some (.inl v5), some (.inl v6)] [] (ax_ul m 33 0 y90.toNatClampNeg (m.2 33 0 y87.toNatClampNeg)) n else none := fun n => rfl
        by_cases c91 : ax_ok y90 320 = true
        · rw [if_pos c91] at h
          refine ax_gt c91 s92 ?_
          refine ax_go (j := 2) (k2 := 128) (lv2 := [some (.inr (.inr (22, 0))), some (.inl v1), some (.inl v2), some (.inl v3), some (.inl v4), some (.inl v5), some (.inl (v6 + 1))]) (st2 := []) (m2 := (ax_ul m 33 0 y90.toNatClampNeg (m.2 33 0 y87.toNatClampNeg))) (fun n => rfl) ?_
          exact ax_fg (lv2 := [some (.inr (.inr (22, 0))), some (.inl v1), some (.inl v2), some (.inl v3), some (.inl v4), some (.inl v5), some (.inl (v6 + 1))]) ⟨rfl, rfl, rfl, rfl, rfl, rfl, rfl, trivial⟩ (ih (ax_ul m 33 0 y90.toNatClampNeg (m.2 33 0 y87.toNatClampNeg)) (v6 + 1) _ h)
        · rw [if_neg c91] at h
          cases h
      · rw [if_neg c88] at h
        cases h
def F_X11_copy_L101 : Nat → ax_M → Int32 → Int32 → Int32 → Int32 → Int32 → Int32 → Option (Int32 × ax_M)
  | 0, _, _, _, _, _, _, _ => none
  | n + 1, m, v1, v2, v3, v4, v5, v6 => if v6 < 0 then (some (v5, m)) else (if ax_ok (((40 * v1) + v3) + v6) 320 = true then (if ax_ok (((40 * v2) + v4) + v6) 320 = true then (F_X11_copy_L101 n (ax_ul m 33 0 (((40 * v2) + v4) + v6).toNatClampNeg (m.2 33 0 (((40 * v1) + v3) + v6).toNatClampNeg)) v1 v2 v3 v4 v5 (v6 + (-1))) else (none)) else (none))
set_option maxRecDepth 20000 in
set_option maxHeartbeats 4000000 in
theorem R_X11_copy_L101 {e : Nat} {v1 : Int32} {v2 : Int32} {v3 : Int32} {v4 : Int32} {v5 : Int32} : ∀ (n : Nat) (m : ax_M) (v6 : Int32) (q : (Int32 × ax_M)), F_X11_copy_L101 n m v1 v2 v3 v4 v5 v6 = some q → ax_Ru (e + 3) L_X11_copy 101 [some (.inr (.inr (22, 0))), some (.inl v1), some (.inl v2), some (.inl v3), some (.inl v4), some (.inl v5), some (.inl v6)] [] m (some (.inl q.1), q.2) := by
  intro n
  induction n with
  | zero =>
    intro m v6 q h
    cases h
  | succ n ih =>
    intro m v6 q h
    rw [F_X11_copy_L101] at h
    have s95 : ∀ n, ax_ex (e + 3) L_X11_copy 101 [some (.inr (.inr (22, 0))), some (.inl v1), some (.inl v2), some (.inl v3), some (.inl v4), some (.inl v5), some (.inl v6)] [] m (n + 2) = if v6 < 0 then ax_ex (e + 3) L_X11_copy 125 [some (.inr (.inr (22, 0))), some (.inl v1), some (.inl v2), some (.inl v3), some (.inl v4), some (.inl v5), some (.inl v6)] [] m n else ax_ex (e + 3) L_X11_copy 103 [some (.inr (.inr (22, 0))), some (.inl v1), some (.inl v2), some (.inl v3), some (.inl v4), some (.inl v5), some (.inl v6)] [] m n := fun n => rfl
    by_cases c94 : v6 < 0
    · rw [if_pos c94] at h
      refine ax_gt c94 s95 ?_
      obtain rfl := Option.some.inj h
      exact ax_rs 3 (fun n => rfl)
    · rw [if_neg c94] at h
      refine ax_gf c94 s95 ?_
      refine ax_go (j := 18) (k2 := 121) (lv2 := [some (.inr (.inr (22, 0))), some (.inl v1), some (.inl v2), some (.inl v3), some (.inl v4), some (.inl v5), some (.inl v6)]) (st2 := [.inl (((40 * v1) + v3) + v6), .inr (.inr (33, 0)), .inl (((40 * v2) + v4) + v6), .inr (.inr (33, 0))]) (m2 := m) (fun n => rfl) ?_
      obtain ⟨y96, hy96⟩ : ∃ y : Int32, y = (((40 * v1) + v3) + v6) := ⟨_, rfl⟩
      rw [← hy96] at h ⊢
      have s98 : ∀ n, ax_ex (e + 3) L_X11_copy 121 [some (.inr (.inr (22, 0))), some (.inl v1), some (.inl v2), some (.inl v3), some (.inl v4), some (.inl v5), some (.inl v6)] [.inl y96, .inr (.inr (33, 0)), .inl (((40 * v2) + v4) + v6), .inr (.inr (33, 0))] m (n + 1) = if ax_ok y96 320 = true then ax_ex (e + 3) L_X11_copy 122 [some (.inr (.inr (22, 0))), some (.inl v1), some (.inl v2), some (.inl v3), some (.inl v4), some (.inl v5), some (.inl v6)] [.inr (.inl (m.2 33 0 y96.toNatClampNeg)), .inl (((40 * v2) + v4) + v6), .inr (.inr (33, 0))] m n else none := fun n => rfl
      by_cases c97 : ax_ok y96 320 = true
      · rw [if_pos c97] at h
        refine ax_gt c97 s98 ?_
        obtain ⟨y99, hy99⟩ : ∃ y : Int32, y = (((40 * v2) + v4) + v6) := ⟨_, rfl⟩
        rw [← hy99] at h ⊢
        have s101 : ∀ n, ax_ex (e + 3) L_X11_copy 122 [some (.inr (.inr (22, 0))), some (.inl v1), some (.inl v2), some (.inl v3), some (.inl v4), some (.inl v5), some (.inl v6)] [.inr (.inl (m.2 33 0 y96.toNatClampNeg)), .inl y99, .inr (.inr (33, 0))] m (n + 1) = if ax_ok y99 320 = true then ax_ex (e + 3) L_X11_copy 123 [some (.inr (.inr (22, 0))), some (.inl v1), some (.inl v2), some (.inl v3), some (.inl v4), some (.inl v5), some (.inl v6)] [] (ax_ul m 33 0 y99.toNatClampNeg (m.2 33 0 y96.toNatClampNeg)) n else none := fun n => rfl
        by_cases c100 : ax_ok y99 320 = true
        · rw [if_pos c100] at h
          refine ax_gt c100 s101 ?_
          refine ax_go (j := 2) (k2 := 101) (lv2 := [some (.inr (.inr (22, 0))), some (.inl v1), some (.inl v2), some (.inl v3), some (.inl v4), some (.inl v5), some (.inl (v6 + (-1)))]) (st2 := []) (m2 := (ax_ul m 33 0 y99.toNatClampNeg (m.2 33 0 y96.toNatClampNeg))) (fun n => rfl) ?_
          exact ax_fg (lv2 := [some (.inr (.inr (22, 0))), some (.inl v1), some (.inl v2), some (.inl v3), some (.inl v4), some (.inl v5), some (.inl (v6 + (-1)))]) ⟨rfl, rfl, rfl, rfl, rfl, rfl, rfl, trivial⟩ (ih (ax_ul m 33 0 y99.toNatClampNeg (m.2 33 0 y96.toNatClampNeg)) (v6 + (-1)) _ h)
        · rw [if_neg c100] at h
          cases h
      · rw [if_neg c97] at h
        cases h
def F_X11_copy (m : ax_M) (v1 : Int32) (v2 : Int32) (v3 : Int32) (v4 : Int32) (v5 : Int32) : Option (Int32 × ax_M) := ax_b (F_X11_isShelf v1) (fun r2 => if r2 = 0 then (ax_b2 (F_X11_no m (-2)) (fun r6 m7 => some (r6, m7))) else (ax_b (F_X11_isShelf v2) (fun r10 => if r10 = 0 then (ax_b2 (F_X11_no m (-2)) (fun r14 m15 => some (r14, m15))) else (if ax_ok v1 8 = true then (if 10 ≤ (m.1 31 0 v1.toNatClampNeg) then (ax_b2 (F_X11_no m (-3)) (fun r22 m23 => some (r22, m23))) else (if ax_ok v2 8 = true then (if 10 ≤ (m.1 31 0 v2.toNatClampNeg) then (ax_b2 (F_X11_no m (-3)) (fun r30 m31 => some (r30, m31))) else (ax_b (F_X11_isRow m v1) (fun r34 => if r34 = 0 then (if ax_ok v1 8 = true then (if (m.1 31 0 v1.toNatClampNeg) < 0 then (ax_b2 (F_X11_no m (-4)) (fun r42 m43 => some (r42, m43))) else (if ax_ok v2 8 = true then (if 0 ≤ (m.1 31 0 v2.toNatClampNeg) then (if v5 < 0 then (ax_b2 (F_X11_no m (-2)) (fun r52 m53 => some (r52, m53))) else (if v3 < 0 then (ax_b2 (F_X11_no m (-2)) (fun r58 m59 => some (r58, m59))) else (if v4 < 0 then (ax_b2 (F_X11_no m (-2)) (fun r64 m65 => some (r64, m65))) else (if ax_ok v1 8 = true then (if 0 < (lg_cmp (v3.toInt64 + v5.toInt64) ((m.1 32 0 v1.toNatClampNeg).toInt64)) then (ax_b2 (F_X11_no m (-2)) (fun r73 m74 => some (r73, m74))) else (if ax_ok v2 8 = true then (if (lg_cmp (v4.toInt64 + v5.toInt64) ((m.1 32 0 v2.toNatClampNeg).toInt64)) ≤ 0 then (if v1 = v2 then (if v4 ≤ v3 then (F_X11_copy_L128 ax_FU m v1 v2 v3 v4 v5 0) else (F_X11_copy_L101 ax_FU m v1 v2 v3 v4 v5 (v5 - 1))) else (F_X11_copy_L128 ax_FU m v1 v2 v3 v4 v5 0)) else (ax_b2 (F_X11_no m (-2)) (fun r105 m106 => some (r105, m106)))) else (none))) else (none))))) else (ax_b2 (F_X11_no m (-4)) (fun r109 m110 => some (r109, m110)))) else (none))) else (none)) else (ax_b (F_X11_isRow m v2) (fun r113 => if r113 = 0 then (if ax_ok v1 8 = true then (if (m.1 31 0 v1.toNatClampNeg) < 0 then (ax_b2 (F_X11_no m (-4)) (fun r121 m122 => some (r121, m122))) else (if ax_ok v2 8 = true then (if 0 ≤ (m.1 31 0 v2.toNatClampNeg) then (if v5 < 0 then (ax_b2 (F_X11_no m (-2)) (fun r131 m132 => some (r131, m132))) else (if v3 < 0 then (ax_b2 (F_X11_no m (-2)) (fun r137 m138 => some (r137, m138))) else (if v4 < 0 then (ax_b2 (F_X11_no m (-2)) (fun r143 m144 => some (r143, m144))) else (if ax_ok v1 8 = true then (if 0 < (lg_cmp (v3.toInt64 + v5.toInt64) ((m.1 32 0 v1.toNatClampNeg).toInt64)) then (ax_b2 (F_X11_no m (-2)) (fun r152 m153 => some (r152, m153))) else (if ax_ok v2 8 = true then (if (lg_cmp (v4.toInt64 + v5.toInt64) ((m.1 32 0 v2.toNatClampNeg).toInt64)) ≤ 0 then (if v1 = v2 then (if v4 ≤ v3 then (F_X11_copy_L128 ax_FU m v1 v2 v3 v4 v5 0) else (F_X11_copy_L101 ax_FU m v1 v2 v3 v4 v5 (v5 - 1))) else (F_X11_copy_L128 ax_FU m v1 v2 v3 v4 v5 0)) else (ax_b2 (F_X11_no m (-2)) (fun r168 m169 => some (r168, m169)))) else (none))) else (none))))) else (ax_b2 (F_X11_no m (-4)) (fun r172 m173 => some (r172, m173)))) else (none))) else (none)) else (if ax_ok v1 8 = true then (if ax_ok v2 8 = true then (if (m.1 31 0 v1.toNatClampNeg) = (m.1 31 0 v2.toNatClampNeg) then (if ax_ok v1 8 = true then (if (m.1 31 0 v1.toNatClampNeg) < 0 then (ax_b2 (F_X11_no m (-4)) (fun r186 m187 => some (r186, m187))) else (if ax_ok v2 8 = true then (if 0 ≤ (m.1 31 0 v2.toNatClampNeg) then (if v5 < 0 then (ax_b2 (F_X11_no m (-2)) (fun r196 m197 => some (r196, m197))) else (if v3 < 0 then (ax_b2 (F_X11_no m (-2)) (fun r202 m203 => some (r202, m203))) else (if v4 < 0 then (ax_b2 (F_X11_no m (-2)) (fun r208 m209 => some (r208, m209))) else (if ax_ok v1 8 = true then (if 0 < (lg_cmp (v3.toInt64 + v5.toInt64) ((m.1 32 0 v1.toNatClampNeg).toInt64)) then (ax_b2 (F_X11_no m (-2)) (fun r217 m218 => some (r217, m218))) else (if ax_ok v2 8 = true then (if (lg_cmp (v4.toInt64 + v5.toInt64) ((m.1 32 0 v2.toNatClampNeg).toInt64)) ≤ 0 then (if v1 = v2 then (if v4 ≤ v3 then (F_X11_copy_L128 ax_FU m v1 v2 v3 v4 v5 0) else (F_X11_copy_L101 ax_FU m v1 v2 v3 v4 v5 (v5 - 1))) else (F_X11_copy_L128 ax_FU m v1 v2 v3 v4 v5 0)) else (ax_b2 (F_X11_no m (-2)) (fun r233 m234 => some (r233, m234)))) else (none))) else (none))))) else (ax_b2 (F_X11_no m (-4)) (fun r237 m238 => some (r237, m238)))) else (none))) else (none)) else (ax_b2 (F_X11_no m (-3)) (fun r241 m242 => some (r241, m242)))) else (none)) else (none))))))) else (none))) else (none)))))
set_option maxRecDepth 20000 in
set_option maxHeartbeats 4000000 in
theorem R_X11_copy {d : Nat} (hd : 3 ≤ d) {m : ax_M} {v1 : Int32} {v2 : Int32} {v3 : Int32} {v4 : Int32} {v5 : Int32} {q : (Int32 × ax_M)} (h : F_X11_copy m v1 v2 v3 v4 v5 = some q) : ax_Ru d L_X11_copy 0 (ax_entry [.inr (.inr (22, 0)), .inl v1, .inl v2, .inl v3, .inl v4, .inl v5] 7) [] m (some (.inl q.1), q.2) := by
  obtain ⟨e, rfl⟩ : ∃ e, d = e + 3 := ⟨d - 3, by omega⟩
  unfold F_X11_copy at h
  obtain ⟨r2, q1, h⟩ := ax_b_of h
  have s247 : ∀ n, ax_ex (e + 3) L_X11_copy 0 (ax_entry [.inr (.inr (22, 0)), .inl v1, .inl v2, .inl v3, .inl v4, .inl v5] 7) [] m (n + 2) = ax_aft (fun s m2 => ax_ex (e + 3) L_X11_copy 2 [some (.inr (.inr (22, 0))), some (.inl v1), some (.inl v2), some (.inl v3), some (.inl v4), some (.inl v5), none] s m2 n) [] (ax_ex (e + 2) L_X11_isShelf 0 (ax_entry [.inl v1] 1) [] m n) := fun n => rfl
  refine ax_gci (j := 2) (k2 := 2) (lv2 := [some (.inr (.inr (22, 0))), some (.inl v1), some (.inl v2), some (.inl v3), some (.inl v4), some (.inl v5), none]) (rest := []) ((R_X11_isShelf (by omega) q1)) s247 ?_
  have s4 : ∀ n, ax_ex (e + 3) L_X11_copy 2 [some (.inr (.inr (22, 0))), some (.inl v1), some (.inl v2), some (.inl v3), some (.inl v4), some (.inl v5), none] [.inl r2] m (n + 1) = if r2 = 0 then ax_ex (e + 3) L_X11_copy 6 [some (.inr (.inr (22, 0))), some (.inl v1), some (.inl v2), some (.inl v3), some (.inl v4), some (.inl v5), none] [] m n else ax_ex (e + 3) L_X11_copy 3 [some (.inr (.inr (22, 0))), some (.inl v1), some (.inl v2), some (.inl v3), some (.inl v4), some (.inl v5), none] [] m n := fun n => rfl
  by_cases c3 : r2 = 0
  · rw [if_pos c3] at h
    refine ax_gt c3 s4 ?_
    obtain ⟨r6, m7, q5, h⟩ := ax_b2_of h
    have s8 : ∀ n, ax_ex (e + 3) L_X11_copy 6 [some (.inr (.inr (22, 0))), some (.inl v1), some (.inl v2), some (.inl v3), some (.inl v4), some (.inl v5), none] [] m (n + 3) = ax_aft (fun s m2 => ax_ex (e + 3) L_X11_copy 9 [some (.inr (.inr (22, 0))), some (.inl v1), some (.inl v2), some (.inl v3), some (.inl v4), some (.inl v5), none] s m2 n) [] (ax_ex (e + 2) L_X11_no 0 (ax_entry [.inr (.inr (22, 0)), .inl (-2)] 2) [] m n) := fun n => rfl
    refine ax_gci (j := 3) (k2 := 9) (lv2 := [some (.inr (.inr (22, 0))), some (.inl v1), some (.inl v2), some (.inl v3), some (.inl v4), some (.inl v5), none]) (rest := []) ((R_X11_no (by omega) q5)) s8 ?_
    obtain rfl := Option.some.inj h
    exact ax_rs 1 (fun n => rfl)
  · rw [if_neg c3] at h
    refine ax_gf c3 s4 ?_
    obtain ⟨r10, q9, h⟩ := ax_b_of h
    have s246 : ∀ n, ax_ex (e + 3) L_X11_copy 3 [some (.inr (.inr (22, 0))), some (.inl v1), some (.inl v2), some (.inl v3), some (.inl v4), some (.inl v5), none] [] m (n + 2) = ax_aft (fun s m2 => ax_ex (e + 3) L_X11_copy 5 [some (.inr (.inr (22, 0))), some (.inl v1), some (.inl v2), some (.inl v3), some (.inl v4), some (.inl v5), none] s m2 n) [] (ax_ex (e + 2) L_X11_isShelf 0 (ax_entry [.inl v2] 1) [] m n) := fun n => rfl
    refine ax_gci (j := 2) (k2 := 5) (lv2 := [some (.inr (.inr (22, 0))), some (.inl v1), some (.inl v2), some (.inl v3), some (.inl v4), some (.inl v5), none]) (rest := []) ((R_X11_isShelf (by omega) q9)) s246 ?_
    have s12 : ∀ n, ax_ex (e + 3) L_X11_copy 5 [some (.inr (.inr (22, 0))), some (.inl v1), some (.inl v2), some (.inl v3), some (.inl v4), some (.inl v5), none] [.inl r10] m (n + 1) = if r10 = 0 then ax_ex (e + 3) L_X11_copy 6 [some (.inr (.inr (22, 0))), some (.inl v1), some (.inl v2), some (.inl v3), some (.inl v4), some (.inl v5), none] [] m n else ax_ex (e + 3) L_X11_copy 10 [some (.inr (.inr (22, 0))), some (.inl v1), some (.inl v2), some (.inl v3), some (.inl v4), some (.inl v5), none] [] m n := fun n => rfl
    by_cases c11 : r10 = 0
    · rw [if_pos c11] at h
      refine ax_gt c11 s12 ?_
      obtain ⟨r14, m15, q13, h⟩ := ax_b2_of h
      have s16 : ∀ n, ax_ex (e + 3) L_X11_copy 6 [some (.inr (.inr (22, 0))), some (.inl v1), some (.inl v2), some (.inl v3), some (.inl v4), some (.inl v5), none] [] m (n + 3) = ax_aft (fun s m2 => ax_ex (e + 3) L_X11_copy 9 [some (.inr (.inr (22, 0))), some (.inl v1), some (.inl v2), some (.inl v3), some (.inl v4), some (.inl v5), none] s m2 n) [] (ax_ex (e + 2) L_X11_no 0 (ax_entry [.inr (.inr (22, 0)), .inl (-2)] 2) [] m n) := fun n => rfl
      refine ax_gci (j := 3) (k2 := 9) (lv2 := [some (.inr (.inr (22, 0))), some (.inl v1), some (.inl v2), some (.inl v3), some (.inl v4), some (.inl v5), none]) (rest := []) ((R_X11_no (by omega) q13)) s16 ?_
      obtain rfl := Option.some.inj h
      exact ax_rs 1 (fun n => rfl)
    · rw [if_neg c11] at h
      refine ax_gf c11 s12 ?_
      have s18 : ∀ n, ax_ex (e + 3) L_X11_copy 10 [some (.inr (.inr (22, 0))), some (.inl v1), some (.inl v2), some (.inl v3), some (.inl v4), some (.inl v5), none] [] m (n + 4) = if ax_ok v1 8 = true then ax_ex (e + 3) L_X11_copy 14 [some (.inr (.inr (22, 0))), some (.inl v1), some (.inl v2), some (.inl v3), some (.inl v4), some (.inl v5), none] [.inl (m.1 31 0 v1.toNatClampNeg)] m n else none := fun n => rfl
      by_cases c17 : ax_ok v1 8 = true
      · rw [if_pos c17] at h
        refine ax_gt c17 s18 ?_
        have s20 : ∀ n, ax_ex (e + 3) L_X11_copy 14 [some (.inr (.inr (22, 0))), some (.inl v1), some (.inl v2), some (.inl v3), some (.inl v4), some (.inl v5), none] [.inl (m.1 31 0 v1.toNatClampNeg)] m (n + 2) = if 10 ≤ (m.1 31 0 v1.toNatClampNeg) then ax_ex (e + 3) L_X11_copy 39 [some (.inr (.inr (22, 0))), some (.inl v1), some (.inl v2), some (.inl v3), some (.inl v4), some (.inl v5), none] [] m n else ax_ex (e + 3) L_X11_copy 16 [some (.inr (.inr (22, 0))), some (.inl v1), some (.inl v2), some (.inl v3), some (.inl v4), some (.inl v5), none] [] m n := fun n => rfl
        by_cases c19 : 10 ≤ (m.1 31 0 v1.toNatClampNeg)
        · rw [if_pos c19] at h
          refine ax_gt c19 s20 ?_
          obtain ⟨r22, m23, q21, h⟩ := ax_b2_of h
          have s24 : ∀ n, ax_ex (e + 3) L_X11_copy 39 [some (.inr (.inr (22, 0))), some (.inl v1), some (.inl v2), some (.inl v3), some (.inl v4), some (.inl v5), none] [] m (n + 3) = ax_aft (fun s m2 => ax_ex (e + 3) L_X11_copy 42 [some (.inr (.inr (22, 0))), some (.inl v1), some (.inl v2), some (.inl v3), some (.inl v4), some (.inl v5), none] s m2 n) [] (ax_ex (e + 2) L_X11_no 0 (ax_entry [.inr (.inr (22, 0)), .inl (-3)] 2) [] m n) := fun n => rfl
          refine ax_gci (j := 3) (k2 := 42) (lv2 := [some (.inr (.inr (22, 0))), some (.inl v1), some (.inl v2), some (.inl v3), some (.inl v4), some (.inl v5), none]) (rest := []) ((R_X11_no (by omega) q21)) s24 ?_
          obtain rfl := Option.some.inj h
          exact ax_rs 1 (fun n => rfl)
        · rw [if_neg c19] at h
          refine ax_gf c19 s20 ?_
          have s26 : ∀ n, ax_ex (e + 3) L_X11_copy 16 [some (.inr (.inr (22, 0))), some (.inl v1), some (.inl v2), some (.inl v3), some (.inl v4), some (.inl v5), none] [] m (n + 4) = if ax_ok v2 8 = true then ax_ex (e + 3) L_X11_copy 20 [some (.inr (.inr (22, 0))), some (.inl v1), some (.inl v2), some (.inl v3), some (.inl v4), some (.inl v5), none] [.inl (m.1 31 0 v2.toNatClampNeg)] m n else none := fun n => rfl
          by_cases c25 : ax_ok v2 8 = true
          · rw [if_pos c25] at h
            refine ax_gt c25 s26 ?_
            have s28 : ∀ n, ax_ex (e + 3) L_X11_copy 20 [some (.inr (.inr (22, 0))), some (.inl v1), some (.inl v2), some (.inl v3), some (.inl v4), some (.inl v5), none] [.inl (m.1 31 0 v2.toNatClampNeg)] m (n + 2) = if 10 ≤ (m.1 31 0 v2.toNatClampNeg) then ax_ex (e + 3) L_X11_copy 39 [some (.inr (.inr (22, 0))), some (.inl v1), some (.inl v2), some (.inl v3), some (.inl v4), some (.inl v5), none] [] m n else ax_ex (e + 3) L_X11_copy 22 [some (.inr (.inr (22, 0))), some (.inl v1), some (.inl v2), some (.inl v3), some (.inl v4), some (.inl v5), none] [] m n := fun n => rfl
            by_cases c27 : 10 ≤ (m.1 31 0 v2.toNatClampNeg)
            · rw [if_pos c27] at h
              refine ax_gt c27 s28 ?_
              obtain ⟨r30, m31, q29, h⟩ := ax_b2_of h
              have s32 : ∀ n, ax_ex (e + 3) L_X11_copy 39 [some (.inr (.inr (22, 0))), some (.inl v1), some (.inl v2), some (.inl v3), some (.inl v4), some (.inl v5), none] [] m (n + 3) = ax_aft (fun s m2 => ax_ex (e + 3) L_X11_copy 42 [some (.inr (.inr (22, 0))), some (.inl v1), some (.inl v2), some (.inl v3), some (.inl v4), some (.inl v5), none] s m2 n) [] (ax_ex (e + 2) L_X11_no 0 (ax_entry [.inr (.inr (22, 0)), .inl (-3)] 2) [] m n) := fun n => rfl
              refine ax_gci (j := 3) (k2 := 42) (lv2 := [some (.inr (.inr (22, 0))), some (.inl v1), some (.inl v2), some (.inl v3), some (.inl v4), some (.inl v5), none]) (rest := []) ((R_X11_no (by omega) q29)) s32 ?_
              obtain rfl := Option.some.inj h
              exact ax_rs 1 (fun n => rfl)
            · rw [if_neg c27] at h
              refine ax_gf c27 s28 ?_
              obtain ⟨r34, q33, h⟩ := ax_b_of h
              have s245 : ∀ n, ax_ex (e + 3) L_X11_copy 22 [some (.inr (.inr (22, 0))), some (.inl v1), some (.inl v2), some (.inl v3), some (.inl v4), some (.inl v5), none] [] m (n + 3) = ax_aft (fun s m2 => ax_ex (e + 3) L_X11_copy 25 [some (.inr (.inr (22, 0))), some (.inl v1), some (.inl v2), some (.inl v3), some (.inl v4), some (.inl v5), none] s m2 n) [] (ax_ex (e + 2) L_X11_isRow 0 (ax_entry [.inr (.inr (22, 0)), .inl v1] 2) [] m n) := fun n => rfl
              refine ax_gci (j := 3) (k2 := 25) (lv2 := [some (.inr (.inr (22, 0))), some (.inl v1), some (.inl v2), some (.inl v3), some (.inl v4), some (.inl v5), none]) (rest := []) ((R_X11_isRow (by omega) q33)) s245 ?_
              have s36 : ∀ n, ax_ex (e + 3) L_X11_copy 25 [some (.inr (.inr (22, 0))), some (.inl v1), some (.inl v2), some (.inl v3), some (.inl v4), some (.inl v5), none] [.inl r34] m (n + 1) = if r34 = 0 then ax_ex (e + 3) L_X11_copy 43 [some (.inr (.inr (22, 0))), some (.inl v1), some (.inl v2), some (.inl v3), some (.inl v4), some (.inl v5), none] [] m n else ax_ex (e + 3) L_X11_copy 26 [some (.inr (.inr (22, 0))), some (.inl v1), some (.inl v2), some (.inl v3), some (.inl v4), some (.inl v5), none] [] m n := fun n => rfl
              by_cases c35 : r34 = 0
              · rw [if_pos c35] at h
                refine ax_gt c35 s36 ?_
                have s38 : ∀ n, ax_ex (e + 3) L_X11_copy 43 [some (.inr (.inr (22, 0))), some (.inl v1), some (.inl v2), some (.inl v3), some (.inl v4), some (.inl v5), none] [] m (n + 4) = if ax_ok v1 8 = true then ax_ex (e + 3) L_X11_copy 47 [some (.inr (.inr (22, 0))), some (.inl v1), some (.inl v2), some (.inl v3), some (.inl v4), some (.inl v5), none] [.inl (m.1 31 0 v1.toNatClampNeg)] m n else none := fun n => rfl
                by_cases c37 : ax_ok v1 8 = true
                · rw [if_pos c37] at h
                  refine ax_gt c37 s38 ?_
                  have s40 : ∀ n, ax_ex (e + 3) L_X11_copy 47 [some (.inr (.inr (22, 0))), some (.inl v1), some (.inl v2), some (.inl v3), some (.inl v4), some (.inl v5), none] [.inl (m.1 31 0 v1.toNatClampNeg)] m (n + 1) = if (m.1 31 0 v1.toNatClampNeg) < 0 then ax_ex (e + 3) L_X11_copy 53 [some (.inr (.inr (22, 0))), some (.inl v1), some (.inl v2), some (.inl v3), some (.inl v4), some (.inl v5), none] [] m n else ax_ex (e + 3) L_X11_copy 48 [some (.inr (.inr (22, 0))), some (.inl v1), some (.inl v2), some (.inl v3), some (.inl v4), some (.inl v5), none] [] m n := fun n => rfl
                  by_cases c39 : (m.1 31 0 v1.toNatClampNeg) < 0
                  · rw [if_pos c39] at h
                    refine ax_gt c39 s40 ?_
                    obtain ⟨r42, m43, q41, h⟩ := ax_b2_of h
                    have s44 : ∀ n, ax_ex (e + 3) L_X11_copy 53 [some (.inr (.inr (22, 0))), some (.inl v1), some (.inl v2), some (.inl v3), some (.inl v4), some (.inl v5), none] [] m (n + 3) = ax_aft (fun s m2 => ax_ex (e + 3) L_X11_copy 56 [some (.inr (.inr (22, 0))), some (.inl v1), some (.inl v2), some (.inl v3), some (.inl v4), some (.inl v5), none] s m2 n) [] (ax_ex (e + 2) L_X11_no 0 (ax_entry [.inr (.inr (22, 0)), .inl (-4)] 2) [] m n) := fun n => rfl
                    refine ax_gci (j := 3) (k2 := 56) (lv2 := [some (.inr (.inr (22, 0))), some (.inl v1), some (.inl v2), some (.inl v3), some (.inl v4), some (.inl v5), none]) (rest := []) ((R_X11_no (by omega) q41)) s44 ?_
                    obtain rfl := Option.some.inj h
                    exact ax_rs 1 (fun n => rfl)
                  · rw [if_neg c39] at h
                    refine ax_gf c39 s40 ?_
                    have s46 : ∀ n, ax_ex (e + 3) L_X11_copy 48 [some (.inr (.inr (22, 0))), some (.inl v1), some (.inl v2), some (.inl v3), some (.inl v4), some (.inl v5), none] [] m (n + 4) = if ax_ok v2 8 = true then ax_ex (e + 3) L_X11_copy 52 [some (.inr (.inr (22, 0))), some (.inl v1), some (.inl v2), some (.inl v3), some (.inl v4), some (.inl v5), none] [.inl (m.1 31 0 v2.toNatClampNeg)] m n else none := fun n => rfl
                    by_cases c45 : ax_ok v2 8 = true
                    · rw [if_pos c45] at h
                      refine ax_gt c45 s46 ?_
                      have s48 : ∀ n, ax_ex (e + 3) L_X11_copy 52 [some (.inr (.inr (22, 0))), some (.inl v1), some (.inl v2), some (.inl v3), some (.inl v4), some (.inl v5), none] [.inl (m.1 31 0 v2.toNatClampNeg)] m (n + 1) = if 0 ≤ (m.1 31 0 v2.toNatClampNeg) then ax_ex (e + 3) L_X11_copy 57 [some (.inr (.inr (22, 0))), some (.inl v1), some (.inl v2), some (.inl v3), some (.inl v4), some (.inl v5), none] [] m n else ax_ex (e + 3) L_X11_copy 53 [some (.inr (.inr (22, 0))), some (.inl v1), some (.inl v2), some (.inl v3), some (.inl v4), some (.inl v5), none] [] m n := fun n => rfl
                      by_cases c47 : 0 ≤ (m.1 31 0 v2.toNatClampNeg)
                      · rw [if_pos c47] at h
                        refine ax_gt c47 s48 ?_
                        have s50 : ∀ n, ax_ex (e + 3) L_X11_copy 57 [some (.inr (.inr (22, 0))), some (.inl v1), some (.inl v2), some (.inl v3), some (.inl v4), some (.inl v5), none] [] m (n + 2) = if v5 < 0 then ax_ex (e + 3) L_X11_copy 87 [some (.inr (.inr (22, 0))), some (.inl v1), some (.inl v2), some (.inl v3), some (.inl v4), some (.inl v5), none] [] m n else ax_ex (e + 3) L_X11_copy 59 [some (.inr (.inr (22, 0))), some (.inl v1), some (.inl v2), some (.inl v3), some (.inl v4), some (.inl v5), none] [] m n := fun n => rfl
                        by_cases c49 : v5 < 0
                        · rw [if_pos c49] at h
                          refine ax_gt c49 s50 ?_
                          obtain ⟨r52, m53, q51, h⟩ := ax_b2_of h
                          have s54 : ∀ n, ax_ex (e + 3) L_X11_copy 87 [some (.inr (.inr (22, 0))), some (.inl v1), some (.inl v2), some (.inl v3), some (.inl v4), some (.inl v5), none] [] m (n + 3) = ax_aft (fun s m2 => ax_ex (e + 3) L_X11_copy 90 [some (.inr (.inr (22, 0))), some (.inl v1), some (.inl v2), some (.inl v3), some (.inl v4), some (.inl v5), none] s m2 n) [] (ax_ex (e + 2) L_X11_no 0 (ax_entry [.inr (.inr (22, 0)), .inl (-2)] 2) [] m n) := fun n => rfl
                          refine ax_gci (j := 3) (k2 := 90) (lv2 := [some (.inr (.inr (22, 0))), some (.inl v1), some (.inl v2), some (.inl v3), some (.inl v4), some (.inl v5), none]) (rest := []) ((R_X11_no (by omega) q51)) s54 ?_
                          obtain rfl := Option.some.inj h
                          exact ax_rs 1 (fun n => rfl)
                        · rw [if_neg c49] at h
                          refine ax_gf c49 s50 ?_
                          have s56 : ∀ n, ax_ex (e + 3) L_X11_copy 59 [some (.inr (.inr (22, 0))), some (.inl v1), some (.inl v2), some (.inl v3), some (.inl v4), some (.inl v5), none] [] m (n + 2) = if v3 < 0 then ax_ex (e + 3) L_X11_copy 87 [some (.inr (.inr (22, 0))), some (.inl v1), some (.inl v2), some (.inl v3), some (.inl v4), some (.inl v5), none] [] m n else ax_ex (e + 3) L_X11_copy 61 [some (.inr (.inr (22, 0))), some (.inl v1), some (.inl v2), some (.inl v3), some (.inl v4), some (.inl v5), none] [] m n := fun n => rfl
                          by_cases c55 : v3 < 0
                          · rw [if_pos c55] at h
                            refine ax_gt c55 s56 ?_
                            obtain ⟨r58, m59, q57, h⟩ := ax_b2_of h
                            have s60 : ∀ n, ax_ex (e + 3) L_X11_copy 87 [some (.inr (.inr (22, 0))), some (.inl v1), some (.inl v2), some (.inl v3), some (.inl v4), some (.inl v5), none] [] m (n + 3) = ax_aft (fun s m2 => ax_ex (e + 3) L_X11_copy 90 [some (.inr (.inr (22, 0))), some (.inl v1), some (.inl v2), some (.inl v3), some (.inl v4), some (.inl v5), none] s m2 n) [] (ax_ex (e + 2) L_X11_no 0 (ax_entry [.inr (.inr (22, 0)), .inl (-2)] 2) [] m n) := fun n => rfl
                            refine ax_gci (j := 3) (k2 := 90) (lv2 := [some (.inr (.inr (22, 0))), some (.inl v1), some (.inl v2), some (.inl v3), some (.inl v4), some (.inl v5), none]) (rest := []) ((R_X11_no (by omega) q57)) s60 ?_
                            obtain rfl := Option.some.inj h
                            exact ax_rs 1 (fun n => rfl)
                          · rw [if_neg c55] at h
                            refine ax_gf c55 s56 ?_
                            have s62 : ∀ n, ax_ex (e + 3) L_X11_copy 61 [some (.inr (.inr (22, 0))), some (.inl v1), some (.inl v2), some (.inl v3), some (.inl v4), some (.inl v5), none] [] m (n + 2) = if v4 < 0 then ax_ex (e + 3) L_X11_copy 87 [some (.inr (.inr (22, 0))), some (.inl v1), some (.inl v2), some (.inl v3), some (.inl v4), some (.inl v5), none] [] m n else ax_ex (e + 3) L_X11_copy 63 [some (.inr (.inr (22, 0))), some (.inl v1), some (.inl v2), some (.inl v3), some (.inl v4), some (.inl v5), none] [] m n := fun n => rfl
                            by_cases c61 : v4 < 0
                            · rw [if_pos c61] at h
                              refine ax_gt c61 s62 ?_
                              obtain ⟨r64, m65, q63, h⟩ := ax_b2_of h
                              have s66 : ∀ n, ax_ex (e + 3) L_X11_copy 87 [some (.inr (.inr (22, 0))), some (.inl v1), some (.inl v2), some (.inl v3), some (.inl v4), some (.inl v5), none] [] m (n + 3) = ax_aft (fun s m2 => ax_ex (e + 3) L_X11_copy 90 [some (.inr (.inr (22, 0))), some (.inl v1), some (.inl v2), some (.inl v3), some (.inl v4), some (.inl v5), none] s m2 n) [] (ax_ex (e + 2) L_X11_no 0 (ax_entry [.inr (.inr (22, 0)), .inl (-2)] 2) [] m n) := fun n => rfl
                              refine ax_gci (j := 3) (k2 := 90) (lv2 := [some (.inr (.inr (22, 0))), some (.inl v1), some (.inl v2), some (.inl v3), some (.inl v4), some (.inl v5), none]) (rest := []) ((R_X11_no (by omega) q63)) s66 ?_
                              obtain rfl := Option.some.inj h
                              exact ax_rs 1 (fun n => rfl)
                            · rw [if_neg c61] at h
                              refine ax_gf c61 s62 ?_
                              have s68 : ∀ n, ax_ex (e + 3) L_X11_copy 63 [some (.inr (.inr (22, 0))), some (.inl v1), some (.inl v2), some (.inl v3), some (.inl v4), some (.inl v5), none] [] m (n + 9) = if ax_ok v1 8 = true then ax_ex (e + 3) L_X11_copy 72 [some (.inr (.inr (22, 0))), some (.inl v1), some (.inl v2), some (.inl v3), some (.inl v4), some (.inl v5), none] [.inl (m.1 32 0 v1.toNatClampNeg), .inr (.inl (v3.toInt64 + v5.toInt64))] m n else none := fun n => rfl
                              by_cases c67 : ax_ok v1 8 = true
                              · rw [if_pos c67] at h
                                refine ax_gt c67 s68 ?_
                                refine ax_go (j := 2) (k2 := 74) (lv2 := [some (.inr (.inr (22, 0))), some (.inl v1), some (.inl v2), some (.inl v3), some (.inl v4), some (.inl v5), none]) (st2 := [.inl (lg_cmp (v3.toInt64 + v5.toInt64) ((m.1 32 0 v1.toNatClampNeg).toInt64))]) (m2 := m) (fun n => rfl) ?_
                                obtain ⟨y69, hy69⟩ : ∃ y : Int32, y = (lg_cmp (v3.toInt64 + v5.toInt64) ((m.1 32 0 v1.toNatClampNeg).toInt64)) := ⟨_, rfl⟩
                                rw [← hy69] at h ⊢
                                have s71 : ∀ n, ax_ex (e + 3) L_X11_copy 74 [some (.inr (.inr (22, 0))), some (.inl v1), some (.inl v2), some (.inl v3), some (.inl v4), some (.inl v5), none] [.inl y69] m (n + 1) = if 0 < y69 then ax_ex (e + 3) L_X11_copy 87 [some (.inr (.inr (22, 0))), some (.inl v1), some (.inl v2), some (.inl v3), some (.inl v4), some (.inl v5), none] [] m n else ax_ex (e + 3) L_X11_copy 75 [some (.inr (.inr (22, 0))), some (.inl v1), some (.inl v2), some (.inl v3), some (.inl v4), some (.inl v5), none] [] m n := fun n => rfl
                                by_cases c70 : 0 < y69
                                · rw [if_pos c70] at h
                                  refine ax_gt c70 s71 ?_
                                  obtain ⟨r73, m74, q72, h⟩ := ax_b2_of h
                                  have s75 : ∀ n, ax_ex (e + 3) L_X11_copy 87 [some (.inr (.inr (22, 0))), some (.inl v1), some (.inl v2), some (.inl v3), some (.inl v4), some (.inl v5), none] [] m (n + 3) = ax_aft (fun s m2 => ax_ex (e + 3) L_X11_copy 90 [some (.inr (.inr (22, 0))), some (.inl v1), some (.inl v2), some (.inl v3), some (.inl v4), some (.inl v5), none] s m2 n) [] (ax_ex (e + 2) L_X11_no 0 (ax_entry [.inr (.inr (22, 0)), .inl (-2)] 2) [] m n) := fun n => rfl
                                  refine ax_gci (j := 3) (k2 := 90) (lv2 := [some (.inr (.inr (22, 0))), some (.inl v1), some (.inl v2), some (.inl v3), some (.inl v4), some (.inl v5), none]) (rest := []) ((R_X11_no (by omega) q72)) s75 ?_
                                  obtain rfl := Option.some.inj h
                                  exact ax_rs 1 (fun n => rfl)
                                · rw [if_neg c70] at h
                                  refine ax_gf c70 s71 ?_
                                  have s77 : ∀ n, ax_ex (e + 3) L_X11_copy 75 [some (.inr (.inr (22, 0))), some (.inl v1), some (.inl v2), some (.inl v3), some (.inl v4), some (.inl v5), none] [] m (n + 9) = if ax_ok v2 8 = true then ax_ex (e + 3) L_X11_copy 84 [some (.inr (.inr (22, 0))), some (.inl v1), some (.inl v2), some (.inl v3), some (.inl v4), some (.inl v5), none] [.inl (m.1 32 0 v2.toNatClampNeg), .inr (.inl (v4.toInt64 + v5.toInt64))] m n else none := fun n => rfl
                                  by_cases c76 : ax_ok v2 8 = true
                                  · rw [if_pos c76] at h
                                    refine ax_gt c76 s77 ?_
                                    refine ax_go (j := 2) (k2 := 86) (lv2 := [some (.inr (.inr (22, 0))), some (.inl v1), some (.inl v2), some (.inl v3), some (.inl v4), some (.inl v5), none]) (st2 := [.inl (lg_cmp (v4.toInt64 + v5.toInt64) ((m.1 32 0 v2.toNatClampNeg).toInt64))]) (m2 := m) (fun n => rfl) ?_
                                    obtain ⟨y78, hy78⟩ : ∃ y : Int32, y = (lg_cmp (v4.toInt64 + v5.toInt64) ((m.1 32 0 v2.toNatClampNeg).toInt64)) := ⟨_, rfl⟩
                                    rw [← hy78] at h ⊢
                                    have s80 : ∀ n, ax_ex (e + 3) L_X11_copy 86 [some (.inr (.inr (22, 0))), some (.inl v1), some (.inl v2), some (.inl v3), some (.inl v4), some (.inl v5), none] [.inl y78] m (n + 1) = if y78 ≤ 0 then ax_ex (e + 3) L_X11_copy 91 [some (.inr (.inr (22, 0))), some (.inl v1), some (.inl v2), some (.inl v3), some (.inl v4), some (.inl v5), none] [] m n else ax_ex (e + 3) L_X11_copy 87 [some (.inr (.inr (22, 0))), some (.inl v1), some (.inl v2), some (.inl v3), some (.inl v4), some (.inl v5), none] [] m n := fun n => rfl
                                    by_cases c79 : y78 ≤ 0
                                    · rw [if_pos c79] at h
                                      refine ax_gt c79 s80 ?_
                                      have s82 : ∀ n, ax_ex (e + 3) L_X11_copy 91 [some (.inr (.inr (22, 0))), some (.inl v1), some (.inl v2), some (.inl v3), some (.inl v4), some (.inl v5), none] [] m (n + 3) = if v1 = v2 then ax_ex (e + 3) L_X11_copy 94 [some (.inr (.inr (22, 0))), some (.inl v1), some (.inl v2), some (.inl v3), some (.inl v4), some (.inl v5), none] [] m n else ax_ex (e + 3) L_X11_copy 126 [some (.inr (.inr (22, 0))), some (.inl v1), some (.inl v2), some (.inl v3), some (.inl v4), some (.inl v5), none] [] m n := fun n => rfl
                                      by_cases c81 : v1 = v2
                                      · rw [if_pos c81] at h
                                        refine ax_gt c81 s82 ?_
                                        have s84 : ∀ n, ax_ex (e + 3) L_X11_copy 94 [some (.inr (.inr (22, 0))), some (.inl v1), some (.inl v2), some (.inl v3), some (.inl v4), some (.inl v5), none] [] m (n + 3) = if v4 ≤ v3 then ax_ex (e + 3) L_X11_copy 126 [some (.inr (.inr (22, 0))), some (.inl v1), some (.inl v2), some (.inl v3), some (.inl v4), some (.inl v5), none] [] m n else ax_ex (e + 3) L_X11_copy 97 [some (.inr (.inr (22, 0))), some (.inl v1), some (.inl v2), some (.inl v3), some (.inl v4), some (.inl v5), none] [] m n := fun n => rfl
                                        by_cases c83 : v4 ≤ v3
                                        · rw [if_pos c83] at h
                                          refine ax_gt c83 s84 ?_
                                          refine ax_go (j := 2) (k2 := 128) (lv2 := [some (.inr (.inr (22, 0))), some (.inl v1), some (.inl v2), some (.inl v3), some (.inl v4), some (.inl v5), some (.inl 0)]) (st2 := []) (m2 := m) (fun n => rfl) ?_
                                          refine ax_fg (lv2 := [some (.inr (.inr (22, 0))), some (.inl v1), some (.inl v2), some (.inl v3), some (.inl v4), some (.inl v5), some (.inl 0)]) ⟨rfl, rfl, rfl, rfl, rfl, rfl, rfl, trivial⟩ ?_
                                          refine R_X11_copy_L128 _ m 0 _ h
                                        · rw [if_neg c83] at h
                                          refine ax_gf c83 s84 ?_
                                          refine ax_go (j := 4) (k2 := 101) (lv2 := [some (.inr (.inr (22, 0))), some (.inl v1), some (.inl v2), some (.inl v3), some (.inl v4), some (.inl v5), some (.inl (v5 - 1))]) (st2 := []) (m2 := m) (fun n => rfl) ?_
                                          refine ax_fg (lv2 := [some (.inr (.inr (22, 0))), some (.inl v1), some (.inl v2), some (.inl v3), some (.inl v4), some (.inl v5), some (.inl (v5 - 1))]) ⟨rfl, rfl, rfl, rfl, rfl, rfl, rfl, trivial⟩ ?_
                                          refine R_X11_copy_L101 _ m (v5 - 1) _ h
                                      · rw [if_neg c81] at h
                                        refine ax_gf c81 s82 ?_
                                        refine ax_go (j := 2) (k2 := 128) (lv2 := [some (.inr (.inr (22, 0))), some (.inl v1), some (.inl v2), some (.inl v3), some (.inl v4), some (.inl v5), some (.inl 0)]) (st2 := []) (m2 := m) (fun n => rfl) ?_
                                        refine ax_fg (lv2 := [some (.inr (.inr (22, 0))), some (.inl v1), some (.inl v2), some (.inl v3), some (.inl v4), some (.inl v5), some (.inl 0)]) ⟨rfl, rfl, rfl, rfl, rfl, rfl, rfl, trivial⟩ ?_
                                        refine R_X11_copy_L128 _ m 0 _ h
                                    · rw [if_neg c79] at h
                                      refine ax_gf c79 s80 ?_
                                      obtain ⟨r105, m106, q104, h⟩ := ax_b2_of h
                                      have s107 : ∀ n, ax_ex (e + 3) L_X11_copy 87 [some (.inr (.inr (22, 0))), some (.inl v1), some (.inl v2), some (.inl v3), some (.inl v4), some (.inl v5), none] [] m (n + 3) = ax_aft (fun s m2 => ax_ex (e + 3) L_X11_copy 90 [some (.inr (.inr (22, 0))), some (.inl v1), some (.inl v2), some (.inl v3), some (.inl v4), some (.inl v5), none] s m2 n) [] (ax_ex (e + 2) L_X11_no 0 (ax_entry [.inr (.inr (22, 0)), .inl (-2)] 2) [] m n) := fun n => rfl
                                      refine ax_gci (j := 3) (k2 := 90) (lv2 := [some (.inr (.inr (22, 0))), some (.inl v1), some (.inl v2), some (.inl v3), some (.inl v4), some (.inl v5), none]) (rest := []) ((R_X11_no (by omega) q104)) s107 ?_
                                      obtain rfl := Option.some.inj h
                                      exact ax_rs 1 (fun n => rfl)
                                  · rw [if_neg c76] at h
                                    cases h
                              · rw [if_neg c67] at h
                                cases h
                      · rw [if_neg c47] at h
                        refine ax_gf c47 s48 ?_
                        obtain ⟨r109, m110, q108, h⟩ := ax_b2_of h
                        have s111 : ∀ n, ax_ex (e + 3) L_X11_copy 53 [some (.inr (.inr (22, 0))), some (.inl v1), some (.inl v2), some (.inl v3), some (.inl v4), some (.inl v5), none] [] m (n + 3) = ax_aft (fun s m2 => ax_ex (e + 3) L_X11_copy 56 [some (.inr (.inr (22, 0))), some (.inl v1), some (.inl v2), some (.inl v3), some (.inl v4), some (.inl v5), none] s m2 n) [] (ax_ex (e + 2) L_X11_no 0 (ax_entry [.inr (.inr (22, 0)), .inl (-4)] 2) [] m n) := fun n => rfl
                        refine ax_gci (j := 3) (k2 := 56) (lv2 := [some (.inr (.inr (22, 0))), some (.inl v1), some (.inl v2), some (.inl v3), some (.inl v4), some (.inl v5), none]) (rest := []) ((R_X11_no (by omega) q108)) s111 ?_
                        obtain rfl := Option.some.inj h
                        exact ax_rs 1 (fun n => rfl)
                    · rw [if_neg c45] at h
                      cases h
                · rw [if_neg c37] at h
                  cases h
              · rw [if_neg c35] at h
                refine ax_gf c35 s36 ?_
                obtain ⟨r113, q112, h⟩ := ax_b_of h
                have s244 : ∀ n, ax_ex (e + 3) L_X11_copy 26 [some (.inr (.inr (22, 0))), some (.inl v1), some (.inl v2), some (.inl v3), some (.inl v4), some (.inl v5), none] [] m (n + 3) = ax_aft (fun s m2 => ax_ex (e + 3) L_X11_copy 29 [some (.inr (.inr (22, 0))), some (.inl v1), some (.inl v2), some (.inl v3), some (.inl v4), some (.inl v5), none] s m2 n) [] (ax_ex (e + 2) L_X11_isRow 0 (ax_entry [.inr (.inr (22, 0)), .inl v2] 2) [] m n) := fun n => rfl
                refine ax_gci (j := 3) (k2 := 29) (lv2 := [some (.inr (.inr (22, 0))), some (.inl v1), some (.inl v2), some (.inl v3), some (.inl v4), some (.inl v5), none]) (rest := []) ((R_X11_isRow (by omega) q112)) s244 ?_
                have s115 : ∀ n, ax_ex (e + 3) L_X11_copy 29 [some (.inr (.inr (22, 0))), some (.inl v1), some (.inl v2), some (.inl v3), some (.inl v4), some (.inl v5), none] [.inl r113] m (n + 1) = if r113 = 0 then ax_ex (e + 3) L_X11_copy 43 [some (.inr (.inr (22, 0))), some (.inl v1), some (.inl v2), some (.inl v3), some (.inl v4), some (.inl v5), none] [] m n else ax_ex (e + 3) L_X11_copy 30 [some (.inr (.inr (22, 0))), some (.inl v1), some (.inl v2), some (.inl v3), some (.inl v4), some (.inl v5), none] [] m n := fun n => rfl
                by_cases c114 : r113 = 0
                · rw [if_pos c114] at h
                  refine ax_gt c114 s115 ?_
                  have s117 : ∀ n, ax_ex (e + 3) L_X11_copy 43 [some (.inr (.inr (22, 0))), some (.inl v1), some (.inl v2), some (.inl v3), some (.inl v4), some (.inl v5), none] [] m (n + 4) = if ax_ok v1 8 = true then ax_ex (e + 3) L_X11_copy 47 [some (.inr (.inr (22, 0))), some (.inl v1), some (.inl v2), some (.inl v3), some (.inl v4), some (.inl v5), none] [.inl (m.1 31 0 v1.toNatClampNeg)] m n else none := fun n => rfl
                  by_cases c116 : ax_ok v1 8 = true
                  · rw [if_pos c116] at h
                    refine ax_gt c116 s117 ?_
                    have s119 : ∀ n, ax_ex (e + 3) L_X11_copy 47 [some (.inr (.inr (22, 0))), some (.inl v1), some (.inl v2), some (.inl v3), some (.inl v4), some (.inl v5), none] [.inl (m.1 31 0 v1.toNatClampNeg)] m (n + 1) = if (m.1 31 0 v1.toNatClampNeg) < 0 then ax_ex (e + 3) L_X11_copy 53 [some (.inr (.inr (22, 0))), some (.inl v1), some (.inl v2), some (.inl v3), some (.inl v4), some (.inl v5), none] [] m n else ax_ex (e + 3) L_X11_copy 48 [some (.inr (.inr (22, 0))), some (.inl v1), some (.inl v2), some (.inl v3), some (.inl v4), some (.inl v5), none] [] m n := fun n => rfl
                    by_cases c118 : (m.1 31 0 v1.toNatClampNeg) < 0
                    · rw [if_pos c118] at h
                      refine ax_gt c118 s119 ?_
                      obtain ⟨r121, m122, q120, h⟩ := ax_b2_of h
                      have s123 : ∀ n, ax_ex (e + 3) L_X11_copy 53 [some (.inr (.inr (22, 0))), some (.inl v1), some (.inl v2), some (.inl v3), some (.inl v4), some (.inl v5), none] [] m (n + 3) = ax_aft (fun s m2 => ax_ex (e + 3) L_X11_copy 56 [some (.inr (.inr (22, 0))), some (.inl v1), some (.inl v2), some (.inl v3), some (.inl v4), some (.inl v5), none] s m2 n) [] (ax_ex (e + 2) L_X11_no 0 (ax_entry [.inr (.inr (22, 0)), .inl (-4)] 2) [] m n) := fun n => rfl
                      refine ax_gci (j := 3) (k2 := 56) (lv2 := [some (.inr (.inr (22, 0))), some (.inl v1), some (.inl v2), some (.inl v3), some (.inl v4), some (.inl v5), none]) (rest := []) ((R_X11_no (by omega) q120)) s123 ?_
                      obtain rfl := Option.some.inj h
                      exact ax_rs 1 (fun n => rfl)
                    · rw [if_neg c118] at h
                      refine ax_gf c118 s119 ?_
                      have s125 : ∀ n, ax_ex (e + 3) L_X11_copy 48 [some (.inr (.inr (22, 0))), some (.inl v1), some (.inl v2), some (.inl v3), some (.inl v4), some (.inl v5), none] [] m (n + 4) = if ax_ok v2 8 = true then ax_ex (e + 3) L_X11_copy 52 [some (.inr (.inr (22, 0))), some (.inl v1), some (.inl v2), some (.inl v3), some (.inl v4), some (.inl v5), none] [.inl (m.1 31 0 v2.toNatClampNeg)] m n else none := fun n => rfl
                      by_cases c124 : ax_ok v2 8 = true
                      · rw [if_pos c124] at h
                        refine ax_gt c124 s125 ?_
                        have s127 : ∀ n, ax_ex (e + 3) L_X11_copy 52 [some (.inr (.inr (22, 0))), some (.inl v1), some (.inl v2), some (.inl v3), some (.inl v4), some (.inl v5), none] [.inl (m.1 31 0 v2.toNatClampNeg)] m (n + 1) = if 0 ≤ (m.1 31 0 v2.toNatClampNeg) then ax_ex (e + 3) L_X11_copy 57 [some (.inr (.inr (22, 0))), some (.inl v1), some (.inl v2), some (.inl v3), some (.inl v4), some (.inl v5), none] [] m n else ax_ex (e + 3) L_X11_copy 53 [some (.inr (.inr (22, 0))), some (.inl v1), some (.inl v2), some (.inl v3), some (.inl v4), some (.inl v5), none] [] m n := fun n => rfl
                        by_cases c126 : 0 ≤ (m.1 31 0 v2.toNatClampNeg)
                        · rw [if_pos c126] at h
                          refine ax_gt c126 s127 ?_
                          have s129 : ∀ n, ax_ex (e + 3) L_X11_copy 57 [some (.inr (.inr (22, 0))), some (.inl v1), some (.inl v2), some (.inl v3), some (.inl v4), some (.inl v5), none] [] m (n + 2) = if v5 < 0 then ax_ex (e + 3) L_X11_copy 87 [some (.inr (.inr (22, 0))), some (.inl v1), some (.inl v2), some (.inl v3), some (.inl v4), some (.inl v5), none] [] m n else ax_ex (e + 3) L_X11_copy 59 [some (.inr (.inr (22, 0))), some (.inl v1), some (.inl v2), some (.inl v3), some (.inl v4), some (.inl v5), none] [] m n := fun n => rfl
                          by_cases c128 : v5 < 0
                          · rw [if_pos c128] at h
                            refine ax_gt c128 s129 ?_
                            obtain ⟨r131, m132, q130, h⟩ := ax_b2_of h
                            have s133 : ∀ n, ax_ex (e + 3) L_X11_copy 87 [some (.inr (.inr (22, 0))), some (.inl v1), some (.inl v2), some (.inl v3), some (.inl v4), some (.inl v5), none] [] m (n + 3) = ax_aft (fun s m2 => ax_ex (e + 3) L_X11_copy 90 [some (.inr (.inr (22, 0))), some (.inl v1), some (.inl v2), some (.inl v3), some (.inl v4), some (.inl v5), none] s m2 n) [] (ax_ex (e + 2) L_X11_no 0 (ax_entry [.inr (.inr (22, 0)), .inl (-2)] 2) [] m n) := fun n => rfl
                            refine ax_gci (j := 3) (k2 := 90) (lv2 := [some (.inr (.inr (22, 0))), some (.inl v1), some (.inl v2), some (.inl v3), some (.inl v4), some (.inl v5), none]) (rest := []) ((R_X11_no (by omega) q130)) s133 ?_
                            obtain rfl := Option.some.inj h
                            exact ax_rs 1 (fun n => rfl)
                          · rw [if_neg c128] at h
                            refine ax_gf c128 s129 ?_
                            have s135 : ∀ n, ax_ex (e + 3) L_X11_copy 59 [some (.inr (.inr (22, 0))), some (.inl v1), some (.inl v2), some (.inl v3), some (.inl v4), some (.inl v5), none] [] m (n + 2) = if v3 < 0 then ax_ex (e + 3) L_X11_copy 87 [some (.inr (.inr (22, 0))), some (.inl v1), some (.inl v2), some (.inl v3), some (.inl v4), some (.inl v5), none] [] m n else ax_ex (e + 3) L_X11_copy 61 [some (.inr (.inr (22, 0))), some (.inl v1), some (.inl v2), some (.inl v3), some (.inl v4), some (.inl v5), none] [] m n := fun n => rfl
                            by_cases c134 : v3 < 0
                            · rw [if_pos c134] at h
                              refine ax_gt c134 s135 ?_
                              obtain ⟨r137, m138, q136, h⟩ := ax_b2_of h
                              have s139 : ∀ n, ax_ex (e + 3) L_X11_copy 87 [some (.inr (.inr (22, 0))), some (.inl v1), some (.inl v2), some (.inl v3), some (.inl v4), some (.inl v5), none] [] m (n + 3) = ax_aft (fun s m2 => ax_ex (e + 3) L_X11_copy 90 [some (.inr (.inr (22, 0))), some (.inl v1), some (.inl v2), some (.inl v3), some (.inl v4), some (.inl v5), none] s m2 n) [] (ax_ex (e + 2) L_X11_no 0 (ax_entry [.inr (.inr (22, 0)), .inl (-2)] 2) [] m n) := fun n => rfl
                              refine ax_gci (j := 3) (k2 := 90) (lv2 := [some (.inr (.inr (22, 0))), some (.inl v1), some (.inl v2), some (.inl v3), some (.inl v4), some (.inl v5), none]) (rest := []) ((R_X11_no (by omega) q136)) s139 ?_
                              obtain rfl := Option.some.inj h
                              exact ax_rs 1 (fun n => rfl)
                            · rw [if_neg c134] at h
                              refine ax_gf c134 s135 ?_
                              have s141 : ∀ n, ax_ex (e + 3) L_X11_copy 61 [some (.inr (.inr (22, 0))), some (.inl v1), some (.inl v2), some (.inl v3), some (.inl v4), some (.inl v5), none] [] m (n + 2) = if v4 < 0 then ax_ex (e + 3) L_X11_copy 87 [some (.inr (.inr (22, 0))), some (.inl v1), some (.inl v2), some (.inl v3), some (.inl v4), some (.inl v5), none] [] m n else ax_ex (e + 3) L_X11_copy 63 [some (.inr (.inr (22, 0))), some (.inl v1), some (.inl v2), some (.inl v3), some (.inl v4), some (.inl v5), none] [] m n := fun n => rfl
                              by_cases c140 : v4 < 0
                              · rw [if_pos c140] at h
                                refine ax_gt c140 s141 ?_
                                obtain ⟨r143, m144, q142, h⟩ := ax_b2_of h
                                have s145 : ∀ n, ax_ex (e + 3) L_X11_copy 87 [some (.inr (.inr (22, 0))), some (.inl v1), some (.inl v2), some (.inl v3), some (.inl v4), some (.inl v5), none] [] m (n + 3) = ax_aft (fun s m2 => ax_ex (e + 3) L_X11_copy 90 [some (.inr (.inr (22, 0))), some (.inl v1), some (.inl v2), some (.inl v3), some (.inl v4), some (.inl v5), none] s m2 n) [] (ax_ex (e + 2) L_X11_no 0 (ax_entry [.inr (.inr (22, 0)), .inl (-2)] 2) [] m n) := fun n => rfl
                                refine ax_gci (j := 3) (k2 := 90) (lv2 := [some (.inr (.inr (22, 0))), some (.inl v1), some (.inl v2), some (.inl v3), some (.inl v4), some (.inl v5), none]) (rest := []) ((R_X11_no (by omega) q142)) s145 ?_
                                obtain rfl := Option.some.inj h
                                exact ax_rs 1 (fun n => rfl)
                              · rw [if_neg c140] at h
                                refine ax_gf c140 s141 ?_
                                have s147 : ∀ n, ax_ex (e + 3) L_X11_copy 63 [some (.inr (.inr (22, 0))), some (.inl v1), some (.inl v2), some (.inl v3), some (.inl v4), some (.inl v5), none] [] m (n + 9) = if ax_ok v1 8 = true then ax_ex (e + 3) L_X11_copy 72 [some (.inr (.inr (22, 0))), some (.inl v1), some (.inl v2), some (.inl v3), some (.inl v4), some (.inl v5), none] [.inl (m.1 32 0 v1.toNatClampNeg), .inr (.inl (v3.toInt64 + v5.toInt64))] m n else none := fun n => rfl
                                by_cases c146 : ax_ok v1 8 = true
                                · rw [if_pos c146] at h
                                  refine ax_gt c146 s147 ?_
                                  refine ax_go (j := 2) (k2 := 74) (lv2 := [some (.inr (.inr (22, 0))), some (.inl v1), some (.inl v2), some (.inl v3), some (.inl v4), some (.inl v5), none]) (st2 := [.inl (lg_cmp (v3.toInt64 + v5.toInt64) ((m.1 32 0 v1.toNatClampNeg).toInt64))]) (m2 := m) (fun n => rfl) ?_
                                  obtain ⟨y148, hy148⟩ : ∃ y : Int32, y = (lg_cmp (v3.toInt64 + v5.toInt64) ((m.1 32 0 v1.toNatClampNeg).toInt64)) := ⟨_, rfl⟩
                                  rw [← hy148] at h ⊢
                                  have s150 : ∀ n, ax_ex (e + 3) L_X11_copy 74 [some (.inr (.inr (22, 0))), some (.inl v1), some (.inl v2), some (.inl v3), some (.inl v4), some (.inl v5), none] [.inl y148] m (n + 1) = if 0 < y148 then ax_ex (e + 3) L_X11_copy 87 [some (.inr (.inr (22, 0))), some (.inl v1), some (.inl v2), some (.inl v3), some (.inl v4), some (.inl v5), none] [] m n else ax_ex (e + 3) L_X11_copy 75 [some (.inr (.inr (22, 0))), some (.inl v1), some (.inl v2), some (.inl v3), some (.inl v4), some (.inl v5), none] [] m n := fun n => rfl
                                  by_cases c149 : 0 < y148
                                  · rw [if_pos c149] at h
                                    refine ax_gt c149 s150 ?_
                                    obtain ⟨r152, m153, q151, h⟩ := ax_b2_of h
                                    have s154 : ∀ n, ax_ex (e + 3) L_X11_copy 87 [some (.inr (.inr (22, 0))), some (.inl v1), some (.inl v2), some (.inl v3), some (.inl v4), some (.inl v5), none] [] m (n + 3) = ax_aft (fun s m2 => ax_ex (e + 3) L_X11_copy 90 [some (.inr (.inr (22, 0))), some (.inl v1), some (.inl v2), some (.inl v3), some (.inl v4), some (.inl v5), none] s m2 n) [] (ax_ex (e + 2) L_X11_no 0 (ax_entry [.inr (.inr (22, 0)), .inl (-2)] 2) [] m n) := fun n => rfl
                                    refine ax_gci (j := 3) (k2 := 90) (lv2 := [some (.inr (.inr (22, 0))), some (.inl v1), some (.inl v2), some (.inl v3), some (.inl v4), some (.inl v5), none]) (rest := []) ((R_X11_no (by omega) q151)) s154 ?_
                                    obtain rfl := Option.some.inj h
                                    exact ax_rs 1 (fun n => rfl)
                                  · rw [if_neg c149] at h
                                    refine ax_gf c149 s150 ?_
                                    have s156 : ∀ n, ax_ex (e + 3) L_X11_copy 75 [some (.inr (.inr (22, 0))), some (.inl v1), some (.inl v2), some (.inl v3), some (.inl v4), some (.inl v5), none] [] m (n + 9) = if ax_ok v2 8 = true then ax_ex (e + 3) L_X11_copy 84 [some (.inr (.inr (22, 0))), some (.inl v1), some (.inl v2), some (.inl v3), some (.inl v4), some (.inl v5), none] [.inl (m.1 32 0 v2.toNatClampNeg), .inr (.inl (v4.toInt64 + v5.toInt64))] m n else none := fun n => rfl
                                    by_cases c155 : ax_ok v2 8 = true
                                    · rw [if_pos c155] at h
                                      refine ax_gt c155 s156 ?_
                                      refine ax_go (j := 2) (k2 := 86) (lv2 := [some (.inr (.inr (22, 0))), some (.inl v1), some (.inl v2), some (.inl v3), some (.inl v4), some (.inl v5), none]) (st2 := [.inl (lg_cmp (v4.toInt64 + v5.toInt64) ((m.1 32 0 v2.toNatClampNeg).toInt64))]) (m2 := m) (fun n => rfl) ?_
                                      obtain ⟨y157, hy157⟩ : ∃ y : Int32, y = (lg_cmp (v4.toInt64 + v5.toInt64) ((m.1 32 0 v2.toNatClampNeg).toInt64)) := ⟨_, rfl⟩
                                      rw [← hy157] at h ⊢
                                      have s159 : ∀ n, ax_ex (e + 3) L_X11_copy 86 [some (.inr (.inr (22, 0))), some (.inl v1), some (.inl v2), some (.inl v3), some (.inl v4), some (.inl v5), none] [.inl y157] m (n + 1) = if y157 ≤ 0 then ax_ex (e + 3) L_X11_copy 91 [some (.inr (.inr (22, 0))), some (.inl v1), some (.inl v2), some (.inl v3), some (.inl v4), some (.inl v5), none] [] m n else ax_ex (e + 3) L_X11_copy 87 [some (.inr (.inr (22, 0))), some (.inl v1), some (.inl v2), some (.inl v3), some (.inl v4), some (.inl v5), none] [] m n := fun n => rfl
                                      by_cases c158 : y157 ≤ 0
                                      · rw [if_pos c158] at h
                                        refine ax_gt c158 s159 ?_
                                        have s161 : ∀ n, ax_ex (e + 3) L_X11_copy 91 [some (.inr (.inr (22, 0))), some (.inl v1), some (.inl v2), some (.inl v3), some (.inl v4), some (.inl v5), none] [] m (n + 3) = if v1 = v2 then ax_ex (e + 3) L_X11_copy 94 [some (.inr (.inr (22, 0))), some (.inl v1), some (.inl v2), some (.inl v3), some (.inl v4), some (.inl v5), none] [] m n else ax_ex (e + 3) L_X11_copy 126 [some (.inr (.inr (22, 0))), some (.inl v1), some (.inl v2), some (.inl v3), some (.inl v4), some (.inl v5), none] [] m n := fun n => rfl
                                        by_cases c160 : v1 = v2
                                        · rw [if_pos c160] at h
                                          refine ax_gt c160 s161 ?_
                                          have s163 : ∀ n, ax_ex (e + 3) L_X11_copy 94 [some (.inr (.inr (22, 0))), some (.inl v1), some (.inl v2), some (.inl v3), some (.inl v4), some (.inl v5), none] [] m (n + 3) = if v4 ≤ v3 then ax_ex (e + 3) L_X11_copy 126 [some (.inr (.inr (22, 0))), some (.inl v1), some (.inl v2), some (.inl v3), some (.inl v4), some (.inl v5), none] [] m n else ax_ex (e + 3) L_X11_copy 97 [some (.inr (.inr (22, 0))), some (.inl v1), some (.inl v2), some (.inl v3), some (.inl v4), some (.inl v5), none] [] m n := fun n => rfl
                                          by_cases c162 : v4 ≤ v3
                                          · rw [if_pos c162] at h
                                            refine ax_gt c162 s163 ?_
                                            refine ax_go (j := 2) (k2 := 128) (lv2 := [some (.inr (.inr (22, 0))), some (.inl v1), some (.inl v2), some (.inl v3), some (.inl v4), some (.inl v5), some (.inl 0)]) (st2 := []) (m2 := m) (fun n => rfl) ?_
                                            refine ax_fg (lv2 := [some (.inr (.inr (22, 0))), some (.inl v1), some (.inl v2), some (.inl v3), some (.inl v4), some (.inl v5), some (.inl 0)]) ⟨rfl, rfl, rfl, rfl, rfl, rfl, rfl, trivial⟩ ?_
                                            refine R_X11_copy_L128 _ m 0 _ h
                                          · rw [if_neg c162] at h
                                            refine ax_gf c162 s163 ?_
                                            refine ax_go (j := 4) (k2 := 101) (lv2 := [some (.inr (.inr (22, 0))), some (.inl v1), some (.inl v2), some (.inl v3), some (.inl v4), some (.inl v5), some (.inl (v5 - 1))]) (st2 := []) (m2 := m) (fun n => rfl) ?_
                                            refine ax_fg (lv2 := [some (.inr (.inr (22, 0))), some (.inl v1), some (.inl v2), some (.inl v3), some (.inl v4), some (.inl v5), some (.inl (v5 - 1))]) ⟨rfl, rfl, rfl, rfl, rfl, rfl, rfl, trivial⟩ ?_
                                            refine R_X11_copy_L101 _ m (v5 - 1) _ h
                                        · rw [if_neg c160] at h
                                          refine ax_gf c160 s161 ?_
                                          refine ax_go (j := 2) (k2 := 128) (lv2 := [some (.inr (.inr (22, 0))), some (.inl v1), some (.inl v2), some (.inl v3), some (.inl v4), some (.inl v5), some (.inl 0)]) (st2 := []) (m2 := m) (fun n => rfl) ?_
                                          refine ax_fg (lv2 := [some (.inr (.inr (22, 0))), some (.inl v1), some (.inl v2), some (.inl v3), some (.inl v4), some (.inl v5), some (.inl 0)]) ⟨rfl, rfl, rfl, rfl, rfl, rfl, rfl, trivial⟩ ?_
                                          refine R_X11_copy_L128 _ m 0 _ h
                                      · rw [if_neg c158] at h
                                        refine ax_gf c158 s159 ?_
                                        obtain ⟨r168, m169, q167, h⟩ := ax_b2_of h
                                        have s170 : ∀ n, ax_ex (e + 3) L_X11_copy 87 [some (.inr (.inr (22, 0))), some (.inl v1), some (.inl v2), some (.inl v3), some (.inl v4), some (.inl v5), none] [] m (n + 3) = ax_aft (fun s m2 => ax_ex (e + 3) L_X11_copy 90 [some (.inr (.inr (22, 0))), some (.inl v1), some (.inl v2), some (.inl v3), some (.inl v4), some (.inl v5), none] s m2 n) [] (ax_ex (e + 2) L_X11_no 0 (ax_entry [.inr (.inr (22, 0)), .inl (-2)] 2) [] m n) := fun n => rfl
                                        refine ax_gci (j := 3) (k2 := 90) (lv2 := [some (.inr (.inr (22, 0))), some (.inl v1), some (.inl v2), some (.inl v3), some (.inl v4), some (.inl v5), none]) (rest := []) ((R_X11_no (by omega) q167)) s170 ?_
                                        obtain rfl := Option.some.inj h
                                        exact ax_rs 1 (fun n => rfl)
                                    · rw [if_neg c155] at h
                                      cases h
                                · rw [if_neg c146] at h
                                  cases h
                        · rw [if_neg c126] at h
                          refine ax_gf c126 s127 ?_
                          obtain ⟨r172, m173, q171, h⟩ := ax_b2_of h
                          have s174 : ∀ n, ax_ex (e + 3) L_X11_copy 53 [some (.inr (.inr (22, 0))), some (.inl v1), some (.inl v2), some (.inl v3), some (.inl v4), some (.inl v5), none] [] m (n + 3) = ax_aft (fun s m2 => ax_ex (e + 3) L_X11_copy 56 [some (.inr (.inr (22, 0))), some (.inl v1), some (.inl v2), some (.inl v3), some (.inl v4), some (.inl v5), none] s m2 n) [] (ax_ex (e + 2) L_X11_no 0 (ax_entry [.inr (.inr (22, 0)), .inl (-4)] 2) [] m n) := fun n => rfl
                          refine ax_gci (j := 3) (k2 := 56) (lv2 := [some (.inr (.inr (22, 0))), some (.inl v1), some (.inl v2), some (.inl v3), some (.inl v4), some (.inl v5), none]) (rest := []) ((R_X11_no (by omega) q171)) s174 ?_
                          obtain rfl := Option.some.inj h
                          exact ax_rs 1 (fun n => rfl)
                      · rw [if_neg c124] at h
                        cases h
                  · rw [if_neg c116] at h
                    cases h
                · rw [if_neg c114] at h
                  refine ax_gf c114 s115 ?_
                  have s176 : ∀ n, ax_ex (e + 3) L_X11_copy 30 [some (.inr (.inr (22, 0))), some (.inl v1), some (.inl v2), some (.inl v3), some (.inl v4), some (.inl v5), none] [] m (n + 4) = if ax_ok v1 8 = true then ax_ex (e + 3) L_X11_copy 34 [some (.inr (.inr (22, 0))), some (.inl v1), some (.inl v2), some (.inl v3), some (.inl v4), some (.inl v5), none] [.inl (m.1 31 0 v1.toNatClampNeg)] m n else none := fun n => rfl
                  by_cases c175 : ax_ok v1 8 = true
                  · rw [if_pos c175] at h
                    refine ax_gt c175 s176 ?_
                    have s178 : ∀ n, ax_ex (e + 3) L_X11_copy 34 [some (.inr (.inr (22, 0))), some (.inl v1), some (.inl v2), some (.inl v3), some (.inl v4), some (.inl v5), none] [.inl (m.1 31 0 v1.toNatClampNeg)] m (n + 4) = if ax_ok v2 8 = true then ax_ex (e + 3) L_X11_copy 38 [some (.inr (.inr (22, 0))), some (.inl v1), some (.inl v2), some (.inl v3), some (.inl v4), some (.inl v5), none] [.inl (m.1 31 0 v2.toNatClampNeg), .inl (m.1 31 0 v1.toNatClampNeg)] m n else none := fun n => rfl
                    by_cases c177 : ax_ok v2 8 = true
                    · rw [if_pos c177] at h
                      refine ax_gt c177 s178 ?_
                      have s180 : ∀ n, ax_ex (e + 3) L_X11_copy 38 [some (.inr (.inr (22, 0))), some (.inl v1), some (.inl v2), some (.inl v3), some (.inl v4), some (.inl v5), none] [.inl (m.1 31 0 v2.toNatClampNeg), .inl (m.1 31 0 v1.toNatClampNeg)] m (n + 1) = if (m.1 31 0 v1.toNatClampNeg) = (m.1 31 0 v2.toNatClampNeg) then ax_ex (e + 3) L_X11_copy 43 [some (.inr (.inr (22, 0))), some (.inl v1), some (.inl v2), some (.inl v3), some (.inl v4), some (.inl v5), none] [] m n else ax_ex (e + 3) L_X11_copy 39 [some (.inr (.inr (22, 0))), some (.inl v1), some (.inl v2), some (.inl v3), some (.inl v4), some (.inl v5), none] [] m n := fun n => rfl
                      by_cases c179 : (m.1 31 0 v1.toNatClampNeg) = (m.1 31 0 v2.toNatClampNeg)
                      · rw [if_pos c179] at h
                        refine ax_gt c179 s180 ?_
                        have s182 : ∀ n, ax_ex (e + 3) L_X11_copy 43 [some (.inr (.inr (22, 0))), some (.inl v1), some (.inl v2), some (.inl v3), some (.inl v4), some (.inl v5), none] [] m (n + 4) = if ax_ok v1 8 = true then ax_ex (e + 3) L_X11_copy 47 [some (.inr (.inr (22, 0))), some (.inl v1), some (.inl v2), some (.inl v3), some (.inl v4), some (.inl v5), none] [.inl (m.1 31 0 v1.toNatClampNeg)] m n else none := fun n => rfl
                        by_cases c181 : ax_ok v1 8 = true
                        · rw [if_pos c181] at h
                          refine ax_gt c181 s182 ?_
                          have s184 : ∀ n, ax_ex (e + 3) L_X11_copy 47 [some (.inr (.inr (22, 0))), some (.inl v1), some (.inl v2), some (.inl v3), some (.inl v4), some (.inl v5), none] [.inl (m.1 31 0 v1.toNatClampNeg)] m (n + 1) = if (m.1 31 0 v1.toNatClampNeg) < 0 then ax_ex (e + 3) L_X11_copy 53 [some (.inr (.inr (22, 0))), some (.inl v1), some (.inl v2), some (.inl v3), some (.inl v4), some (.inl v5), none] [] m n else ax_ex (e + 3) L_X11_copy 48 [some (.inr (.inr (22, 0))), some (.inl v1), some (.inl v2), some (.inl v3), some (.inl v4), some (.inl v5), none] [] m n := fun n => rfl
                          by_cases c183 : (m.1 31 0 v1.toNatClampNeg) < 0
                          · rw [if_pos c183] at h
                            refine ax_gt c183 s184 ?_
                            obtain ⟨r186, m187, q185, h⟩ := ax_b2_of h
                            have s188 : ∀ n, ax_ex (e + 3) L_X11_copy 53 [some (.inr (.inr (22, 0))), some (.inl v1), some (.inl v2), some (.inl v3), some (.inl v4), some (.inl v5), none] [] m (n + 3) = ax_aft (fun s m2 => ax_ex (e + 3) L_X11_copy 56 [some (.inr (.inr (22, 0))), some (.inl v1), some (.inl v2), some (.inl v3), some (.inl v4), some (.inl v5), none] s m2 n) [] (ax_ex (e + 2) L_X11_no 0 (ax_entry [.inr (.inr (22, 0)), .inl (-4)] 2) [] m n) := fun n => rfl
                            refine ax_gci (j := 3) (k2 := 56) (lv2 := [some (.inr (.inr (22, 0))), some (.inl v1), some (.inl v2), some (.inl v3), some (.inl v4), some (.inl v5), none]) (rest := []) ((R_X11_no (by omega) q185)) s188 ?_
                            obtain rfl := Option.some.inj h
                            exact ax_rs 1 (fun n => rfl)
                          · rw [if_neg c183] at h
                            refine ax_gf c183 s184 ?_
                            have s190 : ∀ n, ax_ex (e + 3) L_X11_copy 48 [some (.inr (.inr (22, 0))), some (.inl v1), some (.inl v2), some (.inl v3), some (.inl v4), some (.inl v5), none] [] m (n + 4) = if ax_ok v2 8 = true then ax_ex (e + 3) L_X11_copy 52 [some (.inr (.inr (22, 0))), some (.inl v1), some (.inl v2), some (.inl v3), some (.inl v4), some (.inl v5), none] [.inl (m.1 31 0 v2.toNatClampNeg)] m n else none := fun n => rfl
                            by_cases c189 : ax_ok v2 8 = true
                            · rw [if_pos c189] at h
                              refine ax_gt c189 s190 ?_
                              have s192 : ∀ n, ax_ex (e + 3) L_X11_copy 52 [some (.inr (.inr (22, 0))), some (.inl v1), some (.inl v2), some (.inl v3), some (.inl v4), some (.inl v5), none] [.inl (m.1 31 0 v2.toNatClampNeg)] m (n + 1) = if 0 ≤ (m.1 31 0 v2.toNatClampNeg) then ax_ex (e + 3) L_X11_copy 57 [some (.inr (.inr (22, 0))), some (.inl v1), some (.inl v2), some (.inl v3), some (.inl v4), some (.inl v5), none] [] m n else ax_ex (e + 3) L_X11_copy 53 [some (.inr (.inr (22, 0))), some (.inl v1), some (.inl v2), some (.inl v3), some (.inl v4), some (.inl v5), none] [] m n := fun n => rfl
                              by_cases c191 : 0 ≤ (m.1 31 0 v2.toNatClampNeg)
                              · rw [if_pos c191] at h
                                refine ax_gt c191 s192 ?_
                                have s194 : ∀ n, ax_ex (e + 3) L_X11_copy 57 [some (.inr (.inr (22, 0))), some (.inl v1), some (.inl v2), some (.inl v3), some (.inl v4), some (.inl v5), none] [] m (n + 2) = if v5 < 0 then ax_ex (e + 3) L_X11_copy 87 [some (.inr (.inr (22, 0))), some (.inl v1), some (.inl v2), some (.inl v3), some (.inl v4), some (.inl v5), none] [] m n else ax_ex (e + 3) L_X11_copy 59 [some (.inr (.inr (22, 0))), some (.inl v1), some (.inl v2), some (.inl v3), some (.inl v4), some (.inl v5), none] [] m n := fun n => rfl
                                by_cases c193 : v5 < 0
                                · rw [if_pos c193] at h
                                  refine ax_gt c193 s194 ?_
                                  obtain ⟨r196, m197, q195, h⟩ := ax_b2_of h
                                  have s198 : ∀ n, ax_ex (e + 3) L_X11_copy 87 [some (.inr (.inr (22, 0))), some (.inl v1), some (.inl v2), some (.inl v3), some (.inl v4), some (.inl v5), none] [] m (n + 3) = ax_aft (fun s m2 => ax_ex (e + 3) L_X11_copy 90 [some (.inr (.inr (22, 0))), some (.inl v1), some (.inl v2), some (.inl v3), some (.inl v4), some (.inl v5), none] s m2 n) [] (ax_ex (e + 2) L_X11_no 0 (ax_entry [.inr (.inr (22, 0)), .inl (-2)] 2) [] m n) := fun n => rfl
                                  refine ax_gci (j := 3) (k2 := 90) (lv2 := [some (.inr (.inr (22, 0))), some (.inl v1), some (.inl v2), some (.inl v3), some (.inl v4), some (.inl v5), none]) (rest := []) ((R_X11_no (by omega) q195)) s198 ?_
                                  obtain rfl := Option.some.inj h
                                  exact ax_rs 1 (fun n => rfl)
                                · rw [if_neg c193] at h
                                  refine ax_gf c193 s194 ?_
                                  have s200 : ∀ n, ax_ex (e + 3) L_X11_copy 59 [some (.inr (.inr (22, 0))), some (.inl v1), some (.inl v2), some (.inl v3), some (.inl v4), some (.inl v5), none] [] m (n + 2) = if v3 < 0 then ax_ex (e + 3) L_X11_copy 87 [some (.inr (.inr (22, 0))), some (.inl v1), some (.inl v2), some (.inl v3), some (.inl v4), some (.inl v5), none] [] m n else ax_ex (e + 3) L_X11_copy 61 [some (.inr (.inr (22, 0))), some (.inl v1), some (.inl v2), some (.inl v3), some (.inl v4), some (.inl v5), none] [] m n := fun n => rfl
                                  by_cases c199 : v3 < 0
                                  · rw [if_pos c199] at h
                                    refine ax_gt c199 s200 ?_
                                    obtain ⟨r202, m203, q201, h⟩ := ax_b2_of h
                                    have s204 : ∀ n, ax_ex (e + 3) L_X11_copy 87 [some (.inr (.inr (22, 0))), some (.inl v1), some (.inl v2), some (.inl v3), some (.inl v4), some (.inl v5), none] [] m (n + 3) = ax_aft (fun s m2 => ax_ex (e + 3) L_X11_copy 90 [some (.inr (.inr (22, 0))), some (.inl v1), some (.inl v2), some (.inl v3), some (.inl v4), some (.inl v5), none] s m2 n) [] (ax_ex (e + 2) L_X11_no 0 (ax_entry [.inr (.inr (22, 0)), .inl (-2)] 2) [] m n) := fun n => rfl
                                    refine ax_gci (j := 3) (k2 := 90) (lv2 := [some (.inr (.inr (22, 0))), some (.inl v1), some (.inl v2), some (.inl v3), some (.inl v4), some (.inl v5), none]) (rest := []) ((R_X11_no (by omega) q201)) s204 ?_
                                    obtain rfl := Option.some.inj h
                                    exact ax_rs 1 (fun n => rfl)
                                  · rw [if_neg c199] at h
                                    refine ax_gf c199 s200 ?_
                                    have s206 : ∀ n, ax_ex (e + 3) L_X11_copy 61 [some (.inr (.inr (22, 0))), some (.inl v1), some (.inl v2), some (.inl v3), some (.inl v4), some (.inl v5), none] [] m (n + 2) = if v4 < 0 then ax_ex (e + 3) L_X11_copy 87 [some (.inr (.inr (22, 0))), some (.inl v1), some (.inl v2), some (.inl v3), some (.inl v4), some (.inl v5), none] [] m n else ax_ex (e + 3) L_X11_copy 63 [some (.inr (.inr (22, 0))), some (.inl v1), some (.inl v2), some (.inl v3), some (.inl v4), some (.inl v5), none] [] m n := fun n => rfl
                                    by_cases c205 : v4 < 0
                                    · rw [if_pos c205] at h
                                      refine ax_gt c205 s206 ?_
                                      obtain ⟨r208, m209, q207, h⟩ := ax_b2_of h
                                      have s210 : ∀ n, ax_ex (e + 3) L_X11_copy 87 [some (.inr (.inr (22, 0))), some (.inl v1), some (.inl v2), some (.inl v3), some (.inl v4), some (.inl v5), none] [] m (n + 3) = ax_aft (fun s m2 => ax_ex (e + 3) L_X11_copy 90 [some (.inr (.inr (22, 0))), some (.inl v1), some (.inl v2), some (.inl v3), some (.inl v4), some (.inl v5), none] s m2 n) [] (ax_ex (e + 2) L_X11_no 0 (ax_entry [.inr (.inr (22, 0)), .inl (-2)] 2) [] m n) := fun n => rfl
                                      refine ax_gci (j := 3) (k2 := 90) (lv2 := [some (.inr (.inr (22, 0))), some (.inl v1), some (.inl v2), some (.inl v3), some (.inl v4), some (.inl v5), none]) (rest := []) ((R_X11_no (by omega) q207)) s210 ?_
                                      obtain rfl := Option.some.inj h
                                      exact ax_rs 1 (fun n => rfl)
                                    · rw [if_neg c205] at h
                                      refine ax_gf c205 s206 ?_
                                      have s212 : ∀ n, ax_ex (e + 3) L_X11_copy 63 [some (.inr (.inr (22, 0))), some (.inl v1), some (.inl v2), some (.inl v3), some (.inl v4), some (.inl v5), none] [] m (n + 9) = if ax_ok v1 8 = true then ax_ex (e + 3) L_X11_copy 72 [some (.inr (.inr (22, 0))), some (.inl v1), some (.inl v2), some (.inl v3), some (.inl v4), some (.inl v5), none] [.inl (m.1 32 0 v1.toNatClampNeg), .inr (.inl (v3.toInt64 + v5.toInt64))] m n else none := fun n => rfl
                                      by_cases c211 : ax_ok v1 8 = true
                                      · rw [if_pos c211] at h
                                        refine ax_gt c211 s212 ?_
                                        refine ax_go (j := 2) (k2 := 74) (lv2 := [some (.inr (.inr (22, 0))), some (.inl v1), some (.inl v2), some (.inl v3), some (.inl v4), some (.inl v5), none]) (st2 := [.inl (lg_cmp (v3.toInt64 + v5.toInt64) ((m.1 32 0 v1.toNatClampNeg).toInt64))]) (m2 := m) (fun n => rfl) ?_
                                        obtain ⟨y213, hy213⟩ : ∃ y : Int32, y = (lg_cmp (v3.toInt64 + v5.toInt64) ((m.1 32 0 v1.toNatClampNeg).toInt64)) := ⟨_, rfl⟩
                                        rw [← hy213] at h ⊢
                                        have s215 : ∀ n, ax_ex (e + 3) L_X11_copy 74 [some (.inr (.inr (22, 0))), some (.inl v1), some (.inl v2), some (.inl v3), some (.inl v4), some (.inl v5), none] [.inl y213] m (n + 1) = if 0 < y213 then ax_ex (e + 3) L_X11_copy 87 [some (.inr (.inr (22, 0))), some (.inl v1), some (.inl v2), some (.inl v3), some (.inl v4), some (.inl v5), none] [] m n else ax_ex (e + 3) L_X11_copy 75 [some (.inr (.inr (22, 0))), some (.inl v1), some (.inl v2), some (.inl v3), some (.inl v4), some (.inl v5), none] [] m n := fun n => rfl
                                        by_cases c214 : 0 < y213
                                        · rw [if_pos c214] at h
                                          refine ax_gt c214 s215 ?_
                                          obtain ⟨r217, m218, q216, h⟩ := ax_b2_of h
                                          have s219 : ∀ n, ax_ex (e + 3) L_X11_copy 87 [some (.inr (.inr (22, 0))), some (.inl v1), some (.inl v2), some (.inl v3), some (.inl v4), some (.inl v5), none] [] m (n + 3) = ax_aft (fun s m2 => ax_ex (e + 3) L_X11_copy 90 [some (.inr (.inr (22, 0))), some (.inl v1), some (.inl v2), some (.inl v3), some (.inl v4), some (.inl v5), none] s m2 n) [] (ax_ex (e + 2) L_X11_no 0 (ax_entry [.inr (.inr (22, 0)), .inl (-2)] 2) [] m n) := fun n => rfl
                                          refine ax_gci (j := 3) (k2 := 90) (lv2 := [some (.inr (.inr (22, 0))), some (.inl v1), some (.inl v2), some (.inl v3), some (.inl v4), some (.inl v5), none]) (rest := []) ((R_X11_no (by omega) q216)) s219 ?_
                                          obtain rfl := Option.some.inj h
                                          exact ax_rs 1 (fun n => rfl)
                                        · rw [if_neg c214] at h
                                          refine ax_gf c214 s215 ?_
                                          have s221 : ∀ n, ax_ex (e + 3) L_X11_copy 75 [some (.inr (.inr (22, 0))), some (.inl v1), some (.inl v2), some (.inl v3), some (.inl v4), some (.inl v5), none] [] m (n + 9) = if ax_ok v2 8 = true then ax_ex (e + 3) L_X11_copy 84 [some (.inr (.inr (22, 0))), some (.inl v1), some (.inl v2), some (.inl v3), some (.inl v4), some (.inl v5), none] [.inl (m.1 32 0 v2.toNatClampNeg), .inr (.inl (v4.toInt64 + v5.toInt64))] m n else none := fun n => rfl
                                          by_cases c220 : ax_ok v2 8 = true
                                          · rw [if_pos c220] at h
                                            refine ax_gt c220 s221 ?_
                                            refine ax_go (j := 2) (k2 := 86) (lv2 := [some (.inr (.inr (22, 0))), some (.inl v1), some (.inl v2), some (.inl v3), some (.inl v4), some (.inl v5), none]) (st2 := [.inl (lg_cmp (v4.toInt64 + v5.toInt64) ((m.1 32 0 v2.toNatClampNeg).toInt64))]) (m2 := m) (fun n => rfl) ?_
                                            obtain ⟨y222, hy222⟩ : ∃ y : Int32, y = (lg_cmp (v4.toInt64 + v5.toInt64) ((m.1 32 0 v2.toNatClampNeg).toInt64)) := ⟨_, rfl⟩
                                            rw [← hy222] at h ⊢
                                            have s224 : ∀ n, ax_ex (e + 3) L_X11_copy 86 [some (.inr (.inr (22, 0))), some (.inl v1), some (.inl v2), some (.inl v3), some (.inl v4), some (.inl v5), none] [.inl y222] m (n + 1) = if y222 ≤ 0 then ax_ex (e + 3) L_X11_copy 91 [some (.inr (.inr (22, 0))), some (.inl v1), some (.inl v2), some (.inl v3), some (.inl v4), some (.inl v5), none] [] m n else ax_ex (e + 3) L_X11_copy 87 [some (.inr (.inr (22, 0))), some (.inl v1), some (.inl v2), some (.inl v3), some (.inl v4), some (.inl v5), none] [] m n := fun n => rfl
                                            by_cases c223 : y222 ≤ 0
                                            · rw [if_pos c223] at h
                                              refine ax_gt c223 s224 ?_
                                              have s226 : ∀ n, ax_ex (e + 3) L_X11_copy 91 [some (.inr (.inr (22, 0))), some (.inl v1), some (.inl v2), some (.inl v3), some (.inl v4), some (.inl v5), none] [] m (n + 3) = if v1 = v2 then ax_ex (e + 3) L_X11_copy 94 [some (.inr (.inr (22, 0))), some (.inl v1), some (.inl v2), some (.inl v3), some (.inl v4), some (.inl v5), none] [] m n else ax_ex (e + 3) L_X11_copy 126 [some (.inr (.inr (22, 0))), some (.inl v1), some (.inl v2), some (.inl v3), some (.inl v4), some (.inl v5), none] [] m n := fun n => rfl
                                              by_cases c225 : v1 = v2
                                              · rw [if_pos c225] at h
                                                refine ax_gt c225 s226 ?_
                                                have s228 : ∀ n, ax_ex (e + 3) L_X11_copy 94 [some (.inr (.inr (22, 0))), some (.inl v1), some (.inl v2), some (.inl v3), some (.inl v4), some (.inl v5), none] [] m (n + 3) = if v4 ≤ v3 then ax_ex (e + 3) L_X11_copy 126 [some (.inr (.inr (22, 0))), some (.inl v1), some (.inl v2), some (.inl v3), some (.inl v4), some (.inl v5), none] [] m n else ax_ex (e + 3) L_X11_copy 97 [some (.inr (.inr (22, 0))), some (.inl v1), some (.inl v2), some (.inl v3), some (.inl v4), some (.inl v5), none] [] m n := fun n => rfl
                                                by_cases c227 : v4 ≤ v3
                                                · rw [if_pos c227] at h
                                                  refine ax_gt c227 s228 ?_
                                                  refine ax_go (j := 2) (k2 := 128) (lv2 := [some (.inr (.inr (22, 0))), some (.inl v1), some (.inl v2), some (.inl v3), some (.inl v4), some (.inl v5), some (.inl 0)]) (st2 := []) (m2 := m) (fun n => rfl) ?_
                                                  refine ax_fg (lv2 := [some (.inr (.inr (22, 0))), some (.inl v1), some (.inl v2), some (.inl v3), some (.inl v4), some (.inl v5), some (.inl 0)]) ⟨rfl, rfl, rfl, rfl, rfl, rfl, rfl, trivial⟩ ?_
                                                  refine R_X11_copy_L128 _ m 0 _ h
                                                · rw [if_neg c227] at h
                                                  refine ax_gf c227 s228 ?_
                                                  refine ax_go (j := 4) (k2 := 101) (lv2 := [some (.inr (.inr (22, 0))), some (.inl v1), some (.inl v2), some (.inl v3), some (.inl v4), some (.inl v5), some (.inl (v5 - 1))]) (st2 := []) (m2 := m) (fun n => rfl) ?_
                                                  refine ax_fg (lv2 := [some (.inr (.inr (22, 0))), some (.inl v1), some (.inl v2), some (.inl v3), some (.inl v4), some (.inl v5), some (.inl (v5 - 1))]) ⟨rfl, rfl, rfl, rfl, rfl, rfl, rfl, trivial⟩ ?_
                                                  refine R_X11_copy_L101 _ m (v5 - 1) _ h
                                              · rw [if_neg c225] at h
                                                refine ax_gf c225 s226 ?_
                                                refine ax_go (j := 2) (k2 := 128) (lv2 := [some (.inr (.inr (22, 0))), some (.inl v1), some (.inl v2), some (.inl v3), some (.inl v4), some (.inl v5), some (.inl 0)]) (st2 := []) (m2 := m) (fun n => rfl) ?_
                                                refine ax_fg (lv2 := [some (.inr (.inr (22, 0))), some (.inl v1), some (.inl v2), some (.inl v3), some (.inl v4), some (.inl v5), some (.inl 0)]) ⟨rfl, rfl, rfl, rfl, rfl, rfl, rfl, trivial⟩ ?_
                                                refine R_X11_copy_L128 _ m 0 _ h
                                            · rw [if_neg c223] at h
                                              refine ax_gf c223 s224 ?_
                                              obtain ⟨r233, m234, q232, h⟩ := ax_b2_of h
                                              have s235 : ∀ n, ax_ex (e + 3) L_X11_copy 87 [some (.inr (.inr (22, 0))), some (.inl v1), some (.inl v2), some (.inl v3), some (.inl v4), some (.inl v5), none] [] m (n + 3) = ax_aft (fun s m2 => ax_ex (e + 3) L_X11_copy 90 [some (.inr (.inr (22, 0))), some (.inl v1), some (.inl v2), some (.inl v3), some (.inl v4), some (.inl v5), none] s m2 n) [] (ax_ex (e + 2) L_X11_no 0 (ax_entry [.inr (.inr (22, 0)), .inl (-2)] 2) [] m n) := fun n => rfl
                                              refine ax_gci (j := 3) (k2 := 90) (lv2 := [some (.inr (.inr (22, 0))), some (.inl v1), some (.inl v2), some (.inl v3), some (.inl v4), some (.inl v5), none]) (rest := []) ((R_X11_no (by omega) q232)) s235 ?_
                                              obtain rfl := Option.some.inj h
                                              exact ax_rs 1 (fun n => rfl)
                                          · rw [if_neg c220] at h
                                            cases h
                                      · rw [if_neg c211] at h
                                        cases h
                              · rw [if_neg c191] at h
                                refine ax_gf c191 s192 ?_
                                obtain ⟨r237, m238, q236, h⟩ := ax_b2_of h
                                have s239 : ∀ n, ax_ex (e + 3) L_X11_copy 53 [some (.inr (.inr (22, 0))), some (.inl v1), some (.inl v2), some (.inl v3), some (.inl v4), some (.inl v5), none] [] m (n + 3) = ax_aft (fun s m2 => ax_ex (e + 3) L_X11_copy 56 [some (.inr (.inr (22, 0))), some (.inl v1), some (.inl v2), some (.inl v3), some (.inl v4), some (.inl v5), none] s m2 n) [] (ax_ex (e + 2) L_X11_no 0 (ax_entry [.inr (.inr (22, 0)), .inl (-4)] 2) [] m n) := fun n => rfl
                                refine ax_gci (j := 3) (k2 := 56) (lv2 := [some (.inr (.inr (22, 0))), some (.inl v1), some (.inl v2), some (.inl v3), some (.inl v4), some (.inl v5), none]) (rest := []) ((R_X11_no (by omega) q236)) s239 ?_
                                obtain rfl := Option.some.inj h
                                exact ax_rs 1 (fun n => rfl)
                            · rw [if_neg c189] at h
                              cases h
                        · rw [if_neg c181] at h
                          cases h
                      · rw [if_neg c179] at h
                        refine ax_gf c179 s180 ?_
                        obtain ⟨r241, m242, q240, h⟩ := ax_b2_of h
                        have s243 : ∀ n, ax_ex (e + 3) L_X11_copy 39 [some (.inr (.inr (22, 0))), some (.inl v1), some (.inl v2), some (.inl v3), some (.inl v4), some (.inl v5), none] [] m (n + 3) = ax_aft (fun s m2 => ax_ex (e + 3) L_X11_copy 42 [some (.inr (.inr (22, 0))), some (.inl v1), some (.inl v2), some (.inl v3), some (.inl v4), some (.inl v5), none] s m2 n) [] (ax_ex (e + 2) L_X11_no 0 (ax_entry [.inr (.inr (22, 0)), .inl (-3)] 2) [] m n) := fun n => rfl
                        refine ax_gci (j := 3) (k2 := 42) (lv2 := [some (.inr (.inr (22, 0))), some (.inl v1), some (.inl v2), some (.inl v3), some (.inl v4), some (.inl v5), none]) (rest := []) ((R_X11_no (by omega) q240)) s243 ?_
                        obtain rfl := Option.some.inj h
                        exact ax_rs 1 (fun n => rfl)
                    · rw [if_neg c177] at h
                      cases h
                  · rw [if_neg c175] at h
                    cases h
          · rw [if_neg c25] at h
            cases h
      · rw [if_neg c17] at h
        cases h
def F_X11_element (m : ax_M) (v1 : Int32) (v2 : Int32) : Option Int64 := ax_b (F_X11_isShelf v1) (fun r2 => if r2 = 0 then (some 0) else (ax_b (F_X11_isRow m v1) (fun r6 => if r6 = 0 then (some 0) else (if ax_ok v1 8 = true then (ax_b (F_X11_within v2 0 ((m.1 32 0 v1.toNatClampNeg) - 1)) (fun r12 => if r12 = 0 then (some 0) else (if ax_ok ((40 * v1) + v2) 320 = true then (some (m.2 33 0 ((40 * v1) + v2).toNatClampNeg)) else (none)))) else (none)))))
set_option maxRecDepth 20000 in
set_option maxHeartbeats 4000000 in
theorem R_X11_element {d : Nat} (hd : 3 ≤ d) {m : ax_M} {v1 : Int32} {v2 : Int32} {q : Int64} (h : F_X11_element m v1 v2 = some q) : ax_Ru d L_X11_element 0 (ax_entry [.inr (.inr (22, 0)), .inl v1, .inl v2] 3) [] m (some (.inr (.inl q)), m) := by
  obtain ⟨e, rfl⟩ : ∃ e, d = e + 3 := ⟨d - 3, by omega⟩
  unfold F_X11_element at h
  obtain ⟨r2, q1, h⟩ := ax_b_of h
  have s20 : ∀ n, ax_ex (e + 3) L_X11_element 0 (ax_entry [.inr (.inr (22, 0)), .inl v1, .inl v2] 3) [] m (n + 2) = ax_aft (fun s m2 => ax_ex (e + 3) L_X11_element 2 [some (.inr (.inr (22, 0))), some (.inl v1), some (.inl v2)] s m2 n) [] (ax_ex (e + 2) L_X11_isShelf 0 (ax_entry [.inl v1] 1) [] m n) := fun n => rfl
  refine ax_gci (j := 2) (k2 := 2) (lv2 := [some (.inr (.inr (22, 0))), some (.inl v1), some (.inl v2)]) (rest := []) ((R_X11_isShelf (by omega) q1)) s20 ?_
  have s4 : ∀ n, ax_ex (e + 3) L_X11_element 2 [some (.inr (.inr (22, 0))), some (.inl v1), some (.inl v2)] [.inl r2] m (n + 1) = if r2 = 0 then ax_ex (e + 3) L_X11_element 26 [some (.inr (.inr (22, 0))), some (.inl v1), some (.inl v2)] [] m n else ax_ex (e + 3) L_X11_element 3 [some (.inr (.inr (22, 0))), some (.inl v1), some (.inl v2)] [] m n := fun n => rfl
  by_cases c3 : r2 = 0
  · rw [if_pos c3] at h
    refine ax_gt c3 s4 ?_
    obtain rfl := Option.some.inj h
    exact ax_rs 2 (fun n => rfl)
  · rw [if_neg c3] at h
    refine ax_gf c3 s4 ?_
    obtain ⟨r6, q5, h⟩ := ax_b_of h
    have s19 : ∀ n, ax_ex (e + 3) L_X11_element 3 [some (.inr (.inr (22, 0))), some (.inl v1), some (.inl v2)] [] m (n + 3) = ax_aft (fun s m2 => ax_ex (e + 3) L_X11_element 6 [some (.inr (.inr (22, 0))), some (.inl v1), some (.inl v2)] s m2 n) [] (ax_ex (e + 2) L_X11_isRow 0 (ax_entry [.inr (.inr (22, 0)), .inl v1] 2) [] m n) := fun n => rfl
    refine ax_gci (j := 3) (k2 := 6) (lv2 := [some (.inr (.inr (22, 0))), some (.inl v1), some (.inl v2)]) (rest := []) ((R_X11_isRow (by omega) q5)) s19 ?_
    have s8 : ∀ n, ax_ex (e + 3) L_X11_element 6 [some (.inr (.inr (22, 0))), some (.inl v1), some (.inl v2)] [.inl r6] m (n + 1) = if r6 = 0 then ax_ex (e + 3) L_X11_element 26 [some (.inr (.inr (22, 0))), some (.inl v1), some (.inl v2)] [] m n else ax_ex (e + 3) L_X11_element 7 [some (.inr (.inr (22, 0))), some (.inl v1), some (.inl v2)] [] m n := fun n => rfl
    by_cases c7 : r6 = 0
    · rw [if_pos c7] at h
      refine ax_gt c7 s8 ?_
      obtain rfl := Option.some.inj h
      exact ax_rs 2 (fun n => rfl)
    · rw [if_neg c7] at h
      refine ax_gf c7 s8 ?_
      have s10 : ∀ n, ax_ex (e + 3) L_X11_element 7 [some (.inr (.inr (22, 0))), some (.inl v1), some (.inl v2)] [] m (n + 6) = if ax_ok v1 8 = true then ax_ex (e + 3) L_X11_element 13 [some (.inr (.inr (22, 0))), some (.inl v1), some (.inl v2)] [.inl (m.1 32 0 v1.toNatClampNeg), .inl 0, .inl v2] m n else none := fun n => rfl
      by_cases c9 : ax_ok v1 8 = true
      · rw [if_pos c9] at h
        refine ax_gt c9 s10 ?_
        obtain ⟨r12, q11, h⟩ := ax_b_of h
        have s18 : ∀ n, ax_ex (e + 3) L_X11_element 13 [some (.inr (.inr (22, 0))), some (.inl v1), some (.inl v2)] [.inl (m.1 32 0 v1.toNatClampNeg), .inl 0, .inl v2] m (n + 3) = ax_aft (fun s m2 => ax_ex (e + 3) L_X11_element 16 [some (.inr (.inr (22, 0))), some (.inl v1), some (.inl v2)] s m2 n) [] (ax_ex (e + 2) L_X11_within 0 (ax_entry [.inl v2, .inl 0, .inl ((m.1 32 0 v1.toNatClampNeg) - 1)] 3) [] m n) := fun n => rfl
        refine ax_gci (j := 3) (k2 := 16) (lv2 := [some (.inr (.inr (22, 0))), some (.inl v1), some (.inl v2)]) (rest := []) ((R_X11_within (by omega) q11)) s18 ?_
        have s14 : ∀ n, ax_ex (e + 3) L_X11_element 16 [some (.inr (.inr (22, 0))), some (.inl v1), some (.inl v2)] [.inl r12] m (n + 1) = if r12 = 0 then ax_ex (e + 3) L_X11_element 26 [some (.inr (.inr (22, 0))), some (.inl v1), some (.inl v2)] [] m n else ax_ex (e + 3) L_X11_element 17 [some (.inr (.inr (22, 0))), some (.inl v1), some (.inl v2)] [] m n := fun n => rfl
        by_cases c13 : r12 = 0
        · rw [if_pos c13] at h
          refine ax_gt c13 s14 ?_
          obtain rfl := Option.some.inj h
          exact ax_rs 2 (fun n => rfl)
        · rw [if_neg c13] at h
          refine ax_gf c13 s14 ?_
          refine ax_go (j := 7) (k2 := 24) (lv2 := [some (.inr (.inr (22, 0))), some (.inl v1), some (.inl v2)]) (st2 := [.inl ((40 * v1) + v2), .inr (.inr (33, 0))]) (m2 := m) (fun n => rfl) ?_
          obtain ⟨y15, hy15⟩ : ∃ y : Int32, y = ((40 * v1) + v2) := ⟨_, rfl⟩
          rw [← hy15] at h ⊢
          have s17 : ∀ n, ax_ex (e + 3) L_X11_element 24 [some (.inr (.inr (22, 0))), some (.inl v1), some (.inl v2)] [.inl y15, .inr (.inr (33, 0))] m (n + 1) = if ax_ok y15 320 = true then ax_ex (e + 3) L_X11_element 25 [some (.inr (.inr (22, 0))), some (.inl v1), some (.inl v2)] [.inr (.inl (m.2 33 0 y15.toNatClampNeg))] m n else none := fun n => rfl
          by_cases c16 : ax_ok y15 320 = true
          · rw [if_pos c16] at h
            refine ax_gt c16 s17 ?_
            obtain rfl := Option.some.inj h
            exact ax_rs 2 (fun n => rfl)
          · rw [if_neg c16] at h
            cases h
      · rw [if_neg c9] at h
        cases h
def F_X11_holds (m : ax_M) (v1 : Int32) : Option Int32 := ax_b (F_X11_isShelf v1) (fun r2 => if r2 = 0 then (some (-1)) else (if ax_ok v1 8 = true then (some (m.1 31 0 v1.toNatClampNeg)) else (none)))
set_option maxRecDepth 20000 in
set_option maxHeartbeats 4000000 in
theorem R_X11_holds {d : Nat} (hd : 3 ≤ d) {m : ax_M} {v1 : Int32} {q : Int32} (h : F_X11_holds m v1 = some q) : ax_Ru d L_X11_holds 0 (ax_entry [.inr (.inr (22, 0)), .inl v1] 2) [] m (some (.inl q), m) := by
  obtain ⟨e, rfl⟩ : ∃ e, d = e + 3 := ⟨d - 3, by omega⟩
  unfold F_X11_holds at h
  obtain ⟨r2, q1, h⟩ := ax_b_of h
  have s7 : ∀ n, ax_ex (e + 3) L_X11_holds 0 (ax_entry [.inr (.inr (22, 0)), .inl v1] 2) [] m (n + 2) = ax_aft (fun s m2 => ax_ex (e + 3) L_X11_holds 2 [some (.inr (.inr (22, 0))), some (.inl v1)] s m2 n) [] (ax_ex (e + 2) L_X11_isShelf 0 (ax_entry [.inl v1] 1) [] m n) := fun n => rfl
  refine ax_gci (j := 2) (k2 := 2) (lv2 := [some (.inr (.inr (22, 0))), some (.inl v1)]) (rest := []) ((R_X11_isShelf (by omega) q1)) s7 ?_
  have s4 : ∀ n, ax_ex (e + 3) L_X11_holds 2 [some (.inr (.inr (22, 0))), some (.inl v1)] [.inl r2] m (n + 1) = if r2 = 0 then ax_ex (e + 3) L_X11_holds 8 [some (.inr (.inr (22, 0))), some (.inl v1)] [] m n else ax_ex (e + 3) L_X11_holds 3 [some (.inr (.inr (22, 0))), some (.inl v1)] [] m n := fun n => rfl
  by_cases c3 : r2 = 0
  · rw [if_pos c3] at h
    refine ax_gt c3 s4 ?_
    obtain rfl := Option.some.inj h
    exact ax_rs 2 (fun n => rfl)
  · rw [if_neg c3] at h
    refine ax_gf c3 s4 ?_
    have s6 : ∀ n, ax_ex (e + 3) L_X11_holds 3 [some (.inr (.inr (22, 0))), some (.inl v1)] [] m (n + 4) = if ax_ok v1 8 = true then ax_ex (e + 3) L_X11_holds 7 [some (.inr (.inr (22, 0))), some (.inl v1)] [.inl (m.1 31 0 v1.toNatClampNeg)] m n else none := fun n => rfl
    by_cases c5 : ax_ok v1 8 = true
    · rw [if_pos c5] at h
      refine ax_gt c5 s6 ?_
      obtain rfl := Option.some.inj h
      exact ax_rs 2 (fun n => rfl)
    · rw [if_neg c5] at h
      cases h
def F_X11_show (m : ax_M) (v1 : Int32) (v2 : Int32) : Option (Int32 × ax_M) := ax_b (F_X11_isShelf v1) (fun r2 => if r2 = 0 then (ax_b2 (F_X11_no m (-2)) (fun r6 m7 => some (r6, m7))) else (if v2 = (-1) then (if v2 = (-1) then (if ax_ok v1 8 = true then (some (1, (ax_ui m 31 0 v1.toNatClampNeg (-1)))) else (none)) else (if ax_ok v1 8 = true then (some (1, (ax_ui m 31 0 v1.toNatClampNeg (10 + v2)))) else (none))) else (ax_b (F_X11_isSeed m v2) (fun r18 => if r18 = 0 then (ax_b2 (F_X11_no m (-2)) (fun r22 m23 => some (r22, m23))) else (if v2 = (-1) then (if ax_ok v1 8 = true then (some (1, (ax_ui m 31 0 v1.toNatClampNeg (-1)))) else (none)) else (if ax_ok v1 8 = true then (some (1, (ax_ui m 31 0 v1.toNatClampNeg (10 + v2)))) else (none)))))))
set_option maxRecDepth 20000 in
set_option maxHeartbeats 4000000 in
theorem R_X11_show {d : Nat} (hd : 3 ≤ d) {m : ax_M} {v1 : Int32} {v2 : Int32} {q : (Int32 × ax_M)} (h : F_X11_show m v1 v2 = some q) : ax_Ru d L_X11_show 0 (ax_entry [.inr (.inr (22, 0)), .inl v1, .inl v2] 3) [] m (some (.inl q.1), q.2) := by
  obtain ⟨e, rfl⟩ : ∃ e, d = e + 3 := ⟨d - 3, by omega⟩
  unfold F_X11_show at h
  obtain ⟨r2, q1, h⟩ := ax_b_of h
  have s32 : ∀ n, ax_ex (e + 3) L_X11_show 0 (ax_entry [.inr (.inr (22, 0)), .inl v1, .inl v2] 3) [] m (n + 2) = ax_aft (fun s m2 => ax_ex (e + 3) L_X11_show 2 [some (.inr (.inr (22, 0))), some (.inl v1), some (.inl v2)] s m2 n) [] (ax_ex (e + 2) L_X11_isShelf 0 (ax_entry [.inl v1] 1) [] m n) := fun n => rfl
  refine ax_gci (j := 2) (k2 := 2) (lv2 := [some (.inr (.inr (22, 0))), some (.inl v1), some (.inl v2)]) (rest := []) ((R_X11_isShelf (by omega) q1)) s32 ?_
  have s4 : ∀ n, ax_ex (e + 3) L_X11_show 2 [some (.inr (.inr (22, 0))), some (.inl v1), some (.inl v2)] [.inl r2] m (n + 1) = if r2 = 0 then ax_ex (e + 3) L_X11_show 10 [some (.inr (.inr (22, 0))), some (.inl v1), some (.inl v2)] [] m n else ax_ex (e + 3) L_X11_show 3 [some (.inr (.inr (22, 0))), some (.inl v1), some (.inl v2)] [] m n := fun n => rfl
  by_cases c3 : r2 = 0
  · rw [if_pos c3] at h
    refine ax_gt c3 s4 ?_
    obtain ⟨r6, m7, q5, h⟩ := ax_b2_of h
    have s8 : ∀ n, ax_ex (e + 3) L_X11_show 10 [some (.inr (.inr (22, 0))), some (.inl v1), some (.inl v2)] [] m (n + 3) = ax_aft (fun s m2 => ax_ex (e + 3) L_X11_show 13 [some (.inr (.inr (22, 0))), some (.inl v1), some (.inl v2)] s m2 n) [] (ax_ex (e + 2) L_X11_no 0 (ax_entry [.inr (.inr (22, 0)), .inl (-2)] 2) [] m n) := fun n => rfl
    refine ax_gci (j := 3) (k2 := 13) (lv2 := [some (.inr (.inr (22, 0))), some (.inl v1), some (.inl v2)]) (rest := []) ((R_X11_no (by omega) q5)) s8 ?_
    obtain rfl := Option.some.inj h
    exact ax_rs 1 (fun n => rfl)
  · rw [if_neg c3] at h
    refine ax_gf c3 s4 ?_
    have s10 : ∀ n, ax_ex (e + 3) L_X11_show 3 [some (.inr (.inr (22, 0))), some (.inl v1), some (.inl v2)] [] m (n + 3) = if v2 = (-1) then ax_ex (e + 3) L_X11_show 14 [some (.inr (.inr (22, 0))), some (.inl v1), some (.inl v2)] [] m n else ax_ex (e + 3) L_X11_show 6 [some (.inr (.inr (22, 0))), some (.inl v1), some (.inl v2)] [] m n := fun n => rfl
    by_cases c9 : v2 = (-1)
    · rw [if_pos c9] at h
      refine ax_gt c9 s10 ?_
      have s12 : ∀ n, ax_ex (e + 3) L_X11_show 14 [some (.inr (.inr (22, 0))), some (.inl v1), some (.inl v2)] [] m (n + 6) = if v2 = (-1) then ax_ex (e + 3) L_X11_show 20 [some (.inr (.inr (22, 0))), some (.inl v1), some (.inl v2)] [.inl v1, .inr (.inr (31, 0))] m n else ax_ex (e + 3) L_X11_show 22 [some (.inr (.inr (22, 0))), some (.inl v1), some (.inl v2)] [.inl v1, .inr (.inr (31, 0))] m n := fun n => rfl
      by_cases c11 : v2 = (-1)
      · rw [if_pos c11] at h
        refine ax_gt c11 s12 ?_
        have s14 : ∀ n, ax_ex (e + 3) L_X11_show 20 [some (.inr (.inr (22, 0))), some (.inl v1), some (.inl v2)] [.inl v1, .inr (.inr (31, 0))] m (n + 3) = if ax_ok v1 8 = true then ax_ex (e + 3) L_X11_show 26 [some (.inr (.inr (22, 0))), some (.inl v1), some (.inl v2)] [] (ax_ui m 31 0 v1.toNatClampNeg (-1)) n else none := fun n => rfl
        by_cases c13 : ax_ok v1 8 = true
        · rw [if_pos c13] at h
          refine ax_gt c13 s14 ?_
          obtain rfl := Option.some.inj h
          exact ax_rs 2 (fun n => rfl)
        · rw [if_neg c13] at h
          cases h
      · rw [if_neg c11] at h
        refine ax_gf c11 s12 ?_
        have s16 : ∀ n, ax_ex (e + 3) L_X11_show 22 [some (.inr (.inr (22, 0))), some (.inl v1), some (.inl v2)] [.inl v1, .inr (.inr (31, 0))] m (n + 4) = if ax_ok v1 8 = true then ax_ex (e + 3) L_X11_show 26 [some (.inr (.inr (22, 0))), some (.inl v1), some (.inl v2)] [] (ax_ui m 31 0 v1.toNatClampNeg (10 + v2)) n else none := fun n => rfl
        by_cases c15 : ax_ok v1 8 = true
        · rw [if_pos c15] at h
          refine ax_gt c15 s16 ?_
          obtain rfl := Option.some.inj h
          exact ax_rs 2 (fun n => rfl)
        · rw [if_neg c15] at h
          cases h
    · rw [if_neg c9] at h
      refine ax_gf c9 s10 ?_
      obtain ⟨r18, q17, h⟩ := ax_b_of h
      have s31 : ∀ n, ax_ex (e + 3) L_X11_show 6 [some (.inr (.inr (22, 0))), some (.inl v1), some (.inl v2)] [] m (n + 3) = ax_aft (fun s m2 => ax_ex (e + 3) L_X11_show 9 [some (.inr (.inr (22, 0))), some (.inl v1), some (.inl v2)] s m2 n) [] (ax_ex (e + 2) L_X11_isSeed 0 (ax_entry [.inr (.inr (22, 0)), .inl v2] 2) [] m n) := fun n => rfl
      refine ax_gci (j := 3) (k2 := 9) (lv2 := [some (.inr (.inr (22, 0))), some (.inl v1), some (.inl v2)]) (rest := []) ((R_X11_isSeed (by omega) q17)) s31 ?_
      have s20 : ∀ n, ax_ex (e + 3) L_X11_show 9 [some (.inr (.inr (22, 0))), some (.inl v1), some (.inl v2)] [.inl r18] m (n + 1) = if r18 = 0 then ax_ex (e + 3) L_X11_show 10 [some (.inr (.inr (22, 0))), some (.inl v1), some (.inl v2)] [] m n else ax_ex (e + 3) L_X11_show 14 [some (.inr (.inr (22, 0))), some (.inl v1), some (.inl v2)] [] m n := fun n => rfl
      by_cases c19 : r18 = 0
      · rw [if_pos c19] at h
        refine ax_gt c19 s20 ?_
        obtain ⟨r22, m23, q21, h⟩ := ax_b2_of h
        have s24 : ∀ n, ax_ex (e + 3) L_X11_show 10 [some (.inr (.inr (22, 0))), some (.inl v1), some (.inl v2)] [] m (n + 3) = ax_aft (fun s m2 => ax_ex (e + 3) L_X11_show 13 [some (.inr (.inr (22, 0))), some (.inl v1), some (.inl v2)] s m2 n) [] (ax_ex (e + 2) L_X11_no 0 (ax_entry [.inr (.inr (22, 0)), .inl (-2)] 2) [] m n) := fun n => rfl
        refine ax_gci (j := 3) (k2 := 13) (lv2 := [some (.inr (.inr (22, 0))), some (.inl v1), some (.inl v2)]) (rest := []) ((R_X11_no (by omega) q21)) s24 ?_
        obtain rfl := Option.some.inj h
        exact ax_rs 1 (fun n => rfl)
      · rw [if_neg c19] at h
        refine ax_gf c19 s20 ?_
        have s26 : ∀ n, ax_ex (e + 3) L_X11_show 14 [some (.inr (.inr (22, 0))), some (.inl v1), some (.inl v2)] [] m (n + 6) = if v2 = (-1) then ax_ex (e + 3) L_X11_show 20 [some (.inr (.inr (22, 0))), some (.inl v1), some (.inl v2)] [.inl v1, .inr (.inr (31, 0))] m n else ax_ex (e + 3) L_X11_show 22 [some (.inr (.inr (22, 0))), some (.inl v1), some (.inl v2)] [.inl v1, .inr (.inr (31, 0))] m n := fun n => rfl
        by_cases c25 : v2 = (-1)
        · rw [if_pos c25] at h
          refine ax_gt c25 s26 ?_
          have s28 : ∀ n, ax_ex (e + 3) L_X11_show 20 [some (.inr (.inr (22, 0))), some (.inl v1), some (.inl v2)] [.inl v1, .inr (.inr (31, 0))] m (n + 3) = if ax_ok v1 8 = true then ax_ex (e + 3) L_X11_show 26 [some (.inr (.inr (22, 0))), some (.inl v1), some (.inl v2)] [] (ax_ui m 31 0 v1.toNatClampNeg (-1)) n else none := fun n => rfl
          by_cases c27 : ax_ok v1 8 = true
          · rw [if_pos c27] at h
            refine ax_gt c27 s28 ?_
            obtain rfl := Option.some.inj h
            exact ax_rs 2 (fun n => rfl)
          · rw [if_neg c27] at h
            cases h
        · rw [if_neg c25] at h
          refine ax_gf c25 s26 ?_
          have s30 : ∀ n, ax_ex (e + 3) L_X11_show 22 [some (.inr (.inr (22, 0))), some (.inl v1), some (.inl v2)] [.inl v1, .inr (.inr (31, 0))] m (n + 4) = if ax_ok v1 8 = true then ax_ex (e + 3) L_X11_show 26 [some (.inr (.inr (22, 0))), some (.inl v1), some (.inl v2)] [] (ax_ui m 31 0 v1.toNatClampNeg (10 + v2)) n else none := fun n => rfl
          by_cases c29 : ax_ok v1 8 = true
          · rw [if_pos c29] at h
            refine ax_gt c29 s30 ?_
            obtain rfl := Option.some.inj h
            exact ax_rs 2 (fun n => rfl)
          · rw [if_neg c29] at h
            cases h
def F_X11_isUnder (v0 : Int32) (v1 : Int32) : Option Int32 := if v1 = 0 then (some 1) else (if v0 = v1 then (some 1) else (if v0 = 3 then (if v1 = 1 then (some 1) else (if v0 = 4 then (if v1 = 2 then (some 1) else (some 0)) else (some 0))) else (if v0 = 4 then (if v1 = 2 then (some 1) else (some 0)) else (some 0))))
set_option maxRecDepth 20000 in
set_option maxHeartbeats 4000000 in
theorem R_X11_isUnder {d : Nat} (hd : 1 ≤ d) {m : ax_M} {v0 : Int32} {v1 : Int32} {q : Int32} (h : F_X11_isUnder v0 v1 = some q) : ax_Ru d L_X11_isUnder 0 (ax_entry [.inl v0, .inl v1] 2) [] m (some (.inl q), m) := by
  obtain ⟨e, rfl⟩ : ∃ e, d = e + 1 := ⟨d - 1, by omega⟩
  unfold F_X11_isUnder at h
  have s2 : ∀ n, ax_ex (e + 1) L_X11_isUnder 0 (ax_entry [.inl v0, .inl v1] 2) [] m (n + 2) = if v1 = 0 then ax_ex (e + 1) L_X11_isUnder 17 [some (.inl v0), some (.inl v1)] [] m n else ax_ex (e + 1) L_X11_isUnder 2 [some (.inl v0), some (.inl v1)] [] m n := fun n => rfl
  by_cases c1 : v1 = 0
  · rw [if_pos c1] at h
    refine ax_gt c1 s2 ?_
    obtain rfl := Option.some.inj h
    exact ax_rq (c := (1 : Int32) = 0 ∨ (1 : Int32) = 1) (j := 3) (by decide) (fun n => rfl)
  · rw [if_neg c1] at h
    refine ax_gf c1 s2 ?_
    have s4 : ∀ n, ax_ex (e + 1) L_X11_isUnder 2 [some (.inl v0), some (.inl v1)] [] m (n + 3) = if v0 = v1 then ax_ex (e + 1) L_X11_isUnder 17 [some (.inl v0), some (.inl v1)] [] m n else ax_ex (e + 1) L_X11_isUnder 5 [some (.inl v0), some (.inl v1)] [] m n := fun n => rfl
    by_cases c3 : v0 = v1
    · rw [if_pos c3] at h
      refine ax_gt c3 s4 ?_
      obtain rfl := Option.some.inj h
      exact ax_rq (c := (1 : Int32) = 0 ∨ (1 : Int32) = 1) (j := 3) (by decide) (fun n => rfl)
    · rw [if_neg c3] at h
      refine ax_gf c3 s4 ?_
      have s6 : ∀ n, ax_ex (e + 1) L_X11_isUnder 5 [some (.inl v0), some (.inl v1)] [] m (n + 3) = if v0 = 3 then ax_ex (e + 1) L_X11_isUnder 8 [some (.inl v0), some (.inl v1)] [] m n else ax_ex (e + 1) L_X11_isUnder 11 [some (.inl v0), some (.inl v1)] [] m n := fun n => rfl
      by_cases c5 : v0 = 3
      · rw [if_pos c5] at h
        refine ax_gt c5 s6 ?_
        have s8 : ∀ n, ax_ex (e + 1) L_X11_isUnder 8 [some (.inl v0), some (.inl v1)] [] m (n + 3) = if v1 = 1 then ax_ex (e + 1) L_X11_isUnder 17 [some (.inl v0), some (.inl v1)] [] m n else ax_ex (e + 1) L_X11_isUnder 11 [some (.inl v0), some (.inl v1)] [] m n := fun n => rfl
        by_cases c7 : v1 = 1
        · rw [if_pos c7] at h
          refine ax_gt c7 s8 ?_
          obtain rfl := Option.some.inj h
          exact ax_rq (c := (1 : Int32) = 0 ∨ (1 : Int32) = 1) (j := 3) (by decide) (fun n => rfl)
        · rw [if_neg c7] at h
          refine ax_gf c7 s8 ?_
          have s10 : ∀ n, ax_ex (e + 1) L_X11_isUnder 11 [some (.inl v0), some (.inl v1)] [] m (n + 3) = if v0 = 4 then ax_ex (e + 1) L_X11_isUnder 14 [some (.inl v0), some (.inl v1)] [] m n else ax_ex (e + 1) L_X11_isUnder 19 [some (.inl v0), some (.inl v1)] [] m n := fun n => rfl
          by_cases c9 : v0 = 4
          · rw [if_pos c9] at h
            refine ax_gt c9 s10 ?_
            have s12 : ∀ n, ax_ex (e + 1) L_X11_isUnder 14 [some (.inl v0), some (.inl v1)] [] m (n + 3) = if v1 = 2 then ax_ex (e + 1) L_X11_isUnder 17 [some (.inl v0), some (.inl v1)] [] m n else ax_ex (e + 1) L_X11_isUnder 19 [some (.inl v0), some (.inl v1)] [] m n := fun n => rfl
            by_cases c11 : v1 = 2
            · rw [if_pos c11] at h
              refine ax_gt c11 s12 ?_
              obtain rfl := Option.some.inj h
              exact ax_rq (c := (1 : Int32) = 0 ∨ (1 : Int32) = 1) (j := 3) (by decide) (fun n => rfl)
            · rw [if_neg c11] at h
              refine ax_gf c11 s12 ?_
              obtain rfl := Option.some.inj h
              exact ax_rq (c := (0 : Int32) = 0 ∨ (0 : Int32) = 1) (j := 2) (by decide) (fun n => rfl)
          · rw [if_neg c9] at h
            refine ax_gf c9 s10 ?_
            obtain rfl := Option.some.inj h
            exact ax_rq (c := (0 : Int32) = 0 ∨ (0 : Int32) = 1) (j := 2) (by decide) (fun n => rfl)
      · rw [if_neg c5] at h
        refine ax_gf c5 s6 ?_
        have s14 : ∀ n, ax_ex (e + 1) L_X11_isUnder 11 [some (.inl v0), some (.inl v1)] [] m (n + 3) = if v0 = 4 then ax_ex (e + 1) L_X11_isUnder 14 [some (.inl v0), some (.inl v1)] [] m n else ax_ex (e + 1) L_X11_isUnder 19 [some (.inl v0), some (.inl v1)] [] m n := fun n => rfl
        by_cases c13 : v0 = 4
        · rw [if_pos c13] at h
          refine ax_gt c13 s14 ?_
          have s16 : ∀ n, ax_ex (e + 1) L_X11_isUnder 14 [some (.inl v0), some (.inl v1)] [] m (n + 3) = if v1 = 2 then ax_ex (e + 1) L_X11_isUnder 17 [some (.inl v0), some (.inl v1)] [] m n else ax_ex (e + 1) L_X11_isUnder 19 [some (.inl v0), some (.inl v1)] [] m n := fun n => rfl
          by_cases c15 : v1 = 2
          · rw [if_pos c15] at h
            refine ax_gt c15 s16 ?_
            obtain rfl := Option.some.inj h
            exact ax_rq (c := (1 : Int32) = 0 ∨ (1 : Int32) = 1) (j := 3) (by decide) (fun n => rfl)
          · rw [if_neg c15] at h
            refine ax_gf c15 s16 ?_
            obtain rfl := Option.some.inj h
            exact ax_rq (c := (0 : Int32) = 0 ∨ (0 : Int32) = 1) (j := 2) (by decide) (fun n => rfl)
        · rw [if_neg c13] at h
          refine ax_gf c13 s14 ?_
          obtain rfl := Option.some.inj h
          exact ax_rq (c := (0 : Int32) = 0 ∨ (0 : Int32) = 1) (j := 2) (by decide) (fun n => rfl)
def F_X11_reachOf (m : ax_M) (v1 : Int32) : Option Int32 := if ax_ok v1 16 = true then (if (m.1 26 0 v1.toNatClampNeg) = 1 then (some 0) else (if (m.1 26 0 v1.toNatClampNeg) = 2 then (some 2) else (if (m.1 26 0 v1.toNatClampNeg) = 3 then (some 0) else (if (m.1 26 0 v1.toNatClampNeg) = 4 then (some 2) else (some 1))))) else (none)
set_option maxRecDepth 20000 in
set_option maxHeartbeats 4000000 in
theorem R_X11_reachOf {d : Nat} (hd : 1 ≤ d) {m : ax_M} {v1 : Int32} {q : Int32} (h : F_X11_reachOf m v1 = some q) : ax_Ru d L_X11_reachOf 0 (ax_entry [.inr (.inr (22, 0)), .inl v1] 2) [] m (some (.inl q), m) := by
  obtain ⟨e, rfl⟩ : ∃ e, d = e + 1 := ⟨d - 1, by omega⟩
  unfold F_X11_reachOf at h
  have s2 : ∀ n, ax_ex (e + 1) L_X11_reachOf 0 (ax_entry [.inr (.inr (22, 0)), .inl v1] 2) [] m (n + 4) = if ax_ok v1 16 = true then ax_ex (e + 1) L_X11_reachOf 4 [some (.inr (.inr (22, 0))), some (.inl v1)] [.inl (m.1 26 0 v1.toNatClampNeg)] m n else none := fun n => rfl
  by_cases c1 : ax_ok v1 16 = true
  · rw [if_pos c1] at h
    refine ax_gt c1 s2 ?_
    have s3 : ∀ n, ax_ex (e + 1) L_X11_reachOf 4 [some (.inr (.inr (22, 0))), some (.inl v1)] [.inl (m.1 26 0 v1.toNatClampNeg)] m (n + 1) = (if (m.1 26 0 v1.toNatClampNeg) = 1 then ax_ex (e + 1) L_X11_reachOf 5 [some (.inr (.inr (22, 0))), some (.inl v1)] [] m n else (if (m.1 26 0 v1.toNatClampNeg) = 2 then ax_ex (e + 1) L_X11_reachOf 7 [some (.inr (.inr (22, 0))), some (.inl v1)] [] m n else (if (m.1 26 0 v1.toNatClampNeg) = 3 then ax_ex (e + 1) L_X11_reachOf 5 [some (.inr (.inr (22, 0))), some (.inl v1)] [] m n else (if (m.1 26 0 v1.toNatClampNeg) = 4 then ax_ex (e + 1) L_X11_reachOf 7 [some (.inr (.inr (22, 0))), some (.inl v1)] [] m n else ax_ex (e + 1) L_X11_reachOf 9 [some (.inr (.inr (22, 0))), some (.inl v1)] [] m n)))) := fun n => rfl
    by_cases c4 : (m.1 26 0 v1.toNatClampNeg) = 1
    · rw [if_pos c4] at h
      refine ax_go (j := 1) (k2 := 5) (lv2 := [some (.inr (.inr (22, 0))), some (.inl v1)]) (st2 := []) (m2 := m) (fun n => (s3 n).trans (if_pos c4)) ?_
      obtain rfl := Option.some.inj h
      exact ax_rs 2 (fun n => rfl)
    · rw [if_neg c4] at h
      by_cases c5 : (m.1 26 0 v1.toNatClampNeg) = 2
      · rw [if_pos c5] at h
        refine ax_go (j := 1) (k2 := 7) (lv2 := [some (.inr (.inr (22, 0))), some (.inl v1)]) (st2 := []) (m2 := m) (fun n => ((s3 n).trans (if_neg c4)).trans (if_pos c5)) ?_
        obtain rfl := Option.some.inj h
        exact ax_rs 2 (fun n => rfl)
      · rw [if_neg c5] at h
        by_cases c6 : (m.1 26 0 v1.toNatClampNeg) = 3
        · rw [if_pos c6] at h
          refine ax_go (j := 1) (k2 := 5) (lv2 := [some (.inr (.inr (22, 0))), some (.inl v1)]) (st2 := []) (m2 := m) (fun n => (((s3 n).trans (if_neg c4)).trans (if_neg c5)).trans (if_pos c6)) ?_
          obtain rfl := Option.some.inj h
          exact ax_rs 2 (fun n => rfl)
        · rw [if_neg c6] at h
          by_cases c7 : (m.1 26 0 v1.toNatClampNeg) = 4
          · rw [if_pos c7] at h
            refine ax_go (j := 1) (k2 := 7) (lv2 := [some (.inr (.inr (22, 0))), some (.inl v1)]) (st2 := []) (m2 := m) (fun n => ((((s3 n).trans (if_neg c4)).trans (if_neg c5)).trans (if_neg c6)).trans (if_pos c7)) ?_
            obtain rfl := Option.some.inj h
            exact ax_rs 2 (fun n => rfl)
          · rw [if_neg c7] at h
            refine ax_go (j := 1) (k2 := 9) (lv2 := [some (.inr (.inr (22, 0))), some (.inl v1)]) (st2 := []) (m2 := m) (fun n => (((((s3 n).trans (if_neg c4)).trans (if_neg c5)).trans (if_neg c6)).trans (if_neg c7))) ?_
            obtain rfl := Option.some.inj h
            exact ax_rs 2 (fun n => rfl)
  · rw [if_neg c1] at h
    cases h
def F_X11_allOwed_L4 : Nat → ax_M → Int32 → Int32 → Int32 → Option Int32
  | 0, _, _, _, _ => none
  | n + 1, m, v1, v2, v3 => if (m.1 22 0 1) ≤ v3 then (some v2) else (if ax_ok ((8 * v1) + v3) 64 = true then (F_X11_allOwed_L4 n m v1 (v2 + (m.1 25 0 ((8 * v1) + v3).toNatClampNeg)) (v3 + 1)) else (none))
set_option maxRecDepth 20000 in
set_option maxHeartbeats 4000000 in
theorem R_X11_allOwed_L4 {e : Nat} {m : ax_M} {v1 : Int32} : ∀ (n : Nat) (v2 : Int32) (v3 : Int32) (q : Int32), F_X11_allOwed_L4 n m v1 v2 v3 = some q → ax_Ru (e + 1) L_X11_allOwed 4 [some (.inr (.inr (22, 0))), some (.inl v1), some (.inl v2), some (.inl v3)] [] m (some (.inl q), m) := by
  intro n
  induction n with
  | zero =>
    intro v2 v3 q h
    cases h
  | succ n ih =>
    intro v2 v3 q h
    rw [F_X11_allOwed_L4] at h
    have s2 : ∀ n, ax_ex (e + 1) L_X11_allOwed 4 [some (.inr (.inr (22, 0))), some (.inl v1), some (.inl v2), some (.inl v3)] [] m (n + 4) = if (m.1 22 0 1) ≤ v3 then ax_ex (e + 1) L_X11_allOwed 21 [some (.inr (.inr (22, 0))), some (.inl v1), some (.inl v2), some (.inl v3)] [] m n else ax_ex (e + 1) L_X11_allOwed 8 [some (.inr (.inr (22, 0))), some (.inl v1), some (.inl v2), some (.inl v3)] [] m n := fun n => rfl
    by_cases c1 : (m.1 22 0 1) ≤ v3
    · rw [if_pos c1] at h
      refine ax_gt c1 s2 ?_
      obtain rfl := Option.some.inj h
      exact ax_rs 2 (fun n => rfl)
    · rw [if_neg c1] at h
      refine ax_gf c1 s2 ?_
      refine ax_go (j := 8) (k2 := 16) (lv2 := [some (.inr (.inr (22, 0))), some (.inl v1), some (.inl v2), some (.inl v3)]) (st2 := [.inl ((8 * v1) + v3), .inr (.inr (25, 0)), .inl v2]) (m2 := m) (fun n => rfl) ?_
      obtain ⟨y3, hy3⟩ : ∃ y : Int32, y = ((8 * v1) + v3) := ⟨_, rfl⟩
      rw [← hy3] at h ⊢
      have s5 : ∀ n, ax_ex (e + 1) L_X11_allOwed 16 [some (.inr (.inr (22, 0))), some (.inl v1), some (.inl v2), some (.inl v3)] [.inl y3, .inr (.inr (25, 0)), .inl v2] m (n + 1) = if ax_ok y3 64 = true then ax_ex (e + 1) L_X11_allOwed 17 [some (.inr (.inr (22, 0))), some (.inl v1), some (.inl v2), some (.inl v3)] [.inl (m.1 25 0 y3.toNatClampNeg), .inl v2] m n else none := fun n => rfl
      by_cases c4 : ax_ok y3 64 = true
      · rw [if_pos c4] at h
        refine ax_gt c4 s5 ?_
        refine ax_go (j := 4) (k2 := 4) (lv2 := [some (.inr (.inr (22, 0))), some (.inl v1), some (.inl (v2 + (m.1 25 0 y3.toNatClampNeg))), some (.inl (v3 + 1))]) (st2 := []) (m2 := m) (fun n => rfl) ?_
        exact ax_fg (lv2 := [some (.inr (.inr (22, 0))), some (.inl v1), some (.inl (v2 + (m.1 25 0 y3.toNatClampNeg))), some (.inl (v3 + 1))]) ⟨rfl, rfl, rfl, rfl, trivial⟩ (ih (v2 + (m.1 25 0 y3.toNatClampNeg)) (v3 + 1) _ h)
      · rw [if_neg c4] at h
        cases h
def F_X11_allOwed (m : ax_M) (v1 : Int32) : Option Int32 := F_X11_allOwed_L4 ax_FU m v1 0 0
set_option maxRecDepth 20000 in
set_option maxHeartbeats 4000000 in
theorem R_X11_allOwed {d : Nat} (hd : 1 ≤ d) {m : ax_M} {v1 : Int32} {q : Int32} (h : F_X11_allOwed m v1 = some q) : ax_Ru d L_X11_allOwed 0 (ax_entry [.inr (.inr (22, 0)), .inl v1] 4) [] m (some (.inl q), m) := by
  obtain ⟨e, rfl⟩ : ∃ e, d = e + 1 := ⟨d - 1, by omega⟩
  unfold F_X11_allOwed at h
  refine ax_go (j := 4) (k2 := 4) (lv2 := [some (.inr (.inr (22, 0))), some (.inl v1), some (.inl 0), some (.inl 0)]) (st2 := []) (m2 := m) (fun n => rfl) ?_
  refine ax_fg (lv2 := [some (.inr (.inr (22, 0))), some (.inl v1), some (.inl 0), some (.inl 0)]) ⟨rfl, rfl, rfl, rfl, trivial⟩ ?_
  refine R_X11_allOwed_L4 _ 0 0 _ h
def F_X11_owing_L4 : Nat → ax_M → Int32 → Int32 → Option Int32
  | 0, _, _, _ => none
  | n + 1, m, v1, v2 => if (m.1 22 0 1) ≤ v2 then (some v1) else (ax_b (F_X11_allOwed m v2) (fun r4 => if r4 ≤ 0 then (F_X11_owing_L4 n m v1 (v2 + 1)) else (F_X11_owing_L4 n m (v1 + 1) (v2 + 1))))
set_option maxRecDepth 20000 in
set_option maxHeartbeats 4000000 in
theorem R_X11_owing_L4 {e : Nat} {m : ax_M} : ∀ (n : Nat) (v1 : Int32) (v2 : Int32) (q : Int32), F_X11_owing_L4 n m v1 v2 = some q → ax_Ru (e + 2) L_X11_owing 4 [some (.inr (.inr (22, 0))), some (.inl v1), some (.inl v2)] [] m (some (.inl q), m) := by
  intro n
  induction n with
  | zero =>
    intro v1 v2 q h
    cases h
  | succ n ih =>
    intro v1 v2 q h
    rw [F_X11_owing_L4] at h
    have s2 : ∀ n, ax_ex (e + 2) L_X11_owing 4 [some (.inr (.inr (22, 0))), some (.inl v1), some (.inl v2)] [] m (n + 4) = if (m.1 22 0 1) ≤ v2 then ax_ex (e + 2) L_X11_owing 15 [some (.inr (.inr (22, 0))), some (.inl v1), some (.inl v2)] [] m n else ax_ex (e + 2) L_X11_owing 8 [some (.inr (.inr (22, 0))), some (.inl v1), some (.inl v2)] [] m n := fun n => rfl
    by_cases c1 : (m.1 22 0 1) ≤ v2
    · rw [if_pos c1] at h
      refine ax_gt c1 s2 ?_
      obtain rfl := Option.some.inj h
      exact ax_rs 2 (fun n => rfl)
    · rw [if_neg c1] at h
      refine ax_gf c1 s2 ?_
      obtain ⟨r4, q3, h⟩ := ax_b_of h
      have s7 : ∀ n, ax_ex (e + 2) L_X11_owing 8 [some (.inr (.inr (22, 0))), some (.inl v1), some (.inl v2)] [] m (n + 3) = ax_aft (fun s m2 => ax_ex (e + 2) L_X11_owing 11 [some (.inr (.inr (22, 0))), some (.inl v1), some (.inl v2)] s m2 n) [] (ax_ex (e + 1) L_X11_allOwed 0 (ax_entry [.inr (.inr (22, 0)), .inl v2] 4) [] m n) := fun n => rfl
      refine ax_gci (j := 3) (k2 := 11) (lv2 := [some (.inr (.inr (22, 0))), some (.inl v1), some (.inl v2)]) (rest := []) ((R_X11_allOwed (by omega) q3)) s7 ?_
      have s6 : ∀ n, ax_ex (e + 2) L_X11_owing 11 [some (.inr (.inr (22, 0))), some (.inl v1), some (.inl v2)] [.inl r4] m (n + 1) = if r4 ≤ 0 then ax_ex (e + 2) L_X11_owing 13 [some (.inr (.inr (22, 0))), some (.inl v1), some (.inl v2)] [] m n else ax_ex (e + 2) L_X11_owing 12 [some (.inr (.inr (22, 0))), some (.inl v1), some (.inl v2)] [] m n := fun n => rfl
      by_cases c5 : r4 ≤ 0
      · rw [if_pos c5] at h
        refine ax_gt c5 s6 ?_
        refine ax_go (j := 2) (k2 := 4) (lv2 := [some (.inr (.inr (22, 0))), some (.inl v1), some (.inl (v2 + 1))]) (st2 := []) (m2 := m) (fun n => rfl) ?_
        exact ax_fg (lv2 := [some (.inr (.inr (22, 0))), some (.inl v1), some (.inl (v2 + 1))]) ⟨rfl, rfl, rfl, trivial⟩ (ih v1 (v2 + 1) _ h)
      · rw [if_neg c5] at h
        refine ax_gf c5 s6 ?_
        refine ax_go (j := 3) (k2 := 4) (lv2 := [some (.inr (.inr (22, 0))), some (.inl (v1 + 1)), some (.inl (v2 + 1))]) (st2 := []) (m2 := m) (fun n => rfl) ?_
        exact ax_fg (lv2 := [some (.inr (.inr (22, 0))), some (.inl (v1 + 1)), some (.inl (v2 + 1))]) ⟨rfl, rfl, rfl, trivial⟩ (ih (v1 + 1) (v2 + 1) _ h)
def F_X11_owing (m : ax_M) : Option Int32 := F_X11_owing_L4 ax_FU m 0 0
set_option maxRecDepth 20000 in
set_option maxHeartbeats 4000000 in
theorem R_X11_owing {d : Nat} (hd : 2 ≤ d) {m : ax_M} {q : Int32} (h : F_X11_owing m = some q) : ax_Ru d L_X11_owing 0 (ax_entry [.inr (.inr (22, 0))] 3) [] m (some (.inl q), m) := by
  obtain ⟨e, rfl⟩ : ∃ e, d = e + 2 := ⟨d - 2, by omega⟩
  unfold F_X11_owing at h
  refine ax_go (j := 4) (k2 := 4) (lv2 := [some (.inr (.inr (22, 0))), some (.inl 0), some (.inl 0)]) (st2 := []) (m2 := m) (fun n => rfl) ?_
  refine ax_fg (lv2 := [some (.inr (.inr (22, 0))), some (.inl 0), some (.inl 0)]) ⟨rfl, rfl, rfl, trivial⟩ ?_
  refine R_X11_owing_L4 _ 0 0 _ h
def F_X11_takes (m : ax_M) (v1 : Int32) : Option Int32 := if ax_ok v1 16 = true then (if (m.1 26 0 v1.toNatClampNeg) = 3 then (if ax_ok v1 16 = true then (some (ax_max 1 (10 * (m.1 27 0 v1.toNatClampNeg)))) else (none)) else (if ax_ok v1 16 = true then (if (m.1 26 0 v1.toNatClampNeg) = 5 then (if ax_ok v1 16 = true then (some (ax_max 1 (m.1 27 0 v1.toNatClampNeg))) else (none)) else (some (ax_max 1 1))) else (none))) else (none)
set_option maxRecDepth 20000 in
set_option maxHeartbeats 4000000 in
theorem R_X11_takes {d : Nat} (hd : 6 ≤ d) {m : ax_M} {v1 : Int32} {q : Int32} (h : F_X11_takes m v1 = some q) : ax_Ru d L_X11_takes 0 (ax_entry [.inr (.inr (22, 0)), .inl v1] 2) [] m (some (.inl q), m) := by
  obtain ⟨e, rfl⟩ : ∃ e, d = e + 6 := ⟨d - 6, by omega⟩
  unfold F_X11_takes at h
  have s2 : ∀ n, ax_ex (e + 6) L_X11_takes 0 (ax_entry [.inr (.inr (22, 0)), .inl v1] 2) [] m (n + 5) = if ax_ok v1 16 = true then ax_ex (e + 6) L_X11_takes 5 [some (.inr (.inr (22, 0))), some (.inl v1)] [.inl (m.1 26 0 v1.toNatClampNeg), .inl 1] m n else none := fun n => rfl
  by_cases c1 : ax_ok v1 16 = true
  · rw [if_pos c1] at h
    refine ax_gt c1 s2 ?_
    have s4 : ∀ n, ax_ex (e + 6) L_X11_takes 5 [some (.inr (.inr (22, 0))), some (.inl v1)] [.inl (m.1 26 0 v1.toNatClampNeg), .inl 1] m (n + 2) = if (m.1 26 0 v1.toNatClampNeg) = 3 then ax_ex (e + 6) L_X11_takes 7 [some (.inr (.inr (22, 0))), some (.inl v1)] [.inl 1] m n else ax_ex (e + 6) L_X11_takes 14 [some (.inr (.inr (22, 0))), some (.inl v1)] [.inl 1] m n := fun n => rfl
    by_cases c3 : (m.1 26 0 v1.toNatClampNeg) = 3
    · rw [if_pos c3] at h
      refine ax_gt c3 s4 ?_
      have s6 : ∀ n, ax_ex (e + 6) L_X11_takes 7 [some (.inr (.inr (22, 0))), some (.inl v1)] [.inl 1] m (n + 5) = if ax_ok v1 16 = true then ax_ex (e + 6) L_X11_takes 12 [some (.inr (.inr (22, 0))), some (.inl v1)] [.inl (m.1 27 0 v1.toNatClampNeg), .inl 10, .inl 1] m n else none := fun n => rfl
      by_cases c5 : ax_ok v1 16 = true
      · rw [if_pos c5] at h
        refine ax_gt c5 s6 ?_
        obtain rfl := Option.some.inj h
        exact ax_rs 4 (fun n => rfl)
      · rw [if_neg c5] at h
        cases h
    · rw [if_neg c3] at h
      refine ax_gf c3 s4 ?_
      have s8 : ∀ n, ax_ex (e + 6) L_X11_takes 14 [some (.inr (.inr (22, 0))), some (.inl v1)] [.inl 1] m (n + 4) = if ax_ok v1 16 = true then ax_ex (e + 6) L_X11_takes 18 [some (.inr (.inr (22, 0))), some (.inl v1)] [.inl (m.1 26 0 v1.toNatClampNeg), .inl 1] m n else none := fun n => rfl
      by_cases c7 : ax_ok v1 16 = true
      · rw [if_pos c7] at h
        refine ax_gt c7 s8 ?_
        have s10 : ∀ n, ax_ex (e + 6) L_X11_takes 18 [some (.inr (.inr (22, 0))), some (.inl v1)] [.inl (m.1 26 0 v1.toNatClampNeg), .inl 1] m (n + 2) = if (m.1 26 0 v1.toNatClampNeg) = 5 then ax_ex (e + 6) L_X11_takes 20 [some (.inr (.inr (22, 0))), some (.inl v1)] [.inl 1] m n else ax_ex (e + 6) L_X11_takes 25 [some (.inr (.inr (22, 0))), some (.inl v1)] [.inl 1] m n := fun n => rfl
        by_cases c9 : (m.1 26 0 v1.toNatClampNeg) = 5
        · rw [if_pos c9] at h
          refine ax_gt c9 s10 ?_
          have s12 : ∀ n, ax_ex (e + 6) L_X11_takes 20 [some (.inr (.inr (22, 0))), some (.inl v1)] [.inl 1] m (n + 4) = if ax_ok v1 16 = true then ax_ex (e + 6) L_X11_takes 24 [some (.inr (.inr (22, 0))), some (.inl v1)] [.inl (m.1 27 0 v1.toNatClampNeg), .inl 1] m n else none := fun n => rfl
          by_cases c11 : ax_ok v1 16 = true
          · rw [if_pos c11] at h
            refine ax_gt c11 s12 ?_
            obtain rfl := Option.some.inj h
            exact ax_rs 3 (fun n => rfl)
          · rw [if_neg c11] at h
            cases h
        · rw [if_neg c9] at h
          refine ax_gf c9 s10 ?_
          obtain rfl := Option.some.inj h
          exact ax_rs 3 (fun n => rfl)
      · rw [if_neg c7] at h
        cases h
  · rw [if_neg c1] at h
    cases h
def F_X11_says (m : ax_M) (v1 : Int32) (v2 : Int32) : Option (Int32 × ax_M) := ax_b (F_X11_isShelf v1) (fun r2 => if r2 = 0 then (ax_b2 (F_X11_no m (-2)) (fun r6 m7 => some (r6, m7))) else (ax_b (F_X11_within v2 0 5) (fun r10 => if r10 = 0 then (ax_b2 (F_X11_no m (-2)) (fun r14 m15 => some (r14, m15))) else (ax_b (F_X11_isRow m v1) (fun r18 => if r18 = 0 then (if ax_ok v1 8 = true then (if 0 ≤ (m.1 31 0 v1.toNatClampNeg) then (if ax_ok v1 8 = true then (if ax_ok ((m.1 31 0 v1.toNatClampNeg) - 10) 16 = true then (ax_b (F_X11_isUnder (m.1 26 0 ((m.1 31 0 v1.toNatClampNeg) - 10).toNatClampNeg) v2) (fun r31 => if r31 = 0 then (ax_b2 (F_X11_no m (-3)) (fun r35 m36 => some (r35, m36))) else (if v2 = 0 then (if ax_ok ((m.1 31 0 v1.toNatClampNeg) - 10) 16 = true then (some ((m.1 29 0 ((m.1 31 0 v1.toNatClampNeg) - 10).toNatClampNeg), m)) else (none)) else (if v2 = 1 then (ax_b (F_X11_reachOf m ((m.1 31 0 v1.toNatClampNeg) - 10)) (fun r44 => some (r44, m))) else (if v2 = 2 then (ax_b (F_X11_reachOf m ((m.1 31 0 v1.toNatClampNeg) - 10)) (fun r48 => some (r48, m))) else (if v2 = 3 then (ax_b (F_X11_takes m ((m.1 31 0 v1.toNatClampNeg) - 10)) (fun r52 => some (r52, m))) else (if v2 = 4 then (ax_b (F_X11_owing m) (fun r56 => some (r56, m))) else (ax_b (F_X11_takes m ((m.1 31 0 v1.toNatClampNeg) - 10)) (fun r59 => some (r59, m)))))))))) else (none)) else (none)) else (ax_b2 (F_X11_no m (-4)) (fun r63 m64 => some (r63, m64)))) else (none)) else (ax_b2 (F_X11_no m (-3)) (fun r67 m68 => some (r67, m68))))))))
set_option maxRecDepth 20000 in
set_option maxHeartbeats 4000000 in
theorem R_X11_says {d : Nat} (hd : 7 ≤ d) {m : ax_M} {v1 : Int32} {v2 : Int32} {q : (Int32 × ax_M)} (h : F_X11_says m v1 v2 = some q) : ax_Ru d L_X11_says 0 (ax_entry [.inr (.inr (22, 0)), .inl v1, .inl v2] 4) [] m (some (.inl q.1), q.2) := by
  obtain ⟨e, rfl⟩ : ∃ e, d = e + 7 := ⟨d - 7, by omega⟩
  unfold F_X11_says at h
  obtain ⟨r2, q1, h⟩ := ax_b_of h
  have s72 : ∀ n, ax_ex (e + 7) L_X11_says 0 (ax_entry [.inr (.inr (22, 0)), .inl v1, .inl v2] 4) [] m (n + 2) = ax_aft (fun s m2 => ax_ex (e + 7) L_X11_says 2 [some (.inr (.inr (22, 0))), some (.inl v1), some (.inl v2), none] s m2 n) [] (ax_ex (e + 6) L_X11_isShelf 0 (ax_entry [.inl v1] 1) [] m n) := fun n => rfl
  refine ax_gci (j := 2) (k2 := 2) (lv2 := [some (.inr (.inr (22, 0))), some (.inl v1), some (.inl v2), none]) (rest := []) ((R_X11_isShelf (by omega) q1)) s72 ?_
  have s4 : ∀ n, ax_ex (e + 7) L_X11_says 2 [some (.inr (.inr (22, 0))), some (.inl v1), some (.inl v2), none] [.inl r2] m (n + 1) = if r2 = 0 then ax_ex (e + 7) L_X11_says 8 [some (.inr (.inr (22, 0))), some (.inl v1), some (.inl v2), none] [] m n else ax_ex (e + 7) L_X11_says 3 [some (.inr (.inr (22, 0))), some (.inl v1), some (.inl v2), none] [] m n := fun n => rfl
  by_cases c3 : r2 = 0
  · rw [if_pos c3] at h
    refine ax_gt c3 s4 ?_
    obtain ⟨r6, m7, q5, h⟩ := ax_b2_of h
    have s8 : ∀ n, ax_ex (e + 7) L_X11_says 8 [some (.inr (.inr (22, 0))), some (.inl v1), some (.inl v2), none] [] m (n + 3) = ax_aft (fun s m2 => ax_ex (e + 7) L_X11_says 11 [some (.inr (.inr (22, 0))), some (.inl v1), some (.inl v2), none] s m2 n) [] (ax_ex (e + 6) L_X11_no 0 (ax_entry [.inr (.inr (22, 0)), .inl (-2)] 2) [] m n) := fun n => rfl
    refine ax_gci (j := 3) (k2 := 11) (lv2 := [some (.inr (.inr (22, 0))), some (.inl v1), some (.inl v2), none]) (rest := []) ((R_X11_no (by omega) q5)) s8 ?_
    obtain rfl := Option.some.inj h
    exact ax_rs 1 (fun n => rfl)
  · rw [if_neg c3] at h
    refine ax_gf c3 s4 ?_
    obtain ⟨r10, q9, h⟩ := ax_b_of h
    have s71 : ∀ n, ax_ex (e + 7) L_X11_says 3 [some (.inr (.inr (22, 0))), some (.inl v1), some (.inl v2), none] [] m (n + 4) = ax_aft (fun s m2 => ax_ex (e + 7) L_X11_says 7 [some (.inr (.inr (22, 0))), some (.inl v1), some (.inl v2), none] s m2 n) [] (ax_ex (e + 6) L_X11_within 0 (ax_entry [.inl v2, .inl 0, .inl 5] 3) [] m n) := fun n => rfl
    refine ax_gci (j := 4) (k2 := 7) (lv2 := [some (.inr (.inr (22, 0))), some (.inl v1), some (.inl v2), none]) (rest := []) ((R_X11_within (by omega) q9)) s71 ?_
    have s12 : ∀ n, ax_ex (e + 7) L_X11_says 7 [some (.inr (.inr (22, 0))), some (.inl v1), some (.inl v2), none] [.inl r10] m (n + 1) = if r10 = 0 then ax_ex (e + 7) L_X11_says 8 [some (.inr (.inr (22, 0))), some (.inl v1), some (.inl v2), none] [] m n else ax_ex (e + 7) L_X11_says 12 [some (.inr (.inr (22, 0))), some (.inl v1), some (.inl v2), none] [] m n := fun n => rfl
    by_cases c11 : r10 = 0
    · rw [if_pos c11] at h
      refine ax_gt c11 s12 ?_
      obtain ⟨r14, m15, q13, h⟩ := ax_b2_of h
      have s16 : ∀ n, ax_ex (e + 7) L_X11_says 8 [some (.inr (.inr (22, 0))), some (.inl v1), some (.inl v2), none] [] m (n + 3) = ax_aft (fun s m2 => ax_ex (e + 7) L_X11_says 11 [some (.inr (.inr (22, 0))), some (.inl v1), some (.inl v2), none] s m2 n) [] (ax_ex (e + 6) L_X11_no 0 (ax_entry [.inr (.inr (22, 0)), .inl (-2)] 2) [] m n) := fun n => rfl
      refine ax_gci (j := 3) (k2 := 11) (lv2 := [some (.inr (.inr (22, 0))), some (.inl v1), some (.inl v2), none]) (rest := []) ((R_X11_no (by omega) q13)) s16 ?_
      obtain rfl := Option.some.inj h
      exact ax_rs 1 (fun n => rfl)
    · rw [if_neg c11] at h
      refine ax_gf c11 s12 ?_
      obtain ⟨r18, q17, h⟩ := ax_b_of h
      have s70 : ∀ n, ax_ex (e + 7) L_X11_says 12 [some (.inr (.inr (22, 0))), some (.inl v1), some (.inl v2), none] [] m (n + 3) = ax_aft (fun s m2 => ax_ex (e + 7) L_X11_says 15 [some (.inr (.inr (22, 0))), some (.inl v1), some (.inl v2), none] s m2 n) [] (ax_ex (e + 6) L_X11_isRow 0 (ax_entry [.inr (.inr (22, 0)), .inl v1] 2) [] m n) := fun n => rfl
      refine ax_gci (j := 3) (k2 := 15) (lv2 := [some (.inr (.inr (22, 0))), some (.inl v1), some (.inl v2), none]) (rest := []) ((R_X11_isRow (by omega) q17)) s70 ?_
      have s20 : ∀ n, ax_ex (e + 7) L_X11_says 15 [some (.inr (.inr (22, 0))), some (.inl v1), some (.inl v2), none] [.inl r18] m (n + 1) = if r18 = 0 then ax_ex (e + 7) L_X11_says 20 [some (.inr (.inr (22, 0))), some (.inl v1), some (.inl v2), none] [] m n else ax_ex (e + 7) L_X11_says 16 [some (.inr (.inr (22, 0))), some (.inl v1), some (.inl v2), none] [] m n := fun n => rfl
      by_cases c19 : r18 = 0
      · rw [if_pos c19] at h
        refine ax_gt c19 s20 ?_
        have s22 : ∀ n, ax_ex (e + 7) L_X11_says 20 [some (.inr (.inr (22, 0))), some (.inl v1), some (.inl v2), none] [] m (n + 4) = if ax_ok v1 8 = true then ax_ex (e + 7) L_X11_says 24 [some (.inr (.inr (22, 0))), some (.inl v1), some (.inl v2), none] [.inl (m.1 31 0 v1.toNatClampNeg)] m n else none := fun n => rfl
        by_cases c21 : ax_ok v1 8 = true
        · rw [if_pos c21] at h
          refine ax_gt c21 s22 ?_
          have s24 : ∀ n, ax_ex (e + 7) L_X11_says 24 [some (.inr (.inr (22, 0))), some (.inl v1), some (.inl v2), none] [.inl (m.1 31 0 v1.toNatClampNeg)] m (n + 1) = if 0 ≤ (m.1 31 0 v1.toNatClampNeg) then ax_ex (e + 7) L_X11_says 29 [some (.inr (.inr (22, 0))), some (.inl v1), some (.inl v2), none] [] m n else ax_ex (e + 7) L_X11_says 25 [some (.inr (.inr (22, 0))), some (.inl v1), some (.inl v2), none] [] m n := fun n => rfl
          by_cases c23 : 0 ≤ (m.1 31 0 v1.toNatClampNeg)
          · rw [if_pos c23] at h
            refine ax_gt c23 s24 ?_
            have s26 : ∀ n, ax_ex (e + 7) L_X11_says 29 [some (.inr (.inr (22, 0))), some (.inl v1), some (.inl v2), none] [] m (n + 4) = if ax_ok v1 8 = true then ax_ex (e + 7) L_X11_says 33 [some (.inr (.inr (22, 0))), some (.inl v1), some (.inl v2), none] [.inl (m.1 31 0 v1.toNatClampNeg)] m n else none := fun n => rfl
            by_cases c25 : ax_ok v1 8 = true
            · rw [if_pos c25] at h
              refine ax_gt c25 s26 ?_
              refine ax_go (j := 6) (k2 := 39) (lv2 := [some (.inr (.inr (22, 0))), some (.inl v1), some (.inl v2), some (.inl ((m.1 31 0 v1.toNatClampNeg) - 10))]) (st2 := [.inl ((m.1 31 0 v1.toNatClampNeg) - 10), .inr (.inr (26, 0))]) (m2 := m) (fun n => rfl) ?_
              obtain ⟨y27, hy27⟩ : ∃ y : Int32, y = ((m.1 31 0 v1.toNatClampNeg) - 10) := ⟨_, rfl⟩
              rw [← hy27] at h ⊢
              have s29 : ∀ n, ax_ex (e + 7) L_X11_says 39 [some (.inr (.inr (22, 0))), some (.inl v1), some (.inl v2), some (.inl y27)] [.inl y27, .inr (.inr (26, 0))] m (n + 1) = if ax_ok y27 16 = true then ax_ex (e + 7) L_X11_says 40 [some (.inr (.inr (22, 0))), some (.inl v1), some (.inl v2), some (.inl y27)] [.inl (m.1 26 0 y27.toNatClampNeg)] m n else none := fun n => rfl
              by_cases c28 : ax_ok y27 16 = true
              · rw [if_pos c28] at h
                refine ax_gt c28 s29 ?_
                obtain ⟨r31, q30, h⟩ := ax_b_of h
                have s61 : ∀ n, ax_ex (e + 7) L_X11_says 40 [some (.inr (.inr (22, 0))), some (.inl v1), some (.inl v2), some (.inl y27)] [.inl (m.1 26 0 y27.toNatClampNeg)] m (n + 2) = ax_aft (fun s m2 => ax_ex (e + 7) L_X11_says 42 [some (.inr (.inr (22, 0))), some (.inl v1), some (.inl v2), some (.inl y27)] s m2 n) [] (ax_ex (e + 6) L_X11_isUnder 0 (ax_entry [.inl (m.1 26 0 y27.toNatClampNeg), .inl v2] 2) [] m n) := fun n => rfl
                refine ax_gci (j := 2) (k2 := 42) (lv2 := [some (.inr (.inr (22, 0))), some (.inl v1), some (.inl v2), some (.inl y27)]) (rest := []) ((R_X11_isUnder (by omega) q30)) s61 ?_
                have s33 : ∀ n, ax_ex (e + 7) L_X11_says 42 [some (.inr (.inr (22, 0))), some (.inl v1), some (.inl v2), some (.inl y27)] [.inl r31] m (n + 1) = if r31 = 0 then ax_ex (e + 7) L_X11_says 43 [some (.inr (.inr (22, 0))), some (.inl v1), some (.inl v2), some (.inl y27)] [] m n else ax_ex (e + 7) L_X11_says 47 [some (.inr (.inr (22, 0))), some (.inl v1), some (.inl v2), some (.inl y27)] [] m n := fun n => rfl
                by_cases c32 : r31 = 0
                · rw [if_pos c32] at h
                  refine ax_gt c32 s33 ?_
                  obtain ⟨r35, m36, q34, h⟩ := ax_b2_of h
                  have s37 : ∀ n, ax_ex (e + 7) L_X11_says 43 [some (.inr (.inr (22, 0))), some (.inl v1), some (.inl v2), some (.inl y27)] [] m (n + 3) = ax_aft (fun s m2 => ax_ex (e + 7) L_X11_says 46 [some (.inr (.inr (22, 0))), some (.inl v1), some (.inl v2), some (.inl y27)] s m2 n) [] (ax_ex (e + 6) L_X11_no 0 (ax_entry [.inr (.inr (22, 0)), .inl (-3)] 2) [] m n) := fun n => rfl
                  refine ax_gci (j := 3) (k2 := 46) (lv2 := [some (.inr (.inr (22, 0))), some (.inl v1), some (.inl v2), some (.inl y27)]) (rest := []) ((R_X11_no (by omega) q34)) s37 ?_
                  obtain rfl := Option.some.inj h
                  exact ax_rs 1 (fun n => rfl)
                · rw [if_neg c32] at h
                  refine ax_gf c32 s33 ?_
                  have s38 : ∀ n, ax_ex (e + 7) L_X11_says 47 [some (.inr (.inr (22, 0))), some (.inl v1), some (.inl v2), some (.inl y27)] [] m (n + 2) = (if v2 = 0 then ax_ex (e + 7) L_X11_says 49 [some (.inr (.inr (22, 0))), some (.inl v1), some (.inl v2), some (.inl y27)] [] m n else (if v2 = 1 then ax_ex (e + 7) L_X11_says 54 [some (.inr (.inr (22, 0))), some (.inl v1), some (.inl v2), some (.inl y27)] [] m n else (if v2 = 2 then ax_ex (e + 7) L_X11_says 54 [some (.inr (.inr (22, 0))), some (.inl v1), some (.inl v2), some (.inl y27)] [] m n else (if v2 = 3 then ax_ex (e + 7) L_X11_says 61 [some (.inr (.inr (22, 0))), some (.inl v1), some (.inl v2), some (.inl y27)] [] m n else (if v2 = 4 then ax_ex (e + 7) L_X11_says 58 [some (.inr (.inr (22, 0))), some (.inl v1), some (.inl v2), some (.inl y27)] [] m n else ax_ex (e + 7) L_X11_says 61 [some (.inr (.inr (22, 0))), some (.inl v1), some (.inl v2), some (.inl y27)] [] m n))))) := fun n => rfl
                  by_cases c39 : v2 = 0
                  · rw [if_pos c39] at h
                    refine ax_go (j := 2) (k2 := 49) (lv2 := [some (.inr (.inr (22, 0))), some (.inl v1), some (.inl v2), some (.inl y27)]) (st2 := []) (m2 := m) (fun n => (s38 n).trans (if_pos c39)) ?_
                    have s41 : ∀ n, ax_ex (e + 7) L_X11_says 49 [some (.inr (.inr (22, 0))), some (.inl v1), some (.inl v2), some (.inl y27)] [] m (n + 4) = if ax_ok y27 16 = true then ax_ex (e + 7) L_X11_says 53 [some (.inr (.inr (22, 0))), some (.inl v1), some (.inl v2), some (.inl y27)] [.inl (m.1 29 0 y27.toNatClampNeg)] m n else none := fun n => rfl
                    by_cases c40 : ax_ok y27 16 = true
                    · rw [if_pos c40] at h
                      refine ax_gt c40 s41 ?_
                      obtain rfl := Option.some.inj h
                      exact ax_rs 1 (fun n => rfl)
                    · rw [if_neg c40] at h
                      cases h
                  · rw [if_neg c39] at h
                    by_cases c42 : v2 = 1
                    · rw [if_pos c42] at h
                      refine ax_go (j := 2) (k2 := 54) (lv2 := [some (.inr (.inr (22, 0))), some (.inl v1), some (.inl v2), some (.inl y27)]) (st2 := []) (m2 := m) (fun n => ((s38 n).trans (if_neg c39)).trans (if_pos c42)) ?_
                      obtain ⟨r44, q43, h⟩ := ax_b_of h
                      have s45 : ∀ n, ax_ex (e + 7) L_X11_says 54 [some (.inr (.inr (22, 0))), some (.inl v1), some (.inl v2), some (.inl y27)] [] m (n + 3) = ax_aft (fun s m2 => ax_ex (e + 7) L_X11_says 57 [some (.inr (.inr (22, 0))), some (.inl v1), some (.inl v2), some (.inl y27)] s m2 n) [] (ax_ex (e + 6) L_X11_reachOf 0 (ax_entry [.inr (.inr (22, 0)), .inl y27] 2) [] m n) := fun n => rfl
                      refine ax_gci (j := 3) (k2 := 57) (lv2 := [some (.inr (.inr (22, 0))), some (.inl v1), some (.inl v2), some (.inl y27)]) (rest := []) ((R_X11_reachOf (by omega) q43)) s45 ?_
                      obtain rfl := Option.some.inj h
                      exact ax_rs 1 (fun n => rfl)
                    · rw [if_neg c42] at h
                      by_cases c46 : v2 = 2
                      · rw [if_pos c46] at h
                        refine ax_go (j := 2) (k2 := 54) (lv2 := [some (.inr (.inr (22, 0))), some (.inl v1), some (.inl v2), some (.inl y27)]) (st2 := []) (m2 := m) (fun n => (((s38 n).trans (if_neg c39)).trans (if_neg c42)).trans (if_pos c46)) ?_
                        obtain ⟨r48, q47, h⟩ := ax_b_of h
                        have s49 : ∀ n, ax_ex (e + 7) L_X11_says 54 [some (.inr (.inr (22, 0))), some (.inl v1), some (.inl v2), some (.inl y27)] [] m (n + 3) = ax_aft (fun s m2 => ax_ex (e + 7) L_X11_says 57 [some (.inr (.inr (22, 0))), some (.inl v1), some (.inl v2), some (.inl y27)] s m2 n) [] (ax_ex (e + 6) L_X11_reachOf 0 (ax_entry [.inr (.inr (22, 0)), .inl y27] 2) [] m n) := fun n => rfl
                        refine ax_gci (j := 3) (k2 := 57) (lv2 := [some (.inr (.inr (22, 0))), some (.inl v1), some (.inl v2), some (.inl y27)]) (rest := []) ((R_X11_reachOf (by omega) q47)) s49 ?_
                        obtain rfl := Option.some.inj h
                        exact ax_rs 1 (fun n => rfl)
                      · rw [if_neg c46] at h
                        by_cases c50 : v2 = 3
                        · rw [if_pos c50] at h
                          refine ax_go (j := 2) (k2 := 61) (lv2 := [some (.inr (.inr (22, 0))), some (.inl v1), some (.inl v2), some (.inl y27)]) (st2 := []) (m2 := m) (fun n => ((((s38 n).trans (if_neg c39)).trans (if_neg c42)).trans (if_neg c46)).trans (if_pos c50)) ?_
                          obtain ⟨r52, q51, h⟩ := ax_b_of h
                          have s53 : ∀ n, ax_ex (e + 7) L_X11_says 61 [some (.inr (.inr (22, 0))), some (.inl v1), some (.inl v2), some (.inl y27)] [] m (n + 3) = ax_aft (fun s m2 => ax_ex (e + 7) L_X11_says 64 [some (.inr (.inr (22, 0))), some (.inl v1), some (.inl v2), some (.inl y27)] s m2 n) [] (ax_ex (e + 6) L_X11_takes 0 (ax_entry [.inr (.inr (22, 0)), .inl y27] 2) [] m n) := fun n => rfl
                          refine ax_gci (j := 3) (k2 := 64) (lv2 := [some (.inr (.inr (22, 0))), some (.inl v1), some (.inl v2), some (.inl y27)]) (rest := []) ((R_X11_takes (by omega) q51)) s53 ?_
                          obtain rfl := Option.some.inj h
                          exact ax_rs 1 (fun n => rfl)
                        · rw [if_neg c50] at h
                          by_cases c54 : v2 = 4
                          · rw [if_pos c54] at h
                            refine ax_go (j := 2) (k2 := 58) (lv2 := [some (.inr (.inr (22, 0))), some (.inl v1), some (.inl v2), some (.inl y27)]) (st2 := []) (m2 := m) (fun n => (((((s38 n).trans (if_neg c39)).trans (if_neg c42)).trans (if_neg c46)).trans (if_neg c50)).trans (if_pos c54)) ?_
                            obtain ⟨r56, q55, h⟩ := ax_b_of h
                            have s57 : ∀ n, ax_ex (e + 7) L_X11_says 58 [some (.inr (.inr (22, 0))), some (.inl v1), some (.inl v2), some (.inl y27)] [] m (n + 2) = ax_aft (fun s m2 => ax_ex (e + 7) L_X11_says 60 [some (.inr (.inr (22, 0))), some (.inl v1), some (.inl v2), some (.inl y27)] s m2 n) [] (ax_ex (e + 6) L_X11_owing 0 (ax_entry [.inr (.inr (22, 0))] 3) [] m n) := fun n => rfl
                            refine ax_gci (j := 2) (k2 := 60) (lv2 := [some (.inr (.inr (22, 0))), some (.inl v1), some (.inl v2), some (.inl y27)]) (rest := []) ((R_X11_owing (by omega) q55)) s57 ?_
                            obtain rfl := Option.some.inj h
                            exact ax_rs 1 (fun n => rfl)
                          · rw [if_neg c54] at h
                            refine ax_go (j := 2) (k2 := 61) (lv2 := [some (.inr (.inr (22, 0))), some (.inl v1), some (.inl v2), some (.inl y27)]) (st2 := []) (m2 := m) (fun n => ((((((s38 n).trans (if_neg c39)).trans (if_neg c42)).trans (if_neg c46)).trans (if_neg c50)).trans (if_neg c54))) ?_
                            obtain ⟨r59, q58, h⟩ := ax_b_of h
                            have s60 : ∀ n, ax_ex (e + 7) L_X11_says 61 [some (.inr (.inr (22, 0))), some (.inl v1), some (.inl v2), some (.inl y27)] [] m (n + 3) = ax_aft (fun s m2 => ax_ex (e + 7) L_X11_says 64 [some (.inr (.inr (22, 0))), some (.inl v1), some (.inl v2), some (.inl y27)] s m2 n) [] (ax_ex (e + 6) L_X11_takes 0 (ax_entry [.inr (.inr (22, 0)), .inl y27] 2) [] m n) := fun n => rfl
                            refine ax_gci (j := 3) (k2 := 64) (lv2 := [some (.inr (.inr (22, 0))), some (.inl v1), some (.inl v2), some (.inl y27)]) (rest := []) ((R_X11_takes (by omega) q58)) s60 ?_
                            obtain rfl := Option.some.inj h
                            exact ax_rs 1 (fun n => rfl)
              · rw [if_neg c28] at h
                cases h
            · rw [if_neg c25] at h
              cases h
          · rw [if_neg c23] at h
            refine ax_gf c23 s24 ?_
            obtain ⟨r63, m64, q62, h⟩ := ax_b2_of h
            have s65 : ∀ n, ax_ex (e + 7) L_X11_says 25 [some (.inr (.inr (22, 0))), some (.inl v1), some (.inl v2), none] [] m (n + 3) = ax_aft (fun s m2 => ax_ex (e + 7) L_X11_says 28 [some (.inr (.inr (22, 0))), some (.inl v1), some (.inl v2), none] s m2 n) [] (ax_ex (e + 6) L_X11_no 0 (ax_entry [.inr (.inr (22, 0)), .inl (-4)] 2) [] m n) := fun n => rfl
            refine ax_gci (j := 3) (k2 := 28) (lv2 := [some (.inr (.inr (22, 0))), some (.inl v1), some (.inl v2), none]) (rest := []) ((R_X11_no (by omega) q62)) s65 ?_
            obtain rfl := Option.some.inj h
            exact ax_rs 1 (fun n => rfl)
        · rw [if_neg c21] at h
          cases h
      · rw [if_neg c19] at h
        refine ax_gf c19 s20 ?_
        obtain ⟨r67, m68, q66, h⟩ := ax_b2_of h
        have s69 : ∀ n, ax_ex (e + 7) L_X11_says 16 [some (.inr (.inr (22, 0))), some (.inl v1), some (.inl v2), none] [] m (n + 3) = ax_aft (fun s m2 => ax_ex (e + 7) L_X11_says 19 [some (.inr (.inr (22, 0))), some (.inl v1), some (.inl v2), none] s m2 n) [] (ax_ex (e + 6) L_X11_no 0 (ax_entry [.inr (.inr (22, 0)), .inl (-3)] 2) [] m n) := fun n => rfl
        refine ax_gci (j := 3) (k2 := 19) (lv2 := [some (.inr (.inr (22, 0))), some (.inl v1), some (.inl v2), none]) (rest := []) ((R_X11_no (by omega) q66)) s69 ?_
        obtain rfl := Option.some.inj h
        exact ax_rs 1 (fun n => rfl)
def F_X11_somebodyAt_L2 : Nat → ax_M → Int32 → Int32 → Option Int32
  | 0, _, _, _ => none
  | n + 1, m, v1, v2 => if (m.1 22 0 1) ≤ v2 then (some 0) else (if ax_ok v2 8 = true then (if (m.1 24 0 v2.toNatClampNeg) = v1 then (some 1) else (F_X11_somebodyAt_L2 n m v1 (v2 + 1))) else (none))
set_option maxRecDepth 20000 in
set_option maxHeartbeats 4000000 in
theorem R_X11_somebodyAt_L2 {e : Nat} {m : ax_M} {v1 : Int32} : ∀ (n : Nat) (v2 : Int32) (q : Int32), F_X11_somebodyAt_L2 n m v1 v2 = some q → ax_Ru (e + 1) L_X11_somebodyAt 2 [some (.inr (.inr (22, 0))), some (.inl v1), some (.inl v2)] [] m (some (.inl q), m) := by
  intro n
  induction n with
  | zero =>
    intro v2 q h
    cases h
  | succ n ih =>
    intro v2 q h
    rw [F_X11_somebodyAt_L2] at h
    have s2 : ∀ n, ax_ex (e + 1) L_X11_somebodyAt 2 [some (.inr (.inr (22, 0))), some (.inl v1), some (.inl v2)] [] m (n + 4) = if (m.1 22 0 1) ≤ v2 then ax_ex (e + 1) L_X11_somebodyAt 16 [some (.inr (.inr (22, 0))), some (.inl v1), some (.inl v2)] [] m n else ax_ex (e + 1) L_X11_somebodyAt 6 [some (.inr (.inr (22, 0))), some (.inl v1), some (.inl v2)] [] m n := fun n => rfl
    by_cases c1 : (m.1 22 0 1) ≤ v2
    · rw [if_pos c1] at h
      refine ax_gt c1 s2 ?_
      obtain rfl := Option.some.inj h
      exact ax_rq (c := (0 : Int32) = 0 ∨ (0 : Int32) = 1) (j := 2) (by decide) (fun n => rfl)
    · rw [if_neg c1] at h
      refine ax_gf c1 s2 ?_
      have s4 : ∀ n, ax_ex (e + 1) L_X11_somebodyAt 6 [some (.inr (.inr (22, 0))), some (.inl v1), some (.inl v2)] [] m (n + 4) = if ax_ok v2 8 = true then ax_ex (e + 1) L_X11_somebodyAt 10 [some (.inr (.inr (22, 0))), some (.inl v1), some (.inl v2)] [.inl (m.1 24 0 v2.toNatClampNeg)] m n else none := fun n => rfl
      by_cases c3 : ax_ok v2 8 = true
      · rw [if_pos c3] at h
        refine ax_gt c3 s4 ?_
        have s6 : ∀ n, ax_ex (e + 1) L_X11_somebodyAt 10 [some (.inr (.inr (22, 0))), some (.inl v1), some (.inl v2)] [.inl (m.1 24 0 v2.toNatClampNeg)] m (n + 2) = if (m.1 24 0 v2.toNatClampNeg) = v1 then ax_ex (e + 1) L_X11_somebodyAt 12 [some (.inr (.inr (22, 0))), some (.inl v1), some (.inl v2)] [] m n else ax_ex (e + 1) L_X11_somebodyAt 14 [some (.inr (.inr (22, 0))), some (.inl v1), some (.inl v2)] [] m n := fun n => rfl
        by_cases c5 : (m.1 24 0 v2.toNatClampNeg) = v1
        · rw [if_pos c5] at h
          refine ax_gt c5 s6 ?_
          obtain rfl := Option.some.inj h
          exact ax_rq (c := (1 : Int32) = 0 ∨ (1 : Int32) = 1) (j := 2) (by decide) (fun n => rfl)
        · rw [if_neg c5] at h
          refine ax_gf c5 s6 ?_
          refine ax_go (j := 2) (k2 := 2) (lv2 := [some (.inr (.inr (22, 0))), some (.inl v1), some (.inl (v2 + 1))]) (st2 := []) (m2 := m) (fun n => rfl) ?_
          exact ax_fg (lv2 := [some (.inr (.inr (22, 0))), some (.inl v1), some (.inl (v2 + 1))]) ⟨rfl, rfl, rfl, trivial⟩ (ih (v2 + 1) _ h)
      · rw [if_neg c3] at h
        cases h
def F_X11_somebodyAt (m : ax_M) (v1 : Int32) : Option Int32 := F_X11_somebodyAt_L2 ax_FU m v1 0
set_option maxRecDepth 20000 in
set_option maxHeartbeats 4000000 in
theorem R_X11_somebodyAt {d : Nat} (hd : 1 ≤ d) {m : ax_M} {v1 : Int32} {q : Int32} (h : F_X11_somebodyAt m v1 = some q) : ax_Ru d L_X11_somebodyAt 0 (ax_entry [.inr (.inr (22, 0)), .inl v1] 3) [] m (some (.inl q), m) := by
  obtain ⟨e, rfl⟩ : ∃ e, d = e + 1 := ⟨d - 1, by omega⟩
  unfold F_X11_somebodyAt at h
  refine ax_go (j := 2) (k2 := 2) (lv2 := [some (.inr (.inr (22, 0))), some (.inl v1), some (.inl 0)]) (st2 := []) (m2 := m) (fun n => rfl) ?_
  refine ax_fg (lv2 := [some (.inr (.inr (22, 0))), some (.inl v1), some (.inl 0)]) ⟨rfl, rfl, rfl, trivial⟩ ?_
  refine R_X11_somebodyAt_L2 _ 0 _ h
def F_X11_wall (m : ax_M) (v1 : Int32) (v2 : Int32) : Option (Int32 × ax_M) := ax_b (F_X11_isCell v1) (fun r2 => if r2 = 0 then (ax_b2 (F_X11_no m (-2)) (fun r6 m7 => some (r6, m7))) else (if ax_ok v1 64 = true then (if (m.1 23 0 v1.toNatClampNeg) = v2 then (some (0, m)) else (if v2 = 0 then (if ax_ok v1 64 = true then (if v2 = 0 ∨ v2 = 1 then (some (1, (ax_ui m 23 0 v1.toNatClampNeg v2))) else none) else none) else (ax_b (F_X11_somebodyAt m v1) (fun r19 => if r19 = 0 then (if ax_ok v1 64 = true then (if v2 = 0 ∨ v2 = 1 then (some (1, (ax_ui m 23 0 v1.toNatClampNeg v2))) else none) else none) else (ax_b2 (F_X11_no m (-5)) (fun r26 m27 => some (r26, m27))))))) else (none)))
set_option maxRecDepth 20000 in
set_option maxHeartbeats 4000000 in
theorem R_X11_wall {d : Nat} (hd : 3 ≤ d) {m : ax_M} {v1 : Int32} {v2 : Int32} {q : (Int32 × ax_M)} (h : F_X11_wall m v1 v2 = some q) : ax_Ru d L_X11_wall 0 (ax_entry [.inr (.inr (22, 0)), .inl v1, .inl v2] 3) [] m (some (.inl q.1), q.2) := by
  obtain ⟨e, rfl⟩ : ∃ e, d = e + 3 := ⟨d - 3, by omega⟩
  unfold F_X11_wall at h
  obtain ⟨r2, q1, h⟩ := ax_b_of h
  have s30 : ∀ n, ax_ex (e + 3) L_X11_wall 0 (ax_entry [.inr (.inr (22, 0)), .inl v1, .inl v2] 3) [] m (n + 2) = ax_aft (fun s m2 => ax_ex (e + 3) L_X11_wall 2 [some (.inr (.inr (22, 0))), some (.inl v1), some (.inl v2)] s m2 n) [] (ax_ex (e + 2) L_X11_isCell 0 (ax_entry [.inl v1] 1) [] m n) := fun n => rfl
  refine ax_gci (j := 2) (k2 := 2) (lv2 := [some (.inr (.inr (22, 0))), some (.inl v1), some (.inl v2)]) (rest := []) ((R_X11_isCell (by omega) q1)) s30 ?_
  have s4 : ∀ n, ax_ex (e + 3) L_X11_wall 2 [some (.inr (.inr (22, 0))), some (.inl v1), some (.inl v2)] [.inl r2] m (n + 1) = if r2 = 0 then ax_ex (e + 3) L_X11_wall 3 [some (.inr (.inr (22, 0))), some (.inl v1), some (.inl v2)] [] m n else ax_ex (e + 3) L_X11_wall 7 [some (.inr (.inr (22, 0))), some (.inl v1), some (.inl v2)] [] m n := fun n => rfl
  by_cases c3 : r2 = 0
  · rw [if_pos c3] at h
    refine ax_gt c3 s4 ?_
    obtain ⟨r6, m7, q5, h⟩ := ax_b2_of h
    have s8 : ∀ n, ax_ex (e + 3) L_X11_wall 3 [some (.inr (.inr (22, 0))), some (.inl v1), some (.inl v2)] [] m (n + 3) = ax_aft (fun s m2 => ax_ex (e + 3) L_X11_wall 6 [some (.inr (.inr (22, 0))), some (.inl v1), some (.inl v2)] s m2 n) [] (ax_ex (e + 2) L_X11_no 0 (ax_entry [.inr (.inr (22, 0)), .inl (-2)] 2) [] m n) := fun n => rfl
    refine ax_gci (j := 3) (k2 := 6) (lv2 := [some (.inr (.inr (22, 0))), some (.inl v1), some (.inl v2)]) (rest := []) ((R_X11_no (by omega) q5)) s8 ?_
    obtain rfl := Option.some.inj h
    exact ax_rs 1 (fun n => rfl)
  · rw [if_neg c3] at h
    refine ax_gf c3 s4 ?_
    have s10 : ∀ n, ax_ex (e + 3) L_X11_wall 7 [some (.inr (.inr (22, 0))), some (.inl v1), some (.inl v2)] [] m (n + 4) = if ax_ok v1 64 = true then ax_ex (e + 3) L_X11_wall 11 [some (.inr (.inr (22, 0))), some (.inl v1), some (.inl v2)] [.inl (m.1 23 0 v1.toNatClampNeg)] m n else none := fun n => rfl
    by_cases c9 : ax_ok v1 64 = true
    · rw [if_pos c9] at h
      refine ax_gt c9 s10 ?_
      have s12 : ∀ n, ax_ex (e + 3) L_X11_wall 11 [some (.inr (.inr (22, 0))), some (.inl v1), some (.inl v2)] [.inl (m.1 23 0 v1.toNatClampNeg)] m (n + 2) = if (m.1 23 0 v1.toNatClampNeg) = v2 then ax_ex (e + 3) L_X11_wall 13 [some (.inr (.inr (22, 0))), some (.inl v1), some (.inl v2)] [] m n else ax_ex (e + 3) L_X11_wall 15 [some (.inr (.inr (22, 0))), some (.inl v1), some (.inl v2)] [] m n := fun n => rfl
      by_cases c11 : (m.1 23 0 v1.toNatClampNeg) = v2
      · rw [if_pos c11] at h
        refine ax_gt c11 s12 ?_
        obtain rfl := Option.some.inj h
        exact ax_rs 2 (fun n => rfl)
      · rw [if_neg c11] at h
        refine ax_gf c11 s12 ?_
        have s14 : ∀ n, ax_ex (e + 3) L_X11_wall 15 [some (.inr (.inr (22, 0))), some (.inl v1), some (.inl v2)] [] m (n + 2) = if v2 = 0 then ax_ex (e + 3) L_X11_wall 25 [some (.inr (.inr (22, 0))), some (.inl v1), some (.inl v2)] [] m n else ax_ex (e + 3) L_X11_wall 17 [some (.inr (.inr (22, 0))), some (.inl v1), some (.inl v2)] [] m n := fun n => rfl
        by_cases c13 : v2 = 0
        · rw [if_pos c13] at h
          refine ax_gt c13 s14 ?_
          have s15 : ∀ n, ax_ex (e + 3) L_X11_wall 25 [some (.inr (.inr (22, 0))), some (.inl v1), some (.inl v2)] [] m (n + 5) = (if ax_ok v1 64 = true then (if v2 = 0 ∨ v2 = 1 then ax_ex (e + 3) L_X11_wall 30 [some (.inr (.inr (22, 0))), some (.inl v1), some (.inl v2)] [] (ax_ui m 23 0 v1.toNatClampNeg v2) n else none) else none) := fun n => rfl
          by_cases c16 : ax_ok v1 64 = true
          · rw [if_pos c16] at h
            by_cases c17 : v2 = 0 ∨ v2 = 1
            · rw [if_pos c17] at h
              refine ax_go (j := 5) (k2 := 30) (lv2 := [some (.inr (.inr (22, 0))), some (.inl v1), some (.inl v2)]) (st2 := []) (m2 := (ax_ui m 23 0 v1.toNatClampNeg v2)) (fun n => (s15 n).trans ((if_pos c16).trans (if_pos c17))) ?_
              obtain rfl := Option.some.inj h
              exact ax_rs 2 (fun n => rfl)
            · rw [if_neg c17] at h
              cases h
          · rw [if_neg c16] at h
            cases h
        · rw [if_neg c13] at h
          refine ax_gf c13 s14 ?_
          obtain ⟨r19, q18, h⟩ := ax_b_of h
          have s29 : ∀ n, ax_ex (e + 3) L_X11_wall 17 [some (.inr (.inr (22, 0))), some (.inl v1), some (.inl v2)] [] m (n + 3) = ax_aft (fun s m2 => ax_ex (e + 3) L_X11_wall 20 [some (.inr (.inr (22, 0))), some (.inl v1), some (.inl v2)] s m2 n) [] (ax_ex (e + 2) L_X11_somebodyAt 0 (ax_entry [.inr (.inr (22, 0)), .inl v1] 3) [] m n) := fun n => rfl
          refine ax_gci (j := 3) (k2 := 20) (lv2 := [some (.inr (.inr (22, 0))), some (.inl v1), some (.inl v2)]) (rest := []) ((R_X11_somebodyAt (by omega) q18)) s29 ?_
          have s21 : ∀ n, ax_ex (e + 3) L_X11_wall 20 [some (.inr (.inr (22, 0))), some (.inl v1), some (.inl v2)] [.inl r19] m (n + 1) = if r19 = 0 then ax_ex (e + 3) L_X11_wall 25 [some (.inr (.inr (22, 0))), some (.inl v1), some (.inl v2)] [] m n else ax_ex (e + 3) L_X11_wall 21 [some (.inr (.inr (22, 0))), some (.inl v1), some (.inl v2)] [] m n := fun n => rfl
          by_cases c20 : r19 = 0
          · rw [if_pos c20] at h
            refine ax_gt c20 s21 ?_
            have s22 : ∀ n, ax_ex (e + 3) L_X11_wall 25 [some (.inr (.inr (22, 0))), some (.inl v1), some (.inl v2)] [] m (n + 5) = (if ax_ok v1 64 = true then (if v2 = 0 ∨ v2 = 1 then ax_ex (e + 3) L_X11_wall 30 [some (.inr (.inr (22, 0))), some (.inl v1), some (.inl v2)] [] (ax_ui m 23 0 v1.toNatClampNeg v2) n else none) else none) := fun n => rfl
            by_cases c23 : ax_ok v1 64 = true
            · rw [if_pos c23] at h
              by_cases c24 : v2 = 0 ∨ v2 = 1
              · rw [if_pos c24] at h
                refine ax_go (j := 5) (k2 := 30) (lv2 := [some (.inr (.inr (22, 0))), some (.inl v1), some (.inl v2)]) (st2 := []) (m2 := (ax_ui m 23 0 v1.toNatClampNeg v2)) (fun n => (s22 n).trans ((if_pos c23).trans (if_pos c24))) ?_
                obtain rfl := Option.some.inj h
                exact ax_rs 2 (fun n => rfl)
              · rw [if_neg c24] at h
                cases h
            · rw [if_neg c23] at h
              cases h
          · rw [if_neg c20] at h
            refine ax_gf c20 s21 ?_
            obtain ⟨r26, m27, q25, h⟩ := ax_b2_of h
            have s28 : ∀ n, ax_ex (e + 3) L_X11_wall 21 [some (.inr (.inr (22, 0))), some (.inl v1), some (.inl v2)] [] m (n + 3) = ax_aft (fun s m2 => ax_ex (e + 3) L_X11_wall 24 [some (.inr (.inr (22, 0))), some (.inl v1), some (.inl v2)] s m2 n) [] (ax_ex (e + 2) L_X11_no 0 (ax_entry [.inr (.inr (22, 0)), .inl (-5)] 2) [] m n) := fun n => rfl
            refine ax_gci (j := 3) (k2 := 24) (lv2 := [some (.inr (.inr (22, 0))), some (.inl v1), some (.inl v2)]) (rest := []) ((R_X11_no (by omega) q25)) s28 ?_
            obtain rfl := Option.some.inj h
            exact ax_rs 1 (fun n => rfl)
    · rw [if_neg c9] at h
      cases h
def F_X11_newOne_L2 : Nat → ax_M → Int32 → Int32 → Option (Int32 × ax_M)
  | 0, _, _, _ => none
  | n + 1, m, v1, v2 => if 8 ≤ v2 then (if ax_ok (m.1 22 0 1) 8 = true then (some (((ax_ui m 24 0 (m.1 22 0 1).toNatClampNeg v1).1 22 0 1), (ax_ui (ax_ui m 24 0 (m.1 22 0 1).toNatClampNeg v1) 22 0 1 (((ax_ui m 24 0 (m.1 22 0 1).toNatClampNeg v1).1 22 0 1) + 1)))) else (none)) else (if ax_ok ((8 * (m.1 22 0 1)) + v2) 64 = true then (if ax_ok ((8 * v2) + ((ax_ui m 25 0 ((8 * (m.1 22 0 1)) + v2).toNatClampNeg 0).1 22 0 1)) 64 = true then (F_X11_newOne_L2 n (ax_ui (ax_ui m 25 0 ((8 * (m.1 22 0 1)) + v2).toNatClampNeg 0) 25 0 ((8 * v2) + ((ax_ui m 25 0 ((8 * (m.1 22 0 1)) + v2).toNatClampNeg 0).1 22 0 1)).toNatClampNeg 0) v1 (v2 + 1)) else (none)) else (none))
set_option maxRecDepth 20000 in
set_option maxHeartbeats 4000000 in
theorem R_X11_newOne_L2 {e : Nat} {v1 : Int32} : ∀ (n : Nat) (m : ax_M) (v2 : Int32) (q : (Int32 × ax_M)), F_X11_newOne_L2 n m v1 v2 = some q → ax_Ru (e + 1) L_X11_newOne 2 [some (.inr (.inr (22, 0))), some (.inl v1), some (.inl v2)] [] m (some (.inl q.1), q.2) := by
  intro n
  induction n with
  | zero =>
    intro m v2 q h
    cases h
  | succ n ih =>
    intro m v2 q h
    rw [F_X11_newOne_L2] at h
    have s2 : ∀ n, ax_ex (e + 1) L_X11_newOne 2 [some (.inr (.inr (22, 0))), some (.inl v1), some (.inl v2)] [] m (n + 3) = if 8 ≤ v2 then ax_ex (e + 1) L_X11_newOne 27 [some (.inr (.inr (22, 0))), some (.inl v1), some (.inl v2)] [] m n else ax_ex (e + 1) L_X11_newOne 5 [some (.inr (.inr (22, 0))), some (.inl v1), some (.inl v2)] [] m n := fun n => rfl
    by_cases c1 : 8 ≤ v2
    · rw [if_pos c1] at h
      refine ax_gt c1 s2 ?_
      have s4 : ∀ n, ax_ex (e + 1) L_X11_newOne 27 [some (.inr (.inr (22, 0))), some (.inl v1), some (.inl v2)] [] m (n + 6) = if ax_ok (m.1 22 0 1) 8 = true then ax_ex (e + 1) L_X11_newOne 33 [some (.inr (.inr (22, 0))), some (.inl v1), some (.inl v2)] [] (ax_ui m 24 0 (m.1 22 0 1).toNatClampNeg v1) n else none := fun n => rfl
      by_cases c3 : ax_ok (m.1 22 0 1) 8 = true
      · rw [if_pos c3] at h
        refine ax_gt c3 s4 ?_
        obtain rfl := Option.some.inj h
        exact ax_rs 8 (fun n => rfl)
      · rw [if_neg c3] at h
        cases h
    · rw [if_neg c1] at h
      refine ax_gf c1 s2 ?_
      refine ax_go (j := 9) (k2 := 14) (lv2 := [some (.inr (.inr (22, 0))), some (.inl v1), some (.inl v2)]) (st2 := [.inl 0, .inl ((8 * (m.1 22 0 1)) + v2), .inr (.inr (25, 0))]) (m2 := m) (fun n => rfl) ?_
      obtain ⟨y5, hy5⟩ : ∃ y : Int32, y = ((8 * (m.1 22 0 1)) + v2) := ⟨_, rfl⟩
      rw [← hy5] at h ⊢
      have s7 : ∀ n, ax_ex (e + 1) L_X11_newOne 14 [some (.inr (.inr (22, 0))), some (.inl v1), some (.inl v2)] [.inl 0, .inl y5, .inr (.inr (25, 0))] m (n + 1) = if ax_ok y5 64 = true then ax_ex (e + 1) L_X11_newOne 15 [some (.inr (.inr (22, 0))), some (.inl v1), some (.inl v2)] [] (ax_ui m 25 0 y5.toNatClampNeg 0) n else none := fun n => rfl
      by_cases c6 : ax_ok y5 64 = true
      · rw [if_pos c6] at h
        refine ax_gt c6 s7 ?_
        refine ax_go (j := 9) (k2 := 24) (lv2 := [some (.inr (.inr (22, 0))), some (.inl v1), some (.inl v2)]) (st2 := [.inl 0, .inl ((8 * v2) + ((ax_ui m 25 0 y5.toNatClampNeg 0).1 22 0 1)), .inr (.inr (25, 0))]) (m2 := (ax_ui m 25 0 y5.toNatClampNeg 0)) (fun n => rfl) ?_
        obtain ⟨y8, hy8⟩ : ∃ y : Int32, y = ((8 * v2) + ((ax_ui m 25 0 y5.toNatClampNeg 0).1 22 0 1)) := ⟨_, rfl⟩
        rw [← hy8] at h ⊢
        have s10 : ∀ n, ax_ex (e + 1) L_X11_newOne 24 [some (.inr (.inr (22, 0))), some (.inl v1), some (.inl v2)] [.inl 0, .inl y8, .inr (.inr (25, 0))] (ax_ui m 25 0 y5.toNatClampNeg 0) (n + 1) = if ax_ok y8 64 = true then ax_ex (e + 1) L_X11_newOne 25 [some (.inr (.inr (22, 0))), some (.inl v1), some (.inl v2)] [] (ax_ui (ax_ui m 25 0 y5.toNatClampNeg 0) 25 0 y8.toNatClampNeg 0) n else none := fun n => rfl
        by_cases c9 : ax_ok y8 64 = true
        · rw [if_pos c9] at h
          refine ax_gt c9 s10 ?_
          refine ax_go (j := 2) (k2 := 2) (lv2 := [some (.inr (.inr (22, 0))), some (.inl v1), some (.inl (v2 + 1))]) (st2 := []) (m2 := (ax_ui (ax_ui m 25 0 y5.toNatClampNeg 0) 25 0 y8.toNatClampNeg 0)) (fun n => rfl) ?_
          exact ax_fg (lv2 := [some (.inr (.inr (22, 0))), some (.inl v1), some (.inl (v2 + 1))]) ⟨rfl, rfl, rfl, trivial⟩ (ih (ax_ui (ax_ui m 25 0 y5.toNatClampNeg 0) 25 0 y8.toNatClampNeg 0) (v2 + 1) _ h)
        · rw [if_neg c9] at h
          cases h
      · rw [if_neg c6] at h
        cases h
def F_X11_newOne (m : ax_M) (v1 : Int32) : Option (Int32 × ax_M) := F_X11_newOne_L2 ax_FU m v1 0
set_option maxRecDepth 20000 in
set_option maxHeartbeats 4000000 in
theorem R_X11_newOne {d : Nat} (hd : 1 ≤ d) {m : ax_M} {v1 : Int32} {q : (Int32 × ax_M)} (h : F_X11_newOne m v1 = some q) : ax_Ru d L_X11_newOne 0 (ax_entry [.inr (.inr (22, 0)), .inl v1] 3) [] m (some (.inl q.1), q.2) := by
  obtain ⟨e, rfl⟩ : ∃ e, d = e + 1 := ⟨d - 1, by omega⟩
  unfold F_X11_newOne at h
  refine ax_go (j := 2) (k2 := 2) (lv2 := [some (.inr (.inr (22, 0))), some (.inl v1), some (.inl 0)]) (st2 := []) (m2 := m) (fun n => rfl) ?_
  refine ax_fg (lv2 := [some (.inr (.inr (22, 0))), some (.inl v1), some (.inl 0)]) ⟨rfl, rfl, rfl, trivial⟩ ?_
  refine R_X11_newOne_L2 _ m 0 _ h
