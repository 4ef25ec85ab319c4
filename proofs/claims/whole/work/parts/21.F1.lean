def F_X4_readNumber_L20 : Nat → ax_M → Int32 → Int32 → Int32 → Option (Int32 × ax_M)
  | 0, _, _, _, _ => none
  | n + 1, m, v1, v2, v3 => if (m.1 12 0 3) ≤ v3 then (if v1 ≤ v2 then (some ((-1), m)) else (some (v2, m))) else (ax_b (F_X8_at m v3) (fun r14 => F_X4_readNumber_L20 n m v1 (((10 * v2) + r14) - 48) (v3 + 1)))
set_option maxRecDepth 20000 in
set_option maxHeartbeats 4000000 in
theorem R_X4_readNumber_L20 {e : Nat} {v1 : Int32} : ∀ (n : Nat) (m : ax_M) (v2 : Int32) (v3 : Int32) (q : (Int32 × ax_M)), F_X4_readNumber_L20 n m v1 v2 v3 = some q → ax_Ru (e + 3) L_X4_readNumber 20 [some (.inr (.inr (12, 0))), some (.inl v1), some (.inl v2), some (.inl v3)] [] m (some (.inl q.1), q.2) := by
  intro n
  induction n with
  | zero =>
    intro m v2 v3 q h
    cases h
  | succ n ih =>
    intro m v2 v3 q h
    rw [F_X4_readNumber_L20] at h
    have s10 : ∀ n, ax_ex (e + 3) L_X4_readNumber 20 [some (.inr (.inr (12, 0))), some (.inl v1), some (.inl v2), some (.inl v3)] [] m (n + 4) = if (m.1 12 0 3) ≤ v3 then ax_ex (e + 3) L_X4_readNumber 37 [some (.inr (.inr (12, 0))), some (.inl v1), some (.inl v2), some (.inl v3)] [] m n else ax_ex (e + 3) L_X4_readNumber 24 [some (.inr (.inr (12, 0))), some (.inl v1), some (.inl v2), some (.inl v3)] [] m n := fun n => rfl
    by_cases c9 : (m.1 12 0 3) ≤ v3
    · rw [if_pos c9] at h
      refine ax_gt c9 s10 ?_
      have s12 : ∀ n, ax_ex (e + 3) L_X4_readNumber 37 [some (.inr (.inr (12, 0))), some (.inl v1), some (.inl v2), some (.inl v3)] [] m (n + 3) = if v1 ≤ v2 then ax_ex (e + 3) L_X4_readNumber 42 [some (.inr (.inr (12, 0))), some (.inl v1), some (.inl v2), some (.inl v3)] [] m n else ax_ex (e + 3) L_X4_readNumber 40 [some (.inr (.inr (12, 0))), some (.inl v1), some (.inl v2), some (.inl v3)] [] m n := fun n => rfl
      by_cases c11 : v1 ≤ v2
      · rw [if_pos c11] at h
        refine ax_gt c11 s12 ?_
        obtain rfl := Option.some.inj h
        exact ax_rs 2 (fun n => rfl)
      · rw [if_neg c11] at h
        refine ax_gf c11 s12 ?_
        obtain rfl := Option.some.inj h
        exact ax_rs 3 (fun n => rfl)
    · rw [if_neg c9] at h
      refine ax_gf c9 s10 ?_
      obtain ⟨r14, q13, h⟩ := ax_b_of h
      have s15 : ∀ n, ax_ex (e + 3) L_X4_readNumber 24 [some (.inr (.inr (12, 0))), some (.inl v1), some (.inl v2), some (.inl v3)] [] m (n + 7) = ax_aft (fun s m2 => ax_ex (e + 3) L_X4_readNumber 31 [some (.inr (.inr (12, 0))), some (.inl v1), some (.inl v2), some (.inl v3)] s m2 n) [.inl (10 * v2)] (ax_ex (e + 2) L_X8_at 0 (ax_entry [.inr (.inr (10, 0)), .inl v3] 2) [] m n) := fun n => rfl
      refine ax_gci (j := 7) (k2 := 31) (lv2 := [some (.inr (.inr (12, 0))), some (.inl v1), some (.inl v2), some (.inl v3)]) (rest := [.inl (10 * v2)]) ((R_X8_at (by omega) q13)) s15 ?_
      refine ax_go (j := 6) (k2 := 20) (lv2 := [some (.inr (.inr (12, 0))), some (.inl v1), some (.inl (((10 * v2) + r14) - 48)), some (.inl (v3 + 1))]) (st2 := []) (m2 := m) (fun n => rfl) ?_
      exact ax_fg (lv2 := [some (.inr (.inr (12, 0))), some (.inl v1), some (.inl (((10 * v2) + r14) - 48)), some (.inl (v3 + 1))]) ⟨rfl, rfl, rfl, rfl, trivial⟩ (ih m (((10 * v2) + r14) - 48) (v3 + 1) _ h)
def F_X4_readNumber (m : ax_M) (v1 : Int32) : Option (Int32 × ax_M) := ax_b (F_X4_advance m) (fun m3 => if (m3.1 12 0 1) = 2 then (if ((m3.1 12 0 3) - (m3.1 12 0 2)) ≤ 3 then (F_X4_readNumber_L20 ax_FU m3 v1 0 (m3.1 12 0 2)) else (some ((-1), m3))) else (some ((-1), m3)))
set_option maxRecDepth 20000 in
set_option maxHeartbeats 4000000 in
theorem R_X4_readNumber {d : Nat} (hd : 3 ≤ d) {m : ax_M} {v1 : Int32} {q : (Int32 × ax_M)} (h : F_X4_readNumber m v1 = some q) : ax_Ru d L_X4_readNumber 0 (ax_entry [.inr (.inr (12, 0)), .inl v1] 4) [] m (some (.inl q.1), q.2) := by
  obtain ⟨e, rfl⟩ : ∃ e, d = e + 3 := ⟨d - 3, by omega⟩
  unfold F_X4_readNumber at h
  obtain ⟨m3, q1, h⟩ := ax_b_of h
  have s17 : ∀ n, ax_ex (e + 3) L_X4_readNumber 0 (ax_entry [.inr (.inr (12, 0)), .inl v1] 4) [] m (n + 2) = ax_aft (fun s m2 => ax_ex (e + 3) L_X4_readNumber 2 [some (.inr (.inr (12, 0))), some (.inl v1), none, none] s m2 n) [] (ax_ex (e + 2) L_X4_advance 0 (ax_entry [.inr (.inr (12, 0))] 1) [] m n) := fun n => rfl
  refine ax_gcv (j := 2) (k2 := 2) (lv2 := [some (.inr (.inr (12, 0))), some (.inl v1), none, none]) (rest := []) ((R_X4_advance (by omega) q1)) s17 ?_
  have s5 : ∀ n, ax_ex (e + 3) L_X4_readNumber 2 [some (.inr (.inr (12, 0))), some (.inl v1), none, none] [] m3 (n + 4) = if (m3.1 12 0 1) = 2 then ax_ex (e + 3) L_X4_readNumber 6 [some (.inr (.inr (12, 0))), some (.inl v1), none, none] [] m3 n else ax_ex (e + 3) L_X4_readNumber 13 [some (.inr (.inr (12, 0))), some (.inl v1), none, none] [] m3 n := fun n => rfl
  by_cases c4 : (m3.1 12 0 1) = 2
  · rw [if_pos c4] at h
    refine ax_gt c4 s5 ?_
    refine ax_go (j := 6) (k2 := 12) (lv2 := [some (.inr (.inr (12, 0))), some (.inl v1), none, none]) (st2 := [.inl 3, .inl ((m3.1 12 0 3) - (m3.1 12 0 2))]) (m2 := m3) (fun n => rfl) ?_
    obtain ⟨y6, hy6⟩ : ∃ y : Int32, y = ((m3.1 12 0 3) - (m3.1 12 0 2)) := ⟨_, rfl⟩
    rw [← hy6] at h ⊢
    have s8 : ∀ n, ax_ex (e + 3) L_X4_readNumber 12 [some (.inr (.inr (12, 0))), some (.inl v1), none, none] [.inl 3, .inl y6] m3 (n + 1) = if y6 ≤ 3 then ax_ex (e + 3) L_X4_readNumber 15 [some (.inr (.inr (12, 0))), some (.inl v1), none, none] [] m3 n else ax_ex (e + 3) L_X4_readNumber 13 [some (.inr (.inr (12, 0))), some (.inl v1), none, none] [] m3 n := fun n => rfl
    by_cases c7 : y6 ≤ 3
    · rw [if_pos c7] at h
      refine ax_gt c7 s8 ?_
      refine ax_go (j := 5) (k2 := 20) (lv2 := [some (.inr (.inr (12, 0))), some (.inl v1), some (.inl 0), some (.inl (m3.1 12 0 2))]) (st2 := []) (m2 := m3) (fun n => rfl) ?_
      refine ax_fg (lv2 := [some (.inr (.inr (12, 0))), some (.inl v1), some (.inl 0), some (.inl (m3.1 12 0 2))]) ⟨rfl, rfl, rfl, rfl, trivial⟩ ?_
      refine R_X4_readNumber_L20 _ m3 0 (m3.1 12 0 2) _ h
    · rw [if_neg c7] at h
      refine ax_gf c7 s8 ?_
      obtain rfl := Option.some.inj h
      exact ax_rs 2 (fun n => rfl)
  · rw [if_neg c4] at h
    refine ax_gf c4 s5 ?_
    obtain rfl := Option.some.inj h
    exact ax_rs 2 (fun n => rfl)
def F_X4_readWall (m : ax_M) (g1 : Nat) : Option (Int32 × ax_M) := ax_b2 (F_X4_readNumber m 64) (fun r2 m3 => if r2 = (-1) then (some (0, m3)) else (ax_b (F_X3_isStoodOn m3 g1 r2) (fun r7 => if r7 = 0 then (ax_b (F_X3_putWall m3 g1 r2 1) (fun m12 => some (1, m12))) else (some (0, m3)))))
set_option maxRecDepth 20000 in
set_option maxHeartbeats 4000000 in
theorem R_X4_readWall {d : Nat} (hd : 5 ≤ d) {m : ax_M} {g1 : Nat} {q : (Int32 × ax_M)} (h : F_X4_readWall m g1 = some q) : ax_Ru d L_X4_readWall 0 (ax_entry [.inr (.inr (12, 0)), .inr (.inr (1, g1))] 3) [] m (some (.inl q.1), q.2) := by
  obtain ⟨e, rfl⟩ : ∃ e, d = e + 5 := ⟨d - 5, by omega⟩
  unfold F_X4_readWall at h
  obtain ⟨r2, m3, q1, h⟩ := ax_b2_of h
  have s15 : ∀ n, ax_ex (e + 5) L_X4_readWall 0 (ax_entry [.inr (.inr (12, 0)), .inr (.inr (1, g1))] 3) [] m (n + 3) = ax_aft (fun s m2 => ax_ex (e + 5) L_X4_readWall 3 [some (.inr (.inr (12, 0))), some (.inr (.inr (1, g1))), none] s m2 n) [] (ax_ex (e + 4) L_X4_readNumber 0 (ax_entry [.inr (.inr (12, 0)), .inl 64] 4) [] m n) := fun n => rfl
  refine ax_gci (j := 3) (k2 := 3) (lv2 := [some (.inr (.inr (12, 0))), some (.inr (.inr (1, g1))), none]) (rest := []) ((R_X4_readNumber (by omega) q1)) s15 ?_
  have s5 : ∀ n, ax_ex (e + 5) L_X4_readWall 3 [some (.inr (.inr (12, 0))), some (.inr (.inr (1, g1))), none] [.inl r2] m3 (n + 4) = if r2 = (-1) then ax_ex (e + 5) L_X4_readWall 11 [some (.inr (.inr (12, 0))), some (.inr (.inr (1, g1))), some (.inl r2)] [] m3 n else ax_ex (e + 5) L_X4_readWall 7 [some (.inr (.inr (12, 0))), some (.inr (.inr (1, g1))), some (.inl r2)] [] m3 n := fun n => rfl
  by_cases c4 : r2 = (-1)
  · rw [if_pos c4] at h
    refine ax_gt c4 s5 ?_
    obtain rfl := Option.some.inj h
    exact ax_rq (c := (0 : Int32) = 0 ∨ (0 : Int32) = 1) (j := 2) (by decide) (fun n => rfl)
  · rw [if_neg c4] at h
    refine ax_gf c4 s5 ?_
    obtain ⟨r7, q6, h⟩ := ax_b_of h
    have s14 : ∀ n, ax_ex (e + 5) L_X4_readWall 7 [some (.inr (.inr (12, 0))), some (.inr (.inr (1, g1))), some (.inl r2)] [] m3 (n + 3) = ax_aft (fun s m2 => ax_ex (e + 5) L_X4_readWall 10 [some (.inr (.inr (12, 0))), some (.inr (.inr (1, g1))), some (.inl r2)] s m2 n) [] (ax_ex (e + 4) L_X3_isStoodOn 0 (ax_entry [.inr (.inr (1, g1)), .inl r2] 2) [] m3 n) := fun n => rfl
    refine ax_gci (j := 3) (k2 := 10) (lv2 := [some (.inr (.inr (12, 0))), some (.inr (.inr (1, g1))), some (.inl r2)]) (rest := []) ((R_X3_isStoodOn (by omega) q6)) s14 ?_
    have s9 : ∀ n, ax_ex (e + 5) L_X4_readWall 10 [some (.inr (.inr (12, 0))), some (.inr (.inr (1, g1))), some (.inl r2)] [.inl r7] m3 (n + 1) = if r7 = 0 then ax_ex (e + 5) L_X4_readWall 13 [some (.inr (.inr (12, 0))), some (.inr (.inr (1, g1))), some (.inl r2)] [] m3 n else ax_ex (e + 5) L_X4_readWall 11 [some (.inr (.inr (12, 0))), some (.inr (.inr (1, g1))), some (.inl r2)] [] m3 n := fun n => rfl
    by_cases c8 : r7 = 0
    · rw [if_pos c8] at h
      refine ax_gt c8 s9 ?_
      obtain ⟨m12, q10, h⟩ := ax_b_of h
      have s13 : ∀ n, ax_ex (e + 5) L_X4_readWall 13 [some (.inr (.inr (12, 0))), some (.inr (.inr (1, g1))), some (.inl r2)] [] m3 (n + 4) = ax_aft (fun s m2 => ax_ex (e + 5) L_X4_readWall 17 [some (.inr (.inr (12, 0))), some (.inr (.inr (1, g1))), some (.inl r2)] s m2 n) [] (ax_ex (e + 4) L_X3_putWall 0 (ax_entry [.inr (.inr (1, g1)), .inl r2, .inl 1] 3) [] m3 n) := fun n => rfl
      refine ax_gcv (j := 4) (k2 := 17) (lv2 := [some (.inr (.inr (12, 0))), some (.inr (.inr (1, g1))), some (.inl r2)]) (rest := []) ((R_X3_putWall (by omega) q10)) s13 ?_
      obtain rfl := Option.some.inj h
      exact ax_rq (c := (1 : Int32) = 0 ∨ (1 : Int32) = 1) (j := 2) (by decide) (fun n => rfl)
    · rw [if_neg c8] at h
      refine ax_gf c8 s9 ?_
      obtain rfl := Option.some.inj h
      exact ax_rq (c := (0 : Int32) = 0 ∨ (0 : Int32) = 1) (j := 2) (by decide) (fun n => rfl)
def F_X4_readOpen (m : ax_M) (g1 : Nat) : Option (Int32 × ax_M) := ax_b2 (F_X4_readNumber m 64) (fun r2 m3 => if r2 = (-1) then (some (0, m3)) else (ax_b (F_X3_putWall m3 g1 r2 0) (fun m8 => some (1, m8))))
set_option maxRecDepth 20000 in
set_option maxHeartbeats 4000000 in
theorem R_X4_readOpen {d : Nat} (hd : 4 ≤ d) {m : ax_M} {g1 : Nat} {q : (Int32 × ax_M)} (h : F_X4_readOpen m g1 = some q) : ax_Ru d L_X4_readOpen 0 (ax_entry [.inr (.inr (12, 0)), .inr (.inr (1, g1))] 3) [] m (some (.inl q.1), q.2) := by
  obtain ⟨e, rfl⟩ : ∃ e, d = e + 4 := ⟨d - 4, by omega⟩
  unfold F_X4_readOpen at h
  obtain ⟨r2, m3, q1, h⟩ := ax_b2_of h
  have s10 : ∀ n, ax_ex (e + 4) L_X4_readOpen 0 (ax_entry [.inr (.inr (12, 0)), .inr (.inr (1, g1))] 3) [] m (n + 3) = ax_aft (fun s m2 => ax_ex (e + 4) L_X4_readOpen 3 [some (.inr (.inr (12, 0))), some (.inr (.inr (1, g1))), none] s m2 n) [] (ax_ex (e + 3) L_X4_readNumber 0 (ax_entry [.inr (.inr (12, 0)), .inl 64] 4) [] m n) := fun n => rfl
  refine ax_gci (j := 3) (k2 := 3) (lv2 := [some (.inr (.inr (12, 0))), some (.inr (.inr (1, g1))), none]) (rest := []) ((R_X4_readNumber (by omega) q1)) s10 ?_
  have s5 : ∀ n, ax_ex (e + 4) L_X4_readOpen 3 [some (.inr (.inr (12, 0))), some (.inr (.inr (1, g1))), none] [.inl r2] m3 (n + 4) = if r2 = (-1) then ax_ex (e + 4) L_X4_readOpen 7 [some (.inr (.inr (12, 0))), some (.inr (.inr (1, g1))), some (.inl r2)] [] m3 n else ax_ex (e + 4) L_X4_readOpen 9 [some (.inr (.inr (12, 0))), some (.inr (.inr (1, g1))), some (.inl r2)] [] m3 n := fun n => rfl
  by_cases c4 : r2 = (-1)
  · rw [if_pos c4] at h
    refine ax_gt c4 s5 ?_
    obtain rfl := Option.some.inj h
    exact ax_rq (c := (0 : Int32) = 0 ∨ (0 : Int32) = 1) (j := 2) (by decide) (fun n => rfl)
  · rw [if_neg c4] at h
    refine ax_gf c4 s5 ?_
    obtain ⟨m8, q6, h⟩ := ax_b_of h
    have s9 : ∀ n, ax_ex (e + 4) L_X4_readOpen 9 [some (.inr (.inr (12, 0))), some (.inr (.inr (1, g1))), some (.inl r2)] [] m3 (n + 4) = ax_aft (fun s m2 => ax_ex (e + 4) L_X4_readOpen 13 [some (.inr (.inr (12, 0))), some (.inr (.inr (1, g1))), some (.inl r2)] s m2 n) [] (ax_ex (e + 3) L_X3_putWall 0 (ax_entry [.inr (.inr (1, g1)), .inl r2, .inl 0] 3) [] m3 n) := fun n => rfl
    refine ax_gcv (j := 4) (k2 := 13) (lv2 := [some (.inr (.inr (12, 0))), some (.inr (.inr (1, g1))), some (.inl r2)]) (rest := []) ((R_X3_putWall (by omega) q6)) s9 ?_
    obtain rfl := Option.some.inj h
    exact ax_rq (c := (1 : Int32) = 0 ∨ (1 : Int32) = 1) (j := 2) (by decide) (fun n => rfl)
def F_X4_readFloor (m : ax_M) (g1 : Nat) : Option (Int32 × ax_M) := ax_b2 (F_X4_readNumber m 64) (fun r2 m3 => if r2 = (-1) then (some (r2, m3)) else (ax_b (F_X3_hasWall m3 g1 r2) (fun r7 => if r7 = 0 then (some (r2, m3)) else (some ((-1), m3)))))
set_option maxRecDepth 20000 in
set_option maxHeartbeats 4000000 in
theorem R_X4_readFloor {d : Nat} (hd : 4 ≤ d) {m : ax_M} {g1 : Nat} {q : (Int32 × ax_M)} (h : F_X4_readFloor m g1 = some q) : ax_Ru d L_X4_readFloor 0 (ax_entry [.inr (.inr (12, 0)), .inr (.inr (1, g1))] 3) [] m (some (.inl q.1), q.2) := by
  obtain ⟨e, rfl⟩ : ∃ e, d = e + 4 := ⟨d - 4, by omega⟩
  unfold F_X4_readFloor at h
  obtain ⟨r2, m3, q1, h⟩ := ax_b2_of h
  have s11 : ∀ n, ax_ex (e + 4) L_X4_readFloor 0 (ax_entry [.inr (.inr (12, 0)), .inr (.inr (1, g1))] 3) [] m (n + 3) = ax_aft (fun s m2 => ax_ex (e + 4) L_X4_readFloor 3 [some (.inr (.inr (12, 0))), some (.inr (.inr (1, g1))), none] s m2 n) [] (ax_ex (e + 3) L_X4_readNumber 0 (ax_entry [.inr (.inr (12, 0)), .inl 64] 4) [] m n) := fun n => rfl
  refine ax_gci (j := 3) (k2 := 3) (lv2 := [some (.inr (.inr (12, 0))), some (.inr (.inr (1, g1))), none]) (rest := []) ((R_X4_readNumber (by omega) q1)) s11 ?_
  have s5 : ∀ n, ax_ex (e + 4) L_X4_readFloor 3 [some (.inr (.inr (12, 0))), some (.inr (.inr (1, g1))), none] [.inl r2] m3 (n + 4) = if r2 = (-1) then ax_ex (e + 4) L_X4_readFloor 13 [some (.inr (.inr (12, 0))), some (.inr (.inr (1, g1))), some (.inl r2)] [] m3 n else ax_ex (e + 4) L_X4_readFloor 7 [some (.inr (.inr (12, 0))), some (.inr (.inr (1, g1))), some (.inl r2)] [] m3 n := fun n => rfl
  by_cases c4 : r2 = (-1)
  · rw [if_pos c4] at h
    refine ax_gt c4 s5 ?_
    obtain rfl := Option.some.inj h
    exact ax_rs 2 (fun n => rfl)
  · rw [if_neg c4] at h
    refine ax_gf c4 s5 ?_
    obtain ⟨r7, q6, h⟩ := ax_b_of h
    have s10 : ∀ n, ax_ex (e + 4) L_X4_readFloor 7 [some (.inr (.inr (12, 0))), some (.inr (.inr (1, g1))), some (.inl r2)] [] m3 (n + 3) = ax_aft (fun s m2 => ax_ex (e + 4) L_X4_readFloor 10 [some (.inr (.inr (12, 0))), some (.inr (.inr (1, g1))), some (.inl r2)] s m2 n) [] (ax_ex (e + 3) L_X3_hasWall 0 (ax_entry [.inr (.inr (1, g1)), .inl r2] 2) [] m3 n) := fun n => rfl
    refine ax_gci (j := 3) (k2 := 10) (lv2 := [some (.inr (.inr (12, 0))), some (.inr (.inr (1, g1))), some (.inl r2)]) (rest := []) ((R_X3_hasWall (by omega) q6)) s10 ?_
    have s9 : ∀ n, ax_ex (e + 4) L_X4_readFloor 10 [some (.inr (.inr (12, 0))), some (.inr (.inr (1, g1))), some (.inl r2)] [.inl r7] m3 (n + 1) = if r7 = 0 then ax_ex (e + 4) L_X4_readFloor 13 [some (.inr (.inr (12, 0))), some (.inr (.inr (1, g1))), some (.inl r2)] [] m3 n else ax_ex (e + 4) L_X4_readFloor 11 [some (.inr (.inr (12, 0))), some (.inr (.inr (1, g1))), some (.inl r2)] [] m3 n := fun n => rfl
    by_cases c8 : r7 = 0
    · rw [if_pos c8] at h
      refine ax_gt c8 s9 ?_
      obtain rfl := Option.some.inj h
      exact ax_rs 2 (fun n => rfl)
    · rw [if_neg c8] at h
      refine ax_gf c8 s9 ?_
      obtain rfl := Option.some.inj h
      exact ax_rs 3 (fun n => rfl)
def F_X4_readPerson (m : ax_M) (g1 : Nat) : Option (Int32 × ax_M) := if (m.1 1 g1 1) < 8 then (ax_b2 (F_X4_readFloor m g1) (fun r4 m5 => if r4 = (-1) then (some (0, m5)) else (ax_b2 (F_X3_addPerson m5 g1 r4) (fun r9 m10 => some (1, m10))))) else (some (0, m))
set_option maxRecDepth 20000 in
set_option maxHeartbeats 4000000 in
theorem R_X4_readPerson {d : Nat} (hd : 5 ≤ d) {m : ax_M} {g1 : Nat} {q : (Int32 × ax_M)} (h : F_X4_readPerson m g1 = some q) : ax_Ru d L_X4_readPerson 0 (ax_entry [.inr (.inr (12, 0)), .inr (.inr (1, g1))] 3) [] m (some (.inl q.1), q.2) := by
  obtain ⟨e, rfl⟩ : ∃ e, d = e + 5 := ⟨d - 5, by omega⟩
  unfold F_X4_readPerson at h
  have s2 : ∀ n, ax_ex (e + 5) L_X4_readPerson 0 (ax_entry [.inr (.inr (12, 0)), .inr (.inr (1, g1))] 3) [] m (n + 4) = if (m.1 1 g1 1) < 8 then ax_ex (e + 5) L_X4_readPerson 6 [some (.inr (.inr (12, 0))), some (.inr (.inr (1, g1))), none] [] m n else ax_ex (e + 5) L_X4_readPerson 4 [some (.inr (.inr (12, 0))), some (.inr (.inr (1, g1))), none] [] m n := fun n => rfl
  by_cases c1 : (m.1 1 g1 1) < 8
  · rw [if_pos c1] at h
    refine ax_gt c1 s2 ?_
    obtain ⟨r4, m5, q3, h⟩ := ax_b2_of h
    have s12 : ∀ n, ax_ex (e + 5) L_X4_readPerson 6 [some (.inr (.inr (12, 0))), some (.inr (.inr (1, g1))), none] [] m (n + 3) = ax_aft (fun s m2 => ax_ex (e + 5) L_X4_readPerson 9 [some (.inr (.inr (12, 0))), some (.inr (.inr (1, g1))), none] s m2 n) [] (ax_ex (e + 4) L_X4_readFloor 0 (ax_entry [.inr (.inr (12, 0)), .inr (.inr (1, g1))] 3) [] m n) := fun n => rfl
    refine ax_gci (j := 3) (k2 := 9) (lv2 := [some (.inr (.inr (12, 0))), some (.inr (.inr (1, g1))), none]) (rest := []) ((R_X4_readFloor (by omega) q3)) s12 ?_
    have s7 : ∀ n, ax_ex (e + 5) L_X4_readPerson 9 [some (.inr (.inr (12, 0))), some (.inr (.inr (1, g1))), none] [.inl r4] m5 (n + 4) = if r4 = (-1) then ax_ex (e + 5) L_X4_readPerson 13 [some (.inr (.inr (12, 0))), some (.inr (.inr (1, g1))), some (.inl r4)] [] m5 n else ax_ex (e + 5) L_X4_readPerson 15 [some (.inr (.inr (12, 0))), some (.inr (.inr (1, g1))), some (.inl r4)] [] m5 n := fun n => rfl
    by_cases c6 : r4 = (-1)
    · rw [if_pos c6] at h
      refine ax_gt c6 s7 ?_
      obtain rfl := Option.some.inj h
      exact ax_rq (c := (0 : Int32) = 0 ∨ (0 : Int32) = 1) (j := 2) (by decide) (fun n => rfl)
    · rw [if_neg c6] at h
      refine ax_gf c6 s7 ?_
      obtain ⟨r9, m10, q8, h⟩ := ax_b2_of h
      have s11 : ∀ n, ax_ex (e + 5) L_X4_readPerson 15 [some (.inr (.inr (12, 0))), some (.inr (.inr (1, g1))), some (.inl r4)] [] m5 (n + 3) = ax_aft (fun s m2 => ax_ex (e + 5) L_X4_readPerson 18 [some (.inr (.inr (12, 0))), some (.inr (.inr (1, g1))), some (.inl r4)] s m2 n) [] (ax_ex (e + 4) L_X3_addPerson 0 (ax_entry [.inr (.inr (1, g1)), .inl r4] 2) [] m5 n) := fun n => rfl
      refine ax_gci (j := 3) (k2 := 18) (lv2 := [some (.inr (.inr (12, 0))), some (.inr (.inr (1, g1))), some (.inl r4)]) (rest := []) ((R_X3_addPerson (by omega) q8)) s11 ?_
      obtain rfl := Option.some.inj h
      exact ax_rq (c := (1 : Int32) = 0 ∨ (1 : Int32) = 1) (j := 3) (by decide) (fun n => rfl)
  · rw [if_neg c1] at h
    refine ax_gf c1 s2 ?_
    obtain rfl := Option.some.inj h
    exact ax_rq (c := (0 : Int32) = 0 ∨ (0 : Int32) = 1) (j := 2) (by decide) (fun n => rfl)
def F_X4_readOwes (m : ax_M) (g1 : Nat) : Option (Int32 × ax_M) := ax_b2 (F_X4_readNumber m (m.1 1 g1 1)) (fun r2 m3 => if r2 = (-1) then (some (0, m3)) else (ax_b2 (F_X4_readNumber m3 (m3.1 1 g1 1)) (fun r7 m8 => if r7 = (-1) then (some (0, m8)) else (if r7 = r2 then (some (0, m8)) else (ax_b2 (F_X4_readNumber m8 1000) (fun r14 m15 => if r14 = (-1) then (some (0, m15)) else (ax_b (F_X2_put m15 g1 r2 r7 r14) (fun m20 => some (1, m20)))))))))
set_option maxRecDepth 20000 in
set_option maxHeartbeats 4000000 in
theorem R_X4_readOwes {d : Nat} (hd : 4 ≤ d) {m : ax_M} {g1 : Nat} {q : (Int32 × ax_M)} (h : F_X4_readOwes m g1 = some q) : ax_Ru d L_X4_readOwes 0 (ax_entry [.inr (.inr (12, 0)), .inr (.inr (1, g1))] 5) [] m (some (.inl q.1), q.2) := by
  obtain ⟨e, rfl⟩ : ∃ e, d = e + 4 := ⟨d - 4, by omega⟩
  unfold F_X4_readOwes at h
  obtain ⟨r2, m3, q1, h⟩ := ax_b2_of h
  have s24 : ∀ n, ax_ex (e + 4) L_X4_readOwes 0 (ax_entry [.inr (.inr (12, 0)), .inr (.inr (1, g1))] 5) [] m (n + 4) = ax_aft (fun s m2 => ax_ex (e + 4) L_X4_readOwes 4 [some (.inr (.inr (12, 0))), some (.inr (.inr (1, g1))), none, none, none] s m2 n) [] (ax_ex (e + 3) L_X4_readNumber 0 (ax_entry [.inr (.inr (12, 0)), .inl (m.1 1 g1 1)] 4) [] m n) := fun n => rfl
  refine ax_gci (j := 4) (k2 := 4) (lv2 := [some (.inr (.inr (12, 0))), some (.inr (.inr (1, g1))), none, none, none]) (rest := []) ((R_X4_readNumber (by omega) q1)) s24 ?_
  have s5 : ∀ n, ax_ex (e + 4) L_X4_readOwes 4 [some (.inr (.inr (12, 0))), some (.inr (.inr (1, g1))), none, none, none] [.inl r2] m3 (n + 4) = if r2 = (-1) then ax_ex (e + 4) L_X4_readOwes 8 [some (.inr (.inr (12, 0))), some (.inr (.inr (1, g1))), some (.inl r2), none, none] [] m3 n else ax_ex (e + 4) L_X4_readOwes 10 [some (.inr (.inr (12, 0))), some (.inr (.inr (1, g1))), some (.inl r2), none, none] [] m3 n := fun n => rfl
  by_cases c4 : r2 = (-1)
  · rw [if_pos c4] at h
    refine ax_gt c4 s5 ?_
    obtain rfl := Option.some.inj h
    exact ax_rq (c := (0 : Int32) = 0 ∨ (0 : Int32) = 1) (j := 2) (by decide) (fun n => rfl)
  · rw [if_neg c4] at h
    refine ax_gf c4 s5 ?_
    obtain ⟨r7, m8, q6, h⟩ := ax_b2_of h
    have s23 : ∀ n, ax_ex (e + 4) L_X4_readOwes 10 [some (.inr (.inr (12, 0))), some (.inr (.inr (1, g1))), some (.inl r2), none, none] [] m3 (n + 4) = ax_aft (fun s m2 => ax_ex (e + 4) L_X4_readOwes 14 [some (.inr (.inr (12, 0))), some (.inr (.inr (1, g1))), some (.inl r2), none, none] s m2 n) [] (ax_ex (e + 3) L_X4_readNumber 0 (ax_entry [.inr (.inr (12, 0)), .inl (m3.1 1 g1 1)] 4) [] m3 n) := fun n => rfl
    refine ax_gci (j := 4) (k2 := 14) (lv2 := [some (.inr (.inr (12, 0))), some (.inr (.inr (1, g1))), some (.inl r2), none, none]) (rest := []) ((R_X4_readNumber (by omega) q6)) s23 ?_
    have s10 : ∀ n, ax_ex (e + 4) L_X4_readOwes 14 [some (.inr (.inr (12, 0))), some (.inr (.inr (1, g1))), some (.inl r2), none, none] [.inl r7] m8 (n + 4) = if r7 = (-1) then ax_ex (e + 4) L_X4_readOwes 21 [some (.inr (.inr (12, 0))), some (.inr (.inr (1, g1))), some (.inl r2), some (.inl r7), none] [] m8 n else ax_ex (e + 4) L_X4_readOwes 18 [some (.inr (.inr (12, 0))), some (.inr (.inr (1, g1))), some (.inl r2), some (.inl r7), none] [] m8 n := fun n => rfl
    by_cases c9 : r7 = (-1)
    · rw [if_pos c9] at h
      refine ax_gt c9 s10 ?_
      obtain rfl := Option.some.inj h
      exact ax_rq (c := (0 : Int32) = 0 ∨ (0 : Int32) = 1) (j := 2) (by decide) (fun n => rfl)
    · rw [if_neg c9] at h
      refine ax_gf c9 s10 ?_
      have s12 : ∀ n, ax_ex (e + 4) L_X4_readOwes 18 [some (.inr (.inr (12, 0))), some (.inr (.inr (1, g1))), some (.inl r2), some (.inl r7), none] [] m8 (n + 3) = if r7 = r2 then ax_ex (e + 4) L_X4_readOwes 21 [some (.inr (.inr (12, 0))), some (.inr (.inr (1, g1))), some (.inl r2), some (.inl r7), none] [] m8 n else ax_ex (e + 4) L_X4_readOwes 23 [some (.inr (.inr (12, 0))), some (.inr (.inr (1, g1))), some (.inl r2), some (.inl r7), none] [] m8 n := fun n => rfl
      by_cases c11 : r7 = r2
      · rw [if_pos c11] at h
        refine ax_gt c11 s12 ?_
        obtain rfl := Option.some.inj h
        exact ax_rq (c := (0 : Int32) = 0 ∨ (0 : Int32) = 1) (j := 2) (by decide) (fun n => rfl)
      · rw [if_neg c11] at h
        refine ax_gf c11 s12 ?_
        obtain ⟨r14, m15, q13, h⟩ := ax_b2_of h
        have s22 : ∀ n, ax_ex (e + 4) L_X4_readOwes 23 [some (.inr (.inr (12, 0))), some (.inr (.inr (1, g1))), some (.inl r2), some (.inl r7), none] [] m8 (n + 3) = ax_aft (fun s m2 => ax_ex (e + 4) L_X4_readOwes 26 [some (.inr (.inr (12, 0))), some (.inr (.inr (1, g1))), some (.inl r2), some (.inl r7), none] s m2 n) [] (ax_ex (e + 3) L_X4_readNumber 0 (ax_entry [.inr (.inr (12, 0)), .inl 1000] 4) [] m8 n) := fun n => rfl
        refine ax_gci (j := 3) (k2 := 26) (lv2 := [some (.inr (.inr (12, 0))), some (.inr (.inr (1, g1))), some (.inl r2), some (.inl r7), none]) (rest := []) ((R_X4_readNumber (by omega) q13)) s22 ?_
        have s17 : ∀ n, ax_ex (e + 4) L_X4_readOwes 26 [some (.inr (.inr (12, 0))), some (.inr (.inr (1, g1))), some (.inl r2), some (.inl r7), none] [.inl r14] m15 (n + 4) = if r14 = (-1) then ax_ex (e + 4) L_X4_readOwes 30 [some (.inr (.inr (12, 0))), some (.inr (.inr (1, g1))), some (.inl r2), some (.inl r7), some (.inl r14)] [] m15 n else ax_ex (e + 4) L_X4_readOwes 32 [some (.inr (.inr (12, 0))), some (.inr (.inr (1, g1))), some (.inl r2), some (.inl r7), some (.inl r14)] [] m15 n := fun n => rfl
        by_cases c16 : r14 = (-1)
        · rw [if_pos c16] at h
          refine ax_gt c16 s17 ?_
          obtain rfl := Option.some.inj h
          exact ax_rq (c := (0 : Int32) = 0 ∨ (0 : Int32) = 1) (j := 2) (by decide) (fun n => rfl)
        · rw [if_neg c16] at h
          refine ax_gf c16 s17 ?_
          obtain ⟨m20, q18, h⟩ := ax_b_of h
          have s21 : ∀ n, ax_ex (e + 4) L_X4_readOwes 32 [some (.inr (.inr (12, 0))), some (.inr (.inr (1, g1))), some (.inl r2), some (.inl r7), some (.inl r14)] [] m15 (n + 6) = ax_aft (fun s m2 => ax_ex (e + 4) L_X4_readOwes 38 [some (.inr (.inr (12, 0))), some (.inr (.inr (1, g1))), some (.inl r2), some (.inl r7), some (.inl r14)] s m2 n) [] (ax_ex (e + 3) L_X2_put 0 (ax_entry [.inr (.inr (3, g1)), .inl r2, .inl r7, .inl r14] 4) [] m15 n) := fun n => rfl
          refine ax_gcv (j := 6) (k2 := 38) (lv2 := [some (.inr (.inr (12, 0))), some (.inr (.inr (1, g1))), some (.inl r2), some (.inl r7), some (.inl r14)]) (rest := []) ((R_X2_put (by omega) q18)) s21 ?_
          obtain rfl := Option.some.inj h
          exact ax_rq (c := (1 : Int32) = 0 ∨ (1 : Int32) = 1) (j := 2) (by decide) (fun n => rfl)
def F_X4_readSeed (m : ax_M) (g1 : Nat) : Option (Int32 × ax_M) := if (m.1 1 g1 4) < 16 then (ax_b2 (F_X4_readNumber m 6) (fun r4 m5 => if r4 = (-1) then (some (0, m5)) else (ax_b2 (F_X4_readNumber m5 10) (fun r9 m10 => if r9 = (-1) then (some (0, m10)) else (ax_b2 (F_X4_readNumber m10 64) (fun r14 m15 => if r14 = (-1) then (some (0, m15)) else (ax_b2 (F_X4_readNumber m15 (m15.1 1 g1 1)) (fun r19 m20 => if r19 = (-1) then (some (0, m20)) else (ax_b2 (F_X3_addSeed m20 g1 r4 r9 r14 r19) (fun r24 m25 => some (1, m25))))))))))) else (some (0, m))
set_option maxRecDepth 20000 in
set_option maxHeartbeats 4000000 in
theorem R_X4_readSeed {d : Nat} (hd : 4 ≤ d) {m : ax_M} {g1 : Nat} {q : (Int32 × ax_M)} (h : F_X4_readSeed m g1 = some q) : ax_Ru d L_X4_readSeed 0 (ax_entry [.inr (.inr (12, 0)), .inr (.inr (1, g1))] 6) [] m (some (.inl q.1), q.2) := by
  obtain ⟨e, rfl⟩ : ∃ e, d = e + 4 := ⟨d - 4, by omega⟩
  unfold F_X4_readSeed at h
  have s2 : ∀ n, ax_ex (e + 4) L_X4_readSeed 0 (ax_entry [.inr (.inr (12, 0)), .inr (.inr (1, g1))] 6) [] m (n + 4) = if (m.1 1 g1 4) < 16 then ax_ex (e + 4) L_X4_readSeed 6 [some (.inr (.inr (12, 0))), some (.inr (.inr (1, g1))), none, none, none, none] [] m n else ax_ex (e + 4) L_X4_readSeed 4 [some (.inr (.inr (12, 0))), some (.inr (.inr (1, g1))), none, none, none, none] [] m n := fun n => rfl
  by_cases c1 : (m.1 1 g1 4) < 16
  · rw [if_pos c1] at h
    refine ax_gt c1 s2 ?_
    obtain ⟨r4, m5, q3, h⟩ := ax_b2_of h
    have s30 : ∀ n, ax_ex (e + 4) L_X4_readSeed 6 [some (.inr (.inr (12, 0))), some (.inr (.inr (1, g1))), none, none, none, none] [] m (n + 3) = ax_aft (fun s m2 => ax_ex (e + 4) L_X4_readSeed 9 [some (.inr (.inr (12, 0))), some (.inr (.inr (1, g1))), none, none, none, none] s m2 n) [] (ax_ex (e + 3) L_X4_readNumber 0 (ax_entry [.inr (.inr (12, 0)), .inl 6] 4) [] m n) := fun n => rfl
    refine ax_gci (j := 3) (k2 := 9) (lv2 := [some (.inr (.inr (12, 0))), some (.inr (.inr (1, g1))), none, none, none, none]) (rest := []) ((R_X4_readNumber (by omega) q3)) s30 ?_
    have s7 : ∀ n, ax_ex (e + 4) L_X4_readSeed 9 [some (.inr (.inr (12, 0))), some (.inr (.inr (1, g1))), none, none, none, none] [.inl r4] m5 (n + 4) = if r4 = (-1) then ax_ex (e + 4) L_X4_readSeed 13 [some (.inr (.inr (12, 0))), some (.inr (.inr (1, g1))), some (.inl r4), none, none, none] [] m5 n else ax_ex (e + 4) L_X4_readSeed 15 [some (.inr (.inr (12, 0))), some (.inr (.inr (1, g1))), some (.inl r4), none, none, none] [] m5 n := fun n => rfl
    by_cases c6 : r4 = (-1)
    · rw [if_pos c6] at h
      refine ax_gt c6 s7 ?_
      obtain rfl := Option.some.inj h
      exact ax_rq (c := (0 : Int32) = 0 ∨ (0 : Int32) = 1) (j := 2) (by decide) (fun n => rfl)
    · rw [if_neg c6] at h
      refine ax_gf c6 s7 ?_
      obtain ⟨r9, m10, q8, h⟩ := ax_b2_of h
      have s29 : ∀ n, ax_ex (e + 4) L_X4_readSeed 15 [some (.inr (.inr (12, 0))), some (.inr (.inr (1, g1))), some (.inl r4), none, none, none] [] m5 (n + 3) = ax_aft (fun s m2 => ax_ex (e + 4) L_X4_readSeed 18 [some (.inr (.inr (12, 0))), some (.inr (.inr (1, g1))), some (.inl r4), none, none, none] s m2 n) [] (ax_ex (e + 3) L_X4_readNumber 0 (ax_entry [.inr (.inr (12, 0)), .inl 10] 4) [] m5 n) := fun n => rfl
      refine ax_gci (j := 3) (k2 := 18) (lv2 := [some (.inr (.inr (12, 0))), some (.inr (.inr (1, g1))), some (.inl r4), none, none, none]) (rest := []) ((R_X4_readNumber (by omega) q8)) s29 ?_
      have s12 : ∀ n, ax_ex (e + 4) L_X4_readSeed 18 [some (.inr (.inr (12, 0))), some (.inr (.inr (1, g1))), some (.inl r4), none, none, none] [.inl r9] m10 (n + 4) = if r9 = (-1) then ax_ex (e + 4) L_X4_readSeed 22 [some (.inr (.inr (12, 0))), some (.inr (.inr (1, g1))), some (.inl r4), some (.inl r9), none, none] [] m10 n else ax_ex (e + 4) L_X4_readSeed 24 [some (.inr (.inr (12, 0))), some (.inr (.inr (1, g1))), some (.inl r4), some (.inl r9), none, none] [] m10 n := fun n => rfl
      by_cases c11 : r9 = (-1)
      · rw [if_pos c11] at h
        refine ax_gt c11 s12 ?_
        obtain rfl := Option.some.inj h
        exact ax_rq (c := (0 : Int32) = 0 ∨ (0 : Int32) = 1) (j := 2) (by decide) (fun n => rfl)
      · rw [if_neg c11] at h
        refine ax_gf c11 s12 ?_
        obtain ⟨r14, m15, q13, h⟩ := ax_b2_of h
        have s28 : ∀ n, ax_ex (e + 4) L_X4_readSeed 24 [some (.inr (.inr (12, 0))), some (.inr (.inr (1, g1))), some (.inl r4), some (.inl r9), none, none] [] m10 (n + 3) = ax_aft (fun s m2 => ax_ex (e + 4) L_X4_readSeed 27 [some (.inr (.inr (12, 0))), some (.inr (.inr (1, g1))), some (.inl r4), some (.inl r9), none, none] s m2 n) [] (ax_ex (e + 3) L_X4_readNumber 0 (ax_entry [.inr (.inr (12, 0)), .inl 64] 4) [] m10 n) := fun n => rfl
        refine ax_gci (j := 3) (k2 := 27) (lv2 := [some (.inr (.inr (12, 0))), some (.inr (.inr (1, g1))), some (.inl r4), some (.inl r9), none, none]) (rest := []) ((R_X4_readNumber (by omega) q13)) s28 ?_
        have s17 : ∀ n, ax_ex (e + 4) L_X4_readSeed 27 [some (.inr (.inr (12, 0))), some (.inr (.inr (1, g1))), some (.inl r4), some (.inl r9), none, none] [.inl r14] m15 (n + 4) = if r14 = (-1) then ax_ex (e + 4) L_X4_readSeed 31 [some (.inr (.inr (12, 0))), some (.inr (.inr (1, g1))), some (.inl r4), some (.inl r9), some (.inl r14), none] [] m15 n else ax_ex (e + 4) L_X4_readSeed 33 [some (.inr (.inr (12, 0))), some (.inr (.inr (1, g1))), some (.inl r4), some (.inl r9), some (.inl r14), none] [] m15 n := fun n => rfl
        by_cases c16 : r14 = (-1)
        · rw [if_pos c16] at h
          refine ax_gt c16 s17 ?_
          obtain rfl := Option.some.inj h
          exact ax_rq (c := (0 : Int32) = 0 ∨ (0 : Int32) = 1) (j := 2) (by decide) (fun n => rfl)
        · rw [if_neg c16] at h
          refine ax_gf c16 s17 ?_
          obtain ⟨r19, m20, q18, h⟩ := ax_b2_of h
          have s27 : ∀ n, ax_ex (e + 4) L_X4_readSeed 33 [some (.inr (.inr (12, 0))), some (.inr (.inr (1, g1))), some (.inl r4), some (.inl r9), some (.inl r14), none] [] m15 (n + 4) = ax_aft (fun s m2 => ax_ex (e + 4) L_X4_readSeed 37 [some (.inr (.inr (12, 0))), some (.inr (.inr (1, g1))), some (.inl r4), some (.inl r9), some (.inl r14), none] s m2 n) [] (ax_ex (e + 3) L_X4_readNumber 0 (ax_entry [.inr (.inr (12, 0)), .inl (m15.1 1 g1 1)] 4) [] m15 n) := fun n => rfl
          refine ax_gci (j := 4) (k2 := 37) (lv2 := [some (.inr (.inr (12, 0))), some (.inr (.inr (1, g1))), some (.inl r4), some (.inl r9), some (.inl r14), none]) (rest := []) ((R_X4_readNumber (by omega) q18)) s27 ?_
          have s22 : ∀ n, ax_ex (e + 4) L_X4_readSeed 37 [some (.inr (.inr (12, 0))), some (.inr (.inr (1, g1))), some (.inl r4), some (.inl r9), some (.inl r14), none] [.inl r19] m20 (n + 4) = if r19 = (-1) then ax_ex (e + 4) L_X4_readSeed 41 [some (.inr (.inr (12, 0))), some (.inr (.inr (1, g1))), some (.inl r4), some (.inl r9), some (.inl r14), some (.inl r19)] [] m20 n else ax_ex (e + 4) L_X4_readSeed 43 [some (.inr (.inr (12, 0))), some (.inr (.inr (1, g1))), some (.inl r4), some (.inl r9), some (.inl r14), some (.inl r19)] [] m20 n := fun n => rfl
          by_cases c21 : r19 = (-1)
          · rw [if_pos c21] at h
            refine ax_gt c21 s22 ?_
            obtain rfl := Option.some.inj h
            exact ax_rq (c := (0 : Int32) = 0 ∨ (0 : Int32) = 1) (j := 2) (by decide) (fun n => rfl)
          · rw [if_neg c21] at h
            refine ax_gf c21 s22 ?_
            obtain ⟨r24, m25, q23, h⟩ := ax_b2_of h
            have s26 : ∀ n, ax_ex (e + 4) L_X4_readSeed 43 [some (.inr (.inr (12, 0))), some (.inr (.inr (1, g1))), some (.inl r4), some (.inl r9), some (.inl r14), some (.inl r19)] [] m20 (n + 6) = ax_aft (fun s m2 => ax_ex (e + 4) L_X4_readSeed 49 [some (.inr (.inr (12, 0))), some (.inr (.inr (1, g1))), some (.inl r4), some (.inl r9), some (.inl r14), some (.inl r19)] s m2 n) [] (ax_ex (e + 3) L_X3_addSeed 0 (ax_entry [.inr (.inr (1, g1)), .inl r4, .inl r9, .inl r14, .inl r19] 5) [] m20 n) := fun n => rfl
            refine ax_gci (j := 6) (k2 := 49) (lv2 := [some (.inr (.inr (12, 0))), some (.inr (.inr (1, g1))), some (.inl r4), some (.inl r9), some (.inl r14), some (.inl r19)]) (rest := []) ((R_X3_addSeed (by omega) q23)) s26 ?_
            obtain rfl := Option.some.inj h
            exact ax_rq (c := (1 : Int32) = 0 ∨ (1 : Int32) = 1) (j := 3) (by decide) (fun n => rfl)
  · rw [if_neg c1] at h
    refine ax_gf c1 s2 ?_
    obtain rfl := Option.some.inj h
    exact ax_rq (c := (0 : Int32) = 0 ∨ (0 : Int32) = 1) (j := 2) (by decide) (fun n => rfl)
def F_X4_readGo (m : ax_M) (g1 : Nat) : Option (Int32 × ax_M) := ax_b2 (F_X4_readNumber m (m.1 1 g1 1)) (fun r2 m3 => if r2 = (-1) then (some (0, m3)) else (ax_b2 (F_X4_readFloor m3 g1) (fun r7 m8 => if r7 = (-1) then (some (0, m8)) else (if ax_ok r2 8 = true then (some (1, (ax_ui m8 2 g1 r2.toNatClampNeg r7))) else (none)))))
set_option maxRecDepth 20000 in
set_option maxHeartbeats 4000000 in
theorem R_X4_readGo {d : Nat} (hd : 5 ≤ d) {m : ax_M} {g1 : Nat} {q : (Int32 × ax_M)} (h : F_X4_readGo m g1 = some q) : ax_Ru d L_X4_readGo 0 (ax_entry [.inr (.inr (12, 0)), .inr (.inr (1, g1))] 4) [] m (some (.inl q.1), q.2) := by
  obtain ⟨e, rfl⟩ : ∃ e, d = e + 5 := ⟨d - 5, by omega⟩
  unfold F_X4_readGo at h
  obtain ⟨r2, m3, q1, h⟩ := ax_b2_of h
  have s14 : ∀ n, ax_ex (e + 5) L_X4_readGo 0 (ax_entry [.inr (.inr (12, 0)), .inr (.inr (1, g1))] 4) [] m (n + 4) = ax_aft (fun s m2 => ax_ex (e + 5) L_X4_readGo 4 [some (.inr (.inr (12, 0))), some (.inr (.inr (1, g1))), none, none] s m2 n) [] (ax_ex (e + 4) L_X4_readNumber 0 (ax_entry [.inr (.inr (12, 0)), .inl (m.1 1 g1 1)] 4) [] m n) := fun n => rfl
  refine ax_gci (j := 4) (k2 := 4) (lv2 := [some (.inr (.inr (12, 0))), some (.inr (.inr (1, g1))), none, none]) (rest := []) ((R_X4_readNumber (by omega) q1)) s14 ?_
  have s5 : ∀ n, ax_ex (e + 5) L_X4_readGo 4 [some (.inr (.inr (12, 0))), some (.inr (.inr (1, g1))), none, none] [.inl r2] m3 (n + 4) = if r2 = (-1) then ax_ex (e + 5) L_X4_readGo 8 [some (.inr (.inr (12, 0))), some (.inr (.inr (1, g1))), some (.inl r2), none] [] m3 n else ax_ex (e + 5) L_X4_readGo 10 [some (.inr (.inr (12, 0))), some (.inr (.inr (1, g1))), some (.inl r2), none] [] m3 n := fun n => rfl
  by_cases c4 : r2 = (-1)
  · rw [if_pos c4] at h
    refine ax_gt c4 s5 ?_
    obtain rfl := Option.some.inj h
    exact ax_rq (c := (0 : Int32) = 0 ∨ (0 : Int32) = 1) (j := 2) (by decide) (fun n => rfl)
  · rw [if_neg c4] at h
    refine ax_gf c4 s5 ?_
    obtain ⟨r7, m8, q6, h⟩ := ax_b2_of h
    have s13 : ∀ n, ax_ex (e + 5) L_X4_readGo 10 [some (.inr (.inr (12, 0))), some (.inr (.inr (1, g1))), some (.inl r2), none] [] m3 (n + 3) = ax_aft (fun s m2 => ax_ex (e + 5) L_X4_readGo 13 [some (.inr (.inr (12, 0))), some (.inr (.inr (1, g1))), some (.inl r2), none] s m2 n) [] (ax_ex (e + 4) L_X4_readFloor 0 (ax_entry [.inr (.inr (12, 0)), .inr (.inr (1, g1))] 3) [] m3 n) := fun n => rfl
    refine ax_gci (j := 3) (k2 := 13) (lv2 := [some (.inr (.inr (12, 0))), some (.inr (.inr (1, g1))), some (.inl r2), none]) (rest := []) ((R_X4_readFloor (by omega) q6)) s13 ?_
    have s10 : ∀ n, ax_ex (e + 5) L_X4_readGo 13 [some (.inr (.inr (12, 0))), some (.inr (.inr (1, g1))), some (.inl r2), none] [.inl r7] m8 (n + 4) = if r7 = (-1) then ax_ex (e + 5) L_X4_readGo 17 [some (.inr (.inr (12, 0))), some (.inr (.inr (1, g1))), some (.inl r2), some (.inl r7)] [] m8 n else ax_ex (e + 5) L_X4_readGo 19 [some (.inr (.inr (12, 0))), some (.inr (.inr (1, g1))), some (.inl r2), some (.inl r7)] [] m8 n := fun n => rfl
    by_cases c9 : r7 = (-1)
    · rw [if_pos c9] at h
      refine ax_gt c9 s10 ?_
      obtain rfl := Option.some.inj h
      exact ax_rq (c := (0 : Int32) = 0 ∨ (0 : Int32) = 1) (j := 2) (by decide) (fun n => rfl)
    · rw [if_neg c9] at h
      refine ax_gf c9 s10 ?_
      have s12 : ∀ n, ax_ex (e + 5) L_X4_readGo 19 [some (.inr (.inr (12, 0))), some (.inr (.inr (1, g1))), some (.inl r2), some (.inl r7)] [] m8 (n + 5) = if ax_ok r2 8 = true then ax_ex (e + 5) L_X4_readGo 24 [some (.inr (.inr (12, 0))), some (.inr (.inr (1, g1))), some (.inl r2), some (.inl r7)] [] (ax_ui m8 2 g1 r2.toNatClampNeg r7) n else none := fun n => rfl
      by_cases c11 : ax_ok r2 8 = true
      · rw [if_pos c11] at h
        refine ax_gt c11 s12 ?_
        obtain rfl := Option.some.inj h
        exact ax_rq (c := (1 : Int32) = 0 ∨ (1 : Int32) = 1) (j := 2) (by decide) (fun n => rfl)
      · rw [if_neg c11] at h
        cases h
def F_X4_readStatement (m : ax_M) (g1 : Nat) : Option (Int32 × ax_M) := ax_b (F_X4_advance m) (fun m3 => ax_b (F_X4_isWord m3 0) (fun r5 => if r5 = 0 then (ax_b (F_X4_isWord m3 1) (fun r9 => if r9 = 0 then (ax_b (F_X4_isWord m3 2) (fun r13 => if r13 = 0 then (ax_b (F_X4_isWord m3 3) (fun r17 => if r17 = 0 then (ax_b (F_X4_isWord m3 4) (fun r21 => if r21 = 0 then (ax_b (F_X4_isWord m3 5) (fun r25 => if r25 = 0 then (some (0, m3)) else (ax_b2 (F_X4_readGo m3 g1) (fun r29 m30 => if r29 = 0 then (some (0, m30)) else (some (1, m30)))))) else (ax_b2 (F_X4_readSeed m3 g1) (fun r36 m37 => if r36 = 0 ∨ r36 = 1 then some (r36, m37) else none)))) else (ax_b2 (F_X4_readOwes m3 g1) (fun r42 m43 => if r42 = 0 ∨ r42 = 1 then some (r42, m43) else none)))) else (ax_b2 (F_X4_readPerson m3 g1) (fun r48 m49 => if r48 = 0 ∨ r48 = 1 then some (r48, m49) else none)))) else (ax_b2 (F_X4_readOpen m3 g1) (fun r54 m55 => if r54 = 0 ∨ r54 = 1 then some (r54, m55) else none)))) else (ax_b2 (F_X4_readWall m3 g1) (fun r60 m61 => if r60 = 0 ∨ r60 = 1 then some (r60, m61) else none))))
set_option maxRecDepth 20000 in
set_option maxHeartbeats 4000000 in
theorem R_X4_readStatement {d : Nat} (hd : 7 ≤ d) {m : ax_M} {g1 : Nat} {q : (Int32 × ax_M)} (h : F_X4_readStatement m g1 = some q) : ax_Ru d L_X4_readStatement 0 (ax_entry [.inr (.inr (12, 0)), .inr (.inr (1, g1))] 2) [] m (some (.inl q.1), q.2) := by
  obtain ⟨e, rfl⟩ : ∃ e, d = e + 7 := ⟨d - 7, by omega⟩
  unfold F_X4_readStatement at h
  obtain ⟨m3, q1, h⟩ := ax_b_of h
  have s65 : ∀ n, ax_ex (e + 7) L_X4_readStatement 0 (ax_entry [.inr (.inr (12, 0)), .inr (.inr (1, g1))] 2) [] m (n + 2) = ax_aft (fun s m2 => ax_ex (e + 7) L_X4_readStatement 2 [some (.inr (.inr (12, 0))), some (.inr (.inr (1, g1)))] s m2 n) [] (ax_ex (e + 6) L_X4_advance 0 (ax_entry [.inr (.inr (12, 0))] 1) [] m n) := fun n => rfl
  refine ax_gcv (j := 2) (k2 := 2) (lv2 := [some (.inr (.inr (12, 0))), some (.inr (.inr (1, g1)))]) (rest := []) ((R_X4_advance (by omega) q1)) s65 ?_
  obtain ⟨r5, q4, h⟩ := ax_b_of h
  have s64 : ∀ n, ax_ex (e + 7) L_X4_readStatement 2 [some (.inr (.inr (12, 0))), some (.inr (.inr (1, g1)))] [] m3 (n + 3) = ax_aft (fun s m2 => ax_ex (e + 7) L_X4_readStatement 5 [some (.inr (.inr (12, 0))), some (.inr (.inr (1, g1)))] s m2 n) [] (ax_ex (e + 6) L_X4_isWord 0 (ax_entry [.inr (.inr (12, 0)), .inr (.inr (42, 0))] 3) [] m3 n) := fun n => rfl
  refine ax_gci (j := 3) (k2 := 5) (lv2 := [some (.inr (.inr (12, 0))), some (.inr (.inr (1, g1)))]) (rest := []) ((R_X4_isWord (by omega) q4)) s64 ?_
  have s7 : ∀ n, ax_ex (e + 7) L_X4_readStatement 5 [some (.inr (.inr (12, 0))), some (.inr (.inr (1, g1)))] [.inl r5] m3 (n + 1) = if r5 = 0 then ax_ex (e + 7) L_X4_readStatement 10 [some (.inr (.inr (12, 0))), some (.inr (.inr (1, g1)))] [] m3 n else ax_ex (e + 7) L_X4_readStatement 6 [some (.inr (.inr (12, 0))), some (.inr (.inr (1, g1)))] [] m3 n := fun n => rfl
  by_cases c6 : r5 = 0
  · rw [if_pos c6] at h
    refine ax_gt c6 s7 ?_
    obtain ⟨r9, q8, h⟩ := ax_b_of h
    have s58 : ∀ n, ax_ex (e + 7) L_X4_readStatement 10 [some (.inr (.inr (12, 0))), some (.inr (.inr (1, g1)))] [] m3 (n + 3) = ax_aft (fun s m2 => ax_ex (e + 7) L_X4_readStatement 13 [some (.inr (.inr (12, 0))), some (.inr (.inr (1, g1)))] s m2 n) [] (ax_ex (e + 6) L_X4_isWord 0 (ax_entry [.inr (.inr (12, 0)), .inr (.inr (42, 1))] 3) [] m3 n) := fun n => rfl
    refine ax_gci (j := 3) (k2 := 13) (lv2 := [some (.inr (.inr (12, 0))), some (.inr (.inr (1, g1)))]) (rest := []) ((R_X4_isWord (by omega) q8)) s58 ?_
    have s11 : ∀ n, ax_ex (e + 7) L_X4_readStatement 13 [some (.inr (.inr (12, 0))), some (.inr (.inr (1, g1)))] [.inl r9] m3 (n + 1) = if r9 = 0 then ax_ex (e + 7) L_X4_readStatement 18 [some (.inr (.inr (12, 0))), some (.inr (.inr (1, g1)))] [] m3 n else ax_ex (e + 7) L_X4_readStatement 14 [some (.inr (.inr (12, 0))), some (.inr (.inr (1, g1)))] [] m3 n := fun n => rfl
    by_cases c10 : r9 = 0
    · rw [if_pos c10] at h
      refine ax_gt c10 s11 ?_
      obtain ⟨r13, q12, h⟩ := ax_b_of h
      have s52 : ∀ n, ax_ex (e + 7) L_X4_readStatement 18 [some (.inr (.inr (12, 0))), some (.inr (.inr (1, g1)))] [] m3 (n + 3) = ax_aft (fun s m2 => ax_ex (e + 7) L_X4_readStatement 21 [some (.inr (.inr (12, 0))), some (.inr (.inr (1, g1)))] s m2 n) [] (ax_ex (e + 6) L_X4_isWord 0 (ax_entry [.inr (.inr (12, 0)), .inr (.inr (42, 2))] 3) [] m3 n) := fun n => rfl
      refine ax_gci (j := 3) (k2 := 21) (lv2 := [some (.inr (.inr (12, 0))), some (.inr (.inr (1, g1)))]) (rest := []) ((R_X4_isWord (by omega) q12)) s52 ?_
      have s15 : ∀ n, ax_ex (e + 7) L_X4_readStatement 21 [some (.inr (.inr (12, 0))), some (.inr (.inr (1, g1)))] [.inl r13] m3 (n + 1) = if r13 = 0 then ax_ex (e + 7) L_X4_readStatement 26 [some (.inr (.inr (12, 0))), some (.inr (.inr (1, g1)))] [] m3 n else ax_ex (e + 7) L_X4_readStatement 22 [some (.inr (.inr (12, 0))), some (.inr (.inr (1, g1)))] [] m3 n := fun n => rfl
      by_cases c14 : r13 = 0
      · rw [if_pos c14] at h
        refine ax_gt c14 s15 ?_
        obtain ⟨r17, q16, h⟩ := ax_b_of h
        have s46 : ∀ n, ax_ex (e + 7) L_X4_readStatement 26 [some (.inr (.inr (12, 0))), some (.inr (.inr (1, g1)))] [] m3 (n + 3) = ax_aft (fun s m2 => ax_ex (e + 7) L_X4_readStatement 29 [some (.inr (.inr (12, 0))), some (.inr (.inr (1, g1)))] s m2 n) [] (ax_ex (e + 6) L_X4_isWord 0 (ax_entry [.inr (.inr (12, 0)), .inr (.inr (42, 3))] 3) [] m3 n) := fun n => rfl
        refine ax_gci (j := 3) (k2 := 29) (lv2 := [some (.inr (.inr (12, 0))), some (.inr (.inr (1, g1)))]) (rest := []) ((R_X4_isWord (by omega) q16)) s46 ?_
        have s19 : ∀ n, ax_ex (e + 7) L_X4_readStatement 29 [some (.inr (.inr (12, 0))), some (.inr (.inr (1, g1)))] [.inl r17] m3 (n + 1) = if r17 = 0 then ax_ex (e + 7) L_X4_readStatement 34 [some (.inr (.inr (12, 0))), some (.inr (.inr (1, g1)))] [] m3 n else ax_ex (e + 7) L_X4_readStatement 30 [some (.inr (.inr (12, 0))), some (.inr (.inr (1, g1)))] [] m3 n := fun n => rfl
        by_cases c18 : r17 = 0
        · rw [if_pos c18] at h
          refine ax_gt c18 s19 ?_
          obtain ⟨r21, q20, h⟩ := ax_b_of h
          have s40 : ∀ n, ax_ex (e + 7) L_X4_readStatement 34 [some (.inr (.inr (12, 0))), some (.inr (.inr (1, g1)))] [] m3 (n + 3) = ax_aft (fun s m2 => ax_ex (e + 7) L_X4_readStatement 37 [some (.inr (.inr (12, 0))), some (.inr (.inr (1, g1)))] s m2 n) [] (ax_ex (e + 6) L_X4_isWord 0 (ax_entry [.inr (.inr (12, 0)), .inr (.inr (42, 4))] 3) [] m3 n) := fun n => rfl
          refine ax_gci (j := 3) (k2 := 37) (lv2 := [some (.inr (.inr (12, 0))), some (.inr (.inr (1, g1)))]) (rest := []) ((R_X4_isWord (by omega) q20)) s40 ?_
          have s23 : ∀ n, ax_ex (e + 7) L_X4_readStatement 37 [some (.inr (.inr (12, 0))), some (.inr (.inr (1, g1)))] [.inl r21] m3 (n + 1) = if r21 = 0 then ax_ex (e + 7) L_X4_readStatement 42 [some (.inr (.inr (12, 0))), some (.inr (.inr (1, g1)))] [] m3 n else ax_ex (e + 7) L_X4_readStatement 38 [some (.inr (.inr (12, 0))), some (.inr (.inr (1, g1)))] [] m3 n := fun n => rfl
          by_cases c22 : r21 = 0
          · rw [if_pos c22] at h
            refine ax_gt c22 s23 ?_
            obtain ⟨r25, q24, h⟩ := ax_b_of h
            have s34 : ∀ n, ax_ex (e + 7) L_X4_readStatement 42 [some (.inr (.inr (12, 0))), some (.inr (.inr (1, g1)))] [] m3 (n + 3) = ax_aft (fun s m2 => ax_ex (e + 7) L_X4_readStatement 45 [some (.inr (.inr (12, 0))), some (.inr (.inr (1, g1)))] s m2 n) [] (ax_ex (e + 6) L_X4_isWord 0 (ax_entry [.inr (.inr (12, 0)), .inr (.inr (42, 5))] 3) [] m3 n) := fun n => rfl
            refine ax_gci (j := 3) (k2 := 45) (lv2 := [some (.inr (.inr (12, 0))), some (.inr (.inr (1, g1)))]) (rest := []) ((R_X4_isWord (by omega) q24)) s34 ?_
            have s27 : ∀ n, ax_ex (e + 7) L_X4_readStatement 45 [some (.inr (.inr (12, 0))), some (.inr (.inr (1, g1)))] [.inl r25] m3 (n + 1) = if r25 = 0 then ax_ex (e + 7) L_X4_readStatement 52 [some (.inr (.inr (12, 0))), some (.inr (.inr (1, g1)))] [] m3 n else ax_ex (e + 7) L_X4_readStatement 46 [some (.inr (.inr (12, 0))), some (.inr (.inr (1, g1)))] [] m3 n := fun n => rfl
            by_cases c26 : r25 = 0
            · rw [if_pos c26] at h
              refine ax_gt c26 s27 ?_
              obtain rfl := Option.some.inj h
              exact ax_rq (c := (0 : Int32) = 0 ∨ (0 : Int32) = 1) (j := 2) (by decide) (fun n => rfl)
            · rw [if_neg c26] at h
              refine ax_gf c26 s27 ?_
              obtain ⟨r29, m30, q28, h⟩ := ax_b2_of h
              have s33 : ∀ n, ax_ex (e + 7) L_X4_readStatement 46 [some (.inr (.inr (12, 0))), some (.inr (.inr (1, g1)))] [] m3 (n + 3) = ax_aft (fun s m2 => ax_ex (e + 7) L_X4_readStatement 49 [some (.inr (.inr (12, 0))), some (.inr (.inr (1, g1)))] s m2 n) [] (ax_ex (e + 6) L_X4_readGo 0 (ax_entry [.inr (.inr (12, 0)), .inr (.inr (1, g1))] 4) [] m3 n) := fun n => rfl
              refine ax_gci (j := 3) (k2 := 49) (lv2 := [some (.inr (.inr (12, 0))), some (.inr (.inr (1, g1)))]) (rest := []) ((R_X4_readGo (by omega) q28)) s33 ?_
              have s32 : ∀ n, ax_ex (e + 7) L_X4_readStatement 49 [some (.inr (.inr (12, 0))), some (.inr (.inr (1, g1)))] [.inl r29] m30 (n + 1) = if r29 = 0 then ax_ex (e + 7) L_X4_readStatement 52 [some (.inr (.inr (12, 0))), some (.inr (.inr (1, g1)))] [] m30 n else ax_ex (e + 7) L_X4_readStatement 50 [some (.inr (.inr (12, 0))), some (.inr (.inr (1, g1)))] [] m30 n := fun n => rfl
              by_cases c31 : r29 = 0
              · rw [if_pos c31] at h
                refine ax_gt c31 s32 ?_
                obtain rfl := Option.some.inj h
                exact ax_rq (c := (0 : Int32) = 0 ∨ (0 : Int32) = 1) (j := 2) (by decide) (fun n => rfl)
              · rw [if_neg c31] at h
                refine ax_gf c31 s32 ?_
                obtain rfl := Option.some.inj h
                exact ax_rq (c := (1 : Int32) = 0 ∨ (1 : Int32) = 1) (j := 3) (by decide) (fun n => rfl)
          · rw [if_neg c22] at h
            refine ax_gf c22 s23 ?_
            obtain ⟨r36, m37, q35, h⟩ := ax_b2_of h
            have s39 : ∀ n, ax_ex (e + 7) L_X4_readStatement 38 [some (.inr (.inr (12, 0))), some (.inr (.inr (1, g1)))] [] m3 (n + 3) = ax_aft (fun s m2 => ax_ex (e + 7) L_X4_readStatement 41 [some (.inr (.inr (12, 0))), some (.inr (.inr (1, g1)))] s m2 n) [] (ax_ex (e + 6) L_X4_readSeed 0 (ax_entry [.inr (.inr (12, 0)), .inr (.inr (1, g1))] 6) [] m3 n) := fun n => rfl
            refine ax_gci (j := 3) (k2 := 41) (lv2 := [some (.inr (.inr (12, 0))), some (.inr (.inr (1, g1)))]) (rest := []) ((R_X4_readSeed (by omega) q35)) s39 ?_
            have s_ : ∀ n, ax_ex (e + 7) L_X4_readStatement 41 [some (.inr (.inr (12, 0))), some (.inr (.inr (1, g1)))] [.inl r36] m37 (n + 1) = if r36 = 0 ∨ r36 = 1 then some (some (.inl r36), m37) else none := fun n => rfl
            by_cases c38 : r36 = 0 ∨ r36 = 1
            · rw [if_pos c38] at h
              obtain rfl := Option.some.inj h
              exact ax_rs 1 (fun n => (s_ n).trans (if_pos c38))
            · rw [if_neg c38] at h
              cases h
        · rw [if_neg c18] at h
          refine ax_gf c18 s19 ?_
          obtain ⟨r42, m43, q41, h⟩ := ax_b2_of h
          have s45 : ∀ n, ax_ex (e + 7) L_X4_readStatement 30 [some (.inr (.inr (12, 0))), some (.inr (.inr (1, g1)))] [] m3 (n + 3) = ax_aft (fun s m2 => ax_ex (e + 7) L_X4_readStatement 33 [some (.inr (.inr (12, 0))), some (.inr (.inr (1, g1)))] s m2 n) [] (ax_ex (e + 6) L_X4_readOwes 0 (ax_entry [.inr (.inr (12, 0)), .inr (.inr (1, g1))] 5) [] m3 n) := fun n => rfl
          refine ax_gci (j := 3) (k2 := 33) (lv2 := [some (.inr (.inr (12, 0))), some (.inr (.inr (1, g1)))]) (rest := []) ((R_X4_readOwes (by omega) q41)) s45 ?_
          have s_ : ∀ n, ax_ex (e + 7) L_X4_readStatement 33 [some (.inr (.inr (12, 0))), some (.inr (.inr (1, g1)))] [.inl r42] m43 (n + 1) = if r42 = 0 ∨ r42 = 1 then some (some (.inl r42), m43) else none := fun n => rfl
          by_cases c44 : r42 = 0 ∨ r42 = 1
          · rw [if_pos c44] at h
            obtain rfl := Option.some.inj h
            exact ax_rs 1 (fun n => (s_ n).trans (if_pos c44))
          · rw [if_neg c44] at h
            cases h
      · rw [if_neg c14] at h
        refine ax_gf c14 s15 ?_
        obtain ⟨r48, m49, q47, h⟩ := ax_b2_of h
        have s51 : ∀ n, ax_ex (e + 7) L_X4_readStatement 22 [some (.inr (.inr (12, 0))), some (.inr (.inr (1, g1)))] [] m3 (n + 3) = ax_aft (fun s m2 => ax_ex (e + 7) L_X4_readStatement 25 [some (.inr (.inr (12, 0))), some (.inr (.inr (1, g1)))] s m2 n) [] (ax_ex (e + 6) L_X4_readPerson 0 (ax_entry [.inr (.inr (12, 0)), .inr (.inr (1, g1))] 3) [] m3 n) := fun n => rfl
        refine ax_gci (j := 3) (k2 := 25) (lv2 := [some (.inr (.inr (12, 0))), some (.inr (.inr (1, g1)))]) (rest := []) ((R_X4_readPerson (by omega) q47)) s51 ?_
        have s_ : ∀ n, ax_ex (e + 7) L_X4_readStatement 25 [some (.inr (.inr (12, 0))), some (.inr (.inr (1, g1)))] [.inl r48] m49 (n + 1) = if r48 = 0 ∨ r48 = 1 then some (some (.inl r48), m49) else none := fun n => rfl
        by_cases c50 : r48 = 0 ∨ r48 = 1
        · rw [if_pos c50] at h
          obtain rfl := Option.some.inj h
          exact ax_rs 1 (fun n => (s_ n).trans (if_pos c50))
        · rw [if_neg c50] at h
          cases h
    · rw [if_neg c10] at h
      refine ax_gf c10 s11 ?_
      obtain ⟨r54, m55, q53, h⟩ := ax_b2_of h
      have s57 : ∀ n, ax_ex (e + 7) L_X4_readStatement 14 [some (.inr (.inr (12, 0))), some (.inr (.inr (1, g1)))] [] m3 (n + 3) = ax_aft (fun s m2 => ax_ex (e + 7) L_X4_readStatement 17 [some (.inr (.inr (12, 0))), some (.inr (.inr (1, g1)))] s m2 n) [] (ax_ex (e + 6) L_X4_readOpen 0 (ax_entry [.inr (.inr (12, 0)), .inr (.inr (1, g1))] 3) [] m3 n) := fun n => rfl
      refine ax_gci (j := 3) (k2 := 17) (lv2 := [some (.inr (.inr (12, 0))), some (.inr (.inr (1, g1)))]) (rest := []) ((R_X4_readOpen (by omega) q53)) s57 ?_
      have s_ : ∀ n, ax_ex (e + 7) L_X4_readStatement 17 [some (.inr (.inr (12, 0))), some (.inr (.inr (1, g1)))] [.inl r54] m55 (n + 1) = if r54 = 0 ∨ r54 = 1 then some (some (.inl r54), m55) else none := fun n => rfl
      by_cases c56 : r54 = 0 ∨ r54 = 1
      · rw [if_pos c56] at h
        obtain rfl := Option.some.inj h
        exact ax_rs 1 (fun n => (s_ n).trans (if_pos c56))
      · rw [if_neg c56] at h
        cases h
  · rw [if_neg c6] at h
    refine ax_gf c6 s7 ?_
    obtain ⟨r60, m61, q59, h⟩ := ax_b2_of h
    have s63 : ∀ n, ax_ex (e + 7) L_X4_readStatement 6 [some (.inr (.inr (12, 0))), some (.inr (.inr (1, g1)))] [] m3 (n + 3) = ax_aft (fun s m2 => ax_ex (e + 7) L_X4_readStatement 9 [some (.inr (.inr (12, 0))), some (.inr (.inr (1, g1)))] s m2 n) [] (ax_ex (e + 6) L_X4_readWall 0 (ax_entry [.inr (.inr (12, 0)), .inr (.inr (1, g1))] 3) [] m3 n) := fun n => rfl
    refine ax_gci (j := 3) (k2 := 9) (lv2 := [some (.inr (.inr (12, 0))), some (.inr (.inr (1, g1)))]) (rest := []) ((R_X4_readWall (by omega) q59)) s63 ?_
    have s_ : ∀ n, ax_ex (e + 7) L_X4_readStatement 9 [some (.inr (.inr (12, 0))), some (.inr (.inr (1, g1)))] [.inl r60] m61 (n + 1) = if r60 = 0 ∨ r60 = 1 then some (some (.inl r60), m61) else none := fun n => rfl
    by_cases c62 : r60 = 0 ∨ r60 = 1
    · rw [if_pos c62] at h
      obtain rfl := Option.some.inj h
      exact ax_rs 1 (fun n => (s_ n).trans (if_pos c62))
    · rw [if_neg c62] at h
      cases h
def F_X4_readAll_L5 : Nat → ax_M → Nat → Int32 → Option (Int32 × ax_M)
  | 0, _, _, _ => none
  | n + 1, m, g1, v2 => if 250 < v2 then (some (((-20) - (m.1 12 0 2)), m)) else (ax_b2 (F_X4_readStatement m g1) (fun r4 m5 => if r4 = 0 then (some (((-20) - (m5.1 12 0 2)), m5)) else (ax_b (F_X4_advance m5) (fun m10 => if (m10.1 12 0 1) = 0 then (some (v2, m10)) else (if (m10.1 12 0 1) = 3 then (F_X4_readAll_L5 n m10 g1 (v2 + 1)) else (some (((-20) - (m10.1 12 0 2)), m10)))))))
set_option maxRecDepth 20000 in
set_option maxHeartbeats 4000000 in
theorem R_X4_readAll_L5 {e : Nat} {g1 : Nat} : ∀ (n : Nat) (m : ax_M) (v2 : Int32) (q : (Int32 × ax_M)), F_X4_readAll_L5 n m g1 v2 = some q → ax_Ru (e + 8) L_X4_readAll 5 [some (.inr (.inr (12, 0))), some (.inr (.inr (1, g1))), some (.inl v2)] [] m (some (.inl q.1), q.2) := by
  intro n
  induction n with
  | zero =>
    intro m v2 q h
    cases h
  | succ n ih =>
    intro m v2 q h
    rw [F_X4_readAll_L5] at h
    have s2 : ∀ n, ax_ex (e + 8) L_X4_readAll 5 [some (.inr (.inr (12, 0))), some (.inr (.inr (1, g1))), some (.inl v2)] [] m (n + 3) = if 250 < v2 then ax_ex (e + 8) L_X4_readAll 35 [some (.inr (.inr (12, 0))), some (.inr (.inr (1, g1))), some (.inl v2)] [] m n else ax_ex (e + 8) L_X4_readAll 8 [some (.inr (.inr (12, 0))), some (.inr (.inr (1, g1))), some (.inl v2)] [] m n := fun n => rfl
    by_cases c1 : 250 < v2
    · rw [if_pos c1] at h
      refine ax_gt c1 s2 ?_
      obtain rfl := Option.some.inj h
      exact ax_rs 5 (fun n => rfl)
    · rw [if_neg c1] at h
      refine ax_gf c1 s2 ?_
      obtain ⟨r4, m5, q3, h⟩ := ax_b2_of h
      have s16 : ∀ n, ax_ex (e + 8) L_X4_readAll 8 [some (.inr (.inr (12, 0))), some (.inr (.inr (1, g1))), some (.inl v2)] [] m (n + 3) = ax_aft (fun s m2 => ax_ex (e + 8) L_X4_readAll 11 [some (.inr (.inr (12, 0))), some (.inr (.inr (1, g1))), some (.inl v2)] s m2 n) [] (ax_ex (e + 7) L_X4_readStatement 0 (ax_entry [.inr (.inr (12, 0)), .inr (.inr (1, g1))] 2) [] m n) := fun n => rfl
      refine ax_gci (j := 3) (k2 := 11) (lv2 := [some (.inr (.inr (12, 0))), some (.inr (.inr (1, g1))), some (.inl v2)]) (rest := []) ((R_X4_readStatement (by omega) q3)) s16 ?_
      have s7 : ∀ n, ax_ex (e + 8) L_X4_readAll 11 [some (.inr (.inr (12, 0))), some (.inr (.inr (1, g1))), some (.inl v2)] [.inl r4] m5 (n + 1) = if r4 = 0 then ax_ex (e + 8) L_X4_readAll 12 [some (.inr (.inr (12, 0))), some (.inr (.inr (1, g1))), some (.inl v2)] [] m5 n else ax_ex (e + 8) L_X4_readAll 17 [some (.inr (.inr (12, 0))), some (.inr (.inr (1, g1))), some (.inl v2)] [] m5 n := fun n => rfl
      by_cases c6 : r4 = 0
      · rw [if_pos c6] at h
        refine ax_gt c6 s7 ?_
        obtain rfl := Option.some.inj h
        exact ax_rs 5 (fun n => rfl)
      · rw [if_neg c6] at h
        refine ax_gf c6 s7 ?_
        obtain ⟨m10, q8, h⟩ := ax_b_of h
        have s15 : ∀ n, ax_ex (e + 8) L_X4_readAll 17 [some (.inr (.inr (12, 0))), some (.inr (.inr (1, g1))), some (.inl v2)] [] m5 (n + 2) = ax_aft (fun s m2 => ax_ex (e + 8) L_X4_readAll 19 [some (.inr (.inr (12, 0))), some (.inr (.inr (1, g1))), some (.inl v2)] s m2 n) [] (ax_ex (e + 7) L_X4_advance 0 (ax_entry [.inr (.inr (12, 0))] 1) [] m5 n) := fun n => rfl
        refine ax_gcv (j := 2) (k2 := 19) (lv2 := [some (.inr (.inr (12, 0))), some (.inr (.inr (1, g1))), some (.inl v2)]) (rest := []) ((R_X4_advance (by omega) q8)) s15 ?_
        have s12 : ∀ n, ax_ex (e + 8) L_X4_readAll 19 [some (.inr (.inr (12, 0))), some (.inr (.inr (1, g1))), some (.inl v2)] [] m10 (n + 3) = if (m10.1 12 0 1) = 0 then ax_ex (e + 8) L_X4_readAll 22 [some (.inr (.inr (12, 0))), some (.inr (.inr (1, g1))), some (.inl v2)] [] m10 n else ax_ex (e + 8) L_X4_readAll 24 [some (.inr (.inr (12, 0))), some (.inr (.inr (1, g1))), some (.inl v2)] [] m10 n := fun n => rfl
        by_cases c11 : (m10.1 12 0 1) = 0
        · rw [if_pos c11] at h
          refine ax_gt c11 s12 ?_
          obtain rfl := Option.some.inj h
          exact ax_rs 2 (fun n => rfl)
        · rw [if_neg c11] at h
          refine ax_gf c11 s12 ?_
          have s14 : ∀ n, ax_ex (e + 8) L_X4_readAll 24 [some (.inr (.inr (12, 0))), some (.inr (.inr (1, g1))), some (.inl v2)] [] m10 (n + 4) = if (m10.1 12 0 1) = 3 then ax_ex (e + 8) L_X4_readAll 33 [some (.inr (.inr (12, 0))), some (.inr (.inr (1, g1))), some (.inl v2)] [] m10 n else ax_ex (e + 8) L_X4_readAll 28 [some (.inr (.inr (12, 0))), some (.inr (.inr (1, g1))), some (.inl v2)] [] m10 n := fun n => rfl
          by_cases c13 : (m10.1 12 0 1) = 3
          · rw [if_pos c13] at h
            refine ax_gt c13 s14 ?_
            refine ax_go (j := 2) (k2 := 5) (lv2 := [some (.inr (.inr (12, 0))), some (.inr (.inr (1, g1))), some (.inl (v2 + 1))]) (st2 := []) (m2 := m10) (fun n => rfl) ?_
            exact ax_fg (lv2 := [some (.inr (.inr (12, 0))), some (.inr (.inr (1, g1))), some (.inl (v2 + 1))]) ⟨rfl, rfl, rfl, trivial⟩ (ih m10 (v2 + 1) _ h)
          · rw [if_neg c13] at h
            refine ax_gf c13 s14 ?_
            obtain rfl := Option.some.inj h
            exact ax_rs 5 (fun n => rfl)
def F_X4_readAll (m : ax_M) (g1 : Nat) : Option (Int32 × ax_M) := F_X4_readAll_L5 ax_FU (ax_ui m 12 0 3 0) g1 1
set_option maxRecDepth 20000 in
set_option maxHeartbeats 4000000 in
theorem R_X4_readAll {d : Nat} (hd : 8 ≤ d) {m : ax_M} {g1 : Nat} {q : (Int32 × ax_M)} (h : F_X4_readAll m g1 = some q) : ax_Ru d L_X4_readAll 0 (ax_entry [.inr (.inr (12, 0)), .inr (.inr (1, g1))] 3) [] m (some (.inl q.1), q.2) := by
  obtain ⟨e, rfl⟩ : ∃ e, d = e + 8 := ⟨d - 8, by omega⟩
  unfold F_X4_readAll at h
  refine ax_go (j := 5) (k2 := 5) (lv2 := [some (.inr (.inr (12, 0))), some (.inr (.inr (1, g1))), some (.inl 1)]) (st2 := []) (m2 := (ax_ui m 12 0 3 0)) (fun n => rfl) ?_
  refine ax_fg (lv2 := [some (.inr (.inr (12, 0))), some (.inr (.inr (1, g1))), some (.inl 1)]) ⟨rfl, rfl, rfl, trivial⟩ ?_
  refine R_X4_readAll_L5 _ (ax_ui m 12 0 3 0) 1 _ h
def F_X5_closes_L42 (rec : ax_M → Int32 → Int32 → Int32 → Option (Int32 × ax_M)) : Nat → ax_M → Int32 → Int32 → Int32 → Int32 → Int32 → Option (Int32 × ax_M)
  | 0, _, _, _, _, _, _ => none
  | n + 1, m, v2, v3, v4, v5, v6 => if 8 ≤ v6 then (some (0, m)) else (if ((ax_iushr (v5 &&& (v4 ^^^ (-1))) v6) &&& 1) = 0 then (F_X5_closes_L42 rec n m v2 v3 v4 v5 (v6 + 1)) else (if ax_ok v2 8 = true then (ax_b2 (rec (ax_ui m 16 0 v2.toNatClampNeg v6) (v2 + 1) v3 (v4 ||| (ax_ishl 1 v6))) (fun r24 m25 => if r24 = 0 then (F_X5_closes_L42 rec n m25 v2 v3 v4 v5 (v6 + 1)) else (some (1, m25)))) else (none)))
set_option maxRecDepth 20000 in
set_option maxHeartbeats 4000000 in
theorem R_X5_closes_L42 {e : Nat} {B : Nat} (hB : B + 1 ≤ e + 1) {rec : ax_M → Int32 → Int32 → Int32 → Option (Int32 × ax_M)} (hrec : ∀ (d : Nat), B ≤ d → ∀ (m : ax_M) (v2 : Int32) (v3 : Int32) (v4 : Int32) (q : (Int32 × ax_M)), rec m v2 v3 v4 = some q → ax_Ru d L_X5_closes 0 (ax_entry [.inr (.inr (17, 0)), .inr (.inr (16, 0)), .inl v2, .inl v3, .inl v4] 7) [] m (some (.inl q.1), q.2)) {v2 : Int32} {v3 : Int32} {v4 : Int32} {v5 : Int32} : ∀ (n : Nat) (m : ax_M) (v6 : Int32) (q : (Int32 × ax_M)), F_X5_closes_L42 rec n m v2 v3 v4 v5 v6 = some q → ax_Ru (e + 1) L_X5_closes 42 [some (.inr (.inr (17, 0))), some (.inr (.inr (16, 0))), some (.inl v2), some (.inl v3), some (.inl v4), some (.inl v5), some (.inl v6)] [] m (some (.inl q.1), q.2) := by
  intro n
  induction n with
  | zero =>
    intro m v6 q h
    cases h
  | succ n ih =>
    intro m v6 q h
    rw [F_X5_closes_L42] at h
    have s17 : ∀ n, ax_ex (e + 1) L_X5_closes 42 [some (.inr (.inr (17, 0))), some (.inr (.inr (16, 0))), some (.inl v2), some (.inl v3), some (.inl v4), some (.inl v5), some (.inl v6)] [] m (n + 4) = if 8 ≤ v6 then ax_ex (e + 1) L_X5_closes 77 [some (.inr (.inr (17, 0))), some (.inr (.inr (16, 0))), some (.inl v2), some (.inl v3), some (.inl v4), some (.inl v5), some (.inl v6)] [] m n else ax_ex (e + 1) L_X5_closes 46 [some (.inr (.inr (17, 0))), some (.inr (.inr (16, 0))), some (.inl v2), some (.inl v3), some (.inl v4), some (.inl v5), some (.inl v6)] [] m n := fun n => rfl
    by_cases c16 : 8 ≤ v6
    · rw [if_pos c16] at h
      refine ax_gt c16 s17 ?_
      obtain rfl := Option.some.inj h
      exact ax_rq (c := (0 : Int32) = 0 ∨ (0 : Int32) = 1) (j := 2) (by decide) (fun n => rfl)
    · rw [if_neg c16] at h
      refine ax_gf c16 s17 ?_
      refine ax_go (j := 9) (k2 := 55) (lv2 := [some (.inr (.inr (17, 0))), some (.inr (.inr (16, 0))), some (.inl v2), some (.inl v3), some (.inl v4), some (.inl v5), some (.inl v6)]) (st2 := [.inl ((ax_iushr (v5 &&& (v4 ^^^ (-1))) v6) &&& 1)]) (m2 := m) (fun n => rfl) ?_
      obtain ⟨y18, hy18⟩ : ∃ y : Int32, y = ((ax_iushr (v5 &&& (v4 ^^^ (-1))) v6) &&& 1) := ⟨_, rfl⟩
      rw [← hy18] at h ⊢
      have s20 : ∀ n, ax_ex (e + 1) L_X5_closes 55 [some (.inr (.inr (17, 0))), some (.inr (.inr (16, 0))), some (.inl v2), some (.inl v3), some (.inl v4), some (.inl v5), some (.inl v6)] [.inl y18] m (n + 1) = if y18 = 0 then ax_ex (e + 1) L_X5_closes 75 [some (.inr (.inr (17, 0))), some (.inr (.inr (16, 0))), some (.inl v2), some (.inl v3), some (.inl v4), some (.inl v5), some (.inl v6)] [] m n else ax_ex (e + 1) L_X5_closes 56 [some (.inr (.inr (17, 0))), some (.inr (.inr (16, 0))), some (.inl v2), some (.inl v3), some (.inl v4), some (.inl v5), some (.inl v6)] [] m n := fun n => rfl
      by_cases c19 : y18 = 0
      · rw [if_pos c19] at h
        refine ax_gt c19 s20 ?_
        refine ax_go (j := 2) (k2 := 42) (lv2 := [some (.inr (.inr (17, 0))), some (.inr (.inr (16, 0))), some (.inl v2), some (.inl v3), some (.inl v4), some (.inl v5), some (.inl (v6 + 1))]) (st2 := []) (m2 := m) (fun n => rfl) ?_
        exact ax_fg (lv2 := [some (.inr (.inr (17, 0))), some (.inr (.inr (16, 0))), some (.inl v2), some (.inl v3), some (.inl v4), some (.inl v5), some (.inl (v6 + 1))]) ⟨rfl, rfl, rfl, rfl, rfl, rfl, rfl, trivial⟩ (ih m (v6 + 1) _ h)
      · rw [if_neg c19] at h
        refine ax_gf c19 s20 ?_
        have s22 : ∀ n, ax_ex (e + 1) L_X5_closes 56 [some (.inr (.inr (17, 0))), some (.inr (.inr (16, 0))), some (.inl v2), some (.inl v3), some (.inl v4), some (.inl v5), some (.inl v6)] [] m (n + 4) = if ax_ok v2 8 = true then ax_ex (e + 1) L_X5_closes 60 [some (.inr (.inr (17, 0))), some (.inr (.inr (16, 0))), some (.inl v2), some (.inl v3), some (.inl v4), some (.inl v5), some (.inl v6)] [] (ax_ui m 16 0 v2.toNatClampNeg v6) n else none := fun n => rfl
        by_cases c21 : ax_ok v2 8 = true
        · rw [if_pos c21] at h
          refine ax_gt c21 s22 ?_
          obtain ⟨r24, m25, q23, h⟩ := ax_b2_of h
          have s28 : ∀ n, ax_ex (e + 1) L_X5_closes 60 [some (.inr (.inr (17, 0))), some (.inr (.inr (16, 0))), some (.inl v2), some (.inl v3), some (.inl v4), some (.inl v5), some (.inl v6)] [] (ax_ui m 16 0 v2.toNatClampNeg v6) (n + 12) = ax_aft (fun s m2 => ax_ex (e + 1) L_X5_closes 72 [some (.inr (.inr (17, 0))), some (.inr (.inr (16, 0))), some (.inl v2), some (.inl v3), some (.inl v4), some (.inl v5), some (.inl v6)] s m2 n) [] (ax_ex (e + 0) L_X5_closes 0 (ax_entry [.inr (.inr (17, 0)), .inr (.inr (16, 0)), .inl (v2 + 1), .inl v3, .inl (v4 ||| (ax_ishl 1 v6))] 7) [] (ax_ui m 16 0 v2.toNatClampNeg v6) n) := fun n => rfl
          refine ax_gci (j := 12) (k2 := 72) (lv2 := [some (.inr (.inr (17, 0))), some (.inr (.inr (16, 0))), some (.inl v2), some (.inl v3), some (.inl v4), some (.inl v5), some (.inl v6)]) (rest := []) (hrec (e + 0) (by omega) (ax_ui m 16 0 v2.toNatClampNeg v6) (v2 + 1) v3 (v4 ||| (ax_ishl 1 v6)) _ q23) s28 ?_
          have s27 : ∀ n, ax_ex (e + 1) L_X5_closes 72 [some (.inr (.inr (17, 0))), some (.inr (.inr (16, 0))), some (.inl v2), some (.inl v3), some (.inl v4), some (.inl v5), some (.inl v6)] [.inl r24] m25 (n + 1) = if r24 = 0 then ax_ex (e + 1) L_X5_closes 75 [some (.inr (.inr (17, 0))), some (.inr (.inr (16, 0))), some (.inl v2), some (.inl v3), some (.inl v4), some (.inl v5), some (.inl v6)] [] m25 n else ax_ex (e + 1) L_X5_closes 73 [some (.inr (.inr (17, 0))), some (.inr (.inr (16, 0))), some (.inl v2), some (.inl v3), some (.inl v4), some (.inl v5), some (.inl v6)] [] m25 n := fun n => rfl
          by_cases c26 : r24 = 0
          · rw [if_pos c26] at h
            refine ax_gt c26 s27 ?_
            refine ax_go (j := 2) (k2 := 42) (lv2 := [some (.inr (.inr (17, 0))), some (.inr (.inr (16, 0))), some (.inl v2), some (.inl v3), some (.inl v4), some (.inl v5), some (.inl (v6 + 1))]) (st2 := []) (m2 := m25) (fun n => rfl) ?_
            exact ax_fg (lv2 := [some (.inr (.inr (17, 0))), some (.inr (.inr (16, 0))), some (.inl v2), some (.inl v3), some (.inl v4), some (.inl v5), some (.inl (v6 + 1))]) ⟨rfl, rfl, rfl, rfl, rfl, rfl, rfl, trivial⟩ (ih m25 (v6 + 1) _ h)
          · rw [if_neg c26] at h
            refine ax_gf c26 s27 ?_
            obtain rfl := Option.some.inj h
            exact ax_rq (c := (1 : Int32) = 0 ∨ (1 : Int32) = 1) (j := 2) (by decide) (fun n => rfl)
        · rw [if_neg c21] at h
          cases h
def F_X5_closes : Nat → ax_M → Int32 → Int32 → Int32 → Option (Int32 × ax_M)
  | 0, _, _, _, _ => none
  | i + 1, m, v2, v3, v4 => if v2 < 1 then (some (0, m)) else (if 8 < v2 then (some (0, m)) else (if v3 ≤ 8 then (if ax_ok (v2 - 1) 8 = true then (if ax_ok (m.1 16 0 (v2 - 1).toNatClampNeg) 8 = true then (if v2 < v3 then (if ax_ok 0 8 = true then (F_X5_closes_L42 (F_X5_closes i) ax_FU m v2 v3 v4 (m.1 17 0 (m.1 16 0 (v2 - 1).toNatClampNeg).toNatClampNeg) ((m.1 16 0 (0 : Int32).toNatClampNeg) + 1)) else (none)) else (if ax_ok 0 8 = true then (if ((ax_iushr (m.1 17 0 (m.1 16 0 (v2 - 1).toNatClampNeg).toNatClampNeg) (m.1 16 0 (0 : Int32).toNatClampNeg)) &&& 1) = 0 then (some (0, m)) else (some (1, m))) else (none))) else (none)) else (none)) else (some (0, m))))
set_option maxRecDepth 20000 in
set_option maxHeartbeats 4000000 in
theorem R_X5_closes : ∀ (i d : Nat), i + 1 ≤ d → ∀ (m : ax_M) (v2 : Int32) (v3 : Int32) (v4 : Int32) (q : (Int32 × ax_M)), F_X5_closes i m v2 v3 v4 = some q → ax_Ru d L_X5_closes 0 (ax_entry [.inr (.inr (17, 0)), .inr (.inr (16, 0)), .inl v2, .inl v3, .inl v4] 7) [] m (some (.inl q.1), q.2) := by
  intro i
  induction i with
  | zero =>
    intro d hd m v2 v3 v4 q h
    cases h
  | succ i hrec =>
    intro d hd m v2 v3 v4 q h
    obtain ⟨e, rfl⟩ : ∃ e, d = e + 1 := ⟨d - 1, by omega⟩
    have hB : i + 1 + 1 ≤ e + 1 := by omega
    rw [F_X5_closes] at h
    have s2 : ∀ n, ax_ex (e + 1) L_X5_closes 0 (ax_entry [.inr (.inr (17, 0)), .inr (.inr (16, 0)), .inl v2, .inl v3, .inl v4] 7) [] m (n + 3) = if v2 < 1 then ax_ex (e + 1) L_X5_closes 11 [some (.inr (.inr (17, 0))), some (.inr (.inr (16, 0))), some (.inl v2), some (.inl v3), some (.inl v4), none, none] [] m n else ax_ex (e + 1) L_X5_closes 3 [some (.inr (.inr (17, 0))), some (.inr (.inr (16, 0))), some (.inl v2), some (.inl v3), some (.inl v4), none, none] [] m n := fun n => rfl
    by_cases c1 : v2 < 1
    · rw [if_pos c1] at h
      refine ax_gt c1 s2 ?_
      obtain rfl := Option.some.inj h
      exact ax_rq (c := (0 : Int32) = 0 ∨ (0 : Int32) = 1) (j := 2) (by decide) (fun n => rfl)
    · rw [if_neg c1] at h
      refine ax_gf c1 s2 ?_
      have s4 : ∀ n, ax_ex (e + 1) L_X5_closes 3 [some (.inr (.inr (17, 0))), some (.inr (.inr (16, 0))), some (.inl v2), some (.inl v3), some (.inl v4), none, none] [] m (n + 4) = if 8 < v2 then ax_ex (e + 1) L_X5_closes 11 [some (.inr (.inr (17, 0))), some (.inr (.inr (16, 0))), some (.inl v2), some (.inl v3), some (.inl v4), none, none] [] m n else ax_ex (e + 1) L_X5_closes 7 [some (.inr (.inr (17, 0))), some (.inr (.inr (16, 0))), some (.inl v2), some (.inl v3), some (.inl v4), none, none] [] m n := fun n => rfl
      by_cases c3 : 8 < v2
      · rw [if_pos c3] at h
        refine ax_gt c3 s4 ?_
        obtain rfl := Option.some.inj h
        exact ax_rq (c := (0 : Int32) = 0 ∨ (0 : Int32) = 1) (j := 2) (by decide) (fun n => rfl)
      · rw [if_neg c3] at h
        refine ax_gf c3 s4 ?_
        have s6 : ∀ n, ax_ex (e + 1) L_X5_closes 7 [some (.inr (.inr (17, 0))), some (.inr (.inr (16, 0))), some (.inl v2), some (.inl v3), some (.inl v4), none, none] [] m (n + 4) = if v3 ≤ 8 then ax_ex (e + 1) L_X5_closes 13 [some (.inr (.inr (17, 0))), some (.inr (.inr (16, 0))), some (.inl v2), some (.inl v3), some (.inl v4), none, none] [] m n else ax_ex (e + 1) L_X5_closes 11 [some (.inr (.inr (17, 0))), some (.inr (.inr (16, 0))), some (.inl v2), some (.inl v3), some (.inl v4), none, none] [] m n := fun n => rfl
        by_cases c5 : v3 ≤ 8
        · rw [if_pos c5] at h
          refine ax_gt c5 s6 ?_
          refine ax_go (j := 5) (k2 := 18) (lv2 := [some (.inr (.inr (17, 0))), some (.inr (.inr (16, 0))), some (.inl v2), some (.inl v3), some (.inl v4), none, none]) (st2 := [.inl (v2 - 1), .inr (.inr (16, 0)), .inr (.inr (17, 0))]) (m2 := m) (fun n => rfl) ?_
          obtain ⟨y7, hy7⟩ : ∃ y : Int32, y = (v2 - 1) := ⟨_, rfl⟩
          rw [← hy7] at h ⊢
          have s9 : ∀ n, ax_ex (e + 1) L_X5_closes 18 [some (.inr (.inr (17, 0))), some (.inr (.inr (16, 0))), some (.inl v2), some (.inl v3), some (.inl v4), none, none] [.inl y7, .inr (.inr (16, 0)), .inr (.inr (17, 0))] m (n + 1) = if ax_ok y7 8 = true then ax_ex (e + 1) L_X5_closes 19 [some (.inr (.inr (17, 0))), some (.inr (.inr (16, 0))), some (.inl v2), some (.inl v3), some (.inl v4), none, none] [.inl (m.1 16 0 y7.toNatClampNeg), .inr (.inr (17, 0))] m n else none := fun n => rfl
          by_cases c8 : ax_ok y7 8 = true
          · rw [if_pos c8] at h
            refine ax_gt c8 s9 ?_
            have s11 : ∀ n, ax_ex (e + 1) L_X5_closes 19 [some (.inr (.inr (17, 0))), some (.inr (.inr (16, 0))), some (.inl v2), some (.inl v3), some (.inl v4), none, none] [.inl (m.1 16 0 y7.toNatClampNeg), .inr (.inr (17, 0))] m (n + 1) = if ax_ok (m.1 16 0 y7.toNatClampNeg) 8 = true then ax_ex (e + 1) L_X5_closes 20 [some (.inr (.inr (17, 0))), some (.inr (.inr (16, 0))), some (.inl v2), some (.inl v3), some (.inl v4), none, none] [.inl (m.1 17 0 (m.1 16 0 y7.toNatClampNeg).toNatClampNeg)] m n else none := fun n => rfl
            by_cases c10 : ax_ok (m.1 16 0 y7.toNatClampNeg) 8 = true
            · rw [if_pos c10] at h
              refine ax_gt c10 s11 ?_
              have s13 : ∀ n, ax_ex (e + 1) L_X5_closes 20 [some (.inr (.inr (17, 0))), some (.inr (.inr (16, 0))), some (.inl v2), some (.inl v3), some (.inl v4), none, none] [.inl (m.1 17 0 (m.1 16 0 y7.toNatClampNeg).toNatClampNeg)] m (n + 4) = if v2 < v3 then ax_ex (e + 1) L_X5_closes 36 [some (.inr (.inr (17, 0))), some (.inr (.inr (16, 0))), some (.inl v2), some (.inl v3), some (.inl v4), some (.inl (m.1 17 0 (m.1 16 0 y7.toNatClampNeg).toNatClampNeg)), none] [] m n else ax_ex (e + 1) L_X5_closes 24 [some (.inr (.inr (17, 0))), some (.inr (.inr (16, 0))), some (.inl v2), some (.inl v3), some (.inl v4), some (.inl (m.1 17 0 (m.1 16 0 y7.toNatClampNeg).toNatClampNeg)), none] [] m n := fun n => rfl
              by_cases c12 : v2 < v3
              · rw [if_pos c12] at h
                refine ax_gt c12 s13 ?_
                have s15 : ∀ n, ax_ex (e + 1) L_X5_closes 36 [some (.inr (.inr (17, 0))), some (.inr (.inr (16, 0))), some (.inl v2), some (.inl v3), some (.inl v4), some (.inl (m.1 17 0 (m.1 16 0 y7.toNatClampNeg).toNatClampNeg)), none] [] m (n + 3) = if ax_ok 0 8 = true then ax_ex (e + 1) L_X5_closes 39 [some (.inr (.inr (17, 0))), some (.inr (.inr (16, 0))), some (.inl v2), some (.inl v3), some (.inl v4), some (.inl (m.1 17 0 (m.1 16 0 y7.toNatClampNeg).toNatClampNeg)), none] [.inl (m.1 16 0 (0 : Int32).toNatClampNeg)] m n else none := fun n => rfl
                by_cases c14 : ax_ok 0 8 = true
                · rw [if_pos c14] at h
                  refine ax_gt c14 s15 ?_
                  refine ax_go (j := 3) (k2 := 42) (lv2 := [some (.inr (.inr (17, 0))), some (.inr (.inr (16, 0))), some (.inl v2), some (.inl v3), some (.inl v4), some (.inl (m.1 17 0 (m.1 16 0 y7.toNatClampNeg).toNatClampNeg)), some (.inl ((m.1 16 0 (0 : Int32).toNatClampNeg) + 1))]) (st2 := []) (m2 := m) (fun n => rfl) ?_
                  refine ax_fg (lv2 := [some (.inr (.inr (17, 0))), some (.inr (.inr (16, 0))), some (.inl v2), some (.inl v3), some (.inl v4), some (.inl (m.1 17 0 (m.1 16 0 y7.toNatClampNeg).toNatClampNeg)), some (.inl ((m.1 16 0 (0 : Int32).toNatClampNeg) + 1))]) ⟨rfl, rfl, rfl, rfl, rfl, rfl, rfl, trivial⟩ ?_
                  refine R_X5_closes_L42 hB hrec _ m ((m.1 16 0 (0 : Int32).toNatClampNeg) + 1) _ h
                · rw [if_neg c14] at h
                  cases h
              · rw [if_neg c12] at h
                refine ax_gf c12 s13 ?_
                have s31 : ∀ n, ax_ex (e + 1) L_X5_closes 24 [some (.inr (.inr (17, 0))), some (.inr (.inr (16, 0))), some (.inl v2), some (.inl v3), some (.inl v4), some (.inl (m.1 17 0 (m.1 16 0 y7.toNatClampNeg).toNatClampNeg)), none] [] m (n + 4) = if ax_ok 0 8 = true then ax_ex (e + 1) L_X5_closes 28 [some (.inr (.inr (17, 0))), some (.inr (.inr (16, 0))), some (.inl v2), some (.inl v3), some (.inl v4), some (.inl (m.1 17 0 (m.1 16 0 y7.toNatClampNeg).toNatClampNeg)), none] [.inl (m.1 16 0 (0 : Int32).toNatClampNeg), .inl (m.1 17 0 (m.1 16 0 y7.toNatClampNeg).toNatClampNeg)] m n else none := fun n => rfl
                by_cases c30 : ax_ok 0 8 = true
                · rw [if_pos c30] at h
                  refine ax_gt c30 s31 ?_
                  refine ax_go (j := 3) (k2 := 31) (lv2 := [some (.inr (.inr (17, 0))), some (.inr (.inr (16, 0))), some (.inl v2), some (.inl v3), some (.inl v4), some (.inl (m.1 17 0 (m.1 16 0 y7.toNatClampNeg).toNatClampNeg)), none]) (st2 := [.inl ((ax_iushr (m.1 17 0 (m.1 16 0 y7.toNatClampNeg).toNatClampNeg) (m.1 16 0 (0 : Int32).toNatClampNeg)) &&& 1)]) (m2 := m) (fun n => rfl) ?_
                  obtain ⟨y32, hy32⟩ : ∃ y : Int32, y = ((ax_iushr (m.1 17 0 (m.1 16 0 y7.toNatClampNeg).toNatClampNeg) (m.1 16 0 (0 : Int32).toNatClampNeg)) &&& 1) := ⟨_, rfl⟩
                  rw [← hy32] at h ⊢
                  have s34 : ∀ n, ax_ex (e + 1) L_X5_closes 31 [some (.inr (.inr (17, 0))), some (.inr (.inr (16, 0))), some (.inl v2), some (.inl v3), some (.inl v4), some (.inl (m.1 17 0 (m.1 16 0 y7.toNatClampNeg).toNatClampNeg)), none] [.inl y32] m (n + 1) = if y32 = 0 then ax_ex (e + 1) L_X5_closes 34 [some (.inr (.inr (17, 0))), some (.inr (.inr (16, 0))), some (.inl v2), some (.inl v3), some (.inl v4), some (.inl (m.1 17 0 (m.1 16 0 y7.toNatClampNeg).toNatClampNeg)), none] [] m n else ax_ex (e + 1) L_X5_closes 32 [some (.inr (.inr (17, 0))), some (.inr (.inr (16, 0))), some (.inl v2), some (.inl v3), some (.inl v4), some (.inl (m.1 17 0 (m.1 16 0 y7.toNatClampNeg).toNatClampNeg)), none] [] m n := fun n => rfl
                  by_cases c33 : y32 = 0
                  · rw [if_pos c33] at h
                    refine ax_gt c33 s34 ?_
                    obtain rfl := Option.some.inj h
                    exact ax_rq (c := (0 : Int32) = 0 ∨ (0 : Int32) = 1) (j := 2) (by decide) (fun n => rfl)
                  · rw [if_neg c33] at h
                    refine ax_gf c33 s34 ?_
                    obtain rfl := Option.some.inj h
                    exact ax_rq (c := (1 : Int32) = 0 ∨ (1 : Int32) = 1) (j := 3) (by decide) (fun n => rfl)
                · rw [if_neg c30] at h
                  cases h
            · rw [if_neg c10] at h
              cases h
          · rw [if_neg c8] at h
            cases h
        · rw [if_neg c5] at h
          refine ax_gf c5 s6 ?_
          obtain rfl := Option.some.inj h
          exact ax_rq (c := (0 : Int32) = 0 ∨ (0 : Int32) = 1) (j := 2) (by decide) (fun n => rfl)
def F_X5_find_L25 : Nat → (ax_M → Option (Int32 × ax_M)) → ax_M → Int32 → Int32 → Option (Int32 × ax_M)
  | 0, _, _, _, _ => none
  | n + 1, K50, m, v2, v3 => if 8 ≤ v3 then (K50 m) else (if ax_ok 0 8 = true then (ax_b2 (F_X5_closes 12 (ax_ui m 16 0 (0 : Int32).toNatClampNeg v3) 1 v2 (ax_ishl 1 v3)) (fun r20 m21 => if r20 = 0 then (F_X5_find_L25 n K50 m21 v2 (v3 + 1)) else (some (v2, m21)))) else (none))
set_option maxRecDepth 20000 in
set_option maxHeartbeats 4000000 in
theorem R_X5_find_L25 {e : Nat} {v2 : Int32} {K50 : ax_M → Option (Int32 × ax_M)} (hK50 : ∀ (my : ax_M) (q : (Int32 × ax_M)), K50 my = some q → ax_Ru (e + 14) L_X5_find 50 [some (.inr (.inr (15, 0))), none, some (.inl v2), none] [] my (some (.inl q.1), q.2)) : ∀ (n : Nat) (m : ax_M) (v3 : Int32) (q : (Int32 × ax_M)), F_X5_find_L25 n K50 m v2 v3 = some q → ax_Ru (e + 14) L_X5_find 25 [some (.inr (.inr (15, 0))), none, some (.inl v2), some (.inl v3)] [] m (some (.inl q.1), q.2) := by
  intro n
  induction n with
  | zero =>
    intro m v3 q h
    cases h
  | succ n ih =>
    intro m v3 q h
    rw [F_X5_find_L25] at h
    have s16 : ∀ n, ax_ex (e + 14) L_X5_find 25 [some (.inr (.inr (15, 0))), none, some (.inl v2), some (.inl v3)] [] m (n + 5) = if 8 ≤ v3 then ax_ex (e + 14) L_X5_find 50 [some (.inr (.inr (15, 0))), none, some (.inl v2), some (.inl v3)] [] m n else ax_ex (e + 14) L_X5_find 30 [some (.inr (.inr (15, 0))), none, some (.inl v2), some (.inl v3)] [] m n := fun n => rfl
    by_cases c15 : 8 ≤ v3
    · rw [if_pos c15] at h
      refine ax_gt c15 s16 ?_
      exact ax_fg (lv2 := [some (.inr (.inr (15, 0))), none, some (.inl v2), none]) ⟨rfl, rfl, trivial⟩ (hK50 m _ h)
    · rw [if_neg c15] at h
      refine ax_gf c15 s16 ?_
      have s18 : ∀ n, ax_ex (e + 14) L_X5_find 30 [some (.inr (.inr (15, 0))), none, some (.inl v2), some (.inl v3)] [] m (n + 5) = if ax_ok 0 8 = true then ax_ex (e + 14) L_X5_find 35 [some (.inr (.inr (15, 0))), none, some (.inl v2), some (.inl v3)] [] (ax_ui m 16 0 (0 : Int32).toNatClampNeg v3) n else none := fun n => rfl
      by_cases c17 : ax_ok 0 8 = true
      · rw [if_pos c17] at h
        refine ax_gt c17 s18 ?_
        obtain ⟨r20, m21, q19, h⟩ := ax_b2_of h
        have s24 : ∀ n, ax_ex (e + 14) L_X5_find 35 [some (.inr (.inr (15, 0))), none, some (.inl v2), some (.inl v3)] [] (ax_ui m 16 0 (0 : Int32).toNatClampNeg v3) (n + 10) = ax_aft (fun s m2 => ax_ex (e + 14) L_X5_find 45 [some (.inr (.inr (15, 0))), none, some (.inl v2), some (.inl v3)] s m2 n) [] (ax_ex (e + 13) L_X5_closes 0 (ax_entry [.inr (.inr (17, 0)), .inr (.inr (16, 0)), .inl 1, .inl v2, .inl (ax_ishl 1 v3)] 7) [] (ax_ui m 16 0 (0 : Int32).toNatClampNeg v3) n) := fun n => rfl
        refine ax_gci (j := 10) (k2 := 45) (lv2 := [some (.inr (.inr (15, 0))), none, some (.inl v2), some (.inl v3)]) (rest := []) ((R_X5_closes 12 (e + 13) (by omega) (ax_ui m 16 0 (0 : Int32).toNatClampNeg v3) 1 v2 (ax_ishl 1 v3) _ q19)) s24 ?_
        have s23 : ∀ n, ax_ex (e + 14) L_X5_find 45 [some (.inr (.inr (15, 0))), none, some (.inl v2), some (.inl v3)] [.inl r20] m21 (n + 1) = if r20 = 0 then ax_ex (e + 14) L_X5_find 48 [some (.inr (.inr (15, 0))), none, some (.inl v2), some (.inl v3)] [] m21 n else ax_ex (e + 14) L_X5_find 46 [some (.inr (.inr (15, 0))), none, some (.inl v2), some (.inl v3)] [] m21 n := fun n => rfl
        by_cases c22 : r20 = 0
        · rw [if_pos c22] at h
          refine ax_gt c22 s23 ?_
          refine ax_go (j := 2) (k2 := 25) (lv2 := [some (.inr (.inr (15, 0))), none, some (.inl v2), some (.inl (v3 + 1))]) (st2 := []) (m2 := m21) (fun n => rfl) ?_
          exact ax_fg (lv2 := [some (.inr (.inr (15, 0))), none, some (.inl v2), some (.inl (v3 + 1))]) ⟨rfl, rfl, rfl, trivial⟩ (ih m21 (v3 + 1) _ h)
        · rw [if_neg c22] at h
          refine ax_gf c22 s23 ?_
          obtain rfl := Option.some.inj h
          exact ax_rs 2 (fun n => rfl)
      · rw [if_neg c17] at h
        cases h
def F_X5_find_L18 : Nat → ax_M → Int32 → Option (Int32 × ax_M)
  | 0, _, _ => none
  | n + 1, m, v2 => if 8 < v2 then (some ((-1), m)) else (F_X5_find_L25 ax_FU (fun m25 => F_X5_find_L18 n m25 (v2 + 1)) m v2 0)
set_option maxRecDepth 20000 in
set_option maxHeartbeats 4000000 in
theorem R_X5_find_L18 {e : Nat} : ∀ (n : Nat) (m : ax_M) (v2 : Int32) (q : (Int32 × ax_M)), F_X5_find_L18 n m v2 = some q → ax_Ru (e + 14) L_X5_find 18 [some (.inr (.inr (15, 0))), none, some (.inl v2), none] [] m (some (.inl q.1), q.2) := by
  intro n
  induction n with
  | zero =>
    intro m v2 q h
    cases h
  | succ n ih =>
    intro m v2 q h
    rw [F_X5_find_L18] at h
    have s4 : ∀ n, ax_ex (e + 14) L_X5_find 18 [some (.inr (.inr (15, 0))), none, some (.inl v2), none] [] m (n + 5) = if 8 < v2 then ax_ex (e + 14) L_X5_find 52 [some (.inr (.inr (15, 0))), none, some (.inl v2), none] [] m n else ax_ex (e + 14) L_X5_find 23 [some (.inr (.inr (15, 0))), none, some (.inl v2), none] [] m n := fun n => rfl
    by_cases c3 : 8 < v2
    · rw [if_pos c3] at h
      refine ax_gt c3 s4 ?_
      obtain rfl := Option.some.inj h
      exact ax_rs 2 (fun n => rfl)
    · rw [if_neg c3] at h
      refine ax_gf c3 s4 ?_
      refine ax_go (j := 2) (k2 := 25) (lv2 := [some (.inr (.inr (15, 0))), none, some (.inl v2), some (.inl 0)]) (st2 := []) (m2 := m) (fun n => rfl) ?_
      refine ax_fg (lv2 := [some (.inr (.inr (15, 0))), none, some (.inl v2), some (.inl 0)]) ⟨rfl, rfl, rfl, trivial⟩ ?_
      refine R_X5_find_L25 ?_ _ m 0 _ h
      · intro m25 q h
        refine ax_go (j := 2) (k2 := 18) (lv2 := [some (.inr (.inr (15, 0))), none, some (.inl (v2 + 1)), none]) (st2 := []) (m2 := m25) (fun n => rfl) ?_
        exact ax_fg (lv2 := [some (.inr (.inr (15, 0))), none, some (.inl (v2 + 1)), none]) ⟨rfl, rfl, trivial⟩ (ih m25 (v2 + 1) _ h)
def F_X5_find_L2 : Nat → ax_M → Nat → Int32 → Option (Int32 × ax_M)
  | 0, _, _, _ => none
  | n + 1, m, g1, v2 => if 8 ≤ v2 then (F_X5_find_L18 ax_FU m 3) else (ax_b (F_X2_creditorsOf m g1 v2) (fun r29 => if ax_ok v2 8 = true then (F_X5_find_L2 n (ax_ui m 17 0 v2.toNatClampNeg r29) g1 (v2 + 1)) else (none)))
set_option maxRecDepth 20000 in
set_option maxHeartbeats 4000000 in
theorem R_X5_find_L2 {e : Nat} {g1 : Nat} : ∀ (n : Nat) (m : ax_M) (v2 : Int32) (q : (Int32 × ax_M)), F_X5_find_L2 n m g1 v2 = some q → ax_Ru (e + 14) L_X5_find 2 [some (.inr (.inr (15, 0))), some (.inr (.inr (3, g1))), some (.inl v2), none] [] m (some (.inl q.1), q.2) := by
  intro n
  induction n with
  | zero =>
    intro m v2 q h
    cases h
  | succ n ih =>
    intro m v2 q h
    rw [F_X5_find_L2] at h
    have s2 : ∀ n, ax_ex (e + 14) L_X5_find 2 [some (.inr (.inr (15, 0))), some (.inr (.inr (3, g1))), some (.inl v2), none] [] m (n + 5) = if 8 ≤ v2 then ax_ex (e + 14) L_X5_find 16 [some (.inr (.inr (15, 0))), some (.inr (.inr (3, g1))), some (.inl v2), none] [] m n else ax_ex (e + 14) L_X5_find 7 [some (.inr (.inr (15, 0))), some (.inr (.inr (3, g1))), some (.inl v2), none] [] m n := fun n => rfl
    by_cases c1 : 8 ≤ v2
    · rw [if_pos c1] at h
      refine ax_gt c1 s2 ?_
      refine ax_go (j := 2) (k2 := 18) (lv2 := [some (.inr (.inr (15, 0))), some (.inr (.inr (3, g1))), some (.inl 3), none]) (st2 := []) (m2 := m) (fun n => rfl) ?_
      refine ax_fg (lv2 := [some (.inr (.inr (15, 0))), none, some (.inl 3), none]) ⟨rfl, rfl, trivial⟩ ?_
      refine R_X5_find_L18 _ m 3 _ h
    · rw [if_neg c1] at h
      refine ax_gf c1 s2 ?_
      obtain ⟨r29, q28, h⟩ := ax_b_of h
      have s32 : ∀ n, ax_ex (e + 14) L_X5_find 7 [some (.inr (.inr (15, 0))), some (.inr (.inr (3, g1))), some (.inl v2), none] [] m (n + 6) = ax_aft (fun s m2 => ax_ex (e + 14) L_X5_find 13 [some (.inr (.inr (15, 0))), some (.inr (.inr (3, g1))), some (.inl v2), none] s m2 n) [.inl v2, .inr (.inr (17, 0))] (ax_ex (e + 13) L_X2_creditorsOf 0 (ax_entry [.inr (.inr (3, g1)), .inl v2] 4) [] m n) := fun n => rfl
      refine ax_gci (j := 6) (k2 := 13) (lv2 := [some (.inr (.inr (15, 0))), some (.inr (.inr (3, g1))), some (.inl v2), none]) (rest := [.inl v2, .inr (.inr (17, 0))]) ((R_X2_creditorsOf (by omega) q28)) s32 ?_
      have s31 : ∀ n, ax_ex (e + 14) L_X5_find 13 [some (.inr (.inr (15, 0))), some (.inr (.inr (3, g1))), some (.inl v2), none] [.inl r29, .inl v2, .inr (.inr (17, 0))] m (n + 1) = if ax_ok v2 8 = true then ax_ex (e + 14) L_X5_find 14 [some (.inr (.inr (15, 0))), some (.inr (.inr (3, g1))), some (.inl v2), none] [] (ax_ui m 17 0 v2.toNatClampNeg r29) n else none := fun n => rfl
      by_cases c30 : ax_ok v2 8 = true
      · rw [if_pos c30] at h
        refine ax_gt c30 s31 ?_
        refine ax_go (j := 2) (k2 := 2) (lv2 := [some (.inr (.inr (15, 0))), some (.inr (.inr (3, g1))), some (.inl (v2 + 1)), none]) (st2 := []) (m2 := (ax_ui m 17 0 v2.toNatClampNeg r29)) (fun n => rfl) ?_
        exact ax_fg (lv2 := [some (.inr (.inr (15, 0))), some (.inr (.inr (3, g1))), some (.inl (v2 + 1)), none]) ⟨rfl, rfl, rfl, trivial⟩ (ih (ax_ui m 17 0 v2.toNatClampNeg r29) (v2 + 1) _ h)
      · rw [if_neg c30] at h
        cases h
def F_X5_find (m : ax_M) (g1 : Nat) : Option (Int32 × ax_M) := F_X5_find_L2 ax_FU m g1 0
set_option maxRecDepth 20000 in
set_option maxHeartbeats 4000000 in
theorem R_X5_find {d : Nat} (hd : 14 ≤ d) {m : ax_M} {g1 : Nat} {q : (Int32 × ax_M)} (h : F_X5_find m g1 = some q) : ax_Ru d L_X5_find 0 (ax_entry [.inr (.inr (15, 0)), .inr (.inr (3, g1))] 4) [] m (some (.inl q.1), q.2) := by
  obtain ⟨e, rfl⟩ : ∃ e, d = e + 14 := ⟨d - 14, by omega⟩
  unfold F_X5_find at h
  refine ax_go (j := 2) (k2 := 2) (lv2 := [some (.inr (.inr (15, 0))), some (.inr (.inr (3, g1))), some (.inl 0), none]) (st2 := []) (m2 := m) (fun n => rfl) ?_
  refine ax_fg (lv2 := [some (.inr (.inr (15, 0))), some (.inr (.inr (3, g1))), some (.inl 0), none]) ⟨rfl, rfl, rfl, trivial⟩ ?_
  refine R_X5_find_L2 _ m 0 _ h
def F_X6_isOf_L5 : Nat → ax_M → Int32 → Int32 → Int32 → Option Int32
  | 0, _, _, _, _ => none
  | n + 1, m, v1, v2, v3 => if 6 ≤ v3 then (some 0) else (ax_b (F_X6_isKind v2) (fun r4 => if r4 = 0 then (some 0) else (if v2 = v1 then (some 1) else (if ax_ok v2 6 = true then (F_X6_isOf_L5 n m v1 (ax_sta 40 v2.toNatClampNeg) (v3 + 1)) else (none)))))
set_option maxRecDepth 20000 in
set_option maxHeartbeats 4000000 in
theorem R_X6_isOf_L5 {e : Nat} {m : ax_M} {v1 : Int32} : ∀ (n : Nat) (v2 : Int32) (v3 : Int32) (q : Int32), F_X6_isOf_L5 n m v1 v2 v3 = some q → ax_Ru (e + 2) L_X6_isOf 5 [none, some (.inl v1), some (.inl v2), some (.inl v3)] [] m (some (.inl q), m) := by
  intro n
  induction n with
  | zero =>
    intro v2 v3 q h
    cases h
  | succ n ih =>
    intro v2 v3 q h
    rw [F_X6_isOf_L5] at h
    have s2 : ∀ n, ax_ex (e + 2) L_X6_isOf 5 [none, some (.inl v1), some (.inl v2), some (.inl v3)] [] m (n + 3) = if 6 ≤ v3 then ax_ex (e + 2) L_X6_isOf 22 [none, some (.inl v1), some (.inl v2), some (.inl v3)] [] m n else ax_ex (e + 2) L_X6_isOf 8 [none, some (.inl v1), some (.inl v2), some (.inl v3)] [] m n := fun n => rfl
    by_cases c1 : 6 ≤ v3
    · rw [if_pos c1] at h
      refine ax_gt c1 s2 ?_
      obtain rfl := Option.some.inj h
      exact ax_rq (c := (0 : Int32) = 0 ∨ (0 : Int32) = 1) (j := 2) (by decide) (fun n => rfl)
    · rw [if_neg c1] at h
      refine ax_gf c1 s2 ?_
      obtain ⟨r4, q3, h⟩ := ax_b_of h
      have s11 : ∀ n, ax_ex (e + 2) L_X6_isOf 8 [none, some (.inl v1), some (.inl v2), some (.inl v3)] [] m (n + 2) = ax_aft (fun s m2 => ax_ex (e + 2) L_X6_isOf 10 [none, some (.inl v1), some (.inl v2), some (.inl v3)] s m2 n) [] (ax_ex (e + 1) L_X6_isKind 0 (ax_entry [.inl v2] 1) [] m n) := fun n => rfl
      refine ax_gci (j := 2) (k2 := 10) (lv2 := [none, some (.inl v1), some (.inl v2), some (.inl v3)]) (rest := []) ((R_X6_isKind (by omega) q3)) s11 ?_
      have s6 : ∀ n, ax_ex (e + 2) L_X6_isOf 10 [none, some (.inl v1), some (.inl v2), some (.inl v3)] [.inl r4] m (n + 1) = if r4 = 0 then ax_ex (e + 2) L_X6_isOf 22 [none, some (.inl v1), some (.inl v2), some (.inl v3)] [] m n else ax_ex (e + 2) L_X6_isOf 11 [none, some (.inl v1), some (.inl v2), some (.inl v3)] [] m n := fun n => rfl
      by_cases c5 : r4 = 0
      · rw [if_pos c5] at h
        refine ax_gt c5 s6 ?_
        obtain rfl := Option.some.inj h
        exact ax_rq (c := (0 : Int32) = 0 ∨ (0 : Int32) = 1) (j := 2) (by decide) (fun n => rfl)
      · rw [if_neg c5] at h
        refine ax_gf c5 s6 ?_
        have s8 : ∀ n, ax_ex (e + 2) L_X6_isOf 11 [none, some (.inl v1), some (.inl v2), some (.inl v3)] [] m (n + 3) = if v2 = v1 then ax_ex (e + 2) L_X6_isOf 14 [none, some (.inl v1), some (.inl v2), some (.inl v3)] [] m n else ax_ex (e + 2) L_X6_isOf 16 [none, some (.inl v1), some (.inl v2), some (.inl v3)] [] m n := fun n => rfl
        by_cases c7 : v2 = v1
        · rw [if_pos c7] at h
          refine ax_gt c7 s8 ?_
          obtain rfl := Option.some.inj h
          exact ax_rq (c := (1 : Int32) = 0 ∨ (1 : Int32) = 1) (j := 2) (by decide) (fun n => rfl)
        · rw [if_neg c7] at h
          refine ax_gf c7 s8 ?_
          have s10 : ∀ n, ax_ex (e + 2) L_X6_isOf 16 [none, some (.inl v1), some (.inl v2), some (.inl v3)] [] m (n + 3) = if ax_ok v2 6 = true then ax_ex (e + 2) L_X6_isOf 19 [none, some (.inl v1), some (.inl v2), some (.inl v3)] [.inl (ax_sta 40 v2.toNatClampNeg)] m n else none := fun n => rfl
          by_cases c9 : ax_ok v2 6 = true
          · rw [if_pos c9] at h
            refine ax_gt c9 s10 ?_
            refine ax_go (j := 3) (k2 := 5) (lv2 := [none, some (.inl v1), some (.inl (ax_sta 40 v2.toNatClampNeg)), some (.inl (v3 + 1))]) (st2 := []) (m2 := m) (fun n => rfl) ?_
            exact ax_fg (lv2 := [none, some (.inl v1), some (.inl (ax_sta 40 v2.toNatClampNeg)), some (.inl (v3 + 1))]) ⟨rfl, rfl, rfl, trivial⟩ (ih (ax_sta 40 v2.toNatClampNeg) (v3 + 1) _ h)
          · rw [if_neg c9] at h
            cases h
def F_X6_isOf (m : ax_M) (g0 : Nat) (v1 : Int32) : Option Int32 := F_X6_isOf_L5 ax_FU m v1 (m.1 6 g0 0) 0
set_option maxRecDepth 20000 in
set_option maxHeartbeats 4000000 in
theorem R_X6_isOf {d : Nat} (hd : 2 ≤ d) {m : ax_M} {g0 : Nat} {v1 : Int32} {q : Int32} (h : F_X6_isOf m g0 v1 = some q) : ax_Ru d L_X6_isOf 0 (ax_entry [.inr (.inr (6, g0)), .inl v1] 4) [] m (some (.inl q), m) := by
  obtain ⟨e, rfl⟩ : ∃ e, d = e + 2 := ⟨d - 2, by omega⟩
  unfold F_X6_isOf at h
  refine ax_go (j := 5) (k2 := 5) (lv2 := [some (.inr (.inr (6, g0))), some (.inl v1), some (.inl (m.1 6 g0 0)), some (.inl 0)]) (st2 := []) (m2 := m) (fun n => rfl) ?_
  refine ax_fg (lv2 := [none, some (.inl v1), some (.inl (m.1 6 g0 0)), some (.inl 0)]) ⟨rfl, rfl, rfl, trivial⟩ ?_
  refine R_X6_isOf_L5 _ (m.1 6 g0 0) 0 _ h
def F_X7_isSort (v0 : Int32) : Option Int32 := if v0 < 0 then (some 0) else (if 5 ≤ v0 then (some 0) else (some 1))
set_option maxRecDepth 20000 in
set_option maxHeartbeats 4000000 in
theorem R_X7_isSort {d : Nat} (hd : 1 ≤ d) {m : ax_M} {v0 : Int32} {q : Int32} (h : F_X7_isSort v0 = some q) : ax_Ru d L_X7_isSort 0 (ax_entry [.inl v0] 1) [] m (some (.inl q), m) := by
  obtain ⟨e, rfl⟩ : ∃ e, d = e + 1 := ⟨d - 1, by omega⟩
  unfold F_X7_isSort at h
  have s2 : ∀ n, ax_ex (e + 1) L_X7_isSort 0 (ax_entry [.inl v0] 1) [] m (n + 2) = if v0 < 0 then ax_ex (e + 1) L_X7_isSort 7 [some (.inl v0)] [] m n else ax_ex (e + 1) L_X7_isSort 2 [some (.inl v0)] [] m n := fun n => rfl
  by_cases c1 : v0 < 0
  · rw [if_pos c1] at h
    refine ax_gt c1 s2 ?_
    obtain rfl := Option.some.inj h
    exact ax_rq (c := (0 : Int32) = 0 ∨ (0 : Int32) = 1) (j := 2) (by decide) (fun n => rfl)
  · rw [if_neg c1] at h
    refine ax_gf c1 s2 ?_
    have s4 : ∀ n, ax_ex (e + 1) L_X7_isSort 2 [some (.inl v0)] [] m (n + 3) = if 5 ≤ v0 then ax_ex (e + 1) L_X7_isSort 7 [some (.inl v0)] [] m n else ax_ex (e + 1) L_X7_isSort 5 [some (.inl v0)] [] m n := fun n => rfl
    by_cases c3 : 5 ≤ v0
    · rw [if_pos c3] at h
      refine ax_gt c3 s4 ?_
      obtain rfl := Option.some.inj h
      exact ax_rq (c := (0 : Int32) = 0 ∨ (0 : Int32) = 1) (j := 2) (by decide) (fun n => rfl)
    · rw [if_neg c3] at h
      refine ax_gf c3 s4 ?_
      obtain rfl := Option.some.inj h
      exact ax_rq (c := (1 : Int32) = 0 ∨ (1 : Int32) = 1) (j := 3) (by decide) (fun n => rfl)
def F_X7_clear (m : ax_M) (g0 : Nat) : Option ax_M := some (ax_ui (ax_ui m 8 g0 0 (-1)) 8 g0 1 0)
set_option maxRecDepth 20000 in
set_option maxHeartbeats 4000000 in
theorem R_X7_clear {d : Nat} (hd : 1 ≤ d) {m : ax_M} {g0 : Nat} {q : ax_M} (h : F_X7_clear m g0 = some q) : ax_Ru d L_X7_clear 0 (ax_entry [.inr (.inr (8, g0))] 1) [] m (none, q) := by
  obtain ⟨e, rfl⟩ : ∃ e, d = e + 1 := ⟨d - 1, by omega⟩
  unfold F_X7_clear at h
  obtain rfl := Option.some.inj h
  exact ax_rs 7 (fun n => rfl)
def F_X7_takeSeed (m : ax_M) (g0 : Nat) (v1 : Int32) : Option ax_M := some (ax_ui (ax_ui m 8 g0 0 (10 + v1)) 8 g0 1 0)
set_option maxRecDepth 20000 in
set_option maxHeartbeats 4000000 in
theorem R_X7_takeSeed {d : Nat} (hd : 1 ≤ d) {m : ax_M} {g0 : Nat} {v1 : Int32} {q : ax_M} (h : F_X7_takeSeed m g0 v1 = some q) : ax_Ru d L_X7_takeSeed 0 (ax_entry [.inr (.inr (8, g0)), .inl v1] 2) [] m (none, q) := by
  obtain ⟨e, rfl⟩ : ∃ e, d = e + 1 := ⟨d - 1, by omega⟩
  unfold F_X7_takeSeed at h
  obtain rfl := Option.some.inj h
  exact ax_rs 9 (fun n => rfl)
def F_X7_takeRow_L8 : Nat → ax_M → Nat → Int32 → Option ax_M
  | 0, _, _, _ => none
  | n + 1, m, g0, v3 => if 40 ≤ v3 then (some m) else (if ax_ok v3 40 = true then (F_X7_takeRow_L8 n (ax_ul m 9 g0 v3.toNatClampNeg 0) g0 (v3 + 1)) else (none))
set_option maxRecDepth 20000 in
set_option maxHeartbeats 4000000 in
theorem R_X7_takeRow_L8 {e : Nat} {g0 : Nat} : ∀ (n : Nat) (m : ax_M) (v3 : Int32) (q : ax_M), F_X7_takeRow_L8 n m g0 v3 = some q → ax_Ru (e + 1) L_X7_takeRow 8 [some (.inr (.inr (8, g0))), none, none, some (.inl v3)] [] m (none, q) := by
  intro n
  induction n with
  | zero =>
    intro m v3 q h
    cases h
  | succ n ih =>
    intro m v3 q h
    rw [F_X7_takeRow_L8] at h
    have s2 : ∀ n, ax_ex (e + 1) L_X7_takeRow 8 [some (.inr (.inr (8, g0))), none, none, some (.inl v3)] [] m (n + 3) = if 40 ≤ v3 then ax_ex (e + 1) L_X7_takeRow 18 [some (.inr (.inr (8, g0))), none, none, some (.inl v3)] [] m n else ax_ex (e + 1) L_X7_takeRow 11 [some (.inr (.inr (8, g0))), none, none, some (.inl v3)] [] m n := fun n => rfl
    by_cases c1 : 40 ≤ v3
    · rw [if_pos c1] at h
      refine ax_gt c1 s2 ?_
      obtain rfl := Option.some.inj h
      exact ax_rs 1 (fun n => rfl)
    · rw [if_neg c1] at h
      refine ax_gf c1 s2 ?_
      have s4 : ∀ n, ax_ex (e + 1) L_X7_takeRow 11 [some (.inr (.inr (8, g0))), none, none, some (.inl v3)] [] m (n + 5) = if ax_ok v3 40 = true then ax_ex (e + 1) L_X7_takeRow 16 [some (.inr (.inr (8, g0))), none, none, some (.inl v3)] [] (ax_ul m 9 g0 v3.toNatClampNeg 0) n else none := fun n => rfl
      by_cases c3 : ax_ok v3 40 = true
      · rw [if_pos c3] at h
        refine ax_gt c3 s4 ?_
        refine ax_go (j := 2) (k2 := 8) (lv2 := [some (.inr (.inr (8, g0))), none, none, some (.inl (v3 + 1))]) (st2 := []) (m2 := (ax_ul m 9 g0 v3.toNatClampNeg 0)) (fun n => rfl) ?_
        exact ax_fg (lv2 := [some (.inr (.inr (8, g0))), none, none, some (.inl (v3 + 1))]) ⟨rfl, rfl, trivial⟩ (ih (ax_ul m 9 g0 v3.toNatClampNeg 0) (v3 + 1) _ h)
      · rw [if_neg c3] at h
        cases h
def F_X7_takeRow (m : ax_M) (g0 : Nat) (v1 : Int32) (v2 : Int32) : Option ax_M := F_X7_takeRow_L8 ax_FU (ax_ui (ax_ui m 8 g0 0 v1) 8 g0 1 v2) g0 0
set_option maxRecDepth 20000 in
set_option maxHeartbeats 4000000 in
theorem R_X7_takeRow {d : Nat} (hd : 1 ≤ d) {m : ax_M} {g0 : Nat} {v1 : Int32} {v2 : Int32} {q : ax_M} (h : F_X7_takeRow m g0 v1 v2 = some q) : ax_Ru d L_X7_takeRow 0 (ax_entry [.inr (.inr (8, g0)), .inl v1, .inl v2] 4) [] m (none, q) := by
  obtain ⟨e, rfl⟩ : ∃ e, d = e + 1 := ⟨d - 1, by omega⟩
  unfold F_X7_takeRow at h
  refine ax_go (j := 8) (k2 := 8) (lv2 := [some (.inr (.inr (8, g0))), some (.inl v1), some (.inl v2), some (.inl 0)]) (st2 := []) (m2 := (ax_ui (ax_ui m 8 g0 0 v1) 8 g0 1 v2)) (fun n => rfl) ?_
  refine ax_fg (lv2 := [some (.inr (.inr (8, g0))), none, none, some (.inl 0)]) ⟨rfl, rfl, trivial⟩ ?_
  refine R_X7_takeRow_L8 _ (ax_ui (ax_ui m 8 g0 0 v1) 8 g0 1 v2) 0 _ h
def F_X7_isEmpty (m : ax_M) (g0 : Nat) : Option Int32 := if (m.1 8 g0 0) = (-1) then (some 1) else (some 0)
set_option maxRecDepth 20000 in
set_option maxHeartbeats 4000000 in
theorem R_X7_isEmpty {d : Nat} (hd : 1 ≤ d) {m : ax_M} {g0 : Nat} {q : Int32} (h : F_X7_isEmpty m g0 = some q) : ax_Ru d L_X7_isEmpty 0 (ax_entry [.inr (.inr (8, g0))] 1) [] m (some (.inl q), m) := by
  obtain ⟨e, rfl⟩ : ∃ e, d = e + 1 := ⟨d - 1, by omega⟩
  unfold F_X7_isEmpty at h
  have s2 : ∀ n, ax_ex (e + 1) L_X7_isEmpty 0 (ax_entry [.inr (.inr (8, g0))] 1) [] m (n + 4) = if (m.1 8 g0 0) = (-1) then ax_ex (e + 1) L_X7_isEmpty 4 [some (.inr (.inr (8, g0)))] [] m n else ax_ex (e + 1) L_X7_isEmpty 6 [some (.inr (.inr (8, g0)))] [] m n := fun n => rfl
  by_cases c1 : (m.1 8 g0 0) = (-1)
  · rw [if_pos c1] at h
    refine ax_gt c1 s2 ?_
    obtain rfl := Option.some.inj h
    exact ax_rq (c := (1 : Int32) = 0 ∨ (1 : Int32) = 1) (j := 3) (by decide) (fun n => rfl)
  · rw [if_neg c1] at h
    refine ax_gf c1 s2 ?_
    obtain rfl := Option.some.inj h
    exact ax_rq (c := (0 : Int32) = 0 ∨ (0 : Int32) = 1) (j := 2) (by decide) (fun n => rfl)
def F_X7_holdsSeed (m : ax_M) (g0 : Nat) : Option Int32 := if (m.1 8 g0 0) < 10 then (some 0) else (some 1)
set_option maxRecDepth 20000 in
set_option maxHeartbeats 4000000 in
theorem R_X7_holdsSeed {d : Nat} (hd : 1 ≤ d) {m : ax_M} {g0 : Nat} {q : Int32} (h : F_X7_holdsSeed m g0 = some q) : ax_Ru d L_X7_holdsSeed 0 (ax_entry [.inr (.inr (8, g0))] 1) [] m (some (.inl q), m) := by
  obtain ⟨e, rfl⟩ : ∃ e, d = e + 1 := ⟨d - 1, by omega⟩
  unfold F_X7_holdsSeed at h
  have s2 : ∀ n, ax_ex (e + 1) L_X7_holdsSeed 0 (ax_entry [.inr (.inr (8, g0))] 1) [] m (n + 4) = if (m.1 8 g0 0) < 10 then ax_ex (e + 1) L_X7_holdsSeed 6 [some (.inr (.inr (8, g0)))] [] m n else ax_ex (e + 1) L_X7_holdsSeed 4 [some (.inr (.inr (8, g0)))] [] m n := fun n => rfl
  by_cases c1 : (m.1 8 g0 0) < 10
  · rw [if_pos c1] at h
    refine ax_gt c1 s2 ?_
    obtain rfl := Option.some.inj h
    exact ax_rq (c := (0 : Int32) = 0 ∨ (0 : Int32) = 1) (j := 2) (by decide) (fun n => rfl)
  · rw [if_neg c1] at h
    refine ax_gf c1 s2 ?_
    obtain rfl := Option.some.inj h
    exact ax_rq (c := (1 : Int32) = 0 ∨ (1 : Int32) = 1) (j := 3) (by decide) (fun n => rfl)
def F_X7_seedNumber (m : ax_M) (g0 : Nat) : Option Int32 := ax_b (F_X7_holdsSeed m g0) (fun r2 => if r2 = 0 then (some (-1)) else (some ((m.1 8 g0 0) - 10)))
set_option maxRecDepth 20000 in
set_option maxHeartbeats 4000000 in
theorem R_X7_seedNumber {d : Nat} (hd : 2 ≤ d) {m : ax_M} {g0 : Nat} {q : Int32} (h : F_X7_seedNumber m g0 = some q) : ax_Ru d L_X7_seedNumber 0 (ax_entry [.inr (.inr (8, g0))] 1) [] m (some (.inl q), m) := by
  obtain ⟨e, rfl⟩ : ∃ e, d = e + 2 := ⟨d - 2, by omega⟩
  unfold F_X7_seedNumber at h
  obtain ⟨r2, q1, h⟩ := ax_b_of h
  have s5 : ∀ n, ax_ex (e + 2) L_X7_seedNumber 0 (ax_entry [.inr (.inr (8, g0))] 1) [] m (n + 2) = ax_aft (fun s m2 => ax_ex (e + 2) L_X7_seedNumber 2 [some (.inr (.inr (8, g0)))] s m2 n) [] (ax_ex (e + 1) L_X7_holdsSeed 0 (ax_entry [.inr (.inr (8, g0))] 1) [] m n) := fun n => rfl
  refine ax_gci (j := 2) (k2 := 2) (lv2 := [some (.inr (.inr (8, g0)))]) (rest := []) ((R_X7_holdsSeed (by omega) q1)) s5 ?_
  have s4 : ∀ n, ax_ex (e + 2) L_X7_seedNumber 2 [some (.inr (.inr (8, g0)))] [.inl r2] m (n + 1) = if r2 = 0 then ax_ex (e + 2) L_X7_seedNumber 8 [some (.inr (.inr (8, g0)))] [] m n else ax_ex (e + 2) L_X7_seedNumber 3 [some (.inr (.inr (8, g0)))] [] m n := fun n => rfl
  by_cases c3 : r2 = 0
  · rw [if_pos c3] at h
    refine ax_gt c3 s4 ?_
    obtain rfl := Option.some.inj h
    exact ax_rs 2 (fun n => rfl)
  · rw [if_neg c3] at h
    refine ax_gf c3 s4 ?_
    obtain rfl := Option.some.inj h
    exact ax_rs 6 (fun n => rfl)
def F_X7_noRow (m : ax_M) (g0 : Nat) : Option Int32 := ax_b (F_X7_holdsSeed m g0) (fun r2 => if r2 = 0 then (ax_b (F_X7_isEmpty m g0) (fun r6 => if r6 = 0 then (some 0) else (some (-4)))) else (some (-3)))
set_option maxRecDepth 20000 in
set_option maxHeartbeats 4000000 in
theorem R_X7_noRow {d : Nat} (hd : 2 ≤ d) {m : ax_M} {g0 : Nat} {q : Int32} (h : F_X7_noRow m g0 = some q) : ax_Ru d L_X7_noRow 0 (ax_entry [.inr (.inr (8, g0))] 1) [] m (some (.inl q), m) := by
  obtain ⟨e, rfl⟩ : ∃ e, d = e + 2 := ⟨d - 2, by omega⟩
  unfold F_X7_noRow at h
  obtain ⟨r2, q1, h⟩ := ax_b_of h
  have s10 : ∀ n, ax_ex (e + 2) L_X7_noRow 0 (ax_entry [.inr (.inr (8, g0))] 1) [] m (n + 2) = ax_aft (fun s m2 => ax_ex (e + 2) L_X7_noRow 2 [some (.inr (.inr (8, g0)))] s m2 n) [] (ax_ex (e + 1) L_X7_holdsSeed 0 (ax_entry [.inr (.inr (8, g0))] 1) [] m n) := fun n => rfl
  refine ax_gci (j := 2) (k2 := 2) (lv2 := [some (.inr (.inr (8, g0)))]) (rest := []) ((R_X7_holdsSeed (by omega) q1)) s10 ?_
  have s4 : ∀ n, ax_ex (e + 2) L_X7_noRow 2 [some (.inr (.inr (8, g0)))] [.inl r2] m (n + 1) = if r2 = 0 then ax_ex (e + 2) L_X7_noRow 5 [some (.inr (.inr (8, g0)))] [] m n else ax_ex (e + 2) L_X7_noRow 3 [some (.inr (.inr (8, g0)))] [] m n := fun n => rfl
  by_cases c3 : r2 = 0
  · rw [if_pos c3] at h
    refine ax_gt c3 s4 ?_
    obtain ⟨r6, q5, h⟩ := ax_b_of h
    have s9 : ∀ n, ax_ex (e + 2) L_X7_noRow 5 [some (.inr (.inr (8, g0)))] [] m (n + 2) = ax_aft (fun s m2 => ax_ex (e + 2) L_X7_noRow 7 [some (.inr (.inr (8, g0)))] s m2 n) [] (ax_ex (e + 1) L_X7_isEmpty 0 (ax_entry [.inr (.inr (8, g0))] 1) [] m n) := fun n => rfl
    refine ax_gci (j := 2) (k2 := 7) (lv2 := [some (.inr (.inr (8, g0)))]) (rest := []) ((R_X7_isEmpty (by omega) q5)) s9 ?_
    have s8 : ∀ n, ax_ex (e + 2) L_X7_noRow 7 [some (.inr (.inr (8, g0)))] [.inl r6] m (n + 1) = if r6 = 0 then ax_ex (e + 2) L_X7_noRow 10 [some (.inr (.inr (8, g0)))] [] m n else ax_ex (e + 2) L_X7_noRow 8 [some (.inr (.inr (8, g0)))] [] m n := fun n => rfl
    by_cases c7 : r6 = 0
    · rw [if_pos c7] at h
      refine ax_gt c7 s8 ?_
      obtain rfl := Option.some.inj h
      exact ax_rs 2 (fun n => rfl)
    · rw [if_neg c7] at h
      refine ax_gf c7 s8 ?_
      obtain rfl := Option.some.inj h
      exact ax_rs 3 (fun n => rfl)
  · rw [if_neg c3] at h
    refine ax_gf c3 s4 ?_
    obtain rfl := Option.some.inj h
    exact ax_rs 2 (fun n => rfl)
def F_X7_hasElement (m : ax_M) (g0 : Nat) (v1 : Int32) : Option Int32 := if v1 < 0 then (some 0) else (if (m.1 8 g0 1) ≤ v1 then (some 0) else (some 1))
set_option maxRecDepth 20000 in
set_option maxHeartbeats 4000000 in
theorem R_X7_hasElement {d : Nat} (hd : 1 ≤ d) {m : ax_M} {g0 : Nat} {v1 : Int32} {q : Int32} (h : F_X7_hasElement m g0 v1 = some q) : ax_Ru d L_X7_hasElement 0 (ax_entry [.inr (.inr (8, g0)), .inl v1] 2) [] m (some (.inl q), m) := by
  obtain ⟨e, rfl⟩ : ∃ e, d = e + 1 := ⟨d - 1, by omega⟩
  unfold F_X7_hasElement at h
  have s2 : ∀ n, ax_ex (e + 1) L_X7_hasElement 0 (ax_entry [.inr (.inr (8, g0)), .inl v1] 2) [] m (n + 2) = if v1 < 0 then ax_ex (e + 1) L_X7_hasElement 8 [some (.inr (.inr (8, g0))), some (.inl v1)] [] m n else ax_ex (e + 1) L_X7_hasElement 2 [some (.inr (.inr (8, g0))), some (.inl v1)] [] m n := fun n => rfl
  by_cases c1 : v1 < 0
  · rw [if_pos c1] at h
    refine ax_gt c1 s2 ?_
    obtain rfl := Option.some.inj h
    exact ax_rq (c := (0 : Int32) = 0 ∨ (0 : Int32) = 1) (j := 2) (by decide) (fun n => rfl)
  · rw [if_neg c1] at h
    refine ax_gf c1 s2 ?_
    have s4 : ∀ n, ax_ex (e + 1) L_X7_hasElement 2 [some (.inr (.inr (8, g0))), some (.inl v1)] [] m (n + 4) = if (m.1 8 g0 1) ≤ v1 then ax_ex (e + 1) L_X7_hasElement 8 [some (.inr (.inr (8, g0))), some (.inl v1)] [] m n else ax_ex (e + 1) L_X7_hasElement 6 [some (.inr (.inr (8, g0))), some (.inl v1)] [] m n := fun n => rfl
    by_cases c3 : (m.1 8 g0 1) ≤ v1
    · rw [if_pos c3] at h
      refine ax_gt c3 s4 ?_
      obtain rfl := Option.some.inj h
      exact ax_rq (c := (0 : Int32) = 0 ∨ (0 : Int32) = 1) (j := 2) (by decide) (fun n => rfl)
    · rw [if_neg c3] at h
      refine ax_gf c3 s4 ?_
      obtain rfl := Option.some.inj h
      exact ax_rq (c := (1 : Int32) = 0 ∨ (1 : Int32) = 1) (j := 3) (by decide) (fun n => rfl)
def F_X7_hasElements (m : ax_M) (g0 : Nat) (v1 : Int32) (v2 : Int32) : Option Int32 := if v1 < 0 then (some 0) else (if v2 < 0 then (some 0) else (if ((m.1 8 g0 1) - v1) < v2 then (some 0) else (some 1)))
set_option maxRecDepth 20000 in
set_option maxHeartbeats 4000000 in
theorem R_X7_hasElements {d : Nat} (hd : 1 ≤ d) {m : ax_M} {g0 : Nat} {v1 : Int32} {v2 : Int32} {q : Int32} (h : F_X7_hasElements m g0 v1 v2 = some q) : ax_Ru d L_X7_hasElements 0 (ax_entry [.inr (.inr (8, g0)), .inl v1, .inl v2] 3) [] m (some (.inl q), m) := by
  obtain ⟨e, rfl⟩ : ∃ e, d = e + 1 := ⟨d - 1, by omega⟩
  unfold F_X7_hasElements at h
  have s2 : ∀ n, ax_ex (e + 1) L_X7_hasElements 0 (ax_entry [.inr (.inr (8, g0)), .inl v1, .inl v2] 3) [] m (n + 2) = if v1 < 0 then ax_ex (e + 1) L_X7_hasElements 12 [some (.inr (.inr (8, g0))), some (.inl v1), some (.inl v2)] [] m n else ax_ex (e + 1) L_X7_hasElements 2 [some (.inr (.inr (8, g0))), some (.inl v1), some (.inl v2)] [] m n := fun n => rfl
  by_cases c1 : v1 < 0
  · rw [if_pos c1] at h
    refine ax_gt c1 s2 ?_
    obtain rfl := Option.some.inj h
    exact ax_rq (c := (0 : Int32) = 0 ∨ (0 : Int32) = 1) (j := 2) (by decide) (fun n => rfl)
  · rw [if_neg c1] at h
    refine ax_gf c1 s2 ?_
    have s4 : ∀ n, ax_ex (e + 1) L_X7_hasElements 2 [some (.inr (.inr (8, g0))), some (.inl v1), some (.inl v2)] [] m (n + 2) = if v2 < 0 then ax_ex (e + 1) L_X7_hasElements 12 [some (.inr (.inr (8, g0))), some (.inl v1), some (.inl v2)] [] m n else ax_ex (e + 1) L_X7_hasElements 4 [some (.inr (.inr (8, g0))), some (.inl v1), some (.inl v2)] [] m n := fun n => rfl
    by_cases c3 : v2 < 0
    · rw [if_pos c3] at h
      refine ax_gt c3 s4 ?_
      obtain rfl := Option.some.inj h
      exact ax_rq (c := (0 : Int32) = 0 ∨ (0 : Int32) = 1) (j := 2) (by decide) (fun n => rfl)
    · rw [if_neg c3] at h
      refine ax_gf c3 s4 ?_
      refine ax_go (j := 5) (k2 := 9) (lv2 := [some (.inr (.inr (8, g0))), some (.inl v1), some (.inl v2)]) (st2 := [.inl ((m.1 8 g0 1) - v1), .inl v2]) (m2 := m) (fun n => rfl) ?_
      obtain ⟨y5, hy5⟩ : ∃ y : Int32, y = ((m.1 8 g0 1) - v1) := ⟨_, rfl⟩
      rw [← hy5] at h ⊢
      have s7 : ∀ n, ax_ex (e + 1) L_X7_hasElements 9 [some (.inr (.inr (8, g0))), some (.inl v1), some (.inl v2)] [.inl y5, .inl v2] m (n + 1) = if y5 < v2 then ax_ex (e + 1) L_X7_hasElements 12 [some (.inr (.inr (8, g0))), some (.inl v1), some (.inl v2)] [] m n else ax_ex (e + 1) L_X7_hasElements 10 [some (.inr (.inr (8, g0))), some (.inl v1), some (.inl v2)] [] m n := fun n => rfl
      by_cases c6 : y5 < v2
      · rw [if_pos c6] at h
        refine ax_gt c6 s7 ?_
        obtain rfl := Option.some.inj h
        exact ax_rq (c := (0 : Int32) = 0 ∨ (0 : Int32) = 1) (j := 2) (by decide) (fun n => rfl)
      · rw [if_neg c6] at h
        refine ax_gf c6 s7 ?_
        obtain rfl := Option.some.inj h
        exact ax_rq (c := (1 : Int32) = 0 ∨ (1 : Int32) = 1) (j := 3) (by decide) (fun n => rfl)
def F_X7_fit (m : ax_M) (g0 : Nat) (v1 : Int64) : Option Int64 := if (m.1 8 g0 0) = 0 then (some ((ax_i2b v1.toInt32).toInt64)) else (if (m.1 8 g0 0) = 1 then (some ((ax_i2s v1.toInt32).toInt64)) else (if (m.1 8 g0 0) = 2 then (some v1.toInt32.toInt64) else (if (m.1 8 g0 0) = 3 then (some v1) else (if (m.1 8 g0 0) = 4 then (if (lg_cmp v1 0) = 0 then (some 0) else (some 1)) else (some v1)))))
set_option maxRecDepth 20000 in
set_option maxHeartbeats 4000000 in
theorem R_X7_fit {d : Nat} (hd : 1 ≤ d) {m : ax_M} {g0 : Nat} {v1 : Int64} {q : Int64} (h : F_X7_fit m g0 v1 = some q) : ax_Ru d L_X7_fit 0 (ax_entry [.inr (.inr (8, g0)), .inr (.inl v1)] 3) [] m (some (.inr (.inl q)), m) := by
  obtain ⟨e, rfl⟩ : ∃ e, d = e + 1 := ⟨d - 1, by omega⟩
  unfold F_X7_fit at h
  have s1 : ∀ n, ax_ex (e + 1) L_X7_fit 0 (ax_entry [.inr (.inr (8, g0)), .inr (.inl v1)] 3) [] m (n + 3) = (if (m.1 8 g0 0) = 0 then ax_ex (e + 1) L_X7_fit 3 [some (.inr (.inr (8, g0))), some (.inr (.inl v1)), none] [] m n else (if (m.1 8 g0 0) = 1 then ax_ex (e + 1) L_X7_fit 8 [some (.inr (.inr (8, g0))), some (.inr (.inl v1)), none] [] m n else (if (m.1 8 g0 0) = 2 then ax_ex (e + 1) L_X7_fit 13 [some (.inr (.inr (8, g0))), some (.inr (.inl v1)), none] [] m n else (if (m.1 8 g0 0) = 3 then ax_ex (e + 1) L_X7_fit 25 [some (.inr (.inr (8, g0))), some (.inr (.inl v1)), none] [] m n else (if (m.1 8 g0 0) = 4 then ax_ex (e + 1) L_X7_fit 17 [some (.inr (.inr (8, g0))), some (.inr (.inl v1)), none] [] m n else ax_ex (e + 1) L_X7_fit 25 [some (.inr (.inr (8, g0))), some (.inr (.inl v1)), none] [] m n))))) := fun n => rfl
  by_cases c2 : (m.1 8 g0 0) = 0
  · rw [if_pos c2] at h
    refine ax_go (j := 3) (k2 := 3) (lv2 := [some (.inr (.inr (8, g0))), some (.inr (.inl v1)), none]) (st2 := []) (m2 := m) (fun n => (s1 n).trans (if_pos c2)) ?_
    obtain rfl := Option.some.inj h
    exact ax_rs 5 (fun n => rfl)
  · rw [if_neg c2] at h
    by_cases c3 : (m.1 8 g0 0) = 1
    · rw [if_pos c3] at h
      refine ax_go (j := 3) (k2 := 8) (lv2 := [some (.inr (.inr (8, g0))), some (.inr (.inl v1)), none]) (st2 := []) (m2 := m) (fun n => ((s1 n).trans (if_neg c2)).trans (if_pos c3)) ?_
      obtain rfl := Option.some.inj h
      exact ax_rs 5 (fun n => rfl)
    · rw [if_neg c3] at h
      by_cases c4 : (m.1 8 g0 0) = 2
      · rw [if_pos c4] at h
        refine ax_go (j := 3) (k2 := 13) (lv2 := [some (.inr (.inr (8, g0))), some (.inr (.inl v1)), none]) (st2 := []) (m2 := m) (fun n => (((s1 n).trans (if_neg c2)).trans (if_neg c3)).trans (if_pos c4)) ?_
        obtain rfl := Option.some.inj h
        exact ax_rs 4 (fun n => rfl)
      · rw [if_neg c4] at h
        by_cases c5 : (m.1 8 g0 0) = 3
        · rw [if_pos c5] at h
          refine ax_go (j := 3) (k2 := 25) (lv2 := [some (.inr (.inr (8, g0))), some (.inr (.inl v1)), none]) (st2 := []) (m2 := m) (fun n => ((((s1 n).trans (if_neg c2)).trans (if_neg c3)).trans (if_neg c4)).trans (if_pos c5)) ?_
          obtain rfl := Option.some.inj h
          exact ax_rs 2 (fun n => rfl)
        · rw [if_neg c5] at h
          by_cases c6 : (m.1 8 g0 0) = 4
          · rw [if_pos c6] at h
            refine ax_go (j := 3) (k2 := 17) (lv2 := [some (.inr (.inr (8, g0))), some (.inr (.inl v1)), none]) (st2 := []) (m2 := m) (fun n => (((((s1 n).trans (if_neg c2)).trans (if_neg c3)).trans (if_neg c4)).trans (if_neg c5)).trans (if_pos c6)) ?_
            refine ax_go (j := 3) (k2 := 20) (lv2 := [some (.inr (.inr (8, g0))), some (.inr (.inl v1)), none]) (st2 := [.inl (lg_cmp v1 0)]) (m2 := m) (fun n => rfl) ?_
            obtain ⟨y7, hy7⟩ : ∃ y : Int32, y = (lg_cmp v1 0) := ⟨_, rfl⟩
            rw [← hy7] at h ⊢
            have s9 : ∀ n, ax_ex (e + 1) L_X7_fit 20 [some (.inr (.inr (8, g0))), some (.inr (.inl v1)), none] [.inl y7] m (n + 1) = if y7 = 0 then ax_ex (e + 1) L_X7_fit 23 [some (.inr (.inr (8, g0))), some (.inr (.inl v1)), none] [] m n else ax_ex (e + 1) L_X7_fit 21 [some (.inr (.inr (8, g0))), some (.inr (.inl v1)), none] [] m n := fun n => rfl
            by_cases c8 : y7 = 0
            · rw [if_pos c8] at h
              refine ax_gt c8 s9 ?_
              obtain rfl := Option.some.inj h
              exact ax_rs 2 (fun n => rfl)
            · rw [if_neg c8] at h
              refine ax_gf c8 s9 ?_
              obtain rfl := Option.some.inj h
              exact ax_rs 3 (fun n => rfl)
          · rw [if_neg c6] at h
            refine ax_go (j := 3) (k2 := 25) (lv2 := [some (.inr (.inr (8, g0))), some (.inr (.inl v1)), none]) (st2 := []) (m2 := m) (fun n => ((((((s1 n).trans (if_neg c2)).trans (if_neg c3)).trans (if_neg c4)).trans (if_neg c5)).trans (if_neg c6))) ?_
            obtain rfl := Option.some.inj h
            exact ax_rs 2 (fun n => rfl)
def F_X7_put (m : ax_M) (g0 : Nat) (v1 : Int32) (v2 : Int64) : Option ax_M := ax_b (F_X7_fit m g0 v2) (fun r2 => if ax_ok v1 40 = true then (some (ax_ul m 9 g0 v1.toNatClampNeg r2)) else (none))
set_option maxRecDepth 20000 in
set_option maxHeartbeats 4000000 in
theorem R_X7_put {d : Nat} (hd : 2 ≤ d) {m : ax_M} {g0 : Nat} {v1 : Int32} {v2 : Int64} {q : ax_M} (h : F_X7_put m g0 v1 v2 = some q) : ax_Ru d L_X7_put 0 (ax_entry [.inr (.inr (8, g0)), .inl v1, .inr (.inl v2)] 4) [] m (none, q) := by
  obtain ⟨e, rfl⟩ : ∃ e, d = e + 2 := ⟨d - 2, by omega⟩
  unfold F_X7_put at h
  obtain ⟨r2, q1, h⟩ := ax_b_of h
  have s5 : ∀ n, ax_ex (e + 2) L_X7_put 0 (ax_entry [.inr (.inr (8, g0)), .inl v1, .inr (.inl v2)] 4) [] m (n + 6) = ax_aft (fun s m2 => ax_ex (e + 2) L_X7_put 6 [some (.inr (.inr (8, g0))), some (.inl v1), some (.inr (.inl v2)), none] s m2 n) [.inl v1, .inr (.inr (9, g0))] (ax_ex (e + 1) L_X7_fit 0 (ax_entry [.inr (.inr (8, g0)), .inr (.inl v2)] 3) [] m n) := fun n => rfl
  refine ax_gcl (j := 6) (k2 := 6) (lv2 := [some (.inr (.inr (8, g0))), some (.inl v1), some (.inr (.inl v2)), none]) (rest := [.inl v1, .inr (.inr (9, g0))]) ((R_X7_fit (by omega) q1)) s5 ?_
  have s4 : ∀ n, ax_ex (e + 2) L_X7_put 6 [some (.inr (.inr (8, g0))), some (.inl v1), some (.inr (.inl v2)), none] [.inr (.inl r2), .inl v1, .inr (.inr (9, g0))] m (n + 1) = if ax_ok v1 40 = true then ax_ex (e + 2) L_X7_put 7 [some (.inr (.inr (8, g0))), some (.inl v1), some (.inr (.inl v2)), none] [] (ax_ul m 9 g0 v1.toNatClampNeg r2) n else none := fun n => rfl
  by_cases c3 : ax_ok v1 40 = true
  · rw [if_pos c3] at h
    refine ax_gt c3 s4 ?_
    obtain rfl := Option.some.inj h
    exact ax_rs 1 (fun n => rfl)
  · rw [if_neg c3] at h
    cases h
def F_X7_cellAt (m : ax_M) (g0 : Nat) (v1 : Int32) : Option Int32 := ax_b (F_X7_hasElement m g0 v1) (fun r2 => if r2 = 0 then (some (-1)) else (if ax_ok v1 40 = true then (if (lg_cmp (m.2 9 g0 v1.toNatClampNeg) 0) < 0 then (some (-1)) else (if ax_ok v1 40 = true then (if (lg_cmp (m.2 9 g0 v1.toNatClampNeg) 64) < 0 then (if ax_ok v1 40 = true then (some ((m.2 9 g0 v1.toNatClampNeg).toInt32)) else (none)) else (some (-1))) else (none))) else (none)))
set_option maxRecDepth 20000 in
set_option maxHeartbeats 4000000 in
theorem R_X7_cellAt {d : Nat} (hd : 2 ≤ d) {m : ax_M} {g0 : Nat} {v1 : Int32} {q : Int32} (h : F_X7_cellAt m g0 v1 = some q) : ax_Ru d L_X7_cellAt 0 (ax_entry [.inr (.inr (8, g0)), .inl v1] 2) [] m (some (.inl q), m) := by
  obtain ⟨e, rfl⟩ : ∃ e, d = e + 2 := ⟨d - 2, by omega⟩
  unfold F_X7_cellAt at h
  obtain ⟨r2, q1, h⟩ := ax_b_of h
  have s17 : ∀ n, ax_ex (e + 2) L_X7_cellAt 0 (ax_entry [.inr (.inr (8, g0)), .inl v1] 2) [] m (n + 3) = ax_aft (fun s m2 => ax_ex (e + 2) L_X7_cellAt 3 [some (.inr (.inr (8, g0))), some (.inl v1)] s m2 n) [] (ax_ex (e + 1) L_X7_hasElement 0 (ax_entry [.inr (.inr (8, g0)), .inl v1] 2) [] m n) := fun n => rfl
  refine ax_gci (j := 3) (k2 := 3) (lv2 := [some (.inr (.inr (8, g0))), some (.inl v1)]) (rest := []) ((R_X7_hasElement (by omega) q1)) s17 ?_
  have s4 : ∀ n, ax_ex (e + 2) L_X7_cellAt 3 [some (.inr (.inr (8, g0))), some (.inl v1)] [.inl r2] m (n + 1) = if r2 = 0 then ax_ex (e + 2) L_X7_cellAt 18 [some (.inr (.inr (8, g0))), some (.inl v1)] [] m n else ax_ex (e + 2) L_X7_cellAt 4 [some (.inr (.inr (8, g0))), some (.inl v1)] [] m n := fun n => rfl
  by_cases c3 : r2 = 0
  · rw [if_pos c3] at h
    refine ax_gt c3 s4 ?_
    obtain rfl := Option.some.inj h
    exact ax_rs 2 (fun n => rfl)
  · rw [if_neg c3] at h
    refine ax_gf c3 s4 ?_
    have s6 : ∀ n, ax_ex (e + 2) L_X7_cellAt 4 [some (.inr (.inr (8, g0))), some (.inl v1)] [] m (n + 4) = if ax_ok v1 40 = true then ax_ex (e + 2) L_X7_cellAt 8 [some (.inr (.inr (8, g0))), some (.inl v1)] [.inr (.inl (m.2 9 g0 v1.toNatClampNeg))] m n else none := fun n => rfl
    by_cases c5 : ax_ok v1 40 = true
    · rw [if_pos c5] at h
      refine ax_gt c5 s6 ?_
      refine ax_go (j := 2) (k2 := 10) (lv2 := [some (.inr (.inr (8, g0))), some (.inl v1)]) (st2 := [.inl (lg_cmp (m.2 9 g0 v1.toNatClampNeg) 0)]) (m2 := m) (fun n => rfl) ?_
      obtain ⟨y7, hy7⟩ : ∃ y : Int32, y = (lg_cmp (m.2 9 g0 v1.toNatClampNeg) 0) := ⟨_, rfl⟩
      rw [← hy7] at h ⊢
      have s9 : ∀ n, ax_ex (e + 2) L_X7_cellAt 10 [some (.inr (.inr (8, g0))), some (.inl v1)] [.inl y7] m (n + 1) = if y7 < 0 then ax_ex (e + 2) L_X7_cellAt 18 [some (.inr (.inr (8, g0))), some (.inl v1)] [] m n else ax_ex (e + 2) L_X7_cellAt 11 [some (.inr (.inr (8, g0))), some (.inl v1)] [] m n := fun n => rfl
      by_cases c8 : y7 < 0
      · rw [if_pos c8] at h
        refine ax_gt c8 s9 ?_
        obtain rfl := Option.some.inj h
        exact ax_rs 2 (fun n => rfl)
      · rw [if_neg c8] at h
        refine ax_gf c8 s9 ?_
        have s11 : ∀ n, ax_ex (e + 2) L_X7_cellAt 11 [some (.inr (.inr (8, g0))), some (.inl v1)] [] m (n + 4) = if ax_ok v1 40 = true then ax_ex (e + 2) L_X7_cellAt 15 [some (.inr (.inr (8, g0))), some (.inl v1)] [.inr (.inl (m.2 9 g0 v1.toNatClampNeg))] m n else none := fun n => rfl
        by_cases c10 : ax_ok v1 40 = true
        · rw [if_pos c10] at h
          refine ax_gt c10 s11 ?_
          refine ax_go (j := 2) (k2 := 17) (lv2 := [some (.inr (.inr (8, g0))), some (.inl v1)]) (st2 := [.inl (lg_cmp (m.2 9 g0 v1.toNatClampNeg) 64)]) (m2 := m) (fun n => rfl) ?_
          obtain ⟨y12, hy12⟩ : ∃ y : Int32, y = (lg_cmp (m.2 9 g0 v1.toNatClampNeg) 64) := ⟨_, rfl⟩
          rw [← hy12] at h ⊢
          have s14 : ∀ n, ax_ex (e + 2) L_X7_cellAt 17 [some (.inr (.inr (8, g0))), some (.inl v1)] [.inl y12] m (n + 1) = if y12 < 0 then ax_ex (e + 2) L_X7_cellAt 20 [some (.inr (.inr (8, g0))), some (.inl v1)] [] m n else ax_ex (e + 2) L_X7_cellAt 18 [some (.inr (.inr (8, g0))), some (.inl v1)] [] m n := fun n => rfl
          by_cases c13 : y12 < 0
          · rw [if_pos c13] at h
            refine ax_gt c13 s14 ?_
            have s16 : ∀ n, ax_ex (e + 2) L_X7_cellAt 20 [some (.inr (.inr (8, g0))), some (.inl v1)] [] m (n + 4) = if ax_ok v1 40 = true then ax_ex (e + 2) L_X7_cellAt 24 [some (.inr (.inr (8, g0))), some (.inl v1)] [.inr (.inl (m.2 9 g0 v1.toNatClampNeg))] m n else none := fun n => rfl
            by_cases c15 : ax_ok v1 40 = true
            · rw [if_pos c15] at h
              refine ax_gt c15 s16 ?_
              obtain rfl := Option.some.inj h
              exact ax_rs 2 (fun n => rfl)
            · rw [if_neg c15] at h
              cases h
          · rw [if_neg c13] at h
            refine ax_gf c13 s14 ?_
            obtain rfl := Option.some.inj h
            exact ax_rs 2 (fun n => rfl)
        · rw [if_neg c10] at h
          cases h
    · rw [if_neg c5] at h
      cases h
def F_X7_areCells_L2 : Nat → ax_M → Nat → Int32 → Int32 → Option Int32
  | 0, _, _, _, _ => none
  | n + 1, m, g0, v1, v2 => if v1 ≤ v2 then (some 1) else (ax_b (F_X7_cellAt m g0 v2) (fun r4 => if r4 = (-1) then (some 0) else (F_X7_areCells_L2 n m g0 v1 (v2 + 1))))
set_option maxRecDepth 20000 in
set_option maxHeartbeats 4000000 in
theorem R_X7_areCells_L2 {e : Nat} {m : ax_M} {g0 : Nat} {v1 : Int32} : ∀ (n : Nat) (v2 : Int32) (q : Int32), F_X7_areCells_L2 n m g0 v1 v2 = some q → ax_Ru (e + 3) L_X7_areCells 2 [some (.inr (.inr (8, g0))), some (.inl v1), some (.inl v2)] [] m (some (.inl q), m) := by
  intro n
  induction n with
  | zero =>
    intro v2 q h
    cases h
  | succ n ih =>
    intro v2 q h
    rw [F_X7_areCells_L2] at h
    have s2 : ∀ n, ax_ex (e + 3) L_X7_areCells 2 [some (.inr (.inr (8, g0))), some (.inl v1), some (.inl v2)] [] m (n + 3) = if v1 ≤ v2 then ax_ex (e + 3) L_X7_areCells 14 [some (.inr (.inr (8, g0))), some (.inl v1), some (.inl v2)] [] m n else ax_ex (e + 3) L_X7_areCells 5 [some (.inr (.inr (8, g0))), some (.inl v1), some (.inl v2)] [] m n := fun n => rfl
    by_cases c1 : v1 ≤ v2
    · rw [if_pos c1] at h
      refine ax_gt c1 s2 ?_
      obtain rfl := Option.some.inj h
      exact ax_rq (c := (1 : Int32) = 0 ∨ (1 : Int32) = 1) (j := 2) (by decide) (fun n => rfl)
    · rw [if_neg c1] at h
      refine ax_gf c1 s2 ?_
      obtain ⟨r4, q3, h⟩ := ax_b_of h
      have s7 : ∀ n, ax_ex (e + 3) L_X7_areCells 5 [some (.inr (.inr (8, g0))), some (.inl v1), some (.inl v2)] [] m (n + 3) = ax_aft (fun s m2 => ax_ex (e + 3) L_X7_areCells 8 [some (.inr (.inr (8, g0))), some (.inl v1), some (.inl v2)] s m2 n) [] (ax_ex (e + 2) L_X7_cellAt 0 (ax_entry [.inr (.inr (8, g0)), .inl v2] 2) [] m n) := fun n => rfl
      refine ax_gci (j := 3) (k2 := 8) (lv2 := [some (.inr (.inr (8, g0))), some (.inl v1), some (.inl v2)]) (rest := []) ((R_X7_cellAt (by omega) q3)) s7 ?_
      have s6 : ∀ n, ax_ex (e + 3) L_X7_areCells 8 [some (.inr (.inr (8, g0))), some (.inl v1), some (.inl v2)] [.inl r4] m (n + 2) = if r4 = (-1) then ax_ex (e + 3) L_X7_areCells 10 [some (.inr (.inr (8, g0))), some (.inl v1), some (.inl v2)] [] m n else ax_ex (e + 3) L_X7_areCells 12 [some (.inr (.inr (8, g0))), some (.inl v1), some (.inl v2)] [] m n := fun n => rfl
      by_cases c5 : r4 = (-1)
      · rw [if_pos c5] at h
        refine ax_gt c5 s6 ?_
        obtain rfl := Option.some.inj h
        exact ax_rq (c := (0 : Int32) = 0 ∨ (0 : Int32) = 1) (j := 2) (by decide) (fun n => rfl)
      · rw [if_neg c5] at h
        refine ax_gf c5 s6 ?_
        refine ax_go (j := 2) (k2 := 2) (lv2 := [some (.inr (.inr (8, g0))), some (.inl v1), some (.inl (v2 + 1))]) (st2 := []) (m2 := m) (fun n => rfl) ?_
        exact ax_fg (lv2 := [some (.inr (.inr (8, g0))), some (.inl v1), some (.inl (v2 + 1))]) ⟨rfl, rfl, rfl, trivial⟩ (ih (v2 + 1) _ h)
def F_X7_areCells (m : ax_M) (g0 : Nat) (v1 : Int32) : Option Int32 := F_X7_areCells_L2 ax_FU m g0 v1 0
set_option maxRecDepth 20000 in
set_option maxHeartbeats 4000000 in
theorem R_X7_areCells {d : Nat} (hd : 3 ≤ d) {m : ax_M} {g0 : Nat} {v1 : Int32} {q : Int32} (h : F_X7_areCells m g0 v1 = some q) : ax_Ru d L_X7_areCells 0 (ax_entry [.inr (.inr (8, g0)), .inl v1] 3) [] m (some (.inl q), m) := by
  obtain ⟨e, rfl⟩ : ∃ e, d = e + 3 := ⟨d - 3, by omega⟩
  unfold F_X7_areCells at h
  refine ax_go (j := 2) (k2 := 2) (lv2 := [some (.inr (.inr (8, g0))), some (.inl v1), some (.inl 0)]) (st2 := []) (m2 := m) (fun n => rfl) ?_
  refine ax_fg (lv2 := [some (.inr (.inr (8, g0))), some (.inl v1), some (.inl 0)]) ⟨rfl, rfl, rfl, trivial⟩ ?_
  refine R_X7_areCells_L2 _ 0 _ h
def F_X7_cellBits_L4 : Nat → ax_M → Nat → Int32 → Int64 → Int32 → Option Int64
  | 0, _, _, _, _, _ => none
  | n + 1, m, g0, v1, v2, v4 => if v1 ≤ v4 then (some v2) else (ax_b (F_X7_cellAt m g0 v4) (fun r4 => ax_b (F_X0_bit r4) (fun r6 => F_X7_cellBits_L4 n m g0 v1 (v2 ||| r6) (v4 + 1))))
set_option maxRecDepth 20000 in
set_option maxHeartbeats 4000000 in
theorem R_X7_cellBits_L4 {e : Nat} {m : ax_M} {g0 : Nat} {v1 : Int32} : ∀ (n : Nat) (v2 : Int64) (v4 : Int32) (q : Int64), F_X7_cellBits_L4 n m g0 v1 v2 v4 = some q → ax_Ru (e + 3) L_X7_cellBits 4 [some (.inr (.inr (8, g0))), some (.inl v1), some (.inr (.inl v2)), none, some (.inl v4)] [] m (some (.inr (.inl q)), m) := by
  intro n
  induction n with
  | zero =>
    intro v2 v4 q h
    cases h
  | succ n ih =>
    intro v2 v4 q h
    rw [F_X7_cellBits_L4] at h
    have s2 : ∀ n, ax_ex (e + 3) L_X7_cellBits 4 [some (.inr (.inr (8, g0))), some (.inl v1), some (.inr (.inl v2)), none, some (.inl v4)] [] m (n + 3) = if v1 ≤ v4 then ax_ex (e + 3) L_X7_cellBits 16 [some (.inr (.inr (8, g0))), some (.inl v1), some (.inr (.inl v2)), none, some (.inl v4)] [] m n else ax_ex (e + 3) L_X7_cellBits 7 [some (.inr (.inr (8, g0))), some (.inl v1), some (.inr (.inl v2)), none, some (.inl v4)] [] m n := fun n => rfl
    by_cases c1 : v1 ≤ v4
    · rw [if_pos c1] at h
      refine ax_gt c1 s2 ?_
      obtain rfl := Option.some.inj h
      exact ax_rs 2 (fun n => rfl)
    · rw [if_neg c1] at h
      refine ax_gf c1 s2 ?_
      obtain ⟨r4, q3, h⟩ := ax_b_of h
      have s8 : ∀ n, ax_ex (e + 3) L_X7_cellBits 7 [some (.inr (.inr (8, g0))), some (.inl v1), some (.inr (.inl v2)), none, some (.inl v4)] [] m (n + 4) = ax_aft (fun s m2 => ax_ex (e + 3) L_X7_cellBits 11 [some (.inr (.inr (8, g0))), some (.inl v1), some (.inr (.inl v2)), none, some (.inl v4)] s m2 n) [.inr (.inl v2)] (ax_ex (e + 2) L_X7_cellAt 0 (ax_entry [.inr (.inr (8, g0)), .inl v4] 2) [] m n) := fun n => rfl
      refine ax_gci (j := 4) (k2 := 11) (lv2 := [some (.inr (.inr (8, g0))), some (.inl v1), some (.inr (.inl v2)), none, some (.inl v4)]) (rest := [.inr (.inl v2)]) ((R_X7_cellAt (by omega) q3)) s8 ?_
      obtain ⟨r6, q5, h⟩ := ax_b_of h
      have s7 : ∀ n, ax_ex (e + 3) L_X7_cellBits 11 [some (.inr (.inr (8, g0))), some (.inl v1), some (.inr (.inl v2)), none, some (.inl v4)] [.inl r4, .inr (.inl v2)] m (n + 1) = ax_aft (fun s m2 => ax_ex (e + 3) L_X7_cellBits 12 [some (.inr (.inr (8, g0))), some (.inl v1), some (.inr (.inl v2)), none, some (.inl v4)] s m2 n) [.inr (.inl v2)] (ax_ex (e + 2) L_X0_bit 0 (ax_entry [.inl r4] 1) [] m n) := fun n => rfl
      refine ax_gcl (j := 1) (k2 := 12) (lv2 := [some (.inr (.inr (8, g0))), some (.inl v1), some (.inr (.inl v2)), none, some (.inl v4)]) (rest := [.inr (.inl v2)]) ((R_X0_bit (by omega) q5)) s7 ?_
      refine ax_go (j := 4) (k2 := 4) (lv2 := [some (.inr (.inr (8, g0))), some (.inl v1), some (.inr (.inl (v2 ||| r6))), none, some (.inl (v4 + 1))]) (st2 := []) (m2 := m) (fun n => rfl) ?_
      exact ax_fg (lv2 := [some (.inr (.inr (8, g0))), some (.inl v1), some (.inr (.inl (v2 ||| r6))), none, some (.inl (v4 + 1))]) ⟨rfl, rfl, rfl, rfl, trivial⟩ (ih (v2 ||| r6) (v4 + 1) _ h)
def F_X7_cellBits (m : ax_M) (g0 : Nat) (v1 : Int32) : Option Int64 := F_X7_cellBits_L4 ax_FU m g0 v1 0 0
set_option maxRecDepth 20000 in
set_option maxHeartbeats 4000000 in
theorem R_X7_cellBits {d : Nat} (hd : 3 ≤ d) {m : ax_M} {g0 : Nat} {v1 : Int32} {q : Int64} (h : F_X7_cellBits m g0 v1 = some q) : ax_Ru d L_X7_cellBits 0 (ax_entry [.inr (.inr (8, g0)), .inl v1] 5) [] m (some (.inr (.inl q)), m) := by
  obtain ⟨e, rfl⟩ : ∃ e, d = e + 3 := ⟨d - 3, by omega⟩
  unfold F_X7_cellBits at h
  refine ax_go (j := 4) (k2 := 4) (lv2 := [some (.inr (.inr (8, g0))), some (.inl v1), some (.inr (.inl 0)), none, some (.inl 0)]) (st2 := []) (m2 := m) (fun n => rfl) ?_
  refine ax_fg (lv2 := [some (.inr (.inr (8, g0))), some (.inl v1), some (.inr (.inl 0)), none, some (.inl 0)]) ⟨rfl, rfl, rfl, rfl, trivial⟩ ?_
  refine R_X7_cellBits_L4 _ 0 0 _ h
def F_X8_isFull (m : ax_M) : Option Int32 := if (m.1 10 0 1) < 250 then (some 0) else (some 1)
set_option maxRecDepth 20000 in
set_option maxHeartbeats 4000000 in
theorem R_X8_isFull {d : Nat} (hd : 1 ≤ d) {m : ax_M} {q : Int32} (h : F_X8_isFull m = some q) : ax_Ru d L_X8_isFull 0 (ax_entry [.inr (.inr (10, 0))] 1) [] m (some (.inl q), m) := by
  obtain ⟨e, rfl⟩ : ∃ e, d = e + 1 := ⟨d - 1, by omega⟩
  unfold F_X8_isFull at h
  have s2 : ∀ n, ax_ex (e + 1) L_X8_isFull 0 (ax_entry [.inr (.inr (10, 0))] 1) [] m (n + 4) = if (m.1 10 0 1) < 250 then ax_ex (e + 1) L_X8_isFull 6 [some (.inr (.inr (10, 0)))] [] m n else ax_ex (e + 1) L_X8_isFull 4 [some (.inr (.inr (10, 0)))] [] m n := fun n => rfl
  by_cases c1 : (m.1 10 0 1) < 250
  · rw [if_pos c1] at h
    refine ax_gt c1 s2 ?_
    obtain rfl := Option.some.inj h
    exact ax_rq (c := (0 : Int32) = 0 ∨ (0 : Int32) = 1) (j := 2) (by decide) (fun n => rfl)
  · rw [if_neg c1] at h
    refine ax_gf c1 s2 ?_
    obtain rfl := Option.some.inj h
    exact ax_rq (c := (1 : Int32) = 0 ∨ (1 : Int32) = 1) (j := 3) (by decide) (fun n => rfl)
def F_X8_add (m : ax_M) (v1 : Int32) : Option ax_M := if ax_ok (m.1 10 0 1) 250 = true then (some (ax_ui (ax_ui m 11 0 (m.1 10 0 1).toNatClampNeg v1) 10 0 1 (((ax_ui m 11 0 (m.1 10 0 1).toNatClampNeg v1).1 10 0 1) + 1))) else (none)
set_option maxRecDepth 20000 in
set_option maxHeartbeats 4000000 in
theorem R_X8_add {d : Nat} (hd : 1 ≤ d) {m : ax_M} {v1 : Int32} {q : ax_M} (h : F_X8_add m v1 = some q) : ax_Ru d L_X8_add 0 (ax_entry [.inr (.inr (10, 0)), .inl v1] 2) [] m (none, q) := by
  obtain ⟨e, rfl⟩ : ∃ e, d = e + 1 := ⟨d - 1, by omega⟩
  unfold F_X8_add at h
  have s2 : ∀ n, ax_ex (e + 1) L_X8_add 0 (ax_entry [.inr (.inr (10, 0)), .inl v1] 2) [] m (n + 6) = if ax_ok (m.1 10 0 1) 250 = true then ax_ex (e + 1) L_X8_add 6 [some (.inr (.inr (10, 0))), some (.inl v1)] [] (ax_ui m 11 0 (m.1 10 0 1).toNatClampNeg v1) n else none := fun n => rfl
  by_cases c1 : ax_ok (m.1 10 0 1) 250 = true
  · rw [if_pos c1] at h
    refine ax_gt c1 s2 ?_
    obtain rfl := Option.some.inj h
    exact ax_rs 7 (fun n => rfl)
  · rw [if_neg c1] at h
    cases h
def F_X9_find_L29 : Nat → ax_M → Int32 → Int64 → Int32 → Option (Int32 × ax_M)
  | 0, _, _, _, _ => none
  | n + 1, m, v1, v5, v7 => if 64 ≤ v7 then (some ((-1), m)) else (if ax_ok (v7 - 1) 64 = true then (ax_b (F_X0_beside (m.2 14 0 (v7 - 1).toNatClampNeg)) (fun r21 => if ax_ok v7 64 = true then (if ax_ok v7 64 = true then (ax_b (F_X0_has ((ax_ul m 14 0 v7.toNatClampNeg (r21 &&& v5)).2 14 0 v7.toNatClampNeg) v1) (fun r27 => if r27 = 0 then (if ax_ok v7 64 = true then (F_X9_find_L29 n (ax_ul m 14 0 v7.toNatClampNeg (r21 &&& v5)) v1 (v5 &&& (((ax_ul m 14 0 v7.toNatClampNeg (r21 &&& v5)).2 14 0 v7.toNatClampNeg) ^^^ (-1))) (v7 + 1)) else (none)) else (some (v7, (ax_ul m 14 0 v7.toNatClampNeg (r21 &&& v5)))))) else (none)) else (none))) else (none))
set_option maxRecDepth 20000 in
set_option maxHeartbeats 4000000 in
theorem R_X9_find_L29 {e : Nat} {v1 : Int32} : ∀ (n : Nat) (m : ax_M) (v5 : Int64) (v7 : Int32) (q : (Int32 × ax_M)), F_X9_find_L29 n m v1 v5 v7 = some q → ax_Ru (e + 3) L_X9_find 29 [some (.inr (.inr (13, 0))), some (.inl v1), none, none, none, some (.inr (.inl v5)), none, some (.inl v7)] [] m (some (.inl q.1), q.2) := by
  intro n
  induction n with
  | zero =>
    intro m v5 v7 q h
    cases h
  | succ n ih =>
    intro m v5 v7 q h
    rw [F_X9_find_L29] at h
    have s16 : ∀ n, ax_ex (e + 3) L_X9_find 29 [some (.inr (.inr (13, 0))), some (.inl v1), none, none, none, some (.inr (.inl v5)), none, some (.inl v7)] [] m (n + 5) = if 64 ≤ v7 then ax_ex (e + 3) L_X9_find 67 [some (.inr (.inr (13, 0))), some (.inl v1), none, none, none, some (.inr (.inl v5)), none, some (.inl v7)] [] m n else ax_ex (e + 3) L_X9_find 34 [some (.inr (.inr (13, 0))), some (.inl v1), none, none, none, some (.inr (.inl v5)), none, some (.inl v7)] [] m n := fun n => rfl
    by_cases c15 : 64 ≤ v7
    · rw [if_pos c15] at h
      refine ax_gt c15 s16 ?_
      obtain rfl := Option.some.inj h
      exact ax_rs 2 (fun n => rfl)
    · rw [if_neg c15] at h
      refine ax_gf c15 s16 ?_
      refine ax_go (j := 8) (k2 := 42) (lv2 := [some (.inr (.inr (13, 0))), some (.inl v1), none, none, none, some (.inr (.inl v5)), none, some (.inl v7)]) (st2 := [.inl (v7 - 1), .inr (.inr (14, 0)), .inl v7, .inr (.inr (14, 0))]) (m2 := m) (fun n => rfl) ?_
      obtain ⟨y17, hy17⟩ : ∃ y : Int32, y = (v7 - 1) := ⟨_, rfl⟩
      rw [← hy17] at h ⊢
      have s19 : ∀ n, ax_ex (e + 3) L_X9_find 42 [some (.inr (.inr (13, 0))), some (.inl v1), none, none, none, some (.inr (.inl v5)), none, some (.inl v7)] [.inl y17, .inr (.inr (14, 0)), .inl v7, .inr (.inr (14, 0))] m (n + 1) = if ax_ok y17 64 = true then ax_ex (e + 3) L_X9_find 43 [some (.inr (.inr (13, 0))), some (.inl v1), none, none, none, some (.inr (.inl v5)), none, some (.inl v7)] [.inr (.inl (m.2 14 0 y17.toNatClampNeg)), .inl v7, .inr (.inr (14, 0))] m n else none := fun n => rfl
      by_cases c18 : ax_ok y17 64 = true
      · rw [if_pos c18] at h
        refine ax_gt c18 s19 ?_
        obtain ⟨r21, q20, h⟩ := ax_b_of h
        have s33 : ∀ n, ax_ex (e + 3) L_X9_find 43 [some (.inr (.inr (13, 0))), some (.inl v1), none, none, none, some (.inr (.inl v5)), none, some (.inl v7)] [.inr (.inl (m.2 14 0 y17.toNatClampNeg)), .inl v7, .inr (.inr (14, 0))] m (n + 1) = ax_aft (fun s m2 => ax_ex (e + 3) L_X9_find 44 [some (.inr (.inr (13, 0))), some (.inl v1), none, none, none, some (.inr (.inl v5)), none, some (.inl v7)] s m2 n) [.inl v7, .inr (.inr (14, 0))] (ax_ex (e + 2) L_X0_beside 0 (ax_entry [.inr (.inl (m.2 14 0 y17.toNatClampNeg))] 2) [] m n) := fun n => rfl
        refine ax_gcl (j := 1) (k2 := 44) (lv2 := [some (.inr (.inr (13, 0))), some (.inl v1), none, none, none, some (.inr (.inl v5)), none, some (.inl v7)]) (rest := [.inl v7, .inr (.inr (14, 0))]) ((R_X0_beside (by omega) q20)) s33 ?_
        have s23 : ∀ n, ax_ex (e + 3) L_X9_find 44 [some (.inr (.inr (13, 0))), some (.inl v1), none, none, none, some (.inr (.inl v5)), none, some (.inl v7)] [.inr (.inl r21), .inl v7, .inr (.inr (14, 0))] m (n + 3) = if ax_ok v7 64 = true then ax_ex (e + 3) L_X9_find 47 [some (.inr (.inr (13, 0))), some (.inl v1), none, none, none, some (.inr (.inl v5)), none, some (.inl v7)] [] (ax_ul m 14 0 v7.toNatClampNeg (r21 &&& v5)) n else none := fun n => rfl
        by_cases c22 : ax_ok v7 64 = true
        · rw [if_pos c22] at h
          refine ax_gt c22 s23 ?_
          have s25 : ∀ n, ax_ex (e + 3) L_X9_find 47 [some (.inr (.inr (13, 0))), some (.inl v1), none, none, none, some (.inr (.inl v5)), none, some (.inl v7)] [] (ax_ul m 14 0 v7.toNatClampNeg (r21 &&& v5)) (n + 4) = if ax_ok v7 64 = true then ax_ex (e + 3) L_X9_find 51 [some (.inr (.inr (13, 0))), some (.inl v1), none, none, none, some (.inr (.inl v5)), none, some (.inl v7)] [.inr (.inl ((ax_ul m 14 0 v7.toNatClampNeg (r21 &&& v5)).2 14 0 v7.toNatClampNeg))] (ax_ul m 14 0 v7.toNatClampNeg (r21 &&& v5)) n else none := fun n => rfl
          by_cases c24 : ax_ok v7 64 = true
          · rw [if_pos c24] at h
            refine ax_gt c24 s25 ?_
            obtain ⟨r27, q26, h⟩ := ax_b_of h
            have s32 : ∀ n, ax_ex (e + 3) L_X9_find 51 [some (.inr (.inr (13, 0))), some (.inl v1), none, none, none, some (.inr (.inl v5)), none, some (.inl v7)] [.inr (.inl ((ax_ul m 14 0 v7.toNatClampNeg (r21 &&& v5)).2 14 0 v7.toNatClampNeg))] (ax_ul m 14 0 v7.toNatClampNeg (r21 &&& v5)) (n + 2) = ax_aft (fun s m2 => ax_ex (e + 3) L_X9_find 53 [some (.inr (.inr (13, 0))), some (.inl v1), none, none, none, some (.inr (.inl v5)), none, some (.inl v7)] s m2 n) [] (ax_ex (e + 2) L_X0_has 0 (ax_entry [.inr (.inl ((ax_ul m 14 0 v7.toNatClampNeg (r21 &&& v5)).2 14 0 v7.toNatClampNeg)), .inl v1] 3) [] (ax_ul m 14 0 v7.toNatClampNeg (r21 &&& v5)) n) := fun n => rfl
            refine ax_gci (j := 2) (k2 := 53) (lv2 := [some (.inr (.inr (13, 0))), some (.inl v1), none, none, none, some (.inr (.inl v5)), none, some (.inl v7)]) (rest := []) ((R_X0_has (by omega) q26)) s32 ?_
            have s29 : ∀ n, ax_ex (e + 3) L_X9_find 53 [some (.inr (.inr (13, 0))), some (.inl v1), none, none, none, some (.inr (.inl v5)), none, some (.inl v7)] [.inl r27] (ax_ul m 14 0 v7.toNatClampNeg (r21 &&& v5)) (n + 1) = if r27 = 0 then ax_ex (e + 3) L_X9_find 56 [some (.inr (.inr (13, 0))), some (.inl v1), none, none, none, some (.inr (.inl v5)), none, some (.inl v7)] [] (ax_ul m 14 0 v7.toNatClampNeg (r21 &&& v5)) n else ax_ex (e + 3) L_X9_find 54 [some (.inr (.inr (13, 0))), some (.inl v1), none, none, none, some (.inr (.inl v5)), none, some (.inl v7)] [] (ax_ul m 14 0 v7.toNatClampNeg (r21 &&& v5)) n := fun n => rfl
            by_cases c28 : r27 = 0
            · rw [if_pos c28] at h
              refine ax_gt c28 s29 ?_
              have s31 : ∀ n, ax_ex (e + 3) L_X9_find 56 [some (.inr (.inr (13, 0))), some (.inl v1), none, none, none, some (.inr (.inl v5)), none, some (.inl v7)] [] (ax_ul m 14 0 v7.toNatClampNeg (r21 &&& v5)) (n + 5) = if ax_ok v7 64 = true then ax_ex (e + 3) L_X9_find 61 [some (.inr (.inr (13, 0))), some (.inl v1), none, none, none, some (.inr (.inl v5)), none, some (.inl v7)] [.inr (.inl ((ax_ul m 14 0 v7.toNatClampNeg (r21 &&& v5)).2 14 0 v7.toNatClampNeg)), .inr (.inl v5)] (ax_ul m 14 0 v7.toNatClampNeg (r21 &&& v5)) n else none := fun n => rfl
              by_cases c30 : ax_ok v7 64 = true
              · rw [if_pos c30] at h
                refine ax_gt c30 s31 ?_
                refine ax_go (j := 6) (k2 := 29) (lv2 := [some (.inr (.inr (13, 0))), some (.inl v1), none, none, none, some (.inr (.inl (v5 &&& (((ax_ul m 14 0 v7.toNatClampNeg (r21 &&& v5)).2 14 0 v7.toNatClampNeg) ^^^ (-1))))), none, some (.inl (v7 + 1))]) (st2 := []) (m2 := (ax_ul m 14 0 v7.toNatClampNeg (r21 &&& v5))) (fun n => rfl) ?_
                exact ax_fg (lv2 := [some (.inr (.inr (13, 0))), some (.inl v1), none, none, none, some (.inr (.inl (v5 &&& (((ax_ul m 14 0 v7.toNatClampNeg (r21 &&& v5)).2 14 0 v7.toNatClampNeg) ^^^ (-1))))), none, some (.inl (v7 + 1))]) ⟨rfl, rfl, rfl, rfl, trivial⟩ (ih (ax_ul m 14 0 v7.toNatClampNeg (r21 &&& v5)) (v5 &&& (((ax_ul m 14 0 v7.toNatClampNeg (r21 &&& v5)).2 14 0 v7.toNatClampNeg) ^^^ (-1))) (v7 + 1) _ h)
              · rw [if_neg c30] at h
                cases h
            · rw [if_neg c28] at h
              refine ax_gf c28 s29 ?_
              obtain rfl := Option.some.inj h
              exact ax_rs 2 (fun n => rfl)
          · rw [if_neg c24] at h
            cases h
        · rw [if_neg c22] at h
          cases h
      · rw [if_neg c18] at h
        cases h
def F_X9_find (m : ax_M) (v1 : Int32) (v2 : Int32) (v3 : Int64) : Option (Int32 × ax_M) := if v1 = v2 then (some (0, m)) else (ax_b (F_X0_has v3 v2) (fun r4 => if r4 = 0 then (some ((-1), m)) else (ax_b (F_X0_bit v1) (fun r8 => ax_b (F_X0_bit v2) (fun r10 => ax_b (F_X0_bit v2) (fun r12 => if ax_ok 0 64 = true then (F_X9_find_L29 ax_FU (ax_ul m 14 0 (0 : Int32).toNatClampNeg r12) v1 ((v3 ||| r8) &&& (r10 ^^^ (-1))) 1) else (none)))))))
set_option maxRecDepth 20000 in
set_option maxHeartbeats 4000000 in
theorem R_X9_find {d : Nat} (hd : 3 ≤ d) {m : ax_M} {v1 : Int32} {v2 : Int32} {v3 : Int64} {q : (Int32 × ax_M)} (h : F_X9_find m v1 v2 v3 = some q) : ax_Ru d L_X9_find 0 (ax_entry [.inr (.inr (13, 0)), .inl v1, .inl v2, .inr (.inl v3)] 8) [] m (some (.inl q.1), q.2) := by
  obtain ⟨e, rfl⟩ : ∃ e, d = e + 3 := ⟨d - 3, by omega⟩
  unfold F_X9_find at h
  have s2 : ∀ n, ax_ex (e + 3) L_X9_find 0 (ax_entry [.inr (.inr (13, 0)), .inl v1, .inl v2, .inr (.inl v3)] 8) [] m (n + 3) = if v1 = v2 then ax_ex (e + 3) L_X9_find 3 [some (.inr (.inr (13, 0))), some (.inl v1), some (.inl v2), some (.inr (.inl v3)), none, none, none, none] [] m n else ax_ex (e + 3) L_X9_find 5 [some (.inr (.inr (13, 0))), some (.inl v1), some (.inl v2), some (.inr (.inl v3)), none, none, none, none] [] m n := fun n => rfl
  by_cases c1 : v1 = v2
  · rw [if_pos c1] at h
    refine ax_gt c1 s2 ?_
    obtain rfl := Option.some.inj h
    exact ax_rs 2 (fun n => rfl)
  · rw [if_neg c1] at h
    refine ax_gf c1 s2 ?_
    obtain ⟨r4, q3, h⟩ := ax_b_of h
    have s38 : ∀ n, ax_ex (e + 3) L_X9_find 5 [some (.inr (.inr (13, 0))), some (.inl v1), some (.inl v2), some (.inr (.inl v3)), none, none, none, none] [] m (n + 3) = ax_aft (fun s m2 => ax_ex (e + 3) L_X9_find 8 [some (.inr (.inr (13, 0))), some (.inl v1), some (.inl v2), some (.inr (.inl v3)), none, none, none, none] s m2 n) [] (ax_ex (e + 2) L_X0_has 0 (ax_entry [.inr (.inl v3), .inl v2] 3) [] m n) := fun n => rfl
    refine ax_gci (j := 3) (k2 := 8) (lv2 := [some (.inr (.inr (13, 0))), some (.inl v1), some (.inl v2), some (.inr (.inl v3)), none, none, none, none]) (rest := []) ((R_X0_has (by omega) q3)) s38 ?_
    have s6 : ∀ n, ax_ex (e + 3) L_X9_find 8 [some (.inr (.inr (13, 0))), some (.inl v1), some (.inl v2), some (.inr (.inl v3)), none, none, none, none] [.inl r4] m (n + 1) = if r4 = 0 then ax_ex (e + 3) L_X9_find 9 [some (.inr (.inr (13, 0))), some (.inl v1), some (.inl v2), some (.inr (.inl v3)), none, none, none, none] [] m n else ax_ex (e + 3) L_X9_find 11 [some (.inr (.inr (13, 0))), some (.inl v1), some (.inl v2), some (.inr (.inl v3)), none, none, none, none] [] m n := fun n => rfl
    by_cases c5 : r4 = 0
    · rw [if_pos c5] at h
      refine ax_gt c5 s6 ?_
      obtain rfl := Option.some.inj h
      exact ax_rs 2 (fun n => rfl)
    · rw [if_neg c5] at h
      refine ax_gf c5 s6 ?_
      obtain ⟨r8, q7, h⟩ := ax_b_of h
      have s37 : ∀ n, ax_ex (e + 3) L_X9_find 11 [some (.inr (.inr (13, 0))), some (.inl v1), some (.inl v2), some (.inr (.inl v3)), none, none, none, none] [] m (n + 3) = ax_aft (fun s m2 => ax_ex (e + 3) L_X9_find 14 [some (.inr (.inr (13, 0))), some (.inl v1), some (.inl v2), some (.inr (.inl v3)), none, none, none, none] s m2 n) [.inr (.inl v3)] (ax_ex (e + 2) L_X0_bit 0 (ax_entry [.inl v1] 1) [] m n) := fun n => rfl
      refine ax_gcl (j := 3) (k2 := 14) (lv2 := [some (.inr (.inr (13, 0))), some (.inl v1), some (.inl v2), some (.inr (.inl v3)), none, none, none, none]) (rest := [.inr (.inl v3)]) ((R_X0_bit (by omega) q7)) s37 ?_
      obtain ⟨r10, q9, h⟩ := ax_b_of h
      have s36 : ∀ n, ax_ex (e + 3) L_X9_find 14 [some (.inr (.inr (13, 0))), some (.inl v1), some (.inl v2), some (.inr (.inl v3)), none, none, none, none] [.inr (.inl r8), .inr (.inl v3)] m (n + 3) = ax_aft (fun s m2 => ax_ex (e + 3) L_X9_find 17 [some (.inr (.inr (13, 0))), some (.inl v1), some (.inl v2), some (.inr (.inl v3)), none, none, none, none] s m2 n) [.inr (.inl (v3 ||| r8))] (ax_ex (e + 2) L_X0_bit 0 (ax_entry [.inl v2] 1) [] m n) := fun n => rfl
      refine ax_gcl (j := 3) (k2 := 17) (lv2 := [some (.inr (.inr (13, 0))), some (.inl v1), some (.inl v2), some (.inr (.inl v3)), none, none, none, none]) (rest := [.inr (.inl (v3 ||| r8))]) ((R_X0_bit (by omega) q9)) s36 ?_
      obtain ⟨r12, q11, h⟩ := ax_b_of h
      have s35 : ∀ n, ax_ex (e + 3) L_X9_find 17 [some (.inr (.inr (13, 0))), some (.inl v1), some (.inl v2), some (.inr (.inl v3)), none, none, none, none] [.inr (.inl r10), .inr (.inl (v3 ||| r8))] m (n + 9) = ax_aft (fun s m2 => ax_ex (e + 3) L_X9_find 26 [some (.inr (.inr (13, 0))), some (.inl v1), some (.inl v2), some (.inr (.inl v3)), none, some (.inr (.inl ((v3 ||| r8) &&& (r10 ^^^ (-1))))), none, none] s m2 n) [.inl 0, .inr (.inr (14, 0))] (ax_ex (e + 2) L_X0_bit 0 (ax_entry [.inl v2] 1) [] m n) := fun n => rfl
      refine ax_gcl (j := 9) (k2 := 26) (lv2 := [some (.inr (.inr (13, 0))), some (.inl v1), some (.inl v2), some (.inr (.inl v3)), none, some (.inr (.inl ((v3 ||| r8) &&& (r10 ^^^ (-1))))), none, none]) (rest := [.inl 0, .inr (.inr (14, 0))]) ((R_X0_bit (by omega) q11)) s35 ?_
      have s14 : ∀ n, ax_ex (e + 3) L_X9_find 26 [some (.inr (.inr (13, 0))), some (.inl v1), some (.inl v2), some (.inr (.inl v3)), none, some (.inr (.inl ((v3 ||| r8) &&& (r10 ^^^ (-1))))), none, none] [.inr (.inl r12), .inl 0, .inr (.inr (14, 0))] m (n + 1) = if ax_ok 0 64 = true then ax_ex (e + 3) L_X9_find 27 [some (.inr (.inr (13, 0))), some (.inl v1), some (.inl v2), some (.inr (.inl v3)), none, some (.inr (.inl ((v3 ||| r8) &&& (r10 ^^^ (-1))))), none, none] [] (ax_ul m 14 0 (0 : Int32).toNatClampNeg r12) n else none := fun n => rfl
      by_cases c13 : ax_ok 0 64 = true
      · rw [if_pos c13] at h
        refine ax_gt c13 s14 ?_
        refine ax_go (j := 2) (k2 := 29) (lv2 := [some (.inr (.inr (13, 0))), some (.inl v1), some (.inl v2), some (.inr (.inl v3)), none, some (.inr (.inl ((v3 ||| r8) &&& (r10 ^^^ (-1))))), none, some (.inl 1)]) (st2 := []) (m2 := (ax_ul m 14 0 (0 : Int32).toNatClampNeg r12)) (fun n => rfl) ?_
        refine ax_fg (lv2 := [some (.inr (.inr (13, 0))), some (.inl v1), none, none, none, some (.inr (.inl ((v3 ||| r8) &&& (r10 ^^^ (-1))))), none, some (.inl 1)]) ⟨rfl, rfl, rfl, rfl, trivial⟩ ?_
        refine R_X9_find_L29 _ (ax_ul m 14 0 (0 : Int32).toNatClampNeg r12) ((v3 ||| r8) &&& (r10 ^^^ (-1))) 1 _ h
      · rw [if_neg c13] at h
        cases h
def F_X9_cellOf_L6 : Nat → ax_M → Int32 → Int32 → Int32 → Int32 → Option Int32
  | 0, _, _, _, _, _ => none
  | n + 1, m, v2, v3, v4, v5 => if v5 < 0 then (some v4) else (if v5 < ((v2 - 1) - v3) then (some v4) else (ax_b (F_X0_bit v4) (fun r7 => ax_b (F_X0_beside r7) (fun r9 => if ax_ok v5 64 = true then (ax_b (F_X0_lowest (r9 &&& (m.2 14 0 v5.toNatClampNeg))) (fun r13 => F_X9_cellOf_L6 n m v2 v3 r13 (v5 + (-1)))) else (none)))))
set_option maxRecDepth 20000 in
set_option maxHeartbeats 4000000 in
theorem R_X9_cellOf_L6 {e : Nat} {m : ax_M} {v2 : Int32} {v3 : Int32} : ∀ (n : Nat) (v4 : Int32) (v5 : Int32) (q : Int32), F_X9_cellOf_L6 n m v2 v3 v4 v5 = some q → ax_Ru (e + 3) L_X9_cellOf 6 [some (.inr (.inr (13, 0))), none, some (.inl v2), some (.inl v3), some (.inl v4), some (.inl v5)] [] m (some (.inl q), m) := by
  intro n
  induction n with
  | zero =>
    intro v4 v5 q h
    cases h
  | succ n ih =>
    intro v4 v5 q h
    rw [F_X9_cellOf_L6] at h
    have s2 : ∀ n, ax_ex (e + 3) L_X9_cellOf 6 [some (.inr (.inr (13, 0))), none, some (.inl v2), some (.inl v3), some (.inl v4), some (.inl v5)] [] m (n + 2) = if v5 < 0 then ax_ex (e + 3) L_X9_cellOf 27 [some (.inr (.inr (13, 0))), none, some (.inl v2), some (.inl v3), some (.inl v4), some (.inl v5)] [] m n else ax_ex (e + 3) L_X9_cellOf 8 [some (.inr (.inr (13, 0))), none, some (.inl v2), some (.inl v3), some (.inl v4), some (.inl v5)] [] m n := fun n => rfl
    by_cases c1 : v5 < 0
    · rw [if_pos c1] at h
      refine ax_gt c1 s2 ?_
      obtain rfl := Option.some.inj h
      exact ax_rs 2 (fun n => rfl)
    · rw [if_neg c1] at h
      refine ax_gf c1 s2 ?_
      refine ax_go (j := 6) (k2 := 14) (lv2 := [some (.inr (.inr (13, 0))), none, some (.inl v2), some (.inl v3), some (.inl v4), some (.inl v5)]) (st2 := [.inl ((v2 - 1) - v3), .inl v5]) (m2 := m) (fun n => rfl) ?_
      obtain ⟨y3, hy3⟩ : ∃ y : Int32, y = ((v2 - 1) - v3) := ⟨_, rfl⟩
      rw [← hy3] at h ⊢
      have s5 : ∀ n, ax_ex (e + 3) L_X9_cellOf 14 [some (.inr (.inr (13, 0))), none, some (.inl v2), some (.inl v3), some (.inl v4), some (.inl v5)] [.inl y3, .inl v5] m (n + 1) = if v5 < y3 then ax_ex (e + 3) L_X9_cellOf 27 [some (.inr (.inr (13, 0))), none, some (.inl v2), some (.inl v3), some (.inl v4), some (.inl v5)] [] m n else ax_ex (e + 3) L_X9_cellOf 15 [some (.inr (.inr (13, 0))), none, some (.inl v2), some (.inl v3), some (.inl v4), some (.inl v5)] [] m n := fun n => rfl
      by_cases c4 : v5 < y3
      · rw [if_pos c4] at h
        refine ax_gt c4 s5 ?_
        obtain rfl := Option.some.inj h
        exact ax_rs 2 (fun n => rfl)
      · rw [if_neg c4] at h
        refine ax_gf c4 s5 ?_
        obtain ⟨r7, q6, h⟩ := ax_b_of h
        have s16 : ∀ n, ax_ex (e + 3) L_X9_cellOf 15 [some (.inr (.inr (13, 0))), none, some (.inl v2), some (.inl v3), some (.inl v4), some (.inl v5)] [] m (n + 2) = ax_aft (fun s m2 => ax_ex (e + 3) L_X9_cellOf 17 [some (.inr (.inr (13, 0))), none, some (.inl v2), some (.inl v3), some (.inl v4), some (.inl v5)] s m2 n) [] (ax_ex (e + 2) L_X0_bit 0 (ax_entry [.inl v4] 1) [] m n) := fun n => rfl
        refine ax_gcl (j := 2) (k2 := 17) (lv2 := [some (.inr (.inr (13, 0))), none, some (.inl v2), some (.inl v3), some (.inl v4), some (.inl v5)]) (rest := []) ((R_X0_bit (by omega) q6)) s16 ?_
        obtain ⟨r9, q8, h⟩ := ax_b_of h
        have s15 : ∀ n, ax_ex (e + 3) L_X9_cellOf 17 [some (.inr (.inr (13, 0))), none, some (.inl v2), some (.inl v3), some (.inl v4), some (.inl v5)] [.inr (.inl r7)] m (n + 1) = ax_aft (fun s m2 => ax_ex (e + 3) L_X9_cellOf 18 [some (.inr (.inr (13, 0))), none, some (.inl v2), some (.inl v3), some (.inl v4), some (.inl v5)] s m2 n) [] (ax_ex (e + 2) L_X0_beside 0 (ax_entry [.inr (.inl r7)] 2) [] m n) := fun n => rfl
        refine ax_gcl (j := 1) (k2 := 18) (lv2 := [some (.inr (.inr (13, 0))), none, some (.inl v2), some (.inl v3), some (.inl v4), some (.inl v5)]) (rest := []) ((R_X0_beside (by omega) q8)) s15 ?_
        have s11 : ∀ n, ax_ex (e + 3) L_X9_cellOf 18 [some (.inr (.inr (13, 0))), none, some (.inl v2), some (.inl v3), some (.inl v4), some (.inl v5)] [.inr (.inl r9)] m (n + 4) = if ax_ok v5 64 = true then ax_ex (e + 3) L_X9_cellOf 22 [some (.inr (.inr (13, 0))), none, some (.inl v2), some (.inl v3), some (.inl v4), some (.inl v5)] [.inr (.inl (m.2 14 0 v5.toNatClampNeg)), .inr (.inl r9)] m n else none := fun n => rfl
        by_cases c10 : ax_ok v5 64 = true
        · rw [if_pos c10] at h
          refine ax_gt c10 s11 ?_
          obtain ⟨r13, q12, h⟩ := ax_b_of h
          have s14 : ∀ n, ax_ex (e + 3) L_X9_cellOf 22 [some (.inr (.inr (13, 0))), none, some (.inl v2), some (.inl v3), some (.inl v4), some (.inl v5)] [.inr (.inl (m.2 14 0 v5.toNatClampNeg)), .inr (.inl r9)] m (n + 2) = ax_aft (fun s m2 => ax_ex (e + 3) L_X9_cellOf 24 [some (.inr (.inr (13, 0))), none, some (.inl v2), some (.inl v3), some (.inl v4), some (.inl v5)] s m2 n) [] (ax_ex (e + 2) L_X0_lowest 0 (ax_entry [.inr (.inl (r9 &&& (m.2 14 0 v5.toNatClampNeg)))] 2) [] m n) := fun n => rfl
          refine ax_gci (j := 2) (k2 := 24) (lv2 := [some (.inr (.inr (13, 0))), none, some (.inl v2), some (.inl v3), some (.inl v4), some (.inl v5)]) (rest := []) ((R_X0_lowest (by omega) q12)) s14 ?_
          refine ax_go (j := 3) (k2 := 6) (lv2 := [some (.inr (.inr (13, 0))), none, some (.inl v2), some (.inl v3), some (.inl r13), some (.inl (v5 + (-1)))]) (st2 := []) (m2 := m) (fun n => rfl) ?_
          exact ax_fg (lv2 := [some (.inr (.inr (13, 0))), none, some (.inl v2), some (.inl v3), some (.inl r13), some (.inl (v5 + (-1)))]) ⟨rfl, rfl, rfl, rfl, rfl, trivial⟩ (ih r13 (v5 + (-1)) _ h)
        · rw [if_neg c10] at h
          cases h
def F_X9_cellOf (m : ax_M) (v1 : Int32) (v2 : Int32) (v3 : Int32) : Option Int32 := F_X9_cellOf_L6 ax_FU m v2 v3 v1 (v2 - 1)
set_option maxRecDepth 20000 in
set_option maxHeartbeats 4000000 in
theorem R_X9_cellOf {d : Nat} (hd : 3 ≤ d) {m : ax_M} {v1 : Int32} {v2 : Int32} {v3 : Int32} {q : Int32} (h : F_X9_cellOf m v1 v2 v3 = some q) : ax_Ru d L_X9_cellOf 0 (ax_entry [.inr (.inr (13, 0)), .inl v1, .inl v2, .inl v3] 6) [] m (some (.inl q), m) := by
  obtain ⟨e, rfl⟩ : ∃ e, d = e + 3 := ⟨d - 3, by omega⟩
  unfold F_X9_cellOf at h
  refine ax_go (j := 6) (k2 := 6) (lv2 := [some (.inr (.inr (13, 0))), some (.inl v1), some (.inl v2), some (.inl v3), some (.inl v1), some (.inl (v2 - 1))]) (st2 := []) (m2 := m) (fun n => rfl) ?_
  refine ax_fg (lv2 := [some (.inr (.inr (13, 0))), none, some (.inl v2), some (.inl v3), some (.inl v1), some (.inl (v2 - 1))]) ⟨rfl, rfl, rfl, rfl, rfl, trivial⟩ ?_
  refine R_X9_cellOf_L6 _ v1 (v2 - 1) _ h
def F_X9_flood_L5 : Nat → Int64 → Int64 → Int32 → Option Int64
  | 0, _, _, _ => none
  | n + 1, v1, v3, v5 => if 64 ≤ v5 then (some v3) else (ax_b (F_X0_beside v3) (fun r6 => F_X9_flood_L5 n v1 (v3 ||| (r6 &&& v1)) (v5 + 1)))
set_option maxRecDepth 20000 in
set_option maxHeartbeats 4000000 in
theorem R_X9_flood_L5 {e : Nat} {m : ax_M} {v1 : Int64} : ∀ (n : Nat) (v3 : Int64) (v5 : Int32) (q : Int64), F_X9_flood_L5 n v1 v3 v5 = some q → ax_Ru (e + 3) L_X9_flood 5 [none, some (.inr (.inl v1)), none, some (.inr (.inl v3)), none, some (.inl v5)] [] m (some (.inr (.inl q)), m) := by
  intro n
  induction n with
  | zero =>
    intro v3 v5 q h
    cases h
  | succ n ih =>
    intro v3 v5 q h
    rw [F_X9_flood_L5] at h
    have s4 : ∀ n, ax_ex (e + 3) L_X9_flood 5 [none, some (.inr (.inl v1)), none, some (.inr (.inl v3)), none, some (.inl v5)] [] m (n + 3) = if 64 ≤ v5 then ax_ex (e + 3) L_X9_flood 17 [none, some (.inr (.inl v1)), none, some (.inr (.inl v3)), none, some (.inl v5)] [] m n else ax_ex (e + 3) L_X9_flood 8 [none, some (.inr (.inl v1)), none, some (.inr (.inl v3)), none, some (.inl v5)] [] m n := fun n => rfl
    by_cases c3 : 64 ≤ v5
    · rw [if_pos c3] at h
      refine ax_gt c3 s4 ?_
      obtain rfl := Option.some.inj h
      exact ax_rs 2 (fun n => rfl)
    · rw [if_neg c3] at h
      refine ax_gf c3 s4 ?_
      obtain ⟨r6, q5, h⟩ := ax_b_of h
      have s7 : ∀ n, ax_ex (e + 3) L_X9_flood 8 [none, some (.inr (.inl v1)), none, some (.inr (.inl v3)), none, some (.inl v5)] [] m (n + 3) = ax_aft (fun s m2 => ax_ex (e + 3) L_X9_flood 11 [none, some (.inr (.inl v1)), none, some (.inr (.inl v3)), none, some (.inl v5)] s m2 n) [.inr (.inl v3)] (ax_ex (e + 2) L_X0_beside 0 (ax_entry [.inr (.inl v3)] 2) [] m n) := fun n => rfl
      refine ax_gcl (j := 3) (k2 := 11) (lv2 := [none, some (.inr (.inl v1)), none, some (.inr (.inl v3)), none, some (.inl v5)]) (rest := [.inr (.inl v3)]) ((R_X0_beside (by omega) q5)) s7 ?_
      refine ax_go (j := 6) (k2 := 5) (lv2 := [none, some (.inr (.inl v1)), none, some (.inr (.inl (v3 ||| (r6 &&& v1)))), none, some (.inl (v5 + 1))]) (st2 := []) (m2 := m) (fun n => rfl) ?_
      exact ax_fg (lv2 := [none, some (.inr (.inl v1)), none, some (.inr (.inl (v3 ||| (r6 &&& v1)))), none, some (.inl (v5 + 1))]) ⟨rfl, rfl, rfl, trivial⟩ (ih (v3 ||| (r6 &&& v1)) (v5 + 1) _ h)
def F_X9_flood (v0 : Int32) (v1 : Int64) : Option Int64 := ax_b (F_X0_bit v0) (fun r2 => F_X9_flood_L5 ax_FU v1 r2 0)
set_option maxRecDepth 20000 in
set_option maxHeartbeats 4000000 in
theorem R_X9_flood {d : Nat} (hd : 3 ≤ d) {m : ax_M} {v0 : Int32} {v1 : Int64} {q : Int64} (h : F_X9_flood v0 v1 = some q) : ax_Ru d L_X9_flood 0 (ax_entry [.inl v0, .inr (.inl v1)] 6) [] m (some (.inr (.inl q)), m) := by
  obtain ⟨e, rfl⟩ : ∃ e, d = e + 3 := ⟨d - 3, by omega⟩
  unfold F_X9_flood at h
  obtain ⟨r2, q1, h⟩ := ax_b_of h
  have s9 : ∀ n, ax_ex (e + 3) L_X9_flood 0 (ax_entry [.inl v0, .inr (.inl v1)] 6) [] m (n + 2) = ax_aft (fun s m2 => ax_ex (e + 3) L_X9_flood 2 [some (.inl v0), some (.inr (.inl v1)), none, none, none, none] s m2 n) [] (ax_ex (e + 2) L_X0_bit 0 (ax_entry [.inl v0] 1) [] m n) := fun n => rfl
  refine ax_gcl (j := 2) (k2 := 2) (lv2 := [some (.inl v0), some (.inr (.inl v1)), none, none, none, none]) (rest := []) ((R_X0_bit (by omega) q1)) s9 ?_
  refine ax_go (j := 3) (k2 := 5) (lv2 := [some (.inl v0), some (.inr (.inl v1)), none, some (.inr (.inl r2)), none, some (.inl 0)]) (st2 := []) (m2 := m) (fun n => rfl) ?_
  refine ax_fg (lv2 := [none, some (.inr (.inl v1)), none, some (.inr (.inl r2)), none, some (.inl 0)]) ⟨rfl, rfl, rfl, trivial⟩ ?_
  refine R_X9_flood_L5 _ r2 0 _ h
def F_X10_isShelf (v0 : Int32) : Option Int32 := if v0 < 0 then (some 0) else (if 8 ≤ v0 then (some 0) else (some 1))
set_option maxRecDepth 20000 in
set_option maxHeartbeats 4000000 in
theorem R_X10_isShelf {d : Nat} (hd : 1 ≤ d) {m : ax_M} {v0 : Int32} {q : Int32} (h : F_X10_isShelf v0 = some q) : ax_Ru d L_X10_isShelf 0 (ax_entry [.inl v0] 1) [] m (some (.inl q), m) := by
  obtain ⟨e, rfl⟩ : ∃ e, d = e + 1 := ⟨d - 1, by omega⟩
  unfold F_X10_isShelf at h
  have s2 : ∀ n, ax_ex (e + 1) L_X10_isShelf 0 (ax_entry [.inl v0] 1) [] m (n + 2) = if v0 < 0 then ax_ex (e + 1) L_X10_isShelf 7 [some (.inl v0)] [] m n else ax_ex (e + 1) L_X10_isShelf 2 [some (.inl v0)] [] m n := fun n => rfl
  by_cases c1 : v0 < 0
  · rw [if_pos c1] at h
    refine ax_gt c1 s2 ?_
    obtain rfl := Option.some.inj h
    exact ax_rq (c := (0 : Int32) = 0 ∨ (0 : Int32) = 1) (j := 2) (by decide) (fun n => rfl)
  · rw [if_neg c1] at h
    refine ax_gf c1 s2 ?_
    have s4 : ∀ n, ax_ex (e + 1) L_X10_isShelf 2 [some (.inl v0)] [] m (n + 3) = if 8 ≤ v0 then ax_ex (e + 1) L_X10_isShelf 7 [some (.inl v0)] [] m n else ax_ex (e + 1) L_X10_isShelf 5 [some (.inl v0)] [] m n := fun n => rfl
    by_cases c3 : 8 ≤ v0
    · rw [if_pos c3] at h
      refine ax_gt c3 s4 ?_
      obtain rfl := Option.some.inj h
      exact ax_rq (c := (0 : Int32) = 0 ∨ (0 : Int32) = 1) (j := 2) (by decide) (fun n => rfl)
    · rw [if_neg c3] at h
      refine ax_gf c3 s4 ?_
      obtain rfl := Option.some.inj h
      exact ax_rq (c := (1 : Int32) = 0 ∨ (1 : Int32) = 1) (j := 3) (by decide) (fun n => rfl)
def F_X10_refuse (m : ax_M) (v1 : Int32) : Option (Int32 × ax_M) := if ((-2) - v1) < 0 then (some (v1, m)) else (if 5 ≤ ((-2) - v1) then (some (v1, m)) else (if ax_ok ((-2) - v1) 5 = true then (if ax_ok ((-2) - v1) 5 = true then (some (v1, (ax_ui m 20 0 ((-2) - v1).toNatClampNeg ((m.1 20 0 ((-2) - v1).toNatClampNeg) + 1)))) else (none)) else (none)))
set_option maxRecDepth 20000 in
set_option maxHeartbeats 4000000 in
theorem R_X10_refuse {d : Nat} (hd : 1 ≤ d) {m : ax_M} {v1 : Int32} {q : (Int32 × ax_M)} (h : F_X10_refuse m v1 = some q) : ax_Ru d L_X10_refuse 0 (ax_entry [.inr (.inr (0, 0)), .inl v1] 3) [] m (some (.inl q.1), q.2) := by
  obtain ⟨e, rfl⟩ : ∃ e, d = e + 1 := ⟨d - 1, by omega⟩
  unfold F_X10_refuse at h
  refine ax_go (j := 5) (k2 := 5) (lv2 := [some (.inr (.inr (0, 0))), some (.inl v1), some (.inl ((-2) - v1))]) (st2 := [.inl ((-2) - v1)]) (m2 := m) (fun n => rfl) ?_
  obtain ⟨y1, hy1⟩ : ∃ y : Int32, y = ((-2) - v1) := ⟨_, rfl⟩
  rw [← hy1] at h ⊢
  have s3 : ∀ n, ax_ex (e + 1) L_X10_refuse 5 [some (.inr (.inr (0, 0))), some (.inl v1), some (.inl y1)] [.inl y1] m (n + 1) = if y1 < 0 then ax_ex (e + 1) L_X10_refuse 19 [some (.inr (.inr (0, 0))), some (.inl v1), some (.inl y1)] [] m n else ax_ex (e + 1) L_X10_refuse 6 [some (.inr (.inr (0, 0))), some (.inl v1), some (.inl y1)] [] m n := fun n => rfl
  by_cases c2 : y1 < 0
  · rw [if_pos c2] at h
    refine ax_gt c2 s3 ?_
    obtain rfl := Option.some.inj h
    exact ax_rs 2 (fun n => rfl)
  · rw [if_neg c2] at h
    refine ax_gf c2 s3 ?_
    have s5 : ∀ n, ax_ex (e + 1) L_X10_refuse 6 [some (.inr (.inr (0, 0))), some (.inl v1), some (.inl y1)] [] m (n + 5) = if 5 ≤ y1 then ax_ex (e + 1) L_X10_refuse 19 [some (.inr (.inr (0, 0))), some (.inl v1), some (.inl y1)] [] m n else ax_ex (e + 1) L_X10_refuse 11 [some (.inr (.inr (0, 0))), some (.inl v1), some (.inl y1)] [] m n := fun n => rfl
    by_cases c4 : 5 ≤ y1
    · rw [if_pos c4] at h
      refine ax_gt c4 s5 ?_
      obtain rfl := Option.some.inj h
      exact ax_rs 2 (fun n => rfl)
    · rw [if_neg c4] at h
      refine ax_gf c4 s5 ?_
      have s7 : ∀ n, ax_ex (e + 1) L_X10_refuse 11 [some (.inr (.inr (0, 0))), some (.inl v1), some (.inl y1)] [] m (n + 5) = if ax_ok y1 5 = true then ax_ex (e + 1) L_X10_refuse 16 [some (.inr (.inr (0, 0))), some (.inl v1), some (.inl y1)] [.inl (m.1 20 0 y1.toNatClampNeg), .inl y1, .inr (.inr (20, 0))] m n else none := fun n => rfl
      by_cases c6 : ax_ok y1 5 = true
      · rw [if_pos c6] at h
        refine ax_gt c6 s7 ?_
        have s9 : ∀ n, ax_ex (e + 1) L_X10_refuse 16 [some (.inr (.inr (0, 0))), some (.inl v1), some (.inl y1)] [.inl (m.1 20 0 y1.toNatClampNeg), .inl y1, .inr (.inr (20, 0))] m (n + 3) = if ax_ok y1 5 = true then ax_ex (e + 1) L_X10_refuse 19 [some (.inr (.inr (0, 0))), some (.inl v1), some (.inl y1)] [] (ax_ui m 20 0 y1.toNatClampNeg ((m.1 20 0 y1.toNatClampNeg) + 1)) n else none := fun n => rfl
        by_cases c8 : ax_ok y1 5 = true
        · rw [if_pos c8] at h
          refine ax_gt c8 s9 ?_
          obtain rfl := Option.some.inj h
          exact ax_rs 2 (fun n => rfl)
        · rw [if_neg c8] at h
          cases h
      · rw [if_neg c6] at h
        cases h
def F_X10_row (m : ax_M) (v1 : Int32) (v2 : Int32) (v3 : Int32) : Option (Int32 × ax_M) := ax_b (F_X10_isShelf v1) (fun r2 => if r2 = 0 then (ax_b2 (F_X10_refuse m (-2)) (fun r6 m7 => some (r6, m7))) else (ax_b (F_X7_isSort v2) (fun r10 => if r10 = 0 then (ax_b2 (F_X10_refuse m (-2)) (fun r14 m15 => some (r14, m15))) else (if v3 < 0 then (ax_b2 (F_X10_refuse m (-2)) (fun r20 m21 => some (r20, m21))) else (if v3 ≤ 40 then (if ax_ok v1 8 = true then (ax_b (F_X7_takeRow m (8 * 0 + v1.toNatClampNeg) v2 v3) (fun m29 => some (1, m29))) else (none)) else (ax_b2 (F_X10_refuse m (-2)) (fun r32 m33 => some (r32, m33))))))))
set_option maxRecDepth 20000 in
set_option maxHeartbeats 4000000 in
theorem R_X10_row {d : Nat} (hd : 2 ≤ d) {m : ax_M} {v1 : Int32} {v2 : Int32} {v3 : Int32} {q : (Int32 × ax_M)} (h : F_X10_row m v1 v2 v3 = some q) : ax_Ru d L_X10_row 0 (ax_entry [.inr (.inr (0, 0)), .inl v1, .inl v2, .inl v3] 4) [] m (some (.inl q.1), q.2) := by
  obtain ⟨e, rfl⟩ : ∃ e, d = e + 2 := ⟨d - 2, by omega⟩
  unfold F_X10_row at h
  obtain ⟨r2, q1, h⟩ := ax_b_of h
  have s36 : ∀ n, ax_ex (e + 2) L_X10_row 0 (ax_entry [.inr (.inr (0, 0)), .inl v1, .inl v2, .inl v3] 4) [] m (n + 2) = ax_aft (fun s m2 => ax_ex (e + 2) L_X10_row 2 [some (.inr (.inr (0, 0))), some (.inl v1), some (.inl v2), some (.inl v3)] s m2 n) [] (ax_ex (e + 1) L_X10_isShelf 0 (ax_entry [.inl v1] 1) [] m n) := fun n => rfl
  refine ax_gci (j := 2) (k2 := 2) (lv2 := [some (.inr (.inr (0, 0))), some (.inl v1), some (.inl v2), some (.inl v3)]) (rest := []) ((R_X10_isShelf (by omega) q1)) s36 ?_
  have s4 : ∀ n, ax_ex (e + 2) L_X10_row 2 [some (.inr (.inr (0, 0))), some (.inl v1), some (.inl v2), some (.inl v3)] [.inl r2] m (n + 1) = if r2 = 0 then ax_ex (e + 2) L_X10_row 11 [some (.inr (.inr (0, 0))), some (.inl v1), some (.inl v2), some (.inl v3)] [] m n else ax_ex (e + 2) L_X10_row 3 [some (.inr (.inr (0, 0))), some (.inl v1), some (.inl v2), some (.inl v3)] [] m n := fun n => rfl
  by_cases c3 : r2 = 0
  · rw [if_pos c3] at h
    refine ax_gt c3 s4 ?_
    obtain ⟨r6, m7, q5, h⟩ := ax_b2_of h
    have s8 : ∀ n, ax_ex (e + 2) L_X10_row 11 [some (.inr (.inr (0, 0))), some (.inl v1), some (.inl v2), some (.inl v3)] [] m (n + 3) = ax_aft (fun s m2 => ax_ex (e + 2) L_X10_row 14 [some (.inr (.inr (0, 0))), some (.inl v1), some (.inl v2), some (.inl v3)] s m2 n) [] (ax_ex (e + 1) L_X10_refuse 0 (ax_entry [.inr (.inr (0, 0)), .inl (-2)] 3) [] m n) := fun n => rfl
    refine ax_gci (j := 3) (k2 := 14) (lv2 := [some (.inr (.inr (0, 0))), some (.inl v1), some (.inl v2), some (.inl v3)]) (rest := []) ((R_X10_refuse (by omega) q5)) s8 ?_
    obtain rfl := Option.some.inj h
    exact ax_rs 1 (fun n => rfl)
  · rw [if_neg c3] at h
    refine ax_gf c3 s4 ?_
    obtain ⟨r10, q9, h⟩ := ax_b_of h
    have s35 : ∀ n, ax_ex (e + 2) L_X10_row 3 [some (.inr (.inr (0, 0))), some (.inl v1), some (.inl v2), some (.inl v3)] [] m (n + 2) = ax_aft (fun s m2 => ax_ex (e + 2) L_X10_row 5 [some (.inr (.inr (0, 0))), some (.inl v1), some (.inl v2), some (.inl v3)] s m2 n) [] (ax_ex (e + 1) L_X7_isSort 0 (ax_entry [.inl v2] 1) [] m n) := fun n => rfl
    refine ax_gci (j := 2) (k2 := 5) (lv2 := [some (.inr (.inr (0, 0))), some (.inl v1), some (.inl v2), some (.inl v3)]) (rest := []) ((R_X7_isSort (by omega) q9)) s35 ?_
    have s12 : ∀ n, ax_ex (e + 2) L_X10_row 5 [some (.inr (.inr (0, 0))), some (.inl v1), some (.inl v2), some (.inl v3)] [.inl r10] m (n + 1) = if r10 = 0 then ax_ex (e + 2) L_X10_row 11 [some (.inr (.inr (0, 0))), some (.inl v1), some (.inl v2), some (.inl v3)] [] m n else ax_ex (e + 2) L_X10_row 6 [some (.inr (.inr (0, 0))), some (.inl v1), some (.inl v2), some (.inl v3)] [] m n := fun n => rfl
    by_cases c11 : r10 = 0
    · rw [if_pos c11] at h
      refine ax_gt c11 s12 ?_
      obtain ⟨r14, m15, q13, h⟩ := ax_b2_of h
      have s16 : ∀ n, ax_ex (e + 2) L_X10_row 11 [some (.inr (.inr (0, 0))), some (.inl v1), some (.inl v2), some (.inl v3)] [] m (n + 3) = ax_aft (fun s m2 => ax_ex (e + 2) L_X10_row 14 [some (.inr (.inr (0, 0))), some (.inl v1), some (.inl v2), some (.inl v3)] s m2 n) [] (ax_ex (e + 1) L_X10_refuse 0 (ax_entry [.inr (.inr (0, 0)), .inl (-2)] 3) [] m n) := fun n => rfl
      refine ax_gci (j := 3) (k2 := 14) (lv2 := [some (.inr (.inr (0, 0))), some (.inl v1), some (.inl v2), some (.inl v3)]) (rest := []) ((R_X10_refuse (by omega) q13)) s16 ?_
      obtain rfl := Option.some.inj h
      exact ax_rs 1 (fun n => rfl)
    · rw [if_neg c11] at h
      refine ax_gf c11 s12 ?_
      have s18 : ∀ n, ax_ex (e + 2) L_X10_row 6 [some (.inr (.inr (0, 0))), some (.inl v1), some (.inl v2), some (.inl v3)] [] m (n + 2) = if v3 < 0 then ax_ex (e + 2) L_X10_row 11 [some (.inr (.inr (0, 0))), some (.inl v1), some (.inl v2), some (.inl v3)] [] m n else ax_ex (e + 2) L_X10_row 8 [some (.inr (.inr (0, 0))), some (.inl v1), some (.inl v2), some (.inl v3)] [] m n := fun n => rfl
      by_cases c17 : v3 < 0
      · rw [if_pos c17] at h
        refine ax_gt c17 s18 ?_
        obtain ⟨r20, m21, q19, h⟩ := ax_b2_of h
        have s22 : ∀ n, ax_ex (e + 2) L_X10_row 11 [some (.inr (.inr (0, 0))), some (.inl v1), some (.inl v2), some (.inl v3)] [] m (n + 3) = ax_aft (fun s m2 => ax_ex (e + 2) L_X10_row 14 [some (.inr (.inr (0, 0))), some (.inl v1), some (.inl v2), some (.inl v3)] s m2 n) [] (ax_ex (e + 1) L_X10_refuse 0 (ax_entry [.inr (.inr (0, 0)), .inl (-2)] 3) [] m n) := fun n => rfl
        refine ax_gci (j := 3) (k2 := 14) (lv2 := [some (.inr (.inr (0, 0))), some (.inl v1), some (.inl v2), some (.inl v3)]) (rest := []) ((R_X10_refuse (by omega) q19)) s22 ?_
        obtain rfl := Option.some.inj h
        exact ax_rs 1 (fun n => rfl)
      · rw [if_neg c17] at h
        refine ax_gf c17 s18 ?_
        have s24 : ∀ n, ax_ex (e + 2) L_X10_row 8 [some (.inr (.inr (0, 0))), some (.inl v1), some (.inl v2), some (.inl v3)] [] m (n + 3) = if v3 ≤ 40 then ax_ex (e + 2) L_X10_row 15 [some (.inr (.inr (0, 0))), some (.inl v1), some (.inl v2), some (.inl v3)] [] m n else ax_ex (e + 2) L_X10_row 11 [some (.inr (.inr (0, 0))), some (.inl v1), some (.inl v2), some (.inl v3)] [] m n := fun n => rfl
        by_cases c23 : v3 ≤ 40
        · rw [if_pos c23] at h
          refine ax_gt c23 s24 ?_
          have s26 : ∀ n, ax_ex (e + 2) L_X10_row 15 [some (.inr (.inr (0, 0))), some (.inl v1), some (.inl v2), some (.inl v3)] [] m (n + 4) = if ax_ok v1 8 = true then ax_ex (e + 2) L_X10_row 19 [some (.inr (.inr (0, 0))), some (.inl v1), some (.inl v2), some (.inl v3)] [.inr (.inr (8, (8 * 0 + v1.toNatClampNeg)))] m n else none := fun n => rfl
          by_cases c25 : ax_ok v1 8 = true
          · rw [if_pos c25] at h
            refine ax_gt c25 s26 ?_
            obtain ⟨m29, q27, h⟩ := ax_b_of h
            have s30 : ∀ n, ax_ex (e + 2) L_X10_row 19 [some (.inr (.inr (0, 0))), some (.inl v1), some (.inl v2), some (.inl v3)] [.inr (.inr (8, (8 * 0 + v1.toNatClampNeg)))] m (n + 3) = ax_aft (fun s m2 => ax_ex (e + 2) L_X10_row 22 [some (.inr (.inr (0, 0))), some (.inl v1), some (.inl v2), some (.inl v3)] s m2 n) [] (ax_ex (e + 1) L_X7_takeRow 0 (ax_entry [.inr (.inr (8, (8 * 0 + v1.toNatClampNeg))), .inl v2, .inl v3] 4) [] m n) := fun n => rfl
            refine ax_gcv (j := 3) (k2 := 22) (lv2 := [some (.inr (.inr (0, 0))), some (.inl v1), some (.inl v2), some (.inl v3)]) (rest := []) ((R_X7_takeRow (by omega) q27)) s30 ?_
            obtain rfl := Option.some.inj h
            exact ax_rs 2 (fun n => rfl)
          · rw [if_neg c25] at h
            cases h
        · rw [if_neg c23] at h
          refine ax_gf c23 s24 ?_
          obtain ⟨r32, m33, q31, h⟩ := ax_b2_of h
          have s34 : ∀ n, ax_ex (e + 2) L_X10_row 11 [some (.inr (.inr (0, 0))), some (.inl v1), some (.inl v2), some (.inl v3)] [] m (n + 3) = ax_aft (fun s m2 => ax_ex (e + 2) L_X10_row 14 [some (.inr (.inr (0, 0))), some (.inl v1), some (.inl v2), some (.inl v3)] s m2 n) [] (ax_ex (e + 1) L_X10_refuse 0 (ax_entry [.inr (.inr (0, 0)), .inl (-2)] 3) [] m n) := fun n => rfl
          refine ax_gci (j := 3) (k2 := 14) (lv2 := [some (.inr (.inr (0, 0))), some (.inl v1), some (.inl v2), some (.inl v3)]) (rest := []) ((R_X10_refuse (by omega) q31)) s34 ?_
          obtain rfl := Option.some.inj h
          exact ax_rs 1 (fun n => rfl)
def F_X10_set (m : ax_M) (v1 : Int32) (v2 : Int32) (v3 : Int64) : Option (Int32 × ax_M) := ax_b (F_X10_isShelf v1) (fun r2 => if r2 = 0 then (ax_b2 (F_X10_refuse m (-2)) (fun r6 m7 => some (r6, m7))) else (if ax_ok v1 8 = true then (ax_b (F_X7_noRow m (8 * 0 + v1.toNatClampNeg)) (fun r12 => if r12 = 0 then (if ax_ok v1 8 = true then (ax_b (F_X7_hasElement m (8 * 0 + v1.toNatClampNeg) v2) (fun r18 => if r18 = 0 then (ax_b2 (F_X10_refuse m (-2)) (fun r22 m23 => some (r22, m23))) else (if ax_ok v1 8 = true then (ax_b (F_X7_put m (8 * 0 + v1.toNatClampNeg) v2 v3) (fun m29 => some (1, m29))) else (none)))) else (none)) else (ax_b2 (F_X10_refuse m r12) (fun r33 m34 => some (r33, m34))))) else (none)))
set_option maxRecDepth 20000 in
set_option maxHeartbeats 4000000 in
theorem R_X10_set {d : Nat} (hd : 3 ≤ d) {m : ax_M} {v1 : Int32} {v2 : Int32} {v3 : Int64} {q : (Int32 × ax_M)} (h : F_X10_set m v1 v2 v3 = some q) : ax_Ru d L_X10_set 0 (ax_entry [.inr (.inr (0, 0)), .inl v1, .inl v2, .inr (.inl v3)] 6) [] m (some (.inl q.1), q.2) := by
  obtain ⟨e, rfl⟩ : ∃ e, d = e + 3 := ⟨d - 3, by omega⟩
  unfold F_X10_set at h
  obtain ⟨r2, q1, h⟩ := ax_b_of h
  have s37 : ∀ n, ax_ex (e + 3) L_X10_set 0 (ax_entry [.inr (.inr (0, 0)), .inl v1, .inl v2, .inr (.inl v3)] 6) [] m (n + 2) = ax_aft (fun s m2 => ax_ex (e + 3) L_X10_set 2 [some (.inr (.inr (0, 0))), some (.inl v1), some (.inl v2), some (.inr (.inl v3)), none, none] s m2 n) [] (ax_ex (e + 2) L_X10_isShelf 0 (ax_entry [.inl v1] 1) [] m n) := fun n => rfl
  refine ax_gci (j := 2) (k2 := 2) (lv2 := [some (.inr (.inr (0, 0))), some (.inl v1), some (.inl v2), some (.inr (.inl v3)), none, none]) (rest := []) ((R_X10_isShelf (by omega) q1)) s37 ?_
  have s4 : ∀ n, ax_ex (e + 3) L_X10_set 2 [some (.inr (.inr (0, 0))), some (.inl v1), some (.inl v2), some (.inr (.inl v3)), none, none] [.inl r2] m (n + 1) = if r2 = 0 then ax_ex (e + 3) L_X10_set 3 [some (.inr (.inr (0, 0))), some (.inl v1), some (.inl v2), some (.inr (.inl v3)), none, none] [] m n else ax_ex (e + 3) L_X10_set 7 [some (.inr (.inr (0, 0))), some (.inl v1), some (.inl v2), some (.inr (.inl v3)), none, none] [] m n := fun n => rfl
  by_cases c3 : r2 = 0
  · rw [if_pos c3] at h
    refine ax_gt c3 s4 ?_
    obtain ⟨r6, m7, q5, h⟩ := ax_b2_of h
    have s8 : ∀ n, ax_ex (e + 3) L_X10_set 3 [some (.inr (.inr (0, 0))), some (.inl v1), some (.inl v2), some (.inr (.inl v3)), none, none] [] m (n + 3) = ax_aft (fun s m2 => ax_ex (e + 3) L_X10_set 6 [some (.inr (.inr (0, 0))), some (.inl v1), some (.inl v2), some (.inr (.inl v3)), none, none] s m2 n) [] (ax_ex (e + 2) L_X10_refuse 0 (ax_entry [.inr (.inr (0, 0)), .inl (-2)] 3) [] m n) := fun n => rfl
    refine ax_gci (j := 3) (k2 := 6) (lv2 := [some (.inr (.inr (0, 0))), some (.inl v1), some (.inl v2), some (.inr (.inl v3)), none, none]) (rest := []) ((R_X10_refuse (by omega) q5)) s8 ?_
    obtain rfl := Option.some.inj h
    exact ax_rs 1 (fun n => rfl)
  · rw [if_neg c3] at h
    refine ax_gf c3 s4 ?_
    have s10 : ∀ n, ax_ex (e + 3) L_X10_set 7 [some (.inr (.inr (0, 0))), some (.inl v1), some (.inl v2), some (.inr (.inl v3)), none, none] [] m (n + 4) = if ax_ok v1 8 = true then ax_ex (e + 3) L_X10_set 11 [some (.inr (.inr (0, 0))), some (.inl v1), some (.inl v2), some (.inr (.inl v3)), none, none] [.inr (.inr (8, (8 * 0 + v1.toNatClampNeg)))] m n else none := fun n => rfl
    by_cases c9 : ax_ok v1 8 = true
    · rw [if_pos c9] at h
      refine ax_gt c9 s10 ?_
      obtain ⟨r12, q11, h⟩ := ax_b_of h
      have s36 : ∀ n, ax_ex (e + 3) L_X10_set 11 [some (.inr (.inr (0, 0))), some (.inl v1), some (.inl v2), some (.inr (.inl v3)), none, none] [.inr (.inr (8, (8 * 0 + v1.toNatClampNeg)))] m (n + 1) = ax_aft (fun s m2 => ax_ex (e + 3) L_X10_set 12 [some (.inr (.inr (0, 0))), some (.inl v1), some (.inl v2), some (.inr (.inl v3)), none, none] s m2 n) [] (ax_ex (e + 2) L_X7_noRow 0 (ax_entry [.inr (.inr (8, (8 * 0 + v1.toNatClampNeg)))] 1) [] m n) := fun n => rfl
      refine ax_gci (j := 1) (k2 := 12) (lv2 := [some (.inr (.inr (0, 0))), some (.inl v1), some (.inl v2), some (.inr (.inl v3)), none, none]) (rest := []) ((R_X7_noRow (by omega) q11)) s36 ?_
      have s14 : ∀ n, ax_ex (e + 3) L_X10_set 12 [some (.inr (.inr (0, 0))), some (.inl v1), some (.inl v2), some (.inr (.inl v3)), none, none] [.inl r12] m (n + 3) = if r12 = 0 then ax_ex (e + 3) L_X10_set 19 [some (.inr (.inr (0, 0))), some (.inl v1), some (.inl v2), some (.inr (.inl v3)), none, some (.inl r12)] [] m n else ax_ex (e + 3) L_X10_set 15 [some (.inr (.inr (0, 0))), some (.inl v1), some (.inl v2), some (.inr (.inl v3)), none, some (.inl r12)] [] m n := fun n => rfl
      by_cases c13 : r12 = 0
      · rw [if_pos c13] at h
        refine ax_gt c13 s14 ?_
        have s16 : ∀ n, ax_ex (e + 3) L_X10_set 19 [some (.inr (.inr (0, 0))), some (.inl v1), some (.inl v2), some (.inr (.inl v3)), none, some (.inl r12)] [] m (n + 4) = if ax_ok v1 8 = true then ax_ex (e + 3) L_X10_set 23 [some (.inr (.inr (0, 0))), some (.inl v1), some (.inl v2), some (.inr (.inl v3)), none, some (.inl r12)] [.inr (.inr (8, (8 * 0 + v1.toNatClampNeg)))] m n else none := fun n => rfl
        by_cases c15 : ax_ok v1 8 = true
        · rw [if_pos c15] at h
          refine ax_gt c15 s16 ?_
          obtain ⟨r18, q17, h⟩ := ax_b_of h
          have s31 : ∀ n, ax_ex (e + 3) L_X10_set 23 [some (.inr (.inr (0, 0))), some (.inl v1), some (.inl v2), some (.inr (.inl v3)), none, some (.inl r12)] [.inr (.inr (8, (8 * 0 + v1.toNatClampNeg)))] m (n + 2) = ax_aft (fun s m2 => ax_ex (e + 3) L_X10_set 25 [some (.inr (.inr (0, 0))), some (.inl v1), some (.inl v2), some (.inr (.inl v3)), none, some (.inl r12)] s m2 n) [] (ax_ex (e + 2) L_X7_hasElement 0 (ax_entry [.inr (.inr (8, (8 * 0 + v1.toNatClampNeg))), .inl v2] 2) [] m n) := fun n => rfl
          refine ax_gci (j := 2) (k2 := 25) (lv2 := [some (.inr (.inr (0, 0))), some (.inl v1), some (.inl v2), some (.inr (.inl v3)), none, some (.inl r12)]) (rest := []) ((R_X7_hasElement (by omega) q17)) s31 ?_
          have s20 : ∀ n, ax_ex (e + 3) L_X10_set 25 [some (.inr (.inr (0, 0))), some (.inl v1), some (.inl v2), some (.inr (.inl v3)), none, some (.inl r12)] [.inl r18] m (n + 1) = if r18 = 0 then ax_ex (e + 3) L_X10_set 26 [some (.inr (.inr (0, 0))), some (.inl v1), some (.inl v2), some (.inr (.inl v3)), none, some (.inl r12)] [] m n else ax_ex (e + 3) L_X10_set 30 [some (.inr (.inr (0, 0))), some (.inl v1), some (.inl v2), some (.inr (.inl v3)), none, some (.inl r12)] [] m n := fun n => rfl
          by_cases c19 : r18 = 0
          · rw [if_pos c19] at h
            refine ax_gt c19 s20 ?_
            obtain ⟨r22, m23, q21, h⟩ := ax_b2_of h
            have s24 : ∀ n, ax_ex (e + 3) L_X10_set 26 [some (.inr (.inr (0, 0))), some (.inl v1), some (.inl v2), some (.inr (.inl v3)), none, some (.inl r12)] [] m (n + 3) = ax_aft (fun s m2 => ax_ex (e + 3) L_X10_set 29 [some (.inr (.inr (0, 0))), some (.inl v1), some (.inl v2), some (.inr (.inl v3)), none, some (.inl r12)] s m2 n) [] (ax_ex (e + 2) L_X10_refuse 0 (ax_entry [.inr (.inr (0, 0)), .inl (-2)] 3) [] m n) := fun n => rfl
            refine ax_gci (j := 3) (k2 := 29) (lv2 := [some (.inr (.inr (0, 0))), some (.inl v1), some (.inl v2), some (.inr (.inl v3)), none, some (.inl r12)]) (rest := []) ((R_X10_refuse (by omega) q21)) s24 ?_
            obtain rfl := Option.some.inj h
            exact ax_rs 1 (fun n => rfl)
          · rw [if_neg c19] at h
            refine ax_gf c19 s20 ?_
            have s26 : ∀ n, ax_ex (e + 3) L_X10_set 30 [some (.inr (.inr (0, 0))), some (.inl v1), some (.inl v2), some (.inr (.inl v3)), none, some (.inl r12)] [] m (n + 4) = if ax_ok v1 8 = true then ax_ex (e + 3) L_X10_set 34 [some (.inr (.inr (0, 0))), some (.inl v1), some (.inl v2), some (.inr (.inl v3)), none, some (.inl r12)] [.inr (.inr (8, (8 * 0 + v1.toNatClampNeg)))] m n else none := fun n => rfl
            by_cases c25 : ax_ok v1 8 = true
            · rw [if_pos c25] at h
              refine ax_gt c25 s26 ?_
              obtain ⟨m29, q27, h⟩ := ax_b_of h
              have s30 : ∀ n, ax_ex (e + 3) L_X10_set 34 [some (.inr (.inr (0, 0))), some (.inl v1), some (.inl v2), some (.inr (.inl v3)), none, some (.inl r12)] [.inr (.inr (8, (8 * 0 + v1.toNatClampNeg)))] m (n + 3) = ax_aft (fun s m2 => ax_ex (e + 3) L_X10_set 37 [some (.inr (.inr (0, 0))), some (.inl v1), some (.inl v2), some (.inr (.inl v3)), none, some (.inl r12)] s m2 n) [] (ax_ex (e + 2) L_X7_put 0 (ax_entry [.inr (.inr (8, (8 * 0 + v1.toNatClampNeg))), .inl v2, .inr (.inl v3)] 4) [] m n) := fun n => rfl
              refine ax_gcv (j := 3) (k2 := 37) (lv2 := [some (.inr (.inr (0, 0))), some (.inl v1), some (.inl v2), some (.inr (.inl v3)), none, some (.inl r12)]) (rest := []) ((R_X7_put (by omega) q27)) s30 ?_
              obtain rfl := Option.some.inj h
              exact ax_rs 2 (fun n => rfl)
            · rw [if_neg c25] at h
              cases h
        · rw [if_neg c15] at h
          cases h
      · rw [if_neg c13] at h
        refine ax_gf c13 s14 ?_
        obtain ⟨r33, m34, q32, h⟩ := ax_b2_of h
        have s35 : ∀ n, ax_ex (e + 3) L_X10_set 15 [some (.inr (.inr (0, 0))), some (.inl v1), some (.inl v2), some (.inr (.inl v3)), none, some (.inl r12)] [] m (n + 3) = ax_aft (fun s m2 => ax_ex (e + 3) L_X10_set 18 [some (.inr (.inr (0, 0))), some (.inl v1), some (.inl v2), some (.inr (.inl v3)), none, some (.inl r12)] s m2 n) [] (ax_ex (e + 2) L_X10_refuse 0 (ax_entry [.inr (.inr (0, 0)), .inl r12] 3) [] m n) := fun n => rfl
        refine ax_gci (j := 3) (k2 := 18) (lv2 := [some (.inr (.inr (0, 0))), some (.inl v1), some (.inl v2), some (.inr (.inl v3)), none, some (.inl r12)]) (rest := []) ((R_X10_refuse (by omega) q32)) s35 ?_
        obtain rfl := Option.some.inj h
        exact ax_rs 1 (fun n => rfl)
    · rw [if_neg c9] at h
      cases h
def F_X10_copy (m : ax_M) (v1 : Int32) (v2 : Int32) (v3 : Int32) (v4 : Int32) (v5 : Int32) : Option (Int32 × ax_M) := ax_b (F_X10_isShelf v1) (fun r2 => if r2 = 0 then (ax_b2 (F_X10_refuse m (-2)) (fun r6 m7 => some (r6, m7))) else (ax_b (F_X10_isShelf v2) (fun r10 => if r10 = 0 then (ax_b2 (F_X10_refuse m (-2)) (fun r14 m15 => some (r14, m15))) else (if ax_ok v1 8 = true then (if ax_ok v2 8 = true then (ax_b (F_X7_holdsSeed m (8 * 0 + v1.toNatClampNeg)) (fun r22 => if r22 = 0 then (ax_b (F_X7_holdsSeed m (8 * 0 + v2.toNatClampNeg)) (fun r26 => if r26 = 0 then (ax_b (F_X7_isEmpty m (8 * 0 + v1.toNatClampNeg)) (fun r30 => if r30 = 0 then (ax_b (F_X7_isEmpty m (8 * 0 + v2.toNatClampNeg)) (fun r34 => if r34 = 0 then (if (m.1 8 (8 * 0 + v1.toNatClampNeg) 0) = (m.1 8 (8 * 0 + v2.toNatClampNeg) 0) then (ax_b (F_X7_hasElements m (8 * 0 + v1.toNatClampNeg) v3 v5) (fun r40 => if r40 = 0 then (ax_b2 (F_X10_refuse m (-2)) (fun r44 m45 => some (r44, m45))) else (ax_b (F_X7_hasElements m (8 * 0 + v2.toNatClampNeg) v4 v5) (fun r48 => if r48 = 0 then (ax_b2 (F_X10_refuse m (-2)) (fun r52 m53 => some (r52, m53))) else (if 0 ≤ v3.toInt ∧ 0 ≤ v4.toInt ∧ 0 ≤ v5.toInt ∧ v3.toInt + v5.toInt ≤ 40 ∧ v4.toInt + v5.toInt ≤ 40 then (some (v5, (ax_cpl m 9 (8 * 0 + v1.toNatClampNeg) 9 (8 * 0 + v2.toNatClampNeg) v3.toNatClampNeg v4.toNatClampNeg v5.toNatClampNeg))) else none))))) else (ax_b2 (F_X10_refuse m (-3)) (fun r60 m61 => some (r60, m61)))) else (ax_b2 (F_X10_refuse m (-4)) (fun r64 m65 => some (r64, m65))))) else (ax_b2 (F_X10_refuse m (-4)) (fun r69 m70 => some (r69, m70))))) else (ax_b2 (F_X10_refuse m (-3)) (fun r74 m75 => some (r74, m75))))) else (ax_b2 (F_X10_refuse m (-3)) (fun r79 m80 => some (r79, m80))))) else (none)) else (none)))))
set_option maxRecDepth 20000 in
set_option maxHeartbeats 4000000 in
theorem R_X10_copy {d : Nat} (hd : 6 ≤ d) {m : ax_M} {v1 : Int32} {v2 : Int32} {v3 : Int32} {v4 : Int32} {v5 : Int32} {q : (Int32 × ax_M)} (h : F_X10_copy m v1 v2 v3 v4 v5 = some q) : ax_Ru d L_X10_copy 0 (ax_entry [.inr (.inr (0, 0)), .inl v1, .inl v2, .inl v3, .inl v4, .inl v5] 8) [] m (some (.inl q.1), q.2) := by
  obtain ⟨e, rfl⟩ : ∃ e, d = e + 6 := ⟨d - 6, by omega⟩
  unfold F_X10_copy at h
  obtain ⟨r2, q1, h⟩ := ax_b_of h
  have s84 : ∀ n, ax_ex (e + 6) L_X10_copy 0 (ax_entry [.inr (.inr (0, 0)), .inl v1, .inl v2, .inl v3, .inl v4, .inl v5] 8) [] m (n + 2) = ax_aft (fun s m2 => ax_ex (e + 6) L_X10_copy 2 [some (.inr (.inr (0, 0))), some (.inl v1), some (.inl v2), some (.inl v3), some (.inl v4), some (.inl v5), none, none] s m2 n) [] (ax_ex (e + 5) L_X10_isShelf 0 (ax_entry [.inl v1] 1) [] m n) := fun n => rfl
  refine ax_gci (j := 2) (k2 := 2) (lv2 := [some (.inr (.inr (0, 0))), some (.inl v1), some (.inl v2), some (.inl v3), some (.inl v4), some (.inl v5), none, none]) (rest := []) ((R_X10_isShelf (by omega) q1)) s84 ?_
  have s4 : ∀ n, ax_ex (e + 6) L_X10_copy 2 [some (.inr (.inr (0, 0))), some (.inl v1), some (.inl v2), some (.inl v3), some (.inl v4), some (.inl v5), none, none] [.inl r2] m (n + 1) = if r2 = 0 then ax_ex (e + 6) L_X10_copy 6 [some (.inr (.inr (0, 0))), some (.inl v1), some (.inl v2), some (.inl v3), some (.inl v4), some (.inl v5), none, none] [] m n else ax_ex (e + 6) L_X10_copy 3 [some (.inr (.inr (0, 0))), some (.inl v1), some (.inl v2), some (.inl v3), some (.inl v4), some (.inl v5), none, none] [] m n := fun n => rfl
  by_cases c3 : r2 = 0
  · rw [if_pos c3] at h
    refine ax_gt c3 s4 ?_
    obtain ⟨r6, m7, q5, h⟩ := ax_b2_of h
    have s8 : ∀ n, ax_ex (e + 6) L_X10_copy 6 [some (.inr (.inr (0, 0))), some (.inl v1), some (.inl v2), some (.inl v3), some (.inl v4), some (.inl v5), none, none] [] m (n + 3) = ax_aft (fun s m2 => ax_ex (e + 6) L_X10_copy 9 [some (.inr (.inr (0, 0))), some (.inl v1), some (.inl v2), some (.inl v3), some (.inl v4), some (.inl v5), none, none] s m2 n) [] (ax_ex (e + 5) L_X10_refuse 0 (ax_entry [.inr (.inr (0, 0)), .inl (-2)] 3) [] m n) := fun n => rfl
    refine ax_gci (j := 3) (k2 := 9) (lv2 := [some (.inr (.inr (0, 0))), some (.inl v1), some (.inl v2), some (.inl v3), some (.inl v4), some (.inl v5), none, none]) (rest := []) ((R_X10_refuse (by omega) q5)) s8 ?_
    obtain rfl := Option.some.inj h
    exact ax_rs 1 (fun n => rfl)
  · rw [if_neg c3] at h
    refine ax_gf c3 s4 ?_
    obtain ⟨r10, q9, h⟩ := ax_b_of h
    have s83 : ∀ n, ax_ex (e + 6) L_X10_copy 3 [some (.inr (.inr (0, 0))), some (.inl v1), some (.inl v2), some (.inl v3), some (.inl v4), some (.inl v5), none, none] [] m (n + 2) = ax_aft (fun s m2 => ax_ex (e + 6) L_X10_copy 5 [some (.inr (.inr (0, 0))), some (.inl v1), some (.inl v2), some (.inl v3), some (.inl v4), some (.inl v5), none, none] s m2 n) [] (ax_ex (e + 5) L_X10_isShelf 0 (ax_entry [.inl v2] 1) [] m n) := fun n => rfl
    refine ax_gci (j := 2) (k2 := 5) (lv2 := [some (.inr (.inr (0, 0))), some (.inl v1), some (.inl v2), some (.inl v3), some (.inl v4), some (.inl v5), none, none]) (rest := []) ((R_X10_isShelf (by omega) q9)) s83 ?_
    have s12 : ∀ n, ax_ex (e + 6) L_X10_copy 5 [some (.inr (.inr (0, 0))), some (.inl v1), some (.inl v2), some (.inl v3), some (.inl v4), some (.inl v5), none, none] [.inl r10] m (n + 1) = if r10 = 0 then ax_ex (e + 6) L_X10_copy 6 [some (.inr (.inr (0, 0))), some (.inl v1), some (.inl v2), some (.inl v3), some (.inl v4), some (.inl v5), none, none] [] m n else ax_ex (e + 6) L_X10_copy 10 [some (.inr (.inr (0, 0))), some (.inl v1), some (.inl v2), some (.inl v3), some (.inl v4), some (.inl v5), none, none] [] m n := fun n => rfl
    by_cases c11 : r10 = 0
    · rw [if_pos c11] at h
      refine ax_gt c11 s12 ?_
      obtain ⟨r14, m15, q13, h⟩ := ax_b2_of h
      have s16 : ∀ n, ax_ex (e + 6) L_X10_copy 6 [some (.inr (.inr (0, 0))), some (.inl v1), some (.inl v2), some (.inl v3), some (.inl v4), some (.inl v5), none, none] [] m (n + 3) = ax_aft (fun s m2 => ax_ex (e + 6) L_X10_copy 9 [some (.inr (.inr (0, 0))), some (.inl v1), some (.inl v2), some (.inl v3), some (.inl v4), some (.inl v5), none, none] s m2 n) [] (ax_ex (e + 5) L_X10_refuse 0 (ax_entry [.inr (.inr (0, 0)), .inl (-2)] 3) [] m n) := fun n => rfl
      refine ax_gci (j := 3) (k2 := 9) (lv2 := [some (.inr (.inr (0, 0))), some (.inl v1), some (.inl v2), some (.inl v3), some (.inl v4), some (.inl v5), none, none]) (rest := []) ((R_X10_refuse (by omega) q13)) s16 ?_
      obtain rfl := Option.some.inj h
      exact ax_rs 1 (fun n => rfl)
    · rw [if_neg c11] at h
      refine ax_gf c11 s12 ?_
      have s18 : ∀ n, ax_ex (e + 6) L_X10_copy 10 [some (.inr (.inr (0, 0))), some (.inl v1), some (.inl v2), some (.inl v3), some (.inl v4), some (.inl v5), none, none] [] m (n + 4) = if ax_ok v1 8 = true then ax_ex (e + 6) L_X10_copy 14 [some (.inr (.inr (0, 0))), some (.inl v1), some (.inl v2), some (.inl v3), some (.inl v4), some (.inl v5), none, none] [.inr (.inr (8, (8 * 0 + v1.toNatClampNeg)))] m n else none := fun n => rfl
      by_cases c17 : ax_ok v1 8 = true
      · rw [if_pos c17] at h
        refine ax_gt c17 s18 ?_
        have s20 : ∀ n, ax_ex (e + 6) L_X10_copy 14 [some (.inr (.inr (0, 0))), some (.inl v1), some (.inl v2), some (.inl v3), some (.inl v4), some (.inl v5), none, none] [.inr (.inr (8, (8 * 0 + v1.toNatClampNeg)))] m (n + 5) = if ax_ok v2 8 = true then ax_ex (e + 6) L_X10_copy 19 [some (.inr (.inr (0, 0))), some (.inl v1), some (.inl v2), some (.inl v3), some (.inl v4), some (.inl v5), some (.inr (.inr (8, (8 * 0 + v1.toNatClampNeg)))), none] [.inr (.inr (8, (8 * 0 + v2.toNatClampNeg)))] m n else none := fun n => rfl
        by_cases c19 : ax_ok v2 8 = true
        · rw [if_pos c19] at h
          refine ax_gt c19 s20 ?_
          obtain ⟨r22, q21, h⟩ := ax_b_of h
          have s82 : ∀ n, ax_ex (e + 6) L_X10_copy 19 [some (.inr (.inr (0, 0))), some (.inl v1), some (.inl v2), some (.inl v3), some (.inl v4), some (.inl v5), some (.inr (.inr (8, (8 * 0 + v1.toNatClampNeg)))), none] [.inr (.inr (8, (8 * 0 + v2.toNatClampNeg)))] m (n + 3) = ax_aft (fun s m2 => ax_ex (e + 6) L_X10_copy 22 [some (.inr (.inr (0, 0))), some (.inl v1), some (.inl v2), some (.inl v3), some (.inl v4), some (.inl v5), some (.inr (.inr (8, (8 * 0 + v1.toNatClampNeg)))), some (.inr (.inr (8, (8 * 0 + v2.toNatClampNeg))))] s m2 n) [] (ax_ex (e + 5) L_X7_holdsSeed 0 (ax_entry [.inr (.inr (8, (8 * 0 + v1.toNatClampNeg)))] 1) [] m n) := fun n => rfl
          refine ax_gci (j := 3) (k2 := 22) (lv2 := [some (.inr (.inr (0, 0))), some (.inl v1), some (.inl v2), some (.inl v3), some (.inl v4), some (.inl v5), some (.inr (.inr (8, (8 * 0 + v1.toNatClampNeg)))), some (.inr (.inr (8, (8 * 0 + v2.toNatClampNeg))))]) (rest := []) ((R_X7_holdsSeed (by omega) q21)) s82 ?_
          have s24 : ∀ n, ax_ex (e + 6) L_X10_copy 22 [some (.inr (.inr (0, 0))), some (.inl v1), some (.inl v2), some (.inl v3), some (.inl v4), some (.inl v5), some (.inr (.inr (8, (8 * 0 + v1.toNatClampNeg)))), some (.inr (.inr (8, (8 * 0 + v2.toNatClampNeg))))] [.inl r22] m (n + 1) = if r22 = 0 then ax_ex (e + 6) L_X10_copy 23 [some (.inr (.inr (0, 0))), some (.inl v1), some (.inl v2), some (.inl v3), some (.inl v4), some (.inl v5), some (.inr (.inr (8, (8 * 0 + v1.toNatClampNeg)))), some (.inr (.inr (8, (8 * 0 + v2.toNatClampNeg))))] [] m n else ax_ex (e + 6) L_X10_copy 26 [some (.inr (.inr (0, 0))), some (.inl v1), some (.inl v2), some (.inl v3), some (.inl v4), some (.inl v5), some (.inr (.inr (8, (8 * 0 + v1.toNatClampNeg)))), some (.inr (.inr (8, (8 * 0 + v2.toNatClampNeg))))] [] m n := fun n => rfl
          by_cases c23 : r22 = 0
          · rw [if_pos c23] at h
            refine ax_gt c23 s24 ?_
            obtain ⟨r26, q25, h⟩ := ax_b_of h
            have s77 : ∀ n, ax_ex (e + 6) L_X10_copy 23 [some (.inr (.inr (0, 0))), some (.inl v1), some (.inl v2), some (.inl v3), some (.inl v4), some (.inl v5), some (.inr (.inr (8, (8 * 0 + v1.toNatClampNeg)))), some (.inr (.inr (8, (8 * 0 + v2.toNatClampNeg))))] [] m (n + 2) = ax_aft (fun s m2 => ax_ex (e + 6) L_X10_copy 25 [some (.inr (.inr (0, 0))), some (.inl v1), some (.inl v2), some (.inl v3), some (.inl v4), some (.inl v5), some (.inr (.inr (8, (8 * 0 + v1.toNatClampNeg)))), some (.inr (.inr (8, (8 * 0 + v2.toNatClampNeg))))] s m2 n) [] (ax_ex (e + 5) L_X7_holdsSeed 0 (ax_entry [.inr (.inr (8, (8 * 0 + v2.toNatClampNeg)))] 1) [] m n) := fun n => rfl
            refine ax_gci (j := 2) (k2 := 25) (lv2 := [some (.inr (.inr (0, 0))), some (.inl v1), some (.inl v2), some (.inl v3), some (.inl v4), some (.inl v5), some (.inr (.inr (8, (8 * 0 + v1.toNatClampNeg)))), some (.inr (.inr (8, (8 * 0 + v2.toNatClampNeg))))]) (rest := []) ((R_X7_holdsSeed (by omega) q25)) s77 ?_
            have s28 : ∀ n, ax_ex (e + 6) L_X10_copy 25 [some (.inr (.inr (0, 0))), some (.inl v1), some (.inl v2), some (.inl v3), some (.inl v4), some (.inl v5), some (.inr (.inr (8, (8 * 0 + v1.toNatClampNeg)))), some (.inr (.inr (8, (8 * 0 + v2.toNatClampNeg))))] [.inl r26] m (n + 1) = if r26 = 0 then ax_ex (e + 6) L_X10_copy 30 [some (.inr (.inr (0, 0))), some (.inl v1), some (.inl v2), some (.inl v3), some (.inl v4), some (.inl v5), some (.inr (.inr (8, (8 * 0 + v1.toNatClampNeg)))), some (.inr (.inr (8, (8 * 0 + v2.toNatClampNeg))))] [] m n else ax_ex (e + 6) L_X10_copy 26 [some (.inr (.inr (0, 0))), some (.inl v1), some (.inl v2), some (.inl v3), some (.inl v4), some (.inl v5), some (.inr (.inr (8, (8 * 0 + v1.toNatClampNeg)))), some (.inr (.inr (8, (8 * 0 + v2.toNatClampNeg))))] [] m n := fun n => rfl
            by_cases c27 : r26 = 0
            · rw [if_pos c27] at h
              refine ax_gt c27 s28 ?_
              obtain ⟨r30, q29, h⟩ := ax_b_of h
              have s72 : ∀ n, ax_ex (e + 6) L_X10_copy 30 [some (.inr (.inr (0, 0))), some (.inl v1), some (.inl v2), some (.inl v3), some (.inl v4), some (.inl v5), some (.inr (.inr (8, (8 * 0 + v1.toNatClampNeg)))), some (.inr (.inr (8, (8 * 0 + v2.toNatClampNeg))))] [] m (n + 2) = ax_aft (fun s m2 => ax_ex (e + 6) L_X10_copy 32 [some (.inr (.inr (0, 0))), some (.inl v1), some (.inl v2), some (.inl v3), some (.inl v4), some (.inl v5), some (.inr (.inr (8, (8 * 0 + v1.toNatClampNeg)))), some (.inr (.inr (8, (8 * 0 + v2.toNatClampNeg))))] s m2 n) [] (ax_ex (e + 5) L_X7_isEmpty 0 (ax_entry [.inr (.inr (8, (8 * 0 + v1.toNatClampNeg)))] 1) [] m n) := fun n => rfl
              refine ax_gci (j := 2) (k2 := 32) (lv2 := [some (.inr (.inr (0, 0))), some (.inl v1), some (.inl v2), some (.inl v3), some (.inl v4), some (.inl v5), some (.inr (.inr (8, (8 * 0 + v1.toNatClampNeg)))), some (.inr (.inr (8, (8 * 0 + v2.toNatClampNeg))))]) (rest := []) ((R_X7_isEmpty (by omega) q29)) s72 ?_
              have s32 : ∀ n, ax_ex (e + 6) L_X10_copy 32 [some (.inr (.inr (0, 0))), some (.inl v1), some (.inl v2), some (.inl v3), some (.inl v4), some (.inl v5), some (.inr (.inr (8, (8 * 0 + v1.toNatClampNeg)))), some (.inr (.inr (8, (8 * 0 + v2.toNatClampNeg))))] [.inl r30] m (n + 1) = if r30 = 0 then ax_ex (e + 6) L_X10_copy 33 [some (.inr (.inr (0, 0))), some (.inl v1), some (.inl v2), some (.inl v3), some (.inl v4), some (.inl v5), some (.inr (.inr (8, (8 * 0 + v1.toNatClampNeg)))), some (.inr (.inr (8, (8 * 0 + v2.toNatClampNeg))))] [] m n else ax_ex (e + 6) L_X10_copy 36 [some (.inr (.inr (0, 0))), some (.inl v1), some (.inl v2), some (.inl v3), some (.inl v4), some (.inl v5), some (.inr (.inr (8, (8 * 0 + v1.toNatClampNeg)))), some (.inr (.inr (8, (8 * 0 + v2.toNatClampNeg))))] [] m n := fun n => rfl
              by_cases c31 : r30 = 0
              · rw [if_pos c31] at h
                refine ax_gt c31 s32 ?_
                obtain ⟨r34, q33, h⟩ := ax_b_of h
                have s67 : ∀ n, ax_ex (e + 6) L_X10_copy 33 [some (.inr (.inr (0, 0))), some (.inl v1), some (.inl v2), some (.inl v3), some (.inl v4), some (.inl v5), some (.inr (.inr (8, (8 * 0 + v1.toNatClampNeg)))), some (.inr (.inr (8, (8 * 0 + v2.toNatClampNeg))))] [] m (n + 2) = ax_aft (fun s m2 => ax_ex (e + 6) L_X10_copy 35 [some (.inr (.inr (0, 0))), some (.inl v1), some (.inl v2), some (.inl v3), some (.inl v4), some (.inl v5), some (.inr (.inr (8, (8 * 0 + v1.toNatClampNeg)))), some (.inr (.inr (8, (8 * 0 + v2.toNatClampNeg))))] s m2 n) [] (ax_ex (e + 5) L_X7_isEmpty 0 (ax_entry [.inr (.inr (8, (8 * 0 + v2.toNatClampNeg)))] 1) [] m n) := fun n => rfl
                refine ax_gci (j := 2) (k2 := 35) (lv2 := [some (.inr (.inr (0, 0))), some (.inl v1), some (.inl v2), some (.inl v3), some (.inl v4), some (.inl v5), some (.inr (.inr (8, (8 * 0 + v1.toNatClampNeg)))), some (.inr (.inr (8, (8 * 0 + v2.toNatClampNeg))))]) (rest := []) ((R_X7_isEmpty (by omega) q33)) s67 ?_
                have s36 : ∀ n, ax_ex (e + 6) L_X10_copy 35 [some (.inr (.inr (0, 0))), some (.inl v1), some (.inl v2), some (.inl v3), some (.inl v4), some (.inl v5), some (.inr (.inr (8, (8 * 0 + v1.toNatClampNeg)))), some (.inr (.inr (8, (8 * 0 + v2.toNatClampNeg))))] [.inl r34] m (n + 1) = if r34 = 0 then ax_ex (e + 6) L_X10_copy 40 [some (.inr (.inr (0, 0))), some (.inl v1), some (.inl v2), some (.inl v3), some (.inl v4), some (.inl v5), some (.inr (.inr (8, (8 * 0 + v1.toNatClampNeg)))), some (.inr (.inr (8, (8 * 0 + v2.toNatClampNeg))))] [] m n else ax_ex (e + 6) L_X10_copy 36 [some (.inr (.inr (0, 0))), some (.inl v1), some (.inl v2), some (.inl v3), some (.inl v4), some (.inl v5), some (.inr (.inr (8, (8 * 0 + v1.toNatClampNeg)))), some (.inr (.inr (8, (8 * 0 + v2.toNatClampNeg))))] [] m n := fun n => rfl
                by_cases c35 : r34 = 0
                · rw [if_pos c35] at h
                  refine ax_gt c35 s36 ?_
                  have s38 : ∀ n, ax_ex (e + 6) L_X10_copy 40 [some (.inr (.inr (0, 0))), some (.inl v1), some (.inl v2), some (.inl v3), some (.inl v4), some (.inl v5), some (.inr (.inr (8, (8 * 0 + v1.toNatClampNeg)))), some (.inr (.inr (8, (8 * 0 + v2.toNatClampNeg))))] [] m (n + 5) = if (m.1 8 (8 * 0 + v1.toNatClampNeg) 0) = (m.1 8 (8 * 0 + v2.toNatClampNeg) 0) then ax_ex (e + 6) L_X10_copy 49 [some (.inr (.inr (0, 0))), some (.inl v1), some (.inl v2), some (.inl v3), some (.inl v4), some (.inl v5), some (.inr (.inr (8, (8 * 0 + v1.toNatClampNeg)))), some (.inr (.inr (8, (8 * 0 + v2.toNatClampNeg))))] [] m n else ax_ex (e + 6) L_X10_copy 45 [some (.inr (.inr (0, 0))), some (.inl v1), some (.inl v2), some (.inl v3), some (.inl v4), some (.inl v5), some (.inr (.inr (8, (8 * 0 + v1.toNatClampNeg)))), some (.inr (.inr (8, (8 * 0 + v2.toNatClampNeg))))] [] m n := fun n => rfl
                  by_cases c37 : (m.1 8 (8 * 0 + v1.toNatClampNeg) 0) = (m.1 8 (8 * 0 + v2.toNatClampNeg) 0)
                  · rw [if_pos c37] at h
                    refine ax_gt c37 s38 ?_
                    obtain ⟨r40, q39, h⟩ := ax_b_of h
                    have s58 : ∀ n, ax_ex (e + 6) L_X10_copy 49 [some (.inr (.inr (0, 0))), some (.inl v1), some (.inl v2), some (.inl v3), some (.inl v4), some (.inl v5), some (.inr (.inr (8, (8 * 0 + v1.toNatClampNeg)))), some (.inr (.inr (8, (8 * 0 + v2.toNatClampNeg))))] [] m (n + 4) = ax_aft (fun s m2 => ax_ex (e + 6) L_X10_copy 53 [some (.inr (.inr (0, 0))), some (.inl v1), some (.inl v2), some (.inl v3), some (.inl v4), some (.inl v5), some (.inr (.inr (8, (8 * 0 + v1.toNatClampNeg)))), some (.inr (.inr (8, (8 * 0 + v2.toNatClampNeg))))] s m2 n) [] (ax_ex (e + 5) L_X7_hasElements 0 (ax_entry [.inr (.inr (8, (8 * 0 + v1.toNatClampNeg))), .inl v3, .inl v5] 3) [] m n) := fun n => rfl
                    refine ax_gci (j := 4) (k2 := 53) (lv2 := [some (.inr (.inr (0, 0))), some (.inl v1), some (.inl v2), some (.inl v3), some (.inl v4), some (.inl v5), some (.inr (.inr (8, (8 * 0 + v1.toNatClampNeg)))), some (.inr (.inr (8, (8 * 0 + v2.toNatClampNeg))))]) (rest := []) ((R_X7_hasElements (by omega) q39)) s58 ?_
                    have s42 : ∀ n, ax_ex (e + 6) L_X10_copy 53 [some (.inr (.inr (0, 0))), some (.inl v1), some (.inl v2), some (.inl v3), some (.inl v4), some (.inl v5), some (.inr (.inr (8, (8 * 0 + v1.toNatClampNeg)))), some (.inr (.inr (8, (8 * 0 + v2.toNatClampNeg))))] [.inl r40] m (n + 1) = if r40 = 0 then ax_ex (e + 6) L_X10_copy 59 [some (.inr (.inr (0, 0))), some (.inl v1), some (.inl v2), some (.inl v3), some (.inl v4), some (.inl v5), some (.inr (.inr (8, (8 * 0 + v1.toNatClampNeg)))), some (.inr (.inr (8, (8 * 0 + v2.toNatClampNeg))))] [] m n else ax_ex (e + 6) L_X10_copy 54 [some (.inr (.inr (0, 0))), some (.inl v1), some (.inl v2), some (.inl v3), some (.inl v4), some (.inl v5), some (.inr (.inr (8, (8 * 0 + v1.toNatClampNeg)))), some (.inr (.inr (8, (8 * 0 + v2.toNatClampNeg))))] [] m n := fun n => rfl
                    by_cases c41 : r40 = 0
                    · rw [if_pos c41] at h
                      refine ax_gt c41 s42 ?_
                      obtain ⟨r44, m45, q43, h⟩ := ax_b2_of h
                      have s46 : ∀ n, ax_ex (e + 6) L_X10_copy 59 [some (.inr (.inr (0, 0))), some (.inl v1), some (.inl v2), some (.inl v3), some (.inl v4), some (.inl v5), some (.inr (.inr (8, (8 * 0 + v1.toNatClampNeg)))), some (.inr (.inr (8, (8 * 0 + v2.toNatClampNeg))))] [] m (n + 3) = ax_aft (fun s m2 => ax_ex (e + 6) L_X10_copy 62 [some (.inr (.inr (0, 0))), some (.inl v1), some (.inl v2), some (.inl v3), some (.inl v4), some (.inl v5), some (.inr (.inr (8, (8 * 0 + v1.toNatClampNeg)))), some (.inr (.inr (8, (8 * 0 + v2.toNatClampNeg))))] s m2 n) [] (ax_ex (e + 5) L_X10_refuse 0 (ax_entry [.inr (.inr (0, 0)), .inl (-2)] 3) [] m n) := fun n => rfl
                      refine ax_gci (j := 3) (k2 := 62) (lv2 := [some (.inr (.inr (0, 0))), some (.inl v1), some (.inl v2), some (.inl v3), some (.inl v4), some (.inl v5), some (.inr (.inr (8, (8 * 0 + v1.toNatClampNeg)))), some (.inr (.inr (8, (8 * 0 + v2.toNatClampNeg))))]) (rest := []) ((R_X10_refuse (by omega) q43)) s46 ?_
                      obtain rfl := Option.some.inj h
                      exact ax_rs 1 (fun n => rfl)
                    · rw [if_neg c41] at h
                      refine ax_gf c41 s42 ?_
                      obtain ⟨r48, q47, h⟩ := ax_b_of h
                      have s57 : ∀ n, ax_ex (e + 6) L_X10_copy 54 [some (.inr (.inr (0, 0))), some (.inl v1), some (.inl v2), some (.inl v3), some (.inl v4), some (.inl v5), some (.inr (.inr (8, (8 * 0 + v1.toNatClampNeg)))), some (.inr (.inr (8, (8 * 0 + v2.toNatClampNeg))))] [] m (n + 4) = ax_aft (fun s m2 => ax_ex (e + 6) L_X10_copy 58 [some (.inr (.inr (0, 0))), some (.inl v1), some (.inl v2), some (.inl v3), some (.inl v4), some (.inl v5), some (.inr (.inr (8, (8 * 0 + v1.toNatClampNeg)))), some (.inr (.inr (8, (8 * 0 + v2.toNatClampNeg))))] s m2 n) [] (ax_ex (e + 5) L_X7_hasElements 0 (ax_entry [.inr (.inr (8, (8 * 0 + v2.toNatClampNeg))), .inl v4, .inl v5] 3) [] m n) := fun n => rfl
                      refine ax_gci (j := 4) (k2 := 58) (lv2 := [some (.inr (.inr (0, 0))), some (.inl v1), some (.inl v2), some (.inl v3), some (.inl v4), some (.inl v5), some (.inr (.inr (8, (8 * 0 + v1.toNatClampNeg)))), some (.inr (.inr (8, (8 * 0 + v2.toNatClampNeg))))]) (rest := []) ((R_X7_hasElements (by omega) q47)) s57 ?_
                      have s50 : ∀ n, ax_ex (e + 6) L_X10_copy 58 [some (.inr (.inr (0, 0))), some (.inl v1), some (.inl v2), some (.inl v3), some (.inl v4), some (.inl v5), some (.inr (.inr (8, (8 * 0 + v1.toNatClampNeg)))), some (.inr (.inr (8, (8 * 0 + v2.toNatClampNeg))))] [.inl r48] m (n + 1) = if r48 = 0 then ax_ex (e + 6) L_X10_copy 59 [some (.inr (.inr (0, 0))), some (.inl v1), some (.inl v2), some (.inl v3), some (.inl v4), some (.inl v5), some (.inr (.inr (8, (8 * 0 + v1.toNatClampNeg)))), some (.inr (.inr (8, (8 * 0 + v2.toNatClampNeg))))] [] m n else ax_ex (e + 6) L_X10_copy 63 [some (.inr (.inr (0, 0))), some (.inl v1), some (.inl v2), some (.inl v3), some (.inl v4), some (.inl v5), some (.inr (.inr (8, (8 * 0 + v1.toNatClampNeg)))), some (.inr (.inr (8, (8 * 0 + v2.toNatClampNeg))))] [] m n := fun n => rfl
                      by_cases c49 : r48 = 0
                      · rw [if_pos c49] at h
                        refine ax_gt c49 s50 ?_
                        obtain ⟨r52, m53, q51, h⟩ := ax_b2_of h
                        have s54 : ∀ n, ax_ex (e + 6) L_X10_copy 59 [some (.inr (.inr (0, 0))), some (.inl v1), some (.inl v2), some (.inl v3), some (.inl v4), some (.inl v5), some (.inr (.inr (8, (8 * 0 + v1.toNatClampNeg)))), some (.inr (.inr (8, (8 * 0 + v2.toNatClampNeg))))] [] m (n + 3) = ax_aft (fun s m2 => ax_ex (e + 6) L_X10_copy 62 [some (.inr (.inr (0, 0))), some (.inl v1), some (.inl v2), some (.inl v3), some (.inl v4), some (.inl v5), some (.inr (.inr (8, (8 * 0 + v1.toNatClampNeg)))), some (.inr (.inr (8, (8 * 0 + v2.toNatClampNeg))))] s m2 n) [] (ax_ex (e + 5) L_X10_refuse 0 (ax_entry [.inr (.inr (0, 0)), .inl (-2)] 3) [] m n) := fun n => rfl
                        refine ax_gci (j := 3) (k2 := 62) (lv2 := [some (.inr (.inr (0, 0))), some (.inl v1), some (.inl v2), some (.inl v3), some (.inl v4), some (.inl v5), some (.inr (.inr (8, (8 * 0 + v1.toNatClampNeg)))), some (.inr (.inr (8, (8 * 0 + v2.toNatClampNeg))))]) (rest := []) ((R_X10_refuse (by omega) q51)) s54 ?_
                        obtain rfl := Option.some.inj h
                        exact ax_rs 1 (fun n => rfl)
                      · rw [if_neg c49] at h
                        refine ax_gf c49 s50 ?_
                        have s56 : ∀ n, ax_ex (e + 6) L_X10_copy 63 [some (.inr (.inr (0, 0))), some (.inl v1), some (.inl v2), some (.inl v3), some (.inl v4), some (.inl v5), some (.inr (.inr (8, (8 * 0 + v1.toNatClampNeg)))), some (.inr (.inr (8, (8 * 0 + v2.toNatClampNeg))))] [] m (n + 8) = ax_aft (fun s m2 => ax_ex (e + 6) L_X10_copy 71 [some (.inr (.inr (0, 0))), some (.inl v1), some (.inl v2), some (.inl v3), some (.inl v4), some (.inl v5), some (.inr (.inr (8, (8 * 0 + v1.toNatClampNeg)))), some (.inr (.inr (8, (8 * 0 + v2.toNatClampNeg))))] s m2 n) [] (if 0 ≤ v3.toInt ∧ 0 ≤ v4.toInt ∧ 0 ≤ v5.toInt ∧ v3.toInt + v5.toInt ≤ 40 ∧ v4.toInt + v5.toInt ≤ 40 then some (none, (ax_cpl m 9 (8 * 0 + v1.toNatClampNeg) 9 (8 * 0 + v2.toNatClampNeg) v3.toNatClampNeg v4.toNatClampNeg v5.toNatClampNeg)) else none) := fun n => rfl
                        by_cases c55 : 0 ≤ v3.toInt ∧ 0 ≤ v4.toInt ∧ 0 ≤ v5.toInt ∧ v3.toInt + v5.toInt ≤ 40 ∧ v4.toInt + v5.toInt ≤ 40
                        · rw [if_pos c55] at h
                          refine ax_go (j := 8) (k2 := 71) (lv2 := [some (.inr (.inr (0, 0))), some (.inl v1), some (.inl v2), some (.inl v3), some (.inl v4), some (.inl v5), some (.inr (.inr (8, (8 * 0 + v1.toNatClampNeg)))), some (.inr (.inr (8, (8 * 0 + v2.toNatClampNeg))))]) (st2 := []) (m2 := (ax_cpl m 9 (8 * 0 + v1.toNatClampNeg) 9 (8 * 0 + v2.toNatClampNeg) v3.toNatClampNeg v4.toNatClampNeg v5.toNatClampNeg)) (fun n => by rw [s56 n, if_pos c55]; rfl) ?_
                          obtain rfl := Option.some.inj h
                          exact ax_rs 2 (fun n => rfl)
                        · rw [if_neg c55] at h
                          cases h
                  · rw [if_neg c37] at h
                    refine ax_gf c37 s38 ?_
                    obtain ⟨r60, m61, q59, h⟩ := ax_b2_of h
                    have s62 : ∀ n, ax_ex (e + 6) L_X10_copy 45 [some (.inr (.inr (0, 0))), some (.inl v1), some (.inl v2), some (.inl v3), some (.inl v4), some (.inl v5), some (.inr (.inr (8, (8 * 0 + v1.toNatClampNeg)))), some (.inr (.inr (8, (8 * 0 + v2.toNatClampNeg))))] [] m (n + 3) = ax_aft (fun s m2 => ax_ex (e + 6) L_X10_copy 48 [some (.inr (.inr (0, 0))), some (.inl v1), some (.inl v2), some (.inl v3), some (.inl v4), some (.inl v5), some (.inr (.inr (8, (8 * 0 + v1.toNatClampNeg)))), some (.inr (.inr (8, (8 * 0 + v2.toNatClampNeg))))] s m2 n) [] (ax_ex (e + 5) L_X10_refuse 0 (ax_entry [.inr (.inr (0, 0)), .inl (-3)] 3) [] m n) := fun n => rfl
                    refine ax_gci (j := 3) (k2 := 48) (lv2 := [some (.inr (.inr (0, 0))), some (.inl v1), some (.inl v2), some (.inl v3), some (.inl v4), some (.inl v5), some (.inr (.inr (8, (8 * 0 + v1.toNatClampNeg)))), some (.inr (.inr (8, (8 * 0 + v2.toNatClampNeg))))]) (rest := []) ((R_X10_refuse (by omega) q59)) s62 ?_
                    obtain rfl := Option.some.inj h
                    exact ax_rs 1 (fun n => rfl)
                · rw [if_neg c35] at h
                  refine ax_gf c35 s36 ?_
                  obtain ⟨r64, m65, q63, h⟩ := ax_b2_of h
                  have s66 : ∀ n, ax_ex (e + 6) L_X10_copy 36 [some (.inr (.inr (0, 0))), some (.inl v1), some (.inl v2), some (.inl v3), some (.inl v4), some (.inl v5), some (.inr (.inr (8, (8 * 0 + v1.toNatClampNeg)))), some (.inr (.inr (8, (8 * 0 + v2.toNatClampNeg))))] [] m (n + 3) = ax_aft (fun s m2 => ax_ex (e + 6) L_X10_copy 39 [some (.inr (.inr (0, 0))), some (.inl v1), some (.inl v2), some (.inl v3), some (.inl v4), some (.inl v5), some (.inr (.inr (8, (8 * 0 + v1.toNatClampNeg)))), some (.inr (.inr (8, (8 * 0 + v2.toNatClampNeg))))] s m2 n) [] (ax_ex (e + 5) L_X10_refuse 0 (ax_entry [.inr (.inr (0, 0)), .inl (-4)] 3) [] m n) := fun n => rfl
                  refine ax_gci (j := 3) (k2 := 39) (lv2 := [some (.inr (.inr (0, 0))), some (.inl v1), some (.inl v2), some (.inl v3), some (.inl v4), some (.inl v5), some (.inr (.inr (8, (8 * 0 + v1.toNatClampNeg)))), some (.inr (.inr (8, (8 * 0 + v2.toNatClampNeg))))]) (rest := []) ((R_X10_refuse (by omega) q63)) s66 ?_
                  obtain rfl := Option.some.inj h
                  exact ax_rs 1 (fun n => rfl)
              · rw [if_neg c31] at h
                refine ax_gf c31 s32 ?_
                obtain ⟨r69, m70, q68, h⟩ := ax_b2_of h
                have s71 : ∀ n, ax_ex (e + 6) L_X10_copy 36 [some (.inr (.inr (0, 0))), some (.inl v1), some (.inl v2), some (.inl v3), some (.inl v4), some (.inl v5), some (.inr (.inr (8, (8 * 0 + v1.toNatClampNeg)))), some (.inr (.inr (8, (8 * 0 + v2.toNatClampNeg))))] [] m (n + 3) = ax_aft (fun s m2 => ax_ex (e + 6) L_X10_copy 39 [some (.inr (.inr (0, 0))), some (.inl v1), some (.inl v2), some (.inl v3), some (.inl v4), some (.inl v5), some (.inr (.inr (8, (8 * 0 + v1.toNatClampNeg)))), some (.inr (.inr (8, (8 * 0 + v2.toNatClampNeg))))] s m2 n) [] (ax_ex (e + 5) L_X10_refuse 0 (ax_entry [.inr (.inr (0, 0)), .inl (-4)] 3) [] m n) := fun n => rfl
                refine ax_gci (j := 3) (k2 := 39) (lv2 := [some (.inr (.inr (0, 0))), some (.inl v1), some (.inl v2), some (.inl v3), some (.inl v4), some (.inl v5), some (.inr (.inr (8, (8 * 0 + v1.toNatClampNeg)))), some (.inr (.inr (8, (8 * 0 + v2.toNatClampNeg))))]) (rest := []) ((R_X10_refuse (by omega) q68)) s71 ?_
                obtain rfl := Option.some.inj h
                exact ax_rs 1 (fun n => rfl)
            · rw [if_neg c27] at h
              refine ax_gf c27 s28 ?_
              obtain ⟨r74, m75, q73, h⟩ := ax_b2_of h
              have s76 : ∀ n, ax_ex (e + 6) L_X10_copy 26 [some (.inr (.inr (0, 0))), some (.inl v1), some (.inl v2), some (.inl v3), some (.inl v4), some (.inl v5), some (.inr (.inr (8, (8 * 0 + v1.toNatClampNeg)))), some (.inr (.inr (8, (8 * 0 + v2.toNatClampNeg))))] [] m (n + 3) = ax_aft (fun s m2 => ax_ex (e + 6) L_X10_copy 29 [some (.inr (.inr (0, 0))), some (.inl v1), some (.inl v2), some (.inl v3), some (.inl v4), some (.inl v5), some (.inr (.inr (8, (8 * 0 + v1.toNatClampNeg)))), some (.inr (.inr (8, (8 * 0 + v2.toNatClampNeg))))] s m2 n) [] (ax_ex (e + 5) L_X10_refuse 0 (ax_entry [.inr (.inr (0, 0)), .inl (-3)] 3) [] m n) := fun n => rfl
              refine ax_gci (j := 3) (k2 := 29) (lv2 := [some (.inr (.inr (0, 0))), some (.inl v1), some (.inl v2), some (.inl v3), some (.inl v4), some (.inl v5), some (.inr (.inr (8, (8 * 0 + v1.toNatClampNeg)))), some (.inr (.inr (8, (8 * 0 + v2.toNatClampNeg))))]) (rest := []) ((R_X10_refuse (by omega) q73)) s76 ?_
              obtain rfl := Option.some.inj h
              exact ax_rs 1 (fun n => rfl)
          · rw [if_neg c23] at h
            refine ax_gf c23 s24 ?_
            obtain ⟨r79, m80, q78, h⟩ := ax_b2_of h
            have s81 : ∀ n, ax_ex (e + 6) L_X10_copy 26 [some (.inr (.inr (0, 0))), some (.inl v1), some (.inl v2), some (.inl v3), some (.inl v4), some (.inl v5), some (.inr (.inr (8, (8 * 0 + v1.toNatClampNeg)))), some (.inr (.inr (8, (8 * 0 + v2.toNatClampNeg))))] [] m (n + 3) = ax_aft (fun s m2 => ax_ex (e + 6) L_X10_copy 29 [some (.inr (.inr (0, 0))), some (.inl v1), some (.inl v2), some (.inl v3), some (.inl v4), some (.inl v5), some (.inr (.inr (8, (8 * 0 + v1.toNatClampNeg)))), some (.inr (.inr (8, (8 * 0 + v2.toNatClampNeg))))] s m2 n) [] (ax_ex (e + 5) L_X10_refuse 0 (ax_entry [.inr (.inr (0, 0)), .inl (-3)] 3) [] m n) := fun n => rfl
            refine ax_gci (j := 3) (k2 := 29) (lv2 := [some (.inr (.inr (0, 0))), some (.inl v1), some (.inl v2), some (.inl v3), some (.inl v4), some (.inl v5), some (.inr (.inr (8, (8 * 0 + v1.toNatClampNeg)))), some (.inr (.inr (8, (8 * 0 + v2.toNatClampNeg))))]) (rest := []) ((R_X10_refuse (by omega) q78)) s81 ?_
            obtain rfl := Option.some.inj h
            exact ax_rs 1 (fun n => rfl)
        · rw [if_neg c19] at h
          cases h
      · rw [if_neg c17] at h
        cases h
def F_X10_element (m : ax_M) (v1 : Int32) (v2 : Int32) : Option Int64 := ax_b (F_X10_isShelf v1) (fun r2 => if r2 = 0 then (some 0) else (if ax_ok v1 8 = true then (ax_b (F_X7_hasElement m (8 * 0 + v1.toNatClampNeg) v2) (fun r8 => if r8 = 0 then (some 0) else (if ax_ok v1 8 = true then (if ax_ok v2 40 = true then (some (m.2 9 (8 * 0 + v1.toNatClampNeg) v2.toNatClampNeg)) else (none)) else (none)))) else (none)))
set_option maxRecDepth 20000 in
set_option maxHeartbeats 4000000 in
theorem R_X10_element {d : Nat} (hd : 2 ≤ d) {m : ax_M} {v1 : Int32} {v2 : Int32} {q : Int64} (h : F_X10_element m v1 v2 = some q) : ax_Ru d L_X10_element 0 (ax_entry [.inr (.inr (0, 0)), .inl v1, .inl v2] 3) [] m (some (.inr (.inl q)), m) := by
  obtain ⟨e, rfl⟩ : ∃ e, d = e + 2 := ⟨d - 2, by omega⟩
  unfold F_X10_element at h
  obtain ⟨r2, q1, h⟩ := ax_b_of h
  have s16 : ∀ n, ax_ex (e + 2) L_X10_element 0 (ax_entry [.inr (.inr (0, 0)), .inl v1, .inl v2] 3) [] m (n + 2) = ax_aft (fun s m2 => ax_ex (e + 2) L_X10_element 2 [some (.inr (.inr (0, 0))), some (.inl v1), some (.inl v2)] s m2 n) [] (ax_ex (e + 1) L_X10_isShelf 0 (ax_entry [.inl v1] 1) [] m n) := fun n => rfl
  refine ax_gci (j := 2) (k2 := 2) (lv2 := [some (.inr (.inr (0, 0))), some (.inl v1), some (.inl v2)]) (rest := []) ((R_X10_isShelf (by omega) q1)) s16 ?_
  have s4 : ∀ n, ax_ex (e + 2) L_X10_element 2 [some (.inr (.inr (0, 0))), some (.inl v1), some (.inl v2)] [.inl r2] m (n + 1) = if r2 = 0 then ax_ex (e + 2) L_X10_element 10 [some (.inr (.inr (0, 0))), some (.inl v1), some (.inl v2)] [] m n else ax_ex (e + 2) L_X10_element 3 [some (.inr (.inr (0, 0))), some (.inl v1), some (.inl v2)] [] m n := fun n => rfl
  by_cases c3 : r2 = 0
  · rw [if_pos c3] at h
    refine ax_gt c3 s4 ?_
    obtain rfl := Option.some.inj h
    exact ax_rs 2 (fun n => rfl)
  · rw [if_neg c3] at h
    refine ax_gf c3 s4 ?_
    have s6 : ∀ n, ax_ex (e + 2) L_X10_element 3 [some (.inr (.inr (0, 0))), some (.inl v1), some (.inl v2)] [] m (n + 4) = if ax_ok v1 8 = true then ax_ex (e + 2) L_X10_element 7 [some (.inr (.inr (0, 0))), some (.inl v1), some (.inl v2)] [.inr (.inr (8, (8 * 0 + v1.toNatClampNeg)))] m n else none := fun n => rfl
    by_cases c5 : ax_ok v1 8 = true
    · rw [if_pos c5] at h
      refine ax_gt c5 s6 ?_
      obtain ⟨r8, q7, h⟩ := ax_b_of h
      have s15 : ∀ n, ax_ex (e + 2) L_X10_element 7 [some (.inr (.inr (0, 0))), some (.inl v1), some (.inl v2)] [.inr (.inr (8, (8 * 0 + v1.toNatClampNeg)))] m (n + 2) = ax_aft (fun s m2 => ax_ex (e + 2) L_X10_element 9 [some (.inr (.inr (0, 0))), some (.inl v1), some (.inl v2)] s m2 n) [] (ax_ex (e + 1) L_X7_hasElement 0 (ax_entry [.inr (.inr (8, (8 * 0 + v1.toNatClampNeg))), .inl v2] 2) [] m n) := fun n => rfl
      refine ax_gci (j := 2) (k2 := 9) (lv2 := [some (.inr (.inr (0, 0))), some (.inl v1), some (.inl v2)]) (rest := []) ((R_X7_hasElement (by omega) q7)) s15 ?_
      have s10 : ∀ n, ax_ex (e + 2) L_X10_element 9 [some (.inr (.inr (0, 0))), some (.inl v1), some (.inl v2)] [.inl r8] m (n + 1) = if r8 = 0 then ax_ex (e + 2) L_X10_element 10 [some (.inr (.inr (0, 0))), some (.inl v1), some (.inl v2)] [] m n else ax_ex (e + 2) L_X10_element 12 [some (.inr (.inr (0, 0))), some (.inl v1), some (.inl v2)] [] m n := fun n => rfl
      by_cases c9 : r8 = 0
      · rw [if_pos c9] at h
        refine ax_gt c9 s10 ?_
        obtain rfl := Option.some.inj h
        exact ax_rs 2 (fun n => rfl)
      · rw [if_neg c9] at h
        refine ax_gf c9 s10 ?_
        have s12 : ∀ n, ax_ex (e + 2) L_X10_element 12 [some (.inr (.inr (0, 0))), some (.inl v1), some (.inl v2)] [] m (n + 4) = if ax_ok v1 8 = true then ax_ex (e + 2) L_X10_element 16 [some (.inr (.inr (0, 0))), some (.inl v1), some (.inl v2)] [.inr (.inr (8, (8 * 0 + v1.toNatClampNeg)))] m n else none := fun n => rfl
        by_cases c11 : ax_ok v1 8 = true
        · rw [if_pos c11] at h
          refine ax_gt c11 s12 ?_
          have s14 : ∀ n, ax_ex (e + 2) L_X10_element 16 [some (.inr (.inr (0, 0))), some (.inl v1), some (.inl v2)] [.inr (.inr (8, (8 * 0 + v1.toNatClampNeg)))] m (n + 3) = if ax_ok v2 40 = true then ax_ex (e + 2) L_X10_element 19 [some (.inr (.inr (0, 0))), some (.inl v1), some (.inl v2)] [.inr (.inl (m.2 9 (8 * 0 + v1.toNatClampNeg) v2.toNatClampNeg))] m n else none := fun n => rfl
          by_cases c13 : ax_ok v2 40 = true
          · rw [if_pos c13] at h
            refine ax_gt c13 s14 ?_
            obtain rfl := Option.some.inj h
            exact ax_rs 1 (fun n => rfl)
          · rw [if_neg c13] at h
            cases h
        · rw [if_neg c11] at h
          cases h
    · rw [if_neg c5] at h
      cases h
def F_X10_holds (m : ax_M) (v1 : Int32) : Option Int32 := ax_b (F_X10_isShelf v1) (fun r2 => if r2 = 0 then (some (-1)) else (if ax_ok v1 8 = true then (some (m.1 8 (8 * 0 + v1.toNatClampNeg) 0)) else (none)))
set_option maxRecDepth 20000 in
set_option maxHeartbeats 4000000 in
theorem R_X10_holds {d : Nat} (hd : 2 ≤ d) {m : ax_M} {v1 : Int32} {q : Int32} (h : F_X10_holds m v1 = some q) : ax_Ru d L_X10_holds 0 (ax_entry [.inr (.inr (0, 0)), .inl v1] 2) [] m (some (.inl q), m) := by
  obtain ⟨e, rfl⟩ : ∃ e, d = e + 2 := ⟨d - 2, by omega⟩
  unfold F_X10_holds at h
  obtain ⟨r2, q1, h⟩ := ax_b_of h
  have s7 : ∀ n, ax_ex (e + 2) L_X10_holds 0 (ax_entry [.inr (.inr (0, 0)), .inl v1] 2) [] m (n + 2) = ax_aft (fun s m2 => ax_ex (e + 2) L_X10_holds 2 [some (.inr (.inr (0, 0))), some (.inl v1)] s m2 n) [] (ax_ex (e + 1) L_X10_isShelf 0 (ax_entry [.inl v1] 1) [] m n) := fun n => rfl
  refine ax_gci (j := 2) (k2 := 2) (lv2 := [some (.inr (.inr (0, 0))), some (.inl v1)]) (rest := []) ((R_X10_isShelf (by omega) q1)) s7 ?_
  have s4 : ∀ n, ax_ex (e + 2) L_X10_holds 2 [some (.inr (.inr (0, 0))), some (.inl v1)] [.inl r2] m (n + 1) = if r2 = 0 then ax_ex (e + 2) L_X10_holds 9 [some (.inr (.inr (0, 0))), some (.inl v1)] [] m n else ax_ex (e + 2) L_X10_holds 3 [some (.inr (.inr (0, 0))), some (.inl v1)] [] m n := fun n => rfl
  by_cases c3 : r2 = 0
  · rw [if_pos c3] at h
    refine ax_gt c3 s4 ?_
    obtain rfl := Option.some.inj h
    exact ax_rs 2 (fun n => rfl)
  · rw [if_neg c3] at h
    refine ax_gf c3 s4 ?_
    have s6 : ∀ n, ax_ex (e + 2) L_X10_holds 3 [some (.inr (.inr (0, 0))), some (.inl v1)] [] m (n + 4) = if ax_ok v1 8 = true then ax_ex (e + 2) L_X10_holds 7 [some (.inr (.inr (0, 0))), some (.inl v1)] [.inr (.inr (8, (8 * 0 + v1.toNatClampNeg)))] m n else none := fun n => rfl
    by_cases c5 : ax_ok v1 8 = true
    · rw [if_pos c5] at h
      refine ax_gt c5 s6 ?_
      obtain rfl := Option.some.inj h
      exact ax_rs 3 (fun n => rfl)
    · rw [if_neg c5] at h
      cases h
def F_X10_show (m : ax_M) (v1 : Int32) (v2 : Int32) : Option (Int32 × ax_M) := ax_b (F_X10_isShelf v1) (fun r2 => if r2 = 0 then (ax_b2 (F_X10_refuse m (-2)) (fun r6 m7 => some (r6, m7))) else (if v2 = (-1) then (if v2 = (-1) then (if ax_ok v1 8 = true then (ax_b (F_X7_clear m (8 * 0 + v1.toNatClampNeg)) (fun m17 => some (1, m17))) else (none)) else (if ax_ok v1 8 = true then (ax_b (F_X7_takeSeed m (8 * 0 + v1.toNatClampNeg) v2) (fun m23 => some (1, m23))) else (none))) else (ax_b (F_X3_isSeed m 0 v2) (fun r26 => if r26 = 0 then (ax_b2 (F_X10_refuse m (-2)) (fun r30 m31 => some (r30, m31))) else (if v2 = (-1) then (if ax_ok v1 8 = true then (ax_b (F_X7_clear m (8 * 0 + v1.toNatClampNeg)) (fun m39 => some (1, m39))) else (none)) else (if ax_ok v1 8 = true then (ax_b (F_X7_takeSeed m (8 * 0 + v1.toNatClampNeg) v2) (fun m45 => some (1, m45))) else (none)))))))
set_option maxRecDepth 20000 in
set_option maxHeartbeats 4000000 in
theorem R_X10_show {d : Nat} (hd : 2 ≤ d) {m : ax_M} {v1 : Int32} {v2 : Int32} {q : (Int32 × ax_M)} (h : F_X10_show m v1 v2 = some q) : ax_Ru d L_X10_show 0 (ax_entry [.inr (.inr (0, 0)), .inl v1, .inl v2] 3) [] m (some (.inl q.1), q.2) := by
  obtain ⟨e, rfl⟩ : ∃ e, d = e + 2 := ⟨d - 2, by omega⟩
  unfold F_X10_show at h
  obtain ⟨r2, q1, h⟩ := ax_b_of h
  have s48 : ∀ n, ax_ex (e + 2) L_X10_show 0 (ax_entry [.inr (.inr (0, 0)), .inl v1, .inl v2] 3) [] m (n + 2) = ax_aft (fun s m2 => ax_ex (e + 2) L_X10_show 2 [some (.inr (.inr (0, 0))), some (.inl v1), some (.inl v2)] s m2 n) [] (ax_ex (e + 1) L_X10_isShelf 0 (ax_entry [.inl v1] 1) [] m n) := fun n => rfl
  refine ax_gci (j := 2) (k2 := 2) (lv2 := [some (.inr (.inr (0, 0))), some (.inl v1), some (.inl v2)]) (rest := []) ((R_X10_isShelf (by omega) q1)) s48 ?_
  have s4 : ∀ n, ax_ex (e + 2) L_X10_show 2 [some (.inr (.inr (0, 0))), some (.inl v1), some (.inl v2)] [.inl r2] m (n + 1) = if r2 = 0 then ax_ex (e + 2) L_X10_show 11 [some (.inr (.inr (0, 0))), some (.inl v1), some (.inl v2)] [] m n else ax_ex (e + 2) L_X10_show 3 [some (.inr (.inr (0, 0))), some (.inl v1), some (.inl v2)] [] m n := fun n => rfl
  by_cases c3 : r2 = 0
  · rw [if_pos c3] at h
    refine ax_gt c3 s4 ?_
    obtain ⟨r6, m7, q5, h⟩ := ax_b2_of h
    have s8 : ∀ n, ax_ex (e + 2) L_X10_show 11 [some (.inr (.inr (0, 0))), some (.inl v1), some (.inl v2)] [] m (n + 3) = ax_aft (fun s m2 => ax_ex (e + 2) L_X10_show 14 [some (.inr (.inr (0, 0))), some (.inl v1), some (.inl v2)] s m2 n) [] (ax_ex (e + 1) L_X10_refuse 0 (ax_entry [.inr (.inr (0, 0)), .inl (-2)] 3) [] m n) := fun n => rfl
    refine ax_gci (j := 3) (k2 := 14) (lv2 := [some (.inr (.inr (0, 0))), some (.inl v1), some (.inl v2)]) (rest := []) ((R_X10_refuse (by omega) q5)) s8 ?_
    obtain rfl := Option.some.inj h
    exact ax_rs 1 (fun n => rfl)
  · rw [if_neg c3] at h
    refine ax_gf c3 s4 ?_
    have s10 : ∀ n, ax_ex (e + 2) L_X10_show 3 [some (.inr (.inr (0, 0))), some (.inl v1), some (.inl v2)] [] m (n + 3) = if v2 = (-1) then ax_ex (e + 2) L_X10_show 15 [some (.inr (.inr (0, 0))), some (.inl v1), some (.inl v2)] [] m n else ax_ex (e + 2) L_X10_show 6 [some (.inr (.inr (0, 0))), some (.inl v1), some (.inl v2)] [] m n := fun n => rfl
    by_cases c9 : v2 = (-1)
    · rw [if_pos c9] at h
      refine ax_gt c9 s10 ?_
      have s12 : ∀ n, ax_ex (e + 2) L_X10_show 15 [some (.inr (.inr (0, 0))), some (.inl v1), some (.inl v2)] [] m (n + 3) = if v2 = (-1) then ax_ex (e + 2) L_X10_show 18 [some (.inr (.inr (0, 0))), some (.inl v1), some (.inl v2)] [] m n else ax_ex (e + 2) L_X10_show 24 [some (.inr (.inr (0, 0))), some (.inl v1), some (.inl v2)] [] m n := fun n => rfl
      by_cases c11 : v2 = (-1)
      · rw [if_pos c11] at h
        refine ax_gt c11 s12 ?_
        have s14 : ∀ n, ax_ex (e + 2) L_X10_show 18 [some (.inr (.inr (0, 0))), some (.inl v1), some (.inl v2)] [] m (n + 4) = if ax_ok v1 8 = true then ax_ex (e + 2) L_X10_show 22 [some (.inr (.inr (0, 0))), some (.inl v1), some (.inl v2)] [.inr (.inr (8, (8 * 0 + v1.toNatClampNeg)))] m n else none := fun n => rfl
        by_cases c13 : ax_ok v1 8 = true
        · rw [if_pos c13] at h
          refine ax_gt c13 s14 ?_
          obtain ⟨m17, q15, h⟩ := ax_b_of h
          have s18 : ∀ n, ax_ex (e + 2) L_X10_show 22 [some (.inr (.inr (0, 0))), some (.inl v1), some (.inl v2)] [.inr (.inr (8, (8 * 0 + v1.toNatClampNeg)))] m (n + 1) = ax_aft (fun s m2 => ax_ex (e + 2) L_X10_show 23 [some (.inr (.inr (0, 0))), some (.inl v1), some (.inl v2)] s m2 n) [] (ax_ex (e + 1) L_X7_clear 0 (ax_entry [.inr (.inr (8, (8 * 0 + v1.toNatClampNeg)))] 1) [] m n) := fun n => rfl
          refine ax_gcv (j := 1) (k2 := 23) (lv2 := [some (.inr (.inr (0, 0))), some (.inl v1), some (.inl v2)]) (rest := []) ((R_X7_clear (by omega) q15)) s18 ?_
          obtain rfl := Option.some.inj h
          exact ax_rs 3 (fun n => rfl)
        · rw [if_neg c13] at h
          cases h
      · rw [if_neg c11] at h
        refine ax_gf c11 s12 ?_
        have s20 : ∀ n, ax_ex (e + 2) L_X10_show 24 [some (.inr (.inr (0, 0))), some (.inl v1), some (.inl v2)] [] m (n + 4) = if ax_ok v1 8 = true then ax_ex (e + 2) L_X10_show 28 [some (.inr (.inr (0, 0))), some (.inl v1), some (.inl v2)] [.inr (.inr (8, (8 * 0 + v1.toNatClampNeg)))] m n else none := fun n => rfl
        by_cases c19 : ax_ok v1 8 = true
        · rw [if_pos c19] at h
          refine ax_gt c19 s20 ?_
          obtain ⟨m23, q21, h⟩ := ax_b_of h
          have s24 : ∀ n, ax_ex (e + 2) L_X10_show 28 [some (.inr (.inr (0, 0))), some (.inl v1), some (.inl v2)] [.inr (.inr (8, (8 * 0 + v1.toNatClampNeg)))] m (n + 2) = ax_aft (fun s m2 => ax_ex (e + 2) L_X10_show 30 [some (.inr (.inr (0, 0))), some (.inl v1), some (.inl v2)] s m2 n) [] (ax_ex (e + 1) L_X7_takeSeed 0 (ax_entry [.inr (.inr (8, (8 * 0 + v1.toNatClampNeg))), .inl v2] 2) [] m n) := fun n => rfl
          refine ax_gcv (j := 2) (k2 := 30) (lv2 := [some (.inr (.inr (0, 0))), some (.inl v1), some (.inl v2)]) (rest := []) ((R_X7_takeSeed (by omega) q21)) s24 ?_
          obtain rfl := Option.some.inj h
          exact ax_rs 2 (fun n => rfl)
        · rw [if_neg c19] at h
          cases h
    · rw [if_neg c9] at h
      refine ax_gf c9 s10 ?_
      obtain ⟨r26, q25, h⟩ := ax_b_of h
      have s47 : ∀ n, ax_ex (e + 2) L_X10_show 6 [some (.inr (.inr (0, 0))), some (.inl v1), some (.inl v2)] [] m (n + 4) = ax_aft (fun s m2 => ax_ex (e + 2) L_X10_show 10 [some (.inr (.inr (0, 0))), some (.inl v1), some (.inl v2)] s m2 n) [] (ax_ex (e + 1) L_X3_isSeed 0 (ax_entry [.inr (.inr (1, 0)), .inl v2] 2) [] m n) := fun n => rfl
      refine ax_gci (j := 4) (k2 := 10) (lv2 := [some (.inr (.inr (0, 0))), some (.inl v1), some (.inl v2)]) (rest := []) ((R_X3_isSeed (by omega) q25)) s47 ?_
      have s28 : ∀ n, ax_ex (e + 2) L_X10_show 10 [some (.inr (.inr (0, 0))), some (.inl v1), some (.inl v2)] [.inl r26] m (n + 1) = if r26 = 0 then ax_ex (e + 2) L_X10_show 11 [some (.inr (.inr (0, 0))), some (.inl v1), some (.inl v2)] [] m n else ax_ex (e + 2) L_X10_show 15 [some (.inr (.inr (0, 0))), some (.inl v1), some (.inl v2)] [] m n := fun n => rfl
      by_cases c27 : r26 = 0
      · rw [if_pos c27] at h
        refine ax_gt c27 s28 ?_
        obtain ⟨r30, m31, q29, h⟩ := ax_b2_of h
        have s32 : ∀ n, ax_ex (e + 2) L_X10_show 11 [some (.inr (.inr (0, 0))), some (.inl v1), some (.inl v2)] [] m (n + 3) = ax_aft (fun s m2 => ax_ex (e + 2) L_X10_show 14 [some (.inr (.inr (0, 0))), some (.inl v1), some (.inl v2)] s m2 n) [] (ax_ex (e + 1) L_X10_refuse 0 (ax_entry [.inr (.inr (0, 0)), .inl (-2)] 3) [] m n) := fun n => rfl
        refine ax_gci (j := 3) (k2 := 14) (lv2 := [some (.inr (.inr (0, 0))), some (.inl v1), some (.inl v2)]) (rest := []) ((R_X10_refuse (by omega) q29)) s32 ?_
        obtain rfl := Option.some.inj h
        exact ax_rs 1 (fun n => rfl)
      · rw [if_neg c27] at h
        refine ax_gf c27 s28 ?_
        have s34 : ∀ n, ax_ex (e + 2) L_X10_show 15 [some (.inr (.inr (0, 0))), some (.inl v1), some (.inl v2)] [] m (n + 3) = if v2 = (-1) then ax_ex (e + 2) L_X10_show 18 [some (.inr (.inr (0, 0))), some (.inl v1), some (.inl v2)] [] m n else ax_ex (e + 2) L_X10_show 24 [some (.inr (.inr (0, 0))), some (.inl v1), some (.inl v2)] [] m n := fun n => rfl
        by_cases c33 : v2 = (-1)
        · rw [if_pos c33] at h
          refine ax_gt c33 s34 ?_
          have s36 : ∀ n, ax_ex (e + 2) L_X10_show 18 [some (.inr (.inr (0, 0))), some (.inl v1), some (.inl v2)] [] m (n + 4) = if ax_ok v1 8 = true then ax_ex (e + 2) L_X10_show 22 [some (.inr (.inr (0, 0))), some (.inl v1), some (.inl v2)] [.inr (.inr (8, (8 * 0 + v1.toNatClampNeg)))] m n else none := fun n => rfl
          by_cases c35 : ax_ok v1 8 = true
          · rw [if_pos c35] at h
            refine ax_gt c35 s36 ?_
            obtain ⟨m39, q37, h⟩ := ax_b_of h
            have s40 : ∀ n, ax_ex (e + 2) L_X10_show 22 [some (.inr (.inr (0, 0))), some (.inl v1), some (.inl v2)] [.inr (.inr (8, (8 * 0 + v1.toNatClampNeg)))] m (n + 1) = ax_aft (fun s m2 => ax_ex (e + 2) L_X10_show 23 [some (.inr (.inr (0, 0))), some (.inl v1), some (.inl v2)] s m2 n) [] (ax_ex (e + 1) L_X7_clear 0 (ax_entry [.inr (.inr (8, (8 * 0 + v1.toNatClampNeg)))] 1) [] m n) := fun n => rfl
            refine ax_gcv (j := 1) (k2 := 23) (lv2 := [some (.inr (.inr (0, 0))), some (.inl v1), some (.inl v2)]) (rest := []) ((R_X7_clear (by omega) q37)) s40 ?_
            obtain rfl := Option.some.inj h
            exact ax_rs 3 (fun n => rfl)
          · rw [if_neg c35] at h
            cases h
        · rw [if_neg c33] at h
          refine ax_gf c33 s34 ?_
          have s42 : ∀ n, ax_ex (e + 2) L_X10_show 24 [some (.inr (.inr (0, 0))), some (.inl v1), some (.inl v2)] [] m (n + 4) = if ax_ok v1 8 = true then ax_ex (e + 2) L_X10_show 28 [some (.inr (.inr (0, 0))), some (.inl v1), some (.inl v2)] [.inr (.inr (8, (8 * 0 + v1.toNatClampNeg)))] m n else none := fun n => rfl
          by_cases c41 : ax_ok v1 8 = true
          · rw [if_pos c41] at h
            refine ax_gt c41 s42 ?_
            obtain ⟨m45, q43, h⟩ := ax_b_of h
            have s46 : ∀ n, ax_ex (e + 2) L_X10_show 28 [some (.inr (.inr (0, 0))), some (.inl v1), some (.inl v2)] [.inr (.inr (8, (8 * 0 + v1.toNatClampNeg)))] m (n + 2) = ax_aft (fun s m2 => ax_ex (e + 2) L_X10_show 30 [some (.inr (.inr (0, 0))), some (.inl v1), some (.inl v2)] s m2 n) [] (ax_ex (e + 1) L_X7_takeSeed 0 (ax_entry [.inr (.inr (8, (8 * 0 + v1.toNatClampNeg))), .inl v2] 2) [] m n) := fun n => rfl
            refine ax_gcv (j := 2) (k2 := 30) (lv2 := [some (.inr (.inr (0, 0))), some (.inl v1), some (.inl v2)]) (rest := []) ((R_X7_takeSeed (by omega) q43)) s46 ?_
            obtain rfl := Option.some.inj h
            exact ax_rs 2 (fun n => rfl)
          · rw [if_neg c41] at h
            cases h
def F_X10_saysAs (m : ax_M) (g1 : Nat) (v2 : Int32) : Option Int32 := if v2 = 0 then (some (m.1 6 g1 3)) else (if v2 = 1 then (ax_b (F_X6_span m g1) (fun r5 => some r5)) else (if v2 = 2 then (ax_b (F_X6_span m g1) (fun r9 => some r9)) else (if v2 = 3 then (ax_b (F_X6_price m g1) (fun r13 => some r13)) else (if v2 = 4 then (ax_b (F_X3_debtors m 0) (fun r17 => some r17)) else (ax_b (F_X6_price m g1) (fun r20 => some r20))))))
set_option maxRecDepth 20000 in
set_option maxHeartbeats 4000000 in
theorem R_X10_saysAs {d : Nat} (hd : 7 ≤ d) {m : ax_M} {g1 : Nat} {v2 : Int32} {q : Int32} (h : F_X10_saysAs m g1 v2 = some q) : ax_Ru d L_X10_saysAs 0 (ax_entry [.inr (.inr (0, 0)), .inr (.inr (6, g1)), .inl v2] 3) [] m (some (.inl q), m) := by
  obtain ⟨e, rfl⟩ : ∃ e, d = e + 7 := ⟨d - 7, by omega⟩
  unfold F_X10_saysAs at h
  have s1 : ∀ n, ax_ex (e + 7) L_X10_saysAs 0 (ax_entry [.inr (.inr (0, 0)), .inr (.inr (6, g1)), .inl v2] 3) [] m (n + 2) = (if v2 = 0 then ax_ex (e + 7) L_X10_saysAs 2 [some (.inr (.inr (0, 0))), some (.inr (.inr (6, g1))), some (.inl v2)] [] m n else (if v2 = 1 then ax_ex (e + 7) L_X10_saysAs 5 [some (.inr (.inr (0, 0))), some (.inr (.inr (6, g1))), some (.inl v2)] [] m n else (if v2 = 2 then ax_ex (e + 7) L_X10_saysAs 5 [some (.inr (.inr (0, 0))), some (.inr (.inr (6, g1))), some (.inl v2)] [] m n else (if v2 = 3 then ax_ex (e + 7) L_X10_saysAs 12 [some (.inr (.inr (0, 0))), some (.inr (.inr (6, g1))), some (.inl v2)] [] m n else (if v2 = 4 then ax_ex (e + 7) L_X10_saysAs 8 [some (.inr (.inr (0, 0))), some (.inr (.inr (6, g1))), some (.inl v2)] [] m n else ax_ex (e + 7) L_X10_saysAs 12 [some (.inr (.inr (0, 0))), some (.inr (.inr (6, g1))), some (.inl v2)] [] m n))))) := fun n => rfl
  by_cases c2 : v2 = 0
  · rw [if_pos c2] at h
    refine ax_go (j := 2) (k2 := 2) (lv2 := [some (.inr (.inr (0, 0))), some (.inr (.inr (6, g1))), some (.inl v2)]) (st2 := []) (m2 := m) (fun n => (s1 n).trans (if_pos c2)) ?_
    obtain rfl := Option.some.inj h
    exact ax_rs 3 (fun n => rfl)
  · rw [if_neg c2] at h
    by_cases c3 : v2 = 1
    · rw [if_pos c3] at h
      refine ax_go (j := 2) (k2 := 5) (lv2 := [some (.inr (.inr (0, 0))), some (.inr (.inr (6, g1))), some (.inl v2)]) (st2 := []) (m2 := m) (fun n => ((s1 n).trans (if_neg c2)).trans (if_pos c3)) ?_
      obtain ⟨r5, q4, h⟩ := ax_b_of h
      have s6 : ∀ n, ax_ex (e + 7) L_X10_saysAs 5 [some (.inr (.inr (0, 0))), some (.inr (.inr (6, g1))), some (.inl v2)] [] m (n + 2) = ax_aft (fun s m2 => ax_ex (e + 7) L_X10_saysAs 7 [some (.inr (.inr (0, 0))), some (.inr (.inr (6, g1))), some (.inl v2)] s m2 n) [] (ax_ex (e + 6) L_X6_span 0 (ax_entry [.inr (.inr (6, g1))] 1) [] m n) := fun n => rfl
      refine ax_gci (j := 2) (k2 := 7) (lv2 := [some (.inr (.inr (0, 0))), some (.inr (.inr (6, g1))), some (.inl v2)]) (rest := []) ((R_X6_span (by omega) q4)) s6 ?_
      obtain rfl := Option.some.inj h
      exact ax_rs 1 (fun n => rfl)
    · rw [if_neg c3] at h
      by_cases c7 : v2 = 2
      · rw [if_pos c7] at h
        refine ax_go (j := 2) (k2 := 5) (lv2 := [some (.inr (.inr (0, 0))), some (.inr (.inr (6, g1))), some (.inl v2)]) (st2 := []) (m2 := m) (fun n => (((s1 n).trans (if_neg c2)).trans (if_neg c3)).trans (if_pos c7)) ?_
        obtain ⟨r9, q8, h⟩ := ax_b_of h
        have s10 : ∀ n, ax_ex (e + 7) L_X10_saysAs 5 [some (.inr (.inr (0, 0))), some (.inr (.inr (6, g1))), some (.inl v2)] [] m (n + 2) = ax_aft (fun s m2 => ax_ex (e + 7) L_X10_saysAs 7 [some (.inr (.inr (0, 0))), some (.inr (.inr (6, g1))), some (.inl v2)] s m2 n) [] (ax_ex (e + 6) L_X6_span 0 (ax_entry [.inr (.inr (6, g1))] 1) [] m n) := fun n => rfl
        refine ax_gci (j := 2) (k2 := 7) (lv2 := [some (.inr (.inr (0, 0))), some (.inr (.inr (6, g1))), some (.inl v2)]) (rest := []) ((R_X6_span (by omega) q8)) s10 ?_
        obtain rfl := Option.some.inj h
        exact ax_rs 1 (fun n => rfl)
      · rw [if_neg c7] at h
        by_cases c11 : v2 = 3
        · rw [if_pos c11] at h
          refine ax_go (j := 2) (k2 := 12) (lv2 := [some (.inr (.inr (0, 0))), some (.inr (.inr (6, g1))), some (.inl v2)]) (st2 := []) (m2 := m) (fun n => ((((s1 n).trans (if_neg c2)).trans (if_neg c3)).trans (if_neg c7)).trans (if_pos c11)) ?_
          obtain ⟨r13, q12, h⟩ := ax_b_of h
          have s14 : ∀ n, ax_ex (e + 7) L_X10_saysAs 12 [some (.inr (.inr (0, 0))), some (.inr (.inr (6, g1))), some (.inl v2)] [] m (n + 2) = ax_aft (fun s m2 => ax_ex (e + 7) L_X10_saysAs 14 [some (.inr (.inr (0, 0))), some (.inr (.inr (6, g1))), some (.inl v2)] s m2 n) [] (ax_ex (e + 6) L_X6_price 0 (ax_entry [.inr (.inr (6, g1))] 1) [] m n) := fun n => rfl
          refine ax_gci (j := 2) (k2 := 14) (lv2 := [some (.inr (.inr (0, 0))), some (.inr (.inr (6, g1))), some (.inl v2)]) (rest := []) ((R_X6_price (by omega) q12)) s14 ?_
          obtain rfl := Option.some.inj h
          exact ax_rs 1 (fun n => rfl)
        · rw [if_neg c11] at h
          by_cases c15 : v2 = 4
          · rw [if_pos c15] at h
            refine ax_go (j := 2) (k2 := 8) (lv2 := [some (.inr (.inr (0, 0))), some (.inr (.inr (6, g1))), some (.inl v2)]) (st2 := []) (m2 := m) (fun n => (((((s1 n).trans (if_neg c2)).trans (if_neg c3)).trans (if_neg c7)).trans (if_neg c11)).trans (if_pos c15)) ?_
            obtain ⟨r17, q16, h⟩ := ax_b_of h
            have s18 : ∀ n, ax_ex (e + 7) L_X10_saysAs 8 [some (.inr (.inr (0, 0))), some (.inr (.inr (6, g1))), some (.inl v2)] [] m (n + 3) = ax_aft (fun s m2 => ax_ex (e + 7) L_X10_saysAs 11 [some (.inr (.inr (0, 0))), some (.inr (.inr (6, g1))), some (.inl v2)] s m2 n) [] (ax_ex (e + 6) L_X3_debtors 0 (ax_entry [.inr (.inr (1, 0))] 3) [] m n) := fun n => rfl
            refine ax_gci (j := 3) (k2 := 11) (lv2 := [some (.inr (.inr (0, 0))), some (.inr (.inr (6, g1))), some (.inl v2)]) (rest := []) ((R_X3_debtors (by omega) q16)) s18 ?_
            obtain rfl := Option.some.inj h
            exact ax_rs 1 (fun n => rfl)
          · rw [if_neg c15] at h
            refine ax_go (j := 2) (k2 := 12) (lv2 := [some (.inr (.inr (0, 0))), some (.inr (.inr (6, g1))), some (.inl v2)]) (st2 := []) (m2 := m) (fun n => ((((((s1 n).trans (if_neg c2)).trans (if_neg c3)).trans (if_neg c7)).trans (if_neg c11)).trans (if_neg c15))) ?_
            obtain ⟨r20, q19, h⟩ := ax_b_of h
            have s21 : ∀ n, ax_ex (e + 7) L_X10_saysAs 12 [some (.inr (.inr (0, 0))), some (.inr (.inr (6, g1))), some (.inl v2)] [] m (n + 2) = ax_aft (fun s m2 => ax_ex (e + 7) L_X10_saysAs 14 [some (.inr (.inr (0, 0))), some (.inr (.inr (6, g1))), some (.inl v2)] s m2 n) [] (ax_ex (e + 6) L_X6_price 0 (ax_entry [.inr (.inr (6, g1))] 1) [] m n) := fun n => rfl
            refine ax_gci (j := 2) (k2 := 14) (lv2 := [some (.inr (.inr (0, 0))), some (.inr (.inr (6, g1))), some (.inl v2)]) (rest := []) ((R_X6_price (by omega) q19)) s21 ?_
            obtain rfl := Option.some.inj h
            exact ax_rs 1 (fun n => rfl)
def F_X10_says (m : ax_M) (v1 : Int32) (v2 : Int32) : Option (Int32 × ax_M) := ax_b (F_X10_isShelf v1) (fun r2 => if r2 = 0 then (ax_b2 (F_X10_refuse m (-2)) (fun r6 m7 => some (r6, m7))) else (ax_b (F_X6_isKind v2) (fun r10 => if r10 = 0 then (ax_b2 (F_X10_refuse m (-2)) (fun r14 m15 => some (r14, m15))) else (if ax_ok v1 8 = true then (ax_b (F_X7_isEmpty m (8 * 0 + v1.toNatClampNeg)) (fun r20 => if r20 = 0 then (ax_b (F_X7_seedNumber m (8 * 0 + v1.toNatClampNeg)) (fun r24 => ax_b (F_X3_isSeed m 0 r24) (fun r26 => if r26 = 0 then (ax_b2 (F_X10_refuse m (-3)) (fun r30 m31 => some (r30, m31))) else (if ax_ok r24 16 = true then (ax_b (F_X6_isOf m (16 * 0 + r24.toNatClampNeg) v2) (fun r36 => if r36 = 0 then (ax_b2 (F_X10_refuse m (-3)) (fun r40 m41 => some (r40, m41))) else (if ax_ok r24 16 = true then (ax_b (F_X10_saysAs m (16 * 0 + r24.toNatClampNeg) v2) (fun r46 => some (r46, m))) else (none)))) else (none))))) else (ax_b2 (F_X10_refuse m (-4)) (fun r52 m53 => some (r52, m53))))) else (none)))))
set_option maxRecDepth 20000 in
set_option maxHeartbeats 4000000 in
theorem R_X10_says {d : Nat} (hd : 8 ≤ d) {m : ax_M} {v1 : Int32} {v2 : Int32} {q : (Int32 × ax_M)} (h : F_X10_says m v1 v2 = some q) : ax_Ru d L_X10_says 0 (ax_entry [.inr (.inr (0, 0)), .inl v1, .inl v2] 5) [] m (some (.inl q.1), q.2) := by
  obtain ⟨e, rfl⟩ : ∃ e, d = e + 8 := ⟨d - 8, by omega⟩
  unfold F_X10_says at h
  obtain ⟨r2, q1, h⟩ := ax_b_of h
  have s57 : ∀ n, ax_ex (e + 8) L_X10_says 0 (ax_entry [.inr (.inr (0, 0)), .inl v1, .inl v2] 5) [] m (n + 2) = ax_aft (fun s m2 => ax_ex (e + 8) L_X10_says 2 [some (.inr (.inr (0, 0))), some (.inl v1), some (.inl v2), none, none] s m2 n) [] (ax_ex (e + 7) L_X10_isShelf 0 (ax_entry [.inl v1] 1) [] m n) := fun n => rfl
  refine ax_gci (j := 2) (k2 := 2) (lv2 := [some (.inr (.inr (0, 0))), some (.inl v1), some (.inl v2), none, none]) (rest := []) ((R_X10_isShelf (by omega) q1)) s57 ?_
  have s4 : ∀ n, ax_ex (e + 8) L_X10_says 2 [some (.inr (.inr (0, 0))), some (.inl v1), some (.inl v2), none, none] [.inl r2] m (n + 1) = if r2 = 0 then ax_ex (e + 8) L_X10_says 6 [some (.inr (.inr (0, 0))), some (.inl v1), some (.inl v2), none, none] [] m n else ax_ex (e + 8) L_X10_says 3 [some (.inr (.inr (0, 0))), some (.inl v1), some (.inl v2), none, none] [] m n := fun n => rfl
  by_cases c3 : r2 = 0
  · rw [if_pos c3] at h
    refine ax_gt c3 s4 ?_
    obtain ⟨r6, m7, q5, h⟩ := ax_b2_of h
    have s8 : ∀ n, ax_ex (e + 8) L_X10_says 6 [some (.inr (.inr (0, 0))), some (.inl v1), some (.inl v2), none, none] [] m (n + 3) = ax_aft (fun s m2 => ax_ex (e + 8) L_X10_says 9 [some (.inr (.inr (0, 0))), some (.inl v1), some (.inl v2), none, none] s m2 n) [] (ax_ex (e + 7) L_X10_refuse 0 (ax_entry [.inr (.inr (0, 0)), .inl (-2)] 3) [] m n) := fun n => rfl
    refine ax_gci (j := 3) (k2 := 9) (lv2 := [some (.inr (.inr (0, 0))), some (.inl v1), some (.inl v2), none, none]) (rest := []) ((R_X10_refuse (by omega) q5)) s8 ?_
    obtain rfl := Option.some.inj h
    exact ax_rs 1 (fun n => rfl)
  · rw [if_neg c3] at h
    refine ax_gf c3 s4 ?_
    obtain ⟨r10, q9, h⟩ := ax_b_of h
    have s56 : ∀ n, ax_ex (e + 8) L_X10_says 3 [some (.inr (.inr (0, 0))), some (.inl v1), some (.inl v2), none, none] [] m (n + 2) = ax_aft (fun s m2 => ax_ex (e + 8) L_X10_says 5 [some (.inr (.inr (0, 0))), some (.inl v1), some (.inl v2), none, none] s m2 n) [] (ax_ex (e + 7) L_X6_isKind 0 (ax_entry [.inl v2] 1) [] m n) := fun n => rfl
    refine ax_gci (j := 2) (k2 := 5) (lv2 := [some (.inr (.inr (0, 0))), some (.inl v1), some (.inl v2), none, none]) (rest := []) ((R_X6_isKind (by omega) q9)) s56 ?_
    have s12 : ∀ n, ax_ex (e + 8) L_X10_says 5 [some (.inr (.inr (0, 0))), some (.inl v1), some (.inl v2), none, none] [.inl r10] m (n + 1) = if r10 = 0 then ax_ex (e + 8) L_X10_says 6 [some (.inr (.inr (0, 0))), some (.inl v1), some (.inl v2), none, none] [] m n else ax_ex (e + 8) L_X10_says 10 [some (.inr (.inr (0, 0))), some (.inl v1), some (.inl v2), none, none] [] m n := fun n => rfl
    by_cases c11 : r10 = 0
    · rw [if_pos c11] at h
      refine ax_gt c11 s12 ?_
      obtain ⟨r14, m15, q13, h⟩ := ax_b2_of h
      have s16 : ∀ n, ax_ex (e + 8) L_X10_says 6 [some (.inr (.inr (0, 0))), some (.inl v1), some (.inl v2), none, none] [] m (n + 3) = ax_aft (fun s m2 => ax_ex (e + 8) L_X10_says 9 [some (.inr (.inr (0, 0))), some (.inl v1), some (.inl v2), none, none] s m2 n) [] (ax_ex (e + 7) L_X10_refuse 0 (ax_entry [.inr (.inr (0, 0)), .inl (-2)] 3) [] m n) := fun n => rfl
      refine ax_gci (j := 3) (k2 := 9) (lv2 := [some (.inr (.inr (0, 0))), some (.inl v1), some (.inl v2), none, none]) (rest := []) ((R_X10_refuse (by omega) q13)) s16 ?_
      obtain rfl := Option.some.inj h
      exact ax_rs 1 (fun n => rfl)
    · rw [if_neg c11] at h
      refine ax_gf c11 s12 ?_
      have s18 : ∀ n, ax_ex (e + 8) L_X10_says 10 [some (.inr (.inr (0, 0))), some (.inl v1), some (.inl v2), none, none] [] m (n + 4) = if ax_ok v1 8 = true then ax_ex (e + 8) L_X10_says 14 [some (.inr (.inr (0, 0))), some (.inl v1), some (.inl v2), none, none] [.inr (.inr (8, (8 * 0 + v1.toNatClampNeg)))] m n else none := fun n => rfl
      by_cases c17 : ax_ok v1 8 = true
      · rw [if_pos c17] at h
        refine ax_gt c17 s18 ?_
        obtain ⟨r20, q19, h⟩ := ax_b_of h
        have s55 : ∀ n, ax_ex (e + 8) L_X10_says 14 [some (.inr (.inr (0, 0))), some (.inl v1), some (.inl v2), none, none] [.inr (.inr (8, (8 * 0 + v1.toNatClampNeg)))] m (n + 3) = ax_aft (fun s m2 => ax_ex (e + 8) L_X10_says 17 [some (.inr (.inr (0, 0))), some (.inl v1), some (.inl v2), some (.inr (.inr (8, (8 * 0 + v1.toNatClampNeg)))), none] s m2 n) [] (ax_ex (e + 7) L_X7_isEmpty 0 (ax_entry [.inr (.inr (8, (8 * 0 + v1.toNatClampNeg)))] 1) [] m n) := fun n => rfl
        refine ax_gci (j := 3) (k2 := 17) (lv2 := [some (.inr (.inr (0, 0))), some (.inl v1), some (.inl v2), some (.inr (.inr (8, (8 * 0 + v1.toNatClampNeg)))), none]) (rest := []) ((R_X7_isEmpty (by omega) q19)) s55 ?_
        have s22 : ∀ n, ax_ex (e + 8) L_X10_says 17 [some (.inr (.inr (0, 0))), some (.inl v1), some (.inl v2), some (.inr (.inr (8, (8 * 0 + v1.toNatClampNeg)))), none] [.inl r20] m (n + 1) = if r20 = 0 then ax_ex (e + 8) L_X10_says 22 [some (.inr (.inr (0, 0))), some (.inl v1), some (.inl v2), some (.inr (.inr (8, (8 * 0 + v1.toNatClampNeg)))), none] [] m n else ax_ex (e + 8) L_X10_says 18 [some (.inr (.inr (0, 0))), some (.inl v1), some (.inl v2), some (.inr (.inr (8, (8 * 0 + v1.toNatClampNeg)))), none] [] m n := fun n => rfl
        by_cases c21 : r20 = 0
        · rw [if_pos c21] at h
          refine ax_gt c21 s22 ?_
          obtain ⟨r24, q23, h⟩ := ax_b_of h
          have s50 : ∀ n, ax_ex (e + 8) L_X10_says 22 [some (.inr (.inr (0, 0))), some (.inl v1), some (.inl v2), some (.inr (.inr (8, (8 * 0 + v1.toNatClampNeg)))), none] [] m (n + 2) = ax_aft (fun s m2 => ax_ex (e + 8) L_X10_says 24 [some (.inr (.inr (0, 0))), some (.inl v1), some (.inl v2), some (.inr (.inr (8, (8 * 0 + v1.toNatClampNeg)))), none] s m2 n) [] (ax_ex (e + 7) L_X7_seedNumber 0 (ax_entry [.inr (.inr (8, (8 * 0 + v1.toNatClampNeg)))] 1) [] m n) := fun n => rfl
          refine ax_gci (j := 2) (k2 := 24) (lv2 := [some (.inr (.inr (0, 0))), some (.inl v1), some (.inl v2), some (.inr (.inr (8, (8 * 0 + v1.toNatClampNeg)))), none]) (rest := []) ((R_X7_seedNumber (by omega) q23)) s50 ?_
          obtain ⟨r26, q25, h⟩ := ax_b_of h
          have s49 : ∀ n, ax_ex (e + 8) L_X10_says 24 [some (.inr (.inr (0, 0))), some (.inl v1), some (.inl v2), some (.inr (.inr (8, (8 * 0 + v1.toNatClampNeg)))), none] [.inl r24] m (n + 5) = ax_aft (fun s m2 => ax_ex (e + 8) L_X10_says 29 [some (.inr (.inr (0, 0))), some (.inl v1), some (.inl v2), some (.inr (.inr (8, (8 * 0 + v1.toNatClampNeg)))), some (.inl r24)] s m2 n) [] (ax_ex (e + 7) L_X3_isSeed 0 (ax_entry [.inr (.inr (1, 0)), .inl r24] 2) [] m n) := fun n => rfl
          refine ax_gci (j := 5) (k2 := 29) (lv2 := [some (.inr (.inr (0, 0))), some (.inl v1), some (.inl v2), some (.inr (.inr (8, (8 * 0 + v1.toNatClampNeg)))), some (.inl r24)]) (rest := []) ((R_X3_isSeed (by omega) q25)) s49 ?_
          have s28 : ∀ n, ax_ex (e + 8) L_X10_says 29 [some (.inr (.inr (0, 0))), some (.inl v1), some (.inl v2), some (.inr (.inr (8, (8 * 0 + v1.toNatClampNeg)))), some (.inl r24)] [.inl r26] m (n + 1) = if r26 = 0 then ax_ex (e + 8) L_X10_says 38 [some (.inr (.inr (0, 0))), some (.inl v1), some (.inl v2), some (.inr (.inr (8, (8 * 0 + v1.toNatClampNeg)))), some (.inl r24)] [] m n else ax_ex (e + 8) L_X10_says 30 [some (.inr (.inr (0, 0))), some (.inl v1), some (.inl v2), some (.inr (.inr (8, (8 * 0 + v1.toNatClampNeg)))), some (.inl r24)] [] m n := fun n => rfl
          by_cases c27 : r26 = 0
          · rw [if_pos c27] at h
            refine ax_gt c27 s28 ?_
            obtain ⟨r30, m31, q29, h⟩ := ax_b2_of h
            have s32 : ∀ n, ax_ex (e + 8) L_X10_says 38 [some (.inr (.inr (0, 0))), some (.inl v1), some (.inl v2), some (.inr (.inr (8, (8 * 0 + v1.toNatClampNeg)))), some (.inl r24)] [] m (n + 3) = ax_aft (fun s m2 => ax_ex (e + 8) L_X10_says 41 [some (.inr (.inr (0, 0))), some (.inl v1), some (.inl v2), some (.inr (.inr (8, (8 * 0 + v1.toNatClampNeg)))), some (.inl r24)] s m2 n) [] (ax_ex (e + 7) L_X10_refuse 0 (ax_entry [.inr (.inr (0, 0)), .inl (-3)] 3) [] m n) := fun n => rfl
            refine ax_gci (j := 3) (k2 := 41) (lv2 := [some (.inr (.inr (0, 0))), some (.inl v1), some (.inl v2), some (.inr (.inr (8, (8 * 0 + v1.toNatClampNeg)))), some (.inl r24)]) (rest := []) ((R_X10_refuse (by omega) q29)) s32 ?_
            obtain rfl := Option.some.inj h
            exact ax_rs 1 (fun n => rfl)
          · rw [if_neg c27] at h
            refine ax_gf c27 s28 ?_
            have s34 : ∀ n, ax_ex (e + 8) L_X10_says 30 [some (.inr (.inr (0, 0))), some (.inl v1), some (.inl v2), some (.inr (.inr (8, (8 * 0 + v1.toNatClampNeg)))), some (.inl r24)] [] m (n + 5) = if ax_ok r24 16 = true then ax_ex (e + 8) L_X10_says 35 [some (.inr (.inr (0, 0))), some (.inl v1), some (.inl v2), some (.inr (.inr (8, (8 * 0 + v1.toNatClampNeg)))), some (.inl r24)] [.inr (.inr (6, (16 * 0 + r24.toNatClampNeg)))] m n else none := fun n => rfl
            by_cases c33 : ax_ok r24 16 = true
            · rw [if_pos c33] at h
              refine ax_gt c33 s34 ?_
              obtain ⟨r36, q35, h⟩ := ax_b_of h
              have s48 : ∀ n, ax_ex (e + 8) L_X10_says 35 [some (.inr (.inr (0, 0))), some (.inl v1), some (.inl v2), some (.inr (.inr (8, (8 * 0 + v1.toNatClampNeg)))), some (.inl r24)] [.inr (.inr (6, (16 * 0 + r24.toNatClampNeg)))] m (n + 2) = ax_aft (fun s m2 => ax_ex (e + 8) L_X10_says 37 [some (.inr (.inr (0, 0))), some (.inl v1), some (.inl v2), some (.inr (.inr (8, (8 * 0 + v1.toNatClampNeg)))), some (.inl r24)] s m2 n) [] (ax_ex (e + 7) L_X6_isOf 0 (ax_entry [.inr (.inr (6, (16 * 0 + r24.toNatClampNeg))), .inl v2] 4) [] m n) := fun n => rfl
              refine ax_gci (j := 2) (k2 := 37) (lv2 := [some (.inr (.inr (0, 0))), some (.inl v1), some (.inl v2), some (.inr (.inr (8, (8 * 0 + v1.toNatClampNeg)))), some (.inl r24)]) (rest := []) ((R_X6_isOf (by omega) q35)) s48 ?_
              have s38 : ∀ n, ax_ex (e + 8) L_X10_says 37 [some (.inr (.inr (0, 0))), some (.inl v1), some (.inl v2), some (.inr (.inr (8, (8 * 0 + v1.toNatClampNeg)))), some (.inl r24)] [.inl r36] m (n + 1) = if r36 = 0 then ax_ex (e + 8) L_X10_says 38 [some (.inr (.inr (0, 0))), some (.inl v1), some (.inl v2), some (.inr (.inr (8, (8 * 0 + v1.toNatClampNeg)))), some (.inl r24)] [] m n else ax_ex (e + 8) L_X10_says 42 [some (.inr (.inr (0, 0))), some (.inl v1), some (.inl v2), some (.inr (.inr (8, (8 * 0 + v1.toNatClampNeg)))), some (.inl r24)] [] m n := fun n => rfl
              by_cases c37 : r36 = 0
              · rw [if_pos c37] at h
                refine ax_gt c37 s38 ?_
                obtain ⟨r40, m41, q39, h⟩ := ax_b2_of h
                have s42 : ∀ n, ax_ex (e + 8) L_X10_says 38 [some (.inr (.inr (0, 0))), some (.inl v1), some (.inl v2), some (.inr (.inr (8, (8 * 0 + v1.toNatClampNeg)))), some (.inl r24)] [] m (n + 3) = ax_aft (fun s m2 => ax_ex (e + 8) L_X10_says 41 [some (.inr (.inr (0, 0))), some (.inl v1), some (.inl v2), some (.inr (.inr (8, (8 * 0 + v1.toNatClampNeg)))), some (.inl r24)] s m2 n) [] (ax_ex (e + 7) L_X10_refuse 0 (ax_entry [.inr (.inr (0, 0)), .inl (-3)] 3) [] m n) := fun n => rfl
                refine ax_gci (j := 3) (k2 := 41) (lv2 := [some (.inr (.inr (0, 0))), some (.inl v1), some (.inl v2), some (.inr (.inr (8, (8 * 0 + v1.toNatClampNeg)))), some (.inl r24)]) (rest := []) ((R_X10_refuse (by omega) q39)) s42 ?_
                obtain rfl := Option.some.inj h
                exact ax_rs 1 (fun n => rfl)
              · rw [if_neg c37] at h
                refine ax_gf c37 s38 ?_
                have s44 : ∀ n, ax_ex (e + 8) L_X10_says 42 [some (.inr (.inr (0, 0))), some (.inl v1), some (.inl v2), some (.inr (.inr (8, (8 * 0 + v1.toNatClampNeg)))), some (.inl r24)] [] m (n + 6) = if ax_ok r24 16 = true then ax_ex (e + 8) L_X10_says 48 [some (.inr (.inr (0, 0))), some (.inl v1), some (.inl v2), some (.inr (.inr (8, (8 * 0 + v1.toNatClampNeg)))), some (.inl r24)] [.inr (.inr (6, (16 * 0 + r24.toNatClampNeg))), .inr (.inr (0, 0))] m n else none := fun n => rfl
                by_cases c43 : ax_ok r24 16 = true
                · rw [if_pos c43] at h
                  refine ax_gt c43 s44 ?_
                  obtain ⟨r46, q45, h⟩ := ax_b_of h
                  have s47 : ∀ n, ax_ex (e + 8) L_X10_says 48 [some (.inr (.inr (0, 0))), some (.inl v1), some (.inl v2), some (.inr (.inr (8, (8 * 0 + v1.toNatClampNeg)))), some (.inl r24)] [.inr (.inr (6, (16 * 0 + r24.toNatClampNeg))), .inr (.inr (0, 0))] m (n + 2) = ax_aft (fun s m2 => ax_ex (e + 8) L_X10_says 50 [some (.inr (.inr (0, 0))), some (.inl v1), some (.inl v2), some (.inr (.inr (8, (8 * 0 + v1.toNatClampNeg)))), some (.inl r24)] s m2 n) [] (ax_ex (e + 7) L_X10_saysAs 0 (ax_entry [.inr (.inr (0, 0)), .inr (.inr (6, (16 * 0 + r24.toNatClampNeg))), .inl v2] 3) [] m n) := fun n => rfl
                  refine ax_gci (j := 2) (k2 := 50) (lv2 := [some (.inr (.inr (0, 0))), some (.inl v1), some (.inl v2), some (.inr (.inr (8, (8 * 0 + v1.toNatClampNeg)))), some (.inl r24)]) (rest := []) ((R_X10_saysAs (by omega) q45)) s47 ?_
                  obtain rfl := Option.some.inj h
                  exact ax_rs 1 (fun n => rfl)
                · rw [if_neg c43] at h
                  cases h
            · rw [if_neg c33] at h
              cases h
        · rw [if_neg c21] at h
          refine ax_gf c21 s22 ?_
          obtain ⟨r52, m53, q51, h⟩ := ax_b2_of h
          have s54 : ∀ n, ax_ex (e + 8) L_X10_says 18 [some (.inr (.inr (0, 0))), some (.inl v1), some (.inl v2), some (.inr (.inr (8, (8 * 0 + v1.toNatClampNeg)))), none] [] m (n + 3) = ax_aft (fun s m2 => ax_ex (e + 8) L_X10_says 21 [some (.inr (.inr (0, 0))), some (.inl v1), some (.inl v2), some (.inr (.inr (8, (8 * 0 + v1.toNatClampNeg)))), none] s m2 n) [] (ax_ex (e + 7) L_X10_refuse 0 (ax_entry [.inr (.inr (0, 0)), .inl (-4)] 3) [] m n) := fun n => rfl
          refine ax_gci (j := 3) (k2 := 21) (lv2 := [some (.inr (.inr (0, 0))), some (.inl v1), some (.inl v2), some (.inr (.inr (8, (8 * 0 + v1.toNatClampNeg)))), none]) (rest := []) ((R_X10_refuse (by omega) q51)) s54 ?_
          obtain rfl := Option.some.inj h
          exact ax_rs 1 (fun n => rfl)
      · rw [if_neg c17] at h
        cases h
def F_X10_wall (m : ax_M) (v1 : Int32) (v2 : Int32) : Option (Int32 × ax_M) := ax_b (F_X0_isCell v1) (fun r2 => if r2 = 0 then (ax_b2 (F_X10_refuse m (-2)) (fun r6 m7 => some (r6, m7))) else (if v2 = 0 then (ax_b (F_X3_hasWall m 0 v1) (fun r12 => if r12 = v2 then (some (0, m)) else (ax_b (F_X3_putWall m 0 v1 v2) (fun m17 => some (1, m17))))) else (ax_b (F_X3_isStoodOn m 0 v1) (fun r21 => if r21 = 0 then (ax_b (F_X3_hasWall m 0 v1) (fun r25 => if r25 = v2 then (some (0, m)) else (ax_b (F_X3_putWall m 0 v1 v2) (fun m30 => some (1, m30))))) else (ax_b2 (F_X10_refuse m (-5)) (fun r34 m35 => some (r34, m35)))))))
set_option maxRecDepth 20000 in
set_option maxHeartbeats 4000000 in
theorem R_X10_wall {d : Nat} (hd : 5 ≤ d) {m : ax_M} {v1 : Int32} {v2 : Int32} {q : (Int32 × ax_M)} (h : F_X10_wall m v1 v2 = some q) : ax_Ru d L_X10_wall 0 (ax_entry [.inr (.inr (0, 0)), .inl v1, .inl v2] 3) [] m (some (.inl q.1), q.2) := by
  obtain ⟨e, rfl⟩ : ∃ e, d = e + 5 := ⟨d - 5, by omega⟩
  unfold F_X10_wall at h
  obtain ⟨r2, q1, h⟩ := ax_b_of h
  have s38 : ∀ n, ax_ex (e + 5) L_X10_wall 0 (ax_entry [.inr (.inr (0, 0)), .inl v1, .inl v2] 3) [] m (n + 2) = ax_aft (fun s m2 => ax_ex (e + 5) L_X10_wall 2 [some (.inr (.inr (0, 0))), some (.inl v1), some (.inl v2)] s m2 n) [] (ax_ex (e + 4) L_X0_isCell 0 (ax_entry [.inl v1] 1) [] m n) := fun n => rfl
  refine ax_gci (j := 2) (k2 := 2) (lv2 := [some (.inr (.inr (0, 0))), some (.inl v1), some (.inl v2)]) (rest := []) ((R_X0_isCell (by omega) q1)) s38 ?_
  have s4 : ∀ n, ax_ex (e + 5) L_X10_wall 2 [some (.inr (.inr (0, 0))), some (.inl v1), some (.inl v2)] [.inl r2] m (n + 1) = if r2 = 0 then ax_ex (e + 5) L_X10_wall 3 [some (.inr (.inr (0, 0))), some (.inl v1), some (.inl v2)] [] m n else ax_ex (e + 5) L_X10_wall 7 [some (.inr (.inr (0, 0))), some (.inl v1), some (.inl v2)] [] m n := fun n => rfl
  by_cases c3 : r2 = 0
  · rw [if_pos c3] at h
    refine ax_gt c3 s4 ?_
    obtain ⟨r6, m7, q5, h⟩ := ax_b2_of h
    have s8 : ∀ n, ax_ex (e + 5) L_X10_wall 3 [some (.inr (.inr (0, 0))), some (.inl v1), some (.inl v2)] [] m (n + 3) = ax_aft (fun s m2 => ax_ex (e + 5) L_X10_wall 6 [some (.inr (.inr (0, 0))), some (.inl v1), some (.inl v2)] s m2 n) [] (ax_ex (e + 4) L_X10_refuse 0 (ax_entry [.inr (.inr (0, 0)), .inl (-2)] 3) [] m n) := fun n => rfl
    refine ax_gci (j := 3) (k2 := 6) (lv2 := [some (.inr (.inr (0, 0))), some (.inl v1), some (.inl v2)]) (rest := []) ((R_X10_refuse (by omega) q5)) s8 ?_
    obtain rfl := Option.some.inj h
    exact ax_rs 1 (fun n => rfl)
  · rw [if_neg c3] at h
    refine ax_gf c3 s4 ?_
    have s10 : ∀ n, ax_ex (e + 5) L_X10_wall 7 [some (.inr (.inr (0, 0))), some (.inl v1), some (.inl v2)] [] m (n + 2) = if v2 = 0 then ax_ex (e + 5) L_X10_wall 18 [some (.inr (.inr (0, 0))), some (.inl v1), some (.inl v2)] [] m n else ax_ex (e + 5) L_X10_wall 9 [some (.inr (.inr (0, 0))), some (.inl v1), some (.inl v2)] [] m n := fun n => rfl
    by_cases c9 : v2 = 0
    · rw [if_pos c9] at h
      refine ax_gt c9 s10 ?_
      obtain ⟨r12, q11, h⟩ := ax_b_of h
      have s19 : ∀ n, ax_ex (e + 5) L_X10_wall 18 [some (.inr (.inr (0, 0))), some (.inl v1), some (.inl v2)] [] m (n + 4) = ax_aft (fun s m2 => ax_ex (e + 5) L_X10_wall 22 [some (.inr (.inr (0, 0))), some (.inl v1), some (.inl v2)] s m2 n) [] (ax_ex (e + 4) L_X3_hasWall 0 (ax_entry [.inr (.inr (1, 0)), .inl v1] 2) [] m n) := fun n => rfl
      refine ax_gci (j := 4) (k2 := 22) (lv2 := [some (.inr (.inr (0, 0))), some (.inl v1), some (.inl v2)]) (rest := []) ((R_X3_hasWall (by omega) q11)) s19 ?_
      have s14 : ∀ n, ax_ex (e + 5) L_X10_wall 22 [some (.inr (.inr (0, 0))), some (.inl v1), some (.inl v2)] [.inl r12] m (n + 2) = if r12 = v2 then ax_ex (e + 5) L_X10_wall 24 [some (.inr (.inr (0, 0))), some (.inl v1), some (.inl v2)] [] m n else ax_ex (e + 5) L_X10_wall 26 [some (.inr (.inr (0, 0))), some (.inl v1), some (.inl v2)] [] m n := fun n => rfl
      by_cases c13 : r12 = v2
      · rw [if_pos c13] at h
        refine ax_gt c13 s14 ?_
        obtain rfl := Option.some.inj h
        exact ax_rs 2 (fun n => rfl)
      · rw [if_neg c13] at h
        refine ax_gf c13 s14 ?_
        obtain ⟨m17, q15, h⟩ := ax_b_of h
        have s18 : ∀ n, ax_ex (e + 5) L_X10_wall 26 [some (.inr (.inr (0, 0))), some (.inl v1), some (.inl v2)] [] m (n + 5) = ax_aft (fun s m2 => ax_ex (e + 5) L_X10_wall 31 [some (.inr (.inr (0, 0))), some (.inl v1), some (.inl v2)] s m2 n) [] (ax_ex (e + 4) L_X3_putWall 0 (ax_entry [.inr (.inr (1, 0)), .inl v1, .inl v2] 3) [] m n) := fun n => rfl
        refine ax_gcv (j := 5) (k2 := 31) (lv2 := [some (.inr (.inr (0, 0))), some (.inl v1), some (.inl v2)]) (rest := []) ((R_X3_putWall (by omega) q15)) s18 ?_
        obtain rfl := Option.some.inj h
        exact ax_rs 2 (fun n => rfl)
    · rw [if_neg c9] at h
      refine ax_gf c9 s10 ?_
      obtain ⟨r21, q20, h⟩ := ax_b_of h
      have s37 : ∀ n, ax_ex (e + 5) L_X10_wall 9 [some (.inr (.inr (0, 0))), some (.inl v1), some (.inl v2)] [] m (n + 4) = ax_aft (fun s m2 => ax_ex (e + 5) L_X10_wall 13 [some (.inr (.inr (0, 0))), some (.inl v1), some (.inl v2)] s m2 n) [] (ax_ex (e + 4) L_X3_isStoodOn 0 (ax_entry [.inr (.inr (1, 0)), .inl v1] 2) [] m n) := fun n => rfl
      refine ax_gci (j := 4) (k2 := 13) (lv2 := [some (.inr (.inr (0, 0))), some (.inl v1), some (.inl v2)]) (rest := []) ((R_X3_isStoodOn (by omega) q20)) s37 ?_
      have s23 : ∀ n, ax_ex (e + 5) L_X10_wall 13 [some (.inr (.inr (0, 0))), some (.inl v1), some (.inl v2)] [.inl r21] m (n + 1) = if r21 = 0 then ax_ex (e + 5) L_X10_wall 18 [some (.inr (.inr (0, 0))), some (.inl v1), some (.inl v2)] [] m n else ax_ex (e + 5) L_X10_wall 14 [some (.inr (.inr (0, 0))), some (.inl v1), some (.inl v2)] [] m n := fun n => rfl
      by_cases c22 : r21 = 0
      · rw [if_pos c22] at h
        refine ax_gt c22 s23 ?_
        obtain ⟨r25, q24, h⟩ := ax_b_of h
        have s32 : ∀ n, ax_ex (e + 5) L_X10_wall 18 [some (.inr (.inr (0, 0))), some (.inl v1), some (.inl v2)] [] m (n + 4) = ax_aft (fun s m2 => ax_ex (e + 5) L_X10_wall 22 [some (.inr (.inr (0, 0))), some (.inl v1), some (.inl v2)] s m2 n) [] (ax_ex (e + 4) L_X3_hasWall 0 (ax_entry [.inr (.inr (1, 0)), .inl v1] 2) [] m n) := fun n => rfl
        refine ax_gci (j := 4) (k2 := 22) (lv2 := [some (.inr (.inr (0, 0))), some (.inl v1), some (.inl v2)]) (rest := []) ((R_X3_hasWall (by omega) q24)) s32 ?_
        have s27 : ∀ n, ax_ex (e + 5) L_X10_wall 22 [some (.inr (.inr (0, 0))), some (.inl v1), some (.inl v2)] [.inl r25] m (n + 2) = if r25 = v2 then ax_ex (e + 5) L_X10_wall 24 [some (.inr (.inr (0, 0))), some (.inl v1), some (.inl v2)] [] m n else ax_ex (e + 5) L_X10_wall 26 [some (.inr (.inr (0, 0))), some (.inl v1), some (.inl v2)] [] m n := fun n => rfl
        by_cases c26 : r25 = v2
        · rw [if_pos c26] at h
          refine ax_gt c26 s27 ?_
          obtain rfl := Option.some.inj h
          exact ax_rs 2 (fun n => rfl)
        · rw [if_neg c26] at h
          refine ax_gf c26 s27 ?_
          obtain ⟨m30, q28, h⟩ := ax_b_of h
          have s31 : ∀ n, ax_ex (e + 5) L_X10_wall 26 [some (.inr (.inr (0, 0))), some (.inl v1), some (.inl v2)] [] m (n + 5) = ax_aft (fun s m2 => ax_ex (e + 5) L_X10_wall 31 [some (.inr (.inr (0, 0))), some (.inl v1), some (.inl v2)] s m2 n) [] (ax_ex (e + 4) L_X3_putWall 0 (ax_entry [.inr (.inr (1, 0)), .inl v1, .inl v2] 3) [] m n) := fun n => rfl
          refine ax_gcv (j := 5) (k2 := 31) (lv2 := [some (.inr (.inr (0, 0))), some (.inl v1), some (.inl v2)]) (rest := []) ((R_X3_putWall (by omega) q28)) s31 ?_
          obtain rfl := Option.some.inj h
          exact ax_rs 2 (fun n => rfl)
      · rw [if_neg c22] at h
        refine ax_gf c22 s23 ?_
        obtain ⟨r34, m35, q33, h⟩ := ax_b2_of h
        have s36 : ∀ n, ax_ex (e + 5) L_X10_wall 14 [some (.inr (.inr (0, 0))), some (.inl v1), some (.inl v2)] [] m (n + 3) = ax_aft (fun s m2 => ax_ex (e + 5) L_X10_wall 17 [some (.inr (.inr (0, 0))), some (.inl v1), some (.inl v2)] s m2 n) [] (ax_ex (e + 4) L_X10_refuse 0 (ax_entry [.inr (.inr (0, 0)), .inl (-5)] 3) [] m n) := fun n => rfl
        refine ax_gci (j := 3) (k2 := 17) (lv2 := [some (.inr (.inr (0, 0))), some (.inl v1), some (.inl v2)]) (rest := []) ((R_X10_refuse (by omega) q33)) s36 ?_
        obtain rfl := Option.some.inj h
        exact ax_rs 1 (fun n => rfl)
