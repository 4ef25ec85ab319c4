def F_X11_up (m : ax_M) (v1 : Int32) : Option (Int32 × ax_M) := if v1 = (-1) then (ax_b (F_X11_upOf m v1) (fun r4 => some (r4, m))) else (ax_b (F_X11_isOne m v1) (fun r7 => if r7 = 0 then (ax_b2 (F_X11_no m (-2)) (fun r11 m12 => some (r11, m12))) else (ax_b (F_X11_upOf m v1) (fun r15 => some (r15, m)))))
set_option maxRecDepth 20000 in
set_option maxHeartbeats 4000000 in
theorem R_X11_up {d : Nat} (hd : 11 ≤ d) {m : ax_M} {v1 : Int32} {q : (Int32 × ax_M)} (h : F_X11_up m v1 = some q) : ax_Ru d L_X11_up 0 (ax_entry [.inr (.inr (22, 0)), .inl v1] 2) [] m (some (.inl q.1), q.2) := by
  obtain ⟨e, rfl⟩ : ∃ e, d = e + 11 := ⟨d - 11, by omega⟩
  unfold F_X11_up at h
  have s2 : ∀ n, ax_ex (e + 11) L_X11_up 0 (ax_entry [.inr (.inr (22, 0)), .inl v1] 2) [] m (n + 3) = if v1 = (-1) then ax_ex (e + 11) L_X11_up 7 [some (.inr (.inr (22, 0))), some (.inl v1)] [] m n else ax_ex (e + 11) L_X11_up 3 [some (.inr (.inr (22, 0))), some (.inl v1)] [] m n := fun n => rfl
  by_cases c1 : v1 = (-1)
  · rw [if_pos c1] at h
    refine ax_gt c1 s2 ?_
    obtain ⟨r4, q3, h⟩ := ax_b_of h
    have s5 : ∀ n, ax_ex (e + 11) L_X11_up 7 [some (.inr (.inr (22, 0))), some (.inl v1)] [] m (n + 3) = ax_aft (fun s m2 => ax_ex (e + 11) L_X11_up 10 [some (.inr (.inr (22, 0))), some (.inl v1)] s m2 n) [] (ax_ex (e + 10) L_X11_upOf 0 (ax_entry [.inr (.inr (22, 0)), .inl v1] 4) [] m n) := fun n => rfl
    refine ax_gci (j := 3) (k2 := 10) (lv2 := [some (.inr (.inr (22, 0))), some (.inl v1)]) (rest := []) ((R_X11_upOf (by omega) q3)) s5 ?_
    obtain rfl := Option.some.inj h
    exact ax_rs 2 (fun n => rfl)
  · rw [if_neg c1] at h
    refine ax_gf c1 s2 ?_
    obtain ⟨r7, q6, h⟩ := ax_b_of h
    have s17 : ∀ n, ax_ex (e + 11) L_X11_up 3 [some (.inr (.inr (22, 0))), some (.inl v1)] [] m (n + 3) = ax_aft (fun s m2 => ax_ex (e + 11) L_X11_up 6 [some (.inr (.inr (22, 0))), some (.inl v1)] s m2 n) [] (ax_ex (e + 10) L_X11_isOne 0 (ax_entry [.inr (.inr (22, 0)), .inl v1] 2) [] m n) := fun n => rfl
    refine ax_gci (j := 3) (k2 := 6) (lv2 := [some (.inr (.inr (22, 0))), some (.inl v1)]) (rest := []) ((R_X11_isOne (by omega) q6)) s17 ?_
    have s9 : ∀ n, ax_ex (e + 11) L_X11_up 6 [some (.inr (.inr (22, 0))), some (.inl v1)] [.inl r7] m (n + 1) = if r7 = 0 then ax_ex (e + 11) L_X11_up 11 [some (.inr (.inr (22, 0))), some (.inl v1)] [] m n else ax_ex (e + 11) L_X11_up 7 [some (.inr (.inr (22, 0))), some (.inl v1)] [] m n := fun n => rfl
    by_cases c8 : r7 = 0
    · rw [if_pos c8] at h
      refine ax_gt c8 s9 ?_
      obtain ⟨r11, m12, q10, h⟩ := ax_b2_of h
      have s13 : ∀ n, ax_ex (e + 11) L_X11_up 11 [some (.inr (.inr (22, 0))), some (.inl v1)] [] m (n + 3) = ax_aft (fun s m2 => ax_ex (e + 11) L_X11_up 14 [some (.inr (.inr (22, 0))), some (.inl v1)] s m2 n) [] (ax_ex (e + 10) L_X11_no 0 (ax_entry [.inr (.inr (22, 0)), .inl (-2)] 2) [] m n) := fun n => rfl
      refine ax_gci (j := 3) (k2 := 14) (lv2 := [some (.inr (.inr (22, 0))), some (.inl v1)]) (rest := []) ((R_X11_no (by omega) q10)) s13 ?_
      obtain rfl := Option.some.inj h
      exact ax_rs 1 (fun n => rfl)
    · rw [if_neg c8] at h
      refine ax_gf c8 s9 ?_
      obtain ⟨r15, q14, h⟩ := ax_b_of h
      have s16 : ∀ n, ax_ex (e + 11) L_X11_up 7 [some (.inr (.inr (22, 0))), some (.inl v1)] [] m (n + 3) = ax_aft (fun s m2 => ax_ex (e + 11) L_X11_up 10 [some (.inr (.inr (22, 0))), some (.inl v1)] s m2 n) [] (ax_ex (e + 10) L_X11_upOf 0 (ax_entry [.inr (.inr (22, 0)), .inl v1] 4) [] m n) := fun n => rfl
      refine ax_gci (j := 3) (k2 := 10) (lv2 := [some (.inr (.inr (22, 0))), some (.inl v1)]) (rest := []) ((R_X11_upOf (by omega) q14)) s16 ?_
      obtain rfl := Option.some.inj h
      exact ax_rs 2 (fun n => rfl)
def F_X11_by (m : ax_M) (v1 : Int32) : Option (Int32 × ax_M) := ax_b (F_X11_isSeed m v1) (fun r2 => if r2 = 0 then (ax_b2 (F_X11_no m (-2)) (fun r6 m7 => some (r6, m7))) else (ax_b (F_X11_byOf m v1) (fun r10 => some (r10, m))))
set_option maxRecDepth 20000 in
set_option maxHeartbeats 4000000 in
theorem R_X11_by {d : Nat} (hd : 10 ≤ d) {m : ax_M} {v1 : Int32} {q : (Int32 × ax_M)} (h : F_X11_by m v1 = some q) : ax_Ru d L_X11_by 0 (ax_entry [.inr (.inr (22, 0)), .inl v1] 2) [] m (some (.inl q.1), q.2) := by
  obtain ⟨e, rfl⟩ : ∃ e, d = e + 10 := ⟨d - 10, by omega⟩
  unfold F_X11_by at h
  obtain ⟨r2, q1, h⟩ := ax_b_of h
  have s12 : ∀ n, ax_ex (e + 10) L_X11_by 0 (ax_entry [.inr (.inr (22, 0)), .inl v1] 2) [] m (n + 3) = ax_aft (fun s m2 => ax_ex (e + 10) L_X11_by 3 [some (.inr (.inr (22, 0))), some (.inl v1)] s m2 n) [] (ax_ex (e + 9) L_X11_isSeed 0 (ax_entry [.inr (.inr (22, 0)), .inl v1] 2) [] m n) := fun n => rfl
  refine ax_gci (j := 3) (k2 := 3) (lv2 := [some (.inr (.inr (22, 0))), some (.inl v1)]) (rest := []) ((R_X11_isSeed (by omega) q1)) s12 ?_
  have s4 : ∀ n, ax_ex (e + 10) L_X11_by 3 [some (.inr (.inr (22, 0))), some (.inl v1)] [.inl r2] m (n + 1) = if r2 = 0 then ax_ex (e + 10) L_X11_by 8 [some (.inr (.inr (22, 0))), some (.inl v1)] [] m n else ax_ex (e + 10) L_X11_by 4 [some (.inr (.inr (22, 0))), some (.inl v1)] [] m n := fun n => rfl
  by_cases c3 : r2 = 0
  · rw [if_pos c3] at h
    refine ax_gt c3 s4 ?_
    obtain ⟨r6, m7, q5, h⟩ := ax_b2_of h
    have s8 : ∀ n, ax_ex (e + 10) L_X11_by 8 [some (.inr (.inr (22, 0))), some (.inl v1)] [] m (n + 3) = ax_aft (fun s m2 => ax_ex (e + 10) L_X11_by 11 [some (.inr (.inr (22, 0))), some (.inl v1)] s m2 n) [] (ax_ex (e + 9) L_X11_no 0 (ax_entry [.inr (.inr (22, 0)), .inl (-2)] 2) [] m n) := fun n => rfl
    refine ax_gci (j := 3) (k2 := 11) (lv2 := [some (.inr (.inr (22, 0))), some (.inl v1)]) (rest := []) ((R_X11_no (by omega) q5)) s8 ?_
    obtain rfl := Option.some.inj h
    exact ax_rs 1 (fun n => rfl)
  · rw [if_neg c3] at h
    refine ax_gf c3 s4 ?_
    obtain ⟨r10, q9, h⟩ := ax_b_of h
    have s11 : ∀ n, ax_ex (e + 10) L_X11_by 4 [some (.inr (.inr (22, 0))), some (.inl v1)] [] m (n + 3) = ax_aft (fun s m2 => ax_ex (e + 10) L_X11_by 7 [some (.inr (.inr (22, 0))), some (.inl v1)] s m2 n) [] (ax_ex (e + 9) L_X11_byOf 0 (ax_entry [.inr (.inr (22, 0)), .inl v1] 4) [] m n) := fun n => rfl
    refine ax_gci (j := 3) (k2 := 7) (lv2 := [some (.inr (.inr (22, 0))), some (.inl v1)]) (rest := []) ((R_X11_byOf (by omega) q9)) s11 ?_
    obtain rfl := Option.some.inj h
    exact ax_rs 2 (fun n => rfl)
def F_X11_isQuiet_L9 : Nat → ax_M → Int32 → Int32 → Int32 → Int32 → Option Int32
  | 0, _, _, _, _, _ => none
  | n + 1, m, v1, v2, v3, v4 => if (m.1 22 0 4) ≤ v4 then (some 1) else (if ax_ok v4 16 = true then (if (m.1 29 0 v4.toNatClampNeg) = v3 then (F_X11_isQuiet_L9 n m v1 v2 v3 (v4 + 1)) else (ax_b (F_X11_isUp m v4 v1 v2) (fun r12 => if r12 = 0 then (F_X11_isQuiet_L9 n m v1 v2 v3 (v4 + 1)) else (some 0)))) else (none))
set_option maxRecDepth 20000 in
set_option maxHeartbeats 4000000 in
theorem R_X11_isQuiet_L9 {e : Nat} {m : ax_M} {v1 : Int32} {v2 : Int32} {v3 : Int32} : ∀ (n : Nat) (v4 : Int32) (q : Int32), F_X11_isQuiet_L9 n m v1 v2 v3 v4 = some q → ax_Ru (e + 9) L_X11_isQuiet 9 [some (.inr (.inr (22, 0))), some (.inl v1), some (.inl v2), some (.inl v3), some (.inl v4)] [] m (some (.inl q), m) := by
  intro n
  induction n with
  | zero =>
    intro v4 q h
    cases h
  | succ n ih =>
    intro v4 q h
    rw [F_X11_isQuiet_L9] at h
    have s6 : ∀ n, ax_ex (e + 9) L_X11_isQuiet 9 [some (.inr (.inr (22, 0))), some (.inl v1), some (.inl v2), some (.inl v3), some (.inl v4)] [] m (n + 4) = if (m.1 22 0 4) ≤ v4 then ax_ex (e + 9) L_X11_isQuiet 29 [some (.inr (.inr (22, 0))), some (.inl v1), some (.inl v2), some (.inl v3), some (.inl v4)] [] m n else ax_ex (e + 9) L_X11_isQuiet 13 [some (.inr (.inr (22, 0))), some (.inl v1), some (.inl v2), some (.inl v3), some (.inl v4)] [] m n := fun n => rfl
    by_cases c5 : (m.1 22 0 4) ≤ v4
    · rw [if_pos c5] at h
      refine ax_gt c5 s6 ?_
      obtain rfl := Option.some.inj h
      exact ax_rq (c := (1 : Int32) = 0 ∨ (1 : Int32) = 1) (j := 2) (by decide) (fun n => rfl)
    · rw [if_neg c5] at h
      refine ax_gf c5 s6 ?_
      have s8 : ∀ n, ax_ex (e + 9) L_X11_isQuiet 13 [some (.inr (.inr (22, 0))), some (.inl v1), some (.inl v2), some (.inl v3), some (.inl v4)] [] m (n + 4) = if ax_ok v4 16 = true then ax_ex (e + 9) L_X11_isQuiet 17 [some (.inr (.inr (22, 0))), some (.inl v1), some (.inl v2), some (.inl v3), some (.inl v4)] [.inl (m.1 29 0 v4.toNatClampNeg)] m n else none := fun n => rfl
      by_cases c7 : ax_ok v4 16 = true
      · rw [if_pos c7] at h
        refine ax_gt c7 s8 ?_
        have s10 : ∀ n, ax_ex (e + 9) L_X11_isQuiet 17 [some (.inr (.inr (22, 0))), some (.inl v1), some (.inl v2), some (.inl v3), some (.inl v4)] [.inl (m.1 29 0 v4.toNatClampNeg)] m (n + 2) = if (m.1 29 0 v4.toNatClampNeg) = v3 then ax_ex (e + 9) L_X11_isQuiet 27 [some (.inr (.inr (22, 0))), some (.inl v1), some (.inl v2), some (.inl v3), some (.inl v4)] [] m n else ax_ex (e + 9) L_X11_isQuiet 19 [some (.inr (.inr (22, 0))), some (.inl v1), some (.inl v2), some (.inl v3), some (.inl v4)] [] m n := fun n => rfl
        by_cases c9 : (m.1 29 0 v4.toNatClampNeg) = v3
        · rw [if_pos c9] at h
          refine ax_gt c9 s10 ?_
          refine ax_go (j := 2) (k2 := 9) (lv2 := [some (.inr (.inr (22, 0))), some (.inl v1), some (.inl v2), some (.inl v3), some (.inl (v4 + 1))]) (st2 := []) (m2 := m) (fun n => rfl) ?_
          exact ax_fg (lv2 := [some (.inr (.inr (22, 0))), some (.inl v1), some (.inl v2), some (.inl v3), some (.inl (v4 + 1))]) ⟨rfl, rfl, rfl, rfl, rfl, trivial⟩ (ih (v4 + 1) _ h)
        · rw [if_neg c9] at h
          refine ax_gf c9 s10 ?_
          obtain ⟨r12, q11, h⟩ := ax_b_of h
          have s15 : ∀ n, ax_ex (e + 9) L_X11_isQuiet 19 [some (.inr (.inr (22, 0))), some (.inl v1), some (.inl v2), some (.inl v3), some (.inl v4)] [] m (n + 5) = ax_aft (fun s m2 => ax_ex (e + 9) L_X11_isQuiet 24 [some (.inr (.inr (22, 0))), some (.inl v1), some (.inl v2), some (.inl v3), some (.inl v4)] s m2 n) [] (ax_ex (e + 8) L_X11_isUp 0 (ax_entry [.inr (.inr (22, 0)), .inl v4, .inl v1, .inl v2] 4) [] m n) := fun n => rfl
          refine ax_gci (j := 5) (k2 := 24) (lv2 := [some (.inr (.inr (22, 0))), some (.inl v1), some (.inl v2), some (.inl v3), some (.inl v4)]) (rest := []) ((R_X11_isUp (by omega) q11)) s15 ?_
          have s14 : ∀ n, ax_ex (e + 9) L_X11_isQuiet 24 [some (.inr (.inr (22, 0))), some (.inl v1), some (.inl v2), some (.inl v3), some (.inl v4)] [.inl r12] m (n + 1) = if r12 = 0 then ax_ex (e + 9) L_X11_isQuiet 27 [some (.inr (.inr (22, 0))), some (.inl v1), some (.inl v2), some (.inl v3), some (.inl v4)] [] m n else ax_ex (e + 9) L_X11_isQuiet 25 [some (.inr (.inr (22, 0))), some (.inl v1), some (.inl v2), some (.inl v3), some (.inl v4)] [] m n := fun n => rfl
          by_cases c13 : r12 = 0
          · rw [if_pos c13] at h
            refine ax_gt c13 s14 ?_
            refine ax_go (j := 2) (k2 := 9) (lv2 := [some (.inr (.inr (22, 0))), some (.inl v1), some (.inl v2), some (.inl v3), some (.inl (v4 + 1))]) (st2 := []) (m2 := m) (fun n => rfl) ?_
            exact ax_fg (lv2 := [some (.inr (.inr (22, 0))), some (.inl v1), some (.inl v2), some (.inl v3), some (.inl (v4 + 1))]) ⟨rfl, rfl, rfl, rfl, rfl, trivial⟩ (ih (v4 + 1) _ h)
          · rw [if_neg c13] at h
            refine ax_gf c13 s14 ?_
            obtain rfl := Option.some.inj h
            exact ax_rq (c := (0 : Int32) = 0 ∨ (0 : Int32) = 1) (j := 2) (by decide) (fun n => rfl)
      · rw [if_neg c7] at h
        cases h
def F_X11_isQuiet (m : ax_M) (v1 : Int32) (v2 : Int32) (v3 : Int32) : Option Int32 := if ax_ok v2 64 = true then (if (m.1 23 0 v2.toNatClampNeg) = 0 then (F_X11_isQuiet_L9 ax_FU m v1 v2 v3 0) else (some 0)) else (none)
set_option maxRecDepth 20000 in
set_option maxHeartbeats 4000000 in
theorem R_X11_isQuiet {d : Nat} (hd : 9 ≤ d) {m : ax_M} {v1 : Int32} {v2 : Int32} {v3 : Int32} {q : Int32} (h : F_X11_isQuiet m v1 v2 v3 = some q) : ax_Ru d L_X11_isQuiet 0 (ax_entry [.inr (.inr (22, 0)), .inl v1, .inl v2, .inl v3] 5) [] m (some (.inl q), m) := by
  obtain ⟨e, rfl⟩ : ∃ e, d = e + 9 := ⟨d - 9, by omega⟩
  unfold F_X11_isQuiet at h
  have s2 : ∀ n, ax_ex (e + 9) L_X11_isQuiet 0 (ax_entry [.inr (.inr (22, 0)), .inl v1, .inl v2, .inl v3] 5) [] m (n + 4) = if ax_ok v2 64 = true then ax_ex (e + 9) L_X11_isQuiet 4 [some (.inr (.inr (22, 0))), some (.inl v1), some (.inl v2), some (.inl v3), none] [.inl (m.1 23 0 v2.toNatClampNeg)] m n else none := fun n => rfl
  by_cases c1 : ax_ok v2 64 = true
  · rw [if_pos c1] at h
    refine ax_gt c1 s2 ?_
    have s4 : ∀ n, ax_ex (e + 9) L_X11_isQuiet 4 [some (.inr (.inr (22, 0))), some (.inl v1), some (.inl v2), some (.inl v3), none] [.inl (m.1 23 0 v2.toNatClampNeg)] m (n + 1) = if (m.1 23 0 v2.toNatClampNeg) = 0 then ax_ex (e + 9) L_X11_isQuiet 7 [some (.inr (.inr (22, 0))), some (.inl v1), some (.inl v2), some (.inl v3), none] [] m n else ax_ex (e + 9) L_X11_isQuiet 5 [some (.inr (.inr (22, 0))), some (.inl v1), some (.inl v2), some (.inl v3), none] [] m n := fun n => rfl
    by_cases c3 : (m.1 23 0 v2.toNatClampNeg) = 0
    · rw [if_pos c3] at h
      refine ax_gt c3 s4 ?_
      refine ax_go (j := 2) (k2 := 9) (lv2 := [some (.inr (.inr (22, 0))), some (.inl v1), some (.inl v2), some (.inl v3), some (.inl 0)]) (st2 := []) (m2 := m) (fun n => rfl) ?_
      refine ax_fg (lv2 := [some (.inr (.inr (22, 0))), some (.inl v1), some (.inl v2), some (.inl v3), some (.inl 0)]) ⟨rfl, rfl, rfl, rfl, rfl, trivial⟩ ?_
      refine R_X11_isQuiet_L9 _ 0 _ h
    · rw [if_neg c3] at h
      refine ax_gf c3 s4 ?_
      obtain rfl := Option.some.inj h
      exact ax_rq (c := (0 : Int32) = 0 ∨ (0 : Int32) = 1) (j := 2) (by decide) (fun n => rfl)
  · rw [if_neg c1] at h
    cases h
def F_X11_quiet (m : ax_M) (v1 : Int32) (v2 : Int32) : Option (Int32 × ax_M) := ax_b (F_X11_isOne m v1) (fun r2 => if r2 = 0 then (ax_b2 (F_X11_no m (-2)) (fun r6 m7 => some (r6, m7))) else (ax_b (F_X11_isCell v2) (fun r10 => if r10 = 0 then (ax_b2 (F_X11_no m (-2)) (fun r14 m15 => some (r14, m15))) else (ax_b (F_X11_isQuiet m v1 v2 (-1)) (fun r18 => if r18 = 0 then (some (0, m)) else (some (1, m)))))))
set_option maxRecDepth 20000 in
set_option maxHeartbeats 4000000 in
theorem R_X11_quiet {d : Nat} (hd : 10 ≤ d) {m : ax_M} {v1 : Int32} {v2 : Int32} {q : (Int32 × ax_M)} (h : F_X11_quiet m v1 v2 = some q) : ax_Ru d L_X11_quiet 0 (ax_entry [.inr (.inr (22, 0)), .inl v1, .inl v2] 3) [] m (some (.inl q.1), q.2) := by
  obtain ⟨e, rfl⟩ : ∃ e, d = e + 10 := ⟨d - 10, by omega⟩
  unfold F_X11_quiet at h
  obtain ⟨r2, q1, h⟩ := ax_b_of h
  have s23 : ∀ n, ax_ex (e + 10) L_X11_quiet 0 (ax_entry [.inr (.inr (22, 0)), .inl v1, .inl v2] 3) [] m (n + 3) = ax_aft (fun s m2 => ax_ex (e + 10) L_X11_quiet 3 [some (.inr (.inr (22, 0))), some (.inl v1), some (.inl v2)] s m2 n) [] (ax_ex (e + 9) L_X11_isOne 0 (ax_entry [.inr (.inr (22, 0)), .inl v1] 2) [] m n) := fun n => rfl
  refine ax_gci (j := 3) (k2 := 3) (lv2 := [some (.inr (.inr (22, 0))), some (.inl v1), some (.inl v2)]) (rest := []) ((R_X11_isOne (by omega) q1)) s23 ?_
  have s4 : ∀ n, ax_ex (e + 10) L_X11_quiet 3 [some (.inr (.inr (22, 0))), some (.inl v1), some (.inl v2)] [.inl r2] m (n + 1) = if r2 = 0 then ax_ex (e + 10) L_X11_quiet 7 [some (.inr (.inr (22, 0))), some (.inl v1), some (.inl v2)] [] m n else ax_ex (e + 10) L_X11_quiet 4 [some (.inr (.inr (22, 0))), some (.inl v1), some (.inl v2)] [] m n := fun n => rfl
  by_cases c3 : r2 = 0
  · rw [if_pos c3] at h
    refine ax_gt c3 s4 ?_
    obtain ⟨r6, m7, q5, h⟩ := ax_b2_of h
    have s8 : ∀ n, ax_ex (e + 10) L_X11_quiet 7 [some (.inr (.inr (22, 0))), some (.inl v1), some (.inl v2)] [] m (n + 3) = ax_aft (fun s m2 => ax_ex (e + 10) L_X11_quiet 10 [some (.inr (.inr (22, 0))), some (.inl v1), some (.inl v2)] s m2 n) [] (ax_ex (e + 9) L_X11_no 0 (ax_entry [.inr (.inr (22, 0)), .inl (-2)] 2) [] m n) := fun n => rfl
    refine ax_gci (j := 3) (k2 := 10) (lv2 := [some (.inr (.inr (22, 0))), some (.inl v1), some (.inl v2)]) (rest := []) ((R_X11_no (by omega) q5)) s8 ?_
    obtain rfl := Option.some.inj h
    exact ax_rs 1 (fun n => rfl)
  · rw [if_neg c3] at h
    refine ax_gf c3 s4 ?_
    obtain ⟨r10, q9, h⟩ := ax_b_of h
    have s22 : ∀ n, ax_ex (e + 10) L_X11_quiet 4 [some (.inr (.inr (22, 0))), some (.inl v1), some (.inl v2)] [] m (n + 2) = ax_aft (fun s m2 => ax_ex (e + 10) L_X11_quiet 6 [some (.inr (.inr (22, 0))), some (.inl v1), some (.inl v2)] s m2 n) [] (ax_ex (e + 9) L_X11_isCell 0 (ax_entry [.inl v2] 1) [] m n) := fun n => rfl
    refine ax_gci (j := 2) (k2 := 6) (lv2 := [some (.inr (.inr (22, 0))), some (.inl v1), some (.inl v2)]) (rest := []) ((R_X11_isCell (by omega) q9)) s22 ?_
    have s12 : ∀ n, ax_ex (e + 10) L_X11_quiet 6 [some (.inr (.inr (22, 0))), some (.inl v1), some (.inl v2)] [.inl r10] m (n + 1) = if r10 = 0 then ax_ex (e + 10) L_X11_quiet 7 [some (.inr (.inr (22, 0))), some (.inl v1), some (.inl v2)] [] m n else ax_ex (e + 10) L_X11_quiet 11 [some (.inr (.inr (22, 0))), some (.inl v1), some (.inl v2)] [] m n := fun n => rfl
    by_cases c11 : r10 = 0
    · rw [if_pos c11] at h
      refine ax_gt c11 s12 ?_
      obtain ⟨r14, m15, q13, h⟩ := ax_b2_of h
      have s16 : ∀ n, ax_ex (e + 10) L_X11_quiet 7 [some (.inr (.inr (22, 0))), some (.inl v1), some (.inl v2)] [] m (n + 3) = ax_aft (fun s m2 => ax_ex (e + 10) L_X11_quiet 10 [some (.inr (.inr (22, 0))), some (.inl v1), some (.inl v2)] s m2 n) [] (ax_ex (e + 9) L_X11_no 0 (ax_entry [.inr (.inr (22, 0)), .inl (-2)] 2) [] m n) := fun n => rfl
      refine ax_gci (j := 3) (k2 := 10) (lv2 := [some (.inr (.inr (22, 0))), some (.inl v1), some (.inl v2)]) (rest := []) ((R_X11_no (by omega) q13)) s16 ?_
      obtain rfl := Option.some.inj h
      exact ax_rs 1 (fun n => rfl)
    · rw [if_neg c11] at h
      refine ax_gf c11 s12 ?_
      obtain ⟨r18, q17, h⟩ := ax_b_of h
      have s21 : ∀ n, ax_ex (e + 10) L_X11_quiet 11 [some (.inr (.inr (22, 0))), some (.inl v1), some (.inl v2)] [] m (n + 5) = ax_aft (fun s m2 => ax_ex (e + 10) L_X11_quiet 16 [some (.inr (.inr (22, 0))), some (.inl v1), some (.inl v2)] s m2 n) [] (ax_ex (e + 9) L_X11_isQuiet 0 (ax_entry [.inr (.inr (22, 0)), .inl v1, .inl v2, .inl (-1)] 5) [] m n) := fun n => rfl
      refine ax_gci (j := 5) (k2 := 16) (lv2 := [some (.inr (.inr (22, 0))), some (.inl v1), some (.inl v2)]) (rest := []) ((R_X11_isQuiet (by omega) q17)) s21 ?_
      have s20 : ∀ n, ax_ex (e + 10) L_X11_quiet 16 [some (.inr (.inr (22, 0))), some (.inl v1), some (.inl v2)] [.inl r18] m (n + 1) = if r18 = 0 then ax_ex (e + 10) L_X11_quiet 19 [some (.inr (.inr (22, 0))), some (.inl v1), some (.inl v2)] [] m n else ax_ex (e + 10) L_X11_quiet 17 [some (.inr (.inr (22, 0))), some (.inl v1), some (.inl v2)] [] m n := fun n => rfl
      by_cases c19 : r18 = 0
      · rw [if_pos c19] at h
        refine ax_gt c19 s20 ?_
        obtain rfl := Option.some.inj h
        exact ax_rs 2 (fun n => rfl)
      · rw [if_neg c19] at h
        refine ax_gf c19 s20 ?_
        obtain rfl := Option.some.inj h
        exact ax_rs 3 (fun n => rfl)
def F_X11_beside (v0 : Int32) (v1 : Int32) : Option Int32 := if v1 = 0 then (if v0 ≤ 7 then (some (-1)) else (some (v0 - 8))) else (if v1 = 1 then (if 56 ≤ v0 then (some (-1)) else (some (v0 + 8))) else (if v1 = 2 then (if (ax_irem v0 8) ≤ 0 then (some (-1)) else (some (v0 - 1))) else (if 7 ≤ (ax_irem v0 8) then (some (-1)) else (some (v0 + 1)))))
set_option maxRecDepth 20000 in
set_option maxHeartbeats 4000000 in
theorem R_X11_beside {d : Nat} (hd : 1 ≤ d) {m : ax_M} {v0 : Int32} {v1 : Int32} {q : Int32} (h : F_X11_beside v0 v1 = some q) : ax_Ru d L_X11_beside 0 (ax_entry [.inl v0, .inl v1] 2) [] m (some (.inl q), m) := by
  obtain ⟨e, rfl⟩ : ∃ e, d = e + 1 := ⟨d - 1, by omega⟩
  unfold F_X11_beside at h
  have s1 : ∀ n, ax_ex (e + 1) L_X11_beside 0 (ax_entry [.inl v0, .inl v1] 2) [] m (n + 2) = (if v1 = 0 then ax_ex (e + 1) L_X11_beside 2 [some (.inl v0), some (.inl v1)] [] m n else (if v1 = 1 then ax_ex (e + 1) L_X11_beside 11 [some (.inl v0), some (.inl v1)] [] m n else (if v1 = 2 then ax_ex (e + 1) L_X11_beside 20 [some (.inl v0), some (.inl v1)] [] m n else ax_ex (e + 1) L_X11_beside 30 [some (.inl v0), some (.inl v1)] [] m n))) := fun n => rfl
  by_cases c2 : v1 = 0
  · rw [if_pos c2] at h
    refine ax_go (j := 2) (k2 := 2) (lv2 := [some (.inl v0), some (.inl v1)]) (st2 := []) (m2 := m) (fun n => (s1 n).trans (if_pos c2)) ?_
    have s4 : ∀ n, ax_ex (e + 1) L_X11_beside 2 [some (.inl v0), some (.inl v1)] [] m (n + 3) = if v0 ≤ 7 then ax_ex (e + 1) L_X11_beside 9 [some (.inl v0), some (.inl v1)] [] m n else ax_ex (e + 1) L_X11_beside 5 [some (.inl v0), some (.inl v1)] [] m n := fun n => rfl
    by_cases c3 : v0 ≤ 7
    · rw [if_pos c3] at h
      refine ax_gt c3 s4 ?_
      obtain rfl := Option.some.inj h
      exact ax_rs 2 (fun n => rfl)
    · rw [if_neg c3] at h
      refine ax_gf c3 s4 ?_
      obtain rfl := Option.some.inj h
      exact ax_rs 5 (fun n => rfl)
  · rw [if_neg c2] at h
    by_cases c5 : v1 = 1
    · rw [if_pos c5] at h
      refine ax_go (j := 2) (k2 := 11) (lv2 := [some (.inl v0), some (.inl v1)]) (st2 := []) (m2 := m) (fun n => ((s1 n).trans (if_neg c2)).trans (if_pos c5)) ?_
      have s7 : ∀ n, ax_ex (e + 1) L_X11_beside 11 [some (.inl v0), some (.inl v1)] [] m (n + 3) = if 56 ≤ v0 then ax_ex (e + 1) L_X11_beside 18 [some (.inl v0), some (.inl v1)] [] m n else ax_ex (e + 1) L_X11_beside 14 [some (.inl v0), some (.inl v1)] [] m n := fun n => rfl
      by_cases c6 : 56 ≤ v0
      · rw [if_pos c6] at h
        refine ax_gt c6 s7 ?_
        obtain rfl := Option.some.inj h
        exact ax_rs 2 (fun n => rfl)
      · rw [if_neg c6] at h
        refine ax_gf c6 s7 ?_
        obtain rfl := Option.some.inj h
        exact ax_rs 5 (fun n => rfl)
    · rw [if_neg c5] at h
      by_cases c8 : v1 = 2
      · rw [if_pos c8] at h
        refine ax_go (j := 2) (k2 := 20) (lv2 := [some (.inl v0), some (.inl v1)]) (st2 := []) (m2 := m) (fun n => (((s1 n).trans (if_neg c2)).trans (if_neg c5)).trans (if_pos c8)) ?_
        have s9 : ∀ n, ax_ex (e + 1) L_X11_beside 20 [some (.inl v0), some (.inl v1)] [] m (n + 3) = if (8 : Int32) = 0 then none else ax_ex (e + 1) L_X11_beside 23 [some (.inl v0), some (.inl v1)] [.inl (ax_irem v0 8)] m n := fun n => rfl
        refine ax_gf (by decide) s9 ?_
        obtain ⟨y10, hy10⟩ : ∃ y : Int32, y = (ax_irem v0 8) := ⟨_, rfl⟩
        rw [← hy10] at h ⊢
        have s12 : ∀ n, ax_ex (e + 1) L_X11_beside 23 [some (.inl v0), some (.inl v1)] [.inl y10] m (n + 1) = if y10 ≤ 0 then ax_ex (e + 1) L_X11_beside 28 [some (.inl v0), some (.inl v1)] [] m n else ax_ex (e + 1) L_X11_beside 24 [some (.inl v0), some (.inl v1)] [] m n := fun n => rfl
        by_cases c11 : y10 ≤ 0
        · rw [if_pos c11] at h
          refine ax_gt c11 s12 ?_
          obtain rfl := Option.some.inj h
          exact ax_rs 2 (fun n => rfl)
        · rw [if_neg c11] at h
          refine ax_gf c11 s12 ?_
          obtain rfl := Option.some.inj h
          exact ax_rs 5 (fun n => rfl)
      · rw [if_neg c8] at h
        refine ax_go (j := 2) (k2 := 30) (lv2 := [some (.inl v0), some (.inl v1)]) (st2 := []) (m2 := m) (fun n => ((((s1 n).trans (if_neg c2)).trans (if_neg c5)).trans (if_neg c8))) ?_
        have s13 : ∀ n, ax_ex (e + 1) L_X11_beside 30 [some (.inl v0), some (.inl v1)] [] m (n + 3) = if (8 : Int32) = 0 then none else ax_ex (e + 1) L_X11_beside 33 [some (.inl v0), some (.inl v1)] [.inl (ax_irem v0 8)] m n := fun n => rfl
        refine ax_gf (by decide) s13 ?_
        refine ax_go (j := 1) (k2 := 34) (lv2 := [some (.inl v0), some (.inl v1)]) (st2 := [.inl 7, .inl (ax_irem v0 8)]) (m2 := m) (fun n => rfl) ?_
        obtain ⟨y14, hy14⟩ : ∃ y : Int32, y = (ax_irem v0 8) := ⟨_, rfl⟩
        rw [← hy14] at h ⊢
        have s16 : ∀ n, ax_ex (e + 1) L_X11_beside 34 [some (.inl v0), some (.inl v1)] [.inl 7, .inl y14] m (n + 1) = if 7 ≤ y14 then ax_ex (e + 1) L_X11_beside 39 [some (.inl v0), some (.inl v1)] [] m n else ax_ex (e + 1) L_X11_beside 35 [some (.inl v0), some (.inl v1)] [] m n := fun n => rfl
        by_cases c15 : 7 ≤ y14
        · rw [if_pos c15] at h
          refine ax_gt c15 s16 ?_
          obtain rfl := Option.some.inj h
          exact ax_rs 2 (fun n => rfl)
        · rw [if_neg c15] at h
          refine ax_gf c15 s16 ?_
          obtain rfl := Option.some.inj h
          exact ax_rs 5 (fun n => rfl)
def F_X11_walks_L42 : Nat → (ax_M → Int32 → Option ax_M) → ax_M → Int32 → Int32 → Int32 → Int32 → Int32 → Int32 → Option ax_M
  | 0, _, _, _, _, _, _, _, _ => none
  | n + 1, K76, m, v1, v2, v3, v4, v5, v6 => if 4 ≤ v6 then (K76 m v3) else (ax_b (F_X11_beside v5 v6) (fun r36 => if r36 = (-1) then (F_X11_walks_L42 n K76 m v1 v2 v3 v4 v5 (v6 + 1)) else (if ax_ok r36 64 = true then (if (m.1 37 0 r36.toNatClampNeg) = (-1) then (ax_b (F_X11_isQuiet m v1 r36 v2) (fun r44 => if r44 = 0 then (F_X11_walks_L42 n K76 m v1 v2 v3 v4 v5 (v6 + 1)) else (if ax_ok r36 64 = true then (F_X11_walks_L42 n K76 (ax_ui m 37 0 r36.toNatClampNeg (v4 + 1)) v1 v2 1 v4 v5 (v6 + 1)) else (none)))) else (F_X11_walks_L42 n K76 m v1 v2 v3 v4 v5 (v6 + 1))) else (none))))
set_option maxRecDepth 20000 in
set_option maxHeartbeats 4000000 in
theorem R_X11_walks_L42 {e : Nat} {v1 : Int32} {v2 : Int32} {v4 : Int32} {v5 : Int32} {K76 : ax_M → Int32 → Option ax_M} (hK76 : ∀ (my : ax_M) (y3 : Int32) (q : ax_M), K76 my y3 = some q → ax_Ru (e + 10) L_X11_walks 76 [some (.inr (.inr (22, 0))), some (.inl v1), some (.inl v2), some (.inl y3), some (.inl v4), some (.inl v5), none, none] [] my (none, q)) : ∀ (n : Nat) (m : ax_M) (v3 : Int32) (v6 : Int32) (q : ax_M), F_X11_walks_L42 n K76 m v1 v2 v3 v4 v5 v6 = some q → ax_Ru (e + 10) L_X11_walks 42 [some (.inr (.inr (22, 0))), some (.inl v1), some (.inl v2), some (.inl v3), some (.inl v4), some (.inl v5), some (.inl v6), none] [] m (none, q) := by
  intro n
  induction n with
  | zero =>
    intro m v3 v6 q h
    cases h
  | succ n ih =>
    intro m v3 v6 q h
    rw [F_X11_walks_L42] at h
    have s34 : ∀ n, ax_ex (e + 10) L_X11_walks 42 [some (.inr (.inr (22, 0))), some (.inl v1), some (.inl v2), some (.inl v3), some (.inl v4), some (.inl v5), some (.inl v6), none] [] m (n + 3) = if 4 ≤ v6 then ax_ex (e + 10) L_X11_walks 76 [some (.inr (.inr (22, 0))), some (.inl v1), some (.inl v2), some (.inl v3), some (.inl v4), some (.inl v5), some (.inl v6), none] [] m n else ax_ex (e + 10) L_X11_walks 45 [some (.inr (.inr (22, 0))), some (.inl v1), some (.inl v2), some (.inl v3), some (.inl v4), some (.inl v5), some (.inl v6), none] [] m n := fun n => rfl
    by_cases c33 : 4 ≤ v6
    · rw [if_pos c33] at h
      refine ax_gt c33 s34 ?_
      exact ax_fg (lv2 := [some (.inr (.inr (22, 0))), some (.inl v1), some (.inl v2), some (.inl v3), some (.inl v4), some (.inl v5), none, none]) ⟨rfl, rfl, rfl, rfl, rfl, rfl, trivial⟩ (hK76 m v3 _ h)
    · rw [if_neg c33] at h
      refine ax_gf c33 s34 ?_
      obtain ⟨r36, q35, h⟩ := ax_b_of h
      have s50 : ∀ n, ax_ex (e + 10) L_X11_walks 45 [some (.inr (.inr (22, 0))), some (.inl v1), some (.inl v2), some (.inl v3), some (.inl v4), some (.inl v5), some (.inl v6), none] [] m (n + 3) = ax_aft (fun s m2 => ax_ex (e + 10) L_X11_walks 48 [some (.inr (.inr (22, 0))), some (.inl v1), some (.inl v2), some (.inl v3), some (.inl v4), some (.inl v5), some (.inl v6), none] s m2 n) [] (ax_ex (e + 9) L_X11_beside 0 (ax_entry [.inl v5, .inl v6] 2) [] m n) := fun n => rfl
      refine ax_gci (j := 3) (k2 := 48) (lv2 := [some (.inr (.inr (22, 0))), some (.inl v1), some (.inl v2), some (.inl v3), some (.inl v4), some (.inl v5), some (.inl v6), none]) (rest := []) ((R_X11_beside (by omega) q35)) s50 ?_
      have s38 : ∀ n, ax_ex (e + 10) L_X11_walks 48 [some (.inr (.inr (22, 0))), some (.inl v1), some (.inl v2), some (.inl v3), some (.inl v4), some (.inl v5), some (.inl v6), none] [.inl r36] m (n + 4) = if r36 = (-1) then ax_ex (e + 10) L_X11_walks 74 [some (.inr (.inr (22, 0))), some (.inl v1), some (.inl v2), some (.inl v3), some (.inl v4), some (.inl v5), some (.inl v6), some (.inl r36)] [] m n else ax_ex (e + 10) L_X11_walks 52 [some (.inr (.inr (22, 0))), some (.inl v1), some (.inl v2), some (.inl v3), some (.inl v4), some (.inl v5), some (.inl v6), some (.inl r36)] [] m n := fun n => rfl
      by_cases c37 : r36 = (-1)
      · rw [if_pos c37] at h
        refine ax_gt c37 s38 ?_
        refine ax_go (j := 2) (k2 := 42) (lv2 := [some (.inr (.inr (22, 0))), some (.inl v1), some (.inl v2), some (.inl v3), some (.inl v4), some (.inl v5), some (.inl (v6 + 1)), some (.inl r36)]) (st2 := []) (m2 := m) (fun n => rfl) ?_
        exact ax_fg (lv2 := [some (.inr (.inr (22, 0))), some (.inl v1), some (.inl v2), some (.inl v3), some (.inl v4), some (.inl v5), some (.inl (v6 + 1)), none]) ⟨rfl, rfl, rfl, rfl, rfl, rfl, rfl, trivial⟩ (ih m v3 (v6 + 1) _ h)
      · rw [if_neg c37] at h
        refine ax_gf c37 s38 ?_
        have s40 : ∀ n, ax_ex (e + 10) L_X11_walks 52 [some (.inr (.inr (22, 0))), some (.inl v1), some (.inl v2), some (.inl v3), some (.inl v4), some (.inl v5), some (.inl v6), some (.inl r36)] [] m (n + 4) = if ax_ok r36 64 = true then ax_ex (e + 10) L_X11_walks 56 [some (.inr (.inr (22, 0))), some (.inl v1), some (.inl v2), some (.inl v3), some (.inl v4), some (.inl v5), some (.inl v6), some (.inl r36)] [.inl (m.1 37 0 r36.toNatClampNeg)] m n else none := fun n => rfl
        by_cases c39 : ax_ok r36 64 = true
        · rw [if_pos c39] at h
          refine ax_gt c39 s40 ?_
          have s42 : ∀ n, ax_ex (e + 10) L_X11_walks 56 [some (.inr (.inr (22, 0))), some (.inl v1), some (.inl v2), some (.inl v3), some (.inl v4), some (.inl v5), some (.inl v6), some (.inl r36)] [.inl (m.1 37 0 r36.toNatClampNeg)] m (n + 2) = if (m.1 37 0 r36.toNatClampNeg) = (-1) then ax_ex (e + 10) L_X11_walks 58 [some (.inr (.inr (22, 0))), some (.inl v1), some (.inl v2), some (.inl v3), some (.inl v4), some (.inl v5), some (.inl v6), some (.inl r36)] [] m n else ax_ex (e + 10) L_X11_walks 74 [some (.inr (.inr (22, 0))), some (.inl v1), some (.inl v2), some (.inl v3), some (.inl v4), some (.inl v5), some (.inl v6), some (.inl r36)] [] m n := fun n => rfl
          by_cases c41 : (m.1 37 0 r36.toNatClampNeg) = (-1)
          · rw [if_pos c41] at h
            refine ax_gt c41 s42 ?_
            obtain ⟨r44, q43, h⟩ := ax_b_of h
            have s49 : ∀ n, ax_ex (e + 10) L_X11_walks 58 [some (.inr (.inr (22, 0))), some (.inl v1), some (.inl v2), some (.inl v3), some (.inl v4), some (.inl v5), some (.inl v6), some (.inl r36)] [] m (n + 5) = ax_aft (fun s m2 => ax_ex (e + 10) L_X11_walks 63 [some (.inr (.inr (22, 0))), some (.inl v1), some (.inl v2), some (.inl v3), some (.inl v4), some (.inl v5), some (.inl v6), some (.inl r36)] s m2 n) [] (ax_ex (e + 9) L_X11_isQuiet 0 (ax_entry [.inr (.inr (22, 0)), .inl v1, .inl r36, .inl v2] 5) [] m n) := fun n => rfl
            refine ax_gci (j := 5) (k2 := 63) (lv2 := [some (.inr (.inr (22, 0))), some (.inl v1), some (.inl v2), some (.inl v3), some (.inl v4), some (.inl v5), some (.inl v6), some (.inl r36)]) (rest := []) ((R_X11_isQuiet (by omega) q43)) s49 ?_
            have s46 : ∀ n, ax_ex (e + 10) L_X11_walks 63 [some (.inr (.inr (22, 0))), some (.inl v1), some (.inl v2), some (.inl v3), some (.inl v4), some (.inl v5), some (.inl v6), some (.inl r36)] [.inl r44] m (n + 1) = if r44 = 0 then ax_ex (e + 10) L_X11_walks 64 [some (.inr (.inr (22, 0))), some (.inl v1), some (.inl v2), some (.inl v3), some (.inl v4), some (.inl v5), some (.inl v6), some (.inl r36)] [] m n else ax_ex (e + 10) L_X11_walks 65 [some (.inr (.inr (22, 0))), some (.inl v1), some (.inl v2), some (.inl v3), some (.inl v4), some (.inl v5), some (.inl v6), some (.inl r36)] [] m n := fun n => rfl
            by_cases c45 : r44 = 0
            · rw [if_pos c45] at h
              refine ax_gt c45 s46 ?_
              refine ax_go (j := 3) (k2 := 42) (lv2 := [some (.inr (.inr (22, 0))), some (.inl v1), some (.inl v2), some (.inl v3), some (.inl v4), some (.inl v5), some (.inl (v6 + 1)), some (.inl r36)]) (st2 := []) (m2 := m) (fun n => rfl) ?_
              exact ax_fg (lv2 := [some (.inr (.inr (22, 0))), some (.inl v1), some (.inl v2), some (.inl v3), some (.inl v4), some (.inl v5), some (.inl (v6 + 1)), none]) ⟨rfl, rfl, rfl, rfl, rfl, rfl, rfl, trivial⟩ (ih m v3 (v6 + 1) _ h)
            · rw [if_neg c45] at h
              refine ax_gf c45 s46 ?_
              have s48 : ∀ n, ax_ex (e + 10) L_X11_walks 65 [some (.inr (.inr (22, 0))), some (.inl v1), some (.inl v2), some (.inl v3), some (.inl v4), some (.inl v5), some (.inl v6), some (.inl r36)] [] m (n + 7) = if ax_ok r36 64 = true then ax_ex (e + 10) L_X11_walks 72 [some (.inr (.inr (22, 0))), some (.inl v1), some (.inl v2), some (.inl v3), some (.inl v4), some (.inl v5), some (.inl v6), some (.inl r36)] [] (ax_ui m 37 0 r36.toNatClampNeg (v4 + 1)) n else none := fun n => rfl
              by_cases c47 : ax_ok r36 64 = true
              · rw [if_pos c47] at h
                refine ax_gt c47 s48 ?_
                refine ax_go (j := 4) (k2 := 42) (lv2 := [some (.inr (.inr (22, 0))), some (.inl v1), some (.inl v2), some (.inl 1), some (.inl v4), some (.inl v5), some (.inl (v6 + 1)), some (.inl r36)]) (st2 := []) (m2 := (ax_ui m 37 0 r36.toNatClampNeg (v4 + 1))) (fun n => rfl) ?_
                exact ax_fg (lv2 := [some (.inr (.inr (22, 0))), some (.inl v1), some (.inl v2), some (.inl 1), some (.inl v4), some (.inl v5), some (.inl (v6 + 1)), none]) ⟨rfl, rfl, rfl, rfl, rfl, rfl, rfl, trivial⟩ (ih (ax_ui m 37 0 r36.toNatClampNeg (v4 + 1)) 1 (v6 + 1) _ h)
              · rw [if_neg c47] at h
                cases h
          · rw [if_neg c41] at h
            refine ax_gf c41 s42 ?_
            refine ax_go (j := 2) (k2 := 42) (lv2 := [some (.inr (.inr (22, 0))), some (.inl v1), some (.inl v2), some (.inl v3), some (.inl v4), some (.inl v5), some (.inl (v6 + 1)), some (.inl r36)]) (st2 := []) (m2 := m) (fun n => rfl) ?_
            exact ax_fg (lv2 := [some (.inr (.inr (22, 0))), some (.inl v1), some (.inl v2), some (.inl v3), some (.inl v4), some (.inl v5), some (.inl (v6 + 1)), none]) ⟨rfl, rfl, rfl, rfl, rfl, rfl, rfl, trivial⟩ (ih m v3 (v6 + 1) _ h)
        · rw [if_neg c39] at h
          cases h
def F_X11_walks_L30 : Nat → (ax_M → Int32 → Option ax_M) → ax_M → Int32 → Int32 → Int32 → Int32 → Int32 → Option ax_M
  | 0, _, _, _, _, _, _, _ => none
  | n + 1, K78, m, v1, v2, v3, v4, v5 => if 64 ≤ v5 then (K78 m v3) else (if ax_ok v5 64 = true then (if (m.1 37 0 v5.toNatClampNeg) = v4 then (F_X11_walks_L42 ax_FU (fun m61 y60 => F_X11_walks_L30 n K78 m61 v1 v2 y60 v4 (v5 + 1)) m v1 v2 v3 v4 v5 0) else (F_X11_walks_L30 n K78 m v1 v2 v3 v4 (v5 + 1))) else (none))
set_option maxRecDepth 20000 in
set_option maxHeartbeats 4000000 in
theorem R_X11_walks_L30 {e : Nat} {v1 : Int32} {v2 : Int32} {v4 : Int32} {K78 : ax_M → Int32 → Option ax_M} (hK78 : ∀ (my : ax_M) (y3 : Int32) (q : ax_M), K78 my y3 = some q → ax_Ru (e + 10) L_X11_walks 78 [some (.inr (.inr (22, 0))), some (.inl v1), some (.inl v2), some (.inl y3), some (.inl v4), none, none, none] [] my (none, q)) : ∀ (n : Nat) (m : ax_M) (v3 : Int32) (v5 : Int32) (q : ax_M), F_X11_walks_L30 n K78 m v1 v2 v3 v4 v5 = some q → ax_Ru (e + 10) L_X11_walks 30 [some (.inr (.inr (22, 0))), some (.inl v1), some (.inl v2), some (.inl v3), some (.inl v4), some (.inl v5), none, none] [] m (none, q) := by
  intro n
  induction n with
  | zero =>
    intro m v3 v5 q h
    cases h
  | succ n ih =>
    intro m v3 v5 q h
    rw [F_X11_walks_L30] at h
    have s55 : ∀ n, ax_ex (e + 10) L_X11_walks 30 [some (.inr (.inr (22, 0))), some (.inl v1), some (.inl v2), some (.inl v3), some (.inl v4), some (.inl v5), none, none] [] m (n + 3) = if 64 ≤ v5 then ax_ex (e + 10) L_X11_walks 78 [some (.inr (.inr (22, 0))), some (.inl v1), some (.inl v2), some (.inl v3), some (.inl v4), some (.inl v5), none, none] [] m n else ax_ex (e + 10) L_X11_walks 33 [some (.inr (.inr (22, 0))), some (.inl v1), some (.inl v2), some (.inl v3), some (.inl v4), some (.inl v5), none, none] [] m n := fun n => rfl
    by_cases c54 : 64 ≤ v5
    · rw [if_pos c54] at h
      refine ax_gt c54 s55 ?_
      exact ax_fg (lv2 := [some (.inr (.inr (22, 0))), some (.inl v1), some (.inl v2), some (.inl v3), some (.inl v4), none, none, none]) ⟨rfl, rfl, rfl, rfl, rfl, trivial⟩ (hK78 m v3 _ h)
    · rw [if_neg c54] at h
      refine ax_gf c54 s55 ?_
      have s57 : ∀ n, ax_ex (e + 10) L_X11_walks 33 [some (.inr (.inr (22, 0))), some (.inl v1), some (.inl v2), some (.inl v3), some (.inl v4), some (.inl v5), none, none] [] m (n + 4) = if ax_ok v5 64 = true then ax_ex (e + 10) L_X11_walks 37 [some (.inr (.inr (22, 0))), some (.inl v1), some (.inl v2), some (.inl v3), some (.inl v4), some (.inl v5), none, none] [.inl (m.1 37 0 v5.toNatClampNeg)] m n else none := fun n => rfl
      by_cases c56 : ax_ok v5 64 = true
      · rw [if_pos c56] at h
        refine ax_gt c56 s57 ?_
        have s59 : ∀ n, ax_ex (e + 10) L_X11_walks 37 [some (.inr (.inr (22, 0))), some (.inl v1), some (.inl v2), some (.inl v3), some (.inl v4), some (.inl v5), none, none] [.inl (m.1 37 0 v5.toNatClampNeg)] m (n + 2) = if (m.1 37 0 v5.toNatClampNeg) = v4 then ax_ex (e + 10) L_X11_walks 40 [some (.inr (.inr (22, 0))), some (.inl v1), some (.inl v2), some (.inl v3), some (.inl v4), some (.inl v5), none, none] [] m n else ax_ex (e + 10) L_X11_walks 39 [some (.inr (.inr (22, 0))), some (.inl v1), some (.inl v2), some (.inl v3), some (.inl v4), some (.inl v5), none, none] [] m n := fun n => rfl
        by_cases c58 : (m.1 37 0 v5.toNatClampNeg) = v4
        · rw [if_pos c58] at h
          refine ax_gt c58 s59 ?_
          refine ax_go (j := 2) (k2 := 42) (lv2 := [some (.inr (.inr (22, 0))), some (.inl v1), some (.inl v2), some (.inl v3), some (.inl v4), some (.inl v5), some (.inl 0), none]) (st2 := []) (m2 := m) (fun n => rfl) ?_
          refine ax_fg (lv2 := [some (.inr (.inr (22, 0))), some (.inl v1), some (.inl v2), some (.inl v3), some (.inl v4), some (.inl v5), some (.inl 0), none]) ⟨rfl, rfl, rfl, rfl, rfl, rfl, rfl, trivial⟩ ?_
          refine R_X11_walks_L42 ?_ _ m v3 0 _ h
          · intro m61 y60 q h
            refine ax_go (j := 2) (k2 := 30) (lv2 := [some (.inr (.inr (22, 0))), some (.inl v1), some (.inl v2), some (.inl y60), some (.inl v4), some (.inl (v5 + 1)), none, none]) (st2 := []) (m2 := m61) (fun n => rfl) ?_
            exact ax_fg (lv2 := [some (.inr (.inr (22, 0))), some (.inl v1), some (.inl v2), some (.inl y60), some (.inl v4), some (.inl (v5 + 1)), none, none]) ⟨rfl, rfl, rfl, rfl, rfl, rfl, trivial⟩ (ih m61 y60 (v5 + 1) _ h)
        · rw [if_neg c58] at h
          refine ax_gf c58 s59 ?_
          refine ax_go (j := 3) (k2 := 30) (lv2 := [some (.inr (.inr (22, 0))), some (.inl v1), some (.inl v2), some (.inl v3), some (.inl v4), some (.inl (v5 + 1)), none, none]) (st2 := []) (m2 := m) (fun n => rfl) ?_
          exact ax_fg (lv2 := [some (.inr (.inr (22, 0))), some (.inl v1), some (.inl v2), some (.inl v3), some (.inl v4), some (.inl (v5 + 1)), none, none]) ⟨rfl, rfl, rfl, rfl, rfl, rfl, trivial⟩ (ih m v3 (v5 + 1) _ h)
      · rw [if_neg c56] at h
        cases h
def F_X11_walks_L24 : Nat → ax_M → Int32 → Int32 → Int32 → Int32 → Option ax_M
  | 0, _, _, _, _, _ => none
  | n + 1, m, v1, v2, v3, v4 => if v3 = 0 then (some m) else (F_X11_walks_L30 ax_FU (fun m64 y63 => F_X11_walks_L24 n m64 v1 v2 y63 (v4 + 1)) m v1 v2 0 v4 0)
set_option maxRecDepth 20000 in
set_option maxHeartbeats 4000000 in
theorem R_X11_walks_L24 {e : Nat} {v1 : Int32} {v2 : Int32} : ∀ (n : Nat) (m : ax_M) (v3 : Int32) (v4 : Int32) (q : ax_M), F_X11_walks_L24 n m v1 v2 v3 v4 = some q → ax_Ru (e + 10) L_X11_walks 24 [some (.inr (.inr (22, 0))), some (.inl v1), some (.inl v2), some (.inl v3), some (.inl v4), none, none, none] [] m (none, q) := by
  intro n
  induction n with
  | zero =>
    intro m v3 v4 q h
    cases h
  | succ n ih =>
    intro m v3 v4 q h
    rw [F_X11_walks_L24] at h
    have s8 : ∀ n, ax_ex (e + 10) L_X11_walks 24 [some (.inr (.inr (22, 0))), some (.inl v1), some (.inl v2), some (.inl v3), some (.inl v4), none, none, none] [] m (n + 2) = if v3 = 0 then ax_ex (e + 10) L_X11_walks 80 [some (.inr (.inr (22, 0))), some (.inl v1), some (.inl v2), some (.inl v3), some (.inl v4), none, none, none] [] m n else ax_ex (e + 10) L_X11_walks 26 [some (.inr (.inr (22, 0))), some (.inl v1), some (.inl v2), some (.inl v3), some (.inl v4), none, none, none] [] m n := fun n => rfl
    by_cases c7 : v3 = 0
    · rw [if_pos c7] at h
      refine ax_gt c7 s8 ?_
      obtain rfl := Option.some.inj h
      exact ax_rs 1 (fun n => rfl)
    · rw [if_neg c7] at h
      refine ax_gf c7 s8 ?_
      refine ax_go (j := 4) (k2 := 30) (lv2 := [some (.inr (.inr (22, 0))), some (.inl v1), some (.inl v2), some (.inl 0), some (.inl v4), some (.inl 0), none, none]) (st2 := []) (m2 := m) (fun n => rfl) ?_
      refine ax_fg (lv2 := [some (.inr (.inr (22, 0))), some (.inl v1), some (.inl v2), some (.inl 0), some (.inl v4), some (.inl 0), none, none]) ⟨rfl, rfl, rfl, rfl, rfl, rfl, trivial⟩ ?_
      refine R_X11_walks_L30 ?_ _ m 0 0 _ h
      · intro m64 y63 q h
        refine ax_go (j := 2) (k2 := 24) (lv2 := [some (.inr (.inr (22, 0))), some (.inl v1), some (.inl v2), some (.inl y63), some (.inl (v4 + 1)), none, none, none]) (st2 := []) (m2 := m64) (fun n => rfl) ?_
        exact ax_fg (lv2 := [some (.inr (.inr (22, 0))), some (.inl v1), some (.inl v2), some (.inl y63), some (.inl (v4 + 1)), none, none, none]) ⟨rfl, rfl, rfl, rfl, rfl, trivial⟩ (ih m64 y63 (v4 + 1) _ h)
def F_X11_walks_L2 : Nat → ax_M → Int32 → Int32 → Int32 → Option ax_M
  | 0, _, _, _, _ => none
  | n + 1, m, v1, v2, v3 => if 64 ≤ v3 then (if ax_ok v1 8 = true then (if ax_ok (m.1 24 0 v1.toNatClampNeg) 64 = true then (F_X11_walks_L24 ax_FU (ax_ui m 37 0 (m.1 24 0 v1.toNatClampNeg).toNatClampNeg 0) v1 v2 1 0) else (none)) else (none)) else (if ax_ok v3 64 = true then (F_X11_walks_L2 n (ax_ui m 37 0 v3.toNatClampNeg (-1)) v1 v2 (v3 + 1)) else (none))
set_option maxRecDepth 20000 in
set_option maxHeartbeats 4000000 in
theorem R_X11_walks_L2 {e : Nat} {v1 : Int32} {v2 : Int32} : ∀ (n : Nat) (m : ax_M) (v3 : Int32) (q : ax_M), F_X11_walks_L2 n m v1 v2 v3 = some q → ax_Ru (e + 10) L_X11_walks 2 [some (.inr (.inr (22, 0))), some (.inl v1), some (.inl v2), some (.inl v3), none, none, none, none] [] m (none, q) := by
  intro n
  induction n with
  | zero =>
    intro m v3 q h
    cases h
  | succ n ih =>
    intro m v3 q h
    rw [F_X11_walks_L2] at h
    have s2 : ∀ n, ax_ex (e + 10) L_X11_walks 2 [some (.inr (.inr (22, 0))), some (.inl v1), some (.inl v2), some (.inl v3), none, none, none, none] [] m (n + 3) = if 64 ≤ v3 then ax_ex (e + 10) L_X11_walks 12 [some (.inr (.inr (22, 0))), some (.inl v1), some (.inl v2), some (.inl v3), none, none, none, none] [] m n else ax_ex (e + 10) L_X11_walks 5 [some (.inr (.inr (22, 0))), some (.inl v1), some (.inl v2), some (.inl v3), none, none, none, none] [] m n := fun n => rfl
    by_cases c1 : 64 ≤ v3
    · rw [if_pos c1] at h
      refine ax_gt c1 s2 ?_
      have s4 : ∀ n, ax_ex (e + 10) L_X11_walks 12 [some (.inr (.inr (22, 0))), some (.inl v1), some (.inl v2), some (.inl v3), none, none, none, none] [] m (n + 6) = if ax_ok v1 8 = true then ax_ex (e + 10) L_X11_walks 18 [some (.inr (.inr (22, 0))), some (.inl v1), some (.inl v2), some (.inl v3), none, none, none, none] [.inl (m.1 24 0 v1.toNatClampNeg), .inr (.inr (37, 0))] m n else none := fun n => rfl
      by_cases c3 : ax_ok v1 8 = true
      · rw [if_pos c3] at h
        refine ax_gt c3 s4 ?_
        have s6 : ∀ n, ax_ex (e + 10) L_X11_walks 18 [some (.inr (.inr (22, 0))), some (.inl v1), some (.inl v2), some (.inl v3), none, none, none, none] [.inl (m.1 24 0 v1.toNatClampNeg), .inr (.inr (37, 0))] m (n + 2) = if ax_ok (m.1 24 0 v1.toNatClampNeg) 64 = true then ax_ex (e + 10) L_X11_walks 20 [some (.inr (.inr (22, 0))), some (.inl v1), some (.inl v2), some (.inl v3), none, none, none, none] [] (ax_ui m 37 0 (m.1 24 0 v1.toNatClampNeg).toNatClampNeg 0) n else none := fun n => rfl
        by_cases c5 : ax_ok (m.1 24 0 v1.toNatClampNeg) 64 = true
        · rw [if_pos c5] at h
          refine ax_gt c5 s6 ?_
          refine ax_go (j := 4) (k2 := 24) (lv2 := [some (.inr (.inr (22, 0))), some (.inl v1), some (.inl v2), some (.inl 1), some (.inl 0), none, none, none]) (st2 := []) (m2 := (ax_ui m 37 0 (m.1 24 0 v1.toNatClampNeg).toNatClampNeg 0)) (fun n => rfl) ?_
          refine ax_fg (lv2 := [some (.inr (.inr (22, 0))), some (.inl v1), some (.inl v2), some (.inl 1), some (.inl 0), none, none, none]) ⟨rfl, rfl, rfl, rfl, rfl, trivial⟩ ?_
          refine R_X11_walks_L24 _ (ax_ui m 37 0 (m.1 24 0 v1.toNatClampNeg).toNatClampNeg 0) 1 0 _ h
        · rw [if_neg c5] at h
          cases h
      · rw [if_neg c3] at h
        cases h
    · rw [if_neg c1] at h
      refine ax_gf c1 s2 ?_
      have s68 : ∀ n, ax_ex (e + 10) L_X11_walks 5 [some (.inr (.inr (22, 0))), some (.inl v1), some (.inl v2), some (.inl v3), none, none, none, none] [] m (n + 5) = if ax_ok v3 64 = true then ax_ex (e + 10) L_X11_walks 10 [some (.inr (.inr (22, 0))), some (.inl v1), some (.inl v2), some (.inl v3), none, none, none, none] [] (ax_ui m 37 0 v3.toNatClampNeg (-1)) n else none := fun n => rfl
      by_cases c67 : ax_ok v3 64 = true
      · rw [if_pos c67] at h
        refine ax_gt c67 s68 ?_
        refine ax_go (j := 2) (k2 := 2) (lv2 := [some (.inr (.inr (22, 0))), some (.inl v1), some (.inl v2), some (.inl (v3 + 1)), none, none, none, none]) (st2 := []) (m2 := (ax_ui m 37 0 v3.toNatClampNeg (-1))) (fun n => rfl) ?_
        exact ax_fg (lv2 := [some (.inr (.inr (22, 0))), some (.inl v1), some (.inl v2), some (.inl (v3 + 1)), none, none, none, none]) ⟨rfl, rfl, rfl, rfl, trivial⟩ (ih (ax_ui m 37 0 v3.toNatClampNeg (-1)) (v3 + 1) _ h)
      · rw [if_neg c67] at h
        cases h
def F_X11_walks (m : ax_M) (v1 : Int32) (v2 : Int32) : Option ax_M := F_X11_walks_L2 ax_FU m v1 v2 0
set_option maxRecDepth 20000 in
set_option maxHeartbeats 4000000 in
theorem R_X11_walks {d : Nat} (hd : 10 ≤ d) {m : ax_M} {v1 : Int32} {v2 : Int32} {q : ax_M} (h : F_X11_walks m v1 v2 = some q) : ax_Ru d L_X11_walks 0 (ax_entry [.inr (.inr (22, 0)), .inl v1, .inl v2] 8) [] m (none, q) := by
  obtain ⟨e, rfl⟩ : ∃ e, d = e + 10 := ⟨d - 10, by omega⟩
  unfold F_X11_walks at h
  refine ax_go (j := 2) (k2 := 2) (lv2 := [some (.inr (.inr (22, 0))), some (.inl v1), some (.inl v2), some (.inl 0), none, none, none, none]) (st2 := []) (m2 := m) (fun n => rfl) ?_
  refine ax_fg (lv2 := [some (.inr (.inr (22, 0))), some (.inl v1), some (.inl v2), some (.inl 0), none, none, none, none]) ⟨rfl, rfl, rfl, rfl, trivial⟩ ?_
  refine R_X11_walks_L2 _ m 0 _ h
def F_X11_walksBack_L54 : Nat → (ax_M → Int32 → Option ax_M) → ax_M → Int32 → Int32 → Int32 → Int32 → Int32 → Int32 → Option ax_M
  | 0, _, _, _, _, _, _, _, _ => none
  | n + 1, K94, m, v1, v2, v3, v4, v5, v6 => if 4 ≤ v6 then (K94 m v3) else (ax_b (F_X11_beside v5 v6) (fun r46 => if r46 = (-1) then (F_X11_walksBack_L54 n K94 m v1 v2 v3 v4 v5 (v6 + 1)) else (if ax_ok r46 64 = true then (if (m.1 37 0 r46.toNatClampNeg) = (-1) then (if ax_ok v1 8 = true then (if r46 = (m.1 24 0 v1.toNatClampNeg) then (if ax_ok r46 64 = true then (F_X11_walksBack_L54 n K94 (ax_ui m 37 0 r46.toNatClampNeg (v4 + 1)) v1 v2 1 v4 v5 (v6 + 1)) else (none)) else (ax_b (F_X11_isQuiet m v1 r46 (-1)) (fun r60 => if r60 = 0 then (F_X11_walksBack_L54 n K94 m v1 v2 v3 v4 v5 (v6 + 1)) else (if ax_ok r46 64 = true then (F_X11_walksBack_L54 n K94 (ax_ui m 37 0 r46.toNatClampNeg (v4 + 1)) v1 v2 1 v4 v5 (v6 + 1)) else (none))))) else (none)) else (F_X11_walksBack_L54 n K94 m v1 v2 v3 v4 v5 (v6 + 1))) else (none))))
set_option maxRecDepth 20000 in
set_option maxHeartbeats 4000000 in
theorem R_X11_walksBack_L54 {e : Nat} {v1 : Int32} {v2 : Int32} {v4 : Int32} {v5 : Int32} {K94 : ax_M → Int32 → Option ax_M} (hK94 : ∀ (my : ax_M) (y3 : Int32) (q : ax_M), K94 my y3 = some q → ax_Ru (e + 10) L_X11_walksBack 94 [some (.inr (.inr (22, 0))), some (.inl v1), some (.inl v2), some (.inl y3), some (.inl v4), some (.inl v5), none, none] [] my (none, q)) : ∀ (n : Nat) (m : ax_M) (v3 : Int32) (v6 : Int32) (q : ax_M), F_X11_walksBack_L54 n K94 m v1 v2 v3 v4 v5 v6 = some q → ax_Ru (e + 10) L_X11_walksBack 54 [some (.inr (.inr (22, 0))), some (.inl v1), some (.inl v2), some (.inl v3), some (.inl v4), some (.inl v5), some (.inl v6), none] [] m (none, q) := by
  intro n
  induction n with
  | zero =>
    intro m v3 v6 q h
    cases h
  | succ n ih =>
    intro m v3 v6 q h
    rw [F_X11_walksBack_L54] at h
    have s44 : ∀ n, ax_ex (e + 10) L_X11_walksBack 54 [some (.inr (.inr (22, 0))), some (.inl v1), some (.inl v2), some (.inl v3), some (.inl v4), some (.inl v5), some (.inl v6), none] [] m (n + 3) = if 4 ≤ v6 then ax_ex (e + 10) L_X11_walksBack 94 [some (.inr (.inr (22, 0))), some (.inl v1), some (.inl v2), some (.inl v3), some (.inl v4), some (.inl v5), some (.inl v6), none] [] m n else ax_ex (e + 10) L_X11_walksBack 57 [some (.inr (.inr (22, 0))), some (.inl v1), some (.inl v2), some (.inl v3), some (.inl v4), some (.inl v5), some (.inl v6), none] [] m n := fun n => rfl
    by_cases c43 : 4 ≤ v6
    · rw [if_pos c43] at h
      refine ax_gt c43 s44 ?_
      exact ax_fg (lv2 := [some (.inr (.inr (22, 0))), some (.inl v1), some (.inl v2), some (.inl v3), some (.inl v4), some (.inl v5), none, none]) ⟨rfl, rfl, rfl, rfl, rfl, rfl, trivial⟩ (hK94 m v3 _ h)
    · rw [if_neg c43] at h
      refine ax_gf c43 s44 ?_
      obtain ⟨r46, q45, h⟩ := ax_b_of h
      have s66 : ∀ n, ax_ex (e + 10) L_X11_walksBack 57 [some (.inr (.inr (22, 0))), some (.inl v1), some (.inl v2), some (.inl v3), some (.inl v4), some (.inl v5), some (.inl v6), none] [] m (n + 3) = ax_aft (fun s m2 => ax_ex (e + 10) L_X11_walksBack 60 [some (.inr (.inr (22, 0))), some (.inl v1), some (.inl v2), some (.inl v3), some (.inl v4), some (.inl v5), some (.inl v6), none] s m2 n) [] (ax_ex (e + 9) L_X11_beside 0 (ax_entry [.inl v5, .inl v6] 2) [] m n) := fun n => rfl
      refine ax_gci (j := 3) (k2 := 60) (lv2 := [some (.inr (.inr (22, 0))), some (.inl v1), some (.inl v2), some (.inl v3), some (.inl v4), some (.inl v5), some (.inl v6), none]) (rest := []) ((R_X11_beside (by omega) q45)) s66 ?_
      have s48 : ∀ n, ax_ex (e + 10) L_X11_walksBack 60 [some (.inr (.inr (22, 0))), some (.inl v1), some (.inl v2), some (.inl v3), some (.inl v4), some (.inl v5), some (.inl v6), none] [.inl r46] m (n + 4) = if r46 = (-1) then ax_ex (e + 10) L_X11_walksBack 92 [some (.inr (.inr (22, 0))), some (.inl v1), some (.inl v2), some (.inl v3), some (.inl v4), some (.inl v5), some (.inl v6), some (.inl r46)] [] m n else ax_ex (e + 10) L_X11_walksBack 64 [some (.inr (.inr (22, 0))), some (.inl v1), some (.inl v2), some (.inl v3), some (.inl v4), some (.inl v5), some (.inl v6), some (.inl r46)] [] m n := fun n => rfl
      by_cases c47 : r46 = (-1)
      · rw [if_pos c47] at h
        refine ax_gt c47 s48 ?_
        refine ax_go (j := 2) (k2 := 54) (lv2 := [some (.inr (.inr (22, 0))), some (.inl v1), some (.inl v2), some (.inl v3), some (.inl v4), some (.inl v5), some (.inl (v6 + 1)), some (.inl r46)]) (st2 := []) (m2 := m) (fun n => rfl) ?_
        exact ax_fg (lv2 := [some (.inr (.inr (22, 0))), some (.inl v1), some (.inl v2), some (.inl v3), some (.inl v4), some (.inl v5), some (.inl (v6 + 1)), none]) ⟨rfl, rfl, rfl, rfl, rfl, rfl, rfl, trivial⟩ (ih m v3 (v6 + 1) _ h)
      · rw [if_neg c47] at h
        refine ax_gf c47 s48 ?_
        have s50 : ∀ n, ax_ex (e + 10) L_X11_walksBack 64 [some (.inr (.inr (22, 0))), some (.inl v1), some (.inl v2), some (.inl v3), some (.inl v4), some (.inl v5), some (.inl v6), some (.inl r46)] [] m (n + 4) = if ax_ok r46 64 = true then ax_ex (e + 10) L_X11_walksBack 68 [some (.inr (.inr (22, 0))), some (.inl v1), some (.inl v2), some (.inl v3), some (.inl v4), some (.inl v5), some (.inl v6), some (.inl r46)] [.inl (m.1 37 0 r46.toNatClampNeg)] m n else none := fun n => rfl
        by_cases c49 : ax_ok r46 64 = true
        · rw [if_pos c49] at h
          refine ax_gt c49 s50 ?_
          have s52 : ∀ n, ax_ex (e + 10) L_X11_walksBack 68 [some (.inr (.inr (22, 0))), some (.inl v1), some (.inl v2), some (.inl v3), some (.inl v4), some (.inl v5), some (.inl v6), some (.inl r46)] [.inl (m.1 37 0 r46.toNatClampNeg)] m (n + 2) = if (m.1 37 0 r46.toNatClampNeg) = (-1) then ax_ex (e + 10) L_X11_walksBack 70 [some (.inr (.inr (22, 0))), some (.inl v1), some (.inl v2), some (.inl v3), some (.inl v4), some (.inl v5), some (.inl v6), some (.inl r46)] [] m n else ax_ex (e + 10) L_X11_walksBack 92 [some (.inr (.inr (22, 0))), some (.inl v1), some (.inl v2), some (.inl v3), some (.inl v4), some (.inl v5), some (.inl v6), some (.inl r46)] [] m n := fun n => rfl
          by_cases c51 : (m.1 37 0 r46.toNatClampNeg) = (-1)
          · rw [if_pos c51] at h
            refine ax_gt c51 s52 ?_
            have s54 : ∀ n, ax_ex (e + 10) L_X11_walksBack 70 [some (.inr (.inr (22, 0))), some (.inl v1), some (.inl v2), some (.inl v3), some (.inl v4), some (.inl v5), some (.inl v6), some (.inl r46)] [] m (n + 5) = if ax_ok v1 8 = true then ax_ex (e + 10) L_X11_walksBack 75 [some (.inr (.inr (22, 0))), some (.inl v1), some (.inl v2), some (.inl v3), some (.inl v4), some (.inl v5), some (.inl v6), some (.inl r46)] [.inl (m.1 24 0 v1.toNatClampNeg), .inl r46] m n else none := fun n => rfl
            by_cases c53 : ax_ok v1 8 = true
            · rw [if_pos c53] at h
              refine ax_gt c53 s54 ?_
              have s56 : ∀ n, ax_ex (e + 10) L_X11_walksBack 75 [some (.inr (.inr (22, 0))), some (.inl v1), some (.inl v2), some (.inl v3), some (.inl v4), some (.inl v5), some (.inl v6), some (.inl r46)] [.inl (m.1 24 0 v1.toNatClampNeg), .inl r46] m (n + 1) = if r46 = (m.1 24 0 v1.toNatClampNeg) then ax_ex (e + 10) L_X11_walksBack 83 [some (.inr (.inr (22, 0))), some (.inl v1), some (.inl v2), some (.inl v3), some (.inl v4), some (.inl v5), some (.inl v6), some (.inl r46)] [] m n else ax_ex (e + 10) L_X11_walksBack 76 [some (.inr (.inr (22, 0))), some (.inl v1), some (.inl v2), some (.inl v3), some (.inl v4), some (.inl v5), some (.inl v6), some (.inl r46)] [] m n := fun n => rfl
              by_cases c55 : r46 = (m.1 24 0 v1.toNatClampNeg)
              · rw [if_pos c55] at h
                refine ax_gt c55 s56 ?_
                have s58 : ∀ n, ax_ex (e + 10) L_X11_walksBack 83 [some (.inr (.inr (22, 0))), some (.inl v1), some (.inl v2), some (.inl v3), some (.inl v4), some (.inl v5), some (.inl v6), some (.inl r46)] [] m (n + 7) = if ax_ok r46 64 = true then ax_ex (e + 10) L_X11_walksBack 90 [some (.inr (.inr (22, 0))), some (.inl v1), some (.inl v2), some (.inl v3), some (.inl v4), some (.inl v5), some (.inl v6), some (.inl r46)] [] (ax_ui m 37 0 r46.toNatClampNeg (v4 + 1)) n else none := fun n => rfl
                by_cases c57 : ax_ok r46 64 = true
                · rw [if_pos c57] at h
                  refine ax_gt c57 s58 ?_
                  refine ax_go (j := 4) (k2 := 54) (lv2 := [some (.inr (.inr (22, 0))), some (.inl v1), some (.inl v2), some (.inl 1), some (.inl v4), some (.inl v5), some (.inl (v6 + 1)), some (.inl r46)]) (st2 := []) (m2 := (ax_ui m 37 0 r46.toNatClampNeg (v4 + 1))) (fun n => rfl) ?_
                  exact ax_fg (lv2 := [some (.inr (.inr (22, 0))), some (.inl v1), some (.inl v2), some (.inl 1), some (.inl v4), some (.inl v5), some (.inl (v6 + 1)), none]) ⟨rfl, rfl, rfl, rfl, rfl, rfl, rfl, trivial⟩ (ih (ax_ui m 37 0 r46.toNatClampNeg (v4 + 1)) 1 (v6 + 1) _ h)
                · rw [if_neg c57] at h
                  cases h
              · rw [if_neg c55] at h
                refine ax_gf c55 s56 ?_
                obtain ⟨r60, q59, h⟩ := ax_b_of h
                have s65 : ∀ n, ax_ex (e + 10) L_X11_walksBack 76 [some (.inr (.inr (22, 0))), some (.inl v1), some (.inl v2), some (.inl v3), some (.inl v4), some (.inl v5), some (.inl v6), some (.inl r46)] [] m (n + 5) = ax_aft (fun s m2 => ax_ex (e + 10) L_X11_walksBack 81 [some (.inr (.inr (22, 0))), some (.inl v1), some (.inl v2), some (.inl v3), some (.inl v4), some (.inl v5), some (.inl v6), some (.inl r46)] s m2 n) [] (ax_ex (e + 9) L_X11_isQuiet 0 (ax_entry [.inr (.inr (22, 0)), .inl v1, .inl r46, .inl (-1)] 5) [] m n) := fun n => rfl
                refine ax_gci (j := 5) (k2 := 81) (lv2 := [some (.inr (.inr (22, 0))), some (.inl v1), some (.inl v2), some (.inl v3), some (.inl v4), some (.inl v5), some (.inl v6), some (.inl r46)]) (rest := []) ((R_X11_isQuiet (by omega) q59)) s65 ?_
                have s62 : ∀ n, ax_ex (e + 10) L_X11_walksBack 81 [some (.inr (.inr (22, 0))), some (.inl v1), some (.inl v2), some (.inl v3), some (.inl v4), some (.inl v5), some (.inl v6), some (.inl r46)] [.inl r60] m (n + 1) = if r60 = 0 then ax_ex (e + 10) L_X11_walksBack 82 [some (.inr (.inr (22, 0))), some (.inl v1), some (.inl v2), some (.inl v3), some (.inl v4), some (.inl v5), some (.inl v6), some (.inl r46)] [] m n else ax_ex (e + 10) L_X11_walksBack 83 [some (.inr (.inr (22, 0))), some (.inl v1), some (.inl v2), some (.inl v3), some (.inl v4), some (.inl v5), some (.inl v6), some (.inl r46)] [] m n := fun n => rfl
                by_cases c61 : r60 = 0
                · rw [if_pos c61] at h
                  refine ax_gt c61 s62 ?_
                  refine ax_go (j := 3) (k2 := 54) (lv2 := [some (.inr (.inr (22, 0))), some (.inl v1), some (.inl v2), some (.inl v3), some (.inl v4), some (.inl v5), some (.inl (v6 + 1)), some (.inl r46)]) (st2 := []) (m2 := m) (fun n => rfl) ?_
                  exact ax_fg (lv2 := [some (.inr (.inr (22, 0))), some (.inl v1), some (.inl v2), some (.inl v3), some (.inl v4), some (.inl v5), some (.inl (v6 + 1)), none]) ⟨rfl, rfl, rfl, rfl, rfl, rfl, rfl, trivial⟩ (ih m v3 (v6 + 1) _ h)
                · rw [if_neg c61] at h
                  refine ax_gf c61 s62 ?_
                  have s64 : ∀ n, ax_ex (e + 10) L_X11_walksBack 83 [some (.inr (.inr (22, 0))), some (.inl v1), some (.inl v2), some (.inl v3), some (.inl v4), some (.inl v5), some (.inl v6), some (.inl r46)] [] m (n + 7) = if ax_ok r46 64 = true then ax_ex (e + 10) L_X11_walksBack 90 [some (.inr (.inr (22, 0))), some (.inl v1), some (.inl v2), some (.inl v3), some (.inl v4), some (.inl v5), some (.inl v6), some (.inl r46)] [] (ax_ui m 37 0 r46.toNatClampNeg (v4 + 1)) n else none := fun n => rfl
                  by_cases c63 : ax_ok r46 64 = true
                  · rw [if_pos c63] at h
                    refine ax_gt c63 s64 ?_
                    refine ax_go (j := 4) (k2 := 54) (lv2 := [some (.inr (.inr (22, 0))), some (.inl v1), some (.inl v2), some (.inl 1), some (.inl v4), some (.inl v5), some (.inl (v6 + 1)), some (.inl r46)]) (st2 := []) (m2 := (ax_ui m 37 0 r46.toNatClampNeg (v4 + 1))) (fun n => rfl) ?_
                    exact ax_fg (lv2 := [some (.inr (.inr (22, 0))), some (.inl v1), some (.inl v2), some (.inl 1), some (.inl v4), some (.inl v5), some (.inl (v6 + 1)), none]) ⟨rfl, rfl, rfl, rfl, rfl, rfl, rfl, trivial⟩ (ih (ax_ui m 37 0 r46.toNatClampNeg (v4 + 1)) 1 (v6 + 1) _ h)
                  · rw [if_neg c63] at h
                    cases h
            · rw [if_neg c53] at h
              cases h
          · rw [if_neg c51] at h
            refine ax_gf c51 s52 ?_
            refine ax_go (j := 2) (k2 := 54) (lv2 := [some (.inr (.inr (22, 0))), some (.inl v1), some (.inl v2), some (.inl v3), some (.inl v4), some (.inl v5), some (.inl (v6 + 1)), some (.inl r46)]) (st2 := []) (m2 := m) (fun n => rfl) ?_
            exact ax_fg (lv2 := [some (.inr (.inr (22, 0))), some (.inl v1), some (.inl v2), some (.inl v3), some (.inl v4), some (.inl v5), some (.inl (v6 + 1)), none]) ⟨rfl, rfl, rfl, rfl, rfl, rfl, rfl, trivial⟩ (ih m v3 (v6 + 1) _ h)
        · rw [if_neg c49] at h
          cases h
def F_X11_walksBack_L27 : Nat → (ax_M → Int32 → Option ax_M) → ax_M → Int32 → Int32 → Int32 → Int32 → Int32 → Option ax_M
  | 0, _, _, _, _, _, _, _ => none
  | n + 1, K96, m, v1, v2, v3, v4, v5 => if 64 ≤ v5 then (K96 m v3) else (if ax_ok v5 64 = true then (if (m.1 37 0 v5.toNatClampNeg) = v4 then (if v5 = v2 then (ax_b (F_X11_isQuiet m v1 v5 (-1)) (fun r92 => if r92 = 0 then (F_X11_walksBack_L27 n K96 m v1 v2 v3 v4 (v5 + 1)) else (F_X11_walksBack_L54 ax_FU (fun m96 y95 => F_X11_walksBack_L27 n K96 m96 v1 v2 y95 v4 (v5 + 1)) m v1 v2 v3 v4 v5 0))) else (if ax_ok v1 8 = true then (if v5 = (m.1 24 0 v1.toNatClampNeg) then (F_X11_walksBack_L27 n K96 m v1 v2 v3 v4 (v5 + 1)) else (ax_b (F_X11_isQuiet m v1 v5 (-1)) (fun r104 => if r104 = 0 then (F_X11_walksBack_L27 n K96 m v1 v2 v3 v4 (v5 + 1)) else (F_X11_walksBack_L54 ax_FU (fun m108 y107 => F_X11_walksBack_L27 n K96 m108 v1 v2 y107 v4 (v5 + 1)) m v1 v2 v3 v4 v5 0)))) else (none))) else (F_X11_walksBack_L27 n K96 m v1 v2 v3 v4 (v5 + 1))) else (none))
set_option maxRecDepth 20000 in
set_option maxHeartbeats 4000000 in
theorem R_X11_walksBack_L27 {e : Nat} {v1 : Int32} {v2 : Int32} {v4 : Int32} {K96 : ax_M → Int32 → Option ax_M} (hK96 : ∀ (my : ax_M) (y3 : Int32) (q : ax_M), K96 my y3 = some q → ax_Ru (e + 10) L_X11_walksBack 96 [some (.inr (.inr (22, 0))), some (.inl v1), some (.inl v2), some (.inl y3), some (.inl v4), none, none, none] [] my (none, q)) : ∀ (n : Nat) (m : ax_M) (v3 : Int32) (v5 : Int32) (q : ax_M), F_X11_walksBack_L27 n K96 m v1 v2 v3 v4 v5 = some q → ax_Ru (e + 10) L_X11_walksBack 27 [some (.inr (.inr (22, 0))), some (.inl v1), some (.inl v2), some (.inl v3), some (.inl v4), some (.inl v5), none, none] [] m (none, q) := by
  intro n
  induction n with
  | zero =>
    intro m v3 v5 q h
    cases h
  | succ n ih =>
    intro m v3 v5 q h
    rw [F_X11_walksBack_L27] at h
    have s84 : ∀ n, ax_ex (e + 10) L_X11_walksBack 27 [some (.inr (.inr (22, 0))), some (.inl v1), some (.inl v2), some (.inl v3), some (.inl v4), some (.inl v5), none, none] [] m (n + 3) = if 64 ≤ v5 then ax_ex (e + 10) L_X11_walksBack 96 [some (.inr (.inr (22, 0))), some (.inl v1), some (.inl v2), some (.inl v3), some (.inl v4), some (.inl v5), none, none] [] m n else ax_ex (e + 10) L_X11_walksBack 30 [some (.inr (.inr (22, 0))), some (.inl v1), some (.inl v2), some (.inl v3), some (.inl v4), some (.inl v5), none, none] [] m n := fun n => rfl
    by_cases c83 : 64 ≤ v5
    · rw [if_pos c83] at h
      refine ax_gt c83 s84 ?_
      exact ax_fg (lv2 := [some (.inr (.inr (22, 0))), some (.inl v1), some (.inl v2), some (.inl v3), some (.inl v4), none, none, none]) ⟨rfl, rfl, rfl, rfl, rfl, trivial⟩ (hK96 m v3 _ h)
    · rw [if_neg c83] at h
      refine ax_gf c83 s84 ?_
      have s86 : ∀ n, ax_ex (e + 10) L_X11_walksBack 30 [some (.inr (.inr (22, 0))), some (.inl v1), some (.inl v2), some (.inl v3), some (.inl v4), some (.inl v5), none, none] [] m (n + 4) = if ax_ok v5 64 = true then ax_ex (e + 10) L_X11_walksBack 34 [some (.inr (.inr (22, 0))), some (.inl v1), some (.inl v2), some (.inl v3), some (.inl v4), some (.inl v5), none, none] [.inl (m.1 37 0 v5.toNatClampNeg)] m n else none := fun n => rfl
      by_cases c85 : ax_ok v5 64 = true
      · rw [if_pos c85] at h
        refine ax_gt c85 s86 ?_
        have s88 : ∀ n, ax_ex (e + 10) L_X11_walksBack 34 [some (.inr (.inr (22, 0))), some (.inl v1), some (.inl v2), some (.inl v3), some (.inl v4), some (.inl v5), none, none] [.inl (m.1 37 0 v5.toNatClampNeg)] m (n + 2) = if (m.1 37 0 v5.toNatClampNeg) = v4 then ax_ex (e + 10) L_X11_walksBack 36 [some (.inr (.inr (22, 0))), some (.inl v1), some (.inl v2), some (.inl v3), some (.inl v4), some (.inl v5), none, none] [] m n else ax_ex (e + 10) L_X11_walksBack 94 [some (.inr (.inr (22, 0))), some (.inl v1), some (.inl v2), some (.inl v3), some (.inl v4), some (.inl v5), none, none] [] m n := fun n => rfl
        by_cases c87 : (m.1 37 0 v5.toNatClampNeg) = v4
        · rw [if_pos c87] at h
          refine ax_gt c87 s88 ?_
          have s90 : ∀ n, ax_ex (e + 10) L_X11_walksBack 36 [some (.inr (.inr (22, 0))), some (.inl v1), some (.inl v2), some (.inl v3), some (.inl v4), some (.inl v5), none, none] [] m (n + 3) = if v5 = v2 then ax_ex (e + 10) L_X11_walksBack 45 [some (.inr (.inr (22, 0))), some (.inl v1), some (.inl v2), some (.inl v3), some (.inl v4), some (.inl v5), none, none] [] m n else ax_ex (e + 10) L_X11_walksBack 39 [some (.inr (.inr (22, 0))), some (.inl v1), some (.inl v2), some (.inl v3), some (.inl v4), some (.inl v5), none, none] [] m n := fun n => rfl
          by_cases c89 : v5 = v2
          · rw [if_pos c89] at h
            refine ax_gt c89 s90 ?_
            obtain ⟨r92, q91, h⟩ := ax_b_of h
            have s98 : ∀ n, ax_ex (e + 10) L_X11_walksBack 45 [some (.inr (.inr (22, 0))), some (.inl v1), some (.inl v2), some (.inl v3), some (.inl v4), some (.inl v5), none, none] [] m (n + 5) = ax_aft (fun s m2 => ax_ex (e + 10) L_X11_walksBack 50 [some (.inr (.inr (22, 0))), some (.inl v1), some (.inl v2), some (.inl v3), some (.inl v4), some (.inl v5), none, none] s m2 n) [] (ax_ex (e + 9) L_X11_isQuiet 0 (ax_entry [.inr (.inr (22, 0)), .inl v1, .inl v5, .inl (-1)] 5) [] m n) := fun n => rfl
            refine ax_gci (j := 5) (k2 := 50) (lv2 := [some (.inr (.inr (22, 0))), some (.inl v1), some (.inl v2), some (.inl v3), some (.inl v4), some (.inl v5), none, none]) (rest := []) ((R_X11_isQuiet (by omega) q91)) s98 ?_
            have s94 : ∀ n, ax_ex (e + 10) L_X11_walksBack 50 [some (.inr (.inr (22, 0))), some (.inl v1), some (.inl v2), some (.inl v3), some (.inl v4), some (.inl v5), none, none] [.inl r92] m (n + 1) = if r92 = 0 then ax_ex (e + 10) L_X11_walksBack 51 [some (.inr (.inr (22, 0))), some (.inl v1), some (.inl v2), some (.inl v3), some (.inl v4), some (.inl v5), none, none] [] m n else ax_ex (e + 10) L_X11_walksBack 52 [some (.inr (.inr (22, 0))), some (.inl v1), some (.inl v2), some (.inl v3), some (.inl v4), some (.inl v5), none, none] [] m n := fun n => rfl
            by_cases c93 : r92 = 0
            · rw [if_pos c93] at h
              refine ax_gt c93 s94 ?_
              refine ax_go (j := 3) (k2 := 27) (lv2 := [some (.inr (.inr (22, 0))), some (.inl v1), some (.inl v2), some (.inl v3), some (.inl v4), some (.inl (v5 + 1)), none, none]) (st2 := []) (m2 := m) (fun n => rfl) ?_
              exact ax_fg (lv2 := [some (.inr (.inr (22, 0))), some (.inl v1), some (.inl v2), some (.inl v3), some (.inl v4), some (.inl (v5 + 1)), none, none]) ⟨rfl, rfl, rfl, rfl, rfl, rfl, trivial⟩ (ih m v3 (v5 + 1) _ h)
            · rw [if_neg c93] at h
              refine ax_gf c93 s94 ?_
              refine ax_go (j := 2) (k2 := 54) (lv2 := [some (.inr (.inr (22, 0))), some (.inl v1), some (.inl v2), some (.inl v3), some (.inl v4), some (.inl v5), some (.inl 0), none]) (st2 := []) (m2 := m) (fun n => rfl) ?_
              refine ax_fg (lv2 := [some (.inr (.inr (22, 0))), some (.inl v1), some (.inl v2), some (.inl v3), some (.inl v4), some (.inl v5), some (.inl 0), none]) ⟨rfl, rfl, rfl, rfl, rfl, rfl, rfl, trivial⟩ ?_
              refine R_X11_walksBack_L54 ?_ _ m v3 0 _ h
              · intro m96 y95 q h
                refine ax_go (j := 2) (k2 := 27) (lv2 := [some (.inr (.inr (22, 0))), some (.inl v1), some (.inl v2), some (.inl y95), some (.inl v4), some (.inl (v5 + 1)), none, none]) (st2 := []) (m2 := m96) (fun n => rfl) ?_
                exact ax_fg (lv2 := [some (.inr (.inr (22, 0))), some (.inl v1), some (.inl v2), some (.inl y95), some (.inl v4), some (.inl (v5 + 1)), none, none]) ⟨rfl, rfl, rfl, rfl, rfl, rfl, trivial⟩ (ih m96 y95 (v5 + 1) _ h)
          · rw [if_neg c89] at h
            refine ax_gf c89 s90 ?_
            have s100 : ∀ n, ax_ex (e + 10) L_X11_walksBack 39 [some (.inr (.inr (22, 0))), some (.inl v1), some (.inl v2), some (.inl v3), some (.inl v4), some (.inl v5), none, none] [] m (n + 5) = if ax_ok v1 8 = true then ax_ex (e + 10) L_X11_walksBack 44 [some (.inr (.inr (22, 0))), some (.inl v1), some (.inl v2), some (.inl v3), some (.inl v4), some (.inl v5), none, none] [.inl (m.1 24 0 v1.toNatClampNeg), .inl v5] m n else none := fun n => rfl
            by_cases c99 : ax_ok v1 8 = true
            · rw [if_pos c99] at h
              refine ax_gt c99 s100 ?_
              have s102 : ∀ n, ax_ex (e + 10) L_X11_walksBack 44 [some (.inr (.inr (22, 0))), some (.inl v1), some (.inl v2), some (.inl v3), some (.inl v4), some (.inl v5), none, none] [.inl (m.1 24 0 v1.toNatClampNeg), .inl v5] m (n + 1) = if v5 = (m.1 24 0 v1.toNatClampNeg) then ax_ex (e + 10) L_X11_walksBack 94 [some (.inr (.inr (22, 0))), some (.inl v1), some (.inl v2), some (.inl v3), some (.inl v4), some (.inl v5), none, none] [] m n else ax_ex (e + 10) L_X11_walksBack 45 [some (.inr (.inr (22, 0))), some (.inl v1), some (.inl v2), some (.inl v3), some (.inl v4), some (.inl v5), none, none] [] m n := fun n => rfl
              by_cases c101 : v5 = (m.1 24 0 v1.toNatClampNeg)
              · rw [if_pos c101] at h
                refine ax_gt c101 s102 ?_
                refine ax_go (j := 2) (k2 := 27) (lv2 := [some (.inr (.inr (22, 0))), some (.inl v1), some (.inl v2), some (.inl v3), some (.inl v4), some (.inl (v5 + 1)), none, none]) (st2 := []) (m2 := m) (fun n => rfl) ?_
                exact ax_fg (lv2 := [some (.inr (.inr (22, 0))), some (.inl v1), some (.inl v2), some (.inl v3), some (.inl v4), some (.inl (v5 + 1)), none, none]) ⟨rfl, rfl, rfl, rfl, rfl, rfl, trivial⟩ (ih m v3 (v5 + 1) _ h)
              · rw [if_neg c101] at h
                refine ax_gf c101 s102 ?_
                obtain ⟨r104, q103, h⟩ := ax_b_of h
                have s110 : ∀ n, ax_ex (e + 10) L_X11_walksBack 45 [some (.inr (.inr (22, 0))), some (.inl v1), some (.inl v2), some (.inl v3), some (.inl v4), some (.inl v5), none, none] [] m (n + 5) = ax_aft (fun s m2 => ax_ex (e + 10) L_X11_walksBack 50 [some (.inr (.inr (22, 0))), some (.inl v1), some (.inl v2), some (.inl v3), some (.inl v4), some (.inl v5), none, none] s m2 n) [] (ax_ex (e + 9) L_X11_isQuiet 0 (ax_entry [.inr (.inr (22, 0)), .inl v1, .inl v5, .inl (-1)] 5) [] m n) := fun n => rfl
                refine ax_gci (j := 5) (k2 := 50) (lv2 := [some (.inr (.inr (22, 0))), some (.inl v1), some (.inl v2), some (.inl v3), some (.inl v4), some (.inl v5), none, none]) (rest := []) ((R_X11_isQuiet (by omega) q103)) s110 ?_
                have s106 : ∀ n, ax_ex (e + 10) L_X11_walksBack 50 [some (.inr (.inr (22, 0))), some (.inl v1), some (.inl v2), some (.inl v3), some (.inl v4), some (.inl v5), none, none] [.inl r104] m (n + 1) = if r104 = 0 then ax_ex (e + 10) L_X11_walksBack 51 [some (.inr (.inr (22, 0))), some (.inl v1), some (.inl v2), some (.inl v3), some (.inl v4), some (.inl v5), none, none] [] m n else ax_ex (e + 10) L_X11_walksBack 52 [some (.inr (.inr (22, 0))), some (.inl v1), some (.inl v2), some (.inl v3), some (.inl v4), some (.inl v5), none, none] [] m n := fun n => rfl
                by_cases c105 : r104 = 0
                · rw [if_pos c105] at h
                  refine ax_gt c105 s106 ?_
                  refine ax_go (j := 3) (k2 := 27) (lv2 := [some (.inr (.inr (22, 0))), some (.inl v1), some (.inl v2), some (.inl v3), some (.inl v4), some (.inl (v5 + 1)), none, none]) (st2 := []) (m2 := m) (fun n => rfl) ?_
                  exact ax_fg (lv2 := [some (.inr (.inr (22, 0))), some (.inl v1), some (.inl v2), some (.inl v3), some (.inl v4), some (.inl (v5 + 1)), none, none]) ⟨rfl, rfl, rfl, rfl, rfl, rfl, trivial⟩ (ih m v3 (v5 + 1) _ h)
                · rw [if_neg c105] at h
                  refine ax_gf c105 s106 ?_
                  refine ax_go (j := 2) (k2 := 54) (lv2 := [some (.inr (.inr (22, 0))), some (.inl v1), some (.inl v2), some (.inl v3), some (.inl v4), some (.inl v5), some (.inl 0), none]) (st2 := []) (m2 := m) (fun n => rfl) ?_
                  refine ax_fg (lv2 := [some (.inr (.inr (22, 0))), some (.inl v1), some (.inl v2), some (.inl v3), some (.inl v4), some (.inl v5), some (.inl 0), none]) ⟨rfl, rfl, rfl, rfl, rfl, rfl, rfl, trivial⟩ ?_
                  refine R_X11_walksBack_L54 ?_ _ m v3 0 _ h
                  · intro m108 y107 q h
                    refine ax_go (j := 2) (k2 := 27) (lv2 := [some (.inr (.inr (22, 0))), some (.inl v1), some (.inl v2), some (.inl y107), some (.inl v4), some (.inl (v5 + 1)), none, none]) (st2 := []) (m2 := m108) (fun n => rfl) ?_
                    exact ax_fg (lv2 := [some (.inr (.inr (22, 0))), some (.inl v1), some (.inl v2), some (.inl y107), some (.inl v4), some (.inl (v5 + 1)), none, none]) ⟨rfl, rfl, rfl, rfl, rfl, rfl, trivial⟩ (ih m108 y107 (v5 + 1) _ h)
            · rw [if_neg c99] at h
              cases h
        · rw [if_neg c87] at h
          refine ax_gf c87 s88 ?_
          refine ax_go (j := 2) (k2 := 27) (lv2 := [some (.inr (.inr (22, 0))), some (.inl v1), some (.inl v2), some (.inl v3), some (.inl v4), some (.inl (v5 + 1)), none, none]) (st2 := []) (m2 := m) (fun n => rfl) ?_
          exact ax_fg (lv2 := [some (.inr (.inr (22, 0))), some (.inl v1), some (.inl v2), some (.inl v3), some (.inl v4), some (.inl (v5 + 1)), none, none]) ⟨rfl, rfl, rfl, rfl, rfl, rfl, trivial⟩ (ih m v3 (v5 + 1) _ h)
      · rw [if_neg c85] at h
        cases h
def F_X11_walksBack_L21 : Nat → ax_M → Int32 → Int32 → Int32 → Int32 → Option ax_M
  | 0, _, _, _, _, _ => none
  | n + 1, m, v1, v2, v3, v4 => if v3 = 0 then (some m) else (F_X11_walksBack_L27 ax_FU (fun m112 y111 => F_X11_walksBack_L21 n m112 v1 v2 y111 (v4 + 1)) m v1 v2 0 v4 0)
set_option maxRecDepth 20000 in
set_option maxHeartbeats 4000000 in
theorem R_X11_walksBack_L21 {e : Nat} {v1 : Int32} {v2 : Int32} : ∀ (n : Nat) (m : ax_M) (v3 : Int32) (v4 : Int32) (q : ax_M), F_X11_walksBack_L21 n m v1 v2 v3 v4 = some q → ax_Ru (e + 10) L_X11_walksBack 21 [some (.inr (.inr (22, 0))), some (.inl v1), some (.inl v2), some (.inl v3), some (.inl v4), none, none, none] [] m (none, q) := by
  intro n
  induction n with
  | zero =>
    intro m v3 v4 q h
    cases h
  | succ n ih =>
    intro m v3 v4 q h
    rw [F_X11_walksBack_L21] at h
    have s6 : ∀ n, ax_ex (e + 10) L_X11_walksBack 21 [some (.inr (.inr (22, 0))), some (.inl v1), some (.inl v2), some (.inl v3), some (.inl v4), none, none, none] [] m (n + 2) = if v3 = 0 then ax_ex (e + 10) L_X11_walksBack 98 [some (.inr (.inr (22, 0))), some (.inl v1), some (.inl v2), some (.inl v3), some (.inl v4), none, none, none] [] m n else ax_ex (e + 10) L_X11_walksBack 23 [some (.inr (.inr (22, 0))), some (.inl v1), some (.inl v2), some (.inl v3), some (.inl v4), none, none, none] [] m n := fun n => rfl
    by_cases c5 : v3 = 0
    · rw [if_pos c5] at h
      refine ax_gt c5 s6 ?_
      obtain rfl := Option.some.inj h
      exact ax_rs 1 (fun n => rfl)
    · rw [if_neg c5] at h
      refine ax_gf c5 s6 ?_
      refine ax_go (j := 4) (k2 := 27) (lv2 := [some (.inr (.inr (22, 0))), some (.inl v1), some (.inl v2), some (.inl 0), some (.inl v4), some (.inl 0), none, none]) (st2 := []) (m2 := m) (fun n => rfl) ?_
      refine ax_fg (lv2 := [some (.inr (.inr (22, 0))), some (.inl v1), some (.inl v2), some (.inl 0), some (.inl v4), some (.inl 0), none, none]) ⟨rfl, rfl, rfl, rfl, rfl, rfl, trivial⟩ ?_
      refine R_X11_walksBack_L27 ?_ _ m 0 0 _ h
      · intro m112 y111 q h
        refine ax_go (j := 2) (k2 := 21) (lv2 := [some (.inr (.inr (22, 0))), some (.inl v1), some (.inl v2), some (.inl y111), some (.inl (v4 + 1)), none, none, none]) (st2 := []) (m2 := m112) (fun n => rfl) ?_
        exact ax_fg (lv2 := [some (.inr (.inr (22, 0))), some (.inl v1), some (.inl v2), some (.inl y111), some (.inl (v4 + 1)), none, none, none]) ⟨rfl, rfl, rfl, rfl, rfl, trivial⟩ (ih m112 y111 (v4 + 1) _ h)
def F_X11_walksBack_L2 : Nat → ax_M → Int32 → Int32 → Int32 → Option ax_M
  | 0, _, _, _, _ => none
  | n + 1, m, v1, v2, v3 => if 64 ≤ v3 then (if ax_ok v2 64 = true then (F_X11_walksBack_L21 ax_FU (ax_ui m 37 0 v2.toNatClampNeg 0) v1 v2 1 0) else (none)) else (if ax_ok v3 64 = true then (F_X11_walksBack_L2 n (ax_ui m 37 0 v3.toNatClampNeg (-1)) v1 v2 (v3 + 1)) else (none))
set_option maxRecDepth 20000 in
set_option maxHeartbeats 4000000 in
theorem R_X11_walksBack_L2 {e : Nat} {v1 : Int32} {v2 : Int32} : ∀ (n : Nat) (m : ax_M) (v3 : Int32) (q : ax_M), F_X11_walksBack_L2 n m v1 v2 v3 = some q → ax_Ru (e + 10) L_X11_walksBack 2 [some (.inr (.inr (22, 0))), some (.inl v1), some (.inl v2), some (.inl v3), none, none, none, none] [] m (none, q) := by
  intro n
  induction n with
  | zero =>
    intro m v3 q h
    cases h
  | succ n ih =>
    intro m v3 q h
    rw [F_X11_walksBack_L2] at h
    have s2 : ∀ n, ax_ex (e + 10) L_X11_walksBack 2 [some (.inr (.inr (22, 0))), some (.inl v1), some (.inl v2), some (.inl v3), none, none, none, none] [] m (n + 3) = if 64 ≤ v3 then ax_ex (e + 10) L_X11_walksBack 12 [some (.inr (.inr (22, 0))), some (.inl v1), some (.inl v2), some (.inl v3), none, none, none, none] [] m n else ax_ex (e + 10) L_X11_walksBack 5 [some (.inr (.inr (22, 0))), some (.inl v1), some (.inl v2), some (.inl v3), none, none, none, none] [] m n := fun n => rfl
    by_cases c1 : 64 ≤ v3
    · rw [if_pos c1] at h
      refine ax_gt c1 s2 ?_
      have s4 : ∀ n, ax_ex (e + 10) L_X11_walksBack 12 [some (.inr (.inr (22, 0))), some (.inl v1), some (.inl v2), some (.inl v3), none, none, none, none] [] m (n + 5) = if ax_ok v2 64 = true then ax_ex (e + 10) L_X11_walksBack 17 [some (.inr (.inr (22, 0))), some (.inl v1), some (.inl v2), some (.inl v3), none, none, none, none] [] (ax_ui m 37 0 v2.toNatClampNeg 0) n else none := fun n => rfl
      by_cases c3 : ax_ok v2 64 = true
      · rw [if_pos c3] at h
        refine ax_gt c3 s4 ?_
        refine ax_go (j := 4) (k2 := 21) (lv2 := [some (.inr (.inr (22, 0))), some (.inl v1), some (.inl v2), some (.inl 1), some (.inl 0), none, none, none]) (st2 := []) (m2 := (ax_ui m 37 0 v2.toNatClampNeg 0)) (fun n => rfl) ?_
        refine ax_fg (lv2 := [some (.inr (.inr (22, 0))), some (.inl v1), some (.inl v2), some (.inl 1), some (.inl 0), none, none, none]) ⟨rfl, rfl, rfl, rfl, rfl, trivial⟩ ?_
        refine R_X11_walksBack_L21 _ (ax_ui m 37 0 v2.toNatClampNeg 0) 1 0 _ h
      · rw [if_neg c3] at h
        cases h
    · rw [if_neg c1] at h
      refine ax_gf c1 s2 ?_
      have s116 : ∀ n, ax_ex (e + 10) L_X11_walksBack 5 [some (.inr (.inr (22, 0))), some (.inl v1), some (.inl v2), some (.inl v3), none, none, none, none] [] m (n + 5) = if ax_ok v3 64 = true then ax_ex (e + 10) L_X11_walksBack 10 [some (.inr (.inr (22, 0))), some (.inl v1), some (.inl v2), some (.inl v3), none, none, none, none] [] (ax_ui m 37 0 v3.toNatClampNeg (-1)) n else none := fun n => rfl
      by_cases c115 : ax_ok v3 64 = true
      · rw [if_pos c115] at h
        refine ax_gt c115 s116 ?_
        refine ax_go (j := 2) (k2 := 2) (lv2 := [some (.inr (.inr (22, 0))), some (.inl v1), some (.inl v2), some (.inl (v3 + 1)), none, none, none, none]) (st2 := []) (m2 := (ax_ui m 37 0 v3.toNatClampNeg (-1))) (fun n => rfl) ?_
        exact ax_fg (lv2 := [some (.inr (.inr (22, 0))), some (.inl v1), some (.inl v2), some (.inl (v3 + 1)), none, none, none, none]) ⟨rfl, rfl, rfl, rfl, trivial⟩ (ih (ax_ui m 37 0 v3.toNatClampNeg (-1)) (v3 + 1) _ h)
      · rw [if_neg c115] at h
        cases h
def F_X11_walksBack (m : ax_M) (v1 : Int32) (v2 : Int32) : Option ax_M := F_X11_walksBack_L2 ax_FU m v1 v2 0
set_option maxRecDepth 20000 in
set_option maxHeartbeats 4000000 in
theorem R_X11_walksBack {d : Nat} (hd : 10 ≤ d) {m : ax_M} {v1 : Int32} {v2 : Int32} {q : ax_M} (h : F_X11_walksBack m v1 v2 = some q) : ax_Ru d L_X11_walksBack 0 (ax_entry [.inr (.inr (22, 0)), .inl v1, .inl v2] 8) [] m (none, q) := by
  obtain ⟨e, rfl⟩ : ∃ e, d = e + 10 := ⟨d - 10, by omega⟩
  unfold F_X11_walksBack at h
  refine ax_go (j := 2) (k2 := 2) (lv2 := [some (.inr (.inr (22, 0))), some (.inl v1), some (.inl v2), some (.inl 0), none, none, none, none]) (st2 := []) (m2 := m) (fun n => rfl) ?_
  refine ax_fg (lv2 := [some (.inr (.inr (22, 0))), some (.inl v1), some (.inl v2), some (.inl 0), none, none, none, none]) ⟨rfl, rfl, rfl, rfl, trivial⟩ ?_
  refine R_X11_walksBack_L2 _ m 0 _ h
def F_X11_wayOf (m : ax_M) (v1 : Int32) (v2 : Int32) : Option (Int32 × ax_M) := ax_b (F_X11_walks m v1 (-1)) (fun m3 => if ax_ok v2 64 = true then (some ((m3.1 37 0 v2.toNatClampNeg), m3)) else (none))
set_option maxRecDepth 20000 in
set_option maxHeartbeats 4000000 in
theorem R_X11_wayOf {d : Nat} (hd : 11 ≤ d) {m : ax_M} {v1 : Int32} {v2 : Int32} {q : (Int32 × ax_M)} (h : F_X11_wayOf m v1 v2 = some q) : ax_Ru d L_X11_wayOf 0 (ax_entry [.inr (.inr (22, 0)), .inl v1, .inl v2] 3) [] m (some (.inl q.1), q.2) := by
  obtain ⟨e, rfl⟩ : ∃ e, d = e + 11 := ⟨d - 11, by omega⟩
  unfold F_X11_wayOf at h
  obtain ⟨m3, q1, h⟩ := ax_b_of h
  have s6 : ∀ n, ax_ex (e + 11) L_X11_wayOf 0 (ax_entry [.inr (.inr (22, 0)), .inl v1, .inl v2] 3) [] m (n + 4) = ax_aft (fun s m2 => ax_ex (e + 11) L_X11_wayOf 4 [some (.inr (.inr (22, 0))), some (.inl v1), some (.inl v2)] s m2 n) [] (ax_ex (e + 10) L_X11_walks 0 (ax_entry [.inr (.inr (22, 0)), .inl v1, .inl (-1)] 8) [] m n) := fun n => rfl
  refine ax_gcv (j := 4) (k2 := 4) (lv2 := [some (.inr (.inr (22, 0))), some (.inl v1), some (.inl v2)]) (rest := []) ((R_X11_walks (by omega) q1)) s6 ?_
  have s5 : ∀ n, ax_ex (e + 11) L_X11_wayOf 4 [some (.inr (.inr (22, 0))), some (.inl v1), some (.inl v2)] [] m3 (n + 4) = if ax_ok v2 64 = true then ax_ex (e + 11) L_X11_wayOf 8 [some (.inr (.inr (22, 0))), some (.inl v1), some (.inl v2)] [.inl (m3.1 37 0 v2.toNatClampNeg)] m3 n else none := fun n => rfl
  by_cases c4 : ax_ok v2 64 = true
  · rw [if_pos c4] at h
    refine ax_gt c4 s5 ?_
    obtain rfl := Option.some.inj h
    exact ax_rs 1 (fun n => rfl)
  · rw [if_neg c4] at h
    cases h
def F_X11_way_L52 : Nat → (ax_M → Int32 → Option (Int32 × ax_M)) → ax_M → Int32 → Int32 → Int32 → Int32 → Int32 → Int32 → Option (Int32 × ax_M)
  | 0, _, _, _, _, _, _, _, _ => none
  | n + 1, K82, m, v3, v4, v5, v6, v7, v8 => if 4 ≤ v8 then (K82 m v7) else (ax_b (F_X11_beside v5 v8) (fun r54 => if r54 = (-1) then (F_X11_way_L52 n K82 m v3 v4 v5 v6 v7 (v8 + 1)) else (if ax_ok r54 64 = true then (if (m.1 37 0 r54.toNatClampNeg) = ((v4 - v6) - 1) then (if v7 = (-1) then (F_X11_way_L52 n K82 m v3 v4 v5 v6 r54 (v8 + 1)) else (if v7 ≤ r54 then (F_X11_way_L52 n K82 m v3 v4 v5 v6 v7 (v8 + 1)) else (F_X11_way_L52 n K82 m v3 v4 v5 v6 r54 (v8 + 1)))) else (F_X11_way_L52 n K82 m v3 v4 v5 v6 v7 (v8 + 1))) else (none))))
set_option maxRecDepth 20000 in
set_option maxHeartbeats 4000000 in
theorem R_X11_way_L52 {e : Nat} {v3 : Int32} {v4 : Int32} {v5 : Int32} {v6 : Int32} {K82 : ax_M → Int32 → Option (Int32 × ax_M)} (hK82 : ∀ (my : ax_M) (y7 : Int32) (q : (Int32 × ax_M)), K82 my y7 = some q → ax_Ru (e + 12) L_X11_way 82 [some (.inr (.inr (22, 0))), none, none, some (.inl v3), some (.inl v4), none, some (.inl v6), some (.inl y7), none, none] [] my (some (.inl q.1), q.2)) : ∀ (n : Nat) (m : ax_M) (v7 : Int32) (v8 : Int32) (q : (Int32 × ax_M)), F_X11_way_L52 n K82 m v3 v4 v5 v6 v7 v8 = some q → ax_Ru (e + 12) L_X11_way 52 [some (.inr (.inr (22, 0))), none, none, some (.inl v3), some (.inl v4), some (.inl v5), some (.inl v6), some (.inl v7), some (.inl v8), none] [] m (some (.inl q.1), q.2) := by
  intro n
  induction n with
  | zero =>
    intro m v7 v8 q h
    cases h
  | succ n ih =>
    intro m v7 v8 q h
    rw [F_X11_way_L52] at h
    have s52 : ∀ n, ax_ex (e + 12) L_X11_way 52 [some (.inr (.inr (22, 0))), none, none, some (.inl v3), some (.inl v4), some (.inl v5), some (.inl v6), some (.inl v7), some (.inl v8), none] [] m (n + 3) = if 4 ≤ v8 then ax_ex (e + 12) L_X11_way 82 [some (.inr (.inr (22, 0))), none, none, some (.inl v3), some (.inl v4), some (.inl v5), some (.inl v6), some (.inl v7), some (.inl v8), none] [] m n else ax_ex (e + 12) L_X11_way 55 [some (.inr (.inr (22, 0))), none, none, some (.inl v3), some (.inl v4), some (.inl v5), some (.inl v6), some (.inl v7), some (.inl v8), none] [] m n := fun n => rfl
    by_cases c51 : 4 ≤ v8
    · rw [if_pos c51] at h
      refine ax_gt c51 s52 ?_
      exact ax_fg (lv2 := [some (.inr (.inr (22, 0))), none, none, some (.inl v3), some (.inl v4), none, some (.inl v6), some (.inl v7), none, none]) ⟨rfl, rfl, rfl, rfl, rfl, trivial⟩ (hK82 m v7 _ h)
    · rw [if_neg c51] at h
      refine ax_gf c51 s52 ?_
      obtain ⟨r54, q53, h⟩ := ax_b_of h
      have s66 : ∀ n, ax_ex (e + 12) L_X11_way 55 [some (.inr (.inr (22, 0))), none, none, some (.inl v3), some (.inl v4), some (.inl v5), some (.inl v6), some (.inl v7), some (.inl v8), none] [] m (n + 3) = ax_aft (fun s m2 => ax_ex (e + 12) L_X11_way 58 [some (.inr (.inr (22, 0))), none, none, some (.inl v3), some (.inl v4), some (.inl v5), some (.inl v6), some (.inl v7), some (.inl v8), none] s m2 n) [] (ax_ex (e + 11) L_X11_beside 0 (ax_entry [.inl v5, .inl v8] 2) [] m n) := fun n => rfl
      refine ax_gci (j := 3) (k2 := 58) (lv2 := [some (.inr (.inr (22, 0))), none, none, some (.inl v3), some (.inl v4), some (.inl v5), some (.inl v6), some (.inl v7), some (.inl v8), none]) (rest := []) ((R_X11_beside (by omega) q53)) s66 ?_
      have s56 : ∀ n, ax_ex (e + 12) L_X11_way 58 [some (.inr (.inr (22, 0))), none, none, some (.inl v3), some (.inl v4), some (.inl v5), some (.inl v6), some (.inl v7), some (.inl v8), none] [.inl r54] m (n + 4) = if r54 = (-1) then ax_ex (e + 12) L_X11_way 80 [some (.inr (.inr (22, 0))), none, none, some (.inl v3), some (.inl v4), some (.inl v5), some (.inl v6), some (.inl v7), some (.inl v8), some (.inl r54)] [] m n else ax_ex (e + 12) L_X11_way 62 [some (.inr (.inr (22, 0))), none, none, some (.inl v3), some (.inl v4), some (.inl v5), some (.inl v6), some (.inl v7), some (.inl v8), some (.inl r54)] [] m n := fun n => rfl
      by_cases c55 : r54 = (-1)
      · rw [if_pos c55] at h
        refine ax_gt c55 s56 ?_
        refine ax_go (j := 2) (k2 := 52) (lv2 := [some (.inr (.inr (22, 0))), none, none, some (.inl v3), some (.inl v4), some (.inl v5), some (.inl v6), some (.inl v7), some (.inl (v8 + 1)), some (.inl r54)]) (st2 := []) (m2 := m) (fun n => rfl) ?_
        exact ax_fg (lv2 := [some (.inr (.inr (22, 0))), none, none, some (.inl v3), some (.inl v4), some (.inl v5), some (.inl v6), some (.inl v7), some (.inl (v8 + 1)), none]) ⟨rfl, rfl, rfl, rfl, rfl, rfl, rfl, trivial⟩ (ih m v7 (v8 + 1) _ h)
      · rw [if_neg c55] at h
        refine ax_gf c55 s56 ?_
        have s58 : ∀ n, ax_ex (e + 12) L_X11_way 62 [some (.inr (.inr (22, 0))), none, none, some (.inl v3), some (.inl v4), some (.inl v5), some (.inl v6), some (.inl v7), some (.inl v8), some (.inl r54)] [] m (n + 4) = if ax_ok r54 64 = true then ax_ex (e + 12) L_X11_way 66 [some (.inr (.inr (22, 0))), none, none, some (.inl v3), some (.inl v4), some (.inl v5), some (.inl v6), some (.inl v7), some (.inl v8), some (.inl r54)] [.inl (m.1 37 0 r54.toNatClampNeg)] m n else none := fun n => rfl
        by_cases c57 : ax_ok r54 64 = true
        · rw [if_pos c57] at h
          refine ax_gt c57 s58 ?_
          refine ax_go (j := 5) (k2 := 71) (lv2 := [some (.inr (.inr (22, 0))), none, none, some (.inl v3), some (.inl v4), some (.inl v5), some (.inl v6), some (.inl v7), some (.inl v8), some (.inl r54)]) (st2 := [.inl ((v4 - v6) - 1), .inl (m.1 37 0 r54.toNatClampNeg)]) (m2 := m) (fun n => rfl) ?_
          obtain ⟨y59, hy59⟩ : ∃ y : Int32, y = ((v4 - v6) - 1) := ⟨_, rfl⟩
          rw [← hy59] at h ⊢
          have s61 : ∀ n, ax_ex (e + 12) L_X11_way 71 [some (.inr (.inr (22, 0))), none, none, some (.inl v3), some (.inl v4), some (.inl v5), some (.inl v6), some (.inl v7), some (.inl v8), some (.inl r54)] [.inl y59, .inl (m.1 37 0 r54.toNatClampNeg)] m (n + 1) = if (m.1 37 0 r54.toNatClampNeg) = y59 then ax_ex (e + 12) L_X11_way 72 [some (.inr (.inr (22, 0))), none, none, some (.inl v3), some (.inl v4), some (.inl v5), some (.inl v6), some (.inl v7), some (.inl v8), some (.inl r54)] [] m n else ax_ex (e + 12) L_X11_way 80 [some (.inr (.inr (22, 0))), none, none, some (.inl v3), some (.inl v4), some (.inl v5), some (.inl v6), some (.inl v7), some (.inl v8), some (.inl r54)] [] m n := fun n => rfl
          by_cases c60 : (m.1 37 0 r54.toNatClampNeg) = y59
          · rw [if_pos c60] at h
            refine ax_gt c60 s61 ?_
            have s63 : ∀ n, ax_ex (e + 12) L_X11_way 72 [some (.inr (.inr (22, 0))), none, none, some (.inl v3), some (.inl v4), some (.inl v5), some (.inl v6), some (.inl v7), some (.inl v8), some (.inl r54)] [] m (n + 3) = if v7 = (-1) then ax_ex (e + 12) L_X11_way 78 [some (.inr (.inr (22, 0))), none, none, some (.inl v3), some (.inl v4), some (.inl v5), some (.inl v6), some (.inl v7), some (.inl v8), some (.inl r54)] [] m n else ax_ex (e + 12) L_X11_way 75 [some (.inr (.inr (22, 0))), none, none, some (.inl v3), some (.inl v4), some (.inl v5), some (.inl v6), some (.inl v7), some (.inl v8), some (.inl r54)] [] m n := fun n => rfl
            by_cases c62 : v7 = (-1)
            · rw [if_pos c62] at h
              refine ax_gt c62 s63 ?_
              refine ax_go (j := 4) (k2 := 52) (lv2 := [some (.inr (.inr (22, 0))), none, none, some (.inl v3), some (.inl v4), some (.inl v5), some (.inl v6), some (.inl r54), some (.inl (v8 + 1)), some (.inl r54)]) (st2 := []) (m2 := m) (fun n => rfl) ?_
              exact ax_fg (lv2 := [some (.inr (.inr (22, 0))), none, none, some (.inl v3), some (.inl v4), some (.inl v5), some (.inl v6), some (.inl r54), some (.inl (v8 + 1)), none]) ⟨rfl, rfl, rfl, rfl, rfl, rfl, rfl, trivial⟩ (ih m r54 (v8 + 1) _ h)
            · rw [if_neg c62] at h
              refine ax_gf c62 s63 ?_
              have s65 : ∀ n, ax_ex (e + 12) L_X11_way 75 [some (.inr (.inr (22, 0))), none, none, some (.inl v3), some (.inl v4), some (.inl v5), some (.inl v6), some (.inl v7), some (.inl v8), some (.inl r54)] [] m (n + 3) = if v7 ≤ r54 then ax_ex (e + 12) L_X11_way 80 [some (.inr (.inr (22, 0))), none, none, some (.inl v3), some (.inl v4), some (.inl v5), some (.inl v6), some (.inl v7), some (.inl v8), some (.inl r54)] [] m n else ax_ex (e + 12) L_X11_way 78 [some (.inr (.inr (22, 0))), none, none, some (.inl v3), some (.inl v4), some (.inl v5), some (.inl v6), some (.inl v7), some (.inl v8), some (.inl r54)] [] m n := fun n => rfl
              by_cases c64 : v7 ≤ r54
              · rw [if_pos c64] at h
                refine ax_gt c64 s65 ?_
                refine ax_go (j := 2) (k2 := 52) (lv2 := [some (.inr (.inr (22, 0))), none, none, some (.inl v3), some (.inl v4), some (.inl v5), some (.inl v6), some (.inl v7), some (.inl (v8 + 1)), some (.inl r54)]) (st2 := []) (m2 := m) (fun n => rfl) ?_
                exact ax_fg (lv2 := [some (.inr (.inr (22, 0))), none, none, some (.inl v3), some (.inl v4), some (.inl v5), some (.inl v6), some (.inl v7), some (.inl (v8 + 1)), none]) ⟨rfl, rfl, rfl, rfl, rfl, rfl, rfl, trivial⟩ (ih m v7 (v8 + 1) _ h)
              · rw [if_neg c64] at h
                refine ax_gf c64 s65 ?_
                refine ax_go (j := 4) (k2 := 52) (lv2 := [some (.inr (.inr (22, 0))), none, none, some (.inl v3), some (.inl v4), some (.inl v5), some (.inl v6), some (.inl r54), some (.inl (v8 + 1)), some (.inl r54)]) (st2 := []) (m2 := m) (fun n => rfl) ?_
                exact ax_fg (lv2 := [some (.inr (.inr (22, 0))), none, none, some (.inl v3), some (.inl v4), some (.inl v5), some (.inl v6), some (.inl r54), some (.inl (v8 + 1)), none]) ⟨rfl, rfl, rfl, rfl, rfl, rfl, rfl, trivial⟩ (ih m r54 (v8 + 1) _ h)
          · rw [if_neg c60] at h
            refine ax_gf c60 s61 ?_
            refine ax_go (j := 2) (k2 := 52) (lv2 := [some (.inr (.inr (22, 0))), none, none, some (.inl v3), some (.inl v4), some (.inl v5), some (.inl v6), some (.inl v7), some (.inl (v8 + 1)), some (.inl r54)]) (st2 := []) (m2 := m) (fun n => rfl) ?_
            exact ax_fg (lv2 := [some (.inr (.inr (22, 0))), none, none, some (.inl v3), some (.inl v4), some (.inl v5), some (.inl v6), some (.inl v7), some (.inl (v8 + 1)), none]) ⟨rfl, rfl, rfl, rfl, rfl, rfl, rfl, trivial⟩ (ih m v7 (v8 + 1) _ h)
        · rw [if_neg c57] at h
          cases h
def F_X11_way_L45 : Nat → ax_M → Int32 → Int32 → Int32 → Int32 → Option (Int32 × ax_M)
  | 0, _, _, _, _, _ => none
  | n + 1, m, v3, v4, v5, v6 => if v3 < v6 then (some (v5, m)) else (F_X11_way_L52 ax_FU (fun m68 y67 => F_X11_way_L45 n m68 v3 v4 y67 (v6 + 1)) m v3 v4 v5 v6 (-1) 0)
set_option maxRecDepth 20000 in
set_option maxHeartbeats 4000000 in
theorem R_X11_way_L45 {e : Nat} {v3 : Int32} {v4 : Int32} : ∀ (n : Nat) (m : ax_M) (v5 : Int32) (v6 : Int32) (q : (Int32 × ax_M)), F_X11_way_L45 n m v3 v4 v5 v6 = some q → ax_Ru (e + 12) L_X11_way 45 [some (.inr (.inr (22, 0))), none, none, some (.inl v3), some (.inl v4), some (.inl v5), some (.inl v6), none, none, none] [] m (some (.inl q.1), q.2) := by
  intro n
  induction n with
  | zero =>
    intro m v5 v6 q h
    cases h
  | succ n ih =>
    intro m v5 v6 q h
    rw [F_X11_way_L45] at h
    have s34 : ∀ n, ax_ex (e + 12) L_X11_way 45 [some (.inr (.inr (22, 0))), none, none, some (.inl v3), some (.inl v4), some (.inl v5), some (.inl v6), none, none, none] [] m (n + 3) = if v3 < v6 then ax_ex (e + 12) L_X11_way 86 [some (.inr (.inr (22, 0))), none, none, some (.inl v3), some (.inl v4), some (.inl v5), some (.inl v6), none, none, none] [] m n else ax_ex (e + 12) L_X11_way 48 [some (.inr (.inr (22, 0))), none, none, some (.inl v3), some (.inl v4), some (.inl v5), some (.inl v6), none, none, none] [] m n := fun n => rfl
    by_cases c33 : v3 < v6
    · rw [if_pos c33] at h
      refine ax_gt c33 s34 ?_
      obtain rfl := Option.some.inj h
      exact ax_rs 2 (fun n => rfl)
    · rw [if_neg c33] at h
      refine ax_gf c33 s34 ?_
      refine ax_go (j := 4) (k2 := 52) (lv2 := [some (.inr (.inr (22, 0))), none, none, some (.inl v3), some (.inl v4), some (.inl v5), some (.inl v6), some (.inl (-1)), some (.inl 0), none]) (st2 := []) (m2 := m) (fun n => rfl) ?_
      refine ax_fg (lv2 := [some (.inr (.inr (22, 0))), none, none, some (.inl v3), some (.inl v4), some (.inl v5), some (.inl v6), some (.inl (-1)), some (.inl 0), none]) ⟨rfl, rfl, rfl, rfl, rfl, rfl, rfl, trivial⟩ ?_
      refine R_X11_way_L52 ?_ _ m (-1) 0 _ h
      · intro m68 y67 q h
        refine ax_go (j := 4) (k2 := 45) (lv2 := [some (.inr (.inr (22, 0))), none, none, some (.inl v3), some (.inl v4), some (.inl y67), some (.inl (v6 + 1)), some (.inl y67), none, none]) (st2 := []) (m2 := m68) (fun n => rfl) ?_
        exact ax_fg (lv2 := [some (.inr (.inr (22, 0))), none, none, some (.inl v3), some (.inl v4), some (.inl y67), some (.inl (v6 + 1)), none, none, none]) ⟨rfl, rfl, rfl, rfl, rfl, trivial⟩ (ih m68 y67 (v6 + 1) _ h)
def F_X11_way (m : ax_M) (v1 : Int32) (v2 : Int32) (v3 : Int32) : Option (Int32 × ax_M) := ax_b (F_X11_isOne m v1) (fun r2 => if r2 = 0 then (ax_b2 (F_X11_no m (-2)) (fun r6 m7 => some (r6, m7))) else (ax_b (F_X11_isCell v2) (fun r10 => if r10 = 0 then (ax_b2 (F_X11_no m (-2)) (fun r14 m15 => some (r14, m15))) else (if (-1) ≤ v3 then (ax_b2 (F_X11_wayOf m v1 v2) (fun r20 m21 => if r20 = (-1) then (some (r20, m21)) else (if v3 = (-1) then (some (r20, m21)) else (if v3 < r20 then (ax_b (F_X11_walksBack m21 v1 v2) (fun m30 => if ax_ok v1 8 = true then (F_X11_way_L45 ax_FU m30 v3 r20 (m30.1 24 0 v1.toNatClampNeg) 0) else (none))) else (ax_b2 (F_X11_no m21 (-5)) (fun r73 m74 => some (r73, m74))))))) else (ax_b2 (F_X11_no m (-2)) (fun r78 m79 => some (r78, m79)))))))
set_option maxRecDepth 20000 in
set_option maxHeartbeats 4000000 in
theorem R_X11_way {d : Nat} (hd : 12 ≤ d) {m : ax_M} {v1 : Int32} {v2 : Int32} {v3 : Int32} {q : (Int32 × ax_M)} (h : F_X11_way m v1 v2 v3 = some q) : ax_Ru d L_X11_way 0 (ax_entry [.inr (.inr (22, 0)), .inl v1, .inl v2, .inl v3] 10) [] m (some (.inl q.1), q.2) := by
  obtain ⟨e, rfl⟩ : ∃ e, d = e + 12 := ⟨d - 12, by omega⟩
  unfold F_X11_way at h
  obtain ⟨r2, q1, h⟩ := ax_b_of h
  have s82 : ∀ n, ax_ex (e + 12) L_X11_way 0 (ax_entry [.inr (.inr (22, 0)), .inl v1, .inl v2, .inl v3] 10) [] m (n + 3) = ax_aft (fun s m2 => ax_ex (e + 12) L_X11_way 3 [some (.inr (.inr (22, 0))), some (.inl v1), some (.inl v2), some (.inl v3), none, none, none, none, none, none] s m2 n) [] (ax_ex (e + 11) L_X11_isOne 0 (ax_entry [.inr (.inr (22, 0)), .inl v1] 2) [] m n) := fun n => rfl
  refine ax_gci (j := 3) (k2 := 3) (lv2 := [some (.inr (.inr (22, 0))), some (.inl v1), some (.inl v2), some (.inl v3), none, none, none, none, none, none]) (rest := []) ((R_X11_isOne (by omega) q1)) s82 ?_
  have s4 : ∀ n, ax_ex (e + 12) L_X11_way 3 [some (.inr (.inr (22, 0))), some (.inl v1), some (.inl v2), some (.inl v3), none, none, none, none, none, none] [.inl r2] m (n + 1) = if r2 = 0 then ax_ex (e + 12) L_X11_way 10 [some (.inr (.inr (22, 0))), some (.inl v1), some (.inl v2), some (.inl v3), none, none, none, none, none, none] [] m n else ax_ex (e + 12) L_X11_way 4 [some (.inr (.inr (22, 0))), some (.inl v1), some (.inl v2), some (.inl v3), none, none, none, none, none, none] [] m n := fun n => rfl
  by_cases c3 : r2 = 0
  · rw [if_pos c3] at h
    refine ax_gt c3 s4 ?_
    obtain ⟨r6, m7, q5, h⟩ := ax_b2_of h
    have s8 : ∀ n, ax_ex (e + 12) L_X11_way 10 [some (.inr (.inr (22, 0))), some (.inl v1), some (.inl v2), some (.inl v3), none, none, none, none, none, none] [] m (n + 3) = ax_aft (fun s m2 => ax_ex (e + 12) L_X11_way 13 [some (.inr (.inr (22, 0))), some (.inl v1), some (.inl v2), some (.inl v3), none, none, none, none, none, none] s m2 n) [] (ax_ex (e + 11) L_X11_no 0 (ax_entry [.inr (.inr (22, 0)), .inl (-2)] 2) [] m n) := fun n => rfl
    refine ax_gci (j := 3) (k2 := 13) (lv2 := [some (.inr (.inr (22, 0))), some (.inl v1), some (.inl v2), some (.inl v3), none, none, none, none, none, none]) (rest := []) ((R_X11_no (by omega) q5)) s8 ?_
    obtain rfl := Option.some.inj h
    exact ax_rs 1 (fun n => rfl)
  · rw [if_neg c3] at h
    refine ax_gf c3 s4 ?_
    obtain ⟨r10, q9, h⟩ := ax_b_of h
    have s81 : ∀ n, ax_ex (e + 12) L_X11_way 4 [some (.inr (.inr (22, 0))), some (.inl v1), some (.inl v2), some (.inl v3), none, none, none, none, none, none] [] m (n + 2) = ax_aft (fun s m2 => ax_ex (e + 12) L_X11_way 6 [some (.inr (.inr (22, 0))), some (.inl v1), some (.inl v2), some (.inl v3), none, none, none, none, none, none] s m2 n) [] (ax_ex (e + 11) L_X11_isCell 0 (ax_entry [.inl v2] 1) [] m n) := fun n => rfl
    refine ax_gci (j := 2) (k2 := 6) (lv2 := [some (.inr (.inr (22, 0))), some (.inl v1), some (.inl v2), some (.inl v3), none, none, none, none, none, none]) (rest := []) ((R_X11_isCell (by omega) q9)) s81 ?_
    have s12 : ∀ n, ax_ex (e + 12) L_X11_way 6 [some (.inr (.inr (22, 0))), some (.inl v1), some (.inl v2), some (.inl v3), none, none, none, none, none, none] [.inl r10] m (n + 1) = if r10 = 0 then ax_ex (e + 12) L_X11_way 10 [some (.inr (.inr (22, 0))), some (.inl v1), some (.inl v2), some (.inl v3), none, none, none, none, none, none] [] m n else ax_ex (e + 12) L_X11_way 7 [some (.inr (.inr (22, 0))), some (.inl v1), some (.inl v2), some (.inl v3), none, none, none, none, none, none] [] m n := fun n => rfl
    by_cases c11 : r10 = 0
    · rw [if_pos c11] at h
      refine ax_gt c11 s12 ?_
      obtain ⟨r14, m15, q13, h⟩ := ax_b2_of h
      have s16 : ∀ n, ax_ex (e + 12) L_X11_way 10 [some (.inr (.inr (22, 0))), some (.inl v1), some (.inl v2), some (.inl v3), none, none, none, none, none, none] [] m (n + 3) = ax_aft (fun s m2 => ax_ex (e + 12) L_X11_way 13 [some (.inr (.inr (22, 0))), some (.inl v1), some (.inl v2), some (.inl v3), none, none, none, none, none, none] s m2 n) [] (ax_ex (e + 11) L_X11_no 0 (ax_entry [.inr (.inr (22, 0)), .inl (-2)] 2) [] m n) := fun n => rfl
      refine ax_gci (j := 3) (k2 := 13) (lv2 := [some (.inr (.inr (22, 0))), some (.inl v1), some (.inl v2), some (.inl v3), none, none, none, none, none, none]) (rest := []) ((R_X11_no (by omega) q13)) s16 ?_
      obtain rfl := Option.some.inj h
      exact ax_rs 1 (fun n => rfl)
    · rw [if_neg c11] at h
      refine ax_gf c11 s12 ?_
      have s18 : ∀ n, ax_ex (e + 12) L_X11_way 7 [some (.inr (.inr (22, 0))), some (.inl v1), some (.inl v2), some (.inl v3), none, none, none, none, none, none] [] m (n + 3) = if (-1) ≤ v3 then ax_ex (e + 12) L_X11_way 14 [some (.inr (.inr (22, 0))), some (.inl v1), some (.inl v2), some (.inl v3), none, none, none, none, none, none] [] m n else ax_ex (e + 12) L_X11_way 10 [some (.inr (.inr (22, 0))), some (.inl v1), some (.inl v2), some (.inl v3), none, none, none, none, none, none] [] m n := fun n => rfl
      by_cases c17 : (-1) ≤ v3
      · rw [if_pos c17] at h
        refine ax_gt c17 s18 ?_
        obtain ⟨r20, m21, q19, h⟩ := ax_b2_of h
        have s76 : ∀ n, ax_ex (e + 12) L_X11_way 14 [some (.inr (.inr (22, 0))), some (.inl v1), some (.inl v2), some (.inl v3), none, none, none, none, none, none] [] m (n + 4) = ax_aft (fun s m2 => ax_ex (e + 12) L_X11_way 18 [some (.inr (.inr (22, 0))), some (.inl v1), some (.inl v2), some (.inl v3), none, none, none, none, none, none] s m2 n) [] (ax_ex (e + 11) L_X11_wayOf 0 (ax_entry [.inr (.inr (22, 0)), .inl v1, .inl v2] 3) [] m n) := fun n => rfl
        refine ax_gci (j := 4) (k2 := 18) (lv2 := [some (.inr (.inr (22, 0))), some (.inl v1), some (.inl v2), some (.inl v3), none, none, none, none, none, none]) (rest := []) ((R_X11_wayOf (by omega) q19)) s76 ?_
        have s23 : ∀ n, ax_ex (e + 12) L_X11_way 18 [some (.inr (.inr (22, 0))), some (.inl v1), some (.inl v2), some (.inl v3), none, none, none, none, none, none] [.inl r20] m21 (n + 4) = if r20 = (-1) then ax_ex (e + 12) L_X11_way 25 [some (.inr (.inr (22, 0))), some (.inl v1), some (.inl v2), some (.inl v3), some (.inl r20), none, none, none, none, none] [] m21 n else ax_ex (e + 12) L_X11_way 22 [some (.inr (.inr (22, 0))), some (.inl v1), some (.inl v2), some (.inl v3), some (.inl r20), none, none, none, none, none] [] m21 n := fun n => rfl
        by_cases c22 : r20 = (-1)
        · rw [if_pos c22] at h
          refine ax_gt c22 s23 ?_
          obtain rfl := Option.some.inj h
          exact ax_rs 2 (fun n => rfl)
        · rw [if_neg c22] at h
          refine ax_gf c22 s23 ?_
          have s25 : ∀ n, ax_ex (e + 12) L_X11_way 22 [some (.inr (.inr (22, 0))), some (.inl v1), some (.inl v2), some (.inl v3), some (.inl r20), none, none, none, none, none] [] m21 (n + 3) = if v3 = (-1) then ax_ex (e + 12) L_X11_way 25 [some (.inr (.inr (22, 0))), some (.inl v1), some (.inl v2), some (.inl v3), some (.inl r20), none, none, none, none, none] [] m21 n else ax_ex (e + 12) L_X11_way 27 [some (.inr (.inr (22, 0))), some (.inl v1), some (.inl v2), some (.inl v3), some (.inl r20), none, none, none, none, none] [] m21 n := fun n => rfl
          by_cases c24 : v3 = (-1)
          · rw [if_pos c24] at h
            refine ax_gt c24 s25 ?_
            obtain rfl := Option.some.inj h
            exact ax_rs 2 (fun n => rfl)
          · rw [if_neg c24] at h
            refine ax_gf c24 s25 ?_
            have s27 : ∀ n, ax_ex (e + 12) L_X11_way 27 [some (.inr (.inr (22, 0))), some (.inl v1), some (.inl v2), some (.inl v3), some (.inl r20), none, none, none, none, none] [] m21 (n + 3) = if v3 < r20 then ax_ex (e + 12) L_X11_way 34 [some (.inr (.inr (22, 0))), some (.inl v1), some (.inl v2), some (.inl v3), some (.inl r20), none, none, none, none, none] [] m21 n else ax_ex (e + 12) L_X11_way 30 [some (.inr (.inr (22, 0))), some (.inl v1), some (.inl v2), some (.inl v3), some (.inl r20), none, none, none, none, none] [] m21 n := fun n => rfl
            by_cases c26 : v3 < r20
            · rw [if_pos c26] at h
              refine ax_gt c26 s27 ?_
              obtain ⟨m30, q28, h⟩ := ax_b_of h
              have s71 : ∀ n, ax_ex (e + 12) L_X11_way 34 [some (.inr (.inr (22, 0))), some (.inl v1), some (.inl v2), some (.inl v3), some (.inl r20), none, none, none, none, none] [] m21 (n + 4) = ax_aft (fun s m2 => ax_ex (e + 12) L_X11_way 38 [some (.inr (.inr (22, 0))), some (.inl v1), some (.inl v2), some (.inl v3), some (.inl r20), none, none, none, none, none] s m2 n) [] (ax_ex (e + 11) L_X11_walksBack 0 (ax_entry [.inr (.inr (22, 0)), .inl v1, .inl v2] 8) [] m21 n) := fun n => rfl
              refine ax_gcv (j := 4) (k2 := 38) (lv2 := [some (.inr (.inr (22, 0))), some (.inl v1), some (.inl v2), some (.inl v3), some (.inl r20), none, none, none, none, none]) (rest := []) ((R_X11_walksBack (by omega) q28)) s71 ?_
              have s32 : ∀ n, ax_ex (e + 12) L_X11_way 38 [some (.inr (.inr (22, 0))), some (.inl v1), some (.inl v2), some (.inl v3), some (.inl r20), none, none, none, none, none] [] m30 (n + 4) = if ax_ok v1 8 = true then ax_ex (e + 12) L_X11_way 42 [some (.inr (.inr (22, 0))), some (.inl v1), some (.inl v2), some (.inl v3), some (.inl r20), none, none, none, none, none] [.inl (m30.1 24 0 v1.toNatClampNeg)] m30 n else none := fun n => rfl
              by_cases c31 : ax_ok v1 8 = true
              · rw [if_pos c31] at h
                refine ax_gt c31 s32 ?_
                refine ax_go (j := 3) (k2 := 45) (lv2 := [some (.inr (.inr (22, 0))), some (.inl v1), some (.inl v2), some (.inl v3), some (.inl r20), some (.inl (m30.1 24 0 v1.toNatClampNeg)), some (.inl 0), none, none, none]) (st2 := []) (m2 := m30) (fun n => rfl) ?_
                refine ax_fg (lv2 := [some (.inr (.inr (22, 0))), none, none, some (.inl v3), some (.inl r20), some (.inl (m30.1 24 0 v1.toNatClampNeg)), some (.inl 0), none, none, none]) ⟨rfl, rfl, rfl, rfl, rfl, trivial⟩ ?_
                refine R_X11_way_L45 _ m30 (m30.1 24 0 v1.toNatClampNeg) 0 _ h
              · rw [if_neg c31] at h
                cases h
            · rw [if_neg c26] at h
              refine ax_gf c26 s27 ?_
              obtain ⟨r73, m74, q72, h⟩ := ax_b2_of h
              have s75 : ∀ n, ax_ex (e + 12) L_X11_way 30 [some (.inr (.inr (22, 0))), some (.inl v1), some (.inl v2), some (.inl v3), some (.inl r20), none, none, none, none, none] [] m21 (n + 3) = ax_aft (fun s m2 => ax_ex (e + 12) L_X11_way 33 [some (.inr (.inr (22, 0))), some (.inl v1), some (.inl v2), some (.inl v3), some (.inl r20), none, none, none, none, none] s m2 n) [] (ax_ex (e + 11) L_X11_no 0 (ax_entry [.inr (.inr (22, 0)), .inl (-5)] 2) [] m21 n) := fun n => rfl
              refine ax_gci (j := 3) (k2 := 33) (lv2 := [some (.inr (.inr (22, 0))), some (.inl v1), some (.inl v2), some (.inl v3), some (.inl r20), none, none, none, none, none]) (rest := []) ((R_X11_no (by omega) q72)) s75 ?_
              obtain rfl := Option.some.inj h
              exact ax_rs 1 (fun n => rfl)
      · rw [if_neg c17] at h
        refine ax_gf c17 s18 ?_
        obtain ⟨r78, m79, q77, h⟩ := ax_b2_of h
        have s80 : ∀ n, ax_ex (e + 12) L_X11_way 10 [some (.inr (.inr (22, 0))), some (.inl v1), some (.inl v2), some (.inl v3), none, none, none, none, none, none] [] m (n + 3) = ax_aft (fun s m2 => ax_ex (e + 12) L_X11_way 13 [some (.inr (.inr (22, 0))), some (.inl v1), some (.inl v2), some (.inl v3), none, none, none, none, none, none] s m2 n) [] (ax_ex (e + 11) L_X11_no 0 (ax_entry [.inr (.inr (22, 0)), .inl (-2)] 2) [] m n) := fun n => rfl
        refine ax_gci (j := 3) (k2 := 13) (lv2 := [some (.inr (.inr (22, 0))), some (.inl v1), some (.inl v2), some (.inl v3), none, none, none, none, none, none]) (rest := []) ((R_X11_no (by omega) q77)) s80 ?_
        obtain rfl := Option.some.inj h
        exact ax_rs 1 (fun n => rfl)
def F_X11_bar_L21 : Nat → ax_M → Int32 → Int32 → Int32 → Option (Int32 × ax_M)
  | 0, _, _, _, _ => none
  | n + 1, m, v1, v2, v3 => if (m.1 22 0 1) ≤ v3 then (some ((-1), m)) else (ax_b (F_X11_walks m v1 v3) (fun m26 => if ax_ok v2 64 = true then (if (m26.1 37 0 v2.toNatClampNeg) = (-1) then (F_X11_bar_L21 n m26 v1 v2 (v3 + 1)) else (some (v3, m26))) else (none)))
set_option maxRecDepth 20000 in
set_option maxHeartbeats 4000000 in
theorem R_X11_bar_L21 {e : Nat} {v1 : Int32} {v2 : Int32} : ∀ (n : Nat) (m : ax_M) (v3 : Int32) (q : (Int32 × ax_M)), F_X11_bar_L21 n m v1 v2 v3 = some q → ax_Ru (e + 12) L_X11_bar 21 [some (.inr (.inr (22, 0))), some (.inl v1), some (.inl v2), some (.inl v3)] [] m (some (.inl q.1), q.2) := by
  intro n
  induction n with
  | zero =>
    intro m v3 q h
    cases h
  | succ n ih =>
    intro m v3 q h
    rw [F_X11_bar_L21] at h
    have s23 : ∀ n, ax_ex (e + 12) L_X11_bar 21 [some (.inr (.inr (22, 0))), some (.inl v1), some (.inl v2), some (.inl v3)] [] m (n + 4) = if (m.1 22 0 1) ≤ v3 then ax_ex (e + 12) L_X11_bar 39 [some (.inr (.inr (22, 0))), some (.inl v1), some (.inl v2), some (.inl v3)] [] m n else ax_ex (e + 12) L_X11_bar 25 [some (.inr (.inr (22, 0))), some (.inl v1), some (.inl v2), some (.inl v3)] [] m n := fun n => rfl
    by_cases c22 : (m.1 22 0 1) ≤ v3
    · rw [if_pos c22] at h
      refine ax_gt c22 s23 ?_
      obtain rfl := Option.some.inj h
      exact ax_rs 2 (fun n => rfl)
    · rw [if_neg c22] at h
      refine ax_gf c22 s23 ?_
      obtain ⟨m26, q24, h⟩ := ax_b_of h
      have s31 : ∀ n, ax_ex (e + 12) L_X11_bar 25 [some (.inr (.inr (22, 0))), some (.inl v1), some (.inl v2), some (.inl v3)] [] m (n + 4) = ax_aft (fun s m2 => ax_ex (e + 12) L_X11_bar 29 [some (.inr (.inr (22, 0))), some (.inl v1), some (.inl v2), some (.inl v3)] s m2 n) [] (ax_ex (e + 11) L_X11_walks 0 (ax_entry [.inr (.inr (22, 0)), .inl v1, .inl v3] 8) [] m n) := fun n => rfl
      refine ax_gcv (j := 4) (k2 := 29) (lv2 := [some (.inr (.inr (22, 0))), some (.inl v1), some (.inl v2), some (.inl v3)]) (rest := []) ((R_X11_walks (by omega) q24)) s31 ?_
      have s28 : ∀ n, ax_ex (e + 12) L_X11_bar 29 [some (.inr (.inr (22, 0))), some (.inl v1), some (.inl v2), some (.inl v3)] [] m26 (n + 4) = if ax_ok v2 64 = true then ax_ex (e + 12) L_X11_bar 33 [some (.inr (.inr (22, 0))), some (.inl v1), some (.inl v2), some (.inl v3)] [.inl (m26.1 37 0 v2.toNatClampNeg)] m26 n else none := fun n => rfl
      by_cases c27 : ax_ok v2 64 = true
      · rw [if_pos c27] at h
        refine ax_gt c27 s28 ?_
        have s30 : ∀ n, ax_ex (e + 12) L_X11_bar 33 [some (.inr (.inr (22, 0))), some (.inl v1), some (.inl v2), some (.inl v3)] [.inl (m26.1 37 0 v2.toNatClampNeg)] m26 (n + 2) = if (m26.1 37 0 v2.toNatClampNeg) = (-1) then ax_ex (e + 12) L_X11_bar 37 [some (.inr (.inr (22, 0))), some (.inl v1), some (.inl v2), some (.inl v3)] [] m26 n else ax_ex (e + 12) L_X11_bar 35 [some (.inr (.inr (22, 0))), some (.inl v1), some (.inl v2), some (.inl v3)] [] m26 n := fun n => rfl
        by_cases c29 : (m26.1 37 0 v2.toNatClampNeg) = (-1)
        · rw [if_pos c29] at h
          refine ax_gt c29 s30 ?_
          refine ax_go (j := 2) (k2 := 21) (lv2 := [some (.inr (.inr (22, 0))), some (.inl v1), some (.inl v2), some (.inl (v3 + 1))]) (st2 := []) (m2 := m26) (fun n => rfl) ?_
          exact ax_fg (lv2 := [some (.inr (.inr (22, 0))), some (.inl v1), some (.inl v2), some (.inl (v3 + 1))]) ⟨rfl, rfl, rfl, rfl, trivial⟩ (ih m26 (v3 + 1) _ h)
        · rw [if_neg c29] at h
          refine ax_gf c29 s30 ?_
          obtain rfl := Option.some.inj h
          exact ax_rs 2 (fun n => rfl)
      · rw [if_neg c27] at h
        cases h
def F_X11_bar (m : ax_M) (v1 : Int32) (v2 : Int32) : Option (Int32 × ax_M) := ax_b (F_X11_isOne m v1) (fun r2 => if r2 = 0 then (ax_b2 (F_X11_no m (-2)) (fun r6 m7 => some (r6, m7))) else (ax_b (F_X11_isCell v2) (fun r10 => if r10 = 0 then (ax_b2 (F_X11_no m (-2)) (fun r14 m15 => some (r14, m15))) else (ax_b2 (F_X11_wayOf m v1 v2) (fun r18 m19 => if r18 = (-1) then (F_X11_bar_L21 ax_FU m19 v1 v2 0) else (some ((-1), m19)))))))
set_option maxRecDepth 20000 in
set_option maxHeartbeats 4000000 in
theorem R_X11_bar {d : Nat} (hd : 12 ≤ d) {m : ax_M} {v1 : Int32} {v2 : Int32} {q : (Int32 × ax_M)} (h : F_X11_bar m v1 v2 = some q) : ax_Ru d L_X11_bar 0 (ax_entry [.inr (.inr (22, 0)), .inl v1, .inl v2] 4) [] m (some (.inl q.1), q.2) := by
  obtain ⟨e, rfl⟩ : ∃ e, d = e + 12 := ⟨d - 12, by omega⟩
  unfold F_X11_bar at h
  obtain ⟨r2, q1, h⟩ := ax_b_of h
  have s35 : ∀ n, ax_ex (e + 12) L_X11_bar 0 (ax_entry [.inr (.inr (22, 0)), .inl v1, .inl v2] 4) [] m (n + 3) = ax_aft (fun s m2 => ax_ex (e + 12) L_X11_bar 3 [some (.inr (.inr (22, 0))), some (.inl v1), some (.inl v2), none] s m2 n) [] (ax_ex (e + 11) L_X11_isOne 0 (ax_entry [.inr (.inr (22, 0)), .inl v1] 2) [] m n) := fun n => rfl
  refine ax_gci (j := 3) (k2 := 3) (lv2 := [some (.inr (.inr (22, 0))), some (.inl v1), some (.inl v2), none]) (rest := []) ((R_X11_isOne (by omega) q1)) s35 ?_
  have s4 : ∀ n, ax_ex (e + 12) L_X11_bar 3 [some (.inr (.inr (22, 0))), some (.inl v1), some (.inl v2), none] [.inl r2] m (n + 1) = if r2 = 0 then ax_ex (e + 12) L_X11_bar 7 [some (.inr (.inr (22, 0))), some (.inl v1), some (.inl v2), none] [] m n else ax_ex (e + 12) L_X11_bar 4 [some (.inr (.inr (22, 0))), some (.inl v1), some (.inl v2), none] [] m n := fun n => rfl
  by_cases c3 : r2 = 0
  · rw [if_pos c3] at h
    refine ax_gt c3 s4 ?_
    obtain ⟨r6, m7, q5, h⟩ := ax_b2_of h
    have s8 : ∀ n, ax_ex (e + 12) L_X11_bar 7 [some (.inr (.inr (22, 0))), some (.inl v1), some (.inl v2), none] [] m (n + 3) = ax_aft (fun s m2 => ax_ex (e + 12) L_X11_bar 10 [some (.inr (.inr (22, 0))), some (.inl v1), some (.inl v2), none] s m2 n) [] (ax_ex (e + 11) L_X11_no 0 (ax_entry [.inr (.inr (22, 0)), .inl (-2)] 2) [] m n) := fun n => rfl
    refine ax_gci (j := 3) (k2 := 10) (lv2 := [some (.inr (.inr (22, 0))), some (.inl v1), some (.inl v2), none]) (rest := []) ((R_X11_no (by omega) q5)) s8 ?_
    obtain rfl := Option.some.inj h
    exact ax_rs 1 (fun n => rfl)
  · rw [if_neg c3] at h
    refine ax_gf c3 s4 ?_
    obtain ⟨r10, q9, h⟩ := ax_b_of h
    have s34 : ∀ n, ax_ex (e + 12) L_X11_bar 4 [some (.inr (.inr (22, 0))), some (.inl v1), some (.inl v2), none] [] m (n + 2) = ax_aft (fun s m2 => ax_ex (e + 12) L_X11_bar 6 [some (.inr (.inr (22, 0))), some (.inl v1), some (.inl v2), none] s m2 n) [] (ax_ex (e + 11) L_X11_isCell 0 (ax_entry [.inl v2] 1) [] m n) := fun n => rfl
    refine ax_gci (j := 2) (k2 := 6) (lv2 := [some (.inr (.inr (22, 0))), some (.inl v1), some (.inl v2), none]) (rest := []) ((R_X11_isCell (by omega) q9)) s34 ?_
    have s12 : ∀ n, ax_ex (e + 12) L_X11_bar 6 [some (.inr (.inr (22, 0))), some (.inl v1), some (.inl v2), none] [.inl r10] m (n + 1) = if r10 = 0 then ax_ex (e + 12) L_X11_bar 7 [some (.inr (.inr (22, 0))), some (.inl v1), some (.inl v2), none] [] m n else ax_ex (e + 12) L_X11_bar 11 [some (.inr (.inr (22, 0))), some (.inl v1), some (.inl v2), none] [] m n := fun n => rfl
    by_cases c11 : r10 = 0
    · rw [if_pos c11] at h
      refine ax_gt c11 s12 ?_
      obtain ⟨r14, m15, q13, h⟩ := ax_b2_of h
      have s16 : ∀ n, ax_ex (e + 12) L_X11_bar 7 [some (.inr (.inr (22, 0))), some (.inl v1), some (.inl v2), none] [] m (n + 3) = ax_aft (fun s m2 => ax_ex (e + 12) L_X11_bar 10 [some (.inr (.inr (22, 0))), some (.inl v1), some (.inl v2), none] s m2 n) [] (ax_ex (e + 11) L_X11_no 0 (ax_entry [.inr (.inr (22, 0)), .inl (-2)] 2) [] m n) := fun n => rfl
      refine ax_gci (j := 3) (k2 := 10) (lv2 := [some (.inr (.inr (22, 0))), some (.inl v1), some (.inl v2), none]) (rest := []) ((R_X11_no (by omega) q13)) s16 ?_
      obtain rfl := Option.some.inj h
      exact ax_rs 1 (fun n => rfl)
    · rw [if_neg c11] at h
      refine ax_gf c11 s12 ?_
      obtain ⟨r18, m19, q17, h⟩ := ax_b2_of h
      have s33 : ∀ n, ax_ex (e + 12) L_X11_bar 11 [some (.inr (.inr (22, 0))), some (.inl v1), some (.inl v2), none] [] m (n + 4) = ax_aft (fun s m2 => ax_ex (e + 12) L_X11_bar 15 [some (.inr (.inr (22, 0))), some (.inl v1), some (.inl v2), none] s m2 n) [] (ax_ex (e + 11) L_X11_wayOf 0 (ax_entry [.inr (.inr (22, 0)), .inl v1, .inl v2] 3) [] m n) := fun n => rfl
      refine ax_gci (j := 4) (k2 := 15) (lv2 := [some (.inr (.inr (22, 0))), some (.inl v1), some (.inl v2), none]) (rest := []) ((R_X11_wayOf (by omega) q17)) s33 ?_
      have s21 : ∀ n, ax_ex (e + 12) L_X11_bar 15 [some (.inr (.inr (22, 0))), some (.inl v1), some (.inl v2), none] [.inl r18] m19 (n + 2) = if r18 = (-1) then ax_ex (e + 12) L_X11_bar 19 [some (.inr (.inr (22, 0))), some (.inl v1), some (.inl v2), none] [] m19 n else ax_ex (e + 12) L_X11_bar 17 [some (.inr (.inr (22, 0))), some (.inl v1), some (.inl v2), none] [] m19 n := fun n => rfl
      by_cases c20 : r18 = (-1)
      · rw [if_pos c20] at h
        refine ax_gt c20 s21 ?_
        refine ax_go (j := 2) (k2 := 21) (lv2 := [some (.inr (.inr (22, 0))), some (.inl v1), some (.inl v2), some (.inl 0)]) (st2 := []) (m2 := m19) (fun n => rfl) ?_
        refine ax_fg (lv2 := [some (.inr (.inr (22, 0))), some (.inl v1), some (.inl v2), some (.inl 0)]) ⟨rfl, rfl, rfl, rfl, trivial⟩ ?_
        refine R_X11_bar_L21 _ m19 0 _ h
      · rw [if_neg c20] at h
        refine ax_gf c20 s21 ?_
        obtain rfl := Option.some.inj h
        exact ax_rs 2 (fun n => rfl)
def F_X11_reach_L16 : Nat → ax_M → Int32 → Int32 → Option (Int32 × ax_M)
  | 0, _, _, _ => none
  | n + 1, m, v2, v3 => if 64 ≤ v3 then (some (v2, m)) else (if ax_ok v3 64 = true then (if (m.1 37 0 v3.toNatClampNeg) = (-1) then (F_X11_reach_L16 n m v2 (v3 + 1)) else (F_X11_reach_L16 n m (v2 + 1) (v3 + 1))) else (none))
set_option maxRecDepth 20000 in
set_option maxHeartbeats 4000000 in
theorem R_X11_reach_L16 {e : Nat} : ∀ (n : Nat) (m : ax_M) (v2 : Int32) (v3 : Int32) (q : (Int32 × ax_M)), F_X11_reach_L16 n m v2 v3 = some q → ax_Ru (e + 11) L_X11_reach 16 [some (.inr (.inr (22, 0))), none, some (.inl v2), some (.inl v3)] [] m (some (.inl q.1), q.2) := by
  intro n
  induction n with
  | zero =>
    intro m v2 v3 q h
    cases h
  | succ n ih =>
    intro m v2 v3 q h
    rw [F_X11_reach_L16] at h
    have s13 : ∀ n, ax_ex (e + 11) L_X11_reach 16 [some (.inr (.inr (22, 0))), none, some (.inl v2), some (.inl v3)] [] m (n + 3) = if 64 ≤ v3 then ax_ex (e + 11) L_X11_reach 28 [some (.inr (.inr (22, 0))), none, some (.inl v2), some (.inl v3)] [] m n else ax_ex (e + 11) L_X11_reach 19 [some (.inr (.inr (22, 0))), none, some (.inl v2), some (.inl v3)] [] m n := fun n => rfl
    by_cases c12 : 64 ≤ v3
    · rw [if_pos c12] at h
      refine ax_gt c12 s13 ?_
      obtain rfl := Option.some.inj h
      exact ax_rs 2 (fun n => rfl)
    · rw [if_neg c12] at h
      refine ax_gf c12 s13 ?_
      have s15 : ∀ n, ax_ex (e + 11) L_X11_reach 19 [some (.inr (.inr (22, 0))), none, some (.inl v2), some (.inl v3)] [] m (n + 4) = if ax_ok v3 64 = true then ax_ex (e + 11) L_X11_reach 23 [some (.inr (.inr (22, 0))), none, some (.inl v2), some (.inl v3)] [.inl (m.1 37 0 v3.toNatClampNeg)] m n else none := fun n => rfl
      by_cases c14 : ax_ok v3 64 = true
      · rw [if_pos c14] at h
        refine ax_gt c14 s15 ?_
        have s17 : ∀ n, ax_ex (e + 11) L_X11_reach 23 [some (.inr (.inr (22, 0))), none, some (.inl v2), some (.inl v3)] [.inl (m.1 37 0 v3.toNatClampNeg)] m (n + 2) = if (m.1 37 0 v3.toNatClampNeg) = (-1) then ax_ex (e + 11) L_X11_reach 26 [some (.inr (.inr (22, 0))), none, some (.inl v2), some (.inl v3)] [] m n else ax_ex (e + 11) L_X11_reach 25 [some (.inr (.inr (22, 0))), none, some (.inl v2), some (.inl v3)] [] m n := fun n => rfl
        by_cases c16 : (m.1 37 0 v3.toNatClampNeg) = (-1)
        · rw [if_pos c16] at h
          refine ax_gt c16 s17 ?_
          refine ax_go (j := 2) (k2 := 16) (lv2 := [some (.inr (.inr (22, 0))), none, some (.inl v2), some (.inl (v3 + 1))]) (st2 := []) (m2 := m) (fun n => rfl) ?_
          exact ax_fg (lv2 := [some (.inr (.inr (22, 0))), none, some (.inl v2), some (.inl (v3 + 1))]) ⟨rfl, rfl, rfl, trivial⟩ (ih m v2 (v3 + 1) _ h)
        · rw [if_neg c16] at h
          refine ax_gf c16 s17 ?_
          refine ax_go (j := 3) (k2 := 16) (lv2 := [some (.inr (.inr (22, 0))), none, some (.inl (v2 + 1)), some (.inl (v3 + 1))]) (st2 := []) (m2 := m) (fun n => rfl) ?_
          exact ax_fg (lv2 := [some (.inr (.inr (22, 0))), none, some (.inl (v2 + 1)), some (.inl (v3 + 1))]) ⟨rfl, rfl, rfl, trivial⟩ (ih m (v2 + 1) (v3 + 1) _ h)
      · rw [if_neg c14] at h
        cases h
def F_X11_reach (m : ax_M) (v1 : Int32) : Option (Int32 × ax_M) := ax_b (F_X11_isOne m v1) (fun r2 => if r2 = 0 then (ax_b2 (F_X11_no m (-2)) (fun r6 m7 => some (r6, m7))) else (ax_b (F_X11_walks m v1 (-1)) (fun m11 => F_X11_reach_L16 ax_FU m11 0 0)))
set_option maxRecDepth 20000 in
set_option maxHeartbeats 4000000 in
theorem R_X11_reach {d : Nat} (hd : 11 ≤ d) {m : ax_M} {v1 : Int32} {q : (Int32 × ax_M)} (h : F_X11_reach m v1 = some q) : ax_Ru d L_X11_reach 0 (ax_entry [.inr (.inr (22, 0)), .inl v1] 4) [] m (some (.inl q.1), q.2) := by
  obtain ⟨e, rfl⟩ : ∃ e, d = e + 11 := ⟨d - 11, by omega⟩
  unfold F_X11_reach at h
  obtain ⟨r2, q1, h⟩ := ax_b_of h
  have s20 : ∀ n, ax_ex (e + 11) L_X11_reach 0 (ax_entry [.inr (.inr (22, 0)), .inl v1] 4) [] m (n + 3) = ax_aft (fun s m2 => ax_ex (e + 11) L_X11_reach 3 [some (.inr (.inr (22, 0))), some (.inl v1), none, none] s m2 n) [] (ax_ex (e + 10) L_X11_isOne 0 (ax_entry [.inr (.inr (22, 0)), .inl v1] 2) [] m n) := fun n => rfl
  refine ax_gci (j := 3) (k2 := 3) (lv2 := [some (.inr (.inr (22, 0))), some (.inl v1), none, none]) (rest := []) ((R_X11_isOne (by omega) q1)) s20 ?_
  have s4 : ∀ n, ax_ex (e + 11) L_X11_reach 3 [some (.inr (.inr (22, 0))), some (.inl v1), none, none] [.inl r2] m (n + 1) = if r2 = 0 then ax_ex (e + 11) L_X11_reach 4 [some (.inr (.inr (22, 0))), some (.inl v1), none, none] [] m n else ax_ex (e + 11) L_X11_reach 8 [some (.inr (.inr (22, 0))), some (.inl v1), none, none] [] m n := fun n => rfl
  by_cases c3 : r2 = 0
  · rw [if_pos c3] at h
    refine ax_gt c3 s4 ?_
    obtain ⟨r6, m7, q5, h⟩ := ax_b2_of h
    have s8 : ∀ n, ax_ex (e + 11) L_X11_reach 4 [some (.inr (.inr (22, 0))), some (.inl v1), none, none] [] m (n + 3) = ax_aft (fun s m2 => ax_ex (e + 11) L_X11_reach 7 [some (.inr (.inr (22, 0))), some (.inl v1), none, none] s m2 n) [] (ax_ex (e + 10) L_X11_no 0 (ax_entry [.inr (.inr (22, 0)), .inl (-2)] 2) [] m n) := fun n => rfl
    refine ax_gci (j := 3) (k2 := 7) (lv2 := [some (.inr (.inr (22, 0))), some (.inl v1), none, none]) (rest := []) ((R_X11_no (by omega) q5)) s8 ?_
    obtain rfl := Option.some.inj h
    exact ax_rs 1 (fun n => rfl)
  · rw [if_neg c3] at h
    refine ax_gf c3 s4 ?_
    obtain ⟨m11, q9, h⟩ := ax_b_of h
    have s19 : ∀ n, ax_ex (e + 11) L_X11_reach 8 [some (.inr (.inr (22, 0))), some (.inl v1), none, none] [] m (n + 4) = ax_aft (fun s m2 => ax_ex (e + 11) L_X11_reach 12 [some (.inr (.inr (22, 0))), some (.inl v1), none, none] s m2 n) [] (ax_ex (e + 10) L_X11_walks 0 (ax_entry [.inr (.inr (22, 0)), .inl v1, .inl (-1)] 8) [] m n) := fun n => rfl
    refine ax_gcv (j := 4) (k2 := 12) (lv2 := [some (.inr (.inr (22, 0))), some (.inl v1), none, none]) (rest := []) ((R_X11_walks (by omega) q9)) s19 ?_
    refine ax_go (j := 4) (k2 := 16) (lv2 := [some (.inr (.inr (22, 0))), some (.inl v1), some (.inl 0), some (.inl 0)]) (st2 := []) (m2 := m11) (fun n => rfl) ?_
    refine ax_fg (lv2 := [some (.inr (.inr (22, 0))), none, some (.inl 0), some (.inl 0)]) ⟨rfl, rfl, rfl, trivial⟩ ?_
    refine R_X11_reach_L16 _ m11 0 0 _ h
def F_X11_loud_L12 : Nat → ax_M → Int32 → Int32 → Int32 → Option (Int32 × ax_M)
  | 0, _, _, _, _ => none
  | n + 1, m, v1, v2, v3 => if 64 ≤ v3 then (some (v2, m)) else (if ax_ok v3 64 = true then (if (m.1 23 0 v3.toNatClampNeg) = 0 then (ax_b (F_X11_isQuiet m v1 v3 (-1)) (fun r16 => if r16 = 0 then (F_X11_loud_L12 n m v1 (v2 + 1) (v3 + 1)) else (F_X11_loud_L12 n m v1 v2 (v3 + 1)))) else (F_X11_loud_L12 n m v1 v2 (v3 + 1))) else (none))
set_option maxRecDepth 20000 in
set_option maxHeartbeats 4000000 in
theorem R_X11_loud_L12 {e : Nat} {v1 : Int32} : ∀ (n : Nat) (m : ax_M) (v2 : Int32) (v3 : Int32) (q : (Int32 × ax_M)), F_X11_loud_L12 n m v1 v2 v3 = some q → ax_Ru (e + 10) L_X11_loud 12 [some (.inr (.inr (22, 0))), some (.inl v1), some (.inl v2), some (.inl v3)] [] m (some (.inl q.1), q.2) := by
  intro n
  induction n with
  | zero =>
    intro m v2 v3 q h
    cases h
  | succ n ih =>
    intro m v2 v3 q h
    rw [F_X11_loud_L12] at h
    have s10 : ∀ n, ax_ex (e + 10) L_X11_loud 12 [some (.inr (.inr (22, 0))), some (.inl v1), some (.inl v2), some (.inl v3)] [] m (n + 3) = if 64 ≤ v3 then ax_ex (e + 10) L_X11_loud 29 [some (.inr (.inr (22, 0))), some (.inl v1), some (.inl v2), some (.inl v3)] [] m n else ax_ex (e + 10) L_X11_loud 15 [some (.inr (.inr (22, 0))), some (.inl v1), some (.inl v2), some (.inl v3)] [] m n := fun n => rfl
    by_cases c9 : 64 ≤ v3
    · rw [if_pos c9] at h
      refine ax_gt c9 s10 ?_
      obtain rfl := Option.some.inj h
      exact ax_rs 2 (fun n => rfl)
    · rw [if_neg c9] at h
      refine ax_gf c9 s10 ?_
      have s12 : ∀ n, ax_ex (e + 10) L_X11_loud 15 [some (.inr (.inr (22, 0))), some (.inl v1), some (.inl v2), some (.inl v3)] [] m (n + 4) = if ax_ok v3 64 = true then ax_ex (e + 10) L_X11_loud 19 [some (.inr (.inr (22, 0))), some (.inl v1), some (.inl v2), some (.inl v3)] [.inl (m.1 23 0 v3.toNatClampNeg)] m n else none := fun n => rfl
      by_cases c11 : ax_ok v3 64 = true
      · rw [if_pos c11] at h
        refine ax_gt c11 s12 ?_
        have s14 : ∀ n, ax_ex (e + 10) L_X11_loud 19 [some (.inr (.inr (22, 0))), some (.inl v1), some (.inl v2), some (.inl v3)] [.inl (m.1 23 0 v3.toNatClampNeg)] m (n + 1) = if (m.1 23 0 v3.toNatClampNeg) = 0 then ax_ex (e + 10) L_X11_loud 20 [some (.inr (.inr (22, 0))), some (.inl v1), some (.inl v2), some (.inl v3)] [] m n else ax_ex (e + 10) L_X11_loud 27 [some (.inr (.inr (22, 0))), some (.inl v1), some (.inl v2), some (.inl v3)] [] m n := fun n => rfl
        by_cases c13 : (m.1 23 0 v3.toNatClampNeg) = 0
        · rw [if_pos c13] at h
          refine ax_gt c13 s14 ?_
          obtain ⟨r16, q15, h⟩ := ax_b_of h
          have s19 : ∀ n, ax_ex (e + 10) L_X11_loud 20 [some (.inr (.inr (22, 0))), some (.inl v1), some (.inl v2), some (.inl v3)] [] m (n + 5) = ax_aft (fun s m2 => ax_ex (e + 10) L_X11_loud 25 [some (.inr (.inr (22, 0))), some (.inl v1), some (.inl v2), some (.inl v3)] s m2 n) [] (ax_ex (e + 9) L_X11_isQuiet 0 (ax_entry [.inr (.inr (22, 0)), .inl v1, .inl v3, .inl (-1)] 5) [] m n) := fun n => rfl
          refine ax_gci (j := 5) (k2 := 25) (lv2 := [some (.inr (.inr (22, 0))), some (.inl v1), some (.inl v2), some (.inl v3)]) (rest := []) ((R_X11_isQuiet (by omega) q15)) s19 ?_
          have s18 : ∀ n, ax_ex (e + 10) L_X11_loud 25 [some (.inr (.inr (22, 0))), some (.inl v1), some (.inl v2), some (.inl v3)] [.inl r16] m (n + 1) = if r16 = 0 then ax_ex (e + 10) L_X11_loud 26 [some (.inr (.inr (22, 0))), some (.inl v1), some (.inl v2), some (.inl v3)] [] m n else ax_ex (e + 10) L_X11_loud 27 [some (.inr (.inr (22, 0))), some (.inl v1), some (.inl v2), some (.inl v3)] [] m n := fun n => rfl
          by_cases c17 : r16 = 0
          · rw [if_pos c17] at h
            refine ax_gt c17 s18 ?_
            refine ax_go (j := 3) (k2 := 12) (lv2 := [some (.inr (.inr (22, 0))), some (.inl v1), some (.inl (v2 + 1)), some (.inl (v3 + 1))]) (st2 := []) (m2 := m) (fun n => rfl) ?_
            exact ax_fg (lv2 := [some (.inr (.inr (22, 0))), some (.inl v1), some (.inl (v2 + 1)), some (.inl (v3 + 1))]) ⟨rfl, rfl, rfl, rfl, trivial⟩ (ih m (v2 + 1) (v3 + 1) _ h)
          · rw [if_neg c17] at h
            refine ax_gf c17 s18 ?_
            refine ax_go (j := 2) (k2 := 12) (lv2 := [some (.inr (.inr (22, 0))), some (.inl v1), some (.inl v2), some (.inl (v3 + 1))]) (st2 := []) (m2 := m) (fun n => rfl) ?_
            exact ax_fg (lv2 := [some (.inr (.inr (22, 0))), some (.inl v1), some (.inl v2), some (.inl (v3 + 1))]) ⟨rfl, rfl, rfl, rfl, trivial⟩ (ih m v2 (v3 + 1) _ h)
        · rw [if_neg c13] at h
          refine ax_gf c13 s14 ?_
          refine ax_go (j := 2) (k2 := 12) (lv2 := [some (.inr (.inr (22, 0))), some (.inl v1), some (.inl v2), some (.inl (v3 + 1))]) (st2 := []) (m2 := m) (fun n => rfl) ?_
          exact ax_fg (lv2 := [some (.inr (.inr (22, 0))), some (.inl v1), some (.inl v2), some (.inl (v3 + 1))]) ⟨rfl, rfl, rfl, rfl, trivial⟩ (ih m v2 (v3 + 1) _ h)
      · rw [if_neg c11] at h
        cases h
def F_X11_loud (m : ax_M) (v1 : Int32) : Option (Int32 × ax_M) := ax_b (F_X11_isOne m v1) (fun r2 => if r2 = 0 then (ax_b2 (F_X11_no m (-2)) (fun r6 m7 => some (r6, m7))) else (F_X11_loud_L12 ax_FU m v1 0 0))
set_option maxRecDepth 20000 in
set_option maxHeartbeats 4000000 in
theorem R_X11_loud {d : Nat} (hd : 10 ≤ d) {m : ax_M} {v1 : Int32} {q : (Int32 × ax_M)} (h : F_X11_loud m v1 = some q) : ax_Ru d L_X11_loud 0 (ax_entry [.inr (.inr (22, 0)), .inl v1] 4) [] m (some (.inl q.1), q.2) := by
  obtain ⟨e, rfl⟩ : ∃ e, d = e + 10 := ⟨d - 10, by omega⟩
  unfold F_X11_loud at h
  obtain ⟨r2, q1, h⟩ := ax_b_of h
  have s21 : ∀ n, ax_ex (e + 10) L_X11_loud 0 (ax_entry [.inr (.inr (22, 0)), .inl v1] 4) [] m (n + 3) = ax_aft (fun s m2 => ax_ex (e + 10) L_X11_loud 3 [some (.inr (.inr (22, 0))), some (.inl v1), none, none] s m2 n) [] (ax_ex (e + 9) L_X11_isOne 0 (ax_entry [.inr (.inr (22, 0)), .inl v1] 2) [] m n) := fun n => rfl
  refine ax_gci (j := 3) (k2 := 3) (lv2 := [some (.inr (.inr (22, 0))), some (.inl v1), none, none]) (rest := []) ((R_X11_isOne (by omega) q1)) s21 ?_
  have s4 : ∀ n, ax_ex (e + 10) L_X11_loud 3 [some (.inr (.inr (22, 0))), some (.inl v1), none, none] [.inl r2] m (n + 1) = if r2 = 0 then ax_ex (e + 10) L_X11_loud 4 [some (.inr (.inr (22, 0))), some (.inl v1), none, none] [] m n else ax_ex (e + 10) L_X11_loud 8 [some (.inr (.inr (22, 0))), some (.inl v1), none, none] [] m n := fun n => rfl
  by_cases c3 : r2 = 0
  · rw [if_pos c3] at h
    refine ax_gt c3 s4 ?_
    obtain ⟨r6, m7, q5, h⟩ := ax_b2_of h
    have s8 : ∀ n, ax_ex (e + 10) L_X11_loud 4 [some (.inr (.inr (22, 0))), some (.inl v1), none, none] [] m (n + 3) = ax_aft (fun s m2 => ax_ex (e + 10) L_X11_loud 7 [some (.inr (.inr (22, 0))), some (.inl v1), none, none] s m2 n) [] (ax_ex (e + 9) L_X11_no 0 (ax_entry [.inr (.inr (22, 0)), .inl (-2)] 2) [] m n) := fun n => rfl
    refine ax_gci (j := 3) (k2 := 7) (lv2 := [some (.inr (.inr (22, 0))), some (.inl v1), none, none]) (rest := []) ((R_X11_no (by omega) q5)) s8 ?_
    obtain rfl := Option.some.inj h
    exact ax_rs 1 (fun n => rfl)
  · rw [if_neg c3] at h
    refine ax_gf c3 s4 ?_
    refine ax_go (j := 4) (k2 := 12) (lv2 := [some (.inr (.inr (22, 0))), some (.inl v1), some (.inl 0), some (.inl 0)]) (st2 := []) (m2 := m) (fun n => rfl) ?_
    refine ax_fg (lv2 := [some (.inr (.inr (22, 0))), some (.inl v1), some (.inl 0), some (.inl 0)]) ⟨rfl, rfl, rfl, rfl, trivial⟩ ?_
    refine R_X11_loud_L12 _ m 0 0 _ h
def F_X11_together_L11 : Nat → ax_M → Int32 → Int32 → Int32 → Option (Int32 × ax_M)
  | 0, _, _, _, _ => none
  | n + 1, m, v1, v2, v3 => if (m.1 22 0 1) ≤ v3 then (some (v2, m)) else (ax_b2 (F_X11_wayOf m v3 v1) (fun r12 m13 => if r12 = (-1) then (F_X11_together_L11 n m13 v1 v2 (v3 + 1)) else (F_X11_together_L11 n m13 v1 (v2 ||| (ax_ishl 1 v3)) (v3 + 1))))
set_option maxRecDepth 20000 in
set_option maxHeartbeats 4000000 in
theorem R_X11_together_L11 {e : Nat} {v1 : Int32} : ∀ (n : Nat) (m : ax_M) (v2 : Int32) (v3 : Int32) (q : (Int32 × ax_M)), F_X11_together_L11 n m v1 v2 v3 = some q → ax_Ru (e + 12) L_X11_together 11 [some (.inr (.inr (22, 0))), some (.inl v1), some (.inl v2), some (.inl v3)] [] m (some (.inl q.1), q.2) := by
  intro n
  induction n with
  | zero =>
    intro m v2 v3 q h
    cases h
  | succ n ih =>
    intro m v2 v3 q h
    rw [F_X11_together_L11] at h
    have s10 : ∀ n, ax_ex (e + 12) L_X11_together 11 [some (.inr (.inr (22, 0))), some (.inl v1), some (.inl v2), some (.inl v3)] [] m (n + 4) = if (m.1 22 0 1) ≤ v3 then ax_ex (e + 12) L_X11_together 29 [some (.inr (.inr (22, 0))), some (.inl v1), some (.inl v2), some (.inl v3)] [] m n else ax_ex (e + 12) L_X11_together 15 [some (.inr (.inr (22, 0))), some (.inl v1), some (.inl v2), some (.inl v3)] [] m n := fun n => rfl
    by_cases c9 : (m.1 22 0 1) ≤ v3
    · rw [if_pos c9] at h
      refine ax_gt c9 s10 ?_
      obtain rfl := Option.some.inj h
      exact ax_rs 2 (fun n => rfl)
    · rw [if_neg c9] at h
      refine ax_gf c9 s10 ?_
      obtain ⟨r12, m13, q11, h⟩ := ax_b2_of h
      have s16 : ∀ n, ax_ex (e + 12) L_X11_together 15 [some (.inr (.inr (22, 0))), some (.inl v1), some (.inl v2), some (.inl v3)] [] m (n + 4) = ax_aft (fun s m2 => ax_ex (e + 12) L_X11_together 19 [some (.inr (.inr (22, 0))), some (.inl v1), some (.inl v2), some (.inl v3)] s m2 n) [] (ax_ex (e + 11) L_X11_wayOf 0 (ax_entry [.inr (.inr (22, 0)), .inl v3, .inl v1] 3) [] m n) := fun n => rfl
      refine ax_gci (j := 4) (k2 := 19) (lv2 := [some (.inr (.inr (22, 0))), some (.inl v1), some (.inl v2), some (.inl v3)]) (rest := []) ((R_X11_wayOf (by omega) q11)) s16 ?_
      have s15 : ∀ n, ax_ex (e + 12) L_X11_together 19 [some (.inr (.inr (22, 0))), some (.inl v1), some (.inl v2), some (.inl v3)] [.inl r12] m13 (n + 2) = if r12 = (-1) then ax_ex (e + 12) L_X11_together 27 [some (.inr (.inr (22, 0))), some (.inl v1), some (.inl v2), some (.inl v3)] [] m13 n else ax_ex (e + 12) L_X11_together 21 [some (.inr (.inr (22, 0))), some (.inl v1), some (.inl v2), some (.inl v3)] [] m13 n := fun n => rfl
      by_cases c14 : r12 = (-1)
      · rw [if_pos c14] at h
        refine ax_gt c14 s15 ?_
        refine ax_go (j := 2) (k2 := 11) (lv2 := [some (.inr (.inr (22, 0))), some (.inl v1), some (.inl v2), some (.inl (v3 + 1))]) (st2 := []) (m2 := m13) (fun n => rfl) ?_
        exact ax_fg (lv2 := [some (.inr (.inr (22, 0))), some (.inl v1), some (.inl v2), some (.inl (v3 + 1))]) ⟨rfl, rfl, rfl, rfl, trivial⟩ (ih m13 v2 (v3 + 1) _ h)
      · rw [if_neg c14] at h
        refine ax_gf c14 s15 ?_
        refine ax_go (j := 8) (k2 := 11) (lv2 := [some (.inr (.inr (22, 0))), some (.inl v1), some (.inl (v2 ||| (ax_ishl 1 v3))), some (.inl (v3 + 1))]) (st2 := []) (m2 := m13) (fun n => rfl) ?_
        exact ax_fg (lv2 := [some (.inr (.inr (22, 0))), some (.inl v1), some (.inl (v2 ||| (ax_ishl 1 v3))), some (.inl (v3 + 1))]) ⟨rfl, rfl, rfl, rfl, trivial⟩ (ih m13 (v2 ||| (ax_ishl 1 v3)) (v3 + 1) _ h)
def F_X11_together (m : ax_M) (v1 : Int32) : Option (Int32 × ax_M) := ax_b (F_X11_isCell v1) (fun r2 => if r2 = 0 then (ax_b2 (F_X11_no m (-2)) (fun r6 m7 => some (r6, m7))) else (F_X11_together_L11 ax_FU m v1 0 0))
set_option maxRecDepth 20000 in
set_option maxHeartbeats 4000000 in
theorem R_X11_together {d : Nat} (hd : 12 ≤ d) {m : ax_M} {v1 : Int32} {q : (Int32 × ax_M)} (h : F_X11_together m v1 = some q) : ax_Ru d L_X11_together 0 (ax_entry [.inr (.inr (22, 0)), .inl v1] 4) [] m (some (.inl q.1), q.2) := by
  obtain ⟨e, rfl⟩ : ∃ e, d = e + 12 := ⟨d - 12, by omega⟩
  unfold F_X11_together at h
  obtain ⟨r2, q1, h⟩ := ax_b_of h
  have s18 : ∀ n, ax_ex (e + 12) L_X11_together 0 (ax_entry [.inr (.inr (22, 0)), .inl v1] 4) [] m (n + 2) = ax_aft (fun s m2 => ax_ex (e + 12) L_X11_together 2 [some (.inr (.inr (22, 0))), some (.inl v1), none, none] s m2 n) [] (ax_ex (e + 11) L_X11_isCell 0 (ax_entry [.inl v1] 1) [] m n) := fun n => rfl
  refine ax_gci (j := 2) (k2 := 2) (lv2 := [some (.inr (.inr (22, 0))), some (.inl v1), none, none]) (rest := []) ((R_X11_isCell (by omega) q1)) s18 ?_
  have s4 : ∀ n, ax_ex (e + 12) L_X11_together 2 [some (.inr (.inr (22, 0))), some (.inl v1), none, none] [.inl r2] m (n + 1) = if r2 = 0 then ax_ex (e + 12) L_X11_together 3 [some (.inr (.inr (22, 0))), some (.inl v1), none, none] [] m n else ax_ex (e + 12) L_X11_together 7 [some (.inr (.inr (22, 0))), some (.inl v1), none, none] [] m n := fun n => rfl
  by_cases c3 : r2 = 0
  · rw [if_pos c3] at h
    refine ax_gt c3 s4 ?_
    obtain ⟨r6, m7, q5, h⟩ := ax_b2_of h
    have s8 : ∀ n, ax_ex (e + 12) L_X11_together 3 [some (.inr (.inr (22, 0))), some (.inl v1), none, none] [] m (n + 3) = ax_aft (fun s m2 => ax_ex (e + 12) L_X11_together 6 [some (.inr (.inr (22, 0))), some (.inl v1), none, none] s m2 n) [] (ax_ex (e + 11) L_X11_no 0 (ax_entry [.inr (.inr (22, 0)), .inl (-2)] 2) [] m n) := fun n => rfl
    refine ax_gci (j := 3) (k2 := 6) (lv2 := [some (.inr (.inr (22, 0))), some (.inl v1), none, none]) (rest := []) ((R_X11_no (by omega) q5)) s8 ?_
    obtain rfl := Option.some.inj h
    exact ax_rs 1 (fun n => rfl)
  · rw [if_neg c3] at h
    refine ax_gf c3 s4 ?_
    refine ax_go (j := 4) (k2 := 11) (lv2 := [some (.inr (.inr (22, 0))), some (.inl v1), some (.inl 0), some (.inl 0)]) (st2 := []) (m2 := m) (fun n => rfl) ?_
    refine ax_fg (lv2 := [some (.inr (.inr (22, 0))), some (.inl v1), some (.inl 0), some (.inl 0)]) ⟨rfl, rfl, rfl, rfl, trivial⟩ ?_
    refine R_X11_together_L11 _ m 0 0 _ h
def F_X11_calm_L18 : Nat → (Int32 → Option Int32) → ax_M → Int32 → Int32 → Int32 → Int32 → Option Int32
  | 0, _, _, _, _, _, _ => none
  | n + 1, K32, m, v1, v2, v3, v4 => if (m.1 22 0 1) ≤ v4 then (K32 v3) else (ax_b (F_X11_isQuiet m v4 v2 (-1)) (fun r17 => if r17 = 0 then (F_X11_calm_L18 n K32 m v1 v2 0 (v4 + 1)) else (F_X11_calm_L18 n K32 m v1 v2 v3 (v4 + 1))))
set_option maxRecDepth 20000 in
set_option maxHeartbeats 4000000 in
theorem R_X11_calm_L18 {e : Nat} {m : ax_M} {v1 : Int32} {v2 : Int32} {K32 : Int32 → Option Int32} (hK32 : ∀ (y3 : Int32) (q : Int32), K32 y3 = some q → ax_Ru (e + 10) L_X11_calm 32 [some (.inr (.inr (22, 0))), some (.inl v1), some (.inl v2), some (.inl y3), none] [] m (some (.inl q), m)) : ∀ (n : Nat) (v3 : Int32) (v4 : Int32) (q : Int32), F_X11_calm_L18 n K32 m v1 v2 v3 v4 = some q → ax_Ru (e + 10) L_X11_calm 18 [some (.inr (.inr (22, 0))), some (.inl v1), some (.inl v2), some (.inl v3), some (.inl v4)] [] m (some (.inl q), m) := by
  intro n
  induction n with
  | zero =>
    intro v3 v4 q h
    cases h
  | succ n ih =>
    intro v3 v4 q h
    rw [F_X11_calm_L18] at h
    have s15 : ∀ n, ax_ex (e + 10) L_X11_calm 18 [some (.inr (.inr (22, 0))), some (.inl v1), some (.inl v2), some (.inl v3), some (.inl v4)] [] m (n + 4) = if (m.1 22 0 1) ≤ v4 then ax_ex (e + 10) L_X11_calm 32 [some (.inr (.inr (22, 0))), some (.inl v1), some (.inl v2), some (.inl v3), some (.inl v4)] [] m n else ax_ex (e + 10) L_X11_calm 22 [some (.inr (.inr (22, 0))), some (.inl v1), some (.inl v2), some (.inl v3), some (.inl v4)] [] m n := fun n => rfl
    by_cases c14 : (m.1 22 0 1) ≤ v4
    · rw [if_pos c14] at h
      refine ax_gt c14 s15 ?_
      exact ax_fg (lv2 := [some (.inr (.inr (22, 0))), some (.inl v1), some (.inl v2), some (.inl v3), none]) ⟨rfl, rfl, rfl, rfl, trivial⟩ (hK32 v3 _ h)
    · rw [if_neg c14] at h
      refine ax_gf c14 s15 ?_
      obtain ⟨r17, q16, h⟩ := ax_b_of h
      have s20 : ∀ n, ax_ex (e + 10) L_X11_calm 22 [some (.inr (.inr (22, 0))), some (.inl v1), some (.inl v2), some (.inl v3), some (.inl v4)] [] m (n + 5) = ax_aft (fun s m2 => ax_ex (e + 10) L_X11_calm 27 [some (.inr (.inr (22, 0))), some (.inl v1), some (.inl v2), some (.inl v3), some (.inl v4)] s m2 n) [] (ax_ex (e + 9) L_X11_isQuiet 0 (ax_entry [.inr (.inr (22, 0)), .inl v4, .inl v2, .inl (-1)] 5) [] m n) := fun n => rfl
      refine ax_gci (j := 5) (k2 := 27) (lv2 := [some (.inr (.inr (22, 0))), some (.inl v1), some (.inl v2), some (.inl v3), some (.inl v4)]) (rest := []) ((R_X11_isQuiet (by omega) q16)) s20 ?_
      have s19 : ∀ n, ax_ex (e + 10) L_X11_calm 27 [some (.inr (.inr (22, 0))), some (.inl v1), some (.inl v2), some (.inl v3), some (.inl v4)] [.inl r17] m (n + 1) = if r17 = 0 then ax_ex (e + 10) L_X11_calm 28 [some (.inr (.inr (22, 0))), some (.inl v1), some (.inl v2), some (.inl v3), some (.inl v4)] [] m n else ax_ex (e + 10) L_X11_calm 30 [some (.inr (.inr (22, 0))), some (.inl v1), some (.inl v2), some (.inl v3), some (.inl v4)] [] m n := fun n => rfl
      by_cases c18 : r17 = 0
      · rw [if_pos c18] at h
        refine ax_gt c18 s19 ?_
        refine ax_go (j := 4) (k2 := 18) (lv2 := [some (.inr (.inr (22, 0))), some (.inl v1), some (.inl v2), some (.inl 0), some (.inl (v4 + 1))]) (st2 := []) (m2 := m) (fun n => rfl) ?_
        exact ax_fg (lv2 := [some (.inr (.inr (22, 0))), some (.inl v1), some (.inl v2), some (.inl 0), some (.inl (v4 + 1))]) ⟨rfl, rfl, rfl, rfl, rfl, trivial⟩ (ih 0 (v4 + 1) _ h)
      · rw [if_neg c18] at h
        refine ax_gf c18 s19 ?_
        refine ax_go (j := 2) (k2 := 18) (lv2 := [some (.inr (.inr (22, 0))), some (.inl v1), some (.inl v2), some (.inl v3), some (.inl (v4 + 1))]) (st2 := []) (m2 := m) (fun n => rfl) ?_
        exact ax_fg (lv2 := [some (.inr (.inr (22, 0))), some (.inl v1), some (.inl v2), some (.inl v3), some (.inl (v4 + 1))]) ⟨rfl, rfl, rfl, rfl, rfl, trivial⟩ (ih v3 (v4 + 1) _ h)
def F_X11_calm_L4 : Nat → ax_M → Int32 → Int32 → Option Int32
  | 0, _, _, _ => none
  | n + 1, m, v1, v2 => if 64 ≤ v2 then (some v1) else (if ax_ok v2 64 = true then (if (m.1 23 0 v2.toNatClampNeg) = 0 then (F_X11_calm_L18 ax_FU (fun y21 => if y21 = 0 then (F_X11_calm_L4 n m v1 (v2 + 1)) else (F_X11_calm_L4 n m (v1 + 1) (v2 + 1))) m v1 v2 1 0) else (F_X11_calm_L18 ax_FU (fun y25 => if y25 = 0 then (F_X11_calm_L4 n m v1 (v2 + 1)) else (F_X11_calm_L4 n m (v1 + 1) (v2 + 1))) m v1 v2 0 0)) else (none))
set_option maxRecDepth 20000 in
set_option maxHeartbeats 4000000 in
theorem R_X11_calm_L4 {e : Nat} {m : ax_M} : ∀ (n : Nat) (v1 : Int32) (v2 : Int32) (q : Int32), F_X11_calm_L4 n m v1 v2 = some q → ax_Ru (e + 10) L_X11_calm 4 [some (.inr (.inr (22, 0))), some (.inl v1), some (.inl v2), none, none] [] m (some (.inl q), m) := by
  intro n
  induction n with
  | zero =>
    intro v1 v2 q h
    cases h
  | succ n ih =>
    intro v1 v2 q h
    rw [F_X11_calm_L4] at h
    have s2 : ∀ n, ax_ex (e + 10) L_X11_calm 4 [some (.inr (.inr (22, 0))), some (.inl v1), some (.inl v2), none, none] [] m (n + 3) = if 64 ≤ v2 then ax_ex (e + 10) L_X11_calm 37 [some (.inr (.inr (22, 0))), some (.inl v1), some (.inl v2), none, none] [] m n else ax_ex (e + 10) L_X11_calm 7 [some (.inr (.inr (22, 0))), some (.inl v1), some (.inl v2), none, none] [] m n := fun n => rfl
    by_cases c1 : 64 ≤ v2
    · rw [if_pos c1] at h
      refine ax_gt c1 s2 ?_
      obtain rfl := Option.some.inj h
      exact ax_rs 2 (fun n => rfl)
    · rw [if_neg c1] at h
      refine ax_gf c1 s2 ?_
      have s4 : ∀ n, ax_ex (e + 10) L_X11_calm 7 [some (.inr (.inr (22, 0))), some (.inl v1), some (.inl v2), none, none] [] m (n + 4) = if ax_ok v2 64 = true then ax_ex (e + 10) L_X11_calm 11 [some (.inr (.inr (22, 0))), some (.inl v1), some (.inl v2), none, none] [.inl (m.1 23 0 v2.toNatClampNeg)] m n else none := fun n => rfl
      by_cases c3 : ax_ok v2 64 = true
      · rw [if_pos c3] at h
        refine ax_gt c3 s4 ?_
        have s6 : ∀ n, ax_ex (e + 10) L_X11_calm 11 [some (.inr (.inr (22, 0))), some (.inl v1), some (.inl v2), none, none] [.inl (m.1 23 0 v2.toNatClampNeg)] m (n + 1) = if (m.1 23 0 v2.toNatClampNeg) = 0 then ax_ex (e + 10) L_X11_calm 12 [some (.inr (.inr (22, 0))), some (.inl v1), some (.inl v2), none, none] [] m n else ax_ex (e + 10) L_X11_calm 14 [some (.inr (.inr (22, 0))), some (.inl v1), some (.inl v2), none, none] [] m n := fun n => rfl
        by_cases c5 : (m.1 23 0 v2.toNatClampNeg) = 0
        · rw [if_pos c5] at h
          refine ax_gt c5 s6 ?_
          refine ax_go (j := 5) (k2 := 18) (lv2 := [some (.inr (.inr (22, 0))), some (.inl v1), some (.inl v2), some (.inl 1), some (.inl 0)]) (st2 := []) (m2 := m) (fun n => rfl) ?_
          refine ax_fg (lv2 := [some (.inr (.inr (22, 0))), some (.inl v1), some (.inl v2), some (.inl 1), some (.inl 0)]) ⟨rfl, rfl, rfl, rfl, rfl, trivial⟩ ?_
          refine R_X11_calm_L18 ?_ _ 1 0 _ h
          · intro y21 q h
            have s23 : ∀ n, ax_ex (e + 10) L_X11_calm 32 [some (.inr (.inr (22, 0))), some (.inl v1), some (.inl v2), some (.inl y21), none] [] m (n + 2) = if y21 = 0 then ax_ex (e + 10) L_X11_calm 35 [some (.inr (.inr (22, 0))), some (.inl v1), some (.inl v2), some (.inl y21), none] [] m n else ax_ex (e + 10) L_X11_calm 34 [some (.inr (.inr (22, 0))), some (.inl v1), some (.inl v2), some (.inl y21), none] [] m n := fun n => rfl
            by_cases c22 : y21 = 0
            · rw [if_pos c22] at h
              refine ax_gt c22 s23 ?_
              refine ax_go (j := 2) (k2 := 4) (lv2 := [some (.inr (.inr (22, 0))), some (.inl v1), some (.inl (v2 + 1)), some (.inl y21), none]) (st2 := []) (m2 := m) (fun n => rfl) ?_
              exact ax_fg (lv2 := [some (.inr (.inr (22, 0))), some (.inl v1), some (.inl (v2 + 1)), none, none]) ⟨rfl, rfl, rfl, trivial⟩ (ih v1 (v2 + 1) _ h)
            · rw [if_neg c22] at h
              refine ax_gf c22 s23 ?_
              refine ax_go (j := 3) (k2 := 4) (lv2 := [some (.inr (.inr (22, 0))), some (.inl (v1 + 1)), some (.inl (v2 + 1)), some (.inl y21), none]) (st2 := []) (m2 := m) (fun n => rfl) ?_
              exact ax_fg (lv2 := [some (.inr (.inr (22, 0))), some (.inl (v1 + 1)), some (.inl (v2 + 1)), none, none]) ⟨rfl, rfl, rfl, trivial⟩ (ih (v1 + 1) (v2 + 1) _ h)
        · rw [if_neg c5] at h
          refine ax_gf c5 s6 ?_
          refine ax_go (j := 4) (k2 := 18) (lv2 := [some (.inr (.inr (22, 0))), some (.inl v1), some (.inl v2), some (.inl 0), some (.inl 0)]) (st2 := []) (m2 := m) (fun n => rfl) ?_
          refine ax_fg (lv2 := [some (.inr (.inr (22, 0))), some (.inl v1), some (.inl v2), some (.inl 0), some (.inl 0)]) ⟨rfl, rfl, rfl, rfl, rfl, trivial⟩ ?_
          refine R_X11_calm_L18 ?_ _ 0 0 _ h
          · intro y25 q h
            have s27 : ∀ n, ax_ex (e + 10) L_X11_calm 32 [some (.inr (.inr (22, 0))), some (.inl v1), some (.inl v2), some (.inl y25), none] [] m (n + 2) = if y25 = 0 then ax_ex (e + 10) L_X11_calm 35 [some (.inr (.inr (22, 0))), some (.inl v1), some (.inl v2), some (.inl y25), none] [] m n else ax_ex (e + 10) L_X11_calm 34 [some (.inr (.inr (22, 0))), some (.inl v1), some (.inl v2), some (.inl y25), none] [] m n := fun n => rfl
            by_cases c26 : y25 = 0
            · rw [if_pos c26] at h
              refine ax_gt c26 s27 ?_
              refine ax_go (j := 2) (k2 := 4) (lv2 := [some (.inr (.inr (22, 0))), some (.inl v1), some (.inl (v2 + 1)), some (.inl y25), none]) (st2 := []) (m2 := m) (fun n => rfl) ?_
              exact ax_fg (lv2 := [some (.inr (.inr (22, 0))), some (.inl v1), some (.inl (v2 + 1)), none, none]) ⟨rfl, rfl, rfl, trivial⟩ (ih v1 (v2 + 1) _ h)
            · rw [if_neg c26] at h
              refine ax_gf c26 s27 ?_
              refine ax_go (j := 3) (k2 := 4) (lv2 := [some (.inr (.inr (22, 0))), some (.inl (v1 + 1)), some (.inl (v2 + 1)), some (.inl y25), none]) (st2 := []) (m2 := m) (fun n => rfl) ?_
              exact ax_fg (lv2 := [some (.inr (.inr (22, 0))), some (.inl (v1 + 1)), some (.inl (v2 + 1)), none, none]) ⟨rfl, rfl, rfl, trivial⟩ (ih (v1 + 1) (v2 + 1) _ h)
      · rw [if_neg c3] at h
        cases h
def F_X11_calm (m : ax_M) : Option Int32 := F_X11_calm_L4 ax_FU m 0 0
set_option maxRecDepth 20000 in
set_option maxHeartbeats 4000000 in
theorem R_X11_calm {d : Nat} (hd : 10 ≤ d) {m : ax_M} {q : Int32} (h : F_X11_calm m = some q) : ax_Ru d L_X11_calm 0 (ax_entry [.inr (.inr (22, 0))] 5) [] m (some (.inl q), m) := by
  obtain ⟨e, rfl⟩ : ∃ e, d = e + 10 := ⟨d - 10, by omega⟩
  unfold F_X11_calm at h
  refine ax_go (j := 4) (k2 := 4) (lv2 := [some (.inr (.inr (22, 0))), some (.inl 0), some (.inl 0), none, none]) (st2 := []) (m2 := m) (fun n => rfl) ?_
  refine ax_fg (lv2 := [some (.inr (.inr (22, 0))), some (.inl 0), some (.inl 0), none, none]) ⟨rfl, rfl, rfl, trivial⟩ ?_
  refine R_X11_calm_L4 _ 0 0 _ h
def F_X11_idle_L12 : Nat → (Int32 → Option Int32) → ax_M → Int32 → Int32 → Int32 → Int32 → Option Int32
  | 0, _, _, _, _, _, _ => none
  | n + 1, K25, m, v1, v2, v3, v4 => if (m.1 22 0 1) ≤ v4 then (K25 v3) else (ax_b (F_X11_owesEnough m v4 v2) (fun r13 => if r13 = 0 then (F_X11_idle_L12 n K25 m v1 v2 v3 (v4 + 1)) else (F_X11_idle_L12 n K25 m v1 v2 1 (v4 + 1))))
set_option maxRecDepth 20000 in
set_option maxHeartbeats 4000000 in
theorem R_X11_idle_L12 {e : Nat} {m : ax_M} {v1 : Int32} {v2 : Int32} {K25 : Int32 → Option Int32} (hK25 : ∀ (y3 : Int32) (q : Int32), K25 y3 = some q → ax_Ru (e + 8) L_X11_idle 25 [some (.inr (.inr (22, 0))), some (.inl v1), some (.inl v2), some (.inl y3), none] [] m (some (.inl q), m)) : ∀ (n : Nat) (v3 : Int32) (v4 : Int32) (q : Int32), F_X11_idle_L12 n K25 m v1 v2 v3 v4 = some q → ax_Ru (e + 8) L_X11_idle 12 [some (.inr (.inr (22, 0))), some (.inl v1), some (.inl v2), some (.inl v3), some (.inl v4)] [] m (some (.inl q), m) := by
  intro n
  induction n with
  | zero =>
    intro v3 v4 q h
    cases h
  | succ n ih =>
    intro v3 v4 q h
    rw [F_X11_idle_L12] at h
    have s11 : ∀ n, ax_ex (e + 8) L_X11_idle 12 [some (.inr (.inr (22, 0))), some (.inl v1), some (.inl v2), some (.inl v3), some (.inl v4)] [] m (n + 4) = if (m.1 22 0 1) ≤ v4 then ax_ex (e + 8) L_X11_idle 25 [some (.inr (.inr (22, 0))), some (.inl v1), some (.inl v2), some (.inl v3), some (.inl v4)] [] m n else ax_ex (e + 8) L_X11_idle 16 [some (.inr (.inr (22, 0))), some (.inl v1), some (.inl v2), some (.inl v3), some (.inl v4)] [] m n := fun n => rfl
    by_cases c10 : (m.1 22 0 1) ≤ v4
    · rw [if_pos c10] at h
      refine ax_gt c10 s11 ?_
      exact ax_fg (lv2 := [some (.inr (.inr (22, 0))), some (.inl v1), some (.inl v2), some (.inl v3), none]) ⟨rfl, rfl, rfl, rfl, trivial⟩ (hK25 v3 _ h)
    · rw [if_neg c10] at h
      refine ax_gf c10 s11 ?_
      obtain ⟨r13, q12, h⟩ := ax_b_of h
      have s16 : ∀ n, ax_ex (e + 8) L_X11_idle 16 [some (.inr (.inr (22, 0))), some (.inl v1), some (.inl v2), some (.inl v3), some (.inl v4)] [] m (n + 4) = ax_aft (fun s m2 => ax_ex (e + 8) L_X11_idle 20 [some (.inr (.inr (22, 0))), some (.inl v1), some (.inl v2), some (.inl v3), some (.inl v4)] s m2 n) [] (ax_ex (e + 7) L_X11_owesEnough 0 (ax_entry [.inr (.inr (22, 0)), .inl v4, .inl v2] 3) [] m n) := fun n => rfl
      refine ax_gci (j := 4) (k2 := 20) (lv2 := [some (.inr (.inr (22, 0))), some (.inl v1), some (.inl v2), some (.inl v3), some (.inl v4)]) (rest := []) ((R_X11_owesEnough (by omega) q12)) s16 ?_
      have s15 : ∀ n, ax_ex (e + 8) L_X11_idle 20 [some (.inr (.inr (22, 0))), some (.inl v1), some (.inl v2), some (.inl v3), some (.inl v4)] [.inl r13] m (n + 1) = if r13 = 0 then ax_ex (e + 8) L_X11_idle 23 [some (.inr (.inr (22, 0))), some (.inl v1), some (.inl v2), some (.inl v3), some (.inl v4)] [] m n else ax_ex (e + 8) L_X11_idle 21 [some (.inr (.inr (22, 0))), some (.inl v1), some (.inl v2), some (.inl v3), some (.inl v4)] [] m n := fun n => rfl
      by_cases c14 : r13 = 0
      · rw [if_pos c14] at h
        refine ax_gt c14 s15 ?_
        refine ax_go (j := 2) (k2 := 12) (lv2 := [some (.inr (.inr (22, 0))), some (.inl v1), some (.inl v2), some (.inl v3), some (.inl (v4 + 1))]) (st2 := []) (m2 := m) (fun n => rfl) ?_
        exact ax_fg (lv2 := [some (.inr (.inr (22, 0))), some (.inl v1), some (.inl v2), some (.inl v3), some (.inl (v4 + 1))]) ⟨rfl, rfl, rfl, rfl, rfl, trivial⟩ (ih v3 (v4 + 1) _ h)
      · rw [if_neg c14] at h
        refine ax_gf c14 s15 ?_
        refine ax_go (j := 4) (k2 := 12) (lv2 := [some (.inr (.inr (22, 0))), some (.inl v1), some (.inl v2), some (.inl 1), some (.inl (v4 + 1))]) (st2 := []) (m2 := m) (fun n => rfl) ?_
        exact ax_fg (lv2 := [some (.inr (.inr (22, 0))), some (.inl v1), some (.inl v2), some (.inl 1), some (.inl (v4 + 1))]) ⟨rfl, rfl, rfl, rfl, rfl, trivial⟩ (ih 1 (v4 + 1) _ h)
def F_X11_idle_L4 : Nat → ax_M → Int32 → Int32 → Option Int32
  | 0, _, _, _ => none
  | n + 1, m, v1, v2 => if (m.1 22 0 4) ≤ v2 then (some v1) else (F_X11_idle_L12 ax_FU (fun y17 => if y17 = 0 then (F_X11_idle_L4 n m (v1 ||| (ax_ishl 1 v2)) (v2 + 1)) else (F_X11_idle_L4 n m v1 (v2 + 1))) m v1 v2 0 0)
set_option maxRecDepth 20000 in
set_option maxHeartbeats 4000000 in
theorem R_X11_idle_L4 {e : Nat} {m : ax_M} : ∀ (n : Nat) (v1 : Int32) (v2 : Int32) (q : Int32), F_X11_idle_L4 n m v1 v2 = some q → ax_Ru (e + 8) L_X11_idle 4 [some (.inr (.inr (22, 0))), some (.inl v1), some (.inl v2), none, none] [] m (some (.inl q), m) := by
  intro n
  induction n with
  | zero =>
    intro v1 v2 q h
    cases h
  | succ n ih =>
    intro v1 v2 q h
    rw [F_X11_idle_L4] at h
    have s2 : ∀ n, ax_ex (e + 8) L_X11_idle 4 [some (.inr (.inr (22, 0))), some (.inl v1), some (.inl v2), none, none] [] m (n + 4) = if (m.1 22 0 4) ≤ v2 then ax_ex (e + 8) L_X11_idle 35 [some (.inr (.inr (22, 0))), some (.inl v1), some (.inl v2), none, none] [] m n else ax_ex (e + 8) L_X11_idle 8 [some (.inr (.inr (22, 0))), some (.inl v1), some (.inl v2), none, none] [] m n := fun n => rfl
    by_cases c1 : (m.1 22 0 4) ≤ v2
    · rw [if_pos c1] at h
      refine ax_gt c1 s2 ?_
      obtain rfl := Option.some.inj h
      exact ax_rs 2 (fun n => rfl)
    · rw [if_neg c1] at h
      refine ax_gf c1 s2 ?_
      refine ax_go (j := 4) (k2 := 12) (lv2 := [some (.inr (.inr (22, 0))), some (.inl v1), some (.inl v2), some (.inl 0), some (.inl 0)]) (st2 := []) (m2 := m) (fun n => rfl) ?_
      refine ax_fg (lv2 := [some (.inr (.inr (22, 0))), some (.inl v1), some (.inl v2), some (.inl 0), some (.inl 0)]) ⟨rfl, rfl, rfl, rfl, rfl, trivial⟩ ?_
      refine R_X11_idle_L12 ?_ _ 0 0 _ h
      · intro y17 q h
        have s19 : ∀ n, ax_ex (e + 8) L_X11_idle 25 [some (.inr (.inr (22, 0))), some (.inl v1), some (.inl v2), some (.inl y17), none] [] m (n + 2) = if y17 = 0 then ax_ex (e + 8) L_X11_idle 27 [some (.inr (.inr (22, 0))), some (.inl v1), some (.inl v2), some (.inl y17), none] [] m n else ax_ex (e + 8) L_X11_idle 33 [some (.inr (.inr (22, 0))), some (.inl v1), some (.inl v2), some (.inl y17), none] [] m n := fun n => rfl
        by_cases c18 : y17 = 0
        · rw [if_pos c18] at h
          refine ax_gt c18 s19 ?_
          refine ax_go (j := 8) (k2 := 4) (lv2 := [some (.inr (.inr (22, 0))), some (.inl (v1 ||| (ax_ishl 1 v2))), some (.inl (v2 + 1)), some (.inl y17), none]) (st2 := []) (m2 := m) (fun n => rfl) ?_
          exact ax_fg (lv2 := [some (.inr (.inr (22, 0))), some (.inl (v1 ||| (ax_ishl 1 v2))), some (.inl (v2 + 1)), none, none]) ⟨rfl, rfl, rfl, trivial⟩ (ih (v1 ||| (ax_ishl 1 v2)) (v2 + 1) _ h)
        · rw [if_neg c18] at h
          refine ax_gf c18 s19 ?_
          refine ax_go (j := 2) (k2 := 4) (lv2 := [some (.inr (.inr (22, 0))), some (.inl v1), some (.inl (v2 + 1)), some (.inl y17), none]) (st2 := []) (m2 := m) (fun n => rfl) ?_
          exact ax_fg (lv2 := [some (.inr (.inr (22, 0))), some (.inl v1), some (.inl (v2 + 1)), none, none]) ⟨rfl, rfl, rfl, trivial⟩ (ih v1 (v2 + 1) _ h)
def F_X11_idle (m : ax_M) : Option Int32 := F_X11_idle_L4 ax_FU m 0 0
set_option maxRecDepth 20000 in
set_option maxHeartbeats 4000000 in
theorem R_X11_idle {d : Nat} (hd : 8 ≤ d) {m : ax_M} {q : Int32} (h : F_X11_idle m = some q) : ax_Ru d L_X11_idle 0 (ax_entry [.inr (.inr (22, 0))] 5) [] m (some (.inl q), m) := by
  obtain ⟨e, rfl⟩ : ∃ e, d = e + 8 := ⟨d - 8, by omega⟩
  unfold F_X11_idle at h
  refine ax_go (j := 4) (k2 := 4) (lv2 := [some (.inr (.inr (22, 0))), some (.inl 0), some (.inl 0), none, none]) (st2 := []) (m2 := m) (fun n => rfl) ?_
  refine ax_fg (lv2 := [some (.inr (.inr (22, 0))), some (.inl 0), some (.inl 0), none, none]) ⟨rfl, rfl, rfl, trivial⟩ ?_
  refine R_X11_idle_L4 _ 0 0 _ h
def F_X11_worst_L11 : Nat → ax_M → Int32 → Int32 → Option (Int32 × ax_M)
  | 0, _, _, _ => none
  | n + 1, m, v1, v2 => if (m.1 22 0 1) ≤ v2 then (some (v1, m)) else (ax_b (F_X11_upOf m v2) (fun r10 => ax_b (F_J6_bitCount_0f7a4 r10) (fun r12 => ax_b (F_X11_upOf m v1) (fun r14 => ax_b (F_J6_bitCount_0f7a4 r14) (fun r16 => if r12 ≤ r16 then (F_X11_worst_L11 n m v1 (v2 + 1)) else (F_X11_worst_L11 n m v2 (v2 + 1)))))))
set_option maxRecDepth 20000 in
set_option maxHeartbeats 4000000 in
theorem R_X11_worst_L11 {e : Nat} : ∀ (n : Nat) (m : ax_M) (v1 : Int32) (v2 : Int32) (q : (Int32 × ax_M)), F_X11_worst_L11 n m v1 v2 = some q → ax_Ru (e + 11) L_X11_worst 11 [some (.inr (.inr (22, 0))), some (.inl v1), some (.inl v2)] [] m (some (.inl q.1), q.2) := by
  intro n
  induction n with
  | zero =>
    intro m v1 v2 q h
    cases h
  | succ n ih =>
    intro m v1 v2 q h
    rw [F_X11_worst_L11] at h
    have s8 : ∀ n, ax_ex (e + 11) L_X11_worst 11 [some (.inr (.inr (22, 0))), some (.inl v1), some (.inl v2)] [] m (n + 4) = if (m.1 22 0 1) ≤ v2 then ax_ex (e + 11) L_X11_worst 28 [some (.inr (.inr (22, 0))), some (.inl v1), some (.inl v2)] [] m n else ax_ex (e + 11) L_X11_worst 15 [some (.inr (.inr (22, 0))), some (.inl v1), some (.inl v2)] [] m n := fun n => rfl
    by_cases c7 : (m.1 22 0 1) ≤ v2
    · rw [if_pos c7] at h
      refine ax_gt c7 s8 ?_
      obtain rfl := Option.some.inj h
      exact ax_rs 2 (fun n => rfl)
    · rw [if_neg c7] at h
      refine ax_gf c7 s8 ?_
      obtain ⟨r10, q9, h⟩ := ax_b_of h
      have s22 : ∀ n, ax_ex (e + 11) L_X11_worst 15 [some (.inr (.inr (22, 0))), some (.inl v1), some (.inl v2)] [] m (n + 3) = ax_aft (fun s m2 => ax_ex (e + 11) L_X11_worst 18 [some (.inr (.inr (22, 0))), some (.inl v1), some (.inl v2)] s m2 n) [] (ax_ex (e + 10) L_X11_upOf 0 (ax_entry [.inr (.inr (22, 0)), .inl v2] 4) [] m n) := fun n => rfl
      refine ax_gci (j := 3) (k2 := 18) (lv2 := [some (.inr (.inr (22, 0))), some (.inl v1), some (.inl v2)]) (rest := []) ((R_X11_upOf (by omega) q9)) s22 ?_
      obtain ⟨r12, q11, h⟩ := ax_b_of h
      have s21 : ∀ n, ax_ex (e + 11) L_X11_worst 18 [some (.inr (.inr (22, 0))), some (.inl v1), some (.inl v2)] [.inl r10] m (n + 1) = ax_aft (fun s m2 => ax_ex (e + 11) L_X11_worst 19 [some (.inr (.inr (22, 0))), some (.inl v1), some (.inl v2)] s m2 n) [] (ax_ex (e + 10) L_J6_bitCount_0f7a4 0 (ax_entry [.inl r10] 1) [] m n) := fun n => rfl
      refine ax_gci (j := 1) (k2 := 19) (lv2 := [some (.inr (.inr (22, 0))), some (.inl v1), some (.inl v2)]) (rest := []) ((R_J6_bitCount_0f7a4 (by omega) q11)) s21 ?_
      obtain ⟨r14, q13, h⟩ := ax_b_of h
      have s20 : ∀ n, ax_ex (e + 11) L_X11_worst 19 [some (.inr (.inr (22, 0))), some (.inl v1), some (.inl v2)] [.inl r12] m (n + 3) = ax_aft (fun s m2 => ax_ex (e + 11) L_X11_worst 22 [some (.inr (.inr (22, 0))), some (.inl v1), some (.inl v2)] s m2 n) [.inl r12] (ax_ex (e + 10) L_X11_upOf 0 (ax_entry [.inr (.inr (22, 0)), .inl v1] 4) [] m n) := fun n => rfl
      refine ax_gci (j := 3) (k2 := 22) (lv2 := [some (.inr (.inr (22, 0))), some (.inl v1), some (.inl v2)]) (rest := [.inl r12]) ((R_X11_upOf (by omega) q13)) s20 ?_
      obtain ⟨r16, q15, h⟩ := ax_b_of h
      have s19 : ∀ n, ax_ex (e + 11) L_X11_worst 22 [some (.inr (.inr (22, 0))), some (.inl v1), some (.inl v2)] [.inl r14, .inl r12] m (n + 1) = ax_aft (fun s m2 => ax_ex (e + 11) L_X11_worst 23 [some (.inr (.inr (22, 0))), some (.inl v1), some (.inl v2)] s m2 n) [.inl r12] (ax_ex (e + 10) L_J6_bitCount_0f7a4 0 (ax_entry [.inl r14] 1) [] m n) := fun n => rfl
      refine ax_gci (j := 1) (k2 := 23) (lv2 := [some (.inr (.inr (22, 0))), some (.inl v1), some (.inl v2)]) (rest := [.inl r12]) ((R_J6_bitCount_0f7a4 (by omega) q15)) s19 ?_
      have s18 : ∀ n, ax_ex (e + 11) L_X11_worst 23 [some (.inr (.inr (22, 0))), some (.inl v1), some (.inl v2)] [.inl r16, .inl r12] m (n + 1) = if r12 ≤ r16 then ax_ex (e + 11) L_X11_worst 26 [some (.inr (.inr (22, 0))), some (.inl v1), some (.inl v2)] [] m n else ax_ex (e + 11) L_X11_worst 24 [some (.inr (.inr (22, 0))), some (.inl v1), some (.inl v2)] [] m n := fun n => rfl
      by_cases c17 : r12 ≤ r16
      · rw [if_pos c17] at h
        refine ax_gt c17 s18 ?_
        refine ax_go (j := 2) (k2 := 11) (lv2 := [some (.inr (.inr (22, 0))), some (.inl v1), some (.inl (v2 + 1))]) (st2 := []) (m2 := m) (fun n => rfl) ?_
        exact ax_fg (lv2 := [some (.inr (.inr (22, 0))), some (.inl v1), some (.inl (v2 + 1))]) ⟨rfl, rfl, rfl, trivial⟩ (ih m v1 (v2 + 1) _ h)
      · rw [if_neg c17] at h
        refine ax_gf c17 s18 ?_
        refine ax_go (j := 4) (k2 := 11) (lv2 := [some (.inr (.inr (22, 0))), some (.inl v2), some (.inl (v2 + 1))]) (st2 := []) (m2 := m) (fun n => rfl) ?_
        exact ax_fg (lv2 := [some (.inr (.inr (22, 0))), some (.inl v2), some (.inl (v2 + 1))]) ⟨rfl, rfl, rfl, trivial⟩ (ih m v2 (v2 + 1) _ h)
def F_X11_worst (m : ax_M) : Option (Int32 × ax_M) := if (m.1 22 0 1) = 0 then (ax_b2 (F_X11_no m (-5)) (fun r4 m5 => some (r4, m5))) else (F_X11_worst_L11 ax_FU m 0 1)
set_option maxRecDepth 20000 in
set_option maxHeartbeats 4000000 in
theorem R_X11_worst {d : Nat} (hd : 11 ≤ d) {m : ax_M} {q : (Int32 × ax_M)} (h : F_X11_worst m = some q) : ax_Ru d L_X11_worst 0 (ax_entry [.inr (.inr (22, 0))] 3) [] m (some (.inl q.1), q.2) := by
  obtain ⟨e, rfl⟩ : ∃ e, d = e + 11 := ⟨d - 11, by omega⟩
  unfold F_X11_worst at h
  have s2 : ∀ n, ax_ex (e + 11) L_X11_worst 0 (ax_entry [.inr (.inr (22, 0))] 3) [] m (n + 3) = if (m.1 22 0 1) = 0 then ax_ex (e + 11) L_X11_worst 3 [some (.inr (.inr (22, 0))), none, none] [] m n else ax_ex (e + 11) L_X11_worst 7 [some (.inr (.inr (22, 0))), none, none] [] m n := fun n => rfl
  by_cases c1 : (m.1 22 0 1) = 0
  · rw [if_pos c1] at h
    refine ax_gt c1 s2 ?_
    obtain ⟨r4, m5, q3, h⟩ := ax_b2_of h
    have s6 : ∀ n, ax_ex (e + 11) L_X11_worst 3 [some (.inr (.inr (22, 0))), none, none] [] m (n + 3) = ax_aft (fun s m2 => ax_ex (e + 11) L_X11_worst 6 [some (.inr (.inr (22, 0))), none, none] s m2 n) [] (ax_ex (e + 10) L_X11_no 0 (ax_entry [.inr (.inr (22, 0)), .inl (-5)] 2) [] m n) := fun n => rfl
    refine ax_gci (j := 3) (k2 := 6) (lv2 := [some (.inr (.inr (22, 0))), none, none]) (rest := []) ((R_X11_no (by omega) q3)) s6 ?_
    obtain rfl := Option.some.inj h
    exact ax_rs 1 (fun n => rfl)
  · rw [if_neg c1] at h
    refine ax_gf c1 s2 ?_
    refine ax_go (j := 4) (k2 := 11) (lv2 := [some (.inr (.inr (22, 0))), some (.inl 0), some (.inl 1)]) (st2 := []) (m2 := m) (fun n => rfl) ?_
    refine ax_fg (lv2 := [some (.inr (.inr (22, 0))), some (.inl 0), some (.inl 1)]) ⟨rfl, rfl, rfl, trivial⟩ ?_
    refine R_X11_worst_L11 _ m 0 1 _ h
def F_X11_chain_L29 : Nat → (ax_M → Int32 → Option (Int32 × ax_M)) → ax_M → Int32 → Int32 → Int32 → Int32 → Int32 → Int32 → Int32 → Option (Int32 × ax_M)
  | 0, _, _, _, _, _, _, _, _, _ => none
  | n + 1, K63, m, v2, v3, v4, v5, v6, v7, v8 => if (m.1 22 0 1) ≤ v8 then (K63 m v6) else (if ((ax_ishr v4 v7) &&& 1) = 1 then (if ((ax_ishr v3 v8) &&& 1) = 0 then (if ax_ok ((8 * v7) + v8) 64 = true then (if (m.1 25 0 ((8 * v7) + v8).toNatClampNeg) ≤ 0 then (F_X11_chain_L29 n K63 m v2 v3 v4 v5 v6 v7 (v8 + 1)) else (F_X11_chain_L29 n K63 m v2 v3 v4 v5 (v6 ||| (ax_ishl 1 v8)) v7 (v8 + 1))) else (none)) else (F_X11_chain_L29 n K63 m v2 v3 v4 v5 v6 v7 (v8 + 1))) else (F_X11_chain_L29 n K63 m v2 v3 v4 v5 v6 v7 (v8 + 1)))
set_option maxRecDepth 20000 in
set_option maxHeartbeats 4000000 in
theorem R_X11_chain_L29 {e : Nat} {v2 : Int32} {v3 : Int32} {v4 : Int32} {v5 : Int32} {v7 : Int32} {K63 : ax_M → Int32 → Option (Int32 × ax_M)} (hK63 : ∀ (my : ax_M) (y6 : Int32) (q : (Int32 × ax_M)), K63 my y6 = some q → ax_Ru (e + 4) L_X11_chain 63 [some (.inr (.inr (22, 0))), none, some (.inl v2), some (.inl v3), some (.inl v4), some (.inl v5), some (.inl y6), some (.inl v7), none] [] my (some (.inl q.1), q.2)) : ∀ (n : Nat) (m : ax_M) (v6 : Int32) (v8 : Int32) (q : (Int32 × ax_M)), F_X11_chain_L29 n K63 m v2 v3 v4 v5 v6 v7 v8 = some q → ax_Ru (e + 4) L_X11_chain 29 [some (.inr (.inr (22, 0))), none, some (.inl v2), some (.inl v3), some (.inl v4), some (.inl v5), some (.inl v6), some (.inl v7), some (.inl v8)] [] m (some (.inl q.1), q.2) := by
  intro n
  induction n with
  | zero =>
    intro m v6 v8 q h
    cases h
  | succ n ih =>
    intro m v6 v8 q h
    rw [F_X11_chain_L29] at h
    have s27 : ∀ n, ax_ex (e + 4) L_X11_chain 29 [some (.inr (.inr (22, 0))), none, some (.inl v2), some (.inl v3), some (.inl v4), some (.inl v5), some (.inl v6), some (.inl v7), some (.inl v8)] [] m (n + 4) = if (m.1 22 0 1) ≤ v8 then ax_ex (e + 4) L_X11_chain 63 [some (.inr (.inr (22, 0))), none, some (.inl v2), some (.inl v3), some (.inl v4), some (.inl v5), some (.inl v6), some (.inl v7), some (.inl v8)] [] m n else ax_ex (e + 4) L_X11_chain 33 [some (.inr (.inr (22, 0))), none, some (.inl v2), some (.inl v3), some (.inl v4), some (.inl v5), some (.inl v6), some (.inl v7), some (.inl v8)] [] m n := fun n => rfl
    by_cases c26 : (m.1 22 0 1) ≤ v8
    · rw [if_pos c26] at h
      refine ax_gt c26 s27 ?_
      exact ax_fg (lv2 := [some (.inr (.inr (22, 0))), none, some (.inl v2), some (.inl v3), some (.inl v4), some (.inl v5), some (.inl v6), some (.inl v7), none]) ⟨rfl, rfl, rfl, rfl, rfl, rfl, rfl, trivial⟩ (hK63 m v6 _ h)
    · rw [if_neg c26] at h
      refine ax_gf c26 s27 ?_
      refine ax_go (j := 6) (k2 := 39) (lv2 := [some (.inr (.inr (22, 0))), none, some (.inl v2), some (.inl v3), some (.inl v4), some (.inl v5), some (.inl v6), some (.inl v7), some (.inl v8)]) (st2 := [.inl 1, .inl ((ax_ishr v4 v7) &&& 1)]) (m2 := m) (fun n => rfl) ?_
      obtain ⟨y28, hy28⟩ : ∃ y : Int32, y = ((ax_ishr v4 v7) &&& 1) := ⟨_, rfl⟩
      rw [← hy28] at h ⊢
      have s30 : ∀ n, ax_ex (e + 4) L_X11_chain 39 [some (.inr (.inr (22, 0))), none, some (.inl v2), some (.inl v3), some (.inl v4), some (.inl v5), some (.inl v6), some (.inl v7), some (.inl v8)] [.inl 1, .inl y28] m (n + 1) = if y28 = 1 then ax_ex (e + 4) L_X11_chain 40 [some (.inr (.inr (22, 0))), none, some (.inl v2), some (.inl v3), some (.inl v4), some (.inl v5), some (.inl v6), some (.inl v7), some (.inl v8)] [] m n else ax_ex (e + 4) L_X11_chain 61 [some (.inr (.inr (22, 0))), none, some (.inl v2), some (.inl v3), some (.inl v4), some (.inl v5), some (.inl v6), some (.inl v7), some (.inl v8)] [] m n := fun n => rfl
      by_cases c29 : y28 = 1
      · rw [if_pos c29] at h
        refine ax_gt c29 s30 ?_
        refine ax_go (j := 5) (k2 := 45) (lv2 := [some (.inr (.inr (22, 0))), none, some (.inl v2), some (.inl v3), some (.inl v4), some (.inl v5), some (.inl v6), some (.inl v7), some (.inl v8)]) (st2 := [.inl ((ax_ishr v3 v8) &&& 1)]) (m2 := m) (fun n => rfl) ?_
        obtain ⟨y31, hy31⟩ : ∃ y : Int32, y = ((ax_ishr v3 v8) &&& 1) := ⟨_, rfl⟩
        rw [← hy31] at h ⊢
        have s33 : ∀ n, ax_ex (e + 4) L_X11_chain 45 [some (.inr (.inr (22, 0))), none, some (.inl v2), some (.inl v3), some (.inl v4), some (.inl v5), some (.inl v6), some (.inl v7), some (.inl v8)] [.inl y31] m (n + 1) = if y31 = 0 then ax_ex (e + 4) L_X11_chain 46 [some (.inr (.inr (22, 0))), none, some (.inl v2), some (.inl v3), some (.inl v4), some (.inl v5), some (.inl v6), some (.inl v7), some (.inl v8)] [] m n else ax_ex (e + 4) L_X11_chain 61 [some (.inr (.inr (22, 0))), none, some (.inl v2), some (.inl v3), some (.inl v4), some (.inl v5), some (.inl v6), some (.inl v7), some (.inl v8)] [] m n := fun n => rfl
        by_cases c32 : y31 = 0
        · rw [if_pos c32] at h
          refine ax_gt c32 s33 ?_
          refine ax_go (j := 7) (k2 := 53) (lv2 := [some (.inr (.inr (22, 0))), none, some (.inl v2), some (.inl v3), some (.inl v4), some (.inl v5), some (.inl v6), some (.inl v7), some (.inl v8)]) (st2 := [.inl ((8 * v7) + v8), .inr (.inr (25, 0))]) (m2 := m) (fun n => rfl) ?_
          obtain ⟨y34, hy34⟩ : ∃ y : Int32, y = ((8 * v7) + v8) := ⟨_, rfl⟩
          rw [← hy34] at h ⊢
          have s36 : ∀ n, ax_ex (e + 4) L_X11_chain 53 [some (.inr (.inr (22, 0))), none, some (.inl v2), some (.inl v3), some (.inl v4), some (.inl v5), some (.inl v6), some (.inl v7), some (.inl v8)] [.inl y34, .inr (.inr (25, 0))] m (n + 1) = if ax_ok y34 64 = true then ax_ex (e + 4) L_X11_chain 54 [some (.inr (.inr (22, 0))), none, some (.inl v2), some (.inl v3), some (.inl v4), some (.inl v5), some (.inl v6), some (.inl v7), some (.inl v8)] [.inl (m.1 25 0 y34.toNatClampNeg)] m n else none := fun n => rfl
          by_cases c35 : ax_ok y34 64 = true
          · rw [if_pos c35] at h
            refine ax_gt c35 s36 ?_
            have s38 : ∀ n, ax_ex (e + 4) L_X11_chain 54 [some (.inr (.inr (22, 0))), none, some (.inl v2), some (.inl v3), some (.inl v4), some (.inl v5), some (.inl v6), some (.inl v7), some (.inl v8)] [.inl (m.1 25 0 y34.toNatClampNeg)] m (n + 1) = if (m.1 25 0 y34.toNatClampNeg) ≤ 0 then ax_ex (e + 4) L_X11_chain 61 [some (.inr (.inr (22, 0))), none, some (.inl v2), some (.inl v3), some (.inl v4), some (.inl v5), some (.inl v6), some (.inl v7), some (.inl v8)] [] m n else ax_ex (e + 4) L_X11_chain 55 [some (.inr (.inr (22, 0))), none, some (.inl v2), some (.inl v3), some (.inl v4), some (.inl v5), some (.inl v6), some (.inl v7), some (.inl v8)] [] m n := fun n => rfl
            by_cases c37 : (m.1 25 0 y34.toNatClampNeg) ≤ 0
            · rw [if_pos c37] at h
              refine ax_gt c37 s38 ?_
              refine ax_go (j := 2) (k2 := 29) (lv2 := [some (.inr (.inr (22, 0))), none, some (.inl v2), some (.inl v3), some (.inl v4), some (.inl v5), some (.inl v6), some (.inl v7), some (.inl (v8 + 1))]) (st2 := []) (m2 := m) (fun n => rfl) ?_
              exact ax_fg (lv2 := [some (.inr (.inr (22, 0))), none, some (.inl v2), some (.inl v3), some (.inl v4), some (.inl v5), some (.inl v6), some (.inl v7), some (.inl (v8 + 1))]) ⟨rfl, rfl, rfl, rfl, rfl, rfl, rfl, rfl, trivial⟩ (ih m v6 (v8 + 1) _ h)
            · rw [if_neg c37] at h
              refine ax_gf c37 s38 ?_
              refine ax_go (j := 8) (k2 := 29) (lv2 := [some (.inr (.inr (22, 0))), none, some (.inl v2), some (.inl v3), some (.inl v4), some (.inl v5), some (.inl (v6 ||| (ax_ishl 1 v8))), some (.inl v7), some (.inl (v8 + 1))]) (st2 := []) (m2 := m) (fun n => rfl) ?_
              exact ax_fg (lv2 := [some (.inr (.inr (22, 0))), none, some (.inl v2), some (.inl v3), some (.inl v4), some (.inl v5), some (.inl (v6 ||| (ax_ishl 1 v8))), some (.inl v7), some (.inl (v8 + 1))]) ⟨rfl, rfl, rfl, rfl, rfl, rfl, rfl, rfl, trivial⟩ (ih m (v6 ||| (ax_ishl 1 v8)) (v8 + 1) _ h)
          · rw [if_neg c35] at h
            cases h
        · rw [if_neg c32] at h
          refine ax_gf c32 s33 ?_
          refine ax_go (j := 2) (k2 := 29) (lv2 := [some (.inr (.inr (22, 0))), none, some (.inl v2), some (.inl v3), some (.inl v4), some (.inl v5), some (.inl v6), some (.inl v7), some (.inl (v8 + 1))]) (st2 := []) (m2 := m) (fun n => rfl) ?_
          exact ax_fg (lv2 := [some (.inr (.inr (22, 0))), none, some (.inl v2), some (.inl v3), some (.inl v4), some (.inl v5), some (.inl v6), some (.inl v7), some (.inl (v8 + 1))]) ⟨rfl, rfl, rfl, rfl, rfl, rfl, rfl, rfl, trivial⟩ (ih m v6 (v8 + 1) _ h)
      · rw [if_neg c29] at h
        refine ax_gf c29 s30 ?_
        refine ax_go (j := 2) (k2 := 29) (lv2 := [some (.inr (.inr (22, 0))), none, some (.inl v2), some (.inl v3), some (.inl v4), some (.inl v5), some (.inl v6), some (.inl v7), some (.inl (v8 + 1))]) (st2 := []) (m2 := m) (fun n => rfl) ?_
        exact ax_fg (lv2 := [some (.inr (.inr (22, 0))), none, some (.inl v2), some (.inl v3), some (.inl v4), some (.inl v5), some (.inl v6), some (.inl v7), some (.inl (v8 + 1))]) ⟨rfl, rfl, rfl, rfl, rfl, rfl, rfl, rfl, trivial⟩ (ih m v6 (v8 + 1) _ h)
def F_X11_chain_L23 : Nat → (ax_M → Int32 → Option (Int32 × ax_M)) → ax_M → Int32 → Int32 → Int32 → Int32 → Int32 → Int32 → Option (Int32 × ax_M)
  | 0, _, _, _, _, _, _, _, _ => none
  | n + 1, K65, m, v2, v3, v4, v5, v6, v7 => if (m.1 22 0 1) ≤ v7 then (K65 m v6) else (F_X11_chain_L29 ax_FU (fun m45 y44 => F_X11_chain_L23 n K65 m45 v2 v3 v4 v5 y44 (v7 + 1)) m v2 v3 v4 v5 v6 v7 0)
set_option maxRecDepth 20000 in
set_option maxHeartbeats 4000000 in
theorem R_X11_chain_L23 {e : Nat} {v2 : Int32} {v3 : Int32} {v4 : Int32} {v5 : Int32} {K65 : ax_M → Int32 → Option (Int32 × ax_M)} (hK65 : ∀ (my : ax_M) (y6 : Int32) (q : (Int32 × ax_M)), K65 my y6 = some q → ax_Ru (e + 4) L_X11_chain 65 [some (.inr (.inr (22, 0))), none, some (.inl v2), some (.inl v3), none, some (.inl v5), some (.inl y6), none, none] [] my (some (.inl q.1), q.2)) : ∀ (n : Nat) (m : ax_M) (v6 : Int32) (v7 : Int32) (q : (Int32 × ax_M)), F_X11_chain_L23 n K65 m v2 v3 v4 v5 v6 v7 = some q → ax_Ru (e + 4) L_X11_chain 23 [some (.inr (.inr (22, 0))), none, some (.inl v2), some (.inl v3), some (.inl v4), some (.inl v5), some (.inl v6), some (.inl v7), none] [] m (some (.inl q.1), q.2) := by
  intro n
  induction n with
  | zero =>
    intro m v6 v7 q h
    cases h
  | succ n ih =>
    intro m v6 v7 q h
    rw [F_X11_chain_L23] at h
    have s43 : ∀ n, ax_ex (e + 4) L_X11_chain 23 [some (.inr (.inr (22, 0))), none, some (.inl v2), some (.inl v3), some (.inl v4), some (.inl v5), some (.inl v6), some (.inl v7), none] [] m (n + 4) = if (m.1 22 0 1) ≤ v7 then ax_ex (e + 4) L_X11_chain 65 [some (.inr (.inr (22, 0))), none, some (.inl v2), some (.inl v3), some (.inl v4), some (.inl v5), some (.inl v6), some (.inl v7), none] [] m n else ax_ex (e + 4) L_X11_chain 27 [some (.inr (.inr (22, 0))), none, some (.inl v2), some (.inl v3), some (.inl v4), some (.inl v5), some (.inl v6), some (.inl v7), none] [] m n := fun n => rfl
    by_cases c42 : (m.1 22 0 1) ≤ v7
    · rw [if_pos c42] at h
      refine ax_gt c42 s43 ?_
      exact ax_fg (lv2 := [some (.inr (.inr (22, 0))), none, some (.inl v2), some (.inl v3), none, some (.inl v5), some (.inl v6), none, none]) ⟨rfl, rfl, rfl, rfl, rfl, trivial⟩ (hK65 m v6 _ h)
    · rw [if_neg c42] at h
      refine ax_gf c42 s43 ?_
      refine ax_go (j := 2) (k2 := 29) (lv2 := [some (.inr (.inr (22, 0))), none, some (.inl v2), some (.inl v3), some (.inl v4), some (.inl v5), some (.inl v6), some (.inl v7), some (.inl 0)]) (st2 := []) (m2 := m) (fun n => rfl) ?_
      refine ax_fg (lv2 := [some (.inr (.inr (22, 0))), none, some (.inl v2), some (.inl v3), some (.inl v4), some (.inl v5), some (.inl v6), some (.inl v7), some (.inl 0)]) ⟨rfl, rfl, rfl, rfl, rfl, rfl, rfl, rfl, trivial⟩ ?_
      refine R_X11_chain_L29 ?_ _ m v6 0 _ h
      · intro m45 y44 q h
        refine ax_go (j := 2) (k2 := 23) (lv2 := [some (.inr (.inr (22, 0))), none, some (.inl v2), some (.inl v3), some (.inl v4), some (.inl v5), some (.inl y44), some (.inl (v7 + 1)), none]) (st2 := []) (m2 := m45) (fun n => rfl) ?_
        exact ax_fg (lv2 := [some (.inr (.inr (22, 0))), none, some (.inl v2), some (.inl v3), some (.inl v4), some (.inl v5), some (.inl y44), some (.inl (v7 + 1)), none]) ⟨rfl, rfl, rfl, rfl, rfl, rfl, rfl, trivial⟩ (ih m45 y44 (v7 + 1) _ h)
def F_X11_chain_L17 : Nat → ax_M → Int32 → Int32 → Int32 → Int32 → Option (Int32 × ax_M)
  | 0, _, _, _, _, _ => none
  | n + 1, m, v2, v3, v4, v5 => if v4 = 0 then (some ((-1), m)) else (F_X11_chain_L23 ax_FU (fun m48 y47 => if ((ax_ishr y47 v2) &&& 1) = 1 then (some (v5, m48)) else (F_X11_chain_L17 n m48 v2 (v3 ||| y47) y47 (v5 + 1))) m v2 v3 v4 v5 0 0)
set_option maxRecDepth 20000 in
set_option maxHeartbeats 4000000 in
theorem R_X11_chain_L17 {e : Nat} {v2 : Int32} : ∀ (n : Nat) (m : ax_M) (v3 : Int32) (v4 : Int32) (v5 : Int32) (q : (Int32 × ax_M)), F_X11_chain_L17 n m v2 v3 v4 v5 = some q → ax_Ru (e + 4) L_X11_chain 17 [some (.inr (.inr (22, 0))), none, some (.inl v2), some (.inl v3), some (.inl v4), some (.inl v5), none, none, none] [] m (some (.inl q.1), q.2) := by
  intro n
  induction n with
  | zero =>
    intro m v3 v4 v5 q h
    cases h
  | succ n ih =>
    intro m v3 v4 v5 q h
    rw [F_X11_chain_L17] at h
    have s10 : ∀ n, ax_ex (e + 4) L_X11_chain 17 [some (.inr (.inr (22, 0))), none, some (.inl v2), some (.inl v3), some (.inl v4), some (.inl v5), none, none, none] [] m (n + 2) = if v4 = 0 then ax_ex (e + 4) L_X11_chain 82 [some (.inr (.inr (22, 0))), none, some (.inl v2), some (.inl v3), some (.inl v4), some (.inl v5), none, none, none] [] m n else ax_ex (e + 4) L_X11_chain 19 [some (.inr (.inr (22, 0))), none, some (.inl v2), some (.inl v3), some (.inl v4), some (.inl v5), none, none, none] [] m n := fun n => rfl
    by_cases c9 : v4 = 0
    · rw [if_pos c9] at h
      refine ax_gt c9 s10 ?_
      obtain rfl := Option.some.inj h
      exact ax_rs 2 (fun n => rfl)
    · rw [if_neg c9] at h
      refine ax_gf c9 s10 ?_
      refine ax_go (j := 4) (k2 := 23) (lv2 := [some (.inr (.inr (22, 0))), none, some (.inl v2), some (.inl v3), some (.inl v4), some (.inl v5), some (.inl 0), some (.inl 0), none]) (st2 := []) (m2 := m) (fun n => rfl) ?_
      refine ax_fg (lv2 := [some (.inr (.inr (22, 0))), none, some (.inl v2), some (.inl v3), some (.inl v4), some (.inl v5), some (.inl 0), some (.inl 0), none]) ⟨rfl, rfl, rfl, rfl, rfl, rfl, rfl, trivial⟩ ?_
      refine R_X11_chain_L23 ?_ _ m 0 0 _ h
      · intro m48 y47 q h
        refine ax_go (j := 6) (k2 := 71) (lv2 := [some (.inr (.inr (22, 0))), none, some (.inl v2), some (.inl v3), none, some (.inl v5), some (.inl y47), none, none]) (st2 := [.inl 1, .inl ((ax_ishr y47 v2) &&& 1)]) (m2 := m48) (fun n => rfl) ?_
        obtain ⟨y49, hy49⟩ : ∃ y : Int32, y = ((ax_ishr y47 v2) &&& 1) := ⟨_, rfl⟩
        rw [← hy49] at h ⊢
        have s51 : ∀ n, ax_ex (e + 4) L_X11_chain 71 [some (.inr (.inr (22, 0))), none, some (.inl v2), some (.inl v3), none, some (.inl v5), some (.inl y47), none, none] [.inl 1, .inl y49] m48 (n + 1) = if y49 = 1 then ax_ex (e + 4) L_X11_chain 72 [some (.inr (.inr (22, 0))), none, some (.inl v2), some (.inl v3), none, some (.inl v5), some (.inl y47), none, none] [] m48 n else ax_ex (e + 4) L_X11_chain 74 [some (.inr (.inr (22, 0))), none, some (.inl v2), some (.inl v3), none, some (.inl v5), some (.inl y47), none, none] [] m48 n := fun n => rfl
        by_cases c50 : y49 = 1
        · rw [if_pos c50] at h
          refine ax_gt c50 s51 ?_
          obtain rfl := Option.some.inj h
          exact ax_rs 2 (fun n => rfl)
        · rw [if_neg c50] at h
          refine ax_gf c50 s51 ?_
          refine ax_go (j := 8) (k2 := 17) (lv2 := [some (.inr (.inr (22, 0))), none, some (.inl v2), some (.inl (v3 ||| y47)), some (.inl y47), some (.inl (v5 + 1)), some (.inl y47), none, none]) (st2 := []) (m2 := m48) (fun n => rfl) ?_
          exact ax_fg (lv2 := [some (.inr (.inr (22, 0))), none, some (.inl v2), some (.inl (v3 ||| y47)), some (.inl y47), some (.inl (v5 + 1)), none, none, none]) ⟨rfl, rfl, rfl, rfl, rfl, trivial⟩ (ih m48 (v3 ||| y47) y47 (v5 + 1) _ h)
def F_X11_chain (m : ax_M) (v1 : Int32) (v2 : Int32) : Option (Int32 × ax_M) := ax_b (F_X11_areTwo m v1 v2) (fun r2 => if r2 = 0 then (ax_b2 (F_X11_no m (-2)) (fun r6 m7 => some (r6, m7))) else (F_X11_chain_L17 ax_FU m v2 (ax_ishl 1 v1) (ax_ishl 1 v1) 1))
set_option maxRecDepth 20000 in
set_option maxHeartbeats 4000000 in
theorem R_X11_chain {d : Nat} (hd : 4 ≤ d) {m : ax_M} {v1 : Int32} {v2 : Int32} {q : (Int32 × ax_M)} (h : F_X11_chain m v1 v2 = some q) : ax_Ru d L_X11_chain 0 (ax_entry [.inr (.inr (22, 0)), .inl v1, .inl v2] 9) [] m (some (.inl q.1), q.2) := by
  obtain ⟨e, rfl⟩ : ∃ e, d = e + 4 := ⟨d - 4, by omega⟩
  unfold F_X11_chain at h
  obtain ⟨r2, q1, h⟩ := ax_b_of h
  have s54 : ∀ n, ax_ex (e + 4) L_X11_chain 0 (ax_entry [.inr (.inr (22, 0)), .inl v1, .inl v2] 9) [] m (n + 4) = ax_aft (fun s m2 => ax_ex (e + 4) L_X11_chain 4 [some (.inr (.inr (22, 0))), some (.inl v1), some (.inl v2), none, none, none, none, none, none] s m2 n) [] (ax_ex (e + 3) L_X11_areTwo 0 (ax_entry [.inr (.inr (22, 0)), .inl v1, .inl v2] 3) [] m n) := fun n => rfl
  refine ax_gci (j := 4) (k2 := 4) (lv2 := [some (.inr (.inr (22, 0))), some (.inl v1), some (.inl v2), none, none, none, none, none, none]) (rest := []) ((R_X11_areTwo (by omega) q1)) s54 ?_
  have s4 : ∀ n, ax_ex (e + 4) L_X11_chain 4 [some (.inr (.inr (22, 0))), some (.inl v1), some (.inl v2), none, none, none, none, none, none] [.inl r2] m (n + 1) = if r2 = 0 then ax_ex (e + 4) L_X11_chain 5 [some (.inr (.inr (22, 0))), some (.inl v1), some (.inl v2), none, none, none, none, none, none] [] m n else ax_ex (e + 4) L_X11_chain 9 [some (.inr (.inr (22, 0))), some (.inl v1), some (.inl v2), none, none, none, none, none, none] [] m n := fun n => rfl
  by_cases c3 : r2 = 0
  · rw [if_pos c3] at h
    refine ax_gt c3 s4 ?_
    obtain ⟨r6, m7, q5, h⟩ := ax_b2_of h
    have s8 : ∀ n, ax_ex (e + 4) L_X11_chain 5 [some (.inr (.inr (22, 0))), some (.inl v1), some (.inl v2), none, none, none, none, none, none] [] m (n + 3) = ax_aft (fun s m2 => ax_ex (e + 4) L_X11_chain 8 [some (.inr (.inr (22, 0))), some (.inl v1), some (.inl v2), none, none, none, none, none, none] s m2 n) [] (ax_ex (e + 3) L_X11_no 0 (ax_entry [.inr (.inr (22, 0)), .inl (-2)] 2) [] m n) := fun n => rfl
    refine ax_gci (j := 3) (k2 := 8) (lv2 := [some (.inr (.inr (22, 0))), some (.inl v1), some (.inl v2), none, none, none, none, none, none]) (rest := []) ((R_X11_no (by omega) q5)) s8 ?_
    obtain rfl := Option.some.inj h
    exact ax_rs 1 (fun n => rfl)
  · rw [if_neg c3] at h
    refine ax_gf c3 s4 ?_
    refine ax_go (j := 8) (k2 := 17) (lv2 := [some (.inr (.inr (22, 0))), some (.inl v1), some (.inl v2), some (.inl (ax_ishl 1 v1)), some (.inl (ax_ishl 1 v1)), some (.inl 1), none, none, none]) (st2 := []) (m2 := m) (fun n => rfl) ?_
    refine ax_fg (lv2 := [some (.inr (.inr (22, 0))), none, some (.inl v2), some (.inl (ax_ishl 1 v1)), some (.inl (ax_ishl 1 v1)), some (.inl 1), none, none, none]) ⟨rfl, rfl, rfl, rfl, rfl, trivial⟩ ?_
    refine R_X11_chain_L17 _ m (ax_ishl 1 v1) (ax_ishl 1 v1) 1 _ h
def F_X11_netOf (m : ax_M) (v1 : Int32) : Option Int32 := ax_b (F_X11_owedTo m v1) (fun r2 => ax_b (F_X11_allOwed m v1) (fun r4 => some (r2 - r4)))
set_option maxRecDepth 20000 in
set_option maxHeartbeats 4000000 in
theorem R_X11_netOf {d : Nat} (hd : 2 ≤ d) {m : ax_M} {v1 : Int32} {q : Int32} (h : F_X11_netOf m v1 = some q) : ax_Ru d L_X11_netOf 0 (ax_entry [.inr (.inr (22, 0)), .inl v1] 2) [] m (some (.inl q), m) := by
  obtain ⟨e, rfl⟩ : ∃ e, d = e + 2 := ⟨d - 2, by omega⟩
  unfold F_X11_netOf at h
  obtain ⟨r2, q1, h⟩ := ax_b_of h
  have s6 : ∀ n, ax_ex (e + 2) L_X11_netOf 0 (ax_entry [.inr (.inr (22, 0)), .inl v1] 2) [] m (n + 3) = ax_aft (fun s m2 => ax_ex (e + 2) L_X11_netOf 3 [some (.inr (.inr (22, 0))), some (.inl v1)] s m2 n) [] (ax_ex (e + 1) L_X11_owedTo 0 (ax_entry [.inr (.inr (22, 0)), .inl v1] 4) [] m n) := fun n => rfl
  refine ax_gci (j := 3) (k2 := 3) (lv2 := [some (.inr (.inr (22, 0))), some (.inl v1)]) (rest := []) ((R_X11_owedTo (by omega) q1)) s6 ?_
  obtain ⟨r4, q3, h⟩ := ax_b_of h
  have s5 : ∀ n, ax_ex (e + 2) L_X11_netOf 3 [some (.inr (.inr (22, 0))), some (.inl v1)] [.inl r2] m (n + 3) = ax_aft (fun s m2 => ax_ex (e + 2) L_X11_netOf 6 [some (.inr (.inr (22, 0))), some (.inl v1)] s m2 n) [.inl r2] (ax_ex (e + 1) L_X11_allOwed 0 (ax_entry [.inr (.inr (22, 0)), .inl v1] 4) [] m n) := fun n => rfl
  refine ax_gci (j := 3) (k2 := 6) (lv2 := [some (.inr (.inr (22, 0))), some (.inl v1)]) (rest := [.inl r2]) ((R_X11_allOwed (by omega) q3)) s5 ?_
  obtain rfl := Option.some.inj h
  exact ax_rs 2 (fun n => rfl)
def F_X11_poorest_L11 : Nat → ax_M → Int32 → Int32 → Option (Int32 × ax_M)
  | 0, _, _, _ => none
  | n + 1, m, v1, v2 => if (m.1 22 0 1) ≤ v2 then (some (v1, m)) else (ax_b (F_X11_netOf m v2) (fun r10 => ax_b (F_X11_netOf m v1) (fun r12 => if r12 ≤ r10 then (F_X11_poorest_L11 n m v1 (v2 + 1)) else (F_X11_poorest_L11 n m v2 (v2 + 1)))))
set_option maxRecDepth 20000 in
set_option maxHeartbeats 4000000 in
theorem R_X11_poorest_L11 {e : Nat} : ∀ (n : Nat) (m : ax_M) (v1 : Int32) (v2 : Int32) (q : (Int32 × ax_M)), F_X11_poorest_L11 n m v1 v2 = some q → ax_Ru (e + 3) L_X11_poorest 11 [some (.inr (.inr (22, 0))), some (.inl v1), some (.inl v2)] [] m (some (.inl q.1), q.2) := by
  intro n
  induction n with
  | zero =>
    intro m v1 v2 q h
    cases h
  | succ n ih =>
    intro m v1 v2 q h
    rw [F_X11_poorest_L11] at h
    have s8 : ∀ n, ax_ex (e + 3) L_X11_poorest 11 [some (.inr (.inr (22, 0))), some (.inl v1), some (.inl v2)] [] m (n + 4) = if (m.1 22 0 1) ≤ v2 then ax_ex (e + 3) L_X11_poorest 26 [some (.inr (.inr (22, 0))), some (.inl v1), some (.inl v2)] [] m n else ax_ex (e + 3) L_X11_poorest 15 [some (.inr (.inr (22, 0))), some (.inl v1), some (.inl v2)] [] m n := fun n => rfl
    by_cases c7 : (m.1 22 0 1) ≤ v2
    · rw [if_pos c7] at h
      refine ax_gt c7 s8 ?_
      obtain rfl := Option.some.inj h
      exact ax_rs 2 (fun n => rfl)
    · rw [if_neg c7] at h
      refine ax_gf c7 s8 ?_
      obtain ⟨r10, q9, h⟩ := ax_b_of h
      have s16 : ∀ n, ax_ex (e + 3) L_X11_poorest 15 [some (.inr (.inr (22, 0))), some (.inl v1), some (.inl v2)] [] m (n + 3) = ax_aft (fun s m2 => ax_ex (e + 3) L_X11_poorest 18 [some (.inr (.inr (22, 0))), some (.inl v1), some (.inl v2)] s m2 n) [] (ax_ex (e + 2) L_X11_netOf 0 (ax_entry [.inr (.inr (22, 0)), .inl v2] 2) [] m n) := fun n => rfl
      refine ax_gci (j := 3) (k2 := 18) (lv2 := [some (.inr (.inr (22, 0))), some (.inl v1), some (.inl v2)]) (rest := []) ((R_X11_netOf (by omega) q9)) s16 ?_
      obtain ⟨r12, q11, h⟩ := ax_b_of h
      have s15 : ∀ n, ax_ex (e + 3) L_X11_poorest 18 [some (.inr (.inr (22, 0))), some (.inl v1), some (.inl v2)] [.inl r10] m (n + 3) = ax_aft (fun s m2 => ax_ex (e + 3) L_X11_poorest 21 [some (.inr (.inr (22, 0))), some (.inl v1), some (.inl v2)] s m2 n) [.inl r10] (ax_ex (e + 2) L_X11_netOf 0 (ax_entry [.inr (.inr (22, 0)), .inl v1] 2) [] m n) := fun n => rfl
      refine ax_gci (j := 3) (k2 := 21) (lv2 := [some (.inr (.inr (22, 0))), some (.inl v1), some (.inl v2)]) (rest := [.inl r10]) ((R_X11_netOf (by omega) q11)) s15 ?_
      have s14 : ∀ n, ax_ex (e + 3) L_X11_poorest 21 [some (.inr (.inr (22, 0))), some (.inl v1), some (.inl v2)] [.inl r12, .inl r10] m (n + 1) = if r12 ≤ r10 then ax_ex (e + 3) L_X11_poorest 24 [some (.inr (.inr (22, 0))), some (.inl v1), some (.inl v2)] [] m n else ax_ex (e + 3) L_X11_poorest 22 [some (.inr (.inr (22, 0))), some (.inl v1), some (.inl v2)] [] m n := fun n => rfl
      by_cases c13 : r12 ≤ r10
      · rw [if_pos c13] at h
        refine ax_gt c13 s14 ?_
        refine ax_go (j := 2) (k2 := 11) (lv2 := [some (.inr (.inr (22, 0))), some (.inl v1), some (.inl (v2 + 1))]) (st2 := []) (m2 := m) (fun n => rfl) ?_
        exact ax_fg (lv2 := [some (.inr (.inr (22, 0))), some (.inl v1), some (.inl (v2 + 1))]) ⟨rfl, rfl, rfl, trivial⟩ (ih m v1 (v2 + 1) _ h)
      · rw [if_neg c13] at h
        refine ax_gf c13 s14 ?_
        refine ax_go (j := 4) (k2 := 11) (lv2 := [some (.inr (.inr (22, 0))), some (.inl v2), some (.inl (v2 + 1))]) (st2 := []) (m2 := m) (fun n => rfl) ?_
        exact ax_fg (lv2 := [some (.inr (.inr (22, 0))), some (.inl v2), some (.inl (v2 + 1))]) ⟨rfl, rfl, rfl, trivial⟩ (ih m v2 (v2 + 1) _ h)
def F_X11_poorest (m : ax_M) : Option (Int32 × ax_M) := if (m.1 22 0 1) = 0 then (ax_b2 (F_X11_no m (-5)) (fun r4 m5 => some (r4, m5))) else (F_X11_poorest_L11 ax_FU m 0 1)
set_option maxRecDepth 20000 in
set_option maxHeartbeats 4000000 in
theorem R_X11_poorest {d : Nat} (hd : 3 ≤ d) {m : ax_M} {q : (Int32 × ax_M)} (h : F_X11_poorest m = some q) : ax_Ru d L_X11_poorest 0 (ax_entry [.inr (.inr (22, 0))] 3) [] m (some (.inl q.1), q.2) := by
  obtain ⟨e, rfl⟩ : ∃ e, d = e + 3 := ⟨d - 3, by omega⟩
  unfold F_X11_poorest at h
  have s2 : ∀ n, ax_ex (e + 3) L_X11_poorest 0 (ax_entry [.inr (.inr (22, 0))] 3) [] m (n + 3) = if (m.1 22 0 1) = 0 then ax_ex (e + 3) L_X11_poorest 3 [some (.inr (.inr (22, 0))), none, none] [] m n else ax_ex (e + 3) L_X11_poorest 7 [some (.inr (.inr (22, 0))), none, none] [] m n := fun n => rfl
  by_cases c1 : (m.1 22 0 1) = 0
  · rw [if_pos c1] at h
    refine ax_gt c1 s2 ?_
    obtain ⟨r4, m5, q3, h⟩ := ax_b2_of h
    have s6 : ∀ n, ax_ex (e + 3) L_X11_poorest 3 [some (.inr (.inr (22, 0))), none, none] [] m (n + 3) = ax_aft (fun s m2 => ax_ex (e + 3) L_X11_poorest 6 [some (.inr (.inr (22, 0))), none, none] s m2 n) [] (ax_ex (e + 2) L_X11_no 0 (ax_entry [.inr (.inr (22, 0)), .inl (-5)] 2) [] m n) := fun n => rfl
    refine ax_gci (j := 3) (k2 := 6) (lv2 := [some (.inr (.inr (22, 0))), none, none]) (rest := []) ((R_X11_no (by omega) q3)) s6 ?_
    obtain rfl := Option.some.inj h
    exact ax_rs 1 (fun n => rfl)
  · rw [if_neg c1] at h
    refine ax_gf c1 s2 ?_
    refine ax_go (j := 4) (k2 := 11) (lv2 := [some (.inr (.inr (22, 0))), some (.inl 0), some (.inl 1)]) (st2 := []) (m2 := m) (fun n => rfl) ?_
    refine ax_fg (lv2 := [some (.inr (.inr (22, 0))), some (.inl 0), some (.inl 1)]) ⟨rfl, rfl, rfl, trivial⟩ ?_
    refine R_X11_poorest_L11 _ m 0 1 _ h
def F_X11_dueOf_L13 : Nat → ax_M → Int32 → Int32 → Int32 → Int32 → Int32 → Option Int32
  | 0, _, _, _, _, _, _ => none
  | n + 1, m, v1, v2, v3, v4, v5 => if (m.1 22 0 4) ≤ v5 then (some v4) else (if ax_ok v5 16 = true then (if (m.1 29 0 v5.toNatClampNeg) = v2 then (if ax_ok v5 16 = true then (if (m.1 26 0 v5.toNatClampNeg) = 4 then (F_X11_dueOf_L13 n m v1 v2 v3 v4 (v5 + 1)) else (if ax_ok v1 8 = true then (ax_b (F_X11_isUp m v5 v1 (m.1 24 0 v1.toNatClampNeg)) (fun r17 => if r17 = 0 then (F_X11_dueOf_L13 n m v1 v2 v3 v4 (v5 + 1)) else (ax_b (F_X11_takes m v5) (fun r21 => F_X11_dueOf_L13 n m v1 v2 v3 (ax_max v4 ((v3 - r21) + 1)) (v5 + 1))))) else (none))) else (none)) else (F_X11_dueOf_L13 n m v1 v2 v3 v4 (v5 + 1))) else (none))
set_option maxRecDepth 20000 in
set_option maxHeartbeats 4000000 in
theorem R_X11_dueOf_L13 {e : Nat} {m : ax_M} {v1 : Int32} {v2 : Int32} {v3 : Int32} : ∀ (n : Nat) (v4 : Int32) (v5 : Int32) (q : Int32), F_X11_dueOf_L13 n m v1 v2 v3 v4 v5 = some q → ax_Ru (e + 9) L_X11_dueOf 13 [some (.inr (.inr (22, 0))), some (.inl v1), some (.inl v2), some (.inl v3), some (.inl v4), some (.inl v5)] [] m (some (.inl q), m) := by
  intro n
  induction n with
  | zero =>
    intro v4 v5 q h
    cases h
  | succ n ih =>
    intro v4 v5 q h
    rw [F_X11_dueOf_L13] at h
    have s5 : ∀ n, ax_ex (e + 9) L_X11_dueOf 13 [some (.inr (.inr (22, 0))), some (.inl v1), some (.inl v2), some (.inl v3), some (.inl v4), some (.inl v5)] [] m (n + 4) = if (m.1 22 0 4) ≤ v5 then ax_ex (e + 9) L_X11_dueOf 50 [some (.inr (.inr (22, 0))), some (.inl v1), some (.inl v2), some (.inl v3), some (.inl v4), some (.inl v5)] [] m n else ax_ex (e + 9) L_X11_dueOf 17 [some (.inr (.inr (22, 0))), some (.inl v1), some (.inl v2), some (.inl v3), some (.inl v4), some (.inl v5)] [] m n := fun n => rfl
    by_cases c4 : (m.1 22 0 4) ≤ v5
    · rw [if_pos c4] at h
      refine ax_gt c4 s5 ?_
      obtain rfl := Option.some.inj h
      exact ax_rs 2 (fun n => rfl)
    · rw [if_neg c4] at h
      refine ax_gf c4 s5 ?_
      have s7 : ∀ n, ax_ex (e + 9) L_X11_dueOf 17 [some (.inr (.inr (22, 0))), some (.inl v1), some (.inl v2), some (.inl v3), some (.inl v4), some (.inl v5)] [] m (n + 4) = if ax_ok v5 16 = true then ax_ex (e + 9) L_X11_dueOf 21 [some (.inr (.inr (22, 0))), some (.inl v1), some (.inl v2), some (.inl v3), some (.inl v4), some (.inl v5)] [.inl (m.1 29 0 v5.toNatClampNeg)] m n else none := fun n => rfl
      by_cases c6 : ax_ok v5 16 = true
      · rw [if_pos c6] at h
        refine ax_gt c6 s7 ?_
        have s9 : ∀ n, ax_ex (e + 9) L_X11_dueOf 21 [some (.inr (.inr (22, 0))), some (.inl v1), some (.inl v2), some (.inl v3), some (.inl v4), some (.inl v5)] [.inl (m.1 29 0 v5.toNatClampNeg)] m (n + 2) = if (m.1 29 0 v5.toNatClampNeg) = v2 then ax_ex (e + 9) L_X11_dueOf 23 [some (.inr (.inr (22, 0))), some (.inl v1), some (.inl v2), some (.inl v3), some (.inl v4), some (.inl v5)] [] m n else ax_ex (e + 9) L_X11_dueOf 48 [some (.inr (.inr (22, 0))), some (.inl v1), some (.inl v2), some (.inl v3), some (.inl v4), some (.inl v5)] [] m n := fun n => rfl
        by_cases c8 : (m.1 29 0 v5.toNatClampNeg) = v2
        · rw [if_pos c8] at h
          refine ax_gt c8 s9 ?_
          have s11 : ∀ n, ax_ex (e + 9) L_X11_dueOf 23 [some (.inr (.inr (22, 0))), some (.inl v1), some (.inl v2), some (.inl v3), some (.inl v4), some (.inl v5)] [] m (n + 4) = if ax_ok v5 16 = true then ax_ex (e + 9) L_X11_dueOf 27 [some (.inr (.inr (22, 0))), some (.inl v1), some (.inl v2), some (.inl v3), some (.inl v4), some (.inl v5)] [.inl (m.1 26 0 v5.toNatClampNeg)] m n else none := fun n => rfl
          by_cases c10 : ax_ok v5 16 = true
          · rw [if_pos c10] at h
            refine ax_gt c10 s11 ?_
            have s13 : ∀ n, ax_ex (e + 9) L_X11_dueOf 27 [some (.inr (.inr (22, 0))), some (.inl v1), some (.inl v2), some (.inl v3), some (.inl v4), some (.inl v5)] [.inl (m.1 26 0 v5.toNatClampNeg)] m (n + 2) = if (m.1 26 0 v5.toNatClampNeg) = 4 then ax_ex (e + 9) L_X11_dueOf 48 [some (.inr (.inr (22, 0))), some (.inl v1), some (.inl v2), some (.inl v3), some (.inl v4), some (.inl v5)] [] m n else ax_ex (e + 9) L_X11_dueOf 29 [some (.inr (.inr (22, 0))), some (.inl v1), some (.inl v2), some (.inl v3), some (.inl v4), some (.inl v5)] [] m n := fun n => rfl
            by_cases c12 : (m.1 26 0 v5.toNatClampNeg) = 4
            · rw [if_pos c12] at h
              refine ax_gt c12 s13 ?_
              refine ax_go (j := 2) (k2 := 13) (lv2 := [some (.inr (.inr (22, 0))), some (.inl v1), some (.inl v2), some (.inl v3), some (.inl v4), some (.inl (v5 + 1))]) (st2 := []) (m2 := m) (fun n => rfl) ?_
              exact ax_fg (lv2 := [some (.inr (.inr (22, 0))), some (.inl v1), some (.inl v2), some (.inl v3), some (.inl v4), some (.inl (v5 + 1))]) ⟨rfl, rfl, rfl, rfl, rfl, rfl, trivial⟩ (ih v4 (v5 + 1) _ h)
            · rw [if_neg c12] at h
              refine ax_gf c12 s13 ?_
              have s15 : ∀ n, ax_ex (e + 9) L_X11_dueOf 29 [some (.inr (.inr (22, 0))), some (.inl v1), some (.inl v2), some (.inl v3), some (.inl v4), some (.inl v5)] [] m (n + 7) = if ax_ok v1 8 = true then ax_ex (e + 9) L_X11_dueOf 36 [some (.inr (.inr (22, 0))), some (.inl v1), some (.inl v2), some (.inl v3), some (.inl v4), some (.inl v5)] [.inl (m.1 24 0 v1.toNatClampNeg), .inl v1, .inl v5, .inr (.inr (22, 0))] m n else none := fun n => rfl
              by_cases c14 : ax_ok v1 8 = true
              · rw [if_pos c14] at h
                refine ax_gt c14 s15 ?_
                obtain ⟨r17, q16, h⟩ := ax_b_of h
                have s23 : ∀ n, ax_ex (e + 9) L_X11_dueOf 36 [some (.inr (.inr (22, 0))), some (.inl v1), some (.inl v2), some (.inl v3), some (.inl v4), some (.inl v5)] [.inl (m.1 24 0 v1.toNatClampNeg), .inl v1, .inl v5, .inr (.inr (22, 0))] m (n + 1) = ax_aft (fun s m2 => ax_ex (e + 9) L_X11_dueOf 37 [some (.inr (.inr (22, 0))), some (.inl v1), some (.inl v2), some (.inl v3), some (.inl v4), some (.inl v5)] s m2 n) [] (ax_ex (e + 8) L_X11_isUp 0 (ax_entry [.inr (.inr (22, 0)), .inl v5, .inl v1, .inl (m.1 24 0 v1.toNatClampNeg)] 4) [] m n) := fun n => rfl
                refine ax_gci (j := 1) (k2 := 37) (lv2 := [some (.inr (.inr (22, 0))), some (.inl v1), some (.inl v2), some (.inl v3), some (.inl v4), some (.inl v5)]) (rest := []) ((R_X11_isUp (by omega) q16)) s23 ?_
                have s19 : ∀ n, ax_ex (e + 9) L_X11_dueOf 37 [some (.inr (.inr (22, 0))), some (.inl v1), some (.inl v2), some (.inl v3), some (.inl v4), some (.inl v5)] [.inl r17] m (n + 1) = if r17 = 0 then ax_ex (e + 9) L_X11_dueOf 48 [some (.inr (.inr (22, 0))), some (.inl v1), some (.inl v2), some (.inl v3), some (.inl v4), some (.inl v5)] [] m n else ax_ex (e + 9) L_X11_dueOf 38 [some (.inr (.inr (22, 0))), some (.inl v1), some (.inl v2), some (.inl v3), some (.inl v4), some (.inl v5)] [] m n := fun n => rfl
                by_cases c18 : r17 = 0
                · rw [if_pos c18] at h
                  refine ax_gt c18 s19 ?_
                  refine ax_go (j := 2) (k2 := 13) (lv2 := [some (.inr (.inr (22, 0))), some (.inl v1), some (.inl v2), some (.inl v3), some (.inl v4), some (.inl (v5 + 1))]) (st2 := []) (m2 := m) (fun n => rfl) ?_
                  exact ax_fg (lv2 := [some (.inr (.inr (22, 0))), some (.inl v1), some (.inl v2), some (.inl v3), some (.inl v4), some (.inl (v5 + 1))]) ⟨rfl, rfl, rfl, rfl, rfl, rfl, trivial⟩ (ih v4 (v5 + 1) _ h)
                · rw [if_neg c18] at h
                  refine ax_gf c18 s19 ?_
                  obtain ⟨r21, q20, h⟩ := ax_b_of h
                  have s22 : ∀ n, ax_ex (e + 9) L_X11_dueOf 38 [some (.inr (.inr (22, 0))), some (.inl v1), some (.inl v2), some (.inl v3), some (.inl v4), some (.inl v5)] [] m (n + 5) = ax_aft (fun s m2 => ax_ex (e + 9) L_X11_dueOf 43 [some (.inr (.inr (22, 0))), some (.inl v1), some (.inl v2), some (.inl v3), some (.inl v4), some (.inl v5)] s m2 n) [.inl v3, .inl v4] (ax_ex (e + 8) L_X11_takes 0 (ax_entry [.inr (.inr (22, 0)), .inl v5] 2) [] m n) := fun n => rfl
                  refine ax_gci (j := 5) (k2 := 43) (lv2 := [some (.inr (.inr (22, 0))), some (.inl v1), some (.inl v2), some (.inl v3), some (.inl v4), some (.inl v5)]) (rest := [.inl v3, .inl v4]) ((R_X11_takes (by omega) q20)) s22 ?_
                  refine ax_go (j := 7) (k2 := 13) (lv2 := [some (.inr (.inr (22, 0))), some (.inl v1), some (.inl v2), some (.inl v3), some (.inl (ax_max v4 ((v3 - r21) + 1))), some (.inl (v5 + 1))]) (st2 := []) (m2 := m) (fun n => rfl) ?_
                  exact ax_fg (lv2 := [some (.inr (.inr (22, 0))), some (.inl v1), some (.inl v2), some (.inl v3), some (.inl (ax_max v4 ((v3 - r21) + 1))), some (.inl (v5 + 1))]) ⟨rfl, rfl, rfl, rfl, rfl, rfl, trivial⟩ (ih (ax_max v4 ((v3 - r21) + 1)) (v5 + 1) _ h)
              · rw [if_neg c14] at h
                cases h
          · rw [if_neg c10] at h
            cases h
        · rw [if_neg c8] at h
          refine ax_gf c8 s9 ?_
          refine ax_go (j := 2) (k2 := 13) (lv2 := [some (.inr (.inr (22, 0))), some (.inl v1), some (.inl v2), some (.inl v3), some (.inl v4), some (.inl (v5 + 1))]) (st2 := []) (m2 := m) (fun n => rfl) ?_
          exact ax_fg (lv2 := [some (.inr (.inr (22, 0))), some (.inl v1), some (.inl v2), some (.inl v3), some (.inl v4), some (.inl (v5 + 1))]) ⟨rfl, rfl, rfl, rfl, rfl, rfl, trivial⟩ (ih v4 (v5 + 1) _ h)
      · rw [if_neg c6] at h
        cases h
def F_X11_dueOf (m : ax_M) (v1 : Int32) (v2 : Int32) : Option Int32 := if ax_ok ((8 * v1) + v2) 64 = true then (F_X11_dueOf_L13 ax_FU m v1 v2 (m.1 25 0 ((8 * v1) + v2).toNatClampNeg) 0 0) else (none)
set_option maxRecDepth 20000 in
set_option maxHeartbeats 4000000 in
theorem R_X11_dueOf {d : Nat} (hd : 9 ≤ d) {m : ax_M} {v1 : Int32} {v2 : Int32} {q : Int32} (h : F_X11_dueOf m v1 v2 = some q) : ax_Ru d L_X11_dueOf 0 (ax_entry [.inr (.inr (22, 0)), .inl v1, .inl v2] 6) [] m (some (.inl q), m) := by
  obtain ⟨e, rfl⟩ : ∃ e, d = e + 9 := ⟨d - 9, by omega⟩
  unfold F_X11_dueOf at h
  refine ax_go (j := 7) (k2 := 7) (lv2 := [some (.inr (.inr (22, 0))), some (.inl v1), some (.inl v2), none, none, none]) (st2 := [.inl ((8 * v1) + v2), .inr (.inr (25, 0))]) (m2 := m) (fun n => rfl) ?_
  obtain ⟨y1, hy1⟩ : ∃ y : Int32, y = ((8 * v1) + v2) := ⟨_, rfl⟩
  rw [← hy1] at h ⊢
  have s3 : ∀ n, ax_ex (e + 9) L_X11_dueOf 7 [some (.inr (.inr (22, 0))), some (.inl v1), some (.inl v2), none, none, none] [.inl y1, .inr (.inr (25, 0))] m (n + 1) = if ax_ok y1 64 = true then ax_ex (e + 9) L_X11_dueOf 8 [some (.inr (.inr (22, 0))), some (.inl v1), some (.inl v2), none, none, none] [.inl (m.1 25 0 y1.toNatClampNeg)] m n else none := fun n => rfl
  by_cases c2 : ax_ok y1 64 = true
  · rw [if_pos c2] at h
    refine ax_gt c2 s3 ?_
    refine ax_go (j := 5) (k2 := 13) (lv2 := [some (.inr (.inr (22, 0))), some (.inl v1), some (.inl v2), some (.inl (m.1 25 0 y1.toNatClampNeg)), some (.inl 0), some (.inl 0)]) (st2 := []) (m2 := m) (fun n => rfl) ?_
    refine ax_fg (lv2 := [some (.inr (.inr (22, 0))), some (.inl v1), some (.inl v2), some (.inl (m.1 25 0 y1.toNatClampNeg)), some (.inl 0), some (.inl 0)]) ⟨rfl, rfl, rfl, rfl, rfl, rfl, trivial⟩ ?_
    refine R_X11_dueOf_L13 _ 0 0 _ h
  · rw [if_neg c2] at h
    cases h
def F_X11_due (m : ax_M) (v1 : Int32) (v2 : Int32) : Option (Int32 × ax_M) := ax_b (F_X11_areTwo m v1 v2) (fun r2 => if r2 = 0 then (ax_b2 (F_X11_no m (-2)) (fun r6 m7 => some (r6, m7))) else (ax_b (F_X11_dueOf m v1 v2) (fun r10 => some (r10, m))))
set_option maxRecDepth 20000 in
set_option maxHeartbeats 4000000 in
theorem R_X11_due {d : Nat} (hd : 10 ≤ d) {m : ax_M} {v1 : Int32} {v2 : Int32} {q : (Int32 × ax_M)} (h : F_X11_due m v1 v2 = some q) : ax_Ru d L_X11_due 0 (ax_entry [.inr (.inr (22, 0)), .inl v1, .inl v2] 3) [] m (some (.inl q.1), q.2) := by
  obtain ⟨e, rfl⟩ : ∃ e, d = e + 10 := ⟨d - 10, by omega⟩
  unfold F_X11_due at h
  obtain ⟨r2, q1, h⟩ := ax_b_of h
  have s12 : ∀ n, ax_ex (e + 10) L_X11_due 0 (ax_entry [.inr (.inr (22, 0)), .inl v1, .inl v2] 3) [] m (n + 4) = ax_aft (fun s m2 => ax_ex (e + 10) L_X11_due 4 [some (.inr (.inr (22, 0))), some (.inl v1), some (.inl v2)] s m2 n) [] (ax_ex (e + 9) L_X11_areTwo 0 (ax_entry [.inr (.inr (22, 0)), .inl v1, .inl v2] 3) [] m n) := fun n => rfl
  refine ax_gci (j := 4) (k2 := 4) (lv2 := [some (.inr (.inr (22, 0))), some (.inl v1), some (.inl v2)]) (rest := []) ((R_X11_areTwo (by omega) q1)) s12 ?_
  have s4 : ∀ n, ax_ex (e + 10) L_X11_due 4 [some (.inr (.inr (22, 0))), some (.inl v1), some (.inl v2)] [.inl r2] m (n + 1) = if r2 = 0 then ax_ex (e + 10) L_X11_due 10 [some (.inr (.inr (22, 0))), some (.inl v1), some (.inl v2)] [] m n else ax_ex (e + 10) L_X11_due 5 [some (.inr (.inr (22, 0))), some (.inl v1), some (.inl v2)] [] m n := fun n => rfl
  by_cases c3 : r2 = 0
  · rw [if_pos c3] at h
    refine ax_gt c3 s4 ?_
    obtain ⟨r6, m7, q5, h⟩ := ax_b2_of h
    have s8 : ∀ n, ax_ex (e + 10) L_X11_due 10 [some (.inr (.inr (22, 0))), some (.inl v1), some (.inl v2)] [] m (n + 3) = ax_aft (fun s m2 => ax_ex (e + 10) L_X11_due 13 [some (.inr (.inr (22, 0))), some (.inl v1), some (.inl v2)] s m2 n) [] (ax_ex (e + 9) L_X11_no 0 (ax_entry [.inr (.inr (22, 0)), .inl (-2)] 2) [] m n) := fun n => rfl
    refine ax_gci (j := 3) (k2 := 13) (lv2 := [some (.inr (.inr (22, 0))), some (.inl v1), some (.inl v2)]) (rest := []) ((R_X11_no (by omega) q5)) s8 ?_
    obtain rfl := Option.some.inj h
    exact ax_rs 1 (fun n => rfl)
  · rw [if_neg c3] at h
    refine ax_gf c3 s4 ?_
    obtain ⟨r10, q9, h⟩ := ax_b_of h
    have s11 : ∀ n, ax_ex (e + 10) L_X11_due 5 [some (.inr (.inr (22, 0))), some (.inl v1), some (.inl v2)] [] m (n + 4) = ax_aft (fun s m2 => ax_ex (e + 10) L_X11_due 9 [some (.inr (.inr (22, 0))), some (.inl v1), some (.inl v2)] s m2 n) [] (ax_ex (e + 9) L_X11_dueOf 0 (ax_entry [.inr (.inr (22, 0)), .inl v1, .inl v2] 6) [] m n) := fun n => rfl
    refine ax_gci (j := 4) (k2 := 9) (lv2 := [some (.inr (.inr (22, 0))), some (.inl v1), some (.inl v2)]) (rest := []) ((R_X11_dueOf (by omega) q9)) s11 ?_
    obtain rfl := Option.some.inj h
    exact ax_rs 2 (fun n => rfl)
def F_X11_bare_L14 : Nat → (ax_M → Int32 → Option (Int32 × ax_M)) → ax_M → Int32 → Int32 → Int32 → Option (Int32 × ax_M)
  | 0, _, _, _, _, _ => none
  | n + 1, K46, m, v1, v2, v3 => if (m.1 22 0 1) ≤ v3 then (K46 m v1) else (if v2 = v3 then (if ax_ok ((8 * v2) + v3) 64 = true then (if ax_ok ((8 * v2) + v3) 64 = true then (F_X11_bare_L14 n K46 (ax_ui m 25 0 ((8 * v2) + v3).toNatClampNeg ((m.1 25 0 ((8 * v2) + v3).toNatClampNeg) - 0)) (v1 + 0) v2 (v3 + 1)) else (none)) else (none)) else (ax_b (F_X11_dueOf m v2 v3) (fun r48 => if ax_ok ((8 * v2) + v3) 64 = true then (if ax_ok ((8 * v2) + v3) 64 = true then (F_X11_bare_L14 n K46 (ax_ui m 25 0 ((8 * v2) + v3).toNatClampNeg ((m.1 25 0 ((8 * v2) + v3).toNatClampNeg) - r48)) (v1 + r48) v2 (v3 + 1)) else (none)) else (none))))
set_option maxRecDepth 20000 in
set_option maxHeartbeats 4000000 in
theorem R_X11_bare_L14 {e : Nat} {v2 : Int32} {K46 : ax_M → Int32 → Option (Int32 × ax_M)} (hK46 : ∀ (my : ax_M) (y1 : Int32) (q : (Int32 × ax_M)), K46 my y1 = some q → ax_Ru (e + 11) L_X11_bare 46 [some (.inr (.inr (22, 0))), some (.inl y1), some (.inl v2), none, none] [] my (some (.inl q.1), q.2)) : ∀ (n : Nat) (m : ax_M) (v1 : Int32) (v3 : Int32) (q : (Int32 × ax_M)), F_X11_bare_L14 n K46 m v1 v2 v3 = some q → ax_Ru (e + 11) L_X11_bare 14 [some (.inr (.inr (22, 0))), some (.inl v1), some (.inl v2), some (.inl v3), none] [] m (some (.inl q.1), q.2) := by
  intro n
  induction n with
  | zero =>
    intro m v1 v3 q h
    cases h
  | succ n ih =>
    intro m v1 v3 q h
    rw [F_X11_bare_L14] at h
    have s39 : ∀ n, ax_ex (e + 11) L_X11_bare 14 [some (.inr (.inr (22, 0))), some (.inl v1), some (.inl v2), some (.inl v3), none] [] m (n + 4) = if (m.1 22 0 1) ≤ v3 then ax_ex (e + 11) L_X11_bare 46 [some (.inr (.inr (22, 0))), some (.inl v1), some (.inl v2), some (.inl v3), none] [] m n else ax_ex (e + 11) L_X11_bare 18 [some (.inr (.inr (22, 0))), some (.inl v1), some (.inl v2), some (.inl v3), none] [] m n := fun n => rfl
    by_cases c38 : (m.1 22 0 1) ≤ v3
    · rw [if_pos c38] at h
      refine ax_gt c38 s39 ?_
      exact ax_fg (lv2 := [some (.inr (.inr (22, 0))), some (.inl v1), some (.inl v2), none, none]) ⟨rfl, rfl, rfl, trivial⟩ (hK46 m v1 _ h)
    · rw [if_neg c38] at h
      refine ax_gf c38 s39 ?_
      have s41 : ∀ n, ax_ex (e + 11) L_X11_bare 18 [some (.inr (.inr (22, 0))), some (.inl v1), some (.inl v2), some (.inl v3), none] [] m (n + 3) = if v2 = v3 then ax_ex (e + 11) L_X11_bare 21 [some (.inr (.inr (22, 0))), some (.inl v1), some (.inl v2), some (.inl v3), none] [] m n else ax_ex (e + 11) L_X11_bare 23 [some (.inr (.inr (22, 0))), some (.inl v1), some (.inl v2), some (.inl v3), none] [] m n := fun n => rfl
      by_cases c40 : v2 = v3
      · rw [if_pos c40] at h
        refine ax_gt c40 s41 ?_
        refine ax_go (j := 15) (k2 := 40) (lv2 := [some (.inr (.inr (22, 0))), some (.inl (v1 + 0)), some (.inl v2), some (.inl v3), some (.inl 0)]) (st2 := [.inl ((8 * v2) + v3), .inr (.inr (25, 0)), .inl ((8 * v2) + v3), .inr (.inr (25, 0))]) (m2 := m) (fun n => rfl) ?_
        obtain ⟨y42, hy42⟩ : ∃ y : Int32, y = ((8 * v2) + v3) := ⟨_, rfl⟩
        rw [← hy42] at h ⊢
        have s44 : ∀ n, ax_ex (e + 11) L_X11_bare 40 [some (.inr (.inr (22, 0))), some (.inl (v1 + 0)), some (.inl v2), some (.inl v3), some (.inl 0)] [.inl y42, .inr (.inr (25, 0)), .inl y42, .inr (.inr (25, 0))] m (n + 1) = if ax_ok y42 64 = true then ax_ex (e + 11) L_X11_bare 41 [some (.inr (.inr (22, 0))), some (.inl (v1 + 0)), some (.inl v2), some (.inl v3), some (.inl 0)] [.inl (m.1 25 0 y42.toNatClampNeg), .inl y42, .inr (.inr (25, 0))] m n else none := fun n => rfl
        by_cases c43 : ax_ok y42 64 = true
        · rw [if_pos c43] at h
          refine ax_gt c43 s44 ?_
          have s46 : ∀ n, ax_ex (e + 11) L_X11_bare 41 [some (.inr (.inr (22, 0))), some (.inl (v1 + 0)), some (.inl v2), some (.inl v3), some (.inl 0)] [.inl (m.1 25 0 y42.toNatClampNeg), .inl y42, .inr (.inr (25, 0))] m (n + 3) = if ax_ok y42 64 = true then ax_ex (e + 11) L_X11_bare 44 [some (.inr (.inr (22, 0))), some (.inl (v1 + 0)), some (.inl v2), some (.inl v3), some (.inl 0)] [] (ax_ui m 25 0 y42.toNatClampNeg ((m.1 25 0 y42.toNatClampNeg) - 0)) n else none := fun n => rfl
          by_cases c45 : ax_ok y42 64 = true
          · rw [if_pos c45] at h
            refine ax_gt c45 s46 ?_
            refine ax_go (j := 2) (k2 := 14) (lv2 := [some (.inr (.inr (22, 0))), some (.inl (v1 + 0)), some (.inl v2), some (.inl (v3 + 1)), some (.inl 0)]) (st2 := []) (m2 := (ax_ui m 25 0 y42.toNatClampNeg ((m.1 25 0 y42.toNatClampNeg) - 0))) (fun n => rfl) ?_
            exact ax_fg (lv2 := [some (.inr (.inr (22, 0))), some (.inl (v1 + 0)), some (.inl v2), some (.inl (v3 + 1)), none]) ⟨rfl, rfl, rfl, rfl, trivial⟩ (ih (ax_ui m 25 0 y42.toNatClampNeg ((m.1 25 0 y42.toNatClampNeg) - 0)) (v1 + 0) (v3 + 1) _ h)
          · rw [if_neg c45] at h
            cases h
        · rw [if_neg c43] at h
          cases h
      · rw [if_neg c40] at h
        refine ax_gf c40 s41 ?_
        obtain ⟨r48, q47, h⟩ := ax_b_of h
        have s54 : ∀ n, ax_ex (e + 11) L_X11_bare 23 [some (.inr (.inr (22, 0))), some (.inl v1), some (.inl v2), some (.inl v3), none] [] m (n + 4) = ax_aft (fun s m2 => ax_ex (e + 11) L_X11_bare 27 [some (.inr (.inr (22, 0))), some (.inl v1), some (.inl v2), some (.inl v3), none] s m2 n) [] (ax_ex (e + 10) L_X11_dueOf 0 (ax_entry [.inr (.inr (22, 0)), .inl v2, .inl v3] 6) [] m n) := fun n => rfl
        refine ax_gci (j := 4) (k2 := 27) (lv2 := [some (.inr (.inr (22, 0))), some (.inl v1), some (.inl v2), some (.inl v3), none]) (rest := []) ((R_X11_dueOf (by omega) q47)) s54 ?_
        refine ax_go (j := 13) (k2 := 40) (lv2 := [some (.inr (.inr (22, 0))), some (.inl (v1 + r48)), some (.inl v2), some (.inl v3), some (.inl r48)]) (st2 := [.inl ((8 * v2) + v3), .inr (.inr (25, 0)), .inl ((8 * v2) + v3), .inr (.inr (25, 0))]) (m2 := m) (fun n => rfl) ?_
        obtain ⟨y49, hy49⟩ : ∃ y : Int32, y = ((8 * v2) + v3) := ⟨_, rfl⟩
        rw [← hy49] at h ⊢
        have s51 : ∀ n, ax_ex (e + 11) L_X11_bare 40 [some (.inr (.inr (22, 0))), some (.inl (v1 + r48)), some (.inl v2), some (.inl v3), some (.inl r48)] [.inl y49, .inr (.inr (25, 0)), .inl y49, .inr (.inr (25, 0))] m (n + 1) = if ax_ok y49 64 = true then ax_ex (e + 11) L_X11_bare 41 [some (.inr (.inr (22, 0))), some (.inl (v1 + r48)), some (.inl v2), some (.inl v3), some (.inl r48)] [.inl (m.1 25 0 y49.toNatClampNeg), .inl y49, .inr (.inr (25, 0))] m n else none := fun n => rfl
        by_cases c50 : ax_ok y49 64 = true
        · rw [if_pos c50] at h
          refine ax_gt c50 s51 ?_
          have s53 : ∀ n, ax_ex (e + 11) L_X11_bare 41 [some (.inr (.inr (22, 0))), some (.inl (v1 + r48)), some (.inl v2), some (.inl v3), some (.inl r48)] [.inl (m.1 25 0 y49.toNatClampNeg), .inl y49, .inr (.inr (25, 0))] m (n + 3) = if ax_ok y49 64 = true then ax_ex (e + 11) L_X11_bare 44 [some (.inr (.inr (22, 0))), some (.inl (v1 + r48)), some (.inl v2), some (.inl v3), some (.inl r48)] [] (ax_ui m 25 0 y49.toNatClampNeg ((m.1 25 0 y49.toNatClampNeg) - r48)) n else none := fun n => rfl
          by_cases c52 : ax_ok y49 64 = true
          · rw [if_pos c52] at h
            refine ax_gt c52 s53 ?_
            refine ax_go (j := 2) (k2 := 14) (lv2 := [some (.inr (.inr (22, 0))), some (.inl (v1 + r48)), some (.inl v2), some (.inl (v3 + 1)), some (.inl r48)]) (st2 := []) (m2 := (ax_ui m 25 0 y49.toNatClampNeg ((m.1 25 0 y49.toNatClampNeg) - r48))) (fun n => rfl) ?_
            exact ax_fg (lv2 := [some (.inr (.inr (22, 0))), some (.inl (v1 + r48)), some (.inl v2), some (.inl (v3 + 1)), none]) ⟨rfl, rfl, rfl, rfl, trivial⟩ (ih (ax_ui m 25 0 y49.toNatClampNeg ((m.1 25 0 y49.toNatClampNeg) - r48)) (v1 + r48) (v3 + 1) _ h)
          · rw [if_neg c52] at h
            cases h
        · rw [if_neg c50] at h
          cases h
def F_X11_bare_L8 : Nat → ax_M → Int32 → Int32 → Option (Int32 × ax_M)
  | 0, _, _, _ => none
  | n + 1, m, v1, v2 => if (m.1 22 0 1) ≤ v2 then (ax_b (F_X11_upOf m (-1)) (fun r7 => if r7 = 0 then (ax_b (F_X11_again_36 m) (fun m12 => some (v1, m12))) else (ax_b (F_X11_again_36 m) (fun m17 => some ((-1), m17))))) else (F_X11_bare_L14 ax_FU (fun m56 y55 => F_X11_bare_L8 n m56 y55 (v2 + 1)) m v1 v2 0)
set_option maxRecDepth 20000 in
set_option maxHeartbeats 4000000 in
theorem R_X11_bare_L8 {e : Nat} : ∀ (n : Nat) (m : ax_M) (v1 : Int32) (v2 : Int32) (q : (Int32 × ax_M)), F_X11_bare_L8 n m v1 v2 = some q → ax_Ru (e + 11) L_X11_bare 8 [some (.inr (.inr (22, 0))), some (.inl v1), some (.inl v2), none, none] [] m (some (.inl q.1), q.2) := by
  intro n
  induction n with
  | zero =>
    intro m v1 v2 q h
    cases h
  | succ n ih =>
    intro m v1 v2 q h
    rw [F_X11_bare_L8] at h
    have s5 : ∀ n, ax_ex (e + 11) L_X11_bare 8 [some (.inr (.inr (22, 0))), some (.inl v1), some (.inl v2), none, none] [] m (n + 4) = if (m.1 22 0 1) ≤ v2 then ax_ex (e + 11) L_X11_bare 48 [some (.inr (.inr (22, 0))), some (.inl v1), some (.inl v2), none, none] [] m n else ax_ex (e + 11) L_X11_bare 12 [some (.inr (.inr (22, 0))), some (.inl v1), some (.inl v2), none, none] [] m n := fun n => rfl
    by_cases c4 : (m.1 22 0 1) ≤ v2
    · rw [if_pos c4] at h
      refine ax_gt c4 s5 ?_
      obtain ⟨r7, q6, h⟩ := ax_b_of h
      have s20 : ∀ n, ax_ex (e + 11) L_X11_bare 48 [some (.inr (.inr (22, 0))), some (.inl v1), some (.inl v2), none, none] [] m (n + 3) = ax_aft (fun s m2 => ax_ex (e + 11) L_X11_bare 51 [some (.inr (.inr (22, 0))), some (.inl v1), some (.inl v2), none, none] s m2 n) [] (ax_ex (e + 10) L_X11_upOf 0 (ax_entry [.inr (.inr (22, 0)), .inl (-1)] 4) [] m n) := fun n => rfl
      refine ax_gci (j := 3) (k2 := 51) (lv2 := [some (.inr (.inr (22, 0))), some (.inl v1), some (.inl v2), none, none]) (rest := []) ((R_X11_upOf (by omega) q6)) s20 ?_
      have s9 : ∀ n, ax_ex (e + 11) L_X11_bare 51 [some (.inr (.inr (22, 0))), some (.inl v1), some (.inl v2), none, none] [.inl r7] m (n + 1) = if r7 = 0 then ax_ex (e + 11) L_X11_bare 52 [some (.inr (.inr (22, 0))), some (.inl v1), some (.inl v2), none, none] [] m n else ax_ex (e + 11) L_X11_bare 54 [some (.inr (.inr (22, 0))), some (.inl v1), some (.inl v2), none, none] [] m n := fun n => rfl
      by_cases c8 : r7 = 0
      · rw [if_pos c8] at h
        refine ax_gt c8 s9 ?_
        obtain ⟨m12, q10, h⟩ := ax_b_of h
        have s14 : ∀ n, ax_ex (e + 11) L_X11_bare 52 [some (.inr (.inr (22, 0))), some (.inl v1), some (.inl v2), none, none] [] m (n + 7) = ax_aft (fun s m2 => ax_ex (e + 11) L_X11_bare 60 [some (.inr (.inr (22, 0))), some (.inl v1), some (.inl 1), none, none] s m2 n) [] (ax_ex (e + 10) L_X11_again 0 (ax_entry [.inr (.inr (22, 0)), .inr (.inr (36, 0))] 3) [] m n) := fun n => rfl
        refine ax_gcv (j := 7) (k2 := 60) (lv2 := [some (.inr (.inr (22, 0))), some (.inl v1), some (.inl 1), none, none]) (rest := []) ((R_X11_again_36 (by omega) q10)) s14 ?_
        have s13 : ∀ n, ax_ex (e + 11) L_X11_bare 60 [some (.inr (.inr (22, 0))), some (.inl v1), some (.inl 1), none, none] [] m12 (n + 2) = if (1 : Int32) = 0 then ax_ex (e + 11) L_X11_bare 64 [some (.inr (.inr (22, 0))), some (.inl v1), some (.inl 1), none, none] [] m12 n else ax_ex (e + 11) L_X11_bare 62 [some (.inr (.inr (22, 0))), some (.inl v1), some (.inl 1), none, none] [] m12 n := fun n => rfl
        refine ax_gf (by decide) s13 ?_
        obtain rfl := Option.some.inj h
        exact ax_rs 3 (fun n => rfl)
      · rw [if_neg c8] at h
        refine ax_gf c8 s9 ?_
        obtain ⟨m17, q15, h⟩ := ax_b_of h
        have s19 : ∀ n, ax_ex (e + 11) L_X11_bare 54 [some (.inr (.inr (22, 0))), some (.inl v1), some (.inl v2), none, none] [] m (n + 6) = ax_aft (fun s m2 => ax_ex (e + 11) L_X11_bare 60 [some (.inr (.inr (22, 0))), some (.inl v1), some (.inl 0), none, none] s m2 n) [] (ax_ex (e + 10) L_X11_again 0 (ax_entry [.inr (.inr (22, 0)), .inr (.inr (36, 0))] 3) [] m n) := fun n => rfl
        refine ax_gcv (j := 6) (k2 := 60) (lv2 := [some (.inr (.inr (22, 0))), some (.inl v1), some (.inl 0), none, none]) (rest := []) ((R_X11_again_36 (by omega) q15)) s19 ?_
        have s18 : ∀ n, ax_ex (e + 11) L_X11_bare 60 [some (.inr (.inr (22, 0))), some (.inl v1), some (.inl 0), none, none] [] m17 (n + 2) = if (0 : Int32) = 0 then ax_ex (e + 11) L_X11_bare 64 [some (.inr (.inr (22, 0))), some (.inl v1), some (.inl 0), none, none] [] m17 n else ax_ex (e + 11) L_X11_bare 62 [some (.inr (.inr (22, 0))), some (.inl v1), some (.inl 0), none, none] [] m17 n := fun n => rfl
        refine ax_gt (by decide) s18 ?_
        obtain rfl := Option.some.inj h
        exact ax_rs 2 (fun n => rfl)
    · rw [if_neg c4] at h
      refine ax_gf c4 s5 ?_
      refine ax_go (j := 2) (k2 := 14) (lv2 := [some (.inr (.inr (22, 0))), some (.inl v1), some (.inl v2), some (.inl 0), none]) (st2 := []) (m2 := m) (fun n => rfl) ?_
      refine ax_fg (lv2 := [some (.inr (.inr (22, 0))), some (.inl v1), some (.inl v2), some (.inl 0), none]) ⟨rfl, rfl, rfl, rfl, trivial⟩ ?_
      refine R_X11_bare_L14 ?_ _ m v1 0 _ h
      · intro m56 y55 q h
        refine ax_go (j := 2) (k2 := 8) (lv2 := [some (.inr (.inr (22, 0))), some (.inl y55), some (.inl (v2 + 1)), none, none]) (st2 := []) (m2 := m56) (fun n => rfl) ?_
        exact ax_fg (lv2 := [some (.inr (.inr (22, 0))), some (.inl y55), some (.inl (v2 + 1)), none, none]) ⟨rfl, rfl, rfl, trivial⟩ (ih m56 y55 (v2 + 1) _ h)
def F_X11_bare (m : ax_M) : Option (Int32 × ax_M) := ax_b (F_X11_keep_36 m) (fun m3 => F_X11_bare_L8 ax_FU m3 0 0)
set_option maxRecDepth 20000 in
set_option maxHeartbeats 4000000 in
theorem R_X11_bare {d : Nat} (hd : 11 ≤ d) {m : ax_M} {q : (Int32 × ax_M)} (h : F_X11_bare m = some q) : ax_Ru d L_X11_bare 0 (ax_entry [.inr (.inr (22, 0))] 5) [] m (some (.inl q.1), q.2) := by
  obtain ⟨e, rfl⟩ : ∃ e, d = e + 11 := ⟨d - 11, by omega⟩
  unfold F_X11_bare at h
  obtain ⟨m3, q1, h⟩ := ax_b_of h
  have s59 : ∀ n, ax_ex (e + 11) L_X11_bare 0 (ax_entry [.inr (.inr (22, 0))] 5) [] m (n + 4) = ax_aft (fun s m2 => ax_ex (e + 11) L_X11_bare 4 [some (.inr (.inr (22, 0))), none, none, none, none] s m2 n) [] (ax_ex (e + 10) L_X11_keep 0 (ax_entry [.inr (.inr (22, 0)), .inr (.inr (36, 0))] 3) [] m n) := fun n => rfl
  refine ax_gcv (j := 4) (k2 := 4) (lv2 := [some (.inr (.inr (22, 0))), none, none, none, none]) (rest := []) ((R_X11_keep_36 (by omega) q1)) s59 ?_
  refine ax_go (j := 4) (k2 := 8) (lv2 := [some (.inr (.inr (22, 0))), some (.inl 0), some (.inl 0), none, none]) (st2 := []) (m2 := m3) (fun n => rfl) ?_
  refine ax_fg (lv2 := [some (.inr (.inr (22, 0))), some (.inl 0), some (.inl 0), none, none]) ⟨rfl, rfl, rfl, trivial⟩ ?_
  refine R_X11_bare_L8 _ m3 0 0 _ h
def F_X11_net (m : ax_M) (v1 : Int32) : Option (Int32 × ax_M) := ax_b (F_X11_isOne m v1) (fun r2 => if r2 = 0 then (ax_b2 (F_X11_no m (-2)) (fun r6 m7 => some ((-1000002), m7))) else (ax_b (F_X11_netOf m v1) (fun r10 => some (r10, m))))
set_option maxRecDepth 20000 in
set_option maxHeartbeats 4000000 in
theorem R_X11_net {d : Nat} (hd : 3 ≤ d) {m : ax_M} {v1 : Int32} {q : (Int32 × ax_M)} (h : F_X11_net m v1 = some q) : ax_Ru d L_X11_net 0 (ax_entry [.inr (.inr (22, 0)), .inl v1] 2) [] m (some (.inl q.1), q.2) := by
  obtain ⟨e, rfl⟩ : ∃ e, d = e + 3 := ⟨d - 3, by omega⟩
  unfold F_X11_net at h
  obtain ⟨r2, q1, h⟩ := ax_b_of h
  have s12 : ∀ n, ax_ex (e + 3) L_X11_net 0 (ax_entry [.inr (.inr (22, 0)), .inl v1] 2) [] m (n + 3) = ax_aft (fun s m2 => ax_ex (e + 3) L_X11_net 3 [some (.inr (.inr (22, 0))), some (.inl v1)] s m2 n) [] (ax_ex (e + 2) L_X11_isOne 0 (ax_entry [.inr (.inr (22, 0)), .inl v1] 2) [] m n) := fun n => rfl
  refine ax_gci (j := 3) (k2 := 3) (lv2 := [some (.inr (.inr (22, 0))), some (.inl v1)]) (rest := []) ((R_X11_isOne (by omega) q1)) s12 ?_
  have s4 : ∀ n, ax_ex (e + 3) L_X11_net 3 [some (.inr (.inr (22, 0))), some (.inl v1)] [.inl r2] m (n + 1) = if r2 = 0 then ax_ex (e + 3) L_X11_net 8 [some (.inr (.inr (22, 0))), some (.inl v1)] [] m n else ax_ex (e + 3) L_X11_net 4 [some (.inr (.inr (22, 0))), some (.inl v1)] [] m n := fun n => rfl
  by_cases c3 : r2 = 0
  · rw [if_pos c3] at h
    refine ax_gt c3 s4 ?_
    obtain ⟨r6, m7, q5, h⟩ := ax_b2_of h
    have s8 : ∀ n, ax_ex (e + 3) L_X11_net 8 [some (.inr (.inr (22, 0))), some (.inl v1)] [] m (n + 3) = ax_aft (fun s m2 => ax_ex (e + 3) L_X11_net 11 [some (.inr (.inr (22, 0))), some (.inl v1)] s m2 n) [] (ax_ex (e + 2) L_X11_no 0 (ax_entry [.inr (.inr (22, 0)), .inl (-2)] 2) [] m n) := fun n => rfl
    refine ax_gci (j := 3) (k2 := 11) (lv2 := [some (.inr (.inr (22, 0))), some (.inl v1)]) (rest := []) ((R_X11_no (by omega) q5)) s8 ?_
    obtain rfl := Option.some.inj h
    exact ax_rs 3 (fun n => rfl)
  · rw [if_neg c3] at h
    refine ax_gf c3 s4 ?_
    obtain ⟨r10, q9, h⟩ := ax_b_of h
    have s11 : ∀ n, ax_ex (e + 3) L_X11_net 4 [some (.inr (.inr (22, 0))), some (.inl v1)] [] m (n + 3) = ax_aft (fun s m2 => ax_ex (e + 3) L_X11_net 7 [some (.inr (.inr (22, 0))), some (.inl v1)] s m2 n) [] (ax_ex (e + 2) L_X11_netOf 0 (ax_entry [.inr (.inr (22, 0)), .inl v1] 2) [] m n) := fun n => rfl
    refine ax_gci (j := 3) (k2 := 7) (lv2 := [some (.inr (.inr (22, 0))), some (.inl v1)]) (rest := []) ((R_X11_netOf (by omega) q9)) s11 ?_
    obtain rfl := Option.some.inj h
    exact ax_rs 1 (fun n => rfl)
def F_X11_mutual_L10 : Nat → (Int32 → Option Int32) → ax_M → Int32 → Int32 → Int32 → Option Int32
  | 0, _, _, _, _, _ => none
  | n + 1, K35, m, v1, v2, v3 => if v2 ≤ v3 then (K35 v1) else (if ax_ok ((8 * v2) + v3) 64 = true then (if ax_ok ((8 * v3) + v2) 64 = true then (F_X11_mutual_L10 n K35 m (v1 + (ax_min (m.1 25 0 ((8 * v2) + v3).toNatClampNeg) (m.1 25 0 ((8 * v3) + v2).toNatClampNeg))) v2 (v3 + 1)) else (none)) else (none))
set_option maxRecDepth 20000 in
set_option maxHeartbeats 4000000 in
theorem R_X11_mutual_L10 {e : Nat} {m : ax_M} {v2 : Int32} {K35 : Int32 → Option Int32} (hK35 : ∀ (y1 : Int32) (q : Int32), K35 y1 = some q → ax_Ru (e + 6) L_X11_mutual 35 [some (.inr (.inr (22, 0))), some (.inl y1), some (.inl v2), none] [] m (some (.inl q), m)) : ∀ (n : Nat) (v1 : Int32) (v3 : Int32) (q : Int32), F_X11_mutual_L10 n K35 m v1 v2 v3 = some q → ax_Ru (e + 6) L_X11_mutual 10 [some (.inr (.inr (22, 0))), some (.inl v1), some (.inl v2), some (.inl v3)] [] m (some (.inl q), m) := by
  intro n
  induction n with
  | zero =>
    intro v1 v3 q h
    cases h
  | succ n ih =>
    intro v1 v3 q h
    rw [F_X11_mutual_L10] at h
    have s12 : ∀ n, ax_ex (e + 6) L_X11_mutual 10 [some (.inr (.inr (22, 0))), some (.inl v1), some (.inl v2), some (.inl v3)] [] m (n + 3) = if v2 ≤ v3 then ax_ex (e + 6) L_X11_mutual 35 [some (.inr (.inr (22, 0))), some (.inl v1), some (.inl v2), some (.inl v3)] [] m n else ax_ex (e + 6) L_X11_mutual 13 [some (.inr (.inr (22, 0))), some (.inl v1), some (.inl v2), some (.inl v3)] [] m n := fun n => rfl
    by_cases c11 : v2 ≤ v3
    · rw [if_pos c11] at h
      refine ax_gt c11 s12 ?_
      exact ax_fg (lv2 := [some (.inr (.inr (22, 0))), some (.inl v1), some (.inl v2), none]) ⟨rfl, rfl, rfl, trivial⟩ (hK35 v1 _ h)
    · rw [if_neg c11] at h
      refine ax_gf c11 s12 ?_
      refine ax_go (j := 8) (k2 := 21) (lv2 := [some (.inr (.inr (22, 0))), some (.inl v1), some (.inl v2), some (.inl v3)]) (st2 := [.inl ((8 * v2) + v3), .inr (.inr (25, 0)), .inl v1]) (m2 := m) (fun n => rfl) ?_
      obtain ⟨y13, hy13⟩ : ∃ y : Int32, y = ((8 * v2) + v3) := ⟨_, rfl⟩
      rw [← hy13] at h ⊢
      have s15 : ∀ n, ax_ex (e + 6) L_X11_mutual 21 [some (.inr (.inr (22, 0))), some (.inl v1), some (.inl v2), some (.inl v3)] [.inl y13, .inr (.inr (25, 0)), .inl v1] m (n + 1) = if ax_ok y13 64 = true then ax_ex (e + 6) L_X11_mutual 22 [some (.inr (.inr (22, 0))), some (.inl v1), some (.inl v2), some (.inl v3)] [.inl (m.1 25 0 y13.toNatClampNeg), .inl v1] m n else none := fun n => rfl
      by_cases c14 : ax_ok y13 64 = true
      · rw [if_pos c14] at h
        refine ax_gt c14 s15 ?_
        refine ax_go (j := 7) (k2 := 29) (lv2 := [some (.inr (.inr (22, 0))), some (.inl v1), some (.inl v2), some (.inl v3)]) (st2 := [.inl ((8 * v3) + v2), .inr (.inr (25, 0)), .inl (m.1 25 0 y13.toNatClampNeg), .inl v1]) (m2 := m) (fun n => rfl) ?_
        obtain ⟨y16, hy16⟩ : ∃ y : Int32, y = ((8 * v3) + v2) := ⟨_, rfl⟩
        rw [← hy16] at h ⊢
        have s18 : ∀ n, ax_ex (e + 6) L_X11_mutual 29 [some (.inr (.inr (22, 0))), some (.inl v1), some (.inl v2), some (.inl v3)] [.inl y16, .inr (.inr (25, 0)), .inl (m.1 25 0 y13.toNatClampNeg), .inl v1] m (n + 1) = if ax_ok y16 64 = true then ax_ex (e + 6) L_X11_mutual 30 [some (.inr (.inr (22, 0))), some (.inl v1), some (.inl v2), some (.inl v3)] [.inl (m.1 25 0 y16.toNatClampNeg), .inl (m.1 25 0 y13.toNatClampNeg), .inl v1] m n else none := fun n => rfl
        by_cases c17 : ax_ok y16 64 = true
        · rw [if_pos c17] at h
          refine ax_gt c17 s18 ?_
          refine ax_go (j := 5) (k2 := 10) (lv2 := [some (.inr (.inr (22, 0))), some (.inl (v1 + (ax_min (m.1 25 0 y13.toNatClampNeg) (m.1 25 0 y16.toNatClampNeg)))), some (.inl v2), some (.inl (v3 + 1))]) (st2 := []) (m2 := m) (fun n => rfl) ?_
          exact ax_fg (lv2 := [some (.inr (.inr (22, 0))), some (.inl (v1 + (ax_min (m.1 25 0 y13.toNatClampNeg) (m.1 25 0 y16.toNatClampNeg)))), some (.inl v2), some (.inl (v3 + 1))]) ⟨rfl, rfl, rfl, rfl, trivial⟩ (ih (v1 + (ax_min (m.1 25 0 y13.toNatClampNeg) (m.1 25 0 y16.toNatClampNeg))) (v3 + 1) _ h)
        · rw [if_neg c17] at h
          cases h
      · rw [if_neg c14] at h
        cases h
def F_X11_mutual_L4 : Nat → ax_M → Int32 → Int32 → Option Int32
  | 0, _, _, _ => none
  | n + 1, m, v1, v2 => if (m.1 22 0 1) ≤ v2 then (some v1) else (F_X11_mutual_L10 ax_FU (fun y19 => F_X11_mutual_L4 n m y19 (v2 + 1)) m v1 v2 0)
set_option maxRecDepth 20000 in
set_option maxHeartbeats 4000000 in
theorem R_X11_mutual_L4 {e : Nat} {m : ax_M} : ∀ (n : Nat) (v1 : Int32) (v2 : Int32) (q : Int32), F_X11_mutual_L4 n m v1 v2 = some q → ax_Ru (e + 6) L_X11_mutual 4 [some (.inr (.inr (22, 0))), some (.inl v1), some (.inl v2), none] [] m (some (.inl q), m) := by
  intro n
  induction n with
  | zero =>
    intro v1 v2 q h
    cases h
  | succ n ih =>
    intro v1 v2 q h
    rw [F_X11_mutual_L4] at h
    have s2 : ∀ n, ax_ex (e + 6) L_X11_mutual 4 [some (.inr (.inr (22, 0))), some (.inl v1), some (.inl v2), none] [] m (n + 4) = if (m.1 22 0 1) ≤ v2 then ax_ex (e + 6) L_X11_mutual 37 [some (.inr (.inr (22, 0))), some (.inl v1), some (.inl v2), none] [] m n else ax_ex (e + 6) L_X11_mutual 8 [some (.inr (.inr (22, 0))), some (.inl v1), some (.inl v2), none] [] m n := fun n => rfl
    by_cases c1 : (m.1 22 0 1) ≤ v2
    · rw [if_pos c1] at h
      refine ax_gt c1 s2 ?_
      obtain rfl := Option.some.inj h
      exact ax_rs 2 (fun n => rfl)
    · rw [if_neg c1] at h
      refine ax_gf c1 s2 ?_
      refine ax_go (j := 2) (k2 := 10) (lv2 := [some (.inr (.inr (22, 0))), some (.inl v1), some (.inl v2), some (.inl 0)]) (st2 := []) (m2 := m) (fun n => rfl) ?_
      refine ax_fg (lv2 := [some (.inr (.inr (22, 0))), some (.inl v1), some (.inl v2), some (.inl 0)]) ⟨rfl, rfl, rfl, rfl, trivial⟩ ?_
      refine R_X11_mutual_L10 ?_ _ v1 0 _ h
      · intro y19 q h
        refine ax_go (j := 2) (k2 := 4) (lv2 := [some (.inr (.inr (22, 0))), some (.inl y19), some (.inl (v2 + 1)), none]) (st2 := []) (m2 := m) (fun n => rfl) ?_
        exact ax_fg (lv2 := [some (.inr (.inr (22, 0))), some (.inl y19), some (.inl (v2 + 1)), none]) ⟨rfl, rfl, rfl, trivial⟩ (ih y19 (v2 + 1) _ h)
def F_X11_mutual (m : ax_M) : Option Int32 := F_X11_mutual_L4 ax_FU m 0 0
set_option maxRecDepth 20000 in
set_option maxHeartbeats 4000000 in
theorem R_X11_mutual {d : Nat} (hd : 6 ≤ d) {m : ax_M} {q : Int32} (h : F_X11_mutual m = some q) : ax_Ru d L_X11_mutual 0 (ax_entry [.inr (.inr (22, 0))] 4) [] m (some (.inl q), m) := by
  obtain ⟨e, rfl⟩ : ∃ e, d = e + 6 := ⟨d - 6, by omega⟩
  unfold F_X11_mutual at h
  refine ax_go (j := 4) (k2 := 4) (lv2 := [some (.inr (.inr (22, 0))), some (.inl 0), some (.inl 0), none]) (st2 := []) (m2 := m) (fun n => rfl) ?_
  refine ax_fg (lv2 := [some (.inr (.inr (22, 0))), some (.inl 0), some (.inl 0), none]) ⟨rfl, rfl, rfl, trivial⟩ ?_
  refine R_X11_mutual_L4 _ 0 0 _ h
def F_X11_rings_L33 (rec : ax_M → Int32 → Int32 → Int32 → Option (Int32 × ax_M)) : Nat → ax_M → Int32 → Int32 → Int32 → Int32 → Int32 → Option (Int32 × ax_M)
  | 0, _, _, _, _, _, _ => none
  | n + 1, m, v1, v2, v3, v4, v5 => if (m.1 22 0 1) ≤ v5 then (some (0, m)) else (if ((ax_ishr v3 v5) &&& 1) = 1 then (F_X11_rings_L33 rec n m v1 v2 v3 v4 (v5 + 1)) else (if ax_ok ((8 * v4) + v5) 64 = true then (if (m.1 25 0 ((8 * v4) + v5).toNatClampNeg) = 0 then (F_X11_rings_L33 rec n m v1 v2 v3 v4 (v5 + 1)) else (if ax_ok v2 8 = true then (ax_b2 (rec (ax_ui m 38 0 v2.toNatClampNeg v5) v1 (v2 + 1) (v3 ||| (ax_ishl 1 v5))) (fun r28 m29 => if r28 = 0 then (F_X11_rings_L33 rec n m29 v1 v2 v3 v4 (v5 + 1)) else (some (1, m29)))) else (none))) else (none)))
set_option maxRecDepth 20000 in
set_option maxHeartbeats 4000000 in
theorem R_X11_rings_L33 {e : Nat} {B : Nat} (hB : B + 1 ≤ e + 1) {rec : ax_M → Int32 → Int32 → Int32 → Option (Int32 × ax_M)} (hrec : ∀ (d : Nat), B ≤ d → ∀ (m : ax_M) (v1 : Int32) (v2 : Int32) (v3 : Int32) (q : (Int32 × ax_M)), rec m v1 v2 v3 = some q → ax_Ru d L_X11_rings 0 (ax_entry [.inr (.inr (22, 0)), .inl v1, .inl v2, .inl v3] 6) [] m (some (.inl q.1), q.2)) {v1 : Int32} {v2 : Int32} {v3 : Int32} {v4 : Int32} : ∀ (n : Nat) (m : ax_M) (v5 : Int32) (q : (Int32 × ax_M)), F_X11_rings_L33 rec n m v1 v2 v3 v4 v5 = some q → ax_Ru (e + 1) L_X11_rings 33 [some (.inr (.inr (22, 0))), some (.inl v1), some (.inl v2), some (.inl v3), some (.inl v4), some (.inl v5)] [] m (some (.inl q.1), q.2) := by
  intro n
  induction n with
  | zero =>
    intro m v5 q h
    cases h
  | succ n ih =>
    intro m v5 q h
    rw [F_X11_rings_L33] at h
    have s16 : ∀ n, ax_ex (e + 1) L_X11_rings 33 [some (.inr (.inr (22, 0))), some (.inl v1), some (.inl v2), some (.inl v3), some (.inl v4), some (.inl v5)] [] m (n + 4) = if (m.1 22 0 1) ≤ v5 then ax_ex (e + 1) L_X11_rings 75 [some (.inr (.inr (22, 0))), some (.inl v1), some (.inl v2), some (.inl v3), some (.inl v4), some (.inl v5)] [] m n else ax_ex (e + 1) L_X11_rings 37 [some (.inr (.inr (22, 0))), some (.inl v1), some (.inl v2), some (.inl v3), some (.inl v4), some (.inl v5)] [] m n := fun n => rfl
    by_cases c15 : (m.1 22 0 1) ≤ v5
    · rw [if_pos c15] at h
      refine ax_gt c15 s16 ?_
      obtain rfl := Option.some.inj h
      exact ax_rq (c := (0 : Int32) = 0 ∨ (0 : Int32) = 1) (j := 2) (by decide) (fun n => rfl)
    · rw [if_neg c15] at h
      refine ax_gf c15 s16 ?_
      refine ax_go (j := 6) (k2 := 43) (lv2 := [some (.inr (.inr (22, 0))), some (.inl v1), some (.inl v2), some (.inl v3), some (.inl v4), some (.inl v5)]) (st2 := [.inl 1, .inl ((ax_ishr v3 v5) &&& 1)]) (m2 := m) (fun n => rfl) ?_
      obtain ⟨y17, hy17⟩ : ∃ y : Int32, y = ((ax_ishr v3 v5) &&& 1) := ⟨_, rfl⟩
      rw [← hy17] at h ⊢
      have s19 : ∀ n, ax_ex (e + 1) L_X11_rings 43 [some (.inr (.inr (22, 0))), some (.inl v1), some (.inl v2), some (.inl v3), some (.inl v4), some (.inl v5)] [.inl 1, .inl y17] m (n + 1) = if y17 = 1 then ax_ex (e + 1) L_X11_rings 73 [some (.inr (.inr (22, 0))), some (.inl v1), some (.inl v2), some (.inl v3), some (.inl v4), some (.inl v5)] [] m n else ax_ex (e + 1) L_X11_rings 44 [some (.inr (.inr (22, 0))), some (.inl v1), some (.inl v2), some (.inl v3), some (.inl v4), some (.inl v5)] [] m n := fun n => rfl
      by_cases c18 : y17 = 1
      · rw [if_pos c18] at h
        refine ax_gt c18 s19 ?_
        refine ax_go (j := 2) (k2 := 33) (lv2 := [some (.inr (.inr (22, 0))), some (.inl v1), some (.inl v2), some (.inl v3), some (.inl v4), some (.inl (v5 + 1))]) (st2 := []) (m2 := m) (fun n => rfl) ?_
        exact ax_fg (lv2 := [some (.inr (.inr (22, 0))), some (.inl v1), some (.inl v2), some (.inl v3), some (.inl v4), some (.inl (v5 + 1))]) ⟨rfl, rfl, rfl, rfl, rfl, rfl, trivial⟩ (ih m (v5 + 1) _ h)
      · rw [if_neg c18] at h
        refine ax_gf c18 s19 ?_
        refine ax_go (j := 7) (k2 := 51) (lv2 := [some (.inr (.inr (22, 0))), some (.inl v1), some (.inl v2), some (.inl v3), some (.inl v4), some (.inl v5)]) (st2 := [.inl ((8 * v4) + v5), .inr (.inr (25, 0))]) (m2 := m) (fun n => rfl) ?_
        obtain ⟨y20, hy20⟩ : ∃ y : Int32, y = ((8 * v4) + v5) := ⟨_, rfl⟩
        rw [← hy20] at h ⊢
        have s22 : ∀ n, ax_ex (e + 1) L_X11_rings 51 [some (.inr (.inr (22, 0))), some (.inl v1), some (.inl v2), some (.inl v3), some (.inl v4), some (.inl v5)] [.inl y20, .inr (.inr (25, 0))] m (n + 1) = if ax_ok y20 64 = true then ax_ex (e + 1) L_X11_rings 52 [some (.inr (.inr (22, 0))), some (.inl v1), some (.inl v2), some (.inl v3), some (.inl v4), some (.inl v5)] [.inl (m.1 25 0 y20.toNatClampNeg)] m n else none := fun n => rfl
        by_cases c21 : ax_ok y20 64 = true
        · rw [if_pos c21] at h
          refine ax_gt c21 s22 ?_
          have s24 : ∀ n, ax_ex (e + 1) L_X11_rings 52 [some (.inr (.inr (22, 0))), some (.inl v1), some (.inl v2), some (.inl v3), some (.inl v4), some (.inl v5)] [.inl (m.1 25 0 y20.toNatClampNeg)] m (n + 1) = if (m.1 25 0 y20.toNatClampNeg) = 0 then ax_ex (e + 1) L_X11_rings 53 [some (.inr (.inr (22, 0))), some (.inl v1), some (.inl v2), some (.inl v3), some (.inl v4), some (.inl v5)] [] m n else ax_ex (e + 1) L_X11_rings 54 [some (.inr (.inr (22, 0))), some (.inl v1), some (.inl v2), some (.inl v3), some (.inl v4), some (.inl v5)] [] m n := fun n => rfl
          by_cases c23 : (m.1 25 0 y20.toNatClampNeg) = 0
          · rw [if_pos c23] at h
            refine ax_gt c23 s24 ?_
            refine ax_go (j := 3) (k2 := 33) (lv2 := [some (.inr (.inr (22, 0))), some (.inl v1), some (.inl v2), some (.inl v3), some (.inl v4), some (.inl (v5 + 1))]) (st2 := []) (m2 := m) (fun n => rfl) ?_
            exact ax_fg (lv2 := [some (.inr (.inr (22, 0))), some (.inl v1), some (.inl v2), some (.inl v3), some (.inl v4), some (.inl (v5 + 1))]) ⟨rfl, rfl, rfl, rfl, rfl, rfl, trivial⟩ (ih m (v5 + 1) _ h)
          · rw [if_neg c23] at h
            refine ax_gf c23 s24 ?_
            have s26 : ∀ n, ax_ex (e + 1) L_X11_rings 54 [some (.inr (.inr (22, 0))), some (.inl v1), some (.inl v2), some (.inl v3), some (.inl v4), some (.inl v5)] [] m (n + 5) = if ax_ok v2 8 = true then ax_ex (e + 1) L_X11_rings 59 [some (.inr (.inr (22, 0))), some (.inl v1), some (.inl v2), some (.inl v3), some (.inl v4), some (.inl v5)] [] (ax_ui m 38 0 v2.toNatClampNeg v5) n else none := fun n => rfl
            by_cases c25 : ax_ok v2 8 = true
            · rw [if_pos c25] at h
              refine ax_gt c25 s26 ?_
              obtain ⟨r28, m29, q27, h⟩ := ax_b2_of h
              have s32 : ∀ n, ax_ex (e + 1) L_X11_rings 59 [some (.inr (.inr (22, 0))), some (.inl v1), some (.inl v2), some (.inl v3), some (.inl v4), some (.inl v5)] [] (ax_ui m 38 0 v2.toNatClampNeg v5) (n + 11) = ax_aft (fun s m2 => ax_ex (e + 1) L_X11_rings 70 [some (.inr (.inr (22, 0))), some (.inl v1), some (.inl v2), some (.inl v3), some (.inl v4), some (.inl v5)] s m2 n) [] (ax_ex (e + 0) L_X11_rings 0 (ax_entry [.inr (.inr (22, 0)), .inl v1, .inl (v2 + 1), .inl (v3 ||| (ax_ishl 1 v5))] 6) [] (ax_ui m 38 0 v2.toNatClampNeg v5) n) := fun n => rfl
              refine ax_gci (j := 11) (k2 := 70) (lv2 := [some (.inr (.inr (22, 0))), some (.inl v1), some (.inl v2), some (.inl v3), some (.inl v4), some (.inl v5)]) (rest := []) (hrec (e + 0) (by omega) (ax_ui m 38 0 v2.toNatClampNeg v5) v1 (v2 + 1) (v3 ||| (ax_ishl 1 v5)) _ q27) s32 ?_
              have s31 : ∀ n, ax_ex (e + 1) L_X11_rings 70 [some (.inr (.inr (22, 0))), some (.inl v1), some (.inl v2), some (.inl v3), some (.inl v4), some (.inl v5)] [.inl r28] m29 (n + 1) = if r28 = 0 then ax_ex (e + 1) L_X11_rings 73 [some (.inr (.inr (22, 0))), some (.inl v1), some (.inl v2), some (.inl v3), some (.inl v4), some (.inl v5)] [] m29 n else ax_ex (e + 1) L_X11_rings 71 [some (.inr (.inr (22, 0))), some (.inl v1), some (.inl v2), some (.inl v3), some (.inl v4), some (.inl v5)] [] m29 n := fun n => rfl
              by_cases c30 : r28 = 0
              · rw [if_pos c30] at h
                refine ax_gt c30 s31 ?_
                refine ax_go (j := 2) (k2 := 33) (lv2 := [some (.inr (.inr (22, 0))), some (.inl v1), some (.inl v2), some (.inl v3), some (.inl v4), some (.inl (v5 + 1))]) (st2 := []) (m2 := m29) (fun n => rfl) ?_
                exact ax_fg (lv2 := [some (.inr (.inr (22, 0))), some (.inl v1), some (.inl v2), some (.inl v3), some (.inl v4), some (.inl (v5 + 1))]) ⟨rfl, rfl, rfl, rfl, rfl, rfl, trivial⟩ (ih m29 (v5 + 1) _ h)
              · rw [if_neg c30] at h
                refine ax_gf c30 s31 ?_
                obtain rfl := Option.some.inj h
                exact ax_rq (c := (1 : Int32) = 0 ∨ (1 : Int32) = 1) (j := 2) (by decide) (fun n => rfl)
            · rw [if_neg c25] at h
              cases h
        · rw [if_neg c21] at h
          cases h
def F_X11_rings : Nat → ax_M → Int32 → Int32 → Int32 → Option (Int32 × ax_M)
  | 0, _, _, _, _ => none
  | i + 1, m, v1, v2, v3 => if ax_ok (v2 - 1) 8 = true then (if v2 = v1 then (if ax_ok 0 8 = true then (if ax_ok ((8 * (m.1 38 0 (v2 - 1).toNatClampNeg)) + (m.1 38 0 (0 : Int32).toNatClampNeg)) 64 = true then (if (m.1 25 0 ((8 * (m.1 38 0 (v2 - 1).toNatClampNeg)) + (m.1 38 0 (0 : Int32).toNatClampNeg)).toNatClampNeg) ≤ 0 then (some (0, m)) else (some (1, m))) else (none)) else (none)) else (if ax_ok 0 8 = true then (F_X11_rings_L33 (F_X11_rings i) ax_FU m v1 v2 v3 (m.1 38 0 (v2 - 1).toNatClampNeg) ((m.1 38 0 (0 : Int32).toNatClampNeg) + 1)) else (none))) else (none)
set_option maxRecDepth 20000 in
set_option maxHeartbeats 4000000 in
theorem R_X11_rings : ∀ (i d : Nat), i + 1 ≤ d → ∀ (m : ax_M) (v1 : Int32) (v2 : Int32) (v3 : Int32) (q : (Int32 × ax_M)), F_X11_rings i m v1 v2 v3 = some q → ax_Ru d L_X11_rings 0 (ax_entry [.inr (.inr (22, 0)), .inl v1, .inl v2, .inl v3] 6) [] m (some (.inl q.1), q.2) := by
  intro i
  induction i with
  | zero =>
    intro d hd m v1 v2 v3 q h
    cases h
  | succ i hrec =>
    intro d hd m v1 v2 v3 q h
    obtain ⟨e, rfl⟩ : ∃ e, d = e + 1 := ⟨d - 1, by omega⟩
    have hB : i + 1 + 1 ≤ e + 1 := by omega
    rw [F_X11_rings] at h
    refine ax_go (j := 5) (k2 := 5) (lv2 := [some (.inr (.inr (22, 0))), some (.inl v1), some (.inl v2), some (.inl v3), none, none]) (st2 := [.inl (v2 - 1), .inr (.inr (38, 0))]) (m2 := m) (fun n => rfl) ?_
    obtain ⟨y1, hy1⟩ : ∃ y : Int32, y = (v2 - 1) := ⟨_, rfl⟩
    rw [← hy1] at h ⊢
    have s3 : ∀ n, ax_ex (e + 1) L_X11_rings 5 [some (.inr (.inr (22, 0))), some (.inl v1), some (.inl v2), some (.inl v3), none, none] [.inl y1, .inr (.inr (38, 0))] m (n + 1) = if ax_ok y1 8 = true then ax_ex (e + 1) L_X11_rings 6 [some (.inr (.inr (22, 0))), some (.inl v1), some (.inl v2), some (.inl v3), none, none] [.inl (m.1 38 0 y1.toNatClampNeg)] m n else none := fun n => rfl
    by_cases c2 : ax_ok y1 8 = true
    · rw [if_pos c2] at h
      refine ax_gt c2 s3 ?_
      have s5 : ∀ n, ax_ex (e + 1) L_X11_rings 6 [some (.inr (.inr (22, 0))), some (.inl v1), some (.inl v2), some (.inl v3), none, none] [.inl (m.1 38 0 y1.toNatClampNeg)] m (n + 4) = if v2 = v1 then ax_ex (e + 1) L_X11_rings 10 [some (.inr (.inr (22, 0))), some (.inl v1), some (.inl v2), some (.inl v3), some (.inl (m.1 38 0 y1.toNatClampNeg)), none] [] m n else ax_ex (e + 1) L_X11_rings 26 [some (.inr (.inr (22, 0))), some (.inl v1), some (.inl v2), some (.inl v3), some (.inl (m.1 38 0 y1.toNatClampNeg)), none] [] m n := fun n => rfl
      by_cases c4 : v2 = v1
      · rw [if_pos c4] at h
        refine ax_gt c4 s5 ?_
        have s7 : ∀ n, ax_ex (e + 1) L_X11_rings 10 [some (.inr (.inr (22, 0))), some (.inl v1), some (.inl v2), some (.inl v3), some (.inl (m.1 38 0 y1.toNatClampNeg)), none] [] m (n + 9) = if ax_ok 0 8 = true then ax_ex (e + 1) L_X11_rings 19 [some (.inr (.inr (22, 0))), some (.inl v1), some (.inl v2), some (.inl v3), some (.inl (m.1 38 0 y1.toNatClampNeg)), none] [.inl (m.1 38 0 (0 : Int32).toNatClampNeg), .inl (8 * (m.1 38 0 y1.toNatClampNeg)), .inr (.inr (25, 0))] m n else none := fun n => rfl
        by_cases c6 : ax_ok 0 8 = true
        · rw [if_pos c6] at h
          refine ax_gt c6 s7 ?_
          refine ax_go (j := 1) (k2 := 20) (lv2 := [some (.inr (.inr (22, 0))), some (.inl v1), some (.inl v2), some (.inl v3), some (.inl (m.1 38 0 y1.toNatClampNeg)), none]) (st2 := [.inl ((8 * (m.1 38 0 y1.toNatClampNeg)) + (m.1 38 0 (0 : Int32).toNatClampNeg)), .inr (.inr (25, 0))]) (m2 := m) (fun n => rfl) ?_
          obtain ⟨y8, hy8⟩ : ∃ y : Int32, y = ((8 * (m.1 38 0 y1.toNatClampNeg)) + (m.1 38 0 (0 : Int32).toNatClampNeg)) := ⟨_, rfl⟩
          rw [← hy8] at h ⊢
          have s10 : ∀ n, ax_ex (e + 1) L_X11_rings 20 [some (.inr (.inr (22, 0))), some (.inl v1), some (.inl v2), some (.inl v3), some (.inl (m.1 38 0 y1.toNatClampNeg)), none] [.inl y8, .inr (.inr (25, 0))] m (n + 1) = if ax_ok y8 64 = true then ax_ex (e + 1) L_X11_rings 21 [some (.inr (.inr (22, 0))), some (.inl v1), some (.inl v2), some (.inl v3), some (.inl (m.1 38 0 y1.toNatClampNeg)), none] [.inl (m.1 25 0 y8.toNatClampNeg)] m n else none := fun n => rfl
          by_cases c9 : ax_ok y8 64 = true
          · rw [if_pos c9] at h
            refine ax_gt c9 s10 ?_
            have s12 : ∀ n, ax_ex (e + 1) L_X11_rings 21 [some (.inr (.inr (22, 0))), some (.inl v1), some (.inl v2), some (.inl v3), some (.inl (m.1 38 0 y1.toNatClampNeg)), none] [.inl (m.1 25 0 y8.toNatClampNeg)] m (n + 1) = if (m.1 25 0 y8.toNatClampNeg) ≤ 0 then ax_ex (e + 1) L_X11_rings 24 [some (.inr (.inr (22, 0))), some (.inl v1), some (.inl v2), some (.inl v3), some (.inl (m.1 38 0 y1.toNatClampNeg)), none] [] m n else ax_ex (e + 1) L_X11_rings 22 [some (.inr (.inr (22, 0))), some (.inl v1), some (.inl v2), some (.inl v3), some (.inl (m.1 38 0 y1.toNatClampNeg)), none] [] m n := fun n => rfl
            by_cases c11 : (m.1 25 0 y8.toNatClampNeg) ≤ 0
            · rw [if_pos c11] at h
              refine ax_gt c11 s12 ?_
              obtain rfl := Option.some.inj h
              exact ax_rq (c := (0 : Int32) = 0 ∨ (0 : Int32) = 1) (j := 2) (by decide) (fun n => rfl)
            · rw [if_neg c11] at h
              refine ax_gf c11 s12 ?_
              obtain rfl := Option.some.inj h
              exact ax_rq (c := (1 : Int32) = 0 ∨ (1 : Int32) = 1) (j := 3) (by decide) (fun n => rfl)
          · rw [if_neg c9] at h
            cases h
        · rw [if_neg c6] at h
          cases h
      · rw [if_neg c4] at h
        refine ax_gf c4 s5 ?_
        have s14 : ∀ n, ax_ex (e + 1) L_X11_rings 26 [some (.inr (.inr (22, 0))), some (.inl v1), some (.inl v2), some (.inl v3), some (.inl (m.1 38 0 y1.toNatClampNeg)), none] [] m (n + 4) = if ax_ok 0 8 = true then ax_ex (e + 1) L_X11_rings 30 [some (.inr (.inr (22, 0))), some (.inl v1), some (.inl v2), some (.inl v3), some (.inl (m.1 38 0 y1.toNatClampNeg)), none] [.inl (m.1 38 0 (0 : Int32).toNatClampNeg)] m n else none := fun n => rfl
        by_cases c13 : ax_ok 0 8 = true
        · rw [if_pos c13] at h
          refine ax_gt c13 s14 ?_
          refine ax_go (j := 3) (k2 := 33) (lv2 := [some (.inr (.inr (22, 0))), some (.inl v1), some (.inl v2), some (.inl v3), some (.inl (m.1 38 0 y1.toNatClampNeg)), some (.inl ((m.1 38 0 (0 : Int32).toNatClampNeg) + 1))]) (st2 := []) (m2 := m) (fun n => rfl) ?_
          refine ax_fg (lv2 := [some (.inr (.inr (22, 0))), some (.inl v1), some (.inl v2), some (.inl v3), some (.inl (m.1 38 0 y1.toNatClampNeg)), some (.inl ((m.1 38 0 (0 : Int32).toNatClampNeg) + 1))]) ⟨rfl, rfl, rfl, rfl, rfl, rfl, trivial⟩ ?_
          refine R_X11_rings_L33 hB hrec _ m ((m.1 38 0 (0 : Int32).toNatClampNeg) + 1) _ h
        · rw [if_neg c13] at h
          cases h
    · rw [if_neg c2] at h
      cases h
def F_X11_ring_L20 : Nat → (ax_M → Int32 → Option (Int32 × ax_M)) → ax_M → Int32 → Int32 → Int32 → Int32 → Option (Int32 × ax_M)
  | 0, _, _, _, _, _, _ => none
  | n + 1, K44, m, v1, v2, v3, v4 => if (m.1 22 0 1) ≤ v4 then (K44 m v2) else (if v2 = (-1) then (if ax_ok 0 8 = true then (ax_b2 (F_X11_rings 12 (ax_ui m 38 0 (0 : Int32).toNatClampNeg v4) v3 1 (ax_ishl 1 v4)) (fun r38 m39 => if r38 = 0 then (F_X11_ring_L20 n K44 m39 v1 v2 v3 (v4 + 1)) else (F_X11_ring_L20 n K44 m39 v1 v3 v3 (v4 + 1)))) else (none)) else (K44 m v2))
set_option maxRecDepth 20000 in
set_option maxHeartbeats 4000000 in
theorem R_X11_ring_L20 {e : Nat} {v1 : Int32} {v3 : Int32} {K44 : ax_M → Int32 → Option (Int32 × ax_M)} (hK44 : ∀ (my : ax_M) (y2 : Int32) (q : (Int32 × ax_M)), K44 my y2 = some q → ax_Ru (e + 14) L_X11_ring 44 [some (.inr (.inr (22, 0))), some (.inl v1), some (.inl y2), some (.inl v3), none] [] my (some (.inl q.1), q.2)) : ∀ (n : Nat) (m : ax_M) (v2 : Int32) (v4 : Int32) (q : (Int32 × ax_M)), F_X11_ring_L20 n K44 m v1 v2 v3 v4 = some q → ax_Ru (e + 14) L_X11_ring 20 [some (.inr (.inr (22, 0))), some (.inl v1), some (.inl v2), some (.inl v3), some (.inl v4)] [] m (some (.inl q.1), q.2) := by
  intro n
  induction n with
  | zero =>
    intro m v2 v4 q h
    cases h
  | succ n ih =>
    intro m v2 v4 q h
    rw [F_X11_ring_L20] at h
    have s32 : ∀ n, ax_ex (e + 14) L_X11_ring 20 [some (.inr (.inr (22, 0))), some (.inl v1), some (.inl v2), some (.inl v3), some (.inl v4)] [] m (n + 4) = if (m.1 22 0 1) ≤ v4 then ax_ex (e + 14) L_X11_ring 44 [some (.inr (.inr (22, 0))), some (.inl v1), some (.inl v2), some (.inl v3), some (.inl v4)] [] m n else ax_ex (e + 14) L_X11_ring 24 [some (.inr (.inr (22, 0))), some (.inl v1), some (.inl v2), some (.inl v3), some (.inl v4)] [] m n := fun n => rfl
    by_cases c31 : (m.1 22 0 1) ≤ v4
    · rw [if_pos c31] at h
      refine ax_gt c31 s32 ?_
      exact ax_fg (lv2 := [some (.inr (.inr (22, 0))), some (.inl v1), some (.inl v2), some (.inl v3), none]) ⟨rfl, rfl, rfl, rfl, trivial⟩ (hK44 m v2 _ h)
    · rw [if_neg c31] at h
      refine ax_gf c31 s32 ?_
      have s34 : ∀ n, ax_ex (e + 14) L_X11_ring 24 [some (.inr (.inr (22, 0))), some (.inl v1), some (.inl v2), some (.inl v3), some (.inl v4)] [] m (n + 3) = if v2 = (-1) then ax_ex (e + 14) L_X11_ring 27 [some (.inr (.inr (22, 0))), some (.inl v1), some (.inl v2), some (.inl v3), some (.inl v4)] [] m n else ax_ex (e + 14) L_X11_ring 44 [some (.inr (.inr (22, 0))), some (.inl v1), some (.inl v2), some (.inl v3), some (.inl v4)] [] m n := fun n => rfl
      by_cases c33 : v2 = (-1)
      · rw [if_pos c33] at h
        refine ax_gt c33 s34 ?_
        have s36 : ∀ n, ax_ex (e + 14) L_X11_ring 27 [some (.inr (.inr (22, 0))), some (.inl v1), some (.inl v2), some (.inl v3), some (.inl v4)] [] m (n + 5) = if ax_ok 0 8 = true then ax_ex (e + 14) L_X11_ring 32 [some (.inr (.inr (22, 0))), some (.inl v1), some (.inl v2), some (.inl v3), some (.inl v4)] [] (ax_ui m 38 0 (0 : Int32).toNatClampNeg v4) n else none := fun n => rfl
        by_cases c35 : ax_ok 0 8 = true
        · rw [if_pos c35] at h
          refine ax_gt c35 s36 ?_
          obtain ⟨r38, m39, q37, h⟩ := ax_b2_of h
          have s42 : ∀ n, ax_ex (e + 14) L_X11_ring 32 [some (.inr (.inr (22, 0))), some (.inl v1), some (.inl v2), some (.inl v3), some (.inl v4)] [] (ax_ui m 38 0 (0 : Int32).toNatClampNeg v4) (n + 7) = ax_aft (fun s m2 => ax_ex (e + 14) L_X11_ring 39 [some (.inr (.inr (22, 0))), some (.inl v1), some (.inl v2), some (.inl v3), some (.inl v4)] s m2 n) [] (ax_ex (e + 13) L_X11_rings 0 (ax_entry [.inr (.inr (22, 0)), .inl v3, .inl 1, .inl (ax_ishl 1 v4)] 6) [] (ax_ui m 38 0 (0 : Int32).toNatClampNeg v4) n) := fun n => rfl
          refine ax_gci (j := 7) (k2 := 39) (lv2 := [some (.inr (.inr (22, 0))), some (.inl v1), some (.inl v2), some (.inl v3), some (.inl v4)]) (rest := []) ((R_X11_rings 12 (e + 13) (by omega) (ax_ui m 38 0 (0 : Int32).toNatClampNeg v4) v3 1 (ax_ishl 1 v4) _ q37)) s42 ?_
          have s41 : ∀ n, ax_ex (e + 14) L_X11_ring 39 [some (.inr (.inr (22, 0))), some (.inl v1), some (.inl v2), some (.inl v3), some (.inl v4)] [.inl r38] m39 (n + 1) = if r38 = 0 then ax_ex (e + 14) L_X11_ring 42 [some (.inr (.inr (22, 0))), some (.inl v1), some (.inl v2), some (.inl v3), some (.inl v4)] [] m39 n else ax_ex (e + 14) L_X11_ring 40 [some (.inr (.inr (22, 0))), some (.inl v1), some (.inl v2), some (.inl v3), some (.inl v4)] [] m39 n := fun n => rfl
          by_cases c40 : r38 = 0
          · rw [if_pos c40] at h
            refine ax_gt c40 s41 ?_
            refine ax_go (j := 2) (k2 := 20) (lv2 := [some (.inr (.inr (22, 0))), some (.inl v1), some (.inl v2), some (.inl v3), some (.inl (v4 + 1))]) (st2 := []) (m2 := m39) (fun n => rfl) ?_
            exact ax_fg (lv2 := [some (.inr (.inr (22, 0))), some (.inl v1), some (.inl v2), some (.inl v3), some (.inl (v4 + 1))]) ⟨rfl, rfl, rfl, rfl, rfl, trivial⟩ (ih m39 v2 (v4 + 1) _ h)
          · rw [if_neg c40] at h
            refine ax_gf c40 s41 ?_
            refine ax_go (j := 4) (k2 := 20) (lv2 := [some (.inr (.inr (22, 0))), some (.inl v1), some (.inl v3), some (.inl v3), some (.inl (v4 + 1))]) (st2 := []) (m2 := m39) (fun n => rfl) ?_
            exact ax_fg (lv2 := [some (.inr (.inr (22, 0))), some (.inl v1), some (.inl v3), some (.inl v3), some (.inl (v4 + 1))]) ⟨rfl, rfl, rfl, rfl, rfl, trivial⟩ (ih m39 v3 (v4 + 1) _ h)
        · rw [if_neg c35] at h
          cases h
      · rw [if_neg c33] at h
        refine ax_gf c33 s34 ?_
        exact ax_fg (lv2 := [some (.inr (.inr (22, 0))), some (.inl v1), some (.inl v2), some (.inl v3), none]) ⟨rfl, rfl, rfl, rfl, trivial⟩ (hK44 m v2 _ h)
def F_X11_ring_L11 : Nat → ax_M → Int32 → Int32 → Int32 → Option (Int32 × ax_M)
  | 0, _, _, _, _ => none
  | n + 1, m, v1, v2, v3 => if (m.1 22 0 1) < v3 then (if v2 = (-1) then (some (v2, m)) else (if v1 = (-1) then (some (v2, m)) else (if v2 ≤ v1 then (ax_b2 (F_X11_no m (-5)) (fun r12 m13 => some (r12, m13))) else (if ax_ok v1 8 = true then (some ((m.1 38 0 v1.toNatClampNeg), m)) else (none))))) else (if v2 = (-1) then (F_X11_ring_L20 ax_FU (fun m44 y43 => F_X11_ring_L11 n m44 v1 y43 (v3 + 1)) m v1 v2 v3 0) else (if v2 = (-1) then (some (v2, m)) else (if v1 = (-1) then (some (v2, m)) else (if v2 ≤ v1 then (ax_b2 (F_X11_no m (-5)) (fun r53 m54 => some (r53, m54))) else (if ax_ok v1 8 = true then (some ((m.1 38 0 v1.toNatClampNeg), m)) else (none))))))
set_option maxRecDepth 20000 in
set_option maxHeartbeats 4000000 in
theorem R_X11_ring_L11 {e : Nat} {v1 : Int32} : ∀ (n : Nat) (m : ax_M) (v2 : Int32) (v3 : Int32) (q : (Int32 × ax_M)), F_X11_ring_L11 n m v1 v2 v3 = some q → ax_Ru (e + 14) L_X11_ring 11 [some (.inr (.inr (22, 0))), some (.inl v1), some (.inl v2), some (.inl v3), none] [] m (some (.inl q.1), q.2) := by
  intro n
  induction n with
  | zero =>
    intro m v2 v3 q h
    cases h
  | succ n ih =>
    intro m v2 v3 q h
    rw [F_X11_ring_L11] at h
    have s4 : ∀ n, ax_ex (e + 14) L_X11_ring 11 [some (.inr (.inr (22, 0))), some (.inl v1), some (.inl v2), some (.inl v3), none] [] m (n + 4) = if (m.1 22 0 1) < v3 then ax_ex (e + 14) L_X11_ring 46 [some (.inr (.inr (22, 0))), some (.inl v1), some (.inl v2), some (.inl v3), none] [] m n else ax_ex (e + 14) L_X11_ring 15 [some (.inr (.inr (22, 0))), some (.inl v1), some (.inl v2), some (.inl v3), none] [] m n := fun n => rfl
    by_cases c3 : (m.1 22 0 1) < v3
    · rw [if_pos c3] at h
      refine ax_gt c3 s4 ?_
      have s6 : ∀ n, ax_ex (e + 14) L_X11_ring 46 [some (.inr (.inr (22, 0))), some (.inl v1), some (.inl v2), some (.inl v3), none] [] m (n + 3) = if v2 = (-1) then ax_ex (e + 14) L_X11_ring 52 [some (.inr (.inr (22, 0))), some (.inl v1), some (.inl v2), some (.inl v3), none] [] m n else ax_ex (e + 14) L_X11_ring 49 [some (.inr (.inr (22, 0))), some (.inl v1), some (.inl v2), some (.inl v3), none] [] m n := fun n => rfl
      by_cases c5 : v2 = (-1)
      · rw [if_pos c5] at h
        refine ax_gt c5 s6 ?_
        obtain rfl := Option.some.inj h
        exact ax_rs 2 (fun n => rfl)
      · rw [if_neg c5] at h
        refine ax_gf c5 s6 ?_
        have s8 : ∀ n, ax_ex (e + 14) L_X11_ring 49 [some (.inr (.inr (22, 0))), some (.inl v1), some (.inl v2), some (.inl v3), none] [] m (n + 3) = if v1 = (-1) then ax_ex (e + 14) L_X11_ring 52 [some (.inr (.inr (22, 0))), some (.inl v1), some (.inl v2), some (.inl v3), none] [] m n else ax_ex (e + 14) L_X11_ring 54 [some (.inr (.inr (22, 0))), some (.inl v1), some (.inl v2), some (.inl v3), none] [] m n := fun n => rfl
        by_cases c7 : v1 = (-1)
        · rw [if_pos c7] at h
          refine ax_gt c7 s8 ?_
          obtain rfl := Option.some.inj h
          exact ax_rs 2 (fun n => rfl)
        · rw [if_neg c7] at h
          refine ax_gf c7 s8 ?_
          have s10 : ∀ n, ax_ex (e + 14) L_X11_ring 54 [some (.inr (.inr (22, 0))), some (.inl v1), some (.inl v2), some (.inl v3), none] [] m (n + 3) = if v2 ≤ v1 then ax_ex (e + 14) L_X11_ring 62 [some (.inr (.inr (22, 0))), some (.inl v1), some (.inl v2), some (.inl v3), none] [] m n else ax_ex (e + 14) L_X11_ring 57 [some (.inr (.inr (22, 0))), some (.inl v1), some (.inl v2), some (.inl v3), none] [] m n := fun n => rfl
          by_cases c9 : v2 ≤ v1
          · rw [if_pos c9] at h
            refine ax_gt c9 s10 ?_
            obtain ⟨r12, m13, q11, h⟩ := ax_b2_of h
            have s14 : ∀ n, ax_ex (e + 14) L_X11_ring 62 [some (.inr (.inr (22, 0))), some (.inl v1), some (.inl v2), some (.inl v3), none] [] m (n + 3) = ax_aft (fun s m2 => ax_ex (e + 14) L_X11_ring 65 [some (.inr (.inr (22, 0))), some (.inl v1), some (.inl v2), some (.inl v3), none] s m2 n) [] (ax_ex (e + 13) L_X11_no 0 (ax_entry [.inr (.inr (22, 0)), .inl (-5)] 2) [] m n) := fun n => rfl
            refine ax_gci (j := 3) (k2 := 65) (lv2 := [some (.inr (.inr (22, 0))), some (.inl v1), some (.inl v2), some (.inl v3), none]) (rest := []) ((R_X11_no (by omega) q11)) s14 ?_
            obtain rfl := Option.some.inj h
            exact ax_rs 1 (fun n => rfl)
          · rw [if_neg c9] at h
            refine ax_gf c9 s10 ?_
            have s16 : ∀ n, ax_ex (e + 14) L_X11_ring 57 [some (.inr (.inr (22, 0))), some (.inl v1), some (.inl v2), some (.inl v3), none] [] m (n + 4) = if ax_ok v1 8 = true then ax_ex (e + 14) L_X11_ring 61 [some (.inr (.inr (22, 0))), some (.inl v1), some (.inl v2), some (.inl v3), none] [.inl (m.1 38 0 v1.toNatClampNeg)] m n else none := fun n => rfl
            by_cases c15 : ax_ok v1 8 = true
            · rw [if_pos c15] at h
              refine ax_gt c15 s16 ?_
              obtain rfl := Option.some.inj h
              exact ax_rs 2 (fun n => rfl)
            · rw [if_neg c15] at h
              cases h
    · rw [if_neg c3] at h
      refine ax_gf c3 s4 ?_
      have s18 : ∀ n, ax_ex (e + 14) L_X11_ring 15 [some (.inr (.inr (22, 0))), some (.inl v1), some (.inl v2), some (.inl v3), none] [] m (n + 3) = if v2 = (-1) then ax_ex (e + 14) L_X11_ring 18 [some (.inr (.inr (22, 0))), some (.inl v1), some (.inl v2), some (.inl v3), none] [] m n else ax_ex (e + 14) L_X11_ring 46 [some (.inr (.inr (22, 0))), some (.inl v1), some (.inl v2), some (.inl v3), none] [] m n := fun n => rfl
      by_cases c17 : v2 = (-1)
      · rw [if_pos c17] at h
        refine ax_gt c17 s18 ?_
        refine ax_go (j := 2) (k2 := 20) (lv2 := [some (.inr (.inr (22, 0))), some (.inl v1), some (.inl v2), some (.inl v3), some (.inl 0)]) (st2 := []) (m2 := m) (fun n => rfl) ?_
        refine ax_fg (lv2 := [some (.inr (.inr (22, 0))), some (.inl v1), some (.inl v2), some (.inl v3), some (.inl 0)]) ⟨rfl, rfl, rfl, rfl, rfl, trivial⟩ ?_
        refine R_X11_ring_L20 ?_ _ m v2 0 _ h
        · intro m44 y43 q h
          refine ax_go (j := 2) (k2 := 11) (lv2 := [some (.inr (.inr (22, 0))), some (.inl v1), some (.inl y43), some (.inl (v3 + 1)), none]) (st2 := []) (m2 := m44) (fun n => rfl) ?_
          exact ax_fg (lv2 := [some (.inr (.inr (22, 0))), some (.inl v1), some (.inl y43), some (.inl (v3 + 1)), none]) ⟨rfl, rfl, rfl, rfl, trivial⟩ (ih m44 y43 (v3 + 1) _ h)
      · rw [if_neg c17] at h
        refine ax_gf c17 s18 ?_
        have s47 : ∀ n, ax_ex (e + 14) L_X11_ring 46 [some (.inr (.inr (22, 0))), some (.inl v1), some (.inl v2), some (.inl v3), none] [] m (n + 3) = if v2 = (-1) then ax_ex (e + 14) L_X11_ring 52 [some (.inr (.inr (22, 0))), some (.inl v1), some (.inl v2), some (.inl v3), none] [] m n else ax_ex (e + 14) L_X11_ring 49 [some (.inr (.inr (22, 0))), some (.inl v1), some (.inl v2), some (.inl v3), none] [] m n := fun n => rfl
        by_cases c46 : v2 = (-1)
        · rw [if_pos c46] at h
          refine ax_gt c46 s47 ?_
          obtain rfl := Option.some.inj h
          exact ax_rs 2 (fun n => rfl)
        · rw [if_neg c46] at h
          refine ax_gf c46 s47 ?_
          have s49 : ∀ n, ax_ex (e + 14) L_X11_ring 49 [some (.inr (.inr (22, 0))), some (.inl v1), some (.inl v2), some (.inl v3), none] [] m (n + 3) = if v1 = (-1) then ax_ex (e + 14) L_X11_ring 52 [some (.inr (.inr (22, 0))), some (.inl v1), some (.inl v2), some (.inl v3), none] [] m n else ax_ex (e + 14) L_X11_ring 54 [some (.inr (.inr (22, 0))), some (.inl v1), some (.inl v2), some (.inl v3), none] [] m n := fun n => rfl
          by_cases c48 : v1 = (-1)
          · rw [if_pos c48] at h
            refine ax_gt c48 s49 ?_
            obtain rfl := Option.some.inj h
            exact ax_rs 2 (fun n => rfl)
          · rw [if_neg c48] at h
            refine ax_gf c48 s49 ?_
            have s51 : ∀ n, ax_ex (e + 14) L_X11_ring 54 [some (.inr (.inr (22, 0))), some (.inl v1), some (.inl v2), some (.inl v3), none] [] m (n + 3) = if v2 ≤ v1 then ax_ex (e + 14) L_X11_ring 62 [some (.inr (.inr (22, 0))), some (.inl v1), some (.inl v2), some (.inl v3), none] [] m n else ax_ex (e + 14) L_X11_ring 57 [some (.inr (.inr (22, 0))), some (.inl v1), some (.inl v2), some (.inl v3), none] [] m n := fun n => rfl
            by_cases c50 : v2 ≤ v1
            · rw [if_pos c50] at h
              refine ax_gt c50 s51 ?_
              obtain ⟨r53, m54, q52, h⟩ := ax_b2_of h
              have s55 : ∀ n, ax_ex (e + 14) L_X11_ring 62 [some (.inr (.inr (22, 0))), some (.inl v1), some (.inl v2), some (.inl v3), none] [] m (n + 3) = ax_aft (fun s m2 => ax_ex (e + 14) L_X11_ring 65 [some (.inr (.inr (22, 0))), some (.inl v1), some (.inl v2), some (.inl v3), none] s m2 n) [] (ax_ex (e + 13) L_X11_no 0 (ax_entry [.inr (.inr (22, 0)), .inl (-5)] 2) [] m n) := fun n => rfl
              refine ax_gci (j := 3) (k2 := 65) (lv2 := [some (.inr (.inr (22, 0))), some (.inl v1), some (.inl v2), some (.inl v3), none]) (rest := []) ((R_X11_no (by omega) q52)) s55 ?_
              obtain rfl := Option.some.inj h
              exact ax_rs 1 (fun n => rfl)
            · rw [if_neg c50] at h
              refine ax_gf c50 s51 ?_
              have s57 : ∀ n, ax_ex (e + 14) L_X11_ring 57 [some (.inr (.inr (22, 0))), some (.inl v1), some (.inl v2), some (.inl v3), none] [] m (n + 4) = if ax_ok v1 8 = true then ax_ex (e + 14) L_X11_ring 61 [some (.inr (.inr (22, 0))), some (.inl v1), some (.inl v2), some (.inl v3), none] [.inl (m.1 38 0 v1.toNatClampNeg)] m n else none := fun n => rfl
              by_cases c56 : ax_ok v1 8 = true
              · rw [if_pos c56] at h
                refine ax_gt c56 s57 ?_
                obtain rfl := Option.some.inj h
                exact ax_rs 2 (fun n => rfl)
              · rw [if_neg c56] at h
                cases h
def F_X11_ring (m : ax_M) (v1 : Int32) : Option (Int32 × ax_M) := if (-1) ≤ v1 then (F_X11_ring_L11 ax_FU m v1 (-1) 3) else (ax_b2 (F_X11_no m (-2)) (fun r60 m61 => some (r60, m61)))
set_option maxRecDepth 20000 in
set_option maxHeartbeats 4000000 in
theorem R_X11_ring {d : Nat} (hd : 14 ≤ d) {m : ax_M} {v1 : Int32} {q : (Int32 × ax_M)} (h : F_X11_ring m v1 = some q) : ax_Ru d L_X11_ring 0 (ax_entry [.inr (.inr (22, 0)), .inl v1] 5) [] m (some (.inl q.1), q.2) := by
  obtain ⟨e, rfl⟩ : ∃ e, d = e + 14 := ⟨d - 14, by omega⟩
  unfold F_X11_ring at h
  have s2 : ∀ n, ax_ex (e + 14) L_X11_ring 0 (ax_entry [.inr (.inr (22, 0)), .inl v1] 5) [] m (n + 3) = if (-1) ≤ v1 then ax_ex (e + 14) L_X11_ring 7 [some (.inr (.inr (22, 0))), some (.inl v1), none, none, none] [] m n else ax_ex (e + 14) L_X11_ring 3 [some (.inr (.inr (22, 0))), some (.inl v1), none, none, none] [] m n := fun n => rfl
  by_cases c1 : (-1) ≤ v1
  · rw [if_pos c1] at h
    refine ax_gt c1 s2 ?_
    refine ax_go (j := 4) (k2 := 11) (lv2 := [some (.inr (.inr (22, 0))), some (.inl v1), some (.inl (-1)), some (.inl 3), none]) (st2 := []) (m2 := m) (fun n => rfl) ?_
    refine ax_fg (lv2 := [some (.inr (.inr (22, 0))), some (.inl v1), some (.inl (-1)), some (.inl 3), none]) ⟨rfl, rfl, rfl, rfl, trivial⟩ ?_
    refine R_X11_ring_L11 _ m (-1) 3 _ h
  · rw [if_neg c1] at h
    refine ax_gf c1 s2 ?_
    obtain ⟨r60, m61, q59, h⟩ := ax_b2_of h
    have s62 : ∀ n, ax_ex (e + 14) L_X11_ring 3 [some (.inr (.inr (22, 0))), some (.inl v1), none, none, none] [] m (n + 3) = ax_aft (fun s m2 => ax_ex (e + 14) L_X11_ring 6 [some (.inr (.inr (22, 0))), some (.inl v1), none, none, none] s m2 n) [] (ax_ex (e + 13) L_X11_no 0 (ax_entry [.inr (.inr (22, 0)), .inl (-2)] 2) [] m n) := fun n => rfl
    refine ax_gci (j := 3) (k2 := 6) (lv2 := [some (.inr (.inr (22, 0))), some (.inl v1), none, none, none]) (rest := []) ((R_X11_no (by omega) q59)) s62 ?_
    obtain rfl := Option.some.inj h
    exact ax_rs 1 (fun n => rfl)
