def F_X11_person (m : ax_M) (v1 : Int32) : Option (Int32 × ax_M) := ax_b (F_X11_isCell v1) (fun r2 => if r2 = 0 then (ax_b2 (F_X11_no m (-2)) (fun r6 m7 => some (r6, m7))) else (if ax_ok v1 64 = true then (if (m.1 23 0 v1.toNatClampNeg) = 0 then (if (m.1 22 0 1) = 8 then (ax_b2 (F_X11_no m (-6)) (fun r16 m17 => some (r16, m17))) else (ax_b2 (F_X11_newOne m v1) (fun r20 m21 => some (r20, m21)))) else (ax_b2 (F_X11_no m (-2)) (fun r24 m25 => some (r24, m25)))) else (none)))
set_option maxRecDepth 20000 in
set_option maxHeartbeats 4000000 in
theorem R_X11_person {d : Nat} (hd : 3 ≤ d) {m : ax_M} {v1 : Int32} {q : (Int32 × ax_M)} (h : F_X11_person m v1 = some q) : ax_Ru d L_X11_person 0 (ax_entry [.inr (.inr (22, 0)), .inl v1] 2) [] m (some (.inl q.1), q.2) := by
  obtain ⟨e, rfl⟩ : ∃ e, d = e + 3 := ⟨d - 3, by omega⟩
  unfold F_X11_person at h
  obtain ⟨r2, q1, h⟩ := ax_b_of h
  have s27 : ∀ n, ax_ex (e + 3) L_X11_person 0 (ax_entry [.inr (.inr (22, 0)), .inl v1] 2) [] m (n + 2) = ax_aft (fun s m2 => ax_ex (e + 3) L_X11_person 2 [some (.inr (.inr (22, 0))), some (.inl v1)] s m2 n) [] (ax_ex (e + 2) L_X11_isCell 0 (ax_entry [.inl v1] 1) [] m n) := fun n => rfl
  refine ax_gci (j := 2) (k2 := 2) (lv2 := [some (.inr (.inr (22, 0))), some (.inl v1)]) (rest := []) ((R_X11_isCell (by omega) q1)) s27 ?_
  have s4 : ∀ n, ax_ex (e + 3) L_X11_person 2 [some (.inr (.inr (22, 0))), some (.inl v1)] [.inl r2] m (n + 1) = if r2 = 0 then ax_ex (e + 3) L_X11_person 8 [some (.inr (.inr (22, 0))), some (.inl v1)] [] m n else ax_ex (e + 3) L_X11_person 3 [some (.inr (.inr (22, 0))), some (.inl v1)] [] m n := fun n => rfl
  by_cases c3 : r2 = 0
  · rw [if_pos c3] at h
    refine ax_gt c3 s4 ?_
    obtain ⟨r6, m7, q5, h⟩ := ax_b2_of h
    have s8 : ∀ n, ax_ex (e + 3) L_X11_person 8 [some (.inr (.inr (22, 0))), some (.inl v1)] [] m (n + 3) = ax_aft (fun s m2 => ax_ex (e + 3) L_X11_person 11 [some (.inr (.inr (22, 0))), some (.inl v1)] s m2 n) [] (ax_ex (e + 2) L_X11_no 0 (ax_entry [.inr (.inr (22, 0)), .inl (-2)] 2) [] m n) := fun n => rfl
    refine ax_gci (j := 3) (k2 := 11) (lv2 := [some (.inr (.inr (22, 0))), some (.inl v1)]) (rest := []) ((R_X11_no (by omega) q5)) s8 ?_
    obtain rfl := Option.some.inj h
    exact ax_rs 1 (fun n => rfl)
  · rw [if_neg c3] at h
    refine ax_gf c3 s4 ?_
    have s10 : ∀ n, ax_ex (e + 3) L_X11_person 3 [some (.inr (.inr (22, 0))), some (.inl v1)] [] m (n + 4) = if ax_ok v1 64 = true then ax_ex (e + 3) L_X11_person 7 [some (.inr (.inr (22, 0))), some (.inl v1)] [.inl (m.1 23 0 v1.toNatClampNeg)] m n else none := fun n => rfl
    by_cases c9 : ax_ok v1 64 = true
    · rw [if_pos c9] at h
      refine ax_gt c9 s10 ?_
      have s12 : ∀ n, ax_ex (e + 3) L_X11_person 7 [some (.inr (.inr (22, 0))), some (.inl v1)] [.inl (m.1 23 0 v1.toNatClampNeg)] m (n + 1) = if (m.1 23 0 v1.toNatClampNeg) = 0 then ax_ex (e + 3) L_X11_person 12 [some (.inr (.inr (22, 0))), some (.inl v1)] [] m n else ax_ex (e + 3) L_X11_person 8 [some (.inr (.inr (22, 0))), some (.inl v1)] [] m n := fun n => rfl
      by_cases c11 : (m.1 23 0 v1.toNatClampNeg) = 0
      · rw [if_pos c11] at h
        refine ax_gt c11 s12 ?_
        have s14 : ∀ n, ax_ex (e + 3) L_X11_person 12 [some (.inr (.inr (22, 0))), some (.inl v1)] [] m (n + 4) = if (m.1 22 0 1) = 8 then ax_ex (e + 3) L_X11_person 16 [some (.inr (.inr (22, 0))), some (.inl v1)] [] m n else ax_ex (e + 3) L_X11_person 20 [some (.inr (.inr (22, 0))), some (.inl v1)] [] m n := fun n => rfl
        by_cases c13 : (m.1 22 0 1) = 8
        · rw [if_pos c13] at h
          refine ax_gt c13 s14 ?_
          obtain ⟨r16, m17, q15, h⟩ := ax_b2_of h
          have s18 : ∀ n, ax_ex (e + 3) L_X11_person 16 [some (.inr (.inr (22, 0))), some (.inl v1)] [] m (n + 3) = ax_aft (fun s m2 => ax_ex (e + 3) L_X11_person 19 [some (.inr (.inr (22, 0))), some (.inl v1)] s m2 n) [] (ax_ex (e + 2) L_X11_no 0 (ax_entry [.inr (.inr (22, 0)), .inl (-6)] 2) [] m n) := fun n => rfl
          refine ax_gci (j := 3) (k2 := 19) (lv2 := [some (.inr (.inr (22, 0))), some (.inl v1)]) (rest := []) ((R_X11_no (by omega) q15)) s18 ?_
          obtain rfl := Option.some.inj h
          exact ax_rs 2 (fun n => rfl)
        · rw [if_neg c13] at h
          refine ax_gf c13 s14 ?_
          obtain ⟨r20, m21, q19, h⟩ := ax_b2_of h
          have s22 : ∀ n, ax_ex (e + 3) L_X11_person 20 [some (.inr (.inr (22, 0))), some (.inl v1)] [] m (n + 3) = ax_aft (fun s m2 => ax_ex (e + 3) L_X11_person 23 [some (.inr (.inr (22, 0))), some (.inl v1)] s m2 n) [] (ax_ex (e + 2) L_X11_newOne 0 (ax_entry [.inr (.inr (22, 0)), .inl v1] 3) [] m n) := fun n => rfl
          refine ax_gci (j := 3) (k2 := 23) (lv2 := [some (.inr (.inr (22, 0))), some (.inl v1)]) (rest := []) ((R_X11_newOne (by omega) q19)) s22 ?_
          obtain rfl := Option.some.inj h
          exact ax_rs 1 (fun n => rfl)
      · rw [if_neg c11] at h
        refine ax_gf c11 s12 ?_
        obtain ⟨r24, m25, q23, h⟩ := ax_b2_of h
        have s26 : ∀ n, ax_ex (e + 3) L_X11_person 8 [some (.inr (.inr (22, 0))), some (.inl v1)] [] m (n + 3) = ax_aft (fun s m2 => ax_ex (e + 3) L_X11_person 11 [some (.inr (.inr (22, 0))), some (.inl v1)] s m2 n) [] (ax_ex (e + 2) L_X11_no 0 (ax_entry [.inr (.inr (22, 0)), .inl (-2)] 2) [] m n) := fun n => rfl
        refine ax_gci (j := 3) (k2 := 11) (lv2 := [some (.inr (.inr (22, 0))), some (.inl v1)]) (rest := []) ((R_X11_no (by omega) q23)) s26 ?_
        obtain rfl := Option.some.inj h
        exact ax_rs 1 (fun n => rfl)
    · rw [if_neg c9] at h
      cases h
def F_X11_newSeed (m : ax_M) (v1 : Int32) (v2 : Int32) (v3 : Int32) (v4 : Int32) : Option (Int32 × ax_M) := if ax_ok (m.1 22 0 4) 16 = true then (if ax_ok ((ax_ui m 26 0 (m.1 22 0 4).toNatClampNeg v1).1 22 0 4) 16 = true then (if ax_ok ((ax_ui (ax_ui m 26 0 (m.1 22 0 4).toNatClampNeg v1) 27 0 ((ax_ui m 26 0 (m.1 22 0 4).toNatClampNeg v1).1 22 0 4).toNatClampNeg v2).1 22 0 4) 16 = true then (if ax_ok ((ax_ui (ax_ui (ax_ui m 26 0 (m.1 22 0 4).toNatClampNeg v1) 27 0 ((ax_ui m 26 0 (m.1 22 0 4).toNatClampNeg v1).1 22 0 4).toNatClampNeg v2) 28 0 ((ax_ui (ax_ui m 26 0 (m.1 22 0 4).toNatClampNeg v1) 27 0 ((ax_ui m 26 0 (m.1 22 0 4).toNatClampNeg v1).1 22 0 4).toNatClampNeg v2).1 22 0 4).toNatClampNeg v3).1 22 0 4) 16 = true then (some (((ax_ui (ax_ui (ax_ui (ax_ui m 26 0 (m.1 22 0 4).toNatClampNeg v1) 27 0 ((ax_ui m 26 0 (m.1 22 0 4).toNatClampNeg v1).1 22 0 4).toNatClampNeg v2) 28 0 ((ax_ui (ax_ui m 26 0 (m.1 22 0 4).toNatClampNeg v1) 27 0 ((ax_ui m 26 0 (m.1 22 0 4).toNatClampNeg v1).1 22 0 4).toNatClampNeg v2).1 22 0 4).toNatClampNeg v3) 29 0 ((ax_ui (ax_ui (ax_ui m 26 0 (m.1 22 0 4).toNatClampNeg v1) 27 0 ((ax_ui m 26 0 (m.1 22 0 4).toNatClampNeg v1).1 22 0 4).toNatClampNeg v2) 28 0 ((ax_ui (ax_ui m 26 0 (m.1 22 0 4).toNatClampNeg v1) 27 0 ((ax_ui m 26 0 (m.1 22 0 4).toNatClampNeg v1).1 22 0 4).toNatClampNeg v2).1 22 0 4).toNatClampNeg v3).1 22 0 4).toNatClampNeg v4).1 22 0 4), (ax_ui (ax_ui (ax_ui (ax_ui (ax_ui m 26 0 (m.1 22 0 4).toNatClampNeg v1) 27 0 ((ax_ui m 26 0 (m.1 22 0 4).toNatClampNeg v1).1 22 0 4).toNatClampNeg v2) 28 0 ((ax_ui (ax_ui m 26 0 (m.1 22 0 4).toNatClampNeg v1) 27 0 ((ax_ui m 26 0 (m.1 22 0 4).toNatClampNeg v1).1 22 0 4).toNatClampNeg v2).1 22 0 4).toNatClampNeg v3) 29 0 ((ax_ui (ax_ui (ax_ui m 26 0 (m.1 22 0 4).toNatClampNeg v1) 27 0 ((ax_ui m 26 0 (m.1 22 0 4).toNatClampNeg v1).1 22 0 4).toNatClampNeg v2) 28 0 ((ax_ui (ax_ui m 26 0 (m.1 22 0 4).toNatClampNeg v1) 27 0 ((ax_ui m 26 0 (m.1 22 0 4).toNatClampNeg v1).1 22 0 4).toNatClampNeg v2).1 22 0 4).toNatClampNeg v3).1 22 0 4).toNatClampNeg v4) 22 0 4 (((ax_ui (ax_ui (ax_ui (ax_ui m 26 0 (m.1 22 0 4).toNatClampNeg v1) 27 0 ((ax_ui m 26 0 (m.1 22 0 4).toNatClampNeg v1).1 22 0 4).toNatClampNeg v2) 28 0 ((ax_ui (ax_ui m 26 0 (m.1 22 0 4).toNatClampNeg v1) 27 0 ((ax_ui m 26 0 (m.1 22 0 4).toNatClampNeg v1).1 22 0 4).toNatClampNeg v2).1 22 0 4).toNatClampNeg v3) 29 0 ((ax_ui (ax_ui (ax_ui m 26 0 (m.1 22 0 4).toNatClampNeg v1) 27 0 ((ax_ui m 26 0 (m.1 22 0 4).toNatClampNeg v1).1 22 0 4).toNatClampNeg v2) 28 0 ((ax_ui (ax_ui m 26 0 (m.1 22 0 4).toNatClampNeg v1) 27 0 ((ax_ui m 26 0 (m.1 22 0 4).toNatClampNeg v1).1 22 0 4).toNatClampNeg v2).1 22 0 4).toNatClampNeg v3).1 22 0 4).toNatClampNeg v4).1 22 0 4) + 1)))) else (none)) else (none)) else (none)) else (none)
set_option maxRecDepth 20000 in
set_option maxHeartbeats 4000000 in
theorem R_X11_newSeed {d : Nat} (hd : 1 ≤ d) {m : ax_M} {v1 : Int32} {v2 : Int32} {v3 : Int32} {v4 : Int32} {q : (Int32 × ax_M)} (h : F_X11_newSeed m v1 v2 v3 v4 = some q) : ax_Ru d L_X11_newSeed 0 (ax_entry [.inr (.inr (22, 0)), .inl v1, .inl v2, .inl v3, .inl v4] 5) [] m (some (.inl q.1), q.2) := by
  obtain ⟨e, rfl⟩ : ∃ e, d = e + 1 := ⟨d - 1, by omega⟩
  unfold F_X11_newSeed at h
  have s2 : ∀ n, ax_ex (e + 1) L_X11_newSeed 0 (ax_entry [.inr (.inr (22, 0)), .inl v1, .inl v2, .inl v3, .inl v4] 5) [] m (n + 6) = if ax_ok (m.1 22 0 4) 16 = true then ax_ex (e + 1) L_X11_newSeed 6 [some (.inr (.inr (22, 0))), some (.inl v1), some (.inl v2), some (.inl v3), some (.inl v4)] [] (ax_ui m 26 0 (m.1 22 0 4).toNatClampNeg v1) n else none := fun n => rfl
  by_cases c1 : ax_ok (m.1 22 0 4) 16 = true
  · rw [if_pos c1] at h
    refine ax_gt c1 s2 ?_
    have s4 : ∀ n, ax_ex (e + 1) L_X11_newSeed 6 [some (.inr (.inr (22, 0))), some (.inl v1), some (.inl v2), some (.inl v3), some (.inl v4)] [] (ax_ui m 26 0 (m.1 22 0 4).toNatClampNeg v1) (n + 6) = if ax_ok ((ax_ui m 26 0 (m.1 22 0 4).toNatClampNeg v1).1 22 0 4) 16 = true then ax_ex (e + 1) L_X11_newSeed 12 [some (.inr (.inr (22, 0))), some (.inl v1), some (.inl v2), some (.inl v3), some (.inl v4)] [] (ax_ui (ax_ui m 26 0 (m.1 22 0 4).toNatClampNeg v1) 27 0 ((ax_ui m 26 0 (m.1 22 0 4).toNatClampNeg v1).1 22 0 4).toNatClampNeg v2) n else none := fun n => rfl
    by_cases c3 : ax_ok ((ax_ui m 26 0 (m.1 22 0 4).toNatClampNeg v1).1 22 0 4) 16 = true
    · rw [if_pos c3] at h
      refine ax_gt c3 s4 ?_
      have s6 : ∀ n, ax_ex (e + 1) L_X11_newSeed 12 [some (.inr (.inr (22, 0))), some (.inl v1), some (.inl v2), some (.inl v3), some (.inl v4)] [] (ax_ui (ax_ui m 26 0 (m.1 22 0 4).toNatClampNeg v1) 27 0 ((ax_ui m 26 0 (m.1 22 0 4).toNatClampNeg v1).1 22 0 4).toNatClampNeg v2) (n + 6) = if ax_ok ((ax_ui (ax_ui m 26 0 (m.1 22 0 4).toNatClampNeg v1) 27 0 ((ax_ui m 26 0 (m.1 22 0 4).toNatClampNeg v1).1 22 0 4).toNatClampNeg v2).1 22 0 4) 16 = true then ax_ex (e + 1) L_X11_newSeed 18 [some (.inr (.inr (22, 0))), some (.inl v1), some (.inl v2), some (.inl v3), some (.inl v4)] [] (ax_ui (ax_ui (ax_ui m 26 0 (m.1 22 0 4).toNatClampNeg v1) 27 0 ((ax_ui m 26 0 (m.1 22 0 4).toNatClampNeg v1).1 22 0 4).toNatClampNeg v2) 28 0 ((ax_ui (ax_ui m 26 0 (m.1 22 0 4).toNatClampNeg v1) 27 0 ((ax_ui m 26 0 (m.1 22 0 4).toNatClampNeg v1).1 22 0 4).toNatClampNeg v2).1 22 0 4).toNatClampNeg v3) n else none := fun n => rfl
      by_cases c5 : ax_ok ((ax_ui (ax_ui m 26 0 (m.1 22 0 4).toNatClampNeg v1) 27 0 ((ax_ui m 26 0 (m.1 22 0 4).toNatClampNeg v1).1 22 0 4).toNatClampNeg v2).1 22 0 4) 16 = true
      · rw [if_pos c5] at h
        refine ax_gt c5 s6 ?_
        have s8 : ∀ n, ax_ex (e + 1) L_X11_newSeed 18 [some (.inr (.inr (22, 0))), some (.inl v1), some (.inl v2), some (.inl v3), some (.inl v4)] [] (ax_ui (ax_ui (ax_ui m 26 0 (m.1 22 0 4).toNatClampNeg v1) 27 0 ((ax_ui m 26 0 (m.1 22 0 4).toNatClampNeg v1).1 22 0 4).toNatClampNeg v2) 28 0 ((ax_ui (ax_ui m 26 0 (m.1 22 0 4).toNatClampNeg v1) 27 0 ((ax_ui m 26 0 (m.1 22 0 4).toNatClampNeg v1).1 22 0 4).toNatClampNeg v2).1 22 0 4).toNatClampNeg v3) (n + 6) = if ax_ok ((ax_ui (ax_ui (ax_ui m 26 0 (m.1 22 0 4).toNatClampNeg v1) 27 0 ((ax_ui m 26 0 (m.1 22 0 4).toNatClampNeg v1).1 22 0 4).toNatClampNeg v2) 28 0 ((ax_ui (ax_ui m 26 0 (m.1 22 0 4).toNatClampNeg v1) 27 0 ((ax_ui m 26 0 (m.1 22 0 4).toNatClampNeg v1).1 22 0 4).toNatClampNeg v2).1 22 0 4).toNatClampNeg v3).1 22 0 4) 16 = true then ax_ex (e + 1) L_X11_newSeed 24 [some (.inr (.inr (22, 0))), some (.inl v1), some (.inl v2), some (.inl v3), some (.inl v4)] [] (ax_ui (ax_ui (ax_ui (ax_ui m 26 0 (m.1 22 0 4).toNatClampNeg v1) 27 0 ((ax_ui m 26 0 (m.1 22 0 4).toNatClampNeg v1).1 22 0 4).toNatClampNeg v2) 28 0 ((ax_ui (ax_ui m 26 0 (m.1 22 0 4).toNatClampNeg v1) 27 0 ((ax_ui m 26 0 (m.1 22 0 4).toNatClampNeg v1).1 22 0 4).toNatClampNeg v2).1 22 0 4).toNatClampNeg v3) 29 0 ((ax_ui (ax_ui (ax_ui m 26 0 (m.1 22 0 4).toNatClampNeg v1) 27 0 ((ax_ui m 26 0 (m.1 22 0 4).toNatClampNeg v1).1 22 0 4).toNatClampNeg v2) 28 0 ((ax_ui (ax_ui m 26 0 (m.1 22 0 4).toNatClampNeg v1) 27 0 ((ax_ui m 26 0 (m.1 22 0 4).toNatClampNeg v1).1 22 0 4).toNatClampNeg v2).1 22 0 4).toNatClampNeg v3).1 22 0 4).toNatClampNeg v4) n else none := fun n => rfl
        by_cases c7 : ax_ok ((ax_ui (ax_ui (ax_ui m 26 0 (m.1 22 0 4).toNatClampNeg v1) 27 0 ((ax_ui m 26 0 (m.1 22 0 4).toNatClampNeg v1).1 22 0 4).toNatClampNeg v2) 28 0 ((ax_ui (ax_ui m 26 0 (m.1 22 0 4).toNatClampNeg v1) 27 0 ((ax_ui m 26 0 (m.1 22 0 4).toNatClampNeg v1).1 22 0 4).toNatClampNeg v2).1 22 0 4).toNatClampNeg v3).1 22 0 4) 16 = true
        · rw [if_pos c7] at h
          refine ax_gt c7 s8 ?_
          obtain rfl := Option.some.inj h
          exact ax_rs 8 (fun n => rfl)
        · rw [if_neg c7] at h
          cases h
      · rw [if_neg c5] at h
        cases h
    · rw [if_neg c3] at h
      cases h
  · rw [if_neg c1] at h
    cases h
def F_X11_sow (m : ax_M) (v1 : Int32) (v2 : Int32) (v3 : Int32) (v4 : Int32) : Option (Int32 × ax_M) := ax_b (F_X11_within v1 0 5) (fun r2 => if r2 = 0 then (ax_b2 (F_X11_no m (-2)) (fun r6 m7 => some (r6, m7))) else (ax_b (F_X11_within v2 0 9) (fun r10 => if r10 = 0 then (ax_b2 (F_X11_no m (-2)) (fun r14 m15 => some (r14, m15))) else (ax_b (F_X11_isCell v3) (fun r18 => if r18 = 0 then (ax_b2 (F_X11_no m (-2)) (fun r22 m23 => some (r22, m23))) else (ax_b (F_X11_isOne m v4) (fun r26 => if r26 = 0 then (ax_b2 (F_X11_no m (-2)) (fun r30 m31 => some (r30, m31))) else (if (m.1 22 0 4) = 16 then (ax_b2 (F_X11_no m (-6)) (fun r36 m37 => some (r36, m37))) else (ax_b2 (F_X11_newSeed m v1 v2 v3 v4) (fun r40 m41 => some (r40, m41)))))))))))
set_option maxRecDepth 20000 in
set_option maxHeartbeats 4000000 in
theorem R_X11_sow {d : Nat} (hd : 3 ≤ d) {m : ax_M} {v1 : Int32} {v2 : Int32} {v3 : Int32} {v4 : Int32} {q : (Int32 × ax_M)} (h : F_X11_sow m v1 v2 v3 v4 = some q) : ax_Ru d L_X11_sow 0 (ax_entry [.inr (.inr (22, 0)), .inl v1, .inl v2, .inl v3, .inl v4] 5) [] m (some (.inl q.1), q.2) := by
  obtain ⟨e, rfl⟩ : ∃ e, d = e + 3 := ⟨d - 3, by omega⟩
  unfold F_X11_sow at h
  obtain ⟨r2, q1, h⟩ := ax_b_of h
  have s46 : ∀ n, ax_ex (e + 3) L_X11_sow 0 (ax_entry [.inr (.inr (22, 0)), .inl v1, .inl v2, .inl v3, .inl v4] 5) [] m (n + 4) = ax_aft (fun s m2 => ax_ex (e + 3) L_X11_sow 4 [some (.inr (.inr (22, 0))), some (.inl v1), some (.inl v2), some (.inl v3), some (.inl v4)] s m2 n) [] (ax_ex (e + 2) L_X11_within 0 (ax_entry [.inl v1, .inl 0, .inl 5] 3) [] m n) := fun n => rfl
  refine ax_gci (j := 4) (k2 := 4) (lv2 := [some (.inr (.inr (22, 0))), some (.inl v1), some (.inl v2), some (.inl v3), some (.inl v4)]) (rest := []) ((R_X11_within (by omega) q1)) s46 ?_
  have s4 : ∀ n, ax_ex (e + 3) L_X11_sow 4 [some (.inr (.inr (22, 0))), some (.inl v1), some (.inl v2), some (.inl v3), some (.inl v4)] [.inl r2] m (n + 1) = if r2 = 0 then ax_ex (e + 3) L_X11_sow 17 [some (.inr (.inr (22, 0))), some (.inl v1), some (.inl v2), some (.inl v3), some (.inl v4)] [] m n else ax_ex (e + 3) L_X11_sow 5 [some (.inr (.inr (22, 0))), some (.inl v1), some (.inl v2), some (.inl v3), some (.inl v4)] [] m n := fun n => rfl
  by_cases c3 : r2 = 0
  · rw [if_pos c3] at h
    refine ax_gt c3 s4 ?_
    obtain ⟨r6, m7, q5, h⟩ := ax_b2_of h
    have s8 : ∀ n, ax_ex (e + 3) L_X11_sow 17 [some (.inr (.inr (22, 0))), some (.inl v1), some (.inl v2), some (.inl v3), some (.inl v4)] [] m (n + 3) = ax_aft (fun s m2 => ax_ex (e + 3) L_X11_sow 20 [some (.inr (.inr (22, 0))), some (.inl v1), some (.inl v2), some (.inl v3), some (.inl v4)] s m2 n) [] (ax_ex (e + 2) L_X11_no 0 (ax_entry [.inr (.inr (22, 0)), .inl (-2)] 2) [] m n) := fun n => rfl
    refine ax_gci (j := 3) (k2 := 20) (lv2 := [some (.inr (.inr (22, 0))), some (.inl v1), some (.inl v2), some (.inl v3), some (.inl v4)]) (rest := []) ((R_X11_no (by omega) q5)) s8 ?_
    obtain rfl := Option.some.inj h
    exact ax_rs 1 (fun n => rfl)
  · rw [if_neg c3] at h
    refine ax_gf c3 s4 ?_
    obtain ⟨r10, q9, h⟩ := ax_b_of h
    have s45 : ∀ n, ax_ex (e + 3) L_X11_sow 5 [some (.inr (.inr (22, 0))), some (.inl v1), some (.inl v2), some (.inl v3), some (.inl v4)] [] m (n + 4) = ax_aft (fun s m2 => ax_ex (e + 3) L_X11_sow 9 [some (.inr (.inr (22, 0))), some (.inl v1), some (.inl v2), some (.inl v3), some (.inl v4)] s m2 n) [] (ax_ex (e + 2) L_X11_within 0 (ax_entry [.inl v2, .inl 0, .inl 9] 3) [] m n) := fun n => rfl
    refine ax_gci (j := 4) (k2 := 9) (lv2 := [some (.inr (.inr (22, 0))), some (.inl v1), some (.inl v2), some (.inl v3), some (.inl v4)]) (rest := []) ((R_X11_within (by omega) q9)) s45 ?_
    have s12 : ∀ n, ax_ex (e + 3) L_X11_sow 9 [some (.inr (.inr (22, 0))), some (.inl v1), some (.inl v2), some (.inl v3), some (.inl v4)] [.inl r10] m (n + 1) = if r10 = 0 then ax_ex (e + 3) L_X11_sow 17 [some (.inr (.inr (22, 0))), some (.inl v1), some (.inl v2), some (.inl v3), some (.inl v4)] [] m n else ax_ex (e + 3) L_X11_sow 10 [some (.inr (.inr (22, 0))), some (.inl v1), some (.inl v2), some (.inl v3), some (.inl v4)] [] m n := fun n => rfl
    by_cases c11 : r10 = 0
    · rw [if_pos c11] at h
      refine ax_gt c11 s12 ?_
      obtain ⟨r14, m15, q13, h⟩ := ax_b2_of h
      have s16 : ∀ n, ax_ex (e + 3) L_X11_sow 17 [some (.inr (.inr (22, 0))), some (.inl v1), some (.inl v2), some (.inl v3), some (.inl v4)] [] m (n + 3) = ax_aft (fun s m2 => ax_ex (e + 3) L_X11_sow 20 [some (.inr (.inr (22, 0))), some (.inl v1), some (.inl v2), some (.inl v3), some (.inl v4)] s m2 n) [] (ax_ex (e + 2) L_X11_no 0 (ax_entry [.inr (.inr (22, 0)), .inl (-2)] 2) [] m n) := fun n => rfl
      refine ax_gci (j := 3) (k2 := 20) (lv2 := [some (.inr (.inr (22, 0))), some (.inl v1), some (.inl v2), some (.inl v3), some (.inl v4)]) (rest := []) ((R_X11_no (by omega) q13)) s16 ?_
      obtain rfl := Option.some.inj h
      exact ax_rs 1 (fun n => rfl)
    · rw [if_neg c11] at h
      refine ax_gf c11 s12 ?_
      obtain ⟨r18, q17, h⟩ := ax_b_of h
      have s44 : ∀ n, ax_ex (e + 3) L_X11_sow 10 [some (.inr (.inr (22, 0))), some (.inl v1), some (.inl v2), some (.inl v3), some (.inl v4)] [] m (n + 2) = ax_aft (fun s m2 => ax_ex (e + 3) L_X11_sow 12 [some (.inr (.inr (22, 0))), some (.inl v1), some (.inl v2), some (.inl v3), some (.inl v4)] s m2 n) [] (ax_ex (e + 2) L_X11_isCell 0 (ax_entry [.inl v3] 1) [] m n) := fun n => rfl
      refine ax_gci (j := 2) (k2 := 12) (lv2 := [some (.inr (.inr (22, 0))), some (.inl v1), some (.inl v2), some (.inl v3), some (.inl v4)]) (rest := []) ((R_X11_isCell (by omega) q17)) s44 ?_
      have s20 : ∀ n, ax_ex (e + 3) L_X11_sow 12 [some (.inr (.inr (22, 0))), some (.inl v1), some (.inl v2), some (.inl v3), some (.inl v4)] [.inl r18] m (n + 1) = if r18 = 0 then ax_ex (e + 3) L_X11_sow 17 [some (.inr (.inr (22, 0))), some (.inl v1), some (.inl v2), some (.inl v3), some (.inl v4)] [] m n else ax_ex (e + 3) L_X11_sow 13 [some (.inr (.inr (22, 0))), some (.inl v1), some (.inl v2), some (.inl v3), some (.inl v4)] [] m n := fun n => rfl
      by_cases c19 : r18 = 0
      · rw [if_pos c19] at h
        refine ax_gt c19 s20 ?_
        obtain ⟨r22, m23, q21, h⟩ := ax_b2_of h
        have s24 : ∀ n, ax_ex (e + 3) L_X11_sow 17 [some (.inr (.inr (22, 0))), some (.inl v1), some (.inl v2), some (.inl v3), some (.inl v4)] [] m (n + 3) = ax_aft (fun s m2 => ax_ex (e + 3) L_X11_sow 20 [some (.inr (.inr (22, 0))), some (.inl v1), some (.inl v2), some (.inl v3), some (.inl v4)] s m2 n) [] (ax_ex (e + 2) L_X11_no 0 (ax_entry [.inr (.inr (22, 0)), .inl (-2)] 2) [] m n) := fun n => rfl
        refine ax_gci (j := 3) (k2 := 20) (lv2 := [some (.inr (.inr (22, 0))), some (.inl v1), some (.inl v2), some (.inl v3), some (.inl v4)]) (rest := []) ((R_X11_no (by omega) q21)) s24 ?_
        obtain rfl := Option.some.inj h
        exact ax_rs 1 (fun n => rfl)
      · rw [if_neg c19] at h
        refine ax_gf c19 s20 ?_
        obtain ⟨r26, q25, h⟩ := ax_b_of h
        have s43 : ∀ n, ax_ex (e + 3) L_X11_sow 13 [some (.inr (.inr (22, 0))), some (.inl v1), some (.inl v2), some (.inl v3), some (.inl v4)] [] m (n + 3) = ax_aft (fun s m2 => ax_ex (e + 3) L_X11_sow 16 [some (.inr (.inr (22, 0))), some (.inl v1), some (.inl v2), some (.inl v3), some (.inl v4)] s m2 n) [] (ax_ex (e + 2) L_X11_isOne 0 (ax_entry [.inr (.inr (22, 0)), .inl v4] 2) [] m n) := fun n => rfl
        refine ax_gci (j := 3) (k2 := 16) (lv2 := [some (.inr (.inr (22, 0))), some (.inl v1), some (.inl v2), some (.inl v3), some (.inl v4)]) (rest := []) ((R_X11_isOne (by omega) q25)) s43 ?_
        have s28 : ∀ n, ax_ex (e + 3) L_X11_sow 16 [some (.inr (.inr (22, 0))), some (.inl v1), some (.inl v2), some (.inl v3), some (.inl v4)] [.inl r26] m (n + 1) = if r26 = 0 then ax_ex (e + 3) L_X11_sow 17 [some (.inr (.inr (22, 0))), some (.inl v1), some (.inl v2), some (.inl v3), some (.inl v4)] [] m n else ax_ex (e + 3) L_X11_sow 21 [some (.inr (.inr (22, 0))), some (.inl v1), some (.inl v2), some (.inl v3), some (.inl v4)] [] m n := fun n => rfl
        by_cases c27 : r26 = 0
        · rw [if_pos c27] at h
          refine ax_gt c27 s28 ?_
          obtain ⟨r30, m31, q29, h⟩ := ax_b2_of h
          have s32 : ∀ n, ax_ex (e + 3) L_X11_sow 17 [some (.inr (.inr (22, 0))), some (.inl v1), some (.inl v2), some (.inl v3), some (.inl v4)] [] m (n + 3) = ax_aft (fun s m2 => ax_ex (e + 3) L_X11_sow 20 [some (.inr (.inr (22, 0))), some (.inl v1), some (.inl v2), some (.inl v3), some (.inl v4)] s m2 n) [] (ax_ex (e + 2) L_X11_no 0 (ax_entry [.inr (.inr (22, 0)), .inl (-2)] 2) [] m n) := fun n => rfl
          refine ax_gci (j := 3) (k2 := 20) (lv2 := [some (.inr (.inr (22, 0))), some (.inl v1), some (.inl v2), some (.inl v3), some (.inl v4)]) (rest := []) ((R_X11_no (by omega) q29)) s32 ?_
          obtain rfl := Option.some.inj h
          exact ax_rs 1 (fun n => rfl)
        · rw [if_neg c27] at h
          refine ax_gf c27 s28 ?_
          have s34 : ∀ n, ax_ex (e + 3) L_X11_sow 21 [some (.inr (.inr (22, 0))), some (.inl v1), some (.inl v2), some (.inl v3), some (.inl v4)] [] m (n + 4) = if (m.1 22 0 4) = 16 then ax_ex (e + 3) L_X11_sow 25 [some (.inr (.inr (22, 0))), some (.inl v1), some (.inl v2), some (.inl v3), some (.inl v4)] [] m n else ax_ex (e + 3) L_X11_sow 29 [some (.inr (.inr (22, 0))), some (.inl v1), some (.inl v2), some (.inl v3), some (.inl v4)] [] m n := fun n => rfl
          by_cases c33 : (m.1 22 0 4) = 16
          · rw [if_pos c33] at h
            refine ax_gt c33 s34 ?_
            obtain ⟨r36, m37, q35, h⟩ := ax_b2_of h
            have s38 : ∀ n, ax_ex (e + 3) L_X11_sow 25 [some (.inr (.inr (22, 0))), some (.inl v1), some (.inl v2), some (.inl v3), some (.inl v4)] [] m (n + 3) = ax_aft (fun s m2 => ax_ex (e + 3) L_X11_sow 28 [some (.inr (.inr (22, 0))), some (.inl v1), some (.inl v2), some (.inl v3), some (.inl v4)] s m2 n) [] (ax_ex (e + 2) L_X11_no 0 (ax_entry [.inr (.inr (22, 0)), .inl (-6)] 2) [] m n) := fun n => rfl
            refine ax_gci (j := 3) (k2 := 28) (lv2 := [some (.inr (.inr (22, 0))), some (.inl v1), some (.inl v2), some (.inl v3), some (.inl v4)]) (rest := []) ((R_X11_no (by omega) q35)) s38 ?_
            obtain rfl := Option.some.inj h
            exact ax_rs 2 (fun n => rfl)
          · rw [if_neg c33] at h
            refine ax_gf c33 s34 ?_
            obtain ⟨r40, m41, q39, h⟩ := ax_b2_of h
            have s42 : ∀ n, ax_ex (e + 3) L_X11_sow 29 [some (.inr (.inr (22, 0))), some (.inl v1), some (.inl v2), some (.inl v3), some (.inl v4)] [] m (n + 6) = ax_aft (fun s m2 => ax_ex (e + 3) L_X11_sow 35 [some (.inr (.inr (22, 0))), some (.inl v1), some (.inl v2), some (.inl v3), some (.inl v4)] s m2 n) [] (ax_ex (e + 2) L_X11_newSeed 0 (ax_entry [.inr (.inr (22, 0)), .inl v1, .inl v2, .inl v3, .inl v4] 5) [] m n) := fun n => rfl
            refine ax_gci (j := 6) (k2 := 35) (lv2 := [some (.inr (.inr (22, 0))), some (.inl v1), some (.inl v2), some (.inl v3), some (.inl v4)]) (rest := []) ((R_X11_newSeed (by omega) q39)) s42 ?_
            obtain rfl := Option.some.inj h
            exact ax_rs 1 (fun n => rfl)
def F_X11_owes (m : ax_M) (v1 : Int32) (v2 : Int32) (v3 : Int32) : Option (Int32 × ax_M) := ax_b (F_X11_areTwo m v1 v2) (fun r2 => if r2 = 0 then (ax_b2 (F_X11_no m (-2)) (fun r6 m7 => some (r6, m7))) else (ax_b (F_X11_within v3 0 999) (fun r10 => if r10 = 0 then (ax_b2 (F_X11_no m (-2)) (fun r14 m15 => some (r14, m15))) else (if ax_ok ((8 * v1) + v2) 64 = true then (if ax_ok ((8 * v1) + v2) 64 = true then (some ((m.1 25 0 ((8 * v1) + v2).toNatClampNeg), (ax_ui m 25 0 ((8 * v1) + v2).toNatClampNeg v3))) else (none)) else (none)))))
set_option maxRecDepth 20000 in
set_option maxHeartbeats 4000000 in
theorem R_X11_owes {d : Nat} (hd : 4 ≤ d) {m : ax_M} {v1 : Int32} {v2 : Int32} {v3 : Int32} {q : (Int32 × ax_M)} (h : F_X11_owes m v1 v2 v3 = some q) : ax_Ru d L_X11_owes 0 (ax_entry [.inr (.inr (22, 0)), .inl v1, .inl v2, .inl v3] 5) [] m (some (.inl q.1), q.2) := by
  obtain ⟨e, rfl⟩ : ∃ e, d = e + 4 := ⟨d - 4, by omega⟩
  unfold F_X11_owes at h
  obtain ⟨r2, q1, h⟩ := ax_b_of h
  have s23 : ∀ n, ax_ex (e + 4) L_X11_owes 0 (ax_entry [.inr (.inr (22, 0)), .inl v1, .inl v2, .inl v3] 5) [] m (n + 4) = ax_aft (fun s m2 => ax_ex (e + 4) L_X11_owes 4 [some (.inr (.inr (22, 0))), some (.inl v1), some (.inl v2), some (.inl v3), none] s m2 n) [] (ax_ex (e + 3) L_X11_areTwo 0 (ax_entry [.inr (.inr (22, 0)), .inl v1, .inl v2] 3) [] m n) := fun n => rfl
  refine ax_gci (j := 4) (k2 := 4) (lv2 := [some (.inr (.inr (22, 0))), some (.inl v1), some (.inl v2), some (.inl v3), none]) (rest := []) ((R_X11_areTwo (by omega) q1)) s23 ?_
  have s4 : ∀ n, ax_ex (e + 4) L_X11_owes 4 [some (.inr (.inr (22, 0))), some (.inl v1), some (.inl v2), some (.inl v3), none] [.inl r2] m (n + 1) = if r2 = 0 then ax_ex (e + 4) L_X11_owes 10 [some (.inr (.inr (22, 0))), some (.inl v1), some (.inl v2), some (.inl v3), none] [] m n else ax_ex (e + 4) L_X11_owes 5 [some (.inr (.inr (22, 0))), some (.inl v1), some (.inl v2), some (.inl v3), none] [] m n := fun n => rfl
  by_cases c3 : r2 = 0
  · rw [if_pos c3] at h
    refine ax_gt c3 s4 ?_
    obtain ⟨r6, m7, q5, h⟩ := ax_b2_of h
    have s8 : ∀ n, ax_ex (e + 4) L_X11_owes 10 [some (.inr (.inr (22, 0))), some (.inl v1), some (.inl v2), some (.inl v3), none] [] m (n + 3) = ax_aft (fun s m2 => ax_ex (e + 4) L_X11_owes 13 [some (.inr (.inr (22, 0))), some (.inl v1), some (.inl v2), some (.inl v3), none] s m2 n) [] (ax_ex (e + 3) L_X11_no 0 (ax_entry [.inr (.inr (22, 0)), .inl (-2)] 2) [] m n) := fun n => rfl
    refine ax_gci (j := 3) (k2 := 13) (lv2 := [some (.inr (.inr (22, 0))), some (.inl v1), some (.inl v2), some (.inl v3), none]) (rest := []) ((R_X11_no (by omega) q5)) s8 ?_
    obtain rfl := Option.some.inj h
    exact ax_rs 1 (fun n => rfl)
  · rw [if_neg c3] at h
    refine ax_gf c3 s4 ?_
    obtain ⟨r10, q9, h⟩ := ax_b_of h
    have s22 : ∀ n, ax_ex (e + 4) L_X11_owes 5 [some (.inr (.inr (22, 0))), some (.inl v1), some (.inl v2), some (.inl v3), none] [] m (n + 4) = ax_aft (fun s m2 => ax_ex (e + 4) L_X11_owes 9 [some (.inr (.inr (22, 0))), some (.inl v1), some (.inl v2), some (.inl v3), none] s m2 n) [] (ax_ex (e + 3) L_X11_within 0 (ax_entry [.inl v3, .inl 0, .inl 999] 3) [] m n) := fun n => rfl
    refine ax_gci (j := 4) (k2 := 9) (lv2 := [some (.inr (.inr (22, 0))), some (.inl v1), some (.inl v2), some (.inl v3), none]) (rest := []) ((R_X11_within (by omega) q9)) s22 ?_
    have s12 : ∀ n, ax_ex (e + 4) L_X11_owes 9 [some (.inr (.inr (22, 0))), some (.inl v1), some (.inl v2), some (.inl v3), none] [.inl r10] m (n + 1) = if r10 = 0 then ax_ex (e + 4) L_X11_owes 10 [some (.inr (.inr (22, 0))), some (.inl v1), some (.inl v2), some (.inl v3), none] [] m n else ax_ex (e + 4) L_X11_owes 14 [some (.inr (.inr (22, 0))), some (.inl v1), some (.inl v2), some (.inl v3), none] [] m n := fun n => rfl
    by_cases c11 : r10 = 0
    · rw [if_pos c11] at h
      refine ax_gt c11 s12 ?_
      obtain ⟨r14, m15, q13, h⟩ := ax_b2_of h
      have s16 : ∀ n, ax_ex (e + 4) L_X11_owes 10 [some (.inr (.inr (22, 0))), some (.inl v1), some (.inl v2), some (.inl v3), none] [] m (n + 3) = ax_aft (fun s m2 => ax_ex (e + 4) L_X11_owes 13 [some (.inr (.inr (22, 0))), some (.inl v1), some (.inl v2), some (.inl v3), none] s m2 n) [] (ax_ex (e + 3) L_X11_no 0 (ax_entry [.inr (.inr (22, 0)), .inl (-2)] 2) [] m n) := fun n => rfl
      refine ax_gci (j := 3) (k2 := 13) (lv2 := [some (.inr (.inr (22, 0))), some (.inl v1), some (.inl v2), some (.inl v3), none]) (rest := []) ((R_X11_no (by omega) q13)) s16 ?_
      obtain rfl := Option.some.inj h
      exact ax_rs 1 (fun n => rfl)
    · rw [if_neg c11] at h
      refine ax_gf c11 s12 ?_
      refine ax_go (j := 7) (k2 := 21) (lv2 := [some (.inr (.inr (22, 0))), some (.inl v1), some (.inl v2), some (.inl v3), none]) (st2 := [.inl ((8 * v1) + v2), .inr (.inr (25, 0))]) (m2 := m) (fun n => rfl) ?_
      obtain ⟨y17, hy17⟩ : ∃ y : Int32, y = ((8 * v1) + v2) := ⟨_, rfl⟩
      rw [← hy17] at h ⊢
      have s19 : ∀ n, ax_ex (e + 4) L_X11_owes 21 [some (.inr (.inr (22, 0))), some (.inl v1), some (.inl v2), some (.inl v3), none] [.inl y17, .inr (.inr (25, 0))] m (n + 1) = if ax_ok y17 64 = true then ax_ex (e + 4) L_X11_owes 22 [some (.inr (.inr (22, 0))), some (.inl v1), some (.inl v2), some (.inl v3), none] [.inl (m.1 25 0 y17.toNatClampNeg)] m n else none := fun n => rfl
      by_cases c18 : ax_ok y17 64 = true
      · rw [if_pos c18] at h
        refine ax_gt c18 s19 ?_
        refine ax_go (j := 9) (k2 := 31) (lv2 := [some (.inr (.inr (22, 0))), some (.inl v1), some (.inl v2), some (.inl v3), some (.inl (m.1 25 0 y17.toNatClampNeg))]) (st2 := [.inl v3, .inl ((8 * v1) + v2), .inr (.inr (25, 0))]) (m2 := m) (fun n => rfl) ?_
        rw [← hy17]
        have s21 : ∀ n, ax_ex (e + 4) L_X11_owes 31 [some (.inr (.inr (22, 0))), some (.inl v1), some (.inl v2), some (.inl v3), some (.inl (m.1 25 0 y17.toNatClampNeg))] [.inl v3, .inl y17, .inr (.inr (25, 0))] m (n + 1) = if ax_ok y17 64 = true then ax_ex (e + 4) L_X11_owes 32 [some (.inr (.inr (22, 0))), some (.inl v1), some (.inl v2), some (.inl v3), some (.inl (m.1 25 0 y17.toNatClampNeg))] [] (ax_ui m 25 0 y17.toNatClampNeg v3) n else none := fun n => rfl
        by_cases c20 : ax_ok y17 64 = true
        · rw [if_pos c20] at h
          refine ax_gt c20 s21 ?_
          obtain rfl := Option.some.inj h
          exact ax_rs 2 (fun n => rfl)
        · rw [if_neg c20] at h
          cases h
      · rw [if_neg c18] at h
        cases h
def F_X11_feed (m : ax_M) (v1 : Int32) : Option (Int32 × ax_M) := ax_b (F_X11_within v1 0 255) (fun r2 => if r2 = 0 then (ax_b2 (F_X11_no m (-2)) (fun r6 m7 => some (r6, m7))) else (if (m.1 22 0 10) = 250 then (ax_b2 (F_X11_no m (-6)) (fun r12 m13 => some (r12, m13))) else (if ax_ok (m.1 22 0 10) 250 = true then (some (((ax_ui (ax_ui m 22 0 10 ((m.1 22 0 10) + 1)) 30 0 (m.1 22 0 10).toNatClampNeg v1).1 22 0 10), (ax_ui (ax_ui m 22 0 10 ((m.1 22 0 10) + 1)) 30 0 (m.1 22 0 10).toNatClampNeg v1))) else (none))))
set_option maxRecDepth 20000 in
set_option maxHeartbeats 4000000 in
theorem R_X11_feed {d : Nat} (hd : 2 ≤ d) {m : ax_M} {v1 : Int32} {q : (Int32 × ax_M)} (h : F_X11_feed m v1 = some q) : ax_Ru d L_X11_feed 0 (ax_entry [.inr (.inr (22, 0)), .inl v1] 2) [] m (some (.inl q.1), q.2) := by
  obtain ⟨e, rfl⟩ : ∃ e, d = e + 2 := ⟨d - 2, by omega⟩
  unfold F_X11_feed at h
  obtain ⟨r2, q1, h⟩ := ax_b_of h
  have s17 : ∀ n, ax_ex (e + 2) L_X11_feed 0 (ax_entry [.inr (.inr (22, 0)), .inl v1] 2) [] m (n + 4) = ax_aft (fun s m2 => ax_ex (e + 2) L_X11_feed 4 [some (.inr (.inr (22, 0))), some (.inl v1)] s m2 n) [] (ax_ex (e + 1) L_X11_within 0 (ax_entry [.inl v1, .inl 0, .inl 255] 3) [] m n) := fun n => rfl
  refine ax_gci (j := 4) (k2 := 4) (lv2 := [some (.inr (.inr (22, 0))), some (.inl v1)]) (rest := []) ((R_X11_within (by omega) q1)) s17 ?_
  have s4 : ∀ n, ax_ex (e + 2) L_X11_feed 4 [some (.inr (.inr (22, 0))), some (.inl v1)] [.inl r2] m (n + 1) = if r2 = 0 then ax_ex (e + 2) L_X11_feed 5 [some (.inr (.inr (22, 0))), some (.inl v1)] [] m n else ax_ex (e + 2) L_X11_feed 9 [some (.inr (.inr (22, 0))), some (.inl v1)] [] m n := fun n => rfl
  by_cases c3 : r2 = 0
  · rw [if_pos c3] at h
    refine ax_gt c3 s4 ?_
    obtain ⟨r6, m7, q5, h⟩ := ax_b2_of h
    have s8 : ∀ n, ax_ex (e + 2) L_X11_feed 5 [some (.inr (.inr (22, 0))), some (.inl v1)] [] m (n + 3) = ax_aft (fun s m2 => ax_ex (e + 2) L_X11_feed 8 [some (.inr (.inr (22, 0))), some (.inl v1)] s m2 n) [] (ax_ex (e + 1) L_X11_no 0 (ax_entry [.inr (.inr (22, 0)), .inl (-2)] 2) [] m n) := fun n => rfl
    refine ax_gci (j := 3) (k2 := 8) (lv2 := [some (.inr (.inr (22, 0))), some (.inl v1)]) (rest := []) ((R_X11_no (by omega) q5)) s8 ?_
    obtain rfl := Option.some.inj h
    exact ax_rs 1 (fun n => rfl)
  · rw [if_neg c3] at h
    refine ax_gf c3 s4 ?_
    have s10 : ∀ n, ax_ex (e + 2) L_X11_feed 9 [some (.inr (.inr (22, 0))), some (.inl v1)] [] m (n + 4) = if (m.1 22 0 10) = 250 then ax_ex (e + 2) L_X11_feed 13 [some (.inr (.inr (22, 0))), some (.inl v1)] [] m n else ax_ex (e + 2) L_X11_feed 17 [some (.inr (.inr (22, 0))), some (.inl v1)] [] m n := fun n => rfl
    by_cases c9 : (m.1 22 0 10) = 250
    · rw [if_pos c9] at h
      refine ax_gt c9 s10 ?_
      obtain ⟨r12, m13, q11, h⟩ := ax_b2_of h
      have s14 : ∀ n, ax_ex (e + 2) L_X11_feed 13 [some (.inr (.inr (22, 0))), some (.inl v1)] [] m (n + 3) = ax_aft (fun s m2 => ax_ex (e + 2) L_X11_feed 16 [some (.inr (.inr (22, 0))), some (.inl v1)] s m2 n) [] (ax_ex (e + 1) L_X11_no 0 (ax_entry [.inr (.inr (22, 0)), .inl (-6)] 2) [] m n) := fun n => rfl
      refine ax_gci (j := 3) (k2 := 16) (lv2 := [some (.inr (.inr (22, 0))), some (.inl v1)]) (rest := []) ((R_X11_no (by omega) q11)) s14 ?_
      obtain rfl := Option.some.inj h
      exact ax_rs 1 (fun n => rfl)
    · rw [if_neg c9] at h
      refine ax_gf c9 s10 ?_
      have s16 : ∀ n, ax_ex (e + 2) L_X11_feed 17 [some (.inr (.inr (22, 0))), some (.inl v1)] [] m (n + 11) = if ax_ok (m.1 22 0 10) 250 = true then ax_ex (e + 2) L_X11_feed 28 [some (.inr (.inr (22, 0))), some (.inl v1)] [] (ax_ui (ax_ui m 22 0 10 ((m.1 22 0 10) + 1)) 30 0 (m.1 22 0 10).toNatClampNeg v1) n else none := fun n => rfl
      by_cases c15 : ax_ok (m.1 22 0 10) 250 = true
      · rw [if_pos c15] at h
        refine ax_gt c15 s16 ?_
        obtain rfl := Option.some.inj h
        exact ax_rs 3 (fun n => rfl)
      · rw [if_neg c15] at h
        cases h
def F_X11_wipe (m : ax_M) : Option (Int32 × ax_M) := some ((m.1 22 0 10), (ax_ui m 22 0 10 0))
set_option maxRecDepth 20000 in
set_option maxHeartbeats 4000000 in
theorem R_X11_wipe {d : Nat} (hd : 1 ≤ d) {m : ax_M} {q : (Int32 × ax_M)} (h : F_X11_wipe m = some q) : ax_Ru d L_X11_wipe 0 (ax_entry [.inr (.inr (22, 0))] 2) [] m (some (.inl q.1), q.2) := by
  obtain ⟨e, rfl⟩ : ∃ e, d = e + 1 := ⟨d - 1, by omega⟩
  unfold F_X11_wipe at h
  obtain rfl := Option.some.inj h
  exact ax_rs 8 (fun n => rfl)
def F_X11_isLetter (v0 : Int32) : Option Int32 := if v0 < 97 then (some 0) else (if 122 < v0 then (some 0) else (some 1))
set_option maxRecDepth 20000 in
set_option maxHeartbeats 4000000 in
theorem R_X11_isLetter {d : Nat} (hd : 1 ≤ d) {m : ax_M} {v0 : Int32} {q : Int32} (h : F_X11_isLetter v0 = some q) : ax_Ru d L_X11_isLetter 0 (ax_entry [.inl v0] 1) [] m (some (.inl q), m) := by
  obtain ⟨e, rfl⟩ : ∃ e, d = e + 1 := ⟨d - 1, by omega⟩
  unfold F_X11_isLetter at h
  have s2 : ∀ n, ax_ex (e + 1) L_X11_isLetter 0 (ax_entry [.inl v0] 1) [] m (n + 3) = if v0 < 97 then ax_ex (e + 1) L_X11_isLetter 8 [some (.inl v0)] [] m n else ax_ex (e + 1) L_X11_isLetter 3 [some (.inl v0)] [] m n := fun n => rfl
  by_cases c1 : v0 < 97
  · rw [if_pos c1] at h
    refine ax_gt c1 s2 ?_
    obtain rfl := Option.some.inj h
    exact ax_rq (c := (0 : Int32) = 0 ∨ (0 : Int32) = 1) (j := 2) (by decide) (fun n => rfl)
  · rw [if_neg c1] at h
    refine ax_gf c1 s2 ?_
    have s4 : ∀ n, ax_ex (e + 1) L_X11_isLetter 3 [some (.inl v0)] [] m (n + 3) = if 122 < v0 then ax_ex (e + 1) L_X11_isLetter 8 [some (.inl v0)] [] m n else ax_ex (e + 1) L_X11_isLetter 6 [some (.inl v0)] [] m n := fun n => rfl
    by_cases c3 : 122 < v0
    · rw [if_pos c3] at h
      refine ax_gt c3 s4 ?_
      obtain rfl := Option.some.inj h
      exact ax_rq (c := (0 : Int32) = 0 ∨ (0 : Int32) = 1) (j := 2) (by decide) (fun n => rfl)
    · rw [if_neg c3] at h
      refine ax_gf c3 s4 ?_
      obtain rfl := Option.some.inj h
      exact ax_rq (c := (1 : Int32) = 0 ∨ (1 : Int32) = 1) (j := 3) (by decide) (fun n => rfl)
def F_X11_isDigit (v0 : Int32) : Option Int32 := if v0 < 48 then (some 0) else (if 57 < v0 then (some 0) else (some 1))
set_option maxRecDepth 20000 in
set_option maxHeartbeats 4000000 in
theorem R_X11_isDigit {d : Nat} (hd : 1 ≤ d) {m : ax_M} {v0 : Int32} {q : Int32} (h : F_X11_isDigit v0 = some q) : ax_Ru d L_X11_isDigit 0 (ax_entry [.inl v0] 1) [] m (some (.inl q), m) := by
  obtain ⟨e, rfl⟩ : ∃ e, d = e + 1 := ⟨d - 1, by omega⟩
  unfold F_X11_isDigit at h
  have s2 : ∀ n, ax_ex (e + 1) L_X11_isDigit 0 (ax_entry [.inl v0] 1) [] m (n + 3) = if v0 < 48 then ax_ex (e + 1) L_X11_isDigit 8 [some (.inl v0)] [] m n else ax_ex (e + 1) L_X11_isDigit 3 [some (.inl v0)] [] m n := fun n => rfl
  by_cases c1 : v0 < 48
  · rw [if_pos c1] at h
    refine ax_gt c1 s2 ?_
    obtain rfl := Option.some.inj h
    exact ax_rq (c := (0 : Int32) = 0 ∨ (0 : Int32) = 1) (j := 2) (by decide) (fun n => rfl)
  · rw [if_neg c1] at h
    refine ax_gf c1 s2 ?_
    have s4 : ∀ n, ax_ex (e + 1) L_X11_isDigit 3 [some (.inl v0)] [] m (n + 3) = if 57 < v0 then ax_ex (e + 1) L_X11_isDigit 8 [some (.inl v0)] [] m n else ax_ex (e + 1) L_X11_isDigit 6 [some (.inl v0)] [] m n := fun n => rfl
    by_cases c3 : 57 < v0
    · rw [if_pos c3] at h
      refine ax_gt c3 s4 ?_
      obtain rfl := Option.some.inj h
      exact ax_rq (c := (0 : Int32) = 0 ∨ (0 : Int32) = 1) (j := 2) (by decide) (fun n => rfl)
    · rw [if_neg c3] at h
      refine ax_gf c3 s4 ?_
      obtain rfl := Option.some.inj h
      exact ax_rq (c := (1 : Int32) = 0 ∨ (1 : Int32) = 1) (j := 3) (by decide) (fun n => rfl)
def F_X11_next_L81 : Nat → ax_M → Option ax_M
  | 0, _ => none
  | n + 1, m => if (m.1 22 0 10) ≤ (m.1 22 0 13) then (if ((m.1 22 0 13) - (m.1 22 0 12)) ≤ 3 then (some (ax_ui m 22 0 14 48)) else (some (ax_ui m 22 0 14 120))) else (if ax_ok (m.1 22 0 13) 250 = true then (ax_b (F_X11_isDigit (m.1 30 0 (m.1 22 0 13).toNatClampNeg)) (fun r25 => if r25 = 0 then (if ((m.1 22 0 13) - (m.1 22 0 12)) ≤ 3 then (some (ax_ui m 22 0 14 48)) else (some (ax_ui m 22 0 14 120))) else (if 3 ≤ ((m.1 22 0 13) - (m.1 22 0 12)) then (F_X11_next_L81 n (ax_ui m 22 0 13 ((m.1 22 0 13) + 1))) else (if ax_ok (m.1 22 0 13) 250 = true then (F_X11_next_L81 n (ax_ui (ax_ui m 22 0 15 (((10 * (m.1 22 0 15)) + (m.1 30 0 (m.1 22 0 13).toNatClampNeg)) - 48)) 22 0 13 (((ax_ui m 22 0 15 (((10 * (m.1 22 0 15)) + (m.1 30 0 (m.1 22 0 13).toNatClampNeg)) - 48)).1 22 0 13) + 1))) else (none))))) else (none))
set_option maxRecDepth 20000 in
set_option maxHeartbeats 4000000 in
theorem R_X11_next_L81 {e : Nat} : ∀ (n : Nat) (m : ax_M) (q : ax_M), F_X11_next_L81 n m = some q → ax_Ru (e + 2) L_X11_next 81 [some (.inr (.inr (22, 0))), none] [] m (none, q) := by
  intro n
  induction n with
  | zero =>
    intro m q h
    cases h
  | succ n ih =>
    intro m q h
    rw [F_X11_next_L81] at h
    have s18 : ∀ n, ax_ex (e + 2) L_X11_next 81 [some (.inr (.inr (22, 0))), none] [] m (n + 5) = if (m.1 22 0 10) ≤ (m.1 22 0 13) then ax_ex (e + 2) L_X11_next 121 [some (.inr (.inr (22, 0))), none] [] m n else ax_ex (e + 2) L_X11_next 86 [some (.inr (.inr (22, 0))), none] [] m n := fun n => rfl
    by_cases c17 : (m.1 22 0 10) ≤ (m.1 22 0 13)
    · rw [if_pos c17] at h
      refine ax_gt c17 s18 ?_
      refine ax_go (j := 7) (k2 := 128) (lv2 := [some (.inr (.inr (22, 0))), none]) (st2 := [.inl 3, .inl ((m.1 22 0 13) - (m.1 22 0 12)), .inr (.inr (22, 0))]) (m2 := m) (fun n => rfl) ?_
      obtain ⟨y19, hy19⟩ : ∃ y : Int32, y = ((m.1 22 0 13) - (m.1 22 0 12)) := ⟨_, rfl⟩
      rw [← hy19] at h ⊢
      have s21 : ∀ n, ax_ex (e + 2) L_X11_next 128 [some (.inr (.inr (22, 0))), none] [.inl 3, .inl y19, .inr (.inr (22, 0))] m (n + 1) = if y19 ≤ 3 then ax_ex (e + 2) L_X11_next 131 [some (.inr (.inr (22, 0))), none] [.inr (.inr (22, 0))] m n else ax_ex (e + 2) L_X11_next 129 [some (.inr (.inr (22, 0))), none] [.inr (.inr (22, 0))] m n := fun n => rfl
      by_cases c20 : y19 ≤ 3
      · rw [if_pos c20] at h
        refine ax_gt c20 s21 ?_
        obtain rfl := Option.some.inj h
        exact ax_rs 4 (fun n => rfl)
      · rw [if_neg c20] at h
        refine ax_gf c20 s21 ?_
        obtain rfl := Option.some.inj h
        exact ax_rs 5 (fun n => rfl)
    · rw [if_neg c17] at h
      refine ax_gf c17 s18 ?_
      have s23 : ∀ n, ax_ex (e + 2) L_X11_next 86 [some (.inr (.inr (22, 0))), none] [] m (n + 5) = if ax_ok (m.1 22 0 13) 250 = true then ax_ex (e + 2) L_X11_next 91 [some (.inr (.inr (22, 0))), none] [.inl (m.1 30 0 (m.1 22 0 13).toNatClampNeg)] m n else none := fun n => rfl
      by_cases c22 : ax_ok (m.1 22 0 13) 250 = true
      · rw [if_pos c22] at h
        refine ax_gt c22 s23 ?_
        obtain ⟨r25, q24, h⟩ := ax_b_of h
        have s36 : ∀ n, ax_ex (e + 2) L_X11_next 91 [some (.inr (.inr (22, 0))), none] [.inl (m.1 30 0 (m.1 22 0 13).toNatClampNeg)] m (n + 1) = ax_aft (fun s m2 => ax_ex (e + 2) L_X11_next 92 [some (.inr (.inr (22, 0))), none] s m2 n) [] (ax_ex (e + 1) L_X11_isDigit 0 (ax_entry [.inl (m.1 30 0 (m.1 22 0 13).toNatClampNeg)] 1) [] m n) := fun n => rfl
        refine ax_gci (j := 1) (k2 := 92) (lv2 := [some (.inr (.inr (22, 0))), none]) (rest := []) ((R_X11_isDigit (by omega) q24)) s36 ?_
        have s27 : ∀ n, ax_ex (e + 2) L_X11_next 92 [some (.inr (.inr (22, 0))), none] [.inl r25] m (n + 1) = if r25 = 0 then ax_ex (e + 2) L_X11_next 121 [some (.inr (.inr (22, 0))), none] [] m n else ax_ex (e + 2) L_X11_next 93 [some (.inr (.inr (22, 0))), none] [] m n := fun n => rfl
        by_cases c26 : r25 = 0
        · rw [if_pos c26] at h
          refine ax_gt c26 s27 ?_
          refine ax_go (j := 7) (k2 := 128) (lv2 := [some (.inr (.inr (22, 0))), none]) (st2 := [.inl 3, .inl ((m.1 22 0 13) - (m.1 22 0 12)), .inr (.inr (22, 0))]) (m2 := m) (fun n => rfl) ?_
          obtain ⟨y28, hy28⟩ : ∃ y : Int32, y = ((m.1 22 0 13) - (m.1 22 0 12)) := ⟨_, rfl⟩
          rw [← hy28] at h ⊢
          have s30 : ∀ n, ax_ex (e + 2) L_X11_next 128 [some (.inr (.inr (22, 0))), none] [.inl 3, .inl y28, .inr (.inr (22, 0))] m (n + 1) = if y28 ≤ 3 then ax_ex (e + 2) L_X11_next 131 [some (.inr (.inr (22, 0))), none] [.inr (.inr (22, 0))] m n else ax_ex (e + 2) L_X11_next 129 [some (.inr (.inr (22, 0))), none] [.inr (.inr (22, 0))] m n := fun n => rfl
          by_cases c29 : y28 ≤ 3
          · rw [if_pos c29] at h
            refine ax_gt c29 s30 ?_
            obtain rfl := Option.some.inj h
            exact ax_rs 4 (fun n => rfl)
          · rw [if_neg c29] at h
            refine ax_gf c29 s30 ?_
            obtain rfl := Option.some.inj h
            exact ax_rs 5 (fun n => rfl)
        · rw [if_neg c26] at h
          refine ax_gf c26 s27 ?_
          refine ax_go (j := 6) (k2 := 99) (lv2 := [some (.inr (.inr (22, 0))), none]) (st2 := [.inl 3, .inl ((m.1 22 0 13) - (m.1 22 0 12))]) (m2 := m) (fun n => rfl) ?_
          obtain ⟨y31, hy31⟩ : ∃ y : Int32, y = ((m.1 22 0 13) - (m.1 22 0 12)) := ⟨_, rfl⟩
          rw [← hy31] at h ⊢
          have s33 : ∀ n, ax_ex (e + 2) L_X11_next 99 [some (.inr (.inr (22, 0))), none] [.inl 3, .inl y31] m (n + 1) = if 3 ≤ y31 then ax_ex (e + 2) L_X11_next 114 [some (.inr (.inr (22, 0))), none] [] m n else ax_ex (e + 2) L_X11_next 100 [some (.inr (.inr (22, 0))), none] [] m n := fun n => rfl
          by_cases c32 : 3 ≤ y31
          · rw [if_pos c32] at h
            refine ax_gt c32 s33 ?_
            refine ax_go (j := 7) (k2 := 81) (lv2 := [some (.inr (.inr (22, 0))), none]) (st2 := []) (m2 := (ax_ui m 22 0 13 ((m.1 22 0 13) + 1))) (fun n => rfl) ?_
            exact ax_fg (lv2 := [some (.inr (.inr (22, 0))), none]) ⟨rfl, trivial⟩ (ih (ax_ui m 22 0 13 ((m.1 22 0 13) + 1)) _ h)
          · rw [if_neg c32] at h
            refine ax_gf c32 s33 ?_
            have s35 : ∀ n, ax_ex (e + 2) L_X11_next 100 [some (.inr (.inr (22, 0))), none] [] m (n + 10) = if ax_ok (m.1 22 0 13) 250 = true then ax_ex (e + 2) L_X11_next 110 [some (.inr (.inr (22, 0))), none] [.inl (m.1 30 0 (m.1 22 0 13).toNatClampNeg), .inl (10 * (m.1 22 0 15)), .inr (.inr (22, 0))] m n else none := fun n => rfl
            by_cases c34 : ax_ok (m.1 22 0 13) 250 = true
            · rw [if_pos c34] at h
              refine ax_gt c34 s35 ?_
              refine ax_go (j := 11) (k2 := 81) (lv2 := [some (.inr (.inr (22, 0))), none]) (st2 := []) (m2 := (ax_ui (ax_ui m 22 0 15 (((10 * (m.1 22 0 15)) + (m.1 30 0 (m.1 22 0 13).toNatClampNeg)) - 48)) 22 0 13 (((ax_ui m 22 0 15 (((10 * (m.1 22 0 15)) + (m.1 30 0 (m.1 22 0 13).toNatClampNeg)) - 48)).1 22 0 13) + 1))) (fun n => rfl) ?_
              exact ax_fg (lv2 := [some (.inr (.inr (22, 0))), none]) ⟨rfl, trivial⟩ (ih (ax_ui (ax_ui m 22 0 15 (((10 * (m.1 22 0 15)) + (m.1 30 0 (m.1 22 0 13).toNatClampNeg)) - 48)) 22 0 13 (((ax_ui m 22 0 15 (((10 * (m.1 22 0 15)) + (m.1 30 0 (m.1 22 0 13).toNatClampNeg)) - 48)).1 22 0 13) + 1)) _ h)
            · rw [if_neg c34] at h
              cases h
      · rw [if_neg c22] at h
        cases h
def F_X11_next_L50 : Nat → ax_M → Option ax_M
  | 0, _ => none
  | n + 1, m => if (m.1 22 0 10) ≤ (m.1 22 0 13) then (some (ax_ui m 22 0 14 119)) else (if ax_ok (m.1 22 0 13) 250 = true then (ax_b (F_X11_isLetter (m.1 30 0 (m.1 22 0 13).toNatClampNeg)) (fun r44 => if r44 = 0 then (some (ax_ui m 22 0 14 119)) else (F_X11_next_L50 n (ax_ui m 22 0 13 ((m.1 22 0 13) + 1))))) else (none))
set_option maxRecDepth 20000 in
set_option maxHeartbeats 4000000 in
theorem R_X11_next_L50 {e : Nat} : ∀ (n : Nat) (m : ax_M) (q : ax_M), F_X11_next_L50 n m = some q → ax_Ru (e + 2) L_X11_next 50 [some (.inr (.inr (22, 0))), none] [] m (none, q) := by
  intro n
  induction n with
  | zero =>
    intro m q h
    cases h
  | succ n ih =>
    intro m q h
    rw [F_X11_next_L50] at h
    have s40 : ∀ n, ax_ex (e + 2) L_X11_next 50 [some (.inr (.inr (22, 0))), none] [] m (n + 5) = if (m.1 22 0 10) ≤ (m.1 22 0 13) then ax_ex (e + 2) L_X11_next 69 [some (.inr (.inr (22, 0))), none] [] m n else ax_ex (e + 2) L_X11_next 55 [some (.inr (.inr (22, 0))), none] [] m n := fun n => rfl
    by_cases c39 : (m.1 22 0 10) ≤ (m.1 22 0 13)
    · rw [if_pos c39] at h
      refine ax_gt c39 s40 ?_
      obtain rfl := Option.some.inj h
      exact ax_rs 5 (fun n => rfl)
    · rw [if_neg c39] at h
      refine ax_gf c39 s40 ?_
      have s42 : ∀ n, ax_ex (e + 2) L_X11_next 55 [some (.inr (.inr (22, 0))), none] [] m (n + 5) = if ax_ok (m.1 22 0 13) 250 = true then ax_ex (e + 2) L_X11_next 60 [some (.inr (.inr (22, 0))), none] [.inl (m.1 30 0 (m.1 22 0 13).toNatClampNeg)] m n else none := fun n => rfl
      by_cases c41 : ax_ok (m.1 22 0 13) 250 = true
      · rw [if_pos c41] at h
        refine ax_gt c41 s42 ?_
        obtain ⟨r44, q43, h⟩ := ax_b_of h
        have s47 : ∀ n, ax_ex (e + 2) L_X11_next 60 [some (.inr (.inr (22, 0))), none] [.inl (m.1 30 0 (m.1 22 0 13).toNatClampNeg)] m (n + 1) = ax_aft (fun s m2 => ax_ex (e + 2) L_X11_next 61 [some (.inr (.inr (22, 0))), none] s m2 n) [] (ax_ex (e + 1) L_X11_isLetter 0 (ax_entry [.inl (m.1 30 0 (m.1 22 0 13).toNatClampNeg)] 1) [] m n) := fun n => rfl
        refine ax_gci (j := 1) (k2 := 61) (lv2 := [some (.inr (.inr (22, 0))), none]) (rest := []) ((R_X11_isLetter (by omega) q43)) s47 ?_
        have s46 : ∀ n, ax_ex (e + 2) L_X11_next 61 [some (.inr (.inr (22, 0))), none] [.inl r44] m (n + 1) = if r44 = 0 then ax_ex (e + 2) L_X11_next 69 [some (.inr (.inr (22, 0))), none] [] m n else ax_ex (e + 2) L_X11_next 62 [some (.inr (.inr (22, 0))), none] [] m n := fun n => rfl
        by_cases c45 : r44 = 0
        · rw [if_pos c45] at h
          refine ax_gt c45 s46 ?_
          obtain rfl := Option.some.inj h
          exact ax_rs 5 (fun n => rfl)
        · rw [if_neg c45] at h
          refine ax_gf c45 s46 ?_
          refine ax_go (j := 7) (k2 := 50) (lv2 := [some (.inr (.inr (22, 0))), none]) (st2 := []) (m2 := (ax_ui m 22 0 13 ((m.1 22 0 13) + 1))) (fun n => rfl) ?_
          exact ax_fg (lv2 := [some (.inr (.inr (22, 0))), none]) ⟨rfl, trivial⟩ (ih (ax_ui m 22 0 13 ((m.1 22 0 13) + 1)) _ h)
      · rw [if_neg c41] at h
        cases h
def F_X11_next_L4 : Nat → ax_M → Option ax_M
  | 0, _ => none
  | n + 1, m => if (m.1 22 0 10) ≤ (m.1 22 0 12) then (if ((ax_ui m 22 0 13 (m.1 22 0 12)).1 22 0 12) = ((ax_ui m 22 0 13 (m.1 22 0 12)).1 22 0 10) then (some (ax_ui (ax_ui m 22 0 13 (m.1 22 0 12)) 22 0 14 101)) else (if ax_ok ((ax_ui m 22 0 13 (m.1 22 0 12)).1 22 0 13) 250 = true then (ax_b (F_X11_isLetter ((ax_ui (ax_ui m 22 0 13 (m.1 22 0 12)) 22 0 13 (((ax_ui m 22 0 13 (m.1 22 0 12)).1 22 0 13) + 1)).1 30 0 ((ax_ui m 22 0 13 (m.1 22 0 12)).1 22 0 13).toNatClampNeg)) (fun r8 => if r8 = 0 then (ax_b (F_X11_isDigit ((ax_ui (ax_ui m 22 0 13 (m.1 22 0 12)) 22 0 13 (((ax_ui m 22 0 13 (m.1 22 0 12)).1 22 0 13) + 1)).1 30 0 ((ax_ui m 22 0 13 (m.1 22 0 12)).1 22 0 13).toNatClampNeg)) (fun r12 => if r12 = 0 then (if ((ax_ui (ax_ui m 22 0 13 (m.1 22 0 12)) 22 0 13 (((ax_ui m 22 0 13 (m.1 22 0 12)).1 22 0 13) + 1)).1 30 0 ((ax_ui m 22 0 13 (m.1 22 0 12)).1 22 0 13).toNatClampNeg) = 59 then (some (ax_ui (ax_ui (ax_ui m 22 0 13 (m.1 22 0 12)) 22 0 13 (((ax_ui m 22 0 13 (m.1 22 0 12)).1 22 0 13) + 1)) 22 0 14 59)) else (some (ax_ui (ax_ui (ax_ui m 22 0 13 (m.1 22 0 12)) 22 0 13 (((ax_ui m 22 0 13 (m.1 22 0 12)).1 22 0 13) + 1)) 22 0 14 120))) else (F_X11_next_L81 ax_FU (ax_ui (ax_ui (ax_ui m 22 0 13 (m.1 22 0 12)) 22 0 13 (((ax_ui m 22 0 13 (m.1 22 0 12)).1 22 0 13) + 1)) 22 0 15 (((ax_ui (ax_ui m 22 0 13 (m.1 22 0 12)) 22 0 13 (((ax_ui m 22 0 13 (m.1 22 0 12)).1 22 0 13) + 1)).1 30 0 ((ax_ui m 22 0 13 (m.1 22 0 12)).1 22 0 13).toNatClampNeg) - 48))))) else (F_X11_next_L50 ax_FU (ax_ui (ax_ui m 22 0 13 (m.1 22 0 12)) 22 0 13 (((ax_ui m 22 0 13 (m.1 22 0 12)).1 22 0 13) + 1))))) else (none))) else (if ax_ok (m.1 22 0 12) 250 = true then (if (m.1 30 0 (m.1 22 0 12).toNatClampNeg) = 32 then (F_X11_next_L4 n (ax_ui m 22 0 12 ((m.1 22 0 12) + 1))) else (if ((ax_ui m 22 0 13 (m.1 22 0 12)).1 22 0 12) = ((ax_ui m 22 0 13 (m.1 22 0 12)).1 22 0 10) then (some (ax_ui (ax_ui m 22 0 13 (m.1 22 0 12)) 22 0 14 101)) else (if ax_ok ((ax_ui m 22 0 13 (m.1 22 0 12)).1 22 0 13) 250 = true then (ax_b (F_X11_isLetter ((ax_ui (ax_ui m 22 0 13 (m.1 22 0 12)) 22 0 13 (((ax_ui m 22 0 13 (m.1 22 0 12)).1 22 0 13) + 1)).1 30 0 ((ax_ui m 22 0 13 (m.1 22 0 12)).1 22 0 13).toNatClampNeg)) (fun r59 => if r59 = 0 then (ax_b (F_X11_isDigit ((ax_ui (ax_ui m 22 0 13 (m.1 22 0 12)) 22 0 13 (((ax_ui m 22 0 13 (m.1 22 0 12)).1 22 0 13) + 1)).1 30 0 ((ax_ui m 22 0 13 (m.1 22 0 12)).1 22 0 13).toNatClampNeg)) (fun r63 => if r63 = 0 then (if ((ax_ui (ax_ui m 22 0 13 (m.1 22 0 12)) 22 0 13 (((ax_ui m 22 0 13 (m.1 22 0 12)).1 22 0 13) + 1)).1 30 0 ((ax_ui m 22 0 13 (m.1 22 0 12)).1 22 0 13).toNatClampNeg) = 59 then (some (ax_ui (ax_ui (ax_ui m 22 0 13 (m.1 22 0 12)) 22 0 13 (((ax_ui m 22 0 13 (m.1 22 0 12)).1 22 0 13) + 1)) 22 0 14 59)) else (some (ax_ui (ax_ui (ax_ui m 22 0 13 (m.1 22 0 12)) 22 0 13 (((ax_ui m 22 0 13 (m.1 22 0 12)).1 22 0 13) + 1)) 22 0 14 120))) else (F_X11_next_L81 ax_FU (ax_ui (ax_ui (ax_ui m 22 0 13 (m.1 22 0 12)) 22 0 13 (((ax_ui m 22 0 13 (m.1 22 0 12)).1 22 0 13) + 1)) 22 0 15 (((ax_ui (ax_ui m 22 0 13 (m.1 22 0 12)) 22 0 13 (((ax_ui m 22 0 13 (m.1 22 0 12)).1 22 0 13) + 1)).1 30 0 ((ax_ui m 22 0 13 (m.1 22 0 12)).1 22 0 13).toNatClampNeg) - 48))))) else (F_X11_next_L50 ax_FU (ax_ui (ax_ui m 22 0 13 (m.1 22 0 12)) 22 0 13 (((ax_ui m 22 0 13 (m.1 22 0 12)).1 22 0 13) + 1))))) else (none)))) else (none))
set_option maxRecDepth 20000 in
set_option maxHeartbeats 4000000 in
theorem R_X11_next_L4 {e : Nat} : ∀ (n : Nat) (m : ax_M) (q : ax_M), F_X11_next_L4 n m = some q → ax_Ru (e + 2) L_X11_next 4 [some (.inr (.inr (22, 0))), none] [] m (none, q) := by
  intro n
  induction n with
  | zero =>
    intro m q h
    cases h
  | succ n ih =>
    intro m q h
    rw [F_X11_next_L4] at h
    have s2 : ∀ n, ax_ex (e + 2) L_X11_next 4 [some (.inr (.inr (22, 0))), none] [] m (n + 5) = if (m.1 22 0 10) ≤ (m.1 22 0 12) then ax_ex (e + 2) L_X11_next 23 [some (.inr (.inr (22, 0))), none] [] m n else ax_ex (e + 2) L_X11_next 9 [some (.inr (.inr (22, 0))), none] [] m n := fun n => rfl
    by_cases c1 : (m.1 22 0 10) ≤ (m.1 22 0 12)
    · rw [if_pos c1] at h
      refine ax_gt c1 s2 ?_
      have s4 : ∀ n, ax_ex (e + 2) L_X11_next 23 [some (.inr (.inr (22, 0))), none] [] m (n + 9) = if ((ax_ui m 22 0 13 (m.1 22 0 12)).1 22 0 12) = ((ax_ui m 22 0 13 (m.1 22 0 12)).1 22 0 10) then ax_ex (e + 2) L_X11_next 32 [some (.inr (.inr (22, 0))), none] [] (ax_ui m 22 0 13 (m.1 22 0 12)) n else ax_ex (e + 2) L_X11_next 36 [some (.inr (.inr (22, 0))), none] [] (ax_ui m 22 0 13 (m.1 22 0 12)) n := fun n => rfl
      by_cases c3 : ((ax_ui m 22 0 13 (m.1 22 0 12)).1 22 0 12) = ((ax_ui m 22 0 13 (m.1 22 0 12)).1 22 0 10)
      · rw [if_pos c3] at h
        refine ax_gt c3 s4 ?_
        obtain rfl := Option.some.inj h
        exact ax_rs 4 (fun n => rfl)
      · rw [if_neg c3] at h
        refine ax_gf c3 s4 ?_
        have s6 : ∀ n, ax_ex (e + 2) L_X11_next 36 [some (.inr (.inr (22, 0))), none] [] (ax_ui m 22 0 13 (m.1 22 0 12)) (n + 10) = if ax_ok ((ax_ui m 22 0 13 (m.1 22 0 12)).1 22 0 13) 250 = true then ax_ex (e + 2) L_X11_next 46 [some (.inr (.inr (22, 0))), none] [.inl ((ax_ui (ax_ui m 22 0 13 (m.1 22 0 12)) 22 0 13 (((ax_ui m 22 0 13 (m.1 22 0 12)).1 22 0 13) + 1)).1 30 0 ((ax_ui m 22 0 13 (m.1 22 0 12)).1 22 0 13).toNatClampNeg)] (ax_ui (ax_ui m 22 0 13 (m.1 22 0 12)) 22 0 13 (((ax_ui m 22 0 13 (m.1 22 0 12)).1 22 0 13) + 1)) n else none := fun n => rfl
        by_cases c5 : ax_ok ((ax_ui m 22 0 13 (m.1 22 0 12)).1 22 0 13) 250 = true
        · rw [if_pos c5] at h
          refine ax_gt c5 s6 ?_
          obtain ⟨r8, q7, h⟩ := ax_b_of h
          have s49 : ∀ n, ax_ex (e + 2) L_X11_next 46 [some (.inr (.inr (22, 0))), none] [.inl ((ax_ui (ax_ui m 22 0 13 (m.1 22 0 12)) 22 0 13 (((ax_ui m 22 0 13 (m.1 22 0 12)).1 22 0 13) + 1)).1 30 0 ((ax_ui m 22 0 13 (m.1 22 0 12)).1 22 0 13).toNatClampNeg)] (ax_ui (ax_ui m 22 0 13 (m.1 22 0 12)) 22 0 13 (((ax_ui m 22 0 13 (m.1 22 0 12)).1 22 0 13) + 1)) (n + 3) = ax_aft (fun s m2 => ax_ex (e + 2) L_X11_next 49 [some (.inr (.inr (22, 0))), some (.inl ((ax_ui (ax_ui m 22 0 13 (m.1 22 0 12)) 22 0 13 (((ax_ui m 22 0 13 (m.1 22 0 12)).1 22 0 13) + 1)).1 30 0 ((ax_ui m 22 0 13 (m.1 22 0 12)).1 22 0 13).toNatClampNeg))] s m2 n) [] (ax_ex (e + 1) L_X11_isLetter 0 (ax_entry [.inl ((ax_ui (ax_ui m 22 0 13 (m.1 22 0 12)) 22 0 13 (((ax_ui m 22 0 13 (m.1 22 0 12)).1 22 0 13) + 1)).1 30 0 ((ax_ui m 22 0 13 (m.1 22 0 12)).1 22 0 13).toNatClampNeg)] 1) [] (ax_ui (ax_ui m 22 0 13 (m.1 22 0 12)) 22 0 13 (((ax_ui m 22 0 13 (m.1 22 0 12)).1 22 0 13) + 1)) n) := fun n => rfl
          refine ax_gci (j := 3) (k2 := 49) (lv2 := [some (.inr (.inr (22, 0))), some (.inl ((ax_ui (ax_ui m 22 0 13 (m.1 22 0 12)) 22 0 13 (((ax_ui m 22 0 13 (m.1 22 0 12)).1 22 0 13) + 1)).1 30 0 ((ax_ui m 22 0 13 (m.1 22 0 12)).1 22 0 13).toNatClampNeg))]) (rest := []) ((R_X11_isLetter (by omega) q7)) s49 ?_
          have s10 : ∀ n, ax_ex (e + 2) L_X11_next 49 [some (.inr (.inr (22, 0))), some (.inl ((ax_ui (ax_ui m 22 0 13 (m.1 22 0 12)) 22 0 13 (((ax_ui m 22 0 13 (m.1 22 0 12)).1 22 0 13) + 1)).1 30 0 ((ax_ui m 22 0 13 (m.1 22 0 12)).1 22 0 13).toNatClampNeg))] [.inl r8] (ax_ui (ax_ui m 22 0 13 (m.1 22 0 12)) 22 0 13 (((ax_ui m 22 0 13 (m.1 22 0 12)).1 22 0 13) + 1)) (n + 1) = if r8 = 0 then ax_ex (e + 2) L_X11_next 73 [some (.inr (.inr (22, 0))), some (.inl ((ax_ui (ax_ui m 22 0 13 (m.1 22 0 12)) 22 0 13 (((ax_ui m 22 0 13 (m.1 22 0 12)).1 22 0 13) + 1)).1 30 0 ((ax_ui m 22 0 13 (m.1 22 0 12)).1 22 0 13).toNatClampNeg))] [] (ax_ui (ax_ui m 22 0 13 (m.1 22 0 12)) 22 0 13 (((ax_ui m 22 0 13 (m.1 22 0 12)).1 22 0 13) + 1)) n else ax_ex (e + 2) L_X11_next 50 [some (.inr (.inr (22, 0))), some (.inl ((ax_ui (ax_ui m 22 0 13 (m.1 22 0 12)) 22 0 13 (((ax_ui m 22 0 13 (m.1 22 0 12)).1 22 0 13) + 1)).1 30 0 ((ax_ui m 22 0 13 (m.1 22 0 12)).1 22 0 13).toNatClampNeg))] [] (ax_ui (ax_ui m 22 0 13 (m.1 22 0 12)) 22 0 13 (((ax_ui m 22 0 13 (m.1 22 0 12)).1 22 0 13) + 1)) n := fun n => rfl
          by_cases c9 : r8 = 0
          · rw [if_pos c9] at h
            refine ax_gt c9 s10 ?_
            obtain ⟨r12, q11, h⟩ := ax_b_of h
            have s38 : ∀ n, ax_ex (e + 2) L_X11_next 73 [some (.inr (.inr (22, 0))), some (.inl ((ax_ui (ax_ui m 22 0 13 (m.1 22 0 12)) 22 0 13 (((ax_ui m 22 0 13 (m.1 22 0 12)).1 22 0 13) + 1)).1 30 0 ((ax_ui m 22 0 13 (m.1 22 0 12)).1 22 0 13).toNatClampNeg))] [] (ax_ui (ax_ui m 22 0 13 (m.1 22 0 12)) 22 0 13 (((ax_ui m 22 0 13 (m.1 22 0 12)).1 22 0 13) + 1)) (n + 2) = ax_aft (fun s m2 => ax_ex (e + 2) L_X11_next 75 [some (.inr (.inr (22, 0))), some (.inl ((ax_ui (ax_ui m 22 0 13 (m.1 22 0 12)) 22 0 13 (((ax_ui m 22 0 13 (m.1 22 0 12)).1 22 0 13) + 1)).1 30 0 ((ax_ui m 22 0 13 (m.1 22 0 12)).1 22 0 13).toNatClampNeg))] s m2 n) [] (ax_ex (e + 1) L_X11_isDigit 0 (ax_entry [.inl ((ax_ui (ax_ui m 22 0 13 (m.1 22 0 12)) 22 0 13 (((ax_ui m 22 0 13 (m.1 22 0 12)).1 22 0 13) + 1)).1 30 0 ((ax_ui m 22 0 13 (m.1 22 0 12)).1 22 0 13).toNatClampNeg)] 1) [] (ax_ui (ax_ui m 22 0 13 (m.1 22 0 12)) 22 0 13 (((ax_ui m 22 0 13 (m.1 22 0 12)).1 22 0 13) + 1)) n) := fun n => rfl
            refine ax_gci (j := 2) (k2 := 75) (lv2 := [some (.inr (.inr (22, 0))), some (.inl ((ax_ui (ax_ui m 22 0 13 (m.1 22 0 12)) 22 0 13 (((ax_ui m 22 0 13 (m.1 22 0 12)).1 22 0 13) + 1)).1 30 0 ((ax_ui m 22 0 13 (m.1 22 0 12)).1 22 0 13).toNatClampNeg))]) (rest := []) ((R_X11_isDigit (by omega) q11)) s38 ?_
            have s14 : ∀ n, ax_ex (e + 2) L_X11_next 75 [some (.inr (.inr (22, 0))), some (.inl ((ax_ui (ax_ui m 22 0 13 (m.1 22 0 12)) 22 0 13 (((ax_ui m 22 0 13 (m.1 22 0 12)).1 22 0 13) + 1)).1 30 0 ((ax_ui m 22 0 13 (m.1 22 0 12)).1 22 0 13).toNatClampNeg))] [.inl r12] (ax_ui (ax_ui m 22 0 13 (m.1 22 0 12)) 22 0 13 (((ax_ui m 22 0 13 (m.1 22 0 12)).1 22 0 13) + 1)) (n + 1) = if r12 = 0 then ax_ex (e + 2) L_X11_next 134 [some (.inr (.inr (22, 0))), some (.inl ((ax_ui (ax_ui m 22 0 13 (m.1 22 0 12)) 22 0 13 (((ax_ui m 22 0 13 (m.1 22 0 12)).1 22 0 13) + 1)).1 30 0 ((ax_ui m 22 0 13 (m.1 22 0 12)).1 22 0 13).toNatClampNeg))] [] (ax_ui (ax_ui m 22 0 13 (m.1 22 0 12)) 22 0 13 (((ax_ui m 22 0 13 (m.1 22 0 12)).1 22 0 13) + 1)) n else ax_ex (e + 2) L_X11_next 76 [some (.inr (.inr (22, 0))), some (.inl ((ax_ui (ax_ui m 22 0 13 (m.1 22 0 12)) 22 0 13 (((ax_ui m 22 0 13 (m.1 22 0 12)).1 22 0 13) + 1)).1 30 0 ((ax_ui m 22 0 13 (m.1 22 0 12)).1 22 0 13).toNatClampNeg))] [] (ax_ui (ax_ui m 22 0 13 (m.1 22 0 12)) 22 0 13 (((ax_ui m 22 0 13 (m.1 22 0 12)).1 22 0 13) + 1)) n := fun n => rfl
            by_cases c13 : r12 = 0
            · rw [if_pos c13] at h
              refine ax_gt c13 s14 ?_
              have s16 : ∀ n, ax_ex (e + 2) L_X11_next 134 [some (.inr (.inr (22, 0))), some (.inl ((ax_ui (ax_ui m 22 0 13 (m.1 22 0 12)) 22 0 13 (((ax_ui m 22 0 13 (m.1 22 0 12)).1 22 0 13) + 1)).1 30 0 ((ax_ui m 22 0 13 (m.1 22 0 12)).1 22 0 13).toNatClampNeg))] [] (ax_ui (ax_ui m 22 0 13 (m.1 22 0 12)) 22 0 13 (((ax_ui m 22 0 13 (m.1 22 0 12)).1 22 0 13) + 1)) (n + 4) = if ((ax_ui (ax_ui m 22 0 13 (m.1 22 0 12)) 22 0 13 (((ax_ui m 22 0 13 (m.1 22 0 12)).1 22 0 13) + 1)).1 30 0 ((ax_ui m 22 0 13 (m.1 22 0 12)).1 22 0 13).toNatClampNeg) = 59 then ax_ex (e + 2) L_X11_next 138 [some (.inr (.inr (22, 0))), some (.inl ((ax_ui (ax_ui m 22 0 13 (m.1 22 0 12)) 22 0 13 (((ax_ui m 22 0 13 (m.1 22 0 12)).1 22 0 13) + 1)).1 30 0 ((ax_ui m 22 0 13 (m.1 22 0 12)).1 22 0 13).toNatClampNeg))] [.inr (.inr (22, 0))] (ax_ui (ax_ui m 22 0 13 (m.1 22 0 12)) 22 0 13 (((ax_ui m 22 0 13 (m.1 22 0 12)).1 22 0 13) + 1)) n else ax_ex (e + 2) L_X11_next 140 [some (.inr (.inr (22, 0))), some (.inl ((ax_ui (ax_ui m 22 0 13 (m.1 22 0 12)) 22 0 13 (((ax_ui m 22 0 13 (m.1 22 0 12)).1 22 0 13) + 1)).1 30 0 ((ax_ui m 22 0 13 (m.1 22 0 12)).1 22 0 13).toNatClampNeg))] [.inr (.inr (22, 0))] (ax_ui (ax_ui m 22 0 13 (m.1 22 0 12)) 22 0 13 (((ax_ui m 22 0 13 (m.1 22 0 12)).1 22 0 13) + 1)) n := fun n => rfl
              by_cases c15 : ((ax_ui (ax_ui m 22 0 13 (m.1 22 0 12)) 22 0 13 (((ax_ui m 22 0 13 (m.1 22 0 12)).1 22 0 13) + 1)).1 30 0 ((ax_ui m 22 0 13 (m.1 22 0 12)).1 22 0 13).toNatClampNeg) = 59
              · rw [if_pos c15] at h
                refine ax_gt c15 s16 ?_
                obtain rfl := Option.some.inj h
                exact ax_rs 4 (fun n => rfl)
              · rw [if_neg c15] at h
                refine ax_gf c15 s16 ?_
                obtain rfl := Option.some.inj h
                exact ax_rs 3 (fun n => rfl)
            · rw [if_neg c13] at h
              refine ax_gf c13 s14 ?_
              refine ax_go (j := 5) (k2 := 81) (lv2 := [some (.inr (.inr (22, 0))), some (.inl ((ax_ui (ax_ui m 22 0 13 (m.1 22 0 12)) 22 0 13 (((ax_ui m 22 0 13 (m.1 22 0 12)).1 22 0 13) + 1)).1 30 0 ((ax_ui m 22 0 13 (m.1 22 0 12)).1 22 0 13).toNatClampNeg))]) (st2 := []) (m2 := (ax_ui (ax_ui (ax_ui m 22 0 13 (m.1 22 0 12)) 22 0 13 (((ax_ui m 22 0 13 (m.1 22 0 12)).1 22 0 13) + 1)) 22 0 15 (((ax_ui (ax_ui m 22 0 13 (m.1 22 0 12)) 22 0 13 (((ax_ui m 22 0 13 (m.1 22 0 12)).1 22 0 13) + 1)).1 30 0 ((ax_ui m 22 0 13 (m.1 22 0 12)).1 22 0 13).toNatClampNeg) - 48))) (fun n => rfl) ?_
              refine ax_fg (lv2 := [some (.inr (.inr (22, 0))), none]) ⟨rfl, trivial⟩ ?_
              refine R_X11_next_L81 _ (ax_ui (ax_ui (ax_ui m 22 0 13 (m.1 22 0 12)) 22 0 13 (((ax_ui m 22 0 13 (m.1 22 0 12)).1 22 0 13) + 1)) 22 0 15 (((ax_ui (ax_ui m 22 0 13 (m.1 22 0 12)) 22 0 13 (((ax_ui m 22 0 13 (m.1 22 0 12)).1 22 0 13) + 1)).1 30 0 ((ax_ui m 22 0 13 (m.1 22 0 12)).1 22 0 13).toNatClampNeg) - 48)) _ h
          · rw [if_neg c9] at h
            refine ax_gf c9 s10 ?_
            refine ax_fg (lv2 := [some (.inr (.inr (22, 0))), none]) ⟨rfl, trivial⟩ ?_
            refine R_X11_next_L50 _ (ax_ui (ax_ui m 22 0 13 (m.1 22 0 12)) 22 0 13 (((ax_ui m 22 0 13 (m.1 22 0 12)).1 22 0 13) + 1)) _ h
        · rw [if_neg c5] at h
          cases h
    · rw [if_neg c1] at h
      refine ax_gf c1 s2 ?_
      have s51 : ∀ n, ax_ex (e + 2) L_X11_next 9 [some (.inr (.inr (22, 0))), none] [] m (n + 5) = if ax_ok (m.1 22 0 12) 250 = true then ax_ex (e + 2) L_X11_next 14 [some (.inr (.inr (22, 0))), none] [.inl (m.1 30 0 (m.1 22 0 12).toNatClampNeg)] m n else none := fun n => rfl
      by_cases c50 : ax_ok (m.1 22 0 12) 250 = true
      · rw [if_pos c50] at h
        refine ax_gt c50 s51 ?_
        have s53 : ∀ n, ax_ex (e + 2) L_X11_next 14 [some (.inr (.inr (22, 0))), none] [.inl (m.1 30 0 (m.1 22 0 12).toNatClampNeg)] m (n + 2) = if (m.1 30 0 (m.1 22 0 12).toNatClampNeg) = 32 then ax_ex (e + 2) L_X11_next 16 [some (.inr (.inr (22, 0))), none] [] m n else ax_ex (e + 2) L_X11_next 23 [some (.inr (.inr (22, 0))), none] [] m n := fun n => rfl
        by_cases c52 : (m.1 30 0 (m.1 22 0 12).toNatClampNeg) = 32
        · rw [if_pos c52] at h
          refine ax_gt c52 s53 ?_
          refine ax_go (j := 7) (k2 := 4) (lv2 := [some (.inr (.inr (22, 0))), none]) (st2 := []) (m2 := (ax_ui m 22 0 12 ((m.1 22 0 12) + 1))) (fun n => rfl) ?_
          exact ax_fg (lv2 := [some (.inr (.inr (22, 0))), none]) ⟨rfl, trivial⟩ (ih (ax_ui m 22 0 12 ((m.1 22 0 12) + 1)) _ h)
        · rw [if_neg c52] at h
          refine ax_gf c52 s53 ?_
          have s55 : ∀ n, ax_ex (e + 2) L_X11_next 23 [some (.inr (.inr (22, 0))), none] [] m (n + 9) = if ((ax_ui m 22 0 13 (m.1 22 0 12)).1 22 0 12) = ((ax_ui m 22 0 13 (m.1 22 0 12)).1 22 0 10) then ax_ex (e + 2) L_X11_next 32 [some (.inr (.inr (22, 0))), none] [] (ax_ui m 22 0 13 (m.1 22 0 12)) n else ax_ex (e + 2) L_X11_next 36 [some (.inr (.inr (22, 0))), none] [] (ax_ui m 22 0 13 (m.1 22 0 12)) n := fun n => rfl
          by_cases c54 : ((ax_ui m 22 0 13 (m.1 22 0 12)).1 22 0 12) = ((ax_ui m 22 0 13 (m.1 22 0 12)).1 22 0 10)
          · rw [if_pos c54] at h
            refine ax_gt c54 s55 ?_
            obtain rfl := Option.some.inj h
            exact ax_rs 4 (fun n => rfl)
          · rw [if_neg c54] at h
            refine ax_gf c54 s55 ?_
            have s57 : ∀ n, ax_ex (e + 2) L_X11_next 36 [some (.inr (.inr (22, 0))), none] [] (ax_ui m 22 0 13 (m.1 22 0 12)) (n + 10) = if ax_ok ((ax_ui m 22 0 13 (m.1 22 0 12)).1 22 0 13) 250 = true then ax_ex (e + 2) L_X11_next 46 [some (.inr (.inr (22, 0))), none] [.inl ((ax_ui (ax_ui m 22 0 13 (m.1 22 0 12)) 22 0 13 (((ax_ui m 22 0 13 (m.1 22 0 12)).1 22 0 13) + 1)).1 30 0 ((ax_ui m 22 0 13 (m.1 22 0 12)).1 22 0 13).toNatClampNeg)] (ax_ui (ax_ui m 22 0 13 (m.1 22 0 12)) 22 0 13 (((ax_ui m 22 0 13 (m.1 22 0 12)).1 22 0 13) + 1)) n else none := fun n => rfl
            by_cases c56 : ax_ok ((ax_ui m 22 0 13 (m.1 22 0 12)).1 22 0 13) 250 = true
            · rw [if_pos c56] at h
              refine ax_gt c56 s57 ?_
              obtain ⟨r59, q58, h⟩ := ax_b_of h
              have s71 : ∀ n, ax_ex (e + 2) L_X11_next 46 [some (.inr (.inr (22, 0))), none] [.inl ((ax_ui (ax_ui m 22 0 13 (m.1 22 0 12)) 22 0 13 (((ax_ui m 22 0 13 (m.1 22 0 12)).1 22 0 13) + 1)).1 30 0 ((ax_ui m 22 0 13 (m.1 22 0 12)).1 22 0 13).toNatClampNeg)] (ax_ui (ax_ui m 22 0 13 (m.1 22 0 12)) 22 0 13 (((ax_ui m 22 0 13 (m.1 22 0 12)).1 22 0 13) + 1)) (n + 3) = ax_aft (fun s m2 => ax_ex (e + 2) L_X11_next 49 [some (.inr (.inr (22, 0))), some (.inl ((ax_ui (ax_ui m 22 0 13 (m.1 22 0 12)) 22 0 13 (((ax_ui m 22 0 13 (m.1 22 0 12)).1 22 0 13) + 1)).1 30 0 ((ax_ui m 22 0 13 (m.1 22 0 12)).1 22 0 13).toNatClampNeg))] s m2 n) [] (ax_ex (e + 1) L_X11_isLetter 0 (ax_entry [.inl ((ax_ui (ax_ui m 22 0 13 (m.1 22 0 12)) 22 0 13 (((ax_ui m 22 0 13 (m.1 22 0 12)).1 22 0 13) + 1)).1 30 0 ((ax_ui m 22 0 13 (m.1 22 0 12)).1 22 0 13).toNatClampNeg)] 1) [] (ax_ui (ax_ui m 22 0 13 (m.1 22 0 12)) 22 0 13 (((ax_ui m 22 0 13 (m.1 22 0 12)).1 22 0 13) + 1)) n) := fun n => rfl
              refine ax_gci (j := 3) (k2 := 49) (lv2 := [some (.inr (.inr (22, 0))), some (.inl ((ax_ui (ax_ui m 22 0 13 (m.1 22 0 12)) 22 0 13 (((ax_ui m 22 0 13 (m.1 22 0 12)).1 22 0 13) + 1)).1 30 0 ((ax_ui m 22 0 13 (m.1 22 0 12)).1 22 0 13).toNatClampNeg))]) (rest := []) ((R_X11_isLetter (by omega) q58)) s71 ?_
              have s61 : ∀ n, ax_ex (e + 2) L_X11_next 49 [some (.inr (.inr (22, 0))), some (.inl ((ax_ui (ax_ui m 22 0 13 (m.1 22 0 12)) 22 0 13 (((ax_ui m 22 0 13 (m.1 22 0 12)).1 22 0 13) + 1)).1 30 0 ((ax_ui m 22 0 13 (m.1 22 0 12)).1 22 0 13).toNatClampNeg))] [.inl r59] (ax_ui (ax_ui m 22 0 13 (m.1 22 0 12)) 22 0 13 (((ax_ui m 22 0 13 (m.1 22 0 12)).1 22 0 13) + 1)) (n + 1) = if r59 = 0 then ax_ex (e + 2) L_X11_next 73 [some (.inr (.inr (22, 0))), some (.inl ((ax_ui (ax_ui m 22 0 13 (m.1 22 0 12)) 22 0 13 (((ax_ui m 22 0 13 (m.1 22 0 12)).1 22 0 13) + 1)).1 30 0 ((ax_ui m 22 0 13 (m.1 22 0 12)).1 22 0 13).toNatClampNeg))] [] (ax_ui (ax_ui m 22 0 13 (m.1 22 0 12)) 22 0 13 (((ax_ui m 22 0 13 (m.1 22 0 12)).1 22 0 13) + 1)) n else ax_ex (e + 2) L_X11_next 50 [some (.inr (.inr (22, 0))), some (.inl ((ax_ui (ax_ui m 22 0 13 (m.1 22 0 12)) 22 0 13 (((ax_ui m 22 0 13 (m.1 22 0 12)).1 22 0 13) + 1)).1 30 0 ((ax_ui m 22 0 13 (m.1 22 0 12)).1 22 0 13).toNatClampNeg))] [] (ax_ui (ax_ui m 22 0 13 (m.1 22 0 12)) 22 0 13 (((ax_ui m 22 0 13 (m.1 22 0 12)).1 22 0 13) + 1)) n := fun n => rfl
              by_cases c60 : r59 = 0
              · rw [if_pos c60] at h
                refine ax_gt c60 s61 ?_
                obtain ⟨r63, q62, h⟩ := ax_b_of h
                have s69 : ∀ n, ax_ex (e + 2) L_X11_next 73 [some (.inr (.inr (22, 0))), some (.inl ((ax_ui (ax_ui m 22 0 13 (m.1 22 0 12)) 22 0 13 (((ax_ui m 22 0 13 (m.1 22 0 12)).1 22 0 13) + 1)).1 30 0 ((ax_ui m 22 0 13 (m.1 22 0 12)).1 22 0 13).toNatClampNeg))] [] (ax_ui (ax_ui m 22 0 13 (m.1 22 0 12)) 22 0 13 (((ax_ui m 22 0 13 (m.1 22 0 12)).1 22 0 13) + 1)) (n + 2) = ax_aft (fun s m2 => ax_ex (e + 2) L_X11_next 75 [some (.inr (.inr (22, 0))), some (.inl ((ax_ui (ax_ui m 22 0 13 (m.1 22 0 12)) 22 0 13 (((ax_ui m 22 0 13 (m.1 22 0 12)).1 22 0 13) + 1)).1 30 0 ((ax_ui m 22 0 13 (m.1 22 0 12)).1 22 0 13).toNatClampNeg))] s m2 n) [] (ax_ex (e + 1) L_X11_isDigit 0 (ax_entry [.inl ((ax_ui (ax_ui m 22 0 13 (m.1 22 0 12)) 22 0 13 (((ax_ui m 22 0 13 (m.1 22 0 12)).1 22 0 13) + 1)).1 30 0 ((ax_ui m 22 0 13 (m.1 22 0 12)).1 22 0 13).toNatClampNeg)] 1) [] (ax_ui (ax_ui m 22 0 13 (m.1 22 0 12)) 22 0 13 (((ax_ui m 22 0 13 (m.1 22 0 12)).1 22 0 13) + 1)) n) := fun n => rfl
                refine ax_gci (j := 2) (k2 := 75) (lv2 := [some (.inr (.inr (22, 0))), some (.inl ((ax_ui (ax_ui m 22 0 13 (m.1 22 0 12)) 22 0 13 (((ax_ui m 22 0 13 (m.1 22 0 12)).1 22 0 13) + 1)).1 30 0 ((ax_ui m 22 0 13 (m.1 22 0 12)).1 22 0 13).toNatClampNeg))]) (rest := []) ((R_X11_isDigit (by omega) q62)) s69 ?_
                have s65 : ∀ n, ax_ex (e + 2) L_X11_next 75 [some (.inr (.inr (22, 0))), some (.inl ((ax_ui (ax_ui m 22 0 13 (m.1 22 0 12)) 22 0 13 (((ax_ui m 22 0 13 (m.1 22 0 12)).1 22 0 13) + 1)).1 30 0 ((ax_ui m 22 0 13 (m.1 22 0 12)).1 22 0 13).toNatClampNeg))] [.inl r63] (ax_ui (ax_ui m 22 0 13 (m.1 22 0 12)) 22 0 13 (((ax_ui m 22 0 13 (m.1 22 0 12)).1 22 0 13) + 1)) (n + 1) = if r63 = 0 then ax_ex (e + 2) L_X11_next 134 [some (.inr (.inr (22, 0))), some (.inl ((ax_ui (ax_ui m 22 0 13 (m.1 22 0 12)) 22 0 13 (((ax_ui m 22 0 13 (m.1 22 0 12)).1 22 0 13) + 1)).1 30 0 ((ax_ui m 22 0 13 (m.1 22 0 12)).1 22 0 13).toNatClampNeg))] [] (ax_ui (ax_ui m 22 0 13 (m.1 22 0 12)) 22 0 13 (((ax_ui m 22 0 13 (m.1 22 0 12)).1 22 0 13) + 1)) n else ax_ex (e + 2) L_X11_next 76 [some (.inr (.inr (22, 0))), some (.inl ((ax_ui (ax_ui m 22 0 13 (m.1 22 0 12)) 22 0 13 (((ax_ui m 22 0 13 (m.1 22 0 12)).1 22 0 13) + 1)).1 30 0 ((ax_ui m 22 0 13 (m.1 22 0 12)).1 22 0 13).toNatClampNeg))] [] (ax_ui (ax_ui m 22 0 13 (m.1 22 0 12)) 22 0 13 (((ax_ui m 22 0 13 (m.1 22 0 12)).1 22 0 13) + 1)) n := fun n => rfl
                by_cases c64 : r63 = 0
                · rw [if_pos c64] at h
                  refine ax_gt c64 s65 ?_
                  have s67 : ∀ n, ax_ex (e + 2) L_X11_next 134 [some (.inr (.inr (22, 0))), some (.inl ((ax_ui (ax_ui m 22 0 13 (m.1 22 0 12)) 22 0 13 (((ax_ui m 22 0 13 (m.1 22 0 12)).1 22 0 13) + 1)).1 30 0 ((ax_ui m 22 0 13 (m.1 22 0 12)).1 22 0 13).toNatClampNeg))] [] (ax_ui (ax_ui m 22 0 13 (m.1 22 0 12)) 22 0 13 (((ax_ui m 22 0 13 (m.1 22 0 12)).1 22 0 13) + 1)) (n + 4) = if ((ax_ui (ax_ui m 22 0 13 (m.1 22 0 12)) 22 0 13 (((ax_ui m 22 0 13 (m.1 22 0 12)).1 22 0 13) + 1)).1 30 0 ((ax_ui m 22 0 13 (m.1 22 0 12)).1 22 0 13).toNatClampNeg) = 59 then ax_ex (e + 2) L_X11_next 138 [some (.inr (.inr (22, 0))), some (.inl ((ax_ui (ax_ui m 22 0 13 (m.1 22 0 12)) 22 0 13 (((ax_ui m 22 0 13 (m.1 22 0 12)).1 22 0 13) + 1)).1 30 0 ((ax_ui m 22 0 13 (m.1 22 0 12)).1 22 0 13).toNatClampNeg))] [.inr (.inr (22, 0))] (ax_ui (ax_ui m 22 0 13 (m.1 22 0 12)) 22 0 13 (((ax_ui m 22 0 13 (m.1 22 0 12)).1 22 0 13) + 1)) n else ax_ex (e + 2) L_X11_next 140 [some (.inr (.inr (22, 0))), some (.inl ((ax_ui (ax_ui m 22 0 13 (m.1 22 0 12)) 22 0 13 (((ax_ui m 22 0 13 (m.1 22 0 12)).1 22 0 13) + 1)).1 30 0 ((ax_ui m 22 0 13 (m.1 22 0 12)).1 22 0 13).toNatClampNeg))] [.inr (.inr (22, 0))] (ax_ui (ax_ui m 22 0 13 (m.1 22 0 12)) 22 0 13 (((ax_ui m 22 0 13 (m.1 22 0 12)).1 22 0 13) + 1)) n := fun n => rfl
                  by_cases c66 : ((ax_ui (ax_ui m 22 0 13 (m.1 22 0 12)) 22 0 13 (((ax_ui m 22 0 13 (m.1 22 0 12)).1 22 0 13) + 1)).1 30 0 ((ax_ui m 22 0 13 (m.1 22 0 12)).1 22 0 13).toNatClampNeg) = 59
                  · rw [if_pos c66] at h
                    refine ax_gt c66 s67 ?_
                    obtain rfl := Option.some.inj h
                    exact ax_rs 4 (fun n => rfl)
                  · rw [if_neg c66] at h
                    refine ax_gf c66 s67 ?_
                    obtain rfl := Option.some.inj h
                    exact ax_rs 3 (fun n => rfl)
                · rw [if_neg c64] at h
                  refine ax_gf c64 s65 ?_
                  refine ax_go (j := 5) (k2 := 81) (lv2 := [some (.inr (.inr (22, 0))), some (.inl ((ax_ui (ax_ui m 22 0 13 (m.1 22 0 12)) 22 0 13 (((ax_ui m 22 0 13 (m.1 22 0 12)).1 22 0 13) + 1)).1 30 0 ((ax_ui m 22 0 13 (m.1 22 0 12)).1 22 0 13).toNatClampNeg))]) (st2 := []) (m2 := (ax_ui (ax_ui (ax_ui m 22 0 13 (m.1 22 0 12)) 22 0 13 (((ax_ui m 22 0 13 (m.1 22 0 12)).1 22 0 13) + 1)) 22 0 15 (((ax_ui (ax_ui m 22 0 13 (m.1 22 0 12)) 22 0 13 (((ax_ui m 22 0 13 (m.1 22 0 12)).1 22 0 13) + 1)).1 30 0 ((ax_ui m 22 0 13 (m.1 22 0 12)).1 22 0 13).toNatClampNeg) - 48))) (fun n => rfl) ?_
                  refine ax_fg (lv2 := [some (.inr (.inr (22, 0))), none]) ⟨rfl, trivial⟩ ?_
                  refine R_X11_next_L81 _ (ax_ui (ax_ui (ax_ui m 22 0 13 (m.1 22 0 12)) 22 0 13 (((ax_ui m 22 0 13 (m.1 22 0 12)).1 22 0 13) + 1)) 22 0 15 (((ax_ui (ax_ui m 22 0 13 (m.1 22 0 12)) 22 0 13 (((ax_ui m 22 0 13 (m.1 22 0 12)).1 22 0 13) + 1)).1 30 0 ((ax_ui m 22 0 13 (m.1 22 0 12)).1 22 0 13).toNatClampNeg) - 48)) _ h
              · rw [if_neg c60] at h
                refine ax_gf c60 s61 ?_
                refine ax_fg (lv2 := [some (.inr (.inr (22, 0))), none]) ⟨rfl, trivial⟩ ?_
                refine R_X11_next_L50 _ (ax_ui (ax_ui m 22 0 13 (m.1 22 0 12)) 22 0 13 (((ax_ui m 22 0 13 (m.1 22 0 12)).1 22 0 13) + 1)) _ h
            · rw [if_neg c56] at h
              cases h
      · rw [if_neg c50] at h
        cases h
def F_X11_next (m : ax_M) : Option ax_M := F_X11_next_L4 ax_FU (ax_ui m 22 0 12 (m.1 22 0 13))
set_option maxRecDepth 20000 in
set_option maxHeartbeats 4000000 in
theorem R_X11_next {d : Nat} (hd : 2 ≤ d) {m : ax_M} {q : ax_M} (h : F_X11_next m = some q) : ax_Ru d L_X11_next 0 (ax_entry [.inr (.inr (22, 0))] 2) [] m (none, q) := by
  obtain ⟨e, rfl⟩ : ∃ e, d = e + 2 := ⟨d - 2, by omega⟩
  unfold F_X11_next at h
  refine ax_go (j := 4) (k2 := 4) (lv2 := [some (.inr (.inr (22, 0))), none]) (st2 := []) (m2 := (ax_ui m 22 0 12 (m.1 22 0 13))) (fun n => rfl) ?_
  refine ax_fg (lv2 := [some (.inr (.inr (22, 0))), none]) ⟨rfl, trivial⟩ ?_
  refine R_X11_next_L4 _ (ax_ui m 22 0 12 (m.1 22 0 13)) _ h
def F_X11_isWord_L16 : Nat → ax_M → Nat → Int32 → Option Int32
  | 0, _, _, _ => none
  | n + 1, m, g1, v2 => if (Int32.ofNat (ax_word g1).length) ≤ v2 then (some 1) else (if ax_ok ((m.1 22 0 12) + v2) 250 = true then (if ax_ok v2 (ax_word g1).length = true then (if (m.1 30 0 ((m.1 22 0 12) + v2).toNatClampNeg) = (ax_chr g1 v2.toNatClampNeg) then (F_X11_isWord_L16 n m g1 (v2 + 1)) else (some 0)) else none) else (none))
set_option maxRecDepth 20000 in
set_option maxHeartbeats 4000000 in
theorem R_X11_isWord_L16 {e : Nat} {m : ax_M} {g1 : Nat} : ∀ (n : Nat) (v2 : Int32) (q : Int32), F_X11_isWord_L16 n m g1 v2 = some q → ax_Ru (e + 6) L_X11_isWord 16 [some (.inr (.inr (22, 0))), some (.inr (.inr (42, g1))), some (.inl v2)] [] m (some (.inl q), m) := by
  intro n
  induction n with
  | zero =>
    intro v2 q h
    cases h
  | succ n ih =>
    intro v2 q h
    rw [F_X11_isWord_L16] at h
    have s7 : ∀ n, ax_ex (e + 6) L_X11_isWord 16 [some (.inr (.inr (22, 0))), some (.inr (.inr (42, g1))), some (.inl v2)] [] m (n + 4) = if (Int32.ofNat (ax_word g1).length) ≤ v2 then ax_ex (e + 6) L_X11_isWord 35 [some (.inr (.inr (22, 0))), some (.inr (.inr (42, g1))), some (.inl v2)] [] m n else ax_ex (e + 6) L_X11_isWord 20 [some (.inr (.inr (22, 0))), some (.inr (.inr (42, g1))), some (.inl v2)] [] m n := fun n => rfl
    by_cases c6 : (Int32.ofNat (ax_word g1).length) ≤ v2
    · rw [if_pos c6] at h
      refine ax_gt c6 s7 ?_
      obtain rfl := Option.some.inj h
      exact ax_rq (c := (1 : Int32) = 0 ∨ (1 : Int32) = 1) (j := 2) (by decide) (fun n => rfl)
    · rw [if_neg c6] at h
      refine ax_gf c6 s7 ?_
      refine ax_go (j := 6) (k2 := 26) (lv2 := [some (.inr (.inr (22, 0))), some (.inr (.inr (42, g1))), some (.inl v2)]) (st2 := [.inl ((m.1 22 0 12) + v2), .inr (.inr (30, 0))]) (m2 := m) (fun n => rfl) ?_
      obtain ⟨y8, hy8⟩ : ∃ y : Int32, y = ((m.1 22 0 12) + v2) := ⟨_, rfl⟩
      rw [← hy8] at h ⊢
      have s10 : ∀ n, ax_ex (e + 6) L_X11_isWord 26 [some (.inr (.inr (22, 0))), some (.inr (.inr (42, g1))), some (.inl v2)] [.inl y8, .inr (.inr (30, 0))] m (n + 1) = if ax_ok y8 250 = true then ax_ex (e + 6) L_X11_isWord 27 [some (.inr (.inr (22, 0))), some (.inr (.inr (42, g1))), some (.inl v2)] [.inl (m.1 30 0 y8.toNatClampNeg)] m n else none := fun n => rfl
      by_cases c9 : ax_ok y8 250 = true
      · rw [if_pos c9] at h
        refine ax_gt c9 s10 ?_
        have s12 : ∀ n, ax_ex (e + 6) L_X11_isWord 27 [some (.inr (.inr (22, 0))), some (.inr (.inr (42, g1))), some (.inl v2)] [.inl (m.1 30 0 y8.toNatClampNeg)] m (n + 3) = ax_aft (fun s m2 => ax_ex (e + 6) L_X11_isWord 30 [some (.inr (.inr (22, 0))), some (.inr (.inr (42, g1))), some (.inl v2)] s m2 n) [.inl (m.1 30 0 y8.toNatClampNeg)] (if ax_ok v2 (ax_word g1).length = true then some (some (.inl (ax_chr g1 v2.toNatClampNeg)), m) else none) := fun n => rfl
        by_cases c11 : ax_ok v2 (ax_word g1).length = true
        · rw [if_pos c11] at h
          refine ax_go (j := 3) (k2 := 30) (lv2 := [some (.inr (.inr (22, 0))), some (.inr (.inr (42, g1))), some (.inl v2)]) (st2 := [.inl (ax_chr g1 v2.toNatClampNeg), .inl (m.1 30 0 y8.toNatClampNeg)]) (m2 := m) (fun n => by rw [s12 n, if_pos c11]; rfl) ?_
          have s14 : ∀ n, ax_ex (e + 6) L_X11_isWord 30 [some (.inr (.inr (22, 0))), some (.inr (.inr (42, g1))), some (.inl v2)] [.inl (ax_chr g1 v2.toNatClampNeg), .inl (m.1 30 0 y8.toNatClampNeg)] m (n + 1) = if (m.1 30 0 y8.toNatClampNeg) = (ax_chr g1 v2.toNatClampNeg) then ax_ex (e + 6) L_X11_isWord 33 [some (.inr (.inr (22, 0))), some (.inr (.inr (42, g1))), some (.inl v2)] [] m n else ax_ex (e + 6) L_X11_isWord 31 [some (.inr (.inr (22, 0))), some (.inr (.inr (42, g1))), some (.inl v2)] [] m n := fun n => rfl
          by_cases c13 : (m.1 30 0 y8.toNatClampNeg) = (ax_chr g1 v2.toNatClampNeg)
          · rw [if_pos c13] at h
            refine ax_gt c13 s14 ?_
            refine ax_go (j := 2) (k2 := 16) (lv2 := [some (.inr (.inr (22, 0))), some (.inr (.inr (42, g1))), some (.inl (v2 + 1))]) (st2 := []) (m2 := m) (fun n => rfl) ?_
            exact ax_fg (lv2 := [some (.inr (.inr (22, 0))), some (.inr (.inr (42, g1))), some (.inl (v2 + 1))]) ⟨rfl, rfl, rfl, trivial⟩ (ih (v2 + 1) _ h)
          · rw [if_neg c13] at h
            refine ax_gf c13 s14 ?_
            obtain rfl := Option.some.inj h
            exact ax_rq (c := (0 : Int32) = 0 ∨ (0 : Int32) = 1) (j := 2) (by decide) (fun n => rfl)
        · rw [if_neg c11] at h
          cases h
      · rw [if_neg c9] at h
        cases h
def F_X11_isWord (m : ax_M) (g1 : Nat) : Option Int32 := if (m.1 22 0 14) = 119 then (if ((m.1 22 0 13) - (m.1 22 0 12)) = (Int32.ofNat (ax_word g1).length) then (F_X11_isWord_L16 ax_FU m g1 0) else (some 0)) else (some 0)
set_option maxRecDepth 20000 in
set_option maxHeartbeats 4000000 in
theorem R_X11_isWord {d : Nat} (hd : 6 ≤ d) {m : ax_M} {g1 : Nat} {q : Int32} (h : F_X11_isWord m g1 = some q) : ax_Ru d L_X11_isWord 0 (ax_entry [.inr (.inr (22, 0)), .inr (.inr (42, g1))] 3) [] m (some (.inl q), m) := by
  obtain ⟨e, rfl⟩ : ∃ e, d = e + 6 := ⟨d - 6, by omega⟩
  unfold F_X11_isWord at h
  have s2 : ∀ n, ax_ex (e + 6) L_X11_isWord 0 (ax_entry [.inr (.inr (22, 0)), .inr (.inr (42, g1))] 3) [] m (n + 4) = if (m.1 22 0 14) = 119 then ax_ex (e + 6) L_X11_isWord 4 [some (.inr (.inr (22, 0))), some (.inr (.inr (42, g1))), none] [] m n else ax_ex (e + 6) L_X11_isWord 12 [some (.inr (.inr (22, 0))), some (.inr (.inr (42, g1))), none] [] m n := fun n => rfl
  by_cases c1 : (m.1 22 0 14) = 119
  · rw [if_pos c1] at h
    refine ax_gt c1 s2 ?_
    refine ax_go (j := 7) (k2 := 11) (lv2 := [some (.inr (.inr (22, 0))), some (.inr (.inr (42, g1))), none]) (st2 := [.inl (Int32.ofNat (ax_word g1).length), .inl ((m.1 22 0 13) - (m.1 22 0 12))]) (m2 := m) (fun n => rfl) ?_
    obtain ⟨y3, hy3⟩ : ∃ y : Int32, y = ((m.1 22 0 13) - (m.1 22 0 12)) := ⟨_, rfl⟩
    rw [← hy3] at h ⊢
    have s5 : ∀ n, ax_ex (e + 6) L_X11_isWord 11 [some (.inr (.inr (22, 0))), some (.inr (.inr (42, g1))), none] [.inl (Int32.ofNat (ax_word g1).length), .inl y3] m (n + 1) = if y3 = (Int32.ofNat (ax_word g1).length) then ax_ex (e + 6) L_X11_isWord 14 [some (.inr (.inr (22, 0))), some (.inr (.inr (42, g1))), none] [] m n else ax_ex (e + 6) L_X11_isWord 12 [some (.inr (.inr (22, 0))), some (.inr (.inr (42, g1))), none] [] m n := fun n => rfl
    by_cases c4 : y3 = (Int32.ofNat (ax_word g1).length)
    · rw [if_pos c4] at h
      refine ax_gt c4 s5 ?_
      refine ax_go (j := 2) (k2 := 16) (lv2 := [some (.inr (.inr (22, 0))), some (.inr (.inr (42, g1))), some (.inl 0)]) (st2 := []) (m2 := m) (fun n => rfl) ?_
      refine ax_fg (lv2 := [some (.inr (.inr (22, 0))), some (.inr (.inr (42, g1))), some (.inl 0)]) ⟨rfl, rfl, rfl, trivial⟩ ?_
      refine R_X11_isWord_L16 _ 0 _ h
    · rw [if_neg c4] at h
      refine ax_gf c4 s5 ?_
      obtain rfl := Option.some.inj h
      exact ax_rq (c := (0 : Int32) = 0 ∨ (0 : Int32) = 1) (j := 2) (by decide) (fun n => rfl)
  · rw [if_neg c1] at h
    refine ax_gf c1 s2 ?_
    obtain rfl := Option.some.inj h
    exact ax_rq (c := (0 : Int32) = 0 ∨ (0 : Int32) = 1) (j := 2) (by decide) (fun n => rfl)
def F_X11_number (m : ax_M) (v1 : Int32) (v2 : Int32) : Option (Int32 × ax_M) := ax_b (F_X11_next m) (fun m3 => if (m3.1 22 0 14) = 48 then (ax_b (F_X11_within (m3.1 22 0 15) v1 v2) (fun r7 => if r7 = 0 then (some ((-1), m3)) else (some ((m3.1 22 0 15), m3)))) else (some ((-1), m3)))
set_option maxRecDepth 20000 in
set_option maxHeartbeats 4000000 in
theorem R_X11_number {d : Nat} (hd : 3 ≤ d) {m : ax_M} {v1 : Int32} {v2 : Int32} {q : (Int32 × ax_M)} (h : F_X11_number m v1 v2 = some q) : ax_Ru d L_X11_number 0 (ax_entry [.inr (.inr (22, 0)), .inl v1, .inl v2] 3) [] m (some (.inl q.1), q.2) := by
  obtain ⟨e, rfl⟩ : ∃ e, d = e + 3 := ⟨d - 3, by omega⟩
  unfold F_X11_number at h
  obtain ⟨m3, q1, h⟩ := ax_b_of h
  have s11 : ∀ n, ax_ex (e + 3) L_X11_number 0 (ax_entry [.inr (.inr (22, 0)), .inl v1, .inl v2] 3) [] m (n + 2) = ax_aft (fun s m2 => ax_ex (e + 3) L_X11_number 2 [some (.inr (.inr (22, 0))), some (.inl v1), some (.inl v2)] s m2 n) [] (ax_ex (e + 2) L_X11_next 0 (ax_entry [.inr (.inr (22, 0))] 2) [] m n) := fun n => rfl
  refine ax_gcv (j := 2) (k2 := 2) (lv2 := [some (.inr (.inr (22, 0))), some (.inl v1), some (.inl v2)]) (rest := []) ((R_X11_next (by omega) q1)) s11 ?_
  have s5 : ∀ n, ax_ex (e + 3) L_X11_number 2 [some (.inr (.inr (22, 0))), some (.inl v1), some (.inl v2)] [] m3 (n + 4) = if (m3.1 22 0 14) = 48 then ax_ex (e + 3) L_X11_number 6 [some (.inr (.inr (22, 0))), some (.inl v1), some (.inl v2)] [] m3 n else ax_ex (e + 3) L_X11_number 15 [some (.inr (.inr (22, 0))), some (.inl v1), some (.inl v2)] [] m3 n := fun n => rfl
  by_cases c4 : (m3.1 22 0 14) = 48
  · rw [if_pos c4] at h
    refine ax_gt c4 s5 ?_
    obtain ⟨r7, q6, h⟩ := ax_b_of h
    have s10 : ∀ n, ax_ex (e + 3) L_X11_number 6 [some (.inr (.inr (22, 0))), some (.inl v1), some (.inl v2)] [] m3 (n + 5) = ax_aft (fun s m2 => ax_ex (e + 3) L_X11_number 11 [some (.inr (.inr (22, 0))), some (.inl v1), some (.inl v2)] s m2 n) [] (ax_ex (e + 2) L_X11_within 0 (ax_entry [.inl (m3.1 22 0 15), .inl v1, .inl v2] 3) [] m3 n) := fun n => rfl
    refine ax_gci (j := 5) (k2 := 11) (lv2 := [some (.inr (.inr (22, 0))), some (.inl v1), some (.inl v2)]) (rest := []) ((R_X11_within (by omega) q6)) s10 ?_
    have s9 : ∀ n, ax_ex (e + 3) L_X11_number 11 [some (.inr (.inr (22, 0))), some (.inl v1), some (.inl v2)] [.inl r7] m3 (n + 1) = if r7 = 0 then ax_ex (e + 3) L_X11_number 15 [some (.inr (.inr (22, 0))), some (.inl v1), some (.inl v2)] [] m3 n else ax_ex (e + 3) L_X11_number 12 [some (.inr (.inr (22, 0))), some (.inl v1), some (.inl v2)] [] m3 n := fun n => rfl
    by_cases c8 : r7 = 0
    · rw [if_pos c8] at h
      refine ax_gt c8 s9 ?_
      obtain rfl := Option.some.inj h
      exact ax_rs 2 (fun n => rfl)
    · rw [if_neg c8] at h
      refine ax_gf c8 s9 ?_
      obtain rfl := Option.some.inj h
      exact ax_rs 4 (fun n => rfl)
  · rw [if_neg c4] at h
    refine ax_gf c4 s5 ?_
    obtain rfl := Option.some.inj h
    exact ax_rs 2 (fun n => rfl)
def F_X11_statement (m : ax_M) : Option (Int32 × ax_M) := ax_b (F_X11_isWord m 0) (fun r2 => if r2 = 0 then (ax_b (F_X11_isWord m 1) (fun r6 => if r6 = 0 then (ax_b (F_X11_isWord m 2) (fun r10 => if r10 = 0 then (ax_b (F_X11_isWord m 3) (fun r14 => if r14 = 0 then (ax_b (F_X11_isWord m 4) (fun r18 => if r18 = 0 then (ax_b (F_X11_isWord m 5) (fun r22 => if r22 = 0 then (some (0, m)) else (ax_b2 (F_X11_number m 0 ((m.1 22 0 1) - 1)) (fun r26 m27 => if r26 = (-1) then (some (0, m27)) else (ax_b2 (F_X11_number m27 0 63) (fun r32 m33 => if r32 = (-1) then (some (0, m33)) else (if ax_ok r32 64 = true then (if (m33.1 23 0 r32.toNatClampNeg) = 0 then (if ax_ok r26 8 = true then (some (1, (ax_ui m33 24 0 r26.toNatClampNeg r32))) else (none)) else (some (0, m33))) else (none)))))))) else (if (m.1 22 0 4) = 16 then (some (0, m)) else (ax_b2 (F_X11_number m 0 5) (fun r48 m49 => if r48 = (-1) then (some (0, m49)) else (ax_b2 (F_X11_number m49 0 9) (fun r56 m57 => if r56 = (-1) then (some (0, m57)) else (ax_b2 (F_X11_number m57 0 63) (fun r63 m64 => if r63 = (-1) then (some (0, m64)) else (ax_b2 (F_X11_number m64 0 ((m64.1 22 0 1) - 1)) (fun r69 m70 => if r69 = (-1) then (some (0, m70)) else (ax_b2 (F_X11_newSeed m70 r48 r56 r63 r69) (fun r74 m75 => some (1, m75)))))))))))))) else (ax_b2 (F_X11_number m 0 ((m.1 22 0 1) - 1)) (fun r83 m84 => if r83 = (-1) then (some (0, m84)) else (ax_b2 (F_X11_number m84 0 ((m84.1 22 0 1) - 1)) (fun r88 m89 => if r88 = (-1) then (some (0, m89)) else (if r88 = r83 then (some (0, m89)) else (ax_b2 (F_X11_number m89 0 999) (fun r95 m96 => if r95 = (-1) then (some (0, m96)) else (if ax_ok ((8 * r83) + r88) 64 = true then (some (1, (ax_ui m96 25 0 ((8 * r83) + r88).toNatClampNeg r95))) else (none))))))))))) else (if (m.1 22 0 1) = 8 then (some (0, m)) else (ax_b2 (F_X11_number m 0 63) (fun r109 m110 => if r109 = (-1) then (some (0, m110)) else (if ax_ok r109 64 = true then (if (m110.1 23 0 r109.toNatClampNeg) = 0 then (ax_b2 (F_X11_newOne m110 r109) (fun r118 m119 => some (1, m119))) else (some (0, m110))) else (none))))))) else (ax_b2 (F_X11_number m 0 63) (fun r124 m125 => if r124 = (-1) then (some (0, m125)) else (if ax_ok r124 64 = true then (some (1, (ax_ui m125 23 0 r124.toNatClampNeg 0))) else none))))) else (ax_b2 (F_X11_number m 0 63) (fun r133 m134 => if r133 = (-1) then (some (0, m134)) else (ax_b (F_X11_somebodyAt m134 r133) (fun r138 => if r138 = 0 then (if ax_ok r133 64 = true then (some (1, (ax_ui m134 23 0 r133.toNatClampNeg 1))) else none) else (some (0, m134)))))))
set_option maxRecDepth 20000 in
set_option maxHeartbeats 4000000 in
theorem R_X11_statement {d : Nat} (hd : 7 ≤ d) {m : ax_M} {q : (Int32 × ax_M)} (h : F_X11_statement m = some q) : ax_Ru d L_X11_statement 0 (ax_entry [.inr (.inr (22, 0))] 5) [] m (some (.inl q.1), q.2) := by
  obtain ⟨e, rfl⟩ : ∃ e, d = e + 7 := ⟨d - 7, by omega⟩
  unfold F_X11_statement at h
  obtain ⟨r2, q1, h⟩ := ax_b_of h
  have s145 : ∀ n, ax_ex (e + 7) L_X11_statement 0 (ax_entry [.inr (.inr (22, 0))] 5) [] m (n + 3) = ax_aft (fun s m2 => ax_ex (e + 7) L_X11_statement 3 [some (.inr (.inr (22, 0))), none, none, none, none] s m2 n) [] (ax_ex (e + 6) L_X11_isWord 0 (ax_entry [.inr (.inr (22, 0)), .inr (.inr (42, 0))] 3) [] m n) := fun n => rfl
  refine ax_gci (j := 3) (k2 := 3) (lv2 := [some (.inr (.inr (22, 0))), none, none, none, none]) (rest := []) ((R_X11_isWord (by omega) q1)) s145 ?_
  have s4 : ∀ n, ax_ex (e + 7) L_X11_statement 3 [some (.inr (.inr (22, 0))), none, none, none, none] [.inl r2] m (n + 1) = if r2 = 0 then ax_ex (e + 7) L_X11_statement 25 [some (.inr (.inr (22, 0))), none, none, none, none] [] m n else ax_ex (e + 7) L_X11_statement 4 [some (.inr (.inr (22, 0))), none, none, none, none] [] m n := fun n => rfl
  by_cases c3 : r2 = 0
  · rw [if_pos c3] at h
    refine ax_gt c3 s4 ?_
    obtain ⟨r6, q5, h⟩ := ax_b_of h
    have s131 : ∀ n, ax_ex (e + 7) L_X11_statement 25 [some (.inr (.inr (22, 0))), none, none, none, none] [] m (n + 3) = ax_aft (fun s m2 => ax_ex (e + 7) L_X11_statement 28 [some (.inr (.inr (22, 0))), none, none, none, none] s m2 n) [] (ax_ex (e + 6) L_X11_isWord 0 (ax_entry [.inr (.inr (22, 0)), .inr (.inr (42, 1))] 3) [] m n) := fun n => rfl
    refine ax_gci (j := 3) (k2 := 28) (lv2 := [some (.inr (.inr (22, 0))), none, none, none, none]) (rest := []) ((R_X11_isWord (by omega) q5)) s131 ?_
    have s8 : ∀ n, ax_ex (e + 7) L_X11_statement 28 [some (.inr (.inr (22, 0))), none, none, none, none] [.inl r6] m (n + 1) = if r6 = 0 then ax_ex (e + 7) L_X11_statement 46 [some (.inr (.inr (22, 0))), none, none, none, none] [] m n else ax_ex (e + 7) L_X11_statement 29 [some (.inr (.inr (22, 0))), none, none, none, none] [] m n := fun n => rfl
    by_cases c7 : r6 = 0
    · rw [if_pos c7] at h
      refine ax_gt c7 s8 ?_
      obtain ⟨r10, q9, h⟩ := ax_b_of h
      have s122 : ∀ n, ax_ex (e + 7) L_X11_statement 46 [some (.inr (.inr (22, 0))), none, none, none, none] [] m (n + 3) = ax_aft (fun s m2 => ax_ex (e + 7) L_X11_statement 49 [some (.inr (.inr (22, 0))), none, none, none, none] s m2 n) [] (ax_ex (e + 6) L_X11_isWord 0 (ax_entry [.inr (.inr (22, 0)), .inr (.inr (42, 2))] 3) [] m n) := fun n => rfl
      refine ax_gci (j := 3) (k2 := 49) (lv2 := [some (.inr (.inr (22, 0))), none, none, none, none]) (rest := []) ((R_X11_isWord (by omega) q9)) s122 ?_
      have s12 : ∀ n, ax_ex (e + 7) L_X11_statement 49 [some (.inr (.inr (22, 0))), none, none, none, none] [.inl r10] m (n + 1) = if r10 = 0 then ax_ex (e + 7) L_X11_statement 77 [some (.inr (.inr (22, 0))), none, none, none, none] [] m n else ax_ex (e + 7) L_X11_statement 50 [some (.inr (.inr (22, 0))), none, none, none, none] [] m n := fun n => rfl
      by_cases c11 : r10 = 0
      · rw [if_pos c11] at h
        refine ax_gt c11 s12 ?_
        obtain ⟨r14, q13, h⟩ := ax_b_of h
        have s105 : ∀ n, ax_ex (e + 7) L_X11_statement 77 [some (.inr (.inr (22, 0))), none, none, none, none] [] m (n + 3) = ax_aft (fun s m2 => ax_ex (e + 7) L_X11_statement 80 [some (.inr (.inr (22, 0))), none, none, none, none] s m2 n) [] (ax_ex (e + 6) L_X11_isWord 0 (ax_entry [.inr (.inr (22, 0)), .inr (.inr (42, 3))] 3) [] m n) := fun n => rfl
        refine ax_gci (j := 3) (k2 := 80) (lv2 := [some (.inr (.inr (22, 0))), none, none, none, none]) (rest := []) ((R_X11_isWord (by omega) q13)) s105 ?_
        have s16 : ∀ n, ax_ex (e + 7) L_X11_statement 80 [some (.inr (.inr (22, 0))), none, none, none, none] [.inl r14] m (n + 1) = if r14 = 0 then ax_ex (e + 7) L_X11_statement 131 [some (.inr (.inr (22, 0))), none, none, none, none] [] m n else ax_ex (e + 7) L_X11_statement 81 [some (.inr (.inr (22, 0))), none, none, none, none] [] m n := fun n => rfl
        by_cases c15 : r14 = 0
        · rw [if_pos c15] at h
          refine ax_gt c15 s16 ?_
          obtain ⟨r18, q17, h⟩ := ax_b_of h
          have s81 : ∀ n, ax_ex (e + 7) L_X11_statement 131 [some (.inr (.inr (22, 0))), none, none, none, none] [] m (n + 3) = ax_aft (fun s m2 => ax_ex (e + 7) L_X11_statement 134 [some (.inr (.inr (22, 0))), none, none, none, none] s m2 n) [] (ax_ex (e + 6) L_X11_isWord 0 (ax_entry [.inr (.inr (22, 0)), .inr (.inr (42, 4))] 3) [] m n) := fun n => rfl
          refine ax_gci (j := 3) (k2 := 134) (lv2 := [some (.inr (.inr (22, 0))), none, none, none, none]) (rest := []) ((R_X11_isWord (by omega) q17)) s81 ?_
          have s20 : ∀ n, ax_ex (e + 7) L_X11_statement 134 [some (.inr (.inr (22, 0))), none, none, none, none] [.inl r18] m (n + 1) = if r18 = 0 then ax_ex (e + 7) L_X11_statement 193 [some (.inr (.inr (22, 0))), none, none, none, none] [] m n else ax_ex (e + 7) L_X11_statement 135 [some (.inr (.inr (22, 0))), none, none, none, none] [] m n := fun n => rfl
          by_cases c19 : r18 = 0
          · rw [if_pos c19] at h
            refine ax_gt c19 s20 ?_
            obtain ⟨r22, q21, h⟩ := ax_b_of h
            have s44 : ∀ n, ax_ex (e + 7) L_X11_statement 193 [some (.inr (.inr (22, 0))), none, none, none, none] [] m (n + 3) = ax_aft (fun s m2 => ax_ex (e + 7) L_X11_statement 196 [some (.inr (.inr (22, 0))), none, none, none, none] s m2 n) [] (ax_ex (e + 6) L_X11_isWord 0 (ax_entry [.inr (.inr (22, 0)), .inr (.inr (42, 5))] 3) [] m n) := fun n => rfl
            refine ax_gci (j := 3) (k2 := 196) (lv2 := [some (.inr (.inr (22, 0))), none, none, none, none]) (rest := []) ((R_X11_isWord (by omega) q21)) s44 ?_
            have s24 : ∀ n, ax_ex (e + 7) L_X11_statement 196 [some (.inr (.inr (22, 0))), none, none, none, none] [.inl r22] m (n + 1) = if r22 = 0 then ax_ex (e + 7) L_X11_statement 197 [some (.inr (.inr (22, 0))), none, none, none, none] [] m n else ax_ex (e + 7) L_X11_statement 199 [some (.inr (.inr (22, 0))), none, none, none, none] [] m n := fun n => rfl
            by_cases c23 : r22 = 0
            · rw [if_pos c23] at h
              refine ax_gt c23 s24 ?_
              obtain rfl := Option.some.inj h
              exact ax_rq (c := (0 : Int32) = 0 ∨ (0 : Int32) = 1) (j := 2) (by decide) (fun n => rfl)
            · rw [if_neg c23] at h
              refine ax_gf c23 s24 ?_
              obtain ⟨r26, m27, q25, h⟩ := ax_b2_of h
              have s43 : ∀ n, ax_ex (e + 7) L_X11_statement 199 [some (.inr (.inr (22, 0))), none, none, none, none] [] m (n + 7) = ax_aft (fun s m2 => ax_ex (e + 7) L_X11_statement 206 [some (.inr (.inr (22, 0))), none, none, none, none] s m2 n) [] (ax_ex (e + 6) L_X11_number 0 (ax_entry [.inr (.inr (22, 0)), .inl 0, .inl ((m.1 22 0 1) - 1)] 3) [] m n) := fun n => rfl
              refine ax_gci (j := 7) (k2 := 206) (lv2 := [some (.inr (.inr (22, 0))), none, none, none, none]) (rest := []) ((R_X11_number (by omega) q25)) s43 ?_
              have s29 : ∀ n, ax_ex (e + 7) L_X11_statement 206 [some (.inr (.inr (22, 0))), none, none, none, none] [.inl r26] m27 (n + 4) = if r26 = (-1) then ax_ex (e + 7) L_X11_statement 210 [some (.inr (.inr (22, 0))), some (.inl r26), none, none, none] [] m27 n else ax_ex (e + 7) L_X11_statement 212 [some (.inr (.inr (22, 0))), some (.inl r26), none, none, none] [] m27 n := fun n => rfl
              by_cases c28 : r26 = (-1)
              · rw [if_pos c28] at h
                refine ax_gt c28 s29 ?_
                have s30 : ∀ n, ax_ex (e + 7) L_X11_statement 210 [some (.inr (.inr (22, 0))), some (.inl r26), none, none, none] [] m27 (n + 6) = if ((-1) : Int32) = (-1) then ax_ex (e + 7) L_X11_statement 225 [some (.inr (.inr (22, 0))), some (.inl r26), some (.inl (-1)), none, none] [] m27 n else ax_ex (e + 7) L_X11_statement 220 [some (.inr (.inr (22, 0))), some (.inl r26), some (.inl (-1)), none, none] [] m27 n := fun n => rfl
                refine ax_gt (by decide) s30 ?_
                obtain rfl := Option.some.inj h
                exact ax_rq (c := (0 : Int32) = 0 ∨ (0 : Int32) = 1) (j := 2) (by decide) (fun n => rfl)
              · rw [if_neg c28] at h
                refine ax_gf c28 s29 ?_
                obtain ⟨r32, m33, q31, h⟩ := ax_b2_of h
                have s42 : ∀ n, ax_ex (e + 7) L_X11_statement 212 [some (.inr (.inr (22, 0))), some (.inl r26), none, none, none] [] m27 (n + 4) = ax_aft (fun s m2 => ax_ex (e + 7) L_X11_statement 216 [some (.inr (.inr (22, 0))), some (.inl r26), none, none, none] s m2 n) [] (ax_ex (e + 6) L_X11_number 0 (ax_entry [.inr (.inr (22, 0)), .inl 0, .inl 63] 3) [] m27 n) := fun n => rfl
                refine ax_gci (j := 4) (k2 := 216) (lv2 := [some (.inr (.inr (22, 0))), some (.inl r26), none, none, none]) (rest := []) ((R_X11_number (by omega) q31)) s42 ?_
                have s35 : ∀ n, ax_ex (e + 7) L_X11_statement 216 [some (.inr (.inr (22, 0))), some (.inl r26), none, none, none] [.inl r32] m33 (n + 4) = if r32 = (-1) then ax_ex (e + 7) L_X11_statement 225 [some (.inr (.inr (22, 0))), some (.inl r26), some (.inl r32), none, none] [] m33 n else ax_ex (e + 7) L_X11_statement 220 [some (.inr (.inr (22, 0))), some (.inl r26), some (.inl r32), none, none] [] m33 n := fun n => rfl
                by_cases c34 : r32 = (-1)
                · rw [if_pos c34] at h
                  refine ax_gt c34 s35 ?_
                  obtain rfl := Option.some.inj h
                  exact ax_rq (c := (0 : Int32) = 0 ∨ (0 : Int32) = 1) (j := 2) (by decide) (fun n => rfl)
                · rw [if_neg c34] at h
                  refine ax_gf c34 s35 ?_
                  have s37 : ∀ n, ax_ex (e + 7) L_X11_statement 220 [some (.inr (.inr (22, 0))), some (.inl r26), some (.inl r32), none, none] [] m33 (n + 4) = if ax_ok r32 64 = true then ax_ex (e + 7) L_X11_statement 224 [some (.inr (.inr (22, 0))), some (.inl r26), some (.inl r32), none, none] [.inl (m33.1 23 0 r32.toNatClampNeg)] m33 n else none := fun n => rfl
                  by_cases c36 : ax_ok r32 64 = true
                  · rw [if_pos c36] at h
                    refine ax_gt c36 s37 ?_
                    have s39 : ∀ n, ax_ex (e + 7) L_X11_statement 224 [some (.inr (.inr (22, 0))), some (.inl r26), some (.inl r32), none, none] [.inl (m33.1 23 0 r32.toNatClampNeg)] m33 (n + 1) = if (m33.1 23 0 r32.toNatClampNeg) = 0 then ax_ex (e + 7) L_X11_statement 227 [some (.inr (.inr (22, 0))), some (.inl r26), some (.inl r32), none, none] [] m33 n else ax_ex (e + 7) L_X11_statement 225 [some (.inr (.inr (22, 0))), some (.inl r26), some (.inl r32), none, none] [] m33 n := fun n => rfl
                    by_cases c38 : (m33.1 23 0 r32.toNatClampNeg) = 0
                    · rw [if_pos c38] at h
                      refine ax_gt c38 s39 ?_
                      have s41 : ∀ n, ax_ex (e + 7) L_X11_statement 227 [some (.inr (.inr (22, 0))), some (.inl r26), some (.inl r32), none, none] [] m33 (n + 5) = if ax_ok r26 8 = true then ax_ex (e + 7) L_X11_statement 232 [some (.inr (.inr (22, 0))), some (.inl r26), some (.inl r32), none, none] [] (ax_ui m33 24 0 r26.toNatClampNeg r32) n else none := fun n => rfl
                      by_cases c40 : ax_ok r26 8 = true
                      · rw [if_pos c40] at h
                        refine ax_gt c40 s41 ?_
                        obtain rfl := Option.some.inj h
                        exact ax_rq (c := (1 : Int32) = 0 ∨ (1 : Int32) = 1) (j := 2) (by decide) (fun n => rfl)
                      · rw [if_neg c40] at h
                        cases h
                    · rw [if_neg c38] at h
                      refine ax_gf c38 s39 ?_
                      obtain rfl := Option.some.inj h
                      exact ax_rq (c := (0 : Int32) = 0 ∨ (0 : Int32) = 1) (j := 2) (by decide) (fun n => rfl)
                  · rw [if_neg c36] at h
                    cases h
          · rw [if_neg c19] at h
            refine ax_gf c19 s20 ?_
            have s46 : ∀ n, ax_ex (e + 7) L_X11_statement 135 [some (.inr (.inr (22, 0))), none, none, none, none] [] m (n + 4) = if (m.1 22 0 4) = 16 then ax_ex (e + 7) L_X11_statement 139 [some (.inr (.inr (22, 0))), none, none, none, none] [] m n else ax_ex (e + 7) L_X11_statement 141 [some (.inr (.inr (22, 0))), none, none, none, none] [] m n := fun n => rfl
            by_cases c45 : (m.1 22 0 4) = 16
            · rw [if_pos c45] at h
              refine ax_gt c45 s46 ?_
              obtain rfl := Option.some.inj h
              exact ax_rq (c := (0 : Int32) = 0 ∨ (0 : Int32) = 1) (j := 2) (by decide) (fun n => rfl)
            · rw [if_neg c45] at h
              refine ax_gf c45 s46 ?_
              obtain ⟨r48, m49, q47, h⟩ := ax_b2_of h
              have s80 : ∀ n, ax_ex (e + 7) L_X11_statement 141 [some (.inr (.inr (22, 0))), none, none, none, none] [] m (n + 4) = ax_aft (fun s m2 => ax_ex (e + 7) L_X11_statement 145 [some (.inr (.inr (22, 0))), none, none, none, none] s m2 n) [] (ax_ex (e + 6) L_X11_number 0 (ax_entry [.inr (.inr (22, 0)), .inl 0, .inl 5] 3) [] m n) := fun n => rfl
              refine ax_gci (j := 4) (k2 := 145) (lv2 := [some (.inr (.inr (22, 0))), none, none, none, none]) (rest := []) ((R_X11_number (by omega) q47)) s80 ?_
              have s51 : ∀ n, ax_ex (e + 7) L_X11_statement 145 [some (.inr (.inr (22, 0))), none, none, none, none] [.inl r48] m49 (n + 4) = if r48 = (-1) then ax_ex (e + 7) L_X11_statement 149 [some (.inr (.inr (22, 0))), none, none, some (.inl r48), none] [] m49 n else ax_ex (e + 7) L_X11_statement 151 [some (.inr (.inr (22, 0))), none, none, some (.inl r48), none] [] m49 n := fun n => rfl
              by_cases c50 : r48 = (-1)
              · rw [if_pos c50] at h
                refine ax_gt c50 s51 ?_
                have s52 : ∀ n, ax_ex (e + 7) L_X11_statement 149 [some (.inr (.inr (22, 0))), none, none, some (.inl r48), none] [] m49 (n + 6) = if ((-1) : Int32) = (-1) then ax_ex (e + 7) L_X11_statement 159 [some (.inr (.inr (22, 0))), none, none, some (.inl r48), some (.inl (-1))] [] m49 n else ax_ex (e + 7) L_X11_statement 161 [some (.inr (.inr (22, 0))), none, none, some (.inl r48), some (.inl (-1))] [] m49 n := fun n => rfl
                refine ax_gt (by decide) s52 ?_
                have s53 : ∀ n, ax_ex (e + 7) L_X11_statement 159 [some (.inr (.inr (22, 0))), none, none, some (.inl r48), some (.inl (-1))] [] m49 (n + 6) = if ((-1) : Int32) = (-1) then ax_ex (e + 7) L_X11_statement 169 [some (.inr (.inr (22, 0))), some (.inl (-1)), none, some (.inl r48), some (.inl (-1))] [] m49 n else ax_ex (e + 7) L_X11_statement 171 [some (.inr (.inr (22, 0))), some (.inl (-1)), none, some (.inl r48), some (.inl (-1))] [] m49 n := fun n => rfl
                refine ax_gt (by decide) s53 ?_
                have s54 : ∀ n, ax_ex (e + 7) L_X11_statement 169 [some (.inr (.inr (22, 0))), some (.inl (-1)), none, some (.inl r48), some (.inl (-1))] [] m49 (n + 6) = if ((-1) : Int32) = (-1) then ax_ex (e + 7) L_X11_statement 182 [some (.inr (.inr (22, 0))), some (.inl (-1)), some (.inl (-1)), some (.inl r48), some (.inl (-1))] [] m49 n else ax_ex (e + 7) L_X11_statement 184 [some (.inr (.inr (22, 0))), some (.inl (-1)), some (.inl (-1)), some (.inl r48), some (.inl (-1))] [] m49 n := fun n => rfl
                refine ax_gt (by decide) s54 ?_
                obtain rfl := Option.some.inj h
                exact ax_rq (c := (0 : Int32) = 0 ∨ (0 : Int32) = 1) (j := 2) (by decide) (fun n => rfl)
              · rw [if_neg c50] at h
                refine ax_gf c50 s51 ?_
                obtain ⟨r56, m57, q55, h⟩ := ax_b2_of h
                have s79 : ∀ n, ax_ex (e + 7) L_X11_statement 151 [some (.inr (.inr (22, 0))), none, none, some (.inl r48), none] [] m49 (n + 4) = ax_aft (fun s m2 => ax_ex (e + 7) L_X11_statement 155 [some (.inr (.inr (22, 0))), none, none, some (.inl r48), none] s m2 n) [] (ax_ex (e + 6) L_X11_number 0 (ax_entry [.inr (.inr (22, 0)), .inl 0, .inl 9] 3) [] m49 n) := fun n => rfl
                refine ax_gci (j := 4) (k2 := 155) (lv2 := [some (.inr (.inr (22, 0))), none, none, some (.inl r48), none]) (rest := []) ((R_X11_number (by omega) q55)) s79 ?_
                have s59 : ∀ n, ax_ex (e + 7) L_X11_statement 155 [some (.inr (.inr (22, 0))), none, none, some (.inl r48), none] [.inl r56] m57 (n + 4) = if r56 = (-1) then ax_ex (e + 7) L_X11_statement 159 [some (.inr (.inr (22, 0))), none, none, some (.inl r48), some (.inl r56)] [] m57 n else ax_ex (e + 7) L_X11_statement 161 [some (.inr (.inr (22, 0))), none, none, some (.inl r48), some (.inl r56)] [] m57 n := fun n => rfl
                by_cases c58 : r56 = (-1)
                · rw [if_pos c58] at h
                  refine ax_gt c58 s59 ?_
                  have s60 : ∀ n, ax_ex (e + 7) L_X11_statement 159 [some (.inr (.inr (22, 0))), none, none, some (.inl r48), some (.inl r56)] [] m57 (n + 6) = if ((-1) : Int32) = (-1) then ax_ex (e + 7) L_X11_statement 169 [some (.inr (.inr (22, 0))), some (.inl (-1)), none, some (.inl r48), some (.inl r56)] [] m57 n else ax_ex (e + 7) L_X11_statement 171 [some (.inr (.inr (22, 0))), some (.inl (-1)), none, some (.inl r48), some (.inl r56)] [] m57 n := fun n => rfl
                  refine ax_gt (by decide) s60 ?_
                  have s61 : ∀ n, ax_ex (e + 7) L_X11_statement 169 [some (.inr (.inr (22, 0))), some (.inl (-1)), none, some (.inl r48), some (.inl r56)] [] m57 (n + 6) = if ((-1) : Int32) = (-1) then ax_ex (e + 7) L_X11_statement 182 [some (.inr (.inr (22, 0))), some (.inl (-1)), some (.inl (-1)), some (.inl r48), some (.inl r56)] [] m57 n else ax_ex (e + 7) L_X11_statement 184 [some (.inr (.inr (22, 0))), some (.inl (-1)), some (.inl (-1)), some (.inl r48), some (.inl r56)] [] m57 n := fun n => rfl
                  refine ax_gt (by decide) s61 ?_
                  obtain rfl := Option.some.inj h
                  exact ax_rq (c := (0 : Int32) = 0 ∨ (0 : Int32) = 1) (j := 2) (by decide) (fun n => rfl)
                · rw [if_neg c58] at h
                  refine ax_gf c58 s59 ?_
                  obtain ⟨r63, m64, q62, h⟩ := ax_b2_of h
                  have s78 : ∀ n, ax_ex (e + 7) L_X11_statement 161 [some (.inr (.inr (22, 0))), none, none, some (.inl r48), some (.inl r56)] [] m57 (n + 4) = ax_aft (fun s m2 => ax_ex (e + 7) L_X11_statement 165 [some (.inr (.inr (22, 0))), none, none, some (.inl r48), some (.inl r56)] s m2 n) [] (ax_ex (e + 6) L_X11_number 0 (ax_entry [.inr (.inr (22, 0)), .inl 0, .inl 63] 3) [] m57 n) := fun n => rfl
                  refine ax_gci (j := 4) (k2 := 165) (lv2 := [some (.inr (.inr (22, 0))), none, none, some (.inl r48), some (.inl r56)]) (rest := []) ((R_X11_number (by omega) q62)) s78 ?_
                  have s66 : ∀ n, ax_ex (e + 7) L_X11_statement 165 [some (.inr (.inr (22, 0))), none, none, some (.inl r48), some (.inl r56)] [.inl r63] m64 (n + 4) = if r63 = (-1) then ax_ex (e + 7) L_X11_statement 169 [some (.inr (.inr (22, 0))), some (.inl r63), none, some (.inl r48), some (.inl r56)] [] m64 n else ax_ex (e + 7) L_X11_statement 171 [some (.inr (.inr (22, 0))), some (.inl r63), none, some (.inl r48), some (.inl r56)] [] m64 n := fun n => rfl
                  by_cases c65 : r63 = (-1)
                  · rw [if_pos c65] at h
                    refine ax_gt c65 s66 ?_
                    have s67 : ∀ n, ax_ex (e + 7) L_X11_statement 169 [some (.inr (.inr (22, 0))), some (.inl r63), none, some (.inl r48), some (.inl r56)] [] m64 (n + 6) = if ((-1) : Int32) = (-1) then ax_ex (e + 7) L_X11_statement 182 [some (.inr (.inr (22, 0))), some (.inl r63), some (.inl (-1)), some (.inl r48), some (.inl r56)] [] m64 n else ax_ex (e + 7) L_X11_statement 184 [some (.inr (.inr (22, 0))), some (.inl r63), some (.inl (-1)), some (.inl r48), some (.inl r56)] [] m64 n := fun n => rfl
                    refine ax_gt (by decide) s67 ?_
                    obtain rfl := Option.some.inj h
                    exact ax_rq (c := (0 : Int32) = 0 ∨ (0 : Int32) = 1) (j := 2) (by decide) (fun n => rfl)
                  · rw [if_neg c65] at h
                    refine ax_gf c65 s66 ?_
                    obtain ⟨r69, m70, q68, h⟩ := ax_b2_of h
                    have s77 : ∀ n, ax_ex (e + 7) L_X11_statement 171 [some (.inr (.inr (22, 0))), some (.inl r63), none, some (.inl r48), some (.inl r56)] [] m64 (n + 7) = ax_aft (fun s m2 => ax_ex (e + 7) L_X11_statement 178 [some (.inr (.inr (22, 0))), some (.inl r63), none, some (.inl r48), some (.inl r56)] s m2 n) [] (ax_ex (e + 6) L_X11_number 0 (ax_entry [.inr (.inr (22, 0)), .inl 0, .inl ((m64.1 22 0 1) - 1)] 3) [] m64 n) := fun n => rfl
                    refine ax_gci (j := 7) (k2 := 178) (lv2 := [some (.inr (.inr (22, 0))), some (.inl r63), none, some (.inl r48), some (.inl r56)]) (rest := []) ((R_X11_number (by omega) q68)) s77 ?_
                    have s72 : ∀ n, ax_ex (e + 7) L_X11_statement 178 [some (.inr (.inr (22, 0))), some (.inl r63), none, some (.inl r48), some (.inl r56)] [.inl r69] m70 (n + 4) = if r69 = (-1) then ax_ex (e + 7) L_X11_statement 182 [some (.inr (.inr (22, 0))), some (.inl r63), some (.inl r69), some (.inl r48), some (.inl r56)] [] m70 n else ax_ex (e + 7) L_X11_statement 184 [some (.inr (.inr (22, 0))), some (.inl r63), some (.inl r69), some (.inl r48), some (.inl r56)] [] m70 n := fun n => rfl
                    by_cases c71 : r69 = (-1)
                    · rw [if_pos c71] at h
                      refine ax_gt c71 s72 ?_
                      obtain rfl := Option.some.inj h
                      exact ax_rq (c := (0 : Int32) = 0 ∨ (0 : Int32) = 1) (j := 2) (by decide) (fun n => rfl)
                    · rw [if_neg c71] at h
                      refine ax_gf c71 s72 ?_
                      obtain ⟨r74, m75, q73, h⟩ := ax_b2_of h
                      have s76 : ∀ n, ax_ex (e + 7) L_X11_statement 184 [some (.inr (.inr (22, 0))), some (.inl r63), some (.inl r69), some (.inl r48), some (.inl r56)] [] m70 (n + 6) = ax_aft (fun s m2 => ax_ex (e + 7) L_X11_statement 190 [some (.inr (.inr (22, 0))), some (.inl r63), some (.inl r69), some (.inl r48), some (.inl r56)] s m2 n) [] (ax_ex (e + 6) L_X11_newSeed 0 (ax_entry [.inr (.inr (22, 0)), .inl r48, .inl r56, .inl r63, .inl r69] 5) [] m70 n) := fun n => rfl
                      refine ax_gci (j := 6) (k2 := 190) (lv2 := [some (.inr (.inr (22, 0))), some (.inl r63), some (.inl r69), some (.inl r48), some (.inl r56)]) (rest := []) ((R_X11_newSeed (by omega) q73)) s76 ?_
                      obtain rfl := Option.some.inj h
                      exact ax_rq (c := (1 : Int32) = 0 ∨ (1 : Int32) = 1) (j := 3) (by decide) (fun n => rfl)
        · rw [if_neg c15] at h
          refine ax_gf c15 s16 ?_
          obtain ⟨r83, m84, q82, h⟩ := ax_b2_of h
          have s104 : ∀ n, ax_ex (e + 7) L_X11_statement 81 [some (.inr (.inr (22, 0))), none, none, none, none] [] m (n + 7) = ax_aft (fun s m2 => ax_ex (e + 7) L_X11_statement 88 [some (.inr (.inr (22, 0))), none, none, none, none] s m2 n) [] (ax_ex (e + 6) L_X11_number 0 (ax_entry [.inr (.inr (22, 0)), .inl 0, .inl ((m.1 22 0 1) - 1)] 3) [] m n) := fun n => rfl
          refine ax_gci (j := 7) (k2 := 88) (lv2 := [some (.inr (.inr (22, 0))), none, none, none, none]) (rest := []) ((R_X11_number (by omega) q82)) s104 ?_
          have s86 : ∀ n, ax_ex (e + 7) L_X11_statement 88 [some (.inr (.inr (22, 0))), none, none, none, none] [.inl r83] m84 (n + 4) = if r83 = (-1) then ax_ex (e + 7) L_X11_statement 92 [some (.inr (.inr (22, 0))), some (.inl r83), none, none, none] [] m84 n else ax_ex (e + 7) L_X11_statement 94 [some (.inr (.inr (22, 0))), some (.inl r83), none, none, none] [] m84 n := fun n => rfl
          by_cases c85 : r83 = (-1)
          · rw [if_pos c85] at h
            refine ax_gt c85 s86 ?_
            obtain rfl := Option.some.inj h
            exact ax_rq (c := (0 : Int32) = 0 ∨ (0 : Int32) = 1) (j := 2) (by decide) (fun n => rfl)
          · rw [if_neg c85] at h
            refine ax_gf c85 s86 ?_
            obtain ⟨r88, m89, q87, h⟩ := ax_b2_of h
            have s103 : ∀ n, ax_ex (e + 7) L_X11_statement 94 [some (.inr (.inr (22, 0))), some (.inl r83), none, none, none] [] m84 (n + 7) = ax_aft (fun s m2 => ax_ex (e + 7) L_X11_statement 101 [some (.inr (.inr (22, 0))), some (.inl r83), none, none, none] s m2 n) [] (ax_ex (e + 6) L_X11_number 0 (ax_entry [.inr (.inr (22, 0)), .inl 0, .inl ((m84.1 22 0 1) - 1)] 3) [] m84 n) := fun n => rfl
            refine ax_gci (j := 7) (k2 := 101) (lv2 := [some (.inr (.inr (22, 0))), some (.inl r83), none, none, none]) (rest := []) ((R_X11_number (by omega) q87)) s103 ?_
            have s91 : ∀ n, ax_ex (e + 7) L_X11_statement 101 [some (.inr (.inr (22, 0))), some (.inl r83), none, none, none] [.inl r88] m89 (n + 4) = if r88 = (-1) then ax_ex (e + 7) L_X11_statement 108 [some (.inr (.inr (22, 0))), some (.inl r83), some (.inl r88), none, none] [] m89 n else ax_ex (e + 7) L_X11_statement 105 [some (.inr (.inr (22, 0))), some (.inl r83), some (.inl r88), none, none] [] m89 n := fun n => rfl
            by_cases c90 : r88 = (-1)
            · rw [if_pos c90] at h
              refine ax_gt c90 s91 ?_
              obtain rfl := Option.some.inj h
              exact ax_rq (c := (0 : Int32) = 0 ∨ (0 : Int32) = 1) (j := 2) (by decide) (fun n => rfl)
            · rw [if_neg c90] at h
              refine ax_gf c90 s91 ?_
              have s93 : ∀ n, ax_ex (e + 7) L_X11_statement 105 [some (.inr (.inr (22, 0))), some (.inl r83), some (.inl r88), none, none] [] m89 (n + 3) = if r88 = r83 then ax_ex (e + 7) L_X11_statement 108 [some (.inr (.inr (22, 0))), some (.inl r83), some (.inl r88), none, none] [] m89 n else ax_ex (e + 7) L_X11_statement 110 [some (.inr (.inr (22, 0))), some (.inl r83), some (.inl r88), none, none] [] m89 n := fun n => rfl
              by_cases c92 : r88 = r83
              · rw [if_pos c92] at h
                refine ax_gt c92 s93 ?_
                obtain rfl := Option.some.inj h
                exact ax_rq (c := (0 : Int32) = 0 ∨ (0 : Int32) = 1) (j := 2) (by decide) (fun n => rfl)
              · rw [if_neg c92] at h
                refine ax_gf c92 s93 ?_
                obtain ⟨r95, m96, q94, h⟩ := ax_b2_of h
                have s102 : ∀ n, ax_ex (e + 7) L_X11_statement 110 [some (.inr (.inr (22, 0))), some (.inl r83), some (.inl r88), none, none] [] m89 (n + 4) = ax_aft (fun s m2 => ax_ex (e + 7) L_X11_statement 114 [some (.inr (.inr (22, 0))), some (.inl r83), some (.inl r88), none, none] s m2 n) [] (ax_ex (e + 6) L_X11_number 0 (ax_entry [.inr (.inr (22, 0)), .inl 0, .inl 999] 3) [] m89 n) := fun n => rfl
                refine ax_gci (j := 4) (k2 := 114) (lv2 := [some (.inr (.inr (22, 0))), some (.inl r83), some (.inl r88), none, none]) (rest := []) ((R_X11_number (by omega) q94)) s102 ?_
                have s98 : ∀ n, ax_ex (e + 7) L_X11_statement 114 [some (.inr (.inr (22, 0))), some (.inl r83), some (.inl r88), none, none] [.inl r95] m96 (n + 4) = if r95 = (-1) then ax_ex (e + 7) L_X11_statement 118 [some (.inr (.inr (22, 0))), some (.inl r83), some (.inl r88), some (.inl r95), none] [] m96 n else ax_ex (e + 7) L_X11_statement 120 [some (.inr (.inr (22, 0))), some (.inl r83), some (.inl r88), some (.inl r95), none] [] m96 n := fun n => rfl
                by_cases c97 : r95 = (-1)
                · rw [if_pos c97] at h
                  refine ax_gt c97 s98 ?_
                  obtain rfl := Option.some.inj h
                  exact ax_rq (c := (0 : Int32) = 0 ∨ (0 : Int32) = 1) (j := 2) (by decide) (fun n => rfl)
                · rw [if_neg c97] at h
                  refine ax_gf c97 s98 ?_
                  refine ax_go (j := 8) (k2 := 128) (lv2 := [some (.inr (.inr (22, 0))), some (.inl r83), some (.inl r88), some (.inl r95), none]) (st2 := [.inl r95, .inl ((8 * r83) + r88), .inr (.inr (25, 0))]) (m2 := m96) (fun n => rfl) ?_
                  obtain ⟨y99, hy99⟩ : ∃ y : Int32, y = ((8 * r83) + r88) := ⟨_, rfl⟩
                  rw [← hy99] at h ⊢
                  have s101 : ∀ n, ax_ex (e + 7) L_X11_statement 128 [some (.inr (.inr (22, 0))), some (.inl r83), some (.inl r88), some (.inl r95), none] [.inl r95, .inl y99, .inr (.inr (25, 0))] m96 (n + 1) = if ax_ok y99 64 = true then ax_ex (e + 7) L_X11_statement 129 [some (.inr (.inr (22, 0))), some (.inl r83), some (.inl r88), some (.inl r95), none] [] (ax_ui m96 25 0 y99.toNatClampNeg r95) n else none := fun n => rfl
                  by_cases c100 : ax_ok y99 64 = true
                  · rw [if_pos c100] at h
                    refine ax_gt c100 s101 ?_
                    obtain rfl := Option.some.inj h
                    exact ax_rq (c := (1 : Int32) = 0 ∨ (1 : Int32) = 1) (j := 2) (by decide) (fun n => rfl)
                  · rw [if_neg c100] at h
                    cases h
      · rw [if_neg c11] at h
        refine ax_gf c11 s12 ?_
        have s107 : ∀ n, ax_ex (e + 7) L_X11_statement 50 [some (.inr (.inr (22, 0))), none, none, none, none] [] m (n + 4) = if (m.1 22 0 1) = 8 then ax_ex (e + 7) L_X11_statement 54 [some (.inr (.inr (22, 0))), none, none, none, none] [] m n else ax_ex (e + 7) L_X11_statement 56 [some (.inr (.inr (22, 0))), none, none, none, none] [] m n := fun n => rfl
        by_cases c106 : (m.1 22 0 1) = 8
        · rw [if_pos c106] at h
          refine ax_gt c106 s107 ?_
          obtain rfl := Option.some.inj h
          exact ax_rq (c := (0 : Int32) = 0 ∨ (0 : Int32) = 1) (j := 2) (by decide) (fun n => rfl)
        · rw [if_neg c106] at h
          refine ax_gf c106 s107 ?_
          obtain ⟨r109, m110, q108, h⟩ := ax_b2_of h
          have s121 : ∀ n, ax_ex (e + 7) L_X11_statement 56 [some (.inr (.inr (22, 0))), none, none, none, none] [] m (n + 4) = ax_aft (fun s m2 => ax_ex (e + 7) L_X11_statement 60 [some (.inr (.inr (22, 0))), none, none, none, none] s m2 n) [] (ax_ex (e + 6) L_X11_number 0 (ax_entry [.inr (.inr (22, 0)), .inl 0, .inl 63] 3) [] m n) := fun n => rfl
          refine ax_gci (j := 4) (k2 := 60) (lv2 := [some (.inr (.inr (22, 0))), none, none, none, none]) (rest := []) ((R_X11_number (by omega) q108)) s121 ?_
          have s112 : ∀ n, ax_ex (e + 7) L_X11_statement 60 [some (.inr (.inr (22, 0))), none, none, none, none] [.inl r109] m110 (n + 4) = if r109 = (-1) then ax_ex (e + 7) L_X11_statement 69 [some (.inr (.inr (22, 0))), some (.inl r109), none, none, none] [] m110 n else ax_ex (e + 7) L_X11_statement 64 [some (.inr (.inr (22, 0))), some (.inl r109), none, none, none] [] m110 n := fun n => rfl
          by_cases c111 : r109 = (-1)
          · rw [if_pos c111] at h
            refine ax_gt c111 s112 ?_
            obtain rfl := Option.some.inj h
            exact ax_rq (c := (0 : Int32) = 0 ∨ (0 : Int32) = 1) (j := 2) (by decide) (fun n => rfl)
          · rw [if_neg c111] at h
            refine ax_gf c111 s112 ?_
            have s114 : ∀ n, ax_ex (e + 7) L_X11_statement 64 [some (.inr (.inr (22, 0))), some (.inl r109), none, none, none] [] m110 (n + 4) = if ax_ok r109 64 = true then ax_ex (e + 7) L_X11_statement 68 [some (.inr (.inr (22, 0))), some (.inl r109), none, none, none] [.inl (m110.1 23 0 r109.toNatClampNeg)] m110 n else none := fun n => rfl
            by_cases c113 : ax_ok r109 64 = true
            · rw [if_pos c113] at h
              refine ax_gt c113 s114 ?_
              have s116 : ∀ n, ax_ex (e + 7) L_X11_statement 68 [some (.inr (.inr (22, 0))), some (.inl r109), none, none, none] [.inl (m110.1 23 0 r109.toNatClampNeg)] m110 (n + 1) = if (m110.1 23 0 r109.toNatClampNeg) = 0 then ax_ex (e + 7) L_X11_statement 71 [some (.inr (.inr (22, 0))), some (.inl r109), none, none, none] [] m110 n else ax_ex (e + 7) L_X11_statement 69 [some (.inr (.inr (22, 0))), some (.inl r109), none, none, none] [] m110 n := fun n => rfl
              by_cases c115 : (m110.1 23 0 r109.toNatClampNeg) = 0
              · rw [if_pos c115] at h
                refine ax_gt c115 s116 ?_
                obtain ⟨r118, m119, q117, h⟩ := ax_b2_of h
                have s120 : ∀ n, ax_ex (e + 7) L_X11_statement 71 [some (.inr (.inr (22, 0))), some (.inl r109), none, none, none] [] m110 (n + 3) = ax_aft (fun s m2 => ax_ex (e + 7) L_X11_statement 74 [some (.inr (.inr (22, 0))), some (.inl r109), none, none, none] s m2 n) [] (ax_ex (e + 6) L_X11_newOne 0 (ax_entry [.inr (.inr (22, 0)), .inl r109] 3) [] m110 n) := fun n => rfl
                refine ax_gci (j := 3) (k2 := 74) (lv2 := [some (.inr (.inr (22, 0))), some (.inl r109), none, none, none]) (rest := []) ((R_X11_newOne (by omega) q117)) s120 ?_
                obtain rfl := Option.some.inj h
                exact ax_rq (c := (1 : Int32) = 0 ∨ (1 : Int32) = 1) (j := 3) (by decide) (fun n => rfl)
              · rw [if_neg c115] at h
                refine ax_gf c115 s116 ?_
                obtain rfl := Option.some.inj h
                exact ax_rq (c := (0 : Int32) = 0 ∨ (0 : Int32) = 1) (j := 2) (by decide) (fun n => rfl)
            · rw [if_neg c113] at h
              cases h
    · rw [if_neg c7] at h
      refine ax_gf c7 s8 ?_
      obtain ⟨r124, m125, q123, h⟩ := ax_b2_of h
      have s130 : ∀ n, ax_ex (e + 7) L_X11_statement 29 [some (.inr (.inr (22, 0))), none, none, none, none] [] m (n + 4) = ax_aft (fun s m2 => ax_ex (e + 7) L_X11_statement 33 [some (.inr (.inr (22, 0))), none, none, none, none] s m2 n) [] (ax_ex (e + 6) L_X11_number 0 (ax_entry [.inr (.inr (22, 0)), .inl 0, .inl 63] 3) [] m n) := fun n => rfl
      refine ax_gci (j := 4) (k2 := 33) (lv2 := [some (.inr (.inr (22, 0))), none, none, none, none]) (rest := []) ((R_X11_number (by omega) q123)) s130 ?_
      have s127 : ∀ n, ax_ex (e + 7) L_X11_statement 33 [some (.inr (.inr (22, 0))), none, none, none, none] [.inl r124] m125 (n + 4) = if r124 = (-1) then ax_ex (e + 7) L_X11_statement 37 [some (.inr (.inr (22, 0))), some (.inl r124), none, none, none] [] m125 n else ax_ex (e + 7) L_X11_statement 39 [some (.inr (.inr (22, 0))), some (.inl r124), none, none, none] [] m125 n := fun n => rfl
      by_cases c126 : r124 = (-1)
      · rw [if_pos c126] at h
        refine ax_gt c126 s127 ?_
        obtain rfl := Option.some.inj h
        exact ax_rq (c := (0 : Int32) = 0 ∨ (0 : Int32) = 1) (j := 2) (by decide) (fun n => rfl)
      · rw [if_neg c126] at h
        refine ax_gf c126 s127 ?_
        have s128 : ∀ n, ax_ex (e + 7) L_X11_statement 39 [some (.inr (.inr (22, 0))), some (.inl r124), none, none, none] [] m125 (n + 5) = (if ax_ok r124 64 = true then (if (0 : Int32) = 0 ∨ (0 : Int32) = 1 then ax_ex (e + 7) L_X11_statement 44 [some (.inr (.inr (22, 0))), some (.inl r124), none, none, none] [] (ax_ui m125 23 0 r124.toNatClampNeg 0) n else none) else none) := fun n => rfl
        by_cases c129 : ax_ok r124 64 = true
        · rw [if_pos c129] at h
          refine ax_go (j := 5) (k2 := 44) (lv2 := [some (.inr (.inr (22, 0))), some (.inl r124), none, none, none]) (st2 := []) (m2 := (ax_ui m125 23 0 r124.toNatClampNeg 0)) (fun n => (s128 n).trans ((if_pos c129).trans (if_pos (by decide)))) ?_
          obtain rfl := Option.some.inj h
          exact ax_rq (c := (1 : Int32) = 0 ∨ (1 : Int32) = 1) (j := 2) (by decide) (fun n => rfl)
        · rw [if_neg c129] at h
          cases h
  · rw [if_neg c3] at h
    refine ax_gf c3 s4 ?_
    obtain ⟨r133, m134, q132, h⟩ := ax_b2_of h
    have s144 : ∀ n, ax_ex (e + 7) L_X11_statement 4 [some (.inr (.inr (22, 0))), none, none, none, none] [] m (n + 4) = ax_aft (fun s m2 => ax_ex (e + 7) L_X11_statement 8 [some (.inr (.inr (22, 0))), none, none, none, none] s m2 n) [] (ax_ex (e + 6) L_X11_number 0 (ax_entry [.inr (.inr (22, 0)), .inl 0, .inl 63] 3) [] m n) := fun n => rfl
    refine ax_gci (j := 4) (k2 := 8) (lv2 := [some (.inr (.inr (22, 0))), none, none, none, none]) (rest := []) ((R_X11_number (by omega) q132)) s144 ?_
    have s136 : ∀ n, ax_ex (e + 7) L_X11_statement 8 [some (.inr (.inr (22, 0))), none, none, none, none] [.inl r133] m134 (n + 4) = if r133 = (-1) then ax_ex (e + 7) L_X11_statement 16 [some (.inr (.inr (22, 0))), some (.inl r133), none, none, none] [] m134 n else ax_ex (e + 7) L_X11_statement 12 [some (.inr (.inr (22, 0))), some (.inl r133), none, none, none] [] m134 n := fun n => rfl
    by_cases c135 : r133 = (-1)
    · rw [if_pos c135] at h
      refine ax_gt c135 s136 ?_
      obtain rfl := Option.some.inj h
      exact ax_rq (c := (0 : Int32) = 0 ∨ (0 : Int32) = 1) (j := 2) (by decide) (fun n => rfl)
    · rw [if_neg c135] at h
      refine ax_gf c135 s136 ?_
      obtain ⟨r138, q137, h⟩ := ax_b_of h
      have s143 : ∀ n, ax_ex (e + 7) L_X11_statement 12 [some (.inr (.inr (22, 0))), some (.inl r133), none, none, none] [] m134 (n + 3) = ax_aft (fun s m2 => ax_ex (e + 7) L_X11_statement 15 [some (.inr (.inr (22, 0))), some (.inl r133), none, none, none] s m2 n) [] (ax_ex (e + 6) L_X11_somebodyAt 0 (ax_entry [.inr (.inr (22, 0)), .inl r133] 3) [] m134 n) := fun n => rfl
      refine ax_gci (j := 3) (k2 := 15) (lv2 := [some (.inr (.inr (22, 0))), some (.inl r133), none, none, none]) (rest := []) ((R_X11_somebodyAt (by omega) q137)) s143 ?_
      have s140 : ∀ n, ax_ex (e + 7) L_X11_statement 15 [some (.inr (.inr (22, 0))), some (.inl r133), none, none, none] [.inl r138] m134 (n + 1) = if r138 = 0 then ax_ex (e + 7) L_X11_statement 18 [some (.inr (.inr (22, 0))), some (.inl r133), none, none, none] [] m134 n else ax_ex (e + 7) L_X11_statement 16 [some (.inr (.inr (22, 0))), some (.inl r133), none, none, none] [] m134 n := fun n => rfl
      by_cases c139 : r138 = 0
      · rw [if_pos c139] at h
        refine ax_gt c139 s140 ?_
        have s141 : ∀ n, ax_ex (e + 7) L_X11_statement 18 [some (.inr (.inr (22, 0))), some (.inl r133), none, none, none] [] m134 (n + 5) = (if ax_ok r133 64 = true then (if (1 : Int32) = 0 ∨ (1 : Int32) = 1 then ax_ex (e + 7) L_X11_statement 23 [some (.inr (.inr (22, 0))), some (.inl r133), none, none, none] [] (ax_ui m134 23 0 r133.toNatClampNeg 1) n else none) else none) := fun n => rfl
        by_cases c142 : ax_ok r133 64 = true
        · rw [if_pos c142] at h
          refine ax_go (j := 5) (k2 := 23) (lv2 := [some (.inr (.inr (22, 0))), some (.inl r133), none, none, none]) (st2 := []) (m2 := (ax_ui m134 23 0 r133.toNatClampNeg 1)) (fun n => (s141 n).trans ((if_pos c142).trans (if_pos (by decide)))) ?_
          obtain rfl := Option.some.inj h
          exact ax_rq (c := (1 : Int32) = 0 ∨ (1 : Int32) = 1) (j := 2) (by decide) (fun n => rfl)
        · rw [if_neg c142] at h
          cases h
      · rw [if_neg c139] at h
        refine ax_gf c139 s140 ?_
        obtain rfl := Option.some.inj h
        exact ax_rq (c := (0 : Int32) = 0 ∨ (0 : Int32) = 1) (j := 2) (by decide) (fun n => rfl)
def F_X11_keep_36_L45 : Nat → ax_M → Int32 → Option ax_M
  | 0, _, _ => none
  | n + 1, m, v2 => if 16 ≤ v2 then (if ax_ok 200 203 = true then (if ax_ok 201 203 = true then (if ax_ok 202 203 = true then (some (ax_ui (ax_ui (ax_ui m 36 0 (200 : Int32).toNatClampNeg (m.1 22 0 1)) 36 0 (201 : Int32).toNatClampNeg ((ax_ui m 36 0 (200 : Int32).toNatClampNeg (m.1 22 0 1)).1 22 0 4)) 36 0 (202 : Int32).toNatClampNeg ((ax_ui (ax_ui m 36 0 (200 : Int32).toNatClampNeg (m.1 22 0 1)) 36 0 (201 : Int32).toNatClampNeg ((ax_ui m 36 0 (200 : Int32).toNatClampNeg (m.1 22 0 1)).1 22 0 4)).1 22 0 9))) else (none)) else (none)) else (none)) else (if ax_ok v2 16 = true then (if ax_ok (136 + v2) 203 = true then (if ax_ok v2 16 = true then (if ax_ok (152 + v2) 203 = true then (if ax_ok v2 16 = true then (if ax_ok (168 + v2) 203 = true then (if ax_ok v2 16 = true then (if ax_ok (184 + v2) 203 = true then (F_X11_keep_36_L45 n (ax_ui (ax_ui (ax_ui (ax_ui m 36 0 (136 + v2).toNatClampNeg (m.1 26 0 v2.toNatClampNeg)) 36 0 (152 + v2).toNatClampNeg ((ax_ui m 36 0 (136 + v2).toNatClampNeg (m.1 26 0 v2.toNatClampNeg)).1 27 0 v2.toNatClampNeg)) 36 0 (168 + v2).toNatClampNeg ((ax_ui (ax_ui m 36 0 (136 + v2).toNatClampNeg (m.1 26 0 v2.toNatClampNeg)) 36 0 (152 + v2).toNatClampNeg ((ax_ui m 36 0 (136 + v2).toNatClampNeg (m.1 26 0 v2.toNatClampNeg)).1 27 0 v2.toNatClampNeg)).1 28 0 v2.toNatClampNeg)) 36 0 (184 + v2).toNatClampNeg ((ax_ui (ax_ui (ax_ui m 36 0 (136 + v2).toNatClampNeg (m.1 26 0 v2.toNatClampNeg)) 36 0 (152 + v2).toNatClampNeg ((ax_ui m 36 0 (136 + v2).toNatClampNeg (m.1 26 0 v2.toNatClampNeg)).1 27 0 v2.toNatClampNeg)) 36 0 (168 + v2).toNatClampNeg ((ax_ui (ax_ui m 36 0 (136 + v2).toNatClampNeg (m.1 26 0 v2.toNatClampNeg)) 36 0 (152 + v2).toNatClampNeg ((ax_ui m 36 0 (136 + v2).toNatClampNeg (m.1 26 0 v2.toNatClampNeg)).1 27 0 v2.toNatClampNeg)).1 28 0 v2.toNatClampNeg)).1 29 0 v2.toNatClampNeg)) (v2 + 1)) else (none)) else (none)) else (none)) else (none)) else (none)) else (none)) else (none)) else (none))
set_option maxRecDepth 20000 in
set_option maxHeartbeats 4000000 in
theorem R_X11_keep_36_L45 {e : Nat} : ∀ (n : Nat) (m : ax_M) (v2 : Int32) (q : ax_M), F_X11_keep_36_L45 n m v2 = some q → ax_Ru (e + 1) L_X11_keep 45 [some (.inr (.inr (22, 0))), some (.inr (.inr (36, 0))), some (.inl v2)] [] m (none, q) := by
  intro n
  induction n with
  | zero =>
    intro m v2 q h
    cases h
  | succ n ih =>
    intro m v2 q h
    rw [F_X11_keep_36_L45] at h
    have s6 : ∀ n, ax_ex (e + 1) L_X11_keep 45 [some (.inr (.inr (22, 0))), some (.inr (.inr (36, 0))), some (.inl v2)] [] m (n + 3) = if 16 ≤ v2 then ax_ex (e + 1) L_X11_keep 86 [some (.inr (.inr (22, 0))), some (.inr (.inr (36, 0))), some (.inl v2)] [] m n else ax_ex (e + 1) L_X11_keep 48 [some (.inr (.inr (22, 0))), some (.inr (.inr (36, 0))), some (.inl v2)] [] m n := fun n => rfl
    by_cases c5 : 16 ≤ v2
    · rw [if_pos c5] at h
      refine ax_gt c5 s6 ?_
      have s8 : ∀ n, ax_ex (e + 1) L_X11_keep 86 [some (.inr (.inr (22, 0))), some (.inr (.inr (36, 0))), some (.inl v2)] [] m (n + 5) = if ax_ok 200 203 = true then ax_ex (e + 1) L_X11_keep 91 [some (.inr (.inr (22, 0))), some (.inr (.inr (36, 0))), some (.inl v2)] [] (ax_ui m 36 0 (200 : Int32).toNatClampNeg (m.1 22 0 1)) n else none := fun n => rfl
      by_cases c7 : ax_ok 200 203 = true
      · rw [if_pos c7] at h
        refine ax_gt c7 s8 ?_
        have s10 : ∀ n, ax_ex (e + 1) L_X11_keep 91 [some (.inr (.inr (22, 0))), some (.inr (.inr (36, 0))), some (.inl v2)] [] (ax_ui m 36 0 (200 : Int32).toNatClampNeg (m.1 22 0 1)) (n + 5) = if ax_ok 201 203 = true then ax_ex (e + 1) L_X11_keep 96 [some (.inr (.inr (22, 0))), some (.inr (.inr (36, 0))), some (.inl v2)] [] (ax_ui (ax_ui m 36 0 (200 : Int32).toNatClampNeg (m.1 22 0 1)) 36 0 (201 : Int32).toNatClampNeg ((ax_ui m 36 0 (200 : Int32).toNatClampNeg (m.1 22 0 1)).1 22 0 4)) n else none := fun n => rfl
        by_cases c9 : ax_ok 201 203 = true
        · rw [if_pos c9] at h
          refine ax_gt c9 s10 ?_
          have s12 : ∀ n, ax_ex (e + 1) L_X11_keep 96 [some (.inr (.inr (22, 0))), some (.inr (.inr (36, 0))), some (.inl v2)] [] (ax_ui (ax_ui m 36 0 (200 : Int32).toNatClampNeg (m.1 22 0 1)) 36 0 (201 : Int32).toNatClampNeg ((ax_ui m 36 0 (200 : Int32).toNatClampNeg (m.1 22 0 1)).1 22 0 4)) (n + 5) = if ax_ok 202 203 = true then ax_ex (e + 1) L_X11_keep 101 [some (.inr (.inr (22, 0))), some (.inr (.inr (36, 0))), some (.inl v2)] [] (ax_ui (ax_ui (ax_ui m 36 0 (200 : Int32).toNatClampNeg (m.1 22 0 1)) 36 0 (201 : Int32).toNatClampNeg ((ax_ui m 36 0 (200 : Int32).toNatClampNeg (m.1 22 0 1)).1 22 0 4)) 36 0 (202 : Int32).toNatClampNeg ((ax_ui (ax_ui m 36 0 (200 : Int32).toNatClampNeg (m.1 22 0 1)) 36 0 (201 : Int32).toNatClampNeg ((ax_ui m 36 0 (200 : Int32).toNatClampNeg (m.1 22 0 1)).1 22 0 4)).1 22 0 9)) n else none := fun n => rfl
          by_cases c11 : ax_ok 202 203 = true
          · rw [if_pos c11] at h
            refine ax_gt c11 s12 ?_
            obtain rfl := Option.some.inj h
            exact ax_rs 1 (fun n => rfl)
          · rw [if_neg c11] at h
            cases h
        · rw [if_neg c9] at h
          cases h
      · rw [if_neg c7] at h
        cases h
    · rw [if_neg c5] at h
      refine ax_gf c5 s6 ?_
      have s14 : ∀ n, ax_ex (e + 1) L_X11_keep 48 [some (.inr (.inr (22, 0))), some (.inr (.inr (36, 0))), some (.inl v2)] [] m (n + 8) = if ax_ok v2 16 = true then ax_ex (e + 1) L_X11_keep 56 [some (.inr (.inr (22, 0))), some (.inr (.inr (36, 0))), some (.inl v2)] [.inl (m.1 26 0 v2.toNatClampNeg), .inl (136 + v2), .inr (.inr (36, 0))] m n else none := fun n => rfl
      by_cases c13 : ax_ok v2 16 = true
      · rw [if_pos c13] at h
        refine ax_gt c13 s14 ?_
        obtain ⟨y15, hy15⟩ : ∃ y : Int32, y = (136 + v2) := ⟨_, rfl⟩
        rw [← hy15] at h ⊢
        have s17 : ∀ n, ax_ex (e + 1) L_X11_keep 56 [some (.inr (.inr (22, 0))), some (.inr (.inr (36, 0))), some (.inl v2)] [.inl (m.1 26 0 v2.toNatClampNeg), .inl y15, .inr (.inr (36, 0))] m (n + 1) = if ax_ok y15 203 = true then ax_ex (e + 1) L_X11_keep 57 [some (.inr (.inr (22, 0))), some (.inr (.inr (36, 0))), some (.inl v2)] [] (ax_ui m 36 0 y15.toNatClampNeg (m.1 26 0 v2.toNatClampNeg)) n else none := fun n => rfl
        by_cases c16 : ax_ok y15 203 = true
        · rw [if_pos c16] at h
          refine ax_gt c16 s17 ?_
          have s19 : ∀ n, ax_ex (e + 1) L_X11_keep 57 [some (.inr (.inr (22, 0))), some (.inr (.inr (36, 0))), some (.inl v2)] [] (ax_ui m 36 0 y15.toNatClampNeg (m.1 26 0 v2.toNatClampNeg)) (n + 8) = if ax_ok v2 16 = true then ax_ex (e + 1) L_X11_keep 65 [some (.inr (.inr (22, 0))), some (.inr (.inr (36, 0))), some (.inl v2)] [.inl ((ax_ui m 36 0 y15.toNatClampNeg (m.1 26 0 v2.toNatClampNeg)).1 27 0 v2.toNatClampNeg), .inl (152 + v2), .inr (.inr (36, 0))] (ax_ui m 36 0 y15.toNatClampNeg (m.1 26 0 v2.toNatClampNeg)) n else none := fun n => rfl
          by_cases c18 : ax_ok v2 16 = true
          · rw [if_pos c18] at h
            refine ax_gt c18 s19 ?_
            obtain ⟨y20, hy20⟩ : ∃ y : Int32, y = (152 + v2) := ⟨_, rfl⟩
            rw [← hy20] at h ⊢
            have s22 : ∀ n, ax_ex (e + 1) L_X11_keep 65 [some (.inr (.inr (22, 0))), some (.inr (.inr (36, 0))), some (.inl v2)] [.inl ((ax_ui m 36 0 y15.toNatClampNeg (m.1 26 0 v2.toNatClampNeg)).1 27 0 v2.toNatClampNeg), .inl y20, .inr (.inr (36, 0))] (ax_ui m 36 0 y15.toNatClampNeg (m.1 26 0 v2.toNatClampNeg)) (n + 1) = if ax_ok y20 203 = true then ax_ex (e + 1) L_X11_keep 66 [some (.inr (.inr (22, 0))), some (.inr (.inr (36, 0))), some (.inl v2)] [] (ax_ui (ax_ui m 36 0 y15.toNatClampNeg (m.1 26 0 v2.toNatClampNeg)) 36 0 y20.toNatClampNeg ((ax_ui m 36 0 y15.toNatClampNeg (m.1 26 0 v2.toNatClampNeg)).1 27 0 v2.toNatClampNeg)) n else none := fun n => rfl
            by_cases c21 : ax_ok y20 203 = true
            · rw [if_pos c21] at h
              refine ax_gt c21 s22 ?_
              have s24 : ∀ n, ax_ex (e + 1) L_X11_keep 66 [some (.inr (.inr (22, 0))), some (.inr (.inr (36, 0))), some (.inl v2)] [] (ax_ui (ax_ui m 36 0 y15.toNatClampNeg (m.1 26 0 v2.toNatClampNeg)) 36 0 y20.toNatClampNeg ((ax_ui m 36 0 y15.toNatClampNeg (m.1 26 0 v2.toNatClampNeg)).1 27 0 v2.toNatClampNeg)) (n + 8) = if ax_ok v2 16 = true then ax_ex (e + 1) L_X11_keep 74 [some (.inr (.inr (22, 0))), some (.inr (.inr (36, 0))), some (.inl v2)] [.inl ((ax_ui (ax_ui m 36 0 y15.toNatClampNeg (m.1 26 0 v2.toNatClampNeg)) 36 0 y20.toNatClampNeg ((ax_ui m 36 0 y15.toNatClampNeg (m.1 26 0 v2.toNatClampNeg)).1 27 0 v2.toNatClampNeg)).1 28 0 v2.toNatClampNeg), .inl (168 + v2), .inr (.inr (36, 0))] (ax_ui (ax_ui m 36 0 y15.toNatClampNeg (m.1 26 0 v2.toNatClampNeg)) 36 0 y20.toNatClampNeg ((ax_ui m 36 0 y15.toNatClampNeg (m.1 26 0 v2.toNatClampNeg)).1 27 0 v2.toNatClampNeg)) n else none := fun n => rfl
              by_cases c23 : ax_ok v2 16 = true
              · rw [if_pos c23] at h
                refine ax_gt c23 s24 ?_
                obtain ⟨y25, hy25⟩ : ∃ y : Int32, y = (168 + v2) := ⟨_, rfl⟩
                rw [← hy25] at h ⊢
                have s27 : ∀ n, ax_ex (e + 1) L_X11_keep 74 [some (.inr (.inr (22, 0))), some (.inr (.inr (36, 0))), some (.inl v2)] [.inl ((ax_ui (ax_ui m 36 0 y15.toNatClampNeg (m.1 26 0 v2.toNatClampNeg)) 36 0 y20.toNatClampNeg ((ax_ui m 36 0 y15.toNatClampNeg (m.1 26 0 v2.toNatClampNeg)).1 27 0 v2.toNatClampNeg)).1 28 0 v2.toNatClampNeg), .inl y25, .inr (.inr (36, 0))] (ax_ui (ax_ui m 36 0 y15.toNatClampNeg (m.1 26 0 v2.toNatClampNeg)) 36 0 y20.toNatClampNeg ((ax_ui m 36 0 y15.toNatClampNeg (m.1 26 0 v2.toNatClampNeg)).1 27 0 v2.toNatClampNeg)) (n + 1) = if ax_ok y25 203 = true then ax_ex (e + 1) L_X11_keep 75 [some (.inr (.inr (22, 0))), some (.inr (.inr (36, 0))), some (.inl v2)] [] (ax_ui (ax_ui (ax_ui m 36 0 y15.toNatClampNeg (m.1 26 0 v2.toNatClampNeg)) 36 0 y20.toNatClampNeg ((ax_ui m 36 0 y15.toNatClampNeg (m.1 26 0 v2.toNatClampNeg)).1 27 0 v2.toNatClampNeg)) 36 0 y25.toNatClampNeg ((ax_ui (ax_ui m 36 0 y15.toNatClampNeg (m.1 26 0 v2.toNatClampNeg)) 36 0 y20.toNatClampNeg ((ax_ui m 36 0 y15.toNatClampNeg (m.1 26 0 v2.toNatClampNeg)).1 27 0 v2.toNatClampNeg)).1 28 0 v2.toNatClampNeg)) n else none := fun n => rfl
                by_cases c26 : ax_ok y25 203 = true
                · rw [if_pos c26] at h
                  refine ax_gt c26 s27 ?_
                  have s29 : ∀ n, ax_ex (e + 1) L_X11_keep 75 [some (.inr (.inr (22, 0))), some (.inr (.inr (36, 0))), some (.inl v2)] [] (ax_ui (ax_ui (ax_ui m 36 0 y15.toNatClampNeg (m.1 26 0 v2.toNatClampNeg)) 36 0 y20.toNatClampNeg ((ax_ui m 36 0 y15.toNatClampNeg (m.1 26 0 v2.toNatClampNeg)).1 27 0 v2.toNatClampNeg)) 36 0 y25.toNatClampNeg ((ax_ui (ax_ui m 36 0 y15.toNatClampNeg (m.1 26 0 v2.toNatClampNeg)) 36 0 y20.toNatClampNeg ((ax_ui m 36 0 y15.toNatClampNeg (m.1 26 0 v2.toNatClampNeg)).1 27 0 v2.toNatClampNeg)).1 28 0 v2.toNatClampNeg)) (n + 8) = if ax_ok v2 16 = true then ax_ex (e + 1) L_X11_keep 83 [some (.inr (.inr (22, 0))), some (.inr (.inr (36, 0))), some (.inl v2)] [.inl ((ax_ui (ax_ui (ax_ui m 36 0 y15.toNatClampNeg (m.1 26 0 v2.toNatClampNeg)) 36 0 y20.toNatClampNeg ((ax_ui m 36 0 y15.toNatClampNeg (m.1 26 0 v2.toNatClampNeg)).1 27 0 v2.toNatClampNeg)) 36 0 y25.toNatClampNeg ((ax_ui (ax_ui m 36 0 y15.toNatClampNeg (m.1 26 0 v2.toNatClampNeg)) 36 0 y20.toNatClampNeg ((ax_ui m 36 0 y15.toNatClampNeg (m.1 26 0 v2.toNatClampNeg)).1 27 0 v2.toNatClampNeg)).1 28 0 v2.toNatClampNeg)).1 29 0 v2.toNatClampNeg), .inl (184 + v2), .inr (.inr (36, 0))] (ax_ui (ax_ui (ax_ui m 36 0 y15.toNatClampNeg (m.1 26 0 v2.toNatClampNeg)) 36 0 y20.toNatClampNeg ((ax_ui m 36 0 y15.toNatClampNeg (m.1 26 0 v2.toNatClampNeg)).1 27 0 v2.toNatClampNeg)) 36 0 y25.toNatClampNeg ((ax_ui (ax_ui m 36 0 y15.toNatClampNeg (m.1 26 0 v2.toNatClampNeg)) 36 0 y20.toNatClampNeg ((ax_ui m 36 0 y15.toNatClampNeg (m.1 26 0 v2.toNatClampNeg)).1 27 0 v2.toNatClampNeg)).1 28 0 v2.toNatClampNeg)) n else none := fun n => rfl
                  by_cases c28 : ax_ok v2 16 = true
                  · rw [if_pos c28] at h
                    refine ax_gt c28 s29 ?_
                    obtain ⟨y30, hy30⟩ : ∃ y : Int32, y = (184 + v2) := ⟨_, rfl⟩
                    rw [← hy30] at h ⊢
                    have s32 : ∀ n, ax_ex (e + 1) L_X11_keep 83 [some (.inr (.inr (22, 0))), some (.inr (.inr (36, 0))), some (.inl v2)] [.inl ((ax_ui (ax_ui (ax_ui m 36 0 y15.toNatClampNeg (m.1 26 0 v2.toNatClampNeg)) 36 0 y20.toNatClampNeg ((ax_ui m 36 0 y15.toNatClampNeg (m.1 26 0 v2.toNatClampNeg)).1 27 0 v2.toNatClampNeg)) 36 0 y25.toNatClampNeg ((ax_ui (ax_ui m 36 0 y15.toNatClampNeg (m.1 26 0 v2.toNatClampNeg)) 36 0 y20.toNatClampNeg ((ax_ui m 36 0 y15.toNatClampNeg (m.1 26 0 v2.toNatClampNeg)).1 27 0 v2.toNatClampNeg)).1 28 0 v2.toNatClampNeg)).1 29 0 v2.toNatClampNeg), .inl y30, .inr (.inr (36, 0))] (ax_ui (ax_ui (ax_ui m 36 0 y15.toNatClampNeg (m.1 26 0 v2.toNatClampNeg)) 36 0 y20.toNatClampNeg ((ax_ui m 36 0 y15.toNatClampNeg (m.1 26 0 v2.toNatClampNeg)).1 27 0 v2.toNatClampNeg)) 36 0 y25.toNatClampNeg ((ax_ui (ax_ui m 36 0 y15.toNatClampNeg (m.1 26 0 v2.toNatClampNeg)) 36 0 y20.toNatClampNeg ((ax_ui m 36 0 y15.toNatClampNeg (m.1 26 0 v2.toNatClampNeg)).1 27 0 v2.toNatClampNeg)).1 28 0 v2.toNatClampNeg)) (n + 1) = if ax_ok y30 203 = true then ax_ex (e + 1) L_X11_keep 84 [some (.inr (.inr (22, 0))), some (.inr (.inr (36, 0))), some (.inl v2)] [] (ax_ui (ax_ui (ax_ui (ax_ui m 36 0 y15.toNatClampNeg (m.1 26 0 v2.toNatClampNeg)) 36 0 y20.toNatClampNeg ((ax_ui m 36 0 y15.toNatClampNeg (m.1 26 0 v2.toNatClampNeg)).1 27 0 v2.toNatClampNeg)) 36 0 y25.toNatClampNeg ((ax_ui (ax_ui m 36 0 y15.toNatClampNeg (m.1 26 0 v2.toNatClampNeg)) 36 0 y20.toNatClampNeg ((ax_ui m 36 0 y15.toNatClampNeg (m.1 26 0 v2.toNatClampNeg)).1 27 0 v2.toNatClampNeg)).1 28 0 v2.toNatClampNeg)) 36 0 y30.toNatClampNeg ((ax_ui (ax_ui (ax_ui m 36 0 y15.toNatClampNeg (m.1 26 0 v2.toNatClampNeg)) 36 0 y20.toNatClampNeg ((ax_ui m 36 0 y15.toNatClampNeg (m.1 26 0 v2.toNatClampNeg)).1 27 0 v2.toNatClampNeg)) 36 0 y25.toNatClampNeg ((ax_ui (ax_ui m 36 0 y15.toNatClampNeg (m.1 26 0 v2.toNatClampNeg)) 36 0 y20.toNatClampNeg ((ax_ui m 36 0 y15.toNatClampNeg (m.1 26 0 v2.toNatClampNeg)).1 27 0 v2.toNatClampNeg)).1 28 0 v2.toNatClampNeg)).1 29 0 v2.toNatClampNeg)) n else none := fun n => rfl
                    by_cases c31 : ax_ok y30 203 = true
                    · rw [if_pos c31] at h
                      refine ax_gt c31 s32 ?_
                      refine ax_go (j := 2) (k2 := 45) (lv2 := [some (.inr (.inr (22, 0))), some (.inr (.inr (36, 0))), some (.inl (v2 + 1))]) (st2 := []) (m2 := (ax_ui (ax_ui (ax_ui (ax_ui m 36 0 y15.toNatClampNeg (m.1 26 0 v2.toNatClampNeg)) 36 0 y20.toNatClampNeg ((ax_ui m 36 0 y15.toNatClampNeg (m.1 26 0 v2.toNatClampNeg)).1 27 0 v2.toNatClampNeg)) 36 0 y25.toNatClampNeg ((ax_ui (ax_ui m 36 0 y15.toNatClampNeg (m.1 26 0 v2.toNatClampNeg)) 36 0 y20.toNatClampNeg ((ax_ui m 36 0 y15.toNatClampNeg (m.1 26 0 v2.toNatClampNeg)).1 27 0 v2.toNatClampNeg)).1 28 0 v2.toNatClampNeg)) 36 0 y30.toNatClampNeg ((ax_ui (ax_ui (ax_ui m 36 0 y15.toNatClampNeg (m.1 26 0 v2.toNatClampNeg)) 36 0 y20.toNatClampNeg ((ax_ui m 36 0 y15.toNatClampNeg (m.1 26 0 v2.toNatClampNeg)).1 27 0 v2.toNatClampNeg)) 36 0 y25.toNatClampNeg ((ax_ui (ax_ui m 36 0 y15.toNatClampNeg (m.1 26 0 v2.toNatClampNeg)) 36 0 y20.toNatClampNeg ((ax_ui m 36 0 y15.toNatClampNeg (m.1 26 0 v2.toNatClampNeg)).1 27 0 v2.toNatClampNeg)).1 28 0 v2.toNatClampNeg)).1 29 0 v2.toNatClampNeg))) (fun n => rfl) ?_
                      exact ax_fg (lv2 := [some (.inr (.inr (22, 0))), some (.inr (.inr (36, 0))), some (.inl (v2 + 1))]) ⟨rfl, rfl, rfl, trivial⟩ (ih (ax_ui (ax_ui (ax_ui (ax_ui m 36 0 y15.toNatClampNeg (m.1 26 0 v2.toNatClampNeg)) 36 0 y20.toNatClampNeg ((ax_ui m 36 0 y15.toNatClampNeg (m.1 26 0 v2.toNatClampNeg)).1 27 0 v2.toNatClampNeg)) 36 0 y25.toNatClampNeg ((ax_ui (ax_ui m 36 0 y15.toNatClampNeg (m.1 26 0 v2.toNatClampNeg)) 36 0 y20.toNatClampNeg ((ax_ui m 36 0 y15.toNatClampNeg (m.1 26 0 v2.toNatClampNeg)).1 27 0 v2.toNatClampNeg)).1 28 0 v2.toNatClampNeg)) 36 0 y30.toNatClampNeg ((ax_ui (ax_ui (ax_ui m 36 0 y15.toNatClampNeg (m.1 26 0 v2.toNatClampNeg)) 36 0 y20.toNatClampNeg ((ax_ui m 36 0 y15.toNatClampNeg (m.1 26 0 v2.toNatClampNeg)).1 27 0 v2.toNatClampNeg)) 36 0 y25.toNatClampNeg ((ax_ui (ax_ui m 36 0 y15.toNatClampNeg (m.1 26 0 v2.toNatClampNeg)) 36 0 y20.toNatClampNeg ((ax_ui m 36 0 y15.toNatClampNeg (m.1 26 0 v2.toNatClampNeg)).1 27 0 v2.toNatClampNeg)).1 28 0 v2.toNatClampNeg)).1 29 0 v2.toNatClampNeg)) (v2 + 1) _ h)
                    · rw [if_neg c31] at h
                      cases h
                  · rw [if_neg c28] at h
                    cases h
                · rw [if_neg c26] at h
                  cases h
              · rw [if_neg c23] at h
                cases h
            · rw [if_neg c21] at h
              cases h
          · rw [if_neg c18] at h
            cases h
        · rw [if_neg c16] at h
          cases h
      · rw [if_neg c13] at h
        cases h
def F_X11_keep_36_L29 : Nat → ax_M → Int32 → Option ax_M
  | 0, _, _ => none
  | n + 1, m, v2 => if 8 ≤ v2 then (F_X11_keep_36_L45 ax_FU m 0) else (if ax_ok v2 8 = true then (if ax_ok (128 + v2) 203 = true then (F_X11_keep_36_L29 n (ax_ui m 36 0 (128 + v2).toNatClampNeg (m.1 24 0 v2.toNatClampNeg)) (v2 + 1)) else (none)) else (none))
set_option maxRecDepth 20000 in
set_option maxHeartbeats 4000000 in
theorem R_X11_keep_36_L29 {e : Nat} : ∀ (n : Nat) (m : ax_M) (v2 : Int32) (q : ax_M), F_X11_keep_36_L29 n m v2 = some q → ax_Ru (e + 1) L_X11_keep 29 [some (.inr (.inr (22, 0))), some (.inr (.inr (36, 0))), some (.inl v2)] [] m (none, q) := by
  intro n
  induction n with
  | zero =>
    intro m v2 q h
    cases h
  | succ n ih =>
    intro m v2 q h
    rw [F_X11_keep_36_L29] at h
    have s4 : ∀ n, ax_ex (e + 1) L_X11_keep 29 [some (.inr (.inr (22, 0))), some (.inr (.inr (36, 0))), some (.inl v2)] [] m (n + 3) = if 8 ≤ v2 then ax_ex (e + 1) L_X11_keep 43 [some (.inr (.inr (22, 0))), some (.inr (.inr (36, 0))), some (.inl v2)] [] m n else ax_ex (e + 1) L_X11_keep 32 [some (.inr (.inr (22, 0))), some (.inr (.inr (36, 0))), some (.inl v2)] [] m n := fun n => rfl
    by_cases c3 : 8 ≤ v2
    · rw [if_pos c3] at h
      refine ax_gt c3 s4 ?_
      refine ax_go (j := 2) (k2 := 45) (lv2 := [some (.inr (.inr (22, 0))), some (.inr (.inr (36, 0))), some (.inl 0)]) (st2 := []) (m2 := m) (fun n => rfl) ?_
      refine ax_fg (lv2 := [some (.inr (.inr (22, 0))), some (.inr (.inr (36, 0))), some (.inl 0)]) ⟨rfl, rfl, rfl, trivial⟩ ?_
      refine R_X11_keep_36_L45 _ m 0 _ h
    · rw [if_neg c3] at h
      refine ax_gf c3 s4 ?_
      have s35 : ∀ n, ax_ex (e + 1) L_X11_keep 32 [some (.inr (.inr (22, 0))), some (.inr (.inr (36, 0))), some (.inl v2)] [] m (n + 8) = if ax_ok v2 8 = true then ax_ex (e + 1) L_X11_keep 40 [some (.inr (.inr (22, 0))), some (.inr (.inr (36, 0))), some (.inl v2)] [.inl (m.1 24 0 v2.toNatClampNeg), .inl (128 + v2), .inr (.inr (36, 0))] m n else none := fun n => rfl
      by_cases c34 : ax_ok v2 8 = true
      · rw [if_pos c34] at h
        refine ax_gt c34 s35 ?_
        obtain ⟨y36, hy36⟩ : ∃ y : Int32, y = (128 + v2) := ⟨_, rfl⟩
        rw [← hy36] at h ⊢
        have s38 : ∀ n, ax_ex (e + 1) L_X11_keep 40 [some (.inr (.inr (22, 0))), some (.inr (.inr (36, 0))), some (.inl v2)] [.inl (m.1 24 0 v2.toNatClampNeg), .inl y36, .inr (.inr (36, 0))] m (n + 1) = if ax_ok y36 203 = true then ax_ex (e + 1) L_X11_keep 41 [some (.inr (.inr (22, 0))), some (.inr (.inr (36, 0))), some (.inl v2)] [] (ax_ui m 36 0 y36.toNatClampNeg (m.1 24 0 v2.toNatClampNeg)) n else none := fun n => rfl
        by_cases c37 : ax_ok y36 203 = true
        · rw [if_pos c37] at h
          refine ax_gt c37 s38 ?_
          refine ax_go (j := 2) (k2 := 29) (lv2 := [some (.inr (.inr (22, 0))), some (.inr (.inr (36, 0))), some (.inl (v2 + 1))]) (st2 := []) (m2 := (ax_ui m 36 0 y36.toNatClampNeg (m.1 24 0 v2.toNatClampNeg))) (fun n => rfl) ?_
          exact ax_fg (lv2 := [some (.inr (.inr (22, 0))), some (.inr (.inr (36, 0))), some (.inl (v2 + 1))]) ⟨rfl, rfl, rfl, trivial⟩ (ih (ax_ui m 36 0 y36.toNatClampNeg (m.1 24 0 v2.toNatClampNeg)) (v2 + 1) _ h)
        · rw [if_neg c37] at h
          cases h
      · rw [if_neg c34] at h
        cases h
def F_X11_keep_36_L2 : Nat → ax_M → Int32 → Option ax_M
  | 0, _, _ => none
  | n + 1, m, v2 => if 64 ≤ v2 then (F_X11_keep_36_L29 ax_FU m 0) else (if ax_ok v2 64 = true then (if (m.1 23 0 v2.toNatClampNeg) = 0 then (if ax_ok v2 203 = true then (if ax_ok v2 64 = true then (if ax_ok (64 + v2) 203 = true then (F_X11_keep_36_L2 n (ax_ui (ax_ui m 36 0 v2.toNatClampNeg 0) 36 0 (64 + v2).toNatClampNeg ((ax_ui m 36 0 v2.toNatClampNeg 0).1 25 0 v2.toNatClampNeg)) (v2 + 1)) else (none)) else (none)) else (none)) else (if ax_ok v2 203 = true then (if ax_ok v2 64 = true then (if ax_ok (64 + v2) 203 = true then (F_X11_keep_36_L2 n (ax_ui (ax_ui m 36 0 v2.toNatClampNeg 1) 36 0 (64 + v2).toNatClampNeg ((ax_ui m 36 0 v2.toNatClampNeg 1).1 25 0 v2.toNatClampNeg)) (v2 + 1)) else (none)) else (none)) else (none))) else (none))
set_option maxRecDepth 20000 in
set_option maxHeartbeats 4000000 in
theorem R_X11_keep_36_L2 {e : Nat} : ∀ (n : Nat) (m : ax_M) (v2 : Int32) (q : ax_M), F_X11_keep_36_L2 n m v2 = some q → ax_Ru (e + 1) L_X11_keep 2 [some (.inr (.inr (22, 0))), some (.inr (.inr (36, 0))), some (.inl v2)] [] m (none, q) := by
  intro n
  induction n with
  | zero =>
    intro m v2 q h
    cases h
  | succ n ih =>
    intro m v2 q h
    rw [F_X11_keep_36_L2] at h
    have s2 : ∀ n, ax_ex (e + 1) L_X11_keep 2 [some (.inr (.inr (22, 0))), some (.inr (.inr (36, 0))), some (.inl v2)] [] m (n + 3) = if 64 ≤ v2 then ax_ex (e + 1) L_X11_keep 27 [some (.inr (.inr (22, 0))), some (.inr (.inr (36, 0))), some (.inl v2)] [] m n else ax_ex (e + 1) L_X11_keep 5 [some (.inr (.inr (22, 0))), some (.inr (.inr (36, 0))), some (.inl v2)] [] m n := fun n => rfl
    by_cases c1 : 64 ≤ v2
    · rw [if_pos c1] at h
      refine ax_gt c1 s2 ?_
      refine ax_go (j := 2) (k2 := 29) (lv2 := [some (.inr (.inr (22, 0))), some (.inr (.inr (36, 0))), some (.inl 0)]) (st2 := []) (m2 := m) (fun n => rfl) ?_
      refine ax_fg (lv2 := [some (.inr (.inr (22, 0))), some (.inr (.inr (36, 0))), some (.inl 0)]) ⟨rfl, rfl, rfl, trivial⟩ ?_
      refine R_X11_keep_36_L29 _ m 0 _ h
    · rw [if_neg c1] at h
      refine ax_gf c1 s2 ?_
      have s41 : ∀ n, ax_ex (e + 1) L_X11_keep 5 [some (.inr (.inr (22, 0))), some (.inr (.inr (36, 0))), some (.inl v2)] [] m (n + 6) = if ax_ok v2 64 = true then ax_ex (e + 1) L_X11_keep 11 [some (.inr (.inr (22, 0))), some (.inr (.inr (36, 0))), some (.inl v2)] [.inl (m.1 23 0 v2.toNatClampNeg), .inl v2, .inr (.inr (36, 0))] m n else none := fun n => rfl
      by_cases c40 : ax_ok v2 64 = true
      · rw [if_pos c40] at h
        refine ax_gt c40 s41 ?_
        have s43 : ∀ n, ax_ex (e + 1) L_X11_keep 11 [some (.inr (.inr (22, 0))), some (.inr (.inr (36, 0))), some (.inl v2)] [.inl (m.1 23 0 v2.toNatClampNeg), .inl v2, .inr (.inr (36, 0))] m (n + 1) = if (m.1 23 0 v2.toNatClampNeg) = 0 then ax_ex (e + 1) L_X11_keep 14 [some (.inr (.inr (22, 0))), some (.inr (.inr (36, 0))), some (.inl v2)] [.inl v2, .inr (.inr (36, 0))] m n else ax_ex (e + 1) L_X11_keep 12 [some (.inr (.inr (22, 0))), some (.inr (.inr (36, 0))), some (.inl v2)] [.inl v2, .inr (.inr (36, 0))] m n := fun n => rfl
        by_cases c42 : (m.1 23 0 v2.toNatClampNeg) = 0
        · rw [if_pos c42] at h
          refine ax_gt c42 s43 ?_
          have s45 : ∀ n, ax_ex (e + 1) L_X11_keep 14 [some (.inr (.inr (22, 0))), some (.inr (.inr (36, 0))), some (.inl v2)] [.inl v2, .inr (.inr (36, 0))] m (n + 2) = if ax_ok v2 203 = true then ax_ex (e + 1) L_X11_keep 16 [some (.inr (.inr (22, 0))), some (.inr (.inr (36, 0))), some (.inl v2)] [] (ax_ui m 36 0 v2.toNatClampNeg 0) n else none := fun n => rfl
          by_cases c44 : ax_ok v2 203 = true
          · rw [if_pos c44] at h
            refine ax_gt c44 s45 ?_
            have s47 : ∀ n, ax_ex (e + 1) L_X11_keep 16 [some (.inr (.inr (22, 0))), some (.inr (.inr (36, 0))), some (.inl v2)] [] (ax_ui m 36 0 v2.toNatClampNeg 0) (n + 8) = if ax_ok v2 64 = true then ax_ex (e + 1) L_X11_keep 24 [some (.inr (.inr (22, 0))), some (.inr (.inr (36, 0))), some (.inl v2)] [.inl ((ax_ui m 36 0 v2.toNatClampNeg 0).1 25 0 v2.toNatClampNeg), .inl (64 + v2), .inr (.inr (36, 0))] (ax_ui m 36 0 v2.toNatClampNeg 0) n else none := fun n => rfl
            by_cases c46 : ax_ok v2 64 = true
            · rw [if_pos c46] at h
              refine ax_gt c46 s47 ?_
              obtain ⟨y48, hy48⟩ : ∃ y : Int32, y = (64 + v2) := ⟨_, rfl⟩
              rw [← hy48] at h ⊢
              have s50 : ∀ n, ax_ex (e + 1) L_X11_keep 24 [some (.inr (.inr (22, 0))), some (.inr (.inr (36, 0))), some (.inl v2)] [.inl ((ax_ui m 36 0 v2.toNatClampNeg 0).1 25 0 v2.toNatClampNeg), .inl y48, .inr (.inr (36, 0))] (ax_ui m 36 0 v2.toNatClampNeg 0) (n + 1) = if ax_ok y48 203 = true then ax_ex (e + 1) L_X11_keep 25 [some (.inr (.inr (22, 0))), some (.inr (.inr (36, 0))), some (.inl v2)] [] (ax_ui (ax_ui m 36 0 v2.toNatClampNeg 0) 36 0 y48.toNatClampNeg ((ax_ui m 36 0 v2.toNatClampNeg 0).1 25 0 v2.toNatClampNeg)) n else none := fun n => rfl
              by_cases c49 : ax_ok y48 203 = true
              · rw [if_pos c49] at h
                refine ax_gt c49 s50 ?_
                refine ax_go (j := 2) (k2 := 2) (lv2 := [some (.inr (.inr (22, 0))), some (.inr (.inr (36, 0))), some (.inl (v2 + 1))]) (st2 := []) (m2 := (ax_ui (ax_ui m 36 0 v2.toNatClampNeg 0) 36 0 y48.toNatClampNeg ((ax_ui m 36 0 v2.toNatClampNeg 0).1 25 0 v2.toNatClampNeg))) (fun n => rfl) ?_
                exact ax_fg (lv2 := [some (.inr (.inr (22, 0))), some (.inr (.inr (36, 0))), some (.inl (v2 + 1))]) ⟨rfl, rfl, rfl, trivial⟩ (ih (ax_ui (ax_ui m 36 0 v2.toNatClampNeg 0) 36 0 y48.toNatClampNeg ((ax_ui m 36 0 v2.toNatClampNeg 0).1 25 0 v2.toNatClampNeg)) (v2 + 1) _ h)
              · rw [if_neg c49] at h
                cases h
            · rw [if_neg c46] at h
              cases h
          · rw [if_neg c44] at h
            cases h
        · rw [if_neg c42] at h
          refine ax_gf c42 s43 ?_
          have s52 : ∀ n, ax_ex (e + 1) L_X11_keep 12 [some (.inr (.inr (22, 0))), some (.inr (.inr (36, 0))), some (.inl v2)] [.inl v2, .inr (.inr (36, 0))] m (n + 3) = if ax_ok v2 203 = true then ax_ex (e + 1) L_X11_keep 16 [some (.inr (.inr (22, 0))), some (.inr (.inr (36, 0))), some (.inl v2)] [] (ax_ui m 36 0 v2.toNatClampNeg 1) n else none := fun n => rfl
          by_cases c51 : ax_ok v2 203 = true
          · rw [if_pos c51] at h
            refine ax_gt c51 s52 ?_
            have s54 : ∀ n, ax_ex (e + 1) L_X11_keep 16 [some (.inr (.inr (22, 0))), some (.inr (.inr (36, 0))), some (.inl v2)] [] (ax_ui m 36 0 v2.toNatClampNeg 1) (n + 8) = if ax_ok v2 64 = true then ax_ex (e + 1) L_X11_keep 24 [some (.inr (.inr (22, 0))), some (.inr (.inr (36, 0))), some (.inl v2)] [.inl ((ax_ui m 36 0 v2.toNatClampNeg 1).1 25 0 v2.toNatClampNeg), .inl (64 + v2), .inr (.inr (36, 0))] (ax_ui m 36 0 v2.toNatClampNeg 1) n else none := fun n => rfl
            by_cases c53 : ax_ok v2 64 = true
            · rw [if_pos c53] at h
              refine ax_gt c53 s54 ?_
              obtain ⟨y55, hy55⟩ : ∃ y : Int32, y = (64 + v2) := ⟨_, rfl⟩
              rw [← hy55] at h ⊢
              have s57 : ∀ n, ax_ex (e + 1) L_X11_keep 24 [some (.inr (.inr (22, 0))), some (.inr (.inr (36, 0))), some (.inl v2)] [.inl ((ax_ui m 36 0 v2.toNatClampNeg 1).1 25 0 v2.toNatClampNeg), .inl y55, .inr (.inr (36, 0))] (ax_ui m 36 0 v2.toNatClampNeg 1) (n + 1) = if ax_ok y55 203 = true then ax_ex (e + 1) L_X11_keep 25 [some (.inr (.inr (22, 0))), some (.inr (.inr (36, 0))), some (.inl v2)] [] (ax_ui (ax_ui m 36 0 v2.toNatClampNeg 1) 36 0 y55.toNatClampNeg ((ax_ui m 36 0 v2.toNatClampNeg 1).1 25 0 v2.toNatClampNeg)) n else none := fun n => rfl
              by_cases c56 : ax_ok y55 203 = true
              · rw [if_pos c56] at h
                refine ax_gt c56 s57 ?_
                refine ax_go (j := 2) (k2 := 2) (lv2 := [some (.inr (.inr (22, 0))), some (.inr (.inr (36, 0))), some (.inl (v2 + 1))]) (st2 := []) (m2 := (ax_ui (ax_ui m 36 0 v2.toNatClampNeg 1) 36 0 y55.toNatClampNeg ((ax_ui m 36 0 v2.toNatClampNeg 1).1 25 0 v2.toNatClampNeg))) (fun n => rfl) ?_
                exact ax_fg (lv2 := [some (.inr (.inr (22, 0))), some (.inr (.inr (36, 0))), some (.inl (v2 + 1))]) ⟨rfl, rfl, rfl, trivial⟩ (ih (ax_ui (ax_ui m 36 0 v2.toNatClampNeg 1) 36 0 y55.toNatClampNeg ((ax_ui m 36 0 v2.toNatClampNeg 1).1 25 0 v2.toNatClampNeg)) (v2 + 1) _ h)
              · rw [if_neg c56] at h
                cases h
            · rw [if_neg c53] at h
              cases h
          · rw [if_neg c51] at h
            cases h
      · rw [if_neg c40] at h
        cases h
def F_X11_keep_36 (m : ax_M) : Option ax_M := F_X11_keep_36_L2 ax_FU m 0
set_option maxRecDepth 20000 in
set_option maxHeartbeats 4000000 in
theorem R_X11_keep_36 {d : Nat} (hd : 1 ≤ d) {m : ax_M} {q : ax_M} (h : F_X11_keep_36 m = some q) : ax_Ru d L_X11_keep 0 (ax_entry [.inr (.inr (22, 0)), .inr (.inr (36, 0))] 3) [] m (none, q) := by
  obtain ⟨e, rfl⟩ : ∃ e, d = e + 1 := ⟨d - 1, by omega⟩
  unfold F_X11_keep_36 at h
  refine ax_go (j := 2) (k2 := 2) (lv2 := [some (.inr (.inr (22, 0))), some (.inr (.inr (36, 0))), some (.inl 0)]) (st2 := []) (m2 := m) (fun n => rfl) ?_
  refine ax_fg (lv2 := [some (.inr (.inr (22, 0))), some (.inr (.inr (36, 0))), some (.inl 0)]) ⟨rfl, rfl, rfl, trivial⟩ ?_
  refine R_X11_keep_36_L2 _ m 0 _ h
def F_X11_again_36_L46 : Nat → ax_M → Int32 → Option ax_M
  | 0, _, _ => none
  | n + 1, m, v2 => if 16 ≤ v2 then (if ax_ok 200 203 = true then (if ax_ok 201 203 = true then (if ax_ok 202 203 = true then (some (ax_ui (ax_ui (ax_ui m 22 0 1 (m.1 36 0 (200 : Int32).toNatClampNeg)) 22 0 4 ((ax_ui m 22 0 1 (m.1 36 0 (200 : Int32).toNatClampNeg)).1 36 0 (201 : Int32).toNatClampNeg)) 22 0 9 ((ax_ui (ax_ui m 22 0 1 (m.1 36 0 (200 : Int32).toNatClampNeg)) 22 0 4 ((ax_ui m 22 0 1 (m.1 36 0 (200 : Int32).toNatClampNeg)).1 36 0 (201 : Int32).toNatClampNeg)).1 36 0 (202 : Int32).toNatClampNeg))) else (none)) else (none)) else (none)) else (if ax_ok (136 + v2) 203 = true then (if ax_ok v2 16 = true then (if ax_ok (152 + v2) 203 = true then (if ax_ok v2 16 = true then (if ax_ok (168 + v2) 203 = true then (if ax_ok v2 16 = true then (if ax_ok (184 + v2) 203 = true then (if ax_ok v2 16 = true then (F_X11_again_36_L46 n (ax_ui (ax_ui (ax_ui (ax_ui m 26 0 v2.toNatClampNeg (m.1 36 0 (136 + v2).toNatClampNeg)) 27 0 v2.toNatClampNeg ((ax_ui m 26 0 v2.toNatClampNeg (m.1 36 0 (136 + v2).toNatClampNeg)).1 36 0 (152 + v2).toNatClampNeg)) 28 0 v2.toNatClampNeg ((ax_ui (ax_ui m 26 0 v2.toNatClampNeg (m.1 36 0 (136 + v2).toNatClampNeg)) 27 0 v2.toNatClampNeg ((ax_ui m 26 0 v2.toNatClampNeg (m.1 36 0 (136 + v2).toNatClampNeg)).1 36 0 (152 + v2).toNatClampNeg)).1 36 0 (168 + v2).toNatClampNeg)) 29 0 v2.toNatClampNeg ((ax_ui (ax_ui (ax_ui m 26 0 v2.toNatClampNeg (m.1 36 0 (136 + v2).toNatClampNeg)) 27 0 v2.toNatClampNeg ((ax_ui m 26 0 v2.toNatClampNeg (m.1 36 0 (136 + v2).toNatClampNeg)).1 36 0 (152 + v2).toNatClampNeg)) 28 0 v2.toNatClampNeg ((ax_ui (ax_ui m 26 0 v2.toNatClampNeg (m.1 36 0 (136 + v2).toNatClampNeg)) 27 0 v2.toNatClampNeg ((ax_ui m 26 0 v2.toNatClampNeg (m.1 36 0 (136 + v2).toNatClampNeg)).1 36 0 (152 + v2).toNatClampNeg)).1 36 0 (168 + v2).toNatClampNeg)).1 36 0 (184 + v2).toNatClampNeg)) (v2 + 1)) else (none)) else (none)) else (none)) else (none)) else (none)) else (none)) else (none)) else (none))
set_option maxRecDepth 20000 in
set_option maxHeartbeats 4000000 in
theorem R_X11_again_36_L46 {e : Nat} : ∀ (n : Nat) (m : ax_M) (v2 : Int32) (q : ax_M), F_X11_again_36_L46 n m v2 = some q → ax_Ru (e + 1) L_X11_again 46 [some (.inr (.inr (22, 0))), some (.inr (.inr (36, 0))), some (.inl v2)] [] m (none, q) := by
  intro n
  induction n with
  | zero =>
    intro m v2 q h
    cases h
  | succ n ih =>
    intro m v2 q h
    rw [F_X11_again_36_L46] at h
    have s6 : ∀ n, ax_ex (e + 1) L_X11_again 46 [some (.inr (.inr (22, 0))), some (.inr (.inr (36, 0))), some (.inl v2)] [] m (n + 3) = if 16 ≤ v2 then ax_ex (e + 1) L_X11_again 87 [some (.inr (.inr (22, 0))), some (.inr (.inr (36, 0))), some (.inl v2)] [] m n else ax_ex (e + 1) L_X11_again 49 [some (.inr (.inr (22, 0))), some (.inr (.inr (36, 0))), some (.inl v2)] [] m n := fun n => rfl
    by_cases c5 : 16 ≤ v2
    · rw [if_pos c5] at h
      refine ax_gt c5 s6 ?_
      have s8 : ∀ n, ax_ex (e + 1) L_X11_again 87 [some (.inr (.inr (22, 0))), some (.inr (.inr (36, 0))), some (.inl v2)] [] m (n + 4) = if ax_ok 200 203 = true then ax_ex (e + 1) L_X11_again 91 [some (.inr (.inr (22, 0))), some (.inr (.inr (36, 0))), some (.inl v2)] [.inl (m.1 36 0 (200 : Int32).toNatClampNeg), .inr (.inr (22, 0))] m n else none := fun n => rfl
      by_cases c7 : ax_ok 200 203 = true
      · rw [if_pos c7] at h
        refine ax_gt c7 s8 ?_
        have s10 : ∀ n, ax_ex (e + 1) L_X11_again 91 [some (.inr (.inr (22, 0))), some (.inr (.inr (36, 0))), some (.inl v2)] [.inl (m.1 36 0 (200 : Int32).toNatClampNeg), .inr (.inr (22, 0))] m (n + 5) = if ax_ok 201 203 = true then ax_ex (e + 1) L_X11_again 96 [some (.inr (.inr (22, 0))), some (.inr (.inr (36, 0))), some (.inl v2)] [.inl ((ax_ui m 22 0 1 (m.1 36 0 (200 : Int32).toNatClampNeg)).1 36 0 (201 : Int32).toNatClampNeg), .inr (.inr (22, 0))] (ax_ui m 22 0 1 (m.1 36 0 (200 : Int32).toNatClampNeg)) n else none := fun n => rfl
        by_cases c9 : ax_ok 201 203 = true
        · rw [if_pos c9] at h
          refine ax_gt c9 s10 ?_
          have s12 : ∀ n, ax_ex (e + 1) L_X11_again 96 [some (.inr (.inr (22, 0))), some (.inr (.inr (36, 0))), some (.inl v2)] [.inl ((ax_ui m 22 0 1 (m.1 36 0 (200 : Int32).toNatClampNeg)).1 36 0 (201 : Int32).toNatClampNeg), .inr (.inr (22, 0))] (ax_ui m 22 0 1 (m.1 36 0 (200 : Int32).toNatClampNeg)) (n + 5) = if ax_ok 202 203 = true then ax_ex (e + 1) L_X11_again 101 [some (.inr (.inr (22, 0))), some (.inr (.inr (36, 0))), some (.inl v2)] [.inl ((ax_ui (ax_ui m 22 0 1 (m.1 36 0 (200 : Int32).toNatClampNeg)) 22 0 4 ((ax_ui m 22 0 1 (m.1 36 0 (200 : Int32).toNatClampNeg)).1 36 0 (201 : Int32).toNatClampNeg)).1 36 0 (202 : Int32).toNatClampNeg), .inr (.inr (22, 0))] (ax_ui (ax_ui m 22 0 1 (m.1 36 0 (200 : Int32).toNatClampNeg)) 22 0 4 ((ax_ui m 22 0 1 (m.1 36 0 (200 : Int32).toNatClampNeg)).1 36 0 (201 : Int32).toNatClampNeg)) n else none := fun n => rfl
          by_cases c11 : ax_ok 202 203 = true
          · rw [if_pos c11] at h
            refine ax_gt c11 s12 ?_
            obtain rfl := Option.some.inj h
            exact ax_rs 2 (fun n => rfl)
          · rw [if_neg c11] at h
            cases h
        · rw [if_neg c9] at h
          cases h
      · rw [if_neg c7] at h
        cases h
    · rw [if_neg c5] at h
      refine ax_gf c5 s6 ?_
      refine ax_go (j := 7) (k2 := 56) (lv2 := [some (.inr (.inr (22, 0))), some (.inr (.inr (36, 0))), some (.inl v2)]) (st2 := [.inl (136 + v2), .inr (.inr (36, 0)), .inl v2, .inr (.inr (26, 0))]) (m2 := m) (fun n => rfl) ?_
      obtain ⟨y13, hy13⟩ : ∃ y : Int32, y = (136 + v2) := ⟨_, rfl⟩
      rw [← hy13] at h ⊢
      have s15 : ∀ n, ax_ex (e + 1) L_X11_again 56 [some (.inr (.inr (22, 0))), some (.inr (.inr (36, 0))), some (.inl v2)] [.inl y13, .inr (.inr (36, 0)), .inl v2, .inr (.inr (26, 0))] m (n + 1) = if ax_ok y13 203 = true then ax_ex (e + 1) L_X11_again 57 [some (.inr (.inr (22, 0))), some (.inr (.inr (36, 0))), some (.inl v2)] [.inl (m.1 36 0 y13.toNatClampNeg), .inl v2, .inr (.inr (26, 0))] m n else none := fun n => rfl
      by_cases c14 : ax_ok y13 203 = true
      · rw [if_pos c14] at h
        refine ax_gt c14 s15 ?_
        have s17 : ∀ n, ax_ex (e + 1) L_X11_again 57 [some (.inr (.inr (22, 0))), some (.inr (.inr (36, 0))), some (.inl v2)] [.inl (m.1 36 0 y13.toNatClampNeg), .inl v2, .inr (.inr (26, 0))] m (n + 1) = if ax_ok v2 16 = true then ax_ex (e + 1) L_X11_again 58 [some (.inr (.inr (22, 0))), some (.inr (.inr (36, 0))), some (.inl v2)] [] (ax_ui m 26 0 v2.toNatClampNeg (m.1 36 0 y13.toNatClampNeg)) n else none := fun n => rfl
        by_cases c16 : ax_ok v2 16 = true
        · rw [if_pos c16] at h
          refine ax_gt c16 s17 ?_
          refine ax_go (j := 7) (k2 := 65) (lv2 := [some (.inr (.inr (22, 0))), some (.inr (.inr (36, 0))), some (.inl v2)]) (st2 := [.inl (152 + v2), .inr (.inr (36, 0)), .inl v2, .inr (.inr (27, 0))]) (m2 := (ax_ui m 26 0 v2.toNatClampNeg (m.1 36 0 y13.toNatClampNeg))) (fun n => rfl) ?_
          obtain ⟨y18, hy18⟩ : ∃ y : Int32, y = (152 + v2) := ⟨_, rfl⟩
          rw [← hy18] at h ⊢
          have s20 : ∀ n, ax_ex (e + 1) L_X11_again 65 [some (.inr (.inr (22, 0))), some (.inr (.inr (36, 0))), some (.inl v2)] [.inl y18, .inr (.inr (36, 0)), .inl v2, .inr (.inr (27, 0))] (ax_ui m 26 0 v2.toNatClampNeg (m.1 36 0 y13.toNatClampNeg)) (n + 1) = if ax_ok y18 203 = true then ax_ex (e + 1) L_X11_again 66 [some (.inr (.inr (22, 0))), some (.inr (.inr (36, 0))), some (.inl v2)] [.inl ((ax_ui m 26 0 v2.toNatClampNeg (m.1 36 0 y13.toNatClampNeg)).1 36 0 y18.toNatClampNeg), .inl v2, .inr (.inr (27, 0))] (ax_ui m 26 0 v2.toNatClampNeg (m.1 36 0 y13.toNatClampNeg)) n else none := fun n => rfl
          by_cases c19 : ax_ok y18 203 = true
          · rw [if_pos c19] at h
            refine ax_gt c19 s20 ?_
            have s22 : ∀ n, ax_ex (e + 1) L_X11_again 66 [some (.inr (.inr (22, 0))), some (.inr (.inr (36, 0))), some (.inl v2)] [.inl ((ax_ui m 26 0 v2.toNatClampNeg (m.1 36 0 y13.toNatClampNeg)).1 36 0 y18.toNatClampNeg), .inl v2, .inr (.inr (27, 0))] (ax_ui m 26 0 v2.toNatClampNeg (m.1 36 0 y13.toNatClampNeg)) (n + 1) = if ax_ok v2 16 = true then ax_ex (e + 1) L_X11_again 67 [some (.inr (.inr (22, 0))), some (.inr (.inr (36, 0))), some (.inl v2)] [] (ax_ui (ax_ui m 26 0 v2.toNatClampNeg (m.1 36 0 y13.toNatClampNeg)) 27 0 v2.toNatClampNeg ((ax_ui m 26 0 v2.toNatClampNeg (m.1 36 0 y13.toNatClampNeg)).1 36 0 y18.toNatClampNeg)) n else none := fun n => rfl
            by_cases c21 : ax_ok v2 16 = true
            · rw [if_pos c21] at h
              refine ax_gt c21 s22 ?_
              refine ax_go (j := 7) (k2 := 74) (lv2 := [some (.inr (.inr (22, 0))), some (.inr (.inr (36, 0))), some (.inl v2)]) (st2 := [.inl (168 + v2), .inr (.inr (36, 0)), .inl v2, .inr (.inr (28, 0))]) (m2 := (ax_ui (ax_ui m 26 0 v2.toNatClampNeg (m.1 36 0 y13.toNatClampNeg)) 27 0 v2.toNatClampNeg ((ax_ui m 26 0 v2.toNatClampNeg (m.1 36 0 y13.toNatClampNeg)).1 36 0 y18.toNatClampNeg))) (fun n => rfl) ?_
              obtain ⟨y23, hy23⟩ : ∃ y : Int32, y = (168 + v2) := ⟨_, rfl⟩
              rw [← hy23] at h ⊢
              have s25 : ∀ n, ax_ex (e + 1) L_X11_again 74 [some (.inr (.inr (22, 0))), some (.inr (.inr (36, 0))), some (.inl v2)] [.inl y23, .inr (.inr (36, 0)), .inl v2, .inr (.inr (28, 0))] (ax_ui (ax_ui m 26 0 v2.toNatClampNeg (m.1 36 0 y13.toNatClampNeg)) 27 0 v2.toNatClampNeg ((ax_ui m 26 0 v2.toNatClampNeg (m.1 36 0 y13.toNatClampNeg)).1 36 0 y18.toNatClampNeg)) (n + 1) = if ax_ok y23 203 = true then ax_ex (e + 1) L_X11_again 75 [some (.inr (.inr (22, 0))), some (.inr (.inr (36, 0))), some (.inl v2)] [.inl ((ax_ui (ax_ui m 26 0 v2.toNatClampNeg (m.1 36 0 y13.toNatClampNeg)) 27 0 v2.toNatClampNeg ((ax_ui m 26 0 v2.toNatClampNeg (m.1 36 0 y13.toNatClampNeg)).1 36 0 y18.toNatClampNeg)).1 36 0 y23.toNatClampNeg), .inl v2, .inr (.inr (28, 0))] (ax_ui (ax_ui m 26 0 v2.toNatClampNeg (m.1 36 0 y13.toNatClampNeg)) 27 0 v2.toNatClampNeg ((ax_ui m 26 0 v2.toNatClampNeg (m.1 36 0 y13.toNatClampNeg)).1 36 0 y18.toNatClampNeg)) n else none := fun n => rfl
              by_cases c24 : ax_ok y23 203 = true
              · rw [if_pos c24] at h
                refine ax_gt c24 s25 ?_
                have s27 : ∀ n, ax_ex (e + 1) L_X11_again 75 [some (.inr (.inr (22, 0))), some (.inr (.inr (36, 0))), some (.inl v2)] [.inl ((ax_ui (ax_ui m 26 0 v2.toNatClampNeg (m.1 36 0 y13.toNatClampNeg)) 27 0 v2.toNatClampNeg ((ax_ui m 26 0 v2.toNatClampNeg (m.1 36 0 y13.toNatClampNeg)).1 36 0 y18.toNatClampNeg)).1 36 0 y23.toNatClampNeg), .inl v2, .inr (.inr (28, 0))] (ax_ui (ax_ui m 26 0 v2.toNatClampNeg (m.1 36 0 y13.toNatClampNeg)) 27 0 v2.toNatClampNeg ((ax_ui m 26 0 v2.toNatClampNeg (m.1 36 0 y13.toNatClampNeg)).1 36 0 y18.toNatClampNeg)) (n + 1) = if ax_ok v2 16 = true then ax_ex (e + 1) L_X11_again 76 [some (.inr (.inr (22, 0))), some (.inr (.inr (36, 0))), some (.inl v2)] [] (ax_ui (ax_ui (ax_ui m 26 0 v2.toNatClampNeg (m.1 36 0 y13.toNatClampNeg)) 27 0 v2.toNatClampNeg ((ax_ui m 26 0 v2.toNatClampNeg (m.1 36 0 y13.toNatClampNeg)).1 36 0 y18.toNatClampNeg)) 28 0 v2.toNatClampNeg ((ax_ui (ax_ui m 26 0 v2.toNatClampNeg (m.1 36 0 y13.toNatClampNeg)) 27 0 v2.toNatClampNeg ((ax_ui m 26 0 v2.toNatClampNeg (m.1 36 0 y13.toNatClampNeg)).1 36 0 y18.toNatClampNeg)).1 36 0 y23.toNatClampNeg)) n else none := fun n => rfl
                by_cases c26 : ax_ok v2 16 = true
                · rw [if_pos c26] at h
                  refine ax_gt c26 s27 ?_
                  refine ax_go (j := 7) (k2 := 83) (lv2 := [some (.inr (.inr (22, 0))), some (.inr (.inr (36, 0))), some (.inl v2)]) (st2 := [.inl (184 + v2), .inr (.inr (36, 0)), .inl v2, .inr (.inr (29, 0))]) (m2 := (ax_ui (ax_ui (ax_ui m 26 0 v2.toNatClampNeg (m.1 36 0 y13.toNatClampNeg)) 27 0 v2.toNatClampNeg ((ax_ui m 26 0 v2.toNatClampNeg (m.1 36 0 y13.toNatClampNeg)).1 36 0 y18.toNatClampNeg)) 28 0 v2.toNatClampNeg ((ax_ui (ax_ui m 26 0 v2.toNatClampNeg (m.1 36 0 y13.toNatClampNeg)) 27 0 v2.toNatClampNeg ((ax_ui m 26 0 v2.toNatClampNeg (m.1 36 0 y13.toNatClampNeg)).1 36 0 y18.toNatClampNeg)).1 36 0 y23.toNatClampNeg))) (fun n => rfl) ?_
                  obtain ⟨y28, hy28⟩ : ∃ y : Int32, y = (184 + v2) := ⟨_, rfl⟩
                  rw [← hy28] at h ⊢
                  have s30 : ∀ n, ax_ex (e + 1) L_X11_again 83 [some (.inr (.inr (22, 0))), some (.inr (.inr (36, 0))), some (.inl v2)] [.inl y28, .inr (.inr (36, 0)), .inl v2, .inr (.inr (29, 0))] (ax_ui (ax_ui (ax_ui m 26 0 v2.toNatClampNeg (m.1 36 0 y13.toNatClampNeg)) 27 0 v2.toNatClampNeg ((ax_ui m 26 0 v2.toNatClampNeg (m.1 36 0 y13.toNatClampNeg)).1 36 0 y18.toNatClampNeg)) 28 0 v2.toNatClampNeg ((ax_ui (ax_ui m 26 0 v2.toNatClampNeg (m.1 36 0 y13.toNatClampNeg)) 27 0 v2.toNatClampNeg ((ax_ui m 26 0 v2.toNatClampNeg (m.1 36 0 y13.toNatClampNeg)).1 36 0 y18.toNatClampNeg)).1 36 0 y23.toNatClampNeg)) (n + 1) = if ax_ok y28 203 = true then ax_ex (e + 1) L_X11_again 84 [some (.inr (.inr (22, 0))), some (.inr (.inr (36, 0))), some (.inl v2)] [.inl ((ax_ui (ax_ui (ax_ui m 26 0 v2.toNatClampNeg (m.1 36 0 y13.toNatClampNeg)) 27 0 v2.toNatClampNeg ((ax_ui m 26 0 v2.toNatClampNeg (m.1 36 0 y13.toNatClampNeg)).1 36 0 y18.toNatClampNeg)) 28 0 v2.toNatClampNeg ((ax_ui (ax_ui m 26 0 v2.toNatClampNeg (m.1 36 0 y13.toNatClampNeg)) 27 0 v2.toNatClampNeg ((ax_ui m 26 0 v2.toNatClampNeg (m.1 36 0 y13.toNatClampNeg)).1 36 0 y18.toNatClampNeg)).1 36 0 y23.toNatClampNeg)).1 36 0 y28.toNatClampNeg), .inl v2, .inr (.inr (29, 0))] (ax_ui (ax_ui (ax_ui m 26 0 v2.toNatClampNeg (m.1 36 0 y13.toNatClampNeg)) 27 0 v2.toNatClampNeg ((ax_ui m 26 0 v2.toNatClampNeg (m.1 36 0 y13.toNatClampNeg)).1 36 0 y18.toNatClampNeg)) 28 0 v2.toNatClampNeg ((ax_ui (ax_ui m 26 0 v2.toNatClampNeg (m.1 36 0 y13.toNatClampNeg)) 27 0 v2.toNatClampNeg ((ax_ui m 26 0 v2.toNatClampNeg (m.1 36 0 y13.toNatClampNeg)).1 36 0 y18.toNatClampNeg)).1 36 0 y23.toNatClampNeg)) n else none := fun n => rfl
                  by_cases c29 : ax_ok y28 203 = true
                  · rw [if_pos c29] at h
                    refine ax_gt c29 s30 ?_
                    have s32 : ∀ n, ax_ex (e + 1) L_X11_again 84 [some (.inr (.inr (22, 0))), some (.inr (.inr (36, 0))), some (.inl v2)] [.inl ((ax_ui (ax_ui (ax_ui m 26 0 v2.toNatClampNeg (m.1 36 0 y13.toNatClampNeg)) 27 0 v2.toNatClampNeg ((ax_ui m 26 0 v2.toNatClampNeg (m.1 36 0 y13.toNatClampNeg)).1 36 0 y18.toNatClampNeg)) 28 0 v2.toNatClampNeg ((ax_ui (ax_ui m 26 0 v2.toNatClampNeg (m.1 36 0 y13.toNatClampNeg)) 27 0 v2.toNatClampNeg ((ax_ui m 26 0 v2.toNatClampNeg (m.1 36 0 y13.toNatClampNeg)).1 36 0 y18.toNatClampNeg)).1 36 0 y23.toNatClampNeg)).1 36 0 y28.toNatClampNeg), .inl v2, .inr (.inr (29, 0))] (ax_ui (ax_ui (ax_ui m 26 0 v2.toNatClampNeg (m.1 36 0 y13.toNatClampNeg)) 27 0 v2.toNatClampNeg ((ax_ui m 26 0 v2.toNatClampNeg (m.1 36 0 y13.toNatClampNeg)).1 36 0 y18.toNatClampNeg)) 28 0 v2.toNatClampNeg ((ax_ui (ax_ui m 26 0 v2.toNatClampNeg (m.1 36 0 y13.toNatClampNeg)) 27 0 v2.toNatClampNeg ((ax_ui m 26 0 v2.toNatClampNeg (m.1 36 0 y13.toNatClampNeg)).1 36 0 y18.toNatClampNeg)).1 36 0 y23.toNatClampNeg)) (n + 1) = if ax_ok v2 16 = true then ax_ex (e + 1) L_X11_again 85 [some (.inr (.inr (22, 0))), some (.inr (.inr (36, 0))), some (.inl v2)] [] (ax_ui (ax_ui (ax_ui (ax_ui m 26 0 v2.toNatClampNeg (m.1 36 0 y13.toNatClampNeg)) 27 0 v2.toNatClampNeg ((ax_ui m 26 0 v2.toNatClampNeg (m.1 36 0 y13.toNatClampNeg)).1 36 0 y18.toNatClampNeg)) 28 0 v2.toNatClampNeg ((ax_ui (ax_ui m 26 0 v2.toNatClampNeg (m.1 36 0 y13.toNatClampNeg)) 27 0 v2.toNatClampNeg ((ax_ui m 26 0 v2.toNatClampNeg (m.1 36 0 y13.toNatClampNeg)).1 36 0 y18.toNatClampNeg)).1 36 0 y23.toNatClampNeg)) 29 0 v2.toNatClampNeg ((ax_ui (ax_ui (ax_ui m 26 0 v2.toNatClampNeg (m.1 36 0 y13.toNatClampNeg)) 27 0 v2.toNatClampNeg ((ax_ui m 26 0 v2.toNatClampNeg (m.1 36 0 y13.toNatClampNeg)).1 36 0 y18.toNatClampNeg)) 28 0 v2.toNatClampNeg ((ax_ui (ax_ui m 26 0 v2.toNatClampNeg (m.1 36 0 y13.toNatClampNeg)) 27 0 v2.toNatClampNeg ((ax_ui m 26 0 v2.toNatClampNeg (m.1 36 0 y13.toNatClampNeg)).1 36 0 y18.toNatClampNeg)).1 36 0 y23.toNatClampNeg)).1 36 0 y28.toNatClampNeg)) n else none := fun n => rfl
                    by_cases c31 : ax_ok v2 16 = true
                    · rw [if_pos c31] at h
                      refine ax_gt c31 s32 ?_
                      refine ax_go (j := 2) (k2 := 46) (lv2 := [some (.inr (.inr (22, 0))), some (.inr (.inr (36, 0))), some (.inl (v2 + 1))]) (st2 := []) (m2 := (ax_ui (ax_ui (ax_ui (ax_ui m 26 0 v2.toNatClampNeg (m.1 36 0 y13.toNatClampNeg)) 27 0 v2.toNatClampNeg ((ax_ui m 26 0 v2.toNatClampNeg (m.1 36 0 y13.toNatClampNeg)).1 36 0 y18.toNatClampNeg)) 28 0 v2.toNatClampNeg ((ax_ui (ax_ui m 26 0 v2.toNatClampNeg (m.1 36 0 y13.toNatClampNeg)) 27 0 v2.toNatClampNeg ((ax_ui m 26 0 v2.toNatClampNeg (m.1 36 0 y13.toNatClampNeg)).1 36 0 y18.toNatClampNeg)).1 36 0 y23.toNatClampNeg)) 29 0 v2.toNatClampNeg ((ax_ui (ax_ui (ax_ui m 26 0 v2.toNatClampNeg (m.1 36 0 y13.toNatClampNeg)) 27 0 v2.toNatClampNeg ((ax_ui m 26 0 v2.toNatClampNeg (m.1 36 0 y13.toNatClampNeg)).1 36 0 y18.toNatClampNeg)) 28 0 v2.toNatClampNeg ((ax_ui (ax_ui m 26 0 v2.toNatClampNeg (m.1 36 0 y13.toNatClampNeg)) 27 0 v2.toNatClampNeg ((ax_ui m 26 0 v2.toNatClampNeg (m.1 36 0 y13.toNatClampNeg)).1 36 0 y18.toNatClampNeg)).1 36 0 y23.toNatClampNeg)).1 36 0 y28.toNatClampNeg))) (fun n => rfl) ?_
                      exact ax_fg (lv2 := [some (.inr (.inr (22, 0))), some (.inr (.inr (36, 0))), some (.inl (v2 + 1))]) ⟨rfl, rfl, rfl, trivial⟩ (ih (ax_ui (ax_ui (ax_ui (ax_ui m 26 0 v2.toNatClampNeg (m.1 36 0 y13.toNatClampNeg)) 27 0 v2.toNatClampNeg ((ax_ui m 26 0 v2.toNatClampNeg (m.1 36 0 y13.toNatClampNeg)).1 36 0 y18.toNatClampNeg)) 28 0 v2.toNatClampNeg ((ax_ui (ax_ui m 26 0 v2.toNatClampNeg (m.1 36 0 y13.toNatClampNeg)) 27 0 v2.toNatClampNeg ((ax_ui m 26 0 v2.toNatClampNeg (m.1 36 0 y13.toNatClampNeg)).1 36 0 y18.toNatClampNeg)).1 36 0 y23.toNatClampNeg)) 29 0 v2.toNatClampNeg ((ax_ui (ax_ui (ax_ui m 26 0 v2.toNatClampNeg (m.1 36 0 y13.toNatClampNeg)) 27 0 v2.toNatClampNeg ((ax_ui m 26 0 v2.toNatClampNeg (m.1 36 0 y13.toNatClampNeg)).1 36 0 y18.toNatClampNeg)) 28 0 v2.toNatClampNeg ((ax_ui (ax_ui m 26 0 v2.toNatClampNeg (m.1 36 0 y13.toNatClampNeg)) 27 0 v2.toNatClampNeg ((ax_ui m 26 0 v2.toNatClampNeg (m.1 36 0 y13.toNatClampNeg)).1 36 0 y18.toNatClampNeg)).1 36 0 y23.toNatClampNeg)).1 36 0 y28.toNatClampNeg)) (v2 + 1) _ h)
                    · rw [if_neg c31] at h
                      cases h
                  · rw [if_neg c29] at h
                    cases h
                · rw [if_neg c26] at h
                  cases h
              · rw [if_neg c24] at h
                cases h
            · rw [if_neg c21] at h
              cases h
          · rw [if_neg c19] at h
            cases h
        · rw [if_neg c16] at h
          cases h
      · rw [if_neg c14] at h
        cases h
def F_X11_again_36_L30 : Nat → ax_M → Int32 → Option ax_M
  | 0, _, _ => none
  | n + 1, m, v2 => if 8 ≤ v2 then (F_X11_again_36_L46 ax_FU m 0) else (if ax_ok (128 + v2) 203 = true then (if ax_ok v2 8 = true then (F_X11_again_36_L30 n (ax_ui m 24 0 v2.toNatClampNeg (m.1 36 0 (128 + v2).toNatClampNeg)) (v2 + 1)) else (none)) else (none))
set_option maxRecDepth 20000 in
set_option maxHeartbeats 4000000 in
theorem R_X11_again_36_L30 {e : Nat} : ∀ (n : Nat) (m : ax_M) (v2 : Int32) (q : ax_M), F_X11_again_36_L30 n m v2 = some q → ax_Ru (e + 1) L_X11_again 30 [some (.inr (.inr (22, 0))), some (.inr (.inr (36, 0))), some (.inl v2)] [] m (none, q) := by
  intro n
  induction n with
  | zero =>
    intro m v2 q h
    cases h
  | succ n ih =>
    intro m v2 q h
    rw [F_X11_again_36_L30] at h
    have s4 : ∀ n, ax_ex (e + 1) L_X11_again 30 [some (.inr (.inr (22, 0))), some (.inr (.inr (36, 0))), some (.inl v2)] [] m (n + 3) = if 8 ≤ v2 then ax_ex (e + 1) L_X11_again 44 [some (.inr (.inr (22, 0))), some (.inr (.inr (36, 0))), some (.inl v2)] [] m n else ax_ex (e + 1) L_X11_again 33 [some (.inr (.inr (22, 0))), some (.inr (.inr (36, 0))), some (.inl v2)] [] m n := fun n => rfl
    by_cases c3 : 8 ≤ v2
    · rw [if_pos c3] at h
      refine ax_gt c3 s4 ?_
      refine ax_go (j := 2) (k2 := 46) (lv2 := [some (.inr (.inr (22, 0))), some (.inr (.inr (36, 0))), some (.inl 0)]) (st2 := []) (m2 := m) (fun n => rfl) ?_
      refine ax_fg (lv2 := [some (.inr (.inr (22, 0))), some (.inr (.inr (36, 0))), some (.inl 0)]) ⟨rfl, rfl, rfl, trivial⟩ ?_
      refine R_X11_again_36_L46 _ m 0 _ h
    · rw [if_neg c3] at h
      refine ax_gf c3 s4 ?_
      refine ax_go (j := 7) (k2 := 40) (lv2 := [some (.inr (.inr (22, 0))), some (.inr (.inr (36, 0))), some (.inl v2)]) (st2 := [.inl (128 + v2), .inr (.inr (36, 0)), .inl v2, .inr (.inr (24, 0))]) (m2 := m) (fun n => rfl) ?_
      obtain ⟨y34, hy34⟩ : ∃ y : Int32, y = (128 + v2) := ⟨_, rfl⟩
      rw [← hy34] at h ⊢
      have s36 : ∀ n, ax_ex (e + 1) L_X11_again 40 [some (.inr (.inr (22, 0))), some (.inr (.inr (36, 0))), some (.inl v2)] [.inl y34, .inr (.inr (36, 0)), .inl v2, .inr (.inr (24, 0))] m (n + 1) = if ax_ok y34 203 = true then ax_ex (e + 1) L_X11_again 41 [some (.inr (.inr (22, 0))), some (.inr (.inr (36, 0))), some (.inl v2)] [.inl (m.1 36 0 y34.toNatClampNeg), .inl v2, .inr (.inr (24, 0))] m n else none := fun n => rfl
      by_cases c35 : ax_ok y34 203 = true
      · rw [if_pos c35] at h
        refine ax_gt c35 s36 ?_
        have s38 : ∀ n, ax_ex (e + 1) L_X11_again 41 [some (.inr (.inr (22, 0))), some (.inr (.inr (36, 0))), some (.inl v2)] [.inl (m.1 36 0 y34.toNatClampNeg), .inl v2, .inr (.inr (24, 0))] m (n + 1) = if ax_ok v2 8 = true then ax_ex (e + 1) L_X11_again 42 [some (.inr (.inr (22, 0))), some (.inr (.inr (36, 0))), some (.inl v2)] [] (ax_ui m 24 0 v2.toNatClampNeg (m.1 36 0 y34.toNatClampNeg)) n else none := fun n => rfl
        by_cases c37 : ax_ok v2 8 = true
        · rw [if_pos c37] at h
          refine ax_gt c37 s38 ?_
          refine ax_go (j := 2) (k2 := 30) (lv2 := [some (.inr (.inr (22, 0))), some (.inr (.inr (36, 0))), some (.inl (v2 + 1))]) (st2 := []) (m2 := (ax_ui m 24 0 v2.toNatClampNeg (m.1 36 0 y34.toNatClampNeg))) (fun n => rfl) ?_
          exact ax_fg (lv2 := [some (.inr (.inr (22, 0))), some (.inr (.inr (36, 0))), some (.inl (v2 + 1))]) ⟨rfl, rfl, rfl, trivial⟩ (ih (ax_ui m 24 0 v2.toNatClampNeg (m.1 36 0 y34.toNatClampNeg)) (v2 + 1) _ h)
        · rw [if_neg c37] at h
          cases h
      · rw [if_neg c35] at h
        cases h
def F_X11_again_36_L2 : Nat → ax_M → Int32 → Option ax_M
  | 0, _, _ => none
  | n + 1, m, v2 => if 64 ≤ v2 then (F_X11_again_36_L30 ax_FU m 0) else (if ax_ok v2 203 = true then (if (m.1 36 0 v2.toNatClampNeg) = 1 then (if ax_ok v2 64 = true then (if ax_ok (64 + v2) 203 = true then (if ax_ok v2 64 = true then (F_X11_again_36_L2 n (ax_ui (ax_ui m 23 0 v2.toNatClampNeg 1) 25 0 v2.toNatClampNeg ((ax_ui m 23 0 v2.toNatClampNeg 1).1 36 0 (64 + v2).toNatClampNeg)) (v2 + 1)) else (none)) else (none)) else none) else (if ax_ok v2 64 = true then (if ax_ok (64 + v2) 203 = true then (if ax_ok v2 64 = true then (F_X11_again_36_L2 n (ax_ui (ax_ui m 23 0 v2.toNatClampNeg 0) 25 0 v2.toNatClampNeg ((ax_ui m 23 0 v2.toNatClampNeg 0).1 36 0 (64 + v2).toNatClampNeg)) (v2 + 1)) else (none)) else (none)) else none)) else (none))
set_option maxRecDepth 20000 in
set_option maxHeartbeats 4000000 in
theorem R_X11_again_36_L2 {e : Nat} : ∀ (n : Nat) (m : ax_M) (v2 : Int32) (q : ax_M), F_X11_again_36_L2 n m v2 = some q → ax_Ru (e + 1) L_X11_again 2 [some (.inr (.inr (22, 0))), some (.inr (.inr (36, 0))), some (.inl v2)] [] m (none, q) := by
  intro n
  induction n with
  | zero =>
    intro m v2 q h
    cases h
  | succ n ih =>
    intro m v2 q h
    rw [F_X11_again_36_L2] at h
    have s2 : ∀ n, ax_ex (e + 1) L_X11_again 2 [some (.inr (.inr (22, 0))), some (.inr (.inr (36, 0))), some (.inl v2)] [] m (n + 3) = if 64 ≤ v2 then ax_ex (e + 1) L_X11_again 28 [some (.inr (.inr (22, 0))), some (.inr (.inr (36, 0))), some (.inl v2)] [] m n else ax_ex (e + 1) L_X11_again 5 [some (.inr (.inr (22, 0))), some (.inr (.inr (36, 0))), some (.inl v2)] [] m n := fun n => rfl
    by_cases c1 : 64 ≤ v2
    · rw [if_pos c1] at h
      refine ax_gt c1 s2 ?_
      refine ax_go (j := 2) (k2 := 30) (lv2 := [some (.inr (.inr (22, 0))), some (.inr (.inr (36, 0))), some (.inl 0)]) (st2 := []) (m2 := m) (fun n => rfl) ?_
      refine ax_fg (lv2 := [some (.inr (.inr (22, 0))), some (.inr (.inr (36, 0))), some (.inl 0)]) ⟨rfl, rfl, rfl, trivial⟩ ?_
      refine R_X11_again_36_L30 _ m 0 _ h
    · rw [if_neg c1] at h
      refine ax_gf c1 s2 ?_
      have s41 : ∀ n, ax_ex (e + 1) L_X11_again 5 [some (.inr (.inr (22, 0))), some (.inr (.inr (36, 0))), some (.inl v2)] [] m (n + 6) = if ax_ok v2 203 = true then ax_ex (e + 1) L_X11_again 11 [some (.inr (.inr (22, 0))), some (.inr (.inr (36, 0))), some (.inl v2)] [.inl (m.1 36 0 v2.toNatClampNeg), .inl v2, .inr (.inr (23, 0))] m n else none := fun n => rfl
      by_cases c40 : ax_ok v2 203 = true
      · rw [if_pos c40] at h
        refine ax_gt c40 s41 ?_
        have s43 : ∀ n, ax_ex (e + 1) L_X11_again 11 [some (.inr (.inr (22, 0))), some (.inr (.inr (36, 0))), some (.inl v2)] [.inl (m.1 36 0 v2.toNatClampNeg), .inl v2, .inr (.inr (23, 0))] m (n + 2) = if (m.1 36 0 v2.toNatClampNeg) = 1 then ax_ex (e + 1) L_X11_again 13 [some (.inr (.inr (22, 0))), some (.inr (.inr (36, 0))), some (.inl v2)] [.inl v2, .inr (.inr (23, 0))] m n else ax_ex (e + 1) L_X11_again 15 [some (.inr (.inr (22, 0))), some (.inr (.inr (36, 0))), some (.inl v2)] [.inl v2, .inr (.inr (23, 0))] m n := fun n => rfl
        by_cases c42 : (m.1 36 0 v2.toNatClampNeg) = 1
        · rw [if_pos c42] at h
          refine ax_gt c42 s43 ?_
          have s44 : ∀ n, ax_ex (e + 1) L_X11_again 13 [some (.inr (.inr (22, 0))), some (.inr (.inr (36, 0))), some (.inl v2)] [.inl v2, .inr (.inr (23, 0))] m (n + 3) = (if ax_ok v2 64 = true then (if (1 : Int32) = 0 ∨ (1 : Int32) = 1 then ax_ex (e + 1) L_X11_again 17 [some (.inr (.inr (22, 0))), some (.inr (.inr (36, 0))), some (.inl v2)] [] (ax_ui m 23 0 v2.toNatClampNeg 1) n else none) else none) := fun n => rfl
          by_cases c50 : ax_ok v2 64 = true
          · rw [if_pos c50] at h
            refine ax_go (j := 3) (k2 := 17) (lv2 := [some (.inr (.inr (22, 0))), some (.inr (.inr (36, 0))), some (.inl v2)]) (st2 := []) (m2 := (ax_ui m 23 0 v2.toNatClampNeg 1)) (fun n => (s44 n).trans ((if_pos c50).trans (if_pos (by decide)))) ?_
            refine ax_go (j := 7) (k2 := 24) (lv2 := [some (.inr (.inr (22, 0))), some (.inr (.inr (36, 0))), some (.inl v2)]) (st2 := [.inl (64 + v2), .inr (.inr (36, 0)), .inl v2, .inr (.inr (25, 0))]) (m2 := (ax_ui m 23 0 v2.toNatClampNeg 1)) (fun n => rfl) ?_
            obtain ⟨y45, hy45⟩ : ∃ y : Int32, y = (64 + v2) := ⟨_, rfl⟩
            rw [← hy45] at h ⊢
            have s47 : ∀ n, ax_ex (e + 1) L_X11_again 24 [some (.inr (.inr (22, 0))), some (.inr (.inr (36, 0))), some (.inl v2)] [.inl y45, .inr (.inr (36, 0)), .inl v2, .inr (.inr (25, 0))] (ax_ui m 23 0 v2.toNatClampNeg 1) (n + 1) = if ax_ok y45 203 = true then ax_ex (e + 1) L_X11_again 25 [some (.inr (.inr (22, 0))), some (.inr (.inr (36, 0))), some (.inl v2)] [.inl ((ax_ui m 23 0 v2.toNatClampNeg 1).1 36 0 y45.toNatClampNeg), .inl v2, .inr (.inr (25, 0))] (ax_ui m 23 0 v2.toNatClampNeg 1) n else none := fun n => rfl
            by_cases c46 : ax_ok y45 203 = true
            · rw [if_pos c46] at h
              refine ax_gt c46 s47 ?_
              have s49 : ∀ n, ax_ex (e + 1) L_X11_again 25 [some (.inr (.inr (22, 0))), some (.inr (.inr (36, 0))), some (.inl v2)] [.inl ((ax_ui m 23 0 v2.toNatClampNeg 1).1 36 0 y45.toNatClampNeg), .inl v2, .inr (.inr (25, 0))] (ax_ui m 23 0 v2.toNatClampNeg 1) (n + 1) = if ax_ok v2 64 = true then ax_ex (e + 1) L_X11_again 26 [some (.inr (.inr (22, 0))), some (.inr (.inr (36, 0))), some (.inl v2)] [] (ax_ui (ax_ui m 23 0 v2.toNatClampNeg 1) 25 0 v2.toNatClampNeg ((ax_ui m 23 0 v2.toNatClampNeg 1).1 36 0 y45.toNatClampNeg)) n else none := fun n => rfl
              by_cases c48 : ax_ok v2 64 = true
              · rw [if_pos c48] at h
                refine ax_gt c48 s49 ?_
                refine ax_go (j := 2) (k2 := 2) (lv2 := [some (.inr (.inr (22, 0))), some (.inr (.inr (36, 0))), some (.inl (v2 + 1))]) (st2 := []) (m2 := (ax_ui (ax_ui m 23 0 v2.toNatClampNeg 1) 25 0 v2.toNatClampNeg ((ax_ui m 23 0 v2.toNatClampNeg 1).1 36 0 y45.toNatClampNeg))) (fun n => rfl) ?_
                exact ax_fg (lv2 := [some (.inr (.inr (22, 0))), some (.inr (.inr (36, 0))), some (.inl (v2 + 1))]) ⟨rfl, rfl, rfl, trivial⟩ (ih (ax_ui (ax_ui m 23 0 v2.toNatClampNeg 1) 25 0 v2.toNatClampNeg ((ax_ui m 23 0 v2.toNatClampNeg 1).1 36 0 y45.toNatClampNeg)) (v2 + 1) _ h)
              · rw [if_neg c48] at h
                cases h
            · rw [if_neg c46] at h
              cases h
          · rw [if_neg c50] at h
            cases h
        · rw [if_neg c42] at h
          refine ax_gf c42 s43 ?_
          have s51 : ∀ n, ax_ex (e + 1) L_X11_again 15 [some (.inr (.inr (22, 0))), some (.inr (.inr (36, 0))), some (.inl v2)] [.inl v2, .inr (.inr (23, 0))] m (n + 2) = (if ax_ok v2 64 = true then (if (0 : Int32) = 0 ∨ (0 : Int32) = 1 then ax_ex (e + 1) L_X11_again 17 [some (.inr (.inr (22, 0))), some (.inr (.inr (36, 0))), some (.inl v2)] [] (ax_ui m 23 0 v2.toNatClampNeg 0) n else none) else none) := fun n => rfl
          by_cases c57 : ax_ok v2 64 = true
          · rw [if_pos c57] at h
            refine ax_go (j := 2) (k2 := 17) (lv2 := [some (.inr (.inr (22, 0))), some (.inr (.inr (36, 0))), some (.inl v2)]) (st2 := []) (m2 := (ax_ui m 23 0 v2.toNatClampNeg 0)) (fun n => (s51 n).trans ((if_pos c57).trans (if_pos (by decide)))) ?_
            refine ax_go (j := 7) (k2 := 24) (lv2 := [some (.inr (.inr (22, 0))), some (.inr (.inr (36, 0))), some (.inl v2)]) (st2 := [.inl (64 + v2), .inr (.inr (36, 0)), .inl v2, .inr (.inr (25, 0))]) (m2 := (ax_ui m 23 0 v2.toNatClampNeg 0)) (fun n => rfl) ?_
            obtain ⟨y52, hy52⟩ : ∃ y : Int32, y = (64 + v2) := ⟨_, rfl⟩
            rw [← hy52] at h ⊢
            have s54 : ∀ n, ax_ex (e + 1) L_X11_again 24 [some (.inr (.inr (22, 0))), some (.inr (.inr (36, 0))), some (.inl v2)] [.inl y52, .inr (.inr (36, 0)), .inl v2, .inr (.inr (25, 0))] (ax_ui m 23 0 v2.toNatClampNeg 0) (n + 1) = if ax_ok y52 203 = true then ax_ex (e + 1) L_X11_again 25 [some (.inr (.inr (22, 0))), some (.inr (.inr (36, 0))), some (.inl v2)] [.inl ((ax_ui m 23 0 v2.toNatClampNeg 0).1 36 0 y52.toNatClampNeg), .inl v2, .inr (.inr (25, 0))] (ax_ui m 23 0 v2.toNatClampNeg 0) n else none := fun n => rfl
            by_cases c53 : ax_ok y52 203 = true
            · rw [if_pos c53] at h
              refine ax_gt c53 s54 ?_
              have s56 : ∀ n, ax_ex (e + 1) L_X11_again 25 [some (.inr (.inr (22, 0))), some (.inr (.inr (36, 0))), some (.inl v2)] [.inl ((ax_ui m 23 0 v2.toNatClampNeg 0).1 36 0 y52.toNatClampNeg), .inl v2, .inr (.inr (25, 0))] (ax_ui m 23 0 v2.toNatClampNeg 0) (n + 1) = if ax_ok v2 64 = true then ax_ex (e + 1) L_X11_again 26 [some (.inr (.inr (22, 0))), some (.inr (.inr (36, 0))), some (.inl v2)] [] (ax_ui (ax_ui m 23 0 v2.toNatClampNeg 0) 25 0 v2.toNatClampNeg ((ax_ui m 23 0 v2.toNatClampNeg 0).1 36 0 y52.toNatClampNeg)) n else none := fun n => rfl
              by_cases c55 : ax_ok v2 64 = true
              · rw [if_pos c55] at h
                refine ax_gt c55 s56 ?_
                refine ax_go (j := 2) (k2 := 2) (lv2 := [some (.inr (.inr (22, 0))), some (.inr (.inr (36, 0))), some (.inl (v2 + 1))]) (st2 := []) (m2 := (ax_ui (ax_ui m 23 0 v2.toNatClampNeg 0) 25 0 v2.toNatClampNeg ((ax_ui m 23 0 v2.toNatClampNeg 0).1 36 0 y52.toNatClampNeg))) (fun n => rfl) ?_
                exact ax_fg (lv2 := [some (.inr (.inr (22, 0))), some (.inr (.inr (36, 0))), some (.inl (v2 + 1))]) ⟨rfl, rfl, rfl, trivial⟩ (ih (ax_ui (ax_ui m 23 0 v2.toNatClampNeg 0) 25 0 v2.toNatClampNeg ((ax_ui m 23 0 v2.toNatClampNeg 0).1 36 0 y52.toNatClampNeg)) (v2 + 1) _ h)
              · rw [if_neg c55] at h
                cases h
            · rw [if_neg c53] at h
              cases h
          · rw [if_neg c57] at h
            cases h
      · rw [if_neg c40] at h
        cases h
def F_X11_again_36 (m : ax_M) : Option ax_M := F_X11_again_36_L2 ax_FU m 0
set_option maxRecDepth 20000 in
set_option maxHeartbeats 4000000 in
theorem R_X11_again_36 {d : Nat} (hd : 1 ≤ d) {m : ax_M} {q : ax_M} (h : F_X11_again_36 m = some q) : ax_Ru d L_X11_again 0 (ax_entry [.inr (.inr (22, 0)), .inr (.inr (36, 0))] 3) [] m (none, q) := by
  obtain ⟨e, rfl⟩ : ∃ e, d = e + 1 := ⟨d - 1, by omega⟩
  unfold F_X11_again_36 at h
  refine ax_go (j := 2) (k2 := 2) (lv2 := [some (.inr (.inr (22, 0))), some (.inr (.inr (36, 0))), some (.inl 0)]) (st2 := []) (m2 := m) (fun n => rfl) ?_
  refine ax_fg (lv2 := [some (.inr (.inr (22, 0))), some (.inr (.inr (36, 0))), some (.inl 0)]) ⟨rfl, rfl, rfl, trivial⟩ ?_
  refine R_X11_again_36_L2 _ m 0 _ h
def F_X11_garden_L11 : Nat → ax_M → Int32 → Int32 → Option (Int32 × ax_M)
  | 0, _, _, _ => none
  | n + 1, m, v1, v2 => if v2 = 0 then (ax_b (F_X11_again_36 m) (fun m8 => ax_b2 (F_X11_no (ax_ui m8 22 0 10 0) (-2)) (fun r10 m11 => some (((-20) - (m11.1 22 0 12)), m11)))) else (ax_b (F_X11_next m) (fun m16 => ax_b2 (F_X11_statement m16) (fun r18 m19 => if r18 = 0 then (F_X11_garden_L11 n m19 v1 r18) else (ax_b (F_X11_next m19) (fun m24 => if (m24.1 22 0 14) = 101 then (some ((v1 + 1), (ax_ui m24 22 0 10 0))) else (if (m24.1 22 0 14) = 59 then (F_X11_garden_L11 n m24 (v1 + 1) 1) else (F_X11_garden_L11 n m24 (v1 + 1) 0)))))))
set_option maxRecDepth 20000 in
set_option maxHeartbeats 4000000 in
theorem R_X11_garden_L11 {e : Nat} : ∀ (n : Nat) (m : ax_M) (v1 : Int32) (v2 : Int32) (q : (Int32 × ax_M)), F_X11_garden_L11 n m v1 v2 = some q → ax_Ru (e + 8) L_X11_garden 11 [some (.inr (.inr (22, 0))), some (.inl v1), some (.inl v2)] [] m (some (.inl q.1), q.2) := by
  intro n
  induction n with
  | zero =>
    intro m v1 v2 q h
    cases h
  | succ n ih =>
    intro m v1 v2 q h
    rw [F_X11_garden_L11] at h
    have s5 : ∀ n, ax_ex (e + 8) L_X11_garden 11 [some (.inr (.inr (22, 0))), some (.inl v1), some (.inl v2)] [] m (n + 2) = if v2 = 0 then ax_ex (e + 8) L_X11_garden 42 [some (.inr (.inr (22, 0))), some (.inl v1), some (.inl v2)] [] m n else ax_ex (e + 8) L_X11_garden 13 [some (.inr (.inr (22, 0))), some (.inl v1), some (.inl v2)] [] m n := fun n => rfl
    by_cases c4 : v2 = 0
    · rw [if_pos c4] at h
      refine ax_gt c4 s5 ?_
      obtain ⟨m8, q6, h⟩ := ax_b_of h
      have s13 : ∀ n, ax_ex (e + 8) L_X11_garden 42 [some (.inr (.inr (22, 0))), some (.inl v1), some (.inl v2)] [] m (n + 4) = ax_aft (fun s m2 => ax_ex (e + 8) L_X11_garden 46 [some (.inr (.inr (22, 0))), some (.inl v1), some (.inl v2)] s m2 n) [] (ax_ex (e + 7) L_X11_again 0 (ax_entry [.inr (.inr (22, 0)), .inr (.inr (36, 0))] 3) [] m n) := fun n => rfl
      refine ax_gcv (j := 4) (k2 := 46) (lv2 := [some (.inr (.inr (22, 0))), some (.inl v1), some (.inl v2)]) (rest := []) ((R_X11_again_36 (by omega) q6)) s13 ?_
      obtain ⟨r10, m11, q9, h⟩ := ax_b2_of h
      have s12 : ∀ n, ax_ex (e + 8) L_X11_garden 46 [some (.inr (.inr (22, 0))), some (.inl v1), some (.inl v2)] [] m8 (n + 6) = ax_aft (fun s m2 => ax_ex (e + 8) L_X11_garden 52 [some (.inr (.inr (22, 0))), some (.inl v1), some (.inl v2)] s m2 n) [] (ax_ex (e + 7) L_X11_no 0 (ax_entry [.inr (.inr (22, 0)), .inl (-2)] 2) [] (ax_ui m8 22 0 10 0) n) := fun n => rfl
      refine ax_gci (j := 6) (k2 := 52) (lv2 := [some (.inr (.inr (22, 0))), some (.inl v1), some (.inl v2)]) (rest := []) ((R_X11_no (by omega) q9)) s12 ?_
      obtain rfl := Option.some.inj h
      exact ax_rs 6 (fun n => rfl)
    · rw [if_neg c4] at h
      refine ax_gf c4 s5 ?_
      obtain ⟨m16, q14, h⟩ := ax_b_of h
      have s31 : ∀ n, ax_ex (e + 8) L_X11_garden 13 [some (.inr (.inr (22, 0))), some (.inl v1), some (.inl v2)] [] m (n + 2) = ax_aft (fun s m2 => ax_ex (e + 8) L_X11_garden 15 [some (.inr (.inr (22, 0))), some (.inl v1), some (.inl v2)] s m2 n) [] (ax_ex (e + 7) L_X11_next 0 (ax_entry [.inr (.inr (22, 0))] 2) [] m n) := fun n => rfl
      refine ax_gcv (j := 2) (k2 := 15) (lv2 := [some (.inr (.inr (22, 0))), some (.inl v1), some (.inl v2)]) (rest := []) ((R_X11_next (by omega) q14)) s31 ?_
      obtain ⟨r18, m19, q17, h⟩ := ax_b2_of h
      have s30 : ∀ n, ax_ex (e + 8) L_X11_garden 15 [some (.inr (.inr (22, 0))), some (.inl v1), some (.inl v2)] [] m16 (n + 2) = ax_aft (fun s m2 => ax_ex (e + 8) L_X11_garden 17 [some (.inr (.inr (22, 0))), some (.inl v1), some (.inl v2)] s m2 n) [] (ax_ex (e + 7) L_X11_statement 0 (ax_entry [.inr (.inr (22, 0))] 5) [] m16 n) := fun n => rfl
      refine ax_gci (j := 2) (k2 := 17) (lv2 := [some (.inr (.inr (22, 0))), some (.inl v1), some (.inl v2)]) (rest := []) ((R_X11_statement (by omega) q17)) s30 ?_
      have s21 : ∀ n, ax_ex (e + 8) L_X11_garden 17 [some (.inr (.inr (22, 0))), some (.inl v1), some (.inl v2)] [.inl r18] m19 (n + 3) = if r18 = 0 then ax_ex (e + 8) L_X11_garden 20 [some (.inr (.inr (22, 0))), some (.inl v1), some (.inl r18)] [] m19 n else ax_ex (e + 8) L_X11_garden 21 [some (.inr (.inr (22, 0))), some (.inl v1), some (.inl r18)] [] m19 n := fun n => rfl
      by_cases c20 : r18 = 0
      · rw [if_pos c20] at h
        refine ax_gt c20 s21 ?_
        refine ax_go (j := 1) (k2 := 11) (lv2 := [some (.inr (.inr (22, 0))), some (.inl v1), some (.inl r18)]) (st2 := []) (m2 := m19) (fun n => rfl) ?_
        exact ax_fg (lv2 := [some (.inr (.inr (22, 0))), some (.inl v1), some (.inl r18)]) ⟨rfl, rfl, rfl, trivial⟩ (ih m19 v1 r18 _ h)
      · rw [if_neg c20] at h
        refine ax_gf c20 s21 ?_
        obtain ⟨m24, q22, h⟩ := ax_b_of h
        have s29 : ∀ n, ax_ex (e + 8) L_X11_garden 21 [some (.inr (.inr (22, 0))), some (.inl v1), some (.inl r18)] [] m19 (n + 3) = ax_aft (fun s m2 => ax_ex (e + 8) L_X11_garden 24 [some (.inr (.inr (22, 0))), some (.inl (v1 + 1)), some (.inl r18)] s m2 n) [] (ax_ex (e + 7) L_X11_next 0 (ax_entry [.inr (.inr (22, 0))] 2) [] m19 n) := fun n => rfl
        refine ax_gcv (j := 3) (k2 := 24) (lv2 := [some (.inr (.inr (22, 0))), some (.inl (v1 + 1)), some (.inl r18)]) (rest := []) ((R_X11_next (by omega) q22)) s29 ?_
        have s26 : ∀ n, ax_ex (e + 8) L_X11_garden 24 [some (.inr (.inr (22, 0))), some (.inl (v1 + 1)), some (.inl r18)] [] m24 (n + 4) = if (m24.1 22 0 14) = 101 then ax_ex (e + 8) L_X11_garden 28 [some (.inr (.inr (22, 0))), some (.inl (v1 + 1)), some (.inl r18)] [] m24 n else ax_ex (e + 8) L_X11_garden 33 [some (.inr (.inr (22, 0))), some (.inl (v1 + 1)), some (.inl r18)] [] m24 n := fun n => rfl
        by_cases c25 : (m24.1 22 0 14) = 101
        · rw [if_pos c25] at h
          refine ax_gt c25 s26 ?_
          obtain rfl := Option.some.inj h
          exact ax_rs 5 (fun n => rfl)
        · rw [if_neg c25] at h
          refine ax_gf c25 s26 ?_
          have s28 : ∀ n, ax_ex (e + 8) L_X11_garden 33 [some (.inr (.inr (22, 0))), some (.inl (v1 + 1)), some (.inl r18)] [] m24 (n + 4) = if (m24.1 22 0 14) = 59 then ax_ex (e + 8) L_X11_garden 37 [some (.inr (.inr (22, 0))), some (.inl (v1 + 1)), some (.inl r18)] [] m24 n else ax_ex (e + 8) L_X11_garden 39 [some (.inr (.inr (22, 0))), some (.inl (v1 + 1)), some (.inl r18)] [] m24 n := fun n => rfl
          by_cases c27 : (m24.1 22 0 14) = 59
          · rw [if_pos c27] at h
            refine ax_gt c27 s28 ?_
            refine ax_go (j := 4) (k2 := 11) (lv2 := [some (.inr (.inr (22, 0))), some (.inl (v1 + 1)), some (.inl 1)]) (st2 := []) (m2 := m24) (fun n => rfl) ?_
            exact ax_fg (lv2 := [some (.inr (.inr (22, 0))), some (.inl (v1 + 1)), some (.inl 1)]) ⟨rfl, rfl, rfl, trivial⟩ (ih m24 (v1 + 1) 1 _ h)
          · rw [if_neg c27] at h
            refine ax_gf c27 s28 ?_
            refine ax_go (j := 3) (k2 := 11) (lv2 := [some (.inr (.inr (22, 0))), some (.inl (v1 + 1)), some (.inl 0)]) (st2 := []) (m2 := m24) (fun n => rfl) ?_
            exact ax_fg (lv2 := [some (.inr (.inr (22, 0))), some (.inl (v1 + 1)), some (.inl 0)]) ⟨rfl, rfl, rfl, trivial⟩ (ih m24 (v1 + 1) 0 _ h)
def F_X11_garden (m : ax_M) : Option (Int32 × ax_M) := ax_b (F_X11_keep_36 m) (fun m3 => F_X11_garden_L11 ax_FU (ax_ui m3 22 0 13 0) 0 1)
set_option maxRecDepth 20000 in
set_option maxHeartbeats 4000000 in
theorem R_X11_garden {d : Nat} (hd : 8 ≤ d) {m : ax_M} {q : (Int32 × ax_M)} (h : F_X11_garden m = some q) : ax_Ru d L_X11_garden 0 (ax_entry [.inr (.inr (22, 0))] 3) [] m (some (.inl q.1), q.2) := by
  obtain ⟨e, rfl⟩ : ∃ e, d = e + 8 := ⟨d - 8, by omega⟩
  unfold F_X11_garden at h
  obtain ⟨m3, q1, h⟩ := ax_b_of h
  have s33 : ∀ n, ax_ex (e + 8) L_X11_garden 0 (ax_entry [.inr (.inr (22, 0))] 3) [] m (n + 4) = ax_aft (fun s m2 => ax_ex (e + 8) L_X11_garden 4 [some (.inr (.inr (22, 0))), none, none] s m2 n) [] (ax_ex (e + 7) L_X11_keep 0 (ax_entry [.inr (.inr (22, 0)), .inr (.inr (36, 0))] 3) [] m n) := fun n => rfl
  refine ax_gcv (j := 4) (k2 := 4) (lv2 := [some (.inr (.inr (22, 0))), none, none]) (rest := []) ((R_X11_keep_36 (by omega) q1)) s33 ?_
  refine ax_go (j := 7) (k2 := 11) (lv2 := [some (.inr (.inr (22, 0))), some (.inl 0), some (.inl 1)]) (st2 := []) (m2 := (ax_ui m3 22 0 13 0)) (fun n => rfl) ?_
  refine ax_fg (lv2 := [some (.inr (.inr (22, 0))), some (.inl 0), some (.inl 1)]) ⟨rfl, rfl, rfl, trivial⟩ ?_
  refine R_X11_garden_L11 _ (ax_ui m3 22 0 13 0) 0 1 _ h
def F_X11_far (v0 : Int32) (v1 : Int32) : Option Int32 := some (ax_max (ax_abs ((v0 / 8) - (v1 / 8))) (ax_abs ((ax_irem v0 8) - (ax_irem v1 8))))
set_option maxRecDepth 20000 in
set_option maxHeartbeats 4000000 in
theorem R_X11_far {d : Nat} (hd : 6 ≤ d) {m : ax_M} {v0 : Int32} {v1 : Int32} {q : Int32} (h : F_X11_far v0 v1 = some q) : ax_Ru d L_X11_far 0 (ax_entry [.inl v0, .inl v1] 2) [] m (some (.inl q), m) := by
  obtain ⟨e, rfl⟩ : ∃ e, d = e + 6 := ⟨d - 6, by omega⟩
  unfold F_X11_far at h
  have s1 : ∀ n, ax_ex (e + 6) L_X11_far 0 (ax_entry [.inl v0, .inl v1] 2) [] m (n + 3) = if (8 : Int32) = 0 then none else ax_ex (e + 6) L_X11_far 3 [some (.inl v0), some (.inl v1)] [.inl (v0 / 8)] m n := fun n => rfl
  refine ax_gf (by decide) s1 ?_
  have s2 : ∀ n, ax_ex (e + 6) L_X11_far 3 [some (.inl v0), some (.inl v1)] [.inl (v0 / 8)] m (n + 3) = if (8 : Int32) = 0 then none else ax_ex (e + 6) L_X11_far 6 [some (.inl v0), some (.inl v1)] [.inl (v1 / 8), .inl (v0 / 8)] m n := fun n => rfl
  refine ax_gf (by decide) s2 ?_
  have s3 : ∀ n, ax_ex (e + 6) L_X11_far 6 [some (.inl v0), some (.inl v1)] [.inl (v1 / 8), .inl (v0 / 8)] m (n + 5) = if (8 : Int32) = 0 then none else ax_ex (e + 6) L_X11_far 11 [some (.inl v0), some (.inl v1)] [.inl (ax_irem v0 8), .inl (ax_abs ((v0 / 8) - (v1 / 8)))] m n := fun n => rfl
  refine ax_gf (by decide) s3 ?_
  have s4 : ∀ n, ax_ex (e + 6) L_X11_far 11 [some (.inl v0), some (.inl v1)] [.inl (ax_irem v0 8), .inl (ax_abs ((v0 / 8) - (v1 / 8)))] m (n + 3) = if (8 : Int32) = 0 then none else ax_ex (e + 6) L_X11_far 14 [some (.inl v0), some (.inl v1)] [.inl (ax_irem v1 8), .inl (ax_irem v0 8), .inl (ax_abs ((v0 / 8) - (v1 / 8)))] m n := fun n => rfl
  refine ax_gf (by decide) s4 ?_
  obtain rfl := Option.some.inj h
  exact ax_rs 4 (fun n => rfl)
def F_X11_owesEnough (m : ax_M) (v1 : Int32) (v2 : Int32) : Option Int32 := if ax_ok v2 16 = true then (if (m.1 26 0 v2.toNatClampNeg) = 4 then (ax_b (F_X11_allOwed m v1) (fun r6 => if r6 ≤ 0 then (some 0) else (some 1))) else (if ax_ok v2 16 = true then (if ax_ok ((8 * v1) + (m.1 29 0 v2.toNatClampNeg)) 64 = true then (ax_b (F_X11_takes m v2) (fun r16 => if (m.1 25 0 ((8 * v1) + (m.1 29 0 v2.toNatClampNeg)).toNatClampNeg) < r16 then (some 0) else (some 1))) else (none)) else (none))) else (none)
set_option maxRecDepth 20000 in
set_option maxHeartbeats 4000000 in
theorem R_X11_owesEnough {d : Nat} (hd : 7 ≤ d) {m : ax_M} {v1 : Int32} {v2 : Int32} {q : Int32} (h : F_X11_owesEnough m v1 v2 = some q) : ax_Ru d L_X11_owesEnough 0 (ax_entry [.inr (.inr (22, 0)), .inl v1, .inl v2] 3) [] m (some (.inl q), m) := by
  obtain ⟨e, rfl⟩ : ∃ e, d = e + 7 := ⟨d - 7, by omega⟩
  unfold F_X11_owesEnough at h
  have s2 : ∀ n, ax_ex (e + 7) L_X11_owesEnough 0 (ax_entry [.inr (.inr (22, 0)), .inl v1, .inl v2] 3) [] m (n + 4) = if ax_ok v2 16 = true then ax_ex (e + 7) L_X11_owesEnough 4 [some (.inr (.inr (22, 0))), some (.inl v1), some (.inl v2)] [.inl (m.1 26 0 v2.toNatClampNeg)] m n else none := fun n => rfl
  by_cases c1 : ax_ok v2 16 = true
  · rw [if_pos c1] at h
    refine ax_gt c1 s2 ?_
    have s4 : ∀ n, ax_ex (e + 7) L_X11_owesEnough 4 [some (.inr (.inr (22, 0))), some (.inl v1), some (.inl v2)] [.inl (m.1 26 0 v2.toNatClampNeg)] m (n + 2) = if (m.1 26 0 v2.toNatClampNeg) = 4 then ax_ex (e + 7) L_X11_owesEnough 6 [some (.inr (.inr (22, 0))), some (.inl v1), some (.inl v2)] [] m n else ax_ex (e + 7) L_X11_owesEnough 14 [some (.inr (.inr (22, 0))), some (.inl v1), some (.inl v2)] [] m n := fun n => rfl
    by_cases c3 : (m.1 26 0 v2.toNatClampNeg) = 4
    · rw [if_pos c3] at h
      refine ax_gt c3 s4 ?_
      obtain ⟨r6, q5, h⟩ := ax_b_of h
      have s9 : ∀ n, ax_ex (e + 7) L_X11_owesEnough 6 [some (.inr (.inr (22, 0))), some (.inl v1), some (.inl v2)] [] m (n + 3) = ax_aft (fun s m2 => ax_ex (e + 7) L_X11_owesEnough 9 [some (.inr (.inr (22, 0))), some (.inl v1), some (.inl v2)] s m2 n) [] (ax_ex (e + 6) L_X11_allOwed 0 (ax_entry [.inr (.inr (22, 0)), .inl v1] 4) [] m n) := fun n => rfl
      refine ax_gci (j := 3) (k2 := 9) (lv2 := [some (.inr (.inr (22, 0))), some (.inl v1), some (.inl v2)]) (rest := []) ((R_X11_allOwed (by omega) q5)) s9 ?_
      have s8 : ∀ n, ax_ex (e + 7) L_X11_owesEnough 9 [some (.inr (.inr (22, 0))), some (.inl v1), some (.inl v2)] [.inl r6] m (n + 1) = if r6 ≤ 0 then ax_ex (e + 7) L_X11_owesEnough 12 [some (.inr (.inr (22, 0))), some (.inl v1), some (.inl v2)] [] m n else ax_ex (e + 7) L_X11_owesEnough 10 [some (.inr (.inr (22, 0))), some (.inl v1), some (.inl v2)] [] m n := fun n => rfl
      by_cases c7 : r6 ≤ 0
      · rw [if_pos c7] at h
        refine ax_gt c7 s8 ?_
        obtain rfl := Option.some.inj h
        exact ax_rq (c := (0 : Int32) = 0 ∨ (0 : Int32) = 1) (j := 3) (by decide) (fun n => rfl)
      · rw [if_neg c7] at h
        refine ax_gf c7 s8 ?_
        obtain rfl := Option.some.inj h
        exact ax_rq (c := (1 : Int32) = 0 ∨ (1 : Int32) = 1) (j := 3) (by decide) (fun n => rfl)
    · rw [if_neg c3] at h
      refine ax_gf c3 s4 ?_
      have s11 : ∀ n, ax_ex (e + 7) L_X11_owesEnough 14 [some (.inr (.inr (22, 0))), some (.inl v1), some (.inl v2)] [] m (n + 9) = if ax_ok v2 16 = true then ax_ex (e + 7) L_X11_owesEnough 23 [some (.inr (.inr (22, 0))), some (.inl v1), some (.inl v2)] [.inl (m.1 29 0 v2.toNatClampNeg), .inl (8 * v1), .inr (.inr (25, 0))] m n else none := fun n => rfl
      by_cases c10 : ax_ok v2 16 = true
      · rw [if_pos c10] at h
        refine ax_gt c10 s11 ?_
        refine ax_go (j := 1) (k2 := 24) (lv2 := [some (.inr (.inr (22, 0))), some (.inl v1), some (.inl v2)]) (st2 := [.inl ((8 * v1) + (m.1 29 0 v2.toNatClampNeg)), .inr (.inr (25, 0))]) (m2 := m) (fun n => rfl) ?_
        obtain ⟨y12, hy12⟩ : ∃ y : Int32, y = ((8 * v1) + (m.1 29 0 v2.toNatClampNeg)) := ⟨_, rfl⟩
        rw [← hy12] at h ⊢
        have s14 : ∀ n, ax_ex (e + 7) L_X11_owesEnough 24 [some (.inr (.inr (22, 0))), some (.inl v1), some (.inl v2)] [.inl y12, .inr (.inr (25, 0))] m (n + 1) = if ax_ok y12 64 = true then ax_ex (e + 7) L_X11_owesEnough 25 [some (.inr (.inr (22, 0))), some (.inl v1), some (.inl v2)] [.inl (m.1 25 0 y12.toNatClampNeg)] m n else none := fun n => rfl
        by_cases c13 : ax_ok y12 64 = true
        · rw [if_pos c13] at h
          refine ax_gt c13 s14 ?_
          obtain ⟨r16, q15, h⟩ := ax_b_of h
          have s19 : ∀ n, ax_ex (e + 7) L_X11_owesEnough 25 [some (.inr (.inr (22, 0))), some (.inl v1), some (.inl v2)] [.inl (m.1 25 0 y12.toNatClampNeg)] m (n + 3) = ax_aft (fun s m2 => ax_ex (e + 7) L_X11_owesEnough 28 [some (.inr (.inr (22, 0))), some (.inl v1), some (.inl v2)] s m2 n) [.inl (m.1 25 0 y12.toNatClampNeg)] (ax_ex (e + 6) L_X11_takes 0 (ax_entry [.inr (.inr (22, 0)), .inl v2] 2) [] m n) := fun n => rfl
          refine ax_gci (j := 3) (k2 := 28) (lv2 := [some (.inr (.inr (22, 0))), some (.inl v1), some (.inl v2)]) (rest := [.inl (m.1 25 0 y12.toNatClampNeg)]) ((R_X11_takes (by omega) q15)) s19 ?_
          have s18 : ∀ n, ax_ex (e + 7) L_X11_owesEnough 28 [some (.inr (.inr (22, 0))), some (.inl v1), some (.inl v2)] [.inl r16, .inl (m.1 25 0 y12.toNatClampNeg)] m (n + 1) = if (m.1 25 0 y12.toNatClampNeg) < r16 then ax_ex (e + 7) L_X11_owesEnough 31 [some (.inr (.inr (22, 0))), some (.inl v1), some (.inl v2)] [] m n else ax_ex (e + 7) L_X11_owesEnough 29 [some (.inr (.inr (22, 0))), some (.inl v1), some (.inl v2)] [] m n := fun n => rfl
          by_cases c17 : (m.1 25 0 y12.toNatClampNeg) < r16
          · rw [if_pos c17] at h
            refine ax_gt c17 s18 ?_
            obtain rfl := Option.some.inj h
            exact ax_rq (c := (0 : Int32) = 0 ∨ (0 : Int32) = 1) (j := 2) (by decide) (fun n => rfl)
          · rw [if_neg c17] at h
            refine ax_gf c17 s18 ?_
            obtain rfl := Option.some.inj h
            exact ax_rq (c := (1 : Int32) = 0 ∨ (1 : Int32) = 1) (j := 3) (by decide) (fun n => rfl)
        · rw [if_neg c13] at h
          cases h
      · rw [if_neg c10] at h
        cases h
  · rw [if_neg c1] at h
    cases h
def F_X11_isUp (m : ax_M) (v1 : Int32) (v2 : Int32) (v3 : Int32) : Option Int32 := if ax_ok v1 16 = true then (ax_b (F_X11_far v3 (m.1 28 0 v1.toNatClampNeg)) (fun r4 => ax_b (F_X11_reachOf m v1) (fun r6 => if r6 < r4 then (some 0) else (ax_b (F_X11_owesEnough m v2 v1) (fun r10 => if r10 = 0 then (some 0) else (some 1)))))) else (none)
set_option maxRecDepth 20000 in
set_option maxHeartbeats 4000000 in
theorem R_X11_isUp {d : Nat} (hd : 8 ≤ d) {m : ax_M} {v1 : Int32} {v2 : Int32} {v3 : Int32} {q : Int32} (h : F_X11_isUp m v1 v2 v3 = some q) : ax_Ru d L_X11_isUp 0 (ax_entry [.inr (.inr (22, 0)), .inl v1, .inl v2, .inl v3] 4) [] m (some (.inl q), m) := by
  obtain ⟨e, rfl⟩ : ∃ e, d = e + 8 := ⟨d - 8, by omega⟩
  unfold F_X11_isUp at h
  have s2 : ∀ n, ax_ex (e + 8) L_X11_isUp 0 (ax_entry [.inr (.inr (22, 0)), .inl v1, .inl v2, .inl v3] 4) [] m (n + 5) = if ax_ok v1 16 = true then ax_ex (e + 8) L_X11_isUp 5 [some (.inr (.inr (22, 0))), some (.inl v1), some (.inl v2), some (.inl v3)] [.inl (m.1 28 0 v1.toNatClampNeg), .inl v3] m n else none := fun n => rfl
  by_cases c1 : ax_ok v1 16 = true
  · rw [if_pos c1] at h
    refine ax_gt c1 s2 ?_
    obtain ⟨r4, q3, h⟩ := ax_b_of h
    have s15 : ∀ n, ax_ex (e + 8) L_X11_isUp 5 [some (.inr (.inr (22, 0))), some (.inl v1), some (.inl v2), some (.inl v3)] [.inl (m.1 28 0 v1.toNatClampNeg), .inl v3] m (n + 1) = ax_aft (fun s m2 => ax_ex (e + 8) L_X11_isUp 6 [some (.inr (.inr (22, 0))), some (.inl v1), some (.inl v2), some (.inl v3)] s m2 n) [] (ax_ex (e + 7) L_X11_far 0 (ax_entry [.inl v3, .inl (m.1 28 0 v1.toNatClampNeg)] 2) [] m n) := fun n => rfl
    refine ax_gci (j := 1) (k2 := 6) (lv2 := [some (.inr (.inr (22, 0))), some (.inl v1), some (.inl v2), some (.inl v3)]) (rest := []) ((R_X11_far (by omega) q3)) s15 ?_
    obtain ⟨r6, q5, h⟩ := ax_b_of h
    have s14 : ∀ n, ax_ex (e + 8) L_X11_isUp 6 [some (.inr (.inr (22, 0))), some (.inl v1), some (.inl v2), some (.inl v3)] [.inl r4] m (n + 3) = ax_aft (fun s m2 => ax_ex (e + 8) L_X11_isUp 9 [some (.inr (.inr (22, 0))), some (.inl v1), some (.inl v2), some (.inl v3)] s m2 n) [.inl r4] (ax_ex (e + 7) L_X11_reachOf 0 (ax_entry [.inr (.inr (22, 0)), .inl v1] 2) [] m n) := fun n => rfl
    refine ax_gci (j := 3) (k2 := 9) (lv2 := [some (.inr (.inr (22, 0))), some (.inl v1), some (.inl v2), some (.inl v3)]) (rest := [.inl r4]) ((R_X11_reachOf (by omega) q5)) s14 ?_
    have s8 : ∀ n, ax_ex (e + 8) L_X11_isUp 9 [some (.inr (.inr (22, 0))), some (.inl v1), some (.inl v2), some (.inl v3)] [.inl r6, .inl r4] m (n + 1) = if r6 < r4 then ax_ex (e + 8) L_X11_isUp 17 [some (.inr (.inr (22, 0))), some (.inl v1), some (.inl v2), some (.inl v3)] [] m n else ax_ex (e + 8) L_X11_isUp 10 [some (.inr (.inr (22, 0))), some (.inl v1), some (.inl v2), some (.inl v3)] [] m n := fun n => rfl
    by_cases c7 : r6 < r4
    · rw [if_pos c7] at h
      refine ax_gt c7 s8 ?_
      obtain rfl := Option.some.inj h
      exact ax_rq (c := (0 : Int32) = 0 ∨ (0 : Int32) = 1) (j := 2) (by decide) (fun n => rfl)
    · rw [if_neg c7] at h
      refine ax_gf c7 s8 ?_
      obtain ⟨r10, q9, h⟩ := ax_b_of h
      have s13 : ∀ n, ax_ex (e + 8) L_X11_isUp 10 [some (.inr (.inr (22, 0))), some (.inl v1), some (.inl v2), some (.inl v3)] [] m (n + 4) = ax_aft (fun s m2 => ax_ex (e + 8) L_X11_isUp 14 [some (.inr (.inr (22, 0))), some (.inl v1), some (.inl v2), some (.inl v3)] s m2 n) [] (ax_ex (e + 7) L_X11_owesEnough 0 (ax_entry [.inr (.inr (22, 0)), .inl v2, .inl v1] 3) [] m n) := fun n => rfl
      refine ax_gci (j := 4) (k2 := 14) (lv2 := [some (.inr (.inr (22, 0))), some (.inl v1), some (.inl v2), some (.inl v3)]) (rest := []) ((R_X11_owesEnough (by omega) q9)) s13 ?_
      have s12 : ∀ n, ax_ex (e + 8) L_X11_isUp 14 [some (.inr (.inr (22, 0))), some (.inl v1), some (.inl v2), some (.inl v3)] [.inl r10] m (n + 1) = if r10 = 0 then ax_ex (e + 8) L_X11_isUp 17 [some (.inr (.inr (22, 0))), some (.inl v1), some (.inl v2), some (.inl v3)] [] m n else ax_ex (e + 8) L_X11_isUp 15 [some (.inr (.inr (22, 0))), some (.inl v1), some (.inl v2), some (.inl v3)] [] m n := fun n => rfl
      by_cases c11 : r10 = 0
      · rw [if_pos c11] at h
        refine ax_gt c11 s12 ?_
        obtain rfl := Option.some.inj h
        exact ax_rq (c := (0 : Int32) = 0 ∨ (0 : Int32) = 1) (j := 2) (by decide) (fun n => rfl)
      · rw [if_neg c11] at h
        refine ax_gf c11 s12 ?_
        obtain rfl := Option.some.inj h
        exact ax_rq (c := (1 : Int32) = 0 ∨ (1 : Int32) = 1) (j := 3) (by decide) (fun n => rfl)
  · rw [if_neg c1] at h
    cases h
def F_X11_byOf_L4 : Nat → ax_M → Int32 → Int32 → Int32 → Option Int32
  | 0, _, _, _, _ => none
  | n + 1, m, v1, v2, v3 => if (m.1 22 0 1) ≤ v3 then (some v2) else (if ax_ok v3 8 = true then (ax_b (F_X11_isUp m v1 v3 (m.1 24 0 v3.toNatClampNeg)) (fun r6 => if r6 = 0 then (F_X11_byOf_L4 n m v1 v2 (v3 + 1)) else (F_X11_byOf_L4 n m v1 (v2 ||| (ax_ishl 1 v3)) (v3 + 1)))) else (none))
set_option maxRecDepth 20000 in
set_option maxHeartbeats 4000000 in
theorem R_X11_byOf_L4 {e : Nat} {m : ax_M} {v1 : Int32} : ∀ (n : Nat) (v2 : Int32) (v3 : Int32) (q : Int32), F_X11_byOf_L4 n m v1 v2 v3 = some q → ax_Ru (e + 9) L_X11_byOf 4 [some (.inr (.inr (22, 0))), some (.inl v1), some (.inl v2), some (.inl v3)] [] m (some (.inl q), m) := by
  intro n
  induction n with
  | zero =>
    intro v2 v3 q h
    cases h
  | succ n ih =>
    intro v2 v3 q h
    rw [F_X11_byOf_L4] at h
    have s2 : ∀ n, ax_ex (e + 9) L_X11_byOf 4 [some (.inr (.inr (22, 0))), some (.inl v1), some (.inl v2), some (.inl v3)] [] m (n + 4) = if (m.1 22 0 1) ≤ v3 then ax_ex (e + 9) L_X11_byOf 25 [some (.inr (.inr (22, 0))), some (.inl v1), some (.inl v2), some (.inl v3)] [] m n else ax_ex (e + 9) L_X11_byOf 8 [some (.inr (.inr (22, 0))), some (.inl v1), some (.inl v2), some (.inl v3)] [] m n := fun n => rfl
    by_cases c1 : (m.1 22 0 1) ≤ v3
    · rw [if_pos c1] at h
      refine ax_gt c1 s2 ?_
      obtain rfl := Option.some.inj h
      exact ax_rs 2 (fun n => rfl)
    · rw [if_neg c1] at h
      refine ax_gf c1 s2 ?_
      have s4 : ∀ n, ax_ex (e + 9) L_X11_byOf 8 [some (.inr (.inr (22, 0))), some (.inl v1), some (.inl v2), some (.inl v3)] [] m (n + 7) = if ax_ok v3 8 = true then ax_ex (e + 9) L_X11_byOf 15 [some (.inr (.inr (22, 0))), some (.inl v1), some (.inl v2), some (.inl v3)] [.inl (m.1 24 0 v3.toNatClampNeg), .inl v3, .inl v1, .inr (.inr (22, 0))] m n else none := fun n => rfl
      by_cases c3 : ax_ok v3 8 = true
      · rw [if_pos c3] at h
        refine ax_gt c3 s4 ?_
        obtain ⟨r6, q5, h⟩ := ax_b_of h
        have s9 : ∀ n, ax_ex (e + 9) L_X11_byOf 15 [some (.inr (.inr (22, 0))), some (.inl v1), some (.inl v2), some (.inl v3)] [.inl (m.1 24 0 v3.toNatClampNeg), .inl v3, .inl v1, .inr (.inr (22, 0))] m (n + 1) = ax_aft (fun s m2 => ax_ex (e + 9) L_X11_byOf 16 [some (.inr (.inr (22, 0))), some (.inl v1), some (.inl v2), some (.inl v3)] s m2 n) [] (ax_ex (e + 8) L_X11_isUp 0 (ax_entry [.inr (.inr (22, 0)), .inl v1, .inl v3, .inl (m.1 24 0 v3.toNatClampNeg)] 4) [] m n) := fun n => rfl
        refine ax_gci (j := 1) (k2 := 16) (lv2 := [some (.inr (.inr (22, 0))), some (.inl v1), some (.inl v2), some (.inl v3)]) (rest := []) ((R_X11_isUp (by omega) q5)) s9 ?_
        have s8 : ∀ n, ax_ex (e + 9) L_X11_byOf 16 [some (.inr (.inr (22, 0))), some (.inl v1), some (.inl v2), some (.inl v3)] [.inl r6] m (n + 1) = if r6 = 0 then ax_ex (e + 9) L_X11_byOf 23 [some (.inr (.inr (22, 0))), some (.inl v1), some (.inl v2), some (.inl v3)] [] m n else ax_ex (e + 9) L_X11_byOf 17 [some (.inr (.inr (22, 0))), some (.inl v1), some (.inl v2), some (.inl v3)] [] m n := fun n => rfl
        by_cases c7 : r6 = 0
        · rw [if_pos c7] at h
          refine ax_gt c7 s8 ?_
          refine ax_go (j := 2) (k2 := 4) (lv2 := [some (.inr (.inr (22, 0))), some (.inl v1), some (.inl v2), some (.inl (v3 + 1))]) (st2 := []) (m2 := m) (fun n => rfl) ?_
          exact ax_fg (lv2 := [some (.inr (.inr (22, 0))), some (.inl v1), some (.inl v2), some (.inl (v3 + 1))]) ⟨rfl, rfl, rfl, rfl, trivial⟩ (ih v2 (v3 + 1) _ h)
        · rw [if_neg c7] at h
          refine ax_gf c7 s8 ?_
          refine ax_go (j := 8) (k2 := 4) (lv2 := [some (.inr (.inr (22, 0))), some (.inl v1), some (.inl (v2 ||| (ax_ishl 1 v3))), some (.inl (v3 + 1))]) (st2 := []) (m2 := m) (fun n => rfl) ?_
          exact ax_fg (lv2 := [some (.inr (.inr (22, 0))), some (.inl v1), some (.inl (v2 ||| (ax_ishl 1 v3))), some (.inl (v3 + 1))]) ⟨rfl, rfl, rfl, rfl, trivial⟩ (ih (v2 ||| (ax_ishl 1 v3)) (v3 + 1) _ h)
      · rw [if_neg c3] at h
        cases h
def F_X11_byOf (m : ax_M) (v1 : Int32) : Option Int32 := F_X11_byOf_L4 ax_FU m v1 0 0
set_option maxRecDepth 20000 in
set_option maxHeartbeats 4000000 in
theorem R_X11_byOf {d : Nat} (hd : 9 ≤ d) {m : ax_M} {v1 : Int32} {q : Int32} (h : F_X11_byOf m v1 = some q) : ax_Ru d L_X11_byOf 0 (ax_entry [.inr (.inr (22, 0)), .inl v1] 4) [] m (some (.inl q), m) := by
  obtain ⟨e, rfl⟩ : ∃ e, d = e + 9 := ⟨d - 9, by omega⟩
  unfold F_X11_byOf at h
  refine ax_go (j := 4) (k2 := 4) (lv2 := [some (.inr (.inr (22, 0))), some (.inl v1), some (.inl 0), some (.inl 0)]) (st2 := []) (m2 := m) (fun n => rfl) ?_
  refine ax_fg (lv2 := [some (.inr (.inr (22, 0))), some (.inl v1), some (.inl 0), some (.inl 0)]) ⟨rfl, rfl, rfl, rfl, trivial⟩ ?_
  refine R_X11_byOf_L4 _ 0 0 _ h
def F_X11_upOf_L4 : Nat → ax_M → Int32 → Int32 → Int32 → Option Int32
  | 0, _, _, _, _ => none
  | n + 1, m, v1, v2, v3 => if (m.1 22 0 4) ≤ v3 then (some v2) else (if v1 = (-1) then (ax_b (F_X11_byOf m v3) (fun r6 => if r6 = 0 then (F_X11_upOf_L4 n m v1 v2 (v3 + 1)) else (F_X11_upOf_L4 n m v1 (v2 ||| (ax_ishl 1 v3)) (v3 + 1)))) else (if ax_ok v1 8 = true then (ax_b (F_X11_isUp m v3 v1 (m.1 24 0 v1.toNatClampNeg)) (fun r13 => if r13 = 0 then (F_X11_upOf_L4 n m v1 v2 (v3 + 1)) else (F_X11_upOf_L4 n m v1 (v2 ||| (ax_ishl 1 v3)) (v3 + 1)))) else (none)))
set_option maxRecDepth 20000 in
set_option maxHeartbeats 4000000 in
theorem R_X11_upOf_L4 {e : Nat} {m : ax_M} {v1 : Int32} : ∀ (n : Nat) (v2 : Int32) (v3 : Int32) (q : Int32), F_X11_upOf_L4 n m v1 v2 v3 = some q → ax_Ru (e + 10) L_X11_upOf 4 [some (.inr (.inr (22, 0))), some (.inl v1), some (.inl v2), some (.inl v3)] [] m (some (.inl q), m) := by
  intro n
  induction n with
  | zero =>
    intro v2 v3 q h
    cases h
  | succ n ih =>
    intro v2 v3 q h
    rw [F_X11_upOf_L4] at h
    have s2 : ∀ n, ax_ex (e + 10) L_X11_upOf 4 [some (.inr (.inr (22, 0))), some (.inl v1), some (.inl v2), some (.inl v3)] [] m (n + 4) = if (m.1 22 0 4) ≤ v3 then ax_ex (e + 10) L_X11_upOf 33 [some (.inr (.inr (22, 0))), some (.inl v1), some (.inl v2), some (.inl v3)] [] m n else ax_ex (e + 10) L_X11_upOf 8 [some (.inr (.inr (22, 0))), some (.inl v1), some (.inl v2), some (.inl v3)] [] m n := fun n => rfl
    by_cases c1 : (m.1 22 0 4) ≤ v3
    · rw [if_pos c1] at h
      refine ax_gt c1 s2 ?_
      obtain rfl := Option.some.inj h
      exact ax_rs 2 (fun n => rfl)
    · rw [if_neg c1] at h
      refine ax_gf c1 s2 ?_
      have s4 : ∀ n, ax_ex (e + 10) L_X11_upOf 8 [some (.inr (.inr (22, 0))), some (.inl v1), some (.inl v2), some (.inl v3)] [] m (n + 3) = if v1 = (-1) then ax_ex (e + 10) L_X11_upOf 11 [some (.inr (.inr (22, 0))), some (.inl v1), some (.inl v2), some (.inl v3)] [] m n else ax_ex (e + 10) L_X11_upOf 16 [some (.inr (.inr (22, 0))), some (.inl v1), some (.inl v2), some (.inl v3)] [] m n := fun n => rfl
      by_cases c3 : v1 = (-1)
      · rw [if_pos c3] at h
        refine ax_gt c3 s4 ?_
        obtain ⟨r6, q5, h⟩ := ax_b_of h
        have s9 : ∀ n, ax_ex (e + 10) L_X11_upOf 11 [some (.inr (.inr (22, 0))), some (.inl v1), some (.inl v2), some (.inl v3)] [] m (n + 3) = ax_aft (fun s m2 => ax_ex (e + 10) L_X11_upOf 14 [some (.inr (.inr (22, 0))), some (.inl v1), some (.inl v2), some (.inl v3)] s m2 n) [] (ax_ex (e + 9) L_X11_byOf 0 (ax_entry [.inr (.inr (22, 0)), .inl v3] 4) [] m n) := fun n => rfl
        refine ax_gci (j := 3) (k2 := 14) (lv2 := [some (.inr (.inr (22, 0))), some (.inl v1), some (.inl v2), some (.inl v3)]) (rest := []) ((R_X11_byOf (by omega) q5)) s9 ?_
        have s8 : ∀ n, ax_ex (e + 10) L_X11_upOf 14 [some (.inr (.inr (22, 0))), some (.inl v1), some (.inl v2), some (.inl v3)] [.inl r6] m (n + 1) = if r6 = 0 then ax_ex (e + 10) L_X11_upOf 31 [some (.inr (.inr (22, 0))), some (.inl v1), some (.inl v2), some (.inl v3)] [] m n else ax_ex (e + 10) L_X11_upOf 15 [some (.inr (.inr (22, 0))), some (.inl v1), some (.inl v2), some (.inl v3)] [] m n := fun n => rfl
        by_cases c7 : r6 = 0
        · rw [if_pos c7] at h
          refine ax_gt c7 s8 ?_
          refine ax_go (j := 2) (k2 := 4) (lv2 := [some (.inr (.inr (22, 0))), some (.inl v1), some (.inl v2), some (.inl (v3 + 1))]) (st2 := []) (m2 := m) (fun n => rfl) ?_
          exact ax_fg (lv2 := [some (.inr (.inr (22, 0))), some (.inl v1), some (.inl v2), some (.inl (v3 + 1))]) ⟨rfl, rfl, rfl, rfl, trivial⟩ (ih v2 (v3 + 1) _ h)
        · rw [if_neg c7] at h
          refine ax_gf c7 s8 ?_
          refine ax_go (j := 9) (k2 := 4) (lv2 := [some (.inr (.inr (22, 0))), some (.inl v1), some (.inl (v2 ||| (ax_ishl 1 v3))), some (.inl (v3 + 1))]) (st2 := []) (m2 := m) (fun n => rfl) ?_
          exact ax_fg (lv2 := [some (.inr (.inr (22, 0))), some (.inl v1), some (.inl (v2 ||| (ax_ishl 1 v3))), some (.inl (v3 + 1))]) ⟨rfl, rfl, rfl, rfl, trivial⟩ (ih (v2 ||| (ax_ishl 1 v3)) (v3 + 1) _ h)
      · rw [if_neg c3] at h
        refine ax_gf c3 s4 ?_
        have s11 : ∀ n, ax_ex (e + 10) L_X11_upOf 16 [some (.inr (.inr (22, 0))), some (.inl v1), some (.inl v2), some (.inl v3)] [] m (n + 7) = if ax_ok v1 8 = true then ax_ex (e + 10) L_X11_upOf 23 [some (.inr (.inr (22, 0))), some (.inl v1), some (.inl v2), some (.inl v3)] [.inl (m.1 24 0 v1.toNatClampNeg), .inl v1, .inl v3, .inr (.inr (22, 0))] m n else none := fun n => rfl
        by_cases c10 : ax_ok v1 8 = true
        · rw [if_pos c10] at h
          refine ax_gt c10 s11 ?_
          obtain ⟨r13, q12, h⟩ := ax_b_of h
          have s16 : ∀ n, ax_ex (e + 10) L_X11_upOf 23 [some (.inr (.inr (22, 0))), some (.inl v1), some (.inl v2), some (.inl v3)] [.inl (m.1 24 0 v1.toNatClampNeg), .inl v1, .inl v3, .inr (.inr (22, 0))] m (n + 1) = ax_aft (fun s m2 => ax_ex (e + 10) L_X11_upOf 24 [some (.inr (.inr (22, 0))), some (.inl v1), some (.inl v2), some (.inl v3)] s m2 n) [] (ax_ex (e + 9) L_X11_isUp 0 (ax_entry [.inr (.inr (22, 0)), .inl v3, .inl v1, .inl (m.1 24 0 v1.toNatClampNeg)] 4) [] m n) := fun n => rfl
          refine ax_gci (j := 1) (k2 := 24) (lv2 := [some (.inr (.inr (22, 0))), some (.inl v1), some (.inl v2), some (.inl v3)]) (rest := []) ((R_X11_isUp (by omega) q12)) s16 ?_
          have s15 : ∀ n, ax_ex (e + 10) L_X11_upOf 24 [some (.inr (.inr (22, 0))), some (.inl v1), some (.inl v2), some (.inl v3)] [.inl r13] m (n + 1) = if r13 = 0 then ax_ex (e + 10) L_X11_upOf 31 [some (.inr (.inr (22, 0))), some (.inl v1), some (.inl v2), some (.inl v3)] [] m n else ax_ex (e + 10) L_X11_upOf 25 [some (.inr (.inr (22, 0))), some (.inl v1), some (.inl v2), some (.inl v3)] [] m n := fun n => rfl
          by_cases c14 : r13 = 0
          · rw [if_pos c14] at h
            refine ax_gt c14 s15 ?_
            refine ax_go (j := 2) (k2 := 4) (lv2 := [some (.inr (.inr (22, 0))), some (.inl v1), some (.inl v2), some (.inl (v3 + 1))]) (st2 := []) (m2 := m) (fun n => rfl) ?_
            exact ax_fg (lv2 := [some (.inr (.inr (22, 0))), some (.inl v1), some (.inl v2), some (.inl (v3 + 1))]) ⟨rfl, rfl, rfl, rfl, trivial⟩ (ih v2 (v3 + 1) _ h)
          · rw [if_neg c14] at h
            refine ax_gf c14 s15 ?_
            refine ax_go (j := 8) (k2 := 4) (lv2 := [some (.inr (.inr (22, 0))), some (.inl v1), some (.inl (v2 ||| (ax_ishl 1 v3))), some (.inl (v3 + 1))]) (st2 := []) (m2 := m) (fun n => rfl) ?_
            exact ax_fg (lv2 := [some (.inr (.inr (22, 0))), some (.inl v1), some (.inl (v2 ||| (ax_ishl 1 v3))), some (.inl (v3 + 1))]) ⟨rfl, rfl, rfl, rfl, trivial⟩ (ih (v2 ||| (ax_ishl 1 v3)) (v3 + 1) _ h)
        · rw [if_neg c10] at h
          cases h
def F_X11_upOf (m : ax_M) (v1 : Int32) : Option Int32 := F_X11_upOf_L4 ax_FU m v1 0 0
set_option maxRecDepth 20000 in
set_option maxHeartbeats 4000000 in
theorem R_X11_upOf {d : Nat} (hd : 10 ≤ d) {m : ax_M} {v1 : Int32} {q : Int32} (h : F_X11_upOf m v1 = some q) : ax_Ru d L_X11_upOf 0 (ax_entry [.inr (.inr (22, 0)), .inl v1] 4) [] m (some (.inl q), m) := by
  obtain ⟨e, rfl⟩ : ∃ e, d = e + 10 := ⟨d - 10, by omega⟩
  unfold F_X11_upOf at h
  refine ax_go (j := 4) (k2 := 4) (lv2 := [some (.inr (.inr (22, 0))), some (.inl v1), some (.inl 0), some (.inl 0)]) (st2 := []) (m2 := m) (fun n => rfl) ?_
  refine ax_fg (lv2 := [some (.inr (.inr (22, 0))), some (.inl v1), some (.inl 0), some (.inl 0)]) ⟨rfl, rfl, rfl, rfl, trivial⟩ ?_
  refine R_X11_upOf_L4 _ 0 0 _ h
def F_X11_seedOf (m : ax_M) (v1 : Int32) (v2 : Int32) : Option (Int32 × ax_M) := ax_b (F_X11_isSeed m v1) (fun r2 => if r2 = 0 then (ax_b2 (F_X11_no m (-2)) (fun r6 m7 => some (r6, m7))) else (if v2 = 0 then (if ax_ok v1 16 = true then (some ((m.1 26 0 v1.toNatClampNeg), m)) else (none)) else (if v2 = 1 then (if ax_ok v1 16 = true then (some ((m.1 27 0 v1.toNatClampNeg), m)) else (none)) else (if v2 = 2 then (if ax_ok v1 16 = true then (some ((m.1 28 0 v1.toNatClampNeg), m)) else (none)) else (if v2 = 3 then (if ax_ok v1 16 = true then (some ((m.1 29 0 v1.toNatClampNeg), m)) else (none)) else (if v2 = 4 then (ax_b (F_X11_reachOf m v1) (fun r24 => some (r24, m))) else (if v2 = 5 then (ax_b (F_X11_byOf m v1) (fun r28 => if r28 = 0 then (some (0, m)) else (some (1, m)))) else (ax_b2 (F_X11_no m (-2)) (fun r33 m34 => some (r33, m34))))))))))
set_option maxRecDepth 20000 in
set_option maxHeartbeats 4000000 in
theorem R_X11_seedOf {d : Nat} (hd : 10 ≤ d) {m : ax_M} {v1 : Int32} {v2 : Int32} {q : (Int32 × ax_M)} (h : F_X11_seedOf m v1 v2 = some q) : ax_Ru d L_X11_seedOf 0 (ax_entry [.inr (.inr (22, 0)), .inl v1, .inl v2] 3) [] m (some (.inl q.1), q.2) := by
  obtain ⟨e, rfl⟩ : ∃ e, d = e + 10 := ⟨d - 10, by omega⟩
  unfold F_X11_seedOf at h
  obtain ⟨r2, q1, h⟩ := ax_b_of h
  have s36 : ∀ n, ax_ex (e + 10) L_X11_seedOf 0 (ax_entry [.inr (.inr (22, 0)), .inl v1, .inl v2] 3) [] m (n + 3) = ax_aft (fun s m2 => ax_ex (e + 10) L_X11_seedOf 3 [some (.inr (.inr (22, 0))), some (.inl v1), some (.inl v2)] s m2 n) [] (ax_ex (e + 9) L_X11_isSeed 0 (ax_entry [.inr (.inr (22, 0)), .inl v1] 2) [] m n) := fun n => rfl
  refine ax_gci (j := 3) (k2 := 3) (lv2 := [some (.inr (.inr (22, 0))), some (.inl v1), some (.inl v2)]) (rest := []) ((R_X11_isSeed (by omega) q1)) s36 ?_
  have s4 : ∀ n, ax_ex (e + 10) L_X11_seedOf 3 [some (.inr (.inr (22, 0))), some (.inl v1), some (.inl v2)] [.inl r2] m (n + 1) = if r2 = 0 then ax_ex (e + 10) L_X11_seedOf 4 [some (.inr (.inr (22, 0))), some (.inl v1), some (.inl v2)] [] m n else ax_ex (e + 10) L_X11_seedOf 8 [some (.inr (.inr (22, 0))), some (.inl v1), some (.inl v2)] [] m n := fun n => rfl
  by_cases c3 : r2 = 0
  · rw [if_pos c3] at h
    refine ax_gt c3 s4 ?_
    obtain ⟨r6, m7, q5, h⟩ := ax_b2_of h
    have s8 : ∀ n, ax_ex (e + 10) L_X11_seedOf 4 [some (.inr (.inr (22, 0))), some (.inl v1), some (.inl v2)] [] m (n + 3) = ax_aft (fun s m2 => ax_ex (e + 10) L_X11_seedOf 7 [some (.inr (.inr (22, 0))), some (.inl v1), some (.inl v2)] s m2 n) [] (ax_ex (e + 9) L_X11_no 0 (ax_entry [.inr (.inr (22, 0)), .inl (-2)] 2) [] m n) := fun n => rfl
    refine ax_gci (j := 3) (k2 := 7) (lv2 := [some (.inr (.inr (22, 0))), some (.inl v1), some (.inl v2)]) (rest := []) ((R_X11_no (by omega) q5)) s8 ?_
    obtain rfl := Option.some.inj h
    exact ax_rs 1 (fun n => rfl)
  · rw [if_neg c3] at h
    refine ax_gf c3 s4 ?_
    have s9 : ∀ n, ax_ex (e + 10) L_X11_seedOf 8 [some (.inr (.inr (22, 0))), some (.inl v1), some (.inl v2)] [] m (n + 2) = (if v2 = 0 then ax_ex (e + 10) L_X11_seedOf 10 [some (.inr (.inr (22, 0))), some (.inl v1), some (.inl v2)] [] m n else (if v2 = 1 then ax_ex (e + 10) L_X11_seedOf 15 [some (.inr (.inr (22, 0))), some (.inl v1), some (.inl v2)] [] m n else (if v2 = 2 then ax_ex (e + 10) L_X11_seedOf 20 [some (.inr (.inr (22, 0))), some (.inl v1), some (.inl v2)] [] m n else (if v2 = 3 then ax_ex (e + 10) L_X11_seedOf 25 [some (.inr (.inr (22, 0))), some (.inl v1), some (.inl v2)] [] m n else (if v2 = 4 then ax_ex (e + 10) L_X11_seedOf 30 [some (.inr (.inr (22, 0))), some (.inl v1), some (.inl v2)] [] m n else (if v2 = 5 then ax_ex (e + 10) L_X11_seedOf 34 [some (.inr (.inr (22, 0))), some (.inl v1), some (.inl v2)] [] m n else ax_ex (e + 10) L_X11_seedOf 42 [some (.inr (.inr (22, 0))), some (.inl v1), some (.inl v2)] [] m n)))))) := fun n => rfl
    by_cases c10 : v2 = 0
    · rw [if_pos c10] at h
      refine ax_go (j := 2) (k2 := 10) (lv2 := [some (.inr (.inr (22, 0))), some (.inl v1), some (.inl v2)]) (st2 := []) (m2 := m) (fun n => (s9 n).trans (if_pos c10)) ?_
      have s12 : ∀ n, ax_ex (e + 10) L_X11_seedOf 10 [some (.inr (.inr (22, 0))), some (.inl v1), some (.inl v2)] [] m (n + 4) = if ax_ok v1 16 = true then ax_ex (e + 10) L_X11_seedOf 14 [some (.inr (.inr (22, 0))), some (.inl v1), some (.inl v2)] [.inl (m.1 26 0 v1.toNatClampNeg)] m n else none := fun n => rfl
      by_cases c11 : ax_ok v1 16 = true
      · rw [if_pos c11] at h
        refine ax_gt c11 s12 ?_
        obtain rfl := Option.some.inj h
        exact ax_rs 1 (fun n => rfl)
      · rw [if_neg c11] at h
        cases h
    · rw [if_neg c10] at h
      by_cases c13 : v2 = 1
      · rw [if_pos c13] at h
        refine ax_go (j := 2) (k2 := 15) (lv2 := [some (.inr (.inr (22, 0))), some (.inl v1), some (.inl v2)]) (st2 := []) (m2 := m) (fun n => ((s9 n).trans (if_neg c10)).trans (if_pos c13)) ?_
        have s15 : ∀ n, ax_ex (e + 10) L_X11_seedOf 15 [some (.inr (.inr (22, 0))), some (.inl v1), some (.inl v2)] [] m (n + 4) = if ax_ok v1 16 = true then ax_ex (e + 10) L_X11_seedOf 19 [some (.inr (.inr (22, 0))), some (.inl v1), some (.inl v2)] [.inl (m.1 27 0 v1.toNatClampNeg)] m n else none := fun n => rfl
        by_cases c14 : ax_ok v1 16 = true
        · rw [if_pos c14] at h
          refine ax_gt c14 s15 ?_
          obtain rfl := Option.some.inj h
          exact ax_rs 1 (fun n => rfl)
        · rw [if_neg c14] at h
          cases h
      · rw [if_neg c13] at h
        by_cases c16 : v2 = 2
        · rw [if_pos c16] at h
          refine ax_go (j := 2) (k2 := 20) (lv2 := [some (.inr (.inr (22, 0))), some (.inl v1), some (.inl v2)]) (st2 := []) (m2 := m) (fun n => (((s9 n).trans (if_neg c10)).trans (if_neg c13)).trans (if_pos c16)) ?_
          have s18 : ∀ n, ax_ex (e + 10) L_X11_seedOf 20 [some (.inr (.inr (22, 0))), some (.inl v1), some (.inl v2)] [] m (n + 4) = if ax_ok v1 16 = true then ax_ex (e + 10) L_X11_seedOf 24 [some (.inr (.inr (22, 0))), some (.inl v1), some (.inl v2)] [.inl (m.1 28 0 v1.toNatClampNeg)] m n else none := fun n => rfl
          by_cases c17 : ax_ok v1 16 = true
          · rw [if_pos c17] at h
            refine ax_gt c17 s18 ?_
            obtain rfl := Option.some.inj h
            exact ax_rs 1 (fun n => rfl)
          · rw [if_neg c17] at h
            cases h
        · rw [if_neg c16] at h
          by_cases c19 : v2 = 3
          · rw [if_pos c19] at h
            refine ax_go (j := 2) (k2 := 25) (lv2 := [some (.inr (.inr (22, 0))), some (.inl v1), some (.inl v2)]) (st2 := []) (m2 := m) (fun n => ((((s9 n).trans (if_neg c10)).trans (if_neg c13)).trans (if_neg c16)).trans (if_pos c19)) ?_
            have s21 : ∀ n, ax_ex (e + 10) L_X11_seedOf 25 [some (.inr (.inr (22, 0))), some (.inl v1), some (.inl v2)] [] m (n + 4) = if ax_ok v1 16 = true then ax_ex (e + 10) L_X11_seedOf 29 [some (.inr (.inr (22, 0))), some (.inl v1), some (.inl v2)] [.inl (m.1 29 0 v1.toNatClampNeg)] m n else none := fun n => rfl
            by_cases c20 : ax_ok v1 16 = true
            · rw [if_pos c20] at h
              refine ax_gt c20 s21 ?_
              obtain rfl := Option.some.inj h
              exact ax_rs 1 (fun n => rfl)
            · rw [if_neg c20] at h
              cases h
          · rw [if_neg c19] at h
            by_cases c22 : v2 = 4
            · rw [if_pos c22] at h
              refine ax_go (j := 2) (k2 := 30) (lv2 := [some (.inr (.inr (22, 0))), some (.inl v1), some (.inl v2)]) (st2 := []) (m2 := m) (fun n => (((((s9 n).trans (if_neg c10)).trans (if_neg c13)).trans (if_neg c16)).trans (if_neg c19)).trans (if_pos c22)) ?_
              obtain ⟨r24, q23, h⟩ := ax_b_of h
              have s25 : ∀ n, ax_ex (e + 10) L_X11_seedOf 30 [some (.inr (.inr (22, 0))), some (.inl v1), some (.inl v2)] [] m (n + 3) = ax_aft (fun s m2 => ax_ex (e + 10) L_X11_seedOf 33 [some (.inr (.inr (22, 0))), some (.inl v1), some (.inl v2)] s m2 n) [] (ax_ex (e + 9) L_X11_reachOf 0 (ax_entry [.inr (.inr (22, 0)), .inl v1] 2) [] m n) := fun n => rfl
              refine ax_gci (j := 3) (k2 := 33) (lv2 := [some (.inr (.inr (22, 0))), some (.inl v1), some (.inl v2)]) (rest := []) ((R_X11_reachOf (by omega) q23)) s25 ?_
              obtain rfl := Option.some.inj h
              exact ax_rs 1 (fun n => rfl)
            · rw [if_neg c22] at h
              by_cases c26 : v2 = 5
              · rw [if_pos c26] at h
                refine ax_go (j := 2) (k2 := 34) (lv2 := [some (.inr (.inr (22, 0))), some (.inl v1), some (.inl v2)]) (st2 := []) (m2 := m) (fun n => ((((((s9 n).trans (if_neg c10)).trans (if_neg c13)).trans (if_neg c16)).trans (if_neg c19)).trans (if_neg c22)).trans (if_pos c26)) ?_
                obtain ⟨r28, q27, h⟩ := ax_b_of h
                have s31 : ∀ n, ax_ex (e + 10) L_X11_seedOf 34 [some (.inr (.inr (22, 0))), some (.inl v1), some (.inl v2)] [] m (n + 3) = ax_aft (fun s m2 => ax_ex (e + 10) L_X11_seedOf 37 [some (.inr (.inr (22, 0))), some (.inl v1), some (.inl v2)] s m2 n) [] (ax_ex (e + 9) L_X11_byOf 0 (ax_entry [.inr (.inr (22, 0)), .inl v1] 4) [] m n) := fun n => rfl
                refine ax_gci (j := 3) (k2 := 37) (lv2 := [some (.inr (.inr (22, 0))), some (.inl v1), some (.inl v2)]) (rest := []) ((R_X11_byOf (by omega) q27)) s31 ?_
                have s30 : ∀ n, ax_ex (e + 10) L_X11_seedOf 37 [some (.inr (.inr (22, 0))), some (.inl v1), some (.inl v2)] [.inl r28] m (n + 1) = if r28 = 0 then ax_ex (e + 10) L_X11_seedOf 40 [some (.inr (.inr (22, 0))), some (.inl v1), some (.inl v2)] [] m n else ax_ex (e + 10) L_X11_seedOf 38 [some (.inr (.inr (22, 0))), some (.inl v1), some (.inl v2)] [] m n := fun n => rfl
                by_cases c29 : r28 = 0
                · rw [if_pos c29] at h
                  refine ax_gt c29 s30 ?_
                  obtain rfl := Option.some.inj h
                  exact ax_rs 2 (fun n => rfl)
                · rw [if_neg c29] at h
                  refine ax_gf c29 s30 ?_
                  obtain rfl := Option.some.inj h
                  exact ax_rs 3 (fun n => rfl)
              · rw [if_neg c26] at h
                refine ax_go (j := 2) (k2 := 42) (lv2 := [some (.inr (.inr (22, 0))), some (.inl v1), some (.inl v2)]) (st2 := []) (m2 := m) (fun n => (((((((s9 n).trans (if_neg c10)).trans (if_neg c13)).trans (if_neg c16)).trans (if_neg c19)).trans (if_neg c22)).trans (if_neg c26))) ?_
                obtain ⟨r33, m34, q32, h⟩ := ax_b2_of h
                have s35 : ∀ n, ax_ex (e + 10) L_X11_seedOf 42 [some (.inr (.inr (22, 0))), some (.inl v1), some (.inl v2)] [] m (n + 3) = ax_aft (fun s m2 => ax_ex (e + 10) L_X11_seedOf 45 [some (.inr (.inr (22, 0))), some (.inl v1), some (.inl v2)] s m2 n) [] (ax_ex (e + 9) L_X11_no 0 (ax_entry [.inr (.inr (22, 0)), .inl (-2)] 2) [] m n) := fun n => rfl
                refine ax_gci (j := 3) (k2 := 45) (lv2 := [some (.inr (.inr (22, 0))), some (.inl v1), some (.inl v2)]) (rest := []) ((R_X11_no (by omega) q32)) s35 ?_
                obtain rfl := Option.some.inj h
                exact ax_rs 1 (fun n => rfl)
def F_X11_owedTo_L4 : Nat → ax_M → Int32 → Int32 → Int32 → Option Int32
  | 0, _, _, _, _ => none
  | n + 1, m, v1, v2, v3 => if (m.1 22 0 1) ≤ v3 then (some v2) else (if ax_ok ((8 * v3) + v1) 64 = true then (F_X11_owedTo_L4 n m v1 (v2 + (m.1 25 0 ((8 * v3) + v1).toNatClampNeg)) (v3 + 1)) else (none))
set_option maxRecDepth 20000 in
set_option maxHeartbeats 4000000 in
theorem R_X11_owedTo_L4 {e : Nat} {m : ax_M} {v1 : Int32} : ∀ (n : Nat) (v2 : Int32) (v3 : Int32) (q : Int32), F_X11_owedTo_L4 n m v1 v2 v3 = some q → ax_Ru (e + 1) L_X11_owedTo 4 [some (.inr (.inr (22, 0))), some (.inl v1), some (.inl v2), some (.inl v3)] [] m (some (.inl q), m) := by
  intro n
  induction n with
  | zero =>
    intro v2 v3 q h
    cases h
  | succ n ih =>
    intro v2 v3 q h
    rw [F_X11_owedTo_L4] at h
    have s2 : ∀ n, ax_ex (e + 1) L_X11_owedTo 4 [some (.inr (.inr (22, 0))), some (.inl v1), some (.inl v2), some (.inl v3)] [] m (n + 4) = if (m.1 22 0 1) ≤ v3 then ax_ex (e + 1) L_X11_owedTo 21 [some (.inr (.inr (22, 0))), some (.inl v1), some (.inl v2), some (.inl v3)] [] m n else ax_ex (e + 1) L_X11_owedTo 8 [some (.inr (.inr (22, 0))), some (.inl v1), some (.inl v2), some (.inl v3)] [] m n := fun n => rfl
    by_cases c1 : (m.1 22 0 1) ≤ v3
    · rw [if_pos c1] at h
      refine ax_gt c1 s2 ?_
      obtain rfl := Option.some.inj h
      exact ax_rs 2 (fun n => rfl)
    · rw [if_neg c1] at h
      refine ax_gf c1 s2 ?_
      refine ax_go (j := 8) (k2 := 16) (lv2 := [some (.inr (.inr (22, 0))), some (.inl v1), some (.inl v2), some (.inl v3)]) (st2 := [.inl ((8 * v3) + v1), .inr (.inr (25, 0)), .inl v2]) (m2 := m) (fun n => rfl) ?_
      obtain ⟨y3, hy3⟩ : ∃ y : Int32, y = ((8 * v3) + v1) := ⟨_, rfl⟩
      rw [← hy3] at h ⊢
      have s5 : ∀ n, ax_ex (e + 1) L_X11_owedTo 16 [some (.inr (.inr (22, 0))), some (.inl v1), some (.inl v2), some (.inl v3)] [.inl y3, .inr (.inr (25, 0)), .inl v2] m (n + 1) = if ax_ok y3 64 = true then ax_ex (e + 1) L_X11_owedTo 17 [some (.inr (.inr (22, 0))), some (.inl v1), some (.inl v2), some (.inl v3)] [.inl (m.1 25 0 y3.toNatClampNeg), .inl v2] m n else none := fun n => rfl
      by_cases c4 : ax_ok y3 64 = true
      · rw [if_pos c4] at h
        refine ax_gt c4 s5 ?_
        refine ax_go (j := 4) (k2 := 4) (lv2 := [some (.inr (.inr (22, 0))), some (.inl v1), some (.inl (v2 + (m.1 25 0 y3.toNatClampNeg))), some (.inl (v3 + 1))]) (st2 := []) (m2 := m) (fun n => rfl) ?_
        exact ax_fg (lv2 := [some (.inr (.inr (22, 0))), some (.inl v1), some (.inl (v2 + (m.1 25 0 y3.toNatClampNeg))), some (.inl (v3 + 1))]) ⟨rfl, rfl, rfl, rfl, trivial⟩ (ih (v2 + (m.1 25 0 y3.toNatClampNeg)) (v3 + 1) _ h)
      · rw [if_neg c4] at h
        cases h
def F_X11_owedTo (m : ax_M) (v1 : Int32) : Option Int32 := F_X11_owedTo_L4 ax_FU m v1 0 0
set_option maxRecDepth 20000 in
set_option maxHeartbeats 4000000 in
theorem R_X11_owedTo {d : Nat} (hd : 1 ≤ d) {m : ax_M} {v1 : Int32} {q : Int32} (h : F_X11_owedTo m v1 = some q) : ax_Ru d L_X11_owedTo 0 (ax_entry [.inr (.inr (22, 0)), .inl v1] 4) [] m (some (.inl q), m) := by
  obtain ⟨e, rfl⟩ : ∃ e, d = e + 1 := ⟨d - 1, by omega⟩
  unfold F_X11_owedTo at h
  refine ax_go (j := 4) (k2 := 4) (lv2 := [some (.inr (.inr (22, 0))), some (.inl v1), some (.inl 0), some (.inl 0)]) (st2 := []) (m2 := m) (fun n => rfl) ?_
  refine ax_fg (lv2 := [some (.inr (.inr (22, 0))), some (.inl v1), some (.inl 0), some (.inl 0)]) ⟨rfl, rfl, rfl, rfl, trivial⟩ ?_
  refine R_X11_owedTo_L4 _ 0 0 _ h
def F_X11_personOf_L27 : Nat → ax_M → Int32 → Int32 → Int32 → Option (Int32 × ax_M)
  | 0, _, _, _, _ => none
  | n + 1, m, v1, v3, v4 => if (m.1 22 0 4) ≤ v4 then (some (v3, m)) else (if ax_ok v4 16 = true then (if (m.1 29 0 v4.toNatClampNeg) = v1 then (F_X11_personOf_L27 n m v1 (v3 + 1) (v4 + 1)) else (F_X11_personOf_L27 n m v1 v3 (v4 + 1))) else (none))
set_option maxRecDepth 20000 in
set_option maxHeartbeats 4000000 in
theorem R_X11_personOf_L27 {e : Nat} {v1 : Int32} : ∀ (n : Nat) (m : ax_M) (v3 : Int32) (v4 : Int32) (q : (Int32 × ax_M)), F_X11_personOf_L27 n m v1 v3 v4 = some q → ax_Ru (e + 11) L_X11_personOf 27 [some (.inr (.inr (22, 0))), some (.inl v1), none, some (.inl v3), some (.inl v4)] [] m (some (.inl q.1), q.2) := by
  intro n
  induction n with
  | zero =>
    intro m v3 v4 q h
    cases h
  | succ n ih =>
    intro m v3 v4 q h
    rw [F_X11_personOf_L27] at h
    have s23 : ∀ n, ax_ex (e + 11) L_X11_personOf 27 [some (.inr (.inr (22, 0))), some (.inl v1), none, some (.inl v3), some (.inl v4)] [] m (n + 4) = if (m.1 22 0 4) ≤ v4 then ax_ex (e + 11) L_X11_personOf 40 [some (.inr (.inr (22, 0))), some (.inl v1), none, some (.inl v3), some (.inl v4)] [] m n else ax_ex (e + 11) L_X11_personOf 31 [some (.inr (.inr (22, 0))), some (.inl v1), none, some (.inl v3), some (.inl v4)] [] m n := fun n => rfl
    by_cases c22 : (m.1 22 0 4) ≤ v4
    · rw [if_pos c22] at h
      refine ax_gt c22 s23 ?_
      obtain rfl := Option.some.inj h
      exact ax_rs 2 (fun n => rfl)
    · rw [if_neg c22] at h
      refine ax_gf c22 s23 ?_
      have s25 : ∀ n, ax_ex (e + 11) L_X11_personOf 31 [some (.inr (.inr (22, 0))), some (.inl v1), none, some (.inl v3), some (.inl v4)] [] m (n + 4) = if ax_ok v4 16 = true then ax_ex (e + 11) L_X11_personOf 35 [some (.inr (.inr (22, 0))), some (.inl v1), none, some (.inl v3), some (.inl v4)] [.inl (m.1 29 0 v4.toNatClampNeg)] m n else none := fun n => rfl
      by_cases c24 : ax_ok v4 16 = true
      · rw [if_pos c24] at h
        refine ax_gt c24 s25 ?_
        have s27 : ∀ n, ax_ex (e + 11) L_X11_personOf 35 [some (.inr (.inr (22, 0))), some (.inl v1), none, some (.inl v3), some (.inl v4)] [.inl (m.1 29 0 v4.toNatClampNeg)] m (n + 2) = if (m.1 29 0 v4.toNatClampNeg) = v1 then ax_ex (e + 11) L_X11_personOf 37 [some (.inr (.inr (22, 0))), some (.inl v1), none, some (.inl v3), some (.inl v4)] [] m n else ax_ex (e + 11) L_X11_personOf 38 [some (.inr (.inr (22, 0))), some (.inl v1), none, some (.inl v3), some (.inl v4)] [] m n := fun n => rfl
        by_cases c26 : (m.1 29 0 v4.toNatClampNeg) = v1
        · rw [if_pos c26] at h
          refine ax_gt c26 s27 ?_
          refine ax_go (j := 3) (k2 := 27) (lv2 := [some (.inr (.inr (22, 0))), some (.inl v1), none, some (.inl (v3 + 1)), some (.inl (v4 + 1))]) (st2 := []) (m2 := m) (fun n => rfl) ?_
          exact ax_fg (lv2 := [some (.inr (.inr (22, 0))), some (.inl v1), none, some (.inl (v3 + 1)), some (.inl (v4 + 1))]) ⟨rfl, rfl, rfl, rfl, trivial⟩ (ih m (v3 + 1) (v4 + 1) _ h)
        · rw [if_neg c26] at h
          refine ax_gf c26 s27 ?_
          refine ax_go (j := 2) (k2 := 27) (lv2 := [some (.inr (.inr (22, 0))), some (.inl v1), none, some (.inl v3), some (.inl (v4 + 1))]) (st2 := []) (m2 := m) (fun n => rfl) ?_
          exact ax_fg (lv2 := [some (.inr (.inr (22, 0))), some (.inl v1), none, some (.inl v3), some (.inl (v4 + 1))]) ⟨rfl, rfl, rfl, rfl, trivial⟩ (ih m v3 (v4 + 1) _ h)
      · rw [if_neg c24] at h
        cases h
def F_X11_personOf (m : ax_M) (v1 : Int32) (v2 : Int32) : Option (Int32 × ax_M) := ax_b (F_X11_isOne m v1) (fun r2 => if r2 = 0 then (ax_b2 (F_X11_no m (-2)) (fun r6 m7 => some (r6, m7))) else (if v2 = 0 then (if ax_ok v1 8 = true then (some ((m.1 24 0 v1.toNatClampNeg), m)) else (none)) else (if v2 = 1 then (ax_b (F_X11_allOwed m v1) (fun r15 => some (r15, m))) else (if v2 = 2 then (ax_b (F_X11_owedTo m v1) (fun r19 => some (r19, m))) else (if v2 = 3 then (F_X11_personOf_L27 ax_FU m v1 0 0) else (if v2 = 4 then (ax_b (F_X11_upOf m v1) (fun r31 => ax_b (F_J6_bitCount_0f7a4 r31) (fun r33 => some (r33, m)))) else (ax_b2 (F_X11_no m (-2)) (fun r37 m38 => some (r37, m38)))))))))
set_option maxRecDepth 20000 in
set_option maxHeartbeats 4000000 in
theorem R_X11_personOf {d : Nat} (hd : 11 ≤ d) {m : ax_M} {v1 : Int32} {v2 : Int32} {q : (Int32 × ax_M)} (h : F_X11_personOf m v1 v2 = some q) : ax_Ru d L_X11_personOf 0 (ax_entry [.inr (.inr (22, 0)), .inl v1, .inl v2] 5) [] m (some (.inl q.1), q.2) := by
  obtain ⟨e, rfl⟩ : ∃ e, d = e + 11 := ⟨d - 11, by omega⟩
  unfold F_X11_personOf at h
  obtain ⟨r2, q1, h⟩ := ax_b_of h
  have s40 : ∀ n, ax_ex (e + 11) L_X11_personOf 0 (ax_entry [.inr (.inr (22, 0)), .inl v1, .inl v2] 5) [] m (n + 3) = ax_aft (fun s m2 => ax_ex (e + 11) L_X11_personOf 3 [some (.inr (.inr (22, 0))), some (.inl v1), some (.inl v2), none, none] s m2 n) [] (ax_ex (e + 10) L_X11_isOne 0 (ax_entry [.inr (.inr (22, 0)), .inl v1] 2) [] m n) := fun n => rfl
  refine ax_gci (j := 3) (k2 := 3) (lv2 := [some (.inr (.inr (22, 0))), some (.inl v1), some (.inl v2), none, none]) (rest := []) ((R_X11_isOne (by omega) q1)) s40 ?_
  have s4 : ∀ n, ax_ex (e + 11) L_X11_personOf 3 [some (.inr (.inr (22, 0))), some (.inl v1), some (.inl v2), none, none] [.inl r2] m (n + 1) = if r2 = 0 then ax_ex (e + 11) L_X11_personOf 4 [some (.inr (.inr (22, 0))), some (.inl v1), some (.inl v2), none, none] [] m n else ax_ex (e + 11) L_X11_personOf 8 [some (.inr (.inr (22, 0))), some (.inl v1), some (.inl v2), none, none] [] m n := fun n => rfl
  by_cases c3 : r2 = 0
  · rw [if_pos c3] at h
    refine ax_gt c3 s4 ?_
    obtain ⟨r6, m7, q5, h⟩ := ax_b2_of h
    have s8 : ∀ n, ax_ex (e + 11) L_X11_personOf 4 [some (.inr (.inr (22, 0))), some (.inl v1), some (.inl v2), none, none] [] m (n + 3) = ax_aft (fun s m2 => ax_ex (e + 11) L_X11_personOf 7 [some (.inr (.inr (22, 0))), some (.inl v1), some (.inl v2), none, none] s m2 n) [] (ax_ex (e + 10) L_X11_no 0 (ax_entry [.inr (.inr (22, 0)), .inl (-2)] 2) [] m n) := fun n => rfl
    refine ax_gci (j := 3) (k2 := 7) (lv2 := [some (.inr (.inr (22, 0))), some (.inl v1), some (.inl v2), none, none]) (rest := []) ((R_X11_no (by omega) q5)) s8 ?_
    obtain rfl := Option.some.inj h
    exact ax_rs 1 (fun n => rfl)
  · rw [if_neg c3] at h
    refine ax_gf c3 s4 ?_
    have s9 : ∀ n, ax_ex (e + 11) L_X11_personOf 8 [some (.inr (.inr (22, 0))), some (.inl v1), some (.inl v2), none, none] [] m (n + 4) = (if v2 = 0 then ax_ex (e + 11) L_X11_personOf 12 [some (.inr (.inr (22, 0))), some (.inl v1), some (.inl v2), some (.inl 0), none] [] m n else (if v2 = 1 then ax_ex (e + 11) L_X11_personOf 17 [some (.inr (.inr (22, 0))), some (.inl v1), some (.inl v2), some (.inl 0), none] [] m n else (if v2 = 2 then ax_ex (e + 11) L_X11_personOf 21 [some (.inr (.inr (22, 0))), some (.inl v1), some (.inl v2), some (.inl 0), none] [] m n else (if v2 = 3 then ax_ex (e + 11) L_X11_personOf 25 [some (.inr (.inr (22, 0))), some (.inl v1), some (.inl v2), some (.inl 0), none] [] m n else (if v2 = 4 then ax_ex (e + 11) L_X11_personOf 42 [some (.inr (.inr (22, 0))), some (.inl v1), some (.inl v2), some (.inl 0), none] [] m n else ax_ex (e + 11) L_X11_personOf 47 [some (.inr (.inr (22, 0))), some (.inl v1), some (.inl v2), some (.inl 0), none] [] m n))))) := fun n => rfl
    by_cases c10 : v2 = 0
    · rw [if_pos c10] at h
      refine ax_go (j := 4) (k2 := 12) (lv2 := [some (.inr (.inr (22, 0))), some (.inl v1), some (.inl v2), some (.inl 0), none]) (st2 := []) (m2 := m) (fun n => (s9 n).trans (if_pos c10)) ?_
      have s12 : ∀ n, ax_ex (e + 11) L_X11_personOf 12 [some (.inr (.inr (22, 0))), some (.inl v1), some (.inl v2), some (.inl 0), none] [] m (n + 4) = if ax_ok v1 8 = true then ax_ex (e + 11) L_X11_personOf 16 [some (.inr (.inr (22, 0))), some (.inl v1), some (.inl v2), some (.inl 0), none] [.inl (m.1 24 0 v1.toNatClampNeg)] m n else none := fun n => rfl
      by_cases c11 : ax_ok v1 8 = true
      · rw [if_pos c11] at h
        refine ax_gt c11 s12 ?_
        obtain rfl := Option.some.inj h
        exact ax_rs 1 (fun n => rfl)
      · rw [if_neg c11] at h
        cases h
    · rw [if_neg c10] at h
      by_cases c13 : v2 = 1
      · rw [if_pos c13] at h
        refine ax_go (j := 4) (k2 := 17) (lv2 := [some (.inr (.inr (22, 0))), some (.inl v1), some (.inl v2), some (.inl 0), none]) (st2 := []) (m2 := m) (fun n => ((s9 n).trans (if_neg c10)).trans (if_pos c13)) ?_
        obtain ⟨r15, q14, h⟩ := ax_b_of h
        have s16 : ∀ n, ax_ex (e + 11) L_X11_personOf 17 [some (.inr (.inr (22, 0))), some (.inl v1), some (.inl v2), some (.inl 0), none] [] m (n + 3) = ax_aft (fun s m2 => ax_ex (e + 11) L_X11_personOf 20 [some (.inr (.inr (22, 0))), some (.inl v1), some (.inl v2), some (.inl 0), none] s m2 n) [] (ax_ex (e + 10) L_X11_allOwed 0 (ax_entry [.inr (.inr (22, 0)), .inl v1] 4) [] m n) := fun n => rfl
        refine ax_gci (j := 3) (k2 := 20) (lv2 := [some (.inr (.inr (22, 0))), some (.inl v1), some (.inl v2), some (.inl 0), none]) (rest := []) ((R_X11_allOwed (by omega) q14)) s16 ?_
        obtain rfl := Option.some.inj h
        exact ax_rs 1 (fun n => rfl)
      · rw [if_neg c13] at h
        by_cases c17 : v2 = 2
        · rw [if_pos c17] at h
          refine ax_go (j := 4) (k2 := 21) (lv2 := [some (.inr (.inr (22, 0))), some (.inl v1), some (.inl v2), some (.inl 0), none]) (st2 := []) (m2 := m) (fun n => (((s9 n).trans (if_neg c10)).trans (if_neg c13)).trans (if_pos c17)) ?_
          obtain ⟨r19, q18, h⟩ := ax_b_of h
          have s20 : ∀ n, ax_ex (e + 11) L_X11_personOf 21 [some (.inr (.inr (22, 0))), some (.inl v1), some (.inl v2), some (.inl 0), none] [] m (n + 3) = ax_aft (fun s m2 => ax_ex (e + 11) L_X11_personOf 24 [some (.inr (.inr (22, 0))), some (.inl v1), some (.inl v2), some (.inl 0), none] s m2 n) [] (ax_ex (e + 10) L_X11_owedTo 0 (ax_entry [.inr (.inr (22, 0)), .inl v1] 4) [] m n) := fun n => rfl
          refine ax_gci (j := 3) (k2 := 24) (lv2 := [some (.inr (.inr (22, 0))), some (.inl v1), some (.inl v2), some (.inl 0), none]) (rest := []) ((R_X11_owedTo (by omega) q18)) s20 ?_
          obtain rfl := Option.some.inj h
          exact ax_rs 1 (fun n => rfl)
        · rw [if_neg c17] at h
          by_cases c21 : v2 = 3
          · rw [if_pos c21] at h
            refine ax_go (j := 4) (k2 := 25) (lv2 := [some (.inr (.inr (22, 0))), some (.inl v1), some (.inl v2), some (.inl 0), none]) (st2 := []) (m2 := m) (fun n => ((((s9 n).trans (if_neg c10)).trans (if_neg c13)).trans (if_neg c17)).trans (if_pos c21)) ?_
            refine ax_go (j := 2) (k2 := 27) (lv2 := [some (.inr (.inr (22, 0))), some (.inl v1), some (.inl v2), some (.inl 0), some (.inl 0)]) (st2 := []) (m2 := m) (fun n => rfl) ?_
            refine ax_fg (lv2 := [some (.inr (.inr (22, 0))), some (.inl v1), none, some (.inl 0), some (.inl 0)]) ⟨rfl, rfl, rfl, rfl, trivial⟩ ?_
            refine R_X11_personOf_L27 _ m 0 0 _ h
          · rw [if_neg c21] at h
            by_cases c29 : v2 = 4
            · rw [if_pos c29] at h
              refine ax_go (j := 4) (k2 := 42) (lv2 := [some (.inr (.inr (22, 0))), some (.inl v1), some (.inl v2), some (.inl 0), none]) (st2 := []) (m2 := m) (fun n => (((((s9 n).trans (if_neg c10)).trans (if_neg c13)).trans (if_neg c17)).trans (if_neg c21)).trans (if_pos c29)) ?_
              obtain ⟨r31, q30, h⟩ := ax_b_of h
              have s35 : ∀ n, ax_ex (e + 11) L_X11_personOf 42 [some (.inr (.inr (22, 0))), some (.inl v1), some (.inl v2), some (.inl 0), none] [] m (n + 3) = ax_aft (fun s m2 => ax_ex (e + 11) L_X11_personOf 45 [some (.inr (.inr (22, 0))), some (.inl v1), some (.inl v2), some (.inl 0), none] s m2 n) [] (ax_ex (e + 10) L_X11_upOf 0 (ax_entry [.inr (.inr (22, 0)), .inl v1] 4) [] m n) := fun n => rfl
              refine ax_gci (j := 3) (k2 := 45) (lv2 := [some (.inr (.inr (22, 0))), some (.inl v1), some (.inl v2), some (.inl 0), none]) (rest := []) ((R_X11_upOf (by omega) q30)) s35 ?_
              obtain ⟨r33, q32, h⟩ := ax_b_of h
              have s34 : ∀ n, ax_ex (e + 11) L_X11_personOf 45 [some (.inr (.inr (22, 0))), some (.inl v1), some (.inl v2), some (.inl 0), none] [.inl r31] m (n + 1) = ax_aft (fun s m2 => ax_ex (e + 11) L_X11_personOf 46 [some (.inr (.inr (22, 0))), some (.inl v1), some (.inl v2), some (.inl 0), none] s m2 n) [] (ax_ex (e + 10) L_J6_bitCount_0f7a4 0 (ax_entry [.inl r31] 1) [] m n) := fun n => rfl
              refine ax_gci (j := 1) (k2 := 46) (lv2 := [some (.inr (.inr (22, 0))), some (.inl v1), some (.inl v2), some (.inl 0), none]) (rest := []) ((R_J6_bitCount_0f7a4 (by omega) q32)) s34 ?_
              obtain rfl := Option.some.inj h
              exact ax_rs 1 (fun n => rfl)
            · rw [if_neg c29] at h
              refine ax_go (j := 4) (k2 := 47) (lv2 := [some (.inr (.inr (22, 0))), some (.inl v1), some (.inl v2), some (.inl 0), none]) (st2 := []) (m2 := m) (fun n => ((((((s9 n).trans (if_neg c10)).trans (if_neg c13)).trans (if_neg c17)).trans (if_neg c21)).trans (if_neg c29))) ?_
              obtain ⟨r37, m38, q36, h⟩ := ax_b2_of h
              have s39 : ∀ n, ax_ex (e + 11) L_X11_personOf 47 [some (.inr (.inr (22, 0))), some (.inl v1), some (.inl v2), some (.inl 0), none] [] m (n + 3) = ax_aft (fun s m2 => ax_ex (e + 11) L_X11_personOf 50 [some (.inr (.inr (22, 0))), some (.inl v1), some (.inl v2), some (.inl 0), none] s m2 n) [] (ax_ex (e + 10) L_X11_no 0 (ax_entry [.inr (.inr (22, 0)), .inl (-2)] 2) [] m n) := fun n => rfl
              refine ax_gci (j := 3) (k2 := 50) (lv2 := [some (.inr (.inr (22, 0))), some (.inl v1), some (.inl v2), some (.inl 0), none]) (rest := []) ((R_X11_no (by omega) q36)) s39 ?_
              obtain rfl := Option.some.inj h
              exact ax_rs 1 (fun n => rfl)
def F_X11_debt (m : ax_M) (v1 : Int32) (v2 : Int32) : Option (Int32 × ax_M) := ax_b (F_X11_isOne m v1) (fun r2 => if r2 = 0 then (ax_b2 (F_X11_no m (-2)) (fun r6 m7 => some (r6, m7))) else (ax_b (F_X11_isOne m v2) (fun r10 => if r10 = 0 then (ax_b2 (F_X11_no m (-2)) (fun r14 m15 => some (r14, m15))) else (if ax_ok ((8 * v1) + v2) 64 = true then (some ((m.1 25 0 ((8 * v1) + v2).toNatClampNeg), m)) else (none)))))
set_option maxRecDepth 20000 in
set_option maxHeartbeats 4000000 in
theorem R_X11_debt {d : Nat} (hd : 3 ≤ d) {m : ax_M} {v1 : Int32} {v2 : Int32} {q : (Int32 × ax_M)} (h : F_X11_debt m v1 v2 = some q) : ax_Ru d L_X11_debt 0 (ax_entry [.inr (.inr (22, 0)), .inl v1, .inl v2] 3) [] m (some (.inl q.1), q.2) := by
  obtain ⟨e, rfl⟩ : ∃ e, d = e + 3 := ⟨d - 3, by omega⟩
  unfold F_X11_debt at h
  obtain ⟨r2, q1, h⟩ := ax_b_of h
  have s21 : ∀ n, ax_ex (e + 3) L_X11_debt 0 (ax_entry [.inr (.inr (22, 0)), .inl v1, .inl v2] 3) [] m (n + 3) = ax_aft (fun s m2 => ax_ex (e + 3) L_X11_debt 3 [some (.inr (.inr (22, 0))), some (.inl v1), some (.inl v2)] s m2 n) [] (ax_ex (e + 2) L_X11_isOne 0 (ax_entry [.inr (.inr (22, 0)), .inl v1] 2) [] m n) := fun n => rfl
  refine ax_gci (j := 3) (k2 := 3) (lv2 := [some (.inr (.inr (22, 0))), some (.inl v1), some (.inl v2)]) (rest := []) ((R_X11_isOne (by omega) q1)) s21 ?_
  have s4 : ∀ n, ax_ex (e + 3) L_X11_debt 3 [some (.inr (.inr (22, 0))), some (.inl v1), some (.inl v2)] [.inl r2] m (n + 1) = if r2 = 0 then ax_ex (e + 3) L_X11_debt 17 [some (.inr (.inr (22, 0))), some (.inl v1), some (.inl v2)] [] m n else ax_ex (e + 3) L_X11_debt 4 [some (.inr (.inr (22, 0))), some (.inl v1), some (.inl v2)] [] m n := fun n => rfl
  by_cases c3 : r2 = 0
  · rw [if_pos c3] at h
    refine ax_gt c3 s4 ?_
    obtain ⟨r6, m7, q5, h⟩ := ax_b2_of h
    have s8 : ∀ n, ax_ex (e + 3) L_X11_debt 17 [some (.inr (.inr (22, 0))), some (.inl v1), some (.inl v2)] [] m (n + 3) = ax_aft (fun s m2 => ax_ex (e + 3) L_X11_debt 20 [some (.inr (.inr (22, 0))), some (.inl v1), some (.inl v2)] s m2 n) [] (ax_ex (e + 2) L_X11_no 0 (ax_entry [.inr (.inr (22, 0)), .inl (-2)] 2) [] m n) := fun n => rfl
    refine ax_gci (j := 3) (k2 := 20) (lv2 := [some (.inr (.inr (22, 0))), some (.inl v1), some (.inl v2)]) (rest := []) ((R_X11_no (by omega) q5)) s8 ?_
    obtain rfl := Option.some.inj h
    exact ax_rs 1 (fun n => rfl)
  · rw [if_neg c3] at h
    refine ax_gf c3 s4 ?_
    obtain ⟨r10, q9, h⟩ := ax_b_of h
    have s20 : ∀ n, ax_ex (e + 3) L_X11_debt 4 [some (.inr (.inr (22, 0))), some (.inl v1), some (.inl v2)] [] m (n + 3) = ax_aft (fun s m2 => ax_ex (e + 3) L_X11_debt 7 [some (.inr (.inr (22, 0))), some (.inl v1), some (.inl v2)] s m2 n) [] (ax_ex (e + 2) L_X11_isOne 0 (ax_entry [.inr (.inr (22, 0)), .inl v2] 2) [] m n) := fun n => rfl
    refine ax_gci (j := 3) (k2 := 7) (lv2 := [some (.inr (.inr (22, 0))), some (.inl v1), some (.inl v2)]) (rest := []) ((R_X11_isOne (by omega) q9)) s20 ?_
    have s12 : ∀ n, ax_ex (e + 3) L_X11_debt 7 [some (.inr (.inr (22, 0))), some (.inl v1), some (.inl v2)] [.inl r10] m (n + 1) = if r10 = 0 then ax_ex (e + 3) L_X11_debt 17 [some (.inr (.inr (22, 0))), some (.inl v1), some (.inl v2)] [] m n else ax_ex (e + 3) L_X11_debt 8 [some (.inr (.inr (22, 0))), some (.inl v1), some (.inl v2)] [] m n := fun n => rfl
    by_cases c11 : r10 = 0
    · rw [if_pos c11] at h
      refine ax_gt c11 s12 ?_
      obtain ⟨r14, m15, q13, h⟩ := ax_b2_of h
      have s16 : ∀ n, ax_ex (e + 3) L_X11_debt 17 [some (.inr (.inr (22, 0))), some (.inl v1), some (.inl v2)] [] m (n + 3) = ax_aft (fun s m2 => ax_ex (e + 3) L_X11_debt 20 [some (.inr (.inr (22, 0))), some (.inl v1), some (.inl v2)] s m2 n) [] (ax_ex (e + 2) L_X11_no 0 (ax_entry [.inr (.inr (22, 0)), .inl (-2)] 2) [] m n) := fun n => rfl
      refine ax_gci (j := 3) (k2 := 20) (lv2 := [some (.inr (.inr (22, 0))), some (.inl v1), some (.inl v2)]) (rest := []) ((R_X11_no (by omega) q13)) s16 ?_
      obtain rfl := Option.some.inj h
      exact ax_rs 1 (fun n => rfl)
    · rw [if_neg c11] at h
      refine ax_gf c11 s12 ?_
      refine ax_go (j := 7) (k2 := 15) (lv2 := [some (.inr (.inr (22, 0))), some (.inl v1), some (.inl v2)]) (st2 := [.inl ((8 * v1) + v2), .inr (.inr (25, 0))]) (m2 := m) (fun n => rfl) ?_
      obtain ⟨y17, hy17⟩ : ∃ y : Int32, y = ((8 * v1) + v2) := ⟨_, rfl⟩
      rw [← hy17] at h ⊢
      have s19 : ∀ n, ax_ex (e + 3) L_X11_debt 15 [some (.inr (.inr (22, 0))), some (.inl v1), some (.inl v2)] [.inl y17, .inr (.inr (25, 0))] m (n + 1) = if ax_ok y17 64 = true then ax_ex (e + 3) L_X11_debt 16 [some (.inr (.inr (22, 0))), some (.inl v1), some (.inl v2)] [.inl (m.1 25 0 y17.toNatClampNeg)] m n else none := fun n => rfl
      by_cases c18 : ax_ok y17 64 = true
      · rw [if_pos c18] at h
        refine ax_gt c18 s19 ?_
        obtain rfl := Option.some.inj h
        exact ax_rs 2 (fun n => rfl)
      · rw [if_neg c18] at h
        cases h
def F_X11_isWall (m : ax_M) (v1 : Int32) : Option (Int32 × ax_M) := ax_b (F_X11_isCell v1) (fun r2 => if r2 = 0 then (ax_b2 (F_X11_no m (-2)) (fun r6 m7 => some (r6, m7))) else (if ax_ok v1 64 = true then (if (m.1 23 0 v1.toNatClampNeg) = 0 then (some (0, m)) else (some (1, m))) else (none)))
set_option maxRecDepth 20000 in
set_option maxHeartbeats 4000000 in
theorem R_X11_isWall {d : Nat} (hd : 3 ≤ d) {m : ax_M} {v1 : Int32} {q : (Int32 × ax_M)} (h : F_X11_isWall m v1 = some q) : ax_Ru d L_X11_isWall 0 (ax_entry [.inr (.inr (22, 0)), .inl v1] 2) [] m (some (.inl q.1), q.2) := by
  obtain ⟨e, rfl⟩ : ∃ e, d = e + 3 := ⟨d - 3, by omega⟩
  unfold F_X11_isWall at h
  obtain ⟨r2, q1, h⟩ := ax_b_of h
  have s13 : ∀ n, ax_ex (e + 3) L_X11_isWall 0 (ax_entry [.inr (.inr (22, 0)), .inl v1] 2) [] m (n + 2) = ax_aft (fun s m2 => ax_ex (e + 3) L_X11_isWall 2 [some (.inr (.inr (22, 0))), some (.inl v1)] s m2 n) [] (ax_ex (e + 2) L_X11_isCell 0 (ax_entry [.inl v1] 1) [] m n) := fun n => rfl
  refine ax_gci (j := 2) (k2 := 2) (lv2 := [some (.inr (.inr (22, 0))), some (.inl v1)]) (rest := []) ((R_X11_isCell (by omega) q1)) s13 ?_
  have s4 : ∀ n, ax_ex (e + 3) L_X11_isWall 2 [some (.inr (.inr (22, 0))), some (.inl v1)] [.inl r2] m (n + 1) = if r2 = 0 then ax_ex (e + 3) L_X11_isWall 12 [some (.inr (.inr (22, 0))), some (.inl v1)] [] m n else ax_ex (e + 3) L_X11_isWall 3 [some (.inr (.inr (22, 0))), some (.inl v1)] [] m n := fun n => rfl
  by_cases c3 : r2 = 0
  · rw [if_pos c3] at h
    refine ax_gt c3 s4 ?_
    obtain ⟨r6, m7, q5, h⟩ := ax_b2_of h
    have s8 : ∀ n, ax_ex (e + 3) L_X11_isWall 12 [some (.inr (.inr (22, 0))), some (.inl v1)] [] m (n + 3) = ax_aft (fun s m2 => ax_ex (e + 3) L_X11_isWall 15 [some (.inr (.inr (22, 0))), some (.inl v1)] s m2 n) [] (ax_ex (e + 2) L_X11_no 0 (ax_entry [.inr (.inr (22, 0)), .inl (-2)] 2) [] m n) := fun n => rfl
    refine ax_gci (j := 3) (k2 := 15) (lv2 := [some (.inr (.inr (22, 0))), some (.inl v1)]) (rest := []) ((R_X11_no (by omega) q5)) s8 ?_
    obtain rfl := Option.some.inj h
    exact ax_rs 1 (fun n => rfl)
  · rw [if_neg c3] at h
    refine ax_gf c3 s4 ?_
    have s10 : ∀ n, ax_ex (e + 3) L_X11_isWall 3 [some (.inr (.inr (22, 0))), some (.inl v1)] [] m (n + 4) = if ax_ok v1 64 = true then ax_ex (e + 3) L_X11_isWall 7 [some (.inr (.inr (22, 0))), some (.inl v1)] [.inl (m.1 23 0 v1.toNatClampNeg)] m n else none := fun n => rfl
    by_cases c9 : ax_ok v1 64 = true
    · rw [if_pos c9] at h
      refine ax_gt c9 s10 ?_
      have s12 : ∀ n, ax_ex (e + 3) L_X11_isWall 7 [some (.inr (.inr (22, 0))), some (.inl v1)] [.inl (m.1 23 0 v1.toNatClampNeg)] m (n + 1) = if (m.1 23 0 v1.toNatClampNeg) = 0 then ax_ex (e + 3) L_X11_isWall 10 [some (.inr (.inr (22, 0))), some (.inl v1)] [] m n else ax_ex (e + 3) L_X11_isWall 8 [some (.inr (.inr (22, 0))), some (.inl v1)] [] m n := fun n => rfl
      by_cases c11 : (m.1 23 0 v1.toNatClampNeg) = 0
      · rw [if_pos c11] at h
        refine ax_gt c11 s12 ?_
        obtain rfl := Option.some.inj h
        exact ax_rs 3 (fun n => rfl)
      · rw [if_neg c11] at h
        refine ax_gf c11 s12 ?_
        obtain rfl := Option.some.inj h
        exact ax_rs 3 (fun n => rfl)
    · rw [if_neg c9] at h
      cases h
