def F_X10_person (m : ax_M) (v1 : Int32) : Option (Int32 × ax_M) := ax_b (F_X0_isCell v1) (fun r2 => if r2 = 0 then (ax_b2 (F_X10_refuse m (-2)) (fun r6 m7 => some (r6, m7))) else (ax_b (F_X3_hasWall m 0 v1) (fun r10 => if r10 = 0 then (if (m.1 1 0 1) < 8 then (ax_b2 (F_X3_addPerson m 0 v1) (fun r16 m17 => some (r16, m17))) else (ax_b2 (F_X10_refuse m (-6)) (fun r20 m21 => some (r20, m21)))) else (ax_b2 (F_X10_refuse m (-2)) (fun r24 m25 => some (r24, m25))))))
set_option maxRecDepth 20000 in
set_option maxHeartbeats 4000000 in
theorem R_X10_person {d : Nat} (hd : 4 ≤ d) {m : ax_M} {v1 : Int32} {q : (Int32 × ax_M)} (h : F_X10_person m v1 = some q) : ax_Ru d L_X10_person 0 (ax_entry [.inr (.inr (0, 0)), .inl v1] 2) [] m (some (.inl q.1), q.2) := by
  obtain ⟨e, rfl⟩ : ∃ e, d = e + 4 := ⟨d - 4, by omega⟩
  unfold F_X10_person at h
  obtain ⟨r2, q1, h⟩ := ax_b_of h
  have s28 : ∀ n, ax_ex (e + 4) L_X10_person 0 (ax_entry [.inr (.inr (0, 0)), .inl v1] 2) [] m (n + 2) = ax_aft (fun s m2 => ax_ex (e + 4) L_X10_person 2 [some (.inr (.inr (0, 0))), some (.inl v1)] s m2 n) [] (ax_ex (e + 3) L_X0_isCell 0 (ax_entry [.inl v1] 1) [] m n) := fun n => rfl
  refine ax_gci (j := 2) (k2 := 2) (lv2 := [some (.inr (.inr (0, 0))), some (.inl v1)]) (rest := []) ((R_X0_isCell (by omega) q1)) s28 ?_
  have s4 : ∀ n, ax_ex (e + 4) L_X10_person 2 [some (.inr (.inr (0, 0))), some (.inl v1)] [.inl r2] m (n + 1) = if r2 = 0 then ax_ex (e + 4) L_X10_person 8 [some (.inr (.inr (0, 0))), some (.inl v1)] [] m n else ax_ex (e + 4) L_X10_person 3 [some (.inr (.inr (0, 0))), some (.inl v1)] [] m n := fun n => rfl
  by_cases c3 : r2 = 0
  · rw [if_pos c3] at h
    refine ax_gt c3 s4 ?_
    obtain ⟨r6, m7, q5, h⟩ := ax_b2_of h
    have s8 : ∀ n, ax_ex (e + 4) L_X10_person 8 [some (.inr (.inr (0, 0))), some (.inl v1)] [] m (n + 3) = ax_aft (fun s m2 => ax_ex (e + 4) L_X10_person 11 [some (.inr (.inr (0, 0))), some (.inl v1)] s m2 n) [] (ax_ex (e + 3) L_X10_refuse 0 (ax_entry [.inr (.inr (0, 0)), .inl (-2)] 3) [] m n) := fun n => rfl
    refine ax_gci (j := 3) (k2 := 11) (lv2 := [some (.inr (.inr (0, 0))), some (.inl v1)]) (rest := []) ((R_X10_refuse (by omega) q5)) s8 ?_
    obtain rfl := Option.some.inj h
    exact ax_rs 1 (fun n => rfl)
  · rw [if_neg c3] at h
    refine ax_gf c3 s4 ?_
    obtain ⟨r10, q9, h⟩ := ax_b_of h
    have s27 : ∀ n, ax_ex (e + 4) L_X10_person 3 [some (.inr (.inr (0, 0))), some (.inl v1)] [] m (n + 4) = ax_aft (fun s m2 => ax_ex (e + 4) L_X10_person 7 [some (.inr (.inr (0, 0))), some (.inl v1)] s m2 n) [] (ax_ex (e + 3) L_X3_hasWall 0 (ax_entry [.inr (.inr (1, 0)), .inl v1] 2) [] m n) := fun n => rfl
    refine ax_gci (j := 4) (k2 := 7) (lv2 := [some (.inr (.inr (0, 0))), some (.inl v1)]) (rest := []) ((R_X3_hasWall (by omega) q9)) s27 ?_
    have s12 : ∀ n, ax_ex (e + 4) L_X10_person 7 [some (.inr (.inr (0, 0))), some (.inl v1)] [.inl r10] m (n + 1) = if r10 = 0 then ax_ex (e + 4) L_X10_person 12 [some (.inr (.inr (0, 0))), some (.inl v1)] [] m n else ax_ex (e + 4) L_X10_person 8 [some (.inr (.inr (0, 0))), some (.inl v1)] [] m n := fun n => rfl
    by_cases c11 : r10 = 0
    · rw [if_pos c11] at h
      refine ax_gt c11 s12 ?_
      have s14 : ∀ n, ax_ex (e + 4) L_X10_person 12 [some (.inr (.inr (0, 0))), some (.inl v1)] [] m (n + 5) = if (m.1 1 0 1) < 8 then ax_ex (e + 4) L_X10_person 21 [some (.inr (.inr (0, 0))), some (.inl v1)] [] m n else ax_ex (e + 4) L_X10_person 17 [some (.inr (.inr (0, 0))), some (.inl v1)] [] m n := fun n => rfl
      by_cases c13 : (m.1 1 0 1) < 8
      · rw [if_pos c13] at h
        refine ax_gt c13 s14 ?_
        obtain ⟨r16, m17, q15, h⟩ := ax_b2_of h
        have s18 : ∀ n, ax_ex (e + 4) L_X10_person 21 [some (.inr (.inr (0, 0))), some (.inl v1)] [] m (n + 4) = ax_aft (fun s m2 => ax_ex (e + 4) L_X10_person 25 [some (.inr (.inr (0, 0))), some (.inl v1)] s m2 n) [] (ax_ex (e + 3) L_X3_addPerson 0 (ax_entry [.inr (.inr (1, 0)), .inl v1] 2) [] m n) := fun n => rfl
        refine ax_gci (j := 4) (k2 := 25) (lv2 := [some (.inr (.inr (0, 0))), some (.inl v1)]) (rest := []) ((R_X3_addPerson (by omega) q15)) s18 ?_
        obtain rfl := Option.some.inj h
        exact ax_rs 1 (fun n => rfl)
      · rw [if_neg c13] at h
        refine ax_gf c13 s14 ?_
        obtain ⟨r20, m21, q19, h⟩ := ax_b2_of h
        have s22 : ∀ n, ax_ex (e + 4) L_X10_person 17 [some (.inr (.inr (0, 0))), some (.inl v1)] [] m (n + 3) = ax_aft (fun s m2 => ax_ex (e + 4) L_X10_person 20 [some (.inr (.inr (0, 0))), some (.inl v1)] s m2 n) [] (ax_ex (e + 3) L_X10_refuse 0 (ax_entry [.inr (.inr (0, 0)), .inl (-6)] 3) [] m n) := fun n => rfl
        refine ax_gci (j := 3) (k2 := 20) (lv2 := [some (.inr (.inr (0, 0))), some (.inl v1)]) (rest := []) ((R_X10_refuse (by omega) q19)) s22 ?_
        obtain rfl := Option.some.inj h
        exact ax_rs 1 (fun n => rfl)
    · rw [if_neg c11] at h
      refine ax_gf c11 s12 ?_
      obtain ⟨r24, m25, q23, h⟩ := ax_b2_of h
      have s26 : ∀ n, ax_ex (e + 4) L_X10_person 8 [some (.inr (.inr (0, 0))), some (.inl v1)] [] m (n + 3) = ax_aft (fun s m2 => ax_ex (e + 4) L_X10_person 11 [some (.inr (.inr (0, 0))), some (.inl v1)] s m2 n) [] (ax_ex (e + 3) L_X10_refuse 0 (ax_entry [.inr (.inr (0, 0)), .inl (-2)] 3) [] m n) := fun n => rfl
      refine ax_gci (j := 3) (k2 := 11) (lv2 := [some (.inr (.inr (0, 0))), some (.inl v1)]) (rest := []) ((R_X10_refuse (by omega) q23)) s26 ?_
      obtain rfl := Option.some.inj h
      exact ax_rs 1 (fun n => rfl)
def F_X10_sow (m : ax_M) (v1 : Int32) (v2 : Int32) (v3 : Int32) (v4 : Int32) : Option (Int32 × ax_M) := ax_b (F_X6_isKind v1) (fun r2 => if r2 = 0 then (ax_b2 (F_X10_refuse m (-2)) (fun r6 m7 => some (r6, m7))) else (if v2 < 0 then (ax_b2 (F_X10_refuse m (-2)) (fun r12 m13 => some (r12, m13))) else (if 9 < v2 then (ax_b2 (F_X10_refuse m (-2)) (fun r18 m19 => some (r18, m19))) else (ax_b (F_X0_isCell v3) (fun r22 => if r22 = 0 then (ax_b2 (F_X10_refuse m (-2)) (fun r26 m27 => some (r26, m27))) else (ax_b (F_X3_isPerson m 0 v4) (fun r30 => if r30 = 0 then (ax_b2 (F_X10_refuse m (-2)) (fun r34 m35 => some (r34, m35))) else (if (m.1 1 0 4) < 16 then (ax_b2 (F_X3_addSeed m 0 v1 v2 v3 v4) (fun r40 m41 => some (r40, m41))) else (ax_b2 (F_X10_refuse m (-6)) (fun r44 m45 => some (r44, m45)))))))))))
set_option maxRecDepth 20000 in
set_option maxHeartbeats 4000000 in
theorem R_X10_sow {d : Nat} (hd : 3 ≤ d) {m : ax_M} {v1 : Int32} {v2 : Int32} {v3 : Int32} {v4 : Int32} {q : (Int32 × ax_M)} (h : F_X10_sow m v1 v2 v3 v4 = some q) : ax_Ru d L_X10_sow 0 (ax_entry [.inr (.inr (0, 0)), .inl v1, .inl v2, .inl v3, .inl v4] 5) [] m (some (.inl q.1), q.2) := by
  obtain ⟨e, rfl⟩ : ∃ e, d = e + 3 := ⟨d - 3, by omega⟩
  unfold F_X10_sow at h
  obtain ⟨r2, q1, h⟩ := ax_b_of h
  have s49 : ∀ n, ax_ex (e + 3) L_X10_sow 0 (ax_entry [.inr (.inr (0, 0)), .inl v1, .inl v2, .inl v3, .inl v4] 5) [] m (n + 2) = ax_aft (fun s m2 => ax_ex (e + 3) L_X10_sow 2 [some (.inr (.inr (0, 0))), some (.inl v1), some (.inl v2), some (.inl v3), some (.inl v4)] s m2 n) [] (ax_ex (e + 2) L_X6_isKind 0 (ax_entry [.inl v1] 1) [] m n) := fun n => rfl
  refine ax_gci (j := 2) (k2 := 2) (lv2 := [some (.inr (.inr (0, 0))), some (.inl v1), some (.inl v2), some (.inl v3), some (.inl v4)]) (rest := []) ((R_X6_isKind (by omega) q1)) s49 ?_
  have s4 : ∀ n, ax_ex (e + 3) L_X10_sow 2 [some (.inr (.inr (0, 0))), some (.inl v1), some (.inl v2), some (.inl v3), some (.inl v4)] [.inl r2] m (n + 1) = if r2 = 0 then ax_ex (e + 3) L_X10_sow 16 [some (.inr (.inr (0, 0))), some (.inl v1), some (.inl v2), some (.inl v3), some (.inl v4)] [] m n else ax_ex (e + 3) L_X10_sow 3 [some (.inr (.inr (0, 0))), some (.inl v1), some (.inl v2), some (.inl v3), some (.inl v4)] [] m n := fun n => rfl
  by_cases c3 : r2 = 0
  · rw [if_pos c3] at h
    refine ax_gt c3 s4 ?_
    obtain ⟨r6, m7, q5, h⟩ := ax_b2_of h
    have s8 : ∀ n, ax_ex (e + 3) L_X10_sow 16 [some (.inr (.inr (0, 0))), some (.inl v1), some (.inl v2), some (.inl v3), some (.inl v4)] [] m (n + 3) = ax_aft (fun s m2 => ax_ex (e + 3) L_X10_sow 19 [some (.inr (.inr (0, 0))), some (.inl v1), some (.inl v2), some (.inl v3), some (.inl v4)] s m2 n) [] (ax_ex (e + 2) L_X10_refuse 0 (ax_entry [.inr (.inr (0, 0)), .inl (-2)] 3) [] m n) := fun n => rfl
    refine ax_gci (j := 3) (k2 := 19) (lv2 := [some (.inr (.inr (0, 0))), some (.inl v1), some (.inl v2), some (.inl v3), some (.inl v4)]) (rest := []) ((R_X10_refuse (by omega) q5)) s8 ?_
    obtain rfl := Option.some.inj h
    exact ax_rs 1 (fun n => rfl)
  · rw [if_neg c3] at h
    refine ax_gf c3 s4 ?_
    have s10 : ∀ n, ax_ex (e + 3) L_X10_sow 3 [some (.inr (.inr (0, 0))), some (.inl v1), some (.inl v2), some (.inl v3), some (.inl v4)] [] m (n + 2) = if v2 < 0 then ax_ex (e + 3) L_X10_sow 16 [some (.inr (.inr (0, 0))), some (.inl v1), some (.inl v2), some (.inl v3), some (.inl v4)] [] m n else ax_ex (e + 3) L_X10_sow 5 [some (.inr (.inr (0, 0))), some (.inl v1), some (.inl v2), some (.inl v3), some (.inl v4)] [] m n := fun n => rfl
    by_cases c9 : v2 < 0
    · rw [if_pos c9] at h
      refine ax_gt c9 s10 ?_
      obtain ⟨r12, m13, q11, h⟩ := ax_b2_of h
      have s14 : ∀ n, ax_ex (e + 3) L_X10_sow 16 [some (.inr (.inr (0, 0))), some (.inl v1), some (.inl v2), some (.inl v3), some (.inl v4)] [] m (n + 3) = ax_aft (fun s m2 => ax_ex (e + 3) L_X10_sow 19 [some (.inr (.inr (0, 0))), some (.inl v1), some (.inl v2), some (.inl v3), some (.inl v4)] s m2 n) [] (ax_ex (e + 2) L_X10_refuse 0 (ax_entry [.inr (.inr (0, 0)), .inl (-2)] 3) [] m n) := fun n => rfl
      refine ax_gci (j := 3) (k2 := 19) (lv2 := [some (.inr (.inr (0, 0))), some (.inl v1), some (.inl v2), some (.inl v3), some (.inl v4)]) (rest := []) ((R_X10_refuse (by omega) q11)) s14 ?_
      obtain rfl := Option.some.inj h
      exact ax_rs 1 (fun n => rfl)
    · rw [if_neg c9] at h
      refine ax_gf c9 s10 ?_
      have s16 : ∀ n, ax_ex (e + 3) L_X10_sow 5 [some (.inr (.inr (0, 0))), some (.inl v1), some (.inl v2), some (.inl v3), some (.inl v4)] [] m (n + 3) = if 9 < v2 then ax_ex (e + 3) L_X10_sow 16 [some (.inr (.inr (0, 0))), some (.inl v1), some (.inl v2), some (.inl v3), some (.inl v4)] [] m n else ax_ex (e + 3) L_X10_sow 8 [some (.inr (.inr (0, 0))), some (.inl v1), some (.inl v2), some (.inl v3), some (.inl v4)] [] m n := fun n => rfl
      by_cases c15 : 9 < v2
      · rw [if_pos c15] at h
        refine ax_gt c15 s16 ?_
        obtain ⟨r18, m19, q17, h⟩ := ax_b2_of h
        have s20 : ∀ n, ax_ex (e + 3) L_X10_sow 16 [some (.inr (.inr (0, 0))), some (.inl v1), some (.inl v2), some (.inl v3), some (.inl v4)] [] m (n + 3) = ax_aft (fun s m2 => ax_ex (e + 3) L_X10_sow 19 [some (.inr (.inr (0, 0))), some (.inl v1), some (.inl v2), some (.inl v3), some (.inl v4)] s m2 n) [] (ax_ex (e + 2) L_X10_refuse 0 (ax_entry [.inr (.inr (0, 0)), .inl (-2)] 3) [] m n) := fun n => rfl
        refine ax_gci (j := 3) (k2 := 19) (lv2 := [some (.inr (.inr (0, 0))), some (.inl v1), some (.inl v2), some (.inl v3), some (.inl v4)]) (rest := []) ((R_X10_refuse (by omega) q17)) s20 ?_
        obtain rfl := Option.some.inj h
        exact ax_rs 1 (fun n => rfl)
      · rw [if_neg c15] at h
        refine ax_gf c15 s16 ?_
        obtain ⟨r22, q21, h⟩ := ax_b_of h
        have s48 : ∀ n, ax_ex (e + 3) L_X10_sow 8 [some (.inr (.inr (0, 0))), some (.inl v1), some (.inl v2), some (.inl v3), some (.inl v4)] [] m (n + 2) = ax_aft (fun s m2 => ax_ex (e + 3) L_X10_sow 10 [some (.inr (.inr (0, 0))), some (.inl v1), some (.inl v2), some (.inl v3), some (.inl v4)] s m2 n) [] (ax_ex (e + 2) L_X0_isCell 0 (ax_entry [.inl v3] 1) [] m n) := fun n => rfl
        refine ax_gci (j := 2) (k2 := 10) (lv2 := [some (.inr (.inr (0, 0))), some (.inl v1), some (.inl v2), some (.inl v3), some (.inl v4)]) (rest := []) ((R_X0_isCell (by omega) q21)) s48 ?_
        have s24 : ∀ n, ax_ex (e + 3) L_X10_sow 10 [some (.inr (.inr (0, 0))), some (.inl v1), some (.inl v2), some (.inl v3), some (.inl v4)] [.inl r22] m (n + 1) = if r22 = 0 then ax_ex (e + 3) L_X10_sow 16 [some (.inr (.inr (0, 0))), some (.inl v1), some (.inl v2), some (.inl v3), some (.inl v4)] [] m n else ax_ex (e + 3) L_X10_sow 11 [some (.inr (.inr (0, 0))), some (.inl v1), some (.inl v2), some (.inl v3), some (.inl v4)] [] m n := fun n => rfl
        by_cases c23 : r22 = 0
        · rw [if_pos c23] at h
          refine ax_gt c23 s24 ?_
          obtain ⟨r26, m27, q25, h⟩ := ax_b2_of h
          have s28 : ∀ n, ax_ex (e + 3) L_X10_sow 16 [some (.inr (.inr (0, 0))), some (.inl v1), some (.inl v2), some (.inl v3), some (.inl v4)] [] m (n + 3) = ax_aft (fun s m2 => ax_ex (e + 3) L_X10_sow 19 [some (.inr (.inr (0, 0))), some (.inl v1), some (.inl v2), some (.inl v3), some (.inl v4)] s m2 n) [] (ax_ex (e + 2) L_X10_refuse 0 (ax_entry [.inr (.inr (0, 0)), .inl (-2)] 3) [] m n) := fun n => rfl
          refine ax_gci (j := 3) (k2 := 19) (lv2 := [some (.inr (.inr (0, 0))), some (.inl v1), some (.inl v2), some (.inl v3), some (.inl v4)]) (rest := []) ((R_X10_refuse (by omega) q25)) s28 ?_
          obtain rfl := Option.some.inj h
          exact ax_rs 1 (fun n => rfl)
        · rw [if_neg c23] at h
          refine ax_gf c23 s24 ?_
          obtain ⟨r30, q29, h⟩ := ax_b_of h
          have s47 : ∀ n, ax_ex (e + 3) L_X10_sow 11 [some (.inr (.inr (0, 0))), some (.inl v1), some (.inl v2), some (.inl v3), some (.inl v4)] [] m (n + 4) = ax_aft (fun s m2 => ax_ex (e + 3) L_X10_sow 15 [some (.inr (.inr (0, 0))), some (.inl v1), some (.inl v2), some (.inl v3), some (.inl v4)] s m2 n) [] (ax_ex (e + 2) L_X3_isPerson 0 (ax_entry [.inr (.inr (1, 0)), .inl v4] 2) [] m n) := fun n => rfl
          refine ax_gci (j := 4) (k2 := 15) (lv2 := [some (.inr (.inr (0, 0))), some (.inl v1), some (.inl v2), some (.inl v3), some (.inl v4)]) (rest := []) ((R_X3_isPerson (by omega) q29)) s47 ?_
          have s32 : ∀ n, ax_ex (e + 3) L_X10_sow 15 [some (.inr (.inr (0, 0))), some (.inl v1), some (.inl v2), some (.inl v3), some (.inl v4)] [.inl r30] m (n + 1) = if r30 = 0 then ax_ex (e + 3) L_X10_sow 16 [some (.inr (.inr (0, 0))), some (.inl v1), some (.inl v2), some (.inl v3), some (.inl v4)] [] m n else ax_ex (e + 3) L_X10_sow 20 [some (.inr (.inr (0, 0))), some (.inl v1), some (.inl v2), some (.inl v3), some (.inl v4)] [] m n := fun n => rfl
          by_cases c31 : r30 = 0
          · rw [if_pos c31] at h
            refine ax_gt c31 s32 ?_
            obtain ⟨r34, m35, q33, h⟩ := ax_b2_of h
            have s36 : ∀ n, ax_ex (e + 3) L_X10_sow 16 [some (.inr (.inr (0, 0))), some (.inl v1), some (.inl v2), some (.inl v3), some (.inl v4)] [] m (n + 3) = ax_aft (fun s m2 => ax_ex (e + 3) L_X10_sow 19 [some (.inr (.inr (0, 0))), some (.inl v1), some (.inl v2), some (.inl v3), some (.inl v4)] s m2 n) [] (ax_ex (e + 2) L_X10_refuse 0 (ax_entry [.inr (.inr (0, 0)), .inl (-2)] 3) [] m n) := fun n => rfl
            refine ax_gci (j := 3) (k2 := 19) (lv2 := [some (.inr (.inr (0, 0))), some (.inl v1), some (.inl v2), some (.inl v3), some (.inl v4)]) (rest := []) ((R_X10_refuse (by omega) q33)) s36 ?_
            obtain rfl := Option.some.inj h
            exact ax_rs 1 (fun n => rfl)
          · rw [if_neg c31] at h
            refine ax_gf c31 s32 ?_
            have s38 : ∀ n, ax_ex (e + 3) L_X10_sow 20 [some (.inr (.inr (0, 0))), some (.inl v1), some (.inl v2), some (.inl v3), some (.inl v4)] [] m (n + 5) = if (m.1 1 0 4) < 16 then ax_ex (e + 3) L_X10_sow 29 [some (.inr (.inr (0, 0))), some (.inl v1), some (.inl v2), some (.inl v3), some (.inl v4)] [] m n else ax_ex (e + 3) L_X10_sow 25 [some (.inr (.inr (0, 0))), some (.inl v1), some (.inl v2), some (.inl v3), some (.inl v4)] [] m n := fun n => rfl
            by_cases c37 : (m.1 1 0 4) < 16
            · rw [if_pos c37] at h
              refine ax_gt c37 s38 ?_
              obtain ⟨r40, m41, q39, h⟩ := ax_b2_of h
              have s42 : ∀ n, ax_ex (e + 3) L_X10_sow 29 [some (.inr (.inr (0, 0))), some (.inl v1), some (.inl v2), some (.inl v3), some (.inl v4)] [] m (n + 7) = ax_aft (fun s m2 => ax_ex (e + 3) L_X10_sow 36 [some (.inr (.inr (0, 0))), some (.inl v1), some (.inl v2), some (.inl v3), some (.inl v4)] s m2 n) [] (ax_ex (e + 2) L_X3_addSeed 0 (ax_entry [.inr (.inr (1, 0)), .inl v1, .inl v2, .inl v3, .inl v4] 5) [] m n) := fun n => rfl
              refine ax_gci (j := 7) (k2 := 36) (lv2 := [some (.inr (.inr (0, 0))), some (.inl v1), some (.inl v2), some (.inl v3), some (.inl v4)]) (rest := []) ((R_X3_addSeed (by omega) q39)) s42 ?_
              obtain rfl := Option.some.inj h
              exact ax_rs 1 (fun n => rfl)
            · rw [if_neg c37] at h
              refine ax_gf c37 s38 ?_
              obtain ⟨r44, m45, q43, h⟩ := ax_b2_of h
              have s46 : ∀ n, ax_ex (e + 3) L_X10_sow 25 [some (.inr (.inr (0, 0))), some (.inl v1), some (.inl v2), some (.inl v3), some (.inl v4)] [] m (n + 3) = ax_aft (fun s m2 => ax_ex (e + 3) L_X10_sow 28 [some (.inr (.inr (0, 0))), some (.inl v1), some (.inl v2), some (.inl v3), some (.inl v4)] s m2 n) [] (ax_ex (e + 2) L_X10_refuse 0 (ax_entry [.inr (.inr (0, 0)), .inl (-6)] 3) [] m n) := fun n => rfl
              refine ax_gci (j := 3) (k2 := 28) (lv2 := [some (.inr (.inr (0, 0))), some (.inl v1), some (.inl v2), some (.inl v3), some (.inl v4)]) (rest := []) ((R_X10_refuse (by omega) q43)) s46 ?_
              obtain rfl := Option.some.inj h
              exact ax_rs 1 (fun n => rfl)
def F_X10_isPair (m : ax_M) (v1 : Int32) (v2 : Int32) : Option Int32 := ax_b (F_X3_isPerson m 0 v1) (fun r2 => if r2 = 0 then (some 0) else (ax_b (F_X3_isPerson m 0 v2) (fun r6 => if r6 = 0 then (some 0) else (if v1 = v2 then (some 0) else (some 1)))))
set_option maxRecDepth 20000 in
set_option maxHeartbeats 4000000 in
theorem R_X10_isPair {d : Nat} (hd : 2 ≤ d) {m : ax_M} {v1 : Int32} {v2 : Int32} {q : Int32} (h : F_X10_isPair m v1 v2 = some q) : ax_Ru d L_X10_isPair 0 (ax_entry [.inr (.inr (0, 0)), .inl v1, .inl v2] 3) [] m (some (.inl q), m) := by
  obtain ⟨e, rfl⟩ : ∃ e, d = e + 2 := ⟨d - 2, by omega⟩
  unfold F_X10_isPair at h
  obtain ⟨r2, q1, h⟩ := ax_b_of h
  have s12 : ∀ n, ax_ex (e + 2) L_X10_isPair 0 (ax_entry [.inr (.inr (0, 0)), .inl v1, .inl v2] 3) [] m (n + 4) = ax_aft (fun s m2 => ax_ex (e + 2) L_X10_isPair 4 [some (.inr (.inr (0, 0))), some (.inl v1), some (.inl v2)] s m2 n) [] (ax_ex (e + 1) L_X3_isPerson 0 (ax_entry [.inr (.inr (1, 0)), .inl v1] 2) [] m n) := fun n => rfl
  refine ax_gci (j := 4) (k2 := 4) (lv2 := [some (.inr (.inr (0, 0))), some (.inl v1), some (.inl v2)]) (rest := []) ((R_X3_isPerson (by omega) q1)) s12 ?_
  have s4 : ∀ n, ax_ex (e + 2) L_X10_isPair 4 [some (.inr (.inr (0, 0))), some (.inl v1), some (.inl v2)] [.inl r2] m (n + 1) = if r2 = 0 then ax_ex (e + 2) L_X10_isPair 15 [some (.inr (.inr (0, 0))), some (.inl v1), some (.inl v2)] [] m n else ax_ex (e + 2) L_X10_isPair 5 [some (.inr (.inr (0, 0))), some (.inl v1), some (.inl v2)] [] m n := fun n => rfl
  by_cases c3 : r2 = 0
  · rw [if_pos c3] at h
    refine ax_gt c3 s4 ?_
    obtain rfl := Option.some.inj h
    exact ax_rq (c := (0 : Int32) = 0 ∨ (0 : Int32) = 1) (j := 2) (by decide) (fun n => rfl)
  · rw [if_neg c3] at h
    refine ax_gf c3 s4 ?_
    obtain ⟨r6, q5, h⟩ := ax_b_of h
    have s11 : ∀ n, ax_ex (e + 2) L_X10_isPair 5 [some (.inr (.inr (0, 0))), some (.inl v1), some (.inl v2)] [] m (n + 4) = ax_aft (fun s m2 => ax_ex (e + 2) L_X10_isPair 9 [some (.inr (.inr (0, 0))), some (.inl v1), some (.inl v2)] s m2 n) [] (ax_ex (e + 1) L_X3_isPerson 0 (ax_entry [.inr (.inr (1, 0)), .inl v2] 2) [] m n) := fun n => rfl
    refine ax_gci (j := 4) (k2 := 9) (lv2 := [some (.inr (.inr (0, 0))), some (.inl v1), some (.inl v2)]) (rest := []) ((R_X3_isPerson (by omega) q5)) s11 ?_
    have s8 : ∀ n, ax_ex (e + 2) L_X10_isPair 9 [some (.inr (.inr (0, 0))), some (.inl v1), some (.inl v2)] [.inl r6] m (n + 1) = if r6 = 0 then ax_ex (e + 2) L_X10_isPair 15 [some (.inr (.inr (0, 0))), some (.inl v1), some (.inl v2)] [] m n else ax_ex (e + 2) L_X10_isPair 10 [some (.inr (.inr (0, 0))), some (.inl v1), some (.inl v2)] [] m n := fun n => rfl
    by_cases c7 : r6 = 0
    · rw [if_pos c7] at h
      refine ax_gt c7 s8 ?_
      obtain rfl := Option.some.inj h
      exact ax_rq (c := (0 : Int32) = 0 ∨ (0 : Int32) = 1) (j := 2) (by decide) (fun n => rfl)
    · rw [if_neg c7] at h
      refine ax_gf c7 s8 ?_
      have s10 : ∀ n, ax_ex (e + 2) L_X10_isPair 10 [some (.inr (.inr (0, 0))), some (.inl v1), some (.inl v2)] [] m (n + 3) = if v1 = v2 then ax_ex (e + 2) L_X10_isPair 15 [some (.inr (.inr (0, 0))), some (.inl v1), some (.inl v2)] [] m n else ax_ex (e + 2) L_X10_isPair 13 [some (.inr (.inr (0, 0))), some (.inl v1), some (.inl v2)] [] m n := fun n => rfl
      by_cases c9 : v1 = v2
      · rw [if_pos c9] at h
        refine ax_gt c9 s10 ?_
        obtain rfl := Option.some.inj h
        exact ax_rq (c := (0 : Int32) = 0 ∨ (0 : Int32) = 1) (j := 2) (by decide) (fun n => rfl)
      · rw [if_neg c9] at h
        refine ax_gf c9 s10 ?_
        obtain rfl := Option.some.inj h
        exact ax_rq (c := (1 : Int32) = 0 ∨ (1 : Int32) = 1) (j := 3) (by decide) (fun n => rfl)
def F_X10_owes (m : ax_M) (v1 : Int32) (v2 : Int32) (v3 : Int32) : Option (Int32 × ax_M) := ax_b (F_X10_isPair m v1 v2) (fun r2 => if r2 = 0 then (ax_b2 (F_X10_refuse m (-2)) (fun r6 m7 => some (r6, m7))) else (if v3 < 0 then (ax_b2 (F_X10_refuse m (-2)) (fun r12 m13 => some (r12, m13))) else (if v3 ≤ 999 then (ax_b (F_X2_of m 0 v1 v2) (fun r18 => ax_b (F_X2_put m 0 v1 v2 v3) (fun m21 => some (r18, m21)))) else (ax_b2 (F_X10_refuse m (-2)) (fun r25 m26 => some (r25, m26))))))
set_option maxRecDepth 20000 in
set_option maxHeartbeats 4000000 in
theorem R_X10_owes {d : Nat} (hd : 3 ≤ d) {m : ax_M} {v1 : Int32} {v2 : Int32} {v3 : Int32} {q : (Int32 × ax_M)} (h : F_X10_owes m v1 v2 v3 = some q) : ax_Ru d L_X10_owes 0 (ax_entry [.inr (.inr (0, 0)), .inl v1, .inl v2, .inl v3] 5) [] m (some (.inl q.1), q.2) := by
  obtain ⟨e, rfl⟩ : ∃ e, d = e + 3 := ⟨d - 3, by omega⟩
  unfold F_X10_owes at h
  obtain ⟨r2, q1, h⟩ := ax_b_of h
  have s28 : ∀ n, ax_ex (e + 3) L_X10_owes 0 (ax_entry [.inr (.inr (0, 0)), .inl v1, .inl v2, .inl v3] 5) [] m (n + 4) = ax_aft (fun s m2 => ax_ex (e + 3) L_X10_owes 4 [some (.inr (.inr (0, 0))), some (.inl v1), some (.inl v2), some (.inl v3), none] s m2 n) [] (ax_ex (e + 2) L_X10_isPair 0 (ax_entry [.inr (.inr (0, 0)), .inl v1, .inl v2] 3) [] m n) := fun n => rfl
  refine ax_gci (j := 4) (k2 := 4) (lv2 := [some (.inr (.inr (0, 0))), some (.inl v1), some (.inl v2), some (.inl v3), none]) (rest := []) ((R_X10_isPair (by omega) q1)) s28 ?_
  have s4 : ∀ n, ax_ex (e + 3) L_X10_owes 4 [some (.inr (.inr (0, 0))), some (.inl v1), some (.inl v2), some (.inl v3), none] [.inl r2] m (n + 1) = if r2 = 0 then ax_ex (e + 3) L_X10_owes 10 [some (.inr (.inr (0, 0))), some (.inl v1), some (.inl v2), some (.inl v3), none] [] m n else ax_ex (e + 3) L_X10_owes 5 [some (.inr (.inr (0, 0))), some (.inl v1), some (.inl v2), some (.inl v3), none] [] m n := fun n => rfl
  by_cases c3 : r2 = 0
  · rw [if_pos c3] at h
    refine ax_gt c3 s4 ?_
    obtain ⟨r6, m7, q5, h⟩ := ax_b2_of h
    have s8 : ∀ n, ax_ex (e + 3) L_X10_owes 10 [some (.inr (.inr (0, 0))), some (.inl v1), some (.inl v2), some (.inl v3), none] [] m (n + 3) = ax_aft (fun s m2 => ax_ex (e + 3) L_X10_owes 13 [some (.inr (.inr (0, 0))), some (.inl v1), some (.inl v2), some (.inl v3), none] s m2 n) [] (ax_ex (e + 2) L_X10_refuse 0 (ax_entry [.inr (.inr (0, 0)), .inl (-2)] 3) [] m n) := fun n => rfl
    refine ax_gci (j := 3) (k2 := 13) (lv2 := [some (.inr (.inr (0, 0))), some (.inl v1), some (.inl v2), some (.inl v3), none]) (rest := []) ((R_X10_refuse (by omega) q5)) s8 ?_
    obtain rfl := Option.some.inj h
    exact ax_rs 1 (fun n => rfl)
  · rw [if_neg c3] at h
    refine ax_gf c3 s4 ?_
    have s10 : ∀ n, ax_ex (e + 3) L_X10_owes 5 [some (.inr (.inr (0, 0))), some (.inl v1), some (.inl v2), some (.inl v3), none] [] m (n + 2) = if v3 < 0 then ax_ex (e + 3) L_X10_owes 10 [some (.inr (.inr (0, 0))), some (.inl v1), some (.inl v2), some (.inl v3), none] [] m n else ax_ex (e + 3) L_X10_owes 7 [some (.inr (.inr (0, 0))), some (.inl v1), some (.inl v2), some (.inl v3), none] [] m n := fun n => rfl
    by_cases c9 : v3 < 0
    · rw [if_pos c9] at h
      refine ax_gt c9 s10 ?_
      obtain ⟨r12, m13, q11, h⟩ := ax_b2_of h
      have s14 : ∀ n, ax_ex (e + 3) L_X10_owes 10 [some (.inr (.inr (0, 0))), some (.inl v1), some (.inl v2), some (.inl v3), none] [] m (n + 3) = ax_aft (fun s m2 => ax_ex (e + 3) L_X10_owes 13 [some (.inr (.inr (0, 0))), some (.inl v1), some (.inl v2), some (.inl v3), none] s m2 n) [] (ax_ex (e + 2) L_X10_refuse 0 (ax_entry [.inr (.inr (0, 0)), .inl (-2)] 3) [] m n) := fun n => rfl
      refine ax_gci (j := 3) (k2 := 13) (lv2 := [some (.inr (.inr (0, 0))), some (.inl v1), some (.inl v2), some (.inl v3), none]) (rest := []) ((R_X10_refuse (by omega) q11)) s14 ?_
      obtain rfl := Option.some.inj h
      exact ax_rs 1 (fun n => rfl)
    · rw [if_neg c9] at h
      refine ax_gf c9 s10 ?_
      have s16 : ∀ n, ax_ex (e + 3) L_X10_owes 7 [some (.inr (.inr (0, 0))), some (.inl v1), some (.inl v2), some (.inl v3), none] [] m (n + 3) = if v3 ≤ 999 then ax_ex (e + 3) L_X10_owes 14 [some (.inr (.inr (0, 0))), some (.inl v1), some (.inl v2), some (.inl v3), none] [] m n else ax_ex (e + 3) L_X10_owes 10 [some (.inr (.inr (0, 0))), some (.inl v1), some (.inl v2), some (.inl v3), none] [] m n := fun n => rfl
      by_cases c15 : v3 ≤ 999
      · rw [if_pos c15] at h
        refine ax_gt c15 s16 ?_
        obtain ⟨r18, q17, h⟩ := ax_b_of h
        have s23 : ∀ n, ax_ex (e + 3) L_X10_owes 14 [some (.inr (.inr (0, 0))), some (.inl v1), some (.inl v2), some (.inl v3), none] [] m (n + 6) = ax_aft (fun s m2 => ax_ex (e + 3) L_X10_owes 20 [some (.inr (.inr (0, 0))), some (.inl v1), some (.inl v2), some (.inl v3), none] s m2 n) [] (ax_ex (e + 2) L_X2_of 0 (ax_entry [.inr (.inr (3, 0)), .inl v1, .inl v2] 3) [] m n) := fun n => rfl
        refine ax_gci (j := 6) (k2 := 20) (lv2 := [some (.inr (.inr (0, 0))), some (.inl v1), some (.inl v2), some (.inl v3), none]) (rest := []) ((R_X2_of (by omega) q17)) s23 ?_
        obtain ⟨m21, q19, h⟩ := ax_b_of h
        have s22 : ∀ n, ax_ex (e + 3) L_X10_owes 20 [some (.inr (.inr (0, 0))), some (.inl v1), some (.inl v2), some (.inl v3), none] [.inl r18] m (n + 8) = ax_aft (fun s m2 => ax_ex (e + 3) L_X10_owes 28 [some (.inr (.inr (0, 0))), some (.inl v1), some (.inl v2), some (.inl v3), some (.inl r18)] s m2 n) [] (ax_ex (e + 2) L_X2_put 0 (ax_entry [.inr (.inr (3, 0)), .inl v1, .inl v2, .inl v3] 4) [] m n) := fun n => rfl
        refine ax_gcv (j := 8) (k2 := 28) (lv2 := [some (.inr (.inr (0, 0))), some (.inl v1), some (.inl v2), some (.inl v3), some (.inl r18)]) (rest := []) ((R_X2_put (by omega) q19)) s22 ?_
        obtain rfl := Option.some.inj h
        exact ax_rs 2 (fun n => rfl)
      · rw [if_neg c15] at h
        refine ax_gf c15 s16 ?_
        obtain ⟨r25, m26, q24, h⟩ := ax_b2_of h
        have s27 : ∀ n, ax_ex (e + 3) L_X10_owes 10 [some (.inr (.inr (0, 0))), some (.inl v1), some (.inl v2), some (.inl v3), none] [] m (n + 3) = ax_aft (fun s m2 => ax_ex (e + 3) L_X10_owes 13 [some (.inr (.inr (0, 0))), some (.inl v1), some (.inl v2), some (.inl v3), none] s m2 n) [] (ax_ex (e + 2) L_X10_refuse 0 (ax_entry [.inr (.inr (0, 0)), .inl (-2)] 3) [] m n) := fun n => rfl
        refine ax_gci (j := 3) (k2 := 13) (lv2 := [some (.inr (.inr (0, 0))), some (.inl v1), some (.inl v2), some (.inl v3), none]) (rest := []) ((R_X10_refuse (by omega) q24)) s27 ?_
        obtain rfl := Option.some.inj h
        exact ax_rs 1 (fun n => rfl)
def F_X10_feed (m : ax_M) (v1 : Int32) : Option (Int32 × ax_M) := if v1 < 0 then (ax_b2 (F_X10_refuse m (-2)) (fun r4 m5 => some (r4, m5))) else (if v1 ≤ 255 then (ax_b (F_X8_isFull m) (fun r10 => if r10 = 0 then (ax_b (F_X8_add m v1) (fun m15 => some ((m15.1 10 0 1), m15))) else (ax_b2 (F_X10_refuse m (-6)) (fun r18 m19 => some (r18, m19))))) else (ax_b2 (F_X10_refuse m (-2)) (fun r23 m24 => some (r23, m24))))
set_option maxRecDepth 20000 in
set_option maxHeartbeats 4000000 in
theorem R_X10_feed {d : Nat} (hd : 2 ≤ d) {m : ax_M} {v1 : Int32} {q : (Int32 × ax_M)} (h : F_X10_feed m v1 = some q) : ax_Ru d L_X10_feed 0 (ax_entry [.inr (.inr (0, 0)), .inl v1] 2) [] m (some (.inl q.1), q.2) := by
  obtain ⟨e, rfl⟩ : ∃ e, d = e + 2 := ⟨d - 2, by omega⟩
  unfold F_X10_feed at h
  have s2 : ∀ n, ax_ex (e + 2) L_X10_feed 0 (ax_entry [.inr (.inr (0, 0)), .inl v1] 2) [] m (n + 2) = if v1 < 0 then ax_ex (e + 2) L_X10_feed 5 [some (.inr (.inr (0, 0))), some (.inl v1)] [] m n else ax_ex (e + 2) L_X10_feed 2 [some (.inr (.inr (0, 0))), some (.inl v1)] [] m n := fun n => rfl
  by_cases c1 : v1 < 0
  · rw [if_pos c1] at h
    refine ax_gt c1 s2 ?_
    obtain ⟨r4, m5, q3, h⟩ := ax_b2_of h
    have s6 : ∀ n, ax_ex (e + 2) L_X10_feed 5 [some (.inr (.inr (0, 0))), some (.inl v1)] [] m (n + 3) = ax_aft (fun s m2 => ax_ex (e + 2) L_X10_feed 8 [some (.inr (.inr (0, 0))), some (.inl v1)] s m2 n) [] (ax_ex (e + 1) L_X10_refuse 0 (ax_entry [.inr (.inr (0, 0)), .inl (-2)] 3) [] m n) := fun n => rfl
    refine ax_gci (j := 3) (k2 := 8) (lv2 := [some (.inr (.inr (0, 0))), some (.inl v1)]) (rest := []) ((R_X10_refuse (by omega) q3)) s6 ?_
    obtain rfl := Option.some.inj h
    exact ax_rs 1 (fun n => rfl)
  · rw [if_neg c1] at h
    refine ax_gf c1 s2 ?_
    have s8 : ∀ n, ax_ex (e + 2) L_X10_feed 2 [some (.inr (.inr (0, 0))), some (.inl v1)] [] m (n + 3) = if v1 ≤ 255 then ax_ex (e + 2) L_X10_feed 9 [some (.inr (.inr (0, 0))), some (.inl v1)] [] m n else ax_ex (e + 2) L_X10_feed 5 [some (.inr (.inr (0, 0))), some (.inl v1)] [] m n := fun n => rfl
    by_cases c7 : v1 ≤ 255
    · rw [if_pos c7] at h
      refine ax_gt c7 s8 ?_
      obtain ⟨r10, q9, h⟩ := ax_b_of h
      have s21 : ∀ n, ax_ex (e + 2) L_X10_feed 9 [some (.inr (.inr (0, 0))), some (.inl v1)] [] m (n + 4) = ax_aft (fun s m2 => ax_ex (e + 2) L_X10_feed 13 [some (.inr (.inr (0, 0))), some (.inl v1)] s m2 n) [] (ax_ex (e + 1) L_X8_isFull 0 (ax_entry [.inr (.inr (10, 0))] 1) [] m n) := fun n => rfl
      refine ax_gci (j := 4) (k2 := 13) (lv2 := [some (.inr (.inr (0, 0))), some (.inl v1)]) (rest := []) ((R_X8_isFull (by omega) q9)) s21 ?_
      have s12 : ∀ n, ax_ex (e + 2) L_X10_feed 13 [some (.inr (.inr (0, 0))), some (.inl v1)] [.inl r10] m (n + 1) = if r10 = 0 then ax_ex (e + 2) L_X10_feed 18 [some (.inr (.inr (0, 0))), some (.inl v1)] [] m n else ax_ex (e + 2) L_X10_feed 14 [some (.inr (.inr (0, 0))), some (.inl v1)] [] m n := fun n => rfl
      by_cases c11 : r10 = 0
      · rw [if_pos c11] at h
        refine ax_gt c11 s12 ?_
        obtain ⟨m15, q13, h⟩ := ax_b_of h
        have s16 : ∀ n, ax_ex (e + 2) L_X10_feed 18 [some (.inr (.inr (0, 0))), some (.inl v1)] [] m (n + 5) = ax_aft (fun s m2 => ax_ex (e + 2) L_X10_feed 23 [some (.inr (.inr (0, 0))), some (.inl v1)] s m2 n) [] (ax_ex (e + 1) L_X8_add 0 (ax_entry [.inr (.inr (10, 0)), .inl v1] 2) [] m n) := fun n => rfl
        refine ax_gcv (j := 5) (k2 := 23) (lv2 := [some (.inr (.inr (0, 0))), some (.inl v1)]) (rest := []) ((R_X8_add (by omega) q13)) s16 ?_
        obtain rfl := Option.some.inj h
        exact ax_rs 5 (fun n => rfl)
      · rw [if_neg c11] at h
        refine ax_gf c11 s12 ?_
        obtain ⟨r18, m19, q17, h⟩ := ax_b2_of h
        have s20 : ∀ n, ax_ex (e + 2) L_X10_feed 14 [some (.inr (.inr (0, 0))), some (.inl v1)] [] m (n + 3) = ax_aft (fun s m2 => ax_ex (e + 2) L_X10_feed 17 [some (.inr (.inr (0, 0))), some (.inl v1)] s m2 n) [] (ax_ex (e + 1) L_X10_refuse 0 (ax_entry [.inr (.inr (0, 0)), .inl (-6)] 3) [] m n) := fun n => rfl
        refine ax_gci (j := 3) (k2 := 17) (lv2 := [some (.inr (.inr (0, 0))), some (.inl v1)]) (rest := []) ((R_X10_refuse (by omega) q17)) s20 ?_
        obtain rfl := Option.some.inj h
        exact ax_rs 1 (fun n => rfl)
    · rw [if_neg c7] at h
      refine ax_gf c7 s8 ?_
      obtain ⟨r23, m24, q22, h⟩ := ax_b2_of h
      have s25 : ∀ n, ax_ex (e + 2) L_X10_feed 5 [some (.inr (.inr (0, 0))), some (.inl v1)] [] m (n + 3) = ax_aft (fun s m2 => ax_ex (e + 2) L_X10_feed 8 [some (.inr (.inr (0, 0))), some (.inl v1)] s m2 n) [] (ax_ex (e + 1) L_X10_refuse 0 (ax_entry [.inr (.inr (0, 0)), .inl (-2)] 3) [] m n) := fun n => rfl
      refine ax_gci (j := 3) (k2 := 8) (lv2 := [some (.inr (.inr (0, 0))), some (.inl v1)]) (rest := []) ((R_X10_refuse (by omega) q22)) s25 ?_
      obtain rfl := Option.some.inj h
      exact ax_rs 1 (fun n => rfl)
def F_X10_wipe (m : ax_M) : Option (Int32 × ax_M) := some ((m.1 10 0 1), (ax_ui m 10 0 1 0))
set_option maxRecDepth 20000 in
set_option maxHeartbeats 4000000 in
theorem R_X10_wipe {d : Nat} (hd : 1 ≤ d) {m : ax_M} {q : (Int32 × ax_M)} (h : F_X10_wipe m = some q) : ax_Ru d L_X10_wipe 0 (ax_entry [.inr (.inr (0, 0))] 2) [] m (some (.inl q.1), q.2) := by
  obtain ⟨e, rfl⟩ : ∃ e, d = e + 1 := ⟨d - 1, by omega⟩
  unfold F_X10_wipe at h
  obtain rfl := Option.some.inj h
  exact ax_rs 12 (fun n => rfl)
def F_X10_garden (m : ax_M) : Option (Int32 × ax_M) := ax_b (F_X3_become m 2 0) (fun m3 => ax_b2 (F_X4_readAll m3 2) (fun r5 m6 => if 0 ≤ r5 then (ax_b (F_X3_become (ax_ui m6 10 0 1 0) 0 2) (fun m11 => some (r5, m11))) else (ax_b2 (F_X10_refuse (ax_ui m6 10 0 1 0) (-2)) (fun r14 m15 => some (r5, m15)))))
set_option maxRecDepth 20000 in
set_option maxHeartbeats 4000000 in
theorem R_X10_garden {d : Nat} (hd : 9 ≤ d) {m : ax_M} {q : (Int32 × ax_M)} (h : F_X10_garden m = some q) : ax_Ru d L_X10_garden 0 (ax_entry [.inr (.inr (0, 0))] 2) [] m (some (.inl q.1), q.2) := by
  obtain ⟨e, rfl⟩ : ∃ e, d = e + 9 := ⟨d - 9, by omega⟩
  unfold F_X10_garden at h
  obtain ⟨m3, q1, h⟩ := ax_b_of h
  have s18 : ∀ n, ax_ex (e + 9) L_X10_garden 0 (ax_entry [.inr (.inr (0, 0))] 2) [] m (n + 5) = ax_aft (fun s m2 => ax_ex (e + 9) L_X10_garden 5 [some (.inr (.inr (0, 0))), none] s m2 n) [] (ax_ex (e + 8) L_X3_become 0 (ax_entry [.inr (.inr (1, 2)), .inr (.inr (1, 0))] 3) [] m n) := fun n => rfl
  refine ax_gcv (j := 5) (k2 := 5) (lv2 := [some (.inr (.inr (0, 0))), none]) (rest := []) ((R_X3_become (by omega) q1)) s18 ?_
  obtain ⟨r5, m6, q4, h⟩ := ax_b2_of h
  have s17 : ∀ n, ax_ex (e + 9) L_X10_garden 5 [some (.inr (.inr (0, 0))), none] [] m3 (n + 5) = ax_aft (fun s m2 => ax_ex (e + 9) L_X10_garden 10 [some (.inr (.inr (0, 0))), none] s m2 n) [] (ax_ex (e + 8) L_X4_readAll 0 (ax_entry [.inr (.inr (12, 0)), .inr (.inr (1, 2))] 3) [] m3 n) := fun n => rfl
  refine ax_gci (j := 5) (k2 := 10) (lv2 := [some (.inr (.inr (0, 0))), none]) (rest := []) ((R_X4_readAll (by omega) q4)) s17 ?_
  have s8 : ∀ n, ax_ex (e + 9) L_X10_garden 10 [some (.inr (.inr (0, 0))), none] [.inl r5] m6 (n + 8) = if 0 ≤ r5 then ax_ex (e + 9) L_X10_garden 24 [some (.inr (.inr (0, 0))), some (.inl r5)] [] (ax_ui m6 10 0 1 0) n else ax_ex (e + 9) L_X10_garden 18 [some (.inr (.inr (0, 0))), some (.inl r5)] [] (ax_ui m6 10 0 1 0) n := fun n => rfl
  by_cases c7 : 0 ≤ r5
  · rw [if_pos c7] at h
    refine ax_gt c7 s8 ?_
    obtain ⟨m11, q9, h⟩ := ax_b_of h
    have s12 : ∀ n, ax_ex (e + 9) L_X10_garden 24 [some (.inr (.inr (0, 0))), some (.inl r5)] [] (ax_ui m6 10 0 1 0) (n + 5) = ax_aft (fun s m2 => ax_ex (e + 9) L_X10_garden 29 [some (.inr (.inr (0, 0))), some (.inl r5)] s m2 n) [] (ax_ex (e + 8) L_X3_become 0 (ax_entry [.inr (.inr (1, 0)), .inr (.inr (1, 2))] 3) [] (ax_ui m6 10 0 1 0) n) := fun n => rfl
    refine ax_gcv (j := 5) (k2 := 29) (lv2 := [some (.inr (.inr (0, 0))), some (.inl r5)]) (rest := []) ((R_X3_become (by omega) q9)) s12 ?_
    obtain rfl := Option.some.inj h
    exact ax_rs 2 (fun n => rfl)
  · rw [if_neg c7] at h
    refine ax_gf c7 s8 ?_
    obtain ⟨r14, m15, q13, h⟩ := ax_b2_of h
    have s16 : ∀ n, ax_ex (e + 9) L_X10_garden 18 [some (.inr (.inr (0, 0))), some (.inl r5)] [] (ax_ui m6 10 0 1 0) (n + 3) = ax_aft (fun s m2 => ax_ex (e + 9) L_X10_garden 21 [some (.inr (.inr (0, 0))), some (.inl r5)] s m2 n) [] (ax_ex (e + 8) L_X10_refuse 0 (ax_entry [.inr (.inr (0, 0)), .inl (-2)] 3) [] (ax_ui m6 10 0 1 0) n) := fun n => rfl
    refine ax_gci (j := 3) (k2 := 21) (lv2 := [some (.inr (.inr (0, 0))), some (.inl r5)]) (rest := []) ((R_X10_refuse (by omega) q13)) s16 ?_
    obtain rfl := Option.some.inj h
    exact ax_rs 3 (fun n => rfl)
def F_X10_seedOf (m : ax_M) (v1 : Int32) (v2 : Int32) : Option (Int32 × ax_M) := ax_b (F_X3_isSeed m 0 v1) (fun r2 => if r2 = 0 then (ax_b2 (F_X10_refuse m (-2)) (fun r6 m7 => some (r6, m7))) else (if ax_ok v1 16 = true then (if v2 = 0 then (some ((m.1 6 (16 * 0 + v1.toNatClampNeg) 0), m)) else (if v2 = 1 then (some ((m.1 6 (16 * 0 + v1.toNatClampNeg) 1), m)) else (if v2 = 2 then (some ((m.1 6 (16 * 0 + v1.toNatClampNeg) 2), m)) else (if v2 = 3 then (some ((m.1 6 (16 * 0 + v1.toNatClampNeg) 3), m)) else (if v2 = 4 then (ax_b (F_X6_span m (16 * 0 + v1.toNatClampNeg)) (fun r18 => some (r18, m))) else (if v2 = 5 then (ax_b (F_X3_showers m 0 v1) (fun r22 => if r22 = 0 then (some (0, m)) else (some (1, m)))) else (ax_b2 (F_X10_refuse m (-2)) (fun r27 m28 => some (r27, m28))))))))) else (none)))
set_option maxRecDepth 20000 in
set_option maxHeartbeats 4000000 in
theorem R_X10_seedOf {d : Nat} (hd : 10 ≤ d) {m : ax_M} {v1 : Int32} {v2 : Int32} {q : (Int32 × ax_M)} (h : F_X10_seedOf m v1 v2 = some q) : ax_Ru d L_X10_seedOf 0 (ax_entry [.inr (.inr (0, 0)), .inl v1, .inl v2] 4) [] m (some (.inl q.1), q.2) := by
  obtain ⟨e, rfl⟩ : ∃ e, d = e + 10 := ⟨d - 10, by omega⟩
  unfold F_X10_seedOf at h
  obtain ⟨r2, q1, h⟩ := ax_b_of h
  have s30 : ∀ n, ax_ex (e + 10) L_X10_seedOf 0 (ax_entry [.inr (.inr (0, 0)), .inl v1, .inl v2] 4) [] m (n + 4) = ax_aft (fun s m2 => ax_ex (e + 10) L_X10_seedOf 4 [some (.inr (.inr (0, 0))), some (.inl v1), some (.inl v2), none] s m2 n) [] (ax_ex (e + 9) L_X3_isSeed 0 (ax_entry [.inr (.inr (1, 0)), .inl v1] 2) [] m n) := fun n => rfl
  refine ax_gci (j := 4) (k2 := 4) (lv2 := [some (.inr (.inr (0, 0))), some (.inl v1), some (.inl v2), none]) (rest := []) ((R_X3_isSeed (by omega) q1)) s30 ?_
  have s4 : ∀ n, ax_ex (e + 10) L_X10_seedOf 4 [some (.inr (.inr (0, 0))), some (.inl v1), some (.inl v2), none] [.inl r2] m (n + 1) = if r2 = 0 then ax_ex (e + 10) L_X10_seedOf 5 [some (.inr (.inr (0, 0))), some (.inl v1), some (.inl v2), none] [] m n else ax_ex (e + 10) L_X10_seedOf 9 [some (.inr (.inr (0, 0))), some (.inl v1), some (.inl v2), none] [] m n := fun n => rfl
  by_cases c3 : r2 = 0
  · rw [if_pos c3] at h
    refine ax_gt c3 s4 ?_
    obtain ⟨r6, m7, q5, h⟩ := ax_b2_of h
    have s8 : ∀ n, ax_ex (e + 10) L_X10_seedOf 5 [some (.inr (.inr (0, 0))), some (.inl v1), some (.inl v2), none] [] m (n + 3) = ax_aft (fun s m2 => ax_ex (e + 10) L_X10_seedOf 8 [some (.inr (.inr (0, 0))), some (.inl v1), some (.inl v2), none] s m2 n) [] (ax_ex (e + 9) L_X10_refuse 0 (ax_entry [.inr (.inr (0, 0)), .inl (-2)] 3) [] m n) := fun n => rfl
    refine ax_gci (j := 3) (k2 := 8) (lv2 := [some (.inr (.inr (0, 0))), some (.inl v1), some (.inl v2), none]) (rest := []) ((R_X10_refuse (by omega) q5)) s8 ?_
    obtain rfl := Option.some.inj h
    exact ax_rs 1 (fun n => rfl)
  · rw [if_neg c3] at h
    refine ax_gf c3 s4 ?_
    have s10 : ∀ n, ax_ex (e + 10) L_X10_seedOf 9 [some (.inr (.inr (0, 0))), some (.inl v1), some (.inl v2), none] [] m (n + 5) = if ax_ok v1 16 = true then ax_ex (e + 10) L_X10_seedOf 14 [some (.inr (.inr (0, 0))), some (.inl v1), some (.inl v2), none] [.inr (.inr (6, (16 * 0 + v1.toNatClampNeg)))] m n else none := fun n => rfl
    by_cases c9 : ax_ok v1 16 = true
    · rw [if_pos c9] at h
      refine ax_gt c9 s10 ?_
      have s11 : ∀ n, ax_ex (e + 10) L_X10_seedOf 14 [some (.inr (.inr (0, 0))), some (.inl v1), some (.inl v2), none] [.inr (.inr (6, (16 * 0 + v1.toNatClampNeg)))] m (n + 3) = (if v2 = 0 then ax_ex (e + 10) L_X10_seedOf 17 [some (.inr (.inr (0, 0))), some (.inl v1), some (.inl v2), some (.inr (.inr (6, (16 * 0 + v1.toNatClampNeg))))] [] m n else (if v2 = 1 then ax_ex (e + 10) L_X10_seedOf 20 [some (.inr (.inr (0, 0))), some (.inl v1), some (.inl v2), some (.inr (.inr (6, (16 * 0 + v1.toNatClampNeg))))] [] m n else (if v2 = 2 then ax_ex (e + 10) L_X10_seedOf 23 [some (.inr (.inr (0, 0))), some (.inl v1), some (.inl v2), some (.inr (.inr (6, (16 * 0 + v1.toNatClampNeg))))] [] m n else (if v2 = 3 then ax_ex (e + 10) L_X10_seedOf 26 [some (.inr (.inr (0, 0))), some (.inl v1), some (.inl v2), some (.inr (.inr (6, (16 * 0 + v1.toNatClampNeg))))] [] m n else (if v2 = 4 then ax_ex (e + 10) L_X10_seedOf 29 [some (.inr (.inr (0, 0))), some (.inl v1), some (.inl v2), some (.inr (.inr (6, (16 * 0 + v1.toNatClampNeg))))] [] m n else (if v2 = 5 then ax_ex (e + 10) L_X10_seedOf 32 [some (.inr (.inr (0, 0))), some (.inl v1), some (.inl v2), some (.inr (.inr (6, (16 * 0 + v1.toNatClampNeg))))] [] m n else ax_ex (e + 10) L_X10_seedOf 41 [some (.inr (.inr (0, 0))), some (.inl v1), some (.inl v2), some (.inr (.inr (6, (16 * 0 + v1.toNatClampNeg))))] [] m n)))))) := fun n => rfl
      by_cases c12 : v2 = 0
      · rw [if_pos c12] at h
        refine ax_go (j := 3) (k2 := 17) (lv2 := [some (.inr (.inr (0, 0))), some (.inl v1), some (.inl v2), some (.inr (.inr (6, (16 * 0 + v1.toNatClampNeg))))]) (st2 := []) (m2 := m) (fun n => (s11 n).trans (if_pos c12)) ?_
        obtain rfl := Option.some.inj h
        exact ax_rs 3 (fun n => rfl)
      · rw [if_neg c12] at h
        by_cases c13 : v2 = 1
        · rw [if_pos c13] at h
          refine ax_go (j := 3) (k2 := 20) (lv2 := [some (.inr (.inr (0, 0))), some (.inl v1), some (.inl v2), some (.inr (.inr (6, (16 * 0 + v1.toNatClampNeg))))]) (st2 := []) (m2 := m) (fun n => ((s11 n).trans (if_neg c12)).trans (if_pos c13)) ?_
          obtain rfl := Option.some.inj h
          exact ax_rs 3 (fun n => rfl)
        · rw [if_neg c13] at h
          by_cases c14 : v2 = 2
          · rw [if_pos c14] at h
            refine ax_go (j := 3) (k2 := 23) (lv2 := [some (.inr (.inr (0, 0))), some (.inl v1), some (.inl v2), some (.inr (.inr (6, (16 * 0 + v1.toNatClampNeg))))]) (st2 := []) (m2 := m) (fun n => (((s11 n).trans (if_neg c12)).trans (if_neg c13)).trans (if_pos c14)) ?_
            obtain rfl := Option.some.inj h
            exact ax_rs 3 (fun n => rfl)
          · rw [if_neg c14] at h
            by_cases c15 : v2 = 3
            · rw [if_pos c15] at h
              refine ax_go (j := 3) (k2 := 26) (lv2 := [some (.inr (.inr (0, 0))), some (.inl v1), some (.inl v2), some (.inr (.inr (6, (16 * 0 + v1.toNatClampNeg))))]) (st2 := []) (m2 := m) (fun n => ((((s11 n).trans (if_neg c12)).trans (if_neg c13)).trans (if_neg c14)).trans (if_pos c15)) ?_
              obtain rfl := Option.some.inj h
              exact ax_rs 3 (fun n => rfl)
            · rw [if_neg c15] at h
              by_cases c16 : v2 = 4
              · rw [if_pos c16] at h
                refine ax_go (j := 3) (k2 := 29) (lv2 := [some (.inr (.inr (0, 0))), some (.inl v1), some (.inl v2), some (.inr (.inr (6, (16 * 0 + v1.toNatClampNeg))))]) (st2 := []) (m2 := m) (fun n => (((((s11 n).trans (if_neg c12)).trans (if_neg c13)).trans (if_neg c14)).trans (if_neg c15)).trans (if_pos c16)) ?_
                obtain ⟨r18, q17, h⟩ := ax_b_of h
                have s19 : ∀ n, ax_ex (e + 10) L_X10_seedOf 29 [some (.inr (.inr (0, 0))), some (.inl v1), some (.inl v2), some (.inr (.inr (6, (16 * 0 + v1.toNatClampNeg))))] [] m (n + 2) = ax_aft (fun s m2 => ax_ex (e + 10) L_X10_seedOf 31 [some (.inr (.inr (0, 0))), some (.inl v1), some (.inl v2), some (.inr (.inr (6, (16 * 0 + v1.toNatClampNeg))))] s m2 n) [] (ax_ex (e + 9) L_X6_span 0 (ax_entry [.inr (.inr (6, (16 * 0 + v1.toNatClampNeg)))] 1) [] m n) := fun n => rfl
                refine ax_gci (j := 2) (k2 := 31) (lv2 := [some (.inr (.inr (0, 0))), some (.inl v1), some (.inl v2), some (.inr (.inr (6, (16 * 0 + v1.toNatClampNeg))))]) (rest := []) ((R_X6_span (by omega) q17)) s19 ?_
                obtain rfl := Option.some.inj h
                exact ax_rs 1 (fun n => rfl)
              · rw [if_neg c16] at h
                by_cases c20 : v2 = 5
                · rw [if_pos c20] at h
                  refine ax_go (j := 3) (k2 := 32) (lv2 := [some (.inr (.inr (0, 0))), some (.inl v1), some (.inl v2), some (.inr (.inr (6, (16 * 0 + v1.toNatClampNeg))))]) (st2 := []) (m2 := m) (fun n => ((((((s11 n).trans (if_neg c12)).trans (if_neg c13)).trans (if_neg c14)).trans (if_neg c15)).trans (if_neg c16)).trans (if_pos c20)) ?_
                  obtain ⟨r22, q21, h⟩ := ax_b_of h
                  have s25 : ∀ n, ax_ex (e + 10) L_X10_seedOf 32 [some (.inr (.inr (0, 0))), some (.inl v1), some (.inl v2), some (.inr (.inr (6, (16 * 0 + v1.toNatClampNeg))))] [] m (n + 4) = ax_aft (fun s m2 => ax_ex (e + 10) L_X10_seedOf 36 [some (.inr (.inr (0, 0))), some (.inl v1), some (.inl v2), some (.inr (.inr (6, (16 * 0 + v1.toNatClampNeg))))] s m2 n) [] (ax_ex (e + 9) L_X3_showers 0 (ax_entry [.inr (.inr (1, 0)), .inl v1] 4) [] m n) := fun n => rfl
                  refine ax_gci (j := 4) (k2 := 36) (lv2 := [some (.inr (.inr (0, 0))), some (.inl v1), some (.inl v2), some (.inr (.inr (6, (16 * 0 + v1.toNatClampNeg))))]) (rest := []) ((R_X3_showers (by omega) q21)) s25 ?_
                  have s24 : ∀ n, ax_ex (e + 10) L_X10_seedOf 36 [some (.inr (.inr (0, 0))), some (.inl v1), some (.inl v2), some (.inr (.inr (6, (16 * 0 + v1.toNatClampNeg))))] [.inl r22] m (n + 1) = if r22 = 0 then ax_ex (e + 10) L_X10_seedOf 39 [some (.inr (.inr (0, 0))), some (.inl v1), some (.inl v2), some (.inr (.inr (6, (16 * 0 + v1.toNatClampNeg))))] [] m n else ax_ex (e + 10) L_X10_seedOf 37 [some (.inr (.inr (0, 0))), some (.inl v1), some (.inl v2), some (.inr (.inr (6, (16 * 0 + v1.toNatClampNeg))))] [] m n := fun n => rfl
                  by_cases c23 : r22 = 0
                  · rw [if_pos c23] at h
                    refine ax_gt c23 s24 ?_
                    obtain rfl := Option.some.inj h
                    exact ax_rs 2 (fun n => rfl)
                  · rw [if_neg c23] at h
                    refine ax_gf c23 s24 ?_
                    obtain rfl := Option.some.inj h
                    exact ax_rs 3 (fun n => rfl)
                · rw [if_neg c20] at h
                  refine ax_go (j := 3) (k2 := 41) (lv2 := [some (.inr (.inr (0, 0))), some (.inl v1), some (.inl v2), some (.inr (.inr (6, (16 * 0 + v1.toNatClampNeg))))]) (st2 := []) (m2 := m) (fun n => (((((((s11 n).trans (if_neg c12)).trans (if_neg c13)).trans (if_neg c14)).trans (if_neg c15)).trans (if_neg c16)).trans (if_neg c20))) ?_
                  obtain ⟨r27, m28, q26, h⟩ := ax_b2_of h
                  have s29 : ∀ n, ax_ex (e + 10) L_X10_seedOf 41 [some (.inr (.inr (0, 0))), some (.inl v1), some (.inl v2), some (.inr (.inr (6, (16 * 0 + v1.toNatClampNeg))))] [] m (n + 3) = ax_aft (fun s m2 => ax_ex (e + 10) L_X10_seedOf 44 [some (.inr (.inr (0, 0))), some (.inl v1), some (.inl v2), some (.inr (.inr (6, (16 * 0 + v1.toNatClampNeg))))] s m2 n) [] (ax_ex (e + 9) L_X10_refuse 0 (ax_entry [.inr (.inr (0, 0)), .inl (-2)] 3) [] m n) := fun n => rfl
                  refine ax_gci (j := 3) (k2 := 44) (lv2 := [some (.inr (.inr (0, 0))), some (.inl v1), some (.inl v2), some (.inr (.inr (6, (16 * 0 + v1.toNatClampNeg))))]) (rest := []) ((R_X10_refuse (by omega) q26)) s29 ?_
                  obtain rfl := Option.some.inj h
                  exact ax_rs 1 (fun n => rfl)
    · rw [if_neg c9] at h
      cases h
def F_J6_bitCount_0f7a4 (v0 : Int32) : Option Int32 := some ((((((((v0 - ((ax_iushr v0 1) &&& 1431655765)) &&& 858993459) + ((ax_iushr (v0 - ((ax_iushr v0 1) &&& 1431655765)) 2) &&& 858993459)) + (ax_iushr (((v0 - ((ax_iushr v0 1) &&& 1431655765)) &&& 858993459) + ((ax_iushr (v0 - ((ax_iushr v0 1) &&& 1431655765)) 2) &&& 858993459)) 4)) &&& 252645135) + (ax_iushr (((((v0 - ((ax_iushr v0 1) &&& 1431655765)) &&& 858993459) + ((ax_iushr (v0 - ((ax_iushr v0 1) &&& 1431655765)) 2) &&& 858993459)) + (ax_iushr (((v0 - ((ax_iushr v0 1) &&& 1431655765)) &&& 858993459) + ((ax_iushr (v0 - ((ax_iushr v0 1) &&& 1431655765)) 2) &&& 858993459)) 4)) &&& 252645135) 8)) + (ax_iushr ((((((v0 - ((ax_iushr v0 1) &&& 1431655765)) &&& 858993459) + ((ax_iushr (v0 - ((ax_iushr v0 1) &&& 1431655765)) 2) &&& 858993459)) + (ax_iushr (((v0 - ((ax_iushr v0 1) &&& 1431655765)) &&& 858993459) + ((ax_iushr (v0 - ((ax_iushr v0 1) &&& 1431655765)) 2) &&& 858993459)) 4)) &&& 252645135) + (ax_iushr (((((v0 - ((ax_iushr v0 1) &&& 1431655765)) &&& 858993459) + ((ax_iushr (v0 - ((ax_iushr v0 1) &&& 1431655765)) 2) &&& 858993459)) + (ax_iushr (((v0 - ((ax_iushr v0 1) &&& 1431655765)) &&& 858993459) + ((ax_iushr (v0 - ((ax_iushr v0 1) &&& 1431655765)) 2) &&& 858993459)) 4)) &&& 252645135) 8)) 16)) &&& 63)
set_option maxRecDepth 20000 in
set_option maxHeartbeats 4000000 in
theorem R_J6_bitCount_0f7a4 {d : Nat} (hd : 1 ≤ d) {m : ax_M} {v0 : Int32} {q : Int32} (h : F_J6_bitCount_0f7a4 v0 = some q) : ax_Ru d L_J6_bitCount_0f7a4 0 (ax_entry [.inl v0] 1) [] m (some (.inl q), m) := by
  obtain ⟨e, rfl⟩ : ∃ e, d = e + 1 := ⟨d - 1, by omega⟩
  unfold F_J6_bitCount_0f7a4 at h
  obtain rfl := Option.some.inj h
  exact ax_rs 42 (fun n => rfl)
def F_X10_personOf (m : ax_M) (v1 : Int32) (v2 : Int32) : Option (Int32 × ax_M) := ax_b (F_X3_isPerson m 0 v1) (fun r2 => if r2 = 0 then (ax_b2 (F_X10_refuse m (-2)) (fun r6 m7 => some (r6, m7))) else (if v2 = 0 then (if ax_ok v1 8 = true then (some ((m.1 2 0 v1.toNatClampNeg), m)) else (none)) else (if v2 = 1 then (ax_b (F_X2_owedBy m 0 v1) (fun r15 => some (r15, m))) else (if v2 = 2 then (ax_b (F_X2_owedTo m 0 v1) (fun r19 => some (r19, m))) else (if v2 = 3 then (ax_b (F_X3_seedsBut m 0 v1) (fun r23 => ax_b (F_J6_bitCount_0f7a4 r23) (fun r25 => some (((m.1 1 0 4) - r25), m)))) else (if v2 = 4 then (ax_b (F_X3_shownBy m 0 v1) (fun r30 => ax_b (F_J6_bitCount_0f7a4 r30) (fun r32 => some (r32, m)))) else (ax_b2 (F_X10_refuse m (-2)) (fun r36 m37 => some (r36, m37)))))))))
set_option maxRecDepth 20000 in
set_option maxHeartbeats 4000000 in
theorem R_X10_personOf {d : Nat} (hd : 9 ≤ d) {m : ax_M} {v1 : Int32} {v2 : Int32} {q : (Int32 × ax_M)} (h : F_X10_personOf m v1 v2 = some q) : ax_Ru d L_X10_personOf 0 (ax_entry [.inr (.inr (0, 0)), .inl v1, .inl v2] 3) [] m (some (.inl q.1), q.2) := by
  obtain ⟨e, rfl⟩ : ∃ e, d = e + 9 := ⟨d - 9, by omega⟩
  unfold F_X10_personOf at h
  obtain ⟨r2, q1, h⟩ := ax_b_of h
  have s39 : ∀ n, ax_ex (e + 9) L_X10_personOf 0 (ax_entry [.inr (.inr (0, 0)), .inl v1, .inl v2] 3) [] m (n + 4) = ax_aft (fun s m2 => ax_ex (e + 9) L_X10_personOf 4 [some (.inr (.inr (0, 0))), some (.inl v1), some (.inl v2)] s m2 n) [] (ax_ex (e + 8) L_X3_isPerson 0 (ax_entry [.inr (.inr (1, 0)), .inl v1] 2) [] m n) := fun n => rfl
  refine ax_gci (j := 4) (k2 := 4) (lv2 := [some (.inr (.inr (0, 0))), some (.inl v1), some (.inl v2)]) (rest := []) ((R_X3_isPerson (by omega) q1)) s39 ?_
  have s4 : ∀ n, ax_ex (e + 9) L_X10_personOf 4 [some (.inr (.inr (0, 0))), some (.inl v1), some (.inl v2)] [.inl r2] m (n + 1) = if r2 = 0 then ax_ex (e + 9) L_X10_personOf 5 [some (.inr (.inr (0, 0))), some (.inl v1), some (.inl v2)] [] m n else ax_ex (e + 9) L_X10_personOf 9 [some (.inr (.inr (0, 0))), some (.inl v1), some (.inl v2)] [] m n := fun n => rfl
  by_cases c3 : r2 = 0
  · rw [if_pos c3] at h
    refine ax_gt c3 s4 ?_
    obtain ⟨r6, m7, q5, h⟩ := ax_b2_of h
    have s8 : ∀ n, ax_ex (e + 9) L_X10_personOf 5 [some (.inr (.inr (0, 0))), some (.inl v1), some (.inl v2)] [] m (n + 3) = ax_aft (fun s m2 => ax_ex (e + 9) L_X10_personOf 8 [some (.inr (.inr (0, 0))), some (.inl v1), some (.inl v2)] s m2 n) [] (ax_ex (e + 8) L_X10_refuse 0 (ax_entry [.inr (.inr (0, 0)), .inl (-2)] 3) [] m n) := fun n => rfl
    refine ax_gci (j := 3) (k2 := 8) (lv2 := [some (.inr (.inr (0, 0))), some (.inl v1), some (.inl v2)]) (rest := []) ((R_X10_refuse (by omega) q5)) s8 ?_
    obtain rfl := Option.some.inj h
    exact ax_rs 1 (fun n => rfl)
  · rw [if_neg c3] at h
    refine ax_gf c3 s4 ?_
    have s9 : ∀ n, ax_ex (e + 9) L_X10_personOf 9 [some (.inr (.inr (0, 0))), some (.inl v1), some (.inl v2)] [] m (n + 2) = (if v2 = 0 then ax_ex (e + 9) L_X10_personOf 11 [some (.inr (.inr (0, 0))), some (.inl v1), some (.inl v2)] [] m n else (if v2 = 1 then ax_ex (e + 9) L_X10_personOf 17 [some (.inr (.inr (0, 0))), some (.inl v1), some (.inl v2)] [] m n else (if v2 = 2 then ax_ex (e + 9) L_X10_personOf 23 [some (.inr (.inr (0, 0))), some (.inl v1), some (.inl v2)] [] m n else (if v2 = 3 then ax_ex (e + 9) L_X10_personOf 29 [some (.inr (.inr (0, 0))), some (.inl v1), some (.inl v2)] [] m n else (if v2 = 4 then ax_ex (e + 9) L_X10_personOf 39 [some (.inr (.inr (0, 0))), some (.inl v1), some (.inl v2)] [] m n else ax_ex (e + 9) L_X10_personOf 45 [some (.inr (.inr (0, 0))), some (.inl v1), some (.inl v2)] [] m n))))) := fun n => rfl
    by_cases c10 : v2 = 0
    · rw [if_pos c10] at h
      refine ax_go (j := 2) (k2 := 11) (lv2 := [some (.inr (.inr (0, 0))), some (.inl v1), some (.inl v2)]) (st2 := []) (m2 := m) (fun n => (s9 n).trans (if_pos c10)) ?_
      have s12 : ∀ n, ax_ex (e + 9) L_X10_personOf 11 [some (.inr (.inr (0, 0))), some (.inl v1), some (.inl v2)] [] m (n + 5) = if ax_ok v1 8 = true then ax_ex (e + 9) L_X10_personOf 16 [some (.inr (.inr (0, 0))), some (.inl v1), some (.inl v2)] [.inl (m.1 2 0 v1.toNatClampNeg)] m n else none := fun n => rfl
      by_cases c11 : ax_ok v1 8 = true
      · rw [if_pos c11] at h
        refine ax_gt c11 s12 ?_
        obtain rfl := Option.some.inj h
        exact ax_rs 1 (fun n => rfl)
      · rw [if_neg c11] at h
        cases h
    · rw [if_neg c10] at h
      by_cases c13 : v2 = 1
      · rw [if_pos c13] at h
        refine ax_go (j := 2) (k2 := 17) (lv2 := [some (.inr (.inr (0, 0))), some (.inl v1), some (.inl v2)]) (st2 := []) (m2 := m) (fun n => ((s9 n).trans (if_neg c10)).trans (if_pos c13)) ?_
        obtain ⟨r15, q14, h⟩ := ax_b_of h
        have s16 : ∀ n, ax_ex (e + 9) L_X10_personOf 17 [some (.inr (.inr (0, 0))), some (.inl v1), some (.inl v2)] [] m (n + 5) = ax_aft (fun s m2 => ax_ex (e + 9) L_X10_personOf 22 [some (.inr (.inr (0, 0))), some (.inl v1), some (.inl v2)] s m2 n) [] (ax_ex (e + 8) L_X2_owedBy 0 (ax_entry [.inr (.inr (3, 0)), .inl v1] 4) [] m n) := fun n => rfl
        refine ax_gci (j := 5) (k2 := 22) (lv2 := [some (.inr (.inr (0, 0))), some (.inl v1), some (.inl v2)]) (rest := []) ((R_X2_owedBy (by omega) q14)) s16 ?_
        obtain rfl := Option.some.inj h
        exact ax_rs 1 (fun n => rfl)
      · rw [if_neg c13] at h
        by_cases c17 : v2 = 2
        · rw [if_pos c17] at h
          refine ax_go (j := 2) (k2 := 23) (lv2 := [some (.inr (.inr (0, 0))), some (.inl v1), some (.inl v2)]) (st2 := []) (m2 := m) (fun n => (((s9 n).trans (if_neg c10)).trans (if_neg c13)).trans (if_pos c17)) ?_
          obtain ⟨r19, q18, h⟩ := ax_b_of h
          have s20 : ∀ n, ax_ex (e + 9) L_X10_personOf 23 [some (.inr (.inr (0, 0))), some (.inl v1), some (.inl v2)] [] m (n + 5) = ax_aft (fun s m2 => ax_ex (e + 9) L_X10_personOf 28 [some (.inr (.inr (0, 0))), some (.inl v1), some (.inl v2)] s m2 n) [] (ax_ex (e + 8) L_X2_owedTo 0 (ax_entry [.inr (.inr (3, 0)), .inl v1] 4) [] m n) := fun n => rfl
          refine ax_gci (j := 5) (k2 := 28) (lv2 := [some (.inr (.inr (0, 0))), some (.inl v1), some (.inl v2)]) (rest := []) ((R_X2_owedTo (by omega) q18)) s20 ?_
          obtain rfl := Option.some.inj h
          exact ax_rs 1 (fun n => rfl)
        · rw [if_neg c17] at h
          by_cases c21 : v2 = 3
          · rw [if_pos c21] at h
            refine ax_go (j := 2) (k2 := 29) (lv2 := [some (.inr (.inr (0, 0))), some (.inl v1), some (.inl v2)]) (st2 := []) (m2 := m) (fun n => ((((s9 n).trans (if_neg c10)).trans (if_neg c13)).trans (if_neg c17)).trans (if_pos c21)) ?_
            obtain ⟨r23, q22, h⟩ := ax_b_of h
            have s27 : ∀ n, ax_ex (e + 9) L_X10_personOf 29 [some (.inr (.inr (0, 0))), some (.inl v1), some (.inl v2)] [] m (n + 7) = ax_aft (fun s m2 => ax_ex (e + 9) L_X10_personOf 36 [some (.inr (.inr (0, 0))), some (.inl v1), some (.inl v2)] s m2 n) [.inl (m.1 1 0 4)] (ax_ex (e + 8) L_X3_seedsBut 0 (ax_entry [.inr (.inr (1, 0)), .inl v1] 4) [] m n) := fun n => rfl
            refine ax_gci (j := 7) (k2 := 36) (lv2 := [some (.inr (.inr (0, 0))), some (.inl v1), some (.inl v2)]) (rest := [.inl (m.1 1 0 4)]) ((R_X3_seedsBut (by omega) q22)) s27 ?_
            obtain ⟨r25, q24, h⟩ := ax_b_of h
            have s26 : ∀ n, ax_ex (e + 9) L_X10_personOf 36 [some (.inr (.inr (0, 0))), some (.inl v1), some (.inl v2)] [.inl r23, .inl (m.1 1 0 4)] m (n + 1) = ax_aft (fun s m2 => ax_ex (e + 9) L_X10_personOf 37 [some (.inr (.inr (0, 0))), some (.inl v1), some (.inl v2)] s m2 n) [.inl (m.1 1 0 4)] (ax_ex (e + 8) L_J6_bitCount_0f7a4 0 (ax_entry [.inl r23] 1) [] m n) := fun n => rfl
            refine ax_gci (j := 1) (k2 := 37) (lv2 := [some (.inr (.inr (0, 0))), some (.inl v1), some (.inl v2)]) (rest := [.inl (m.1 1 0 4)]) ((R_J6_bitCount_0f7a4 (by omega) q24)) s26 ?_
            obtain rfl := Option.some.inj h
            exact ax_rs 2 (fun n => rfl)
          · rw [if_neg c21] at h
            by_cases c28 : v2 = 4
            · rw [if_pos c28] at h
              refine ax_go (j := 2) (k2 := 39) (lv2 := [some (.inr (.inr (0, 0))), some (.inl v1), some (.inl v2)]) (st2 := []) (m2 := m) (fun n => (((((s9 n).trans (if_neg c10)).trans (if_neg c13)).trans (if_neg c17)).trans (if_neg c21)).trans (if_pos c28)) ?_
              obtain ⟨r30, q29, h⟩ := ax_b_of h
              have s34 : ∀ n, ax_ex (e + 9) L_X10_personOf 39 [some (.inr (.inr (0, 0))), some (.inl v1), some (.inl v2)] [] m (n + 4) = ax_aft (fun s m2 => ax_ex (e + 9) L_X10_personOf 43 [some (.inr (.inr (0, 0))), some (.inl v1), some (.inl v2)] s m2 n) [] (ax_ex (e + 8) L_X3_shownBy 0 (ax_entry [.inr (.inr (1, 0)), .inl v1] 2) [] m n) := fun n => rfl
              refine ax_gci (j := 4) (k2 := 43) (lv2 := [some (.inr (.inr (0, 0))), some (.inl v1), some (.inl v2)]) (rest := []) ((R_X3_shownBy (by omega) q29)) s34 ?_
              obtain ⟨r32, q31, h⟩ := ax_b_of h
              have s33 : ∀ n, ax_ex (e + 9) L_X10_personOf 43 [some (.inr (.inr (0, 0))), some (.inl v1), some (.inl v2)] [.inl r30] m (n + 1) = ax_aft (fun s m2 => ax_ex (e + 9) L_X10_personOf 44 [some (.inr (.inr (0, 0))), some (.inl v1), some (.inl v2)] s m2 n) [] (ax_ex (e + 8) L_J6_bitCount_0f7a4 0 (ax_entry [.inl r30] 1) [] m n) := fun n => rfl
              refine ax_gci (j := 1) (k2 := 44) (lv2 := [some (.inr (.inr (0, 0))), some (.inl v1), some (.inl v2)]) (rest := []) ((R_J6_bitCount_0f7a4 (by omega) q31)) s33 ?_
              obtain rfl := Option.some.inj h
              exact ax_rs 1 (fun n => rfl)
            · rw [if_neg c28] at h
              refine ax_go (j := 2) (k2 := 45) (lv2 := [some (.inr (.inr (0, 0))), some (.inl v1), some (.inl v2)]) (st2 := []) (m2 := m) (fun n => ((((((s9 n).trans (if_neg c10)).trans (if_neg c13)).trans (if_neg c17)).trans (if_neg c21)).trans (if_neg c28))) ?_
              obtain ⟨r36, m37, q35, h⟩ := ax_b2_of h
              have s38 : ∀ n, ax_ex (e + 9) L_X10_personOf 45 [some (.inr (.inr (0, 0))), some (.inl v1), some (.inl v2)] [] m (n + 3) = ax_aft (fun s m2 => ax_ex (e + 9) L_X10_personOf 48 [some (.inr (.inr (0, 0))), some (.inl v1), some (.inl v2)] s m2 n) [] (ax_ex (e + 8) L_X10_refuse 0 (ax_entry [.inr (.inr (0, 0)), .inl (-2)] 3) [] m n) := fun n => rfl
              refine ax_gci (j := 3) (k2 := 48) (lv2 := [some (.inr (.inr (0, 0))), some (.inl v1), some (.inl v2)]) (rest := []) ((R_X10_refuse (by omega) q35)) s38 ?_
              obtain rfl := Option.some.inj h
              exact ax_rs 1 (fun n => rfl)
def F_X10_debt (m : ax_M) (v1 : Int32) (v2 : Int32) : Option (Int32 × ax_M) := ax_b (F_X3_isPerson m 0 v1) (fun r2 => if r2 = 0 then (ax_b2 (F_X10_refuse m (-2)) (fun r6 m7 => some (r6, m7))) else (ax_b (F_X3_isPerson m 0 v2) (fun r10 => if r10 = 0 then (ax_b2 (F_X10_refuse m (-2)) (fun r14 m15 => some (r14, m15))) else (ax_b (F_X2_of m 0 v1 v2) (fun r18 => some (r18, m))))))
set_option maxRecDepth 20000 in
set_option maxHeartbeats 4000000 in
theorem R_X10_debt {d : Nat} (hd : 2 ≤ d) {m : ax_M} {v1 : Int32} {v2 : Int32} {q : (Int32 × ax_M)} (h : F_X10_debt m v1 v2 = some q) : ax_Ru d L_X10_debt 0 (ax_entry [.inr (.inr (0, 0)), .inl v1, .inl v2] 3) [] m (some (.inl q.1), q.2) := by
  obtain ⟨e, rfl⟩ : ∃ e, d = e + 2 := ⟨d - 2, by omega⟩
  unfold F_X10_debt at h
  obtain ⟨r2, q1, h⟩ := ax_b_of h
  have s21 : ∀ n, ax_ex (e + 2) L_X10_debt 0 (ax_entry [.inr (.inr (0, 0)), .inl v1, .inl v2] 3) [] m (n + 4) = ax_aft (fun s m2 => ax_ex (e + 2) L_X10_debt 4 [some (.inr (.inr (0, 0))), some (.inl v1), some (.inl v2)] s m2 n) [] (ax_ex (e + 1) L_X3_isPerson 0 (ax_entry [.inr (.inr (1, 0)), .inl v1] 2) [] m n) := fun n => rfl
  refine ax_gci (j := 4) (k2 := 4) (lv2 := [some (.inr (.inr (0, 0))), some (.inl v1), some (.inl v2)]) (rest := []) ((R_X3_isPerson (by omega) q1)) s21 ?_
  have s4 : ∀ n, ax_ex (e + 2) L_X10_debt 4 [some (.inr (.inr (0, 0))), some (.inl v1), some (.inl v2)] [.inl r2] m (n + 1) = if r2 = 0 then ax_ex (e + 2) L_X10_debt 10 [some (.inr (.inr (0, 0))), some (.inl v1), some (.inl v2)] [] m n else ax_ex (e + 2) L_X10_debt 5 [some (.inr (.inr (0, 0))), some (.inl v1), some (.inl v2)] [] m n := fun n => rfl
  by_cases c3 : r2 = 0
  · rw [if_pos c3] at h
    refine ax_gt c3 s4 ?_
    obtain ⟨r6, m7, q5, h⟩ := ax_b2_of h
    have s8 : ∀ n, ax_ex (e + 2) L_X10_debt 10 [some (.inr (.inr (0, 0))), some (.inl v1), some (.inl v2)] [] m (n + 3) = ax_aft (fun s m2 => ax_ex (e + 2) L_X10_debt 13 [some (.inr (.inr (0, 0))), some (.inl v1), some (.inl v2)] s m2 n) [] (ax_ex (e + 1) L_X10_refuse 0 (ax_entry [.inr (.inr (0, 0)), .inl (-2)] 3) [] m n) := fun n => rfl
    refine ax_gci (j := 3) (k2 := 13) (lv2 := [some (.inr (.inr (0, 0))), some (.inl v1), some (.inl v2)]) (rest := []) ((R_X10_refuse (by omega) q5)) s8 ?_
    obtain rfl := Option.some.inj h
    exact ax_rs 1 (fun n => rfl)
  · rw [if_neg c3] at h
    refine ax_gf c3 s4 ?_
    obtain ⟨r10, q9, h⟩ := ax_b_of h
    have s20 : ∀ n, ax_ex (e + 2) L_X10_debt 5 [some (.inr (.inr (0, 0))), some (.inl v1), some (.inl v2)] [] m (n + 4) = ax_aft (fun s m2 => ax_ex (e + 2) L_X10_debt 9 [some (.inr (.inr (0, 0))), some (.inl v1), some (.inl v2)] s m2 n) [] (ax_ex (e + 1) L_X3_isPerson 0 (ax_entry [.inr (.inr (1, 0)), .inl v2] 2) [] m n) := fun n => rfl
    refine ax_gci (j := 4) (k2 := 9) (lv2 := [some (.inr (.inr (0, 0))), some (.inl v1), some (.inl v2)]) (rest := []) ((R_X3_isPerson (by omega) q9)) s20 ?_
    have s12 : ∀ n, ax_ex (e + 2) L_X10_debt 9 [some (.inr (.inr (0, 0))), some (.inl v1), some (.inl v2)] [.inl r10] m (n + 1) = if r10 = 0 then ax_ex (e + 2) L_X10_debt 10 [some (.inr (.inr (0, 0))), some (.inl v1), some (.inl v2)] [] m n else ax_ex (e + 2) L_X10_debt 14 [some (.inr (.inr (0, 0))), some (.inl v1), some (.inl v2)] [] m n := fun n => rfl
    by_cases c11 : r10 = 0
    · rw [if_pos c11] at h
      refine ax_gt c11 s12 ?_
      obtain ⟨r14, m15, q13, h⟩ := ax_b2_of h
      have s16 : ∀ n, ax_ex (e + 2) L_X10_debt 10 [some (.inr (.inr (0, 0))), some (.inl v1), some (.inl v2)] [] m (n + 3) = ax_aft (fun s m2 => ax_ex (e + 2) L_X10_debt 13 [some (.inr (.inr (0, 0))), some (.inl v1), some (.inl v2)] s m2 n) [] (ax_ex (e + 1) L_X10_refuse 0 (ax_entry [.inr (.inr (0, 0)), .inl (-2)] 3) [] m n) := fun n => rfl
      refine ax_gci (j := 3) (k2 := 13) (lv2 := [some (.inr (.inr (0, 0))), some (.inl v1), some (.inl v2)]) (rest := []) ((R_X10_refuse (by omega) q13)) s16 ?_
      obtain rfl := Option.some.inj h
      exact ax_rs 1 (fun n => rfl)
    · rw [if_neg c11] at h
      refine ax_gf c11 s12 ?_
      obtain ⟨r18, q17, h⟩ := ax_b_of h
      have s19 : ∀ n, ax_ex (e + 2) L_X10_debt 14 [some (.inr (.inr (0, 0))), some (.inl v1), some (.inl v2)] [] m (n + 6) = ax_aft (fun s m2 => ax_ex (e + 2) L_X10_debt 20 [some (.inr (.inr (0, 0))), some (.inl v1), some (.inl v2)] s m2 n) [] (ax_ex (e + 1) L_X2_of 0 (ax_entry [.inr (.inr (3, 0)), .inl v1, .inl v2] 3) [] m n) := fun n => rfl
      refine ax_gci (j := 6) (k2 := 20) (lv2 := [some (.inr (.inr (0, 0))), some (.inl v1), some (.inl v2)]) (rest := []) ((R_X2_of (by omega) q17)) s19 ?_
      obtain rfl := Option.some.inj h
      exact ax_rs 1 (fun n => rfl)
def F_X10_isWall (m : ax_M) (v1 : Int32) : Option (Int32 × ax_M) := ax_b (F_X0_isCell v1) (fun r2 => if r2 = 0 then (ax_b2 (F_X10_refuse m (-2)) (fun r6 m7 => some (r6, m7))) else (ax_b (F_X3_hasWall m 0 v1) (fun r10 => if r10 = 0 then (some (0, m)) else (some (1, m)))))
set_option maxRecDepth 20000 in
set_option maxHeartbeats 4000000 in
theorem R_X10_isWall {d : Nat} (hd : 4 ≤ d) {m : ax_M} {v1 : Int32} {q : (Int32 × ax_M)} (h : F_X10_isWall m v1 = some q) : ax_Ru d L_X10_isWall 0 (ax_entry [.inr (.inr (0, 0)), .inl v1] 2) [] m (some (.inl q.1), q.2) := by
  obtain ⟨e, rfl⟩ : ∃ e, d = e + 4 := ⟨d - 4, by omega⟩
  unfold F_X10_isWall at h
  obtain ⟨r2, q1, h⟩ := ax_b_of h
  have s14 : ∀ n, ax_ex (e + 4) L_X10_isWall 0 (ax_entry [.inr (.inr (0, 0)), .inl v1] 2) [] m (n + 2) = ax_aft (fun s m2 => ax_ex (e + 4) L_X10_isWall 2 [some (.inr (.inr (0, 0))), some (.inl v1)] s m2 n) [] (ax_ex (e + 3) L_X0_isCell 0 (ax_entry [.inl v1] 1) [] m n) := fun n => rfl
  refine ax_gci (j := 2) (k2 := 2) (lv2 := [some (.inr (.inr (0, 0))), some (.inl v1)]) (rest := []) ((R_X0_isCell (by omega) q1)) s14 ?_
  have s4 : ∀ n, ax_ex (e + 4) L_X10_isWall 2 [some (.inr (.inr (0, 0))), some (.inl v1)] [.inl r2] m (n + 1) = if r2 = 0 then ax_ex (e + 4) L_X10_isWall 3 [some (.inr (.inr (0, 0))), some (.inl v1)] [] m n else ax_ex (e + 4) L_X10_isWall 7 [some (.inr (.inr (0, 0))), some (.inl v1)] [] m n := fun n => rfl
  by_cases c3 : r2 = 0
  · rw [if_pos c3] at h
    refine ax_gt c3 s4 ?_
    obtain ⟨r6, m7, q5, h⟩ := ax_b2_of h
    have s8 : ∀ n, ax_ex (e + 4) L_X10_isWall 3 [some (.inr (.inr (0, 0))), some (.inl v1)] [] m (n + 3) = ax_aft (fun s m2 => ax_ex (e + 4) L_X10_isWall 6 [some (.inr (.inr (0, 0))), some (.inl v1)] s m2 n) [] (ax_ex (e + 3) L_X10_refuse 0 (ax_entry [.inr (.inr (0, 0)), .inl (-2)] 3) [] m n) := fun n => rfl
    refine ax_gci (j := 3) (k2 := 6) (lv2 := [some (.inr (.inr (0, 0))), some (.inl v1)]) (rest := []) ((R_X10_refuse (by omega) q5)) s8 ?_
    obtain rfl := Option.some.inj h
    exact ax_rs 1 (fun n => rfl)
  · rw [if_neg c3] at h
    refine ax_gf c3 s4 ?_
    obtain ⟨r10, q9, h⟩ := ax_b_of h
    have s13 : ∀ n, ax_ex (e + 4) L_X10_isWall 7 [some (.inr (.inr (0, 0))), some (.inl v1)] [] m (n + 4) = ax_aft (fun s m2 => ax_ex (e + 4) L_X10_isWall 11 [some (.inr (.inr (0, 0))), some (.inl v1)] s m2 n) [] (ax_ex (e + 3) L_X3_hasWall 0 (ax_entry [.inr (.inr (1, 0)), .inl v1] 2) [] m n) := fun n => rfl
    refine ax_gci (j := 4) (k2 := 11) (lv2 := [some (.inr (.inr (0, 0))), some (.inl v1)]) (rest := []) ((R_X3_hasWall (by omega) q9)) s13 ?_
    have s12 : ∀ n, ax_ex (e + 4) L_X10_isWall 11 [some (.inr (.inr (0, 0))), some (.inl v1)] [.inl r10] m (n + 1) = if r10 = 0 then ax_ex (e + 4) L_X10_isWall 14 [some (.inr (.inr (0, 0))), some (.inl v1)] [] m n else ax_ex (e + 4) L_X10_isWall 12 [some (.inr (.inr (0, 0))), some (.inl v1)] [] m n := fun n => rfl
    by_cases c11 : r10 = 0
    · rw [if_pos c11] at h
      refine ax_gt c11 s12 ?_
      obtain rfl := Option.some.inj h
      exact ax_rs 2 (fun n => rfl)
    · rw [if_neg c11] at h
      refine ax_gf c11 s12 ?_
      obtain rfl := Option.some.inj h
      exact ax_rs 3 (fun n => rfl)
def F_X10_up (m : ax_M) (v1 : Int32) : Option (Int32 × ax_M) := if v1 = (-1) then (ax_b (F_X3_shown m 0) (fun r4 => some (r4, m))) else (ax_b (F_X3_isPerson m 0 v1) (fun r7 => if r7 = 0 then (ax_b2 (F_X10_refuse m (-2)) (fun r11 m12 => some (r11, m12))) else (ax_b (F_X3_shownBy m 0 v1) (fun r15 => some (r15, m)))))
set_option maxRecDepth 20000 in
set_option maxHeartbeats 4000000 in
theorem R_X10_up {d : Nat} (hd : 10 ≤ d) {m : ax_M} {v1 : Int32} {q : (Int32 × ax_M)} (h : F_X10_up m v1 = some q) : ax_Ru d L_X10_up 0 (ax_entry [.inr (.inr (0, 0)), .inl v1] 2) [] m (some (.inl q.1), q.2) := by
  obtain ⟨e, rfl⟩ : ∃ e, d = e + 10 := ⟨d - 10, by omega⟩
  unfold F_X10_up at h
  have s2 : ∀ n, ax_ex (e + 10) L_X10_up 0 (ax_entry [.inr (.inr (0, 0)), .inl v1] 2) [] m (n + 3) = if v1 = (-1) then ax_ex (e + 10) L_X10_up 3 [some (.inr (.inr (0, 0))), some (.inl v1)] [] m n else ax_ex (e + 10) L_X10_up 7 [some (.inr (.inr (0, 0))), some (.inl v1)] [] m n := fun n => rfl
  by_cases c1 : v1 = (-1)
  · rw [if_pos c1] at h
    refine ax_gt c1 s2 ?_
    obtain ⟨r4, q3, h⟩ := ax_b_of h
    have s5 : ∀ n, ax_ex (e + 10) L_X10_up 3 [some (.inr (.inr (0, 0))), some (.inl v1)] [] m (n + 3) = ax_aft (fun s m2 => ax_ex (e + 10) L_X10_up 6 [some (.inr (.inr (0, 0))), some (.inl v1)] s m2 n) [] (ax_ex (e + 9) L_X3_shown 0 (ax_entry [.inr (.inr (1, 0))] 3) [] m n) := fun n => rfl
    refine ax_gci (j := 3) (k2 := 6) (lv2 := [some (.inr (.inr (0, 0))), some (.inl v1)]) (rest := []) ((R_X3_shown (by omega) q3)) s5 ?_
    obtain rfl := Option.some.inj h
    exact ax_rs 1 (fun n => rfl)
  · rw [if_neg c1] at h
    refine ax_gf c1 s2 ?_
    obtain ⟨r7, q6, h⟩ := ax_b_of h
    have s17 : ∀ n, ax_ex (e + 10) L_X10_up 7 [some (.inr (.inr (0, 0))), some (.inl v1)] [] m (n + 4) = ax_aft (fun s m2 => ax_ex (e + 10) L_X10_up 11 [some (.inr (.inr (0, 0))), some (.inl v1)] s m2 n) [] (ax_ex (e + 9) L_X3_isPerson 0 (ax_entry [.inr (.inr (1, 0)), .inl v1] 2) [] m n) := fun n => rfl
    refine ax_gci (j := 4) (k2 := 11) (lv2 := [some (.inr (.inr (0, 0))), some (.inl v1)]) (rest := []) ((R_X3_isPerson (by omega) q6)) s17 ?_
    have s9 : ∀ n, ax_ex (e + 10) L_X10_up 11 [some (.inr (.inr (0, 0))), some (.inl v1)] [.inl r7] m (n + 1) = if r7 = 0 then ax_ex (e + 10) L_X10_up 12 [some (.inr (.inr (0, 0))), some (.inl v1)] [] m n else ax_ex (e + 10) L_X10_up 16 [some (.inr (.inr (0, 0))), some (.inl v1)] [] m n := fun n => rfl
    by_cases c8 : r7 = 0
    · rw [if_pos c8] at h
      refine ax_gt c8 s9 ?_
      obtain ⟨r11, m12, q10, h⟩ := ax_b2_of h
      have s13 : ∀ n, ax_ex (e + 10) L_X10_up 12 [some (.inr (.inr (0, 0))), some (.inl v1)] [] m (n + 3) = ax_aft (fun s m2 => ax_ex (e + 10) L_X10_up 15 [some (.inr (.inr (0, 0))), some (.inl v1)] s m2 n) [] (ax_ex (e + 9) L_X10_refuse 0 (ax_entry [.inr (.inr (0, 0)), .inl (-2)] 3) [] m n) := fun n => rfl
      refine ax_gci (j := 3) (k2 := 15) (lv2 := [some (.inr (.inr (0, 0))), some (.inl v1)]) (rest := []) ((R_X10_refuse (by omega) q10)) s13 ?_
      obtain rfl := Option.some.inj h
      exact ax_rs 1 (fun n => rfl)
    · rw [if_neg c8] at h
      refine ax_gf c8 s9 ?_
      obtain ⟨r15, q14, h⟩ := ax_b_of h
      have s16 : ∀ n, ax_ex (e + 10) L_X10_up 16 [some (.inr (.inr (0, 0))), some (.inl v1)] [] m (n + 4) = ax_aft (fun s m2 => ax_ex (e + 10) L_X10_up 20 [some (.inr (.inr (0, 0))), some (.inl v1)] s m2 n) [] (ax_ex (e + 9) L_X3_shownBy 0 (ax_entry [.inr (.inr (1, 0)), .inl v1] 2) [] m n) := fun n => rfl
      refine ax_gci (j := 4) (k2 := 20) (lv2 := [some (.inr (.inr (0, 0))), some (.inl v1)]) (rest := []) ((R_X3_shownBy (by omega) q14)) s16 ?_
      obtain rfl := Option.some.inj h
      exact ax_rs 1 (fun n => rfl)
def F_X10_by (m : ax_M) (v1 : Int32) : Option (Int32 × ax_M) := ax_b (F_X3_isSeed m 0 v1) (fun r2 => if r2 = 0 then (ax_b2 (F_X10_refuse m (-2)) (fun r6 m7 => some (r6, m7))) else (ax_b (F_X3_showers m 0 v1) (fun r10 => some (r10, m))))
set_option maxRecDepth 20000 in
set_option maxHeartbeats 4000000 in
theorem R_X10_by {d : Nat} (hd : 10 ≤ d) {m : ax_M} {v1 : Int32} {q : (Int32 × ax_M)} (h : F_X10_by m v1 = some q) : ax_Ru d L_X10_by 0 (ax_entry [.inr (.inr (0, 0)), .inl v1] 2) [] m (some (.inl q.1), q.2) := by
  obtain ⟨e, rfl⟩ : ∃ e, d = e + 10 := ⟨d - 10, by omega⟩
  unfold F_X10_by at h
  obtain ⟨r2, q1, h⟩ := ax_b_of h
  have s12 : ∀ n, ax_ex (e + 10) L_X10_by 0 (ax_entry [.inr (.inr (0, 0)), .inl v1] 2) [] m (n + 4) = ax_aft (fun s m2 => ax_ex (e + 10) L_X10_by 4 [some (.inr (.inr (0, 0))), some (.inl v1)] s m2 n) [] (ax_ex (e + 9) L_X3_isSeed 0 (ax_entry [.inr (.inr (1, 0)), .inl v1] 2) [] m n) := fun n => rfl
  refine ax_gci (j := 4) (k2 := 4) (lv2 := [some (.inr (.inr (0, 0))), some (.inl v1)]) (rest := []) ((R_X3_isSeed (by omega) q1)) s12 ?_
  have s4 : ∀ n, ax_ex (e + 10) L_X10_by 4 [some (.inr (.inr (0, 0))), some (.inl v1)] [.inl r2] m (n + 1) = if r2 = 0 then ax_ex (e + 10) L_X10_by 5 [some (.inr (.inr (0, 0))), some (.inl v1)] [] m n else ax_ex (e + 10) L_X10_by 9 [some (.inr (.inr (0, 0))), some (.inl v1)] [] m n := fun n => rfl
  by_cases c3 : r2 = 0
  · rw [if_pos c3] at h
    refine ax_gt c3 s4 ?_
    obtain ⟨r6, m7, q5, h⟩ := ax_b2_of h
    have s8 : ∀ n, ax_ex (e + 10) L_X10_by 5 [some (.inr (.inr (0, 0))), some (.inl v1)] [] m (n + 3) = ax_aft (fun s m2 => ax_ex (e + 10) L_X10_by 8 [some (.inr (.inr (0, 0))), some (.inl v1)] s m2 n) [] (ax_ex (e + 9) L_X10_refuse 0 (ax_entry [.inr (.inr (0, 0)), .inl (-2)] 3) [] m n) := fun n => rfl
    refine ax_gci (j := 3) (k2 := 8) (lv2 := [some (.inr (.inr (0, 0))), some (.inl v1)]) (rest := []) ((R_X10_refuse (by omega) q5)) s8 ?_
    obtain rfl := Option.some.inj h
    exact ax_rs 1 (fun n => rfl)
  · rw [if_neg c3] at h
    refine ax_gf c3 s4 ?_
    obtain ⟨r10, q9, h⟩ := ax_b_of h
    have s11 : ∀ n, ax_ex (e + 10) L_X10_by 9 [some (.inr (.inr (0, 0))), some (.inl v1)] [] m (n + 4) = ax_aft (fun s m2 => ax_ex (e + 10) L_X10_by 13 [some (.inr (.inr (0, 0))), some (.inl v1)] s m2 n) [] (ax_ex (e + 9) L_X3_showers 0 (ax_entry [.inr (.inr (1, 0)), .inl v1] 4) [] m n) := fun n => rfl
    refine ax_gci (j := 4) (k2 := 13) (lv2 := [some (.inr (.inr (0, 0))), some (.inl v1)]) (rest := []) ((R_X3_showers (by omega) q9)) s11 ?_
    obtain rfl := Option.some.inj h
    exact ax_rs 1 (fun n => rfl)
def F_X10_quiet (m : ax_M) (v1 : Int32) (v2 : Int32) : Option (Int32 × ax_M) := ax_b (F_X3_isPerson m 0 v1) (fun r2 => if r2 = 0 then (ax_b2 (F_X10_refuse m (-2)) (fun r6 m7 => some (r6, m7))) else (ax_b (F_X0_isCell v2) (fun r10 => if r10 = 0 then (ax_b2 (F_X10_refuse m (-2)) (fun r14 m15 => some (r14, m15))) else (ax_b (F_X3_quietFor m 0 v1) (fun r18 => ax_b (F_X0_has r18 v2) (fun r20 => if r20 = 0 then (some (0, m)) else (some (1, m))))))))
set_option maxRecDepth 20000 in
set_option maxHeartbeats 4000000 in
theorem R_X10_quiet {d : Nat} (hd : 10 ≤ d) {m : ax_M} {v1 : Int32} {v2 : Int32} {q : (Int32 × ax_M)} (h : F_X10_quiet m v1 v2 = some q) : ax_Ru d L_X10_quiet 0 (ax_entry [.inr (.inr (0, 0)), .inl v1, .inl v2] 3) [] m (some (.inl q.1), q.2) := by
  obtain ⟨e, rfl⟩ : ∃ e, d = e + 10 := ⟨d - 10, by omega⟩
  unfold F_X10_quiet at h
  obtain ⟨r2, q1, h⟩ := ax_b_of h
  have s26 : ∀ n, ax_ex (e + 10) L_X10_quiet 0 (ax_entry [.inr (.inr (0, 0)), .inl v1, .inl v2] 3) [] m (n + 4) = ax_aft (fun s m2 => ax_ex (e + 10) L_X10_quiet 4 [some (.inr (.inr (0, 0))), some (.inl v1), some (.inl v2)] s m2 n) [] (ax_ex (e + 9) L_X3_isPerson 0 (ax_entry [.inr (.inr (1, 0)), .inl v1] 2) [] m n) := fun n => rfl
  refine ax_gci (j := 4) (k2 := 4) (lv2 := [some (.inr (.inr (0, 0))), some (.inl v1), some (.inl v2)]) (rest := []) ((R_X3_isPerson (by omega) q1)) s26 ?_
  have s4 : ∀ n, ax_ex (e + 10) L_X10_quiet 4 [some (.inr (.inr (0, 0))), some (.inl v1), some (.inl v2)] [.inl r2] m (n + 1) = if r2 = 0 then ax_ex (e + 10) L_X10_quiet 8 [some (.inr (.inr (0, 0))), some (.inl v1), some (.inl v2)] [] m n else ax_ex (e + 10) L_X10_quiet 5 [some (.inr (.inr (0, 0))), some (.inl v1), some (.inl v2)] [] m n := fun n => rfl
  by_cases c3 : r2 = 0
  · rw [if_pos c3] at h
    refine ax_gt c3 s4 ?_
    obtain ⟨r6, m7, q5, h⟩ := ax_b2_of h
    have s8 : ∀ n, ax_ex (e + 10) L_X10_quiet 8 [some (.inr (.inr (0, 0))), some (.inl v1), some (.inl v2)] [] m (n + 3) = ax_aft (fun s m2 => ax_ex (e + 10) L_X10_quiet 11 [some (.inr (.inr (0, 0))), some (.inl v1), some (.inl v2)] s m2 n) [] (ax_ex (e + 9) L_X10_refuse 0 (ax_entry [.inr (.inr (0, 0)), .inl (-2)] 3) [] m n) := fun n => rfl
    refine ax_gci (j := 3) (k2 := 11) (lv2 := [some (.inr (.inr (0, 0))), some (.inl v1), some (.inl v2)]) (rest := []) ((R_X10_refuse (by omega) q5)) s8 ?_
    obtain rfl := Option.some.inj h
    exact ax_rs 1 (fun n => rfl)
  · rw [if_neg c3] at h
    refine ax_gf c3 s4 ?_
    obtain ⟨r10, q9, h⟩ := ax_b_of h
    have s25 : ∀ n, ax_ex (e + 10) L_X10_quiet 5 [some (.inr (.inr (0, 0))), some (.inl v1), some (.inl v2)] [] m (n + 2) = ax_aft (fun s m2 => ax_ex (e + 10) L_X10_quiet 7 [some (.inr (.inr (0, 0))), some (.inl v1), some (.inl v2)] s m2 n) [] (ax_ex (e + 9) L_X0_isCell 0 (ax_entry [.inl v2] 1) [] m n) := fun n => rfl
    refine ax_gci (j := 2) (k2 := 7) (lv2 := [some (.inr (.inr (0, 0))), some (.inl v1), some (.inl v2)]) (rest := []) ((R_X0_isCell (by omega) q9)) s25 ?_
    have s12 : ∀ n, ax_ex (e + 10) L_X10_quiet 7 [some (.inr (.inr (0, 0))), some (.inl v1), some (.inl v2)] [.inl r10] m (n + 1) = if r10 = 0 then ax_ex (e + 10) L_X10_quiet 8 [some (.inr (.inr (0, 0))), some (.inl v1), some (.inl v2)] [] m n else ax_ex (e + 10) L_X10_quiet 12 [some (.inr (.inr (0, 0))), some (.inl v1), some (.inl v2)] [] m n := fun n => rfl
    by_cases c11 : r10 = 0
    · rw [if_pos c11] at h
      refine ax_gt c11 s12 ?_
      obtain ⟨r14, m15, q13, h⟩ := ax_b2_of h
      have s16 : ∀ n, ax_ex (e + 10) L_X10_quiet 8 [some (.inr (.inr (0, 0))), some (.inl v1), some (.inl v2)] [] m (n + 3) = ax_aft (fun s m2 => ax_ex (e + 10) L_X10_quiet 11 [some (.inr (.inr (0, 0))), some (.inl v1), some (.inl v2)] s m2 n) [] (ax_ex (e + 9) L_X10_refuse 0 (ax_entry [.inr (.inr (0, 0)), .inl (-2)] 3) [] m n) := fun n => rfl
      refine ax_gci (j := 3) (k2 := 11) (lv2 := [some (.inr (.inr (0, 0))), some (.inl v1), some (.inl v2)]) (rest := []) ((R_X10_refuse (by omega) q13)) s16 ?_
      obtain rfl := Option.some.inj h
      exact ax_rs 1 (fun n => rfl)
    · rw [if_neg c11] at h
      refine ax_gf c11 s12 ?_
      obtain ⟨r18, q17, h⟩ := ax_b_of h
      have s24 : ∀ n, ax_ex (e + 10) L_X10_quiet 12 [some (.inr (.inr (0, 0))), some (.inl v1), some (.inl v2)] [] m (n + 4) = ax_aft (fun s m2 => ax_ex (e + 10) L_X10_quiet 16 [some (.inr (.inr (0, 0))), some (.inl v1), some (.inl v2)] s m2 n) [] (ax_ex (e + 9) L_X3_quietFor 0 (ax_entry [.inr (.inr (1, 0)), .inl v1] 2) [] m n) := fun n => rfl
      refine ax_gcl (j := 4) (k2 := 16) (lv2 := [some (.inr (.inr (0, 0))), some (.inl v1), some (.inl v2)]) (rest := []) ((R_X3_quietFor (by omega) q17)) s24 ?_
      obtain ⟨r20, q19, h⟩ := ax_b_of h
      have s23 : ∀ n, ax_ex (e + 10) L_X10_quiet 16 [some (.inr (.inr (0, 0))), some (.inl v1), some (.inl v2)] [.inr (.inl r18)] m (n + 2) = ax_aft (fun s m2 => ax_ex (e + 10) L_X10_quiet 18 [some (.inr (.inr (0, 0))), some (.inl v1), some (.inl v2)] s m2 n) [] (ax_ex (e + 9) L_X0_has 0 (ax_entry [.inr (.inl r18), .inl v2] 3) [] m n) := fun n => rfl
      refine ax_gci (j := 2) (k2 := 18) (lv2 := [some (.inr (.inr (0, 0))), some (.inl v1), some (.inl v2)]) (rest := []) ((R_X0_has (by omega) q19)) s23 ?_
      have s22 : ∀ n, ax_ex (e + 10) L_X10_quiet 18 [some (.inr (.inr (0, 0))), some (.inl v1), some (.inl v2)] [.inl r20] m (n + 1) = if r20 = 0 then ax_ex (e + 10) L_X10_quiet 21 [some (.inr (.inr (0, 0))), some (.inl v1), some (.inl v2)] [] m n else ax_ex (e + 10) L_X10_quiet 19 [some (.inr (.inr (0, 0))), some (.inl v1), some (.inl v2)] [] m n := fun n => rfl
      by_cases c21 : r20 = 0
      · rw [if_pos c21] at h
        refine ax_gt c21 s22 ?_
        obtain rfl := Option.some.inj h
        exact ax_rs 2 (fun n => rfl)
      · rw [if_neg c21] at h
        refine ax_gf c21 s22 ?_
        obtain rfl := Option.some.inj h
        exact ax_rs 3 (fun n => rfl)
def F_X10_way (m : ax_M) (v1 : Int32) (v2 : Int32) (v3 : Int32) : Option (Int32 × ax_M) := ax_b (F_X3_isPerson m 0 v1) (fun r2 => if r2 = 0 then (ax_b2 (F_X10_refuse m (-2)) (fun r6 m7 => some (r6, m7))) else (ax_b (F_X0_isCell v2) (fun r10 => if r10 = 0 then (ax_b2 (F_X10_refuse m (-2)) (fun r14 m15 => some (r14, m15))) else (if (-1) ≤ v3 then (if ax_ok v1 8 = true then (ax_b (F_X3_quietFor m 0 v1) (fun r22 => ax_b2 (F_X9_find m (m.1 2 0 v1.toNatClampNeg) v2 r22) (fun r24 m25 => if r24 = (-1) then (some (r24, m25)) else (if v3 = (-1) then (some (r24, m25)) else (if v3 < r24 then (ax_b (F_X9_cellOf m25 (m.1 2 0 v1.toNatClampNeg) r24 v3) (fun r33 => some (r33, m25))) else (ax_b2 (F_X10_refuse m25 (-5)) (fun r36 m37 => some (r36, m37)))))))) else (none)) else (ax_b2 (F_X10_refuse m (-2)) (fun r42 m43 => some (r42, m43)))))))
set_option maxRecDepth 20000 in
set_option maxHeartbeats 4000000 in
theorem R_X10_way {d : Nat} (hd : 10 ≤ d) {m : ax_M} {v1 : Int32} {v2 : Int32} {v3 : Int32} {q : (Int32 × ax_M)} (h : F_X10_way m v1 v2 v3 = some q) : ax_Ru d L_X10_way 0 (ax_entry [.inr (.inr (0, 0)), .inl v1, .inl v2, .inl v3] 6) [] m (some (.inl q.1), q.2) := by
  obtain ⟨e, rfl⟩ : ∃ e, d = e + 10 := ⟨d - 10, by omega⟩
  unfold F_X10_way at h
  obtain ⟨r2, q1, h⟩ := ax_b_of h
  have s46 : ∀ n, ax_ex (e + 10) L_X10_way 0 (ax_entry [.inr (.inr (0, 0)), .inl v1, .inl v2, .inl v3] 6) [] m (n + 4) = ax_aft (fun s m2 => ax_ex (e + 10) L_X10_way 4 [some (.inr (.inr (0, 0))), some (.inl v1), some (.inl v2), some (.inl v3), none, none] s m2 n) [] (ax_ex (e + 9) L_X3_isPerson 0 (ax_entry [.inr (.inr (1, 0)), .inl v1] 2) [] m n) := fun n => rfl
  refine ax_gci (j := 4) (k2 := 4) (lv2 := [some (.inr (.inr (0, 0))), some (.inl v1), some (.inl v2), some (.inl v3), none, none]) (rest := []) ((R_X3_isPerson (by omega) q1)) s46 ?_
  have s4 : ∀ n, ax_ex (e + 10) L_X10_way 4 [some (.inr (.inr (0, 0))), some (.inl v1), some (.inl v2), some (.inl v3), none, none] [.inl r2] m (n + 1) = if r2 = 0 then ax_ex (e + 10) L_X10_way 11 [some (.inr (.inr (0, 0))), some (.inl v1), some (.inl v2), some (.inl v3), none, none] [] m n else ax_ex (e + 10) L_X10_way 5 [some (.inr (.inr (0, 0))), some (.inl v1), some (.inl v2), some (.inl v3), none, none] [] m n := fun n => rfl
  by_cases c3 : r2 = 0
  · rw [if_pos c3] at h
    refine ax_gt c3 s4 ?_
    obtain ⟨r6, m7, q5, h⟩ := ax_b2_of h
    have s8 : ∀ n, ax_ex (e + 10) L_X10_way 11 [some (.inr (.inr (0, 0))), some (.inl v1), some (.inl v2), some (.inl v3), none, none] [] m (n + 3) = ax_aft (fun s m2 => ax_ex (e + 10) L_X10_way 14 [some (.inr (.inr (0, 0))), some (.inl v1), some (.inl v2), some (.inl v3), none, none] s m2 n) [] (ax_ex (e + 9) L_X10_refuse 0 (ax_entry [.inr (.inr (0, 0)), .inl (-2)] 3) [] m n) := fun n => rfl
    refine ax_gci (j := 3) (k2 := 14) (lv2 := [some (.inr (.inr (0, 0))), some (.inl v1), some (.inl v2), some (.inl v3), none, none]) (rest := []) ((R_X10_refuse (by omega) q5)) s8 ?_
    obtain rfl := Option.some.inj h
    exact ax_rs 1 (fun n => rfl)
  · rw [if_neg c3] at h
    refine ax_gf c3 s4 ?_
    obtain ⟨r10, q9, h⟩ := ax_b_of h
    have s45 : ∀ n, ax_ex (e + 10) L_X10_way 5 [some (.inr (.inr (0, 0))), some (.inl v1), some (.inl v2), some (.inl v3), none, none] [] m (n + 2) = ax_aft (fun s m2 => ax_ex (e + 10) L_X10_way 7 [some (.inr (.inr (0, 0))), some (.inl v1), some (.inl v2), some (.inl v3), none, none] s m2 n) [] (ax_ex (e + 9) L_X0_isCell 0 (ax_entry [.inl v2] 1) [] m n) := fun n => rfl
    refine ax_gci (j := 2) (k2 := 7) (lv2 := [some (.inr (.inr (0, 0))), some (.inl v1), some (.inl v2), some (.inl v3), none, none]) (rest := []) ((R_X0_isCell (by omega) q9)) s45 ?_
    have s12 : ∀ n, ax_ex (e + 10) L_X10_way 7 [some (.inr (.inr (0, 0))), some (.inl v1), some (.inl v2), some (.inl v3), none, none] [.inl r10] m (n + 1) = if r10 = 0 then ax_ex (e + 10) L_X10_way 11 [some (.inr (.inr (0, 0))), some (.inl v1), some (.inl v2), some (.inl v3), none, none] [] m n else ax_ex (e + 10) L_X10_way 8 [some (.inr (.inr (0, 0))), some (.inl v1), some (.inl v2), some (.inl v3), none, none] [] m n := fun n => rfl
    by_cases c11 : r10 = 0
    · rw [if_pos c11] at h
      refine ax_gt c11 s12 ?_
      obtain ⟨r14, m15, q13, h⟩ := ax_b2_of h
      have s16 : ∀ n, ax_ex (e + 10) L_X10_way 11 [some (.inr (.inr (0, 0))), some (.inl v1), some (.inl v2), some (.inl v3), none, none] [] m (n + 3) = ax_aft (fun s m2 => ax_ex (e + 10) L_X10_way 14 [some (.inr (.inr (0, 0))), some (.inl v1), some (.inl v2), some (.inl v3), none, none] s m2 n) [] (ax_ex (e + 9) L_X10_refuse 0 (ax_entry [.inr (.inr (0, 0)), .inl (-2)] 3) [] m n) := fun n => rfl
      refine ax_gci (j := 3) (k2 := 14) (lv2 := [some (.inr (.inr (0, 0))), some (.inl v1), some (.inl v2), some (.inl v3), none, none]) (rest := []) ((R_X10_refuse (by omega) q13)) s16 ?_
      obtain rfl := Option.some.inj h
      exact ax_rs 1 (fun n => rfl)
    · rw [if_neg c11] at h
      refine ax_gf c11 s12 ?_
      have s18 : ∀ n, ax_ex (e + 10) L_X10_way 8 [some (.inr (.inr (0, 0))), some (.inl v1), some (.inl v2), some (.inl v3), none, none] [] m (n + 3) = if (-1) ≤ v3 then ax_ex (e + 10) L_X10_way 15 [some (.inr (.inr (0, 0))), some (.inl v1), some (.inl v2), some (.inl v3), none, none] [] m n else ax_ex (e + 10) L_X10_way 11 [some (.inr (.inr (0, 0))), some (.inl v1), some (.inl v2), some (.inl v3), none, none] [] m n := fun n => rfl
      by_cases c17 : (-1) ≤ v3
      · rw [if_pos c17] at h
        refine ax_gt c17 s18 ?_
        have s20 : ∀ n, ax_ex (e + 10) L_X10_way 15 [some (.inr (.inr (0, 0))), some (.inl v1), some (.inl v2), some (.inl v3), none, none] [] m (n + 5) = if ax_ok v1 8 = true then ax_ex (e + 10) L_X10_way 20 [some (.inr (.inr (0, 0))), some (.inl v1), some (.inl v2), some (.inl v3), none, none] [.inl (m.1 2 0 v1.toNatClampNeg)] m n else none := fun n => rfl
        by_cases c19 : ax_ok v1 8 = true
        · rw [if_pos c19] at h
          refine ax_gt c19 s20 ?_
          obtain ⟨r22, q21, h⟩ := ax_b_of h
          have s40 : ∀ n, ax_ex (e + 10) L_X10_way 20 [some (.inr (.inr (0, 0))), some (.inl v1), some (.inl v2), some (.inl v3), none, none] [.inl (m.1 2 0 v1.toNatClampNeg)] m (n + 9) = ax_aft (fun s m2 => ax_ex (e + 10) L_X10_way 29 [some (.inr (.inr (0, 0))), some (.inl v1), some (.inl v2), some (.inl v3), some (.inl (m.1 2 0 v1.toNatClampNeg)), none] s m2 n) [.inl v2, .inl (m.1 2 0 v1.toNatClampNeg), .inr (.inr (13, 0))] (ax_ex (e + 9) L_X3_quietFor 0 (ax_entry [.inr (.inr (1, 0)), .inl v1] 2) [] m n) := fun n => rfl
          refine ax_gcl (j := 9) (k2 := 29) (lv2 := [some (.inr (.inr (0, 0))), some (.inl v1), some (.inl v2), some (.inl v3), some (.inl (m.1 2 0 v1.toNatClampNeg)), none]) (rest := [.inl v2, .inl (m.1 2 0 v1.toNatClampNeg), .inr (.inr (13, 0))]) ((R_X3_quietFor (by omega) q21)) s40 ?_
          obtain ⟨r24, m25, q23, h⟩ := ax_b2_of h
          have s39 : ∀ n, ax_ex (e + 10) L_X10_way 29 [some (.inr (.inr (0, 0))), some (.inl v1), some (.inl v2), some (.inl v3), some (.inl (m.1 2 0 v1.toNatClampNeg)), none] [.inr (.inl r22), .inl v2, .inl (m.1 2 0 v1.toNatClampNeg), .inr (.inr (13, 0))] m (n + 1) = ax_aft (fun s m2 => ax_ex (e + 10) L_X10_way 30 [some (.inr (.inr (0, 0))), some (.inl v1), some (.inl v2), some (.inl v3), some (.inl (m.1 2 0 v1.toNatClampNeg)), none] s m2 n) [] (ax_ex (e + 9) L_X9_find 0 (ax_entry [.inr (.inr (13, 0)), .inl (m.1 2 0 v1.toNatClampNeg), .inl v2, .inr (.inl r22)] 8) [] m n) := fun n => rfl
          refine ax_gci (j := 1) (k2 := 30) (lv2 := [some (.inr (.inr (0, 0))), some (.inl v1), some (.inl v2), some (.inl v3), some (.inl (m.1 2 0 v1.toNatClampNeg)), none]) (rest := []) ((R_X9_find (by omega) q23)) s39 ?_
          have s27 : ∀ n, ax_ex (e + 10) L_X10_way 30 [some (.inr (.inr (0, 0))), some (.inl v1), some (.inl v2), some (.inl v3), some (.inl (m.1 2 0 v1.toNatClampNeg)), none] [.inl r24] m25 (n + 4) = if r24 = (-1) then ax_ex (e + 10) L_X10_way 37 [some (.inr (.inr (0, 0))), some (.inl v1), some (.inl v2), some (.inl v3), some (.inl (m.1 2 0 v1.toNatClampNeg)), some (.inl r24)] [] m25 n else ax_ex (e + 10) L_X10_way 34 [some (.inr (.inr (0, 0))), some (.inl v1), some (.inl v2), some (.inl v3), some (.inl (m.1 2 0 v1.toNatClampNeg)), some (.inl r24)] [] m25 n := fun n => rfl
          by_cases c26 : r24 = (-1)
          · rw [if_pos c26] at h
            refine ax_gt c26 s27 ?_
            obtain rfl := Option.some.inj h
            exact ax_rs 2 (fun n => rfl)
          · rw [if_neg c26] at h
            refine ax_gf c26 s27 ?_
            have s29 : ∀ n, ax_ex (e + 10) L_X10_way 34 [some (.inr (.inr (0, 0))), some (.inl v1), some (.inl v2), some (.inl v3), some (.inl (m.1 2 0 v1.toNatClampNeg)), some (.inl r24)] [] m25 (n + 3) = if v3 = (-1) then ax_ex (e + 10) L_X10_way 37 [some (.inr (.inr (0, 0))), some (.inl v1), some (.inl v2), some (.inl v3), some (.inl (m.1 2 0 v1.toNatClampNeg)), some (.inl r24)] [] m25 n else ax_ex (e + 10) L_X10_way 39 [some (.inr (.inr (0, 0))), some (.inl v1), some (.inl v2), some (.inl v3), some (.inl (m.1 2 0 v1.toNatClampNeg)), some (.inl r24)] [] m25 n := fun n => rfl
            by_cases c28 : v3 = (-1)
            · rw [if_pos c28] at h
              refine ax_gt c28 s29 ?_
              obtain rfl := Option.some.inj h
              exact ax_rs 2 (fun n => rfl)
            · rw [if_neg c28] at h
              refine ax_gf c28 s29 ?_
              have s31 : ∀ n, ax_ex (e + 10) L_X10_way 39 [some (.inr (.inr (0, 0))), some (.inl v1), some (.inl v2), some (.inl v3), some (.inl (m.1 2 0 v1.toNatClampNeg)), some (.inl r24)] [] m25 (n + 3) = if v3 < r24 then ax_ex (e + 10) L_X10_way 46 [some (.inr (.inr (0, 0))), some (.inl v1), some (.inl v2), some (.inl v3), some (.inl (m.1 2 0 v1.toNatClampNeg)), some (.inl r24)] [] m25 n else ax_ex (e + 10) L_X10_way 42 [some (.inr (.inr (0, 0))), some (.inl v1), some (.inl v2), some (.inl v3), some (.inl (m.1 2 0 v1.toNatClampNeg)), some (.inl r24)] [] m25 n := fun n => rfl
              by_cases c30 : v3 < r24
              · rw [if_pos c30] at h
                refine ax_gt c30 s31 ?_
                obtain ⟨r33, q32, h⟩ := ax_b_of h
                have s34 : ∀ n, ax_ex (e + 10) L_X10_way 46 [some (.inr (.inr (0, 0))), some (.inl v1), some (.inl v2), some (.inl v3), some (.inl (m.1 2 0 v1.toNatClampNeg)), some (.inl r24)] [] m25 (n + 6) = ax_aft (fun s m2 => ax_ex (e + 10) L_X10_way 52 [some (.inr (.inr (0, 0))), some (.inl v1), some (.inl v2), some (.inl v3), some (.inl (m.1 2 0 v1.toNatClampNeg)), some (.inl r24)] s m2 n) [] (ax_ex (e + 9) L_X9_cellOf 0 (ax_entry [.inr (.inr (13, 0)), .inl (m.1 2 0 v1.toNatClampNeg), .inl r24, .inl v3] 6) [] m25 n) := fun n => rfl
                refine ax_gci (j := 6) (k2 := 52) (lv2 := [some (.inr (.inr (0, 0))), some (.inl v1), some (.inl v2), some (.inl v3), some (.inl (m.1 2 0 v1.toNatClampNeg)), some (.inl r24)]) (rest := []) ((R_X9_cellOf (by omega) q32)) s34 ?_
                obtain rfl := Option.some.inj h
                exact ax_rs 1 (fun n => rfl)
              · rw [if_neg c30] at h
                refine ax_gf c30 s31 ?_
                obtain ⟨r36, m37, q35, h⟩ := ax_b2_of h
                have s38 : ∀ n, ax_ex (e + 10) L_X10_way 42 [some (.inr (.inr (0, 0))), some (.inl v1), some (.inl v2), some (.inl v3), some (.inl (m.1 2 0 v1.toNatClampNeg)), some (.inl r24)] [] m25 (n + 3) = ax_aft (fun s m2 => ax_ex (e + 10) L_X10_way 45 [some (.inr (.inr (0, 0))), some (.inl v1), some (.inl v2), some (.inl v3), some (.inl (m.1 2 0 v1.toNatClampNeg)), some (.inl r24)] s m2 n) [] (ax_ex (e + 9) L_X10_refuse 0 (ax_entry [.inr (.inr (0, 0)), .inl (-5)] 3) [] m25 n) := fun n => rfl
                refine ax_gci (j := 3) (k2 := 45) (lv2 := [some (.inr (.inr (0, 0))), some (.inl v1), some (.inl v2), some (.inl v3), some (.inl (m.1 2 0 v1.toNatClampNeg)), some (.inl r24)]) (rest := []) ((R_X10_refuse (by omega) q35)) s38 ?_
                obtain rfl := Option.some.inj h
                exact ax_rs 1 (fun n => rfl)
        · rw [if_neg c19] at h
          cases h
      · rw [if_neg c17] at h
        refine ax_gf c17 s18 ?_
        obtain ⟨r42, m43, q41, h⟩ := ax_b2_of h
        have s44 : ∀ n, ax_ex (e + 10) L_X10_way 11 [some (.inr (.inr (0, 0))), some (.inl v1), some (.inl v2), some (.inl v3), none, none] [] m (n + 3) = ax_aft (fun s m2 => ax_ex (e + 10) L_X10_way 14 [some (.inr (.inr (0, 0))), some (.inl v1), some (.inl v2), some (.inl v3), none, none] s m2 n) [] (ax_ex (e + 9) L_X10_refuse 0 (ax_entry [.inr (.inr (0, 0)), .inl (-2)] 3) [] m n) := fun n => rfl
        refine ax_gci (j := 3) (k2 := 14) (lv2 := [some (.inr (.inr (0, 0))), some (.inl v1), some (.inl v2), some (.inl v3), none, none]) (rest := []) ((R_X10_refuse (by omega) q41)) s44 ?_
        obtain rfl := Option.some.inj h
        exact ax_rs 1 (fun n => rfl)
def F_X10_hasWay (m : ax_M) (v1 : Int32) (v2 : Int32) (v3 : Int64) : Option (Int32 × ax_M) := if ax_ok v1 8 = true then (ax_b2 (F_X9_find m (m.1 2 0 v1.toNatClampNeg) v2 v3) (fun r4 m5 => if r4 = (-1) then (some (0, m5)) else (some (1, m5)))) else (none)
set_option maxRecDepth 20000 in
set_option maxHeartbeats 4000000 in
theorem R_X10_hasWay {d : Nat} (hd : 4 ≤ d) {m : ax_M} {v1 : Int32} {v2 : Int32} {v3 : Int64} {q : (Int32 × ax_M)} (h : F_X10_hasWay m v1 v2 v3 = some q) : ax_Ru d L_X10_hasWay 0 (ax_entry [.inr (.inr (0, 0)), .inl v1, .inl v2, .inr (.inl v3)] 5) [] m (some (.inl q.1), q.2) := by
  obtain ⟨e, rfl⟩ : ∃ e, d = e + 4 := ⟨d - 4, by omega⟩
  unfold F_X10_hasWay at h
  have s2 : ∀ n, ax_ex (e + 4) L_X10_hasWay 0 (ax_entry [.inr (.inr (0, 0)), .inl v1, .inl v2, .inr (.inl v3)] 5) [] m (n + 7) = if ax_ok v1 8 = true then ax_ex (e + 4) L_X10_hasWay 7 [some (.inr (.inr (0, 0))), some (.inl v1), some (.inl v2), some (.inr (.inl v3)), none] [.inl (m.1 2 0 v1.toNatClampNeg), .inr (.inr (13, 0))] m n else none := fun n => rfl
  by_cases c1 : ax_ok v1 8 = true
  · rw [if_pos c1] at h
    refine ax_gt c1 s2 ?_
    obtain ⟨r4, m5, q3, h⟩ := ax_b2_of h
    have s8 : ∀ n, ax_ex (e + 4) L_X10_hasWay 7 [some (.inr (.inr (0, 0))), some (.inl v1), some (.inl v2), some (.inr (.inl v3)), none] [.inl (m.1 2 0 v1.toNatClampNeg), .inr (.inr (13, 0))] m (n + 3) = ax_aft (fun s m2 => ax_ex (e + 4) L_X10_hasWay 10 [some (.inr (.inr (0, 0))), some (.inl v1), some (.inl v2), some (.inr (.inl v3)), none] s m2 n) [] (ax_ex (e + 3) L_X9_find 0 (ax_entry [.inr (.inr (13, 0)), .inl (m.1 2 0 v1.toNatClampNeg), .inl v2, .inr (.inl v3)] 8) [] m n) := fun n => rfl
    refine ax_gci (j := 3) (k2 := 10) (lv2 := [some (.inr (.inr (0, 0))), some (.inl v1), some (.inl v2), some (.inr (.inl v3)), none]) (rest := []) ((R_X9_find (by omega) q3)) s8 ?_
    have s7 : ∀ n, ax_ex (e + 4) L_X10_hasWay 10 [some (.inr (.inr (0, 0))), some (.inl v1), some (.inl v2), some (.inr (.inl v3)), none] [.inl r4] m5 (n + 2) = if r4 = (-1) then ax_ex (e + 4) L_X10_hasWay 14 [some (.inr (.inr (0, 0))), some (.inl v1), some (.inl v2), some (.inr (.inl v3)), none] [] m5 n else ax_ex (e + 4) L_X10_hasWay 12 [some (.inr (.inr (0, 0))), some (.inl v1), some (.inl v2), some (.inr (.inl v3)), none] [] m5 n := fun n => rfl
    by_cases c6 : r4 = (-1)
    · rw [if_pos c6] at h
      refine ax_gt c6 s7 ?_
      obtain rfl := Option.some.inj h
      exact ax_rq (c := (0 : Int32) = 0 ∨ (0 : Int32) = 1) (j := 2) (by decide) (fun n => rfl)
    · rw [if_neg c6] at h
      refine ax_gf c6 s7 ?_
      obtain rfl := Option.some.inj h
      exact ax_rq (c := (1 : Int32) = 0 ∨ (1 : Int32) = 1) (j := 3) (by decide) (fun n => rfl)
  · rw [if_neg c1] at h
    cases h
def F_X10_bar_L25 : Nat → ax_M → Int32 → Int32 → Int32 → Option (Int32 × ax_M)
  | 0, _, _, _, _ => none
  | n + 1, m, v1, v2, v3 => if (m.1 1 0 1) ≤ v3 then (some ((-1), m)) else (ax_b (F_X3_seedsBut m 0 v3) (fun r27 => ax_b (F_X3_quietAmong m 0 v1 r27) (fun r29 => ax_b2 (F_X10_hasWay m v1 v2 r29) (fun r31 m32 => if r31 = 0 then (F_X10_bar_L25 n m32 v1 v2 (v3 + 1)) else (some (v3, m32))))))
set_option maxRecDepth 20000 in
set_option maxHeartbeats 4000000 in
theorem R_X10_bar_L25 {e : Nat} {v1 : Int32} {v2 : Int32} : ∀ (n : Nat) (m : ax_M) (v3 : Int32) (q : (Int32 × ax_M)), F_X10_bar_L25 n m v1 v2 v3 = some q → ax_Ru (e + 10) L_X10_bar 25 [some (.inr (.inr (0, 0))), some (.inl v1), some (.inl v2), some (.inl v3)] [] m (some (.inl q.1), q.2) := by
  intro n
  induction n with
  | zero =>
    intro m v3 q h
    cases h
  | succ n ih =>
    intro m v3 q h
    rw [F_X10_bar_L25] at h
    have s25 : ∀ n, ax_ex (e + 10) L_X10_bar 25 [some (.inr (.inr (0, 0))), some (.inl v1), some (.inl v2), some (.inl v3)] [] m (n + 5) = if (m.1 1 0 1) ≤ v3 then ax_ex (e + 10) L_X10_bar 47 [some (.inr (.inr (0, 0))), some (.inl v1), some (.inl v2), some (.inl v3)] [] m n else ax_ex (e + 10) L_X10_bar 30 [some (.inr (.inr (0, 0))), some (.inl v1), some (.inl v2), some (.inl v3)] [] m n := fun n => rfl
    by_cases c24 : (m.1 1 0 1) ≤ v3
    · rw [if_pos c24] at h
      refine ax_gt c24 s25 ?_
      obtain rfl := Option.some.inj h
      exact ax_rs 2 (fun n => rfl)
    · rw [if_neg c24] at h
      refine ax_gf c24 s25 ?_
      obtain ⟨r27, q26, h⟩ := ax_b_of h
      have s37 : ∀ n, ax_ex (e + 10) L_X10_bar 30 [some (.inr (.inr (0, 0))), some (.inl v1), some (.inl v2), some (.inl v3)] [] m (n + 10) = ax_aft (fun s m2 => ax_ex (e + 10) L_X10_bar 40 [some (.inr (.inr (0, 0))), some (.inl v1), some (.inl v2), some (.inl v3)] s m2 n) [.inl v1, .inr (.inr (1, 0)), .inl v2, .inl v1, .inr (.inr (0, 0))] (ax_ex (e + 9) L_X3_seedsBut 0 (ax_entry [.inr (.inr (1, 0)), .inl v3] 4) [] m n) := fun n => rfl
      refine ax_gci (j := 10) (k2 := 40) (lv2 := [some (.inr (.inr (0, 0))), some (.inl v1), some (.inl v2), some (.inl v3)]) (rest := [.inl v1, .inr (.inr (1, 0)), .inl v2, .inl v1, .inr (.inr (0, 0))]) ((R_X3_seedsBut (by omega) q26)) s37 ?_
      obtain ⟨r29, q28, h⟩ := ax_b_of h
      have s36 : ∀ n, ax_ex (e + 10) L_X10_bar 40 [some (.inr (.inr (0, 0))), some (.inl v1), some (.inl v2), some (.inl v3)] [.inl r27, .inl v1, .inr (.inr (1, 0)), .inl v2, .inl v1, .inr (.inr (0, 0))] m (n + 1) = ax_aft (fun s m2 => ax_ex (e + 10) L_X10_bar 41 [some (.inr (.inr (0, 0))), some (.inl v1), some (.inl v2), some (.inl v3)] s m2 n) [.inl v2, .inl v1, .inr (.inr (0, 0))] (ax_ex (e + 9) L_X3_quietAmong 0 (ax_entry [.inr (.inr (1, 0)), .inl v1, .inl r27] 7) [] m n) := fun n => rfl
      refine ax_gcl (j := 1) (k2 := 41) (lv2 := [some (.inr (.inr (0, 0))), some (.inl v1), some (.inl v2), some (.inl v3)]) (rest := [.inl v2, .inl v1, .inr (.inr (0, 0))]) ((R_X3_quietAmong (by omega) q28)) s36 ?_
      obtain ⟨r31, m32, q30, h⟩ := ax_b2_of h
      have s35 : ∀ n, ax_ex (e + 10) L_X10_bar 41 [some (.inr (.inr (0, 0))), some (.inl v1), some (.inl v2), some (.inl v3)] [.inr (.inl r29), .inl v2, .inl v1, .inr (.inr (0, 0))] m (n + 1) = ax_aft (fun s m2 => ax_ex (e + 10) L_X10_bar 42 [some (.inr (.inr (0, 0))), some (.inl v1), some (.inl v2), some (.inl v3)] s m2 n) [] (ax_ex (e + 9) L_X10_hasWay 0 (ax_entry [.inr (.inr (0, 0)), .inl v1, .inl v2, .inr (.inl r29)] 5) [] m n) := fun n => rfl
      refine ax_gci (j := 1) (k2 := 42) (lv2 := [some (.inr (.inr (0, 0))), some (.inl v1), some (.inl v2), some (.inl v3)]) (rest := []) ((R_X10_hasWay (by omega) q30)) s35 ?_
      have s34 : ∀ n, ax_ex (e + 10) L_X10_bar 42 [some (.inr (.inr (0, 0))), some (.inl v1), some (.inl v2), some (.inl v3)] [.inl r31] m32 (n + 1) = if r31 = 0 then ax_ex (e + 10) L_X10_bar 45 [some (.inr (.inr (0, 0))), some (.inl v1), some (.inl v2), some (.inl v3)] [] m32 n else ax_ex (e + 10) L_X10_bar 43 [some (.inr (.inr (0, 0))), some (.inl v1), some (.inl v2), some (.inl v3)] [] m32 n := fun n => rfl
      by_cases c33 : r31 = 0
      · rw [if_pos c33] at h
        refine ax_gt c33 s34 ?_
        refine ax_go (j := 2) (k2 := 25) (lv2 := [some (.inr (.inr (0, 0))), some (.inl v1), some (.inl v2), some (.inl (v3 + 1))]) (st2 := []) (m2 := m32) (fun n => rfl) ?_
        exact ax_fg (lv2 := [some (.inr (.inr (0, 0))), some (.inl v1), some (.inl v2), some (.inl (v3 + 1))]) ⟨rfl, rfl, rfl, rfl, trivial⟩ (ih m32 (v3 + 1) _ h)
      · rw [if_neg c33] at h
        refine ax_gf c33 s34 ?_
        obtain rfl := Option.some.inj h
        exact ax_rs 2 (fun n => rfl)
def F_X10_bar (m : ax_M) (v1 : Int32) (v2 : Int32) : Option (Int32 × ax_M) := ax_b (F_X3_isPerson m 0 v1) (fun r2 => if r2 = 0 then (ax_b2 (F_X10_refuse m (-2)) (fun r6 m7 => some (r6, m7))) else (ax_b (F_X0_isCell v2) (fun r10 => if r10 = 0 then (ax_b2 (F_X10_refuse m (-2)) (fun r14 m15 => some (r14, m15))) else (ax_b (F_X3_quietFor m 0 v1) (fun r18 => ax_b2 (F_X10_hasWay m v1 v2 r18) (fun r20 m21 => if r20 = 0 then (F_X10_bar_L25 ax_FU m21 v1 v2 0) else (some ((-1), m21))))))))
set_option maxRecDepth 20000 in
set_option maxHeartbeats 4000000 in
theorem R_X10_bar {d : Nat} (hd : 10 ≤ d) {m : ax_M} {v1 : Int32} {v2 : Int32} {q : (Int32 × ax_M)} (h : F_X10_bar m v1 v2 = some q) : ax_Ru d L_X10_bar 0 (ax_entry [.inr (.inr (0, 0)), .inl v1, .inl v2] 4) [] m (some (.inl q.1), q.2) := by
  obtain ⟨e, rfl⟩ : ∃ e, d = e + 10 := ⟨d - 10, by omega⟩
  unfold F_X10_bar at h
  obtain ⟨r2, q1, h⟩ := ax_b_of h
  have s42 : ∀ n, ax_ex (e + 10) L_X10_bar 0 (ax_entry [.inr (.inr (0, 0)), .inl v1, .inl v2] 4) [] m (n + 4) = ax_aft (fun s m2 => ax_ex (e + 10) L_X10_bar 4 [some (.inr (.inr (0, 0))), some (.inl v1), some (.inl v2), none] s m2 n) [] (ax_ex (e + 9) L_X3_isPerson 0 (ax_entry [.inr (.inr (1, 0)), .inl v1] 2) [] m n) := fun n => rfl
  refine ax_gci (j := 4) (k2 := 4) (lv2 := [some (.inr (.inr (0, 0))), some (.inl v1), some (.inl v2), none]) (rest := []) ((R_X3_isPerson (by omega) q1)) s42 ?_
  have s4 : ∀ n, ax_ex (e + 10) L_X10_bar 4 [some (.inr (.inr (0, 0))), some (.inl v1), some (.inl v2), none] [.inl r2] m (n + 1) = if r2 = 0 then ax_ex (e + 10) L_X10_bar 8 [some (.inr (.inr (0, 0))), some (.inl v1), some (.inl v2), none] [] m n else ax_ex (e + 10) L_X10_bar 5 [some (.inr (.inr (0, 0))), some (.inl v1), some (.inl v2), none] [] m n := fun n => rfl
  by_cases c3 : r2 = 0
  · rw [if_pos c3] at h
    refine ax_gt c3 s4 ?_
    obtain ⟨r6, m7, q5, h⟩ := ax_b2_of h
    have s8 : ∀ n, ax_ex (e + 10) L_X10_bar 8 [some (.inr (.inr (0, 0))), some (.inl v1), some (.inl v2), none] [] m (n + 3) = ax_aft (fun s m2 => ax_ex (e + 10) L_X10_bar 11 [some (.inr (.inr (0, 0))), some (.inl v1), some (.inl v2), none] s m2 n) [] (ax_ex (e + 9) L_X10_refuse 0 (ax_entry [.inr (.inr (0, 0)), .inl (-2)] 3) [] m n) := fun n => rfl
    refine ax_gci (j := 3) (k2 := 11) (lv2 := [some (.inr (.inr (0, 0))), some (.inl v1), some (.inl v2), none]) (rest := []) ((R_X10_refuse (by omega) q5)) s8 ?_
    obtain rfl := Option.some.inj h
    exact ax_rs 1 (fun n => rfl)
  · rw [if_neg c3] at h
    refine ax_gf c3 s4 ?_
    obtain ⟨r10, q9, h⟩ := ax_b_of h
    have s41 : ∀ n, ax_ex (e + 10) L_X10_bar 5 [some (.inr (.inr (0, 0))), some (.inl v1), some (.inl v2), none] [] m (n + 2) = ax_aft (fun s m2 => ax_ex (e + 10) L_X10_bar 7 [some (.inr (.inr (0, 0))), some (.inl v1), some (.inl v2), none] s m2 n) [] (ax_ex (e + 9) L_X0_isCell 0 (ax_entry [.inl v2] 1) [] m n) := fun n => rfl
    refine ax_gci (j := 2) (k2 := 7) (lv2 := [some (.inr (.inr (0, 0))), some (.inl v1), some (.inl v2), none]) (rest := []) ((R_X0_isCell (by omega) q9)) s41 ?_
    have s12 : ∀ n, ax_ex (e + 10) L_X10_bar 7 [some (.inr (.inr (0, 0))), some (.inl v1), some (.inl v2), none] [.inl r10] m (n + 1) = if r10 = 0 then ax_ex (e + 10) L_X10_bar 8 [some (.inr (.inr (0, 0))), some (.inl v1), some (.inl v2), none] [] m n else ax_ex (e + 10) L_X10_bar 12 [some (.inr (.inr (0, 0))), some (.inl v1), some (.inl v2), none] [] m n := fun n => rfl
    by_cases c11 : r10 = 0
    · rw [if_pos c11] at h
      refine ax_gt c11 s12 ?_
      obtain ⟨r14, m15, q13, h⟩ := ax_b2_of h
      have s16 : ∀ n, ax_ex (e + 10) L_X10_bar 8 [some (.inr (.inr (0, 0))), some (.inl v1), some (.inl v2), none] [] m (n + 3) = ax_aft (fun s m2 => ax_ex (e + 10) L_X10_bar 11 [some (.inr (.inr (0, 0))), some (.inl v1), some (.inl v2), none] s m2 n) [] (ax_ex (e + 9) L_X10_refuse 0 (ax_entry [.inr (.inr (0, 0)), .inl (-2)] 3) [] m n) := fun n => rfl
      refine ax_gci (j := 3) (k2 := 11) (lv2 := [some (.inr (.inr (0, 0))), some (.inl v1), some (.inl v2), none]) (rest := []) ((R_X10_refuse (by omega) q13)) s16 ?_
      obtain rfl := Option.some.inj h
      exact ax_rs 1 (fun n => rfl)
    · rw [if_neg c11] at h
      refine ax_gf c11 s12 ?_
      obtain ⟨r18, q17, h⟩ := ax_b_of h
      have s40 : ∀ n, ax_ex (e + 10) L_X10_bar 12 [some (.inr (.inr (0, 0))), some (.inl v1), some (.inl v2), none] [] m (n + 7) = ax_aft (fun s m2 => ax_ex (e + 10) L_X10_bar 19 [some (.inr (.inr (0, 0))), some (.inl v1), some (.inl v2), none] s m2 n) [.inl v2, .inl v1, .inr (.inr (0, 0))] (ax_ex (e + 9) L_X3_quietFor 0 (ax_entry [.inr (.inr (1, 0)), .inl v1] 2) [] m n) := fun n => rfl
      refine ax_gcl (j := 7) (k2 := 19) (lv2 := [some (.inr (.inr (0, 0))), some (.inl v1), some (.inl v2), none]) (rest := [.inl v2, .inl v1, .inr (.inr (0, 0))]) ((R_X3_quietFor (by omega) q17)) s40 ?_
      obtain ⟨r20, m21, q19, h⟩ := ax_b2_of h
      have s39 : ∀ n, ax_ex (e + 10) L_X10_bar 19 [some (.inr (.inr (0, 0))), some (.inl v1), some (.inl v2), none] [.inr (.inl r18), .inl v2, .inl v1, .inr (.inr (0, 0))] m (n + 1) = ax_aft (fun s m2 => ax_ex (e + 10) L_X10_bar 20 [some (.inr (.inr (0, 0))), some (.inl v1), some (.inl v2), none] s m2 n) [] (ax_ex (e + 9) L_X10_hasWay 0 (ax_entry [.inr (.inr (0, 0)), .inl v1, .inl v2, .inr (.inl r18)] 5) [] m n) := fun n => rfl
      refine ax_gci (j := 1) (k2 := 20) (lv2 := [some (.inr (.inr (0, 0))), some (.inl v1), some (.inl v2), none]) (rest := []) ((R_X10_hasWay (by omega) q19)) s39 ?_
      have s23 : ∀ n, ax_ex (e + 10) L_X10_bar 20 [some (.inr (.inr (0, 0))), some (.inl v1), some (.inl v2), none] [.inl r20] m21 (n + 1) = if r20 = 0 then ax_ex (e + 10) L_X10_bar 23 [some (.inr (.inr (0, 0))), some (.inl v1), some (.inl v2), none] [] m21 n else ax_ex (e + 10) L_X10_bar 21 [some (.inr (.inr (0, 0))), some (.inl v1), some (.inl v2), none] [] m21 n := fun n => rfl
      by_cases c22 : r20 = 0
      · rw [if_pos c22] at h
        refine ax_gt c22 s23 ?_
        refine ax_go (j := 2) (k2 := 25) (lv2 := [some (.inr (.inr (0, 0))), some (.inl v1), some (.inl v2), some (.inl 0)]) (st2 := []) (m2 := m21) (fun n => rfl) ?_
        refine ax_fg (lv2 := [some (.inr (.inr (0, 0))), some (.inl v1), some (.inl v2), some (.inl 0)]) ⟨rfl, rfl, rfl, rfl, trivial⟩ ?_
        refine R_X10_bar_L25 _ m21 0 _ h
      · rw [if_neg c22] at h
        refine ax_gf c22 s23 ?_
        obtain rfl := Option.some.inj h
        exact ax_rs 2 (fun n => rfl)
def F_X10_reach (m : ax_M) (v1 : Int32) : Option (Int32 × ax_M) := ax_b (F_X3_isPerson m 0 v1) (fun r2 => if r2 = 0 then (ax_b2 (F_X10_refuse m (-2)) (fun r6 m7 => some (r6, m7))) else (if ax_ok v1 8 = true then (ax_b (F_X3_quietFor m 0 v1) (fun r12 => ax_b (F_X9_flood (m.1 2 0 v1.toNatClampNeg) r12) (fun r14 => ax_b (F_J13_bitCount_95d88 r14) (fun r16 => some (r16, m))))) else (none)))
set_option maxRecDepth 20000 in
set_option maxHeartbeats 4000000 in
theorem R_X10_reach {d : Nat} (hd : 10 ≤ d) {m : ax_M} {v1 : Int32} {q : (Int32 × ax_M)} (h : F_X10_reach m v1 = some q) : ax_Ru d L_X10_reach 0 (ax_entry [.inr (.inr (0, 0)), .inl v1] 2) [] m (some (.inl q.1), q.2) := by
  obtain ⟨e, rfl⟩ : ∃ e, d = e + 10 := ⟨d - 10, by omega⟩
  unfold F_X10_reach at h
  obtain ⟨r2, q1, h⟩ := ax_b_of h
  have s20 : ∀ n, ax_ex (e + 10) L_X10_reach 0 (ax_entry [.inr (.inr (0, 0)), .inl v1] 2) [] m (n + 4) = ax_aft (fun s m2 => ax_ex (e + 10) L_X10_reach 4 [some (.inr (.inr (0, 0))), some (.inl v1)] s m2 n) [] (ax_ex (e + 9) L_X3_isPerson 0 (ax_entry [.inr (.inr (1, 0)), .inl v1] 2) [] m n) := fun n => rfl
  refine ax_gci (j := 4) (k2 := 4) (lv2 := [some (.inr (.inr (0, 0))), some (.inl v1)]) (rest := []) ((R_X3_isPerson (by omega) q1)) s20 ?_
  have s4 : ∀ n, ax_ex (e + 10) L_X10_reach 4 [some (.inr (.inr (0, 0))), some (.inl v1)] [.inl r2] m (n + 1) = if r2 = 0 then ax_ex (e + 10) L_X10_reach 5 [some (.inr (.inr (0, 0))), some (.inl v1)] [] m n else ax_ex (e + 10) L_X10_reach 9 [some (.inr (.inr (0, 0))), some (.inl v1)] [] m n := fun n => rfl
  by_cases c3 : r2 = 0
  · rw [if_pos c3] at h
    refine ax_gt c3 s4 ?_
    obtain ⟨r6, m7, q5, h⟩ := ax_b2_of h
    have s8 : ∀ n, ax_ex (e + 10) L_X10_reach 5 [some (.inr (.inr (0, 0))), some (.inl v1)] [] m (n + 3) = ax_aft (fun s m2 => ax_ex (e + 10) L_X10_reach 8 [some (.inr (.inr (0, 0))), some (.inl v1)] s m2 n) [] (ax_ex (e + 9) L_X10_refuse 0 (ax_entry [.inr (.inr (0, 0)), .inl (-2)] 3) [] m n) := fun n => rfl
    refine ax_gci (j := 3) (k2 := 8) (lv2 := [some (.inr (.inr (0, 0))), some (.inl v1)]) (rest := []) ((R_X10_refuse (by omega) q5)) s8 ?_
    obtain rfl := Option.some.inj h
    exact ax_rs 1 (fun n => rfl)
  · rw [if_neg c3] at h
    refine ax_gf c3 s4 ?_
    have s10 : ∀ n, ax_ex (e + 10) L_X10_reach 9 [some (.inr (.inr (0, 0))), some (.inl v1)] [] m (n + 5) = if ax_ok v1 8 = true then ax_ex (e + 10) L_X10_reach 14 [some (.inr (.inr (0, 0))), some (.inl v1)] [.inl (m.1 2 0 v1.toNatClampNeg)] m n else none := fun n => rfl
    by_cases c9 : ax_ok v1 8 = true
    · rw [if_pos c9] at h
      refine ax_gt c9 s10 ?_
      obtain ⟨r12, q11, h⟩ := ax_b_of h
      have s19 : ∀ n, ax_ex (e + 10) L_X10_reach 14 [some (.inr (.inr (0, 0))), some (.inl v1)] [.inl (m.1 2 0 v1.toNatClampNeg)] m (n + 4) = ax_aft (fun s m2 => ax_ex (e + 10) L_X10_reach 18 [some (.inr (.inr (0, 0))), some (.inl v1)] s m2 n) [.inl (m.1 2 0 v1.toNatClampNeg)] (ax_ex (e + 9) L_X3_quietFor 0 (ax_entry [.inr (.inr (1, 0)), .inl v1] 2) [] m n) := fun n => rfl
      refine ax_gcl (j := 4) (k2 := 18) (lv2 := [some (.inr (.inr (0, 0))), some (.inl v1)]) (rest := [.inl (m.1 2 0 v1.toNatClampNeg)]) ((R_X3_quietFor (by omega) q11)) s19 ?_
      obtain ⟨r14, q13, h⟩ := ax_b_of h
      have s18 : ∀ n, ax_ex (e + 10) L_X10_reach 18 [some (.inr (.inr (0, 0))), some (.inl v1)] [.inr (.inl r12), .inl (m.1 2 0 v1.toNatClampNeg)] m (n + 1) = ax_aft (fun s m2 => ax_ex (e + 10) L_X10_reach 19 [some (.inr (.inr (0, 0))), some (.inl v1)] s m2 n) [] (ax_ex (e + 9) L_X9_flood 0 (ax_entry [.inl (m.1 2 0 v1.toNatClampNeg), .inr (.inl r12)] 6) [] m n) := fun n => rfl
      refine ax_gcl (j := 1) (k2 := 19) (lv2 := [some (.inr (.inr (0, 0))), some (.inl v1)]) (rest := []) ((R_X9_flood (by omega) q13)) s18 ?_
      obtain ⟨r16, q15, h⟩ := ax_b_of h
      have s17 : ∀ n, ax_ex (e + 10) L_X10_reach 19 [some (.inr (.inr (0, 0))), some (.inl v1)] [.inr (.inl r14)] m (n + 1) = ax_aft (fun s m2 => ax_ex (e + 10) L_X10_reach 20 [some (.inr (.inr (0, 0))), some (.inl v1)] s m2 n) [] (ax_ex (e + 9) L_J13_bitCount_95d88 0 (ax_entry [.inr (.inl r14)] 2) [] m n) := fun n => rfl
      refine ax_gci (j := 1) (k2 := 20) (lv2 := [some (.inr (.inr (0, 0))), some (.inl v1)]) (rest := []) ((R_J13_bitCount_95d88 (by omega) q15)) s17 ?_
      obtain rfl := Option.some.inj h
      exact ax_rs 1 (fun n => rfl)
    · rw [if_neg c9] at h
      cases h
def F_X10_loud (m : ax_M) (v1 : Int32) : Option (Int32 × ax_M) := ax_b (F_X3_isPerson m 0 v1) (fun r2 => if r2 = 0 then (ax_b2 (F_X10_refuse m (-2)) (fun r6 m7 => some (r6, m7))) else (ax_b (F_X3_quietFor m 0 v1) (fun r10 => ax_b (F_J13_bitCount_95d88 (((m.2 1 0 0) ^^^ (-1)) &&& (r10 ^^^ (-1)))) (fun r12 => some (r12, m)))))
set_option maxRecDepth 20000 in
set_option maxHeartbeats 4000000 in
theorem R_X10_loud {d : Nat} (hd : 10 ≤ d) {m : ax_M} {v1 : Int32} {q : (Int32 × ax_M)} (h : F_X10_loud m v1 = some q) : ax_Ru d L_X10_loud 0 (ax_entry [.inr (.inr (0, 0)), .inl v1] 2) [] m (some (.inl q.1), q.2) := by
  obtain ⟨e, rfl⟩ : ∃ e, d = e + 10 := ⟨d - 10, by omega⟩
  unfold F_X10_loud at h
  obtain ⟨r2, q1, h⟩ := ax_b_of h
  have s15 : ∀ n, ax_ex (e + 10) L_X10_loud 0 (ax_entry [.inr (.inr (0, 0)), .inl v1] 2) [] m (n + 4) = ax_aft (fun s m2 => ax_ex (e + 10) L_X10_loud 4 [some (.inr (.inr (0, 0))), some (.inl v1)] s m2 n) [] (ax_ex (e + 9) L_X3_isPerson 0 (ax_entry [.inr (.inr (1, 0)), .inl v1] 2) [] m n) := fun n => rfl
  refine ax_gci (j := 4) (k2 := 4) (lv2 := [some (.inr (.inr (0, 0))), some (.inl v1)]) (rest := []) ((R_X3_isPerson (by omega) q1)) s15 ?_
  have s4 : ∀ n, ax_ex (e + 10) L_X10_loud 4 [some (.inr (.inr (0, 0))), some (.inl v1)] [.inl r2] m (n + 1) = if r2 = 0 then ax_ex (e + 10) L_X10_loud 5 [some (.inr (.inr (0, 0))), some (.inl v1)] [] m n else ax_ex (e + 10) L_X10_loud 9 [some (.inr (.inr (0, 0))), some (.inl v1)] [] m n := fun n => rfl
  by_cases c3 : r2 = 0
  · rw [if_pos c3] at h
    refine ax_gt c3 s4 ?_
    obtain ⟨r6, m7, q5, h⟩ := ax_b2_of h
    have s8 : ∀ n, ax_ex (e + 10) L_X10_loud 5 [some (.inr (.inr (0, 0))), some (.inl v1)] [] m (n + 3) = ax_aft (fun s m2 => ax_ex (e + 10) L_X10_loud 8 [some (.inr (.inr (0, 0))), some (.inl v1)] s m2 n) [] (ax_ex (e + 9) L_X10_refuse 0 (ax_entry [.inr (.inr (0, 0)), .inl (-2)] 3) [] m n) := fun n => rfl
    refine ax_gci (j := 3) (k2 := 8) (lv2 := [some (.inr (.inr (0, 0))), some (.inl v1)]) (rest := []) ((R_X10_refuse (by omega) q5)) s8 ?_
    obtain rfl := Option.some.inj h
    exact ax_rs 1 (fun n => rfl)
  · rw [if_neg c3] at h
    refine ax_gf c3 s4 ?_
    obtain ⟨r10, q9, h⟩ := ax_b_of h
    have s14 : ∀ n, ax_ex (e + 10) L_X10_loud 9 [some (.inr (.inr (0, 0))), some (.inl v1)] [] m (n + 9) = ax_aft (fun s m2 => ax_ex (e + 10) L_X10_loud 18 [some (.inr (.inr (0, 0))), some (.inl v1)] s m2 n) [.inr (.inl ((m.2 1 0 0) ^^^ (-1)))] (ax_ex (e + 9) L_X3_quietFor 0 (ax_entry [.inr (.inr (1, 0)), .inl v1] 2) [] m n) := fun n => rfl
    refine ax_gcl (j := 9) (k2 := 18) (lv2 := [some (.inr (.inr (0, 0))), some (.inl v1)]) (rest := [.inr (.inl ((m.2 1 0 0) ^^^ (-1)))]) ((R_X3_quietFor (by omega) q9)) s14 ?_
    obtain ⟨r12, q11, h⟩ := ax_b_of h
    have s13 : ∀ n, ax_ex (e + 10) L_X10_loud 18 [some (.inr (.inr (0, 0))), some (.inl v1)] [.inr (.inl r10), .inr (.inl ((m.2 1 0 0) ^^^ (-1)))] m (n + 4) = ax_aft (fun s m2 => ax_ex (e + 10) L_X10_loud 22 [some (.inr (.inr (0, 0))), some (.inl v1)] s m2 n) [] (ax_ex (e + 9) L_J13_bitCount_95d88 0 (ax_entry [.inr (.inl (((m.2 1 0 0) ^^^ (-1)) &&& (r10 ^^^ (-1))))] 2) [] m n) := fun n => rfl
    refine ax_gci (j := 4) (k2 := 22) (lv2 := [some (.inr (.inr (0, 0))), some (.inl v1)]) (rest := []) ((R_J13_bitCount_95d88 (by omega) q11)) s13 ?_
    obtain rfl := Option.some.inj h
    exact ax_rs 1 (fun n => rfl)
def F_X10_together_L11 : Nat → ax_M → Int32 → Int32 → Int32 → Option (Int32 × ax_M)
  | 0, _, _, _, _ => none
  | n + 1, m, v1, v2, v3 => if (m.1 1 0 1) ≤ v3 then (some (v2, m)) else (ax_b (F_X3_quietFor m 0 v3) (fun r12 => ax_b2 (F_X10_hasWay m v3 v1 r12) (fun r14 m15 => if r14 = 0 then (F_X10_together_L11 n m15 v1 v2 (v3 + 1)) else (F_X10_together_L11 n m15 v1 (v2 ||| (ax_ishl 1 v3)) (v3 + 1)))))
set_option maxRecDepth 20000 in
set_option maxHeartbeats 4000000 in
theorem R_X10_together_L11 {e : Nat} {v1 : Int32} : ∀ (n : Nat) (m : ax_M) (v2 : Int32) (v3 : Int32) (q : (Int32 × ax_M)), F_X10_together_L11 n m v1 v2 v3 = some q → ax_Ru (e + 10) L_X10_together 11 [some (.inr (.inr (0, 0))), some (.inl v1), some (.inl v2), some (.inl v3)] [] m (some (.inl q.1), q.2) := by
  intro n
  induction n with
  | zero =>
    intro m v2 v3 q h
    cases h
  | succ n ih =>
    intro m v2 v3 q h
    rw [F_X10_together_L11] at h
    have s10 : ∀ n, ax_ex (e + 10) L_X10_together 11 [some (.inr (.inr (0, 0))), some (.inl v1), some (.inl v2), some (.inl v3)] [] m (n + 5) = if (m.1 1 0 1) ≤ v3 then ax_ex (e + 10) L_X10_together 33 [some (.inr (.inr (0, 0))), some (.inl v1), some (.inl v2), some (.inl v3)] [] m n else ax_ex (e + 10) L_X10_together 16 [some (.inr (.inr (0, 0))), some (.inl v1), some (.inl v2), some (.inl v3)] [] m n := fun n => rfl
    by_cases c9 : (m.1 1 0 1) ≤ v3
    · rw [if_pos c9] at h
      refine ax_gt c9 s10 ?_
      obtain rfl := Option.some.inj h
      exact ax_rs 2 (fun n => rfl)
    · rw [if_neg c9] at h
      refine ax_gf c9 s10 ?_
      obtain ⟨r12, q11, h⟩ := ax_b_of h
      have s19 : ∀ n, ax_ex (e + 10) L_X10_together 16 [some (.inr (.inr (0, 0))), some (.inl v1), some (.inl v2), some (.inl v3)] [] m (n + 7) = ax_aft (fun s m2 => ax_ex (e + 10) L_X10_together 23 [some (.inr (.inr (0, 0))), some (.inl v1), some (.inl v2), some (.inl v3)] s m2 n) [.inl v1, .inl v3, .inr (.inr (0, 0))] (ax_ex (e + 9) L_X3_quietFor 0 (ax_entry [.inr (.inr (1, 0)), .inl v3] 2) [] m n) := fun n => rfl
      refine ax_gcl (j := 7) (k2 := 23) (lv2 := [some (.inr (.inr (0, 0))), some (.inl v1), some (.inl v2), some (.inl v3)]) (rest := [.inl v1, .inl v3, .inr (.inr (0, 0))]) ((R_X3_quietFor (by omega) q11)) s19 ?_
      obtain ⟨r14, m15, q13, h⟩ := ax_b2_of h
      have s18 : ∀ n, ax_ex (e + 10) L_X10_together 23 [some (.inr (.inr (0, 0))), some (.inl v1), some (.inl v2), some (.inl v3)] [.inr (.inl r12), .inl v1, .inl v3, .inr (.inr (0, 0))] m (n + 1) = ax_aft (fun s m2 => ax_ex (e + 10) L_X10_together 24 [some (.inr (.inr (0, 0))), some (.inl v1), some (.inl v2), some (.inl v3)] s m2 n) [] (ax_ex (e + 9) L_X10_hasWay 0 (ax_entry [.inr (.inr (0, 0)), .inl v3, .inl v1, .inr (.inl r12)] 5) [] m n) := fun n => rfl
      refine ax_gci (j := 1) (k2 := 24) (lv2 := [some (.inr (.inr (0, 0))), some (.inl v1), some (.inl v2), some (.inl v3)]) (rest := []) ((R_X10_hasWay (by omega) q13)) s18 ?_
      have s17 : ∀ n, ax_ex (e + 10) L_X10_together 24 [some (.inr (.inr (0, 0))), some (.inl v1), some (.inl v2), some (.inl v3)] [.inl r14] m15 (n + 1) = if r14 = 0 then ax_ex (e + 10) L_X10_together 31 [some (.inr (.inr (0, 0))), some (.inl v1), some (.inl v2), some (.inl v3)] [] m15 n else ax_ex (e + 10) L_X10_together 25 [some (.inr (.inr (0, 0))), some (.inl v1), some (.inl v2), some (.inl v3)] [] m15 n := fun n => rfl
      by_cases c16 : r14 = 0
      · rw [if_pos c16] at h
        refine ax_gt c16 s17 ?_
        refine ax_go (j := 2) (k2 := 11) (lv2 := [some (.inr (.inr (0, 0))), some (.inl v1), some (.inl v2), some (.inl (v3 + 1))]) (st2 := []) (m2 := m15) (fun n => rfl) ?_
        exact ax_fg (lv2 := [some (.inr (.inr (0, 0))), some (.inl v1), some (.inl v2), some (.inl (v3 + 1))]) ⟨rfl, rfl, rfl, rfl, trivial⟩ (ih m15 v2 (v3 + 1) _ h)
      · rw [if_neg c16] at h
        refine ax_gf c16 s17 ?_
        refine ax_go (j := 8) (k2 := 11) (lv2 := [some (.inr (.inr (0, 0))), some (.inl v1), some (.inl (v2 ||| (ax_ishl 1 v3))), some (.inl (v3 + 1))]) (st2 := []) (m2 := m15) (fun n => rfl) ?_
        exact ax_fg (lv2 := [some (.inr (.inr (0, 0))), some (.inl v1), some (.inl (v2 ||| (ax_ishl 1 v3))), some (.inl (v3 + 1))]) ⟨rfl, rfl, rfl, rfl, trivial⟩ (ih m15 (v2 ||| (ax_ishl 1 v3)) (v3 + 1) _ h)
def F_X10_together (m : ax_M) (v1 : Int32) : Option (Int32 × ax_M) := ax_b (F_X0_isCell v1) (fun r2 => if r2 = 0 then (ax_b2 (F_X10_refuse m (-2)) (fun r6 m7 => some (r6, m7))) else (F_X10_together_L11 ax_FU m v1 0 0))
set_option maxRecDepth 20000 in
set_option maxHeartbeats 4000000 in
theorem R_X10_together {d : Nat} (hd : 10 ≤ d) {m : ax_M} {v1 : Int32} {q : (Int32 × ax_M)} (h : F_X10_together m v1 = some q) : ax_Ru d L_X10_together 0 (ax_entry [.inr (.inr (0, 0)), .inl v1] 4) [] m (some (.inl q.1), q.2) := by
  obtain ⟨e, rfl⟩ : ∃ e, d = e + 10 := ⟨d - 10, by omega⟩
  unfold F_X10_together at h
  obtain ⟨r2, q1, h⟩ := ax_b_of h
  have s21 : ∀ n, ax_ex (e + 10) L_X10_together 0 (ax_entry [.inr (.inr (0, 0)), .inl v1] 4) [] m (n + 2) = ax_aft (fun s m2 => ax_ex (e + 10) L_X10_together 2 [some (.inr (.inr (0, 0))), some (.inl v1), none, none] s m2 n) [] (ax_ex (e + 9) L_X0_isCell 0 (ax_entry [.inl v1] 1) [] m n) := fun n => rfl
  refine ax_gci (j := 2) (k2 := 2) (lv2 := [some (.inr (.inr (0, 0))), some (.inl v1), none, none]) (rest := []) ((R_X0_isCell (by omega) q1)) s21 ?_
  have s4 : ∀ n, ax_ex (e + 10) L_X10_together 2 [some (.inr (.inr (0, 0))), some (.inl v1), none, none] [.inl r2] m (n + 1) = if r2 = 0 then ax_ex (e + 10) L_X10_together 3 [some (.inr (.inr (0, 0))), some (.inl v1), none, none] [] m n else ax_ex (e + 10) L_X10_together 7 [some (.inr (.inr (0, 0))), some (.inl v1), none, none] [] m n := fun n => rfl
  by_cases c3 : r2 = 0
  · rw [if_pos c3] at h
    refine ax_gt c3 s4 ?_
    obtain ⟨r6, m7, q5, h⟩ := ax_b2_of h
    have s8 : ∀ n, ax_ex (e + 10) L_X10_together 3 [some (.inr (.inr (0, 0))), some (.inl v1), none, none] [] m (n + 3) = ax_aft (fun s m2 => ax_ex (e + 10) L_X10_together 6 [some (.inr (.inr (0, 0))), some (.inl v1), none, none] s m2 n) [] (ax_ex (e + 9) L_X10_refuse 0 (ax_entry [.inr (.inr (0, 0)), .inl (-2)] 3) [] m n) := fun n => rfl
    refine ax_gci (j := 3) (k2 := 6) (lv2 := [some (.inr (.inr (0, 0))), some (.inl v1), none, none]) (rest := []) ((R_X10_refuse (by omega) q5)) s8 ?_
    obtain rfl := Option.some.inj h
    exact ax_rs 1 (fun n => rfl)
  · rw [if_neg c3] at h
    refine ax_gf c3 s4 ?_
    refine ax_go (j := 4) (k2 := 11) (lv2 := [some (.inr (.inr (0, 0))), some (.inl v1), some (.inl 0), some (.inl 0)]) (st2 := []) (m2 := m) (fun n => rfl) ?_
    refine ax_fg (lv2 := [some (.inr (.inr (0, 0))), some (.inl v1), some (.inl 0), some (.inl 0)]) ⟨rfl, rfl, rfl, rfl, trivial⟩ ?_
    refine R_X10_together_L11 _ m 0 0 _ h
def F_X10_calm_L8 : Nat → ax_M → Int64 → Int32 → Option Int32
  | 0, _, _, _ => none
  | n + 1, m, v1, v3 => if (m.1 1 0 1) ≤ v3 then (ax_b (F_J13_bitCount_95d88 v1) (fun r4 => some r4)) else (ax_b (F_X3_quietFor m 0 v3) (fun r7 => F_X10_calm_L8 n m (v1 &&& r7) (v3 + 1)))
set_option maxRecDepth 20000 in
set_option maxHeartbeats 4000000 in
theorem R_X10_calm_L8 {e : Nat} {m : ax_M} : ∀ (n : Nat) (v1 : Int64) (v3 : Int32) (q : Int32), F_X10_calm_L8 n m v1 v3 = some q → ax_Ru (e + 10) L_X10_calm 8 [some (.inr (.inr (0, 0))), some (.inr (.inl v1)), none, some (.inl v3)] [] m (some (.inl q), m) := by
  intro n
  induction n with
  | zero =>
    intro v1 v3 q h
    cases h
  | succ n ih =>
    intro v1 v3 q h
    rw [F_X10_calm_L8] at h
    have s2 : ∀ n, ax_ex (e + 10) L_X10_calm 8 [some (.inr (.inr (0, 0))), some (.inr (.inl v1)), none, some (.inl v3)] [] m (n + 5) = if (m.1 1 0 1) ≤ v3 then ax_ex (e + 10) L_X10_calm 22 [some (.inr (.inr (0, 0))), some (.inr (.inl v1)), none, some (.inl v3)] [] m n else ax_ex (e + 10) L_X10_calm 13 [some (.inr (.inr (0, 0))), some (.inr (.inl v1)), none, some (.inl v3)] [] m n := fun n => rfl
    by_cases c1 : (m.1 1 0 1) ≤ v3
    · rw [if_pos c1] at h
      refine ax_gt c1 s2 ?_
      obtain ⟨r4, q3, h⟩ := ax_b_of h
      have s5 : ∀ n, ax_ex (e + 10) L_X10_calm 22 [some (.inr (.inr (0, 0))), some (.inr (.inl v1)), none, some (.inl v3)] [] m (n + 2) = ax_aft (fun s m2 => ax_ex (e + 10) L_X10_calm 24 [some (.inr (.inr (0, 0))), some (.inr (.inl v1)), none, some (.inl v3)] s m2 n) [] (ax_ex (e + 9) L_J13_bitCount_95d88 0 (ax_entry [.inr (.inl v1)] 2) [] m n) := fun n => rfl
      refine ax_gci (j := 2) (k2 := 24) (lv2 := [some (.inr (.inr (0, 0))), some (.inr (.inl v1)), none, some (.inl v3)]) (rest := []) ((R_J13_bitCount_95d88 (by omega) q3)) s5 ?_
      obtain rfl := Option.some.inj h
      exact ax_rs 1 (fun n => rfl)
    · rw [if_neg c1] at h
      refine ax_gf c1 s2 ?_
      obtain ⟨r7, q6, h⟩ := ax_b_of h
      have s8 : ∀ n, ax_ex (e + 10) L_X10_calm 13 [some (.inr (.inr (0, 0))), some (.inr (.inl v1)), none, some (.inl v3)] [] m (n + 5) = ax_aft (fun s m2 => ax_ex (e + 10) L_X10_calm 18 [some (.inr (.inr (0, 0))), some (.inr (.inl v1)), none, some (.inl v3)] s m2 n) [.inr (.inl v1)] (ax_ex (e + 9) L_X3_quietFor 0 (ax_entry [.inr (.inr (1, 0)), .inl v3] 2) [] m n) := fun n => rfl
      refine ax_gcl (j := 5) (k2 := 18) (lv2 := [some (.inr (.inr (0, 0))), some (.inr (.inl v1)), none, some (.inl v3)]) (rest := [.inr (.inl v1)]) ((R_X3_quietFor (by omega) q6)) s8 ?_
      refine ax_go (j := 4) (k2 := 8) (lv2 := [some (.inr (.inr (0, 0))), some (.inr (.inl (v1 &&& r7))), none, some (.inl (v3 + 1))]) (st2 := []) (m2 := m) (fun n => rfl) ?_
      exact ax_fg (lv2 := [some (.inr (.inr (0, 0))), some (.inr (.inl (v1 &&& r7))), none, some (.inl (v3 + 1))]) ⟨rfl, rfl, rfl, trivial⟩ (ih (v1 &&& r7) (v3 + 1) _ h)
def F_X10_calm (m : ax_M) : Option Int32 := F_X10_calm_L8 ax_FU m ((m.2 1 0 0) ^^^ (-1)) 0
set_option maxRecDepth 20000 in
set_option maxHeartbeats 4000000 in
theorem R_X10_calm {d : Nat} (hd : 10 ≤ d) {m : ax_M} {q : Int32} (h : F_X10_calm m = some q) : ax_Ru d L_X10_calm 0 (ax_entry [.inr (.inr (0, 0))] 4) [] m (some (.inl q), m) := by
  obtain ⟨e, rfl⟩ : ∃ e, d = e + 10 := ⟨d - 10, by omega⟩
  unfold F_X10_calm at h
  refine ax_go (j := 8) (k2 := 8) (lv2 := [some (.inr (.inr (0, 0))), some (.inr (.inl ((m.2 1 0 0) ^^^ (-1)))), none, some (.inl 0)]) (st2 := []) (m2 := m) (fun n => rfl) ?_
  refine ax_fg (lv2 := [some (.inr (.inr (0, 0))), some (.inr (.inl ((m.2 1 0 0) ^^^ (-1)))), none, some (.inl 0)]) ⟨rfl, rfl, rfl, trivial⟩ ?_
  refine R_X10_calm_L8 _ ((m.2 1 0 0) ^^^ (-1)) 0 _ h
def F_X10_idle_L4 : Nat → ax_M → Int32 → Int32 → Option Int32
  | 0, _, _, _ => none
  | n + 1, m, v1, v2 => if (m.1 1 0 1) ≤ v2 then (ax_b (F_X3_allSeeds m 0) (fun r4 => some (r4 &&& (v1 ^^^ (-1))))) else (ax_b (F_X3_enoughOf m 0 v2) (fun r7 => F_X10_idle_L4 n m (v1 ||| r7) (v2 + 1)))
set_option maxRecDepth 20000 in
set_option maxHeartbeats 4000000 in
theorem R_X10_idle_L4 {e : Nat} {m : ax_M} : ∀ (n : Nat) (v1 : Int32) (v2 : Int32) (q : Int32), F_X10_idle_L4 n m v1 v2 = some q → ax_Ru (e + 8) L_X10_idle 4 [some (.inr (.inr (0, 0))), some (.inl v1), some (.inl v2)] [] m (some (.inl q), m) := by
  intro n
  induction n with
  | zero =>
    intro v1 v2 q h
    cases h
  | succ n ih =>
    intro v1 v2 q h
    rw [F_X10_idle_L4] at h
    have s2 : ∀ n, ax_ex (e + 8) L_X10_idle 4 [some (.inr (.inr (0, 0))), some (.inl v1), some (.inl v2)] [] m (n + 5) = if (m.1 1 0 1) ≤ v2 then ax_ex (e + 8) L_X10_idle 18 [some (.inr (.inr (0, 0))), some (.inl v1), some (.inl v2)] [] m n else ax_ex (e + 8) L_X10_idle 9 [some (.inr (.inr (0, 0))), some (.inl v1), some (.inl v2)] [] m n := fun n => rfl
    by_cases c1 : (m.1 1 0 1) ≤ v2
    · rw [if_pos c1] at h
      refine ax_gt c1 s2 ?_
      obtain ⟨r4, q3, h⟩ := ax_b_of h
      have s5 : ∀ n, ax_ex (e + 8) L_X10_idle 18 [some (.inr (.inr (0, 0))), some (.inl v1), some (.inl v2)] [] m (n + 3) = ax_aft (fun s m2 => ax_ex (e + 8) L_X10_idle 21 [some (.inr (.inr (0, 0))), some (.inl v1), some (.inl v2)] s m2 n) [] (ax_ex (e + 7) L_X3_allSeeds 0 (ax_entry [.inr (.inr (1, 0))] 1) [] m n) := fun n => rfl
      refine ax_gci (j := 3) (k2 := 21) (lv2 := [some (.inr (.inr (0, 0))), some (.inl v1), some (.inl v2)]) (rest := []) ((R_X3_allSeeds (by omega) q3)) s5 ?_
      obtain rfl := Option.some.inj h
      exact ax_rs 5 (fun n => rfl)
    · rw [if_neg c1] at h
      refine ax_gf c1 s2 ?_
      obtain ⟨r7, q6, h⟩ := ax_b_of h
      have s8 : ∀ n, ax_ex (e + 8) L_X10_idle 9 [some (.inr (.inr (0, 0))), some (.inl v1), some (.inl v2)] [] m (n + 5) = ax_aft (fun s m2 => ax_ex (e + 8) L_X10_idle 14 [some (.inr (.inr (0, 0))), some (.inl v1), some (.inl v2)] s m2 n) [.inl v1] (ax_ex (e + 7) L_X3_enoughOf 0 (ax_entry [.inr (.inr (1, 0)), .inl v2] 7) [] m n) := fun n => rfl
      refine ax_gci (j := 5) (k2 := 14) (lv2 := [some (.inr (.inr (0, 0))), some (.inl v1), some (.inl v2)]) (rest := [.inl v1]) ((R_X3_enoughOf (by omega) q6)) s8 ?_
      refine ax_go (j := 4) (k2 := 4) (lv2 := [some (.inr (.inr (0, 0))), some (.inl (v1 ||| r7)), some (.inl (v2 + 1))]) (st2 := []) (m2 := m) (fun n => rfl) ?_
      exact ax_fg (lv2 := [some (.inr (.inr (0, 0))), some (.inl (v1 ||| r7)), some (.inl (v2 + 1))]) ⟨rfl, rfl, rfl, trivial⟩ (ih (v1 ||| r7) (v2 + 1) _ h)
def F_X10_idle (m : ax_M) : Option Int32 := F_X10_idle_L4 ax_FU m 0 0
set_option maxRecDepth 20000 in
set_option maxHeartbeats 4000000 in
theorem R_X10_idle {d : Nat} (hd : 8 ≤ d) {m : ax_M} {q : Int32} (h : F_X10_idle m = some q) : ax_Ru d L_X10_idle 0 (ax_entry [.inr (.inr (0, 0))] 3) [] m (some (.inl q), m) := by
  obtain ⟨e, rfl⟩ : ∃ e, d = e + 8 := ⟨d - 8, by omega⟩
  unfold F_X10_idle at h
  refine ax_go (j := 4) (k2 := 4) (lv2 := [some (.inr (.inr (0, 0))), some (.inl 0), some (.inl 0)]) (st2 := []) (m2 := m) (fun n => rfl) ?_
  refine ax_fg (lv2 := [some (.inr (.inr (0, 0))), some (.inl 0), some (.inl 0)]) ⟨rfl, rfl, rfl, trivial⟩ ?_
  refine R_X10_idle_L4 _ 0 0 _ h
def F_X10_worst_L14 : Nat → ax_M → Int32 → Int32 → Int32 → Option (Int32 × ax_M)
  | 0, _, _, _, _ => none
  | n + 1, m, v1, v2, v3 => if (m.1 1 0 1) ≤ v3 then (some (v1, m)) else (ax_b (F_X3_shownBy m 0 v3) (fun r10 => ax_b (F_J6_bitCount_0f7a4 r10) (fun r12 => if r12 ≤ v2 then (F_X10_worst_L14 n m v1 v2 (v3 + 1)) else (F_X10_worst_L14 n m v3 r12 (v3 + 1)))))
set_option maxRecDepth 20000 in
set_option maxHeartbeats 4000000 in
theorem R_X10_worst_L14 {e : Nat} : ∀ (n : Nat) (m : ax_M) (v1 : Int32) (v2 : Int32) (v3 : Int32) (q : (Int32 × ax_M)), F_X10_worst_L14 n m v1 v2 v3 = some q → ax_Ru (e + 9) L_X10_worst 14 [some (.inr (.inr (0, 0))), some (.inl v1), some (.inl v2), some (.inl v3), none] [] m (some (.inl q.1), q.2) := by
  intro n
  induction n with
  | zero =>
    intro m v1 v2 v3 q h
    cases h
  | succ n ih =>
    intro m v1 v2 v3 q h
    rw [F_X10_worst_L14] at h
    have s8 : ∀ n, ax_ex (e + 9) L_X10_worst 14 [some (.inr (.inr (0, 0))), some (.inl v1), some (.inl v2), some (.inl v3), none] [] m (n + 5) = if (m.1 1 0 1) ≤ v3 then ax_ex (e + 9) L_X10_worst 34 [some (.inr (.inr (0, 0))), some (.inl v1), some (.inl v2), some (.inl v3), none] [] m n else ax_ex (e + 9) L_X10_worst 19 [some (.inr (.inr (0, 0))), some (.inl v1), some (.inl v2), some (.inl v3), none] [] m n := fun n => rfl
    by_cases c7 : (m.1 1 0 1) ≤ v3
    · rw [if_pos c7] at h
      refine ax_gt c7 s8 ?_
      obtain rfl := Option.some.inj h
      exact ax_rs 2 (fun n => rfl)
    · rw [if_neg c7] at h
      refine ax_gf c7 s8 ?_
      obtain ⟨r10, q9, h⟩ := ax_b_of h
      have s16 : ∀ n, ax_ex (e + 9) L_X10_worst 19 [some (.inr (.inr (0, 0))), some (.inl v1), some (.inl v2), some (.inl v3), none] [] m (n + 4) = ax_aft (fun s m2 => ax_ex (e + 9) L_X10_worst 23 [some (.inr (.inr (0, 0))), some (.inl v1), some (.inl v2), some (.inl v3), none] s m2 n) [] (ax_ex (e + 8) L_X3_shownBy 0 (ax_entry [.inr (.inr (1, 0)), .inl v3] 2) [] m n) := fun n => rfl
      refine ax_gci (j := 4) (k2 := 23) (lv2 := [some (.inr (.inr (0, 0))), some (.inl v1), some (.inl v2), some (.inl v3), none]) (rest := []) ((R_X3_shownBy (by omega) q9)) s16 ?_
      obtain ⟨r12, q11, h⟩ := ax_b_of h
      have s15 : ∀ n, ax_ex (e + 9) L_X10_worst 23 [some (.inr (.inr (0, 0))), some (.inl v1), some (.inl v2), some (.inl v3), none] [.inl r10] m (n + 1) = ax_aft (fun s m2 => ax_ex (e + 9) L_X10_worst 24 [some (.inr (.inr (0, 0))), some (.inl v1), some (.inl v2), some (.inl v3), none] s m2 n) [] (ax_ex (e + 8) L_J6_bitCount_0f7a4 0 (ax_entry [.inl r10] 1) [] m n) := fun n => rfl
      refine ax_gci (j := 1) (k2 := 24) (lv2 := [some (.inr (.inr (0, 0))), some (.inl v1), some (.inl v2), some (.inl v3), none]) (rest := []) ((R_J6_bitCount_0f7a4 (by omega) q11)) s15 ?_
      have s14 : ∀ n, ax_ex (e + 9) L_X10_worst 24 [some (.inr (.inr (0, 0))), some (.inl v1), some (.inl v2), some (.inl v3), none] [.inl r12] m (n + 4) = if r12 ≤ v2 then ax_ex (e + 9) L_X10_worst 32 [some (.inr (.inr (0, 0))), some (.inl v1), some (.inl v2), some (.inl v3), some (.inl r12)] [] m n else ax_ex (e + 9) L_X10_worst 28 [some (.inr (.inr (0, 0))), some (.inl v1), some (.inl v2), some (.inl v3), some (.inl r12)] [] m n := fun n => rfl
      by_cases c13 : r12 ≤ v2
      · rw [if_pos c13] at h
        refine ax_gt c13 s14 ?_
        refine ax_go (j := 2) (k2 := 14) (lv2 := [some (.inr (.inr (0, 0))), some (.inl v1), some (.inl v2), some (.inl (v3 + 1)), some (.inl r12)]) (st2 := []) (m2 := m) (fun n => rfl) ?_
        exact ax_fg (lv2 := [some (.inr (.inr (0, 0))), some (.inl v1), some (.inl v2), some (.inl (v3 + 1)), none]) ⟨rfl, rfl, rfl, rfl, trivial⟩ (ih m v1 v2 (v3 + 1) _ h)
      · rw [if_neg c13] at h
        refine ax_gf c13 s14 ?_
        refine ax_go (j := 6) (k2 := 14) (lv2 := [some (.inr (.inr (0, 0))), some (.inl v3), some (.inl r12), some (.inl (v3 + 1)), some (.inl r12)]) (st2 := []) (m2 := m) (fun n => rfl) ?_
        exact ax_fg (lv2 := [some (.inr (.inr (0, 0))), some (.inl v3), some (.inl r12), some (.inl (v3 + 1)), none]) ⟨rfl, rfl, rfl, rfl, trivial⟩ (ih m v3 r12 (v3 + 1) _ h)
def F_X10_worst (m : ax_M) : Option (Int32 × ax_M) := if (m.1 1 0 1) = 0 then (ax_b2 (F_X10_refuse m (-5)) (fun r4 m5 => some (r4, m5))) else (F_X10_worst_L14 ax_FU m 0 (-1) 0)
set_option maxRecDepth 20000 in
set_option maxHeartbeats 4000000 in
theorem R_X10_worst {d : Nat} (hd : 9 ≤ d) {m : ax_M} {q : (Int32 × ax_M)} (h : F_X10_worst m = some q) : ax_Ru d L_X10_worst 0 (ax_entry [.inr (.inr (0, 0))] 5) [] m (some (.inl q.1), q.2) := by
  obtain ⟨e, rfl⟩ : ∃ e, d = e + 9 := ⟨d - 9, by omega⟩
  unfold F_X10_worst at h
  have s2 : ∀ n, ax_ex (e + 9) L_X10_worst 0 (ax_entry [.inr (.inr (0, 0))] 5) [] m (n + 4) = if (m.1 1 0 1) = 0 then ax_ex (e + 9) L_X10_worst 4 [some (.inr (.inr (0, 0))), none, none, none, none] [] m n else ax_ex (e + 9) L_X10_worst 8 [some (.inr (.inr (0, 0))), none, none, none, none] [] m n := fun n => rfl
  by_cases c1 : (m.1 1 0 1) = 0
  · rw [if_pos c1] at h
    refine ax_gt c1 s2 ?_
    obtain ⟨r4, m5, q3, h⟩ := ax_b2_of h
    have s6 : ∀ n, ax_ex (e + 9) L_X10_worst 4 [some (.inr (.inr (0, 0))), none, none, none, none] [] m (n + 3) = ax_aft (fun s m2 => ax_ex (e + 9) L_X10_worst 7 [some (.inr (.inr (0, 0))), none, none, none, none] s m2 n) [] (ax_ex (e + 8) L_X10_refuse 0 (ax_entry [.inr (.inr (0, 0)), .inl (-5)] 3) [] m n) := fun n => rfl
    refine ax_gci (j := 3) (k2 := 7) (lv2 := [some (.inr (.inr (0, 0))), none, none, none, none]) (rest := []) ((R_X10_refuse (by omega) q3)) s6 ?_
    obtain rfl := Option.some.inj h
    exact ax_rs 1 (fun n => rfl)
  · rw [if_neg c1] at h
    refine ax_gf c1 s2 ?_
    refine ax_go (j := 6) (k2 := 14) (lv2 := [some (.inr (.inr (0, 0))), some (.inl 0), some (.inl (-1)), some (.inl 0), none]) (st2 := []) (m2 := m) (fun n => rfl) ?_
    refine ax_fg (lv2 := [some (.inr (.inr (0, 0))), some (.inl 0), some (.inl (-1)), some (.inl 0), none]) ⟨rfl, rfl, rfl, rfl, trivial⟩ ?_
    refine R_X10_worst_L14 _ m 0 (-1) 0 _ h
def F_X10_chain (m : ax_M) (v1 : Int32) (v2 : Int32) : Option (Int32 × ax_M) := ax_b (F_X10_isPair m v1 v2) (fun r2 => if r2 = 0 then (ax_b2 (F_X10_refuse m (-2)) (fun r6 m7 => some (r6, m7))) else (ax_b (F_X2_links m 0 v1 v2) (fun r10 => some (r10, m))))
set_option maxRecDepth 20000 in
set_option maxHeartbeats 4000000 in
theorem R_X10_chain {d : Nat} (hd : 5 ≤ d) {m : ax_M} {v1 : Int32} {v2 : Int32} {q : (Int32 × ax_M)} (h : F_X10_chain m v1 v2 = some q) : ax_Ru d L_X10_chain 0 (ax_entry [.inr (.inr (0, 0)), .inl v1, .inl v2] 3) [] m (some (.inl q.1), q.2) := by
  obtain ⟨e, rfl⟩ : ∃ e, d = e + 5 := ⟨d - 5, by omega⟩
  unfold F_X10_chain at h
  obtain ⟨r2, q1, h⟩ := ax_b_of h
  have s12 : ∀ n, ax_ex (e + 5) L_X10_chain 0 (ax_entry [.inr (.inr (0, 0)), .inl v1, .inl v2] 3) [] m (n + 4) = ax_aft (fun s m2 => ax_ex (e + 5) L_X10_chain 4 [some (.inr (.inr (0, 0))), some (.inl v1), some (.inl v2)] s m2 n) [] (ax_ex (e + 4) L_X10_isPair 0 (ax_entry [.inr (.inr (0, 0)), .inl v1, .inl v2] 3) [] m n) := fun n => rfl
  refine ax_gci (j := 4) (k2 := 4) (lv2 := [some (.inr (.inr (0, 0))), some (.inl v1), some (.inl v2)]) (rest := []) ((R_X10_isPair (by omega) q1)) s12 ?_
  have s4 : ∀ n, ax_ex (e + 5) L_X10_chain 4 [some (.inr (.inr (0, 0))), some (.inl v1), some (.inl v2)] [.inl r2] m (n + 1) = if r2 = 0 then ax_ex (e + 5) L_X10_chain 5 [some (.inr (.inr (0, 0))), some (.inl v1), some (.inl v2)] [] m n else ax_ex (e + 5) L_X10_chain 9 [some (.inr (.inr (0, 0))), some (.inl v1), some (.inl v2)] [] m n := fun n => rfl
  by_cases c3 : r2 = 0
  · rw [if_pos c3] at h
    refine ax_gt c3 s4 ?_
    obtain ⟨r6, m7, q5, h⟩ := ax_b2_of h
    have s8 : ∀ n, ax_ex (e + 5) L_X10_chain 5 [some (.inr (.inr (0, 0))), some (.inl v1), some (.inl v2)] [] m (n + 3) = ax_aft (fun s m2 => ax_ex (e + 5) L_X10_chain 8 [some (.inr (.inr (0, 0))), some (.inl v1), some (.inl v2)] s m2 n) [] (ax_ex (e + 4) L_X10_refuse 0 (ax_entry [.inr (.inr (0, 0)), .inl (-2)] 3) [] m n) := fun n => rfl
    refine ax_gci (j := 3) (k2 := 8) (lv2 := [some (.inr (.inr (0, 0))), some (.inl v1), some (.inl v2)]) (rest := []) ((R_X10_refuse (by omega) q5)) s8 ?_
    obtain rfl := Option.some.inj h
    exact ax_rs 1 (fun n => rfl)
  · rw [if_neg c3] at h
    refine ax_gf c3 s4 ?_
    obtain ⟨r10, q9, h⟩ := ax_b_of h
    have s11 : ∀ n, ax_ex (e + 5) L_X10_chain 9 [some (.inr (.inr (0, 0))), some (.inl v1), some (.inl v2)] [] m (n + 6) = ax_aft (fun s m2 => ax_ex (e + 5) L_X10_chain 15 [some (.inr (.inr (0, 0))), some (.inl v1), some (.inl v2)] s m2 n) [] (ax_ex (e + 4) L_X2_links 0 (ax_entry [.inr (.inr (3, 0)), .inl v1, .inl v2] 5) [] m n) := fun n => rfl
    refine ax_gci (j := 6) (k2 := 15) (lv2 := [some (.inr (.inr (0, 0))), some (.inl v1), some (.inl v2)]) (rest := []) ((R_X2_links (by omega) q9)) s11 ?_
    obtain rfl := Option.some.inj h
    exact ax_rs 1 (fun n => rfl)
def F_X10_poorest_L12 : Nat → ax_M → Int32 → Int32 → Option (Int32 × ax_M)
  | 0, _, _, _ => none
  | n + 1, m, v1, v2 => if (m.1 1 0 1) ≤ v2 then (some (v1, m)) else (ax_b (F_X2_balance m 0 v2) (fun r10 => ax_b (F_X2_balance m 0 v1) (fun r12 => if r12 ≤ r10 then (F_X10_poorest_L12 n m v1 (v2 + 1)) else (F_X10_poorest_L12 n m v2 (v2 + 1)))))
set_option maxRecDepth 20000 in
set_option maxHeartbeats 4000000 in
theorem R_X10_poorest_L12 {e : Nat} : ∀ (n : Nat) (m : ax_M) (v1 : Int32) (v2 : Int32) (q : (Int32 × ax_M)), F_X10_poorest_L12 n m v1 v2 = some q → ax_Ru (e + 4) L_X10_poorest 12 [some (.inr (.inr (0, 0))), some (.inl v1), some (.inl v2)] [] m (some (.inl q.1), q.2) := by
  intro n
  induction n with
  | zero =>
    intro m v1 v2 q h
    cases h
  | succ n ih =>
    intro m v1 v2 q h
    rw [F_X10_poorest_L12] at h
    have s8 : ∀ n, ax_ex (e + 4) L_X10_poorest 12 [some (.inr (.inr (0, 0))), some (.inl v1), some (.inl v2)] [] m (n + 5) = if (m.1 1 0 1) ≤ v2 then ax_ex (e + 4) L_X10_poorest 32 [some (.inr (.inr (0, 0))), some (.inl v1), some (.inl v2)] [] m n else ax_ex (e + 4) L_X10_poorest 17 [some (.inr (.inr (0, 0))), some (.inl v1), some (.inl v2)] [] m n := fun n => rfl
    by_cases c7 : (m.1 1 0 1) ≤ v2
    · rw [if_pos c7] at h
      refine ax_gt c7 s8 ?_
      obtain rfl := Option.some.inj h
      exact ax_rs 2 (fun n => rfl)
    · rw [if_neg c7] at h
      refine ax_gf c7 s8 ?_
      obtain ⟨r10, q9, h⟩ := ax_b_of h
      have s16 : ∀ n, ax_ex (e + 4) L_X10_poorest 17 [some (.inr (.inr (0, 0))), some (.inl v1), some (.inl v2)] [] m (n + 5) = ax_aft (fun s m2 => ax_ex (e + 4) L_X10_poorest 22 [some (.inr (.inr (0, 0))), some (.inl v1), some (.inl v2)] s m2 n) [] (ax_ex (e + 3) L_X2_balance 0 (ax_entry [.inr (.inr (3, 0)), .inl v2] 2) [] m n) := fun n => rfl
      refine ax_gci (j := 5) (k2 := 22) (lv2 := [some (.inr (.inr (0, 0))), some (.inl v1), some (.inl v2)]) (rest := []) ((R_X2_balance (by omega) q9)) s16 ?_
      obtain ⟨r12, q11, h⟩ := ax_b_of h
      have s15 : ∀ n, ax_ex (e + 4) L_X10_poorest 22 [some (.inr (.inr (0, 0))), some (.inl v1), some (.inl v2)] [.inl r10] m (n + 5) = ax_aft (fun s m2 => ax_ex (e + 4) L_X10_poorest 27 [some (.inr (.inr (0, 0))), some (.inl v1), some (.inl v2)] s m2 n) [.inl r10] (ax_ex (e + 3) L_X2_balance 0 (ax_entry [.inr (.inr (3, 0)), .inl v1] 2) [] m n) := fun n => rfl
      refine ax_gci (j := 5) (k2 := 27) (lv2 := [some (.inr (.inr (0, 0))), some (.inl v1), some (.inl v2)]) (rest := [.inl r10]) ((R_X2_balance (by omega) q11)) s15 ?_
      have s14 : ∀ n, ax_ex (e + 4) L_X10_poorest 27 [some (.inr (.inr (0, 0))), some (.inl v1), some (.inl v2)] [.inl r12, .inl r10] m (n + 1) = if r12 ≤ r10 then ax_ex (e + 4) L_X10_poorest 30 [some (.inr (.inr (0, 0))), some (.inl v1), some (.inl v2)] [] m n else ax_ex (e + 4) L_X10_poorest 28 [some (.inr (.inr (0, 0))), some (.inl v1), some (.inl v2)] [] m n := fun n => rfl
      by_cases c13 : r12 ≤ r10
      · rw [if_pos c13] at h
        refine ax_gt c13 s14 ?_
        refine ax_go (j := 2) (k2 := 12) (lv2 := [some (.inr (.inr (0, 0))), some (.inl v1), some (.inl (v2 + 1))]) (st2 := []) (m2 := m) (fun n => rfl) ?_
        exact ax_fg (lv2 := [some (.inr (.inr (0, 0))), some (.inl v1), some (.inl (v2 + 1))]) ⟨rfl, rfl, rfl, trivial⟩ (ih m v1 (v2 + 1) _ h)
      · rw [if_neg c13] at h
        refine ax_gf c13 s14 ?_
        refine ax_go (j := 4) (k2 := 12) (lv2 := [some (.inr (.inr (0, 0))), some (.inl v2), some (.inl (v2 + 1))]) (st2 := []) (m2 := m) (fun n => rfl) ?_
        exact ax_fg (lv2 := [some (.inr (.inr (0, 0))), some (.inl v2), some (.inl (v2 + 1))]) ⟨rfl, rfl, rfl, trivial⟩ (ih m v2 (v2 + 1) _ h)
def F_X10_poorest (m : ax_M) : Option (Int32 × ax_M) := if (m.1 1 0 1) = 0 then (ax_b2 (F_X10_refuse m (-5)) (fun r4 m5 => some (r4, m5))) else (F_X10_poorest_L12 ax_FU m 0 1)
set_option maxRecDepth 20000 in
set_option maxHeartbeats 4000000 in
theorem R_X10_poorest {d : Nat} (hd : 4 ≤ d) {m : ax_M} {q : (Int32 × ax_M)} (h : F_X10_poorest m = some q) : ax_Ru d L_X10_poorest 0 (ax_entry [.inr (.inr (0, 0))] 3) [] m (some (.inl q.1), q.2) := by
  obtain ⟨e, rfl⟩ : ∃ e, d = e + 4 := ⟨d - 4, by omega⟩
  unfold F_X10_poorest at h
  have s2 : ∀ n, ax_ex (e + 4) L_X10_poorest 0 (ax_entry [.inr (.inr (0, 0))] 3) [] m (n + 4) = if (m.1 1 0 1) = 0 then ax_ex (e + 4) L_X10_poorest 4 [some (.inr (.inr (0, 0))), none, none] [] m n else ax_ex (e + 4) L_X10_poorest 8 [some (.inr (.inr (0, 0))), none, none] [] m n := fun n => rfl
  by_cases c1 : (m.1 1 0 1) = 0
  · rw [if_pos c1] at h
    refine ax_gt c1 s2 ?_
    obtain ⟨r4, m5, q3, h⟩ := ax_b2_of h
    have s6 : ∀ n, ax_ex (e + 4) L_X10_poorest 4 [some (.inr (.inr (0, 0))), none, none] [] m (n + 3) = ax_aft (fun s m2 => ax_ex (e + 4) L_X10_poorest 7 [some (.inr (.inr (0, 0))), none, none] s m2 n) [] (ax_ex (e + 3) L_X10_refuse 0 (ax_entry [.inr (.inr (0, 0)), .inl (-5)] 3) [] m n) := fun n => rfl
    refine ax_gci (j := 3) (k2 := 7) (lv2 := [some (.inr (.inr (0, 0))), none, none]) (rest := []) ((R_X10_refuse (by omega) q3)) s6 ?_
    obtain rfl := Option.some.inj h
    exact ax_rs 1 (fun n => rfl)
  · rw [if_neg c1] at h
    refine ax_gf c1 s2 ?_
    refine ax_go (j := 4) (k2 := 12) (lv2 := [some (.inr (.inr (0, 0))), some (.inl 0), some (.inl 1)]) (st2 := []) (m2 := m) (fun n => rfl) ?_
    refine ax_fg (lv2 := [some (.inr (.inr (0, 0))), some (.inl 0), some (.inl 1)]) ⟨rfl, rfl, rfl, trivial⟩ ?_
    refine R_X10_poorest_L12 _ m 0 1 _ h
def F_X10_due (m : ax_M) (v1 : Int32) (v2 : Int32) : Option (Int32 × ax_M) := ax_b (F_X10_isPair m v1 v2) (fun r2 => if r2 = 0 then (ax_b2 (F_X10_refuse m (-2)) (fun r6 m7 => some (r6, m7))) else (ax_b (F_X3_dueOf m 0 v1 v2) (fun r10 => some (r10, m))))
set_option maxRecDepth 20000 in
set_option maxHeartbeats 4000000 in
theorem R_X10_due {d : Nat} (hd : 8 ≤ d) {m : ax_M} {v1 : Int32} {v2 : Int32} {q : (Int32 × ax_M)} (h : F_X10_due m v1 v2 = some q) : ax_Ru d L_X10_due 0 (ax_entry [.inr (.inr (0, 0)), .inl v1, .inl v2] 3) [] m (some (.inl q.1), q.2) := by
  obtain ⟨e, rfl⟩ : ∃ e, d = e + 8 := ⟨d - 8, by omega⟩
  unfold F_X10_due at h
  obtain ⟨r2, q1, h⟩ := ax_b_of h
  have s12 : ∀ n, ax_ex (e + 8) L_X10_due 0 (ax_entry [.inr (.inr (0, 0)), .inl v1, .inl v2] 3) [] m (n + 4) = ax_aft (fun s m2 => ax_ex (e + 8) L_X10_due 4 [some (.inr (.inr (0, 0))), some (.inl v1), some (.inl v2)] s m2 n) [] (ax_ex (e + 7) L_X10_isPair 0 (ax_entry [.inr (.inr (0, 0)), .inl v1, .inl v2] 3) [] m n) := fun n => rfl
  refine ax_gci (j := 4) (k2 := 4) (lv2 := [some (.inr (.inr (0, 0))), some (.inl v1), some (.inl v2)]) (rest := []) ((R_X10_isPair (by omega) q1)) s12 ?_
  have s4 : ∀ n, ax_ex (e + 8) L_X10_due 4 [some (.inr (.inr (0, 0))), some (.inl v1), some (.inl v2)] [.inl r2] m (n + 1) = if r2 = 0 then ax_ex (e + 8) L_X10_due 5 [some (.inr (.inr (0, 0))), some (.inl v1), some (.inl v2)] [] m n else ax_ex (e + 8) L_X10_due 9 [some (.inr (.inr (0, 0))), some (.inl v1), some (.inl v2)] [] m n := fun n => rfl
  by_cases c3 : r2 = 0
  · rw [if_pos c3] at h
    refine ax_gt c3 s4 ?_
    obtain ⟨r6, m7, q5, h⟩ := ax_b2_of h
    have s8 : ∀ n, ax_ex (e + 8) L_X10_due 5 [some (.inr (.inr (0, 0))), some (.inl v1), some (.inl v2)] [] m (n + 3) = ax_aft (fun s m2 => ax_ex (e + 8) L_X10_due 8 [some (.inr (.inr (0, 0))), some (.inl v1), some (.inl v2)] s m2 n) [] (ax_ex (e + 7) L_X10_refuse 0 (ax_entry [.inr (.inr (0, 0)), .inl (-2)] 3) [] m n) := fun n => rfl
    refine ax_gci (j := 3) (k2 := 8) (lv2 := [some (.inr (.inr (0, 0))), some (.inl v1), some (.inl v2)]) (rest := []) ((R_X10_refuse (by omega) q5)) s8 ?_
    obtain rfl := Option.some.inj h
    exact ax_rs 1 (fun n => rfl)
  · rw [if_neg c3] at h
    refine ax_gf c3 s4 ?_
    obtain ⟨r10, q9, h⟩ := ax_b_of h
    have s11 : ∀ n, ax_ex (e + 8) L_X10_due 9 [some (.inr (.inr (0, 0))), some (.inl v1), some (.inl v2)] [] m (n + 5) = ax_aft (fun s m2 => ax_ex (e + 8) L_X10_due 14 [some (.inr (.inr (0, 0))), some (.inl v1), some (.inl v2)] s m2 n) [] (ax_ex (e + 7) L_X3_dueOf 0 (ax_entry [.inr (.inr (1, 0)), .inl v1, .inl v2] 7) [] m n) := fun n => rfl
    refine ax_gci (j := 5) (k2 := 14) (lv2 := [some (.inr (.inr (0, 0))), some (.inl v1), some (.inl v2)]) (rest := []) ((R_X3_dueOf (by omega) q9)) s11 ?_
    obtain rfl := Option.some.inj h
    exact ax_rs 1 (fun n => rfl)
def F_X10_bare_L4 : Nat → ax_M → Int32 → Int32 → Option Int32
  | 0, _, _, _ => none
  | n + 1, m, v1, v2 => if (m.1 1 0 1) ≤ v2 then (some v1) else (ax_b (F_X3_allDueOf m 0 v2) (fun r4 => ax_b (F_X2_owedBy m 0 v2) (fun r6 => if r6 ≤ r4 then (F_X10_bare_L4 n m (v1 + r4) (v2 + 1)) else (ax_b (F_X3_isNearRank m 0 v2) (fun r10 => if r10 = 0 then (F_X10_bare_L4 n m (v1 + r4) (v2 + 1)) else (some (-1)))))))
set_option maxRecDepth 20000 in
set_option maxHeartbeats 4000000 in
theorem R_X10_bare_L4 {e : Nat} {m : ax_M} : ∀ (n : Nat) (v1 : Int32) (v2 : Int32) (q : Int32), F_X10_bare_L4 n m v1 v2 = some q → ax_Ru (e + 9) L_X10_bare 4 [some (.inr (.inr (0, 0))), some (.inl v1), some (.inl v2), none] [] m (some (.inl q), m) := by
  intro n
  induction n with
  | zero =>
    intro v1 v2 q h
    cases h
  | succ n ih =>
    intro v1 v2 q h
    rw [F_X10_bare_L4] at h
    have s2 : ∀ n, ax_ex (e + 9) L_X10_bare 4 [some (.inr (.inr (0, 0))), some (.inl v1), some (.inl v2), none] [] m (n + 5) = if (m.1 1 0 1) ≤ v2 then ax_ex (e + 9) L_X10_bare 34 [some (.inr (.inr (0, 0))), some (.inl v1), some (.inl v2), none] [] m n else ax_ex (e + 9) L_X10_bare 9 [some (.inr (.inr (0, 0))), some (.inl v1), some (.inl v2), none] [] m n := fun n => rfl
    by_cases c1 : (m.1 1 0 1) ≤ v2
    · rw [if_pos c1] at h
      refine ax_gt c1 s2 ?_
      obtain rfl := Option.some.inj h
      exact ax_rs 2 (fun n => rfl)
    · rw [if_neg c1] at h
      refine ax_gf c1 s2 ?_
      obtain ⟨r4, q3, h⟩ := ax_b_of h
      have s15 : ∀ n, ax_ex (e + 9) L_X10_bare 9 [some (.inr (.inr (0, 0))), some (.inl v1), some (.inl v2), none] [] m (n + 4) = ax_aft (fun s m2 => ax_ex (e + 9) L_X10_bare 13 [some (.inr (.inr (0, 0))), some (.inl v1), some (.inl v2), none] s m2 n) [] (ax_ex (e + 8) L_X3_allDueOf 0 (ax_entry [.inr (.inr (1, 0)), .inl v2] 4) [] m n) := fun n => rfl
      refine ax_gci (j := 4) (k2 := 13) (lv2 := [some (.inr (.inr (0, 0))), some (.inl v1), some (.inl v2), none]) (rest := []) ((R_X3_allDueOf (by omega) q3)) s15 ?_
      obtain ⟨r6, q5, h⟩ := ax_b_of h
      have s14 : ∀ n, ax_ex (e + 9) L_X10_bare 13 [some (.inr (.inr (0, 0))), some (.inl v1), some (.inl v2), none] [.inl r4] m (n + 6) = ax_aft (fun s m2 => ax_ex (e + 9) L_X10_bare 19 [some (.inr (.inr (0, 0))), some (.inl v1), some (.inl v2), some (.inl r4)] s m2 n) [] (ax_ex (e + 8) L_X2_owedBy 0 (ax_entry [.inr (.inr (3, 0)), .inl v2] 4) [] m n) := fun n => rfl
      refine ax_gci (j := 6) (k2 := 19) (lv2 := [some (.inr (.inr (0, 0))), some (.inl v1), some (.inl v2), some (.inl r4)]) (rest := []) ((R_X2_owedBy (by omega) q5)) s14 ?_
      have s8 : ∀ n, ax_ex (e + 9) L_X10_bare 19 [some (.inr (.inr (0, 0))), some (.inl v1), some (.inl v2), some (.inl r4)] [.inl r6] m (n + 2) = if r6 ≤ r4 then ax_ex (e + 9) L_X10_bare 28 [some (.inr (.inr (0, 0))), some (.inl v1), some (.inl v2), some (.inl r4)] [] m n else ax_ex (e + 9) L_X10_bare 21 [some (.inr (.inr (0, 0))), some (.inl v1), some (.inl v2), some (.inl r4)] [] m n := fun n => rfl
      by_cases c7 : r6 ≤ r4
      · rw [if_pos c7] at h
        refine ax_gt c7 s8 ?_
        refine ax_go (j := 6) (k2 := 4) (lv2 := [some (.inr (.inr (0, 0))), some (.inl (v1 + r4)), some (.inl (v2 + 1)), some (.inl r4)]) (st2 := []) (m2 := m) (fun n => rfl) ?_
        exact ax_fg (lv2 := [some (.inr (.inr (0, 0))), some (.inl (v1 + r4)), some (.inl (v2 + 1)), none]) ⟨rfl, rfl, rfl, trivial⟩ (ih (v1 + r4) (v2 + 1) _ h)
      · rw [if_neg c7] at h
        refine ax_gf c7 s8 ?_
        obtain ⟨r10, q9, h⟩ := ax_b_of h
        have s13 : ∀ n, ax_ex (e + 9) L_X10_bare 21 [some (.inr (.inr (0, 0))), some (.inl v1), some (.inl v2), some (.inl r4)] [] m (n + 4) = ax_aft (fun s m2 => ax_ex (e + 9) L_X10_bare 25 [some (.inr (.inr (0, 0))), some (.inl v1), some (.inl v2), some (.inl r4)] s m2 n) [] (ax_ex (e + 8) L_X3_isNearRank 0 (ax_entry [.inr (.inr (1, 0)), .inl v2] 4) [] m n) := fun n => rfl
        refine ax_gci (j := 4) (k2 := 25) (lv2 := [some (.inr (.inr (0, 0))), some (.inl v1), some (.inl v2), some (.inl r4)]) (rest := []) ((R_X3_isNearRank (by omega) q9)) s13 ?_
        have s12 : ∀ n, ax_ex (e + 9) L_X10_bare 25 [some (.inr (.inr (0, 0))), some (.inl v1), some (.inl v2), some (.inl r4)] [.inl r10] m (n + 1) = if r10 = 0 then ax_ex (e + 9) L_X10_bare 28 [some (.inr (.inr (0, 0))), some (.inl v1), some (.inl v2), some (.inl r4)] [] m n else ax_ex (e + 9) L_X10_bare 26 [some (.inr (.inr (0, 0))), some (.inl v1), some (.inl v2), some (.inl r4)] [] m n := fun n => rfl
        by_cases c11 : r10 = 0
        · rw [if_pos c11] at h
          refine ax_gt c11 s12 ?_
          refine ax_go (j := 6) (k2 := 4) (lv2 := [some (.inr (.inr (0, 0))), some (.inl (v1 + r4)), some (.inl (v2 + 1)), some (.inl r4)]) (st2 := []) (m2 := m) (fun n => rfl) ?_
          exact ax_fg (lv2 := [some (.inr (.inr (0, 0))), some (.inl (v1 + r4)), some (.inl (v2 + 1)), none]) ⟨rfl, rfl, rfl, trivial⟩ (ih (v1 + r4) (v2 + 1) _ h)
        · rw [if_neg c11] at h
          refine ax_gf c11 s12 ?_
          obtain rfl := Option.some.inj h
          exact ax_rs 2 (fun n => rfl)
def F_X10_bare (m : ax_M) : Option Int32 := F_X10_bare_L4 ax_FU m 0 0
set_option maxRecDepth 20000 in
set_option maxHeartbeats 4000000 in
theorem R_X10_bare {d : Nat} (hd : 9 ≤ d) {m : ax_M} {q : Int32} (h : F_X10_bare m = some q) : ax_Ru d L_X10_bare 0 (ax_entry [.inr (.inr (0, 0))] 4) [] m (some (.inl q), m) := by
  obtain ⟨e, rfl⟩ : ∃ e, d = e + 9 := ⟨d - 9, by omega⟩
  unfold F_X10_bare at h
  refine ax_go (j := 4) (k2 := 4) (lv2 := [some (.inr (.inr (0, 0))), some (.inl 0), some (.inl 0), none]) (st2 := []) (m2 := m) (fun n => rfl) ?_
  refine ax_fg (lv2 := [some (.inr (.inr (0, 0))), some (.inl 0), some (.inl 0), none]) ⟨rfl, rfl, rfl, trivial⟩ ?_
  refine R_X10_bare_L4 _ 0 0 _ h
def F_X10_net (m : ax_M) (v1 : Int32) : Option (Int32 × ax_M) := ax_b (F_X3_isPerson m 0 v1) (fun r2 => if r2 = 0 then (ax_b2 (F_X10_refuse m (-2)) (fun r6 m7 => some ((-1000002), m7))) else (ax_b (F_X2_balance m 0 v1) (fun r10 => some (r10, m))))
set_option maxRecDepth 20000 in
set_option maxHeartbeats 4000000 in
theorem R_X10_net {d : Nat} (hd : 4 ≤ d) {m : ax_M} {v1 : Int32} {q : (Int32 × ax_M)} (h : F_X10_net m v1 = some q) : ax_Ru d L_X10_net 0 (ax_entry [.inr (.inr (0, 0)), .inl v1] 2) [] m (some (.inl q.1), q.2) := by
  obtain ⟨e, rfl⟩ : ∃ e, d = e + 4 := ⟨d - 4, by omega⟩
  unfold F_X10_net at h
  obtain ⟨r2, q1, h⟩ := ax_b_of h
  have s12 : ∀ n, ax_ex (e + 4) L_X10_net 0 (ax_entry [.inr (.inr (0, 0)), .inl v1] 2) [] m (n + 4) = ax_aft (fun s m2 => ax_ex (e + 4) L_X10_net 4 [some (.inr (.inr (0, 0))), some (.inl v1)] s m2 n) [] (ax_ex (e + 3) L_X3_isPerson 0 (ax_entry [.inr (.inr (1, 0)), .inl v1] 2) [] m n) := fun n => rfl
  refine ax_gci (j := 4) (k2 := 4) (lv2 := [some (.inr (.inr (0, 0))), some (.inl v1)]) (rest := []) ((R_X3_isPerson (by omega) q1)) s12 ?_
  have s4 : ∀ n, ax_ex (e + 4) L_X10_net 4 [some (.inr (.inr (0, 0))), some (.inl v1)] [.inl r2] m (n + 1) = if r2 = 0 then ax_ex (e + 4) L_X10_net 5 [some (.inr (.inr (0, 0))), some (.inl v1)] [] m n else ax_ex (e + 4) L_X10_net 11 [some (.inr (.inr (0, 0))), some (.inl v1)] [] m n := fun n => rfl
  by_cases c3 : r2 = 0
  · rw [if_pos c3] at h
    refine ax_gt c3 s4 ?_
    obtain ⟨r6, m7, q5, h⟩ := ax_b2_of h
    have s8 : ∀ n, ax_ex (e + 4) L_X10_net 5 [some (.inr (.inr (0, 0))), some (.inl v1)] [] m (n + 3) = ax_aft (fun s m2 => ax_ex (e + 4) L_X10_net 8 [some (.inr (.inr (0, 0))), some (.inl v1)] s m2 n) [] (ax_ex (e + 3) L_X10_refuse 0 (ax_entry [.inr (.inr (0, 0)), .inl (-2)] 3) [] m n) := fun n => rfl
    refine ax_gci (j := 3) (k2 := 8) (lv2 := [some (.inr (.inr (0, 0))), some (.inl v1)]) (rest := []) ((R_X10_refuse (by omega) q5)) s8 ?_
    obtain rfl := Option.some.inj h
    exact ax_rs 3 (fun n => rfl)
  · rw [if_neg c3] at h
    refine ax_gf c3 s4 ?_
    obtain ⟨r10, q9, h⟩ := ax_b_of h
    have s11 : ∀ n, ax_ex (e + 4) L_X10_net 11 [some (.inr (.inr (0, 0))), some (.inl v1)] [] m (n + 5) = ax_aft (fun s m2 => ax_ex (e + 4) L_X10_net 16 [some (.inr (.inr (0, 0))), some (.inl v1)] s m2 n) [] (ax_ex (e + 3) L_X2_balance 0 (ax_entry [.inr (.inr (3, 0)), .inl v1] 2) [] m n) := fun n => rfl
    refine ax_gci (j := 5) (k2 := 16) (lv2 := [some (.inr (.inr (0, 0))), some (.inl v1)]) (rest := []) ((R_X2_balance (by omega) q9)) s11 ?_
    obtain rfl := Option.some.inj h
    exact ax_rs 1 (fun n => rfl)
def F_X10_mutual (m : ax_M) : Option Int32 := ax_b (F_X2_shared m 0) (fun r2 => some r2)
set_option maxRecDepth 20000 in
set_option maxHeartbeats 4000000 in
theorem R_X10_mutual {d : Nat} (hd : 7 ≤ d) {m : ax_M} {q : Int32} (h : F_X10_mutual m = some q) : ax_Ru d L_X10_mutual 0 (ax_entry [.inr (.inr (0, 0))] 1) [] m (some (.inl q), m) := by
  obtain ⟨e, rfl⟩ : ∃ e, d = e + 7 := ⟨d - 7, by omega⟩
  unfold F_X10_mutual at h
  obtain ⟨r2, q1, h⟩ := ax_b_of h
  have s3 : ∀ n, ax_ex (e + 7) L_X10_mutual 0 (ax_entry [.inr (.inr (0, 0))] 1) [] m (n + 4) = ax_aft (fun s m2 => ax_ex (e + 7) L_X10_mutual 4 [some (.inr (.inr (0, 0)))] s m2 n) [] (ax_ex (e + 6) L_X2_shared 0 (ax_entry [.inr (.inr (3, 0))] 4) [] m n) := fun n => rfl
  refine ax_gci (j := 4) (k2 := 4) (lv2 := [some (.inr (.inr (0, 0)))]) (rest := []) ((R_X2_shared (by omega) q1)) s3 ?_
  obtain rfl := Option.some.inj h
  exact ax_rs 1 (fun n => rfl)
def F_X10_ring (m : ax_M) (v1 : Int32) : Option (Int32 × ax_M) := if (-1) ≤ v1 then (ax_b2 (F_X5_find m 0) (fun r4 m5 => if r4 = (-1) then (some (r4, m5)) else (if v1 = (-1) then (some (r4, m5)) else (if v1 < r4 then (if ax_ok v1 8 = true then (some ((m5.1 16 0 v1.toNatClampNeg), m5)) else (none)) else (ax_b2 (F_X10_refuse m5 (-5)) (fun r15 m16 => some (r15, m16))))))) else (ax_b2 (F_X10_refuse m (-2)) (fun r20 m21 => some (r20, m21)))
set_option maxRecDepth 20000 in
set_option maxHeartbeats 4000000 in
theorem R_X10_ring {d : Nat} (hd : 15 ≤ d) {m : ax_M} {v1 : Int32} {q : (Int32 × ax_M)} (h : F_X10_ring m v1 = some q) : ax_Ru d L_X10_ring 0 (ax_entry [.inr (.inr (0, 0)), .inl v1] 3) [] m (some (.inl q.1), q.2) := by
  obtain ⟨e, rfl⟩ : ∃ e, d = e + 15 := ⟨d - 15, by omega⟩
  unfold F_X10_ring at h
  have s2 : ∀ n, ax_ex (e + 15) L_X10_ring 0 (ax_entry [.inr (.inr (0, 0)), .inl v1] 3) [] m (n + 3) = if (-1) ≤ v1 then ax_ex (e + 15) L_X10_ring 7 [some (.inr (.inr (0, 0))), some (.inl v1), none] [] m n else ax_ex (e + 15) L_X10_ring 3 [some (.inr (.inr (0, 0))), some (.inl v1), none] [] m n := fun n => rfl
  by_cases c1 : (-1) ≤ v1
  · rw [if_pos c1] at h
    refine ax_gt c1 s2 ?_
    obtain ⟨r4, m5, q3, h⟩ := ax_b2_of h
    have s18 : ∀ n, ax_ex (e + 15) L_X10_ring 7 [some (.inr (.inr (0, 0))), some (.inl v1), none] [] m (n + 6) = ax_aft (fun s m2 => ax_ex (e + 15) L_X10_ring 13 [some (.inr (.inr (0, 0))), some (.inl v1), none] s m2 n) [] (ax_ex (e + 14) L_X5_find 0 (ax_entry [.inr (.inr (15, 0)), .inr (.inr (3, 0))] 4) [] m n) := fun n => rfl
    refine ax_gci (j := 6) (k2 := 13) (lv2 := [some (.inr (.inr (0, 0))), some (.inl v1), none]) (rest := []) ((R_X5_find (by omega) q3)) s18 ?_
    have s7 : ∀ n, ax_ex (e + 15) L_X10_ring 13 [some (.inr (.inr (0, 0))), some (.inl v1), none] [.inl r4] m5 (n + 4) = if r4 = (-1) then ax_ex (e + 15) L_X10_ring 20 [some (.inr (.inr (0, 0))), some (.inl v1), some (.inl r4)] [] m5 n else ax_ex (e + 15) L_X10_ring 17 [some (.inr (.inr (0, 0))), some (.inl v1), some (.inl r4)] [] m5 n := fun n => rfl
    by_cases c6 : r4 = (-1)
    · rw [if_pos c6] at h
      refine ax_gt c6 s7 ?_
      obtain rfl := Option.some.inj h
      exact ax_rs 2 (fun n => rfl)
    · rw [if_neg c6] at h
      refine ax_gf c6 s7 ?_
      have s9 : ∀ n, ax_ex (e + 15) L_X10_ring 17 [some (.inr (.inr (0, 0))), some (.inl v1), some (.inl r4)] [] m5 (n + 3) = if v1 = (-1) then ax_ex (e + 15) L_X10_ring 20 [some (.inr (.inr (0, 0))), some (.inl v1), some (.inl r4)] [] m5 n else ax_ex (e + 15) L_X10_ring 22 [some (.inr (.inr (0, 0))), some (.inl v1), some (.inl r4)] [] m5 n := fun n => rfl
      by_cases c8 : v1 = (-1)
      · rw [if_pos c8] at h
        refine ax_gt c8 s9 ?_
        obtain rfl := Option.some.inj h
        exact ax_rs 2 (fun n => rfl)
      · rw [if_neg c8] at h
        refine ax_gf c8 s9 ?_
        have s11 : ∀ n, ax_ex (e + 15) L_X10_ring 22 [some (.inr (.inr (0, 0))), some (.inl v1), some (.inl r4)] [] m5 (n + 3) = if v1 < r4 then ax_ex (e + 15) L_X10_ring 29 [some (.inr (.inr (0, 0))), some (.inl v1), some (.inl r4)] [] m5 n else ax_ex (e + 15) L_X10_ring 25 [some (.inr (.inr (0, 0))), some (.inl v1), some (.inl r4)] [] m5 n := fun n => rfl
        by_cases c10 : v1 < r4
        · rw [if_pos c10] at h
          refine ax_gt c10 s11 ?_
          have s13 : ∀ n, ax_ex (e + 15) L_X10_ring 29 [some (.inr (.inr (0, 0))), some (.inl v1), some (.inl r4)] [] m5 (n + 5) = if ax_ok v1 8 = true then ax_ex (e + 15) L_X10_ring 34 [some (.inr (.inr (0, 0))), some (.inl v1), some (.inl r4)] [.inl (m5.1 16 0 v1.toNatClampNeg)] m5 n else none := fun n => rfl
          by_cases c12 : ax_ok v1 8 = true
          · rw [if_pos c12] at h
            refine ax_gt c12 s13 ?_
            obtain rfl := Option.some.inj h
            exact ax_rs 1 (fun n => rfl)
          · rw [if_neg c12] at h
            cases h
        · rw [if_neg c10] at h
          refine ax_gf c10 s11 ?_
          obtain ⟨r15, m16, q14, h⟩ := ax_b2_of h
          have s17 : ∀ n, ax_ex (e + 15) L_X10_ring 25 [some (.inr (.inr (0, 0))), some (.inl v1), some (.inl r4)] [] m5 (n + 3) = ax_aft (fun s m2 => ax_ex (e + 15) L_X10_ring 28 [some (.inr (.inr (0, 0))), some (.inl v1), some (.inl r4)] s m2 n) [] (ax_ex (e + 14) L_X10_refuse 0 (ax_entry [.inr (.inr (0, 0)), .inl (-5)] 3) [] m5 n) := fun n => rfl
          refine ax_gci (j := 3) (k2 := 28) (lv2 := [some (.inr (.inr (0, 0))), some (.inl v1), some (.inl r4)]) (rest := []) ((R_X10_refuse (by omega) q14)) s17 ?_
          obtain rfl := Option.some.inj h
          exact ax_rs 1 (fun n => rfl)
  · rw [if_neg c1] at h
    refine ax_gf c1 s2 ?_
    obtain ⟨r20, m21, q19, h⟩ := ax_b2_of h
    have s22 : ∀ n, ax_ex (e + 15) L_X10_ring 3 [some (.inr (.inr (0, 0))), some (.inl v1), none] [] m (n + 3) = ax_aft (fun s m2 => ax_ex (e + 15) L_X10_ring 6 [some (.inr (.inr (0, 0))), some (.inl v1), none] s m2 n) [] (ax_ex (e + 14) L_X10_refuse 0 (ax_entry [.inr (.inr (0, 0)), .inl (-2)] 3) [] m n) := fun n => rfl
    refine ax_gci (j := 3) (k2 := 6) (lv2 := [some (.inr (.inr (0, 0))), some (.inl v1), none]) (rest := []) ((R_X10_refuse (by omega) q19)) s22 ?_
    obtain rfl := Option.some.inj h
    exact ax_rs 1 (fun n => rfl)
def F_X10_guess (m : ax_M) (v1 : Int32) (v2 : Int32) (v3 : Int32) : Option (Int32 × ax_M) := ax_b (F_X10_isPair m v1 v2) (fun r2 => if r2 = 0 then (ax_b2 (F_X10_refuse m (-2)) (fun r6 m7 => some (r6, m7))) else (if v3 < 0 then (ax_b2 (F_X10_refuse m (-2)) (fun r12 m13 => some (r12, m13))) else (if v3 ≤ 1 then (if v3 = 0 then (ax_b (F_X3_mayOwe m 0 v1 v2) (fun r20 => if r20 = 0 then (some (0, m)) else (some (1, m)))) else (ax_b (F_X3_surelyOwes m 0 v1 v2) (fun r25 => if r25 = 0 then (some (0, m)) else (some (1, m))))) else (ax_b2 (F_X10_refuse m (-2)) (fun r30 m31 => some (r30, m31))))))
set_option maxRecDepth 20000 in
set_option maxHeartbeats 4000000 in
theorem R_X10_guess {d : Nat} (hd : 11 ≤ d) {m : ax_M} {v1 : Int32} {v2 : Int32} {v3 : Int32} {q : (Int32 × ax_M)} (h : F_X10_guess m v1 v2 v3 = some q) : ax_Ru d L_X10_guess 0 (ax_entry [.inr (.inr (0, 0)), .inl v1, .inl v2, .inl v3] 5) [] m (some (.inl q.1), q.2) := by
  obtain ⟨e, rfl⟩ : ∃ e, d = e + 11 := ⟨d - 11, by omega⟩
  unfold F_X10_guess at h
  obtain ⟨r2, q1, h⟩ := ax_b_of h
  have s33 : ∀ n, ax_ex (e + 11) L_X10_guess 0 (ax_entry [.inr (.inr (0, 0)), .inl v1, .inl v2, .inl v3] 5) [] m (n + 4) = ax_aft (fun s m2 => ax_ex (e + 11) L_X10_guess 4 [some (.inr (.inr (0, 0))), some (.inl v1), some (.inl v2), some (.inl v3), none] s m2 n) [] (ax_ex (e + 10) L_X10_isPair 0 (ax_entry [.inr (.inr (0, 0)), .inl v1, .inl v2] 3) [] m n) := fun n => rfl
  refine ax_gci (j := 4) (k2 := 4) (lv2 := [some (.inr (.inr (0, 0))), some (.inl v1), some (.inl v2), some (.inl v3), none]) (rest := []) ((R_X10_isPair (by omega) q1)) s33 ?_
  have s4 : ∀ n, ax_ex (e + 11) L_X10_guess 4 [some (.inr (.inr (0, 0))), some (.inl v1), some (.inl v2), some (.inl v3), none] [.inl r2] m (n + 1) = if r2 = 0 then ax_ex (e + 11) L_X10_guess 10 [some (.inr (.inr (0, 0))), some (.inl v1), some (.inl v2), some (.inl v3), none] [] m n else ax_ex (e + 11) L_X10_guess 5 [some (.inr (.inr (0, 0))), some (.inl v1), some (.inl v2), some (.inl v3), none] [] m n := fun n => rfl
  by_cases c3 : r2 = 0
  · rw [if_pos c3] at h
    refine ax_gt c3 s4 ?_
    obtain ⟨r6, m7, q5, h⟩ := ax_b2_of h
    have s8 : ∀ n, ax_ex (e + 11) L_X10_guess 10 [some (.inr (.inr (0, 0))), some (.inl v1), some (.inl v2), some (.inl v3), none] [] m (n + 3) = ax_aft (fun s m2 => ax_ex (e + 11) L_X10_guess 13 [some (.inr (.inr (0, 0))), some (.inl v1), some (.inl v2), some (.inl v3), none] s m2 n) [] (ax_ex (e + 10) L_X10_refuse 0 (ax_entry [.inr (.inr (0, 0)), .inl (-2)] 3) [] m n) := fun n => rfl
    refine ax_gci (j := 3) (k2 := 13) (lv2 := [some (.inr (.inr (0, 0))), some (.inl v1), some (.inl v2), some (.inl v3), none]) (rest := []) ((R_X10_refuse (by omega) q5)) s8 ?_
    obtain rfl := Option.some.inj h
    exact ax_rs 1 (fun n => rfl)
  · rw [if_neg c3] at h
    refine ax_gf c3 s4 ?_
    have s10 : ∀ n, ax_ex (e + 11) L_X10_guess 5 [some (.inr (.inr (0, 0))), some (.inl v1), some (.inl v2), some (.inl v3), none] [] m (n + 2) = if v3 < 0 then ax_ex (e + 11) L_X10_guess 10 [some (.inr (.inr (0, 0))), some (.inl v1), some (.inl v2), some (.inl v3), none] [] m n else ax_ex (e + 11) L_X10_guess 7 [some (.inr (.inr (0, 0))), some (.inl v1), some (.inl v2), some (.inl v3), none] [] m n := fun n => rfl
    by_cases c9 : v3 < 0
    · rw [if_pos c9] at h
      refine ax_gt c9 s10 ?_
      obtain ⟨r12, m13, q11, h⟩ := ax_b2_of h
      have s14 : ∀ n, ax_ex (e + 11) L_X10_guess 10 [some (.inr (.inr (0, 0))), some (.inl v1), some (.inl v2), some (.inl v3), none] [] m (n + 3) = ax_aft (fun s m2 => ax_ex (e + 11) L_X10_guess 13 [some (.inr (.inr (0, 0))), some (.inl v1), some (.inl v2), some (.inl v3), none] s m2 n) [] (ax_ex (e + 10) L_X10_refuse 0 (ax_entry [.inr (.inr (0, 0)), .inl (-2)] 3) [] m n) := fun n => rfl
      refine ax_gci (j := 3) (k2 := 13) (lv2 := [some (.inr (.inr (0, 0))), some (.inl v1), some (.inl v2), some (.inl v3), none]) (rest := []) ((R_X10_refuse (by omega) q11)) s14 ?_
      obtain rfl := Option.some.inj h
      exact ax_rs 1 (fun n => rfl)
    · rw [if_neg c9] at h
      refine ax_gf c9 s10 ?_
      have s16 : ∀ n, ax_ex (e + 11) L_X10_guess 7 [some (.inr (.inr (0, 0))), some (.inl v1), some (.inl v2), some (.inl v3), none] [] m (n + 3) = if v3 ≤ 1 then ax_ex (e + 11) L_X10_guess 14 [some (.inr (.inr (0, 0))), some (.inl v1), some (.inl v2), some (.inl v3), none] [] m n else ax_ex (e + 11) L_X10_guess 10 [some (.inr (.inr (0, 0))), some (.inl v1), some (.inl v2), some (.inl v3), none] [] m n := fun n => rfl
      by_cases c15 : v3 ≤ 1
      · rw [if_pos c15] at h
        refine ax_gt c15 s16 ?_
        have s18 : ∀ n, ax_ex (e + 11) L_X10_guess 14 [some (.inr (.inr (0, 0))), some (.inl v1), some (.inl v2), some (.inl v3), none] [] m (n + 2) = if v3 = 0 then ax_ex (e + 11) L_X10_guess 16 [some (.inr (.inr (0, 0))), some (.inl v1), some (.inl v2), some (.inl v3), none] [] m n else ax_ex (e + 11) L_X10_guess 22 [some (.inr (.inr (0, 0))), some (.inl v1), some (.inl v2), some (.inl v3), none] [] m n := fun n => rfl
        by_cases c17 : v3 = 0
        · rw [if_pos c17] at h
          refine ax_gt c17 s18 ?_
          obtain ⟨r20, q19, h⟩ := ax_b_of h
          have s23 : ∀ n, ax_ex (e + 11) L_X10_guess 16 [some (.inr (.inr (0, 0))), some (.inl v1), some (.inl v2), some (.inl v3), none] [] m (n + 5) = ax_aft (fun s m2 => ax_ex (e + 11) L_X10_guess 21 [some (.inr (.inr (0, 0))), some (.inl v1), some (.inl v2), some (.inl v3), none] s m2 n) [] (ax_ex (e + 10) L_X3_mayOwe 0 (ax_entry [.inr (.inr (1, 0)), .inl v1, .inl v2] 3) [] m n) := fun n => rfl
          refine ax_gci (j := 5) (k2 := 21) (lv2 := [some (.inr (.inr (0, 0))), some (.inl v1), some (.inl v2), some (.inl v3), none]) (rest := []) ((R_X3_mayOwe (by omega) q19)) s23 ?_
          have s22 : ∀ n, ax_ex (e + 11) L_X10_guess 21 [some (.inr (.inr (0, 0))), some (.inl v1), some (.inl v2), some (.inl v3), none] [.inl r20] m (n + 4) = if r20 = 0 then ax_ex (e + 11) L_X10_guess 32 [some (.inr (.inr (0, 0))), some (.inl v1), some (.inl v2), some (.inl v3), some (.inl r20)] [] m n else ax_ex (e + 11) L_X10_guess 30 [some (.inr (.inr (0, 0))), some (.inl v1), some (.inl v2), some (.inl v3), some (.inl r20)] [] m n := fun n => rfl
          by_cases c21 : r20 = 0
          · rw [if_pos c21] at h
            refine ax_gt c21 s22 ?_
            obtain rfl := Option.some.inj h
            exact ax_rs 2 (fun n => rfl)
          · rw [if_neg c21] at h
            refine ax_gf c21 s22 ?_
            obtain rfl := Option.some.inj h
            exact ax_rs 3 (fun n => rfl)
        · rw [if_neg c17] at h
          refine ax_gf c17 s18 ?_
          obtain ⟨r25, q24, h⟩ := ax_b_of h
          have s28 : ∀ n, ax_ex (e + 11) L_X10_guess 22 [some (.inr (.inr (0, 0))), some (.inl v1), some (.inl v2), some (.inl v3), none] [] m (n + 5) = ax_aft (fun s m2 => ax_ex (e + 11) L_X10_guess 27 [some (.inr (.inr (0, 0))), some (.inl v1), some (.inl v2), some (.inl v3), none] s m2 n) [] (ax_ex (e + 10) L_X3_surelyOwes 0 (ax_entry [.inr (.inr (1, 0)), .inl v1, .inl v2] 6) [] m n) := fun n => rfl
          refine ax_gci (j := 5) (k2 := 27) (lv2 := [some (.inr (.inr (0, 0))), some (.inl v1), some (.inl v2), some (.inl v3), none]) (rest := []) ((R_X3_surelyOwes (by omega) q24)) s28 ?_
          have s27 : ∀ n, ax_ex (e + 11) L_X10_guess 27 [some (.inr (.inr (0, 0))), some (.inl v1), some (.inl v2), some (.inl v3), none] [.inl r25] m (n + 3) = if r25 = 0 then ax_ex (e + 11) L_X10_guess 32 [some (.inr (.inr (0, 0))), some (.inl v1), some (.inl v2), some (.inl v3), some (.inl r25)] [] m n else ax_ex (e + 11) L_X10_guess 30 [some (.inr (.inr (0, 0))), some (.inl v1), some (.inl v2), some (.inl v3), some (.inl r25)] [] m n := fun n => rfl
          by_cases c26 : r25 = 0
          · rw [if_pos c26] at h
            refine ax_gt c26 s27 ?_
            obtain rfl := Option.some.inj h
            exact ax_rs 2 (fun n => rfl)
          · rw [if_neg c26] at h
            refine ax_gf c26 s27 ?_
            obtain rfl := Option.some.inj h
            exact ax_rs 3 (fun n => rfl)
      · rw [if_neg c15] at h
        refine ax_gf c15 s16 ?_
        obtain ⟨r30, m31, q29, h⟩ := ax_b2_of h
        have s32 : ∀ n, ax_ex (e + 11) L_X10_guess 10 [some (.inr (.inr (0, 0))), some (.inl v1), some (.inl v2), some (.inl v3), none] [] m (n + 3) = ax_aft (fun s m2 => ax_ex (e + 11) L_X10_guess 13 [some (.inr (.inr (0, 0))), some (.inl v1), some (.inl v2), some (.inl v3), none] s m2 n) [] (ax_ex (e + 10) L_X10_refuse 0 (ax_entry [.inr (.inr (0, 0)), .inl (-2)] 3) [] m n) := fun n => rfl
        refine ax_gci (j := 3) (k2 := 13) (lv2 := [some (.inr (.inr (0, 0))), some (.inl v1), some (.inl v2), some (.inl v3), none]) (rest := []) ((R_X10_refuse (by omega) q29)) s32 ?_
        obtain rfl := Option.some.inj h
        exact ax_rs 1 (fun n => rfl)
def F_X10_noTold (m : ax_M) (g0 : Nat) (v1 : Int32) : Option Int32 := ax_b (F_X7_noRow m g0) (fun r2 => if r2 = 0 then (if v1 ≤ (m.1 8 g0 1) then (some 0) else (some (-2))) else (some r2))
set_option maxRecDepth 20000 in
set_option maxHeartbeats 4000000 in
theorem R_X10_noTold {d : Nat} (hd : 3 ≤ d) {m : ax_M} {g0 : Nat} {v1 : Int32} {q : Int32} (h : F_X10_noTold m g0 v1 = some q) : ax_Ru d L_X10_noTold 0 (ax_entry [.inr (.inr (8, g0)), .inl v1] 3) [] m (some (.inl q), m) := by
  obtain ⟨e, rfl⟩ : ∃ e, d = e + 3 := ⟨d - 3, by omega⟩
  unfold F_X10_noTold at h
  obtain ⟨r2, q1, h⟩ := ax_b_of h
  have s7 : ∀ n, ax_ex (e + 3) L_X10_noTold 0 (ax_entry [.inr (.inr (8, g0)), .inl v1] 3) [] m (n + 2) = ax_aft (fun s m2 => ax_ex (e + 3) L_X10_noTold 2 [some (.inr (.inr (8, g0))), some (.inl v1), none] s m2 n) [] (ax_ex (e + 2) L_X7_noRow 0 (ax_entry [.inr (.inr (8, g0))] 1) [] m n) := fun n => rfl
  refine ax_gci (j := 2) (k2 := 2) (lv2 := [some (.inr (.inr (8, g0))), some (.inl v1), none]) (rest := []) ((R_X7_noRow (by omega) q1)) s7 ?_
  have s4 : ∀ n, ax_ex (e + 3) L_X10_noTold 2 [some (.inr (.inr (8, g0))), some (.inl v1), none] [.inl r2] m (n + 3) = if r2 = 0 then ax_ex (e + 3) L_X10_noTold 7 [some (.inr (.inr (8, g0))), some (.inl v1), some (.inl r2)] [] m n else ax_ex (e + 3) L_X10_noTold 5 [some (.inr (.inr (8, g0))), some (.inl v1), some (.inl r2)] [] m n := fun n => rfl
  by_cases c3 : r2 = 0
  · rw [if_pos c3] at h
    refine ax_gt c3 s4 ?_
    have s6 : ∀ n, ax_ex (e + 3) L_X10_noTold 7 [some (.inr (.inr (8, g0))), some (.inl v1), some (.inl r2)] [] m (n + 4) = if v1 ≤ (m.1 8 g0 1) then ax_ex (e + 3) L_X10_noTold 13 [some (.inr (.inr (8, g0))), some (.inl v1), some (.inl r2)] [] m n else ax_ex (e + 3) L_X10_noTold 11 [some (.inr (.inr (8, g0))), some (.inl v1), some (.inl r2)] [] m n := fun n => rfl
    by_cases c5 : v1 ≤ (m.1 8 g0 1)
    · rw [if_pos c5] at h
      refine ax_gt c5 s6 ?_
      obtain rfl := Option.some.inj h
      exact ax_rs 2 (fun n => rfl)
    · rw [if_neg c5] at h
      refine ax_gf c5 s6 ?_
      obtain rfl := Option.some.inj h
      exact ax_rs 3 (fun n => rfl)
  · rw [if_neg c3] at h
    refine ax_gf c3 s4 ?_
    obtain rfl := Option.some.inj h
    exact ax_rs 2 (fun n => rfl)
def F_X10_tells (m : ax_M) (v1 : Int32) (v2 : Int32) (v3 : Int32) : Option (Int32 × ax_M) := ax_b (F_X10_isShelf v1) (fun r2 => if r2 = 0 then (ax_b2 (F_X10_refuse m (-2)) (fun r6 m7 => some (r6, m7))) else (if v2 < 0 then (ax_b2 (F_X10_refuse m (-2)) (fun r12 m13 => some (r12, m13))) else (if 10 < v2 then (ax_b2 (F_X10_refuse m (-2)) (fun r18 m19 => some (r18, m19))) else (if (-1) ≤ v3 then (if ax_ok v1 8 = true then (ax_b (F_X10_noTold m (8 * 0 + v1.toNatClampNeg) v2) (fun r26 => if r26 = 0 then (ax_b (F_X7_areCells m (8 * 0 + v1.toNatClampNeg) v2) (fun r30 => if r30 = 0 then (ax_b2 (F_X10_refuse m (-5)) (fun r34 m35 => some (r34, m35))) else (ax_b (F_X7_cellBits m (8 * 0 + v1.toNatClampNeg) v2) (fun r38 => ax_b2 (F_X1_find m r38) (fun r40 m41 => if r40 = (-1) then (some (r40, m41)) else (if v3 = (-1) then (some (r40, m41)) else (if v3 < r40 then (if ax_ok v3 3 = true then (some ((m41.1 19 0 v3.toNatClampNeg), m41)) else (none)) else (ax_b2 (F_X10_refuse m41 (-5)) (fun r51 m52 => some (r51, m52)))))))))) else (ax_b2 (F_X10_refuse m r26) (fun r58 m59 => some (r58, m59))))) else (none)) else (ax_b2 (F_X10_refuse m (-2)) (fun r63 m64 => some (r63, m64)))))))
set_option maxRecDepth 20000 in
set_option maxHeartbeats 4000000 in
theorem R_X10_tells {d : Nat} (hd : 20 ≤ d) {m : ax_M} {v1 : Int32} {v2 : Int32} {v3 : Int32} {q : (Int32 × ax_M)} (h : F_X10_tells m v1 v2 v3 = some q) : ax_Ru d L_X10_tells 0 (ax_entry [.inr (.inr (0, 0)), .inl v1, .inl v2, .inl v3] 7) [] m (some (.inl q.1), q.2) := by
  obtain ⟨e, rfl⟩ : ∃ e, d = e + 20 := ⟨d - 20, by omega⟩
  unfold F_X10_tells at h
  obtain ⟨r2, q1, h⟩ := ax_b_of h
  have s66 : ∀ n, ax_ex (e + 20) L_X10_tells 0 (ax_entry [.inr (.inr (0, 0)), .inl v1, .inl v2, .inl v3] 7) [] m (n + 2) = ax_aft (fun s m2 => ax_ex (e + 20) L_X10_tells 2 [some (.inr (.inr (0, 0))), some (.inl v1), some (.inl v2), some (.inl v3), none, none, none] s m2 n) [] (ax_ex (e + 19) L_X10_isShelf 0 (ax_entry [.inl v1] 1) [] m n) := fun n => rfl
  refine ax_gci (j := 2) (k2 := 2) (lv2 := [some (.inr (.inr (0, 0))), some (.inl v1), some (.inl v2), some (.inl v3), none, none, none]) (rest := []) ((R_X10_isShelf (by omega) q1)) s66 ?_
  have s4 : ∀ n, ax_ex (e + 20) L_X10_tells 2 [some (.inr (.inr (0, 0))), some (.inl v1), some (.inl v2), some (.inl v3), none, none, none] [.inl r2] m (n + 1) = if r2 = 0 then ax_ex (e + 20) L_X10_tells 11 [some (.inr (.inr (0, 0))), some (.inl v1), some (.inl v2), some (.inl v3), none, none, none] [] m n else ax_ex (e + 20) L_X10_tells 3 [some (.inr (.inr (0, 0))), some (.inl v1), some (.inl v2), some (.inl v3), none, none, none] [] m n := fun n => rfl
  by_cases c3 : r2 = 0
  · rw [if_pos c3] at h
    refine ax_gt c3 s4 ?_
    obtain ⟨r6, m7, q5, h⟩ := ax_b2_of h
    have s8 : ∀ n, ax_ex (e + 20) L_X10_tells 11 [some (.inr (.inr (0, 0))), some (.inl v1), some (.inl v2), some (.inl v3), none, none, none] [] m (n + 3) = ax_aft (fun s m2 => ax_ex (e + 20) L_X10_tells 14 [some (.inr (.inr (0, 0))), some (.inl v1), some (.inl v2), some (.inl v3), none, none, none] s m2 n) [] (ax_ex (e + 19) L_X10_refuse 0 (ax_entry [.inr (.inr (0, 0)), .inl (-2)] 3) [] m n) := fun n => rfl
    refine ax_gci (j := 3) (k2 := 14) (lv2 := [some (.inr (.inr (0, 0))), some (.inl v1), some (.inl v2), some (.inl v3), none, none, none]) (rest := []) ((R_X10_refuse (by omega) q5)) s8 ?_
    obtain rfl := Option.some.inj h
    exact ax_rs 1 (fun n => rfl)
  · rw [if_neg c3] at h
    refine ax_gf c3 s4 ?_
    have s10 : ∀ n, ax_ex (e + 20) L_X10_tells 3 [some (.inr (.inr (0, 0))), some (.inl v1), some (.inl v2), some (.inl v3), none, none, none] [] m (n + 2) = if v2 < 0 then ax_ex (e + 20) L_X10_tells 11 [some (.inr (.inr (0, 0))), some (.inl v1), some (.inl v2), some (.inl v3), none, none, none] [] m n else ax_ex (e + 20) L_X10_tells 5 [some (.inr (.inr (0, 0))), some (.inl v1), some (.inl v2), some (.inl v3), none, none, none] [] m n := fun n => rfl
    by_cases c9 : v2 < 0
    · rw [if_pos c9] at h
      refine ax_gt c9 s10 ?_
      obtain ⟨r12, m13, q11, h⟩ := ax_b2_of h
      have s14 : ∀ n, ax_ex (e + 20) L_X10_tells 11 [some (.inr (.inr (0, 0))), some (.inl v1), some (.inl v2), some (.inl v3), none, none, none] [] m (n + 3) = ax_aft (fun s m2 => ax_ex (e + 20) L_X10_tells 14 [some (.inr (.inr (0, 0))), some (.inl v1), some (.inl v2), some (.inl v3), none, none, none] s m2 n) [] (ax_ex (e + 19) L_X10_refuse 0 (ax_entry [.inr (.inr (0, 0)), .inl (-2)] 3) [] m n) := fun n => rfl
      refine ax_gci (j := 3) (k2 := 14) (lv2 := [some (.inr (.inr (0, 0))), some (.inl v1), some (.inl v2), some (.inl v3), none, none, none]) (rest := []) ((R_X10_refuse (by omega) q11)) s14 ?_
      obtain rfl := Option.some.inj h
      exact ax_rs 1 (fun n => rfl)
    · rw [if_neg c9] at h
      refine ax_gf c9 s10 ?_
      have s16 : ∀ n, ax_ex (e + 20) L_X10_tells 5 [some (.inr (.inr (0, 0))), some (.inl v1), some (.inl v2), some (.inl v3), none, none, none] [] m (n + 3) = if 10 < v2 then ax_ex (e + 20) L_X10_tells 11 [some (.inr (.inr (0, 0))), some (.inl v1), some (.inl v2), some (.inl v3), none, none, none] [] m n else ax_ex (e + 20) L_X10_tells 8 [some (.inr (.inr (0, 0))), some (.inl v1), some (.inl v2), some (.inl v3), none, none, none] [] m n := fun n => rfl
      by_cases c15 : 10 < v2
      · rw [if_pos c15] at h
        refine ax_gt c15 s16 ?_
        obtain ⟨r18, m19, q17, h⟩ := ax_b2_of h
        have s20 : ∀ n, ax_ex (e + 20) L_X10_tells 11 [some (.inr (.inr (0, 0))), some (.inl v1), some (.inl v2), some (.inl v3), none, none, none] [] m (n + 3) = ax_aft (fun s m2 => ax_ex (e + 20) L_X10_tells 14 [some (.inr (.inr (0, 0))), some (.inl v1), some (.inl v2), some (.inl v3), none, none, none] s m2 n) [] (ax_ex (e + 19) L_X10_refuse 0 (ax_entry [.inr (.inr (0, 0)), .inl (-2)] 3) [] m n) := fun n => rfl
        refine ax_gci (j := 3) (k2 := 14) (lv2 := [some (.inr (.inr (0, 0))), some (.inl v1), some (.inl v2), some (.inl v3), none, none, none]) (rest := []) ((R_X10_refuse (by omega) q17)) s20 ?_
        obtain rfl := Option.some.inj h
        exact ax_rs 1 (fun n => rfl)
      · rw [if_neg c15] at h
        refine ax_gf c15 s16 ?_
        have s22 : ∀ n, ax_ex (e + 20) L_X10_tells 8 [some (.inr (.inr (0, 0))), some (.inl v1), some (.inl v2), some (.inl v3), none, none, none] [] m (n + 3) = if (-1) ≤ v3 then ax_ex (e + 20) L_X10_tells 15 [some (.inr (.inr (0, 0))), some (.inl v1), some (.inl v2), some (.inl v3), none, none, none] [] m n else ax_ex (e + 20) L_X10_tells 11 [some (.inr (.inr (0, 0))), some (.inl v1), some (.inl v2), some (.inl v3), none, none, none] [] m n := fun n => rfl
        by_cases c21 : (-1) ≤ v3
        · rw [if_pos c21] at h
          refine ax_gt c21 s22 ?_
          have s24 : ∀ n, ax_ex (e + 20) L_X10_tells 15 [some (.inr (.inr (0, 0))), some (.inl v1), some (.inl v2), some (.inl v3), none, none, none] [] m (n + 4) = if ax_ok v1 8 = true then ax_ex (e + 20) L_X10_tells 19 [some (.inr (.inr (0, 0))), some (.inl v1), some (.inl v2), some (.inl v3), none, none, none] [.inr (.inr (8, (8 * 0 + v1.toNatClampNeg)))] m n else none := fun n => rfl
          by_cases c23 : ax_ok v1 8 = true
          · rw [if_pos c23] at h
            refine ax_gt c23 s24 ?_
            obtain ⟨r26, q25, h⟩ := ax_b_of h
            have s61 : ∀ n, ax_ex (e + 20) L_X10_tells 19 [some (.inr (.inr (0, 0))), some (.inl v1), some (.inl v2), some (.inl v3), none, none, none] [.inr (.inr (8, (8 * 0 + v1.toNatClampNeg)))] m (n + 4) = ax_aft (fun s m2 => ax_ex (e + 20) L_X10_tells 23 [some (.inr (.inr (0, 0))), some (.inl v1), some (.inl v2), some (.inl v3), some (.inr (.inr (8, (8 * 0 + v1.toNatClampNeg)))), none, none] s m2 n) [] (ax_ex (e + 19) L_X10_noTold 0 (ax_entry [.inr (.inr (8, (8 * 0 + v1.toNatClampNeg))), .inl v2] 3) [] m n) := fun n => rfl
            refine ax_gci (j := 4) (k2 := 23) (lv2 := [some (.inr (.inr (0, 0))), some (.inl v1), some (.inl v2), some (.inl v3), some (.inr (.inr (8, (8 * 0 + v1.toNatClampNeg)))), none, none]) (rest := []) ((R_X10_noTold (by omega) q25)) s61 ?_
            have s28 : ∀ n, ax_ex (e + 20) L_X10_tells 23 [some (.inr (.inr (0, 0))), some (.inl v1), some (.inl v2), some (.inl v3), some (.inr (.inr (8, (8 * 0 + v1.toNatClampNeg)))), none, none] [.inl r26] m (n + 3) = if r26 = 0 then ax_ex (e + 20) L_X10_tells 30 [some (.inr (.inr (0, 0))), some (.inl v1), some (.inl v2), some (.inl v3), some (.inr (.inr (8, (8 * 0 + v1.toNatClampNeg)))), some (.inl r26), none] [] m n else ax_ex (e + 20) L_X10_tells 26 [some (.inr (.inr (0, 0))), some (.inl v1), some (.inl v2), some (.inl v3), some (.inr (.inr (8, (8 * 0 + v1.toNatClampNeg)))), some (.inl r26), none] [] m n := fun n => rfl
            by_cases c27 : r26 = 0
            · rw [if_pos c27] at h
              refine ax_gt c27 s28 ?_
              obtain ⟨r30, q29, h⟩ := ax_b_of h
              have s56 : ∀ n, ax_ex (e + 20) L_X10_tells 30 [some (.inr (.inr (0, 0))), some (.inl v1), some (.inl v2), some (.inl v3), some (.inr (.inr (8, (8 * 0 + v1.toNatClampNeg)))), some (.inl r26), none] [] m (n + 3) = ax_aft (fun s m2 => ax_ex (e + 20) L_X10_tells 33 [some (.inr (.inr (0, 0))), some (.inl v1), some (.inl v2), some (.inl v3), some (.inr (.inr (8, (8 * 0 + v1.toNatClampNeg)))), some (.inl r26), none] s m2 n) [] (ax_ex (e + 19) L_X7_areCells 0 (ax_entry [.inr (.inr (8, (8 * 0 + v1.toNatClampNeg))), .inl v2] 3) [] m n) := fun n => rfl
              refine ax_gci (j := 3) (k2 := 33) (lv2 := [some (.inr (.inr (0, 0))), some (.inl v1), some (.inl v2), some (.inl v3), some (.inr (.inr (8, (8 * 0 + v1.toNatClampNeg)))), some (.inl r26), none]) (rest := []) ((R_X7_areCells (by omega) q29)) s56 ?_
              have s32 : ∀ n, ax_ex (e + 20) L_X10_tells 33 [some (.inr (.inr (0, 0))), some (.inl v1), some (.inl v2), some (.inl v3), some (.inr (.inr (8, (8 * 0 + v1.toNatClampNeg)))), some (.inl r26), none] [.inl r30] m (n + 1) = if r30 = 0 then ax_ex (e + 20) L_X10_tells 34 [some (.inr (.inr (0, 0))), some (.inl v1), some (.inl v2), some (.inl v3), some (.inr (.inr (8, (8 * 0 + v1.toNatClampNeg)))), some (.inl r26), none] [] m n else ax_ex (e + 20) L_X10_tells 38 [some (.inr (.inr (0, 0))), some (.inl v1), some (.inl v2), some (.inl v3), some (.inr (.inr (8, (8 * 0 + v1.toNatClampNeg)))), some (.inl r26), none] [] m n := fun n => rfl
              by_cases c31 : r30 = 0
              · rw [if_pos c31] at h
                refine ax_gt c31 s32 ?_
                obtain ⟨r34, m35, q33, h⟩ := ax_b2_of h
                have s36 : ∀ n, ax_ex (e + 20) L_X10_tells 34 [some (.inr (.inr (0, 0))), some (.inl v1), some (.inl v2), some (.inl v3), some (.inr (.inr (8, (8 * 0 + v1.toNatClampNeg)))), some (.inl r26), none] [] m (n + 3) = ax_aft (fun s m2 => ax_ex (e + 20) L_X10_tells 37 [some (.inr (.inr (0, 0))), some (.inl v1), some (.inl v2), some (.inl v3), some (.inr (.inr (8, (8 * 0 + v1.toNatClampNeg)))), some (.inl r26), none] s m2 n) [] (ax_ex (e + 19) L_X10_refuse 0 (ax_entry [.inr (.inr (0, 0)), .inl (-5)] 3) [] m n) := fun n => rfl
                refine ax_gci (j := 3) (k2 := 37) (lv2 := [some (.inr (.inr (0, 0))), some (.inl v1), some (.inl v2), some (.inl v3), some (.inr (.inr (8, (8 * 0 + v1.toNatClampNeg)))), some (.inl r26), none]) (rest := []) ((R_X10_refuse (by omega) q33)) s36 ?_
                obtain rfl := Option.some.inj h
                exact ax_rs 1 (fun n => rfl)
              · rw [if_neg c31] at h
                refine ax_gf c31 s32 ?_
                obtain ⟨r38, q37, h⟩ := ax_b_of h
                have s55 : ∀ n, ax_ex (e + 20) L_X10_tells 38 [some (.inr (.inr (0, 0))), some (.inl v1), some (.inl v2), some (.inl v3), some (.inr (.inr (8, (8 * 0 + v1.toNatClampNeg)))), some (.inl r26), none] [] m (n + 5) = ax_aft (fun s m2 => ax_ex (e + 20) L_X10_tells 43 [some (.inr (.inr (0, 0))), some (.inl v1), some (.inl v2), some (.inl v3), some (.inr (.inr (8, (8 * 0 + v1.toNatClampNeg)))), some (.inl r26), none] s m2 n) [.inr (.inr (18, 0))] (ax_ex (e + 19) L_X7_cellBits 0 (ax_entry [.inr (.inr (8, (8 * 0 + v1.toNatClampNeg))), .inl v2] 5) [] m n) := fun n => rfl
                refine ax_gcl (j := 5) (k2 := 43) (lv2 := [some (.inr (.inr (0, 0))), some (.inl v1), some (.inl v2), some (.inl v3), some (.inr (.inr (8, (8 * 0 + v1.toNatClampNeg)))), some (.inl r26), none]) (rest := [.inr (.inr (18, 0))]) ((R_X7_cellBits (by omega) q37)) s55 ?_
                obtain ⟨r40, m41, q39, h⟩ := ax_b2_of h
                have s54 : ∀ n, ax_ex (e + 20) L_X10_tells 43 [some (.inr (.inr (0, 0))), some (.inl v1), some (.inl v2), some (.inl v3), some (.inr (.inr (8, (8 * 0 + v1.toNatClampNeg)))), some (.inl r26), none] [.inr (.inl r38), .inr (.inr (18, 0))] m (n + 1) = ax_aft (fun s m2 => ax_ex (e + 20) L_X10_tells 44 [some (.inr (.inr (0, 0))), some (.inl v1), some (.inl v2), some (.inl v3), some (.inr (.inr (8, (8 * 0 + v1.toNatClampNeg)))), some (.inl r26), none] s m2 n) [] (ax_ex (e + 19) L_X1_find 0 (ax_entry [.inr (.inr (18, 0)), .inr (.inl r38)] 4) [] m n) := fun n => rfl
                refine ax_gci (j := 1) (k2 := 44) (lv2 := [some (.inr (.inr (0, 0))), some (.inl v1), some (.inl v2), some (.inl v3), some (.inr (.inr (8, (8 * 0 + v1.toNatClampNeg)))), some (.inl r26), none]) (rest := []) ((R_X1_find (by omega) q39)) s54 ?_
                have s43 : ∀ n, ax_ex (e + 20) L_X10_tells 44 [some (.inr (.inr (0, 0))), some (.inl v1), some (.inl v2), some (.inl v3), some (.inr (.inr (8, (8 * 0 + v1.toNatClampNeg)))), some (.inl r26), none] [.inl r40] m41 (n + 4) = if r40 = (-1) then ax_ex (e + 20) L_X10_tells 51 [some (.inr (.inr (0, 0))), some (.inl v1), some (.inl v2), some (.inl v3), some (.inr (.inr (8, (8 * 0 + v1.toNatClampNeg)))), some (.inl r26), some (.inl r40)] [] m41 n else ax_ex (e + 20) L_X10_tells 48 [some (.inr (.inr (0, 0))), some (.inl v1), some (.inl v2), some (.inl v3), some (.inr (.inr (8, (8 * 0 + v1.toNatClampNeg)))), some (.inl r26), some (.inl r40)] [] m41 n := fun n => rfl
                by_cases c42 : r40 = (-1)
                · rw [if_pos c42] at h
                  refine ax_gt c42 s43 ?_
                  obtain rfl := Option.some.inj h
                  exact ax_rs 2 (fun n => rfl)
                · rw [if_neg c42] at h
                  refine ax_gf c42 s43 ?_
                  have s45 : ∀ n, ax_ex (e + 20) L_X10_tells 48 [some (.inr (.inr (0, 0))), some (.inl v1), some (.inl v2), some (.inl v3), some (.inr (.inr (8, (8 * 0 + v1.toNatClampNeg)))), some (.inl r26), some (.inl r40)] [] m41 (n + 3) = if v3 = (-1) then ax_ex (e + 20) L_X10_tells 51 [some (.inr (.inr (0, 0))), some (.inl v1), some (.inl v2), some (.inl v3), some (.inr (.inr (8, (8 * 0 + v1.toNatClampNeg)))), some (.inl r26), some (.inl r40)] [] m41 n else ax_ex (e + 20) L_X10_tells 53 [some (.inr (.inr (0, 0))), some (.inl v1), some (.inl v2), some (.inl v3), some (.inr (.inr (8, (8 * 0 + v1.toNatClampNeg)))), some (.inl r26), some (.inl r40)] [] m41 n := fun n => rfl
                  by_cases c44 : v3 = (-1)
                  · rw [if_pos c44] at h
                    refine ax_gt c44 s45 ?_
                    obtain rfl := Option.some.inj h
                    exact ax_rs 2 (fun n => rfl)
                  · rw [if_neg c44] at h
                    refine ax_gf c44 s45 ?_
                    have s47 : ∀ n, ax_ex (e + 20) L_X10_tells 53 [some (.inr (.inr (0, 0))), some (.inl v1), some (.inl v2), some (.inl v3), some (.inr (.inr (8, (8 * 0 + v1.toNatClampNeg)))), some (.inl r26), some (.inl r40)] [] m41 (n + 3) = if v3 < r40 then ax_ex (e + 20) L_X10_tells 60 [some (.inr (.inr (0, 0))), some (.inl v1), some (.inl v2), some (.inl v3), some (.inr (.inr (8, (8 * 0 + v1.toNatClampNeg)))), some (.inl r26), some (.inl r40)] [] m41 n else ax_ex (e + 20) L_X10_tells 56 [some (.inr (.inr (0, 0))), some (.inl v1), some (.inl v2), some (.inl v3), some (.inr (.inr (8, (8 * 0 + v1.toNatClampNeg)))), some (.inl r26), some (.inl r40)] [] m41 n := fun n => rfl
                    by_cases c46 : v3 < r40
                    · rw [if_pos c46] at h
                      refine ax_gt c46 s47 ?_
                      have s49 : ∀ n, ax_ex (e + 20) L_X10_tells 60 [some (.inr (.inr (0, 0))), some (.inl v1), some (.inl v2), some (.inl v3), some (.inr (.inr (8, (8 * 0 + v1.toNatClampNeg)))), some (.inl r26), some (.inl r40)] [] m41 (n + 5) = if ax_ok v3 3 = true then ax_ex (e + 20) L_X10_tells 65 [some (.inr (.inr (0, 0))), some (.inl v1), some (.inl v2), some (.inl v3), some (.inr (.inr (8, (8 * 0 + v1.toNatClampNeg)))), some (.inl r26), some (.inl r40)] [.inl (m41.1 19 0 v3.toNatClampNeg)] m41 n else none := fun n => rfl
                      by_cases c48 : ax_ok v3 3 = true
                      · rw [if_pos c48] at h
                        refine ax_gt c48 s49 ?_
                        obtain rfl := Option.some.inj h
                        exact ax_rs 1 (fun n => rfl)
                      · rw [if_neg c48] at h
                        cases h
                    · rw [if_neg c46] at h
                      refine ax_gf c46 s47 ?_
                      obtain ⟨r51, m52, q50, h⟩ := ax_b2_of h
                      have s53 : ∀ n, ax_ex (e + 20) L_X10_tells 56 [some (.inr (.inr (0, 0))), some (.inl v1), some (.inl v2), some (.inl v3), some (.inr (.inr (8, (8 * 0 + v1.toNatClampNeg)))), some (.inl r26), some (.inl r40)] [] m41 (n + 3) = ax_aft (fun s m2 => ax_ex (e + 20) L_X10_tells 59 [some (.inr (.inr (0, 0))), some (.inl v1), some (.inl v2), some (.inl v3), some (.inr (.inr (8, (8 * 0 + v1.toNatClampNeg)))), some (.inl r26), some (.inl r40)] s m2 n) [] (ax_ex (e + 19) L_X10_refuse 0 (ax_entry [.inr (.inr (0, 0)), .inl (-5)] 3) [] m41 n) := fun n => rfl
                      refine ax_gci (j := 3) (k2 := 59) (lv2 := [some (.inr (.inr (0, 0))), some (.inl v1), some (.inl v2), some (.inl v3), some (.inr (.inr (8, (8 * 0 + v1.toNatClampNeg)))), some (.inl r26), some (.inl r40)]) (rest := []) ((R_X10_refuse (by omega) q50)) s53 ?_
                      obtain rfl := Option.some.inj h
                      exact ax_rs 1 (fun n => rfl)
            · rw [if_neg c27] at h
              refine ax_gf c27 s28 ?_
              obtain ⟨r58, m59, q57, h⟩ := ax_b2_of h
              have s60 : ∀ n, ax_ex (e + 20) L_X10_tells 26 [some (.inr (.inr (0, 0))), some (.inl v1), some (.inl v2), some (.inl v3), some (.inr (.inr (8, (8 * 0 + v1.toNatClampNeg)))), some (.inl r26), none] [] m (n + 3) = ax_aft (fun s m2 => ax_ex (e + 20) L_X10_tells 29 [some (.inr (.inr (0, 0))), some (.inl v1), some (.inl v2), some (.inl v3), some (.inr (.inr (8, (8 * 0 + v1.toNatClampNeg)))), some (.inl r26), none] s m2 n) [] (ax_ex (e + 19) L_X10_refuse 0 (ax_entry [.inr (.inr (0, 0)), .inl r26] 3) [] m n) := fun n => rfl
              refine ax_gci (j := 3) (k2 := 29) (lv2 := [some (.inr (.inr (0, 0))), some (.inl v1), some (.inl v2), some (.inl v3), some (.inr (.inr (8, (8 * 0 + v1.toNatClampNeg)))), some (.inl r26), none]) (rest := []) ((R_X10_refuse (by omega) q57)) s60 ?_
              obtain rfl := Option.some.inj h
              exact ax_rs 1 (fun n => rfl)
          · rw [if_neg c23] at h
            cases h
        · rw [if_neg c21] at h
          refine ax_gf c21 s22 ?_
          obtain ⟨r63, m64, q62, h⟩ := ax_b2_of h
          have s65 : ∀ n, ax_ex (e + 20) L_X10_tells 11 [some (.inr (.inr (0, 0))), some (.inl v1), some (.inl v2), some (.inl v3), none, none, none] [] m (n + 3) = ax_aft (fun s m2 => ax_ex (e + 20) L_X10_tells 14 [some (.inr (.inr (0, 0))), some (.inl v1), some (.inl v2), some (.inl v3), none, none, none] s m2 n) [] (ax_ex (e + 19) L_X10_refuse 0 (ax_entry [.inr (.inr (0, 0)), .inl (-2)] 3) [] m n) := fun n => rfl
          refine ax_gci (j := 3) (k2 := 14) (lv2 := [some (.inr (.inr (0, 0))), some (.inl v1), some (.inl v2), some (.inl v3), none, none, none]) (rest := []) ((R_X10_refuse (by omega) q62)) s65 ?_
          obtain rfl := Option.some.inj h
          exact ax_rs 1 (fun n => rfl)
def F_X10_noWalk (m : ax_M) (v1 : Int32) (v2 : Int32) (v3 : Int32) : Option Int32 := ax_b (F_X10_isShelf v2) (fun r2 => if r2 = 0 then (some (-2)) else (if v3 < 0 then (some (-2)) else (if 40 < v3 then (some (-2)) else (ax_b (F_X3_isPerson m 0 v1) (fun r10 => if r10 = 0 then (some (-2)) else (if ax_ok v2 8 = true then (ax_b (F_X10_noTold m (8 * 0 + v2.toNatClampNeg) v3) (fun r16 => some r16)) else (none)))))))
set_option maxRecDepth 20000 in
set_option maxHeartbeats 4000000 in
theorem R_X10_noWalk {d : Nat} (hd : 4 ≤ d) {m : ax_M} {v1 : Int32} {v2 : Int32} {v3 : Int32} {q : Int32} (h : F_X10_noWalk m v1 v2 v3 = some q) : ax_Ru d L_X10_noWalk 0 (ax_entry [.inr (.inr (0, 0)), .inl v1, .inl v2, .inl v3] 4) [] m (some (.inl q), m) := by
  obtain ⟨e, rfl⟩ : ∃ e, d = e + 4 := ⟨d - 4, by omega⟩
  unfold F_X10_noWalk at h
  obtain ⟨r2, q1, h⟩ := ax_b_of h
  have s19 : ∀ n, ax_ex (e + 4) L_X10_noWalk 0 (ax_entry [.inr (.inr (0, 0)), .inl v1, .inl v2, .inl v3] 4) [] m (n + 2) = ax_aft (fun s m2 => ax_ex (e + 4) L_X10_noWalk 2 [some (.inr (.inr (0, 0))), some (.inl v1), some (.inl v2), some (.inl v3)] s m2 n) [] (ax_ex (e + 3) L_X10_isShelf 0 (ax_entry [.inl v2] 1) [] m n) := fun n => rfl
  refine ax_gci (j := 2) (k2 := 2) (lv2 := [some (.inr (.inr (0, 0))), some (.inl v1), some (.inl v2), some (.inl v3)]) (rest := []) ((R_X10_isShelf (by omega) q1)) s19 ?_
  have s4 : ∀ n, ax_ex (e + 4) L_X10_noWalk 2 [some (.inr (.inr (0, 0))), some (.inl v1), some (.inl v2), some (.inl v3)] [.inl r2] m (n + 1) = if r2 = 0 then ax_ex (e + 4) L_X10_noWalk 13 [some (.inr (.inr (0, 0))), some (.inl v1), some (.inl v2), some (.inl v3)] [] m n else ax_ex (e + 4) L_X10_noWalk 3 [some (.inr (.inr (0, 0))), some (.inl v1), some (.inl v2), some (.inl v3)] [] m n := fun n => rfl
  by_cases c3 : r2 = 0
  · rw [if_pos c3] at h
    refine ax_gt c3 s4 ?_
    obtain rfl := Option.some.inj h
    exact ax_rs 2 (fun n => rfl)
  · rw [if_neg c3] at h
    refine ax_gf c3 s4 ?_
    have s6 : ∀ n, ax_ex (e + 4) L_X10_noWalk 3 [some (.inr (.inr (0, 0))), some (.inl v1), some (.inl v2), some (.inl v3)] [] m (n + 2) = if v3 < 0 then ax_ex (e + 4) L_X10_noWalk 13 [some (.inr (.inr (0, 0))), some (.inl v1), some (.inl v2), some (.inl v3)] [] m n else ax_ex (e + 4) L_X10_noWalk 5 [some (.inr (.inr (0, 0))), some (.inl v1), some (.inl v2), some (.inl v3)] [] m n := fun n => rfl
    by_cases c5 : v3 < 0
    · rw [if_pos c5] at h
      refine ax_gt c5 s6 ?_
      obtain rfl := Option.some.inj h
      exact ax_rs 2 (fun n => rfl)
    · rw [if_neg c5] at h
      refine ax_gf c5 s6 ?_
      have s8 : ∀ n, ax_ex (e + 4) L_X10_noWalk 5 [some (.inr (.inr (0, 0))), some (.inl v1), some (.inl v2), some (.inl v3)] [] m (n + 3) = if 40 < v3 then ax_ex (e + 4) L_X10_noWalk 13 [some (.inr (.inr (0, 0))), some (.inl v1), some (.inl v2), some (.inl v3)] [] m n else ax_ex (e + 4) L_X10_noWalk 8 [some (.inr (.inr (0, 0))), some (.inl v1), some (.inl v2), some (.inl v3)] [] m n := fun n => rfl
      by_cases c7 : 40 < v3
      · rw [if_pos c7] at h
        refine ax_gt c7 s8 ?_
        obtain rfl := Option.some.inj h
        exact ax_rs 2 (fun n => rfl)
      · rw [if_neg c7] at h
        refine ax_gf c7 s8 ?_
        obtain ⟨r10, q9, h⟩ := ax_b_of h
        have s18 : ∀ n, ax_ex (e + 4) L_X10_noWalk 8 [some (.inr (.inr (0, 0))), some (.inl v1), some (.inl v2), some (.inl v3)] [] m (n + 4) = ax_aft (fun s m2 => ax_ex (e + 4) L_X10_noWalk 12 [some (.inr (.inr (0, 0))), some (.inl v1), some (.inl v2), some (.inl v3)] s m2 n) [] (ax_ex (e + 3) L_X3_isPerson 0 (ax_entry [.inr (.inr (1, 0)), .inl v1] 2) [] m n) := fun n => rfl
        refine ax_gci (j := 4) (k2 := 12) (lv2 := [some (.inr (.inr (0, 0))), some (.inl v1), some (.inl v2), some (.inl v3)]) (rest := []) ((R_X3_isPerson (by omega) q9)) s18 ?_
        have s12 : ∀ n, ax_ex (e + 4) L_X10_noWalk 12 [some (.inr (.inr (0, 0))), some (.inl v1), some (.inl v2), some (.inl v3)] [.inl r10] m (n + 1) = if r10 = 0 then ax_ex (e + 4) L_X10_noWalk 13 [some (.inr (.inr (0, 0))), some (.inl v1), some (.inl v2), some (.inl v3)] [] m n else ax_ex (e + 4) L_X10_noWalk 15 [some (.inr (.inr (0, 0))), some (.inl v1), some (.inl v2), some (.inl v3)] [] m n := fun n => rfl
        by_cases c11 : r10 = 0
        · rw [if_pos c11] at h
          refine ax_gt c11 s12 ?_
          obtain rfl := Option.some.inj h
          exact ax_rs 2 (fun n => rfl)
        · rw [if_neg c11] at h
          refine ax_gf c11 s12 ?_
          have s14 : ∀ n, ax_ex (e + 4) L_X10_noWalk 15 [some (.inr (.inr (0, 0))), some (.inl v1), some (.inl v2), some (.inl v3)] [] m (n + 4) = if ax_ok v2 8 = true then ax_ex (e + 4) L_X10_noWalk 19 [some (.inr (.inr (0, 0))), some (.inl v1), some (.inl v2), some (.inl v3)] [.inr (.inr (8, (8 * 0 + v2.toNatClampNeg)))] m n else none := fun n => rfl
          by_cases c13 : ax_ok v2 8 = true
          · rw [if_pos c13] at h
            refine ax_gt c13 s14 ?_
            obtain ⟨r16, q15, h⟩ := ax_b_of h
            have s17 : ∀ n, ax_ex (e + 4) L_X10_noWalk 19 [some (.inr (.inr (0, 0))), some (.inl v1), some (.inl v2), some (.inl v3)] [.inr (.inr (8, (8 * 0 + v2.toNatClampNeg)))] m (n + 2) = ax_aft (fun s m2 => ax_ex (e + 4) L_X10_noWalk 21 [some (.inr (.inr (0, 0))), some (.inl v1), some (.inl v2), some (.inl v3)] s m2 n) [] (ax_ex (e + 3) L_X10_noTold 0 (ax_entry [.inr (.inr (8, (8 * 0 + v2.toNatClampNeg))), .inl v3] 3) [] m n) := fun n => rfl
            refine ax_gci (j := 2) (k2 := 21) (lv2 := [some (.inr (.inr (0, 0))), some (.inl v1), some (.inl v2), some (.inl v3)]) (rest := []) ((R_X10_noTold (by omega) q15)) s17 ?_
            obtain rfl := Option.some.inj h
            exact ax_rs 1 (fun n => rfl)
          · rw [if_neg c13] at h
            cases h
def F_X10_wrongOf_L8 : Nat → ax_M → Nat → Int32 → Int32 → Int32 → Option Int32
  | 0, _, _, _, _, _ => none
  | n + 1, m, g2, v3, v4, v5 => if v3 ≤ v5 then (some (-1)) else (ax_b (F_X7_cellAt m g2 v5) (fun r6 => if r6 = (-1) then (some v5) else (ax_b (F_X0_bit v4) (fun r10 => ax_b (F_X0_beside r10) (fun r12 => ax_b (F_X0_has r12 r6) (fun r14 => if r14 = 0 then (some v5) else (ax_b (F_X3_hasWall m 0 r6) (fun r18 => if r18 = 0 then (F_X10_wrongOf_L8 n m g2 v3 r6 (v5 + 1)) else (some v5)))))))))
set_option maxRecDepth 20000 in
set_option maxHeartbeats 4000000 in
theorem R_X10_wrongOf_L8 {e : Nat} {m : ax_M} {g2 : Nat} {v3 : Int32} : ∀ (n : Nat) (v4 : Int32) (v5 : Int32) (q : Int32), F_X10_wrongOf_L8 n m g2 v3 v4 v5 = some q → ax_Ru (e + 4) L_X10_wrongOf 8 [some (.inr (.inr (0, 0))), none, some (.inr (.inr (8, g2))), some (.inl v3), some (.inl v4), some (.inl v5), none] [] m (some (.inl q), m) := by
  intro n
  induction n with
  | zero =>
    intro v4 v5 q h
    cases h
  | succ n ih =>
    intro v4 v5 q h
    rw [F_X10_wrongOf_L8] at h
    have s4 : ∀ n, ax_ex (e + 4) L_X10_wrongOf 8 [some (.inr (.inr (0, 0))), none, some (.inr (.inr (8, g2))), some (.inl v3), some (.inl v4), some (.inl v5), none] [] m (n + 3) = if v3 ≤ v5 then ax_ex (e + 4) L_X10_wrongOf 35 [some (.inr (.inr (0, 0))), none, some (.inr (.inr (8, g2))), some (.inl v3), some (.inl v4), some (.inl v5), none] [] m n else ax_ex (e + 4) L_X10_wrongOf 11 [some (.inr (.inr (0, 0))), none, some (.inr (.inr (8, g2))), some (.inl v3), some (.inl v4), some (.inl v5), none] [] m n := fun n => rfl
    by_cases c3 : v3 ≤ v5
    · rw [if_pos c3] at h
      refine ax_gt c3 s4 ?_
      obtain rfl := Option.some.inj h
      exact ax_rs 2 (fun n => rfl)
    · rw [if_neg c3] at h
      refine ax_gf c3 s4 ?_
      obtain ⟨r6, q5, h⟩ := ax_b_of h
      have s25 : ∀ n, ax_ex (e + 4) L_X10_wrongOf 11 [some (.inr (.inr (0, 0))), none, some (.inr (.inr (8, g2))), some (.inl v3), some (.inl v4), some (.inl v5), none] [] m (n + 3) = ax_aft (fun s m2 => ax_ex (e + 4) L_X10_wrongOf 14 [some (.inr (.inr (0, 0))), none, some (.inr (.inr (8, g2))), some (.inl v3), some (.inl v4), some (.inl v5), none] s m2 n) [] (ax_ex (e + 3) L_X7_cellAt 0 (ax_entry [.inr (.inr (8, g2)), .inl v5] 2) [] m n) := fun n => rfl
      refine ax_gci (j := 3) (k2 := 14) (lv2 := [some (.inr (.inr (0, 0))), none, some (.inr (.inr (8, g2))), some (.inl v3), some (.inl v4), some (.inl v5), none]) (rest := []) ((R_X7_cellAt (by omega) q5)) s25 ?_
      have s8 : ∀ n, ax_ex (e + 4) L_X10_wrongOf 14 [some (.inr (.inr (0, 0))), none, some (.inr (.inr (8, g2))), some (.inl v3), some (.inl v4), some (.inl v5), none] [.inl r6] m (n + 4) = if r6 = (-1) then ax_ex (e + 4) L_X10_wrongOf 29 [some (.inr (.inr (0, 0))), none, some (.inr (.inr (8, g2))), some (.inl v3), some (.inl v4), some (.inl v5), some (.inl r6)] [] m n else ax_ex (e + 4) L_X10_wrongOf 18 [some (.inr (.inr (0, 0))), none, some (.inr (.inr (8, g2))), some (.inl v3), some (.inl v4), some (.inl v5), some (.inl r6)] [] m n := fun n => rfl
      by_cases c7 : r6 = (-1)
      · rw [if_pos c7] at h
        refine ax_gt c7 s8 ?_
        obtain rfl := Option.some.inj h
        exact ax_rs 2 (fun n => rfl)
      · rw [if_neg c7] at h
        refine ax_gf c7 s8 ?_
        obtain ⟨r10, q9, h⟩ := ax_b_of h
        have s24 : ∀ n, ax_ex (e + 4) L_X10_wrongOf 18 [some (.inr (.inr (0, 0))), none, some (.inr (.inr (8, g2))), some (.inl v3), some (.inl v4), some (.inl v5), some (.inl r6)] [] m (n + 2) = ax_aft (fun s m2 => ax_ex (e + 4) L_X10_wrongOf 20 [some (.inr (.inr (0, 0))), none, some (.inr (.inr (8, g2))), some (.inl v3), some (.inl v4), some (.inl v5), some (.inl r6)] s m2 n) [] (ax_ex (e + 3) L_X0_bit 0 (ax_entry [.inl v4] 1) [] m n) := fun n => rfl
        refine ax_gcl (j := 2) (k2 := 20) (lv2 := [some (.inr (.inr (0, 0))), none, some (.inr (.inr (8, g2))), some (.inl v3), some (.inl v4), some (.inl v5), some (.inl r6)]) (rest := []) ((R_X0_bit (by omega) q9)) s24 ?_
        obtain ⟨r12, q11, h⟩ := ax_b_of h
        have s23 : ∀ n, ax_ex (e + 4) L_X10_wrongOf 20 [some (.inr (.inr (0, 0))), none, some (.inr (.inr (8, g2))), some (.inl v3), some (.inl v4), some (.inl v5), some (.inl r6)] [.inr (.inl r10)] m (n + 1) = ax_aft (fun s m2 => ax_ex (e + 4) L_X10_wrongOf 21 [some (.inr (.inr (0, 0))), none, some (.inr (.inr (8, g2))), some (.inl v3), some (.inl v4), some (.inl v5), some (.inl r6)] s m2 n) [] (ax_ex (e + 3) L_X0_beside 0 (ax_entry [.inr (.inl r10)] 2) [] m n) := fun n => rfl
        refine ax_gcl (j := 1) (k2 := 21) (lv2 := [some (.inr (.inr (0, 0))), none, some (.inr (.inr (8, g2))), some (.inl v3), some (.inl v4), some (.inl v5), some (.inl r6)]) (rest := []) ((R_X0_beside (by omega) q11)) s23 ?_
        obtain ⟨r14, q13, h⟩ := ax_b_of h
        have s22 : ∀ n, ax_ex (e + 4) L_X10_wrongOf 21 [some (.inr (.inr (0, 0))), none, some (.inr (.inr (8, g2))), some (.inl v3), some (.inl v4), some (.inl v5), some (.inl r6)] [.inr (.inl r12)] m (n + 2) = ax_aft (fun s m2 => ax_ex (e + 4) L_X10_wrongOf 23 [some (.inr (.inr (0, 0))), none, some (.inr (.inr (8, g2))), some (.inl v3), some (.inl v4), some (.inl v5), some (.inl r6)] s m2 n) [] (ax_ex (e + 3) L_X0_has 0 (ax_entry [.inr (.inl r12), .inl r6] 3) [] m n) := fun n => rfl
        refine ax_gci (j := 2) (k2 := 23) (lv2 := [some (.inr (.inr (0, 0))), none, some (.inr (.inr (8, g2))), some (.inl v3), some (.inl v4), some (.inl v5), some (.inl r6)]) (rest := []) ((R_X0_has (by omega) q13)) s22 ?_
        have s16 : ∀ n, ax_ex (e + 4) L_X10_wrongOf 23 [some (.inr (.inr (0, 0))), none, some (.inr (.inr (8, g2))), some (.inl v3), some (.inl v4), some (.inl v5), some (.inl r6)] [.inl r14] m (n + 1) = if r14 = 0 then ax_ex (e + 4) L_X10_wrongOf 29 [some (.inr (.inr (0, 0))), none, some (.inr (.inr (8, g2))), some (.inl v3), some (.inl v4), some (.inl v5), some (.inl r6)] [] m n else ax_ex (e + 4) L_X10_wrongOf 24 [some (.inr (.inr (0, 0))), none, some (.inr (.inr (8, g2))), some (.inl v3), some (.inl v4), some (.inl v5), some (.inl r6)] [] m n := fun n => rfl
        by_cases c15 : r14 = 0
        · rw [if_pos c15] at h
          refine ax_gt c15 s16 ?_
          obtain rfl := Option.some.inj h
          exact ax_rs 2 (fun n => rfl)
        · rw [if_neg c15] at h
          refine ax_gf c15 s16 ?_
          obtain ⟨r18, q17, h⟩ := ax_b_of h
          have s21 : ∀ n, ax_ex (e + 4) L_X10_wrongOf 24 [some (.inr (.inr (0, 0))), none, some (.inr (.inr (8, g2))), some (.inl v3), some (.inl v4), some (.inl v5), some (.inl r6)] [] m (n + 4) = ax_aft (fun s m2 => ax_ex (e + 4) L_X10_wrongOf 28 [some (.inr (.inr (0, 0))), none, some (.inr (.inr (8, g2))), some (.inl v3), some (.inl v4), some (.inl v5), some (.inl r6)] s m2 n) [] (ax_ex (e + 3) L_X3_hasWall 0 (ax_entry [.inr (.inr (1, 0)), .inl r6] 2) [] m n) := fun n => rfl
          refine ax_gci (j := 4) (k2 := 28) (lv2 := [some (.inr (.inr (0, 0))), none, some (.inr (.inr (8, g2))), some (.inl v3), some (.inl v4), some (.inl v5), some (.inl r6)]) (rest := []) ((R_X3_hasWall (by omega) q17)) s21 ?_
          have s20 : ∀ n, ax_ex (e + 4) L_X10_wrongOf 28 [some (.inr (.inr (0, 0))), none, some (.inr (.inr (8, g2))), some (.inl v3), some (.inl v4), some (.inl v5), some (.inl r6)] [.inl r18] m (n + 1) = if r18 = 0 then ax_ex (e + 4) L_X10_wrongOf 31 [some (.inr (.inr (0, 0))), none, some (.inr (.inr (8, g2))), some (.inl v3), some (.inl v4), some (.inl v5), some (.inl r6)] [] m n else ax_ex (e + 4) L_X10_wrongOf 29 [some (.inr (.inr (0, 0))), none, some (.inr (.inr (8, g2))), some (.inl v3), some (.inl v4), some (.inl v5), some (.inl r6)] [] m n := fun n => rfl
          by_cases c19 : r18 = 0
          · rw [if_pos c19] at h
            refine ax_gt c19 s20 ?_
            refine ax_go (j := 4) (k2 := 8) (lv2 := [some (.inr (.inr (0, 0))), none, some (.inr (.inr (8, g2))), some (.inl v3), some (.inl r6), some (.inl (v5 + 1)), some (.inl r6)]) (st2 := []) (m2 := m) (fun n => rfl) ?_
            exact ax_fg (lv2 := [some (.inr (.inr (0, 0))), none, some (.inr (.inr (8, g2))), some (.inl v3), some (.inl r6), some (.inl (v5 + 1)), none]) ⟨rfl, rfl, rfl, rfl, rfl, trivial⟩ (ih r6 (v5 + 1) _ h)
          · rw [if_neg c19] at h
            refine ax_gf c19 s20 ?_
            obtain rfl := Option.some.inj h
            exact ax_rs 2 (fun n => rfl)
def F_X10_wrongOf (m : ax_M) (v1 : Int32) (g2 : Nat) (v3 : Int32) : Option Int32 := if ax_ok v1 8 = true then (F_X10_wrongOf_L8 ax_FU m g2 v3 (m.1 2 0 v1.toNatClampNeg) 0) else (none)
set_option maxRecDepth 20000 in
set_option maxHeartbeats 4000000 in
theorem R_X10_wrongOf {d : Nat} (hd : 4 ≤ d) {m : ax_M} {v1 : Int32} {g2 : Nat} {v3 : Int32} {q : Int32} (h : F_X10_wrongOf m v1 g2 v3 = some q) : ax_Ru d L_X10_wrongOf 0 (ax_entry [.inr (.inr (0, 0)), .inl v1, .inr (.inr (8, g2)), .inl v3] 7) [] m (some (.inl q), m) := by
  obtain ⟨e, rfl⟩ : ∃ e, d = e + 4 := ⟨d - 4, by omega⟩
  unfold F_X10_wrongOf at h
  have s2 : ∀ n, ax_ex (e + 4) L_X10_wrongOf 0 (ax_entry [.inr (.inr (0, 0)), .inl v1, .inr (.inr (8, g2)), .inl v3] 7) [] m (n + 5) = if ax_ok v1 8 = true then ax_ex (e + 4) L_X10_wrongOf 5 [some (.inr (.inr (0, 0))), some (.inl v1), some (.inr (.inr (8, g2))), some (.inl v3), none, none, none] [.inl (m.1 2 0 v1.toNatClampNeg)] m n else none := fun n => rfl
  by_cases c1 : ax_ok v1 8 = true
  · rw [if_pos c1] at h
    refine ax_gt c1 s2 ?_
    refine ax_go (j := 3) (k2 := 8) (lv2 := [some (.inr (.inr (0, 0))), some (.inl v1), some (.inr (.inr (8, g2))), some (.inl v3), some (.inl (m.1 2 0 v1.toNatClampNeg)), some (.inl 0), none]) (st2 := []) (m2 := m) (fun n => rfl) ?_
    refine ax_fg (lv2 := [some (.inr (.inr (0, 0))), none, some (.inr (.inr (8, g2))), some (.inl v3), some (.inl (m.1 2 0 v1.toNatClampNeg)), some (.inl 0), none]) ⟨rfl, rfl, rfl, rfl, rfl, trivial⟩ ?_
    refine R_X10_wrongOf_L8 _ (m.1 2 0 v1.toNatClampNeg) 0 _ h
  · rw [if_neg c1] at h
    cases h
def F_X10_judge (m : ax_M) (v1 : Int32) (v2 : Int32) (v3 : Int32) : Option (Int32 × ax_M) := ax_b (F_X10_noWalk m v1 v2 v3) (fun r2 => if r2 = 0 then (if ax_ok v2 8 = true then (ax_b (F_X10_wrongOf m v1 (8 * 0 + v2.toNatClampNeg) v3) (fun r8 => some (r8, m))) else (none)) else (ax_b2 (F_X10_refuse m r2) (fun r11 m12 => some (r11, m12))))
set_option maxRecDepth 20000 in
set_option maxHeartbeats 4000000 in
theorem R_X10_judge {d : Nat} (hd : 5 ≤ d) {m : ax_M} {v1 : Int32} {v2 : Int32} {v3 : Int32} {q : (Int32 × ax_M)} (h : F_X10_judge m v1 v2 v3 = some q) : ax_Ru d L_X10_judge 0 (ax_entry [.inr (.inr (0, 0)), .inl v1, .inl v2, .inl v3] 5) [] m (some (.inl q.1), q.2) := by
  obtain ⟨e, rfl⟩ : ∃ e, d = e + 5 := ⟨d - 5, by omega⟩
  unfold F_X10_judge at h
  obtain ⟨r2, q1, h⟩ := ax_b_of h
  have s14 : ∀ n, ax_ex (e + 5) L_X10_judge 0 (ax_entry [.inr (.inr (0, 0)), .inl v1, .inl v2, .inl v3] 5) [] m (n + 5) = ax_aft (fun s m2 => ax_ex (e + 5) L_X10_judge 5 [some (.inr (.inr (0, 0))), some (.inl v1), some (.inl v2), some (.inl v3), none] s m2 n) [] (ax_ex (e + 4) L_X10_noWalk 0 (ax_entry [.inr (.inr (0, 0)), .inl v1, .inl v2, .inl v3] 4) [] m n) := fun n => rfl
  refine ax_gci (j := 5) (k2 := 5) (lv2 := [some (.inr (.inr (0, 0))), some (.inl v1), some (.inl v2), some (.inl v3), none]) (rest := []) ((R_X10_noWalk (by omega) q1)) s14 ?_
  have s4 : ∀ n, ax_ex (e + 5) L_X10_judge 5 [some (.inr (.inr (0, 0))), some (.inl v1), some (.inl v2), some (.inl v3), none] [.inl r2] m (n + 3) = if r2 = 0 then ax_ex (e + 5) L_X10_judge 12 [some (.inr (.inr (0, 0))), some (.inl v1), some (.inl v2), some (.inl v3), some (.inl r2)] [] m n else ax_ex (e + 5) L_X10_judge 8 [some (.inr (.inr (0, 0))), some (.inl v1), some (.inl v2), some (.inl v3), some (.inl r2)] [] m n := fun n => rfl
  by_cases c3 : r2 = 0
  · rw [if_pos c3] at h
    refine ax_gt c3 s4 ?_
    have s6 : ∀ n, ax_ex (e + 5) L_X10_judge 12 [some (.inr (.inr (0, 0))), some (.inl v1), some (.inl v2), some (.inl v3), some (.inl r2)] [] m (n + 6) = if ax_ok v2 8 = true then ax_ex (e + 5) L_X10_judge 18 [some (.inr (.inr (0, 0))), some (.inl v1), some (.inl v2), some (.inl v3), some (.inl r2)] [.inr (.inr (8, (8 * 0 + v2.toNatClampNeg))), .inl v1, .inr (.inr (0, 0))] m n else none := fun n => rfl
    by_cases c5 : ax_ok v2 8 = true
    · rw [if_pos c5] at h
      refine ax_gt c5 s6 ?_
      obtain ⟨r8, q7, h⟩ := ax_b_of h
      have s9 : ∀ n, ax_ex (e + 5) L_X10_judge 18 [some (.inr (.inr (0, 0))), some (.inl v1), some (.inl v2), some (.inl v3), some (.inl r2)] [.inr (.inr (8, (8 * 0 + v2.toNatClampNeg))), .inl v1, .inr (.inr (0, 0))] m (n + 2) = ax_aft (fun s m2 => ax_ex (e + 5) L_X10_judge 20 [some (.inr (.inr (0, 0))), some (.inl v1), some (.inl v2), some (.inl v3), some (.inl r2)] s m2 n) [] (ax_ex (e + 4) L_X10_wrongOf 0 (ax_entry [.inr (.inr (0, 0)), .inl v1, .inr (.inr (8, (8 * 0 + v2.toNatClampNeg))), .inl v3] 7) [] m n) := fun n => rfl
      refine ax_gci (j := 2) (k2 := 20) (lv2 := [some (.inr (.inr (0, 0))), some (.inl v1), some (.inl v2), some (.inl v3), some (.inl r2)]) (rest := []) ((R_X10_wrongOf (by omega) q7)) s9 ?_
      obtain rfl := Option.some.inj h
      exact ax_rs 1 (fun n => rfl)
    · rw [if_neg c5] at h
      cases h
  · rw [if_neg c3] at h
    refine ax_gf c3 s4 ?_
    obtain ⟨r11, m12, q10, h⟩ := ax_b2_of h
    have s13 : ∀ n, ax_ex (e + 5) L_X10_judge 8 [some (.inr (.inr (0, 0))), some (.inl v1), some (.inl v2), some (.inl v3), some (.inl r2)] [] m (n + 3) = ax_aft (fun s m2 => ax_ex (e + 5) L_X10_judge 11 [some (.inr (.inr (0, 0))), some (.inl v1), some (.inl v2), some (.inl v3), some (.inl r2)] s m2 n) [] (ax_ex (e + 4) L_X10_refuse 0 (ax_entry [.inr (.inr (0, 0)), .inl r2] 3) [] m n) := fun n => rfl
    refine ax_gci (j := 3) (k2 := 11) (lv2 := [some (.inr (.inr (0, 0))), some (.inl v1), some (.inl v2), some (.inl v3), some (.inl r2)]) (rest := []) ((R_X10_refuse (by omega) q10)) s13 ?_
    obtain rfl := Option.some.inj h
    exact ax_rs 1 (fun n => rfl)
def F_X10_noTrueWalk (m : ax_M) (v1 : Int32) (v2 : Int32) (v3 : Int32) : Option Int32 := ax_b (F_X10_noWalk m v1 v2 v3) (fun r2 => if r2 = 0 then (if ax_ok v2 8 = true then (ax_b (F_X10_wrongOf m v1 (8 * 0 + v2.toNatClampNeg) v3) (fun r8 => if r8 = (-1) then (some 0) else (some (-5)))) else (none)) else (some r2))
set_option maxRecDepth 20000 in
set_option maxHeartbeats 4000000 in
theorem R_X10_noTrueWalk {d : Nat} (hd : 5 ≤ d) {m : ax_M} {v1 : Int32} {v2 : Int32} {v3 : Int32} {q : Int32} (h : F_X10_noTrueWalk m v1 v2 v3 = some q) : ax_Ru d L_X10_noTrueWalk 0 (ax_entry [.inr (.inr (0, 0)), .inl v1, .inl v2, .inl v3] 5) [] m (some (.inl q), m) := by
  obtain ⟨e, rfl⟩ : ∃ e, d = e + 5 := ⟨d - 5, by omega⟩
  unfold F_X10_noTrueWalk at h
  obtain ⟨r2, q1, h⟩ := ax_b_of h
  have s12 : ∀ n, ax_ex (e + 5) L_X10_noTrueWalk 0 (ax_entry [.inr (.inr (0, 0)), .inl v1, .inl v2, .inl v3] 5) [] m (n + 5) = ax_aft (fun s m2 => ax_ex (e + 5) L_X10_noTrueWalk 5 [some (.inr (.inr (0, 0))), some (.inl v1), some (.inl v2), some (.inl v3), none] s m2 n) [] (ax_ex (e + 4) L_X10_noWalk 0 (ax_entry [.inr (.inr (0, 0)), .inl v1, .inl v2, .inl v3] 4) [] m n) := fun n => rfl
  refine ax_gci (j := 5) (k2 := 5) (lv2 := [some (.inr (.inr (0, 0))), some (.inl v1), some (.inl v2), some (.inl v3), none]) (rest := []) ((R_X10_noWalk (by omega) q1)) s12 ?_
  have s4 : ∀ n, ax_ex (e + 5) L_X10_noTrueWalk 5 [some (.inr (.inr (0, 0))), some (.inl v1), some (.inl v2), some (.inl v3), none] [.inl r2] m (n + 3) = if r2 = 0 then ax_ex (e + 5) L_X10_noTrueWalk 10 [some (.inr (.inr (0, 0))), some (.inl v1), some (.inl v2), some (.inl v3), some (.inl r2)] [] m n else ax_ex (e + 5) L_X10_noTrueWalk 8 [some (.inr (.inr (0, 0))), some (.inl v1), some (.inl v2), some (.inl v3), some (.inl r2)] [] m n := fun n => rfl
  by_cases c3 : r2 = 0
  · rw [if_pos c3] at h
    refine ax_gt c3 s4 ?_
    have s6 : ∀ n, ax_ex (e + 5) L_X10_noTrueWalk 10 [some (.inr (.inr (0, 0))), some (.inl v1), some (.inl v2), some (.inl v3), some (.inl r2)] [] m (n + 6) = if ax_ok v2 8 = true then ax_ex (e + 5) L_X10_noTrueWalk 16 [some (.inr (.inr (0, 0))), some (.inl v1), some (.inl v2), some (.inl v3), some (.inl r2)] [.inr (.inr (8, (8 * 0 + v2.toNatClampNeg))), .inl v1, .inr (.inr (0, 0))] m n else none := fun n => rfl
    by_cases c5 : ax_ok v2 8 = true
    · rw [if_pos c5] at h
      refine ax_gt c5 s6 ?_
      obtain ⟨r8, q7, h⟩ := ax_b_of h
      have s11 : ∀ n, ax_ex (e + 5) L_X10_noTrueWalk 16 [some (.inr (.inr (0, 0))), some (.inl v1), some (.inl v2), some (.inl v3), some (.inl r2)] [.inr (.inr (8, (8 * 0 + v2.toNatClampNeg))), .inl v1, .inr (.inr (0, 0))] m (n + 2) = ax_aft (fun s m2 => ax_ex (e + 5) L_X10_noTrueWalk 18 [some (.inr (.inr (0, 0))), some (.inl v1), some (.inl v2), some (.inl v3), some (.inl r2)] s m2 n) [] (ax_ex (e + 4) L_X10_wrongOf 0 (ax_entry [.inr (.inr (0, 0)), .inl v1, .inr (.inr (8, (8 * 0 + v2.toNatClampNeg))), .inl v3] 7) [] m n) := fun n => rfl
      refine ax_gci (j := 2) (k2 := 18) (lv2 := [some (.inr (.inr (0, 0))), some (.inl v1), some (.inl v2), some (.inl v3), some (.inl r2)]) (rest := []) ((R_X10_wrongOf (by omega) q7)) s11 ?_
      have s10 : ∀ n, ax_ex (e + 5) L_X10_noTrueWalk 18 [some (.inr (.inr (0, 0))), some (.inl v1), some (.inl v2), some (.inl v3), some (.inl r2)] [.inl r8] m (n + 2) = if r8 = (-1) then ax_ex (e + 5) L_X10_noTrueWalk 20 [some (.inr (.inr (0, 0))), some (.inl v1), some (.inl v2), some (.inl v3), some (.inl r2)] [] m n else ax_ex (e + 5) L_X10_noTrueWalk 22 [some (.inr (.inr (0, 0))), some (.inl v1), some (.inl v2), some (.inl v3), some (.inl r2)] [] m n := fun n => rfl
      by_cases c9 : r8 = (-1)
      · rw [if_pos c9] at h
        refine ax_gt c9 s10 ?_
        obtain rfl := Option.some.inj h
        exact ax_rs 3 (fun n => rfl)
      · rw [if_neg c9] at h
        refine ax_gf c9 s10 ?_
        obtain rfl := Option.some.inj h
        exact ax_rs 2 (fun n => rfl)
    · rw [if_neg c5] at h
      cases h
  · rw [if_neg c3] at h
    refine ax_gf c3 s4 ?_
    obtain rfl := Option.some.inj h
    exact ax_rs 2 (fun n => rfl)
def F_X10_seen_L19 : Nat → ax_M → Int32 → Int32 → Int64 → Int32 → Option (Int32 × ax_M)
  | 0, _, _, _, _, _ => none
  | n + 1, m, v2, v3, v5, v7 => if v3 ≤ v7 then (some ((-1), m)) else (if ax_ok v2 8 = true then (ax_b (F_X7_cellAt m (8 * 0 + v2.toNatClampNeg) v7) (fun r12 => ax_b (F_X0_has v5 r12) (fun r14 => if r14 = 0 then (some (v7, m)) else (F_X10_seen_L19 n m v2 v3 v5 (v7 + 1))))) else (none))
set_option maxRecDepth 20000 in
set_option maxHeartbeats 4000000 in
theorem R_X10_seen_L19 {e : Nat} {v2 : Int32} {v3 : Int32} {v5 : Int64} : ∀ (n : Nat) (m : ax_M) (v7 : Int32) (q : (Int32 × ax_M)), F_X10_seen_L19 n m v2 v3 v5 v7 = some q → ax_Ru (e + 10) L_X10_seen 19 [some (.inr (.inr (0, 0))), none, some (.inl v2), some (.inl v3), none, some (.inr (.inl v5)), none, some (.inl v7)] [] m (some (.inl q.1), q.2) := by
  intro n
  induction n with
  | zero =>
    intro m v7 q h
    cases h
  | succ n ih =>
    intro m v7 q h
    rw [F_X10_seen_L19] at h
    have s8 : ∀ n, ax_ex (e + 10) L_X10_seen 19 [some (.inr (.inr (0, 0))), none, some (.inl v2), some (.inl v3), none, some (.inr (.inl v5)), none, some (.inl v7)] [] m (n + 3) = if v3 ≤ v7 then ax_ex (e + 10) L_X10_seen 35 [some (.inr (.inr (0, 0))), none, some (.inl v2), some (.inl v3), none, some (.inr (.inl v5)), none, some (.inl v7)] [] m n else ax_ex (e + 10) L_X10_seen 22 [some (.inr (.inr (0, 0))), none, some (.inl v2), some (.inl v3), none, some (.inr (.inl v5)), none, some (.inl v7)] [] m n := fun n => rfl
    by_cases c7 : v3 ≤ v7
    · rw [if_pos c7] at h
      refine ax_gt c7 s8 ?_
      obtain rfl := Option.some.inj h
      exact ax_rs 2 (fun n => rfl)
    · rw [if_neg c7] at h
      refine ax_gf c7 s8 ?_
      have s10 : ∀ n, ax_ex (e + 10) L_X10_seen 22 [some (.inr (.inr (0, 0))), none, some (.inl v2), some (.inl v3), none, some (.inr (.inl v5)), none, some (.inl v7)] [] m (n + 5) = if ax_ok v2 8 = true then ax_ex (e + 10) L_X10_seen 27 [some (.inr (.inr (0, 0))), none, some (.inl v2), some (.inl v3), none, some (.inr (.inl v5)), none, some (.inl v7)] [.inr (.inr (8, (8 * 0 + v2.toNatClampNeg))), .inr (.inl v5)] m n else none := fun n => rfl
      by_cases c9 : ax_ok v2 8 = true
      · rw [if_pos c9] at h
        refine ax_gt c9 s10 ?_
        obtain ⟨r12, q11, h⟩ := ax_b_of h
        have s18 : ∀ n, ax_ex (e + 10) L_X10_seen 27 [some (.inr (.inr (0, 0))), none, some (.inl v2), some (.inl v3), none, some (.inr (.inl v5)), none, some (.inl v7)] [.inr (.inr (8, (8 * 0 + v2.toNatClampNeg))), .inr (.inl v5)] m (n + 2) = ax_aft (fun s m2 => ax_ex (e + 10) L_X10_seen 29 [some (.inr (.inr (0, 0))), none, some (.inl v2), some (.inl v3), none, some (.inr (.inl v5)), none, some (.inl v7)] s m2 n) [.inr (.inl v5)] (ax_ex (e + 9) L_X7_cellAt 0 (ax_entry [.inr (.inr (8, (8 * 0 + v2.toNatClampNeg))), .inl v7] 2) [] m n) := fun n => rfl
        refine ax_gci (j := 2) (k2 := 29) (lv2 := [some (.inr (.inr (0, 0))), none, some (.inl v2), some (.inl v3), none, some (.inr (.inl v5)), none, some (.inl v7)]) (rest := [.inr (.inl v5)]) ((R_X7_cellAt (by omega) q11)) s18 ?_
        obtain ⟨r14, q13, h⟩ := ax_b_of h
        have s17 : ∀ n, ax_ex (e + 10) L_X10_seen 29 [some (.inr (.inr (0, 0))), none, some (.inl v2), some (.inl v3), none, some (.inr (.inl v5)), none, some (.inl v7)] [.inl r12, .inr (.inl v5)] m (n + 1) = ax_aft (fun s m2 => ax_ex (e + 10) L_X10_seen 30 [some (.inr (.inr (0, 0))), none, some (.inl v2), some (.inl v3), none, some (.inr (.inl v5)), none, some (.inl v7)] s m2 n) [] (ax_ex (e + 9) L_X0_has 0 (ax_entry [.inr (.inl v5), .inl r12] 3) [] m n) := fun n => rfl
        refine ax_gci (j := 1) (k2 := 30) (lv2 := [some (.inr (.inr (0, 0))), none, some (.inl v2), some (.inl v3), none, some (.inr (.inl v5)), none, some (.inl v7)]) (rest := []) ((R_X0_has (by omega) q13)) s17 ?_
        have s16 : ∀ n, ax_ex (e + 10) L_X10_seen 30 [some (.inr (.inr (0, 0))), none, some (.inl v2), some (.inl v3), none, some (.inr (.inl v5)), none, some (.inl v7)] [.inl r14] m (n + 1) = if r14 = 0 then ax_ex (e + 10) L_X10_seen 31 [some (.inr (.inr (0, 0))), none, some (.inl v2), some (.inl v3), none, some (.inr (.inl v5)), none, some (.inl v7)] [] m n else ax_ex (e + 10) L_X10_seen 33 [some (.inr (.inr (0, 0))), none, some (.inl v2), some (.inl v3), none, some (.inr (.inl v5)), none, some (.inl v7)] [] m n := fun n => rfl
        by_cases c15 : r14 = 0
        · rw [if_pos c15] at h
          refine ax_gt c15 s16 ?_
          obtain rfl := Option.some.inj h
          exact ax_rs 2 (fun n => rfl)
        · rw [if_neg c15] at h
          refine ax_gf c15 s16 ?_
          refine ax_go (j := 2) (k2 := 19) (lv2 := [some (.inr (.inr (0, 0))), none, some (.inl v2), some (.inl v3), none, some (.inr (.inl v5)), none, some (.inl (v7 + 1))]) (st2 := []) (m2 := m) (fun n => rfl) ?_
          exact ax_fg (lv2 := [some (.inr (.inr (0, 0))), none, some (.inl v2), some (.inl v3), none, some (.inr (.inl v5)), none, some (.inl (v7 + 1))]) ⟨rfl, rfl, rfl, rfl, rfl, trivial⟩ (ih m (v7 + 1) _ h)
      · rw [if_neg c9] at h
        cases h
def F_X10_seen (m : ax_M) (v1 : Int32) (v2 : Int32) (v3 : Int32) : Option (Int32 × ax_M) := ax_b (F_X10_noTrueWalk m v1 v2 v3) (fun r2 => if r2 = 0 then (ax_b (F_X3_quietFor m 0 v1) (fun r6 => F_X10_seen_L19 ax_FU m v2 v3 r6 0)) else (ax_b2 (F_X10_refuse m r2) (fun r22 m23 => some (r22, m23))))
set_option maxRecDepth 20000 in
set_option maxHeartbeats 4000000 in
theorem R_X10_seen {d : Nat} (hd : 10 ≤ d) {m : ax_M} {v1 : Int32} {v2 : Int32} {v3 : Int32} {q : (Int32 × ax_M)} (h : F_X10_seen m v1 v2 v3 = some q) : ax_Ru d L_X10_seen 0 (ax_entry [.inr (.inr (0, 0)), .inl v1, .inl v2, .inl v3] 8) [] m (some (.inl q.1), q.2) := by
  obtain ⟨e, rfl⟩ : ∃ e, d = e + 10 := ⟨d - 10, by omega⟩
  unfold F_X10_seen at h
  obtain ⟨r2, q1, h⟩ := ax_b_of h
  have s25 : ∀ n, ax_ex (e + 10) L_X10_seen 0 (ax_entry [.inr (.inr (0, 0)), .inl v1, .inl v2, .inl v3] 8) [] m (n + 5) = ax_aft (fun s m2 => ax_ex (e + 10) L_X10_seen 5 [some (.inr (.inr (0, 0))), some (.inl v1), some (.inl v2), some (.inl v3), none, none, none, none] s m2 n) [] (ax_ex (e + 9) L_X10_noTrueWalk 0 (ax_entry [.inr (.inr (0, 0)), .inl v1, .inl v2, .inl v3] 5) [] m n) := fun n => rfl
  refine ax_gci (j := 5) (k2 := 5) (lv2 := [some (.inr (.inr (0, 0))), some (.inl v1), some (.inl v2), some (.inl v3), none, none, none, none]) (rest := []) ((R_X10_noTrueWalk (by omega) q1)) s25 ?_
  have s4 : ∀ n, ax_ex (e + 10) L_X10_seen 5 [some (.inr (.inr (0, 0))), some (.inl v1), some (.inl v2), some (.inl v3), none, none, none, none] [.inl r2] m (n + 3) = if r2 = 0 then ax_ex (e + 10) L_X10_seen 12 [some (.inr (.inr (0, 0))), some (.inl v1), some (.inl v2), some (.inl v3), some (.inl r2), none, none, none] [] m n else ax_ex (e + 10) L_X10_seen 8 [some (.inr (.inr (0, 0))), some (.inl v1), some (.inl v2), some (.inl v3), some (.inl r2), none, none, none] [] m n := fun n => rfl
  by_cases c3 : r2 = 0
  · rw [if_pos c3] at h
    refine ax_gt c3 s4 ?_
    obtain ⟨r6, q5, h⟩ := ax_b_of h
    have s20 : ∀ n, ax_ex (e + 10) L_X10_seen 12 [some (.inr (.inr (0, 0))), some (.inl v1), some (.inl v2), some (.inl v3), some (.inl r2), none, none, none] [] m (n + 4) = ax_aft (fun s m2 => ax_ex (e + 10) L_X10_seen 16 [some (.inr (.inr (0, 0))), some (.inl v1), some (.inl v2), some (.inl v3), some (.inl r2), none, none, none] s m2 n) [] (ax_ex (e + 9) L_X3_quietFor 0 (ax_entry [.inr (.inr (1, 0)), .inl v1] 2) [] m n) := fun n => rfl
    refine ax_gcl (j := 4) (k2 := 16) (lv2 := [some (.inr (.inr (0, 0))), some (.inl v1), some (.inl v2), some (.inl v3), some (.inl r2), none, none, none]) (rest := []) ((R_X3_quietFor (by omega) q5)) s20 ?_
    refine ax_go (j := 3) (k2 := 19) (lv2 := [some (.inr (.inr (0, 0))), some (.inl v1), some (.inl v2), some (.inl v3), some (.inl r2), some (.inr (.inl r6)), none, some (.inl 0)]) (st2 := []) (m2 := m) (fun n => rfl) ?_
    refine ax_fg (lv2 := [some (.inr (.inr (0, 0))), none, some (.inl v2), some (.inl v3), none, some (.inr (.inl r6)), none, some (.inl 0)]) ⟨rfl, rfl, rfl, rfl, rfl, trivial⟩ ?_
    refine R_X10_seen_L19 _ m 0 _ h
  · rw [if_neg c3] at h
    refine ax_gf c3 s4 ?_
    obtain ⟨r22, m23, q21, h⟩ := ax_b2_of h
    have s24 : ∀ n, ax_ex (e + 10) L_X10_seen 8 [some (.inr (.inr (0, 0))), some (.inl v1), some (.inl v2), some (.inl v3), some (.inl r2), none, none, none] [] m (n + 3) = ax_aft (fun s m2 => ax_ex (e + 10) L_X10_seen 11 [some (.inr (.inr (0, 0))), some (.inl v1), some (.inl v2), some (.inl v3), some (.inl r2), none, none, none] s m2 n) [] (ax_ex (e + 9) L_X10_refuse 0 (ax_entry [.inr (.inr (0, 0)), .inl r2] 3) [] m n) := fun n => rfl
    refine ax_gci (j := 3) (k2 := 11) (lv2 := [some (.inr (.inr (0, 0))), some (.inl v1), some (.inl v2), some (.inl v3), some (.inl r2), none, none, none]) (rest := []) ((R_X10_refuse (by omega) q21)) s24 ?_
    obtain rfl := Option.some.inj h
    exact ax_rs 1 (fun n => rfl)
def F_X10_walk (m : ax_M) (v1 : Int32) (v2 : Int32) (v3 : Int32) : Option (Int32 × ax_M) := ax_b (F_X10_noTrueWalk m v1 v2 v3) (fun r2 => if r2 = 0 then (if v3 ≤ 0 then (if ax_ok v1 8 = true then (some ((m.1 2 0 v1.toNatClampNeg), m)) else (none)) else (if ax_ok v2 8 = true then (ax_b (F_X7_cellAt m (8 * 0 + v2.toNatClampNeg) (v3 - 1)) (fun r12 => if ax_ok v1 8 = true then (if ax_ok v1 8 = true then (some (((ax_ui m 2 0 v1.toNatClampNeg r12).1 2 0 v1.toNatClampNeg), (ax_ui m 2 0 v1.toNatClampNeg r12))) else (none)) else (none))) else (none))) else (ax_b2 (F_X10_refuse m r2) (fun r19 m20 => some (r19, m20))))
set_option maxRecDepth 20000 in
set_option maxHeartbeats 4000000 in
theorem R_X10_walk {d : Nat} (hd : 6 ≤ d) {m : ax_M} {v1 : Int32} {v2 : Int32} {v3 : Int32} {q : (Int32 × ax_M)} (h : F_X10_walk m v1 v2 v3 = some q) : ax_Ru d L_X10_walk 0 (ax_entry [.inr (.inr (0, 0)), .inl v1, .inl v2, .inl v3] 5) [] m (some (.inl q.1), q.2) := by
  obtain ⟨e, rfl⟩ : ∃ e, d = e + 6 := ⟨d - 6, by omega⟩
  unfold F_X10_walk at h
  obtain ⟨r2, q1, h⟩ := ax_b_of h
  have s22 : ∀ n, ax_ex (e + 6) L_X10_walk 0 (ax_entry [.inr (.inr (0, 0)), .inl v1, .inl v2, .inl v3] 5) [] m (n + 5) = ax_aft (fun s m2 => ax_ex (e + 6) L_X10_walk 5 [some (.inr (.inr (0, 0))), some (.inl v1), some (.inl v2), some (.inl v3), none] s m2 n) [] (ax_ex (e + 5) L_X10_noTrueWalk 0 (ax_entry [.inr (.inr (0, 0)), .inl v1, .inl v2, .inl v3] 5) [] m n) := fun n => rfl
  refine ax_gci (j := 5) (k2 := 5) (lv2 := [some (.inr (.inr (0, 0))), some (.inl v1), some (.inl v2), some (.inl v3), none]) (rest := []) ((R_X10_noTrueWalk (by omega) q1)) s22 ?_
  have s4 : ∀ n, ax_ex (e + 6) L_X10_walk 5 [some (.inr (.inr (0, 0))), some (.inl v1), some (.inl v2), some (.inl v3), none] [.inl r2] m (n + 3) = if r2 = 0 then ax_ex (e + 6) L_X10_walk 12 [some (.inr (.inr (0, 0))), some (.inl v1), some (.inl v2), some (.inl v3), some (.inl r2)] [] m n else ax_ex (e + 6) L_X10_walk 8 [some (.inr (.inr (0, 0))), some (.inl v1), some (.inl v2), some (.inl v3), some (.inl r2)] [] m n := fun n => rfl
  by_cases c3 : r2 = 0
  · rw [if_pos c3] at h
    refine ax_gt c3 s4 ?_
    have s6 : ∀ n, ax_ex (e + 6) L_X10_walk 12 [some (.inr (.inr (0, 0))), some (.inl v1), some (.inl v2), some (.inl v3), some (.inl r2)] [] m (n + 2) = if v3 ≤ 0 then ax_ex (e + 6) L_X10_walk 27 [some (.inr (.inr (0, 0))), some (.inl v1), some (.inl v2), some (.inl v3), some (.inl r2)] [] m n else ax_ex (e + 6) L_X10_walk 14 [some (.inr (.inr (0, 0))), some (.inl v1), some (.inl v2), some (.inl v3), some (.inl r2)] [] m n := fun n => rfl
    by_cases c5 : v3 ≤ 0
    · rw [if_pos c5] at h
      refine ax_gt c5 s6 ?_
      have s8 : ∀ n, ax_ex (e + 6) L_X10_walk 27 [some (.inr (.inr (0, 0))), some (.inl v1), some (.inl v2), some (.inl v3), some (.inl r2)] [] m (n + 5) = if ax_ok v1 8 = true then ax_ex (e + 6) L_X10_walk 32 [some (.inr (.inr (0, 0))), some (.inl v1), some (.inl v2), some (.inl v3), some (.inl r2)] [.inl (m.1 2 0 v1.toNatClampNeg)] m n else none := fun n => rfl
      by_cases c7 : ax_ok v1 8 = true
      · rw [if_pos c7] at h
        refine ax_gt c7 s8 ?_
        obtain rfl := Option.some.inj h
        exact ax_rs 1 (fun n => rfl)
      · rw [if_neg c7] at h
        cases h
    · rw [if_neg c5] at h
      refine ax_gf c5 s6 ?_
      have s10 : ∀ n, ax_ex (e + 6) L_X10_walk 14 [some (.inr (.inr (0, 0))), some (.inl v1), some (.inl v2), some (.inl v3), some (.inl r2)] [] m (n + 8) = if ax_ok v2 8 = true then ax_ex (e + 6) L_X10_walk 22 [some (.inr (.inr (0, 0))), some (.inl v1), some (.inl v2), some (.inl v3), some (.inl r2)] [.inr (.inr (8, (8 * 0 + v2.toNatClampNeg))), .inl v1, .inr (.inr (2, 0))] m n else none := fun n => rfl
      by_cases c9 : ax_ok v2 8 = true
      · rw [if_pos c9] at h
        refine ax_gt c9 s10 ?_
        obtain ⟨r12, q11, h⟩ := ax_b_of h
        have s17 : ∀ n, ax_ex (e + 6) L_X10_walk 22 [some (.inr (.inr (0, 0))), some (.inl v1), some (.inl v2), some (.inl v3), some (.inl r2)] [.inr (.inr (8, (8 * 0 + v2.toNatClampNeg))), .inl v1, .inr (.inr (2, 0))] m (n + 4) = ax_aft (fun s m2 => ax_ex (e + 6) L_X10_walk 26 [some (.inr (.inr (0, 0))), some (.inl v1), some (.inl v2), some (.inl v3), some (.inl r2)] s m2 n) [.inl v1, .inr (.inr (2, 0))] (ax_ex (e + 5) L_X7_cellAt 0 (ax_entry [.inr (.inr (8, (8 * 0 + v2.toNatClampNeg))), .inl (v3 - 1)] 2) [] m n) := fun n => rfl
        refine ax_gci (j := 4) (k2 := 26) (lv2 := [some (.inr (.inr (0, 0))), some (.inl v1), some (.inl v2), some (.inl v3), some (.inl r2)]) (rest := [.inl v1, .inr (.inr (2, 0))]) ((R_X7_cellAt (by omega) q11)) s17 ?_
        have s14 : ∀ n, ax_ex (e + 6) L_X10_walk 26 [some (.inr (.inr (0, 0))), some (.inl v1), some (.inl v2), some (.inl v3), some (.inl r2)] [.inl r12, .inl v1, .inr (.inr (2, 0))] m (n + 1) = if ax_ok v1 8 = true then ax_ex (e + 6) L_X10_walk 27 [some (.inr (.inr (0, 0))), some (.inl v1), some (.inl v2), some (.inl v3), some (.inl r2)] [] (ax_ui m 2 0 v1.toNatClampNeg r12) n else none := fun n => rfl
        by_cases c13 : ax_ok v1 8 = true
        · rw [if_pos c13] at h
          refine ax_gt c13 s14 ?_
          have s16 : ∀ n, ax_ex (e + 6) L_X10_walk 27 [some (.inr (.inr (0, 0))), some (.inl v1), some (.inl v2), some (.inl v3), some (.inl r2)] [] (ax_ui m 2 0 v1.toNatClampNeg r12) (n + 5) = if ax_ok v1 8 = true then ax_ex (e + 6) L_X10_walk 32 [some (.inr (.inr (0, 0))), some (.inl v1), some (.inl v2), some (.inl v3), some (.inl r2)] [.inl ((ax_ui m 2 0 v1.toNatClampNeg r12).1 2 0 v1.toNatClampNeg)] (ax_ui m 2 0 v1.toNatClampNeg r12) n else none := fun n => rfl
          by_cases c15 : ax_ok v1 8 = true
          · rw [if_pos c15] at h
            refine ax_gt c15 s16 ?_
            obtain rfl := Option.some.inj h
            exact ax_rs 1 (fun n => rfl)
          · rw [if_neg c15] at h
            cases h
        · rw [if_neg c13] at h
          cases h
      · rw [if_neg c9] at h
        cases h
  · rw [if_neg c3] at h
    refine ax_gf c3 s4 ?_
    obtain ⟨r19, m20, q18, h⟩ := ax_b2_of h
    have s21 : ∀ n, ax_ex (e + 6) L_X10_walk 8 [some (.inr (.inr (0, 0))), some (.inl v1), some (.inl v2), some (.inl v3), some (.inl r2)] [] m (n + 3) = ax_aft (fun s m2 => ax_ex (e + 6) L_X10_walk 11 [some (.inr (.inr (0, 0))), some (.inl v1), some (.inl v2), some (.inl v3), some (.inl r2)] s m2 n) [] (ax_ex (e + 5) L_X10_refuse 0 (ax_entry [.inr (.inr (0, 0)), .inl r2] 3) [] m n) := fun n => rfl
    refine ax_gci (j := 3) (k2 := 11) (lv2 := [some (.inr (.inr (0, 0))), some (.inl v1), some (.inl v2), some (.inl v3), some (.inl r2)]) (rest := []) ((R_X10_refuse (by omega) q18)) s21 ?_
    obtain rfl := Option.some.inj h
    exact ax_rs 1 (fun n => rfl)
def F_X10_step (m : ax_M) (v1 : Int32) (v2 : Int32) : Option (Int32 × ax_M) := ax_b (F_X3_isPerson m 0 v1) (fun r2 => if r2 = 0 then (ax_b2 (F_X10_refuse m (-2)) (fun r6 m7 => some (r6, m7))) else (if v2 < 0 then (ax_b2 (F_X10_refuse m (-2)) (fun r12 m13 => some (r12, m13))) else (if v2 ≤ 3 then (ax_b2 (F_X3_go m 0 v1 v2) (fun r18 m19 => if r18 = 0 then (ax_b2 (F_X10_refuse m19 (-5)) (fun r23 m24 => some (r23, m24))) else (if ax_ok v1 8 = true then (some ((m19.1 2 0 v1.toNatClampNeg), m19)) else (none)))) else (ax_b2 (F_X10_refuse m (-2)) (fun r30 m31 => some (r30, m31))))))
set_option maxRecDepth 20000 in
set_option maxHeartbeats 4000000 in
theorem R_X10_step {d : Nat} (hd : 5 ≤ d) {m : ax_M} {v1 : Int32} {v2 : Int32} {q : (Int32 × ax_M)} (h : F_X10_step m v1 v2 = some q) : ax_Ru d L_X10_step 0 (ax_entry [.inr (.inr (0, 0)), .inl v1, .inl v2] 3) [] m (some (.inl q.1), q.2) := by
  obtain ⟨e, rfl⟩ : ∃ e, d = e + 5 := ⟨d - 5, by omega⟩
  unfold F_X10_step at h
  obtain ⟨r2, q1, h⟩ := ax_b_of h
  have s33 : ∀ n, ax_ex (e + 5) L_X10_step 0 (ax_entry [.inr (.inr (0, 0)), .inl v1, .inl v2] 3) [] m (n + 4) = ax_aft (fun s m2 => ax_ex (e + 5) L_X10_step 4 [some (.inr (.inr (0, 0))), some (.inl v1), some (.inl v2)] s m2 n) [] (ax_ex (e + 4) L_X3_isPerson 0 (ax_entry [.inr (.inr (1, 0)), .inl v1] 2) [] m n) := fun n => rfl
  refine ax_gci (j := 4) (k2 := 4) (lv2 := [some (.inr (.inr (0, 0))), some (.inl v1), some (.inl v2)]) (rest := []) ((R_X3_isPerson (by omega) q1)) s33 ?_
  have s4 : ∀ n, ax_ex (e + 5) L_X10_step 4 [some (.inr (.inr (0, 0))), some (.inl v1), some (.inl v2)] [.inl r2] m (n + 1) = if r2 = 0 then ax_ex (e + 5) L_X10_step 10 [some (.inr (.inr (0, 0))), some (.inl v1), some (.inl v2)] [] m n else ax_ex (e + 5) L_X10_step 5 [some (.inr (.inr (0, 0))), some (.inl v1), some (.inl v2)] [] m n := fun n => rfl
  by_cases c3 : r2 = 0
  · rw [if_pos c3] at h
    refine ax_gt c3 s4 ?_
    obtain ⟨r6, m7, q5, h⟩ := ax_b2_of h
    have s8 : ∀ n, ax_ex (e + 5) L_X10_step 10 [some (.inr (.inr (0, 0))), some (.inl v1), some (.inl v2)] [] m (n + 3) = ax_aft (fun s m2 => ax_ex (e + 5) L_X10_step 13 [some (.inr (.inr (0, 0))), some (.inl v1), some (.inl v2)] s m2 n) [] (ax_ex (e + 4) L_X10_refuse 0 (ax_entry [.inr (.inr (0, 0)), .inl (-2)] 3) [] m n) := fun n => rfl
    refine ax_gci (j := 3) (k2 := 13) (lv2 := [some (.inr (.inr (0, 0))), some (.inl v1), some (.inl v2)]) (rest := []) ((R_X10_refuse (by omega) q5)) s8 ?_
    obtain rfl := Option.some.inj h
    exact ax_rs 1 (fun n => rfl)
  · rw [if_neg c3] at h
    refine ax_gf c3 s4 ?_
    have s10 : ∀ n, ax_ex (e + 5) L_X10_step 5 [some (.inr (.inr (0, 0))), some (.inl v1), some (.inl v2)] [] m (n + 2) = if v2 < 0 then ax_ex (e + 5) L_X10_step 10 [some (.inr (.inr (0, 0))), some (.inl v1), some (.inl v2)] [] m n else ax_ex (e + 5) L_X10_step 7 [some (.inr (.inr (0, 0))), some (.inl v1), some (.inl v2)] [] m n := fun n => rfl
    by_cases c9 : v2 < 0
    · rw [if_pos c9] at h
      refine ax_gt c9 s10 ?_
      obtain ⟨r12, m13, q11, h⟩ := ax_b2_of h
      have s14 : ∀ n, ax_ex (e + 5) L_X10_step 10 [some (.inr (.inr (0, 0))), some (.inl v1), some (.inl v2)] [] m (n + 3) = ax_aft (fun s m2 => ax_ex (e + 5) L_X10_step 13 [some (.inr (.inr (0, 0))), some (.inl v1), some (.inl v2)] s m2 n) [] (ax_ex (e + 4) L_X10_refuse 0 (ax_entry [.inr (.inr (0, 0)), .inl (-2)] 3) [] m n) := fun n => rfl
      refine ax_gci (j := 3) (k2 := 13) (lv2 := [some (.inr (.inr (0, 0))), some (.inl v1), some (.inl v2)]) (rest := []) ((R_X10_refuse (by omega) q11)) s14 ?_
      obtain rfl := Option.some.inj h
      exact ax_rs 1 (fun n => rfl)
    · rw [if_neg c9] at h
      refine ax_gf c9 s10 ?_
      have s16 : ∀ n, ax_ex (e + 5) L_X10_step 7 [some (.inr (.inr (0, 0))), some (.inl v1), some (.inl v2)] [] m (n + 3) = if v2 ≤ 3 then ax_ex (e + 5) L_X10_step 14 [some (.inr (.inr (0, 0))), some (.inl v1), some (.inl v2)] [] m n else ax_ex (e + 5) L_X10_step 10 [some (.inr (.inr (0, 0))), some (.inl v1), some (.inl v2)] [] m n := fun n => rfl
      by_cases c15 : v2 ≤ 3
      · rw [if_pos c15] at h
        refine ax_gt c15 s16 ?_
        obtain ⟨r18, m19, q17, h⟩ := ax_b2_of h
        have s28 : ∀ n, ax_ex (e + 5) L_X10_step 14 [some (.inr (.inr (0, 0))), some (.inl v1), some (.inl v2)] [] m (n + 5) = ax_aft (fun s m2 => ax_ex (e + 5) L_X10_step 19 [some (.inr (.inr (0, 0))), some (.inl v1), some (.inl v2)] s m2 n) [] (ax_ex (e + 4) L_X3_go 0 (ax_entry [.inr (.inr (1, 0)), .inl v1, .inl v2] 4) [] m n) := fun n => rfl
        refine ax_gci (j := 5) (k2 := 19) (lv2 := [some (.inr (.inr (0, 0))), some (.inl v1), some (.inl v2)]) (rest := []) ((R_X3_go (by omega) q17)) s28 ?_
        have s21 : ∀ n, ax_ex (e + 5) L_X10_step 19 [some (.inr (.inr (0, 0))), some (.inl v1), some (.inl v2)] [.inl r18] m19 (n + 1) = if r18 = 0 then ax_ex (e + 5) L_X10_step 20 [some (.inr (.inr (0, 0))), some (.inl v1), some (.inl v2)] [] m19 n else ax_ex (e + 5) L_X10_step 24 [some (.inr (.inr (0, 0))), some (.inl v1), some (.inl v2)] [] m19 n := fun n => rfl
        by_cases c20 : r18 = 0
        · rw [if_pos c20] at h
          refine ax_gt c20 s21 ?_
          obtain ⟨r23, m24, q22, h⟩ := ax_b2_of h
          have s25 : ∀ n, ax_ex (e + 5) L_X10_step 20 [some (.inr (.inr (0, 0))), some (.inl v1), some (.inl v2)] [] m19 (n + 3) = ax_aft (fun s m2 => ax_ex (e + 5) L_X10_step 23 [some (.inr (.inr (0, 0))), some (.inl v1), some (.inl v2)] s m2 n) [] (ax_ex (e + 4) L_X10_refuse 0 (ax_entry [.inr (.inr (0, 0)), .inl (-5)] 3) [] m19 n) := fun n => rfl
          refine ax_gci (j := 3) (k2 := 23) (lv2 := [some (.inr (.inr (0, 0))), some (.inl v1), some (.inl v2)]) (rest := []) ((R_X10_refuse (by omega) q22)) s25 ?_
          obtain rfl := Option.some.inj h
          exact ax_rs 1 (fun n => rfl)
        · rw [if_neg c20] at h
          refine ax_gf c20 s21 ?_
          have s27 : ∀ n, ax_ex (e + 5) L_X10_step 24 [some (.inr (.inr (0, 0))), some (.inl v1), some (.inl v2)] [] m19 (n + 5) = if ax_ok v1 8 = true then ax_ex (e + 5) L_X10_step 29 [some (.inr (.inr (0, 0))), some (.inl v1), some (.inl v2)] [.inl (m19.1 2 0 v1.toNatClampNeg)] m19 n else none := fun n => rfl
          by_cases c26 : ax_ok v1 8 = true
          · rw [if_pos c26] at h
            refine ax_gt c26 s27 ?_
            obtain rfl := Option.some.inj h
            exact ax_rs 1 (fun n => rfl)
          · rw [if_neg c26] at h
            cases h
      · rw [if_neg c15] at h
        refine ax_gf c15 s16 ?_
        obtain ⟨r30, m31, q29, h⟩ := ax_b2_of h
        have s32 : ∀ n, ax_ex (e + 5) L_X10_step 10 [some (.inr (.inr (0, 0))), some (.inl v1), some (.inl v2)] [] m (n + 3) = ax_aft (fun s m2 => ax_ex (e + 5) L_X10_step 13 [some (.inr (.inr (0, 0))), some (.inl v1), some (.inl v2)] s m2 n) [] (ax_ex (e + 4) L_X10_refuse 0 (ax_entry [.inr (.inr (0, 0)), .inl (-2)] 3) [] m n) := fun n => rfl
        refine ax_gci (j := 3) (k2 := 13) (lv2 := [some (.inr (.inr (0, 0))), some (.inl v1), some (.inl v2)]) (rest := []) ((R_X10_refuse (by omega) q29)) s32 ?_
        obtain rfl := Option.some.inj h
        exact ax_rs 1 (fun n => rfl)
def F_X10_pay (m : ax_M) (v1 : Int32) (v2 : Int32) (v3 : Int32) : Option (Int32 × ax_M) := ax_b (F_X10_isPair m v1 v2) (fun r2 => if r2 = 0 then (ax_b2 (F_X10_refuse m (-2)) (fun r6 m7 => some (r6, m7))) else (if v3 < 1 then (ax_b2 (F_X10_refuse m (-2)) (fun r12 m13 => some (r12, m13))) else (if v3 ≤ 999 then (ax_b (F_X2_of m 0 v1 v2) (fun r18 => if 0 ≤ (r18 - v3) then (ax_b (F_X2_put m 0 v1 v2 (r18 - v3)) (fun m24 => some ((r18 - v3), m24))) else (ax_b2 (F_X10_refuse m (-5)) (fun r27 m28 => some (r27, m28))))) else (ax_b2 (F_X10_refuse m (-2)) (fun r32 m33 => some (r32, m33))))))
set_option maxRecDepth 20000 in
set_option maxHeartbeats 4000000 in
theorem R_X10_pay {d : Nat} (hd : 3 ≤ d) {m : ax_M} {v1 : Int32} {v2 : Int32} {v3 : Int32} {q : (Int32 × ax_M)} (h : F_X10_pay m v1 v2 v3 = some q) : ax_Ru d L_X10_pay 0 (ax_entry [.inr (.inr (0, 0)), .inl v1, .inl v2, .inl v3] 5) [] m (some (.inl q.1), q.2) := by
  obtain ⟨e, rfl⟩ : ∃ e, d = e + 3 := ⟨d - 3, by omega⟩
  unfold F_X10_pay at h
  obtain ⟨r2, q1, h⟩ := ax_b_of h
  have s35 : ∀ n, ax_ex (e + 3) L_X10_pay 0 (ax_entry [.inr (.inr (0, 0)), .inl v1, .inl v2, .inl v3] 5) [] m (n + 4) = ax_aft (fun s m2 => ax_ex (e + 3) L_X10_pay 4 [some (.inr (.inr (0, 0))), some (.inl v1), some (.inl v2), some (.inl v3), none] s m2 n) [] (ax_ex (e + 2) L_X10_isPair 0 (ax_entry [.inr (.inr (0, 0)), .inl v1, .inl v2] 3) [] m n) := fun n => rfl
  refine ax_gci (j := 4) (k2 := 4) (lv2 := [some (.inr (.inr (0, 0))), some (.inl v1), some (.inl v2), some (.inl v3), none]) (rest := []) ((R_X10_isPair (by omega) q1)) s35 ?_
  have s4 : ∀ n, ax_ex (e + 3) L_X10_pay 4 [some (.inr (.inr (0, 0))), some (.inl v1), some (.inl v2), some (.inl v3), none] [.inl r2] m (n + 1) = if r2 = 0 then ax_ex (e + 3) L_X10_pay 11 [some (.inr (.inr (0, 0))), some (.inl v1), some (.inl v2), some (.inl v3), none] [] m n else ax_ex (e + 3) L_X10_pay 5 [some (.inr (.inr (0, 0))), some (.inl v1), some (.inl v2), some (.inl v3), none] [] m n := fun n => rfl
  by_cases c3 : r2 = 0
  · rw [if_pos c3] at h
    refine ax_gt c3 s4 ?_
    obtain ⟨r6, m7, q5, h⟩ := ax_b2_of h
    have s8 : ∀ n, ax_ex (e + 3) L_X10_pay 11 [some (.inr (.inr (0, 0))), some (.inl v1), some (.inl v2), some (.inl v3), none] [] m (n + 3) = ax_aft (fun s m2 => ax_ex (e + 3) L_X10_pay 14 [some (.inr (.inr (0, 0))), some (.inl v1), some (.inl v2), some (.inl v3), none] s m2 n) [] (ax_ex (e + 2) L_X10_refuse 0 (ax_entry [.inr (.inr (0, 0)), .inl (-2)] 3) [] m n) := fun n => rfl
    refine ax_gci (j := 3) (k2 := 14) (lv2 := [some (.inr (.inr (0, 0))), some (.inl v1), some (.inl v2), some (.inl v3), none]) (rest := []) ((R_X10_refuse (by omega) q5)) s8 ?_
    obtain rfl := Option.some.inj h
    exact ax_rs 1 (fun n => rfl)
  · rw [if_neg c3] at h
    refine ax_gf c3 s4 ?_
    have s10 : ∀ n, ax_ex (e + 3) L_X10_pay 5 [some (.inr (.inr (0, 0))), some (.inl v1), some (.inl v2), some (.inl v3), none] [] m (n + 3) = if v3 < 1 then ax_ex (e + 3) L_X10_pay 11 [some (.inr (.inr (0, 0))), some (.inl v1), some (.inl v2), some (.inl v3), none] [] m n else ax_ex (e + 3) L_X10_pay 8 [some (.inr (.inr (0, 0))), some (.inl v1), some (.inl v2), some (.inl v3), none] [] m n := fun n => rfl
    by_cases c9 : v3 < 1
    · rw [if_pos c9] at h
      refine ax_gt c9 s10 ?_
      obtain ⟨r12, m13, q11, h⟩ := ax_b2_of h
      have s14 : ∀ n, ax_ex (e + 3) L_X10_pay 11 [some (.inr (.inr (0, 0))), some (.inl v1), some (.inl v2), some (.inl v3), none] [] m (n + 3) = ax_aft (fun s m2 => ax_ex (e + 3) L_X10_pay 14 [some (.inr (.inr (0, 0))), some (.inl v1), some (.inl v2), some (.inl v3), none] s m2 n) [] (ax_ex (e + 2) L_X10_refuse 0 (ax_entry [.inr (.inr (0, 0)), .inl (-2)] 3) [] m n) := fun n => rfl
      refine ax_gci (j := 3) (k2 := 14) (lv2 := [some (.inr (.inr (0, 0))), some (.inl v1), some (.inl v2), some (.inl v3), none]) (rest := []) ((R_X10_refuse (by omega) q11)) s14 ?_
      obtain rfl := Option.some.inj h
      exact ax_rs 1 (fun n => rfl)
    · rw [if_neg c9] at h
      refine ax_gf c9 s10 ?_
      have s16 : ∀ n, ax_ex (e + 3) L_X10_pay 8 [some (.inr (.inr (0, 0))), some (.inl v1), some (.inl v2), some (.inl v3), none] [] m (n + 3) = if v3 ≤ 999 then ax_ex (e + 3) L_X10_pay 15 [some (.inr (.inr (0, 0))), some (.inl v1), some (.inl v2), some (.inl v3), none] [] m n else ax_ex (e + 3) L_X10_pay 11 [some (.inr (.inr (0, 0))), some (.inl v1), some (.inl v2), some (.inl v3), none] [] m n := fun n => rfl
      by_cases c15 : v3 ≤ 999
      · rw [if_pos c15] at h
        refine ax_gt c15 s16 ?_
        obtain ⟨r18, q17, h⟩ := ax_b_of h
        have s30 : ∀ n, ax_ex (e + 3) L_X10_pay 15 [some (.inr (.inr (0, 0))), some (.inl v1), some (.inl v2), some (.inl v3), none] [] m (n + 6) = ax_aft (fun s m2 => ax_ex (e + 3) L_X10_pay 21 [some (.inr (.inr (0, 0))), some (.inl v1), some (.inl v2), some (.inl v3), none] s m2 n) [] (ax_ex (e + 2) L_X2_of 0 (ax_entry [.inr (.inr (3, 0)), .inl v1, .inl v2] 3) [] m n) := fun n => rfl
        refine ax_gci (j := 6) (k2 := 21) (lv2 := [some (.inr (.inr (0, 0))), some (.inl v1), some (.inl v2), some (.inl v3), none]) (rest := []) ((R_X2_of (by omega) q17)) s30 ?_
        refine ax_go (j := 4) (k2 := 25) (lv2 := [some (.inr (.inr (0, 0))), some (.inl v1), some (.inl v2), some (.inl v3), some (.inl (r18 - v3))]) (st2 := [.inl (r18 - v3)]) (m2 := m) (fun n => rfl) ?_
        obtain ⟨y19, hy19⟩ : ∃ y : Int32, y = (r18 - v3) := ⟨_, rfl⟩
        rw [← hy19] at h ⊢
        have s21 : ∀ n, ax_ex (e + 3) L_X10_pay 25 [some (.inr (.inr (0, 0))), some (.inl v1), some (.inl v2), some (.inl v3), some (.inl y19)] [.inl y19] m (n + 1) = if 0 ≤ y19 then ax_ex (e + 3) L_X10_pay 30 [some (.inr (.inr (0, 0))), some (.inl v1), some (.inl v2), some (.inl v3), some (.inl y19)] [] m n else ax_ex (e + 3) L_X10_pay 26 [some (.inr (.inr (0, 0))), some (.inl v1), some (.inl v2), some (.inl v3), some (.inl y19)] [] m n := fun n => rfl
        by_cases c20 : 0 ≤ y19
        · rw [if_pos c20] at h
          refine ax_gt c20 s21 ?_
          obtain ⟨m24, q22, h⟩ := ax_b_of h
          have s25 : ∀ n, ax_ex (e + 3) L_X10_pay 30 [some (.inr (.inr (0, 0))), some (.inl v1), some (.inl v2), some (.inl v3), some (.inl y19)] [] m (n + 7) = ax_aft (fun s m2 => ax_ex (e + 3) L_X10_pay 37 [some (.inr (.inr (0, 0))), some (.inl v1), some (.inl v2), some (.inl v3), some (.inl y19)] s m2 n) [] (ax_ex (e + 2) L_X2_put 0 (ax_entry [.inr (.inr (3, 0)), .inl v1, .inl v2, .inl y19] 4) [] m n) := fun n => rfl
          refine ax_gcv (j := 7) (k2 := 37) (lv2 := [some (.inr (.inr (0, 0))), some (.inl v1), some (.inl v2), some (.inl v3), some (.inl y19)]) (rest := []) ((R_X2_put (by omega) q22)) s25 ?_
          obtain rfl := Option.some.inj h
          exact ax_rs 2 (fun n => rfl)
        · rw [if_neg c20] at h
          refine ax_gf c20 s21 ?_
          obtain ⟨r27, m28, q26, h⟩ := ax_b2_of h
          have s29 : ∀ n, ax_ex (e + 3) L_X10_pay 26 [some (.inr (.inr (0, 0))), some (.inl v1), some (.inl v2), some (.inl v3), some (.inl y19)] [] m (n + 3) = ax_aft (fun s m2 => ax_ex (e + 3) L_X10_pay 29 [some (.inr (.inr (0, 0))), some (.inl v1), some (.inl v2), some (.inl v3), some (.inl y19)] s m2 n) [] (ax_ex (e + 2) L_X10_refuse 0 (ax_entry [.inr (.inr (0, 0)), .inl (-5)] 3) [] m n) := fun n => rfl
          refine ax_gci (j := 3) (k2 := 29) (lv2 := [some (.inr (.inr (0, 0))), some (.inl v1), some (.inl v2), some (.inl v3), some (.inl y19)]) (rest := []) ((R_X10_refuse (by omega) q26)) s29 ?_
          obtain rfl := Option.some.inj h
          exact ax_rs 1 (fun n => rfl)
      · rw [if_neg c15] at h
        refine ax_gf c15 s16 ?_
        obtain ⟨r32, m33, q31, h⟩ := ax_b2_of h
        have s34 : ∀ n, ax_ex (e + 3) L_X10_pay 11 [some (.inr (.inr (0, 0))), some (.inl v1), some (.inl v2), some (.inl v3), none] [] m (n + 3) = ax_aft (fun s m2 => ax_ex (e + 3) L_X10_pay 14 [some (.inr (.inr (0, 0))), some (.inl v1), some (.inl v2), some (.inl v3), none] s m2 n) [] (ax_ex (e + 2) L_X10_refuse 0 (ax_entry [.inr (.inr (0, 0)), .inl (-2)] 3) [] m n) := fun n => rfl
        refine ax_gci (j := 3) (k2 := 14) (lv2 := [some (.inr (.inr (0, 0))), some (.inl v1), some (.inl v2), some (.inl v3), none]) (rest := []) ((R_X10_refuse (by omega) q31)) s34 ?_
        obtain rfl := Option.some.inj h
        exact ax_rs 1 (fun n => rfl)
def F_X10_strike (m : ax_M) : Option (Int32 × ax_M) := ax_b (F_X2_shared m 0) (fun r2 => ax_b (F_X2_cancel m 0) (fun m5 => some (r2, m5)))
set_option maxRecDepth 20000 in
set_option maxHeartbeats 4000000 in
theorem R_X10_strike {d : Nat} (hd : 7 ≤ d) {m : ax_M} {q : (Int32 × ax_M)} (h : F_X10_strike m = some q) : ax_Ru d L_X10_strike 0 (ax_entry [.inr (.inr (0, 0))] 2) [] m (some (.inl q.1), q.2) := by
  obtain ⟨e, rfl⟩ : ∃ e, d = e + 7 := ⟨d - 7, by omega⟩
  unfold F_X10_strike at h
  obtain ⟨r2, q1, h⟩ := ax_b_of h
  have s7 : ∀ n, ax_ex (e + 7) L_X10_strike 0 (ax_entry [.inr (.inr (0, 0))] 2) [] m (n + 4) = ax_aft (fun s m2 => ax_ex (e + 7) L_X10_strike 4 [some (.inr (.inr (0, 0))), none] s m2 n) [] (ax_ex (e + 6) L_X2_shared 0 (ax_entry [.inr (.inr (3, 0))] 4) [] m n) := fun n => rfl
  refine ax_gci (j := 4) (k2 := 4) (lv2 := [some (.inr (.inr (0, 0))), none]) (rest := []) ((R_X2_shared (by omega) q1)) s7 ?_
  obtain ⟨m5, q3, h⟩ := ax_b_of h
  have s6 : ∀ n, ax_ex (e + 7) L_X10_strike 4 [some (.inr (.inr (0, 0))), none] [.inl r2] m (n + 5) = ax_aft (fun s m2 => ax_ex (e + 7) L_X10_strike 9 [some (.inr (.inr (0, 0))), some (.inl r2)] s m2 n) [] (ax_ex (e + 6) L_X2_cancel 0 (ax_entry [.inr (.inr (3, 0))] 4) [] m n) := fun n => rfl
  refine ax_gcv (j := 5) (k2 := 9) (lv2 := [some (.inr (.inr (0, 0))), some (.inl r2)]) (rest := []) ((R_X2_cancel (by omega) q3)) s6 ?_
  obtain rfl := Option.some.inj h
  exact ax_rs 2 (fun n => rfl)
def F_X10_countShowing_L4 : Nat → ax_M → Int32 → Int32 → Option Int32
  | 0, _, _, _ => none
  | n + 1, m, v1, v2 => if (m.1 1 0 1) ≤ v2 then (ax_b (F_J6_bitCount_0f7a4 v1) (fun r4 => some r4)) else (if ax_ok v2 8 = true then (F_X10_countShowing_L4 n m (v1 ||| (m.1 21 0 v2.toNatClampNeg)) (v2 + 1)) else (none))
set_option maxRecDepth 20000 in
set_option maxHeartbeats 4000000 in
theorem R_X10_countShowing_L4 {e : Nat} {m : ax_M} : ∀ (n : Nat) (v1 : Int32) (v2 : Int32) (q : Int32), F_X10_countShowing_L4 n m v1 v2 = some q → ax_Ru (e + 2) L_X10_countShowing 4 [some (.inr (.inr (0, 0))), some (.inl v1), some (.inl v2)] [] m (some (.inl q), m) := by
  intro n
  induction n with
  | zero =>
    intro v1 v2 q h
    cases h
  | succ n ih =>
    intro v1 v2 q h
    rw [F_X10_countShowing_L4] at h
    have s2 : ∀ n, ax_ex (e + 2) L_X10_countShowing 4 [some (.inr (.inr (0, 0))), some (.inl v1), some (.inl v2)] [] m (n + 5) = if (m.1 1 0 1) ≤ v2 then ax_ex (e + 2) L_X10_countShowing 18 [some (.inr (.inr (0, 0))), some (.inl v1), some (.inl v2)] [] m n else ax_ex (e + 2) L_X10_countShowing 9 [some (.inr (.inr (0, 0))), some (.inl v1), some (.inl v2)] [] m n := fun n => rfl
    by_cases c1 : (m.1 1 0 1) ≤ v2
    · rw [if_pos c1] at h
      refine ax_gt c1 s2 ?_
      obtain ⟨r4, q3, h⟩ := ax_b_of h
      have s5 : ∀ n, ax_ex (e + 2) L_X10_countShowing 18 [some (.inr (.inr (0, 0))), some (.inl v1), some (.inl v2)] [] m (n + 2) = ax_aft (fun s m2 => ax_ex (e + 2) L_X10_countShowing 20 [some (.inr (.inr (0, 0))), some (.inl v1), some (.inl v2)] s m2 n) [] (ax_ex (e + 1) L_J6_bitCount_0f7a4 0 (ax_entry [.inl v1] 1) [] m n) := fun n => rfl
      refine ax_gci (j := 2) (k2 := 20) (lv2 := [some (.inr (.inr (0, 0))), some (.inl v1), some (.inl v2)]) (rest := []) ((R_J6_bitCount_0f7a4 (by omega) q3)) s5 ?_
      obtain rfl := Option.some.inj h
      exact ax_rs 1 (fun n => rfl)
    · rw [if_neg c1] at h
      refine ax_gf c1 s2 ?_
      have s7 : ∀ n, ax_ex (e + 2) L_X10_countShowing 9 [some (.inr (.inr (0, 0))), some (.inl v1), some (.inl v2)] [] m (n + 5) = if ax_ok v2 8 = true then ax_ex (e + 2) L_X10_countShowing 14 [some (.inr (.inr (0, 0))), some (.inl v1), some (.inl v2)] [.inl (m.1 21 0 v2.toNatClampNeg), .inl v1] m n else none := fun n => rfl
      by_cases c6 : ax_ok v2 8 = true
      · rw [if_pos c6] at h
        refine ax_gt c6 s7 ?_
        refine ax_go (j := 4) (k2 := 4) (lv2 := [some (.inr (.inr (0, 0))), some (.inl (v1 ||| (m.1 21 0 v2.toNatClampNeg))), some (.inl (v2 + 1))]) (st2 := []) (m2 := m) (fun n => rfl) ?_
        exact ax_fg (lv2 := [some (.inr (.inr (0, 0))), some (.inl (v1 ||| (m.1 21 0 v2.toNatClampNeg))), some (.inl (v2 + 1))]) ⟨rfl, rfl, rfl, trivial⟩ (ih (v1 ||| (m.1 21 0 v2.toNatClampNeg)) (v2 + 1) _ h)
      · rw [if_neg c6] at h
        cases h
def F_X10_countShowing (m : ax_M) : Option Int32 := F_X10_countShowing_L4 ax_FU m 0 0
set_option maxRecDepth 20000 in
set_option maxHeartbeats 4000000 in
theorem R_X10_countShowing {d : Nat} (hd : 2 ≤ d) {m : ax_M} {q : Int32} (h : F_X10_countShowing m = some q) : ax_Ru d L_X10_countShowing 0 (ax_entry [.inr (.inr (0, 0))] 3) [] m (some (.inl q), m) := by
  obtain ⟨e, rfl⟩ : ∃ e, d = e + 2 := ⟨d - 2, by omega⟩
  unfold F_X10_countShowing at h
  refine ax_go (j := 4) (k2 := 4) (lv2 := [some (.inr (.inr (0, 0))), some (.inl 0), some (.inl 0)]) (st2 := []) (m2 := m) (fun n => rfl) ?_
  refine ax_fg (lv2 := [some (.inr (.inr (0, 0))), some (.inl 0), some (.inl 0)]) ⟨rfl, rfl, rfl, trivial⟩ ?_
  refine R_X10_countShowing_L4 _ 0 0 _ h
