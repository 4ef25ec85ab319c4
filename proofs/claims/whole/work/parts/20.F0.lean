def F_X0_isCell (v0 : Int32) : Option Int32 := if v0 < 0 then (some 0) else (if 64 ≤ v0 then (some 0) else (some 1))
set_option maxRecDepth 20000 in
set_option maxHeartbeats 4000000 in
theorem R_X0_isCell {d : Nat} (hd : 1 ≤ d) {m : ax_M} {v0 : Int32} {q : Int32} (h : F_X0_isCell v0 = some q) : ax_Ru d L_X0_isCell 0 (ax_entry [.inl v0] 1) [] m (some (.inl q), m) := by
  obtain ⟨e, rfl⟩ : ∃ e, d = e + 1 := ⟨d - 1, by omega⟩
  unfold F_X0_isCell at h
  have s2 : ∀ n, ax_ex (e + 1) L_X0_isCell 0 (ax_entry [.inl v0] 1) [] m (n + 2) = if v0 < 0 then ax_ex (e + 1) L_X0_isCell 7 [some (.inl v0)] [] m n else ax_ex (e + 1) L_X0_isCell 2 [some (.inl v0)] [] m n := fun n => rfl
  by_cases c1 : v0 < 0
  · rw [if_pos c1] at h
    refine ax_gt c1 s2 ?_
    obtain rfl := Option.some.inj h
    exact ax_rq (c := (0 : Int32) = 0 ∨ (0 : Int32) = 1) (j := 2) (by decide) (fun n => rfl)
  · rw [if_neg c1] at h
    refine ax_gf c1 s2 ?_
    have s4 : ∀ n, ax_ex (e + 1) L_X0_isCell 2 [some (.inl v0)] [] m (n + 3) = if 64 ≤ v0 then ax_ex (e + 1) L_X0_isCell 7 [some (.inl v0)] [] m n else ax_ex (e + 1) L_X0_isCell 5 [some (.inl v0)] [] m n := fun n => rfl
    by_cases c3 : 64 ≤ v0
    · rw [if_pos c3] at h
      refine ax_gt c3 s4 ?_
      obtain rfl := Option.some.inj h
      exact ax_rq (c := (0 : Int32) = 0 ∨ (0 : Int32) = 1) (j := 2) (by decide) (fun n => rfl)
    · rw [if_neg c3] at h
      refine ax_gf c3 s4 ?_
      obtain rfl := Option.some.inj h
      exact ax_rq (c := (1 : Int32) = 0 ∨ (1 : Int32) = 1) (j := 3) (by decide) (fun n => rfl)
def F_X0_bit (v0 : Int32) : Option Int64 := if v0 < 0 then (some 0) else (if 64 ≤ v0 then (some 0) else (some (ax_lshl 1 v0)))
set_option maxRecDepth 20000 in
set_option maxHeartbeats 4000000 in
theorem R_X0_bit {d : Nat} (hd : 1 ≤ d) {m : ax_M} {v0 : Int32} {q : Int64} (h : F_X0_bit v0 = some q) : ax_Ru d L_X0_bit 0 (ax_entry [.inl v0] 1) [] m (some (.inr (.inl q)), m) := by
  obtain ⟨e, rfl⟩ : ∃ e, d = e + 1 := ⟨d - 1, by omega⟩
  unfold F_X0_bit at h
  have s2 : ∀ n, ax_ex (e + 1) L_X0_bit 0 (ax_entry [.inl v0] 1) [] m (n + 2) = if v0 < 0 then ax_ex (e + 1) L_X0_bit 9 [some (.inl v0)] [] m n else ax_ex (e + 1) L_X0_bit 2 [some (.inl v0)] [] m n := fun n => rfl
  by_cases c1 : v0 < 0
  · rw [if_pos c1] at h
    refine ax_gt c1 s2 ?_
    obtain rfl := Option.some.inj h
    exact ax_rs 2 (fun n => rfl)
  · rw [if_neg c1] at h
    refine ax_gf c1 s2 ?_
    have s4 : ∀ n, ax_ex (e + 1) L_X0_bit 2 [some (.inl v0)] [] m (n + 3) = if 64 ≤ v0 then ax_ex (e + 1) L_X0_bit 9 [some (.inl v0)] [] m n else ax_ex (e + 1) L_X0_bit 5 [some (.inl v0)] [] m n := fun n => rfl
    by_cases c3 : 64 ≤ v0
    · rw [if_pos c3] at h
      refine ax_gt c3 s4 ?_
      obtain rfl := Option.some.inj h
      exact ax_rs 2 (fun n => rfl)
    · rw [if_neg c3] at h
      refine ax_gf c3 s4 ?_
      obtain rfl := Option.some.inj h
      exact ax_rs 5 (fun n => rfl)
def F_X0_has (v0 : Int64) (v2 : Int32) : Option Int32 := ax_b (F_X0_bit v2) (fun r2 => if (lg_cmp (v0 &&& r2) 0) = 0 then (some 0) else (some 1))
set_option maxRecDepth 20000 in
set_option maxHeartbeats 4000000 in
theorem R_X0_has {d : Nat} (hd : 2 ≤ d) {m : ax_M} {v0 : Int64} {v2 : Int32} {q : Int32} (h : F_X0_has v0 v2 = some q) : ax_Ru d L_X0_has 0 (ax_entry [.inr (.inl v0), .inl v2] 3) [] m (some (.inl q), m) := by
  obtain ⟨e, rfl⟩ : ∃ e, d = e + 2 := ⟨d - 2, by omega⟩
  unfold F_X0_has at h
  obtain ⟨r2, q1, h⟩ := ax_b_of h
  have s6 : ∀ n, ax_ex (e + 2) L_X0_has 0 (ax_entry [.inr (.inl v0), .inl v2] 3) [] m (n + 3) = ax_aft (fun s m2 => ax_ex (e + 2) L_X0_has 3 [some (.inr (.inl v0)), none, some (.inl v2)] s m2 n) [.inr (.inl v0)] (ax_ex (e + 1) L_X0_bit 0 (ax_entry [.inl v2] 1) [] m n) := fun n => rfl
  refine ax_gcl (j := 3) (k2 := 3) (lv2 := [some (.inr (.inl v0)), none, some (.inl v2)]) (rest := [.inr (.inl v0)]) ((R_X0_bit (by omega) q1)) s6 ?_
  refine ax_go (j := 3) (k2 := 6) (lv2 := [some (.inr (.inl v0)), none, some (.inl v2)]) (st2 := [.inl (lg_cmp (v0 &&& r2) 0)]) (m2 := m) (fun n => rfl) ?_
  obtain ⟨y3, hy3⟩ : ∃ y : Int32, y = (lg_cmp (v0 &&& r2) 0) := ⟨_, rfl⟩
  rw [← hy3] at h ⊢
  have s5 : ∀ n, ax_ex (e + 2) L_X0_has 6 [some (.inr (.inl v0)), none, some (.inl v2)] [.inl y3] m (n + 1) = if y3 = 0 then ax_ex (e + 2) L_X0_has 9 [some (.inr (.inl v0)), none, some (.inl v2)] [] m n else ax_ex (e + 2) L_X0_has 7 [some (.inr (.inl v0)), none, some (.inl v2)] [] m n := fun n => rfl
  by_cases c4 : y3 = 0
  · rw [if_pos c4] at h
    refine ax_gt c4 s5 ?_
    obtain rfl := Option.some.inj h
    exact ax_rq (c := (0 : Int32) = 0 ∨ (0 : Int32) = 1) (j := 2) (by decide) (fun n => rfl)
  · rw [if_neg c4] at h
    refine ax_gf c4 s5 ?_
    obtain rfl := Option.some.inj h
    exact ax_rq (c := (1 : Int32) = 0 ∨ (1 : Int32) = 1) (j := 3) (by decide) (fun n => rfl)
def F_J13_bitCount_95d88 (v0 : Int64) : Option Int32 := some (((((((((v0 - ((ax_lushr v0 1) &&& 6148914691236517205)) &&& 3689348814741910323) + ((ax_lushr (v0 - ((ax_lushr v0 1) &&& 6148914691236517205)) 2) &&& 3689348814741910323)) + (ax_lushr (((v0 - ((ax_lushr v0 1) &&& 6148914691236517205)) &&& 3689348814741910323) + ((ax_lushr (v0 - ((ax_lushr v0 1) &&& 6148914691236517205)) 2) &&& 3689348814741910323)) 4)) &&& 1085102592571150095) + (ax_lushr (((((v0 - ((ax_lushr v0 1) &&& 6148914691236517205)) &&& 3689348814741910323) + ((ax_lushr (v0 - ((ax_lushr v0 1) &&& 6148914691236517205)) 2) &&& 3689348814741910323)) + (ax_lushr (((v0 - ((ax_lushr v0 1) &&& 6148914691236517205)) &&& 3689348814741910323) + ((ax_lushr (v0 - ((ax_lushr v0 1) &&& 6148914691236517205)) 2) &&& 3689348814741910323)) 4)) &&& 1085102592571150095) 8)) + (ax_lushr ((((((v0 - ((ax_lushr v0 1) &&& 6148914691236517205)) &&& 3689348814741910323) + ((ax_lushr (v0 - ((ax_lushr v0 1) &&& 6148914691236517205)) 2) &&& 3689348814741910323)) + (ax_lushr (((v0 - ((ax_lushr v0 1) &&& 6148914691236517205)) &&& 3689348814741910323) + ((ax_lushr (v0 - ((ax_lushr v0 1) &&& 6148914691236517205)) 2) &&& 3689348814741910323)) 4)) &&& 1085102592571150095) + (ax_lushr (((((v0 - ((ax_lushr v0 1) &&& 6148914691236517205)) &&& 3689348814741910323) + ((ax_lushr (v0 - ((ax_lushr v0 1) &&& 6148914691236517205)) 2) &&& 3689348814741910323)) + (ax_lushr (((v0 - ((ax_lushr v0 1) &&& 6148914691236517205)) &&& 3689348814741910323) + ((ax_lushr (v0 - ((ax_lushr v0 1) &&& 6148914691236517205)) 2) &&& 3689348814741910323)) 4)) &&& 1085102592571150095) 8)) 16)) + (ax_lushr (((((((v0 - ((ax_lushr v0 1) &&& 6148914691236517205)) &&& 3689348814741910323) + ((ax_lushr (v0 - ((ax_lushr v0 1) &&& 6148914691236517205)) 2) &&& 3689348814741910323)) + (ax_lushr (((v0 - ((ax_lushr v0 1) &&& 6148914691236517205)) &&& 3689348814741910323) + ((ax_lushr (v0 - ((ax_lushr v0 1) &&& 6148914691236517205)) 2) &&& 3689348814741910323)) 4)) &&& 1085102592571150095) + (ax_lushr (((((v0 - ((ax_lushr v0 1) &&& 6148914691236517205)) &&& 3689348814741910323) + ((ax_lushr (v0 - ((ax_lushr v0 1) &&& 6148914691236517205)) 2) &&& 3689348814741910323)) + (ax_lushr (((v0 - ((ax_lushr v0 1) &&& 6148914691236517205)) &&& 3689348814741910323) + ((ax_lushr (v0 - ((ax_lushr v0 1) &&& 6148914691236517205)) 2) &&& 3689348814741910323)) 4)) &&& 1085102592571150095) 8)) + (ax_lushr ((((((v0 - ((ax_lushr v0 1) &&& 6148914691236517205)) &&& 3689348814741910323) + ((ax_lushr (v0 - ((ax_lushr v0 1) &&& 6148914691236517205)) 2) &&& 3689348814741910323)) + (ax_lushr (((v0 - ((ax_lushr v0 1) &&& 6148914691236517205)) &&& 3689348814741910323) + ((ax_lushr (v0 - ((ax_lushr v0 1) &&& 6148914691236517205)) 2) &&& 3689348814741910323)) 4)) &&& 1085102592571150095) + (ax_lushr (((((v0 - ((ax_lushr v0 1) &&& 6148914691236517205)) &&& 3689348814741910323) + ((ax_lushr (v0 - ((ax_lushr v0 1) &&& 6148914691236517205)) 2) &&& 3689348814741910323)) + (ax_lushr (((v0 - ((ax_lushr v0 1) &&& 6148914691236517205)) &&& 3689348814741910323) + ((ax_lushr (v0 - ((ax_lushr v0 1) &&& 6148914691236517205)) 2) &&& 3689348814741910323)) 4)) &&& 1085102592571150095) 8)) 16)) 32)).toInt32 &&& 127)
set_option maxRecDepth 20000 in
set_option maxHeartbeats 4000000 in
theorem R_J13_bitCount_95d88 {d : Nat} (hd : 1 ≤ d) {m : ax_M} {v0 : Int64} {q : Int32} (h : F_J13_bitCount_95d88 v0 = some q) : ax_Ru d L_J13_bitCount_95d88 0 (ax_entry [.inr (.inl v0)] 2) [] m (some (.inl q), m) := by
  obtain ⟨e, rfl⟩ : ∃ e, d = e + 1 := ⟨d - 1, by omega⟩
  unfold F_J13_bitCount_95d88 at h
  obtain rfl := Option.some.inj h
  exact ax_rs 49 (fun n => rfl)
def F_X0_lowest (v0 : Int64) : Option Int32 := ax_b (F_J13_bitCount_95d88 ((v0 &&& (-v0)) - 1)) (fun r2 => some r2)
set_option maxRecDepth 20000 in
set_option maxHeartbeats 4000000 in
theorem R_X0_lowest {d : Nat} (hd : 2 ≤ d) {m : ax_M} {v0 : Int64} {q : Int32} (h : F_X0_lowest v0 = some q) : ax_Ru d L_X0_lowest 0 (ax_entry [.inr (.inl v0)] 2) [] m (some (.inl q), m) := by
  obtain ⟨e, rfl⟩ : ∃ e, d = e + 2 := ⟨d - 2, by omega⟩
  unfold F_X0_lowest at h
  obtain ⟨r2, q1, h⟩ := ax_b_of h
  have s3 : ∀ n, ax_ex (e + 2) L_X0_lowest 0 (ax_entry [.inr (.inl v0)] 2) [] m (n + 7) = ax_aft (fun s m2 => ax_ex (e + 2) L_X0_lowest 7 [some (.inr (.inl v0)), none] s m2 n) [] (ax_ex (e + 1) L_J13_bitCount_95d88 0 (ax_entry [.inr (.inl ((v0 &&& (-v0)) - 1))] 2) [] m n) := fun n => rfl
  refine ax_gci (j := 7) (k2 := 7) (lv2 := [some (.inr (.inl v0)), none]) (rest := []) ((R_J13_bitCount_95d88 (by omega) q1)) s3 ?_
  obtain rfl := Option.some.inj h
  exact ax_rs 1 (fun n => rfl)
def F_X0_leftAndRight (v0 : Int64) : Option Int64 := some ((ax_lushr (v0 &&& (-72340172838076674)) 1) ||| (ax_lshl (v0 &&& 9187201950435737471) 1))
set_option maxRecDepth 20000 in
set_option maxHeartbeats 4000000 in
theorem R_X0_leftAndRight {d : Nat} (hd : 1 ≤ d) {m : ax_M} {v0 : Int64} {q : Int64} (h : F_X0_leftAndRight v0 = some q) : ax_Ru d L_X0_leftAndRight 0 (ax_entry [.inr (.inl v0)] 2) [] m (some (.inr (.inl q)), m) := by
  obtain ⟨e, rfl⟩ : ∃ e, d = e + 1 := ⟨d - 1, by omega⟩
  unfold F_X0_leftAndRight at h
  obtain rfl := Option.some.inj h
  exact ax_rs 12 (fun n => rfl)
def F_X0_upAndDown (v0 : Int64) : Option Int64 := some ((ax_lushr v0 8) ||| (ax_lshl v0 8))
set_option maxRecDepth 20000 in
set_option maxHeartbeats 4000000 in
theorem R_X0_upAndDown {d : Nat} (hd : 1 ≤ d) {m : ax_M} {v0 : Int64} {q : Int64} (h : F_X0_upAndDown v0 = some q) : ax_Ru d L_X0_upAndDown 0 (ax_entry [.inr (.inl v0)] 2) [] m (some (.inr (.inl q)), m) := by
  obtain ⟨e, rfl⟩ : ∃ e, d = e + 1 := ⟨d - 1, by omega⟩
  unfold F_X0_upAndDown at h
  obtain rfl := Option.some.inj h
  exact ax_rs 8 (fun n => rfl)
def F_X0_beside (v0 : Int64) : Option Int64 := ax_b (F_X0_leftAndRight v0) (fun r2 => ax_b (F_X0_upAndDown v0) (fun r4 => some (r2 ||| r4)))
set_option maxRecDepth 20000 in
set_option maxHeartbeats 4000000 in
theorem R_X0_beside {d : Nat} (hd : 2 ≤ d) {m : ax_M} {v0 : Int64} {q : Int64} (h : F_X0_beside v0 = some q) : ax_Ru d L_X0_beside 0 (ax_entry [.inr (.inl v0)] 2) [] m (some (.inr (.inl q)), m) := by
  obtain ⟨e, rfl⟩ : ∃ e, d = e + 2 := ⟨d - 2, by omega⟩
  unfold F_X0_beside at h
  obtain ⟨r2, q1, h⟩ := ax_b_of h
  have s6 : ∀ n, ax_ex (e + 2) L_X0_beside 0 (ax_entry [.inr (.inl v0)] 2) [] m (n + 2) = ax_aft (fun s m2 => ax_ex (e + 2) L_X0_beside 2 [some (.inr (.inl v0)), none] s m2 n) [] (ax_ex (e + 1) L_X0_leftAndRight 0 (ax_entry [.inr (.inl v0)] 2) [] m n) := fun n => rfl
  refine ax_gcl (j := 2) (k2 := 2) (lv2 := [some (.inr (.inl v0)), none]) (rest := []) ((R_X0_leftAndRight (by omega) q1)) s6 ?_
  obtain ⟨r4, q3, h⟩ := ax_b_of h
  have s5 : ∀ n, ax_ex (e + 2) L_X0_beside 2 [some (.inr (.inl v0)), none] [.inr (.inl r2)] m (n + 2) = ax_aft (fun s m2 => ax_ex (e + 2) L_X0_beside 4 [some (.inr (.inl v0)), none] s m2 n) [.inr (.inl r2)] (ax_ex (e + 1) L_X0_upAndDown 0 (ax_entry [.inr (.inl v0)] 2) [] m n) := fun n => rfl
  refine ax_gcl (j := 2) (k2 := 4) (lv2 := [some (.inr (.inl v0)), none]) (rest := [.inr (.inl r2)]) ((R_X0_upAndDown (by omega) q3)) s5 ?_
  obtain rfl := Option.some.inj h
  exact ax_rs 2 (fun n => rfl)
def F_X0_zone_L5 : Nat → Int32 → Int64 → Int32 → Option Int64
  | 0, _, _, _ => none
  | n + 1, v1, v2, v4 => if v1 ≤ v4 then (some v2) else (ax_b (F_X0_leftAndRight v2) (fun r6 => ax_b (F_X0_upAndDown (v2 ||| r6)) (fun r8 => F_X0_zone_L5 n v1 ((v2 ||| r6) ||| r8) (v4 + 1))))
set_option maxRecDepth 20000 in
set_option maxHeartbeats 4000000 in
theorem R_X0_zone_L5 {e : Nat} {m : ax_M} {v1 : Int32} : ∀ (n : Nat) (v2 : Int64) (v4 : Int32) (q : Int64), F_X0_zone_L5 n v1 v2 v4 = some q → ax_Ru (e + 2) L_X0_zone 5 [none, some (.inl v1), some (.inr (.inl v2)), none, some (.inl v4)] [] m (some (.inr (.inl q)), m) := by
  intro n
  induction n with
  | zero =>
    intro v2 v4 q h
    cases h
  | succ n ih =>
    intro v2 v4 q h
    rw [F_X0_zone_L5] at h
    have s4 : ∀ n, ax_ex (e + 2) L_X0_zone 5 [none, some (.inl v1), some (.inr (.inl v2)), none, some (.inl v4)] [] m (n + 3) = if v1 ≤ v4 then ax_ex (e + 2) L_X0_zone 20 [none, some (.inl v1), some (.inr (.inl v2)), none, some (.inl v4)] [] m n else ax_ex (e + 2) L_X0_zone 8 [none, some (.inl v1), some (.inr (.inl v2)), none, some (.inl v4)] [] m n := fun n => rfl
    by_cases c3 : v1 ≤ v4
    · rw [if_pos c3] at h
      refine ax_gt c3 s4 ?_
      obtain rfl := Option.some.inj h
      exact ax_rs 2 (fun n => rfl)
    · rw [if_neg c3] at h
      refine ax_gf c3 s4 ?_
      obtain ⟨r6, q5, h⟩ := ax_b_of h
      have s10 : ∀ n, ax_ex (e + 2) L_X0_zone 8 [none, some (.inl v1), some (.inr (.inl v2)), none, some (.inl v4)] [] m (n + 3) = ax_aft (fun s m2 => ax_ex (e + 2) L_X0_zone 11 [none, some (.inl v1), some (.inr (.inl v2)), none, some (.inl v4)] s m2 n) [.inr (.inl v2)] (ax_ex (e + 1) L_X0_leftAndRight 0 (ax_entry [.inr (.inl v2)] 2) [] m n) := fun n => rfl
      refine ax_gcl (j := 3) (k2 := 11) (lv2 := [none, some (.inl v1), some (.inr (.inl v2)), none, some (.inl v4)]) (rest := [.inr (.inl v2)]) ((R_X0_leftAndRight (by omega) q5)) s10 ?_
      obtain ⟨r8, q7, h⟩ := ax_b_of h
      have s9 : ∀ n, ax_ex (e + 2) L_X0_zone 11 [none, some (.inl v1), some (.inr (.inl v2)), none, some (.inl v4)] [.inr (.inl r6), .inr (.inl v2)] m (n + 5) = ax_aft (fun s m2 => ax_ex (e + 2) L_X0_zone 16 [none, some (.inl v1), some (.inr (.inl (v2 ||| r6))), none, some (.inl v4)] s m2 n) [.inr (.inl (v2 ||| r6))] (ax_ex (e + 1) L_X0_upAndDown 0 (ax_entry [.inr (.inl (v2 ||| r6))] 2) [] m n) := fun n => rfl
      refine ax_gcl (j := 5) (k2 := 16) (lv2 := [none, some (.inl v1), some (.inr (.inl (v2 ||| r6))), none, some (.inl v4)]) (rest := [.inr (.inl (v2 ||| r6))]) ((R_X0_upAndDown (by omega) q7)) s9 ?_
      refine ax_go (j := 4) (k2 := 5) (lv2 := [none, some (.inl v1), some (.inr (.inl ((v2 ||| r6) ||| r8))), none, some (.inl (v4 + 1))]) (st2 := []) (m2 := m) (fun n => rfl) ?_
      exact ax_fg (lv2 := [none, some (.inl v1), some (.inr (.inl ((v2 ||| r6) ||| r8))), none, some (.inl (v4 + 1))]) ⟨rfl, rfl, rfl, trivial⟩ (ih ((v2 ||| r6) ||| r8) (v4 + 1) _ h)
def F_X0_zone (v0 : Int32) (v1 : Int32) : Option Int64 := ax_b (F_X0_bit v0) (fun r2 => F_X0_zone_L5 ax_FU v1 r2 0)
set_option maxRecDepth 20000 in
set_option maxHeartbeats 4000000 in
theorem R_X0_zone {d : Nat} (hd : 2 ≤ d) {m : ax_M} {v0 : Int32} {v1 : Int32} {q : Int64} (h : F_X0_zone v0 v1 = some q) : ax_Ru d L_X0_zone 0 (ax_entry [.inl v0, .inl v1] 5) [] m (some (.inr (.inl q)), m) := by
  obtain ⟨e, rfl⟩ : ∃ e, d = e + 2 := ⟨d - 2, by omega⟩
  unfold F_X0_zone at h
  obtain ⟨r2, q1, h⟩ := ax_b_of h
  have s12 : ∀ n, ax_ex (e + 2) L_X0_zone 0 (ax_entry [.inl v0, .inl v1] 5) [] m (n + 2) = ax_aft (fun s m2 => ax_ex (e + 2) L_X0_zone 2 [some (.inl v0), some (.inl v1), none, none, none] s m2 n) [] (ax_ex (e + 1) L_X0_bit 0 (ax_entry [.inl v0] 1) [] m n) := fun n => rfl
  refine ax_gcl (j := 2) (k2 := 2) (lv2 := [some (.inl v0), some (.inl v1), none, none, none]) (rest := []) ((R_X0_bit (by omega) q1)) s12 ?_
  refine ax_go (j := 3) (k2 := 5) (lv2 := [some (.inl v0), some (.inl v1), some (.inr (.inl r2)), none, some (.inl 0)]) (st2 := []) (m2 := m) (fun n => rfl) ?_
  refine ax_fg (lv2 := [none, some (.inl v1), some (.inr (.inl r2)), none, some (.inl 0)]) ⟨rfl, rfl, rfl, trivial⟩ ?_
  refine R_X0_zone_L5 _ r2 0 _ h
def F_X0_after (v0 : Int32) (v1 : Int32) : Option Int32 := ax_b (F_X0_bit v0) (fun r2 => if v1 = 0 then (if (lg_cmp (ax_lushr r2 8) 0) = 0 then (some (-1)) else (ax_b (F_X0_lowest (ax_lushr r2 8)) (fun r9 => some r9))) else (if v1 = 1 then (if (lg_cmp (ax_lshl r2 8) 0) = 0 then (some (-1)) else (ax_b (F_X0_lowest (ax_lshl r2 8)) (fun r17 => some r17))) else (if v1 = 2 then (if (lg_cmp (ax_lushr (r2 &&& (-72340172838076674)) 1) 0) = 0 then (some (-1)) else (ax_b (F_X0_lowest (ax_lushr (r2 &&& (-72340172838076674)) 1)) (fun r25 => some r25))) else (if v1 = 3 then (if (lg_cmp (ax_lshl (r2 &&& 9187201950435737471) 1) 0) = 0 then (some (-1)) else (ax_b (F_X0_lowest (ax_lshl (r2 &&& 9187201950435737471) 1)) (fun r33 => some r33))) else (if (lg_cmp 0 0) = 0 then (some (-1)) else (ax_b (F_X0_lowest 0) (fun r39 => some r39)))))))
set_option maxRecDepth 20000 in
set_option maxHeartbeats 4000000 in
theorem R_X0_after {d : Nat} (hd : 3 ≤ d) {m : ax_M} {v0 : Int32} {v1 : Int32} {q : Int32} (h : F_X0_after v0 v1 = some q) : ax_Ru d L_X0_after 0 (ax_entry [.inl v0, .inl v1] 6) [] m (some (.inl q), m) := by
  obtain ⟨e, rfl⟩ : ∃ e, d = e + 3 := ⟨d - 3, by omega⟩
  unfold F_X0_after at h
  obtain ⟨r2, q1, h⟩ := ax_b_of h
  have s41 : ∀ n, ax_ex (e + 3) L_X0_after 0 (ax_entry [.inl v0, .inl v1] 6) [] m (n + 2) = ax_aft (fun s m2 => ax_ex (e + 3) L_X0_after 2 [some (.inl v0), some (.inl v1), none, none, none, none] s m2 n) [] (ax_ex (e + 2) L_X0_bit 0 (ax_entry [.inl v0] 1) [] m n) := fun n => rfl
  refine ax_gcl (j := 2) (k2 := 2) (lv2 := [some (.inl v0), some (.inl v1), none, none, none, none]) (rest := []) ((R_X0_bit (by omega) q1)) s41 ?_
  have s4 : ∀ n, ax_ex (e + 3) L_X0_after 2 [some (.inl v0), some (.inl v1), none, none, none, none] [.inr (.inl r2)] m (n + 5) = if v1 = 0 then ax_ex (e + 3) L_X0_after 7 [some (.inl v0), some (.inl v1), some (.inr (.inl r2)), none, some (.inr (.inl 0)), none] [] m n else ax_ex (e + 3) L_X0_after 12 [some (.inl v0), some (.inl v1), some (.inr (.inl r2)), none, some (.inr (.inl 0)), none] [] m n := fun n => rfl
  by_cases c3 : v1 = 0
  · rw [if_pos c3] at h
    refine ax_gt c3 s4 ?_
    refine ax_go (j := 8) (k2 := 42) (lv2 := [some (.inl v0), some (.inl v1), some (.inr (.inl r2)), none, some (.inr (.inl (ax_lushr r2 8))), none]) (st2 := [.inl (lg_cmp (ax_lushr r2 8) 0)]) (m2 := m) (fun n => rfl) ?_
    obtain ⟨y5, hy5⟩ : ∃ y : Int32, y = (lg_cmp (ax_lushr r2 8) 0) := ⟨_, rfl⟩
    rw [← hy5] at h ⊢
    have s7 : ∀ n, ax_ex (e + 3) L_X0_after 42 [some (.inl v0), some (.inl v1), some (.inr (.inl r2)), none, some (.inr (.inl (ax_lushr r2 8))), none] [.inl y5] m (n + 1) = if y5 = 0 then ax_ex (e + 3) L_X0_after 43 [some (.inl v0), some (.inl v1), some (.inr (.inl r2)), none, some (.inr (.inl (ax_lushr r2 8))), none] [] m n else ax_ex (e + 3) L_X0_after 45 [some (.inl v0), some (.inl v1), some (.inr (.inl r2)), none, some (.inr (.inl (ax_lushr r2 8))), none] [] m n := fun n => rfl
    by_cases c6 : y5 = 0
    · rw [if_pos c6] at h
      refine ax_gt c6 s7 ?_
      obtain rfl := Option.some.inj h
      exact ax_rs 3 (fun n => rfl)
    · rw [if_neg c6] at h
      refine ax_gf c6 s7 ?_
      obtain ⟨r9, q8, h⟩ := ax_b_of h
      have s10 : ∀ n, ax_ex (e + 3) L_X0_after 45 [some (.inl v0), some (.inl v1), some (.inr (.inl r2)), none, some (.inr (.inl (ax_lushr r2 8))), none] [] m (n + 2) = ax_aft (fun s m2 => ax_ex (e + 3) L_X0_after 47 [some (.inl v0), some (.inl v1), some (.inr (.inl r2)), none, some (.inr (.inl (ax_lushr r2 8))), none] s m2 n) [] (ax_ex (e + 2) L_X0_lowest 0 (ax_entry [.inr (.inl (ax_lushr r2 8))] 2) [] m n) := fun n => rfl
      refine ax_gci (j := 2) (k2 := 47) (lv2 := [some (.inl v0), some (.inl v1), some (.inr (.inl r2)), none, some (.inr (.inl (ax_lushr r2 8))), none]) (rest := []) ((R_X0_lowest (by omega) q8)) s10 ?_
      obtain rfl := Option.some.inj h
      exact ax_rs 1 (fun n => rfl)
  · rw [if_neg c3] at h
    refine ax_gf c3 s4 ?_
    have s12 : ∀ n, ax_ex (e + 3) L_X0_after 12 [some (.inl v0), some (.inl v1), some (.inr (.inl r2)), none, some (.inr (.inl 0)), none] [] m (n + 3) = if v1 = 1 then ax_ex (e + 3) L_X0_after 15 [some (.inl v0), some (.inl v1), some (.inr (.inl r2)), none, some (.inr (.inl 0)), none] [] m n else ax_ex (e + 3) L_X0_after 20 [some (.inl v0), some (.inl v1), some (.inr (.inl r2)), none, some (.inr (.inl 0)), none] [] m n := fun n => rfl
    by_cases c11 : v1 = 1
    · rw [if_pos c11] at h
      refine ax_gt c11 s12 ?_
      refine ax_go (j := 8) (k2 := 42) (lv2 := [some (.inl v0), some (.inl v1), some (.inr (.inl r2)), none, some (.inr (.inl (ax_lshl r2 8))), none]) (st2 := [.inl (lg_cmp (ax_lshl r2 8) 0)]) (m2 := m) (fun n => rfl) ?_
      obtain ⟨y13, hy13⟩ : ∃ y : Int32, y = (lg_cmp (ax_lshl r2 8) 0) := ⟨_, rfl⟩
      rw [← hy13] at h ⊢
      have s15 : ∀ n, ax_ex (e + 3) L_X0_after 42 [some (.inl v0), some (.inl v1), some (.inr (.inl r2)), none, some (.inr (.inl (ax_lshl r2 8))), none] [.inl y13] m (n + 1) = if y13 = 0 then ax_ex (e + 3) L_X0_after 43 [some (.inl v0), some (.inl v1), some (.inr (.inl r2)), none, some (.inr (.inl (ax_lshl r2 8))), none] [] m n else ax_ex (e + 3) L_X0_after 45 [some (.inl v0), some (.inl v1), some (.inr (.inl r2)), none, some (.inr (.inl (ax_lshl r2 8))), none] [] m n := fun n => rfl
      by_cases c14 : y13 = 0
      · rw [if_pos c14] at h
        refine ax_gt c14 s15 ?_
        obtain rfl := Option.some.inj h
        exact ax_rs 3 (fun n => rfl)
      · rw [if_neg c14] at h
        refine ax_gf c14 s15 ?_
        obtain ⟨r17, q16, h⟩ := ax_b_of h
        have s18 : ∀ n, ax_ex (e + 3) L_X0_after 45 [some (.inl v0), some (.inl v1), some (.inr (.inl r2)), none, some (.inr (.inl (ax_lshl r2 8))), none] [] m (n + 2) = ax_aft (fun s m2 => ax_ex (e + 3) L_X0_after 47 [some (.inl v0), some (.inl v1), some (.inr (.inl r2)), none, some (.inr (.inl (ax_lshl r2 8))), none] s m2 n) [] (ax_ex (e + 2) L_X0_lowest 0 (ax_entry [.inr (.inl (ax_lshl r2 8))] 2) [] m n) := fun n => rfl
        refine ax_gci (j := 2) (k2 := 47) (lv2 := [some (.inl v0), some (.inl v1), some (.inr (.inl r2)), none, some (.inr (.inl (ax_lshl r2 8))), none]) (rest := []) ((R_X0_lowest (by omega) q16)) s18 ?_
        obtain rfl := Option.some.inj h
        exact ax_rs 1 (fun n => rfl)
    · rw [if_neg c11] at h
      refine ax_gf c11 s12 ?_
      have s20 : ∀ n, ax_ex (e + 3) L_X0_after 20 [some (.inl v0), some (.inl v1), some (.inr (.inl r2)), none, some (.inr (.inl 0)), none] [] m (n + 3) = if v1 = 2 then ax_ex (e + 3) L_X0_after 23 [some (.inl v0), some (.inl v1), some (.inr (.inl r2)), none, some (.inr (.inl 0)), none] [] m n else ax_ex (e + 3) L_X0_after 30 [some (.inl v0), some (.inl v1), some (.inr (.inl r2)), none, some (.inr (.inl 0)), none] [] m n := fun n => rfl
      by_cases c19 : v1 = 2
      · rw [if_pos c19] at h
        refine ax_gt c19 s20 ?_
        refine ax_go (j := 10) (k2 := 42) (lv2 := [some (.inl v0), some (.inl v1), some (.inr (.inl r2)), none, some (.inr (.inl (ax_lushr (r2 &&& (-72340172838076674)) 1))), none]) (st2 := [.inl (lg_cmp (ax_lushr (r2 &&& (-72340172838076674)) 1) 0)]) (m2 := m) (fun n => rfl) ?_
        obtain ⟨y21, hy21⟩ : ∃ y : Int32, y = (lg_cmp (ax_lushr (r2 &&& (-72340172838076674)) 1) 0) := ⟨_, rfl⟩
        rw [← hy21] at h ⊢
        have s23 : ∀ n, ax_ex (e + 3) L_X0_after 42 [some (.inl v0), some (.inl v1), some (.inr (.inl r2)), none, some (.inr (.inl (ax_lushr (r2 &&& (-72340172838076674)) 1))), none] [.inl y21] m (n + 1) = if y21 = 0 then ax_ex (e + 3) L_X0_after 43 [some (.inl v0), some (.inl v1), some (.inr (.inl r2)), none, some (.inr (.inl (ax_lushr (r2 &&& (-72340172838076674)) 1))), none] [] m n else ax_ex (e + 3) L_X0_after 45 [some (.inl v0), some (.inl v1), some (.inr (.inl r2)), none, some (.inr (.inl (ax_lushr (r2 &&& (-72340172838076674)) 1))), none] [] m n := fun n => rfl
        by_cases c22 : y21 = 0
        · rw [if_pos c22] at h
          refine ax_gt c22 s23 ?_
          obtain rfl := Option.some.inj h
          exact ax_rs 3 (fun n => rfl)
        · rw [if_neg c22] at h
          refine ax_gf c22 s23 ?_
          obtain ⟨r25, q24, h⟩ := ax_b_of h
          have s26 : ∀ n, ax_ex (e + 3) L_X0_after 45 [some (.inl v0), some (.inl v1), some (.inr (.inl r2)), none, some (.inr (.inl (ax_lushr (r2 &&& (-72340172838076674)) 1))), none] [] m (n + 2) = ax_aft (fun s m2 => ax_ex (e + 3) L_X0_after 47 [some (.inl v0), some (.inl v1), some (.inr (.inl r2)), none, some (.inr (.inl (ax_lushr (r2 &&& (-72340172838076674)) 1))), none] s m2 n) [] (ax_ex (e + 2) L_X0_lowest 0 (ax_entry [.inr (.inl (ax_lushr (r2 &&& (-72340172838076674)) 1))] 2) [] m n) := fun n => rfl
          refine ax_gci (j := 2) (k2 := 47) (lv2 := [some (.inl v0), some (.inl v1), some (.inr (.inl r2)), none, some (.inr (.inl (ax_lushr (r2 &&& (-72340172838076674)) 1))), none]) (rest := []) ((R_X0_lowest (by omega) q24)) s26 ?_
          obtain rfl := Option.some.inj h
          exact ax_rs 1 (fun n => rfl)
      · rw [if_neg c19] at h
        refine ax_gf c19 s20 ?_
        have s28 : ∀ n, ax_ex (e + 3) L_X0_after 30 [some (.inl v0), some (.inl v1), some (.inr (.inl r2)), none, some (.inr (.inl 0)), none] [] m (n + 3) = if v1 = 3 then ax_ex (e + 3) L_X0_after 33 [some (.inl v0), some (.inl v1), some (.inr (.inl r2)), none, some (.inr (.inl 0)), none] [] m n else ax_ex (e + 3) L_X0_after 39 [some (.inl v0), some (.inl v1), some (.inr (.inl r2)), none, some (.inr (.inl 0)), none] [] m n := fun n => rfl
        by_cases c27 : v1 = 3
        · rw [if_pos c27] at h
          refine ax_gt c27 s28 ?_
          refine ax_go (j := 9) (k2 := 42) (lv2 := [some (.inl v0), some (.inl v1), some (.inr (.inl r2)), none, some (.inr (.inl (ax_lshl (r2 &&& 9187201950435737471) 1))), none]) (st2 := [.inl (lg_cmp (ax_lshl (r2 &&& 9187201950435737471) 1) 0)]) (m2 := m) (fun n => rfl) ?_
          obtain ⟨y29, hy29⟩ : ∃ y : Int32, y = (lg_cmp (ax_lshl (r2 &&& 9187201950435737471) 1) 0) := ⟨_, rfl⟩
          rw [← hy29] at h ⊢
          have s31 : ∀ n, ax_ex (e + 3) L_X0_after 42 [some (.inl v0), some (.inl v1), some (.inr (.inl r2)), none, some (.inr (.inl (ax_lshl (r2 &&& 9187201950435737471) 1))), none] [.inl y29] m (n + 1) = if y29 = 0 then ax_ex (e + 3) L_X0_after 43 [some (.inl v0), some (.inl v1), some (.inr (.inl r2)), none, some (.inr (.inl (ax_lshl (r2 &&& 9187201950435737471) 1))), none] [] m n else ax_ex (e + 3) L_X0_after 45 [some (.inl v0), some (.inl v1), some (.inr (.inl r2)), none, some (.inr (.inl (ax_lshl (r2 &&& 9187201950435737471) 1))), none] [] m n := fun n => rfl
          by_cases c30 : y29 = 0
          · rw [if_pos c30] at h
            refine ax_gt c30 s31 ?_
            obtain rfl := Option.some.inj h
            exact ax_rs 3 (fun n => rfl)
          · rw [if_neg c30] at h
            refine ax_gf c30 s31 ?_
            obtain ⟨r33, q32, h⟩ := ax_b_of h
            have s34 : ∀ n, ax_ex (e + 3) L_X0_after 45 [some (.inl v0), some (.inl v1), some (.inr (.inl r2)), none, some (.inr (.inl (ax_lshl (r2 &&& 9187201950435737471) 1))), none] [] m (n + 2) = ax_aft (fun s m2 => ax_ex (e + 3) L_X0_after 47 [some (.inl v0), some (.inl v1), some (.inr (.inl r2)), none, some (.inr (.inl (ax_lshl (r2 &&& 9187201950435737471) 1))), none] s m2 n) [] (ax_ex (e + 2) L_X0_lowest 0 (ax_entry [.inr (.inl (ax_lshl (r2 &&& 9187201950435737471) 1))] 2) [] m n) := fun n => rfl
            refine ax_gci (j := 2) (k2 := 47) (lv2 := [some (.inl v0), some (.inl v1), some (.inr (.inl r2)), none, some (.inr (.inl (ax_lshl (r2 &&& 9187201950435737471) 1))), none]) (rest := []) ((R_X0_lowest (by omega) q32)) s34 ?_
            obtain rfl := Option.some.inj h
            exact ax_rs 1 (fun n => rfl)
        · rw [if_neg c27] at h
          refine ax_gf c27 s28 ?_
          refine ax_go (j := 3) (k2 := 42) (lv2 := [some (.inl v0), some (.inl v1), some (.inr (.inl r2)), none, some (.inr (.inl 0)), none]) (st2 := [.inl (lg_cmp 0 0)]) (m2 := m) (fun n => rfl) ?_
          obtain ⟨y35, hy35⟩ : ∃ y : Int32, y = (lg_cmp 0 0) := ⟨_, rfl⟩
          rw [← hy35] at h ⊢
          have s37 : ∀ n, ax_ex (e + 3) L_X0_after 42 [some (.inl v0), some (.inl v1), some (.inr (.inl r2)), none, some (.inr (.inl 0)), none] [.inl y35] m (n + 1) = if y35 = 0 then ax_ex (e + 3) L_X0_after 43 [some (.inl v0), some (.inl v1), some (.inr (.inl r2)), none, some (.inr (.inl 0)), none] [] m n else ax_ex (e + 3) L_X0_after 45 [some (.inl v0), some (.inl v1), some (.inr (.inl r2)), none, some (.inr (.inl 0)), none] [] m n := fun n => rfl
          by_cases c36 : y35 = 0
          · rw [if_pos c36] at h
            refine ax_gt c36 s37 ?_
            obtain rfl := Option.some.inj h
            exact ax_rs 3 (fun n => rfl)
          · rw [if_neg c36] at h
            refine ax_gf c36 s37 ?_
            obtain ⟨r39, q38, h⟩ := ax_b_of h
            have s40 : ∀ n, ax_ex (e + 3) L_X0_after 45 [some (.inl v0), some (.inl v1), some (.inr (.inl r2)), none, some (.inr (.inl 0)), none] [] m (n + 2) = ax_aft (fun s m2 => ax_ex (e + 3) L_X0_after 47 [some (.inl v0), some (.inl v1), some (.inr (.inl r2)), none, some (.inr (.inl 0)), none] s m2 n) [] (ax_ex (e + 2) L_X0_lowest 0 (ax_entry [.inr (.inl 0)] 2) [] m n) := fun n => rfl
            refine ax_gci (j := 2) (k2 := 47) (lv2 := [some (.inl v0), some (.inl v1), some (.inr (.inl r2)), none, some (.inr (.inl 0)), none]) (rest := []) ((R_X0_lowest (by omega) q38)) s40 ?_
            obtain rfl := Option.some.inj h
            exact ax_rs 1 (fun n => rfl)
def F_X1_covers_L40 (rec : ax_M → Int64 → Int32 → Int32 → Option (Int32 × ax_M)) : Nat → ax_M → Int64 → Int32 → Int32 → Int32 → Int32 → Option (Int32 × ax_M)
  | 0, _, _, _, _, _, _ => none
  | n + 1, m, v0, v3, v4, v5, v6 => if v5 < v6 then (some (0, m)) else (ax_b (F_X0_zone v6 1) (fun r18 => if (lg_cmp (r18 &&& v0) 0) = 0 then (F_X1_covers_L40 rec n m v0 v3 v4 v5 (v6 + 1)) else (if ax_ok v3 3 = true then (ax_b2 (rec (ax_ui m 19 0 v3.toNatClampNeg v6) (v0 &&& (r18 ^^^ (-1))) (v3 + 1) v4) (fun r25 m26 => if r25 = 0 then (F_X1_covers_L40 rec n m26 v0 v3 v4 v5 (v6 + 1)) else (some (1, m26)))) else (none))))
set_option maxRecDepth 20000 in
set_option maxHeartbeats 4000000 in
theorem R_X1_covers_L40 {e : Nat} {B : Nat} (hB : B + 1 ≤ e + 6) {rec : ax_M → Int64 → Int32 → Int32 → Option (Int32 × ax_M)} (hrec : ∀ (d : Nat), B ≤ d → ∀ (m : ax_M) (v0 : Int64) (v3 : Int32) (v4 : Int32) (q : (Int32 × ax_M)), rec m v0 v3 v4 = some q → ax_Ru d L_X1_covers 0 (ax_entry [.inr (.inl v0), .inr (.inr (19, 0)), .inl v3, .inl v4] 9) [] m (some (.inl q.1), q.2)) {v0 : Int64} {v3 : Int32} {v4 : Int32} {v5 : Int32} : ∀ (n : Nat) (m : ax_M) (v6 : Int32) (q : (Int32 × ax_M)), F_X1_covers_L40 rec n m v0 v3 v4 v5 v6 = some q → ax_Ru (e + 6) L_X1_covers 40 [some (.inr (.inl v0)), none, some (.inr (.inr (19, 0))), some (.inl v3), some (.inl v4), some (.inl v5), some (.inl v6), none, none] [] m (some (.inl q.1), q.2) := by
  intro n
  induction n with
  | zero =>
    intro m v6 q h
    cases h
  | succ n ih =>
    intro m v6 q h
    rw [F_X1_covers_L40] at h
    have s16 : ∀ n, ax_ex (e + 6) L_X1_covers 40 [some (.inr (.inl v0)), none, some (.inr (.inr (19, 0))), some (.inl v3), some (.inl v4), some (.inl v5), some (.inl v6), none, none] [] m (n + 3) = if v5 < v6 then ax_ex (e + 6) L_X1_covers 73 [some (.inr (.inl v0)), none, some (.inr (.inr (19, 0))), some (.inl v3), some (.inl v4), some (.inl v5), some (.inl v6), none, none] [] m n else ax_ex (e + 6) L_X1_covers 43 [some (.inr (.inl v0)), none, some (.inr (.inr (19, 0))), some (.inl v3), some (.inl v4), some (.inl v5), some (.inl v6), none, none] [] m n := fun n => rfl
    by_cases c15 : v5 < v6
    · rw [if_pos c15] at h
      refine ax_gt c15 s16 ?_
      obtain rfl := Option.some.inj h
      exact ax_rq (c := (0 : Int32) = 0 ∨ (0 : Int32) = 1) (j := 2) (by decide) (fun n => rfl)
    · rw [if_neg c15] at h
      refine ax_gf c15 s16 ?_
      obtain ⟨r18, q17, h⟩ := ax_b_of h
      have s30 : ∀ n, ax_ex (e + 6) L_X1_covers 43 [some (.inr (.inl v0)), none, some (.inr (.inr (19, 0))), some (.inl v3), some (.inl v4), some (.inl v5), some (.inl v6), none, none] [] m (n + 3) = ax_aft (fun s m2 => ax_ex (e + 6) L_X1_covers 46 [some (.inr (.inl v0)), none, some (.inr (.inr (19, 0))), some (.inl v3), some (.inl v4), some (.inl v5), some (.inl v6), none, none] s m2 n) [] (ax_ex (e + 5) L_X0_zone 0 (ax_entry [.inl v6, .inl 1] 5) [] m n) := fun n => rfl
      refine ax_gcl (j := 3) (k2 := 46) (lv2 := [some (.inr (.inl v0)), none, some (.inr (.inr (19, 0))), some (.inl v3), some (.inl v4), some (.inl v5), some (.inl v6), none, none]) (rest := []) ((R_X0_zone (by omega) q17)) s30 ?_
      refine ax_go (j := 6) (k2 := 52) (lv2 := [some (.inr (.inl v0)), none, some (.inr (.inr (19, 0))), some (.inl v3), some (.inl v4), some (.inl v5), some (.inl v6), some (.inr (.inl r18)), none]) (st2 := [.inl (lg_cmp (r18 &&& v0) 0)]) (m2 := m) (fun n => rfl) ?_
      obtain ⟨y19, hy19⟩ : ∃ y : Int32, y = (lg_cmp (r18 &&& v0) 0) := ⟨_, rfl⟩
      rw [← hy19] at h ⊢
      have s21 : ∀ n, ax_ex (e + 6) L_X1_covers 52 [some (.inr (.inl v0)), none, some (.inr (.inr (19, 0))), some (.inl v3), some (.inl v4), some (.inl v5), some (.inl v6), some (.inr (.inl r18)), none] [.inl y19] m (n + 1) = if y19 = 0 then ax_ex (e + 6) L_X1_covers 71 [some (.inr (.inl v0)), none, some (.inr (.inr (19, 0))), some (.inl v3), some (.inl v4), some (.inl v5), some (.inl v6), some (.inr (.inl r18)), none] [] m n else ax_ex (e + 6) L_X1_covers 53 [some (.inr (.inl v0)), none, some (.inr (.inr (19, 0))), some (.inl v3), some (.inl v4), some (.inl v5), some (.inl v6), some (.inr (.inl r18)), none] [] m n := fun n => rfl
      by_cases c20 : y19 = 0
      · rw [if_pos c20] at h
        refine ax_gt c20 s21 ?_
        refine ax_go (j := 2) (k2 := 40) (lv2 := [some (.inr (.inl v0)), none, some (.inr (.inr (19, 0))), some (.inl v3), some (.inl v4), some (.inl v5), some (.inl (v6 + 1)), some (.inr (.inl r18)), none]) (st2 := []) (m2 := m) (fun n => rfl) ?_
        exact ax_fg (lv2 := [some (.inr (.inl v0)), none, some (.inr (.inr (19, 0))), some (.inl v3), some (.inl v4), some (.inl v5), some (.inl (v6 + 1)), none, none]) ⟨rfl, rfl, rfl, rfl, rfl, rfl, trivial⟩ (ih m (v6 + 1) _ h)
      · rw [if_neg c20] at h
        refine ax_gf c20 s21 ?_
        have s23 : ∀ n, ax_ex (e + 6) L_X1_covers 53 [some (.inr (.inl v0)), none, some (.inr (.inr (19, 0))), some (.inl v3), some (.inl v4), some (.inl v5), some (.inl v6), some (.inr (.inl r18)), none] [] m (n + 4) = if ax_ok v3 3 = true then ax_ex (e + 6) L_X1_covers 57 [some (.inr (.inl v0)), none, some (.inr (.inr (19, 0))), some (.inl v3), some (.inl v4), some (.inl v5), some (.inl v6), some (.inr (.inl r18)), none] [] (ax_ui m 19 0 v3.toNatClampNeg v6) n else none := fun n => rfl
        by_cases c22 : ax_ok v3 3 = true
        · rw [if_pos c22] at h
          refine ax_gt c22 s23 ?_
          obtain ⟨r25, m26, q24, h⟩ := ax_b2_of h
          have s29 : ∀ n, ax_ex (e + 6) L_X1_covers 57 [some (.inr (.inl v0)), none, some (.inr (.inr (19, 0))), some (.inl v3), some (.inl v4), some (.inl v5), some (.inl v6), some (.inr (.inl r18)), none] [] (ax_ui m 19 0 v3.toNatClampNeg v6) (n + 11) = ax_aft (fun s m2 => ax_ex (e + 6) L_X1_covers 68 [some (.inr (.inl v0)), none, some (.inr (.inr (19, 0))), some (.inl v3), some (.inl v4), some (.inl v5), some (.inl v6), some (.inr (.inl r18)), none] s m2 n) [] (ax_ex (e + 5) L_X1_covers 0 (ax_entry [.inr (.inl (v0 &&& (r18 ^^^ (-1)))), .inr (.inr (19, 0)), .inl (v3 + 1), .inl v4] 9) [] (ax_ui m 19 0 v3.toNatClampNeg v6) n) := fun n => rfl
          refine ax_gci (j := 11) (k2 := 68) (lv2 := [some (.inr (.inl v0)), none, some (.inr (.inr (19, 0))), some (.inl v3), some (.inl v4), some (.inl v5), some (.inl v6), some (.inr (.inl r18)), none]) (rest := []) (hrec (e + 5) (by omega) (ax_ui m 19 0 v3.toNatClampNeg v6) (v0 &&& (r18 ^^^ (-1))) (v3 + 1) v4 _ q24) s29 ?_
          have s28 : ∀ n, ax_ex (e + 6) L_X1_covers 68 [some (.inr (.inl v0)), none, some (.inr (.inr (19, 0))), some (.inl v3), some (.inl v4), some (.inl v5), some (.inl v6), some (.inr (.inl r18)), none] [.inl r25] m26 (n + 1) = if r25 = 0 then ax_ex (e + 6) L_X1_covers 71 [some (.inr (.inl v0)), none, some (.inr (.inr (19, 0))), some (.inl v3), some (.inl v4), some (.inl v5), some (.inl v6), some (.inr (.inl r18)), none] [] m26 n else ax_ex (e + 6) L_X1_covers 69 [some (.inr (.inl v0)), none, some (.inr (.inr (19, 0))), some (.inl v3), some (.inl v4), some (.inl v5), some (.inl v6), some (.inr (.inl r18)), none] [] m26 n := fun n => rfl
          by_cases c27 : r25 = 0
          · rw [if_pos c27] at h
            refine ax_gt c27 s28 ?_
            refine ax_go (j := 2) (k2 := 40) (lv2 := [some (.inr (.inl v0)), none, some (.inr (.inr (19, 0))), some (.inl v3), some (.inl v4), some (.inl v5), some (.inl (v6 + 1)), some (.inr (.inl r18)), none]) (st2 := []) (m2 := m26) (fun n => rfl) ?_
            exact ax_fg (lv2 := [some (.inr (.inl v0)), none, some (.inr (.inr (19, 0))), some (.inl v3), some (.inl v4), some (.inl v5), some (.inl (v6 + 1)), none, none]) ⟨rfl, rfl, rfl, rfl, rfl, rfl, trivial⟩ (ih m26 (v6 + 1) _ h)
          · rw [if_neg c27] at h
            refine ax_gf c27 s28 ?_
            obtain rfl := Option.some.inj h
            exact ax_rq (c := (1 : Int32) = 0 ∨ (1 : Int32) = 1) (j := 2) (by decide) (fun n => rfl)
        · rw [if_neg c22] at h
          cases h
def F_X1_covers : Nat → ax_M → Int64 → Int32 → Int32 → Option (Int32 × ax_M)
  | 0, _, _, _, _ => none
  | i + 1, m, v0, v3, v4 => if v4 ≤ v3 then (if (lg_cmp v0 0) = 0 then (some (1, m)) else (some (0, m))) else (if v3 < 3 then (if (lg_cmp v0 0) = 0 then (some (0, m)) else (ax_b (F_X0_lowest v0) (fun r12 => if v3 = 0 then (F_X1_covers_L40 (F_X1_covers i) ax_FU m v0 v3 v4 (ax_min 63 (r12 + 9)) 0) else (if ax_ok (v3 - 1) 3 = true then (F_X1_covers_L40 (F_X1_covers i) ax_FU m v0 v3 v4 (ax_min 63 (r12 + 9)) ((m.1 19 0 (v3 - 1).toNatClampNeg) + 1)) else (none))))) else (if (lg_cmp v0 0) = 0 then (some (1, m)) else (some (0, m))))
set_option maxRecDepth 20000 in
set_option maxHeartbeats 4000000 in
theorem R_X1_covers : ∀ (i d : Nat), i + 6 ≤ d → ∀ (m : ax_M) (v0 : Int64) (v3 : Int32) (v4 : Int32) (q : (Int32 × ax_M)), F_X1_covers i m v0 v3 v4 = some q → ax_Ru d L_X1_covers 0 (ax_entry [.inr (.inl v0), .inr (.inr (19, 0)), .inl v3, .inl v4] 9) [] m (some (.inl q.1), q.2) := by
  intro i
  induction i with
  | zero =>
    intro d hd m v0 v3 v4 q h
    cases h
  | succ i hrec =>
    intro d hd m v0 v3 v4 q h
    obtain ⟨e, rfl⟩ : ∃ e, d = e + 6 := ⟨d - 6, by omega⟩
    have hB : i + 6 + 1 ≤ e + 6 := by omega
    rw [F_X1_covers] at h
    have s2 : ∀ n, ax_ex (e + 6) L_X1_covers 0 (ax_entry [.inr (.inl v0), .inr (.inr (19, 0)), .inl v3, .inl v4] 9) [] m (n + 3) = if v4 ≤ v3 then ax_ex (e + 6) L_X1_covers 7 [some (.inr (.inl v0)), none, some (.inr (.inr (19, 0))), some (.inl v3), some (.inl v4), none, none, none, none] [] m n else ax_ex (e + 6) L_X1_covers 3 [some (.inr (.inl v0)), none, some (.inr (.inr (19, 0))), some (.inl v3), some (.inl v4), none, none, none, none] [] m n := fun n => rfl
    by_cases c1 : v4 ≤ v3
    · rw [if_pos c1] at h
      refine ax_gt c1 s2 ?_
      refine ax_go (j := 3) (k2 := 10) (lv2 := [some (.inr (.inl v0)), none, some (.inr (.inr (19, 0))), some (.inl v3), some (.inl v4), none, none, none, none]) (st2 := [.inl (lg_cmp v0 0)]) (m2 := m) (fun n => rfl) ?_
      obtain ⟨y3, hy3⟩ : ∃ y : Int32, y = (lg_cmp v0 0) := ⟨_, rfl⟩
      rw [← hy3] at h ⊢
      have s5 : ∀ n, ax_ex (e + 6) L_X1_covers 10 [some (.inr (.inl v0)), none, some (.inr (.inr (19, 0))), some (.inl v3), some (.inl v4), none, none, none, none] [.inl y3] m (n + 1) = if y3 = 0 then ax_ex (e + 6) L_X1_covers 11 [some (.inr (.inl v0)), none, some (.inr (.inr (19, 0))), some (.inl v3), some (.inl v4), none, none, none, none] [] m n else ax_ex (e + 6) L_X1_covers 13 [some (.inr (.inl v0)), none, some (.inr (.inr (19, 0))), some (.inl v3), some (.inl v4), none, none, none, none] [] m n := fun n => rfl
      by_cases c4 : y3 = 0
      · rw [if_pos c4] at h
        refine ax_gt c4 s5 ?_
        obtain rfl := Option.some.inj h
        exact ax_rq (c := (1 : Int32) = 0 ∨ (1 : Int32) = 1) (j := 3) (by decide) (fun n => rfl)
      · rw [if_neg c4] at h
        refine ax_gf c4 s5 ?_
        obtain rfl := Option.some.inj h
        exact ax_rq (c := (0 : Int32) = 0 ∨ (0 : Int32) = 1) (j := 2) (by decide) (fun n => rfl)
    · rw [if_neg c1] at h
      refine ax_gf c1 s2 ?_
      have s7 : ∀ n, ax_ex (e + 6) L_X1_covers 3 [some (.inr (.inl v0)), none, some (.inr (.inr (19, 0))), some (.inl v3), some (.inl v4), none, none, none, none] [] m (n + 4) = if v3 < 3 then ax_ex (e + 6) L_X1_covers 15 [some (.inr (.inl v0)), none, some (.inr (.inr (19, 0))), some (.inl v3), some (.inl v4), none, none, none, none] [] m n else ax_ex (e + 6) L_X1_covers 7 [some (.inr (.inl v0)), none, some (.inr (.inr (19, 0))), some (.inl v3), some (.inl v4), none, none, none, none] [] m n := fun n => rfl
      by_cases c6 : v3 < 3
      · rw [if_pos c6] at h
        refine ax_gt c6 s7 ?_
        refine ax_go (j := 3) (k2 := 18) (lv2 := [some (.inr (.inl v0)), none, some (.inr (.inr (19, 0))), some (.inl v3), some (.inl v4), none, none, none, none]) (st2 := [.inl (lg_cmp v0 0)]) (m2 := m) (fun n => rfl) ?_
        obtain ⟨y8, hy8⟩ : ∃ y : Int32, y = (lg_cmp v0 0) := ⟨_, rfl⟩
        rw [← hy8] at h ⊢
        have s10 : ∀ n, ax_ex (e + 6) L_X1_covers 18 [some (.inr (.inl v0)), none, some (.inr (.inr (19, 0))), some (.inl v3), some (.inl v4), none, none, none, none] [.inl y8] m (n + 1) = if y8 = 0 then ax_ex (e + 6) L_X1_covers 19 [some (.inr (.inl v0)), none, some (.inr (.inr (19, 0))), some (.inl v3), some (.inl v4), none, none, none, none] [] m n else ax_ex (e + 6) L_X1_covers 21 [some (.inr (.inl v0)), none, some (.inr (.inr (19, 0))), some (.inl v3), some (.inl v4), none, none, none, none] [] m n := fun n => rfl
        by_cases c9 : y8 = 0
        · rw [if_pos c9] at h
          refine ax_gt c9 s10 ?_
          obtain rfl := Option.some.inj h
          exact ax_rq (c := (0 : Int32) = 0 ∨ (0 : Int32) = 1) (j := 2) (by decide) (fun n => rfl)
        · rw [if_neg c9] at h
          refine ax_gf c9 s10 ?_
          obtain ⟨r12, q11, h⟩ := ax_b_of h
          have s36 : ∀ n, ax_ex (e + 6) L_X1_covers 21 [some (.inr (.inl v0)), none, some (.inr (.inr (19, 0))), some (.inl v3), some (.inl v4), none, none, none, none] [] m (n + 3) = ax_aft (fun s m2 => ax_ex (e + 6) L_X1_covers 24 [some (.inr (.inl v0)), none, some (.inr (.inr (19, 0))), some (.inl v3), some (.inl v4), none, none, none, none] s m2 n) [.inl 63] (ax_ex (e + 5) L_X0_lowest 0 (ax_entry [.inr (.inl v0)] 2) [] m n) := fun n => rfl
          refine ax_gci (j := 3) (k2 := 24) (lv2 := [some (.inr (.inl v0)), none, some (.inr (.inr (19, 0))), some (.inl v3), some (.inl v4), none, none, none, none]) (rest := [.inl 63]) ((R_X0_lowest (by omega) q11)) s36 ?_
          have s14 : ∀ n, ax_ex (e + 6) L_X1_covers 24 [some (.inr (.inl v0)), none, some (.inr (.inr (19, 0))), some (.inl v3), some (.inl v4), none, none, none, none] [.inl r12, .inl 63] m (n + 6) = if v3 = 0 then ax_ex (e + 6) L_X1_covers 30 [some (.inr (.inl v0)), none, some (.inr (.inr (19, 0))), some (.inl v3), some (.inl v4), some (.inl (ax_min 63 (r12 + 9))), none, none, none] [] m n else ax_ex (e + 6) L_X1_covers 32 [some (.inr (.inl v0)), none, some (.inr (.inr (19, 0))), some (.inl v3), some (.inl v4), some (.inl (ax_min 63 (r12 + 9))), none, none, none] [] m n := fun n => rfl
          by_cases c13 : v3 = 0
          · rw [if_pos c13] at h
            refine ax_gt c13 s14 ?_
            refine ax_go (j := 3) (k2 := 40) (lv2 := [some (.inr (.inl v0)), none, some (.inr (.inr (19, 0))), some (.inl v3), some (.inl v4), some (.inl (ax_min 63 (r12 + 9))), some (.inl 0), none, none]) (st2 := []) (m2 := m) (fun n => rfl) ?_
            refine ax_fg (lv2 := [some (.inr (.inl v0)), none, some (.inr (.inr (19, 0))), some (.inl v3), some (.inl v4), some (.inl (ax_min 63 (r12 + 9))), some (.inl 0), none, none]) ⟨rfl, rfl, rfl, rfl, rfl, rfl, trivial⟩ ?_
            refine R_X1_covers_L40 hB hrec _ m 0 _ h
          · rw [if_neg c13] at h
            refine ax_gf c13 s14 ?_
            refine ax_go (j := 4) (k2 := 36) (lv2 := [some (.inr (.inl v0)), none, some (.inr (.inr (19, 0))), some (.inl v3), some (.inl v4), some (.inl (ax_min 63 (r12 + 9))), none, none, none]) (st2 := [.inl (v3 - 1), .inr (.inr (19, 0))]) (m2 := m) (fun n => rfl) ?_
            obtain ⟨y32, hy32⟩ : ∃ y : Int32, y = (v3 - 1) := ⟨_, rfl⟩
            rw [← hy32] at h ⊢
            have s34 : ∀ n, ax_ex (e + 6) L_X1_covers 36 [some (.inr (.inl v0)), none, some (.inr (.inr (19, 0))), some (.inl v3), some (.inl v4), some (.inl (ax_min 63 (r12 + 9))), none, none, none] [.inl y32, .inr (.inr (19, 0))] m (n + 1) = if ax_ok y32 3 = true then ax_ex (e + 6) L_X1_covers 37 [some (.inr (.inl v0)), none, some (.inr (.inr (19, 0))), some (.inl v3), some (.inl v4), some (.inl (ax_min 63 (r12 + 9))), none, none, none] [.inl (m.1 19 0 y32.toNatClampNeg)] m n else none := fun n => rfl
            by_cases c33 : ax_ok y32 3 = true
            · rw [if_pos c33] at h
              refine ax_gt c33 s34 ?_
              refine ax_go (j := 3) (k2 := 40) (lv2 := [some (.inr (.inl v0)), none, some (.inr (.inr (19, 0))), some (.inl v3), some (.inl v4), some (.inl (ax_min 63 (r12 + 9))), some (.inl ((m.1 19 0 y32.toNatClampNeg) + 1)), none, none]) (st2 := []) (m2 := m) (fun n => rfl) ?_
              refine ax_fg (lv2 := [some (.inr (.inl v0)), none, some (.inr (.inr (19, 0))), some (.inl v3), some (.inl v4), some (.inl (ax_min 63 (r12 + 9))), some (.inl ((m.1 19 0 y32.toNatClampNeg) + 1)), none, none]) ⟨rfl, rfl, rfl, rfl, rfl, rfl, trivial⟩ ?_
              refine R_X1_covers_L40 hB hrec _ m ((m.1 19 0 y32.toNatClampNeg) + 1) _ h
            · rw [if_neg c33] at h
              cases h
      · rw [if_neg c6] at h
        refine ax_gf c6 s7 ?_
        refine ax_go (j := 3) (k2 := 10) (lv2 := [some (.inr (.inl v0)), none, some (.inr (.inr (19, 0))), some (.inl v3), some (.inl v4), none, none, none, none]) (st2 := [.inl (lg_cmp v0 0)]) (m2 := m) (fun n => rfl) ?_
        obtain ⟨y37, hy37⟩ : ∃ y : Int32, y = (lg_cmp v0 0) := ⟨_, rfl⟩
        rw [← hy37] at h ⊢
        have s39 : ∀ n, ax_ex (e + 6) L_X1_covers 10 [some (.inr (.inl v0)), none, some (.inr (.inr (19, 0))), some (.inl v3), some (.inl v4), none, none, none, none] [.inl y37] m (n + 1) = if y37 = 0 then ax_ex (e + 6) L_X1_covers 11 [some (.inr (.inl v0)), none, some (.inr (.inr (19, 0))), some (.inl v3), some (.inl v4), none, none, none, none] [] m n else ax_ex (e + 6) L_X1_covers 13 [some (.inr (.inl v0)), none, some (.inr (.inr (19, 0))), some (.inl v3), some (.inl v4), none, none, none, none] [] m n := fun n => rfl
        by_cases c38 : y37 = 0
        · rw [if_pos c38] at h
          refine ax_gt c38 s39 ?_
          obtain rfl := Option.some.inj h
          exact ax_rq (c := (1 : Int32) = 0 ∨ (1 : Int32) = 1) (j := 3) (by decide) (fun n => rfl)
        · rw [if_neg c38] at h
          refine ax_gf c38 s39 ?_
          obtain rfl := Option.some.inj h
          exact ax_rq (c := (0 : Int32) = 0 ∨ (0 : Int32) = 1) (j := 2) (by decide) (fun n => rfl)
def F_X1_find_L2 : Nat → ax_M → Int64 → Int32 → Option (Int32 × ax_M)
  | 0, _, _, _ => none
  | n + 1, m, v1, v3 => if 3 < v3 then (some ((-1), m)) else (ax_b2 (F_X1_covers 12 m v1 0 v3) (fun r4 m5 => if r4 = 0 then (F_X1_find_L2 n m5 v1 (v3 + 1)) else (some (v3, m5))))
set_option maxRecDepth 20000 in
set_option maxHeartbeats 4000000 in
theorem R_X1_find_L2 {e : Nat} {v1 : Int64} : ∀ (n : Nat) (m : ax_M) (v3 : Int32) (q : (Int32 × ax_M)), F_X1_find_L2 n m v1 v3 = some q → ax_Ru (e + 19) L_X1_find 2 [some (.inr (.inr (18, 0))), some (.inr (.inl v1)), none, some (.inl v3)] [] m (some (.inl q.1), q.2) := by
  intro n
  induction n with
  | zero =>
    intro m v3 q h
    cases h
  | succ n ih =>
    intro m v3 q h
    rw [F_X1_find_L2] at h
    have s2 : ∀ n, ax_ex (e + 19) L_X1_find 2 [some (.inr (.inr (18, 0))), some (.inr (.inl v1)), none, some (.inl v3)] [] m (n + 3) = if 3 < v3 then ax_ex (e + 19) L_X1_find 16 [some (.inr (.inr (18, 0))), some (.inr (.inl v1)), none, some (.inl v3)] [] m n else ax_ex (e + 19) L_X1_find 5 [some (.inr (.inr (18, 0))), some (.inr (.inl v1)), none, some (.inl v3)] [] m n := fun n => rfl
    by_cases c1 : 3 < v3
    · rw [if_pos c1] at h
      refine ax_gt c1 s2 ?_
      obtain rfl := Option.some.inj h
      exact ax_rs 2 (fun n => rfl)
    · rw [if_neg c1] at h
      refine ax_gf c1 s2 ?_
      obtain ⟨r4, m5, q3, h⟩ := ax_b2_of h
      have s8 : ∀ n, ax_ex (e + 19) L_X1_find 5 [some (.inr (.inr (18, 0))), some (.inr (.inl v1)), none, some (.inl v3)] [] m (n + 6) = ax_aft (fun s m2 => ax_ex (e + 19) L_X1_find 11 [some (.inr (.inr (18, 0))), some (.inr (.inl v1)), none, some (.inl v3)] s m2 n) [] (ax_ex (e + 18) L_X1_covers 0 (ax_entry [.inr (.inl v1), .inr (.inr (19, 0)), .inl 0, .inl v3] 9) [] m n) := fun n => rfl
      refine ax_gci (j := 6) (k2 := 11) (lv2 := [some (.inr (.inr (18, 0))), some (.inr (.inl v1)), none, some (.inl v3)]) (rest := []) ((R_X1_covers 12 (e + 18) (by omega) m v1 0 v3 _ q3)) s8 ?_
      have s7 : ∀ n, ax_ex (e + 19) L_X1_find 11 [some (.inr (.inr (18, 0))), some (.inr (.inl v1)), none, some (.inl v3)] [.inl r4] m5 (n + 1) = if r4 = 0 then ax_ex (e + 19) L_X1_find 14 [some (.inr (.inr (18, 0))), some (.inr (.inl v1)), none, some (.inl v3)] [] m5 n else ax_ex (e + 19) L_X1_find 12 [some (.inr (.inr (18, 0))), some (.inr (.inl v1)), none, some (.inl v3)] [] m5 n := fun n => rfl
      by_cases c6 : r4 = 0
      · rw [if_pos c6] at h
        refine ax_gt c6 s7 ?_
        refine ax_go (j := 2) (k2 := 2) (lv2 := [some (.inr (.inr (18, 0))), some (.inr (.inl v1)), none, some (.inl (v3 + 1))]) (st2 := []) (m2 := m5) (fun n => rfl) ?_
        exact ax_fg (lv2 := [some (.inr (.inr (18, 0))), some (.inr (.inl v1)), none, some (.inl (v3 + 1))]) ⟨rfl, rfl, rfl, trivial⟩ (ih m5 (v3 + 1) _ h)
      · rw [if_neg c6] at h
        refine ax_gf c6 s7 ?_
        obtain rfl := Option.some.inj h
        exact ax_rs 2 (fun n => rfl)
def F_X1_find (m : ax_M) (v1 : Int64) : Option (Int32 × ax_M) := F_X1_find_L2 ax_FU m v1 0
set_option maxRecDepth 20000 in
set_option maxHeartbeats 4000000 in
theorem R_X1_find {d : Nat} (hd : 19 ≤ d) {m : ax_M} {v1 : Int64} {q : (Int32 × ax_M)} (h : F_X1_find m v1 = some q) : ax_Ru d L_X1_find 0 (ax_entry [.inr (.inr (18, 0)), .inr (.inl v1)] 4) [] m (some (.inl q.1), q.2) := by
  obtain ⟨e, rfl⟩ : ∃ e, d = e + 19 := ⟨d - 19, by omega⟩
  unfold F_X1_find at h
  refine ax_go (j := 2) (k2 := 2) (lv2 := [some (.inr (.inr (18, 0))), some (.inr (.inl v1)), none, some (.inl 0)]) (st2 := []) (m2 := m) (fun n => rfl) ?_
  refine ax_fg (lv2 := [some (.inr (.inr (18, 0))), some (.inr (.inl v1)), none, some (.inl 0)]) ⟨rfl, rfl, rfl, trivial⟩ ?_
  refine R_X1_find_L2 _ m 0 _ h
def F_X2_become (m : ax_M) (g0 : Nat) (g1 : Nat) : Option ax_M := some (ax_cpi m 4 g1 4 g0 (0 : Int32).toNatClampNeg (0 : Int32).toNatClampNeg (64 : Int32).toNatClampNeg)
set_option maxRecDepth 20000 in
set_option maxHeartbeats 4000000 in
theorem R_X2_become {d : Nat} (hd : 6 ≤ d) {m : ax_M} {g0 : Nat} {g1 : Nat} {q : ax_M} (h : F_X2_become m g0 g1 = some q) : ax_Ru d L_X2_become 0 (ax_entry [.inr (.inr (3, g0)), .inr (.inr (3, g1))] 2) [] m (none, q) := by
  obtain ⟨e, rfl⟩ : ∃ e, d = e + 6 := ⟨d - 6, by omega⟩
  unfold F_X2_become at h
  have s2 : ∀ n, ax_ex (e + 6) L_X2_become 0 (ax_entry [.inr (.inr (3, g0)), .inr (.inr (3, g1))] 2) [] m (n + 10) = ax_aft (fun s m2 => ax_ex (e + 6) L_X2_become 10 [some (.inr (.inr (3, g0))), some (.inr (.inr (3, g1)))] s m2 n) [] (if 0 ≤ (0 : Int32).toInt ∧ 0 ≤ (0 : Int32).toInt ∧ 0 ≤ (64 : Int32).toInt ∧ (0 : Int32).toInt + (64 : Int32).toInt ≤ 64 ∧ (0 : Int32).toInt + (64 : Int32).toInt ≤ 64 then some (none, (ax_cpi m 4 g1 4 g0 (0 : Int32).toNatClampNeg (0 : Int32).toNatClampNeg (64 : Int32).toNatClampNeg)) else none) := fun n => rfl
  refine ax_go (j := 10) (k2 := 10) (lv2 := [some (.inr (.inr (3, g0))), some (.inr (.inr (3, g1)))]) (st2 := []) (m2 := (ax_cpi m 4 g1 4 g0 (0 : Int32).toNatClampNeg (0 : Int32).toNatClampNeg (64 : Int32).toNatClampNeg)) (fun n => by rw [s2 n, if_pos (by decide)]; rfl) ?_
  obtain rfl := Option.some.inj h
  exact ax_rs 1 (fun n => rfl)
def F_X2_of (m : ax_M) (g0 : Nat) (v1 : Int32) (v2 : Int32) : Option Int32 := if ax_ok ((v1 * 8) + v2) 64 = true then (some (m.1 4 g0 ((v1 * 8) + v2).toNatClampNeg)) else (none)
set_option maxRecDepth 20000 in
set_option maxHeartbeats 4000000 in
theorem R_X2_of {d : Nat} (hd : 1 ≤ d) {m : ax_M} {g0 : Nat} {v1 : Int32} {v2 : Int32} {q : Int32} (h : F_X2_of m g0 v1 v2 = some q) : ax_Ru d L_X2_of 0 (ax_entry [.inr (.inr (3, g0)), .inl v1, .inl v2] 3) [] m (some (.inl q), m) := by
  obtain ⟨e, rfl⟩ : ∃ e, d = e + 1 := ⟨d - 1, by omega⟩
  unfold F_X2_of at h
  refine ax_go (j := 7) (k2 := 7) (lv2 := [some (.inr (.inr (3, g0))), some (.inl v1), some (.inl v2)]) (st2 := [.inl ((v1 * 8) + v2), .inr (.inr (4, g0))]) (m2 := m) (fun n => rfl) ?_
  obtain ⟨y1, hy1⟩ : ∃ y : Int32, y = ((v1 * 8) + v2) := ⟨_, rfl⟩
  rw [← hy1] at h ⊢
  have s3 : ∀ n, ax_ex (e + 1) L_X2_of 7 [some (.inr (.inr (3, g0))), some (.inl v1), some (.inl v2)] [.inl y1, .inr (.inr (4, g0))] m (n + 1) = if ax_ok y1 64 = true then ax_ex (e + 1) L_X2_of 8 [some (.inr (.inr (3, g0))), some (.inl v1), some (.inl v2)] [.inl (m.1 4 g0 y1.toNatClampNeg)] m n else none := fun n => rfl
  by_cases c2 : ax_ok y1 64 = true
  · rw [if_pos c2] at h
    refine ax_gt c2 s3 ?_
    obtain rfl := Option.some.inj h
    exact ax_rs 1 (fun n => rfl)
  · rw [if_neg c2] at h
    cases h
def F_X2_put (m : ax_M) (g0 : Nat) (v1 : Int32) (v2 : Int32) (v3 : Int32) : Option ax_M := if ax_ok ((v1 * 8) + v2) 64 = true then (some (ax_ui m 4 g0 ((v1 * 8) + v2).toNatClampNeg v3)) else (none)
set_option maxRecDepth 20000 in
set_option maxHeartbeats 4000000 in
theorem R_X2_put {d : Nat} (hd : 1 ≤ d) {m : ax_M} {g0 : Nat} {v1 : Int32} {v2 : Int32} {v3 : Int32} {q : ax_M} (h : F_X2_put m g0 v1 v2 v3 = some q) : ax_Ru d L_X2_put 0 (ax_entry [.inr (.inr (3, g0)), .inl v1, .inl v2, .inl v3] 4) [] m (none, q) := by
  obtain ⟨e, rfl⟩ : ∃ e, d = e + 1 := ⟨d - 1, by omega⟩
  unfold F_X2_put at h
  refine ax_go (j := 8) (k2 := 8) (lv2 := [some (.inr (.inr (3, g0))), some (.inl v1), some (.inl v2), some (.inl v3)]) (st2 := [.inl v3, .inl ((v1 * 8) + v2), .inr (.inr (4, g0))]) (m2 := m) (fun n => rfl) ?_
  obtain ⟨y1, hy1⟩ : ∃ y : Int32, y = ((v1 * 8) + v2) := ⟨_, rfl⟩
  rw [← hy1] at h ⊢
  have s3 : ∀ n, ax_ex (e + 1) L_X2_put 8 [some (.inr (.inr (3, g0))), some (.inl v1), some (.inl v2), some (.inl v3)] [.inl v3, .inl y1, .inr (.inr (4, g0))] m (n + 1) = if ax_ok y1 64 = true then ax_ex (e + 1) L_X2_put 9 [some (.inr (.inr (3, g0))), some (.inl v1), some (.inl v2), some (.inl v3)] [] (ax_ui m 4 g0 y1.toNatClampNeg v3) n else none := fun n => rfl
  by_cases c2 : ax_ok y1 64 = true
  · rw [if_pos c2] at h
    refine ax_gt c2 s3 ?_
    obtain rfl := Option.some.inj h
    exact ax_rs 1 (fun n => rfl)
  · rw [if_neg c2] at h
    cases h
def F_X2_owedBy_L4 : Nat → ax_M → Nat → Int32 → Int32 → Int32 → Option Int32
  | 0, _, _, _, _, _ => none
  | n + 1, m, g0, v1, v2, v3 => if 8 ≤ v3 then (some v2) else (ax_b (F_X2_of m g0 v1 v3) (fun r4 => F_X2_owedBy_L4 n m g0 v1 (v2 + r4) (v3 + 1)))
set_option maxRecDepth 20000 in
set_option maxHeartbeats 4000000 in
theorem R_X2_owedBy_L4 {e : Nat} {m : ax_M} {g0 : Nat} {v1 : Int32} : ∀ (n : Nat) (v2 : Int32) (v3 : Int32) (q : Int32), F_X2_owedBy_L4 n m g0 v1 v2 v3 = some q → ax_Ru (e + 2) L_X2_owedBy 4 [some (.inr (.inr (3, g0))), some (.inl v1), some (.inl v2), some (.inl v3)] [] m (some (.inl q), m) := by
  intro n
  induction n with
  | zero =>
    intro v2 v3 q h
    cases h
  | succ n ih =>
    intro v2 v3 q h
    rw [F_X2_owedBy_L4] at h
    have s2 : ∀ n, ax_ex (e + 2) L_X2_owedBy 4 [some (.inr (.inr (3, g0))), some (.inl v1), some (.inl v2), some (.inl v3)] [] m (n + 3) = if 8 ≤ v3 then ax_ex (e + 2) L_X2_owedBy 16 [some (.inr (.inr (3, g0))), some (.inl v1), some (.inl v2), some (.inl v3)] [] m n else ax_ex (e + 2) L_X2_owedBy 7 [some (.inr (.inr (3, g0))), some (.inl v1), some (.inl v2), some (.inl v3)] [] m n := fun n => rfl
    by_cases c1 : 8 ≤ v3
    · rw [if_pos c1] at h
      refine ax_gt c1 s2 ?_
      obtain rfl := Option.some.inj h
      exact ax_rs 2 (fun n => rfl)
    · rw [if_neg c1] at h
      refine ax_gf c1 s2 ?_
      obtain ⟨r4, q3, h⟩ := ax_b_of h
      have s5 : ∀ n, ax_ex (e + 2) L_X2_owedBy 7 [some (.inr (.inr (3, g0))), some (.inl v1), some (.inl v2), some (.inl v3)] [] m (n + 5) = ax_aft (fun s m2 => ax_ex (e + 2) L_X2_owedBy 12 [some (.inr (.inr (3, g0))), some (.inl v1), some (.inl v2), some (.inl v3)] s m2 n) [.inl v2] (ax_ex (e + 1) L_X2_of 0 (ax_entry [.inr (.inr (3, g0)), .inl v1, .inl v3] 3) [] m n) := fun n => rfl
      refine ax_gci (j := 5) (k2 := 12) (lv2 := [some (.inr (.inr (3, g0))), some (.inl v1), some (.inl v2), some (.inl v3)]) (rest := [.inl v2]) ((R_X2_of (by omega) q3)) s5 ?_
      refine ax_go (j := 4) (k2 := 4) (lv2 := [some (.inr (.inr (3, g0))), some (.inl v1), some (.inl (v2 + r4)), some (.inl (v3 + 1))]) (st2 := []) (m2 := m) (fun n => rfl) ?_
      exact ax_fg (lv2 := [some (.inr (.inr (3, g0))), some (.inl v1), some (.inl (v2 + r4)), some (.inl (v3 + 1))]) ⟨rfl, rfl, rfl, rfl, trivial⟩ (ih (v2 + r4) (v3 + 1) _ h)
def F_X2_owedBy (m : ax_M) (g0 : Nat) (v1 : Int32) : Option Int32 := F_X2_owedBy_L4 ax_FU m g0 v1 0 0
set_option maxRecDepth 20000 in
set_option maxHeartbeats 4000000 in
theorem R_X2_owedBy {d : Nat} (hd : 2 ≤ d) {m : ax_M} {g0 : Nat} {v1 : Int32} {q : Int32} (h : F_X2_owedBy m g0 v1 = some q) : ax_Ru d L_X2_owedBy 0 (ax_entry [.inr (.inr (3, g0)), .inl v1] 4) [] m (some (.inl q), m) := by
  obtain ⟨e, rfl⟩ : ∃ e, d = e + 2 := ⟨d - 2, by omega⟩
  unfold F_X2_owedBy at h
  refine ax_go (j := 4) (k2 := 4) (lv2 := [some (.inr (.inr (3, g0))), some (.inl v1), some (.inl 0), some (.inl 0)]) (st2 := []) (m2 := m) (fun n => rfl) ?_
  refine ax_fg (lv2 := [some (.inr (.inr (3, g0))), some (.inl v1), some (.inl 0), some (.inl 0)]) ⟨rfl, rfl, rfl, rfl, trivial⟩ ?_
  refine R_X2_owedBy_L4 _ 0 0 _ h
def F_X2_owedTo_L4 : Nat → ax_M → Nat → Int32 → Int32 → Int32 → Option Int32
  | 0, _, _, _, _, _ => none
  | n + 1, m, g0, v1, v2, v3 => if 8 ≤ v3 then (some v2) else (ax_b (F_X2_of m g0 v3 v1) (fun r4 => F_X2_owedTo_L4 n m g0 v1 (v2 + r4) (v3 + 1)))
set_option maxRecDepth 20000 in
set_option maxHeartbeats 4000000 in
theorem R_X2_owedTo_L4 {e : Nat} {m : ax_M} {g0 : Nat} {v1 : Int32} : ∀ (n : Nat) (v2 : Int32) (v3 : Int32) (q : Int32), F_X2_owedTo_L4 n m g0 v1 v2 v3 = some q → ax_Ru (e + 2) L_X2_owedTo 4 [some (.inr (.inr (3, g0))), some (.inl v1), some (.inl v2), some (.inl v3)] [] m (some (.inl q), m) := by
  intro n
  induction n with
  | zero =>
    intro v2 v3 q h
    cases h
  | succ n ih =>
    intro v2 v3 q h
    rw [F_X2_owedTo_L4] at h
    have s2 : ∀ n, ax_ex (e + 2) L_X2_owedTo 4 [some (.inr (.inr (3, g0))), some (.inl v1), some (.inl v2), some (.inl v3)] [] m (n + 3) = if 8 ≤ v3 then ax_ex (e + 2) L_X2_owedTo 16 [some (.inr (.inr (3, g0))), some (.inl v1), some (.inl v2), some (.inl v3)] [] m n else ax_ex (e + 2) L_X2_owedTo 7 [some (.inr (.inr (3, g0))), some (.inl v1), some (.inl v2), some (.inl v3)] [] m n := fun n => rfl
    by_cases c1 : 8 ≤ v3
    · rw [if_pos c1] at h
      refine ax_gt c1 s2 ?_
      obtain rfl := Option.some.inj h
      exact ax_rs 2 (fun n => rfl)
    · rw [if_neg c1] at h
      refine ax_gf c1 s2 ?_
      obtain ⟨r4, q3, h⟩ := ax_b_of h
      have s5 : ∀ n, ax_ex (e + 2) L_X2_owedTo 7 [some (.inr (.inr (3, g0))), some (.inl v1), some (.inl v2), some (.inl v3)] [] m (n + 5) = ax_aft (fun s m2 => ax_ex (e + 2) L_X2_owedTo 12 [some (.inr (.inr (3, g0))), some (.inl v1), some (.inl v2), some (.inl v3)] s m2 n) [.inl v2] (ax_ex (e + 1) L_X2_of 0 (ax_entry [.inr (.inr (3, g0)), .inl v3, .inl v1] 3) [] m n) := fun n => rfl
      refine ax_gci (j := 5) (k2 := 12) (lv2 := [some (.inr (.inr (3, g0))), some (.inl v1), some (.inl v2), some (.inl v3)]) (rest := [.inl v2]) ((R_X2_of (by omega) q3)) s5 ?_
      refine ax_go (j := 4) (k2 := 4) (lv2 := [some (.inr (.inr (3, g0))), some (.inl v1), some (.inl (v2 + r4)), some (.inl (v3 + 1))]) (st2 := []) (m2 := m) (fun n => rfl) ?_
      exact ax_fg (lv2 := [some (.inr (.inr (3, g0))), some (.inl v1), some (.inl (v2 + r4)), some (.inl (v3 + 1))]) ⟨rfl, rfl, rfl, rfl, trivial⟩ (ih (v2 + r4) (v3 + 1) _ h)
def F_X2_owedTo (m : ax_M) (g0 : Nat) (v1 : Int32) : Option Int32 := F_X2_owedTo_L4 ax_FU m g0 v1 0 0
set_option maxRecDepth 20000 in
set_option maxHeartbeats 4000000 in
theorem R_X2_owedTo {d : Nat} (hd : 2 ≤ d) {m : ax_M} {g0 : Nat} {v1 : Int32} {q : Int32} (h : F_X2_owedTo m g0 v1 = some q) : ax_Ru d L_X2_owedTo 0 (ax_entry [.inr (.inr (3, g0)), .inl v1] 4) [] m (some (.inl q), m) := by
  obtain ⟨e, rfl⟩ : ∃ e, d = e + 2 := ⟨d - 2, by omega⟩
  unfold F_X2_owedTo at h
  refine ax_go (j := 4) (k2 := 4) (lv2 := [some (.inr (.inr (3, g0))), some (.inl v1), some (.inl 0), some (.inl 0)]) (st2 := []) (m2 := m) (fun n => rfl) ?_
  refine ax_fg (lv2 := [some (.inr (.inr (3, g0))), some (.inl v1), some (.inl 0), some (.inl 0)]) ⟨rfl, rfl, rfl, rfl, trivial⟩ ?_
  refine R_X2_owedTo_L4 _ 0 0 _ h
def F_X2_balance (m : ax_M) (g0 : Nat) (v1 : Int32) : Option Int32 := ax_b (F_X2_owedTo m g0 v1) (fun r2 => ax_b (F_X2_owedBy m g0 v1) (fun r4 => some (r2 - r4)))
set_option maxRecDepth 20000 in
set_option maxHeartbeats 4000000 in
theorem R_X2_balance {d : Nat} (hd : 3 ≤ d) {m : ax_M} {g0 : Nat} {v1 : Int32} {q : Int32} (h : F_X2_balance m g0 v1 = some q) : ax_Ru d L_X2_balance 0 (ax_entry [.inr (.inr (3, g0)), .inl v1] 2) [] m (some (.inl q), m) := by
  obtain ⟨e, rfl⟩ : ∃ e, d = e + 3 := ⟨d - 3, by omega⟩
  unfold F_X2_balance at h
  obtain ⟨r2, q1, h⟩ := ax_b_of h
  have s6 : ∀ n, ax_ex (e + 3) L_X2_balance 0 (ax_entry [.inr (.inr (3, g0)), .inl v1] 2) [] m (n + 3) = ax_aft (fun s m2 => ax_ex (e + 3) L_X2_balance 3 [some (.inr (.inr (3, g0))), some (.inl v1)] s m2 n) [] (ax_ex (e + 2) L_X2_owedTo 0 (ax_entry [.inr (.inr (3, g0)), .inl v1] 4) [] m n) := fun n => rfl
  refine ax_gci (j := 3) (k2 := 3) (lv2 := [some (.inr (.inr (3, g0))), some (.inl v1)]) (rest := []) ((R_X2_owedTo (by omega) q1)) s6 ?_
  obtain ⟨r4, q3, h⟩ := ax_b_of h
  have s5 : ∀ n, ax_ex (e + 3) L_X2_balance 3 [some (.inr (.inr (3, g0))), some (.inl v1)] [.inl r2] m (n + 3) = ax_aft (fun s m2 => ax_ex (e + 3) L_X2_balance 6 [some (.inr (.inr (3, g0))), some (.inl v1)] s m2 n) [.inl r2] (ax_ex (e + 2) L_X2_owedBy 0 (ax_entry [.inr (.inr (3, g0)), .inl v1] 4) [] m n) := fun n => rfl
  refine ax_gci (j := 3) (k2 := 6) (lv2 := [some (.inr (.inr (3, g0))), some (.inl v1)]) (rest := [.inl r2]) ((R_X2_owedBy (by omega) q3)) s5 ?_
  obtain rfl := Option.some.inj h
  exact ax_rs 2 (fun n => rfl)
def F_X2_all_L4 : Nat → ax_M → Nat → Int32 → Int32 → Option Int32
  | 0, _, _, _, _ => none
  | n + 1, m, g0, v1, v2 => if 8 ≤ v2 then (some v1) else (ax_b (F_X2_owedBy m g0 v2) (fun r4 => F_X2_all_L4 n m g0 (v1 + r4) (v2 + 1)))
set_option maxRecDepth 20000 in
set_option maxHeartbeats 4000000 in
theorem R_X2_all_L4 {e : Nat} {m : ax_M} {g0 : Nat} : ∀ (n : Nat) (v1 : Int32) (v2 : Int32) (q : Int32), F_X2_all_L4 n m g0 v1 v2 = some q → ax_Ru (e + 3) L_X2_all 4 [some (.inr (.inr (3, g0))), some (.inl v1), some (.inl v2)] [] m (some (.inl q), m) := by
  intro n
  induction n with
  | zero =>
    intro v1 v2 q h
    cases h
  | succ n ih =>
    intro v1 v2 q h
    rw [F_X2_all_L4] at h
    have s2 : ∀ n, ax_ex (e + 3) L_X2_all 4 [some (.inr (.inr (3, g0))), some (.inl v1), some (.inl v2)] [] m (n + 3) = if 8 ≤ v2 then ax_ex (e + 3) L_X2_all 15 [some (.inr (.inr (3, g0))), some (.inl v1), some (.inl v2)] [] m n else ax_ex (e + 3) L_X2_all 7 [some (.inr (.inr (3, g0))), some (.inl v1), some (.inl v2)] [] m n := fun n => rfl
    by_cases c1 : 8 ≤ v2
    · rw [if_pos c1] at h
      refine ax_gt c1 s2 ?_
      obtain rfl := Option.some.inj h
      exact ax_rs 2 (fun n => rfl)
    · rw [if_neg c1] at h
      refine ax_gf c1 s2 ?_
      obtain ⟨r4, q3, h⟩ := ax_b_of h
      have s5 : ∀ n, ax_ex (e + 3) L_X2_all 7 [some (.inr (.inr (3, g0))), some (.inl v1), some (.inl v2)] [] m (n + 4) = ax_aft (fun s m2 => ax_ex (e + 3) L_X2_all 11 [some (.inr (.inr (3, g0))), some (.inl v1), some (.inl v2)] s m2 n) [.inl v1] (ax_ex (e + 2) L_X2_owedBy 0 (ax_entry [.inr (.inr (3, g0)), .inl v2] 4) [] m n) := fun n => rfl
      refine ax_gci (j := 4) (k2 := 11) (lv2 := [some (.inr (.inr (3, g0))), some (.inl v1), some (.inl v2)]) (rest := [.inl v1]) ((R_X2_owedBy (by omega) q3)) s5 ?_
      refine ax_go (j := 4) (k2 := 4) (lv2 := [some (.inr (.inr (3, g0))), some (.inl (v1 + r4)), some (.inl (v2 + 1))]) (st2 := []) (m2 := m) (fun n => rfl) ?_
      exact ax_fg (lv2 := [some (.inr (.inr (3, g0))), some (.inl (v1 + r4)), some (.inl (v2 + 1))]) ⟨rfl, rfl, rfl, trivial⟩ (ih (v1 + r4) (v2 + 1) _ h)
def F_X2_all (m : ax_M) (g0 : Nat) : Option Int32 := F_X2_all_L4 ax_FU m g0 0 0
set_option maxRecDepth 20000 in
set_option maxHeartbeats 4000000 in
theorem R_X2_all {d : Nat} (hd : 3 ≤ d) {m : ax_M} {g0 : Nat} {q : Int32} (h : F_X2_all m g0 = some q) : ax_Ru d L_X2_all 0 (ax_entry [.inr (.inr (3, g0))] 3) [] m (some (.inl q), m) := by
  obtain ⟨e, rfl⟩ : ∃ e, d = e + 3 := ⟨d - 3, by omega⟩
  unfold F_X2_all at h
  refine ax_go (j := 4) (k2 := 4) (lv2 := [some (.inr (.inr (3, g0))), some (.inl 0), some (.inl 0)]) (st2 := []) (m2 := m) (fun n => rfl) ?_
  refine ax_fg (lv2 := [some (.inr (.inr (3, g0))), some (.inl 0), some (.inl 0)]) ⟨rfl, rfl, rfl, trivial⟩ ?_
  refine R_X2_all_L4 _ 0 0 _ h
def F_X2_shared_L11 : Nat → (Int32 → Option Int32) → ax_M → Nat → Int32 → Int32 → Int32 → Option Int32
  | 0, _, _, _, _, _, _ => none
  | n + 1, K28, m, g0, v1, v2, v3 => if 8 ≤ v3 then (K28 v1) else (ax_b (F_X2_of m g0 v2 v3) (fun r14 => ax_b (F_X2_of m g0 v3 v2) (fun r16 => F_X2_shared_L11 n K28 m g0 (v1 + (ax_min r14 r16)) v2 (v3 + 1))))
set_option maxRecDepth 20000 in
set_option maxHeartbeats 4000000 in
theorem R_X2_shared_L11 {e : Nat} {m : ax_M} {g0 : Nat} {v2 : Int32} {K28 : Int32 → Option Int32} (hK28 : ∀ (y1 : Int32) (q : Int32), K28 y1 = some q → ax_Ru (e + 6) L_X2_shared 28 [some (.inr (.inr (3, g0))), some (.inl y1), some (.inl v2), none] [] m (some (.inl q), m)) : ∀ (n : Nat) (v1 : Int32) (v3 : Int32) (q : Int32), F_X2_shared_L11 n K28 m g0 v1 v2 v3 = some q → ax_Ru (e + 6) L_X2_shared 11 [some (.inr (.inr (3, g0))), some (.inl v1), some (.inl v2), some (.inl v3)] [] m (some (.inl q), m) := by
  intro n
  induction n with
  | zero =>
    intro v1 v3 q h
    cases h
  | succ n ih =>
    intro v1 v3 q h
    rw [F_X2_shared_L11] at h
    have s12 : ∀ n, ax_ex (e + 6) L_X2_shared 11 [some (.inr (.inr (3, g0))), some (.inl v1), some (.inl v2), some (.inl v3)] [] m (n + 3) = if 8 ≤ v3 then ax_ex (e + 6) L_X2_shared 28 [some (.inr (.inr (3, g0))), some (.inl v1), some (.inl v2), some (.inl v3)] [] m n else ax_ex (e + 6) L_X2_shared 14 [some (.inr (.inr (3, g0))), some (.inl v1), some (.inl v2), some (.inl v3)] [] m n := fun n => rfl
    by_cases c11 : 8 ≤ v3
    · rw [if_pos c11] at h
      refine ax_gt c11 s12 ?_
      exact ax_fg (lv2 := [some (.inr (.inr (3, g0))), some (.inl v1), some (.inl v2), none]) ⟨rfl, rfl, rfl, trivial⟩ (hK28 v1 _ h)
    · rw [if_neg c11] at h
      refine ax_gf c11 s12 ?_
      obtain ⟨r14, q13, h⟩ := ax_b_of h
      have s18 : ∀ n, ax_ex (e + 6) L_X2_shared 14 [some (.inr (.inr (3, g0))), some (.inl v1), some (.inl v2), some (.inl v3)] [] m (n + 5) = ax_aft (fun s m2 => ax_ex (e + 6) L_X2_shared 19 [some (.inr (.inr (3, g0))), some (.inl v1), some (.inl v2), some (.inl v3)] s m2 n) [.inl v1] (ax_ex (e + 5) L_X2_of 0 (ax_entry [.inr (.inr (3, g0)), .inl v2, .inl v3] 3) [] m n) := fun n => rfl
      refine ax_gci (j := 5) (k2 := 19) (lv2 := [some (.inr (.inr (3, g0))), some (.inl v1), some (.inl v2), some (.inl v3)]) (rest := [.inl v1]) ((R_X2_of (by omega) q13)) s18 ?_
      obtain ⟨r16, q15, h⟩ := ax_b_of h
      have s17 : ∀ n, ax_ex (e + 6) L_X2_shared 19 [some (.inr (.inr (3, g0))), some (.inl v1), some (.inl v2), some (.inl v3)] [.inl r14, .inl v1] m (n + 4) = ax_aft (fun s m2 => ax_ex (e + 6) L_X2_shared 23 [some (.inr (.inr (3, g0))), some (.inl v1), some (.inl v2), some (.inl v3)] s m2 n) [.inl r14, .inl v1] (ax_ex (e + 5) L_X2_of 0 (ax_entry [.inr (.inr (3, g0)), .inl v3, .inl v2] 3) [] m n) := fun n => rfl
      refine ax_gci (j := 4) (k2 := 23) (lv2 := [some (.inr (.inr (3, g0))), some (.inl v1), some (.inl v2), some (.inl v3)]) (rest := [.inl r14, .inl v1]) ((R_X2_of (by omega) q15)) s17 ?_
      refine ax_go (j := 5) (k2 := 11) (lv2 := [some (.inr (.inr (3, g0))), some (.inl (v1 + (ax_min r14 r16))), some (.inl v2), some (.inl (v3 + 1))]) (st2 := []) (m2 := m) (fun n => rfl) ?_
      exact ax_fg (lv2 := [some (.inr (.inr (3, g0))), some (.inl (v1 + (ax_min r14 r16))), some (.inl v2), some (.inl (v3 + 1))]) ⟨rfl, rfl, rfl, rfl, trivial⟩ (ih (v1 + (ax_min r14 r16)) (v3 + 1) _ h)
def F_X2_shared_L4 : Nat → ax_M → Nat → Int32 → Int32 → Option Int32
  | 0, _, _, _, _ => none
  | n + 1, m, g0, v1, v2 => if 8 ≤ v2 then (some v1) else (F_X2_shared_L11 ax_FU (fun y19 => F_X2_shared_L4 n m g0 y19 (v2 + 1)) m g0 v1 v2 (v2 + 1))
set_option maxRecDepth 20000 in
set_option maxHeartbeats 4000000 in
theorem R_X2_shared_L4 {e : Nat} {m : ax_M} {g0 : Nat} : ∀ (n : Nat) (v1 : Int32) (v2 : Int32) (q : Int32), F_X2_shared_L4 n m g0 v1 v2 = some q → ax_Ru (e + 6) L_X2_shared 4 [some (.inr (.inr (3, g0))), some (.inl v1), some (.inl v2), none] [] m (some (.inl q), m) := by
  intro n
  induction n with
  | zero =>
    intro v1 v2 q h
    cases h
  | succ n ih =>
    intro v1 v2 q h
    rw [F_X2_shared_L4] at h
    have s2 : ∀ n, ax_ex (e + 6) L_X2_shared 4 [some (.inr (.inr (3, g0))), some (.inl v1), some (.inl v2), none] [] m (n + 3) = if 8 ≤ v2 then ax_ex (e + 6) L_X2_shared 30 [some (.inr (.inr (3, g0))), some (.inl v1), some (.inl v2), none] [] m n else ax_ex (e + 6) L_X2_shared 7 [some (.inr (.inr (3, g0))), some (.inl v1), some (.inl v2), none] [] m n := fun n => rfl
    by_cases c1 : 8 ≤ v2
    · rw [if_pos c1] at h
      refine ax_gt c1 s2 ?_
      obtain rfl := Option.some.inj h
      exact ax_rs 2 (fun n => rfl)
    · rw [if_neg c1] at h
      refine ax_gf c1 s2 ?_
      refine ax_go (j := 4) (k2 := 11) (lv2 := [some (.inr (.inr (3, g0))), some (.inl v1), some (.inl v2), some (.inl (v2 + 1))]) (st2 := []) (m2 := m) (fun n => rfl) ?_
      refine ax_fg (lv2 := [some (.inr (.inr (3, g0))), some (.inl v1), some (.inl v2), some (.inl (v2 + 1))]) ⟨rfl, rfl, rfl, rfl, trivial⟩ ?_
      refine R_X2_shared_L11 ?_ _ v1 (v2 + 1) _ h
      · intro y19 q h
        refine ax_go (j := 2) (k2 := 4) (lv2 := [some (.inr (.inr (3, g0))), some (.inl y19), some (.inl (v2 + 1)), none]) (st2 := []) (m2 := m) (fun n => rfl) ?_
        exact ax_fg (lv2 := [some (.inr (.inr (3, g0))), some (.inl y19), some (.inl (v2 + 1)), none]) ⟨rfl, rfl, rfl, trivial⟩ (ih y19 (v2 + 1) _ h)
def F_X2_shared (m : ax_M) (g0 : Nat) : Option Int32 := F_X2_shared_L4 ax_FU m g0 0 0
set_option maxRecDepth 20000 in
set_option maxHeartbeats 4000000 in
theorem R_X2_shared {d : Nat} (hd : 6 ≤ d) {m : ax_M} {g0 : Nat} {q : Int32} (h : F_X2_shared m g0 = some q) : ax_Ru d L_X2_shared 0 (ax_entry [.inr (.inr (3, g0))] 4) [] m (some (.inl q), m) := by
  obtain ⟨e, rfl⟩ : ∃ e, d = e + 6 := ⟨d - 6, by omega⟩
  unfold F_X2_shared at h
  refine ax_go (j := 4) (k2 := 4) (lv2 := [some (.inr (.inr (3, g0))), some (.inl 0), some (.inl 0), none]) (st2 := []) (m2 := m) (fun n => rfl) ?_
  refine ax_fg (lv2 := [some (.inr (.inr (3, g0))), some (.inl 0), some (.inl 0), none]) ⟨rfl, rfl, rfl, trivial⟩ ?_
  refine R_X2_shared_L4 _ 0 0 _ h
def F_X2_cancel_L9 : Nat → (ax_M → Option ax_M) → ax_M → Nat → Int32 → Int32 → Option ax_M
  | 0, _, _, _, _, _ => none
  | n + 1, K44, m, g0, v1, v2 => if 8 ≤ v2 then (K44 m) else (ax_b (F_X2_of m g0 v1 v2) (fun r28 => ax_b (F_X2_of m g0 v2 v1) (fun r30 => ax_b (F_X2_of m g0 v1 v2) (fun r32 => ax_b (F_X2_put m g0 v1 v2 (r32 - (ax_min r28 r30))) (fun m35 => ax_b (F_X2_of m35 g0 v2 v1) (fun r37 => ax_b (F_X2_put m35 g0 v2 v1 (r37 - (ax_min r28 r30))) (fun m40 => F_X2_cancel_L9 n K44 m40 g0 v1 (v2 + 1))))))))
set_option maxRecDepth 20000 in
set_option maxHeartbeats 4000000 in
theorem R_X2_cancel_L9 {e : Nat} {g0 : Nat} {v1 : Int32} {K44 : ax_M → Option ax_M} (hK44 : ∀ (my : ax_M) (q : ax_M), K44 my = some q → ax_Ru (e + 6) L_X2_cancel 44 [some (.inr (.inr (3, g0))), some (.inl v1), none, none] [] my (none, q)) : ∀ (n : Nat) (m : ax_M) (v2 : Int32) (q : ax_M), F_X2_cancel_L9 n K44 m g0 v1 v2 = some q → ax_Ru (e + 6) L_X2_cancel 9 [some (.inr (.inr (3, g0))), some (.inl v1), some (.inl v2), none] [] m (none, q) := by
  intro n
  induction n with
  | zero =>
    intro m v2 q h
    cases h
  | succ n ih =>
    intro m v2 q h
    rw [F_X2_cancel_L9] at h
    have s26 : ∀ n, ax_ex (e + 6) L_X2_cancel 9 [some (.inr (.inr (3, g0))), some (.inl v1), some (.inl v2), none] [] m (n + 3) = if 8 ≤ v2 then ax_ex (e + 6) L_X2_cancel 44 [some (.inr (.inr (3, g0))), some (.inl v1), some (.inl v2), none] [] m n else ax_ex (e + 6) L_X2_cancel 12 [some (.inr (.inr (3, g0))), some (.inl v1), some (.inl v2), none] [] m n := fun n => rfl
    by_cases c25 : 8 ≤ v2
    · rw [if_pos c25] at h
      refine ax_gt c25 s26 ?_
      exact ax_fg (lv2 := [some (.inr (.inr (3, g0))), some (.inl v1), none, none]) ⟨rfl, rfl, trivial⟩ (hK44 m _ h)
    · rw [if_neg c25] at h
      refine ax_gf c25 s26 ?_
      obtain ⟨r28, q27, h⟩ := ax_b_of h
      have s46 : ∀ n, ax_ex (e + 6) L_X2_cancel 12 [some (.inr (.inr (3, g0))), some (.inl v1), some (.inl v2), none] [] m (n + 4) = ax_aft (fun s m2 => ax_ex (e + 6) L_X2_cancel 16 [some (.inr (.inr (3, g0))), some (.inl v1), some (.inl v2), none] s m2 n) [] (ax_ex (e + 5) L_X2_of 0 (ax_entry [.inr (.inr (3, g0)), .inl v1, .inl v2] 3) [] m n) := fun n => rfl
      refine ax_gci (j := 4) (k2 := 16) (lv2 := [some (.inr (.inr (3, g0))), some (.inl v1), some (.inl v2), none]) (rest := []) ((R_X2_of (by omega) q27)) s46 ?_
      obtain ⟨r30, q29, h⟩ := ax_b_of h
      have s45 : ∀ n, ax_ex (e + 6) L_X2_cancel 16 [some (.inr (.inr (3, g0))), some (.inl v1), some (.inl v2), none] [.inl r28] m (n + 4) = ax_aft (fun s m2 => ax_ex (e + 6) L_X2_cancel 20 [some (.inr (.inr (3, g0))), some (.inl v1), some (.inl v2), none] s m2 n) [.inl r28] (ax_ex (e + 5) L_X2_of 0 (ax_entry [.inr (.inr (3, g0)), .inl v2, .inl v1] 3) [] m n) := fun n => rfl
      refine ax_gci (j := 4) (k2 := 20) (lv2 := [some (.inr (.inr (3, g0))), some (.inl v1), some (.inl v2), none]) (rest := [.inl r28]) ((R_X2_of (by omega) q29)) s45 ?_
      obtain ⟨r32, q31, h⟩ := ax_b_of h
      have s44 : ∀ n, ax_ex (e + 6) L_X2_cancel 20 [some (.inr (.inr (3, g0))), some (.inl v1), some (.inl v2), none] [.inl r30, .inl r28] m (n + 9) = ax_aft (fun s m2 => ax_ex (e + 6) L_X2_cancel 29 [some (.inr (.inr (3, g0))), some (.inl v1), some (.inl v2), some (.inl (ax_min r28 r30))] s m2 n) [.inl v2, .inl v1, .inr (.inr (3, g0))] (ax_ex (e + 5) L_X2_of 0 (ax_entry [.inr (.inr (3, g0)), .inl v1, .inl v2] 3) [] m n) := fun n => rfl
      refine ax_gci (j := 9) (k2 := 29) (lv2 := [some (.inr (.inr (3, g0))), some (.inl v1), some (.inl v2), some (.inl (ax_min r28 r30))]) (rest := [.inl v2, .inl v1, .inr (.inr (3, g0))]) ((R_X2_of (by omega) q31)) s44 ?_
      obtain ⟨m35, q33, h⟩ := ax_b_of h
      have s43 : ∀ n, ax_ex (e + 6) L_X2_cancel 29 [some (.inr (.inr (3, g0))), some (.inl v1), some (.inl v2), some (.inl (ax_min r28 r30))] [.inl r32, .inl v2, .inl v1, .inr (.inr (3, g0))] m (n + 3) = ax_aft (fun s m2 => ax_ex (e + 6) L_X2_cancel 32 [some (.inr (.inr (3, g0))), some (.inl v1), some (.inl v2), some (.inl (ax_min r28 r30))] s m2 n) [] (ax_ex (e + 5) L_X2_put 0 (ax_entry [.inr (.inr (3, g0)), .inl v1, .inl v2, .inl (r32 - (ax_min r28 r30))] 4) [] m n) := fun n => rfl
      refine ax_gcv (j := 3) (k2 := 32) (lv2 := [some (.inr (.inr (3, g0))), some (.inl v1), some (.inl v2), some (.inl (ax_min r28 r30))]) (rest := []) ((R_X2_put (by omega) q33)) s43 ?_
      obtain ⟨r37, q36, h⟩ := ax_b_of h
      have s42 : ∀ n, ax_ex (e + 6) L_X2_cancel 32 [some (.inr (.inr (3, g0))), some (.inl v1), some (.inl v2), some (.inl (ax_min r28 r30))] [] m35 (n + 7) = ax_aft (fun s m2 => ax_ex (e + 6) L_X2_cancel 39 [some (.inr (.inr (3, g0))), some (.inl v1), some (.inl v2), some (.inl (ax_min r28 r30))] s m2 n) [.inl v1, .inl v2, .inr (.inr (3, g0))] (ax_ex (e + 5) L_X2_of 0 (ax_entry [.inr (.inr (3, g0)), .inl v2, .inl v1] 3) [] m35 n) := fun n => rfl
      refine ax_gci (j := 7) (k2 := 39) (lv2 := [some (.inr (.inr (3, g0))), some (.inl v1), some (.inl v2), some (.inl (ax_min r28 r30))]) (rest := [.inl v1, .inl v2, .inr (.inr (3, g0))]) ((R_X2_of (by omega) q36)) s42 ?_
      obtain ⟨m40, q38, h⟩ := ax_b_of h
      have s41 : ∀ n, ax_ex (e + 6) L_X2_cancel 39 [some (.inr (.inr (3, g0))), some (.inl v1), some (.inl v2), some (.inl (ax_min r28 r30))] [.inl r37, .inl v1, .inl v2, .inr (.inr (3, g0))] m35 (n + 3) = ax_aft (fun s m2 => ax_ex (e + 6) L_X2_cancel 42 [some (.inr (.inr (3, g0))), some (.inl v1), some (.inl v2), some (.inl (ax_min r28 r30))] s m2 n) [] (ax_ex (e + 5) L_X2_put 0 (ax_entry [.inr (.inr (3, g0)), .inl v2, .inl v1, .inl (r37 - (ax_min r28 r30))] 4) [] m35 n) := fun n => rfl
      refine ax_gcv (j := 3) (k2 := 42) (lv2 := [some (.inr (.inr (3, g0))), some (.inl v1), some (.inl v2), some (.inl (ax_min r28 r30))]) (rest := []) ((R_X2_put (by omega) q38)) s41 ?_
      refine ax_go (j := 2) (k2 := 9) (lv2 := [some (.inr (.inr (3, g0))), some (.inl v1), some (.inl (v2 + 1)), some (.inl (ax_min r28 r30))]) (st2 := []) (m2 := m40) (fun n => rfl) ?_
      exact ax_fg (lv2 := [some (.inr (.inr (3, g0))), some (.inl v1), some (.inl (v2 + 1)), none]) ⟨rfl, rfl, rfl, trivial⟩ (ih m40 (v2 + 1) _ h)
def F_X2_cancel_L2 : Nat → ax_M → Nat → Int32 → Option ax_M
  | 0, _, _, _ => none
  | n + 1, m, g0, v1 => if 8 ≤ v1 then (some m) else (F_X2_cancel_L9 ax_FU (fun m47 => F_X2_cancel_L2 n m47 g0 (v1 + 1)) m g0 v1 (v1 + 1))
set_option maxRecDepth 20000 in
set_option maxHeartbeats 4000000 in
theorem R_X2_cancel_L2 {e : Nat} {g0 : Nat} : ∀ (n : Nat) (m : ax_M) (v1 : Int32) (q : ax_M), F_X2_cancel_L2 n m g0 v1 = some q → ax_Ru (e + 6) L_X2_cancel 2 [some (.inr (.inr (3, g0))), some (.inl v1), none, none] [] m (none, q) := by
  intro n
  induction n with
  | zero =>
    intro m v1 q h
    cases h
  | succ n ih =>
    intro m v1 q h
    rw [F_X2_cancel_L2] at h
    have s2 : ∀ n, ax_ex (e + 6) L_X2_cancel 2 [some (.inr (.inr (3, g0))), some (.inl v1), none, none] [] m (n + 3) = if 8 ≤ v1 then ax_ex (e + 6) L_X2_cancel 46 [some (.inr (.inr (3, g0))), some (.inl v1), none, none] [] m n else ax_ex (e + 6) L_X2_cancel 5 [some (.inr (.inr (3, g0))), some (.inl v1), none, none] [] m n := fun n => rfl
    by_cases c1 : 8 ≤ v1
    · rw [if_pos c1] at h
      refine ax_gt c1 s2 ?_
      obtain rfl := Option.some.inj h
      exact ax_rs 1 (fun n => rfl)
    · rw [if_neg c1] at h
      refine ax_gf c1 s2 ?_
      refine ax_go (j := 4) (k2 := 9) (lv2 := [some (.inr (.inr (3, g0))), some (.inl v1), some (.inl (v1 + 1)), none]) (st2 := []) (m2 := m) (fun n => rfl) ?_
      refine ax_fg (lv2 := [some (.inr (.inr (3, g0))), some (.inl v1), some (.inl (v1 + 1)), none]) ⟨rfl, rfl, rfl, trivial⟩ ?_
      refine R_X2_cancel_L9 ?_ _ m (v1 + 1) _ h
      · intro m47 q h
        refine ax_go (j := 2) (k2 := 2) (lv2 := [some (.inr (.inr (3, g0))), some (.inl (v1 + 1)), none, none]) (st2 := []) (m2 := m47) (fun n => rfl) ?_
        exact ax_fg (lv2 := [some (.inr (.inr (3, g0))), some (.inl (v1 + 1)), none, none]) ⟨rfl, rfl, trivial⟩ (ih m47 (v1 + 1) _ h)
def F_X2_cancel (m : ax_M) (g0 : Nat) : Option ax_M := F_X2_cancel_L2 ax_FU m g0 0
set_option maxRecDepth 20000 in
set_option maxHeartbeats 4000000 in
theorem R_X2_cancel {d : Nat} (hd : 6 ≤ d) {m : ax_M} {g0 : Nat} {q : ax_M} (h : F_X2_cancel m g0 = some q) : ax_Ru d L_X2_cancel 0 (ax_entry [.inr (.inr (3, g0))] 4) [] m (none, q) := by
  obtain ⟨e, rfl⟩ : ∃ e, d = e + 6 := ⟨d - 6, by omega⟩
  unfold F_X2_cancel at h
  refine ax_go (j := 2) (k2 := 2) (lv2 := [some (.inr (.inr (3, g0))), some (.inl 0), none, none]) (st2 := []) (m2 := m) (fun n => rfl) ?_
  refine ax_fg (lv2 := [some (.inr (.inr (3, g0))), some (.inl 0), none, none]) ⟨rfl, rfl, trivial⟩ ?_
  refine R_X2_cancel_L2 _ m 0 _ h
def F_X2_creditorsOf_L4 : Nat → ax_M → Nat → Int32 → Int32 → Int32 → Option Int32
  | 0, _, _, _, _, _ => none
  | n + 1, m, g0, v1, v2, v3 => if 8 ≤ v3 then (some v2) else (ax_b (F_X2_of m g0 v1 v3) (fun r4 => if r4 ≤ 0 then (F_X2_creditorsOf_L4 n m g0 v1 v2 (v3 + 1)) else (F_X2_creditorsOf_L4 n m g0 v1 (v2 ||| (ax_ishl 1 v3)) (v3 + 1))))
set_option maxRecDepth 20000 in
set_option maxHeartbeats 4000000 in
theorem R_X2_creditorsOf_L4 {e : Nat} {m : ax_M} {g0 : Nat} {v1 : Int32} : ∀ (n : Nat) (v2 : Int32) (v3 : Int32) (q : Int32), F_X2_creditorsOf_L4 n m g0 v1 v2 v3 = some q → ax_Ru (e + 2) L_X2_creditorsOf 4 [some (.inr (.inr (3, g0))), some (.inl v1), some (.inl v2), some (.inl v3)] [] m (some (.inl q), m) := by
  intro n
  induction n with
  | zero =>
    intro v2 v3 q h
    cases h
  | succ n ih =>
    intro v2 v3 q h
    rw [F_X2_creditorsOf_L4] at h
    have s2 : ∀ n, ax_ex (e + 2) L_X2_creditorsOf 4 [some (.inr (.inr (3, g0))), some (.inl v1), some (.inl v2), some (.inl v3)] [] m (n + 3) = if 8 ≤ v3 then ax_ex (e + 2) L_X2_creditorsOf 20 [some (.inr (.inr (3, g0))), some (.inl v1), some (.inl v2), some (.inl v3)] [] m n else ax_ex (e + 2) L_X2_creditorsOf 7 [some (.inr (.inr (3, g0))), some (.inl v1), some (.inl v2), some (.inl v3)] [] m n := fun n => rfl
    by_cases c1 : 8 ≤ v3
    · rw [if_pos c1] at h
      refine ax_gt c1 s2 ?_
      obtain rfl := Option.some.inj h
      exact ax_rs 2 (fun n => rfl)
    · rw [if_neg c1] at h
      refine ax_gf c1 s2 ?_
      obtain ⟨r4, q3, h⟩ := ax_b_of h
      have s7 : ∀ n, ax_ex (e + 2) L_X2_creditorsOf 7 [some (.inr (.inr (3, g0))), some (.inl v1), some (.inl v2), some (.inl v3)] [] m (n + 4) = ax_aft (fun s m2 => ax_ex (e + 2) L_X2_creditorsOf 11 [some (.inr (.inr (3, g0))), some (.inl v1), some (.inl v2), some (.inl v3)] s m2 n) [] (ax_ex (e + 1) L_X2_of 0 (ax_entry [.inr (.inr (3, g0)), .inl v1, .inl v3] 3) [] m n) := fun n => rfl
      refine ax_gci (j := 4) (k2 := 11) (lv2 := [some (.inr (.inr (3, g0))), some (.inl v1), some (.inl v2), some (.inl v3)]) (rest := []) ((R_X2_of (by omega) q3)) s7 ?_
      have s6 : ∀ n, ax_ex (e + 2) L_X2_creditorsOf 11 [some (.inr (.inr (3, g0))), some (.inl v1), some (.inl v2), some (.inl v3)] [.inl r4] m (n + 1) = if r4 ≤ 0 then ax_ex (e + 2) L_X2_creditorsOf 18 [some (.inr (.inr (3, g0))), some (.inl v1), some (.inl v2), some (.inl v3)] [] m n else ax_ex (e + 2) L_X2_creditorsOf 12 [some (.inr (.inr (3, g0))), some (.inl v1), some (.inl v2), some (.inl v3)] [] m n := fun n => rfl
      by_cases c5 : r4 ≤ 0
      · rw [if_pos c5] at h
        refine ax_gt c5 s6 ?_
        refine ax_go (j := 2) (k2 := 4) (lv2 := [some (.inr (.inr (3, g0))), some (.inl v1), some (.inl v2), some (.inl (v3 + 1))]) (st2 := []) (m2 := m) (fun n => rfl) ?_
        exact ax_fg (lv2 := [some (.inr (.inr (3, g0))), some (.inl v1), some (.inl v2), some (.inl (v3 + 1))]) ⟨rfl, rfl, rfl, rfl, trivial⟩ (ih v2 (v3 + 1) _ h)
      · rw [if_neg c5] at h
        refine ax_gf c5 s6 ?_
        refine ax_go (j := 8) (k2 := 4) (lv2 := [some (.inr (.inr (3, g0))), some (.inl v1), some (.inl (v2 ||| (ax_ishl 1 v3))), some (.inl (v3 + 1))]) (st2 := []) (m2 := m) (fun n => rfl) ?_
        exact ax_fg (lv2 := [some (.inr (.inr (3, g0))), some (.inl v1), some (.inl (v2 ||| (ax_ishl 1 v3))), some (.inl (v3 + 1))]) ⟨rfl, rfl, rfl, rfl, trivial⟩ (ih (v2 ||| (ax_ishl 1 v3)) (v3 + 1) _ h)
def F_X2_creditorsOf (m : ax_M) (g0 : Nat) (v1 : Int32) : Option Int32 := F_X2_creditorsOf_L4 ax_FU m g0 v1 0 0
set_option maxRecDepth 20000 in
set_option maxHeartbeats 4000000 in
theorem R_X2_creditorsOf {d : Nat} (hd : 2 ≤ d) {m : ax_M} {g0 : Nat} {v1 : Int32} {q : Int32} (h : F_X2_creditorsOf m g0 v1 = some q) : ax_Ru d L_X2_creditorsOf 0 (ax_entry [.inr (.inr (3, g0)), .inl v1] 4) [] m (some (.inl q), m) := by
  obtain ⟨e, rfl⟩ : ∃ e, d = e + 2 := ⟨d - 2, by omega⟩
  unfold F_X2_creditorsOf at h
  refine ax_go (j := 4) (k2 := 4) (lv2 := [some (.inr (.inr (3, g0))), some (.inl v1), some (.inl 0), some (.inl 0)]) (st2 := []) (m2 := m) (fun n => rfl) ?_
  refine ax_fg (lv2 := [some (.inr (.inr (3, g0))), some (.inl v1), some (.inl 0), some (.inl 0)]) ⟨rfl, rfl, rfl, rfl, trivial⟩ ?_
  refine R_X2_creditorsOf_L4 _ 0 0 _ h
def F_X2_creditorsOfAll_L4 : Nat → ax_M → Nat → Int32 → Int32 → Int32 → Option Int32
  | 0, _, _, _, _, _ => none
  | n + 1, m, g0, v1, v2, v3 => if 8 ≤ v3 then (some v2) else (if ((ax_iushr v1 v3) &&& 1) = 0 then (F_X2_creditorsOfAll_L4 n m g0 v1 v2 (v3 + 1)) else (ax_b (F_X2_creditorsOf m g0 v3) (fun r7 => F_X2_creditorsOfAll_L4 n m g0 v1 (v2 ||| r7) (v3 + 1))))
set_option maxRecDepth 20000 in
set_option maxHeartbeats 4000000 in
theorem R_X2_creditorsOfAll_L4 {e : Nat} {m : ax_M} {g0 : Nat} {v1 : Int32} : ∀ (n : Nat) (v2 : Int32) (v3 : Int32) (q : Int32), F_X2_creditorsOfAll_L4 n m g0 v1 v2 v3 = some q → ax_Ru (e + 3) L_X2_creditorsOfAll 4 [some (.inr (.inr (3, g0))), some (.inl v1), some (.inl v2), some (.inl v3)] [] m (some (.inl q), m) := by
  intro n
  induction n with
  | zero =>
    intro v2 v3 q h
    cases h
  | succ n ih =>
    intro v2 v3 q h
    rw [F_X2_creditorsOfAll_L4] at h
    have s2 : ∀ n, ax_ex (e + 3) L_X2_creditorsOfAll 4 [some (.inr (.inr (3, g0))), some (.inl v1), some (.inl v2), some (.inl v3)] [] m (n + 3) = if 8 ≤ v3 then ax_ex (e + 3) L_X2_creditorsOfAll 21 [some (.inr (.inr (3, g0))), some (.inl v1), some (.inl v2), some (.inl v3)] [] m n else ax_ex (e + 3) L_X2_creditorsOfAll 7 [some (.inr (.inr (3, g0))), some (.inl v1), some (.inl v2), some (.inl v3)] [] m n := fun n => rfl
    by_cases c1 : 8 ≤ v3
    · rw [if_pos c1] at h
      refine ax_gt c1 s2 ?_
      obtain rfl := Option.some.inj h
      exact ax_rs 2 (fun n => rfl)
    · rw [if_neg c1] at h
      refine ax_gf c1 s2 ?_
      refine ax_go (j := 5) (k2 := 12) (lv2 := [some (.inr (.inr (3, g0))), some (.inl v1), some (.inl v2), some (.inl v3)]) (st2 := [.inl ((ax_iushr v1 v3) &&& 1)]) (m2 := m) (fun n => rfl) ?_
      obtain ⟨y3, hy3⟩ : ∃ y : Int32, y = ((ax_iushr v1 v3) &&& 1) := ⟨_, rfl⟩
      rw [← hy3] at h ⊢
      have s5 : ∀ n, ax_ex (e + 3) L_X2_creditorsOfAll 12 [some (.inr (.inr (3, g0))), some (.inl v1), some (.inl v2), some (.inl v3)] [.inl y3] m (n + 1) = if y3 = 0 then ax_ex (e + 3) L_X2_creditorsOfAll 19 [some (.inr (.inr (3, g0))), some (.inl v1), some (.inl v2), some (.inl v3)] [] m n else ax_ex (e + 3) L_X2_creditorsOfAll 13 [some (.inr (.inr (3, g0))), some (.inl v1), some (.inl v2), some (.inl v3)] [] m n := fun n => rfl
      by_cases c4 : y3 = 0
      · rw [if_pos c4] at h
        refine ax_gt c4 s5 ?_
        refine ax_go (j := 2) (k2 := 4) (lv2 := [some (.inr (.inr (3, g0))), some (.inl v1), some (.inl v2), some (.inl (v3 + 1))]) (st2 := []) (m2 := m) (fun n => rfl) ?_
        exact ax_fg (lv2 := [some (.inr (.inr (3, g0))), some (.inl v1), some (.inl v2), some (.inl (v3 + 1))]) ⟨rfl, rfl, rfl, rfl, trivial⟩ (ih v2 (v3 + 1) _ h)
      · rw [if_neg c4] at h
        refine ax_gf c4 s5 ?_
        obtain ⟨r7, q6, h⟩ := ax_b_of h
        have s8 : ∀ n, ax_ex (e + 3) L_X2_creditorsOfAll 13 [some (.inr (.inr (3, g0))), some (.inl v1), some (.inl v2), some (.inl v3)] [] m (n + 4) = ax_aft (fun s m2 => ax_ex (e + 3) L_X2_creditorsOfAll 17 [some (.inr (.inr (3, g0))), some (.inl v1), some (.inl v2), some (.inl v3)] s m2 n) [.inl v2] (ax_ex (e + 2) L_X2_creditorsOf 0 (ax_entry [.inr (.inr (3, g0)), .inl v3] 4) [] m n) := fun n => rfl
        refine ax_gci (j := 4) (k2 := 17) (lv2 := [some (.inr (.inr (3, g0))), some (.inl v1), some (.inl v2), some (.inl v3)]) (rest := [.inl v2]) ((R_X2_creditorsOf (by omega) q6)) s8 ?_
        refine ax_go (j := 4) (k2 := 4) (lv2 := [some (.inr (.inr (3, g0))), some (.inl v1), some (.inl (v2 ||| r7)), some (.inl (v3 + 1))]) (st2 := []) (m2 := m) (fun n => rfl) ?_
        exact ax_fg (lv2 := [some (.inr (.inr (3, g0))), some (.inl v1), some (.inl (v2 ||| r7)), some (.inl (v3 + 1))]) ⟨rfl, rfl, rfl, rfl, trivial⟩ (ih (v2 ||| r7) (v3 + 1) _ h)
def F_X2_creditorsOfAll (m : ax_M) (g0 : Nat) (v1 : Int32) : Option Int32 := F_X2_creditorsOfAll_L4 ax_FU m g0 v1 0 0
set_option maxRecDepth 20000 in
set_option maxHeartbeats 4000000 in
theorem R_X2_creditorsOfAll {d : Nat} (hd : 3 ≤ d) {m : ax_M} {g0 : Nat} {v1 : Int32} {q : Int32} (h : F_X2_creditorsOfAll m g0 v1 = some q) : ax_Ru d L_X2_creditorsOfAll 0 (ax_entry [.inr (.inr (3, g0)), .inl v1] 4) [] m (some (.inl q), m) := by
  obtain ⟨e, rfl⟩ : ∃ e, d = e + 3 := ⟨d - 3, by omega⟩
  unfold F_X2_creditorsOfAll at h
  refine ax_go (j := 4) (k2 := 4) (lv2 := [some (.inr (.inr (3, g0))), some (.inl v1), some (.inl 0), some (.inl 0)]) (st2 := []) (m2 := m) (fun n => rfl) ?_
  refine ax_fg (lv2 := [some (.inr (.inr (3, g0))), some (.inl v1), some (.inl 0), some (.inl 0)]) ⟨rfl, rfl, rfl, rfl, trivial⟩ ?_
  refine R_X2_creditorsOfAll_L4 _ 0 0 _ h
def F_X2_links_L6 : Nat → ax_M → Nat → Int32 → Int32 → Int32 → Option Int32
  | 0, _, _, _, _, _ => none
  | n + 1, m, g0, v2, v3, v4 => if 8 ≤ v4 then (some (-1)) else (if ((ax_iushr v3 v2) &&& 1) = 0 then (ax_b (F_X2_creditorsOfAll m g0 v3) (fun r9 => F_X2_links_L6 n m g0 v2 (v3 ||| r9) (v4 + 1))) else (some v4))
set_option maxRecDepth 20000 in
set_option maxHeartbeats 4000000 in
theorem R_X2_links_L6 {e : Nat} {m : ax_M} {g0 : Nat} {v2 : Int32} : ∀ (n : Nat) (v3 : Int32) (v4 : Int32) (q : Int32), F_X2_links_L6 n m g0 v2 v3 v4 = some q → ax_Ru (e + 4) L_X2_links 6 [some (.inr (.inr (3, g0))), none, some (.inl v2), some (.inl v3), some (.inl v4)] [] m (some (.inl q), m) := by
  intro n
  induction n with
  | zero =>
    intro v3 v4 q h
    cases h
  | succ n ih =>
    intro v3 v4 q h
    rw [F_X2_links_L6] at h
    have s4 : ∀ n, ax_ex (e + 4) L_X2_links 6 [some (.inr (.inr (3, g0))), none, some (.inl v2), some (.inl v3), some (.inl v4)] [] m (n + 3) = if 8 ≤ v4 then ax_ex (e + 4) L_X2_links 25 [some (.inr (.inr (3, g0))), none, some (.inl v2), some (.inl v3), some (.inl v4)] [] m n else ax_ex (e + 4) L_X2_links 9 [some (.inr (.inr (3, g0))), none, some (.inl v2), some (.inl v3), some (.inl v4)] [] m n := fun n => rfl
    by_cases c3 : 8 ≤ v4
    · rw [if_pos c3] at h
      refine ax_gt c3 s4 ?_
      obtain rfl := Option.some.inj h
      exact ax_rs 2 (fun n => rfl)
    · rw [if_neg c3] at h
      refine ax_gf c3 s4 ?_
      refine ax_go (j := 5) (k2 := 14) (lv2 := [some (.inr (.inr (3, g0))), none, some (.inl v2), some (.inl v3), some (.inl v4)]) (st2 := [.inl ((ax_iushr v3 v2) &&& 1)]) (m2 := m) (fun n => rfl) ?_
      obtain ⟨y5, hy5⟩ : ∃ y : Int32, y = ((ax_iushr v3 v2) &&& 1) := ⟨_, rfl⟩
      rw [← hy5] at h ⊢
      have s7 : ∀ n, ax_ex (e + 4) L_X2_links 14 [some (.inr (.inr (3, g0))), none, some (.inl v2), some (.inl v3), some (.inl v4)] [.inl y5] m (n + 1) = if y5 = 0 then ax_ex (e + 4) L_X2_links 17 [some (.inr (.inr (3, g0))), none, some (.inl v2), some (.inl v3), some (.inl v4)] [] m n else ax_ex (e + 4) L_X2_links 15 [some (.inr (.inr (3, g0))), none, some (.inl v2), some (.inl v3), some (.inl v4)] [] m n := fun n => rfl
      by_cases c6 : y5 = 0
      · rw [if_pos c6] at h
        refine ax_gt c6 s7 ?_
        obtain ⟨r9, q8, h⟩ := ax_b_of h
        have s10 : ∀ n, ax_ex (e + 4) L_X2_links 17 [some (.inr (.inr (3, g0))), none, some (.inl v2), some (.inl v3), some (.inl v4)] [] m (n + 4) = ax_aft (fun s m2 => ax_ex (e + 4) L_X2_links 21 [some (.inr (.inr (3, g0))), none, some (.inl v2), some (.inl v3), some (.inl v4)] s m2 n) [.inl v3] (ax_ex (e + 3) L_X2_creditorsOfAll 0 (ax_entry [.inr (.inr (3, g0)), .inl v3] 4) [] m n) := fun n => rfl
        refine ax_gci (j := 4) (k2 := 21) (lv2 := [some (.inr (.inr (3, g0))), none, some (.inl v2), some (.inl v3), some (.inl v4)]) (rest := [.inl v3]) ((R_X2_creditorsOfAll (by omega) q8)) s10 ?_
        refine ax_go (j := 4) (k2 := 6) (lv2 := [some (.inr (.inr (3, g0))), none, some (.inl v2), some (.inl (v3 ||| r9)), some (.inl (v4 + 1))]) (st2 := []) (m2 := m) (fun n => rfl) ?_
        exact ax_fg (lv2 := [some (.inr (.inr (3, g0))), none, some (.inl v2), some (.inl (v3 ||| r9)), some (.inl (v4 + 1))]) ⟨rfl, rfl, rfl, rfl, trivial⟩ (ih (v3 ||| r9) (v4 + 1) _ h)
      · rw [if_neg c6] at h
        refine ax_gf c6 s7 ?_
        obtain rfl := Option.some.inj h
        exact ax_rs 2 (fun n => rfl)
def F_X2_links (m : ax_M) (g0 : Nat) (v1 : Int32) (v2 : Int32) : Option Int32 := ax_b (F_X2_creditorsOf m g0 v1) (fun r2 => F_X2_links_L6 ax_FU m g0 v2 r2 1)
set_option maxRecDepth 20000 in
set_option maxHeartbeats 4000000 in
theorem R_X2_links {d : Nat} (hd : 4 ≤ d) {m : ax_M} {g0 : Nat} {v1 : Int32} {v2 : Int32} {q : Int32} (h : F_X2_links m g0 v1 v2 = some q) : ax_Ru d L_X2_links 0 (ax_entry [.inr (.inr (3, g0)), .inl v1, .inl v2] 5) [] m (some (.inl q), m) := by
  obtain ⟨e, rfl⟩ : ∃ e, d = e + 4 := ⟨d - 4, by omega⟩
  unfold F_X2_links at h
  obtain ⟨r2, q1, h⟩ := ax_b_of h
  have s12 : ∀ n, ax_ex (e + 4) L_X2_links 0 (ax_entry [.inr (.inr (3, g0)), .inl v1, .inl v2] 5) [] m (n + 3) = ax_aft (fun s m2 => ax_ex (e + 4) L_X2_links 3 [some (.inr (.inr (3, g0))), some (.inl v1), some (.inl v2), none, none] s m2 n) [] (ax_ex (e + 3) L_X2_creditorsOf 0 (ax_entry [.inr (.inr (3, g0)), .inl v1] 4) [] m n) := fun n => rfl
  refine ax_gci (j := 3) (k2 := 3) (lv2 := [some (.inr (.inr (3, g0))), some (.inl v1), some (.inl v2), none, none]) (rest := []) ((R_X2_creditorsOf (by omega) q1)) s12 ?_
  refine ax_go (j := 3) (k2 := 6) (lv2 := [some (.inr (.inr (3, g0))), some (.inl v1), some (.inl v2), some (.inl r2), some (.inl 1)]) (st2 := []) (m2 := m) (fun n => rfl) ?_
  refine ax_fg (lv2 := [some (.inr (.inr (3, g0))), none, some (.inl v2), some (.inl r2), some (.inl 1)]) ⟨rfl, rfl, rfl, rfl, trivial⟩ ?_
  refine R_X2_links_L6 _ r2 1 _ h
def F_X6_fill (m : ax_M) (g0 : Nat) (v1 : Int32) (v2 : Int32) (v3 : Int32) (v4 : Int32) : Option ax_M := some (ax_ui (ax_ui (ax_ui (ax_ui m 6 g0 0 v1) 6 g0 1 v2) 6 g0 2 v3) 6 g0 3 v4)
set_option maxRecDepth 20000 in
set_option maxHeartbeats 4000000 in
theorem R_X6_fill {d : Nat} (hd : 1 ≤ d) {m : ax_M} {g0 : Nat} {v1 : Int32} {v2 : Int32} {v3 : Int32} {v4 : Int32} {q : ax_M} (h : F_X6_fill m g0 v1 v2 v3 v4 = some q) : ax_Ru d L_X6_fill 0 (ax_entry [.inr (.inr (6, g0)), .inl v1, .inl v2, .inl v3, .inl v4] 5) [] m (none, q) := by
  obtain ⟨e, rfl⟩ : ∃ e, d = e + 1 := ⟨d - 1, by omega⟩
  unfold F_X6_fill at h
  obtain rfl := Option.some.inj h
  exact ax_rs 13 (fun n => rfl)
def F_X6_become (m : ax_M) (g0 : Nat) (g1 : Nat) : Option ax_M := ax_b (F_X6_fill m g0 (m.1 6 g1 0) (m.1 6 g1 1) (m.1 6 g1 2) (m.1 6 g1 3)) (fun m3 => some m3)
set_option maxRecDepth 20000 in
set_option maxHeartbeats 4000000 in
theorem R_X6_become {d : Nat} (hd : 2 ≤ d) {m : ax_M} {g0 : Nat} {g1 : Nat} {q : ax_M} (h : F_X6_become m g0 g1 = some q) : ax_Ru d L_X6_become 0 (ax_entry [.inr (.inr (6, g0)), .inr (.inr (6, g1))] 2) [] m (none, q) := by
  obtain ⟨e, rfl⟩ : ∃ e, d = e + 2 := ⟨d - 2, by omega⟩
  unfold F_X6_become at h
  obtain ⟨m3, q1, h⟩ := ax_b_of h
  have s4 : ∀ n, ax_ex (e + 2) L_X6_become 0 (ax_entry [.inr (.inr (6, g0)), .inr (.inr (6, g1))] 2) [] m (n + 10) = ax_aft (fun s m2 => ax_ex (e + 2) L_X6_become 10 [some (.inr (.inr (6, g0))), some (.inr (.inr (6, g1)))] s m2 n) [] (ax_ex (e + 1) L_X6_fill 0 (ax_entry [.inr (.inr (6, g0)), .inl (m.1 6 g1 0), .inl (m.1 6 g1 1), .inl (m.1 6 g1 2), .inl (m.1 6 g1 3)] 5) [] m n) := fun n => rfl
  refine ax_gcv (j := 10) (k2 := 10) (lv2 := [some (.inr (.inr (6, g0))), some (.inr (.inr (6, g1)))]) (rest := []) ((R_X6_fill (by omega) q1)) s4 ?_
  obtain rfl := Option.some.inj h
  exact ax_rs 1 (fun n => rfl)
def F_X3_become_L27 : Nat → ax_M → Nat → Nat → Int32 → Option ax_M
  | 0, _, _, _, _ => none
  | n + 1, m, g0, g1, v2 => if 16 ≤ v2 then (some (ax_ui m 1 g0 6 (m.1 1 g1 6))) else (if ax_ok v2 16 = true then (if ax_ok v2 16 = true then (ax_b (F_X6_become m (16 * g0 + v2.toNatClampNeg) (16 * g1 + v2.toNatClampNeg)) (fun m14 => F_X3_become_L27 n m14 g0 g1 (v2 + 1))) else (none)) else (none))
set_option maxRecDepth 20000 in
set_option maxHeartbeats 4000000 in
theorem R_X3_become_L27 {e : Nat} {g0 : Nat} {g1 : Nat} : ∀ (n : Nat) (m : ax_M) (v2 : Int32) (q : ax_M), F_X3_become_L27 n m g0 g1 v2 = some q → ax_Ru (e + 7) L_X3_become 27 [some (.inr (.inr (1, g0))), some (.inr (.inr (1, g1))), some (.inl v2)] [] m (none, q) := by
  intro n
  induction n with
  | zero =>
    intro m v2 q h
    cases h
  | succ n ih =>
    intro m v2 q h
    rw [F_X3_become_L27] at h
    have s7 : ∀ n, ax_ex (e + 7) L_X3_become 27 [some (.inr (.inr (1, g0))), some (.inr (.inr (1, g1))), some (.inl v2)] [] m (n + 3) = if 16 ≤ v2 then ax_ex (e + 7) L_X3_become 41 [some (.inr (.inr (1, g0))), some (.inr (.inr (1, g1))), some (.inl v2)] [] m n else ax_ex (e + 7) L_X3_become 30 [some (.inr (.inr (1, g0))), some (.inr (.inr (1, g1))), some (.inl v2)] [] m n := fun n => rfl
    by_cases c6 : 16 ≤ v2
    · rw [if_pos c6] at h
      refine ax_gt c6 s7 ?_
      obtain rfl := Option.some.inj h
      exact ax_rs 5 (fun n => rfl)
    · rw [if_neg c6] at h
      refine ax_gf c6 s7 ?_
      have s9 : ∀ n, ax_ex (e + 7) L_X3_become 30 [some (.inr (.inr (1, g0))), some (.inr (.inr (1, g1))), some (.inl v2)] [] m (n + 4) = if ax_ok v2 16 = true then ax_ex (e + 7) L_X3_become 34 [some (.inr (.inr (1, g0))), some (.inr (.inr (1, g1))), some (.inl v2)] [.inr (.inr (6, (16 * g0 + v2.toNatClampNeg)))] m n else none := fun n => rfl
      by_cases c8 : ax_ok v2 16 = true
      · rw [if_pos c8] at h
        refine ax_gt c8 s9 ?_
        have s11 : ∀ n, ax_ex (e + 7) L_X3_become 34 [some (.inr (.inr (1, g0))), some (.inr (.inr (1, g1))), some (.inl v2)] [.inr (.inr (6, (16 * g0 + v2.toNatClampNeg)))] m (n + 4) = if ax_ok v2 16 = true then ax_ex (e + 7) L_X3_become 38 [some (.inr (.inr (1, g0))), some (.inr (.inr (1, g1))), some (.inl v2)] [.inr (.inr (6, (16 * g1 + v2.toNatClampNeg))), .inr (.inr (6, (16 * g0 + v2.toNatClampNeg)))] m n else none := fun n => rfl
        by_cases c10 : ax_ok v2 16 = true
        · rw [if_pos c10] at h
          refine ax_gt c10 s11 ?_
          obtain ⟨m14, q12, h⟩ := ax_b_of h
          have s15 : ∀ n, ax_ex (e + 7) L_X3_become 38 [some (.inr (.inr (1, g0))), some (.inr (.inr (1, g1))), some (.inl v2)] [.inr (.inr (6, (16 * g1 + v2.toNatClampNeg))), .inr (.inr (6, (16 * g0 + v2.toNatClampNeg)))] m (n + 1) = ax_aft (fun s m2 => ax_ex (e + 7) L_X3_become 39 [some (.inr (.inr (1, g0))), some (.inr (.inr (1, g1))), some (.inl v2)] s m2 n) [] (ax_ex (e + 6) L_X6_become 0 (ax_entry [.inr (.inr (6, (16 * g0 + v2.toNatClampNeg))), .inr (.inr (6, (16 * g1 + v2.toNatClampNeg)))] 2) [] m n) := fun n => rfl
          refine ax_gcv (j := 1) (k2 := 39) (lv2 := [some (.inr (.inr (1, g0))), some (.inr (.inr (1, g1))), some (.inl v2)]) (rest := []) ((R_X6_become (by omega) q12)) s15 ?_
          refine ax_go (j := 2) (k2 := 27) (lv2 := [some (.inr (.inr (1, g0))), some (.inr (.inr (1, g1))), some (.inl (v2 + 1))]) (st2 := []) (m2 := m14) (fun n => rfl) ?_
          exact ax_fg (lv2 := [some (.inr (.inr (1, g0))), some (.inr (.inr (1, g1))), some (.inl (v2 + 1))]) ⟨rfl, rfl, rfl, trivial⟩ (ih m14 (v2 + 1) _ h)
        · rw [if_neg c10] at h
          cases h
      · rw [if_neg c8] at h
        cases h
def F_X3_become (m : ax_M) (g0 : Nat) (g1 : Nat) : Option ax_M := ax_b (F_X2_become (ax_cpi (ax_ui (ax_ul m 1 g0 0 (m.2 1 g1 0)) 1 g0 1 ((ax_ul m 1 g0 0 (m.2 1 g1 0)).1 1 g1 1)) 2 g1 2 g0 (0 : Int32).toNatClampNeg (0 : Int32).toNatClampNeg (8 : Int32).toNatClampNeg) g0 g1) (fun m5 => F_X3_become_L27 ax_FU (ax_ui m5 1 g0 4 (m5.1 1 g1 4)) g0 g1 0)
set_option maxRecDepth 20000 in
set_option maxHeartbeats 4000000 in
theorem R_X3_become {d : Nat} (hd : 7 ≤ d) {m : ax_M} {g0 : Nat} {g1 : Nat} {q : ax_M} (h : F_X3_become m g0 g1 = some q) : ax_Ru d L_X3_become 0 (ax_entry [.inr (.inr (1, g0)), .inr (.inr (1, g1))] 3) [] m (none, q) := by
  obtain ⟨e, rfl⟩ : ∃ e, d = e + 7 := ⟨d - 7, by omega⟩
  unfold F_X3_become at h
  have s2 : ∀ n, ax_ex (e + 7) L_X3_become 0 (ax_entry [.inr (.inr (1, g0)), .inr (.inr (1, g1))] 3) [] m (n + 16) = ax_aft (fun s m2 => ax_ex (e + 7) L_X3_become 16 [some (.inr (.inr (1, g0))), some (.inr (.inr (1, g1))), none] s m2 n) [] (if 0 ≤ (0 : Int32).toInt ∧ 0 ≤ (0 : Int32).toInt ∧ 0 ≤ (8 : Int32).toInt ∧ (0 : Int32).toInt + (8 : Int32).toInt ≤ 8 ∧ (0 : Int32).toInt + (8 : Int32).toInt ≤ 8 then some (none, (ax_cpi (ax_ui (ax_ul m 1 g0 0 (m.2 1 g1 0)) 1 g0 1 ((ax_ul m 1 g0 0 (m.2 1 g1 0)).1 1 g1 1)) 2 g1 2 g0 (0 : Int32).toNatClampNeg (0 : Int32).toNatClampNeg (8 : Int32).toNatClampNeg)) else none) := fun n => rfl
  refine ax_go (j := 16) (k2 := 16) (lv2 := [some (.inr (.inr (1, g0))), some (.inr (.inr (1, g1))), none]) (st2 := []) (m2 := (ax_cpi (ax_ui (ax_ul m 1 g0 0 (m.2 1 g1 0)) 1 g0 1 ((ax_ul m 1 g0 0 (m.2 1 g1 0)).1 1 g1 1)) 2 g1 2 g0 (0 : Int32).toNatClampNeg (0 : Int32).toNatClampNeg (8 : Int32).toNatClampNeg)) (fun n => by rw [s2 n, if_pos (by decide)]; rfl) ?_
  obtain ⟨m5, q3, h⟩ := ax_b_of h
  have s17 : ∀ n, ax_ex (e + 7) L_X3_become 16 [some (.inr (.inr (1, g0))), some (.inr (.inr (1, g1))), none] [] (ax_cpi (ax_ui (ax_ul m 1 g0 0 (m.2 1 g1 0)) 1 g0 1 ((ax_ul m 1 g0 0 (m.2 1 g1 0)).1 1 g1 1)) 2 g1 2 g0 (0 : Int32).toNatClampNeg (0 : Int32).toNatClampNeg (8 : Int32).toNatClampNeg) (n + 5) = ax_aft (fun s m2 => ax_ex (e + 7) L_X3_become 21 [some (.inr (.inr (1, g0))), some (.inr (.inr (1, g1))), none] s m2 n) [] (ax_ex (e + 6) L_X2_become 0 (ax_entry [.inr (.inr (3, g0)), .inr (.inr (3, g1))] 2) [] (ax_cpi (ax_ui (ax_ul m 1 g0 0 (m.2 1 g1 0)) 1 g0 1 ((ax_ul m 1 g0 0 (m.2 1 g1 0)).1 1 g1 1)) 2 g1 2 g0 (0 : Int32).toNatClampNeg (0 : Int32).toNatClampNeg (8 : Int32).toNatClampNeg) n) := fun n => rfl
  refine ax_gcv (j := 5) (k2 := 21) (lv2 := [some (.inr (.inr (1, g0))), some (.inr (.inr (1, g1))), none]) (rest := []) ((R_X2_become (by omega) q3)) s17 ?_
  refine ax_go (j := 6) (k2 := 27) (lv2 := [some (.inr (.inr (1, g0))), some (.inr (.inr (1, g1))), some (.inl 0)]) (st2 := []) (m2 := (ax_ui m5 1 g0 4 (m5.1 1 g1 4))) (fun n => rfl) ?_
  refine ax_fg (lv2 := [some (.inr (.inr (1, g0))), some (.inr (.inr (1, g1))), some (.inl 0)]) ⟨rfl, rfl, rfl, trivial⟩ ?_
  refine R_X3_become_L27 _ (ax_ui m5 1 g0 4 (m5.1 1 g1 4)) 0 _ h
def F_X3_isPerson (m : ax_M) (g0 : Nat) (v1 : Int32) : Option Int32 := if v1 < 0 then (some 0) else (if (m.1 1 g0 1) ≤ v1 then (some 0) else (some 1))
set_option maxRecDepth 20000 in
set_option maxHeartbeats 4000000 in
theorem R_X3_isPerson {d : Nat} (hd : 1 ≤ d) {m : ax_M} {g0 : Nat} {v1 : Int32} {q : Int32} (h : F_X3_isPerson m g0 v1 = some q) : ax_Ru d L_X3_isPerson 0 (ax_entry [.inr (.inr (1, g0)), .inl v1] 2) [] m (some (.inl q), m) := by
  obtain ⟨e, rfl⟩ : ∃ e, d = e + 1 := ⟨d - 1, by omega⟩
  unfold F_X3_isPerson at h
  have s2 : ∀ n, ax_ex (e + 1) L_X3_isPerson 0 (ax_entry [.inr (.inr (1, g0)), .inl v1] 2) [] m (n + 2) = if v1 < 0 then ax_ex (e + 1) L_X3_isPerson 8 [some (.inr (.inr (1, g0))), some (.inl v1)] [] m n else ax_ex (e + 1) L_X3_isPerson 2 [some (.inr (.inr (1, g0))), some (.inl v1)] [] m n := fun n => rfl
  by_cases c1 : v1 < 0
  · rw [if_pos c1] at h
    refine ax_gt c1 s2 ?_
    obtain rfl := Option.some.inj h
    exact ax_rq (c := (0 : Int32) = 0 ∨ (0 : Int32) = 1) (j := 2) (by decide) (fun n => rfl)
  · rw [if_neg c1] at h
    refine ax_gf c1 s2 ?_
    have s4 : ∀ n, ax_ex (e + 1) L_X3_isPerson 2 [some (.inr (.inr (1, g0))), some (.inl v1)] [] m (n + 4) = if (m.1 1 g0 1) ≤ v1 then ax_ex (e + 1) L_X3_isPerson 8 [some (.inr (.inr (1, g0))), some (.inl v1)] [] m n else ax_ex (e + 1) L_X3_isPerson 6 [some (.inr (.inr (1, g0))), some (.inl v1)] [] m n := fun n => rfl
    by_cases c3 : (m.1 1 g0 1) ≤ v1
    · rw [if_pos c3] at h
      refine ax_gt c3 s4 ?_
      obtain rfl := Option.some.inj h
      exact ax_rq (c := (0 : Int32) = 0 ∨ (0 : Int32) = 1) (j := 2) (by decide) (fun n => rfl)
    · rw [if_neg c3] at h
      refine ax_gf c3 s4 ?_
      obtain rfl := Option.some.inj h
      exact ax_rq (c := (1 : Int32) = 0 ∨ (1 : Int32) = 1) (j := 3) (by decide) (fun n => rfl)
def F_X3_isSeed (m : ax_M) (g0 : Nat) (v1 : Int32) : Option Int32 := if v1 < 0 then (some 0) else (if (m.1 1 g0 4) ≤ v1 then (some 0) else (some 1))
set_option maxRecDepth 20000 in
set_option maxHeartbeats 4000000 in
theorem R_X3_isSeed {d : Nat} (hd : 1 ≤ d) {m : ax_M} {g0 : Nat} {v1 : Int32} {q : Int32} (h : F_X3_isSeed m g0 v1 = some q) : ax_Ru d L_X3_isSeed 0 (ax_entry [.inr (.inr (1, g0)), .inl v1] 2) [] m (some (.inl q), m) := by
  obtain ⟨e, rfl⟩ : ∃ e, d = e + 1 := ⟨d - 1, by omega⟩
  unfold F_X3_isSeed at h
  have s2 : ∀ n, ax_ex (e + 1) L_X3_isSeed 0 (ax_entry [.inr (.inr (1, g0)), .inl v1] 2) [] m (n + 2) = if v1 < 0 then ax_ex (e + 1) L_X3_isSeed 8 [some (.inr (.inr (1, g0))), some (.inl v1)] [] m n else ax_ex (e + 1) L_X3_isSeed 2 [some (.inr (.inr (1, g0))), some (.inl v1)] [] m n := fun n => rfl
  by_cases c1 : v1 < 0
  · rw [if_pos c1] at h
    refine ax_gt c1 s2 ?_
    obtain rfl := Option.some.inj h
    exact ax_rq (c := (0 : Int32) = 0 ∨ (0 : Int32) = 1) (j := 2) (by decide) (fun n => rfl)
  · rw [if_neg c1] at h
    refine ax_gf c1 s2 ?_
    have s4 : ∀ n, ax_ex (e + 1) L_X3_isSeed 2 [some (.inr (.inr (1, g0))), some (.inl v1)] [] m (n + 4) = if (m.1 1 g0 4) ≤ v1 then ax_ex (e + 1) L_X3_isSeed 8 [some (.inr (.inr (1, g0))), some (.inl v1)] [] m n else ax_ex (e + 1) L_X3_isSeed 6 [some (.inr (.inr (1, g0))), some (.inl v1)] [] m n := fun n => rfl
    by_cases c3 : (m.1 1 g0 4) ≤ v1
    · rw [if_pos c3] at h
      refine ax_gt c3 s4 ?_
      obtain rfl := Option.some.inj h
      exact ax_rq (c := (0 : Int32) = 0 ∨ (0 : Int32) = 1) (j := 2) (by decide) (fun n => rfl)
    · rw [if_neg c3] at h
      refine ax_gf c3 s4 ?_
      obtain rfl := Option.some.inj h
      exact ax_rq (c := (1 : Int32) = 0 ∨ (1 : Int32) = 1) (j := 3) (by decide) (fun n => rfl)
def F_X3_hasWall (m : ax_M) (g0 : Nat) (v1 : Int32) : Option Int32 := ax_b (F_X0_has (m.2 1 g0 0) v1) (fun r2 => if r2 = 0 ∨ r2 = 1 then some r2 else none)
set_option maxRecDepth 20000 in
set_option maxHeartbeats 4000000 in
theorem R_X3_hasWall {d : Nat} (hd : 3 ≤ d) {m : ax_M} {g0 : Nat} {v1 : Int32} {q : Int32} (h : F_X3_hasWall m g0 v1 = some q) : ax_Ru d L_X3_hasWall 0 (ax_entry [.inr (.inr (1, g0)), .inl v1] 2) [] m (some (.inl q), m) := by
  obtain ⟨e, rfl⟩ : ∃ e, d = e + 3 := ⟨d - 3, by omega⟩
  unfold F_X3_hasWall at h
  obtain ⟨r2, q1, h⟩ := ax_b_of h
  have s4 : ∀ n, ax_ex (e + 3) L_X3_hasWall 0 (ax_entry [.inr (.inr (1, g0)), .inl v1] 2) [] m (n + 4) = ax_aft (fun s m2 => ax_ex (e + 3) L_X3_hasWall 4 [some (.inr (.inr (1, g0))), some (.inl v1)] s m2 n) [] (ax_ex (e + 2) L_X0_has 0 (ax_entry [.inr (.inl (m.2 1 g0 0)), .inl v1] 3) [] m n) := fun n => rfl
  refine ax_gci (j := 4) (k2 := 4) (lv2 := [some (.inr (.inr (1, g0))), some (.inl v1)]) (rest := []) ((R_X0_has (by omega) q1)) s4 ?_
  have s_ : ∀ n, ax_ex (e + 3) L_X3_hasWall 4 [some (.inr (.inr (1, g0))), some (.inl v1)] [.inl r2] m (n + 1) = if r2 = 0 ∨ r2 = 1 then some (some (.inl r2), m) else none := fun n => rfl
  by_cases c3 : r2 = 0 ∨ r2 = 1
  · rw [if_pos c3] at h
    obtain rfl := Option.some.inj h
    exact ax_rs 1 (fun n => (s_ n).trans (if_pos c3))
  · rw [if_neg c3] at h
    cases h
def F_X3_putWall (m : ax_M) (g0 : Nat) (v1 : Int32) (v2 : Int32) : Option ax_M := if v2 = 0 then (ax_b (F_X0_bit v1) (fun r4 => some (ax_ul m 1 g0 0 ((m.2 1 g0 0) &&& (r4 ^^^ (-1)))))) else (ax_b (F_X0_bit v1) (fun r7 => some (ax_ul m 1 g0 0 ((m.2 1 g0 0) ||| r7))))
set_option maxRecDepth 20000 in
set_option maxHeartbeats 4000000 in
theorem R_X3_putWall {d : Nat} (hd : 2 ≤ d) {m : ax_M} {g0 : Nat} {v1 : Int32} {v2 : Int32} {q : ax_M} (h : F_X3_putWall m g0 v1 v2 = some q) : ax_Ru d L_X3_putWall 0 (ax_entry [.inr (.inr (1, g0)), .inl v1, .inl v2] 3) [] m (none, q) := by
  obtain ⟨e, rfl⟩ : ∃ e, d = e + 2 := ⟨d - 2, by omega⟩
  unfold F_X3_putWall at h
  have s2 : ∀ n, ax_ex (e + 2) L_X3_putWall 0 (ax_entry [.inr (.inr (1, g0)), .inl v1, .inl v2] 3) [] m (n + 3) = if v2 = 0 then ax_ex (e + 2) L_X3_putWall 9 [some (.inr (.inr (1, g0))), some (.inl v1), some (.inl v2)] [.inr (.inr (1, g0))] m n else ax_ex (e + 2) L_X3_putWall 3 [some (.inr (.inr (1, g0))), some (.inl v1), some (.inl v2)] [.inr (.inr (1, g0))] m n := fun n => rfl
  by_cases c1 : v2 = 0
  · rw [if_pos c1] at h
    refine ax_gt c1 s2 ?_
    obtain ⟨r4, q3, h⟩ := ax_b_of h
    have s5 : ∀ n, ax_ex (e + 2) L_X3_putWall 9 [some (.inr (.inr (1, g0))), some (.inl v1), some (.inl v2)] [.inr (.inr (1, g0))] m (n + 4) = ax_aft (fun s m2 => ax_ex (e + 2) L_X3_putWall 13 [some (.inr (.inr (1, g0))), some (.inl v1), some (.inl v2)] s m2 n) [.inr (.inl (m.2 1 g0 0)), .inr (.inr (1, g0))] (ax_ex (e + 1) L_X0_bit 0 (ax_entry [.inl v1] 1) [] m n) := fun n => rfl
    refine ax_gcl (j := 4) (k2 := 13) (lv2 := [some (.inr (.inr (1, g0))), some (.inl v1), some (.inl v2)]) (rest := [.inr (.inl (m.2 1 g0 0)), .inr (.inr (1, g0))]) ((R_X0_bit (by omega) q3)) s5 ?_
    obtain rfl := Option.some.inj h
    exact ax_rs 5 (fun n => rfl)
  · rw [if_neg c1] at h
    refine ax_gf c1 s2 ?_
    obtain ⟨r7, q6, h⟩ := ax_b_of h
    have s8 : ∀ n, ax_ex (e + 2) L_X3_putWall 3 [some (.inr (.inr (1, g0))), some (.inl v1), some (.inl v2)] [.inr (.inr (1, g0))] m (n + 4) = ax_aft (fun s m2 => ax_ex (e + 2) L_X3_putWall 7 [some (.inr (.inr (1, g0))), some (.inl v1), some (.inl v2)] s m2 n) [.inr (.inl (m.2 1 g0 0)), .inr (.inr (1, g0))] (ax_ex (e + 1) L_X0_bit 0 (ax_entry [.inl v1] 1) [] m n) := fun n => rfl
    refine ax_gcl (j := 4) (k2 := 7) (lv2 := [some (.inr (.inr (1, g0))), some (.inl v1), some (.inl v2)]) (rest := [.inr (.inl (m.2 1 g0 0)), .inr (.inr (1, g0))]) ((R_X0_bit (by omega) q6)) s8 ?_
    obtain rfl := Option.some.inj h
    exact ax_rs 4 (fun n => rfl)
def F_X3_peopleWithin_L4 : Nat → ax_M → Nat → Int64 → Int32 → Int32 → Option Int32
  | 0, _, _, _, _, _ => none
  | n + 1, m, g0, v1, v3, v4 => if (m.1 1 g0 1) ≤ v4 then (some v3) else (if ax_ok v4 8 = true then (ax_b (F_X0_has v1 (m.1 2 g0 v4.toNatClampNeg)) (fun r6 => if r6 = 0 then (F_X3_peopleWithin_L4 n m g0 v1 v3 (v4 + 1)) else (F_X3_peopleWithin_L4 n m g0 v1 (v3 ||| (ax_ishl 1 v4)) (v4 + 1)))) else (none))
set_option maxRecDepth 20000 in
set_option maxHeartbeats 4000000 in
theorem R_X3_peopleWithin_L4 {e : Nat} {m : ax_M} {g0 : Nat} {v1 : Int64} : ∀ (n : Nat) (v3 : Int32) (v4 : Int32) (q : Int32), F_X3_peopleWithin_L4 n m g0 v1 v3 v4 = some q → ax_Ru (e + 3) L_X3_peopleWithin 4 [some (.inr (.inr (1, g0))), some (.inr (.inl v1)), none, some (.inl v3), some (.inl v4)] [] m (some (.inl q), m) := by
  intro n
  induction n with
  | zero =>
    intro v3 v4 q h
    cases h
  | succ n ih =>
    intro v3 v4 q h
    rw [F_X3_peopleWithin_L4] at h
    have s2 : ∀ n, ax_ex (e + 3) L_X3_peopleWithin 4 [some (.inr (.inr (1, g0))), some (.inr (.inl v1)), none, some (.inl v3), some (.inl v4)] [] m (n + 4) = if (m.1 1 g0 1) ≤ v4 then ax_ex (e + 3) L_X3_peopleWithin 23 [some (.inr (.inr (1, g0))), some (.inr (.inl v1)), none, some (.inl v3), some (.inl v4)] [] m n else ax_ex (e + 3) L_X3_peopleWithin 8 [some (.inr (.inr (1, g0))), some (.inr (.inl v1)), none, some (.inl v3), some (.inl v4)] [] m n := fun n => rfl
    by_cases c1 : (m.1 1 g0 1) ≤ v4
    · rw [if_pos c1] at h
      refine ax_gt c1 s2 ?_
      obtain rfl := Option.some.inj h
      exact ax_rs 2 (fun n => rfl)
    · rw [if_neg c1] at h
      refine ax_gf c1 s2 ?_
      have s4 : ∀ n, ax_ex (e + 3) L_X3_peopleWithin 8 [some (.inr (.inr (1, g0))), some (.inr (.inl v1)), none, some (.inl v3), some (.inl v4)] [] m (n + 5) = if ax_ok v4 8 = true then ax_ex (e + 3) L_X3_peopleWithin 13 [some (.inr (.inr (1, g0))), some (.inr (.inl v1)), none, some (.inl v3), some (.inl v4)] [.inl (m.1 2 g0 v4.toNatClampNeg), .inr (.inl v1)] m n else none := fun n => rfl
      by_cases c3 : ax_ok v4 8 = true
      · rw [if_pos c3] at h
        refine ax_gt c3 s4 ?_
        obtain ⟨r6, q5, h⟩ := ax_b_of h
        have s9 : ∀ n, ax_ex (e + 3) L_X3_peopleWithin 13 [some (.inr (.inr (1, g0))), some (.inr (.inl v1)), none, some (.inl v3), some (.inl v4)] [.inl (m.1 2 g0 v4.toNatClampNeg), .inr (.inl v1)] m (n + 1) = ax_aft (fun s m2 => ax_ex (e + 3) L_X3_peopleWithin 14 [some (.inr (.inr (1, g0))), some (.inr (.inl v1)), none, some (.inl v3), some (.inl v4)] s m2 n) [] (ax_ex (e + 2) L_X0_has 0 (ax_entry [.inr (.inl v1), .inl (m.1 2 g0 v4.toNatClampNeg)] 3) [] m n) := fun n => rfl
        refine ax_gci (j := 1) (k2 := 14) (lv2 := [some (.inr (.inr (1, g0))), some (.inr (.inl v1)), none, some (.inl v3), some (.inl v4)]) (rest := []) ((R_X0_has (by omega) q5)) s9 ?_
        have s8 : ∀ n, ax_ex (e + 3) L_X3_peopleWithin 14 [some (.inr (.inr (1, g0))), some (.inr (.inl v1)), none, some (.inl v3), some (.inl v4)] [.inl r6] m (n + 1) = if r6 = 0 then ax_ex (e + 3) L_X3_peopleWithin 21 [some (.inr (.inr (1, g0))), some (.inr (.inl v1)), none, some (.inl v3), some (.inl v4)] [] m n else ax_ex (e + 3) L_X3_peopleWithin 15 [some (.inr (.inr (1, g0))), some (.inr (.inl v1)), none, some (.inl v3), some (.inl v4)] [] m n := fun n => rfl
        by_cases c7 : r6 = 0
        · rw [if_pos c7] at h
          refine ax_gt c7 s8 ?_
          refine ax_go (j := 2) (k2 := 4) (lv2 := [some (.inr (.inr (1, g0))), some (.inr (.inl v1)), none, some (.inl v3), some (.inl (v4 + 1))]) (st2 := []) (m2 := m) (fun n => rfl) ?_
          exact ax_fg (lv2 := [some (.inr (.inr (1, g0))), some (.inr (.inl v1)), none, some (.inl v3), some (.inl (v4 + 1))]) ⟨rfl, rfl, rfl, rfl, trivial⟩ (ih v3 (v4 + 1) _ h)
        · rw [if_neg c7] at h
          refine ax_gf c7 s8 ?_
          refine ax_go (j := 8) (k2 := 4) (lv2 := [some (.inr (.inr (1, g0))), some (.inr (.inl v1)), none, some (.inl (v3 ||| (ax_ishl 1 v4))), some (.inl (v4 + 1))]) (st2 := []) (m2 := m) (fun n => rfl) ?_
          exact ax_fg (lv2 := [some (.inr (.inr (1, g0))), some (.inr (.inl v1)), none, some (.inl (v3 ||| (ax_ishl 1 v4))), some (.inl (v4 + 1))]) ⟨rfl, rfl, rfl, rfl, trivial⟩ (ih (v3 ||| (ax_ishl 1 v4)) (v4 + 1) _ h)
      · rw [if_neg c3] at h
        cases h
def F_X3_peopleWithin (m : ax_M) (g0 : Nat) (v1 : Int64) : Option Int32 := F_X3_peopleWithin_L4 ax_FU m g0 v1 0 0
set_option maxRecDepth 20000 in
set_option maxHeartbeats 4000000 in
theorem R_X3_peopleWithin {d : Nat} (hd : 3 ≤ d) {m : ax_M} {g0 : Nat} {v1 : Int64} {q : Int32} (h : F_X3_peopleWithin m g0 v1 = some q) : ax_Ru d L_X3_peopleWithin 0 (ax_entry [.inr (.inr (1, g0)), .inr (.inl v1)] 5) [] m (some (.inl q), m) := by
  obtain ⟨e, rfl⟩ : ∃ e, d = e + 3 := ⟨d - 3, by omega⟩
  unfold F_X3_peopleWithin at h
  refine ax_go (j := 4) (k2 := 4) (lv2 := [some (.inr (.inr (1, g0))), some (.inr (.inl v1)), none, some (.inl 0), some (.inl 0)]) (st2 := []) (m2 := m) (fun n => rfl) ?_
  refine ax_fg (lv2 := [some (.inr (.inr (1, g0))), some (.inr (.inl v1)), none, some (.inl 0), some (.inl 0)]) ⟨rfl, rfl, rfl, rfl, trivial⟩ ?_
  refine R_X3_peopleWithin_L4 _ 0 0 _ h
def F_X3_isStoodOn (m : ax_M) (g0 : Nat) (v1 : Int32) : Option Int32 := ax_b (F_X0_bit v1) (fun r2 => ax_b (F_X3_peopleWithin m g0 r2) (fun r4 => if r4 = 0 then (some 0) else (some 1)))
set_option maxRecDepth 20000 in
set_option maxHeartbeats 4000000 in
theorem R_X3_isStoodOn {d : Nat} (hd : 4 ≤ d) {m : ax_M} {g0 : Nat} {v1 : Int32} {q : Int32} (h : F_X3_isStoodOn m g0 v1 = some q) : ax_Ru d L_X3_isStoodOn 0 (ax_entry [.inr (.inr (1, g0)), .inl v1] 2) [] m (some (.inl q), m) := by
  obtain ⟨e, rfl⟩ : ∃ e, d = e + 4 := ⟨d - 4, by omega⟩
  unfold F_X3_isStoodOn at h
  obtain ⟨r2, q1, h⟩ := ax_b_of h
  have s8 : ∀ n, ax_ex (e + 4) L_X3_isStoodOn 0 (ax_entry [.inr (.inr (1, g0)), .inl v1] 2) [] m (n + 3) = ax_aft (fun s m2 => ax_ex (e + 4) L_X3_isStoodOn 3 [some (.inr (.inr (1, g0))), some (.inl v1)] s m2 n) [.inr (.inr (1, g0))] (ax_ex (e + 3) L_X0_bit 0 (ax_entry [.inl v1] 1) [] m n) := fun n => rfl
  refine ax_gcl (j := 3) (k2 := 3) (lv2 := [some (.inr (.inr (1, g0))), some (.inl v1)]) (rest := [.inr (.inr (1, g0))]) ((R_X0_bit (by omega) q1)) s8 ?_
  obtain ⟨r4, q3, h⟩ := ax_b_of h
  have s7 : ∀ n, ax_ex (e + 4) L_X3_isStoodOn 3 [some (.inr (.inr (1, g0))), some (.inl v1)] [.inr (.inl r2), .inr (.inr (1, g0))] m (n + 1) = ax_aft (fun s m2 => ax_ex (e + 4) L_X3_isStoodOn 4 [some (.inr (.inr (1, g0))), some (.inl v1)] s m2 n) [] (ax_ex (e + 3) L_X3_peopleWithin 0 (ax_entry [.inr (.inr (1, g0)), .inr (.inl r2)] 5) [] m n) := fun n => rfl
  refine ax_gci (j := 1) (k2 := 4) (lv2 := [some (.inr (.inr (1, g0))), some (.inl v1)]) (rest := []) ((R_X3_peopleWithin (by omega) q3)) s7 ?_
  have s6 : ∀ n, ax_ex (e + 4) L_X3_isStoodOn 4 [some (.inr (.inr (1, g0))), some (.inl v1)] [.inl r4] m (n + 1) = if r4 = 0 then ax_ex (e + 4) L_X3_isStoodOn 7 [some (.inr (.inr (1, g0))), some (.inl v1)] [] m n else ax_ex (e + 4) L_X3_isStoodOn 5 [some (.inr (.inr (1, g0))), some (.inl v1)] [] m n := fun n => rfl
  by_cases c5 : r4 = 0
  · rw [if_pos c5] at h
    refine ax_gt c5 s6 ?_
    obtain rfl := Option.some.inj h
    exact ax_rq (c := (0 : Int32) = 0 ∨ (0 : Int32) = 1) (j := 2) (by decide) (fun n => rfl)
  · rw [if_neg c5] at h
    refine ax_gf c5 s6 ?_
    obtain rfl := Option.some.inj h
    exact ax_rq (c := (1 : Int32) = 0 ∨ (1 : Int32) = 1) (j := 3) (by decide) (fun n => rfl)
def F_X3_addPerson (m : ax_M) (g0 : Nat) (v1 : Int32) : Option (Int32 × ax_M) := if ax_ok (m.1 1 g0 1) 8 = true then (some ((((ax_ui (ax_ui m 2 g0 (m.1 1 g0 1).toNatClampNeg v1) 1 g0 1 (((ax_ui m 2 g0 (m.1 1 g0 1).toNatClampNeg v1).1 1 g0 1) + 1)).1 1 g0 1) - 1), (ax_ui (ax_ui m 2 g0 (m.1 1 g0 1).toNatClampNeg v1) 1 g0 1 (((ax_ui m 2 g0 (m.1 1 g0 1).toNatClampNeg v1).1 1 g0 1) + 1)))) else (none)
set_option maxRecDepth 20000 in
set_option maxHeartbeats 4000000 in
theorem R_X3_addPerson {d : Nat} (hd : 1 ≤ d) {m : ax_M} {g0 : Nat} {v1 : Int32} {q : (Int32 × ax_M)} (h : F_X3_addPerson m g0 v1 = some q) : ax_Ru d L_X3_addPerson 0 (ax_entry [.inr (.inr (1, g0)), .inl v1] 2) [] m (some (.inl q.1), q.2) := by
  obtain ⟨e, rfl⟩ : ∃ e, d = e + 1 := ⟨d - 1, by omega⟩
  unfold F_X3_addPerson at h
  have s2 : ∀ n, ax_ex (e + 1) L_X3_addPerson 0 (ax_entry [.inr (.inr (1, g0)), .inl v1] 2) [] m (n + 6) = if ax_ok (m.1 1 g0 1) 8 = true then ax_ex (e + 1) L_X3_addPerson 6 [some (.inr (.inr (1, g0))), some (.inl v1)] [] (ax_ui m 2 g0 (m.1 1 g0 1).toNatClampNeg v1) n else none := fun n => rfl
  by_cases c1 : ax_ok (m.1 1 g0 1) 8 = true
  · rw [if_pos c1] at h
    refine ax_gt c1 s2 ?_
    obtain rfl := Option.some.inj h
    exact ax_rs 11 (fun n => rfl)
  · rw [if_neg c1] at h
    cases h
def F_X3_addSeed (m : ax_M) (g0 : Nat) (v1 : Int32) (v2 : Int32) (v3 : Int32) (v4 : Int32) : Option (Int32 × ax_M) := if ax_ok (m.1 1 g0 4) 16 = true then (ax_b (F_X6_fill m (16 * g0 + (m.1 1 g0 4).toNatClampNeg) v1 v2 v3 v4) (fun m5 => some ((((ax_ui m5 1 g0 4 ((m5.1 1 g0 4) + 1)).1 1 g0 4) - 1), (ax_ui m5 1 g0 4 ((m5.1 1 g0 4) + 1))))) else (none)
set_option maxRecDepth 20000 in
set_option maxHeartbeats 4000000 in
theorem R_X3_addSeed {d : Nat} (hd : 2 ≤ d) {m : ax_M} {g0 : Nat} {v1 : Int32} {v2 : Int32} {v3 : Int32} {v4 : Int32} {q : (Int32 × ax_M)} (h : F_X3_addSeed m g0 v1 v2 v3 v4 = some q) : ax_Ru d L_X3_addSeed 0 (ax_entry [.inr (.inr (1, g0)), .inl v1, .inl v2, .inl v3, .inl v4] 5) [] m (some (.inl q.1), q.2) := by
  obtain ⟨e, rfl⟩ : ∃ e, d = e + 2 := ⟨d - 2, by omega⟩
  unfold F_X3_addSeed at h
  have s2 : ∀ n, ax_ex (e + 2) L_X3_addSeed 0 (ax_entry [.inr (.inr (1, g0)), .inl v1, .inl v2, .inl v3, .inl v4] 5) [] m (n + 5) = if ax_ok (m.1 1 g0 4) 16 = true then ax_ex (e + 2) L_X3_addSeed 5 [some (.inr (.inr (1, g0))), some (.inl v1), some (.inl v2), some (.inl v3), some (.inl v4)] [.inr (.inr (6, (16 * g0 + (m.1 1 g0 4).toNatClampNeg)))] m n else none := fun n => rfl
  by_cases c1 : ax_ok (m.1 1 g0 4) 16 = true
  · rw [if_pos c1] at h
    refine ax_gt c1 s2 ?_
    obtain ⟨m5, q3, h⟩ := ax_b_of h
    have s6 : ∀ n, ax_ex (e + 2) L_X3_addSeed 5 [some (.inr (.inr (1, g0))), some (.inl v1), some (.inl v2), some (.inl v3), some (.inl v4)] [.inr (.inr (6, (16 * g0 + (m.1 1 g0 4).toNatClampNeg)))] m (n + 5) = ax_aft (fun s m2 => ax_ex (e + 2) L_X3_addSeed 10 [some (.inr (.inr (1, g0))), some (.inl v1), some (.inl v2), some (.inl v3), some (.inl v4)] s m2 n) [] (ax_ex (e + 1) L_X6_fill 0 (ax_entry [.inr (.inr (6, (16 * g0 + (m.1 1 g0 4).toNatClampNeg))), .inl v1, .inl v2, .inl v3, .inl v4] 5) [] m n) := fun n => rfl
    refine ax_gcv (j := 5) (k2 := 10) (lv2 := [some (.inr (.inr (1, g0))), some (.inl v1), some (.inl v2), some (.inl v3), some (.inl v4)]) (rest := []) ((R_X6_fill (by omega) q3)) s6 ?_
    obtain rfl := Option.some.inj h
    exact ax_rs 11 (fun n => rfl)
  · rw [if_neg c1] at h
    cases h
def F_X3_debtors_L4 : Nat → ax_M → Nat → Int32 → Int32 → Option Int32
  | 0, _, _, _, _ => none
  | n + 1, m, g0, v1, v2 => if (m.1 1 g0 1) ≤ v2 then (some v1) else (ax_b (F_X2_owedBy m g0 v2) (fun r4 => if r4 ≤ 0 then (F_X3_debtors_L4 n m g0 v1 (v2 + 1)) else (F_X3_debtors_L4 n m g0 (v1 + 1) (v2 + 1))))
set_option maxRecDepth 20000 in
set_option maxHeartbeats 4000000 in
theorem R_X3_debtors_L4 {e : Nat} {m : ax_M} {g0 : Nat} : ∀ (n : Nat) (v1 : Int32) (v2 : Int32) (q : Int32), F_X3_debtors_L4 n m g0 v1 v2 = some q → ax_Ru (e + 3) L_X3_debtors 4 [some (.inr (.inr (1, g0))), some (.inl v1), some (.inl v2)] [] m (some (.inl q), m) := by
  intro n
  induction n with
  | zero =>
    intro v1 v2 q h
    cases h
  | succ n ih =>
    intro v1 v2 q h
    rw [F_X3_debtors_L4] at h
    have s2 : ∀ n, ax_ex (e + 3) L_X3_debtors 4 [some (.inr (.inr (1, g0))), some (.inl v1), some (.inl v2)] [] m (n + 4) = if (m.1 1 g0 1) ≤ v2 then ax_ex (e + 3) L_X3_debtors 16 [some (.inr (.inr (1, g0))), some (.inl v1), some (.inl v2)] [] m n else ax_ex (e + 3) L_X3_debtors 8 [some (.inr (.inr (1, g0))), some (.inl v1), some (.inl v2)] [] m n := fun n => rfl
    by_cases c1 : (m.1 1 g0 1) ≤ v2
    · rw [if_pos c1] at h
      refine ax_gt c1 s2 ?_
      obtain rfl := Option.some.inj h
      exact ax_rs 2 (fun n => rfl)
    · rw [if_neg c1] at h
      refine ax_gf c1 s2 ?_
      obtain ⟨r4, q3, h⟩ := ax_b_of h
      have s7 : ∀ n, ax_ex (e + 3) L_X3_debtors 8 [some (.inr (.inr (1, g0))), some (.inl v1), some (.inl v2)] [] m (n + 4) = ax_aft (fun s m2 => ax_ex (e + 3) L_X3_debtors 12 [some (.inr (.inr (1, g0))), some (.inl v1), some (.inl v2)] s m2 n) [] (ax_ex (e + 2) L_X2_owedBy 0 (ax_entry [.inr (.inr (3, g0)), .inl v2] 4) [] m n) := fun n => rfl
      refine ax_gci (j := 4) (k2 := 12) (lv2 := [some (.inr (.inr (1, g0))), some (.inl v1), some (.inl v2)]) (rest := []) ((R_X2_owedBy (by omega) q3)) s7 ?_
      have s6 : ∀ n, ax_ex (e + 3) L_X3_debtors 12 [some (.inr (.inr (1, g0))), some (.inl v1), some (.inl v2)] [.inl r4] m (n + 1) = if r4 ≤ 0 then ax_ex (e + 3) L_X3_debtors 14 [some (.inr (.inr (1, g0))), some (.inl v1), some (.inl v2)] [] m n else ax_ex (e + 3) L_X3_debtors 13 [some (.inr (.inr (1, g0))), some (.inl v1), some (.inl v2)] [] m n := fun n => rfl
      by_cases c5 : r4 ≤ 0
      · rw [if_pos c5] at h
        refine ax_gt c5 s6 ?_
        refine ax_go (j := 2) (k2 := 4) (lv2 := [some (.inr (.inr (1, g0))), some (.inl v1), some (.inl (v2 + 1))]) (st2 := []) (m2 := m) (fun n => rfl) ?_
        exact ax_fg (lv2 := [some (.inr (.inr (1, g0))), some (.inl v1), some (.inl (v2 + 1))]) ⟨rfl, rfl, rfl, trivial⟩ (ih v1 (v2 + 1) _ h)
      · rw [if_neg c5] at h
        refine ax_gf c5 s6 ?_
        refine ax_go (j := 3) (k2 := 4) (lv2 := [some (.inr (.inr (1, g0))), some (.inl (v1 + 1)), some (.inl (v2 + 1))]) (st2 := []) (m2 := m) (fun n => rfl) ?_
        exact ax_fg (lv2 := [some (.inr (.inr (1, g0))), some (.inl (v1 + 1)), some (.inl (v2 + 1))]) ⟨rfl, rfl, rfl, trivial⟩ (ih (v1 + 1) (v2 + 1) _ h)
def F_X3_debtors (m : ax_M) (g0 : Nat) : Option Int32 := F_X3_debtors_L4 ax_FU m g0 0 0
set_option maxRecDepth 20000 in
set_option maxHeartbeats 4000000 in
theorem R_X3_debtors {d : Nat} (hd : 3 ≤ d) {m : ax_M} {g0 : Nat} {q : Int32} (h : F_X3_debtors m g0 = some q) : ax_Ru d L_X3_debtors 0 (ax_entry [.inr (.inr (1, g0))] 3) [] m (some (.inl q), m) := by
  obtain ⟨e, rfl⟩ : ∃ e, d = e + 3 := ⟨d - 3, by omega⟩
  unfold F_X3_debtors at h
  refine ax_go (j := 4) (k2 := 4) (lv2 := [some (.inr (.inr (1, g0))), some (.inl 0), some (.inl 0)]) (st2 := []) (m2 := m) (fun n => rfl) ?_
  refine ax_fg (lv2 := [some (.inr (.inr (1, g0))), some (.inl 0), some (.inl 0)]) ⟨rfl, rfl, rfl, trivial⟩ ?_
  refine R_X3_debtors_L4 _ 0 0 _ h
def F_X3_allSeeds (m : ax_M) (g0 : Nat) : Option Int32 := some ((ax_ishl 1 (m.1 1 g0 4)) - 1)
set_option maxRecDepth 20000 in
set_option maxHeartbeats 4000000 in
theorem R_X3_allSeeds {d : Nat} (hd : 1 ≤ d) {m : ax_M} {g0 : Nat} {q : Int32} (h : F_X3_allSeeds m g0 = some q) : ax_Ru d L_X3_allSeeds 0 (ax_entry [.inr (.inr (1, g0))] 1) [] m (some (.inl q), m) := by
  obtain ⟨e, rfl⟩ : ∃ e, d = e + 1 := ⟨d - 1, by omega⟩
  unfold F_X3_allSeeds at h
  obtain rfl := Option.some.inj h
  exact ax_rs 7 (fun n => rfl)
def F_X3_seedsBut_L4 : Nat → ax_M → Nat → Int32 → Int32 → Int32 → Option Int32
  | 0, _, _, _, _, _ => none
  | n + 1, m, g0, v1, v2, v3 => if (m.1 1 g0 4) ≤ v3 then (some v2) else (if ax_ok v3 16 = true then (if (m.1 6 (16 * g0 + v3.toNatClampNeg) 3) = v1 then (F_X3_seedsBut_L4 n m g0 v1 v2 (v3 + 1)) else (F_X3_seedsBut_L4 n m g0 v1 (v2 ||| (ax_ishl 1 v3)) (v3 + 1))) else (none))
set_option maxRecDepth 20000 in
set_option maxHeartbeats 4000000 in
theorem R_X3_seedsBut_L4 {e : Nat} {m : ax_M} {g0 : Nat} {v1 : Int32} : ∀ (n : Nat) (v2 : Int32) (v3 : Int32) (q : Int32), F_X3_seedsBut_L4 n m g0 v1 v2 v3 = some q → ax_Ru (e + 1) L_X3_seedsBut 4 [some (.inr (.inr (1, g0))), some (.inl v1), some (.inl v2), some (.inl v3)] [] m (some (.inl q), m) := by
  intro n
  induction n with
  | zero =>
    intro v2 v3 q h
    cases h
  | succ n ih =>
    intro v2 v3 q h
    rw [F_X3_seedsBut_L4] at h
    have s2 : ∀ n, ax_ex (e + 1) L_X3_seedsBut 4 [some (.inr (.inr (1, g0))), some (.inl v1), some (.inl v2), some (.inl v3)] [] m (n + 4) = if (m.1 1 g0 4) ≤ v3 then ax_ex (e + 1) L_X3_seedsBut 23 [some (.inr (.inr (1, g0))), some (.inl v1), some (.inl v2), some (.inl v3)] [] m n else ax_ex (e + 1) L_X3_seedsBut 8 [some (.inr (.inr (1, g0))), some (.inl v1), some (.inl v2), some (.inl v3)] [] m n := fun n => rfl
    by_cases c1 : (m.1 1 g0 4) ≤ v3
    · rw [if_pos c1] at h
      refine ax_gt c1 s2 ?_
      obtain rfl := Option.some.inj h
      exact ax_rs 2 (fun n => rfl)
    · rw [if_neg c1] at h
      refine ax_gf c1 s2 ?_
      have s4 : ∀ n, ax_ex (e + 1) L_X3_seedsBut 8 [some (.inr (.inr (1, g0))), some (.inl v1), some (.inl v2), some (.inl v3)] [] m (n + 4) = if ax_ok v3 16 = true then ax_ex (e + 1) L_X3_seedsBut 12 [some (.inr (.inr (1, g0))), some (.inl v1), some (.inl v2), some (.inl v3)] [.inr (.inr (6, (16 * g0 + v3.toNatClampNeg)))] m n else none := fun n => rfl
      by_cases c3 : ax_ok v3 16 = true
      · rw [if_pos c3] at h
        refine ax_gt c3 s4 ?_
        have s6 : ∀ n, ax_ex (e + 1) L_X3_seedsBut 12 [some (.inr (.inr (1, g0))), some (.inl v1), some (.inl v2), some (.inl v3)] [.inr (.inr (6, (16 * g0 + v3.toNatClampNeg)))] m (n + 3) = if (m.1 6 (16 * g0 + v3.toNatClampNeg) 3) = v1 then ax_ex (e + 1) L_X3_seedsBut 21 [some (.inr (.inr (1, g0))), some (.inl v1), some (.inl v2), some (.inl v3)] [] m n else ax_ex (e + 1) L_X3_seedsBut 15 [some (.inr (.inr (1, g0))), some (.inl v1), some (.inl v2), some (.inl v3)] [] m n := fun n => rfl
        by_cases c5 : (m.1 6 (16 * g0 + v3.toNatClampNeg) 3) = v1
        · rw [if_pos c5] at h
          refine ax_gt c5 s6 ?_
          refine ax_go (j := 2) (k2 := 4) (lv2 := [some (.inr (.inr (1, g0))), some (.inl v1), some (.inl v2), some (.inl (v3 + 1))]) (st2 := []) (m2 := m) (fun n => rfl) ?_
          exact ax_fg (lv2 := [some (.inr (.inr (1, g0))), some (.inl v1), some (.inl v2), some (.inl (v3 + 1))]) ⟨rfl, rfl, rfl, rfl, trivial⟩ (ih v2 (v3 + 1) _ h)
        · rw [if_neg c5] at h
          refine ax_gf c5 s6 ?_
          refine ax_go (j := 8) (k2 := 4) (lv2 := [some (.inr (.inr (1, g0))), some (.inl v1), some (.inl (v2 ||| (ax_ishl 1 v3))), some (.inl (v3 + 1))]) (st2 := []) (m2 := m) (fun n => rfl) ?_
          exact ax_fg (lv2 := [some (.inr (.inr (1, g0))), some (.inl v1), some (.inl (v2 ||| (ax_ishl 1 v3))), some (.inl (v3 + 1))]) ⟨rfl, rfl, rfl, rfl, trivial⟩ (ih (v2 ||| (ax_ishl 1 v3)) (v3 + 1) _ h)
      · rw [if_neg c3] at h
        cases h
def F_X3_seedsBut (m : ax_M) (g0 : Nat) (v1 : Int32) : Option Int32 := F_X3_seedsBut_L4 ax_FU m g0 v1 0 0
set_option maxRecDepth 20000 in
set_option maxHeartbeats 4000000 in
theorem R_X3_seedsBut {d : Nat} (hd : 1 ≤ d) {m : ax_M} {g0 : Nat} {v1 : Int32} {q : Int32} (h : F_X3_seedsBut m g0 v1 = some q) : ax_Ru d L_X3_seedsBut 0 (ax_entry [.inr (.inr (1, g0)), .inl v1] 4) [] m (some (.inl q), m) := by
  obtain ⟨e, rfl⟩ : ∃ e, d = e + 1 := ⟨d - 1, by omega⟩
  unfold F_X3_seedsBut at h
  refine ax_go (j := 4) (k2 := 4) (lv2 := [some (.inr (.inr (1, g0))), some (.inl v1), some (.inl 0), some (.inl 0)]) (st2 := []) (m2 := m) (fun n => rfl) ?_
  refine ax_fg (lv2 := [some (.inr (.inr (1, g0))), some (.inl v1), some (.inl 0), some (.inl 0)]) ⟨rfl, rfl, rfl, rfl, trivial⟩ ?_
  refine R_X3_seedsBut_L4 _ 0 0 _ h
def F_X6_price (m : ax_M) (g0 : Nat) : Option Int32 := if (m.1 6 g0 0) = 3 then (some (ax_max 1 (10 * (m.1 6 g0 1)))) else (if (m.1 6 g0 0) = 5 then (some (ax_max 1 (m.1 6 g0 1))) else (some 1))
set_option maxRecDepth 20000 in
set_option maxHeartbeats 4000000 in
theorem R_X6_price {d : Nat} (hd : 6 ≤ d) {m : ax_M} {g0 : Nat} {q : Int32} (h : F_X6_price m g0 = some q) : ax_Ru d L_X6_price 0 (ax_entry [.inr (.inr (6, g0))] 1) [] m (some (.inl q), m) := by
  obtain ⟨e, rfl⟩ : ∃ e, d = e + 6 := ⟨d - 6, by omega⟩
  unfold F_X6_price at h
  have s2 : ∀ n, ax_ex (e + 6) L_X6_price 0 (ax_entry [.inr (.inr (6, g0))] 1) [] m (n + 4) = if (m.1 6 g0 0) = 3 then ax_ex (e + 6) L_X6_price 4 [some (.inr (.inr (6, g0)))] [] m n else ax_ex (e + 6) L_X6_price 11 [some (.inr (.inr (6, g0)))] [] m n := fun n => rfl
  by_cases c1 : (m.1 6 g0 0) = 3
  · rw [if_pos c1] at h
    refine ax_gt c1 s2 ?_
    obtain rfl := Option.some.inj h
    exact ax_rs 7 (fun n => rfl)
  · rw [if_neg c1] at h
    refine ax_gf c1 s2 ?_
    have s4 : ∀ n, ax_ex (e + 6) L_X6_price 11 [some (.inr (.inr (6, g0)))] [] m (n + 4) = if (m.1 6 g0 0) = 5 then ax_ex (e + 6) L_X6_price 15 [some (.inr (.inr (6, g0)))] [] m n else ax_ex (e + 6) L_X6_price 20 [some (.inr (.inr (6, g0)))] [] m n := fun n => rfl
    by_cases c3 : (m.1 6 g0 0) = 5
    · rw [if_pos c3] at h
      refine ax_gt c3 s4 ?_
      obtain rfl := Option.some.inj h
      exact ax_rs 6 (fun n => rfl)
    · rw [if_neg c3] at h
      refine ax_gf c3 s4 ?_
      obtain rfl := Option.some.inj h
      exact ax_rs 2 (fun n => rfl)
def F_X3_enoughOf_L13 : Nat → ax_M → Nat → Int32 → Int32 → Int32 → Int32 → Option Int32
  | 0, _, _, _, _, _, _ => none
  | n + 1, m, g0, v1, v2, v3, v4 => if (m.1 1 g0 4) ≤ v4 then (some v3) else (if ax_ok v4 16 = true then (if (m.1 6 (16 * g0 + v4.toNatClampNeg) 0) = 4 then (if v2 = 0 then (F_X3_enoughOf_L13 n m g0 v1 v2 v3 (v4 + 1)) else (F_X3_enoughOf_L13 n m g0 v1 v2 (v3 ||| (ax_ishl 1 v4)) (v4 + 1))) else (ax_b (F_X2_of m g0 v1 (m.1 6 (16 * g0 + v4.toNatClampNeg) 3)) (fun r14 => ax_b (F_X6_price m (16 * g0 + v4.toNatClampNeg)) (fun r16 => if r14 < r16 then (F_X3_enoughOf_L13 n m g0 v1 v2 v3 (v4 + 1)) else (F_X3_enoughOf_L13 n m g0 v1 v2 (v3 ||| (ax_ishl 1 v4)) (v4 + 1)))))) else (none))
set_option maxRecDepth 20000 in
set_option maxHeartbeats 4000000 in
theorem R_X3_enoughOf_L13 {e : Nat} {m : ax_M} {g0 : Nat} {v1 : Int32} {v2 : Int32} : ∀ (n : Nat) (v3 : Int32) (v4 : Int32) (q : Int32), F_X3_enoughOf_L13 n m g0 v1 v2 v3 v4 = some q → ax_Ru (e + 7) L_X3_enoughOf 13 [some (.inr (.inr (1, g0))), some (.inl v1), some (.inl v2), some (.inl v3), some (.inl v4), none, none] [] m (some (.inl q), m) := by
  intro n
  induction n with
  | zero =>
    intro v3 v4 q h
    cases h
  | succ n ih =>
    intro v3 v4 q h
    rw [F_X3_enoughOf_L13] at h
    have s6 : ∀ n, ax_ex (e + 7) L_X3_enoughOf 13 [some (.inr (.inr (1, g0))), some (.inl v1), some (.inl v2), some (.inl v3), some (.inl v4), none, none] [] m (n + 4) = if (m.1 1 g0 4) ≤ v4 then ax_ex (e + 7) L_X3_enoughOf 51 [some (.inr (.inr (1, g0))), some (.inl v1), some (.inl v2), some (.inl v3), some (.inl v4), none, none] [] m n else ax_ex (e + 7) L_X3_enoughOf 17 [some (.inr (.inr (1, g0))), some (.inl v1), some (.inl v2), some (.inl v3), some (.inl v4), none, none] [] m n := fun n => rfl
    by_cases c5 : (m.1 1 g0 4) ≤ v4
    · rw [if_pos c5] at h
      refine ax_gt c5 s6 ?_
      obtain rfl := Option.some.inj h
      exact ax_rs 2 (fun n => rfl)
    · rw [if_neg c5] at h
      refine ax_gf c5 s6 ?_
      have s8 : ∀ n, ax_ex (e + 7) L_X3_enoughOf 17 [some (.inr (.inr (1, g0))), some (.inl v1), some (.inl v2), some (.inl v3), some (.inl v4), none, none] [] m (n + 4) = if ax_ok v4 16 = true then ax_ex (e + 7) L_X3_enoughOf 21 [some (.inr (.inr (1, g0))), some (.inl v1), some (.inl v2), some (.inl v3), some (.inl v4), none, none] [.inr (.inr (6, (16 * g0 + v4.toNatClampNeg)))] m n else none := fun n => rfl
      by_cases c7 : ax_ok v4 16 = true
      · rw [if_pos c7] at h
        refine ax_gt c7 s8 ?_
        have s10 : ∀ n, ax_ex (e + 7) L_X3_enoughOf 21 [some (.inr (.inr (1, g0))), some (.inl v1), some (.inl v2), some (.inl v3), some (.inl v4), none, none] [.inr (.inr (6, (16 * g0 + v4.toNatClampNeg)))] m (n + 5) = if (m.1 6 (16 * g0 + v4.toNatClampNeg) 0) = 4 then ax_ex (e + 7) L_X3_enoughOf 26 [some (.inr (.inr (1, g0))), some (.inl v1), some (.inl v2), some (.inl v3), some (.inl v4), some (.inr (.inr (6, (16 * g0 + v4.toNatClampNeg)))), none] [] m n else ax_ex (e + 7) L_X3_enoughOf 28 [some (.inr (.inr (1, g0))), some (.inl v1), some (.inl v2), some (.inl v3), some (.inl v4), some (.inr (.inr (6, (16 * g0 + v4.toNatClampNeg)))), none] [] m n := fun n => rfl
        by_cases c9 : (m.1 6 (16 * g0 + v4.toNatClampNeg) 0) = 4
        · rw [if_pos c9] at h
          refine ax_gt c9 s10 ?_
          have s12 : ∀ n, ax_ex (e + 7) L_X3_enoughOf 26 [some (.inr (.inr (1, g0))), some (.inl v1), some (.inl v2), some (.inl v3), some (.inl v4), some (.inr (.inr (6, (16 * g0 + v4.toNatClampNeg)))), none] [] m (n + 5) = if v2 = 0 then ax_ex (e + 7) L_X3_enoughOf 49 [some (.inr (.inr (1, g0))), some (.inl v1), some (.inl v2), some (.inl v3), some (.inl v4), some (.inr (.inr (6, (16 * g0 + v4.toNatClampNeg)))), some (.inl v2)] [] m n else ax_ex (e + 7) L_X3_enoughOf 43 [some (.inr (.inr (1, g0))), some (.inl v1), some (.inl v2), some (.inl v3), some (.inl v4), some (.inr (.inr (6, (16 * g0 + v4.toNatClampNeg)))), some (.inl v2)] [] m n := fun n => rfl
          by_cases c11 : v2 = 0
          · rw [if_pos c11] at h
            refine ax_gt c11 s12 ?_
            refine ax_go (j := 2) (k2 := 13) (lv2 := [some (.inr (.inr (1, g0))), some (.inl v1), some (.inl v2), some (.inl v3), some (.inl (v4 + 1)), some (.inr (.inr (6, (16 * g0 + v4.toNatClampNeg)))), some (.inl v2)]) (st2 := []) (m2 := m) (fun n => rfl) ?_
            exact ax_fg (lv2 := [some (.inr (.inr (1, g0))), some (.inl v1), some (.inl v2), some (.inl v3), some (.inl (v4 + 1)), none, none]) ⟨rfl, rfl, rfl, rfl, rfl, trivial⟩ (ih v3 (v4 + 1) _ h)
          · rw [if_neg c11] at h
            refine ax_gf c11 s12 ?_
            refine ax_go (j := 8) (k2 := 13) (lv2 := [some (.inr (.inr (1, g0))), some (.inl v1), some (.inl v2), some (.inl (v3 ||| (ax_ishl 1 v4))), some (.inl (v4 + 1)), some (.inr (.inr (6, (16 * g0 + v4.toNatClampNeg)))), some (.inl v2)]) (st2 := []) (m2 := m) (fun n => rfl) ?_
            exact ax_fg (lv2 := [some (.inr (.inr (1, g0))), some (.inl v1), some (.inl v2), some (.inl (v3 ||| (ax_ishl 1 v4))), some (.inl (v4 + 1)), none, none]) ⟨rfl, rfl, rfl, rfl, rfl, trivial⟩ (ih (v3 ||| (ax_ishl 1 v4)) (v4 + 1) _ h)
        · rw [if_neg c9] at h
          refine ax_gf c9 s10 ?_
          obtain ⟨r14, q13, h⟩ := ax_b_of h
          have s22 : ∀ n, ax_ex (e + 7) L_X3_enoughOf 28 [some (.inr (.inr (1, g0))), some (.inl v1), some (.inl v2), some (.inl v3), some (.inl v4), some (.inr (.inr (6, (16 * g0 + v4.toNatClampNeg)))), none] [] m (n + 6) = ax_aft (fun s m2 => ax_ex (e + 7) L_X3_enoughOf 34 [some (.inr (.inr (1, g0))), some (.inl v1), some (.inl v2), some (.inl v3), some (.inl v4), some (.inr (.inr (6, (16 * g0 + v4.toNatClampNeg)))), none] s m2 n) [] (ax_ex (e + 6) L_X2_of 0 (ax_entry [.inr (.inr (3, g0)), .inl v1, .inl (m.1 6 (16 * g0 + v4.toNatClampNeg) 3)] 3) [] m n) := fun n => rfl
          refine ax_gci (j := 6) (k2 := 34) (lv2 := [some (.inr (.inr (1, g0))), some (.inl v1), some (.inl v2), some (.inl v3), some (.inl v4), some (.inr (.inr (6, (16 * g0 + v4.toNatClampNeg)))), none]) (rest := []) ((R_X2_of (by omega) q13)) s22 ?_
          obtain ⟨r16, q15, h⟩ := ax_b_of h
          have s21 : ∀ n, ax_ex (e + 7) L_X3_enoughOf 34 [some (.inr (.inr (1, g0))), some (.inl v1), some (.inl v2), some (.inl v3), some (.inl v4), some (.inr (.inr (6, (16 * g0 + v4.toNatClampNeg)))), none] [.inl r14] m (n + 2) = ax_aft (fun s m2 => ax_ex (e + 7) L_X3_enoughOf 36 [some (.inr (.inr (1, g0))), some (.inl v1), some (.inl v2), some (.inl v3), some (.inl v4), some (.inr (.inr (6, (16 * g0 + v4.toNatClampNeg)))), none] s m2 n) [.inl r14] (ax_ex (e + 6) L_X6_price 0 (ax_entry [.inr (.inr (6, (16 * g0 + v4.toNatClampNeg)))] 1) [] m n) := fun n => rfl
          refine ax_gci (j := 2) (k2 := 36) (lv2 := [some (.inr (.inr (1, g0))), some (.inl v1), some (.inl v2), some (.inl v3), some (.inl v4), some (.inr (.inr (6, (16 * g0 + v4.toNatClampNeg)))), none]) (rest := [.inl r14]) ((R_X6_price (by omega) q15)) s21 ?_
          have s18 : ∀ n, ax_ex (e + 7) L_X3_enoughOf 36 [some (.inr (.inr (1, g0))), some (.inl v1), some (.inl v2), some (.inl v3), some (.inl v4), some (.inr (.inr (6, (16 * g0 + v4.toNatClampNeg)))), none] [.inl r16, .inl r14] m (n + 1) = if r14 < r16 then ax_ex (e + 7) L_X3_enoughOf 39 [some (.inr (.inr (1, g0))), some (.inl v1), some (.inl v2), some (.inl v3), some (.inl v4), some (.inr (.inr (6, (16 * g0 + v4.toNatClampNeg)))), none] [] m n else ax_ex (e + 7) L_X3_enoughOf 37 [some (.inr (.inr (1, g0))), some (.inl v1), some (.inl v2), some (.inl v3), some (.inl v4), some (.inr (.inr (6, (16 * g0 + v4.toNatClampNeg)))), none] [] m n := fun n => rfl
          by_cases c17 : r14 < r16
          · rw [if_pos c17] at h
            refine ax_gt c17 s18 ?_
            have s19 : ∀ n, ax_ex (e + 7) L_X3_enoughOf 39 [some (.inr (.inr (1, g0))), some (.inl v1), some (.inl v2), some (.inl v3), some (.inl v4), some (.inr (.inr (6, (16 * g0 + v4.toNatClampNeg)))), none] [] m (n + 4) = if (0 : Int32) = 0 then ax_ex (e + 7) L_X3_enoughOf 49 [some (.inr (.inr (1, g0))), some (.inl v1), some (.inl v2), some (.inl v3), some (.inl v4), some (.inr (.inr (6, (16 * g0 + v4.toNatClampNeg)))), some (.inl 0)] [] m n else ax_ex (e + 7) L_X3_enoughOf 43 [some (.inr (.inr (1, g0))), some (.inl v1), some (.inl v2), some (.inl v3), some (.inl v4), some (.inr (.inr (6, (16 * g0 + v4.toNatClampNeg)))), some (.inl 0)] [] m n := fun n => rfl
            refine ax_gt (by decide) s19 ?_
            refine ax_go (j := 2) (k2 := 13) (lv2 := [some (.inr (.inr (1, g0))), some (.inl v1), some (.inl v2), some (.inl v3), some (.inl (v4 + 1)), some (.inr (.inr (6, (16 * g0 + v4.toNatClampNeg)))), some (.inl 0)]) (st2 := []) (m2 := m) (fun n => rfl) ?_
            exact ax_fg (lv2 := [some (.inr (.inr (1, g0))), some (.inl v1), some (.inl v2), some (.inl v3), some (.inl (v4 + 1)), none, none]) ⟨rfl, rfl, rfl, rfl, rfl, trivial⟩ (ih v3 (v4 + 1) _ h)
          · rw [if_neg c17] at h
            refine ax_gf c17 s18 ?_
            have s20 : ∀ n, ax_ex (e + 7) L_X3_enoughOf 37 [some (.inr (.inr (1, g0))), some (.inl v1), some (.inl v2), some (.inl v3), some (.inl v4), some (.inr (.inr (6, (16 * g0 + v4.toNatClampNeg)))), none] [] m (n + 5) = if (1 : Int32) = 0 then ax_ex (e + 7) L_X3_enoughOf 49 [some (.inr (.inr (1, g0))), some (.inl v1), some (.inl v2), some (.inl v3), some (.inl v4), some (.inr (.inr (6, (16 * g0 + v4.toNatClampNeg)))), some (.inl 1)] [] m n else ax_ex (e + 7) L_X3_enoughOf 43 [some (.inr (.inr (1, g0))), some (.inl v1), some (.inl v2), some (.inl v3), some (.inl v4), some (.inr (.inr (6, (16 * g0 + v4.toNatClampNeg)))), some (.inl 1)] [] m n := fun n => rfl
            refine ax_gf (by decide) s20 ?_
            refine ax_go (j := 8) (k2 := 13) (lv2 := [some (.inr (.inr (1, g0))), some (.inl v1), some (.inl v2), some (.inl (v3 ||| (ax_ishl 1 v4))), some (.inl (v4 + 1)), some (.inr (.inr (6, (16 * g0 + v4.toNatClampNeg)))), some (.inl 1)]) (st2 := []) (m2 := m) (fun n => rfl) ?_
            exact ax_fg (lv2 := [some (.inr (.inr (1, g0))), some (.inl v1), some (.inl v2), some (.inl (v3 ||| (ax_ishl 1 v4))), some (.inl (v4 + 1)), none, none]) ⟨rfl, rfl, rfl, rfl, rfl, trivial⟩ (ih (v3 ||| (ax_ishl 1 v4)) (v4 + 1) _ h)
      · rw [if_neg c7] at h
        cases h
def F_X3_enoughOf (m : ax_M) (g0 : Nat) (v1 : Int32) : Option Int32 := ax_b (F_X2_owedBy m g0 v1) (fun r2 => if r2 ≤ 0 then (F_X3_enoughOf_L13 ax_FU m g0 v1 0 0 0) else (F_X3_enoughOf_L13 ax_FU m g0 v1 1 0 0))
set_option maxRecDepth 20000 in
set_option maxHeartbeats 4000000 in
theorem R_X3_enoughOf {d : Nat} (hd : 7 ≤ d) {m : ax_M} {g0 : Nat} {v1 : Int32} {q : Int32} (h : F_X3_enoughOf m g0 v1 = some q) : ax_Ru d L_X3_enoughOf 0 (ax_entry [.inr (.inr (1, g0)), .inl v1] 7) [] m (some (.inl q), m) := by
  obtain ⟨e, rfl⟩ : ∃ e, d = e + 7 := ⟨d - 7, by omega⟩
  unfold F_X3_enoughOf at h
  obtain ⟨r2, q1, h⟩ := ax_b_of h
  have s25 : ∀ n, ax_ex (e + 7) L_X3_enoughOf 0 (ax_entry [.inr (.inr (1, g0)), .inl v1] 7) [] m (n + 4) = ax_aft (fun s m2 => ax_ex (e + 7) L_X3_enoughOf 4 [some (.inr (.inr (1, g0))), some (.inl v1), none, none, none, none, none] s m2 n) [] (ax_ex (e + 6) L_X2_owedBy 0 (ax_entry [.inr (.inr (3, g0)), .inl v1] 4) [] m n) := fun n => rfl
  refine ax_gci (j := 4) (k2 := 4) (lv2 := [some (.inr (.inr (1, g0))), some (.inl v1), none, none, none, none, none]) (rest := []) ((R_X2_owedBy (by omega) q1)) s25 ?_
  have s4 : ∀ n, ax_ex (e + 7) L_X3_enoughOf 4 [some (.inr (.inr (1, g0))), some (.inl v1), none, none, none, none, none] [.inl r2] m (n + 1) = if r2 ≤ 0 then ax_ex (e + 7) L_X3_enoughOf 7 [some (.inr (.inr (1, g0))), some (.inl v1), none, none, none, none, none] [] m n else ax_ex (e + 7) L_X3_enoughOf 5 [some (.inr (.inr (1, g0))), some (.inl v1), none, none, none, none, none] [] m n := fun n => rfl
  by_cases c3 : r2 ≤ 0
  · rw [if_pos c3] at h
    refine ax_gt c3 s4 ?_
    refine ax_go (j := 6) (k2 := 13) (lv2 := [some (.inr (.inr (1, g0))), some (.inl v1), some (.inl 0), some (.inl 0), some (.inl 0), none, none]) (st2 := []) (m2 := m) (fun n => rfl) ?_
    refine ax_fg (lv2 := [some (.inr (.inr (1, g0))), some (.inl v1), some (.inl 0), some (.inl 0), some (.inl 0), none, none]) ⟨rfl, rfl, rfl, rfl, rfl, trivial⟩ ?_
    refine R_X3_enoughOf_L13 _ 0 0 _ h
  · rw [if_neg c3] at h
    refine ax_gf c3 s4 ?_
    refine ax_go (j := 7) (k2 := 13) (lv2 := [some (.inr (.inr (1, g0))), some (.inl v1), some (.inl 1), some (.inl 0), some (.inl 0), none, none]) (st2 := []) (m2 := m) (fun n => rfl) ?_
    refine ax_fg (lv2 := [some (.inr (.inr (1, g0))), some (.inl v1), some (.inl 1), some (.inl 0), some (.inl 0), none, none]) ⟨rfl, rfl, rfl, rfl, rfl, trivial⟩ ?_
    refine R_X3_enoughOf_L13 _ 0 0 _ h
def F_X6_isKind (v0 : Int32) : Option Int32 := if v0 < 0 then (some 0) else (if 6 ≤ v0 then (some 0) else (some 1))
set_option maxRecDepth 20000 in
set_option maxHeartbeats 4000000 in
theorem R_X6_isKind {d : Nat} (hd : 1 ≤ d) {m : ax_M} {v0 : Int32} {q : Int32} (h : F_X6_isKind v0 = some q) : ax_Ru d L_X6_isKind 0 (ax_entry [.inl v0] 1) [] m (some (.inl q), m) := by
  obtain ⟨e, rfl⟩ : ∃ e, d = e + 1 := ⟨d - 1, by omega⟩
  unfold F_X6_isKind at h
  have s2 : ∀ n, ax_ex (e + 1) L_X6_isKind 0 (ax_entry [.inl v0] 1) [] m (n + 2) = if v0 < 0 then ax_ex (e + 1) L_X6_isKind 7 [some (.inl v0)] [] m n else ax_ex (e + 1) L_X6_isKind 2 [some (.inl v0)] [] m n := fun n => rfl
  by_cases c1 : v0 < 0
  · rw [if_pos c1] at h
    refine ax_gt c1 s2 ?_
    obtain rfl := Option.some.inj h
    exact ax_rq (c := (0 : Int32) = 0 ∨ (0 : Int32) = 1) (j := 2) (by decide) (fun n => rfl)
  · rw [if_neg c1] at h
    refine ax_gf c1 s2 ?_
    have s4 : ∀ n, ax_ex (e + 1) L_X6_isKind 2 [some (.inl v0)] [] m (n + 3) = if 6 ≤ v0 then ax_ex (e + 1) L_X6_isKind 7 [some (.inl v0)] [] m n else ax_ex (e + 1) L_X6_isKind 5 [some (.inl v0)] [] m n := fun n => rfl
    by_cases c3 : 6 ≤ v0
    · rw [if_pos c3] at h
      refine ax_gt c3 s4 ?_
      obtain rfl := Option.some.inj h
      exact ax_rq (c := (0 : Int32) = 0 ∨ (0 : Int32) = 1) (j := 2) (by decide) (fun n => rfl)
    · rw [if_neg c3] at h
      refine ax_gf c3 s4 ?_
      obtain rfl := Option.some.inj h
      exact ax_rq (c := (1 : Int32) = 0 ∨ (1 : Int32) = 1) (j := 3) (by decide) (fun n => rfl)
def F_X6_span (m : ax_M) (g0 : Nat) : Option Int32 := ax_b (F_X6_isKind (m.1 6 g0 0)) (fun r2 => if r2 = 0 then (some 0) else (if ax_ok (m.1 6 g0 0) 6 = true then (some (ax_sta 41 (m.1 6 g0 0).toNatClampNeg)) else (none)))
set_option maxRecDepth 20000 in
set_option maxHeartbeats 4000000 in
theorem R_X6_span {d : Nat} (hd : 2 ≤ d) {m : ax_M} {g0 : Nat} {q : Int32} (h : F_X6_span m g0 = some q) : ax_Ru d L_X6_span 0 (ax_entry [.inr (.inr (6, g0))] 1) [] m (some (.inl q), m) := by
  obtain ⟨e, rfl⟩ : ∃ e, d = e + 2 := ⟨d - 2, by omega⟩
  unfold F_X6_span at h
  obtain ⟨r2, q1, h⟩ := ax_b_of h
  have s7 : ∀ n, ax_ex (e + 2) L_X6_span 0 (ax_entry [.inr (.inr (6, g0))] 1) [] m (n + 3) = ax_aft (fun s m2 => ax_ex (e + 2) L_X6_span 3 [some (.inr (.inr (6, g0)))] s m2 n) [] (ax_ex (e + 1) L_X6_isKind 0 (ax_entry [.inl (m.1 6 g0 0)] 1) [] m n) := fun n => rfl
  refine ax_gci (j := 3) (k2 := 3) (lv2 := [some (.inr (.inr (6, g0)))]) (rest := []) ((R_X6_isKind (by omega) q1)) s7 ?_
  have s4 : ∀ n, ax_ex (e + 2) L_X6_span 3 [some (.inr (.inr (6, g0)))] [.inl r2] m (n + 1) = if r2 = 0 then ax_ex (e + 2) L_X6_span 9 [some (.inr (.inr (6, g0)))] [] m n else ax_ex (e + 2) L_X6_span 4 [some (.inr (.inr (6, g0)))] [] m n := fun n => rfl
  by_cases c3 : r2 = 0
  · rw [if_pos c3] at h
    refine ax_gt c3 s4 ?_
    obtain rfl := Option.some.inj h
    exact ax_rs 2 (fun n => rfl)
  · rw [if_neg c3] at h
    refine ax_gf c3 s4 ?_
    have s6 : ∀ n, ax_ex (e + 2) L_X6_span 4 [some (.inr (.inr (6, g0)))] [] m (n + 4) = if ax_ok (m.1 6 g0 0) 6 = true then ax_ex (e + 2) L_X6_span 8 [some (.inr (.inr (6, g0)))] [.inl (ax_sta 41 (m.1 6 g0 0).toNatClampNeg)] m n else none := fun n => rfl
    by_cases c5 : ax_ok (m.1 6 g0 0) 6 = true
    · rw [if_pos c5] at h
      refine ax_gt c5 s6 ?_
      obtain rfl := Option.some.inj h
      exact ax_rs 2 (fun n => rfl)
    · rw [if_neg c5] at h
      cases h
def F_X6_zone (m : ax_M) (g0 : Nat) : Option Int64 := ax_b (F_X6_span m g0) (fun r2 => ax_b (F_X0_zone (m.1 6 g0 2) r2) (fun r4 => some r4))
set_option maxRecDepth 20000 in
set_option maxHeartbeats 4000000 in
theorem R_X6_zone {d : Nat} (hd : 3 ≤ d) {m : ax_M} {g0 : Nat} {q : Int64} (h : F_X6_zone m g0 = some q) : ax_Ru d L_X6_zone 0 (ax_entry [.inr (.inr (6, g0))] 1) [] m (some (.inr (.inl q)), m) := by
  obtain ⟨e, rfl⟩ : ∃ e, d = e + 3 := ⟨d - 3, by omega⟩
  unfold F_X6_zone at h
  obtain ⟨r2, q1, h⟩ := ax_b_of h
  have s6 : ∀ n, ax_ex (e + 3) L_X6_zone 0 (ax_entry [.inr (.inr (6, g0))] 1) [] m (n + 4) = ax_aft (fun s m2 => ax_ex (e + 3) L_X6_zone 4 [some (.inr (.inr (6, g0)))] s m2 n) [.inl (m.1 6 g0 2)] (ax_ex (e + 2) L_X6_span 0 (ax_entry [.inr (.inr (6, g0))] 1) [] m n) := fun n => rfl
  refine ax_gci (j := 4) (k2 := 4) (lv2 := [some (.inr (.inr (6, g0)))]) (rest := [.inl (m.1 6 g0 2)]) ((R_X6_span (by omega) q1)) s6 ?_
  obtain ⟨r4, q3, h⟩ := ax_b_of h
  have s5 : ∀ n, ax_ex (e + 3) L_X6_zone 4 [some (.inr (.inr (6, g0)))] [.inl r2, .inl (m.1 6 g0 2)] m (n + 1) = ax_aft (fun s m2 => ax_ex (e + 3) L_X6_zone 5 [some (.inr (.inr (6, g0)))] s m2 n) [] (ax_ex (e + 2) L_X0_zone 0 (ax_entry [.inl (m.1 6 g0 2), .inl r2] 5) [] m n) := fun n => rfl
  refine ax_gcl (j := 1) (k2 := 5) (lv2 := [some (.inr (.inr (6, g0)))]) (rest := []) ((R_X0_zone (by omega) q3)) s5 ?_
  obtain rfl := Option.some.inj h
  exact ax_rs 1 (fun n => rfl)
def F_X3_near_L4 : Nat → ax_M → Nat → Int32 → Int32 → Int32 → Int32 → Option Int32
  | 0, _, _, _, _, _, _ => none
  | n + 1, m, g0, v1, v2, v3, v4 => if (m.1 1 g0 4) ≤ v4 then (some v3) else (if ((ax_iushr v2 v4) &&& 1) = 0 then (F_X3_near_L4 n m g0 v1 v2 v3 (v4 + 1)) else (if ax_ok v4 16 = true then (ax_b (F_X6_zone m (16 * g0 + v4.toNatClampNeg)) (fun r9 => ax_b (F_X0_has r9 v1) (fun r11 => if r11 = 0 then (F_X3_near_L4 n m g0 v1 v2 v3 (v4 + 1)) else (F_X3_near_L4 n m g0 v1 v2 (v3 ||| (ax_ishl 1 v4)) (v4 + 1))))) else (none)))
set_option maxRecDepth 20000 in
set_option maxHeartbeats 4000000 in
theorem R_X3_near_L4 {e : Nat} {m : ax_M} {g0 : Nat} {v1 : Int32} {v2 : Int32} : ∀ (n : Nat) (v3 : Int32) (v4 : Int32) (q : Int32), F_X3_near_L4 n m g0 v1 v2 v3 v4 = some q → ax_Ru (e + 4) L_X3_near 4 [some (.inr (.inr (1, g0))), some (.inl v1), some (.inl v2), some (.inl v3), some (.inl v4)] [] m (some (.inl q), m) := by
  intro n
  induction n with
  | zero =>
    intro v3 v4 q h
    cases h
  | succ n ih =>
    intro v3 v4 q h
    rw [F_X3_near_L4] at h
    have s2 : ∀ n, ax_ex (e + 4) L_X3_near 4 [some (.inr (.inr (1, g0))), some (.inl v1), some (.inl v2), some (.inl v3), some (.inl v4)] [] m (n + 4) = if (m.1 1 g0 4) ≤ v4 then ax_ex (e + 4) L_X3_near 30 [some (.inr (.inr (1, g0))), some (.inl v1), some (.inl v2), some (.inl v3), some (.inl v4)] [] m n else ax_ex (e + 4) L_X3_near 8 [some (.inr (.inr (1, g0))), some (.inl v1), some (.inl v2), some (.inl v3), some (.inl v4)] [] m n := fun n => rfl
    by_cases c1 : (m.1 1 g0 4) ≤ v4
    · rw [if_pos c1] at h
      refine ax_gt c1 s2 ?_
      obtain rfl := Option.some.inj h
      exact ax_rs 2 (fun n => rfl)
    · rw [if_neg c1] at h
      refine ax_gf c1 s2 ?_
      refine ax_go (j := 5) (k2 := 13) (lv2 := [some (.inr (.inr (1, g0))), some (.inl v1), some (.inl v2), some (.inl v3), some (.inl v4)]) (st2 := [.inl ((ax_iushr v2 v4) &&& 1)]) (m2 := m) (fun n => rfl) ?_
      obtain ⟨y3, hy3⟩ : ∃ y : Int32, y = ((ax_iushr v2 v4) &&& 1) := ⟨_, rfl⟩
      rw [← hy3] at h ⊢
      have s5 : ∀ n, ax_ex (e + 4) L_X3_near 13 [some (.inr (.inr (1, g0))), some (.inl v1), some (.inl v2), some (.inl v3), some (.inl v4)] [.inl y3] m (n + 1) = if y3 = 0 then ax_ex (e + 4) L_X3_near 28 [some (.inr (.inr (1, g0))), some (.inl v1), some (.inl v2), some (.inl v3), some (.inl v4)] [] m n else ax_ex (e + 4) L_X3_near 14 [some (.inr (.inr (1, g0))), some (.inl v1), some (.inl v2), some (.inl v3), some (.inl v4)] [] m n := fun n => rfl
      by_cases c4 : y3 = 0
      · rw [if_pos c4] at h
        refine ax_gt c4 s5 ?_
        refine ax_go (j := 2) (k2 := 4) (lv2 := [some (.inr (.inr (1, g0))), some (.inl v1), some (.inl v2), some (.inl v3), some (.inl (v4 + 1))]) (st2 := []) (m2 := m) (fun n => rfl) ?_
        exact ax_fg (lv2 := [some (.inr (.inr (1, g0))), some (.inl v1), some (.inl v2), some (.inl v3), some (.inl (v4 + 1))]) ⟨rfl, rfl, rfl, rfl, rfl, trivial⟩ (ih v3 (v4 + 1) _ h)
      · rw [if_neg c4] at h
        refine ax_gf c4 s5 ?_
        have s7 : ∀ n, ax_ex (e + 4) L_X3_near 14 [some (.inr (.inr (1, g0))), some (.inl v1), some (.inl v2), some (.inl v3), some (.inl v4)] [] m (n + 4) = if ax_ok v4 16 = true then ax_ex (e + 4) L_X3_near 18 [some (.inr (.inr (1, g0))), some (.inl v1), some (.inl v2), some (.inl v3), some (.inl v4)] [.inr (.inr (6, (16 * g0 + v4.toNatClampNeg)))] m n else none := fun n => rfl
        by_cases c6 : ax_ok v4 16 = true
        · rw [if_pos c6] at h
          refine ax_gt c6 s7 ?_
          obtain ⟨r9, q8, h⟩ := ax_b_of h
          have s15 : ∀ n, ax_ex (e + 4) L_X3_near 18 [some (.inr (.inr (1, g0))), some (.inl v1), some (.inl v2), some (.inl v3), some (.inl v4)] [.inr (.inr (6, (16 * g0 + v4.toNatClampNeg)))] m (n + 1) = ax_aft (fun s m2 => ax_ex (e + 4) L_X3_near 19 [some (.inr (.inr (1, g0))), some (.inl v1), some (.inl v2), some (.inl v3), some (.inl v4)] s m2 n) [] (ax_ex (e + 3) L_X6_zone 0 (ax_entry [.inr (.inr (6, (16 * g0 + v4.toNatClampNeg)))] 1) [] m n) := fun n => rfl
          refine ax_gcl (j := 1) (k2 := 19) (lv2 := [some (.inr (.inr (1, g0))), some (.inl v1), some (.inl v2), some (.inl v3), some (.inl v4)]) (rest := []) ((R_X6_zone (by omega) q8)) s15 ?_
          obtain ⟨r11, q10, h⟩ := ax_b_of h
          have s14 : ∀ n, ax_ex (e + 4) L_X3_near 19 [some (.inr (.inr (1, g0))), some (.inl v1), some (.inl v2), some (.inl v3), some (.inl v4)] [.inr (.inl r9)] m (n + 2) = ax_aft (fun s m2 => ax_ex (e + 4) L_X3_near 21 [some (.inr (.inr (1, g0))), some (.inl v1), some (.inl v2), some (.inl v3), some (.inl v4)] s m2 n) [] (ax_ex (e + 3) L_X0_has 0 (ax_entry [.inr (.inl r9), .inl v1] 3) [] m n) := fun n => rfl
          refine ax_gci (j := 2) (k2 := 21) (lv2 := [some (.inr (.inr (1, g0))), some (.inl v1), some (.inl v2), some (.inl v3), some (.inl v4)]) (rest := []) ((R_X0_has (by omega) q10)) s14 ?_
          have s13 : ∀ n, ax_ex (e + 4) L_X3_near 21 [some (.inr (.inr (1, g0))), some (.inl v1), some (.inl v2), some (.inl v3), some (.inl v4)] [.inl r11] m (n + 1) = if r11 = 0 then ax_ex (e + 4) L_X3_near 28 [some (.inr (.inr (1, g0))), some (.inl v1), some (.inl v2), some (.inl v3), some (.inl v4)] [] m n else ax_ex (e + 4) L_X3_near 22 [some (.inr (.inr (1, g0))), some (.inl v1), some (.inl v2), some (.inl v3), some (.inl v4)] [] m n := fun n => rfl
          by_cases c12 : r11 = 0
          · rw [if_pos c12] at h
            refine ax_gt c12 s13 ?_
            refine ax_go (j := 2) (k2 := 4) (lv2 := [some (.inr (.inr (1, g0))), some (.inl v1), some (.inl v2), some (.inl v3), some (.inl (v4 + 1))]) (st2 := []) (m2 := m) (fun n => rfl) ?_
            exact ax_fg (lv2 := [some (.inr (.inr (1, g0))), some (.inl v1), some (.inl v2), some (.inl v3), some (.inl (v4 + 1))]) ⟨rfl, rfl, rfl, rfl, rfl, trivial⟩ (ih v3 (v4 + 1) _ h)
          · rw [if_neg c12] at h
            refine ax_gf c12 s13 ?_
            refine ax_go (j := 8) (k2 := 4) (lv2 := [some (.inr (.inr (1, g0))), some (.inl v1), some (.inl v2), some (.inl (v3 ||| (ax_ishl 1 v4))), some (.inl (v4 + 1))]) (st2 := []) (m2 := m) (fun n => rfl) ?_
            exact ax_fg (lv2 := [some (.inr (.inr (1, g0))), some (.inl v1), some (.inl v2), some (.inl (v3 ||| (ax_ishl 1 v4))), some (.inl (v4 + 1))]) ⟨rfl, rfl, rfl, rfl, rfl, trivial⟩ (ih (v3 ||| (ax_ishl 1 v4)) (v4 + 1) _ h)
        · rw [if_neg c6] at h
          cases h
def F_X3_near (m : ax_M) (g0 : Nat) (v1 : Int32) (v2 : Int32) : Option Int32 := F_X3_near_L4 ax_FU m g0 v1 v2 0 0
set_option maxRecDepth 20000 in
set_option maxHeartbeats 4000000 in
theorem R_X3_near {d : Nat} (hd : 4 ≤ d) {m : ax_M} {g0 : Nat} {v1 : Int32} {v2 : Int32} {q : Int32} (h : F_X3_near m g0 v1 v2 = some q) : ax_Ru d L_X3_near 0 (ax_entry [.inr (.inr (1, g0)), .inl v1, .inl v2] 5) [] m (some (.inl q), m) := by
  obtain ⟨e, rfl⟩ : ∃ e, d = e + 4 := ⟨d - 4, by omega⟩
  unfold F_X3_near at h
  refine ax_go (j := 4) (k2 := 4) (lv2 := [some (.inr (.inr (1, g0))), some (.inl v1), some (.inl v2), some (.inl 0), some (.inl 0)]) (st2 := []) (m2 := m) (fun n => rfl) ?_
  refine ax_fg (lv2 := [some (.inr (.inr (1, g0))), some (.inl v1), some (.inl v2), some (.inl 0), some (.inl 0)]) ⟨rfl, rfl, rfl, rfl, rfl, trivial⟩ ?_
  refine R_X3_near_L4 _ 0 0 _ h
def F_X3_shownBy (m : ax_M) (g0 : Nat) (v1 : Int32) : Option Int32 := if ax_ok v1 8 = true then (ax_b (F_X3_enoughOf m g0 v1) (fun r4 => ax_b (F_X3_near m g0 (m.1 2 g0 v1.toNatClampNeg) r4) (fun r6 => some r6))) else (none)
set_option maxRecDepth 20000 in
set_option maxHeartbeats 4000000 in
theorem R_X3_shownBy {d : Nat} (hd : 8 ≤ d) {m : ax_M} {g0 : Nat} {v1 : Int32} {q : Int32} (h : F_X3_shownBy m g0 v1 = some q) : ax_Ru d L_X3_shownBy 0 (ax_entry [.inr (.inr (1, g0)), .inl v1] 2) [] m (some (.inl q), m) := by
  obtain ⟨e, rfl⟩ : ∃ e, d = e + 8 := ⟨d - 8, by omega⟩
  unfold F_X3_shownBy at h
  have s2 : ∀ n, ax_ex (e + 8) L_X3_shownBy 0 (ax_entry [.inr (.inr (1, g0)), .inl v1] 2) [] m (n + 5) = if ax_ok v1 8 = true then ax_ex (e + 8) L_X3_shownBy 5 [some (.inr (.inr (1, g0))), some (.inl v1)] [.inl (m.1 2 g0 v1.toNatClampNeg), .inr (.inr (1, g0))] m n else none := fun n => rfl
  by_cases c1 : ax_ok v1 8 = true
  · rw [if_pos c1] at h
    refine ax_gt c1 s2 ?_
    obtain ⟨r4, q3, h⟩ := ax_b_of h
    have s8 : ∀ n, ax_ex (e + 8) L_X3_shownBy 5 [some (.inr (.inr (1, g0))), some (.inl v1)] [.inl (m.1 2 g0 v1.toNatClampNeg), .inr (.inr (1, g0))] m (n + 3) = ax_aft (fun s m2 => ax_ex (e + 8) L_X3_shownBy 8 [some (.inr (.inr (1, g0))), some (.inl v1)] s m2 n) [.inl (m.1 2 g0 v1.toNatClampNeg), .inr (.inr (1, g0))] (ax_ex (e + 7) L_X3_enoughOf 0 (ax_entry [.inr (.inr (1, g0)), .inl v1] 7) [] m n) := fun n => rfl
    refine ax_gci (j := 3) (k2 := 8) (lv2 := [some (.inr (.inr (1, g0))), some (.inl v1)]) (rest := [.inl (m.1 2 g0 v1.toNatClampNeg), .inr (.inr (1, g0))]) ((R_X3_enoughOf (by omega) q3)) s8 ?_
    obtain ⟨r6, q5, h⟩ := ax_b_of h
    have s7 : ∀ n, ax_ex (e + 8) L_X3_shownBy 8 [some (.inr (.inr (1, g0))), some (.inl v1)] [.inl r4, .inl (m.1 2 g0 v1.toNatClampNeg), .inr (.inr (1, g0))] m (n + 1) = ax_aft (fun s m2 => ax_ex (e + 8) L_X3_shownBy 9 [some (.inr (.inr (1, g0))), some (.inl v1)] s m2 n) [] (ax_ex (e + 7) L_X3_near 0 (ax_entry [.inr (.inr (1, g0)), .inl (m.1 2 g0 v1.toNatClampNeg), .inl r4] 5) [] m n) := fun n => rfl
    refine ax_gci (j := 1) (k2 := 9) (lv2 := [some (.inr (.inr (1, g0))), some (.inl v1)]) (rest := []) ((R_X3_near (by omega) q5)) s7 ?_
    obtain rfl := Option.some.inj h
    exact ax_rs 1 (fun n => rfl)
  · rw [if_neg c1] at h
    cases h
def F_X3_shown_L4 : Nat → ax_M → Nat → Int32 → Int32 → Option Int32
  | 0, _, _, _, _ => none
  | n + 1, m, g0, v1, v2 => if (m.1 1 g0 1) ≤ v2 then (some v1) else (ax_b (F_X3_shownBy m g0 v2) (fun r4 => F_X3_shown_L4 n m g0 (v1 ||| r4) (v2 + 1)))
set_option maxRecDepth 20000 in
set_option maxHeartbeats 4000000 in
theorem R_X3_shown_L4 {e : Nat} {m : ax_M} {g0 : Nat} : ∀ (n : Nat) (v1 : Int32) (v2 : Int32) (q : Int32), F_X3_shown_L4 n m g0 v1 v2 = some q → ax_Ru (e + 9) L_X3_shown 4 [some (.inr (.inr (1, g0))), some (.inl v1), some (.inl v2)] [] m (some (.inl q), m) := by
  intro n
  induction n with
  | zero =>
    intro v1 v2 q h
    cases h
  | succ n ih =>
    intro v1 v2 q h
    rw [F_X3_shown_L4] at h
    have s2 : ∀ n, ax_ex (e + 9) L_X3_shown 4 [some (.inr (.inr (1, g0))), some (.inl v1), some (.inl v2)] [] m (n + 4) = if (m.1 1 g0 1) ≤ v2 then ax_ex (e + 9) L_X3_shown 16 [some (.inr (.inr (1, g0))), some (.inl v1), some (.inl v2)] [] m n else ax_ex (e + 9) L_X3_shown 8 [some (.inr (.inr (1, g0))), some (.inl v1), some (.inl v2)] [] m n := fun n => rfl
    by_cases c1 : (m.1 1 g0 1) ≤ v2
    · rw [if_pos c1] at h
      refine ax_gt c1 s2 ?_
      obtain rfl := Option.some.inj h
      exact ax_rs 2 (fun n => rfl)
    · rw [if_neg c1] at h
      refine ax_gf c1 s2 ?_
      obtain ⟨r4, q3, h⟩ := ax_b_of h
      have s5 : ∀ n, ax_ex (e + 9) L_X3_shown 8 [some (.inr (.inr (1, g0))), some (.inl v1), some (.inl v2)] [] m (n + 4) = ax_aft (fun s m2 => ax_ex (e + 9) L_X3_shown 12 [some (.inr (.inr (1, g0))), some (.inl v1), some (.inl v2)] s m2 n) [.inl v1] (ax_ex (e + 8) L_X3_shownBy 0 (ax_entry [.inr (.inr (1, g0)), .inl v2] 2) [] m n) := fun n => rfl
      refine ax_gci (j := 4) (k2 := 12) (lv2 := [some (.inr (.inr (1, g0))), some (.inl v1), some (.inl v2)]) (rest := [.inl v1]) ((R_X3_shownBy (by omega) q3)) s5 ?_
      refine ax_go (j := 4) (k2 := 4) (lv2 := [some (.inr (.inr (1, g0))), some (.inl (v1 ||| r4)), some (.inl (v2 + 1))]) (st2 := []) (m2 := m) (fun n => rfl) ?_
      exact ax_fg (lv2 := [some (.inr (.inr (1, g0))), some (.inl (v1 ||| r4)), some (.inl (v2 + 1))]) ⟨rfl, rfl, rfl, trivial⟩ (ih (v1 ||| r4) (v2 + 1) _ h)
def F_X3_shown (m : ax_M) (g0 : Nat) : Option Int32 := F_X3_shown_L4 ax_FU m g0 0 0
set_option maxRecDepth 20000 in
set_option maxHeartbeats 4000000 in
theorem R_X3_shown {d : Nat} (hd : 9 ≤ d) {m : ax_M} {g0 : Nat} {q : Int32} (h : F_X3_shown m g0 = some q) : ax_Ru d L_X3_shown 0 (ax_entry [.inr (.inr (1, g0))] 3) [] m (some (.inl q), m) := by
  obtain ⟨e, rfl⟩ : ∃ e, d = e + 9 := ⟨d - 9, by omega⟩
  unfold F_X3_shown at h
  refine ax_go (j := 4) (k2 := 4) (lv2 := [some (.inr (.inr (1, g0))), some (.inl 0), some (.inl 0)]) (st2 := []) (m2 := m) (fun n => rfl) ?_
  refine ax_fg (lv2 := [some (.inr (.inr (1, g0))), some (.inl 0), some (.inl 0)]) ⟨rfl, rfl, rfl, trivial⟩ ?_
  refine R_X3_shown_L4 _ 0 0 _ h
def F_X3_showers_L4 : Nat → ax_M → Nat → Int32 → Int32 → Int32 → Option Int32
  | 0, _, _, _, _, _ => none
  | n + 1, m, g0, v1, v2, v3 => if (m.1 1 g0 1) ≤ v3 then (some v2) else (ax_b (F_X3_shownBy m g0 v3) (fun r4 => if ((ax_iushr r4 v1) &&& 1) = 0 then (F_X3_showers_L4 n m g0 v1 v2 (v3 + 1)) else (F_X3_showers_L4 n m g0 v1 (v2 ||| (ax_ishl 1 v3)) (v3 + 1))))
set_option maxRecDepth 20000 in
set_option maxHeartbeats 4000000 in
theorem R_X3_showers_L4 {e : Nat} {m : ax_M} {g0 : Nat} {v1 : Int32} : ∀ (n : Nat) (v2 : Int32) (v3 : Int32) (q : Int32), F_X3_showers_L4 n m g0 v1 v2 v3 = some q → ax_Ru (e + 9) L_X3_showers 4 [some (.inr (.inr (1, g0))), some (.inl v1), some (.inl v2), some (.inl v3)] [] m (some (.inl q), m) := by
  intro n
  induction n with
  | zero =>
    intro v2 v3 q h
    cases h
  | succ n ih =>
    intro v2 v3 q h
    rw [F_X3_showers_L4] at h
    have s2 : ∀ n, ax_ex (e + 9) L_X3_showers 4 [some (.inr (.inr (1, g0))), some (.inl v1), some (.inl v2), some (.inl v3)] [] m (n + 4) = if (m.1 1 g0 1) ≤ v3 then ax_ex (e + 9) L_X3_showers 24 [some (.inr (.inr (1, g0))), some (.inl v1), some (.inl v2), some (.inl v3)] [] m n else ax_ex (e + 9) L_X3_showers 8 [some (.inr (.inr (1, g0))), some (.inl v1), some (.inl v2), some (.inl v3)] [] m n := fun n => rfl
    by_cases c1 : (m.1 1 g0 1) ≤ v3
    · rw [if_pos c1] at h
      refine ax_gt c1 s2 ?_
      obtain rfl := Option.some.inj h
      exact ax_rs 2 (fun n => rfl)
    · rw [if_neg c1] at h
      refine ax_gf c1 s2 ?_
      obtain ⟨r4, q3, h⟩ := ax_b_of h
      have s8 : ∀ n, ax_ex (e + 9) L_X3_showers 8 [some (.inr (.inr (1, g0))), some (.inl v1), some (.inl v2), some (.inl v3)] [] m (n + 3) = ax_aft (fun s m2 => ax_ex (e + 9) L_X3_showers 11 [some (.inr (.inr (1, g0))), some (.inl v1), some (.inl v2), some (.inl v3)] s m2 n) [] (ax_ex (e + 8) L_X3_shownBy 0 (ax_entry [.inr (.inr (1, g0)), .inl v3] 2) [] m n) := fun n => rfl
      refine ax_gci (j := 3) (k2 := 11) (lv2 := [some (.inr (.inr (1, g0))), some (.inl v1), some (.inl v2), some (.inl v3)]) (rest := []) ((R_X3_shownBy (by omega) q3)) s8 ?_
      refine ax_go (j := 4) (k2 := 15) (lv2 := [some (.inr (.inr (1, g0))), some (.inl v1), some (.inl v2), some (.inl v3)]) (st2 := [.inl ((ax_iushr r4 v1) &&& 1)]) (m2 := m) (fun n => rfl) ?_
      obtain ⟨y5, hy5⟩ : ∃ y : Int32, y = ((ax_iushr r4 v1) &&& 1) := ⟨_, rfl⟩
      rw [← hy5] at h ⊢
      have s7 : ∀ n, ax_ex (e + 9) L_X3_showers 15 [some (.inr (.inr (1, g0))), some (.inl v1), some (.inl v2), some (.inl v3)] [.inl y5] m (n + 1) = if y5 = 0 then ax_ex (e + 9) L_X3_showers 22 [some (.inr (.inr (1, g0))), some (.inl v1), some (.inl v2), some (.inl v3)] [] m n else ax_ex (e + 9) L_X3_showers 16 [some (.inr (.inr (1, g0))), some (.inl v1), some (.inl v2), some (.inl v3)] [] m n := fun n => rfl
      by_cases c6 : y5 = 0
      · rw [if_pos c6] at h
        refine ax_gt c6 s7 ?_
        refine ax_go (j := 2) (k2 := 4) (lv2 := [some (.inr (.inr (1, g0))), some (.inl v1), some (.inl v2), some (.inl (v3 + 1))]) (st2 := []) (m2 := m) (fun n => rfl) ?_
        exact ax_fg (lv2 := [some (.inr (.inr (1, g0))), some (.inl v1), some (.inl v2), some (.inl (v3 + 1))]) ⟨rfl, rfl, rfl, rfl, trivial⟩ (ih v2 (v3 + 1) _ h)
      · rw [if_neg c6] at h
        refine ax_gf c6 s7 ?_
        refine ax_go (j := 8) (k2 := 4) (lv2 := [some (.inr (.inr (1, g0))), some (.inl v1), some (.inl (v2 ||| (ax_ishl 1 v3))), some (.inl (v3 + 1))]) (st2 := []) (m2 := m) (fun n => rfl) ?_
        exact ax_fg (lv2 := [some (.inr (.inr (1, g0))), some (.inl v1), some (.inl (v2 ||| (ax_ishl 1 v3))), some (.inl (v3 + 1))]) ⟨rfl, rfl, rfl, rfl, trivial⟩ (ih (v2 ||| (ax_ishl 1 v3)) (v3 + 1) _ h)
def F_X3_showers (m : ax_M) (g0 : Nat) (v1 : Int32) : Option Int32 := F_X3_showers_L4 ax_FU m g0 v1 0 0
set_option maxRecDepth 20000 in
set_option maxHeartbeats 4000000 in
theorem R_X3_showers {d : Nat} (hd : 9 ≤ d) {m : ax_M} {g0 : Nat} {v1 : Int32} {q : Int32} (h : F_X3_showers m g0 v1 = some q) : ax_Ru d L_X3_showers 0 (ax_entry [.inr (.inr (1, g0)), .inl v1] 4) [] m (some (.inl q), m) := by
  obtain ⟨e, rfl⟩ : ∃ e, d = e + 9 := ⟨d - 9, by omega⟩
  unfold F_X3_showers at h
  refine ax_go (j := 4) (k2 := 4) (lv2 := [some (.inr (.inr (1, g0))), some (.inl v1), some (.inl 0), some (.inl 0)]) (st2 := []) (m2 := m) (fun n => rfl) ?_
  refine ax_fg (lv2 := [some (.inr (.inr (1, g0))), some (.inl v1), some (.inl 0), some (.inl 0)]) ⟨rfl, rfl, rfl, rfl, trivial⟩ ?_
  refine R_X3_showers_L4 _ 0 0 _ h
def F_X3_quietAmong_L10 : Nat → ax_M → Nat → Int32 → Int64 → Int32 → Option Int64
  | 0, _, _, _, _, _ => none
  | n + 1, m, g0, v3, v4, v6 => if (m.1 1 g0 4) ≤ v6 then (some (((m.2 1 g0 0) ^^^ (-1)) &&& (v4 ^^^ (-1)))) else (if ((ax_iushr v3 v6) &&& 1) = 0 then (F_X3_quietAmong_L10 n m g0 v3 v4 (v6 + 1)) else (if ax_ok v6 16 = true then (ax_b (F_X6_zone m (16 * g0 + v6.toNatClampNeg)) (fun r11 => F_X3_quietAmong_L10 n m g0 v3 (v4 ||| r11) (v6 + 1))) else (none)))
set_option maxRecDepth 20000 in
set_option maxHeartbeats 4000000 in
theorem R_X3_quietAmong_L10 {e : Nat} {m : ax_M} {g0 : Nat} {v3 : Int32} : ∀ (n : Nat) (v4 : Int64) (v6 : Int32) (q : Int64), F_X3_quietAmong_L10 n m g0 v3 v4 v6 = some q → ax_Ru (e + 8) L_X3_quietAmong 10 [some (.inr (.inr (1, g0))), none, none, some (.inl v3), some (.inr (.inl v4)), none, some (.inl v6)] [] m (some (.inr (.inl q)), m) := by
  intro n
  induction n with
  | zero =>
    intro v4 v6 q h
    cases h
  | succ n ih =>
    intro v4 v6 q h
    rw [F_X3_quietAmong_L10] at h
    have s4 : ∀ n, ax_ex (e + 8) L_X3_quietAmong 10 [some (.inr (.inr (1, g0))), none, none, some (.inl v3), some (.inr (.inl v4)), none, some (.inl v6)] [] m (n + 4) = if (m.1 1 g0 4) ≤ v6 then ax_ex (e + 8) L_X3_quietAmong 30 [some (.inr (.inr (1, g0))), none, none, some (.inl v3), some (.inr (.inl v4)), none, some (.inl v6)] [] m n else ax_ex (e + 8) L_X3_quietAmong 14 [some (.inr (.inr (1, g0))), none, none, some (.inl v3), some (.inr (.inl v4)), none, some (.inl v6)] [] m n := fun n => rfl
    by_cases c3 : (m.1 1 g0 4) ≤ v6
    · rw [if_pos c3] at h
      refine ax_gt c3 s4 ?_
      obtain rfl := Option.some.inj h
      exact ax_rs 9 (fun n => rfl)
    · rw [if_neg c3] at h
      refine ax_gf c3 s4 ?_
      refine ax_go (j := 5) (k2 := 19) (lv2 := [some (.inr (.inr (1, g0))), none, none, some (.inl v3), some (.inr (.inl v4)), none, some (.inl v6)]) (st2 := [.inl ((ax_iushr v3 v6) &&& 1)]) (m2 := m) (fun n => rfl) ?_
      obtain ⟨y5, hy5⟩ : ∃ y : Int32, y = ((ax_iushr v3 v6) &&& 1) := ⟨_, rfl⟩
      rw [← hy5] at h ⊢
      have s7 : ∀ n, ax_ex (e + 8) L_X3_quietAmong 19 [some (.inr (.inr (1, g0))), none, none, some (.inl v3), some (.inr (.inl v4)), none, some (.inl v6)] [.inl y5] m (n + 1) = if y5 = 0 then ax_ex (e + 8) L_X3_quietAmong 28 [some (.inr (.inr (1, g0))), none, none, some (.inl v3), some (.inr (.inl v4)), none, some (.inl v6)] [] m n else ax_ex (e + 8) L_X3_quietAmong 20 [some (.inr (.inr (1, g0))), none, none, some (.inl v3), some (.inr (.inl v4)), none, some (.inl v6)] [] m n := fun n => rfl
      by_cases c6 : y5 = 0
      · rw [if_pos c6] at h
        refine ax_gt c6 s7 ?_
        refine ax_go (j := 2) (k2 := 10) (lv2 := [some (.inr (.inr (1, g0))), none, none, some (.inl v3), some (.inr (.inl v4)), none, some (.inl (v6 + 1))]) (st2 := []) (m2 := m) (fun n => rfl) ?_
        exact ax_fg (lv2 := [some (.inr (.inr (1, g0))), none, none, some (.inl v3), some (.inr (.inl v4)), none, some (.inl (v6 + 1))]) ⟨rfl, rfl, rfl, rfl, trivial⟩ (ih v4 (v6 + 1) _ h)
      · rw [if_neg c6] at h
        refine ax_gf c6 s7 ?_
        have s9 : ∀ n, ax_ex (e + 8) L_X3_quietAmong 20 [some (.inr (.inr (1, g0))), none, none, some (.inl v3), some (.inr (.inl v4)), none, some (.inl v6)] [] m (n + 5) = if ax_ok v6 16 = true then ax_ex (e + 8) L_X3_quietAmong 25 [some (.inr (.inr (1, g0))), none, none, some (.inl v3), some (.inr (.inl v4)), none, some (.inl v6)] [.inr (.inr (6, (16 * g0 + v6.toNatClampNeg))), .inr (.inl v4)] m n else none := fun n => rfl
        by_cases c8 : ax_ok v6 16 = true
        · rw [if_pos c8] at h
          refine ax_gt c8 s9 ?_
          obtain ⟨r11, q10, h⟩ := ax_b_of h
          have s12 : ∀ n, ax_ex (e + 8) L_X3_quietAmong 25 [some (.inr (.inr (1, g0))), none, none, some (.inl v3), some (.inr (.inl v4)), none, some (.inl v6)] [.inr (.inr (6, (16 * g0 + v6.toNatClampNeg))), .inr (.inl v4)] m (n + 1) = ax_aft (fun s m2 => ax_ex (e + 8) L_X3_quietAmong 26 [some (.inr (.inr (1, g0))), none, none, some (.inl v3), some (.inr (.inl v4)), none, some (.inl v6)] s m2 n) [.inr (.inl v4)] (ax_ex (e + 7) L_X6_zone 0 (ax_entry [.inr (.inr (6, (16 * g0 + v6.toNatClampNeg)))] 1) [] m n) := fun n => rfl
          refine ax_gcl (j := 1) (k2 := 26) (lv2 := [some (.inr (.inr (1, g0))), none, none, some (.inl v3), some (.inr (.inl v4)), none, some (.inl v6)]) (rest := [.inr (.inl v4)]) ((R_X6_zone (by omega) q10)) s12 ?_
          refine ax_go (j := 4) (k2 := 10) (lv2 := [some (.inr (.inr (1, g0))), none, none, some (.inl v3), some (.inr (.inl (v4 ||| r11))), none, some (.inl (v6 + 1))]) (st2 := []) (m2 := m) (fun n => rfl) ?_
          exact ax_fg (lv2 := [some (.inr (.inr (1, g0))), none, none, some (.inl v3), some (.inr (.inl (v4 ||| r11))), none, some (.inl (v6 + 1))]) ⟨rfl, rfl, rfl, rfl, trivial⟩ (ih (v4 ||| r11) (v6 + 1) _ h)
        · rw [if_neg c8] at h
          cases h
def F_X3_quietAmong (m : ax_M) (g0 : Nat) (v1 : Int32) (v2 : Int32) : Option Int64 := ax_b (F_X3_enoughOf m g0 v1) (fun r2 => F_X3_quietAmong_L10 ax_FU m g0 (r2 &&& v2) 0 0)
set_option maxRecDepth 20000 in
set_option maxHeartbeats 4000000 in
theorem R_X3_quietAmong {d : Nat} (hd : 8 ≤ d) {m : ax_M} {g0 : Nat} {v1 : Int32} {v2 : Int32} {q : Int64} (h : F_X3_quietAmong m g0 v1 v2 = some q) : ax_Ru d L_X3_quietAmong 0 (ax_entry [.inr (.inr (1, g0)), .inl v1, .inl v2] 7) [] m (some (.inr (.inl q)), m) := by
  obtain ⟨e, rfl⟩ : ∃ e, d = e + 8 := ⟨d - 8, by omega⟩
  unfold F_X3_quietAmong at h
  obtain ⟨r2, q1, h⟩ := ax_b_of h
  have s14 : ∀ n, ax_ex (e + 8) L_X3_quietAmong 0 (ax_entry [.inr (.inr (1, g0)), .inl v1, .inl v2] 7) [] m (n + 3) = ax_aft (fun s m2 => ax_ex (e + 8) L_X3_quietAmong 3 [some (.inr (.inr (1, g0))), some (.inl v1), some (.inl v2), none, none, none, none] s m2 n) [] (ax_ex (e + 7) L_X3_enoughOf 0 (ax_entry [.inr (.inr (1, g0)), .inl v1] 7) [] m n) := fun n => rfl
  refine ax_gci (j := 3) (k2 := 3) (lv2 := [some (.inr (.inr (1, g0))), some (.inl v1), some (.inl v2), none, none, none, none]) (rest := []) ((R_X3_enoughOf (by omega) q1)) s14 ?_
  refine ax_go (j := 7) (k2 := 10) (lv2 := [some (.inr (.inr (1, g0))), some (.inl v1), some (.inl v2), some (.inl (r2 &&& v2)), some (.inr (.inl 0)), none, some (.inl 0)]) (st2 := []) (m2 := m) (fun n => rfl) ?_
  refine ax_fg (lv2 := [some (.inr (.inr (1, g0))), none, none, some (.inl (r2 &&& v2)), some (.inr (.inl 0)), none, some (.inl 0)]) ⟨rfl, rfl, rfl, rfl, trivial⟩ ?_
  refine R_X3_quietAmong_L10 _ 0 0 _ h
def F_X3_quietFor (m : ax_M) (g0 : Nat) (v1 : Int32) : Option Int64 := ax_b (F_X3_allSeeds m g0) (fun r2 => ax_b (F_X3_quietAmong m g0 v1 r2) (fun r4 => some r4))
set_option maxRecDepth 20000 in
set_option maxHeartbeats 4000000 in
theorem R_X3_quietFor {d : Nat} (hd : 9 ≤ d) {m : ax_M} {g0 : Nat} {v1 : Int32} {q : Int64} (h : F_X3_quietFor m g0 v1 = some q) : ax_Ru d L_X3_quietFor 0 (ax_entry [.inr (.inr (1, g0)), .inl v1] 2) [] m (some (.inr (.inl q)), m) := by
  obtain ⟨e, rfl⟩ : ∃ e, d = e + 9 := ⟨d - 9, by omega⟩
  unfold F_X3_quietFor at h
  obtain ⟨r2, q1, h⟩ := ax_b_of h
  have s6 : ∀ n, ax_ex (e + 9) L_X3_quietFor 0 (ax_entry [.inr (.inr (1, g0)), .inl v1] 2) [] m (n + 4) = ax_aft (fun s m2 => ax_ex (e + 9) L_X3_quietFor 4 [some (.inr (.inr (1, g0))), some (.inl v1)] s m2 n) [.inl v1, .inr (.inr (1, g0))] (ax_ex (e + 8) L_X3_allSeeds 0 (ax_entry [.inr (.inr (1, g0))] 1) [] m n) := fun n => rfl
  refine ax_gci (j := 4) (k2 := 4) (lv2 := [some (.inr (.inr (1, g0))), some (.inl v1)]) (rest := [.inl v1, .inr (.inr (1, g0))]) ((R_X3_allSeeds (by omega) q1)) s6 ?_
  obtain ⟨r4, q3, h⟩ := ax_b_of h
  have s5 : ∀ n, ax_ex (e + 9) L_X3_quietFor 4 [some (.inr (.inr (1, g0))), some (.inl v1)] [.inl r2, .inl v1, .inr (.inr (1, g0))] m (n + 1) = ax_aft (fun s m2 => ax_ex (e + 9) L_X3_quietFor 5 [some (.inr (.inr (1, g0))), some (.inl v1)] s m2 n) [] (ax_ex (e + 8) L_X3_quietAmong 0 (ax_entry [.inr (.inr (1, g0)), .inl v1, .inl r2] 7) [] m n) := fun n => rfl
  refine ax_gcl (j := 1) (k2 := 5) (lv2 := [some (.inr (.inr (1, g0))), some (.inl v1)]) (rest := []) ((R_X3_quietAmong (by omega) q3)) s5 ?_
  obtain rfl := Option.some.inj h
  exact ax_rs 1 (fun n => rfl)
def F_X3_dueOf_L10 : Nat → ax_M → Nat → Int32 → Int32 → Int32 → Int32 → Int32 → Option Int32
  | 0, _, _, _, _, _, _, _ => none
  | n + 1, m, g0, v1, v2, v3, v4, v5 => if (m.1 1 g0 4) ≤ v5 then (some v4) else (if ax_ok v5 16 = true then (if (m.1 6 (16 * g0 + v5.toNatClampNeg) 3) = v2 then (if (m.1 6 (16 * g0 + v5.toNatClampNeg) 0) = 4 then (F_X3_dueOf_L10 n m g0 v1 v2 v3 v4 (v5 + 1)) else (ax_b (F_X6_zone m (16 * g0 + v5.toNatClampNeg)) (fun r12 => if ax_ok v1 8 = true then (ax_b (F_X0_has r12 (m.1 2 g0 v1.toNatClampNeg)) (fun r16 => if r16 = 0 then (F_X3_dueOf_L10 n m g0 v1 v2 v3 v4 (v5 + 1)) else (ax_b (F_X6_price m (16 * g0 + v5.toNatClampNeg)) (fun r20 => F_X3_dueOf_L10 n m g0 v1 v2 v3 (ax_max v4 ((v3 - r20) + 1)) (v5 + 1))))) else (none)))) else (F_X3_dueOf_L10 n m g0 v1 v2 v3 v4 (v5 + 1))) else (none))
set_option maxRecDepth 20000 in
set_option maxHeartbeats 4000000 in
theorem R_X3_dueOf_L10 {e : Nat} {m : ax_M} {g0 : Nat} {v1 : Int32} {v2 : Int32} {v3 : Int32} : ∀ (n : Nat) (v4 : Int32) (v5 : Int32) (q : Int32), F_X3_dueOf_L10 n m g0 v1 v2 v3 v4 v5 = some q → ax_Ru (e + 7) L_X3_dueOf 10 [some (.inr (.inr (1, g0))), some (.inl v1), some (.inl v2), some (.inl v3), some (.inl v4), some (.inl v5), none] [] m (some (.inl q), m) := by
  intro n
  induction n with
  | zero =>
    intro v4 v5 q h
    cases h
  | succ n ih =>
    intro v4 v5 q h
    rw [F_X3_dueOf_L10] at h
    have s4 : ∀ n, ax_ex (e + 7) L_X3_dueOf 10 [some (.inr (.inr (1, g0))), some (.inl v1), some (.inl v2), some (.inl v3), some (.inl v4), some (.inl v5), none] [] m (n + 4) = if (m.1 1 g0 4) ≤ v5 then ax_ex (e + 7) L_X3_dueOf 46 [some (.inr (.inr (1, g0))), some (.inl v1), some (.inl v2), some (.inl v3), some (.inl v4), some (.inl v5), none] [] m n else ax_ex (e + 7) L_X3_dueOf 14 [some (.inr (.inr (1, g0))), some (.inl v1), some (.inl v2), some (.inl v3), some (.inl v4), some (.inl v5), none] [] m n := fun n => rfl
    by_cases c3 : (m.1 1 g0 4) ≤ v5
    · rw [if_pos c3] at h
      refine ax_gt c3 s4 ?_
      obtain rfl := Option.some.inj h
      exact ax_rs 2 (fun n => rfl)
    · rw [if_neg c3] at h
      refine ax_gf c3 s4 ?_
      have s6 : ∀ n, ax_ex (e + 7) L_X3_dueOf 14 [some (.inr (.inr (1, g0))), some (.inl v1), some (.inl v2), some (.inl v3), some (.inl v4), some (.inl v5), none] [] m (n + 4) = if ax_ok v5 16 = true then ax_ex (e + 7) L_X3_dueOf 18 [some (.inr (.inr (1, g0))), some (.inl v1), some (.inl v2), some (.inl v3), some (.inl v4), some (.inl v5), none] [.inr (.inr (6, (16 * g0 + v5.toNatClampNeg)))] m n else none := fun n => rfl
      by_cases c5 : ax_ok v5 16 = true
      · rw [if_pos c5] at h
        refine ax_gt c5 s6 ?_
        have s8 : ∀ n, ax_ex (e + 7) L_X3_dueOf 18 [some (.inr (.inr (1, g0))), some (.inl v1), some (.inl v2), some (.inl v3), some (.inl v4), some (.inl v5), none] [.inr (.inr (6, (16 * g0 + v5.toNatClampNeg)))] m (n + 5) = if (m.1 6 (16 * g0 + v5.toNatClampNeg) 3) = v2 then ax_ex (e + 7) L_X3_dueOf 23 [some (.inr (.inr (1, g0))), some (.inl v1), some (.inl v2), some (.inl v3), some (.inl v4), some (.inl v5), some (.inr (.inr (6, (16 * g0 + v5.toNatClampNeg))))] [] m n else ax_ex (e + 7) L_X3_dueOf 44 [some (.inr (.inr (1, g0))), some (.inl v1), some (.inl v2), some (.inl v3), some (.inl v4), some (.inl v5), some (.inr (.inr (6, (16 * g0 + v5.toNatClampNeg))))] [] m n := fun n => rfl
        by_cases c7 : (m.1 6 (16 * g0 + v5.toNatClampNeg) 3) = v2
        · rw [if_pos c7] at h
          refine ax_gt c7 s8 ?_
          have s10 : ∀ n, ax_ex (e + 7) L_X3_dueOf 23 [some (.inr (.inr (1, g0))), some (.inl v1), some (.inl v2), some (.inl v3), some (.inl v4), some (.inl v5), some (.inr (.inr (6, (16 * g0 + v5.toNatClampNeg))))] [] m (n + 4) = if (m.1 6 (16 * g0 + v5.toNatClampNeg) 0) = 4 then ax_ex (e + 7) L_X3_dueOf 44 [some (.inr (.inr (1, g0))), some (.inl v1), some (.inl v2), some (.inl v3), some (.inl v4), some (.inl v5), some (.inr (.inr (6, (16 * g0 + v5.toNatClampNeg))))] [] m n else ax_ex (e + 7) L_X3_dueOf 27 [some (.inr (.inr (1, g0))), some (.inl v1), some (.inl v2), some (.inl v3), some (.inl v4), some (.inl v5), some (.inr (.inr (6, (16 * g0 + v5.toNatClampNeg))))] [] m n := fun n => rfl
          by_cases c9 : (m.1 6 (16 * g0 + v5.toNatClampNeg) 0) = 4
          · rw [if_pos c9] at h
            refine ax_gt c9 s10 ?_
            refine ax_go (j := 2) (k2 := 10) (lv2 := [some (.inr (.inr (1, g0))), some (.inl v1), some (.inl v2), some (.inl v3), some (.inl v4), some (.inl (v5 + 1)), some (.inr (.inr (6, (16 * g0 + v5.toNatClampNeg))))]) (st2 := []) (m2 := m) (fun n => rfl) ?_
            exact ax_fg (lv2 := [some (.inr (.inr (1, g0))), some (.inl v1), some (.inl v2), some (.inl v3), some (.inl v4), some (.inl (v5 + 1)), none]) ⟨rfl, rfl, rfl, rfl, rfl, rfl, trivial⟩ (ih v4 (v5 + 1) _ h)
          · rw [if_neg c9] at h
            refine ax_gf c9 s10 ?_
            obtain ⟨r12, q11, h⟩ := ax_b_of h
            have s23 : ∀ n, ax_ex (e + 7) L_X3_dueOf 27 [some (.inr (.inr (1, g0))), some (.inl v1), some (.inl v2), some (.inl v3), some (.inl v4), some (.inl v5), some (.inr (.inr (6, (16 * g0 + v5.toNatClampNeg))))] [] m (n + 2) = ax_aft (fun s m2 => ax_ex (e + 7) L_X3_dueOf 29 [some (.inr (.inr (1, g0))), some (.inl v1), some (.inl v2), some (.inl v3), some (.inl v4), some (.inl v5), some (.inr (.inr (6, (16 * g0 + v5.toNatClampNeg))))] s m2 n) [] (ax_ex (e + 6) L_X6_zone 0 (ax_entry [.inr (.inr (6, (16 * g0 + v5.toNatClampNeg)))] 1) [] m n) := fun n => rfl
            refine ax_gcl (j := 2) (k2 := 29) (lv2 := [some (.inr (.inr (1, g0))), some (.inl v1), some (.inl v2), some (.inl v3), some (.inl v4), some (.inl v5), some (.inr (.inr (6, (16 * g0 + v5.toNatClampNeg))))]) (rest := []) ((R_X6_zone (by omega) q11)) s23 ?_
            have s14 : ∀ n, ax_ex (e + 7) L_X3_dueOf 29 [some (.inr (.inr (1, g0))), some (.inl v1), some (.inl v2), some (.inl v3), some (.inl v4), some (.inl v5), some (.inr (.inr (6, (16 * g0 + v5.toNatClampNeg))))] [.inr (.inl r12)] m (n + 4) = if ax_ok v1 8 = true then ax_ex (e + 7) L_X3_dueOf 33 [some (.inr (.inr (1, g0))), some (.inl v1), some (.inl v2), some (.inl v3), some (.inl v4), some (.inl v5), some (.inr (.inr (6, (16 * g0 + v5.toNatClampNeg))))] [.inl (m.1 2 g0 v1.toNatClampNeg), .inr (.inl r12)] m n else none := fun n => rfl
            by_cases c13 : ax_ok v1 8 = true
            · rw [if_pos c13] at h
              refine ax_gt c13 s14 ?_
              obtain ⟨r16, q15, h⟩ := ax_b_of h
              have s22 : ∀ n, ax_ex (e + 7) L_X3_dueOf 33 [some (.inr (.inr (1, g0))), some (.inl v1), some (.inl v2), some (.inl v3), some (.inl v4), some (.inl v5), some (.inr (.inr (6, (16 * g0 + v5.toNatClampNeg))))] [.inl (m.1 2 g0 v1.toNatClampNeg), .inr (.inl r12)] m (n + 1) = ax_aft (fun s m2 => ax_ex (e + 7) L_X3_dueOf 34 [some (.inr (.inr (1, g0))), some (.inl v1), some (.inl v2), some (.inl v3), some (.inl v4), some (.inl v5), some (.inr (.inr (6, (16 * g0 + v5.toNatClampNeg))))] s m2 n) [] (ax_ex (e + 6) L_X0_has 0 (ax_entry [.inr (.inl r12), .inl (m.1 2 g0 v1.toNatClampNeg)] 3) [] m n) := fun n => rfl
              refine ax_gci (j := 1) (k2 := 34) (lv2 := [some (.inr (.inr (1, g0))), some (.inl v1), some (.inl v2), some (.inl v3), some (.inl v4), some (.inl v5), some (.inr (.inr (6, (16 * g0 + v5.toNatClampNeg))))]) (rest := []) ((R_X0_has (by omega) q15)) s22 ?_
              have s18 : ∀ n, ax_ex (e + 7) L_X3_dueOf 34 [some (.inr (.inr (1, g0))), some (.inl v1), some (.inl v2), some (.inl v3), some (.inl v4), some (.inl v5), some (.inr (.inr (6, (16 * g0 + v5.toNatClampNeg))))] [.inl r16] m (n + 1) = if r16 = 0 then ax_ex (e + 7) L_X3_dueOf 44 [some (.inr (.inr (1, g0))), some (.inl v1), some (.inl v2), some (.inl v3), some (.inl v4), some (.inl v5), some (.inr (.inr (6, (16 * g0 + v5.toNatClampNeg))))] [] m n else ax_ex (e + 7) L_X3_dueOf 35 [some (.inr (.inr (1, g0))), some (.inl v1), some (.inl v2), some (.inl v3), some (.inl v4), some (.inl v5), some (.inr (.inr (6, (16 * g0 + v5.toNatClampNeg))))] [] m n := fun n => rfl
              by_cases c17 : r16 = 0
              · rw [if_pos c17] at h
                refine ax_gt c17 s18 ?_
                refine ax_go (j := 2) (k2 := 10) (lv2 := [some (.inr (.inr (1, g0))), some (.inl v1), some (.inl v2), some (.inl v3), some (.inl v4), some (.inl (v5 + 1)), some (.inr (.inr (6, (16 * g0 + v5.toNatClampNeg))))]) (st2 := []) (m2 := m) (fun n => rfl) ?_
                exact ax_fg (lv2 := [some (.inr (.inr (1, g0))), some (.inl v1), some (.inl v2), some (.inl v3), some (.inl v4), some (.inl (v5 + 1)), none]) ⟨rfl, rfl, rfl, rfl, rfl, rfl, trivial⟩ (ih v4 (v5 + 1) _ h)
              · rw [if_neg c17] at h
                refine ax_gf c17 s18 ?_
                obtain ⟨r20, q19, h⟩ := ax_b_of h
                have s21 : ∀ n, ax_ex (e + 7) L_X3_dueOf 35 [some (.inr (.inr (1, g0))), some (.inl v1), some (.inl v2), some (.inl v3), some (.inl v4), some (.inl v5), some (.inr (.inr (6, (16 * g0 + v5.toNatClampNeg))))] [] m (n + 4) = ax_aft (fun s m2 => ax_ex (e + 7) L_X3_dueOf 39 [some (.inr (.inr (1, g0))), some (.inl v1), some (.inl v2), some (.inl v3), some (.inl v4), some (.inl v5), some (.inr (.inr (6, (16 * g0 + v5.toNatClampNeg))))] s m2 n) [.inl v3, .inl v4] (ax_ex (e + 6) L_X6_price 0 (ax_entry [.inr (.inr (6, (16 * g0 + v5.toNatClampNeg)))] 1) [] m n) := fun n => rfl
                refine ax_gci (j := 4) (k2 := 39) (lv2 := [some (.inr (.inr (1, g0))), some (.inl v1), some (.inl v2), some (.inl v3), some (.inl v4), some (.inl v5), some (.inr (.inr (6, (16 * g0 + v5.toNatClampNeg))))]) (rest := [.inl v3, .inl v4]) ((R_X6_price (by omega) q19)) s21 ?_
                refine ax_go (j := 7) (k2 := 10) (lv2 := [some (.inr (.inr (1, g0))), some (.inl v1), some (.inl v2), some (.inl v3), some (.inl (ax_max v4 ((v3 - r20) + 1))), some (.inl (v5 + 1)), some (.inr (.inr (6, (16 * g0 + v5.toNatClampNeg))))]) (st2 := []) (m2 := m) (fun n => rfl) ?_
                exact ax_fg (lv2 := [some (.inr (.inr (1, g0))), some (.inl v1), some (.inl v2), some (.inl v3), some (.inl (ax_max v4 ((v3 - r20) + 1))), some (.inl (v5 + 1)), none]) ⟨rfl, rfl, rfl, rfl, rfl, rfl, trivial⟩ (ih (ax_max v4 ((v3 - r20) + 1)) (v5 + 1) _ h)
            · rw [if_neg c13] at h
              cases h
        · rw [if_neg c7] at h
          refine ax_gf c7 s8 ?_
          refine ax_go (j := 2) (k2 := 10) (lv2 := [some (.inr (.inr (1, g0))), some (.inl v1), some (.inl v2), some (.inl v3), some (.inl v4), some (.inl (v5 + 1)), some (.inr (.inr (6, (16 * g0 + v5.toNatClampNeg))))]) (st2 := []) (m2 := m) (fun n => rfl) ?_
          exact ax_fg (lv2 := [some (.inr (.inr (1, g0))), some (.inl v1), some (.inl v2), some (.inl v3), some (.inl v4), some (.inl (v5 + 1)), none]) ⟨rfl, rfl, rfl, rfl, rfl, rfl, trivial⟩ (ih v4 (v5 + 1) _ h)
      · rw [if_neg c5] at h
        cases h
def F_X3_dueOf (m : ax_M) (g0 : Nat) (v1 : Int32) (v2 : Int32) : Option Int32 := ax_b (F_X2_of m g0 v1 v2) (fun r2 => F_X3_dueOf_L10 ax_FU m g0 v1 v2 r2 0 0)
set_option maxRecDepth 20000 in
set_option maxHeartbeats 4000000 in
theorem R_X3_dueOf {d : Nat} (hd : 7 ≤ d) {m : ax_M} {g0 : Nat} {v1 : Int32} {v2 : Int32} {q : Int32} (h : F_X3_dueOf m g0 v1 v2 = some q) : ax_Ru d L_X3_dueOf 0 (ax_entry [.inr (.inr (1, g0)), .inl v1, .inl v2] 7) [] m (some (.inl q), m) := by
  obtain ⟨e, rfl⟩ : ∃ e, d = e + 7 := ⟨d - 7, by omega⟩
  unfold F_X3_dueOf at h
  obtain ⟨r2, q1, h⟩ := ax_b_of h
  have s25 : ∀ n, ax_ex (e + 7) L_X3_dueOf 0 (ax_entry [.inr (.inr (1, g0)), .inl v1, .inl v2] 7) [] m (n + 5) = ax_aft (fun s m2 => ax_ex (e + 7) L_X3_dueOf 5 [some (.inr (.inr (1, g0))), some (.inl v1), some (.inl v2), none, none, none, none] s m2 n) [] (ax_ex (e + 6) L_X2_of 0 (ax_entry [.inr (.inr (3, g0)), .inl v1, .inl v2] 3) [] m n) := fun n => rfl
  refine ax_gci (j := 5) (k2 := 5) (lv2 := [some (.inr (.inr (1, g0))), some (.inl v1), some (.inl v2), none, none, none, none]) (rest := []) ((R_X2_of (by omega) q1)) s25 ?_
  refine ax_go (j := 5) (k2 := 10) (lv2 := [some (.inr (.inr (1, g0))), some (.inl v1), some (.inl v2), some (.inl r2), some (.inl 0), some (.inl 0), none]) (st2 := []) (m2 := m) (fun n => rfl) ?_
  refine ax_fg (lv2 := [some (.inr (.inr (1, g0))), some (.inl v1), some (.inl v2), some (.inl r2), some (.inl 0), some (.inl 0), none]) ⟨rfl, rfl, rfl, rfl, rfl, rfl, trivial⟩ ?_
  refine R_X3_dueOf_L10 _ 0 0 _ h
def F_X3_allDueOf_L4 : Nat → ax_M → Nat → Int32 → Int32 → Int32 → Option Int32
  | 0, _, _, _, _, _ => none
  | n + 1, m, g0, v1, v2, v3 => if (m.1 1 g0 1) ≤ v3 then (some v2) else (ax_b (F_X3_dueOf m g0 v1 v3) (fun r4 => F_X3_allDueOf_L4 n m g0 v1 (v2 + r4) (v3 + 1)))
set_option maxRecDepth 20000 in
set_option maxHeartbeats 4000000 in
theorem R_X3_allDueOf_L4 {e : Nat} {m : ax_M} {g0 : Nat} {v1 : Int32} : ∀ (n : Nat) (v2 : Int32) (v3 : Int32) (q : Int32), F_X3_allDueOf_L4 n m g0 v1 v2 v3 = some q → ax_Ru (e + 8) L_X3_allDueOf 4 [some (.inr (.inr (1, g0))), some (.inl v1), some (.inl v2), some (.inl v3)] [] m (some (.inl q), m) := by
  intro n
  induction n with
  | zero =>
    intro v2 v3 q h
    cases h
  | succ n ih =>
    intro v2 v3 q h
    rw [F_X3_allDueOf_L4] at h
    have s2 : ∀ n, ax_ex (e + 8) L_X3_allDueOf 4 [some (.inr (.inr (1, g0))), some (.inl v1), some (.inl v2), some (.inl v3)] [] m (n + 4) = if (m.1 1 g0 1) ≤ v3 then ax_ex (e + 8) L_X3_allDueOf 17 [some (.inr (.inr (1, g0))), some (.inl v1), some (.inl v2), some (.inl v3)] [] m n else ax_ex (e + 8) L_X3_allDueOf 8 [some (.inr (.inr (1, g0))), some (.inl v1), some (.inl v2), some (.inl v3)] [] m n := fun n => rfl
    by_cases c1 : (m.1 1 g0 1) ≤ v3
    · rw [if_pos c1] at h
      refine ax_gt c1 s2 ?_
      obtain rfl := Option.some.inj h
      exact ax_rs 2 (fun n => rfl)
    · rw [if_neg c1] at h
      refine ax_gf c1 s2 ?_
      obtain ⟨r4, q3, h⟩ := ax_b_of h
      have s5 : ∀ n, ax_ex (e + 8) L_X3_allDueOf 8 [some (.inr (.inr (1, g0))), some (.inl v1), some (.inl v2), some (.inl v3)] [] m (n + 5) = ax_aft (fun s m2 => ax_ex (e + 8) L_X3_allDueOf 13 [some (.inr (.inr (1, g0))), some (.inl v1), some (.inl v2), some (.inl v3)] s m2 n) [.inl v2] (ax_ex (e + 7) L_X3_dueOf 0 (ax_entry [.inr (.inr (1, g0)), .inl v1, .inl v3] 7) [] m n) := fun n => rfl
      refine ax_gci (j := 5) (k2 := 13) (lv2 := [some (.inr (.inr (1, g0))), some (.inl v1), some (.inl v2), some (.inl v3)]) (rest := [.inl v2]) ((R_X3_dueOf (by omega) q3)) s5 ?_
      refine ax_go (j := 4) (k2 := 4) (lv2 := [some (.inr (.inr (1, g0))), some (.inl v1), some (.inl (v2 + r4)), some (.inl (v3 + 1))]) (st2 := []) (m2 := m) (fun n => rfl) ?_
      exact ax_fg (lv2 := [some (.inr (.inr (1, g0))), some (.inl v1), some (.inl (v2 + r4)), some (.inl (v3 + 1))]) ⟨rfl, rfl, rfl, rfl, trivial⟩ (ih (v2 + r4) (v3 + 1) _ h)
def F_X3_allDueOf (m : ax_M) (g0 : Nat) (v1 : Int32) : Option Int32 := F_X3_allDueOf_L4 ax_FU m g0 v1 0 0
set_option maxRecDepth 20000 in
set_option maxHeartbeats 4000000 in
theorem R_X3_allDueOf {d : Nat} (hd : 8 ≤ d) {m : ax_M} {g0 : Nat} {v1 : Int32} {q : Int32} (h : F_X3_allDueOf m g0 v1 = some q) : ax_Ru d L_X3_allDueOf 0 (ax_entry [.inr (.inr (1, g0)), .inl v1] 4) [] m (some (.inl q), m) := by
  obtain ⟨e, rfl⟩ : ∃ e, d = e + 8 := ⟨d - 8, by omega⟩
  unfold F_X3_allDueOf at h
  refine ax_go (j := 4) (k2 := 4) (lv2 := [some (.inr (.inr (1, g0))), some (.inl v1), some (.inl 0), some (.inl 0)]) (st2 := []) (m2 := m) (fun n => rfl) ?_
  refine ax_fg (lv2 := [some (.inr (.inr (1, g0))), some (.inl v1), some (.inl 0), some (.inl 0)]) ⟨rfl, rfl, rfl, rfl, trivial⟩ ?_
  refine R_X3_allDueOf_L4 _ 0 0 _ h
def F_X3_isNearRank_L11 : Nat → ax_M → Nat → Int32 → Int32 → Option Int32
  | 0, _, _, _, _ => none
  | n + 1, m, g0, v2, v3 => if (m.1 1 g0 4) ≤ v3 then (some 0) else (if ax_ok v3 16 = true then (if (m.1 6 (16 * g0 + v3.toNatClampNeg) 0) = 4 then (if ((ax_iushr v2 v3) &&& 1) = 0 then (F_X3_isNearRank_L11 n m g0 v2 (v3 + 1)) else (some 1)) else (F_X3_isNearRank_L11 n m g0 v2 (v3 + 1))) else (none))
set_option maxRecDepth 20000 in
set_option maxHeartbeats 4000000 in
theorem R_X3_isNearRank_L11 {e : Nat} {m : ax_M} {g0 : Nat} {v2 : Int32} : ∀ (n : Nat) (v3 : Int32) (q : Int32), F_X3_isNearRank_L11 n m g0 v2 v3 = some q → ax_Ru (e + 5) L_X3_isNearRank 11 [some (.inr (.inr (1, g0))), none, some (.inl v2), some (.inl v3)] [] m (some (.inl q), m) := by
  intro n
  induction n with
  | zero =>
    intro v3 q h
    cases h
  | succ n ih =>
    intro v3 q h
    rw [F_X3_isNearRank_L11] at h
    have s8 : ∀ n, ax_ex (e + 5) L_X3_isNearRank 11 [some (.inr (.inr (1, g0))), none, some (.inl v2), some (.inl v3)] [] m (n + 4) = if (m.1 1 g0 4) ≤ v3 then ax_ex (e + 5) L_X3_isNearRank 32 [some (.inr (.inr (1, g0))), none, some (.inl v2), some (.inl v3)] [] m n else ax_ex (e + 5) L_X3_isNearRank 15 [some (.inr (.inr (1, g0))), none, some (.inl v2), some (.inl v3)] [] m n := fun n => rfl
    by_cases c7 : (m.1 1 g0 4) ≤ v3
    · rw [if_pos c7] at h
      refine ax_gt c7 s8 ?_
      obtain rfl := Option.some.inj h
      exact ax_rq (c := (0 : Int32) = 0 ∨ (0 : Int32) = 1) (j := 2) (by decide) (fun n => rfl)
    · rw [if_neg c7] at h
      refine ax_gf c7 s8 ?_
      have s10 : ∀ n, ax_ex (e + 5) L_X3_isNearRank 15 [some (.inr (.inr (1, g0))), none, some (.inl v2), some (.inl v3)] [] m (n + 4) = if ax_ok v3 16 = true then ax_ex (e + 5) L_X3_isNearRank 19 [some (.inr (.inr (1, g0))), none, some (.inl v2), some (.inl v3)] [.inr (.inr (6, (16 * g0 + v3.toNatClampNeg)))] m n else none := fun n => rfl
      by_cases c9 : ax_ok v3 16 = true
      · rw [if_pos c9] at h
        refine ax_gt c9 s10 ?_
        have s12 : ∀ n, ax_ex (e + 5) L_X3_isNearRank 19 [some (.inr (.inr (1, g0))), none, some (.inl v2), some (.inl v3)] [.inr (.inr (6, (16 * g0 + v3.toNatClampNeg)))] m (n + 3) = if (m.1 6 (16 * g0 + v3.toNatClampNeg) 0) = 4 then ax_ex (e + 5) L_X3_isNearRank 22 [some (.inr (.inr (1, g0))), none, some (.inl v2), some (.inl v3)] [] m n else ax_ex (e + 5) L_X3_isNearRank 30 [some (.inr (.inr (1, g0))), none, some (.inl v2), some (.inl v3)] [] m n := fun n => rfl
        by_cases c11 : (m.1 6 (16 * g0 + v3.toNatClampNeg) 0) = 4
        · rw [if_pos c11] at h
          refine ax_gt c11 s12 ?_
          refine ax_go (j := 5) (k2 := 27) (lv2 := [some (.inr (.inr (1, g0))), none, some (.inl v2), some (.inl v3)]) (st2 := [.inl ((ax_iushr v2 v3) &&& 1)]) (m2 := m) (fun n => rfl) ?_
          obtain ⟨y13, hy13⟩ : ∃ y : Int32, y = ((ax_iushr v2 v3) &&& 1) := ⟨_, rfl⟩
          rw [← hy13] at h ⊢
          have s15 : ∀ n, ax_ex (e + 5) L_X3_isNearRank 27 [some (.inr (.inr (1, g0))), none, some (.inl v2), some (.inl v3)] [.inl y13] m (n + 1) = if y13 = 0 then ax_ex (e + 5) L_X3_isNearRank 30 [some (.inr (.inr (1, g0))), none, some (.inl v2), some (.inl v3)] [] m n else ax_ex (e + 5) L_X3_isNearRank 28 [some (.inr (.inr (1, g0))), none, some (.inl v2), some (.inl v3)] [] m n := fun n => rfl
          by_cases c14 : y13 = 0
          · rw [if_pos c14] at h
            refine ax_gt c14 s15 ?_
            refine ax_go (j := 2) (k2 := 11) (lv2 := [some (.inr (.inr (1, g0))), none, some (.inl v2), some (.inl (v3 + 1))]) (st2 := []) (m2 := m) (fun n => rfl) ?_
            exact ax_fg (lv2 := [some (.inr (.inr (1, g0))), none, some (.inl v2), some (.inl (v3 + 1))]) ⟨rfl, rfl, rfl, trivial⟩ (ih (v3 + 1) _ h)
          · rw [if_neg c14] at h
            refine ax_gf c14 s15 ?_
            obtain rfl := Option.some.inj h
            exact ax_rq (c := (1 : Int32) = 0 ∨ (1 : Int32) = 1) (j := 2) (by decide) (fun n => rfl)
        · rw [if_neg c11] at h
          refine ax_gf c11 s12 ?_
          refine ax_go (j := 2) (k2 := 11) (lv2 := [some (.inr (.inr (1, g0))), none, some (.inl v2), some (.inl (v3 + 1))]) (st2 := []) (m2 := m) (fun n => rfl) ?_
          exact ax_fg (lv2 := [some (.inr (.inr (1, g0))), none, some (.inl v2), some (.inl (v3 + 1))]) ⟨rfl, rfl, rfl, trivial⟩ (ih (v3 + 1) _ h)
      · rw [if_neg c9] at h
        cases h
def F_X3_isNearRank (m : ax_M) (g0 : Nat) (v1 : Int32) : Option Int32 := if ax_ok v1 8 = true then (ax_b (F_X3_allSeeds m g0) (fun r4 => ax_b (F_X3_near m g0 (m.1 2 g0 v1.toNatClampNeg) r4) (fun r6 => F_X3_isNearRank_L11 ax_FU m g0 r6 0))) else (none)
set_option maxRecDepth 20000 in
set_option maxHeartbeats 4000000 in
theorem R_X3_isNearRank {d : Nat} (hd : 5 ≤ d) {m : ax_M} {g0 : Nat} {v1 : Int32} {q : Int32} (h : F_X3_isNearRank m g0 v1 = some q) : ax_Ru d L_X3_isNearRank 0 (ax_entry [.inr (.inr (1, g0)), .inl v1] 4) [] m (some (.inl q), m) := by
  obtain ⟨e, rfl⟩ : ∃ e, d = e + 5 := ⟨d - 5, by omega⟩
  unfold F_X3_isNearRank at h
  have s2 : ∀ n, ax_ex (e + 5) L_X3_isNearRank 0 (ax_entry [.inr (.inr (1, g0)), .inl v1] 4) [] m (n + 5) = if ax_ok v1 8 = true then ax_ex (e + 5) L_X3_isNearRank 5 [some (.inr (.inr (1, g0))), some (.inl v1), none, none] [.inl (m.1 2 g0 v1.toNatClampNeg), .inr (.inr (1, g0))] m n else none := fun n => rfl
  by_cases c1 : ax_ok v1 8 = true
  · rw [if_pos c1] at h
    refine ax_gt c1 s2 ?_
    obtain ⟨r4, q3, h⟩ := ax_b_of h
    have s18 : ∀ n, ax_ex (e + 5) L_X3_isNearRank 5 [some (.inr (.inr (1, g0))), some (.inl v1), none, none] [.inl (m.1 2 g0 v1.toNatClampNeg), .inr (.inr (1, g0))] m (n + 2) = ax_aft (fun s m2 => ax_ex (e + 5) L_X3_isNearRank 7 [some (.inr (.inr (1, g0))), some (.inl v1), none, none] s m2 n) [.inl (m.1 2 g0 v1.toNatClampNeg), .inr (.inr (1, g0))] (ax_ex (e + 4) L_X3_allSeeds 0 (ax_entry [.inr (.inr (1, g0))] 1) [] m n) := fun n => rfl
    refine ax_gci (j := 2) (k2 := 7) (lv2 := [some (.inr (.inr (1, g0))), some (.inl v1), none, none]) (rest := [.inl (m.1 2 g0 v1.toNatClampNeg), .inr (.inr (1, g0))]) ((R_X3_allSeeds (by omega) q3)) s18 ?_
    obtain ⟨r6, q5, h⟩ := ax_b_of h
    have s17 : ∀ n, ax_ex (e + 5) L_X3_isNearRank 7 [some (.inr (.inr (1, g0))), some (.inl v1), none, none] [.inl r4, .inl (m.1 2 g0 v1.toNatClampNeg), .inr (.inr (1, g0))] m (n + 1) = ax_aft (fun s m2 => ax_ex (e + 5) L_X3_isNearRank 8 [some (.inr (.inr (1, g0))), some (.inl v1), none, none] s m2 n) [] (ax_ex (e + 4) L_X3_near 0 (ax_entry [.inr (.inr (1, g0)), .inl (m.1 2 g0 v1.toNatClampNeg), .inl r4] 5) [] m n) := fun n => rfl
    refine ax_gci (j := 1) (k2 := 8) (lv2 := [some (.inr (.inr (1, g0))), some (.inl v1), none, none]) (rest := []) ((R_X3_near (by omega) q5)) s17 ?_
    refine ax_go (j := 3) (k2 := 11) (lv2 := [some (.inr (.inr (1, g0))), some (.inl v1), some (.inl r6), some (.inl 0)]) (st2 := []) (m2 := m) (fun n => rfl) ?_
    refine ax_fg (lv2 := [some (.inr (.inr (1, g0))), none, some (.inl r6), some (.inl 0)]) ⟨rfl, rfl, rfl, trivial⟩ ?_
    refine R_X3_isNearRank_L11 _ 0 _ h
  · rw [if_neg c1] at h
    cases h
def F_X6_isTelltale (m : ax_M) (g0 : Nat) : Option Int32 := if (m.1 6 g0 0) = 0 then (some 1) else (if (m.1 6 g0 0) = 1 then (some 1) else (if (m.1 6 g0 0) = 2 then (some 1) else (some 0)))
set_option maxRecDepth 20000 in
set_option maxHeartbeats 4000000 in
theorem R_X6_isTelltale {d : Nat} (hd : 1 ≤ d) {m : ax_M} {g0 : Nat} {q : Int32} (h : F_X6_isTelltale m g0 = some q) : ax_Ru d L_X6_isTelltale 0 (ax_entry [.inr (.inr (6, g0))] 1) [] m (some (.inl q), m) := by
  obtain ⟨e, rfl⟩ : ∃ e, d = e + 1 := ⟨d - 1, by omega⟩
  unfold F_X6_isTelltale at h
  have s2 : ∀ n, ax_ex (e + 1) L_X6_isTelltale 0 (ax_entry [.inr (.inr (6, g0))] 1) [] m (n + 3) = if (m.1 6 g0 0) = 0 then ax_ex (e + 1) L_X6_isTelltale 11 [some (.inr (.inr (6, g0)))] [] m n else ax_ex (e + 1) L_X6_isTelltale 3 [some (.inr (.inr (6, g0)))] [] m n := fun n => rfl
  by_cases c1 : (m.1 6 g0 0) = 0
  · rw [if_pos c1] at h
    refine ax_gt c1 s2 ?_
    obtain rfl := Option.some.inj h
    exact ax_rq (c := (1 : Int32) = 0 ∨ (1 : Int32) = 1) (j := 3) (by decide) (fun n => rfl)
  · rw [if_neg c1] at h
    refine ax_gf c1 s2 ?_
    have s4 : ∀ n, ax_ex (e + 1) L_X6_isTelltale 3 [some (.inr (.inr (6, g0)))] [] m (n + 4) = if (m.1 6 g0 0) = 1 then ax_ex (e + 1) L_X6_isTelltale 11 [some (.inr (.inr (6, g0)))] [] m n else ax_ex (e + 1) L_X6_isTelltale 7 [some (.inr (.inr (6, g0)))] [] m n := fun n => rfl
    by_cases c3 : (m.1 6 g0 0) = 1
    · rw [if_pos c3] at h
      refine ax_gt c3 s4 ?_
      obtain rfl := Option.some.inj h
      exact ax_rq (c := (1 : Int32) = 0 ∨ (1 : Int32) = 1) (j := 3) (by decide) (fun n => rfl)
    · rw [if_neg c3] at h
      refine ax_gf c3 s4 ?_
      have s6 : ∀ n, ax_ex (e + 1) L_X6_isTelltale 7 [some (.inr (.inr (6, g0)))] [] m (n + 4) = if (m.1 6 g0 0) = 2 then ax_ex (e + 1) L_X6_isTelltale 11 [some (.inr (.inr (6, g0)))] [] m n else ax_ex (e + 1) L_X6_isTelltale 13 [some (.inr (.inr (6, g0)))] [] m n := fun n => rfl
      by_cases c5 : (m.1 6 g0 0) = 2
      · rw [if_pos c5] at h
        refine ax_gt c5 s6 ?_
        obtain rfl := Option.some.inj h
        exact ax_rq (c := (1 : Int32) = 0 ∨ (1 : Int32) = 1) (j := 3) (by decide) (fun n => rfl)
      · rw [if_neg c5] at h
        refine ax_gf c5 s6 ?_
        obtain rfl := Option.some.inj h
        exact ax_rq (c := (0 : Int32) = 0 ∨ (0 : Int32) = 1) (j := 2) (by decide) (fun n => rfl)
def F_X3_telltales_L17 : Nat → ax_M → Nat → Int32 → Int32 → Option Int32
  | 0, _, _, _, _ => none
  | n + 1, m, g0, v3, v4 => if (m.1 1 g0 4) ≤ v4 then (some v3) else (if ax_ok v4 16 = true then (ax_b (F_X6_isTelltale m (16 * g0 + v4.toNatClampNeg)) (fun r14 => if r14 = 0 then (F_X3_telltales_L17 n m g0 (v3 &&& ((ax_ishl 1 v4) ^^^ (-1))) (v4 + 1)) else (F_X3_telltales_L17 n m g0 v3 (v4 + 1)))) else (none))
set_option maxRecDepth 20000 in
set_option maxHeartbeats 4000000 in
theorem R_X3_telltales_L17 {e : Nat} {m : ax_M} {g0 : Nat} : ∀ (n : Nat) (v3 : Int32) (v4 : Int32) (q : Int32), F_X3_telltales_L17 n m g0 v3 v4 = some q → ax_Ru (e + 5) L_X3_telltales 17 [some (.inr (.inr (1, g0))), none, none, some (.inl v3), some (.inl v4)] [] m (some (.inl q), m) := by
  intro n
  induction n with
  | zero =>
    intro v3 v4 q h
    cases h
  | succ n ih =>
    intro v3 v4 q h
    rw [F_X3_telltales_L17] at h
    have s10 : ∀ n, ax_ex (e + 5) L_X3_telltales 17 [some (.inr (.inr (1, g0))), none, none, some (.inl v3), some (.inl v4)] [] m (n + 4) = if (m.1 1 g0 4) ≤ v4 then ax_ex (e + 5) L_X3_telltales 37 [some (.inr (.inr (1, g0))), none, none, some (.inl v3), some (.inl v4)] [] m n else ax_ex (e + 5) L_X3_telltales 21 [some (.inr (.inr (1, g0))), none, none, some (.inl v3), some (.inl v4)] [] m n := fun n => rfl
    by_cases c9 : (m.1 1 g0 4) ≤ v4
    · rw [if_pos c9] at h
      refine ax_gt c9 s10 ?_
      obtain rfl := Option.some.inj h
      exact ax_rs 2 (fun n => rfl)
    · rw [if_neg c9] at h
      refine ax_gf c9 s10 ?_
      have s12 : ∀ n, ax_ex (e + 5) L_X3_telltales 21 [some (.inr (.inr (1, g0))), none, none, some (.inl v3), some (.inl v4)] [] m (n + 4) = if ax_ok v4 16 = true then ax_ex (e + 5) L_X3_telltales 25 [some (.inr (.inr (1, g0))), none, none, some (.inl v3), some (.inl v4)] [.inr (.inr (6, (16 * g0 + v4.toNatClampNeg)))] m n else none := fun n => rfl
      by_cases c11 : ax_ok v4 16 = true
      · rw [if_pos c11] at h
        refine ax_gt c11 s12 ?_
        obtain ⟨r14, q13, h⟩ := ax_b_of h
        have s17 : ∀ n, ax_ex (e + 5) L_X3_telltales 25 [some (.inr (.inr (1, g0))), none, none, some (.inl v3), some (.inl v4)] [.inr (.inr (6, (16 * g0 + v4.toNatClampNeg)))] m (n + 1) = ax_aft (fun s m2 => ax_ex (e + 5) L_X3_telltales 26 [some (.inr (.inr (1, g0))), none, none, some (.inl v3), some (.inl v4)] s m2 n) [] (ax_ex (e + 4) L_X6_isTelltale 0 (ax_entry [.inr (.inr (6, (16 * g0 + v4.toNatClampNeg)))] 1) [] m n) := fun n => rfl
        refine ax_gci (j := 1) (k2 := 26) (lv2 := [some (.inr (.inr (1, g0))), none, none, some (.inl v3), some (.inl v4)]) (rest := []) ((R_X6_isTelltale (by omega) q13)) s17 ?_
        have s16 : ∀ n, ax_ex (e + 5) L_X3_telltales 26 [some (.inr (.inr (1, g0))), none, none, some (.inl v3), some (.inl v4)] [.inl r14] m (n + 1) = if r14 = 0 then ax_ex (e + 5) L_X3_telltales 27 [some (.inr (.inr (1, g0))), none, none, some (.inl v3), some (.inl v4)] [] m n else ax_ex (e + 5) L_X3_telltales 35 [some (.inr (.inr (1, g0))), none, none, some (.inl v3), some (.inl v4)] [] m n := fun n => rfl
        by_cases c15 : r14 = 0
        · rw [if_pos c15] at h
          refine ax_gt c15 s16 ?_
          refine ax_go (j := 10) (k2 := 17) (lv2 := [some (.inr (.inr (1, g0))), none, none, some (.inl (v3 &&& ((ax_ishl 1 v4) ^^^ (-1)))), some (.inl (v4 + 1))]) (st2 := []) (m2 := m) (fun n => rfl) ?_
          exact ax_fg (lv2 := [some (.inr (.inr (1, g0))), none, none, some (.inl (v3 &&& ((ax_ishl 1 v4) ^^^ (-1)))), some (.inl (v4 + 1))]) ⟨rfl, rfl, rfl, trivial⟩ (ih (v3 &&& ((ax_ishl 1 v4) ^^^ (-1))) (v4 + 1) _ h)
        · rw [if_neg c15] at h
          refine ax_gf c15 s16 ?_
          refine ax_go (j := 2) (k2 := 17) (lv2 := [some (.inr (.inr (1, g0))), none, none, some (.inl v3), some (.inl (v4 + 1))]) (st2 := []) (m2 := m) (fun n => rfl) ?_
          exact ax_fg (lv2 := [some (.inr (.inr (1, g0))), none, none, some (.inl v3), some (.inl (v4 + 1))]) ⟨rfl, rfl, rfl, trivial⟩ (ih v3 (v4 + 1) _ h)
      · rw [if_neg c11] at h
        cases h
def F_X3_telltales (m : ax_M) (g0 : Nat) (v1 : Int32) (v2 : Int32) : Option Int32 := if ax_ok v1 8 = true then (ax_b (F_X3_allSeeds m g0) (fun r4 => ax_b (F_X3_seedsBut m g0 v2) (fun r6 => ax_b (F_X3_near m g0 (m.1 2 g0 v1.toNatClampNeg) (r4 &&& (r6 ^^^ (-1)))) (fun r8 => F_X3_telltales_L17 ax_FU m g0 r8 0)))) else (none)
set_option maxRecDepth 20000 in
set_option maxHeartbeats 4000000 in
theorem R_X3_telltales {d : Nat} (hd : 5 ≤ d) {m : ax_M} {g0 : Nat} {v1 : Int32} {v2 : Int32} {q : Int32} (h : F_X3_telltales m g0 v1 v2 = some q) : ax_Ru d L_X3_telltales 0 (ax_entry [.inr (.inr (1, g0)), .inl v1, .inl v2] 5) [] m (some (.inl q), m) := by
  obtain ⟨e, rfl⟩ : ∃ e, d = e + 5 := ⟨d - 5, by omega⟩
  unfold F_X3_telltales at h
  have s2 : ∀ n, ax_ex (e + 5) L_X3_telltales 0 (ax_entry [.inr (.inr (1, g0)), .inl v1, .inl v2] 5) [] m (n + 5) = if ax_ok v1 8 = true then ax_ex (e + 5) L_X3_telltales 5 [some (.inr (.inr (1, g0))), some (.inl v1), some (.inl v2), none, none] [.inl (m.1 2 g0 v1.toNatClampNeg), .inr (.inr (1, g0))] m n else none := fun n => rfl
  by_cases c1 : ax_ok v1 8 = true
  · rw [if_pos c1] at h
    refine ax_gt c1 s2 ?_
    obtain ⟨r4, q3, h⟩ := ax_b_of h
    have s21 : ∀ n, ax_ex (e + 5) L_X3_telltales 5 [some (.inr (.inr (1, g0))), some (.inl v1), some (.inl v2), none, none] [.inl (m.1 2 g0 v1.toNatClampNeg), .inr (.inr (1, g0))] m (n + 2) = ax_aft (fun s m2 => ax_ex (e + 5) L_X3_telltales 7 [some (.inr (.inr (1, g0))), some (.inl v1), some (.inl v2), none, none] s m2 n) [.inl (m.1 2 g0 v1.toNatClampNeg), .inr (.inr (1, g0))] (ax_ex (e + 4) L_X3_allSeeds 0 (ax_entry [.inr (.inr (1, g0))] 1) [] m n) := fun n => rfl
    refine ax_gci (j := 2) (k2 := 7) (lv2 := [some (.inr (.inr (1, g0))), some (.inl v1), some (.inl v2), none, none]) (rest := [.inl (m.1 2 g0 v1.toNatClampNeg), .inr (.inr (1, g0))]) ((R_X3_allSeeds (by omega) q3)) s21 ?_
    obtain ⟨r6, q5, h⟩ := ax_b_of h
    have s20 : ∀ n, ax_ex (e + 5) L_X3_telltales 7 [some (.inr (.inr (1, g0))), some (.inl v1), some (.inl v2), none, none] [.inl r4, .inl (m.1 2 g0 v1.toNatClampNeg), .inr (.inr (1, g0))] m (n + 3) = ax_aft (fun s m2 => ax_ex (e + 5) L_X3_telltales 10 [some (.inr (.inr (1, g0))), some (.inl v1), some (.inl v2), none, none] s m2 n) [.inl r4, .inl (m.1 2 g0 v1.toNatClampNeg), .inr (.inr (1, g0))] (ax_ex (e + 4) L_X3_seedsBut 0 (ax_entry [.inr (.inr (1, g0)), .inl v2] 4) [] m n) := fun n => rfl
    refine ax_gci (j := 3) (k2 := 10) (lv2 := [some (.inr (.inr (1, g0))), some (.inl v1), some (.inl v2), none, none]) (rest := [.inl r4, .inl (m.1 2 g0 v1.toNatClampNeg), .inr (.inr (1, g0))]) ((R_X3_seedsBut (by omega) q5)) s20 ?_
    obtain ⟨r8, q7, h⟩ := ax_b_of h
    have s19 : ∀ n, ax_ex (e + 5) L_X3_telltales 10 [some (.inr (.inr (1, g0))), some (.inl v1), some (.inl v2), none, none] [.inl r6, .inl r4, .inl (m.1 2 g0 v1.toNatClampNeg), .inr (.inr (1, g0))] m (n + 4) = ax_aft (fun s m2 => ax_ex (e + 5) L_X3_telltales 14 [some (.inr (.inr (1, g0))), some (.inl v1), some (.inl v2), none, none] s m2 n) [] (ax_ex (e + 4) L_X3_near 0 (ax_entry [.inr (.inr (1, g0)), .inl (m.1 2 g0 v1.toNatClampNeg), .inl (r4 &&& (r6 ^^^ (-1)))] 5) [] m n) := fun n => rfl
    refine ax_gci (j := 4) (k2 := 14) (lv2 := [some (.inr (.inr (1, g0))), some (.inl v1), some (.inl v2), none, none]) (rest := []) ((R_X3_near (by omega) q7)) s19 ?_
    refine ax_go (j := 3) (k2 := 17) (lv2 := [some (.inr (.inr (1, g0))), some (.inl v1), some (.inl v2), some (.inl r8), some (.inl 0)]) (st2 := []) (m2 := m) (fun n => rfl) ?_
    refine ax_fg (lv2 := [some (.inr (.inr (1, g0))), none, none, some (.inl r8), some (.inl 0)]) ⟨rfl, rfl, rfl, trivial⟩ ?_
    refine R_X3_telltales_L17 _ r8 0 _ h
  · rw [if_neg c1] at h
    cases h
def F_X3_mayOwe (m : ax_M) (g0 : Nat) (v1 : Int32) (v2 : Int32) : Option Int32 := ax_b (F_X3_telltales m g0 v1 v2) (fun r2 => ax_b (F_X3_shown m g0) (fun r4 => if (r2 &&& (r4 ^^^ (-1))) = 0 then (some 1) else (some 0)))
set_option maxRecDepth 20000 in
set_option maxHeartbeats 4000000 in
theorem R_X3_mayOwe {d : Nat} (hd : 10 ≤ d) {m : ax_M} {g0 : Nat} {v1 : Int32} {v2 : Int32} {q : Int32} (h : F_X3_mayOwe m g0 v1 v2 = some q) : ax_Ru d L_X3_mayOwe 0 (ax_entry [.inr (.inr (1, g0)), .inl v1, .inl v2] 3) [] m (some (.inl q), m) := by
  obtain ⟨e, rfl⟩ : ∃ e, d = e + 10 := ⟨d - 10, by omega⟩
  unfold F_X3_mayOwe at h
  obtain ⟨r2, q1, h⟩ := ax_b_of h
  have s9 : ∀ n, ax_ex (e + 10) L_X3_mayOwe 0 (ax_entry [.inr (.inr (1, g0)), .inl v1, .inl v2] 3) [] m (n + 4) = ax_aft (fun s m2 => ax_ex (e + 10) L_X3_mayOwe 4 [some (.inr (.inr (1, g0))), some (.inl v1), some (.inl v2)] s m2 n) [] (ax_ex (e + 9) L_X3_telltales 0 (ax_entry [.inr (.inr (1, g0)), .inl v1, .inl v2] 5) [] m n) := fun n => rfl
  refine ax_gci (j := 4) (k2 := 4) (lv2 := [some (.inr (.inr (1, g0))), some (.inl v1), some (.inl v2)]) (rest := []) ((R_X3_telltales (by omega) q1)) s9 ?_
  obtain ⟨r4, q3, h⟩ := ax_b_of h
  have s8 : ∀ n, ax_ex (e + 10) L_X3_mayOwe 4 [some (.inr (.inr (1, g0))), some (.inl v1), some (.inl v2)] [.inl r2] m (n + 2) = ax_aft (fun s m2 => ax_ex (e + 10) L_X3_mayOwe 6 [some (.inr (.inr (1, g0))), some (.inl v1), some (.inl v2)] s m2 n) [.inl r2] (ax_ex (e + 9) L_X3_shown 0 (ax_entry [.inr (.inr (1, g0))] 3) [] m n) := fun n => rfl
  refine ax_gci (j := 2) (k2 := 6) (lv2 := [some (.inr (.inr (1, g0))), some (.inl v1), some (.inl v2)]) (rest := [.inl r2]) ((R_X3_shown (by omega) q3)) s8 ?_
  refine ax_go (j := 3) (k2 := 9) (lv2 := [some (.inr (.inr (1, g0))), some (.inl v1), some (.inl v2)]) (st2 := [.inl (r2 &&& (r4 ^^^ (-1)))]) (m2 := m) (fun n => rfl) ?_
  obtain ⟨y5, hy5⟩ : ∃ y : Int32, y = (r2 &&& (r4 ^^^ (-1))) := ⟨_, rfl⟩
  rw [← hy5] at h ⊢
  have s7 : ∀ n, ax_ex (e + 10) L_X3_mayOwe 9 [some (.inr (.inr (1, g0))), some (.inl v1), some (.inl v2)] [.inl y5] m (n + 1) = if y5 = 0 then ax_ex (e + 10) L_X3_mayOwe 10 [some (.inr (.inr (1, g0))), some (.inl v1), some (.inl v2)] [] m n else ax_ex (e + 10) L_X3_mayOwe 12 [some (.inr (.inr (1, g0))), some (.inl v1), some (.inl v2)] [] m n := fun n => rfl
  by_cases c6 : y5 = 0
  · rw [if_pos c6] at h
    refine ax_gt c6 s7 ?_
    obtain rfl := Option.some.inj h
    exact ax_rq (c := (1 : Int32) = 0 ∨ (1 : Int32) = 1) (j := 3) (by decide) (fun n => rfl)
  · rw [if_neg c6] at h
    refine ax_gf c6 s7 ?_
    obtain rfl := Option.some.inj h
    exact ax_rq (c := (0 : Int32) = 0 ∨ (0 : Int32) = 1) (j := 2) (by decide) (fun n => rfl)
def F_X3_surelyOwes_L18 : Nat → ax_M → Nat → Int32 → Int32 → Int32 → Option Int32
  | 0, _, _, _, _, _ => none
  | n + 1, m, g0, v3, v4, v5 => if (m.1 1 g0 4) ≤ v5 then (some 0) else (if ((ax_iushr v3 v5) &&& 1) = 0 then (F_X3_surelyOwes_L18 n m g0 v3 v4 (v5 + 1)) else (if ax_ok v5 16 = true then (ax_b (F_X6_zone m (16 * g0 + v5.toNatClampNeg)) (fun r13 => ax_b (F_X3_peopleWithin m g0 r13) (fun r15 => if (r15 &&& (v4 ^^^ (-1))) = 0 then (some 1) else (F_X3_surelyOwes_L18 n m g0 v3 v4 (v5 + 1))))) else (none)))
set_option maxRecDepth 20000 in
set_option maxHeartbeats 4000000 in
theorem R_X3_surelyOwes_L18 {e : Nat} {m : ax_M} {g0 : Nat} {v3 : Int32} {v4 : Int32} : ∀ (n : Nat) (v5 : Int32) (q : Int32), F_X3_surelyOwes_L18 n m g0 v3 v4 v5 = some q → ax_Ru (e + 10) L_X3_surelyOwes 18 [some (.inr (.inr (1, g0))), none, none, some (.inl v3), some (.inl v4), some (.inl v5)] [] m (some (.inl q), m) := by
  intro n
  induction n with
  | zero =>
    intro v5 q h
    cases h
  | succ n ih =>
    intro v5 q h
    rw [F_X3_surelyOwes_L18] at h
    have s6 : ∀ n, ax_ex (e + 10) L_X3_surelyOwes 18 [some (.inr (.inr (1, g0))), none, none, some (.inl v3), some (.inl v4), some (.inl v5)] [] m (n + 4) = if (m.1 1 g0 4) ≤ v5 then ax_ex (e + 10) L_X3_surelyOwes 44 [some (.inr (.inr (1, g0))), none, none, some (.inl v3), some (.inl v4), some (.inl v5)] [] m n else ax_ex (e + 10) L_X3_surelyOwes 22 [some (.inr (.inr (1, g0))), none, none, some (.inl v3), some (.inl v4), some (.inl v5)] [] m n := fun n => rfl
    by_cases c5 : (m.1 1 g0 4) ≤ v5
    · rw [if_pos c5] at h
      refine ax_gt c5 s6 ?_
      obtain rfl := Option.some.inj h
      exact ax_rq (c := (0 : Int32) = 0 ∨ (0 : Int32) = 1) (j := 2) (by decide) (fun n => rfl)
    · rw [if_neg c5] at h
      refine ax_gf c5 s6 ?_
      refine ax_go (j := 5) (k2 := 27) (lv2 := [some (.inr (.inr (1, g0))), none, none, some (.inl v3), some (.inl v4), some (.inl v5)]) (st2 := [.inl ((ax_iushr v3 v5) &&& 1)]) (m2 := m) (fun n => rfl) ?_
      obtain ⟨y7, hy7⟩ : ∃ y : Int32, y = ((ax_iushr v3 v5) &&& 1) := ⟨_, rfl⟩
      rw [← hy7] at h ⊢
      have s9 : ∀ n, ax_ex (e + 10) L_X3_surelyOwes 27 [some (.inr (.inr (1, g0))), none, none, some (.inl v3), some (.inl v4), some (.inl v5)] [.inl y7] m (n + 1) = if y7 = 0 then ax_ex (e + 10) L_X3_surelyOwes 42 [some (.inr (.inr (1, g0))), none, none, some (.inl v3), some (.inl v4), some (.inl v5)] [] m n else ax_ex (e + 10) L_X3_surelyOwes 28 [some (.inr (.inr (1, g0))), none, none, some (.inl v3), some (.inl v4), some (.inl v5)] [] m n := fun n => rfl
      by_cases c8 : y7 = 0
      · rw [if_pos c8] at h
        refine ax_gt c8 s9 ?_
        refine ax_go (j := 2) (k2 := 18) (lv2 := [some (.inr (.inr (1, g0))), none, none, some (.inl v3), some (.inl v4), some (.inl (v5 + 1))]) (st2 := []) (m2 := m) (fun n => rfl) ?_
        exact ax_fg (lv2 := [some (.inr (.inr (1, g0))), none, none, some (.inl v3), some (.inl v4), some (.inl (v5 + 1))]) ⟨rfl, rfl, rfl, rfl, trivial⟩ (ih (v5 + 1) _ h)
      · rw [if_neg c8] at h
        refine ax_gf c8 s9 ?_
        have s11 : ∀ n, ax_ex (e + 10) L_X3_surelyOwes 28 [some (.inr (.inr (1, g0))), none, none, some (.inl v3), some (.inl v4), some (.inl v5)] [] m (n + 5) = if ax_ok v5 16 = true then ax_ex (e + 10) L_X3_surelyOwes 33 [some (.inr (.inr (1, g0))), none, none, some (.inl v3), some (.inl v4), some (.inl v5)] [.inr (.inr (6, (16 * g0 + v5.toNatClampNeg))), .inr (.inr (1, g0))] m n else none := fun n => rfl
        by_cases c10 : ax_ok v5 16 = true
        · rw [if_pos c10] at h
          refine ax_gt c10 s11 ?_
          obtain ⟨r13, q12, h⟩ := ax_b_of h
          have s20 : ∀ n, ax_ex (e + 10) L_X3_surelyOwes 33 [some (.inr (.inr (1, g0))), none, none, some (.inl v3), some (.inl v4), some (.inl v5)] [.inr (.inr (6, (16 * g0 + v5.toNatClampNeg))), .inr (.inr (1, g0))] m (n + 1) = ax_aft (fun s m2 => ax_ex (e + 10) L_X3_surelyOwes 34 [some (.inr (.inr (1, g0))), none, none, some (.inl v3), some (.inl v4), some (.inl v5)] s m2 n) [.inr (.inr (1, g0))] (ax_ex (e + 9) L_X6_zone 0 (ax_entry [.inr (.inr (6, (16 * g0 + v5.toNatClampNeg)))] 1) [] m n) := fun n => rfl
          refine ax_gcl (j := 1) (k2 := 34) (lv2 := [some (.inr (.inr (1, g0))), none, none, some (.inl v3), some (.inl v4), some (.inl v5)]) (rest := [.inr (.inr (1, g0))]) ((R_X6_zone (by omega) q12)) s20 ?_
          obtain ⟨r15, q14, h⟩ := ax_b_of h
          have s19 : ∀ n, ax_ex (e + 10) L_X3_surelyOwes 34 [some (.inr (.inr (1, g0))), none, none, some (.inl v3), some (.inl v4), some (.inl v5)] [.inr (.inl r13), .inr (.inr (1, g0))] m (n + 1) = ax_aft (fun s m2 => ax_ex (e + 10) L_X3_surelyOwes 35 [some (.inr (.inr (1, g0))), none, none, some (.inl v3), some (.inl v4), some (.inl v5)] s m2 n) [] (ax_ex (e + 9) L_X3_peopleWithin 0 (ax_entry [.inr (.inr (1, g0)), .inr (.inl r13)] 5) [] m n) := fun n => rfl
          refine ax_gci (j := 1) (k2 := 35) (lv2 := [some (.inr (.inr (1, g0))), none, none, some (.inl v3), some (.inl v4), some (.inl v5)]) (rest := []) ((R_X3_peopleWithin (by omega) q14)) s19 ?_
          refine ax_go (j := 4) (k2 := 39) (lv2 := [some (.inr (.inr (1, g0))), none, none, some (.inl v3), some (.inl v4), some (.inl v5)]) (st2 := [.inl (r15 &&& (v4 ^^^ (-1)))]) (m2 := m) (fun n => rfl) ?_
          obtain ⟨y16, hy16⟩ : ∃ y : Int32, y = (r15 &&& (v4 ^^^ (-1))) := ⟨_, rfl⟩
          rw [← hy16] at h ⊢
          have s18 : ∀ n, ax_ex (e + 10) L_X3_surelyOwes 39 [some (.inr (.inr (1, g0))), none, none, some (.inl v3), some (.inl v4), some (.inl v5)] [.inl y16] m (n + 1) = if y16 = 0 then ax_ex (e + 10) L_X3_surelyOwes 40 [some (.inr (.inr (1, g0))), none, none, some (.inl v3), some (.inl v4), some (.inl v5)] [] m n else ax_ex (e + 10) L_X3_surelyOwes 42 [some (.inr (.inr (1, g0))), none, none, some (.inl v3), some (.inl v4), some (.inl v5)] [] m n := fun n => rfl
          by_cases c17 : y16 = 0
          · rw [if_pos c17] at h
            refine ax_gt c17 s18 ?_
            obtain rfl := Option.some.inj h
            exact ax_rq (c := (1 : Int32) = 0 ∨ (1 : Int32) = 1) (j := 2) (by decide) (fun n => rfl)
          · rw [if_neg c17] at h
            refine ax_gf c17 s18 ?_
            refine ax_go (j := 2) (k2 := 18) (lv2 := [some (.inr (.inr (1, g0))), none, none, some (.inl v3), some (.inl v4), some (.inl (v5 + 1))]) (st2 := []) (m2 := m) (fun n => rfl) ?_
            exact ax_fg (lv2 := [some (.inr (.inr (1, g0))), none, none, some (.inl v3), some (.inl v4), some (.inl (v5 + 1))]) ⟨rfl, rfl, rfl, rfl, trivial⟩ (ih (v5 + 1) _ h)
        · rw [if_neg c10] at h
          cases h
def F_X3_surelyOwes (m : ax_M) (g0 : Nat) (v1 : Int32) (v2 : Int32) : Option Int32 := ax_b (F_X3_telltales m g0 v1 v2) (fun r2 => ax_b (F_X3_shown m g0) (fun r4 => F_X3_surelyOwes_L18 ax_FU m g0 (r2 &&& r4) ((ax_ishl 1 v1) ||| (ax_ishl 1 v2)) 0))
set_option maxRecDepth 20000 in
set_option maxHeartbeats 4000000 in
theorem R_X3_surelyOwes {d : Nat} (hd : 10 ≤ d) {m : ax_M} {g0 : Nat} {v1 : Int32} {v2 : Int32} {q : Int32} (h : F_X3_surelyOwes m g0 v1 v2 = some q) : ax_Ru d L_X3_surelyOwes 0 (ax_entry [.inr (.inr (1, g0)), .inl v1, .inl v2] 6) [] m (some (.inl q), m) := by
  obtain ⟨e, rfl⟩ : ∃ e, d = e + 10 := ⟨d - 10, by omega⟩
  unfold F_X3_surelyOwes at h
  obtain ⟨r2, q1, h⟩ := ax_b_of h
  have s23 : ∀ n, ax_ex (e + 10) L_X3_surelyOwes 0 (ax_entry [.inr (.inr (1, g0)), .inl v1, .inl v2] 6) [] m (n + 4) = ax_aft (fun s m2 => ax_ex (e + 10) L_X3_surelyOwes 4 [some (.inr (.inr (1, g0))), some (.inl v1), some (.inl v2), none, none, none] s m2 n) [] (ax_ex (e + 9) L_X3_telltales 0 (ax_entry [.inr (.inr (1, g0)), .inl v1, .inl v2] 5) [] m n) := fun n => rfl
  refine ax_gci (j := 4) (k2 := 4) (lv2 := [some (.inr (.inr (1, g0))), some (.inl v1), some (.inl v2), none, none, none]) (rest := []) ((R_X3_telltales (by omega) q1)) s23 ?_
  obtain ⟨r4, q3, h⟩ := ax_b_of h
  have s22 : ∀ n, ax_ex (e + 10) L_X3_surelyOwes 4 [some (.inr (.inr (1, g0))), some (.inl v1), some (.inl v2), none, none, none] [.inl r2] m (n + 2) = ax_aft (fun s m2 => ax_ex (e + 10) L_X3_surelyOwes 6 [some (.inr (.inr (1, g0))), some (.inl v1), some (.inl v2), none, none, none] s m2 n) [.inl r2] (ax_ex (e + 9) L_X3_shown 0 (ax_entry [.inr (.inr (1, g0))] 3) [] m n) := fun n => rfl
  refine ax_gci (j := 2) (k2 := 6) (lv2 := [some (.inr (.inr (1, g0))), some (.inl v1), some (.inl v2), none, none, none]) (rest := [.inl r2]) ((R_X3_shown (by omega) q3)) s22 ?_
  refine ax_go (j := 12) (k2 := 18) (lv2 := [some (.inr (.inr (1, g0))), some (.inl v1), some (.inl v2), some (.inl (r2 &&& r4)), some (.inl ((ax_ishl 1 v1) ||| (ax_ishl 1 v2))), some (.inl 0)]) (st2 := []) (m2 := m) (fun n => rfl) ?_
  refine ax_fg (lv2 := [some (.inr (.inr (1, g0))), none, none, some (.inl (r2 &&& r4)), some (.inl ((ax_ishl 1 v1) ||| (ax_ishl 1 v2))), some (.inl 0)]) ⟨rfl, rfl, rfl, rfl, trivial⟩ ?_
  refine R_X3_surelyOwes_L18 _ 0 _ h
def F_X3_go (m : ax_M) (g0 : Nat) (v1 : Int32) (v2 : Int32) : Option (Int32 × ax_M) := if ax_ok v1 8 = true then (ax_b (F_X0_after (m.1 2 g0 v1.toNatClampNeg) v2) (fun r4 => if r4 = (-1) then (some (0, m)) else (ax_b (F_X3_hasWall m g0 r4) (fun r8 => if r8 = 0 then (if ax_ok v1 8 = true then (some (1, (ax_ui m 2 g0 v1.toNatClampNeg r4))) else (none)) else (some (0, m)))))) else (none)
set_option maxRecDepth 20000 in
set_option maxHeartbeats 4000000 in
theorem R_X3_go {d : Nat} (hd : 4 ≤ d) {m : ax_M} {g0 : Nat} {v1 : Int32} {v2 : Int32} {q : (Int32 × ax_M)} (h : F_X3_go m g0 v1 v2 = some q) : ax_Ru d L_X3_go 0 (ax_entry [.inr (.inr (1, g0)), .inl v1, .inl v2] 4) [] m (some (.inl q.1), q.2) := by
  obtain ⟨e, rfl⟩ : ∃ e, d = e + 4 := ⟨d - 4, by omega⟩
  unfold F_X3_go at h
  have s2 : ∀ n, ax_ex (e + 4) L_X3_go 0 (ax_entry [.inr (.inr (1, g0)), .inl v1, .inl v2] 4) [] m (n + 4) = if ax_ok v1 8 = true then ax_ex (e + 4) L_X3_go 4 [some (.inr (.inr (1, g0))), some (.inl v1), some (.inl v2), none] [.inl (m.1 2 g0 v1.toNatClampNeg)] m n else none := fun n => rfl
  by_cases c1 : ax_ok v1 8 = true
  · rw [if_pos c1] at h
    refine ax_gt c1 s2 ?_
    obtain ⟨r4, q3, h⟩ := ax_b_of h
    have s14 : ∀ n, ax_ex (e + 4) L_X3_go 4 [some (.inr (.inr (1, g0))), some (.inl v1), some (.inl v2), none] [.inl (m.1 2 g0 v1.toNatClampNeg)] m (n + 2) = ax_aft (fun s m2 => ax_ex (e + 4) L_X3_go 6 [some (.inr (.inr (1, g0))), some (.inl v1), some (.inl v2), none] s m2 n) [] (ax_ex (e + 3) L_X0_after 0 (ax_entry [.inl (m.1 2 g0 v1.toNatClampNeg), .inl v2] 6) [] m n) := fun n => rfl
    refine ax_gci (j := 2) (k2 := 6) (lv2 := [some (.inr (.inr (1, g0))), some (.inl v1), some (.inl v2), none]) (rest := []) ((R_X0_after (by omega) q3)) s14 ?_
    have s6 : ∀ n, ax_ex (e + 4) L_X3_go 6 [some (.inr (.inr (1, g0))), some (.inl v1), some (.inl v2), none] [.inl r4] m (n + 4) = if r4 = (-1) then ax_ex (e + 4) L_X3_go 14 [some (.inr (.inr (1, g0))), some (.inl v1), some (.inl v2), some (.inl r4)] [] m n else ax_ex (e + 4) L_X3_go 10 [some (.inr (.inr (1, g0))), some (.inl v1), some (.inl v2), some (.inl r4)] [] m n := fun n => rfl
    by_cases c5 : r4 = (-1)
    · rw [if_pos c5] at h
      refine ax_gt c5 s6 ?_
      obtain rfl := Option.some.inj h
      exact ax_rq (c := (0 : Int32) = 0 ∨ (0 : Int32) = 1) (j := 2) (by decide) (fun n => rfl)
    · rw [if_neg c5] at h
      refine ax_gf c5 s6 ?_
      obtain ⟨r8, q7, h⟩ := ax_b_of h
      have s13 : ∀ n, ax_ex (e + 4) L_X3_go 10 [some (.inr (.inr (1, g0))), some (.inl v1), some (.inl v2), some (.inl r4)] [] m (n + 3) = ax_aft (fun s m2 => ax_ex (e + 4) L_X3_go 13 [some (.inr (.inr (1, g0))), some (.inl v1), some (.inl v2), some (.inl r4)] s m2 n) [] (ax_ex (e + 3) L_X3_hasWall 0 (ax_entry [.inr (.inr (1, g0)), .inl r4] 2) [] m n) := fun n => rfl
      refine ax_gci (j := 3) (k2 := 13) (lv2 := [some (.inr (.inr (1, g0))), some (.inl v1), some (.inl v2), some (.inl r4)]) (rest := []) ((R_X3_hasWall (by omega) q7)) s13 ?_
      have s10 : ∀ n, ax_ex (e + 4) L_X3_go 13 [some (.inr (.inr (1, g0))), some (.inl v1), some (.inl v2), some (.inl r4)] [.inl r8] m (n + 1) = if r8 = 0 then ax_ex (e + 4) L_X3_go 16 [some (.inr (.inr (1, g0))), some (.inl v1), some (.inl v2), some (.inl r4)] [] m n else ax_ex (e + 4) L_X3_go 14 [some (.inr (.inr (1, g0))), some (.inl v1), some (.inl v2), some (.inl r4)] [] m n := fun n => rfl
      by_cases c9 : r8 = 0
      · rw [if_pos c9] at h
        refine ax_gt c9 s10 ?_
        have s12 : ∀ n, ax_ex (e + 4) L_X3_go 16 [some (.inr (.inr (1, g0))), some (.inl v1), some (.inl v2), some (.inl r4)] [] m (n + 5) = if ax_ok v1 8 = true then ax_ex (e + 4) L_X3_go 21 [some (.inr (.inr (1, g0))), some (.inl v1), some (.inl v2), some (.inl r4)] [] (ax_ui m 2 g0 v1.toNatClampNeg r4) n else none := fun n => rfl
        by_cases c11 : ax_ok v1 8 = true
        · rw [if_pos c11] at h
          refine ax_gt c11 s12 ?_
          obtain rfl := Option.some.inj h
          exact ax_rq (c := (1 : Int32) = 0 ∨ (1 : Int32) = 1) (j := 2) (by decide) (fun n => rfl)
        · rw [if_neg c11] at h
          cases h
      · rw [if_neg c9] at h
        refine ax_gf c9 s10 ?_
        obtain rfl := Option.some.inj h
        exact ax_rq (c := (0 : Int32) = 0 ∨ (0 : Int32) = 1) (j := 2) (by decide) (fun n => rfl)
  · rw [if_neg c1] at h
    cases h
def F_X3_draw (m : ax_M) (g0 : Nat) (v1 : Int32) : Option (Int32 × ax_M) := if v1 ≤ 0 then (some (0, (ax_ui m 1 g0 6 (((m.1 1 g0 6) * 1103515245) + 12345)))) else (if v1 = 0 then (none) else (some ((ax_irem (ax_iushr ((ax_ui m 1 g0 6 (((m.1 1 g0 6) * 1103515245) + 12345)).1 1 g0 6) 16) v1), (ax_ui m 1 g0 6 (((m.1 1 g0 6) * 1103515245) + 12345)))))
set_option maxRecDepth 20000 in
set_option maxHeartbeats 4000000 in
theorem R_X3_draw {d : Nat} (hd : 1 ≤ d) {m : ax_M} {g0 : Nat} {v1 : Int32} {q : (Int32 × ax_M)} (h : F_X3_draw m g0 v1 = some q) : ax_Ru d L_X3_draw 0 (ax_entry [.inr (.inr (1, g0)), .inl v1] 2) [] m (some (.inl q.1), q.2) := by
  obtain ⟨e, rfl⟩ : ∃ e, d = e + 1 := ⟨d - 1, by omega⟩
  unfold F_X3_draw at h
  have s2 : ∀ n, ax_ex (e + 1) L_X3_draw 0 (ax_entry [.inr (.inr (1, g0)), .inl v1] 2) [] m (n + 10) = if v1 ≤ 0 then ax_ex (e + 1) L_X3_draw 17 [some (.inr (.inr (1, g0))), some (.inl v1)] [] (ax_ui m 1 g0 6 (((m.1 1 g0 6) * 1103515245) + 12345)) n else ax_ex (e + 1) L_X3_draw 10 [some (.inr (.inr (1, g0))), some (.inl v1)] [] (ax_ui m 1 g0 6 (((m.1 1 g0 6) * 1103515245) + 12345)) n := fun n => rfl
  by_cases c1 : v1 ≤ 0
  · rw [if_pos c1] at h
    refine ax_gt c1 s2 ?_
    obtain rfl := Option.some.inj h
    exact ax_rs 2 (fun n => rfl)
  · rw [if_neg c1] at h
    refine ax_gf c1 s2 ?_
    have s4 : ∀ n, ax_ex (e + 1) L_X3_draw 10 [some (.inr (.inr (1, g0))), some (.inl v1)] [] (ax_ui m 1 g0 6 (((m.1 1 g0 6) * 1103515245) + 12345)) (n + 6) = if v1 = 0 then none else ax_ex (e + 1) L_X3_draw 16 [some (.inr (.inr (1, g0))), some (.inl v1)] [.inl (ax_irem (ax_iushr ((ax_ui m 1 g0 6 (((m.1 1 g0 6) * 1103515245) + 12345)).1 1 g0 6) 16) v1)] (ax_ui m 1 g0 6 (((m.1 1 g0 6) * 1103515245) + 12345)) n := fun n => rfl
    by_cases c3 : v1 = 0
    · rw [if_pos c3] at h
      cases h
    · rw [if_neg c3] at h
      refine ax_gf c3 s4 ?_
      obtain rfl := Option.some.inj h
      exact ax_rs 2 (fun n => rfl)
def F_X8_at (m : ax_M) (v1 : Int32) : Option Int32 := if v1 < 0 then (some (-1)) else (if (m.1 10 0 1) ≤ v1 then (some (-1)) else (if ax_ok v1 250 = true then (some (m.1 11 0 v1.toNatClampNeg)) else (none)))
set_option maxRecDepth 20000 in
set_option maxHeartbeats 4000000 in
theorem R_X8_at {d : Nat} (hd : 1 ≤ d) {m : ax_M} {v1 : Int32} {q : Int32} (h : F_X8_at m v1 = some q) : ax_Ru d L_X8_at 0 (ax_entry [.inr (.inr (10, 0)), .inl v1] 2) [] m (some (.inl q), m) := by
  obtain ⟨e, rfl⟩ : ∃ e, d = e + 1 := ⟨d - 1, by omega⟩
  unfold F_X8_at at h
  have s2 : ∀ n, ax_ex (e + 1) L_X8_at 0 (ax_entry [.inr (.inr (10, 0)), .inl v1] 2) [] m (n + 2) = if v1 < 0 then ax_ex (e + 1) L_X8_at 11 [some (.inr (.inr (10, 0))), some (.inl v1)] [] m n else ax_ex (e + 1) L_X8_at 2 [some (.inr (.inr (10, 0))), some (.inl v1)] [] m n := fun n => rfl
  by_cases c1 : v1 < 0
  · rw [if_pos c1] at h
    refine ax_gt c1 s2 ?_
    obtain rfl := Option.some.inj h
    exact ax_rs 2 (fun n => rfl)
  · rw [if_neg c1] at h
    refine ax_gf c1 s2 ?_
    have s4 : ∀ n, ax_ex (e + 1) L_X8_at 2 [some (.inr (.inr (10, 0))), some (.inl v1)] [] m (n + 4) = if (m.1 10 0 1) ≤ v1 then ax_ex (e + 1) L_X8_at 11 [some (.inr (.inr (10, 0))), some (.inl v1)] [] m n else ax_ex (e + 1) L_X8_at 6 [some (.inr (.inr (10, 0))), some (.inl v1)] [] m n := fun n => rfl
    by_cases c3 : (m.1 10 0 1) ≤ v1
    · rw [if_pos c3] at h
      refine ax_gt c3 s4 ?_
      obtain rfl := Option.some.inj h
      exact ax_rs 2 (fun n => rfl)
    · rw [if_neg c3] at h
      refine ax_gf c3 s4 ?_
      have s6 : ∀ n, ax_ex (e + 1) L_X8_at 6 [some (.inr (.inr (10, 0))), some (.inl v1)] [] m (n + 4) = if ax_ok v1 250 = true then ax_ex (e + 1) L_X8_at 10 [some (.inr (.inr (10, 0))), some (.inl v1)] [.inl (m.1 11 0 v1.toNatClampNeg)] m n else none := fun n => rfl
      by_cases c5 : ax_ok v1 250 = true
      · rw [if_pos c5] at h
        refine ax_gt c5 s6 ?_
        obtain rfl := Option.some.inj h
        exact ax_rs 2 (fun n => rfl)
      · rw [if_neg c5] at h
        cases h
def F_X4_tokenOf (v0 : Int32) : Option Int32 := if v0 = (-1) then (some 0) else (if v0 < 97 then (if v0 < 48 then (if v0 = 59 then (some 3) else (some 4)) else (if 57 < v0 then (if v0 = 59 then (some 3) else (some 4)) else (some 2))) else (if 122 < v0 then (if v0 < 48 then (if v0 = 59 then (some 3) else (some 4)) else (if 57 < v0 then (if v0 = 59 then (some 3) else (some 4)) else (some 2))) else (some 1)))
set_option maxRecDepth 20000 in
set_option maxHeartbeats 4000000 in
theorem R_X4_tokenOf {d : Nat} (hd : 1 ≤ d) {m : ax_M} {v0 : Int32} {q : Int32} (h : F_X4_tokenOf v0 = some q) : ax_Ru d L_X4_tokenOf 0 (ax_entry [.inl v0] 1) [] m (some (.inl q), m) := by
  obtain ⟨e, rfl⟩ : ∃ e, d = e + 1 := ⟨d - 1, by omega⟩
  unfold F_X4_tokenOf at h
  have s2 : ∀ n, ax_ex (e + 1) L_X4_tokenOf 0 (ax_entry [.inl v0] 1) [] m (n + 3) = if v0 = (-1) then ax_ex (e + 1) L_X4_tokenOf 3 [some (.inl v0)] [] m n else ax_ex (e + 1) L_X4_tokenOf 5 [some (.inl v0)] [] m n := fun n => rfl
  by_cases c1 : v0 = (-1)
  · rw [if_pos c1] at h
    refine ax_gt c1 s2 ?_
    obtain rfl := Option.some.inj h
    exact ax_rs 2 (fun n => rfl)
  · rw [if_neg c1] at h
    refine ax_gf c1 s2 ?_
    have s4 : ∀ n, ax_ex (e + 1) L_X4_tokenOf 5 [some (.inl v0)] [] m (n + 3) = if v0 < 97 then ax_ex (e + 1) L_X4_tokenOf 13 [some (.inl v0)] [] m n else ax_ex (e + 1) L_X4_tokenOf 8 [some (.inl v0)] [] m n := fun n => rfl
    by_cases c3 : v0 < 97
    · rw [if_pos c3] at h
      refine ax_gt c3 s4 ?_
      have s6 : ∀ n, ax_ex (e + 1) L_X4_tokenOf 13 [some (.inl v0)] [] m (n + 3) = if v0 < 48 then ax_ex (e + 1) L_X4_tokenOf 21 [some (.inl v0)] [] m n else ax_ex (e + 1) L_X4_tokenOf 16 [some (.inl v0)] [] m n := fun n => rfl
      by_cases c5 : v0 < 48
      · rw [if_pos c5] at h
        refine ax_gt c5 s6 ?_
        have s8 : ∀ n, ax_ex (e + 1) L_X4_tokenOf 21 [some (.inl v0)] [] m (n + 3) = if v0 = 59 then ax_ex (e + 1) L_X4_tokenOf 24 [some (.inl v0)] [] m n else ax_ex (e + 1) L_X4_tokenOf 26 [some (.inl v0)] [] m n := fun n => rfl
        by_cases c7 : v0 = 59
        · rw [if_pos c7] at h
          refine ax_gt c7 s8 ?_
          obtain rfl := Option.some.inj h
          exact ax_rs 3 (fun n => rfl)
        · rw [if_neg c7] at h
          refine ax_gf c7 s8 ?_
          obtain rfl := Option.some.inj h
          exact ax_rs 2 (fun n => rfl)
      · rw [if_neg c5] at h
        refine ax_gf c5 s6 ?_
        have s10 : ∀ n, ax_ex (e + 1) L_X4_tokenOf 16 [some (.inl v0)] [] m (n + 3) = if 57 < v0 then ax_ex (e + 1) L_X4_tokenOf 21 [some (.inl v0)] [] m n else ax_ex (e + 1) L_X4_tokenOf 19 [some (.inl v0)] [] m n := fun n => rfl
        by_cases c9 : 57 < v0
        · rw [if_pos c9] at h
          refine ax_gt c9 s10 ?_
          have s12 : ∀ n, ax_ex (e + 1) L_X4_tokenOf 21 [some (.inl v0)] [] m (n + 3) = if v0 = 59 then ax_ex (e + 1) L_X4_tokenOf 24 [some (.inl v0)] [] m n else ax_ex (e + 1) L_X4_tokenOf 26 [some (.inl v0)] [] m n := fun n => rfl
          by_cases c11 : v0 = 59
          · rw [if_pos c11] at h
            refine ax_gt c11 s12 ?_
            obtain rfl := Option.some.inj h
            exact ax_rs 3 (fun n => rfl)
          · rw [if_neg c11] at h
            refine ax_gf c11 s12 ?_
            obtain rfl := Option.some.inj h
            exact ax_rs 2 (fun n => rfl)
        · rw [if_neg c9] at h
          refine ax_gf c9 s10 ?_
          obtain rfl := Option.some.inj h
          exact ax_rs 2 (fun n => rfl)
    · rw [if_neg c3] at h
      refine ax_gf c3 s4 ?_
      have s14 : ∀ n, ax_ex (e + 1) L_X4_tokenOf 8 [some (.inl v0)] [] m (n + 3) = if 122 < v0 then ax_ex (e + 1) L_X4_tokenOf 13 [some (.inl v0)] [] m n else ax_ex (e + 1) L_X4_tokenOf 11 [some (.inl v0)] [] m n := fun n => rfl
      by_cases c13 : 122 < v0
      · rw [if_pos c13] at h
        refine ax_gt c13 s14 ?_
        have s16 : ∀ n, ax_ex (e + 1) L_X4_tokenOf 13 [some (.inl v0)] [] m (n + 3) = if v0 < 48 then ax_ex (e + 1) L_X4_tokenOf 21 [some (.inl v0)] [] m n else ax_ex (e + 1) L_X4_tokenOf 16 [some (.inl v0)] [] m n := fun n => rfl
        by_cases c15 : v0 < 48
        · rw [if_pos c15] at h
          refine ax_gt c15 s16 ?_
          have s18 : ∀ n, ax_ex (e + 1) L_X4_tokenOf 21 [some (.inl v0)] [] m (n + 3) = if v0 = 59 then ax_ex (e + 1) L_X4_tokenOf 24 [some (.inl v0)] [] m n else ax_ex (e + 1) L_X4_tokenOf 26 [some (.inl v0)] [] m n := fun n => rfl
          by_cases c17 : v0 = 59
          · rw [if_pos c17] at h
            refine ax_gt c17 s18 ?_
            obtain rfl := Option.some.inj h
            exact ax_rs 3 (fun n => rfl)
          · rw [if_neg c17] at h
            refine ax_gf c17 s18 ?_
            obtain rfl := Option.some.inj h
            exact ax_rs 2 (fun n => rfl)
        · rw [if_neg c15] at h
          refine ax_gf c15 s16 ?_
          have s20 : ∀ n, ax_ex (e + 1) L_X4_tokenOf 16 [some (.inl v0)] [] m (n + 3) = if 57 < v0 then ax_ex (e + 1) L_X4_tokenOf 21 [some (.inl v0)] [] m n else ax_ex (e + 1) L_X4_tokenOf 19 [some (.inl v0)] [] m n := fun n => rfl
          by_cases c19 : 57 < v0
          · rw [if_pos c19] at h
            refine ax_gt c19 s20 ?_
            have s22 : ∀ n, ax_ex (e + 1) L_X4_tokenOf 21 [some (.inl v0)] [] m (n + 3) = if v0 = 59 then ax_ex (e + 1) L_X4_tokenOf 24 [some (.inl v0)] [] m n else ax_ex (e + 1) L_X4_tokenOf 26 [some (.inl v0)] [] m n := fun n => rfl
            by_cases c21 : v0 = 59
            · rw [if_pos c21] at h
              refine ax_gt c21 s22 ?_
              obtain rfl := Option.some.inj h
              exact ax_rs 3 (fun n => rfl)
            · rw [if_neg c21] at h
              refine ax_gf c21 s22 ?_
              obtain rfl := Option.some.inj h
              exact ax_rs 2 (fun n => rfl)
          · rw [if_neg c19] at h
            refine ax_gf c19 s20 ?_
            obtain rfl := Option.some.inj h
            exact ax_rs 2 (fun n => rfl)
      · rw [if_neg c13] at h
        refine ax_gf c13 s14 ?_
        obtain rfl := Option.some.inj h
        exact ax_rs 2 (fun n => rfl)
def F_X4_advance_L52 : Nat → ax_M → Option ax_M
  | 0, _ => none
  | n + 1, m => if (m.1 10 0 1) ≤ (m.1 12 0 3) then (some m) else (ax_b (F_X8_at m (m.1 12 0 3)) (fun r14 => ax_b (F_X4_tokenOf r14) (fun r16 => if r16 = (m.1 12 0 1) then (F_X4_advance_L52 n (ax_ui m 12 0 3 ((m.1 12 0 3) + 1))) else (some m))))
set_option maxRecDepth 20000 in
set_option maxHeartbeats 4000000 in
theorem R_X4_advance_L52 {e : Nat} : ∀ (n : Nat) (m : ax_M) (q : ax_M), F_X4_advance_L52 n m = some q → ax_Ru (e + 2) L_X4_advance 52 [some (.inr (.inr (12, 0)))] [] m (none, q) := by
  intro n
  induction n with
  | zero =>
    intro m q h
    cases h
  | succ n ih =>
    intro m q h
    rw [F_X4_advance_L52] at h
    have s12 : ∀ n, ax_ex (e + 2) L_X4_advance 52 [some (.inr (.inr (12, 0)))] [] m (n + 6) = if (m.1 10 0 1) ≤ (m.1 12 0 3) then ax_ex (e + 2) L_X4_advance 74 [some (.inr (.inr (12, 0)))] [] m n else ax_ex (e + 2) L_X4_advance 58 [some (.inr (.inr (12, 0)))] [] m n := fun n => rfl
    by_cases c11 : (m.1 10 0 1) ≤ (m.1 12 0 3)
    · rw [if_pos c11] at h
      refine ax_gt c11 s12 ?_
      obtain rfl := Option.some.inj h
      exact ax_rs 1 (fun n => rfl)
    · rw [if_neg c11] at h
      refine ax_gf c11 s12 ?_
      obtain ⟨r14, q13, h⟩ := ax_b_of h
      have s20 : ∀ n, ax_ex (e + 2) L_X4_advance 58 [some (.inr (.inr (12, 0)))] [] m (n + 5) = ax_aft (fun s m2 => ax_ex (e + 2) L_X4_advance 63 [some (.inr (.inr (12, 0)))] s m2 n) [] (ax_ex (e + 1) L_X8_at 0 (ax_entry [.inr (.inr (10, 0)), .inl (m.1 12 0 3)] 2) [] m n) := fun n => rfl
      refine ax_gci (j := 5) (k2 := 63) (lv2 := [some (.inr (.inr (12, 0)))]) (rest := []) ((R_X8_at (by omega) q13)) s20 ?_
      obtain ⟨r16, q15, h⟩ := ax_b_of h
      have s19 : ∀ n, ax_ex (e + 2) L_X4_advance 63 [some (.inr (.inr (12, 0)))] [.inl r14] m (n + 1) = ax_aft (fun s m2 => ax_ex (e + 2) L_X4_advance 64 [some (.inr (.inr (12, 0)))] s m2 n) [] (ax_ex (e + 1) L_X4_tokenOf 0 (ax_entry [.inl r14] 1) [] m n) := fun n => rfl
      refine ax_gci (j := 1) (k2 := 64) (lv2 := [some (.inr (.inr (12, 0)))]) (rest := []) ((R_X4_tokenOf (by omega) q15)) s19 ?_
      have s18 : ∀ n, ax_ex (e + 2) L_X4_advance 64 [some (.inr (.inr (12, 0)))] [.inl r16] m (n + 3) = if r16 = (m.1 12 0 1) then ax_ex (e + 2) L_X4_advance 67 [some (.inr (.inr (12, 0)))] [] m n else ax_ex (e + 2) L_X4_advance 74 [some (.inr (.inr (12, 0)))] [] m n := fun n => rfl
      by_cases c17 : r16 = (m.1 12 0 1)
      · rw [if_pos c17] at h
        refine ax_gt c17 s18 ?_
        refine ax_go (j := 7) (k2 := 52) (lv2 := [some (.inr (.inr (12, 0)))]) (st2 := []) (m2 := (ax_ui m 12 0 3 ((m.1 12 0 3) + 1))) (fun n => rfl) ?_
        exact ax_fg (lv2 := [some (.inr (.inr (12, 0)))]) ⟨rfl, trivial⟩ (ih (ax_ui m 12 0 3 ((m.1 12 0 3) + 1)) _ h)
      · rw [if_neg c17] at h
        refine ax_gf c17 s18 ?_
        obtain rfl := Option.some.inj h
        exact ax_rs 1 (fun n => rfl)
def F_X4_advance_L4 : Nat → ax_M → Option ax_M
  | 0, _ => none
  | n + 1, m => if (m.1 10 0 1) ≤ (m.1 12 0 2) then (ax_b (F_X8_at m (m.1 12 0 2)) (fun r4 => ax_b (F_X4_tokenOf r4) (fun r6 => if ((ax_ui m 12 0 1 r6).1 12 0 1) = 0 then (if ((ax_ui (ax_ui m 12 0 1 r6) 12 0 3 ((ax_ui m 12 0 1 r6).1 12 0 2)).1 12 0 1) = 1 then (F_X4_advance_L52 ax_FU (ax_ui (ax_ui m 12 0 1 r6) 12 0 3 ((ax_ui m 12 0 1 r6).1 12 0 2))) else (if ((ax_ui (ax_ui m 12 0 1 r6) 12 0 3 ((ax_ui m 12 0 1 r6).1 12 0 2)).1 12 0 1) = 2 then (F_X4_advance_L52 ax_FU (ax_ui (ax_ui m 12 0 1 r6) 12 0 3 ((ax_ui m 12 0 1 r6).1 12 0 2))) else (some (ax_ui (ax_ui m 12 0 1 r6) 12 0 3 ((ax_ui m 12 0 1 r6).1 12 0 2))))) else (if ((ax_ui (ax_ui m 12 0 1 r6) 12 0 3 (((ax_ui m 12 0 1 r6).1 12 0 2) + 1)).1 12 0 1) = 1 then (F_X4_advance_L52 ax_FU (ax_ui (ax_ui m 12 0 1 r6) 12 0 3 (((ax_ui m 12 0 1 r6).1 12 0 2) + 1))) else (if ((ax_ui (ax_ui m 12 0 1 r6) 12 0 3 (((ax_ui m 12 0 1 r6).1 12 0 2) + 1)).1 12 0 1) = 2 then (F_X4_advance_L52 ax_FU (ax_ui (ax_ui m 12 0 1 r6) 12 0 3 (((ax_ui m 12 0 1 r6).1 12 0 2) + 1))) else (some (ax_ui (ax_ui m 12 0 1 r6) 12 0 3 (((ax_ui m 12 0 1 r6).1 12 0 2) + 1)))))))) else (ax_b (F_X8_at m (m.1 12 0 2)) (fun r34 => if r34 = 32 then (F_X4_advance_L4 n (ax_ui m 12 0 2 ((m.1 12 0 2) + 1))) else (ax_b (F_X8_at m (m.1 12 0 2)) (fun r38 => ax_b (F_X4_tokenOf r38) (fun r40 => if ((ax_ui m 12 0 1 r40).1 12 0 1) = 0 then (if ((ax_ui (ax_ui m 12 0 1 r40) 12 0 3 ((ax_ui m 12 0 1 r40).1 12 0 2)).1 12 0 1) = 1 then (F_X4_advance_L52 ax_FU (ax_ui (ax_ui m 12 0 1 r40) 12 0 3 ((ax_ui m 12 0 1 r40).1 12 0 2))) else (if ((ax_ui (ax_ui m 12 0 1 r40) 12 0 3 ((ax_ui m 12 0 1 r40).1 12 0 2)).1 12 0 1) = 2 then (F_X4_advance_L52 ax_FU (ax_ui (ax_ui m 12 0 1 r40) 12 0 3 ((ax_ui m 12 0 1 r40).1 12 0 2))) else (some (ax_ui (ax_ui m 12 0 1 r40) 12 0 3 ((ax_ui m 12 0 1 r40).1 12 0 2))))) else (if ((ax_ui (ax_ui m 12 0 1 r40) 12 0 3 (((ax_ui m 12 0 1 r40).1 12 0 2) + 1)).1 12 0 1) = 1 then (F_X4_advance_L52 ax_FU (ax_ui (ax_ui m 12 0 1 r40) 12 0 3 (((ax_ui m 12 0 1 r40).1 12 0 2) + 1))) else (if ((ax_ui (ax_ui m 12 0 1 r40) 12 0 3 (((ax_ui m 12 0 1 r40).1 12 0 2) + 1)).1 12 0 1) = 2 then (F_X4_advance_L52 ax_FU (ax_ui (ax_ui m 12 0 1 r40) 12 0 3 (((ax_ui m 12 0 1 r40).1 12 0 2) + 1))) else (some (ax_ui (ax_ui m 12 0 1 r40) 12 0 3 (((ax_ui m 12 0 1 r40).1 12 0 2) + 1))))))))))
set_option maxRecDepth 20000 in
set_option maxHeartbeats 4000000 in
theorem R_X4_advance_L4 {e : Nat} : ∀ (n : Nat) (m : ax_M) (q : ax_M), F_X4_advance_L4 n m = some q → ax_Ru (e + 2) L_X4_advance 4 [some (.inr (.inr (12, 0)))] [] m (none, q) := by
  intro n
  induction n with
  | zero =>
    intro m q h
    cases h
  | succ n ih =>
    intro m q h
    rw [F_X4_advance_L4] at h
    have s2 : ∀ n, ax_ex (e + 2) L_X4_advance 4 [some (.inr (.inr (12, 0)))] [] m (n + 6) = if (m.1 10 0 1) ≤ (m.1 12 0 2) then ax_ex (e + 2) L_X4_advance 24 [some (.inr (.inr (12, 0)))] [] m n else ax_ex (e + 2) L_X4_advance 10 [some (.inr (.inr (12, 0)))] [] m n := fun n => rfl
    by_cases c1 : (m.1 10 0 1) ≤ (m.1 12 0 2)
    · rw [if_pos c1] at h
      refine ax_gt c1 s2 ?_
      obtain ⟨r4, q3, h⟩ := ax_b_of h
      have s32 : ∀ n, ax_ex (e + 2) L_X4_advance 24 [some (.inr (.inr (12, 0)))] [] m (n + 6) = ax_aft (fun s m2 => ax_ex (e + 2) L_X4_advance 30 [some (.inr (.inr (12, 0)))] s m2 n) [.inr (.inr (12, 0))] (ax_ex (e + 1) L_X8_at 0 (ax_entry [.inr (.inr (10, 0)), .inl (m.1 12 0 2)] 2) [] m n) := fun n => rfl
      refine ax_gci (j := 6) (k2 := 30) (lv2 := [some (.inr (.inr (12, 0)))]) (rest := [.inr (.inr (12, 0))]) ((R_X8_at (by omega) q3)) s32 ?_
      obtain ⟨r6, q5, h⟩ := ax_b_of h
      have s31 : ∀ n, ax_ex (e + 2) L_X4_advance 30 [some (.inr (.inr (12, 0)))] [.inl r4, .inr (.inr (12, 0))] m (n + 1) = ax_aft (fun s m2 => ax_ex (e + 2) L_X4_advance 31 [some (.inr (.inr (12, 0)))] s m2 n) [.inr (.inr (12, 0))] (ax_ex (e + 1) L_X4_tokenOf 0 (ax_entry [.inl r4] 1) [] m n) := fun n => rfl
      refine ax_gci (j := 1) (k2 := 31) (lv2 := [some (.inr (.inr (12, 0)))]) (rest := [.inr (.inr (12, 0))]) ((R_X4_tokenOf (by omega) q5)) s31 ?_
      have s8 : ∀ n, ax_ex (e + 2) L_X4_advance 31 [some (.inr (.inr (12, 0)))] [.inl r6, .inr (.inr (12, 0))] m (n + 5) = if ((ax_ui m 12 0 1 r6).1 12 0 1) = 0 then ax_ex (e + 2) L_X4_advance 36 [some (.inr (.inr (12, 0)))] [.inr (.inr (12, 0))] (ax_ui m 12 0 1 r6) n else ax_ex (e + 2) L_X4_advance 39 [some (.inr (.inr (12, 0)))] [.inr (.inr (12, 0))] (ax_ui m 12 0 1 r6) n := fun n => rfl
      by_cases c7 : ((ax_ui m 12 0 1 r6).1 12 0 1) = 0
      · rw [if_pos c7] at h
        refine ax_gt c7 s8 ?_
        have s10 : ∀ n, ax_ex (e + 2) L_X4_advance 36 [some (.inr (.inr (12, 0)))] [.inr (.inr (12, 0))] (ax_ui m 12 0 1 r6) (n + 8) = if ((ax_ui (ax_ui m 12 0 1 r6) 12 0 3 ((ax_ui m 12 0 1 r6).1 12 0 2)).1 12 0 1) = 1 then ax_ex (e + 2) L_X4_advance 52 [some (.inr (.inr (12, 0)))] [] (ax_ui (ax_ui m 12 0 1 r6) 12 0 3 ((ax_ui m 12 0 1 r6).1 12 0 2)) n else ax_ex (e + 2) L_X4_advance 48 [some (.inr (.inr (12, 0)))] [] (ax_ui (ax_ui m 12 0 1 r6) 12 0 3 ((ax_ui m 12 0 1 r6).1 12 0 2)) n := fun n => rfl
        by_cases c9 : ((ax_ui (ax_ui m 12 0 1 r6) 12 0 3 ((ax_ui m 12 0 1 r6).1 12 0 2)).1 12 0 1) = 1
        · rw [if_pos c9] at h
          refine ax_gt c9 s10 ?_
          refine ax_fg (lv2 := [some (.inr (.inr (12, 0)))]) ⟨rfl, trivial⟩ ?_
          refine R_X4_advance_L52 _ (ax_ui (ax_ui m 12 0 1 r6) 12 0 3 ((ax_ui m 12 0 1 r6).1 12 0 2)) _ h
        · rw [if_neg c9] at h
          refine ax_gf c9 s10 ?_
          have s23 : ∀ n, ax_ex (e + 2) L_X4_advance 48 [some (.inr (.inr (12, 0)))] [] (ax_ui (ax_ui m 12 0 1 r6) 12 0 3 ((ax_ui m 12 0 1 r6).1 12 0 2)) (n + 4) = if ((ax_ui (ax_ui m 12 0 1 r6) 12 0 3 ((ax_ui m 12 0 1 r6).1 12 0 2)).1 12 0 1) = 2 then ax_ex (e + 2) L_X4_advance 52 [some (.inr (.inr (12, 0)))] [] (ax_ui (ax_ui m 12 0 1 r6) 12 0 3 ((ax_ui m 12 0 1 r6).1 12 0 2)) n else ax_ex (e + 2) L_X4_advance 74 [some (.inr (.inr (12, 0)))] [] (ax_ui (ax_ui m 12 0 1 r6) 12 0 3 ((ax_ui m 12 0 1 r6).1 12 0 2)) n := fun n => rfl
          by_cases c22 : ((ax_ui (ax_ui m 12 0 1 r6) 12 0 3 ((ax_ui m 12 0 1 r6).1 12 0 2)).1 12 0 1) = 2
          · rw [if_pos c22] at h
            refine ax_gt c22 s23 ?_
            refine ax_fg (lv2 := [some (.inr (.inr (12, 0)))]) ⟨rfl, trivial⟩ ?_
            refine R_X4_advance_L52 _ (ax_ui (ax_ui m 12 0 1 r6) 12 0 3 ((ax_ui m 12 0 1 r6).1 12 0 2)) _ h
          · rw [if_neg c22] at h
            refine ax_gf c22 s23 ?_
            obtain rfl := Option.some.inj h
            exact ax_rs 1 (fun n => rfl)
      · rw [if_neg c7] at h
        refine ax_gf c7 s8 ?_
        have s26 : ∀ n, ax_ex (e + 2) L_X4_advance 39 [some (.inr (.inr (12, 0)))] [.inr (.inr (12, 0))] (ax_ui m 12 0 1 r6) (n + 9) = if ((ax_ui (ax_ui m 12 0 1 r6) 12 0 3 (((ax_ui m 12 0 1 r6).1 12 0 2) + 1)).1 12 0 1) = 1 then ax_ex (e + 2) L_X4_advance 52 [some (.inr (.inr (12, 0)))] [] (ax_ui (ax_ui m 12 0 1 r6) 12 0 3 (((ax_ui m 12 0 1 r6).1 12 0 2) + 1)) n else ax_ex (e + 2) L_X4_advance 48 [some (.inr (.inr (12, 0)))] [] (ax_ui (ax_ui m 12 0 1 r6) 12 0 3 (((ax_ui m 12 0 1 r6).1 12 0 2) + 1)) n := fun n => rfl
        by_cases c25 : ((ax_ui (ax_ui m 12 0 1 r6) 12 0 3 (((ax_ui m 12 0 1 r6).1 12 0 2) + 1)).1 12 0 1) = 1
        · rw [if_pos c25] at h
          refine ax_gt c25 s26 ?_
          refine ax_fg (lv2 := [some (.inr (.inr (12, 0)))]) ⟨rfl, trivial⟩ ?_
          refine R_X4_advance_L52 _ (ax_ui (ax_ui m 12 0 1 r6) 12 0 3 (((ax_ui m 12 0 1 r6).1 12 0 2) + 1)) _ h
        · rw [if_neg c25] at h
          refine ax_gf c25 s26 ?_
          have s29 : ∀ n, ax_ex (e + 2) L_X4_advance 48 [some (.inr (.inr (12, 0)))] [] (ax_ui (ax_ui m 12 0 1 r6) 12 0 3 (((ax_ui m 12 0 1 r6).1 12 0 2) + 1)) (n + 4) = if ((ax_ui (ax_ui m 12 0 1 r6) 12 0 3 (((ax_ui m 12 0 1 r6).1 12 0 2) + 1)).1 12 0 1) = 2 then ax_ex (e + 2) L_X4_advance 52 [some (.inr (.inr (12, 0)))] [] (ax_ui (ax_ui m 12 0 1 r6) 12 0 3 (((ax_ui m 12 0 1 r6).1 12 0 2) + 1)) n else ax_ex (e + 2) L_X4_advance 74 [some (.inr (.inr (12, 0)))] [] (ax_ui (ax_ui m 12 0 1 r6) 12 0 3 (((ax_ui m 12 0 1 r6).1 12 0 2) + 1)) n := fun n => rfl
          by_cases c28 : ((ax_ui (ax_ui m 12 0 1 r6) 12 0 3 (((ax_ui m 12 0 1 r6).1 12 0 2) + 1)).1 12 0 1) = 2
          · rw [if_pos c28] at h
            refine ax_gt c28 s29 ?_
            refine ax_fg (lv2 := [some (.inr (.inr (12, 0)))]) ⟨rfl, trivial⟩ ?_
            refine R_X4_advance_L52 _ (ax_ui (ax_ui m 12 0 1 r6) 12 0 3 (((ax_ui m 12 0 1 r6).1 12 0 2) + 1)) _ h
          · rw [if_neg c28] at h
            refine ax_gf c28 s29 ?_
            obtain rfl := Option.some.inj h
            exact ax_rs 1 (fun n => rfl)
    · rw [if_neg c1] at h
      refine ax_gf c1 s2 ?_
      obtain ⟨r34, q33, h⟩ := ax_b_of h
      have s57 : ∀ n, ax_ex (e + 2) L_X4_advance 10 [some (.inr (.inr (12, 0)))] [] m (n + 5) = ax_aft (fun s m2 => ax_ex (e + 2) L_X4_advance 15 [some (.inr (.inr (12, 0)))] s m2 n) [] (ax_ex (e + 1) L_X8_at 0 (ax_entry [.inr (.inr (10, 0)), .inl (m.1 12 0 2)] 2) [] m n) := fun n => rfl
      refine ax_gci (j := 5) (k2 := 15) (lv2 := [some (.inr (.inr (12, 0)))]) (rest := []) ((R_X8_at (by omega) q33)) s57 ?_
      have s36 : ∀ n, ax_ex (e + 2) L_X4_advance 15 [some (.inr (.inr (12, 0)))] [.inl r34] m (n + 2) = if r34 = 32 then ax_ex (e + 2) L_X4_advance 17 [some (.inr (.inr (12, 0)))] [] m n else ax_ex (e + 2) L_X4_advance 24 [some (.inr (.inr (12, 0)))] [] m n := fun n => rfl
      by_cases c35 : r34 = 32
      · rw [if_pos c35] at h
        refine ax_gt c35 s36 ?_
        refine ax_go (j := 7) (k2 := 4) (lv2 := [some (.inr (.inr (12, 0)))]) (st2 := []) (m2 := (ax_ui m 12 0 2 ((m.1 12 0 2) + 1))) (fun n => rfl) ?_
        exact ax_fg (lv2 := [some (.inr (.inr (12, 0)))]) ⟨rfl, trivial⟩ (ih (ax_ui m 12 0 2 ((m.1 12 0 2) + 1)) _ h)
      · rw [if_neg c35] at h
        refine ax_gf c35 s36 ?_
        obtain ⟨r38, q37, h⟩ := ax_b_of h
        have s56 : ∀ n, ax_ex (e + 2) L_X4_advance 24 [some (.inr (.inr (12, 0)))] [] m (n + 6) = ax_aft (fun s m2 => ax_ex (e + 2) L_X4_advance 30 [some (.inr (.inr (12, 0)))] s m2 n) [.inr (.inr (12, 0))] (ax_ex (e + 1) L_X8_at 0 (ax_entry [.inr (.inr (10, 0)), .inl (m.1 12 0 2)] 2) [] m n) := fun n => rfl
        refine ax_gci (j := 6) (k2 := 30) (lv2 := [some (.inr (.inr (12, 0)))]) (rest := [.inr (.inr (12, 0))]) ((R_X8_at (by omega) q37)) s56 ?_
        obtain ⟨r40, q39, h⟩ := ax_b_of h
        have s55 : ∀ n, ax_ex (e + 2) L_X4_advance 30 [some (.inr (.inr (12, 0)))] [.inl r38, .inr (.inr (12, 0))] m (n + 1) = ax_aft (fun s m2 => ax_ex (e + 2) L_X4_advance 31 [some (.inr (.inr (12, 0)))] s m2 n) [.inr (.inr (12, 0))] (ax_ex (e + 1) L_X4_tokenOf 0 (ax_entry [.inl r38] 1) [] m n) := fun n => rfl
        refine ax_gci (j := 1) (k2 := 31) (lv2 := [some (.inr (.inr (12, 0)))]) (rest := [.inr (.inr (12, 0))]) ((R_X4_tokenOf (by omega) q39)) s55 ?_
        have s42 : ∀ n, ax_ex (e + 2) L_X4_advance 31 [some (.inr (.inr (12, 0)))] [.inl r40, .inr (.inr (12, 0))] m (n + 5) = if ((ax_ui m 12 0 1 r40).1 12 0 1) = 0 then ax_ex (e + 2) L_X4_advance 36 [some (.inr (.inr (12, 0)))] [.inr (.inr (12, 0))] (ax_ui m 12 0 1 r40) n else ax_ex (e + 2) L_X4_advance 39 [some (.inr (.inr (12, 0)))] [.inr (.inr (12, 0))] (ax_ui m 12 0 1 r40) n := fun n => rfl
        by_cases c41 : ((ax_ui m 12 0 1 r40).1 12 0 1) = 0
        · rw [if_pos c41] at h
          refine ax_gt c41 s42 ?_
          have s44 : ∀ n, ax_ex (e + 2) L_X4_advance 36 [some (.inr (.inr (12, 0)))] [.inr (.inr (12, 0))] (ax_ui m 12 0 1 r40) (n + 8) = if ((ax_ui (ax_ui m 12 0 1 r40) 12 0 3 ((ax_ui m 12 0 1 r40).1 12 0 2)).1 12 0 1) = 1 then ax_ex (e + 2) L_X4_advance 52 [some (.inr (.inr (12, 0)))] [] (ax_ui (ax_ui m 12 0 1 r40) 12 0 3 ((ax_ui m 12 0 1 r40).1 12 0 2)) n else ax_ex (e + 2) L_X4_advance 48 [some (.inr (.inr (12, 0)))] [] (ax_ui (ax_ui m 12 0 1 r40) 12 0 3 ((ax_ui m 12 0 1 r40).1 12 0 2)) n := fun n => rfl
          by_cases c43 : ((ax_ui (ax_ui m 12 0 1 r40) 12 0 3 ((ax_ui m 12 0 1 r40).1 12 0 2)).1 12 0 1) = 1
          · rw [if_pos c43] at h
            refine ax_gt c43 s44 ?_
            refine ax_fg (lv2 := [some (.inr (.inr (12, 0)))]) ⟨rfl, trivial⟩ ?_
            refine R_X4_advance_L52 _ (ax_ui (ax_ui m 12 0 1 r40) 12 0 3 ((ax_ui m 12 0 1 r40).1 12 0 2)) _ h
          · rw [if_neg c43] at h
            refine ax_gf c43 s44 ?_
            have s47 : ∀ n, ax_ex (e + 2) L_X4_advance 48 [some (.inr (.inr (12, 0)))] [] (ax_ui (ax_ui m 12 0 1 r40) 12 0 3 ((ax_ui m 12 0 1 r40).1 12 0 2)) (n + 4) = if ((ax_ui (ax_ui m 12 0 1 r40) 12 0 3 ((ax_ui m 12 0 1 r40).1 12 0 2)).1 12 0 1) = 2 then ax_ex (e + 2) L_X4_advance 52 [some (.inr (.inr (12, 0)))] [] (ax_ui (ax_ui m 12 0 1 r40) 12 0 3 ((ax_ui m 12 0 1 r40).1 12 0 2)) n else ax_ex (e + 2) L_X4_advance 74 [some (.inr (.inr (12, 0)))] [] (ax_ui (ax_ui m 12 0 1 r40) 12 0 3 ((ax_ui m 12 0 1 r40).1 12 0 2)) n := fun n => rfl
            by_cases c46 : ((ax_ui (ax_ui m 12 0 1 r40) 12 0 3 ((ax_ui m 12 0 1 r40).1 12 0 2)).1 12 0 1) = 2
            · rw [if_pos c46] at h
              refine ax_gt c46 s47 ?_
              refine ax_fg (lv2 := [some (.inr (.inr (12, 0)))]) ⟨rfl, trivial⟩ ?_
              refine R_X4_advance_L52 _ (ax_ui (ax_ui m 12 0 1 r40) 12 0 3 ((ax_ui m 12 0 1 r40).1 12 0 2)) _ h
            · rw [if_neg c46] at h
              refine ax_gf c46 s47 ?_
              obtain rfl := Option.some.inj h
              exact ax_rs 1 (fun n => rfl)
        · rw [if_neg c41] at h
          refine ax_gf c41 s42 ?_
          have s50 : ∀ n, ax_ex (e + 2) L_X4_advance 39 [some (.inr (.inr (12, 0)))] [.inr (.inr (12, 0))] (ax_ui m 12 0 1 r40) (n + 9) = if ((ax_ui (ax_ui m 12 0 1 r40) 12 0 3 (((ax_ui m 12 0 1 r40).1 12 0 2) + 1)).1 12 0 1) = 1 then ax_ex (e + 2) L_X4_advance 52 [some (.inr (.inr (12, 0)))] [] (ax_ui (ax_ui m 12 0 1 r40) 12 0 3 (((ax_ui m 12 0 1 r40).1 12 0 2) + 1)) n else ax_ex (e + 2) L_X4_advance 48 [some (.inr (.inr (12, 0)))] [] (ax_ui (ax_ui m 12 0 1 r40) 12 0 3 (((ax_ui m 12 0 1 r40).1 12 0 2) + 1)) n := fun n => rfl
          by_cases c49 : ((ax_ui (ax_ui m 12 0 1 r40) 12 0 3 (((ax_ui m 12 0 1 r40).1 12 0 2) + 1)).1 12 0 1) = 1
          · rw [if_pos c49] at h
            refine ax_gt c49 s50 ?_
            refine ax_fg (lv2 := [some (.inr (.inr (12, 0)))]) ⟨rfl, trivial⟩ ?_
            refine R_X4_advance_L52 _ (ax_ui (ax_ui m 12 0 1 r40) 12 0 3 (((ax_ui m 12 0 1 r40).1 12 0 2) + 1)) _ h
          · rw [if_neg c49] at h
            refine ax_gf c49 s50 ?_
            have s53 : ∀ n, ax_ex (e + 2) L_X4_advance 48 [some (.inr (.inr (12, 0)))] [] (ax_ui (ax_ui m 12 0 1 r40) 12 0 3 (((ax_ui m 12 0 1 r40).1 12 0 2) + 1)) (n + 4) = if ((ax_ui (ax_ui m 12 0 1 r40) 12 0 3 (((ax_ui m 12 0 1 r40).1 12 0 2) + 1)).1 12 0 1) = 2 then ax_ex (e + 2) L_X4_advance 52 [some (.inr (.inr (12, 0)))] [] (ax_ui (ax_ui m 12 0 1 r40) 12 0 3 (((ax_ui m 12 0 1 r40).1 12 0 2) + 1)) n else ax_ex (e + 2) L_X4_advance 74 [some (.inr (.inr (12, 0)))] [] (ax_ui (ax_ui m 12 0 1 r40) 12 0 3 (((ax_ui m 12 0 1 r40).1 12 0 2) + 1)) n := fun n => rfl
            by_cases c52 : ((ax_ui (ax_ui m 12 0 1 r40) 12 0 3 (((ax_ui m 12 0 1 r40).1 12 0 2) + 1)).1 12 0 1) = 2
            · rw [if_pos c52] at h
              refine ax_gt c52 s53 ?_
              refine ax_fg (lv2 := [some (.inr (.inr (12, 0)))]) ⟨rfl, trivial⟩ ?_
              refine R_X4_advance_L52 _ (ax_ui (ax_ui m 12 0 1 r40) 12 0 3 (((ax_ui m 12 0 1 r40).1 12 0 2) + 1)) _ h
            · rw [if_neg c52] at h
              refine ax_gf c52 s53 ?_
              obtain rfl := Option.some.inj h
              exact ax_rs 1 (fun n => rfl)
def F_X4_advance (m : ax_M) : Option ax_M := F_X4_advance_L4 ax_FU (ax_ui m 12 0 2 (m.1 12 0 3))
set_option maxRecDepth 20000 in
set_option maxHeartbeats 4000000 in
theorem R_X4_advance {d : Nat} (hd : 2 ≤ d) {m : ax_M} {q : ax_M} (h : F_X4_advance m = some q) : ax_Ru d L_X4_advance 0 (ax_entry [.inr (.inr (12, 0))] 1) [] m (none, q) := by
  obtain ⟨e, rfl⟩ : ∃ e, d = e + 2 := ⟨d - 2, by omega⟩
  unfold F_X4_advance at h
  refine ax_go (j := 4) (k2 := 4) (lv2 := [some (.inr (.inr (12, 0)))]) (st2 := []) (m2 := (ax_ui m 12 0 2 (m.1 12 0 3))) (fun n => rfl) ?_
  refine ax_fg (lv2 := [some (.inr (.inr (12, 0)))]) ⟨rfl, trivial⟩ ?_
  refine R_X4_advance_L4 _ (ax_ui m 12 0 2 (m.1 12 0 3)) _ h
def F_X4_isWord_L16 : Nat → ax_M → Nat → Int32 → Option Int32
  | 0, _, _, _ => none
  | n + 1, m, g1, v2 => if (Int32.ofNat (ax_word g1).length) ≤ v2 then (some 1) else (ax_b (F_X8_at m ((m.1 12 0 2) + v2)) (fun r9 => if ax_ok v2 (ax_word g1).length = true then (if r9 = (ax_chr g1 v2.toNatClampNeg) then (F_X4_isWord_L16 n m g1 (v2 + 1)) else (some 0)) else none))
set_option maxRecDepth 20000 in
set_option maxHeartbeats 4000000 in
theorem R_X4_isWord_L16 {e : Nat} {m : ax_M} {g1 : Nat} : ∀ (n : Nat) (v2 : Int32) (q : Int32), F_X4_isWord_L16 n m g1 v2 = some q → ax_Ru (e + 6) L_X4_isWord 16 [some (.inr (.inr (12, 0))), some (.inr (.inr (42, g1))), some (.inl v2)] [] m (some (.inl q), m) := by
  intro n
  induction n with
  | zero =>
    intro v2 q h
    cases h
  | succ n ih =>
    intro v2 q h
    rw [F_X4_isWord_L16] at h
    have s7 : ∀ n, ax_ex (e + 6) L_X4_isWord 16 [some (.inr (.inr (12, 0))), some (.inr (.inr (42, g1))), some (.inl v2)] [] m (n + 4) = if (Int32.ofNat (ax_word g1).length) ≤ v2 then ax_ex (e + 6) L_X4_isWord 35 [some (.inr (.inr (12, 0))), some (.inr (.inr (42, g1))), some (.inl v2)] [] m n else ax_ex (e + 6) L_X4_isWord 20 [some (.inr (.inr (12, 0))), some (.inr (.inr (42, g1))), some (.inl v2)] [] m n := fun n => rfl
    by_cases c6 : (Int32.ofNat (ax_word g1).length) ≤ v2
    · rw [if_pos c6] at h
      refine ax_gt c6 s7 ?_
      obtain rfl := Option.some.inj h
      exact ax_rq (c := (1 : Int32) = 0 ∨ (1 : Int32) = 1) (j := 2) (by decide) (fun n => rfl)
    · rw [if_neg c6] at h
      refine ax_gf c6 s7 ?_
      obtain ⟨r9, q8, h⟩ := ax_b_of h
      have s14 : ∀ n, ax_ex (e + 6) L_X4_isWord 20 [some (.inr (.inr (12, 0))), some (.inr (.inr (42, g1))), some (.inl v2)] [] m (n + 7) = ax_aft (fun s m2 => ax_ex (e + 6) L_X4_isWord 27 [some (.inr (.inr (12, 0))), some (.inr (.inr (42, g1))), some (.inl v2)] s m2 n) [] (ax_ex (e + 5) L_X8_at 0 (ax_entry [.inr (.inr (10, 0)), .inl ((m.1 12 0 2) + v2)] 2) [] m n) := fun n => rfl
      refine ax_gci (j := 7) (k2 := 27) (lv2 := [some (.inr (.inr (12, 0))), some (.inr (.inr (42, g1))), some (.inl v2)]) (rest := []) ((R_X8_at (by omega) q8)) s14 ?_
      have s11 : ∀ n, ax_ex (e + 6) L_X4_isWord 27 [some (.inr (.inr (12, 0))), some (.inr (.inr (42, g1))), some (.inl v2)] [.inl r9] m (n + 3) = ax_aft (fun s m2 => ax_ex (e + 6) L_X4_isWord 30 [some (.inr (.inr (12, 0))), some (.inr (.inr (42, g1))), some (.inl v2)] s m2 n) [.inl r9] (if ax_ok v2 (ax_word g1).length = true then some (some (.inl (ax_chr g1 v2.toNatClampNeg)), m) else none) := fun n => rfl
      by_cases c10 : ax_ok v2 (ax_word g1).length = true
      · rw [if_pos c10] at h
        refine ax_go (j := 3) (k2 := 30) (lv2 := [some (.inr (.inr (12, 0))), some (.inr (.inr (42, g1))), some (.inl v2)]) (st2 := [.inl (ax_chr g1 v2.toNatClampNeg), .inl r9]) (m2 := m) (fun n => by rw [s11 n, if_pos c10]; rfl) ?_
        have s13 : ∀ n, ax_ex (e + 6) L_X4_isWord 30 [some (.inr (.inr (12, 0))), some (.inr (.inr (42, g1))), some (.inl v2)] [.inl (ax_chr g1 v2.toNatClampNeg), .inl r9] m (n + 1) = if r9 = (ax_chr g1 v2.toNatClampNeg) then ax_ex (e + 6) L_X4_isWord 33 [some (.inr (.inr (12, 0))), some (.inr (.inr (42, g1))), some (.inl v2)] [] m n else ax_ex (e + 6) L_X4_isWord 31 [some (.inr (.inr (12, 0))), some (.inr (.inr (42, g1))), some (.inl v2)] [] m n := fun n => rfl
        by_cases c12 : r9 = (ax_chr g1 v2.toNatClampNeg)
        · rw [if_pos c12] at h
          refine ax_gt c12 s13 ?_
          refine ax_go (j := 2) (k2 := 16) (lv2 := [some (.inr (.inr (12, 0))), some (.inr (.inr (42, g1))), some (.inl (v2 + 1))]) (st2 := []) (m2 := m) (fun n => rfl) ?_
          exact ax_fg (lv2 := [some (.inr (.inr (12, 0))), some (.inr (.inr (42, g1))), some (.inl (v2 + 1))]) ⟨rfl, rfl, rfl, trivial⟩ (ih (v2 + 1) _ h)
        · rw [if_neg c12] at h
          refine ax_gf c12 s13 ?_
          obtain rfl := Option.some.inj h
          exact ax_rq (c := (0 : Int32) = 0 ∨ (0 : Int32) = 1) (j := 2) (by decide) (fun n => rfl)
      · rw [if_neg c10] at h
        cases h
def F_X4_isWord (m : ax_M) (g1 : Nat) : Option Int32 := if (m.1 12 0 1) = 1 then (if ((m.1 12 0 3) - (m.1 12 0 2)) = (Int32.ofNat (ax_word g1).length) then (F_X4_isWord_L16 ax_FU m g1 0) else (some 0)) else (some 0)
set_option maxRecDepth 20000 in
set_option maxHeartbeats 4000000 in
theorem R_X4_isWord {d : Nat} (hd : 6 ≤ d) {m : ax_M} {g1 : Nat} {q : Int32} (h : F_X4_isWord m g1 = some q) : ax_Ru d L_X4_isWord 0 (ax_entry [.inr (.inr (12, 0)), .inr (.inr (42, g1))] 3) [] m (some (.inl q), m) := by
  obtain ⟨e, rfl⟩ : ∃ e, d = e + 6 := ⟨d - 6, by omega⟩
  unfold F_X4_isWord at h
  have s2 : ∀ n, ax_ex (e + 6) L_X4_isWord 0 (ax_entry [.inr (.inr (12, 0)), .inr (.inr (42, g1))] 3) [] m (n + 4) = if (m.1 12 0 1) = 1 then ax_ex (e + 6) L_X4_isWord 4 [some (.inr (.inr (12, 0))), some (.inr (.inr (42, g1))), none] [] m n else ax_ex (e + 6) L_X4_isWord 12 [some (.inr (.inr (12, 0))), some (.inr (.inr (42, g1))), none] [] m n := fun n => rfl
  by_cases c1 : (m.1 12 0 1) = 1
  · rw [if_pos c1] at h
    refine ax_gt c1 s2 ?_
    refine ax_go (j := 7) (k2 := 11) (lv2 := [some (.inr (.inr (12, 0))), some (.inr (.inr (42, g1))), none]) (st2 := [.inl (Int32.ofNat (ax_word g1).length), .inl ((m.1 12 0 3) - (m.1 12 0 2))]) (m2 := m) (fun n => rfl) ?_
    obtain ⟨y3, hy3⟩ : ∃ y : Int32, y = ((m.1 12 0 3) - (m.1 12 0 2)) := ⟨_, rfl⟩
    rw [← hy3] at h ⊢
    have s5 : ∀ n, ax_ex (e + 6) L_X4_isWord 11 [some (.inr (.inr (12, 0))), some (.inr (.inr (42, g1))), none] [.inl (Int32.ofNat (ax_word g1).length), .inl y3] m (n + 1) = if y3 = (Int32.ofNat (ax_word g1).length) then ax_ex (e + 6) L_X4_isWord 14 [some (.inr (.inr (12, 0))), some (.inr (.inr (42, g1))), none] [] m n else ax_ex (e + 6) L_X4_isWord 12 [some (.inr (.inr (12, 0))), some (.inr (.inr (42, g1))), none] [] m n := fun n => rfl
    by_cases c4 : y3 = (Int32.ofNat (ax_word g1).length)
    · rw [if_pos c4] at h
      refine ax_gt c4 s5 ?_
      refine ax_go (j := 2) (k2 := 16) (lv2 := [some (.inr (.inr (12, 0))), some (.inr (.inr (42, g1))), some (.inl 0)]) (st2 := []) (m2 := m) (fun n => rfl) ?_
      refine ax_fg (lv2 := [some (.inr (.inr (12, 0))), some (.inr (.inr (42, g1))), some (.inl 0)]) ⟨rfl, rfl, rfl, trivial⟩ ?_
      refine R_X4_isWord_L16 _ 0 _ h
    · rw [if_neg c4] at h
      refine ax_gf c4 s5 ?_
      obtain rfl := Option.some.inj h
      exact ax_rq (c := (0 : Int32) = 0 ∨ (0 : Int32) = 1) (j := 2) (by decide) (fun n => rfl)
  · rw [if_neg c1] at h
    refine ax_gf c1 s2 ?_
    obtain rfl := Option.some.inj h
    exact ax_rq (c := (0 : Int32) = 0 ∨ (0 : Int32) = 1) (j := 2) (by decide) (fun n => rfl)
