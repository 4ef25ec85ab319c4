def F_X2_of (m : ax_M) (g0 : Nat) (v1 : Int32) (v2 : Int32) : Option Int32 := if ax_ok ((v1 * 8) + v2) 64 = true then (some (m.1 4 g0 ((v1 * 8) + v2).toNatClampNeg)) else (none)
set_option maxRecDepth 20000 in
set_option maxHeartbeats 4000000 in
theorem R_X2_of {d : Nat} (hd : 1 ≤ d) {m : ax_M} {g0 : Nat} {v1 : Int32} {v2 : Int32} {q : Int32} (h : F_X2_of m g0 v1 v2 = some q) : ax_Ru d L_X2_of 0 (ax_entry [.inr (.inr (3, g0)), .inl v1, .inl v2] 3) [] m (some (.inl q), m) := by
  obtain ⟨e, rfl⟩ : ∃ e, d = e + 1 := ⟨d - 1, by omega⟩
  unfold F_X2_of at h
  have s2 : ∀ n, ax_ex (n + 8) (e + 1) L_X2_of 0 (ax_entry [.inr (.inr (3, g0)), .inl v1, .inl v2] 3) [] m = if ax_ok ((v1 * 8) + v2) 64 = true then ax_ex n (e + 1) L_X2_of 8 [some (.inr (.inr (3, g0))), some (.inl v1), some (.inl v2)] [.inl (m.1 4 g0 ((v1 * 8) + v2).toNatClampNeg)] m else none := fun n => rfl
  by_cases c1 : ax_ok ((v1 * 8) + v2) 64 = true
  · rw [if_pos c1] at h
    refine ax_gt c1 s2 ?_
    cases h
    exact ax_rs 1 (fun n => rfl)
  · rw [if_neg c1] at h
    cases h
def F_X2_owedBy_L4 : Nat → ax_M → Nat → Int32 → Int32 → Int32 → Option Int32
  | 0, _, _, _, _, _ => none
  | n + 1, m, g0, v1, v2, v3 => if 8 ≤ v3 then (some v2) else (ax_b (F_X2_of m g0 v1 v3) (fun r4 => F_X2_owedBy_L4 n m g0 v1 (v2 + r4) (v3 + 1)))
set_option maxRecDepth 20000 in
set_option maxHeartbeats 4000000 in
theorem R_X2_owedBy_L4 {e : Nat} {m : ax_M} {g0 : Nat} {v1 : Int32} : ∀ (n : Nat) (v2 : Int32) (v3 : Int32) (q : Int32), F_X2_owedBy_L4 n m g0 v1 v2 v3 = some q → ax_Ru (e + 2) L_X2_owedBy 4 [some (.inr (.inr (3, g0))), some (.inl v1), some (.inl v2), some (.inl v3)] [] m (some (.inl q), m) := by
  intro n
  induction n with
  | zero =>
    intro v2 v3 q h
    cases h
  | succ n ih =>
    intro v2 v3 q h
    rw [F_X2_owedBy_L4] at h
    have s2 : ∀ n, ax_ex (n + 3) (e + 2) L_X2_owedBy 4 [some (.inr (.inr (3, g0))), some (.inl v1), some (.inl v2), some (.inl v3)] [] m = if 8 ≤ v3 then ax_ex n (e + 2) L_X2_owedBy 16 [some (.inr (.inr (3, g0))), some (.inl v1), some (.inl v2), some (.inl v3)] [] m else ax_ex n (e + 2) L_X2_owedBy 7 [some (.inr (.inr (3, g0))), some (.inl v1), some (.inl v2), some (.inl v3)] [] m := fun n => rfl
    by_cases c1 : 8 ≤ v3
    · rw [if_pos c1] at h
      refine ax_gt c1 s2 ?_
      cases h
      exact ax_rs 2 (fun n => rfl)
    · rw [if_neg c1] at h
      refine ax_gf c1 s2 ?_
      obtain ⟨r4, q3, h⟩ := ax_b_of h
      have s5 : ∀ n, ax_ex (n + 5) (e + 2) L_X2_owedBy 7 [some (.inr (.inr (3, g0))), some (.inl v1), some (.inl v2), some (.inl v3)] [] m = ax_aft (fun s m2 => ax_ex n (e + 2) L_X2_owedBy 12 [some (.inr (.inr (3, g0))), some (.inl v1), some (.inl v2), some (.inl v3)] s m2) [.inl v2] (ax_ex n (e + 1) L_X2_of 0 (ax_entry [.inr (.inr (3, g0)), .inl v1, .inl v3] 3) [] m) := fun n => rfl
      refine ax_gci (j := 5) (k2 := 12) (lv2 := [some (.inr (.inr (3, g0))), some (.inl v1), some (.inl v2), some (.inl v3)]) (rest := [.inl v2]) ((R_X2_of (by omega) q3)) s5 ?_
      refine ax_go (j := 4) (k2 := 4) (lv2 := [some (.inr (.inr (3, g0))), some (.inl v1), some (.inl (v2 + r4)), some (.inl (v3 + 1))]) (st2 := []) (m2 := m) (fun n => rfl) ?_
      exact ax_fg (lv2 := [some (.inr (.inr (3, g0))), some (.inl v1), some (.inl (v2 + r4)), some (.inl (v3 + 1))]) ⟨rfl, rfl, rfl, rfl, trivial⟩ (ih (v2 + r4) (v3 + 1) _ h)
def F_X2_owedBy (m : ax_M) (g0 : Nat) (v1 : Int32) : Option Int32 := F_X2_owedBy_L4 ax_FU m g0 v1 0 0
set_option maxRecDepth 20000 in
set_option maxHeartbeats 4000000 in
theorem R_X2_owedBy {d : Nat} (hd : 2 ≤ d) {m : ax_M} {g0 : Nat} {v1 : Int32} {q : Int32} (h : F_X2_owedBy m g0 v1 = some q) : ax_Ru d L_X2_owedBy 0 (ax_entry [.inr (.inr (3, g0)), .inl v1] 4) [] m (some (.inl q), m) := by
  obtain ⟨e, rfl⟩ : ∃ e, d = e + 2 := ⟨d - 2, by omega⟩
  unfold F_X2_owedBy at h
  refine ax_go (j := 4) (k2 := 4) (lv2 := [some (.inr (.inr (3, g0))), some (.inl v1), some (.inl 0), some (.inl 0)]) (st2 := []) (m2 := m) (fun n => rfl) ?_
  refine ax_fg (lv2 := [some (.inr (.inr (3, g0))), some (.inl v1), some (.inl 0), some (.inl 0)]) ⟨rfl, rfl, rfl, rfl, trivial⟩ ?_
  refine R_X2_owedBy_L4 _ 0 0 _ h
def F_X2_shared_L11 : Nat → (Int32 → Option Int32) → ax_M → Nat → Int32 → Int32 → Int32 → Option Int32
  | 0, _, _, _, _, _, _ => none
  | n + 1, K28, m, g0, v1, v2, v3 => if 8 ≤ v3 then (K28 v1) else (ax_b (F_X2_of m g0 v2 v3) (fun r14 => ax_b (F_X2_of m g0 v3 v2) (fun r16 => F_X2_shared_L11 n K28 m g0 (v1 + (ax_min r14 r16)) v2 (v3 + 1))))
set_option maxRecDepth 20000 in
set_option maxHeartbeats 4000000 in
theorem R_X2_shared_L11 {e : Nat} {m : ax_M} {g0 : Nat} {v2 : Int32} {K28 : Int32 → Option Int32} (hK28 : ∀ (y1 : Int32) (q : Int32), K28 y1 = some q → ax_Ru (e + 6) L_X2_shared 28 [some (.inr (.inr (3, g0))), some (.inl y1), some (.inl v2), none] [] m (some (.inl q), m)) : ∀ (n : Nat) (v1 : Int32) (v3 : Int32) (q : Int32), F_X2_shared_L11 n K28 m g0 v1 v2 v3 = some q → ax_Ru (e + 6) L_X2_shared 11 [some (.inr (.inr (3, g0))), some (.inl v1), some (.inl v2), some (.inl v3)] [] m (some (.inl q), m) := by
  intro n
  induction n with
  | zero =>
    intro v1 v3 q h
    cases h
  | succ n ih =>
    intro v1 v3 q h
    rw [F_X2_shared_L11] at h
    have s12 : ∀ n, ax_ex (n + 3) (e + 6) L_X2_shared 11 [some (.inr (.inr (3, g0))), some (.inl v1), some (.inl v2), some (.inl v3)] [] m = if 8 ≤ v3 then ax_ex n (e + 6) L_X2_shared 28 [some (.inr (.inr (3, g0))), some (.inl v1), some (.inl v2), some (.inl v3)] [] m else ax_ex n (e + 6) L_X2_shared 14 [some (.inr (.inr (3, g0))), some (.inl v1), some (.inl v2), some (.inl v3)] [] m := fun n => rfl
    by_cases c11 : 8 ≤ v3
    · rw [if_pos c11] at h
      refine ax_gt c11 s12 ?_
      exact ax_fg (lv2 := [some (.inr (.inr (3, g0))), some (.inl v1), some (.inl v2), none]) ⟨rfl, rfl, rfl, trivial⟩ (hK28 v1 _ h)
    · rw [if_neg c11] at h
      refine ax_gf c11 s12 ?_
      obtain ⟨r14, q13, h⟩ := ax_b_of h
      have s18 : ∀ n, ax_ex (n + 5) (e + 6) L_X2_shared 14 [some (.inr (.inr (3, g0))), some (.inl v1), some (.inl v2), some (.inl v3)] [] m = ax_aft (fun s m2 => ax_ex n (e + 6) L_X2_shared 19 [some (.inr (.inr (3, g0))), some (.inl v1), some (.inl v2), some (.inl v3)] s m2) [.inl v1] (ax_ex n (e + 5) L_X2_of 0 (ax_entry [.inr (.inr (3, g0)), .inl v2, .inl v3] 3) [] m) := fun n => rfl
      refine ax_gci (j := 5) (k2 := 19) (lv2 := [some (.inr (.inr (3, g0))), some (.inl v1), some (.inl v2), some (.inl v3)]) (rest := [.inl v1]) ((R_X2_of (by omega) q13)) s18 ?_
      obtain ⟨r16, q15, h⟩ := ax_b_of h
      have s17 : ∀ n, ax_ex (n + 4) (e + 6) L_X2_shared 19 [some (.inr (.inr (3, g0))), some (.inl v1), some (.inl v2), some (.inl v3)] [.inl r14, .inl v1] m = ax_aft (fun s m2 => ax_ex n (e + 6) L_X2_shared 23 [some (.inr (.inr (3, g0))), some (.inl v1), some (.inl v2), some (.inl v3)] s m2) [.inl r14, .inl v1] (ax_ex n (e + 5) L_X2_of 0 (ax_entry [.inr (.inr (3, g0)), .inl v3, .inl v2] 3) [] m) := fun n => rfl
      refine ax_gci (j := 4) (k2 := 23) (lv2 := [some (.inr (.inr (3, g0))), some (.inl v1), some (.inl v2), some (.inl v3)]) (rest := [.inl r14, .inl v1]) ((R_X2_of (by omega) q15)) s17 ?_
      refine ax_go (j := 5) (k2 := 11) (lv2 := [some (.inr (.inr (3, g0))), some (.inl (v1 + (ax_min r14 r16))), some (.inl v2), some (.inl (v3 + 1))]) (st2 := []) (m2 := m) (fun n => rfl) ?_
      exact ax_fg (lv2 := [some (.inr (.inr (3, g0))), some (.inl (v1 + (ax_min r14 r16))), some (.inl v2), some (.inl (v3 + 1))]) ⟨rfl, rfl, rfl, rfl, trivial⟩ (ih (v1 + (ax_min r14 r16)) (v3 + 1) _ h)
def F_X2_shared_L4 : Nat → ax_M → Nat → Int32 → Int32 → Option Int32
  | 0, _, _, _, _ => none
  | n + 1, m, g0, v1, v2 => if 8 ≤ v2 then (some v1) else (F_X2_shared_L11 ax_FU (fun y19 => F_X2_shared_L4 n m g0 y19 (v2 + 1)) m g0 v1 v2 (v2 + 1))
set_option maxRecDepth 20000 in
set_option maxHeartbeats 4000000 in
theorem R_X2_shared_L4 {e : Nat} {m : ax_M} {g0 : Nat} : ∀ (n : Nat) (v1 : Int32) (v2 : Int32) (q : Int32), F_X2_shared_L4 n m g0 v1 v2 = some q → ax_Ru (e + 6) L_X2_shared 4 [some (.inr (.inr (3, g0))), some (.inl v1), some (.inl v2), none] [] m (some (.inl q), m) := by
  intro n
  induction n with
  | zero =>
    intro v1 v2 q h
    cases h
  | succ n ih =>
    intro v1 v2 q h
    rw [F_X2_shared_L4] at h
    have s2 : ∀ n, ax_ex (n + 3) (e + 6) L_X2_shared 4 [some (.inr (.inr (3, g0))), some (.inl v1), some (.inl v2), none] [] m = if 8 ≤ v2 then ax_ex n (e + 6) L_X2_shared 30 [some (.inr (.inr (3, g0))), some (.inl v1), some (.inl v2), none] [] m else ax_ex n (e + 6) L_X2_shared 7 [some (.inr (.inr (3, g0))), some (.inl v1), some (.inl v2), none] [] m := fun n => rfl
    by_cases c1 : 8 ≤ v2
    · rw [if_pos c1] at h
      refine ax_gt c1 s2 ?_
      cases h
      exact ax_rs 2 (fun n => rfl)
    · rw [if_neg c1] at h
      refine ax_gf c1 s2 ?_
      refine ax_go (j := 4) (k2 := 11) (lv2 := [some (.inr (.inr (3, g0))), some (.inl v1), some (.inl v2), some (.inl (v2 + 1))]) (st2 := []) (m2 := m) (fun n => rfl) ?_
      refine ax_fg (lv2 := [some (.inr (.inr (3, g0))), some (.inl v1), some (.inl v2), some (.inl (v2 + 1))]) ⟨rfl, rfl, rfl, rfl, trivial⟩ ?_
      refine R_X2_shared_L11 ?_ _ v1 (v2 + 1) _ h
      · intro y19 q h
        refine ax_go (j := 2) (k2 := 4) (lv2 := [some (.inr (.inr (3, g0))), some (.inl y19), some (.inl (v2 + 1)), none]) (st2 := []) (m2 := m) (fun n => rfl) ?_
        exact ax_fg (lv2 := [some (.inr (.inr (3, g0))), some (.inl y19), some (.inl (v2 + 1)), none]) ⟨rfl, rfl, rfl, trivial⟩ (ih y19 (v2 + 1) _ h)
def F_X2_shared (m : ax_M) (g0 : Nat) : Option Int32 := F_X2_shared_L4 ax_FU m g0 0 0
set_option maxRecDepth 20000 in
set_option maxHeartbeats 4000000 in
theorem R_X2_shared {d : Nat} (hd : 6 ≤ d) {m : ax_M} {g0 : Nat} {q : Int32} (h : F_X2_shared m g0 = some q) : ax_Ru d L_X2_shared 0 (ax_entry [.inr (.inr (3, g0))] 4) [] m (some (.inl q), m) := by
  obtain ⟨e, rfl⟩ : ∃ e, d = e + 6 := ⟨d - 6, by omega⟩
  unfold F_X2_shared at h
  refine ax_go (j := 4) (k2 := 4) (lv2 := [some (.inr (.inr (3, g0))), some (.inl 0), some (.inl 0), none]) (st2 := []) (m2 := m) (fun n => rfl) ?_
  refine ax_fg (lv2 := [some (.inr (.inr (3, g0))), some (.inl 0), some (.inl 0), none]) ⟨rfl, rfl, rfl, trivial⟩ ?_
  refine R_X2_shared_L4 _ 0 0 _ h
