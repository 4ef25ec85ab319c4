def F_X11_status_L12 : Nat → ax_M → Int32 → Int32 → Option Int32
  | 0, _, _, _ => none
  | n + 1, m, v2, v3 => if 64 ≤ v3 then (some v2) else (if ax_ok v3 64 = true then (if (m.1 23 0 v3.toNatClampNeg) = 0 then (F_X11_status_L12 n m v2 (v3 + 1)) else (F_X11_status_L12 n m (v2 + 1) (v3 + 1))) else (none))
set_option maxRecDepth 20000 in
set_option maxHeartbeats 4000000 in
theorem R_X11_status_L12 {e : Nat} {m : ax_M} : ∀ (n : Nat) (v2 : Int32) (v3 : Int32) (q : Int32), F_X11_status_L12 n m v2 v3 = some q → ax_Ru (e + 11) L_X11_status 12 [some (.inr (.inr (22, 0))), none, some (.inl v2), some (.inl v3)] [] m (some (.inl q), m) := by
  intro n
  induction n with
  | zero =>
    intro v2 v3 q h
    cases h
  | succ n ih =>
    intro v2 v3 q h
    rw [F_X11_status_L12] at h
    have s6 : ∀ n, ax_ex (e + 11) L_X11_status 12 [some (.inr (.inr (22, 0))), none, some (.inl v2), some (.inl v3)] [] m (n + 3) = if 64 ≤ v3 then ax_ex (e + 11) L_X11_status 23 [some (.inr (.inr (22, 0))), none, some (.inl v2), some (.inl v3)] [] m n else ax_ex (e + 11) L_X11_status 15 [some (.inr (.inr (22, 0))), none, some (.inl v2), some (.inl v3)] [] m n := fun n => rfl
    by_cases c5 : 64 ≤ v3
    · rw [if_pos c5] at h
      refine ax_gt c5 s6 ?_
      obtain rfl := Option.some.inj h
      exact ax_rs 2 (fun n => rfl)
    · rw [if_neg c5] at h
      refine ax_gf c5 s6 ?_
      have s8 : ∀ n, ax_ex (e + 11) L_X11_status 15 [some (.inr (.inr (22, 0))), none, some (.inl v2), some (.inl v3)] [] m (n + 4) = if ax_ok v3 64 = true then ax_ex (e + 11) L_X11_status 19 [some (.inr (.inr (22, 0))), none, some (.inl v2), some (.inl v3)] [.inl (m.1 23 0 v3.toNatClampNeg)] m n else none := fun n => rfl
      by_cases c7 : ax_ok v3 64 = true
      · rw [if_pos c7] at h
        refine ax_gt c7 s8 ?_
        have s10 : ∀ n, ax_ex (e + 11) L_X11_status 19 [some (.inr (.inr (22, 0))), none, some (.inl v2), some (.inl v3)] [.inl (m.1 23 0 v3.toNatClampNeg)] m (n + 1) = if (m.1 23 0 v3.toNatClampNeg) = 0 then ax_ex (e + 11) L_X11_status 21 [some (.inr (.inr (22, 0))), none, some (.inl v2), some (.inl v3)] [] m n else ax_ex (e + 11) L_X11_status 20 [some (.inr (.inr (22, 0))), none, some (.inl v2), some (.inl v3)] [] m n := fun n => rfl
        by_cases c9 : (m.1 23 0 v3.toNatClampNeg) = 0
        · rw [if_pos c9] at h
          refine ax_gt c9 s10 ?_
          refine ax_go (j := 2) (k2 := 12) (lv2 := [some (.inr (.inr (22, 0))), none, some (.inl v2), some (.inl (v3 + 1))]) (st2 := []) (m2 := m) (fun n => rfl) ?_
          exact ax_fg (lv2 := [some (.inr (.inr (22, 0))), none, some (.inl v2), some (.inl (v3 + 1))]) ⟨rfl, rfl, rfl, trivial⟩ (ih v2 (v3 + 1) _ h)
        · rw [if_neg c9] at h
          refine ax_gf c9 s10 ?_
          refine ax_go (j := 3) (k2 := 12) (lv2 := [some (.inr (.inr (22, 0))), none, some (.inl (v2 + 1)), some (.inl (v3 + 1))]) (st2 := []) (m2 := m) (fun n => rfl) ?_
          exact ax_fg (lv2 := [some (.inr (.inr (22, 0))), none, some (.inl (v2 + 1)), some (.inl (v3 + 1))]) ⟨rfl, rfl, rfl, trivial⟩ (ih (v2 + 1) (v3 + 1) _ h)
      · rw [if_neg c7] at h
        cases h
def F_X11_status_L27 : Nat → ax_M → Int32 → Int32 → Option Int32
  | 0, _, _, _ => none
  | n + 1, m, v2, v3 => if (m.1 22 0 1) ≤ v3 then (some v2) else (ax_b (F_X11_allOwed m v3) (fun r16 => F_X11_status_L27 n m (v2 + r16) (v3 + 1)))
set_option maxRecDepth 20000 in
set_option maxHeartbeats 4000000 in
theorem R_X11_status_L27 {e : Nat} {m : ax_M} : ∀ (n : Nat) (v2 : Int32) (v3 : Int32) (q : Int32), F_X11_status_L27 n m v2 v3 = some q → ax_Ru (e + 11) L_X11_status 27 [some (.inr (.inr (22, 0))), none, some (.inl v2), some (.inl v3)] [] m (some (.inl q), m) := by
  intro n
  induction n with
  | zero =>
    intro v2 v3 q h
    cases h
  | succ n ih =>
    intro v2 v3 q h
    rw [F_X11_status_L27] at h
    have s14 : ∀ n, ax_ex (e + 11) L_X11_status 27 [some (.inr (.inr (22, 0))), none, some (.inl v2), some (.inl v3)] [] m (n + 4) = if (m.1 22 0 1) ≤ v3 then ax_ex (e + 11) L_X11_status 39 [some (.inr (.inr (22, 0))), none, some (.inl v2), some (.inl v3)] [] m n else ax_ex (e + 11) L_X11_status 31 [some (.inr (.inr (22, 0))), none, some (.inl v2), some (.inl v3)] [] m n := fun n => rfl
    by_cases c13 : (m.1 22 0 1) ≤ v3
    · rw [if_pos c13] at h
      refine ax_gt c13 s14 ?_
      obtain rfl := Option.some.inj h
      exact ax_rs 2 (fun n => rfl)
    · rw [if_neg c13] at h
      refine ax_gf c13 s14 ?_
      obtain ⟨r16, q15, h⟩ := ax_b_of h
      have s17 : ∀ n, ax_ex (e + 11) L_X11_status 31 [some (.inr (.inr (22, 0))), none, some (.inl v2), some (.inl v3)] [] m (n + 4) = ax_aft (fun s m2 => ax_ex (e + 11) L_X11_status 35 [some (.inr (.inr (22, 0))), none, some (.inl v2), some (.inl v3)] s m2 n) [.inl v2] (ax_ex (e + 10) L_X11_allOwed 0 (ax_entry [.inr (.inr (22, 0)), .inl v3] 4) [] m n) := fun n => rfl
      refine ax_gci (j := 4) (k2 := 35) (lv2 := [some (.inr (.inr (22, 0))), none, some (.inl v2), some (.inl v3)]) (rest := [.inl v2]) ((R_X11_allOwed (by omega) q15)) s17 ?_
      refine ax_go (j := 4) (k2 := 27) (lv2 := [some (.inr (.inr (22, 0))), none, some (.inl (v2 + r16)), some (.inl (v3 + 1))]) (st2 := []) (m2 := m) (fun n => rfl) ?_
      exact ax_fg (lv2 := [some (.inr (.inr (22, 0))), none, some (.inl (v2 + r16)), some (.inl (v3 + 1))]) ⟨rfl, rfl, rfl, trivial⟩ (ih (v2 + r16) (v3 + 1) _ h)
def F_X11_status_L57 : Nat → ax_M → Int32 → Int32 → Option Int32
  | 0, _, _, _ => none
  | n + 1, m, v2, v3 => if 8 ≤ v3 then (some v2) else (if ax_ok v3 8 = true then (if (m.1 31 0 v3.toNatClampNeg) = (-1) then (F_X11_status_L57 n m v2 (v3 + 1)) else (F_X11_status_L57 n m (v2 + 1) (v3 + 1))) else (none))
set_option maxRecDepth 20000 in
set_option maxHeartbeats 4000000 in
theorem R_X11_status_L57 {e : Nat} {m : ax_M} : ∀ (n : Nat) (v2 : Int32) (v3 : Int32) (q : Int32), F_X11_status_L57 n m v2 v3 = some q → ax_Ru (e + 11) L_X11_status 57 [some (.inr (.inr (22, 0))), none, some (.inl v2), some (.inl v3)] [] m (some (.inl q), m) := by
  intro n
  induction n with
  | zero =>
    intro v2 v3 q h
    cases h
  | succ n ih =>
    intro v2 v3 q h
    rw [F_X11_status_L57] at h
    have s34 : ∀ n, ax_ex (e + 11) L_X11_status 57 [some (.inr (.inr (22, 0))), none, some (.inl v2), some (.inl v3)] [] m (n + 3) = if 8 ≤ v3 then ax_ex (e + 11) L_X11_status 69 [some (.inr (.inr (22, 0))), none, some (.inl v2), some (.inl v3)] [] m n else ax_ex (e + 11) L_X11_status 60 [some (.inr (.inr (22, 0))), none, some (.inl v2), some (.inl v3)] [] m n := fun n => rfl
    by_cases c33 : 8 ≤ v3
    · rw [if_pos c33] at h
      refine ax_gt c33 s34 ?_
      obtain rfl := Option.some.inj h
      exact ax_rs 2 (fun n => rfl)
    · rw [if_neg c33] at h
      refine ax_gf c33 s34 ?_
      have s36 : ∀ n, ax_ex (e + 11) L_X11_status 60 [some (.inr (.inr (22, 0))), none, some (.inl v2), some (.inl v3)] [] m (n + 4) = if ax_ok v3 8 = true then ax_ex (e + 11) L_X11_status 64 [some (.inr (.inr (22, 0))), none, some (.inl v2), some (.inl v3)] [.inl (m.1 31 0 v3.toNatClampNeg)] m n else none := fun n => rfl
      by_cases c35 : ax_ok v3 8 = true
      · rw [if_pos c35] at h
        refine ax_gt c35 s36 ?_
        have s38 : ∀ n, ax_ex (e + 11) L_X11_status 64 [some (.inr (.inr (22, 0))), none, some (.inl v2), some (.inl v3)] [.inl (m.1 31 0 v3.toNatClampNeg)] m (n + 2) = if (m.1 31 0 v3.toNatClampNeg) = (-1) then ax_ex (e + 11) L_X11_status 67 [some (.inr (.inr (22, 0))), none, some (.inl v2), some (.inl v3)] [] m n else ax_ex (e + 11) L_X11_status 66 [some (.inr (.inr (22, 0))), none, some (.inl v2), some (.inl v3)] [] m n := fun n => rfl
        by_cases c37 : (m.1 31 0 v3.toNatClampNeg) = (-1)
        · rw [if_pos c37] at h
          refine ax_gt c37 s38 ?_
          refine ax_go (j := 2) (k2 := 57) (lv2 := [some (.inr (.inr (22, 0))), none, some (.inl v2), some (.inl (v3 + 1))]) (st2 := []) (m2 := m) (fun n => rfl) ?_
          exact ax_fg (lv2 := [some (.inr (.inr (22, 0))), none, some (.inl v2), some (.inl (v3 + 1))]) ⟨rfl, rfl, rfl, trivial⟩ (ih v2 (v3 + 1) _ h)
        · rw [if_neg c37] at h
          refine ax_gf c37 s38 ?_
          refine ax_go (j := 3) (k2 := 57) (lv2 := [some (.inr (.inr (22, 0))), none, some (.inl (v2 + 1)), some (.inl (v3 + 1))]) (st2 := []) (m2 := m) (fun n => rfl) ?_
          exact ax_fg (lv2 := [some (.inr (.inr (22, 0))), none, some (.inl (v2 + 1)), some (.inl (v3 + 1))]) ⟨rfl, rfl, rfl, trivial⟩ (ih (v2 + 1) (v3 + 1) _ h)
      · rw [if_neg c35] at h
        cases h
def F_X11_status (m : ax_M) (v1 : Int32) : Option Int32 := if v1 = 0 then (some (m.1 22 0 1)) else (if v1 = 1 then (some (m.1 22 0 4)) else (if v1 = 2 then (F_X11_status_L12 ax_FU m 0 0) else (if v1 = 3 then (F_X11_status_L27 ax_FU m 0 0) else (if v1 = 4 then (ax_b (F_X11_upOf m (-1)) (fun r21 => ax_b (F_J6_bitCount_0f7a4 r21) (fun r23 => some r23))) else (if v1 = 5 then (ax_b (F_X11_owing m) (fun r28 => some r28)) else (if v1 = 6 then (some (m.1 22 0 10)) else (if v1 = 7 then (some (m.1 22 0 9)) else (if v1 = 8 then (F_X11_status_L57 ax_FU m 0 0) else (ax_b (F_X11_within v1 12 16) (fun r41 => if r41 = 0 then (some (-1)) else (if ax_ok (v1 - 10) 7 = true then (some (m.1 34 0 (v1 - 10).toNatClampNeg)) else (none))))))))))))
set_option maxRecDepth 20000 in
set_option maxHeartbeats 4000000 in
theorem R_X11_status {d : Nat} (hd : 11 ≤ d) {m : ax_M} {v1 : Int32} {q : Int32} (h : F_X11_status m v1 = some q) : ax_Ru d L_X11_status 0 (ax_entry [.inr (.inr (22, 0)), .inl v1] 4) [] m (some (.inl q), m) := by
  obtain ⟨e, rfl⟩ : ∃ e, d = e + 11 := ⟨d - 11, by omega⟩
  unfold F_X11_status at h
  have s1 : ∀ n, ax_ex (e + 11) L_X11_status 0 (ax_entry [.inr (.inr (22, 0)), .inl v1] 4) [] m (n + 4) = (if v1 = 0 then ax_ex (e + 11) L_X11_status 4 [some (.inr (.inr (22, 0))), some (.inl v1), some (.inl 0), none] [] m n else (if v1 = 1 then ax_ex (e + 11) L_X11_status 7 [some (.inr (.inr (22, 0))), some (.inl v1), some (.inl 0), none] [] m n else (if v1 = 2 then ax_ex (e + 11) L_X11_status 10 [some (.inr (.inr (22, 0))), some (.inl v1), some (.inl 0), none] [] m n else (if v1 = 3 then ax_ex (e + 11) L_X11_status 25 [some (.inr (.inr (22, 0))), some (.inl v1), some (.inl 0), none] [] m n else (if v1 = 4 then ax_ex (e + 11) L_X11_status 41 [some (.inr (.inr (22, 0))), some (.inl v1), some (.inl 0), none] [] m n else (if v1 = 5 then ax_ex (e + 11) L_X11_status 46 [some (.inr (.inr (22, 0))), some (.inl v1), some (.inl 0), none] [] m n else (if v1 = 6 then ax_ex (e + 11) L_X11_status 49 [some (.inr (.inr (22, 0))), some (.inl v1), some (.inl 0), none] [] m n else (if v1 = 7 then ax_ex (e + 11) L_X11_status 52 [some (.inr (.inr (22, 0))), some (.inl v1), some (.inl 0), none] [] m n else (if v1 = 8 then ax_ex (e + 11) L_X11_status 55 [some (.inr (.inr (22, 0))), some (.inl v1), some (.inl 0), none] [] m n else ax_ex (e + 11) L_X11_status 71 [some (.inr (.inr (22, 0))), some (.inl v1), some (.inl 0), none] [] m n))))))))) := fun n => rfl
  by_cases c2 : v1 = 0
  · rw [if_pos c2] at h
    refine ax_go (j := 4) (k2 := 4) (lv2 := [some (.inr (.inr (22, 0))), some (.inl v1), some (.inl 0), none]) (st2 := []) (m2 := m) (fun n => (s1 n).trans (if_pos c2)) ?_
    obtain rfl := Option.some.inj h
    exact ax_rs 3 (fun n => rfl)
  · rw [if_neg c2] at h
    by_cases c3 : v1 = 1
    · rw [if_pos c3] at h
      refine ax_go (j := 4) (k2 := 7) (lv2 := [some (.inr (.inr (22, 0))), some (.inl v1), some (.inl 0), none]) (st2 := []) (m2 := m) (fun n => ((s1 n).trans (if_neg c2)).trans (if_pos c3)) ?_
      obtain rfl := Option.some.inj h
      exact ax_rs 3 (fun n => rfl)
    · rw [if_neg c3] at h
      by_cases c4 : v1 = 2
      · rw [if_pos c4] at h
        refine ax_go (j := 4) (k2 := 10) (lv2 := [some (.inr (.inr (22, 0))), some (.inl v1), some (.inl 0), none]) (st2 := []) (m2 := m) (fun n => (((s1 n).trans (if_neg c2)).trans (if_neg c3)).trans (if_pos c4)) ?_
        refine ax_go (j := 2) (k2 := 12) (lv2 := [some (.inr (.inr (22, 0))), some (.inl v1), some (.inl 0), some (.inl 0)]) (st2 := []) (m2 := m) (fun n => rfl) ?_
        refine ax_fg (lv2 := [some (.inr (.inr (22, 0))), none, some (.inl 0), some (.inl 0)]) ⟨rfl, rfl, rfl, trivial⟩ ?_
        refine R_X11_status_L12 _ 0 0 _ h
      · rw [if_neg c4] at h
        by_cases c12 : v1 = 3
        · rw [if_pos c12] at h
          refine ax_go (j := 4) (k2 := 25) (lv2 := [some (.inr (.inr (22, 0))), some (.inl v1), some (.inl 0), none]) (st2 := []) (m2 := m) (fun n => ((((s1 n).trans (if_neg c2)).trans (if_neg c3)).trans (if_neg c4)).trans (if_pos c12)) ?_
          refine ax_go (j := 2) (k2 := 27) (lv2 := [some (.inr (.inr (22, 0))), some (.inl v1), some (.inl 0), some (.inl 0)]) (st2 := []) (m2 := m) (fun n => rfl) ?_
          refine ax_fg (lv2 := [some (.inr (.inr (22, 0))), none, some (.inl 0), some (.inl 0)]) ⟨rfl, rfl, rfl, trivial⟩ ?_
          refine R_X11_status_L27 _ 0 0 _ h
        · rw [if_neg c12] at h
          by_cases c19 : v1 = 4
          · rw [if_pos c19] at h
            refine ax_go (j := 4) (k2 := 41) (lv2 := [some (.inr (.inr (22, 0))), some (.inl v1), some (.inl 0), none]) (st2 := []) (m2 := m) (fun n => (((((s1 n).trans (if_neg c2)).trans (if_neg c3)).trans (if_neg c4)).trans (if_neg c12)).trans (if_pos c19)) ?_
            obtain ⟨r21, q20, h⟩ := ax_b_of h
            have s25 : ∀ n, ax_ex (e + 11) L_X11_status 41 [some (.inr (.inr (22, 0))), some (.inl v1), some (.inl 0), none] [] m (n + 3) = ax_aft (fun s m2 => ax_ex (e + 11) L_X11_status 44 [some (.inr (.inr (22, 0))), some (.inl v1), some (.inl 0), none] s m2 n) [] (ax_ex (e + 10) L_X11_upOf 0 (ax_entry [.inr (.inr (22, 0)), .inl (-1)] 4) [] m n) := fun n => rfl
            refine ax_gci (j := 3) (k2 := 44) (lv2 := [some (.inr (.inr (22, 0))), some (.inl v1), some (.inl 0), none]) (rest := []) ((R_X11_upOf (by omega) q20)) s25 ?_
            obtain ⟨r23, q22, h⟩ := ax_b_of h
            have s24 : ∀ n, ax_ex (e + 11) L_X11_status 44 [some (.inr (.inr (22, 0))), some (.inl v1), some (.inl 0), none] [.inl r21] m (n + 1) = ax_aft (fun s m2 => ax_ex (e + 11) L_X11_status 45 [some (.inr (.inr (22, 0))), some (.inl v1), some (.inl 0), none] s m2 n) [] (ax_ex (e + 10) L_J6_bitCount_0f7a4 0 (ax_entry [.inl r21] 1) [] m n) := fun n => rfl
            refine ax_gci (j := 1) (k2 := 45) (lv2 := [some (.inr (.inr (22, 0))), some (.inl v1), some (.inl 0), none]) (rest := []) ((R_J6_bitCount_0f7a4 (by omega) q22)) s24 ?_
            obtain rfl := Option.some.inj h
            exact ax_rs 1 (fun n => rfl)
          · rw [if_neg c19] at h
            by_cases c26 : v1 = 5
            · rw [if_pos c26] at h
              refine ax_go (j := 4) (k2 := 46) (lv2 := [some (.inr (.inr (22, 0))), some (.inl v1), some (.inl 0), none]) (st2 := []) (m2 := m) (fun n => ((((((s1 n).trans (if_neg c2)).trans (if_neg c3)).trans (if_neg c4)).trans (if_neg c12)).trans (if_neg c19)).trans (if_pos c26)) ?_
              obtain ⟨r28, q27, h⟩ := ax_b_of h
              have s29 : ∀ n, ax_ex (e + 11) L_X11_status 46 [some (.inr (.inr (22, 0))), some (.inl v1), some (.inl 0), none] [] m (n + 2) = ax_aft (fun s m2 => ax_ex (e + 11) L_X11_status 48 [some (.inr (.inr (22, 0))), some (.inl v1), some (.inl 0), none] s m2 n) [] (ax_ex (e + 10) L_X11_owing 0 (ax_entry [.inr (.inr (22, 0))] 3) [] m n) := fun n => rfl
              refine ax_gci (j := 2) (k2 := 48) (lv2 := [some (.inr (.inr (22, 0))), some (.inl v1), some (.inl 0), none]) (rest := []) ((R_X11_owing (by omega) q27)) s29 ?_
              obtain rfl := Option.some.inj h
              exact ax_rs 1 (fun n => rfl)
            · rw [if_neg c26] at h
              by_cases c30 : v1 = 6
              · rw [if_pos c30] at h
                refine ax_go (j := 4) (k2 := 49) (lv2 := [some (.inr (.inr (22, 0))), some (.inl v1), some (.inl 0), none]) (st2 := []) (m2 := m) (fun n => (((((((s1 n).trans (if_neg c2)).trans (if_neg c3)).trans (if_neg c4)).trans (if_neg c12)).trans (if_neg c19)).trans (if_neg c26)).trans (if_pos c30)) ?_
                obtain rfl := Option.some.inj h
                exact ax_rs 3 (fun n => rfl)
              · rw [if_neg c30] at h
                by_cases c31 : v1 = 7
                · rw [if_pos c31] at h
                  refine ax_go (j := 4) (k2 := 52) (lv2 := [some (.inr (.inr (22, 0))), some (.inl v1), some (.inl 0), none]) (st2 := []) (m2 := m) (fun n => ((((((((s1 n).trans (if_neg c2)).trans (if_neg c3)).trans (if_neg c4)).trans (if_neg c12)).trans (if_neg c19)).trans (if_neg c26)).trans (if_neg c30)).trans (if_pos c31)) ?_
                  obtain rfl := Option.some.inj h
                  exact ax_rs 3 (fun n => rfl)
                · rw [if_neg c31] at h
                  by_cases c32 : v1 = 8
                  · rw [if_pos c32] at h
                    refine ax_go (j := 4) (k2 := 55) (lv2 := [some (.inr (.inr (22, 0))), some (.inl v1), some (.inl 0), none]) (st2 := []) (m2 := m) (fun n => (((((((((s1 n).trans (if_neg c2)).trans (if_neg c3)).trans (if_neg c4)).trans (if_neg c12)).trans (if_neg c19)).trans (if_neg c26)).trans (if_neg c30)).trans (if_neg c31)).trans (if_pos c32)) ?_
                    refine ax_go (j := 2) (k2 := 57) (lv2 := [some (.inr (.inr (22, 0))), some (.inl v1), some (.inl 0), some (.inl 0)]) (st2 := []) (m2 := m) (fun n => rfl) ?_
                    refine ax_fg (lv2 := [some (.inr (.inr (22, 0))), none, some (.inl 0), some (.inl 0)]) ⟨rfl, rfl, rfl, trivial⟩ ?_
                    refine R_X11_status_L57 _ 0 0 _ h
                  · rw [if_neg c32] at h
                    refine ax_go (j := 4) (k2 := 71) (lv2 := [some (.inr (.inr (22, 0))), some (.inl v1), some (.inl 0), none]) (st2 := []) (m2 := m) (fun n => ((((((((((s1 n).trans (if_neg c2)).trans (if_neg c3)).trans (if_neg c4)).trans (if_neg c12)).trans (if_neg c19)).trans (if_neg c26)).trans (if_neg c30)).trans (if_neg c31)).trans (if_neg c32))) ?_
                    obtain ⟨r41, q40, h⟩ := ax_b_of h
                    have s47 : ∀ n, ax_ex (e + 11) L_X11_status 71 [some (.inr (.inr (22, 0))), some (.inl v1), some (.inl 0), none] [] m (n + 4) = ax_aft (fun s m2 => ax_ex (e + 11) L_X11_status 75 [some (.inr (.inr (22, 0))), some (.inl v1), some (.inl 0), none] s m2 n) [] (ax_ex (e + 10) L_X11_within 0 (ax_entry [.inl v1, .inl 12, .inl 16] 3) [] m n) := fun n => rfl
                    refine ax_gci (j := 4) (k2 := 75) (lv2 := [some (.inr (.inr (22, 0))), some (.inl v1), some (.inl 0), none]) (rest := []) ((R_X11_within (by omega) q40)) s47 ?_
                    have s43 : ∀ n, ax_ex (e + 11) L_X11_status 75 [some (.inr (.inr (22, 0))), some (.inl v1), some (.inl 0), none] [.inl r41] m (n + 1) = if r41 = 0 then ax_ex (e + 11) L_X11_status 83 [some (.inr (.inr (22, 0))), some (.inl v1), some (.inl 0), none] [] m n else ax_ex (e + 11) L_X11_status 76 [some (.inr (.inr (22, 0))), some (.inl v1), some (.inl 0), none] [] m n := fun n => rfl
                    by_cases c42 : r41 = 0
                    · rw [if_pos c42] at h
                      refine ax_gt c42 s43 ?_
                      obtain rfl := Option.some.inj h
                      exact ax_rs 2 (fun n => rfl)
                    · rw [if_neg c42] at h
                      refine ax_gf c42 s43 ?_
                      refine ax_go (j := 5) (k2 := 81) (lv2 := [some (.inr (.inr (22, 0))), some (.inl v1), some (.inl 0), none]) (st2 := [.inl (v1 - 10), .inr (.inr (34, 0))]) (m2 := m) (fun n => rfl) ?_
                      obtain ⟨y44, hy44⟩ : ∃ y : Int32, y = (v1 - 10) := ⟨_, rfl⟩
                      rw [← hy44] at h ⊢
                      have s46 : ∀ n, ax_ex (e + 11) L_X11_status 81 [some (.inr (.inr (22, 0))), some (.inl v1), some (.inl 0), none] [.inl y44, .inr (.inr (34, 0))] m (n + 1) = if ax_ok y44 7 = true then ax_ex (e + 11) L_X11_status 82 [some (.inr (.inr (22, 0))), some (.inl v1), some (.inl 0), none] [.inl (m.1 34 0 y44.toNatClampNeg)] m n else none := fun n => rfl
                      by_cases c45 : ax_ok y44 7 = true
                      · rw [if_pos c45] at h
                        refine ax_gt c45 s46 ?_
                        obtain rfl := Option.some.inj h
                        exact ax_rs 2 (fun n => rfl)
                      · rw [if_neg c45] at h
                        cases h
