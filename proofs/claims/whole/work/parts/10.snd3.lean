/-! THE STEP: soundness of one instruction -/
theorem ax_gi {Ts : List Jvm.Cond} (hTs : ∀ w ∈ ax_W, w ∈ Ts) (ws : List Jvm.Cond) (h : ∀ w ∈ ws, w ∈ ax_W) : GoodIn Ts ws := fun w hw => ⟨hTs w (h w hw), good_of_word (List.all_eq_true.mp ax_W_good w (h w hw))⟩
theorem ax_gc {Ts : List Jvm.Cond} (hTs : ∀ w ∈ ax_W, w ∈ Ts) {r : ax_IR} (h : ax_wC r ∈ ax_W) : GoodIn Ts (ax_wC r :: ax_W) := ax_gi hTs _ (fun w hw => by
  rcases List.mem_cons.mp hw with e | e
  · rw [e]; exact h
  · exact e)
theorem ax_inM {q : Nat × (Nat × Nat)} (h : q ∈ ax_ml) : ax_wM q ∈ ax_W := by
  have h1 : ax_wM q ∈ ax_W2 := List.mem_map.mpr ⟨q, h, rfl⟩
  unfold ax_W
  simp only [List.mem_append]
  exact Or.inr (Or.inl h1)
theorem ax_inA {q : Nat × (Nat × Nat)} (h : q ∈ ax_ma) : ax_wA q ∈ ax_W := by
  have h1 : ax_wA q ∈ ax_W6 := List.mem_map.mpr ⟨q, h, rfl⟩
  unfold ax_W
  simp only [List.mem_append]
  exact Or.inr (Or.inr (Or.inr (Or.inr (Or.inr (Or.inl h1)))))
theorem ax_in7 {w : Jvm.Cond} (h : w ∈ ax_W7) : w ∈ ax_W := by
  unfold ax_W
  simp only [List.mem_append]
  exact Or.inr (Or.inr (Or.inr (Or.inr (Or.inr (Or.inr (Or.inl h))))))
theorem ax_inD {w : Jvm.Cond} (h : w ∈ ax_WD) : w ∈ ax_W := by
  unfold ax_W
  simp only [List.mem_append]
  exact Or.inr (Or.inr (Or.inr (Or.inr (Or.inr (Or.inr (Or.inr (Or.inr (Or.inr h))))))))
theorem ax_inK {q : Nat × (Nat × Int32)} (h : q ∈ ax_kc) : ax_wK q ∈ ax_W := by
  have h1 : ax_wK q ∈ ax_W4 := List.mem_append_left _ (List.mem_map.mpr ⟨q, h, rfl⟩)
  unfold ax_W
  simp only [List.mem_append]
  exact Or.inr (Or.inr (Or.inr (Or.inl h1)))
theorem ax_inL {q : Nat × (Nat × Int64)} (h : q ∈ ax_kl) : ax_wL q ∈ ax_W := by
  have h1 : ax_wL q ∈ ax_W4 := List.mem_append_right _ (List.mem_map.mpr ⟨q, h, rfl⟩)
  unfold ax_W
  simp only [List.mem_append]
  exact Or.inr (Or.inr (Or.inr (Or.inl h1)))
theorem ax_inS {q : Nat × (Nat × Nat)} (h : q ∈ ax_sl) : ax_wS q ∈ ax_W := by
  have h1 : ax_wS q ∈ ax_W5 := List.mem_map.mpr ⟨q, h, rfl⟩
  unfold ax_W
  simp only [List.mem_append]
  exact Or.inr (Or.inr (Or.inr (Or.inr (Or.inl h1))))
theorem ax_row_mem {mt : Nat} {r : ax_IR} (h : ax_row mt = some r) : ∃ l ∈ ax_II, r ∈ l := by
  unfold ax_row at h
  cases h3 : ax_nth ax_II (mt / 16) with
  | none => rw [h3] at h; cases h
  | some l =>
    rw [h3] at h
    rw [ax_nth_eq] at h3
    have h4 : ax_nth l (mt % 16) = some r := h
    rw [ax_nth_eq] at h4
    exact ⟨l, List.mem_of_getElem? h3, List.mem_of_getElem? h4⟩
theorem ax_row_I {mt : Nat} {r : ax_IR} (h : ax_row mt = some r) : ∀ w ∈ ax_wI r, w ∈ ax_W := by
  obtain ⟨l, h1, h2⟩ := ax_row_mem h
  intro w hw
  have h3 : w ∈ ax_W3 := List.mem_flatMap.mpr ⟨l, h1, List.mem_flatMap.mpr ⟨r, h2, hw⟩⟩
  unfold ax_W
  simp only [List.mem_append]
  exact Or.inr (Or.inr (Or.inl h3))
theorem ax_row_C {mt : Nat} {r : ax_IR} (h : ax_row mt = some r) : ax_wC r ∈ ax_W := by
  obtain ⟨l, h1, h2⟩ := ax_row_mem h
  have h3 : ax_wC r ∈ ax_WC := List.mem_flatMap.mpr ⟨l, h1, List.mem_map.mpr ⟨r, h2, rfl⟩⟩
  unfold ax_W
  simp only [List.mem_append]
  exact Or.inr (Or.inr (Or.inr (Or.inr (Or.inr (Or.inr (Or.inr (Or.inr (Or.inl h3))))))))
theorem ax_pops_of : ∀ (n : Nat) (acc st a r : List ax_V), ax_pops n acc st = some (a, r) → ∃ t : List ax_V, t.length = n ∧ st = t ++ r ∧ a = t.reverse ++ acc
  | 0, acc, st, a, r, h => by
    simp only [ax_pops, Option.some.injEq, Prod.mk.injEq] at h
    obtain ⟨rfl, rfl⟩ := h
    exact ⟨[], rfl, rfl, rfl⟩
  | n + 1, acc, [], a, r, h => by simp [ax_pops] at h
  | n + 1, acc, v :: st, a, r, h => by
    simp only [ax_pops] at h
    obtain ⟨t, h1, h2, h3⟩ := ax_pops_of n (v :: acc) st a r h
    exact ⟨v :: t, by simp [h1], by simp [h2], by simp [h3]⟩
theorem ax_rt1 {r : Option FieldType} (h : ax_rtc r = 1) : r = some .int := by
  unfold ax_rtc at h
  split at h <;> first | rfl | (exfalso; revert h; decide)
theorem ax_rt2 {r : Option FieldType} (h : ax_rtc r = 2) : r = some .boolean := by
  unfold ax_rtc at h
  split at h <;> first | rfl | (exfalso; revert h; decide)
theorem ax_rt3 {r : Option FieldType} (h : ax_rtc r = 3) : r = some .long := by
  unfold ax_rtc at h
  split at h <;> first | rfl | (exfalso; revert h; decide)
theorem ax_rt0 {r : Option FieldType} (h : ax_rtc r = 0) : r = none := by
  unfold ax_rtc at h
  split at h <;> first | rfl | (exfalso; revert h; decide)
theorem ax_inv_i {F : Int32 → List ax_V → Option ax_R} {st : List ax_V} {res : ax_R} (h : (match st with
    | .inl x :: r => F x r
    | _ => none) = some res) : ∃ x r, st = .inl x :: r ∧ F x r = some res := by
  split at h
  · exact ⟨_, _, rfl, h⟩
  · cases h
theorem ax_inv_ii {F : Int32 → Int32 → List ax_V → Option ax_R} {st : List ax_V} {res : ax_R} (h : (match st with
    | .inl y :: .inl x :: r => F y x r
    | _ => none) = some res) : ∃ y x r, st = .inl y :: .inl x :: r ∧ F y x r = some res := by
  split at h
  · exact ⟨_, _, _, rfl, h⟩
  · cases h
theorem ax_inv_l {F : Int64 → List ax_V → Option ax_R} {st : List ax_V} {res : ax_R} (h : (match st with
    | .inr (.inl x) :: r => F x r
    | _ => none) = some res) : ∃ x r, st = .inr (.inl x) :: r ∧ F x r = some res := by
  split at h
  · exact ⟨_, _, rfl, h⟩
  · cases h
theorem ax_inv_ll {F : Int64 → Int64 → List ax_V → Option ax_R} {st : List ax_V} {res : ax_R} (h : (match st with
    | .inr (.inl y) :: .inr (.inl x) :: r => F y x r
    | _ => none) = some res) : ∃ y x r, st = .inr (.inl y) :: .inr (.inl x) :: r ∧ F y x r = some res := by
  split at h
  · exact ⟨_, _, _, rfl, h⟩
  · cases h
theorem ax_inv_il {F : Int32 → Int64 → List ax_V → Option ax_R} {st : List ax_V} {res : ax_R} (h : (match st with
    | .inl y :: .inr (.inl x) :: r => F y x r
    | _ => none) = some res) : ∃ y x r, st = .inl y :: .inr (.inl x) :: r ∧ F y x r = some res := by
  split at h
  · exact ⟨_, _, _, rfl, h⟩
  · cases h
theorem ax_inv_a {F : (Nat × Nat) → List ax_V → Option ax_R} {st : List ax_V} {res : ax_R} (h : (match st with
    | .inr (.inr x) :: r => F x r
    | _ => none) = some res) : ∃ x r, st = .inr (.inr x) :: r ∧ F x r = some res := by
  split at h
  · exact ⟨_, _, rfl, h⟩
  · cases h
theorem ax_inv_ld {F : ax_V → Option ax_R} {v : Option (Option ax_V)} {res : ax_R} (h : (match v with
    | some (some (.inl x)) => F (.inl x)
    | _ => none) = some res) : ∃ x, v = some (some (.inl x)) ∧ F (.inl x) = some res := by
  split at h
  · exact ⟨_, rfl, h⟩
  · cases h
theorem ax_inv_ldl {F : ax_V → Option ax_R} {v : Option (Option ax_V)} {res : ax_R} (h : (match v with
    | some (some (.inr (.inl x))) => F (.inr (.inl x))
    | _ => none) = some res) : ∃ x, v = some (some (.inr (.inl x))) ∧ F (.inr (.inl x)) = some res := by
  split at h
  · exact ⟨_, rfl, h⟩
  · cases h
theorem ax_inv_lda {F : ax_V → Option ax_R} {v : Option (Option ax_V)} {res : ax_R} (h : (match v with
    | some (some (.inr (.inr x))) => F (.inr (.inr x))
    | _ => none) = some res) : ∃ x, v = some (some (.inr (.inr x))) ∧ F (.inr (.inr x)) = some res := by
  split at h
  · exact ⟨_, rfl, h⟩
  · cases h
theorem ax_inv_if {c : Prop} (i : Decidable c) {A : Option ax_R} {res : ax_R} (h : (if c then A else none) = some res) : c ∧ A = some res := by
  by_cases hc : c
  · rw [if_pos hc] at h; exact ⟨hc, h⟩
  · rw [if_neg hc] at h; cases h
theorem ax_tgt_of {L : List ax_E} {pc t : Nat} {off : Int} (h : ax_tgt L pc off t = true) : ∃ e2, ax_nth L t = some e2 ∧ (pc : Int) + off = (e2.1 : Int) := by
  unfold ax_tgt at h
  split at h
  next e2 he => exact ⟨e2, he, of_decide_eq_true h⟩
  next => cases h
theorem ax_tgts_at {L : List ax_E} {pc : Nat} : ∀ (os : List Int) (ts : List Nat), ax_tgts L pc os ts = true → os.length = ts.length ∧ ∀ (j : Nat) (o : Int) (t : Nat), os[j]? = some o → ts[j]? = some t → ax_tgt L pc o t = true
  | [], [], _ => ⟨rfl, fun j o t h => by simp at h⟩
  | [], _ :: _, h => by simp [ax_tgts] at h
  | _ :: _, [], h => by simp [ax_tgts] at h
  | o :: os, t :: ts, h => by
    simp only [ax_tgts, Bool.and_eq_true] at h
    obtain ⟨h1, h2⟩ := ax_tgts_at os ts h.2
    refine ⟨by simp [h1], fun j o' t' ho ht => ?_⟩
    cases j with
    | zero => simp at ho ht; rw [← ho, ← ht]; exact h.1
    | succ j => exact h2 j o' t' (by simpa using ho) (by simpa using ht)
theorem ax_sw_of {x : Int32} {nx : Nat → Option ax_R} {dt : Nat} {res : ax_R} : ∀ (ts : List Nat) (v : Nat), v + ts.length < 2 ^ 31 → ax_sw x nx dt v ts = some res → (∃ (j t : Nat), ts[j]? = some t ∧ x.toInt = ((v + j : Nat) : Int) ∧ nx t = some res) ∨ ((x.toInt < (v : Int) ∨ ((v + ts.length : Nat) : Int) ≤ x.toInt) ∧ nx dt = some res)
  | [], v, _, h => Or.inr ⟨by simp only [List.length_nil]; omega, h⟩
  | t :: ts, v, hv, h => by
    simp only [List.length_cons] at hv
    simp only [ax_sw] at h
    have hvt : (Int32.ofNat v).toInt = (v : Int) := nI_toInt (by omega)
    by_cases hx : x = Int32.ofNat v
    · rw [if_pos hx] at h
      exact Or.inl ⟨0, t, rfl, by rw [hx, hvt]; rfl, h⟩
    · rw [if_neg hx] at h
      have hne : x.toInt ≠ (v : Int) := fun q => hx (Int32.toInt_inj.mp (by rw [q, hvt]))
      rcases ax_sw_of ts (v + 1) (by omega) h with ⟨j, t', h1, h2, h3⟩ | ⟨h1, h2⟩
      · exact Or.inl ⟨j + 1, t', by simpa using h1, by rw [h2]; omega, h3⟩
      · exact Or.inr ⟨by simp only [List.length_cons]; omega, h2⟩
theorem ax_ty_4 {k : Nat} (h : ax_ty k = 4) : k = 5 := by
  have h1 := ax_ty_lt (k := k) (by rw [h]; decide) (by rw [h]; decide)
  have key : ∀ k, k < 40 → ax_ty k = 4 → k = 5 := by decide +kernel
  exact key k h1 h
theorem ax_ty_5 {k : Nat} (h : ax_ty k = 5) : k = 7 := by
  have h1 := ax_ty_lt (k := k) (by rw [h]; decide) (by rw [h]; decide)
  have key : ∀ k, k < 40 → ax_ty k = 5 → k = 7 := by decide +kernel
  exact key k h1 h
theorem ax_sr_lt : ∀ q ∈ ax_sr, q.2.2 < 6 := by decide +kernel
theorem ax_sl_k : ∀ q ∈ ax_sl, q.2.2 = 40 ∨ q.2.2 = 41 := by decide +kernel
/-- the two members of String that are called -/
def ax_StrOK (l : Launch) (D : va_G) (Ca : Nat → ClassId) (ad : Nat → Nat → Nat) (adV : Nat → Nat) : Prop :=
  (∀ (i : Nat) (mm : ax_M), i < 6 → Met l yJ0_length_8abf5 (.code yJ0_length_8abf5 cJ0_length_8abf5 1 (some .int) :: ax_W) (ax_rm 5) (ax_Pc D Ca ad adV [.inr (.inr (42, i))] mm) (ax_Qc D Ca ad (some (.inl (Int32.ofNat (ax_word i).length)), mm)) 0 0 (ax_A ad)) ∧
  ∀ (i : Nat) (j : Int32) (mm : ax_M), i < 6 → ax_ok j (ax_word i).length = true → Met l yJ0_charAt_5068e (.code yJ0_charAt_5068e cJ0_charAt_5068e 2 (some .char) :: ax_W) (ax_rm 5) (ax_Pc D Ca ad adV [.inr (.inr (42, i)), .inl j] mm) (ax_Qc D Ca ad (some (.inl (ax_chr i j.toNatClampNeg)), mm)) 0 0 (ax_A ad)
theorem ax_wA_in : Cond.native arraycopyName ∈ ax_W ∧ Cond.static arraycopyName ∈ ax_W ∧ Cond.initialized "java/lang/System" ∈ ax_W := ⟨ax_in7 (by decide +kernel), ax_in7 (by decide +kernel), ax_in7 (by decide +kernel)⟩
theorem ax_wMa_in : Cond.static Lib.Math.max.name ∈ ax_W ∧ Cond.static Lib.Math.min.name ∈ ax_W ∧ Cond.static Lib.Math.abs.name ∈ ax_W ∧ Cond.initialized "java/lang/Math" ∈ ax_W := ⟨ax_in7 (by decide +kernel), ax_in7 (by decide +kernel), ax_in7 (by decide +kernel), ax_in7 (by decide +kernel)⟩
theorem ax_wMc_in : Cond.code Lib.Math.max.name Lib.Math.max.code 2 (some .int) ∈ ax_W ∧ Cond.code Lib.Math.min.name Lib.Math.min.code 2 (some .int) ∈ ax_W ∧ Cond.code Lib.Math.abs.name Lib.Math.abs.code 1 (some .int) ∈ ax_W := ⟨ax_inD (List.mem_of_getElem? (i := 0) rfl), ax_inD (List.mem_of_getElem? (i := 12) rfl), ax_inD (List.mem_of_getElem? (i := 13) rfl)⟩
theorem ax_wS_in : Cond.instanceMethod yJ0_length_8abf5 ∈ ax_W ∧ Cond.selects "java/lang/String" yJ0_length_8abf5 yJ0_length_8abf5 ∈ ax_W ∧ Cond.instanceMethod yJ0_charAt_5068e ∈ ax_W ∧ Cond.selects "java/lang/String" yJ0_charAt_5068e yJ0_charAt_5068e ∈ ax_W ∧ Cond.initialized "java/lang/String" ∈ ax_W := ⟨ax_in7 (by decide +kernel), ax_in7 (by decide +kernel), ax_in7 (by decide +kernel), ax_in7 (by decide +kernel), ax_in7 (by decide +kernel)⟩
theorem ax_wSc_in : Cond.code yJ0_length_8abf5 cJ0_length_8abf5 1 (some .int) ∈ ax_W ∧ Cond.code yJ0_charAt_5068e cJ0_charAt_5068e 2 (some .char) ∈ ax_W := ⟨ax_inD (List.mem_of_getElem? (i := 1) rfl), ax_inD (List.mem_of_getElem? (i := 3) rfl)⟩
