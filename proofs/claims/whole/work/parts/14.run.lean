/-! RUNS of the pure machine with fuel enough; rows for the decompiled methods -/
def ax_FU : Nat := 1000000
def ax_ishl (x y : Int32) : Int32 := x <<< (y &&& 31)
def ax_ishr (x y : Int32) : Int32 := x >>> (y &&& 31)
def ax_iushr (x y : Int32) : Int32 := (x.toUInt32 >>> (y.toUInt32 &&& Int32.toUInt32 31)).toInt32
def ax_irem (x y : Int32) : Int32 := x - x / y * y
def ax_i2b (x : Int32) : Int32 := x.toInt8.toInt32
def ax_i2s (x : Int32) : Int32 := x.toInt16.toInt32
def ax_lshl (x : Int64) (y : Int32) : Int64 := x <<< (y.toInt64 &&& 63)
def ax_lushr (x : Int64) (y : Int32) : Int64 := (x.toUInt64 >>> (y.toInt64.toUInt64 &&& Int64.toUInt64 63)).toInt64
def ax_b {α β : Type} (o : Option α) (f : α → Option β) : Option β := match o with
  | some a => f a
  | none => none
def ax_b2 {α β γ : Type} (o : Option (α × β)) (f : α → β → Option γ) : Option γ := match o with
  | some (a, b) => f a b
  | none => none
theorem ax_b_of {α β : Type} {o : Option α} {f : α → Option β} {r : β} (h : ax_b o f = some r) : ∃ a, o = some a ∧ f a = some r := by
  cases o with
  | none => cases h
  | some a => exact ⟨a, rfl, h⟩
theorem ax_b2_of {α β γ : Type} {o : Option (α × β)} {f : α → β → Option γ} {r : γ} (h : ax_b2 o f = some r) : ∃ a b, o = some (a, b) ∧ f a b = some r := by
  cases o with
  | none => cases h
  | some q => obtain ⟨a, b⟩ := q; exact ⟨a, b, rfl, h⟩
/-- with all fuel from some on -/
def ax_Ru (d : Nat) (L : List ax_E) (k : Nat) (lv : ax_L) (st : List ax_V) (m : ax_M) (r : ax_R) : Prop := ∃ n0, ∀ n, n0 ≤ n → ax_ex d L k lv st m n = some r
theorem ax_Ru.rt {d : Nat} {L : List ax_E} {k : Nat} {lv : ax_L} {st : List ax_V} {m : ax_M} {r : ax_R} (h : ax_Ru d L k lv st m r) : ax_Rt d L k lv st m r := by
  obtain ⟨n, h⟩ := h
  exact ⟨n, h n (Nat.le_refl n)⟩
section RUN
variable {d : Nat} {L : List ax_E} {k k2 j : Nat} {lv lv2 : ax_L} {st st2 : List ax_V} {m m2 : ax_M} {r : ax_R}
theorem ax_rs (j : Nat) (h : ∀ n, ax_ex d L k lv st m (n + j) = some r) : ax_Ru d L k lv st m r := ⟨j, fun n hn => by
  obtain ⟨i, rfl⟩ : ∃ i, n = i + j := ⟨n - j, by omega⟩
  exact h i⟩
theorem ax_rq {c : Prop} {i : Decidable c} (hc : c) (h : ∀ n, ax_ex d L k lv st m (n + j) = @ite _ c i (some r) none) : ax_Ru d L k lv st m r := ax_rs j (fun n => (h n).trans (if_pos hc))
theorem ax_go (h : ∀ n, ax_ex d L k lv st m (n + j) = ax_ex d L k2 lv2 st2 m2 n) (g : ax_Ru d L k2 lv2 st2 m2 r) : ax_Ru d L k lv st m r := by
  obtain ⟨n0, g⟩ := g
  refine ⟨n0 + j, fun n hn => ?_⟩
  obtain ⟨i, rfl⟩ : ∃ i, n = i + j := ⟨n - j, by omega⟩
  rw [h i]
  exact g i (by omega)
theorem ax_gt {c : Prop} {i : Decidable c} {F : Nat → Option ax_R} (hc : c) (h : ∀ n, ax_ex d L k lv st m (n + j) = @ite _ c i (ax_ex d L k2 lv2 st2 m2 n) (F n)) (g : ax_Ru d L k2 lv2 st2 m2 r) : ax_Ru d L k lv st m r := ax_go (fun n => (h n).trans (if_pos hc)) g
theorem ax_gf {c : Prop} {i : Decidable c} {F : Nat → Option ax_R} (hc : ¬ c) (h : ∀ n, ax_ex d L k lv st m (n + j) = @ite _ c i (F n) (ax_ex d L k2 lv2 st2 m2 n)) (g : ax_Ru d L k2 lv2 st2 m2 r) : ax_Ru d L k lv st m r := ax_go (fun n => (h n).trans (if_neg hc)) g
theorem ax_gcq {d1 : Nat} {L1 : List ax_E} {lv1 : ax_L} {m1 : ax_M} {rest : List ax_V} {q : ax_R} (hc : ax_Ru d1 L1 0 lv1 [] m1 q) (h : ∀ n, ax_ex d L k lv st m (n + j) = ax_aft (fun s m2 => ax_ex d L k2 lv2 s m2 n) rest (ax_ex d1 L1 0 lv1 [] m1 n)) (hq : ∀ n, ax_aft (fun s m2 => ax_ex d L k2 lv2 s m2 n) rest (some q) = ax_ex d L k2 lv2 st2 m2 n) (g : ax_Ru d L k2 lv2 st2 m2 r) : ax_Ru d L k lv st m r := by
  obtain ⟨n0, g⟩ := g
  obtain ⟨n1, hc⟩ := hc
  refine ⟨n0 + n1 + j, fun n hn => ?_⟩
  obtain ⟨i, rfl⟩ : ∃ i, n = i + j := ⟨n - j, by omega⟩
  rw [h i, hc i (by omega), hq i]
  exact g i (by omega)
theorem ax_gci {d1 : Nat} {L1 : List ax_E} {lv1 : ax_L} {m1 : ax_M} {rest : List ax_V} {x : Int32} (hc : ax_Ru d1 L1 0 lv1 [] m1 (some (.inl x), m2)) (h : ∀ n, ax_ex d L k lv st m (n + j) = ax_aft (fun s m2 => ax_ex d L k2 lv2 s m2 n) rest (ax_ex d1 L1 0 lv1 [] m1 n)) (g : ax_Ru d L k2 lv2 (.inl x :: rest) m2 r) : ax_Ru d L k lv st m r := ax_gcq hc h (fun _ => rfl) g
theorem ax_gcl {d1 : Nat} {L1 : List ax_E} {lv1 : ax_L} {m1 : ax_M} {rest : List ax_V} {x : Int64} (hc : ax_Ru d1 L1 0 lv1 [] m1 (some (.inr (.inl x)), m2)) (h : ∀ n, ax_ex d L k lv st m (n + j) = ax_aft (fun s m2 => ax_ex d L k2 lv2 s m2 n) rest (ax_ex d1 L1 0 lv1 [] m1 n)) (g : ax_Ru d L k2 lv2 (.inr (.inl x) :: rest) m2 r) : ax_Ru d L k lv st m r := ax_gcq hc h (fun _ => rfl) g
theorem ax_gcv {d1 : Nat} {L1 : List ax_E} {lv1 : ax_L} {m1 : ax_M} {rest : List ax_V} (hc : ax_Ru d1 L1 0 lv1 [] m1 (none, m2)) (h : ∀ n, ax_ex d L k lv st m (n + j) = ax_aft (fun s m2 => ax_ex d L k2 lv2 s m2 n) rest (ax_ex d1 L1 0 lv1 [] m1 n)) (g : ax_Ru d L k2 lv2 rest m2 r) : ax_Ru d L k lv st m r := ax_gcq hc h (fun _ => rfl) g
end RUN
/-! forgetting -/
def ax_le2 : ax_L → ax_L → Prop
  | [], [] => True
  | none :: l, _ :: l2 => ax_le2 l l2
  | some v :: l, w :: l2 => w = some v ∧ ax_le2 l l2
  | _, _ => False
def ax_le (a b : ax_L) : Prop := a.length = b.length ∧ ∀ (j : Nat) (v : ax_V), a[j]? = some (some v) → b[j]? = some (some v)
theorem ax_le_of : ∀ (a b : ax_L), ax_le2 a b → ax_le a b
  | [], [], _ => ⟨rfl, fun j v h => by simp at h⟩
  | [], _ :: _, h => by simp [ax_le2] at h
  | none :: l, [], h => by simp [ax_le2] at h
  | some v :: l, [], h => by simp [ax_le2] at h
  | none :: l, w :: l2, h => by
    obtain ⟨h1, h2⟩ := ax_le_of l l2 h
    refine ⟨by simp [h1], fun j v hv => ?_⟩
    cases j with
    | zero => simp at hv
    | succ j => simpa using h2 j v (by simpa using hv)
  | some x :: l, w :: l2, h => by
    obtain ⟨h0, h⟩ := h
    obtain ⟨h1, h2⟩ := ax_le_of l l2 h
    refine ⟨by simp [h1], fun j v hv => ?_⟩
    cases j with
    | zero => simp at hv; subst hv; simp [h0]
    | succ j => simpa using h2 j v (by simpa using hv)
theorem ax_le.nth {a b : ax_L} (h : ax_le a b) {j : Nat} {v : ax_V} (hj : ax_nth a j = some (some v)) : ax_nth b j = some (some v) := by
  rw [ax_nth_eq] at hj ⊢
  exact h.2 j v hj
theorem ax_stv_get {lv : ax_L} {i : Nat} {v : ax_V} {j : Nat} {w : ax_V} (h : lv[j]? = some (some w)) (h1 : j ≠ i) (h2 : ¬ (j + 1 = i ∧ ∃ x, w = .inr (.inl x))) : (ax_stv lv i v)[j]? = some (some w) := by
  unfold ax_stv
  split
  · rw [ax_put_at, if_neg (fun z => h1 z.1)]
    exact h
  · rename_i i
    split
    next x hx =>
      rw [ax_put_at, if_neg (fun z => h1 z.1), ax_put_at, if_neg ?_]
      · exact h
      · intro z
        obtain ⟨rfl, -⟩ := z
        rw [ax_nth_eq, h] at hx
        simp only [Option.some.injEq] at hx
        exact h2 ⟨rfl, x, hx⟩
    next hx =>
      rw [ax_put_at, if_neg (fun z => h1 z.1)]
      exact h
theorem ax_stv_self {lv : ax_L} {i : Nat} {v : ax_V} (h : i < lv.length) : (ax_stv lv i v)[i]? = some (some v) := by
  unfold ax_stv
  split
  · rw [ax_put_at, if_pos ⟨rfl, h⟩]
  · split
    · rw [ax_put_at, if_pos ⟨rfl, by rw [ax_put_len]; exact h⟩]
    · rw [ax_put_at, if_pos ⟨rfl, h⟩]
theorem ax_le.stv {a b : ax_L} (h : ax_le a b) (i : Nat) (v : ax_V) (hi : i < b.length) : ax_le (ax_stv a i v) (ax_stv b i v) := by
  refine ⟨by rw [ax_stv_len, ax_stv_len]; exact h.1, fun j w hw => ?_⟩
  rcases ax_stv_at hw with ⟨rfl, rfl⟩ | ⟨h1, h2, h3⟩
  · exact ax_stv_self hi
  · exact ax_stv_get (h.2 j w h2) h1 h3
theorem ax_le.stw {a b : ax_L} (h : ax_le a b) (i : Nat) (v : ax_V) (hi : i < b.length) : ax_le (ax_stw a i v) (ax_stw b i v) := by
  refine ⟨by rw [ax_stw_len, ax_stw_len]; exact h.1, fun j w hw => ?_⟩
  unfold ax_stw at hw ⊢
  rw [ax_put_at] at hw ⊢
  by_cases hz : j = i + 1 ∧ i + 1 < (ax_stv a i v).length
  · rw [if_pos hz] at hw
    simp at hw
  · rw [if_neg hz] at hw
    rw [if_neg (by rw [ax_stv_len] at hz ⊢; rw [← h.1]; exact hz)]
    exact (h.stv i v hi).2 j w hw
theorem ax_cmp_le {c : Jvm.ClassFile.Cond} {x y : Int32} {A B A2 B2 : Option ax_R} {res : ax_R} (hA : A = some res → A2 = some res) (hB : B = some res → B2 = some res) (h : ax_cmp c x y A B = some res) : ax_cmp c x y A2 B2 = some res := by
  unfold ax_cmp at h ⊢
  cases c <;> dsimp only at h ⊢ <;> split at h <;> first | (rename_i z; rw [if_pos z]; exact hA h) | (rename_i z; rw [if_neg z]; exact hB h) | (rename_i z; rw [if_pos z]; exact hB h) | (rename_i z; rw [if_neg z]; exact hA h)
theorem ax_sw_le {x : Int32} {F G : Nat → Option ax_R} {d : Nat} {res : ax_R} (hF : ∀ t, F t = some res → G t = some res) : ∀ (ts : List Nat) (v : Nat), ax_sw x F d v ts = some res → ax_sw x G d v ts = some res
  | [], v, h => hF d h
  | t :: ts, v, h => by
    simp only [ax_sw] at h ⊢
    by_cases hx : x = Int32.ofNat v
    · rw [if_pos hx] at h ⊢
      exact hF t h
    · rw [if_neg hx] at h ⊢
      exact ax_sw_le hF ts (v + 1) h
theorem ax_aft_le {F G : List ax_V → ax_M → Option ax_R} {r : List ax_V} {q : Option ax_R} {res : ax_R} (hF : ∀ s m, F s m = some res → G s m = some res) (h : ax_aft F r q = some res) : ax_aft G r q = some res := by
  unfold ax_aft at h ⊢
  split at h <;> first | exact hF _ _ h | cases h
theorem ax_call_le {F G : List ax_V → ax_M → Option ax_R} {cl pr : Nat → List ax_V → ax_M → Option ax_R} {b : Bool} {st : List ax_V} {m : ax_M} {info : List Nat} {res : ax_R} (hF : ∀ s m, F s m = some res → G s m = some res) (h : ax_call F cl pr b st m info = some res) : ax_call G cl pr b st m info = some res := by
  obtain ⟨a, r, r1, hr, h8, hh⟩ := ax_inv_call h
  have h9 := ax_aft_le hF h8
  rcases hh with ⟨mt, argc, rk, tl, rfl, hp, hhd, hcr⟩ | ⟨q, argc, tl, rfl, hp, hcr⟩
  · show (match ax_pops argc [] st with
      | some (a, r) => if ax_head b rk a = true then (if ax_cats r ≤ 8 then ax_aft G r (cl mt a m) else none) else none
      | none => none) = some res
    rw [hp]
    show (if ax_head b rk a = true then (if ax_cats r ≤ 8 then ax_aft G r (cl mt a m) else none) else none) = some res
    rw [if_pos hhd, if_pos hr, hcr]
    exact h9
  · show (match ax_pops argc [] st with
      | some (a, r) => if ax_cats r ≤ 8 then ax_aft G r (pr q a m) else none
      | none => none) = some res
    rw [hp]
    show (if ax_cats r ≤ 8 then ax_aft G r (pr q a m) else none) = some res
    rw [if_pos hr, hcr]
    exact h9
set_option maxHeartbeats 4000000 in
theorem ax_step_le {nx : Nat → ax_L → List ax_V → ax_M → Option ax_R} {cl pr : Nat → List ax_V → ax_M → Option ax_R} {k : Nat} {e : ax_E} {a b : ax_L} {st : List ax_V} {mm : ax_M} {res : ax_R} (hn : ∀ (k : Nat) (a b : ax_L) (st : List ax_V) (m : ax_M), ax_le a b → nx k a st m = some res → nx k b st m = some res) (hl : ax_le a b) (h : ax_step nx cl pr e k a st mm = some res) : ax_step nx cl pr e k b st mm = some res := by
  obtain ⟨pc, ins, info, cv⟩ := e
  cases ins
  case iload_n j =>
    obtain ⟨x, hj, h7⟩ := ax_inv_ld (F := fun v => nx (k + 1) a (v :: st) mm) h
    have hj2 := hl.nth hj
    have h8 := hn _ _ _ _ _ hl h7
    show (match ax_nth b j.val with
      | some (some (.inl x)) => nx (k + 1) b ((.inl x) :: st) mm
      | _ => none) = some res
    rw [hj2]
    exact h8
  case iload j =>
    obtain ⟨x, hj, h7⟩ := ax_inv_ld (F := fun v => nx (k + 1) a (v :: st) mm) h
    have hj2 := hl.nth hj
    have h8 := hn _ _ _ _ _ hl h7
    show (match ax_nth b j with
      | some (some (.inl x)) => nx (k + 1) b ((.inl x) :: st) mm
      | _ => none) = some res
    rw [hj2]
    exact h8
  case lload_n j =>
    obtain ⟨x, hj, h7⟩ := ax_inv_ldl (F := fun v => nx (k + 1) a (v :: st) mm) h
    have hj2 := hl.nth hj
    have h8 := hn _ _ _ _ _ hl h7
    show (match ax_nth b j.val with
      | some (some (.inr (.inl x))) => nx (k + 1) b ((.inr (.inl x)) :: st) mm
      | _ => none) = some res
    rw [hj2]
    exact h8
  case lload j =>
    obtain ⟨x, hj, h7⟩ := ax_inv_ldl (F := fun v => nx (k + 1) a (v :: st) mm) h
    have hj2 := hl.nth hj
    have h8 := hn _ _ _ _ _ hl h7
    show (match ax_nth b j with
      | some (some (.inr (.inl x))) => nx (k + 1) b ((.inr (.inl x)) :: st) mm
      | _ => none) = some res
    rw [hj2]
    exact h8
  case aload_n j =>
    obtain ⟨x, hj, h7⟩ := ax_inv_lda (F := fun v => nx (k + 1) a (v :: st) mm) h
    have hj2 := hl.nth hj
    have h8 := hn _ _ _ _ _ hl h7
    show (match ax_nth b j.val with
      | some (some (.inr (.inr x))) => nx (k + 1) b ((.inr (.inr x)) :: st) mm
      | _ => none) = some res
    rw [hj2]
    exact h8
  case aload j =>
    obtain ⟨x, hj, h7⟩ := ax_inv_lda (F := fun v => nx (k + 1) a (v :: st) mm) h
    have hj2 := hl.nth hj
    have h8 := hn _ _ _ _ _ hl h7
    show (match ax_nth b j with
      | some (some (.inr (.inr x))) => nx (k + 1) b ((.inr (.inr x)) :: st) mm
      | _ => none) = some res
    rw [hj2]
    exact h8
  case istore_n j =>
    obtain ⟨x, r, hst, h7⟩ := ax_inv_i (F := fun x r => if j.val < a.length then nx (k + 1) (ax_stv a j.val (.inl x)) r mm else none) h
    subst hst
    obtain ⟨hj, h8⟩ := ax_inv_if _ h7
    have hj2 : j.val < b.length := by rw [← hl.1]; exact hj
    show (if j.val < b.length then nx (k + 1) (ax_stv b j.val (.inl x)) r mm else none) = some res
    rw [if_pos hj2]
    exact hn _ _ _ _ _ (hl.stv _ _ (by omega)) h8
  case istore j =>
    obtain ⟨x, r, hst, h7⟩ := ax_inv_i (F := fun x r => if j < a.length then nx (k + 1) (ax_stv a j (.inl x)) r mm else none) h
    subst hst
    obtain ⟨hj, h8⟩ := ax_inv_if _ h7
    have hj2 : j < b.length := by rw [← hl.1]; exact hj
    show (if j < b.length then nx (k + 1) (ax_stv b j (.inl x)) r mm else none) = some res
    rw [if_pos hj2]
    exact hn _ _ _ _ _ (hl.stv _ _ (by omega)) h8
  case astore_n j =>
    obtain ⟨x, r, hst, h7⟩ := ax_inv_a (F := fun x r => if j.val < a.length then nx (k + 1) (ax_stv a j.val (.inr (.inr x))) r mm else none) h
    subst hst
    obtain ⟨hj, h8⟩ := ax_inv_if _ h7
    have hj2 : j.val < b.length := by rw [← hl.1]; exact hj
    show (if j.val < b.length then nx (k + 1) (ax_stv b j.val (.inr (.inr x))) r mm else none) = some res
    rw [if_pos hj2]
    exact hn _ _ _ _ _ (hl.stv _ _ (by omega)) h8
  case astore j =>
    obtain ⟨x, r, hst, h7⟩ := ax_inv_a (F := fun x r => if j < a.length then nx (k + 1) (ax_stv a j (.inr (.inr x))) r mm else none) h
    subst hst
    obtain ⟨hj, h8⟩ := ax_inv_if _ h7
    have hj2 : j < b.length := by rw [← hl.1]; exact hj
    show (if j < b.length then nx (k + 1) (ax_stv b j (.inr (.inr x))) r mm else none) = some res
    rw [if_pos hj2]
    exact hn _ _ _ _ _ (hl.stv _ _ (by omega)) h8
  case lstore_n j =>
    obtain ⟨x, r, hst, h7⟩ := ax_inv_l (F := fun x r => if j.val + 1 < a.length then nx (k + 1) (ax_stw a j.val (.inr (.inl x))) r mm else none) h
    subst hst
    obtain ⟨hj, h8⟩ := ax_inv_if _ h7
    have hj2 : j.val + 1 < b.length := by rw [← hl.1]; exact hj
    show (if j.val + 1 < b.length then nx (k + 1) (ax_stw b j.val (.inr (.inl x))) r mm else none) = some res
    rw [if_pos hj2]
    exact hn _ _ _ _ _ (hl.stw _ _ (by omega)) h8
  case lstore j =>
    obtain ⟨x, r, hst, h7⟩ := ax_inv_l (F := fun x r => if j + 1 < a.length then nx (k + 1) (ax_stw a j (.inr (.inl x))) r mm else none) h
    subst hst
    obtain ⟨hj, h8⟩ := ax_inv_if _ h7
    have hj2 : j + 1 < b.length := by rw [← hl.1]; exact hj
    show (if j + 1 < b.length then nx (k + 1) (ax_stw b j (.inr (.inl x))) r mm else none) = some res
    rw [if_pos hj2]
    exact hn _ _ _ _ _ (hl.stw _ _ (by omega)) h8
  case iconst z =>
    exact hn (k + 1) _ _ (cv :: st) mm hl h
  case bipush z =>
    exact hn (k + 1) _ _ (cv :: st) mm hl h
  case sipush z =>
    exact hn (k + 1) _ _ (cv :: st) mm hl h
  case lconst z =>
    exact hn (k + 1) _ _ (cv :: st) mm hl h
  case ldc z =>
    exact hn (k + 1) _ _ (cv :: st) mm hl h
  case ldc_w z =>
    exact hn (k + 1) _ _ (cv :: st) mm hl h
  case ldc2_w z =>
    exact hn (k + 1) _ _ (cv :: st) mm hl h
  case getstatic z =>
    exact hn (k + 1) _ _ (cv :: st) mm hl h
  case iadd  =>
    obtain ⟨y, x, r, hst, h7⟩ := ax_inv_ii (F := fun y x r => nx (k + 1) a (.inl (x + y) :: r) mm) h
    subst hst
    exact hn _ _ _ _ _ hl h7
  case isub  =>
    obtain ⟨y, x, r, hst, h7⟩ := ax_inv_ii (F := fun y x r => nx (k + 1) a (.inl (x - y) :: r) mm) h
    subst hst
    exact hn _ _ _ _ _ hl h7
  case imul  =>
    obtain ⟨y, x, r, hst, h7⟩ := ax_inv_ii (F := fun y x r => nx (k + 1) a (.inl (x * y) :: r) mm) h
    subst hst
    exact hn _ _ _ _ _ hl h7
  case iand  =>
    obtain ⟨y, x, r, hst, h7⟩ := ax_inv_ii (F := fun y x r => nx (k + 1) a (.inl (x &&& y) :: r) mm) h
    subst hst
    exact hn _ _ _ _ _ hl h7
  case ior  =>
    obtain ⟨y, x, r, hst, h7⟩ := ax_inv_ii (F := fun y x r => nx (k + 1) a (.inl (x ||| y) :: r) mm) h
    subst hst
    exact hn _ _ _ _ _ hl h7
  case ixor  =>
    obtain ⟨y, x, r, hst, h7⟩ := ax_inv_ii (F := fun y x r => nx (k + 1) a (.inl (x ^^^ y) :: r) mm) h
    subst hst
    exact hn _ _ _ _ _ hl h7
  case ishl  =>
    obtain ⟨y, x, r, hst, h7⟩ := ax_inv_ii (F := fun y x r => nx (k + 1) a (.inl (x <<< (y &&& 31)) :: r) mm) h
    subst hst
    exact hn _ _ _ _ _ hl h7
  case ishr  =>
    obtain ⟨y, x, r, hst, h7⟩ := ax_inv_ii (F := fun y x r => nx (k + 1) a (.inl (x >>> (y &&& 31)) :: r) mm) h
    subst hst
    exact hn _ _ _ _ _ hl h7
  case iushr  =>
    obtain ⟨y, x, r, hst, h7⟩ := ax_inv_ii (F := fun y x r => nx (k + 1) a (.inl ((x.toUInt32 >>> (y.toUInt32 &&& Int32.toUInt32 31)).toInt32) :: r) mm) h
    subst hst
    exact hn _ _ _ _ _ hl h7
  case ineg  =>
    obtain ⟨x, r, hst, h7⟩ := ax_inv_i (F := fun x r => nx (k + 1) a (.inl (-x) :: r) mm) h
    subst hst
    exact hn _ _ _ _ _ hl h7
  case i2b  =>
    obtain ⟨x, r, hst, h7⟩ := ax_inv_i (F := fun x r => nx (k + 1) a (.inl (x.toInt8.toInt32) :: r) mm) h
    subst hst
    exact hn _ _ _ _ _ hl h7
  case i2s  =>
    obtain ⟨x, r, hst, h7⟩ := ax_inv_i (F := fun x r => nx (k + 1) a (.inl (x.toInt16.toInt32) :: r) mm) h
    subst hst
    exact hn _ _ _ _ _ hl h7
  case idiv  =>
    obtain ⟨y, x, r, hst, h7⟩ := ax_inv_ii (F := fun y x r => if y = 0 then none else nx (k + 1) a (.inl (x / y) :: r) mm) h
    subst hst
    show (if y = 0 then none else nx (k + 1) b (.inl (x / y) :: r) mm) = some res
    by_cases hy : y = 0
    · rw [if_pos hy] at h7; cases h7
    · rw [if_neg hy] at h7 ⊢
      exact hn _ _ _ _ _ hl h7
  case irem  =>
    obtain ⟨y, x, r, hst, h7⟩ := ax_inv_ii (F := fun y x r => if y = 0 then none else nx (k + 1) a (.inl (x - x / y * y) :: r) mm) h
    subst hst
    show (if y = 0 then none else nx (k + 1) b (.inl (x - x / y * y) :: r) mm) = some res
    by_cases hy : y = 0
    · rw [if_pos hy] at h7; cases h7
    · rw [if_neg hy] at h7 ⊢
      exact hn _ _ _ _ _ hl h7
  case ladd  =>
    obtain ⟨y, x, r, hst, h7⟩ := ax_inv_ll (F := fun y x r => nx (k + 1) a (.inr (.inl (x + y)) :: r) mm) h
    subst hst
    exact hn _ _ _ _ _ hl h7
  case lsub  =>
    obtain ⟨y, x, r, hst, h7⟩ := ax_inv_ll (F := fun y x r => nx (k + 1) a (.inr (.inl (x - y)) :: r) mm) h
    subst hst
    exact hn _ _ _ _ _ hl h7
  case land  =>
    obtain ⟨y, x, r, hst, h7⟩ := ax_inv_ll (F := fun y x r => nx (k + 1) a (.inr (.inl (x &&& y)) :: r) mm) h
    subst hst
    exact hn _ _ _ _ _ hl h7
  case lor  =>
    obtain ⟨y, x, r, hst, h7⟩ := ax_inv_ll (F := fun y x r => nx (k + 1) a (.inr (.inl (x ||| y)) :: r) mm) h
    subst hst
    exact hn _ _ _ _ _ hl h7
  case lxor  =>
    obtain ⟨y, x, r, hst, h7⟩ := ax_inv_ll (F := fun y x r => nx (k + 1) a (.inr (.inl (x ^^^ y)) :: r) mm) h
    subst hst
    exact hn _ _ _ _ _ hl h7
  case lshl  =>
    obtain ⟨y, x, r, hst, h7⟩ := ax_inv_il (F := fun y x r => nx (k + 1) a (.inr (.inl (x <<< (y.toInt64 &&& 63))) :: r) mm) h
    subst hst
    exact hn _ _ _ _ _ hl h7
  case lushr  =>
    obtain ⟨y, x, r, hst, h7⟩ := ax_inv_il (F := fun y x r => nx (k + 1) a (.inr (.inl ((x.toUInt64 >>> (y.toInt64.toUInt64 &&& Int64.toUInt64 63)).toInt64)) :: r) mm) h
    subst hst
    exact hn _ _ _ _ _ hl h7
  case lneg  =>
    obtain ⟨x, r, hst, h7⟩ := ax_inv_l (F := fun x r => nx (k + 1) a (.inr (.inl (-x)) :: r) mm) h
    subst hst
    exact hn _ _ _ _ _ hl h7
  case i2l  =>
    obtain ⟨x, r, hst, h7⟩ := ax_inv_i (F := fun x r => nx (k + 1) a (.inr (.inl x.toInt64) :: r) mm) h
    subst hst
    exact hn _ _ _ _ _ hl h7
  case l2i  =>
    obtain ⟨x, r, hst, h7⟩ := ax_inv_l (F := fun x r => nx (k + 1) a (.inl x.toInt32 :: r) mm) h
    subst hst
    exact hn _ _ _ _ _ hl h7
  case lcmp  =>
    obtain ⟨y, x, r, hst, h7⟩ := ax_inv_ll (F := fun y x r => nx (k + 1) a (.inl (lg_cmp x y) :: r) mm) h
    subst hst
    exact hn _ _ _ _ _ hl h7
  case pop  =>
    obtain ⟨x, r, hst, h7⟩ := ax_inv_i (F := fun x r => nx (k + 1) a r mm) h
    subst hst
    exact hn _ _ _ _ _ hl h7
  case iinc j z =>
    rcases cv with y | y | y
    · obtain ⟨x, hj, h7⟩ : ∃ x, ax_nth a j = some (some (.inl x)) ∧ (if j < a.length then nx (k + 1) (ax_stv a j (.inl (x + y))) st mm else none) = some res := by
        have h : (match (generalizing := false) ax_nth a j, (Sum.inl y : ax_V) with
          | some (some (.inl x)), .inl c => if j < a.length then nx (k + 1) (ax_stv a j (.inl (x + c))) st mm else none
          | _, _ => none) = some res := h
        split at h
        next x c hj hc => cases hc; exact ⟨x, hj, h⟩
        next => cases h
      have hj2 := hl.nth hj
      obtain ⟨hj3, h8⟩ := ax_inv_if _ h7
      have hj4 : j < b.length := by rw [← hl.1]; exact hj3
      show (match (generalizing := false) ax_nth b j, (Sum.inl y : ax_V) with
          | some (some (.inl x)), .inl c => if j < b.length then nx (k + 1) (ax_stv b j (.inl (x + c))) st mm else none
          | _, _ => none) = some res
      rw [hj2]
      show (if j < b.length then nx (k + 1) (ax_stv b j (.inl (x + y))) st mm else none) = some res
      rw [if_pos hj4]
      exact hn _ _ _ _ _ (hl.stv _ _ hj4) h8
    · exfalso
      have h : (match (generalizing := false) ax_nth a j, (Sum.inr (Sum.inl y) : ax_V) with
          | some (some (.inl x)), .inl c => if j < a.length then nx (k + 1) (ax_stv a j (.inl (x + c))) st mm else none
          | _, _ => none) = some res := h
      split at h
      next x c hj hc => cases hc
      next => cases h
    · exfalso
      have h : (match (generalizing := false) ax_nth a j, (Sum.inr (Sum.inr y) : ax_V) with
          | some (some (.inl x)), .inl c => if j < a.length then nx (k + 1) (ax_stv a j (.inl (x + c))) st mm else none
          | _, _ => none) = some res := h
      split at h
      next x c hj hc => cases hc
      next => cases h
  case dup  =>
    rcases ax_inv_dup (F := fun x r => nx (k + 1) a (.inl x :: .inl x :: r) mm) (F2 := fun x r => nx (k + 1) a (.inr (.inr x) :: .inr (.inr x) :: r) mm) h with ⟨x, r, hst, h7⟩ | ⟨x, r, hst, h7⟩
    · subst hst
      exact hn _ _ _ _ _ hl h7
    · subst hst
      exact hn _ _ _ _ _ hl h7
  case dup_x1  =>
    obtain ⟨x, y, r, hst, h7⟩ := ax_inv_dx (F := fun x y r => nx (k + 1) a (.inl x :: .inr (.inr y) :: .inl x :: r) mm) h
    subst hst
    exact hn _ _ _ _ _ hl h7
  case dup2  =>
    obtain ⟨x, y, r, hst, h7⟩ := ax_inv_dx (F := fun x y r => nx (k + 1) a (.inl x :: .inr (.inr y) :: .inl x :: .inr (.inr y) :: r) mm) h
    subst hst
    exact hn _ _ _ _ _ hl h7
  case goto off =>
    obtain ⟨t, ts, hi, h7⟩ := ax_inv_t (F := fun t => nx t a st mm) h
    subst hi
    exact hn _ _ _ _ _ hl h7
  case if_icmp cnd off =>
    obtain ⟨t, ts, y, x, r, hi, hst, h7⟩ := ax_inv_tii (F := fun t y x r => ax_cmp cnd x y (nx t a r mm) (nx (k + 1) a r mm)) h
    subst hi
    subst hst
    show ax_cmp cnd x y (nx t b r mm) (nx (k + 1) b r mm) = some res
    exact ax_cmp_le (fun z => hn _ _ _ _ _ hl z) (fun z => hn _ _ _ _ _ hl z) h7
  case ifCond cnd off =>
    obtain ⟨t, ts, x, r, hi, hst, h7⟩ := ax_inv_ti (F := fun t x r => ax_cmp cnd x 0 (nx t a r mm) (nx (k + 1) a r mm)) h
    subst hi
    subst hst
    show ax_cmp cnd x 0 (nx t b r mm) (nx (k + 1) b r mm) = some res
    exact ax_cmp_le (fun z => hn _ _ _ _ _ hl z) (fun z => hn _ _ _ _ _ hl z) h7
  case tableswitch df lo hi os =>
    obtain ⟨dt, ts, x, r, hi0, hst, h7⟩ := ax_inv_sw (F := fun dt ts x r => ax_sw x (fun t => nx t a r mm) dt lo.toNat ts) h
    subst hi0
    subst hst
    show ax_sw x (fun t => nx t b r mm) dt lo.toNat ts = some res
    exact ax_sw_le (fun t z => hn _ _ _ _ _ hl z) _ _ h7
  case getfield idx =>
    obtain ⟨q, j, t, q2, z, tl, i, r, hi0, hst, hh⟩ := ax_inv_fld (show ax_fld (fun s => nx (k + 1) a s mm) st mm info = some res from h)
    subst hi0
    subst hst
    show ax_fld (fun s => nx (k + 1) b s mm) (.inr (.inr (q, i)) :: r) mm (q :: j :: t :: q2 :: z :: tl) = some res
    unfold ax_fld
    show (if q = q then _ else none) = some res
    rw [if_pos rfl]
    rcases hh with ⟨rfl, h9⟩ | ⟨rfl, h9⟩ | ⟨rfl, h9⟩ | ⟨rfl, h9⟩ | ⟨rfl, h9⟩ <;> exact hn _ _ _ _ _ hl h9
  case putfield idx =>
    obtain ⟨q, j, t, tl, i, r, v, hi0, hst, hh⟩ := ax_inv_pfld (show ax_pfld (fun s m' => nx (k + 1) a s m') st mm info = some res from h)
    subst hi0
    subst hst
    rcases hh with ⟨rfl, x, rfl, h9⟩ | ⟨rfl, x, rfl, h01, h9⟩ | ⟨rfl, x, rfl, h9⟩
    · show (if q = q then nx (k + 1) b r (ax_ui mm q i j x) else none) = some res
      rw [if_pos rfl]
      exact hn _ _ _ _ _ hl h9
    · show (if q = q then (if x = 0 ∨ x = 1 then nx (k + 1) b r (ax_ui mm q i j x) else none) else none) = some res
      rw [if_pos rfl, if_pos h01]
      exact hn _ _ _ _ _ hl h9
    · show (if q = q then nx (k + 1) b r (ax_ul mm q i j x) else none) = some res
      rw [if_pos rfl]
      exact hn _ _ _ _ _ hl h9
  case iaload  =>
    obtain ⟨j, q, i, r, hst, h7⟩ := ax_inv_arr (F := fun j q i r => if ax_ty q = 1 then (if ax_ok j (ax_len q) = true then nx (k + 1) a (.inl (mm.1 q i j.toNatClampNeg) :: r) mm else none) else if ax_ty q = 6 then (if (1 : Nat) = 1 then (if ax_ok j (ax_len q) = true then nx (k + 1) a (.inl (ax_sta q j.toNatClampNeg) :: r) mm else none) else none) else none) h
    subst hst
    show (if ax_ty q = 1 then (if ax_ok j (ax_len q) = true then nx (k + 1) b (.inl (mm.1 q i j.toNatClampNeg) :: r) mm else none) else if ax_ty q = 6 then (if (1 : Nat) = 1 then (if ax_ok j (ax_len q) = true then nx (k + 1) b (.inl (ax_sta q j.toNatClampNeg) :: r) mm else none) else none) else none) = some res
    by_cases y1 : ax_ty q = 1
    · rw [if_pos y1] at h7 ⊢
      obtain ⟨hj, h8⟩ := ax_inv_if _ h7
      rw [if_pos hj]
      exact hn _ _ _ _ _ hl h8
    · rw [if_neg y1] at h7 ⊢
      obtain ⟨y6, h8⟩ := ax_inv_if _ h7
      obtain ⟨y7, h8⟩ := ax_inv_if _ h8
      obtain ⟨hj, h8⟩ := ax_inv_if _ h8
      rw [if_pos y6, if_pos y7, if_pos hj]
      exact hn _ _ _ _ _ hl h8
  case baload  =>
    obtain ⟨j, q, i, r, hst, h7⟩ := ax_inv_arr (F := fun j q i r => if ax_ty q = 2 then (if ax_ok j (ax_len q) = true then nx (k + 1) a (.inl (mm.1 q i j.toNatClampNeg) :: r) mm else none) else if ax_ty q = 6 then (if (2 : Nat) = 1 then (if ax_ok j (ax_len q) = true then nx (k + 1) a (.inl (ax_sta q j.toNatClampNeg) :: r) mm else none) else none) else none) h
    subst hst
    show (if ax_ty q = 2 then (if ax_ok j (ax_len q) = true then nx (k + 1) b (.inl (mm.1 q i j.toNatClampNeg) :: r) mm else none) else if ax_ty q = 6 then (if (2 : Nat) = 1 then (if ax_ok j (ax_len q) = true then nx (k + 1) b (.inl (ax_sta q j.toNatClampNeg) :: r) mm else none) else none) else none) = some res
    by_cases y1 : ax_ty q = 2
    · rw [if_pos y1] at h7 ⊢
      obtain ⟨hj, h8⟩ := ax_inv_if _ h7
      rw [if_pos hj]
      exact hn _ _ _ _ _ hl h8
    · rw [if_neg y1] at h7 ⊢
      obtain ⟨y6, h8⟩ := ax_inv_if _ h7
      obtain ⟨y7, h8⟩ := ax_inv_if _ h8
      obtain ⟨hj, h8⟩ := ax_inv_if _ h8
      rw [if_pos y6, if_pos y7, if_pos hj]
      exact hn _ _ _ _ _ hl h8
  case laload  =>
    obtain ⟨j, q, i, r, hst, h7⟩ := ax_inv_arr (F := fun j q i r => if ax_ty q = 3 then (if ax_ok j (ax_len q) = true then nx (k + 1) a (.inr (.inl (mm.2 q i j.toNatClampNeg)) :: r) mm else none) else none) h
    subst hst
    obtain ⟨y1, h8⟩ := ax_inv_if _ h7
    obtain ⟨hj, h8⟩ := ax_inv_if _ h8
    show (if ax_ty q = 3 then (if ax_ok j (ax_len q) = true then nx (k + 1) b (.inr (.inl (mm.2 q i j.toNatClampNeg)) :: r) mm else none) else none) = some res
    rw [if_pos y1, if_pos hj]
    exact hn _ _ _ _ _ hl h8
  case iastore  =>
    obtain ⟨x, j, q, i, r, hst, h7⟩ := ax_inv_sti (F := fun x j q i r => if ax_ty q = 1 then (if ax_ok j (ax_len q) = true then nx (k + 1) a r (ax_ui mm q i j.toNatClampNeg x) else none) else none) h
    subst hst
    obtain ⟨y1, h8⟩ := ax_inv_if _ h7
    obtain ⟨hj, h8⟩ := ax_inv_if _ h8
    show (if ax_ty q = 1 then (if ax_ok j (ax_len q) = true then nx (k + 1) b r (ax_ui mm q i j.toNatClampNeg x) else none) else none) = some res
    rw [if_pos y1, if_pos hj]
    exact hn _ _ _ _ _ hl h8
  case lastore  =>
    obtain ⟨x, j, q, i, r, hst, h7⟩ := ax_inv_stl (F := fun x j q i r => if ax_ty q = 3 then (if ax_ok j (ax_len q) = true then nx (k + 1) a r (ax_ul mm q i j.toNatClampNeg x) else none) else none) h
    subst hst
    obtain ⟨y1, h8⟩ := ax_inv_if _ h7
    obtain ⟨hj, h8⟩ := ax_inv_if _ h8
    show (if ax_ty q = 3 then (if ax_ok j (ax_len q) = true then nx (k + 1) b r (ax_ul mm q i j.toNatClampNeg x) else none) else none) = some res
    rw [if_pos y1, if_pos hj]
    exact hn _ _ _ _ _ hl h8
  case bastore  =>
    obtain ⟨x, j, q, i, r, hst, h7⟩ := ax_inv_sti (F := fun x j q i r => if ax_ty q = 2 then (if ax_ok j (ax_len q) = true then (if x = 0 ∨ x = 1 then nx (k + 1) a r (ax_ui mm q i j.toNatClampNeg x) else none) else none) else none) h
    subst hst
    obtain ⟨y1, h8⟩ := ax_inv_if _ h7
    obtain ⟨hj, h8⟩ := ax_inv_if _ h8
    show (if ax_ty q = 2 then (if ax_ok j (ax_len q) = true then (if x = 0 ∨ x = 1 then nx (k + 1) b r (ax_ui mm q i j.toNatClampNeg x) else none) else none) else none) = some res
    rw [if_pos y1, if_pos hj]
    obtain ⟨h01, h8⟩ := ax_inv_if _ h8
    rw [if_pos h01]
    exact hn _ _ _ _ _ hl h8
  case aaload  =>
    obtain ⟨j, q, i, r, hst, h7⟩ := ax_inv_arr (F := fun j q i r => if ax_ok j (ax_len q) = true then (match ax_ty q with
        | 4 => nx (k + 1) a (.inr (.inr (6, 16 * i + j.toNatClampNeg)) :: r) mm
        | 5 => nx (k + 1) a (.inr (.inr (8, 8 * i + j.toNatClampNeg)) :: r) mm
        | _ => none) else none) h
    subst hst
    obtain ⟨hj, h8⟩ := ax_inv_if _ h7
    show (if ax_ok j (ax_len q) = true then (match ax_ty q with
        | 4 => nx (k + 1) b (.inr (.inr (6, 16 * i + j.toNatClampNeg)) :: r) mm
        | 5 => nx (k + 1) b (.inr (.inr (8, 8 * i + j.toNatClampNeg)) :: r) mm
        | _ => none) else none) = some res
    rw [if_pos hj]
    split at h8
    next y1 => exact hn _ _ _ _ _ hl h8
    next y1 => exact hn _ _ _ _ _ hl h8
    next => cases h8
  case arraylength  =>
    obtain ⟨q, i, r, hst, h7⟩ := ax_inv_ref (F := fun q r => if ax_ty q = 1 ∨ ax_ty q = 3 then nx (k + 1) a (.inl (Int32.ofNat (ax_len q)) :: r) mm else none) h
    subst hst
    obtain ⟨y1, h8⟩ := ax_inv_if _ h7
    show (if ax_ty q = 1 ∨ ax_ty q = 3 then nx (k + 1) b (.inl (Int32.ofNat (ax_len q)) :: r) mm else none) = some res
    rw [if_pos y1]
    exact hn _ _ _ _ _ hl h8
  case invokevirtual idx =>
    show ax_call (fun s m' => nx (k + 1) b s m') cl pr false st mm info = some res
    exact ax_call_le (fun s m' z => hn _ _ _ _ _ hl z) (show ax_call (fun s m' => nx (k + 1) a s m') cl pr false st mm info = some res from h)
  case invokestatic idx =>
    show ax_call (fun s m' => nx (k + 1) b s m') cl pr true st mm info = some res
    exact ax_call_le (fun s m' z => hn _ _ _ _ _ hl z) (show ax_call (fun s m' => nx (k + 1) a s m') cl pr true st mm info = some res from h)
  case ireturn  =>
    exact h
  case lreturn  =>
    exact h
  case return_  =>
    exact h
  all_goals exact absurd (show (none : Option ax_R) = some res from h) (by simp)
theorem ax_ex_le : ∀ (n d : Nat) (L : List ax_E) (k : Nat) (a b : ax_L) (st : List ax_V) (m : ax_M) (r : ax_R), ax_le a b → ax_ex d L k a st m n = some r → ax_ex d L k b st m n = some r := by
  intro n
  induction n with
  | zero => intro d L k a b st m r _ h; simp [ax_ex] at h
  | succ n ih =>
    intro d L k a b st m r hl h
    simp only [ax_ex] at h ⊢
    cases he : ax_nth L k with
    | none => rw [he] at h; cases h
    | some e =>
      rw [he] at h
      exact ax_step_le (fun k a b st m hl h => ih d L k a b st m r hl h) hl h
theorem ax_fg {d : Nat} {L : List ax_E} {k : Nat} {lv lv2 : ax_L} {st : List ax_V} {m : ax_M} {r : ax_R} (h : ax_le2 lv2 lv) (g : ax_Ru d L k lv2 st m r) : ax_Ru d L k lv st m r := by
  obtain ⟨n0, g⟩ := g
  exact ⟨n0, fun n hn => ax_ex_le n d L k lv2 lv st m r (ax_le_of _ _ h) (g n hn)⟩
