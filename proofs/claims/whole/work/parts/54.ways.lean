/-! WAYS: the sets of cells that can be come to, forth and back -/
theorem znb_c : ∀ a, a < 64 → ∀ d, d < 64 → znb a d = znb d a := by decide +kernel
theorem zn_t {f : Nat → Bool} {c : Nat} (hc : c < 64) : zn f c = true ↔ ∃ d, d < 64 ∧ znb d c = true ∧ f d = true := by
  unfold znb zn
  constructor
  · intro h
    simp only [Bool.or_eq_true, Bool.and_eq_true, decide_eq_true_eq] at h
    rcases h with (⟨h1, h2⟩ | ⟨h1, h2⟩) | (⟨h1, h2⟩ | ⟨h1, h2⟩)
    · exact ⟨c - 8, by omega, by simp [h1], h2⟩
    · exact ⟨c + 8, by omega, by simp [h1], h2⟩
    · exact ⟨c - 1, by omega, by simp [h1], h2⟩
    · exact ⟨c + 1, by omega, by simp [h1], h2⟩
  · rintro ⟨d, hd, h, h2⟩
    simp only [Bool.or_eq_true, Bool.and_eq_true, decide_eq_true_eq] at h ⊢
    rcases h with (⟨h1, h3⟩ | ⟨h1, h3⟩) | (⟨h1, h3⟩ | ⟨h1, h3⟩)
    · exact .inl (.inl ⟨h1, by rw [h3]; exact h2⟩)
    · exact .inl (.inr ⟨h1, by rw [h3]; exact h2⟩)
    · exact .inr (.inl ⟨h1, by rw [h3]; exact h2⟩)
    · exact .inr (.inr ⟨h1, by rw [h3]; exact h2⟩)
theorem zn_cg {f g : Nat → Bool} (h : ∀ c, c < 64 → f c = g c) {c : Nat} (hc : c < 64) : zn f c = zn g c := by
  cases e : zn f c with
  | true =>
    obtain ⟨d, hd, h1, h2⟩ := (zn_t hc).mp e
    exact ((zn_t hc).mpr ⟨d, hd, h1, by rw [← h d hd]; exact h2⟩).symm
  | false =>
    cases e2 : zn g c with
    | false => rfl
    | true =>
      obtain ⟨d, hd, h1, h2⟩ := (zn_t hc).mp e2
      rw [(zn_t hc).mpr ⟨d, hd, h1, by rw [h d hd]; exact h2⟩] at e
      cases e
/-- cells admitted Y, gone on from X -/
def zXY (X Y : Nat → Bool) (f : Nat → Bool) (e : Nat) : Bool := Y e && zn (fun d => f d && X d) e
theorem zXY_cg (X Y : Nat → Bool) : zcg (zXY X Y) 64 := fun f g h c hc => by
  unfold zXY
  rw [zn_cg (fun d hd => by rw [h d hd]) hc]
def zB (X Y : Nat → Bool) (a : Nat) : Nat → Nat → Bool := zit (zXY X Y) (fun i => decide (i = a))
theorem zB_s (X Y : Nat → Bool) (a n c : Nat) : zB X Y a (n + 1) c = (zB X Y a n c || (Y c && zn (fun d => zB X Y a n d && X d) c)) := rfl
theorem zB_a (X Y : Nat → Bool) (a n : Nat) : zB X Y a n a = true := zit_le (Nat.zero_le n) (decide_eq_true rfl)
theorem zB_Y {X Y : Nat → Bool} {a : Nat} : ∀ {n c : Nat}, zB X Y a n c = true → c = a ∨ Y c = true
  | 0, c, h => .inl (of_decide_eq_true h)
  | n + 1, c, h => by
    rw [zB_s, Bool.or_eq_true, Bool.and_eq_true] at h
    rcases h with h | h
    · exact zB_Y h
    · exact .inr h.1
/-- the new ones of a round are those beside such as came in the last -/
theorem zB_new {X Y : Nat → Bool} {a n e : Nat} (he : e < 64) : (zany (fun c => (zls (zB X Y a) n c && X c) && znb c e) 64 && (!zB X Y a n e && Y e)) = zls (zB X Y a) (n + 1) e := by
  show _ = (zB X Y a (n + 1) e && !zB X Y a n e)
  rw [zB_s]
  cases h0 : zB X Y a n e with
  | true => simp
  | false =>
    cases hY : Y e with
    | false => simp
    | true =>
      rw [Bool.not_false, Bool.and_true, Bool.and_true, Bool.false_or, Bool.true_and, Bool.and_true]
      cases h : zn (fun d => zB X Y a n d && X d) e with
      | true =>
        obtain ⟨d, hd, h1, h2⟩ := (zn_t he).mp h
        rw [Bool.and_eq_true] at h2
        refine zany_t.mpr ⟨d, hd, ?_⟩
        show ((zls (zB X Y a) n d && X d) && znb d e) = true
        rw [h1, h2.2, Bool.and_true, Bool.and_true]
        cases n with
        | zero => exact h2.1
        | succ n =>
          show (zB X Y a (n + 1) d && !zB X Y a n d) = true
          rw [h2.1, Bool.true_and]
          cases h5 : zB X Y a n d with
          | false => rfl
          | true =>
            rw [zB_s, hY, (zn_t he).mpr ⟨d, hd, h1, by show (zB X Y a n d && X d) = true; rw [h5, h2.2]; rfl⟩] at h0
            simp at h0
      | false =>
        refine zany_f.mpr (fun d hd => ?_)
        show ((zls (zB X Y a) n d && X d) && znb d e) = false
        cases h1 : znb d e with
        | false => rw [Bool.and_false]
        | true =>
          rw [Bool.and_true]
          cases h2 : (zls (zB X Y a) n d && X d) with
          | false => rfl
          | true =>
            rw [Bool.and_eq_true] at h2
            have h3 : zB X Y a n d = true := by
              cases n with
              | zero => exact h2.1
              | succ n =>
                have z : (zB X Y a (n + 1) d && !zB X Y a n d) = true := h2.1
                rw [Bool.and_eq_true] at z
                exact z.1
            rw [(zn_t he).mpr ⟨d, hd, h1, by show (zB X Y a n d && X d) = true; rw [h3, h2.2]; rfl⟩] at h
            cases h
theorem zB_cnt (X Y : Nat → Bool) {a : Nat} (ha : a < 64) : 0 < zc (fun i => decide (i = a)) 64 := by
  have := zc_strict (f := fun _ => false) (g := fun i => decide (i = a)) (n := 64) (a := a) (fun c _ h => by cases h) ha rfl (decide_eq_true rfl)
  omega
theorem zB_end (X Y : Nat → Bool) {a : Nat} (ha : a < 64) : ∀ k c, c < 64 → 63 ≤ k → zB X Y a k c = zB X Y a 63 c := by
  obtain ⟨n0, hn0, hst⟩ := zit_end (F := zXY X Y) (D0 := fun i => decide (i = a)) (N := 64) (zXY_cg X Y) (zB_cnt X Y ha)
  intro k c hc hk
  exact (hst k c hc (by omega)).trans (hst 63 c hc (by omega)).symm
/-- labels -/
def zlo2 (o : Option Nat) : Int32 := match o with
  | some k => nI k
  | none => mI
def zlab (D : Nat → Nat → Bool) (n c : Nat) : Int32 := zlo2 (zfi D c n)
theorem zfi_ls {X Y : Nat → Bool} {a n c : Nat} : (zfi (zB X Y a) c n = some n) = (zls (zB X Y a) n c = true) := propext (by
  constructor
  · intro h
    obtain ⟨h1, h2, h3⟩ := zfi_s h
    cases n with
    | zero => exact h2
    | succ n => show (zB X Y a (n + 1) c && !zB X Y a n c) = true; rw [h2, h3 n (by omega)]; rfl
  · intro h
    cases n with
    | zero => exact zfi_of (Nat.le_refl _) h (fun j hj => by omega)
    | succ n =>
      have h : (zB X Y a (n + 1) c && !zB X Y a n c) = true := h
      rw [Bool.and_eq_true, Bool.not_eq_true'] at h
      refine zfi_of (Nat.le_refl _) h.1 (fun j hj => ?_)
      cases e : zB X Y a j c with
      | false => rfl
      | true =>
        have e2 : zB X Y a n c = true := zit_le (show j ≤ n by omega) e
        rw [e2] at h; cases h.2)
theorem zlab_n {X Y : Nat → Bool} {a n c : Nat} (hn : n < 1000) : (zlab (zB X Y a) n c = nI n) = (zls (zB X Y a) n c = true) := by
  rw [← zfi_ls]
  unfold zlab
  refine propext ⟨fun h => ?_, fun h => by rw [h]; rfl⟩
  cases e : zfi (zB X Y a) c n with
  | none =>
    rw [e] at h
    have h : mI = nI n := h
    rw [mI_e2 (by omega)] at h
    exact h.elim
  | some k =>
    rw [e] at h
    have h : nI k = nI n := h
    have := (zfi_s e).1
    rw [zz_eq (by omega) (by omega)] at h
    rw [h]
theorem zlab_m {D : Nat → Nat → Bool} {n c : Nat} (hn : n < 1000) (hm : ∀ j, D j c = true → j ≤ n → D n c = true) : (zlab D n c = mI) = (D n c = false) := by
  unfold zlab
  refine propext ⟨fun h => ?_, fun h => ?_⟩
  · cases e : zfi D c n with
    | none => exact zfi_n e n (Nat.le_refl _)
    | some k =>
      rw [e] at h
      have h : nI k = mI := h
      have := (zfi_s e).1
      rw [mI_e (by omega)] at h
      exact h.elim
  · rw [zfi_no (fun j hj => ?_)]
    · rfl
    · cases e : D j c with
      | false => rfl
      | true => rw [hm j e hj] at h; cases h
theorem zlab_s {X Y : Nat → Bool} {a n c : Nat} : zlab (zB X Y a) (n + 1) c = if zls (zB X Y a) (n + 1) c = true then nI (n + 1) else zlab (zB X Y a) n c := by
  unfold zlab
  by_cases h : zls (zB X Y a) (n + 1) c = true
  · rw [if_pos h, ← zfi_ls] at *
    rw [h]; rfl
  · rw [if_neg h, zfi]
    have h : (zB X Y a (n + 1) c && !zB X Y a n c) ≠ true := h
    cases e : zfi (zB X Y a) c n with
    | some k => rfl
    | none =>
      have e2 := zfi_n e n (Nat.le_refl _)
      rw [e2, Bool.not_false, Bool.and_true] at h
      show zlo2 (if zB X Y a (n + 1) c = true then some (n + 1) else none) = _
      rw [if_neg h]
/-! forth and back -/
def zWf (op : Nat → Bool) (a : Nat) : Nat → Nat → Bool := zB (fun _ => true) op a
def zWb (op : Nat → Bool) (a t : Nat) : Nat → Nat → Bool := zB (fun _ => true) (fun c => op c || decide (c = a)) t
theorem zWf_s (op : Nat → Bool) (a n c : Nat) (hc : c < 64) : zWf op a (n + 1) c = (zWf op a n c || (op c && zn (zWf op a n) c)) := by
  show (zWf op a n c || (op c && zn (fun d => zWf op a n d && true) c)) = _
  rw [zn_cg (fun d _ => Bool.and_true _) hc]
theorem zWb_s (op : Nat → Bool) (a t n c : Nat) (hc : c < 64) : zWb op a t (n + 1) c = (zWb op a t n c || ((op c || decide (c = a)) && zn (zWb op a t n) c)) := by
  show (zWb op a t n c || ((op c || decide (c = a)) && zn (fun d => zWb op a t n d && true) c)) = _
  rw [zn_cg (fun d _ => Bool.and_true _) hc]
def zmt (op : Nat → Bool) (a t i j : Nat) : Prop := ∃ c, c < 64 ∧ zWf op a i c = true ∧ zWb op a t j c = true
theorem zmt_1 {op : Nat → Bool} {a t : Nat} (ht : op t = true) {i j : Nat} : zmt op a t i (j + 1) ↔ zmt op a t (i + 1) j := by
  constructor
  · rintro ⟨c, hc, h1, h2⟩
    rw [zWb_s _ _ _ _ _ hc, Bool.or_eq_true, Bool.and_eq_true] at h2
    rcases h2 with h2 | ⟨h2, h3⟩
    · exact ⟨c, hc, zit_m1 h1, h2⟩
    · obtain ⟨d, hd, h4, h5⟩ := (zn_t hc).mp h3
      refine ⟨d, hd, ?_, h5⟩
      rcases zB_Y h5 with e | e
      · subst e
        rw [zWf_s _ _ _ _ hd, ht, Bool.true_and, (zn_t hd).mpr ⟨c, hc, by rw [znb_c c hc d hd]; exact h4, h1⟩, Bool.or_true]
      · rw [Bool.or_eq_true] at e
        rcases e with e | e
        · rw [zWf_s _ _ _ _ hd, e, Bool.true_and, (zn_t hd).mpr ⟨c, hc, by rw [znb_c c hc d hd]; exact h4, h1⟩, Bool.or_true]
        · have := of_decide_eq_true e
          subst this
          exact zB_a _ _ _ _
  · rintro ⟨c, hc, h1, h2⟩
    rw [zWf_s _ _ _ _ hc, Bool.or_eq_true, Bool.and_eq_true] at h1
    rcases h1 with h1 | ⟨h1, h3⟩
    · exact ⟨c, hc, h1, zit_m1 h2⟩
    · obtain ⟨d, hd, h4, h5⟩ := (zn_t hc).mp h3
      refine ⟨d, hd, h5, ?_⟩
      rw [zWb_s _ _ _ _ _ hd, (zn_t hd).mpr ⟨c, hc, by rw [znb_c c hc d hd]; exact h4, h2⟩, Bool.and_true]
      rcases zB_Y h5 with e | e
      · rw [decide_eq_true e, Bool.or_true, Bool.or_true]
      · rw [e]; simp
theorem zmt_n {op : Nat → Bool} {a t : Nat} (ht : op t = true) : ∀ n j, zmt op a t 0 (n + j) ↔ zmt op a t n j
  | 0, j => by rw [Nat.zero_add]
  | n + 1, j => by
    rw [← zmt_1 ht, ← zmt_n ht n (j + 1), show n + 1 + j = n + (j + 1) by omega]
theorem zfb {op : Nat → Bool} {a t : Nat} (ha : a < 64) (ht : t < 64) (h : op t = true) (n : Nat) : zWf op a n t = zWb op a t n a := by
  have e := zmt_n (a := a) h n 0
  rw [Nat.add_zero] at e
  cases e1 : zWf op a n t with
  | true =>
    obtain ⟨c, hc, h1, h2⟩ := e.mpr ⟨t, ht, e1, decide_eq_true rfl⟩
    have := of_decide_eq_true h1
    subst this
    exact h2.symm
  | false =>
    cases e2 : zWb op a t n a with
    | false => rfl
    | true =>
      obtain ⟨c, hc, h1, h2⟩ := e.mp ⟨a, ha, decide_eq_true rfl, e2⟩
      have := of_decide_eq_true h2
      subst this
      rw [e1] at h1; cases h1
theorem zfi_fb {op : Nat → Bool} {a t : Nat} (ha : a < 64) (ht : t < 64) (h : op t = true) : ∀ n, zfi (zWf op a) t n = zfi (zWb op a t) a n
  | 0 => by unfold zfi; rw [zfb ha ht h]
  | n + 1 => by rw [zfi, zfi, zfi_fb ha ht h n, zfb ha ht h]
theorem zfi_fn {op : Nat → Bool} {a t : Nat} (hat : a ≠ t) (h : op t = false) (n : Nat) : zfi (zWf op a) t n = none := zfi_no (fun j _ => by
  cases e : zWf op a j t with
  | false => rfl
  | true =>
    rcases zB_Y e with e2 | e2
    · exact absurd e2.symm hat
    · rw [h] at e2; cases e2)
/-- how far -/
def zway (op : Nat → Bool) (a t : Nat) : Option Nat := zfi (zWf op a) t 63
theorem zway_0 {op : Nat → Bool} {a : Nat} : zway op a a = some 0 := zfi_of (Nat.zero_le _) (decide_eq_true rfl) (fun j hj => by omega)
theorem zway_le {op : Nat → Bool} {a t k : Nat} (h : zway op a t = some k) : k ≤ 63 := (zfi_s h).1
