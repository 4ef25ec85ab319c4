/-! LOCALS, STATIC FACTS, CONTRACTS of the pure machine on the real one -/
theorem ax_v_cat2 {ad : Nat → Nat → Nat} {v : ax_V} : (ax_v ad v).category = 2 ↔ ∃ x, v = .inr (.inl x) := by
  rcases v with x | x | ⟨k, i⟩ <;> simp [ax_v, Value.category]
theorem ax_v_cat {ad : Nat → Nat → Nat} (v : ax_V) : (ax_v ad v).category ≤ 2 := by
  rcases v with x | x | ⟨k, i⟩ <;> simp [ax_v, Value.category]
theorem ax_sum {ad : Nat → Nat → Nat} : ∀ (r : List ax_V), ((r.map (ax_v ad)).map fun v => v.category).sum = ax_cats r
  | [] => rfl
  | .inl x :: r => by
    have h := ax_sum (ad := ad) r
    show 1 + ((r.map (ax_v ad)).map fun v => v.category).sum = ax_cats r + 1
    rw [h]
    omega
  | .inr (.inl x) :: r => by
    have h := ax_sum (ad := ad) r
    show 2 + ((r.map (ax_v ad)).map fun v => v.category).sum = ax_cats r + 2
    rw [h]
    omega
  | .inr (.inr (k, i)) :: r => by
    have h := ax_sum (ad := ad) r
    show 1 + ((r.map (ax_v ad)).map fun v => v.category).sum = ax_cats r + 1
    rw [h]
    omega
def ax_lh (ad : Nat → Nat → Nat) (nL : Nat) (ls : Array Slot) (lv : ax_L) : Prop := lv.length = nL ∧ ls.size = nL ∧ lv_wf ls ∧ ∀ (j : Nat) (v : ax_V), lv[j]? = some (some v) → ls[j]? = some (.val (ax_v ad v))
def ax_as (ad : Nat → Nat → Nat) (lv : ax_L) : List (Nat × Value) := (List.range lv.length).filterMap (fun j => match lv[j]? with
  | some (some v) => some (j, ax_v ad v)
  | _ => none)
theorem ax_as_mem {ad : Nat → Nat → Nat} {lv : ax_L} {q : Nat × Value} : q ∈ ax_as ad lv ↔ ∃ v, lv[q.1]? = some (some v) ∧ q.2 = ax_v ad v := by
  constructor
  · intro h
    obtain ⟨j, hj, e⟩ := List.mem_filterMap.mp h
    split at e
    next v hv => cases e; exact ⟨v, hv, rfl⟩
    next => cases e
  · rintro ⟨v, h1, h2⟩
    refine List.mem_filterMap.mpr ⟨q.1, List.mem_range.mpr (List.getElem?_eq_some_iff.mp h1).1, ?_⟩
    rw [h1]
    simp [← h2]
theorem ax_lh_has {ad : Nat → Nat → Nat} {nL : Nat} {ls : Array Slot} {lv : ax_L} (h : ax_lh ad nL ls lv) : lv_has ls nL (ax_as ad lv) := ⟨h.2.1, h.2.2.1, fun q hq => by
  obtain ⟨v, h1, h2⟩ := ax_as_mem.mp hq
  rw [h2]
  exact h.2.2.2 _ _ h1⟩
theorem ax_stv_len (lv : ax_L) (i : Nat) (v : ax_V) : (ax_stv lv i v).length = lv.length := by
  unfold ax_stv
  split
  · simp [ax_put_len]
  · split <;> simp [ax_put_len]
theorem ax_stw_len (lv : ax_L) (i : Nat) (v : ax_V) : (ax_stw lv i v).length = lv.length := by
  unfold ax_stw
  rw [ax_put_len, ax_stv_len]
theorem ax_stv_at {lv : ax_L} {i : Nat} {v : ax_V} {j : Nat} {w : ax_V} (h : (ax_stv lv i v)[j]? = some (some w)) : (j = i ∧ w = v) ∨ (j ≠ i ∧ lv[j]? = some (some w) ∧ ¬ (j + 1 = i ∧ ∃ x, w = .inr (.inl x))) := by
  unfold ax_stv at h
  split at h
  · rw [ax_put_at] at h
    split at h
    next z => left; simp only [Option.some.injEq] at h; exact ⟨z.1, h.symm⟩
    next z =>
      right
      refine ⟨fun e => ?_, h, fun y => by omega⟩
      subst e
      exact z ⟨rfl, (List.getElem?_eq_some_iff.mp h).1⟩
  · rename_i i
    split at h
    next x hx =>
      rw [ax_put_at] at h
      split at h
      next z => left; simp only [Option.some.injEq] at h; exact ⟨z.1, h.symm⟩
      next z =>
        rw [ax_put_len] at z
        rw [ax_put_at] at h
        split at h
        next y => simp at h
        next y =>
          have hl := (List.getElem?_eq_some_iff.mp h).1
          right
          refine ⟨fun e => ?_, h, fun q => ?_⟩
          · subst e
            exact z ⟨rfl, hl⟩
          · have e : j = i := by omega
            subst e
            exact y ⟨rfl, hl⟩
    next hx =>
      rw [ax_put_at] at h
      split at h
      next z => left; simp only [Option.some.injEq] at h; exact ⟨z.1, h.symm⟩
      next z =>
        have hl := (List.getElem?_eq_some_iff.mp h).1
        right
        refine ⟨fun e => ?_, h, fun q => ?_⟩
        · subst e
          exact z ⟨rfl, hl⟩
        · have e : j = i := by omega
          subst e
          obtain ⟨x, hw⟩ := q.2
          rw [hw, ← ax_nth_eq] at h
          exact hx x h
theorem ax_lh_1 {ad : Nat → Nat → Nat} {nL : Nat} {ls : Array Slot} {lv : ax_L} {i : Nat} {v : ax_V} (hl : lv.length = nL) (h : lv_has ls nL ((i, ax_v ad v) :: (ax_as ad lv).filter (fun q => !(q.1 == i) && !(q.1 + 1 == i && q.2.category == 2)))) : ax_lh ad nL ls (ax_stv lv i v) := by
  refine ⟨(ax_stv_len lv i v).trans hl, h.1, h.2.1, fun j w hw => ?_⟩
  rcases ax_stv_at hw with ⟨rfl, rfl⟩ | ⟨h1, h2, h3⟩
  · exact h.2.2 _ List.mem_cons_self
  · refine h.2.2 (j, ax_v ad w) (List.mem_cons_of_mem _ (List.mem_filter.mpr ⟨ax_as_mem.mpr ⟨w, h2, rfl⟩, ?_⟩))
    have e1 : (j == i) = false := by simp [h1]
    have e2 : (j + 1 == i && (ax_v ad w).category == 2) = false := by
      by_cases e : j + 1 = i
      · have : ¬ (ax_v ad w).category = 2 := fun q => h3 ⟨e, ax_v_cat2.mp q⟩
        simp [this]
      · simp [e]
    show (!(j == i) && !(j + 1 == i && (ax_v ad w).category == 2)) = true
    rw [e1, e2]
    rfl
theorem ax_lh_2 {ad : Nat → Nat → Nat} {nL : Nat} {ls : Array Slot} {lv : ax_L} {i : Nat} {v : ax_V} (hl : lv.length = nL) (hi : i + 1 < nL) (h : lv_has ls nL ((i, ax_v ad v) :: (ax_as ad lv).filter (fun q => !(q.1 == i) && (!(q.1 == i + 1) && !(q.1 + 1 == i && q.2.category == 2))))) : ax_lh ad nL ls (ax_stw lv i v) := by
  refine ⟨(ax_stw_len lv i v).trans hl, h.1, h.2.1, fun j w hw => ?_⟩
  unfold ax_stw at hw
  rw [ax_put_at, ax_stv_len] at hw
  split at hw
  next z => simp at hw
  next z =>
    have hj : ¬ j = i + 1 := fun e => z ⟨e, by omega⟩
    rcases ax_stv_at hw with ⟨rfl, rfl⟩ | ⟨h1, h2, h3⟩
    · exact h.2.2 _ List.mem_cons_self
    · refine h.2.2 (j, ax_v ad w) (List.mem_cons_of_mem _ (List.mem_filter.mpr ⟨ax_as_mem.mpr ⟨w, h2, rfl⟩, ?_⟩))
      have e1 : (j == i) = false := by simp [h1]
      have e3 : (j == i + 1) = false := by simp [hj]
      have e2 : (j + 1 == i && (ax_v ad w).category == 2) = false := by
        by_cases e : j + 1 = i
        · have : ¬ (ax_v ad w).category = 2 := fun q => h3 ⟨e, ax_v_cat2.mp q⟩
          simp [this]
        · simp [e]
      show (!(j == i) && (!(j == i + 1) && !(j + 1 == i && (ax_v ad w).category == 2))) = true
      rw [e1, e2, e3]
      rfl
theorem ax_stv_ok {lv : ax_L} {i : Nat} {v : ax_V} (hv : ax_okv v) (h : ∀ (j : Nat) (w : ax_V), lv[j]? = some (some w) → ax_okv w) : ∀ (j : Nat) (w : ax_V), (ax_stv lv i v)[j]? = some (some w) → ax_okv w := by
  intro j w hw
  rcases ax_stv_at hw with ⟨-, rfl⟩ | ⟨-, h2, -⟩
  · exact hv
  · exact h j w h2
theorem ax_stw_ok {lv : ax_L} {i : Nat} {v : ax_V} (hv : ax_okv v) (h : ∀ (j : Nat) (w : ax_V), lv[j]? = some (some w) → ax_okv w) : ∀ (j : Nat) (w : ax_V), (ax_stw lv i v)[j]? = some (some w) → ax_okv w := by
  intro j w hw
  unfold ax_stw at hw
  rw [ax_put_at] at hw
  split at hw
  next z => simp at hw
  next z => exact ax_stv_ok hv h j w hw
theorem ax_ent_len (ad : Nat → Nat → Nat) : ∀ (a : List ax_V), (lg_sl (a.map (ax_v ad))).length = (ax_ent a).length
  | [] => rfl
  | .inl x :: a => by
    have e : lg_sl ((Sum.inl x :: a).map (ax_v ad)) = Slot.val (.int x) :: lg_sl (a.map (ax_v ad)) := rfl
    rw [e, List.length_cons, ax_ent_len ad a]
    rfl
  | .inr (.inl x) :: a => by
    have e : lg_sl ((Sum.inr (Sum.inl x) :: a).map (ax_v ad)) = Slot.val (.long x) :: Slot.second :: lg_sl (a.map (ax_v ad)) := rfl
    rw [e, List.length_cons, List.length_cons, ax_ent_len ad a]
    rfl
  | .inr (.inr (k, i)) :: a => by
    have e : lg_sl ((Sum.inr (Sum.inr (k, i)) :: a).map (ax_v ad)) = Slot.val (.ref (ad k i)) :: lg_sl (a.map (ax_v ad)) := rfl
    rw [e, List.length_cons, ax_ent_len ad a]
    rfl
theorem ax_ent_at (ad : Nat → Nat → Nat) : ∀ (a : List ax_V) (i j : Nat) (v : ax_V), (ax_ent a)[j]? = some (some v) → (i + j, ax_v ad v) ∈ lv_args i (a.map (ax_v ad))
  | [], i, j, v, h => by simp [ax_ent] at h
  | .inl x :: a, i, 0, v, h => by
    simp [ax_ent] at h
    subst h
    simp [lv_args]
  | .inl x :: a, i, j + 1, v, h => by
    simp only [ax_ent, List.getElem?_cons_succ] at h
    have h1 := ax_ent_at ad a (i + 1) j v h
    simp only [List.map_cons, ax_v, lv_args, Value.category, List.mem_cons]
    right
    rw [show i + (j + 1) = i + 1 + j by omega]
    exact h1
  | .inr (.inl x) :: a, i, 0, v, h => by
    simp [ax_ent] at h
    subst h
    simp [lv_args]
  | .inr (.inl x) :: a, i, 1, v, h => by simp [ax_ent] at h
  | .inr (.inl x) :: a, i, j + 2, v, h => by
    simp only [ax_ent, List.getElem?_cons_succ] at h
    have h1 := ax_ent_at ad a (i + 2) j v h
    simp only [List.map_cons, ax_v, lv_args, Value.category, List.mem_cons]
    right
    rw [show i + (j + 2) = i + 2 + j by omega]
    exact h1
  | .inr (.inr (k, z)) :: a, i, 0, v, h => by
    simp [ax_ent] at h
    subst h
    simp [lv_args]
  | .inr (.inr (k, z)) :: a, i, j + 1, v, h => by
    simp only [ax_ent, List.getElem?_cons_succ] at h
    have h1 := ax_ent_at ad a (i + 1) j v h
    simp only [List.map_cons, ax_v, lv_args, Value.category, List.mem_cons]
    right
    rw [show i + (j + 1) = i + 1 + j by omega]
    exact h1
theorem ax_entry_of {a : List ax_V} {n j : Nat} {v : ax_V} (hv : (ax_entry a n)[j]? = some (some v)) : (ax_ent a)[j]? = some (some v) := by
  unfold ax_entry at hv
  by_cases hj : j < (ax_ent a).length
  · rwa [List.getElem?_append_left hj] at hv
  · rw [List.getElem?_append_right (by omega)] at hv
    simp [List.getElem?_replicate] at hv
theorem ax_lh_entry {ad : Nat → Nat → Nat} (a : List ax_V) (n : Nat) (h : (ax_ent a).length ≤ n) : ax_lh ad n ((lg_sl (a.map (ax_v ad)) ++ List.replicate (n - (lg_sl (a.map (ax_v ad))).length) Slot.unset).toArray) (ax_entry a n) := by
  have h1 := lv_entry (a.map (ax_v ad)) (n := n) (by rw [ax_ent_len]; exact h)
  refine ⟨by simp [ax_entry]; omega, h1.1, h1.2.1, fun j v hv => ?_⟩
  have h2 := ax_ent_at ad a 0 j v (ax_entry_of hv)
  rw [Nat.zero_add] at h2
  exact h1.2.2 _ h2
theorem ax_ent_ok : ∀ (a : List ax_V), (∀ v ∈ a, ax_okv v) → ∀ (j : Nat) (v : ax_V), (ax_ent a)[j]? = some (some v) → ax_okv v
  | [], _, j, v, h => by simp [ax_ent] at h
  | .inl x :: a, _, j, v, h => by
    cases j with
    | zero => simp [ax_ent] at h; subst h; trivial
    | succ j => exact ax_ent_ok a (fun v hv => by simp_all) j v (by simpa [ax_ent] using h)
  | .inr (.inl x) :: a, hk, j, v, h => by
    match j, h with
    | 0, h => simp [ax_ent] at h; subst h; trivial
    | 1, h => simp [ax_ent] at h
    | j + 2, h => exact ax_ent_ok a (fun v hv => hk v (List.mem_cons_of_mem _ hv)) j v (by simpa [ax_ent] using h)
  | .inr (.inr (k, z)) :: a, hk, j, v, h => by
    cases j with
    | zero => simp [ax_ent] at h; subst h; exact hk _ List.mem_cons_self
    | succ j => exact ax_ent_ok a (fun v hv => hk v (List.mem_cons_of_mem _ hv)) j v (by simpa [ax_ent] using h)
/-! what stands outside the world: static rows, literals, links between nest mates -/
def ax_tx (i : Nat) : String := match i with
  | 0 => "wall"
  | 1 => "open"
  | 2 => "person"
  | 3 => "owes"
  | 4 => "seed"
  | _ => "go"
def ax_lens : List Nat := [4, 4, 6, 4, 4, 2]
def ax_tys (Ca : Nat → ClassId) : List (ClassId × FieldType) := [(Ca 1, .int), (Ca 2, .boolean), (Ca 3, .long), (Ca 4, .object RX6), (Ca 5, .object RX7)]
def ax_sn (k : Nat) : String := if k = 40 then "ABOVE" else "SPANS"
def ax_St (D : va_G) (Ca : Nat → ClassId) (ad : Nat → Nat → Nat) (adV : Nat → Nat) (U : State) : Prop := va_K D vwCl (ax_tys Ca) U ∧ (∀ w ∈ ax_N, va_Nw w U) ∧ (∀ k, k = 40 ∨ k = 41 → va_Z RX6 (ax_sn k) "[I" (.ref (ad k 0)) (ax_A ad) U U.heap ∧ va_T .int (ad k 0) 6 (fun j => .int (ax_sta k j)) (ax_A ad) U U.heap) ∧ (∀ q ∈ ax_sr, vk_R (ax_cn q.1) q.2.1 (ax_tx q.2.2) (ad 42 q.2.2) U) ∧ vk_S 6 ax_lens ax_lit (ad 42) adV (ax_A ad) U U.heap ∧ va_Z "java/lang/String" "COMPACT_STRINGS" "Z" (.int 1) (ax_A ad) U U.heap ∧ va_Zq "jdk/internal/util/Preconditions" "SIOOBE_FORMATTER" "Ljava/util/function/BiFunction;" (ax_A ad) U U.heap
theorem ax_N_form : ∀ w ∈ ax_N, (∃ a i b n d h, w = .fieldLinkNest a i b n d h) ∨ (∃ a i x h, w = .methodLinkNest a i x h) := by
  intro w hw
  rcases List.mem_append.mp hw with h | h
  · obtain ⟨q, -, rfl⟩ := List.mem_map.mp h
    exact Or.inl ⟨_, _, _, _, _, _, rfl⟩
  · obtain ⟨q, -, rfl⟩ := List.mem_map.mp h
    exact Or.inr ⟨_, _, _, _, rfl⟩
theorem ax_St.go {D : va_G} {Ca : Nat → ClassId} {ad : Nat → Nat → Nat} {adV : Nat → Nat} {U U2 : State} (hW : U.WarmedH U2.vm) (hq : ∀ a : Nat, a < U.heap.size → ¬ ax_A ad a → U2.heap[a]? = U.heap[a]?) (h : ax_St D Ca ad adV U) : ax_St D Ca ad adV U2 := by
  obtain ⟨h1, h2, h3, h4, h5, h6, h7⟩ := h
  refine ⟨va_K.moved hW.alike h1, fun w hw => ?_, fun k hk => ⟨((h3 k hk).1.moved hW.alike).kept hq, ((h3 k hk).2.moved hW.alike).kept hq⟩, fun q hq => vk_R.warm hW (h4 q hq), (h5.moved hW.alike).kept hq, (h6.moved hW.alike).kept hq, (h7.moved hW.alike).kept hq⟩
  have h9 := h2 w hw
  rcases ax_N_form w hw with ⟨a, i, b, n, d, h, rfl⟩ | ⟨a, i, x, h, rfl⟩
  · exact va_Nw.warmF hW h9
  · exact va_Nw.warmM hW h9
def ax_Pc (D : va_G) (Ca : Nat → ClassId) (ad : Nat → Nat → Nat) (adV : Nat → Nat) (a : List ax_V) (m : ax_M) : Array Value → State → Prop := va_Pc (a.map (ax_v ad)) (fun U => va_P D vwCl (ax_ws Ca ad m) U.heap ∧ ax_St D Ca ad adV U)
def ax_Qc (D : va_G) (Ca : Nat → ClassId) (ad : Nat → Nat → Nat) (r : ax_R) : Array Value → State → Outcome → State → Prop := fun _ st o t => o = .returned (r.1.map (ax_v ad)) ∧ va_P D vwCl (ax_ws Ca ad r.2) t.heap ∧ va_F (ax_A ad) st t
def ax_rm (d : Nat) : Room := { frames := d, cells := 0, slots := 0, locals := 60 * d }
theorem ax_blind {D : va_G} {Ca : Nat → ClassId} {ad : Nat → Nat → Nat} {adV : Nat → Nat} {a : List ax_V} {m : ax_M} : FrameBlind (ax_Pc D Ca ad adV a m) := fun v U g mk q => ⟨q.1, q.2.1, ax_St.go (U := U) (U2 := U.calling g mk v) (State.WarmedH.refl U) (fun _ _ _ => rfl) q.2.2⟩
theorem ax_pre {D : va_G} {Ca : Nat → ClassId} {ad : Nat → Nat → Nat} {adV : Nat → Nat} {a : List ax_V} {m : ax_M} {s : State} {H : Heap} {locs : List Loc} (hP : va_P D vwCl (ax_ws Ca ad m) H) (hS : va_S (ax_A ad) s.heap H locs) (hSt : ax_St D Ca ad adV s) (U : State) (hU : U.heap = H) (hW : s.WarmedH U.vm) : ax_Pc D Ca ad adV a m (a.map (ax_v ad)).toArray U := ⟨rfl, by rw [hU]; exact hP, ax_St.go hW (fun q h1 h2 => by rw [hU]; exact hS.2.1 q h1 h2) hSt⟩
