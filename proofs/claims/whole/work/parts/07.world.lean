/-! THE WORLD of a memory of the pure machine: its cells on the heap -/
theorem ax_nth_eq {α : Type} : ∀ (l : List α) (n : Nat), ax_nth l n = l[n]?
  | [], n => by simp [ax_nth]
  | a :: l, 0 => by simp [ax_nth]
  | a :: l, n + 1 => by simp [ax_nth, ax_nth_eq l n]
theorem ax_put_len {α : Type} : ∀ (l : List α) (n : Nat) (v : α), (ax_put l n v).length = l.length
  | [], n, v => rfl
  | a :: l, 0, v => rfl
  | a :: l, n + 1, v => by simp [ax_put, ax_put_len l n v]
theorem ax_put_at {α : Type} : ∀ (l : List α) (n : Nat) (v : α) (j : Nat), (ax_put l n v)[j]? = if j = n ∧ n < l.length then some v else l[j]?
  | [], n, v, j => by simp [ax_put]
  | a :: l, 0, v, 0 => by simp [ax_put]
  | a :: l, 0, v, j + 1 => by simp [ax_put]
  | a :: l, n + 1, v, 0 => by simp [ax_put]
  | a :: l, n + 1, v, j + 1 => by
    simp only [ax_put, List.getElem?_cons_succ, ax_put_at l n v j, List.length_cons]
    by_cases h : j = n ∧ n < l.length
    · rw [if_pos h, if_pos (by omega)]
    · rw [if_neg h, if_neg (by omega)]
def ax_ids : List (Nat × Nat) := (List.range 40).flatMap fun k => (List.range (ax_cnt k)).map fun i => (k, i)
theorem ax_ids_mem {k i : Nat} (hk : k < 40) (hi : i < ax_cnt k) : ∃ p : Nat, ax_ids[p]? = some (k, i) := by
  have h : (k, i) ∈ ax_ids := List.mem_flatMap.mpr ⟨k, List.mem_range.mpr hk, List.mem_map.mpr ⟨i, List.mem_range.mpr hi, rfl⟩⟩
  exact List.getElem?_of_mem h
theorem ax_ids_of {p k i : Nat} (h : ax_ids[p]? = some (k, i)) : k < 40 ∧ i < ax_cnt k := by
  obtain ⟨k', hk', h2⟩ := List.mem_flatMap.mp (List.mem_of_getElem? h)
  obtain ⟨i', hi', e⟩ := List.mem_map.mp h2
  cases e
  exact ⟨List.mem_range.mp hk', List.mem_range.mp hi'⟩
theorem ax_ids_nd : ax_ids.Nodup := by decide +kernel
theorem ax_ids_inj {p p' : Nat} {q : Nat × Nat} (h : ax_ids[p]? = some q) (h' : ax_ids[p']? = some q) : p = p' :=
  (List.getElem?_inj (List.getElem?_eq_some_iff.mp h).1 ax_ids_nd).mp (h.trans h'.symm)
def ax_fv (ad : Nat → Nat → Nat) (m : ax_M) (k i j : Nat) (f : Nat × (Nat × Nat)) : Value := match f with
  | (0, _) => .int (m.1 k i j)
  | (1, _) => .long (m.2 k i j)
  | (2, (q, _)) => .ref (ad q i)
  | (3, (q, z)) => .ref (ad q z)
  | (4, _) => .int (m.1 k i j)
  | _ => .null
def ax_fs (ad : Nat → Nat → Nat) (m : ax_M) (k i : Nat) : List Value := (ax_fd k).mapIdx (fun j f => ax_fv ad m k i j f)
def ax_cell (Ca : Nat → ClassId) (ad : Nat → Nat → Nat) (m : ax_M) (k i : Nat) : va_E := match ax_ty k with
  | 0 => .inr ((ax_ct k).1, ax_fs ad m k i)
  | 1 => .inl (Ca 1, (ax_len k, .inl (m.1 k i)))
  | 2 => .inl (Ca 2, (ax_len k, .inl (m.1 k i)))
  | 3 => .inl (Ca 3, (ax_len k, .inr (.inl (m.2 k i))))
  | 4 => .inl (Ca 4, (ax_len k, .inr (.inr (.inr (.inr (fun j => some (ad 6 (16 * i + j))))))))
  | _ => .inl (Ca 5, (ax_len k, .inr (.inr (.inr (.inr (fun j => some (ad 8 (8 * i + j))))))))
def ax_ws (Ca : Nat → ClassId) (ad : Nat → Nat → Nat) (m : ax_M) : va_W := ax_ids.map (fun q => (ad q.1 q.2, ax_cell Ca ad m q.1 q.2))
theorem ax_ws_at {Ca : Nat → ClassId} {ad : Nat → Nat → Nat} {m : ax_M} {p k i : Nat} (h : ax_ids[p]? = some (k, i)) : (ax_ws Ca ad m)[p]? = some (ad k i, ax_cell Ca ad m k i) := by
  simp [ax_ws, h]
theorem ax_ws_set {Ca : Nat → ClassId} {ad : Nat → Nat → Nat} {m m' : ax_M} {p k i : Nat} {e : va_E} (h : ax_ids[p]? = some (k, i)) (h1 : ax_cell Ca ad m' k i = e) (h2 : ∀ k' i' : Nat, ¬ (k' = k ∧ i' = i) → ax_cell Ca ad m' k' i' = ax_cell Ca ad m k' i') : (ax_ws Ca ad m).set p (ad k i, e) = ax_ws Ca ad m' := by
  have hl : p < (ax_ws Ca ad m).length := by simp [ax_ws]; exact (List.getElem?_eq_some_iff.mp h).1
  apply List.ext_getElem?
  intro q
  by_cases hq : q = p
  · subst hq
    rw [List.getElem?_set_self hl, ax_ws_at h, h1]
  · rw [List.getElem?_set_ne (Ne.symm hq)]
    cases hz : ax_ids[q]? with
    | none => simp [ax_ws, hz]
    | some z =>
      obtain ⟨k', i'⟩ := z
      rw [ax_ws_at hz, ax_ws_at hz, h2 k' i' (fun z => hq (ax_ids_inj hz (by rw [z.1, z.2]; exact h)))]
def ax_A (ad : Nat → Nat → Nat) : Nat → Prop := fun q => ∃ k i : Nat, k < 40 ∧ i < ax_cnt k ∧ q = ad k i
def ax_inj (ad : Nat → Nat → Nat) : Prop := ∀ k i k' i' : Nat, k < 40 → i < ax_cnt k → k' < 40 → i' < ax_cnt k' → ad k i = ad k' i' → k = k' ∧ i = i'
theorem ax_D {Ca : Nat → ClassId} {ad : Nat → Nat → Nat} (h : ax_inj ad) (m : ax_M) : va_D (ax_A ad) (ax_ws Ca ad m) := by
  have key : ∀ (i : Nat) (p : Nat × va_E), (ax_ws Ca ad m)[i]? = some p → ∃ k j, ax_ids[i]? = some (k, j) ∧ p.1 = ad k j := by
    intro i p hi
    simp only [ax_ws, List.getElem?_map, Option.map_eq_some_iff] at hi
    obtain ⟨⟨k, j⟩, h1, h2⟩ := hi
    exact ⟨k, j, h1, by rw [← h2]⟩
  refine ⟨fun i j p q hi hj hpq => ?_, fun k q hk => ?_⟩
  · obtain ⟨k1, j1, a1, b1⟩ := key i p hi
    obtain ⟨k2, j2, a2, b2⟩ := key j q hj
    obtain ⟨c1, c2⟩ := ax_ids_of a1
    obtain ⟨c3, c4⟩ := ax_ids_of a2
    obtain ⟨e1, e2⟩ := h k1 j1 k2 j2 c1 c2 c3 c4 (by rw [← b1, ← b2]; exact hpq)
    subst e1; subst e2
    exact ax_ids_inj a1 a2
  · obtain ⟨k1, j1, a1, b1⟩ := key k q hk
    obtain ⟨c1, c2⟩ := ax_ids_of a1
    exact ⟨k1, j1, c1, c2, b1⟩
/-- what one change of the memory does to the cells -/
theorem ax_fs_len (ad : Nat → Nat → Nat) (m : ax_M) (k i : Nat) : (ax_fs ad m k i).length = (ax_fd k).length := by simp [ax_fs]
theorem ax_fs_at {ad : Nat → Nat → Nat} {m : ax_M} {k i j : Nat} {f : Nat × (Nat × Nat)} (h : ax_nth (ax_fd k) j = some f) : (ax_fs ad m k i)[j]? = some (ax_fv ad m k i j f) := by
  rw [ax_nth_eq] at h
  simp [ax_fs, List.getElem?_mapIdx, h]
theorem ax_fv_ui {ad : Nat → Nat → Nat} {m : ax_M} {k i j k' i' j' : Nat} {x : Int32} (f : Nat × (Nat × Nat)) (h : ¬ (k' = k ∧ i' = i ∧ j' = j)) : ax_fv ad (ax_ui m k i j x) k' i' j' f = ax_fv ad m k' i' j' f := by
  unfold ax_fv
  split <;> simp [ax_ui, h]
theorem ax_fv_ul {ad : Nat → Nat → Nat} {m : ax_M} {k i j k' i' j' : Nat} {x : Int64} (f : Nat × (Nat × Nat)) (h : ¬ (k' = k ∧ i' = i ∧ j' = j)) : ax_fv ad (ax_ul m k i j x) k' i' j' f = ax_fv ad m k' i' j' f := by
  unfold ax_fv
  split <;> simp [ax_ul, h]
theorem ax_fs_ui {ad : Nat → Nat → Nat} {m : ax_M} {k i j : Nat} {x : Int32} {f : Nat × (Nat × Nat)} (h : ax_nth (ax_fd k) j = some f) (hf : f.1 = 0 ∨ f.1 = 4) : ax_fs ad (ax_ui m k i j x) k i = (ax_fs ad m k i).set j (.int x) := by
  rw [ax_nth_eq] at h
  have hl : j < (ax_fd k).length := (List.getElem?_eq_some_iff.mp h).1
  apply List.ext_getElem?
  intro q
  by_cases hq : q = j
  · subst hq
    rw [List.getElem?_set_self (by rw [ax_fs_len]; exact hl)]
    simp only [ax_fs, List.getElem?_mapIdx, h, Option.map_some]
    obtain ⟨t, z⟩ := f
    rcases hf with hf | hf <;> (dsimp only at hf; subst hf; simp [ax_fv, ax_ui])
  · rw [List.getElem?_set_ne (Ne.symm hq)]
    simp only [ax_fs, List.getElem?_mapIdx]
    cases (ax_fd k)[q]? with
    | none => rfl
    | some g => simp only [Option.map_some]; rw [ax_fv_ui g (fun z => hq z.2.2)]
theorem ax_fs_ul {ad : Nat → Nat → Nat} {m : ax_M} {k i j : Nat} {x : Int64} {f : Nat × (Nat × Nat)} (h : ax_nth (ax_fd k) j = some f) (hf : f.1 = 1) : ax_fs ad (ax_ul m k i j x) k i = (ax_fs ad m k i).set j (.long x) := by
  rw [ax_nth_eq] at h
  have hl : j < (ax_fd k).length := (List.getElem?_eq_some_iff.mp h).1
  apply List.ext_getElem?
  intro q
  by_cases hq : q = j
  · subst hq
    rw [List.getElem?_set_self (by rw [ax_fs_len]; exact hl)]
    simp only [ax_fs, List.getElem?_mapIdx, h, Option.map_some]
    obtain ⟨t, z⟩ := f
    dsimp only at hf
    subst hf
    simp [ax_fv, ax_ul]
  · rw [List.getElem?_set_ne (Ne.symm hq)]
    simp only [ax_fs, List.getElem?_mapIdx]
    cases (ax_fd k)[q]? with
    | none => rfl
    | some g => simp only [Option.map_some]; rw [ax_fv_ul g (fun z => hq z.2.2)]
theorem ax_fs_congr {ad : Nat → Nat → Nat} {m m' : ax_M} {k i : Nat} (h1 : m'.1 k i = m.1 k i) (h2 : m'.2 k i = m.2 k i) : ax_fs ad m' k i = ax_fs ad m k i := by
  have e : ∀ (j : Nat) (f : Nat × (Nat × Nat)), ax_fv ad m' k i j f = ax_fv ad m k i j f := by
    intro j f
    unfold ax_fv
    split <;> simp [h1, h2]
  simp only [ax_fs, e]
theorem ax_cell_congr {Ca : Nat → ClassId} {ad : Nat → Nat → Nat} {m m' : ax_M} {k i : Nat} (h1 : m'.1 k i = m.1 k i) (h2 : m'.2 k i = m.2 k i) : ax_cell Ca ad m' k i = ax_cell Ca ad m k i := by
  unfold ax_cell
  rw [ax_fs_congr h1 h2, h1, h2]
theorem ax_ui_ne {m : ax_M} {k i j k' i' : Nat} {x : Int32} (h : ¬ (k' = k ∧ i' = i)) : (ax_ui m k i j x).1 k' i' = m.1 k' i' := by
  funext z
  simp only [ax_ui]
  rw [if_neg (fun q => h ⟨q.1, q.2.1⟩)]
theorem ax_ul_ne {m : ax_M} {k i j k' i' : Nat} {x : Int64} (h : ¬ (k' = k ∧ i' = i)) : (ax_ul m k i j x).2 k' i' = m.2 k' i' := by
  funext z
  simp only [ax_ul]
  rw [if_neg (fun q => h ⟨q.1, q.2.1⟩)]
theorem ax_ui_at {m : ax_M} {k i j : Nat} {x : Int32} : (ax_ui m k i j x).1 k i = upd (m.1 k i) j x := by
  funext z
  simp [ax_ui, upd]
theorem ax_ul_at {m : ax_M} {k i j : Nat} {x : Int64} : (ax_ul m k i j x).2 k i = vp_updL (m.2 k i) j x := by
  funext z
  simp [ax_ul, vp_updL]
/-- facts of the kinds, by looking -/
theorem ax_obj_ok : ∀ k ∈ ax_obj, ax_ty k = 0 ∧ k < 40 ∧ vwCl[(ax_ct k).1]? = some (ax_ct k).2 ∧ (ax_fd k).length = (ax_ct k).2.2.2 := by
  intro k hk
  simp only [ax_obj, List.mem_cons, List.not_mem_nil, or_false] at hk
  rcases hk with rfl | rfl | rfl | rfl | rfl | rfl | rfl | rfl | rfl | rfl | rfl <;> exact ⟨rfl, by decide, rfl, rfl⟩
theorem ax_obj_ty : ∀ k ∈ ax_obj, ∃ ty : Nat → FieldType, (∀ j, j < (ax_ct k).2.2.2 → parseFieldDescriptor ((ax_ct k).2.2.1 j).2.2.1 = some (ty j)) ∧ ∀ a, a < (ax_ct k).2.2.2 → ∀ b, b < (ax_ct k).2.2.2 → a ≠ b → ((ax_ct k).2.2.1 a).2.1 ≠ ((ax_ct k).2.2.1 b).2.1 := by
  intro k hk
  simp only [ax_obj, List.mem_cons, List.not_mem_nil, or_false] at hk
  rcases hk with rfl | rfl | rfl | rfl | rfl | rfl | rfl | rfl | rfl | rfl | rfl
  · exact ⟨tyX10, tyX10_ok, nmX10⟩
  · exact ⟨tyX3, tyX3_ok, nmX3⟩
  · exact ⟨tyX2, tyX2_ok, nmX2⟩
  · exact ⟨tyX6, tyX6_ok, nmX6⟩
  · exact ⟨tyX7, tyX7_ok, nmX7⟩
  · exact ⟨tyX8, tyX8_ok, nmX8⟩
  · exact ⟨tyX4, tyX4_ok, nmX4⟩
  · exact ⟨tyX9, tyX9_ok, nmX9⟩
  · exact ⟨tyX5, tyX5_ok, nmX5⟩
  · exact ⟨tyX1, tyX1_ok, nmX1⟩
  · exact ⟨tyX11, tyX11_ok, nmX11⟩
theorem ax_obj_in : ∀ k ∈ ax_obj, ∀ w ∈ u_ws (ax_ct k).2.1 (ax_ct k).2.2.1 (ax_ct k).2.2.2, w ∈ ax_W := by
  intro k hk w hw
  have h : w ∈ ax_W8 := List.mem_flatMap.mpr ⟨k, hk, hw⟩
  unfold ax_W
  simp only [List.mem_append]
  exact Or.inr (Or.inr (Or.inr (Or.inr (Or.inr (Or.inr (Or.inr (Or.inl h)))))))
def ax_pchk (k j : Nat) : Bool := match ax_nth (ax_fd k) j with
  | some (0, _) => ((ax_ct k).2.2.1 j).2.2.2 == false && decide (parseFieldDescriptor ((ax_ct k).2.2.1 j).2.2.1 = some .int)
  | some (4, _) => ((ax_ct k).2.2.1 j).2.2.2 == false && decide (parseFieldDescriptor ((ax_ct k).2.2.1 j).2.2.1 = some .boolean)
  | some (1, _) => ((ax_ct k).2.2.1 j).2.2.2 == false && decide (parseFieldDescriptor ((ax_ct k).2.2.1 j).2.2.1 = some .long)
  | _ => true
theorem ax_pchk_ok : (ax_obj.all fun k => (List.range 30).all fun j => ax_pchk k j) = true := by decide +kernel
theorem ax_fdlen : ∀ k ∈ ax_obj, (ax_fd k).length ≤ 30 := by decide +kernel
theorem ax_pchk_at {k j : Nat} {f : Nat × (Nat × Nat)} (hk : k ∈ ax_obj) (h : ax_nth (ax_fd k) j = some f) : ax_pchk k j = true := by
  have hj : j < 30 := by
    rw [ax_nth_eq] at h
    exact Nat.lt_of_lt_of_le (List.getElem?_eq_some_iff.mp h).1 (ax_fdlen k hk)
  exact List.all_eq_true.mp (List.all_eq_true.mp ax_pchk_ok k hk) j (List.mem_range.mpr hj)
def ax_v (ad : Nat → Nat → Nat) : ax_V → Value
  | .inl x => .int x
  | .inr (.inl x) => .long x
  | .inr (.inr (k, i)) => .ref (ad k i)
def ax_okv (v : ax_V) : Prop := match v with
  | .inr (.inr (k, i)) => i < ax_cnt k
  | _ => True
/-- a field's new value -/
theorem ax_cell_pi {Ca : Nat → ClassId} {ad : Nat → Nat → Nat} {m : ax_M} {k i j : Nat} {x : Int32} {f : Nat × (Nat × Nat)} (hk : k ∈ ax_obj) (h : ax_nth (ax_fd k) j = some f) (hf : f.1 = 0 ∨ f.1 = 4) : ax_cell Ca ad (ax_ui m k i j x) k i = .inr ((ax_ct k).1, (ax_fs ad m k i).set j (.int x)) := by
  unfold ax_cell
  rw [(ax_obj_ok k hk).1, ax_fs_ui h hf]
  rfl
theorem ax_cell_pl {Ca : Nat → ClassId} {ad : Nat → Nat → Nat} {m : ax_M} {k i j : Nat} {x : Int64} {f : Nat × (Nat × Nat)} (hk : k ∈ ax_obj) (h : ax_nth (ax_fd k) j = some f) (hf : f.1 = 1) : ax_cell Ca ad (ax_ul m k i j x) k i = .inr ((ax_ct k).1, (ax_fs ad m k i).set j (.long x)) := by
  unfold ax_cell
  rw [(ax_obj_ok k hk).1, ax_fs_ul h hf]
  rfl
