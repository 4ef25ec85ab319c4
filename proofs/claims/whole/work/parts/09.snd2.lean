/-! ONE STEP: what the pure machine does at an instruction, the machine does -/
section SND
variable {p : Program} {l : Launch} {e : Env} {R : Room} {s : State} {m : MethodId} {args : Array Value} {below : List Frame} {meth : Method} {c : Code} {Q : State → Prop} {D : va_G} {Ca : Nat → ClassId} {ad : Nat → Nat → Nat} {adV : Nat → Nat} {bytes : ByteArray} {nL : Nat} {own : String} {Ts : List Jvm.Cond}
def ax_Gd (p : Program) (l : Launch) (e : Env) (R : Room) (s : State) (m : MethodId) (args : Array Value) (below : List Frame) (meth : Method) (c : Code) (Q : State → Prop) (D : va_G) (Ca : Nat → ClassId) (ad : Nat → Nat → Nat) (nL : Nat) (pc : Nat) (lv : ax_L) (st : List ax_V) (mm : ax_M) : Prop :=
  (∀ v ∈ st, ax_okv v) → (∀ (j : Nat) (v : ax_V), lv[j]? = some (some v) → ax_okv v) → ∀ (H : Heap) (locs : List Loc) (ls : Array Slot), va_P D vwCl (ax_ws Ca ad mm) H → va_S (ax_A ad) s.heap H locs → ax_lh ad nL ls lv → W p l e R s m args below meth c H locs 0 0 Q (F0 m pc ls (st.map (ax_v ad)))
/-- an instruction that changes the stack alone -/
theorem ax_i1 {pc pc2 : Nat} {lv : ax_L} {st st2 : List ax_V} {mm : ax_M} (kk : ax_Gd p l e R s m args below meth c Q D Ca ad nL pc2 lv st2 mm) (hok : (∀ v ∈ st, ax_okv v) → (∀ (j : Nat) (v : ax_V), lv[j]? = some (some v) → ax_okv v) → ∀ v ∈ st2, ax_okv v)
    (row : ∀ (H : Heap) (locs : List Loc) (ls : Array Slot), va_P D vwCl (ax_ws Ca ad mm) H → va_S (ax_A ad) s.heap H locs → ax_lh ad nL ls lv → (∀ v ∈ st, ax_okv v) → W p l e R s m args below meth c H locs 0 0 Q (F0 m pc2 ls (st2.map (ax_v ad))) → W p l e R s m args below meth c H locs 0 0 Q (F0 m pc ls (st.map (ax_v ad)))) : ax_Gd p l e R s m args below meth c Q D Ca ad nL pc lv st mm :=
  fun h1 h2 H locs ls hP hS hl => row H locs ls hP hS hl h1 (kk (hok h1 h2) h2 H locs ls hP hS hl)
theorem ax_ok1 {x : ax_V} {r : List ax_V} (hx : ax_okv x) (h : ∀ v ∈ r, ax_okv v) : ∀ v ∈ x :: r, ax_okv v := List.forall_mem_cons.mpr ⟨hx, h⟩
theorem ax_tl {x : ax_V} {r : List ax_V} (h : ∀ v ∈ x :: r, ax_okv v) : ∀ v ∈ r, ax_okv v := (List.forall_mem_cons.mp h).2
theorem ax_hd {x : ax_V} {r : List ax_V} (h : ∀ v ∈ x :: r, ax_okv v) : ax_okv x := (List.forall_mem_cons.mp h).1
/-- a load -/
theorem ax_ld {pc pc2 j : Nat} {v : ax_V} {lv : ax_L} {st : List ax_V} {mm : ax_M} (hj : ax_nth lv j = some (some v)) (kk : ax_Gd p l e R s m args below meth c Q D Ca ad nL pc2 lv (v :: st) mm)
    (row : ∀ (H : Heap) (locs : List Loc) (ls : Array Slot), ls[j]? = some (.val (ax_v ad v)) → W p l e R s m args below meth c H locs 0 0 Q (F0 m pc2 ls (ax_v ad v :: st.map (ax_v ad))) → W p l e R s m args below meth c H locs 0 0 Q (F0 m pc ls (st.map (ax_v ad)))) : ax_Gd p l e R s m args below meth c Q D Ca ad nL pc lv st mm := by
  rw [ax_nth_eq] at hj
  exact ax_i1 kk (fun h1 h2 => ax_ok1 (h2 j v hj) h1) (fun H locs ls hP hS hl h1 w => row H locs ls (hl.2.2.2 j v hj) w)
/-- a store -/
theorem ax_s1 {pc pc2 j : Nat} {v : ax_V} {lv : ax_L} {st : List ax_V} {mm : ax_M} (hj : j < lv.length) (kk : ax_Gd p l e R s m args below meth c Q D Ca ad nL pc2 (ax_stv lv j v) st mm)
    (row : ∀ (H : Heap) (locs : List Loc) (ls : Array Slot), lv_has ls nL (ax_as ad lv) → j < nL → (∀ ls2 : Array Slot, lv_has ls2 nL ((j, ax_v ad v) :: (ax_as ad lv).filter (fun q => !(q.1 == j) && !(q.1 + 1 == j && q.2.category == 2))) → W p l e R s m args below meth c H locs 0 0 Q (F0 m pc2 ls2 (st.map (ax_v ad)))) → W p l e R s m args below meth c H locs 0 0 Q (F0 m pc ls (ax_v ad v :: st.map (ax_v ad)))) : ax_Gd p l e R s m args below meth c Q D Ca ad nL pc lv (v :: st) mm :=
  fun h1 h2 H locs ls hP hS hl => row H locs ls (ax_lh_has hl) (by rw [← hl.1]; exact hj) (fun ls2 h => kk (ax_tl h1) (ax_stv_ok (ax_hd h1) h2) H locs ls2 hP hS (ax_lh_1 hl.1 h))
theorem ax_s2 {pc pc2 j : Nat} {v : ax_V} {lv : ax_L} {st : List ax_V} {mm : ax_M} (hj : j + 1 < lv.length) (kk : ax_Gd p l e R s m args below meth c Q D Ca ad nL pc2 (ax_stw lv j v) st mm)
    (row : ∀ (H : Heap) (locs : List Loc) (ls : Array Slot), lv_has ls nL (ax_as ad lv) → j + 1 < nL → (∀ ls2 : Array Slot, lv_has ls2 nL ((j, ax_v ad v) :: (ax_as ad lv).filter (fun q => !(q.1 == j) && (!(q.1 == j + 1) && !(q.1 + 1 == j && q.2.category == 2)))) → W p l e R s m args below meth c H locs 0 0 Q (F0 m pc2 ls2 (st.map (ax_v ad)))) → W p l e R s m args below meth c H locs 0 0 Q (F0 m pc ls (ax_v ad v :: st.map (ax_v ad)))) : ax_Gd p l e R s m args below meth c Q D Ca ad nL pc lv (v :: st) mm :=
  fun h1 h2 H locs ls hP hS hl => row H locs ls (ax_lh_has hl) (by rw [← hl.1]; exact hj) (fun ls2 h => kk (ax_tl h1) (ax_stw_ok (ax_hd h1) h2) H locs ls2 hP hS (ax_lh_2 hl.1 (by rw [← hl.1]; exact hj) h))
theorem ax_inc (hx : p.tables.exec = Jvm.exec) (hb : c.code = bytes) {pc j : Nat} {n : Int} {x y : Int32} {lv : ax_L} {st : List ax_V} {mm : ax_M} (hj : ax_nth lv j = some (some (.inl x))) (hy : x + Int32.ofInt n = y) (hd : decode bytes pc = .ok (.iinc j n, 3)) (kk : ax_Gd p l e R s m args below meth c Q D Ca ad nL (pc + 3) (ax_stv lv j (.inl y)) st mm) : ax_Gd p l e R s m args below meth c Q D Ca ad nL pc lv st mm := by
  intro h1 h2 H locs ls hP hS hl
  rw [ax_nth_eq] at hj
  obtain ⟨k, hk⟩ := List.getElem?_of_mem (ax_as_mem (ad := ad) (q := (j, .int x)).mpr ⟨_, hj, rfl⟩)
  exact lv_iinc hx hb hd (ax_lh_has hl) hk hy (by rw [← hl.1]; exact (List.getElem?_eq_some_iff.mp hj).1) rfl (fun ls2 h => kk h1 (ax_stv_ok trivial h2) H locs ls2 hP hS (ax_lh_1 (v := .inl y) hl.1 h))
/-- an access to an array's place -/
theorem ax_ok_in {i : Int32} {n : Nat} (h : ax_ok i n = true) : vp_in i n := by
  unfold ax_ok at h
  simp only [Bool.and_eq_true, decide_eq_true_eq] at h
  exact vp_in_iff.mpr h
theorem ax_ok_lt {i : Int32} {n : Nat} (h : ax_ok i n = true) : i.toNatClampNeg < n := by
  unfold ax_ok at h
  simp only [Bool.and_eq_true, decide_eq_true_eq] at h
  show i.toInt.toNat < n
  omega
theorem ax_ty_cnt : ∀ k, k < 42 → ax_ty k ≠ 0 → ax_ty k ≠ 6 → k < 40 ∧ True := by decide +kernel
theorem ax_ty_lt {k : Nat} (h : ax_ty k ≠ 0) (h6 : ax_ty k ≠ 6) : k < 40 := by
  by_cases hk : k < 42
  · exact (ax_ty_cnt k hk h h6).1
  · exfalso
    apply h
    unfold ax_ty
    rw [ax_nth_eq, List.getElem?_eq_none (by show 42 ≤ k; omega)]
theorem ax_ty_6 {k : Nat} (h : ax_ty k = 6) : k = 40 ∨ k = 41 := by
  by_cases hk : k < 42
  · have key : ∀ k, k < 42 → ax_ty k = 6 → k = 40 ∨ k = 41 := by decide +kernel
    exact key k hk h
  · exfalso
    unfold ax_ty at h
    rw [ax_nth_eq, List.getElem?_eq_none (by show 42 ≤ k; omega)] at h
    cases h
theorem ax_cell_1 {mm : ax_M} {k i : Nat} (h : ax_ty k = 1) : ax_cell Ca ad mm k i = .inl (Ca 1, (ax_len k, .inl (mm.1 k i))) := by
  unfold ax_cell; rw [h]; rfl
theorem ax_cell_2 {mm : ax_M} {k i : Nat} (h : ax_ty k = 2) : ax_cell Ca ad mm k i = .inl (Ca 2, (ax_len k, .inl (mm.1 k i))) := by
  unfold ax_cell; rw [h]; rfl
theorem ax_cell_3 {mm : ax_M} {k i : Nat} (h : ax_ty k = 3) : ax_cell Ca ad mm k i = .inl (Ca 3, (ax_len k, .inr (.inl (mm.2 k i)))) := by
  unfold ax_cell; rw [h]; rfl
theorem ax_cell_4 {mm : ax_M} {k i : Nat} (h : ax_ty k = 4) : ax_cell Ca ad mm k i = .inl (Ca 4, (ax_len k, .inr (.inr (.inr (.inr (fun j => some (ad 6 (16 * i + j)))))))) := by
  unfold ax_cell; rw [h]; rfl
theorem ax_cell_5 {mm : ax_M} {k i : Nat} (h : ax_ty k = 5) : ax_cell Ca ad mm k i = .inl (Ca 5, (ax_len k, .inr (.inr (.inr (.inr (fun j => some (ad 8 (8 * i + j)))))))) := by
  unfold ax_cell; rw [h]; rfl
theorem ax_cell_0 {mm : ax_M} {k i : Nat} (h : ax_ty k = 0) : ax_cell Ca ad mm k i = .inr ((ax_ct k).1, ax_fs ad mm k i) := by
  unfold ax_cell; rw [h]; rfl
theorem ax_cell_ui {mm : ax_M} {k i j : Nat} {x : Int32} : ∀ k' i' : Nat, ¬ (k' = k ∧ i' = i) → ax_cell Ca ad (ax_ui mm k i j x) k' i' = ax_cell Ca ad mm k' i' := fun k' i' h => ax_cell_congr (ax_ui_ne h) rfl
theorem ax_cell_ul {mm : ax_M} {k i j : Nat} {x : Int64} : ∀ k' i' : Nat, ¬ (k' = k ∧ i' = i) → ax_cell Ca ad (ax_ul mm k i j x) k' i' = ax_cell Ca ad mm k' i' := fun k' i' h => ax_cell_congr rfl (ax_ul_ne h)
theorem ax_get (hx : p.tables.exec = Jvm.exec) (hb : c.code = bytes) {cN : Nat} (hown : s.vm.findClass (ax_cn cN) = some m.cls) (hts : ∀ w ∈ Ts, w.before args s = true) (hTs : ∀ w ∈ ax_W, w ∈ Ts) (hSt : ax_St D Ca ad adV s) {pc idx : Nat} {lv : ax_L} {st : List ax_V} {mm : ax_M} {k j t q z i : Nat} {v : ax_V} (hc : ax_cf cN idx [k, j, t, q, z] = true) (hv : ax_fv ad mm k i j (t, (q, z)) = ax_v ad v) (hvo : i < ax_cnt k → ax_okv v) (hd : decode bytes pc = .ok (.getfield idx, 3)) (kk : ax_Gd p l e R s m args below meth c Q D Ca ad nL (pc + 3) lv (v :: st) mm) : ax_Gd p l e R s m args below meth c Q D Ca ad nL pc lv (.inr (.inr (k, i)) :: st) mm := by
  simp only [ax_cf, Bool.and_eq_true, Bool.or_eq_true, decide_eq_true_eq] at hc
  obtain ⟨⟨hc1, hk⟩, hf⟩ := hc
  obtain ⟨o1, o2, o3, o4⟩ := ax_obj_ok k hk
  refine ax_i1 kk (fun h1 _ => ax_ok1 (hvo (ax_hd h1)) (ax_tl h1)) (fun H locs ls hP hS hl h1 w => ?_)
  obtain ⟨p0, hp0⟩ := ax_ids_mem o2 (show i < ax_cnt k from ax_hd h1)
  have he := ax_ws_at (Ca := Ca) (ad := ad) (m := mm) hp0
  rw [ax_cell_0 o1] at he
  have hj : j < (ax_ct k).2.2.2 := by
    rw [← o4]
    rw [ax_nth_eq] at hf
    exact (List.getElem?_eq_some_iff.mp hf).1
  have hv2 : (ax_fs ad mm k i)[j]? = some (ax_v ad v) := by rw [ax_fs_at hf, hv]
  rcases hc1 with hc1 | hc1
  · have hw : ax_wF (cN, (idx, (k, j))) ∈ ax_W := by
      unfold ax_W
      exact List.mem_append_left _ (List.mem_map.mpr ⟨_, hc1, rfl⟩)
    exact va_get hx hb hts (fun w h => hTs w (ax_obj_in k hk w h)) hown hSt.1 hP p0 he o3 j hj (hts _ (hTs _ hw)) (fun _ h => h) hv2 hd w
  · have hw : ax_wFN (cN, (idx, (k, j))) ∈ ax_N := List.mem_append_left _ (List.mem_map.mpr ⟨_, hc1, rfl⟩)
    exact va_getN hx hb hts (fun w h => hTs w (ax_obj_in k hk w h)) hown hSt.1 hP p0 he o3 j hj (va_Nw.use rfl (hSt.2.1 _ hw)) (fun _ h => h) hv2 hd w
theorem ax_pf (hx : p.tables.exec = Jvm.exec) (hb : c.code = bytes) {cN : Nat} (hown : s.vm.findClass (ax_cn cN) = some m.cls) (hts : ∀ w ∈ Ts, w.before args s = true) (hTs : ∀ w ∈ ax_W, w ∈ Ts) (hSt : ax_St D Ca ad adV s) (hinj : ax_inj ad) {pc idx : Nat} {lv : ax_L} {st : List ax_V} {mm mm2 : ax_M} {k j t q z i : Nat} {v : ax_V} {ty : FieldType} (hc : ax_cf cN idx [k, j, t, q, z] = true) (hfin : ((ax_ct k).2.2.1 j).2.2.2 = false) (hty : parseFieldDescriptor ((ax_ct k).2.2.1 j).2.2.1 = some ty) (hn : narrow ty (ax_v ad v) = ax_v ad v) (hfit : fits ty (ax_v ad v) = true) (hnew : k ∈ ax_obj → ax_nth (ax_fd k) j = some (t, (q, z)) → ax_cell Ca ad mm2 k i = .inr ((ax_ct k).1, (ax_fs ad mm k i).set j (ax_v ad v))) (hsame : ∀ k' i' : Nat, ¬ (k' = k ∧ i' = i) → ax_cell Ca ad mm2 k' i' = ax_cell Ca ad mm k' i') (hd : decode bytes pc = .ok (.putfield idx, 3)) (kk : ax_Gd p l e R s m args below meth c Q D Ca ad nL (pc + 3) lv st mm2) : ax_Gd p l e R s m args below meth c Q D Ca ad nL pc lv (v :: .inr (.inr (k, i)) :: st) mm := by
  simp only [ax_cf, Bool.and_eq_true, Bool.or_eq_true, decide_eq_true_eq] at hc
  obtain ⟨⟨hc1, hk⟩, hf⟩ := hc
  obtain ⟨o1, o2, o3, o4⟩ := ax_obj_ok k hk
  obtain ⟨tyf, t1, t2⟩ := ax_obj_ty k hk
  intro h1 h2 H locs ls hP hS hl
  obtain ⟨p0, hp0⟩ := ax_ids_mem o2 (show i < ax_cnt k from ax_hd (ax_tl h1))
  have he := ax_ws_at (Ca := Ca) (ad := ad) (m := mm) hp0
  rw [ax_cell_0 o1] at he
  have hj : j < (ax_ct k).2.2.2 := by
    rw [← o4]
    rw [ax_nth_eq] at hf
    exact (List.getElem?_eq_some_iff.mp hf).1
  have hjl : j < (ax_fs ad mm k i).length := by rw [ax_fs_len, o4]; exact hj
  have hset := ax_ws_set (Ca := Ca) (ad := ad) (m := mm) (m' := mm2) hp0 (hnew hk hf) hsame
  rcases hc1 with hc1 | hc1
  · have hw : ax_wF (cN, (idx, (k, j))) ∈ ax_W := by
      unfold ax_W
      exact List.mem_append_left _ (List.mem_map.mpr ⟨_, hc1, rfl⟩)
    refine va_put hx hb hts (fun w h => hTs w (ax_obj_in k hk w h)) tyf t1 t2 hown hSt.1 hP (ax_D hinj mm) hS p0 he o3 j hj (hts _ (hTs _ hw)) (fun _ h => h) hfin hty hn hfit hjl hd (fun H1 locs1 hP1 hD1 hS1 => ?_)
    rw [hset] at hP1
    exact kk (ax_tl (ax_tl h1)) h2 H1 locs1 ls hP1 hS1 hl
  · have hw : ax_wFN (cN, (idx, (k, j))) ∈ ax_N := List.mem_append_left _ (List.mem_map.mpr ⟨_, hc1, rfl⟩)
    refine va_putN hx hb hts (fun w h => hTs w (ax_obj_in k hk w h)) tyf t1 t2 hown hSt.1 hP (ax_D hinj mm) hS p0 he o3 j hj (va_Nw.use rfl (hSt.2.1 _ hw)) (fun _ h => h) hfin hty hn hfit hjl hd (fun H1 locs1 hP1 hD1 hS1 => ?_)
    rw [hset] at hP1
    exact kk (ax_tl (ax_tl h1)) h2 H1 locs1 ls hP1 hS1 hl
theorem ax_bool {x : Int32} (h : x = 0 ∨ x = 1) : narrow .boolean (.int x) = .int x ∧ fits .boolean (.int x) = true ∧ vp_nar .boolean x = x := by
  rcases h with rfl | rfl <;> exact ⟨rfl, rfl, rfl⟩
/-- behind a call -/
theorem ax_after {pc : Nat} {ls : Array Slot} {st0 : List Value} {rest : List ax_V} {H : Heap} {locs : List Loc} {a : Array Value} {r : ax_R} (hr : va_Run p l e R s m args below meth c H locs 0 0 0 0 (F0 m pc ls st0) (rest.map (ax_v ad)) (ax_Qc D Ca ad r a) (ax_A ad)) (hS : va_S (ax_A ad) s.heap H locs)
    (kk : ∀ (H1 : Heap) (locs1 : List Loc), va_P D vwCl (ax_ws Ca ad r.2) H1 → va_S (ax_A ad) s.heap H1 locs1 → W p l e R s m args below meth c H1 locs1 0 0 Q (F0 m (pc + 3) ls ((r.1.map (ax_v ad)).toList ++ rest.map (ax_v ad)))) : W p l e R s m args below meth c H locs 0 0 Q (F0 m pc ls st0) := by
  intro T hT X
  obtain ⟨v, st₀, t, T', L, h0, X', hL, e1, e2, ⟨hv, hP, hz, hk⟩, st⟩ := hr T hT X
  cases hv
  rw [h0] at hz hk
  obtain ⟨t2, a1, b1⟩ := kk T'.heap (locs ++ L) (by rw [e1]; exact hP)
    ⟨Nat.le_trans hS.1 (by rw [e1]; exact hz), fun q h1 h2 => by rw [e1, hk q (Nat.lt_of_lt_of_le h1 hS.1) h2]; exact hS.2.1 q h1 h2, fun q hq => by
      rcases List.mem_append.mp hq with h | h
      · exact hS.2.2 q h
      · exact hL q h⟩ T' rfl X'
  exact ⟨t2, st t2 a1, b1⟩
end SND
