section STEP
variable {p : Program} {l : Launch} {e : Env} {s : State} {m : MethodId} {args : Array Value} {below : List Frame} {meth : Method} {c : Code} {D : va_G} {Ca : Nat → ClassId} {ad : Nat → Nat → Nat} {adV : Nat → Nat} {bytes : ByteArray} {nL : Nat} {Ts : List Jvm.Cond}
theorem ax_head_of {rk : Nat} {a : List ax_V} (h : ax_head false rk a = true) : ∃ k i a1, k = rk ∧ a = .inr (.inr (k, i)) :: a1 := by
  rcases a with _ | ⟨x | x | ⟨k, i⟩, a1⟩
  · exact absurd (show false = true from h) (by decide)
  · exact absurd (show false = true from h) (by decide)
  · exact absurd (show false = true from h) (by decide)
  · exact ⟨k, i, a1, beq_iff_eq.mp (show (k == rk) = true from h), rfl⟩
/-- a call of a method of the table -/
theorem ax_snd_call {Q : State → Prop} {pc idx cN mt argc rk d : Nat} {b : Bool} {lv : ax_L} {st r a : List ax_V} {mm : ax_M} {r1 : ax_R} (hx : p.tables.exec = Jvm.exec) (hb : c.code = bytes) (hml : c.maxLocals = nL) (hown : s.vm.findClass (ax_cn cN) = some m.cls) (hts : ∀ w ∈ Ts, w.before args s = true) (hTs : ∀ w ∈ ax_W, w ∈ Ts) (hSt : ax_St D Ca ad adV s)
    (hcm : ax_cm cN idx mt argc rk b = true) (hp : ax_pops argc [] st = some (a, r)) (hhd : ax_head b rk a = true) (hr : ax_cats r ≤ 8) (hd : decode bytes pc = .ok (if b = true then .invokestatic idx else .invokevirtual idx, 3))
    (hmet : ∀ r0 : ax_IR, ax_row mt = some r0 → ∃ (d1 : Nat) (q : Nat × List ax_E), d = d1 + 1 ∧ ax_gd r0 q ∧ Met l r0.1 (ax_wC r0 :: ax_W) (ax_rm d1) (ax_Pc D Ca ad adV a mm) (ax_Qc D Ca ad r1) 0 0 (ax_A ad))
    (kk : ∀ (H : Heap) (locs : List Loc) (ls : Array Slot), va_P D vwCl (ax_ws Ca ad r1.2) H → va_S (ax_A ad) s.heap H locs → ax_lh ad nL ls lv → (∀ v ∈ r, ax_okv v) → (∀ (j : Nat) (v : ax_V), lv[j]? = some (some v) → ax_okv v) → W p l e (ax_rm d) s m args below meth c H locs 0 0 Q (F0 m (pc + 3) ls ((r1.1.map (ax_v ad)).toList ++ r.map (ax_v ad)))) : ax_Gd p l e (ax_rm d) s m args below meth c Q D Ca ad nL pc lv st mm := by
  intro h1 h2 H locs ls hP hS hl
  obtain ⟨t, t1, t2, t3⟩ := ax_pops_of _ _ _ _ _ hp
  rw [List.append_nil] at t3
  subst t2
  have hor : ∀ v ∈ r, ax_okv v := fun v hv => h1 v (List.mem_append_right _ hv)
  have hoa : ∀ v ∈ a, ax_okv v := fun v hv => h1 v (List.mem_append_left _ (by rw [t3] at hv; exact List.mem_reverse.mp hv))
  have hroom : ((r.map (ax_v ad)).map fun v => v.category).sum ≤ 8 := by rw [ax_sum]; exact hr
  unfold ax_cm at hcm
  split at hcm
  next r0 hrow =>
    simp only [Bool.and_eq_true, Bool.or_eq_true, decide_eq_true_eq, beq_iff_eq] at hcm
    obtain ⟨⟨⟨c1, c2⟩, c3⟩, c4⟩ := hcm
    obtain ⟨d1, q, hd1, hgd, hM⟩ := hmet r0 hrow
    subst hd1
    obtain ⟨g1, g2, ⟨g3, g4, g5, g6⟩, g7, g8, g9⟩ := hgd
    have hC := ax_row_C hrow
    have hI := ax_row_I hrow
    have hini : Cond.initialized r0.1.cls ∈ ax_W := hI _ (by unfold ax_wI; exact List.mem_cons_self)
    have hR : (ax_rm d1).frames + 1 ≤ (ax_rm (d1 + 1)).frames ∧ 8 + (r0.2.2.1 + 11) + (ax_rm d1).locals ≤ (ax_rm (d1 + 1)).locals := ⟨Nat.le_refl _, by show 8 + (r0.2.2.1 + 11) + 60 * d1 ≤ 60 * (d1 + 1); omega⟩
    cases b with
    | true =>
      have hstat : Cond.static r0.1 ∈ ax_W := hI _ (by unfold ax_wI; rw [c2]; simp)
      have hn : (a.map (ax_v ad)).length = r0.2.2.2.2.2.2.1 := by rw [List.length_map, t3, List.length_reverse, t1, c3]; rfl
      have hst : (t ++ r).map (ax_v ad) = (a.map (ax_v ad)).reverse ++ r.map (ax_v ad) := by rw [t3]; simp
      have hpr : PreS s H (ax_Pc D Ca ad adV a mm) (a.map (ax_v ad)) := ⟨ax_blind, fun U hU hW => ax_pre hP hS hSt U hU hW⟩
      rcases c1 with c1 | c1
      · exact ax_after (va_runS (As := a.map (ax_v ad)) (rest := r.map (ax_v ad)) ⟨hx, hb, hml, hown, hts⟩ hM (va_cwS _ hts (ax_gi hTs _ (fun w hw => by
          unfold va_wsS at hw
          rcases List.mem_append.mp hw with hw | hw
          · simp only [List.mem_cons, List.not_mem_nil, or_false] at hw
            rcases hw with rfl | rfl | rfl
            · have := ax_inM c1; unfold ax_wM ax_y at this; rw [show ax_row (cN, (idx, mt)).2.2 = some r0 from hrow] at this; exact this
            · exact hstat
            · exact hini
          · rcases List.mem_cons.mp hw with e | e
            · rw [e]; exact hC
            · exact e)) rfl rfl rfl ⟨g4, g5, g6⟩ hR) hpr rfl hn hl.2.1 hst (lv_room hroom) hd ⟨Nat.le_refl 0, Nat.le_refl 0⟩) hS (fun H1 locs1 hP1 hS1 => kk H1 locs1 ls hP1 hS1 hl hor h2)
      · exact ax_after (va_runSN (As := a.map (ax_v ad)) (rest := r.map (ax_v ad)) (host := RX10) ⟨hx, hb, hml, hown, hts⟩ hM ⟨va_cnB _ hts (ax_gc hTs hC) rfl rfl rfl (by
          have := hSt.2.1 _ (List.mem_append_right _ (List.mem_map.mpr ⟨_, c1, rfl⟩) : ax_wMN (cN, (idx, mt)) ∈ ax_N)
          unfold ax_wMN ax_y at this
          rw [show ax_row (cN, (idx, mt)).2.2 = some r0 from hrow] at this
          exact this) (hts _ (hTs _ hini)) ⟨g4, g5, g6⟩ hR, hts _ (hTs _ hstat), trivial⟩ hpr rfl hn hl.2.1 hst (lv_room hroom) hd ⟨Nat.le_refl 0, Nat.le_refl 0⟩) hS (fun H1 locs1 hP1 hS1 => kk H1 locs1 ls hP1 hS1 hl hor h2)
    | false =>
      have hinst : Cond.instanceMethod r0.1 ∈ ax_W := hI _ (by unfold ax_wI; rw [c2]; simp)
      have hsel : Cond.selects r0.1.cls r0.1 r0.1 ∈ ax_W := hI _ (by unfold ax_wI; rw [c2]; simp)
      obtain ⟨k, i, a1, hk, rfl⟩ := ax_head_of hhd
      · have hrk : rk = r0.2.2.2.2.2.2.2 := by
          rcases c4 with c4 | c4
          · cases c4
          · exact c4
        obtain ⟨o1, o2⟩ := g9 c2
        rw [← hrk, ← hk] at o1 o2
        have hn : (a1.map (ax_v ad)).length = r0.2.2.2.2.2.2.1 := by
          have := congrArg List.length t3
          simp only [List.length_cons, List.length_reverse, t1, c3, Bool.false_eq_true, if_false] at this
          rw [List.length_map]
          omega
        have hst : (t ++ r).map (ax_v ad) = (a1.map (ax_v ad)).reverse ++ .ref (ad k i) :: r.map (ax_v ad) := by
          have : t = a1.reverse ++ [.inr (.inr (k, i))] := by
            have := congrArg List.reverse t3
            simpa using this.symm
          rw [this]
          simp [ax_v]
        obtain ⟨ob1, ob2, ob3, -⟩ := ax_obj_ok k o1
        obtain ⟨p0, hp0⟩ := ax_ids_mem ob2 (show i < ax_cnt k from hoa _ List.mem_cons_self)
        have he := ax_ws_at (Ca := Ca) (ad := ad) (m := mm) hp0
        rw [ax_cell_0 ob1] at he
        have hrec := va_recv hSt.1 hP ob3 he
        rw [o2] at hrec
        have hpr : PreV s H r0.1.cls (ad k i) (ax_Pc D Ca ad adV (.inr (.inr (k, i)) :: a1) mm) (a1.map (ax_v ad)) := ⟨ax_blind, hrec, fun U hU hW => ax_pre hP hS hSt U hU hW⟩
        rcases c1 with c1 | c1
        · exact ax_after (va_runV (As := a1.map (ax_v ad)) (rest := r.map (ax_v ad)) ⟨hx, hb, hml, hown, hts⟩ hM (cwV _ hts (ax_gi hTs _ (fun w hw => by
            unfold wsV at hw
            rcases List.mem_append.mp hw with hw | hw
            · simp only [List.mem_cons, List.not_mem_nil, or_false] at hw
              rcases hw with rfl | rfl | rfl | rfl
              · have := ax_inM c1; unfold ax_wM ax_y at this; rw [show ax_row (cN, (idx, mt)).2.2 = some r0 from hrow] at this; exact this
              · exact hinst
              · exact hsel
              · exact hini
            · rcases List.mem_cons.mp hw with e | e
              · rw [e]; exact hC
              · exact e)) rfl rfl rfl ⟨rfl, g4, g5, g6⟩ hR) hpr rfl hn hl.2.1 hst (lv_room hroom) hd ⟨Nat.le_refl 0, Nat.le_refl 0⟩) hS (fun H1 locs1 hP1 hS1 => kk H1 locs1 ls hP1 hS1 hl hor h2)
        · exact ax_after (va_runVN (As := a1.map (ax_v ad)) (rest := r.map (ax_v ad)) (host := RX10) (C := r0.1.cls) ⟨hx, hb, hml, hown, hts⟩ hM ⟨va_cnB _ hts (ax_gc hTs hC) rfl rfl rfl (by
            have := hSt.2.1 _ (List.mem_append_right _ (List.mem_map.mpr ⟨_, c1, rfl⟩) : ax_wMN (cN, (idx, mt)) ∈ ax_N)
            unfold ax_wMN ax_y at this
            rw [show ax_row (cN, (idx, mt)).2.2 = some r0 from hrow] at this
            exact this) (hts _ (hTs _ hini)) ⟨g4, g5, g6⟩ hR, hts _ (hTs _ hinst), hts _ (hTs _ hsel)⟩ hpr rfl hn hl.2.1 hst (lv_room hroom) hd ⟨Nat.le_refl 0, Nat.le_refl 0⟩) hS (fun H1 locs1 hP1 hS1 => kk H1 locs1 ls hP1 hS1 hl hor h2)
  next => cases hcm
end STEP
/-! inversions -/
theorem ax_inv_arr {F : Int32 → Nat → Nat → List ax_V → Option ax_R} {st : List ax_V} {res : ax_R} (h : (match st with
    | .inl j :: .inr (.inr (q, i)) :: r => F j q i r
    | _ => none) = some res) : ∃ j q i r, st = .inl j :: .inr (.inr (q, i)) :: r ∧ F j q i r = some res := by
  split at h
  · exact ⟨_, _, _, _, rfl, h⟩
  · cases h
theorem ax_inv_sti {F : Int32 → Int32 → Nat → Nat → List ax_V → Option ax_R} {st : List ax_V} {res : ax_R} (h : (match st with
    | .inl x :: .inl j :: .inr (.inr (q, i)) :: r => F x j q i r
    | _ => none) = some res) : ∃ x j q i r, st = .inl x :: .inl j :: .inr (.inr (q, i)) :: r ∧ F x j q i r = some res := by
  split at h
  · exact ⟨_, _, _, _, _, rfl, h⟩
  · cases h
theorem ax_inv_stl {F : Int64 → Int32 → Nat → Nat → List ax_V → Option ax_R} {st : List ax_V} {res : ax_R} (h : (match st with
    | .inr (.inl x) :: .inl j :: .inr (.inr (q, i)) :: r => F x j q i r
    | _ => none) = some res) : ∃ x j q i r, st = .inr (.inl x) :: .inl j :: .inr (.inr (q, i)) :: r ∧ F x j q i r = some res := by
  split at h
  · exact ⟨_, _, _, _, _, rfl, h⟩
  · cases h
theorem ax_inv_ref {F : Nat → List ax_V → Option ax_R} {st : List ax_V} {res : ax_R} (h : (match st with
    | .inr (.inr (q, _)) :: r => F q r
    | _ => none) = some res) : ∃ q i r, st = .inr (.inr (q, i)) :: r ∧ F q r = some res := by
  split at h
  · exact ⟨_, _, _, rfl, h⟩
  · cases h
theorem ax_inv_dup {F : Int32 → List ax_V → Option ax_R} {F2 : Nat × Nat → List ax_V → Option ax_R} {st : List ax_V} {res : ax_R} (h : (match st with
    | .inl x :: r => F x r
    | .inr (.inr x) :: r => F2 x r
    | _ => none) = some res) : (∃ x r, st = .inl x :: r ∧ F x r = some res) ∨ ∃ x r, st = .inr (.inr x) :: r ∧ F2 x r = some res := by
  split at h
  · exact Or.inl ⟨_, _, rfl, h⟩
  · exact Or.inr ⟨_, _, rfl, h⟩
  · cases h
theorem ax_inv_dx {F : Int32 → Nat × Nat → List ax_V → Option ax_R} {st : List ax_V} {res : ax_R} (h : (match st with
    | .inl x :: .inr (.inr y) :: r => F x y r
    | _ => none) = some res) : ∃ x y r, st = .inl x :: .inr (.inr y) :: r ∧ F x y r = some res := by
  split at h
  · exact ⟨_, _, _, rfl, h⟩
  · cases h
theorem ax_inv_t {F : Nat → Option ax_R} {info : List Nat} {res : ax_R} (h : (match info with
    | t :: _ => F t
    | _ => none) = some res) : ∃ t ts, info = t :: ts ∧ F t = some res := by
  split at h
  · exact ⟨_, _, rfl, h⟩
  · cases h
theorem ax_inv_ti {F : Nat → Int32 → List ax_V → Option ax_R} {info : List Nat} {st : List ax_V} {res : ax_R} (h : (match info, st with
    | t :: _, .inl x :: r => F t x r
    | _, _ => none) = some res) : ∃ t ts x r, info = t :: ts ∧ st = .inl x :: r ∧ F t x r = some res := by
  split at h
  · exact ⟨_, _, _, _, rfl, rfl, h⟩
  · cases h
theorem ax_inv_tii {F : Nat → Int32 → Int32 → List ax_V → Option ax_R} {info : List Nat} {st : List ax_V} {res : ax_R} (h : (match info, st with
    | t :: _, .inl y :: .inl x :: r => F t y x r
    | _, _ => none) = some res) : ∃ t ts y x r, info = t :: ts ∧ st = .inl y :: .inl x :: r ∧ F t y x r = some res := by
  split at h
  · exact ⟨_, _, _, _, _, rfl, rfl, h⟩
  · cases h
theorem ax_inv_sw {F : Nat → List Nat → Int32 → List ax_V → Option ax_R} {info : List Nat} {st : List ax_V} {res : ax_R} (h : (match info, st with
    | d :: ts, .inl x :: r => F d ts x r
    | _, _ => none) = some res) : ∃ d ts x r, info = d :: ts ∧ st = .inl x :: r ∧ F d ts x r = some res := by
  split at h
  · exact ⟨_, _, _, _, rfl, rfl, h⟩
  · cases h
theorem ax_inv_fld {nx : List ax_V → Option ax_R} {st : List ax_V} {m : ax_M} {info : List Nat} {res : ax_R} (h : ax_fld nx st m info = some res) : ∃ k j t q z tl i r, info = k :: j :: t :: q :: z :: tl ∧ st = .inr (.inr (k, i)) :: r ∧ ((t = 0 ∧ nx (.inl (m.1 k i j) :: r) = some res) ∨ (t = 1 ∧ nx (.inr (.inl (m.2 k i j)) :: r) = some res) ∨ (t = 2 ∧ nx (.inr (.inr (q, i)) :: r) = some res) ∨ (t = 3 ∧ nx (.inr (.inr (q, z)) :: r) = some res) ∨ (t = 4 ∧ nx (.inl (m.1 k i j) :: r) = some res)) := by
  unfold ax_fld at h
  split at h
  · obtain ⟨hk, h⟩ := ax_inv_if _ h
    subst hk
    refine ⟨_, _, _, _, _, _, _, _, rfl, rfl, ?_⟩
    split at h
    · exact Or.inl ⟨rfl, h⟩
    · exact Or.inr (Or.inl ⟨rfl, h⟩)
    · exact Or.inr (Or.inr (Or.inl ⟨rfl, h⟩))
    · exact Or.inr (Or.inr (Or.inr (Or.inl ⟨rfl, h⟩)))
    · exact Or.inr (Or.inr (Or.inr (Or.inr ⟨rfl, h⟩)))
    · cases h
  · cases h
theorem ax_inv_pfld {nx : List ax_V → ax_M → Option ax_R} {st : List ax_V} {m : ax_M} {info : List Nat} {res : ax_R} (h : ax_pfld nx st m info = some res) : ∃ k j t tl i r v, info = k :: j :: t :: tl ∧ st = v :: .inr (.inr (k, i)) :: r ∧ ((t = 0 ∧ ∃ x, v = .inl x ∧ nx r (ax_ui m k i j x) = some res) ∨ (t = 4 ∧ ∃ x, v = .inl x ∧ (x = 0 ∨ x = 1) ∧ nx r (ax_ui m k i j x) = some res) ∨ (t = 1 ∧ ∃ x, v = .inr (.inl x) ∧ nx r (ax_ul m k i j x) = some res)) := by
  unfold ax_pfld at h
  split at h
  · obtain ⟨hk, h⟩ := ax_inv_if _ h
    subst hk
    exact ⟨_, _, _, _, _, _, _, rfl, rfl, Or.inl ⟨rfl, _, rfl, h⟩⟩
  · obtain ⟨hk, h⟩ := ax_inv_if _ h
    obtain ⟨h01, h⟩ := ax_inv_if _ h
    subst hk
    exact ⟨_, _, _, _, _, _, _, rfl, rfl, Or.inr (Or.inl ⟨rfl, _, rfl, h01, h⟩)⟩
  · obtain ⟨hk, h⟩ := ax_inv_if _ h
    subst hk
    exact ⟨_, _, _, _, _, _, _, rfl, rfl, Or.inr (Or.inr ⟨rfl, _, rfl, h⟩)⟩
  · cases h
theorem ax_inv_call {nx : List ax_V → ax_M → Option ax_R} {cl pr : Nat → List ax_V → ax_M → Option ax_R} {b : Bool} {st : List ax_V} {m : ax_M} {info : List Nat} {res : ax_R} (h : ax_call nx cl pr b st m info = some res) : ∃ a r r1, ax_cats r ≤ 8 ∧ ax_aft nx r (some r1) = some res ∧ ((∃ mt argc rk tl, info = 0 :: mt :: argc :: rk :: tl ∧ ax_pops argc [] st = some (a, r) ∧ ax_head b rk a = true ∧ cl mt a m = some r1) ∨ ∃ p argc tl, info = 1 :: p :: argc :: tl ∧ ax_pops argc [] st = some (a, r) ∧ pr p a m = some r1) := by
  unfold ax_call at h
  split at h
  next mt argc rk tl =>
    cases hp : ax_pops argc [] st with
    | none => rw [hp] at h; cases h
    | some q =>
      obtain ⟨a, r⟩ := q
      rw [hp] at h
      obtain ⟨h1, h⟩ := ax_inv_if _ h
      obtain ⟨h2, h⟩ := ax_inv_if _ h
      cases hc : cl mt a m with
      | none => rw [hc] at h; cases h
      | some r1 =>
        rw [hc] at h
        exact ⟨a, r, r1, h2, h, Or.inl ⟨mt, argc, rk, tl, rfl, hp, h1, hc⟩⟩
  next p argc tl =>
    cases hp : ax_pops argc [] st with
    | none => rw [hp] at h; cases h
    | some q =>
      obtain ⟨a, r⟩ := q
      rw [hp] at h
      obtain ⟨h2, h⟩ := ax_inv_if _ h
      cases hc : pr p a m with
      | none => rw [hc] at h; cases h
      | some r1 =>
        rw [hc] at h
        exact ⟨a, r, r1, h2, h, Or.inr ⟨p, argc, tl, rfl, hp, hc⟩⟩
  next => cases h
