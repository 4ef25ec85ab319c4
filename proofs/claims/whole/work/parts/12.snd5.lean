theorem ax_inv_ret {mm : ax_M} {info : List Nat} {st : List ax_V} {res : ax_R} (h : (match info, st with
    | 0 :: _, [.inl x] => some (some (.inl x), mm)
    | 1 :: _, [.inl x] => if x = 0 ∨ x = 1 then some (some (.inl x), mm) else none
    | _, _ => none) = some res) : (∃ tl x, info = 0 :: tl ∧ st = [.inl x] ∧ res = (some (.inl x), mm)) ∨ ∃ tl x, info = 1 :: tl ∧ st = [.inl x] ∧ (x = 0 ∨ x = 1) ∧ res = (some (.inl x), mm) := by
  split at h
  · cases h
    exact Or.inl ⟨_, _, rfl, rfl, rfl⟩
  · obtain ⟨h01, h⟩ := ax_inv_if _ h
    cases h
    exact Or.inr ⟨_, _, rfl, rfl, h01, rfl⟩
  · cases h
theorem ax_inv_lret {mm : ax_M} {st : List ax_V} {res : ax_R} (h : (match st with
    | [.inr (.inl x)] => some (some (.inr (.inl x)), mm)
    | _ => none) = some res) : ∃ x, st = [.inr (.inl x)] ∧ res = (some (.inr (.inl x)), mm) := by
  split at h
  · cases h
    exact ⟨_, rfl, rfl⟩
  · cases h
theorem ax_inv_vret {mm : ax_M} {st : List ax_V} {res : ax_R} (h : (match st with
    | [] => some (none, mm)
    | _ => none) = some res) : st = [] ∧ res = (none, mm) := by
  split at h
  · cases h
    exact ⟨rfl, rfl⟩
  · cases h
theorem ax_same_cnt : ∀ (k j q z : Nat), k ∈ ax_obj → ax_nth (ax_fd k) j = some (2, (q, z)) → ∀ i, i < ax_cnt k → i < ax_cnt q := by
  intro k j q z hk hf i hi
  have hj : j < 30 := by
    rw [ax_nth_eq] at hf
    exact Nat.lt_of_lt_of_le (List.getElem?_eq_some_iff.mp hf).1 (ax_fdlen k hk)
  have key : (ax_obj.all fun k => (List.range 30).all fun j => match ax_nth (ax_fd k) j with
    | some (2, (q, _)) => decide (ax_cnt k ≤ ax_cnt q)
    | some (3, (q, z)) => decide (z < ax_cnt q)
    | _ => true) = true := by decide +kernel
  have h1 := List.all_eq_true.mp (List.all_eq_true.mp key k hk) j (List.mem_range.mpr hj)
  rw [hf] at h1
  have h2 := of_decide_eq_true h1
  omega
theorem ax_const_cnt : ∀ (k j q z : Nat), k ∈ ax_obj → ax_nth (ax_fd k) j = some (3, (q, z)) → z < ax_cnt q := by
  intro k j q z hk hf
  have hj : j < 30 := by
    rw [ax_nth_eq] at hf
    exact Nat.lt_of_lt_of_le (List.getElem?_eq_some_iff.mp hf).1 (ax_fdlen k hk)
  have key : (ax_obj.all fun k => (List.range 30).all fun j => match ax_nth (ax_fd k) j with
    | some (2, (q, _)) => decide (ax_cnt k ≤ ax_cnt q)
    | some (3, (q, z)) => decide (z < ax_cnt q)
    | _ => true) = true := by decide +kernel
  have h1 := List.all_eq_true.mp (List.all_eq_true.mp key k hk) j (List.mem_range.mpr hj)
  rw [hf] at h1
  exact of_decide_eq_true h1
theorem ax_cf_shape {c i k j t : Nat} {tl : List Nat} (h : ax_cf c i (k :: j :: t :: tl) = true) : ∃ q z, tl = [q, z] := by
  match tl, h with
  | [], h => exact absurd (show false = true from h) (by decide)
  | [_], h => exact absurd (show false = true from h) (by decide)
  | [q, z], h => exact ⟨q, z, rfl⟩
  | _ :: _ :: _ :: _, h => exact absurd (show false = true from h) (by decide)
section AFT
variable {p : Program} {l : Launch} {e : Env} {s : State} {m : MethodId} {args : Array Value} {below : List Frame} {meth : Method} {c : Code} {D : va_G} {Ca : Nat → ClassId} {ad : Nat → Nat → Nat} {nL : Nat}
theorem ax_snd_aft {R : Room} {Q : State → Prop} {nx2 : ax_L → List ax_V → ax_M → Option ax_R} {pc : Nat} {lv : ax_L} {r : List ax_V} {r1 res : ax_R} {P : Prop} (hx : p.tables.exec = Jvm.exec) (hk : ∀ (lv' : ax_L) (st' : List ax_V) (m' : ax_M), nx2 lv' st' m' = some res → ax_Gd p l e R s m args below meth c Q D Ca ad nL (pc + 3) lv' st' m') (h : ax_aft (fun s m' => nx2 lv s m') r (some r1) = some res)
    (k : ∀ r1' : ax_R, r1' = r1 → (∀ (H : Heap) (locs : List Loc) (ls : Array Slot), va_P D vwCl (ax_ws Ca ad r1'.2) H → va_S (ax_A ad) s.heap H locs → ax_lh ad nL ls lv → (∀ v ∈ r, ax_okv v) → (∀ (j : Nat) (v : ax_V), lv[j]? = some (some v) → ax_okv v) → W p l e R s m args below meth c H locs 0 0 Q (F0 m (pc + 3) ls ((r1'.1.map (ax_v ad)).toList ++ r.map (ax_v ad)))) → P) : P := by
  refine k r1 rfl (fun H locs ls hP hS hl hr hv => ?_)
  obtain ⟨v, m'⟩ := r1
  rcases v with _ | x | x | x
  · exact hk lv r m' h hr hv H locs ls hP hS hl
  · exact hk lv (.inl x :: r) m' h (ax_ok1 trivial hr) hv H locs ls hP hS hl
  · exact hk lv (.inr (.inl x) :: r) m' h (ax_ok1 trivial hr) hv H locs ls hP hS hl
  · cases h
end AFT
section STEP2
variable {p : Program} {l : Launch} {e : Env} {s : State} {m : MethodId} {args : Array Value} {below : List Frame} {meth : Method} {c : Code} {D : va_G} {Ca : Nat → ClassId} {ad : Nat → Nat → Nat} {adV : Nat → Nat} {bytes : ByteArray} {nL : Nat} {Ts : List Jvm.Cond}
theorem ax_nn {z : Int32} (h : 0 ≤ z.toInt) : ¬ z < 0 := by
  rw [Int32.lt_iff_toInt_lt]
  show ¬ z.toInt < 0
  omega
theorem ax_cn2 (z : Int32) : z.toNatClampNeg = z.toInt.toNat := rfl
/-- a primitive of the JDK -/
theorem ax_snd_prim {Q : State → Prop} {pc idx cN q argc d : Nat} {b : Bool} {lv : ax_L} {st r a : List ax_V} {mm : ax_M} {r1 : ax_R} (hx : p.tables.exec = Jvm.exec) (hb : c.code = bytes) (hml : c.maxLocals = nL) (hown : s.vm.findClass (ax_cn cN) = some m.cls) (hts : ∀ w ∈ Ts, w.before args s = true) (hTs : ∀ w ∈ ax_W, w ∈ Ts) (hSt : ax_St D Ca ad adV s) (hinj : ax_inj ad) (hStr : ax_StrOK l D Ca ad adV) (hd6 : 6 ≤ d)
    (hq : (cN, (idx, q)) ∈ ax_ma) (hbq : b = false ∧ (q = 1 ∧ argc = 1 ∨ q = 2 ∧ argc = 2) ∨ b = true ∧ (q = 0 ∧ argc = 5 ∨ q = 3 ∧ argc = 2 ∨ q = 4 ∧ argc = 2 ∨ q = 5 ∧ argc = 1)) (hp : ax_pops argc [] st = some (a, r)) (hr : ax_cats r ≤ 8) (hd : decode bytes pc = .ok (if b = true then .invokestatic idx else .invokevirtual idx, 3)) (hres : ax_prim q a mm = some r1)
    (kk : ∀ (H : Heap) (locs : List Loc) (ls : Array Slot), va_P D vwCl (ax_ws Ca ad r1.2) H → va_S (ax_A ad) s.heap H locs → ax_lh ad nL ls lv → (∀ v ∈ r, ax_okv v) → (∀ (j : Nat) (v : ax_V), lv[j]? = some (some v) → ax_okv v) → W p l e (ax_rm d) s m args below meth c H locs 0 0 Q (F0 m (pc + 3) ls ((r1.1.map (ax_v ad)).toList ++ r.map (ax_v ad)))) : ax_Gd p l e (ax_rm d) s m args below meth c Q D Ca ad nL pc lv st mm := by
  intro h1 h2 H locs ls hP hS hl
  obtain ⟨t, t1, t2, t3⟩ := ax_pops_of _ _ _ _ _ hp
  rw [List.append_nil] at t3
  subst t2
  have hor : ∀ v ∈ r, ax_okv v := fun v hv => h1 v (List.mem_append_right _ hv)
  have hoa : ∀ v ∈ a, ax_okv v := fun v hv => h1 v (List.mem_append_left _ (by rw [t3] at hv; exact List.mem_reverse.mp hv))
  have hsum := ax_sum (ad := ad) r
  have hroom : ((r.map (ax_v ad)).map fun v => v.category).sum ≤ 8 := by rw [hsum]; exact hr
  have ht : t = a.reverse := by rw [t3, List.reverse_reverse]
  have hlink := hts _ (hTs _ (ax_inA hq))
  have hsz : c.maxLocals = ls.size := hml.trans hl.2.1.symm
  have hR1 : 1 ≤ (ax_rm d).frames := by show 1 ≤ d; omega
  have hR2 : ((r.map (ax_v ad)).map fun v => v.category).sum + 13 ≤ (ax_rm d).locals := by rw [hsum]; show ax_cats r + 13 ≤ 60 * d; omega
  subst ht
  unfold ax_prim at hres
  split at hres
  next k i sp k2 i2 dp n =>
    have hb1 : b = true := by
      rcases hbq with ⟨-, hz⟩ | ⟨hz, -⟩
      · omega
      · exact hz
    subst hb1
    obtain ⟨⟨b1, b2, b3, b4, b5⟩, hres⟩ := ax_inv_if _ hres
    have hNW : ((r.map (ax_v ad)).map fun v => v.category).sum + (nativeFrameWords "java/lang/System" "arraycopy" 5 + 11) ≤ (ax_rm d).locals := by
      have : nativeFrameWords "java/lang/System" "arraycopy" 5 = 7 := by decide +kernel
      rw [this, hsum]
      show ax_cats r + (7 + 11) ≤ 60 * d
      omega
    have hc1 : sp.toNatClampNeg + n.toNatClampNeg ≤ ax_len k := by rw [ax_cn2, ax_cn2]; omega
    have hc2 : dp.toNatClampNeg + n.toNatClampNeg ≤ ax_len k2 := by rw [ax_cn2, ax_cn2]; omega
    split at hres
    next y1 y2 =>
      cases hres
      have q1 := ax_ty_lt (k := k) (by rw [y1]; decide) (by rw [y1]; decide)
      have q2 := ax_ty_lt (k := k2) (by rw [y2]; decide) (by rw [y2]; decide)
      obtain ⟨p1, hp1⟩ := ax_ids_mem q1 (show i < ax_cnt k from hoa (.inr (.inr (k, i))) (by simp))
      obtain ⟨p2, hp2⟩ := ax_ids_mem q2 (show i2 < ax_cnt k2 from hoa (.inr (.inr (k2, i2))) (by simp))
      have he1 := ax_ws_at (Ca := Ca) (ad := ad) (m := mm) hp1
      have he2 := ax_ws_at (Ca := Ca) (ad := ad) (m := mm) hp2
      rw [ax_cell_1 y1] at he1
      rw [ax_cell_1 y2] at he2
      refine va_copyi hx hb hsz hown hlink (hts _ (hTs _ ax_wA_in.1)) (hts _ (hTs _ ax_wA_in.2.1)) (hts _ (hTs _ ax_wA_in.2.2)) hSt.1 hP (ax_D hinj mm) hS p1 p2 0 0 he1 he2 rfl rfl rfl (ax_nn b1) (ax_nn b2) (ax_nn b3) hc1 hc2 (fun _ _ => rfl) hR1 hNW hd (fun H1 locs1 hP1 hD1 hS1 => ?_)
      have hset := ax_ws_set (Ca := Ca) (ad := ad) (m := mm) (m' := ax_cpi mm k i k2 i2 sp.toNatClampNeg dp.toNatClampNeg n.toNatClampNeg) hp2 (e := .inl (Ca 1, (ax_len k2, .inl (va_cpy (mm.1 k i) (mm.1 k2 i2) sp.toNatClampNeg dp.toNatClampNeg n.toNatClampNeg)))) (by
        rw [ax_cell_1 y2]
        have : (ax_cpi mm k i k2 i2 sp.toNatClampNeg dp.toNatClampNeg n.toNatClampNeg).1 k2 i2 = va_cpy (mm.1 k i) (mm.1 k2 i2) sp.toNatClampNeg dp.toNatClampNeg n.toNatClampNeg := by
          funext z
          simp [ax_cpi, va_cpy]
        rw [this]) (fun k' i' hne => ax_cell_congr (by funext z; simp only [ax_cpi]; rw [if_neg (fun w => hne w.1)]) rfl)
      rw [hset] at hP1
      exact kk H1 locs1 ls hP1 hS1 hl hor h2
    next y1 y2 =>
      cases hres
      have q1 := ax_ty_lt (k := k) (by rw [y1]; decide) (by rw [y1]; decide)
      have q2 := ax_ty_lt (k := k2) (by rw [y2]; decide) (by rw [y2]; decide)
      obtain ⟨p1, hp1⟩ := ax_ids_mem q1 (show i < ax_cnt k from hoa (.inr (.inr (k, i))) (by simp))
      obtain ⟨p2, hp2⟩ := ax_ids_mem q2 (show i2 < ax_cnt k2 from hoa (.inr (.inr (k2, i2))) (by simp))
      have he1 := ax_ws_at (Ca := Ca) (ad := ad) (m := mm) hp1
      have he2 := ax_ws_at (Ca := Ca) (ad := ad) (m := mm) hp2
      rw [ax_cell_3 y1] at he1
      rw [ax_cell_3 y2] at he2
      refine va_copyl hx hb hsz hown hlink (hts _ (hTs _ ax_wA_in.1)) (hts _ (hTs _ ax_wA_in.2.1)) (hts _ (hTs _ ax_wA_in.2.2)) hSt.1 hP (ax_D hinj mm) hS p1 p2 2 2 he1 he2 rfl rfl rfl (ax_nn b1) (ax_nn b2) (ax_nn b3) hc1 hc2 (fun _ _ => rfl) hR1 hNW hd (fun H1 locs1 hP1 hD1 hS1 => ?_)
      have hset := ax_ws_set (Ca := Ca) (ad := ad) (m := mm) (m' := ax_cpl mm k i k2 i2 sp.toNatClampNeg dp.toNatClampNeg n.toNatClampNeg) hp2 (e := .inl (Ca 3, (ax_len k2, .inr (.inl (va_cpy (mm.2 k i) (mm.2 k2 i2) sp.toNatClampNeg dp.toNatClampNeg n.toNatClampNeg))))) (by
        rw [ax_cell_3 y2]
        have : (ax_cpl mm k i k2 i2 sp.toNatClampNeg dp.toNatClampNeg n.toNatClampNeg).2 k2 i2 = va_cpy (mm.2 k i) (mm.2 k2 i2) sp.toNatClampNeg dp.toNatClampNeg n.toNatClampNeg := by
          funext z
          simp [ax_cpl, va_cpy]
        rw [this]) (fun k' i' hne => ax_cell_congr rfl (by funext z; simp only [ax_cpl]; rw [if_neg (fun w => hne w.1)]))
      rw [hset] at hP1
      exact kk H1 locs1 ls hP1 hS1 hl hor h2
    next => cases hres
  next i =>
    have hb1 : b = false := by
      rcases hbq with ⟨hz, -⟩ | ⟨-, hz⟩
      · exact hz
      · omega
    subst hb1
    cases hres
    have hi : i < 6 := hoa (.inr (.inr (42, i))) (by simp)
    exact ax_after (va_runV (As := []) (rest := r.map (ax_v ad)) ⟨hx, hb, hml, hown, hts⟩ (hStr.1 i mm hi) (cwV 0 hts (ax_gi hTs _ (fun w hw => by
        unfold wsV at hw
        rcases List.mem_append.mp hw with hw | hw
        · simp only [List.mem_cons, List.not_mem_nil, or_false] at hw
          rcases hw with rfl | rfl | rfl | rfl
          · exact ax_inA hq
          · exact ax_wS_in.1
          · exact ax_wS_in.2.1
          · exact ax_wS_in.2.2.2.2
        · rcases List.mem_cons.mp hw with e | e
          · rw [e]; exact ax_wSc_in.1
          · exact e)) rfl rfl rfl ⟨rfl, by decide +kernel, by decide +kernel, by decide +kernel⟩ ⟨by show 5 + 1 ≤ d; omega, by show 8 + (1 + 11) + 60 * 5 ≤ 60 * d; omega⟩) ⟨ax_blind, vk_recv hSt.2.2.2.2.1 hi hS, fun U hU hW => ax_pre hP hS hSt U hU hW⟩ rfl rfl hl.2.1 (by simp [ax_v]) (lv_room hroom) hd ⟨Nat.le_refl 0, Nat.le_refl 0⟩) hS (fun H1 locs1 hP1 hS1 => kk H1 locs1 ls hP1 hS1 hl hor h2)
  next i j =>
    have hb1 : b = false := by
      rcases hbq with ⟨hz, -⟩ | ⟨-, hz⟩
      · exact hz
      · omega
    subst hb1
    obtain ⟨hj, hres⟩ := ax_inv_if _ hres
    cases hres
    have hi : i < 6 := hoa (.inr (.inr (42, i))) (by simp)
    exact ax_after (va_runV (As := [.int j]) (rest := r.map (ax_v ad)) ⟨hx, hb, hml, hown, hts⟩ (hStr.2 i j mm hi hj) (cwV 1 hts (ax_gi hTs _ (fun w hw => by
        unfold wsV at hw
        rcases List.mem_append.mp hw with hw | hw
        · simp only [List.mem_cons, List.not_mem_nil, or_false] at hw
          rcases hw with rfl | rfl | rfl | rfl
          · exact ax_inA hq
          · exact ax_wS_in.2.2.1
          · exact ax_wS_in.2.2.2.1
          · exact ax_wS_in.2.2.2.2
        · rcases List.mem_cons.mp hw with e | e
          · rw [e]; exact ax_wSc_in.2
          · exact e)) rfl rfl rfl ⟨rfl, by decide +kernel, by decide +kernel, by decide +kernel⟩ ⟨by show 5 + 1 ≤ d; omega, by show 8 + (2 + 11) + 60 * 5 ≤ 60 * d; omega⟩) ⟨ax_blind, vk_recv hSt.2.2.2.2.1 hi hS, fun U hU hW => ax_pre hP hS hSt U hU hW⟩ rfl rfl hl.2.1 (by simp [ax_v]) (lv_room hroom) hd ⟨Nat.le_refl 0, Nat.le_refl 0⟩) hS (fun H1 locs1 hP1 hS1 => kk H1 locs1 ls hP1 hS1 hl hor h2)
  next x y =>
    have hb1 : b = true := by
      rcases hbq with ⟨-, hz⟩ | ⟨hz, -⟩
      · omega
      · exact hz
    subst hb1
    cases hres
    exact va_mmax hx hb hsz hown hlink (hts _ (hTs _ ax_wMa_in.1)) (hts _ (hTs _ ax_wMa_in.2.2.2)) (hts _ (hTs _ ax_wMc_in.1)) hR1 hR2 (Nat.le_refl 0) (Nat.le_refl 0) hd (kk H locs ls hP hS hl hor h2)
  next x y =>
    have hb1 : b = true := by
      rcases hbq with ⟨-, hz⟩ | ⟨hz, -⟩
      · omega
      · exact hz
    subst hb1
    cases hres
    exact va_mmin hx hb hsz hown hlink (hts _ (hTs _ ax_wMa_in.2.1)) (hts _ (hTs _ ax_wMa_in.2.2.2)) (hts _ (hTs _ ax_wMc_in.2.1)) hR1 hR2 (Nat.le_refl 0) (Nat.le_refl 0) hd (kk H locs ls hP hS hl hor h2)
  next x =>
    have hb1 : b = true := by
      rcases hbq with ⟨-, hz⟩ | ⟨hz, -⟩
      · omega
      · exact hz
    subst hb1
    cases hres
    exact va_mabs hx hb hsz hown hlink (hts _ (hTs _ ax_wMa_in.2.2.1)) (hts _ (hTs _ ax_wMa_in.2.2.2)) (hts _ (hTs _ ax_wMc_in.2.2)) hR1 hR2 (Nat.le_refl 0) (Nat.le_refl 0) hd (kk H locs ls hP hS hl hor h2)
  next => cases hres
set_option maxHeartbeats 8000000 in
theorem ax_snd_step {nx : Nat → ax_L → List ax_V → ax_M → Option ax_R} {cl pr : Nat → List ax_V → ax_M → Option ax_R} {L : List ax_E} {k pc n cN rt d : Nat} {ins : Jvm.ClassFile.Instr} {info : List Nat} {cv : ax_V} {lv : ax_L} {st : List ax_V} {mm : ax_M} {res : ax_R}
    (hx : p.tables.exec = Jvm.exec) (hb : c.code = bytes) (hml : c.maxLocals = nL) (hown : s.vm.findClass (ax_cn cN) = some m.cls) (hts : ∀ w ∈ Ts, w.before args s = true) (hTs : ∀ w ∈ ax_W, w ∈ Ts) (hret : ax_rtc meth.sig.returnType = rt) (hlocks : meth.locks = false) (hSt : ax_St D Ca ad adV s) (hinj : ax_inj ad) (hStr : ax_StrOK l D Ca ad adV)
    (hdec : decode bytes pc = .ok (ins, n)) (hlen : ax_ilen ins = 0 ∨ n = ax_ilen ins) (hnext : ax_last ins = false → ∃ e2, ax_nth L (k + 1) = some e2 ∧ e2.1 = pc + n) (hwd : ax_wd cN rt L (pc, (ins, (info, cv))) = true)
    (hnx : ∀ (k' : Nat) (lv' : ax_L) (st' : List ax_V) (m' : ax_M), nx k' lv' st' m' = some res → ∀ e2, ax_nth L k' = some e2 → ax_Gd p l e (ax_rm d) s m args below meth c (MQ below (ax_Qc D Ca ad res) args s 0 0 (ax_A ad)) D Ca ad nL e2.1 lv' st' m')
    (hcl : ∀ (mt : Nat) (a : List ax_V) (m' : ax_M) (r1 : ax_R), cl mt a m' = some r1 → (∀ v ∈ a, ax_okv v) → ∀ r0 : ax_IR, ax_row mt = some r0 → ∃ (d1 : Nat) (q : Nat × List ax_E), d = d1 + 1 ∧ ax_gd r0 q ∧ Met l r0.1 (ax_wC r0 :: ax_W) (ax_rm d1) (ax_Pc D Ca ad adV a m') (ax_Qc D Ca ad r1) 0 0 (ax_A ad))
    (hpr : ∀ (q : Nat) (a : List ax_V) (m' : ax_M) (r1 : ax_R), pr q a m' = some r1 → ax_prim q a m' = some r1 ∧ 6 ≤ d)
    (h : ax_step nx cl pr (pc, (ins, (info, cv))) k lv st mm = some res) : ax_Gd p l e (ax_rm d) s m args below meth c (MQ below (ax_Qc D Ca ad res) args s 0 0 (ax_A ad)) D Ca ad nL pc lv st mm := by
  have hn1 : ∀ N, ax_ilen ins = N → N ≠ 0 → decode bytes pc = .ok (ins, N) := by
    intro N z1 z2
    have : n = N := by omega
    rw [← this]
    exact hdec
  have hk1 : ∀ N, ax_ilen ins = N → N ≠ 0 → ax_last ins = false → ∀ (lv' : ax_L) (st' : List ax_V) (m' : ax_M), nx (k + 1) lv' st' m' = some res → ax_Gd p l e (ax_rm d) s m args below meth c (MQ below (ax_Qc D Ca ad res) args s 0 0 (ax_A ad)) D Ca ad nL (pc + N) lv' st' m' := by
    intro N z1 z2 z3 lv' st' m' z4
    obtain ⟨e2, z5, z6⟩ := hnext z3
    have : n = N := by omega
    rw [← this, ← z6]
    exact hnx _ _ _ _ z4 e2 z5
  have hkt : ∀ (t : Nat) (off : Int), ax_tgt L pc off t = true → ∃ tgt : Nat, (pc : Int) + off = (tgt : Int) ∧ ∀ (lv' : ax_L) (st' : List ax_V) (m' : ax_M), nx t lv' st' m' = some res → ax_Gd p l e (ax_rm d) s m args below meth c (MQ below (ax_Qc D Ca ad res) args s 0 0 (ax_A ad)) D Ca ad nL tgt lv' st' m' := by
    intro t off z1
    obtain ⟨e2, z2, z3⟩ := ax_tgt_of z1
    exact ⟨e2.1, z3, fun lv' st' m' z4 => hnx _ _ _ _ z4 e2 z2⟩
  cases ins
  case iload_n j =>
    obtain ⟨x, hj, h⟩ := ax_inv_ld (F := fun v => nx (k + 1) lv (v :: st) mm) h
    exact ax_ld hj (hk1 1 rfl (by decide) rfl _ _ _ h) (fun H locs ls hh w => lv_iload_n hx hb (hn1 1 rfl (by decide)) rfl hh w)
  case iload j =>
    obtain ⟨x, hj, h⟩ := ax_inv_ld (F := fun v => nx (k + 1) lv (v :: st) mm) h
    exact ax_ld hj (hk1 2 rfl (by decide) rfl _ _ _ h) (fun H locs ls hh w => lv_iload hx hb (hn1 2 rfl (by decide)) hh w)
  case lload_n j =>
    obtain ⟨x, hj, h⟩ := ax_inv_ldl (F := fun v => nx (k + 1) lv (v :: st) mm) h
    exact ax_ld hj (hk1 1 rfl (by decide) rfl _ _ _ h) (fun H locs ls hh w => lv_lload_n hx hb (hn1 1 rfl (by decide)) rfl hh w)
  case lload j =>
    obtain ⟨x, hj, h⟩ := ax_inv_ldl (F := fun v => nx (k + 1) lv (v :: st) mm) h
    exact ax_ld hj (hk1 2 rfl (by decide) rfl _ _ _ h) (fun H locs ls hh w => lv_lload hx hb (hn1 2 rfl (by decide)) hh w)
  case aload_n j =>
    obtain ⟨x, hj, h⟩ := ax_inv_lda (F := fun v => nx (k + 1) lv (v :: st) mm) h
    exact ax_ld hj (hk1 1 rfl (by decide) rfl _ _ _ h) (fun H locs ls hh w => lv_aload_n hx hb (hn1 1 rfl (by decide)) rfl hh w)
  case aload j =>
    obtain ⟨x, hj, h⟩ := ax_inv_lda (F := fun v => nx (k + 1) lv (v :: st) mm) h
    exact ax_ld hj (hk1 2 rfl (by decide) rfl _ _ _ h) (fun H locs ls hh w => lv_aload hx hb (hn1 2 rfl (by decide)) hh w)
  case istore_n j =>
    obtain ⟨x, r, rfl, h⟩ := ax_inv_i (F := fun x r => if j.val < lv.length then nx (k + 1) (ax_stv lv j.val (.inl x)) r mm else none) h
    obtain ⟨hj, h⟩ := ax_inv_if _ h
    exact ax_s1 hj (hk1 1 rfl (by decide) rfl _ _ _ h) (fun H locs ls h3 h4 w => lv_istore_n hx hb (hn1 1 rfl (by decide)) rfl h3 h4 rfl w)
  case istore j =>
    obtain ⟨x, r, rfl, h⟩ := ax_inv_i (F := fun x r => if j < lv.length then nx (k + 1) (ax_stv lv j (.inl x)) r mm else none) h
    obtain ⟨hj, h⟩ := ax_inv_if _ h
    exact ax_s1 hj (hk1 2 rfl (by decide) rfl _ _ _ h) (fun H locs ls h3 h4 w => lv_istore hx hb (hn1 2 rfl (by decide)) h3 h4 rfl w)
  case astore_n j =>
    obtain ⟨x, r, rfl, h⟩ := ax_inv_a (F := fun x r => if j.val < lv.length then nx (k + 1) (ax_stv lv j.val (.inr (.inr x))) r mm else none) h
    obtain ⟨hj, h⟩ := ax_inv_if _ h
    exact ax_s1 hj (hk1 1 rfl (by decide) rfl _ _ _ h) (fun H locs ls h3 h4 w => lv_astore_n hx hb (hn1 1 rfl (by decide)) rfl h3 h4 rfl w)
  case astore j =>
    obtain ⟨x, r, rfl, h⟩ := ax_inv_a (F := fun x r => if j < lv.length then nx (k + 1) (ax_stv lv j (.inr (.inr x))) r mm else none) h
    obtain ⟨hj, h⟩ := ax_inv_if _ h
    exact ax_s1 hj (hk1 2 rfl (by decide) rfl _ _ _ h) (fun H locs ls h3 h4 w => lv_astore hx hb (hn1 2 rfl (by decide)) h3 h4 rfl w)
  case lstore_n j =>
    obtain ⟨x, r, rfl, h⟩ := ax_inv_l (F := fun x r => if j.val + 1 < lv.length then nx (k + 1) (ax_stw lv j.val (.inr (.inl x))) r mm else none) h
    obtain ⟨hj, h⟩ := ax_inv_if _ h
    exact ax_s2 hj (hk1 1 rfl (by decide) rfl _ _ _ h) (fun H locs ls h3 h4 w => lv_lstore_n hx hb (hn1 1 rfl (by decide)) rfl h3 h4 rfl w)
  case lstore j =>
    obtain ⟨x, r, rfl, h⟩ := ax_inv_l (F := fun x r => if j + 1 < lv.length then nx (k + 1) (ax_stw lv j (.inr (.inl x))) r mm else none) h
    obtain ⟨hj, h⟩ := ax_inv_if _ h
    exact ax_s2 hj (hk1 2 rfl (by decide) rfl _ _ _ h) (fun H locs ls h3 h4 w => lv_lstore hx hb (hn1 2 rfl (by decide)) h3 h4 rfl w)
  case iconst z =>
    rcases cv with x | x | y
    · have hw := of_decide_eq_true (show decide _ = true from hwd)
      exact ax_i1 (hk1 1 rfl (by decide) rfl _ _ _ h) (fun h1 _ => ax_ok1 trivial h1) (fun H locs ls _ _ _ _ w => lv_iconst hx hb (hn1 1 rfl (by decide)) hw w)
    · exact absurd (show false = true from hwd) (by decide)
    · exact absurd (show false = true from hwd) (by decide)
  case bipush z =>
    rcases cv with x | x | y
    · have hw := of_decide_eq_true (show decide _ = true from hwd)
      exact ax_i1 (hk1 2 rfl (by decide) rfl _ _ _ h) (fun h1 _ => ax_ok1 trivial h1) (fun H locs ls _ _ _ _ w => lv_bipush hx hb (hn1 2 rfl (by decide)) hw w)
    · exact absurd (show false = true from hwd) (by decide)
    · exact absurd (show false = true from hwd) (by decide)
  case sipush z =>
    rcases cv with x | x | y
    · have hw := of_decide_eq_true (show decide _ = true from hwd)
      exact ax_i1 (hk1 3 rfl (by decide) rfl _ _ _ h) (fun h1 _ => ax_ok1 trivial h1) (fun H locs ls _ _ _ _ w => lv_sipush hx hb (hn1 3 rfl (by decide)) hw w)
    · exact absurd (show false = true from hwd) (by decide)
    · exact absurd (show false = true from hwd) (by decide)
  case lconst z =>
    rcases cv with x | x | y
    · exact absurd (show false = true from hwd) (by decide)
    · have hw := of_decide_eq_true (show decide _ = true from hwd)
      exact ax_i1 (hk1 1 rfl (by decide) rfl _ _ _ h) (fun h1 _ => ax_ok1 trivial h1) (fun H locs ls _ _ _ _ w => lv_lconst hx hb (hn1 1 rfl (by decide)) hw w)
    · exact absurd (show false = true from hwd) (by decide)
  case ldc i =>
    rcases cv with x | x | ⟨q, z⟩
    · have hw := of_decide_eq_true (show decide _ = true from hwd)
      exact ax_i1 (hk1 2 rfl (by decide) rfl _ _ _ h) (fun h1 _ => ax_ok1 trivial h1) (fun H locs ls _ _ _ _ w => lv_ldc hx hb hown (hts _ (hTs _ (ax_inK hw))) (hn1 2 rfl (by decide)) w)
    · exact absurd (show false = true from hwd) (by decide)
    · have hw := Bool.and_eq_true_iff.mp (show (decide (q = 42) && decide ((cN, (i, z)) ∈ ax_sr)) = true from hwd)
      have hq := of_decide_eq_true hw.1
      have hz := of_decide_eq_true hw.2
      subst hq
      exact ax_i1 (hk1 2 rfl (by decide) rfl _ _ _ h) (fun h1 _ => ax_ok1 (ax_sr_lt _ hz) h1) (fun H locs ls _ _ _ _ w => va_ldcS hx hb hown (hSt.2.2.2.1 _ hz) (hn1 2 rfl (by decide)) w)
  case ldc_w i =>
    rcases cv with x | x | y
    · have hw := of_decide_eq_true (show decide _ = true from hwd)
      exact ax_i1 (hk1 3 rfl (by decide) rfl _ _ _ h) (fun h1 _ => ax_ok1 trivial h1) (fun H locs ls _ _ _ _ w => lv_ldcw hx hb hown (hts _ (hTs _ (ax_inK hw))) (hn1 3 rfl (by decide)) w)
    · exact absurd (show false = true from hwd) (by decide)
    · exact absurd (show false = true from hwd) (by decide)
  case ldc2_w i =>
    rcases cv with x | x | y
    · exact absurd (show false = true from hwd) (by decide)
    · have hw := of_decide_eq_true (show decide _ = true from hwd)
      exact ax_i1 (hk1 3 rfl (by decide) rfl _ _ _ h) (fun h1 _ => ax_ok1 trivial h1) (fun H locs ls _ _ _ _ w => lv_ldc2 hx hb hown (hts _ (hTs _ (ax_inL hw))) (hn1 3 rfl (by decide)) w)
    · exact absurd (show false = true from hwd) (by decide)
  case getstatic i =>
    rcases cv with x | x | ⟨q, z⟩
    · exact absurd (show false = true from hwd) (by decide)
    · exact absurd (show false = true from hwd) (by decide)
    · have hw := Bool.and_eq_true_iff.mp (show (decide (z = 0) && decide ((cN, (i, q)) ∈ ax_sl)) = true from hwd)
      have hz := of_decide_eq_true hw.1
      have hq := of_decide_eq_true hw.2
      subst hz
      have hq2 := ax_sl_k _ hq
      exact ax_i1 (hk1 3 rfl (by decide) rfl _ _ _ h) (fun h1 _ => ax_ok1 (by show 0 < ax_cnt q; rcases hq2 with e | e <;> (dsimp only at e; rw [e]; decide)) h1) (fun H locs ls _ hS _ _ w => va_gets hx hb (hSt.2.2.1 q hq2).1 hS hown (hts _ (hTs _ (ax_inS hq))) (fun _ h => h) (hn1 3 rfl (by decide)) w)
  case iadd  =>
    obtain ⟨y, x, r, hst, h7⟩ := ax_inv_ii (F := fun y x r => nx (k + 1) lv (.inl (x + y) :: r) mm) h
    subst hst
    have h := h7
    exact ax_i1 (hk1 1 rfl (by decide) rfl _ _ _ h) (fun h1 _ => ax_ok1 trivial (ax_tl (ax_tl h1))) (fun H locs ls _ _ _ _ w => lv_iadd hx hb (hn1 1 rfl (by decide)) w)
  case isub  =>
    obtain ⟨y, x, r, hst, h7⟩ := ax_inv_ii (F := fun y x r => nx (k + 1) lv (.inl (x - y) :: r) mm) h
    subst hst
    have h := h7
    exact ax_i1 (hk1 1 rfl (by decide) rfl _ _ _ h) (fun h1 _ => ax_ok1 trivial (ax_tl (ax_tl h1))) (fun H locs ls _ _ _ _ w => lv_isub hx hb (hn1 1 rfl (by decide)) w)
  case imul  =>
    obtain ⟨y, x, r, hst, h7⟩ := ax_inv_ii (F := fun y x r => nx (k + 1) lv (.inl (x * y) :: r) mm) h
    subst hst
    have h := h7
    exact ax_i1 (hk1 1 rfl (by decide) rfl _ _ _ h) (fun h1 _ => ax_ok1 trivial (ax_tl (ax_tl h1))) (fun H locs ls _ _ _ _ w => lv_imul hx hb (hn1 1 rfl (by decide)) w)
  case iand  =>
    obtain ⟨y, x, r, hst, h7⟩ := ax_inv_ii (F := fun y x r => nx (k + 1) lv (.inl (x &&& y) :: r) mm) h
    subst hst
    have h := h7
    exact ax_i1 (hk1 1 rfl (by decide) rfl _ _ _ h) (fun h1 _ => ax_ok1 trivial (ax_tl (ax_tl h1))) (fun H locs ls _ _ _ _ w => lv_iand hx hb (hn1 1 rfl (by decide)) w)
  case ior  =>
    obtain ⟨y, x, r, hst, h7⟩ := ax_inv_ii (F := fun y x r => nx (k + 1) lv (.inl (x ||| y) :: r) mm) h
    subst hst
    have h := h7
    exact ax_i1 (hk1 1 rfl (by decide) rfl _ _ _ h) (fun h1 _ => ax_ok1 trivial (ax_tl (ax_tl h1))) (fun H locs ls _ _ _ _ w => lv_ior hx hb (hn1 1 rfl (by decide)) w)
  case ixor  =>
    obtain ⟨y, x, r, hst, h7⟩ := ax_inv_ii (F := fun y x r => nx (k + 1) lv (.inl (x ^^^ y) :: r) mm) h
    subst hst
    have h := h7
    exact ax_i1 (hk1 1 rfl (by decide) rfl _ _ _ h) (fun h1 _ => ax_ok1 trivial (ax_tl (ax_tl h1))) (fun H locs ls _ _ _ _ w => lv_ixor hx hb (hn1 1 rfl (by decide)) w)
  case ishl  =>
    obtain ⟨y, x, r, hst, h7⟩ := ax_inv_ii (F := fun y x r => nx (k + 1) lv (.inl (x <<< (y &&& 31)) :: r) mm) h
    subst hst
    have h := h7
    exact ax_i1 (hk1 1 rfl (by decide) rfl _ _ _ h) (fun h1 _ => ax_ok1 trivial (ax_tl (ax_tl h1))) (fun H locs ls _ _ _ _ w => lv_ishl hx hb (hn1 1 rfl (by decide)) w)
  case ishr  =>
    obtain ⟨y, x, r, hst, h7⟩ := ax_inv_ii (F := fun y x r => nx (k + 1) lv (.inl (x >>> (y &&& 31)) :: r) mm) h
    subst hst
    have h := h7
    exact ax_i1 (hk1 1 rfl (by decide) rfl _ _ _ h) (fun h1 _ => ax_ok1 trivial (ax_tl (ax_tl h1))) (fun H locs ls _ _ _ _ w => lv_ishr hx hb (hn1 1 rfl (by decide)) w)
  case iushr  =>
    obtain ⟨y, x, r, hst, h7⟩ := ax_inv_ii (F := fun y x r => nx (k + 1) lv (.inl ((x.toUInt32 >>> (y.toUInt32 &&& Int32.toUInt32 31)).toInt32) :: r) mm) h
    subst hst
    have h := h7
    exact ax_i1 (hk1 1 rfl (by decide) rfl _ _ _ h) (fun h1 _ => ax_ok1 trivial (ax_tl (ax_tl h1))) (fun H locs ls _ _ _ _ w => lv_iushr hx hb (hn1 1 rfl (by decide)) rfl w)
  case ineg  =>
    obtain ⟨x, r, hst, h7⟩ := ax_inv_i (F := fun x r => nx (k + 1) lv (.inl (-x) :: r) mm) h
    subst hst
    have h := h7
    exact ax_i1 (hk1 1 rfl (by decide) rfl _ _ _ h) (fun h1 _ => ax_ok1 trivial (ax_tl h1)) (fun H locs ls _ _ _ _ w => lv_ineg hx hb (hn1 1 rfl (by decide)) w)
  case i2b  =>
    obtain ⟨x, r, hst, h7⟩ := ax_inv_i (F := fun x r => nx (k + 1) lv (.inl (x.toInt8.toInt32) :: r) mm) h
    subst hst
    have h := h7
    exact ax_i1 (hk1 1 rfl (by decide) rfl _ _ _ h) (fun h1 _ => ax_ok1 trivial (ax_tl h1)) (fun H locs ls _ _ _ _ w => lv_i2b hx hb (hn1 1 rfl (by decide)) rfl w)
  case i2s  =>
    obtain ⟨x, r, hst, h7⟩ := ax_inv_i (F := fun x r => nx (k + 1) lv (.inl (x.toInt16.toInt32) :: r) mm) h
    subst hst
    have h := h7
    exact ax_i1 (hk1 1 rfl (by decide) rfl _ _ _ h) (fun h1 _ => ax_ok1 trivial (ax_tl h1)) (fun H locs ls _ _ _ _ w => lv_i2s hx hb (hn1 1 rfl (by decide)) rfl w)
  case idiv  =>
    obtain ⟨y, x, r, hst, h7⟩ := ax_inv_ii (F := fun y x r => if y = 0 then none else nx (k + 1) lv (.inl (x / y) :: r) mm) h
    subst hst
    have h := h7
    by_cases hy : y = 0
    · rw [if_pos hy] at h; cases h
    · rw [if_neg hy] at h
      exact ax_i1 (hk1 1 rfl (by decide) rfl _ _ _ h) (fun h1 _ => ax_ok1 trivial (ax_tl (ax_tl h1))) (fun H locs ls _ _ _ _ w => lv_idiv hx hb (hn1 1 rfl (by decide)) hy w)
  case irem  =>
    obtain ⟨y, x, r, hst, h7⟩ := ax_inv_ii (F := fun y x r => if y = 0 then none else nx (k + 1) lv (.inl (x - x / y * y) :: r) mm) h
    subst hst
    have h := h7
    by_cases hy : y = 0
    · rw [if_pos hy] at h; cases h
    · rw [if_neg hy] at h
      exact ax_i1 (hk1 1 rfl (by decide) rfl _ _ _ h) (fun h1 _ => ax_ok1 trivial (ax_tl (ax_tl h1))) (fun H locs ls _ _ _ _ w => lv_irem hx hb (hn1 1 rfl (by decide)) hy w)
  case ladd  =>
    obtain ⟨y, x, r, hst, h7⟩ := ax_inv_ll (F := fun y x r => nx (k + 1) lv (.inr (.inl (x + y)) :: r) mm) h
    subst hst
    have h := h7
    exact ax_i1 (hk1 1 rfl (by decide) rfl _ _ _ h) (fun h1 _ => ax_ok1 trivial (ax_tl (ax_tl h1))) (fun H locs ls _ _ _ _ w => lv_ladd hx hb (hn1 1 rfl (by decide)) w)
  case lsub  =>
    obtain ⟨y, x, r, hst, h7⟩ := ax_inv_ll (F := fun y x r => nx (k + 1) lv (.inr (.inl (x - y)) :: r) mm) h
    subst hst
    have h := h7
    exact ax_i1 (hk1 1 rfl (by decide) rfl _ _ _ h) (fun h1 _ => ax_ok1 trivial (ax_tl (ax_tl h1))) (fun H locs ls _ _ _ _ w => lv_lsub hx hb (hn1 1 rfl (by decide)) w)
  case land  =>
    obtain ⟨y, x, r, hst, h7⟩ := ax_inv_ll (F := fun y x r => nx (k + 1) lv (.inr (.inl (x &&& y)) :: r) mm) h
    subst hst
    have h := h7
    exact ax_i1 (hk1 1 rfl (by decide) rfl _ _ _ h) (fun h1 _ => ax_ok1 trivial (ax_tl (ax_tl h1))) (fun H locs ls _ _ _ _ w => lv_land hx hb (hn1 1 rfl (by decide)) w)
  case lor  =>
    obtain ⟨y, x, r, hst, h7⟩ := ax_inv_ll (F := fun y x r => nx (k + 1) lv (.inr (.inl (x ||| y)) :: r) mm) h
    subst hst
    have h := h7
    exact ax_i1 (hk1 1 rfl (by decide) rfl _ _ _ h) (fun h1 _ => ax_ok1 trivial (ax_tl (ax_tl h1))) (fun H locs ls _ _ _ _ w => lv_lor hx hb (hn1 1 rfl (by decide)) w)
  case lxor  =>
    obtain ⟨y, x, r, hst, h7⟩ := ax_inv_ll (F := fun y x r => nx (k + 1) lv (.inr (.inl (x ^^^ y)) :: r) mm) h
    subst hst
    have h := h7
    exact ax_i1 (hk1 1 rfl (by decide) rfl _ _ _ h) (fun h1 _ => ax_ok1 trivial (ax_tl (ax_tl h1))) (fun H locs ls _ _ _ _ w => lv_lxor hx hb (hn1 1 rfl (by decide)) w)
  case lshl  =>
    obtain ⟨y, x, r, hst, h7⟩ := ax_inv_il (F := fun y x r => nx (k + 1) lv (.inr (.inl (x <<< (y.toInt64 &&& 63))) :: r) mm) h
    subst hst
    have h := h7
    exact ax_i1 (hk1 1 rfl (by decide) rfl _ _ _ h) (fun h1 _ => ax_ok1 trivial (ax_tl (ax_tl h1))) (fun H locs ls _ _ _ _ w => lv_lshl hx hb (hn1 1 rfl (by decide)) rfl w)
  case lushr  =>
    obtain ⟨y, x, r, hst, h7⟩ := ax_inv_il (F := fun y x r => nx (k + 1) lv (.inr (.inl ((x.toUInt64 >>> (y.toInt64.toUInt64 &&& Int64.toUInt64 63)).toInt64)) :: r) mm) h
    subst hst
    have h := h7
    exact ax_i1 (hk1 1 rfl (by decide) rfl _ _ _ h) (fun h1 _ => ax_ok1 trivial (ax_tl (ax_tl h1))) (fun H locs ls _ _ _ _ w => lv_lushr hx hb (hn1 1 rfl (by decide)) rfl w)
  case lneg  =>
    obtain ⟨x, r, hst, h7⟩ := ax_inv_l (F := fun x r => nx (k + 1) lv (.inr (.inl (-x)) :: r) mm) h
    subst hst
    have h := h7
    exact ax_i1 (hk1 1 rfl (by decide) rfl _ _ _ h) (fun h1 _ => ax_ok1 trivial (ax_tl h1)) (fun H locs ls _ _ _ _ w => lv_lneg hx hb (hn1 1 rfl (by decide)) w)
  case i2l  =>
    obtain ⟨x, r, hst, h7⟩ := ax_inv_i (F := fun x r => nx (k + 1) lv (.inr (.inl x.toInt64) :: r) mm) h
    subst hst
    have h := h7
    exact ax_i1 (hk1 1 rfl (by decide) rfl _ _ _ h) (fun h1 _ => ax_ok1 trivial (ax_tl h1)) (fun H locs ls _ _ _ _ w => lv_i2l hx hb (hn1 1 rfl (by decide)) rfl w)
  case l2i  =>
    obtain ⟨x, r, hst, h7⟩ := ax_inv_l (F := fun x r => nx (k + 1) lv (.inl x.toInt32 :: r) mm) h
    subst hst
    have h := h7
    exact ax_i1 (hk1 1 rfl (by decide) rfl _ _ _ h) (fun h1 _ => ax_ok1 trivial (ax_tl h1)) (fun H locs ls _ _ _ _ w => lv_l2i hx hb (hn1 1 rfl (by decide)) rfl w)
  case lcmp  =>
    obtain ⟨y, x, r, hst, h7⟩ := ax_inv_ll (F := fun y x r => nx (k + 1) lv (.inl (lg_cmp x y) :: r) mm) h
    subst hst
    have h := h7
    exact ax_i1 (hk1 1 rfl (by decide) rfl _ _ _ h) (fun h1 _ => ax_ok1 trivial (ax_tl (ax_tl h1))) (fun H locs ls _ _ _ _ w => W.lcmp hx hb (hn1 1 rfl (by decide)) w)
  case iinc j z =>
    rcases cv with y | y | y
    · have hw := of_decide_eq_true (show decide _ = true from hwd)
      obtain ⟨x, hj, h7⟩ : ∃ x, ax_nth lv j = some (some (.inl x)) ∧ (if j < lv.length then nx (k + 1) (ax_stv lv j (.inl (x + y))) st mm else none) = some res := by
        have h : (match (generalizing := false) ax_nth lv j, (Sum.inl y : ax_V) with
          | some (some (.inl x)), .inl c => if j < lv.length then nx (k + 1) (ax_stv lv j (.inl (x + c))) st mm else none
          | _, _ => none) = some res := h
        split at h
        next x c hj hc => cases hc; exact ⟨x, hj, h⟩
        next => cases h
      have h := h7
      obtain ⟨hj2, h⟩ := ax_inv_if _ h
      exact ax_inc hx hb hj (by rw [hw]) (hn1 3 rfl (by decide)) (hk1 3 rfl (by decide) rfl _ _ _ h)
    · exact absurd (show false = true from hwd) (by decide)
    · exact absurd (show false = true from hwd) (by decide)
  case dup  =>
    rcases ax_inv_dup (F := fun x r => nx (k + 1) lv (.inl x :: .inl x :: r) mm) (F2 := fun x r => nx (k + 1) lv (.inr (.inr x) :: .inr (.inr x) :: r) mm) h with ⟨x, r, hst, h7⟩ | ⟨x, r, hst, h7⟩
    · subst hst
      have h := h7
      exact ax_i1 (hk1 1 rfl (by decide) rfl _ _ _ h) (fun h1 _ => ax_ok1 trivial h1) (fun H locs ls _ _ _ _ w => lv_dup hx hb (hn1 1 rfl (by decide)) rfl w)
    · subst hst
      have h := h7
      exact ax_i1 (hk1 1 rfl (by decide) rfl _ _ _ h) (fun h1 _ => ax_ok1 (ax_hd h1) h1) (fun H locs ls _ _ _ _ w => lv_dup hx hb (hn1 1 rfl (by decide)) rfl w)
  case dup_x1  =>
    obtain ⟨x, y, r, hst, h7⟩ := ax_inv_dx (F := fun x y r => nx (k + 1) lv (.inl x :: .inr (.inr y) :: .inl x :: r) mm) h
    subst hst
    have h := h7
    exact ax_i1 (hk1 1 rfl (by decide) rfl _ _ _ h) (fun h1 _ => ax_ok1 trivial (ax_ok1 (ax_hd (ax_tl h1)) (ax_ok1 trivial (ax_tl (ax_tl h1))))) (fun H locs ls _ _ _ _ w => lv_dup_x1 hx hb (hn1 1 rfl (by decide)) rfl rfl w)
  case dup2  =>
    obtain ⟨x, y, r, hst, h7⟩ := ax_inv_dx (F := fun x y r => nx (k + 1) lv (.inl x :: .inr (.inr y) :: .inl x :: .inr (.inr y) :: r) mm) h
    subst hst
    have h := h7
    exact ax_i1 (hk1 1 rfl (by decide) rfl _ _ _ h) (fun h1 _ => ax_ok1 trivial (ax_ok1 (ax_hd (ax_tl h1)) h1)) (fun H locs ls _ _ _ _ w => lv_dup2_11 hx hb (hn1 1 rfl (by decide)) rfl rfl w)
  case pop  =>
    obtain ⟨x, r, hst, h7⟩ := ax_inv_i (F := fun x r => nx (k + 1) lv r mm) h
    subst hst
    have h := h7
    exact ax_i1 (hk1 1 rfl (by decide) rfl _ _ _ h) (fun h1 _ => ax_tl h1) (fun H locs ls _ _ _ _ w => lv_pop hx hb (hn1 1 rfl (by decide)) rfl w)
  case goto off =>
    obtain ⟨t, ts, hi, h7⟩ := ax_inv_t (F := fun t => nx t lv st mm) h
    subst hi
    have h := h7
    obtain ⟨tgt, z1, z2⟩ := hkt t off hwd
    exact ax_i1 (z2 _ _ _ h) (fun h1 _ => h1) (fun H locs ls _ _ _ _ w => lv_goto hx hb (hn1 3 rfl (by decide)) z1 w)
  case if_icmp cnd off =>
    obtain ⟨t, ts, y, x, r, hi, hst, h7⟩ := ax_inv_tii (F := fun t y x r => ax_cmp cnd x y (nx t lv r mm) (nx (k + 1) lv r mm)) h
    subst hi
    subst hst
    have h := h7
    obtain ⟨tgt, z1, z2⟩ := hkt t off hwd
    have hkf := fun (h : nx (k + 1) lv r mm = some res) => (hk1 3 rfl (by decide) rfl _ _ _ h)
    cases cnd
    case eq =>
      have h : (if x = y then (nx t lv r mm) else (nx (k + 1) lv r mm)) = some res := h7
      intro h1 h2 H locs ls hP hS hl
      exact lv_icmp_eq hx hb (hn1 3 rfl (by decide)) z1 (fun q => z2 _ _ _ (by rw [if_pos q] at h; exact h) (ax_tl (ax_tl h1)) h2 H locs ls hP hS hl) (fun q => hkf (by rw [if_neg q] at h; exact h) (ax_tl (ax_tl h1)) h2 H locs ls hP hS hl)
    case ne =>
      have h : (if x = y then (nx (k + 1) lv r mm) else (nx t lv r mm)) = some res := h7
      intro h1 h2 H locs ls hP hS hl
      exact lv_icmp_ne hx hb (hn1 3 rfl (by decide)) z1 (fun q => z2 _ _ _ (by rw [if_neg q] at h; exact h) (ax_tl (ax_tl h1)) h2 H locs ls hP hS hl) (fun q => hkf (by rw [if_pos q] at h; exact h) (ax_tl (ax_tl h1)) h2 H locs ls hP hS hl)
    case lt =>
      have h : (if x < y then (nx t lv r mm) else (nx (k + 1) lv r mm)) = some res := h7
      intro h1 h2 H locs ls hP hS hl
      exact lv_icmp_lt hx hb (hn1 3 rfl (by decide)) z1 (fun q => z2 _ _ _ (by rw [if_pos q] at h; exact h) (ax_tl (ax_tl h1)) h2 H locs ls hP hS hl) (fun q => hkf (by rw [if_neg q] at h; exact h) (ax_tl (ax_tl h1)) h2 H locs ls hP hS hl)
    case ge =>
      have h : (if y ≤ x then (nx t lv r mm) else (nx (k + 1) lv r mm)) = some res := h7
      intro h1 h2 H locs ls hP hS hl
      exact lv_icmp_ge hx hb (hn1 3 rfl (by decide)) z1 (fun q => z2 _ _ _ (by rw [if_pos q] at h; exact h) (ax_tl (ax_tl h1)) h2 H locs ls hP hS hl) (fun q => hkf (by rw [if_neg q] at h; exact h) (ax_tl (ax_tl h1)) h2 H locs ls hP hS hl)
    case gt =>
      have h : (if y < x then (nx t lv r mm) else (nx (k + 1) lv r mm)) = some res := h7
      intro h1 h2 H locs ls hP hS hl
      exact lv_icmp_gt hx hb (hn1 3 rfl (by decide)) z1 (fun q => z2 _ _ _ (by rw [if_pos q] at h; exact h) (ax_tl (ax_tl h1)) h2 H locs ls hP hS hl) (fun q => hkf (by rw [if_neg q] at h; exact h) (ax_tl (ax_tl h1)) h2 H locs ls hP hS hl)
    case le =>
      have h : (if x ≤ y then (nx t lv r mm) else (nx (k + 1) lv r mm)) = some res := h7
      intro h1 h2 H locs ls hP hS hl
      exact lv_icmp_le hx hb (hn1 3 rfl (by decide)) z1 (fun q => z2 _ _ _ (by rw [if_pos q] at h; exact h) (ax_tl (ax_tl h1)) h2 H locs ls hP hS hl) (fun q => hkf (by rw [if_neg q] at h; exact h) (ax_tl (ax_tl h1)) h2 H locs ls hP hS hl)
  case ifCond cnd off =>
    obtain ⟨t, ts, x, r, hi, hst, h7⟩ := ax_inv_ti (F := fun t x r => ax_cmp cnd x 0 (nx t lv r mm) (nx (k + 1) lv r mm)) h
    subst hi
    subst hst
    have h := h7
    obtain ⟨tgt, z1, z2⟩ := hkt t off hwd
    have hkf := fun (h : nx (k + 1) lv r mm = some res) => (hk1 3 rfl (by decide) rfl _ _ _ h)
    cases cnd
    case eq =>
      have h : (if x = (0 : Int32) then (nx t lv r mm) else (nx (k + 1) lv r mm)) = some res := h7
      intro h1 h2 H locs ls hP hS hl
      exact lv_if_eq hx hb (hn1 3 rfl (by decide)) z1 (fun q => z2 _ _ _ (by rw [if_pos q] at h; exact h) (ax_tl h1) h2 H locs ls hP hS hl) (fun q => hkf (by rw [if_neg q] at h; exact h) (ax_tl h1) h2 H locs ls hP hS hl)
    case ne =>
      have h : (if x = (0 : Int32) then (nx (k + 1) lv r mm) else (nx t lv r mm)) = some res := h7
      intro h1 h2 H locs ls hP hS hl
      exact lv_if_ne hx hb (hn1 3 rfl (by decide)) z1 (fun q => z2 _ _ _ (by rw [if_neg q] at h; exact h) (ax_tl h1) h2 H locs ls hP hS hl) (fun q => hkf (by rw [if_pos q] at h; exact h) (ax_tl h1) h2 H locs ls hP hS hl)
    case lt =>
      have h : (if x < (0 : Int32) then (nx t lv r mm) else (nx (k + 1) lv r mm)) = some res := h7
      intro h1 h2 H locs ls hP hS hl
      exact lv_if_lt hx hb (hn1 3 rfl (by decide)) z1 (fun q => z2 _ _ _ (by rw [if_pos q] at h; exact h) (ax_tl h1) h2 H locs ls hP hS hl) (fun q => hkf (by rw [if_neg q] at h; exact h) (ax_tl h1) h2 H locs ls hP hS hl)
    case ge =>
      have h : (if (0 : Int32) ≤ x then (nx t lv r mm) else (nx (k + 1) lv r mm)) = some res := h7
      intro h1 h2 H locs ls hP hS hl
      exact lv_if_ge hx hb (hn1 3 rfl (by decide)) z1 (fun q => z2 _ _ _ (by rw [if_pos q] at h; exact h) (ax_tl h1) h2 H locs ls hP hS hl) (fun q => hkf (by rw [if_neg q] at h; exact h) (ax_tl h1) h2 H locs ls hP hS hl)
    case gt =>
      have h : (if (0 : Int32) < x then (nx t lv r mm) else (nx (k + 1) lv r mm)) = some res := h7
      intro h1 h2 H locs ls hP hS hl
      exact lv_if_gt hx hb (hn1 3 rfl (by decide)) z1 (fun q => z2 _ _ _ (by rw [if_pos q] at h; exact h) (ax_tl h1) h2 H locs ls hP hS hl) (fun q => hkf (by rw [if_neg q] at h; exact h) (ax_tl h1) h2 H locs ls hP hS hl)
    case le =>
      have h : (if x ≤ (0 : Int32) then (nx t lv r mm) else (nx (k + 1) lv r mm)) = some res := h7
      intro h1 h2 H locs ls hP hS hl
      exact lv_if_le hx hb (hn1 3 rfl (by decide)) z1 (fun q => z2 _ _ _ (by rw [if_pos q] at h; exact h) (ax_tl h1) h2 H locs ls hP hS hl) (fun q => hkf (by rw [if_neg q] at h; exact h) (ax_tl h1) h2 H locs ls hP hS hl)
  case tableswitch df lo hi os =>
    obtain ⟨dt, ts, x, r, hi0, hst, h7⟩ := ax_inv_sw (F := fun dt ts x r => ax_sw x (fun t => nx t lv r mm) dt lo.toNat ts) h
    subst hi0
    subst hst
    have h := h7
    have hw : (ax_tgt L pc df dt && ax_tgts L pc os.toList ts && decide (0 ≤ lo) && decide (lo ≤ hi) && decide (hi < 1000) && decide ((os.size : Int) = hi - lo + 1)) = true := hwd
    simp only [Bool.and_eq_true, decide_eq_true_eq] at hw
    obtain ⟨⟨⟨⟨⟨w1, w2⟩, w3⟩, w4⟩, w5⟩, w6⟩ := hw
    obtain ⟨u1, u2⟩ := ax_tgts_at _ _ w2
    have hts2 : ts.length = os.size := by rw [← u1]; exact Array.length_toList
    rcases ax_sw_of ts lo.toNat (by omega) h with ⟨j, t, y1, y2, y3⟩ | ⟨y1, y2⟩
    · have hj := (List.getElem?_eq_some_iff.mp y1).1
      have hj2 : j < os.toList.length := by omega
      have ho : os.toList[j]? = some (os.toList[j]'hj2) := List.getElem?_eq_getElem _
      obtain ⟨tgt, z1, z2⟩ := hkt t _ (u2 j _ t ho y1)
      refine ax_i1 (z2 _ _ _ y3) (fun h1 _ => ax_tl h1) (fun H locs ls _ _ _ _ w => lv_tableIn hx hb hdec (by omega) (by omega) ?_ z1 w)
      rw [← Array.getElem?_toList, show (x.toInt - lo).toNat = j by omega]
      exact ho
    · obtain ⟨tgt, z1, z2⟩ := hkt dt _ w1
      exact ax_i1 (z2 _ _ _ y2) (fun h1 _ => ax_tl h1) (fun H locs ls _ _ _ _ w => lv_tableOut hx hb hdec (by omega) z1 w)
  case getfield idx =>
    obtain ⟨q, j, t, q2, z, tl, i, r, hi0, hst, hh⟩ := ax_inv_fld (show ax_fld (fun s => nx (k + 1) lv s mm) st mm info = some res from h)
    subst hi0
    subst hst
    have hc : ax_cf cN idx (q :: j :: t :: q2 :: z :: tl) = true := hwd
    have htl : tl = [] := by
      cases tl with
      | nil => rfl
      | cons => exact absurd (show false = true from hc) (by decide)
    subst htl
    have hf := of_decide_eq_true (Bool.and_eq_true_iff.mp hc).2
    have hk := of_decide_eq_true (Bool.and_eq_true_iff.mp (Bool.and_eq_true_iff.mp hc).1).2
    rcases hh with ⟨rfl, h9⟩ | ⟨rfl, h9⟩ | ⟨rfl, h9⟩ | ⟨rfl, h9⟩ | ⟨rfl, h9⟩
    · exact ax_get hx hb hown hts hTs hSt hc (v := .inl (mm.1 q i j)) rfl (fun _ => trivial) (hn1 3 rfl (by decide)) (hk1 3 rfl (by decide) rfl _ _ _ h9)
    · exact ax_get hx hb hown hts hTs hSt hc (v := .inr (.inl (mm.2 q i j))) rfl (fun _ => trivial) (hn1 3 rfl (by decide)) (hk1 3 rfl (by decide) rfl _ _ _ h9)
    · exact ax_get hx hb hown hts hTs hSt hc (v := .inr (.inr (q2, i))) rfl (fun hi => ax_same_cnt q j q2 z hk hf i hi) (hn1 3 rfl (by decide)) (hk1 3 rfl (by decide) rfl _ _ _ h9)
    · exact ax_get hx hb hown hts hTs hSt hc (v := .inr (.inr (q2, z))) rfl (fun hi => ax_const_cnt q j q2 z hk hf) (hn1 3 rfl (by decide)) (hk1 3 rfl (by decide) rfl _ _ _ h9)
    · exact ax_get hx hb hown hts hTs hSt hc (v := .inl (mm.1 q i j)) rfl (fun _ => trivial) (hn1 3 rfl (by decide)) (hk1 3 rfl (by decide) rfl _ _ _ h9)
  case putfield idx =>
    obtain ⟨q, j, t, tl, i, r, v, hi0, hst, hh⟩ := ax_inv_pfld (show ax_pfld (fun s m' => nx (k + 1) lv s m') st mm info = some res from h)
    subst hi0
    subst hst
    obtain ⟨q2, z, htl⟩ := ax_cf_shape (show ax_cf cN idx (q :: j :: t :: tl) = true from hwd)
    subst htl
    have hc : ax_cf cN idx [q, j, t, q2, z] = true := hwd
    have hf := of_decide_eq_true (Bool.and_eq_true_iff.mp hc).2
    have hk := of_decide_eq_true (Bool.and_eq_true_iff.mp (Bool.and_eq_true_iff.mp hc).1).2
    have hpc := ax_pchk_at hk hf
    unfold ax_pchk at hpc
    rw [hf] at hpc
    rcases hh with ⟨rfl, x, rfl, h9⟩ | ⟨rfl, x, rfl, h01, h9⟩ | ⟨rfl, x, rfl, h9⟩
    · have hpc2 := Bool.and_eq_true_iff.mp hpc
      exact ax_pf hx hb hown hts hTs hSt hinj hc (v := .inl x) (by simpa using hpc2.1) (of_decide_eq_true hpc2.2) rfl rfl (fun a b => ax_cell_pi a b (Or.inl rfl)) ax_cell_ui (hn1 3 rfl (by decide)) (hk1 3 rfl (by decide) rfl _ _ _ h9)
    · have hpc2 := Bool.and_eq_true_iff.mp hpc
      obtain ⟨n1, n2, n3⟩ := ax_bool h01
      exact ax_pf hx hb hown hts hTs hSt hinj hc (v := .inl x) (by simpa using hpc2.1) (of_decide_eq_true hpc2.2) n1 n2 (fun a b => ax_cell_pi a b (Or.inr rfl)) ax_cell_ui (hn1 3 rfl (by decide)) (hk1 3 rfl (by decide) rfl _ _ _ h9)
    · have hpc2 := Bool.and_eq_true_iff.mp hpc
      exact ax_pf hx hb hown hts hTs hSt hinj hc (v := .inr (.inl x)) (by simpa using hpc2.1) (of_decide_eq_true hpc2.2) rfl rfl (fun a b => ax_cell_pl a b rfl) ax_cell_ul (hn1 3 rfl (by decide)) (hk1 3 rfl (by decide) rfl _ _ _ h9)
  case iaload  =>
    obtain ⟨j, q, i, r, hst, h7⟩ := ax_inv_arr (F := fun j q i r => if ax_ty q = 1 then (if ax_ok j (ax_len q) = true then nx (k + 1) lv (.inl (mm.1 q i j.toNatClampNeg) :: r) mm else none) else if ax_ty q = 6 then (if (1 : Nat) = 1 then (if ax_ok j (ax_len q) = true then nx (k + 1) lv (.inl (ax_sta q j.toNatClampNeg) :: r) mm else none) else none) else none) h
    subst hst
    have h := h7
    by_cases y1 : ax_ty q = 1
    · rw [if_pos y1] at h
      obtain ⟨hj, h⟩ := ax_inv_if _ h
      refine ax_i1 (hk1 1 rfl (by decide) rfl _ _ _ h) (fun h1 _ => ax_ok1 trivial (ax_tl (ax_tl h1))) (fun H locs ls hP hS hl h1 w => ?_)
      obtain ⟨p0, hp0⟩ := ax_ids_mem (ax_ty_lt (k := q) (by rw [y1]; decide) (by rw [y1]; decide)) (show i < ax_cnt q from ax_hd (ax_tl h1))
      have he := ax_ws_at (Ca := Ca) (ad := ad) (m := mm) hp0
      rw [ax_cell_1 y1] at he
      exact va_iald hx hb hSt.1 hP p0 0 he rfl (ax_ok_in hj) (hn1 1 rfl (by decide)) w
    · rw [if_neg y1] at h
      obtain ⟨y6, h⟩ := ax_inv_if _ h
      obtain ⟨-, h⟩ := ax_inv_if _ h
      obtain ⟨hj, h⟩ := ax_inv_if _ h
      have hq := ax_ty_6 y6
      refine ax_i1 (hk1 1 rfl (by decide) rfl _ _ _ h) (fun h1 _ => ax_ok1 trivial (ax_tl (ax_tl h1))) (fun H locs ls hP hS hl h1 w => ?_)
      have hi : i = 0 := by
        have hi : i < ax_cnt q := ax_hd (ax_tl h1)
        rcases hq with e | e <;> (rw [e] at hi; have hi : i < 1 := hi; omega)
      subst hi
      have hl6 : ax_len q = 6 := by rcases hq with e | e <;> (rw [e]; rfl)
      rw [hl6] at hj
      exact va_ti hx hb (hSt.2.2.1 q hq).2 hS (ax_ok_in hj) rfl (hn1 1 rfl (by decide)) w
  case baload  =>
    obtain ⟨j, q, i, r, hst, h7⟩ := ax_inv_arr (F := fun j q i r => if ax_ty q = 2 then (if ax_ok j (ax_len q) = true then nx (k + 1) lv (.inl (mm.1 q i j.toNatClampNeg) :: r) mm else none) else if ax_ty q = 6 then (if (2 : Nat) = 1 then (if ax_ok j (ax_len q) = true then nx (k + 1) lv (.inl (ax_sta q j.toNatClampNeg) :: r) mm else none) else none) else none) h
    subst hst
    have h := h7
    by_cases y1 : ax_ty q = 2
    · rw [if_pos y1] at h
      obtain ⟨hj, h⟩ := ax_inv_if _ h
      refine ax_i1 (hk1 1 rfl (by decide) rfl _ _ _ h) (fun h1 _ => ax_ok1 trivial (ax_tl (ax_tl h1))) (fun H locs ls hP hS hl h1 w => ?_)
      obtain ⟨p0, hp0⟩ := ax_ids_mem (ax_ty_lt (k := q) (by rw [y1]; decide) (by rw [y1]; decide)) (show i < ax_cnt q from ax_hd (ax_tl h1))
      have he := ax_ws_at (Ca := Ca) (ad := ad) (m := mm) hp0
      rw [ax_cell_2 y1] at he
      exact va_zald hx hb hSt.1 hP p0 1 he rfl (ax_ok_in hj) (hn1 1 rfl (by decide)) w
    · rw [if_neg y1] at h
      obtain ⟨y6, h⟩ := ax_inv_if _ h
      obtain ⟨y2, h⟩ := ax_inv_if _ h
      exact absurd y2 (by decide)
  case laload  =>
    obtain ⟨j, q, i, r, hst, h7⟩ := ax_inv_arr (F := fun j q i r => if ax_ty q = 3 then (if ax_ok j (ax_len q) = true then nx (k + 1) lv (.inr (.inl (mm.2 q i j.toNatClampNeg)) :: r) mm else none) else none) h
    subst hst
    obtain ⟨y1, h⟩ := ax_inv_if _ h7
    obtain ⟨hj, h⟩ := ax_inv_if _ h
    refine ax_i1 (hk1 1 rfl (by decide) rfl _ _ _ h) (fun h1 _ => ax_ok1 trivial (ax_tl (ax_tl h1))) (fun H locs ls hP hS hl h1 w => ?_)
    obtain ⟨p0, hp0⟩ := ax_ids_mem (ax_ty_lt (k := q) (by rw [y1]; decide) (by rw [y1]; decide)) (show i < ax_cnt q from ax_hd (ax_tl h1))
    have he := ax_ws_at (Ca := Ca) (ad := ad) (m := mm) hp0
    rw [ax_cell_3 y1] at he
    exact va_lald hx hb hSt.1 hP p0 2 he rfl (ax_ok_in hj) (hn1 1 rfl (by decide)) w
  case aaload  =>
    obtain ⟨j, q, i, r, hst, h7⟩ := ax_inv_arr (F := fun j q i r => if ax_ok j (ax_len q) = true then (match ax_ty q with
        | 4 => nx (k + 1) lv (.inr (.inr (6, 16 * i + j.toNatClampNeg)) :: r) mm
        | 5 => nx (k + 1) lv (.inr (.inr (8, 8 * i + j.toNatClampNeg)) :: r) mm
        | _ => none) else none) h
    subst hst
    obtain ⟨hj, h⟩ := ax_inv_if _ h7
    have hj2 := ax_ok_lt hj
    split at h
    next y1 =>
      have hq := ax_ty_4 y1
      have h9 := h
      subst hq
      refine ax_i1 (hk1 1 rfl (by decide) rfl _ _ _ h9) (fun h1 _ => ax_ok1 (by
        have z1 : i < 3 := ax_hd (ax_tl h1)
        have z2 : j.toNatClampNeg < 16 := hj2
        show 16 * i + j.toNatClampNeg < 48
        omega) (ax_tl (ax_tl h1))) (fun H locs ls hP hS hl h1 w => ?_)
      obtain ⟨p0, hp0⟩ := ax_ids_mem (by decide) (show i < ax_cnt 5 from ax_hd (ax_tl h1))
      have he := ax_ws_at (Ca := Ca) (ad := ad) (m := mm) hp0
      rw [ax_cell_4 y1] at he
      exact va_aldq hx hb hSt.1 hP p0 3 he rfl (ax_ok_in hj) (hn1 1 rfl (by decide)) w
    next y1 =>
      have hq := ax_ty_5 y1
      have h9 := h
      subst hq
      refine ax_i1 (hk1 1 rfl (by decide) rfl _ _ _ h9) (fun h1 _ => ax_ok1 (by
        have z1 : i < 1 := ax_hd (ax_tl h1)
        have z2 : j.toNatClampNeg < 8 := hj2
        show 8 * i + j.toNatClampNeg < 8
        omega) (ax_tl (ax_tl h1))) (fun H locs ls hP hS hl h1 w => ?_)
      obtain ⟨p0, hp0⟩ := ax_ids_mem (by decide) (show i < ax_cnt 7 from ax_hd (ax_tl h1))
      have he := ax_ws_at (Ca := Ca) (ad := ad) (m := mm) hp0
      rw [ax_cell_5 y1] at he
      exact va_aldq hx hb hSt.1 hP p0 4 he rfl (ax_ok_in hj) (hn1 1 rfl (by decide)) w
    next => cases h
  case iastore  =>
    obtain ⟨x, j, q, i, r, hst, h7⟩ := ax_inv_sti (F := fun x j q i r => if ax_ty q = 1 then (if ax_ok j (ax_len q) = true then nx (k + 1) lv r (ax_ui mm q i j.toNatClampNeg x) else none) else none) h
    subst hst
    obtain ⟨y1, h⟩ := ax_inv_if _ h7
    obtain ⟨hj, h⟩ := ax_inv_if _ h
    have kk := (hk1 1 rfl (by decide) rfl _ _ _ h)
    intro h1 h2 H locs ls hP hS hl
    obtain ⟨p0, hp0⟩ := ax_ids_mem (ax_ty_lt (k := q) (by rw [y1]; decide) (by rw [y1]; decide)) (show i < ax_cnt q from ax_hd (ax_tl (ax_tl h1)))
    have he := ax_ws_at (Ca := Ca) (ad := ad) (m := mm) hp0
    rw [ax_cell_1 y1] at he
    refine va_iast hx hb hSt.1 hP (ax_D hinj mm) hS p0 0 he rfl (ax_ok_in hj) (hn1 1 rfl (by decide)) (fun H1 locs1 hP1 hD1 hS1 => ?_)
    rw [ax_ws_set (m' := ax_ui mm q i j.toNatClampNeg x) hp0 (by rw [ax_cell_1 y1, ax_ui_at]) ax_cell_ui] at hP1
    exact kk (ax_tl (ax_tl (ax_tl h1))) h2 H1 locs1 ls hP1 hS1 hl
  case bastore  =>
    obtain ⟨x, j, q, i, r, hst, h7⟩ := ax_inv_sti (F := fun x j q i r => if ax_ty q = 2 then (if ax_ok j (ax_len q) = true then (if x = 0 ∨ x = 1 then nx (k + 1) lv r (ax_ui mm q i j.toNatClampNeg x) else none) else none) else none) h
    subst hst
    obtain ⟨y1, h⟩ := ax_inv_if _ h7
    obtain ⟨hj, h⟩ := ax_inv_if _ h
    obtain ⟨h01, h⟩ := ax_inv_if _ h
    have kk := (hk1 1 rfl (by decide) rfl _ _ _ h)
    intro h1 h2 H locs ls hP hS hl
    obtain ⟨p0, hp0⟩ := ax_ids_mem (ax_ty_lt (k := q) (by rw [y1]; decide) (by rw [y1]; decide)) (show i < ax_cnt q from ax_hd (ax_tl (ax_tl h1)))
    have he := ax_ws_at (Ca := Ca) (ad := ad) (m := mm) hp0
    rw [ax_cell_2 y1] at he
    refine va_zast hx hb hSt.1 hP (ax_D hinj mm) hS p0 1 he rfl (ax_ok_in hj) (hn1 1 rfl (by decide)) (fun H1 locs1 hP1 hD1 hS1 => ?_)
    rw [(ax_bool h01).2.2, ax_ws_set (m' := ax_ui mm q i j.toNatClampNeg x) hp0 (by rw [ax_cell_2 y1, ax_ui_at]) ax_cell_ui] at hP1
    exact kk (ax_tl (ax_tl (ax_tl h1))) h2 H1 locs1 ls hP1 hS1 hl
  case lastore  =>
    obtain ⟨x, j, q, i, r, hst, h7⟩ := ax_inv_stl (F := fun x j q i r => if ax_ty q = 3 then (if ax_ok j (ax_len q) = true then nx (k + 1) lv r (ax_ul mm q i j.toNatClampNeg x) else none) else none) h
    subst hst
    obtain ⟨y1, h⟩ := ax_inv_if _ h7
    obtain ⟨hj, h⟩ := ax_inv_if _ h
    have kk := (hk1 1 rfl (by decide) rfl _ _ _ h)
    intro h1 h2 H locs ls hP hS hl
    obtain ⟨p0, hp0⟩ := ax_ids_mem (ax_ty_lt (k := q) (by rw [y1]; decide) (by rw [y1]; decide)) (show i < ax_cnt q from ax_hd (ax_tl (ax_tl h1)))
    have he := ax_ws_at (Ca := Ca) (ad := ad) (m := mm) hp0
    rw [ax_cell_3 y1] at he
    refine va_last hx hb hSt.1 hP (ax_D hinj mm) hS p0 2 he rfl (ax_ok_in hj) (hn1 1 rfl (by decide)) (fun H1 locs1 hP1 hD1 hS1 => ?_)
    rw [ax_ws_set (m' := ax_ul mm q i j.toNatClampNeg x) hp0 (by rw [ax_cell_3 y1, ax_ul_at]) ax_cell_ul] at hP1
    exact kk (ax_tl (ax_tl (ax_tl h1))) h2 H1 locs1 ls hP1 hS1 hl
  case arraylength  =>
    obtain ⟨q, i, r, hst, h7⟩ := ax_inv_ref (F := fun q r => if ax_ty q = 1 ∨ ax_ty q = 3 then nx (k + 1) lv (.inl (Int32.ofNat (ax_len q)) :: r) mm else none) h
    subst hst
    obtain ⟨y1, h⟩ := ax_inv_if _ h7
    refine ax_i1 (hk1 1 rfl (by decide) rfl _ _ _ h) (fun h1 _ => ax_ok1 trivial (ax_tl h1)) (fun H locs ls hP hS hl h1 w => ?_)
    obtain ⟨p0, hp0⟩ := ax_ids_mem (ax_ty_lt (k := q) (by omega) (by omega)) (show i < ax_cnt q from ax_hd h1)
    have he := ax_ws_at (Ca := Ca) (ad := ad) (m := mm) hp0
    rcases y1 with y1 | y1
    · rw [ax_cell_1 y1] at he
      exact va_alen hx hb hSt.1 hP p0 0 he (ty := .int) rfl rfl (hn1 1 rfl (by decide)) w
    · rw [ax_cell_3 y1] at he
      exact va_alen hx hb hSt.1 hP p0 2 he (ty := .long) rfl rfl (hn1 1 rfl (by decide)) w
  case invokevirtual idx =>
    obtain ⟨a, r, r1, hr, h8, hh⟩ := ax_inv_call (show ax_call (fun s m' => nx (k + 1) lv s m') cl pr false st mm info = some res from h)
    rcases hh with ⟨mt, argc, rk, tl, hi0, hp, hhd, hcr⟩ | ⟨q, argc, tl, hi0, hp, hcr⟩
    · subst hi0
      have htl : tl = [] := by
        cases tl with
        | nil => rfl
        | cons => exact absurd (show false = true from hwd) (by decide)
      subst htl
      have hcm : ax_cm cN idx mt argc rk false = true := hwd
      refine ax_snd_aft hx (hk1 3 rfl (by decide) rfl) h8 (fun r1' e kk => ?_)
      subst e
      intro h1
      have hoa : ∀ v ∈ a, ax_okv v := by
        obtain ⟨t, t1, t2, t3⟩ := ax_pops_of _ _ _ _ _ hp
        intro v hv
        rw [t3, List.append_nil] at hv
        exact h1 v (by rw [t2]; exact List.mem_append_left _ (List.mem_reverse.mp hv))
      exact ax_snd_call (b := false) hx hb hml hown hts hTs hSt hcm hp hhd hr (hn1 3 rfl (by decide)) (fun r0 hr0 => hcl mt a mm _ hcr hoa r0 hr0) kk h1
    · subst hi0
      have htl : tl = [] := by
        cases tl with
        | nil => rfl
        | cons => exact absurd (show false = true from hwd) (by decide)
      subst htl
      refine ax_snd_aft hx (hk1 3 rfl (by decide) rfl) h8 (fun r1' e kk => ?_)
      subst e
      obtain ⟨hres, hd6⟩ := hpr _ _ _ _ hcr
      have hw : (decide ((cN, (idx, q)) ∈ ax_ma) && (decide (q = 1) && decide (argc = 1) || decide (q = 2) && decide (argc = 2))) = true := hwd
      simp only [Bool.and_eq_true, Bool.or_eq_true, decide_eq_true_eq] at hw
      exact ax_snd_prim (b := false) hx hb hml hown hts hTs hSt hinj hStr hd6 hw.1 (by have := hw.2; exact Or.inl ⟨rfl, by omega⟩) hp hr (hn1 3 rfl (by decide)) hres kk
  case invokestatic idx =>
    obtain ⟨a, r, r1, hr, h8, hh⟩ := ax_inv_call (show ax_call (fun s m' => nx (k + 1) lv s m') cl pr true st mm info = some res from h)
    rcases hh with ⟨mt, argc, rk, tl, hi0, hp, hhd, hcr⟩ | ⟨q, argc, tl, hi0, hp, hcr⟩
    · subst hi0
      have htl : tl = [] := by
        cases tl with
        | nil => rfl
        | cons => exact absurd (show false = true from hwd) (by decide)
      subst htl
      have hcm : ax_cm cN idx mt argc rk true = true := hwd
      refine ax_snd_aft hx (hk1 3 rfl (by decide) rfl) h8 (fun r1' e kk => ?_)
      subst e
      intro h1
      have hoa : ∀ v ∈ a, ax_okv v := by
        obtain ⟨t, t1, t2, t3⟩ := ax_pops_of _ _ _ _ _ hp
        intro v hv
        rw [t3, List.append_nil] at hv
        exact h1 v (by rw [t2]; exact List.mem_append_left _ (List.mem_reverse.mp hv))
      exact ax_snd_call (b := true) hx hb hml hown hts hTs hSt hcm hp hhd hr (hn1 3 rfl (by decide)) (fun r0 hr0 => hcl mt a mm _ hcr hoa r0 hr0) kk h1
    · subst hi0
      have htl : tl = [] := by
        cases tl with
        | nil => rfl
        | cons => exact absurd (show false = true from hwd) (by decide)
      subst htl
      refine ax_snd_aft hx (hk1 3 rfl (by decide) rfl) h8 (fun r1' e kk => ?_)
      subst e
      obtain ⟨hres, hd6⟩ := hpr _ _ _ _ hcr
      have hw : (decide ((cN, (idx, q)) ∈ ax_ma) && (decide (q = 0) && decide (argc = 5) || decide (q = 3) && decide (argc = 2) || decide (q = 4) && decide (argc = 2) || decide (q = 5) && decide (argc = 1))) = true := hwd
      simp only [Bool.and_eq_true, Bool.or_eq_true, decide_eq_true_eq] at hw
      exact ax_snd_prim (b := true) hx hb hml hown hts hTs hSt hinj hStr hd6 hw.1 (by have := hw.2; exact Or.inr ⟨rfl, by omega⟩) hp hr (hn1 3 rfl (by decide)) hres kk
  case ireturn  =>
    have h : (match (generalizing := false) info, st with
        | 0 :: _, [.inl x] => some (some (.inl x), mm)
        | 1 :: _, [.inl x] => if x = 0 ∨ x = 1 then some (some (.inl x), mm) else none
        | _, _ => none) = some res := h
    rcases ax_inv_ret h with ⟨tl, x, hi0, hst, hr0⟩ | ⟨tl, x, hi0, hst, h01, hr0⟩
    · subst hi0
      subst hst
      subst hr0
      have hw := of_decide_eq_true (show decide ((0 : Nat) = 0 ∧ rt = 1 ∨ (0 : Nat) = 1 ∧ rt = 2) = true from hwd)
      have hr := ax_rt1 (r := meth.sig.returnType) (by omega)
      intro h1 h2 H locs ls hP hS hl
      exact W.iret hx hb hr (fun t ht hW => ⟨rfl, by rw [ht]; exact hP, hS.F ht⟩) hS.2.2 (hn1 1 rfl (by decide)) hlocks
    · subst hi0
      subst hst
      subst hr0
      have hw := of_decide_eq_true (show decide ((1 : Nat) = 0 ∧ rt = 1 ∨ (1 : Nat) = 1 ∧ rt = 2) = true from hwd)
      have hr := ax_rt2 (r := meth.sig.returnType) (by omega)
      intro h1 h2 H locs ls hP hS hl
      exact W.zret hx hb hr (ax_bool h01).1 (fun t ht hW => ⟨rfl, by rw [ht]; exact hP, hS.F ht⟩) hS.2.2 (hn1 1 rfl (by decide)) hlocks
  case lreturn  =>
    obtain ⟨x, hst, hr0⟩ := ax_inv_lret h
    subst hst
    subst hr0
    have hw := of_decide_eq_true (show decide (rt = 3) = true from hwd)
    have hr := ax_rt3 (r := meth.sig.returnType) (by omega)
    intro h1 h2 H locs ls hP hS hl
    exact W.lret hx hb hr (fun t ht hW => ⟨rfl, by rw [ht]; exact hP, hS.F ht⟩) hS.2.2 (hn1 1 rfl (by decide)) hlocks
  case return_  =>
    obtain ⟨hst, hr0⟩ := ax_inv_vret h
    subst hst
    subst hr0
    have hw := of_decide_eq_true (show decide (rt = 0) = true from hwd)
    have hr := ax_rt0 (r := meth.sig.returnType) (by omega)
    intro h1 h2 H locs ls hP hS hl
    exact W.vret hx hb hr (fun t ht hW => ⟨rfl, by rw [ht]; exact hP, hS.F ht⟩) hS.2.2 (hn1 1 rfl (by decide)) hlocks
  all_goals exact absurd (show (none : Option ax_R) = some res from h) (by simp)
end STEP2
