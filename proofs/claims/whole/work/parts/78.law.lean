/-! THE CLAIM OUT OF ONE WALK OF THE LAW'S BODY. Your part is whole_start (and what it stands on); all else here is the same for every law, but numbers. -/
def R_law : String := "NextToItsDebtorLaw"
def lw_P (b : Addr) (xs : List Int32) (args : Array Value) (s : State) : Prop := args = #[.ref b] ∧ s.IntsAt b xs ∧ xs.length ≤ 3072 ∧ (Jvm.Cond.and given_1 narrow_1).before args s = true
def lw_Q (_ : Array Value) (s : State) (o : Outcome) (t : State) : Prop := o = .returned (some (.int 1)) ∧ Framed s o t [] 600000 7302250
def lw_Z (below : List Frame) (a : Array Value) (s : State) : State → Prop := fun t => ∃ o, t.status = .running ∧ Ended t below o ∧ lw_Q a s o t
/-- the law's own end, with 1 on the stack, nothing written that was there before, its room as the claim has it -/
theorem lw_ret {p : Program} {l : Launch} {e : Env} {s : State} {m : MethodId} {below : List Frame} {meth : Method} {c : Code} {b : Nat} (hx : p.tables.exec = Jvm.exec) (hb : c.code = code) (hr : meth.sig.returnType = ret) (hlocks : meth.locks = false) {pc : Nat} {H : Heap} {ls : Array Slot} (hdg : decode code pc = .ok (.ireturn, 1)) : W p l e room_1 s m #[Value.ref b] below meth c H [] 600000 7302250 (lw_Z below #[Value.ref b] s) (F0 m pc ls [.int 1]) := by
  intro T hT X
  obtain ⟨fs, hret, hrun, hended, hW, hframe⟩ := X.leave (v := some (.int 1)) (hlocks := hlocks) (fun h => by rw [hr] at h; cases h)
  have hmeth' : T.vm.method? m = some meth := X.method'
  refine ⟨T.setFrames fs, ?_, .returned (some (.int 1)), hrun, hended, rfl, ⟨_, rfl⟩, hW, hframe⟩
  jvm_step X.here [X.here.top, hx, hb, hdg, hmeth', hr, ret, narrow_b1]
  (try refine ⟨rfl, ?_⟩); (try refine ⟨rfl, ?_⟩)
  first | (intro acts; rw [hret _ acts rfl rfl rfl]) | rw [hret _ _ rfl rfl rfl]
  exact Steps.refl _
/-- what holds at the law's entry: the machine, the code, the tables' words (any of lw_tbl by 'hts w (by decide +kernel)'), the script of L ints xs at the cell b, what the Statement gives of the start (any of its parts by flat_of_before) -/
def lw_At (p : Program) (s : State) (m : MethodId) (meth : Method) (c : Code) (b L : Nat) (xs : Nat → Int32) : Prop :=
  p.tables.exec = Jvm.exec ∧ c.code = code ∧ meth.sig.returnType = ret ∧ c.maxLocals = 4 ∧ s.vm.findClass R_law = some m.cls ∧ (∀ w ∈ lw_tbl, w.before #[Value.ref b] s = true) ∧ va_X b L xs s s.heap ∧ b < s.heap.size ∧ meth.locks = false ∧ (Jvm.Cond.and given_1 narrow_1).before #[Value.ref b] s = true

theorem e_law_0 : decode code 0 = .ok (.new 7, 3) := by decide +kernel
theorem e_law_3 : decode code 3 = .ok (.dup, 1) := by decide +kernel
theorem e_law_4 : decode code 4 = .ok (.invokespecial 9, 3) := by decide +kernel
theorem e_law_7 : decode code 7 = .ok (.astore_n 1, 1) := by decide +kernel
theorem e_law_8 : decode code 8 = .ok (.new 10, 3) := by decide +kernel
theorem e_law_11 : decode code 11 = .ok (.dup, 1) := by decide +kernel
theorem e_law_12 : decode code 12 = .ok (.invokespecial 12, 3) := by decide +kernel
theorem e_law_15 : decode code 15 = .ok (.astore_n 2, 1) := by decide +kernel
theorem e_law_16 : decode code 16 = .ok (.iconst 0, 1) := by decide +kernel
theorem e_law_17 : decode code 17 = .ok (.istore_n 3, 1) := by decide +kernel
theorem e_law_18 : decode code 18 = .ok (.iload_n 3, 1) := by decide +kernel
theorem e_law_19 : decode code 19 = .ok (.aload_n 0, 1) := by decide +kernel
theorem e_law_20 : decode code 20 = .ok (.arraylength, 1) := by decide +kernel
theorem e_law_21 : decode code 21 = .ok (.bipush 6, 2) := by decide +kernel
theorem e_law_23 : decode code 23 = .ok (.isub, 1) := by decide +kernel
theorem e_law_24 : decode code 24 = .ok (.if_icmp .gt 1697, 3) := by decide +kernel
theorem e_law_27 : decode code 27 = .ok (.aload_n 0, 1) := by decide +kernel
theorem e_law_28 : decode code 28 = .ok (.iload_n 3, 1) := by decide +kernel
theorem e_law_29 : decode code 29 = .ok (.iaload, 1) := by decide +kernel
theorem e_law_30 : decode code 30 = .ok (.bipush 63, 2) := by decide +kernel
theorem e_law_32 : decode code 32 = .ok (.iand, 1) := by decide +kernel
theorem e_law_33 : decode code 33 = .ok (.tableswitch 1682 0 49 #[215, 258, 331, 394, 428, 451, 484, 517, 566, 589, 642, 685, 708, 721, 734, 767, 800, 833, 856, 879, 902, 935, 978, 1011, 1034, 1057, 1080, 1093, 1106, 1119, 1152, 1165, 1198, 1211, 1234, 1247, 1270, 1313, 1356, 1399, 1442, 1485, 1518, 1561, 1574, 1597, 1610, 1633, 1646, 1659], 215) := by decide +kernel
theorem e_law_1715 : decode code 1715 = .ok (.iinc 3 6, 3) := by decide +kernel
theorem e_law_1718 : decode code 1718 = .ok (.goto (-1700), 3) := by decide +kernel
theorem e_law_1721 : decode code 1721 = .ok (.iconst 1, 1) := by decide +kernel
theorem e_law_1722 : decode code 1722 = .ok (.ireturn, 1) := by decide +kernel
section LAWT
variable {p : Program} {l : Launch} {e : Env} {R : Room} {s : State} {m : MethodId} {args : Array Value} {below : List Frame} {meth : Method} {c : Code} {H : Heap} {locs : List Loc} {cells slots : Nat} {Q : State → Prop} {D : va_G} {Ca : Nat → ClassId} {ad : Nat → Nat → Nat} {adV : Nat → Nat} {ls : Array Slot} {pc : Nat}
theorem lw_after {st0 : List Value} {rest : List ax_V} {a : Array Value} {r : ax_R} (hr : va_Run p l e R s m args below meth c H locs cells slots 0 0 (F0 m pc ls st0) (rest.map (ax_v ad)) (ax_Qc D Ca ad r a) (ax_A ad)) (hS : va_S (ax_A ad) s.heap H locs)
    (kk : ∀ (H1 : Heap) (locs1 : List Loc), va_P D vwCl (ax_ws Ca ad r.2) H1 → va_S (ax_A ad) s.heap H1 locs1 → W p l e R s m args below meth c H1 locs1 cells slots Q (F0 m (pc + 3) ls ((r.1.map (ax_v ad)).toList ++ rest.map (ax_v ad)))) : W p l e R s m args below meth c H locs cells slots Q (F0 m pc ls st0) := by
  intro T hT X
  obtain ⟨v, st₀, t, T', L, h0, X', hL, e1, e2, ⟨hv, hP, hz, hk⟩, st⟩ := hr T hT X
  cases hv
  rw [h0] at hz hk
  obtain ⟨t2, a1, b1⟩ := kk T'.heap (locs ++ L) (by rw [e1]; exact hP)
    ⟨Nat.le_trans hS.1 (by rw [e1]; exact hz), fun q h1 h2 => by rw [e1, hk q (Nat.lt_of_lt_of_le h1 hS.1) h2]; exact hS.2.1 q h1 h2, fun q hq => by
      rcases List.mem_append.mp hq with h | h
      · exact hS.2.2 q h
      · exact hL q h⟩ T' rfl X'
  exact ⟨t2, st t2 a1, b1⟩
/-- a call that the law makes -/
theorem lw_call {d mt idx k nL0 : Nat} {r0 : ax_IR} {Lst : List ax_E} {a1 r : List ax_V} {mm : ax_M} {r1 : ax_R} (hx : p.tables.exec = Jvm.exec) (hb : c.code = code) (hml : c.maxLocals = 4) (hown : s.vm.findClass R_law = some m.cls) (hts : ∀ w ∈ lw_tbl, w.before args s = true) (hSt : ax_St D Ca ad adV s) (hinj : ax_inj ad)
    (hrow : ax_row mt = some r0) (htb : ax_tb mt = some (nL0, Lst)) (hns : r0.2.2.2.2.2.1 = false) (hk : r0.2.2.2.2.2.2.2 = k) (hn : a1.length = r0.2.2.2.2.2.2.1) (hk0 : 0 < ax_cnt k) (hlen : (ax_ent (.inr (.inr (k, 0)) :: a1)).length ≤ nL0) (hok : ∀ v ∈ a1, ax_okv v)
    (hrun : ax_Ru d Lst 0 (ax_entry (.inr (.inr (k, 0)) :: a1) nL0) [] mm r1) (hl0 : Cond.methodLink R_law idx r0.1 ∈ lw_tbl) (hR : d + 1 ≤ R.frames ∧ 8 + (r0.2.2.1 + 11) + 60 * d ≤ R.locals) (hP : va_P D vwCl (ax_ws Ca ad mm) H) (hS : va_S (ax_A ad) s.heap H locs) (hls : ls.size = 4) {st : List Value} (hst : st = (a1.map (ax_v ad)).reverse ++ .ref (ad k 0) :: r.map (ax_v ad)) (hr : ((r.map (ax_v ad)).map fun v => v.category).sum ≤ 8) (hf : cells + 0 ≤ R.cells ∧ slots + 0 ≤ R.slots) (hd : decode code pc = .ok (.invokevirtual idx, 3))
    (kk : ∀ (H1 : Heap) (locs1 : List Loc), va_P D vwCl (ax_ws Ca ad r1.2) H1 → va_S (ax_A ad) s.heap H1 locs1 → W p l e R s m args below meth c H1 locs1 cells slots Q (F0 m (pc + 3) ls ((r1.1.map (ax_v ad)).toList ++ r.map (ax_v ad)))) : W p l e R s m args below meth c H locs cells slots Q (F0 m pc ls st) := by
  obtain ⟨g1, g2, ⟨g3, g4, g5, g6⟩, g7, g8, g9⟩ := ax_good mt hrow htb
  have hC := ax_row_C hrow
  have hI := ax_row_I hrow
  have hini : Cond.initialized r0.1.cls ∈ ax_W := hI _ (by unfold ax_wI; exact List.mem_cons_self)
  have hinst : Cond.instanceMethod r0.1 ∈ ax_W := hI _ (by unfold ax_wI; rw [hns]; simp)
  have hsel : Cond.selects r0.1.cls r0.1 r0.1 ∈ ax_W := hI _ (by unfold ax_wI; rw [hns]; simp)
  obtain ⟨o1, o2⟩ := g9 hns
  rw [hk] at o1 o2
  obtain ⟨ob1, ob2, ob3, -⟩ := ax_obj_ok k o1
  obtain ⟨p0, hp0⟩ := ax_ids_mem ob2 (i := 0) hk0
  have he := ax_ws_at (Ca := Ca) (ad := ad) (m := mm) hp0
  rw [ax_cell_0 ob1] at he
  have hrec := va_recv hSt.1 hP ob3 he
  rw [o2] at hrec
  have hM := ax_sound (l := l) (D := D) (Ca := Ca) (ad := ad) (adV := adV) hinj sx_ok hrow htb hlen (List.forall_mem_cons.mpr ⟨hk0, hok⟩) hrun.rt
  have hG : ∀ w ∈ ax_W, w ∈ lw_tbl ∧ ((w.onTables && w.keeps) = true ∨ ∃ ty, w = .arrayClass ty) := fun w hw => ⟨ax_W_in w hw, good_of_word (List.all_eq_true.mp ax_W_good w hw)⟩
  have hpr : PreV s H r0.1.cls (ad k 0) (ax_Pc D Ca ad adV (.inr (.inr (k, 0)) :: a1) mm) (a1.map (ax_v ad)) := ⟨ax_blind, hrec, fun U hU hW => ax_pre hP hS hSt U hU hW⟩
  exact lw_after (va_runV (As := a1.map (ax_v ad)) (rest := r.map (ax_v ad)) ⟨hx, hb, hml, hown, hts⟩ hM (cwV _ hts (fun w hw => by
    unfold wsV at hw
    rcases List.mem_append.mp hw with hw | hw
    · simp only [List.mem_cons, List.not_mem_nil, or_false] at hw
      rcases hw with rfl | rfl | rfl | rfl
      · exact ⟨hl0, Or.inl rfl⟩
      · exact hG _ hinst
      · exact hG _ hsel
      · exact hG _ hini
    · rcases List.mem_cons.mp hw with e | e
      · rw [e]; exact hG _ hC
      · exact hG _ e) rfl rfl rfl ⟨rfl, g4, g5, g6⟩ hR) hpr rfl (by rw [List.length_map]; exact hn) hls hst (lv_room hr) hd hf) hS kk
/-- an argument: the script's int at i + k -/
theorem lw_arg {b L i k : Nat} {xs : Nat → Int32} {kz : Int} {rest : List Value} {x y : Nat} (hx : p.tables.exec = Jvm.exec) (hb : c.code = code) (hX : va_X b L xs s s.heap) (hbl : b < s.heap.size) (hbA : ¬ ax_A ad b) (hS : va_S (ax_A ad) s.heap H locs) (hL : L ≤ 3072) (hi : i + k < L) (hk : Int32.ofInt kz = nI k) (hl : lv_has ls 4 [(3, .int (nI i)), (2, .ref x), (1, .ref y), (0, .ref b)])
    (d0 : decode code pc = .ok (.aload_n 0, 1)) (d1 : decode code (pc + 1) = .ok (.iload_n 3, 1)) (d2 : decode code (pc + 2) = .ok (.iconst kz, 1)) (d3 : decode code (pc + 3) = .ok (.iadd, 1)) (d4 : decode code (pc + 4) = .ok (.iaload, 1))
    (kk : W p l e R s m args below meth c H locs cells slots Q (F0 m (pc + 5) ls (.int (xs (i + k)) :: rest))) : W p l e R s m args below meth c H locs cells slots Q (F0 m pc ls rest) := by
  refine lv_aload_n hx hb d0 rfl (lv_at hl 3 rfl) ?_
  refine lv_iload_n hx hb d1 rfl (lv_at hl 0 rfl) ?_
  refine lv_iconst (v := nI k) hx hb d2 hk ?_
  refine lv_iadd hx hb d3 ?_
  have e1 : nI i + nI k = nI (i + k) := nI_add i k
  rw [e1]
  refine va_sld hx hb hX hbl hbA hS (vp_in_nI hi (by omega)) d4 ?_
  rw [nI_clamp (show i + k < 2 ^ 31 by omega)]
  exact kk
/-- != 0 -/
theorem lw_bool {x : Int32} {rest : List Value} (hx : p.tables.exec = Jvm.exec) (hb : c.code = code) (d0 : decode code pc = .ok (.ifCond .eq 7, 3)) (d1 : decode code (pc + 3) = .ok (.iconst 1, 1)) (d2 : decode code (pc + 4) = .ok (.goto 4, 3)) (d3 : decode code (pc + 7) = .ok (.iconst 0, 1))
    (kk : W p l e R s m args below meth c H locs cells slots Q (F0 m (pc + 8) ls (.int (bI (decide (x ≠ 0))) :: rest))) : W p l e R s m args below meth c H locs cells slots Q (F0 m pc ls (.int x :: rest)) := by
  refine lv_if_eq (tgt := pc + 7) hx hb d0 (by omega) (fun h => ?_) (fun h => ?_)
  · rw [show decide (x ≠ 0) = false from decide_eq_false (fun z => z h)] at kk
    exact lv_iconst (v := 0) hx hb d3 (by decide) kk
  · rw [show decide (x ≠ 0) = true from decide_eq_true h] at kk
    refine lv_iconst (v := 1) hx hb d1 (by decide) ?_
    exact lv_goto (tgt := pc + 8) hx hb d2 (by omega) kk
/-- two ints of the script as a long -/
def lw_long (h l : Int32) : Int64 := (h.toInt64 <<< ((32 : Int32).toInt64 &&& 63)) ||| (l.toInt64 &&& 4294967295)
theorem lw_lg {b L i k : Nat} {xs : Nat → Int32} {kz : Int} {h : Int32} {rest : List Value} {x y : Nat} (hx : p.tables.exec = Jvm.exec) (hb : c.code = code) (hown : s.vm.findClass R_law = some m.cls) (hts : ∀ w ∈ lw_tbl, w.before args s = true) (hX : va_X b L xs s s.heap) (hbl : b < s.heap.size) (hbA : ¬ ax_A ad b) (hS : va_S (ax_A ad) s.heap H locs) (hL : L ≤ 3072) (hi : i + k < L) (hk : Int32.ofInt kz = nI k) (hl : lv_has ls 4 [(3, .int (nI i)), (2, .ref x), (1, .ref y), (0, .ref b)])
    (d0 : decode code pc = .ok (.i2l, 1)) (d1 : decode code (pc + 1) = .ok (.bipush 32, 2)) (d2 : decode code (pc + 3) = .ok (.lshl, 1)) (d3 : decode code (pc + 4) = .ok (.aload_n 0, 1)) (d4 : decode code (pc + 5) = .ok (.iload_n 3, 1)) (d5 : decode code (pc + 6) = .ok (.iconst kz, 1)) (d6 : decode code (pc + 7) = .ok (.iadd, 1)) (d7 : decode code (pc + 8) = .ok (.iaload, 1)) (d8 : decode code (pc + 9) = .ok (.i2l, 1)) (d9 : decode code (pc + 10) = .ok (.ldc2_w 18, 3)) (d10 : decode code (pc + 13) = .ok (.land, 1)) (d11 : decode code (pc + 14) = .ok (.lor, 1))
    (kk : W p l e R s m args below meth c H locs cells slots Q (F0 m (pc + 15) ls (.long (lw_long h (xs (i + k))) :: rest))) : W p l e R s m args below meth c H locs cells slots Q (F0 m pc ls (.int h :: rest)) := by
  refine lv_i2l hx hb d0 rfl ?_
  refine lv_bipush (v := 32) hx hb d1 (by decide) ?_
  refine lv_lshl hx hb d2 rfl ?_
  refine lw_arg hx hb hX hbl hbA hS hL hi hk hl d3 d4 d5 d6 d7 ?_
  refine lv_i2l hx hb d8 rfl ?_
  refine lv_ldc2 (v := 4294967295) hx hb hown (hts (.constantLong R_law 18 4294967295) (List.mem_of_getElem? (i := 1589) (by decide +kernel))) d9 ?_
  refine lv_land hx hb d10 ?_
  exact lv_lor hx hb d11 kk
theorem lw_back (hAs : ∀ q, ax_A ad q → s.heap.size ≤ q) (hS : va_S (ax_A ad) s.heap H locs) {g : JFrame} (kk : va_S (ax_A ad) s.heap H [] → W p l e R s m args below meth c H [] cells slots Q g) : W p l e R s m args below meth c H locs cells slots Q g := va_forget (fun q hq => hAs _ (hS.2.2 q hq)) (kk ⟨hS.1, hS.2.1, fun _ h => by cases h⟩)
end LAWT
/-- what holds at every instruction of the law, behind the two objects' making -/
def lw_H (p : Program) (s : State) (m : MethodId) (c : Code) (b L : Nat) (xs : Nat → Int32) (D : va_G) (Ca : Nat → ClassId) (ad : Nat → Nat → Nat) (adV : Nat → Nat) : Prop := p.tables.exec = Jvm.exec ∧ c.code = code ∧ c.maxLocals = 4 ∧ s.vm.findClass R_law = some m.cls ∧ (∀ w ∈ lw_tbl, w.before #[Value.ref b] s = true) ∧ ax_St D Ca ad adV s ∧ ax_inj ad ∧ va_X b L xs s s.heap ∧ b < s.heap.size ∧ (∀ q, ax_A ad q → s.heap.size ≤ q) ∧ L ≤ 3072
def lw_I (s : State) (b : Nat) (D : va_G) (Ca : Nat → ClassId) (ad : Nat → Nat → Nat) (mm : ax_M) (i : Nat) (H : Heap) (ls : Array Slot) : Prop := zR mm ∧ va_P D vwCl (ax_ws Ca ad mm) H ∧ va_S (ax_A ad) s.heap H [] ∧ lv_has ls 4 [(3, .int (nI i)), (2, .ref (ad 22 0)), (1, .ref (ad 0 0)), (0, .ref b)]
