/-! SOUNDNESS: what the pure machine answers for a method of the table, the method's contract says -/
theorem ax_ck_at {c rt : Nat} {bytes : ByteArray} {L : List ax_E} : ∀ (L2 : List ax_E) (k : Nat) (e : ax_E), ax_ck c rt bytes L L2 = true → ax_nth L2 k = some e → ∃ es, ax_ck1 c rt bytes L e es = true ∧ ∀ e2 es2, es = e2 :: es2 → ax_nth L2 (k + 1) = some e2
  | [], k, e, _, h => by simp [ax_nth] at h
  | x :: L2, 0, e, h, h2 => by
    simp only [ax_nth, Option.some.injEq] at h2
    subst h2
    simp only [ax_ck, Bool.and_eq_true] at h
    exact ⟨L2, h.1, fun e2 es2 hz => by subst hz; rfl⟩
  | x :: L2, k + 1, e, h, h2 => by
    simp only [ax_nth] at h2
    simp only [ax_ck, Bool.and_eq_true] at h
    exact ax_ck_at L2 k e h.2 h2
theorem ax_ck_of {c rt : Nat} {bytes : ByteArray} {L : List ax_E} {k : Nat} {e : ax_E} (h : ax_ck c rt bytes L L = true) (h2 : ax_nth L k = some e) : ∃ n : Nat, decode bytes e.1 = .ok (e.2.1, n) ∧ (ax_ilen e.2.1 = 0 ∨ n = ax_ilen e.2.1) ∧ (ax_last e.2.1 = false → ∃ e2, ax_nth L (k + 1) = some e2 ∧ e2.1 = e.1 + n) ∧ ax_wd c rt L e = true := by
  obtain ⟨es, h3, h4⟩ := ax_ck_at L k e h h2
  unfold ax_ck1 at h3
  split at h3
  next i n hd =>
    simp only [Bool.and_eq_true, Bool.or_eq_true, decide_eq_true_eq] at h3
    obtain ⟨⟨⟨a1, a2⟩, a3⟩, a4⟩ := h3
    subst a1
    refine ⟨n, hd, a2, fun hl => ?_, a4⟩
    rcases a3 with a3 | a3
    · rw [hl] at a3; cases a3
    · cases es with
      | nil => cases a3
      | cons e2 es2 => exact ⟨e2, h4 e2 es2 rfl, of_decide_eq_true a3⟩
  next => cases h3
theorem ax_first : (ax_TT.all fun l => l.all fun q => match q.2 with
    | e :: _ => e.1 == 0
    | [] => true) = true := by decide +kernel
theorem ax_first_of {mt : Nat} {q : Nat × List ax_E} {e : ax_E} (h : ax_tb mt = some q) (h2 : ax_nth q.2 0 = some e) : e.1 = 0 := by
  unfold ax_tb at h
  cases h3 : ax_nth ax_TT (mt / 16) with
  | none => rw [h3] at h; cases h
  | some l =>
    rw [h3] at h
    have h4 : ax_nth l (mt % 16) = some q := h
    rw [ax_nth_eq] at h3 h4
    have h5 := List.all_eq_true.mp (List.all_eq_true.mp ax_first l (List.mem_of_getElem? h3)) q (List.mem_of_getElem? h4)
    obtain ⟨nL, L⟩ := q
    cases L with
    | nil => simp [ax_nth] at h2
    | cons x L =>
      simp only [ax_nth, Option.some.injEq] at h2
      subst h2
      exact beq_iff_eq.mp h5
def ax_SndB (l : Launch) (D : va_G) (Ca : Nat → ClassId) (ad : Nat → Nat → Nat) (adV : Nat → Nat) (n : Nat) : Prop := ∀ (d mt : Nat) (r0 : ax_IR) (q : Nat × List ax_E), ax_row mt = some r0 → ax_tb mt = some q → ∀ (p : Program) (e : Env) (s : State) (m : MethodId) (args : Array Value) (below : List Frame) (meth : Method) (c : Code), p.tables.exec = Jvm.exec → c.code = r0.2.1 → c.maxLocals = r0.2.2.1 → s.vm.findClass r0.1.cls = some m.cls → (∀ w ∈ ax_wC r0 :: ax_W, w.before args s = true) → meth.sig.returnType = r0.2.2.2.1 → meth.locks = false → ax_St D Ca ad adV s → ∀ (res : ax_R) (k : Nat) (lv : ax_L) (st : List ax_V) (mm : ax_M), ax_ex d q.2 k lv st mm n = some res → ∀ e2, ax_nth q.2 k = some e2 → ax_Gd p l e (ax_rm d) s m args below meth c (MQ below (ax_Qc D Ca ad res) args s 0 0 (ax_A ad)) D Ca ad r0.2.2.1 e2.1 lv st mm
theorem ax_met {l : Launch} {D : va_G} {Ca : Nat → ClassId} {ad : Nat → Nat → Nat} {adV : Nat → Nat} {n : Nat} (hS : ax_SndB l D Ca ad adV n) {d mt : Nat} {r0 : ax_IR} {nL : Nat} {L : List ax_E} (hrow : ax_row mt = some r0) (htb : ax_tb mt = some (nL, L)) {a : List ax_V} {mm : ax_M} {res : ax_R} (hlen : (ax_ent a).length ≤ nL) (hok : ∀ v ∈ a, ax_okv v) (h : ax_ex d L 0 (ax_entry a nL) [] mm n = some res) : Met l r0.1 (ax_wC r0 :: ax_W) (ax_rm d) (ax_Pc D Ca ad adV a mm) (ax_Qc D Ca ad res) 0 0 (ax_A ad) := by
  have hg := ax_good mt hrow htb
  obtain ⟨g1, g2, ⟨g3, g4, g5, g6⟩, g7, g8, g9⟩ := hg
  dsimp only at g1
  subst g1
  refine Met.ofW (cc := r0.2.1) (maxL := r0.2.2.1) (ret := r0.2.2.2.1) (ws' := ax_W) g3 rfl ?_
  intro p e s m args below meth c s₁ B hml hv
  obtain ⟨rfl, hP, hSt⟩ := hv
  have hts := atoms_spec (ws := ax_wC r0 :: ax_W) B.pre
  have he0 : ∃ e0, ax_nth L 0 = some e0 := by
    cases n with
    | zero => simp [ax_ex] at h
    | succ n =>
      cases L with
      | nil => simp [ax_ex, ax_nth] at h
      | cons x L => exact ⟨x, rfl⟩
  obtain ⟨e0, he0⟩ := he0
  have hG := hS d mt r0 (r0.2.2.1, L) hrow htb p e s m _ below meth c B.exec B.bytes hml (findClass_of_methodNamed B.named) hts B.returns B.notSynchronized hSt res 0 _ _ mm h e0 he0
  have hz : e0.1 = 0 := ax_first_of htb he0
  rw [hz] at hG
  rw [lg_entry_eq]
  exact hG (fun v hv => by cases hv) (fun j v hv => ax_ent_ok a hok j v (ax_entry_of hv)) s.heap [] _ hP va_S.rf (ax_lh_entry a _ hlen)
theorem ax_sndB {l : Launch} {D : va_G} {Ca : Nat → ClassId} {ad : Nat → Nat → Nat} {adV : Nat → Nat} (hinj : ax_inj ad) (hStr : ax_StrOK l D Ca ad adV) : ∀ n, ax_SndB l D Ca ad adV n := by
  intro n
  induction n with
  | zero =>
    intro d mt r0 q _ _ p e s m args below meth c _ _ _ _ _ _ _ _ res k lv st mm h
    simp [ax_ex] at h
  | succ n ih =>
    intro d mt r0 q hrow htb p e s m args below meth c hx hb hml hown hts hret hlocks hSt res k lv st mm h e2 he2
    obtain ⟨g1, g2, g3, g7, g8, g9⟩ := ax_good mt hrow htb
    simp only [ax_ex] at h
    rw [he2] at h
    obtain ⟨nn, b1, b2, b3, b4⟩ := ax_ck_of g2 he2
    obtain ⟨pc, ins, info, cv⟩ := e2
    refine ax_snd_step (L := q.2) hx hb hml (by rw [← g8]; exact hown) hts (fun w hw => List.mem_cons_of_mem _ hw) (by rw [hret]) hlocks hSt hinj hStr b1 b2 b3 b4 (fun k' lv' st' m' h' e3 he3 => ih d mt r0 q hrow htb p e s m args below meth c hx hb hml hown hts hret hlocks hSt res k' lv' st' m' h' e3 he3) ?_ ?_ h
    · intro mt1 a m' r1 h1 hok r01 hr01
      cases d with
      | zero => cases h1
      | succ d1 =>
        cases ht : ax_tb mt1 with
        | none => simp only [ht] at h1; cases h1
        | some q1 =>
          obtain ⟨nL1, L1⟩ := q1
          simp only [ht] at h1
          obtain ⟨hl, h1⟩ := ax_inv_if _ h1
          exact ⟨d1, (nL1, L1), rfl, ax_good mt1 hr01 ht, ax_met ih hr01 ht hl hok h1⟩
    · intro q1 a m' r1 h1
      match d, h1 with
      | d1 + 6, h1 => exact ⟨h1, by omega⟩
/-- the contract of a method, out of a run of the pure machine -/
theorem ax_sound {l : Launch} {D : va_G} {Ca : Nat → ClassId} {ad : Nat → Nat → Nat} {adV : Nat → Nat} (hinj : ax_inj ad) (hStr : ax_StrOK l D Ca ad adV) {d mt : Nat} {r0 : ax_IR} {nL : Nat} {L : List ax_E} (hrow : ax_row mt = some r0) (htb : ax_tb mt = some (nL, L)) {a : List ax_V} {mm : ax_M} {res : ax_R} (hlen : (ax_ent a).length ≤ nL) (hok : ∀ v ∈ a, ax_okv v) (h : ax_Rt d L 0 (ax_entry a nL) [] mm res) : Met l r0.1 (ax_wC r0 :: ax_W) (ax_rm d) (ax_Pc D Ca ad adV a mm) (ax_Qc D Ca ad res) 0 0 (ax_A ad) := by
  obtain ⟨n, h⟩ := h
  exact ax_met (ax_sndB hinj hStr n) hrow htb hlen hok h
