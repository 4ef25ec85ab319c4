theorem kb_flat {args : Array Value} {s : State} {T w : Jvm.Cond} (h : T.before args s = true) (i : Nat) (hi : (flatC T)[i]? = some w) : w.before args s = true := flat_of_before T h w (List.mem_of_getElem? hi)
def kb_tm (i : Nat) : Term := .string "NextToItsDebtor$Reader" ([45, 54, 59, 64, 69, 74].getD i 0)
def kb_tm2 (i : Nat) : Term := .string "NextToItsDebtorModel" ([164, 173, 175, 177, 179, 181].getD i 0)
theorem kb_arr {s : State} {ty : FieldType} {args : Array Value} (h : (Cond.arrayClass ty).before args s = true) (hn : ∀ C, ty ≠ .object C) : ∃ cA : ClassId, ArrOfT s cA ty ∧ va_RA s cA ty := by
  obtain ⟨c, k, comp, h1, h2, h3⟩ := Cond.arrayClass_spec h
  refine ⟨c, fun n z => ⟨fun k h => (by cases h), k, h2, comp, h3⟩, ?_⟩
  cases ty with
  | object C => exact absurd rfl (hn C)
  | _ => exact h1
theorem kb_arrO {s : State} {C : String} {args : Array Value} (h : (Cond.arrayOver (.object C)).before args s = true) : ∃ cA : ClassId, ArrOfT s cA (.object C) ∧ va_RA s cA (.object C) := by
  obtain ⟨comp, c, k, h1, h2, h3, h4, h5⟩ := Cond.arrayOver_spec h
  exact ⟨c, fun n z => ⟨fun k h => (by cases h), k, h3, comp, h4⟩, k, comp, h3, h4, h1, h5⟩
set_option maxHeartbeats 8000000 in
set_option maxRecDepth 100000 in
theorem kb_entry {s : State} {b : Nat} (hts : ∀ w ∈ lw_tbl, w.before #[Value.ref b] s = true) (hgv : (Jvm.Cond.and given_1 narrow_1).before #[Value.ref b] s = true) : ∃ (D : va_G) (Ca : Nat → ClassId) (z : Nat → Nat → Nat) (adV : Nat → Nat), kb_K D Ca s ∧ (∀ w ∈ ax_N, va_Nw w s) ∧ (∀ k, k = 40 ∨ k = 41 → va_Z RX6 (ax_sn k) "[I" (.ref (z k 0)) (fun q => s.heap.size ≤ q) s s.heap ∧ va_T .int (z k 0) 6 (fun j => .int (ax_sta k j)) (fun q => s.heap.size ≤ q) s s.heap) ∧ (∀ q ∈ ax_sr, vk_R (ax_cn q.1) q.2.1 (ax_tx q.2.2) (z 42 q.2.2) s) ∧ vk_S 6 ax_lens ax_lit (z 42) adV (fun q => s.heap.size ≤ q) s s.heap ∧ va_Z "java/lang/String" "COMPACT_STRINGS" "Z" (.int 1) (fun q => s.heap.size ≤ q) s s.heap ∧ va_Zq "jdk/internal/util/Preconditions" "SIOOBE_FORMATTER" "Ljava/util/function/BiFunction;" (fun q => s.heap.size ≤ q) s s.heap := by
  obtain ⟨c1, i1, hK1⟩ := u_known (C := RX1) (T := TX1) (N := 1) (n := 1) hts (fun w hw => ax_W_in w (ax_obj_in 18 (by decide) w hw)) (hts (.instantiable RX1 1) (kb_L_in _ (List.mem_of_getElem? (i := 33) rfl)))
  obtain ⟨c2, i2, hK2⟩ := u_known (C := RX2) (T := TX2) (N := 1) (n := 1) hts (fun w hw => ax_W_in w (ax_obj_in 3 (by decide) w hw)) (hts (.instantiable RX2 1) (kb_L_in _ (List.mem_of_getElem? (i := 18) rfl)))
  obtain ⟨c3, i3, hK3⟩ := u_known (C := RX3) (T := TX3) (N := 7) (n := 7) hts (fun w hw => ax_W_in w (ax_obj_in 1 (by decide) w hw)) (hts (.instantiable RX3 7) (kb_L_in _ (List.mem_of_getElem? (i := 16) rfl)))
  obtain ⟨c4, i4, hK4⟩ := u_known (C := RX4) (T := TX4) (N := 4) (n := 4) hts (fun w hw => ax_W_in w (ax_obj_in 12 (by decide) w hw)) (hts (.instantiable RX4 4) (kb_L_in _ (List.mem_of_getElem? (i := 24) rfl)))
  obtain ⟨c5, i5, hK5⟩ := u_known (C := RX5) (T := TX5) (N := 2) (n := 2) hts (fun w hw => ax_W_in w (ax_obj_in 15 (by decide) w hw)) (hts (.instantiable RX5 2) (kb_L_in _ (List.mem_of_getElem? (i := 31) rfl)))
  obtain ⟨c6, i6, hK6⟩ := u_known (C := RX6) (T := TX6) (N := 4) (n := 4) hts (fun w hw => ax_W_in w (ax_obj_in 6 (by decide) w hw)) (hts (.instantiable RX6 4) (kb_L_in _ (List.mem_of_getElem? (i := 21) rfl)))
  obtain ⟨c7, i7, hK7⟩ := u_known (C := RX7) (T := TX7) (N := 3) (n := 3) hts (fun w hw => ax_W_in w (ax_obj_in 8 (by decide) w hw)) (hts (.instantiable RX7 3) (kb_L_in _ (List.mem_of_getElem? (i := 34) rfl)))
  obtain ⟨c8, i8, hK8⟩ := u_known (C := RX8) (T := TX8) (N := 2) (n := 2) hts (fun w hw => ax_W_in w (ax_obj_in 10 (by decide) w hw)) (hts (.instantiable RX8 2) (kb_L_in _ (List.mem_of_getElem? (i := 26) rfl)))
  obtain ⟨c9, i9, hK9⟩ := u_known (C := RX9) (T := TX9) (N := 1) (n := 1) hts (fun w hw => ax_W_in w (ax_obj_in 13 (by decide) w hw)) (hts (.instantiable RX9 1) (kb_L_in _ (List.mem_of_getElem? (i := 28) rfl)))
  obtain ⟨c10, i10, hK10⟩ := u_known (C := RX10) (T := TX10) (N := 11) (n := 11) hts (fun w hw => ax_W_in w (ax_obj_in 0 (by decide) w hw)) (hts (.instantiable RX10 11) (kb_L_in _ (List.mem_of_getElem? (i := 14) rfl)))
  obtain ⟨c11, i11, hK11⟩ := u_known (C := RX11) (T := TX11) (N := 26) (n := 26) hts (fun w hw => ax_W_in w (ax_obj_in 22 (by decide) w hw)) (hts (.instantiable RX11 26) (kb_L_in _ (List.mem_of_getElem? (i := 37) rfl)))
  obtain ⟨D, hKc⟩ : ∃ D : va_G, ∀ (k : Nat) (q : vw_C), vwCl[k]? = some q → u_Kn s q.1 q.2.1 q.2.2 (D.1 k) (D.2 k) := by
    refine ⟨(fun k => [c1, c2, c3, c4, c5, c6, c7, c8, c9, c10, c11].getD k c1, fun k => [i1, i2, i3, i4, i5, i6, i7, i8, i9, i10, i11].getD k i1), fun k q hq => ?_⟩
    match k, hq with
    | 0, hq => cases hq; exact hK1
    | 1, hq => cases hq; exact hK2
    | 2, hq => cases hq; exact hK3
    | 3, hq => cases hq; exact hK4
    | 4, hq => cases hq; exact hK5
    | 5, hq => cases hq; exact hK6
    | 6, hq => cases hq; exact hK7
    | 7, hq => cases hq; exact hK8
    | 8, hq => cases hq; exact hK9
    | 9, hq => cases hq; exact hK10
    | 10, hq => cases hq; exact hK11
    | k + 11, hq => simp [vwCl] at hq
  obtain ⟨a1, hA1⟩ := kb_arr (hts (.arrayClass .int) (kb_L_in _ (List.mem_of_getElem? (i := 19) rfl))) (fun C h => by cases h)
  obtain ⟨a2, hA2⟩ := kb_arr (hts (.arrayClass .boolean) (kb_L_in _ (List.mem_of_getElem? (i := 38) rfl))) (fun C h => by cases h)
  obtain ⟨a3, hA3⟩ := kb_arr (hts (.arrayClass .long) (kb_L_in _ (List.mem_of_getElem? (i := 29) rfl))) (fun C h => by cases h)
  obtain ⟨a4, hA4⟩ := kb_arrO (hts _ kb_ao6)
  obtain ⟨a5, hA5⟩ := kb_arrO (hts _ kb_ao7)
  have hVK : va_K D vwCl (ax_tys (fun n => [a1, a1, a2, a3, a4, a5].getD n a1)) s := by
    refine ⟨hKc, fun k q hq => ?_⟩
    match k, hq with
    | 0, hq => cases hq; exact hA1
    | 1, hq => cases hq; exact hA2
    | 2, hq => cases hq; exact hA3
    | 3, hq => cases hq; exact hA4
    | 4, hq => cases hq; exact hA5
    | k + 5, hq => simp [ax_tys] at hq
  have hs : ∀ {w : Jvm.Cond} (i : Nat), (flatC (Jvm.Cond.and given_1 narrow_1))[i]? = some w → w.before #[Value.ref b] s = true := fun i h => kb_flat hgv i h
  have hA : ∀ a : Nat, a < s.heap.size → ¬ (fun q : Nat => s.heap.size ≤ q) a := fun a h1 h2 => Nat.not_le.mpr h1 h2
  obtain ⟨t40, ht40, hT40⟩ := va_Tof (tm := .static "NextToItsDebtor$Seed" "ABOVE" "[I") (ty := .int) (N := 6) (f := fun j => .int (ax_sta 40 j)) (by decide) (hs 5 rfl) (va_eqt (hs 6 rfl)) (fun j hj => by
    rcases (show j = 0 ∨ j = 1 ∨ j = 2 ∨ j = 3 ∨ j = 4 ∨ j = 5 by omega) with rfl | rfl | rfl | rfl | rfl | rfl
    · exact va_eqt (hs 7 rfl)
    · exact va_eqt (hs 8 rfl)
    · exact va_eqt (hs 9 rfl)
    · exact va_eqt (hs 10 rfl)
    · exact va_eqt (hs 11 rfl)
    · exact va_eqt (hs 12 rfl)) hA
  have hZ40 := va_Zof (hts (.laysStatic "NextToItsDebtor$Seed" "ABOVE" "[I") (List.mem_of_getElem? (i := 459) (by decide +kernel))) (hts (.initialized RX6) (kb_L_in _ (List.mem_of_getElem? (i := 4) rfl))) ht40 hA
  obtain ⟨t41, ht41, hT41⟩ := va_Tof (tm := .static "NextToItsDebtor$Seed" "SPANS" "[I") (ty := .int) (N := 6) (f := fun j => .int (ax_sta 41 j)) (by decide) (hs 14 rfl) (va_eqt (hs 15 rfl)) (fun j hj => by
    rcases (show j = 0 ∨ j = 1 ∨ j = 2 ∨ j = 3 ∨ j = 4 ∨ j = 5 by omega) with rfl | rfl | rfl | rfl | rfl | rfl
    · exact va_eqt (hs 16 rfl)
    · exact va_eqt (hs 17 rfl)
    · exact va_eqt (hs 18 rfl)
    · exact va_eqt (hs 19 rfl)
    · exact va_eqt (hs 20 rfl)
    · exact va_eqt (hs 21 rfl)) hA
  have hZ41 := va_Zof (hts (.laysStatic "NextToItsDebtor$Seed" "SPANS" "[I") (List.mem_of_getElem? (i := 469) (by decide +kernel))) (hts (.initialized RX6) (kb_L_in _ (List.mem_of_getElem? (i := 4) rfl))) ht41 hA
  obtain ⟨adK, adV, hSS, hKt⟩ := vk_Sof (args := #[Value.ref b]) (N := 6) (tm := kb_tm) (len := ax_lens) (byt := ax_lit) (by decide) (fun i hi => by
    rcases (show i = 0 ∨ i = 1 ∨ i = 2 ∨ i = 3 ∨ i = 4 ∨ i = 5 by omega) with rfl | rfl | rfl | rfl | rfl | rfl
    · exact hs 49 rfl
    · exact hs 57 rfl
    · exact hs 66 rfl
    · exact hs 78 rfl
    · exact hs 89 rfl
    · exact hs 101 rfl)
    (fun i hi => by
    rcases (show i = 0 ∨ i = 1 ∨ i = 2 ∨ i = 3 ∨ i = 4 ∨ i = 5 by omega) with rfl | rfl | rfl | rfl | rfl | rfl
    · exact hs 50 rfl
    · exact hs 58 rfl
    · exact hs 67 rfl
    · exact hs 79 rfl
    · exact hs 90 rfl
    · exact hs 102 rfl)
    (fun i hi => by
    rcases (show i = 0 ∨ i = 1 ∨ i = 2 ∨ i = 3 ∨ i = 4 ∨ i = 5 by omega) with rfl | rfl | rfl | rfl | rfl | rfl
    · exact hs 51 rfl
    · exact hs 59 rfl
    · exact hs 68 rfl
    · exact hs 80 rfl
    · exact hs 91 rfl
    · exact hs 103 rfl)
    (fun i hi => by
    rcases (show i = 0 ∨ i = 1 ∨ i = 2 ∨ i = 3 ∨ i = 4 ∨ i = 5 by omega) with rfl | rfl | rfl | rfl | rfl | rfl
    · exact hs 52 rfl
    · exact hs 60 rfl
    · exact hs 69 rfl
    · exact hs 81 rfl
    · exact hs 92 rfl
    · exact hs 104 rfl)
    (fun i hi j hj => by
    rcases (show i = 0 ∨ i = 1 ∨ i = 2 ∨ i = 3 ∨ i = 4 ∨ i = 5 by omega) with rfl | rfl | rfl | rfl | rfl | rfl
    · have hj : j < 4 := hj
      rcases (show j = 0 ∨ j = 1 ∨ j = 2 ∨ j = 3 by omega) with rfl | rfl | rfl | rfl
      · exact hs 53 rfl
      · exact hs 54 rfl
      · exact hs 55 rfl
      · exact hs 56 rfl
    · have hj : j < 4 := hj
      rcases (show j = 0 ∨ j = 1 ∨ j = 2 ∨ j = 3 by omega) with rfl | rfl | rfl | rfl
      · exact hs 61 rfl
      · exact hs 62 rfl
      · exact hs 63 rfl
      · exact hs 64 rfl
    · have hj : j < 6 := hj
      rcases (show j = 0 ∨ j = 1 ∨ j = 2 ∨ j = 3 ∨ j = 4 ∨ j = 5 by omega) with rfl | rfl | rfl | rfl | rfl | rfl
      · exact hs 70 rfl
      · exact hs 71 rfl
      · exact hs 72 rfl
      · exact hs 73 rfl
      · exact hs 74 rfl
      · exact hs 75 rfl
    · have hj : j < 4 := hj
      rcases (show j = 0 ∨ j = 1 ∨ j = 2 ∨ j = 3 by omega) with rfl | rfl | rfl | rfl
      · exact hs 82 rfl
      · exact hs 83 rfl
      · exact hs 84 rfl
      · exact hs 85 rfl
    · have hj : j < 4 := hj
      rcases (show j = 0 ∨ j = 1 ∨ j = 2 ∨ j = 3 by omega) with rfl | rfl | rfl | rfl
      · exact hs 93 rfl
      · exact hs 94 rfl
      · exact hs 95 rfl
      · exact hs 96 rfl
    · have hj : j < 2 := hj
      rcases (show j = 0 ∨ j = 1 by omega) with rfl | rfl
      · exact hs 105 rfl
      · exact hs 106 rfl)
    (fun i j hi hj hij => by
    rcases (show i = 0 ∨ i = 1 ∨ i = 2 ∨ i = 3 ∨ i = 4 ∨ i = 5 by omega) with rfl | rfl | rfl | rfl | rfl | rfl <;> rcases (show j = 0 ∨ j = 1 ∨ j = 2 ∨ j = 3 ∨ j = 4 ∨ j = 5 by omega) with rfl | rfl | rfl | rfl | rfl | rfl
    · exact absurd rfl hij
    · exact .inl (hs 65 rfl)
    · exact .inl (hs 76 rfl)
    · exact .inl (hs 86 rfl)
    · exact .inl (hs 97 rfl)
    · exact .inl (hs 107 rfl)
    · exact .inr (hs 65 rfl)
    · exact absurd rfl hij
    · exact .inl (hs 77 rfl)
    · exact .inl (hs 87 rfl)
    · exact .inl (hs 98 rfl)
    · exact .inl (hs 108 rfl)
    · exact .inr (hs 76 rfl)
    · exact .inr (hs 77 rfl)
    · exact absurd rfl hij
    · exact .inl (hs 88 rfl)
    · exact .inl (hs 99 rfl)
    · exact .inl (hs 109 rfl)
    · exact .inr (hs 86 rfl)
    · exact .inr (hs 87 rfl)
    · exact .inr (hs 88 rfl)
    · exact absurd rfl hij
    · exact .inl (hs 100 rfl)
    · exact .inl (hs 110 rfl)
    · exact .inr (hs 97 rfl)
    · exact .inr (hs 98 rfl)
    · exact .inr (hs 99 rfl)
    · exact .inr (hs 100 rfl)
    · exact absurd rfl hij
    · exact .inl (hs 111 rfl)
    · exact .inr (hs 107 rfl)
    · exact .inr (hs 108 rfl)
    · exact .inr (hs 109 rfl)
    · exact .inr (hs 110 rfl)
    · exact .inr (hs 111 rfl)
    · exact absurd rfl hij) hA
  have hKt2 : ∀ i, i < 6 → (kb_tm2 i).eval #[Value.ref b] s none [] s = some (.ref (adK i)) := fun i hi => by
    rcases (show i = 0 ∨ i = 1 ∨ i = 2 ∨ i = 3 ∨ i = 4 ∨ i = 5 by omega) with rfl | rfl | rfl | rfl | rfl | rfl
    · exact va_eqR (hs 120 rfl) (hKt 0 (by decide))
    · exact va_eqR (hs 135 rfl) (hKt 1 (by decide))
    · exact va_eqR (hs 153 rfl) (hKt 2 (by decide))
    · exact va_eqR (hs 170 rfl) (hKt 3 (by decide))
    · exact va_eqR (hs 188 rfl) (hKt 4 (by decide))
    · exact va_eqR (hs 205 rfl) (hKt 5 (by decide))
  have hSR : ∀ q ∈ ax_sr, vk_R (ax_cn q.1) q.2.1 (ax_tx q.2.2) (adK q.2.2) s := by
    unfold ax_sr
    refine List.forall_mem_cons.mpr ⟨vk_R.of (A := #[Value.ref b]) (hts (.stringRef "NextToItsDebtor$Reader" 45 "wall") (List.mem_of_getElem? (i := 611) (by decide +kernel))) (hKt 0 (by decide)), ?_⟩
    refine List.forall_mem_cons.mpr ⟨vk_R.of (A := #[Value.ref b]) (hts (.stringRef "NextToItsDebtor$Reader" 54 "open") (List.mem_of_getElem? (i := 674) (by decide +kernel))) (hKt 1 (by decide)), ?_⟩
    refine List.forall_mem_cons.mpr ⟨vk_R.of (A := #[Value.ref b]) (hts (.stringRef "NextToItsDebtor$Reader" 59 "person") (List.mem_of_getElem? (i := 679) (by decide +kernel))) (hKt 2 (by decide)), ?_⟩
    refine List.forall_mem_cons.mpr ⟨vk_R.of (A := #[Value.ref b]) (hts (.stringRef "NextToItsDebtor$Reader" 64 "owes") (List.mem_of_getElem? (i := 690) (by decide +kernel))) (hKt 3 (by decide)), ?_⟩
    refine List.forall_mem_cons.mpr ⟨vk_R.of (A := #[Value.ref b]) (hts (.stringRef "NextToItsDebtor$Reader" 69 "seed") (List.mem_of_getElem? (i := 696) (by decide +kernel))) (hKt 4 (by decide)), ?_⟩
    refine List.forall_mem_cons.mpr ⟨vk_R.of (A := #[Value.ref b]) (hts (.stringRef "NextToItsDebtor$Reader" 74 "go") (List.mem_of_getElem? (i := 702) (by decide +kernel))) (hKt 5 (by decide)), ?_⟩
    refine List.forall_mem_cons.mpr ⟨vk_R.of (A := #[Value.ref b]) (hts (.stringRef "NextToItsDebtorModel" 164 "wall") (List.mem_of_getElem? (i := 1327) (by decide +kernel))) (hKt2 0 (by decide)), ?_⟩
    refine List.forall_mem_cons.mpr ⟨vk_R.of (A := #[Value.ref b]) (hts (.stringRef "NextToItsDebtorModel" 173 "open") (List.mem_of_getElem? (i := 1338) (by decide +kernel))) (hKt2 1 (by decide)), ?_⟩
    refine List.forall_mem_cons.mpr ⟨vk_R.of (A := #[Value.ref b]) (hts (.stringRef "NextToItsDebtorModel" 175 "person") (List.mem_of_getElem? (i := 1339) (by decide +kernel))) (hKt2 2 (by decide)), ?_⟩
    refine List.forall_mem_cons.mpr ⟨vk_R.of (A := #[Value.ref b]) (hts (.stringRef "NextToItsDebtorModel" 177 "owes") (List.mem_of_getElem? (i := 1340) (by decide +kernel))) (hKt2 3 (by decide)), ?_⟩
    refine List.forall_mem_cons.mpr ⟨vk_R.of (A := #[Value.ref b]) (hts (.stringRef "NextToItsDebtorModel" 179 "seed") (List.mem_of_getElem? (i := 1341) (by decide +kernel))) (hKt2 4 (by decide)), ?_⟩
    refine List.forall_mem_cons.mpr ⟨vk_R.of (A := #[Value.ref b]) (hts (.stringRef "NextToItsDebtorModel" 181 "go") (List.mem_of_getElem? (i := 1342) (by decide +kernel))) (hKt2 5 (by decide)), ?_⟩
    exact fun _ h => absurd h List.not_mem_nil
  have hC := va_Zof (hts (.laysStatic "java/lang/String" "COMPACT_STRINGS" "Z") (List.mem_of_getElem? (i := 625) (by decide +kernel))) (hts (.initialized "java/lang/String") (List.mem_of_getElem? (i := 144) (by decide +kernel))) (va_eqi (hs 22 rfl)) hA
  have hY := va_Zqof (hts (.laysStatic "jdk/internal/util/Preconditions" "SIOOBE_FORMATTER" "Ljava/util/function/BiFunction;") (List.mem_of_getElem? (i := 641) (by decide +kernel))) (hts (.initialized "jdk/internal/util/Preconditions") (List.mem_of_getElem? (i := 146) (by decide +kernel))) (hs 23 rfl) hA
  refine ⟨D, _, fun k i => if k = 40 then t40 else if k = 41 then t41 else adK i, adV, ⟨hVK, va_AO.of (hts _ kb_ao6), va_AO.of (hts _ kb_ao7), fun w hw => (by obtain ⟨a, i, x, h, e⟩ := kb_N_form w hw; subst e; exact va_Nw.of rfl (hts _ (kb_N_in _ hw)))⟩, fun w hw => (by rcases ax_N_form w hw with ⟨a, i, b, n, d, h, e⟩ | ⟨a, i, x, h, e⟩ <;> subst e <;> exact va_Nw.of rfl (hts _ (ax_N_in _ hw))), fun k hk => ?_, hSR, hSS, hC, hY⟩
  rcases hk with rfl | rfl
  · exact ⟨hZ40, hT40⟩
  · exact ⟨hZ41, hT41⟩
theorem kb_St {s : State} {D : va_G} {Ca : Nat → ClassId} {z : Nat → Nat → Nat} {adV : Nat → Nat} {a b : Nat} {f g : Nat → Nat} {F : Nat → Nat → Nat} {u v : Nat → Nat} (hK : kb_K D Ca s) (h2 : ∀ w ∈ ax_N, va_Nw w s) (h3 : ∀ k, k = 40 ∨ k = 41 → va_Z RX6 (ax_sn k) "[I" (.ref (z k 0)) (fun q => s.heap.size ≤ q) s s.heap ∧ va_T .int (z k 0) 6 (fun j => .int (ax_sta k j)) (fun q => s.heap.size ≤ q) s s.heap) (h4 : ∀ q ∈ ax_sr, vk_R (ax_cn q.1) q.2.1 (ax_tx q.2.2) (z 42 q.2.2) s) (h5 : vk_S 6 ax_lens ax_lit (z 42) adV (fun q => s.heap.size ≤ q) s s.heap) (h6 : va_Z "java/lang/String" "COMPACT_STRINGS" "Z" (.int 1) (fun q => s.heap.size ≤ q) s s.heap) (h7 : va_Zq "jdk/internal/util/Preconditions" "SIOOBE_FORMATTER" "Ljava/util/function/BiFunction;" (fun q => s.heap.size ≤ q) s s.heap) (hA : ∀ q, ax_A (kb_ad a b f g F u v z) q → s.heap.size ≤ q) : ax_St D Ca (kb_ad a b f g F u v z) adV s := by
  refine ⟨hK.1, h2, fun k hk => ?_, h4, h5.narrow hA, h6.narrow hA, h7.narrow hA⟩
  rcases hk with rfl | rfl
  · exact ⟨(h3 40 (.inl rfl)).1.narrow hA, (h3 40 (.inl rfl)).2.narrow hA⟩
  · exact ⟨(h3 41 (.inr rfl)).1.narrow hA, (h3 41 (.inr rfl)).2.narrow hA⟩
