set_option maxHeartbeats 4000000 in
set_option maxRecDepth 100000 in
theorem c_X6 (l : Launch) (D : va_G) (Ca : Nat → ClassId) (h0 sz : Nat) : Met l yX6_init (kb_T (.code yX6_init cX6_init 1 none)) ({ frames := 1, cells := 0, slots := 0, locals := 60 } : Room) (kb_Pc D Ca h0 [] sz (.inr (5, [.int 0, .int 0, .int 0, .int 0]))) (kb_Qc (S := Unit) D (fun _ => [(h0, .inr (5, [.int 0, .int 0, .int 0, .int 0]))]) (fun _ => True) (kb_A h0 sz)) 0 0 (kb_A h0 sz) := by
  refine Met.ofW (cc := cX6_init) (maxL := 1) (ret := none) (ws' := kb_L ++ ax_W) (by decide) rfl ?_
  intro p e s m args below meth c s₁ B hml hv
  obtain ⟨rfl, hsz, hP, hK⟩ := hv
  have hx := B.exec
  have hb := B.bytes
  have hr := B.returns
  have hlocks := B.notSynchronized
  have hts := atoms_spec (ws := kb_T (.code yX6_init cX6_init 1 none)) B.pre
  have hT : ∀ w ∈ kb_L ++ ax_W, w ∈ kb_T (.code yX6_init cX6_init 1 none) := fun w hw => List.mem_cons_of_mem _ hw
  have hown : s.vm.findClass RX6 = some m.cls := findClass_of_methodNamed B.named
  have hin : meth.name = "<init>" := (name_of_methodNamed B.named B.method).1
  subst hsz
  generalize hAe : kb_A h0 s.heap.size = A
  have hA : ∀ q : Nat, s.heap.size ≤ q → A q := fun q h => by rw [← hAe]; exact Or.inr h
  have hD : va_D A [(h0, .inr (5, [.int 0, .int 0, .int 0, .int 0]))] := kb_D1 (by rw [← hAe]; exact Or.inl rfl)
  have hS : va_S A s.heap s.heap [] := va_S.rf
  have hl := lv_entry ([.ref h0]) (n := 1) (Nat.le_of_ble_eq_true rfl)
  rw [lg_entry_eq]
  generalize (lg_sl ([.ref h0]) ++ List.replicate (1 - (lg_sl ([.ref h0])).length) Slot.unset).toArray = ls at hl ⊢
  have hl : lv_has ls 1 [(0, .ref h0)] := hl
  refine lv_aload_n hx hb dX6_init_0 rfl (lv_at hl 0 rfl) ?_
  refine W.objInit hx hb hown (kb_h hts 53 rfl) (kb_h hts 43 rfl) (kb_h hts 44 rfl) rfl (by rw [hml]; exact hl.1) rfl dX6_init_1 (Nat.le_of_ble_eq_true rfl) (Nat.le_of_ble_eq_true rfl) ?_
  refine W.eq (g2 := F0 m 4 ls []) rfl ?_
  refine lv_aload_n hx hb dX6_init_4 rfl (lv_at hl 0 rfl) ?_
  refine lv_iconst (v := 0) hx hb dX6_init_5 (by decide) ?_
  refine va_put (D := D) (ci := 5) (v := .int 0) (ty := .int) (C := RX6) (T := TX6) (N := 4) hx hb hts (kb_u 6 (by decide)) tyX6 tyX6_ok nmX6 hown hK.1 hP hD hS 0 rfl rfl 0 (by decide) (kb_h hts 91 rfl) (fun _ h9 => h9) rfl (by decide +kernel) rfl rfl (Nat.le_of_ble_eq_true rfl) dX6_init_6 (fun H locs hP hD hS => ?_)
  have hP : va_P D vwCl ([(h0, .inr (5, [.int 0, .int 0, .int 0, .int 0]))]) H := hP
  have hD : va_D A ([(h0, .inr (5, [.int 0, .int 0, .int 0, .int 0]))]) := hD
  refine lv_aload_n hx hb dX6_init_9 rfl (lv_at hl 0 rfl) ?_
  refine lv_iconst (v := 0) hx hb dX6_init_10 (by decide) ?_
  refine va_put (D := D) (ci := 5) (v := .int 0) (ty := .int) (C := RX6) (T := TX6) (N := 4) hx hb hts (kb_u 6 (by decide)) tyX6 tyX6_ok nmX6 hown hK.1 hP hD hS 0 rfl rfl 1 (by decide) (kb_h hts 92 rfl) (fun _ h9 => h9) rfl (by decide +kernel) rfl rfl (Nat.le_of_ble_eq_true rfl) dX6_init_11 (fun H locs hP hD hS => ?_)
  have hP : va_P D vwCl ([(h0, .inr (5, [.int 0, .int 0, .int 0, .int 0]))]) H := hP
  have hD : va_D A ([(h0, .inr (5, [.int 0, .int 0, .int 0, .int 0]))]) := hD
  refine lv_aload_n hx hb dX6_init_14 rfl (lv_at hl 0 rfl) ?_
  refine lv_iconst (v := 0) hx hb dX6_init_15 (by decide) ?_
  refine va_put (D := D) (ci := 5) (v := .int 0) (ty := .int) (C := RX6) (T := TX6) (N := 4) hx hb hts (kb_u 6 (by decide)) tyX6 tyX6_ok nmX6 hown hK.1 hP hD hS 0 rfl rfl 2 (by decide) (kb_h hts 93 rfl) (fun _ h9 => h9) rfl (by decide +kernel) rfl rfl (Nat.le_of_ble_eq_true rfl) dX6_init_16 (fun H locs hP hD hS => ?_)
  have hP : va_P D vwCl ([(h0, .inr (5, [.int 0, .int 0, .int 0, .int 0]))]) H := hP
  have hD : va_D A ([(h0, .inr (5, [.int 0, .int 0, .int 0, .int 0]))]) := hD
  refine lv_aload_n hx hb dX6_init_19 rfl (lv_at hl 0 rfl) ?_
  refine lv_iconst (v := 0) hx hb dX6_init_20 (by decide) ?_
  refine va_put (D := D) (ci := 5) (v := .int 0) (ty := .int) (C := RX6) (T := TX6) (N := 4) hx hb hts (kb_u 6 (by decide)) tyX6 tyX6_ok nmX6 hown hK.1 hP hD hS 0 rfl rfl 3 (by decide) (kb_h hts 94 rfl) (fun _ h9 => h9) rfl (by decide +kernel) rfl rfl (Nat.le_of_ble_eq_true rfl) dX6_init_21 (fun H locs hP hD hS => ?_)
  have hP : va_P D vwCl ([(h0, .inr (5, [.int 0, .int 0, .int 0, .int 0]))]) H := hP
  have hD : va_D A ([(h0, .inr (5, [.int 0, .int 0, .int 0, .int 0]))]) := hD
  exact W.vret hx hb hr (fun t ht hW => ⟨⟨(), rfl, trivial, by rw [ht]; exact hP, hD⟩, hS.F ht⟩) hS.2.2 dX6_init_24
set_option maxHeartbeats 4000000 in
set_option maxRecDepth 100000 in
theorem c_X1 (l : Launch) (D : va_G) (Ca : Nat → ClassId) (h0 sz : Nat) : Met l yX1_init (kb_T (.code yX1_init cX1_init 1 none)) ({ frames := 1, cells := 1, slots := 3, locals := 60 } : Room) (kb_Pc D Ca h0 [] sz (.inr (0, [.null]))) (kb_Qc (S := Nat) D (fun u => [(h0, .inr (0, [.ref u])), (u, .inl (Ca 1, (3, .inl (fun _ => 0))))]) (fun _ => True) (kb_A h0 sz)) 1 3 (kb_A h0 sz) := by
  refine Met.ofW (cc := cX1_init) (maxL := 1) (ret := none) (ws' := kb_L ++ ax_W) (by decide) rfl ?_
  intro p e s m args below meth c s₁ B hml hv
  obtain ⟨rfl, hsz, hP, hK⟩ := hv
  have hx := B.exec
  have hb := B.bytes
  have hr := B.returns
  have hlocks := B.notSynchronized
  have hts := atoms_spec (ws := kb_T (.code yX1_init cX1_init 1 none)) B.pre
  have hT : ∀ w ∈ kb_L ++ ax_W, w ∈ kb_T (.code yX1_init cX1_init 1 none) := fun w hw => List.mem_cons_of_mem _ hw
  have hown : s.vm.findClass RX1 = some m.cls := findClass_of_methodNamed B.named
  have hin : meth.name = "<init>" := (name_of_methodNamed B.named B.method).1
  subst hsz
  generalize hAe : kb_A h0 s.heap.size = A
  have hA : ∀ q : Nat, s.heap.size ≤ q → A q := fun q h => by rw [← hAe]; exact Or.inr h
  have hD : va_D A [(h0, .inr (0, [.null]))] := kb_D1 (by rw [← hAe]; exact Or.inl rfl)
  have hS : va_S A s.heap s.heap [] := va_S.rf
  have hl := lv_entry ([.ref h0]) (n := 1) (Nat.le_of_ble_eq_true rfl)
  rw [lg_entry_eq]
  generalize (lg_sl ([.ref h0]) ++ List.replicate (1 - (lg_sl ([.ref h0])).length) Slot.unset).toArray = ls at hl ⊢
  have hl : lv_has ls 1 [(0, .ref h0)] := hl
  refine lv_aload_n hx hb dX1_init_0 rfl (lv_at hl 0 rfl) ?_
  refine W.objInit hx hb hown (kb_h hts 68 rfl) (kb_h hts 43 rfl) (kb_h hts 44 rfl) rfl (by rw [hml]; exact hl.1) rfl dX1_init_1 (Nat.le_of_ble_eq_true rfl) (Nat.le_of_ble_eq_true rfl) ?_
  refine W.eq (g2 := F0 m 4 ls []) rfl ?_
  refine lv_aload_n hx hb dX1_init_4 rfl (lv_at hl 0 rfl) ?_
  refine lv_iconst (v := 3) hx hb dX1_init_5 (by decide) ?_
  refine kb_newI (N' := 3) hx hb (kb_h hts 19 rfl) hK hP hD hS hA (by decide) (by decide) (by decide) (Nat.le_of_ble_eq_true rfl) (Nat.le_of_ble_eq_true rfl) dX1_init_6 (fun q6 H hP hD hS => ?_)
  have hP : va_P D vwCl ([(h0, .inr (0, [.null])), (q6, .inl (Ca 1, (3, .inl (fun _ => 0))))]) H := hP
  have hD : va_D A ([(h0, .inr (0, [.null])), (q6, .inl (Ca 1, (3, .inl (fun _ => 0))))]) := hD
  refine va_putF (D := D) (ci := 0) (v := .ref q6) (ty := (.array .int)) (C := RX1) (T := TX1) (N := 1) hx hb hts (kb_u 18 (by decide)) tyX1 tyX1_ok nmX1 hown hK.1 hP hD hS 0 rfl rfl 0 (by decide) (kb_h hts 76 rfl) (fun _ h9 => h9) rfl hin rfl (by decide +kernel) rfl rfl (Nat.le_of_ble_eq_true rfl) dX1_init_8 (fun H locs hP hD hS => ?_)
  have hP : va_P D vwCl ([(h0, .inr (0, [.ref q6])), (q6, .inl (Ca 1, (3, .inl (fun _ => 0))))]) H := hP
  have hD : va_D A ([(h0, .inr (0, [.ref q6])), (q6, .inl (Ca 1, (3, .inl (fun _ => 0))))]) := hD
  exact W.vret hx hb hr (fun t ht hW => ⟨⟨q6, rfl, trivial, by rw [ht]; exact hP, hD⟩, hS.F ht⟩) hS.2.2 dX1_init_11
set_option maxHeartbeats 4000000 in
set_option maxRecDepth 100000 in
theorem c_X2 (l : Launch) (D : va_G) (Ca : Nat → ClassId) (h0 sz : Nat) : Met l yX2_init (kb_T (.code yX2_init cX2_init 1 none)) ({ frames := 1, cells := 1, slots := 64, locals := 60 } : Room) (kb_Pc D Ca h0 [] sz (.inr (1, [.null]))) (kb_Qc (S := Nat) D (fun u => [(h0, .inr (1, [.ref u])), (u, .inl (Ca 1, (64, .inl (fun _ => 0))))]) (fun _ => True) (kb_A h0 sz)) 1 64 (kb_A h0 sz) := by
  refine Met.ofW (cc := cX2_init) (maxL := 1) (ret := none) (ws' := kb_L ++ ax_W) (by decide) rfl ?_
  intro p e s m args below meth c s₁ B hml hv
  obtain ⟨rfl, hsz, hP, hK⟩ := hv
  have hx := B.exec
  have hb := B.bytes
  have hr := B.returns
  have hlocks := B.notSynchronized
  have hts := atoms_spec (ws := kb_T (.code yX2_init cX2_init 1 none)) B.pre
  have hT : ∀ w ∈ kb_L ++ ax_W, w ∈ kb_T (.code yX2_init cX2_init 1 none) := fun w hw => List.mem_cons_of_mem _ hw
  have hown : s.vm.findClass RX2 = some m.cls := findClass_of_methodNamed B.named
  have hin : meth.name = "<init>" := (name_of_methodNamed B.named B.method).1
  subst hsz
  generalize hAe : kb_A h0 s.heap.size = A
  have hA : ∀ q : Nat, s.heap.size ≤ q → A q := fun q h => by rw [← hAe]; exact Or.inr h
  have hD : va_D A [(h0, .inr (1, [.null]))] := kb_D1 (by rw [← hAe]; exact Or.inl rfl)
  have hS : va_S A s.heap s.heap [] := va_S.rf
  have hl := lv_entry ([.ref h0]) (n := 1) (Nat.le_of_ble_eq_true rfl)
  rw [lg_entry_eq]
  generalize (lg_sl ([.ref h0]) ++ List.replicate (1 - (lg_sl ([.ref h0])).length) Slot.unset).toArray = ls at hl ⊢
  have hl : lv_has ls 1 [(0, .ref h0)] := hl
  refine lv_aload_n hx hb dX2_init_0 rfl (lv_at hl 0 rfl) ?_
  refine W.objInit hx hb hown (kb_h hts 50 rfl) (kb_h hts 43 rfl) (kb_h hts 44 rfl) rfl (by rw [hml]; exact hl.1) rfl dX2_init_1 (Nat.le_of_ble_eq_true rfl) (Nat.le_of_ble_eq_true rfl) ?_
  refine W.eq (g2 := F0 m 4 ls []) rfl ?_
  refine lv_aload_n hx hb dX2_init_4 rfl (lv_at hl 0 rfl) ?_
  refine lv_bipush (v := 64) hx hb dX2_init_5 (by decide) ?_
  refine kb_newI (N' := 64) hx hb (kb_h hts 19 rfl) hK hP hD hS hA (by decide) (by decide) (by decide) (Nat.le_of_ble_eq_true rfl) (Nat.le_of_ble_eq_true rfl) dX2_init_7 (fun q7 H hP hD hS => ?_)
  have hP : va_P D vwCl ([(h0, .inr (1, [.null])), (q7, .inl (Ca 1, (64, .inl (fun _ => 0))))]) H := hP
  have hD : va_D A ([(h0, .inr (1, [.null])), (q7, .inl (Ca 1, (64, .inl (fun _ => 0))))]) := hD
  refine va_putF (D := D) (ci := 1) (v := .ref q7) (ty := (.array .int)) (C := RX2) (T := TX2) (N := 1) hx hb hts (kb_u 3 (by decide)) tyX2 tyX2_ok nmX2 hown hK.1 hP hD hS 0 rfl rfl 0 (by decide) (kb_h hts 77 rfl) (fun _ h9 => h9) rfl hin rfl (by decide +kernel) rfl rfl (Nat.le_of_ble_eq_true rfl) dX2_init_9 (fun H locs hP hD hS => ?_)
  have hP : va_P D vwCl ([(h0, .inr (1, [.ref q7])), (q7, .inl (Ca 1, (64, .inl (fun _ => 0))))]) H := hP
  have hD : va_D A ([(h0, .inr (1, [.ref q7])), (q7, .inl (Ca 1, (64, .inl (fun _ => 0))))]) := hD
  exact W.vret hx hb hr (fun t ht hW => ⟨⟨q7, rfl, trivial, by rw [ht]; exact hP, hD⟩, hS.F ht⟩) hS.2.2 dX2_init_12
set_option maxHeartbeats 4000000 in
set_option maxRecDepth 100000 in
theorem c_X5 (l : Launch) (D : va_G) (Ca : Nat → ClassId) (h0 sz : Nat) : Met l yX5_init (kb_T (.code yX5_init cX5_init 1 none)) ({ frames := 1, cells := 2, slots := 16, locals := 60 } : Room) (kb_Pc D Ca h0 [] sz (.inr (4, [.null, .null]))) (kb_Qc (S := (Nat × Nat)) D (fun u => [(h0, .inr (4, [.ref u.1, .ref u.2])), (u.1, .inl (Ca 1, (8, .inl (fun _ => 0)))), (u.2, .inl (Ca 1, (8, .inl (fun _ => 0))))]) (fun _ => True) (kb_A h0 sz)) 2 16 (kb_A h0 sz) := by
  refine Met.ofW (cc := cX5_init) (maxL := 1) (ret := none) (ws' := kb_L ++ ax_W) (by decide) rfl ?_
  intro p e s m args below meth c s₁ B hml hv
  obtain ⟨rfl, hsz, hP, hK⟩ := hv
  have hx := B.exec
  have hb := B.bytes
  have hr := B.returns
  have hlocks := B.notSynchronized
  have hts := atoms_spec (ws := kb_T (.code yX5_init cX5_init 1 none)) B.pre
  have hT : ∀ w ∈ kb_L ++ ax_W, w ∈ kb_T (.code yX5_init cX5_init 1 none) := fun w hw => List.mem_cons_of_mem _ hw
  have hown : s.vm.findClass RX5 = some m.cls := findClass_of_methodNamed B.named
  have hin : meth.name = "<init>" := (name_of_methodNamed B.named B.method).1
  subst hsz
  generalize hAe : kb_A h0 s.heap.size = A
  have hA : ∀ q : Nat, s.heap.size ≤ q → A q := fun q h => by rw [← hAe]; exact Or.inr h
  have hD : va_D A [(h0, .inr (4, [.null, .null]))] := kb_D1 (by rw [← hAe]; exact Or.inl rfl)
  have hS : va_S A s.heap s.heap [] := va_S.rf
  have hl := lv_entry ([.ref h0]) (n := 1) (Nat.le_of_ble_eq_true rfl)
  rw [lg_entry_eq]
  generalize (lg_sl ([.ref h0]) ++ List.replicate (1 - (lg_sl ([.ref h0])).length) Slot.unset).toArray = ls at hl ⊢
  have hl : lv_has ls 1 [(0, .ref h0)] := hl
  refine lv_aload_n hx hb dX5_init_0 rfl (lv_at hl 0 rfl) ?_
  refine W.objInit hx hb hown (kb_h hts 65 rfl) (kb_h hts 43 rfl) (kb_h hts 44 rfl) rfl (by rw [hml]; exact hl.1) rfl dX5_init_1 (Nat.le_of_ble_eq_true rfl) (Nat.le_of_ble_eq_true rfl) ?_
  refine W.eq (g2 := F0 m 4 ls []) rfl ?_
  refine lv_aload_n hx hb dX5_init_4 rfl (lv_at hl 0 rfl) ?_
  refine lv_bipush (v := 8) hx hb dX5_init_5 (by decide) ?_
  refine kb_newI (N' := 8) hx hb (kb_h hts 19 rfl) hK hP hD hS hA (by decide) (by decide) (by decide) (Nat.le_of_ble_eq_true rfl) (Nat.le_of_ble_eq_true rfl) dX5_init_7 (fun q7 H hP hD hS => ?_)
  have hP : va_P D vwCl ([(h0, .inr (4, [.null, .null])), (q7, .inl (Ca 1, (8, .inl (fun _ => 0))))]) H := hP
  have hD : va_D A ([(h0, .inr (4, [.null, .null])), (q7, .inl (Ca 1, (8, .inl (fun _ => 0))))]) := hD
  refine va_putF (D := D) (ci := 4) (v := .ref q7) (ty := (.array .int)) (C := RX5) (T := TX5) (N := 2) hx hb hts (kb_u 15 (by decide)) tyX5 tyX5_ok nmX5 hown hK.1 hP hD hS 0 rfl rfl 0 (by decide) (kb_h hts 89 rfl) (fun _ h9 => h9) rfl hin rfl (by decide +kernel) rfl rfl (Nat.le_of_ble_eq_true rfl) dX5_init_9 (fun H locs hP hD hS => ?_)
  have hP : va_P D vwCl ([(h0, .inr (4, [.ref q7, .null])), (q7, .inl (Ca 1, (8, .inl (fun _ => 0))))]) H := hP
  have hD : va_D A ([(h0, .inr (4, [.ref q7, .null])), (q7, .inl (Ca 1, (8, .inl (fun _ => 0))))]) := hD
  refine lv_aload_n hx hb dX5_init_12 rfl (lv_at hl 0 rfl) ?_
  refine lv_bipush (v := 8) hx hb dX5_init_13 (by decide) ?_
  refine kb_newI (N' := 8) hx hb (kb_h hts 19 rfl) hK hP hD hS hA (by decide) (by decide) (by decide) (Nat.le_of_ble_eq_true rfl) (Nat.le_of_ble_eq_true rfl) dX5_init_15 (fun q15 H hP hD hS => ?_)
  have hP : va_P D vwCl ([(h0, .inr (4, [.ref q7, .null])), (q7, .inl (Ca 1, (8, .inl (fun _ => 0)))), (q15, .inl (Ca 1, (8, .inl (fun _ => 0))))]) H := hP
  have hD : va_D A ([(h0, .inr (4, [.ref q7, .null])), (q7, .inl (Ca 1, (8, .inl (fun _ => 0)))), (q15, .inl (Ca 1, (8, .inl (fun _ => 0))))]) := hD
  refine va_putF (D := D) (ci := 4) (v := .ref q15) (ty := (.array .int)) (C := RX5) (T := TX5) (N := 2) hx hb hts (kb_u 15 (by decide)) tyX5 tyX5_ok nmX5 hown hK.1 hP hD hS 0 rfl rfl 1 (by decide) (kb_h hts 90 rfl) (fun _ h9 => h9) rfl hin rfl (by decide +kernel) rfl rfl (Nat.le_of_ble_eq_true rfl) dX5_init_17 (fun H locs hP hD hS => ?_)
  have hP : va_P D vwCl ([(h0, .inr (4, [.ref q7, .ref q15])), (q7, .inl (Ca 1, (8, .inl (fun _ => 0)))), (q15, .inl (Ca 1, (8, .inl (fun _ => 0))))]) H := hP
  have hD : va_D A ([(h0, .inr (4, [.ref q7, .ref q15])), (q7, .inl (Ca 1, (8, .inl (fun _ => 0)))), (q15, .inl (Ca 1, (8, .inl (fun _ => 0))))]) := hD
  exact W.vret hx hb hr (fun t ht hW => ⟨⟨(q7, q15), rfl, trivial, by rw [ht]; exact hP, hD⟩, hS.F ht⟩) hS.2.2 dX5_init_20
set_option maxHeartbeats 4000000 in
set_option maxRecDepth 100000 in
theorem c_X7 (l : Launch) (D : va_G) (Ca : Nat → ClassId) (h0 sz : Nat) : Met l yX7_init (kb_T (.code yX7_init cX7_init 1 none)) ({ frames := 1, cells := 1, slots := 40, locals := 60 } : Room) (kb_Pc D Ca h0 [] sz (.inr (6, [.int 0, .int 0, .null]))) (kb_Qc (S := Nat) D (fun u => [(h0, .inr (6, [.int (-1), .int 0, .ref u])), (u, .inl (Ca 3, (40, .inr (.inl (fun _ => 0)))))]) (fun _ => True) (kb_A h0 sz)) 1 40 (kb_A h0 sz) := by
  refine Met.ofW (cc := cX7_init) (maxL := 1) (ret := none) (ws' := kb_L ++ ax_W) (by decide) rfl ?_
  intro p e s m args below meth c s₁ B hml hv
  obtain ⟨rfl, hsz, hP, hK⟩ := hv
  have hx := B.exec
  have hb := B.bytes
  have hr := B.returns
  have hlocks := B.notSynchronized
  have hts := atoms_spec (ws := kb_T (.code yX7_init cX7_init 1 none)) B.pre
  have hT : ∀ w ∈ kb_L ++ ax_W, w ∈ kb_T (.code yX7_init cX7_init 1 none) := fun w hw => List.mem_cons_of_mem _ hw
  have hown : s.vm.findClass RX7 = some m.cls := findClass_of_methodNamed B.named
  have hin : meth.name = "<init>" := (name_of_methodNamed B.named B.method).1
  subst hsz
  generalize hAe : kb_A h0 s.heap.size = A
  have hA : ∀ q : Nat, s.heap.size ≤ q → A q := fun q h => by rw [← hAe]; exact Or.inr h
  have hD : va_D A [(h0, .inr (6, [.int 0, .int 0, .null]))] := kb_D1 (by rw [← hAe]; exact Or.inl rfl)
  have hS : va_S A s.heap s.heap [] := va_S.rf
  have hl := lv_entry ([.ref h0]) (n := 1) (Nat.le_of_ble_eq_true rfl)
  rw [lg_entry_eq]
  generalize (lg_sl ([.ref h0]) ++ List.replicate (1 - (lg_sl ([.ref h0])).length) Slot.unset).toArray = ls at hl ⊢
  have hl : lv_has ls 1 [(0, .ref h0)] := hl
  refine lv_aload_n hx hb dX7_init_0 rfl (lv_at hl 0 rfl) ?_
  refine W.objInit hx hb hown (kb_h hts 71 rfl) (kb_h hts 43 rfl) (kb_h hts 44 rfl) rfl (by rw [hml]; exact hl.1) rfl dX7_init_1 (Nat.le_of_ble_eq_true rfl) (Nat.le_of_ble_eq_true rfl) ?_
  refine W.eq (g2 := F0 m 4 ls []) rfl ?_
  refine lv_aload_n hx hb dX7_init_4 rfl (lv_at hl 0 rfl) ?_
  refine lv_iconst (v := (-1)) hx hb dX7_init_5 (by decide) ?_
  refine va_put (D := D) (ci := 6) (v := .int (-1)) (ty := .int) (C := RX7) (T := TX7) (N := 3) hx hb hts (kb_u 8 (by decide)) tyX7 tyX7_ok nmX7 hown hK.1 hP hD hS 0 rfl rfl 0 (by decide) (kb_h hts 95 rfl) (fun _ h9 => h9) rfl (by decide +kernel) rfl rfl (Nat.le_of_ble_eq_true rfl) dX7_init_6 (fun H locs hP hD hS => ?_)
  have hP : va_P D vwCl ([(h0, .inr (6, [.int (-1), .int 0, .null]))]) H := hP
  have hD : va_D A ([(h0, .inr (6, [.int (-1), .int 0, .null]))]) := hD
  refine lv_aload_n hx hb dX7_init_9 rfl (lv_at hl 0 rfl) ?_
  refine lv_iconst (v := 0) hx hb dX7_init_10 (by decide) ?_
  refine va_put (D := D) (ci := 6) (v := .int 0) (ty := .int) (C := RX7) (T := TX7) (N := 3) hx hb hts (kb_u 8 (by decide)) tyX7 tyX7_ok nmX7 hown hK.1 hP hD hS 0 rfl rfl 1 (by decide) (kb_h hts 96 rfl) (fun _ h9 => h9) rfl (by decide +kernel) rfl rfl (Nat.le_of_ble_eq_true rfl) dX7_init_11 (fun H locs hP hD hS => ?_)
  have hP : va_P D vwCl ([(h0, .inr (6, [.int (-1), .int 0, .null]))]) H := hP
  have hD : va_D A ([(h0, .inr (6, [.int (-1), .int 0, .null]))]) := hD
  refine lv_aload_n hx hb dX7_init_14 rfl (lv_at hl 0 rfl) ?_
  refine lv_bipush (v := 40) hx hb dX7_init_15 (by decide) ?_
  refine kb_newL (N' := 40) hx hb (kb_h hts 29 rfl) hK hP hD hS hA (by decide) (by decide) (by decide) (Nat.le_of_ble_eq_true rfl) (Nat.le_of_ble_eq_true rfl) dX7_init_17 (fun q17 H hP hD hS => ?_)
  have hP : va_P D vwCl ([(h0, .inr (6, [.int (-1), .int 0, .null])), (q17, .inl (Ca 3, (40, .inr (.inl (fun _ => 0)))))]) H := hP
  have hD : va_D A ([(h0, .inr (6, [.int (-1), .int 0, .null])), (q17, .inl (Ca 3, (40, .inr (.inl (fun _ => 0)))))]) := hD
  refine va_putF (D := D) (ci := 6) (v := .ref q17) (ty := (.array .long)) (C := RX7) (T := TX7) (N := 3) hx hb hts (kb_u 8 (by decide)) tyX7 tyX7_ok nmX7 hown hK.1 hP hD hS 0 rfl rfl 2 (by decide) (kb_h hts 97 rfl) (fun _ h9 => h9) rfl hin rfl (by decide +kernel) rfl rfl (Nat.le_of_ble_eq_true rfl) dX7_init_19 (fun H locs hP hD hS => ?_)
  have hP : va_P D vwCl ([(h0, .inr (6, [.int (-1), .int 0, .ref q17])), (q17, .inl (Ca 3, (40, .inr (.inl (fun _ => 0)))))]) H := hP
  have hD : va_D A ([(h0, .inr (6, [.int (-1), .int 0, .ref q17])), (q17, .inl (Ca 3, (40, .inr (.inl (fun _ => 0)))))]) := hD
  exact W.vret hx hb hr (fun t ht hW => ⟨⟨q17, rfl, trivial, by rw [ht]; exact hP, hD⟩, hS.F ht⟩) hS.2.2 dX7_init_22
set_option maxHeartbeats 4000000 in
set_option maxRecDepth 100000 in
theorem c_X8 (l : Launch) (D : va_G) (Ca : Nat → ClassId) (h0 sz : Nat) : Met l yX8_init (kb_T (.code yX8_init cX8_init 1 none)) ({ frames := 1, cells := 1, slots := 250, locals := 60 } : Room) (kb_Pc D Ca h0 [] sz (.inr (7, [.null, .int 0]))) (kb_Qc (S := Nat) D (fun u => [(h0, .inr (7, [.ref u, .int 0])), (u, .inl (Ca 1, (250, .inl (fun _ => 0))))]) (fun _ => True) (kb_A h0 sz)) 1 250 (kb_A h0 sz) := by
  refine Met.ofW (cc := cX8_init) (maxL := 1) (ret := none) (ws' := kb_L ++ ax_W) (by decide) rfl ?_
  intro p e s m args below meth c s₁ B hml hv
  obtain ⟨rfl, hsz, hP, hK⟩ := hv
  have hx := B.exec
  have hb := B.bytes
  have hr := B.returns
  have hlocks := B.notSynchronized
  have hts := atoms_spec (ws := kb_T (.code yX8_init cX8_init 1 none)) B.pre
  have hT : ∀ w ∈ kb_L ++ ax_W, w ∈ kb_T (.code yX8_init cX8_init 1 none) := fun w hw => List.mem_cons_of_mem _ hw
  have hown : s.vm.findClass RX8 = some m.cls := findClass_of_methodNamed B.named
  have hin : meth.name = "<init>" := (name_of_methodNamed B.named B.method).1
  subst hsz
  generalize hAe : kb_A h0 s.heap.size = A
  have hA : ∀ q : Nat, s.heap.size ≤ q → A q := fun q h => by rw [← hAe]; exact Or.inr h
  have hD : va_D A [(h0, .inr (7, [.null, .int 0]))] := kb_D1 (by rw [← hAe]; exact Or.inl rfl)
  have hS : va_S A s.heap s.heap [] := va_S.rf
  have hl := lv_entry ([.ref h0]) (n := 1) (Nat.le_of_ble_eq_true rfl)
  rw [lg_entry_eq]
  generalize (lg_sl ([.ref h0]) ++ List.replicate (1 - (lg_sl ([.ref h0])).length) Slot.unset).toArray = ls at hl ⊢
  have hl : lv_has ls 1 [(0, .ref h0)] := hl
  refine lv_aload_n hx hb dX8_init_0 rfl (lv_at hl 0 rfl) ?_
  refine W.objInit hx hb hown (kb_h hts 59 rfl) (kb_h hts 43 rfl) (kb_h hts 44 rfl) rfl (by rw [hml]; exact hl.1) rfl dX8_init_1 (Nat.le_of_ble_eq_true rfl) (Nat.le_of_ble_eq_true rfl) ?_
  refine W.eq (g2 := F0 m 4 ls []) rfl ?_
  refine lv_aload_n hx hb dX8_init_4 rfl (lv_at hl 0 rfl) ?_
  refine lv_sipush (v := 250) hx hb dX8_init_5 (by decide) ?_
  refine kb_newI (N' := 250) hx hb (kb_h hts 19 rfl) hK hP hD hS hA (by decide) (by decide) (by decide) (Nat.le_of_ble_eq_true rfl) (Nat.le_of_ble_eq_true rfl) dX8_init_8 (fun q8 H hP hD hS => ?_)
  have hP : va_P D vwCl ([(h0, .inr (7, [.null, .int 0])), (q8, .inl (Ca 1, (250, .inl (fun _ => 0))))]) H := hP
  have hD : va_D A ([(h0, .inr (7, [.null, .int 0])), (q8, .inl (Ca 1, (250, .inl (fun _ => 0))))]) := hD
  refine va_putF (D := D) (ci := 7) (v := .ref q8) (ty := (.array .int)) (C := RX8) (T := TX8) (N := 2) hx hb hts (kb_u 10 (by decide)) tyX8 tyX8_ok nmX8 hown hK.1 hP hD hS 0 rfl rfl 0 (by decide) (kb_h hts 98 rfl) (fun _ h9 => h9) rfl hin rfl (by decide +kernel) rfl rfl (Nat.le_of_ble_eq_true rfl) dX8_init_10 (fun H locs hP hD hS => ?_)
  have hP : va_P D vwCl ([(h0, .inr (7, [.ref q8, .int 0])), (q8, .inl (Ca 1, (250, .inl (fun _ => 0))))]) H := hP
  have hD : va_D A ([(h0, .inr (7, [.ref q8, .int 0])), (q8, .inl (Ca 1, (250, .inl (fun _ => 0))))]) := hD
  refine lv_aload_n hx hb dX8_init_13 rfl (lv_at hl 0 rfl) ?_
  refine lv_iconst (v := 0) hx hb dX8_init_14 (by decide) ?_
  refine va_put (D := D) (ci := 7) (v := .int 0) (ty := .int) (C := RX8) (T := TX8) (N := 2) hx hb hts (kb_u 10 (by decide)) tyX8 tyX8_ok nmX8 hown hK.1 hP hD hS 0 rfl rfl 1 (by decide) (kb_h hts 99 rfl) (fun _ h9 => h9) rfl (by decide +kernel) rfl rfl (Nat.le_of_ble_eq_true rfl) dX8_init_15 (fun H locs hP hD hS => ?_)
  have hP : va_P D vwCl ([(h0, .inr (7, [.ref q8, .int 0])), (q8, .inl (Ca 1, (250, .inl (fun _ => 0))))]) H := hP
  have hD : va_D A ([(h0, .inr (7, [.ref q8, .int 0])), (q8, .inl (Ca 1, (250, .inl (fun _ => 0))))]) := hD
  exact W.vret hx hb hr (fun t ht hW => ⟨⟨q8, rfl, trivial, by rw [ht]; exact hP, hD⟩, hS.F ht⟩) hS.2.2 dX8_init_18
set_option maxHeartbeats 4000000 in
set_option maxRecDepth 100000 in
theorem c_X9 (l : Launch) (D : va_G) (Ca : Nat → ClassId) (h0 sz : Nat) : Met l yX9_init (kb_T (.code yX9_init cX9_init 1 none)) ({ frames := 1, cells := 1, slots := 64, locals := 60 } : Room) (kb_Pc D Ca h0 [] sz (.inr (8, [.null]))) (kb_Qc (S := Nat) D (fun u => [(h0, .inr (8, [.ref u])), (u, .inl (Ca 3, (64, .inr (.inl (fun _ => 0)))))]) (fun _ => True) (kb_A h0 sz)) 1 64 (kb_A h0 sz) := by
  refine Met.ofW (cc := cX9_init) (maxL := 1) (ret := none) (ws' := kb_L ++ ax_W) (by decide) rfl ?_
  intro p e s m args below meth c s₁ B hml hv
  obtain ⟨rfl, hsz, hP, hK⟩ := hv
  have hx := B.exec
  have hb := B.bytes
  have hr := B.returns
  have hlocks := B.notSynchronized
  have hts := atoms_spec (ws := kb_T (.code yX9_init cX9_init 1 none)) B.pre
  have hT : ∀ w ∈ kb_L ++ ax_W, w ∈ kb_T (.code yX9_init cX9_init 1 none) := fun w hw => List.mem_cons_of_mem _ hw
  have hown : s.vm.findClass RX9 = some m.cls := findClass_of_methodNamed B.named
  have hin : meth.name = "<init>" := (name_of_methodNamed B.named B.method).1
  subst hsz
  generalize hAe : kb_A h0 s.heap.size = A
  have hA : ∀ q : Nat, s.heap.size ≤ q → A q := fun q h => by rw [← hAe]; exact Or.inr h
  have hD : va_D A [(h0, .inr (8, [.null]))] := kb_D1 (by rw [← hAe]; exact Or.inl rfl)
  have hS : va_S A s.heap s.heap [] := va_S.rf
  have hl := lv_entry ([.ref h0]) (n := 1) (Nat.le_of_ble_eq_true rfl)
  rw [lg_entry_eq]
  generalize (lg_sl ([.ref h0]) ++ List.replicate (1 - (lg_sl ([.ref h0])).length) Slot.unset).toArray = ls at hl ⊢
  have hl : lv_has ls 1 [(0, .ref h0)] := hl
  refine lv_aload_n hx hb dX9_init_0 rfl (lv_at hl 0 rfl) ?_
  refine W.objInit hx hb hown (kb_h hts 62 rfl) (kb_h hts 43 rfl) (kb_h hts 44 rfl) rfl (by rw [hml]; exact hl.1) rfl dX9_init_1 (Nat.le_of_ble_eq_true rfl) (Nat.le_of_ble_eq_true rfl) ?_
  refine W.eq (g2 := F0 m 4 ls []) rfl ?_
  refine lv_aload_n hx hb dX9_init_4 rfl (lv_at hl 0 rfl) ?_
  refine lv_bipush (v := 64) hx hb dX9_init_5 (by decide) ?_
  refine kb_newL (N' := 64) hx hb (kb_h hts 29 rfl) hK hP hD hS hA (by decide) (by decide) (by decide) (Nat.le_of_ble_eq_true rfl) (Nat.le_of_ble_eq_true rfl) dX9_init_7 (fun q7 H hP hD hS => ?_)
  have hP : va_P D vwCl ([(h0, .inr (8, [.null])), (q7, .inl (Ca 3, (64, .inr (.inl (fun _ => 0)))))]) H := hP
  have hD : va_D A ([(h0, .inr (8, [.null])), (q7, .inl (Ca 3, (64, .inr (.inl (fun _ => 0)))))]) := hD
  refine va_putF (D := D) (ci := 8) (v := .ref q7) (ty := (.array .long)) (C := RX9) (T := TX9) (N := 1) hx hb hts (kb_u 13 (by decide)) tyX9 tyX9_ok nmX9 hown hK.1 hP hD hS 0 rfl rfl 0 (by decide) (kb_h hts 100 rfl) (fun _ h9 => h9) rfl hin rfl (by decide +kernel) rfl rfl (Nat.le_of_ble_eq_true rfl) dX9_init_9 (fun H locs hP hD hS => ?_)
  have hP : va_P D vwCl ([(h0, .inr (8, [.ref q7])), (q7, .inl (Ca 3, (64, .inr (.inl (fun _ => 0)))))]) H := hP
  have hD : va_D A ([(h0, .inr (8, [.ref q7])), (q7, .inl (Ca 3, (64, .inr (.inl (fun _ => 0)))))]) := hD
  exact W.vret hx hb hr (fun t ht hW => ⟨⟨q7, rfl, trivial, by rw [ht]; exact hP, hD⟩, hS.F ht⟩) hS.2.2 dX9_init_12
set_option maxHeartbeats 4000000 in
set_option maxRecDepth 100000 in
theorem c_X4 (l : Launch) (D : va_G) (Ca : Nat → ClassId) (h0 sz : Nat) : Met l yX4_init (kb_T (.code yX4_init cX4_init 1 none)) ({ frames := 2, cells := 2, slots := 252, locals := 120 } : Room) (kb_Pc D Ca h0 [] sz (.inr (3, [.null, .int 0, .int 0, .int 0]))) (kb_Qc (S := (Nat × Nat)) D (fun u => [(h0, .inr (3, [.ref u.1, .int 0, .int 0, .int 0])), (u.1, .inr (7, [.ref u.2, .int 0])), (u.2, .inl (Ca 1, (250, .inl (fun _ => 0))))]) (fun _ => True) (kb_A h0 sz)) 2 252 (kb_A h0 sz) := by
  refine Met.ofW (cc := cX4_init) (maxL := 1) (ret := none) (ws' := kb_L ++ ax_W) (by decide) rfl ?_
  intro p e s m args below meth c s₁ B hml hv
  obtain ⟨rfl, hsz, hP, hK⟩ := hv
  have hx := B.exec
  have hb := B.bytes
  have hr := B.returns
  have hlocks := B.notSynchronized
  have hts := atoms_spec (ws := kb_T (.code yX4_init cX4_init 1 none)) B.pre
  have hT : ∀ w ∈ kb_L ++ ax_W, w ∈ kb_T (.code yX4_init cX4_init 1 none) := fun w hw => List.mem_cons_of_mem _ hw
  have hown : s.vm.findClass RX4 = some m.cls := findClass_of_methodNamed B.named
  have hin : meth.name = "<init>" := (name_of_methodNamed B.named B.method).1
  subst hsz
  generalize hAe : kb_A h0 s.heap.size = A
  have hA : ∀ q : Nat, s.heap.size ≤ q → A q := fun q h => by rw [← hAe]; exact Or.inr h
  have hD : va_D A [(h0, .inr (3, [.null, .int 0, .int 0, .int 0]))] := kb_D1 (by rw [← hAe]; exact Or.inl rfl)
  have hS : va_S A s.heap s.heap [] := va_S.rf
  have hl := lv_entry ([.ref h0]) (n := 1) (Nat.le_of_ble_eq_true rfl)
  rw [lg_entry_eq]
  generalize (lg_sl ([.ref h0]) ++ List.replicate (1 - (lg_sl ([.ref h0])).length) Slot.unset).toArray = ls at hl ⊢
  have hl : lv_has ls 1 [(0, .ref h0)] := hl
  refine lv_aload_n hx hb dX4_init_0 rfl (lv_at hl 0 rfl) ?_
  refine W.objInit hx hb hown (kb_h hts 56 rfl) (kb_h hts 43 rfl) (kb_h hts 44 rfl) rfl (by rw [hml]; exact hl.1) rfl dX4_init_1 (Nat.le_of_ble_eq_true rfl) (Nat.le_of_ble_eq_true rfl) ?_
  refine W.eq (g2 := F0 m 4 ls []) rfl ?_
  refine lv_aload_n hx hb dX4_init_4 rfl (lv_at hl 0 rfl) ?_
  refine va_new (ci := 7) (fs := [.null, .int 0]) (C := RX8) (T := TX8) (N := 2) hx hb hts (kb_u 10 (by decide)) tyX8 tyX8_ok hown (kb_h hts 25 rfl) (kb_h hts 26 rfl) (kb_h hts 6 rfl) hK.1 hP hD hS hA rfl (fun j hj => by rcases (show j = 0 ∨ j = 1 by omega) with rfl | rfl <;> rfl) (Nat.le_of_ble_eq_true rfl) (Nat.le_of_ble_eq_true rfl) dX4_init_5 (fun q5 H hP hD hS => ?_)
  have hP : va_P D vwCl ([(h0, .inr (3, [.null, .int 0, .int 0, .int 0])), (q5, .inr (7, [.null, .int 0]))]) H := hP
  have hD : va_D A ([(h0, .inr (3, [.null, .int 0, .int 0, .int 0])), (q5, .inr (7, [.null, .int 0]))]) := hD
  refine lv_dup hx hb dX4_init_8 rfl ?_
  refine kb_callN (Y := [(h0, .inr (3, [.null, .int 0, .int 0, .int 0]))]) (rest := [.ref q5, .ref h0]) (As := []) (n := 0) hx hb hml hown hts hT (c_X8 l D Ca q5 _ ) 58 6 57 4 rfl rfl rfl rfl rfl rfl rfl ⟨by decide +kernel, by decide +kernel, by decide +kernel⟩ ⟨Nat.le_of_ble_eq_true rfl, Nat.le_of_ble_eq_true rfl⟩ rfl hl.1 hK hP hD hS hA rfl (Nat.le_of_ble_eq_true rfl) dX4_init_9 ⟨Nat.le_of_ble_eq_true rfl, Nat.le_of_ble_eq_true rfl⟩ (fun u9 H locs hg9 hP hD hS => ?_)
  have hP : va_P D vwCl ([(h0, .inr (3, [.null, .int 0, .int 0, .int 0])), (q5, .inr (7, [.ref u9, .int 0])), (u9, .inl (Ca 1, (250, .inl (fun _ => 0))))]) H := hP
  have hD : va_D A ([(h0, .inr (3, [.null, .int 0, .int 0, .int 0])), (q5, .inr (7, [.ref u9, .int 0])), (u9, .inl (Ca 1, (250, .inl (fun _ => 0))))]) := hD
  refine va_putF (D := D) (ci := 3) (v := .ref q5) (ty := (.object "NextToItsDebtor$Tape")) (C := RX4) (T := TX4) (N := 4) hx hb hts (kb_u 12 (by decide)) tyX4 tyX4_ok nmX4 hown hK.1 hP hD hS 0 rfl rfl 0 (by decide) (kb_h hts 85 rfl) (fun _ h9 => h9) rfl hin rfl (by decide +kernel) rfl rfl (Nat.le_of_ble_eq_true rfl) dX4_init_12 (fun H locs hP hD hS => ?_)
  have hP : va_P D vwCl ([(h0, .inr (3, [.ref q5, .int 0, .int 0, .int 0])), (q5, .inr (7, [.ref u9, .int 0])), (u9, .inl (Ca 1, (250, .inl (fun _ => 0))))]) H := hP
  have hD : va_D A ([(h0, .inr (3, [.ref q5, .int 0, .int 0, .int 0])), (q5, .inr (7, [.ref u9, .int 0])), (u9, .inl (Ca 1, (250, .inl (fun _ => 0))))]) := hD
  refine lv_aload_n hx hb dX4_init_15 rfl (lv_at hl 0 rfl) ?_
  refine lv_iconst (v := 0) hx hb dX4_init_16 (by decide) ?_
  refine va_put (D := D) (ci := 3) (v := .int 0) (ty := .int) (C := RX4) (T := TX4) (N := 4) hx hb hts (kb_u 12 (by decide)) tyX4 tyX4_ok nmX4 hown hK.1 hP hD hS 0 rfl rfl 1 (by decide) (kb_h hts 86 rfl) (fun _ h9 => h9) rfl (by decide +kernel) rfl rfl (Nat.le_of_ble_eq_true rfl) dX4_init_17 (fun H locs hP hD hS => ?_)
  have hP : va_P D vwCl ([(h0, .inr (3, [.ref q5, .int 0, .int 0, .int 0])), (q5, .inr (7, [.ref u9, .int 0])), (u9, .inl (Ca 1, (250, .inl (fun _ => 0))))]) H := hP
  have hD : va_D A ([(h0, .inr (3, [.ref q5, .int 0, .int 0, .int 0])), (q5, .inr (7, [.ref u9, .int 0])), (u9, .inl (Ca 1, (250, .inl (fun _ => 0))))]) := hD
  refine lv_aload_n hx hb dX4_init_20 rfl (lv_at hl 0 rfl) ?_
  refine lv_iconst (v := 0) hx hb dX4_init_21 (by decide) ?_
  refine va_put (D := D) (ci := 3) (v := .int 0) (ty := .int) (C := RX4) (T := TX4) (N := 4) hx hb hts (kb_u 12 (by decide)) tyX4 tyX4_ok nmX4 hown hK.1 hP hD hS 0 rfl rfl 2 (by decide) (kb_h hts 87 rfl) (fun _ h9 => h9) rfl (by decide +kernel) rfl rfl (Nat.le_of_ble_eq_true rfl) dX4_init_22 (fun H locs hP hD hS => ?_)
  have hP : va_P D vwCl ([(h0, .inr (3, [.ref q5, .int 0, .int 0, .int 0])), (q5, .inr (7, [.ref u9, .int 0])), (u9, .inl (Ca 1, (250, .inl (fun _ => 0))))]) H := hP
  have hD : va_D A ([(h0, .inr (3, [.ref q5, .int 0, .int 0, .int 0])), (q5, .inr (7, [.ref u9, .int 0])), (u9, .inl (Ca 1, (250, .inl (fun _ => 0))))]) := hD
  refine lv_aload_n hx hb dX4_init_25 rfl (lv_at hl 0 rfl) ?_
  refine lv_iconst (v := 0) hx hb dX4_init_26 (by decide) ?_
  refine va_put (D := D) (ci := 3) (v := .int 0) (ty := .int) (C := RX4) (T := TX4) (N := 4) hx hb hts (kb_u 12 (by decide)) tyX4 tyX4_ok nmX4 hown hK.1 hP hD hS 0 rfl rfl 3 (by decide) (kb_h hts 88 rfl) (fun _ h9 => h9) rfl (by decide +kernel) rfl rfl (Nat.le_of_ble_eq_true rfl) dX4_init_27 (fun H locs hP hD hS => ?_)
  have hP : va_P D vwCl ([(h0, .inr (3, [.ref q5, .int 0, .int 0, .int 0])), (q5, .inr (7, [.ref u9, .int 0])), (u9, .inl (Ca 1, (250, .inl (fun _ => 0))))]) H := hP
  have hD : va_D A ([(h0, .inr (3, [.ref q5, .int 0, .int 0, .int 0])), (q5, .inr (7, [.ref u9, .int 0])), (u9, .inl (Ca 1, (250, .inl (fun _ => 0))))]) := hD
  exact W.vret hx hb hr (fun t ht hW => ⟨⟨(q5, u9), rfl, trivial, by rw [ht]; exact hP, hD⟩, hS.F ht⟩) hS.2.2 dX4_init_30
theorem kb_up {L : List Nat} {q : Nat} (h : L.length < 2 ^ 31) : va_up (fun j => L[j]?) (nI L.length).toNatClampNeg (some q) = fun j => (L ++ [q])[j]? := by
  rw [nI_clamp h]
  funext j
  show (if j = L.length then some q else L[j]?) = (L ++ [q])[j]?
  by_cases e : j = L.length
  · rw [if_pos e, e]; simp
  · rw [if_neg e]
    rcases Nat.lt_or_ge j L.length with h1 | h1
    · rw [List.getElem?_append_left h1]
    · rw [List.getElem?_eq_none h1, List.getElem?_eq_none (by simp; omega)]
theorem kb_up2 {L : List (Nat × Nat)} {q : Nat × Nat} (h : L.length < 2 ^ 31) : va_up (fun j => (L[j]?).map Prod.fst) (nI L.length).toNatClampNeg (some q.1) = fun j => ((L ++ [q])[j]?).map Prod.fst := by
  rw [nI_clamp h]
  funext j
  show (if j = L.length then some q.1 else (L[j]?).map Prod.fst) = ((L ++ [q])[j]?).map Prod.fst
  by_cases e : j = L.length
  · rw [if_pos e, e]; simp
  · rw [if_neg e]
    rcases Nat.lt_or_ge j L.length with h1 | h1
    · rw [List.getElem?_append_left h1]
    · rw [List.getElem?_eq_none h1, List.getElem?_eq_none (by simp; omega)]
theorem kb_up3 {i : Nat} (h : i < 2 ^ 31) : upd (fun j => if j < i then (-1 : Int32) else 0) (nI i).toNatClampNeg (-1) = fun j => if j < i + 1 then (-1 : Int32) else 0 := by
  rw [nI_clamp h]
  funext j
  show (if j = i then (-1 : Int32) else if j < i then (-1 : Int32) else 0) = if j < i + 1 then (-1 : Int32) else 0
  by_cases e : j = i
  · rw [if_pos e, if_pos (by omega)]
  · rw [if_neg e]
    by_cases e2 : j < i
    · rw [if_pos e2, if_pos (by omega)]
    · rw [if_neg e2, if_neg (by omega)]
set_option maxHeartbeats 4000000 in
set_option maxRecDepth 100000 in
theorem lp_X3 {p : Program} {l : Launch} {e : Env} {R : Room} {s : State} {m : MethodId} {args : Array Value} {below : List Frame} {meth : Method} {c : Code} {Q : State → Prop} {D : va_G} {Ca : Nat → ClassId} {A : Nat → Prop} {q17 q23 q41 u27 h0 : Nat} (hx : p.tables.exec = Jvm.exec) (hb : c.code = cX3_init) (hml : c.maxLocals = 2) (hown : s.vm.findClass RX3 = some m.cls) (hts : ∀ w ∈ kb_T (.code yX3_init cX3_init 2 none), w.before args s = true) (hK : kb_K D Ca s) (hA : ∀ q : Nat, s.heap.size ≤ q → A q) (hR1 : 4 + 16 ≤ R.cells) (hR2 : 89 + 64 ≤ R.slots) (hR3 : ({ frames := 1, cells := 0, slots := 0, locals := 60 } : Room).frames + 1 ≤ R.frames ∧ 8 + (1 + 11) + ({ frames := 1, cells := 0, slots := 0, locals := 60 } : Room).locals ≤ R.locals)
    (fin : ∀ (L : List Nat) (H : Heap) (locs : List Loc) (ls : Array Slot), L.length = 16 → va_P D vwCl ([(h0, .inr (2, [.long 0, .int 0, .ref q17, .ref q23, .int 0, .ref q41, .int 1])), (q17, .inl (Ca 1, (8, .inl (fun _ => 0)))), (q23, .inr (1, [.ref u27])), (u27, .inl (Ca 1, (64, .inl (fun _ => 0)))), (q41, .inl (Ca 4, (16, .inr (.inr (.inr (.inr (fun j => L[j]?)))))))] ++ L.map (fun a => (a, (.inr (5, [.int 0, .int 0, .int 0, .int 0]) : va_E)))) H → va_D A ([(h0, .inr (2, [.long 0, .int 0, .ref q17, .ref q23, .int 0, .ref q41, .int 1])), (q17, .inl (Ca 1, (8, .inl (fun _ => 0)))), (q23, .inr (1, [.ref u27])), (u27, .inl (Ca 1, (64, .inl (fun _ => 0)))), (q41, .inl (Ca 4, (16, .inr (.inr (.inr (.inr (fun j => L[j]?)))))))] ++ L.map (fun a => (a, (.inr (5, [.int 0, .int 0, .int 0, .int 0]) : va_E)))) → va_S A s.heap H locs → W p l e R s m args below meth c H locs 20 153 Q (F0 m 79 ls [])) :
    ∀ (k : Nat) (L : List Nat) (H : Heap) (locs : List Loc) (ls : Array Slot), L.length + k = 16 → va_P D vwCl ([(h0, .inr (2, [.long 0, .int 0, .ref q17, .ref q23, .int 0, .ref q41, .int 1])), (q17, .inl (Ca 1, (8, .inl (fun _ => 0)))), (q23, .inr (1, [.ref u27])), (u27, .inl (Ca 1, (64, .inl (fun _ => 0)))), (q41, .inl (Ca 4, (16, .inr (.inr (.inr (.inr (fun j => L[j]?)))))))] ++ L.map (fun a => (a, (.inr (5, [.int 0, .int 0, .int 0, .int 0]) : va_E)))) H → va_D A ([(h0, .inr (2, [.long 0, .int 0, .ref q17, .ref q23, .int 0, .ref q41, .int 1])), (q17, .inl (Ca 1, (8, .inl (fun _ => 0)))), (q23, .inr (1, [.ref u27])), (u27, .inl (Ca 1, (64, .inl (fun _ => 0)))), (q41, .inl (Ca 4, (16, .inr (.inr (.inr (.inr (fun j => L[j]?)))))))] ++ L.map (fun a => (a, (.inr (5, [.int 0, .int 0, .int 0, .int 0]) : va_E)))) → va_S A s.heap H locs → lv_has ls 2 [(1, .int (nI L.length)), (0, .ref h0)] → W p l e R s m args below meth c H locs (4 + L.length) (89 + 4 * L.length) Q (F0 m 54 ls []) := by
  have hT : ∀ w ∈ kb_L ++ ax_W, w ∈ kb_T (.code yX3_init cX3_init 2 none) := fun w hw => List.mem_cons_of_mem _ hw
  intro k
  induction k with
  | zero =>
    intro L H locs ls hk hP hD hS hl
    have hk : L.length = 16 := hk
    refine lv_iload_n hx hb dX3_init_54 rfl (lv_at hl 0 rfl) ?_
    refine lv_bipush (v := 16) hx hb dX3_init_55 (by decide) ?_
    refine lv_icmp_ge (tgt := 79) hx hb dX3_init_57 (by decide) (fun _ => ?_) (fun h => absurd (by rw [hk]; decide) h)
    rw [hk]
    exact fin L H locs ls hk hP hD hS
  | succ k ih =>
    intro L H locs ls hk hP hD hS hl
    have hlt : L.length < 16 := by omega
    refine lv_iload_n hx hb dX3_init_54 rfl (lv_at hl 0 rfl) ?_
    refine lv_bipush (v := 16) hx hb dX3_init_55 (by decide) ?_
    refine lv_icmp_ge (tgt := 79) hx hb dX3_init_57 (by decide) (fun h => absurd h (nI_ge hlt (by decide))) (fun _ => ?_)
    refine lv_aload_n hx hb dX3_init_60 rfl (lv_at hl 1 rfl) ?_
    refine va_get (D := D) (ci := 2) (v := .ref q41) (C := RX3) (T := TX3) (N := 7) hx hb hts (kb_u 1 (by decide)) hown hK.1 hP 0 rfl rfl 5 (by decide) (kb_h hts 83 rfl) (fun _ h9 => h9) rfl dX3_init_61 ?_
    refine lv_iload_n hx hb dX3_init_64 rfl (lv_at hl 0 rfl) ?_
    refine va_new (ci := 5) (fs := [.int 0, .int 0, .int 0, .int 0]) (C := RX6) (T := TX6) (N := 4) hx hb hts (kb_u 6 (by decide)) tyX6 tyX6_ok hown (kb_h hts 20 rfl) (kb_h hts 21 rfl) (kb_h hts 4 rfl) hK.1 hP hD hS hA rfl (fun j hj => by rcases (show j = 0 ∨ j = 1 ∨ j = 2 ∨ j = 3 by omega) with rfl | rfl | rfl | rfl <;> rfl) (by omega) (by omega) dX3_init_65 (fun q65 H hP hD hS => ?_)
    refine lv_dup hx hb dX3_init_68 rfl ?_
    refine kb_callN (Y := [(h0, .inr (2, [.long 0, .int 0, .ref q17, .ref q23, .int 0, .ref q41, .int 1])), (q17, .inl (Ca 1, (8, .inl (fun _ => 0)))), (q23, .inr (1, [.ref u27])), (u27, .inl (Ca 1, (64, .inl (fun _ => 0)))), (q41, .inl (Ca 4, (16, .inr (.inr (.inr (.inr (fun j => L[j]?)))))))] ++ L.map (fun a => (a, (.inr (5, [.int 0, .int 0, .int 0, .int 0]) : va_E)))) (rest := [.ref q65, .int (nI L.length), .ref q41]) (As := []) (n := 0) hx hb hml hown hts hT (c_X6 l D Ca q65 _) 52 4 51 2 rfl rfl rfl rfl rfl rfl rfl ⟨by decide +kernel, by decide +kernel, by decide +kernel⟩ hR3 rfl hl.1 hK hP hD hS hA rfl (Nat.le_of_ble_eq_true rfl) dX3_init_69 ⟨by omega, by omega⟩ (fun u69 H locs hg hP hD hS => ?_)
    refine va_astq hx hb hK.1 hP hD hS 4 3 ([(h0, .inr (2, [.long 0, .int 0, .ref q17, .ref q23, .int 0, .ref q41, .int 1])), (q17, .inl (Ca 1, (8, .inl (fun _ => 0)))), (q23, .inr (1, [.ref u27])), (u27, .inl (Ca 1, (64, .inl (fun _ => 0)))), (q41, .inl (Ca 4, (16, .inr (.inr (.inr (.inr (fun j => L[j]?)))))))] ++ L.map (fun a => (a, (.inr (5, [.int 0, .int 0, .int 0, .int 0]) : va_E))) : va_W).length 5 rfl rfl kb_last rfl (vp_in_nI hlt (by decide)) dX3_init_72 (fun H locs hP hD hS => ?_)
    have e1 := kb_up (L := L) (q := q65) (by omega)
    have e2 : (L ++ [q65]).map (fun a => (a, (.inr (5, [.int 0, .int 0, .int 0, .int 0]) : va_E))) = L.map (fun a => (a, (.inr (5, [.int 0, .int 0, .int 0, .int 0]) : va_E))) ++ [(q65, .inr (5, [.int 0, .int 0, .int 0, .int 0]))] := by simp
    have e3 : (L ++ [q65]).length = L.length + 1 := by simp
    have hP : va_P D vwCl ([(h0, .inr (2, [.long 0, .int 0, .ref q17, .ref q23, .int 0, .ref q41, .int 1])), (q17, .inl (Ca 1, (8, .inl (fun _ => 0)))), (q23, .inr (1, [.ref u27])), (u27, .inl (Ca 1, (64, .inl (fun _ => 0)))), (q41, .inl (Ca 4, (16, .inr (.inr (.inr (.inr (fun j => (L ++ [q65])[j]?)))))))] ++ (L ++ [q65]).map (fun a => (a, (.inr (5, [.int 0, .int 0, .int 0, .int 0]) : va_E)))) H := by rw [← e1, e2, ← List.append_assoc]; exact hP
    have hD : va_D A ([(h0, .inr (2, [.long 0, .int 0, .ref q17, .ref q23, .int 0, .ref q41, .int 1])), (q17, .inl (Ca 1, (8, .inl (fun _ => 0)))), (q23, .inr (1, [.ref u27])), (u27, .inl (Ca 1, (64, .inl (fun _ => 0)))), (q41, .inl (Ca 4, (16, .inr (.inr (.inr (.inr (fun j => (L ++ [q65])[j]?)))))))] ++ (L ++ [q65]).map (fun a => (a, (.inr (5, [.int 0, .int 0, .int 0, .int 0]) : va_E)))) := by rw [← e1, e2, ← List.append_assoc]; exact hD
    refine lv_iinc (v := nI (L ++ [q65]).length) (lv' := [(1, .int (nI (L ++ [q65]).length)), (0, .ref h0)]) hx hb dX3_init_73 hl (k := 0) rfl (by rw [e3]; exact (nI_succ _).symm) (by decide) rfl (fun ls hl => ?_)
    refine lv_goto (tgt := 54) hx hb dX3_init_76 (by decide) ?_
    refine W.widen (k := 4 + (L ++ [q65]).length) (n := 89 + 4 * (L ++ [q65]).length) (by omega) (by omega) ?_
    exact ih (L ++ [q65]) H locs ls (by omega) hP hD hS hl
abbrev kb_G (Ca : Nat → ClassId) (h0 q17 q23 q41 u27 : Nat) (L : List Nat) : va_W := [(h0, .inr (2, [.long 0, .int 0, .ref q17, .ref q23, .int 0, .ref q41, .int 1])), (q17, .inl (Ca 1, (8, .inl (fun _ => 0)))), (q23, .inr (1, [.ref u27])), (u27, .inl (Ca 1, (64, .inl (fun _ => 0)))), (q41, .inl (Ca 4, (16, .inr (.inr (.inr (.inr (fun j => L[j]?)))))))] ++ L.map (fun a => (a, (.inr (5, [.int 0, .int 0, .int 0, .int 0]) : va_E)))
set_option maxHeartbeats 4000000 in
set_option maxRecDepth 100000 in
theorem c_X3 (l : Launch) (D : va_G) (Ca : Nat → ClassId) (h0 sz : Nat) : Met l yX3_init (kb_T (.code yX3_init cX3_init 2 none)) ({ frames := 2, cells := 20, slots := 153, locals := 120 } : Room) (kb_Pc D Ca h0 [] sz (.inr (2, [.long 0, .int 0, .null, .null, .int 0, .null, .int 0]))) (kb_Qc (S := (Nat × Nat × Nat × Nat) × List Nat) D (fun u => kb_G Ca h0 u.1.1 u.1.2.1 u.1.2.2.1 u.1.2.2.2 u.2) (fun u => u.2.length = 16) (kb_A h0 sz)) 20 153 (kb_A h0 sz) := by
  refine Met.ofW (cc := cX3_init) (maxL := 2) (ret := none) (ws' := kb_L ++ ax_W) (by decide) rfl ?_
  intro p e s m args below meth c s₁ B hml hv
  obtain ⟨rfl, hsz, hP, hK⟩ := hv
  have hx := B.exec
  have hb := B.bytes
  have hr := B.returns
  have hlocks := B.notSynchronized
  have hts := atoms_spec (ws := kb_T (.code yX3_init cX3_init 2 none)) B.pre
  have hT : ∀ w ∈ kb_L ++ ax_W, w ∈ kb_T (.code yX3_init cX3_init 2 none) := fun w hw => List.mem_cons_of_mem _ hw
  have hown : s.vm.findClass RX3 = some m.cls := findClass_of_methodNamed B.named
  have hin : meth.name = "<init>" := (name_of_methodNamed B.named B.method).1
  subst hsz
  generalize hAe : kb_A h0 s.heap.size = A
  have hA : ∀ q : Nat, s.heap.size ≤ q → A q := fun q h => by rw [← hAe]; exact Or.inr h
  have hD : va_D A [(h0, .inr (2, [.long 0, .int 0, .null, .null, .int 0, .null, .int 0]))] := kb_D1 (by rw [← hAe]; exact Or.inl rfl)
  have hS : va_S A s.heap s.heap [] := va_S.rf
  have hl := lv_entry ([.ref h0]) (n := 2) (Nat.le_of_ble_eq_true rfl)
  rw [lg_entry_eq]
  generalize (lg_sl ([.ref h0]) ++ List.replicate (2 - (lg_sl ([.ref h0])).length) Slot.unset).toArray = ls at hl ⊢
  have hl : lv_has ls 2 [(0, .ref h0)] := hl
  refine lv_aload_n hx hb dX3_init_0 rfl (lv_at hl 0 rfl) ?_
  refine W.objInit hx hb hown (kb_h hts 47 rfl) (kb_h hts 43 rfl) (kb_h hts 44 rfl) rfl (by rw [hml]; exact hl.1) rfl dX3_init_1 (Nat.le_of_ble_eq_true rfl) (Nat.le_of_ble_eq_true rfl) ?_
  refine W.eq (g2 := F0 m 4 ls []) rfl ?_
  refine lv_aload_n hx hb dX3_init_4 rfl (lv_at hl 0 rfl) ?_
  refine lv_lconst (v := 0) hx hb dX3_init_5 (by decide) ?_
  refine va_put (D := D) (ci := 2) (v := .long 0) (ty := .long) (C := RX3) (T := TX3) (N := 7) hx hb hts (kb_u 1 (by decide)) tyX3 tyX3_ok nmX3 hown hK.1 hP hD hS 0 rfl rfl 0 (by decide) (kb_h hts 78 rfl) (fun _ h9 => h9) rfl (by decide +kernel) rfl rfl (Nat.le_of_ble_eq_true rfl) dX3_init_6 (fun H locs hP hD hS => ?_)
  have hP : va_P D vwCl ([(h0, .inr (2, [.long 0, .int 0, .null, .null, .int 0, .null, .int 0]))]) H := hP
  have hD : va_D A ([(h0, .inr (2, [.long 0, .int 0, .null, .null, .int 0, .null, .int 0]))]) := hD
  refine lv_aload_n hx hb dX3_init_9 rfl (lv_at hl 0 rfl) ?_
  refine lv_iconst (v := 0) hx hb dX3_init_10 (by decide) ?_
  refine va_put (D := D) (ci := 2) (v := .int 0) (ty := .int) (C := RX3) (T := TX3) (N := 7) hx hb hts (kb_u 1 (by decide)) tyX3 tyX3_ok nmX3 hown hK.1 hP hD hS 0 rfl rfl 1 (by decide) (kb_h hts 79 rfl) (fun _ h9 => h9) rfl (by decide +kernel) rfl rfl (Nat.le_of_ble_eq_true rfl) dX3_init_11 (fun H locs hP hD hS => ?_)
  have hP : va_P D vwCl ([(h0, .inr (2, [.long 0, .int 0, .null, .null, .int 0, .null, .int 0]))]) H := hP
  have hD : va_D A ([(h0, .inr (2, [.long 0, .int 0, .null, .null, .int 0, .null, .int 0]))]) := hD
  refine lv_aload_n hx hb dX3_init_14 rfl (lv_at hl 0 rfl) ?_
  refine lv_bipush (v := 8) hx hb dX3_init_15 (by decide) ?_
  refine kb_newI (N' := 8) hx hb (kb_h hts 19 rfl) hK hP hD hS hA (by decide) (by decide) (by decide) (Nat.le_of_ble_eq_true rfl) (Nat.le_of_ble_eq_true rfl) dX3_init_17 (fun q17 H hP hD hS => ?_)
  have hP : va_P D vwCl ([(h0, .inr (2, [.long 0, .int 0, .null, .null, .int 0, .null, .int 0])), (q17, .inl (Ca 1, (8, .inl (fun _ => 0))))]) H := hP
  have hD : va_D A ([(h0, .inr (2, [.long 0, .int 0, .null, .null, .int 0, .null, .int 0])), (q17, .inl (Ca 1, (8, .inl (fun _ => 0))))]) := hD
  refine va_putF (D := D) (ci := 2) (v := .ref q17) (ty := (.array .int)) (C := RX3) (T := TX3) (N := 7) hx hb hts (kb_u 1 (by decide)) tyX3 tyX3_ok nmX3 hown hK.1 hP hD hS 0 rfl rfl 2 (by decide) (kb_h hts 80 rfl) (fun _ h9 => h9) rfl hin rfl (by decide +kernel) rfl rfl (Nat.le_of_ble_eq_true rfl) dX3_init_19 (fun H locs hP hD hS => ?_)
  have hP : va_P D vwCl ([(h0, .inr (2, [.long 0, .int 0, .ref q17, .null, .int 0, .null, .int 0])), (q17, .inl (Ca 1, (8, .inl (fun _ => 0))))]) H := hP
  have hD : va_D A ([(h0, .inr (2, [.long 0, .int 0, .ref q17, .null, .int 0, .null, .int 0])), (q17, .inl (Ca 1, (8, .inl (fun _ => 0))))]) := hD
  refine lv_aload_n hx hb dX3_init_22 rfl (lv_at hl 0 rfl) ?_
  refine va_new (ci := 1) (fs := [.null]) (C := RX2) (T := TX2) (N := 1) hx hb hts (kb_u 3 (by decide)) tyX2 tyX2_ok hown (kb_h hts 17 rfl) (kb_h hts 18 rfl) (kb_h hts 3 rfl) hK.1 hP hD hS hA rfl (fun j hj => by rcases (show j = 0 by omega) with rfl <;> rfl) (Nat.le_of_ble_eq_true rfl) (Nat.le_of_ble_eq_true rfl) dX3_init_23 (fun q23 H hP hD hS => ?_)
  have hP : va_P D vwCl ([(h0, .inr (2, [.long 0, .int 0, .ref q17, .null, .int 0, .null, .int 0])), (q17, .inl (Ca 1, (8, .inl (fun _ => 0)))), (q23, .inr (1, [.null]))]) H := hP
  have hD : va_D A ([(h0, .inr (2, [.long 0, .int 0, .ref q17, .null, .int 0, .null, .int 0])), (q17, .inl (Ca 1, (8, .inl (fun _ => 0)))), (q23, .inr (1, [.null]))]) := hD
  refine lv_dup hx hb dX3_init_26 rfl ?_
  refine kb_callN (Y := [(h0, .inr (2, [.long 0, .int 0, .ref q17, .null, .int 0, .null, .int 0])), (q17, .inl (Ca 1, (8, .inl (fun _ => 0))))]) (rest := [.ref q23, .ref h0]) (As := []) (n := 0) hx hb hml hown hts hT (c_X2 l D Ca q23 _ ) 49 3 48 1 rfl rfl rfl rfl rfl rfl rfl ⟨by decide +kernel, by decide +kernel, by decide +kernel⟩ ⟨Nat.le_of_ble_eq_true rfl, Nat.le_of_ble_eq_true rfl⟩ rfl hl.1 hK hP hD hS hA rfl (Nat.le_of_ble_eq_true rfl) dX3_init_27 ⟨Nat.le_of_ble_eq_true rfl, Nat.le_of_ble_eq_true rfl⟩ (fun u27 H locs hg27 hP hD hS => ?_)
  have hP : va_P D vwCl ([(h0, .inr (2, [.long 0, .int 0, .ref q17, .null, .int 0, .null, .int 0])), (q17, .inl (Ca 1, (8, .inl (fun _ => 0)))), (q23, .inr (1, [.ref u27])), (u27, .inl (Ca 1, (64, .inl (fun _ => 0))))]) H := hP
  have hD : va_D A ([(h0, .inr (2, [.long 0, .int 0, .ref q17, .null, .int 0, .null, .int 0])), (q17, .inl (Ca 1, (8, .inl (fun _ => 0)))), (q23, .inr (1, [.ref u27])), (u27, .inl (Ca 1, (64, .inl (fun _ => 0))))]) := hD
  refine va_putF (D := D) (ci := 2) (v := .ref q23) (ty := (.object "NextToItsDebtor$Debts")) (C := RX3) (T := TX3) (N := 7) hx hb hts (kb_u 1 (by decide)) tyX3 tyX3_ok nmX3 hown hK.1 hP hD hS 0 rfl rfl 3 (by decide) (kb_h hts 81 rfl) (fun _ h9 => h9) rfl hin rfl (by decide +kernel) rfl rfl (Nat.le_of_ble_eq_true rfl) dX3_init_30 (fun H locs hP hD hS => ?_)
  have hP : va_P D vwCl ([(h0, .inr (2, [.long 0, .int 0, .ref q17, .ref q23, .int 0, .null, .int 0])), (q17, .inl (Ca 1, (8, .inl (fun _ => 0)))), (q23, .inr (1, [.ref u27])), (u27, .inl (Ca 1, (64, .inl (fun _ => 0))))]) H := hP
  have hD : va_D A ([(h0, .inr (2, [.long 0, .int 0, .ref q17, .ref q23, .int 0, .null, .int 0])), (q17, .inl (Ca 1, (8, .inl (fun _ => 0)))), (q23, .inr (1, [.ref u27])), (u27, .inl (Ca 1, (64, .inl (fun _ => 0))))]) := hD
  refine lv_aload_n hx hb dX3_init_33 rfl (lv_at hl 0 rfl) ?_
  refine lv_iconst (v := 0) hx hb dX3_init_34 (by decide) ?_
  refine va_put (D := D) (ci := 2) (v := .int 0) (ty := .int) (C := RX3) (T := TX3) (N := 7) hx hb hts (kb_u 1 (by decide)) tyX3 tyX3_ok nmX3 hown hK.1 hP hD hS 0 rfl rfl 4 (by decide) (kb_h hts 82 rfl) (fun _ h9 => h9) rfl (by decide +kernel) rfl rfl (Nat.le_of_ble_eq_true rfl) dX3_init_35 (fun H locs hP hD hS => ?_)
  have hP : va_P D vwCl ([(h0, .inr (2, [.long 0, .int 0, .ref q17, .ref q23, .int 0, .null, .int 0])), (q17, .inl (Ca 1, (8, .inl (fun _ => 0)))), (q23, .inr (1, [.ref u27])), (u27, .inl (Ca 1, (64, .inl (fun _ => 0))))]) H := hP
  have hD : va_D A ([(h0, .inr (2, [.long 0, .int 0, .ref q17, .ref q23, .int 0, .null, .int 0])), (q17, .inl (Ca 1, (8, .inl (fun _ => 0)))), (q23, .inr (1, [.ref u27])), (u27, .inl (Ca 1, (64, .inl (fun _ => 0))))]) := hD
  refine lv_aload_n hx hb dX3_init_38 rfl (lv_at hl 0 rfl) ?_
  refine lv_bipush (v := 16) hx hb dX3_init_39 (by decide) ?_
  refine kb_newq (C := RX6) (j := 3) (t := 4) (N' := 16) hx hb hown (kb_h hts 20 rfl) hK.2.1 rfl hK hP hD hS hA (by decide) (by decide) (by decide) (Nat.le_of_ble_eq_true rfl) (Nat.le_of_ble_eq_true rfl) dX3_init_41 (fun q41 H hP hD hS => ?_)
  have hP : va_P D vwCl ([(h0, .inr (2, [.long 0, .int 0, .ref q17, .ref q23, .int 0, .null, .int 0])), (q17, .inl (Ca 1, (8, .inl (fun _ => 0)))), (q23, .inr (1, [.ref u27])), (u27, .inl (Ca 1, (64, .inl (fun _ => 0)))), (q41, .inl (Ca 4, (16, .inr (.inr (.inr (.inr (fun _ => none)))))))]) H := hP
  have hD : va_D A ([(h0, .inr (2, [.long 0, .int 0, .ref q17, .ref q23, .int 0, .null, .int 0])), (q17, .inl (Ca 1, (8, .inl (fun _ => 0)))), (q23, .inr (1, [.ref u27])), (u27, .inl (Ca 1, (64, .inl (fun _ => 0)))), (q41, .inl (Ca 4, (16, .inr (.inr (.inr (.inr (fun _ => none)))))))]) := hD
  refine va_putF (D := D) (ci := 2) (v := .ref q41) (ty := (.array (.object "NextToItsDebtor$Seed"))) (C := RX3) (T := TX3) (N := 7) hx hb hts (kb_u 1 (by decide)) tyX3 tyX3_ok nmX3 hown hK.1 hP hD hS 0 rfl rfl 5 (by decide) (kb_h hts 83 rfl) (fun _ h9 => h9) rfl hin rfl (by decide +kernel) rfl rfl (Nat.le_of_ble_eq_true rfl) dX3_init_44 (fun H locs hP hD hS => ?_)
  have hP : va_P D vwCl ([(h0, .inr (2, [.long 0, .int 0, .ref q17, .ref q23, .int 0, .ref q41, .int 0])), (q17, .inl (Ca 1, (8, .inl (fun _ => 0)))), (q23, .inr (1, [.ref u27])), (u27, .inl (Ca 1, (64, .inl (fun _ => 0)))), (q41, .inl (Ca 4, (16, .inr (.inr (.inr (.inr (fun _ => none)))))))]) H := hP
  have hD : va_D A ([(h0, .inr (2, [.long 0, .int 0, .ref q17, .ref q23, .int 0, .ref q41, .int 0])), (q17, .inl (Ca 1, (8, .inl (fun _ => 0)))), (q23, .inr (1, [.ref u27])), (u27, .inl (Ca 1, (64, .inl (fun _ => 0)))), (q41, .inl (Ca 4, (16, .inr (.inr (.inr (.inr (fun _ => none)))))))]) := hD
  refine lv_aload_n hx hb dX3_init_47 rfl (lv_at hl 0 rfl) ?_
  refine lv_iconst (v := 1) hx hb dX3_init_48 (by decide) ?_
  refine va_put (D := D) (ci := 2) (v := .int 1) (ty := .int) (C := RX3) (T := TX3) (N := 7) hx hb hts (kb_u 1 (by decide)) tyX3 tyX3_ok nmX3 hown hK.1 hP hD hS 0 rfl rfl 6 (by decide) (kb_h hts 84 rfl) (fun _ h9 => h9) rfl (by decide +kernel) rfl rfl (Nat.le_of_ble_eq_true rfl) dX3_init_49 (fun H locs hP hD hS => ?_)
  have hP : va_P D vwCl ([(h0, .inr (2, [.long 0, .int 0, .ref q17, .ref q23, .int 0, .ref q41, .int 1])), (q17, .inl (Ca 1, (8, .inl (fun _ => 0)))), (q23, .inr (1, [.ref u27])), (u27, .inl (Ca 1, (64, .inl (fun _ => 0)))), (q41, .inl (Ca 4, (16, .inr (.inr (.inr (.inr (fun _ => none)))))))]) H := hP
  have hD : va_D A ([(h0, .inr (2, [.long 0, .int 0, .ref q17, .ref q23, .int 0, .ref q41, .int 1])), (q17, .inl (Ca 1, (8, .inl (fun _ => 0)))), (q23, .inr (1, [.ref u27])), (u27, .inl (Ca 1, (64, .inl (fun _ => 0)))), (q41, .inl (Ca 4, (16, .inr (.inr (.inr (.inr (fun _ => none)))))))]) := hD
  refine lv_iconst (v := 0) hx hb dX3_init_52 (by decide) ?_
  refine lv_istore_n (lv' := [(1, .int 0), (0, .ref h0)]) hx hb dX3_init_53 rfl hl (by decide) rfl (fun ls hl => ?_)
  have hP : va_P D vwCl ([(h0, .inr (2, [.long 0, .int 0, .ref q17, .ref q23, .int 0, .ref q41, .int 1])), (q17, .inl (Ca 1, (8, .inl (fun _ => 0)))), (q23, .inr (1, [.ref u27])), (u27, .inl (Ca 1, (64, .inl (fun _ => 0)))), (q41, .inl (Ca 4, (16, .inr (.inr (.inr (.inr (fun j => ([] : List Nat)[j]?)))))))] ++ ([] : List Nat).map (fun a => (a, (.inr (5, [.int 0, .int 0, .int 0, .int 0]) : va_E)))) H := by rw [List.map_nil, List.append_nil]; exact hP
  have hD : va_D A ([(h0, .inr (2, [.long 0, .int 0, .ref q17, .ref q23, .int 0, .ref q41, .int 1])), (q17, .inl (Ca 1, (8, .inl (fun _ => 0)))), (q23, .inr (1, [.ref u27])), (u27, .inl (Ca 1, (64, .inl (fun _ => 0)))), (q41, .inl (Ca 4, (16, .inr (.inr (.inr (.inr (fun j => ([] : List Nat)[j]?)))))))] ++ ([] : List Nat).map (fun a => (a, (.inr (5, [.int 0, .int 0, .int 0, .int 0]) : va_E)))) := by rw [List.map_nil, List.append_nil]; exact hD
  refine lp_X3 hx hb hml hown hts hK hA (Nat.le_of_ble_eq_true rfl) (Nat.le_of_ble_eq_true rfl) ⟨Nat.le_of_ble_eq_true rfl, Nat.le_of_ble_eq_true rfl⟩ (fun L H locs ls hL hP hD hS => ?_) 16 [] H locs ls rfl hP hD hS hl
  exact W.vret hx hb hr (fun t ht hW => ⟨⟨((q17, q23, q41, u27), L), rfl, hL, by rw [ht]; exact hP, hD⟩, hS.F ht⟩) hS.2.2 dX3_init_79
