theorem eJ0_coder_7d493_0 : decode cJ0_coder_7d493 0 = .ok (.getstatic 38, 3) := by decide +kernel
theorem eJ0_coder_7d493_3 : decode cJ0_coder_7d493 3 = .ok (.ifCond .eq 10, 3) := by decide +kernel
theorem eJ0_coder_7d493_6 : decode cJ0_coder_7d493 6 = .ok (.aload_n 0, 1) := by decide +kernel
theorem eJ0_coder_7d493_7 : decode cJ0_coder_7d493 7 = .ok (.getfield 15, 3) := by decide +kernel
theorem eJ0_coder_7d493_10 : decode cJ0_coder_7d493 10 = .ok (.goto 4, 3) := by decide +kernel
theorem eJ0_coder_7d493_13 : decode cJ0_coder_7d493 13 = .ok (.iconst 1, 1) := by decide +kernel
theorem eJ0_coder_7d493_14 : decode cJ0_coder_7d493 14 = .ok (.ireturn, 1) := by decide +kernel
theorem eJ0_isLatin1_aae02_0 : decode cJ0_isLatin1_aae02 0 = .ok (.getstatic 38, 3) := by decide +kernel
theorem eJ0_isLatin1_aae02_3 : decode cJ0_isLatin1_aae02 3 = .ok (.ifCond .eq 14, 3) := by decide +kernel
theorem eJ0_isLatin1_aae02_6 : decode cJ0_isLatin1_aae02 6 = .ok (.aload_n 0, 1) := by decide +kernel
theorem eJ0_isLatin1_aae02_7 : decode cJ0_isLatin1_aae02 7 = .ok (.getfield 15, 3) := by decide +kernel
theorem eJ0_isLatin1_aae02_10 : decode cJ0_isLatin1_aae02 10 = .ok (.ifCond .ne 7, 3) := by decide +kernel
theorem eJ0_isLatin1_aae02_13 : decode cJ0_isLatin1_aae02 13 = .ok (.iconst 1, 1) := by decide +kernel
theorem eJ0_isLatin1_aae02_14 : decode cJ0_isLatin1_aae02 14 = .ok (.goto 4, 3) := by decide +kernel
theorem eJ0_isLatin1_aae02_17 : decode cJ0_isLatin1_aae02 17 = .ok (.iconst 0, 1) := by decide +kernel
theorem eJ0_isLatin1_aae02_18 : decode cJ0_isLatin1_aae02 18 = .ok (.ireturn, 1) := by decide +kernel
theorem eJ0_length_8abf5_0 : decode cJ0_length_8abf5 0 = .ok (.aload_n 0, 1) := by decide +kernel
theorem eJ0_length_8abf5_1 : decode cJ0_length_8abf5 1 = .ok (.getfield 9, 3) := by decide +kernel
theorem eJ0_length_8abf5_4 : decode cJ0_length_8abf5 4 = .ok (.arraylength, 1) := by decide +kernel
theorem eJ0_length_8abf5_5 : decode cJ0_length_8abf5 5 = .ok (.aload_n 0, 1) := by decide +kernel
theorem eJ0_length_8abf5_6 : decode cJ0_length_8abf5 6 = .ok (.invokevirtual 335, 3) := by decide +kernel
theorem eJ0_length_8abf5_9 : decode cJ0_length_8abf5 9 = .ok (.ishr, 1) := by decide +kernel
theorem eJ0_length_8abf5_10 : decode cJ0_length_8abf5 10 = .ok (.ireturn, 1) := by decide +kernel
theorem eJ0_charAt_5068e_0 : decode cJ0_charAt_5068e 0 = .ok (.aload_n 0, 1) := by decide +kernel
theorem eJ0_charAt_5068e_1 : decode cJ0_charAt_5068e 1 = .ok (.invokevirtual 492, 3) := by decide +kernel
theorem eJ0_charAt_5068e_4 : decode cJ0_charAt_5068e 4 = .ok (.ifCond .eq 12, 3) := by decide +kernel
theorem eJ0_charAt_5068e_7 : decode cJ0_charAt_5068e 7 = .ok (.aload_n 0, 1) := by decide +kernel
theorem eJ0_charAt_5068e_8 : decode cJ0_charAt_5068e 8 = .ok (.getfield 9, 3) := by decide +kernel
theorem eJ0_charAt_5068e_11 : decode cJ0_charAt_5068e 11 = .ok (.iload_n 1, 1) := by decide +kernel
theorem eJ0_charAt_5068e_12 : decode cJ0_charAt_5068e 12 = .ok (.invokestatic 495, 3) := by decide +kernel
theorem eJ0_charAt_5068e_15 : decode cJ0_charAt_5068e 15 = .ok (.ireturn, 1) := by decide +kernel
theorem eJ0_charAt_5068e_16 : decode cJ0_charAt_5068e 16 = .ok (.aload_n 0, 1) := by decide +kernel
theorem eJ0_charAt_5068e_17 : decode cJ0_charAt_5068e 17 = .ok (.getfield 9, 3) := by decide +kernel
theorem eJ0_charAt_5068e_20 : decode cJ0_charAt_5068e 20 = .ok (.iload_n 1, 1) := by decide +kernel
theorem eJ0_charAt_5068e_21 : decode cJ0_charAt_5068e 21 = .ok (.invokestatic 498, 3) := by decide +kernel
theorem eJ0_charAt_5068e_24 : decode cJ0_charAt_5068e 24 = .ok (.ireturn, 1) := by decide +kernel
theorem eJ0_checkIndex_df160_0 : decode cJ0_checkIndex_df160 0 = .ok (.iload_n 0, 1) := by decide +kernel
theorem eJ0_checkIndex_df160_1 : decode cJ0_checkIndex_df160 1 = .ok (.iload_n 1, 1) := by decide +kernel
theorem eJ0_checkIndex_df160_2 : decode cJ0_checkIndex_df160 2 = .ok (.getstatic 1053, 3) := by decide +kernel
theorem eJ0_checkIndex_df160_5 : decode cJ0_checkIndex_df160 5 = .ok (.invokestatic 1059, 3) := by decide +kernel
theorem eJ0_checkIndex_df160_8 : decode cJ0_checkIndex_df160 8 = .ok (.pop, 1) := by decide +kernel
theorem eJ0_checkIndex_df160_9 : decode cJ0_checkIndex_df160 9 = .ok (.return_, 1) := by decide +kernel
theorem eJ1_charAt_3b067_0 : decode cJ1_charAt_3b067 0 = .ok (.iload_n 1, 1) := by decide +kernel
theorem eJ1_charAt_3b067_1 : decode cJ1_charAt_3b067 1 = .ok (.aload_n 0, 1) := by decide +kernel
theorem eJ1_charAt_3b067_2 : decode cJ1_charAt_3b067 2 = .ok (.arraylength, 1) := by decide +kernel
theorem eJ1_charAt_3b067_3 : decode cJ1_charAt_3b067 3 = .ok (.invokestatic 9, 3) := by decide +kernel
theorem eJ1_charAt_3b067_6 : decode cJ1_charAt_3b067 6 = .ok (.aload_n 0, 1) := by decide +kernel
theorem eJ1_charAt_3b067_7 : decode cJ1_charAt_3b067 7 = .ok (.iload_n 1, 1) := by decide +kernel
theorem eJ1_charAt_3b067_8 : decode cJ1_charAt_3b067 8 = .ok (.baload, 1) := by decide +kernel
theorem eJ1_charAt_3b067_9 : decode cJ1_charAt_3b067 9 = .ok (.sipush 255, 3) := by decide +kernel
theorem eJ1_charAt_3b067_12 : decode cJ1_charAt_3b067 12 = .ok (.iand, 1) := by decide +kernel
theorem eJ1_charAt_3b067_13 : decode cJ1_charAt_3b067 13 = .ok (.i2c, 1) := by decide +kernel
theorem eJ1_charAt_3b067_14 : decode cJ1_charAt_3b067 14 = .ok (.ireturn, 1) := by decide +kernel
theorem eJ3_checkIndex_8e157_0 : decode cJ3_checkIndex_8e157 0 = .ok (.iload_n 0, 1) := by decide +kernel
theorem eJ3_checkIndex_8e157_1 : decode cJ3_checkIndex_8e157 1 = .ok (.ifCond .lt 8, 3) := by decide +kernel
theorem eJ3_checkIndex_8e157_4 : decode cJ3_checkIndex_8e157 4 = .ok (.iload_n 0, 1) := by decide +kernel
theorem eJ3_checkIndex_8e157_5 : decode cJ3_checkIndex_8e157 5 = .ok (.iload_n 1, 1) := by decide +kernel
theorem eJ3_checkIndex_8e157_6 : decode cJ3_checkIndex_8e157 6 = .ok (.if_icmp .lt 10, 3) := by decide +kernel
theorem eJ3_checkIndex_8e157_9 : decode cJ3_checkIndex_8e157 9 = .ok (.aload_n 2, 1) := by decide +kernel
theorem eJ3_checkIndex_8e157_10 : decode cJ3_checkIndex_8e157 10 = .ok (.iload_n 0, 1) := by decide +kernel
theorem eJ3_checkIndex_8e157_11 : decode cJ3_checkIndex_8e157 11 = .ok (.iload_n 1, 1) := by decide +kernel
theorem eJ3_checkIndex_8e157_12 : decode cJ3_checkIndex_8e157 12 = .ok (.invokestatic 95, 3) := by decide +kernel
theorem eJ3_checkIndex_8e157_15 : decode cJ3_checkIndex_8e157 15 = .ok (.athrow, 1) := by decide +kernel
theorem eJ3_checkIndex_8e157_16 : decode cJ3_checkIndex_8e157 16 = .ok (.iload_n 0, 1) := by decide +kernel
theorem eJ3_checkIndex_8e157_17 : decode cJ3_checkIndex_8e157 17 = .ok (.ireturn, 1) := by decide +kernel
def sx_Pc (D : va_G) (Ca : Nat → ClassId) (ad : Nat → Nat → Nat) (adV : Nat → Nat) (vs : List Value) (m : ax_M) : Array Value → State → Prop := va_Pc vs (fun U => va_P D vwCl (ax_ws Ca ad m) U.heap ∧ ax_St D Ca ad adV U)
section SX
variable {l : Launch} {D : va_G} {Ca : Nat → ClassId} {ad : Nat → Nat → Nat} {adV : Nat → Nat}
theorem sx_blind {vs : List Value} {m : ax_M} : FrameBlind (sx_Pc D Ca ad adV vs m) := fun v U g mk q => ⟨q.1, q.2.1, ax_St.go (U := U) (U2 := U.calling g mk v) (State.WarmedH.refl U) (fun _ _ _ => rfl) q.2.2⟩
theorem sx_pre {vs : List Value} {m : ax_M} {s : State} {H : Heap} {locs : List Loc} (hP : va_P D vwCl (ax_ws Ca ad m) H) (hS : va_S (ax_A ad) s.heap H locs) (hSt : ax_St D Ca ad adV s) : PreS s H (sx_Pc D Ca ad adV vs m) vs := ⟨sx_blind, fun U hU hW => ⟨rfl, by rw [hU]; exact hP, ax_St.go hW (fun q h1 h2 => by rw [hU]; exact hS.2.1 q h1 h2) hSt⟩⟩
theorem sx_gV {Ts : List Cond} {own : String} {idx maxL : Nat} {y : MethodName} {bytes : ByteArray} {ret : Option FieldType} (hTs : ∀ w ∈ ax_W, w ∈ Ts) (h1 : Cond.methodLink own idx y ∈ ax_W7) (h2 : Cond.instanceMethod y ∈ ax_W7) (h3 : Cond.selects y.cls y y ∈ ax_W7) (h4 : Cond.initialized y.cls ∈ ax_W7) (h5 : Cond.code y bytes maxL ret ∈ ax_WD) : GoodIn Ts (wsV own idx y.cls y (.code y bytes maxL ret :: ax_W)) := ax_gi hTs _ (fun w hw => by
  unfold wsV at hw
  rcases List.mem_append.mp hw with hw | hw
  · simp only [List.mem_cons, List.not_mem_nil, or_false] at hw
    rcases hw with rfl | rfl | rfl | rfl
    · exact ax_in7 h1
    · exact ax_in7 h2
    · exact ax_in7 h3
    · exact ax_in7 h4
  · rcases List.mem_cons.mp hw with e | e
    · rw [e]; exact ax_inD h5
    · exact e)
theorem sx_gS {Ts : List Cond} {own : String} {idx maxL : Nat} {y : MethodName} {bytes : ByteArray} {ret : Option FieldType} (hTs : ∀ w ∈ ax_W, w ∈ Ts) (h1 : Cond.methodLink own idx y ∈ ax_W7) (h2 : Cond.static y ∈ ax_W7) (h4 : Cond.initialized y.cls ∈ ax_W7) (h5 : Cond.code y bytes maxL ret ∈ ax_WD) : GoodIn Ts (va_wsS own idx y (.code y bytes maxL ret :: ax_W)) := ax_gi hTs _ (fun w hw => by
  unfold va_wsS at hw
  rcases List.mem_append.mp hw with hw | hw
  · simp only [List.mem_cons, List.not_mem_nil, or_false] at hw
    rcases hw with rfl | rfl | rfl
    · exact ax_in7 h1
    · exact ax_in7 h2
    · exact ax_in7 h4
  · rcases List.mem_cons.mp hw with e | e
    · rw [e]; exact ax_inD h5
    · exact e)
theorem sx_coder {i : Nat} (hi : i < 6) (mm : ax_M) : Met l yJ0_coder_7d493 (.code yJ0_coder_7d493 cJ0_coder_7d493 1 (some .byte) :: ax_W) (ax_rm 1) (sx_Pc D Ca ad adV [.ref (ad 42 i)] mm) (ax_Qc D Ca ad (some (.inl 0), mm)) 0 0 (ax_A ad) := by
  refine Met.ofW (cc := cJ0_coder_7d493) (maxL := 1) (ret := (some .byte)) (ws' := ax_W) (by decide) rfl ?_
  intro p e s m args below meth c s₁ B hml hv
  obtain ⟨rfl, hP, hSt⟩ := hv
  have hx := B.exec
  have hb := B.bytes
  have hr := B.returns
  have hlocks := B.notSynchronized
  have hts := atoms_spec (ws := (.code yJ0_coder_7d493 cJ0_coder_7d493 1 (some .byte) :: ax_W)) B.pre
  have hTs : ∀ w ∈ ax_W, w ∈ (.code yJ0_coder_7d493 cJ0_coder_7d493 1 (some .byte) :: ax_W) := fun w hw => List.mem_cons_of_mem _ hw
  have hown : s.vm.findClass "java/lang/String" = some m.cls := findClass_of_methodNamed B.named
  have hS : va_S (ax_A ad) s.heap s.heap [] := va_S.rf
  obtain ⟨-, -, -, -, hE, hZ, hY⟩ := id hSt
  have hl := lv_entry ([.ref (ad 42 i)]) (n := 1) (Nat.le_of_ble_eq_true rfl)
  rw [lg_entry_eq]
  generalize (lg_sl ([.ref (ad 42 i)]) ++ List.replicate (1 - (lg_sl ([.ref (ad 42 i)])).length) Slot.unset).toArray = ls at hl ⊢
  have hl : lv_has ls 1 [(0, .ref (ad 42 i))] := hl
  refine va_gets hx hb hZ hS hown (hts _ (hTs _ (ax_in7 (w := .fieldLink "java/lang/String" 38 "java/lang/String" "COMPACT_STRINGS" "Z") (by decide +kernel)))) (fun _ h => h) eJ0_coder_7d493_0 ?_
  refine lv_if_eq (tgt := 13) hx hb eJ0_coder_7d493_3 (by decide) (fun h => absurd h (by decide)) (fun _ => ?_)
  refine lv_aload_n hx hb eJ0_coder_7d493_6 rfl (lv_at hl 0 rfl) ?_
  refine vk_getf hx hb (hE.1 i hi).2.1 hS hown (hts _ (hTs _ (ax_in7 (w := .fieldLink "java/lang/String" 15 "java/lang/String" "coder" "B") (by decide +kernel)))) (fun _ h => h) eJ0_coder_7d493_7 ?_
  refine lv_goto (tgt := 14) hx hb eJ0_coder_7d493_10 (by decide) ?_
  exact W.zret hx hb hr rfl (fun t ht hW => ⟨rfl, by rw [ht]; exact hP, hS.F ht⟩) hS.2.2 eJ0_coder_7d493_14
theorem sx_latin {i : Nat} (hi : i < 6) (mm : ax_M) : Met l yJ0_isLatin1_aae02 (.code yJ0_isLatin1_aae02 cJ0_isLatin1_aae02 1 (some .boolean) :: ax_W) (ax_rm 1) (sx_Pc D Ca ad adV [.ref (ad 42 i)] mm) (ax_Qc D Ca ad (some (.inl 1), mm)) 0 0 (ax_A ad) := by
  refine Met.ofW (cc := cJ0_isLatin1_aae02) (maxL := 1) (ret := (some .boolean)) (ws' := ax_W) (by decide) rfl ?_
  intro p e s m args below meth c s₁ B hml hv
  obtain ⟨rfl, hP, hSt⟩ := hv
  have hx := B.exec
  have hb := B.bytes
  have hr := B.returns
  have hlocks := B.notSynchronized
  have hts := atoms_spec (ws := (.code yJ0_isLatin1_aae02 cJ0_isLatin1_aae02 1 (some .boolean) :: ax_W)) B.pre
  have hTs : ∀ w ∈ ax_W, w ∈ (.code yJ0_isLatin1_aae02 cJ0_isLatin1_aae02 1 (some .boolean) :: ax_W) := fun w hw => List.mem_cons_of_mem _ hw
  have hown : s.vm.findClass "java/lang/String" = some m.cls := findClass_of_methodNamed B.named
  have hS : va_S (ax_A ad) s.heap s.heap [] := va_S.rf
  obtain ⟨-, -, -, -, hE, hZ, hY⟩ := id hSt
  have hl := lv_entry ([.ref (ad 42 i)]) (n := 1) (Nat.le_of_ble_eq_true rfl)
  rw [lg_entry_eq]
  generalize (lg_sl ([.ref (ad 42 i)]) ++ List.replicate (1 - (lg_sl ([.ref (ad 42 i)])).length) Slot.unset).toArray = ls at hl ⊢
  have hl : lv_has ls 1 [(0, .ref (ad 42 i))] := hl
  refine va_gets hx hb hZ hS hown (hts _ (hTs _ (ax_in7 (w := .fieldLink "java/lang/String" 38 "java/lang/String" "COMPACT_STRINGS" "Z") (by decide +kernel)))) (fun _ h => h) eJ0_isLatin1_aae02_0 ?_
  refine lv_if_eq (tgt := 17) hx hb eJ0_isLatin1_aae02_3 (by decide) (fun h => absurd h (by decide)) (fun _ => ?_)
  refine lv_aload_n hx hb eJ0_isLatin1_aae02_6 rfl (lv_at hl 0 rfl) ?_
  refine vk_getf hx hb (hE.1 i hi).2.1 hS hown (hts _ (hTs _ (ax_in7 (w := .fieldLink "java/lang/String" 15 "java/lang/String" "coder" "B") (by decide +kernel)))) (fun _ h => h) eJ0_isLatin1_aae02_7 ?_
  refine lv_if_ne (tgt := 17) hx hb eJ0_isLatin1_aae02_10 (by decide) (fun h => absurd rfl h) (fun _ => ?_)
  refine lv_iconst (v := 1) hx hb eJ0_isLatin1_aae02_13 (by decide) ?_
  refine lv_goto (tgt := 18) hx hb eJ0_isLatin1_aae02_14 (by decide) ?_
  exact W.zret hx hb hr rfl (fun t ht hW => ⟨rfl, by rw [ht]; exact hP, hS.F ht⟩) hS.2.2 eJ0_isLatin1_aae02_18
theorem sx_len : ∀ i, i < 6 → Int32.ofNat (ax_lens.getD i 0) = Int32.ofNat (ax_word i).length := by decide +kernel
theorem sx_sh : ∀ i, i < 6 → Int32.ofNat (ax_word i).length >>> ((0 : Int32) &&& 31) = Int32.ofNat (ax_word i).length := by decide +kernel
theorem sx_len2 : ∀ i, i < 6 → ax_lens.getD i 0 = (ax_word i).length := by decide +kernel
theorem sx_chr : ∀ i, i < 6 → ∀ k, k < 6 → ((((ax_lit.getD i []).getD k 0) &&& 255).toUInt32 % 65536).toInt32 = ax_chr i k ∧ ((ax_chr i k).toUInt32 % 65536).toInt32 = ax_chr i k := by decide +kernel
theorem sx_l6 : ∀ i, i < 6 → (ax_word i).length ≤ 6 := by decide +kernel
theorem sx_length {i : Nat} (hi : i < 6) (mm : ax_M) : Met l yJ0_length_8abf5 (.code yJ0_length_8abf5 cJ0_length_8abf5 1 (some .int) :: ax_W) (ax_rm 5) (sx_Pc D Ca ad adV [.ref (ad 42 i)] mm) (ax_Qc D Ca ad (some (.inl (Int32.ofNat (ax_word i).length)), mm)) 0 0 (ax_A ad) := by
  refine Met.ofW (cc := cJ0_length_8abf5) (maxL := 1) (ret := (some .int)) (ws' := ax_W) (by decide) rfl ?_
  intro p e s m args below meth c s₁ B hml hv
  obtain ⟨rfl, hP, hSt⟩ := hv
  have hx := B.exec
  have hb := B.bytes
  have hr := B.returns
  have hlocks := B.notSynchronized
  have hts := atoms_spec (ws := (.code yJ0_length_8abf5 cJ0_length_8abf5 1 (some .int) :: ax_W)) B.pre
  have hTs : ∀ w ∈ ax_W, w ∈ (.code yJ0_length_8abf5 cJ0_length_8abf5 1 (some .int) :: ax_W) := fun w hw => List.mem_cons_of_mem _ hw
  have hown : s.vm.findClass "java/lang/String" = some m.cls := findClass_of_methodNamed B.named
  have hS : va_S (ax_A ad) s.heap s.heap [] := va_S.rf
  obtain ⟨-, -, -, -, hE, hZ, hY⟩ := id hSt
  have hl := lv_entry ([.ref (ad 42 i)]) (n := 1) (Nat.le_of_ble_eq_true rfl)
  rw [lg_entry_eq]
  generalize (lg_sl ([.ref (ad 42 i)]) ++ List.replicate (1 - (lg_sl ([.ref (ad 42 i)])).length) Slot.unset).toArray = ls at hl ⊢
  have hl : lv_has ls 1 [(0, .ref (ad 42 i))] := hl
  refine lv_aload_n hx hb eJ0_length_8abf5_0 rfl (lv_at hl 0 rfl) ?_
  refine vk_getf hx hb (hE.1 i hi).2.2.1 hS hown (hts _ (hTs _ (ax_in7 (w := .fieldLink "java/lang/String" 9 "java/lang/String" "value" "[B") (by decide +kernel)))) (fun _ h => h) eJ0_length_8abf5_1 ?_
  refine va_tlen hx hb (hE.1 i hi).2.2.2 hS (v := Int32.ofNat (ax_word i).length) (sx_len i hi) eJ0_length_8abf5_4 ?_
  refine lv_aload_n hx hb eJ0_length_8abf5_5 rfl (lv_at hl 0 rfl) ?_
  refine ax_after (rest := [.inl (Int32.ofNat (ax_word i).length)]) (va_runV (As := []) (rest := [.inl (Int32.ofNat (ax_word i).length)].map (ax_v ad)) ⟨hx, hb, hml, hown, hts⟩ (sx_coder hi mm) (cwV 0 hts (sx_gV (own := "java/lang/String") hTs (by decide +kernel) (by decide +kernel) (by decide +kernel) (by decide +kernel) (List.mem_of_getElem? (i := 2) rfl)) rfl rfl rfl ⟨rfl, by decide +kernel, by decide +kernel, by decide +kernel⟩ ⟨Nat.le_of_ble_eq_true rfl, Nat.le_of_ble_eq_true rfl⟩) ⟨sx_blind, vk_recv hE hi hS, (sx_pre hP hS hSt).2⟩ rfl rfl hl.1 rfl (lv_room (Nat.le_of_ble_eq_true rfl)) eJ0_length_8abf5_6 ⟨Nat.le_refl 0, Nat.le_refl 0⟩) hS (fun H1 locs1 hP hS => ?_)
  refine W.eq (g2 := F0 m 9 ls [.int 0, .int (Int32.ofNat (ax_word i).length)]) rfl ?_
  refine lv_ishr hx hb eJ0_length_8abf5_9 ?_
  refine W.eq (g2 := F0 m 10 ls [.int (Int32.ofNat (ax_word i).length)]) (by rw [sx_sh i hi]) ?_
  exact W.iret hx hb hr (fun t ht hW => ⟨rfl, by rw [ht]; exact hP, hS.F ht⟩) hS.2.2 eJ0_length_8abf5_10
theorem sx_pci0 {j n : Int32} (h0 : ¬ j < 0) (h1 : j < n) (mm : ax_M) : Met l yJ3_checkIndex_8e157 (.code yJ3_checkIndex_8e157 cJ3_checkIndex_8e157 3 (some .int) :: ax_W) (ax_rm 2) (sx_Pc D Ca ad adV [.int j, .int n, .null] mm) (ax_Qc D Ca ad (some (.inl j), mm)) 0 0 (ax_A ad) := by
  refine Met.ofW (cc := cJ3_checkIndex_8e157) (maxL := 3) (ret := (some .int)) (ws' := ax_W) (by decide) rfl ?_
  intro p e s m args below meth c s₁ B hml hv
  obtain ⟨rfl, hP, hSt⟩ := hv
  have hx := B.exec
  have hb := B.bytes
  have hr := B.returns
  have hlocks := B.notSynchronized
  have hts := atoms_spec (ws := (.code yJ3_checkIndex_8e157 cJ3_checkIndex_8e157 3 (some .int) :: ax_W)) B.pre
  have hTs : ∀ w ∈ ax_W, w ∈ (.code yJ3_checkIndex_8e157 cJ3_checkIndex_8e157 3 (some .int) :: ax_W) := fun w hw => List.mem_cons_of_mem _ hw
  have hown : s.vm.findClass "jdk/internal/util/Preconditions" = some m.cls := findClass_of_methodNamed B.named
  have hS : va_S (ax_A ad) s.heap s.heap [] := va_S.rf
  obtain ⟨-, -, -, -, hE, hZ, hY⟩ := id hSt
  have hl := lv_entry ([.int j, .int n, .null]) (n := 3) (Nat.le_of_ble_eq_true rfl)
  rw [lg_entry_eq]
  generalize (lg_sl ([.int j, .int n, .null]) ++ List.replicate (3 - (lg_sl ([.int j, .int n, .null])).length) Slot.unset).toArray = ls at hl ⊢
  have hl : lv_has ls 3 [(0, .int j), (1, .int n), (2, .null)] := hl
  refine lv_iload_n hx hb eJ3_checkIndex_8e157_0 rfl (lv_at hl 0 rfl) ?_
  refine lv_if_lt (tgt := 9) hx hb eJ3_checkIndex_8e157_1 (by decide) (fun h => absurd h h0) (fun _ => ?_)
  refine lv_iload_n hx hb eJ3_checkIndex_8e157_4 rfl (lv_at hl 0 rfl) ?_
  refine lv_iload_n hx hb eJ3_checkIndex_8e157_5 rfl (lv_at hl 1 rfl) ?_
  refine lv_icmp_lt (tgt := 16) hx hb eJ3_checkIndex_8e157_6 (by decide) (fun _ => ?_) (fun h => absurd h1 h)
  refine lv_iload_n hx hb eJ3_checkIndex_8e157_16 rfl (lv_at hl 0 rfl) ?_
  exact W.iret hx hb hr (fun t ht hW => ⟨rfl, by rw [ht]; exact hP, hS.F ht⟩) hS.2.2 eJ3_checkIndex_8e157_17
theorem sx_pci1 {t0 : Nat} {j n : Int32} (h0 : ¬ j < 0) (h1 : j < n) (mm : ax_M) : Met l yJ3_checkIndex_8e157 (.code yJ3_checkIndex_8e157 cJ3_checkIndex_8e157 3 (some .int) :: ax_W) (ax_rm 2) (sx_Pc D Ca ad adV [.int j, .int n, .ref t0] mm) (ax_Qc D Ca ad (some (.inl j), mm)) 0 0 (ax_A ad) := by
  refine Met.ofW (cc := cJ3_checkIndex_8e157) (maxL := 3) (ret := (some .int)) (ws' := ax_W) (by decide) rfl ?_
  intro p e s m args below meth c s₁ B hml hv
  obtain ⟨rfl, hP, hSt⟩ := hv
  have hx := B.exec
  have hb := B.bytes
  have hr := B.returns
  have hlocks := B.notSynchronized
  have hts := atoms_spec (ws := (.code yJ3_checkIndex_8e157 cJ3_checkIndex_8e157 3 (some .int) :: ax_W)) B.pre
  have hTs : ∀ w ∈ ax_W, w ∈ (.code yJ3_checkIndex_8e157 cJ3_checkIndex_8e157 3 (some .int) :: ax_W) := fun w hw => List.mem_cons_of_mem _ hw
  have hown : s.vm.findClass "jdk/internal/util/Preconditions" = some m.cls := findClass_of_methodNamed B.named
  have hS : va_S (ax_A ad) s.heap s.heap [] := va_S.rf
  obtain ⟨-, -, -, -, hE, hZ, hY⟩ := id hSt
  have hl := lv_entry ([.int j, .int n, .ref t0]) (n := 3) (Nat.le_of_ble_eq_true rfl)
  rw [lg_entry_eq]
  generalize (lg_sl ([.int j, .int n, .ref t0]) ++ List.replicate (3 - (lg_sl ([.int j, .int n, .ref t0])).length) Slot.unset).toArray = ls at hl ⊢
  have hl : lv_has ls 3 [(0, .int j), (1, .int n), (2, .ref t0)] := hl
  refine lv_iload_n hx hb eJ3_checkIndex_8e157_0 rfl (lv_at hl 0 rfl) ?_
  refine lv_if_lt (tgt := 9) hx hb eJ3_checkIndex_8e157_1 (by decide) (fun h => absurd h h0) (fun _ => ?_)
  refine lv_iload_n hx hb eJ3_checkIndex_8e157_4 rfl (lv_at hl 0 rfl) ?_
  refine lv_iload_n hx hb eJ3_checkIndex_8e157_5 rfl (lv_at hl 1 rfl) ?_
  refine lv_icmp_lt (tgt := 16) hx hb eJ3_checkIndex_8e157_6 (by decide) (fun _ => ?_) (fun h => absurd h1 h)
  refine lv_iload_n hx hb eJ3_checkIndex_8e157_16 rfl (lv_at hl 0 rfl) ?_
  exact W.iret hx hb hr (fun t ht hW => ⟨rfl, by rw [ht]; exact hP, hS.F ht⟩) hS.2.2 eJ3_checkIndex_8e157_17
theorem sx_ci {j n : Int32} (h0 : ¬ j < 0) (h1 : j < n) (mm : ax_M) : Met l yJ0_checkIndex_df160 (.code yJ0_checkIndex_df160 cJ0_checkIndex_df160 2 none :: ax_W) (ax_rm 3) (sx_Pc D Ca ad adV [.int j, .int n] mm) (ax_Qc D Ca ad (none, mm)) 0 0 (ax_A ad) := by
  refine Met.ofW (cc := cJ0_checkIndex_df160) (maxL := 2) (ret := none) (ws' := ax_W) (by decide) rfl ?_
  intro p e s m args below meth c s₁ B hml hv
  obtain ⟨rfl, hP, hSt⟩ := hv
  have hx := B.exec
  have hb := B.bytes
  have hr := B.returns
  have hlocks := B.notSynchronized
  have hts := atoms_spec (ws := (.code yJ0_checkIndex_df160 cJ0_checkIndex_df160 2 none :: ax_W)) B.pre
  have hTs : ∀ w ∈ ax_W, w ∈ (.code yJ0_checkIndex_df160 cJ0_checkIndex_df160 2 none :: ax_W) := fun w hw => List.mem_cons_of_mem _ hw
  have hown : s.vm.findClass "java/lang/String" = some m.cls := findClass_of_methodNamed B.named
  have hS : va_S (ax_A ad) s.heap s.heap [] := va_S.rf
  obtain ⟨-, -, -, -, hE, hZ, hY⟩ := id hSt
  have hl := lv_entry ([.int j, .int n]) (n := 2) (Nat.le_of_ble_eq_true rfl)
  rw [lg_entry_eq]
  generalize (lg_sl ([.int j, .int n]) ++ List.replicate (2 - (lg_sl ([.int j, .int n])).length) Slot.unset).toArray = ls at hl ⊢
  have hl : lv_has ls 2 [(0, .int j), (1, .int n)] := hl
  have kk : ∀ (H : Heap) (locs : List Loc), va_P D vwCl (ax_ws Ca ad mm) H → va_S (ax_A ad) s.heap H locs → W p l e (ax_rm 3) s m [.int j, .int n].toArray below meth c H locs 0 0 (MQ below (ax_Qc D Ca ad (none, mm)) [.int j, .int n].toArray s 0 0 (ax_A ad)) (F0 m 8 ls [.int j]) := fun H locs hP hS => by
    refine lv_pop hx hb eJ0_checkIndex_df160_8 rfl ?_
    exact W.vret hx hb hr (fun t ht hW => ⟨rfl, by rw [ht]; exact hP, hS.F ht⟩) hS.2.2 eJ0_checkIndex_df160_9
  refine lv_iload_n hx hb eJ0_checkIndex_df160_0 rfl (lv_at hl 0 rfl) ?_
  refine lv_iload_n hx hb eJ0_checkIndex_df160_1 rfl (lv_at hl 1 rfl) ?_
  rcases hY with hY | ⟨t0, hY⟩
  · refine va_gets hx hb hY hS hown (hts _ (hTs _ (ax_in7 (w := .fieldLink "java/lang/String" 1053 "jdk/internal/util/Preconditions" "SIOOBE_FORMATTER" "Ljava/util/function/BiFunction;") (by decide +kernel)))) (fun _ h => h) eJ0_checkIndex_df160_2 ?_
    refine ax_after (rest := []) (va_runS (As := [.int j, .int n, .null]) (rest := [].map (ax_v ad)) ⟨hx, hb, hml, hown, hts⟩ (sx_pci0 h0 h1 mm) (va_cwS 3 hts (sx_gS (own := "java/lang/String") hTs (by decide +kernel) (by decide +kernel) (by decide +kernel) (List.mem_of_getElem? (i := 7) rfl)) rfl rfl rfl ⟨by decide +kernel, by decide +kernel, by decide +kernel⟩ ⟨Nat.le_of_ble_eq_true rfl, Nat.le_of_ble_eq_true rfl⟩) (sx_pre hP hS hSt) rfl rfl hl.1 rfl (lv_room (Nat.le_of_ble_eq_true rfl)) eJ0_checkIndex_df160_5 ⟨Nat.le_refl 0, Nat.le_refl 0⟩) hS (fun H1 locs1 hP hS => W.eq (g2 := F0 m 8 ls [.int j]) rfl ?_)
    exact kk _ _ hP hS
  · refine va_gets hx hb hY hS hown (hts _ (hTs _ (ax_in7 (w := .fieldLink "java/lang/String" 1053 "jdk/internal/util/Preconditions" "SIOOBE_FORMATTER" "Ljava/util/function/BiFunction;") (by decide +kernel)))) (fun _ h => h) eJ0_checkIndex_df160_2 ?_
    refine ax_after (rest := []) (va_runS (As := [.int j, .int n, .ref t0]) (rest := [].map (ax_v ad)) ⟨hx, hb, hml, hown, hts⟩ (sx_pci1 (t0 := t0) h0 h1 mm) (va_cwS 3 hts (sx_gS (own := "java/lang/String") hTs (by decide +kernel) (by decide +kernel) (by decide +kernel) (List.mem_of_getElem? (i := 7) rfl)) rfl rfl rfl ⟨by decide +kernel, by decide +kernel, by decide +kernel⟩ ⟨Nat.le_of_ble_eq_true rfl, Nat.le_of_ble_eq_true rfl⟩) (sx_pre hP hS hSt) rfl rfl hl.1 rfl (lv_room (Nat.le_of_ble_eq_true rfl)) eJ0_checkIndex_df160_5 ⟨Nat.le_refl 0, Nat.le_refl 0⟩) hS (fun H1 locs1 hP hS => W.eq (g2 := F0 m 8 ls [.int j]) rfl ?_)
    exact kk _ _ hP hS
theorem sx_l1c {i k : Nat} (hi : i < 6) (hk : k < (ax_word i).length) (mm : ax_M) : Met l yJ1_charAt_3b067 (.code yJ1_charAt_3b067 cJ1_charAt_3b067 2 (some .char) :: ax_W) (ax_rm 4) (sx_Pc D Ca ad adV [.ref (adV i), .int (nI k)] mm) (ax_Qc D Ca ad (some (.inl (ax_chr i k)), mm)) 0 0 (ax_A ad) := by
  refine Met.ofW (cc := cJ1_charAt_3b067) (maxL := 2) (ret := (some .char)) (ws' := ax_W) (by decide) rfl ?_
  intro p e s m args below meth c s₁ B hml hv
  obtain ⟨rfl, hP, hSt⟩ := hv
  have hx := B.exec
  have hb := B.bytes
  have hr := B.returns
  have hlocks := B.notSynchronized
  have hts := atoms_spec (ws := (.code yJ1_charAt_3b067 cJ1_charAt_3b067 2 (some .char) :: ax_W)) B.pre
  have hTs : ∀ w ∈ ax_W, w ∈ (.code yJ1_charAt_3b067 cJ1_charAt_3b067 2 (some .char) :: ax_W) := fun w hw => List.mem_cons_of_mem _ hw
  have hown : s.vm.findClass "java/lang/StringLatin1" = some m.cls := findClass_of_methodNamed B.named
  have hS : va_S (ax_A ad) s.heap s.heap [] := va_S.rf
  obtain ⟨-, -, -, -, hE, hZ, hY⟩ := id hSt
  have hl := lv_entry ([.ref (adV i), .int (nI k)]) (n := 2) (Nat.le_of_ble_eq_true rfl)
  rw [lg_entry_eq]
  generalize (lg_sl ([.ref (adV i), .int (nI k)]) ++ List.replicate (2 - (lg_sl ([.ref (adV i), .int (nI k)])).length) Slot.unset).toArray = ls at hl ⊢
  have hl : lv_has ls 2 [(0, .ref (adV i)), (1, .int (nI k))] := hl
  have h6 := sx_l6 i hi
  have hT := (hE.1 i hi).2.2.2
  rw [sx_len2 i hi] at hT
  obtain ⟨hc1, hc2⟩ := sx_chr i hi k (by omega)
  refine lv_iload_n hx hb eJ1_charAt_3b067_0 rfl (lv_at hl 1 rfl) ?_
  refine lv_aload_n hx hb eJ1_charAt_3b067_1 rfl (lv_at hl 0 rfl) ?_
  refine va_tlen hx hb hT hS (v := nI (ax_word i).length) rfl eJ1_charAt_3b067_2 ?_
  refine ax_after (rest := []) (va_runS (As := [.int (nI k), .int (nI (ax_word i).length)]) (rest := [].map (ax_v ad)) ⟨hx, hb, hml, hown, hts⟩ (sx_ci (nI_pos (show k < 2 ^ 31 by omega)) (nI_lt hk (by omega)) mm) (va_cwS 2 hts (sx_gS (own := "java/lang/StringLatin1") hTs (by decide +kernel) (by decide +kernel) (by decide +kernel) (List.mem_of_getElem? (i := 6) rfl)) rfl rfl rfl ⟨by decide +kernel, by decide +kernel, by decide +kernel⟩ ⟨Nat.le_of_ble_eq_true rfl, Nat.le_of_ble_eq_true rfl⟩) (sx_pre hP hS hSt) rfl rfl hl.1 rfl (lv_room (Nat.le_of_ble_eq_true rfl)) eJ1_charAt_3b067_3 ⟨Nat.le_refl 0, Nat.le_refl 0⟩) hS (fun H1 locs1 hP hS => W.eq (g2 := F0 m 6 ls []) rfl ?_)
  refine lv_aload_n hx hb eJ1_charAt_3b067_6 rfl (lv_at hl 0 rfl) ?_
  refine lv_iload_n hx hb eJ1_charAt_3b067_7 rfl (lv_at hl 1 rfl) ?_
  refine va_tb hx hb hT hS (vp_in_nI hk (by omega)) (v := .int ((ax_lit.getD i []).getD k 0)) (by rw [nI_clamp (show k < 2 ^ 31 by omega)]) eJ1_charAt_3b067_8 ?_
  refine lv_sipush (v := 255) hx hb eJ1_charAt_3b067_9 (by decide) ?_
  refine lv_iand hx hb eJ1_charAt_3b067_12 ?_
  refine lv_i2c (v := ax_chr i k) hx hb eJ1_charAt_3b067_13 hc1 ?_
  exact W.zret hx hb hr (show Value.int ((ax_chr i k).toUInt32 % 65536).toInt32 = .int (ax_chr i k) by rw [hc2]) (fun t ht hW => ⟨rfl, by rw [ht]; exact hP, hS.F ht⟩) hS.2.2 eJ1_charAt_3b067_14
theorem sx_charAt {i k : Nat} (hi : i < 6) (hk : k < (ax_word i).length) (mm : ax_M) : Met l yJ0_charAt_5068e (.code yJ0_charAt_5068e cJ0_charAt_5068e 2 (some .char) :: ax_W) (ax_rm 5) (sx_Pc D Ca ad adV [.ref (ad 42 i), .int (nI k)] mm) (ax_Qc D Ca ad (some (.inl (ax_chr i k)), mm)) 0 0 (ax_A ad) := by
  refine Met.ofW (cc := cJ0_charAt_5068e) (maxL := 2) (ret := (some .char)) (ws' := ax_W) (by decide) rfl ?_
  intro p e s m args below meth c s₁ B hml hv
  obtain ⟨rfl, hP, hSt⟩ := hv
  have hx := B.exec
  have hb := B.bytes
  have hr := B.returns
  have hlocks := B.notSynchronized
  have hts := atoms_spec (ws := (.code yJ0_charAt_5068e cJ0_charAt_5068e 2 (some .char) :: ax_W)) B.pre
  have hTs : ∀ w ∈ ax_W, w ∈ (.code yJ0_charAt_5068e cJ0_charAt_5068e 2 (some .char) :: ax_W) := fun w hw => List.mem_cons_of_mem _ hw
  have hown : s.vm.findClass "java/lang/String" = some m.cls := findClass_of_methodNamed B.named
  have hS : va_S (ax_A ad) s.heap s.heap [] := va_S.rf
  obtain ⟨-, -, -, -, hE, hZ, hY⟩ := id hSt
  have hl := lv_entry ([.ref (ad 42 i), .int (nI k)]) (n := 2) (Nat.le_of_ble_eq_true rfl)
  rw [lg_entry_eq]
  generalize (lg_sl ([.ref (ad 42 i), .int (nI k)]) ++ List.replicate (2 - (lg_sl ([.ref (ad 42 i), .int (nI k)])).length) Slot.unset).toArray = ls at hl ⊢
  have hl : lv_has ls 2 [(0, .ref (ad 42 i)), (1, .int (nI k))] := hl
  have h6 := sx_l6 i hi
  obtain ⟨hc1, hc2⟩ := sx_chr i hi k (by omega)
  refine lv_aload_n hx hb eJ0_charAt_5068e_0 rfl (lv_at hl 0 rfl) ?_
  refine ax_after (rest := []) (va_runV (As := []) (rest := [].map (ax_v ad)) ⟨hx, hb, hml, hown, hts⟩ (sx_latin hi mm) (cwV 0 hts (sx_gV (own := "java/lang/String") hTs (by decide +kernel) (by decide +kernel) (by decide +kernel) (by decide +kernel) (List.mem_of_getElem? (i := 4) rfl)) rfl rfl rfl ⟨rfl, by decide +kernel, by decide +kernel, by decide +kernel⟩ ⟨Nat.le_of_ble_eq_true rfl, Nat.le_of_ble_eq_true rfl⟩) ⟨sx_blind, vk_recv hE hi hS, (sx_pre hP hS hSt).2⟩ rfl rfl hl.1 rfl (lv_room (Nat.le_of_ble_eq_true rfl)) eJ0_charAt_5068e_1 ⟨Nat.le_refl 0, Nat.le_refl 0⟩) hS (fun H1 locs1 hP hS => ?_)
  refine W.eq (g2 := F0 m 4 ls [.int 1]) rfl ?_
  refine lv_if_eq (tgt := 16) hx hb eJ0_charAt_5068e_4 (by decide) (fun h => absurd h (by decide)) (fun _ => ?_)
  refine lv_aload_n hx hb eJ0_charAt_5068e_7 rfl (lv_at hl 0 rfl) ?_
  refine vk_getf hx hb (hE.1 i hi).2.2.1 hS hown (hts _ (hTs _ (ax_in7 (w := .fieldLink "java/lang/String" 9 "java/lang/String" "value" "[B") (by decide +kernel)))) (fun _ h => h) eJ0_charAt_5068e_8 ?_
  refine lv_iload_n hx hb eJ0_charAt_5068e_11 rfl (lv_at hl 1 rfl) ?_
  refine ax_after (rest := []) (va_runS (As := [.ref (adV i), .int (nI k)]) (rest := [].map (ax_v ad)) ⟨hx, hb, hml, hown, hts⟩ (sx_l1c hi hk mm) (va_cwS 2 hts (sx_gS (own := "java/lang/String") hTs (by decide +kernel) (by decide +kernel) (by decide +kernel) (List.mem_of_getElem? (i := 5) rfl)) rfl rfl rfl ⟨by decide +kernel, by decide +kernel, by decide +kernel⟩ ⟨Nat.le_of_ble_eq_true rfl, Nat.le_of_ble_eq_true rfl⟩) (sx_pre hP hS hSt) rfl rfl hl.1 rfl (lv_room (Nat.le_of_ble_eq_true rfl)) eJ0_charAt_5068e_12 ⟨Nat.le_refl 0, Nat.le_refl 0⟩) hS (fun H1 locs1 hP hS => W.eq (g2 := F0 m 15 ls [.int (ax_chr i k)]) rfl ?_)
  exact W.zret hx hb hr (show Value.int ((ax_chr i k).toUInt32 % 65536).toInt32 = .int (ax_chr i k) by rw [hc2]) (fun t ht hW => ⟨rfl, by rw [ht]; exact hP, hS.F ht⟩) hS.2.2 eJ0_charAt_5068e_15
theorem sx_ok : ax_StrOK l D Ca ad adV := by
  refine ⟨fun i mm hi => sx_length hi mm, fun i j mm hi hj => ?_⟩
  have h6 := sx_l6 i hi
  rcases zk_cs j (n := (ax_word i).length) (by omega) with e | ⟨k, hk, rfl⟩
  · rw [e] at hj; cases hj
  · rw [nI_clamp (show k < 2 ^ 31 by omega)]
    exact sx_charAt hi hk mm
end SX
