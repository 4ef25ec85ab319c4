set_option maxHeartbeats 4000000 in
set_option maxRecDepth 100000 in
theorem law_loop {p : Program} {l : Launch} {e : Env} {s : State} {m : MethodId} {below : List Frame} {meth : Method} {c : Code} {D : va_G} {Ca : Nat → ClassId} {ad : Nat → Nat → Nat} {adV : Nat → Nat} {b L : Nat} {xs : Nat → Int32} (C : lw_H p s m c b L xs D Ca ad adV) (hr : meth.sig.returnType = ret) (hlocks : meth.locks = false) : ∀ (n i : Nat) (mm : ax_M) (H : Heap) (ls : Array Slot), L < i + n → i ≤ L → lw_I s b D Ca ad mm i H ls → W p l e room_1 s m #[Value.ref b] below meth c H [] 600000 7302250 (lw_Z below #[Value.ref b] s) (F0 m 18 ls []) := by
  obtain ⟨hx, hb, hml, hown, hts, hSt, hinj, hX, hbl, hAs, hL⟩ := id C
  have hbA : ¬ ax_A ad b := fun h => Nat.not_le.mpr hbl (hAs b h)
  intro n
  induction n with
  | zero =>
    intro i mm H ls hn hi I
    omega
  | succ n ih =>
    intro i mm H ls hn hi I
    obtain ⟨hz, hP, hS, hl⟩ := id I
    refine lv_iload_n hx hb e_law_18 rfl (lv_at hl 0 rfl) ?_
    refine lv_aload_n hx hb e_law_19 rfl (lv_at hl 3 rfl) ?_
    refine va_slen hx hb hX hbl hbA hS e_law_20 ?_
    refine lv_bipush (v := 6) hx hb e_law_21 (by decide) ?_
    refine lv_isub hx hb e_law_23 ?_
    refine lv_icmp_gt (tgt := 1721) hx hb e_law_24 (by decide) (fun _ => ?_) (fun h => ?_)
    · refine lv_iconst (v := 1) hx hb e_law_1721 (by decide) ?_
      exact lw_ret hx hb hr hlocks e_law_1722
    have hg : i + 6 ≤ L := by
      rcases Nat.lt_or_ge L (i + 6) with q | q
      · refine absurd ?_ h
        rw [Int32.lt_iff_toInt_lt]
        show (nI L - nI 6).toInt < (nI i).toInt
        rw [Int32.toInt_sub, nI_toInt (show L < 2 ^ 31 by omega), nI_toInt (show 6 < 2 ^ 31 by omega), nI_toInt (show i < 2 ^ 31 by omega), Int.bmod_eq_of_le (by omega) (by omega)]
        omega
      · exact q
    have back : ∀ (mm' : ax_M) (H' : Heap), lw_I s b D Ca ad mm' i H' ls → W p l e room_1 s m #[Value.ref b] below meth c H' [] 600000 7302250 (lw_Z below #[Value.ref b] s) (F0 m 1715 ls []) := fun mm' H' I' => by
      obtain ⟨hz', hP', hS', hl'⟩ := I'
      refine lv_iinc (v := nI (i + 6)) (lv' := [(3, .int (nI (i + 6))), (2, .ref (ad 22 0)), (1, .ref (ad 0 0)), (0, .ref b)]) hx hb e_law_1715 hl' (k := 0) rfl (by rw [show Int32.ofInt 6 = nI 6 by decide]; exact nI_add i 6) (by decide) rfl (fun ls2 hl2 => ?_)
      refine lv_goto (tgt := 18) hx hb e_law_1718 (by decide) ?_
      exact ih (i + 6) mm' H' ls2 (by omega) hg ⟨hz', hP', hS', hl2⟩
    refine lv_aload_n hx hb e_law_27 rfl (lv_at hl 3 rfl) ?_
    refine lv_iload_n hx hb e_law_28 rfl (lv_at hl 0 rfl) ?_
    refine va_sld hx hb hX hbl hbA hS (vp_in_nI (show i < L by omega) (by omega)) e_law_29 ?_
    refine lv_bipush (v := 63) hx hb e_law_30 (by decide) ?_
    refine lv_iand hx hb e_law_32 ?_
    obtain ⟨j, hj, ej⟩ := pk_andE (xs (nI i).toNatClampNeg) (m := 63) 6 (by decide)
    rw [ej]
    rcases Nat.lt_or_ge j 50 with q | q
    · rcases (show j = 0 ∨ j = 1 ∨ j = 2 ∨ j = 3 ∨ j = 4 ∨ j = 5 ∨ j = 6 ∨ j = 7 ∨ j = 8 ∨ j = 9 ∨ j = 10 ∨ j = 11 ∨ j = 12 ∨ j = 13 ∨ j = 14 ∨ j = 15 ∨ j = 16 ∨ j = 17 ∨ j = 18 ∨ j = 19 ∨ j = 20 ∨ j = 21 ∨ j = 22 ∨ j = 23 ∨ j = 24 ∨ j = 25 ∨ j = 26 ∨ j = 27 ∨ j = 28 ∨ j = 29 ∨ j = 30 ∨ j = 31 ∨ j = 32 ∨ j = 33 ∨ j = 34 ∨ j = 35 ∨ j = 36 ∨ j = 37 ∨ j = 38 ∨ j = 39 ∨ j = 40 ∨ j = 41 ∨ j = 42 ∨ j = 43 ∨ j = 44 ∨ j = 45 ∨ j = 46 ∨ j = 47 ∨ j = 48 ∨ j = 49 by omega) with rfl | rfl | rfl | rfl | rfl | rfl | rfl | rfl | rfl | rfl | rfl | rfl | rfl | rfl | rfl | rfl | rfl | rfl | rfl | rfl | rfl | rfl | rfl | rfl | rfl | rfl | rfl | rfl | rfl | rfl | rfl | rfl | rfl | rfl | rfl | rfl | rfl | rfl | rfl | rfl | rfl | rfl | rfl | rfl | rfl | rfl | rfl | rfl | rfl | rfl
      · exact lv_tableIn (off := 215) (tgt := 248) hx hb e_law_33 (by decide) (by decide) (by decide +kernel) (by decide) (lc_0 C hg I back)
      · exact lv_tableIn (off := 258) (tgt := 291) hx hb e_law_33 (by decide) (by decide) (by decide +kernel) (by decide) (lc_1 C hg I back)
      · exact lv_tableIn (off := 331) (tgt := 364) hx hb e_law_33 (by decide) (by decide) (by decide +kernel) (by decide) (lc_2 C hg I back)
      · exact lv_tableIn (off := 394) (tgt := 427) hx hb e_law_33 (by decide) (by decide) (by decide +kernel) (by decide) (lc_3 C hg I back)
      · exact lv_tableIn (off := 428) (tgt := 461) hx hb e_law_33 (by decide) (by decide) (by decide +kernel) (by decide) (lc_4 C hg I back)
      · exact lv_tableIn (off := 451) (tgt := 484) hx hb e_law_33 (by decide) (by decide) (by decide +kernel) (by decide) (lc_5 C hg I back)
      · exact lv_tableIn (off := 484) (tgt := 517) hx hb e_law_33 (by decide) (by decide) (by decide +kernel) (by decide) (lc_6 C hg I back)
      · exact lv_tableIn (off := 517) (tgt := 550) hx hb e_law_33 (by decide) (by decide) (by decide +kernel) (by decide) (lc_7 C hg I back)
      · exact lv_tableIn (off := 566) (tgt := 599) hx hb e_law_33 (by decide) (by decide) (by decide +kernel) (by decide) (lc_8 C hg I back)
      · exact lv_tableIn (off := 589) (tgt := 622) hx hb e_law_33 (by decide) (by decide) (by decide +kernel) (by decide) (lc_9 C hg I back)
      · exact lv_tableIn (off := 642) (tgt := 675) hx hb e_law_33 (by decide) (by decide) (by decide +kernel) (by decide) (lc_10 C hg I back)
      · exact lv_tableIn (off := 685) (tgt := 718) hx hb e_law_33 (by decide) (by decide) (by decide +kernel) (by decide) (lc_11 C hg I back)
      · exact lv_tableIn (off := 708) (tgt := 741) hx hb e_law_33 (by decide) (by decide) (by decide +kernel) (by decide) (lc_12 C hg I back)
      · exact lv_tableIn (off := 721) (tgt := 754) hx hb e_law_33 (by decide) (by decide) (by decide +kernel) (by decide) (lc_13 C hg I back)
      · exact lv_tableIn (off := 734) (tgt := 767) hx hb e_law_33 (by decide) (by decide) (by decide +kernel) (by decide) (lc_14 C hg I back)
      · exact lv_tableIn (off := 767) (tgt := 800) hx hb e_law_33 (by decide) (by decide) (by decide +kernel) (by decide) (lc_15 C hg I back)
      · exact lv_tableIn (off := 800) (tgt := 833) hx hb e_law_33 (by decide) (by decide) (by decide +kernel) (by decide) (lc_16 C hg I back)
      · exact lv_tableIn (off := 833) (tgt := 866) hx hb e_law_33 (by decide) (by decide) (by decide +kernel) (by decide) (lc_17 C hg I back)
      · exact lv_tableIn (off := 856) (tgt := 889) hx hb e_law_33 (by decide) (by decide) (by decide +kernel) (by decide) (lc_18 C hg I back)
      · exact lv_tableIn (off := 879) (tgt := 912) hx hb e_law_33 (by decide) (by decide) (by decide +kernel) (by decide) (lc_19 C hg I back)
      · exact lv_tableIn (off := 902) (tgt := 935) hx hb e_law_33 (by decide) (by decide) (by decide +kernel) (by decide) (lc_20 C hg I back)
      · exact lv_tableIn (off := 935) (tgt := 968) hx hb e_law_33 (by decide) (by decide) (by decide +kernel) (by decide) (lc_21 C hg I back)
      · exact lv_tableIn (off := 978) (tgt := 1011) hx hb e_law_33 (by decide) (by decide) (by decide +kernel) (by decide) (lc_22 C hg I back)
      · exact lv_tableIn (off := 1011) (tgt := 1044) hx hb e_law_33 (by decide) (by decide) (by decide +kernel) (by decide) (lc_23 C hg I back)
      · exact lv_tableIn (off := 1034) (tgt := 1067) hx hb e_law_33 (by decide) (by decide) (by decide +kernel) (by decide) (lc_24 C hg I back)
      · exact lv_tableIn (off := 1057) (tgt := 1090) hx hb e_law_33 (by decide) (by decide) (by decide +kernel) (by decide) (lc_25 C hg I back)
      · exact lv_tableIn (off := 1080) (tgt := 1113) hx hb e_law_33 (by decide) (by decide) (by decide +kernel) (by decide) (lc_26 C hg I back)
      · exact lv_tableIn (off := 1093) (tgt := 1126) hx hb e_law_33 (by decide) (by decide) (by decide +kernel) (by decide) (lc_27 C hg I back)
      · exact lv_tableIn (off := 1106) (tgt := 1139) hx hb e_law_33 (by decide) (by decide) (by decide +kernel) (by decide) (lc_28 C hg I back)
      · exact lv_tableIn (off := 1119) (tgt := 1152) hx hb e_law_33 (by decide) (by decide) (by decide +kernel) (by decide) (lc_29 C hg I back)
      · exact lv_tableIn (off := 1152) (tgt := 1185) hx hb e_law_33 (by decide) (by decide) (by decide +kernel) (by decide) (lc_30 C hg I back)
      · exact lv_tableIn (off := 1165) (tgt := 1198) hx hb e_law_33 (by decide) (by decide) (by decide +kernel) (by decide) (lc_31 C hg I back)
      · exact lv_tableIn (off := 1198) (tgt := 1231) hx hb e_law_33 (by decide) (by decide) (by decide +kernel) (by decide) (lc_32 C hg I back)
      · exact lv_tableIn (off := 1211) (tgt := 1244) hx hb e_law_33 (by decide) (by decide) (by decide +kernel) (by decide) (lc_33 C hg I back)
      · exact lv_tableIn (off := 1234) (tgt := 1267) hx hb e_law_33 (by decide) (by decide) (by decide +kernel) (by decide) (lc_34 C hg I back)
      · exact lv_tableIn (off := 1247) (tgt := 1280) hx hb e_law_33 (by decide) (by decide) (by decide +kernel) (by decide) (lc_35 C hg I back)
      · exact lv_tableIn (off := 1270) (tgt := 1303) hx hb e_law_33 (by decide) (by decide) (by decide +kernel) (by decide) (lc_36 C hg I back)
      · exact lv_tableIn (off := 1313) (tgt := 1346) hx hb e_law_33 (by decide) (by decide) (by decide +kernel) (by decide) (lc_37 C hg I back)
      · exact lv_tableIn (off := 1356) (tgt := 1389) hx hb e_law_33 (by decide) (by decide) (by decide +kernel) (by decide) (lc_38 C hg I back)
      · exact lv_tableIn (off := 1399) (tgt := 1432) hx hb e_law_33 (by decide) (by decide) (by decide +kernel) (by decide) (lc_39 C hg I back)
      · exact lv_tableIn (off := 1442) (tgt := 1475) hx hb e_law_33 (by decide) (by decide) (by decide +kernel) (by decide) (lc_40 C hg I back)
      · exact lv_tableIn (off := 1485) (tgt := 1518) hx hb e_law_33 (by decide) (by decide) (by decide +kernel) (by decide) (lc_41 C hg I back)
      · exact lv_tableIn (off := 1518) (tgt := 1551) hx hb e_law_33 (by decide) (by decide) (by decide +kernel) (by decide) (lc_42 C hg I back)
      · exact lv_tableIn (off := 1561) (tgt := 1594) hx hb e_law_33 (by decide) (by decide) (by decide +kernel) (by decide) (lc_43 C hg I back)
      · exact lv_tableIn (off := 1574) (tgt := 1607) hx hb e_law_33 (by decide) (by decide) (by decide +kernel) (by decide) (lc_44 C hg I back)
      · exact lv_tableIn (off := 1597) (tgt := 1630) hx hb e_law_33 (by decide) (by decide) (by decide +kernel) (by decide) (lc_45 C hg I back)
      · exact lv_tableIn (off := 1610) (tgt := 1643) hx hb e_law_33 (by decide) (by decide) (by decide +kernel) (by decide) (lc_46 C hg I back)
      · exact lv_tableIn (off := 1633) (tgt := 1666) hx hb e_law_33 (by decide) (by decide) (by decide +kernel) (by decide) (lc_47 C hg I back)
      · exact lv_tableIn (off := 1646) (tgt := 1679) hx hb e_law_33 (by decide) (by decide) (by decide +kernel) (by decide) (lc_48 C hg I back)
      · exact lv_tableIn (off := 1659) (tgt := 1692) hx hb e_law_33 (by decide) (by decide) (by decide +kernel) (by decide) (lc_49 C hg I back)
    · refine lv_tableOut (tgt := 1715) hx hb e_law_33 (Or.inr ?_) (by decide) (back mm H I)
      rw [nI_toInt (show j < 2 ^ 31 by omega)]
      omega
