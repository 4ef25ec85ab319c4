section LAWC
variable {p : Program} {l : Launch} {e : Env} {s : State} {m : MethodId} {below : List Frame} {meth : Method} {c : Code} {Q : State → Prop} {D : va_G} {Ca : Nat → ClassId} {ad : Nat → Nat → Nat} {adV : Nat → Nat} {b L : Nat} {xs : Nat → Int32}
set_option maxRecDepth 100000 in
theorem dl_17 : decode code 866 = .ok (.aload_n 1, 1) ∧ decode code 867 = .ok (.aload_n 0, 1) ∧ decode code 868 = .ok (.iload_n 3, 1) ∧ decode code 869 = .ok (.iconst 1, 1) ∧ decode code 870 = .ok (.iadd, 1) ∧ decode code 871 = .ok (.iaload, 1) ∧ decode code 872 = .ok (.invokevirtual 92, 3) ∧ decode code 875 = .ok (.aload_n 2, 1) ∧ decode code 876 = .ok (.aload_n 0, 1) ∧ decode code 877 = .ok (.iload_n 3, 1) ∧ decode code 878 = .ok (.iconst 1, 1) ∧ decode code 879 = .ok (.iadd, 1) ∧ decode code 880 = .ok (.iaload, 1) ∧ decode code 881 = .ok (.invokevirtual 95, 3) ∧ decode code 884 = .ok (.if_icmp .eq 831, 3) ∧ decode code 887 = .ok (.iconst 0, 1) ∧ decode code 888 = .ok (.ireturn, 1) := ⟨by decide +kernel, by decide +kernel, by decide +kernel, by decide +kernel, by decide +kernel, by decide +kernel, by decide +kernel, by decide +kernel, by decide +kernel, by decide +kernel, by decide +kernel, by decide +kernel, by decide +kernel, by decide +kernel, by decide +kernel, by decide +kernel, by decide +kernel⟩
set_option maxRecDepth 100000 in
theorem lc_17 {mm : ax_M} {i : Nat} {H : Heap} {ls : Array Slot} (C : lw_H p s m c b L xs D Ca ad adV) (hi : i + 6 ≤ L) (I : lw_I s b D Ca ad mm i H ls) (kk : ∀ (mm' : ax_M) (H' : Heap), lw_I s b D Ca ad mm' i H' ls → W p l e room_1 s m #[Value.ref b] below meth c H' [] 600000 7302250 Q (F0 m 1715 ls [])) : W p l e room_1 s m #[Value.ref b] below meth c H [] 600000 7302250 Q (F0 m 866 ls []) := by
  obtain ⟨hx, hb, hml, hown, hts, hSt, hinj, hX, hbl, hAs, hL⟩ := C
  obtain ⟨hz, hP, hS, hl⟩ := I
  have hbA : ¬ ax_A ad b := fun h => Nat.not_le.mpr hbl (hAs b h)
  obtain ⟨e866, e867, e868, e869, e870, e871, e872, e875, e876, e877, e878, e879, e880, e881, e884, e887, e888⟩ := dl_17
  obtain ⟨a, m1, m2, h1, h2, hz2⟩ := t_isWall (xs (i + 1)) mm hz
  refine lv_aload_n hx hb e866 rfl (lv_at hl 2 rfl) ?_
  refine lw_arg (k := 1) hx hb hX hbl hbA hS hL (by omega) (by decide) hl e867 e868 e869 e870 e871 ?_
  refine lw_call (d := 30) (mt := 117) (k := 0) (r := []) (a1 := [.inl (xs (i + 1))]) hx hb hml hown hts hSt hinj rfl rfl rfl rfl rfl (by decide) (Nat.le_of_ble_eq_true rfl) (ax_ok1 trivial (fun v hv => by cases hv)) (R_X10_isWall (by decide) h1) (List.mem_of_getElem? (i := 770) (by decide +kernel)) ⟨Nat.le_of_ble_eq_true rfl, Nat.le_of_ble_eq_true rfl⟩ hP hS hl.1 rfl (Nat.le_of_ble_eq_true rfl) ⟨Nat.le_of_ble_eq_true rfl, Nat.le_of_ble_eq_true rfl⟩ e872 (fun H locs hP hS => ?_)
  refine W.eq (g2 := F0 m 875 ls [.int a]) rfl ?_
  refine lv_aload_n hx hb e875 rfl (lv_at hl 1 rfl) ?_
  refine lw_arg (k := 1) hx hb hX hbl hbA hS hL (by omega) (by decide) hl e876 e877 e878 e879 e880 ?_
  refine lw_call (d := 30) (mt := 207) (k := 22) (r := [.inl a]) (a1 := [.inl (xs (i + 1))]) hx hb hml hown hts hSt hinj rfl rfl rfl rfl rfl (by decide) (Nat.le_of_ble_eq_true rfl) (ax_ok1 trivial (fun v hv => by cases hv)) (R_X11_isWall (by decide) h2) (List.mem_of_getElem? (i := 1386) (by decide +kernel)) ⟨Nat.le_of_ble_eq_true rfl, Nat.le_of_ble_eq_true rfl⟩ hP hS hl.1 rfl (Nat.le_of_ble_eq_true rfl) ⟨Nat.le_of_ble_eq_true rfl, Nat.le_of_ble_eq_true rfl⟩ e881 (fun H locs hP hS => ?_)
  refine W.eq (g2 := F0 m 884 ls [.int a, .int a]) rfl ?_
  refine lv_icmp_eq (tgt := 1715) hx hb e884 (by decide) (fun _ => ?_) (fun h => absurd rfl h)
  exact lw_back hAs hS (fun hS => kk m2 _ ⟨hz2, hP, hS, hl⟩)
set_option maxRecDepth 100000 in
theorem dl_18 : decode code 889 = .ok (.aload_n 1, 1) ∧ decode code 890 = .ok (.aload_n 0, 1) ∧ decode code 891 = .ok (.iload_n 3, 1) ∧ decode code 892 = .ok (.iconst 1, 1) ∧ decode code 893 = .ok (.iadd, 1) ∧ decode code 894 = .ok (.iaload, 1) ∧ decode code 895 = .ok (.invokevirtual 96, 3) ∧ decode code 898 = .ok (.aload_n 2, 1) ∧ decode code 899 = .ok (.aload_n 0, 1) ∧ decode code 900 = .ok (.iload_n 3, 1) ∧ decode code 901 = .ok (.iconst 1, 1) ∧ decode code 902 = .ok (.iadd, 1) ∧ decode code 903 = .ok (.iaload, 1) ∧ decode code 904 = .ok (.invokevirtual 99, 3) ∧ decode code 907 = .ok (.if_icmp .eq 808, 3) ∧ decode code 910 = .ok (.iconst 0, 1) ∧ decode code 911 = .ok (.ireturn, 1) := ⟨by decide +kernel, by decide +kernel, by decide +kernel, by decide +kernel, by decide +kernel, by decide +kernel, by decide +kernel, by decide +kernel, by decide +kernel, by decide +kernel, by decide +kernel, by decide +kernel, by decide +kernel, by decide +kernel, by decide +kernel, by decide +kernel, by decide +kernel⟩
set_option maxRecDepth 100000 in
theorem lc_18 {mm : ax_M} {i : Nat} {H : Heap} {ls : Array Slot} (C : lw_H p s m c b L xs D Ca ad adV) (hi : i + 6 ≤ L) (I : lw_I s b D Ca ad mm i H ls) (kk : ∀ (mm' : ax_M) (H' : Heap), lw_I s b D Ca ad mm' i H' ls → W p l e room_1 s m #[Value.ref b] below meth c H' [] 600000 7302250 Q (F0 m 1715 ls [])) : W p l e room_1 s m #[Value.ref b] below meth c H [] 600000 7302250 Q (F0 m 889 ls []) := by
  obtain ⟨hx, hb, hml, hown, hts, hSt, hinj, hX, hbl, hAs, hL⟩ := C
  obtain ⟨hz, hP, hS, hl⟩ := I
  have hbA : ¬ ax_A ad b := fun h => Nat.not_le.mpr hbl (hAs b h)
  obtain ⟨e889, e890, e891, e892, e893, e894, e895, e898, e899, e900, e901, e902, e903, e904, e907, e910, e911⟩ := dl_18
  obtain ⟨a, m1, m2, h1, h2, hz2⟩ := t_up (xs (i + 1)) mm hz
  refine lv_aload_n hx hb e889 rfl (lv_at hl 2 rfl) ?_
  refine lw_arg (k := 1) hx hb hX hbl hbA hS hL (by omega) (by decide) hl e890 e891 e892 e893 e894 ?_
  refine lw_call (d := 30) (mt := 118) (k := 0) (r := []) (a1 := [.inl (xs (i + 1))]) hx hb hml hown hts hSt hinj rfl rfl rfl rfl rfl (by decide) (Nat.le_of_ble_eq_true rfl) (ax_ok1 trivial (fun v hv => by cases hv)) (R_X10_up (by decide) h1) (List.mem_of_getElem? (i := 774) (by decide +kernel)) ⟨Nat.le_of_ble_eq_true rfl, Nat.le_of_ble_eq_true rfl⟩ hP hS hl.1 rfl (Nat.le_of_ble_eq_true rfl) ⟨Nat.le_of_ble_eq_true rfl, Nat.le_of_ble_eq_true rfl⟩ e895 (fun H locs hP hS => ?_)
  refine W.eq (g2 := F0 m 898 ls [.int a]) rfl ?_
  refine lv_aload_n hx hb e898 rfl (lv_at hl 1 rfl) ?_
  refine lw_arg (k := 1) hx hb hX hbl hbA hS hL (by omega) (by decide) hl e899 e900 e901 e902 e903 ?_
  refine lw_call (d := 30) (mt := 208) (k := 22) (r := [.inl a]) (a1 := [.inl (xs (i + 1))]) hx hb hml hown hts hSt hinj rfl rfl rfl rfl rfl (by decide) (Nat.le_of_ble_eq_true rfl) (ax_ok1 trivial (fun v hv => by cases hv)) (R_X11_up (by decide) h2) (List.mem_of_getElem? (i := 1390) (by decide +kernel)) ⟨Nat.le_of_ble_eq_true rfl, Nat.le_of_ble_eq_true rfl⟩ hP hS hl.1 rfl (Nat.le_of_ble_eq_true rfl) ⟨Nat.le_of_ble_eq_true rfl, Nat.le_of_ble_eq_true rfl⟩ e904 (fun H locs hP hS => ?_)
  refine W.eq (g2 := F0 m 907 ls [.int a, .int a]) rfl ?_
  refine lv_icmp_eq (tgt := 1715) hx hb e907 (by decide) (fun _ => ?_) (fun h => absurd rfl h)
  exact lw_back hAs hS (fun hS => kk m2 _ ⟨hz2, hP, hS, hl⟩)
set_option maxRecDepth 100000 in
theorem dl_19 : decode code 912 = .ok (.aload_n 1, 1) ∧ decode code 913 = .ok (.aload_n 0, 1) ∧ decode code 914 = .ok (.iload_n 3, 1) ∧ decode code 915 = .ok (.iconst 1, 1) ∧ decode code 916 = .ok (.iadd, 1) ∧ decode code 917 = .ok (.iaload, 1) ∧ decode code 918 = .ok (.invokevirtual 100, 3) ∧ decode code 921 = .ok (.aload_n 2, 1) ∧ decode code 922 = .ok (.aload_n 0, 1) ∧ decode code 923 = .ok (.iload_n 3, 1) ∧ decode code 924 = .ok (.iconst 1, 1) ∧ decode code 925 = .ok (.iadd, 1) ∧ decode code 926 = .ok (.iaload, 1) ∧ decode code 927 = .ok (.invokevirtual 103, 3) ∧ decode code 930 = .ok (.if_icmp .eq 785, 3) ∧ decode code 933 = .ok (.iconst 0, 1) ∧ decode code 934 = .ok (.ireturn, 1) := ⟨by decide +kernel, by decide +kernel, by decide +kernel, by decide +kernel, by decide +kernel, by decide +kernel, by decide +kernel, by decide +kernel, by decide +kernel, by decide +kernel, by decide +kernel, by decide +kernel, by decide +kernel, by decide +kernel, by decide +kernel, by decide +kernel, by decide +kernel⟩
set_option maxRecDepth 100000 in
theorem lc_19 {mm : ax_M} {i : Nat} {H : Heap} {ls : Array Slot} (C : lw_H p s m c b L xs D Ca ad adV) (hi : i + 6 ≤ L) (I : lw_I s b D Ca ad mm i H ls) (kk : ∀ (mm' : ax_M) (H' : Heap), lw_I s b D Ca ad mm' i H' ls → W p l e room_1 s m #[Value.ref b] below meth c H' [] 600000 7302250 Q (F0 m 1715 ls [])) : W p l e room_1 s m #[Value.ref b] below meth c H [] 600000 7302250 Q (F0 m 912 ls []) := by
  obtain ⟨hx, hb, hml, hown, hts, hSt, hinj, hX, hbl, hAs, hL⟩ := C
  obtain ⟨hz, hP, hS, hl⟩ := I
  have hbA : ¬ ax_A ad b := fun h => Nat.not_le.mpr hbl (hAs b h)
  obtain ⟨e912, e913, e914, e915, e916, e917, e918, e921, e922, e923, e924, e925, e926, e927, e930, e933, e934⟩ := dl_19
  obtain ⟨a, m1, m2, h1, h2, hz2⟩ := t_by (xs (i + 1)) mm hz
  refine lv_aload_n hx hb e912 rfl (lv_at hl 2 rfl) ?_
  refine lw_arg (k := 1) hx hb hX hbl hbA hS hL (by omega) (by decide) hl e913 e914 e915 e916 e917 ?_
  refine lw_call (d := 30) (mt := 119) (k := 0) (r := []) (a1 := [.inl (xs (i + 1))]) hx hb hml hown hts hSt hinj rfl rfl rfl rfl rfl (by decide) (Nat.le_of_ble_eq_true rfl) (ax_ok1 trivial (fun v hv => by cases hv)) (R_X10_by (by decide) h1) (List.mem_of_getElem? (i := 782) (by decide +kernel)) ⟨Nat.le_of_ble_eq_true rfl, Nat.le_of_ble_eq_true rfl⟩ hP hS hl.1 rfl (Nat.le_of_ble_eq_true rfl) ⟨Nat.le_of_ble_eq_true rfl, Nat.le_of_ble_eq_true rfl⟩ e918 (fun H locs hP hS => ?_)
  refine W.eq (g2 := F0 m 921 ls [.int a]) rfl ?_
  refine lv_aload_n hx hb e921 rfl (lv_at hl 1 rfl) ?_
  refine lw_arg (k := 1) hx hb hX hbl hbA hS hL (by omega) (by decide) hl e922 e923 e924 e925 e926 ?_
  refine lw_call (d := 30) (mt := 209) (k := 22) (r := [.inl a]) (a1 := [.inl (xs (i + 1))]) hx hb hml hown hts hSt hinj rfl rfl rfl rfl rfl (by decide) (Nat.le_of_ble_eq_true rfl) (ax_ok1 trivial (fun v hv => by cases hv)) (R_X11_by (by decide) h2) (List.mem_of_getElem? (i := 1394) (by decide +kernel)) ⟨Nat.le_of_ble_eq_true rfl, Nat.le_of_ble_eq_true rfl⟩ hP hS hl.1 rfl (Nat.le_of_ble_eq_true rfl) ⟨Nat.le_of_ble_eq_true rfl, Nat.le_of_ble_eq_true rfl⟩ e927 (fun H locs hP hS => ?_)
  refine W.eq (g2 := F0 m 930 ls [.int a, .int a]) rfl ?_
  refine lv_icmp_eq (tgt := 1715) hx hb e930 (by decide) (fun _ => ?_) (fun h => absurd rfl h)
  exact lw_back hAs hS (fun hS => kk m2 _ ⟨hz2, hP, hS, hl⟩)
set_option maxRecDepth 100000 in
theorem dl_20 : decode code 935 = .ok (.aload_n 1, 1) ∧ decode code 936 = .ok (.aload_n 0, 1) ∧ decode code 937 = .ok (.iload_n 3, 1) ∧ decode code 938 = .ok (.iconst 1, 1) ∧ decode code 939 = .ok (.iadd, 1) ∧ decode code 940 = .ok (.iaload, 1) ∧ decode code 941 = .ok (.aload_n 0, 1) ∧ decode code 942 = .ok (.iload_n 3, 1) ∧ decode code 943 = .ok (.iconst 2, 1) ∧ decode code 944 = .ok (.iadd, 1) ∧ decode code 945 = .ok (.iaload, 1) ∧ decode code 946 = .ok (.invokevirtual 104, 3) ∧ decode code 949 = .ok (.aload_n 2, 1) ∧ decode code 950 = .ok (.aload_n 0, 1) ∧ decode code 951 = .ok (.iload_n 3, 1) ∧ decode code 952 = .ok (.iconst 1, 1) ∧ decode code 953 = .ok (.iadd, 1) ∧ decode code 954 = .ok (.iaload, 1) ∧ decode code 955 = .ok (.aload_n 0, 1) ∧ decode code 956 = .ok (.iload_n 3, 1) ∧ decode code 957 = .ok (.iconst 2, 1) ∧ decode code 958 = .ok (.iadd, 1) ∧ decode code 959 = .ok (.iaload, 1) ∧ decode code 960 = .ok (.invokevirtual 107, 3) ∧ decode code 963 = .ok (.if_icmp .eq 752, 3) ∧ decode code 966 = .ok (.iconst 0, 1) ∧ decode code 967 = .ok (.ireturn, 1) := ⟨by decide +kernel, by decide +kernel, by decide +kernel, by decide +kernel, by decide +kernel, by decide +kernel, by decide +kernel, by decide +kernel, by decide +kernel, by decide +kernel, by decide +kernel, by decide +kernel, by decide +kernel, by decide +kernel, by decide +kernel, by decide +kernel, by decide +kernel, by decide +kernel, by decide +kernel, by decide +kernel, by decide +kernel, by decide +kernel, by decide +kernel, by decide +kernel, by decide +kernel, by decide +kernel, by decide +kernel⟩
set_option maxRecDepth 100000 in
theorem lc_20 {mm : ax_M} {i : Nat} {H : Heap} {ls : Array Slot} (C : lw_H p s m c b L xs D Ca ad adV) (hi : i + 6 ≤ L) (I : lw_I s b D Ca ad mm i H ls) (kk : ∀ (mm' : ax_M) (H' : Heap), lw_I s b D Ca ad mm' i H' ls → W p l e room_1 s m #[Value.ref b] below meth c H' [] 600000 7302250 Q (F0 m 1715 ls [])) : W p l e room_1 s m #[Value.ref b] below meth c H [] 600000 7302250 Q (F0 m 935 ls []) := by
  obtain ⟨hx, hb, hml, hown, hts, hSt, hinj, hX, hbl, hAs, hL⟩ := C
  obtain ⟨hz, hP, hS, hl⟩ := I
  have hbA : ¬ ax_A ad b := fun h => Nat.not_le.mpr hbl (hAs b h)
  obtain ⟨e935, e936, e937, e938, e939, e940, e941, e942, e943, e944, e945, e946, e949, e950, e951, e952, e953, e954, e955, e956, e957, e958, e959, e960, e963, e966, e967⟩ := dl_20
  obtain ⟨a, m1, m2, h1, h2, hz2⟩ := t_quiet (xs (i + 1)) (xs (i + 2)) mm hz
  refine lv_aload_n hx hb e935 rfl (lv_at hl 2 rfl) ?_
  refine lw_arg (k := 1) hx hb hX hbl hbA hS hL (by omega) (by decide) hl e936 e937 e938 e939 e940 ?_
  refine lw_arg (k := 2) hx hb hX hbl hbA hS hL (by omega) (by decide) hl e941 e942 e943 e944 e945 ?_
  refine lw_call (d := 30) (mt := 120) (k := 0) (r := []) (a1 := [.inl (xs (i + 1)), .inl (xs (i + 2))]) hx hb hml hown hts hSt hinj rfl rfl rfl rfl rfl (by decide) (Nat.le_of_ble_eq_true rfl) (ax_ok1 trivial (ax_ok1 trivial (fun v hv => by cases hv))) (R_X10_quiet (by decide) h1) (List.mem_of_getElem? (i := 786) (by decide +kernel)) ⟨Nat.le_of_ble_eq_true rfl, Nat.le_of_ble_eq_true rfl⟩ hP hS hl.1 rfl (Nat.le_of_ble_eq_true rfl) ⟨Nat.le_of_ble_eq_true rfl, Nat.le_of_ble_eq_true rfl⟩ e946 (fun H locs hP hS => ?_)
  refine W.eq (g2 := F0 m 949 ls [.int a]) rfl ?_
  refine lv_aload_n hx hb e949 rfl (lv_at hl 1 rfl) ?_
  refine lw_arg (k := 1) hx hb hX hbl hbA hS hL (by omega) (by decide) hl e950 e951 e952 e953 e954 ?_
  refine lw_arg (k := 2) hx hb hX hbl hbA hS hL (by omega) (by decide) hl e955 e956 e957 e958 e959 ?_
  refine lw_call (d := 30) (mt := 211) (k := 22) (r := [.inl a]) (a1 := [.inl (xs (i + 1)), .inl (xs (i + 2))]) hx hb hml hown hts hSt hinj rfl rfl rfl rfl rfl (by decide) (Nat.le_of_ble_eq_true rfl) (ax_ok1 trivial (ax_ok1 trivial (fun v hv => by cases hv))) (R_X11_quiet (by decide) h2) (List.mem_of_getElem? (i := 1398) (by decide +kernel)) ⟨Nat.le_of_ble_eq_true rfl, Nat.le_of_ble_eq_true rfl⟩ hP hS hl.1 rfl (Nat.le_of_ble_eq_true rfl) ⟨Nat.le_of_ble_eq_true rfl, Nat.le_of_ble_eq_true rfl⟩ e960 (fun H locs hP hS => ?_)
  refine W.eq (g2 := F0 m 963 ls [.int a, .int a]) rfl ?_
  refine lv_icmp_eq (tgt := 1715) hx hb e963 (by decide) (fun _ => ?_) (fun h => absurd rfl h)
  exact lw_back hAs hS (fun hS => kk m2 _ ⟨hz2, hP, hS, hl⟩)
set_option maxRecDepth 100000 in
theorem dl_21 : decode code 968 = .ok (.aload_n 1, 1) ∧ decode code 969 = .ok (.aload_n 0, 1) ∧ decode code 970 = .ok (.iload_n 3, 1) ∧ decode code 971 = .ok (.iconst 1, 1) ∧ decode code 972 = .ok (.iadd, 1) ∧ decode code 973 = .ok (.iaload, 1) ∧ decode code 974 = .ok (.aload_n 0, 1) ∧ decode code 975 = .ok (.iload_n 3, 1) ∧ decode code 976 = .ok (.iconst 2, 1) ∧ decode code 977 = .ok (.iadd, 1) ∧ decode code 978 = .ok (.iaload, 1) ∧ decode code 979 = .ok (.aload_n 0, 1) ∧ decode code 980 = .ok (.iload_n 3, 1) ∧ decode code 981 = .ok (.iconst 3, 1) ∧ decode code 982 = .ok (.iadd, 1) ∧ decode code 983 = .ok (.iaload, 1) ∧ decode code 984 = .ok (.invokevirtual 108, 3) ∧ decode code 987 = .ok (.aload_n 2, 1) ∧ decode code 988 = .ok (.aload_n 0, 1) ∧ decode code 989 = .ok (.iload_n 3, 1) ∧ decode code 990 = .ok (.iconst 1, 1) ∧ decode code 991 = .ok (.iadd, 1) ∧ decode code 992 = .ok (.iaload, 1) ∧ decode code 993 = .ok (.aload_n 0, 1) ∧ decode code 994 = .ok (.iload_n 3, 1) ∧ decode code 995 = .ok (.iconst 2, 1) ∧ decode code 996 = .ok (.iadd, 1) ∧ decode code 997 = .ok (.iaload, 1) ∧ decode code 998 = .ok (.aload_n 0, 1) ∧ decode code 999 = .ok (.iload_n 3, 1) ∧ decode code 1000 = .ok (.iconst 3, 1) ∧ decode code 1001 = .ok (.iadd, 1) ∧ decode code 1002 = .ok (.iaload, 1) ∧ decode code 1003 = .ok (.invokevirtual 111, 3) ∧ decode code 1006 = .ok (.if_icmp .eq 709, 3) ∧ decode code 1009 = .ok (.iconst 0, 1) ∧ decode code 1010 = .ok (.ireturn, 1) := ⟨by decide +kernel, by decide +kernel, by decide +kernel, by decide +kernel, by decide +kernel, by decide +kernel, by decide +kernel, by decide +kernel, by decide +kernel, by decide +kernel, by decide +kernel, by decide +kernel, by decide +kernel, by decide +kernel, by decide +kernel, by decide +kernel, by decide +kernel, by decide +kernel, by decide +kernel, by decide +kernel, by decide +kernel, by decide +kernel, by decide +kernel, by decide +kernel, by decide +kernel, by decide +kernel, by decide +kernel, by decide +kernel, by decide +kernel, by decide +kernel, by decide +kernel, by decide +kernel, by decide +kernel, by decide +kernel, by decide +kernel, by decide +kernel, by decide +kernel⟩
set_option maxRecDepth 100000 in
theorem lc_21 {mm : ax_M} {i : Nat} {H : Heap} {ls : Array Slot} (C : lw_H p s m c b L xs D Ca ad adV) (hi : i + 6 ≤ L) (I : lw_I s b D Ca ad mm i H ls) (kk : ∀ (mm' : ax_M) (H' : Heap), lw_I s b D Ca ad mm' i H' ls → W p l e room_1 s m #[Value.ref b] below meth c H' [] 600000 7302250 Q (F0 m 1715 ls [])) : W p l e room_1 s m #[Value.ref b] below meth c H [] 600000 7302250 Q (F0 m 968 ls []) := by
  obtain ⟨hx, hb, hml, hown, hts, hSt, hinj, hX, hbl, hAs, hL⟩ := C
  obtain ⟨hz, hP, hS, hl⟩ := I
  have hbA : ¬ ax_A ad b := fun h => Nat.not_le.mpr hbl (hAs b h)
  obtain ⟨e968, e969, e970, e971, e972, e973, e974, e975, e976, e977, e978, e979, e980, e981, e982, e983, e984, e987, e988, e989, e990, e991, e992, e993, e994, e995, e996, e997, e998, e999, e1000, e1001, e1002, e1003, e1006, e1009, e1010⟩ := dl_21
  obtain ⟨a, m1, m2, h1, h2, hz2⟩ := t_way (xs (i + 1)) (xs (i + 2)) (xs (i + 3)) mm hz
  refine lv_aload_n hx hb e968 rfl (lv_at hl 2 rfl) ?_
  refine lw_arg (k := 1) hx hb hX hbl hbA hS hL (by omega) (by decide) hl e969 e970 e971 e972 e973 ?_
  refine lw_arg (k := 2) hx hb hX hbl hbA hS hL (by omega) (by decide) hl e974 e975 e976 e977 e978 ?_
  refine lw_arg (k := 3) hx hb hX hbl hbA hS hL (by omega) (by decide) hl e979 e980 e981 e982 e983 ?_
  refine lw_call (d := 30) (mt := 121) (k := 0) (r := []) (a1 := [.inl (xs (i + 1)), .inl (xs (i + 2)), .inl (xs (i + 3))]) hx hb hml hown hts hSt hinj rfl rfl rfl rfl rfl (by decide) (Nat.le_of_ble_eq_true rfl) (ax_ok1 trivial (ax_ok1 trivial (ax_ok1 trivial (fun v hv => by cases hv)))) (R_X10_way (by decide) h1) (List.mem_of_getElem? (i := 803) (by decide +kernel)) ⟨Nat.le_of_ble_eq_true rfl, Nat.le_of_ble_eq_true rfl⟩ hP hS hl.1 rfl (Nat.le_of_ble_eq_true rfl) ⟨Nat.le_of_ble_eq_true rfl, Nat.le_of_ble_eq_true rfl⟩ e984 (fun H locs hP hS => ?_)
  refine W.eq (g2 := F0 m 987 ls [.int a]) rfl ?_
  refine lv_aload_n hx hb e987 rfl (lv_at hl 1 rfl) ?_
  refine lw_arg (k := 1) hx hb hX hbl hbA hS hL (by omega) (by decide) hl e988 e989 e990 e991 e992 ?_
  refine lw_arg (k := 2) hx hb hX hbl hbA hS hL (by omega) (by decide) hl e993 e994 e995 e996 e997 ?_
  refine lw_arg (k := 3) hx hb hX hbl hbA hS hL (by omega) (by decide) hl e998 e999 e1000 e1001 e1002 ?_
  refine lw_call (d := 30) (mt := 216) (k := 22) (r := [.inl a]) (a1 := [.inl (xs (i + 1)), .inl (xs (i + 2)), .inl (xs (i + 3))]) hx hb hml hown hts hSt hinj rfl rfl rfl rfl rfl (by decide) (Nat.le_of_ble_eq_true rfl) (ax_ok1 trivial (ax_ok1 trivial (ax_ok1 trivial (fun v hv => by cases hv)))) (R_X11_way (by decide) h2) (List.mem_of_getElem? (i := 1406) (by decide +kernel)) ⟨Nat.le_of_ble_eq_true rfl, Nat.le_of_ble_eq_true rfl⟩ hP hS hl.1 rfl (Nat.le_of_ble_eq_true rfl) ⟨Nat.le_of_ble_eq_true rfl, Nat.le_of_ble_eq_true rfl⟩ e1003 (fun H locs hP hS => ?_)
  refine W.eq (g2 := F0 m 1006 ls [.int a, .int a]) rfl ?_
  refine lv_icmp_eq (tgt := 1715) hx hb e1006 (by decide) (fun _ => ?_) (fun h => absurd rfl h)
  exact lw_back hAs hS (fun hS => kk m2 _ ⟨hz2, hP, hS, hl⟩)
set_option maxRecDepth 100000 in
theorem dl_22 : decode code 1011 = .ok (.aload_n 1, 1) ∧ decode code 1012 = .ok (.aload_n 0, 1) ∧ decode code 1013 = .ok (.iload_n 3, 1) ∧ decode code 1014 = .ok (.iconst 1, 1) ∧ decode code 1015 = .ok (.iadd, 1) ∧ decode code 1016 = .ok (.iaload, 1) ∧ decode code 1017 = .ok (.aload_n 0, 1) ∧ decode code 1018 = .ok (.iload_n 3, 1) ∧ decode code 1019 = .ok (.iconst 2, 1) ∧ decode code 1020 = .ok (.iadd, 1) ∧ decode code 1021 = .ok (.iaload, 1) ∧ decode code 1022 = .ok (.invokevirtual 112, 3) ∧ decode code 1025 = .ok (.aload_n 2, 1) ∧ decode code 1026 = .ok (.aload_n 0, 1) ∧ decode code 1027 = .ok (.iload_n 3, 1) ∧ decode code 1028 = .ok (.iconst 1, 1) ∧ decode code 1029 = .ok (.iadd, 1) ∧ decode code 1030 = .ok (.iaload, 1) ∧ decode code 1031 = .ok (.aload_n 0, 1) ∧ decode code 1032 = .ok (.iload_n 3, 1) ∧ decode code 1033 = .ok (.iconst 2, 1) ∧ decode code 1034 = .ok (.iadd, 1) ∧ decode code 1035 = .ok (.iaload, 1) ∧ decode code 1036 = .ok (.invokevirtual 115, 3) ∧ decode code 1039 = .ok (.if_icmp .eq 676, 3) ∧ decode code 1042 = .ok (.iconst 0, 1) ∧ decode code 1043 = .ok (.ireturn, 1) := ⟨by decide +kernel, by decide +kernel, by decide +kernel, by decide +kernel, by decide +kernel, by decide +kernel, by decide +kernel, by decide +kernel, by decide +kernel, by decide +kernel, by decide +kernel, by decide +kernel, by decide +kernel, by decide +kernel, by decide +kernel, by decide +kernel, by decide +kernel, by decide +kernel, by decide +kernel, by decide +kernel, by decide +kernel, by decide +kernel, by decide +kernel, by decide +kernel, by decide +kernel, by decide +kernel, by decide +kernel⟩
set_option maxRecDepth 100000 in
theorem lc_22 {mm : ax_M} {i : Nat} {H : Heap} {ls : Array Slot} (C : lw_H p s m c b L xs D Ca ad adV) (hi : i + 6 ≤ L) (I : lw_I s b D Ca ad mm i H ls) (kk : ∀ (mm' : ax_M) (H' : Heap), lw_I s b D Ca ad mm' i H' ls → W p l e room_1 s m #[Value.ref b] below meth c H' [] 600000 7302250 Q (F0 m 1715 ls [])) : W p l e room_1 s m #[Value.ref b] below meth c H [] 600000 7302250 Q (F0 m 1011 ls []) := by
  obtain ⟨hx, hb, hml, hown, hts, hSt, hinj, hX, hbl, hAs, hL⟩ := C
  obtain ⟨hz, hP, hS, hl⟩ := I
  have hbA : ¬ ax_A ad b := fun h => Nat.not_le.mpr hbl (hAs b h)
  obtain ⟨e1011, e1012, e1013, e1014, e1015, e1016, e1017, e1018, e1019, e1020, e1021, e1022, e1025, e1026, e1027, e1028, e1029, e1030, e1031, e1032, e1033, e1034, e1035, e1036, e1039, e1042, e1043⟩ := dl_22
  obtain ⟨a, m1, m2, h1, h2, hz2⟩ := t_bar (xs (i + 1)) (xs (i + 2)) mm hz
  refine lv_aload_n hx hb e1011 rfl (lv_at hl 2 rfl) ?_
  refine lw_arg (k := 1) hx hb hX hbl hbA hS hL (by omega) (by decide) hl e1012 e1013 e1014 e1015 e1016 ?_
  refine lw_arg (k := 2) hx hb hX hbl hbA hS hL (by omega) (by decide) hl e1017 e1018 e1019 e1020 e1021 ?_
  refine lw_call (d := 30) (mt := 123) (k := 0) (r := []) (a1 := [.inl (xs (i + 1)), .inl (xs (i + 2))]) hx hb hml hown hts hSt hinj rfl rfl rfl rfl rfl (by decide) (Nat.le_of_ble_eq_true rfl) (ax_ok1 trivial (ax_ok1 trivial (fun v hv => by cases hv))) (R_X10_bar (by decide) h1) (List.mem_of_getElem? (i := 830) (by decide +kernel)) ⟨Nat.le_of_ble_eq_true rfl, Nat.le_of_ble_eq_true rfl⟩ hP hS hl.1 rfl (Nat.le_of_ble_eq_true rfl) ⟨Nat.le_of_ble_eq_true rfl, Nat.le_of_ble_eq_true rfl⟩ e1022 (fun H locs hP hS => ?_)
  refine W.eq (g2 := F0 m 1025 ls [.int a]) rfl ?_
  refine lv_aload_n hx hb e1025 rfl (lv_at hl 1 rfl) ?_
  refine lw_arg (k := 1) hx hb hX hbl hbA hS hL (by omega) (by decide) hl e1026 e1027 e1028 e1029 e1030 ?_
  refine lw_arg (k := 2) hx hb hX hbl hbA hS hL (by omega) (by decide) hl e1031 e1032 e1033 e1034 e1035 ?_
  refine lw_call (d := 30) (mt := 217) (k := 22) (r := [.inl a]) (a1 := [.inl (xs (i + 1)), .inl (xs (i + 2))]) hx hb hml hown hts hSt hinj rfl rfl rfl rfl rfl (by decide) (Nat.le_of_ble_eq_true rfl) (ax_ok1 trivial (ax_ok1 trivial (fun v hv => by cases hv))) (R_X11_bar (by decide) h2) (List.mem_of_getElem? (i := 1425) (by decide +kernel)) ⟨Nat.le_of_ble_eq_true rfl, Nat.le_of_ble_eq_true rfl⟩ hP hS hl.1 rfl (Nat.le_of_ble_eq_true rfl) ⟨Nat.le_of_ble_eq_true rfl, Nat.le_of_ble_eq_true rfl⟩ e1036 (fun H locs hP hS => ?_)
  refine W.eq (g2 := F0 m 1039 ls [.int a, .int a]) rfl ?_
  refine lv_icmp_eq (tgt := 1715) hx hb e1039 (by decide) (fun _ => ?_) (fun h => absurd rfl h)
  exact lw_back hAs hS (fun hS => kk m2 _ ⟨hz2, hP, hS, hl⟩)
set_option maxRecDepth 100000 in
theorem dl_23 : decode code 1044 = .ok (.aload_n 1, 1) ∧ decode code 1045 = .ok (.aload_n 0, 1) ∧ decode code 1046 = .ok (.iload_n 3, 1) ∧ decode code 1047 = .ok (.iconst 1, 1) ∧ decode code 1048 = .ok (.iadd, 1) ∧ decode code 1049 = .ok (.iaload, 1) ∧ decode code 1050 = .ok (.invokevirtual 116, 3) ∧ decode code 1053 = .ok (.aload_n 2, 1) ∧ decode code 1054 = .ok (.aload_n 0, 1) ∧ decode code 1055 = .ok (.iload_n 3, 1) ∧ decode code 1056 = .ok (.iconst 1, 1) ∧ decode code 1057 = .ok (.iadd, 1) ∧ decode code 1058 = .ok (.iaload, 1) ∧ decode code 1059 = .ok (.invokevirtual 119, 3) ∧ decode code 1062 = .ok (.if_icmp .eq 653, 3) ∧ decode code 1065 = .ok (.iconst 0, 1) ∧ decode code 1066 = .ok (.ireturn, 1) := ⟨by decide +kernel, by decide +kernel, by decide +kernel, by decide +kernel, by decide +kernel, by decide +kernel, by decide +kernel, by decide +kernel, by decide +kernel, by decide +kernel, by decide +kernel, by decide +kernel, by decide +kernel, by decide +kernel, by decide +kernel, by decide +kernel, by decide +kernel⟩
set_option maxRecDepth 100000 in
theorem lc_23 {mm : ax_M} {i : Nat} {H : Heap} {ls : Array Slot} (C : lw_H p s m c b L xs D Ca ad adV) (hi : i + 6 ≤ L) (I : lw_I s b D Ca ad mm i H ls) (kk : ∀ (mm' : ax_M) (H' : Heap), lw_I s b D Ca ad mm' i H' ls → W p l e room_1 s m #[Value.ref b] below meth c H' [] 600000 7302250 Q (F0 m 1715 ls [])) : W p l e room_1 s m #[Value.ref b] below meth c H [] 600000 7302250 Q (F0 m 1044 ls []) := by
  obtain ⟨hx, hb, hml, hown, hts, hSt, hinj, hX, hbl, hAs, hL⟩ := C
  obtain ⟨hz, hP, hS, hl⟩ := I
  have hbA : ¬ ax_A ad b := fun h => Nat.not_le.mpr hbl (hAs b h)
  obtain ⟨e1044, e1045, e1046, e1047, e1048, e1049, e1050, e1053, e1054, e1055, e1056, e1057, e1058, e1059, e1062, e1065, e1066⟩ := dl_23
  obtain ⟨a, m1, m2, h1, h2, hz2⟩ := t_reach (xs (i + 1)) mm hz
  refine lv_aload_n hx hb e1044 rfl (lv_at hl 2 rfl) ?_
  refine lw_arg (k := 1) hx hb hX hbl hbA hS hL (by omega) (by decide) hl e1045 e1046 e1047 e1048 e1049 ?_
  refine lw_call (d := 30) (mt := 124) (k := 0) (r := []) (a1 := [.inl (xs (i + 1))]) hx hb hml hown hts hSt hinj rfl rfl rfl rfl rfl (by decide) (Nat.le_of_ble_eq_true rfl) (ax_ok1 trivial (fun v hv => by cases hv)) (R_X10_reach (by decide) h1) (List.mem_of_getElem? (i := 839) (by decide +kernel)) ⟨Nat.le_of_ble_eq_true rfl, Nat.le_of_ble_eq_true rfl⟩ hP hS hl.1 rfl (Nat.le_of_ble_eq_true rfl) ⟨Nat.le_of_ble_eq_true rfl, Nat.le_of_ble_eq_true rfl⟩ e1050 (fun H locs hP hS => ?_)
  refine W.eq (g2 := F0 m 1053 ls [.int a]) rfl ?_
  refine lv_aload_n hx hb e1053 rfl (lv_at hl 1 rfl) ?_
  refine lw_arg (k := 1) hx hb hX hbl hbA hS hL (by omega) (by decide) hl e1054 e1055 e1056 e1057 e1058 ?_
  refine lw_call (d := 30) (mt := 218) (k := 22) (r := [.inl a]) (a1 := [.inl (xs (i + 1))]) hx hb hml hown hts hSt hinj rfl rfl rfl rfl rfl (by decide) (Nat.le_of_ble_eq_true rfl) (ax_ok1 trivial (fun v hv => by cases hv)) (R_X11_reach (by decide) h2) (List.mem_of_getElem? (i := 1429) (by decide +kernel)) ⟨Nat.le_of_ble_eq_true rfl, Nat.le_of_ble_eq_true rfl⟩ hP hS hl.1 rfl (Nat.le_of_ble_eq_true rfl) ⟨Nat.le_of_ble_eq_true rfl, Nat.le_of_ble_eq_true rfl⟩ e1059 (fun H locs hP hS => ?_)
  refine W.eq (g2 := F0 m 1062 ls [.int a, .int a]) rfl ?_
  refine lv_icmp_eq (tgt := 1715) hx hb e1062 (by decide) (fun _ => ?_) (fun h => absurd rfl h)
  exact lw_back hAs hS (fun hS => kk m2 _ ⟨hz2, hP, hS, hl⟩)
set_option maxRecDepth 100000 in
theorem dl_24 : decode code 1067 = .ok (.aload_n 1, 1) ∧ decode code 1068 = .ok (.aload_n 0, 1) ∧ decode code 1069 = .ok (.iload_n 3, 1) ∧ decode code 1070 = .ok (.iconst 1, 1) ∧ decode code 1071 = .ok (.iadd, 1) ∧ decode code 1072 = .ok (.iaload, 1) ∧ decode code 1073 = .ok (.invokevirtual 120, 3) ∧ decode code 1076 = .ok (.aload_n 2, 1) ∧ decode code 1077 = .ok (.aload_n 0, 1) ∧ decode code 1078 = .ok (.iload_n 3, 1) ∧ decode code 1079 = .ok (.iconst 1, 1) ∧ decode code 1080 = .ok (.iadd, 1) ∧ decode code 1081 = .ok (.iaload, 1) ∧ decode code 1082 = .ok (.invokevirtual 123, 3) ∧ decode code 1085 = .ok (.if_icmp .eq 630, 3) ∧ decode code 1088 = .ok (.iconst 0, 1) ∧ decode code 1089 = .ok (.ireturn, 1) := ⟨by decide +kernel, by decide +kernel, by decide +kernel, by decide +kernel, by decide +kernel, by decide +kernel, by decide +kernel, by decide +kernel, by decide +kernel, by decide +kernel, by decide +kernel, by decide +kernel, by decide +kernel, by decide +kernel, by decide +kernel, by decide +kernel, by decide +kernel⟩
set_option maxRecDepth 100000 in
theorem lc_24 {mm : ax_M} {i : Nat} {H : Heap} {ls : Array Slot} (C : lw_H p s m c b L xs D Ca ad adV) (hi : i + 6 ≤ L) (I : lw_I s b D Ca ad mm i H ls) (kk : ∀ (mm' : ax_M) (H' : Heap), lw_I s b D Ca ad mm' i H' ls → W p l e room_1 s m #[Value.ref b] below meth c H' [] 600000 7302250 Q (F0 m 1715 ls [])) : W p l e room_1 s m #[Value.ref b] below meth c H [] 600000 7302250 Q (F0 m 1067 ls []) := by
  obtain ⟨hx, hb, hml, hown, hts, hSt, hinj, hX, hbl, hAs, hL⟩ := C
  obtain ⟨hz, hP, hS, hl⟩ := I
  have hbA : ¬ ax_A ad b := fun h => Nat.not_le.mpr hbl (hAs b h)
  obtain ⟨e1067, e1068, e1069, e1070, e1071, e1072, e1073, e1076, e1077, e1078, e1079, e1080, e1081, e1082, e1085, e1088, e1089⟩ := dl_24
  obtain ⟨a, m1, m2, h1, h2, hz2⟩ := t_loud (xs (i + 1)) mm hz
  refine lv_aload_n hx hb e1067 rfl (lv_at hl 2 rfl) ?_
  refine lw_arg (k := 1) hx hb hX hbl hbA hS hL (by omega) (by decide) hl e1068 e1069 e1070 e1071 e1072 ?_
  refine lw_call (d := 30) (mt := 125) (k := 0) (r := []) (a1 := [.inl (xs (i + 1))]) hx hb hml hown hts hSt hinj rfl rfl rfl rfl rfl (by decide) (Nat.le_of_ble_eq_true rfl) (ax_ok1 trivial (fun v hv => by cases hv)) (R_X10_loud (by decide) h1) (List.mem_of_getElem? (i := 847) (by decide +kernel)) ⟨Nat.le_of_ble_eq_true rfl, Nat.le_of_ble_eq_true rfl⟩ hP hS hl.1 rfl (Nat.le_of_ble_eq_true rfl) ⟨Nat.le_of_ble_eq_true rfl, Nat.le_of_ble_eq_true rfl⟩ e1073 (fun H locs hP hS => ?_)
  refine W.eq (g2 := F0 m 1076 ls [.int a]) rfl ?_
  refine lv_aload_n hx hb e1076 rfl (lv_at hl 1 rfl) ?_
  refine lw_arg (k := 1) hx hb hX hbl hbA hS hL (by omega) (by decide) hl e1077 e1078 e1079 e1080 e1081 ?_
  refine lw_call (d := 30) (mt := 219) (k := 22) (r := [.inl a]) (a1 := [.inl (xs (i + 1))]) hx hb hml hown hts hSt hinj rfl rfl rfl rfl rfl (by decide) (Nat.le_of_ble_eq_true rfl) (ax_ok1 trivial (fun v hv => by cases hv)) (R_X11_loud (by decide) h2) (List.mem_of_getElem? (i := 1433) (by decide +kernel)) ⟨Nat.le_of_ble_eq_true rfl, Nat.le_of_ble_eq_true rfl⟩ hP hS hl.1 rfl (Nat.le_of_ble_eq_true rfl) ⟨Nat.le_of_ble_eq_true rfl, Nat.le_of_ble_eq_true rfl⟩ e1082 (fun H locs hP hS => ?_)
  refine W.eq (g2 := F0 m 1085 ls [.int a, .int a]) rfl ?_
  refine lv_icmp_eq (tgt := 1715) hx hb e1085 (by decide) (fun _ => ?_) (fun h => absurd rfl h)
  exact lw_back hAs hS (fun hS => kk m2 _ ⟨hz2, hP, hS, hl⟩)
set_option maxRecDepth 100000 in
theorem dl_25 : decode code 1090 = .ok (.aload_n 1, 1) ∧ decode code 1091 = .ok (.aload_n 0, 1) ∧ decode code 1092 = .ok (.iload_n 3, 1) ∧ decode code 1093 = .ok (.iconst 1, 1) ∧ decode code 1094 = .ok (.iadd, 1) ∧ decode code 1095 = .ok (.iaload, 1) ∧ decode code 1096 = .ok (.invokevirtual 124, 3) ∧ decode code 1099 = .ok (.aload_n 2, 1) ∧ decode code 1100 = .ok (.aload_n 0, 1) ∧ decode code 1101 = .ok (.iload_n 3, 1) ∧ decode code 1102 = .ok (.iconst 1, 1) ∧ decode code 1103 = .ok (.iadd, 1) ∧ decode code 1104 = .ok (.iaload, 1) ∧ decode code 1105 = .ok (.invokevirtual 127, 3) ∧ decode code 1108 = .ok (.if_icmp .eq 607, 3) ∧ decode code 1111 = .ok (.iconst 0, 1) ∧ decode code 1112 = .ok (.ireturn, 1) := ⟨by decide +kernel, by decide +kernel, by decide +kernel, by decide +kernel, by decide +kernel, by decide +kernel, by decide +kernel, by decide +kernel, by decide +kernel, by decide +kernel, by decide +kernel, by decide +kernel, by decide +kernel, by decide +kernel, by decide +kernel, by decide +kernel, by decide +kernel⟩
set_option maxRecDepth 100000 in
theorem lc_25 {mm : ax_M} {i : Nat} {H : Heap} {ls : Array Slot} (C : lw_H p s m c b L xs D Ca ad adV) (hi : i + 6 ≤ L) (I : lw_I s b D Ca ad mm i H ls) (kk : ∀ (mm' : ax_M) (H' : Heap), lw_I s b D Ca ad mm' i H' ls → W p l e room_1 s m #[Value.ref b] below meth c H' [] 600000 7302250 Q (F0 m 1715 ls [])) : W p l e room_1 s m #[Value.ref b] below meth c H [] 600000 7302250 Q (F0 m 1090 ls []) := by
  obtain ⟨hx, hb, hml, hown, hts, hSt, hinj, hX, hbl, hAs, hL⟩ := C
  obtain ⟨hz, hP, hS, hl⟩ := I
  have hbA : ¬ ax_A ad b := fun h => Nat.not_le.mpr hbl (hAs b h)
  obtain ⟨e1090, e1091, e1092, e1093, e1094, e1095, e1096, e1099, e1100, e1101, e1102, e1103, e1104, e1105, e1108, e1111, e1112⟩ := dl_25
  obtain ⟨a, m1, m2, h1, h2, hz2⟩ := t_together (xs (i + 1)) mm hz
  refine lv_aload_n hx hb e1090 rfl (lv_at hl 2 rfl) ?_
  refine lw_arg (k := 1) hx hb hX hbl hbA hS hL (by omega) (by decide) hl e1091 e1092 e1093 e1094 e1095 ?_
  refine lw_call (d := 30) (mt := 126) (k := 0) (r := []) (a1 := [.inl (xs (i + 1))]) hx hb hml hown hts hSt hinj rfl rfl rfl rfl rfl (by decide) (Nat.le_of_ble_eq_true rfl) (ax_ok1 trivial (fun v hv => by cases hv)) (R_X10_together (by decide) h1) (List.mem_of_getElem? (i := 852) (by decide +kernel)) ⟨Nat.le_of_ble_eq_true rfl, Nat.le_of_ble_eq_true rfl⟩ hP hS hl.1 rfl (Nat.le_of_ble_eq_true rfl) ⟨Nat.le_of_ble_eq_true rfl, Nat.le_of_ble_eq_true rfl⟩ e1096 (fun H locs hP hS => ?_)
  refine W.eq (g2 := F0 m 1099 ls [.int a]) rfl ?_
  refine lv_aload_n hx hb e1099 rfl (lv_at hl 1 rfl) ?_
  refine lw_arg (k := 1) hx hb hX hbl hbA hS hL (by omega) (by decide) hl e1100 e1101 e1102 e1103 e1104 ?_
  refine lw_call (d := 30) (mt := 220) (k := 22) (r := [.inl a]) (a1 := [.inl (xs (i + 1))]) hx hb hml hown hts hSt hinj rfl rfl rfl rfl rfl (by decide) (Nat.le_of_ble_eq_true rfl) (ax_ok1 trivial (fun v hv => by cases hv)) (R_X11_together (by decide) h2) (List.mem_of_getElem? (i := 1437) (by decide +kernel)) ⟨Nat.le_of_ble_eq_true rfl, Nat.le_of_ble_eq_true rfl⟩ hP hS hl.1 rfl (Nat.le_of_ble_eq_true rfl) ⟨Nat.le_of_ble_eq_true rfl, Nat.le_of_ble_eq_true rfl⟩ e1105 (fun H locs hP hS => ?_)
  refine W.eq (g2 := F0 m 1108 ls [.int a, .int a]) rfl ?_
  refine lv_icmp_eq (tgt := 1715) hx hb e1108 (by decide) (fun _ => ?_) (fun h => absurd rfl h)
  exact lw_back hAs hS (fun hS => kk m2 _ ⟨hz2, hP, hS, hl⟩)
set_option maxRecDepth 100000 in
theorem dl_26 : decode code 1113 = .ok (.aload_n 1, 1) ∧ decode code 1114 = .ok (.invokevirtual 128, 3) ∧ decode code 1117 = .ok (.aload_n 2, 1) ∧ decode code 1118 = .ok (.invokevirtual 131, 3) ∧ decode code 1121 = .ok (.if_icmp .eq 594, 3) ∧ decode code 1124 = .ok (.iconst 0, 1) ∧ decode code 1125 = .ok (.ireturn, 1) := ⟨by decide +kernel, by decide +kernel, by decide +kernel, by decide +kernel, by decide +kernel, by decide +kernel, by decide +kernel⟩
set_option maxRecDepth 100000 in
theorem lc_26 {mm : ax_M} {i : Nat} {H : Heap} {ls : Array Slot} (C : lw_H p s m c b L xs D Ca ad adV) (hi : i + 6 ≤ L) (I : lw_I s b D Ca ad mm i H ls) (kk : ∀ (mm' : ax_M) (H' : Heap), lw_I s b D Ca ad mm' i H' ls → W p l e room_1 s m #[Value.ref b] below meth c H' [] 600000 7302250 Q (F0 m 1715 ls [])) : W p l e room_1 s m #[Value.ref b] below meth c H [] 600000 7302250 Q (F0 m 1113 ls []) := by
  obtain ⟨hx, hb, hml, hown, hts, hSt, hinj, hX, hbl, hAs, hL⟩ := C
  obtain ⟨hz, hP, hS, hl⟩ := I
  have hbA : ¬ ax_A ad b := fun h => Nat.not_le.mpr hbl (hAs b h)
  obtain ⟨e1113, e1114, e1117, e1118, e1121, e1124, e1125⟩ := dl_26
  obtain ⟨G, hG⟩ := id hz
  obtain ⟨a, h1, h2⟩ := t_calm  mm G hG
  have hz2 := hz
  refine lv_aload_n hx hb e1113 rfl (lv_at hl 2 rfl) ?_
  refine lw_call (d := 30) (mt := 127) (k := 0) (r := []) (a1 := []) hx hb hml hown hts hSt hinj rfl rfl rfl rfl rfl (by decide) (Nat.le_of_ble_eq_true rfl) (fun v hv => by cases hv) (R_X10_calm (by decide) h1) (List.mem_of_getElem? (i := 856) (by decide +kernel)) ⟨Nat.le_of_ble_eq_true rfl, Nat.le_of_ble_eq_true rfl⟩ hP hS hl.1 rfl (Nat.le_of_ble_eq_true rfl) ⟨Nat.le_of_ble_eq_true rfl, Nat.le_of_ble_eq_true rfl⟩ e1114 (fun H locs hP hS => ?_)
  refine W.eq (g2 := F0 m 1117 ls [.int a]) rfl ?_
  refine lv_aload_n hx hb e1117 rfl (lv_at hl 1 rfl) ?_
  refine lw_call (d := 30) (mt := 221) (k := 22) (r := [.inl a]) (a1 := []) hx hb hml hown hts hSt hinj rfl rfl rfl rfl rfl (by decide) (Nat.le_of_ble_eq_true rfl) (fun v hv => by cases hv) (R_X11_calm (by decide) h2) (List.mem_of_getElem? (i := 1441) (by decide +kernel)) ⟨Nat.le_of_ble_eq_true rfl, Nat.le_of_ble_eq_true rfl⟩ hP hS hl.1 rfl (Nat.le_of_ble_eq_true rfl) ⟨Nat.le_of_ble_eq_true rfl, Nat.le_of_ble_eq_true rfl⟩ e1118 (fun H locs hP hS => ?_)
  refine W.eq (g2 := F0 m 1121 ls [.int a, .int a]) rfl ?_
  refine lv_icmp_eq (tgt := 1715) hx hb e1121 (by decide) (fun _ => ?_) (fun h => absurd rfl h)
  exact lw_back hAs hS (fun hS => kk mm _ ⟨hz2, hP, hS, hl⟩)
set_option maxRecDepth 100000 in
theorem dl_27 : decode code 1126 = .ok (.aload_n 1, 1) ∧ decode code 1127 = .ok (.invokevirtual 132, 3) ∧ decode code 1130 = .ok (.aload_n 2, 1) ∧ decode code 1131 = .ok (.invokevirtual 135, 3) ∧ decode code 1134 = .ok (.if_icmp .eq 581, 3) ∧ decode code 1137 = .ok (.iconst 0, 1) ∧ decode code 1138 = .ok (.ireturn, 1) := ⟨by decide +kernel, by decide +kernel, by decide +kernel, by decide +kernel, by decide +kernel, by decide +kernel, by decide +kernel⟩
set_option maxRecDepth 100000 in
theorem lc_27 {mm : ax_M} {i : Nat} {H : Heap} {ls : Array Slot} (C : lw_H p s m c b L xs D Ca ad adV) (hi : i + 6 ≤ L) (I : lw_I s b D Ca ad mm i H ls) (kk : ∀ (mm' : ax_M) (H' : Heap), lw_I s b D Ca ad mm' i H' ls → W p l e room_1 s m #[Value.ref b] below meth c H' [] 600000 7302250 Q (F0 m 1715 ls [])) : W p l e room_1 s m #[Value.ref b] below meth c H [] 600000 7302250 Q (F0 m 1126 ls []) := by
  obtain ⟨hx, hb, hml, hown, hts, hSt, hinj, hX, hbl, hAs, hL⟩ := C
  obtain ⟨hz, hP, hS, hl⟩ := I
  have hbA : ¬ ax_A ad b := fun h => Nat.not_le.mpr hbl (hAs b h)
  obtain ⟨e1126, e1127, e1130, e1131, e1134, e1137, e1138⟩ := dl_27
  obtain ⟨G, hG⟩ := id hz
  obtain ⟨a, h1, h2⟩ := t_idle  mm G hG
  have hz2 := hz
  refine lv_aload_n hx hb e1126 rfl (lv_at hl 2 rfl) ?_
  refine lw_call (d := 30) (mt := 128) (k := 0) (r := []) (a1 := []) hx hb hml hown hts hSt hinj rfl rfl rfl rfl rfl (by decide) (Nat.le_of_ble_eq_true rfl) (fun v hv => by cases hv) (R_X10_idle (by decide) h1) (List.mem_of_getElem? (i := 860) (by decide +kernel)) ⟨Nat.le_of_ble_eq_true rfl, Nat.le_of_ble_eq_true rfl⟩ hP hS hl.1 rfl (Nat.le_of_ble_eq_true rfl) ⟨Nat.le_of_ble_eq_true rfl, Nat.le_of_ble_eq_true rfl⟩ e1127 (fun H locs hP hS => ?_)
  refine W.eq (g2 := F0 m 1130 ls [.int a]) rfl ?_
  refine lv_aload_n hx hb e1130 rfl (lv_at hl 1 rfl) ?_
  refine lw_call (d := 30) (mt := 222) (k := 22) (r := [.inl a]) (a1 := []) hx hb hml hown hts hSt hinj rfl rfl rfl rfl rfl (by decide) (Nat.le_of_ble_eq_true rfl) (fun v hv => by cases hv) (R_X11_idle (by decide) h2) (List.mem_of_getElem? (i := 1445) (by decide +kernel)) ⟨Nat.le_of_ble_eq_true rfl, Nat.le_of_ble_eq_true rfl⟩ hP hS hl.1 rfl (Nat.le_of_ble_eq_true rfl) ⟨Nat.le_of_ble_eq_true rfl, Nat.le_of_ble_eq_true rfl⟩ e1131 (fun H locs hP hS => ?_)
  refine W.eq (g2 := F0 m 1134 ls [.int a, .int a]) rfl ?_
  refine lv_icmp_eq (tgt := 1715) hx hb e1134 (by decide) (fun _ => ?_) (fun h => absurd rfl h)
  exact lw_back hAs hS (fun hS => kk mm _ ⟨hz2, hP, hS, hl⟩)
set_option maxRecDepth 100000 in
theorem dl_28 : decode code 1139 = .ok (.aload_n 1, 1) ∧ decode code 1140 = .ok (.invokevirtual 136, 3) ∧ decode code 1143 = .ok (.aload_n 2, 1) ∧ decode code 1144 = .ok (.invokevirtual 139, 3) ∧ decode code 1147 = .ok (.if_icmp .eq 568, 3) ∧ decode code 1150 = .ok (.iconst 0, 1) ∧ decode code 1151 = .ok (.ireturn, 1) := ⟨by decide +kernel, by decide +kernel, by decide +kernel, by decide +kernel, by decide +kernel, by decide +kernel, by decide +kernel⟩
set_option maxRecDepth 100000 in
theorem lc_28 {mm : ax_M} {i : Nat} {H : Heap} {ls : Array Slot} (C : lw_H p s m c b L xs D Ca ad adV) (hi : i + 6 ≤ L) (I : lw_I s b D Ca ad mm i H ls) (kk : ∀ (mm' : ax_M) (H' : Heap), lw_I s b D Ca ad mm' i H' ls → W p l e room_1 s m #[Value.ref b] below meth c H' [] 600000 7302250 Q (F0 m 1715 ls [])) : W p l e room_1 s m #[Value.ref b] below meth c H [] 600000 7302250 Q (F0 m 1139 ls []) := by
  obtain ⟨hx, hb, hml, hown, hts, hSt, hinj, hX, hbl, hAs, hL⟩ := C
  obtain ⟨hz, hP, hS, hl⟩ := I
  have hbA : ¬ ax_A ad b := fun h => Nat.not_le.mpr hbl (hAs b h)
  obtain ⟨e1139, e1140, e1143, e1144, e1147, e1150, e1151⟩ := dl_28
  obtain ⟨a, m1, m2, h1, h2, hz2⟩ := t_worst  mm hz
  refine lv_aload_n hx hb e1139 rfl (lv_at hl 2 rfl) ?_
  refine lw_call (d := 30) (mt := 129) (k := 0) (r := []) (a1 := []) hx hb hml hown hts hSt hinj rfl rfl rfl rfl rfl (by decide) (Nat.le_of_ble_eq_true rfl) (fun v hv => by cases hv) (R_X10_worst (by decide) h1) (List.mem_of_getElem? (i := 866) (by decide +kernel)) ⟨Nat.le_of_ble_eq_true rfl, Nat.le_of_ble_eq_true rfl⟩ hP hS hl.1 rfl (Nat.le_of_ble_eq_true rfl) ⟨Nat.le_of_ble_eq_true rfl, Nat.le_of_ble_eq_true rfl⟩ e1140 (fun H locs hP hS => ?_)
  refine W.eq (g2 := F0 m 1143 ls [.int a]) rfl ?_
  refine lv_aload_n hx hb e1143 rfl (lv_at hl 1 rfl) ?_
  refine lw_call (d := 30) (mt := 223) (k := 22) (r := [.inl a]) (a1 := []) hx hb hml hown hts hSt hinj rfl rfl rfl rfl rfl (by decide) (Nat.le_of_ble_eq_true rfl) (fun v hv => by cases hv) (R_X11_worst (by decide) h2) (List.mem_of_getElem? (i := 1449) (by decide +kernel)) ⟨Nat.le_of_ble_eq_true rfl, Nat.le_of_ble_eq_true rfl⟩ hP hS hl.1 rfl (Nat.le_of_ble_eq_true rfl) ⟨Nat.le_of_ble_eq_true rfl, Nat.le_of_ble_eq_true rfl⟩ e1144 (fun H locs hP hS => ?_)
  refine W.eq (g2 := F0 m 1147 ls [.int a, .int a]) rfl ?_
  refine lv_icmp_eq (tgt := 1715) hx hb e1147 (by decide) (fun _ => ?_) (fun h => absurd rfl h)
  exact lw_back hAs hS (fun hS => kk m2 _ ⟨hz2, hP, hS, hl⟩)
set_option maxRecDepth 100000 in
theorem dl_29 : decode code 1152 = .ok (.aload_n 1, 1) ∧ decode code 1153 = .ok (.aload_n 0, 1) ∧ decode code 1154 = .ok (.iload_n 3, 1) ∧ decode code 1155 = .ok (.iconst 1, 1) ∧ decode code 1156 = .ok (.iadd, 1) ∧ decode code 1157 = .ok (.iaload, 1) ∧ decode code 1158 = .ok (.aload_n 0, 1) ∧ decode code 1159 = .ok (.iload_n 3, 1) ∧ decode code 1160 = .ok (.iconst 2, 1) ∧ decode code 1161 = .ok (.iadd, 1) ∧ decode code 1162 = .ok (.iaload, 1) ∧ decode code 1163 = .ok (.invokevirtual 140, 3) ∧ decode code 1166 = .ok (.aload_n 2, 1) ∧ decode code 1167 = .ok (.aload_n 0, 1) ∧ decode code 1168 = .ok (.iload_n 3, 1) ∧ decode code 1169 = .ok (.iconst 1, 1) ∧ decode code 1170 = .ok (.iadd, 1) ∧ decode code 1171 = .ok (.iaload, 1) ∧ decode code 1172 = .ok (.aload_n 0, 1) ∧ decode code 1173 = .ok (.iload_n 3, 1) ∧ decode code 1174 = .ok (.iconst 2, 1) ∧ decode code 1175 = .ok (.iadd, 1) ∧ decode code 1176 = .ok (.iaload, 1) ∧ decode code 1177 = .ok (.invokevirtual 143, 3) ∧ decode code 1180 = .ok (.if_icmp .eq 535, 3) ∧ decode code 1183 = .ok (.iconst 0, 1) ∧ decode code 1184 = .ok (.ireturn, 1) := ⟨by decide +kernel, by decide +kernel, by decide +kernel, by decide +kernel, by decide +kernel, by decide +kernel, by decide +kernel, by decide +kernel, by decide +kernel, by decide +kernel, by decide +kernel, by decide +kernel, by decide +kernel, by decide +kernel, by decide +kernel, by decide +kernel, by decide +kernel, by decide +kernel, by decide +kernel, by decide +kernel, by decide +kernel, by decide +kernel, by decide +kernel, by decide +kernel, by decide +kernel, by decide +kernel, by decide +kernel⟩
set_option maxRecDepth 100000 in
theorem lc_29 {mm : ax_M} {i : Nat} {H : Heap} {ls : Array Slot} (C : lw_H p s m c b L xs D Ca ad adV) (hi : i + 6 ≤ L) (I : lw_I s b D Ca ad mm i H ls) (kk : ∀ (mm' : ax_M) (H' : Heap), lw_I s b D Ca ad mm' i H' ls → W p l e room_1 s m #[Value.ref b] below meth c H' [] 600000 7302250 Q (F0 m 1715 ls [])) : W p l e room_1 s m #[Value.ref b] below meth c H [] 600000 7302250 Q (F0 m 1152 ls []) := by
  obtain ⟨hx, hb, hml, hown, hts, hSt, hinj, hX, hbl, hAs, hL⟩ := C
  obtain ⟨hz, hP, hS, hl⟩ := I
  have hbA : ¬ ax_A ad b := fun h => Nat.not_le.mpr hbl (hAs b h)
  obtain ⟨e1152, e1153, e1154, e1155, e1156, e1157, e1158, e1159, e1160, e1161, e1162, e1163, e1166, e1167, e1168, e1169, e1170, e1171, e1172, e1173, e1174, e1175, e1176, e1177, e1180, e1183, e1184⟩ := dl_29
  obtain ⟨a, m1, m2, h1, h2, hz2⟩ := t_chain (xs (i + 1)) (xs (i + 2)) mm hz
  refine lv_aload_n hx hb e1152 rfl (lv_at hl 2 rfl) ?_
  refine lw_arg (k := 1) hx hb hX hbl hbA hS hL (by omega) (by decide) hl e1153 e1154 e1155 e1156 e1157 ?_
  refine lw_arg (k := 2) hx hb hX hbl hbA hS hL (by omega) (by decide) hl e1158 e1159 e1160 e1161 e1162 ?_
  refine lw_call (d := 30) (mt := 130) (k := 0) (r := []) (a1 := [.inl (xs (i + 1)), .inl (xs (i + 2))]) hx hb hml hown hts hSt hinj rfl rfl rfl rfl rfl (by decide) (Nat.le_of_ble_eq_true rfl) (ax_ok1 trivial (ax_ok1 trivial (fun v hv => by cases hv))) (R_X10_chain (by decide) h1) (List.mem_of_getElem? (i := 870) (by decide +kernel)) ⟨Nat.le_of_ble_eq_true rfl, Nat.le_of_ble_eq_true rfl⟩ hP hS hl.1 rfl (Nat.le_of_ble_eq_true rfl) ⟨Nat.le_of_ble_eq_true rfl, Nat.le_of_ble_eq_true rfl⟩ e1163 (fun H locs hP hS => ?_)
  refine W.eq (g2 := F0 m 1166 ls [.int a]) rfl ?_
  refine lv_aload_n hx hb e1166 rfl (lv_at hl 1 rfl) ?_
  refine lw_arg (k := 1) hx hb hX hbl hbA hS hL (by omega) (by decide) hl e1167 e1168 e1169 e1170 e1171 ?_
  refine lw_arg (k := 2) hx hb hX hbl hbA hS hL (by omega) (by decide) hl e1172 e1173 e1174 e1175 e1176 ?_
  refine lw_call (d := 30) (mt := 224) (k := 22) (r := [.inl a]) (a1 := [.inl (xs (i + 1)), .inl (xs (i + 2))]) hx hb hml hown hts hSt hinj rfl rfl rfl rfl rfl (by decide) (Nat.le_of_ble_eq_true rfl) (ax_ok1 trivial (ax_ok1 trivial (fun v hv => by cases hv))) (R_X11_chain (by decide) h2) (List.mem_of_getElem? (i := 1453) (by decide +kernel)) ⟨Nat.le_of_ble_eq_true rfl, Nat.le_of_ble_eq_true rfl⟩ hP hS hl.1 rfl (Nat.le_of_ble_eq_true rfl) ⟨Nat.le_of_ble_eq_true rfl, Nat.le_of_ble_eq_true rfl⟩ e1177 (fun H locs hP hS => ?_)
  refine W.eq (g2 := F0 m 1180 ls [.int a, .int a]) rfl ?_
  refine lv_icmp_eq (tgt := 1715) hx hb e1180 (by decide) (fun _ => ?_) (fun h => absurd rfl h)
  exact lw_back hAs hS (fun hS => kk m2 _ ⟨hz2, hP, hS, hl⟩)
set_option maxRecDepth 100000 in
theorem dl_30 : decode code 1185 = .ok (.aload_n 1, 1) ∧ decode code 1186 = .ok (.invokevirtual 144, 3) ∧ decode code 1189 = .ok (.aload_n 2, 1) ∧ decode code 1190 = .ok (.invokevirtual 147, 3) ∧ decode code 1193 = .ok (.if_icmp .eq 522, 3) ∧ decode code 1196 = .ok (.iconst 0, 1) ∧ decode code 1197 = .ok (.ireturn, 1) := ⟨by decide +kernel, by decide +kernel, by decide +kernel, by decide +kernel, by decide +kernel, by decide +kernel, by decide +kernel⟩
set_option maxRecDepth 100000 in
theorem lc_30 {mm : ax_M} {i : Nat} {H : Heap} {ls : Array Slot} (C : lw_H p s m c b L xs D Ca ad adV) (hi : i + 6 ≤ L) (I : lw_I s b D Ca ad mm i H ls) (kk : ∀ (mm' : ax_M) (H' : Heap), lw_I s b D Ca ad mm' i H' ls → W p l e room_1 s m #[Value.ref b] below meth c H' [] 600000 7302250 Q (F0 m 1715 ls [])) : W p l e room_1 s m #[Value.ref b] below meth c H [] 600000 7302250 Q (F0 m 1185 ls []) := by
  obtain ⟨hx, hb, hml, hown, hts, hSt, hinj, hX, hbl, hAs, hL⟩ := C
  obtain ⟨hz, hP, hS, hl⟩ := I
  have hbA : ¬ ax_A ad b := fun h => Nat.not_le.mpr hbl (hAs b h)
  obtain ⟨e1185, e1186, e1189, e1190, e1193, e1196, e1197⟩ := dl_30
  obtain ⟨a, m1, m2, h1, h2, hz2⟩ := t_poorest  mm hz
  refine lv_aload_n hx hb e1185 rfl (lv_at hl 2 rfl) ?_
  refine lw_call (d := 30) (mt := 131) (k := 0) (r := []) (a1 := []) hx hb hml hown hts hSt hinj rfl rfl rfl rfl rfl (by decide) (Nat.le_of_ble_eq_true rfl) (fun v hv => by cases hv) (R_X10_poorest (by decide) h1) (List.mem_of_getElem? (i := 886) (by decide +kernel)) ⟨Nat.le_of_ble_eq_true rfl, Nat.le_of_ble_eq_true rfl⟩ hP hS hl.1 rfl (Nat.le_of_ble_eq_true rfl) ⟨Nat.le_of_ble_eq_true rfl, Nat.le_of_ble_eq_true rfl⟩ e1186 (fun H locs hP hS => ?_)
  refine W.eq (g2 := F0 m 1189 ls [.int a]) rfl ?_
  refine lv_aload_n hx hb e1189 rfl (lv_at hl 1 rfl) ?_
  refine lw_call (d := 30) (mt := 226) (k := 22) (r := [.inl a]) (a1 := []) hx hb hml hown hts hSt hinj rfl rfl rfl rfl rfl (by decide) (Nat.le_of_ble_eq_true rfl) (fun v hv => by cases hv) (R_X11_poorest (by decide) h2) (List.mem_of_getElem? (i := 1457) (by decide +kernel)) ⟨Nat.le_of_ble_eq_true rfl, Nat.le_of_ble_eq_true rfl⟩ hP hS hl.1 rfl (Nat.le_of_ble_eq_true rfl) ⟨Nat.le_of_ble_eq_true rfl, Nat.le_of_ble_eq_true rfl⟩ e1190 (fun H locs hP hS => ?_)
  refine W.eq (g2 := F0 m 1193 ls [.int a, .int a]) rfl ?_
  refine lv_icmp_eq (tgt := 1715) hx hb e1193 (by decide) (fun _ => ?_) (fun h => absurd rfl h)
  exact lw_back hAs hS (fun hS => kk m2 _ ⟨hz2, hP, hS, hl⟩)
set_option maxRecDepth 100000 in
theorem dl_31 : decode code 1198 = .ok (.aload_n 1, 1) ∧ decode code 1199 = .ok (.aload_n 0, 1) ∧ decode code 1200 = .ok (.iload_n 3, 1) ∧ decode code 1201 = .ok (.iconst 1, 1) ∧ decode code 1202 = .ok (.iadd, 1) ∧ decode code 1203 = .ok (.iaload, 1) ∧ decode code 1204 = .ok (.aload_n 0, 1) ∧ decode code 1205 = .ok (.iload_n 3, 1) ∧ decode code 1206 = .ok (.iconst 2, 1) ∧ decode code 1207 = .ok (.iadd, 1) ∧ decode code 1208 = .ok (.iaload, 1) ∧ decode code 1209 = .ok (.invokevirtual 148, 3) ∧ decode code 1212 = .ok (.aload_n 2, 1) ∧ decode code 1213 = .ok (.aload_n 0, 1) ∧ decode code 1214 = .ok (.iload_n 3, 1) ∧ decode code 1215 = .ok (.iconst 1, 1) ∧ decode code 1216 = .ok (.iadd, 1) ∧ decode code 1217 = .ok (.iaload, 1) ∧ decode code 1218 = .ok (.aload_n 0, 1) ∧ decode code 1219 = .ok (.iload_n 3, 1) ∧ decode code 1220 = .ok (.iconst 2, 1) ∧ decode code 1221 = .ok (.iadd, 1) ∧ decode code 1222 = .ok (.iaload, 1) ∧ decode code 1223 = .ok (.invokevirtual 151, 3) ∧ decode code 1226 = .ok (.if_icmp .eq 489, 3) ∧ decode code 1229 = .ok (.iconst 0, 1) ∧ decode code 1230 = .ok (.ireturn, 1) := ⟨by decide +kernel, by decide +kernel, by decide +kernel, by decide +kernel, by decide +kernel, by decide +kernel, by decide +kernel, by decide +kernel, by decide +kernel, by decide +kernel, by decide +kernel, by decide +kernel, by decide +kernel, by decide +kernel, by decide +kernel, by decide +kernel, by decide +kernel, by decide +kernel, by decide +kernel, by decide +kernel, by decide +kernel, by decide +kernel, by decide +kernel, by decide +kernel, by decide +kernel, by decide +kernel, by decide +kernel⟩
set_option maxRecDepth 100000 in
theorem lc_31 {mm : ax_M} {i : Nat} {H : Heap} {ls : Array Slot} (C : lw_H p s m c b L xs D Ca ad adV) (hi : i + 6 ≤ L) (I : lw_I s b D Ca ad mm i H ls) (kk : ∀ (mm' : ax_M) (H' : Heap), lw_I s b D Ca ad mm' i H' ls → W p l e room_1 s m #[Value.ref b] below meth c H' [] 600000 7302250 Q (F0 m 1715 ls [])) : W p l e room_1 s m #[Value.ref b] below meth c H [] 600000 7302250 Q (F0 m 1198 ls []) := by
  obtain ⟨hx, hb, hml, hown, hts, hSt, hinj, hX, hbl, hAs, hL⟩ := C
  obtain ⟨hz, hP, hS, hl⟩ := I
  have hbA : ¬ ax_A ad b := fun h => Nat.not_le.mpr hbl (hAs b h)
  obtain ⟨e1198, e1199, e1200, e1201, e1202, e1203, e1204, e1205, e1206, e1207, e1208, e1209, e1212, e1213, e1214, e1215, e1216, e1217, e1218, e1219, e1220, e1221, e1222, e1223, e1226, e1229, e1230⟩ := dl_31
  obtain ⟨a, m1, m2, h1, h2, hz2⟩ := t_due (xs (i + 1)) (xs (i + 2)) mm hz
  refine lv_aload_n hx hb e1198 rfl (lv_at hl 2 rfl) ?_
  refine lw_arg (k := 1) hx hb hX hbl hbA hS hL (by omega) (by decide) hl e1199 e1200 e1201 e1202 e1203 ?_
  refine lw_arg (k := 2) hx hb hX hbl hbA hS hL (by omega) (by decide) hl e1204 e1205 e1206 e1207 e1208 ?_
  refine lw_call (d := 30) (mt := 132) (k := 0) (r := []) (a1 := [.inl (xs (i + 1)), .inl (xs (i + 2))]) hx hb hml hown hts hSt hinj rfl rfl rfl rfl rfl (by decide) (Nat.le_of_ble_eq_true rfl) (ax_ok1 trivial (ax_ok1 trivial (fun v hv => by cases hv))) (R_X10_due (by decide) h1) (List.mem_of_getElem? (i := 896) (by decide +kernel)) ⟨Nat.le_of_ble_eq_true rfl, Nat.le_of_ble_eq_true rfl⟩ hP hS hl.1 rfl (Nat.le_of_ble_eq_true rfl) ⟨Nat.le_of_ble_eq_true rfl, Nat.le_of_ble_eq_true rfl⟩ e1209 (fun H locs hP hS => ?_)
  refine W.eq (g2 := F0 m 1212 ls [.int a]) rfl ?_
  refine lv_aload_n hx hb e1212 rfl (lv_at hl 1 rfl) ?_
  refine lw_arg (k := 1) hx hb hX hbl hbA hS hL (by omega) (by decide) hl e1213 e1214 e1215 e1216 e1217 ?_
  refine lw_arg (k := 2) hx hb hX hbl hbA hS hL (by omega) (by decide) hl e1218 e1219 e1220 e1221 e1222 ?_
  refine lw_call (d := 30) (mt := 228) (k := 22) (r := [.inl a]) (a1 := [.inl (xs (i + 1)), .inl (xs (i + 2))]) hx hb hml hown hts hSt hinj rfl rfl rfl rfl rfl (by decide) (Nat.le_of_ble_eq_true rfl) (ax_ok1 trivial (ax_ok1 trivial (fun v hv => by cases hv))) (R_X11_due (by decide) h2) (List.mem_of_getElem? (i := 1465) (by decide +kernel)) ⟨Nat.le_of_ble_eq_true rfl, Nat.le_of_ble_eq_true rfl⟩ hP hS hl.1 rfl (Nat.le_of_ble_eq_true rfl) ⟨Nat.le_of_ble_eq_true rfl, Nat.le_of_ble_eq_true rfl⟩ e1223 (fun H locs hP hS => ?_)
  refine W.eq (g2 := F0 m 1226 ls [.int a, .int a]) rfl ?_
  refine lv_icmp_eq (tgt := 1715) hx hb e1226 (by decide) (fun _ => ?_) (fun h => absurd rfl h)
  exact lw_back hAs hS (fun hS => kk m2 _ ⟨hz2, hP, hS, hl⟩)
set_option maxRecDepth 100000 in
theorem dl_32 : decode code 1231 = .ok (.aload_n 1, 1) ∧ decode code 1232 = .ok (.invokevirtual 152, 3) ∧ decode code 1235 = .ok (.aload_n 2, 1) ∧ decode code 1236 = .ok (.invokevirtual 155, 3) ∧ decode code 1239 = .ok (.if_icmp .eq 476, 3) ∧ decode code 1242 = .ok (.iconst 0, 1) ∧ decode code 1243 = .ok (.ireturn, 1) := ⟨by decide +kernel, by decide +kernel, by decide +kernel, by decide +kernel, by decide +kernel, by decide +kernel, by decide +kernel⟩
set_option maxRecDepth 100000 in
theorem lc_32 {mm : ax_M} {i : Nat} {H : Heap} {ls : Array Slot} (C : lw_H p s m c b L xs D Ca ad adV) (hi : i + 6 ≤ L) (I : lw_I s b D Ca ad mm i H ls) (kk : ∀ (mm' : ax_M) (H' : Heap), lw_I s b D Ca ad mm' i H' ls → W p l e room_1 s m #[Value.ref b] below meth c H' [] 600000 7302250 Q (F0 m 1715 ls [])) : W p l e room_1 s m #[Value.ref b] below meth c H [] 600000 7302250 Q (F0 m 1231 ls []) := by
  obtain ⟨hx, hb, hml, hown, hts, hSt, hinj, hX, hbl, hAs, hL⟩ := C
  obtain ⟨hz, hP, hS, hl⟩ := I
  have hbA : ¬ ax_A ad b := fun h => Nat.not_le.mpr hbl (hAs b h)
  obtain ⟨e1231, e1232, e1235, e1236, e1239, e1242, e1243⟩ := dl_32
  obtain ⟨a, m1, m2, h1, h2, hz2⟩ := t_bare  mm hz
  obtain ⟨h1, rfl⟩ := zpu_of h1
  refine lv_aload_n hx hb e1231 rfl (lv_at hl 2 rfl) ?_
  refine lw_call (d := 30) (mt := 133) (k := 0) (r := []) (a1 := []) hx hb hml hown hts hSt hinj rfl rfl rfl rfl rfl (by decide) (Nat.le_of_ble_eq_true rfl) (fun v hv => by cases hv) (R_X10_bare (by decide) h1) (List.mem_of_getElem? (i := 905) (by decide +kernel)) ⟨Nat.le_of_ble_eq_true rfl, Nat.le_of_ble_eq_true rfl⟩ hP hS hl.1 rfl (Nat.le_of_ble_eq_true rfl) ⟨Nat.le_of_ble_eq_true rfl, Nat.le_of_ble_eq_true rfl⟩ e1232 (fun H locs hP hS => ?_)
  refine W.eq (g2 := F0 m 1235 ls [.int a]) rfl ?_
  refine lv_aload_n hx hb e1235 rfl (lv_at hl 1 rfl) ?_
  refine lw_call (d := 30) (mt := 229) (k := 22) (r := [.inl a]) (a1 := []) hx hb hml hown hts hSt hinj rfl rfl rfl rfl rfl (by decide) (Nat.le_of_ble_eq_true rfl) (fun v hv => by cases hv) (R_X11_bare (by decide) h2) (List.mem_of_getElem? (i := 1473) (by decide +kernel)) ⟨Nat.le_of_ble_eq_true rfl, Nat.le_of_ble_eq_true rfl⟩ hP hS hl.1 rfl (Nat.le_of_ble_eq_true rfl) ⟨Nat.le_of_ble_eq_true rfl, Nat.le_of_ble_eq_true rfl⟩ e1236 (fun H locs hP hS => ?_)
  refine W.eq (g2 := F0 m 1239 ls [.int a, .int a]) rfl ?_
  refine lv_icmp_eq (tgt := 1715) hx hb e1239 (by decide) (fun _ => ?_) (fun h => absurd rfl h)
  exact lw_back hAs hS (fun hS => kk m2 _ ⟨hz2, hP, hS, hl⟩)
set_option maxRecDepth 100000 in
theorem dl_33 : decode code 1244 = .ok (.aload_n 1, 1) ∧ decode code 1245 = .ok (.aload_n 0, 1) ∧ decode code 1246 = .ok (.iload_n 3, 1) ∧ decode code 1247 = .ok (.iconst 1, 1) ∧ decode code 1248 = .ok (.iadd, 1) ∧ decode code 1249 = .ok (.iaload, 1) ∧ decode code 1250 = .ok (.invokevirtual 156, 3) ∧ decode code 1253 = .ok (.aload_n 2, 1) ∧ decode code 1254 = .ok (.aload_n 0, 1) ∧ decode code 1255 = .ok (.iload_n 3, 1) ∧ decode code 1256 = .ok (.iconst 1, 1) ∧ decode code 1257 = .ok (.iadd, 1) ∧ decode code 1258 = .ok (.iaload, 1) ∧ decode code 1259 = .ok (.invokevirtual 159, 3) ∧ decode code 1262 = .ok (.if_icmp .eq 453, 3) ∧ decode code 1265 = .ok (.iconst 0, 1) ∧ decode code 1266 = .ok (.ireturn, 1) := ⟨by decide +kernel, by decide +kernel, by decide +kernel, by decide +kernel, by decide +kernel, by decide +kernel, by decide +kernel, by decide +kernel, by decide +kernel, by decide +kernel, by decide +kernel, by decide +kernel, by decide +kernel, by decide +kernel, by decide +kernel, by decide +kernel, by decide +kernel⟩
set_option maxRecDepth 100000 in
theorem lc_33 {mm : ax_M} {i : Nat} {H : Heap} {ls : Array Slot} (C : lw_H p s m c b L xs D Ca ad adV) (hi : i + 6 ≤ L) (I : lw_I s b D Ca ad mm i H ls) (kk : ∀ (mm' : ax_M) (H' : Heap), lw_I s b D Ca ad mm' i H' ls → W p l e room_1 s m #[Value.ref b] below meth c H' [] 600000 7302250 Q (F0 m 1715 ls [])) : W p l e room_1 s m #[Value.ref b] below meth c H [] 600000 7302250 Q (F0 m 1244 ls []) := by
  obtain ⟨hx, hb, hml, hown, hts, hSt, hinj, hX, hbl, hAs, hL⟩ := C
  obtain ⟨hz, hP, hS, hl⟩ := I
  have hbA : ¬ ax_A ad b := fun h => Nat.not_le.mpr hbl (hAs b h)
  obtain ⟨e1244, e1245, e1246, e1247, e1248, e1249, e1250, e1253, e1254, e1255, e1256, e1257, e1258, e1259, e1262, e1265, e1266⟩ := dl_33
  obtain ⟨a, m1, m2, h1, h2, hz2⟩ := t_net (xs (i + 1)) mm hz
  refine lv_aload_n hx hb e1244 rfl (lv_at hl 2 rfl) ?_
  refine lw_arg (k := 1) hx hb hX hbl hbA hS hL (by omega) (by decide) hl e1245 e1246 e1247 e1248 e1249 ?_
  refine lw_call (d := 30) (mt := 134) (k := 0) (r := []) (a1 := [.inl (xs (i + 1))]) hx hb hml hown hts hSt hinj rfl rfl rfl rfl rfl (by decide) (Nat.le_of_ble_eq_true rfl) (ax_ok1 trivial (fun v hv => by cases hv)) (R_X10_net (by decide) h1) (List.mem_of_getElem? (i := 918) (by decide +kernel)) ⟨Nat.le_of_ble_eq_true rfl, Nat.le_of_ble_eq_true rfl⟩ hP hS hl.1 rfl (Nat.le_of_ble_eq_true rfl) ⟨Nat.le_of_ble_eq_true rfl, Nat.le_of_ble_eq_true rfl⟩ e1250 (fun H locs hP hS => ?_)
  refine W.eq (g2 := F0 m 1253 ls [.int a]) rfl ?_
  refine lv_aload_n hx hb e1253 rfl (lv_at hl 1 rfl) ?_
  refine lw_arg (k := 1) hx hb hX hbl hbA hS hL (by omega) (by decide) hl e1254 e1255 e1256 e1257 e1258 ?_
  refine lw_call (d := 30) (mt := 230) (k := 22) (r := [.inl a]) (a1 := [.inl (xs (i + 1))]) hx hb hml hown hts hSt hinj rfl rfl rfl rfl rfl (by decide) (Nat.le_of_ble_eq_true rfl) (ax_ok1 trivial (fun v hv => by cases hv)) (R_X11_net (by decide) h2) (List.mem_of_getElem? (i := 1477) (by decide +kernel)) ⟨Nat.le_of_ble_eq_true rfl, Nat.le_of_ble_eq_true rfl⟩ hP hS hl.1 rfl (Nat.le_of_ble_eq_true rfl) ⟨Nat.le_of_ble_eq_true rfl, Nat.le_of_ble_eq_true rfl⟩ e1259 (fun H locs hP hS => ?_)
  refine W.eq (g2 := F0 m 1262 ls [.int a, .int a]) rfl ?_
  refine lv_icmp_eq (tgt := 1715) hx hb e1262 (by decide) (fun _ => ?_) (fun h => absurd rfl h)
  exact lw_back hAs hS (fun hS => kk m2 _ ⟨hz2, hP, hS, hl⟩)
end LAWC
