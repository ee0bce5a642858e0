set_option maxHeartbeats 4000000 in
set_option maxRecDepth 100000 in
theorem cs_mixed {p : Program} {l : Launch} {e : Env} {s : State} {m : MethodId} {below : List Frame} {meth : Method} {c : Code} {H : Heap} {locs : List Loc} {cells slots : Nat} {Q : State → Prop} {ls : Array Slot} {G : GG} {S : SM} {X Y : va_W} {b L a b' i : Nat} {z : Int} {xs : Nat → Int32} (lc : LwC p s m meth c b L xs G) (hL : L ≤ 3072) (hi : i + 6 ≤ L) (hz : z < 1000000) (hs : LwS s G S H locs (X ++ Y)) (hI : Inv G S z a b' X Y) (hl : lv_has ls 4 [(0, .ref b), (1, .ref a), (2, .ref b'), (3, .int (kI (i : Int)))]) (hr : cells ≤ 500000 ∧ slots ≤ 7000000) (kk : LwK p l e s m below meth c G b a b' (z + 1) (cells + 5) (slots + 4000) Q ls) : W p l e room_1 s m #[Value.ref b] below meth c H locs cells slots Q (F0 m 931 ls []) := by
  have hx := lc.1.1
  have hb := lc.1.2.1
  obtain ⟨f1, hm1⟩ := hI.m1
  obtain ⟨f2, hm2⟩ := hI.m2
  obtain ⟨v, X1, Y1, hA, hB, hJ⟩ := st_mixed (l := l) (kI_range (xs (i + 1))) (kI_range (xs (i + 2))) hI
  refine lv_aload_n hx hb dL_law_931 rfl (lv_at hl 1 rfl) ?_
  refine ll_arg (k := 1) lc hL hs hl (by omega) rfl dL_law_932 dL_law_933 dL_law_934 dL_law_935 dL_law_936 ?_
  refine ll_arg (k := 2) lc hL hs hl (by omega) rfl dL_law_937 dL_law_938 dL_law_939 dL_law_940 dL_law_941 ?_
  refine ll_L lc hs (ct_L (hA _) (List.Perm.refl _) (List.Perm.refl _)) mv_L_128 (List.mem_append_left _ hm1) rfl ⟨Nat.le_of_ble_eq_true rfl, Nat.le_of_ble_eq_true rfl⟩ rfl hl.1 rfl (Nat.le_of_ble_eq_true rfl) dL_law_942 ⟨lwq_r hr.1 (Nat.le_of_ble_eq_true rfl), lwq_s hr.2 (Nat.le_of_ble_eq_true rfl)⟩ (fun H locs hs => ?_)
  refine lv_aload_n hx hb dL_law_945 rfl (lv_at hl 2 rfl) ?_
  refine ll_arg (k := 1) lc hL hs hl (by omega) rfl dL_law_946 dL_law_947 dL_law_948 dL_law_949 dL_law_950 ?_
  refine ll_arg (k := 2) lc hL hs hl (by omega) rfl dL_law_951 dL_law_952 dL_law_953 dL_law_954 dL_law_955 ?_
  refine ll_L lc hs (ct_L (hB _) List.perm_append_comm List.perm_append_comm) mv_L_131 (List.mem_append_right _ hm2) rfl ⟨Nat.le_of_ble_eq_true rfl, Nat.le_of_ble_eq_true rfl⟩ rfl hl.1 rfl (Nat.le_of_ble_eq_true rfl) dL_law_956 ⟨lwq_r2 hr.1 (Nat.le_of_ble_eq_true rfl), lwq_s2 hr.2 (Nat.le_of_ble_eq_true rfl)⟩ (fun H locs hs => ?_)
  refine ll_eqL lc dL_law_959 dL_law_960 (by decide) ?_
  exact W.widen (lwq_c (Nat.le_of_ble_eq_true rfl)) (lwq_c (Nat.le_of_ble_eq_true rfl)) (kk _ _ _ _ _ hs (hJ.mono (by omega)))
set_option maxHeartbeats 4000000 in
set_option maxRecDepth 100000 in
theorem cs_resample {p : Program} {l : Launch} {e : Env} {s : State} {m : MethodId} {below : List Frame} {meth : Method} {c : Code} {H : Heap} {locs : List Loc} {cells slots : Nat} {Q : State → Prop} {ls : Array Slot} {G : GG} {S : SM} {X Y : va_W} {b L a b' i : Nat} {z : Int} {xs : Nat → Int32} (lc : LwC p s m meth c b L xs G) (hL : L ≤ 3072) (hi : i + 6 ≤ L) (hz : z < 1000000) (hs : LwS s G S H locs (X ++ Y)) (hI : Inv G S z a b' X Y) (hl : lv_has ls 4 [(0, .ref b), (1, .ref a), (2, .ref b'), (3, .int (kI (i : Int)))]) (hr : cells ≤ 500000 ∧ slots ≤ 7000000) (kk : LwK p l e s m below meth c G b a b' (z + 1) (cells + 5) (slots + 4000) Q ls) : W p l e room_1 s m #[Value.ref b] below meth c H locs cells slots Q (F0 m 965 ls []) := by
  have hx := lc.1.1
  have hb := lc.1.2.1
  obtain ⟨f1, hm1⟩ := hI.m1
  obtain ⟨f2, hm2⟩ := hI.m2
  obtain ⟨v, X1, Y1, hA, hB, hJ⟩ := st_resample (l := l) (kL_range ((xs (i + 1)).toInt64 <<< ((32 : Int32).toInt64 &&& 63) ||| ((xs (i + 2)).toInt64 &&& 4294967295))) (kI_range (xs (i + 3))) hI
  refine lv_aload_n hx hb dL_law_965 rfl (lv_at hl 1 rfl) ?_
  refine ll_seed lc hL hs hl hi kw_L132 dL_law_966 dL_law_967 dL_law_968 dL_law_969 dL_law_970 dL_law_971 dL_law_972 dL_law_974 dL_law_975 dL_law_976 dL_law_977 dL_law_978 dL_law_979 dL_law_980 dL_law_981 dL_law_984 dL_law_985 ?_
  refine ll_arg (k := 3) lc hL hs hl (by omega) rfl dL_law_986 dL_law_987 dL_law_988 dL_law_989 dL_law_990 ?_
  refine ll_L lc hs (ct_L (hA _) (List.Perm.refl _) (List.Perm.refl _)) mv_L_134 (List.mem_append_left _ hm1) rfl ⟨Nat.le_of_ble_eq_true rfl, Nat.le_of_ble_eq_true rfl⟩ rfl hl.1 rfl (Nat.le_of_ble_eq_true rfl) dL_law_991 ⟨lwq_r hr.1 (Nat.le_of_ble_eq_true rfl), lwq_s hr.2 (Nat.le_of_ble_eq_true rfl)⟩ (fun H locs hs => ?_)
  refine lv_aload_n hx hb dL_law_994 rfl (lv_at hl 2 rfl) ?_
  refine ll_seed lc hL hs hl hi kw_L132 dL_law_995 dL_law_996 dL_law_997 dL_law_998 dL_law_999 dL_law_1000 dL_law_1001 dL_law_1003 dL_law_1004 dL_law_1005 dL_law_1006 dL_law_1007 dL_law_1008 dL_law_1009 dL_law_1010 dL_law_1013 dL_law_1014 ?_
  refine ll_arg (k := 3) lc hL hs hl (by omega) rfl dL_law_1015 dL_law_1016 dL_law_1017 dL_law_1018 dL_law_1019 ?_
  refine ll_L lc hs (ct_L (hB _) List.perm_append_comm List.perm_append_comm) mv_L_138 (List.mem_append_right _ hm2) rfl ⟨Nat.le_of_ble_eq_true rfl, Nat.le_of_ble_eq_true rfl⟩ rfl hl.1 rfl (Nat.le_of_ble_eq_true rfl) dL_law_1020 ⟨lwq_r2 hr.1 (Nat.le_of_ble_eq_true rfl), lwq_s2 hr.2 (Nat.le_of_ble_eq_true rfl)⟩ (fun H locs hs => ?_)
  refine ll_eqL lc dL_law_1023 dL_law_1024 (by decide) ?_
  exact W.widen (lwq_c (Nat.le_of_ble_eq_true rfl)) (lwq_c (Nat.le_of_ble_eq_true rfl)) (kk _ _ _ _ _ hs (hJ.mono (by omega)))
set_option maxHeartbeats 4000000 in
set_option maxRecDepth 100000 in
theorem cs_inversions {p : Program} {l : Launch} {e : Env} {s : State} {m : MethodId} {below : List Frame} {meth : Method} {c : Code} {H : Heap} {locs : List Loc} {cells slots : Nat} {Q : State → Prop} {ls : Array Slot} {G : GG} {S : SM} {X Y : va_W} {b L a b' i : Nat} {z : Int} {xs : Nat → Int32} (lc : LwC p s m meth c b L xs G) (hL : L ≤ 3072) (hi : i + 6 ≤ L) (hz : z < 1000000) (hs : LwS s G S H locs (X ++ Y)) (hI : Inv G S z a b' X Y) (hl : lv_has ls 4 [(0, .ref b), (1, .ref a), (2, .ref b'), (3, .int (kI (i : Int)))]) (hr : cells ≤ 500000 ∧ slots ≤ 7000000) (kk : LwK p l e s m below meth c G b a b' (z + 1) (cells + 5) (slots + 4000) Q ls) : W p l e room_1 s m #[Value.ref b] below meth c H locs cells slots Q (F0 m 1029 ls []) := by
  have hx := lc.1.1
  have hb := lc.1.2.1
  obtain ⟨f1, hm1⟩ := hI.m1
  obtain ⟨f2, hm2⟩ := hI.m2
  obtain ⟨v, X1, Y1, hA, hB, hJ⟩ := st_inversions (l := l) hI
  refine lv_aload_n hx hb dL_law_1029 rfl (lv_at hl 1 rfl) ?_
  refine ll_I lc hs (ct_I (hA _) (List.Perm.refl _) (List.Perm.refl _)) mv_L_139 (List.mem_append_left _ hm1) rfl ⟨Nat.le_of_ble_eq_true rfl, Nat.le_of_ble_eq_true rfl⟩ rfl hl.1 rfl (Nat.le_of_ble_eq_true rfl) dL_law_1030 ⟨lwq_r hr.1 (Nat.le_of_ble_eq_true rfl), lwq_s hr.2 (Nat.le_of_ble_eq_true rfl)⟩ (fun H locs hs => ?_)
  refine lv_aload_n hx hb dL_law_1033 rfl (lv_at hl 2 rfl) ?_
  refine ll_I lc hs (ct_I (hB _) List.perm_append_comm List.perm_append_comm) mv_L_142 (List.mem_append_right _ hm2) rfl ⟨Nat.le_of_ble_eq_true rfl, Nat.le_of_ble_eq_true rfl⟩ rfl hl.1 rfl (Nat.le_of_ble_eq_true rfl) dL_law_1034 ⟨lwq_r2 hr.1 (Nat.le_of_ble_eq_true rfl), lwq_s2 hr.2 (Nat.le_of_ble_eq_true rfl)⟩ (fun H locs hs => ?_)
  refine ll_eqI lc dL_law_1037 (by decide) ?_
  exact W.widen (lwq_c (Nat.le_of_ble_eq_true rfl)) (lwq_c (Nat.le_of_ble_eq_true rfl)) (kk _ _ _ _ _ hs (hJ.mono (by omega)))
set_option maxHeartbeats 4000000 in
set_option maxRecDepth 100000 in
theorem cs_between {p : Program} {l : Launch} {e : Env} {s : State} {m : MethodId} {below : List Frame} {meth : Method} {c : Code} {H : Heap} {locs : List Loc} {cells slots : Nat} {Q : State → Prop} {ls : Array Slot} {G : GG} {S : SM} {X Y : va_W} {b L a b' i : Nat} {z : Int} {xs : Nat → Int32} (lc : LwC p s m meth c b L xs G) (hL : L ≤ 3072) (hi : i + 6 ≤ L) (hz : z < 1000000) (hs : LwS s G S H locs (X ++ Y)) (hI : Inv G S z a b' X Y) (hl : lv_has ls 4 [(0, .ref b), (1, .ref a), (2, .ref b'), (3, .int (kI (i : Int)))]) (hr : cells ≤ 500000 ∧ slots ≤ 7000000) (kk : LwK p l e s m below meth c G b a b' (z + 1) (cells + 5) (slots + 4000) Q ls) : W p l e room_1 s m #[Value.ref b] below meth c H locs cells slots Q (F0 m 1042 ls []) := by
  have hx := lc.1.1
  have hb := lc.1.2.1
  obtain ⟨f1, hm1⟩ := hI.m1
  obtain ⟨f2, hm2⟩ := hI.m2
  obtain ⟨v, X1, Y1, hA, hB, hJ⟩ := st_between (l := l) (kI_range (xs (i + 1))) (kI_range (xs (i + 2))) (kI_range (xs (i + 3))) hI
  refine lv_aload_n hx hb dL_law_1042 rfl (lv_at hl 1 rfl) ?_
  refine ll_arg (k := 1) lc hL hs hl (by omega) rfl dL_law_1043 dL_law_1044 dL_law_1045 dL_law_1046 dL_law_1047 ?_
  refine ll_arg (k := 2) lc hL hs hl (by omega) rfl dL_law_1048 dL_law_1049 dL_law_1050 dL_law_1051 dL_law_1052 ?_
  refine ll_arg (k := 3) lc hL hs hl (by omega) rfl dL_law_1053 dL_law_1054 dL_law_1055 dL_law_1056 dL_law_1057 ?_
  refine ll_I lc hs (ct_I (hA _) (List.Perm.refl _) (List.Perm.refl _)) mv_L_143 (List.mem_append_left _ hm1) rfl ⟨Nat.le_of_ble_eq_true rfl, Nat.le_of_ble_eq_true rfl⟩ rfl hl.1 rfl (Nat.le_of_ble_eq_true rfl) dL_law_1058 ⟨lwq_r hr.1 (Nat.le_of_ble_eq_true rfl), lwq_s hr.2 (Nat.le_of_ble_eq_true rfl)⟩ (fun H locs hs => ?_)
  refine lv_aload_n hx hb dL_law_1061 rfl (lv_at hl 2 rfl) ?_
  refine ll_arg (k := 1) lc hL hs hl (by omega) rfl dL_law_1062 dL_law_1063 dL_law_1064 dL_law_1065 dL_law_1066 ?_
  refine ll_arg (k := 2) lc hL hs hl (by omega) rfl dL_law_1067 dL_law_1068 dL_law_1069 dL_law_1070 dL_law_1071 ?_
  refine ll_arg (k := 3) lc hL hs hl (by omega) rfl dL_law_1072 dL_law_1073 dL_law_1074 dL_law_1075 dL_law_1076 ?_
  refine ll_I lc hs (ct_I (hB _) List.perm_append_comm List.perm_append_comm) mv_L_147 (List.mem_append_right _ hm2) rfl ⟨Nat.le_of_ble_eq_true rfl, Nat.le_of_ble_eq_true rfl⟩ rfl hl.1 rfl (Nat.le_of_ble_eq_true rfl) dL_law_1077 ⟨lwq_r2 hr.1 (Nat.le_of_ble_eq_true rfl), lwq_s2 hr.2 (Nat.le_of_ble_eq_true rfl)⟩ (fun H locs hs => ?_)
  refine ll_eqI lc dL_law_1080 (by decide) ?_
  exact W.widen (lwq_c (Nat.le_of_ble_eq_true rfl)) (lwq_c (Nat.le_of_ble_eq_true rfl)) (kk _ _ _ _ _ hs (hJ.mono (by omega)))
set_option maxHeartbeats 4000000 in
set_option maxRecDepth 100000 in
theorem cs_split {p : Program} {l : Launch} {e : Env} {s : State} {m : MethodId} {below : List Frame} {meth : Method} {c : Code} {H : Heap} {locs : List Loc} {cells slots : Nat} {Q : State → Prop} {ls : Array Slot} {G : GG} {S : SM} {X Y : va_W} {b L a b' i : Nat} {z : Int} {xs : Nat → Int32} (lc : LwC p s m meth c b L xs G) (hL : L ≤ 3072) (hi : i + 6 ≤ L) (hz : z < 1000000) (hs : LwS s G S H locs (X ++ Y)) (hI : Inv G S z a b' X Y) (hl : lv_has ls 4 [(0, .ref b), (1, .ref a), (2, .ref b'), (3, .int (kI (i : Int)))]) (hr : cells ≤ 500000 ∧ slots ≤ 7000000) (kk : LwK p l e s m below meth c G b a b' (z + 1) (cells + 5) (slots + 4000) Q ls) : W p l e room_1 s m #[Value.ref b] below meth c H locs cells slots Q (F0 m 1085 ls []) := by
  have hx := lc.1.1
  have hb := lc.1.2.1
  obtain ⟨f1, hm1⟩ := hI.m1
  obtain ⟨f2, hm2⟩ := hI.m2
  obtain ⟨v, X1, Y1, hA, hB, hJ⟩ := st_split (l := l) (kI_range (xs (i + 1))) hI
  refine lv_aload_n hx hb dL_law_1085 rfl (lv_at hl 1 rfl) ?_
  refine ll_arg (k := 1) lc hL hs hl (by omega) rfl dL_law_1086 dL_law_1087 dL_law_1088 dL_law_1089 dL_law_1090 ?_
  refine ll_Lx lc hs (ct_Lx (hA _) (List.Perm.refl _) (fun u => List.Perm.refl _)) mv_L_148 (List.mem_append_left _ hm1) rfl ⟨Nat.le_of_ble_eq_true rfl, Nat.le_of_ble_eq_true rfl⟩ rfl hl.1 rfl (Nat.le_of_ble_eq_true rfl) dL_law_1091 ⟨lwq_r hr.1 (Nat.le_of_ble_eq_true rfl), lwq_s hr.2 (Nat.le_of_ble_eq_true rfl)⟩ (fun u H locs hs => ?_)
  refine lv_aload_n hx hb dL_law_1094 rfl (lv_at hl 2 rfl) ?_
  refine ll_arg (k := 1) lc hL hs hl (by omega) rfl dL_law_1095 dL_law_1096 dL_law_1097 dL_law_1098 dL_law_1099 ?_
  refine ll_L lc hs (ct_L (hB _) List.perm_append_comm List.perm_append_comm) mv_L_151 (List.mem_append_right _ hm2) rfl ⟨Nat.le_of_ble_eq_true rfl, Nat.le_of_ble_eq_true rfl⟩ rfl hl.1 rfl (Nat.le_of_ble_eq_true rfl) dL_law_1100 ⟨lwq_r2 hr.1 (Nat.le_of_ble_eq_true rfl), lwq_s2 hr.2 (Nat.le_of_ble_eq_true rfl)⟩ (fun H locs hs => ?_)
  refine ll_eqL lc dL_law_1103 dL_law_1104 (by decide) ?_
  exact W.widen (lwq_c (Nat.le_of_ble_eq_true rfl)) (lwq_c (Nat.le_of_ble_eq_true rfl)) (kk _ _ _ _ _ hs ((hJ u).mono (by omega)))
set_option maxHeartbeats 4000000 in
set_option maxRecDepth 100000 in
theorem cs_splitAt {p : Program} {l : Launch} {e : Env} {s : State} {m : MethodId} {below : List Frame} {meth : Method} {c : Code} {H : Heap} {locs : List Loc} {cells slots : Nat} {Q : State → Prop} {ls : Array Slot} {G : GG} {S : SM} {X Y : va_W} {b L a b' i : Nat} {z : Int} {xs : Nat → Int32} (lc : LwC p s m meth c b L xs G) (hL : L ≤ 3072) (hi : i + 6 ≤ L) (hz : z < 1000000) (hs : LwS s G S H locs (X ++ Y)) (hI : Inv G S z a b' X Y) (hl : lv_has ls 4 [(0, .ref b), (1, .ref a), (2, .ref b'), (3, .int (kI (i : Int)))]) (hr : cells ≤ 500000 ∧ slots ≤ 7000000) (kk : LwK p l e s m below meth c G b a b' (z + 1) (cells + 5) (slots + 4000) Q ls) : W p l e room_1 s m #[Value.ref b] below meth c H locs cells slots Q (F0 m 1109 ls []) := by
  have hx := lc.1.1
  have hb := lc.1.2.1
  obtain ⟨f1, hm1⟩ := hI.m1
  obtain ⟨f2, hm2⟩ := hI.m2
  obtain ⟨v, X1, Y1, hA, hB, hJ⟩ := st_splitAt (l := l) (kI_range (xs (i + 1))) (kI_range (xs (i + 2))) hI
  refine lv_aload_n hx hb dL_law_1109 rfl (lv_at hl 1 rfl) ?_
  refine ll_arg (k := 1) lc hL hs hl (by omega) rfl dL_law_1110 dL_law_1111 dL_law_1112 dL_law_1113 dL_law_1114 ?_
  refine ll_arg (k := 2) lc hL hs hl (by omega) rfl dL_law_1115 dL_law_1116 dL_law_1117 dL_law_1118 dL_law_1119 ?_
  refine ll_Ix lc hs (ct_Ix (hA _) (List.Perm.refl _) (fun u => List.Perm.refl _)) mv_L_152 (List.mem_append_left _ hm1) rfl ⟨Nat.le_of_ble_eq_true rfl, Nat.le_of_ble_eq_true rfl⟩ rfl hl.1 rfl (Nat.le_of_ble_eq_true rfl) dL_law_1120 ⟨lwq_r hr.1 (Nat.le_of_ble_eq_true rfl), lwq_s hr.2 (Nat.le_of_ble_eq_true rfl)⟩ (fun u H locs hs => ?_)
  refine lv_aload_n hx hb dL_law_1123 rfl (lv_at hl 2 rfl) ?_
  refine ll_arg (k := 1) lc hL hs hl (by omega) rfl dL_law_1124 dL_law_1125 dL_law_1126 dL_law_1127 dL_law_1128 ?_
  refine ll_arg (k := 2) lc hL hs hl (by omega) rfl dL_law_1129 dL_law_1130 dL_law_1131 dL_law_1132 dL_law_1133 ?_
  refine ll_I lc hs (ct_I (hB _) List.perm_append_comm List.perm_append_comm) mv_L_155 (List.mem_append_right _ hm2) rfl ⟨Nat.le_of_ble_eq_true rfl, Nat.le_of_ble_eq_true rfl⟩ rfl hl.1 rfl (Nat.le_of_ble_eq_true rfl) dL_law_1134 ⟨lwq_r2 hr.1 (Nat.le_of_ble_eq_true rfl), lwq_s2 hr.2 (Nat.le_of_ble_eq_true rfl)⟩ (fun H locs hs => ?_)
  refine ll_eqI lc dL_law_1137 (by decide) ?_
  exact W.widen (lwq_c (Nat.le_of_ble_eq_true rfl)) (lwq_c (Nat.le_of_ble_eq_true rfl)) (kk _ _ _ _ _ hs ((hJ u).mono (by omega)))
set_option maxHeartbeats 4000000 in
set_option maxRecDepth 100000 in
theorem cs_month {p : Program} {l : Launch} {e : Env} {s : State} {m : MethodId} {below : List Frame} {meth : Method} {c : Code} {H : Heap} {locs : List Loc} {cells slots : Nat} {Q : State → Prop} {ls : Array Slot} {G : GG} {S : SM} {X Y : va_W} {b L a b' i : Nat} {z : Int} {xs : Nat → Int32} (lc : LwC p s m meth c b L xs G) (hL : L ≤ 3072) (hi : i + 6 ≤ L) (hz : z < 1000000) (hs : LwS s G S H locs (X ++ Y)) (hI : Inv G S z a b' X Y) (hl : lv_has ls 4 [(0, .ref b), (1, .ref a), (2, .ref b'), (3, .int (kI (i : Int)))]) (hr : cells ≤ 500000 ∧ slots ≤ 7000000) (kk : LwK p l e s m below meth c G b a b' (z + 1) (cells + 5) (slots + 4000) Q ls) : W p l e room_1 s m #[Value.ref b] below meth c H locs cells slots Q (F0 m 1142 ls []) := by
  have hx := lc.1.1
  have hb := lc.1.2.1
  obtain ⟨f1, hm1⟩ := hI.m1
  obtain ⟨f2, hm2⟩ := hI.m2
  obtain ⟨v, X1, Y1, hA, hB, hJ⟩ := st_month (l := l) hI
  refine lv_aload_n hx hb dL_law_1142 rfl (lv_at hl 1 rfl) ?_
  refine ll_I lc hs (ct_I (hA _) (List.Perm.refl _) (List.Perm.refl _)) mv_L_156 (List.mem_append_left _ hm1) rfl ⟨Nat.le_of_ble_eq_true rfl, Nat.le_of_ble_eq_true rfl⟩ rfl hl.1 rfl (Nat.le_of_ble_eq_true rfl) dL_law_1143 ⟨lwq_r hr.1 (Nat.le_of_ble_eq_true rfl), lwq_s hr.2 (Nat.le_of_ble_eq_true rfl)⟩ (fun H locs hs => ?_)
  refine lv_aload_n hx hb dL_law_1146 rfl (lv_at hl 2 rfl) ?_
  refine ll_I lc hs (ct_I (hB _) List.perm_append_comm List.perm_append_comm) mv_L_159 (List.mem_append_right _ hm2) rfl ⟨Nat.le_of_ble_eq_true rfl, Nat.le_of_ble_eq_true rfl⟩ rfl hl.1 rfl (Nat.le_of_ble_eq_true rfl) dL_law_1147 ⟨lwq_r2 hr.1 (Nat.le_of_ble_eq_true rfl), lwq_s2 hr.2 (Nat.le_of_ble_eq_true rfl)⟩ (fun H locs hs => ?_)
  refine ll_eqI lc dL_law_1150 (by decide) ?_
  exact W.widen (lwq_c (Nat.le_of_ble_eq_true rfl)) (lwq_c (Nat.le_of_ble_eq_true rfl)) (kk _ _ _ _ _ hs (hJ.mono (by omega)))
set_option maxHeartbeats 4000000 in
set_option maxRecDepth 100000 in
theorem cs_off {p : Program} {l : Launch} {e : Env} {s : State} {m : MethodId} {below : List Frame} {meth : Method} {c : Code} {H : Heap} {locs : List Loc} {cells slots : Nat} {Q : State → Prop} {ls : Array Slot} {G : GG} {S : SM} {X Y : va_W} {b L a b' i : Nat} {z : Int} {xs : Nat → Int32} (lc : LwC p s m meth c b L xs G) (hL : L ≤ 3072) (hi : i + 6 ≤ L) (hz : z < 1000000) (hs : LwS s G S H locs (X ++ Y)) (hI : Inv G S z a b' X Y) (hl : lv_has ls 4 [(0, .ref b), (1, .ref a), (2, .ref b'), (3, .int (kI (i : Int)))]) (hr : cells ≤ 500000 ∧ slots ≤ 7000000) (kk : LwK p l e s m below meth c G b a b' (z + 1) (cells + 5) (slots + 4000) Q ls) : W p l e room_1 s m #[Value.ref b] below meth c H locs cells slots Q (F0 m 1155 ls []) := by
  have hx := lc.1.1
  have hb := lc.1.2.1
  obtain ⟨f1, hm1⟩ := hI.m1
  obtain ⟨f2, hm2⟩ := hI.m2
  obtain ⟨v, X1, Y1, hA, hB, hJ⟩ := st_off (l := l) (kI_range (xs (i + 1))) (kI_range (xs (i + 2))) hI
  refine lv_aload_n hx hb dL_law_1155 rfl (lv_at hl 1 rfl) ?_
  refine ll_arg (k := 1) lc hL hs hl (by omega) rfl dL_law_1156 dL_law_1157 dL_law_1158 dL_law_1159 dL_law_1160 ?_
  refine ll_arg (k := 2) lc hL hs hl (by omega) rfl dL_law_1161 dL_law_1162 dL_law_1163 dL_law_1164 dL_law_1165 ?_
  refine ll_L lc hs (ct_L (hA _) (List.Perm.refl _) (List.Perm.refl _)) mv_L_160 (List.mem_append_left _ hm1) rfl ⟨Nat.le_of_ble_eq_true rfl, Nat.le_of_ble_eq_true rfl⟩ rfl hl.1 rfl (Nat.le_of_ble_eq_true rfl) dL_law_1166 ⟨lwq_r hr.1 (Nat.le_of_ble_eq_true rfl), lwq_s hr.2 (Nat.le_of_ble_eq_true rfl)⟩ (fun H locs hs => ?_)
  refine lv_aload_n hx hb dL_law_1169 rfl (lv_at hl 2 rfl) ?_
  refine ll_arg (k := 1) lc hL hs hl (by omega) rfl dL_law_1170 dL_law_1171 dL_law_1172 dL_law_1173 dL_law_1174 ?_
  refine ll_arg (k := 2) lc hL hs hl (by omega) rfl dL_law_1175 dL_law_1176 dL_law_1177 dL_law_1178 dL_law_1179 ?_
  refine ll_L lc hs (ct_L (hB _) List.perm_append_comm List.perm_append_comm) mv_L_163 (List.mem_append_right _ hm2) rfl ⟨Nat.le_of_ble_eq_true rfl, Nat.le_of_ble_eq_true rfl⟩ rfl hl.1 rfl (Nat.le_of_ble_eq_true rfl) dL_law_1180 ⟨lwq_r2 hr.1 (Nat.le_of_ble_eq_true rfl), lwq_s2 hr.2 (Nat.le_of_ble_eq_true rfl)⟩ (fun H locs hs => ?_)
  refine ll_eqL lc dL_law_1183 dL_law_1184 (by decide) ?_
  exact W.widen (lwq_c (Nat.le_of_ble_eq_true rfl)) (lwq_c (Nat.le_of_ble_eq_true rfl)) (kk _ _ _ _ _ hs (hJ.mono (by omega)))
set_option maxHeartbeats 4000000 in
set_option maxRecDepth 100000 in
theorem cs_share {p : Program} {l : Launch} {e : Env} {s : State} {m : MethodId} {below : List Frame} {meth : Method} {c : Code} {H : Heap} {locs : List Loc} {cells slots : Nat} {Q : State → Prop} {ls : Array Slot} {G : GG} {S : SM} {X Y : va_W} {b L a b' i : Nat} {z : Int} {xs : Nat → Int32} (lc : LwC p s m meth c b L xs G) (hL : L ≤ 3072) (hi : i + 6 ≤ L) (hz : z < 1000000) (hs : LwS s G S H locs (X ++ Y)) (hI : Inv G S z a b' X Y) (hl : lv_has ls 4 [(0, .ref b), (1, .ref a), (2, .ref b'), (3, .int (kI (i : Int)))]) (hr : cells ≤ 500000 ∧ slots ≤ 7000000) (kk : LwK p l e s m below meth c G b a b' (z + 1) (cells + 5) (slots + 4000) Q ls) : W p l e room_1 s m #[Value.ref b] below meth c H locs cells slots Q (F0 m 1189 ls []) := by
  have hx := lc.1.1
  have hb := lc.1.2.1
  obtain ⟨f1, hm1⟩ := hI.m1
  obtain ⟨f2, hm2⟩ := hI.m2
  obtain ⟨v, X1, Y1, hA, hB, hJ⟩ := st_share (l := l) (kI_range (xs (i + 1))) (kI_range (xs (i + 2))) hI
  refine lv_aload_n hx hb dL_law_1189 rfl (lv_at hl 1 rfl) ?_
  refine ll_arg (k := 1) lc hL hs hl (by omega) rfl dL_law_1190 dL_law_1191 dL_law_1192 dL_law_1193 dL_law_1194 ?_
  refine ll_arg (k := 2) lc hL hs hl (by omega) rfl dL_law_1195 dL_law_1196 dL_law_1197 dL_law_1198 dL_law_1199 ?_
  refine ll_I lc hs (ct_I (hA _) (List.Perm.refl _) (List.Perm.refl _)) mv_L_164 (List.mem_append_left _ hm1) rfl ⟨Nat.le_of_ble_eq_true rfl, Nat.le_of_ble_eq_true rfl⟩ rfl hl.1 rfl (Nat.le_of_ble_eq_true rfl) dL_law_1200 ⟨lwq_r hr.1 (Nat.le_of_ble_eq_true rfl), lwq_s hr.2 (Nat.le_of_ble_eq_true rfl)⟩ (fun H locs hs => ?_)
  refine lv_aload_n hx hb dL_law_1203 rfl (lv_at hl 2 rfl) ?_
  refine ll_arg (k := 1) lc hL hs hl (by omega) rfl dL_law_1204 dL_law_1205 dL_law_1206 dL_law_1207 dL_law_1208 ?_
  refine ll_arg (k := 2) lc hL hs hl (by omega) rfl dL_law_1209 dL_law_1210 dL_law_1211 dL_law_1212 dL_law_1213 ?_
  refine ll_I lc hs (ct_I (hB _) List.perm_append_comm List.perm_append_comm) mv_L_167 (List.mem_append_right _ hm2) rfl ⟨Nat.le_of_ble_eq_true rfl, Nat.le_of_ble_eq_true rfl⟩ rfl hl.1 rfl (Nat.le_of_ble_eq_true rfl) dL_law_1214 ⟨lwq_r2 hr.1 (Nat.le_of_ble_eq_true rfl), lwq_s2 hr.2 (Nat.le_of_ble_eq_true rfl)⟩ (fun H locs hs => ?_)
  refine ll_eqI lc dL_law_1217 (by decide) ?_
  exact W.widen (lwq_c (Nat.le_of_ble_eq_true rfl)) (lwq_c (Nat.le_of_ble_eq_true rfl)) (kk _ _ _ _ _ hs (hJ.mono (by omega)))
