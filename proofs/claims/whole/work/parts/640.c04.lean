set_option maxHeartbeats 4000000 in
set_option maxRecDepth 100000 in
theorem cs_alarm {p : Program} {l : Launch} {e : Env} {s : State} {m : MethodId} {below : List Frame} {meth : Method} {c : Code} {H : Heap} {locs : List Loc} {cells slots : Nat} {Q : State → Prop} {ls : Array Slot} {G : GG} {S : SM} {X Y : va_W} {b L a b' i : Nat} {z : Int} {xs : Nat → Int32} (lc : LwC p s m meth c b L xs G) (hL : L ≤ 3072) (hi : i + 6 ≤ L) (hz : z < 1000000) (hs : LwS s G S H locs (X ++ Y)) (hI : Inv G S z a b' X Y) (hl : lv_has ls 4 [(0, .ref b), (1, .ref a), (2, .ref b'), (3, .int (kI (i : Int)))]) (hr : cells ≤ 500000 ∧ slots ≤ 7000000) (kk : LwK p l e s m below meth c G b a b' (z + 1) (cells + 5) (slots + 4000) Q ls) : W p l e room_1 s m #[Value.ref b] below meth c H locs cells slots Q (F0 m 1222 ls []) := by
  have hx := lc.1.1
  have hb := lc.1.2.1
  obtain ⟨f1, hm1⟩ := hI.m1
  obtain ⟨f2, hm2⟩ := hI.m2
  obtain ⟨v, X1, Y1, hA, hB, hJ⟩ := st_alarm (l := l) (kI_range (xs (i + 1))) hI
  refine lv_aload_n hx hb dL_law_1222 rfl (lv_at hl 1 rfl) ?_
  refine ll_arg (k := 1) lc hL hs hl (by omega) rfl dL_law_1223 dL_law_1224 dL_law_1225 dL_law_1226 dL_law_1227 ?_
  refine ll_I lc hs (ct_I (hA _) (List.Perm.refl _) (List.Perm.refl _)) mv_L_168 (List.mem_append_left _ hm1) rfl ⟨Nat.le_of_ble_eq_true rfl, Nat.le_of_ble_eq_true rfl⟩ rfl hl.1 rfl (Nat.le_of_ble_eq_true rfl) dL_law_1228 ⟨lwq_r hr.1 (Nat.le_of_ble_eq_true rfl), lwq_s hr.2 (Nat.le_of_ble_eq_true rfl)⟩ (fun H locs hs => ?_)
  refine lv_aload_n hx hb dL_law_1231 rfl (lv_at hl 2 rfl) ?_
  refine ll_arg (k := 1) lc hL hs hl (by omega) rfl dL_law_1232 dL_law_1233 dL_law_1234 dL_law_1235 dL_law_1236 ?_
  refine ll_I lc hs (ct_I (hB _) List.perm_append_comm List.perm_append_comm) mv_L_171 (List.mem_append_right _ hm2) rfl ⟨Nat.le_of_ble_eq_true rfl, Nat.le_of_ble_eq_true rfl⟩ rfl hl.1 rfl (Nat.le_of_ble_eq_true rfl) dL_law_1237 ⟨lwq_r2 hr.1 (Nat.le_of_ble_eq_true rfl), lwq_s2 hr.2 (Nat.le_of_ble_eq_true rfl)⟩ (fun H locs hs => ?_)
  refine ll_eqI lc dL_law_1240 (by decide) ?_
  exact W.widen (lwq_c (Nat.le_of_ble_eq_true rfl)) (lwq_c (Nat.le_of_ble_eq_true rfl)) (kk _ _ _ _ _ hs (hJ.mono (by omega)))
set_option maxHeartbeats 4000000 in
set_option maxRecDepth 100000 in
theorem cs_rises {p : Program} {l : Launch} {e : Env} {s : State} {m : MethodId} {below : List Frame} {meth : Method} {c : Code} {H : Heap} {locs : List Loc} {cells slots : Nat} {Q : State → Prop} {ls : Array Slot} {G : GG} {S : SM} {X Y : va_W} {b L a b' i : Nat} {z : Int} {xs : Nat → Int32} (lc : LwC p s m meth c b L xs G) (hL : L ≤ 3072) (hi : i + 6 ≤ L) (hz : z < 1000000) (hs : LwS s G S H locs (X ++ Y)) (hI : Inv G S z a b' X Y) (hl : lv_has ls 4 [(0, .ref b), (1, .ref a), (2, .ref b'), (3, .int (kI (i : Int)))]) (hr : cells ≤ 500000 ∧ slots ≤ 7000000) (kk : LwK p l e s m below meth c G b a b' (z + 1) (cells + 5) (slots + 4000) Q ls) : W p l e room_1 s m #[Value.ref b] below meth c H locs cells slots Q (F0 m 1245 ls []) := by
  have hx := lc.1.1
  have hb := lc.1.2.1
  obtain ⟨f1, hm1⟩ := hI.m1
  obtain ⟨f2, hm2⟩ := hI.m2
  obtain ⟨v, X1, Y1, hA, hB, hJ⟩ := st_rises (l := l) (kI_range (xs (i + 1))) hI
  refine lv_aload_n hx hb dL_law_1245 rfl (lv_at hl 1 rfl) ?_
  refine ll_arg (k := 1) lc hL hs hl (by omega) rfl dL_law_1246 dL_law_1247 dL_law_1248 dL_law_1249 dL_law_1250 ?_
  refine ll_I lc hs (ct_I (hA _) (List.Perm.refl _) (List.Perm.refl _)) mv_L_172 (List.mem_append_left _ hm1) rfl ⟨Nat.le_of_ble_eq_true rfl, Nat.le_of_ble_eq_true rfl⟩ rfl hl.1 rfl (Nat.le_of_ble_eq_true rfl) dL_law_1251 ⟨lwq_r hr.1 (Nat.le_of_ble_eq_true rfl), lwq_s hr.2 (Nat.le_of_ble_eq_true rfl)⟩ (fun H locs hs => ?_)
  refine lv_aload_n hx hb dL_law_1254 rfl (lv_at hl 2 rfl) ?_
  refine ll_arg (k := 1) lc hL hs hl (by omega) rfl dL_law_1255 dL_law_1256 dL_law_1257 dL_law_1258 dL_law_1259 ?_
  refine ll_I lc hs (ct_I (hB _) List.perm_append_comm List.perm_append_comm) mv_L_175 (List.mem_append_right _ hm2) rfl ⟨Nat.le_of_ble_eq_true rfl, Nat.le_of_ble_eq_true rfl⟩ rfl hl.1 rfl (Nat.le_of_ble_eq_true rfl) dL_law_1260 ⟨lwq_r2 hr.1 (Nat.le_of_ble_eq_true rfl), lwq_s2 hr.2 (Nat.le_of_ble_eq_true rfl)⟩ (fun H locs hs => ?_)
  refine ll_eqI lc dL_law_1263 (by decide) ?_
  exact W.widen (lwq_c (Nat.le_of_ble_eq_true rfl)) (lwq_c (Nat.le_of_ble_eq_true rfl)) (kk _ _ _ _ _ hs (hJ.mono (by omega)))
set_option maxHeartbeats 4000000 in
set_option maxRecDepth 100000 in
theorem cs_tell {p : Program} {l : Launch} {e : Env} {s : State} {m : MethodId} {below : List Frame} {meth : Method} {c : Code} {H : Heap} {locs : List Loc} {cells slots : Nat} {Q : State → Prop} {ls : Array Slot} {G : GG} {S : SM} {X Y : va_W} {b L a b' i : Nat} {z : Int} {xs : Nat → Int32} (lc : LwC p s m meth c b L xs G) (hL : L ≤ 3072) (hi : i + 6 ≤ L) (hz : z < 1000000) (hs : LwS s G S H locs (X ++ Y)) (hI : Inv G S z a b' X Y) (hl : lv_has ls 4 [(0, .ref b), (1, .ref a), (2, .ref b'), (3, .int (kI (i : Int)))]) (hr : cells ≤ 500000 ∧ slots ≤ 7000000) (kk : LwK p l e s m below meth c G b a b' (z + 1) (cells + 5) (slots + 4000) Q ls) : W p l e room_1 s m #[Value.ref b] below meth c H locs cells slots Q (F0 m 1268 ls []) := by
  have hx := lc.1.1
  have hb := lc.1.2.1
  obtain ⟨f1, hm1⟩ := hI.m1
  obtain ⟨f2, hm2⟩ := hI.m2
  obtain ⟨v, X1, Y1, hA, hB, hJ⟩ := st_tell (l := l) hI
  refine lv_aload_n hx hb dL_law_1268 rfl (lv_at hl 1 rfl) ?_
  refine ll_I lc hs (ct_I (hA _) (List.Perm.refl _) (List.Perm.refl _)) mv_L_176 (List.mem_append_left _ hm1) rfl ⟨Nat.le_of_ble_eq_true rfl, Nat.le_of_ble_eq_true rfl⟩ rfl hl.1 rfl (Nat.le_of_ble_eq_true rfl) dL_law_1269 ⟨lwq_r hr.1 (Nat.le_of_ble_eq_true rfl), lwq_s hr.2 (Nat.le_of_ble_eq_true rfl)⟩ (fun H locs hs => ?_)
  refine lv_aload_n hx hb dL_law_1272 rfl (lv_at hl 2 rfl) ?_
  refine ll_I lc hs (ct_I (hB _) List.perm_append_comm List.perm_append_comm) mv_L_179 (List.mem_append_right _ hm2) rfl ⟨Nat.le_of_ble_eq_true rfl, Nat.le_of_ble_eq_true rfl⟩ rfl hl.1 rfl (Nat.le_of_ble_eq_true rfl) dL_law_1273 ⟨lwq_r2 hr.1 (Nat.le_of_ble_eq_true rfl), lwq_s2 hr.2 (Nat.le_of_ble_eq_true rfl)⟩ (fun H locs hs => ?_)
  refine ll_eqI lc dL_law_1276 (by decide) ?_
  exact W.widen (lwq_c (Nat.le_of_ble_eq_true rfl)) (lwq_c (Nat.le_of_ble_eq_true rfl)) (kk _ _ _ _ _ hs (hJ.mono (by omega)))
set_option maxHeartbeats 4000000 in
set_option maxRecDepth 100000 in
theorem cs_octet {p : Program} {l : Launch} {e : Env} {s : State} {m : MethodId} {below : List Frame} {meth : Method} {c : Code} {H : Heap} {locs : List Loc} {cells slots : Nat} {Q : State → Prop} {ls : Array Slot} {G : GG} {S : SM} {X Y : va_W} {b L a b' i : Nat} {z : Int} {xs : Nat → Int32} (lc : LwC p s m meth c b L xs G) (hL : L ≤ 3072) (hi : i + 6 ≤ L) (hz : z < 1000000) (hs : LwS s G S H locs (X ++ Y)) (hI : Inv G S z a b' X Y) (hl : lv_has ls 4 [(0, .ref b), (1, .ref a), (2, .ref b'), (3, .int (kI (i : Int)))]) (hr : cells ≤ 500000 ∧ slots ≤ 7000000) (kk : LwK p l e s m below meth c G b a b' (z + 1) (cells + 5) (slots + 4000) Q ls) : W p l e room_1 s m #[Value.ref b] below meth c H locs cells slots Q (F0 m 1281 ls []) := by
  have hx := lc.1.1
  have hb := lc.1.2.1
  obtain ⟨f1, hm1⟩ := hI.m1
  obtain ⟨f2, hm2⟩ := hI.m2
  obtain ⟨v, X1, Y1, hA, hB, hJ⟩ := st_octet (l := l) (kI_range (xs (i + 1))) hI
  refine lv_aload_n hx hb dL_law_1281 rfl (lv_at hl 1 rfl) ?_
  refine ll_arg (k := 1) lc hL hs hl (by omega) rfl dL_law_1282 dL_law_1283 dL_law_1284 dL_law_1285 dL_law_1286 ?_
  refine ll_I lc hs (ct_I (hA _) (List.Perm.refl _) (List.Perm.refl _)) mv_L_180 (List.mem_append_left _ hm1) rfl ⟨Nat.le_of_ble_eq_true rfl, Nat.le_of_ble_eq_true rfl⟩ rfl hl.1 rfl (Nat.le_of_ble_eq_true rfl) dL_law_1287 ⟨lwq_r hr.1 (Nat.le_of_ble_eq_true rfl), lwq_s hr.2 (Nat.le_of_ble_eq_true rfl)⟩ (fun H locs hs => ?_)
  refine lv_aload_n hx hb dL_law_1290 rfl (lv_at hl 2 rfl) ?_
  refine ll_arg (k := 1) lc hL hs hl (by omega) rfl dL_law_1291 dL_law_1292 dL_law_1293 dL_law_1294 dL_law_1295 ?_
  refine ll_I lc hs (ct_I (hB _) List.perm_append_comm List.perm_append_comm) mv_L_183 (List.mem_append_right _ hm2) rfl ⟨Nat.le_of_ble_eq_true rfl, Nat.le_of_ble_eq_true rfl⟩ rfl hl.1 rfl (Nat.le_of_ble_eq_true rfl) dL_law_1296 ⟨lwq_r2 hr.1 (Nat.le_of_ble_eq_true rfl), lwq_s2 hr.2 (Nat.le_of_ble_eq_true rfl)⟩ (fun H locs hs => ?_)
  refine ll_eqI lc dL_law_1299 (by decide) ?_
  exact W.widen (lwq_c (Nat.le_of_ble_eq_true rfl)) (lwq_c (Nat.le_of_ble_eq_true rfl)) (kk _ _ _ _ _ hs (hJ.mono (by omega)))
set_option maxHeartbeats 4000000 in
set_option maxRecDepth 100000 in
theorem cs_open {p : Program} {l : Launch} {e : Env} {s : State} {m : MethodId} {below : List Frame} {meth : Method} {c : Code} {H : Heap} {locs : List Loc} {cells slots : Nat} {Q : State → Prop} {ls : Array Slot} {G : GG} {S : SM} {X Y : va_W} {b L a b' i : Nat} {z : Int} {xs : Nat → Int32} (lc : LwC p s m meth c b L xs G) (hL : L ≤ 3072) (hi : i + 6 ≤ L) (hz : z < 1000000) (hs : LwS s G S H locs (X ++ Y)) (hI : Inv G S z a b' X Y) (hl : lv_has ls 4 [(0, .ref b), (1, .ref a), (2, .ref b'), (3, .int (kI (i : Int)))]) (hr : cells ≤ 500000 ∧ slots ≤ 7000000) (kk : LwK p l e s m below meth c G b a b' (z + 1) (cells + 5) (slots + 4000) Q ls) : W p l e room_1 s m #[Value.ref b] below meth c H locs cells slots Q (F0 m 1304 ls []) := by
  have hx := lc.1.1
  have hb := lc.1.2.1
  obtain ⟨f1, hm1⟩ := hI.m1
  obtain ⟨f2, hm2⟩ := hI.m2
  obtain ⟨v, X1, Y1, hA, hB, hJ⟩ := st_open (l := l) (kI_range (xs (i + 1))) hI
  refine lv_aload_n hx hb dL_law_1304 rfl (lv_at hl 1 rfl) ?_
  refine ll_arg (k := 1) lc hL hs hl (by omega) rfl dL_law_1305 dL_law_1306 dL_law_1307 dL_law_1308 dL_law_1309 ?_
  refine ll_I lc hs (ct_I (hA _) (List.Perm.refl _) (List.Perm.refl _)) mv_L_184 (List.mem_append_left _ hm1) rfl ⟨Nat.le_of_ble_eq_true rfl, Nat.le_of_ble_eq_true rfl⟩ rfl hl.1 rfl (Nat.le_of_ble_eq_true rfl) dL_law_1310 ⟨lwq_r hr.1 (Nat.le_of_ble_eq_true rfl), lwq_s hr.2 (Nat.le_of_ble_eq_true rfl)⟩ (fun H locs hs => ?_)
  refine lv_aload_n hx hb dL_law_1313 rfl (lv_at hl 2 rfl) ?_
  refine ll_arg (k := 1) lc hL hs hl (by omega) rfl dL_law_1314 dL_law_1315 dL_law_1316 dL_law_1317 dL_law_1318 ?_
  refine ll_I lc hs (ct_I (hB _) List.perm_append_comm List.perm_append_comm) mv_L_187 (List.mem_append_right _ hm2) rfl ⟨Nat.le_of_ble_eq_true rfl, Nat.le_of_ble_eq_true rfl⟩ rfl hl.1 rfl (Nat.le_of_ble_eq_true rfl) dL_law_1319 ⟨lwq_r2 hr.1 (Nat.le_of_ble_eq_true rfl), lwq_s2 hr.2 (Nat.le_of_ble_eq_true rfl)⟩ (fun H locs hs => ?_)
  refine ll_eqI lc dL_law_1322 (by decide) ?_
  exact W.widen (lwq_c (Nat.le_of_ble_eq_true rfl)) (lwq_c (Nat.le_of_ble_eq_true rfl)) (kk _ _ _ _ _ hs (hJ.mono (by omega)))
set_option maxHeartbeats 4000000 in
set_option maxRecDepth 100000 in
theorem cs_infer {p : Program} {l : Launch} {e : Env} {s : State} {m : MethodId} {below : List Frame} {meth : Method} {c : Code} {H : Heap} {locs : List Loc} {cells slots : Nat} {Q : State → Prop} {ls : Array Slot} {G : GG} {S : SM} {X Y : va_W} {b L a b' i : Nat} {z : Int} {xs : Nat → Int32} (lc : LwC p s m meth c b L xs G) (hL : L ≤ 3072) (hi : i + 6 ≤ L) (hz : z < 1000000) (hs : LwS s G S H locs (X ++ Y)) (hI : Inv G S z a b' X Y) (hl : lv_has ls 4 [(0, .ref b), (1, .ref a), (2, .ref b'), (3, .int (kI (i : Int)))]) (hr : cells ≤ 500000 ∧ slots ≤ 7000000) (kk : LwK p l e s m below meth c G b a b' (z + 1) (cells + 5) (slots + 4000) Q ls) : W p l e room_1 s m #[Value.ref b] below meth c H locs cells slots Q (F0 m 1327 ls []) := by
  have hx := lc.1.1
  have hb := lc.1.2.1
  obtain ⟨f1, hm1⟩ := hI.m1
  obtain ⟨f2, hm2⟩ := hI.m2
  obtain ⟨v, X1, Y1, hA, hB, hJ⟩ := st_infer (l := l) (kI_range (xs (i + 1))) hI
  refine lv_aload_n hx hb dL_law_1327 rfl (lv_at hl 1 rfl) ?_
  refine ll_arg (k := 1) lc hL hs hl (by omega) rfl dL_law_1328 dL_law_1329 dL_law_1330 dL_law_1331 dL_law_1332 ?_
  refine ll_I lc hs (ct_I (hA _) (List.Perm.refl _) (List.Perm.refl _)) mv_L_188 (List.mem_append_left _ hm1) rfl ⟨Nat.le_of_ble_eq_true rfl, Nat.le_of_ble_eq_true rfl⟩ rfl hl.1 rfl (Nat.le_of_ble_eq_true rfl) dL_law_1333 ⟨lwq_r hr.1 (Nat.le_of_ble_eq_true rfl), lwq_s hr.2 (Nat.le_of_ble_eq_true rfl)⟩ (fun H locs hs => ?_)
  refine lv_aload_n hx hb dL_law_1336 rfl (lv_at hl 2 rfl) ?_
  refine ll_arg (k := 1) lc hL hs hl (by omega) rfl dL_law_1337 dL_law_1338 dL_law_1339 dL_law_1340 dL_law_1341 ?_
  refine ll_I lc hs (ct_I (hB _) List.perm_append_comm List.perm_append_comm) mv_L_191 (List.mem_append_right _ hm2) rfl ⟨Nat.le_of_ble_eq_true rfl, Nat.le_of_ble_eq_true rfl⟩ rfl hl.1 rfl (Nat.le_of_ble_eq_true rfl) dL_law_1342 ⟨lwq_r2 hr.1 (Nat.le_of_ble_eq_true rfl), lwq_s2 hr.2 (Nat.le_of_ble_eq_true rfl)⟩ (fun H locs hs => ?_)
  refine ll_eqI lc dL_law_1345 (by decide) ?_
  exact W.widen (lwq_c (Nat.le_of_ble_eq_true rfl)) (lwq_c (Nat.le_of_ble_eq_true rfl)) (kk _ _ _ _ _ hs (hJ.mono (by omega)))
set_option maxHeartbeats 4000000 in
set_option maxRecDepth 100000 in
theorem cs_decide {p : Program} {l : Launch} {e : Env} {s : State} {m : MethodId} {below : List Frame} {meth : Method} {c : Code} {H : Heap} {locs : List Loc} {cells slots : Nat} {Q : State → Prop} {ls : Array Slot} {G : GG} {S : SM} {X Y : va_W} {b L a b' i : Nat} {z : Int} {xs : Nat → Int32} (lc : LwC p s m meth c b L xs G) (hL : L ≤ 3072) (hi : i + 6 ≤ L) (hz : z < 1000000) (hs : LwS s G S H locs (X ++ Y)) (hI : Inv G S z a b' X Y) (hl : lv_has ls 4 [(0, .ref b), (1, .ref a), (2, .ref b'), (3, .int (kI (i : Int)))]) (hr : cells ≤ 500000 ∧ slots ≤ 7000000) (kk : LwK p l e s m below meth c G b a b' (z + 1) (cells + 5) (slots + 4000) Q ls) : W p l e room_1 s m #[Value.ref b] below meth c H locs cells slots Q (F0 m 1350 ls []) := by
  have hx := lc.1.1
  have hb := lc.1.2.1
  obtain ⟨f1, hm1⟩ := hI.m1
  obtain ⟨f2, hm2⟩ := hI.m2
  obtain ⟨v, X1, Y1, hA, hB, hJ⟩ := st_decide (l := l) (kI_range (xs (i + 1))) (kI_range (xs (i + 2))) hI
  refine lv_aload_n hx hb dL_law_1350 rfl (lv_at hl 1 rfl) ?_
  refine ll_arg (k := 1) lc hL hs hl (by omega) rfl dL_law_1351 dL_law_1352 dL_law_1353 dL_law_1354 dL_law_1355 ?_
  refine ll_arg (k := 2) lc hL hs hl (by omega) rfl dL_law_1356 dL_law_1357 dL_law_1358 dL_law_1359 dL_law_1360 ?_
  refine ll_I lc hs (ct_I (hA _) (List.Perm.refl _) (List.Perm.refl _)) mv_L_192 (List.mem_append_left _ hm1) rfl ⟨Nat.le_of_ble_eq_true rfl, Nat.le_of_ble_eq_true rfl⟩ rfl hl.1 rfl (Nat.le_of_ble_eq_true rfl) dL_law_1361 ⟨lwq_r hr.1 (Nat.le_of_ble_eq_true rfl), lwq_s hr.2 (Nat.le_of_ble_eq_true rfl)⟩ (fun H locs hs => ?_)
  refine lv_aload_n hx hb dL_law_1364 rfl (lv_at hl 2 rfl) ?_
  refine ll_arg (k := 1) lc hL hs hl (by omega) rfl dL_law_1365 dL_law_1366 dL_law_1367 dL_law_1368 dL_law_1369 ?_
  refine ll_arg (k := 2) lc hL hs hl (by omega) rfl dL_law_1370 dL_law_1371 dL_law_1372 dL_law_1373 dL_law_1374 ?_
  refine ll_I lc hs (ct_I (hB _) List.perm_append_comm List.perm_append_comm) mv_L_195 (List.mem_append_right _ hm2) rfl ⟨Nat.le_of_ble_eq_true rfl, Nat.le_of_ble_eq_true rfl⟩ rfl hl.1 rfl (Nat.le_of_ble_eq_true rfl) dL_law_1375 ⟨lwq_r2 hr.1 (Nat.le_of_ble_eq_true rfl), lwq_s2 hr.2 (Nat.le_of_ble_eq_true rfl)⟩ (fun H locs hs => ?_)
  refine ll_eqI lc dL_law_1378 (by decide) ?_
  exact W.widen (lwq_c (Nat.le_of_ble_eq_true rfl)) (lwq_c (Nat.le_of_ble_eq_true rfl)) (kk _ _ _ _ _ hs (hJ.mono (by omega)))
set_option maxHeartbeats 4000000 in
set_option maxRecDepth 100000 in
theorem cs_decision {p : Program} {l : Launch} {e : Env} {s : State} {m : MethodId} {below : List Frame} {meth : Method} {c : Code} {H : Heap} {locs : List Loc} {cells slots : Nat} {Q : State → Prop} {ls : Array Slot} {G : GG} {S : SM} {X Y : va_W} {b L a b' i : Nat} {z : Int} {xs : Nat → Int32} (lc : LwC p s m meth c b L xs G) (hL : L ≤ 3072) (hi : i + 6 ≤ L) (hz : z < 1000000) (hs : LwS s G S H locs (X ++ Y)) (hI : Inv G S z a b' X Y) (hl : lv_has ls 4 [(0, .ref b), (1, .ref a), (2, .ref b'), (3, .int (kI (i : Int)))]) (hr : cells ≤ 500000 ∧ slots ≤ 7000000) (kk : LwK p l e s m below meth c G b a b' (z + 1) (cells + 5) (slots + 4000) Q ls) : W p l e room_1 s m #[Value.ref b] below meth c H locs cells slots Q (F0 m 1383 ls []) := by
  have hx := lc.1.1
  have hb := lc.1.2.1
  obtain ⟨f1, hm1⟩ := hI.m1
  obtain ⟨f2, hm2⟩ := hI.m2
  obtain ⟨v, X1, Y1, hA, hB, hJ⟩ := st_decision (l := l) (kI_range (xs (i + 1))) (kI_range (xs (i + 2))) hI
  refine lv_aload_n hx hb dL_law_1383 rfl (lv_at hl 1 rfl) ?_
  refine ll_arg (k := 1) lc hL hs hl (by omega) rfl dL_law_1384 dL_law_1385 dL_law_1386 dL_law_1387 dL_law_1388 ?_
  refine ll_arg (k := 2) lc hL hs hl (by omega) rfl dL_law_1389 dL_law_1390 dL_law_1391 dL_law_1392 dL_law_1393 ?_
  refine ll_I lc hs (ct_I (hA _) (List.Perm.refl _) (List.Perm.refl _)) mv_L_196 (List.mem_append_left _ hm1) rfl ⟨Nat.le_of_ble_eq_true rfl, Nat.le_of_ble_eq_true rfl⟩ rfl hl.1 rfl (Nat.le_of_ble_eq_true rfl) dL_law_1394 ⟨lwq_r hr.1 (Nat.le_of_ble_eq_true rfl), lwq_s hr.2 (Nat.le_of_ble_eq_true rfl)⟩ (fun H locs hs => ?_)
  refine lv_aload_n hx hb dL_law_1397 rfl (lv_at hl 2 rfl) ?_
  refine ll_arg (k := 1) lc hL hs hl (by omega) rfl dL_law_1398 dL_law_1399 dL_law_1400 dL_law_1401 dL_law_1402 ?_
  refine ll_arg (k := 2) lc hL hs hl (by omega) rfl dL_law_1403 dL_law_1404 dL_law_1405 dL_law_1406 dL_law_1407 ?_
  refine ll_I lc hs (ct_I (hB _) List.perm_append_comm List.perm_append_comm) mv_L_199 (List.mem_append_right _ hm2) rfl ⟨Nat.le_of_ble_eq_true rfl, Nat.le_of_ble_eq_true rfl⟩ rfl hl.1 rfl (Nat.le_of_ble_eq_true rfl) dL_law_1408 ⟨lwq_r2 hr.1 (Nat.le_of_ble_eq_true rfl), lwq_s2 hr.2 (Nat.le_of_ble_eq_true rfl)⟩ (fun H locs hs => ?_)
  refine ll_eqI lc dL_law_1411 (by decide) ?_
  exact W.widen (lwq_c (Nat.le_of_ble_eq_true rfl)) (lwq_c (Nat.le_of_ble_eq_true rfl)) (kk _ _ _ _ _ hs (hJ.mono (by omega)))
set_option maxHeartbeats 4000000 in
set_option maxRecDepth 100000 in
theorem cs_outcome {p : Program} {l : Launch} {e : Env} {s : State} {m : MethodId} {below : List Frame} {meth : Method} {c : Code} {H : Heap} {locs : List Loc} {cells slots : Nat} {Q : State → Prop} {ls : Array Slot} {G : GG} {S : SM} {X Y : va_W} {b L a b' i : Nat} {z : Int} {xs : Nat → Int32} (lc : LwC p s m meth c b L xs G) (hL : L ≤ 3072) (hi : i + 6 ≤ L) (hz : z < 1000000) (hs : LwS s G S H locs (X ++ Y)) (hI : Inv G S z a b' X Y) (hl : lv_has ls 4 [(0, .ref b), (1, .ref a), (2, .ref b'), (3, .int (kI (i : Int)))]) (hr : cells ≤ 500000 ∧ slots ≤ 7000000) (kk : LwK p l e s m below meth c G b a b' (z + 1) (cells + 5) (slots + 4000) Q ls) : W p l e room_1 s m #[Value.ref b] below meth c H locs cells slots Q (F0 m 1416 ls []) := by
  have hx := lc.1.1
  have hb := lc.1.2.1
  obtain ⟨f1, hm1⟩ := hI.m1
  obtain ⟨f2, hm2⟩ := hI.m2
  obtain ⟨v, X1, Y1, hA, hB, hJ⟩ := st_outcome (l := l) (kI_range (xs (i + 1))) (kI_range (xs (i + 2))) hI
  refine lv_aload_n hx hb dL_law_1416 rfl (lv_at hl 1 rfl) ?_
  refine ll_arg (k := 1) lc hL hs hl (by omega) rfl dL_law_1417 dL_law_1418 dL_law_1419 dL_law_1420 dL_law_1421 ?_
  refine ll_arg (k := 2) lc hL hs hl (by omega) rfl dL_law_1422 dL_law_1423 dL_law_1424 dL_law_1425 dL_law_1426 ?_
  refine ll_I lc hs (ct_I (hA _) (List.Perm.refl _) (List.Perm.refl _)) mv_L_200 (List.mem_append_left _ hm1) rfl ⟨Nat.le_of_ble_eq_true rfl, Nat.le_of_ble_eq_true rfl⟩ rfl hl.1 rfl (Nat.le_of_ble_eq_true rfl) dL_law_1427 ⟨lwq_r hr.1 (Nat.le_of_ble_eq_true rfl), lwq_s hr.2 (Nat.le_of_ble_eq_true rfl)⟩ (fun H locs hs => ?_)
  refine lv_aload_n hx hb dL_law_1430 rfl (lv_at hl 2 rfl) ?_
  refine ll_arg (k := 1) lc hL hs hl (by omega) rfl dL_law_1431 dL_law_1432 dL_law_1433 dL_law_1434 dL_law_1435 ?_
  refine ll_arg (k := 2) lc hL hs hl (by omega) rfl dL_law_1436 dL_law_1437 dL_law_1438 dL_law_1439 dL_law_1440 ?_
  refine ll_I lc hs (ct_I (hB _) List.perm_append_comm List.perm_append_comm) mv_L_203 (List.mem_append_right _ hm2) rfl ⟨Nat.le_of_ble_eq_true rfl, Nat.le_of_ble_eq_true rfl⟩ rfl hl.1 rfl (Nat.le_of_ble_eq_true rfl) dL_law_1441 ⟨lwq_r2 hr.1 (Nat.le_of_ble_eq_true rfl), lwq_s2 hr.2 (Nat.le_of_ble_eq_true rfl)⟩ (fun H locs hs => ?_)
  refine ll_eqI lc dL_law_1444 (by decide) ?_
  exact W.widen (lwq_c (Nat.le_of_ble_eq_true rfl)) (lwq_c (Nat.le_of_ble_eq_true rfl)) (kk _ _ _ _ _ hs (hJ.mono (by omega)))
