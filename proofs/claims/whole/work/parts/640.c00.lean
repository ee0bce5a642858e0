set_option maxHeartbeats 4000000 in
set_option maxRecDepth 100000 in
theorem cs_feed {p : Program} {l : Launch} {e : Env} {s : State} {m : MethodId} {below : List Frame} {meth : Method} {c : Code} {H : Heap} {locs : List Loc} {cells slots : Nat} {Q : State → Prop} {ls : Array Slot} {G : GG} {S : SM} {X Y : va_W} {b L a b' i : Nat} {z : Int} {xs : Nat → Int32} (lc : LwC p s m meth c b L xs G) (hL : L ≤ 3072) (hi : i + 6 ≤ L) (hz : z < 1000000) (hs : LwS s G S H locs (X ++ Y)) (hI : Inv G S z a b' X Y) (hl : lv_has ls 4 [(0, .ref b), (1, .ref a), (2, .ref b'), (3, .int (kI (i : Int)))]) (hr : cells ≤ 500000 ∧ slots ≤ 7000000) (kk : LwK p l e s m below meth c G b a b' (z + 1) (cells + 5) (slots + 4000) Q ls) : W p l e room_1 s m #[Value.ref b] below meth c H locs cells slots Q (F0 m 252 ls []) := by
  have hx := lc.1.1
  have hb := lc.1.2.1
  obtain ⟨f1, hm1⟩ := hI.m1
  obtain ⟨f2, hm2⟩ := hI.m2
  obtain ⟨v, X1, Y1, hA, hB, hJ⟩ := st_feed (l := l) (kI_range (xs (i + 1))) (kI_range (xs (i + 2))) (kI_range (xs (i + 3))) (kI_range (xs (i + 4))) (kI_range (xs (i + 5))) hI
  refine lv_aload_n hx hb dL_law_252 rfl (lv_at hl 1 rfl) ?_
  refine ll_arg (k := 1) lc hL hs hl (by omega) rfl dL_law_253 dL_law_254 dL_law_255 dL_law_256 dL_law_257 ?_
  refine ll_arg (k := 2) lc hL hs hl (by omega) rfl dL_law_258 dL_law_259 dL_law_260 dL_law_261 dL_law_262 ?_
  refine ll_arg (k := 3) lc hL hs hl (by omega) rfl dL_law_263 dL_law_264 dL_law_265 dL_law_266 dL_law_267 ?_
  refine ll_arg (k := 4) lc hL hs hl (by omega) rfl dL_law_268 dL_law_269 dL_law_270 dL_law_271 dL_law_272 ?_
  refine ll_arg (k := 5) lc hL hs hl (by omega) rfl dL_law_273 dL_law_274 dL_law_275 dL_law_276 dL_law_277 ?_
  refine ll_I lc hs (ct_I (hA _) (List.Perm.refl _) (List.Perm.refl _)) mv_L_13 (List.mem_append_left _ hm1) rfl ⟨Nat.le_of_ble_eq_true rfl, Nat.le_of_ble_eq_true rfl⟩ rfl hl.1 rfl (Nat.le_of_ble_eq_true rfl) dL_law_278 ⟨lwq_r hr.1 (Nat.le_of_ble_eq_true rfl), lwq_s hr.2 (Nat.le_of_ble_eq_true rfl)⟩ (fun H locs hs => ?_)
  refine lv_aload_n hx hb dL_law_281 rfl (lv_at hl 2 rfl) ?_
  refine ll_arg (k := 1) lc hL hs hl (by omega) rfl dL_law_282 dL_law_283 dL_law_284 dL_law_285 dL_law_286 ?_
  refine ll_arg (k := 2) lc hL hs hl (by omega) rfl dL_law_287 dL_law_288 dL_law_289 dL_law_290 dL_law_291 ?_
  refine ll_arg (k := 3) lc hL hs hl (by omega) rfl dL_law_292 dL_law_293 dL_law_294 dL_law_295 dL_law_296 ?_
  refine ll_arg (k := 4) lc hL hs hl (by omega) rfl dL_law_297 dL_law_298 dL_law_299 dL_law_300 dL_law_301 ?_
  refine ll_arg (k := 5) lc hL hs hl (by omega) rfl dL_law_302 dL_law_303 dL_law_304 dL_law_305 dL_law_306 ?_
  refine ll_I lc hs (ct_I (hB _) List.perm_append_comm List.perm_append_comm) mv_L_17 (List.mem_append_right _ hm2) rfl ⟨Nat.le_of_ble_eq_true rfl, Nat.le_of_ble_eq_true rfl⟩ rfl hl.1 rfl (Nat.le_of_ble_eq_true rfl) dL_law_307 ⟨lwq_r2 hr.1 (Nat.le_of_ble_eq_true rfl), lwq_s2 hr.2 (Nat.le_of_ble_eq_true rfl)⟩ (fun H locs hs => ?_)
  refine ll_eqI lc dL_law_310 (by decide) ?_
  exact W.widen (lwq_c (Nat.le_of_ble_eq_true rfl)) (lwq_c (Nat.le_of_ble_eq_true rfl)) (kk _ _ _ _ _ hs (hJ.mono (by omega)))
set_option maxHeartbeats 4000000 in
set_option maxRecDepth 100000 in
theorem cs_end {p : Program} {l : Launch} {e : Env} {s : State} {m : MethodId} {below : List Frame} {meth : Method} {c : Code} {H : Heap} {locs : List Loc} {cells slots : Nat} {Q : State → Prop} {ls : Array Slot} {G : GG} {S : SM} {X Y : va_W} {b L a b' i : Nat} {z : Int} {xs : Nat → Int32} (lc : LwC p s m meth c b L xs G) (hL : L ≤ 3072) (hi : i + 6 ≤ L) (hz : z < 1000000) (hs : LwS s G S H locs (X ++ Y)) (hI : Inv G S z a b' X Y) (hl : lv_has ls 4 [(0, .ref b), (1, .ref a), (2, .ref b'), (3, .int (kI (i : Int)))]) (hr : cells ≤ 500000 ∧ slots ≤ 7000000) (kk : LwK p l e s m below meth c G b a b' (z + 1) (cells + 5) (slots + 4000) Q ls) : W p l e room_1 s m #[Value.ref b] below meth c H locs cells slots Q (F0 m 315 ls []) := by
  have hx := lc.1.1
  have hb := lc.1.2.1
  obtain ⟨f1, hm1⟩ := hI.m1
  obtain ⟨f2, hm2⟩ := hI.m2
  obtain ⟨v, X1, Y1, hA, hB, hJ⟩ := st_end (l := l) (kI_range (xs (i + 1))) hI
  refine lv_aload_n hx hb dL_law_315 rfl (lv_at hl 1 rfl) ?_
  refine ll_arg (k := 1) lc hL hs hl (by omega) rfl dL_law_316 dL_law_317 dL_law_318 dL_law_319 dL_law_320 ?_
  refine ll_I lc hs (ct_I (hA _) (List.Perm.refl _) (List.Perm.refl _)) mv_L_18 (List.mem_append_left _ hm1) rfl ⟨Nat.le_of_ble_eq_true rfl, Nat.le_of_ble_eq_true rfl⟩ rfl hl.1 rfl (Nat.le_of_ble_eq_true rfl) dL_law_321 ⟨lwq_r hr.1 (Nat.le_of_ble_eq_true rfl), lwq_s hr.2 (Nat.le_of_ble_eq_true rfl)⟩ (fun H locs hs => ?_)
  refine lv_aload_n hx hb dL_law_324 rfl (lv_at hl 2 rfl) ?_
  refine ll_arg (k := 1) lc hL hs hl (by omega) rfl dL_law_325 dL_law_326 dL_law_327 dL_law_328 dL_law_329 ?_
  refine ll_I lc hs (ct_I (hB _) List.perm_append_comm List.perm_append_comm) mv_L_22 (List.mem_append_right _ hm2) rfl ⟨Nat.le_of_ble_eq_true rfl, Nat.le_of_ble_eq_true rfl⟩ rfl hl.1 rfl (Nat.le_of_ble_eq_true rfl) dL_law_330 ⟨lwq_r2 hr.1 (Nat.le_of_ble_eq_true rfl), lwq_s2 hr.2 (Nat.le_of_ble_eq_true rfl)⟩ (fun H locs hs => ?_)
  refine ll_eqI lc dL_law_333 (by decide) ?_
  exact W.widen (lwq_c (Nat.le_of_ble_eq_true rfl)) (lwq_c (Nat.le_of_ble_eq_true rfl)) (kk _ _ _ _ _ hs (hJ.mono (by omega)))
set_option maxHeartbeats 4000000 in
set_option maxRecDepth 100000 in
theorem cs_pool {p : Program} {l : Launch} {e : Env} {s : State} {m : MethodId} {below : List Frame} {meth : Method} {c : Code} {H : Heap} {locs : List Loc} {cells slots : Nat} {Q : State → Prop} {ls : Array Slot} {G : GG} {S : SM} {X Y : va_W} {b L a b' i : Nat} {z : Int} {xs : Nat → Int32} (lc : LwC p s m meth c b L xs G) (hL : L ≤ 3072) (hi : i + 6 ≤ L) (hz : z < 1000000) (hs : LwS s G S H locs (X ++ Y)) (hI : Inv G S z a b' X Y) (hl : lv_has ls 4 [(0, .ref b), (1, .ref a), (2, .ref b'), (3, .int (kI (i : Int)))]) (hr : cells ≤ 500000 ∧ slots ≤ 7000000) (kk : LwK p l e s m below meth c G b a b' (z + 1) (cells + 5) (slots + 4000) Q ls) : W p l e room_1 s m #[Value.ref b] below meth c H locs cells slots Q (F0 m 338 ls []) := by
  have hx := lc.1.1
  have hb := lc.1.2.1
  obtain ⟨f1, hm1⟩ := hI.m1
  obtain ⟨f2, hm2⟩ := hI.m2
  obtain ⟨v, X1, Y1, hA, hB, hJ⟩ := st_pool (l := l) hI
  refine lv_aload_n hx hb dL_law_338 rfl (lv_at hl 1 rfl) ?_
  refine ll_I lc hs (ct_I (hA _) (List.Perm.refl _) (List.Perm.refl _)) mv_L_23 (List.mem_append_left _ hm1) rfl ⟨Nat.le_of_ble_eq_true rfl, Nat.le_of_ble_eq_true rfl⟩ rfl hl.1 rfl (Nat.le_of_ble_eq_true rfl) dL_law_339 ⟨lwq_r hr.1 (Nat.le_of_ble_eq_true rfl), lwq_s hr.2 (Nat.le_of_ble_eq_true rfl)⟩ (fun H locs hs => ?_)
  refine lv_aload_n hx hb dL_law_342 rfl (lv_at hl 2 rfl) ?_
  refine ll_I lc hs (ct_I (hB _) List.perm_append_comm List.perm_append_comm) mv_L_27 (List.mem_append_right _ hm2) rfl ⟨Nat.le_of_ble_eq_true rfl, Nat.le_of_ble_eq_true rfl⟩ rfl hl.1 rfl (Nat.le_of_ble_eq_true rfl) dL_law_343 ⟨lwq_r2 hr.1 (Nat.le_of_ble_eq_true rfl), lwq_s2 hr.2 (Nat.le_of_ble_eq_true rfl)⟩ (fun H locs hs => ?_)
  refine ll_eqI lc dL_law_346 (by decide) ?_
  exact W.widen (lwq_c (Nat.le_of_ble_eq_true rfl)) (lwq_c (Nat.le_of_ble_eq_true rfl)) (kk _ _ _ _ _ hs (hJ.mono (by omega)))
set_option maxHeartbeats 4000000 in
set_option maxRecDepth 100000 in
theorem cs_sample {p : Program} {l : Launch} {e : Env} {s : State} {m : MethodId} {below : List Frame} {meth : Method} {c : Code} {H : Heap} {locs : List Loc} {cells slots : Nat} {Q : State → Prop} {ls : Array Slot} {G : GG} {S : SM} {X Y : va_W} {b L a b' i : Nat} {z : Int} {xs : Nat → Int32} (lc : LwC p s m meth c b L xs G) (hL : L ≤ 3072) (hi : i + 6 ≤ L) (hz : z < 1000000) (hs : LwS s G S H locs (X ++ Y)) (hI : Inv G S z a b' X Y) (hl : lv_has ls 4 [(0, .ref b), (1, .ref a), (2, .ref b'), (3, .int (kI (i : Int)))]) (hr : cells ≤ 500000 ∧ slots ≤ 7000000) (kk : LwK p l e s m below meth c G b a b' (z + 1) (cells + 5) (slots + 4000) Q ls) : W p l e room_1 s m #[Value.ref b] below meth c H locs cells slots Q (F0 m 351 ls []) := by
  have hx := lc.1.1
  have hb := lc.1.2.1
  obtain ⟨f1, hm1⟩ := hI.m1
  obtain ⟨f2, hm2⟩ := hI.m2
  rcases st_sample (l := l) hI with ⟨v, X1, Y1, hA, hB, hJ⟩ | ⟨v, k, t, f, g, X1, Y1, hk, hA, hB, hJ⟩
  · refine lv_aload_n hx hb dL_law_351 rfl (lv_at hl 1 rfl) ?_
    refine ll_I lc hs (ct_I (hA _) (List.Perm.refl _) (List.Perm.refl _)) mv_L_28 (List.mem_append_left _ hm1) rfl ⟨Nat.le_of_ble_eq_true rfl, Nat.le_of_ble_eq_true rfl⟩ rfl hl.1 rfl (Nat.le_of_ble_eq_true rfl) dL_law_352 ⟨lwq_r hr.1 (Nat.le_of_ble_eq_true rfl), lwq_s hr.2 (Nat.le_of_ble_eq_true rfl)⟩ (fun H locs hs => ?_)
    refine lv_aload_n hx hb dL_law_355 rfl (lv_at hl 2 rfl) ?_
    refine ll_I lc hs (ct_I (hB _) List.perm_append_comm List.perm_append_comm) mv_L_31 (List.mem_append_right _ hm2) rfl ⟨Nat.le_of_ble_eq_true rfl, Nat.le_of_ble_eq_true rfl⟩ rfl hl.1 rfl (Nat.le_of_ble_eq_true rfl) dL_law_356 ⟨lwq_r2 hr.1 (Nat.le_of_ble_eq_true rfl), lwq_s2 hr.2 (Nat.le_of_ble_eq_true rfl)⟩ (fun H locs hs => ?_)
    refine ll_eqI lc dL_law_359 (by decide) ?_
    exact W.widen (lwq_c (Nat.le_of_ble_eq_true rfl)) (lwq_c (Nat.le_of_ble_eq_true rfl)) (kk _ _ _ _ _ hs (hJ.mono (by omega)))
  · refine lv_aload_n hx hb dL_law_351 rfl (lv_at hl 1 rfl) ?_
    refine ll_Ix lc hs (ct_Ix (hA _) (List.Perm.refl _) (fun u => pm_tl (List.Perm.refl (X1 u ++ Y)))) mv_L_28 (List.mem_append_left _ hm1) rfl ⟨Nat.le_of_ble_eq_true rfl, Nat.le_of_ble_eq_true rfl⟩ rfl hl.1 rfl (Nat.le_of_ble_eq_true rfl) dL_law_352 ⟨lwq_r hr.1 (Nat.le_of_ble_eq_true rfl), lwq_s hr.2 (Nat.le_of_ble_eq_true rfl)⟩ (fun u H locs hs => ?_)
    obtain ⟨hfr, hs⟩ := LwS.sm lc hk hs
    refine lv_aload_n hx hb dL_law_355 rfl (lv_at hl 2 rfl) ?_
    refine ll_I lc hs (ct_I (hB _ _) List.perm_append_comm List.perm_append_comm) mv_L_31 (List.mem_append_right _ hm2) rfl ⟨Nat.le_of_ble_eq_true rfl, Nat.le_of_ble_eq_true rfl⟩ rfl hl.1 rfl (Nat.le_of_ble_eq_true rfl) dL_law_356 ⟨lwq_r2 hr.1 (Nat.le_of_ble_eq_true rfl), lwq_s2 hr.2 (Nat.le_of_ble_eq_true rfl)⟩ (fun H locs hs => ?_)
    refine ll_eqI lc dL_law_359 (by decide) ?_
    exact W.widen (lwq_c (Nat.le_of_ble_eq_true rfl)) (lwq_c (Nat.le_of_ble_eq_true rfl)) (kk _ _ _ _ _ hs ((hJ u hfr).mono (by omega)))
set_option maxHeartbeats 4000000 in
set_option maxRecDepth 100000 in
theorem cs_fault {p : Program} {l : Launch} {e : Env} {s : State} {m : MethodId} {below : List Frame} {meth : Method} {c : Code} {H : Heap} {locs : List Loc} {cells slots : Nat} {Q : State → Prop} {ls : Array Slot} {G : GG} {S : SM} {X Y : va_W} {b L a b' i : Nat} {z : Int} {xs : Nat → Int32} (lc : LwC p s m meth c b L xs G) (hL : L ≤ 3072) (hi : i + 6 ≤ L) (hz : z < 1000000) (hs : LwS s G S H locs (X ++ Y)) (hI : Inv G S z a b' X Y) (hl : lv_has ls 4 [(0, .ref b), (1, .ref a), (2, .ref b'), (3, .int (kI (i : Int)))]) (hr : cells ≤ 500000 ∧ slots ≤ 7000000) (kk : LwK p l e s m below meth c G b a b' (z + 1) (cells + 5) (slots + 4000) Q ls) : W p l e room_1 s m #[Value.ref b] below meth c H locs cells slots Q (F0 m 364 ls []) := by
  have hx := lc.1.1
  have hb := lc.1.2.1
  obtain ⟨f1, hm1⟩ := hI.m1
  obtain ⟨f2, hm2⟩ := hI.m2
  obtain ⟨v, X1, Y1, hA, hB, hJ⟩ := st_fault (l := l) (kI_range (xs (i + 1))) hI
  refine lv_aload_n hx hb dL_law_364 rfl (lv_at hl 1 rfl) ?_
  refine ll_arg (k := 1) lc hL hs hl (by omega) rfl dL_law_365 dL_law_366 dL_law_367 dL_law_368 dL_law_369 ?_
  refine ll_I lc hs (ct_I (hA _) (List.Perm.refl _) (List.Perm.refl _)) mv_L_32 (List.mem_append_left _ hm1) rfl ⟨Nat.le_of_ble_eq_true rfl, Nat.le_of_ble_eq_true rfl⟩ rfl hl.1 rfl (Nat.le_of_ble_eq_true rfl) dL_law_370 ⟨lwq_r hr.1 (Nat.le_of_ble_eq_true rfl), lwq_s hr.2 (Nat.le_of_ble_eq_true rfl)⟩ (fun H locs hs => ?_)
  refine lv_aload_n hx hb dL_law_373 rfl (lv_at hl 2 rfl) ?_
  refine ll_arg (k := 1) lc hL hs hl (by omega) rfl dL_law_374 dL_law_375 dL_law_376 dL_law_377 dL_law_378 ?_
  refine ll_I lc hs (ct_I (hB _) List.perm_append_comm List.perm_append_comm) mv_L_35 (List.mem_append_right _ hm2) rfl ⟨Nat.le_of_ble_eq_true rfl, Nat.le_of_ble_eq_true rfl⟩ rfl hl.1 rfl (Nat.le_of_ble_eq_true rfl) dL_law_379 ⟨lwq_r2 hr.1 (Nat.le_of_ble_eq_true rfl), lwq_s2 hr.2 (Nat.le_of_ble_eq_true rfl)⟩ (fun H locs hs => ?_)
  refine ll_eqI lc dL_law_382 (by decide) ?_
  exact W.widen (lwq_c (Nat.le_of_ble_eq_true rfl)) (lwq_c (Nat.le_of_ble_eq_true rfl)) (kk _ _ _ _ _ hs (hJ.mono (by omega)))
set_option maxHeartbeats 4000000 in
set_option maxRecDepth 100000 in
theorem cs_count {p : Program} {l : Launch} {e : Env} {s : State} {m : MethodId} {below : List Frame} {meth : Method} {c : Code} {H : Heap} {locs : List Loc} {cells slots : Nat} {Q : State → Prop} {ls : Array Slot} {G : GG} {S : SM} {X Y : va_W} {b L a b' i : Nat} {z : Int} {xs : Nat → Int32} (lc : LwC p s m meth c b L xs G) (hL : L ≤ 3072) (hi : i + 6 ≤ L) (hz : z < 1000000) (hs : LwS s G S H locs (X ++ Y)) (hI : Inv G S z a b' X Y) (hl : lv_has ls 4 [(0, .ref b), (1, .ref a), (2, .ref b'), (3, .int (kI (i : Int)))]) (hr : cells ≤ 500000 ∧ slots ≤ 7000000) (kk : LwK p l e s m below meth c G b a b' (z + 1) (cells + 5) (slots + 4000) Q ls) : W p l e room_1 s m #[Value.ref b] below meth c H locs cells slots Q (F0 m 387 ls []) := by
  have hx := lc.1.1
  have hb := lc.1.2.1
  obtain ⟨f1, hm1⟩ := hI.m1
  obtain ⟨f2, hm2⟩ := hI.m2
  obtain ⟨v, X1, Y1, hA, hB, hJ⟩ := st_count (l := l) (kI_range (xs (i + 1))) hI
  refine lv_aload_n hx hb dL_law_387 rfl (lv_at hl 1 rfl) ?_
  refine ll_arg (k := 1) lc hL hs hl (by omega) rfl dL_law_388 dL_law_389 dL_law_390 dL_law_391 dL_law_392 ?_
  refine ll_I lc hs (ct_I (hA _) (List.Perm.refl _) (List.Perm.refl _)) mv_L_36 (List.mem_append_left _ hm1) rfl ⟨Nat.le_of_ble_eq_true rfl, Nat.le_of_ble_eq_true rfl⟩ rfl hl.1 rfl (Nat.le_of_ble_eq_true rfl) dL_law_393 ⟨lwq_r hr.1 (Nat.le_of_ble_eq_true rfl), lwq_s hr.2 (Nat.le_of_ble_eq_true rfl)⟩ (fun H locs hs => ?_)
  refine lv_aload_n hx hb dL_law_396 rfl (lv_at hl 2 rfl) ?_
  refine ll_arg (k := 1) lc hL hs hl (by omega) rfl dL_law_397 dL_law_398 dL_law_399 dL_law_400 dL_law_401 ?_
  refine ll_I lc hs (ct_I (hB _) List.perm_append_comm List.perm_append_comm) mv_L_39 (List.mem_append_right _ hm2) rfl ⟨Nat.le_of_ble_eq_true rfl, Nat.le_of_ble_eq_true rfl⟩ rfl hl.1 rfl (Nat.le_of_ble_eq_true rfl) dL_law_402 ⟨lwq_r2 hr.1 (Nat.le_of_ble_eq_true rfl), lwq_s2 hr.2 (Nat.le_of_ble_eq_true rfl)⟩ (fun H locs hs => ?_)
  refine ll_eqI lc dL_law_405 (by decide) ?_
  exact W.widen (lwq_c (Nat.le_of_ble_eq_true rfl)) (lwq_c (Nat.le_of_ble_eq_true rfl)) (kk _ _ _ _ _ hs (hJ.mono (by omega)))
set_option maxHeartbeats 4000000 in
set_option maxRecDepth 100000 in
theorem cs_row {p : Program} {l : Launch} {e : Env} {s : State} {m : MethodId} {below : List Frame} {meth : Method} {c : Code} {H : Heap} {locs : List Loc} {cells slots : Nat} {Q : State → Prop} {ls : Array Slot} {G : GG} {S : SM} {X Y : va_W} {b L a b' i : Nat} {z : Int} {xs : Nat → Int32} (lc : LwC p s m meth c b L xs G) (hL : L ≤ 3072) (hi : i + 6 ≤ L) (hz : z < 1000000) (hs : LwS s G S H locs (X ++ Y)) (hI : Inv G S z a b' X Y) (hl : lv_has ls 4 [(0, .ref b), (1, .ref a), (2, .ref b'), (3, .int (kI (i : Int)))]) (hr : cells ≤ 500000 ∧ slots ≤ 7000000) (kk : LwK p l e s m below meth c G b a b' (z + 1) (cells + 5) (slots + 4000) Q ls) : W p l e room_1 s m #[Value.ref b] below meth c H locs cells slots Q (F0 m 410 ls []) := by
  have hx := lc.1.1
  have hb := lc.1.2.1
  obtain ⟨f1, hm1⟩ := hI.m1
  obtain ⟨f2, hm2⟩ := hI.m2
  obtain ⟨v, X1, Y1, hA, hB, hJ⟩ := st_row (l := l) (kI_range (xs (i + 1))) (kI_range (xs (i + 2))) hI
  refine lv_aload_n hx hb dL_law_410 rfl (lv_at hl 1 rfl) ?_
  refine ll_arg (k := 1) lc hL hs hl (by omega) rfl dL_law_411 dL_law_412 dL_law_413 dL_law_414 dL_law_415 ?_
  refine ll_arg (k := 2) lc hL hs hl (by omega) rfl dL_law_416 dL_law_417 dL_law_418 dL_law_419 dL_law_420 ?_
  refine ll_I lc hs (ct_I (hA _) (List.Perm.refl _) (List.Perm.refl _)) mv_L_40 (List.mem_append_left _ hm1) rfl ⟨Nat.le_of_ble_eq_true rfl, Nat.le_of_ble_eq_true rfl⟩ rfl hl.1 rfl (Nat.le_of_ble_eq_true rfl) dL_law_421 ⟨lwq_r hr.1 (Nat.le_of_ble_eq_true rfl), lwq_s hr.2 (Nat.le_of_ble_eq_true rfl)⟩ (fun H locs hs => ?_)
  refine lv_aload_n hx hb dL_law_424 rfl (lv_at hl 2 rfl) ?_
  refine ll_arg (k := 1) lc hL hs hl (by omega) rfl dL_law_425 dL_law_426 dL_law_427 dL_law_428 dL_law_429 ?_
  refine ll_arg (k := 2) lc hL hs hl (by omega) rfl dL_law_430 dL_law_431 dL_law_432 dL_law_433 dL_law_434 ?_
  refine ll_I lc hs (ct_I (hB _) List.perm_append_comm List.perm_append_comm) mv_L_44 (List.mem_append_right _ hm2) rfl ⟨Nat.le_of_ble_eq_true rfl, Nat.le_of_ble_eq_true rfl⟩ rfl hl.1 rfl (Nat.le_of_ble_eq_true rfl) dL_law_435 ⟨lwq_r2 hr.1 (Nat.le_of_ble_eq_true rfl), lwq_s2 hr.2 (Nat.le_of_ble_eq_true rfl)⟩ (fun H locs hs => ?_)
  refine ll_eqI lc dL_law_438 (by decide) ?_
  exact W.widen (lwq_c (Nat.le_of_ble_eq_true rfl)) (lwq_c (Nat.le_of_ble_eq_true rfl)) (kk _ _ _ _ _ hs (hJ.mono (by omega)))
set_option maxHeartbeats 4000000 in
set_option maxRecDepth 100000 in
theorem cs_band {p : Program} {l : Launch} {e : Env} {s : State} {m : MethodId} {below : List Frame} {meth : Method} {c : Code} {H : Heap} {locs : List Loc} {cells slots : Nat} {Q : State → Prop} {ls : Array Slot} {G : GG} {S : SM} {X Y : va_W} {b L a b' i : Nat} {z : Int} {xs : Nat → Int32} (lc : LwC p s m meth c b L xs G) (hL : L ≤ 3072) (hi : i + 6 ≤ L) (hz : z < 1000000) (hs : LwS s G S H locs (X ++ Y)) (hI : Inv G S z a b' X Y) (hl : lv_has ls 4 [(0, .ref b), (1, .ref a), (2, .ref b'), (3, .int (kI (i : Int)))]) (hr : cells ≤ 500000 ∧ slots ≤ 7000000) (kk : LwK p l e s m below meth c G b a b' (z + 1) (cells + 5) (slots + 4000) Q ls) : W p l e room_1 s m #[Value.ref b] below meth c H locs cells slots Q (F0 m 443 ls []) := by
  have hx := lc.1.1
  have hb := lc.1.2.1
  obtain ⟨f1, hm1⟩ := hI.m1
  obtain ⟨f2, hm2⟩ := hI.m2
  obtain ⟨v, X1, Y1, hA, hB, hJ⟩ := st_band (l := l) (kI_range (xs (i + 1))) (kI_range (xs (i + 2))) hI
  refine lv_aload_n hx hb dL_law_443 rfl (lv_at hl 1 rfl) ?_
  refine ll_arg (k := 1) lc hL hs hl (by omega) rfl dL_law_444 dL_law_445 dL_law_446 dL_law_447 dL_law_448 ?_
  refine ll_arg (k := 2) lc hL hs hl (by omega) rfl dL_law_449 dL_law_450 dL_law_451 dL_law_452 dL_law_453 ?_
  refine ll_I lc hs (ct_I (hA _) (List.Perm.refl _) (List.Perm.refl _)) mv_L_45 (List.mem_append_left _ hm1) rfl ⟨Nat.le_of_ble_eq_true rfl, Nat.le_of_ble_eq_true rfl⟩ rfl hl.1 rfl (Nat.le_of_ble_eq_true rfl) dL_law_454 ⟨lwq_r hr.1 (Nat.le_of_ble_eq_true rfl), lwq_s hr.2 (Nat.le_of_ble_eq_true rfl)⟩ (fun H locs hs => ?_)
  refine lv_aload_n hx hb dL_law_457 rfl (lv_at hl 2 rfl) ?_
  refine ll_arg (k := 1) lc hL hs hl (by omega) rfl dL_law_458 dL_law_459 dL_law_460 dL_law_461 dL_law_462 ?_
  refine ll_arg (k := 2) lc hL hs hl (by omega) rfl dL_law_463 dL_law_464 dL_law_465 dL_law_466 dL_law_467 ?_
  refine ll_I lc hs (ct_I (hB _) List.perm_append_comm List.perm_append_comm) mv_L_48 (List.mem_append_right _ hm2) rfl ⟨Nat.le_of_ble_eq_true rfl, Nat.le_of_ble_eq_true rfl⟩ rfl hl.1 rfl (Nat.le_of_ble_eq_true rfl) dL_law_468 ⟨lwq_r2 hr.1 (Nat.le_of_ble_eq_true rfl), lwq_s2 hr.2 (Nat.le_of_ble_eq_true rfl)⟩ (fun H locs hs => ?_)
  refine ll_eqI lc dL_law_471 (by decide) ?_
  exact W.widen (lwq_c (Nat.le_of_ble_eq_true rfl)) (lwq_c (Nat.le_of_ble_eq_true rfl)) (kk _ _ _ _ _ hs (hJ.mono (by omega)))
set_option maxHeartbeats 4000000 in
set_option maxRecDepth 100000 in
theorem cs_bandOf {p : Program} {l : Launch} {e : Env} {s : State} {m : MethodId} {below : List Frame} {meth : Method} {c : Code} {H : Heap} {locs : List Loc} {cells slots : Nat} {Q : State → Prop} {ls : Array Slot} {G : GG} {S : SM} {X Y : va_W} {b L a b' i : Nat} {z : Int} {xs : Nat → Int32} (lc : LwC p s m meth c b L xs G) (hL : L ≤ 3072) (hi : i + 6 ≤ L) (hz : z < 1000000) (hs : LwS s G S H locs (X ++ Y)) (hI : Inv G S z a b' X Y) (hl : lv_has ls 4 [(0, .ref b), (1, .ref a), (2, .ref b'), (3, .int (kI (i : Int)))]) (hr : cells ≤ 500000 ∧ slots ≤ 7000000) (kk : LwK p l e s m below meth c G b a b' (z + 1) (cells + 5) (slots + 4000) Q ls) : W p l e room_1 s m #[Value.ref b] below meth c H locs cells slots Q (F0 m 476 ls []) := by
  have hx := lc.1.1
  have hb := lc.1.2.1
  obtain ⟨f1, hm1⟩ := hI.m1
  obtain ⟨f2, hm2⟩ := hI.m2
  obtain ⟨v, X1, Y1, hA, hB, hJ⟩ := st_bandOf (l := l) (kI_range (xs (i + 1))) hI
  refine lv_aload_n hx hb dL_law_476 rfl (lv_at hl 1 rfl) ?_
  refine ll_arg (k := 1) lc hL hs hl (by omega) rfl dL_law_477 dL_law_478 dL_law_479 dL_law_480 dL_law_481 ?_
  refine ll_I lc hs (ct_I (hA _) (List.Perm.refl _) (List.Perm.refl _)) mv_L_49 (List.mem_append_left _ hm1) rfl ⟨Nat.le_of_ble_eq_true rfl, Nat.le_of_ble_eq_true rfl⟩ rfl hl.1 rfl (Nat.le_of_ble_eq_true rfl) dL_law_482 ⟨lwq_r hr.1 (Nat.le_of_ble_eq_true rfl), lwq_s hr.2 (Nat.le_of_ble_eq_true rfl)⟩ (fun H locs hs => ?_)
  refine lv_aload_n hx hb dL_law_485 rfl (lv_at hl 2 rfl) ?_
  refine ll_arg (k := 1) lc hL hs hl (by omega) rfl dL_law_486 dL_law_487 dL_law_488 dL_law_489 dL_law_490 ?_
  refine ll_I lc hs (ct_I (hB _) List.perm_append_comm List.perm_append_comm) mv_L_52 (List.mem_append_right _ hm2) rfl ⟨Nat.le_of_ble_eq_true rfl, Nat.le_of_ble_eq_true rfl⟩ rfl hl.1 rfl (Nat.le_of_ble_eq_true rfl) dL_law_491 ⟨lwq_r2 hr.1 (Nat.le_of_ble_eq_true rfl), lwq_s2 hr.2 (Nat.le_of_ble_eq_true rfl)⟩ (fun H locs hs => ?_)
  refine ll_eqI lc dL_law_494 (by decide) ?_
  exact W.widen (lwq_c (Nat.le_of_ble_eq_true rfl)) (lwq_c (Nat.le_of_ble_eq_true rfl)) (kk _ _ _ _ _ hs (hJ.mono (by omega)))
