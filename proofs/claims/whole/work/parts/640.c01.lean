set_option maxHeartbeats 4000000 in
set_option maxRecDepth 100000 in
theorem cs_rate {p : Program} {l : Launch} {e : Env} {s : State} {m : MethodId} {below : List Frame} {meth : Method} {c : Code} {H : Heap} {locs : List Loc} {cells slots : Nat} {Q : State → Prop} {ls : Array Slot} {G : GG} {S : SM} {X Y : va_W} {b L a b' i : Nat} {z : Int} {xs : Nat → Int32} (lc : LwC p s m meth c b L xs G) (hL : L ≤ 3072) (hi : i + 6 ≤ L) (hz : z < 1000000) (hs : LwS s G S H locs (X ++ Y)) (hI : Inv G S z a b' X Y) (hl : lv_has ls 4 [(0, .ref b), (1, .ref a), (2, .ref b'), (3, .int (kI (i : Int)))]) (hr : cells ≤ 500000 ∧ slots ≤ 7000000) (kk : LwK p l e s m below meth c G b a b' (z + 1) (cells + 5) (slots + 4000) Q ls) : W p l e room_1 s m #[Value.ref b] below meth c H locs cells slots Q (F0 m 499 ls []) := by
  have hx := lc.1.1
  have hb := lc.1.2.1
  obtain ⟨f1, hm1⟩ := hI.m1
  obtain ⟨f2, hm2⟩ := hI.m2
  obtain ⟨v, X1, Y1, hA, hB, hJ⟩ := st_rate (l := l) (kI_range (xs (i + 1))) (kI_range (xs (i + 2))) hI
  refine lv_aload_n hx hb dL_law_499 rfl (lv_at hl 1 rfl) ?_
  refine ll_arg (k := 1) lc hL hs hl (by omega) rfl dL_law_500 dL_law_501 dL_law_502 dL_law_503 dL_law_504 ?_
  refine ll_arg (k := 2) lc hL hs hl (by omega) rfl dL_law_505 dL_law_506 dL_law_507 dL_law_508 dL_law_509 ?_
  refine ll_L lc hs (ct_L (hA _) (List.Perm.refl _) (List.Perm.refl _)) mv_L_53 (List.mem_append_left _ hm1) rfl ⟨Nat.le_of_ble_eq_true rfl, Nat.le_of_ble_eq_true rfl⟩ rfl hl.1 rfl (Nat.le_of_ble_eq_true rfl) dL_law_510 ⟨lwq_r hr.1 (Nat.le_of_ble_eq_true rfl), lwq_s hr.2 (Nat.le_of_ble_eq_true rfl)⟩ (fun H locs hs => ?_)
  refine lv_aload_n hx hb dL_law_513 rfl (lv_at hl 2 rfl) ?_
  refine ll_arg (k := 1) lc hL hs hl (by omega) rfl dL_law_514 dL_law_515 dL_law_516 dL_law_517 dL_law_518 ?_
  refine ll_arg (k := 2) lc hL hs hl (by omega) rfl dL_law_519 dL_law_520 dL_law_521 dL_law_522 dL_law_523 ?_
  refine ll_L lc hs (ct_L (hB _) List.perm_append_comm List.perm_append_comm) mv_L_57 (List.mem_append_right _ hm2) rfl ⟨Nat.le_of_ble_eq_true rfl, Nat.le_of_ble_eq_true rfl⟩ rfl hl.1 rfl (Nat.le_of_ble_eq_true rfl) dL_law_524 ⟨lwq_r2 hr.1 (Nat.le_of_ble_eq_true rfl), lwq_s2 hr.2 (Nat.le_of_ble_eq_true rfl)⟩ (fun H locs hs => ?_)
  refine ll_eqL lc dL_law_527 dL_law_528 (by decide) ?_
  exact W.widen (lwq_c (Nat.le_of_ble_eq_true rfl)) (lwq_c (Nat.le_of_ble_eq_true rfl)) (kk _ _ _ _ _ hs (hJ.mono (by omega)))
set_option maxHeartbeats 4000000 in
set_option maxRecDepth 100000 in
theorem cs_error {p : Program} {l : Launch} {e : Env} {s : State} {m : MethodId} {below : List Frame} {meth : Method} {c : Code} {H : Heap} {locs : List Loc} {cells slots : Nat} {Q : State → Prop} {ls : Array Slot} {G : GG} {S : SM} {X Y : va_W} {b L a b' i : Nat} {z : Int} {xs : Nat → Int32} (lc : LwC p s m meth c b L xs G) (hL : L ≤ 3072) (hi : i + 6 ≤ L) (hz : z < 1000000) (hs : LwS s G S H locs (X ++ Y)) (hI : Inv G S z a b' X Y) (hl : lv_has ls 4 [(0, .ref b), (1, .ref a), (2, .ref b'), (3, .int (kI (i : Int)))]) (hr : cells ≤ 500000 ∧ slots ≤ 7000000) (kk : LwK p l e s m below meth c G b a b' (z + 1) (cells + 5) (slots + 4000) Q ls) : W p l e room_1 s m #[Value.ref b] below meth c H locs cells slots Q (F0 m 533 ls []) := by
  have hx := lc.1.1
  have hb := lc.1.2.1
  obtain ⟨f1, hm1⟩ := hI.m1
  obtain ⟨f2, hm2⟩ := hI.m2
  obtain ⟨v, X1, Y1, hA, hB, hJ⟩ := st_error (l := l) hI
  refine lv_aload_n hx hb dL_law_533 rfl (lv_at hl 1 rfl) ?_
  refine ll_L lc hs (ct_L (hA _) (List.Perm.refl _) (List.Perm.refl _)) mv_L_58 (List.mem_append_left _ hm1) rfl ⟨Nat.le_of_ble_eq_true rfl, Nat.le_of_ble_eq_true rfl⟩ rfl hl.1 rfl (Nat.le_of_ble_eq_true rfl) dL_law_534 ⟨lwq_r hr.1 (Nat.le_of_ble_eq_true rfl), lwq_s hr.2 (Nat.le_of_ble_eq_true rfl)⟩ (fun H locs hs => ?_)
  refine lv_aload_n hx hb dL_law_537 rfl (lv_at hl 2 rfl) ?_
  refine ll_L lc hs (ct_L (hB _) List.perm_append_comm List.perm_append_comm) mv_L_62 (List.mem_append_right _ hm2) rfl ⟨Nat.le_of_ble_eq_true rfl, Nat.le_of_ble_eq_true rfl⟩ rfl hl.1 rfl (Nat.le_of_ble_eq_true rfl) dL_law_538 ⟨lwq_r2 hr.1 (Nat.le_of_ble_eq_true rfl), lwq_s2 hr.2 (Nat.le_of_ble_eq_true rfl)⟩ (fun H locs hs => ?_)
  refine ll_eqL lc dL_law_541 dL_law_542 (by decide) ?_
  exact W.widen (lwq_c (Nat.le_of_ble_eq_true rfl)) (lwq_c (Nat.le_of_ble_eq_true rfl)) (kk _ _ _ _ _ hs (hJ.mono (by omega)))
set_option maxHeartbeats 4000000 in
set_option maxRecDepth 100000 in
theorem cs_joint {p : Program} {l : Launch} {e : Env} {s : State} {m : MethodId} {below : List Frame} {meth : Method} {c : Code} {H : Heap} {locs : List Loc} {cells slots : Nat} {Q : State → Prop} {ls : Array Slot} {G : GG} {S : SM} {X Y : va_W} {b L a b' i : Nat} {z : Int} {xs : Nat → Int32} (lc : LwC p s m meth c b L xs G) (hL : L ≤ 3072) (hi : i + 6 ≤ L) (hz : z < 1000000) (hs : LwS s G S H locs (X ++ Y)) (hI : Inv G S z a b' X Y) (hl : lv_has ls 4 [(0, .ref b), (1, .ref a), (2, .ref b'), (3, .int (kI (i : Int)))]) (hr : cells ≤ 500000 ∧ slots ≤ 7000000) (kk : LwK p l e s m below meth c G b a b' (z + 1) (cells + 5) (slots + 4000) Q ls) : W p l e room_1 s m #[Value.ref b] below meth c H locs cells slots Q (F0 m 547 ls []) := by
  have hx := lc.1.1
  have hb := lc.1.2.1
  obtain ⟨f1, hm1⟩ := hI.m1
  obtain ⟨f2, hm2⟩ := hI.m2
  obtain ⟨v, X1, Y1, hA, hB, hJ⟩ := st_joint (l := l) (kI_range (xs (i + 1))) hI
  refine lv_aload_n hx hb dL_law_547 rfl (lv_at hl 1 rfl) ?_
  refine ll_arg (k := 1) lc hL hs hl (by omega) rfl dL_law_548 dL_law_549 dL_law_550 dL_law_551 dL_law_552 ?_
  refine ll_L lc hs (ct_L (hA _) (List.Perm.refl _) (List.Perm.refl _)) mv_L_63 (List.mem_append_left _ hm1) rfl ⟨Nat.le_of_ble_eq_true rfl, Nat.le_of_ble_eq_true rfl⟩ rfl hl.1 rfl (Nat.le_of_ble_eq_true rfl) dL_law_553 ⟨lwq_r hr.1 (Nat.le_of_ble_eq_true rfl), lwq_s hr.2 (Nat.le_of_ble_eq_true rfl)⟩ (fun H locs hs => ?_)
  refine lv_aload_n hx hb dL_law_556 rfl (lv_at hl 2 rfl) ?_
  refine ll_arg (k := 1) lc hL hs hl (by omega) rfl dL_law_557 dL_law_558 dL_law_559 dL_law_560 dL_law_561 ?_
  refine ll_L lc hs (ct_L (hB _) List.perm_append_comm List.perm_append_comm) mv_L_67 (List.mem_append_right _ hm2) rfl ⟨Nat.le_of_ble_eq_true rfl, Nat.le_of_ble_eq_true rfl⟩ rfl hl.1 rfl (Nat.le_of_ble_eq_true rfl) dL_law_562 ⟨lwq_r2 hr.1 (Nat.le_of_ble_eq_true rfl), lwq_s2 hr.2 (Nat.le_of_ble_eq_true rfl)⟩ (fun H locs hs => ?_)
  refine ll_eqL lc dL_law_565 dL_law_566 (by decide) ?_
  exact W.widen (lwq_c (Nat.le_of_ble_eq_true rfl)) (lwq_c (Nat.le_of_ble_eq_true rfl)) (kk _ _ _ _ _ hs (hJ.mono (by omega)))
set_option maxHeartbeats 4000000 in
set_option maxRecDepth 100000 in
theorem cs_auc {p : Program} {l : Launch} {e : Env} {s : State} {m : MethodId} {below : List Frame} {meth : Method} {c : Code} {H : Heap} {locs : List Loc} {cells slots : Nat} {Q : State → Prop} {ls : Array Slot} {G : GG} {S : SM} {X Y : va_W} {b L a b' i : Nat} {z : Int} {xs : Nat → Int32} (lc : LwC p s m meth c b L xs G) (hL : L ≤ 3072) (hi : i + 6 ≤ L) (hz : z < 1000000) (hs : LwS s G S H locs (X ++ Y)) (hI : Inv G S z a b' X Y) (hl : lv_has ls 4 [(0, .ref b), (1, .ref a), (2, .ref b'), (3, .int (kI (i : Int)))]) (hr : cells ≤ 500000 ∧ slots ≤ 7000000) (kk : LwK p l e s m below meth c G b a b' (z + 1) (cells + 5) (slots + 4000) Q ls) : W p l e room_1 s m #[Value.ref b] below meth c H locs cells slots Q (F0 m 571 ls []) := by
  have hx := lc.1.1
  have hb := lc.1.2.1
  obtain ⟨f1, hm1⟩ := hI.m1
  obtain ⟨f2, hm2⟩ := hI.m2
  obtain ⟨v, X1, Y1, hA, hB, hJ⟩ := st_auc (l := l) (kI_range (xs (i + 1))) hI
  refine lv_aload_n hx hb dL_law_571 rfl (lv_at hl 1 rfl) ?_
  refine ll_arg (k := 1) lc hL hs hl (by omega) rfl dL_law_572 dL_law_573 dL_law_574 dL_law_575 dL_law_576 ?_
  refine ll_L lc hs (ct_L (hA _) (List.Perm.refl _) (List.Perm.refl _)) mv_L_68 (List.mem_append_left _ hm1) rfl ⟨Nat.le_of_ble_eq_true rfl, Nat.le_of_ble_eq_true rfl⟩ rfl hl.1 rfl (Nat.le_of_ble_eq_true rfl) dL_law_577 ⟨lwq_r hr.1 (Nat.le_of_ble_eq_true rfl), lwq_s hr.2 (Nat.le_of_ble_eq_true rfl)⟩ (fun H locs hs => ?_)
  refine lv_aload_n hx hb dL_law_580 rfl (lv_at hl 2 rfl) ?_
  refine ll_arg (k := 1) lc hL hs hl (by omega) rfl dL_law_581 dL_law_582 dL_law_583 dL_law_584 dL_law_585 ?_
  refine ll_L lc hs (ct_L (hB _) List.perm_append_comm List.perm_append_comm) mv_L_71 (List.mem_append_right _ hm2) rfl ⟨Nat.le_of_ble_eq_true rfl, Nat.le_of_ble_eq_true rfl⟩ rfl hl.1 rfl (Nat.le_of_ble_eq_true rfl) dL_law_586 ⟨lwq_r2 hr.1 (Nat.le_of_ble_eq_true rfl), lwq_s2 hr.2 (Nat.le_of_ble_eq_true rfl)⟩ (fun H locs hs => ?_)
  refine ll_eqL lc dL_law_589 dL_law_590 (by decide) ?_
  exact W.widen (lwq_c (Nat.le_of_ble_eq_true rfl)) (lwq_c (Nat.le_of_ble_eq_true rfl)) (kk _ _ _ _ _ hs (hJ.mono (by omega)))
set_option maxHeartbeats 4000000 in
set_option maxRecDepth 100000 in
theorem cs_ks {p : Program} {l : Launch} {e : Env} {s : State} {m : MethodId} {below : List Frame} {meth : Method} {c : Code} {H : Heap} {locs : List Loc} {cells slots : Nat} {Q : State → Prop} {ls : Array Slot} {G : GG} {S : SM} {X Y : va_W} {b L a b' i : Nat} {z : Int} {xs : Nat → Int32} (lc : LwC p s m meth c b L xs G) (hL : L ≤ 3072) (hi : i + 6 ≤ L) (hz : z < 1000000) (hs : LwS s G S H locs (X ++ Y)) (hI : Inv G S z a b' X Y) (hl : lv_has ls 4 [(0, .ref b), (1, .ref a), (2, .ref b'), (3, .int (kI (i : Int)))]) (hr : cells ≤ 500000 ∧ slots ≤ 7000000) (kk : LwK p l e s m below meth c G b a b' (z + 1) (cells + 5) (slots + 4000) Q ls) : W p l e room_1 s m #[Value.ref b] below meth c H locs cells slots Q (F0 m 595 ls []) := by
  have hx := lc.1.1
  have hb := lc.1.2.1
  obtain ⟨f1, hm1⟩ := hI.m1
  obtain ⟨f2, hm2⟩ := hI.m2
  obtain ⟨v, X1, Y1, hA, hB, hJ⟩ := st_ks (l := l) (kI_range (xs (i + 1))) hI
  refine lv_aload_n hx hb dL_law_595 rfl (lv_at hl 1 rfl) ?_
  refine ll_arg (k := 1) lc hL hs hl (by omega) rfl dL_law_596 dL_law_597 dL_law_598 dL_law_599 dL_law_600 ?_
  refine ll_L lc hs (ct_L (hA _) (List.Perm.refl _) (List.Perm.refl _)) mv_L_72 (List.mem_append_left _ hm1) rfl ⟨Nat.le_of_ble_eq_true rfl, Nat.le_of_ble_eq_true rfl⟩ rfl hl.1 rfl (Nat.le_of_ble_eq_true rfl) dL_law_601 ⟨lwq_r hr.1 (Nat.le_of_ble_eq_true rfl), lwq_s hr.2 (Nat.le_of_ble_eq_true rfl)⟩ (fun H locs hs => ?_)
  refine lv_aload_n hx hb dL_law_604 rfl (lv_at hl 2 rfl) ?_
  refine ll_arg (k := 1) lc hL hs hl (by omega) rfl dL_law_605 dL_law_606 dL_law_607 dL_law_608 dL_law_609 ?_
  refine ll_L lc hs (ct_L (hB _) List.perm_append_comm List.perm_append_comm) mv_L_75 (List.mem_append_right _ hm2) rfl ⟨Nat.le_of_ble_eq_true rfl, Nat.le_of_ble_eq_true rfl⟩ rfl hl.1 rfl (Nat.le_of_ble_eq_true rfl) dL_law_610 ⟨lwq_r2 hr.1 (Nat.le_of_ble_eq_true rfl), lwq_s2 hr.2 (Nat.le_of_ble_eq_true rfl)⟩ (fun H locs hs => ?_)
  refine ll_eqL lc dL_law_613 dL_law_614 (by decide) ?_
  exact W.widen (lwq_c (Nat.le_of_ble_eq_true rfl)) (lwq_c (Nat.le_of_ble_eq_true rfl)) (kk _ _ _ _ _ hs (hJ.mono (by omega)))
set_option maxHeartbeats 4000000 in
set_option maxRecDepth 100000 in
theorem cs_hull {p : Program} {l : Launch} {e : Env} {s : State} {m : MethodId} {below : List Frame} {meth : Method} {c : Code} {H : Heap} {locs : List Loc} {cells slots : Nat} {Q : State → Prop} {ls : Array Slot} {G : GG} {S : SM} {X Y : va_W} {b L a b' i : Nat} {z : Int} {xs : Nat → Int32} (lc : LwC p s m meth c b L xs G) (hL : L ≤ 3072) (hi : i + 6 ≤ L) (hz : z < 1000000) (hs : LwS s G S H locs (X ++ Y)) (hI : Inv G S z a b' X Y) (hl : lv_has ls 4 [(0, .ref b), (1, .ref a), (2, .ref b'), (3, .int (kI (i : Int)))]) (hr : cells ≤ 500000 ∧ slots ≤ 7000000) (kk : LwK p l e s m below meth c G b a b' (z + 1) (cells + 5) (slots + 4000) Q ls) : W p l e room_1 s m #[Value.ref b] below meth c H locs cells slots Q (F0 m 619 ls []) := by
  have hx := lc.1.1
  have hb := lc.1.2.1
  obtain ⟨f1, hm1⟩ := hI.m1
  obtain ⟨f2, hm2⟩ := hI.m2
  obtain ⟨v, X1, Y1, hA, hB, hJ⟩ := st_hull (l := l) (kI_range (xs (i + 1))) (kI_range (xs (i + 2))) hI
  refine lv_aload_n hx hb dL_law_619 rfl (lv_at hl 1 rfl) ?_
  refine ll_arg (k := 1) lc hL hs hl (by omega) rfl dL_law_620 dL_law_621 dL_law_622 dL_law_623 dL_law_624 ?_
  refine ll_arg (k := 2) lc hL hs hl (by omega) rfl dL_law_625 dL_law_626 dL_law_627 dL_law_628 dL_law_629 ?_
  refine ll_I lc hs (ct_I (hA _) (List.Perm.refl _) (List.Perm.refl _)) mv_L_76 (List.mem_append_left _ hm1) rfl ⟨Nat.le_of_ble_eq_true rfl, Nat.le_of_ble_eq_true rfl⟩ rfl hl.1 rfl (Nat.le_of_ble_eq_true rfl) dL_law_630 ⟨lwq_r hr.1 (Nat.le_of_ble_eq_true rfl), lwq_s hr.2 (Nat.le_of_ble_eq_true rfl)⟩ (fun H locs hs => ?_)
  refine lv_aload_n hx hb dL_law_633 rfl (lv_at hl 2 rfl) ?_
  refine ll_arg (k := 1) lc hL hs hl (by omega) rfl dL_law_634 dL_law_635 dL_law_636 dL_law_637 dL_law_638 ?_
  refine ll_arg (k := 2) lc hL hs hl (by omega) rfl dL_law_639 dL_law_640 dL_law_641 dL_law_642 dL_law_643 ?_
  refine ll_I lc hs (ct_I (hB _) List.perm_append_comm List.perm_append_comm) mv_L_79 (List.mem_append_right _ hm2) rfl ⟨Nat.le_of_ble_eq_true rfl, Nat.le_of_ble_eq_true rfl⟩ rfl hl.1 rfl (Nat.le_of_ble_eq_true rfl) dL_law_644 ⟨lwq_r2 hr.1 (Nat.le_of_ble_eq_true rfl), lwq_s2 hr.2 (Nat.le_of_ble_eq_true rfl)⟩ (fun H locs hs => ?_)
  refine ll_eqI lc dL_law_647 (by decide) ?_
  exact W.widen (lwq_c (Nat.le_of_ble_eq_true rfl)) (lwq_c (Nat.le_of_ble_eq_true rfl)) (kk _ _ _ _ _ hs (hJ.mono (by omega)))
set_option maxHeartbeats 4000000 in
set_option maxRecDepth 100000 in
theorem cs_cost {p : Program} {l : Launch} {e : Env} {s : State} {m : MethodId} {below : List Frame} {meth : Method} {c : Code} {H : Heap} {locs : List Loc} {cells slots : Nat} {Q : State → Prop} {ls : Array Slot} {G : GG} {S : SM} {X Y : va_W} {b L a b' i : Nat} {z : Int} {xs : Nat → Int32} (lc : LwC p s m meth c b L xs G) (hL : L ≤ 3072) (hi : i + 6 ≤ L) (hz : z < 1000000) (hs : LwS s G S H locs (X ++ Y)) (hI : Inv G S z a b' X Y) (hl : lv_has ls 4 [(0, .ref b), (1, .ref a), (2, .ref b'), (3, .int (kI (i : Int)))]) (hr : cells ≤ 500000 ∧ slots ≤ 7000000) (kk : LwK p l e s m below meth c G b a b' (z + 1) (cells + 5) (slots + 4000) Q ls) : W p l e room_1 s m #[Value.ref b] below meth c H locs cells slots Q (F0 m 652 ls []) := by
  have hx := lc.1.1
  have hb := lc.1.2.1
  obtain ⟨f1, hm1⟩ := hI.m1
  obtain ⟨f2, hm2⟩ := hI.m2
  obtain ⟨v, X1, Y1, hA, hB, hJ⟩ := st_cost (l := l) (kI_range (xs (i + 1))) hI
  refine lv_aload_n hx hb dL_law_652 rfl (lv_at hl 1 rfl) ?_
  refine ll_arg (k := 1) lc hL hs hl (by omega) rfl dL_law_653 dL_law_654 dL_law_655 dL_law_656 dL_law_657 ?_
  refine ll_I lc hs (ct_I (hA _) (List.Perm.refl _) (List.Perm.refl _)) mv_L_80 (List.mem_append_left _ hm1) rfl ⟨Nat.le_of_ble_eq_true rfl, Nat.le_of_ble_eq_true rfl⟩ rfl hl.1 rfl (Nat.le_of_ble_eq_true rfl) dL_law_658 ⟨lwq_r hr.1 (Nat.le_of_ble_eq_true rfl), lwq_s hr.2 (Nat.le_of_ble_eq_true rfl)⟩ (fun H locs hs => ?_)
  refine lv_aload_n hx hb dL_law_661 rfl (lv_at hl 2 rfl) ?_
  refine ll_arg (k := 1) lc hL hs hl (by omega) rfl dL_law_662 dL_law_663 dL_law_664 dL_law_665 dL_law_666 ?_
  refine ll_I lc hs (ct_I (hB _) List.perm_append_comm List.perm_append_comm) mv_L_83 (List.mem_append_right _ hm2) rfl ⟨Nat.le_of_ble_eq_true rfl, Nat.le_of_ble_eq_true rfl⟩ rfl hl.1 rfl (Nat.le_of_ble_eq_true rfl) dL_law_667 ⟨lwq_r2 hr.1 (Nat.le_of_ble_eq_true rfl), lwq_s2 hr.2 (Nat.le_of_ble_eq_true rfl)⟩ (fun H locs hs => ?_)
  refine ll_eqI lc dL_law_670 (by decide) ?_
  exact W.widen (lwq_c (Nat.le_of_ble_eq_true rfl)) (lwq_c (Nat.le_of_ble_eq_true rfl)) (kk _ _ _ _ _ hs (hJ.mono (by omega)))
set_option maxHeartbeats 4000000 in
set_option maxRecDepth 100000 in
theorem cs_cut {p : Program} {l : Launch} {e : Env} {s : State} {m : MethodId} {below : List Frame} {meth : Method} {c : Code} {H : Heap} {locs : List Loc} {cells slots : Nat} {Q : State → Prop} {ls : Array Slot} {G : GG} {S : SM} {X Y : va_W} {b L a b' i : Nat} {z : Int} {xs : Nat → Int32} (lc : LwC p s m meth c b L xs G) (hL : L ≤ 3072) (hi : i + 6 ≤ L) (hz : z < 1000000) (hs : LwS s G S H locs (X ++ Y)) (hI : Inv G S z a b' X Y) (hl : lv_has ls 4 [(0, .ref b), (1, .ref a), (2, .ref b'), (3, .int (kI (i : Int)))]) (hr : cells ≤ 500000 ∧ slots ≤ 7000000) (kk : LwK p l e s m below meth c G b a b' (z + 1) (cells + 5) (slots + 4000) Q ls) : W p l e room_1 s m #[Value.ref b] below meth c H locs cells slots Q (F0 m 675 ls []) := by
  have hx := lc.1.1
  have hb := lc.1.2.1
  obtain ⟨f1, hm1⟩ := hI.m1
  obtain ⟨f2, hm2⟩ := hI.m2
  obtain ⟨v, X1, Y1, hA, hB, hJ⟩ := st_cut (l := l) (kI_range (xs (i + 1))) hI
  refine lv_aload_n hx hb dL_law_675 rfl (lv_at hl 1 rfl) ?_
  refine ll_arg (k := 1) lc hL hs hl (by omega) rfl dL_law_676 dL_law_677 dL_law_678 dL_law_679 dL_law_680 ?_
  refine ll_I lc hs (ct_I (hA _) (List.Perm.refl _) (List.Perm.refl _)) mv_L_84 (List.mem_append_left _ hm1) rfl ⟨Nat.le_of_ble_eq_true rfl, Nat.le_of_ble_eq_true rfl⟩ rfl hl.1 rfl (Nat.le_of_ble_eq_true rfl) dL_law_681 ⟨lwq_r hr.1 (Nat.le_of_ble_eq_true rfl), lwq_s hr.2 (Nat.le_of_ble_eq_true rfl)⟩ (fun H locs hs => ?_)
  refine lv_aload_n hx hb dL_law_684 rfl (lv_at hl 2 rfl) ?_
  refine ll_arg (k := 1) lc hL hs hl (by omega) rfl dL_law_685 dL_law_686 dL_law_687 dL_law_688 dL_law_689 ?_
  refine ll_I lc hs (ct_I (hB _) List.perm_append_comm List.perm_append_comm) mv_L_87 (List.mem_append_right _ hm2) rfl ⟨Nat.le_of_ble_eq_true rfl, Nat.le_of_ble_eq_true rfl⟩ rfl hl.1 rfl (Nat.le_of_ble_eq_true rfl) dL_law_690 ⟨lwq_r2 hr.1 (Nat.le_of_ble_eq_true rfl), lwq_s2 hr.2 (Nat.le_of_ble_eq_true rfl)⟩ (fun H locs hs => ?_)
  refine ll_eqI lc dL_law_693 (by decide) ?_
  exact W.widen (lwq_c (Nat.le_of_ble_eq_true rfl)) (lwq_c (Nat.le_of_ble_eq_true rfl)) (kk _ _ _ _ _ hs (hJ.mono (by omega)))
set_option maxHeartbeats 4000000 in
set_option maxRecDepth 100000 in
theorem cs_refer {p : Program} {l : Launch} {e : Env} {s : State} {m : MethodId} {below : List Frame} {meth : Method} {c : Code} {H : Heap} {locs : List Loc} {cells slots : Nat} {Q : State → Prop} {ls : Array Slot} {G : GG} {S : SM} {X Y : va_W} {b L a b' i : Nat} {z : Int} {xs : Nat → Int32} (lc : LwC p s m meth c b L xs G) (hL : L ≤ 3072) (hi : i + 6 ≤ L) (hz : z < 1000000) (hs : LwS s G S H locs (X ++ Y)) (hI : Inv G S z a b' X Y) (hl : lv_has ls 4 [(0, .ref b), (1, .ref a), (2, .ref b'), (3, .int (kI (i : Int)))]) (hr : cells ≤ 500000 ∧ slots ≤ 7000000) (kk : LwK p l e s m below meth c G b a b' (z + 1) (cells + 5) (slots + 4000) Q ls) : W p l e room_1 s m #[Value.ref b] below meth c H locs cells slots Q (F0 m 698 ls []) := by
  have hx := lc.1.1
  have hb := lc.1.2.1
  obtain ⟨f1, hm1⟩ := hI.m1
  obtain ⟨f2, hm2⟩ := hI.m2
  obtain ⟨v, X1, Y1, hA, hB, hJ⟩ := st_refer (l := l) (kI_range (xs (i + 1))) (kI_range (xs (i + 2))) hI
  refine lv_aload_n hx hb dL_law_698 rfl (lv_at hl 1 rfl) ?_
  refine ll_arg (k := 1) lc hL hs hl (by omega) rfl dL_law_699 dL_law_700 dL_law_701 dL_law_702 dL_law_703 ?_
  refine ll_arg (k := 2) lc hL hs hl (by omega) rfl dL_law_704 dL_law_705 dL_law_706 dL_law_707 dL_law_708 ?_
  refine ll_I lc hs (ct_I (hA _) (List.Perm.refl _) (List.Perm.refl _)) mv_L_88 (List.mem_append_left _ hm1) rfl ⟨Nat.le_of_ble_eq_true rfl, Nat.le_of_ble_eq_true rfl⟩ rfl hl.1 rfl (Nat.le_of_ble_eq_true rfl) dL_law_709 ⟨lwq_r hr.1 (Nat.le_of_ble_eq_true rfl), lwq_s hr.2 (Nat.le_of_ble_eq_true rfl)⟩ (fun H locs hs => ?_)
  refine lv_aload_n hx hb dL_law_712 rfl (lv_at hl 2 rfl) ?_
  refine ll_arg (k := 1) lc hL hs hl (by omega) rfl dL_law_713 dL_law_714 dL_law_715 dL_law_716 dL_law_717 ?_
  refine ll_arg (k := 2) lc hL hs hl (by omega) rfl dL_law_718 dL_law_719 dL_law_720 dL_law_721 dL_law_722 ?_
  refine ll_I lc hs (ct_I (hB _) List.perm_append_comm List.perm_append_comm) mv_L_91 (List.mem_append_right _ hm2) rfl ⟨Nat.le_of_ble_eq_true rfl, Nat.le_of_ble_eq_true rfl⟩ rfl hl.1 rfl (Nat.le_of_ble_eq_true rfl) dL_law_723 ⟨lwq_r2 hr.1 (Nat.le_of_ble_eq_true rfl), lwq_s2 hr.2 (Nat.le_of_ble_eq_true rfl)⟩ (fun H locs hs => ?_)
  refine ll_eqI lc dL_law_726 (by decide) ?_
  exact W.widen (lwq_c (Nat.le_of_ble_eq_true rfl)) (lwq_c (Nat.le_of_ble_eq_true rfl)) (kk _ _ _ _ _ hs (hJ.mono (by omega)))
