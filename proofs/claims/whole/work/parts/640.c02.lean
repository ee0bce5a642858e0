set_option maxHeartbeats 4000000 in
set_option maxRecDepth 100000 in
theorem cs_two {p : Program} {l : Launch} {e : Env} {s : State} {m : MethodId} {below : List Frame} {meth : Method} {c : Code} {H : Heap} {locs : List Loc} {cells slots : Nat} {Q : State → Prop} {ls : Array Slot} {G : GG} {S : SM} {X Y : va_W} {b L a b' i : Nat} {z : Int} {xs : Nat → Int32} (lc : LwC p s m meth c b L xs G) (hL : L ≤ 3072) (hi : i + 6 ≤ L) (hz : z < 1000000) (hs : LwS s G S H locs (X ++ Y)) (hI : Inv G S z a b' X Y) (hl : lv_has ls 4 [(0, .ref b), (1, .ref a), (2, .ref b'), (3, .int (kI (i : Int)))]) (hr : cells ≤ 500000 ∧ slots ≤ 7000000) (kk : LwK p l e s m below meth c G b a b' (z + 1) (cells + 5) (slots + 4000) Q ls) : W p l e room_1 s m #[Value.ref b] below meth c H locs cells slots Q (F0 m 731 ls []) := by
  have hx := lc.1.1
  have hb := lc.1.2.1
  obtain ⟨f1, hm1⟩ := hI.m1
  obtain ⟨f2, hm2⟩ := hI.m2
  obtain ⟨v, X1, Y1, hA, hB, hJ⟩ := st_two (l := l) (kI_range (xs (i + 1))) hI
  refine lv_aload_n hx hb dL_law_731 rfl (lv_at hl 1 rfl) ?_
  refine ll_arg (k := 1) lc hL hs hl (by omega) rfl dL_law_732 dL_law_733 dL_law_734 dL_law_735 dL_law_736 ?_
  refine ll_I lc hs (ct_I (hA _) (List.Perm.refl _) (List.Perm.refl _)) mv_L_92 (List.mem_append_left _ hm1) rfl ⟨Nat.le_of_ble_eq_true rfl, Nat.le_of_ble_eq_true rfl⟩ rfl hl.1 rfl (Nat.le_of_ble_eq_true rfl) dL_law_737 ⟨lwq_r hr.1 (Nat.le_of_ble_eq_true rfl), lwq_s hr.2 (Nat.le_of_ble_eq_true rfl)⟩ (fun H locs hs => ?_)
  refine lv_aload_n hx hb dL_law_740 rfl (lv_at hl 2 rfl) ?_
  refine ll_arg (k := 1) lc hL hs hl (by omega) rfl dL_law_741 dL_law_742 dL_law_743 dL_law_744 dL_law_745 ?_
  refine ll_I lc hs (ct_I (hB _) List.perm_append_comm List.perm_append_comm) mv_L_95 (List.mem_append_right _ hm2) rfl ⟨Nat.le_of_ble_eq_true rfl, Nat.le_of_ble_eq_true rfl⟩ rfl hl.1 rfl (Nat.le_of_ble_eq_true rfl) dL_law_746 ⟨lwq_r2 hr.1 (Nat.le_of_ble_eq_true rfl), lwq_s2 hr.2 (Nat.le_of_ble_eq_true rfl)⟩ (fun H locs hs => ?_)
  refine ll_eqI lc dL_law_749 (by decide) ?_
  exact W.widen (lwq_c (Nat.le_of_ble_eq_true rfl)) (lwq_c (Nat.le_of_ble_eq_true rfl)) (kk _ _ _ _ _ hs (hJ.mono (by omega)))
set_option maxHeartbeats 4000000 in
set_option maxRecDepth 100000 in
theorem cs_would {p : Program} {l : Launch} {e : Env} {s : State} {m : MethodId} {below : List Frame} {meth : Method} {c : Code} {H : Heap} {locs : List Loc} {cells slots : Nat} {Q : State → Prop} {ls : Array Slot} {G : GG} {S : SM} {X Y : va_W} {b L a b' i : Nat} {z : Int} {xs : Nat → Int32} (lc : LwC p s m meth c b L xs G) (hL : L ≤ 3072) (hi : i + 6 ≤ L) (hz : z < 1000000) (hs : LwS s G S H locs (X ++ Y)) (hI : Inv G S z a b' X Y) (hl : lv_has ls 4 [(0, .ref b), (1, .ref a), (2, .ref b'), (3, .int (kI (i : Int)))]) (hr : cells ≤ 500000 ∧ slots ≤ 7000000) (kk : LwK p l e s m below meth c G b a b' (z + 1) (cells + 5) (slots + 4000) Q ls) : W p l e room_1 s m #[Value.ref b] below meth c H locs cells slots Q (F0 m 754 ls []) := by
  have hx := lc.1.1
  have hb := lc.1.2.1
  obtain ⟨f1, hm1⟩ := hI.m1
  obtain ⟨f2, hm2⟩ := hI.m2
  obtain ⟨v, X1, Y1, hA, hB, hJ⟩ := st_would (l := l) (kI_range (xs (i + 1))) (kI_range (xs (i + 2))) hI
  refine lv_aload_n hx hb dL_law_754 rfl (lv_at hl 1 rfl) ?_
  refine ll_arg (k := 1) lc hL hs hl (by omega) rfl dL_law_755 dL_law_756 dL_law_757 dL_law_758 dL_law_759 ?_
  refine ll_arg (k := 2) lc hL hs hl (by omega) rfl dL_law_760 dL_law_761 dL_law_762 dL_law_763 dL_law_764 ?_
  refine ll_I lc hs (ct_I (hA _) (List.Perm.refl _) (List.Perm.refl _)) mv_L_96 (List.mem_append_left _ hm1) rfl ⟨Nat.le_of_ble_eq_true rfl, Nat.le_of_ble_eq_true rfl⟩ rfl hl.1 rfl (Nat.le_of_ble_eq_true rfl) dL_law_765 ⟨lwq_r hr.1 (Nat.le_of_ble_eq_true rfl), lwq_s hr.2 (Nat.le_of_ble_eq_true rfl)⟩ (fun H locs hs => ?_)
  refine lv_aload_n hx hb dL_law_768 rfl (lv_at hl 2 rfl) ?_
  refine ll_arg (k := 1) lc hL hs hl (by omega) rfl dL_law_769 dL_law_770 dL_law_771 dL_law_772 dL_law_773 ?_
  refine ll_arg (k := 2) lc hL hs hl (by omega) rfl dL_law_774 dL_law_775 dL_law_776 dL_law_777 dL_law_778 ?_
  refine ll_I lc hs (ct_I (hB _) List.perm_append_comm List.perm_append_comm) mv_L_99 (List.mem_append_right _ hm2) rfl ⟨Nat.le_of_ble_eq_true rfl, Nat.le_of_ble_eq_true rfl⟩ rfl hl.1 rfl (Nat.le_of_ble_eq_true rfl) dL_law_779 ⟨lwq_r2 hr.1 (Nat.le_of_ble_eq_true rfl), lwq_s2 hr.2 (Nat.le_of_ble_eq_true rfl)⟩ (fun H locs hs => ?_)
  refine ll_eqI lc dL_law_782 (by decide) ?_
  exact W.widen (lwq_c (Nat.le_of_ble_eq_true rfl)) (lwq_c (Nat.le_of_ble_eq_true rfl)) (kk _ _ _ _ _ hs (hJ.mono (by omega)))
set_option maxHeartbeats 4000000 in
set_option maxRecDepth 100000 in
theorem cs_limit {p : Program} {l : Launch} {e : Env} {s : State} {m : MethodId} {below : List Frame} {meth : Method} {c : Code} {H : Heap} {locs : List Loc} {cells slots : Nat} {Q : State → Prop} {ls : Array Slot} {G : GG} {S : SM} {X Y : va_W} {b L a b' i : Nat} {z : Int} {xs : Nat → Int32} (lc : LwC p s m meth c b L xs G) (hL : L ≤ 3072) (hi : i + 6 ≤ L) (hz : z < 1000000) (hs : LwS s G S H locs (X ++ Y)) (hI : Inv G S z a b' X Y) (hl : lv_has ls 4 [(0, .ref b), (1, .ref a), (2, .ref b'), (3, .int (kI (i : Int)))]) (hr : cells ≤ 500000 ∧ slots ≤ 7000000) (kk : LwK p l e s m below meth c G b a b' (z + 1) (cells + 5) (slots + 4000) Q ls) : W p l e room_1 s m #[Value.ref b] below meth c H locs cells slots Q (F0 m 787 ls []) := by
  have hx := lc.1.1
  have hb := lc.1.2.1
  obtain ⟨f1, hm1⟩ := hI.m1
  obtain ⟨f2, hm2⟩ := hI.m2
  obtain ⟨v, X1, Y1, hA, hB, hJ⟩ := st_limit (l := l) (kI_range (xs (i + 1))) hI
  refine lv_aload_n hx hb dL_law_787 rfl (lv_at hl 1 rfl) ?_
  refine ll_arg (k := 1) lc hL hs hl (by omega) rfl dL_law_788 dL_law_789 dL_law_790 dL_law_791 dL_law_792 ?_
  refine ll_I lc hs (ct_I (hA _) (List.Perm.refl _) (List.Perm.refl _)) mv_L_100 (List.mem_append_left _ hm1) rfl ⟨Nat.le_of_ble_eq_true rfl, Nat.le_of_ble_eq_true rfl⟩ rfl hl.1 rfl (Nat.le_of_ble_eq_true rfl) dL_law_793 ⟨lwq_r hr.1 (Nat.le_of_ble_eq_true rfl), lwq_s hr.2 (Nat.le_of_ble_eq_true rfl)⟩ (fun H locs hs => ?_)
  refine lv_aload_n hx hb dL_law_796 rfl (lv_at hl 2 rfl) ?_
  refine ll_arg (k := 1) lc hL hs hl (by omega) rfl dL_law_797 dL_law_798 dL_law_799 dL_law_800 dL_law_801 ?_
  refine ll_I lc hs (ct_I (hB _) List.perm_append_comm List.perm_append_comm) mv_L_103 (List.mem_append_right _ hm2) rfl ⟨Nat.le_of_ble_eq_true rfl, Nat.le_of_ble_eq_true rfl⟩ rfl hl.1 rfl (Nat.le_of_ble_eq_true rfl) dL_law_802 ⟨lwq_r2 hr.1 (Nat.le_of_ble_eq_true rfl), lwq_s2 hr.2 (Nat.le_of_ble_eq_true rfl)⟩ (fun H locs hs => ?_)
  refine ll_eqI lc dL_law_805 (by decide) ?_
  exact W.widen (lwq_c (Nat.le_of_ble_eq_true rfl)) (lwq_c (Nat.le_of_ble_eq_true rfl)) (kk _ _ _ _ _ hs (hJ.mono (by omega)))
set_option maxHeartbeats 4000000 in
set_option maxRecDepth 100000 in
theorem cs_accepts {p : Program} {l : Launch} {e : Env} {s : State} {m : MethodId} {below : List Frame} {meth : Method} {c : Code} {H : Heap} {locs : List Loc} {cells slots : Nat} {Q : State → Prop} {ls : Array Slot} {G : GG} {S : SM} {X Y : va_W} {b L a b' i : Nat} {z : Int} {xs : Nat → Int32} (lc : LwC p s m meth c b L xs G) (hL : L ≤ 3072) (hi : i + 6 ≤ L) (hz : z < 1000000) (hs : LwS s G S H locs (X ++ Y)) (hI : Inv G S z a b' X Y) (hl : lv_has ls 4 [(0, .ref b), (1, .ref a), (2, .ref b'), (3, .int (kI (i : Int)))]) (hr : cells ≤ 500000 ∧ slots ≤ 7000000) (kk : LwK p l e s m below meth c G b a b' (z + 1) (cells + 5) (slots + 4000) Q ls) : W p l e room_1 s m #[Value.ref b] below meth c H locs cells slots Q (F0 m 810 ls []) := by
  have hx := lc.1.1
  have hb := lc.1.2.1
  obtain ⟨f1, hm1⟩ := hI.m1
  obtain ⟨f2, hm2⟩ := hI.m2
  obtain ⟨v, X1, Y1, hA, hB, hJ⟩ := st_accepts (l := l) (kI_range (xs (i + 1))) hI
  refine lv_aload_n hx hb dL_law_810 rfl (lv_at hl 1 rfl) ?_
  refine ll_arg (k := 1) lc hL hs hl (by omega) rfl dL_law_811 dL_law_812 dL_law_813 dL_law_814 dL_law_815 ?_
  refine ll_I lc hs (ct_I (hA _) (List.Perm.refl _) (List.Perm.refl _)) mv_L_104 (List.mem_append_left _ hm1) rfl ⟨Nat.le_of_ble_eq_true rfl, Nat.le_of_ble_eq_true rfl⟩ rfl hl.1 rfl (Nat.le_of_ble_eq_true rfl) dL_law_816 ⟨lwq_r hr.1 (Nat.le_of_ble_eq_true rfl), lwq_s hr.2 (Nat.le_of_ble_eq_true rfl)⟩ (fun H locs hs => ?_)
  refine lv_aload_n hx hb dL_law_819 rfl (lv_at hl 2 rfl) ?_
  refine ll_arg (k := 1) lc hL hs hl (by omega) rfl dL_law_820 dL_law_821 dL_law_822 dL_law_823 dL_law_824 ?_
  refine ll_I lc hs (ct_I (hB _) List.perm_append_comm List.perm_append_comm) mv_L_107 (List.mem_append_right _ hm2) rfl ⟨Nat.le_of_ble_eq_true rfl, Nat.le_of_ble_eq_true rfl⟩ rfl hl.1 rfl (Nat.le_of_ble_eq_true rfl) dL_law_825 ⟨lwq_r2 hr.1 (Nat.le_of_ble_eq_true rfl), lwq_s2 hr.2 (Nat.le_of_ble_eq_true rfl)⟩ (fun H locs hs => ?_)
  refine ll_eqI lc dL_law_828 (by decide) ?_
  exact W.widen (lwq_c (Nat.le_of_ble_eq_true rfl)) (lwq_c (Nat.le_of_ble_eq_true rfl)) (kk _ _ _ _ _ hs (hJ.mono (by omega)))
set_option maxHeartbeats 4000000 in
set_option maxRecDepth 100000 in
theorem cs_capture {p : Program} {l : Launch} {e : Env} {s : State} {m : MethodId} {below : List Frame} {meth : Method} {c : Code} {H : Heap} {locs : List Loc} {cells slots : Nat} {Q : State → Prop} {ls : Array Slot} {G : GG} {S : SM} {X Y : va_W} {b L a b' i : Nat} {z : Int} {xs : Nat → Int32} (lc : LwC p s m meth c b L xs G) (hL : L ≤ 3072) (hi : i + 6 ≤ L) (hz : z < 1000000) (hs : LwS s G S H locs (X ++ Y)) (hI : Inv G S z a b' X Y) (hl : lv_has ls 4 [(0, .ref b), (1, .ref a), (2, .ref b'), (3, .int (kI (i : Int)))]) (hr : cells ≤ 500000 ∧ slots ≤ 7000000) (kk : LwK p l e s m below meth c G b a b' (z + 1) (cells + 5) (slots + 4000) Q ls) : W p l e room_1 s m #[Value.ref b] below meth c H locs cells slots Q (F0 m 833 ls []) := by
  have hx := lc.1.1
  have hb := lc.1.2.1
  obtain ⟨f1, hm1⟩ := hI.m1
  obtain ⟨f2, hm2⟩ := hI.m2
  obtain ⟨v, X1, Y1, hA, hB, hJ⟩ := st_capture (l := l) (kI_range (xs (i + 1))) hI
  refine lv_aload_n hx hb dL_law_833 rfl (lv_at hl 1 rfl) ?_
  refine ll_arg (k := 1) lc hL hs hl (by omega) rfl dL_law_834 dL_law_835 dL_law_836 dL_law_837 dL_law_838 ?_
  refine ll_I lc hs (ct_I (hA _) (List.Perm.refl _) (List.Perm.refl _)) mv_L_108 (List.mem_append_left _ hm1) rfl ⟨Nat.le_of_ble_eq_true rfl, Nat.le_of_ble_eq_true rfl⟩ rfl hl.1 rfl (Nat.le_of_ble_eq_true rfl) dL_law_839 ⟨lwq_r hr.1 (Nat.le_of_ble_eq_true rfl), lwq_s hr.2 (Nat.le_of_ble_eq_true rfl)⟩ (fun H locs hs => ?_)
  refine lv_aload_n hx hb dL_law_842 rfl (lv_at hl 2 rfl) ?_
  refine ll_arg (k := 1) lc hL hs hl (by omega) rfl dL_law_843 dL_law_844 dL_law_845 dL_law_846 dL_law_847 ?_
  refine ll_I lc hs (ct_I (hB _) List.perm_append_comm List.perm_append_comm) mv_L_111 (List.mem_append_right _ hm2) rfl ⟨Nat.le_of_ble_eq_true rfl, Nat.le_of_ble_eq_true rfl⟩ rfl hl.1 rfl (Nat.le_of_ble_eq_true rfl) dL_law_848 ⟨lwq_r2 hr.1 (Nat.le_of_ble_eq_true rfl), lwq_s2 hr.2 (Nat.le_of_ble_eq_true rfl)⟩ (fun H locs hs => ?_)
  refine ll_eqI lc dL_law_851 (by decide) ?_
  exact W.widen (lwq_c (Nat.le_of_ble_eq_true rfl)) (lwq_c (Nat.le_of_ble_eq_true rfl)) (kk _ _ _ _ _ hs (hJ.mono (by omega)))
set_option maxHeartbeats 4000000 in
set_option maxRecDepth 100000 in
theorem cs_drift {p : Program} {l : Launch} {e : Env} {s : State} {m : MethodId} {below : List Frame} {meth : Method} {c : Code} {H : Heap} {locs : List Loc} {cells slots : Nat} {Q : State → Prop} {ls : Array Slot} {G : GG} {S : SM} {X Y : va_W} {b L a b' i : Nat} {z : Int} {xs : Nat → Int32} (lc : LwC p s m meth c b L xs G) (hL : L ≤ 3072) (hi : i + 6 ≤ L) (hz : z < 1000000) (hs : LwS s G S H locs (X ++ Y)) (hI : Inv G S z a b' X Y) (hl : lv_has ls 4 [(0, .ref b), (1, .ref a), (2, .ref b'), (3, .int (kI (i : Int)))]) (hr : cells ≤ 500000 ∧ slots ≤ 7000000) (kk : LwK p l e s m below meth c G b a b' (z + 1) (cells + 5) (slots + 4000) Q ls) : W p l e room_1 s m #[Value.ref b] below meth c H locs cells slots Q (F0 m 856 ls []) := by
  have hx := lc.1.1
  have hb := lc.1.2.1
  obtain ⟨f1, hm1⟩ := hI.m1
  obtain ⟨f2, hm2⟩ := hI.m2
  obtain ⟨v, X1, Y1, hA, hB, hJ⟩ := st_drift (l := l) (kI_range (xs (i + 1))) hI
  refine lv_aload_n hx hb dL_law_856 rfl (lv_at hl 1 rfl) ?_
  refine ll_arg (k := 1) lc hL hs hl (by omega) rfl dL_law_857 dL_law_858 dL_law_859 dL_law_860 dL_law_861 ?_
  refine ll_L lc hs (ct_L (hA _) (List.Perm.refl _) (List.Perm.refl _)) mv_L_112 (List.mem_append_left _ hm1) rfl ⟨Nat.le_of_ble_eq_true rfl, Nat.le_of_ble_eq_true rfl⟩ rfl hl.1 rfl (Nat.le_of_ble_eq_true rfl) dL_law_862 ⟨lwq_r hr.1 (Nat.le_of_ble_eq_true rfl), lwq_s hr.2 (Nat.le_of_ble_eq_true rfl)⟩ (fun H locs hs => ?_)
  refine lv_aload_n hx hb dL_law_865 rfl (lv_at hl 2 rfl) ?_
  refine ll_arg (k := 1) lc hL hs hl (by omega) rfl dL_law_866 dL_law_867 dL_law_868 dL_law_869 dL_law_870 ?_
  refine ll_L lc hs (ct_L (hB _) List.perm_append_comm List.perm_append_comm) mv_L_115 (List.mem_append_right _ hm2) rfl ⟨Nat.le_of_ble_eq_true rfl, Nat.le_of_ble_eq_true rfl⟩ rfl hl.1 rfl (Nat.le_of_ble_eq_true rfl) dL_law_871 ⟨lwq_r2 hr.1 (Nat.le_of_ble_eq_true rfl), lwq_s2 hr.2 (Nat.le_of_ble_eq_true rfl)⟩ (fun H locs hs => ?_)
  refine ll_eqL lc dL_law_874 dL_law_875 (by decide) ?_
  exact W.widen (lwq_c (Nat.le_of_ble_eq_true rfl)) (lwq_c (Nat.le_of_ble_eq_true rfl)) (kk _ _ _ _ _ hs (hJ.mono (by omega)))
set_option maxHeartbeats 4000000 in
set_option maxRecDepth 100000 in
theorem cs_chi {p : Program} {l : Launch} {e : Env} {s : State} {m : MethodId} {below : List Frame} {meth : Method} {c : Code} {H : Heap} {locs : List Loc} {cells slots : Nat} {Q : State → Prop} {ls : Array Slot} {G : GG} {S : SM} {X Y : va_W} {b L a b' i : Nat} {z : Int} {xs : Nat → Int32} (lc : LwC p s m meth c b L xs G) (hL : L ≤ 3072) (hi : i + 6 ≤ L) (hz : z < 1000000) (hs : LwS s G S H locs (X ++ Y)) (hI : Inv G S z a b' X Y) (hl : lv_has ls 4 [(0, .ref b), (1, .ref a), (2, .ref b'), (3, .int (kI (i : Int)))]) (hr : cells ≤ 500000 ∧ slots ≤ 7000000) (kk : LwK p l e s m below meth c G b a b' (z + 1) (cells + 5) (slots + 4000) Q ls) : W p l e room_1 s m #[Value.ref b] below meth c H locs cells slots Q (F0 m 880 ls []) := by
  have hx := lc.1.1
  have hb := lc.1.2.1
  obtain ⟨f1, hm1⟩ := hI.m1
  obtain ⟨f2, hm2⟩ := hI.m2
  obtain ⟨v, X1, Y1, hA, hB, hJ⟩ := st_chi (l := l) hI
  refine lv_aload_n hx hb dL_law_880 rfl (lv_at hl 1 rfl) ?_
  refine ll_L lc hs (ct_L (hA _) (List.Perm.refl _) (List.Perm.refl _)) mv_L_116 (List.mem_append_left _ hm1) rfl ⟨Nat.le_of_ble_eq_true rfl, Nat.le_of_ble_eq_true rfl⟩ rfl hl.1 rfl (Nat.le_of_ble_eq_true rfl) dL_law_881 ⟨lwq_r hr.1 (Nat.le_of_ble_eq_true rfl), lwq_s hr.2 (Nat.le_of_ble_eq_true rfl)⟩ (fun H locs hs => ?_)
  refine lv_aload_n hx hb dL_law_884 rfl (lv_at hl 2 rfl) ?_
  refine ll_L lc hs (ct_L (hB _) List.perm_append_comm List.perm_append_comm) mv_L_119 (List.mem_append_right _ hm2) rfl ⟨Nat.le_of_ble_eq_true rfl, Nat.le_of_ble_eq_true rfl⟩ rfl hl.1 rfl (Nat.le_of_ble_eq_true rfl) dL_law_885 ⟨lwq_r2 hr.1 (Nat.le_of_ble_eq_true rfl), lwq_s2 hr.2 (Nat.le_of_ble_eq_true rfl)⟩ (fun H locs hs => ?_)
  refine ll_eqL lc dL_law_888 dL_law_889 (by decide) ?_
  exact W.widen (lwq_c (Nat.le_of_ble_eq_true rfl)) (lwq_c (Nat.le_of_ble_eq_true rfl)) (kk _ _ _ _ _ hs (hJ.mono (by omega)))
set_option maxHeartbeats 4000000 in
set_option maxRecDepth 100000 in
theorem cs_mean {p : Program} {l : Launch} {e : Env} {s : State} {m : MethodId} {below : List Frame} {meth : Method} {c : Code} {H : Heap} {locs : List Loc} {cells slots : Nat} {Q : State → Prop} {ls : Array Slot} {G : GG} {S : SM} {X Y : va_W} {b L a b' i : Nat} {z : Int} {xs : Nat → Int32} (lc : LwC p s m meth c b L xs G) (hL : L ≤ 3072) (hi : i + 6 ≤ L) (hz : z < 1000000) (hs : LwS s G S H locs (X ++ Y)) (hI : Inv G S z a b' X Y) (hl : lv_has ls 4 [(0, .ref b), (1, .ref a), (2, .ref b'), (3, .int (kI (i : Int)))]) (hr : cells ≤ 500000 ∧ slots ≤ 7000000) (kk : LwK p l e s m below meth c G b a b' (z + 1) (cells + 5) (slots + 4000) Q ls) : W p l e room_1 s m #[Value.ref b] below meth c H locs cells slots Q (F0 m 894 ls []) := by
  have hx := lc.1.1
  have hb := lc.1.2.1
  obtain ⟨f1, hm1⟩ := hI.m1
  obtain ⟨f2, hm2⟩ := hI.m2
  obtain ⟨v, X1, Y1, hA, hB, hJ⟩ := st_mean (l := l) (kI_range (xs (i + 1))) hI
  refine lv_aload_n hx hb dL_law_894 rfl (lv_at hl 1 rfl) ?_
  refine ll_arg (k := 1) lc hL hs hl (by omega) rfl dL_law_895 dL_law_896 dL_law_897 dL_law_898 dL_law_899 ?_
  refine ll_L lc hs (ct_L (hA _) (List.Perm.refl _) (List.Perm.refl _)) mv_L_120 (List.mem_append_left _ hm1) rfl ⟨Nat.le_of_ble_eq_true rfl, Nat.le_of_ble_eq_true rfl⟩ rfl hl.1 rfl (Nat.le_of_ble_eq_true rfl) dL_law_900 ⟨lwq_r hr.1 (Nat.le_of_ble_eq_true rfl), lwq_s hr.2 (Nat.le_of_ble_eq_true rfl)⟩ (fun H locs hs => ?_)
  refine lv_aload_n hx hb dL_law_903 rfl (lv_at hl 2 rfl) ?_
  refine ll_arg (k := 1) lc hL hs hl (by omega) rfl dL_law_904 dL_law_905 dL_law_906 dL_law_907 dL_law_908 ?_
  refine ll_L lc hs (ct_L (hB _) List.perm_append_comm List.perm_append_comm) mv_L_123 (List.mem_append_right _ hm2) rfl ⟨Nat.le_of_ble_eq_true rfl, Nat.le_of_ble_eq_true rfl⟩ rfl hl.1 rfl (Nat.le_of_ble_eq_true rfl) dL_law_909 ⟨lwq_r2 hr.1 (Nat.le_of_ble_eq_true rfl), lwq_s2 hr.2 (Nat.le_of_ble_eq_true rfl)⟩ (fun H locs hs => ?_)
  refine ll_eqL lc dL_law_912 dL_law_913 (by decide) ?_
  exact W.widen (lwq_c (Nat.le_of_ble_eq_true rfl)) (lwq_c (Nat.le_of_ble_eq_true rfl)) (kk _ _ _ _ _ hs (hJ.mono (by omega)))
set_option maxHeartbeats 4000000 in
set_option maxRecDepth 100000 in
theorem cs_median {p : Program} {l : Launch} {e : Env} {s : State} {m : MethodId} {below : List Frame} {meth : Method} {c : Code} {H : Heap} {locs : List Loc} {cells slots : Nat} {Q : State → Prop} {ls : Array Slot} {G : GG} {S : SM} {X Y : va_W} {b L a b' i : Nat} {z : Int} {xs : Nat → Int32} (lc : LwC p s m meth c b L xs G) (hL : L ≤ 3072) (hi : i + 6 ≤ L) (hz : z < 1000000) (hs : LwS s G S H locs (X ++ Y)) (hI : Inv G S z a b' X Y) (hl : lv_has ls 4 [(0, .ref b), (1, .ref a), (2, .ref b'), (3, .int (kI (i : Int)))]) (hr : cells ≤ 500000 ∧ slots ≤ 7000000) (kk : LwK p l e s m below meth c G b a b' (z + 1) (cells + 5) (slots + 4000) Q ls) : W p l e room_1 s m #[Value.ref b] below meth c H locs cells slots Q (F0 m 918 ls []) := by
  have hx := lc.1.1
  have hb := lc.1.2.1
  obtain ⟨f1, hm1⟩ := hI.m1
  obtain ⟨f2, hm2⟩ := hI.m2
  obtain ⟨v, X1, Y1, hA, hB, hJ⟩ := st_median (l := l) hI
  refine lv_aload_n hx hb dL_law_918 rfl (lv_at hl 1 rfl) ?_
  refine ll_I lc hs (ct_I (hA _) (List.Perm.refl _) (List.Perm.refl _)) mv_L_124 (List.mem_append_left _ hm1) rfl ⟨Nat.le_of_ble_eq_true rfl, Nat.le_of_ble_eq_true rfl⟩ rfl hl.1 rfl (Nat.le_of_ble_eq_true rfl) dL_law_919 ⟨lwq_r hr.1 (Nat.le_of_ble_eq_true rfl), lwq_s hr.2 (Nat.le_of_ble_eq_true rfl)⟩ (fun H locs hs => ?_)
  refine lv_aload_n hx hb dL_law_922 rfl (lv_at hl 2 rfl) ?_
  refine ll_I lc hs (ct_I (hB _) List.perm_append_comm List.perm_append_comm) mv_L_127 (List.mem_append_right _ hm2) rfl ⟨Nat.le_of_ble_eq_true rfl, Nat.le_of_ble_eq_true rfl⟩ rfl hl.1 rfl (Nat.le_of_ble_eq_true rfl) dL_law_923 ⟨lwq_r2 hr.1 (Nat.le_of_ble_eq_true rfl), lwq_s2 hr.2 (Nat.le_of_ble_eq_true rfl)⟩ (fun H locs hs => ?_)
  refine ll_eqI lc dL_law_926 (by decide) ?_
  exact W.widen (lwq_c (Nat.le_of_ble_eq_true rfl)) (lwq_c (Nat.le_of_ble_eq_true rfl)) (kk _ _ _ _ _ hs (hJ.mono (by omega)))
