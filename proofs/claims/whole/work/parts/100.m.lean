set_option maxHeartbeats 4000000 in
set_option maxRecDepth 100000 in
theorem c_X0_init (l : Launch) (G : GG) (S : SM) (sz : Nat) (N : Nat) (a_t : Nat)   (r : Int × (Int → Int) × (Int → Int) × (Int → Int) × (Int → Int)) (h : m_X0_init N = some r) : CtVx l yX0_init cX0_init 1 (rmD 1 4 40) G S sz [.ref a_t] [(a_t, .inr (0, [.null, .null, .null, .null, .int (kI 0)]))] (fun u => [(a_t, .inr (0, [.ref (u 0), .ref (u 1), .ref (u 2), .ref (u 3), .int (kI r.1)])), ((u 0), cAI G 10 r.2.1), ((u 1), cAI G 10 r.2.2.1), ((u 2), cAI G 10 r.2.2.2.1), ((u 3), cAI G 10 r.2.2.2.2)]) := by
  refine met_Vx (by decide +kernel) (Nat.le_of_ble_eq_true rfl) ?_
  intro p e s m args below meth c A H locs ls cx hw hr hlk hnm hl
  have hl : lv_has ls 1 [(0, .ref a_t)] := hl
  rw [m_X0_init] at h
  obtain ⟨⟨hx, hb, -, -, -⟩, -⟩ := id cx
  refine lv_aload_n hx hb dX0_init_0 rfl (lv_at hl 0 rfl) ?_
  refine ro_init hx hb cx hl.1 jl_X0_1 (Nat.le_of_ble_eq_true rfl) (Nat.le_of_ble_eq_true rfl) dX0_init_1 ?_
  refine lv_aload_n hx hb dX0_init_4 rfl (lv_at hl 0 rfl) ?_
  refine ri_bipush hx hb dX0_init_5 rfl ?_
  refine ra_newI hx hb cx hw ⟨by decide, by decide⟩ (Nat.le_of_ble_eq_true rfl) (Nat.le_of_ble_eq_true rfl) dX0_init_7 (fun q7 H hw => ?_)
  have hw : HP G A s.heap H locs [(a_t, .inr (0, [.null, .null, .null, .null, .int (kI 0)])), (q7, cAI G 10 (fun _ => 0))] := hw
  refine W.widen (k := 1) (n := 10) (Nat.le_of_ble_eq_true rfl) (Nat.le_of_ble_eq_true rfl) ?_
  refine rf_putF hx hb cx hw 0 rfl rfl 0 inX0 tyX0 tyX0_ok nmX0 (by decide) fl_X0_9 rfl rfl hnm rfl rfl (Nat.le_of_ble_eq_true rfl) dX0_init_9 (fun H locs hw => ?_)
  have hw : HP G A s.heap H locs [(a_t, .inr (0, [.ref q7, .null, .null, .null, .int (kI 0)])), (q7, cAI G 10 (fun _ => 0))] := hw
  refine lv_aload_n hx hb dX0_init_12 rfl (lv_at hl 0 rfl) ?_
  refine ri_bipush hx hb dX0_init_13 rfl ?_
  refine ra_newI hx hb cx hw ⟨by decide, by decide⟩ (Nat.le_of_ble_eq_true rfl) (Nat.le_of_ble_eq_true rfl) dX0_init_15 (fun q15 H hw => ?_)
  have hw : HP G A s.heap H locs [(a_t, .inr (0, [.ref q7, .null, .null, .null, .int (kI 0)])), (q7, cAI G 10 (fun _ => 0)), (q15, cAI G 10 (fun _ => 0))] := hw
  refine W.widen (k := 2) (n := 20) (Nat.le_of_ble_eq_true rfl) (Nat.le_of_ble_eq_true rfl) ?_
  refine rf_putF hx hb cx hw 0 rfl rfl 1 inX0 tyX0 tyX0_ok nmX0 (by decide) fl_X0_13 rfl rfl hnm rfl rfl (Nat.le_of_ble_eq_true rfl) dX0_init_17 (fun H locs hw => ?_)
  have hw : HP G A s.heap H locs [(a_t, .inr (0, [.ref q7, .ref q15, .null, .null, .int (kI 0)])), (q7, cAI G 10 (fun _ => 0)), (q15, cAI G 10 (fun _ => 0))] := hw
  refine lv_aload_n hx hb dX0_init_20 rfl (lv_at hl 0 rfl) ?_
  refine ri_bipush hx hb dX0_init_21 rfl ?_
  refine ra_newI hx hb cx hw ⟨by decide, by decide⟩ (Nat.le_of_ble_eq_true rfl) (Nat.le_of_ble_eq_true rfl) dX0_init_23 (fun q23 H hw => ?_)
  have hw : HP G A s.heap H locs [(a_t, .inr (0, [.ref q7, .ref q15, .null, .null, .int (kI 0)])), (q7, cAI G 10 (fun _ => 0)), (q15, cAI G 10 (fun _ => 0)), (q23, cAI G 10 (fun _ => 0))] := hw
  refine W.widen (k := 3) (n := 30) (Nat.le_of_ble_eq_true rfl) (Nat.le_of_ble_eq_true rfl) ?_
  refine rf_putF hx hb cx hw 0 rfl rfl 2 inX0 tyX0 tyX0_ok nmX0 (by decide) fl_X0_16 rfl rfl hnm rfl rfl (Nat.le_of_ble_eq_true rfl) dX0_init_25 (fun H locs hw => ?_)
  have hw : HP G A s.heap H locs [(a_t, .inr (0, [.ref q7, .ref q15, .ref q23, .null, .int (kI 0)])), (q7, cAI G 10 (fun _ => 0)), (q15, cAI G 10 (fun _ => 0)), (q23, cAI G 10 (fun _ => 0))] := hw
  refine lv_aload_n hx hb dX0_init_28 rfl (lv_at hl 0 rfl) ?_
  refine ri_bipush hx hb dX0_init_29 rfl ?_
  refine ra_newI hx hb cx hw ⟨by decide, by decide⟩ (Nat.le_of_ble_eq_true rfl) (Nat.le_of_ble_eq_true rfl) dX0_init_31 (fun q31 H hw => ?_)
  have hw : HP G A s.heap H locs [(a_t, .inr (0, [.ref q7, .ref q15, .ref q23, .null, .int (kI 0)])), (q7, cAI G 10 (fun _ => 0)), (q15, cAI G 10 (fun _ => 0)), (q23, cAI G 10 (fun _ => 0)), (q31, cAI G 10 (fun _ => 0))] := hw
  refine W.widen (k := 4) (n := 40) (Nat.le_of_ble_eq_true rfl) (Nat.le_of_ble_eq_true rfl) ?_
  refine rf_putF hx hb cx hw 0 rfl rfl 3 inX0 tyX0 tyX0_ok nmX0 (by decide) fl_X0_19 rfl rfl hnm rfl rfl (Nat.le_of_ble_eq_true rfl) dX0_init_33 (fun H locs hw => ?_)
  have hw : HP G A s.heap H locs [(a_t, .inr (0, [.ref q7, .ref q15, .ref q23, .ref q31, .int (kI 0)])), (q7, cAI G 10 (fun _ => 0)), (q15, cAI G 10 (fun _ => 0)), (q23, cAI G 10 (fun _ => 0)), (q31, cAI G 10 (fun _ => 0))] := hw
  obtain rfl := so_inj h
  exact re_vx (fun i => [q7, q15, q23, q31].getD i 0) hx hb hlk hr cx (HP.re hw [0, 1, 2, 3, 4] rfl rfl rfl) (Nat.le_of_ble_eq_true rfl) (Nat.le_of_ble_eq_true rfl) dX0_init_36
set_option maxHeartbeats 4000000 in
set_option maxRecDepth 100000 in
theorem c_X0_dropOldest (l : Launch) (G : GG) (S : SM) (sz : Nat) (N : Nat) (a_t a_t_kind a_t_first a_t_second a_t_third : Nat) (t_size : Int) (t_kind : Int → Int) (t_first : Int → Int) (t_second : Int → Int) (t_third : Int → Int)  (r : Int × (Int → Int) × (Int → Int) × (Int → Int) × (Int → Int)) (h : m_X0_dropOldest N t_size t_kind t_first t_second t_third = some r) : CtV l yX0_dropOldest cX0_dropOldest 1 (rmD 1 0 0) G S sz [.ref a_t] [(a_t, .inr (0, [.ref a_t_kind, .ref a_t_first, .ref a_t_second, .ref a_t_third, .int (kI t_size)])), (a_t_kind, cAI G 10 t_kind), (a_t_first, cAI G 10 t_first), (a_t_second, cAI G 10 t_second), (a_t_third, cAI G 10 t_third)] [(a_t, .inr (0, [.ref a_t_kind, .ref a_t_first, .ref a_t_second, .ref a_t_third, .int (kI r.1)])), (a_t_kind, cAI G 10 r.2.1), (a_t_first, cAI G 10 r.2.2.1), (a_t_second, cAI G 10 r.2.2.2.1), (a_t_third, cAI G 10 r.2.2.2.2)] := by
  refine met_V (by decide +kernel) (Nat.le_of_ble_eq_true rfl) ?_
  intro p e s m args below meth c A H locs ls cx hw hr hlk hnm hl
  have hl : lv_has ls 1 [(0, .ref a_t)] := hl
  rw [m_X0_dropOldest] at h
  obtain ⟨⟨hx, hb, -, -, -⟩, -⟩ := id cx
  refine lv_aload_n hx hb dX0_dropOldest_0 rfl (lv_at hl 0 rfl) ?_
  refine ri_bipush hx hb dX0_dropOldest_1 rfl ?_
  refine rf_put hx hb cx hw 0 rfl rfl 4 inX0 tyX0 tyX0_ok nmX0 (by decide) fl_X0_22 rfl rfl rfl rfl (Nat.le_of_ble_eq_true rfl) dX0_dropOldest_3 (fun H locs hw => ?_)
  have hw : HP G A s.heap H locs [(a_t, .inr (0, [.ref a_t_kind, .ref a_t_first, .ref a_t_second, .ref a_t_third, .int (kI 9)])), (a_t_kind, cAI G 10 t_kind), (a_t_first, cAI G 10 t_first), (a_t_second, cAI G 10 t_second), (a_t_third, cAI G 10 t_third)] := hw
  refine lv_aload_n hx hb dX0_dropOldest_6 rfl (lv_at hl 0 rfl) ?_
  refine rf_get hx hb cx hw 0 rfl rfl 0 inX0 (by decide) fl_X0_9 rfl rfl dX0_dropOldest_7 ?_
  refine ri_iconst hx hb dX0_dropOldest_10 ?_
  refine lv_aload_n hx hb dX0_dropOldest_11 rfl (lv_at hl 0 rfl) ?_
  refine rf_get hx hb cx hw 0 rfl rfl 0 inX0 (by decide) fl_X0_9 rfl rfl dX0_dropOldest_12 ?_
  refine ri_iconst hx hb dX0_dropOldest_15 ?_
  refine lv_aload_n hx hb dX0_dropOldest_16 rfl (lv_at hl 0 rfl) ?_
  refine rf_get hx hb cx hw 0 rfl rfl 4 inX0 (by decide) fl_X0_22 rfl rfl dX0_dropOldest_17 ?_
  obtain ⟨g1, h⟩ := gd_some h
  refine rj_copy hx hb cx hl.1 hw jl_X0_29 1 1 rfl rfl ⟨by decide, by decide⟩ ⟨by decide, by decide⟩ ⟨by decide, by decide⟩ g1 (Nat.le_of_ble_eq_true rfl) (Nat.le_of_ble_eq_true rfl) dX0_dropOldest_20 (fun H locs hw => ?_)
  have hw : HP G A s.heap H locs [(a_t, .inr (0, [.ref a_t_kind, .ref a_t_first, .ref a_t_second, .ref a_t_third, .int (kI 9)])), (a_t_kind, cAI G 10 (cP t_kind t_kind 1 0 9)), (a_t_first, cAI G 10 t_first), (a_t_second, cAI G 10 t_second), (a_t_third, cAI G 10 t_third)] := hw
  refine lv_aload_n hx hb dX0_dropOldest_23 rfl (lv_at hl 0 rfl) ?_
  refine rf_get hx hb cx hw 0 rfl rfl 1 inX0 (by decide) fl_X0_13 rfl rfl dX0_dropOldest_24 ?_
  refine ri_iconst hx hb dX0_dropOldest_27 ?_
  refine lv_aload_n hx hb dX0_dropOldest_28 rfl (lv_at hl 0 rfl) ?_
  refine rf_get hx hb cx hw 0 rfl rfl 1 inX0 (by decide) fl_X0_13 rfl rfl dX0_dropOldest_29 ?_
  refine ri_iconst hx hb dX0_dropOldest_32 ?_
  refine lv_aload_n hx hb dX0_dropOldest_33 rfl (lv_at hl 0 rfl) ?_
  refine rf_get hx hb cx hw 0 rfl rfl 4 inX0 (by decide) fl_X0_22 rfl rfl dX0_dropOldest_34 ?_
  refine rj_copy hx hb cx hl.1 hw jl_X0_29 2 2 rfl rfl ⟨by decide, by decide⟩ ⟨by decide, by decide⟩ ⟨by decide, by decide⟩ g1 (Nat.le_of_ble_eq_true rfl) (Nat.le_of_ble_eq_true rfl) dX0_dropOldest_37 (fun H locs hw => ?_)
  have hw : HP G A s.heap H locs [(a_t, .inr (0, [.ref a_t_kind, .ref a_t_first, .ref a_t_second, .ref a_t_third, .int (kI 9)])), (a_t_kind, cAI G 10 (cP t_kind t_kind 1 0 9)), (a_t_first, cAI G 10 (cP t_first t_first 1 0 9)), (a_t_second, cAI G 10 t_second), (a_t_third, cAI G 10 t_third)] := hw
  refine lv_aload_n hx hb dX0_dropOldest_40 rfl (lv_at hl 0 rfl) ?_
  refine rf_get hx hb cx hw 0 rfl rfl 2 inX0 (by decide) fl_X0_16 rfl rfl dX0_dropOldest_41 ?_
  refine ri_iconst hx hb dX0_dropOldest_44 ?_
  refine lv_aload_n hx hb dX0_dropOldest_45 rfl (lv_at hl 0 rfl) ?_
  refine rf_get hx hb cx hw 0 rfl rfl 2 inX0 (by decide) fl_X0_16 rfl rfl dX0_dropOldest_46 ?_
  refine ri_iconst hx hb dX0_dropOldest_49 ?_
  refine lv_aload_n hx hb dX0_dropOldest_50 rfl (lv_at hl 0 rfl) ?_
  refine rf_get hx hb cx hw 0 rfl rfl 4 inX0 (by decide) fl_X0_22 rfl rfl dX0_dropOldest_51 ?_
  refine rj_copy hx hb cx hl.1 hw jl_X0_29 3 3 rfl rfl ⟨by decide, by decide⟩ ⟨by decide, by decide⟩ ⟨by decide, by decide⟩ g1 (Nat.le_of_ble_eq_true rfl) (Nat.le_of_ble_eq_true rfl) dX0_dropOldest_54 (fun H locs hw => ?_)
  have hw : HP G A s.heap H locs [(a_t, .inr (0, [.ref a_t_kind, .ref a_t_first, .ref a_t_second, .ref a_t_third, .int (kI 9)])), (a_t_kind, cAI G 10 (cP t_kind t_kind 1 0 9)), (a_t_first, cAI G 10 (cP t_first t_first 1 0 9)), (a_t_second, cAI G 10 (cP t_second t_second 1 0 9)), (a_t_third, cAI G 10 t_third)] := hw
  refine lv_aload_n hx hb dX0_dropOldest_57 rfl (lv_at hl 0 rfl) ?_
  refine rf_get hx hb cx hw 0 rfl rfl 3 inX0 (by decide) fl_X0_19 rfl rfl dX0_dropOldest_58 ?_
  refine ri_iconst hx hb dX0_dropOldest_61 ?_
  refine lv_aload_n hx hb dX0_dropOldest_62 rfl (lv_at hl 0 rfl) ?_
  refine rf_get hx hb cx hw 0 rfl rfl 3 inX0 (by decide) fl_X0_19 rfl rfl dX0_dropOldest_63 ?_
  refine ri_iconst hx hb dX0_dropOldest_66 ?_
  refine lv_aload_n hx hb dX0_dropOldest_67 rfl (lv_at hl 0 rfl) ?_
  refine rf_get hx hb cx hw 0 rfl rfl 4 inX0 (by decide) fl_X0_22 rfl rfl dX0_dropOldest_68 ?_
  refine rj_copy hx hb cx hl.1 hw jl_X0_29 4 4 rfl rfl ⟨by decide, by decide⟩ ⟨by decide, by decide⟩ ⟨by decide, by decide⟩ g1 (Nat.le_of_ble_eq_true rfl) (Nat.le_of_ble_eq_true rfl) dX0_dropOldest_71 (fun H locs hw => ?_)
  have hw : HP G A s.heap H locs [(a_t, .inr (0, [.ref a_t_kind, .ref a_t_first, .ref a_t_second, .ref a_t_third, .int (kI 9)])), (a_t_kind, cAI G 10 (cP t_kind t_kind 1 0 9)), (a_t_first, cAI G 10 (cP t_first t_first 1 0 9)), (a_t_second, cAI G 10 (cP t_second t_second 1 0 9)), (a_t_third, cAI G 10 (cP t_third t_third 1 0 9))] := hw
  obtain rfl := so_inj h
  exact re_v hx hb hlk hr cx hw (Nat.le_of_ble_eq_true rfl) (Nat.le_of_ble_eq_true rfl) dX0_dropOldest_74
set_option maxHeartbeats 4000000 in
set_option maxRecDepth 100000 in
theorem w_X0_append_b13 {p : Program} {l : Launch} {e : Env} {s : State} {m : MethodId} {args : Array Value} {below : List Frame} {meth : Method} {c : Code} {A : Nat → Prop} {G : GG} {S : SM} (cx : CX p s m args c cX0_append RX0 5 G S A) (hlk : meth.locks = false) (hr : meth.sig.returnType = none) (N : Nat) (a_t a_t_kind a_t_first a_t_second a_t_third : Nat) (x1 : Int) (x2 : Int) (x3 : Int) (x4 : Int) (r : Int × (Int → Int) × (Int → Int) × (Int → Int) × (Int → Int)) : ∀ (t_size : Int) (t_kind : Int → Int) (t_first : Int → Int) (t_second : Int → Int) (t_third : Int → Int), m_X0_append_b13 N x1 x2 x3 x4 t_size t_kind t_first t_second t_third = some r → ∀ (H : Heap) (locs : List Loc) (ls : Array Slot), HP G A s.heap H locs [(a_t, .inr (0, [.ref a_t_kind, .ref a_t_first, .ref a_t_second, .ref a_t_third, .int (kI t_size)])), (a_t_kind, cAI G 10 t_kind), (a_t_first, cAI G 10 t_first), (a_t_second, cAI G 10 t_second), (a_t_third, cAI G 10 t_third)] → lv_has ls 5 [(0, .ref a_t), (1, .int (kI x1)), (2, .int (kI x2)), (3, .int (kI x3)), (4, .int (kI x4))] → W p l e (rmD 2 0 0) s m args below meth c H locs 0 0 (MQ below (QcV G A [(a_t, .inr (0, [.ref a_t_kind, .ref a_t_first, .ref a_t_second, .ref a_t_third, .int (kI r.1)])), (a_t_kind, cAI G 10 r.2.1), (a_t_first, cAI G 10 r.2.2.1), (a_t_second, cAI G 10 r.2.2.2.1), (a_t_third, cAI G 10 r.2.2.2.2)]) args s (rmD 2 0 0).cells (rmD 2 0 0).slots A) (F0 m 13 ls []) := by
  intro t_size t_kind t_first t_second t_third h H locs ls hw hl
  rw [m_X0_append_b13] at h
  obtain ⟨⟨hx, hb, -, -, -⟩, -⟩ := id cx
  refine lv_aload_n hx hb dX0_append_13 rfl (lv_at hl 0 rfl) ?_
  refine rf_get hx hb cx hw 0 rfl rfl 0 inX0 (by decide) fl_X0_9 rfl rfl dX0_append_14 ?_
  refine lv_aload_n hx hb dX0_append_17 rfl (lv_at hl 0 rfl) ?_
  refine rf_get hx hb cx hw 0 rfl rfl 4 inX0 (by decide) fl_X0_22 rfl rfl dX0_append_18 ?_
  refine lv_iload_n hx hb dX0_append_21 rfl (lv_at hl 1 rfl) ?_
  obtain ⟨g1, h⟩ := gd_some h
  refine ra_si hx hb cx hw 1 rfl (by decide) g1 dX0_append_22 (fun H locs hw => ?_)
  have hw : HP G A s.heap H locs [(a_t, .inr (0, [.ref a_t_kind, .ref a_t_first, .ref a_t_second, .ref a_t_third, .int (kI t_size)])), (a_t_kind, cAI G 10 (uP t_kind t_size x1)), (a_t_first, cAI G 10 t_first), (a_t_second, cAI G 10 t_second), (a_t_third, cAI G 10 t_third)] := hw
  refine lv_aload_n hx hb dX0_append_23 rfl (lv_at hl 0 rfl) ?_
  refine rf_get hx hb cx hw 0 rfl rfl 1 inX0 (by decide) fl_X0_13 rfl rfl dX0_append_24 ?_
  refine lv_aload_n hx hb dX0_append_27 rfl (lv_at hl 0 rfl) ?_
  refine rf_get hx hb cx hw 0 rfl rfl 4 inX0 (by decide) fl_X0_22 rfl rfl dX0_append_28 ?_
  refine lv_iload_n hx hb dX0_append_31 rfl (lv_at hl 2 rfl) ?_
  refine ra_si hx hb cx hw 2 rfl (by decide) g1 dX0_append_32 (fun H locs hw => ?_)
  have hw : HP G A s.heap H locs [(a_t, .inr (0, [.ref a_t_kind, .ref a_t_first, .ref a_t_second, .ref a_t_third, .int (kI t_size)])), (a_t_kind, cAI G 10 (uP t_kind t_size x1)), (a_t_first, cAI G 10 (uP t_first t_size x2)), (a_t_second, cAI G 10 t_second), (a_t_third, cAI G 10 t_third)] := hw
  refine lv_aload_n hx hb dX0_append_33 rfl (lv_at hl 0 rfl) ?_
  refine rf_get hx hb cx hw 0 rfl rfl 2 inX0 (by decide) fl_X0_16 rfl rfl dX0_append_34 ?_
  refine lv_aload_n hx hb dX0_append_37 rfl (lv_at hl 0 rfl) ?_
  refine rf_get hx hb cx hw 0 rfl rfl 4 inX0 (by decide) fl_X0_22 rfl rfl dX0_append_38 ?_
  refine lv_iload_n hx hb dX0_append_41 rfl (lv_at hl 3 rfl) ?_
  refine ra_si hx hb cx hw 3 rfl (by decide) g1 dX0_append_42 (fun H locs hw => ?_)
  have hw : HP G A s.heap H locs [(a_t, .inr (0, [.ref a_t_kind, .ref a_t_first, .ref a_t_second, .ref a_t_third, .int (kI t_size)])), (a_t_kind, cAI G 10 (uP t_kind t_size x1)), (a_t_first, cAI G 10 (uP t_first t_size x2)), (a_t_second, cAI G 10 (uP t_second t_size x3)), (a_t_third, cAI G 10 t_third)] := hw
  refine lv_aload_n hx hb dX0_append_43 rfl (lv_at hl 0 rfl) ?_
  refine rf_get hx hb cx hw 0 rfl rfl 3 inX0 (by decide) fl_X0_19 rfl rfl dX0_append_44 ?_
  refine lv_aload_n hx hb dX0_append_47 rfl (lv_at hl 0 rfl) ?_
  refine rf_get hx hb cx hw 0 rfl rfl 4 inX0 (by decide) fl_X0_22 rfl rfl dX0_append_48 ?_
  refine lv_iload hx hb dX0_append_51 (lv_at hl 4 rfl) ?_
  refine ra_si hx hb cx hw 4 rfl (by decide) g1 dX0_append_53 (fun H locs hw => ?_)
  have hw : HP G A s.heap H locs [(a_t, .inr (0, [.ref a_t_kind, .ref a_t_first, .ref a_t_second, .ref a_t_third, .int (kI t_size)])), (a_t_kind, cAI G 10 (uP t_kind t_size x1)), (a_t_first, cAI G 10 (uP t_first t_size x2)), (a_t_second, cAI G 10 (uP t_second t_size x3)), (a_t_third, cAI G 10 (uP t_third t_size x4))] := hw
  refine lv_aload_n hx hb dX0_append_54 rfl (lv_at hl 0 rfl) ?_
  refine lv_dup hx hb dX0_append_55 rfl ?_
  refine rf_get hx hb cx hw 0 rfl rfl 4 inX0 (by decide) fl_X0_22 rfl rfl dX0_append_56 ?_
  refine ri_iconst hx hb dX0_append_59 ?_
  refine ri_iadd hx hb dX0_append_60 ?_
  refine rf_put hx hb cx hw 0 rfl rfl 4 inX0 tyX0 tyX0_ok nmX0 (by decide) fl_X0_22 rfl rfl rfl rfl (Nat.le_of_ble_eq_true rfl) dX0_append_61 (fun H locs hw => ?_)
  have hw : HP G A s.heap H locs [(a_t, .inr (0, [.ref a_t_kind, .ref a_t_first, .ref a_t_second, .ref a_t_third, .int (kI (t_size + 1))])), (a_t_kind, cAI G 10 (uP t_kind t_size x1)), (a_t_first, cAI G 10 (uP t_first t_size x2)), (a_t_second, cAI G 10 (uP t_second t_size x3)), (a_t_third, cAI G 10 (uP t_third t_size x4))] := hw
  obtain rfl := so_inj h
  exact re_v hx hb hlk hr cx hw (Nat.le_of_ble_eq_true rfl) (Nat.le_of_ble_eq_true rfl) dX0_append_64
set_option maxHeartbeats 4000000 in
set_option maxRecDepth 100000 in
theorem c_X0_append (l : Launch) (G : GG) (S : SM) (sz : Nat) (N : Nat) (a_t a_t_kind a_t_first a_t_second a_t_third : Nat) (t_size : Int) (t_kind : Int → Int) (t_first : Int → Int) (t_second : Int → Int) (t_third : Int → Int) (x1 : Int) (x2 : Int) (x3 : Int) (x4 : Int) (r : Int × (Int → Int) × (Int → Int) × (Int → Int) × (Int → Int)) (h : m_X0_append N t_size t_kind t_first t_second t_third x1 x2 x3 x4 = some r) : CtV l yX0_append cX0_append 5 (rmD 2 0 0) G S sz [.ref a_t, .int (kI x1), .int (kI x2), .int (kI x3), .int (kI x4)] [(a_t, .inr (0, [.ref a_t_kind, .ref a_t_first, .ref a_t_second, .ref a_t_third, .int (kI t_size)])), (a_t_kind, cAI G 10 t_kind), (a_t_first, cAI G 10 t_first), (a_t_second, cAI G 10 t_second), (a_t_third, cAI G 10 t_third)] [(a_t, .inr (0, [.ref a_t_kind, .ref a_t_first, .ref a_t_second, .ref a_t_third, .int (kI r.1)])), (a_t_kind, cAI G 10 r.2.1), (a_t_first, cAI G 10 r.2.2.1), (a_t_second, cAI G 10 r.2.2.2.1), (a_t_third, cAI G 10 r.2.2.2.2)] := by
  refine met_V (by decide +kernel) (Nat.le_of_ble_eq_true rfl) ?_
  intro p e s m args below meth c A H locs ls cx hw hr hlk hnm hl
  have hl : lv_has ls 5 [(0, .ref a_t), (1, .int (kI x1)), (2, .int (kI x2)), (3, .int (kI x3)), (4, .int (kI x4))] := hl
  rw [m_X0_append] at h
  obtain ⟨⟨hx, hb, -, -, -⟩, -⟩ := id cx
  refine lv_aload_n hx hb dX0_append_0 rfl (lv_at hl 0 rfl) ?_
  refine rf_get hx hb cx hw 0 rfl rfl 4 inX0 (by decide) fl_X0_22 rfl rfl dX0_append_1 ?_
  refine ri_bipush hx hb dX0_append_4 rfl ?_
  obtain ⟨g1, h⟩ := gd_some h
  refine ri_icmp_lt (tgt := 13) hx hb g1 ⟨by decide, by decide⟩ dX0_append_6 (by decide) (fun c2 => ?_) (fun c2 => ?_)
  · have h := it_pos c2 h
    exact w_X0_append_b13 cx hlk hr N a_t a_t_kind a_t_first a_t_second a_t_third x1 x2 x3 x4 r t_size t_kind t_first t_second t_third h _ _ _ hw (lv_sub hl [0, 1, 2, 3, 4] rfl)
  · have h := it_neg c2 h
    refine lv_aload_n hx hb dX0_append_9 rfl (lv_at hl 0 rfl) ?_
    obtain ⟨r3, h3, h⟩ := bd_some h
    refine rc_V (w2 := [(a_t, .inr (0, [.ref a_t_kind, .ref a_t_first, .ref a_t_second, .ref a_t_third, .int (kI r3.1)])), (a_t_kind, cAI G 10 r3.2.1), (a_t_first, cAI G 10 r3.2.2.1), (a_t_second, cAI G 10 r3.2.2.2.1), (a_t_third, cAI G 10 r3.2.2.2.2)]) hw [0, 1, 2, 3, 4] [] [0, 1, 2, 3, 4] (rr_V cx hw (c_X0_dropOldest l G S H.size N a_t a_t_kind a_t_first a_t_second a_t_third t_size t_kind t_first t_second t_third _ h3) mv_X0_26 [0, 1, 2, 3, 4] rfl rfl rfl 0 rfl rfl ⟨Nat.le_of_ble_eq_true rfl, Nat.le_of_ble_eq_true rfl⟩ rfl hl.1 rfl (Nat.le_of_ble_eq_true rfl) dX0_append_10 ⟨Nat.le_of_ble_eq_true rfl, Nat.le_of_ble_eq_true rfl⟩) rfl rfl rfl rfl rfl rfl rfl rfl (fun H locs hw => ?_)
    exact w_X0_append_b13 cx hlk hr N a_t a_t_kind a_t_first a_t_second a_t_third x1 x2 x3 x4 r r3.1 r3.2.1 r3.2.2.1 r3.2.2.2.1 r3.2.2.2.2 h _ _ _ hw (lv_sub hl [0, 1, 2, 3, 4] rfl)
set_option maxHeartbeats 4000000 in
set_option maxRecDepth 100000 in
theorem c_X1_init (l : Launch) (G : GG) (S : SM) (sz : Nat) (N : Nat) (a_t : Nat)  (x1 : Int) (r : Int × (Int → Int)) (h : m_X1_init N x1 = some r) : CtVx l yX1_init cX1_init 2 (rmD 1 1 2000) G S sz [.ref a_t, .int (kI x1)] [(a_t, .inr (1, [.null, .int (kI 0)]))] (fun u => [(a_t, .inr (1, [.ref (u 0), .int (kI r.1)])), ((u 0), cAI G (max x1 0).toNat r.2)]) := by
  refine met_Vx (by decide +kernel) (Nat.le_of_ble_eq_true rfl) ?_
  intro p e s m args below meth c A H locs ls cx hw hr hlk hnm hl
  have hl : lv_has ls 2 [(0, .ref a_t), (1, .int (kI x1))] := hl
  rw [m_X1_init] at h
  obtain ⟨⟨hx, hb, -, -, -⟩, -⟩ := id cx
  refine lv_aload_n hx hb dX1_init_0 rfl (lv_at hl 0 rfl) ?_
  refine ro_init hx hb cx hl.1 jl_X1_1 (Nat.le_of_ble_eq_true rfl) (Nat.le_of_ble_eq_true rfl) dX1_init_1 ?_
  refine lv_aload_n hx hb dX1_init_4 rfl (lv_at hl 0 rfl) ?_
  refine lv_iload_n hx hb dX1_init_5 rfl (lv_at hl 1 rfl) ?_
  refine ri_iconst hx hb dX1_init_6 ?_
  obtain ⟨g1, h⟩ := gd_some h
  refine rj_max g1 ⟨by decide, by decide⟩ hx hb cx hl.1 jl_X1_7 (Nat.le_of_ble_eq_true rfl) (Nat.le_of_ble_eq_true rfl) (Nat.le_of_ble_eq_true rfl) (Nat.le_of_ble_eq_true rfl) dX1_init_7 ?_
  obtain ⟨g2, h⟩ := gd_some h
  refine ra_newI hx hb cx hw ⟨g2.1, by omega⟩ (Nat.le_of_ble_eq_true rfl) (by show _ + _ ≤ 2000; omega) dX1_init_10 (fun q10 H hw => ?_)
  have hw : HP G A s.heap H locs [(a_t, .inr (1, [.null, .int (kI 0)])), (q10, cAI G (max x1 0).toNat (fun _ => 0))] := hw
  have hn_nw10 : (max x1 0).toNat < 2147483648 := by omega
  refine W.widen (k := 1) (n := 2000) (Nat.le_of_ble_eq_true rfl) (by omega) ?_
  refine rf_putF hx hb cx hw 0 rfl rfl 0 inX1 tyX1 tyX1_ok nmX1 (by decide) fl_X1_13 rfl rfl hnm rfl rfl (Nat.le_of_ble_eq_true rfl) dX1_init_12 (fun H locs hw => ?_)
  have hw : HP G A s.heap H locs [(a_t, .inr (1, [.ref q10, .int (kI 0)])), (q10, cAI G (max x1 0).toNat (fun _ => 0))] := hw
  refine lv_aload_n hx hb dX1_init_15 rfl (lv_at hl 0 rfl) ?_
  refine ri_iconst hx hb dX1_init_16 ?_
  refine rf_put hx hb cx hw 0 rfl rfl 1 inX1 tyX1 tyX1_ok nmX1 (by decide) fl_X1_19 rfl rfl rfl rfl (Nat.le_of_ble_eq_true rfl) dX1_init_17 (fun H locs hw => ?_)
  have hw : HP G A s.heap H locs [(a_t, .inr (1, [.ref q10, .int (kI 0)])), (q10, cAI G (max x1 0).toNat (fun _ => 0))] := hw
  obtain rfl := so_inj h
  exact re_vx (fun i => [q10].getD i 0) hx hb hlk hr cx (HP.re hw [0, 1] rfl rfl rfl) (Nat.le_of_ble_eq_true rfl) (Nat.le_of_ble_eq_true rfl) dX1_init_20
set_option maxHeartbeats 4000000 in
set_option maxRecDepth 100000 in
theorem c_X1_takes (l : Launch) (G : GG) (S : SM) (sz : Nat) (N : Nat) (a_t a_t_store : Nat) (t_size : Int) (t_store : Int → Int) (t_store_n : Nat) (x1 : Int) (hn_t_store : t_store_n < 2147483648) (r : Int) (h : m_X1_takes N t_size t_store_n x1 = some r) : CtI l yX1_takes cX1_takes 2 .boolean (rmD 1 0 0) G S sz [.ref a_t, .int (kI x1)] [(a_t, .inr (1, [.ref a_t_store, .int (kI t_size)])), (a_t_store, cAI G t_store_n t_store)] r [(a_t, .inr (1, [.ref a_t_store, .int (kI t_size)])), (a_t_store, cAI G t_store_n t_store)] := by
  refine met_I (by decide +kernel) (Nat.le_of_ble_eq_true rfl) ?_
  intro p e s m args below meth c A H locs ls cx hw hr hlk hnm hl
  have hl : lv_has ls 2 [(0, .ref a_t), (1, .int (kI x1))] := hl
  rw [m_X1_takes] at h
  obtain ⟨⟨hx, hb, -, -, -⟩, -⟩ := id cx
  refine lv_iload_n hx hb dX1_takes_0 rfl (lv_at hl 1 rfl) ?_
  refine lv_aload_n hx hb dX1_takes_1 rfl (lv_at hl 0 rfl) ?_
  refine rf_get hx hb cx hw 0 rfl rfl 0 inX1 (by decide) fl_X1_13 rfl rfl dX1_takes_2 ?_
  refine ra_len hx hb cx hw 1 rfl dX1_takes_5 ?_
  refine lv_aload_n hx hb dX1_takes_6 rfl (lv_at hl 0 rfl) ?_
  refine rf_get hx hb cx hw 0 rfl rfl 1 inX1 (by decide) fl_X1_19 rfl rfl dX1_takes_7 ?_
  refine ri_isub hx hb dX1_takes_10 ?_
  obtain ⟨g1, h⟩ := gd_some h
  obtain ⟨g2, h⟩ := gd_some h
  refine ri_icmp_gt (tgt := 18) hx hb g1 g2 dX1_takes_11 (by decide) (fun c3 => ?_) (fun c3 => ?_)
  · have h := it_pos c3 h
    refine ri_iconst hx hb dX1_takes_18 ?_
    obtain rfl := so_inj h
    exact re_z (Or.inl rfl)  hx hb hlk hr cx hw (Nat.le_of_ble_eq_true rfl) (Nat.le_of_ble_eq_true rfl) dX1_takes_19
  · have h := it_neg c3 h
    refine ri_iconst hx hb dX1_takes_14 ?_
    refine lv_goto (tgt := 19) hx hb dX1_takes_15 (by decide) ?_
    obtain rfl := so_inj h
    exact re_z (Or.inr rfl)  hx hb hlk hr cx hw (Nat.le_of_ble_eq_true rfl) (Nat.le_of_ble_eq_true rfl) dX1_takes_19
set_option maxHeartbeats 4000000 in
set_option maxRecDepth 100000 in
theorem c_X1_put (l : Launch) (G : GG) (S : SM) (sz : Nat) (N : Nat) (a_t a_t_store : Nat) (t_size : Int) (t_store : Int → Int) (t_store_n : Nat) (x1 : Int) (hn_t_store : t_store_n < 2147483648) (r : Int × (Int → Int)) (h : m_X1_put N t_store_n t_size t_store x1 = some r) : CtV l yX1_put cX1_put 2 (rmD 2 0 0) G S sz [.ref a_t, .int (kI x1)] [(a_t, .inr (1, [.ref a_t_store, .int (kI t_size)])), (a_t_store, cAI G t_store_n t_store)] [(a_t, .inr (1, [.ref a_t_store, .int (kI r.1)])), (a_t_store, cAI G t_store_n r.2)] := by
  refine met_V (by decide +kernel) (Nat.le_of_ble_eq_true rfl) ?_
  intro p e s m args below meth c A H locs ls cx hw hr hlk hnm hl
  have hl : lv_has ls 2 [(0, .ref a_t), (1, .int (kI x1))] := hl
  rw [m_X1_put] at h
  obtain ⟨⟨hx, hb, -, -, -⟩, -⟩ := id cx
  refine lv_aload_n hx hb dX1_put_0 rfl (lv_at hl 0 rfl) ?_
  refine ri_iconst hx hb dX1_put_1 ?_
  obtain ⟨r1, h1, h⟩ := bd_some h
  refine rc_I0 (v := r1) hw [0, 1] (rr_V cx hw (c_X1_takes l G S H.size N a_t a_t_store t_size t_store t_store_n 1 hn_t_store _ h1) mv_X1_23 [0, 1] rfl rfl rfl 0 rfl rfl ⟨Nat.le_of_ble_eq_true rfl, Nat.le_of_ble_eq_true rfl⟩ rfl hl.1 rfl (Nat.le_of_ble_eq_true rfl) dX1_put_2 ⟨Nat.le_of_ble_eq_true rfl, Nat.le_of_ble_eq_true rfl⟩) rfl rfl (fun H locs hw => ?_)
  obtain ⟨g2, h⟩ := gd_some h
  refine ri_if_eq (tgt := 32) hx hb g2 dX1_put_5 (by decide) (fun c3 => ?_) (fun c3 => ?_)
  · have h := it_pos c3 h
    obtain rfl := so_inj h
    exact re_v hx hb hlk hr cx hw (Nat.le_of_ble_eq_true rfl) (Nat.le_of_ble_eq_true rfl) dX1_put_32
  · have h := it_neg c3 h
    refine lv_aload_n hx hb dX1_put_8 rfl (lv_at hl 0 rfl) ?_
    refine rf_get hx hb cx hw 0 rfl rfl 0 inX1 (by decide) fl_X1_13 rfl rfl dX1_put_9 ?_
    refine lv_aload_n hx hb dX1_put_12 rfl (lv_at hl 0 rfl) ?_
    refine rf_get hx hb cx hw 0 rfl rfl 1 inX1 (by decide) fl_X1_19 rfl rfl dX1_put_13 ?_
    refine lv_iload_n hx hb dX1_put_16 rfl (lv_at hl 1 rfl) ?_
    refine ri_sipush hx hb dX1_put_17 rfl ?_
    refine ri_iandm (q := 256) hx hb 8 (by decide) rfl (by decide +kernel) dX1_put_20 ?_
    obtain ⟨g4, h⟩ := gd_some h
    refine ra_si hx hb cx hw 1 rfl hn_t_store g4 dX1_put_21 (fun H locs hw => ?_)
    have hw : HP G A s.heap H locs [(a_t, .inr (1, [.ref a_t_store, .int (kI t_size)])), (a_t_store, cAI G t_store_n (uP t_store t_size (x1 % 256)))] := hw
    refine lv_aload_n hx hb dX1_put_22 rfl (lv_at hl 0 rfl) ?_
    refine lv_dup hx hb dX1_put_23 rfl ?_
    refine rf_get hx hb cx hw 0 rfl rfl 1 inX1 (by decide) fl_X1_19 rfl rfl dX1_put_24 ?_
    refine ri_iconst hx hb dX1_put_27 ?_
    refine ri_iadd hx hb dX1_put_28 ?_
    refine rf_put hx hb cx hw 0 rfl rfl 1 inX1 tyX1 tyX1_ok nmX1 (by decide) fl_X1_19 rfl rfl rfl rfl (Nat.le_of_ble_eq_true rfl) dX1_put_29 (fun H locs hw => ?_)
    have hw : HP G A s.heap H locs [(a_t, .inr (1, [.ref a_t_store, .int (kI (t_size + 1))])), (a_t_store, cAI G t_store_n (uP t_store t_size (x1 % 256)))] := hw
    obtain rfl := so_inj h
    exact re_v hx hb hlk hr cx hw (Nat.le_of_ble_eq_true rfl) (Nat.le_of_ble_eq_true rfl) dX1_put_32
set_option maxHeartbeats 4000000 in
set_option maxRecDepth 100000 in
theorem c_X1_putWord (l : Launch) (G : GG) (S : SM) (sz : Nat) (N : Nat) (a_t a_t_store : Nat) (t_size : Int) (t_store : Int → Int) (t_store_n : Nat) (x1 : Int) (hn_t_store : t_store_n < 2147483648) (r : Int × (Int → Int)) (h : m_X1_putWord N t_store_n t_size t_store x1 = some r) : CtV l yX1_putWord cX1_putWord 2 (rmD 3 0 0) G S sz [.ref a_t, .int (kI x1)] [(a_t, .inr (1, [.ref a_t_store, .int (kI t_size)])), (a_t_store, cAI G t_store_n t_store)] [(a_t, .inr (1, [.ref a_t_store, .int (kI r.1)])), (a_t_store, cAI G t_store_n r.2)] := by
  refine met_V (by decide +kernel) (Nat.le_of_ble_eq_true rfl) ?_
  intro p e s m args below meth c A H locs ls cx hw hr hlk hnm hl
  have hl : lv_has ls 2 [(0, .ref a_t), (1, .int (kI x1))] := hl
  rw [m_X1_putWord] at h
  obtain ⟨⟨hx, hb, -, -, -⟩, -⟩ := id cx
  refine lv_aload_n hx hb dX1_putWord_0 rfl (lv_at hl 0 rfl) ?_
  refine lv_iload_n hx hb dX1_putWord_1 rfl (lv_at hl 1 rfl) ?_
  refine ri_bipush hx hb dX1_putWord_2 rfl ?_
  refine ri_iushr (q := 16777216) hx hb ⟨by decide, by decide⟩ rfl dX1_putWord_4 ?_
  obtain ⟨r1, h1, h⟩ := bd_some h
  refine rc_V (w2 := [(a_t, .inr (1, [.ref a_t_store, .int (kI r1.1)])), (a_t_store, cAI G t_store_n r1.2)]) hw [0, 1] [] [0, 1] (rr_V cx hw (c_X1_put l G S H.size N a_t a_t_store t_size t_store t_store_n (x1 % 4294967296 / 16777216) hn_t_store _ h1) mv_X1_27 [0, 1] rfl rfl rfl 0 rfl rfl ⟨Nat.le_of_ble_eq_true rfl, Nat.le_of_ble_eq_true rfl⟩ rfl hl.1 rfl (Nat.le_of_ble_eq_true rfl) dX1_putWord_5 ⟨Nat.le_of_ble_eq_true rfl, Nat.le_of_ble_eq_true rfl⟩) rfl rfl rfl rfl rfl rfl rfl rfl (fun H locs hw => ?_)
  refine lv_aload_n hx hb dX1_putWord_8 rfl (lv_at hl 0 rfl) ?_
  refine lv_iload_n hx hb dX1_putWord_9 rfl (lv_at hl 1 rfl) ?_
  refine ri_bipush hx hb dX1_putWord_10 rfl ?_
  refine ri_iushr (q := 65536) hx hb ⟨by decide, by decide⟩ rfl dX1_putWord_12 ?_
  obtain ⟨r2, h2, h⟩ := bd_some h
  refine rc_V (w2 := [(a_t, .inr (1, [.ref a_t_store, .int (kI r2.1)])), (a_t_store, cAI G t_store_n r2.2)]) hw [0, 1] [] [0, 1] (rr_V cx hw (c_X1_put l G S H.size N a_t a_t_store r1.1 r1.2 t_store_n (x1 % 4294967296 / 65536) hn_t_store _ h2) mv_X1_27 [0, 1] rfl rfl rfl 0 rfl rfl ⟨Nat.le_of_ble_eq_true rfl, Nat.le_of_ble_eq_true rfl⟩ rfl hl.1 rfl (Nat.le_of_ble_eq_true rfl) dX1_putWord_13 ⟨Nat.le_of_ble_eq_true rfl, Nat.le_of_ble_eq_true rfl⟩) rfl rfl rfl rfl rfl rfl rfl rfl (fun H locs hw => ?_)
  refine lv_aload_n hx hb dX1_putWord_16 rfl (lv_at hl 0 rfl) ?_
  refine lv_iload_n hx hb dX1_putWord_17 rfl (lv_at hl 1 rfl) ?_
  refine ri_bipush hx hb dX1_putWord_18 rfl ?_
  refine ri_iushr (q := 256) hx hb ⟨by decide, by decide⟩ rfl dX1_putWord_20 ?_
  obtain ⟨r3, h3, h⟩ := bd_some h
  refine rc_V (w2 := [(a_t, .inr (1, [.ref a_t_store, .int (kI r3.1)])), (a_t_store, cAI G t_store_n r3.2)]) hw [0, 1] [] [0, 1] (rr_V cx hw (c_X1_put l G S H.size N a_t a_t_store r2.1 r2.2 t_store_n (x1 % 4294967296 / 256) hn_t_store _ h3) mv_X1_27 [0, 1] rfl rfl rfl 0 rfl rfl ⟨Nat.le_of_ble_eq_true rfl, Nat.le_of_ble_eq_true rfl⟩ rfl hl.1 rfl (Nat.le_of_ble_eq_true rfl) dX1_putWord_21 ⟨Nat.le_of_ble_eq_true rfl, Nat.le_of_ble_eq_true rfl⟩) rfl rfl rfl rfl rfl rfl rfl rfl (fun H locs hw => ?_)
  refine lv_aload_n hx hb dX1_putWord_24 rfl (lv_at hl 0 rfl) ?_
  refine lv_iload_n hx hb dX1_putWord_25 rfl (lv_at hl 1 rfl) ?_
  obtain ⟨r4, h4, h⟩ := bd_some h
  refine rc_V (w2 := [(a_t, .inr (1, [.ref a_t_store, .int (kI r4.1)])), (a_t_store, cAI G t_store_n r4.2)]) hw [0, 1] [] [0, 1] (rr_V cx hw (c_X1_put l G S H.size N a_t a_t_store r3.1 r3.2 t_store_n x1 hn_t_store _ h4) mv_X1_27 [0, 1] rfl rfl rfl 0 rfl rfl ⟨Nat.le_of_ble_eq_true rfl, Nat.le_of_ble_eq_true rfl⟩ rfl hl.1 rfl (Nat.le_of_ble_eq_true rfl) dX1_putWord_26 ⟨Nat.le_of_ble_eq_true rfl, Nat.le_of_ble_eq_true rfl⟩) rfl rfl rfl rfl rfl rfl rfl rfl (fun H locs hw => ?_)
  obtain rfl := so_inj h
  exact re_v hx hb hlk hr cx hw (Nat.le_of_ble_eq_true rfl) (Nat.le_of_ble_eq_true rfl) dX1_putWord_29
def PL_X1_putNumber_b24 (p : Program) (l : Launch) (e : Env) (s : State) (m : MethodId) (args : Array Value) (below : List Frame) (meth : Method) (c : Code) (A : Nat → Prop) (G : GG) (S : SM) (a_t a_t_store : Nat) (t_store_n : Nat) (x1 : Int) (r : Int × (Int → Int)) (kk : Int → (Int → Int) → Int → Option (Int × (Int → Int))) : Prop := ∀ (t_size : Int) (t_store : Int → Int) (y2 : Int), kk t_size t_store y2 = some r → ∀ (H : Heap) (locs : List Loc) (ls : Array Slot), HP G A s.heap H locs [(a_t, .inr (1, [.ref a_t_store, .int (kI t_size)])), (a_t_store, cAI G t_store_n t_store)] → lv_has ls 3 [(0, .ref a_t), (1, .int (kI x1)), (2, .int (kI y2))] → W p l e (rmD 3 0 0) s m args below meth c H locs 0 0 (MQ below (QcV G A [(a_t, .inr (1, [.ref a_t_store, .int (kI r.1)])), (a_t_store, cAI G t_store_n r.2)]) args s (rmD 3 0 0).cells (rmD 3 0 0).slots A) (F0 m 24 ls [])
def PL_X1_putNumber_b2 (p : Program) (l : Launch) (e : Env) (s : State) (m : MethodId) (args : Array Value) (below : List Frame) (meth : Method) (c : Code) (A : Nat → Prop) (G : GG) (S : SM) (a_t a_t_store : Nat) (t_store_n : Nat) (x1 : Int) (t_size : Int) (t_store : Int → Int) (r : Int × (Int → Int)) (kk : Int → Option (Int × (Int → Int))) : Prop := ∀ (y2 : Int), kk y2 = some r → ∀ (H : Heap) (locs : List Loc) (ls : Array Slot), HP G A s.heap H locs [(a_t, .inr (1, [.ref a_t_store, .int (kI t_size)])), (a_t_store, cAI G t_store_n t_store)] → lv_has ls 3 [(0, .ref a_t), (1, .int (kI x1)), (2, .int (kI y2))] → W p l e (rmD 3 0 0) s m args below meth c H locs 0 0 (MQ below (QcV G A [(a_t, .inr (1, [.ref a_t_store, .int (kI r.1)])), (a_t_store, cAI G t_store_n r.2)]) args s (rmD 3 0 0).cells (rmD 3 0 0).slots A) (F0 m 2 ls [])
set_option maxHeartbeats 4000000 in
set_option maxRecDepth 100000 in
theorem w_X1_putNumber_b24 {p : Program} {l : Launch} {e : Env} {s : State} {m : MethodId} {args : Array Value} {below : List Frame} {meth : Method} {c : Code} {A : Nat → Prop} {G : GG} {S : SM} (cx : CX p s m args c cX1_putNumber RX1 3 G S A) (hlk : meth.locks = false) (hr : meth.sig.returnType = none) (N : Nat) (a_t a_t_store : Nat) (t_store_n : Nat) (x1 : Int) (hn_t_store : t_store_n < 2147483648) (r : Int × (Int → Int)) : ∀ n : Nat, PL_X1_putNumber_b24 p l e s m args below meth c A G S a_t a_t_store t_store_n x1 r (m_X1_putNumber_b24 N t_store_n x1 n) := by
  intro n
  induction n with
  | zero => intro t_size t_store y2 h; exact nomatch h
  | succ n ih =>
    intro t_size t_store y2 h H locs ls hw hl
    rw [m_X1_putNumber_b24] at h
    obtain ⟨⟨hx, hb, -, -, -⟩, -⟩ := id cx
    refine lv_iload_n hx hb dX1_putNumber_24 rfl (lv_at hl 2 rfl) ?_
    obtain ⟨g1, h⟩ := gd_some h
    refine ri_if_le (tgt := 49) hx hb g1 dX1_putNumber_25 (by decide) (fun c2 => ?_) (fun c2 => ?_)
    · have h := it_pos c2 h
      obtain rfl := so_inj h
      exact re_v hx hb hlk hr cx hw (Nat.le_of_ble_eq_true rfl) (Nat.le_of_ble_eq_true rfl) dX1_putNumber_49
    · have h := it_neg c2 h
      refine lv_aload_n hx hb dX1_putNumber_28 rfl (lv_at hl 0 rfl) ?_
      refine ri_bipush hx hb dX1_putNumber_29 rfl ?_
      refine lv_iload_n hx hb dX1_putNumber_31 rfl (lv_at hl 1 rfl) ?_
      refine lv_iload_n hx hb dX1_putNumber_32 rfl (lv_at hl 2 rfl) ?_
      obtain ⟨g3, h⟩ := gd_some h
      refine ri_idiv hx hb g3 dX1_putNumber_33 ?_
      refine ri_bipush hx hb dX1_putNumber_34 rfl ?_
      obtain ⟨g4, h⟩ := gd_some h
      refine ri_irem hx hb g4 dX1_putNumber_36 ?_
      refine ri_iadd hx hb dX1_putNumber_37 ?_
      obtain ⟨r5, h5, h⟩ := bd_some h
      refine rc_V (w2 := [(a_t, .inr (1, [.ref a_t_store, .int (kI r5.1)])), (a_t_store, cAI G t_store_n r5.2)]) hw [0, 1] [] [0, 1] (rr_V cx hw (c_X1_put l G S H.size N a_t a_t_store t_size t_store t_store_n (48 + ((x1 / y2) % 10)) hn_t_store _ h5) mv_X1_27 [0, 1] rfl rfl rfl 0 rfl rfl ⟨Nat.le_of_ble_eq_true rfl, Nat.le_of_ble_eq_true rfl⟩ rfl hl.1 rfl (Nat.le_of_ble_eq_true rfl) dX1_putNumber_38 ⟨Nat.le_of_ble_eq_true rfl, Nat.le_of_ble_eq_true rfl⟩) rfl rfl rfl rfl rfl rfl rfl rfl (fun H locs hw => ?_)
      refine lv_iload_n hx hb dX1_putNumber_41 rfl (lv_at hl 2 rfl) ?_
      refine ri_bipush hx hb dX1_putNumber_42 rfl ?_
      obtain ⟨g6, h⟩ := gd_some h
      refine ri_idiv hx hb g6 dX1_putNumber_44 ?_
      refine lv_istore_n (lv' := [(2, .int (kI (y2 / 10))), (0, .ref a_t), (1, .int (kI x1))]) hx hb dX1_putNumber_45 rfl hl (by decide) rfl (fun ls hl => ?_)
      refine lv_goto (tgt := 24) hx hb dX1_putNumber_46 (by decide) ?_
      exact ih r5.1 r5.2 (y2 / 10) h _ _ _ hw (lv_sub hl [1, 2, 0] rfl)
set_option maxHeartbeats 4000000 in
set_option maxRecDepth 100000 in
theorem w_X1_putNumber_b2 {p : Program} {l : Launch} {e : Env} {s : State} {m : MethodId} {args : Array Value} {below : List Frame} {meth : Method} {c : Code} {A : Nat → Prop} {G : GG} {S : SM} (cx : CX p s m args c cX1_putNumber RX1 3 G S A) (hlk : meth.locks = false) (hr : meth.sig.returnType = none) (N : Nat) (a_t a_t_store : Nat) (t_store_n : Nat) (x1 : Int) (t_size : Int) (t_store : Int → Int) (hn_t_store : t_store_n < 2147483648) (r : Int × (Int → Int)) : ∀ n : Nat, PL_X1_putNumber_b2 p l e s m args below meth c A G S a_t a_t_store t_store_n x1 t_size t_store r (m_X1_putNumber_b2 N t_store_n x1 t_size t_store n) := by
  intro n
  induction n with
  | zero => intro y2 h; exact nomatch h
  | succ n ih =>
    intro y2 h H locs ls hw hl
    rw [m_X1_putNumber_b2] at h
    obtain ⟨⟨hx, hb, -, -, -⟩, -⟩ := id cx
    refine lv_iload_n hx hb dX1_putNumber_2 rfl (lv_at hl 2 rfl) ?_
    refine lv_ldc (v := kI 100000000) hx hb cx.1.2.2.2.1 (cx.1.2.2.2.2 _ kc_X1_31) dX1_putNumber_3 ?_
    obtain ⟨g1, h⟩ := gd_some h
    refine ri_icmp_gt (tgt := 24) hx hb g1 ⟨by decide, by decide⟩ dX1_putNumber_5 (by decide) (fun c2 => ?_) (fun c2 => ?_)
    · have h := it_pos c2 h
      exact w_X1_putNumber_b24 cx hlk hr N a_t a_t_store t_store_n x1 hn_t_store r N t_size t_store y2 h _ _ _ hw (lv_sub hl [0, 1, 2] rfl)
    · have h := it_neg c2 h
      refine lv_iload_n hx hb dX1_putNumber_8 rfl (lv_at hl 1 rfl) ?_
      refine lv_iload_n hx hb dX1_putNumber_9 rfl (lv_at hl 2 rfl) ?_
      obtain ⟨g3, h⟩ := gd_some h
      refine ri_idiv hx hb g3 dX1_putNumber_10 ?_
      refine ri_bipush hx hb dX1_putNumber_11 rfl ?_
      obtain ⟨g4, h⟩ := gd_some h
      refine ri_icmp_lt (tgt := 24) hx hb g4 ⟨by decide, by decide⟩ dX1_putNumber_13 (by decide) (fun c5 => ?_) (fun c5 => ?_)
      · have h := it_pos c5 h
        exact w_X1_putNumber_b24 cx hlk hr N a_t a_t_store t_store_n x1 hn_t_store r N t_size t_store y2 h _ _ _ hw (lv_sub hl [0, 1, 2] rfl)
      · have h := it_neg c5 h
        refine lv_iload_n hx hb dX1_putNumber_16 rfl (lv_at hl 2 rfl) ?_
        refine ri_bipush hx hb dX1_putNumber_17 rfl ?_
        refine ri_imul hx hb dX1_putNumber_19 ?_
        refine lv_istore_n (lv' := [(2, .int (kI (y2 * 10))), (0, .ref a_t), (1, .int (kI x1))]) hx hb dX1_putNumber_20 rfl hl (by decide) rfl (fun ls hl => ?_)
        refine lv_goto (tgt := 2) hx hb dX1_putNumber_21 (by decide) ?_
        exact ih (y2 * 10) h _ _ _ hw (lv_sub hl [1, 2, 0] rfl)
set_option maxHeartbeats 4000000 in
set_option maxRecDepth 100000 in
theorem c_X1_putNumber (l : Launch) (G : GG) (S : SM) (sz : Nat) (N : Nat) (a_t a_t_store : Nat) (t_size : Int) (t_store : Int → Int) (t_store_n : Nat) (x1 : Int) (hn_t_store : t_store_n < 2147483648) (r : Int × (Int → Int)) (h : m_X1_putNumber N t_store_n t_size t_store x1 = some r) : CtV l yX1_putNumber cX1_putNumber 3 (rmD 3 0 0) G S sz [.ref a_t, .int (kI x1)] [(a_t, .inr (1, [.ref a_t_store, .int (kI t_size)])), (a_t_store, cAI G t_store_n t_store)] [(a_t, .inr (1, [.ref a_t_store, .int (kI r.1)])), (a_t_store, cAI G t_store_n r.2)] := by
  refine met_V (by decide +kernel) (Nat.le_of_ble_eq_true rfl) ?_
  intro p e s m args below meth c A H locs ls cx hw hr hlk hnm hl
  have hl : lv_has ls 3 [(0, .ref a_t), (1, .int (kI x1))] := hl
  rw [m_X1_putNumber] at h
  obtain ⟨⟨hx, hb, -, -, -⟩, -⟩ := id cx
  refine ri_iconst hx hb dX1_putNumber_0 ?_
  refine lv_istore_n (lv' := [(2, .int (kI 1)), (0, .ref a_t), (1, .int (kI x1))]) hx hb dX1_putNumber_1 rfl hl (by decide) rfl (fun ls hl => ?_)
  exact w_X1_putNumber_b2 cx hlk hr N a_t a_t_store t_store_n x1 t_size t_store hn_t_store r N 1 h _ _ _ hw (lv_sub hl [1, 2, 0] rfl)
set_option maxHeartbeats 4000000 in
set_option maxRecDepth 100000 in
theorem c_X2_init (l : Launch) (G : GG) (S : SM) (sz : Nat) (N : Nat) (a_t : Nat)   (r : Int × Int × (Int → Int) × (Int → Int) × (Int → Int) × (Int → Int) × (Int → Int)) (h : m_X2_init N = some r) : CtVx l yX2_init cX2_init 1 (rmD 1 5 200) G S sz [.ref a_t] [(a_t, .inr (2, [.null, .null, .null, .null, .null, .int (kI 0), .int (kI 0)]))] (fun u => [(a_t, .inr (2, [.ref (u 0), .ref (u 1), .ref (u 2), .ref (u 3), .ref (u 4), .int (kI r.1), .int (kI r.2.1)])), ((u 0), cAI G 40 r.2.2.1), ((u 1), cAI G 40 r.2.2.2.1), ((u 2), cAI G 40 r.2.2.2.2.1), ((u 3), cAI G 40 r.2.2.2.2.2.1), ((u 4), cAI G 40 r.2.2.2.2.2.2)]) := by
  refine met_Vx (by decide +kernel) (Nat.le_of_ble_eq_true rfl) ?_
  intro p e s m args below meth c A H locs ls cx hw hr hlk hnm hl
  have hl : lv_has ls 1 [(0, .ref a_t)] := hl
  rw [m_X2_init] at h
  obtain ⟨⟨hx, hb, -, -, -⟩, -⟩ := id cx
  refine lv_aload_n hx hb dX2_init_0 rfl (lv_at hl 0 rfl) ?_
  refine ro_init hx hb cx hl.1 jl_X2_3 (Nat.le_of_ble_eq_true rfl) (Nat.le_of_ble_eq_true rfl) dX2_init_1 ?_
  refine lv_aload_n hx hb dX2_init_4 rfl (lv_at hl 0 rfl) ?_
  refine ri_bipush hx hb dX2_init_5 rfl ?_
  refine ra_newI hx hb cx hw ⟨by decide, by decide⟩ (Nat.le_of_ble_eq_true rfl) (Nat.le_of_ble_eq_true rfl) dX2_init_7 (fun q7 H hw => ?_)
  have hw : HP G A s.heap H locs [(a_t, .inr (2, [.null, .null, .null, .null, .null, .int (kI 0), .int (kI 0)])), (q7, cAI G 40 (fun _ => 0))] := hw
  refine W.widen (k := 1) (n := 40) (Nat.le_of_ble_eq_true rfl) (Nat.le_of_ble_eq_true rfl) ?_
  refine rf_putF hx hb cx hw 0 rfl rfl 0 inX2 tyX2 tyX2_ok nmX2 (by decide) fl_X2_11 rfl rfl hnm rfl rfl (Nat.le_of_ble_eq_true rfl) dX2_init_9 (fun H locs hw => ?_)
  have hw : HP G A s.heap H locs [(a_t, .inr (2, [.ref q7, .null, .null, .null, .null, .int (kI 0), .int (kI 0)])), (q7, cAI G 40 (fun _ => 0))] := hw
  refine lv_aload_n hx hb dX2_init_12 rfl (lv_at hl 0 rfl) ?_
  refine ri_bipush hx hb dX2_init_13 rfl ?_
  refine ra_newI hx hb cx hw ⟨by decide, by decide⟩ (Nat.le_of_ble_eq_true rfl) (Nat.le_of_ble_eq_true rfl) dX2_init_15 (fun q15 H hw => ?_)
  have hw : HP G A s.heap H locs [(a_t, .inr (2, [.ref q7, .null, .null, .null, .null, .int (kI 0), .int (kI 0)])), (q7, cAI G 40 (fun _ => 0)), (q15, cAI G 40 (fun _ => 0))] := hw
  refine W.widen (k := 2) (n := 80) (Nat.le_of_ble_eq_true rfl) (Nat.le_of_ble_eq_true rfl) ?_
  refine rf_putF hx hb cx hw 0 rfl rfl 1 inX2 tyX2 tyX2_ok nmX2 (by decide) fl_X2_15 rfl rfl hnm rfl rfl (Nat.le_of_ble_eq_true rfl) dX2_init_17 (fun H locs hw => ?_)
  have hw : HP G A s.heap H locs [(a_t, .inr (2, [.ref q7, .ref q15, .null, .null, .null, .int (kI 0), .int (kI 0)])), (q7, cAI G 40 (fun _ => 0)), (q15, cAI G 40 (fun _ => 0))] := hw
  refine lv_aload_n hx hb dX2_init_20 rfl (lv_at hl 0 rfl) ?_
  refine ri_bipush hx hb dX2_init_21 rfl ?_
  refine ra_newI hx hb cx hw ⟨by decide, by decide⟩ (Nat.le_of_ble_eq_true rfl) (Nat.le_of_ble_eq_true rfl) dX2_init_23 (fun q23 H hw => ?_)
  have hw : HP G A s.heap H locs [(a_t, .inr (2, [.ref q7, .ref q15, .null, .null, .null, .int (kI 0), .int (kI 0)])), (q7, cAI G 40 (fun _ => 0)), (q15, cAI G 40 (fun _ => 0)), (q23, cAI G 40 (fun _ => 0))] := hw
  refine W.widen (k := 3) (n := 120) (Nat.le_of_ble_eq_true rfl) (Nat.le_of_ble_eq_true rfl) ?_
  refine rf_putF hx hb cx hw 0 rfl rfl 2 inX2 tyX2 tyX2_ok nmX2 (by decide) fl_X2_18 rfl rfl hnm rfl rfl (Nat.le_of_ble_eq_true rfl) dX2_init_25 (fun H locs hw => ?_)
  have hw : HP G A s.heap H locs [(a_t, .inr (2, [.ref q7, .ref q15, .ref q23, .null, .null, .int (kI 0), .int (kI 0)])), (q7, cAI G 40 (fun _ => 0)), (q15, cAI G 40 (fun _ => 0)), (q23, cAI G 40 (fun _ => 0))] := hw
  refine lv_aload_n hx hb dX2_init_28 rfl (lv_at hl 0 rfl) ?_
  refine ri_bipush hx hb dX2_init_29 rfl ?_
  refine ra_newI hx hb cx hw ⟨by decide, by decide⟩ (Nat.le_of_ble_eq_true rfl) (Nat.le_of_ble_eq_true rfl) dX2_init_31 (fun q31 H hw => ?_)
  have hw : HP G A s.heap H locs [(a_t, .inr (2, [.ref q7, .ref q15, .ref q23, .null, .null, .int (kI 0), .int (kI 0)])), (q7, cAI G 40 (fun _ => 0)), (q15, cAI G 40 (fun _ => 0)), (q23, cAI G 40 (fun _ => 0)), (q31, cAI G 40 (fun _ => 0))] := hw
  refine W.widen (k := 4) (n := 160) (Nat.le_of_ble_eq_true rfl) (Nat.le_of_ble_eq_true rfl) ?_
  refine rf_putF hx hb cx hw 0 rfl rfl 3 inX2 tyX2 tyX2_ok nmX2 (by decide) fl_X2_21 rfl rfl hnm rfl rfl (Nat.le_of_ble_eq_true rfl) dX2_init_33 (fun H locs hw => ?_)
  have hw : HP G A s.heap H locs [(a_t, .inr (2, [.ref q7, .ref q15, .ref q23, .ref q31, .null, .int (kI 0), .int (kI 0)])), (q7, cAI G 40 (fun _ => 0)), (q15, cAI G 40 (fun _ => 0)), (q23, cAI G 40 (fun _ => 0)), (q31, cAI G 40 (fun _ => 0))] := hw
  refine lv_aload_n hx hb dX2_init_36 rfl (lv_at hl 0 rfl) ?_
  refine ri_bipush hx hb dX2_init_37 rfl ?_
  refine ra_newI hx hb cx hw ⟨by decide, by decide⟩ (Nat.le_of_ble_eq_true rfl) (Nat.le_of_ble_eq_true rfl) dX2_init_39 (fun q39 H hw => ?_)
  have hw : HP G A s.heap H locs [(a_t, .inr (2, [.ref q7, .ref q15, .ref q23, .ref q31, .null, .int (kI 0), .int (kI 0)])), (q7, cAI G 40 (fun _ => 0)), (q15, cAI G 40 (fun _ => 0)), (q23, cAI G 40 (fun _ => 0)), (q31, cAI G 40 (fun _ => 0)), (q39, cAI G 40 (fun _ => 0))] := hw
  refine W.widen (k := 5) (n := 200) (Nat.le_of_ble_eq_true rfl) (Nat.le_of_ble_eq_true rfl) ?_
  refine rf_putF hx hb cx hw 0 rfl rfl 4 inX2 tyX2 tyX2_ok nmX2 (by decide) fl_X2_24 rfl rfl hnm rfl rfl (Nat.le_of_ble_eq_true rfl) dX2_init_41 (fun H locs hw => ?_)
  have hw : HP G A s.heap H locs [(a_t, .inr (2, [.ref q7, .ref q15, .ref q23, .ref q31, .ref q39, .int (kI 0), .int (kI 0)])), (q7, cAI G 40 (fun _ => 0)), (q15, cAI G 40 (fun _ => 0)), (q23, cAI G 40 (fun _ => 0)), (q31, cAI G 40 (fun _ => 0)), (q39, cAI G 40 (fun _ => 0))] := hw
  obtain rfl := so_inj h
  exact re_vx (fun i => [q7, q15, q23, q31, q39].getD i 0) hx hb hlk hr cx (HP.re hw [0, 1, 2, 3, 4, 5] rfl rfl rfl) (Nat.le_of_ble_eq_true rfl) (Nat.le_of_ble_eq_true rfl) dX2_init_44
set_option maxHeartbeats 4000000 in
set_option maxRecDepth 100000 in
theorem w_X2_has_b16 {p : Program} {l : Launch} {e : Env} {s : State} {m : MethodId} {args : Array Value} {below : List Frame} {meth : Method} {c : Code} {A : Nat → Prop} {G : GG} {S : SM} (cx : CX p s m args c cX2_has RX2 2 G S A) (hlk : meth.locks = false) (hr : meth.sig.returnType = some .boolean) (N : Nat) (a_t a_t_score a_t_choice a_t_advice a_t_result a_t_learntBy : Nat) (t_size : Int) (t_learns : Int) (t_score : Int → Int) (t_choice : Int → Int) (t_advice : Int → Int) (t_result : Int → Int) (t_learntBy : Int → Int) (x1 : Int) (r : Int) : m_X2_has_b16 N t_size x1 = some r → ∀ (H : Heap) (locs : List Loc) (ls : Array Slot), HP G A s.heap H locs [(a_t, .inr (2, [.ref a_t_score, .ref a_t_choice, .ref a_t_advice, .ref a_t_result, .ref a_t_learntBy, .int (kI t_size), .int (kI t_learns)])), (a_t_score, cAI G 40 t_score), (a_t_choice, cAI G 40 t_choice), (a_t_advice, cAI G 40 t_advice), (a_t_result, cAI G 40 t_result), (a_t_learntBy, cAI G 40 t_learntBy)] → lv_has ls 2 [] → W p l e (rmD 1 0 0) s m args below meth c H locs 0 0 (MQ below (QcI G A r [(a_t, .inr (2, [.ref a_t_score, .ref a_t_choice, .ref a_t_advice, .ref a_t_result, .ref a_t_learntBy, .int (kI t_size), .int (kI t_learns)])), (a_t_score, cAI G 40 t_score), (a_t_choice, cAI G 40 t_choice), (a_t_advice, cAI G 40 t_advice), (a_t_result, cAI G 40 t_result), (a_t_learntBy, cAI G 40 t_learntBy)]) args s (rmD 1 0 0).cells (rmD 1 0 0).slots A) (F0 m 16 ls []) := by
  intro  h H locs ls hw hl
  rw [m_X2_has_b16] at h
  obtain ⟨⟨hx, hb, -, -, -⟩, -⟩ := id cx
  refine ri_iconst hx hb dX2_has_16 ?_
  obtain rfl := so_inj h
  exact re_z (Or.inl rfl)  hx hb hlk hr cx hw (Nat.le_of_ble_eq_true rfl) (Nat.le_of_ble_eq_true rfl) dX2_has_17
set_option maxHeartbeats 4000000 in
set_option maxRecDepth 100000 in
theorem c_X2_has (l : Launch) (G : GG) (S : SM) (sz : Nat) (N : Nat) (a_t a_t_score a_t_choice a_t_advice a_t_result a_t_learntBy : Nat) (t_size : Int) (t_learns : Int) (t_score : Int → Int) (t_choice : Int → Int) (t_advice : Int → Int) (t_result : Int → Int) (t_learntBy : Int → Int) (x1 : Int) (r : Int) (h : m_X2_has N t_size x1 = some r) : CtI l yX2_has cX2_has 2 .boolean (rmD 1 0 0) G S sz [.ref a_t, .int (kI x1)] [(a_t, .inr (2, [.ref a_t_score, .ref a_t_choice, .ref a_t_advice, .ref a_t_result, .ref a_t_learntBy, .int (kI t_size), .int (kI t_learns)])), (a_t_score, cAI G 40 t_score), (a_t_choice, cAI G 40 t_choice), (a_t_advice, cAI G 40 t_advice), (a_t_result, cAI G 40 t_result), (a_t_learntBy, cAI G 40 t_learntBy)] r [(a_t, .inr (2, [.ref a_t_score, .ref a_t_choice, .ref a_t_advice, .ref a_t_result, .ref a_t_learntBy, .int (kI t_size), .int (kI t_learns)])), (a_t_score, cAI G 40 t_score), (a_t_choice, cAI G 40 t_choice), (a_t_advice, cAI G 40 t_advice), (a_t_result, cAI G 40 t_result), (a_t_learntBy, cAI G 40 t_learntBy)] := by
  refine met_I (by decide +kernel) (Nat.le_of_ble_eq_true rfl) ?_
  intro p e s m args below meth c A H locs ls cx hw hr hlk hnm hl
  have hl : lv_has ls 2 [(0, .ref a_t), (1, .int (kI x1))] := hl
  rw [m_X2_has] at h
  obtain ⟨⟨hx, hb, -, -, -⟩, -⟩ := id cx
  refine lv_iload_n hx hb dX2_has_0 rfl (lv_at hl 1 rfl) ?_
  obtain ⟨g1, h⟩ := gd_some h
  refine ri_if_lt (tgt := 16) hx hb g1 dX2_has_1 (by decide) (fun c2 => ?_) (fun c2 => ?_)
  · have h := it_pos c2 h
    exact w_X2_has_b16 cx hlk hr N a_t a_t_score a_t_choice a_t_advice a_t_result a_t_learntBy t_size t_learns t_score t_choice t_advice t_result t_learntBy x1 r  h _ _ _ hw (lv_sub hl [] rfl)
  · have h := it_neg c2 h
    refine lv_iload_n hx hb dX2_has_4 rfl (lv_at hl 1 rfl) ?_
    refine lv_aload_n hx hb dX2_has_5 rfl (lv_at hl 0 rfl) ?_
    refine rf_get hx hb cx hw 0 rfl rfl 5 inX2 (by decide) fl_X2_27 rfl rfl dX2_has_6 ?_
    obtain ⟨g3, h⟩ := gd_some h
    refine ri_icmp_ge (tgt := 16) hx hb g1 g3 dX2_has_9 (by decide) (fun c4 => ?_) (fun c4 => ?_)
    · have h := it_pos c4 h
      exact w_X2_has_b16 cx hlk hr N a_t a_t_score a_t_choice a_t_advice a_t_result a_t_learntBy t_size t_learns t_score t_choice t_advice t_result t_learntBy x1 r  h _ _ _ hw (lv_sub hl [] rfl)
    · have h := it_neg c4 h
      refine ri_iconst hx hb dX2_has_12 ?_
      refine lv_goto (tgt := 17) hx hb dX2_has_13 (by decide) ?_
      obtain rfl := so_inj h
      exact re_z (Or.inr rfl)  hx hb hlk hr cx hw (Nat.le_of_ble_eq_true rfl) (Nat.le_of_ble_eq_true rfl) dX2_has_17
set_option maxHeartbeats 4000000 in
set_option maxRecDepth 100000 in
theorem c_X2_hasRoom (l : Launch) (G : GG) (S : SM) (sz : Nat) (N : Nat) (a_t a_t_score a_t_choice a_t_advice a_t_result a_t_learntBy : Nat) (t_size : Int) (t_learns : Int) (t_score : Int → Int) (t_choice : Int → Int) (t_advice : Int → Int) (t_result : Int → Int) (t_learntBy : Int → Int)  (r : Int) (h : m_X2_hasRoom N t_size = some r) : CtI l yX2_hasRoom cX2_hasRoom 1 .boolean (rmD 1 0 0) G S sz [.ref a_t] [(a_t, .inr (2, [.ref a_t_score, .ref a_t_choice, .ref a_t_advice, .ref a_t_result, .ref a_t_learntBy, .int (kI t_size), .int (kI t_learns)])), (a_t_score, cAI G 40 t_score), (a_t_choice, cAI G 40 t_choice), (a_t_advice, cAI G 40 t_advice), (a_t_result, cAI G 40 t_result), (a_t_learntBy, cAI G 40 t_learntBy)] r [(a_t, .inr (2, [.ref a_t_score, .ref a_t_choice, .ref a_t_advice, .ref a_t_result, .ref a_t_learntBy, .int (kI t_size), .int (kI t_learns)])), (a_t_score, cAI G 40 t_score), (a_t_choice, cAI G 40 t_choice), (a_t_advice, cAI G 40 t_advice), (a_t_result, cAI G 40 t_result), (a_t_learntBy, cAI G 40 t_learntBy)] := by
  refine met_I (by decide +kernel) (Nat.le_of_ble_eq_true rfl) ?_
  intro p e s m args below meth c A H locs ls cx hw hr hlk hnm hl
  have hl : lv_has ls 1 [(0, .ref a_t)] := hl
  rw [m_X2_hasRoom] at h
  obtain ⟨⟨hx, hb, -, -, -⟩, -⟩ := id cx
  refine lv_aload_n hx hb dX2_hasRoom_0 rfl (lv_at hl 0 rfl) ?_
  refine rf_get hx hb cx hw 0 rfl rfl 5 inX2 (by decide) fl_X2_27 rfl rfl dX2_hasRoom_1 ?_
  refine ri_bipush hx hb dX2_hasRoom_4 rfl ?_
  obtain ⟨g1, h⟩ := gd_some h
  refine ri_icmp_ge (tgt := 13) hx hb g1 ⟨by decide, by decide⟩ dX2_hasRoom_6 (by decide) (fun c2 => ?_) (fun c2 => ?_)
  · have h := it_pos c2 h
    refine ri_iconst hx hb dX2_hasRoom_13 ?_
    obtain rfl := so_inj h
    exact re_z (Or.inl rfl)  hx hb hlk hr cx hw (Nat.le_of_ble_eq_true rfl) (Nat.le_of_ble_eq_true rfl) dX2_hasRoom_14
  · have h := it_neg c2 h
    refine ri_iconst hx hb dX2_hasRoom_9 ?_
    refine lv_goto (tgt := 14) hx hb dX2_hasRoom_10 (by decide) ?_
    obtain rfl := so_inj h
    exact re_z (Or.inr rfl)  hx hb hlk hr cx hw (Nat.le_of_ble_eq_true rfl) (Nat.le_of_ble_eq_true rfl) dX2_hasRoom_14
set_option maxHeartbeats 4000000 in
set_option maxRecDepth 100000 in
theorem c_X2_append (l : Launch) (G : GG) (S : SM) (sz : Nat) (N : Nat) (a_t a_t_score a_t_choice a_t_advice a_t_result a_t_learntBy : Nat) (t_size : Int) (t_learns : Int) (t_score : Int → Int) (t_choice : Int → Int) (t_advice : Int → Int) (t_result : Int → Int) (t_learntBy : Int → Int) (x1 : Int) (x2 : Int) (x3 : Int) (r : Int × (Int → Int) × (Int → Int) × (Int → Int) × (Int → Int) × (Int → Int)) (h : m_X2_append N t_size t_score t_choice t_advice t_result t_learntBy x1 x2 x3 = some r) : CtV l yX2_append cX2_append 4 (rmD 2 0 0) G S sz [.ref a_t, .int (kI x1), .int (kI x2), .int (kI x3)] [(a_t, .inr (2, [.ref a_t_score, .ref a_t_choice, .ref a_t_advice, .ref a_t_result, .ref a_t_learntBy, .int (kI t_size), .int (kI t_learns)])), (a_t_score, cAI G 40 t_score), (a_t_choice, cAI G 40 t_choice), (a_t_advice, cAI G 40 t_advice), (a_t_result, cAI G 40 t_result), (a_t_learntBy, cAI G 40 t_learntBy)] [(a_t, .inr (2, [.ref a_t_score, .ref a_t_choice, .ref a_t_advice, .ref a_t_result, .ref a_t_learntBy, .int (kI r.1), .int (kI t_learns)])), (a_t_score, cAI G 40 r.2.1), (a_t_choice, cAI G 40 r.2.2.1), (a_t_advice, cAI G 40 r.2.2.2.1), (a_t_result, cAI G 40 r.2.2.2.2.1), (a_t_learntBy, cAI G 40 r.2.2.2.2.2)] := by
  refine met_V (by decide +kernel) (Nat.le_of_ble_eq_true rfl) ?_
  intro p e s m args below meth c A H locs ls cx hw hr hlk hnm hl
  have hl : lv_has ls 4 [(0, .ref a_t), (1, .int (kI x1)), (2, .int (kI x2)), (3, .int (kI x3))] := hl
  rw [m_X2_append] at h
  obtain ⟨⟨hx, hb, -, -, -⟩, -⟩ := id cx
  refine lv_aload_n hx hb dX2_append_0 rfl (lv_at hl 0 rfl) ?_
  obtain ⟨r1, h1, h⟩ := bd_some h
  refine rc_I0 (v := r1) hw [0, 1, 2, 3, 4, 5] (rr_V cx hw (c_X2_hasRoom l G S H.size N a_t a_t_score a_t_choice a_t_advice a_t_result a_t_learntBy t_size t_learns t_score t_choice t_advice t_result t_learntBy _ h1) mv_X2_31 [0, 1, 2, 3, 4, 5] rfl rfl rfl 0 rfl rfl ⟨Nat.le_of_ble_eq_true rfl, Nat.le_of_ble_eq_true rfl⟩ rfl hl.1 rfl (Nat.le_of_ble_eq_true rfl) dX2_append_1 ⟨Nat.le_of_ble_eq_true rfl, Nat.le_of_ble_eq_true rfl⟩) rfl rfl (fun H locs hw => ?_)
  obtain ⟨g2, h⟩ := gd_some h
  refine ri_if_ne (tgt := 8) hx hb g2 dX2_append_4 (by decide) (fun c3 => ?_) (fun c3 => ?_)
  · have h := it_pos c3 h
    obtain rfl := so_inj h
    exact re_v hx hb hlk hr cx hw (Nat.le_of_ble_eq_true rfl) (Nat.le_of_ble_eq_true rfl) dX2_append_7
  · have h := it_neg c3 h
    refine lv_aload_n hx hb dX2_append_8 rfl (lv_at hl 0 rfl) ?_
    refine rf_get hx hb cx hw 0 rfl rfl 0 inX2 (by decide) fl_X2_11 rfl rfl dX2_append_9 ?_
    refine lv_aload_n hx hb dX2_append_12 rfl (lv_at hl 0 rfl) ?_
    refine rf_get hx hb cx hw 0 rfl rfl 5 inX2 (by decide) fl_X2_27 rfl rfl dX2_append_13 ?_
    refine lv_iload_n hx hb dX2_append_16 rfl (lv_at hl 1 rfl) ?_
    obtain ⟨g4, h⟩ := gd_some h
    refine ra_si hx hb cx hw 1 rfl (by decide) g4 dX2_append_17 (fun H locs hw => ?_)
    have hw : HP G A s.heap H locs [(a_t, .inr (2, [.ref a_t_score, .ref a_t_choice, .ref a_t_advice, .ref a_t_result, .ref a_t_learntBy, .int (kI t_size), .int (kI t_learns)])), (a_t_score, cAI G 40 (uP t_score t_size x1)), (a_t_choice, cAI G 40 t_choice), (a_t_advice, cAI G 40 t_advice), (a_t_result, cAI G 40 t_result), (a_t_learntBy, cAI G 40 t_learntBy)] := hw
    refine lv_aload_n hx hb dX2_append_18 rfl (lv_at hl 0 rfl) ?_
    refine rf_get hx hb cx hw 0 rfl rfl 1 inX2 (by decide) fl_X2_15 rfl rfl dX2_append_19 ?_
    refine lv_aload_n hx hb dX2_append_22 rfl (lv_at hl 0 rfl) ?_
    refine rf_get hx hb cx hw 0 rfl rfl 5 inX2 (by decide) fl_X2_27 rfl rfl dX2_append_23 ?_
    refine lv_iload_n hx hb dX2_append_26 rfl (lv_at hl 2 rfl) ?_
    refine ra_si hx hb cx hw 2 rfl (by decide) g4 dX2_append_27 (fun H locs hw => ?_)
    have hw : HP G A s.heap H locs [(a_t, .inr (2, [.ref a_t_score, .ref a_t_choice, .ref a_t_advice, .ref a_t_result, .ref a_t_learntBy, .int (kI t_size), .int (kI t_learns)])), (a_t_score, cAI G 40 (uP t_score t_size x1)), (a_t_choice, cAI G 40 (uP t_choice t_size x2)), (a_t_advice, cAI G 40 t_advice), (a_t_result, cAI G 40 t_result), (a_t_learntBy, cAI G 40 t_learntBy)] := hw
    refine lv_aload_n hx hb dX2_append_28 rfl (lv_at hl 0 rfl) ?_
    refine rf_get hx hb cx hw 0 rfl rfl 2 inX2 (by decide) fl_X2_18 rfl rfl dX2_append_29 ?_
    refine lv_aload_n hx hb dX2_append_32 rfl (lv_at hl 0 rfl) ?_
    refine rf_get hx hb cx hw 0 rfl rfl 5 inX2 (by decide) fl_X2_27 rfl rfl dX2_append_33 ?_
    refine lv_iload_n hx hb dX2_append_36 rfl (lv_at hl 3 rfl) ?_
    refine ra_si hx hb cx hw 3 rfl (by decide) g4 dX2_append_37 (fun H locs hw => ?_)
    have hw : HP G A s.heap H locs [(a_t, .inr (2, [.ref a_t_score, .ref a_t_choice, .ref a_t_advice, .ref a_t_result, .ref a_t_learntBy, .int (kI t_size), .int (kI t_learns)])), (a_t_score, cAI G 40 (uP t_score t_size x1)), (a_t_choice, cAI G 40 (uP t_choice t_size x2)), (a_t_advice, cAI G 40 (uP t_advice t_size x3)), (a_t_result, cAI G 40 t_result), (a_t_learntBy, cAI G 40 t_learntBy)] := hw
    refine lv_aload_n hx hb dX2_append_38 rfl (lv_at hl 0 rfl) ?_
    refine rf_get hx hb cx hw 0 rfl rfl 3 inX2 (by decide) fl_X2_21 rfl rfl dX2_append_39 ?_
    refine lv_aload_n hx hb dX2_append_42 rfl (lv_at hl 0 rfl) ?_
    refine rf_get hx hb cx hw 0 rfl rfl 5 inX2 (by decide) fl_X2_27 rfl rfl dX2_append_43 ?_
    refine ri_iconst hx hb dX2_append_46 ?_
    refine ra_si hx hb cx hw 4 rfl (by decide) g4 dX2_append_47 (fun H locs hw => ?_)
    have hw : HP G A s.heap H locs [(a_t, .inr (2, [.ref a_t_score, .ref a_t_choice, .ref a_t_advice, .ref a_t_result, .ref a_t_learntBy, .int (kI t_size), .int (kI t_learns)])), (a_t_score, cAI G 40 (uP t_score t_size x1)), (a_t_choice, cAI G 40 (uP t_choice t_size x2)), (a_t_advice, cAI G 40 (uP t_advice t_size x3)), (a_t_result, cAI G 40 (uP t_result t_size (-1))), (a_t_learntBy, cAI G 40 t_learntBy)] := hw
    refine lv_aload_n hx hb dX2_append_48 rfl (lv_at hl 0 rfl) ?_
    refine rf_get hx hb cx hw 0 rfl rfl 4 inX2 (by decide) fl_X2_24 rfl rfl dX2_append_49 ?_
    refine lv_aload_n hx hb dX2_append_52 rfl (lv_at hl 0 rfl) ?_
    refine rf_get hx hb cx hw 0 rfl rfl 5 inX2 (by decide) fl_X2_27 rfl rfl dX2_append_53 ?_
    refine ri_iconst hx hb dX2_append_56 ?_
    refine ra_si hx hb cx hw 5 rfl (by decide) g4 dX2_append_57 (fun H locs hw => ?_)
    have hw : HP G A s.heap H locs [(a_t, .inr (2, [.ref a_t_score, .ref a_t_choice, .ref a_t_advice, .ref a_t_result, .ref a_t_learntBy, .int (kI t_size), .int (kI t_learns)])), (a_t_score, cAI G 40 (uP t_score t_size x1)), (a_t_choice, cAI G 40 (uP t_choice t_size x2)), (a_t_advice, cAI G 40 (uP t_advice t_size x3)), (a_t_result, cAI G 40 (uP t_result t_size (-1))), (a_t_learntBy, cAI G 40 (uP t_learntBy t_size 0))] := hw
    refine lv_aload_n hx hb dX2_append_58 rfl (lv_at hl 0 rfl) ?_
    refine lv_dup hx hb dX2_append_59 rfl ?_
    refine rf_get hx hb cx hw 0 rfl rfl 5 inX2 (by decide) fl_X2_27 rfl rfl dX2_append_60 ?_
    refine ri_iconst hx hb dX2_append_63 ?_
    refine ri_iadd hx hb dX2_append_64 ?_
    refine rf_put hx hb cx hw 0 rfl rfl 5 inX2 tyX2 tyX2_ok nmX2 (by decide) fl_X2_27 rfl rfl rfl rfl (Nat.le_of_ble_eq_true rfl) dX2_append_65 (fun H locs hw => ?_)
    have hw : HP G A s.heap H locs [(a_t, .inr (2, [.ref a_t_score, .ref a_t_choice, .ref a_t_advice, .ref a_t_result, .ref a_t_learntBy, .int (kI (t_size + 1)), .int (kI t_learns)])), (a_t_score, cAI G 40 (uP t_score t_size x1)), (a_t_choice, cAI G 40 (uP t_choice t_size x2)), (a_t_advice, cAI G 40 (uP t_advice t_size x3)), (a_t_result, cAI G 40 (uP t_result t_size (-1))), (a_t_learntBy, cAI G 40 (uP t_learntBy t_size 0))] := hw
    obtain rfl := so_inj h
    exact re_v hx hb hlk hr cx hw (Nat.le_of_ble_eq_true rfl) (Nat.le_of_ble_eq_true rfl) dX2_append_68
set_option maxHeartbeats 4000000 in
set_option maxRecDepth 100000 in
theorem c_X2_dropLast (l : Launch) (G : GG) (S : SM) (sz : Nat) (N : Nat) (a_t a_t_score a_t_choice a_t_advice a_t_result a_t_learntBy : Nat) (t_size : Int) (t_learns : Int) (t_score : Int → Int) (t_choice : Int → Int) (t_advice : Int → Int) (t_result : Int → Int) (t_learntBy : Int → Int)  (r : Int) (h : m_X2_dropLast N t_size = some r) : CtV l yX2_dropLast cX2_dropLast 1 (rmD 1 0 0) G S sz [.ref a_t] [(a_t, .inr (2, [.ref a_t_score, .ref a_t_choice, .ref a_t_advice, .ref a_t_result, .ref a_t_learntBy, .int (kI t_size), .int (kI t_learns)])), (a_t_score, cAI G 40 t_score), (a_t_choice, cAI G 40 t_choice), (a_t_advice, cAI G 40 t_advice), (a_t_result, cAI G 40 t_result), (a_t_learntBy, cAI G 40 t_learntBy)] [(a_t, .inr (2, [.ref a_t_score, .ref a_t_choice, .ref a_t_advice, .ref a_t_result, .ref a_t_learntBy, .int (kI r), .int (kI t_learns)])), (a_t_score, cAI G 40 t_score), (a_t_choice, cAI G 40 t_choice), (a_t_advice, cAI G 40 t_advice), (a_t_result, cAI G 40 t_result), (a_t_learntBy, cAI G 40 t_learntBy)] := by
  refine met_V (by decide +kernel) (Nat.le_of_ble_eq_true rfl) ?_
  intro p e s m args below meth c A H locs ls cx hw hr hlk hnm hl
  have hl : lv_has ls 1 [(0, .ref a_t)] := hl
  rw [m_X2_dropLast] at h
  obtain ⟨⟨hx, hb, -, -, -⟩, -⟩ := id cx
  refine lv_aload_n hx hb dX2_dropLast_0 rfl (lv_at hl 0 rfl) ?_
  refine rf_get hx hb cx hw 0 rfl rfl 5 inX2 (by decide) fl_X2_27 rfl rfl dX2_dropLast_1 ?_
  obtain ⟨g1, h⟩ := gd_some h
  refine ri_if_le (tgt := 17) hx hb g1 dX2_dropLast_4 (by decide) (fun c2 => ?_) (fun c2 => ?_)
  · have h := it_pos c2 h
    obtain rfl := so_inj h
    exact re_v hx hb hlk hr cx hw (Nat.le_of_ble_eq_true rfl) (Nat.le_of_ble_eq_true rfl) dX2_dropLast_17
  · have h := it_neg c2 h
    refine lv_aload_n hx hb dX2_dropLast_7 rfl (lv_at hl 0 rfl) ?_
    refine lv_dup hx hb dX2_dropLast_8 rfl ?_
    refine rf_get hx hb cx hw 0 rfl rfl 5 inX2 (by decide) fl_X2_27 rfl rfl dX2_dropLast_9 ?_
    refine ri_iconst hx hb dX2_dropLast_12 ?_
    refine ri_isub hx hb dX2_dropLast_13 ?_
    refine rf_put hx hb cx hw 0 rfl rfl 5 inX2 tyX2 tyX2_ok nmX2 (by decide) fl_X2_27 rfl rfl rfl rfl (Nat.le_of_ble_eq_true rfl) dX2_dropLast_14 (fun H locs hw => ?_)
    have hw : HP G A s.heap H locs [(a_t, .inr (2, [.ref a_t_score, .ref a_t_choice, .ref a_t_advice, .ref a_t_result, .ref a_t_learntBy, .int (kI (t_size - 1)), .int (kI t_learns)])), (a_t_score, cAI G 40 t_score), (a_t_choice, cAI G 40 t_choice), (a_t_advice, cAI G 40 t_advice), (a_t_result, cAI G 40 t_result), (a_t_learntBy, cAI G 40 t_learntBy)] := hw
    obtain rfl := so_inj h
    exact re_v hx hb hlk hr cx hw (Nat.le_of_ble_eq_true rfl) (Nat.le_of_ble_eq_true rfl) dX2_dropLast_17
set_option maxHeartbeats 4000000 in
set_option maxRecDepth 100000 in
theorem c_X2_forget (l : Launch) (G : GG) (S : SM) (sz : Nat) (N : Nat) (a_t a_t_score a_t_choice a_t_advice a_t_result a_t_learntBy : Nat) (t_size : Int) (t_learns : Int) (t_score : Int → Int) (t_choice : Int → Int) (t_advice : Int → Int) (t_result : Int → Int) (t_learntBy : Int → Int) (x1 : Int) (r : (Int → Int)) (h : m_X2_forget N t_size t_result x1 = some r) : CtV l yX2_forget cX2_forget 2 (rmD 2 0 0) G S sz [.ref a_t, .int (kI x1)] [(a_t, .inr (2, [.ref a_t_score, .ref a_t_choice, .ref a_t_advice, .ref a_t_result, .ref a_t_learntBy, .int (kI t_size), .int (kI t_learns)])), (a_t_score, cAI G 40 t_score), (a_t_choice, cAI G 40 t_choice), (a_t_advice, cAI G 40 t_advice), (a_t_result, cAI G 40 t_result), (a_t_learntBy, cAI G 40 t_learntBy)] [(a_t, .inr (2, [.ref a_t_score, .ref a_t_choice, .ref a_t_advice, .ref a_t_result, .ref a_t_learntBy, .int (kI t_size), .int (kI t_learns)])), (a_t_score, cAI G 40 t_score), (a_t_choice, cAI G 40 t_choice), (a_t_advice, cAI G 40 t_advice), (a_t_result, cAI G 40 r), (a_t_learntBy, cAI G 40 t_learntBy)] := by
  refine met_V (by decide +kernel) (Nat.le_of_ble_eq_true rfl) ?_
  intro p e s m args below meth c A H locs ls cx hw hr hlk hnm hl
  have hl : lv_has ls 2 [(0, .ref a_t), (1, .int (kI x1))] := hl
  rw [m_X2_forget] at h
  obtain ⟨⟨hx, hb, -, -, -⟩, -⟩ := id cx
  refine lv_aload_n hx hb dX2_forget_0 rfl (lv_at hl 0 rfl) ?_
  refine lv_iload_n hx hb dX2_forget_1 rfl (lv_at hl 1 rfl) ?_
  obtain ⟨r1, h1, h⟩ := bd_some h
  refine rc_I0 (v := r1) hw [0, 1, 2, 3, 4, 5] (rr_V cx hw (c_X2_has l G S H.size N a_t a_t_score a_t_choice a_t_advice a_t_result a_t_learntBy t_size t_learns t_score t_choice t_advice t_result t_learntBy x1 _ h1) mv_X2_35 [0, 1, 2, 3, 4, 5] rfl rfl rfl 0 rfl rfl ⟨Nat.le_of_ble_eq_true rfl, Nat.le_of_ble_eq_true rfl⟩ rfl hl.1 rfl (Nat.le_of_ble_eq_true rfl) dX2_forget_2 ⟨Nat.le_of_ble_eq_true rfl, Nat.le_of_ble_eq_true rfl⟩) rfl rfl (fun H locs hw => ?_)
  obtain ⟨g2, h⟩ := gd_some h
  refine ri_if_eq (tgt := 15) hx hb g2 dX2_forget_5 (by decide) (fun c3 => ?_) (fun c3 => ?_)
  · have h := it_pos c3 h
    obtain rfl := so_inj h
    exact re_v hx hb hlk hr cx hw (Nat.le_of_ble_eq_true rfl) (Nat.le_of_ble_eq_true rfl) dX2_forget_15
  · have h := it_neg c3 h
    refine lv_aload_n hx hb dX2_forget_8 rfl (lv_at hl 0 rfl) ?_
    refine rf_get hx hb cx hw 0 rfl rfl 3 inX2 (by decide) fl_X2_21 rfl rfl dX2_forget_9 ?_
    refine lv_iload_n hx hb dX2_forget_12 rfl (lv_at hl 1 rfl) ?_
    refine ri_iconst hx hb dX2_forget_13 ?_
    obtain ⟨g4, h⟩ := gd_some h
    refine ra_si hx hb cx hw 4 rfl (by decide) g4 dX2_forget_14 (fun H locs hw => ?_)
    have hw : HP G A s.heap H locs [(a_t, .inr (2, [.ref a_t_score, .ref a_t_choice, .ref a_t_advice, .ref a_t_result, .ref a_t_learntBy, .int (kI t_size), .int (kI t_learns)])), (a_t_score, cAI G 40 t_score), (a_t_choice, cAI G 40 t_choice), (a_t_advice, cAI G 40 t_advice), (a_t_result, cAI G 40 (uP t_result x1 (-1))), (a_t_learntBy, cAI G 40 t_learntBy)] := hw
    obtain rfl := so_inj h
    exact re_v hx hb hlk hr cx hw (Nat.le_of_ble_eq_true rfl) (Nat.le_of_ble_eq_true rfl) dX2_forget_15
set_option maxHeartbeats 4000000 in
set_option maxRecDepth 100000 in
theorem c_X2_isPending (l : Launch) (G : GG) (S : SM) (sz : Nat) (N : Nat) (a_t a_t_score a_t_choice a_t_advice a_t_result a_t_learntBy : Nat) (t_size : Int) (t_learns : Int) (t_score : Int → Int) (t_choice : Int → Int) (t_advice : Int → Int) (t_result : Int → Int) (t_learntBy : Int → Int) (x1 : Int) (r : Int) (h : m_X2_isPending N t_result t_learntBy x1 = some r) : CtI l yX2_isPending cX2_isPending 2 .boolean (rmD 1 0 0) G S sz [.ref a_t, .int (kI x1)] [(a_t, .inr (2, [.ref a_t_score, .ref a_t_choice, .ref a_t_advice, .ref a_t_result, .ref a_t_learntBy, .int (kI t_size), .int (kI t_learns)])), (a_t_score, cAI G 40 t_score), (a_t_choice, cAI G 40 t_choice), (a_t_advice, cAI G 40 t_advice), (a_t_result, cAI G 40 t_result), (a_t_learntBy, cAI G 40 t_learntBy)] r [(a_t, .inr (2, [.ref a_t_score, .ref a_t_choice, .ref a_t_advice, .ref a_t_result, .ref a_t_learntBy, .int (kI t_size), .int (kI t_learns)])), (a_t_score, cAI G 40 t_score), (a_t_choice, cAI G 40 t_choice), (a_t_advice, cAI G 40 t_advice), (a_t_result, cAI G 40 t_result), (a_t_learntBy, cAI G 40 t_learntBy)] := by
  refine met_I (by decide +kernel) (Nat.le_of_ble_eq_true rfl) ?_
  intro p e s m args below meth c A H locs ls cx hw hr hlk hnm hl
  have hl : lv_has ls 2 [(0, .ref a_t), (1, .int (kI x1))] := hl
  rw [m_X2_isPending] at h
  obtain ⟨⟨hx, hb, -, -, -⟩, -⟩ := id cx
  refine lv_aload_n hx hb dX2_isPending_0 rfl (lv_at hl 0 rfl) ?_
  refine rf_get hx hb cx hw 0 rfl rfl 3 inX2 (by decide) fl_X2_21 rfl rfl dX2_isPending_1 ?_
  refine lv_iload_n hx hb dX2_isPending_4 rfl (lv_at hl 1 rfl) ?_
  obtain ⟨g1, h⟩ := gd_some h
  refine ra_i hx hb cx hw 4 rfl (by decide) g1 dX2_isPending_5 ?_
  refine ri_iconst hx hb dX2_isPending_6 ?_
  obtain ⟨g2, h⟩ := gd_some h
  refine ri_icmp_eq (tgt := 23) hx hb g2 ⟨by decide, by decide⟩ dX2_isPending_7 (by decide) (fun c3 => ?_) (fun c3 => ?_)
  · have h := it_pos c3 h
    refine ri_iconst hx hb dX2_isPending_23 ?_
    obtain rfl := so_inj h
    exact re_z (Or.inl rfl)  hx hb hlk hr cx hw (Nat.le_of_ble_eq_true rfl) (Nat.le_of_ble_eq_true rfl) dX2_isPending_24
  · have h := it_neg c3 h
    refine lv_aload_n hx hb dX2_isPending_10 rfl (lv_at hl 0 rfl) ?_
    refine rf_get hx hb cx hw 0 rfl rfl 4 inX2 (by decide) fl_X2_24 rfl rfl dX2_isPending_11 ?_
    refine lv_iload_n hx hb dX2_isPending_14 rfl (lv_at hl 1 rfl) ?_
    refine ra_i hx hb cx hw 5 rfl (by decide) g1 dX2_isPending_15 ?_
    obtain ⟨g4, h⟩ := gd_some h
    refine ri_if_ne (tgt := 23) hx hb g4 dX2_isPending_16 (by decide) (fun c5 => ?_) (fun c5 => ?_)
    · have h := it_pos c5 h
      refine ri_iconst hx hb dX2_isPending_19 ?_
      refine lv_goto (tgt := 24) hx hb dX2_isPending_20 (by decide) ?_
      obtain rfl := so_inj h
      exact re_z (Or.inr rfl)  hx hb hlk hr cx hw (Nat.le_of_ble_eq_true rfl) (Nat.le_of_ble_eq_true rfl) dX2_isPending_24
    · have h := it_neg c5 h
      refine ri_iconst hx hb dX2_isPending_23 ?_
      obtain rfl := so_inj h
      exact re_z (Or.inl rfl)  hx hb hlk hr cx hw (Nat.le_of_ble_eq_true rfl) (Nat.le_of_ble_eq_true rfl) dX2_isPending_24
set_option maxHeartbeats 4000000 in
set_option maxRecDepth 100000 in
theorem w_X2_isOverride_b99 {p : Program} {l : Launch} {e : Env} {s : State} {m : MethodId} {args : Array Value} {below : List Frame} {meth : Method} {c : Code} {A : Nat → Prop} {G : GG} {S : SM} (cx : CX p s m args c cX2_isOverride RX2 3 G S A) (hlk : meth.locks = false) (hr : meth.sig.returnType = some .boolean) (N : Nat) (a_t a_t_score a_t_choice a_t_advice a_t_result a_t_learntBy : Nat) (t_size : Int) (t_learns : Int) (t_score : Int → Int) (t_choice : Int → Int) (t_advice : Int → Int) (t_result : Int → Int) (t_learntBy : Int → Int) (x1 : Int) (x2 : Int) (r : Int) : m_X2_isOverride_b99 N t_choice t_advice t_result t_learntBy x1 x2 = some r → ∀ (H : Heap) (locs : List Loc) (ls : Array Slot), HP G A s.heap H locs [(a_t, .inr (2, [.ref a_t_score, .ref a_t_choice, .ref a_t_advice, .ref a_t_result, .ref a_t_learntBy, .int (kI t_size), .int (kI t_learns)])), (a_t_score, cAI G 40 t_score), (a_t_choice, cAI G 40 t_choice), (a_t_advice, cAI G 40 t_advice), (a_t_result, cAI G 40 t_result), (a_t_learntBy, cAI G 40 t_learntBy)] → lv_has ls 3 [] → W p l e (rmD 2 0 0) s m args below meth c H locs 0 0 (MQ below (QcI G A r [(a_t, .inr (2, [.ref a_t_score, .ref a_t_choice, .ref a_t_advice, .ref a_t_result, .ref a_t_learntBy, .int (kI t_size), .int (kI t_learns)])), (a_t_score, cAI G 40 t_score), (a_t_choice, cAI G 40 t_choice), (a_t_advice, cAI G 40 t_advice), (a_t_result, cAI G 40 t_result), (a_t_learntBy, cAI G 40 t_learntBy)]) args s (rmD 2 0 0).cells (rmD 2 0 0).slots A) (F0 m 99 ls []) := by
  intro  h H locs ls hw hl
  rw [m_X2_isOverride_b99] at h
  obtain ⟨⟨hx, hb, -, -, -⟩, -⟩ := id cx
  refine ri_iconst hx hb dX2_isOverride_99 ?_
  obtain rfl := so_inj h
  exact re_z (Or.inl rfl)  hx hb hlk hr cx hw (Nat.le_of_ble_eq_true rfl) (Nat.le_of_ble_eq_true rfl) dX2_isOverride_100
set_option maxHeartbeats 4000000 in
set_option maxRecDepth 100000 in
theorem c_X2_isOverride (l : Launch) (G : GG) (S : SM) (sz : Nat) (N : Nat) (a_t a_t_score a_t_choice a_t_advice a_t_result a_t_learntBy : Nat) (t_size : Int) (t_learns : Int) (t_score : Int → Int) (t_choice : Int → Int) (t_advice : Int → Int) (t_result : Int → Int) (t_learntBy : Int → Int) (x1 : Int) (x2 : Int) (r : Int) (h : m_X2_isOverride N t_choice t_advice t_result t_learntBy x1 x2 = some r) : CtI l yX2_isOverride cX2_isOverride 3 .boolean (rmD 2 0 0) G S sz [.ref a_t, .int (kI x1), .int (kI x2)] [(a_t, .inr (2, [.ref a_t_score, .ref a_t_choice, .ref a_t_advice, .ref a_t_result, .ref a_t_learntBy, .int (kI t_size), .int (kI t_learns)])), (a_t_score, cAI G 40 t_score), (a_t_choice, cAI G 40 t_choice), (a_t_advice, cAI G 40 t_advice), (a_t_result, cAI G 40 t_result), (a_t_learntBy, cAI G 40 t_learntBy)] r [(a_t, .inr (2, [.ref a_t_score, .ref a_t_choice, .ref a_t_advice, .ref a_t_result, .ref a_t_learntBy, .int (kI t_size), .int (kI t_learns)])), (a_t_score, cAI G 40 t_score), (a_t_choice, cAI G 40 t_choice), (a_t_advice, cAI G 40 t_advice), (a_t_result, cAI G 40 t_result), (a_t_learntBy, cAI G 40 t_learntBy)] := by
  refine met_I (by decide +kernel) (Nat.le_of_ble_eq_true rfl) ?_
  intro p e s m args below meth c A H locs ls cx hw hr hlk hnm hl
  have hl : lv_has ls 3 [(0, .ref a_t), (1, .int (kI x1)), (2, .int (kI x2))] := hl
  rw [m_X2_isOverride] at h
  obtain ⟨⟨hx, hb, -, -, -⟩, -⟩ := id cx
  refine lv_iload_n hx hb dX2_isOverride_0 rfl (lv_at hl 2 rfl) ?_
  obtain ⟨g1, h⟩ := gd_some h
  by_cases c2 : x2 = 0
  · have h := it_pos c2 h
    refine rt_in hx hb g1 (k := 0) c2 dX2_isOverride_1 (off := 27) rfl (tgt := 28) (by decide) ?_
    refine lv_aload_n hx hb dX2_isOverride_28 rfl (lv_at hl 0 rfl) ?_
    refine rf_get hx hb cx hw 0 rfl rfl 1 inX2 (by decide) fl_X2_15 rfl rfl dX2_isOverride_29 ?_
    refine lv_iload_n hx hb dX2_isOverride_32 rfl (lv_at hl 1 rfl) ?_
    obtain ⟨g3, h⟩ := gd_some h
    refine ra_i hx hb cx hw 2 rfl (by decide) g3 dX2_isOverride_33 ?_
    refine lv_aload_n hx hb dX2_isOverride_34 rfl (lv_at hl 0 rfl) ?_
    refine rf_get hx hb cx hw 0 rfl rfl 2 inX2 (by decide) fl_X2_18 rfl rfl dX2_isOverride_35 ?_
    refine lv_iload_n hx hb dX2_isOverride_38 rfl (lv_at hl 1 rfl) ?_
    refine ra_i hx hb cx hw 3 rfl (by decide) g3 dX2_isOverride_39 ?_
    obtain ⟨g4, h⟩ := gd_some h
    obtain ⟨g5, h⟩ := gd_some h
    refine ri_icmp_le (tgt := 47) hx hb g4 g5 dX2_isOverride_40 (by decide) (fun c6 => ?_) (fun c6 => ?_)
    · have h := it_pos c6 h
      refine ri_iconst hx hb dX2_isOverride_47 ?_
      obtain rfl := so_inj h
      exact re_z (Or.inl rfl)  hx hb hlk hr cx hw (Nat.le_of_ble_eq_true rfl) (Nat.le_of_ble_eq_true rfl) dX2_isOverride_48
    · have h := it_neg c6 h
      refine ri_iconst hx hb dX2_isOverride_43 ?_
      refine lv_goto (tgt := 48) hx hb dX2_isOverride_44 (by decide) ?_
      obtain rfl := so_inj h
      exact re_z (Or.inr rfl)  hx hb hlk hr cx hw (Nat.le_of_ble_eq_true rfl) (Nat.le_of_ble_eq_true rfl) dX2_isOverride_48
  have h := it_neg c2 h
  by_cases c7 : x2 = 1
  · have h := it_pos c7 h
    refine rt_in hx hb g1 (k := 1) c7 dX2_isOverride_1 (off := 48) rfl (tgt := 49) (by decide) ?_
    refine lv_aload_n hx hb dX2_isOverride_49 rfl (lv_at hl 0 rfl) ?_
    refine rf_get hx hb cx hw 0 rfl rfl 1 inX2 (by decide) fl_X2_15 rfl rfl dX2_isOverride_50 ?_
    refine lv_iload_n hx hb dX2_isOverride_53 rfl (lv_at hl 1 rfl) ?_
    obtain ⟨g8, h⟩ := gd_some h
    refine ra_i hx hb cx hw 2 rfl (by decide) g8 dX2_isOverride_54 ?_
    refine lv_aload_n hx hb dX2_isOverride_55 rfl (lv_at hl 0 rfl) ?_
    refine rf_get hx hb cx hw 0 rfl rfl 2 inX2 (by decide) fl_X2_18 rfl rfl dX2_isOverride_56 ?_
    refine lv_iload_n hx hb dX2_isOverride_59 rfl (lv_at hl 1 rfl) ?_
    refine ra_i hx hb cx hw 3 rfl (by decide) g8 dX2_isOverride_60 ?_
    obtain ⟨g9, h⟩ := gd_some h
    obtain ⟨g10, h⟩ := gd_some h
    refine ri_icmp_ge (tgt := 68) hx hb g9 g10 dX2_isOverride_61 (by decide) (fun c11 => ?_) (fun c11 => ?_)
    · have h := it_pos c11 h
      refine ri_iconst hx hb dX2_isOverride_68 ?_
      obtain rfl := so_inj h
      exact re_z (Or.inl rfl)  hx hb hlk hr cx hw (Nat.le_of_ble_eq_true rfl) (Nat.le_of_ble_eq_true rfl) dX2_isOverride_69
    · have h := it_neg c11 h
      refine ri_iconst hx hb dX2_isOverride_64 ?_
      refine lv_goto (tgt := 69) hx hb dX2_isOverride_65 (by decide) ?_
      obtain rfl := so_inj h
      exact re_z (Or.inr rfl)  hx hb hlk hr cx hw (Nat.le_of_ble_eq_true rfl) (Nat.le_of_ble_eq_true rfl) dX2_isOverride_69
  have h := it_neg c7 h
  by_cases c12 : x2 = 2
  · have h := it_pos c12 h
    refine rt_in hx hb g1 (k := 2) c12 dX2_isOverride_1 (off := 69) rfl (tgt := 70) (by decide) ?_
    refine lv_aload_n hx hb dX2_isOverride_70 rfl (lv_at hl 0 rfl) ?_
    refine rf_get hx hb cx hw 0 rfl rfl 1 inX2 (by decide) fl_X2_15 rfl rfl dX2_isOverride_71 ?_
    refine lv_iload_n hx hb dX2_isOverride_74 rfl (lv_at hl 1 rfl) ?_
    obtain ⟨g13, h⟩ := gd_some h
    refine ra_i hx hb cx hw 2 rfl (by decide) g13 dX2_isOverride_75 ?_
    refine lv_aload_n hx hb dX2_isOverride_76 rfl (lv_at hl 0 rfl) ?_
    refine rf_get hx hb cx hw 0 rfl rfl 2 inX2 (by decide) fl_X2_18 rfl rfl dX2_isOverride_77 ?_
    refine lv_iload_n hx hb dX2_isOverride_80 rfl (lv_at hl 1 rfl) ?_
    refine ra_i hx hb cx hw 3 rfl (by decide) g13 dX2_isOverride_81 ?_
    obtain ⟨g14, h⟩ := gd_some h
    obtain ⟨g15, h⟩ := gd_some h
    refine ri_icmp_le (tgt := 99) hx hb g14 g15 dX2_isOverride_82 (by decide) (fun c16 => ?_) (fun c16 => ?_)
    · have h := it_pos c16 h
      exact w_X2_isOverride_b99 cx hlk hr N a_t a_t_score a_t_choice a_t_advice a_t_result a_t_learntBy t_size t_learns t_score t_choice t_advice t_result t_learntBy x1 x2 r  h _ _ _ hw (lv_sub hl [] rfl)
    · have h := it_neg c16 h
      refine lv_aload_n hx hb dX2_isOverride_85 rfl (lv_at hl 0 rfl) ?_
      refine rf_get hx hb cx hw 0 rfl rfl 3 inX2 (by decide) fl_X2_21 rfl rfl dX2_isOverride_86 ?_
      refine lv_iload_n hx hb dX2_isOverride_89 rfl (lv_at hl 1 rfl) ?_
      refine ra_i hx hb cx hw 4 rfl (by decide) g13 dX2_isOverride_90 ?_
      refine ri_iconst hx hb dX2_isOverride_91 ?_
      obtain ⟨g17, h⟩ := gd_some h
      refine ri_icmp_ne (tgt := 99) hx hb g17 ⟨by decide, by decide⟩ dX2_isOverride_92 (by decide) (fun c18 => ?_) (fun c18 => ?_)
      · have h := it_pos c18 h
        refine ri_iconst hx hb dX2_isOverride_95 ?_
        refine lv_goto (tgt := 100) hx hb dX2_isOverride_96 (by decide) ?_
        obtain rfl := so_inj h
        exact re_z (Or.inr rfl)  hx hb hlk hr cx hw (Nat.le_of_ble_eq_true rfl) (Nat.le_of_ble_eq_true rfl) dX2_isOverride_100
      · have h := it_neg c18 h
        exact w_X2_isOverride_b99 cx hlk hr N a_t a_t_score a_t_choice a_t_advice a_t_result a_t_learntBy t_size t_learns t_score t_choice t_advice t_result t_learntBy x1 x2 r  h _ _ _ hw (lv_sub hl [] rfl)
  have h := it_neg c12 h
  refine rt_out hx hb g1 dX2_isOverride_1 (by omega) (tgt := 101) (by decide) ?_
  refine lv_aload_n hx hb dX2_isOverride_101 rfl (lv_at hl 0 rfl) ?_
  refine lv_iload_n hx hb dX2_isOverride_102 rfl (lv_at hl 1 rfl) ?_
  obtain ⟨r20, h20, h⟩ := bd_some h
  refine rc_I0 (v := r20) hw [0, 1, 2, 3, 4, 5] (rr_V cx hw (c_X2_isPending l G S H.size N a_t a_t_score a_t_choice a_t_advice a_t_result a_t_learntBy t_size t_learns t_score t_choice t_advice t_result t_learntBy x1 _ h20) mv_X2_39 [0, 1, 2, 3, 4, 5] rfl rfl rfl 0 rfl rfl ⟨Nat.le_of_ble_eq_true rfl, Nat.le_of_ble_eq_true rfl⟩ rfl hl.1 rfl (Nat.le_of_ble_eq_true rfl) dX2_isOverride_103 ⟨Nat.le_of_ble_eq_true rfl, Nat.le_of_ble_eq_true rfl⟩) rfl rfl (fun H locs hw => ?_)
  obtain ⟨g21, h⟩ := gd_some h
  obtain rfl := so_inj h
  exact re_z g21  hx hb hlk hr cx hw (Nat.le_of_ble_eq_true rfl) (Nat.le_of_ble_eq_true rfl) dX2_isOverride_106
def PL_X2_markPending_b12 (p : Program) (l : Launch) (e : Env) (s : State) (m : MethodId) (args : Array Value) (below : List Frame) (meth : Method) (c : Code) (A : Nat → Prop) (G : GG) (S : SM) (a_t a_t_score a_t_choice a_t_advice a_t_result a_t_learntBy : Nat) (t_size : Int) (t_score : Int → Int) (t_choice : Int → Int) (t_advice : Int → Int) (t_result : Int → Int) (t_learns : Int) (r : Int × Int × (Int → Int)) (kk : (Int → Int) → Int → Option (Int × Int × (Int → Int))) : Prop := ∀ (t_learntBy : Int → Int) (y1 : Int), kk t_learntBy y1 = some r → ∀ (H : Heap) (locs : List Loc) (ls : Array Slot), HP G A s.heap H locs [(a_t, .inr (2, [.ref a_t_score, .ref a_t_choice, .ref a_t_advice, .ref a_t_result, .ref a_t_learntBy, .int (kI t_size), .int (kI t_learns)])), (a_t_score, cAI G 40 t_score), (a_t_choice, cAI G 40 t_choice), (a_t_advice, cAI G 40 t_advice), (a_t_result, cAI G 40 t_result), (a_t_learntBy, cAI G 40 t_learntBy)] → lv_has ls 2 [(0, .ref a_t), (1, .int (kI y1))] → W p l e (rmD 2 0 0) s m args below meth c H locs 0 0 (MQ below (QcI G A r.1 [(a_t, .inr (2, [.ref a_t_score, .ref a_t_choice, .ref a_t_advice, .ref a_t_result, .ref a_t_learntBy, .int (kI t_size), .int (kI r.2.1)])), (a_t_score, cAI G 40 t_score), (a_t_choice, cAI G 40 t_choice), (a_t_advice, cAI G 40 t_advice), (a_t_result, cAI G 40 t_result), (a_t_learntBy, cAI G 40 r.2.2)]) args s (rmD 2 0 0).cells (rmD 2 0 0).slots A) (F0 m 12 ls [])
set_option maxHeartbeats 4000000 in
set_option maxRecDepth 100000 in
theorem w_X2_markPending_b38 {p : Program} {l : Launch} {e : Env} {s : State} {m : MethodId} {args : Array Value} {below : List Frame} {meth : Method} {c : Code} {A : Nat → Prop} {G : GG} {S : SM} (cx : CX p s m args c cX2_markPending RX2 2 G S A) (hlk : meth.locks = false) (hr : meth.sig.returnType = some .int) (N : Nat) (a_t a_t_score a_t_choice a_t_advice a_t_result a_t_learntBy : Nat) (t_size : Int) (t_score : Int → Int) (t_choice : Int → Int) (t_advice : Int → Int) (t_result : Int → Int) (t_learns : Int) (r : Int × Int × (Int → Int)) (k12 : (Int → Int) → Int → Option (Int × Int × (Int → Int))) (hk12 : PL_X2_markPending_b12 p l e s m args below meth c A G S a_t a_t_score a_t_choice a_t_advice a_t_result a_t_learntBy t_size t_score t_choice t_advice t_result t_learns r k12) : ∀ (t_learntBy : Int → Int) (y1 : Int), m_X2_markPending_b38 N t_size t_result t_learns k12 t_learntBy y1 = some r → ∀ (H : Heap) (locs : List Loc) (ls : Array Slot), HP G A s.heap H locs [(a_t, .inr (2, [.ref a_t_score, .ref a_t_choice, .ref a_t_advice, .ref a_t_result, .ref a_t_learntBy, .int (kI t_size), .int (kI t_learns)])), (a_t_score, cAI G 40 t_score), (a_t_choice, cAI G 40 t_choice), (a_t_advice, cAI G 40 t_advice), (a_t_result, cAI G 40 t_result), (a_t_learntBy, cAI G 40 t_learntBy)] → lv_has ls 2 [(0, .ref a_t), (1, .int (kI y1))] → W p l e (rmD 2 0 0) s m args below meth c H locs 0 0 (MQ below (QcI G A r.1 [(a_t, .inr (2, [.ref a_t_score, .ref a_t_choice, .ref a_t_advice, .ref a_t_result, .ref a_t_learntBy, .int (kI t_size), .int (kI r.2.1)])), (a_t_score, cAI G 40 t_score), (a_t_choice, cAI G 40 t_choice), (a_t_advice, cAI G 40 t_advice), (a_t_result, cAI G 40 t_result), (a_t_learntBy, cAI G 40 r.2.2)]) args s (rmD 2 0 0).cells (rmD 2 0 0).slots A) (F0 m 38 ls []) := by
  intro t_learntBy y1 h H locs ls hw hl
  rw [m_X2_markPending_b38] at h
  obtain ⟨⟨hx, hb, -, -, -⟩, -⟩ := id cx
  refine lv_iinc (v := kI (y1 + 1)) (lv' := [(1, .int (kI (y1 + 1))), (0, .ref a_t)]) hx hb dX2_markPending_38 hl (k := 1) rfl (kI_add _ _) (by decide) rfl (fun ls hl => ?_)
  refine lv_goto (tgt := 12) hx hb dX2_markPending_41 (by decide) ?_
  exact hk12 t_learntBy (y1 + 1) h _ _ _ hw (lv_sub hl [1, 0] rfl)
set_option maxHeartbeats 4000000 in
set_option maxRecDepth 100000 in
theorem w_X2_markPending_b12 {p : Program} {l : Launch} {e : Env} {s : State} {m : MethodId} {args : Array Value} {below : List Frame} {meth : Method} {c : Code} {A : Nat → Prop} {G : GG} {S : SM} (cx : CX p s m args c cX2_markPending RX2 2 G S A) (hlk : meth.locks = false) (hr : meth.sig.returnType = some .int) (N : Nat) (a_t a_t_score a_t_choice a_t_advice a_t_result a_t_learntBy : Nat) (t_size : Int) (t_score : Int → Int) (t_choice : Int → Int) (t_advice : Int → Int) (t_result : Int → Int) (t_learns : Int) (r : Int × Int × (Int → Int)) : ∀ n : Nat, PL_X2_markPending_b12 p l e s m args below meth c A G S a_t a_t_score a_t_choice a_t_advice a_t_result a_t_learntBy t_size t_score t_choice t_advice t_result t_learns r (m_X2_markPending_b12 N t_size t_result t_learns n) := by
  intro n
  induction n with
  | zero => intro t_learntBy y1 h; exact nomatch h
  | succ n ih =>
    intro t_learntBy y1 h H locs ls hw hl
    rw [m_X2_markPending_b12] at h
    obtain ⟨⟨hx, hb, -, -, -⟩, -⟩ := id cx
    refine lv_iload_n hx hb dX2_markPending_12 rfl (lv_at hl 1 rfl) ?_
    refine lv_aload_n hx hb dX2_markPending_13 rfl (lv_at hl 0 rfl) ?_
    refine rf_get hx hb cx hw 0 rfl rfl 5 inX2 (by decide) fl_X2_27 rfl rfl dX2_markPending_14 ?_
    obtain ⟨g1, h⟩ := gd_some h
    obtain ⟨g2, h⟩ := gd_some h
    refine ri_icmp_ge (tgt := 44) hx hb g1 g2 dX2_markPending_17 (by decide) (fun c3 => ?_) (fun c3 => ?_)
    · have h := it_pos c3 h
      refine lv_aload_n hx hb dX2_markPending_44 rfl (lv_at hl 0 rfl) ?_
      refine rf_get hx hb cx hw 0 rfl rfl 6 inX2 (by decide) fl_X2_42 rfl rfl dX2_markPending_45 ?_
      obtain rfl := so_inj h
      exact re_i hx hb hlk hr cx hw (Nat.le_of_ble_eq_true rfl) (Nat.le_of_ble_eq_true rfl) dX2_markPending_48
    · have h := it_neg c3 h
      refine lv_aload_n hx hb dX2_markPending_20 rfl (lv_at hl 0 rfl) ?_
      refine lv_iload_n hx hb dX2_markPending_21 rfl (lv_at hl 1 rfl) ?_
      obtain ⟨r4, h4, h⟩ := bd_some h
      refine rc_I0 (v := r4) hw [0, 1, 2, 3, 4, 5] (rr_V cx hw (c_X2_isPending l G S H.size N a_t a_t_score a_t_choice a_t_advice a_t_result a_t_learntBy t_size t_learns t_score t_choice t_advice t_result t_learntBy y1 _ h4) mv_X2_39 [0, 1, 2, 3, 4, 5] rfl rfl rfl 0 rfl rfl ⟨Nat.le_of_ble_eq_true rfl, Nat.le_of_ble_eq_true rfl⟩ rfl hl.1 rfl (Nat.le_of_ble_eq_true rfl) dX2_markPending_22 ⟨Nat.le_of_ble_eq_true rfl, Nat.le_of_ble_eq_true rfl⟩) rfl rfl (fun H locs hw => ?_)
      obtain ⟨g5, h⟩ := gd_some h
      refine ri_if_eq (tgt := 38) hx hb g5 dX2_markPending_25 (by decide) (fun c6 => ?_) (fun c6 => ?_)
      · have h := it_pos c6 h
        exact w_X2_markPending_b38 cx hlk hr N a_t a_t_score a_t_choice a_t_advice a_t_result a_t_learntBy t_size t_score t_choice t_advice t_result t_learns r (m_X2_markPending_b12 N t_size t_result t_learns n) ih t_learntBy y1 h _ _ _ hw (lv_sub hl [0, 1] rfl)
      · have h := it_neg c6 h
        refine lv_aload_n hx hb dX2_markPending_28 rfl (lv_at hl 0 rfl) ?_
        refine rf_get hx hb cx hw 0 rfl rfl 4 inX2 (by decide) fl_X2_24 rfl rfl dX2_markPending_29 ?_
        refine lv_iload_n hx hb dX2_markPending_32 rfl (lv_at hl 1 rfl) ?_
        refine lv_aload_n hx hb dX2_markPending_33 rfl (lv_at hl 0 rfl) ?_
        refine rf_get hx hb cx hw 0 rfl rfl 6 inX2 (by decide) fl_X2_42 rfl rfl dX2_markPending_34 ?_
        obtain ⟨g7, h⟩ := gd_some h
        refine ra_si hx hb cx hw 5 rfl (by decide) g7 dX2_markPending_37 (fun H locs hw => ?_)
        have hw : HP G A s.heap H locs [(a_t, .inr (2, [.ref a_t_score, .ref a_t_choice, .ref a_t_advice, .ref a_t_result, .ref a_t_learntBy, .int (kI t_size), .int (kI t_learns)])), (a_t_score, cAI G 40 t_score), (a_t_choice, cAI G 40 t_choice), (a_t_advice, cAI G 40 t_advice), (a_t_result, cAI G 40 t_result), (a_t_learntBy, cAI G 40 (uP t_learntBy y1 t_learns))] := hw
        exact w_X2_markPending_b38 cx hlk hr N a_t a_t_score a_t_choice a_t_advice a_t_result a_t_learntBy t_size t_score t_choice t_advice t_result t_learns r (m_X2_markPending_b12 N t_size t_result t_learns n) ih (uP t_learntBy y1 t_learns) y1 h _ _ _ hw (lv_sub hl [0, 1] rfl)
set_option maxHeartbeats 4000000 in
set_option maxRecDepth 100000 in
theorem c_X2_markPending (l : Launch) (G : GG) (S : SM) (sz : Nat) (N : Nat) (a_t a_t_score a_t_choice a_t_advice a_t_result a_t_learntBy : Nat) (t_size : Int) (t_learns : Int) (t_score : Int → Int) (t_choice : Int → Int) (t_advice : Int → Int) (t_result : Int → Int) (t_learntBy : Int → Int)  (r : Int × Int × (Int → Int)) (h : m_X2_markPending N t_size t_result t_learns t_learntBy = some r) : CtI l yX2_markPending cX2_markPending 2 .int (rmD 2 0 0) G S sz [.ref a_t] [(a_t, .inr (2, [.ref a_t_score, .ref a_t_choice, .ref a_t_advice, .ref a_t_result, .ref a_t_learntBy, .int (kI t_size), .int (kI t_learns)])), (a_t_score, cAI G 40 t_score), (a_t_choice, cAI G 40 t_choice), (a_t_advice, cAI G 40 t_advice), (a_t_result, cAI G 40 t_result), (a_t_learntBy, cAI G 40 t_learntBy)] r.1 [(a_t, .inr (2, [.ref a_t_score, .ref a_t_choice, .ref a_t_advice, .ref a_t_result, .ref a_t_learntBy, .int (kI t_size), .int (kI r.2.1)])), (a_t_score, cAI G 40 t_score), (a_t_choice, cAI G 40 t_choice), (a_t_advice, cAI G 40 t_advice), (a_t_result, cAI G 40 t_result), (a_t_learntBy, cAI G 40 r.2.2)] := by
  refine met_I (by decide +kernel) (Nat.le_of_ble_eq_true rfl) ?_
  intro p e s m args below meth c A H locs ls cx hw hr hlk hnm hl
  have hl : lv_has ls 2 [(0, .ref a_t)] := hl
  rw [m_X2_markPending] at h
  obtain ⟨⟨hx, hb, -, -, -⟩, -⟩ := id cx
  refine lv_aload_n hx hb dX2_markPending_0 rfl (lv_at hl 0 rfl) ?_
  refine lv_dup hx hb dX2_markPending_1 rfl ?_
  refine rf_get hx hb cx hw 0 rfl rfl 6 inX2 (by decide) fl_X2_42 rfl rfl dX2_markPending_2 ?_
  refine ri_iconst hx hb dX2_markPending_5 ?_
  refine ri_iadd hx hb dX2_markPending_6 ?_
  refine rf_put hx hb cx hw 0 rfl rfl 6 inX2 tyX2 tyX2_ok nmX2 (by decide) fl_X2_42 rfl rfl rfl rfl (Nat.le_of_ble_eq_true rfl) dX2_markPending_7 (fun H locs hw => ?_)
  have hw : HP G A s.heap H locs [(a_t, .inr (2, [.ref a_t_score, .ref a_t_choice, .ref a_t_advice, .ref a_t_result, .ref a_t_learntBy, .int (kI t_size), .int (kI (t_learns + 1))])), (a_t_score, cAI G 40 t_score), (a_t_choice, cAI G 40 t_choice), (a_t_advice, cAI G 40 t_advice), (a_t_result, cAI G 40 t_result), (a_t_learntBy, cAI G 40 t_learntBy)] := hw
  refine ri_iconst hx hb dX2_markPending_10 ?_
  refine lv_istore_n (lv' := [(1, .int (kI 0)), (0, .ref a_t)]) hx hb dX2_markPending_11 rfl hl (by decide) rfl (fun ls hl => ?_)
  exact w_X2_markPending_b12 cx hlk hr N a_t a_t_score a_t_choice a_t_advice a_t_result a_t_learntBy t_size t_score t_choice t_advice t_result (t_learns + 1) r N t_learntBy 0 h _ _ _ hw (lv_sub hl [1, 0] rfl)
def PL_X2_unmark_b2 (p : Program) (l : Launch) (e : Env) (s : State) (m : MethodId) (args : Array Value) (below : List Frame) (meth : Method) (c : Code) (A : Nat → Prop) (G : GG) (S : SM) (a_t a_t_score a_t_choice a_t_advice a_t_result a_t_learntBy : Nat) (t_size : Int) (t_learns : Int) (t_score : Int → Int) (t_choice : Int → Int) (t_advice : Int → Int) (t_result : Int → Int) (x1 : Int) (r : (Int → Int)) (kk : (Int → Int) → Int → Option ((Int → Int))) : Prop := ∀ (t_learntBy : Int → Int) (y2 : Int), kk t_learntBy y2 = some r → ∀ (H : Heap) (locs : List Loc) (ls : Array Slot), HP G A s.heap H locs [(a_t, .inr (2, [.ref a_t_score, .ref a_t_choice, .ref a_t_advice, .ref a_t_result, .ref a_t_learntBy, .int (kI t_size), .int (kI t_learns)])), (a_t_score, cAI G 40 t_score), (a_t_choice, cAI G 40 t_choice), (a_t_advice, cAI G 40 t_advice), (a_t_result, cAI G 40 t_result), (a_t_learntBy, cAI G 40 t_learntBy)] → lv_has ls 3 [(0, .ref a_t), (1, .int (kI x1)), (2, .int (kI y2))] → W p l e (rmD 1 0 0) s m args below meth c H locs 0 0 (MQ below (QcV G A [(a_t, .inr (2, [.ref a_t_score, .ref a_t_choice, .ref a_t_advice, .ref a_t_result, .ref a_t_learntBy, .int (kI t_size), .int (kI t_learns)])), (a_t_score, cAI G 40 t_score), (a_t_choice, cAI G 40 t_choice), (a_t_advice, cAI G 40 t_advice), (a_t_result, cAI G 40 t_result), (a_t_learntBy, cAI G 40 r)]) args s (rmD 1 0 0).cells (rmD 1 0 0).slots A) (F0 m 2 ls [])
set_option maxHeartbeats 4000000 in
set_option maxRecDepth 100000 in
theorem w_X2_unmark_b27 {p : Program} {l : Launch} {e : Env} {s : State} {m : MethodId} {args : Array Value} {below : List Frame} {meth : Method} {c : Code} {A : Nat → Prop} {G : GG} {S : SM} (cx : CX p s m args c cX2_unmark RX2 3 G S A) (hlk : meth.locks = false) (hr : meth.sig.returnType = none) (N : Nat) (a_t a_t_score a_t_choice a_t_advice a_t_result a_t_learntBy : Nat) (t_size : Int) (t_learns : Int) (t_score : Int → Int) (t_choice : Int → Int) (t_advice : Int → Int) (t_result : Int → Int) (x1 : Int) (r : (Int → Int)) (k2 : (Int → Int) → Int → Option ((Int → Int))) (hk2 : PL_X2_unmark_b2 p l e s m args below meth c A G S a_t a_t_score a_t_choice a_t_advice a_t_result a_t_learntBy t_size t_learns t_score t_choice t_advice t_result x1 r k2) : ∀ (t_learntBy : Int → Int) (y2 : Int), m_X2_unmark_b27 N t_size x1 k2 t_learntBy y2 = some r → ∀ (H : Heap) (locs : List Loc) (ls : Array Slot), HP G A s.heap H locs [(a_t, .inr (2, [.ref a_t_score, .ref a_t_choice, .ref a_t_advice, .ref a_t_result, .ref a_t_learntBy, .int (kI t_size), .int (kI t_learns)])), (a_t_score, cAI G 40 t_score), (a_t_choice, cAI G 40 t_choice), (a_t_advice, cAI G 40 t_advice), (a_t_result, cAI G 40 t_result), (a_t_learntBy, cAI G 40 t_learntBy)] → lv_has ls 3 [(0, .ref a_t), (1, .int (kI x1)), (2, .int (kI y2))] → W p l e (rmD 1 0 0) s m args below meth c H locs 0 0 (MQ below (QcV G A [(a_t, .inr (2, [.ref a_t_score, .ref a_t_choice, .ref a_t_advice, .ref a_t_result, .ref a_t_learntBy, .int (kI t_size), .int (kI t_learns)])), (a_t_score, cAI G 40 t_score), (a_t_choice, cAI G 40 t_choice), (a_t_advice, cAI G 40 t_advice), (a_t_result, cAI G 40 t_result), (a_t_learntBy, cAI G 40 r)]) args s (rmD 1 0 0).cells (rmD 1 0 0).slots A) (F0 m 27 ls []) := by
  intro t_learntBy y2 h H locs ls hw hl
  rw [m_X2_unmark_b27] at h
  obtain ⟨⟨hx, hb, -, -, -⟩, -⟩ := id cx
  refine lv_iinc (v := kI (y2 + 1)) (lv' := [(2, .int (kI (y2 + 1))), (0, .ref a_t), (1, .int (kI x1))]) hx hb dX2_unmark_27 hl (k := 2) rfl (kI_add _ _) (by decide) rfl (fun ls hl => ?_)
  refine lv_goto (tgt := 2) hx hb dX2_unmark_30 (by decide) ?_
  exact hk2 t_learntBy (y2 + 1) h _ _ _ hw (lv_sub hl [1, 2, 0] rfl)
set_option maxHeartbeats 4000000 in
set_option maxRecDepth 100000 in
theorem w_X2_unmark_b2 {p : Program} {l : Launch} {e : Env} {s : State} {m : MethodId} {args : Array Value} {below : List Frame} {meth : Method} {c : Code} {A : Nat → Prop} {G : GG} {S : SM} (cx : CX p s m args c cX2_unmark RX2 3 G S A) (hlk : meth.locks = false) (hr : meth.sig.returnType = none) (N : Nat) (a_t a_t_score a_t_choice a_t_advice a_t_result a_t_learntBy : Nat) (t_size : Int) (t_learns : Int) (t_score : Int → Int) (t_choice : Int → Int) (t_advice : Int → Int) (t_result : Int → Int) (x1 : Int) (r : (Int → Int)) : ∀ n : Nat, PL_X2_unmark_b2 p l e s m args below meth c A G S a_t a_t_score a_t_choice a_t_advice a_t_result a_t_learntBy t_size t_learns t_score t_choice t_advice t_result x1 r (m_X2_unmark_b2 N t_size x1 n) := by
  intro n
  induction n with
  | zero => intro t_learntBy y2 h; exact nomatch h
  | succ n ih =>
    intro t_learntBy y2 h H locs ls hw hl
    rw [m_X2_unmark_b2] at h
    obtain ⟨⟨hx, hb, -, -, -⟩, -⟩ := id cx
    refine lv_iload_n hx hb dX2_unmark_2 rfl (lv_at hl 2 rfl) ?_
    refine lv_aload_n hx hb dX2_unmark_3 rfl (lv_at hl 0 rfl) ?_
    refine rf_get hx hb cx hw 0 rfl rfl 5 inX2 (by decide) fl_X2_27 rfl rfl dX2_unmark_4 ?_
    obtain ⟨g1, h⟩ := gd_some h
    obtain ⟨g2, h⟩ := gd_some h
    refine ri_icmp_ge (tgt := 33) hx hb g1 g2 dX2_unmark_7 (by decide) (fun c3 => ?_) (fun c3 => ?_)
    · have h := it_pos c3 h
      obtain rfl := so_inj h
      exact re_v hx hb hlk hr cx hw (Nat.le_of_ble_eq_true rfl) (Nat.le_of_ble_eq_true rfl) dX2_unmark_33
    · have h := it_neg c3 h
      refine lv_aload_n hx hb dX2_unmark_10 rfl (lv_at hl 0 rfl) ?_
      refine rf_get hx hb cx hw 0 rfl rfl 4 inX2 (by decide) fl_X2_24 rfl rfl dX2_unmark_11 ?_
      refine lv_iload_n hx hb dX2_unmark_14 rfl (lv_at hl 2 rfl) ?_
      obtain ⟨g4, h⟩ := gd_some h
      refine ra_i hx hb cx hw 5 rfl (by decide) g4 dX2_unmark_15 ?_
      refine lv_iload_n hx hb dX2_unmark_16 rfl (lv_at hl 1 rfl) ?_
      obtain ⟨g5, h⟩ := gd_some h
      obtain ⟨g6, h⟩ := gd_some h
      refine ri_icmp_ne (tgt := 27) hx hb g5 g6 dX2_unmark_17 (by decide) (fun c7 => ?_) (fun c7 => ?_)
      · have h := it_pos c7 h
        refine lv_aload_n hx hb dX2_unmark_20 rfl (lv_at hl 0 rfl) ?_
        refine rf_get hx hb cx hw 0 rfl rfl 4 inX2 (by decide) fl_X2_24 rfl rfl dX2_unmark_21 ?_
        refine lv_iload_n hx hb dX2_unmark_24 rfl (lv_at hl 2 rfl) ?_
        refine ri_iconst hx hb dX2_unmark_25 ?_
        refine ra_si hx hb cx hw 5 rfl (by decide) g4 dX2_unmark_26 (fun H locs hw => ?_)
        have hw : HP G A s.heap H locs [(a_t, .inr (2, [.ref a_t_score, .ref a_t_choice, .ref a_t_advice, .ref a_t_result, .ref a_t_learntBy, .int (kI t_size), .int (kI t_learns)])), (a_t_score, cAI G 40 t_score), (a_t_choice, cAI G 40 t_choice), (a_t_advice, cAI G 40 t_advice), (a_t_result, cAI G 40 t_result), (a_t_learntBy, cAI G 40 (uP t_learntBy y2 0))] := hw
        exact w_X2_unmark_b27 cx hlk hr N a_t a_t_score a_t_choice a_t_advice a_t_result a_t_learntBy t_size t_learns t_score t_choice t_advice t_result x1 r (m_X2_unmark_b2 N t_size x1 n) ih (uP t_learntBy y2 0) y2 h _ _ _ hw (lv_sub hl [0, 1, 2] rfl)
      · have h := it_neg c7 h
        exact w_X2_unmark_b27 cx hlk hr N a_t a_t_score a_t_choice a_t_advice a_t_result a_t_learntBy t_size t_learns t_score t_choice t_advice t_result x1 r (m_X2_unmark_b2 N t_size x1 n) ih t_learntBy y2 h _ _ _ hw (lv_sub hl [0, 1, 2] rfl)
set_option maxHeartbeats 4000000 in
set_option maxRecDepth 100000 in
theorem c_X2_unmark (l : Launch) (G : GG) (S : SM) (sz : Nat) (N : Nat) (a_t a_t_score a_t_choice a_t_advice a_t_result a_t_learntBy : Nat) (t_size : Int) (t_learns : Int) (t_score : Int → Int) (t_choice : Int → Int) (t_advice : Int → Int) (t_result : Int → Int) (t_learntBy : Int → Int) (x1 : Int) (r : (Int → Int)) (h : m_X2_unmark N t_size t_learntBy x1 = some r) : CtV l yX2_unmark cX2_unmark 3 (rmD 1 0 0) G S sz [.ref a_t, .int (kI x1)] [(a_t, .inr (2, [.ref a_t_score, .ref a_t_choice, .ref a_t_advice, .ref a_t_result, .ref a_t_learntBy, .int (kI t_size), .int (kI t_learns)])), (a_t_score, cAI G 40 t_score), (a_t_choice, cAI G 40 t_choice), (a_t_advice, cAI G 40 t_advice), (a_t_result, cAI G 40 t_result), (a_t_learntBy, cAI G 40 t_learntBy)] [(a_t, .inr (2, [.ref a_t_score, .ref a_t_choice, .ref a_t_advice, .ref a_t_result, .ref a_t_learntBy, .int (kI t_size), .int (kI t_learns)])), (a_t_score, cAI G 40 t_score), (a_t_choice, cAI G 40 t_choice), (a_t_advice, cAI G 40 t_advice), (a_t_result, cAI G 40 t_result), (a_t_learntBy, cAI G 40 r)] := by
  refine met_V (by decide +kernel) (Nat.le_of_ble_eq_true rfl) ?_
  intro p e s m args below meth c A H locs ls cx hw hr hlk hnm hl
  have hl : lv_has ls 3 [(0, .ref a_t), (1, .int (kI x1))] := hl
  rw [m_X2_unmark] at h
  obtain ⟨⟨hx, hb, -, -, -⟩, -⟩ := id cx
  refine ri_iconst hx hb dX2_unmark_0 ?_
  refine lv_istore_n (lv' := [(2, .int (kI 0)), (0, .ref a_t), (1, .int (kI x1))]) hx hb dX2_unmark_1 rfl hl (by decide) rfl (fun ls hl => ?_)
  exact w_X2_unmark_b2 cx hlk hr N a_t a_t_score a_t_choice a_t_advice a_t_result a_t_learntBy t_size t_learns t_score t_choice t_advice t_result x1 r N t_learntBy 0 h _ _ _ hw (lv_sub hl [1, 2, 0] rfl)
def PL_X2_learntIn_b4 (p : Program) (l : Launch) (e : Env) (s : State) (m : MethodId) (args : Array Value) (below : List Frame) (meth : Method) (c : Code) (A : Nat → Prop) (G : GG) (S : SM) (a_t a_t_score a_t_choice a_t_advice a_t_result a_t_learntBy : Nat) (t_size : Int) (t_learns : Int) (t_score : Int → Int) (t_choice : Int → Int) (t_advice : Int → Int) (t_result : Int → Int) (t_learntBy : Int → Int) (x1 : Int) (r : Int) (kk : Int → Int → Option (Int)) : Prop := ∀ (y2 : Int) (y3 : Int), kk y2 y3 = some r → ∀ (H : Heap) (locs : List Loc) (ls : Array Slot), HP G A s.heap H locs [(a_t, .inr (2, [.ref a_t_score, .ref a_t_choice, .ref a_t_advice, .ref a_t_result, .ref a_t_learntBy, .int (kI t_size), .int (kI t_learns)])), (a_t_score, cAI G 40 t_score), (a_t_choice, cAI G 40 t_choice), (a_t_advice, cAI G 40 t_advice), (a_t_result, cAI G 40 t_result), (a_t_learntBy, cAI G 40 t_learntBy)] → lv_has ls 4 [(0, .ref a_t), (1, .int (kI x1)), (2, .int (kI y2)), (3, .int (kI y3))] → W p l e (rmD 1 0 0) s m args below meth c H locs 0 0 (MQ below (QcI G A r [(a_t, .inr (2, [.ref a_t_score, .ref a_t_choice, .ref a_t_advice, .ref a_t_result, .ref a_t_learntBy, .int (kI t_size), .int (kI t_learns)])), (a_t_score, cAI G 40 t_score), (a_t_choice, cAI G 40 t_choice), (a_t_advice, cAI G 40 t_advice), (a_t_result, cAI G 40 t_result), (a_t_learntBy, cAI G 40 t_learntBy)]) args s (rmD 1 0 0).cells (rmD 1 0 0).slots A) (F0 m 4 ls [])
set_option maxHeartbeats 4000000 in
set_option maxRecDepth 100000 in
theorem w_X2_learntIn_b25 {p : Program} {l : Launch} {e : Env} {s : State} {m : MethodId} {args : Array Value} {below : List Frame} {meth : Method} {c : Code} {A : Nat → Prop} {G : GG} {S : SM} (cx : CX p s m args c cX2_learntIn RX2 4 G S A) (hlk : meth.locks = false) (hr : meth.sig.returnType = some .int) (N : Nat) (a_t a_t_score a_t_choice a_t_advice a_t_result a_t_learntBy : Nat) (t_size : Int) (t_learns : Int) (t_score : Int → Int) (t_choice : Int → Int) (t_advice : Int → Int) (t_result : Int → Int) (t_learntBy : Int → Int) (x1 : Int) (r : Int) (k4 : Int → Int → Option (Int)) (hk4 : PL_X2_learntIn_b4 p l e s m args below meth c A G S a_t a_t_score a_t_choice a_t_advice a_t_result a_t_learntBy t_size t_learns t_score t_choice t_advice t_result t_learntBy x1 r k4) : ∀ (y2 : Int) (y3 : Int), m_X2_learntIn_b25 N t_size t_learntBy x1 k4 y2 y3 = some r → ∀ (H : Heap) (locs : List Loc) (ls : Array Slot), HP G A s.heap H locs [(a_t, .inr (2, [.ref a_t_score, .ref a_t_choice, .ref a_t_advice, .ref a_t_result, .ref a_t_learntBy, .int (kI t_size), .int (kI t_learns)])), (a_t_score, cAI G 40 t_score), (a_t_choice, cAI G 40 t_choice), (a_t_advice, cAI G 40 t_advice), (a_t_result, cAI G 40 t_result), (a_t_learntBy, cAI G 40 t_learntBy)] → lv_has ls 4 [(0, .ref a_t), (1, .int (kI x1)), (2, .int (kI y2)), (3, .int (kI y3))] → W p l e (rmD 1 0 0) s m args below meth c H locs 0 0 (MQ below (QcI G A r [(a_t, .inr (2, [.ref a_t_score, .ref a_t_choice, .ref a_t_advice, .ref a_t_result, .ref a_t_learntBy, .int (kI t_size), .int (kI t_learns)])), (a_t_score, cAI G 40 t_score), (a_t_choice, cAI G 40 t_choice), (a_t_advice, cAI G 40 t_advice), (a_t_result, cAI G 40 t_result), (a_t_learntBy, cAI G 40 t_learntBy)]) args s (rmD 1 0 0).cells (rmD 1 0 0).slots A) (F0 m 25 ls []) := by
  intro y2 y3 h H locs ls hw hl
  rw [m_X2_learntIn_b25] at h
  obtain ⟨⟨hx, hb, -, -, -⟩, -⟩ := id cx
  refine lv_iinc (v := kI (y3 + 1)) (lv' := [(3, .int (kI (y3 + 1))), (0, .ref a_t), (1, .int (kI x1)), (2, .int (kI y2))]) hx hb dX2_learntIn_25 hl (k := 3) rfl (kI_add _ _) (by decide) rfl (fun ls hl => ?_)
  refine lv_goto (tgt := 4) hx hb dX2_learntIn_28 (by decide) ?_
  exact hk4 y2 (y3 + 1) h _ _ _ hw (lv_sub hl [1, 2, 3, 0] rfl)
set_option maxHeartbeats 4000000 in
set_option maxRecDepth 100000 in
theorem w_X2_learntIn_b4 {p : Program} {l : Launch} {e : Env} {s : State} {m : MethodId} {args : Array Value} {below : List Frame} {meth : Method} {c : Code} {A : Nat → Prop} {G : GG} {S : SM} (cx : CX p s m args c cX2_learntIn RX2 4 G S A) (hlk : meth.locks = false) (hr : meth.sig.returnType = some .int) (N : Nat) (a_t a_t_score a_t_choice a_t_advice a_t_result a_t_learntBy : Nat) (t_size : Int) (t_learns : Int) (t_score : Int → Int) (t_choice : Int → Int) (t_advice : Int → Int) (t_result : Int → Int) (t_learntBy : Int → Int) (x1 : Int) (r : Int) : ∀ n : Nat, PL_X2_learntIn_b4 p l e s m args below meth c A G S a_t a_t_score a_t_choice a_t_advice a_t_result a_t_learntBy t_size t_learns t_score t_choice t_advice t_result t_learntBy x1 r (m_X2_learntIn_b4 N t_size t_learntBy x1 n) := by
  intro n
  induction n with
  | zero => intro y2 y3 h; exact nomatch h
  | succ n ih =>
    intro y2 y3 h H locs ls hw hl
    rw [m_X2_learntIn_b4] at h
    obtain ⟨⟨hx, hb, -, -, -⟩, -⟩ := id cx
    refine lv_iload_n hx hb dX2_learntIn_4 rfl (lv_at hl 3 rfl) ?_
    refine lv_aload_n hx hb dX2_learntIn_5 rfl (lv_at hl 0 rfl) ?_
    refine rf_get hx hb cx hw 0 rfl rfl 5 inX2 (by decide) fl_X2_27 rfl rfl dX2_learntIn_6 ?_
    obtain ⟨g1, h⟩ := gd_some h
    obtain ⟨g2, h⟩ := gd_some h
    refine ri_icmp_ge (tgt := 31) hx hb g1 g2 dX2_learntIn_9 (by decide) (fun c3 => ?_) (fun c3 => ?_)
    · have h := it_pos c3 h
      refine lv_iload_n hx hb dX2_learntIn_31 rfl (lv_at hl 2 rfl) ?_
      obtain rfl := so_inj h
      exact re_i hx hb hlk hr cx hw (Nat.le_of_ble_eq_true rfl) (Nat.le_of_ble_eq_true rfl) dX2_learntIn_32
    · have h := it_neg c3 h
      refine lv_aload_n hx hb dX2_learntIn_12 rfl (lv_at hl 0 rfl) ?_
      refine rf_get hx hb cx hw 0 rfl rfl 4 inX2 (by decide) fl_X2_24 rfl rfl dX2_learntIn_13 ?_
      refine lv_iload_n hx hb dX2_learntIn_16 rfl (lv_at hl 3 rfl) ?_
      obtain ⟨g4, h⟩ := gd_some h
      refine ra_i hx hb cx hw 5 rfl (by decide) g4 dX2_learntIn_17 ?_
      refine lv_iload_n hx hb dX2_learntIn_18 rfl (lv_at hl 1 rfl) ?_
      obtain ⟨g5, h⟩ := gd_some h
      obtain ⟨g6, h⟩ := gd_some h
      refine ri_icmp_ne (tgt := 25) hx hb g5 g6 dX2_learntIn_19 (by decide) (fun c7 => ?_) (fun c7 => ?_)
      · have h := it_pos c7 h
        refine lv_iinc (v := kI (y2 + 1)) (lv' := [(2, .int (kI (y2 + 1))), (0, .ref a_t), (1, .int (kI x1)), (3, .int (kI y3))]) hx hb dX2_learntIn_22 hl (k := 2) rfl (kI_add _ _) (by decide) rfl (fun ls hl => ?_)
        exact w_X2_learntIn_b25 cx hlk hr N a_t a_t_score a_t_choice a_t_advice a_t_result a_t_learntBy t_size t_learns t_score t_choice t_advice t_result t_learntBy x1 r (m_X2_learntIn_b4 N t_size t_learntBy x1 n) ih (y2 + 1) y3 h _ _ _ hw (lv_sub hl [1, 2, 0, 3] rfl)
      · have h := it_neg c7 h
        exact w_X2_learntIn_b25 cx hlk hr N a_t a_t_score a_t_choice a_t_advice a_t_result a_t_learntBy t_size t_learns t_score t_choice t_advice t_result t_learntBy x1 r (m_X2_learntIn_b4 N t_size t_learntBy x1 n) ih y2 y3 h _ _ _ hw (lv_sub hl [0, 1, 2, 3] rfl)
set_option maxHeartbeats 4000000 in
set_option maxRecDepth 100000 in
theorem c_X2_learntIn (l : Launch) (G : GG) (S : SM) (sz : Nat) (N : Nat) (a_t a_t_score a_t_choice a_t_advice a_t_result a_t_learntBy : Nat) (t_size : Int) (t_learns : Int) (t_score : Int → Int) (t_choice : Int → Int) (t_advice : Int → Int) (t_result : Int → Int) (t_learntBy : Int → Int) (x1 : Int) (r : Int) (h : m_X2_learntIn N t_size t_learntBy x1 = some r) : CtI l yX2_learntIn cX2_learntIn 4 .int (rmD 1 0 0) G S sz [.ref a_t, .int (kI x1)] [(a_t, .inr (2, [.ref a_t_score, .ref a_t_choice, .ref a_t_advice, .ref a_t_result, .ref a_t_learntBy, .int (kI t_size), .int (kI t_learns)])), (a_t_score, cAI G 40 t_score), (a_t_choice, cAI G 40 t_choice), (a_t_advice, cAI G 40 t_advice), (a_t_result, cAI G 40 t_result), (a_t_learntBy, cAI G 40 t_learntBy)] r [(a_t, .inr (2, [.ref a_t_score, .ref a_t_choice, .ref a_t_advice, .ref a_t_result, .ref a_t_learntBy, .int (kI t_size), .int (kI t_learns)])), (a_t_score, cAI G 40 t_score), (a_t_choice, cAI G 40 t_choice), (a_t_advice, cAI G 40 t_advice), (a_t_result, cAI G 40 t_result), (a_t_learntBy, cAI G 40 t_learntBy)] := by
  refine met_I (by decide +kernel) (Nat.le_of_ble_eq_true rfl) ?_
  intro p e s m args below meth c A H locs ls cx hw hr hlk hnm hl
  have hl : lv_has ls 4 [(0, .ref a_t), (1, .int (kI x1))] := hl
  rw [m_X2_learntIn] at h
  obtain ⟨⟨hx, hb, -, -, -⟩, -⟩ := id cx
  refine ri_iconst hx hb dX2_learntIn_0 ?_
  refine lv_istore_n (lv' := [(2, .int (kI 0)), (0, .ref a_t), (1, .int (kI x1))]) hx hb dX2_learntIn_1 rfl hl (by decide) rfl (fun ls hl => ?_)
  refine ri_iconst hx hb dX2_learntIn_2 ?_
  refine lv_istore_n (lv' := [(3, .int (kI 0)), (2, .int (kI 0)), (0, .ref a_t), (1, .int (kI x1))]) hx hb dX2_learntIn_3 rfl hl (by decide) rfl (fun ls hl => ?_)
  exact w_X2_learntIn_b4 cx hlk hr N a_t a_t_score a_t_choice a_t_advice a_t_result a_t_learntBy t_size t_learns t_score t_choice t_advice t_result t_learntBy x1 r N 0 0 h _ _ _ hw (lv_sub hl [2, 3, 1, 0] rfl)
set_option maxHeartbeats 4000000 in
set_option maxRecDepth 100000 in
theorem c_X6_move (l : Launch) (G : GG) (S : SM) (sz : Nat) (N : Nat) (a_t a_t_good a_t_bad a_t_open : Nat) (t_least : Int) (t_most : Int) (t_goodCost : Int) (t_badCost : Int) (t_referCost : Int) (t_good : Int → Int) (t_bad : Int → Int) (t_open : Int → Int) (x1 : Int) (x2 : Int) (x3 : Int) (r : (Int → Int) × (Int → Int)) (h : m_X6_move N t_good t_bad x1 x2 x3 = some r) : CtV l yX6_move cX6_move 4 (rmD 1 0 0) G S sz [.ref a_t, .int (kI x1), .int (kI x2), .int (kI x3)] [(a_t, .inr (5, [.ref a_t_good, .ref a_t_bad, .ref a_t_open, .int (kI t_least), .int (kI t_most), .int (kI t_goodCost), .int (kI t_badCost), .int (kI t_referCost)])), (a_t_good, cAI G 1000 t_good), (a_t_bad, cAI G 1000 t_bad), (a_t_open, cAI G 1000 t_open)] [(a_t, .inr (5, [.ref a_t_good, .ref a_t_bad, .ref a_t_open, .int (kI t_least), .int (kI t_most), .int (kI t_goodCost), .int (kI t_badCost), .int (kI t_referCost)])), (a_t_good, cAI G 1000 r.1), (a_t_bad, cAI G 1000 r.2), (a_t_open, cAI G 1000 t_open)] := by
  refine met_V (by decide +kernel) (Nat.le_of_ble_eq_true rfl) ?_
  intro p e s m args below meth c A H locs ls cx hw hr hlk hnm hl
  have hl : lv_has ls 4 [(0, .ref a_t), (1, .int (kI x1)), (2, .int (kI x2)), (3, .int (kI x3))] := hl
  rw [m_X6_move] at h
  obtain ⟨⟨hx, hb, -, -, -⟩, -⟩ := id cx
  refine lv_aload_n hx hb dX6_move_0 rfl (lv_at hl 0 rfl) ?_
  refine rf_get hx hb cx hw 0 rfl rfl 0 inX6 (by decide) fl_X6_9 rfl rfl dX6_move_1 ?_
  refine lv_iload_n hx hb dX6_move_4 rfl (lv_at hl 1 rfl) ?_
  refine lv_dup2_11 hx hb dX6_move_5 rfl rfl ?_
  obtain ⟨g1, h⟩ := gd_some h
  refine ra_i hx hb cx hw 1 rfl (by decide) g1 dX6_move_6 ?_
  refine lv_iload_n hx hb dX6_move_7 rfl (lv_at hl 2 rfl) ?_
  refine ri_iadd hx hb dX6_move_8 ?_
  refine ra_si hx hb cx hw 1 rfl (by decide) g1 dX6_move_9 (fun H locs hw => ?_)
  have hw : HP G A s.heap H locs [(a_t, .inr (5, [.ref a_t_good, .ref a_t_bad, .ref a_t_open, .int (kI t_least), .int (kI t_most), .int (kI t_goodCost), .int (kI t_badCost), .int (kI t_referCost)])), (a_t_good, cAI G 1000 (uP t_good x1 ((t_good x1) + x2))), (a_t_bad, cAI G 1000 t_bad), (a_t_open, cAI G 1000 t_open)] := hw
  refine lv_aload_n hx hb dX6_move_10 rfl (lv_at hl 0 rfl) ?_
  refine rf_get hx hb cx hw 0 rfl rfl 1 inX6 (by decide) fl_X6_15 rfl rfl dX6_move_11 ?_
  refine lv_iload_n hx hb dX6_move_14 rfl (lv_at hl 1 rfl) ?_
  refine lv_dup2_11 hx hb dX6_move_15 rfl rfl ?_
  refine ra_i hx hb cx hw 2 rfl (by decide) g1 dX6_move_16 ?_
  refine lv_iload_n hx hb dX6_move_17 rfl (lv_at hl 3 rfl) ?_
  refine ri_iadd hx hb dX6_move_18 ?_
  refine ra_si hx hb cx hw 2 rfl (by decide) g1 dX6_move_19 (fun H locs hw => ?_)
  have hw : HP G A s.heap H locs [(a_t, .inr (5, [.ref a_t_good, .ref a_t_bad, .ref a_t_open, .int (kI t_least), .int (kI t_most), .int (kI t_goodCost), .int (kI t_badCost), .int (kI t_referCost)])), (a_t_good, cAI G 1000 (uP t_good x1 ((t_good x1) + x2))), (a_t_bad, cAI G 1000 (uP t_bad x1 ((t_bad x1) + x3))), (a_t_open, cAI G 1000 t_open)] := hw
  obtain rfl := so_inj h
  exact re_v hx hb hlk hr cx hw (Nat.le_of_ble_eq_true rfl) (Nat.le_of_ble_eq_true rfl) dX6_move_20
def PL_X2_move_b3 (p : Program) (l : Launch) (e : Env) (s : State) (m : MethodId) (args : Array Value) (below : List Frame) (meth : Method) (c : Code) (A : Nat → Prop) (G : GG) (S : SM) (a_t a_t_score a_t_choice a_t_advice a_t_result a_t_learntBy a_p1 a_p1_good a_p1_bad a_p1_open : Nat) (t_size : Int) (t_learns : Int) (t_score : Int → Int) (t_choice : Int → Int) (t_advice : Int → Int) (t_result : Int → Int) (t_learntBy : Int → Int) (p1_least : Int) (p1_most : Int) (p1_goodCost : Int) (p1_badCost : Int) (p1_referCost : Int) (p1_open : Int → Int) (x2 : Int) (x3 : Int) (r : (Int → Int) × (Int → Int)) (kk : (Int → Int) → (Int → Int) → Int → Option ((Int → Int) × (Int → Int))) : Prop := ∀ (p1_good : Int → Int) (p1_bad : Int → Int) (y4 : Int), kk p1_good p1_bad y4 = some r → ∀ (H : Heap) (locs : List Loc) (ls : Array Slot), HP G A s.heap H locs [(a_t, .inr (2, [.ref a_t_score, .ref a_t_choice, .ref a_t_advice, .ref a_t_result, .ref a_t_learntBy, .int (kI t_size), .int (kI t_learns)])), (a_t_score, cAI G 40 t_score), (a_t_choice, cAI G 40 t_choice), (a_t_advice, cAI G 40 t_advice), (a_t_result, cAI G 40 t_result), (a_t_learntBy, cAI G 40 t_learntBy), (a_p1, .inr (5, [.ref a_p1_good, .ref a_p1_bad, .ref a_p1_open, .int (kI p1_least), .int (kI p1_most), .int (kI p1_goodCost), .int (kI p1_badCost), .int (kI p1_referCost)])), (a_p1_good, cAI G 1000 p1_good), (a_p1_bad, cAI G 1000 p1_bad), (a_p1_open, cAI G 1000 p1_open)] → lv_has ls 5 [(0, .ref a_t), (1, .ref a_p1), (2, .int (kI x2)), (3, .int (kI x3)), (4, .int (kI y4))] → W p l e (rmD 2 0 0) s m args below meth c H locs 0 0 (MQ below (QcV G A [(a_t, .inr (2, [.ref a_t_score, .ref a_t_choice, .ref a_t_advice, .ref a_t_result, .ref a_t_learntBy, .int (kI t_size), .int (kI t_learns)])), (a_t_score, cAI G 40 t_score), (a_t_choice, cAI G 40 t_choice), (a_t_advice, cAI G 40 t_advice), (a_t_result, cAI G 40 t_result), (a_t_learntBy, cAI G 40 t_learntBy), (a_p1, .inr (5, [.ref a_p1_good, .ref a_p1_bad, .ref a_p1_open, .int (kI p1_least), .int (kI p1_most), .int (kI p1_goodCost), .int (kI p1_badCost), .int (kI p1_referCost)])), (a_p1_good, cAI G 1000 r.1), (a_p1_bad, cAI G 1000 r.2), (a_p1_open, cAI G 1000 p1_open)]) args s (rmD 2 0 0).cells (rmD 2 0 0).slots A) (F0 m 3 ls [])
set_option maxHeartbeats 4000000 in
set_option maxRecDepth 100000 in
theorem w_X2_move_b65 {p : Program} {l : Launch} {e : Env} {s : State} {m : MethodId} {args : Array Value} {below : List Frame} {meth : Method} {c : Code} {A : Nat → Prop} {G : GG} {S : SM} (cx : CX p s m args c cX2_move RX2 5 G S A) (hlk : meth.locks = false) (hr : meth.sig.returnType = none) (N : Nat) (a_t a_t_score a_t_choice a_t_advice a_t_result a_t_learntBy a_p1 a_p1_good a_p1_bad a_p1_open : Nat) (t_size : Int) (t_learns : Int) (t_score : Int → Int) (t_choice : Int → Int) (t_advice : Int → Int) (t_result : Int → Int) (t_learntBy : Int → Int) (p1_least : Int) (p1_most : Int) (p1_goodCost : Int) (p1_badCost : Int) (p1_referCost : Int) (p1_open : Int → Int) (x2 : Int) (x3 : Int) (r : (Int → Int) × (Int → Int)) (k3 : (Int → Int) → (Int → Int) → Int → Option ((Int → Int) × (Int → Int))) (hk3 : PL_X2_move_b3 p l e s m args below meth c A G S a_t a_t_score a_t_choice a_t_advice a_t_result a_t_learntBy a_p1 a_p1_good a_p1_bad a_p1_open t_size t_learns t_score t_choice t_advice t_result t_learntBy p1_least p1_most p1_goodCost p1_badCost p1_referCost p1_open x2 x3 r k3) : ∀ (p1_good : Int → Int) (p1_bad : Int → Int) (y4 : Int), m_X2_move_b65 N t_size t_score t_result t_learntBy x2 x3 k3 p1_good p1_bad y4 = some r → ∀ (H : Heap) (locs : List Loc) (ls : Array Slot), HP G A s.heap H locs [(a_t, .inr (2, [.ref a_t_score, .ref a_t_choice, .ref a_t_advice, .ref a_t_result, .ref a_t_learntBy, .int (kI t_size), .int (kI t_learns)])), (a_t_score, cAI G 40 t_score), (a_t_choice, cAI G 40 t_choice), (a_t_advice, cAI G 40 t_advice), (a_t_result, cAI G 40 t_result), (a_t_learntBy, cAI G 40 t_learntBy), (a_p1, .inr (5, [.ref a_p1_good, .ref a_p1_bad, .ref a_p1_open, .int (kI p1_least), .int (kI p1_most), .int (kI p1_goodCost), .int (kI p1_badCost), .int (kI p1_referCost)])), (a_p1_good, cAI G 1000 p1_good), (a_p1_bad, cAI G 1000 p1_bad), (a_p1_open, cAI G 1000 p1_open)] → lv_has ls 5 [(0, .ref a_t), (1, .ref a_p1), (2, .int (kI x2)), (3, .int (kI x3)), (4, .int (kI y4))] → W p l e (rmD 2 0 0) s m args below meth c H locs 0 0 (MQ below (QcV G A [(a_t, .inr (2, [.ref a_t_score, .ref a_t_choice, .ref a_t_advice, .ref a_t_result, .ref a_t_learntBy, .int (kI t_size), .int (kI t_learns)])), (a_t_score, cAI G 40 t_score), (a_t_choice, cAI G 40 t_choice), (a_t_advice, cAI G 40 t_advice), (a_t_result, cAI G 40 t_result), (a_t_learntBy, cAI G 40 t_learntBy), (a_p1, .inr (5, [.ref a_p1_good, .ref a_p1_bad, .ref a_p1_open, .int (kI p1_least), .int (kI p1_most), .int (kI p1_goodCost), .int (kI p1_badCost), .int (kI p1_referCost)])), (a_p1_good, cAI G 1000 r.1), (a_p1_bad, cAI G 1000 r.2), (a_p1_open, cAI G 1000 p1_open)]) args s (rmD 2 0 0).cells (rmD 2 0 0).slots A) (F0 m 65 ls []) := by
  intro p1_good p1_bad y4 h H locs ls hw hl
  rw [m_X2_move_b65] at h
  obtain ⟨⟨hx, hb, -, -, -⟩, -⟩ := id cx
  refine lv_iinc (v := kI (y4 + 1)) (lv' := [(4, .int (kI (y4 + 1))), (0, .ref a_t), (1, .ref a_p1), (2, .int (kI x2)), (3, .int (kI x3))]) hx hb dX2_move_65 hl (k := 4) rfl (kI_add _ _) (by decide) rfl (fun ls hl => ?_)
  refine lv_goto (tgt := 3) hx hb dX2_move_68 (by decide) ?_
  exact hk3 p1_good p1_bad (y4 + 1) h _ _ _ hw (lv_sub hl [1, 2, 3, 4, 0] rfl)
set_option maxHeartbeats 4000000 in
set_option maxRecDepth 100000 in
theorem w_X2_move_b62 {p : Program} {l : Launch} {e : Env} {s : State} {m : MethodId} {args : Array Value} {below : List Frame} {meth : Method} {c : Code} {A : Nat → Prop} {G : GG} {S : SM} (cx : CX p s m args c cX2_move RX2 5 G S A) (hlk : meth.locks = false) (hr : meth.sig.returnType = none) (N : Nat) (a_t a_t_score a_t_choice a_t_advice a_t_result a_t_learntBy a_p1 a_p1_good a_p1_bad a_p1_open : Nat) (t_size : Int) (t_learns : Int) (t_score : Int → Int) (t_choice : Int → Int) (t_advice : Int → Int) (t_result : Int → Int) (t_learntBy : Int → Int) (p1_least : Int) (p1_most : Int) (p1_goodCost : Int) (p1_badCost : Int) (p1_referCost : Int) (p1_open : Int → Int) (x2 : Int) (x3 : Int) (r : (Int → Int) × (Int → Int)) (k3 : (Int → Int) → (Int → Int) → Int → Option ((Int → Int) × (Int → Int))) (hk3 : PL_X2_move_b3 p l e s m args below meth c A G S a_t a_t_score a_t_choice a_t_advice a_t_result a_t_learntBy a_p1 a_p1_good a_p1_bad a_p1_open t_size t_learns t_score t_choice t_advice t_result t_learntBy p1_least p1_most p1_goodCost p1_badCost p1_referCost p1_open x2 x3 r k3) : ∀ (p1_good : Int → Int) (p1_bad : Int → Int) (y4 : Int) (s1 : Int) (s2 : Int) (s3 : Int), m_X2_move_b62 N t_size t_score t_result t_learntBy x2 x3 k3 p1_good p1_bad y4 s1 s2 s3 = some r → ∀ (H : Heap) (locs : List Loc) (ls : Array Slot), HP G A s.heap H locs [(a_t, .inr (2, [.ref a_t_score, .ref a_t_choice, .ref a_t_advice, .ref a_t_result, .ref a_t_learntBy, .int (kI t_size), .int (kI t_learns)])), (a_t_score, cAI G 40 t_score), (a_t_choice, cAI G 40 t_choice), (a_t_advice, cAI G 40 t_advice), (a_t_result, cAI G 40 t_result), (a_t_learntBy, cAI G 40 t_learntBy), (a_p1, .inr (5, [.ref a_p1_good, .ref a_p1_bad, .ref a_p1_open, .int (kI p1_least), .int (kI p1_most), .int (kI p1_goodCost), .int (kI p1_badCost), .int (kI p1_referCost)])), (a_p1_good, cAI G 1000 p1_good), (a_p1_bad, cAI G 1000 p1_bad), (a_p1_open, cAI G 1000 p1_open)] → lv_has ls 5 [(0, .ref a_t), (1, .ref a_p1), (2, .int (kI x2)), (3, .int (kI x3)), (4, .int (kI y4))] → W p l e (rmD 2 0 0) s m args below meth c H locs 0 0 (MQ below (QcV G A [(a_t, .inr (2, [.ref a_t_score, .ref a_t_choice, .ref a_t_advice, .ref a_t_result, .ref a_t_learntBy, .int (kI t_size), .int (kI t_learns)])), (a_t_score, cAI G 40 t_score), (a_t_choice, cAI G 40 t_choice), (a_t_advice, cAI G 40 t_advice), (a_t_result, cAI G 40 t_result), (a_t_learntBy, cAI G 40 t_learntBy), (a_p1, .inr (5, [.ref a_p1_good, .ref a_p1_bad, .ref a_p1_open, .int (kI p1_least), .int (kI p1_most), .int (kI p1_goodCost), .int (kI p1_badCost), .int (kI p1_referCost)])), (a_p1_good, cAI G 1000 r.1), (a_p1_bad, cAI G 1000 r.2), (a_p1_open, cAI G 1000 p1_open)]) args s (rmD 2 0 0).cells (rmD 2 0 0).slots A) (F0 m 62 ls [.int (kI s3), .int (kI s2), .int (kI s1), .ref a_p1]) := by
  intro p1_good p1_bad y4 s1 s2 s3 h H locs ls hw hl
  rw [m_X2_move_b62] at h
  obtain ⟨⟨hx, hb, -, -, -⟩, -⟩ := id cx
  obtain ⟨r1, h1, h⟩ := bd_some h
  refine rc_V (w2 := [(a_t, .inr (2, [.ref a_t_score, .ref a_t_choice, .ref a_t_advice, .ref a_t_result, .ref a_t_learntBy, .int (kI t_size), .int (kI t_learns)])), (a_t_score, cAI G 40 t_score), (a_t_choice, cAI G 40 t_choice), (a_t_advice, cAI G 40 t_advice), (a_t_result, cAI G 40 t_result), (a_t_learntBy, cAI G 40 t_learntBy), (a_p1, .inr (5, [.ref a_p1_good, .ref a_p1_bad, .ref a_p1_open, .int (kI p1_least), .int (kI p1_most), .int (kI p1_goodCost), .int (kI p1_badCost), .int (kI p1_referCost)])), (a_p1_good, cAI G 1000 r1.1), (a_p1_bad, cAI G 1000 r1.2), (a_p1_open, cAI G 1000 p1_open)]) hw [6, 7, 8, 9] [0, 1, 2, 3, 4, 5] [0, 1, 2, 3, 4, 5, 6, 7, 8, 9] (rr_V cx hw (c_X6_move l G S H.size N a_p1 a_p1_good a_p1_bad a_p1_open p1_least p1_most p1_goodCost p1_badCost p1_referCost p1_good p1_bad p1_open s1 s2 s3 _ h1) mv_X2_45 [6, 7, 8, 9] rfl rfl rfl 6 rfl rfl ⟨Nat.le_of_ble_eq_true rfl, Nat.le_of_ble_eq_true rfl⟩ rfl hl.1 rfl (Nat.le_of_ble_eq_true rfl) dX2_move_62 ⟨Nat.le_of_ble_eq_true rfl, Nat.le_of_ble_eq_true rfl⟩) rfl rfl rfl rfl rfl rfl rfl rfl (fun H locs hw => ?_)
  exact w_X2_move_b65 cx hlk hr N a_t a_t_score a_t_choice a_t_advice a_t_result a_t_learntBy a_p1 a_p1_good a_p1_bad a_p1_open t_size t_learns t_score t_choice t_advice t_result t_learntBy p1_least p1_most p1_goodCost p1_badCost p1_referCost p1_open x2 x3 r k3 hk3 r1.1 r1.2 y4 h _ _ _ hw (lv_sub hl [0, 1, 2, 3, 4] rfl)
set_option maxHeartbeats 4000000 in
set_option maxRecDepth 100000 in
theorem w_X2_move_b46 {p : Program} {l : Launch} {e : Env} {s : State} {m : MethodId} {args : Array Value} {below : List Frame} {meth : Method} {c : Code} {A : Nat → Prop} {G : GG} {S : SM} (cx : CX p s m args c cX2_move RX2 5 G S A) (hlk : meth.locks = false) (hr : meth.sig.returnType = none) (N : Nat) (a_t a_t_score a_t_choice a_t_advice a_t_result a_t_learntBy a_p1 a_p1_good a_p1_bad a_p1_open : Nat) (t_size : Int) (t_learns : Int) (t_score : Int → Int) (t_choice : Int → Int) (t_advice : Int → Int) (t_result : Int → Int) (t_learntBy : Int → Int) (p1_least : Int) (p1_most : Int) (p1_goodCost : Int) (p1_badCost : Int) (p1_referCost : Int) (p1_open : Int → Int) (x2 : Int) (x3 : Int) (r : (Int → Int) × (Int → Int)) (k3 : (Int → Int) → (Int → Int) → Int → Option ((Int → Int) × (Int → Int))) (hk3 : PL_X2_move_b3 p l e s m args below meth c A G S a_t a_t_score a_t_choice a_t_advice a_t_result a_t_learntBy a_p1 a_p1_good a_p1_bad a_p1_open t_size t_learns t_score t_choice t_advice t_result t_learntBy p1_least p1_most p1_goodCost p1_badCost p1_referCost p1_open x2 x3 r k3) : ∀ (p1_good : Int → Int) (p1_bad : Int → Int) (y4 : Int) (s1 : Int) (s2 : Int), m_X2_move_b46 N t_size t_score t_result t_learntBy x2 x3 k3 p1_good p1_bad y4 s1 s2 = some r → ∀ (H : Heap) (locs : List Loc) (ls : Array Slot), HP G A s.heap H locs [(a_t, .inr (2, [.ref a_t_score, .ref a_t_choice, .ref a_t_advice, .ref a_t_result, .ref a_t_learntBy, .int (kI t_size), .int (kI t_learns)])), (a_t_score, cAI G 40 t_score), (a_t_choice, cAI G 40 t_choice), (a_t_advice, cAI G 40 t_advice), (a_t_result, cAI G 40 t_result), (a_t_learntBy, cAI G 40 t_learntBy), (a_p1, .inr (5, [.ref a_p1_good, .ref a_p1_bad, .ref a_p1_open, .int (kI p1_least), .int (kI p1_most), .int (kI p1_goodCost), .int (kI p1_badCost), .int (kI p1_referCost)])), (a_p1_good, cAI G 1000 p1_good), (a_p1_bad, cAI G 1000 p1_bad), (a_p1_open, cAI G 1000 p1_open)] → lv_has ls 5 [(0, .ref a_t), (1, .ref a_p1), (2, .int (kI x2)), (3, .int (kI x3)), (4, .int (kI y4))] → W p l e (rmD 2 0 0) s m args below meth c H locs 0 0 (MQ below (QcV G A [(a_t, .inr (2, [.ref a_t_score, .ref a_t_choice, .ref a_t_advice, .ref a_t_result, .ref a_t_learntBy, .int (kI t_size), .int (kI t_learns)])), (a_t_score, cAI G 40 t_score), (a_t_choice, cAI G 40 t_choice), (a_t_advice, cAI G 40 t_advice), (a_t_result, cAI G 40 t_result), (a_t_learntBy, cAI G 40 t_learntBy), (a_p1, .inr (5, [.ref a_p1_good, .ref a_p1_bad, .ref a_p1_open, .int (kI p1_least), .int (kI p1_most), .int (kI p1_goodCost), .int (kI p1_badCost), .int (kI p1_referCost)])), (a_p1_good, cAI G 1000 r.1), (a_p1_bad, cAI G 1000 r.2), (a_p1_open, cAI G 1000 p1_open)]) args s (rmD 2 0 0).cells (rmD 2 0 0).slots A) (F0 m 46 ls [.int (kI s2), .int (kI s1), .ref a_p1]) := by
  intro p1_good p1_bad y4 s1 s2 h H locs ls hw hl
  rw [m_X2_move_b46] at h
  obtain ⟨⟨hx, hb, -, -, -⟩, -⟩ := id cx
  refine lv_aload_n hx hb dX2_move_46 rfl (lv_at hl 0 rfl) ?_
  refine rf_get hx hb cx hw 0 rfl rfl 3 inX2 (by decide) fl_X2_21 rfl rfl dX2_move_47 ?_
  refine lv_iload hx hb dX2_move_50 (lv_at hl 4 rfl) ?_
  obtain ⟨g1, h⟩ := gd_some h
  refine ra_i hx hb cx hw 4 rfl (by decide) g1 dX2_move_52 ?_
  refine ri_iconst hx hb dX2_move_53 ?_
  obtain ⟨g2, h⟩ := gd_some h
  refine ri_icmp_ne (tgt := 61) hx hb g2 ⟨by decide, by decide⟩ dX2_move_54 (by decide) (fun c3 => ?_) (fun c3 => ?_)
  · have h := it_pos c3 h
    refine lv_iload_n hx hb dX2_move_57 rfl (lv_at hl 3 rfl) ?_
    refine lv_goto (tgt := 62) hx hb dX2_move_58 (by decide) ?_
    exact w_X2_move_b62 cx hlk hr N a_t a_t_score a_t_choice a_t_advice a_t_result a_t_learntBy a_p1 a_p1_good a_p1_bad a_p1_open t_size t_learns t_score t_choice t_advice t_result t_learntBy p1_least p1_most p1_goodCost p1_badCost p1_referCost p1_open x2 x3 r k3 hk3 p1_good p1_bad y4 s1 s2 x3 h _ _ _ hw (lv_sub hl [0, 1, 2, 3, 4] rfl)
  · have h := it_neg c3 h
    refine ri_iconst hx hb dX2_move_61 ?_
    exact w_X2_move_b62 cx hlk hr N a_t a_t_score a_t_choice a_t_advice a_t_result a_t_learntBy a_p1 a_p1_good a_p1_bad a_p1_open t_size t_learns t_score t_choice t_advice t_result t_learntBy p1_least p1_most p1_goodCost p1_badCost p1_referCost p1_open x2 x3 r k3 hk3 p1_good p1_bad y4 s1 s2 0 h _ _ _ hw (lv_sub hl [0, 1, 2, 3, 4] rfl)
set_option maxHeartbeats 4000000 in
set_option maxRecDepth 100000 in
theorem w_X2_move_b3 {p : Program} {l : Launch} {e : Env} {s : State} {m : MethodId} {args : Array Value} {below : List Frame} {meth : Method} {c : Code} {A : Nat → Prop} {G : GG} {S : SM} (cx : CX p s m args c cX2_move RX2 5 G S A) (hlk : meth.locks = false) (hr : meth.sig.returnType = none) (N : Nat) (a_t a_t_score a_t_choice a_t_advice a_t_result a_t_learntBy a_p1 a_p1_good a_p1_bad a_p1_open : Nat) (t_size : Int) (t_learns : Int) (t_score : Int → Int) (t_choice : Int → Int) (t_advice : Int → Int) (t_result : Int → Int) (t_learntBy : Int → Int) (p1_least : Int) (p1_most : Int) (p1_goodCost : Int) (p1_badCost : Int) (p1_referCost : Int) (p1_open : Int → Int) (x2 : Int) (x3 : Int) (r : (Int → Int) × (Int → Int)) : ∀ n : Nat, PL_X2_move_b3 p l e s m args below meth c A G S a_t a_t_score a_t_choice a_t_advice a_t_result a_t_learntBy a_p1 a_p1_good a_p1_bad a_p1_open t_size t_learns t_score t_choice t_advice t_result t_learntBy p1_least p1_most p1_goodCost p1_badCost p1_referCost p1_open x2 x3 r (m_X2_move_b3 N t_size t_score t_result t_learntBy x2 x3 n) := by
  intro n
  induction n with
  | zero => intro p1_good p1_bad y4 h; exact nomatch h
  | succ n ih =>
    intro p1_good p1_bad y4 h H locs ls hw hl
    rw [m_X2_move_b3] at h
    obtain ⟨⟨hx, hb, -, -, -⟩, -⟩ := id cx
    refine lv_iload hx hb dX2_move_3 (lv_at hl 4 rfl) ?_
    refine lv_aload_n hx hb dX2_move_5 rfl (lv_at hl 0 rfl) ?_
    refine rf_get hx hb cx hw 0 rfl rfl 5 inX2 (by decide) fl_X2_27 rfl rfl dX2_move_6 ?_
    obtain ⟨g1, h⟩ := gd_some h
    obtain ⟨g2, h⟩ := gd_some h
    refine ri_icmp_ge (tgt := 71) hx hb g1 g2 dX2_move_9 (by decide) (fun c3 => ?_) (fun c3 => ?_)
    · have h := it_pos c3 h
      obtain rfl := so_inj h
      exact re_v hx hb hlk hr cx hw (Nat.le_of_ble_eq_true rfl) (Nat.le_of_ble_eq_true rfl) dX2_move_71
    · have h := it_neg c3 h
      refine lv_aload_n hx hb dX2_move_12 rfl (lv_at hl 0 rfl) ?_
      refine rf_get hx hb cx hw 0 rfl rfl 4 inX2 (by decide) fl_X2_24 rfl rfl dX2_move_13 ?_
      refine lv_iload hx hb dX2_move_16 (lv_at hl 4 rfl) ?_
      obtain ⟨g4, h⟩ := gd_some h
      refine ra_i hx hb cx hw 5 rfl (by decide) g4 dX2_move_18 ?_
      refine lv_iload_n hx hb dX2_move_19 rfl (lv_at hl 2 rfl) ?_
      obtain ⟨g5, h⟩ := gd_some h
      obtain ⟨g6, h⟩ := gd_some h
      refine ri_icmp_ne (tgt := 65) hx hb g5 g6 dX2_move_20 (by decide) (fun c7 => ?_) (fun c7 => ?_)
      · have h := it_pos c7 h
        refine lv_aload_n hx hb dX2_move_23 rfl (lv_at hl 1 rfl) ?_
        refine lv_aload_n hx hb dX2_move_24 rfl (lv_at hl 0 rfl) ?_
        refine rf_get hx hb cx hw 0 rfl rfl 0 inX2 (by decide) fl_X2_11 rfl rfl dX2_move_25 ?_
        refine lv_iload hx hb dX2_move_28 (lv_at hl 4 rfl) ?_
        refine ra_i hx hb cx hw 1 rfl (by decide) g4 dX2_move_30 ?_
        refine lv_aload_n hx hb dX2_move_31 rfl (lv_at hl 0 rfl) ?_
        refine rf_get hx hb cx hw 0 rfl rfl 3 inX2 (by decide) fl_X2_21 rfl rfl dX2_move_32 ?_
        refine lv_iload hx hb dX2_move_35 (lv_at hl 4 rfl) ?_
        refine ra_i hx hb cx hw 4 rfl (by decide) g4 dX2_move_37 ?_
        obtain ⟨g8, h⟩ := gd_some h
        refine ri_if_ne (tgt := 45) hx hb g8 dX2_move_38 (by decide) (fun c9 => ?_) (fun c9 => ?_)
        · have h := it_pos c9 h
          refine lv_iload_n hx hb dX2_move_41 rfl (lv_at hl 3 rfl) ?_
          refine lv_goto (tgt := 46) hx hb dX2_move_42 (by decide) ?_
          exact w_X2_move_b46 cx hlk hr N a_t a_t_score a_t_choice a_t_advice a_t_result a_t_learntBy a_p1 a_p1_good a_p1_bad a_p1_open t_size t_learns t_score t_choice t_advice t_result t_learntBy p1_least p1_most p1_goodCost p1_badCost p1_referCost p1_open x2 x3 r (m_X2_move_b3 N t_size t_score t_result t_learntBy x2 x3 n) ih p1_good p1_bad y4 (t_score y4) x3 h _ _ _ hw (lv_sub hl [0, 1, 2, 3, 4] rfl)
        · have h := it_neg c9 h
          refine ri_iconst hx hb dX2_move_45 ?_
          exact w_X2_move_b46 cx hlk hr N a_t a_t_score a_t_choice a_t_advice a_t_result a_t_learntBy a_p1 a_p1_good a_p1_bad a_p1_open t_size t_learns t_score t_choice t_advice t_result t_learntBy p1_least p1_most p1_goodCost p1_badCost p1_referCost p1_open x2 x3 r (m_X2_move_b3 N t_size t_score t_result t_learntBy x2 x3 n) ih p1_good p1_bad y4 (t_score y4) 0 h _ _ _ hw (lv_sub hl [0, 1, 2, 3, 4] rfl)
      · have h := it_neg c7 h
        exact w_X2_move_b65 cx hlk hr N a_t a_t_score a_t_choice a_t_advice a_t_result a_t_learntBy a_p1 a_p1_good a_p1_bad a_p1_open t_size t_learns t_score t_choice t_advice t_result t_learntBy p1_least p1_most p1_goodCost p1_badCost p1_referCost p1_open x2 x3 r (m_X2_move_b3 N t_size t_score t_result t_learntBy x2 x3 n) ih p1_good p1_bad y4 h _ _ _ hw (lv_sub hl [0, 1, 2, 3, 4] rfl)
set_option maxHeartbeats 4000000 in
set_option maxRecDepth 100000 in
theorem c_X2_move (l : Launch) (G : GG) (S : SM) (sz : Nat) (N : Nat) (a_t a_t_score a_t_choice a_t_advice a_t_result a_t_learntBy a_p1 a_p1_good a_p1_bad a_p1_open : Nat) (t_size : Int) (t_learns : Int) (t_score : Int → Int) (t_choice : Int → Int) (t_advice : Int → Int) (t_result : Int → Int) (t_learntBy : Int → Int) (p1_least : Int) (p1_most : Int) (p1_goodCost : Int) (p1_badCost : Int) (p1_referCost : Int) (p1_good : Int → Int) (p1_bad : Int → Int) (p1_open : Int → Int) (x2 : Int) (x3 : Int) (r : (Int → Int) × (Int → Int)) (h : m_X2_move N t_size t_score t_result t_learntBy p1_good p1_bad x2 x3 = some r) : CtV l yX2_move cX2_move 5 (rmD 2 0 0) G S sz [.ref a_t, .ref a_p1, .int (kI x2), .int (kI x3)] [(a_t, .inr (2, [.ref a_t_score, .ref a_t_choice, .ref a_t_advice, .ref a_t_result, .ref a_t_learntBy, .int (kI t_size), .int (kI t_learns)])), (a_t_score, cAI G 40 t_score), (a_t_choice, cAI G 40 t_choice), (a_t_advice, cAI G 40 t_advice), (a_t_result, cAI G 40 t_result), (a_t_learntBy, cAI G 40 t_learntBy), (a_p1, .inr (5, [.ref a_p1_good, .ref a_p1_bad, .ref a_p1_open, .int (kI p1_least), .int (kI p1_most), .int (kI p1_goodCost), .int (kI p1_badCost), .int (kI p1_referCost)])), (a_p1_good, cAI G 1000 p1_good), (a_p1_bad, cAI G 1000 p1_bad), (a_p1_open, cAI G 1000 p1_open)] [(a_t, .inr (2, [.ref a_t_score, .ref a_t_choice, .ref a_t_advice, .ref a_t_result, .ref a_t_learntBy, .int (kI t_size), .int (kI t_learns)])), (a_t_score, cAI G 40 t_score), (a_t_choice, cAI G 40 t_choice), (a_t_advice, cAI G 40 t_advice), (a_t_result, cAI G 40 t_result), (a_t_learntBy, cAI G 40 t_learntBy), (a_p1, .inr (5, [.ref a_p1_good, .ref a_p1_bad, .ref a_p1_open, .int (kI p1_least), .int (kI p1_most), .int (kI p1_goodCost), .int (kI p1_badCost), .int (kI p1_referCost)])), (a_p1_good, cAI G 1000 r.1), (a_p1_bad, cAI G 1000 r.2), (a_p1_open, cAI G 1000 p1_open)] := by
  refine met_V (by decide +kernel) (Nat.le_of_ble_eq_true rfl) ?_
  intro p e s m args below meth c A H locs ls cx hw hr hlk hnm hl
  have hl : lv_has ls 5 [(0, .ref a_t), (1, .ref a_p1), (2, .int (kI x2)), (3, .int (kI x3))] := hl
  rw [m_X2_move] at h
  obtain ⟨⟨hx, hb, -, -, -⟩, -⟩ := id cx
  refine ri_iconst hx hb dX2_move_0 ?_
  refine lv_istore (lv' := [(4, .int (kI 0)), (0, .ref a_t), (1, .ref a_p1), (2, .int (kI x2)), (3, .int (kI x3))]) hx hb dX2_move_1 hl (by decide) rfl (fun ls hl => ?_)
  exact w_X2_move_b3 cx hlk hr N a_t a_t_score a_t_choice a_t_advice a_t_result a_t_learntBy a_p1 a_p1_good a_p1_bad a_p1_open t_size t_learns t_score t_choice t_advice t_result t_learntBy p1_least p1_most p1_goodCost p1_badCost p1_referCost p1_open x2 x3 r N p1_good p1_bad 0 h _ _ _ hw (lv_sub hl [1, 2, 3, 4, 0] rfl)
set_option maxHeartbeats 4000000 in
set_option maxRecDepth 100000 in
theorem c_X3_init (l : Launch) (G : GG) (S : SM) (sz : Nat) (N : Nat) (a_t : Nat)   (r : Int × (Int → Int) × (Int → Int) × (Int → Int)) (h : m_X3_init N = some r) : CtVx l yX3_init cX3_init 1 (rmD 1 3 180) G S sz [.ref a_t] [(a_t, .inr (3, [.null, .null, .null, .int (kI 0)]))] (fun u => [(a_t, .inr (3, [.ref (u 0), .ref (u 1), .ref (u 2), .int (kI r.1)])), ((u 0), cAI G 60 r.2.1), ((u 1), cAI G 60 r.2.2.1), ((u 2), cAI G 60 r.2.2.2)]) := by
  refine met_Vx (by decide +kernel) (Nat.le_of_ble_eq_true rfl) ?_
  intro p e s m args below meth c A H locs ls cx hw hr hlk hnm hl
  have hl : lv_has ls 1 [(0, .ref a_t)] := hl
  rw [m_X3_init] at h
  obtain ⟨⟨hx, hb, -, -, -⟩, -⟩ := id cx
  refine lv_aload_n hx hb dX3_init_0 rfl (lv_at hl 0 rfl) ?_
  refine ro_init hx hb cx hl.1 jl_X3_3 (Nat.le_of_ble_eq_true rfl) (Nat.le_of_ble_eq_true rfl) dX3_init_1 ?_
  refine lv_aload_n hx hb dX3_init_4 rfl (lv_at hl 0 rfl) ?_
  refine ri_bipush hx hb dX3_init_5 rfl ?_
  refine ra_newI hx hb cx hw ⟨by decide, by decide⟩ (Nat.le_of_ble_eq_true rfl) (Nat.le_of_ble_eq_true rfl) dX3_init_7 (fun q7 H hw => ?_)
  have hw : HP G A s.heap H locs [(a_t, .inr (3, [.null, .null, .null, .int (kI 0)])), (q7, cAI G 60 (fun _ => 0))] := hw
  refine W.widen (k := 1) (n := 60) (Nat.le_of_ble_eq_true rfl) (Nat.le_of_ble_eq_true rfl) ?_
  refine rf_putF hx hb cx hw 0 rfl rfl 0 inX3 tyX3 tyX3_ok nmX3 (by decide) fl_X3_9 rfl rfl hnm rfl rfl (Nat.le_of_ble_eq_true rfl) dX3_init_9 (fun H locs hw => ?_)
  have hw : HP G A s.heap H locs [(a_t, .inr (3, [.ref q7, .null, .null, .int (kI 0)])), (q7, cAI G 60 (fun _ => 0))] := hw
  refine lv_aload_n hx hb dX3_init_12 rfl (lv_at hl 0 rfl) ?_
  refine ri_bipush hx hb dX3_init_13 rfl ?_
  refine ra_newI hx hb cx hw ⟨by decide, by decide⟩ (Nat.le_of_ble_eq_true rfl) (Nat.le_of_ble_eq_true rfl) dX3_init_15 (fun q15 H hw => ?_)
  have hw : HP G A s.heap H locs [(a_t, .inr (3, [.ref q7, .null, .null, .int (kI 0)])), (q7, cAI G 60 (fun _ => 0)), (q15, cAI G 60 (fun _ => 0))] := hw
  refine W.widen (k := 2) (n := 120) (Nat.le_of_ble_eq_true rfl) (Nat.le_of_ble_eq_true rfl) ?_
  refine rf_putF hx hb cx hw 0 rfl rfl 1 inX3 tyX3 tyX3_ok nmX3 (by decide) fl_X3_15 rfl rfl hnm rfl rfl (Nat.le_of_ble_eq_true rfl) dX3_init_17 (fun H locs hw => ?_)
  have hw : HP G A s.heap H locs [(a_t, .inr (3, [.ref q7, .ref q15, .null, .int (kI 0)])), (q7, cAI G 60 (fun _ => 0)), (q15, cAI G 60 (fun _ => 0))] := hw
  refine lv_aload_n hx hb dX3_init_20 rfl (lv_at hl 0 rfl) ?_
  refine ri_bipush hx hb dX3_init_21 rfl ?_
  refine ra_newI hx hb cx hw ⟨by decide, by decide⟩ (Nat.le_of_ble_eq_true rfl) (Nat.le_of_ble_eq_true rfl) dX3_init_23 (fun q23 H hw => ?_)
  have hw : HP G A s.heap H locs [(a_t, .inr (3, [.ref q7, .ref q15, .null, .int (kI 0)])), (q7, cAI G 60 (fun _ => 0)), (q15, cAI G 60 (fun _ => 0)), (q23, cAI G 60 (fun _ => 0))] := hw
  refine W.widen (k := 3) (n := 180) (Nat.le_of_ble_eq_true rfl) (Nat.le_of_ble_eq_true rfl) ?_
  refine rf_putF hx hb cx hw 0 rfl rfl 2 inX3 tyX3 tyX3_ok nmX3 (by decide) fl_X3_18 rfl rfl hnm rfl rfl (Nat.le_of_ble_eq_true rfl) dX3_init_25 (fun H locs hw => ?_)
  have hw : HP G A s.heap H locs [(a_t, .inr (3, [.ref q7, .ref q15, .ref q23, .int (kI 0)])), (q7, cAI G 60 (fun _ => 0)), (q15, cAI G 60 (fun _ => 0)), (q23, cAI G 60 (fun _ => 0))] := hw
  obtain rfl := so_inj h
  exact re_vx (fun i => [q7, q15, q23].getD i 0) hx hb hlk hr cx (HP.re hw [0, 1, 2, 3] rfl rfl rfl) (Nat.le_of_ble_eq_true rfl) (Nat.le_of_ble_eq_true rfl) dX3_init_28
def PL_X4_place_b16 (p : Program) (l : Launch) (e : Env) (s : State) (m : MethodId) (args : Array Value) (below : List Frame) (meth : Method) (c : Code) (A : Nat → Prop) (G : GG) (S : SM) (a_t a_t_least a_t_greatest a_t_good a_t_bad a_t_rowsIn : Nat) (t_size : Int) (t_least : Int → Int) (t_greatest : Int → Int) (t_good : Int → Int) (t_bad : Int → Int) (t_rowsIn : Int → Int) (x1 : Int) (r : Int) (kk : Int → Option (Int)) : Prop := ∀ (y2 : Int), kk y2 = some r → ∀ (H : Heap) (locs : List Loc) (ls : Array Slot), HP G A s.heap H locs [(a_t, .inr (4, [.ref a_t_least, .ref a_t_greatest, .ref a_t_good, .ref a_t_bad, .ref a_t_rowsIn, .int (kI t_size)])), (a_t_least, cAI G 60 t_least), (a_t_greatest, cAI G 60 t_greatest), (a_t_good, cAI G 60 t_good), (a_t_bad, cAI G 60 t_bad), (a_t_rowsIn, cAI G 60 t_rowsIn)] → lv_has ls 3 [(0, .ref a_t), (1, .int (kI x1)), (2, .int (kI y2))] → W p l e (rmD 1 0 0) s m args below meth c H locs 0 0 (MQ below (QcI G A r [(a_t, .inr (4, [.ref a_t_least, .ref a_t_greatest, .ref a_t_good, .ref a_t_bad, .ref a_t_rowsIn, .int (kI t_size)])), (a_t_least, cAI G 60 t_least), (a_t_greatest, cAI G 60 t_greatest), (a_t_good, cAI G 60 t_good), (a_t_bad, cAI G 60 t_bad), (a_t_rowsIn, cAI G 60 t_rowsIn)]) args s (rmD 1 0 0).cells (rmD 1 0 0).slots A) (F0 m 16 ls [])
set_option maxHeartbeats 4000000 in
set_option maxRecDepth 100000 in
theorem w_X4_place_b16 {p : Program} {l : Launch} {e : Env} {s : State} {m : MethodId} {args : Array Value} {below : List Frame} {meth : Method} {c : Code} {A : Nat → Prop} {G : GG} {S : SM} (cx : CX p s m args c cX4_place RX4 3 G S A) (hlk : meth.locks = false) (hr : meth.sig.returnType = some .int) (N : Nat) (a_t a_t_least a_t_greatest a_t_good a_t_bad a_t_rowsIn : Nat) (t_size : Int) (t_least : Int → Int) (t_greatest : Int → Int) (t_good : Int → Int) (t_bad : Int → Int) (t_rowsIn : Int → Int) (x1 : Int) (r : Int) : ∀ n : Nat, PL_X4_place_b16 p l e s m args below meth c A G S a_t a_t_least a_t_greatest a_t_good a_t_bad a_t_rowsIn t_size t_least t_greatest t_good t_bad t_rowsIn x1 r (m_X4_place_b16 N t_size t_least x1 n) := by
  intro n
  induction n with
  | zero => intro y2 h; exact nomatch h
  | succ n ih =>
    intro y2 h H locs ls hw hl
    rw [m_X4_place_b16] at h
    obtain ⟨⟨hx, hb, -, -, -⟩, -⟩ := id cx
    refine lv_iload_n hx hb dX4_place_16 rfl (lv_at hl 2 rfl) ?_
    obtain ⟨g1, h⟩ := gd_some h
    refine ri_if_le (tgt := 36) hx hb g1 dX4_place_17 (by decide) (fun c2 => ?_) (fun c2 => ?_)
    · have h := it_pos c2 h
      refine lv_iload_n hx hb dX4_place_36 rfl (lv_at hl 2 rfl) ?_
      obtain rfl := so_inj h
      exact re_i hx hb hlk hr cx hw (Nat.le_of_ble_eq_true rfl) (Nat.le_of_ble_eq_true rfl) dX4_place_37
    · have h := it_neg c2 h
      refine lv_aload_n hx hb dX4_place_20 rfl (lv_at hl 0 rfl) ?_
      refine rf_get hx hb cx hw 0 rfl rfl 0 inX4 (by decide) fl_X4_9 rfl rfl dX4_place_21 ?_
      refine lv_iload_n hx hb dX4_place_24 rfl (lv_at hl 2 rfl) ?_
      obtain ⟨g3, h⟩ := gd_some h
      refine ra_i hx hb cx hw 1 rfl (by decide) g3 dX4_place_25 ?_
      refine lv_iload_n hx hb dX4_place_26 rfl (lv_at hl 1 rfl) ?_
      obtain ⟨g4, h⟩ := gd_some h
      obtain ⟨g5, h⟩ := gd_some h
      refine ri_icmp_le (tgt := 36) hx hb g4 g5 dX4_place_27 (by decide) (fun c6 => ?_) (fun c6 => ?_)
      · have h := it_pos c6 h
        refine lv_iload_n hx hb dX4_place_36 rfl (lv_at hl 2 rfl) ?_
        obtain rfl := so_inj h
        exact re_i hx hb hlk hr cx hw (Nat.le_of_ble_eq_true rfl) (Nat.le_of_ble_eq_true rfl) dX4_place_37
      · have h := it_neg c6 h
        refine lv_iinc (v := kI (y2 + (-1))) (lv' := [(2, .int (kI (y2 + (-1)))), (0, .ref a_t), (1, .int (kI x1))]) hx hb dX4_place_30 hl (k := 2) rfl (kI_add _ _) (by decide) rfl (fun ls hl => ?_)
        refine lv_goto (tgt := 16) hx hb dX4_place_33 (by decide) ?_
        exact ih (y2 + (-1)) h _ _ _ hw (lv_sub hl [1, 2, 0] rfl)
set_option maxHeartbeats 4000000 in
set_option maxRecDepth 100000 in
theorem c_X4_place (l : Launch) (G : GG) (S : SM) (sz : Nat) (N : Nat) (a_t a_t_least a_t_greatest a_t_good a_t_bad a_t_rowsIn : Nat) (t_size : Int) (t_least : Int → Int) (t_greatest : Int → Int) (t_good : Int → Int) (t_bad : Int → Int) (t_rowsIn : Int → Int) (x1 : Int) (r : Int) (h : m_X4_place N t_size t_least x1 = some r) : CtI l yX4_place cX4_place 3 .int (rmD 1 0 0) G S sz [.ref a_t, .int (kI x1)] [(a_t, .inr (4, [.ref a_t_least, .ref a_t_greatest, .ref a_t_good, .ref a_t_bad, .ref a_t_rowsIn, .int (kI t_size)])), (a_t_least, cAI G 60 t_least), (a_t_greatest, cAI G 60 t_greatest), (a_t_good, cAI G 60 t_good), (a_t_bad, cAI G 60 t_bad), (a_t_rowsIn, cAI G 60 t_rowsIn)] r [(a_t, .inr (4, [.ref a_t_least, .ref a_t_greatest, .ref a_t_good, .ref a_t_bad, .ref a_t_rowsIn, .int (kI t_size)])), (a_t_least, cAI G 60 t_least), (a_t_greatest, cAI G 60 t_greatest), (a_t_good, cAI G 60 t_good), (a_t_bad, cAI G 60 t_bad), (a_t_rowsIn, cAI G 60 t_rowsIn)] := by
  refine met_I (by decide +kernel) (Nat.le_of_ble_eq_true rfl) ?_
  intro p e s m args below meth c A H locs ls cx hw hr hlk hnm hl
  have hl : lv_has ls 3 [(0, .ref a_t), (1, .int (kI x1))] := hl
  rw [m_X4_place] at h
  obtain ⟨⟨hx, hb, -, -, -⟩, -⟩ := id cx
  refine lv_aload_n hx hb dX4_place_0 rfl (lv_at hl 0 rfl) ?_
  refine rf_get hx hb cx hw 0 rfl rfl 5 inX4 (by decide) fl_X4_27 rfl rfl dX4_place_1 ?_
  obtain ⟨g1, h⟩ := gd_some h
  refine ri_if_ne (tgt := 9) hx hb g1 dX4_place_4 (by decide) (fun c2 => ?_) (fun c2 => ?_)
  · have h := it_pos c2 h
    refine ri_iconst hx hb dX4_place_7 ?_
    obtain rfl := so_inj h
    exact re_i hx hb hlk hr cx hw (Nat.le_of_ble_eq_true rfl) (Nat.le_of_ble_eq_true rfl) dX4_place_8
  · have h := it_neg c2 h
    refine lv_aload_n hx hb dX4_place_9 rfl (lv_at hl 0 rfl) ?_
    refine rf_get hx hb cx hw 0 rfl rfl 5 inX4 (by decide) fl_X4_27 rfl rfl dX4_place_10 ?_
    refine ri_iconst hx hb dX4_place_13 ?_
    refine ri_isub hx hb dX4_place_14 ?_
    refine lv_istore_n (lv' := [(2, .int (kI (t_size - 1))), (0, .ref a_t), (1, .int (kI x1))]) hx hb dX4_place_15 rfl hl (by decide) rfl (fun ls hl => ?_)
    exact w_X4_place_b16 cx hlk hr N a_t a_t_least a_t_greatest a_t_good a_t_bad a_t_rowsIn t_size t_least t_greatest t_good t_bad t_rowsIn x1 r N (t_size - 1) h _ _ _ hw (lv_sub hl [1, 2, 0] rfl)
set_option maxHeartbeats 4000000 in
set_option maxRecDepth 100000 in
theorem w_X4_has_b16 {p : Program} {l : Launch} {e : Env} {s : State} {m : MethodId} {args : Array Value} {below : List Frame} {meth : Method} {c : Code} {A : Nat → Prop} {G : GG} {S : SM} (cx : CX p s m args c cX4_has RX4 2 G S A) (hlk : meth.locks = false) (hr : meth.sig.returnType = some .boolean) (N : Nat) (a_t a_t_least a_t_greatest a_t_good a_t_bad a_t_rowsIn : Nat) (t_size : Int) (t_least : Int → Int) (t_greatest : Int → Int) (t_good : Int → Int) (t_bad : Int → Int) (t_rowsIn : Int → Int) (x1 : Int) (r : Int) : m_X4_has_b16 N t_size x1 = some r → ∀ (H : Heap) (locs : List Loc) (ls : Array Slot), HP G A s.heap H locs [(a_t, .inr (4, [.ref a_t_least, .ref a_t_greatest, .ref a_t_good, .ref a_t_bad, .ref a_t_rowsIn, .int (kI t_size)])), (a_t_least, cAI G 60 t_least), (a_t_greatest, cAI G 60 t_greatest), (a_t_good, cAI G 60 t_good), (a_t_bad, cAI G 60 t_bad), (a_t_rowsIn, cAI G 60 t_rowsIn)] → lv_has ls 2 [] → W p l e (rmD 1 0 0) s m args below meth c H locs 0 0 (MQ below (QcI G A r [(a_t, .inr (4, [.ref a_t_least, .ref a_t_greatest, .ref a_t_good, .ref a_t_bad, .ref a_t_rowsIn, .int (kI t_size)])), (a_t_least, cAI G 60 t_least), (a_t_greatest, cAI G 60 t_greatest), (a_t_good, cAI G 60 t_good), (a_t_bad, cAI G 60 t_bad), (a_t_rowsIn, cAI G 60 t_rowsIn)]) args s (rmD 1 0 0).cells (rmD 1 0 0).slots A) (F0 m 16 ls []) := by
  intro  h H locs ls hw hl
  rw [m_X4_has_b16] at h
  obtain ⟨⟨hx, hb, -, -, -⟩, -⟩ := id cx
  refine ri_iconst hx hb dX4_has_16 ?_
  obtain rfl := so_inj h
  exact re_z (Or.inl rfl)  hx hb hlk hr cx hw (Nat.le_of_ble_eq_true rfl) (Nat.le_of_ble_eq_true rfl) dX4_has_17
set_option maxHeartbeats 4000000 in
set_option maxRecDepth 100000 in
theorem c_X4_has (l : Launch) (G : GG) (S : SM) (sz : Nat) (N : Nat) (a_t a_t_least a_t_greatest a_t_good a_t_bad a_t_rowsIn : Nat) (t_size : Int) (t_least : Int → Int) (t_greatest : Int → Int) (t_good : Int → Int) (t_bad : Int → Int) (t_rowsIn : Int → Int) (x1 : Int) (r : Int) (h : m_X4_has N t_size x1 = some r) : CtI l yX4_has cX4_has 2 .boolean (rmD 1 0 0) G S sz [.ref a_t, .int (kI x1)] [(a_t, .inr (4, [.ref a_t_least, .ref a_t_greatest, .ref a_t_good, .ref a_t_bad, .ref a_t_rowsIn, .int (kI t_size)])), (a_t_least, cAI G 60 t_least), (a_t_greatest, cAI G 60 t_greatest), (a_t_good, cAI G 60 t_good), (a_t_bad, cAI G 60 t_bad), (a_t_rowsIn, cAI G 60 t_rowsIn)] r [(a_t, .inr (4, [.ref a_t_least, .ref a_t_greatest, .ref a_t_good, .ref a_t_bad, .ref a_t_rowsIn, .int (kI t_size)])), (a_t_least, cAI G 60 t_least), (a_t_greatest, cAI G 60 t_greatest), (a_t_good, cAI G 60 t_good), (a_t_bad, cAI G 60 t_bad), (a_t_rowsIn, cAI G 60 t_rowsIn)] := by
  refine met_I (by decide +kernel) (Nat.le_of_ble_eq_true rfl) ?_
  intro p e s m args below meth c A H locs ls cx hw hr hlk hnm hl
  have hl : lv_has ls 2 [(0, .ref a_t), (1, .int (kI x1))] := hl
  rw [m_X4_has] at h
  obtain ⟨⟨hx, hb, -, -, -⟩, -⟩ := id cx
  refine lv_iload_n hx hb dX4_has_0 rfl (lv_at hl 1 rfl) ?_
  obtain ⟨g1, h⟩ := gd_some h
  refine ri_if_lt (tgt := 16) hx hb g1 dX4_has_1 (by decide) (fun c2 => ?_) (fun c2 => ?_)
  · have h := it_pos c2 h
    exact w_X4_has_b16 cx hlk hr N a_t a_t_least a_t_greatest a_t_good a_t_bad a_t_rowsIn t_size t_least t_greatest t_good t_bad t_rowsIn x1 r  h _ _ _ hw (lv_sub hl [] rfl)
  · have h := it_neg c2 h
    refine lv_iload_n hx hb dX4_has_4 rfl (lv_at hl 1 rfl) ?_
    refine lv_aload_n hx hb dX4_has_5 rfl (lv_at hl 0 rfl) ?_
    refine rf_get hx hb cx hw 0 rfl rfl 5 inX4 (by decide) fl_X4_27 rfl rfl dX4_has_6 ?_
    obtain ⟨g3, h⟩ := gd_some h
    refine ri_icmp_ge (tgt := 16) hx hb g1 g3 dX4_has_9 (by decide) (fun c4 => ?_) (fun c4 => ?_)
    · have h := it_pos c4 h
      exact w_X4_has_b16 cx hlk hr N a_t a_t_least a_t_greatest a_t_good a_t_bad a_t_rowsIn t_size t_least t_greatest t_good t_bad t_rowsIn x1 r  h _ _ _ hw (lv_sub hl [] rfl)
    · have h := it_neg c4 h
      refine ri_iconst hx hb dX4_has_12 ?_
      refine lv_goto (tgt := 17) hx hb dX4_has_13 (by decide) ?_
      obtain rfl := so_inj h
      exact re_z (Or.inr rfl)  hx hb hlk hr cx hw (Nat.le_of_ble_eq_true rfl) (Nat.le_of_ble_eq_true rfl) dX4_has_17
set_option maxHeartbeats 4000000 in
set_option maxRecDepth 100000 in
theorem c_X4_cases (l : Launch) (G : GG) (S : SM) (sz : Nat) (N : Nat) (a_t a_t_least a_t_greatest a_t_good a_t_bad a_t_rowsIn : Nat) (t_size : Int) (t_least : Int → Int) (t_greatest : Int → Int) (t_good : Int → Int) (t_bad : Int → Int) (t_rowsIn : Int → Int) (x1 : Int) (r : Int) (h : m_X4_cases N t_good t_bad x1 = some r) : CtI l yX4_cases cX4_cases 2 .int (rmD 1 0 0) G S sz [.ref a_t, .int (kI x1)] [(a_t, .inr (4, [.ref a_t_least, .ref a_t_greatest, .ref a_t_good, .ref a_t_bad, .ref a_t_rowsIn, .int (kI t_size)])), (a_t_least, cAI G 60 t_least), (a_t_greatest, cAI G 60 t_greatest), (a_t_good, cAI G 60 t_good), (a_t_bad, cAI G 60 t_bad), (a_t_rowsIn, cAI G 60 t_rowsIn)] r [(a_t, .inr (4, [.ref a_t_least, .ref a_t_greatest, .ref a_t_good, .ref a_t_bad, .ref a_t_rowsIn, .int (kI t_size)])), (a_t_least, cAI G 60 t_least), (a_t_greatest, cAI G 60 t_greatest), (a_t_good, cAI G 60 t_good), (a_t_bad, cAI G 60 t_bad), (a_t_rowsIn, cAI G 60 t_rowsIn)] := by
  refine met_I (by decide +kernel) (Nat.le_of_ble_eq_true rfl) ?_
  intro p e s m args below meth c A H locs ls cx hw hr hlk hnm hl
  have hl : lv_has ls 2 [(0, .ref a_t), (1, .int (kI x1))] := hl
  rw [m_X4_cases] at h
  obtain ⟨⟨hx, hb, -, -, -⟩, -⟩ := id cx
  refine lv_aload_n hx hb dX4_cases_0 rfl (lv_at hl 0 rfl) ?_
  refine rf_get hx hb cx hw 0 rfl rfl 2 inX4 (by decide) fl_X4_18 rfl rfl dX4_cases_1 ?_
  refine lv_iload_n hx hb dX4_cases_4 rfl (lv_at hl 1 rfl) ?_
  obtain ⟨g1, h⟩ := gd_some h
  refine ra_i hx hb cx hw 3 rfl (by decide) g1 dX4_cases_5 ?_
  refine lv_aload_n hx hb dX4_cases_6 rfl (lv_at hl 0 rfl) ?_
  refine rf_get hx hb cx hw 0 rfl rfl 3 inX4 (by decide) fl_X4_21 rfl rfl dX4_cases_7 ?_
  refine lv_iload_n hx hb dX4_cases_10 rfl (lv_at hl 1 rfl) ?_
  refine ra_i hx hb cx hw 4 rfl (by decide) g1 dX4_cases_11 ?_
  refine ri_iadd hx hb dX4_cases_12 ?_
  obtain rfl := so_inj h
  exact re_i hx hb hlk hr cx hw (Nat.le_of_ble_eq_true rfl) (Nat.le_of_ble_eq_true rfl) dX4_cases_13
set_option maxHeartbeats 4000000 in
set_option maxRecDepth 100000 in
theorem w_X3_badOf_b31 {p : Program} {l : Launch} {e : Env} {s : State} {m : MethodId} {args : Array Value} {below : List Frame} {meth : Method} {c : Code} {A : Nat → Prop} {G : GG} {S : SM} (cx : CX p s m args c cX3_badOf RX3 7 G S A) (hlk : meth.locks = false) (hr : meth.sig.returnType = some .int) (N : Nat) (a_p1 a_p1_least a_p1_greatest a_p1_good a_p1_bad a_p1_rowsIn : Nat) (p1_size : Int) (p1_least : Int → Int) (p1_greatest : Int → Int) (p1_good : Int → Int) (p1_bad : Int → Int) (p1_rowsIn : Int → Int) (x0 : Int) (x2 : Int) (x3 : Int) (r : Int) : ∀ (y4 : Int) (s0 : Int), m_X3_badOf_b31 N p1_size p1_least p1_good p1_bad x0 x2 x3 y4 s0 = some r → ∀ (H : Heap) (locs : List Loc) (ls : Array Slot), HP G A s.heap H locs [(a_p1, .inr (4, [.ref a_p1_least, .ref a_p1_greatest, .ref a_p1_good, .ref a_p1_bad, .ref a_p1_rowsIn, .int (kI p1_size)])), (a_p1_least, cAI G 60 p1_least), (a_p1_greatest, cAI G 60 p1_greatest), (a_p1_good, cAI G 60 p1_good), (a_p1_bad, cAI G 60 p1_bad), (a_p1_rowsIn, cAI G 60 p1_rowsIn)] → lv_has ls 7 [(0, .int (kI x0)), (1, .ref a_p1), (3, .int (kI x3)), (4, .int (kI y4))] → W p l e (rmD 2 0 0) s m args below meth c H locs 0 0 (MQ below (QcI G A r [(a_p1, .inr (4, [.ref a_p1_least, .ref a_p1_greatest, .ref a_p1_good, .ref a_p1_bad, .ref a_p1_rowsIn, .int (kI p1_size)])), (a_p1_least, cAI G 60 p1_least), (a_p1_greatest, cAI G 60 p1_greatest), (a_p1_good, cAI G 60 p1_good), (a_p1_bad, cAI G 60 p1_bad), (a_p1_rowsIn, cAI G 60 p1_rowsIn)]) args s (rmD 2 0 0).cells (rmD 2 0 0).slots A) (F0 m 31 ls [.long (kL s0)]) := by
  intro y4 s0 h H locs ls hw hl
  rw [m_X3_badOf_b31] at h
  obtain ⟨⟨hx, hb, -, -, -⟩, -⟩ := id cx
  refine lv_lstore (lv' := [(5, .long (kL s0)), (0, .int (kI x0)), (1, .ref a_p1), (3, .int (kI x3)), (4, .int (kI y4))]) hx hb dX3_badOf_31 hl (by decide) rfl (fun ls hl => ?_)
  refine lv_lload hx hb dX3_badOf_33 (lv_at hl 0 rfl) ?_
  refine ri_lconst hx hb 0 dX3_badOf_35 rfl ?_
  obtain ⟨g1, h⟩ := gd_some h
  refine ri_lcmp_ne (tgt := 42) hx hb g1 ⟨by decide, by decide⟩ dX3_badOf_36 dX3_badOf_37 (by decide) (fun c2 => ?_) (fun c2 => ?_)
  · have h := it_pos c2 h
    refine ri_iconst hx hb dX3_badOf_40 ?_
    obtain rfl := so_inj h
    exact re_i hx hb hlk hr cx hw (Nat.le_of_ble_eq_true rfl) (Nat.le_of_ble_eq_true rfl) dX3_badOf_41
  · have h := it_neg c2 h
    refine lv_iload_n hx hb dX3_badOf_42 rfl (lv_at hl 1 rfl) ?_
    obtain ⟨g3, h⟩ := gd_some h
    refine ri_i2l hx hb g3 dX3_badOf_43 ?_
    refine lv_iload_n hx hb dX3_badOf_44 rfl (lv_at hl 3 rfl) ?_
    obtain ⟨g4, h⟩ := gd_some h
    refine ri_i2l hx hb g4 dX3_badOf_45 ?_
    refine ri_lmul hx hb dX3_badOf_46 ?_
    refine lv_aload_n hx hb dX3_badOf_47 rfl (lv_at hl 2 rfl) ?_
    refine rf_get hx hb cx hw 0 rfl rfl 3 inX4 (by decide) fl_X3_47 rfl rfl dX3_badOf_48 ?_
    refine lv_iload hx hb dX3_badOf_51 (lv_at hl 4 rfl) ?_
    obtain ⟨g5, h⟩ := gd_some h
    refine ra_i hx hb cx hw 4 rfl (by decide) g5 dX3_badOf_53 ?_
    obtain ⟨g6, h⟩ := gd_some h
    refine ri_i2l hx hb g6 dX3_badOf_54 ?_
    refine ri_lmul hx hb dX3_badOf_55 ?_
    refine lv_lload hx hb dX3_badOf_56 (lv_at hl 0 rfl) ?_
    obtain ⟨g7, h⟩ := gd_some h
    refine ri_ldiv hx hb g7 dX3_badOf_58 ?_
    refine lv_iload_n hx hb dX3_badOf_59 rfl (lv_at hl 1 rfl) ?_
    refine ri_i2l hx hb g3 dX3_badOf_60 ?_
    obtain ⟨g8, h⟩ := gd_some h
    obtain ⟨g9, h⟩ := gd_some h
    refine rj_minL g8 g9 hx hb cx hl.1 jl_X3_48 (Nat.le_of_ble_eq_true rfl) (Nat.le_of_ble_eq_true rfl) (Nat.le_of_ble_eq_true rfl) (Nat.le_of_ble_eq_true rfl) dX3_badOf_61 ?_
    refine ri_l2i hx hb dX3_badOf_64 ?_
    obtain rfl := so_inj h
    exact re_i hx hb hlk hr cx hw (Nat.le_of_ble_eq_true rfl) (Nat.le_of_ble_eq_true rfl) dX3_badOf_65
set_option maxHeartbeats 4000000 in
set_option maxRecDepth 100000 in
theorem c_X3_badOf (l : Launch) (G : GG) (S : SM) (sz : Nat) (N : Nat) (a_p1 a_p1_least a_p1_greatest a_p1_good a_p1_bad a_p1_rowsIn : Nat) (p1_size : Int) (p1_least : Int → Int) (p1_greatest : Int → Int) (p1_good : Int → Int) (p1_bad : Int → Int) (p1_rowsIn : Int → Int) (x0 : Int) (x2 : Int) (x3 : Int) (r : Int) (h : m_X3_badOf N p1_size p1_least p1_good p1_bad x0 x2 x3 = some r) : CtI l yX3_badOf cX3_badOf 7 .int (rmD 2 0 0) G S sz [.int (kI x0), .ref a_p1, .int (kI x2), .int (kI x3)] [(a_p1, .inr (4, [.ref a_p1_least, .ref a_p1_greatest, .ref a_p1_good, .ref a_p1_bad, .ref a_p1_rowsIn, .int (kI p1_size)])), (a_p1_least, cAI G 60 p1_least), (a_p1_greatest, cAI G 60 p1_greatest), (a_p1_good, cAI G 60 p1_good), (a_p1_bad, cAI G 60 p1_bad), (a_p1_rowsIn, cAI G 60 p1_rowsIn)] r [(a_p1, .inr (4, [.ref a_p1_least, .ref a_p1_greatest, .ref a_p1_good, .ref a_p1_bad, .ref a_p1_rowsIn, .int (kI p1_size)])), (a_p1_least, cAI G 60 p1_least), (a_p1_greatest, cAI G 60 p1_greatest), (a_p1_good, cAI G 60 p1_good), (a_p1_bad, cAI G 60 p1_bad), (a_p1_rowsIn, cAI G 60 p1_rowsIn)] := by
  refine met_I (by decide +kernel) (Nat.le_of_ble_eq_true rfl) ?_
  intro p e s m args below meth c A H locs ls cx hw hr hlk hnm hl
  have hl : lv_has ls 7 [(0, .int (kI x0)), (1, .ref a_p1), (2, .int (kI x2)), (3, .int (kI x3))] := hl
  rw [m_X3_badOf] at h
  obtain ⟨⟨hx, hb, -, -, -⟩, -⟩ := id cx
  refine lv_aload_n hx hb dX3_badOf_0 rfl (lv_at hl 1 rfl) ?_
  refine lv_iload_n hx hb dX3_badOf_1 rfl (lv_at hl 2 rfl) ?_
  obtain ⟨r1, h1, h⟩ := bd_some h
  refine rc_I0 (v := r1) hw [0, 1, 2, 3, 4, 5] (rr_V cx hw (c_X4_place l G S H.size N a_p1 a_p1_least a_p1_greatest a_p1_good a_p1_bad a_p1_rowsIn p1_size p1_least p1_greatest p1_good p1_bad p1_rowsIn x2 _ h1) mv_X3_32 [0, 1, 2, 3, 4, 5] rfl rfl rfl 0 rfl rfl ⟨Nat.le_of_ble_eq_true rfl, Nat.le_of_ble_eq_true rfl⟩ rfl hl.1 rfl (Nat.le_of_ble_eq_true rfl) dX3_badOf_2 ⟨Nat.le_of_ble_eq_true rfl, Nat.le_of_ble_eq_true rfl⟩) rfl rfl (fun H locs hw => ?_)
  refine lv_istore (lv' := [(4, .int (kI r1)), (0, .int (kI x0)), (1, .ref a_p1), (2, .int (kI x2)), (3, .int (kI x3))]) hx hb dX3_badOf_5 hl (by decide) rfl (fun ls hl => ?_)
  refine lv_aload_n hx hb dX3_badOf_7 rfl (lv_at hl 2 rfl) ?_
  refine lv_iload hx hb dX3_badOf_8 (lv_at hl 0 rfl) ?_
  obtain ⟨r2, h2, h⟩ := bd_some h
  refine rc_I0 (v := r2) hw [0, 1, 2, 3, 4, 5] (rr_V cx hw (c_X4_has l G S H.size N a_p1 a_p1_least a_p1_greatest a_p1_good a_p1_bad a_p1_rowsIn p1_size p1_least p1_greatest p1_good p1_bad p1_rowsIn r1 _ h2) mv_X3_38 [0, 1, 2, 3, 4, 5] rfl rfl rfl 0 rfl rfl ⟨Nat.le_of_ble_eq_true rfl, Nat.le_of_ble_eq_true rfl⟩ rfl hl.1 rfl (Nat.le_of_ble_eq_true rfl) dX3_badOf_10 ⟨Nat.le_of_ble_eq_true rfl, Nat.le_of_ble_eq_true rfl⟩) rfl rfl (fun H locs hw => ?_)
  obtain ⟨g3, h⟩ := gd_some h
  refine ri_if_eq (tgt := 30) hx hb g3 dX3_badOf_13 (by decide) (fun c4 => ?_) (fun c4 => ?_)
  · have h := it_pos c4 h
    refine ri_lconst hx hb 0 dX3_badOf_30 rfl ?_
    exact w_X3_badOf_b31 cx hlk hr N a_p1 a_p1_least a_p1_greatest a_p1_good a_p1_bad a_p1_rowsIn p1_size p1_least p1_greatest p1_good p1_bad p1_rowsIn x0 x2 x3 r r1 0 h _ _ _ hw (lv_sub hl [1, 2, 4, 0] rfl)
  · have h := it_neg c4 h
    refine lv_ldc2 (v := kL 100) hx hb cx.1.2.2.2.1 (cx.1.2.2.2.2 _ kc_X3_42) dX3_badOf_16 ?_
    refine lv_aload_n hx hb dX3_badOf_19 rfl (lv_at hl 2 rfl) ?_
    refine lv_iload hx hb dX3_badOf_20 (lv_at hl 0 rfl) ?_
    obtain ⟨r5, h5, h⟩ := bd_some h
    refine rc_I0 (v := r5) hw [0, 1, 2, 3, 4, 5] (rr_V cx hw (c_X4_cases l G S H.size N a_p1 a_p1_least a_p1_greatest a_p1_good a_p1_bad a_p1_rowsIn p1_size p1_least p1_greatest p1_good p1_bad p1_rowsIn r1 _ h5) mv_X3_44 [0, 1, 2, 3, 4, 5] rfl rfl rfl 0 rfl rfl ⟨Nat.le_of_ble_eq_true rfl, Nat.le_of_ble_eq_true rfl⟩ rfl hl.1 rfl (Nat.le_of_ble_eq_true rfl) dX3_badOf_22 ⟨Nat.le_of_ble_eq_true rfl, Nat.le_of_ble_eq_true rfl⟩) rfl rfl (fun H locs hw => ?_)
    obtain ⟨g6, h⟩ := gd_some h
    refine ri_i2l hx hb g6 dX3_badOf_25 ?_
    refine ri_lmul hx hb dX3_badOf_26 ?_
    refine lv_goto (tgt := 31) hx hb dX3_badOf_27 (by decide) ?_
    exact w_X3_badOf_b31 cx hlk hr N a_p1 a_p1_least a_p1_greatest a_p1_good a_p1_bad a_p1_rowsIn p1_size p1_least p1_greatest p1_good p1_bad p1_rowsIn x0 x2 x3 r r1 (100 * r5) h _ _ _ hw (lv_sub hl [1, 2, 4, 0] rfl)
def PL_X3_gather_b8 (p : Program) (l : Launch) (e : Env) (s : State) (m : MethodId) (args : Array Value) (below : List Frame) (meth : Method) (c : Code) (A : Nat → Prop) (G : GG) (S : SM) (a_t a_t_score a_t_open a_t_bad a_p1 a_p1_good a_p1_bad a_p1_open a_p2 a_p2_least a_p2_greatest a_p2_good a_p2_bad a_p2_rowsIn : Nat) (p1_least : Int) (p1_most : Int) (p1_goodCost : Int) (p1_badCost : Int) (p1_referCost : Int) (p1_good : Int → Int) (p1_bad : Int → Int) (p1_open : Int → Int) (p2_size : Int) (p2_least : Int → Int) (p2_greatest : Int → Int) (p2_good : Int → Int) (p2_bad : Int → Int) (p2_rowsIn : Int → Int) (x3 : Int) (r : Int × (Int → Int) × (Int → Int) × (Int → Int)) (kk : Int → (Int → Int) → (Int → Int) → (Int → Int) → Int → Option (Int × (Int → Int) × (Int → Int) × (Int → Int))) : Prop := ∀ (t_size : Int) (t_score : Int → Int) (t_open : Int → Int) (t_bad : Int → Int) (y4 : Int), kk t_size t_score t_open t_bad y4 = some r → ∀ (H : Heap) (locs : List Loc) (ls : Array Slot), HP G A s.heap H locs [(a_t, .inr (3, [.ref a_t_score, .ref a_t_open, .ref a_t_bad, .int (kI t_size)])), (a_t_score, cAI G 60 t_score), (a_t_open, cAI G 60 t_open), (a_t_bad, cAI G 60 t_bad), (a_p1, .inr (5, [.ref a_p1_good, .ref a_p1_bad, .ref a_p1_open, .int (kI p1_least), .int (kI p1_most), .int (kI p1_goodCost), .int (kI p1_badCost), .int (kI p1_referCost)])), (a_p1_good, cAI G 1000 p1_good), (a_p1_bad, cAI G 1000 p1_bad), (a_p1_open, cAI G 1000 p1_open), (a_p2, .inr (4, [.ref a_p2_least, .ref a_p2_greatest, .ref a_p2_good, .ref a_p2_bad, .ref a_p2_rowsIn, .int (kI p2_size)])), (a_p2_least, cAI G 60 p2_least), (a_p2_greatest, cAI G 60 p2_greatest), (a_p2_good, cAI G 60 p2_good), (a_p2_bad, cAI G 60 p2_bad), (a_p2_rowsIn, cAI G 60 p2_rowsIn)] → lv_has ls 5 [(0, .ref a_t), (1, .ref a_p1), (2, .ref a_p2), (3, .int (kI x3)), (4, .int (kI y4))] → W p l e (rmD 3 0 0) s m args below meth c H locs 0 0 (MQ below (QcV G A [(a_t, .inr (3, [.ref a_t_score, .ref a_t_open, .ref a_t_bad, .int (kI r.1)])), (a_t_score, cAI G 60 r.2.1), (a_t_open, cAI G 60 r.2.2.1), (a_t_bad, cAI G 60 r.2.2.2), (a_p1, .inr (5, [.ref a_p1_good, .ref a_p1_bad, .ref a_p1_open, .int (kI p1_least), .int (kI p1_most), .int (kI p1_goodCost), .int (kI p1_badCost), .int (kI p1_referCost)])), (a_p1_good, cAI G 1000 p1_good), (a_p1_bad, cAI G 1000 p1_bad), (a_p1_open, cAI G 1000 p1_open), (a_p2, .inr (4, [.ref a_p2_least, .ref a_p2_greatest, .ref a_p2_good, .ref a_p2_bad, .ref a_p2_rowsIn, .int (kI p2_size)])), (a_p2_least, cAI G 60 p2_least), (a_p2_greatest, cAI G 60 p2_greatest), (a_p2_good, cAI G 60 p2_good), (a_p2_bad, cAI G 60 p2_bad), (a_p2_rowsIn, cAI G 60 p2_rowsIn)]) args s (rmD 3 0 0).cells (rmD 3 0 0).slots A) (F0 m 8 ls [])
set_option maxHeartbeats 4000000 in
set_option maxRecDepth 100000 in
theorem w_X3_gather_b95 {p : Program} {l : Launch} {e : Env} {s : State} {m : MethodId} {args : Array Value} {below : List Frame} {meth : Method} {c : Code} {A : Nat → Prop} {G : GG} {S : SM} (cx : CX p s m args c cX3_gather RX3 5 G S A) (hlk : meth.locks = false) (hr : meth.sig.returnType = none) (N : Nat) (a_t a_t_score a_t_open a_t_bad a_p1 a_p1_good a_p1_bad a_p1_open a_p2 a_p2_least a_p2_greatest a_p2_good a_p2_bad a_p2_rowsIn : Nat) (p1_least : Int) (p1_most : Int) (p1_goodCost : Int) (p1_badCost : Int) (p1_referCost : Int) (p1_good : Int → Int) (p1_bad : Int → Int) (p1_open : Int → Int) (p2_size : Int) (p2_least : Int → Int) (p2_greatest : Int → Int) (p2_good : Int → Int) (p2_bad : Int → Int) (p2_rowsIn : Int → Int) (x3 : Int) (r : Int × (Int → Int) × (Int → Int) × (Int → Int)) (k8 : Int → (Int → Int) → (Int → Int) → (Int → Int) → Int → Option (Int × (Int → Int) × (Int → Int) × (Int → Int))) (hk8 : PL_X3_gather_b8 p l e s m args below meth c A G S a_t a_t_score a_t_open a_t_bad a_p1 a_p1_good a_p1_bad a_p1_open a_p2 a_p2_least a_p2_greatest a_p2_good a_p2_bad a_p2_rowsIn p1_least p1_most p1_goodCost p1_badCost p1_referCost p1_good p1_bad p1_open p2_size p2_least p2_greatest p2_good p2_bad p2_rowsIn x3 r k8) : ∀ (t_size : Int) (t_score : Int → Int) (t_open : Int → Int) (t_bad : Int → Int) (y4 : Int), m_X3_gather_b95 N p1_open p2_size p2_least p2_good p2_bad x3 k8 t_size t_score t_open t_bad y4 = some r → ∀ (H : Heap) (locs : List Loc) (ls : Array Slot), HP G A s.heap H locs [(a_t, .inr (3, [.ref a_t_score, .ref a_t_open, .ref a_t_bad, .int (kI t_size)])), (a_t_score, cAI G 60 t_score), (a_t_open, cAI G 60 t_open), (a_t_bad, cAI G 60 t_bad), (a_p1, .inr (5, [.ref a_p1_good, .ref a_p1_bad, .ref a_p1_open, .int (kI p1_least), .int (kI p1_most), .int (kI p1_goodCost), .int (kI p1_badCost), .int (kI p1_referCost)])), (a_p1_good, cAI G 1000 p1_good), (a_p1_bad, cAI G 1000 p1_bad), (a_p1_open, cAI G 1000 p1_open), (a_p2, .inr (4, [.ref a_p2_least, .ref a_p2_greatest, .ref a_p2_good, .ref a_p2_bad, .ref a_p2_rowsIn, .int (kI p2_size)])), (a_p2_least, cAI G 60 p2_least), (a_p2_greatest, cAI G 60 p2_greatest), (a_p2_good, cAI G 60 p2_good), (a_p2_bad, cAI G 60 p2_bad), (a_p2_rowsIn, cAI G 60 p2_rowsIn)] → lv_has ls 5 [(0, .ref a_t), (1, .ref a_p1), (2, .ref a_p2), (3, .int (kI x3)), (4, .int (kI y4))] → W p l e (rmD 3 0 0) s m args below meth c H locs 0 0 (MQ below (QcV G A [(a_t, .inr (3, [.ref a_t_score, .ref a_t_open, .ref a_t_bad, .int (kI r.1)])), (a_t_score, cAI G 60 r.2.1), (a_t_open, cAI G 60 r.2.2.1), (a_t_bad, cAI G 60 r.2.2.2), (a_p1, .inr (5, [.ref a_p1_good, .ref a_p1_bad, .ref a_p1_open, .int (kI p1_least), .int (kI p1_most), .int (kI p1_goodCost), .int (kI p1_badCost), .int (kI p1_referCost)])), (a_p1_good, cAI G 1000 p1_good), (a_p1_bad, cAI G 1000 p1_bad), (a_p1_open, cAI G 1000 p1_open), (a_p2, .inr (4, [.ref a_p2_least, .ref a_p2_greatest, .ref a_p2_good, .ref a_p2_bad, .ref a_p2_rowsIn, .int (kI p2_size)])), (a_p2_least, cAI G 60 p2_least), (a_p2_greatest, cAI G 60 p2_greatest), (a_p2_good, cAI G 60 p2_good), (a_p2_bad, cAI G 60 p2_bad), (a_p2_rowsIn, cAI G 60 p2_rowsIn)]) args s (rmD 3 0 0).cells (rmD 3 0 0).slots A) (F0 m 95 ls []) := by
  intro t_size t_score t_open t_bad y4 h H locs ls hw hl
  rw [m_X3_gather_b95] at h
  obtain ⟨⟨hx, hb, -, -, -⟩, -⟩ := id cx
  refine lv_iinc (v := kI (y4 + 1)) (lv' := [(4, .int (kI (y4 + 1))), (0, .ref a_t), (1, .ref a_p1), (2, .ref a_p2), (3, .int (kI x3))]) hx hb dX3_gather_95 hl (k := 4) rfl (kI_add _ _) (by decide) rfl (fun ls hl => ?_)
  refine lv_goto (tgt := 8) hx hb dX3_gather_98 (by decide) ?_
  exact hk8 t_size t_score t_open t_bad (y4 + 1) h _ _ _ hw (lv_sub hl [1, 2, 3, 4, 0] rfl)
set_option maxHeartbeats 4000000 in
set_option maxRecDepth 100000 in
theorem w_X3_gather_b8 {p : Program} {l : Launch} {e : Env} {s : State} {m : MethodId} {args : Array Value} {below : List Frame} {meth : Method} {c : Code} {A : Nat → Prop} {G : GG} {S : SM} (cx : CX p s m args c cX3_gather RX3 5 G S A) (hlk : meth.locks = false) (hr : meth.sig.returnType = none) (N : Nat) (a_t a_t_score a_t_open a_t_bad a_p1 a_p1_good a_p1_bad a_p1_open a_p2 a_p2_least a_p2_greatest a_p2_good a_p2_bad a_p2_rowsIn : Nat) (p1_least : Int) (p1_most : Int) (p1_goodCost : Int) (p1_badCost : Int) (p1_referCost : Int) (p1_good : Int → Int) (p1_bad : Int → Int) (p1_open : Int → Int) (p2_size : Int) (p2_least : Int → Int) (p2_greatest : Int → Int) (p2_good : Int → Int) (p2_bad : Int → Int) (p2_rowsIn : Int → Int) (x3 : Int) (r : Int × (Int → Int) × (Int → Int) × (Int → Int)) : ∀ n : Nat, PL_X3_gather_b8 p l e s m args below meth c A G S a_t a_t_score a_t_open a_t_bad a_p1 a_p1_good a_p1_bad a_p1_open a_p2 a_p2_least a_p2_greatest a_p2_good a_p2_bad a_p2_rowsIn p1_least p1_most p1_goodCost p1_badCost p1_referCost p1_good p1_bad p1_open p2_size p2_least p2_greatest p2_good p2_bad p2_rowsIn x3 r (m_X3_gather_b8 N p1_open p2_size p2_least p2_good p2_bad x3 n) := by
  intro n
  induction n with
  | zero => intro t_size t_score t_open t_bad y4 h; exact nomatch h
  | succ n ih =>
    intro t_size t_score t_open t_bad y4 h H locs ls hw hl
    rw [m_X3_gather_b8] at h
    obtain ⟨⟨hx, hb, -, -, -⟩, -⟩ := id cx
    refine lv_iload hx hb dX3_gather_8 (lv_at hl 4 rfl) ?_
    refine ri_sipush hx hb dX3_gather_10 rfl ?_
    obtain ⟨g1, h⟩ := gd_some h
    refine ri_icmp_ge (tgt := 101) hx hb g1 ⟨by decide, by decide⟩ dX3_gather_13 (by decide) (fun c2 => ?_) (fun c2 => ?_)
    · have h := it_pos c2 h
      obtain rfl := so_inj h
      exact re_v hx hb hlk hr cx hw (Nat.le_of_ble_eq_true rfl) (Nat.le_of_ble_eq_true rfl) dX3_gather_101
    · have h := it_neg c2 h
      refine lv_aload_n hx hb dX3_gather_16 rfl (lv_at hl 0 rfl) ?_
      refine rf_get hx hb cx hw 0 rfl rfl 3 inX3 (by decide) fl_X3_21 rfl rfl dX3_gather_17 ?_
      refine ri_bipush hx hb dX3_gather_20 rfl ?_
      obtain ⟨g3, h⟩ := gd_some h
      refine ri_icmp_ge (tgt := 101) hx hb g3 ⟨by decide, by decide⟩ dX3_gather_22 (by decide) (fun c4 => ?_) (fun c4 => ?_)
      · have h := it_pos c4 h
        obtain rfl := so_inj h
        exact re_v hx hb hlk hr cx hw (Nat.le_of_ble_eq_true rfl) (Nat.le_of_ble_eq_true rfl) dX3_gather_101
      · have h := it_neg c4 h
        refine lv_aload_n hx hb dX3_gather_25 rfl (lv_at hl 1 rfl) ?_
        refine rf_get hx hb cx hw 4 rfl rfl 2 inX6 (by decide) fl_X3_25 rfl rfl dX3_gather_26 ?_
        refine lv_iload hx hb dX3_gather_29 (lv_at hl 4 rfl) ?_
        obtain ⟨g5, h⟩ := gd_some h
        refine ra_i hx hb cx hw 7 rfl (by decide) g5 dX3_gather_31 ?_
        obtain ⟨g6, h⟩ := gd_some h
        refine ri_if_le (tgt := 95) hx hb g6 dX3_gather_32 (by decide) (fun c7 => ?_) (fun c7 => ?_)
        · have h := it_pos c7 h
          exact w_X3_gather_b95 cx hlk hr N a_t a_t_score a_t_open a_t_bad a_p1 a_p1_good a_p1_bad a_p1_open a_p2 a_p2_least a_p2_greatest a_p2_good a_p2_bad a_p2_rowsIn p1_least p1_most p1_goodCost p1_badCost p1_referCost p1_good p1_bad p1_open p2_size p2_least p2_greatest p2_good p2_bad p2_rowsIn x3 r (m_X3_gather_b8 N p1_open p2_size p2_least p2_good p2_bad x3 n) ih t_size t_score t_open t_bad y4 h _ _ _ hw (lv_sub hl [0, 1, 2, 3, 4] rfl)
        · have h := it_neg c7 h
          refine lv_aload_n hx hb dX3_gather_35 rfl (lv_at hl 0 rfl) ?_
          refine rf_get hx hb cx hw 0 rfl rfl 0 inX3 (by decide) fl_X3_9 rfl rfl dX3_gather_36 ?_
          refine lv_aload_n hx hb dX3_gather_39 rfl (lv_at hl 0 rfl) ?_
          refine rf_get hx hb cx hw 0 rfl rfl 3 inX3 (by decide) fl_X3_21 rfl rfl dX3_gather_40 ?_
          refine lv_iload hx hb dX3_gather_43 (lv_at hl 4 rfl) ?_
          obtain ⟨g8, h⟩ := gd_some h
          refine ra_si hx hb cx hw 1 rfl (by decide) g8 dX3_gather_45 (fun H locs hw => ?_)
          have hw : HP G A s.heap H locs [(a_t, .inr (3, [.ref a_t_score, .ref a_t_open, .ref a_t_bad, .int (kI t_size)])), (a_t_score, cAI G 60 (uP t_score t_size y4)), (a_t_open, cAI G 60 t_open), (a_t_bad, cAI G 60 t_bad), (a_p1, .inr (5, [.ref a_p1_good, .ref a_p1_bad, .ref a_p1_open, .int (kI p1_least), .int (kI p1_most), .int (kI p1_goodCost), .int (kI p1_badCost), .int (kI p1_referCost)])), (a_p1_good, cAI G 1000 p1_good), (a_p1_bad, cAI G 1000 p1_bad), (a_p1_open, cAI G 1000 p1_open), (a_p2, .inr (4, [.ref a_p2_least, .ref a_p2_greatest, .ref a_p2_good, .ref a_p2_bad, .ref a_p2_rowsIn, .int (kI p2_size)])), (a_p2_least, cAI G 60 p2_least), (a_p2_greatest, cAI G 60 p2_greatest), (a_p2_good, cAI G 60 p2_good), (a_p2_bad, cAI G 60 p2_bad), (a_p2_rowsIn, cAI G 60 p2_rowsIn)] := hw
          refine lv_aload_n hx hb dX3_gather_46 rfl (lv_at hl 0 rfl) ?_
          refine rf_get hx hb cx hw 0 rfl rfl 1 inX3 (by decide) fl_X3_15 rfl rfl dX3_gather_47 ?_
          refine lv_aload_n hx hb dX3_gather_50 rfl (lv_at hl 0 rfl) ?_
          refine rf_get hx hb cx hw 0 rfl rfl 3 inX3 (by decide) fl_X3_21 rfl rfl dX3_gather_51 ?_
          refine lv_aload_n hx hb dX3_gather_54 rfl (lv_at hl 1 rfl) ?_
          refine rf_get hx hb cx hw 4 rfl rfl 2 inX6 (by decide) fl_X3_25 rfl rfl dX3_gather_55 ?_
          refine lv_iload hx hb dX3_gather_58 (lv_at hl 4 rfl) ?_
          refine ra_i hx hb cx hw 7 rfl (by decide) g5 dX3_gather_60 ?_
          refine ra_si hx hb cx hw 2 rfl (by decide) g8 dX3_gather_61 (fun H locs hw => ?_)
          have hw : HP G A s.heap H locs [(a_t, .inr (3, [.ref a_t_score, .ref a_t_open, .ref a_t_bad, .int (kI t_size)])), (a_t_score, cAI G 60 (uP t_score t_size y4)), (a_t_open, cAI G 60 (uP t_open t_size (p1_open y4))), (a_t_bad, cAI G 60 t_bad), (a_p1, .inr (5, [.ref a_p1_good, .ref a_p1_bad, .ref a_p1_open, .int (kI p1_least), .int (kI p1_most), .int (kI p1_goodCost), .int (kI p1_badCost), .int (kI p1_referCost)])), (a_p1_good, cAI G 1000 p1_good), (a_p1_bad, cAI G 1000 p1_bad), (a_p1_open, cAI G 1000 p1_open), (a_p2, .inr (4, [.ref a_p2_least, .ref a_p2_greatest, .ref a_p2_good, .ref a_p2_bad, .ref a_p2_rowsIn, .int (kI p2_size)])), (a_p2_least, cAI G 60 p2_least), (a_p2_greatest, cAI G 60 p2_greatest), (a_p2_good, cAI G 60 p2_good), (a_p2_bad, cAI G 60 p2_bad), (a_p2_rowsIn, cAI G 60 p2_rowsIn)] := hw
          refine lv_aload_n hx hb dX3_gather_62 rfl (lv_at hl 0 rfl) ?_
          refine rf_get hx hb cx hw 0 rfl rfl 2 inX3 (by decide) fl_X3_18 rfl rfl dX3_gather_63 ?_
          refine lv_aload_n hx hb dX3_gather_66 rfl (lv_at hl 0 rfl) ?_
          refine rf_get hx hb cx hw 0 rfl rfl 3 inX3 (by decide) fl_X3_21 rfl rfl dX3_gather_67 ?_
          refine lv_aload_n hx hb dX3_gather_70 rfl (lv_at hl 1 rfl) ?_
          refine rf_get hx hb cx hw 4 rfl rfl 2 inX6 (by decide) fl_X3_25 rfl rfl dX3_gather_71 ?_
          refine lv_iload hx hb dX3_gather_74 (lv_at hl 4 rfl) ?_
          refine ra_i hx hb cx hw 7 rfl (by decide) g5 dX3_gather_76 ?_
          refine lv_aload_n hx hb dX3_gather_77 rfl (lv_at hl 2 rfl) ?_
          refine lv_iload hx hb dX3_gather_78 (lv_at hl 4 rfl) ?_
          refine lv_iload_n hx hb dX3_gather_80 rfl (lv_at hl 3 rfl) ?_
          obtain ⟨r9, h9, h⟩ := bd_some h
          refine rc_I0 (v := r9) hw [8, 9, 10, 11, 12, 13] (rr_S cx hw (c_X3_badOf l G S H.size N a_p2 a_p2_least a_p2_greatest a_p2_good a_p2_bad a_p2_rowsIn p2_size p2_least p2_greatest p2_good p2_bad p2_rowsIn (p1_open y4) y4 x3 _ h9) mv_X3_28 [8, 9, 10, 11, 12, 13] rfl rfl rfl ⟨Nat.le_of_ble_eq_true rfl, Nat.le_of_ble_eq_true rfl⟩ rfl hl.1 rfl (Nat.le_of_ble_eq_true rfl) dX3_gather_81 ⟨Nat.le_of_ble_eq_true rfl, Nat.le_of_ble_eq_true rfl⟩) rfl rfl (fun H locs hw => ?_)
          refine ra_si hx hb cx hw 3 rfl (by decide) g8 dX3_gather_84 (fun H locs hw => ?_)
          have hw : HP G A s.heap H locs [(a_t, .inr (3, [.ref a_t_score, .ref a_t_open, .ref a_t_bad, .int (kI t_size)])), (a_t_score, cAI G 60 (uP t_score t_size y4)), (a_t_open, cAI G 60 (uP t_open t_size (p1_open y4))), (a_t_bad, cAI G 60 (uP t_bad t_size r9)), (a_p1, .inr (5, [.ref a_p1_good, .ref a_p1_bad, .ref a_p1_open, .int (kI p1_least), .int (kI p1_most), .int (kI p1_goodCost), .int (kI p1_badCost), .int (kI p1_referCost)])), (a_p1_good, cAI G 1000 p1_good), (a_p1_bad, cAI G 1000 p1_bad), (a_p1_open, cAI G 1000 p1_open), (a_p2, .inr (4, [.ref a_p2_least, .ref a_p2_greatest, .ref a_p2_good, .ref a_p2_bad, .ref a_p2_rowsIn, .int (kI p2_size)])), (a_p2_least, cAI G 60 p2_least), (a_p2_greatest, cAI G 60 p2_greatest), (a_p2_good, cAI G 60 p2_good), (a_p2_bad, cAI G 60 p2_bad), (a_p2_rowsIn, cAI G 60 p2_rowsIn)] := hw
          refine lv_aload_n hx hb dX3_gather_85 rfl (lv_at hl 0 rfl) ?_
          refine lv_dup hx hb dX3_gather_86 rfl ?_
          refine rf_get hx hb cx hw 0 rfl rfl 3 inX3 (by decide) fl_X3_21 rfl rfl dX3_gather_87 ?_
          refine ri_iconst hx hb dX3_gather_90 ?_
          refine ri_iadd hx hb dX3_gather_91 ?_
          refine rf_put hx hb cx hw 0 rfl rfl 3 inX3 tyX3 tyX3_ok nmX3 (by decide) fl_X3_21 rfl rfl rfl rfl (Nat.le_of_ble_eq_true rfl) dX3_gather_92 (fun H locs hw => ?_)
          have hw : HP G A s.heap H locs [(a_t, .inr (3, [.ref a_t_score, .ref a_t_open, .ref a_t_bad, .int (kI (t_size + 1))])), (a_t_score, cAI G 60 (uP t_score t_size y4)), (a_t_open, cAI G 60 (uP t_open t_size (p1_open y4))), (a_t_bad, cAI G 60 (uP t_bad t_size r9)), (a_p1, .inr (5, [.ref a_p1_good, .ref a_p1_bad, .ref a_p1_open, .int (kI p1_least), .int (kI p1_most), .int (kI p1_goodCost), .int (kI p1_badCost), .int (kI p1_referCost)])), (a_p1_good, cAI G 1000 p1_good), (a_p1_bad, cAI G 1000 p1_bad), (a_p1_open, cAI G 1000 p1_open), (a_p2, .inr (4, [.ref a_p2_least, .ref a_p2_greatest, .ref a_p2_good, .ref a_p2_bad, .ref a_p2_rowsIn, .int (kI p2_size)])), (a_p2_least, cAI G 60 p2_least), (a_p2_greatest, cAI G 60 p2_greatest), (a_p2_good, cAI G 60 p2_good), (a_p2_bad, cAI G 60 p2_bad), (a_p2_rowsIn, cAI G 60 p2_rowsIn)] := hw
          exact w_X3_gather_b95 cx hlk hr N a_t a_t_score a_t_open a_t_bad a_p1 a_p1_good a_p1_bad a_p1_open a_p2 a_p2_least a_p2_greatest a_p2_good a_p2_bad a_p2_rowsIn p1_least p1_most p1_goodCost p1_badCost p1_referCost p1_good p1_bad p1_open p2_size p2_least p2_greatest p2_good p2_bad p2_rowsIn x3 r (m_X3_gather_b8 N p1_open p2_size p2_least p2_good p2_bad x3 n) ih (t_size + 1) (uP t_score t_size y4) (uP t_open t_size (p1_open y4)) (uP t_bad t_size r9) y4 h _ _ _ hw (lv_sub hl [0, 1, 2, 3, 4] rfl)
set_option maxHeartbeats 4000000 in
set_option maxRecDepth 100000 in
theorem c_X3_gather (l : Launch) (G : GG) (S : SM) (sz : Nat) (N : Nat) (a_t a_t_score a_t_open a_t_bad a_p1 a_p1_good a_p1_bad a_p1_open a_p2 a_p2_least a_p2_greatest a_p2_good a_p2_bad a_p2_rowsIn : Nat) (t_size : Int) (t_score : Int → Int) (t_open : Int → Int) (t_bad : Int → Int) (p1_least : Int) (p1_most : Int) (p1_goodCost : Int) (p1_badCost : Int) (p1_referCost : Int) (p1_good : Int → Int) (p1_bad : Int → Int) (p1_open : Int → Int) (p2_size : Int) (p2_least : Int → Int) (p2_greatest : Int → Int) (p2_good : Int → Int) (p2_bad : Int → Int) (p2_rowsIn : Int → Int) (x3 : Int) (r : Int × (Int → Int) × (Int → Int) × (Int → Int)) (h : m_X3_gather N p1_open p2_size p2_least p2_good p2_bad t_size t_score t_open t_bad x3 = some r) : CtV l yX3_gather cX3_gather 5 (rmD 3 0 0) G S sz [.ref a_t, .ref a_p1, .ref a_p2, .int (kI x3)] [(a_t, .inr (3, [.ref a_t_score, .ref a_t_open, .ref a_t_bad, .int (kI t_size)])), (a_t_score, cAI G 60 t_score), (a_t_open, cAI G 60 t_open), (a_t_bad, cAI G 60 t_bad), (a_p1, .inr (5, [.ref a_p1_good, .ref a_p1_bad, .ref a_p1_open, .int (kI p1_least), .int (kI p1_most), .int (kI p1_goodCost), .int (kI p1_badCost), .int (kI p1_referCost)])), (a_p1_good, cAI G 1000 p1_good), (a_p1_bad, cAI G 1000 p1_bad), (a_p1_open, cAI G 1000 p1_open), (a_p2, .inr (4, [.ref a_p2_least, .ref a_p2_greatest, .ref a_p2_good, .ref a_p2_bad, .ref a_p2_rowsIn, .int (kI p2_size)])), (a_p2_least, cAI G 60 p2_least), (a_p2_greatest, cAI G 60 p2_greatest), (a_p2_good, cAI G 60 p2_good), (a_p2_bad, cAI G 60 p2_bad), (a_p2_rowsIn, cAI G 60 p2_rowsIn)] [(a_t, .inr (3, [.ref a_t_score, .ref a_t_open, .ref a_t_bad, .int (kI r.1)])), (a_t_score, cAI G 60 r.2.1), (a_t_open, cAI G 60 r.2.2.1), (a_t_bad, cAI G 60 r.2.2.2), (a_p1, .inr (5, [.ref a_p1_good, .ref a_p1_bad, .ref a_p1_open, .int (kI p1_least), .int (kI p1_most), .int (kI p1_goodCost), .int (kI p1_badCost), .int (kI p1_referCost)])), (a_p1_good, cAI G 1000 p1_good), (a_p1_bad, cAI G 1000 p1_bad), (a_p1_open, cAI G 1000 p1_open), (a_p2, .inr (4, [.ref a_p2_least, .ref a_p2_greatest, .ref a_p2_good, .ref a_p2_bad, .ref a_p2_rowsIn, .int (kI p2_size)])), (a_p2_least, cAI G 60 p2_least), (a_p2_greatest, cAI G 60 p2_greatest), (a_p2_good, cAI G 60 p2_good), (a_p2_bad, cAI G 60 p2_bad), (a_p2_rowsIn, cAI G 60 p2_rowsIn)] := by
  refine met_V (by decide +kernel) (Nat.le_of_ble_eq_true rfl) ?_
  intro p e s m args below meth c A H locs ls cx hw hr hlk hnm hl
  have hl : lv_has ls 5 [(0, .ref a_t), (1, .ref a_p1), (2, .ref a_p2), (3, .int (kI x3))] := hl
  rw [m_X3_gather] at h
  obtain ⟨⟨hx, hb, -, -, -⟩, -⟩ := id cx
  refine lv_aload_n hx hb dX3_gather_0 rfl (lv_at hl 0 rfl) ?_
  refine ri_iconst hx hb dX3_gather_1 ?_
  refine rf_put hx hb cx hw 0 rfl rfl 3 inX3 tyX3 tyX3_ok nmX3 (by decide) fl_X3_21 rfl rfl rfl rfl (Nat.le_of_ble_eq_true rfl) dX3_gather_2 (fun H locs hw => ?_)
  have hw : HP G A s.heap H locs [(a_t, .inr (3, [.ref a_t_score, .ref a_t_open, .ref a_t_bad, .int (kI 0)])), (a_t_score, cAI G 60 t_score), (a_t_open, cAI G 60 t_open), (a_t_bad, cAI G 60 t_bad), (a_p1, .inr (5, [.ref a_p1_good, .ref a_p1_bad, .ref a_p1_open, .int (kI p1_least), .int (kI p1_most), .int (kI p1_goodCost), .int (kI p1_badCost), .int (kI p1_referCost)])), (a_p1_good, cAI G 1000 p1_good), (a_p1_bad, cAI G 1000 p1_bad), (a_p1_open, cAI G 1000 p1_open), (a_p2, .inr (4, [.ref a_p2_least, .ref a_p2_greatest, .ref a_p2_good, .ref a_p2_bad, .ref a_p2_rowsIn, .int (kI p2_size)])), (a_p2_least, cAI G 60 p2_least), (a_p2_greatest, cAI G 60 p2_greatest), (a_p2_good, cAI G 60 p2_good), (a_p2_bad, cAI G 60 p2_bad), (a_p2_rowsIn, cAI G 60 p2_rowsIn)] := hw
  refine ri_iconst hx hb dX3_gather_5 ?_
  refine lv_istore (lv' := [(4, .int (kI 0)), (0, .ref a_t), (1, .ref a_p1), (2, .ref a_p2), (3, .int (kI x3))]) hx hb dX3_gather_6 hl (by decide) rfl (fun ls hl => ?_)
  exact w_X3_gather_b8 cx hlk hr N a_t a_t_score a_t_open a_t_bad a_p1 a_p1_good a_p1_bad a_p1_open a_p2 a_p2_least a_p2_greatest a_p2_good a_p2_bad a_p2_rowsIn p1_least p1_most p1_goodCost p1_badCost p1_referCost p1_good p1_bad p1_open p2_size p2_least p2_greatest p2_good p2_bad p2_rowsIn x3 r N 0 t_score t_open t_bad 0 h _ _ _ hw (lv_sub hl [1, 2, 3, 4, 0] rfl)
def PL_X3_move_b2 (p : Program) (l : Launch) (e : Env) (s : State) (m : MethodId) (args : Array Value) (below : List Frame) (meth : Method) (c : Code) (A : Nat → Prop) (G : GG) (S : SM) (a_t a_t_score a_t_open a_t_bad a_p1 a_p1_good a_p1_bad a_p1_open : Nat) (t_size : Int) (t_score : Int → Int) (t_open : Int → Int) (t_bad : Int → Int) (p1_least : Int) (p1_most : Int) (p1_goodCost : Int) (p1_badCost : Int) (p1_referCost : Int) (x2 : Int) (r : (Int → Int) × (Int → Int) × (Int → Int)) (kk : (Int → Int) → (Int → Int) → (Int → Int) → Int → Option ((Int → Int) × (Int → Int) × (Int → Int))) : Prop := ∀ (p1_good : Int → Int) (p1_bad : Int → Int) (p1_open : Int → Int) (y3 : Int), kk p1_good p1_bad p1_open y3 = some r → ∀ (H : Heap) (locs : List Loc) (ls : Array Slot), HP G A s.heap H locs [(a_t, .inr (3, [.ref a_t_score, .ref a_t_open, .ref a_t_bad, .int (kI t_size)])), (a_t_score, cAI G 60 t_score), (a_t_open, cAI G 60 t_open), (a_t_bad, cAI G 60 t_bad), (a_p1, .inr (5, [.ref a_p1_good, .ref a_p1_bad, .ref a_p1_open, .int (kI p1_least), .int (kI p1_most), .int (kI p1_goodCost), .int (kI p1_badCost), .int (kI p1_referCost)])), (a_p1_good, cAI G 1000 p1_good), (a_p1_bad, cAI G 1000 p1_bad), (a_p1_open, cAI G 1000 p1_open)] → lv_has ls 4 [(0, .ref a_t), (1, .ref a_p1), (2, .int (kI x2)), (3, .int (kI y3))] → W p l e (rmD 2 0 0) s m args below meth c H locs 0 0 (MQ below (QcV G A [(a_t, .inr (3, [.ref a_t_score, .ref a_t_open, .ref a_t_bad, .int (kI t_size)])), (a_t_score, cAI G 60 t_score), (a_t_open, cAI G 60 t_open), (a_t_bad, cAI G 60 t_bad), (a_p1, .inr (5, [.ref a_p1_good, .ref a_p1_bad, .ref a_p1_open, .int (kI p1_least), .int (kI p1_most), .int (kI p1_goodCost), .int (kI p1_badCost), .int (kI p1_referCost)])), (a_p1_good, cAI G 1000 r.1), (a_p1_bad, cAI G 1000 r.2.1), (a_p1_open, cAI G 1000 r.2.2)]) args s (rmD 2 0 0).cells (rmD 2 0 0).slots A) (F0 m 2 ls [])
set_option maxHeartbeats 4000000 in
set_option maxRecDepth 100000 in
theorem w_X3_move_b2 {p : Program} {l : Launch} {e : Env} {s : State} {m : MethodId} {args : Array Value} {below : List Frame} {meth : Method} {c : Code} {A : Nat → Prop} {G : GG} {S : SM} (cx : CX p s m args c cX3_move RX3 4 G S A) (hlk : meth.locks = false) (hr : meth.sig.returnType = none) (N : Nat) (a_t a_t_score a_t_open a_t_bad a_p1 a_p1_good a_p1_bad a_p1_open : Nat) (t_size : Int) (t_score : Int → Int) (t_open : Int → Int) (t_bad : Int → Int) (p1_least : Int) (p1_most : Int) (p1_goodCost : Int) (p1_badCost : Int) (p1_referCost : Int) (x2 : Int) (r : (Int → Int) × (Int → Int) × (Int → Int)) : ∀ n : Nat, PL_X3_move_b2 p l e s m args below meth c A G S a_t a_t_score a_t_open a_t_bad a_p1 a_p1_good a_p1_bad a_p1_open t_size t_score t_open t_bad p1_least p1_most p1_goodCost p1_badCost p1_referCost x2 r (m_X3_move_b2 N t_size t_score t_open t_bad x2 n) := by
  intro n
  induction n with
  | zero => intro p1_good p1_bad p1_open y3 h; exact nomatch h
  | succ n ih =>
    intro p1_good p1_bad p1_open y3 h H locs ls hw hl
    rw [m_X3_move_b2] at h
    obtain ⟨⟨hx, hb, -, -, -⟩, -⟩ := id cx
    refine lv_iload_n hx hb dX3_move_2 rfl (lv_at hl 3 rfl) ?_
    refine lv_aload_n hx hb dX3_move_3 rfl (lv_at hl 0 rfl) ?_
    refine rf_get hx hb cx hw 0 rfl rfl 3 inX3 (by decide) fl_X3_21 rfl rfl dX3_move_4 ?_
    obtain ⟨g1, h⟩ := gd_some h
    obtain ⟨g2, h⟩ := gd_some h
    refine ri_icmp_ge (tgt := 71) hx hb g1 g2 dX3_move_7 (by decide) (fun c3 => ?_) (fun c3 => ?_)
    · have h := it_pos c3 h
      obtain rfl := so_inj h
      exact re_v hx hb hlk hr cx hw (Nat.le_of_ble_eq_true rfl) (Nat.le_of_ble_eq_true rfl) dX3_move_71
    · have h := it_neg c3 h
      refine lv_aload_n hx hb dX3_move_10 rfl (lv_at hl 1 rfl) ?_
      refine rf_get hx hb cx hw 4 rfl rfl 2 inX6 (by decide) fl_X3_25 rfl rfl dX3_move_11 ?_
      refine lv_aload_n hx hb dX3_move_14 rfl (lv_at hl 0 rfl) ?_
      refine rf_get hx hb cx hw 0 rfl rfl 0 inX3 (by decide) fl_X3_9 rfl rfl dX3_move_15 ?_
      refine lv_iload_n hx hb dX3_move_18 rfl (lv_at hl 3 rfl) ?_
      obtain ⟨g4, h⟩ := gd_some h
      refine ra_i hx hb cx hw 1 rfl (by decide) g4 dX3_move_19 ?_
      refine lv_dup2_11 hx hb dX3_move_20 rfl rfl ?_
      obtain ⟨g5, h⟩ := gd_some h
      refine ra_i hx hb cx hw 7 rfl (by decide) g5 dX3_move_21 ?_
      refine lv_iload_n hx hb dX3_move_22 rfl (lv_at hl 2 rfl) ?_
      refine lv_aload_n hx hb dX3_move_23 rfl (lv_at hl 0 rfl) ?_
      refine rf_get hx hb cx hw 0 rfl rfl 1 inX3 (by decide) fl_X3_15 rfl rfl dX3_move_24 ?_
      refine lv_iload_n hx hb dX3_move_27 rfl (lv_at hl 3 rfl) ?_
      refine ra_i hx hb cx hw 2 rfl (by decide) g4 dX3_move_28 ?_
      refine ri_imul hx hb dX3_move_29 ?_
      refine ri_isub hx hb dX3_move_30 ?_
      refine ra_si hx hb cx hw 7 rfl (by decide) g5 dX3_move_31 (fun H locs hw => ?_)
      have hw : HP G A s.heap H locs [(a_t, .inr (3, [.ref a_t_score, .ref a_t_open, .ref a_t_bad, .int (kI t_size)])), (a_t_score, cAI G 60 t_score), (a_t_open, cAI G 60 t_open), (a_t_bad, cAI G 60 t_bad), (a_p1, .inr (5, [.ref a_p1_good, .ref a_p1_bad, .ref a_p1_open, .int (kI p1_least), .int (kI p1_most), .int (kI p1_goodCost), .int (kI p1_badCost), .int (kI p1_referCost)])), (a_p1_good, cAI G 1000 p1_good), (a_p1_bad, cAI G 1000 p1_bad), (a_p1_open, cAI G 1000 (uP p1_open (t_score y3) ((p1_open (t_score y3)) - (x2 * (t_open y3)))))] := hw
      refine lv_aload_n hx hb dX3_move_32 rfl (lv_at hl 1 rfl) ?_
      refine lv_aload_n hx hb dX3_move_33 rfl (lv_at hl 0 rfl) ?_
      refine rf_get hx hb cx hw 0 rfl rfl 0 inX3 (by decide) fl_X3_9 rfl rfl dX3_move_34 ?_
      refine lv_iload_n hx hb dX3_move_37 rfl (lv_at hl 3 rfl) ?_
      refine ra_i hx hb cx hw 1 rfl (by decide) g4 dX3_move_38 ?_
      refine lv_iload_n hx hb dX3_move_39 rfl (lv_at hl 2 rfl) ?_
      refine lv_aload_n hx hb dX3_move_40 rfl (lv_at hl 0 rfl) ?_
      refine rf_get hx hb cx hw 0 rfl rfl 1 inX3 (by decide) fl_X3_15 rfl rfl dX3_move_41 ?_
      refine lv_iload_n hx hb dX3_move_44 rfl (lv_at hl 3 rfl) ?_
      refine ra_i hx hb cx hw 2 rfl (by decide) g4 dX3_move_45 ?_
      refine lv_aload_n hx hb dX3_move_46 rfl (lv_at hl 0 rfl) ?_
      refine rf_get hx hb cx hw 0 rfl rfl 2 inX3 (by decide) fl_X3_18 rfl rfl dX3_move_47 ?_
      refine lv_iload_n hx hb dX3_move_50 rfl (lv_at hl 3 rfl) ?_
      refine ra_i hx hb cx hw 3 rfl (by decide) g4 dX3_move_51 ?_
      refine ri_isub hx hb dX3_move_52 ?_
      refine ri_imul hx hb dX3_move_53 ?_
      refine lv_iload_n hx hb dX3_move_54 rfl (lv_at hl 2 rfl) ?_
      refine lv_aload_n hx hb dX3_move_55 rfl (lv_at hl 0 rfl) ?_
      refine rf_get hx hb cx hw 0 rfl rfl 2 inX3 (by decide) fl_X3_18 rfl rfl dX3_move_56 ?_
      refine lv_iload_n hx hb dX3_move_59 rfl (lv_at hl 3 rfl) ?_
      refine ra_i hx hb cx hw 3 rfl (by decide) g4 dX3_move_60 ?_
      refine ri_imul hx hb dX3_move_61 ?_
      obtain ⟨r6, h6, h⟩ := bd_some h
      refine rc_V (w2 := [(a_t, .inr (3, [.ref a_t_score, .ref a_t_open, .ref a_t_bad, .int (kI t_size)])), (a_t_score, cAI G 60 t_score), (a_t_open, cAI G 60 t_open), (a_t_bad, cAI G 60 t_bad), (a_p1, .inr (5, [.ref a_p1_good, .ref a_p1_bad, .ref a_p1_open, .int (kI p1_least), .int (kI p1_most), .int (kI p1_goodCost), .int (kI p1_badCost), .int (kI p1_referCost)])), (a_p1_good, cAI G 1000 r6.1), (a_p1_bad, cAI G 1000 r6.2), (a_p1_open, cAI G 1000 (uP p1_open (t_score y3) ((p1_open (t_score y3)) - (x2 * (t_open y3)))))]) hw [4, 5, 6, 7] [0, 1, 2, 3] [0, 1, 2, 3, 4, 5, 6, 7] (rr_V cx hw (c_X6_move l G S H.size N a_p1 a_p1_good a_p1_bad a_p1_open p1_least p1_most p1_goodCost p1_badCost p1_referCost p1_good p1_bad (uP p1_open (t_score y3) ((p1_open (t_score y3)) - (x2 * (t_open y3)))) (t_score y3) (x2 * ((t_open y3) - (t_bad y3))) (x2 * (t_bad y3)) _ h6) mv_X3_54 [4, 5, 6, 7] rfl rfl rfl 4 rfl rfl ⟨Nat.le_of_ble_eq_true rfl, Nat.le_of_ble_eq_true rfl⟩ rfl hl.1 rfl (Nat.le_of_ble_eq_true rfl) dX3_move_62 ⟨Nat.le_of_ble_eq_true rfl, Nat.le_of_ble_eq_true rfl⟩) rfl rfl rfl rfl rfl rfl rfl rfl (fun H locs hw => ?_)
      refine lv_iinc (v := kI (y3 + 1)) (lv' := [(3, .int (kI (y3 + 1))), (0, .ref a_t), (1, .ref a_p1), (2, .int (kI x2))]) hx hb dX3_move_65 hl (k := 3) rfl (kI_add _ _) (by decide) rfl (fun ls hl => ?_)
      refine lv_goto (tgt := 2) hx hb dX3_move_68 (by decide) ?_
      exact ih r6.1 r6.2 (uP p1_open (t_score y3) ((p1_open (t_score y3)) - (x2 * (t_open y3)))) (y3 + 1) h _ _ _ hw (lv_sub hl [1, 2, 3, 0] rfl)
set_option maxHeartbeats 4000000 in
set_option maxRecDepth 100000 in
theorem c_X3_move (l : Launch) (G : GG) (S : SM) (sz : Nat) (N : Nat) (a_t a_t_score a_t_open a_t_bad a_p1 a_p1_good a_p1_bad a_p1_open : Nat) (t_size : Int) (t_score : Int → Int) (t_open : Int → Int) (t_bad : Int → Int) (p1_least : Int) (p1_most : Int) (p1_goodCost : Int) (p1_badCost : Int) (p1_referCost : Int) (p1_good : Int → Int) (p1_bad : Int → Int) (p1_open : Int → Int) (x2 : Int) (r : (Int → Int) × (Int → Int) × (Int → Int)) (h : m_X3_move N t_size t_score t_open t_bad p1_good p1_bad p1_open x2 = some r) : CtV l yX3_move cX3_move 4 (rmD 2 0 0) G S sz [.ref a_t, .ref a_p1, .int (kI x2)] [(a_t, .inr (3, [.ref a_t_score, .ref a_t_open, .ref a_t_bad, .int (kI t_size)])), (a_t_score, cAI G 60 t_score), (a_t_open, cAI G 60 t_open), (a_t_bad, cAI G 60 t_bad), (a_p1, .inr (5, [.ref a_p1_good, .ref a_p1_bad, .ref a_p1_open, .int (kI p1_least), .int (kI p1_most), .int (kI p1_goodCost), .int (kI p1_badCost), .int (kI p1_referCost)])), (a_p1_good, cAI G 1000 p1_good), (a_p1_bad, cAI G 1000 p1_bad), (a_p1_open, cAI G 1000 p1_open)] [(a_t, .inr (3, [.ref a_t_score, .ref a_t_open, .ref a_t_bad, .int (kI t_size)])), (a_t_score, cAI G 60 t_score), (a_t_open, cAI G 60 t_open), (a_t_bad, cAI G 60 t_bad), (a_p1, .inr (5, [.ref a_p1_good, .ref a_p1_bad, .ref a_p1_open, .int (kI p1_least), .int (kI p1_most), .int (kI p1_goodCost), .int (kI p1_badCost), .int (kI p1_referCost)])), (a_p1_good, cAI G 1000 r.1), (a_p1_bad, cAI G 1000 r.2.1), (a_p1_open, cAI G 1000 r.2.2)] := by
  refine met_V (by decide +kernel) (Nat.le_of_ble_eq_true rfl) ?_
  intro p e s m args below meth c A H locs ls cx hw hr hlk hnm hl
  have hl : lv_has ls 4 [(0, .ref a_t), (1, .ref a_p1), (2, .int (kI x2))] := hl
  rw [m_X3_move] at h
  obtain ⟨⟨hx, hb, -, -, -⟩, -⟩ := id cx
  refine ri_iconst hx hb dX3_move_0 ?_
  refine lv_istore_n (lv' := [(3, .int (kI 0)), (0, .ref a_t), (1, .ref a_p1), (2, .int (kI x2))]) hx hb dX3_move_1 rfl hl (by decide) rfl (fun ls hl => ?_)
  exact w_X3_move_b2 cx hlk hr N a_t a_t_score a_t_open a_t_bad a_p1 a_p1_good a_p1_bad a_p1_open t_size t_score t_open t_bad p1_least p1_most p1_goodCost p1_badCost p1_referCost x2 r N p1_good p1_bad p1_open 0 h _ _ _ hw (lv_sub hl [1, 2, 3, 0] rfl)
set_option maxHeartbeats 4000000 in
set_option maxRecDepth 100000 in
theorem c_X4_init (l : Launch) (G : GG) (S : SM) (sz : Nat) (N : Nat) (a_t : Nat)   (r : Int × (Int → Int) × (Int → Int) × (Int → Int) × (Int → Int) × (Int → Int)) (h : m_X4_init N = some r) : CtVx l yX4_init cX4_init 1 (rmD 1 5 300) G S sz [.ref a_t] [(a_t, .inr (4, [.null, .null, .null, .null, .null, .int (kI 0)]))] (fun u => [(a_t, .inr (4, [.ref (u 0), .ref (u 1), .ref (u 2), .ref (u 3), .ref (u 4), .int (kI r.1)])), ((u 0), cAI G 60 r.2.1), ((u 1), cAI G 60 r.2.2.1), ((u 2), cAI G 60 r.2.2.2.1), ((u 3), cAI G 60 r.2.2.2.2.1), ((u 4), cAI G 60 r.2.2.2.2.2)]) := by
  refine met_Vx (by decide +kernel) (Nat.le_of_ble_eq_true rfl) ?_
  intro p e s m args below meth c A H locs ls cx hw hr hlk hnm hl
  have hl : lv_has ls 1 [(0, .ref a_t)] := hl
  rw [m_X4_init] at h
  obtain ⟨⟨hx, hb, -, -, -⟩, -⟩ := id cx
  refine lv_aload_n hx hb dX4_init_0 rfl (lv_at hl 0 rfl) ?_
  refine ro_init hx hb cx hl.1 jl_X4_3 (Nat.le_of_ble_eq_true rfl) (Nat.le_of_ble_eq_true rfl) dX4_init_1 ?_
  refine lv_aload_n hx hb dX4_init_4 rfl (lv_at hl 0 rfl) ?_
  refine ri_bipush hx hb dX4_init_5 rfl ?_
  refine ra_newI hx hb cx hw ⟨by decide, by decide⟩ (Nat.le_of_ble_eq_true rfl) (Nat.le_of_ble_eq_true rfl) dX4_init_7 (fun q7 H hw => ?_)
  have hw : HP G A s.heap H locs [(a_t, .inr (4, [.null, .null, .null, .null, .null, .int (kI 0)])), (q7, cAI G 60 (fun _ => 0))] := hw
  refine W.widen (k := 1) (n := 60) (Nat.le_of_ble_eq_true rfl) (Nat.le_of_ble_eq_true rfl) ?_
  refine rf_putF hx hb cx hw 0 rfl rfl 0 inX4 tyX4 tyX4_ok nmX4 (by decide) fl_X4_9 rfl rfl hnm rfl rfl (Nat.le_of_ble_eq_true rfl) dX4_init_9 (fun H locs hw => ?_)
  have hw : HP G A s.heap H locs [(a_t, .inr (4, [.ref q7, .null, .null, .null, .null, .int (kI 0)])), (q7, cAI G 60 (fun _ => 0))] := hw
  refine lv_aload_n hx hb dX4_init_12 rfl (lv_at hl 0 rfl) ?_
  refine ri_bipush hx hb dX4_init_13 rfl ?_
  refine ra_newI hx hb cx hw ⟨by decide, by decide⟩ (Nat.le_of_ble_eq_true rfl) (Nat.le_of_ble_eq_true rfl) dX4_init_15 (fun q15 H hw => ?_)
  have hw : HP G A s.heap H locs [(a_t, .inr (4, [.ref q7, .null, .null, .null, .null, .int (kI 0)])), (q7, cAI G 60 (fun _ => 0)), (q15, cAI G 60 (fun _ => 0))] := hw
  refine W.widen (k := 2) (n := 120) (Nat.le_of_ble_eq_true rfl) (Nat.le_of_ble_eq_true rfl) ?_
  refine rf_putF hx hb cx hw 0 rfl rfl 1 inX4 tyX4 tyX4_ok nmX4 (by decide) fl_X4_15 rfl rfl hnm rfl rfl (Nat.le_of_ble_eq_true rfl) dX4_init_17 (fun H locs hw => ?_)
  have hw : HP G A s.heap H locs [(a_t, .inr (4, [.ref q7, .ref q15, .null, .null, .null, .int (kI 0)])), (q7, cAI G 60 (fun _ => 0)), (q15, cAI G 60 (fun _ => 0))] := hw
  refine lv_aload_n hx hb dX4_init_20 rfl (lv_at hl 0 rfl) ?_
  refine ri_bipush hx hb dX4_init_21 rfl ?_
  refine ra_newI hx hb cx hw ⟨by decide, by decide⟩ (Nat.le_of_ble_eq_true rfl) (Nat.le_of_ble_eq_true rfl) dX4_init_23 (fun q23 H hw => ?_)
  have hw : HP G A s.heap H locs [(a_t, .inr (4, [.ref q7, .ref q15, .null, .null, .null, .int (kI 0)])), (q7, cAI G 60 (fun _ => 0)), (q15, cAI G 60 (fun _ => 0)), (q23, cAI G 60 (fun _ => 0))] := hw
  refine W.widen (k := 3) (n := 180) (Nat.le_of_ble_eq_true rfl) (Nat.le_of_ble_eq_true rfl) ?_
  refine rf_putF hx hb cx hw 0 rfl rfl 2 inX4 tyX4 tyX4_ok nmX4 (by decide) fl_X4_18 rfl rfl hnm rfl rfl (Nat.le_of_ble_eq_true rfl) dX4_init_25 (fun H locs hw => ?_)
  have hw : HP G A s.heap H locs [(a_t, .inr (4, [.ref q7, .ref q15, .ref q23, .null, .null, .int (kI 0)])), (q7, cAI G 60 (fun _ => 0)), (q15, cAI G 60 (fun _ => 0)), (q23, cAI G 60 (fun _ => 0))] := hw
  refine lv_aload_n hx hb dX4_init_28 rfl (lv_at hl 0 rfl) ?_
  refine ri_bipush hx hb dX4_init_29 rfl ?_
  refine ra_newI hx hb cx hw ⟨by decide, by decide⟩ (Nat.le_of_ble_eq_true rfl) (Nat.le_of_ble_eq_true rfl) dX4_init_31 (fun q31 H hw => ?_)
  have hw : HP G A s.heap H locs [(a_t, .inr (4, [.ref q7, .ref q15, .ref q23, .null, .null, .int (kI 0)])), (q7, cAI G 60 (fun _ => 0)), (q15, cAI G 60 (fun _ => 0)), (q23, cAI G 60 (fun _ => 0)), (q31, cAI G 60 (fun _ => 0))] := hw
  refine W.widen (k := 4) (n := 240) (Nat.le_of_ble_eq_true rfl) (Nat.le_of_ble_eq_true rfl) ?_
  refine rf_putF hx hb cx hw 0 rfl rfl 3 inX4 tyX4 tyX4_ok nmX4 (by decide) fl_X4_21 rfl rfl hnm rfl rfl (Nat.le_of_ble_eq_true rfl) dX4_init_33 (fun H locs hw => ?_)
  have hw : HP G A s.heap H locs [(a_t, .inr (4, [.ref q7, .ref q15, .ref q23, .ref q31, .null, .int (kI 0)])), (q7, cAI G 60 (fun _ => 0)), (q15, cAI G 60 (fun _ => 0)), (q23, cAI G 60 (fun _ => 0)), (q31, cAI G 60 (fun _ => 0))] := hw
  refine lv_aload_n hx hb dX4_init_36 rfl (lv_at hl 0 rfl) ?_
  refine ri_bipush hx hb dX4_init_37 rfl ?_
  refine ra_newI hx hb cx hw ⟨by decide, by decide⟩ (Nat.le_of_ble_eq_true rfl) (Nat.le_of_ble_eq_true rfl) dX4_init_39 (fun q39 H hw => ?_)
  have hw : HP G A s.heap H locs [(a_t, .inr (4, [.ref q7, .ref q15, .ref q23, .ref q31, .null, .int (kI 0)])), (q7, cAI G 60 (fun _ => 0)), (q15, cAI G 60 (fun _ => 0)), (q23, cAI G 60 (fun _ => 0)), (q31, cAI G 60 (fun _ => 0)), (q39, cAI G 60 (fun _ => 0))] := hw
  refine W.widen (k := 5) (n := 300) (Nat.le_of_ble_eq_true rfl) (Nat.le_of_ble_eq_true rfl) ?_
  refine rf_putF hx hb cx hw 0 rfl rfl 4 inX4 tyX4 tyX4_ok nmX4 (by decide) fl_X4_24 rfl rfl hnm rfl rfl (Nat.le_of_ble_eq_true rfl) dX4_init_41 (fun H locs hw => ?_)
  have hw : HP G A s.heap H locs [(a_t, .inr (4, [.ref q7, .ref q15, .ref q23, .ref q31, .ref q39, .int (kI 0)])), (q7, cAI G 60 (fun _ => 0)), (q15, cAI G 60 (fun _ => 0)), (q23, cAI G 60 (fun _ => 0)), (q31, cAI G 60 (fun _ => 0)), (q39, cAI G 60 (fun _ => 0))] := hw
  obtain rfl := so_inj h
  exact re_vx (fun i => [q7, q15, q23, q31, q39].getD i 0) hx hb hlk hr cx (HP.re hw [0, 1, 2, 3, 4, 5] rfl rfl rfl) (Nat.le_of_ble_eq_true rfl) (Nat.le_of_ble_eq_true rfl) dX4_init_44
set_option maxHeartbeats 4000000 in
set_option maxRecDepth 100000 in
theorem c_X4_falls (l : Launch) (G : GG) (S : SM) (sz : Nat) (N : Nat) (a_t a_t_least a_t_greatest a_t_good a_t_bad a_t_rowsIn : Nat) (t_size : Int) (t_least : Int → Int) (t_greatest : Int → Int) (t_good : Int → Int) (t_bad : Int → Int) (t_rowsIn : Int → Int) (x1 : Int) (r : Int) (h : m_X4_falls N t_good t_bad x1 = some r) : CtI l yX4_falls cX4_falls 2 .boolean (rmD 2 0 0) G S sz [.ref a_t, .int (kI x1)] [(a_t, .inr (4, [.ref a_t_least, .ref a_t_greatest, .ref a_t_good, .ref a_t_bad, .ref a_t_rowsIn, .int (kI t_size)])), (a_t_least, cAI G 60 t_least), (a_t_greatest, cAI G 60 t_greatest), (a_t_good, cAI G 60 t_good), (a_t_bad, cAI G 60 t_bad), (a_t_rowsIn, cAI G 60 t_rowsIn)] r [(a_t, .inr (4, [.ref a_t_least, .ref a_t_greatest, .ref a_t_good, .ref a_t_bad, .ref a_t_rowsIn, .int (kI t_size)])), (a_t_least, cAI G 60 t_least), (a_t_greatest, cAI G 60 t_greatest), (a_t_good, cAI G 60 t_good), (a_t_bad, cAI G 60 t_bad), (a_t_rowsIn, cAI G 60 t_rowsIn)] := by
  refine met_I (by decide +kernel) (Nat.le_of_ble_eq_true rfl) ?_
  intro p e s m args below meth c A H locs ls cx hw hr hlk hnm hl
  have hl : lv_has ls 2 [(0, .ref a_t), (1, .int (kI x1))] := hl
  rw [m_X4_falls] at h
  obtain ⟨⟨hx, hb, -, -, -⟩, -⟩ := id cx
  refine lv_aload_n hx hb dX4_falls_0 rfl (lv_at hl 0 rfl) ?_
  refine rf_get hx hb cx hw 0 rfl rfl 3 inX4 (by decide) fl_X4_21 rfl rfl dX4_falls_1 ?_
  refine lv_iload_n hx hb dX4_falls_4 rfl (lv_at hl 1 rfl) ?_
  refine ri_iconst hx hb dX4_falls_5 ?_
  refine ri_iadd hx hb dX4_falls_6 ?_
  obtain ⟨g1, h⟩ := gd_some h
  refine ra_i hx hb cx hw 4 rfl (by decide) g1 dX4_falls_7 ?_
  refine lv_aload_n hx hb dX4_falls_8 rfl (lv_at hl 0 rfl) ?_
  refine lv_iload_n hx hb dX4_falls_9 rfl (lv_at hl 1 rfl) ?_
  obtain ⟨r2, h2, h⟩ := bd_some h
  refine rc_I0 (v := r2) hw [0, 1, 2, 3, 4, 5] (rr_V cx hw (c_X4_cases l G S H.size N a_t a_t_least a_t_greatest a_t_good a_t_bad a_t_rowsIn t_size t_least t_greatest t_good t_bad t_rowsIn x1 _ h2) mv_X4_57 [0, 1, 2, 3, 4, 5] rfl rfl rfl 0 rfl rfl ⟨Nat.le_of_ble_eq_true rfl, Nat.le_of_ble_eq_true rfl⟩ rfl hl.1 rfl (Nat.le_of_ble_eq_true rfl) dX4_falls_10 ⟨Nat.le_of_ble_eq_true rfl, Nat.le_of_ble_eq_true rfl⟩) rfl rfl (fun H locs hw => ?_)
  refine ri_imul hx hb dX4_falls_13 ?_
  refine lv_aload_n hx hb dX4_falls_14 rfl (lv_at hl 0 rfl) ?_
  refine rf_get hx hb cx hw 0 rfl rfl 3 inX4 (by decide) fl_X4_21 rfl rfl dX4_falls_15 ?_
  refine lv_iload_n hx hb dX4_falls_18 rfl (lv_at hl 1 rfl) ?_
  obtain ⟨g3, h⟩ := gd_some h
  refine ra_i hx hb cx hw 4 rfl (by decide) g3 dX4_falls_19 ?_
  refine lv_aload_n hx hb dX4_falls_20 rfl (lv_at hl 0 rfl) ?_
  refine lv_iload_n hx hb dX4_falls_21 rfl (lv_at hl 1 rfl) ?_
  refine ri_iconst hx hb dX4_falls_22 ?_
  refine ri_iadd hx hb dX4_falls_23 ?_
  obtain ⟨r4, h4, h⟩ := bd_some h
  refine rc_I0 (v := r4) hw [0, 1, 2, 3, 4, 5] (rr_V cx hw (c_X4_cases l G S H.size N a_t a_t_least a_t_greatest a_t_good a_t_bad a_t_rowsIn t_size t_least t_greatest t_good t_bad t_rowsIn (x1 + 1) _ h4) mv_X4_57 [0, 1, 2, 3, 4, 5] rfl rfl rfl 0 rfl rfl ⟨Nat.le_of_ble_eq_true rfl, Nat.le_of_ble_eq_true rfl⟩ rfl hl.1 rfl (Nat.le_of_ble_eq_true rfl) dX4_falls_24 ⟨Nat.le_of_ble_eq_true rfl, Nat.le_of_ble_eq_true rfl⟩) rfl rfl (fun H locs hw => ?_)
  refine ri_imul hx hb dX4_falls_27 ?_
  obtain ⟨g5, h⟩ := gd_some h
  obtain ⟨g6, h⟩ := gd_some h
  refine ri_icmp_ge (tgt := 35) hx hb g5 g6 dX4_falls_28 (by decide) (fun c7 => ?_) (fun c7 => ?_)
  · have h := it_pos c7 h
    refine ri_iconst hx hb dX4_falls_35 ?_
    obtain rfl := so_inj h
    exact re_z (Or.inl rfl)  hx hb hlk hr cx hw (Nat.le_of_ble_eq_true rfl) (Nat.le_of_ble_eq_true rfl) dX4_falls_36
  · have h := it_neg c7 h
    refine ri_iconst hx hb dX4_falls_31 ?_
    refine lv_goto (tgt := 36) hx hb dX4_falls_32 (by decide) ?_
    obtain rfl := so_inj h
    exact re_z (Or.inr rfl)  hx hb hlk hr cx hw (Nat.le_of_ble_eq_true rfl) (Nat.le_of_ble_eq_true rfl) dX4_falls_36
set_option maxHeartbeats 4000000 in
set_option maxRecDepth 100000 in
theorem c_X4_join (l : Launch) (G : GG) (S : SM) (sz : Nat) (N : Nat) (a_t a_t_least a_t_greatest a_t_good a_t_bad a_t_rowsIn : Nat) (t_size : Int) (t_least : Int → Int) (t_greatest : Int → Int) (t_good : Int → Int) (t_bad : Int → Int) (t_rowsIn : Int → Int) (x1 : Int) (r : Int × (Int → Int) × (Int → Int) × (Int → Int) × (Int → Int) × (Int → Int)) (h : m_X4_join N t_size t_least t_greatest t_good t_bad t_rowsIn x1 = some r) : CtV l yX4_join cX4_join 3 (rmD 1 0 0) G S sz [.ref a_t, .int (kI x1)] [(a_t, .inr (4, [.ref a_t_least, .ref a_t_greatest, .ref a_t_good, .ref a_t_bad, .ref a_t_rowsIn, .int (kI t_size)])), (a_t_least, cAI G 60 t_least), (a_t_greatest, cAI G 60 t_greatest), (a_t_good, cAI G 60 t_good), (a_t_bad, cAI G 60 t_bad), (a_t_rowsIn, cAI G 60 t_rowsIn)] [(a_t, .inr (4, [.ref a_t_least, .ref a_t_greatest, .ref a_t_good, .ref a_t_bad, .ref a_t_rowsIn, .int (kI r.1)])), (a_t_least, cAI G 60 r.2.1), (a_t_greatest, cAI G 60 r.2.2.1), (a_t_good, cAI G 60 r.2.2.2.1), (a_t_bad, cAI G 60 r.2.2.2.2.1), (a_t_rowsIn, cAI G 60 r.2.2.2.2.2)] := by
  refine met_V (by decide +kernel) (Nat.le_of_ble_eq_true rfl) ?_
  intro p e s m args below meth c A H locs ls cx hw hr hlk hnm hl
  have hl : lv_has ls 3 [(0, .ref a_t), (1, .int (kI x1))] := hl
  rw [m_X4_join] at h
  obtain ⟨⟨hx, hb, -, -, -⟩, -⟩ := id cx
  refine lv_iload_n hx hb dX4_join_0 rfl (lv_at hl 1 rfl) ?_
  obtain ⟨g1, h⟩ := gd_some h
  refine ri_if_lt (tgt := 14) hx hb g1 dX4_join_1 (by decide) (fun c2 => ?_) (fun c2 => ?_)
  · have h := it_pos c2 h
    obtain rfl := so_inj h
    exact re_v hx hb hlk hr cx hw (Nat.le_of_ble_eq_true rfl) (Nat.le_of_ble_eq_true rfl) dX4_join_14
  · have h := it_neg c2 h
    refine lv_iload_n hx hb dX4_join_4 rfl (lv_at hl 1 rfl) ?_
    refine ri_iconst hx hb dX4_join_5 ?_
    refine ri_iadd hx hb dX4_join_6 ?_
    refine lv_aload_n hx hb dX4_join_7 rfl (lv_at hl 0 rfl) ?_
    refine rf_get hx hb cx hw 0 rfl rfl 5 inX4 (by decide) fl_X4_27 rfl rfl dX4_join_8 ?_
    obtain ⟨g3, h⟩ := gd_some h
    obtain ⟨g4, h⟩ := gd_some h
    refine ri_icmp_lt (tgt := 15) hx hb g3 g4 dX4_join_11 (by decide) (fun c5 => ?_) (fun c5 => ?_)
    · have h := it_pos c5 h
      refine lv_aload_n hx hb dX4_join_15 rfl (lv_at hl 0 rfl) ?_
      refine rf_get hx hb cx hw 0 rfl rfl 1 inX4 (by decide) fl_X4_15 rfl rfl dX4_join_16 ?_
      refine lv_iload_n hx hb dX4_join_19 rfl (lv_at hl 1 rfl) ?_
      refine lv_aload_n hx hb dX4_join_20 rfl (lv_at hl 0 rfl) ?_
      refine rf_get hx hb cx hw 0 rfl rfl 1 inX4 (by decide) fl_X4_15 rfl rfl dX4_join_21 ?_
      refine lv_iload_n hx hb dX4_join_24 rfl (lv_at hl 1 rfl) ?_
      refine ri_iconst hx hb dX4_join_25 ?_
      refine ri_iadd hx hb dX4_join_26 ?_
      obtain ⟨g6, h⟩ := gd_some h
      refine ra_i hx hb cx hw 2 rfl (by decide) g6 dX4_join_27 ?_
      obtain ⟨g7, h⟩ := gd_some h
      refine ra_si hx hb cx hw 2 rfl (by decide) g7 dX4_join_28 (fun H locs hw => ?_)
      have hw : HP G A s.heap H locs [(a_t, .inr (4, [.ref a_t_least, .ref a_t_greatest, .ref a_t_good, .ref a_t_bad, .ref a_t_rowsIn, .int (kI t_size)])), (a_t_least, cAI G 60 t_least), (a_t_greatest, cAI G 60 (uP t_greatest x1 (t_greatest (x1 + 1)))), (a_t_good, cAI G 60 t_good), (a_t_bad, cAI G 60 t_bad), (a_t_rowsIn, cAI G 60 t_rowsIn)] := hw
      refine lv_aload_n hx hb dX4_join_29 rfl (lv_at hl 0 rfl) ?_
      refine rf_get hx hb cx hw 0 rfl rfl 2 inX4 (by decide) fl_X4_18 rfl rfl dX4_join_30 ?_
      refine lv_iload_n hx hb dX4_join_33 rfl (lv_at hl 1 rfl) ?_
      refine lv_dup2_11 hx hb dX4_join_34 rfl rfl ?_
      refine ra_i hx hb cx hw 3 rfl (by decide) g7 dX4_join_35 ?_
      refine lv_aload_n hx hb dX4_join_36 rfl (lv_at hl 0 rfl) ?_
      refine rf_get hx hb cx hw 0 rfl rfl 2 inX4 (by decide) fl_X4_18 rfl rfl dX4_join_37 ?_
      refine lv_iload_n hx hb dX4_join_40 rfl (lv_at hl 1 rfl) ?_
      refine ri_iconst hx hb dX4_join_41 ?_
      refine ri_iadd hx hb dX4_join_42 ?_
      refine ra_i hx hb cx hw 3 rfl (by decide) g6 dX4_join_43 ?_
      refine ri_iadd hx hb dX4_join_44 ?_
      refine ra_si hx hb cx hw 3 rfl (by decide) g7 dX4_join_45 (fun H locs hw => ?_)
      have hw : HP G A s.heap H locs [(a_t, .inr (4, [.ref a_t_least, .ref a_t_greatest, .ref a_t_good, .ref a_t_bad, .ref a_t_rowsIn, .int (kI t_size)])), (a_t_least, cAI G 60 t_least), (a_t_greatest, cAI G 60 (uP t_greatest x1 (t_greatest (x1 + 1)))), (a_t_good, cAI G 60 (uP t_good x1 ((t_good x1) + (t_good (x1 + 1))))), (a_t_bad, cAI G 60 t_bad), (a_t_rowsIn, cAI G 60 t_rowsIn)] := hw
      refine lv_aload_n hx hb dX4_join_46 rfl (lv_at hl 0 rfl) ?_
      refine rf_get hx hb cx hw 0 rfl rfl 3 inX4 (by decide) fl_X4_21 rfl rfl dX4_join_47 ?_
      refine lv_iload_n hx hb dX4_join_50 rfl (lv_at hl 1 rfl) ?_
      refine lv_dup2_11 hx hb dX4_join_51 rfl rfl ?_
      refine ra_i hx hb cx hw 4 rfl (by decide) g7 dX4_join_52 ?_
      refine lv_aload_n hx hb dX4_join_53 rfl (lv_at hl 0 rfl) ?_
      refine rf_get hx hb cx hw 0 rfl rfl 3 inX4 (by decide) fl_X4_21 rfl rfl dX4_join_54 ?_
      refine lv_iload_n hx hb dX4_join_57 rfl (lv_at hl 1 rfl) ?_
      refine ri_iconst hx hb dX4_join_58 ?_
      refine ri_iadd hx hb dX4_join_59 ?_
      refine ra_i hx hb cx hw 4 rfl (by decide) g6 dX4_join_60 ?_
      refine ri_iadd hx hb dX4_join_61 ?_
      refine ra_si hx hb cx hw 4 rfl (by decide) g7 dX4_join_62 (fun H locs hw => ?_)
      have hw : HP G A s.heap H locs [(a_t, .inr (4, [.ref a_t_least, .ref a_t_greatest, .ref a_t_good, .ref a_t_bad, .ref a_t_rowsIn, .int (kI t_size)])), (a_t_least, cAI G 60 t_least), (a_t_greatest, cAI G 60 (uP t_greatest x1 (t_greatest (x1 + 1)))), (a_t_good, cAI G 60 (uP t_good x1 ((t_good x1) + (t_good (x1 + 1))))), (a_t_bad, cAI G 60 (uP t_bad x1 ((t_bad x1) + (t_bad (x1 + 1))))), (a_t_rowsIn, cAI G 60 t_rowsIn)] := hw
      refine lv_aload_n hx hb dX4_join_63 rfl (lv_at hl 0 rfl) ?_
      refine rf_get hx hb cx hw 0 rfl rfl 4 inX4 (by decide) fl_X4_24 rfl rfl dX4_join_64 ?_
      refine lv_iload_n hx hb dX4_join_67 rfl (lv_at hl 1 rfl) ?_
      refine lv_dup2_11 hx hb dX4_join_68 rfl rfl ?_
      refine ra_i hx hb cx hw 5 rfl (by decide) g7 dX4_join_69 ?_
      refine lv_aload_n hx hb dX4_join_70 rfl (lv_at hl 0 rfl) ?_
      refine rf_get hx hb cx hw 0 rfl rfl 4 inX4 (by decide) fl_X4_24 rfl rfl dX4_join_71 ?_
      refine lv_iload_n hx hb dX4_join_74 rfl (lv_at hl 1 rfl) ?_
      refine ri_iconst hx hb dX4_join_75 ?_
      refine ri_iadd hx hb dX4_join_76 ?_
      refine ra_i hx hb cx hw 5 rfl (by decide) g6 dX4_join_77 ?_
      refine ri_iadd hx hb dX4_join_78 ?_
      refine ra_si hx hb cx hw 5 rfl (by decide) g7 dX4_join_79 (fun H locs hw => ?_)
      have hw : HP G A s.heap H locs [(a_t, .inr (4, [.ref a_t_least, .ref a_t_greatest, .ref a_t_good, .ref a_t_bad, .ref a_t_rowsIn, .int (kI t_size)])), (a_t_least, cAI G 60 t_least), (a_t_greatest, cAI G 60 (uP t_greatest x1 (t_greatest (x1 + 1)))), (a_t_good, cAI G 60 (uP t_good x1 ((t_good x1) + (t_good (x1 + 1))))), (a_t_bad, cAI G 60 (uP t_bad x1 ((t_bad x1) + (t_bad (x1 + 1))))), (a_t_rowsIn, cAI G 60 (uP t_rowsIn x1 ((t_rowsIn x1) + (t_rowsIn (x1 + 1)))))] := hw
      refine lv_aload_n hx hb dX4_join_80 rfl (lv_at hl 0 rfl) ?_
      refine lv_dup hx hb dX4_join_81 rfl ?_
      refine rf_get hx hb cx hw 0 rfl rfl 5 inX4 (by decide) fl_X4_27 rfl rfl dX4_join_82 ?_
      refine ri_iconst hx hb dX4_join_85 ?_
      refine ri_isub hx hb dX4_join_86 ?_
      refine rf_put hx hb cx hw 0 rfl rfl 5 inX4 tyX4 tyX4_ok nmX4 (by decide) fl_X4_27 rfl rfl rfl rfl (Nat.le_of_ble_eq_true rfl) dX4_join_87 (fun H locs hw => ?_)
      have hw : HP G A s.heap H locs [(a_t, .inr (4, [.ref a_t_least, .ref a_t_greatest, .ref a_t_good, .ref a_t_bad, .ref a_t_rowsIn, .int (kI (t_size - 1))])), (a_t_least, cAI G 60 t_least), (a_t_greatest, cAI G 60 (uP t_greatest x1 (t_greatest (x1 + 1)))), (a_t_good, cAI G 60 (uP t_good x1 ((t_good x1) + (t_good (x1 + 1))))), (a_t_bad, cAI G 60 (uP t_bad x1 ((t_bad x1) + (t_bad (x1 + 1))))), (a_t_rowsIn, cAI G 60 (uP t_rowsIn x1 ((t_rowsIn x1) + (t_rowsIn (x1 + 1)))))] := hw
      refine lv_aload_n hx hb dX4_join_90 rfl (lv_at hl 0 rfl) ?_
      refine rf_get hx hb cx hw 0 rfl rfl 5 inX4 (by decide) fl_X4_27 rfl rfl dX4_join_91 ?_
      refine lv_iload_n hx hb dX4_join_94 rfl (lv_at hl 1 rfl) ?_
      refine ri_isub hx hb dX4_join_95 ?_
      refine ri_iconst hx hb dX4_join_96 ?_
      refine ri_isub hx hb dX4_join_97 ?_
      refine lv_istore_n (lv' := [(2, .int (kI (((t_size - 1) - x1) - 1))), (0, .ref a_t), (1, .int (kI x1))]) hx hb dX4_join_98 rfl hl (by decide) rfl (fun ls hl => ?_)
      refine lv_aload_n hx hb dX4_join_99 rfl (lv_at hl 1 rfl) ?_
      refine rf_get hx hb cx hw 0 rfl rfl 0 inX4 (by decide) fl_X4_9 rfl rfl dX4_join_100 ?_
      refine lv_iload_n hx hb dX4_join_103 rfl (lv_at hl 2 rfl) ?_
      refine ri_iconst hx hb dX4_join_104 ?_
      refine ri_iadd hx hb dX4_join_105 ?_
      refine lv_aload_n hx hb dX4_join_106 rfl (lv_at hl 1 rfl) ?_
      refine rf_get hx hb cx hw 0 rfl rfl 0 inX4 (by decide) fl_X4_9 rfl rfl dX4_join_107 ?_
      refine lv_iload_n hx hb dX4_join_110 rfl (lv_at hl 2 rfl) ?_
      refine ri_iconst hx hb dX4_join_111 ?_
      refine ri_iadd hx hb dX4_join_112 ?_
      refine lv_iload_n hx hb dX4_join_113 rfl (lv_at hl 0 rfl) ?_
      obtain ⟨g8, h⟩ := gd_some h
      obtain ⟨g9, h⟩ := gd_some h
      obtain ⟨g10, h⟩ := gd_some h
      refine rj_copy hx hb cx hl.1 hw jl_X4_47 1 1 rfl rfl g8 g3 g9 g10 (Nat.le_of_ble_eq_true rfl) (Nat.le_of_ble_eq_true rfl) dX4_join_114 (fun H locs hw => ?_)
      have hw : HP G A s.heap H locs [(a_t, .inr (4, [.ref a_t_least, .ref a_t_greatest, .ref a_t_good, .ref a_t_bad, .ref a_t_rowsIn, .int (kI (t_size - 1))])), (a_t_least, cAI G 60 (cP t_least t_least (x1 + 2) (x1 + 1) (((t_size - 1) - x1) - 1))), (a_t_greatest, cAI G 60 (uP t_greatest x1 (t_greatest (x1 + 1)))), (a_t_good, cAI G 60 (uP t_good x1 ((t_good x1) + (t_good (x1 + 1))))), (a_t_bad, cAI G 60 (uP t_bad x1 ((t_bad x1) + (t_bad (x1 + 1))))), (a_t_rowsIn, cAI G 60 (uP t_rowsIn x1 ((t_rowsIn x1) + (t_rowsIn (x1 + 1)))))] := hw
      refine lv_aload_n hx hb dX4_join_117 rfl (lv_at hl 1 rfl) ?_
      refine rf_get hx hb cx hw 0 rfl rfl 1 inX4 (by decide) fl_X4_15 rfl rfl dX4_join_118 ?_
      refine lv_iload_n hx hb dX4_join_121 rfl (lv_at hl 2 rfl) ?_
      refine ri_iconst hx hb dX4_join_122 ?_
      refine ri_iadd hx hb dX4_join_123 ?_
      refine lv_aload_n hx hb dX4_join_124 rfl (lv_at hl 1 rfl) ?_
      refine rf_get hx hb cx hw 0 rfl rfl 1 inX4 (by decide) fl_X4_15 rfl rfl dX4_join_125 ?_
      refine lv_iload_n hx hb dX4_join_128 rfl (lv_at hl 2 rfl) ?_
      refine ri_iconst hx hb dX4_join_129 ?_
      refine ri_iadd hx hb dX4_join_130 ?_
      refine lv_iload_n hx hb dX4_join_131 rfl (lv_at hl 0 rfl) ?_
      refine rj_copy hx hb cx hl.1 hw jl_X4_47 2 2 rfl rfl g8 g3 g9 g10 (Nat.le_of_ble_eq_true rfl) (Nat.le_of_ble_eq_true rfl) dX4_join_132 (fun H locs hw => ?_)
      have hw : HP G A s.heap H locs [(a_t, .inr (4, [.ref a_t_least, .ref a_t_greatest, .ref a_t_good, .ref a_t_bad, .ref a_t_rowsIn, .int (kI (t_size - 1))])), (a_t_least, cAI G 60 (cP t_least t_least (x1 + 2) (x1 + 1) (((t_size - 1) - x1) - 1))), (a_t_greatest, cAI G 60 (cP (uP t_greatest x1 (t_greatest (x1 + 1))) (uP t_greatest x1 (t_greatest (x1 + 1))) (x1 + 2) (x1 + 1) (((t_size - 1) - x1) - 1))), (a_t_good, cAI G 60 (uP t_good x1 ((t_good x1) + (t_good (x1 + 1))))), (a_t_bad, cAI G 60 (uP t_bad x1 ((t_bad x1) + (t_bad (x1 + 1))))), (a_t_rowsIn, cAI G 60 (uP t_rowsIn x1 ((t_rowsIn x1) + (t_rowsIn (x1 + 1)))))] := hw
      refine lv_aload_n hx hb dX4_join_135 rfl (lv_at hl 1 rfl) ?_
      refine rf_get hx hb cx hw 0 rfl rfl 2 inX4 (by decide) fl_X4_18 rfl rfl dX4_join_136 ?_
      refine lv_iload_n hx hb dX4_join_139 rfl (lv_at hl 2 rfl) ?_
      refine ri_iconst hx hb dX4_join_140 ?_
      refine ri_iadd hx hb dX4_join_141 ?_
      refine lv_aload_n hx hb dX4_join_142 rfl (lv_at hl 1 rfl) ?_
      refine rf_get hx hb cx hw 0 rfl rfl 2 inX4 (by decide) fl_X4_18 rfl rfl dX4_join_143 ?_
      refine lv_iload_n hx hb dX4_join_146 rfl (lv_at hl 2 rfl) ?_
      refine ri_iconst hx hb dX4_join_147 ?_
      refine ri_iadd hx hb dX4_join_148 ?_
      refine lv_iload_n hx hb dX4_join_149 rfl (lv_at hl 0 rfl) ?_
      refine rj_copy hx hb cx hl.1 hw jl_X4_47 3 3 rfl rfl g8 g3 g9 g10 (Nat.le_of_ble_eq_true rfl) (Nat.le_of_ble_eq_true rfl) dX4_join_150 (fun H locs hw => ?_)
      have hw : HP G A s.heap H locs [(a_t, .inr (4, [.ref a_t_least, .ref a_t_greatest, .ref a_t_good, .ref a_t_bad, .ref a_t_rowsIn, .int (kI (t_size - 1))])), (a_t_least, cAI G 60 (cP t_least t_least (x1 + 2) (x1 + 1) (((t_size - 1) - x1) - 1))), (a_t_greatest, cAI G 60 (cP (uP t_greatest x1 (t_greatest (x1 + 1))) (uP t_greatest x1 (t_greatest (x1 + 1))) (x1 + 2) (x1 + 1) (((t_size - 1) - x1) - 1))), (a_t_good, cAI G 60 (cP (uP t_good x1 ((t_good x1) + (t_good (x1 + 1)))) (uP t_good x1 ((t_good x1) + (t_good (x1 + 1)))) (x1 + 2) (x1 + 1) (((t_size - 1) - x1) - 1))), (a_t_bad, cAI G 60 (uP t_bad x1 ((t_bad x1) + (t_bad (x1 + 1))))), (a_t_rowsIn, cAI G 60 (uP t_rowsIn x1 ((t_rowsIn x1) + (t_rowsIn (x1 + 1)))))] := hw
      refine lv_aload_n hx hb dX4_join_153 rfl (lv_at hl 1 rfl) ?_
      refine rf_get hx hb cx hw 0 rfl rfl 3 inX4 (by decide) fl_X4_21 rfl rfl dX4_join_154 ?_
      refine lv_iload_n hx hb dX4_join_157 rfl (lv_at hl 2 rfl) ?_
      refine ri_iconst hx hb dX4_join_158 ?_
      refine ri_iadd hx hb dX4_join_159 ?_
      refine lv_aload_n hx hb dX4_join_160 rfl (lv_at hl 1 rfl) ?_
      refine rf_get hx hb cx hw 0 rfl rfl 3 inX4 (by decide) fl_X4_21 rfl rfl dX4_join_161 ?_
      refine lv_iload_n hx hb dX4_join_164 rfl (lv_at hl 2 rfl) ?_
      refine ri_iconst hx hb dX4_join_165 ?_
      refine ri_iadd hx hb dX4_join_166 ?_
      refine lv_iload_n hx hb dX4_join_167 rfl (lv_at hl 0 rfl) ?_
      refine rj_copy hx hb cx hl.1 hw jl_X4_47 4 4 rfl rfl g8 g3 g9 g10 (Nat.le_of_ble_eq_true rfl) (Nat.le_of_ble_eq_true rfl) dX4_join_168 (fun H locs hw => ?_)
      have hw : HP G A s.heap H locs [(a_t, .inr (4, [.ref a_t_least, .ref a_t_greatest, .ref a_t_good, .ref a_t_bad, .ref a_t_rowsIn, .int (kI (t_size - 1))])), (a_t_least, cAI G 60 (cP t_least t_least (x1 + 2) (x1 + 1) (((t_size - 1) - x1) - 1))), (a_t_greatest, cAI G 60 (cP (uP t_greatest x1 (t_greatest (x1 + 1))) (uP t_greatest x1 (t_greatest (x1 + 1))) (x1 + 2) (x1 + 1) (((t_size - 1) - x1) - 1))), (a_t_good, cAI G 60 (cP (uP t_good x1 ((t_good x1) + (t_good (x1 + 1)))) (uP t_good x1 ((t_good x1) + (t_good (x1 + 1)))) (x1 + 2) (x1 + 1) (((t_size - 1) - x1) - 1))), (a_t_bad, cAI G 60 (cP (uP t_bad x1 ((t_bad x1) + (t_bad (x1 + 1)))) (uP t_bad x1 ((t_bad x1) + (t_bad (x1 + 1)))) (x1 + 2) (x1 + 1) (((t_size - 1) - x1) - 1))), (a_t_rowsIn, cAI G 60 (uP t_rowsIn x1 ((t_rowsIn x1) + (t_rowsIn (x1 + 1)))))] := hw
      refine lv_aload_n hx hb dX4_join_171 rfl (lv_at hl 1 rfl) ?_
      refine rf_get hx hb cx hw 0 rfl rfl 4 inX4 (by decide) fl_X4_24 rfl rfl dX4_join_172 ?_
      refine lv_iload_n hx hb dX4_join_175 rfl (lv_at hl 2 rfl) ?_
      refine ri_iconst hx hb dX4_join_176 ?_
      refine ri_iadd hx hb dX4_join_177 ?_
      refine lv_aload_n hx hb dX4_join_178 rfl (lv_at hl 1 rfl) ?_
      refine rf_get hx hb cx hw 0 rfl rfl 4 inX4 (by decide) fl_X4_24 rfl rfl dX4_join_179 ?_
      refine lv_iload_n hx hb dX4_join_182 rfl (lv_at hl 2 rfl) ?_
      refine ri_iconst hx hb dX4_join_183 ?_
      refine ri_iadd hx hb dX4_join_184 ?_
      refine lv_iload_n hx hb dX4_join_185 rfl (lv_at hl 0 rfl) ?_
      refine rj_copy hx hb cx hl.1 hw jl_X4_47 5 5 rfl rfl g8 g3 g9 g10 (Nat.le_of_ble_eq_true rfl) (Nat.le_of_ble_eq_true rfl) dX4_join_186 (fun H locs hw => ?_)
      have hw : HP G A s.heap H locs [(a_t, .inr (4, [.ref a_t_least, .ref a_t_greatest, .ref a_t_good, .ref a_t_bad, .ref a_t_rowsIn, .int (kI (t_size - 1))])), (a_t_least, cAI G 60 (cP t_least t_least (x1 + 2) (x1 + 1) (((t_size - 1) - x1) - 1))), (a_t_greatest, cAI G 60 (cP (uP t_greatest x1 (t_greatest (x1 + 1))) (uP t_greatest x1 (t_greatest (x1 + 1))) (x1 + 2) (x1 + 1) (((t_size - 1) - x1) - 1))), (a_t_good, cAI G 60 (cP (uP t_good x1 ((t_good x1) + (t_good (x1 + 1)))) (uP t_good x1 ((t_good x1) + (t_good (x1 + 1)))) (x1 + 2) (x1 + 1) (((t_size - 1) - x1) - 1))), (a_t_bad, cAI G 60 (cP (uP t_bad x1 ((t_bad x1) + (t_bad (x1 + 1)))) (uP t_bad x1 ((t_bad x1) + (t_bad (x1 + 1)))) (x1 + 2) (x1 + 1) (((t_size - 1) - x1) - 1))), (a_t_rowsIn, cAI G 60 (cP (uP t_rowsIn x1 ((t_rowsIn x1) + (t_rowsIn (x1 + 1)))) (uP t_rowsIn x1 ((t_rowsIn x1) + (t_rowsIn (x1 + 1)))) (x1 + 2) (x1 + 1) (((t_size - 1) - x1) - 1)))] := hw
      obtain rfl := so_inj h
      exact re_v hx hb hlk hr cx hw (Nat.le_of_ble_eq_true rfl) (Nat.le_of_ble_eq_true rfl) dX4_join_189
    · have h := it_neg c5 h
      obtain rfl := so_inj h
      exact re_v hx hb hlk hr cx hw (Nat.le_of_ble_eq_true rfl) (Nat.le_of_ble_eq_true rfl) dX4_join_14
def PL_X4_fillPure_b100 (p : Program) (l : Launch) (e : Env) (s : State) (m : MethodId) (args : Array Value) (below : List Frame) (meth : Method) (c : Code) (A : Nat → Prop) (G : GG) (S : SM) (a_t a_t_least a_t_greatest a_t_good a_t_bad a_t_rowsIn a_p1 a_p1_score a_p1_good a_p1_bad a_p1_goodAhead a_p1_badAhead : Nat) (p1_size : Int) (p1_score : Int → Int) (p1_good : Int → Int) (p1_bad : Int → Int) (p1_goodAhead : Int → Int) (p1_badAhead : Int → Int) (y2 : Int) (r : Int × (Int → Int) × (Int → Int) × (Int → Int) × (Int → Int) × (Int → Int)) (kk : Int → (Int → Int) → (Int → Int) → (Int → Int) → (Int → Int) → (Int → Int) → Int → Option (Int × (Int → Int) × (Int → Int) × (Int → Int) × (Int → Int) × (Int → Int))) : Prop := ∀ (t_size : Int) (t_least : Int → Int) (t_greatest : Int → Int) (t_good : Int → Int) (t_bad : Int → Int) (t_rowsIn : Int → Int) (y3 : Int), kk t_size t_least t_greatest t_good t_bad t_rowsIn y3 = some r → ∀ (H : Heap) (locs : List Loc) (ls : Array Slot), HP G A s.heap H locs [(a_t, .inr (4, [.ref a_t_least, .ref a_t_greatest, .ref a_t_good, .ref a_t_bad, .ref a_t_rowsIn, .int (kI t_size)])), (a_t_least, cAI G 60 t_least), (a_t_greatest, cAI G 60 t_greatest), (a_t_good, cAI G 60 t_good), (a_t_bad, cAI G 60 t_bad), (a_t_rowsIn, cAI G 60 t_rowsIn), (a_p1, .inr (7, [.ref a_p1_score, .ref a_p1_good, .ref a_p1_bad, .ref a_p1_goodAhead, .ref a_p1_badAhead, .int (kI p1_size)])), (a_p1_score, cAI G 60 p1_score), (a_p1_good, cAI G 60 p1_good), (a_p1_bad, cAI G 60 p1_bad), (a_p1_goodAhead, cAI G 61 p1_goodAhead), (a_p1_badAhead, cAI G 61 p1_badAhead)] → lv_has ls 4 [(0, .ref a_t), (1, .ref a_p1), (2, .int (kI y2)), (3, .int (kI y3))] → W p l e (rmD 3 0 0) s m args below meth c H locs 0 0 (MQ below (QcV G A [(a_t, .inr (4, [.ref a_t_least, .ref a_t_greatest, .ref a_t_good, .ref a_t_bad, .ref a_t_rowsIn, .int (kI r.1)])), (a_t_least, cAI G 60 r.2.1), (a_t_greatest, cAI G 60 r.2.2.1), (a_t_good, cAI G 60 r.2.2.2.1), (a_t_bad, cAI G 60 r.2.2.2.2.1), (a_t_rowsIn, cAI G 60 r.2.2.2.2.2), (a_p1, .inr (7, [.ref a_p1_score, .ref a_p1_good, .ref a_p1_bad, .ref a_p1_goodAhead, .ref a_p1_badAhead, .int (kI p1_size)])), (a_p1_score, cAI G 60 p1_score), (a_p1_good, cAI G 60 p1_good), (a_p1_bad, cAI G 60 p1_bad), (a_p1_goodAhead, cAI G 61 p1_goodAhead), (a_p1_badAhead, cAI G 61 p1_badAhead)]) args s (rmD 3 0 0).cells (rmD 3 0 0).slots A) (F0 m 100 ls [])
def PL_X4_fillPure_b7 (p : Program) (l : Launch) (e : Env) (s : State) (m : MethodId) (args : Array Value) (below : List Frame) (meth : Method) (c : Code) (A : Nat → Prop) (G : GG) (S : SM) (a_t a_t_least a_t_greatest a_t_good a_t_bad a_t_rowsIn a_p1 a_p1_score a_p1_good a_p1_bad a_p1_goodAhead a_p1_badAhead : Nat) (p1_size : Int) (p1_score : Int → Int) (p1_good : Int → Int) (p1_bad : Int → Int) (p1_goodAhead : Int → Int) (p1_badAhead : Int → Int) (r : Int × (Int → Int) × (Int → Int) × (Int → Int) × (Int → Int) × (Int → Int)) (kk : Int → (Int → Int) → (Int → Int) → (Int → Int) → (Int → Int) → (Int → Int) → Int → Option (Int × (Int → Int) × (Int → Int) × (Int → Int) × (Int → Int) × (Int → Int))) : Prop := ∀ (t_size : Int) (t_least : Int → Int) (t_greatest : Int → Int) (t_good : Int → Int) (t_bad : Int → Int) (t_rowsIn : Int → Int) (y2 : Int), kk t_size t_least t_greatest t_good t_bad t_rowsIn y2 = some r → ∀ (H : Heap) (locs : List Loc) (ls : Array Slot), HP G A s.heap H locs [(a_t, .inr (4, [.ref a_t_least, .ref a_t_greatest, .ref a_t_good, .ref a_t_bad, .ref a_t_rowsIn, .int (kI t_size)])), (a_t_least, cAI G 60 t_least), (a_t_greatest, cAI G 60 t_greatest), (a_t_good, cAI G 60 t_good), (a_t_bad, cAI G 60 t_bad), (a_t_rowsIn, cAI G 60 t_rowsIn), (a_p1, .inr (7, [.ref a_p1_score, .ref a_p1_good, .ref a_p1_bad, .ref a_p1_goodAhead, .ref a_p1_badAhead, .int (kI p1_size)])), (a_p1_score, cAI G 60 p1_score), (a_p1_good, cAI G 60 p1_good), (a_p1_bad, cAI G 60 p1_bad), (a_p1_goodAhead, cAI G 61 p1_goodAhead), (a_p1_badAhead, cAI G 61 p1_badAhead)] → lv_has ls 4 [(0, .ref a_t), (1, .ref a_p1), (2, .int (kI y2))] → W p l e (rmD 3 0 0) s m args below meth c H locs 0 0 (MQ below (QcV G A [(a_t, .inr (4, [.ref a_t_least, .ref a_t_greatest, .ref a_t_good, .ref a_t_bad, .ref a_t_rowsIn, .int (kI r.1)])), (a_t_least, cAI G 60 r.2.1), (a_t_greatest, cAI G 60 r.2.2.1), (a_t_good, cAI G 60 r.2.2.2.1), (a_t_bad, cAI G 60 r.2.2.2.2.1), (a_t_rowsIn, cAI G 60 r.2.2.2.2.2), (a_p1, .inr (7, [.ref a_p1_score, .ref a_p1_good, .ref a_p1_bad, .ref a_p1_goodAhead, .ref a_p1_badAhead, .int (kI p1_size)])), (a_p1_score, cAI G 60 p1_score), (a_p1_good, cAI G 60 p1_good), (a_p1_bad, cAI G 60 p1_bad), (a_p1_goodAhead, cAI G 61 p1_goodAhead), (a_p1_badAhead, cAI G 61 p1_badAhead)]) args s (rmD 3 0 0).cells (rmD 3 0 0).slots A) (F0 m 7 ls [])
set_option maxHeartbeats 4000000 in
set_option maxRecDepth 100000 in
theorem w_X4_fillPure_b128 {p : Program} {l : Launch} {e : Env} {s : State} {m : MethodId} {args : Array Value} {below : List Frame} {meth : Method} {c : Code} {A : Nat → Prop} {G : GG} {S : SM} (cx : CX p s m args c cX4_fillPure RX4 4 G S A) (hlk : meth.locks = false) (hr : meth.sig.returnType = none) (N : Nat) (a_t a_t_least a_t_greatest a_t_good a_t_bad a_t_rowsIn a_p1 a_p1_score a_p1_good a_p1_bad a_p1_goodAhead a_p1_badAhead : Nat) (p1_size : Int) (p1_score : Int → Int) (p1_good : Int → Int) (p1_bad : Int → Int) (p1_goodAhead : Int → Int) (p1_badAhead : Int → Int) (r : Int × (Int → Int) × (Int → Int) × (Int → Int) × (Int → Int) × (Int → Int)) (k7 : Int → (Int → Int) → (Int → Int) → (Int → Int) → (Int → Int) → (Int → Int) → Int → Option (Int × (Int → Int) × (Int → Int) × (Int → Int) × (Int → Int) × (Int → Int))) (hk7 : PL_X4_fillPure_b7 p l e s m args below meth c A G S a_t a_t_least a_t_greatest a_t_good a_t_bad a_t_rowsIn a_p1 a_p1_score a_p1_good a_p1_bad a_p1_goodAhead a_p1_badAhead p1_size p1_score p1_good p1_bad p1_goodAhead p1_badAhead r k7) : ∀ (t_size : Int) (t_least : Int → Int) (t_greatest : Int → Int) (t_good : Int → Int) (t_bad : Int → Int) (t_rowsIn : Int → Int) (y2 : Int), m_X4_fillPure_b128 N p1_size p1_score p1_good p1_bad k7 t_size t_least t_greatest t_good t_bad t_rowsIn y2 = some r → ∀ (H : Heap) (locs : List Loc) (ls : Array Slot), HP G A s.heap H locs [(a_t, .inr (4, [.ref a_t_least, .ref a_t_greatest, .ref a_t_good, .ref a_t_bad, .ref a_t_rowsIn, .int (kI t_size)])), (a_t_least, cAI G 60 t_least), (a_t_greatest, cAI G 60 t_greatest), (a_t_good, cAI G 60 t_good), (a_t_bad, cAI G 60 t_bad), (a_t_rowsIn, cAI G 60 t_rowsIn), (a_p1, .inr (7, [.ref a_p1_score, .ref a_p1_good, .ref a_p1_bad, .ref a_p1_goodAhead, .ref a_p1_badAhead, .int (kI p1_size)])), (a_p1_score, cAI G 60 p1_score), (a_p1_good, cAI G 60 p1_good), (a_p1_bad, cAI G 60 p1_bad), (a_p1_goodAhead, cAI G 61 p1_goodAhead), (a_p1_badAhead, cAI G 61 p1_badAhead)] → lv_has ls 4 [(0, .ref a_t), (1, .ref a_p1), (2, .int (kI y2))] → W p l e (rmD 3 0 0) s m args below meth c H locs 0 0 (MQ below (QcV G A [(a_t, .inr (4, [.ref a_t_least, .ref a_t_greatest, .ref a_t_good, .ref a_t_bad, .ref a_t_rowsIn, .int (kI r.1)])), (a_t_least, cAI G 60 r.2.1), (a_t_greatest, cAI G 60 r.2.2.1), (a_t_good, cAI G 60 r.2.2.2.1), (a_t_bad, cAI G 60 r.2.2.2.2.1), (a_t_rowsIn, cAI G 60 r.2.2.2.2.2), (a_p1, .inr (7, [.ref a_p1_score, .ref a_p1_good, .ref a_p1_bad, .ref a_p1_goodAhead, .ref a_p1_badAhead, .int (kI p1_size)])), (a_p1_score, cAI G 60 p1_score), (a_p1_good, cAI G 60 p1_good), (a_p1_bad, cAI G 60 p1_bad), (a_p1_goodAhead, cAI G 61 p1_goodAhead), (a_p1_badAhead, cAI G 61 p1_badAhead)]) args s (rmD 3 0 0).cells (rmD 3 0 0).slots A) (F0 m 128 ls []) := by
  intro t_size t_least t_greatest t_good t_bad t_rowsIn y2 h H locs ls hw hl
  rw [m_X4_fillPure_b128] at h
  obtain ⟨⟨hx, hb, -, -, -⟩, -⟩ := id cx
  refine lv_iinc (v := kI (y2 + 1)) (lv' := [(2, .int (kI (y2 + 1))), (0, .ref a_t), (1, .ref a_p1)]) hx hb dX4_fillPure_128 hl (k := 2) rfl (kI_add _ _) (by decide) rfl (fun ls hl => ?_)
  refine lv_goto (tgt := 7) hx hb dX4_fillPure_131 (by decide) ?_
  exact hk7 t_size t_least t_greatest t_good t_bad t_rowsIn (y2 + 1) h _ _ _ hw (lv_sub hl [1, 2, 0] rfl)
set_option maxHeartbeats 4000000 in
set_option maxRecDepth 100000 in
theorem w_X4_fillPure_b100 {p : Program} {l : Launch} {e : Env} {s : State} {m : MethodId} {args : Array Value} {below : List Frame} {meth : Method} {c : Code} {A : Nat → Prop} {G : GG} {S : SM} (cx : CX p s m args c cX4_fillPure RX4 4 G S A) (hlk : meth.locks = false) (hr : meth.sig.returnType = none) (N : Nat) (a_t a_t_least a_t_greatest a_t_good a_t_bad a_t_rowsIn a_p1 a_p1_score a_p1_good a_p1_bad a_p1_goodAhead a_p1_badAhead : Nat) (p1_size : Int) (p1_score : Int → Int) (p1_good : Int → Int) (p1_bad : Int → Int) (p1_goodAhead : Int → Int) (p1_badAhead : Int → Int) (y2 : Int) (r : Int × (Int → Int) × (Int → Int) × (Int → Int) × (Int → Int) × (Int → Int)) (k7 : Int → (Int → Int) → (Int → Int) → (Int → Int) → (Int → Int) → (Int → Int) → Int → Option (Int × (Int → Int) × (Int → Int) × (Int → Int) × (Int → Int) × (Int → Int))) (hk7 : PL_X4_fillPure_b7 p l e s m args below meth c A G S a_t a_t_least a_t_greatest a_t_good a_t_bad a_t_rowsIn a_p1 a_p1_score a_p1_good a_p1_bad a_p1_goodAhead a_p1_badAhead p1_size p1_score p1_good p1_bad p1_goodAhead p1_badAhead r k7) : ∀ n : Nat, PL_X4_fillPure_b100 p l e s m args below meth c A G S a_t a_t_least a_t_greatest a_t_good a_t_bad a_t_rowsIn a_p1 a_p1_score a_p1_good a_p1_bad a_p1_goodAhead a_p1_badAhead p1_size p1_score p1_good p1_bad p1_goodAhead p1_badAhead y2 r (m_X4_fillPure_b100 N p1_size p1_score p1_good p1_bad y2 k7 n) := by
  intro n
  induction n with
  | zero => intro t_size t_least t_greatest t_good t_bad t_rowsIn y3 h; exact nomatch h
  | succ n ih =>
    intro t_size t_least t_greatest t_good t_bad t_rowsIn y3 h H locs ls hw hl
    rw [m_X4_fillPure_b100] at h
    obtain ⟨⟨hx, hb, -, -, -⟩, -⟩ := id cx
    refine lv_iload_n hx hb dX4_fillPure_100 rfl (lv_at hl 3 rfl) ?_
    refine ri_iconst hx hb dX4_fillPure_101 ?_
    obtain ⟨g1, h⟩ := gd_some h
    refine ri_icmp_lt (tgt := 128) hx hb g1 ⟨by decide, by decide⟩ dX4_fillPure_102 (by decide) (fun c2 => ?_) (fun c2 => ?_)
    · have h := it_pos c2 h
      exact w_X4_fillPure_b128 cx hlk hr N a_t a_t_least a_t_greatest a_t_good a_t_bad a_t_rowsIn a_p1 a_p1_score a_p1_good a_p1_bad a_p1_goodAhead a_p1_badAhead p1_size p1_score p1_good p1_bad p1_goodAhead p1_badAhead r k7 hk7 t_size t_least t_greatest t_good t_bad t_rowsIn y2 h _ _ _ hw (lv_sub hl [0, 1, 2] rfl)
    · have h := it_neg c2 h
      refine lv_aload_n hx hb dX4_fillPure_105 rfl (lv_at hl 0 rfl) ?_
      refine lv_iload_n hx hb dX4_fillPure_106 rfl (lv_at hl 3 rfl) ?_
      refine ri_iconst hx hb dX4_fillPure_107 ?_
      refine ri_isub hx hb dX4_fillPure_108 ?_
      obtain ⟨r3, h3, h⟩ := bd_some h
      refine rc_I0 (v := r3) hw [0, 1, 2, 3, 4, 5] (rr_V cx hw (c_X4_falls l G S H.size N a_t a_t_least a_t_greatest a_t_good a_t_bad a_t_rowsIn t_size t_least t_greatest t_good t_bad t_rowsIn (y3 - 2) _ h3) mv_X4_39 [0, 1, 2, 3, 4, 5] rfl rfl rfl 0 rfl rfl ⟨Nat.le_of_ble_eq_true rfl, Nat.le_of_ble_eq_true rfl⟩ rfl hl.1 rfl (Nat.le_of_ble_eq_true rfl) dX4_fillPure_109 ⟨Nat.le_of_ble_eq_true rfl, Nat.le_of_ble_eq_true rfl⟩) rfl rfl (fun H locs hw => ?_)
      obtain ⟨g4, h⟩ := gd_some h
      refine ri_if_ne (tgt := 128) hx hb g4 dX4_fillPure_112 (by decide) (fun c5 => ?_) (fun c5 => ?_)
      · have h := it_pos c5 h
        refine lv_aload_n hx hb dX4_fillPure_115 rfl (lv_at hl 0 rfl) ?_
        refine lv_iload_n hx hb dX4_fillPure_116 rfl (lv_at hl 3 rfl) ?_
        refine ri_iconst hx hb dX4_fillPure_117 ?_
        refine ri_isub hx hb dX4_fillPure_118 ?_
        obtain ⟨r6, h6, h⟩ := bd_some h
        refine rc_V (w2 := [(a_t, .inr (4, [.ref a_t_least, .ref a_t_greatest, .ref a_t_good, .ref a_t_bad, .ref a_t_rowsIn, .int (kI r6.1)])), (a_t_least, cAI G 60 r6.2.1), (a_t_greatest, cAI G 60 r6.2.2.1), (a_t_good, cAI G 60 r6.2.2.2.1), (a_t_bad, cAI G 60 r6.2.2.2.2.1), (a_t_rowsIn, cAI G 60 r6.2.2.2.2.2), (a_p1, .inr (7, [.ref a_p1_score, .ref a_p1_good, .ref a_p1_bad, .ref a_p1_goodAhead, .ref a_p1_badAhead, .int (kI p1_size)])), (a_p1_score, cAI G 60 p1_score), (a_p1_good, cAI G 60 p1_good), (a_p1_bad, cAI G 60 p1_bad), (a_p1_goodAhead, cAI G 61 p1_goodAhead), (a_p1_badAhead, cAI G 61 p1_badAhead)]) hw [0, 1, 2, 3, 4, 5] [6, 7, 8, 9, 10, 11] [6, 7, 8, 9, 10, 11, 0, 1, 2, 3, 4, 5] (rr_V cx hw (c_X4_join l G S H.size N a_t a_t_least a_t_greatest a_t_good a_t_bad a_t_rowsIn t_size t_least t_greatest t_good t_bad t_rowsIn (y3 - 2) _ h6) mv_X4_43 [0, 1, 2, 3, 4, 5] rfl rfl rfl 0 rfl rfl ⟨Nat.le_of_ble_eq_true rfl, Nat.le_of_ble_eq_true rfl⟩ rfl hl.1 rfl (Nat.le_of_ble_eq_true rfl) dX4_fillPure_119 ⟨Nat.le_of_ble_eq_true rfl, Nat.le_of_ble_eq_true rfl⟩) rfl rfl rfl rfl rfl rfl rfl rfl (fun H locs hw => ?_)
        refine lv_iinc (v := kI (y3 + (-1))) (lv' := [(3, .int (kI (y3 + (-1)))), (0, .ref a_t), (1, .ref a_p1), (2, .int (kI y2))]) hx hb dX4_fillPure_122 hl (k := 3) rfl (kI_add _ _) (by decide) rfl (fun ls hl => ?_)
        refine lv_goto (tgt := 100) hx hb dX4_fillPure_125 (by decide) ?_
        exact ih r6.1 r6.2.1 r6.2.2.1 r6.2.2.2.1 r6.2.2.2.2.1 r6.2.2.2.2.2 (y3 + (-1)) h _ _ _ hw (lv_sub hl [1, 2, 3, 0] rfl)
      · have h := it_neg c5 h
        exact w_X4_fillPure_b128 cx hlk hr N a_t a_t_least a_t_greatest a_t_good a_t_bad a_t_rowsIn a_p1 a_p1_score a_p1_good a_p1_bad a_p1_goodAhead a_p1_badAhead p1_size p1_score p1_good p1_bad p1_goodAhead p1_badAhead r k7 hk7 t_size t_least t_greatest t_good t_bad t_rowsIn y2 h _ _ _ hw (lv_sub hl [0, 1, 2] rfl)
set_option maxHeartbeats 4000000 in
set_option maxRecDepth 100000 in
theorem w_X4_fillPure_b7 {p : Program} {l : Launch} {e : Env} {s : State} {m : MethodId} {args : Array Value} {below : List Frame} {meth : Method} {c : Code} {A : Nat → Prop} {G : GG} {S : SM} (cx : CX p s m args c cX4_fillPure RX4 4 G S A) (hlk : meth.locks = false) (hr : meth.sig.returnType = none) (N : Nat) (a_t a_t_least a_t_greatest a_t_good a_t_bad a_t_rowsIn a_p1 a_p1_score a_p1_good a_p1_bad a_p1_goodAhead a_p1_badAhead : Nat) (p1_size : Int) (p1_score : Int → Int) (p1_good : Int → Int) (p1_bad : Int → Int) (p1_goodAhead : Int → Int) (p1_badAhead : Int → Int) (r : Int × (Int → Int) × (Int → Int) × (Int → Int) × (Int → Int) × (Int → Int)) : ∀ n : Nat, PL_X4_fillPure_b7 p l e s m args below meth c A G S a_t a_t_least a_t_greatest a_t_good a_t_bad a_t_rowsIn a_p1 a_p1_score a_p1_good a_p1_bad a_p1_goodAhead a_p1_badAhead p1_size p1_score p1_good p1_bad p1_goodAhead p1_badAhead r (m_X4_fillPure_b7 N p1_size p1_score p1_good p1_bad n) := by
  intro n
  induction n with
  | zero => intro t_size t_least t_greatest t_good t_bad t_rowsIn y2 h; exact nomatch h
  | succ n ih =>
    intro t_size t_least t_greatest t_good t_bad t_rowsIn y2 h H locs ls hw hl
    rw [m_X4_fillPure_b7] at h
    obtain ⟨⟨hx, hb, -, -, -⟩, -⟩ := id cx
    refine lv_iload_n hx hb dX4_fillPure_7 rfl (lv_at hl 2 rfl) ?_
    refine lv_aload_n hx hb dX4_fillPure_8 rfl (lv_at hl 1 rfl) ?_
    refine rf_get hx hb cx hw 6 rfl rfl 5 inX8 (by decide) fl_X4_31 rfl rfl dX4_fillPure_9 ?_
    obtain ⟨g1, h⟩ := gd_some h
    obtain ⟨g2, h⟩ := gd_some h
    refine ri_icmp_ge (tgt := 134) hx hb g1 g2 dX4_fillPure_12 (by decide) (fun c3 => ?_) (fun c3 => ?_)
    · have h := it_pos c3 h
      obtain rfl := so_inj h
      exact re_v hx hb hlk hr cx hw (Nat.le_of_ble_eq_true rfl) (Nat.le_of_ble_eq_true rfl) dX4_fillPure_134
    · have h := it_neg c3 h
      refine lv_aload_n hx hb dX4_fillPure_15 rfl (lv_at hl 0 rfl) ?_
      refine rf_get hx hb cx hw 0 rfl rfl 0 inX4 (by decide) fl_X4_9 rfl rfl dX4_fillPure_16 ?_
      refine lv_aload_n hx hb dX4_fillPure_19 rfl (lv_at hl 0 rfl) ?_
      refine rf_get hx hb cx hw 0 rfl rfl 5 inX4 (by decide) fl_X4_27 rfl rfl dX4_fillPure_20 ?_
      refine lv_aload_n hx hb dX4_fillPure_23 rfl (lv_at hl 1 rfl) ?_
      refine rf_get hx hb cx hw 6 rfl rfl 0 inX8 (by decide) fl_X4_34 rfl rfl dX4_fillPure_24 ?_
      refine lv_iload_n hx hb dX4_fillPure_27 rfl (lv_at hl 2 rfl) ?_
      obtain ⟨g4, h⟩ := gd_some h
      refine ra_i hx hb cx hw 7 rfl (by decide) g4 dX4_fillPure_28 ?_
      obtain ⟨g5, h⟩ := gd_some h
      refine ra_si hx hb cx hw 1 rfl (by decide) g5 dX4_fillPure_29 (fun H locs hw => ?_)
      have hw : HP G A s.heap H locs [(a_t, .inr (4, [.ref a_t_least, .ref a_t_greatest, .ref a_t_good, .ref a_t_bad, .ref a_t_rowsIn, .int (kI t_size)])), (a_t_least, cAI G 60 (uP t_least t_size (p1_score y2))), (a_t_greatest, cAI G 60 t_greatest), (a_t_good, cAI G 60 t_good), (a_t_bad, cAI G 60 t_bad), (a_t_rowsIn, cAI G 60 t_rowsIn), (a_p1, .inr (7, [.ref a_p1_score, .ref a_p1_good, .ref a_p1_bad, .ref a_p1_goodAhead, .ref a_p1_badAhead, .int (kI p1_size)])), (a_p1_score, cAI G 60 p1_score), (a_p1_good, cAI G 60 p1_good), (a_p1_bad, cAI G 60 p1_bad), (a_p1_goodAhead, cAI G 61 p1_goodAhead), (a_p1_badAhead, cAI G 61 p1_badAhead)] := hw
      refine lv_aload_n hx hb dX4_fillPure_30 rfl (lv_at hl 0 rfl) ?_
      refine rf_get hx hb cx hw 0 rfl rfl 1 inX4 (by decide) fl_X4_15 rfl rfl dX4_fillPure_31 ?_
      refine lv_aload_n hx hb dX4_fillPure_34 rfl (lv_at hl 0 rfl) ?_
      refine rf_get hx hb cx hw 0 rfl rfl 5 inX4 (by decide) fl_X4_27 rfl rfl dX4_fillPure_35 ?_
      refine lv_aload_n hx hb dX4_fillPure_38 rfl (lv_at hl 1 rfl) ?_
      refine rf_get hx hb cx hw 6 rfl rfl 0 inX8 (by decide) fl_X4_34 rfl rfl dX4_fillPure_39 ?_
      refine lv_iload_n hx hb dX4_fillPure_42 rfl (lv_at hl 2 rfl) ?_
      refine ra_i hx hb cx hw 7 rfl (by decide) g4 dX4_fillPure_43 ?_
      refine ra_si hx hb cx hw 2 rfl (by decide) g5 dX4_fillPure_44 (fun H locs hw => ?_)
      have hw : HP G A s.heap H locs [(a_t, .inr (4, [.ref a_t_least, .ref a_t_greatest, .ref a_t_good, .ref a_t_bad, .ref a_t_rowsIn, .int (kI t_size)])), (a_t_least, cAI G 60 (uP t_least t_size (p1_score y2))), (a_t_greatest, cAI G 60 (uP t_greatest t_size (p1_score y2))), (a_t_good, cAI G 60 t_good), (a_t_bad, cAI G 60 t_bad), (a_t_rowsIn, cAI G 60 t_rowsIn), (a_p1, .inr (7, [.ref a_p1_score, .ref a_p1_good, .ref a_p1_bad, .ref a_p1_goodAhead, .ref a_p1_badAhead, .int (kI p1_size)])), (a_p1_score, cAI G 60 p1_score), (a_p1_good, cAI G 60 p1_good), (a_p1_bad, cAI G 60 p1_bad), (a_p1_goodAhead, cAI G 61 p1_goodAhead), (a_p1_badAhead, cAI G 61 p1_badAhead)] := hw
      refine lv_aload_n hx hb dX4_fillPure_45 rfl (lv_at hl 0 rfl) ?_
      refine rf_get hx hb cx hw 0 rfl rfl 2 inX4 (by decide) fl_X4_18 rfl rfl dX4_fillPure_46 ?_
      refine lv_aload_n hx hb dX4_fillPure_49 rfl (lv_at hl 0 rfl) ?_
      refine rf_get hx hb cx hw 0 rfl rfl 5 inX4 (by decide) fl_X4_27 rfl rfl dX4_fillPure_50 ?_
      refine lv_aload_n hx hb dX4_fillPure_53 rfl (lv_at hl 1 rfl) ?_
      refine rf_get hx hb cx hw 6 rfl rfl 1 inX8 (by decide) fl_X4_37 rfl rfl dX4_fillPure_54 ?_
      refine lv_iload_n hx hb dX4_fillPure_57 rfl (lv_at hl 2 rfl) ?_
      refine ra_i hx hb cx hw 8 rfl (by decide) g4 dX4_fillPure_58 ?_
      refine ra_si hx hb cx hw 3 rfl (by decide) g5 dX4_fillPure_59 (fun H locs hw => ?_)
      have hw : HP G A s.heap H locs [(a_t, .inr (4, [.ref a_t_least, .ref a_t_greatest, .ref a_t_good, .ref a_t_bad, .ref a_t_rowsIn, .int (kI t_size)])), (a_t_least, cAI G 60 (uP t_least t_size (p1_score y2))), (a_t_greatest, cAI G 60 (uP t_greatest t_size (p1_score y2))), (a_t_good, cAI G 60 (uP t_good t_size (p1_good y2))), (a_t_bad, cAI G 60 t_bad), (a_t_rowsIn, cAI G 60 t_rowsIn), (a_p1, .inr (7, [.ref a_p1_score, .ref a_p1_good, .ref a_p1_bad, .ref a_p1_goodAhead, .ref a_p1_badAhead, .int (kI p1_size)])), (a_p1_score, cAI G 60 p1_score), (a_p1_good, cAI G 60 p1_good), (a_p1_bad, cAI G 60 p1_bad), (a_p1_goodAhead, cAI G 61 p1_goodAhead), (a_p1_badAhead, cAI G 61 p1_badAhead)] := hw
      refine lv_aload_n hx hb dX4_fillPure_60 rfl (lv_at hl 0 rfl) ?_
      refine rf_get hx hb cx hw 0 rfl rfl 3 inX4 (by decide) fl_X4_21 rfl rfl dX4_fillPure_61 ?_
      refine lv_aload_n hx hb dX4_fillPure_64 rfl (lv_at hl 0 rfl) ?_
      refine rf_get hx hb cx hw 0 rfl rfl 5 inX4 (by decide) fl_X4_27 rfl rfl dX4_fillPure_65 ?_
      refine lv_aload_n hx hb dX4_fillPure_68 rfl (lv_at hl 1 rfl) ?_
      refine rf_get hx hb cx hw 6 rfl rfl 2 inX8 (by decide) fl_X4_38 rfl rfl dX4_fillPure_69 ?_
      refine lv_iload_n hx hb dX4_fillPure_72 rfl (lv_at hl 2 rfl) ?_
      refine ra_i hx hb cx hw 9 rfl (by decide) g4 dX4_fillPure_73 ?_
      refine ra_si hx hb cx hw 4 rfl (by decide) g5 dX4_fillPure_74 (fun H locs hw => ?_)
      have hw : HP G A s.heap H locs [(a_t, .inr (4, [.ref a_t_least, .ref a_t_greatest, .ref a_t_good, .ref a_t_bad, .ref a_t_rowsIn, .int (kI t_size)])), (a_t_least, cAI G 60 (uP t_least t_size (p1_score y2))), (a_t_greatest, cAI G 60 (uP t_greatest t_size (p1_score y2))), (a_t_good, cAI G 60 (uP t_good t_size (p1_good y2))), (a_t_bad, cAI G 60 (uP t_bad t_size (p1_bad y2))), (a_t_rowsIn, cAI G 60 t_rowsIn), (a_p1, .inr (7, [.ref a_p1_score, .ref a_p1_good, .ref a_p1_bad, .ref a_p1_goodAhead, .ref a_p1_badAhead, .int (kI p1_size)])), (a_p1_score, cAI G 60 p1_score), (a_p1_good, cAI G 60 p1_good), (a_p1_bad, cAI G 60 p1_bad), (a_p1_goodAhead, cAI G 61 p1_goodAhead), (a_p1_badAhead, cAI G 61 p1_badAhead)] := hw
      refine lv_aload_n hx hb dX4_fillPure_75 rfl (lv_at hl 0 rfl) ?_
      refine rf_get hx hb cx hw 0 rfl rfl 4 inX4 (by decide) fl_X4_24 rfl rfl dX4_fillPure_76 ?_
      refine lv_aload_n hx hb dX4_fillPure_79 rfl (lv_at hl 0 rfl) ?_
      refine rf_get hx hb cx hw 0 rfl rfl 5 inX4 (by decide) fl_X4_27 rfl rfl dX4_fillPure_80 ?_
      refine ri_iconst hx hb dX4_fillPure_83 ?_
      refine ra_si hx hb cx hw 5 rfl (by decide) g5 dX4_fillPure_84 (fun H locs hw => ?_)
      have hw : HP G A s.heap H locs [(a_t, .inr (4, [.ref a_t_least, .ref a_t_greatest, .ref a_t_good, .ref a_t_bad, .ref a_t_rowsIn, .int (kI t_size)])), (a_t_least, cAI G 60 (uP t_least t_size (p1_score y2))), (a_t_greatest, cAI G 60 (uP t_greatest t_size (p1_score y2))), (a_t_good, cAI G 60 (uP t_good t_size (p1_good y2))), (a_t_bad, cAI G 60 (uP t_bad t_size (p1_bad y2))), (a_t_rowsIn, cAI G 60 (uP t_rowsIn t_size 1)), (a_p1, .inr (7, [.ref a_p1_score, .ref a_p1_good, .ref a_p1_bad, .ref a_p1_goodAhead, .ref a_p1_badAhead, .int (kI p1_size)])), (a_p1_score, cAI G 60 p1_score), (a_p1_good, cAI G 60 p1_good), (a_p1_bad, cAI G 60 p1_bad), (a_p1_goodAhead, cAI G 61 p1_goodAhead), (a_p1_badAhead, cAI G 61 p1_badAhead)] := hw
      refine lv_aload_n hx hb dX4_fillPure_85 rfl (lv_at hl 0 rfl) ?_
      refine lv_dup hx hb dX4_fillPure_86 rfl ?_
      refine rf_get hx hb cx hw 0 rfl rfl 5 inX4 (by decide) fl_X4_27 rfl rfl dX4_fillPure_87 ?_
      refine ri_iconst hx hb dX4_fillPure_90 ?_
      refine ri_iadd hx hb dX4_fillPure_91 ?_
      refine rf_put hx hb cx hw 0 rfl rfl 5 inX4 tyX4 tyX4_ok nmX4 (by decide) fl_X4_27 rfl rfl rfl rfl (Nat.le_of_ble_eq_true rfl) dX4_fillPure_92 (fun H locs hw => ?_)
      have hw : HP G A s.heap H locs [(a_t, .inr (4, [.ref a_t_least, .ref a_t_greatest, .ref a_t_good, .ref a_t_bad, .ref a_t_rowsIn, .int (kI (t_size + 1))])), (a_t_least, cAI G 60 (uP t_least t_size (p1_score y2))), (a_t_greatest, cAI G 60 (uP t_greatest t_size (p1_score y2))), (a_t_good, cAI G 60 (uP t_good t_size (p1_good y2))), (a_t_bad, cAI G 60 (uP t_bad t_size (p1_bad y2))), (a_t_rowsIn, cAI G 60 (uP t_rowsIn t_size 1)), (a_p1, .inr (7, [.ref a_p1_score, .ref a_p1_good, .ref a_p1_bad, .ref a_p1_goodAhead, .ref a_p1_badAhead, .int (kI p1_size)])), (a_p1_score, cAI G 60 p1_score), (a_p1_good, cAI G 60 p1_good), (a_p1_bad, cAI G 60 p1_bad), (a_p1_goodAhead, cAI G 61 p1_goodAhead), (a_p1_badAhead, cAI G 61 p1_badAhead)] := hw
      refine lv_aload_n hx hb dX4_fillPure_95 rfl (lv_at hl 0 rfl) ?_
      refine rf_get hx hb cx hw 0 rfl rfl 5 inX4 (by decide) fl_X4_27 rfl rfl dX4_fillPure_96 ?_
      refine lv_istore_n (lv' := [(3, .int (kI (t_size + 1))), (0, .ref a_t), (1, .ref a_p1), (2, .int (kI y2))]) hx hb dX4_fillPure_99 rfl hl (by decide) rfl (fun ls hl => ?_)
      exact w_X4_fillPure_b100 cx hlk hr N a_t a_t_least a_t_greatest a_t_good a_t_bad a_t_rowsIn a_p1 a_p1_score a_p1_good a_p1_bad a_p1_goodAhead a_p1_badAhead p1_size p1_score p1_good p1_bad p1_goodAhead p1_badAhead y2 r (m_X4_fillPure_b7 N p1_size p1_score p1_good p1_bad n) ih N (t_size + 1) (uP t_least t_size (p1_score y2)) (uP t_greatest t_size (p1_score y2)) (uP t_good t_size (p1_good y2)) (uP t_bad t_size (p1_bad y2)) (uP t_rowsIn t_size 1) (t_size + 1) h _ _ _ hw (lv_sub hl [1, 2, 3, 0] rfl)
set_option maxHeartbeats 4000000 in
set_option maxRecDepth 100000 in
theorem c_X4_fillPure (l : Launch) (G : GG) (S : SM) (sz : Nat) (N : Nat) (a_t a_t_least a_t_greatest a_t_good a_t_bad a_t_rowsIn a_p1 a_p1_score a_p1_good a_p1_bad a_p1_goodAhead a_p1_badAhead : Nat) (t_size : Int) (t_least : Int → Int) (t_greatest : Int → Int) (t_good : Int → Int) (t_bad : Int → Int) (t_rowsIn : Int → Int) (p1_size : Int) (p1_score : Int → Int) (p1_good : Int → Int) (p1_bad : Int → Int) (p1_goodAhead : Int → Int) (p1_badAhead : Int → Int)  (r : Int × (Int → Int) × (Int → Int) × (Int → Int) × (Int → Int) × (Int → Int)) (h : m_X4_fillPure N p1_size p1_score p1_good p1_bad t_size t_least t_greatest t_good t_bad t_rowsIn = some r) : CtV l yX4_fillPure cX4_fillPure 4 (rmD 3 0 0) G S sz [.ref a_t, .ref a_p1] [(a_t, .inr (4, [.ref a_t_least, .ref a_t_greatest, .ref a_t_good, .ref a_t_bad, .ref a_t_rowsIn, .int (kI t_size)])), (a_t_least, cAI G 60 t_least), (a_t_greatest, cAI G 60 t_greatest), (a_t_good, cAI G 60 t_good), (a_t_bad, cAI G 60 t_bad), (a_t_rowsIn, cAI G 60 t_rowsIn), (a_p1, .inr (7, [.ref a_p1_score, .ref a_p1_good, .ref a_p1_bad, .ref a_p1_goodAhead, .ref a_p1_badAhead, .int (kI p1_size)])), (a_p1_score, cAI G 60 p1_score), (a_p1_good, cAI G 60 p1_good), (a_p1_bad, cAI G 60 p1_bad), (a_p1_goodAhead, cAI G 61 p1_goodAhead), (a_p1_badAhead, cAI G 61 p1_badAhead)] [(a_t, .inr (4, [.ref a_t_least, .ref a_t_greatest, .ref a_t_good, .ref a_t_bad, .ref a_t_rowsIn, .int (kI r.1)])), (a_t_least, cAI G 60 r.2.1), (a_t_greatest, cAI G 60 r.2.2.1), (a_t_good, cAI G 60 r.2.2.2.1), (a_t_bad, cAI G 60 r.2.2.2.2.1), (a_t_rowsIn, cAI G 60 r.2.2.2.2.2), (a_p1, .inr (7, [.ref a_p1_score, .ref a_p1_good, .ref a_p1_bad, .ref a_p1_goodAhead, .ref a_p1_badAhead, .int (kI p1_size)])), (a_p1_score, cAI G 60 p1_score), (a_p1_good, cAI G 60 p1_good), (a_p1_bad, cAI G 60 p1_bad), (a_p1_goodAhead, cAI G 61 p1_goodAhead), (a_p1_badAhead, cAI G 61 p1_badAhead)] := by
  refine met_V (by decide +kernel) (Nat.le_of_ble_eq_true rfl) ?_
  intro p e s m args below meth c A H locs ls cx hw hr hlk hnm hl
  have hl : lv_has ls 4 [(0, .ref a_t), (1, .ref a_p1)] := hl
  rw [m_X4_fillPure] at h
  obtain ⟨⟨hx, hb, -, -, -⟩, -⟩ := id cx
  refine lv_aload_n hx hb dX4_fillPure_0 rfl (lv_at hl 0 rfl) ?_
  refine ri_iconst hx hb dX4_fillPure_1 ?_
  refine rf_put hx hb cx hw 0 rfl rfl 5 inX4 tyX4 tyX4_ok nmX4 (by decide) fl_X4_27 rfl rfl rfl rfl (Nat.le_of_ble_eq_true rfl) dX4_fillPure_2 (fun H locs hw => ?_)
  have hw : HP G A s.heap H locs [(a_t, .inr (4, [.ref a_t_least, .ref a_t_greatest, .ref a_t_good, .ref a_t_bad, .ref a_t_rowsIn, .int (kI 0)])), (a_t_least, cAI G 60 t_least), (a_t_greatest, cAI G 60 t_greatest), (a_t_good, cAI G 60 t_good), (a_t_bad, cAI G 60 t_bad), (a_t_rowsIn, cAI G 60 t_rowsIn), (a_p1, .inr (7, [.ref a_p1_score, .ref a_p1_good, .ref a_p1_bad, .ref a_p1_goodAhead, .ref a_p1_badAhead, .int (kI p1_size)])), (a_p1_score, cAI G 60 p1_score), (a_p1_good, cAI G 60 p1_good), (a_p1_bad, cAI G 60 p1_bad), (a_p1_goodAhead, cAI G 61 p1_goodAhead), (a_p1_badAhead, cAI G 61 p1_badAhead)] := hw
  refine ri_iconst hx hb dX4_fillPure_5 ?_
  refine lv_istore_n (lv' := [(2, .int (kI 0)), (0, .ref a_t), (1, .ref a_p1)]) hx hb dX4_fillPure_6 rfl hl (by decide) rfl (fun ls hl => ?_)
  exact w_X4_fillPure_b7 cx hlk hr N a_t a_t_least a_t_greatest a_t_good a_t_bad a_t_rowsIn a_p1 a_p1_score a_p1_good a_p1_bad a_p1_goodAhead a_p1_badAhead p1_size p1_score p1_good p1_bad p1_goodAhead p1_badAhead r N 0 t_least t_greatest t_good t_bad t_rowsIn 0 h _ _ _ hw (lv_sub hl [1, 2, 0] rfl)
set_option maxHeartbeats 4000000 in
set_option maxRecDepth 100000 in
theorem c_X4_copy (l : Launch) (G : GG) (S : SM) (sz : Nat) (N : Nat) (a_t a_t_least a_t_greatest a_t_good a_t_bad a_t_rowsIn a_p1 a_p1_least a_p1_greatest a_p1_good a_p1_bad a_p1_rowsIn : Nat) (t_size : Int) (t_least : Int → Int) (t_greatest : Int → Int) (t_good : Int → Int) (t_bad : Int → Int) (t_rowsIn : Int → Int) (p1_size : Int) (p1_least : Int → Int) (p1_greatest : Int → Int) (p1_good : Int → Int) (p1_bad : Int → Int) (p1_rowsIn : Int → Int)  (r : Int × (Int → Int) × (Int → Int) × (Int → Int) × (Int → Int) × (Int → Int)) (h : m_X4_copy N p1_size p1_least p1_greatest p1_good p1_bad p1_rowsIn t_size t_least t_greatest t_good t_bad t_rowsIn = some r) : CtV l yX4_copy cX4_copy 2 (rmD 1 0 0) G S sz [.ref a_t, .ref a_p1] [(a_t, .inr (4, [.ref a_t_least, .ref a_t_greatest, .ref a_t_good, .ref a_t_bad, .ref a_t_rowsIn, .int (kI t_size)])), (a_t_least, cAI G 60 t_least), (a_t_greatest, cAI G 60 t_greatest), (a_t_good, cAI G 60 t_good), (a_t_bad, cAI G 60 t_bad), (a_t_rowsIn, cAI G 60 t_rowsIn), (a_p1, .inr (4, [.ref a_p1_least, .ref a_p1_greatest, .ref a_p1_good, .ref a_p1_bad, .ref a_p1_rowsIn, .int (kI p1_size)])), (a_p1_least, cAI G 60 p1_least), (a_p1_greatest, cAI G 60 p1_greatest), (a_p1_good, cAI G 60 p1_good), (a_p1_bad, cAI G 60 p1_bad), (a_p1_rowsIn, cAI G 60 p1_rowsIn)] [(a_t, .inr (4, [.ref a_t_least, .ref a_t_greatest, .ref a_t_good, .ref a_t_bad, .ref a_t_rowsIn, .int (kI r.1)])), (a_t_least, cAI G 60 r.2.1), (a_t_greatest, cAI G 60 r.2.2.1), (a_t_good, cAI G 60 r.2.2.2.1), (a_t_bad, cAI G 60 r.2.2.2.2.1), (a_t_rowsIn, cAI G 60 r.2.2.2.2.2), (a_p1, .inr (4, [.ref a_p1_least, .ref a_p1_greatest, .ref a_p1_good, .ref a_p1_bad, .ref a_p1_rowsIn, .int (kI p1_size)])), (a_p1_least, cAI G 60 p1_least), (a_p1_greatest, cAI G 60 p1_greatest), (a_p1_good, cAI G 60 p1_good), (a_p1_bad, cAI G 60 p1_bad), (a_p1_rowsIn, cAI G 60 p1_rowsIn)] := by
  refine met_V (by decide +kernel) (Nat.le_of_ble_eq_true rfl) ?_
  intro p e s m args below meth c A H locs ls cx hw hr hlk hnm hl
  have hl : lv_has ls 2 [(0, .ref a_t), (1, .ref a_p1)] := hl
  rw [m_X4_copy] at h
  obtain ⟨⟨hx, hb, -, -, -⟩, -⟩ := id cx
  refine lv_aload_n hx hb dX4_copy_0 rfl (lv_at hl 0 rfl) ?_
  refine lv_aload_n hx hb dX4_copy_1 rfl (lv_at hl 1 rfl) ?_
  refine rf_get hx hb cx hw 6 rfl rfl 5 inX4 (by decide) fl_X4_27 rfl rfl dX4_copy_2 ?_
  refine rf_put hx hb cx hw 0 rfl rfl 5 inX4 tyX4 tyX4_ok nmX4 (by decide) fl_X4_27 rfl rfl rfl rfl (Nat.le_of_ble_eq_true rfl) dX4_copy_5 (fun H locs hw => ?_)
  have hw : HP G A s.heap H locs [(a_t, .inr (4, [.ref a_t_least, .ref a_t_greatest, .ref a_t_good, .ref a_t_bad, .ref a_t_rowsIn, .int (kI p1_size)])), (a_t_least, cAI G 60 t_least), (a_t_greatest, cAI G 60 t_greatest), (a_t_good, cAI G 60 t_good), (a_t_bad, cAI G 60 t_bad), (a_t_rowsIn, cAI G 60 t_rowsIn), (a_p1, .inr (4, [.ref a_p1_least, .ref a_p1_greatest, .ref a_p1_good, .ref a_p1_bad, .ref a_p1_rowsIn, .int (kI p1_size)])), (a_p1_least, cAI G 60 p1_least), (a_p1_greatest, cAI G 60 p1_greatest), (a_p1_good, cAI G 60 p1_good), (a_p1_bad, cAI G 60 p1_bad), (a_p1_rowsIn, cAI G 60 p1_rowsIn)] := hw
  refine lv_aload_n hx hb dX4_copy_8 rfl (lv_at hl 1 rfl) ?_
  refine rf_get hx hb cx hw 6 rfl rfl 0 inX4 (by decide) fl_X4_9 rfl rfl dX4_copy_9 ?_
  refine ri_iconst hx hb dX4_copy_12 ?_
  refine lv_aload_n hx hb dX4_copy_13 rfl (lv_at hl 0 rfl) ?_
  refine rf_get hx hb cx hw 0 rfl rfl 0 inX4 (by decide) fl_X4_9 rfl rfl dX4_copy_14 ?_
  refine ri_iconst hx hb dX4_copy_17 ?_
  refine lv_aload_n hx hb dX4_copy_18 rfl (lv_at hl 0 rfl) ?_
  refine rf_get hx hb cx hw 0 rfl rfl 5 inX4 (by decide) fl_X4_27 rfl rfl dX4_copy_19 ?_
  obtain ⟨g1, h⟩ := gd_some h
  obtain ⟨g2, h⟩ := gd_some h
  refine rj_copy hx hb cx hl.1 hw jl_X4_47 7 1 rfl rfl ⟨by decide, by decide⟩ ⟨by decide, by decide⟩ g1 g2 (Nat.le_of_ble_eq_true rfl) (Nat.le_of_ble_eq_true rfl) dX4_copy_22 (fun H locs hw => ?_)
  have hw : HP G A s.heap H locs [(a_t, .inr (4, [.ref a_t_least, .ref a_t_greatest, .ref a_t_good, .ref a_t_bad, .ref a_t_rowsIn, .int (kI p1_size)])), (a_t_least, cAI G 60 (cP p1_least t_least 0 0 p1_size)), (a_t_greatest, cAI G 60 t_greatest), (a_t_good, cAI G 60 t_good), (a_t_bad, cAI G 60 t_bad), (a_t_rowsIn, cAI G 60 t_rowsIn), (a_p1, .inr (4, [.ref a_p1_least, .ref a_p1_greatest, .ref a_p1_good, .ref a_p1_bad, .ref a_p1_rowsIn, .int (kI p1_size)])), (a_p1_least, cAI G 60 p1_least), (a_p1_greatest, cAI G 60 p1_greatest), (a_p1_good, cAI G 60 p1_good), (a_p1_bad, cAI G 60 p1_bad), (a_p1_rowsIn, cAI G 60 p1_rowsIn)] := hw
  refine lv_aload_n hx hb dX4_copy_25 rfl (lv_at hl 1 rfl) ?_
  refine rf_get hx hb cx hw 6 rfl rfl 1 inX4 (by decide) fl_X4_15 rfl rfl dX4_copy_26 ?_
  refine ri_iconst hx hb dX4_copy_29 ?_
  refine lv_aload_n hx hb dX4_copy_30 rfl (lv_at hl 0 rfl) ?_
  refine rf_get hx hb cx hw 0 rfl rfl 1 inX4 (by decide) fl_X4_15 rfl rfl dX4_copy_31 ?_
  refine ri_iconst hx hb dX4_copy_34 ?_
  refine lv_aload_n hx hb dX4_copy_35 rfl (lv_at hl 0 rfl) ?_
  refine rf_get hx hb cx hw 0 rfl rfl 5 inX4 (by decide) fl_X4_27 rfl rfl dX4_copy_36 ?_
  refine rj_copy hx hb cx hl.1 hw jl_X4_47 8 2 rfl rfl ⟨by decide, by decide⟩ ⟨by decide, by decide⟩ g1 g2 (Nat.le_of_ble_eq_true rfl) (Nat.le_of_ble_eq_true rfl) dX4_copy_39 (fun H locs hw => ?_)
  have hw : HP G A s.heap H locs [(a_t, .inr (4, [.ref a_t_least, .ref a_t_greatest, .ref a_t_good, .ref a_t_bad, .ref a_t_rowsIn, .int (kI p1_size)])), (a_t_least, cAI G 60 (cP p1_least t_least 0 0 p1_size)), (a_t_greatest, cAI G 60 (cP p1_greatest t_greatest 0 0 p1_size)), (a_t_good, cAI G 60 t_good), (a_t_bad, cAI G 60 t_bad), (a_t_rowsIn, cAI G 60 t_rowsIn), (a_p1, .inr (4, [.ref a_p1_least, .ref a_p1_greatest, .ref a_p1_good, .ref a_p1_bad, .ref a_p1_rowsIn, .int (kI p1_size)])), (a_p1_least, cAI G 60 p1_least), (a_p1_greatest, cAI G 60 p1_greatest), (a_p1_good, cAI G 60 p1_good), (a_p1_bad, cAI G 60 p1_bad), (a_p1_rowsIn, cAI G 60 p1_rowsIn)] := hw
  refine lv_aload_n hx hb dX4_copy_42 rfl (lv_at hl 1 rfl) ?_
  refine rf_get hx hb cx hw 6 rfl rfl 2 inX4 (by decide) fl_X4_18 rfl rfl dX4_copy_43 ?_
  refine ri_iconst hx hb dX4_copy_46 ?_
  refine lv_aload_n hx hb dX4_copy_47 rfl (lv_at hl 0 rfl) ?_
  refine rf_get hx hb cx hw 0 rfl rfl 2 inX4 (by decide) fl_X4_18 rfl rfl dX4_copy_48 ?_
  refine ri_iconst hx hb dX4_copy_51 ?_
  refine lv_aload_n hx hb dX4_copy_52 rfl (lv_at hl 0 rfl) ?_
  refine rf_get hx hb cx hw 0 rfl rfl 5 inX4 (by decide) fl_X4_27 rfl rfl dX4_copy_53 ?_
  refine rj_copy hx hb cx hl.1 hw jl_X4_47 9 3 rfl rfl ⟨by decide, by decide⟩ ⟨by decide, by decide⟩ g1 g2 (Nat.le_of_ble_eq_true rfl) (Nat.le_of_ble_eq_true rfl) dX4_copy_56 (fun H locs hw => ?_)
  have hw : HP G A s.heap H locs [(a_t, .inr (4, [.ref a_t_least, .ref a_t_greatest, .ref a_t_good, .ref a_t_bad, .ref a_t_rowsIn, .int (kI p1_size)])), (a_t_least, cAI G 60 (cP p1_least t_least 0 0 p1_size)), (a_t_greatest, cAI G 60 (cP p1_greatest t_greatest 0 0 p1_size)), (a_t_good, cAI G 60 (cP p1_good t_good 0 0 p1_size)), (a_t_bad, cAI G 60 t_bad), (a_t_rowsIn, cAI G 60 t_rowsIn), (a_p1, .inr (4, [.ref a_p1_least, .ref a_p1_greatest, .ref a_p1_good, .ref a_p1_bad, .ref a_p1_rowsIn, .int (kI p1_size)])), (a_p1_least, cAI G 60 p1_least), (a_p1_greatest, cAI G 60 p1_greatest), (a_p1_good, cAI G 60 p1_good), (a_p1_bad, cAI G 60 p1_bad), (a_p1_rowsIn, cAI G 60 p1_rowsIn)] := hw
  refine lv_aload_n hx hb dX4_copy_59 rfl (lv_at hl 1 rfl) ?_
  refine rf_get hx hb cx hw 6 rfl rfl 3 inX4 (by decide) fl_X4_21 rfl rfl dX4_copy_60 ?_
  refine ri_iconst hx hb dX4_copy_63 ?_
  refine lv_aload_n hx hb dX4_copy_64 rfl (lv_at hl 0 rfl) ?_
  refine rf_get hx hb cx hw 0 rfl rfl 3 inX4 (by decide) fl_X4_21 rfl rfl dX4_copy_65 ?_
  refine ri_iconst hx hb dX4_copy_68 ?_
  refine lv_aload_n hx hb dX4_copy_69 rfl (lv_at hl 0 rfl) ?_
  refine rf_get hx hb cx hw 0 rfl rfl 5 inX4 (by decide) fl_X4_27 rfl rfl dX4_copy_70 ?_
  refine rj_copy hx hb cx hl.1 hw jl_X4_47 10 4 rfl rfl ⟨by decide, by decide⟩ ⟨by decide, by decide⟩ g1 g2 (Nat.le_of_ble_eq_true rfl) (Nat.le_of_ble_eq_true rfl) dX4_copy_73 (fun H locs hw => ?_)
  have hw : HP G A s.heap H locs [(a_t, .inr (4, [.ref a_t_least, .ref a_t_greatest, .ref a_t_good, .ref a_t_bad, .ref a_t_rowsIn, .int (kI p1_size)])), (a_t_least, cAI G 60 (cP p1_least t_least 0 0 p1_size)), (a_t_greatest, cAI G 60 (cP p1_greatest t_greatest 0 0 p1_size)), (a_t_good, cAI G 60 (cP p1_good t_good 0 0 p1_size)), (a_t_bad, cAI G 60 (cP p1_bad t_bad 0 0 p1_size)), (a_t_rowsIn, cAI G 60 t_rowsIn), (a_p1, .inr (4, [.ref a_p1_least, .ref a_p1_greatest, .ref a_p1_good, .ref a_p1_bad, .ref a_p1_rowsIn, .int (kI p1_size)])), (a_p1_least, cAI G 60 p1_least), (a_p1_greatest, cAI G 60 p1_greatest), (a_p1_good, cAI G 60 p1_good), (a_p1_bad, cAI G 60 p1_bad), (a_p1_rowsIn, cAI G 60 p1_rowsIn)] := hw
  refine lv_aload_n hx hb dX4_copy_76 rfl (lv_at hl 1 rfl) ?_
  refine rf_get hx hb cx hw 6 rfl rfl 4 inX4 (by decide) fl_X4_24 rfl rfl dX4_copy_77 ?_
  refine ri_iconst hx hb dX4_copy_80 ?_
  refine lv_aload_n hx hb dX4_copy_81 rfl (lv_at hl 0 rfl) ?_
  refine rf_get hx hb cx hw 0 rfl rfl 4 inX4 (by decide) fl_X4_24 rfl rfl dX4_copy_82 ?_
  refine ri_iconst hx hb dX4_copy_85 ?_
  refine lv_aload_n hx hb dX4_copy_86 rfl (lv_at hl 0 rfl) ?_
  refine rf_get hx hb cx hw 0 rfl rfl 5 inX4 (by decide) fl_X4_27 rfl rfl dX4_copy_87 ?_
  refine rj_copy hx hb cx hl.1 hw jl_X4_47 11 5 rfl rfl ⟨by decide, by decide⟩ ⟨by decide, by decide⟩ g1 g2 (Nat.le_of_ble_eq_true rfl) (Nat.le_of_ble_eq_true rfl) dX4_copy_90 (fun H locs hw => ?_)
  have hw : HP G A s.heap H locs [(a_t, .inr (4, [.ref a_t_least, .ref a_t_greatest, .ref a_t_good, .ref a_t_bad, .ref a_t_rowsIn, .int (kI p1_size)])), (a_t_least, cAI G 60 (cP p1_least t_least 0 0 p1_size)), (a_t_greatest, cAI G 60 (cP p1_greatest t_greatest 0 0 p1_size)), (a_t_good, cAI G 60 (cP p1_good t_good 0 0 p1_size)), (a_t_bad, cAI G 60 (cP p1_bad t_bad 0 0 p1_size)), (a_t_rowsIn, cAI G 60 (cP p1_rowsIn t_rowsIn 0 0 p1_size)), (a_p1, .inr (4, [.ref a_p1_least, .ref a_p1_greatest, .ref a_p1_good, .ref a_p1_bad, .ref a_p1_rowsIn, .int (kI p1_size)])), (a_p1_least, cAI G 60 p1_least), (a_p1_greatest, cAI G 60 p1_greatest), (a_p1_good, cAI G 60 p1_good), (a_p1_bad, cAI G 60 p1_bad), (a_p1_rowsIn, cAI G 60 p1_rowsIn)] := hw
  obtain rfl := so_inj h
  exact re_v hx hb hlk hr cx hw (Nat.le_of_ble_eq_true rfl) (Nat.le_of_ble_eq_true rfl) dX4_copy_93
