def PL_X4_smallest_b4 (p : Program) (l : Launch) (e : Env) (s : State) (m : MethodId) (args : Array Value) (below : List Frame) (meth : Method) (c : Code) (A : Nat → Prop) (G : GG) (S : SM) (a_t a_t_least a_t_greatest a_t_good a_t_bad a_t_rowsIn : Nat) (t_size : Int) (t_least : Int → Int) (t_greatest : Int → Int) (t_good : Int → Int) (t_bad : Int → Int) (t_rowsIn : Int → Int) (r : Int) (kk : Int → Int → Option (Int)) : Prop := ∀ (y1 : Int) (y2 : Int), kk y1 y2 = some r → ∀ (H : Heap) (locs : List Loc) (ls : Array Slot), HP G A s.heap H locs [(a_t, .inr (4, [.ref a_t_least, .ref a_t_greatest, .ref a_t_good, .ref a_t_bad, .ref a_t_rowsIn, .int (kI t_size)])), (a_t_least, cAI G 60 t_least), (a_t_greatest, cAI G 60 t_greatest), (a_t_good, cAI G 60 t_good), (a_t_bad, cAI G 60 t_bad), (a_t_rowsIn, cAI G 60 t_rowsIn)] → lv_has ls 3 [(0, .ref a_t), (1, .int (kI y1)), (2, .int (kI y2))] → W p l e (rmD 2 0 0) s m args below meth c H locs 0 0 (MQ below (QcI G A r [(a_t, .inr (4, [.ref a_t_least, .ref a_t_greatest, .ref a_t_good, .ref a_t_bad, .ref a_t_rowsIn, .int (kI t_size)])), (a_t_least, cAI G 60 t_least), (a_t_greatest, cAI G 60 t_greatest), (a_t_good, cAI G 60 t_good), (a_t_bad, cAI G 60 t_bad), (a_t_rowsIn, cAI G 60 t_rowsIn)]) args s (rmD 2 0 0).cells (rmD 2 0 0).slots A) (F0 m 4 ls [])
set_option maxHeartbeats 4000000 in
set_option maxRecDepth 100000 in
theorem w_X4_smallest_b27 {p : Program} {l : Launch} {e : Env} {s : State} {m : MethodId} {args : Array Value} {below : List Frame} {meth : Method} {c : Code} {A : Nat → Prop} {G : GG} {S : SM} (cx : CX p s m args c cX4_smallest RX4 3 G S A) (hlk : meth.locks = false) (hr : meth.sig.returnType = some .int) (N : Nat) (a_t a_t_least a_t_greatest a_t_good a_t_bad a_t_rowsIn : Nat) (t_size : Int) (t_least : Int → Int) (t_greatest : Int → Int) (t_good : Int → Int) (t_bad : Int → Int) (t_rowsIn : Int → Int) (r : Int) (k4 : Int → Int → Option (Int)) (hk4 : PL_X4_smallest_b4 p l e s m args below meth c A G S a_t a_t_least a_t_greatest a_t_good a_t_bad a_t_rowsIn t_size t_least t_greatest t_good t_bad t_rowsIn r k4) : ∀ (y1 : Int) (y2 : Int), m_X4_smallest_b27 N t_size t_good t_bad k4 y1 y2 = some r → ∀ (H : Heap) (locs : List Loc) (ls : Array Slot), HP G A s.heap H locs [(a_t, .inr (4, [.ref a_t_least, .ref a_t_greatest, .ref a_t_good, .ref a_t_bad, .ref a_t_rowsIn, .int (kI t_size)])), (a_t_least, cAI G 60 t_least), (a_t_greatest, cAI G 60 t_greatest), (a_t_good, cAI G 60 t_good), (a_t_bad, cAI G 60 t_bad), (a_t_rowsIn, cAI G 60 t_rowsIn)] → lv_has ls 3 [(0, .ref a_t), (1, .int (kI y1)), (2, .int (kI y2))] → W p l e (rmD 2 0 0) s m args below meth c H locs 0 0 (MQ below (QcI G A r [(a_t, .inr (4, [.ref a_t_least, .ref a_t_greatest, .ref a_t_good, .ref a_t_bad, .ref a_t_rowsIn, .int (kI t_size)])), (a_t_least, cAI G 60 t_least), (a_t_greatest, cAI G 60 t_greatest), (a_t_good, cAI G 60 t_good), (a_t_bad, cAI G 60 t_bad), (a_t_rowsIn, cAI G 60 t_rowsIn)]) args s (rmD 2 0 0).cells (rmD 2 0 0).slots A) (F0 m 27 ls []) := by
  intro y1 y2 h H locs ls hw hl
  rw [m_X4_smallest_b27] at h
  obtain ⟨⟨hx, hb, -, -, -⟩, -⟩ := id cx
  refine lv_iinc (v := kI (y2 + 1)) (lv' := [(2, .int (kI (y2 + 1))), (0, .ref a_t), (1, .int (kI y1))]) hx hb dX4_smallest_27 hl (k := 2) rfl (kI_add _ _) (by decide) rfl (fun ls hl => ?_)
  refine lv_goto (tgt := 4) hx hb dX4_smallest_30 (by decide) ?_
  exact hk4 y1 (y2 + 1) h _ _ _ hw (lv_sub hl [1, 2, 0] rfl)
set_option maxHeartbeats 4000000 in
set_option maxRecDepth 100000 in
theorem w_X4_smallest_b4 {p : Program} {l : Launch} {e : Env} {s : State} {m : MethodId} {args : Array Value} {below : List Frame} {meth : Method} {c : Code} {A : Nat → Prop} {G : GG} {S : SM} (cx : CX p s m args c cX4_smallest RX4 3 G S A) (hlk : meth.locks = false) (hr : meth.sig.returnType = some .int) (N : Nat) (a_t a_t_least a_t_greatest a_t_good a_t_bad a_t_rowsIn : Nat) (t_size : Int) (t_least : Int → Int) (t_greatest : Int → Int) (t_good : Int → Int) (t_bad : Int → Int) (t_rowsIn : Int → Int) (r : Int) : ∀ n : Nat, PL_X4_smallest_b4 p l e s m args below meth c A G S a_t a_t_least a_t_greatest a_t_good a_t_bad a_t_rowsIn t_size t_least t_greatest t_good t_bad t_rowsIn r (m_X4_smallest_b4 N t_size t_good t_bad n) := by
  intro n
  induction n with
  | zero => intro y1 y2 h; exact nomatch h
  | succ n ih =>
    intro y1 y2 h H locs ls hw hl
    rw [m_X4_smallest_b4] at h
    obtain ⟨⟨hx, hb, -, -, -⟩, -⟩ := id cx
    refine lv_iload_n hx hb dX4_smallest_4 rfl (lv_at hl 2 rfl) ?_
    refine lv_aload_n hx hb dX4_smallest_5 rfl (lv_at hl 0 rfl) ?_
    refine rf_get hx hb cx hw 0 rfl rfl 5 inX4 (by decide) fl_X4_27 rfl rfl dX4_smallest_6 ?_
    obtain ⟨g1, h⟩ := gd_some h
    obtain ⟨g2, h⟩ := gd_some h
    refine ri_icmp_ge (tgt := 33) hx hb g1 g2 dX4_smallest_9 (by decide) (fun c3 => ?_) (fun c3 => ?_)
    · have h := it_pos c3 h
      refine lv_iload_n hx hb dX4_smallest_33 rfl (lv_at hl 1 rfl) ?_
      obtain rfl := so_inj h
      exact re_i hx hb hlk hr cx hw (Nat.le_of_ble_eq_true rfl) (Nat.le_of_ble_eq_true rfl) dX4_smallest_34
    · have h := it_neg c3 h
      refine lv_aload_n hx hb dX4_smallest_12 rfl (lv_at hl 0 rfl) ?_
      refine lv_iload_n hx hb dX4_smallest_13 rfl (lv_at hl 2 rfl) ?_
      obtain ⟨r4, h4, h⟩ := bd_some h
      refine rc_I0 (v := r4) hw [0, 1, 2, 3, 4, 5] (rr_V cx hw (c_X4_cases l G S H.size N a_t a_t_least a_t_greatest a_t_good a_t_bad a_t_rowsIn t_size t_least t_greatest t_good t_bad t_rowsIn y2 _ h4) mv_X4_57 [0, 1, 2, 3, 4, 5] rfl rfl rfl 0 rfl rfl ⟨Nat.le_of_ble_eq_true rfl, Nat.le_of_ble_eq_true rfl⟩ rfl hl.1 rfl (Nat.le_of_ble_eq_true rfl) dX4_smallest_14 ⟨Nat.le_of_ble_eq_true rfl, Nat.le_of_ble_eq_true rfl⟩) rfl rfl (fun H locs hw => ?_)
      refine lv_aload_n hx hb dX4_smallest_17 rfl (lv_at hl 0 rfl) ?_
      refine lv_iload_n hx hb dX4_smallest_18 rfl (lv_at hl 1 rfl) ?_
      obtain ⟨r5, h5, h⟩ := bd_some h
      refine rc_I0 (v := r5) hw [0, 1, 2, 3, 4, 5] (rr_V cx hw (c_X4_cases l G S H.size N a_t a_t_least a_t_greatest a_t_good a_t_bad a_t_rowsIn t_size t_least t_greatest t_good t_bad t_rowsIn y1 _ h5) mv_X4_57 [0, 1, 2, 3, 4, 5] rfl rfl rfl 0 rfl rfl ⟨Nat.le_of_ble_eq_true rfl, Nat.le_of_ble_eq_true rfl⟩ rfl hl.1 rfl (Nat.le_of_ble_eq_true rfl) dX4_smallest_19 ⟨Nat.le_of_ble_eq_true rfl, Nat.le_of_ble_eq_true rfl⟩) rfl rfl (fun H locs hw => ?_)
      obtain ⟨g6, h⟩ := gd_some h
      obtain ⟨g7, h⟩ := gd_some h
      refine ri_icmp_ge (tgt := 27) hx hb g6 g7 dX4_smallest_22 (by decide) (fun c8 => ?_) (fun c8 => ?_)
      · have h := it_pos c8 h
        exact w_X4_smallest_b27 cx hlk hr N a_t a_t_least a_t_greatest a_t_good a_t_bad a_t_rowsIn t_size t_least t_greatest t_good t_bad t_rowsIn r (m_X4_smallest_b4 N t_size t_good t_bad n) ih y1 y2 h _ _ _ hw (lv_sub hl [0, 1, 2] rfl)
      · have h := it_neg c8 h
        refine lv_iload_n hx hb dX4_smallest_25 rfl (lv_at hl 2 rfl) ?_
        refine lv_istore_n (lv' := [(1, .int (kI y2)), (0, .ref a_t), (2, .int (kI y2))]) hx hb dX4_smallest_26 rfl hl (by decide) rfl (fun ls hl => ?_)
        exact w_X4_smallest_b27 cx hlk hr N a_t a_t_least a_t_greatest a_t_good a_t_bad a_t_rowsIn t_size t_least t_greatest t_good t_bad t_rowsIn r (m_X4_smallest_b4 N t_size t_good t_bad n) ih y2 y2 h _ _ _ hw (lv_sub hl [1, 0, 2] rfl)
set_option maxHeartbeats 4000000 in
set_option maxRecDepth 100000 in
theorem c_X4_smallest (l : Launch) (G : GG) (S : SM) (sz : Nat) (N : Nat) (a_t a_t_least a_t_greatest a_t_good a_t_bad a_t_rowsIn : Nat) (t_size : Int) (t_least : Int → Int) (t_greatest : Int → Int) (t_good : Int → Int) (t_bad : Int → Int) (t_rowsIn : Int → Int)  (r : Int) (h : m_X4_smallest N t_size t_good t_bad = some r) : CtI l yX4_smallest cX4_smallest 3 .int (rmD 2 0 0) G S sz [.ref a_t] [(a_t, .inr (4, [.ref a_t_least, .ref a_t_greatest, .ref a_t_good, .ref a_t_bad, .ref a_t_rowsIn, .int (kI t_size)])), (a_t_least, cAI G 60 t_least), (a_t_greatest, cAI G 60 t_greatest), (a_t_good, cAI G 60 t_good), (a_t_bad, cAI G 60 t_bad), (a_t_rowsIn, cAI G 60 t_rowsIn)] r [(a_t, .inr (4, [.ref a_t_least, .ref a_t_greatest, .ref a_t_good, .ref a_t_bad, .ref a_t_rowsIn, .int (kI t_size)])), (a_t_least, cAI G 60 t_least), (a_t_greatest, cAI G 60 t_greatest), (a_t_good, cAI G 60 t_good), (a_t_bad, cAI G 60 t_bad), (a_t_rowsIn, cAI G 60 t_rowsIn)] := by
  refine met_I (by decide +kernel) (Nat.le_of_ble_eq_true rfl) ?_
  intro p e s m args below meth c A H locs ls cx hw hr hlk hnm hl
  have hl : lv_has ls 3 [(0, .ref a_t)] := hl
  rw [m_X4_smallest] at h
  obtain ⟨⟨hx, hb, -, -, -⟩, -⟩ := id cx
  refine ri_iconst hx hb dX4_smallest_0 ?_
  refine lv_istore_n (lv' := [(1, .int (kI 0)), (0, .ref a_t)]) hx hb dX4_smallest_1 rfl hl (by decide) rfl (fun ls hl => ?_)
  refine ri_iconst hx hb dX4_smallest_2 ?_
  refine lv_istore_n (lv' := [(2, .int (kI 1)), (1, .int (kI 0)), (0, .ref a_t)]) hx hb dX4_smallest_3 rfl hl (by decide) rfl (fun ls hl => ?_)
  exact w_X4_smallest_b4 cx hlk hr N a_t a_t_least a_t_greatest a_t_good a_t_bad a_t_rowsIn t_size t_least t_greatest t_good t_bad t_rowsIn r N 0 1 h _ _ _ hw (lv_sub hl [2, 1, 0] rfl)
set_option maxHeartbeats 4000000 in
set_option maxRecDepth 100000 in
theorem c_X4_rise (l : Launch) (G : GG) (S : SM) (sz : Nat) (N : Nat) (a_t a_t_least a_t_greatest a_t_good a_t_bad a_t_rowsIn : Nat) (t_size : Int) (t_least : Int → Int) (t_greatest : Int → Int) (t_good : Int → Int) (t_bad : Int → Int) (t_rowsIn : Int → Int) (x1 : Int) (r : Int) (h : m_X4_rise N t_good t_bad x1 = some r) : CtL l yX4_rise cX4_rise 2 (rmD 2 0 0) G S sz [.ref a_t, .int (kI x1)] [(a_t, .inr (4, [.ref a_t_least, .ref a_t_greatest, .ref a_t_good, .ref a_t_bad, .ref a_t_rowsIn, .int (kI t_size)])), (a_t_least, cAI G 60 t_least), (a_t_greatest, cAI G 60 t_greatest), (a_t_good, cAI G 60 t_good), (a_t_bad, cAI G 60 t_bad), (a_t_rowsIn, cAI G 60 t_rowsIn)] r [(a_t, .inr (4, [.ref a_t_least, .ref a_t_greatest, .ref a_t_good, .ref a_t_bad, .ref a_t_rowsIn, .int (kI t_size)])), (a_t_least, cAI G 60 t_least), (a_t_greatest, cAI G 60 t_greatest), (a_t_good, cAI G 60 t_good), (a_t_bad, cAI G 60 t_bad), (a_t_rowsIn, cAI G 60 t_rowsIn)] := by
  refine met_L (by decide +kernel) (Nat.le_of_ble_eq_true rfl) ?_
  intro p e s m args below meth c A H locs ls cx hw hr hlk hnm hl
  have hl : lv_has ls 2 [(0, .ref a_t), (1, .int (kI x1))] := hl
  rw [m_X4_rise] at h
  obtain ⟨⟨hx, hb, -, -, -⟩, -⟩ := id cx
  refine lv_aload_n hx hb dX4_rise_0 rfl (lv_at hl 0 rfl) ?_
  refine rf_get hx hb cx hw 0 rfl rfl 3 inX4 (by decide) fl_X4_21 rfl rfl dX4_rise_1 ?_
  refine lv_iload_n hx hb dX4_rise_4 rfl (lv_at hl 1 rfl) ?_
  obtain ⟨g1, h⟩ := gd_some h
  refine ra_i hx hb cx hw 4 rfl (by decide) g1 dX4_rise_5 ?_
  obtain ⟨g2, h⟩ := gd_some h
  refine ri_i2l hx hb g2 dX4_rise_6 ?_
  refine lv_aload_n hx hb dX4_rise_7 rfl (lv_at hl 0 rfl) ?_
  refine lv_iload_n hx hb dX4_rise_8 rfl (lv_at hl 1 rfl) ?_
  refine ri_iconst hx hb dX4_rise_9 ?_
  refine ri_iadd hx hb dX4_rise_10 ?_
  obtain ⟨r3, h3, h⟩ := bd_some h
  refine rc_I0 (v := r3) hw [0, 1, 2, 3, 4, 5] (rr_V cx hw (c_X4_cases l G S H.size N a_t a_t_least a_t_greatest a_t_good a_t_bad a_t_rowsIn t_size t_least t_greatest t_good t_bad t_rowsIn (x1 + 1) _ h3) mv_X4_57 [0, 1, 2, 3, 4, 5] rfl rfl rfl 0 rfl rfl ⟨Nat.le_of_ble_eq_true rfl, Nat.le_of_ble_eq_true rfl⟩ rfl hl.1 rfl (Nat.le_of_ble_eq_true rfl) dX4_rise_11 ⟨Nat.le_of_ble_eq_true rfl, Nat.le_of_ble_eq_true rfl⟩) rfl rfl (fun H locs hw => ?_)
  obtain ⟨g4, h⟩ := gd_some h
  refine ri_i2l hx hb g4 dX4_rise_14 ?_
  refine ri_lmul hx hb dX4_rise_15 ?_
  refine lv_aload_n hx hb dX4_rise_16 rfl (lv_at hl 0 rfl) ?_
  refine rf_get hx hb cx hw 0 rfl rfl 3 inX4 (by decide) fl_X4_21 rfl rfl dX4_rise_17 ?_
  refine lv_iload_n hx hb dX4_rise_20 rfl (lv_at hl 1 rfl) ?_
  refine ri_iconst hx hb dX4_rise_21 ?_
  refine ri_iadd hx hb dX4_rise_22 ?_
  obtain ⟨g5, h⟩ := gd_some h
  refine ra_i hx hb cx hw 4 rfl (by decide) g5 dX4_rise_23 ?_
  obtain ⟨g6, h⟩ := gd_some h
  refine ri_i2l hx hb g6 dX4_rise_24 ?_
  refine lv_aload_n hx hb dX4_rise_25 rfl (lv_at hl 0 rfl) ?_
  refine lv_iload_n hx hb dX4_rise_26 rfl (lv_at hl 1 rfl) ?_
  obtain ⟨r7, h7, h⟩ := bd_some h
  refine rc_I0 (v := r7) hw [0, 1, 2, 3, 4, 5] (rr_V cx hw (c_X4_cases l G S H.size N a_t a_t_least a_t_greatest a_t_good a_t_bad a_t_rowsIn t_size t_least t_greatest t_good t_bad t_rowsIn x1 _ h7) mv_X4_57 [0, 1, 2, 3, 4, 5] rfl rfl rfl 0 rfl rfl ⟨Nat.le_of_ble_eq_true rfl, Nat.le_of_ble_eq_true rfl⟩ rfl hl.1 rfl (Nat.le_of_ble_eq_true rfl) dX4_rise_27 ⟨Nat.le_of_ble_eq_true rfl, Nat.le_of_ble_eq_true rfl⟩) rfl rfl (fun H locs hw => ?_)
  obtain ⟨g8, h⟩ := gd_some h
  refine ri_i2l hx hb g8 dX4_rise_30 ?_
  refine ri_lmul hx hb dX4_rise_31 ?_
  refine ri_lsub hx hb dX4_rise_32 ?_
  obtain ⟨g9, h⟩ := gd_some h
  refine rj_absL g9 hx hb cx hl.1 jl_X4_83 (Nat.le_of_ble_eq_true rfl) (Nat.le_of_ble_eq_true rfl) (Nat.le_of_ble_eq_true rfl) (Nat.le_of_ble_eq_true rfl) dX4_rise_33 ?_
  obtain rfl := so_inj h
  exact re_l hx hb hlk hr cx hw (Nat.le_of_ble_eq_true rfl) (Nat.le_of_ble_eq_true rfl) dX4_rise_36
set_option maxHeartbeats 4000000 in
set_option maxRecDepth 100000 in
theorem c_X4_isLowerNearer (l : Launch) (G : GG) (S : SM) (sz : Nat) (N : Nat) (a_t a_t_least a_t_greatest a_t_good a_t_bad a_t_rowsIn : Nat) (t_size : Int) (t_least : Int → Int) (t_greatest : Int → Int) (t_good : Int → Int) (t_bad : Int → Int) (t_rowsIn : Int → Int) (x1 : Int) (r : Int) (h : m_X4_isLowerNearer N t_size t_good t_bad x1 = some r) : CtI l yX4_isLowerNearer cX4_isLowerNearer 2 .boolean (rmD 3 0 0) G S sz [.ref a_t, .int (kI x1)] [(a_t, .inr (4, [.ref a_t_least, .ref a_t_greatest, .ref a_t_good, .ref a_t_bad, .ref a_t_rowsIn, .int (kI t_size)])), (a_t_least, cAI G 60 t_least), (a_t_greatest, cAI G 60 t_greatest), (a_t_good, cAI G 60 t_good), (a_t_bad, cAI G 60 t_bad), (a_t_rowsIn, cAI G 60 t_rowsIn)] r [(a_t, .inr (4, [.ref a_t_least, .ref a_t_greatest, .ref a_t_good, .ref a_t_bad, .ref a_t_rowsIn, .int (kI t_size)])), (a_t_least, cAI G 60 t_least), (a_t_greatest, cAI G 60 t_greatest), (a_t_good, cAI G 60 t_good), (a_t_bad, cAI G 60 t_bad), (a_t_rowsIn, cAI G 60 t_rowsIn)] := by
  refine met_I (by decide +kernel) (Nat.le_of_ble_eq_true rfl) ?_
  intro p e s m args below meth c A H locs ls cx hw hr hlk hnm hl
  have hl : lv_has ls 2 [(0, .ref a_t), (1, .int (kI x1))] := hl
  rw [m_X4_isLowerNearer] at h
  obtain ⟨⟨hx, hb, -, -, -⟩, -⟩ := id cx
  refine lv_iload_n hx hb dX4_isLowerNearer_0 rfl (lv_at hl 1 rfl) ?_
  obtain ⟨g1, h⟩ := gd_some h
  refine ri_if_ne (tgt := 6) hx hb g1 dX4_isLowerNearer_1 (by decide) (fun c2 => ?_) (fun c2 => ?_)
  · have h := it_pos c2 h
    refine ri_iconst hx hb dX4_isLowerNearer_4 ?_
    obtain rfl := so_inj h
    exact re_z (Or.inl rfl)  hx hb hlk hr cx hw (Nat.le_of_ble_eq_true rfl) (Nat.le_of_ble_eq_true rfl) dX4_isLowerNearer_5
  · have h := it_neg c2 h
    refine lv_iload_n hx hb dX4_isLowerNearer_6 rfl (lv_at hl 1 rfl) ?_
    refine lv_aload_n hx hb dX4_isLowerNearer_7 rfl (lv_at hl 0 rfl) ?_
    refine rf_get hx hb cx hw 0 rfl rfl 5 inX4 (by decide) fl_X4_27 rfl rfl dX4_isLowerNearer_8 ?_
    refine ri_iconst hx hb dX4_isLowerNearer_11 ?_
    refine ri_isub hx hb dX4_isLowerNearer_12 ?_
    obtain ⟨g3, h⟩ := gd_some h
    refine ri_icmp_ne (tgt := 18) hx hb g1 g3 dX4_isLowerNearer_13 (by decide) (fun c4 => ?_) (fun c4 => ?_)
    · have h := it_pos c4 h
      refine ri_iconst hx hb dX4_isLowerNearer_16 ?_
      obtain rfl := so_inj h
      exact re_z (Or.inr rfl)  hx hb hlk hr cx hw (Nat.le_of_ble_eq_true rfl) (Nat.le_of_ble_eq_true rfl) dX4_isLowerNearer_17
    · have h := it_neg c4 h
      refine lv_aload_n hx hb dX4_isLowerNearer_18 rfl (lv_at hl 0 rfl) ?_
      refine lv_iload_n hx hb dX4_isLowerNearer_19 rfl (lv_at hl 1 rfl) ?_
      refine ri_iconst hx hb dX4_isLowerNearer_20 ?_
      refine ri_isub hx hb dX4_isLowerNearer_21 ?_
      obtain ⟨r5, h5, h⟩ := bd_some h
      refine rc_L0 (v := r5) hw [0, 1, 2, 3, 4, 5] (rr_V cx hw (c_X4_rise l G S H.size N a_t a_t_least a_t_greatest a_t_good a_t_bad a_t_rowsIn t_size t_least t_greatest t_good t_bad t_rowsIn (x1 - 1) _ h5) mv_X4_80 [0, 1, 2, 3, 4, 5] rfl rfl rfl 0 rfl rfl ⟨Nat.le_of_ble_eq_true rfl, Nat.le_of_ble_eq_true rfl⟩ rfl hl.1 rfl (Nat.le_of_ble_eq_true rfl) dX4_isLowerNearer_22 ⟨Nat.le_of_ble_eq_true rfl, Nat.le_of_ble_eq_true rfl⟩) rfl rfl (fun H locs hw => ?_)
      refine lv_aload_n hx hb dX4_isLowerNearer_25 rfl (lv_at hl 0 rfl) ?_
      refine lv_iload_n hx hb dX4_isLowerNearer_26 rfl (lv_at hl 1 rfl) ?_
      refine ri_iconst hx hb dX4_isLowerNearer_27 ?_
      refine ri_iadd hx hb dX4_isLowerNearer_28 ?_
      obtain ⟨r6, h6, h⟩ := bd_some h
      refine rc_I0 (v := r6) hw [0, 1, 2, 3, 4, 5] (rr_V cx hw (c_X4_cases l G S H.size N a_t a_t_least a_t_greatest a_t_good a_t_bad a_t_rowsIn t_size t_least t_greatest t_good t_bad t_rowsIn (x1 + 1) _ h6) mv_X4_57 [0, 1, 2, 3, 4, 5] rfl rfl rfl 0 rfl rfl ⟨Nat.le_of_ble_eq_true rfl, Nat.le_of_ble_eq_true rfl⟩ rfl hl.1 rfl (Nat.le_of_ble_eq_true rfl) dX4_isLowerNearer_29 ⟨Nat.le_of_ble_eq_true rfl, Nat.le_of_ble_eq_true rfl⟩) rfl rfl (fun H locs hw => ?_)
      obtain ⟨g7, h⟩ := gd_some h
      refine ri_i2l hx hb g7 dX4_isLowerNearer_32 ?_
      refine ri_lmul hx hb dX4_isLowerNearer_33 ?_
      refine lv_aload_n hx hb dX4_isLowerNearer_34 rfl (lv_at hl 0 rfl) ?_
      refine lv_iload_n hx hb dX4_isLowerNearer_35 rfl (lv_at hl 1 rfl) ?_
      obtain ⟨r8, h8, h⟩ := bd_some h
      refine rc_L0 (v := r8) hw [0, 1, 2, 3, 4, 5] (rr_V cx hw (c_X4_rise l G S H.size N a_t a_t_least a_t_greatest a_t_good a_t_bad a_t_rowsIn t_size t_least t_greatest t_good t_bad t_rowsIn x1 _ h8) mv_X4_80 [0, 1, 2, 3, 4, 5] rfl rfl rfl 0 rfl rfl ⟨Nat.le_of_ble_eq_true rfl, Nat.le_of_ble_eq_true rfl⟩ rfl hl.1 rfl (Nat.le_of_ble_eq_true rfl) dX4_isLowerNearer_36 ⟨Nat.le_of_ble_eq_true rfl, Nat.le_of_ble_eq_true rfl⟩) rfl rfl (fun H locs hw => ?_)
      refine lv_aload_n hx hb dX4_isLowerNearer_39 rfl (lv_at hl 0 rfl) ?_
      refine lv_iload_n hx hb dX4_isLowerNearer_40 rfl (lv_at hl 1 rfl) ?_
      refine ri_iconst hx hb dX4_isLowerNearer_41 ?_
      refine ri_isub hx hb dX4_isLowerNearer_42 ?_
      obtain ⟨r9, h9, h⟩ := bd_some h
      refine rc_I0 (v := r9) hw [0, 1, 2, 3, 4, 5] (rr_V cx hw (c_X4_cases l G S H.size N a_t a_t_least a_t_greatest a_t_good a_t_bad a_t_rowsIn t_size t_least t_greatest t_good t_bad t_rowsIn (x1 - 1) _ h9) mv_X4_57 [0, 1, 2, 3, 4, 5] rfl rfl rfl 0 rfl rfl ⟨Nat.le_of_ble_eq_true rfl, Nat.le_of_ble_eq_true rfl⟩ rfl hl.1 rfl (Nat.le_of_ble_eq_true rfl) dX4_isLowerNearer_43 ⟨Nat.le_of_ble_eq_true rfl, Nat.le_of_ble_eq_true rfl⟩) rfl rfl (fun H locs hw => ?_)
      obtain ⟨g10, h⟩ := gd_some h
      refine ri_i2l hx hb g10 dX4_isLowerNearer_46 ?_
      refine ri_lmul hx hb dX4_isLowerNearer_47 ?_
      obtain ⟨g11, h⟩ := gd_some h
      obtain ⟨g12, h⟩ := gd_some h
      refine ri_lcmp_gt (tgt := 56) hx hb g11 g12 dX4_isLowerNearer_48 dX4_isLowerNearer_49 (by decide) (fun c13 => ?_) (fun c13 => ?_)
      · have h := it_pos c13 h
        refine ri_iconst hx hb dX4_isLowerNearer_56 ?_
        obtain rfl := so_inj h
        exact re_z (Or.inl rfl)  hx hb hlk hr cx hw (Nat.le_of_ble_eq_true rfl) (Nat.le_of_ble_eq_true rfl) dX4_isLowerNearer_57
      · have h := it_neg c13 h
        refine ri_iconst hx hb dX4_isLowerNearer_52 ?_
        refine lv_goto (tgt := 57) hx hb dX4_isLowerNearer_53 (by decide) ?_
        obtain rfl := so_inj h
        exact re_z (Or.inr rfl)  hx hb hlk hr cx hw (Nat.le_of_ble_eq_true rfl) (Nat.le_of_ble_eq_true rfl) dX4_isLowerNearer_57
def PL_X4_joinSmall_b5 (p : Program) (l : Launch) (e : Env) (s : State) (m : MethodId) (args : Array Value) (below : List Frame) (meth : Method) (c : Code) (A : Nat → Prop) (G : GG) (S : SM) (a_t a_t_least a_t_greatest a_t_good a_t_bad a_t_rowsIn : Nat) (x1 : Int) (r : Int × (Int → Int) × (Int → Int) × (Int → Int) × (Int → Int) × (Int → Int)) (kk : Int → (Int → Int) → (Int → Int) → (Int → Int) → (Int → Int) → (Int → Int) → Int → Option (Int × (Int → Int) × (Int → Int) × (Int → Int) × (Int → Int) × (Int → Int))) : Prop := ∀ (t_size : Int) (t_least : Int → Int) (t_greatest : Int → Int) (t_good : Int → Int) (t_bad : Int → Int) (t_rowsIn : Int → Int) (y2 : Int), kk t_size t_least t_greatest t_good t_bad t_rowsIn y2 = some r → ∀ (H : Heap) (locs : List Loc) (ls : Array Slot), HP G A s.heap H locs [(a_t, .inr (4, [.ref a_t_least, .ref a_t_greatest, .ref a_t_good, .ref a_t_bad, .ref a_t_rowsIn, .int (kI t_size)])), (a_t_least, cAI G 60 t_least), (a_t_greatest, cAI G 60 t_greatest), (a_t_good, cAI G 60 t_good), (a_t_bad, cAI G 60 t_bad), (a_t_rowsIn, cAI G 60 t_rowsIn)] → lv_has ls 4 [(0, .ref a_t), (1, .int (kI x1)), (2, .int (kI y2))] → W p l e (rmD 4 0 0) s m args below meth c H locs 0 0 (MQ below (QcV G A [(a_t, .inr (4, [.ref a_t_least, .ref a_t_greatest, .ref a_t_good, .ref a_t_bad, .ref a_t_rowsIn, .int (kI r.1)])), (a_t_least, cAI G 60 r.2.1), (a_t_greatest, cAI G 60 r.2.2.1), (a_t_good, cAI G 60 r.2.2.2.1), (a_t_bad, cAI G 60 r.2.2.2.2.1), (a_t_rowsIn, cAI G 60 r.2.2.2.2.2)]) args s (rmD 4 0 0).cells (rmD 4 0 0).slots A) (F0 m 5 ls [])
set_option maxHeartbeats 4000000 in
set_option maxRecDepth 100000 in
theorem w_X4_joinSmall_b41 {p : Program} {l : Launch} {e : Env} {s : State} {m : MethodId} {args : Array Value} {below : List Frame} {meth : Method} {c : Code} {A : Nat → Prop} {G : GG} {S : SM} (cx : CX p s m args c cX4_joinSmall RX4 4 G S A) (hlk : meth.locks = false) (hr : meth.sig.returnType = none) (N : Nat) (a_t a_t_least a_t_greatest a_t_good a_t_bad a_t_rowsIn : Nat) (x1 : Int) (r : Int × (Int → Int) × (Int → Int) × (Int → Int) × (Int → Int) × (Int → Int)) (k5 : Int → (Int → Int) → (Int → Int) → (Int → Int) → (Int → Int) → (Int → Int) → Int → Option (Int × (Int → Int) × (Int → Int) × (Int → Int) × (Int → Int) × (Int → Int))) (hk5 : PL_X4_joinSmall_b5 p l e s m args below meth c A G S a_t a_t_least a_t_greatest a_t_good a_t_bad a_t_rowsIn x1 r k5) : ∀ (t_size : Int) (t_least : Int → Int) (t_greatest : Int → Int) (t_good : Int → Int) (t_bad : Int → Int) (t_rowsIn : Int → Int) (y2 : Int) (s1 : Int), m_X4_joinSmall_b41 N x1 k5 t_size t_least t_greatest t_good t_bad t_rowsIn y2 s1 = some r → ∀ (H : Heap) (locs : List Loc) (ls : Array Slot), HP G A s.heap H locs [(a_t, .inr (4, [.ref a_t_least, .ref a_t_greatest, .ref a_t_good, .ref a_t_bad, .ref a_t_rowsIn, .int (kI t_size)])), (a_t_least, cAI G 60 t_least), (a_t_greatest, cAI G 60 t_greatest), (a_t_good, cAI G 60 t_good), (a_t_bad, cAI G 60 t_bad), (a_t_rowsIn, cAI G 60 t_rowsIn)] → lv_has ls 4 [(0, .ref a_t), (1, .int (kI x1)), (2, .int (kI y2))] → W p l e (rmD 4 0 0) s m args below meth c H locs 0 0 (MQ below (QcV G A [(a_t, .inr (4, [.ref a_t_least, .ref a_t_greatest, .ref a_t_good, .ref a_t_bad, .ref a_t_rowsIn, .int (kI r.1)])), (a_t_least, cAI G 60 r.2.1), (a_t_greatest, cAI G 60 r.2.2.1), (a_t_good, cAI G 60 r.2.2.2.1), (a_t_bad, cAI G 60 r.2.2.2.2.1), (a_t_rowsIn, cAI G 60 r.2.2.2.2.2)]) args s (rmD 4 0 0).cells (rmD 4 0 0).slots A) (F0 m 41 ls [.int (kI s1), .ref a_t]) := by
  intro t_size t_least t_greatest t_good t_bad t_rowsIn y2 s1 h H locs ls hw hl
  rw [m_X4_joinSmall_b41] at h
  obtain ⟨⟨hx, hb, -, -, -⟩, -⟩ := id cx
  obtain ⟨r1, h1, h⟩ := bd_some h
  refine rc_V (w2 := [(a_t, .inr (4, [.ref a_t_least, .ref a_t_greatest, .ref a_t_good, .ref a_t_bad, .ref a_t_rowsIn, .int (kI r1.1)])), (a_t_least, cAI G 60 r1.2.1), (a_t_greatest, cAI G 60 r1.2.2.1), (a_t_good, cAI G 60 r1.2.2.2.1), (a_t_bad, cAI G 60 r1.2.2.2.2.1), (a_t_rowsIn, cAI G 60 r1.2.2.2.2.2)]) hw [0, 1, 2, 3, 4, 5] [] [0, 1, 2, 3, 4, 5] (rr_V cx hw (c_X4_join l G S H.size N a_t a_t_least a_t_greatest a_t_good a_t_bad a_t_rowsIn t_size t_least t_greatest t_good t_bad t_rowsIn s1 _ h1) mv_X4_43 [0, 1, 2, 3, 4, 5] rfl rfl rfl 0 rfl rfl ⟨Nat.le_of_ble_eq_true rfl, Nat.le_of_ble_eq_true rfl⟩ rfl hl.1 rfl (Nat.le_of_ble_eq_true rfl) dX4_joinSmall_41 ⟨Nat.le_of_ble_eq_true rfl, Nat.le_of_ble_eq_true rfl⟩) rfl rfl rfl rfl rfl rfl rfl rfl (fun H locs hw => ?_)
  refine lv_iinc (v := kI (y2 + (-1))) (lv' := [(2, .int (kI (y2 + (-1)))), (0, .ref a_t), (1, .int (kI x1))]) hx hb dX4_joinSmall_44 hl (k := 2) rfl (kI_add _ _) (by decide) rfl (fun ls hl => ?_)
  refine lv_goto (tgt := 5) hx hb dX4_joinSmall_47 (by decide) ?_
  exact hk5 r1.1 r1.2.1 r1.2.2.1 r1.2.2.2.1 r1.2.2.2.2.1 r1.2.2.2.2.2 (y2 + (-1)) h _ _ _ hw (lv_sub hl [1, 2, 0] rfl)
set_option maxHeartbeats 4000000 in
set_option maxRecDepth 100000 in
theorem w_X4_joinSmall_b5 {p : Program} {l : Launch} {e : Env} {s : State} {m : MethodId} {args : Array Value} {below : List Frame} {meth : Method} {c : Code} {A : Nat → Prop} {G : GG} {S : SM} (cx : CX p s m args c cX4_joinSmall RX4 4 G S A) (hlk : meth.locks = false) (hr : meth.sig.returnType = none) (N : Nat) (a_t a_t_least a_t_greatest a_t_good a_t_bad a_t_rowsIn : Nat) (x1 : Int) (r : Int × (Int → Int) × (Int → Int) × (Int → Int) × (Int → Int) × (Int → Int)) : ∀ n : Nat, PL_X4_joinSmall_b5 p l e s m args below meth c A G S a_t a_t_least a_t_greatest a_t_good a_t_bad a_t_rowsIn x1 r (m_X4_joinSmall_b5 N x1 n) := by
  intro n
  induction n with
  | zero => intro t_size t_least t_greatest t_good t_bad t_rowsIn y2 h; exact nomatch h
  | succ n ih =>
    intro t_size t_least t_greatest t_good t_bad t_rowsIn y2 h H locs ls hw hl
    rw [m_X4_joinSmall_b5] at h
    obtain ⟨⟨hx, hb, -, -, -⟩, -⟩ := id cx
    refine lv_iload_n hx hb dX4_joinSmall_5 rfl (lv_at hl 2 rfl) ?_
    refine ri_iconst hx hb dX4_joinSmall_6 ?_
    obtain ⟨g1, h⟩ := gd_some h
    refine ri_icmp_lt (tgt := 50) hx hb g1 ⟨by decide, by decide⟩ dX4_joinSmall_7 (by decide) (fun c2 => ?_) (fun c2 => ?_)
    · have h := it_pos c2 h
      obtain rfl := so_inj h
      exact re_v hx hb hlk hr cx hw (Nat.le_of_ble_eq_true rfl) (Nat.le_of_ble_eq_true rfl) dX4_joinSmall_50
    · have h := it_neg c2 h
      refine lv_aload_n hx hb dX4_joinSmall_10 rfl (lv_at hl 0 rfl) ?_
      obtain ⟨r3, h3, h⟩ := bd_some h
      refine rc_I0 (v := r3) hw [0, 1, 2, 3, 4, 5] (rr_V cx hw (c_X4_smallest l G S H.size N a_t a_t_least a_t_greatest a_t_good a_t_bad a_t_rowsIn t_size t_least t_greatest t_good t_bad t_rowsIn _ h3) mv_X4_53 [0, 1, 2, 3, 4, 5] rfl rfl rfl 0 rfl rfl ⟨Nat.le_of_ble_eq_true rfl, Nat.le_of_ble_eq_true rfl⟩ rfl hl.1 rfl (Nat.le_of_ble_eq_true rfl) dX4_joinSmall_11 ⟨Nat.le_of_ble_eq_true rfl, Nat.le_of_ble_eq_true rfl⟩) rfl rfl (fun H locs hw => ?_)
      refine lv_istore_n (lv' := [(3, .int (kI r3)), (0, .ref a_t), (1, .int (kI x1)), (2, .int (kI y2))]) hx hb dX4_joinSmall_14 rfl hl (by decide) rfl (fun ls hl => ?_)
      refine lv_aload_n hx hb dX4_joinSmall_15 rfl (lv_at hl 1 rfl) ?_
      refine lv_iload_n hx hb dX4_joinSmall_16 rfl (lv_at hl 0 rfl) ?_
      obtain ⟨r4, h4, h⟩ := bd_some h
      refine rc_I0 (v := r4) hw [0, 1, 2, 3, 4, 5] (rr_V cx hw (c_X4_cases l G S H.size N a_t a_t_least a_t_greatest a_t_good a_t_bad a_t_rowsIn t_size t_least t_greatest t_good t_bad t_rowsIn r3 _ h4) mv_X4_57 [0, 1, 2, 3, 4, 5] rfl rfl rfl 0 rfl rfl ⟨Nat.le_of_ble_eq_true rfl, Nat.le_of_ble_eq_true rfl⟩ rfl hl.1 rfl (Nat.le_of_ble_eq_true rfl) dX4_joinSmall_17 ⟨Nat.le_of_ble_eq_true rfl, Nat.le_of_ble_eq_true rfl⟩) rfl rfl (fun H locs hw => ?_)
      refine lv_iload_n hx hb dX4_joinSmall_20 rfl (lv_at hl 2 rfl) ?_
      obtain ⟨g5, h⟩ := gd_some h
      obtain ⟨g6, h⟩ := gd_some h
      refine ri_icmp_lt (tgt := 25) hx hb g5 g6 dX4_joinSmall_21 (by decide) (fun c7 => ?_) (fun c7 => ?_)
      · have h := it_pos c7 h
        refine lv_aload_n hx hb dX4_joinSmall_25 rfl (lv_at hl 1 rfl) ?_
        refine lv_aload_n hx hb dX4_joinSmall_26 rfl (lv_at hl 1 rfl) ?_
        refine lv_iload_n hx hb dX4_joinSmall_27 rfl (lv_at hl 0 rfl) ?_
        obtain ⟨r8, h8, h⟩ := bd_some h
        refine rc_I0 (v := r8) hw [0, 1, 2, 3, 4, 5] (rr_V cx hw (c_X4_isLowerNearer l G S H.size N a_t a_t_least a_t_greatest a_t_good a_t_bad a_t_rowsIn t_size t_least t_greatest t_good t_bad t_rowsIn r3 _ h8) mv_X4_61 [0, 1, 2, 3, 4, 5] rfl rfl rfl 0 rfl rfl ⟨Nat.le_of_ble_eq_true rfl, Nat.le_of_ble_eq_true rfl⟩ rfl hl.1 rfl (Nat.le_of_ble_eq_true rfl) dX4_joinSmall_28 ⟨Nat.le_of_ble_eq_true rfl, Nat.le_of_ble_eq_true rfl⟩) rfl rfl (fun H locs hw => ?_)
        obtain ⟨g9, h⟩ := gd_some h
        refine ri_if_eq (tgt := 40) hx hb g9 dX4_joinSmall_31 (by decide) (fun c10 => ?_) (fun c10 => ?_)
        · have h := it_pos c10 h
          refine lv_iload_n hx hb dX4_joinSmall_40 rfl (lv_at hl 0 rfl) ?_
          exact w_X4_joinSmall_b41 cx hlk hr N a_t a_t_least a_t_greatest a_t_good a_t_bad a_t_rowsIn x1 r (m_X4_joinSmall_b5 N x1 n) ih t_size t_least t_greatest t_good t_bad t_rowsIn y2 r3 h _ _ _ hw (lv_sub hl [1, 2, 3] rfl)
        · have h := it_neg c10 h
          refine lv_iload_n hx hb dX4_joinSmall_34 rfl (lv_at hl 0 rfl) ?_
          refine ri_iconst hx hb dX4_joinSmall_35 ?_
          refine ri_isub hx hb dX4_joinSmall_36 ?_
          refine lv_goto (tgt := 41) hx hb dX4_joinSmall_37 (by decide) ?_
          exact w_X4_joinSmall_b41 cx hlk hr N a_t a_t_least a_t_greatest a_t_good a_t_bad a_t_rowsIn x1 r (m_X4_joinSmall_b5 N x1 n) ih t_size t_least t_greatest t_good t_bad t_rowsIn y2 (r3 - 1) h _ _ _ hw (lv_sub hl [1, 2, 3] rfl)
      · have h := it_neg c7 h
        obtain rfl := so_inj h
        exact re_v hx hb hlk hr cx hw (Nat.le_of_ble_eq_true rfl) (Nat.le_of_ble_eq_true rfl) dX4_joinSmall_24
set_option maxHeartbeats 4000000 in
set_option maxRecDepth 100000 in
theorem c_X4_joinSmall (l : Launch) (G : GG) (S : SM) (sz : Nat) (N : Nat) (a_t a_t_least a_t_greatest a_t_good a_t_bad a_t_rowsIn : Nat) (t_size : Int) (t_least : Int → Int) (t_greatest : Int → Int) (t_good : Int → Int) (t_bad : Int → Int) (t_rowsIn : Int → Int) (x1 : Int) (r : Int × (Int → Int) × (Int → Int) × (Int → Int) × (Int → Int) × (Int → Int)) (h : m_X4_joinSmall N t_size t_least t_greatest t_good t_bad t_rowsIn x1 = some r) : CtV l yX4_joinSmall cX4_joinSmall 4 (rmD 4 0 0) G S sz [.ref a_t, .int (kI x1)] [(a_t, .inr (4, [.ref a_t_least, .ref a_t_greatest, .ref a_t_good, .ref a_t_bad, .ref a_t_rowsIn, .int (kI t_size)])), (a_t_least, cAI G 60 t_least), (a_t_greatest, cAI G 60 t_greatest), (a_t_good, cAI G 60 t_good), (a_t_bad, cAI G 60 t_bad), (a_t_rowsIn, cAI G 60 t_rowsIn)] [(a_t, .inr (4, [.ref a_t_least, .ref a_t_greatest, .ref a_t_good, .ref a_t_bad, .ref a_t_rowsIn, .int (kI r.1)])), (a_t_least, cAI G 60 r.2.1), (a_t_greatest, cAI G 60 r.2.2.1), (a_t_good, cAI G 60 r.2.2.2.1), (a_t_bad, cAI G 60 r.2.2.2.2.1), (a_t_rowsIn, cAI G 60 r.2.2.2.2.2)] := by
  refine met_V (by decide +kernel) (Nat.le_of_ble_eq_true rfl) ?_
  intro p e s m args below meth c A H locs ls cx hw hr hlk hnm hl
  have hl : lv_has ls 4 [(0, .ref a_t), (1, .int (kI x1))] := hl
  rw [m_X4_joinSmall] at h
  obtain ⟨⟨hx, hb, -, -, -⟩, -⟩ := id cx
  refine lv_aload_n hx hb dX4_joinSmall_0 rfl (lv_at hl 0 rfl) ?_
  refine rf_get hx hb cx hw 0 rfl rfl 5 inX4 (by decide) fl_X4_27 rfl rfl dX4_joinSmall_1 ?_
  refine lv_istore_n (lv' := [(2, .int (kI t_size)), (0, .ref a_t), (1, .int (kI x1))]) hx hb dX4_joinSmall_4 rfl hl (by decide) rfl (fun ls hl => ?_)
  exact w_X4_joinSmall_b5 cx hlk hr N a_t a_t_least a_t_greatest a_t_good a_t_bad a_t_rowsIn x1 r N t_size t_least t_greatest t_good t_bad t_rowsIn t_size h _ _ _ hw (lv_sub hl [1, 2, 0] rfl)
set_option maxHeartbeats 4000000 in
set_option maxRecDepth 100000 in
theorem c_X4_growthAbove (l : Launch) (G : GG) (S : SM) (sz : Nat) (N : Nat) (a_t a_t_least a_t_greatest a_t_good a_t_bad a_t_rowsIn : Nat) (t_size : Int) (t_least : Int → Int) (t_greatest : Int → Int) (t_good : Int → Int) (t_bad : Int → Int) (t_rowsIn : Int → Int) (x1 : Int) (r : Int) (h : m_X4_growthAbove N t_good t_bad x1 = some r) : CtL l yX4_growthAbove cX4_growthAbove 2 (rmD 3 0 0) G S sz [.ref a_t, .int (kI x1)] [(a_t, .inr (4, [.ref a_t_least, .ref a_t_greatest, .ref a_t_good, .ref a_t_bad, .ref a_t_rowsIn, .int (kI t_size)])), (a_t_least, cAI G 60 t_least), (a_t_greatest, cAI G 60 t_greatest), (a_t_good, cAI G 60 t_good), (a_t_bad, cAI G 60 t_bad), (a_t_rowsIn, cAI G 60 t_rowsIn)] r [(a_t, .inr (4, [.ref a_t_least, .ref a_t_greatest, .ref a_t_good, .ref a_t_bad, .ref a_t_rowsIn, .int (kI t_size)])), (a_t_least, cAI G 60 t_least), (a_t_greatest, cAI G 60 t_greatest), (a_t_good, cAI G 60 t_good), (a_t_bad, cAI G 60 t_bad), (a_t_rowsIn, cAI G 60 t_rowsIn)] := by
  refine met_L (by decide +kernel) (Nat.le_of_ble_eq_true rfl) ?_
  intro p e s m args below meth c A H locs ls cx hw hr hlk hnm hl
  have hl : lv_has ls 2 [(0, .ref a_t), (1, .int (kI x1))] := hl
  rw [m_X4_growthAbove] at h
  obtain ⟨⟨hx, hb, -, -, -⟩, -⟩ := id cx
  refine lv_aload_n hx hb dX4_growthAbove_0 rfl (lv_at hl 0 rfl) ?_
  refine lv_iload_n hx hb dX4_growthAbove_1 rfl (lv_at hl 1 rfl) ?_
  obtain ⟨r1, h1, h⟩ := bd_some h
  refine rc_L0 (v := r1) hw [0, 1, 2, 3, 4, 5] (rr_V cx hw (c_X4_rise l G S H.size N a_t a_t_least a_t_greatest a_t_good a_t_bad a_t_rowsIn t_size t_least t_greatest t_good t_bad t_rowsIn x1 _ h1) mv_X4_80 [0, 1, 2, 3, 4, 5] rfl rfl rfl 0 rfl rfl ⟨Nat.le_of_ble_eq_true rfl, Nat.le_of_ble_eq_true rfl⟩ rfl hl.1 rfl (Nat.le_of_ble_eq_true rfl) dX4_growthAbove_2 ⟨Nat.le_of_ble_eq_true rfl, Nat.le_of_ble_eq_true rfl⟩) rfl rfl (fun H locs hw => ?_)
  refine lv_aload_n hx hb dX4_growthAbove_5 rfl (lv_at hl 0 rfl) ?_
  refine lv_iload_n hx hb dX4_growthAbove_6 rfl (lv_at hl 1 rfl) ?_
  obtain ⟨r2, h2, h⟩ := bd_some h
  refine rc_L0 (v := r2) hw [0, 1, 2, 3, 4, 5] (rr_V cx hw (c_X4_rise l G S H.size N a_t a_t_least a_t_greatest a_t_good a_t_bad a_t_rowsIn t_size t_least t_greatest t_good t_bad t_rowsIn x1 _ h2) mv_X4_80 [0, 1, 2, 3, 4, 5] rfl rfl rfl 0 rfl rfl ⟨Nat.le_of_ble_eq_true rfl, Nat.le_of_ble_eq_true rfl⟩ rfl hl.1 rfl (Nat.le_of_ble_eq_true rfl) dX4_growthAbove_7 ⟨Nat.le_of_ble_eq_true rfl, Nat.le_of_ble_eq_true rfl⟩) rfl rfl (fun H locs hw => ?_)
  refine ri_lmul hx hb dX4_growthAbove_10 ?_
  obtain rfl := so_inj h
  exact re_l hx hb hlk hr cx hw (Nat.le_of_ble_eq_true rfl) (Nat.le_of_ble_eq_true rfl) dX4_growthAbove_11
set_option maxHeartbeats 4000000 in
set_option maxRecDepth 100000 in
theorem c_X4_growthBelow (l : Launch) (G : GG) (S : SM) (sz : Nat) (N : Nat) (a_t a_t_least a_t_greatest a_t_good a_t_bad a_t_rowsIn : Nat) (t_size : Int) (t_least : Int → Int) (t_greatest : Int → Int) (t_good : Int → Int) (t_bad : Int → Int) (t_rowsIn : Int → Int) (x1 : Int) (r : Int) (h : m_X4_growthBelow N t_good t_bad x1 = some r) : CtL l yX4_growthBelow cX4_growthBelow 2 (rmD 2 0 0) G S sz [.ref a_t, .int (kI x1)] [(a_t, .inr (4, [.ref a_t_least, .ref a_t_greatest, .ref a_t_good, .ref a_t_bad, .ref a_t_rowsIn, .int (kI t_size)])), (a_t_least, cAI G 60 t_least), (a_t_greatest, cAI G 60 t_greatest), (a_t_good, cAI G 60 t_good), (a_t_bad, cAI G 60 t_bad), (a_t_rowsIn, cAI G 60 t_rowsIn)] r [(a_t, .inr (4, [.ref a_t_least, .ref a_t_greatest, .ref a_t_good, .ref a_t_bad, .ref a_t_rowsIn, .int (kI t_size)])), (a_t_least, cAI G 60 t_least), (a_t_greatest, cAI G 60 t_greatest), (a_t_good, cAI G 60 t_good), (a_t_bad, cAI G 60 t_bad), (a_t_rowsIn, cAI G 60 t_rowsIn)] := by
  refine met_L (by decide +kernel) (Nat.le_of_ble_eq_true rfl) ?_
  intro p e s m args below meth c A H locs ls cx hw hr hlk hnm hl
  have hl : lv_has ls 2 [(0, .ref a_t), (1, .int (kI x1))] := hl
  rw [m_X4_growthBelow] at h
  obtain ⟨⟨hx, hb, -, -, -⟩, -⟩ := id cx
  refine lv_aload_n hx hb dX4_growthBelow_0 rfl (lv_at hl 0 rfl) ?_
  refine lv_iload_n hx hb dX4_growthBelow_1 rfl (lv_at hl 1 rfl) ?_
  obtain ⟨r1, h1, h⟩ := bd_some h
  refine rc_I0 (v := r1) hw [0, 1, 2, 3, 4, 5] (rr_V cx hw (c_X4_cases l G S H.size N a_t a_t_least a_t_greatest a_t_good a_t_bad a_t_rowsIn t_size t_least t_greatest t_good t_bad t_rowsIn x1 _ h1) mv_X4_57 [0, 1, 2, 3, 4, 5] rfl rfl rfl 0 rfl rfl ⟨Nat.le_of_ble_eq_true rfl, Nat.le_of_ble_eq_true rfl⟩ rfl hl.1 rfl (Nat.le_of_ble_eq_true rfl) dX4_growthBelow_2 ⟨Nat.le_of_ble_eq_true rfl, Nat.le_of_ble_eq_true rfl⟩) rfl rfl (fun H locs hw => ?_)
  obtain ⟨g2, h⟩ := gd_some h
  refine ri_i2l hx hb g2 dX4_growthBelow_5 ?_
  refine lv_aload_n hx hb dX4_growthBelow_6 rfl (lv_at hl 0 rfl) ?_
  refine lv_iload_n hx hb dX4_growthBelow_7 rfl (lv_at hl 1 rfl) ?_
  refine ri_iconst hx hb dX4_growthBelow_8 ?_
  refine ri_iadd hx hb dX4_growthBelow_9 ?_
  obtain ⟨r3, h3, h⟩ := bd_some h
  refine rc_I0 (v := r3) hw [0, 1, 2, 3, 4, 5] (rr_V cx hw (c_X4_cases l G S H.size N a_t a_t_least a_t_greatest a_t_good a_t_bad a_t_rowsIn t_size t_least t_greatest t_good t_bad t_rowsIn (x1 + 1) _ h3) mv_X4_57 [0, 1, 2, 3, 4, 5] rfl rfl rfl 0 rfl rfl ⟨Nat.le_of_ble_eq_true rfl, Nat.le_of_ble_eq_true rfl⟩ rfl hl.1 rfl (Nat.le_of_ble_eq_true rfl) dX4_growthBelow_10 ⟨Nat.le_of_ble_eq_true rfl, Nat.le_of_ble_eq_true rfl⟩) rfl rfl (fun H locs hw => ?_)
  obtain ⟨g4, h⟩ := gd_some h
  refine ri_i2l hx hb g4 dX4_growthBelow_13 ?_
  refine ri_lmul hx hb dX4_growthBelow_14 ?_
  refine lv_aload_n hx hb dX4_growthBelow_15 rfl (lv_at hl 0 rfl) ?_
  refine lv_iload_n hx hb dX4_growthBelow_16 rfl (lv_at hl 1 rfl) ?_
  obtain ⟨r5, h5, h⟩ := bd_some h
  refine rc_I0 (v := r5) hw [0, 1, 2, 3, 4, 5] (rr_V cx hw (c_X4_cases l G S H.size N a_t a_t_least a_t_greatest a_t_good a_t_bad a_t_rowsIn t_size t_least t_greatest t_good t_bad t_rowsIn x1 _ h5) mv_X4_57 [0, 1, 2, 3, 4, 5] rfl rfl rfl 0 rfl rfl ⟨Nat.le_of_ble_eq_true rfl, Nat.le_of_ble_eq_true rfl⟩ rfl hl.1 rfl (Nat.le_of_ble_eq_true rfl) dX4_growthBelow_17 ⟨Nat.le_of_ble_eq_true rfl, Nat.le_of_ble_eq_true rfl⟩) rfl rfl (fun H locs hw => ?_)
  refine lv_aload_n hx hb dX4_growthBelow_20 rfl (lv_at hl 0 rfl) ?_
  refine lv_iload_n hx hb dX4_growthBelow_21 rfl (lv_at hl 1 rfl) ?_
  refine ri_iconst hx hb dX4_growthBelow_22 ?_
  refine ri_iadd hx hb dX4_growthBelow_23 ?_
  obtain ⟨r6, h6, h⟩ := bd_some h
  refine rc_I0 (v := r6) hw [0, 1, 2, 3, 4, 5] (rr_V cx hw (c_X4_cases l G S H.size N a_t a_t_least a_t_greatest a_t_good a_t_bad a_t_rowsIn t_size t_least t_greatest t_good t_bad t_rowsIn (x1 + 1) _ h6) mv_X4_57 [0, 1, 2, 3, 4, 5] rfl rfl rfl 0 rfl rfl ⟨Nat.le_of_ble_eq_true rfl, Nat.le_of_ble_eq_true rfl⟩ rfl hl.1 rfl (Nat.le_of_ble_eq_true rfl) dX4_growthBelow_24 ⟨Nat.le_of_ble_eq_true rfl, Nat.le_of_ble_eq_true rfl⟩) rfl rfl (fun H locs hw => ?_)
  refine ri_iadd hx hb dX4_growthBelow_27 ?_
  obtain ⟨g7, h⟩ := gd_some h
  refine ri_i2l hx hb g7 dX4_growthBelow_28 ?_
  refine ri_lmul hx hb dX4_growthBelow_29 ?_
  obtain rfl := so_inj h
  exact re_l hx hb hlk hr cx hw (Nat.le_of_ble_eq_true rfl) (Nat.le_of_ble_eq_true rfl) dX4_growthBelow_30
def PL_X5_isLess_b20 (p : Program) (l : Launch) (e : Env) (s : State) (m : MethodId) (args : Array Value) (below : List Frame) (meth : Method) (c : Code) (A : Nat → Prop) (G : GG) (S : SM) (x0 : Int) (x2 : Int) (x4 : Int) (x6 : Int) (r : Int) (kk : Int → Int → Int → Int → Int → Int → Option (Int)) : Prop := ∀ (y8 : Int) (y10 : Int) (y12 : Int) (y14 : Int) (y16 : Int) (y17 : Int), kk y8 y10 y12 y14 y16 y17 = some r → ∀ (H : Heap) (locs : List Loc) (ls : Array Slot), HP G A s.heap H locs [] → lv_has ls 26 [(8, .long (kL y8)), (10, .long (kL y10)), (12, .long (kL y12)), (14, .long (kL y14)), (16, .int (kI y16)), (17, .int (kI y17))] → W p l e (rmD 1 0 0) s m args below meth c H locs 0 0 (MQ below (QcI G A r []) args s (rmD 1 0 0).cells (rmD 1 0 0).slots A) (F0 m 20 ls [])
set_option maxHeartbeats 4000000 in
set_option maxRecDepth 100000 in
theorem w_X5_isLess_b144 {p : Program} {l : Launch} {e : Env} {s : State} {m : MethodId} {args : Array Value} {below : List Frame} {meth : Method} {c : Code} {A : Nat → Prop} {G : GG} {S : SM} (cx : CX p s m args c cX5_isLess RX5 26 G S A) (hlk : meth.locks = false) (hr : meth.sig.returnType = some .boolean) (N : Nat) (x0 : Int) (x2 : Int) (x4 : Int) (x6 : Int) (r : Int) (k20 : Int → Int → Int → Int → Int → Int → Option (Int)) (hk20 : PL_X5_isLess_b20 p l e s m args below meth c A G S x0 x2 x4 x6 r k20) : ∀ (y8 : Int) (y10 : Int) (y12 : Int) (y14 : Int) (y17 : Int) (s0 : Int), m_X5_isLess_b144 N x0 x2 x4 x6 k20 y8 y10 y12 y14 y17 s0 = some r → ∀ (H : Heap) (locs : List Loc) (ls : Array Slot), HP G A s.heap H locs [] → lv_has ls 26 [(8, .long (kL y8)), (10, .long (kL y10)), (12, .long (kL y12)), (14, .long (kL y14)), (17, .int (kI y17))] → W p l e (rmD 1 0 0) s m args below meth c H locs 0 0 (MQ below (QcI G A r []) args s (rmD 1 0 0).cells (rmD 1 0 0).slots A) (F0 m 144 ls [.int (kI s0)]) := by
  intro y8 y10 y12 y14 y17 s0 h H locs ls hw hl
  rw [m_X5_isLess_b144] at h
  obtain ⟨⟨hx, hb, -, -, -⟩, -⟩ := id cx
  refine lv_istore (lv' := [(16, .int (kI s0)), (8, .long (kL y8)), (10, .long (kL y10)), (12, .long (kL y12)), (14, .long (kL y14)), (17, .int (kI y17))]) hx hb dX5_isLess_144 hl (by decide) rfl (fun ls hl => ?_)
  refine lv_iinc (v := kI (y17 + 1)) (lv' := [(17, .int (kI (y17 + 1))), (16, .int (kI s0)), (8, .long (kL y8)), (10, .long (kL y10)), (12, .long (kL y12)), (14, .long (kL y14))]) hx hb dX5_isLess_146 hl (k := 5) rfl (kI_add _ _) (by decide) rfl (fun ls hl => ?_)
  refine lv_goto (tgt := 20) hx hb dX5_isLess_149 (by decide) ?_
  exact hk20 y8 y10 y12 y14 s0 (y17 + 1) h _ _ _ hw (lv_sub hl [2, 3, 4, 5, 1, 0] rfl)
set_option maxHeartbeats 4000000 in
set_option maxRecDepth 100000 in
theorem w_X5_isLess_b192 {p : Program} {l : Launch} {e : Env} {s : State} {m : MethodId} {args : Array Value} {below : List Frame} {meth : Method} {c : Code} {A : Nat → Prop} {G : GG} {S : SM} (cx : CX p s m args c cX5_isLess RX5 26 G S A) (hlk : meth.locks = false) (hr : meth.sig.returnType = some .boolean) (N : Nat) (x0 : Int) (x2 : Int) (x4 : Int) (x6 : Int) (r : Int) : ∀ (y16 : Int) (y17 : Int) (s0 : Int), m_X5_isLess_b192 N x0 x2 x4 x6 y16 y17 s0 = some r → ∀ (H : Heap) (locs : List Loc) (ls : Array Slot), HP G A s.heap H locs [] → lv_has ls 26 [(16, .int (kI y16)), (17, .int (kI y17))] → W p l e (rmD 1 0 0) s m args below meth c H locs 0 0 (MQ below (QcI G A r []) args s (rmD 1 0 0).cells (rmD 1 0 0).slots A) (F0 m 192 ls [.int (kI s0)]) := by
  intro y16 y17 s0 h H locs ls hw hl
  rw [m_X5_isLess_b192] at h
  obtain ⟨⟨hx, hb, -, -, -⟩, -⟩ := id cx
  refine lv_istore (lv' := [(18, .int (kI s0)), (16, .int (kI y16)), (17, .int (kI y17))]) hx hb dX5_isLess_192 hl (by decide) rfl (fun ls hl => ?_)
  refine lv_iload hx hb dX5_isLess_194 (lv_at hl 1 rfl) ?_
  obtain ⟨g1, h⟩ := gd_some h
  refine ri_if_eq (tgt := 204) hx hb g1 dX5_isLess_196 (by decide) (fun c2 => ?_) (fun c2 => ?_)
  · have h := it_pos c2 h
    refine lv_iload hx hb dX5_isLess_204 (lv_at hl 2 rfl) ?_
    obtain ⟨g3, h⟩ := gd_some h
    obtain rfl := so_inj h
    exact re_z g3  hx hb hlk hr cx hw (Nat.le_of_ble_eq_true rfl) (Nat.le_of_ble_eq_true rfl) dX5_isLess_206
  · have h := it_neg c2 h
    refine lv_iload hx hb dX5_isLess_199 (lv_at hl 0 rfl) ?_
    refine lv_goto (tgt := 206) hx hb dX5_isLess_201 (by decide) ?_
    obtain ⟨g4, h⟩ := gd_some h
    obtain rfl := so_inj h
    exact re_z g4  hx hb hlk hr cx hw (Nat.le_of_ble_eq_true rfl) (Nat.le_of_ble_eq_true rfl) dX5_isLess_206
set_option maxHeartbeats 4000000 in
set_option maxRecDepth 100000 in
theorem w_X5_isLess_b191 {p : Program} {l : Launch} {e : Env} {s : State} {m : MethodId} {args : Array Value} {below : List Frame} {meth : Method} {c : Code} {A : Nat → Prop} {G : GG} {S : SM} (cx : CX p s m args c cX5_isLess RX5 26 G S A) (hlk : meth.locks = false) (hr : meth.sig.returnType = some .boolean) (N : Nat) (x0 : Int) (x2 : Int) (x4 : Int) (x6 : Int) (r : Int) : ∀ (y16 : Int) (y17 : Int), m_X5_isLess_b191 N x0 x2 x4 x6 y16 y17 = some r → ∀ (H : Heap) (locs : List Loc) (ls : Array Slot), HP G A s.heap H locs [] → lv_has ls 26 [(16, .int (kI y16)), (17, .int (kI y17))] → W p l e (rmD 1 0 0) s m args below meth c H locs 0 0 (MQ below (QcI G A r []) args s (rmD 1 0 0).cells (rmD 1 0 0).slots A) (F0 m 191 ls []) := by
  intro y16 y17 h H locs ls hw hl
  rw [m_X5_isLess_b191] at h
  obtain ⟨⟨hx, hb, -, -, -⟩, -⟩ := id cx
  refine ri_iconst hx hb dX5_isLess_191 ?_
  exact w_X5_isLess_b192 cx hlk hr N x0 x2 x4 x6 r y16 y17 0 h _ _ _ hw (lv_sub hl [0, 1] rfl)
set_option maxHeartbeats 4000000 in
set_option maxRecDepth 100000 in
theorem w_X5_isLess_b171 {p : Program} {l : Launch} {e : Env} {s : State} {m : MethodId} {args : Array Value} {below : List Frame} {meth : Method} {c : Code} {A : Nat → Prop} {G : GG} {S : SM} (cx : CX p s m args c cX5_isLess RX5 26 G S A) (hlk : meth.locks = false) (hr : meth.sig.returnType = some .boolean) (N : Nat) (x0 : Int) (x2 : Int) (x4 : Int) (x6 : Int) (r : Int) : ∀ (y10 : Int) (y14 : Int) (y16 : Int) (s0 : Int), m_X5_isLess_b171 N x0 x2 x4 x6 y10 y14 y16 s0 = some r → ∀ (H : Heap) (locs : List Loc) (ls : Array Slot), HP G A s.heap H locs [] → lv_has ls 26 [(10, .long (kL y10)), (14, .long (kL y14)), (16, .int (kI y16))] → W p l e (rmD 1 0 0) s m args below meth c H locs 0 0 (MQ below (QcI G A r []) args s (rmD 1 0 0).cells (rmD 1 0 0).slots A) (F0 m 171 ls [.int (kI s0)]) := by
  intro y10 y14 y16 s0 h H locs ls hw hl
  rw [m_X5_isLess_b171] at h
  obtain ⟨⟨hx, hb, -, -, -⟩, -⟩ := id cx
  refine lv_istore (lv' := [(17, .int (kI s0)), (10, .long (kL y10)), (14, .long (kL y14)), (16, .int (kI y16))]) hx hb dX5_isLess_171 hl (by decide) rfl (fun ls hl => ?_)
  refine lv_lload hx hb dX5_isLess_173 (lv_at hl 1 rfl) ?_
  refine ri_lconst hx hb 0 dX5_isLess_175 rfl ?_
  obtain ⟨g1, h⟩ := gd_some h
  refine ri_lcmp_ne (tgt := 191) hx hb g1 ⟨by decide, by decide⟩ dX5_isLess_176 dX5_isLess_177 (by decide) (fun c2 => ?_) (fun c2 => ?_)
  · have h := it_pos c2 h
    refine lv_lload hx hb dX5_isLess_180 (lv_at hl 2 rfl) ?_
    refine ri_lconst hx hb 0 dX5_isLess_182 rfl ?_
    obtain ⟨g3, h⟩ := gd_some h
    refine ri_lcmp_eq (tgt := 191) hx hb g3 ⟨by decide, by decide⟩ dX5_isLess_183 dX5_isLess_184 (by decide) (fun c4 => ?_) (fun c4 => ?_)
    · have h := it_pos c4 h
      exact w_X5_isLess_b191 cx hlk hr N x0 x2 x4 x6 r y16 s0 h _ _ _ hw (lv_sub hl [3, 0] rfl)
    · have h := it_neg c4 h
      refine ri_iconst hx hb dX5_isLess_187 ?_
      refine lv_goto (tgt := 192) hx hb dX5_isLess_188 (by decide) ?_
      exact w_X5_isLess_b192 cx hlk hr N x0 x2 x4 x6 r y16 s0 1 h _ _ _ hw (lv_sub hl [3, 0] rfl)
  · have h := it_neg c2 h
    exact w_X5_isLess_b191 cx hlk hr N x0 x2 x4 x6 r y16 s0 h _ _ _ hw (lv_sub hl [3, 0] rfl)
set_option maxHeartbeats 4000000 in
set_option maxRecDepth 100000 in
theorem w_X5_isLess_b170 {p : Program} {l : Launch} {e : Env} {s : State} {m : MethodId} {args : Array Value} {below : List Frame} {meth : Method} {c : Code} {A : Nat → Prop} {G : GG} {S : SM} (cx : CX p s m args c cX5_isLess RX5 26 G S A) (hlk : meth.locks = false) (hr : meth.sig.returnType = some .boolean) (N : Nat) (x0 : Int) (x2 : Int) (x4 : Int) (x6 : Int) (r : Int) : ∀ (y10 : Int) (y14 : Int) (y16 : Int), m_X5_isLess_b170 N x0 x2 x4 x6 y10 y14 y16 = some r → ∀ (H : Heap) (locs : List Loc) (ls : Array Slot), HP G A s.heap H locs [] → lv_has ls 26 [(10, .long (kL y10)), (14, .long (kL y14)), (16, .int (kI y16))] → W p l e (rmD 1 0 0) s m args below meth c H locs 0 0 (MQ below (QcI G A r []) args s (rmD 1 0 0).cells (rmD 1 0 0).slots A) (F0 m 170 ls []) := by
  intro y10 y14 y16 h H locs ls hw hl
  rw [m_X5_isLess_b170] at h
  obtain ⟨⟨hx, hb, -, -, -⟩, -⟩ := id cx
  refine ri_iconst hx hb dX5_isLess_170 ?_
  exact w_X5_isLess_b171 cx hlk hr N x0 x2 x4 x6 r y10 y14 y16 0 h _ _ _ hw (lv_sub hl [0, 1, 2] rfl)
set_option maxHeartbeats 4000000 in
set_option maxRecDepth 100000 in
theorem w_X5_isLess_b152 {p : Program} {l : Launch} {e : Env} {s : State} {m : MethodId} {args : Array Value} {below : List Frame} {meth : Method} {c : Code} {A : Nat → Prop} {G : GG} {S : SM} (cx : CX p s m args c cX5_isLess RX5 26 G S A) (hlk : meth.locks = false) (hr : meth.sig.returnType = some .boolean) (N : Nat) (x0 : Int) (x2 : Int) (x4 : Int) (x6 : Int) (r : Int) : ∀ (y10 : Int) (y14 : Int) (y16 : Int), m_X5_isLess_b152 N x0 x2 x4 x6 y10 y14 y16 = some r → ∀ (H : Heap) (locs : List Loc) (ls : Array Slot), HP G A s.heap H locs [] → lv_has ls 26 [(10, .long (kL y10)), (14, .long (kL y14)), (16, .int (kI y16))] → W p l e (rmD 1 0 0) s m args below meth c H locs 0 0 (MQ below (QcI G A r []) args s (rmD 1 0 0).cells (rmD 1 0 0).slots A) (F0 m 152 ls []) := by
  intro y10 y14 y16 h H locs ls hw hl
  rw [m_X5_isLess_b152] at h
  obtain ⟨⟨hx, hb, -, -, -⟩, -⟩ := id cx
  refine lv_lload hx hb dX5_isLess_152 (lv_at hl 1 rfl) ?_
  refine ri_lconst hx hb 0 dX5_isLess_154 rfl ?_
  obtain ⟨g1, h⟩ := gd_some h
  refine ri_lcmp_ne (tgt := 170) hx hb g1 ⟨by decide, by decide⟩ dX5_isLess_155 dX5_isLess_156 (by decide) (fun c2 => ?_) (fun c2 => ?_)
  · have h := it_pos c2 h
    refine lv_lload hx hb dX5_isLess_159 (lv_at hl 0 rfl) ?_
    refine ri_lconst hx hb 0 dX5_isLess_161 rfl ?_
    obtain ⟨g3, h⟩ := gd_some h
    refine ri_lcmp_eq (tgt := 170) hx hb g3 ⟨by decide, by decide⟩ dX5_isLess_162 dX5_isLess_163 (by decide) (fun c4 => ?_) (fun c4 => ?_)
    · have h := it_pos c4 h
      exact w_X5_isLess_b170 cx hlk hr N x0 x2 x4 x6 r y10 y14 y16 h _ _ _ hw (lv_sub hl [0, 1, 2] rfl)
    · have h := it_neg c4 h
      refine ri_iconst hx hb dX5_isLess_166 ?_
      refine lv_goto (tgt := 171) hx hb dX5_isLess_167 (by decide) ?_
      exact w_X5_isLess_b171 cx hlk hr N x0 x2 x4 x6 r y10 y14 y16 1 h _ _ _ hw (lv_sub hl [0, 1, 2] rfl)
  · have h := it_neg c2 h
    exact w_X5_isLess_b170 cx hlk hr N x0 x2 x4 x6 r y10 y14 y16 h _ _ _ hw (lv_sub hl [0, 1, 2] rfl)
set_option maxHeartbeats 4000000 in
set_option maxRecDepth 100000 in
theorem w_X5_isLess_b20 {p : Program} {l : Launch} {e : Env} {s : State} {m : MethodId} {args : Array Value} {below : List Frame} {meth : Method} {c : Code} {A : Nat → Prop} {G : GG} {S : SM} (cx : CX p s m args c cX5_isLess RX5 26 G S A) (hlk : meth.locks = false) (hr : meth.sig.returnType = some .boolean) (N : Nat) (x0 : Int) (x2 : Int) (x4 : Int) (x6 : Int) (r : Int) : ∀ n : Nat, PL_X5_isLess_b20 p l e s m args below meth c A G S x0 x2 x4 x6 r (m_X5_isLess_b20 N x0 x2 x4 x6 n) := by
  intro n
  induction n with
  | zero => intro y8 y10 y12 y14 y16 y17 h; exact nomatch h
  | succ n ih =>
    intro y8 y10 y12 y14 y16 y17 h H locs ls hw hl
    rw [m_X5_isLess_b20] at h
    obtain ⟨⟨hx, hb, -, -, -⟩, -⟩ := id cx
    refine lv_iload hx hb dX5_isLess_20 (lv_at hl 5 rfl) ?_
    refine ri_bipush hx hb dX5_isLess_22 rfl ?_
    obtain ⟨g1, h⟩ := gd_some h
    refine ri_icmp_ge (tgt := 152) hx hb g1 ⟨by decide, by decide⟩ dX5_isLess_24 (by decide) (fun c2 => ?_) (fun c2 => ?_)
    · have h := it_pos c2 h
      exact w_X5_isLess_b152 cx hlk hr N x0 x2 x4 x6 r y10 y14 y16 h _ _ _ hw (lv_sub hl [1, 3, 4] rfl)
    · have h := it_neg c2 h
      refine lv_lload hx hb dX5_isLess_27 (lv_at hl 1 rfl) ?_
      refine ri_lconst hx hb 0 dX5_isLess_29 rfl ?_
      obtain ⟨g3, h⟩ := gd_some h
      refine ri_lcmp_eq (tgt := 152) hx hb g3 ⟨by decide, by decide⟩ dX5_isLess_30 dX5_isLess_31 (by decide) (fun c4 => ?_) (fun c4 => ?_)
      · have h := it_pos c4 h
        exact w_X5_isLess_b152 cx hlk hr N x0 x2 x4 x6 r y10 y14 y16 h _ _ _ hw (lv_sub hl [1, 3, 4] rfl)
      · have h := it_neg c4 h
        refine lv_lload hx hb dX5_isLess_34 (lv_at hl 3 rfl) ?_
        refine ri_lconst hx hb 0 dX5_isLess_36 rfl ?_
        obtain ⟨g5, h⟩ := gd_some h
        refine ri_lcmp_eq (tgt := 152) hx hb g5 ⟨by decide, by decide⟩ dX5_isLess_37 dX5_isLess_38 (by decide) (fun c6 => ?_) (fun c6 => ?_)
        · have h := it_pos c6 h
          exact w_X5_isLess_b152 cx hlk hr N x0 x2 x4 x6 r y10 y14 y16 h _ _ _ hw (lv_sub hl [1, 3, 4] rfl)
        · have h := it_neg c6 h
          refine lv_lload hx hb dX5_isLess_41 (lv_at hl 0 rfl) ?_
          refine lv_lload hx hb dX5_isLess_43 (lv_at hl 1 rfl) ?_
          obtain ⟨g7, h⟩ := gd_some h
          refine ri_ldiv hx hb g7 dX5_isLess_45 ?_
          refine lv_lstore (lv' := [(18, .long (kL (y8 / y10))), (8, .long (kL y8)), (10, .long (kL y10)), (12, .long (kL y12)), (14, .long (kL y14)), (16, .int (kI y16)), (17, .int (kI y17))]) hx hb dX5_isLess_46 hl (by decide) rfl (fun ls hl => ?_)
          refine lv_lload hx hb dX5_isLess_48 (lv_at hl 3 rfl) ?_
          refine lv_lload hx hb dX5_isLess_50 (lv_at hl 4 rfl) ?_
          obtain ⟨g8, h⟩ := gd_some h
          refine ri_ldiv hx hb g8 dX5_isLess_52 ?_
          refine lv_lstore (lv' := [(20, .long (kL (y12 / y14))), (18, .long (kL (y8 / y10))), (8, .long (kL y8)), (10, .long (kL y10)), (12, .long (kL y12)), (14, .long (kL y14)), (16, .int (kI y16)), (17, .int (kI y17))]) hx hb dX5_isLess_53 hl (by decide) rfl (fun ls hl => ?_)
          refine lv_lload hx hb dX5_isLess_55 (lv_at hl 1 rfl) ?_
          refine lv_lload hx hb dX5_isLess_57 (lv_at hl 0 rfl) ?_
          obtain ⟨g9, h⟩ := gd_some h
          obtain ⟨g10, h⟩ := gd_some h
          refine ri_lcmp_eq (tgt := 98) hx hb g9 g10 dX5_isLess_59 dX5_isLess_60 (by decide) (fun c11 => ?_) (fun c11 => ?_)
          · have h := it_pos c11 h
            refine lv_lload hx hb dX5_isLess_98 (lv_at hl 2 rfl) ?_
            refine lv_lload hx hb dX5_isLess_100 (lv_at hl 1 rfl) ?_
            refine lv_lload hx hb dX5_isLess_102 (lv_at hl 3 rfl) ?_
            refine ri_lmul hx hb dX5_isLess_104 ?_
            refine ri_lsub hx hb dX5_isLess_105 ?_
            refine lv_lstore (lv' := [(22, .long (kL (y8 - ((y8 / y10) * y10)))), (20, .long (kL (y12 / y14))), (18, .long (kL (y8 / y10))), (8, .long (kL y8)), (10, .long (kL y10)), (12, .long (kL y12)), (14, .long (kL y14)), (16, .int (kI y16)), (17, .int (kI y17))]) hx hb dX5_isLess_106 hl (by decide) rfl (fun ls hl => ?_)
            refine lv_lload hx hb dX5_isLess_108 (lv_at hl 5 rfl) ?_
            refine lv_lload hx hb dX5_isLess_110 (lv_at hl 1 rfl) ?_
            refine lv_lload hx hb dX5_isLess_112 (lv_at hl 6 rfl) ?_
            refine ri_lmul hx hb dX5_isLess_114 ?_
            refine ri_lsub hx hb dX5_isLess_115 ?_
            refine lv_lstore (lv' := [(24, .long (kL (y12 - ((y12 / y14) * y14)))), (22, .long (kL (y8 - ((y8 / y10) * y10)))), (20, .long (kL (y12 / y14))), (18, .long (kL (y8 / y10))), (8, .long (kL y8)), (10, .long (kL y10)), (12, .long (kL y12)), (14, .long (kL y14)), (16, .int (kI y16)), (17, .int (kI y17))]) hx hb dX5_isLess_116 hl (by decide) rfl (fun ls hl => ?_)
            refine lv_lload hx hb dX5_isLess_118 (lv_at hl 5 rfl) ?_
            refine lv_lstore (lv' := [(8, .long (kL y10)), (24, .long (kL (y12 - ((y12 / y14) * y14)))), (22, .long (kL (y8 - ((y8 / y10) * y10)))), (20, .long (kL (y12 / y14))), (18, .long (kL (y8 / y10))), (10, .long (kL y10)), (12, .long (kL y12)), (14, .long (kL y14)), (16, .int (kI y16)), (17, .int (kI y17))]) hx hb dX5_isLess_120 hl (by decide) rfl (fun ls hl => ?_)
            refine lv_lload hx hb dX5_isLess_122 (lv_at hl 2 rfl) ?_
            refine lv_lstore (lv' := [(10, .long (kL (y8 - ((y8 / y10) * y10)))), (8, .long (kL y10)), (24, .long (kL (y12 - ((y12 / y14) * y14)))), (22, .long (kL (y8 - ((y8 / y10) * y10)))), (20, .long (kL (y12 / y14))), (18, .long (kL (y8 / y10))), (12, .long (kL y12)), (14, .long (kL y14)), (16, .int (kI y16)), (17, .int (kI y17))]) hx hb dX5_isLess_124 hl (by decide) rfl (fun ls hl => ?_)
            refine lv_lload hx hb dX5_isLess_126 (lv_at hl 7 rfl) ?_
            refine lv_lstore (lv' := [(12, .long (kL y14)), (10, .long (kL (y8 - ((y8 / y10) * y10)))), (8, .long (kL y10)), (24, .long (kL (y12 - ((y12 / y14) * y14)))), (22, .long (kL (y8 - ((y8 / y10) * y10)))), (20, .long (kL (y12 / y14))), (18, .long (kL (y8 / y10))), (14, .long (kL y14)), (16, .int (kI y16)), (17, .int (kI y17))]) hx hb dX5_isLess_128 hl (by decide) rfl (fun ls hl => ?_)
            refine lv_lload hx hb dX5_isLess_130 (lv_at hl 3 rfl) ?_
            refine lv_lstore (lv' := [(14, .long (kL (y12 - ((y12 / y14) * y14)))), (12, .long (kL y14)), (10, .long (kL (y8 - ((y8 / y10) * y10)))), (8, .long (kL y10)), (24, .long (kL (y12 - ((y12 / y14) * y14)))), (22, .long (kL (y8 - ((y8 / y10) * y10)))), (20, .long (kL (y12 / y14))), (18, .long (kL (y8 / y10))), (16, .int (kI y16)), (17, .int (kI y17))]) hx hb dX5_isLess_132 hl (by decide) rfl (fun ls hl => ?_)
            refine lv_iload hx hb dX5_isLess_134 (lv_at hl 8 rfl) ?_
            obtain ⟨g12, h⟩ := gd_some h
            refine ri_if_ne (tgt := 143) hx hb g12 dX5_isLess_136 (by decide) (fun c13 => ?_) (fun c13 => ?_)
            · have h := it_pos c13 h
              refine ri_iconst hx hb dX5_isLess_139 ?_
              refine lv_goto (tgt := 144) hx hb dX5_isLess_140 (by decide) ?_
              exact w_X5_isLess_b144 cx hlk hr N x0 x2 x4 x6 r (m_X5_isLess_b20 N x0 x2 x4 x6 n) ih y10 (y8 - ((y8 / y10) * y10)) y14 (y12 - ((y12 / y14) * y14)) y17 1 h _ _ _ hw (lv_sub hl [3, 2, 1, 0, 9] rfl)
            · have h := it_neg c13 h
              refine ri_iconst hx hb dX5_isLess_143 ?_
              exact w_X5_isLess_b144 cx hlk hr N x0 x2 x4 x6 r (m_X5_isLess_b20 N x0 x2 x4 x6 n) ih y10 (y8 - ((y8 / y10) * y10)) y14 (y12 - ((y12 / y14) * y14)) y17 0 h _ _ _ hw (lv_sub hl [3, 2, 1, 0, 9] rfl)
          · have h := it_neg c11 h
            refine lv_iload hx hb dX5_isLess_63 (lv_at hl 6 rfl) ?_
            obtain ⟨g14, h⟩ := gd_some h
            refine ri_if_eq (tgt := 84) hx hb g14 dX5_isLess_65 (by decide) (fun c15 => ?_) (fun c15 => ?_)
            · have h := it_pos c15 h
              refine lv_lload hx hb dX5_isLess_84 (lv_at hl 1 rfl) ?_
              refine lv_lload hx hb dX5_isLess_86 (lv_at hl 0 rfl) ?_
              refine ri_lcmp_ge (tgt := 96) hx hb g9 g10 dX5_isLess_88 dX5_isLess_89 (by decide) (fun c16 => ?_) (fun c16 => ?_)
              · have h := it_pos c16 h
                refine ri_iconst hx hb dX5_isLess_96 ?_
                obtain rfl := so_inj h
                exact re_z (Or.inl rfl)  hx hb hlk hr cx hw (Nat.le_of_ble_eq_true rfl) (Nat.le_of_ble_eq_true rfl) dX5_isLess_97
              · have h := it_neg c16 h
                refine ri_iconst hx hb dX5_isLess_92 ?_
                refine lv_goto (tgt := 97) hx hb dX5_isLess_93 (by decide) ?_
                obtain rfl := so_inj h
                exact re_z (Or.inr rfl)  hx hb hlk hr cx hw (Nat.le_of_ble_eq_true rfl) (Nat.le_of_ble_eq_true rfl) dX5_isLess_97
            · have h := it_neg c15 h
              refine lv_lload hx hb dX5_isLess_68 (lv_at hl 1 rfl) ?_
              refine lv_lload hx hb dX5_isLess_70 (lv_at hl 0 rfl) ?_
              refine ri_lcmp_le (tgt := 80) hx hb g9 g10 dX5_isLess_72 dX5_isLess_73 (by decide) (fun c17 => ?_) (fun c17 => ?_)
              · have h := it_pos c17 h
                refine ri_iconst hx hb dX5_isLess_80 ?_
                refine lv_goto (tgt := 97) hx hb dX5_isLess_81 (by decide) ?_
                obtain rfl := so_inj h
                exact re_z (Or.inl rfl)  hx hb hlk hr cx hw (Nat.le_of_ble_eq_true rfl) (Nat.le_of_ble_eq_true rfl) dX5_isLess_97
              · have h := it_neg c17 h
                refine ri_iconst hx hb dX5_isLess_76 ?_
                refine lv_goto (tgt := 97) hx hb dX5_isLess_77 (by decide) ?_
                obtain rfl := so_inj h
                exact re_z (Or.inr rfl)  hx hb hlk hr cx hw (Nat.le_of_ble_eq_true rfl) (Nat.le_of_ble_eq_true rfl) dX5_isLess_97
set_option maxHeartbeats 4000000 in
set_option maxRecDepth 100000 in
theorem c_X5_isLess (l : Launch) (G : GG) (S : SM) (sz : Nat) (N : Nat)  (x0 : Int) (x2 : Int) (x4 : Int) (x6 : Int) (r : Int) (h : m_X5_isLess N x0 x2 x4 x6 = some r) : CtI l yX5_isLess cX5_isLess 26 .boolean (rmD 1 0 0) G S sz [.long (kL x0), .long (kL x2), .long (kL x4), .long (kL x6)] [] r [] := by
  refine met_I (by decide +kernel) (Nat.le_of_ble_eq_true rfl) ?_
  intro p e s m args below meth c A H locs ls cx hw hr hlk hnm hl
  have hl : lv_has ls 26 [(0, .long (kL x0)), (2, .long (kL x2)), (4, .long (kL x4)), (6, .long (kL x6))] := hl
  rw [m_X5_isLess] at h
  obtain ⟨⟨hx, hb, -, -, -⟩, -⟩ := id cx
  refine lv_lload_n hx hb dX5_isLess_0 rfl (lv_at hl 0 rfl) ?_
  refine lv_lstore (lv' := [(8, .long (kL x0)), (0, .long (kL x0)), (2, .long (kL x2)), (4, .long (kL x4)), (6, .long (kL x6))]) hx hb dX5_isLess_1 hl (by decide) rfl (fun ls hl => ?_)
  refine lv_lload_n hx hb dX5_isLess_3 rfl (lv_at hl 2 rfl) ?_
  refine lv_lstore (lv' := [(10, .long (kL x2)), (8, .long (kL x0)), (0, .long (kL x0)), (2, .long (kL x2)), (4, .long (kL x4)), (6, .long (kL x6))]) hx hb dX5_isLess_4 hl (by decide) rfl (fun ls hl => ?_)
  refine lv_lload hx hb dX5_isLess_6 (lv_at hl 4 rfl) ?_
  refine lv_lstore (lv' := [(12, .long (kL x4)), (10, .long (kL x2)), (8, .long (kL x0)), (0, .long (kL x0)), (2, .long (kL x2)), (4, .long (kL x4)), (6, .long (kL x6))]) hx hb dX5_isLess_8 hl (by decide) rfl (fun ls hl => ?_)
  refine lv_lload hx hb dX5_isLess_10 (lv_at hl 6 rfl) ?_
  refine lv_lstore (lv' := [(14, .long (kL x6)), (12, .long (kL x4)), (10, .long (kL x2)), (8, .long (kL x0)), (0, .long (kL x0)), (2, .long (kL x2)), (4, .long (kL x4)), (6, .long (kL x6))]) hx hb dX5_isLess_12 hl (by decide) rfl (fun ls hl => ?_)
  refine ri_iconst hx hb dX5_isLess_14 ?_
  refine lv_istore (lv' := [(16, .int (kI 0)), (14, .long (kL x6)), (12, .long (kL x4)), (10, .long (kL x2)), (8, .long (kL x0)), (0, .long (kL x0)), (2, .long (kL x2)), (4, .long (kL x4)), (6, .long (kL x6))]) hx hb dX5_isLess_15 hl (by decide) rfl (fun ls hl => ?_)
  refine ri_iconst hx hb dX5_isLess_17 ?_
  refine lv_istore (lv' := [(17, .int (kI 0)), (16, .int (kI 0)), (14, .long (kL x6)), (12, .long (kL x4)), (10, .long (kL x2)), (8, .long (kL x0)), (0, .long (kL x0)), (2, .long (kL x2)), (4, .long (kL x4)), (6, .long (kL x6))]) hx hb dX5_isLess_18 hl (by decide) rfl (fun ls hl => ?_)
  exact w_X5_isLess_b20 cx hlk hr N x0 x2 x4 x6 r N x0 x2 x4 x6 0 0 h _ _ _ hw (lv_sub hl [5, 4, 3, 2, 1, 0] rfl)
def PL_X4_cheapest_b4 (p : Program) (l : Launch) (e : Env) (s : State) (m : MethodId) (args : Array Value) (below : List Frame) (meth : Method) (c : Code) (A : Nat → Prop) (G : GG) (S : SM) (a_t a_t_least a_t_greatest a_t_good a_t_bad a_t_rowsIn : Nat) (t_size : Int) (t_least : Int → Int) (t_greatest : Int → Int) (t_good : Int → Int) (t_bad : Int → Int) (t_rowsIn : Int → Int) (r : Int) (kk : Int → Int → Option (Int)) : Prop := ∀ (y1 : Int) (y2 : Int), kk y1 y2 = some r → ∀ (H : Heap) (locs : List Loc) (ls : Array Slot), HP G A s.heap H locs [(a_t, .inr (4, [.ref a_t_least, .ref a_t_greatest, .ref a_t_good, .ref a_t_bad, .ref a_t_rowsIn, .int (kI t_size)])), (a_t_least, cAI G 60 t_least), (a_t_greatest, cAI G 60 t_greatest), (a_t_good, cAI G 60 t_good), (a_t_bad, cAI G 60 t_bad), (a_t_rowsIn, cAI G 60 t_rowsIn)] → lv_has ls 3 [(0, .ref a_t), (1, .int (kI y1)), (2, .int (kI y2))] → W p l e (rmD 4 0 0) s m args below meth c H locs 0 0 (MQ below (QcI G A r [(a_t, .inr (4, [.ref a_t_least, .ref a_t_greatest, .ref a_t_good, .ref a_t_bad, .ref a_t_rowsIn, .int (kI t_size)])), (a_t_least, cAI G 60 t_least), (a_t_greatest, cAI G 60 t_greatest), (a_t_good, cAI G 60 t_good), (a_t_bad, cAI G 60 t_bad), (a_t_rowsIn, cAI G 60 t_rowsIn)]) args s (rmD 4 0 0).cells (rmD 4 0 0).slots A) (F0 m 4 ls [])
set_option maxHeartbeats 4000000 in
set_option maxRecDepth 100000 in
theorem w_X4_cheapest_b42 {p : Program} {l : Launch} {e : Env} {s : State} {m : MethodId} {args : Array Value} {below : List Frame} {meth : Method} {c : Code} {A : Nat → Prop} {G : GG} {S : SM} (cx : CX p s m args c cX4_cheapest RX4 3 G S A) (hlk : meth.locks = false) (hr : meth.sig.returnType = some .int) (N : Nat) (a_t a_t_least a_t_greatest a_t_good a_t_bad a_t_rowsIn : Nat) (t_size : Int) (t_least : Int → Int) (t_greatest : Int → Int) (t_good : Int → Int) (t_bad : Int → Int) (t_rowsIn : Int → Int) (r : Int) (k4 : Int → Int → Option (Int)) (hk4 : PL_X4_cheapest_b4 p l e s m args below meth c A G S a_t a_t_least a_t_greatest a_t_good a_t_bad a_t_rowsIn t_size t_least t_greatest t_good t_bad t_rowsIn r k4) : ∀ (y1 : Int) (y2 : Int), m_X4_cheapest_b42 N t_size t_good t_bad k4 y1 y2 = some r → ∀ (H : Heap) (locs : List Loc) (ls : Array Slot), HP G A s.heap H locs [(a_t, .inr (4, [.ref a_t_least, .ref a_t_greatest, .ref a_t_good, .ref a_t_bad, .ref a_t_rowsIn, .int (kI t_size)])), (a_t_least, cAI G 60 t_least), (a_t_greatest, cAI G 60 t_greatest), (a_t_good, cAI G 60 t_good), (a_t_bad, cAI G 60 t_bad), (a_t_rowsIn, cAI G 60 t_rowsIn)] → lv_has ls 3 [(0, .ref a_t), (1, .int (kI y1)), (2, .int (kI y2))] → W p l e (rmD 4 0 0) s m args below meth c H locs 0 0 (MQ below (QcI G A r [(a_t, .inr (4, [.ref a_t_least, .ref a_t_greatest, .ref a_t_good, .ref a_t_bad, .ref a_t_rowsIn, .int (kI t_size)])), (a_t_least, cAI G 60 t_least), (a_t_greatest, cAI G 60 t_greatest), (a_t_good, cAI G 60 t_good), (a_t_bad, cAI G 60 t_bad), (a_t_rowsIn, cAI G 60 t_rowsIn)]) args s (rmD 4 0 0).cells (rmD 4 0 0).slots A) (F0 m 42 ls []) := by
  intro y1 y2 h H locs ls hw hl
  rw [m_X4_cheapest_b42] at h
  obtain ⟨⟨hx, hb, -, -, -⟩, -⟩ := id cx
  refine lv_iinc (v := kI (y2 + 1)) (lv' := [(2, .int (kI (y2 + 1))), (0, .ref a_t), (1, .int (kI y1))]) hx hb dX4_cheapest_42 hl (k := 2) rfl (kI_add _ _) (by decide) rfl (fun ls hl => ?_)
  refine lv_goto (tgt := 4) hx hb dX4_cheapest_45 (by decide) ?_
  exact hk4 y1 (y2 + 1) h _ _ _ hw (lv_sub hl [1, 2, 0] rfl)
set_option maxHeartbeats 4000000 in
set_option maxRecDepth 100000 in
theorem w_X4_cheapest_b4 {p : Program} {l : Launch} {e : Env} {s : State} {m : MethodId} {args : Array Value} {below : List Frame} {meth : Method} {c : Code} {A : Nat → Prop} {G : GG} {S : SM} (cx : CX p s m args c cX4_cheapest RX4 3 G S A) (hlk : meth.locks = false) (hr : meth.sig.returnType = some .int) (N : Nat) (a_t a_t_least a_t_greatest a_t_good a_t_bad a_t_rowsIn : Nat) (t_size : Int) (t_least : Int → Int) (t_greatest : Int → Int) (t_good : Int → Int) (t_bad : Int → Int) (t_rowsIn : Int → Int) (r : Int) : ∀ n : Nat, PL_X4_cheapest_b4 p l e s m args below meth c A G S a_t a_t_least a_t_greatest a_t_good a_t_bad a_t_rowsIn t_size t_least t_greatest t_good t_bad t_rowsIn r (m_X4_cheapest_b4 N t_size t_good t_bad n) := by
  intro n
  induction n with
  | zero => intro y1 y2 h; exact nomatch h
  | succ n ih =>
    intro y1 y2 h H locs ls hw hl
    rw [m_X4_cheapest_b4] at h
    obtain ⟨⟨hx, hb, -, -, -⟩, -⟩ := id cx
    refine lv_iload_n hx hb dX4_cheapest_4 rfl (lv_at hl 2 rfl) ?_
    refine lv_aload_n hx hb dX4_cheapest_5 rfl (lv_at hl 0 rfl) ?_
    refine rf_get hx hb cx hw 0 rfl rfl 5 inX4 (by decide) fl_X4_27 rfl rfl dX4_cheapest_6 ?_
    refine ri_iconst hx hb dX4_cheapest_9 ?_
    refine ri_isub hx hb dX4_cheapest_10 ?_
    obtain ⟨g1, h⟩ := gd_some h
    obtain ⟨g2, h⟩ := gd_some h
    refine ri_icmp_ge (tgt := 48) hx hb g1 g2 dX4_cheapest_11 (by decide) (fun c3 => ?_) (fun c3 => ?_)
    · have h := it_pos c3 h
      refine lv_iload_n hx hb dX4_cheapest_48 rfl (lv_at hl 1 rfl) ?_
      obtain rfl := so_inj h
      exact re_i hx hb hlk hr cx hw (Nat.le_of_ble_eq_true rfl) (Nat.le_of_ble_eq_true rfl) dX4_cheapest_49
    · have h := it_neg c3 h
      refine lv_aload_n hx hb dX4_cheapest_14 rfl (lv_at hl 0 rfl) ?_
      refine lv_iload_n hx hb dX4_cheapest_15 rfl (lv_at hl 2 rfl) ?_
      obtain ⟨r4, h4, h⟩ := bd_some h
      refine rc_L0 (v := r4) hw [0, 1, 2, 3, 4, 5] (rr_V cx hw (c_X4_growthAbove l G S H.size N a_t a_t_least a_t_greatest a_t_good a_t_bad a_t_rowsIn t_size t_least t_greatest t_good t_bad t_rowsIn y2 _ h4) mv_X4_67 [0, 1, 2, 3, 4, 5] rfl rfl rfl 0 rfl rfl ⟨Nat.le_of_ble_eq_true rfl, Nat.le_of_ble_eq_true rfl⟩ rfl hl.1 rfl (Nat.le_of_ble_eq_true rfl) dX4_cheapest_16 ⟨Nat.le_of_ble_eq_true rfl, Nat.le_of_ble_eq_true rfl⟩) rfl rfl (fun H locs hw => ?_)
      refine lv_aload_n hx hb dX4_cheapest_19 rfl (lv_at hl 0 rfl) ?_
      refine lv_iload_n hx hb dX4_cheapest_20 rfl (lv_at hl 2 rfl) ?_
      obtain ⟨r5, h5, h⟩ := bd_some h
      refine rc_L0 (v := r5) hw [0, 1, 2, 3, 4, 5] (rr_V cx hw (c_X4_growthBelow l G S H.size N a_t a_t_least a_t_greatest a_t_good a_t_bad a_t_rowsIn t_size t_least t_greatest t_good t_bad t_rowsIn y2 _ h5) mv_X4_71 [0, 1, 2, 3, 4, 5] rfl rfl rfl 0 rfl rfl ⟨Nat.le_of_ble_eq_true rfl, Nat.le_of_ble_eq_true rfl⟩ rfl hl.1 rfl (Nat.le_of_ble_eq_true rfl) dX4_cheapest_21 ⟨Nat.le_of_ble_eq_true rfl, Nat.le_of_ble_eq_true rfl⟩) rfl rfl (fun H locs hw => ?_)
      refine lv_aload_n hx hb dX4_cheapest_24 rfl (lv_at hl 0 rfl) ?_
      refine lv_iload_n hx hb dX4_cheapest_25 rfl (lv_at hl 1 rfl) ?_
      obtain ⟨r6, h6, h⟩ := bd_some h
      refine rc_L0 (v := r6) hw [0, 1, 2, 3, 4, 5] (rr_V cx hw (c_X4_growthAbove l G S H.size N a_t a_t_least a_t_greatest a_t_good a_t_bad a_t_rowsIn t_size t_least t_greatest t_good t_bad t_rowsIn y1 _ h6) mv_X4_67 [0, 1, 2, 3, 4, 5] rfl rfl rfl 0 rfl rfl ⟨Nat.le_of_ble_eq_true rfl, Nat.le_of_ble_eq_true rfl⟩ rfl hl.1 rfl (Nat.le_of_ble_eq_true rfl) dX4_cheapest_26 ⟨Nat.le_of_ble_eq_true rfl, Nat.le_of_ble_eq_true rfl⟩) rfl rfl (fun H locs hw => ?_)
      refine lv_aload_n hx hb dX4_cheapest_29 rfl (lv_at hl 0 rfl) ?_
      refine lv_iload_n hx hb dX4_cheapest_30 rfl (lv_at hl 1 rfl) ?_
      obtain ⟨r7, h7, h⟩ := bd_some h
      refine rc_L0 (v := r7) hw [0, 1, 2, 3, 4, 5] (rr_V cx hw (c_X4_growthBelow l G S H.size N a_t a_t_least a_t_greatest a_t_good a_t_bad a_t_rowsIn t_size t_least t_greatest t_good t_bad t_rowsIn y1 _ h7) mv_X4_71 [0, 1, 2, 3, 4, 5] rfl rfl rfl 0 rfl rfl ⟨Nat.le_of_ble_eq_true rfl, Nat.le_of_ble_eq_true rfl⟩ rfl hl.1 rfl (Nat.le_of_ble_eq_true rfl) dX4_cheapest_31 ⟨Nat.le_of_ble_eq_true rfl, Nat.le_of_ble_eq_true rfl⟩) rfl rfl (fun H locs hw => ?_)
      obtain ⟨r8, h8, h⟩ := bd_some h
      refine rc_I0 (v := r8) hw [] (rr_S cx hw (c_X5_isLess l G S H.size N r4 r5 r6 r7 _ h8) mv_X4_74 [] rfl rfl rfl ⟨Nat.le_of_ble_eq_true rfl, Nat.le_of_ble_eq_true rfl⟩ rfl hl.1 rfl (Nat.le_of_ble_eq_true rfl) dX4_cheapest_34 ⟨Nat.le_of_ble_eq_true rfl, Nat.le_of_ble_eq_true rfl⟩) rfl rfl (fun H locs hw => ?_)
      obtain ⟨g9, h⟩ := gd_some h
      refine ri_if_eq (tgt := 42) hx hb g9 dX4_cheapest_37 (by decide) (fun c10 => ?_) (fun c10 => ?_)
      · have h := it_pos c10 h
        exact w_X4_cheapest_b42 cx hlk hr N a_t a_t_least a_t_greatest a_t_good a_t_bad a_t_rowsIn t_size t_least t_greatest t_good t_bad t_rowsIn r (m_X4_cheapest_b4 N t_size t_good t_bad n) ih y1 y2 h _ _ _ hw (lv_sub hl [0, 1, 2] rfl)
      · have h := it_neg c10 h
        refine lv_iload_n hx hb dX4_cheapest_40 rfl (lv_at hl 2 rfl) ?_
        refine lv_istore_n (lv' := [(1, .int (kI y2)), (0, .ref a_t), (2, .int (kI y2))]) hx hb dX4_cheapest_41 rfl hl (by decide) rfl (fun ls hl => ?_)
        exact w_X4_cheapest_b42 cx hlk hr N a_t a_t_least a_t_greatest a_t_good a_t_bad a_t_rowsIn t_size t_least t_greatest t_good t_bad t_rowsIn r (m_X4_cheapest_b4 N t_size t_good t_bad n) ih y2 y2 h _ _ _ hw (lv_sub hl [1, 0, 2] rfl)
set_option maxHeartbeats 4000000 in
set_option maxRecDepth 100000 in
theorem c_X4_cheapest (l : Launch) (G : GG) (S : SM) (sz : Nat) (N : Nat) (a_t a_t_least a_t_greatest a_t_good a_t_bad a_t_rowsIn : Nat) (t_size : Int) (t_least : Int → Int) (t_greatest : Int → Int) (t_good : Int → Int) (t_bad : Int → Int) (t_rowsIn : Int → Int)  (r : Int) (h : m_X4_cheapest N t_size t_good t_bad = some r) : CtI l yX4_cheapest cX4_cheapest 3 .int (rmD 4 0 0) G S sz [.ref a_t] [(a_t, .inr (4, [.ref a_t_least, .ref a_t_greatest, .ref a_t_good, .ref a_t_bad, .ref a_t_rowsIn, .int (kI t_size)])), (a_t_least, cAI G 60 t_least), (a_t_greatest, cAI G 60 t_greatest), (a_t_good, cAI G 60 t_good), (a_t_bad, cAI G 60 t_bad), (a_t_rowsIn, cAI G 60 t_rowsIn)] r [(a_t, .inr (4, [.ref a_t_least, .ref a_t_greatest, .ref a_t_good, .ref a_t_bad, .ref a_t_rowsIn, .int (kI t_size)])), (a_t_least, cAI G 60 t_least), (a_t_greatest, cAI G 60 t_greatest), (a_t_good, cAI G 60 t_good), (a_t_bad, cAI G 60 t_bad), (a_t_rowsIn, cAI G 60 t_rowsIn)] := by
  refine met_I (by decide +kernel) (Nat.le_of_ble_eq_true rfl) ?_
  intro p e s m args below meth c A H locs ls cx hw hr hlk hnm hl
  have hl : lv_has ls 3 [(0, .ref a_t)] := hl
  rw [m_X4_cheapest] at h
  obtain ⟨⟨hx, hb, -, -, -⟩, -⟩ := id cx
  refine ri_iconst hx hb dX4_cheapest_0 ?_
  refine lv_istore_n (lv' := [(1, .int (kI 0)), (0, .ref a_t)]) hx hb dX4_cheapest_1 rfl hl (by decide) rfl (fun ls hl => ?_)
  refine ri_iconst hx hb dX4_cheapest_2 ?_
  refine lv_istore_n (lv' := [(2, .int (kI 1)), (1, .int (kI 0)), (0, .ref a_t)]) hx hb dX4_cheapest_3 rfl hl (by decide) rfl (fun ls hl => ?_)
  exact w_X4_cheapest_b4 cx hlk hr N a_t a_t_least a_t_greatest a_t_good a_t_bad a_t_rowsIn t_size t_least t_greatest t_good t_bad t_rowsIn r N 0 1 h _ _ _ hw (lv_sub hl [2, 1, 0] rfl)
def PL_X4_joinMany_b5 (p : Program) (l : Launch) (e : Env) (s : State) (m : MethodId) (args : Array Value) (below : List Frame) (meth : Method) (c : Code) (A : Nat → Prop) (G : GG) (S : SM) (a_t a_t_least a_t_greatest a_t_good a_t_bad a_t_rowsIn : Nat) (x1 : Int) (r : Int × (Int → Int) × (Int → Int) × (Int → Int) × (Int → Int) × (Int → Int)) (kk : Int → (Int → Int) → (Int → Int) → (Int → Int) → (Int → Int) → (Int → Int) → Int → Option (Int × (Int → Int) × (Int → Int) × (Int → Int) × (Int → Int) × (Int → Int))) : Prop := ∀ (t_size : Int) (t_least : Int → Int) (t_greatest : Int → Int) (t_good : Int → Int) (t_bad : Int → Int) (t_rowsIn : Int → Int) (y2 : Int), kk t_size t_least t_greatest t_good t_bad t_rowsIn y2 = some r → ∀ (H : Heap) (locs : List Loc) (ls : Array Slot), HP G A s.heap H locs [(a_t, .inr (4, [.ref a_t_least, .ref a_t_greatest, .ref a_t_good, .ref a_t_bad, .ref a_t_rowsIn, .int (kI t_size)])), (a_t_least, cAI G 60 t_least), (a_t_greatest, cAI G 60 t_greatest), (a_t_good, cAI G 60 t_good), (a_t_bad, cAI G 60 t_bad), (a_t_rowsIn, cAI G 60 t_rowsIn)] → lv_has ls 3 [(0, .ref a_t), (1, .int (kI x1)), (2, .int (kI y2))] → W p l e (rmD 5 0 0) s m args below meth c H locs 0 0 (MQ below (QcV G A [(a_t, .inr (4, [.ref a_t_least, .ref a_t_greatest, .ref a_t_good, .ref a_t_bad, .ref a_t_rowsIn, .int (kI r.1)])), (a_t_least, cAI G 60 r.2.1), (a_t_greatest, cAI G 60 r.2.2.1), (a_t_good, cAI G 60 r.2.2.2.1), (a_t_bad, cAI G 60 r.2.2.2.2.1), (a_t_rowsIn, cAI G 60 r.2.2.2.2.2)]) args s (rmD 5 0 0).cells (rmD 5 0 0).slots A) (F0 m 5 ls [])
set_option maxHeartbeats 4000000 in
set_option maxRecDepth 100000 in
theorem w_X4_joinMany_b5 {p : Program} {l : Launch} {e : Env} {s : State} {m : MethodId} {args : Array Value} {below : List Frame} {meth : Method} {c : Code} {A : Nat → Prop} {G : GG} {S : SM} (cx : CX p s m args c cX4_joinMany RX4 3 G S A) (hlk : meth.locks = false) (hr : meth.sig.returnType = none) (N : Nat) (a_t a_t_least a_t_greatest a_t_good a_t_bad a_t_rowsIn : Nat) (x1 : Int) (r : Int × (Int → Int) × (Int → Int) × (Int → Int) × (Int → Int) × (Int → Int)) : ∀ n : Nat, PL_X4_joinMany_b5 p l e s m args below meth c A G S a_t a_t_least a_t_greatest a_t_good a_t_bad a_t_rowsIn x1 r (m_X4_joinMany_b5 N x1 n) := by
  intro n
  induction n with
  | zero => intro t_size t_least t_greatest t_good t_bad t_rowsIn y2 h; exact nomatch h
  | succ n ih =>
    intro t_size t_least t_greatest t_good t_bad t_rowsIn y2 h H locs ls hw hl
    rw [m_X4_joinMany_b5] at h
    obtain ⟨⟨hx, hb, -, -, -⟩, -⟩ := id cx
    refine lv_iload_n hx hb dX4_joinMany_5 rfl (lv_at hl 2 rfl) ?_
    refine ri_iconst hx hb dX4_joinMany_6 ?_
    obtain ⟨g1, h⟩ := gd_some h
    refine ri_icmp_lt (tgt := 29) hx hb g1 ⟨by decide, by decide⟩ dX4_joinMany_7 (by decide) (fun c2 => ?_) (fun c2 => ?_)
    · have h := it_pos c2 h
      obtain rfl := so_inj h
      exact re_v hx hb hlk hr cx hw (Nat.le_of_ble_eq_true rfl) (Nat.le_of_ble_eq_true rfl) dX4_joinMany_29
    · have h := it_neg c2 h
      refine lv_iload_n hx hb dX4_joinMany_10 rfl (lv_at hl 2 rfl) ?_
      refine lv_iload_n hx hb dX4_joinMany_11 rfl (lv_at hl 1 rfl) ?_
      obtain ⟨g3, h⟩ := gd_some h
      refine ri_icmp_le (tgt := 29) hx hb g1 g3 dX4_joinMany_12 (by decide) (fun c4 => ?_) (fun c4 => ?_)
      · have h := it_pos c4 h
        obtain rfl := so_inj h
        exact re_v hx hb hlk hr cx hw (Nat.le_of_ble_eq_true rfl) (Nat.le_of_ble_eq_true rfl) dX4_joinMany_29
      · have h := it_neg c4 h
        refine lv_aload_n hx hb dX4_joinMany_15 rfl (lv_at hl 0 rfl) ?_
        refine lv_aload_n hx hb dX4_joinMany_16 rfl (lv_at hl 0 rfl) ?_
        obtain ⟨r5, h5, h⟩ := bd_some h
        refine rc_I0 (v := r5) hw [0, 1, 2, 3, 4, 5] (rr_V cx hw (c_X4_cheapest l G S H.size N a_t a_t_least a_t_greatest a_t_good a_t_bad a_t_rowsIn t_size t_least t_greatest t_good t_bad t_rowsIn _ h5) mv_X4_64 [0, 1, 2, 3, 4, 5] rfl rfl rfl 0 rfl rfl ⟨Nat.le_of_ble_eq_true rfl, Nat.le_of_ble_eq_true rfl⟩ rfl hl.1 rfl (Nat.le_of_ble_eq_true rfl) dX4_joinMany_17 ⟨Nat.le_of_ble_eq_true rfl, Nat.le_of_ble_eq_true rfl⟩) rfl rfl (fun H locs hw => ?_)
        obtain ⟨r6, h6, h⟩ := bd_some h
        refine rc_V (w2 := [(a_t, .inr (4, [.ref a_t_least, .ref a_t_greatest, .ref a_t_good, .ref a_t_bad, .ref a_t_rowsIn, .int (kI r6.1)])), (a_t_least, cAI G 60 r6.2.1), (a_t_greatest, cAI G 60 r6.2.2.1), (a_t_good, cAI G 60 r6.2.2.2.1), (a_t_bad, cAI G 60 r6.2.2.2.2.1), (a_t_rowsIn, cAI G 60 r6.2.2.2.2.2)]) hw [0, 1, 2, 3, 4, 5] [] [0, 1, 2, 3, 4, 5] (rr_V cx hw (c_X4_join l G S H.size N a_t a_t_least a_t_greatest a_t_good a_t_bad a_t_rowsIn t_size t_least t_greatest t_good t_bad t_rowsIn r5 _ h6) mv_X4_43 [0, 1, 2, 3, 4, 5] rfl rfl rfl 0 rfl rfl ⟨Nat.le_of_ble_eq_true rfl, Nat.le_of_ble_eq_true rfl⟩ rfl hl.1 rfl (Nat.le_of_ble_eq_true rfl) dX4_joinMany_20 ⟨Nat.le_of_ble_eq_true rfl, Nat.le_of_ble_eq_true rfl⟩) rfl rfl rfl rfl rfl rfl rfl rfl (fun H locs hw => ?_)
        refine lv_iinc (v := kI (y2 + (-1))) (lv' := [(2, .int (kI (y2 + (-1)))), (0, .ref a_t), (1, .int (kI x1))]) hx hb dX4_joinMany_23 hl (k := 2) rfl (kI_add _ _) (by decide) rfl (fun ls hl => ?_)
        refine lv_goto (tgt := 5) hx hb dX4_joinMany_26 (by decide) ?_
        exact ih r6.1 r6.2.1 r6.2.2.1 r6.2.2.2.1 r6.2.2.2.2.1 r6.2.2.2.2.2 (y2 + (-1)) h _ _ _ hw (lv_sub hl [1, 2, 0] rfl)
set_option maxHeartbeats 4000000 in
set_option maxRecDepth 100000 in
theorem c_X4_joinMany (l : Launch) (G : GG) (S : SM) (sz : Nat) (N : Nat) (a_t a_t_least a_t_greatest a_t_good a_t_bad a_t_rowsIn : Nat) (t_size : Int) (t_least : Int → Int) (t_greatest : Int → Int) (t_good : Int → Int) (t_bad : Int → Int) (t_rowsIn : Int → Int) (x1 : Int) (r : Int × (Int → Int) × (Int → Int) × (Int → Int) × (Int → Int) × (Int → Int)) (h : m_X4_joinMany N t_size t_least t_greatest t_good t_bad t_rowsIn x1 = some r) : CtV l yX4_joinMany cX4_joinMany 3 (rmD 5 0 0) G S sz [.ref a_t, .int (kI x1)] [(a_t, .inr (4, [.ref a_t_least, .ref a_t_greatest, .ref a_t_good, .ref a_t_bad, .ref a_t_rowsIn, .int (kI t_size)])), (a_t_least, cAI G 60 t_least), (a_t_greatest, cAI G 60 t_greatest), (a_t_good, cAI G 60 t_good), (a_t_bad, cAI G 60 t_bad), (a_t_rowsIn, cAI G 60 t_rowsIn)] [(a_t, .inr (4, [.ref a_t_least, .ref a_t_greatest, .ref a_t_good, .ref a_t_bad, .ref a_t_rowsIn, .int (kI r.1)])), (a_t_least, cAI G 60 r.2.1), (a_t_greatest, cAI G 60 r.2.2.1), (a_t_good, cAI G 60 r.2.2.2.1), (a_t_bad, cAI G 60 r.2.2.2.2.1), (a_t_rowsIn, cAI G 60 r.2.2.2.2.2)] := by
  refine met_V (by decide +kernel) (Nat.le_of_ble_eq_true rfl) ?_
  intro p e s m args below meth c A H locs ls cx hw hr hlk hnm hl
  have hl : lv_has ls 3 [(0, .ref a_t), (1, .int (kI x1))] := hl
  rw [m_X4_joinMany] at h
  obtain ⟨⟨hx, hb, -, -, -⟩, -⟩ := id cx
  refine lv_aload_n hx hb dX4_joinMany_0 rfl (lv_at hl 0 rfl) ?_
  refine rf_get hx hb cx hw 0 rfl rfl 5 inX4 (by decide) fl_X4_27 rfl rfl dX4_joinMany_1 ?_
  refine lv_istore_n (lv' := [(2, .int (kI t_size)), (0, .ref a_t), (1, .int (kI x1))]) hx hb dX4_joinMany_4 rfl hl (by decide) rfl (fun ls hl => ?_)
  exact w_X4_joinMany_b5 cx hlk hr N a_t a_t_least a_t_greatest a_t_good a_t_bad a_t_rowsIn x1 r N t_size t_least t_greatest t_good t_bad t_rowsIn t_size h _ _ _ hw (lv_sub hl [1, 2, 0] rfl)
def PL_X4_goodBelow_b4 (p : Program) (l : Launch) (e : Env) (s : State) (m : MethodId) (args : Array Value) (below : List Frame) (meth : Method) (c : Code) (A : Nat → Prop) (G : GG) (S : SM) (a_t a_t_least a_t_greatest a_t_good a_t_bad a_t_rowsIn : Nat) (t_size : Int) (t_least : Int → Int) (t_greatest : Int → Int) (t_good : Int → Int) (t_bad : Int → Int) (t_rowsIn : Int → Int) (x1 : Int) (r : Int) (kk : Int → Int → Option (Int)) : Prop := ∀ (y2 : Int) (y3 : Int), kk y2 y3 = some r → ∀ (H : Heap) (locs : List Loc) (ls : Array Slot), HP G A s.heap H locs [(a_t, .inr (4, [.ref a_t_least, .ref a_t_greatest, .ref a_t_good, .ref a_t_bad, .ref a_t_rowsIn, .int (kI t_size)])), (a_t_least, cAI G 60 t_least), (a_t_greatest, cAI G 60 t_greatest), (a_t_good, cAI G 60 t_good), (a_t_bad, cAI G 60 t_bad), (a_t_rowsIn, cAI G 60 t_rowsIn)] → lv_has ls 4 [(0, .ref a_t), (1, .int (kI x1)), (2, .int (kI y2)), (3, .int (kI y3))] → W p l e (rmD 1 0 0) s m args below meth c H locs 0 0 (MQ below (QcI G A r [(a_t, .inr (4, [.ref a_t_least, .ref a_t_greatest, .ref a_t_good, .ref a_t_bad, .ref a_t_rowsIn, .int (kI t_size)])), (a_t_least, cAI G 60 t_least), (a_t_greatest, cAI G 60 t_greatest), (a_t_good, cAI G 60 t_good), (a_t_bad, cAI G 60 t_bad), (a_t_rowsIn, cAI G 60 t_rowsIn)]) args s (rmD 1 0 0).cells (rmD 1 0 0).slots A) (F0 m 4 ls [])
set_option maxHeartbeats 4000000 in
set_option maxRecDepth 100000 in
theorem w_X4_goodBelow_b4 {p : Program} {l : Launch} {e : Env} {s : State} {m : MethodId} {args : Array Value} {below : List Frame} {meth : Method} {c : Code} {A : Nat → Prop} {G : GG} {S : SM} (cx : CX p s m args c cX4_goodBelow RX4 4 G S A) (hlk : meth.locks = false) (hr : meth.sig.returnType = some .int) (N : Nat) (a_t a_t_least a_t_greatest a_t_good a_t_bad a_t_rowsIn : Nat) (t_size : Int) (t_least : Int → Int) (t_greatest : Int → Int) (t_good : Int → Int) (t_bad : Int → Int) (t_rowsIn : Int → Int) (x1 : Int) (r : Int) : ∀ n : Nat, PL_X4_goodBelow_b4 p l e s m args below meth c A G S a_t a_t_least a_t_greatest a_t_good a_t_bad a_t_rowsIn t_size t_least t_greatest t_good t_bad t_rowsIn x1 r (m_X4_goodBelow_b4 N t_size t_good x1 n) := by
  intro n
  induction n with
  | zero => intro y2 y3 h; exact nomatch h
  | succ n ih =>
    intro y2 y3 h H locs ls hw hl
    rw [m_X4_goodBelow_b4] at h
    obtain ⟨⟨hx, hb, -, -, -⟩, -⟩ := id cx
    refine lv_iload_n hx hb dX4_goodBelow_4 rfl (lv_at hl 3 rfl) ?_
    refine lv_iload_n hx hb dX4_goodBelow_5 rfl (lv_at hl 1 rfl) ?_
    obtain ⟨g1, h⟩ := gd_some h
    obtain ⟨g2, h⟩ := gd_some h
    refine ri_icmp_ge (tgt := 32) hx hb g1 g2 dX4_goodBelow_6 (by decide) (fun c3 => ?_) (fun c3 => ?_)
    · have h := it_pos c3 h
      refine lv_iload_n hx hb dX4_goodBelow_32 rfl (lv_at hl 2 rfl) ?_
      obtain rfl := so_inj h
      exact re_i hx hb hlk hr cx hw (Nat.le_of_ble_eq_true rfl) (Nat.le_of_ble_eq_true rfl) dX4_goodBelow_33
    · have h := it_neg c3 h
      refine lv_iload_n hx hb dX4_goodBelow_9 rfl (lv_at hl 3 rfl) ?_
      refine lv_aload_n hx hb dX4_goodBelow_10 rfl (lv_at hl 0 rfl) ?_
      refine rf_get hx hb cx hw 0 rfl rfl 5 inX4 (by decide) fl_X4_27 rfl rfl dX4_goodBelow_11 ?_
      obtain ⟨g4, h⟩ := gd_some h
      refine ri_icmp_ge (tgt := 32) hx hb g1 g4 dX4_goodBelow_14 (by decide) (fun c5 => ?_) (fun c5 => ?_)
      · have h := it_pos c5 h
        refine lv_iload_n hx hb dX4_goodBelow_32 rfl (lv_at hl 2 rfl) ?_
        obtain rfl := so_inj h
        exact re_i hx hb hlk hr cx hw (Nat.le_of_ble_eq_true rfl) (Nat.le_of_ble_eq_true rfl) dX4_goodBelow_33
      · have h := it_neg c5 h
        refine lv_iload_n hx hb dX4_goodBelow_17 rfl (lv_at hl 2 rfl) ?_
        refine lv_aload_n hx hb dX4_goodBelow_18 rfl (lv_at hl 0 rfl) ?_
        refine rf_get hx hb cx hw 0 rfl rfl 2 inX4 (by decide) fl_X4_18 rfl rfl dX4_goodBelow_19 ?_
        refine lv_iload_n hx hb dX4_goodBelow_22 rfl (lv_at hl 3 rfl) ?_
        obtain ⟨g6, h⟩ := gd_some h
        refine ra_i hx hb cx hw 3 rfl (by decide) g6 dX4_goodBelow_23 ?_
        refine ri_iadd hx hb dX4_goodBelow_24 ?_
        refine lv_istore_n (lv' := [(2, .int (kI (y2 + (t_good y3)))), (0, .ref a_t), (1, .int (kI x1)), (3, .int (kI y3))]) hx hb dX4_goodBelow_25 rfl hl (by decide) rfl (fun ls hl => ?_)
        refine lv_iinc (v := kI (y3 + 1)) (lv' := [(3, .int (kI (y3 + 1))), (2, .int (kI (y2 + (t_good y3)))), (0, .ref a_t), (1, .int (kI x1))]) hx hb dX4_goodBelow_26 hl (k := 3) rfl (kI_add _ _) (by decide) rfl (fun ls hl => ?_)
        refine lv_goto (tgt := 4) hx hb dX4_goodBelow_29 (by decide) ?_
        exact ih (y2 + (t_good y3)) (y3 + 1) h _ _ _ hw (lv_sub hl [2, 3, 1, 0] rfl)
set_option maxHeartbeats 4000000 in
set_option maxRecDepth 100000 in
theorem c_X4_goodBelow (l : Launch) (G : GG) (S : SM) (sz : Nat) (N : Nat) (a_t a_t_least a_t_greatest a_t_good a_t_bad a_t_rowsIn : Nat) (t_size : Int) (t_least : Int → Int) (t_greatest : Int → Int) (t_good : Int → Int) (t_bad : Int → Int) (t_rowsIn : Int → Int) (x1 : Int) (r : Int) (h : m_X4_goodBelow N t_size t_good x1 = some r) : CtI l yX4_goodBelow cX4_goodBelow 4 .int (rmD 1 0 0) G S sz [.ref a_t, .int (kI x1)] [(a_t, .inr (4, [.ref a_t_least, .ref a_t_greatest, .ref a_t_good, .ref a_t_bad, .ref a_t_rowsIn, .int (kI t_size)])), (a_t_least, cAI G 60 t_least), (a_t_greatest, cAI G 60 t_greatest), (a_t_good, cAI G 60 t_good), (a_t_bad, cAI G 60 t_bad), (a_t_rowsIn, cAI G 60 t_rowsIn)] r [(a_t, .inr (4, [.ref a_t_least, .ref a_t_greatest, .ref a_t_good, .ref a_t_bad, .ref a_t_rowsIn, .int (kI t_size)])), (a_t_least, cAI G 60 t_least), (a_t_greatest, cAI G 60 t_greatest), (a_t_good, cAI G 60 t_good), (a_t_bad, cAI G 60 t_bad), (a_t_rowsIn, cAI G 60 t_rowsIn)] := by
  refine met_I (by decide +kernel) (Nat.le_of_ble_eq_true rfl) ?_
  intro p e s m args below meth c A H locs ls cx hw hr hlk hnm hl
  have hl : lv_has ls 4 [(0, .ref a_t), (1, .int (kI x1))] := hl
  rw [m_X4_goodBelow] at h
  obtain ⟨⟨hx, hb, -, -, -⟩, -⟩ := id cx
  refine ri_iconst hx hb dX4_goodBelow_0 ?_
  refine lv_istore_n (lv' := [(2, .int (kI 0)), (0, .ref a_t), (1, .int (kI x1))]) hx hb dX4_goodBelow_1 rfl hl (by decide) rfl (fun ls hl => ?_)
  refine ri_iconst hx hb dX4_goodBelow_2 ?_
  refine lv_istore_n (lv' := [(3, .int (kI 0)), (2, .int (kI 0)), (0, .ref a_t), (1, .int (kI x1))]) hx hb dX4_goodBelow_3 rfl hl (by decide) rfl (fun ls hl => ?_)
  exact w_X4_goodBelow_b4 cx hlk hr N a_t a_t_least a_t_greatest a_t_good a_t_bad a_t_rowsIn t_size t_least t_greatest t_good t_bad t_rowsIn x1 r N 0 0 h _ _ _ hw (lv_sub hl [2, 3, 1, 0] rfl)
def PL_X4_badBelow_b4 (p : Program) (l : Launch) (e : Env) (s : State) (m : MethodId) (args : Array Value) (below : List Frame) (meth : Method) (c : Code) (A : Nat → Prop) (G : GG) (S : SM) (a_t a_t_least a_t_greatest a_t_good a_t_bad a_t_rowsIn : Nat) (t_size : Int) (t_least : Int → Int) (t_greatest : Int → Int) (t_good : Int → Int) (t_bad : Int → Int) (t_rowsIn : Int → Int) (x1 : Int) (r : Int) (kk : Int → Int → Option (Int)) : Prop := ∀ (y2 : Int) (y3 : Int), kk y2 y3 = some r → ∀ (H : Heap) (locs : List Loc) (ls : Array Slot), HP G A s.heap H locs [(a_t, .inr (4, [.ref a_t_least, .ref a_t_greatest, .ref a_t_good, .ref a_t_bad, .ref a_t_rowsIn, .int (kI t_size)])), (a_t_least, cAI G 60 t_least), (a_t_greatest, cAI G 60 t_greatest), (a_t_good, cAI G 60 t_good), (a_t_bad, cAI G 60 t_bad), (a_t_rowsIn, cAI G 60 t_rowsIn)] → lv_has ls 4 [(0, .ref a_t), (1, .int (kI x1)), (2, .int (kI y2)), (3, .int (kI y3))] → W p l e (rmD 1 0 0) s m args below meth c H locs 0 0 (MQ below (QcI G A r [(a_t, .inr (4, [.ref a_t_least, .ref a_t_greatest, .ref a_t_good, .ref a_t_bad, .ref a_t_rowsIn, .int (kI t_size)])), (a_t_least, cAI G 60 t_least), (a_t_greatest, cAI G 60 t_greatest), (a_t_good, cAI G 60 t_good), (a_t_bad, cAI G 60 t_bad), (a_t_rowsIn, cAI G 60 t_rowsIn)]) args s (rmD 1 0 0).cells (rmD 1 0 0).slots A) (F0 m 4 ls [])
set_option maxHeartbeats 4000000 in
set_option maxRecDepth 100000 in
theorem w_X4_badBelow_b4 {p : Program} {l : Launch} {e : Env} {s : State} {m : MethodId} {args : Array Value} {below : List Frame} {meth : Method} {c : Code} {A : Nat → Prop} {G : GG} {S : SM} (cx : CX p s m args c cX4_badBelow RX4 4 G S A) (hlk : meth.locks = false) (hr : meth.sig.returnType = some .int) (N : Nat) (a_t a_t_least a_t_greatest a_t_good a_t_bad a_t_rowsIn : Nat) (t_size : Int) (t_least : Int → Int) (t_greatest : Int → Int) (t_good : Int → Int) (t_bad : Int → Int) (t_rowsIn : Int → Int) (x1 : Int) (r : Int) : ∀ n : Nat, PL_X4_badBelow_b4 p l e s m args below meth c A G S a_t a_t_least a_t_greatest a_t_good a_t_bad a_t_rowsIn t_size t_least t_greatest t_good t_bad t_rowsIn x1 r (m_X4_badBelow_b4 N t_size t_bad x1 n) := by
  intro n
  induction n with
  | zero => intro y2 y3 h; exact nomatch h
  | succ n ih =>
    intro y2 y3 h H locs ls hw hl
    rw [m_X4_badBelow_b4] at h
    obtain ⟨⟨hx, hb, -, -, -⟩, -⟩ := id cx
    refine lv_iload_n hx hb dX4_badBelow_4 rfl (lv_at hl 3 rfl) ?_
    refine lv_iload_n hx hb dX4_badBelow_5 rfl (lv_at hl 1 rfl) ?_
    obtain ⟨g1, h⟩ := gd_some h
    obtain ⟨g2, h⟩ := gd_some h
    refine ri_icmp_ge (tgt := 32) hx hb g1 g2 dX4_badBelow_6 (by decide) (fun c3 => ?_) (fun c3 => ?_)
    · have h := it_pos c3 h
      refine lv_iload_n hx hb dX4_badBelow_32 rfl (lv_at hl 2 rfl) ?_
      obtain rfl := so_inj h
      exact re_i hx hb hlk hr cx hw (Nat.le_of_ble_eq_true rfl) (Nat.le_of_ble_eq_true rfl) dX4_badBelow_33
    · have h := it_neg c3 h
      refine lv_iload_n hx hb dX4_badBelow_9 rfl (lv_at hl 3 rfl) ?_
      refine lv_aload_n hx hb dX4_badBelow_10 rfl (lv_at hl 0 rfl) ?_
      refine rf_get hx hb cx hw 0 rfl rfl 5 inX4 (by decide) fl_X4_27 rfl rfl dX4_badBelow_11 ?_
      obtain ⟨g4, h⟩ := gd_some h
      refine ri_icmp_ge (tgt := 32) hx hb g1 g4 dX4_badBelow_14 (by decide) (fun c5 => ?_) (fun c5 => ?_)
      · have h := it_pos c5 h
        refine lv_iload_n hx hb dX4_badBelow_32 rfl (lv_at hl 2 rfl) ?_
        obtain rfl := so_inj h
        exact re_i hx hb hlk hr cx hw (Nat.le_of_ble_eq_true rfl) (Nat.le_of_ble_eq_true rfl) dX4_badBelow_33
      · have h := it_neg c5 h
        refine lv_iload_n hx hb dX4_badBelow_17 rfl (lv_at hl 2 rfl) ?_
        refine lv_aload_n hx hb dX4_badBelow_18 rfl (lv_at hl 0 rfl) ?_
        refine rf_get hx hb cx hw 0 rfl rfl 3 inX4 (by decide) fl_X4_21 rfl rfl dX4_badBelow_19 ?_
        refine lv_iload_n hx hb dX4_badBelow_22 rfl (lv_at hl 3 rfl) ?_
        obtain ⟨g6, h⟩ := gd_some h
        refine ra_i hx hb cx hw 4 rfl (by decide) g6 dX4_badBelow_23 ?_
        refine ri_iadd hx hb dX4_badBelow_24 ?_
        refine lv_istore_n (lv' := [(2, .int (kI (y2 + (t_bad y3)))), (0, .ref a_t), (1, .int (kI x1)), (3, .int (kI y3))]) hx hb dX4_badBelow_25 rfl hl (by decide) rfl (fun ls hl => ?_)
        refine lv_iinc (v := kI (y3 + 1)) (lv' := [(3, .int (kI (y3 + 1))), (2, .int (kI (y2 + (t_bad y3)))), (0, .ref a_t), (1, .int (kI x1))]) hx hb dX4_badBelow_26 hl (k := 3) rfl (kI_add _ _) (by decide) rfl (fun ls hl => ?_)
        refine lv_goto (tgt := 4) hx hb dX4_badBelow_29 (by decide) ?_
        exact ih (y2 + (t_bad y3)) (y3 + 1) h _ _ _ hw (lv_sub hl [2, 3, 1, 0] rfl)
set_option maxHeartbeats 4000000 in
set_option maxRecDepth 100000 in
theorem c_X4_badBelow (l : Launch) (G : GG) (S : SM) (sz : Nat) (N : Nat) (a_t a_t_least a_t_greatest a_t_good a_t_bad a_t_rowsIn : Nat) (t_size : Int) (t_least : Int → Int) (t_greatest : Int → Int) (t_good : Int → Int) (t_bad : Int → Int) (t_rowsIn : Int → Int) (x1 : Int) (r : Int) (h : m_X4_badBelow N t_size t_bad x1 = some r) : CtI l yX4_badBelow cX4_badBelow 4 .int (rmD 1 0 0) G S sz [.ref a_t, .int (kI x1)] [(a_t, .inr (4, [.ref a_t_least, .ref a_t_greatest, .ref a_t_good, .ref a_t_bad, .ref a_t_rowsIn, .int (kI t_size)])), (a_t_least, cAI G 60 t_least), (a_t_greatest, cAI G 60 t_greatest), (a_t_good, cAI G 60 t_good), (a_t_bad, cAI G 60 t_bad), (a_t_rowsIn, cAI G 60 t_rowsIn)] r [(a_t, .inr (4, [.ref a_t_least, .ref a_t_greatest, .ref a_t_good, .ref a_t_bad, .ref a_t_rowsIn, .int (kI t_size)])), (a_t_least, cAI G 60 t_least), (a_t_greatest, cAI G 60 t_greatest), (a_t_good, cAI G 60 t_good), (a_t_bad, cAI G 60 t_bad), (a_t_rowsIn, cAI G 60 t_rowsIn)] := by
  refine met_I (by decide +kernel) (Nat.le_of_ble_eq_true rfl) ?_
  intro p e s m args below meth c A H locs ls cx hw hr hlk hnm hl
  have hl : lv_has ls 4 [(0, .ref a_t), (1, .int (kI x1))] := hl
  rw [m_X4_badBelow] at h
  obtain ⟨⟨hx, hb, -, -, -⟩, -⟩ := id cx
  refine ri_iconst hx hb dX4_badBelow_0 ?_
  refine lv_istore_n (lv' := [(2, .int (kI 0)), (0, .ref a_t), (1, .int (kI x1))]) hx hb dX4_badBelow_1 rfl hl (by decide) rfl (fun ls hl => ?_)
  refine ri_iconst hx hb dX4_badBelow_2 ?_
  refine lv_istore_n (lv' := [(3, .int (kI 0)), (2, .int (kI 0)), (0, .ref a_t), (1, .int (kI x1))]) hx hb dX4_badBelow_3 rfl hl (by decide) rfl (fun ls hl => ?_)
  exact w_X4_badBelow_b4 cx hlk hr N a_t a_t_least a_t_greatest a_t_good a_t_bad a_t_rowsIn t_size t_least t_greatest t_good t_bad t_rowsIn x1 r N 0 0 h _ _ _ hw (lv_sub hl [2, 3, 1, 0] rfl)
def PL_X5_lowest_b9 (p : Program) (l : Launch) (e : Env) (s : State) (m : MethodId) (args : Array Value) (below : List Frame) (meth : Method) (c : Code) (A : Nat → Prop) (G : GG) (S : SM) (x0 : Int) (x2 : Int) (x4 : Int) (r : Int) (kk : Int → Int → Int → Option (Int)) : Prop := ∀ (y5 : Int) (y7 : Int) (y9 : Int), kk y5 y7 y9 = some r → ∀ (H : Heap) (locs : List Loc) (ls : Array Slot), HP G A s.heap H locs [] → lv_has ls 12 [(0, .long (kL x0)), (2, .long (kL x2)), (4, .int (kI x4)), (5, .long (kL y5)), (7, .long (kL y7)), (9, .int (kI y9))] → W p l e (rmD 1 0 0) s m args below meth c H locs 0 0 (MQ below (QcL G A r []) args s (rmD 1 0 0).cells (rmD 1 0 0).slots A) (F0 m 9 ls [])
set_option maxHeartbeats 4000000 in
set_option maxRecDepth 100000 in
theorem w_X5_lowest_b54 {p : Program} {l : Launch} {e : Env} {s : State} {m : MethodId} {args : Array Value} {below : List Frame} {meth : Method} {c : Code} {A : Nat → Prop} {G : GG} {S : SM} (cx : CX p s m args c cX5_lowest RX5 12 G S A) (hlk : meth.locks = false) (hr : meth.sig.returnType = some .long) (N : Nat) (x0 : Int) (x2 : Int) (x4 : Int) (r : Int) : ∀ (y5 : Int) (s0 : Int), m_X5_lowest_b54 N x0 x2 x4 y5 s0 = some r → ∀ (H : Heap) (locs : List Loc) (ls : Array Slot), HP G A s.heap H locs [] → lv_has ls 12 [(5, .long (kL y5))] → W p l e (rmD 1 0 0) s m args below meth c H locs 0 0 (MQ below (QcL G A r []) args s (rmD 1 0 0).cells (rmD 1 0 0).slots A) (F0 m 54 ls [.long (kL s0)]) := by
  intro y5 s0 h H locs ls hw hl
  rw [m_X5_lowest_b54] at h
  obtain ⟨⟨hx, hb, -, -, -⟩, -⟩ := id cx
  refine lv_lstore (lv' := [(9, .long (kL s0)), (5, .long (kL y5))]) hx hb dX5_lowest_54 hl (by decide) rfl (fun ls hl => ?_)
  refine lv_lload hx hb dX5_lowest_56 (lv_at hl 1 rfl) ?_
  refine ri_lconst hx hb 0 dX5_lowest_58 rfl ?_
  obtain ⟨g1, h⟩ := gd_some h
  refine ri_lcmp_ne (tgt := 68) hx hb g1 ⟨by decide, by decide⟩ dX5_lowest_59 dX5_lowest_60 (by decide) (fun c2 => ?_) (fun c2 => ?_)
  · have h := it_pos c2 h
    refine lv_lload hx hb dX5_lowest_63 (lv_at hl 0 rfl) ?_
    refine lv_goto (tgt := 73) hx hb dX5_lowest_65 (by decide) ?_
    obtain rfl := so_inj h
    exact re_l hx hb hlk hr cx hw (Nat.le_of_ble_eq_true rfl) (Nat.le_of_ble_eq_true rfl) dX5_lowest_73
  · have h := it_neg c2 h
    refine lv_lload hx hb dX5_lowest_68 (lv_at hl 0 rfl) ?_
    refine lv_lload hx hb dX5_lowest_70 (lv_at hl 1 rfl) ?_
    obtain ⟨g3, h⟩ := gd_some h
    refine ri_ldiv hx hb g3 dX5_lowest_72 ?_
    obtain rfl := so_inj h
    exact re_l hx hb hlk hr cx hw (Nat.le_of_ble_eq_true rfl) (Nat.le_of_ble_eq_true rfl) dX5_lowest_73
set_option maxHeartbeats 4000000 in
set_option maxRecDepth 100000 in
theorem w_X5_lowest_b44 {p : Program} {l : Launch} {e : Env} {s : State} {m : MethodId} {args : Array Value} {below : List Frame} {meth : Method} {c : Code} {A : Nat → Prop} {G : GG} {S : SM} (cx : CX p s m args c cX5_lowest RX5 12 G S A) (hlk : meth.locks = false) (hr : meth.sig.returnType = some .long) (N : Nat) (x0 : Int) (x2 : Int) (x4 : Int) (r : Int) : ∀ (y5 : Int), m_X5_lowest_b44 N x0 x2 x4 y5 = some r → ∀ (H : Heap) (locs : List Loc) (ls : Array Slot), HP G A s.heap H locs [] → lv_has ls 12 [(0, .long (kL x0)), (2, .long (kL x2)), (4, .int (kI x4)), (5, .long (kL y5))] → W p l e (rmD 1 0 0) s m args below meth c H locs 0 0 (MQ below (QcL G A r []) args s (rmD 1 0 0).cells (rmD 1 0 0).slots A) (F0 m 44 ls []) := by
  intro y5 h H locs ls hw hl
  rw [m_X5_lowest_b44] at h
  obtain ⟨⟨hx, hb, -, -, -⟩, -⟩ := id cx
  refine lv_iload hx hb dX5_lowest_44 (lv_at hl 2 rfl) ?_
  obtain ⟨g1, h⟩ := gd_some h
  refine ri_if_ne (tgt := 53) hx hb g1 dX5_lowest_46 (by decide) (fun c2 => ?_) (fun c2 => ?_)
  · have h := it_pos c2 h
    refine lv_lload_n hx hb dX5_lowest_49 rfl (lv_at hl 0 rfl) ?_
    refine lv_goto (tgt := 54) hx hb dX5_lowest_50 (by decide) ?_
    exact w_X5_lowest_b54 cx hlk hr N x0 x2 x4 r y5 x0 h _ _ _ hw (lv_sub hl [3] rfl)
  · have h := it_neg c2 h
    refine lv_lload_n hx hb dX5_lowest_53 rfl (lv_at hl 1 rfl) ?_
    exact w_X5_lowest_b54 cx hlk hr N x0 x2 x4 r y5 x2 h _ _ _ hw (lv_sub hl [3] rfl)
set_option maxHeartbeats 4000000 in
set_option maxRecDepth 100000 in
theorem w_X5_lowest_b9 {p : Program} {l : Launch} {e : Env} {s : State} {m : MethodId} {args : Array Value} {below : List Frame} {meth : Method} {c : Code} {A : Nat → Prop} {G : GG} {S : SM} (cx : CX p s m args c cX5_lowest RX5 12 G S A) (hlk : meth.locks = false) (hr : meth.sig.returnType = some .long) (N : Nat) (x0 : Int) (x2 : Int) (x4 : Int) (r : Int) : ∀ n : Nat, PL_X5_lowest_b9 p l e s m args below meth c A G S x0 x2 x4 r (m_X5_lowest_b9 N x0 x2 x4 n) := by
  intro n
  induction n with
  | zero => intro y5 y7 y9 h; exact nomatch h
  | succ n ih =>
    intro y5 y7 y9 h H locs ls hw hl
    rw [m_X5_lowest_b9] at h
    obtain ⟨⟨hx, hb, -, -, -⟩, -⟩ := id cx
    refine lv_iload hx hb dX5_lowest_9 (lv_at hl 5 rfl) ?_
    refine ri_bipush hx hb dX5_lowest_11 rfl ?_
    obtain ⟨g1, h⟩ := gd_some h
    refine ri_icmp_ge (tgt := 44) hx hb g1 ⟨by decide, by decide⟩ dX5_lowest_13 (by decide) (fun c2 => ?_) (fun c2 => ?_)
    · have h := it_pos c2 h
      exact w_X5_lowest_b44 cx hlk hr N x0 x2 x4 r y5 h _ _ _ hw (lv_sub hl [0, 1, 2, 3] rfl)
    · have h := it_neg c2 h
      refine lv_lload hx hb dX5_lowest_16 (lv_at hl 4 rfl) ?_
      refine ri_lconst hx hb 0 dX5_lowest_18 rfl ?_
      obtain ⟨g3, h⟩ := gd_some h
      refine ri_lcmp_eq (tgt := 44) hx hb g3 ⟨by decide, by decide⟩ dX5_lowest_19 dX5_lowest_20 (by decide) (fun c4 => ?_) (fun c4 => ?_)
      · have h := it_pos c4 h
        exact w_X5_lowest_b44 cx hlk hr N x0 x2 x4 r y5 h _ _ _ hw (lv_sub hl [0, 1, 2, 3] rfl)
      · have h := it_neg c4 h
        refine lv_lload hx hb dX5_lowest_23 (lv_at hl 3 rfl) ?_
        refine lv_lload hx hb dX5_lowest_25 (lv_at hl 4 rfl) ?_
        obtain ⟨g5, h⟩ := gd_some h
        refine ri_lrem hx hb g5 dX5_lowest_27 ?_
        refine lv_lstore (lv' := [(10, .long (kL (y5 % y7))), (0, .long (kL x0)), (2, .long (kL x2)), (4, .int (kI x4)), (5, .long (kL y5)), (7, .long (kL y7)), (9, .int (kI y9))]) hx hb dX5_lowest_28 hl (by decide) rfl (fun ls hl => ?_)
        refine lv_lload hx hb dX5_lowest_30 (lv_at hl 5 rfl) ?_
        refine lv_lstore (lv' := [(5, .long (kL y7)), (10, .long (kL (y5 % y7))), (0, .long (kL x0)), (2, .long (kL x2)), (4, .int (kI x4)), (7, .long (kL y7)), (9, .int (kI y9))]) hx hb dX5_lowest_32 hl (by decide) rfl (fun ls hl => ?_)
        refine lv_lload hx hb dX5_lowest_34 (lv_at hl 1 rfl) ?_
        refine lv_lstore (lv' := [(7, .long (kL (y5 % y7))), (5, .long (kL y7)), (10, .long (kL (y5 % y7))), (0, .long (kL x0)), (2, .long (kL x2)), (4, .int (kI x4)), (9, .int (kI y9))]) hx hb dX5_lowest_36 hl (by decide) rfl (fun ls hl => ?_)
        refine lv_iinc (v := kI (y9 + 1)) (lv' := [(9, .int (kI (y9 + 1))), (7, .long (kL (y5 % y7))), (5, .long (kL y7)), (10, .long (kL (y5 % y7))), (0, .long (kL x0)), (2, .long (kL x2)), (4, .int (kI x4))]) hx hb dX5_lowest_38 hl (k := 6) rfl (kI_add _ _) (by decide) rfl (fun ls hl => ?_)
        refine lv_goto (tgt := 9) hx hb dX5_lowest_41 (by decide) ?_
        exact ih y7 (y5 % y7) (y9 + 1) h _ _ _ hw (lv_sub hl [4, 5, 6, 2, 1, 0] rfl)
set_option maxHeartbeats 4000000 in
set_option maxRecDepth 100000 in
theorem c_X5_lowest (l : Launch) (G : GG) (S : SM) (sz : Nat) (N : Nat)  (x0 : Int) (x2 : Int) (x4 : Int) (r : Int) (h : m_X5_lowest N x0 x2 x4 = some r) : CtL l yX5_lowest cX5_lowest 12 (rmD 1 0 0) G S sz [.long (kL x0), .long (kL x2), .int (kI x4)] [] r [] := by
  refine met_L (by decide +kernel) (Nat.le_of_ble_eq_true rfl) ?_
  intro p e s m args below meth c A H locs ls cx hw hr hlk hnm hl
  have hl : lv_has ls 12 [(0, .long (kL x0)), (2, .long (kL x2)), (4, .int (kI x4))] := hl
  rw [m_X5_lowest] at h
  obtain ⟨⟨hx, hb, -, -, -⟩, -⟩ := id cx
  refine lv_lload_n hx hb dX5_lowest_0 rfl (lv_at hl 0 rfl) ?_
  refine lv_lstore (lv' := [(5, .long (kL x0)), (0, .long (kL x0)), (2, .long (kL x2)), (4, .int (kI x4))]) hx hb dX5_lowest_1 hl (by decide) rfl (fun ls hl => ?_)
  refine lv_lload_n hx hb dX5_lowest_3 rfl (lv_at hl 2 rfl) ?_
  refine lv_lstore (lv' := [(7, .long (kL x2)), (5, .long (kL x0)), (0, .long (kL x0)), (2, .long (kL x2)), (4, .int (kI x4))]) hx hb dX5_lowest_4 hl (by decide) rfl (fun ls hl => ?_)
  refine ri_iconst hx hb dX5_lowest_6 ?_
  refine lv_istore (lv' := [(9, .int (kI 0)), (7, .long (kL x2)), (5, .long (kL x0)), (0, .long (kL x0)), (2, .long (kL x2)), (4, .int (kI x4))]) hx hb dX5_lowest_7 hl (by decide) rfl (fun ls hl => ?_)
  exact w_X5_lowest_b9 cx hlk hr N x0 x2 x4 r N x0 x2 0 h _ _ _ hw (lv_sub hl [3, 4, 5, 2, 1, 0] rfl)
def PL_X4_badWith_b13 (p : Program) (l : Launch) (e : Env) (s : State) (m : MethodId) (args : Array Value) (below : List Frame) (meth : Method) (c : Code) (A : Nat → Prop) (G : GG) (S : SM) (a_t a_t_least a_t_greatest a_t_good a_t_bad a_t_rowsIn : Nat) (t_size : Int) (t_least : Int → Int) (t_greatest : Int → Int) (t_good : Int → Int) (t_bad : Int → Int) (t_rowsIn : Int → Int) (x1 : Int) (x2 : Int) (r : Int) (kk : Int → Int → Int → Option (Int)) : Prop := ∀ (y3 : Int) (y4 : Int) (y6 : Int), kk y3 y4 y6 = some r → ∀ (H : Heap) (locs : List Loc) (ls : Array Slot), HP G A s.heap H locs [(a_t, .inr (4, [.ref a_t_least, .ref a_t_greatest, .ref a_t_good, .ref a_t_bad, .ref a_t_rowsIn, .int (kI t_size)])), (a_t_least, cAI G 60 t_least), (a_t_greatest, cAI G 60 t_greatest), (a_t_good, cAI G 60 t_good), (a_t_bad, cAI G 60 t_bad), (a_t_rowsIn, cAI G 60 t_rowsIn)] → lv_has ls 7 [(0, .ref a_t), (2, .int (kI x2)), (3, .int (kI y3)), (4, .long (kL y4)), (6, .int (kI y6))] → W p l e (rmD 2 0 0) s m args below meth c H locs 0 0 (MQ below (QcL G A r [(a_t, .inr (4, [.ref a_t_least, .ref a_t_greatest, .ref a_t_good, .ref a_t_bad, .ref a_t_rowsIn, .int (kI t_size)])), (a_t_least, cAI G 60 t_least), (a_t_greatest, cAI G 60 t_greatest), (a_t_good, cAI G 60 t_good), (a_t_bad, cAI G 60 t_bad), (a_t_rowsIn, cAI G 60 t_rowsIn)]) args s (rmD 2 0 0).cells (rmD 2 0 0).slots A) (F0 m 13 ls [])
set_option maxHeartbeats 4000000 in
set_option maxRecDepth 100000 in
theorem w_X4_badWith_b98 {p : Program} {l : Launch} {e : Env} {s : State} {m : MethodId} {args : Array Value} {below : List Frame} {meth : Method} {c : Code} {A : Nat → Prop} {G : GG} {S : SM} (cx : CX p s m args c cX4_badWith RX4 7 G S A) (hlk : meth.locks = false) (hr : meth.sig.returnType = some .long) (N : Nat) (a_t a_t_least a_t_greatest a_t_good a_t_bad a_t_rowsIn : Nat) (t_size : Int) (t_least : Int → Int) (t_greatest : Int → Int) (t_good : Int → Int) (t_bad : Int → Int) (t_rowsIn : Int → Int) (x1 : Int) (x2 : Int) (r : Int) : ∀ (y4 : Int), m_X4_badWith_b98 N t_size t_good t_bad x1 x2 y4 = some r → ∀ (H : Heap) (locs : List Loc) (ls : Array Slot), HP G A s.heap H locs [(a_t, .inr (4, [.ref a_t_least, .ref a_t_greatest, .ref a_t_good, .ref a_t_bad, .ref a_t_rowsIn, .int (kI t_size)])), (a_t_least, cAI G 60 t_least), (a_t_greatest, cAI G 60 t_greatest), (a_t_good, cAI G 60 t_good), (a_t_bad, cAI G 60 t_bad), (a_t_rowsIn, cAI G 60 t_rowsIn)] → lv_has ls 7 [(2, .int (kI x2)), (4, .long (kL y4))] → W p l e (rmD 2 0 0) s m args below meth c H locs 0 0 (MQ below (QcL G A r [(a_t, .inr (4, [.ref a_t_least, .ref a_t_greatest, .ref a_t_good, .ref a_t_bad, .ref a_t_rowsIn, .int (kI t_size)])), (a_t_least, cAI G 60 t_least), (a_t_greatest, cAI G 60 t_greatest), (a_t_good, cAI G 60 t_good), (a_t_bad, cAI G 60 t_bad), (a_t_rowsIn, cAI G 60 t_rowsIn)]) args s (rmD 2 0 0).cells (rmD 2 0 0).slots A) (F0 m 98 ls []) := by
  intro y4 h H locs ls hw hl
  rw [m_X4_badWith_b98] at h
  obtain ⟨⟨hx, hb, -, -, -⟩, -⟩ := id cx
  refine lv_lload hx hb dX4_badWith_98 (lv_at hl 1 rfl) ?_
  refine ri_lconst hx hb 1 dX4_badWith_100 rfl ?_
  refine lv_iload_n hx hb dX4_badWith_101 rfl (lv_at hl 0 rfl) ?_
  obtain ⟨r1, h1, h⟩ := bd_some h
  refine rc_L0 (v := r1) hw [] (rr_S cx hw (c_X5_lowest l G S H.size N y4 1 x2 _ h1) mv_X4_89 [] rfl rfl rfl ⟨Nat.le_of_ble_eq_true rfl, Nat.le_of_ble_eq_true rfl⟩ rfl hl.1 rfl (Nat.le_of_ble_eq_true rfl) dX4_badWith_102 ⟨Nat.le_of_ble_eq_true rfl, Nat.le_of_ble_eq_true rfl⟩) rfl rfl (fun H locs hw => ?_)
  obtain rfl := so_inj h
  exact re_l hx hb hlk hr cx hw (Nat.le_of_ble_eq_true rfl) (Nat.le_of_ble_eq_true rfl) dX4_badWith_105
set_option maxHeartbeats 4000000 in
set_option maxRecDepth 100000 in
theorem w_X4_badWith_b13 {p : Program} {l : Launch} {e : Env} {s : State} {m : MethodId} {args : Array Value} {below : List Frame} {meth : Method} {c : Code} {A : Nat → Prop} {G : GG} {S : SM} (cx : CX p s m args c cX4_badWith RX4 7 G S A) (hlk : meth.locks = false) (hr : meth.sig.returnType = some .long) (N : Nat) (a_t a_t_least a_t_greatest a_t_good a_t_bad a_t_rowsIn : Nat) (t_size : Int) (t_least : Int → Int) (t_greatest : Int → Int) (t_good : Int → Int) (t_bad : Int → Int) (t_rowsIn : Int → Int) (x1 : Int) (x2 : Int) (r : Int) : ∀ n : Nat, PL_X4_badWith_b13 p l e s m args below meth c A G S a_t a_t_least a_t_greatest a_t_good a_t_bad a_t_rowsIn t_size t_least t_greatest t_good t_bad t_rowsIn x1 x2 r (m_X4_badWith_b13 N t_size t_good t_bad x1 x2 n) := by
  intro n
  induction n with
  | zero => intro y3 y4 y6 h; exact nomatch h
  | succ n ih =>
    intro y3 y4 y6 h H locs ls hw hl
    rw [m_X4_badWith_b13] at h
    obtain ⟨⟨hx, hb, -, -, -⟩, -⟩ := id cx
    refine lv_iload hx hb dX4_badWith_13 (lv_at hl 4 rfl) ?_
    obtain ⟨g1, h⟩ := gd_some h
    refine ri_if_lt (tgt := 98) hx hb g1 dX4_badWith_15 (by decide) (fun c2 => ?_) (fun c2 => ?_)
    · have h := it_pos c2 h
      exact w_X4_badWith_b98 cx hlk hr N a_t a_t_least a_t_greatest a_t_good a_t_bad a_t_rowsIn t_size t_least t_greatest t_good t_bad t_rowsIn x1 x2 r y4 h _ _ _ hw (lv_sub hl [1, 3] rfl)
    · have h := it_neg c2 h
      refine lv_iload_n hx hb dX4_badWith_18 rfl (lv_at hl 2 rfl) ?_
      obtain ⟨g3, h⟩ := gd_some h
      refine ri_if_le (tgt := 98) hx hb g3 dX4_badWith_19 (by decide) (fun c4 => ?_) (fun c4 => ?_)
      · have h := it_pos c4 h
        exact w_X4_badWith_b98 cx hlk hr N a_t a_t_least a_t_greatest a_t_good a_t_bad a_t_rowsIn t_size t_least t_greatest t_good t_bad t_rowsIn x1 x2 r y4 h _ _ _ hw (lv_sub hl [1, 3] rfl)
      · have h := it_neg c4 h
        refine lv_iload_n hx hb dX4_badWith_22 rfl (lv_at hl 2 rfl) ?_
        refine lv_aload_n hx hb dX4_badWith_23 rfl (lv_at hl 0 rfl) ?_
        refine rf_get hx hb cx hw 0 rfl rfl 2 inX4 (by decide) fl_X4_18 rfl rfl dX4_badWith_24 ?_
        refine lv_iload hx hb dX4_badWith_27 (lv_at hl 4 rfl) ?_
        obtain ⟨g5, h⟩ := gd_some h
        refine ra_i hx hb cx hw 3 rfl (by decide) g5 dX4_badWith_29 ?_
        obtain ⟨g6, h⟩ := gd_some h
        refine ri_icmp_gt (tgt := 69) hx hb g3 g6 dX4_badWith_30 (by decide) (fun c7 => ?_) (fun c7 => ?_)
        · have h := it_pos c7 h
          refine lv_iload_n hx hb dX4_badWith_69 rfl (lv_at hl 2 rfl) ?_
          refine lv_aload_n hx hb dX4_badWith_70 rfl (lv_at hl 0 rfl) ?_
          refine rf_get hx hb cx hw 0 rfl rfl 2 inX4 (by decide) fl_X4_18 rfl rfl dX4_badWith_71 ?_
          refine lv_iload hx hb dX4_badWith_74 (lv_at hl 4 rfl) ?_
          refine ra_i hx hb cx hw 3 rfl (by decide) g5 dX4_badWith_76 ?_
          refine ri_isub hx hb dX4_badWith_77 ?_
          refine lv_istore_n (lv' := [(3, .int (kI (y3 - (t_good y6)))), (0, .ref a_t), (2, .int (kI x2)), (4, .long (kL y4)), (6, .int (kI y6))]) hx hb dX4_badWith_78 rfl hl (by decide) rfl (fun ls hl => ?_)
          refine lv_lload hx hb dX4_badWith_79 (lv_at hl 3 rfl) ?_
          refine lv_aload_n hx hb dX4_badWith_81 rfl (lv_at hl 1 rfl) ?_
          refine rf_get hx hb cx hw 0 rfl rfl 3 inX4 (by decide) fl_X4_21 rfl rfl dX4_badWith_82 ?_
          refine lv_iload hx hb dX4_badWith_85 (lv_at hl 4 rfl) ?_
          refine ra_i hx hb cx hw 4 rfl (by decide) g5 dX4_badWith_87 ?_
          obtain ⟨g8, h⟩ := gd_some h
          refine ri_i2l hx hb g8 dX4_badWith_88 ?_
          refine ri_ladd hx hb dX4_badWith_89 ?_
          refine lv_lstore (lv' := [(4, .long (kL (y4 + (t_bad y6)))), (3, .int (kI (y3 - (t_good y6)))), (0, .ref a_t), (2, .int (kI x2)), (6, .int (kI y6))]) hx hb dX4_badWith_90 hl (by decide) rfl (fun ls hl => ?_)
          refine lv_iinc (v := kI (y6 + (-1))) (lv' := [(6, .int (kI (y6 + (-1)))), (4, .long (kL (y4 + (t_bad y6)))), (3, .int (kI (y3 - (t_good y6)))), (0, .ref a_t), (2, .int (kI x2))]) hx hb dX4_badWith_92 hl (k := 4) rfl (kI_add _ _) (by decide) rfl (fun ls hl => ?_)
          refine lv_goto (tgt := 13) hx hb dX4_badWith_95 (by decide) ?_
          exact ih (y3 - (t_good y6)) (y4 + (t_bad y6)) (y6 + (-1)) h _ _ _ hw (lv_sub hl [3, 4, 2, 1, 0] rfl)
        · have h := it_neg c7 h
          refine lv_lload hx hb dX4_badWith_33 (lv_at hl 3 rfl) ?_
          refine lv_aload_n hx hb dX4_badWith_35 rfl (lv_at hl 0 rfl) ?_
          refine rf_get hx hb cx hw 0 rfl rfl 2 inX4 (by decide) fl_X4_18 rfl rfl dX4_badWith_36 ?_
          refine lv_iload hx hb dX4_badWith_39 (lv_at hl 4 rfl) ?_
          refine ra_i hx hb cx hw 3 rfl (by decide) g5 dX4_badWith_41 ?_
          refine ri_i2l hx hb g6 dX4_badWith_42 ?_
          refine ri_lmul hx hb dX4_badWith_43 ?_
          refine lv_iload_n hx hb dX4_badWith_44 rfl (lv_at hl 2 rfl) ?_
          refine ri_i2l hx hb g3 dX4_badWith_45 ?_
          refine lv_aload_n hx hb dX4_badWith_46 rfl (lv_at hl 0 rfl) ?_
          refine rf_get hx hb cx hw 0 rfl rfl 3 inX4 (by decide) fl_X4_21 rfl rfl dX4_badWith_47 ?_
          refine lv_iload hx hb dX4_badWith_50 (lv_at hl 4 rfl) ?_
          refine ra_i hx hb cx hw 4 rfl (by decide) g5 dX4_badWith_52 ?_
          obtain ⟨g9, h⟩ := gd_some h
          refine ri_i2l hx hb g9 dX4_badWith_53 ?_
          refine ri_lmul hx hb dX4_badWith_54 ?_
          refine ri_ladd hx hb dX4_badWith_55 ?_
          refine lv_aload_n hx hb dX4_badWith_56 rfl (lv_at hl 0 rfl) ?_
          refine rf_get hx hb cx hw 0 rfl rfl 2 inX4 (by decide) fl_X4_18 rfl rfl dX4_badWith_57 ?_
          refine lv_iload hx hb dX4_badWith_60 (lv_at hl 4 rfl) ?_
          refine ra_i hx hb cx hw 3 rfl (by decide) g5 dX4_badWith_62 ?_
          refine ri_i2l hx hb g6 dX4_badWith_63 ?_
          refine lv_iload_n hx hb dX4_badWith_64 rfl (lv_at hl 1 rfl) ?_
          obtain ⟨r10, h10, h⟩ := bd_some h
          refine rc_L0 (v := r10) hw [] (rr_S cx hw (c_X5_lowest l G S H.size N ((y4 * (t_good y6)) + (y3 * (t_bad y6))) (t_good y6) x2 _ h10) mv_X4_89 [] rfl rfl rfl ⟨Nat.le_of_ble_eq_true rfl, Nat.le_of_ble_eq_true rfl⟩ rfl hl.1 rfl (Nat.le_of_ble_eq_true rfl) dX4_badWith_65 ⟨Nat.le_of_ble_eq_true rfl, Nat.le_of_ble_eq_true rfl⟩) rfl rfl (fun H locs hw => ?_)
          obtain rfl := so_inj h
          exact re_l hx hb hlk hr cx hw (Nat.le_of_ble_eq_true rfl) (Nat.le_of_ble_eq_true rfl) dX4_badWith_68
set_option maxHeartbeats 4000000 in
set_option maxRecDepth 100000 in
theorem c_X4_badWith (l : Launch) (G : GG) (S : SM) (sz : Nat) (N : Nat) (a_t a_t_least a_t_greatest a_t_good a_t_bad a_t_rowsIn : Nat) (t_size : Int) (t_least : Int → Int) (t_greatest : Int → Int) (t_good : Int → Int) (t_bad : Int → Int) (t_rowsIn : Int → Int) (x1 : Int) (x2 : Int) (r : Int) (h : m_X4_badWith N t_size t_good t_bad x1 x2 = some r) : CtL l yX4_badWith cX4_badWith 7 (rmD 2 0 0) G S sz [.ref a_t, .int (kI x1), .int (kI x2)] [(a_t, .inr (4, [.ref a_t_least, .ref a_t_greatest, .ref a_t_good, .ref a_t_bad, .ref a_t_rowsIn, .int (kI t_size)])), (a_t_least, cAI G 60 t_least), (a_t_greatest, cAI G 60 t_greatest), (a_t_good, cAI G 60 t_good), (a_t_bad, cAI G 60 t_bad), (a_t_rowsIn, cAI G 60 t_rowsIn)] r [(a_t, .inr (4, [.ref a_t_least, .ref a_t_greatest, .ref a_t_good, .ref a_t_bad, .ref a_t_rowsIn, .int (kI t_size)])), (a_t_least, cAI G 60 t_least), (a_t_greatest, cAI G 60 t_greatest), (a_t_good, cAI G 60 t_good), (a_t_bad, cAI G 60 t_bad), (a_t_rowsIn, cAI G 60 t_rowsIn)] := by
  refine met_L (by decide +kernel) (Nat.le_of_ble_eq_true rfl) ?_
  intro p e s m args below meth c A H locs ls cx hw hr hlk hnm hl
  have hl : lv_has ls 7 [(0, .ref a_t), (1, .int (kI x1)), (2, .int (kI x2))] := hl
  rw [m_X4_badWith] at h
  obtain ⟨⟨hx, hb, -, -, -⟩, -⟩ := id cx
  refine lv_iload_n hx hb dX4_badWith_0 rfl (lv_at hl 1 rfl) ?_
  refine lv_istore_n (lv' := [(3, .int (kI x1)), (0, .ref a_t), (1, .int (kI x1)), (2, .int (kI x2))]) hx hb dX4_badWith_1 rfl hl (by decide) rfl (fun ls hl => ?_)
  refine ri_lconst hx hb 0 dX4_badWith_2 rfl ?_
  refine lv_lstore (lv' := [(4, .long (kL 0)), (3, .int (kI x1)), (0, .ref a_t), (1, .int (kI x1)), (2, .int (kI x2))]) hx hb dX4_badWith_3 hl (by decide) rfl (fun ls hl => ?_)
  refine lv_aload_n hx hb dX4_badWith_5 rfl (lv_at hl 2 rfl) ?_
  refine rf_get hx hb cx hw 0 rfl rfl 5 inX4 (by decide) fl_X4_27 rfl rfl dX4_badWith_6 ?_
  refine ri_iconst hx hb dX4_badWith_9 ?_
  refine ri_isub hx hb dX4_badWith_10 ?_
  refine lv_istore (lv' := [(6, .int (kI (t_size - 1))), (4, .long (kL 0)), (3, .int (kI x1)), (0, .ref a_t), (1, .int (kI x1)), (2, .int (kI x2))]) hx hb dX4_badWith_11 hl (by decide) rfl (fun ls hl => ?_)
  exact w_X4_badWith_b13 cx hlk hr N a_t a_t_least a_t_greatest a_t_good a_t_bad a_t_rowsIn t_size t_least t_greatest t_good t_bad t_rowsIn x1 x2 r N x1 0 (t_size - 1) h _ _ _ hw (lv_sub hl [3, 5, 2, 1, 0] rfl)
set_option maxHeartbeats 4000000 in
set_option maxRecDepth 100000 in
theorem c_X5_quotient (l : Launch) (G : GG) (S : SM) (sz : Nat) (N : Nat)  (x0 : Int) (x2 : Int) (r : UInt64) (h : m_X5_quotient N x0 x2 = some r) : CtD l yX5_quotient cX5_quotient 4 (rmD 1 0 0) G S sz [.long (kL x0), .long (kL x2)] [] r [] := by
  refine met_D (by decide +kernel) (Nat.le_of_ble_eq_true rfl) ?_
  intro p e s m args below meth c A H locs ls cx hw hr hlk hnm hl
  have hl : lv_has ls 4 [(0, .long (kL x0)), (2, .long (kL x2))] := hl
  rw [m_X5_quotient] at h
  obtain ⟨⟨hx, hb, -, -, -⟩, -⟩ := id cx
  refine lv_lload_n hx hb dX5_quotient_0 rfl (lv_at hl 1 rfl) ?_
  refine ri_lconst hx hb 0 dX5_quotient_1 rfl ?_
  obtain ⟨g1, h⟩ := gd_some h
  refine ri_lcmp_ne (tgt := 10) hx hb g1 ⟨by decide, by decide⟩ dX5_quotient_2 dX5_quotient_3 (by decide) (fun c2 => ?_) (fun c2 => ?_)
  · have h := it_pos c2 h
    refine lv_dconst0 hx hb dX5_quotient_6 ?_
    refine lv_goto (tgt := 15) hx hb dX5_quotient_7 (by decide) ?_
    obtain rfl := so_inj h
    exact re_d hx hb hlk hr cx hw (Nat.le_of_ble_eq_true rfl) (Nat.le_of_ble_eq_true rfl) dX5_quotient_15
  · have h := it_neg c2 h
    refine lv_lload_n hx hb dX5_quotient_10 rfl (lv_at hl 0 rfl) ?_
    refine lv_l2d hx hb dX5_quotient_11 ?_
    refine lv_lload_n hx hb dX5_quotient_12 rfl (lv_at hl 1 rfl) ?_
    refine lv_l2d hx hb dX5_quotient_13 ?_
    obtain ⟨g3, h⟩ := gd_some h
    refine lv_ddiv hx hb dX5_quotient_14 g3 ?_
    obtain rfl := so_inj h
    exact re_d hx hb hlk hr cx hw (Nat.le_of_ble_eq_true rfl) (Nat.le_of_ble_eq_true rfl) dX5_quotient_15
def PL_X5_doubleBits_b55 (p : Program) (l : Launch) (e : Env) (s : State) (m : MethodId) (args : Array Value) (below : List Frame) (meth : Method) (c : Code) (A : Nat → Prop) (G : GG) (S : SM) (x0 : UInt64) (r : Int) (kk : UInt64 → Int → Int → Option (Int)) : Prop := ∀ (y2 : UInt64) (y4 : Int) (y6 : Int), kk y2 y4 y6 = some r → ∀ (H : Heap) (locs : List Loc) (ls : Array Slot), HP G A s.heap H locs [] → lv_has ls 7 [(2, .double y2), (4, .long (kL y4)), (6, .int (kI y6))] → W p l e (rmD 1 0 0) s m args below meth c H locs 0 0 (MQ below (QcL G A r []) args s (rmD 1 0 0).cells (rmD 1 0 0).slots A) (F0 m 55 ls [])
def PL_X5_doubleBits_b18 (p : Program) (l : Launch) (e : Env) (s : State) (m : MethodId) (args : Array Value) (below : List Frame) (meth : Method) (c : Code) (A : Nat → Prop) (G : GG) (S : SM) (x0 : UInt64) (r : Int) (kk : UInt64 → Int → Int → Option (Int)) : Prop := ∀ (y2 : UInt64) (y4 : Int) (y6 : Int), kk y2 y4 y6 = some r → ∀ (H : Heap) (locs : List Loc) (ls : Array Slot), HP G A s.heap H locs [] → lv_has ls 7 [(2, .double y2), (4, .long (kL y4)), (6, .int (kI y6))] → W p l e (rmD 1 0 0) s m args below meth c H locs 0 0 (MQ below (QcL G A r []) args s (rmD 1 0 0).cells (rmD 1 0 0).slots A) (F0 m 18 ls [])
set_option maxHeartbeats 4000000 in
set_option maxRecDepth 100000 in
theorem w_X5_doubleBits_b87 {p : Program} {l : Launch} {e : Env} {s : State} {m : MethodId} {args : Array Value} {below : List Frame} {meth : Method} {c : Code} {A : Nat → Prop} {G : GG} {S : SM} (cx : CX p s m args c cX5_doubleBits RX5 7 G S A) (hlk : meth.locks = false) (hr : meth.sig.returnType = some .long) (N : Nat) (x0 : UInt64) (r : Int) : ∀ (y2 : UInt64) (y4 : Int), m_X5_doubleBits_b87 N x0 y2 y4 = some r → ∀ (H : Heap) (locs : List Loc) (ls : Array Slot), HP G A s.heap H locs [] → lv_has ls 7 [(2, .double y2), (4, .long (kL y4))] → W p l e (rmD 1 0 0) s m args below meth c H locs 0 0 (MQ below (QcL G A r []) args s (rmD 1 0 0).cells (rmD 1 0 0).slots A) (F0 m 87 ls []) := by
  intro y2 y4 h H locs ls hw hl
  rw [m_X5_doubleBits_b87] at h
  obtain ⟨⟨hx, hb, -, -, -⟩, -⟩ := id cx
  refine lv_lload hx hb dX5_doubleBits_87 (lv_at hl 1 rfl) ?_
  refine ri_bipush hx hb dX5_doubleBits_89 rfl ?_
  refine ri_lshl (q := 4503599627370496) hx hb ⟨by decide, by decide⟩ rfl dX5_doubleBits_91 ?_
  refine lv_dload_n hx hb dX5_doubleBits_92 rfl (lv_at hl 0 rfl) ?_
  refine lv_dconst1 hx hb dX5_doubleBits_93 ?_
  obtain ⟨g1, h⟩ := gd_some h
  refine lv_dsub hx hb dX5_doubleBits_94 g1 ?_
  refine lv_ldc2d (v := 4841369599423283200) hx hb cx.1.2.2.2.1 (cx.1.2.2.2.2 _ kc_X5_11) dX5_doubleBits_95 ?_
  obtain ⟨g2, h⟩ := gd_some h
  refine lv_dmul hx hb dX5_doubleBits_98 g2 ?_
  refine ri_d2l hx hb dX5_doubleBits_99 ?_
  refine ri_ladd hx hb dX5_doubleBits_100 ?_
  obtain rfl := so_inj h
  exact re_l hx hb hlk hr cx hw (Nat.le_of_ble_eq_true rfl) (Nat.le_of_ble_eq_true rfl) dX5_doubleBits_101
set_option maxHeartbeats 4000000 in
set_option maxRecDepth 100000 in
theorem w_X5_doubleBits_b55 {p : Program} {l : Launch} {e : Env} {s : State} {m : MethodId} {args : Array Value} {below : List Frame} {meth : Method} {c : Code} {A : Nat → Prop} {G : GG} {S : SM} (cx : CX p s m args c cX5_doubleBits RX5 7 G S A) (hlk : meth.locks = false) (hr : meth.sig.returnType = some .long) (N : Nat) (x0 : UInt64) (r : Int) : ∀ n : Nat, PL_X5_doubleBits_b55 p l e s m args below meth c A G S x0 r (m_X5_doubleBits_b55 N x0 n) := by
  intro n
  induction n with
  | zero => intro y2 y4 y6 h; exact nomatch h
  | succ n ih =>
    intro y2 y4 y6 h H locs ls hw hl
    rw [m_X5_doubleBits_b55] at h
    obtain ⟨⟨hx, hb, -, -, -⟩, -⟩ := id cx
    refine lv_iload hx hb dX5_doubleBits_55 (lv_at hl 2 rfl) ?_
    refine ri_sipush hx hb dX5_doubleBits_57 rfl ?_
    obtain ⟨g1, h⟩ := gd_some h
    refine ri_icmp_ge (tgt := 87) hx hb g1 ⟨by decide, by decide⟩ dX5_doubleBits_60 (by decide) (fun c2 => ?_) (fun c2 => ?_)
    · have h := it_pos c2 h
      exact w_X5_doubleBits_b87 cx hlk hr N x0 r y2 y4 h _ _ _ hw (lv_sub hl [0, 1] rfl)
    · have h := it_neg c2 h
      refine lv_dload_n hx hb dX5_doubleBits_63 rfl (lv_at hl 0 rfl) ?_
      refine lv_dconst1 hx hb dX5_doubleBits_64 ?_
      refine ri_dcmp hx hb dX5_doubleBits_65 ?_
      refine ri_if_ge (tgt := 87) hx hb (dcV_r _ _ _) dX5_doubleBits_66 (by decide) (fun c3 => ?_) (fun c3 => ?_)
      · have h := it_pos c3 h
        exact w_X5_doubleBits_b87 cx hlk hr N x0 r y2 y4 h _ _ _ hw (lv_sub hl [0, 1] rfl)
      · have h := it_neg c3 h
        refine lv_dload_n hx hb dX5_doubleBits_69 rfl (lv_at hl 0 rfl) ?_
        refine lv_ldc2d (v := 4611686018427387904) hx hb cx.1.2.2.2.1 (cx.1.2.2.2.2 _ kc_X5_9) dX5_doubleBits_70 ?_
        obtain ⟨g4, h⟩ := gd_some h
        refine lv_dmul hx hb dX5_doubleBits_73 g4 ?_
        refine lv_dstore_n (lv' := [(2, .double (FP.dmul y2 4611686018427387904)), (4, .long (kL y4)), (6, .int (kI y6))]) hx hb dX5_doubleBits_74 rfl hl (by decide) rfl (fun ls hl => ?_)
        refine lv_lload hx hb dX5_doubleBits_75 (lv_at hl 1 rfl) ?_
        refine ri_lconst hx hb 1 dX5_doubleBits_77 rfl ?_
        refine ri_lsub hx hb dX5_doubleBits_78 ?_
        refine lv_lstore (lv' := [(4, .long (kL (y4 - 1))), (2, .double (FP.dmul y2 4611686018427387904)), (6, .int (kI y6))]) hx hb dX5_doubleBits_79 hl (by decide) rfl (fun ls hl => ?_)
        refine lv_iinc (v := kI (y6 + 1)) (lv' := [(6, .int (kI (y6 + 1))), (4, .long (kL (y4 - 1))), (2, .double (FP.dmul y2 4611686018427387904))]) hx hb dX5_doubleBits_81 hl (k := 2) rfl (kI_add _ _) (by decide) rfl (fun ls hl => ?_)
        refine lv_goto (tgt := 55) hx hb dX5_doubleBits_84 (by decide) ?_
        exact ih (FP.dmul y2 4611686018427387904) (y4 - 1) (y6 + 1) h _ _ _ hw (lv_sub hl [2, 1, 0] rfl)
set_option maxHeartbeats 4000000 in
set_option maxRecDepth 100000 in
theorem w_X5_doubleBits_b52 {p : Program} {l : Launch} {e : Env} {s : State} {m : MethodId} {args : Array Value} {below : List Frame} {meth : Method} {c : Code} {A : Nat → Prop} {G : GG} {S : SM} (cx : CX p s m args c cX5_doubleBits RX5 7 G S A) (hlk : meth.locks = false) (hr : meth.sig.returnType = some .long) (N : Nat) (x0 : UInt64) (r : Int) : ∀ (y2 : UInt64) (y4 : Int), m_X5_doubleBits_b52 N x0 y2 y4 = some r → ∀ (H : Heap) (locs : List Loc) (ls : Array Slot), HP G A s.heap H locs [] → lv_has ls 7 [(2, .double y2), (4, .long (kL y4))] → W p l e (rmD 1 0 0) s m args below meth c H locs 0 0 (MQ below (QcL G A r []) args s (rmD 1 0 0).cells (rmD 1 0 0).slots A) (F0 m 52 ls []) := by
  intro y2 y4 h H locs ls hw hl
  rw [m_X5_doubleBits_b52] at h
  obtain ⟨⟨hx, hb, -, -, -⟩, -⟩ := id cx
  refine ri_iconst hx hb dX5_doubleBits_52 ?_
  refine lv_istore (lv' := [(6, .int (kI 0)), (2, .double y2), (4, .long (kL y4))]) hx hb dX5_doubleBits_53 hl (by decide) rfl (fun ls hl => ?_)
  exact w_X5_doubleBits_b55 cx hlk hr N x0 r N y2 y4 0 h _ _ _ hw (lv_sub hl [1, 2, 0] rfl)
set_option maxHeartbeats 4000000 in
set_option maxRecDepth 100000 in
theorem w_X5_doubleBits_b18 {p : Program} {l : Launch} {e : Env} {s : State} {m : MethodId} {args : Array Value} {below : List Frame} {meth : Method} {c : Code} {A : Nat → Prop} {G : GG} {S : SM} (cx : CX p s m args c cX5_doubleBits RX5 7 G S A) (hlk : meth.locks = false) (hr : meth.sig.returnType = some .long) (N : Nat) (x0 : UInt64) (r : Int) : ∀ n : Nat, PL_X5_doubleBits_b18 p l e s m args below meth c A G S x0 r (m_X5_doubleBits_b18 N x0 n) := by
  intro n
  induction n with
  | zero => intro y2 y4 y6 h; exact nomatch h
  | succ n ih =>
    intro y2 y4 y6 h H locs ls hw hl
    rw [m_X5_doubleBits_b18] at h
    obtain ⟨⟨hx, hb, -, -, -⟩, -⟩ := id cx
    refine lv_iload hx hb dX5_doubleBits_18 (lv_at hl 2 rfl) ?_
    refine ri_sipush hx hb dX5_doubleBits_20 rfl ?_
    obtain ⟨g1, h⟩ := gd_some h
    refine ri_icmp_ge (tgt := 52) hx hb g1 ⟨by decide, by decide⟩ dX5_doubleBits_23 (by decide) (fun c2 => ?_) (fun c2 => ?_)
    · have h := it_pos c2 h
      exact w_X5_doubleBits_b52 cx hlk hr N x0 r y2 y4 h _ _ _ hw (lv_sub hl [0, 1] rfl)
    · have h := it_neg c2 h
      refine lv_dload_n hx hb dX5_doubleBits_26 rfl (lv_at hl 0 rfl) ?_
      refine lv_ldc2d (v := 4611686018427387904) hx hb cx.1.2.2.2.1 (cx.1.2.2.2.2 _ kc_X5_9) dX5_doubleBits_27 ?_
      refine ri_dcmp hx hb dX5_doubleBits_30 ?_
      refine ri_if_lt (tgt := 52) hx hb (dcV_r _ _ _) dX5_doubleBits_31 (by decide) (fun c3 => ?_) (fun c3 => ?_)
      · have h := it_pos c3 h
        exact w_X5_doubleBits_b52 cx hlk hr N x0 r y2 y4 h _ _ _ hw (lv_sub hl [0, 1] rfl)
      · have h := it_neg c3 h
        refine lv_dload_n hx hb dX5_doubleBits_34 rfl (lv_at hl 0 rfl) ?_
        refine lv_ldc2d (v := 4611686018427387904) hx hb cx.1.2.2.2.1 (cx.1.2.2.2.2 _ kc_X5_9) dX5_doubleBits_35 ?_
        obtain ⟨g4, h⟩ := gd_some h
        refine lv_ddiv hx hb dX5_doubleBits_38 g4 ?_
        refine lv_dstore_n (lv' := [(2, .double (FP.ddiv y2 4611686018427387904)), (4, .long (kL y4)), (6, .int (kI y6))]) hx hb dX5_doubleBits_39 rfl hl (by decide) rfl (fun ls hl => ?_)
        refine lv_lload hx hb dX5_doubleBits_40 (lv_at hl 1 rfl) ?_
        refine ri_lconst hx hb 1 dX5_doubleBits_42 rfl ?_
        refine ri_ladd hx hb dX5_doubleBits_43 ?_
        refine lv_lstore (lv' := [(4, .long (kL (y4 + 1))), (2, .double (FP.ddiv y2 4611686018427387904)), (6, .int (kI y6))]) hx hb dX5_doubleBits_44 hl (by decide) rfl (fun ls hl => ?_)
        refine lv_iinc (v := kI (y6 + 1)) (lv' := [(6, .int (kI (y6 + 1))), (4, .long (kL (y4 + 1))), (2, .double (FP.ddiv y2 4611686018427387904))]) hx hb dX5_doubleBits_46 hl (k := 2) rfl (kI_add _ _) (by decide) rfl (fun ls hl => ?_)
        refine lv_goto (tgt := 18) hx hb dX5_doubleBits_49 (by decide) ?_
        exact ih (FP.ddiv y2 4611686018427387904) (y4 + 1) (y6 + 1) h _ _ _ hw (lv_sub hl [2, 1, 0] rfl)
set_option maxHeartbeats 4000000 in
set_option maxRecDepth 100000 in
theorem c_X5_doubleBits (l : Launch) (G : GG) (S : SM) (sz : Nat) (N : Nat)  (x0 : UInt64) (r : Int) (h : m_X5_doubleBits N x0 = some r) : CtL l yX5_doubleBits cX5_doubleBits 7 (rmD 1 0 0) G S sz [.double x0] [] r [] := by
  refine met_L (by decide +kernel) (Nat.le_of_ble_eq_true rfl) ?_
  intro p e s m args below meth c A H locs ls cx hw hr hlk hnm hl
  have hl : lv_has ls 7 [(0, .double x0)] := hl
  rw [m_X5_doubleBits] at h
  obtain ⟨⟨hx, hb, -, -, -⟩, -⟩ := id cx
  refine lv_dload_n hx hb dX5_doubleBits_0 rfl (lv_at hl 0 rfl) ?_
  refine lv_dconst0 hx hb dX5_doubleBits_1 ?_
  refine ri_dcmp hx hb dX5_doubleBits_2 ?_
  refine ri_if_gt (tgt := 8) hx hb (dcV_r _ _ _) dX5_doubleBits_3 (by decide) (fun c1 => ?_) (fun c1 => ?_)
  · have h := it_pos c1 h
    refine lv_dload_n hx hb dX5_doubleBits_8 rfl (lv_at hl 0 rfl) ?_
    refine lv_dstore_n (lv' := [(2, .double x0), (0, .double x0)]) hx hb dX5_doubleBits_9 rfl hl (by decide) rfl (fun ls hl => ?_)
    refine lv_ldc2 (v := kL 1023) hx hb cx.1.2.2.2.1 (cx.1.2.2.2.2 _ kc_X5_7) dX5_doubleBits_10 ?_
    refine lv_lstore (lv' := [(4, .long (kL 1023)), (2, .double x0), (0, .double x0)]) hx hb dX5_doubleBits_13 hl (by decide) rfl (fun ls hl => ?_)
    refine ri_iconst hx hb dX5_doubleBits_15 ?_
    refine lv_istore (lv' := [(6, .int (kI 0)), (4, .long (kL 1023)), (2, .double x0), (0, .double x0)]) hx hb dX5_doubleBits_16 hl (by decide) rfl (fun ls hl => ?_)
    exact w_X5_doubleBits_b18 cx hlk hr N x0 r N x0 1023 0 h _ _ _ hw (lv_sub hl [2, 1, 0] rfl)
  · have h := it_neg c1 h
    refine ri_lconst hx hb 0 dX5_doubleBits_6 rfl ?_
    obtain rfl := so_inj h
    exact re_l hx hb hlk hr cx hw (Nat.le_of_ble_eq_true rfl) (Nat.le_of_ble_eq_true rfl) dX5_doubleBits_7
def PL_X5_floatBits_b17 (p : Program) (l : Launch) (e : Env) (s : State) (m : MethodId) (args : Array Value) (below : List Frame) (meth : Method) (c : Code) (A : Nat → Prop) (G : GG) (S : SM) (x0 : UInt32) (r : Int) (kk : UInt32 → Int → Int → Option (Int)) : Prop := ∀ (y1 : UInt32) (y2 : Int) (y4 : Int), kk y1 y2 y4 = some r → ∀ (H : Heap) (locs : List Loc) (ls : Array Slot), HP G A s.heap H locs [] → lv_has ls 5 [(1, .float y1), (2, .long (kL y2)), (4, .int (kI y4))] → W p l e (rmD 1 0 0) s m args below meth c H locs 0 0 (MQ below (QcL G A r []) args s (rmD 1 0 0).cells (rmD 1 0 0).slots A) (F0 m 17 ls [])
set_option maxHeartbeats 4000000 in
set_option maxRecDepth 100000 in
theorem w_X5_floatBits_b44 {p : Program} {l : Launch} {e : Env} {s : State} {m : MethodId} {args : Array Value} {below : List Frame} {meth : Method} {c : Code} {A : Nat → Prop} {G : GG} {S : SM} (cx : CX p s m args c cX5_floatBits RX5 5 G S A) (hlk : meth.locks = false) (hr : meth.sig.returnType = some .long) (N : Nat) (x0 : UInt32) (r : Int) : ∀ (y1 : UInt32) (y2 : Int), m_X5_floatBits_b44 N x0 y1 y2 = some r → ∀ (H : Heap) (locs : List Loc) (ls : Array Slot), HP G A s.heap H locs [] → lv_has ls 5 [(1, .float y1), (2, .long (kL y2))] → W p l e (rmD 1 0 0) s m args below meth c H locs 0 0 (MQ below (QcL G A r []) args s (rmD 1 0 0).cells (rmD 1 0 0).slots A) (F0 m 44 ls []) := by
  intro y1 y2 h H locs ls hw hl
  rw [m_X5_floatBits_b44] at h
  obtain ⟨⟨hx, hb, -, -, -⟩, -⟩ := id cx
  refine lv_lload_n hx hb dX5_floatBits_44 rfl (lv_at hl 1 rfl) ?_
  refine ri_bipush hx hb dX5_floatBits_45 rfl ?_
  refine ri_lshl (q := 8388608) hx hb ⟨by decide, by decide⟩ rfl dX5_floatBits_47 ?_
  refine lv_fload_n hx hb dX5_floatBits_48 rfl (lv_at hl 0 rfl) ?_
  refine lv_fconst1 hx hb dX5_floatBits_49 ?_
  obtain ⟨g1, h⟩ := gd_some h
  refine lv_fsub hx hb dX5_floatBits_50 g1 ?_
  refine lv_ldcf (v := 1258291200) hx hb cx.1.2.2.2.1 (cx.1.2.2.2.2 _ kc_X5_15) dX5_floatBits_51 ?_
  obtain ⟨g2, h⟩ := gd_some h
  refine lv_fmul hx hb dX5_floatBits_53 g2 ?_
  refine ri_f2l hx hb dX5_floatBits_54 ?_
  refine ri_ladd hx hb dX5_floatBits_55 ?_
  obtain rfl := so_inj h
  exact re_l hx hb hlk hr cx hw (Nat.le_of_ble_eq_true rfl) (Nat.le_of_ble_eq_true rfl) dX5_floatBits_56
set_option maxHeartbeats 4000000 in
set_option maxRecDepth 100000 in
theorem w_X5_floatBits_b17 {p : Program} {l : Launch} {e : Env} {s : State} {m : MethodId} {args : Array Value} {below : List Frame} {meth : Method} {c : Code} {A : Nat → Prop} {G : GG} {S : SM} (cx : CX p s m args c cX5_floatBits RX5 5 G S A) (hlk : meth.locks = false) (hr : meth.sig.returnType = some .long) (N : Nat) (x0 : UInt32) (r : Int) : ∀ n : Nat, PL_X5_floatBits_b17 p l e s m args below meth c A G S x0 r (m_X5_floatBits_b17 N x0 n) := by
  intro n
  induction n with
  | zero => intro y1 y2 y4 h; exact nomatch h
  | succ n ih =>
    intro y1 y2 y4 h H locs ls hw hl
    rw [m_X5_floatBits_b17] at h
    obtain ⟨⟨hx, hb, -, -, -⟩, -⟩ := id cx
    refine lv_iload hx hb dX5_floatBits_17 (lv_at hl 2 rfl) ?_
    refine ri_bipush hx hb dX5_floatBits_19 rfl ?_
    obtain ⟨g1, h⟩ := gd_some h
    refine ri_icmp_ge (tgt := 44) hx hb g1 ⟨by decide, by decide⟩ dX5_floatBits_21 (by decide) (fun c2 => ?_) (fun c2 => ?_)
    · have h := it_pos c2 h
      exact w_X5_floatBits_b44 cx hlk hr N x0 r y1 y2 h _ _ _ hw (lv_sub hl [0, 1] rfl)
    · have h := it_neg c2 h
      refine lv_fload_n hx hb dX5_floatBits_24 rfl (lv_at hl 0 rfl) ?_
      refine lv_fconst1 hx hb dX5_floatBits_25 ?_
      refine ri_fcmp hx hb dX5_floatBits_26 ?_
      refine ri_if_ge (tgt := 44) hx hb (fcV_r _ _ _) dX5_floatBits_27 (by decide) (fun c3 => ?_) (fun c3 => ?_)
      · have h := it_pos c3 h
        exact w_X5_floatBits_b44 cx hlk hr N x0 r y1 y2 h _ _ _ hw (lv_sub hl [0, 1] rfl)
      · have h := it_neg c3 h
        refine lv_fload_n hx hb dX5_floatBits_30 rfl (lv_at hl 0 rfl) ?_
        refine lv_fconst2 hx hb dX5_floatBits_31 ?_
        obtain ⟨g4, h⟩ := gd_some h
        refine lv_fmul hx hb dX5_floatBits_32 g4 ?_
        refine lv_fstore_n (lv' := [(1, .float (FP.fmul y1 FP.fconst2)), (2, .long (kL y2)), (4, .int (kI y4))]) hx hb dX5_floatBits_33 rfl hl (by decide) rfl (fun ls hl => ?_)
        refine lv_lload_n hx hb dX5_floatBits_34 rfl (lv_at hl 1 rfl) ?_
        refine ri_lconst hx hb 1 dX5_floatBits_35 rfl ?_
        refine ri_lsub hx hb dX5_floatBits_36 ?_
        refine lv_lstore_n (lv' := [(2, .long (kL (y2 - 1))), (1, .float (FP.fmul y1 FP.fconst2)), (4, .int (kI y4))]) hx hb dX5_floatBits_37 rfl hl (by decide) rfl (fun ls hl => ?_)
        refine lv_iinc (v := kI (y4 + 1)) (lv' := [(4, .int (kI (y4 + 1))), (2, .long (kL (y2 - 1))), (1, .float (FP.fmul y1 FP.fconst2))]) hx hb dX5_floatBits_38 hl (k := 2) rfl (kI_add _ _) (by decide) rfl (fun ls hl => ?_)
        refine lv_goto (tgt := 17) hx hb dX5_floatBits_41 (by decide) ?_
        exact ih (FP.fmul y1 FP.fconst2) (y2 - 1) (y4 + 1) h _ _ _ hw (lv_sub hl [2, 1, 0] rfl)
set_option maxHeartbeats 4000000 in
set_option maxRecDepth 100000 in
theorem c_X5_floatBits (l : Launch) (G : GG) (S : SM) (sz : Nat) (N : Nat)  (x0 : UInt32) (r : Int) (h : m_X5_floatBits N x0 = some r) : CtL l yX5_floatBits cX5_floatBits 5 (rmD 1 0 0) G S sz [.float x0] [] r [] := by
  refine met_L (by decide +kernel) (Nat.le_of_ble_eq_true rfl) ?_
  intro p e s m args below meth c A H locs ls cx hw hr hlk hnm hl
  have hl : lv_has ls 5 [(0, .float x0)] := hl
  rw [m_X5_floatBits] at h
  obtain ⟨⟨hx, hb, -, -, -⟩, -⟩ := id cx
  refine lv_fload_n hx hb dX5_floatBits_0 rfl (lv_at hl 0 rfl) ?_
  refine lv_fconst0 hx hb dX5_floatBits_1 ?_
  refine ri_fcmp hx hb dX5_floatBits_2 ?_
  refine ri_if_gt (tgt := 8) hx hb (fcV_r _ _ _) dX5_floatBits_3 (by decide) (fun c1 => ?_) (fun c1 => ?_)
  · have h := it_pos c1 h
    refine lv_fload_n hx hb dX5_floatBits_8 rfl (lv_at hl 0 rfl) ?_
    refine lv_fstore_n (lv' := [(1, .float x0), (0, .float x0)]) hx hb dX5_floatBits_9 rfl hl (by decide) rfl (fun ls hl => ?_)
    refine lv_ldc2 (v := kL 127) hx hb cx.1.2.2.2.1 (cx.1.2.2.2.2 _ kc_X5_13) dX5_floatBits_10 ?_
    refine lv_lstore_n (lv' := [(2, .long (kL 127)), (1, .float x0), (0, .float x0)]) hx hb dX5_floatBits_13 rfl hl (by decide) rfl (fun ls hl => ?_)
    refine ri_iconst hx hb dX5_floatBits_14 ?_
    refine lv_istore (lv' := [(4, .int (kI 0)), (2, .long (kL 127)), (1, .float x0), (0, .float x0)]) hx hb dX5_floatBits_15 hl (by decide) rfl (fun ls hl => ?_)
    exact w_X5_floatBits_b17 cx hlk hr N x0 r N x0 127 0 h _ _ _ hw (lv_sub hl [2, 1, 0] rfl)
  · have h := it_neg c1 h
    refine ri_lconst hx hb 0 dX5_floatBits_6 rfl ?_
    obtain rfl := so_inj h
    exact re_l hx hb hlk hr cx hw (Nat.le_of_ble_eq_true rfl) (Nat.le_of_ble_eq_true rfl) dX5_floatBits_7
set_option maxHeartbeats 4000000 in
set_option maxRecDepth 100000 in
theorem c_X6_init (l : Launch) (G : GG) (S : SM) (sz : Nat) (N : Nat) (a_t : Nat)   (r : Int × Int × Int × Int × Int × (Int → Int) × (Int → Int) × (Int → Int)) (h : m_X6_init N = some r) : CtVx l yX6_init cX6_init 1 (rmD 1 3 3000) G S sz [.ref a_t] [(a_t, .inr (5, [.null, .null, .null, .int (kI 0), .int (kI 0), .int (kI 0), .int (kI 0), .int (kI 0)]))] (fun u => [(a_t, .inr (5, [.ref (u 0), .ref (u 1), .ref (u 2), .int (kI r.1), .int (kI r.2.1), .int (kI r.2.2.1), .int (kI r.2.2.2.1), .int (kI r.2.2.2.2.1)])), ((u 0), cAI G 1000 r.2.2.2.2.2.1), ((u 1), cAI G 1000 r.2.2.2.2.2.2.1), ((u 2), cAI G 1000 r.2.2.2.2.2.2.2)]) := by
  refine met_Vx (by decide +kernel) (Nat.le_of_ble_eq_true rfl) ?_
  intro p e s m args below meth c A H locs ls cx hw hr hlk hnm hl
  have hl : lv_has ls 1 [(0, .ref a_t)] := hl
  rw [m_X6_init] at h
  obtain ⟨⟨hx, hb, -, -, -⟩, -⟩ := id cx
  refine lv_aload_n hx hb dX6_init_0 rfl (lv_at hl 0 rfl) ?_
  refine ro_init hx hb cx hl.1 jl_X6_3 (Nat.le_of_ble_eq_true rfl) (Nat.le_of_ble_eq_true rfl) dX6_init_1 ?_
  refine lv_aload_n hx hb dX6_init_4 rfl (lv_at hl 0 rfl) ?_
  refine ri_sipush hx hb dX6_init_5 rfl ?_
  refine ra_newI hx hb cx hw ⟨by decide, by decide⟩ (Nat.le_of_ble_eq_true rfl) (Nat.le_of_ble_eq_true rfl) dX6_init_8 (fun q8 H hw => ?_)
  have hw : HP G A s.heap H locs [(a_t, .inr (5, [.null, .null, .null, .int (kI 0), .int (kI 0), .int (kI 0), .int (kI 0), .int (kI 0)])), (q8, cAI G 1000 (fun _ => 0))] := hw
  refine W.widen (k := 1) (n := 1000) (Nat.le_of_ble_eq_true rfl) (Nat.le_of_ble_eq_true rfl) ?_
  refine rf_putF hx hb cx hw 0 rfl rfl 0 inX6 tyX6 tyX6_ok nmX6 (by decide) fl_X6_9 rfl rfl hnm rfl rfl (Nat.le_of_ble_eq_true rfl) dX6_init_10 (fun H locs hw => ?_)
  have hw : HP G A s.heap H locs [(a_t, .inr (5, [.ref q8, .null, .null, .int (kI 0), .int (kI 0), .int (kI 0), .int (kI 0), .int (kI 0)])), (q8, cAI G 1000 (fun _ => 0))] := hw
  refine lv_aload_n hx hb dX6_init_13 rfl (lv_at hl 0 rfl) ?_
  refine ri_sipush hx hb dX6_init_14 rfl ?_
  refine ra_newI hx hb cx hw ⟨by decide, by decide⟩ (Nat.le_of_ble_eq_true rfl) (Nat.le_of_ble_eq_true rfl) dX6_init_17 (fun q17 H hw => ?_)
  have hw : HP G A s.heap H locs [(a_t, .inr (5, [.ref q8, .null, .null, .int (kI 0), .int (kI 0), .int (kI 0), .int (kI 0), .int (kI 0)])), (q8, cAI G 1000 (fun _ => 0)), (q17, cAI G 1000 (fun _ => 0))] := hw
  refine W.widen (k := 2) (n := 2000) (Nat.le_of_ble_eq_true rfl) (Nat.le_of_ble_eq_true rfl) ?_
  refine rf_putF hx hb cx hw 0 rfl rfl 1 inX6 tyX6 tyX6_ok nmX6 (by decide) fl_X6_15 rfl rfl hnm rfl rfl (Nat.le_of_ble_eq_true rfl) dX6_init_19 (fun H locs hw => ?_)
  have hw : HP G A s.heap H locs [(a_t, .inr (5, [.ref q8, .ref q17, .null, .int (kI 0), .int (kI 0), .int (kI 0), .int (kI 0), .int (kI 0)])), (q8, cAI G 1000 (fun _ => 0)), (q17, cAI G 1000 (fun _ => 0))] := hw
  refine lv_aload_n hx hb dX6_init_22 rfl (lv_at hl 0 rfl) ?_
  refine ri_sipush hx hb dX6_init_23 rfl ?_
  refine ra_newI hx hb cx hw ⟨by decide, by decide⟩ (Nat.le_of_ble_eq_true rfl) (Nat.le_of_ble_eq_true rfl) dX6_init_26 (fun q26 H hw => ?_)
  have hw : HP G A s.heap H locs [(a_t, .inr (5, [.ref q8, .ref q17, .null, .int (kI 0), .int (kI 0), .int (kI 0), .int (kI 0), .int (kI 0)])), (q8, cAI G 1000 (fun _ => 0)), (q17, cAI G 1000 (fun _ => 0)), (q26, cAI G 1000 (fun _ => 0))] := hw
  refine W.widen (k := 3) (n := 3000) (Nat.le_of_ble_eq_true rfl) (Nat.le_of_ble_eq_true rfl) ?_
  refine rf_putF hx hb cx hw 0 rfl rfl 2 inX6 tyX6 tyX6_ok nmX6 (by decide) fl_X6_18 rfl rfl hnm rfl rfl (Nat.le_of_ble_eq_true rfl) dX6_init_28 (fun H locs hw => ?_)
  have hw : HP G A s.heap H locs [(a_t, .inr (5, [.ref q8, .ref q17, .ref q26, .int (kI 0), .int (kI 0), .int (kI 0), .int (kI 0), .int (kI 0)])), (q8, cAI G 1000 (fun _ => 0)), (q17, cAI G 1000 (fun _ => 0)), (q26, cAI G 1000 (fun _ => 0))] := hw
  refine lv_aload_n hx hb dX6_init_31 rfl (lv_at hl 0 rfl) ?_
  refine ri_iconst hx hb dX6_init_32 ?_
  refine rf_put hx hb cx hw 0 rfl rfl 3 inX6 tyX6 tyX6_ok nmX6 (by decide) fl_X6_21 rfl rfl rfl rfl (Nat.le_of_ble_eq_true rfl) dX6_init_33 (fun H locs hw => ?_)
  have hw : HP G A s.heap H locs [(a_t, .inr (5, [.ref q8, .ref q17, .ref q26, .int (kI 1), .int (kI 0), .int (kI 0), .int (kI 0), .int (kI 0)])), (q8, cAI G 1000 (fun _ => 0)), (q17, cAI G 1000 (fun _ => 0)), (q26, cAI G 1000 (fun _ => 0))] := hw
  refine lv_aload_n hx hb dX6_init_36 rfl (lv_at hl 0 rfl) ?_
  refine ri_bipush hx hb dX6_init_37 rfl ?_
  refine rf_put hx hb cx hw 0 rfl rfl 4 inX6 tyX6 tyX6_ok nmX6 (by decide) fl_X6_25 rfl rfl rfl rfl (Nat.le_of_ble_eq_true rfl) dX6_init_39 (fun H locs hw => ?_)
  have hw : HP G A s.heap H locs [(a_t, .inr (5, [.ref q8, .ref q17, .ref q26, .int (kI 1), .int (kI 60), .int (kI 0), .int (kI 0), .int (kI 0)])), (q8, cAI G 1000 (fun _ => 0)), (q17, cAI G 1000 (fun _ => 0)), (q26, cAI G 1000 (fun _ => 0))] := hw
  refine lv_aload_n hx hb dX6_init_42 rfl (lv_at hl 0 rfl) ?_
  refine ri_iconst hx hb dX6_init_43 ?_
  refine rf_put hx hb cx hw 0 rfl rfl 5 inX6 tyX6 tyX6_ok nmX6 (by decide) fl_X6_28 rfl rfl rfl rfl (Nat.le_of_ble_eq_true rfl) dX6_init_44 (fun H locs hw => ?_)
  have hw : HP G A s.heap H locs [(a_t, .inr (5, [.ref q8, .ref q17, .ref q26, .int (kI 1), .int (kI 60), .int (kI 1), .int (kI 0), .int (kI 0)])), (q8, cAI G 1000 (fun _ => 0)), (q17, cAI G 1000 (fun _ => 0)), (q26, cAI G 1000 (fun _ => 0))] := hw
  refine lv_aload_n hx hb dX6_init_47 rfl (lv_at hl 0 rfl) ?_
  refine ri_iconst hx hb dX6_init_48 ?_
  refine rf_put hx hb cx hw 0 rfl rfl 6 inX6 tyX6 tyX6_ok nmX6 (by decide) fl_X6_31 rfl rfl rfl rfl (Nat.le_of_ble_eq_true rfl) dX6_init_49 (fun H locs hw => ?_)
  have hw : HP G A s.heap H locs [(a_t, .inr (5, [.ref q8, .ref q17, .ref q26, .int (kI 1), .int (kI 60), .int (kI 1), .int (kI 5), .int (kI 0)])), (q8, cAI G 1000 (fun _ => 0)), (q17, cAI G 1000 (fun _ => 0)), (q26, cAI G 1000 (fun _ => 0))] := hw
  refine lv_aload_n hx hb dX6_init_52 rfl (lv_at hl 0 rfl) ?_
  refine ri_iconst hx hb dX6_init_53 ?_
  refine rf_put hx hb cx hw 0 rfl rfl 7 inX6 tyX6 tyX6_ok nmX6 (by decide) fl_X6_34 rfl rfl rfl rfl (Nat.le_of_ble_eq_true rfl) dX6_init_54 (fun H locs hw => ?_)
  have hw : HP G A s.heap H locs [(a_t, .inr (5, [.ref q8, .ref q17, .ref q26, .int (kI 1), .int (kI 60), .int (kI 1), .int (kI 5), .int (kI 1)])), (q8, cAI G 1000 (fun _ => 0)), (q17, cAI G 1000 (fun _ => 0)), (q26, cAI G 1000 (fun _ => 0))] := hw
  obtain rfl := so_inj h
  exact re_vx (fun i => [q8, q17, q26].getD i 0) hx hb hlk hr cx (HP.re hw [0, 1, 2, 3] rfl rfl rfl) (Nat.le_of_ble_eq_true rfl) (Nat.le_of_ble_eq_true rfl) dX6_init_57
def PL_J7_fill_53178_b5 (p : Program) (l : Launch) (e : Env) (s : State) (m : MethodId) (args : Array Value) (below : List Frame) (meth : Method) (c : Code) (A : Nat → Prop) (G : GG) (S : SM) (a_p0 : Nat) (p0_n : Nat) (x1 : Int) (y3 : Int) (r : (Int → Int)) (kk : (Int → Int) → Int → Option ((Int → Int))) : Prop := ∀ (p0 : Int → Int) (y2 : Int), kk p0 y2 = some r → ∀ (H : Heap) (locs : List Loc) (ls : Array Slot), HP G A s.heap H locs [(a_p0, cAI G p0_n p0)] → lv_has ls 4 [(0, .ref a_p0), (1, .int (kI x1)), (2, .int (kI y2)), (3, .int (kI y3))] → W p l e (rmD 1 0 0) s m args below meth c H locs 0 0 (MQ below (QcV G A [(a_p0, cAI G p0_n r)]) args s (rmD 1 0 0).cells (rmD 1 0 0).slots A) (F0 m 5 ls [])
set_option maxHeartbeats 4000000 in
set_option maxRecDepth 100000 in
theorem w_J7_fill_53178_b5 {p : Program} {l : Launch} {e : Env} {s : State} {m : MethodId} {args : Array Value} {below : List Frame} {meth : Method} {c : Code} {A : Nat → Prop} {G : GG} {S : SM} (cx : CX p s m args c cJ7_fill_53178 RJ7 4 G S A) (hlk : meth.locks = false) (hr : meth.sig.returnType = none) (N : Nat) (a_p0 : Nat) (p0_n : Nat) (x1 : Int) (y3 : Int) (hn_p0 : p0_n < 2147483648) (r : (Int → Int)) : ∀ n : Nat, PL_J7_fill_53178_b5 p l e s m args below meth c A G S a_p0 p0_n x1 y3 r (m_J7_fill_53178_b5 N p0_n x1 y3 n) := by
  intro n
  induction n with
  | zero => intro p0 y2 h; exact nomatch h
  | succ n ih =>
    intro p0 y2 h H locs ls hw hl
    rw [m_J7_fill_53178_b5] at h
    obtain ⟨⟨hx, hb, -, -, -⟩, -⟩ := id cx
    refine lv_iload_n hx hb dJ7_fill_53178_5 rfl (lv_at hl 2 rfl) ?_
    refine lv_iload_n hx hb dJ7_fill_53178_6 rfl (lv_at hl 3 rfl) ?_
    obtain ⟨g1, h⟩ := gd_some h
    obtain ⟨g2, h⟩ := gd_some h
    refine ri_icmp_ge (tgt := 20) hx hb g1 g2 dJ7_fill_53178_7 (by decide) (fun c3 => ?_) (fun c3 => ?_)
    · have h := it_pos c3 h
      obtain rfl := so_inj h
      exact re_v hx hb hlk hr cx hw (Nat.le_of_ble_eq_true rfl) (Nat.le_of_ble_eq_true rfl) dJ7_fill_53178_20
    · have h := it_neg c3 h
      refine lv_aload_n hx hb dJ7_fill_53178_10 rfl (lv_at hl 0 rfl) ?_
      refine lv_iload_n hx hb dJ7_fill_53178_11 rfl (lv_at hl 2 rfl) ?_
      refine lv_iload_n hx hb dJ7_fill_53178_12 rfl (lv_at hl 1 rfl) ?_
      obtain ⟨g4, h⟩ := gd_some h
      refine ra_si hx hb cx hw 0 rfl hn_p0 g4 dJ7_fill_53178_13 (fun H locs hw => ?_)
      have hw : HP G A s.heap H locs [(a_p0, cAI G p0_n (uP p0 y2 x1))] := hw
      refine lv_iinc (v := kI (y2 + 1)) (lv' := [(2, .int (kI (y2 + 1))), (0, .ref a_p0), (1, .int (kI x1)), (3, .int (kI y3))]) hx hb dJ7_fill_53178_14 hl (k := 2) rfl (kI_add _ _) (by decide) rfl (fun ls hl => ?_)
      refine lv_goto (tgt := 5) hx hb dJ7_fill_53178_17 (by decide) ?_
      exact ih (uP p0 y2 x1) (y2 + 1) h _ _ _ hw (lv_sub hl [1, 2, 0, 3] rfl)
set_option maxHeartbeats 4000000 in
set_option maxRecDepth 100000 in
theorem c_J7_fill_53178 (l : Launch) (G : GG) (S : SM) (sz : Nat) (N : Nat) (a_p0 : Nat) (p0 : Int → Int) (p0_n : Nat) (x1 : Int) (hn_p0 : p0_n < 2147483648) (r : (Int → Int)) (h : m_J7_fill_53178 N p0_n p0 x1 = some r) : CtV l yJ7_fill_53178 cJ7_fill_53178 4 (rmD 1 0 0) G S sz [.ref a_p0, .int (kI x1)] [(a_p0, cAI G p0_n p0)] [(a_p0, cAI G p0_n r)] := by
  refine met_V (by decide +kernel) (Nat.le_of_ble_eq_true rfl) ?_
  intro p e s m args below meth c A H locs ls cx hw hr hlk hnm hl
  have hl : lv_has ls 4 [(0, .ref a_p0), (1, .int (kI x1))] := hl
  rw [m_J7_fill_53178] at h
  obtain ⟨⟨hx, hb, -, -, -⟩, -⟩ := id cx
  refine ri_iconst hx hb dJ7_fill_53178_0 ?_
  refine lv_istore_n (lv' := [(2, .int (kI 0)), (0, .ref a_p0), (1, .int (kI x1))]) hx hb dJ7_fill_53178_1 rfl hl (by decide) rfl (fun ls hl => ?_)
  refine lv_aload_n hx hb dJ7_fill_53178_2 rfl (lv_at hl 1 rfl) ?_
  refine ra_len hx hb cx hw 0 rfl dJ7_fill_53178_3 ?_
  refine lv_istore_n (lv' := [(3, .int (kI (p0_n : Int))), (2, .int (kI 0)), (0, .ref a_p0), (1, .int (kI x1))]) hx hb dJ7_fill_53178_4 rfl hl (by decide) rfl (fun ls hl => ?_)
  exact w_J7_fill_53178_b5 cx hlk hr N a_p0 p0_n x1 (p0_n : Int) hn_p0 r N p0 0 h _ _ _ hw (lv_sub hl [2, 3, 1, 0] rfl)
set_option maxHeartbeats 4000000 in
set_option maxRecDepth 100000 in
theorem c_X6_setCosts (l : Launch) (G : GG) (S : SM) (sz : Nat) (N : Nat) (a_t a_t_good a_t_bad a_t_open : Nat) (t_least : Int) (t_most : Int) (t_goodCost : Int) (t_badCost : Int) (t_referCost : Int) (t_good : Int → Int) (t_bad : Int → Int) (t_open : Int → Int) (x1 : Int) (x2 : Int) (x3 : Int) (r : Int × Int × Int) (h : m_X6_setCosts N t_goodCost t_badCost t_referCost x1 x2 x3 = some r) : CtV l yX6_setCosts cX6_setCosts 4 (rmD 1 0 0) G S sz [.ref a_t, .int (kI x1), .int (kI x2), .int (kI x3)] [(a_t, .inr (5, [.ref a_t_good, .ref a_t_bad, .ref a_t_open, .int (kI t_least), .int (kI t_most), .int (kI t_goodCost), .int (kI t_badCost), .int (kI t_referCost)])), (a_t_good, cAI G 1000 t_good), (a_t_bad, cAI G 1000 t_bad), (a_t_open, cAI G 1000 t_open)] [(a_t, .inr (5, [.ref a_t_good, .ref a_t_bad, .ref a_t_open, .int (kI t_least), .int (kI t_most), .int (kI r.1), .int (kI r.2.1), .int (kI r.2.2)])), (a_t_good, cAI G 1000 t_good), (a_t_bad, cAI G 1000 t_bad), (a_t_open, cAI G 1000 t_open)] := by
  refine met_V (by decide +kernel) (Nat.le_of_ble_eq_true rfl) ?_
  intro p e s m args below meth c A H locs ls cx hw hr hlk hnm hl
  have hl : lv_has ls 4 [(0, .ref a_t), (1, .int (kI x1)), (2, .int (kI x2)), (3, .int (kI x3))] := hl
  rw [m_X6_setCosts] at h
  obtain ⟨⟨hx, hb, -, -, -⟩, -⟩ := id cx
  refine lv_aload_n hx hb dX6_setCosts_0 rfl (lv_at hl 0 rfl) ?_
  refine lv_iload_n hx hb dX6_setCosts_1 rfl (lv_at hl 1 rfl) ?_
  refine rf_put hx hb cx hw 0 rfl rfl 5 inX6 tyX6 tyX6_ok nmX6 (by decide) fl_X6_28 rfl rfl rfl rfl (Nat.le_of_ble_eq_true rfl) dX6_setCosts_2 (fun H locs hw => ?_)
  have hw : HP G A s.heap H locs [(a_t, .inr (5, [.ref a_t_good, .ref a_t_bad, .ref a_t_open, .int (kI t_least), .int (kI t_most), .int (kI x1), .int (kI t_badCost), .int (kI t_referCost)])), (a_t_good, cAI G 1000 t_good), (a_t_bad, cAI G 1000 t_bad), (a_t_open, cAI G 1000 t_open)] := hw
  refine lv_aload_n hx hb dX6_setCosts_5 rfl (lv_at hl 0 rfl) ?_
  refine lv_iload_n hx hb dX6_setCosts_6 rfl (lv_at hl 2 rfl) ?_
  refine rf_put hx hb cx hw 0 rfl rfl 6 inX6 tyX6 tyX6_ok nmX6 (by decide) fl_X6_31 rfl rfl rfl rfl (Nat.le_of_ble_eq_true rfl) dX6_setCosts_7 (fun H locs hw => ?_)
  have hw : HP G A s.heap H locs [(a_t, .inr (5, [.ref a_t_good, .ref a_t_bad, .ref a_t_open, .int (kI t_least), .int (kI t_most), .int (kI x1), .int (kI x2), .int (kI t_referCost)])), (a_t_good, cAI G 1000 t_good), (a_t_bad, cAI G 1000 t_bad), (a_t_open, cAI G 1000 t_open)] := hw
  refine lv_aload_n hx hb dX6_setCosts_10 rfl (lv_at hl 0 rfl) ?_
  refine lv_iload_n hx hb dX6_setCosts_11 rfl (lv_at hl 3 rfl) ?_
  refine rf_put hx hb cx hw 0 rfl rfl 7 inX6 tyX6 tyX6_ok nmX6 (by decide) fl_X6_34 rfl rfl rfl rfl (Nat.le_of_ble_eq_true rfl) dX6_setCosts_12 (fun H locs hw => ?_)
  have hw : HP G A s.heap H locs [(a_t, .inr (5, [.ref a_t_good, .ref a_t_bad, .ref a_t_open, .int (kI t_least), .int (kI t_most), .int (kI x1), .int (kI x2), .int (kI x3)])), (a_t_good, cAI G 1000 t_good), (a_t_bad, cAI G 1000 t_bad), (a_t_open, cAI G 1000 t_open)] := hw
  obtain rfl := so_inj h
  exact re_v hx hb hlk hr cx hw (Nat.le_of_ble_eq_true rfl) (Nat.le_of_ble_eq_true rfl) dX6_setCosts_15
def PL_X6_take_b26 (p : Program) (l : Launch) (e : Env) (s : State) (m : MethodId) (args : Array Value) (below : List Frame) (meth : Method) (c : Code) (A : Nat → Prop) (G : GG) (S : SM) (a_t a_t_good a_t_bad a_t_open a_p1 a_p1_score a_p1_good a_p1_bad a_p1_open a_p1_costs : Nat) (p1_ats : Int) (p1_lines : Int) (p1_least : Int) (p1_most : Int) (p1_faultKind : Int) (p1_faultPlace : Int) (p1_toldLines : Int) (p1_kind : Int) (p1_start : Int) (p1_next : Int) (p1_number : Int) (p1_score : Int → Int) (p1_good : Int → Int) (p1_bad : Int → Int) (p1_open : Int → Int) (p1_costs : Int → Int) (t_least : Int) (t_most : Int) (t_goodCost : Int) (t_badCost : Int) (t_referCost : Int) (r : Int × Int × Int × Int × Int × (Int → Int) × (Int → Int) × (Int → Int)) (kk : (Int → Int) → (Int → Int) → (Int → Int) → Int → Option (Int × Int × Int × Int × Int × (Int → Int) × (Int → Int) × (Int → Int))) : Prop := ∀ (t_good : Int → Int) (t_bad : Int → Int) (t_open : Int → Int) (y2 : Int), kk t_good t_bad t_open y2 = some r → ∀ (H : Heap) (locs : List Loc) (ls : Array Slot), HP G A s.heap H locs [(a_t, .inr (5, [.ref a_t_good, .ref a_t_bad, .ref a_t_open, .int (kI t_least), .int (kI t_most), .int (kI t_goodCost), .int (kI t_badCost), .int (kI t_referCost)])), (a_t_good, cAI G 1000 t_good), (a_t_bad, cAI G 1000 t_bad), (a_t_open, cAI G 1000 t_open), (a_p1, .inr (6, [.ref a_p1_score, .ref a_p1_good, .ref a_p1_bad, .ref a_p1_open, .ref a_p1_costs, .int (kI p1_ats), .int (kI p1_lines), .int (kI p1_least), .int (kI p1_most), .int (kI p1_faultKind), .int (kI p1_faultPlace), .int (kI p1_toldLines), .int (kI p1_kind), .int (kI p1_start), .int (kI p1_next), .int (kI p1_number)])), (a_p1_score, cAI G 60 p1_score), (a_p1_good, cAI G 60 p1_good), (a_p1_bad, cAI G 60 p1_bad), (a_p1_open, cAI G 60 p1_open), (a_p1_costs, cAI G 3 p1_costs)] → lv_has ls 4 [(0, .ref a_t), (1, .ref a_p1), (2, .int (kI y2))] → W p l e (rmD 2 0 0) s m args below meth c H locs 0 0 (MQ below (QcV G A [(a_t, .inr (5, [.ref a_t_good, .ref a_t_bad, .ref a_t_open, .int (kI r.1), .int (kI r.2.1), .int (kI r.2.2.1), .int (kI r.2.2.2.1), .int (kI r.2.2.2.2.1)])), (a_t_good, cAI G 1000 r.2.2.2.2.2.1), (a_t_bad, cAI G 1000 r.2.2.2.2.2.2.1), (a_t_open, cAI G 1000 r.2.2.2.2.2.2.2), (a_p1, .inr (6, [.ref a_p1_score, .ref a_p1_good, .ref a_p1_bad, .ref a_p1_open, .ref a_p1_costs, .int (kI p1_ats), .int (kI p1_lines), .int (kI p1_least), .int (kI p1_most), .int (kI p1_faultKind), .int (kI p1_faultPlace), .int (kI p1_toldLines), .int (kI p1_kind), .int (kI p1_start), .int (kI p1_next), .int (kI p1_number)])), (a_p1_score, cAI G 60 p1_score), (a_p1_good, cAI G 60 p1_good), (a_p1_bad, cAI G 60 p1_bad), (a_p1_open, cAI G 60 p1_open), (a_p1_costs, cAI G 3 p1_costs)]) args s (rmD 2 0 0).cells (rmD 2 0 0).slots A) (F0 m 26 ls [])
set_option maxHeartbeats 4000000 in
set_option maxRecDepth 100000 in
theorem w_X6_take_b26 {p : Program} {l : Launch} {e : Env} {s : State} {m : MethodId} {args : Array Value} {below : List Frame} {meth : Method} {c : Code} {A : Nat → Prop} {G : GG} {S : SM} (cx : CX p s m args c cX6_take RX6 4 G S A) (hlk : meth.locks = false) (hr : meth.sig.returnType = none) (N : Nat) (a_t a_t_good a_t_bad a_t_open a_p1 a_p1_score a_p1_good a_p1_bad a_p1_open a_p1_costs : Nat) (p1_ats : Int) (p1_lines : Int) (p1_least : Int) (p1_most : Int) (p1_faultKind : Int) (p1_faultPlace : Int) (p1_toldLines : Int) (p1_kind : Int) (p1_start : Int) (p1_next : Int) (p1_number : Int) (p1_score : Int → Int) (p1_good : Int → Int) (p1_bad : Int → Int) (p1_open : Int → Int) (p1_costs : Int → Int) (t_least : Int) (t_most : Int) (t_goodCost : Int) (t_badCost : Int) (t_referCost : Int) (r : Int × Int × Int × Int × Int × (Int → Int) × (Int → Int) × (Int → Int)) : ∀ n : Nat, PL_X6_take_b26 p l e s m args below meth c A G S a_t a_t_good a_t_bad a_t_open a_p1 a_p1_score a_p1_good a_p1_bad a_p1_open a_p1_costs p1_ats p1_lines p1_least p1_most p1_faultKind p1_faultPlace p1_toldLines p1_kind p1_start p1_next p1_number p1_score p1_good p1_bad p1_open p1_costs t_least t_most t_goodCost t_badCost t_referCost r (m_X6_take_b26 N p1_ats p1_least p1_most p1_score p1_good p1_bad p1_open p1_costs t_least t_most t_goodCost t_badCost t_referCost n) := by
  intro n
  induction n with
  | zero => intro t_good t_bad t_open y2 h; exact nomatch h
  | succ n ih =>
    intro t_good t_bad t_open y2 h H locs ls hw hl
    rw [m_X6_take_b26] at h
    obtain ⟨⟨hx, hb, -, -, -⟩, -⟩ := id cx
    refine lv_iload_n hx hb dX6_take_26 rfl (lv_at hl 2 rfl) ?_
    refine lv_aload_n hx hb dX6_take_27 rfl (lv_at hl 1 rfl) ?_
    refine rf_get hx hb cx hw 4 rfl rfl 5 inX7 (by decide) fl_X6_43 rfl rfl dX6_take_28 ?_
    obtain ⟨g1, h⟩ := gd_some h
    obtain ⟨g2, h⟩ := gd_some h
    refine ri_icmp_ge (tgt := 83) hx hb g1 g2 dX6_take_31 (by decide) (fun c3 => ?_) (fun c3 => ?_)
    · have h := it_pos c3 h
      refine lv_aload_n hx hb dX6_take_83 rfl (lv_at hl 0 rfl) ?_
      refine lv_aload_n hx hb dX6_take_84 rfl (lv_at hl 1 rfl) ?_
      refine rf_get hx hb cx hw 4 rfl rfl 7 inX7 (by decide) fl_X6_54 rfl rfl dX6_take_85 ?_
      refine rf_put hx hb cx hw 0 rfl rfl 3 inX6 tyX6 tyX6_ok nmX6 (by decide) fl_X6_21 rfl rfl rfl rfl (Nat.le_of_ble_eq_true rfl) dX6_take_88 (fun H locs hw => ?_)
      have hw : HP G A s.heap H locs [(a_t, .inr (5, [.ref a_t_good, .ref a_t_bad, .ref a_t_open, .int (kI p1_least), .int (kI t_most), .int (kI t_goodCost), .int (kI t_badCost), .int (kI t_referCost)])), (a_t_good, cAI G 1000 t_good), (a_t_bad, cAI G 1000 t_bad), (a_t_open, cAI G 1000 t_open), (a_p1, .inr (6, [.ref a_p1_score, .ref a_p1_good, .ref a_p1_bad, .ref a_p1_open, .ref a_p1_costs, .int (kI p1_ats), .int (kI p1_lines), .int (kI p1_least), .int (kI p1_most), .int (kI p1_faultKind), .int (kI p1_faultPlace), .int (kI p1_toldLines), .int (kI p1_kind), .int (kI p1_start), .int (kI p1_next), .int (kI p1_number)])), (a_p1_score, cAI G 60 p1_score), (a_p1_good, cAI G 60 p1_good), (a_p1_bad, cAI G 60 p1_bad), (a_p1_open, cAI G 60 p1_open), (a_p1_costs, cAI G 3 p1_costs)] := hw
      refine lv_aload_n hx hb dX6_take_91 rfl (lv_at hl 0 rfl) ?_
      refine lv_aload_n hx hb dX6_take_92 rfl (lv_at hl 1 rfl) ?_
      refine rf_get hx hb cx hw 4 rfl rfl 8 inX7 (by decide) fl_X6_55 rfl rfl dX6_take_93 ?_
      refine rf_put hx hb cx hw 0 rfl rfl 4 inX6 tyX6 tyX6_ok nmX6 (by decide) fl_X6_25 rfl rfl rfl rfl (Nat.le_of_ble_eq_true rfl) dX6_take_96 (fun H locs hw => ?_)
      have hw : HP G A s.heap H locs [(a_t, .inr (5, [.ref a_t_good, .ref a_t_bad, .ref a_t_open, .int (kI p1_least), .int (kI p1_most), .int (kI t_goodCost), .int (kI t_badCost), .int (kI t_referCost)])), (a_t_good, cAI G 1000 t_good), (a_t_bad, cAI G 1000 t_bad), (a_t_open, cAI G 1000 t_open), (a_p1, .inr (6, [.ref a_p1_score, .ref a_p1_good, .ref a_p1_bad, .ref a_p1_open, .ref a_p1_costs, .int (kI p1_ats), .int (kI p1_lines), .int (kI p1_least), .int (kI p1_most), .int (kI p1_faultKind), .int (kI p1_faultPlace), .int (kI p1_toldLines), .int (kI p1_kind), .int (kI p1_start), .int (kI p1_next), .int (kI p1_number)])), (a_p1_score, cAI G 60 p1_score), (a_p1_good, cAI G 60 p1_good), (a_p1_bad, cAI G 60 p1_bad), (a_p1_open, cAI G 60 p1_open), (a_p1_costs, cAI G 3 p1_costs)] := hw
      refine lv_aload_n hx hb dX6_take_99 rfl (lv_at hl 0 rfl) ?_
      refine lv_aload_n hx hb dX6_take_100 rfl (lv_at hl 1 rfl) ?_
      refine rf_get hx hb cx hw 4 rfl rfl 4 inX7 (by decide) fl_X6_56 rfl rfl dX6_take_101 ?_
      refine ri_iconst hx hb dX6_take_104 ?_
      refine ra_i hx hb cx hw 9 rfl (by decide) ⟨by decide, by decide⟩ dX6_take_105 ?_
      refine lv_aload_n hx hb dX6_take_106 rfl (lv_at hl 1 rfl) ?_
      refine rf_get hx hb cx hw 4 rfl rfl 4 inX7 (by decide) fl_X6_56 rfl rfl dX6_take_107 ?_
      refine ri_iconst hx hb dX6_take_110 ?_
      refine ra_i hx hb cx hw 9 rfl (by decide) ⟨by decide, by decide⟩ dX6_take_111 ?_
      refine lv_aload_n hx hb dX6_take_112 rfl (lv_at hl 1 rfl) ?_
      refine rf_get hx hb cx hw 4 rfl rfl 4 inX7 (by decide) fl_X6_56 rfl rfl dX6_take_113 ?_
      refine ri_iconst hx hb dX6_take_116 ?_
      refine ra_i hx hb cx hw 9 rfl (by decide) ⟨by decide, by decide⟩ dX6_take_117 ?_
      obtain ⟨r4, h4, h⟩ := bd_some h
      refine rc_V (w2 := [(a_t, .inr (5, [.ref a_t_good, .ref a_t_bad, .ref a_t_open, .int (kI p1_least), .int (kI p1_most), .int (kI r4.1), .int (kI r4.2.1), .int (kI r4.2.2)])), (a_t_good, cAI G 1000 t_good), (a_t_bad, cAI G 1000 t_bad), (a_t_open, cAI G 1000 t_open), (a_p1, .inr (6, [.ref a_p1_score, .ref a_p1_good, .ref a_p1_bad, .ref a_p1_open, .ref a_p1_costs, .int (kI p1_ats), .int (kI p1_lines), .int (kI p1_least), .int (kI p1_most), .int (kI p1_faultKind), .int (kI p1_faultPlace), .int (kI p1_toldLines), .int (kI p1_kind), .int (kI p1_start), .int (kI p1_next), .int (kI p1_number)])), (a_p1_score, cAI G 60 p1_score), (a_p1_good, cAI G 60 p1_good), (a_p1_bad, cAI G 60 p1_bad), (a_p1_open, cAI G 60 p1_open), (a_p1_costs, cAI G 3 p1_costs)]) hw [0, 1, 2, 3] [4, 5, 6, 7, 8, 9] [6, 7, 8, 9, 0, 1, 2, 3, 4, 5] (rr_V cx hw (c_X6_setCosts l G S H.size N a_t a_t_good a_t_bad a_t_open p1_least p1_most t_goodCost t_badCost t_referCost t_good t_bad t_open (p1_costs 0) (p1_costs 1) (p1_costs 2) _ h4) mv_X6_59 [0, 1, 2, 3] rfl rfl rfl 0 rfl rfl ⟨Nat.le_of_ble_eq_true rfl, Nat.le_of_ble_eq_true rfl⟩ rfl hl.1 rfl (Nat.le_of_ble_eq_true rfl) dX6_take_118 ⟨Nat.le_of_ble_eq_true rfl, Nat.le_of_ble_eq_true rfl⟩) rfl rfl rfl rfl rfl rfl rfl rfl (fun H locs hw => ?_)
      obtain rfl := so_inj h
      exact re_v hx hb hlk hr cx hw (Nat.le_of_ble_eq_true rfl) (Nat.le_of_ble_eq_true rfl) dX6_take_121
    · have h := it_neg c3 h
      refine lv_aload_n hx hb dX6_take_34 rfl (lv_at hl 1 rfl) ?_
      refine rf_get hx hb cx hw 4 rfl rfl 0 inX7 (by decide) fl_X6_48 rfl rfl dX6_take_35 ?_
      refine lv_iload_n hx hb dX6_take_38 rfl (lv_at hl 2 rfl) ?_
      obtain ⟨g5, h⟩ := gd_some h
      refine ra_i hx hb cx hw 5 rfl (by decide) g5 dX6_take_39 ?_
      refine lv_istore_n (lv' := [(3, .int (kI (p1_score y2))), (0, .ref a_t), (1, .ref a_p1), (2, .int (kI y2))]) hx hb dX6_take_40 rfl hl (by decide) rfl (fun ls hl => ?_)
      refine lv_aload_n hx hb dX6_take_41 rfl (lv_at hl 1 rfl) ?_
      refine rf_get hx hb cx hw 0 rfl rfl 0 inX6 (by decide) fl_X6_9 rfl rfl dX6_take_42 ?_
      refine lv_iload_n hx hb dX6_take_45 rfl (lv_at hl 0 rfl) ?_
      refine lv_aload_n hx hb dX6_take_46 rfl (lv_at hl 2 rfl) ?_
      refine rf_get hx hb cx hw 4 rfl rfl 1 inX7 (by decide) fl_X6_51 rfl rfl dX6_take_47 ?_
      refine lv_iload_n hx hb dX6_take_50 rfl (lv_at hl 3 rfl) ?_
      refine ra_i hx hb cx hw 6 rfl (by decide) g5 dX6_take_51 ?_
      obtain ⟨g6, h⟩ := gd_some h
      refine ra_si hx hb cx hw 1 rfl (by decide) g6 dX6_take_52 (fun H locs hw => ?_)
      have hw : HP G A s.heap H locs [(a_t, .inr (5, [.ref a_t_good, .ref a_t_bad, .ref a_t_open, .int (kI t_least), .int (kI t_most), .int (kI t_goodCost), .int (kI t_badCost), .int (kI t_referCost)])), (a_t_good, cAI G 1000 (uP t_good (p1_score y2) (p1_good y2))), (a_t_bad, cAI G 1000 t_bad), (a_t_open, cAI G 1000 t_open), (a_p1, .inr (6, [.ref a_p1_score, .ref a_p1_good, .ref a_p1_bad, .ref a_p1_open, .ref a_p1_costs, .int (kI p1_ats), .int (kI p1_lines), .int (kI p1_least), .int (kI p1_most), .int (kI p1_faultKind), .int (kI p1_faultPlace), .int (kI p1_toldLines), .int (kI p1_kind), .int (kI p1_start), .int (kI p1_next), .int (kI p1_number)])), (a_p1_score, cAI G 60 p1_score), (a_p1_good, cAI G 60 p1_good), (a_p1_bad, cAI G 60 p1_bad), (a_p1_open, cAI G 60 p1_open), (a_p1_costs, cAI G 3 p1_costs)] := hw
      refine lv_aload_n hx hb dX6_take_53 rfl (lv_at hl 1 rfl) ?_
      refine rf_get hx hb cx hw 0 rfl rfl 1 inX6 (by decide) fl_X6_15 rfl rfl dX6_take_54 ?_
      refine lv_iload_n hx hb dX6_take_57 rfl (lv_at hl 0 rfl) ?_
      refine lv_aload_n hx hb dX6_take_58 rfl (lv_at hl 2 rfl) ?_
      refine rf_get hx hb cx hw 4 rfl rfl 2 inX7 (by decide) fl_X6_52 rfl rfl dX6_take_59 ?_
      refine lv_iload_n hx hb dX6_take_62 rfl (lv_at hl 3 rfl) ?_
      refine ra_i hx hb cx hw 7 rfl (by decide) g5 dX6_take_63 ?_
      refine ra_si hx hb cx hw 2 rfl (by decide) g6 dX6_take_64 (fun H locs hw => ?_)
      have hw : HP G A s.heap H locs [(a_t, .inr (5, [.ref a_t_good, .ref a_t_bad, .ref a_t_open, .int (kI t_least), .int (kI t_most), .int (kI t_goodCost), .int (kI t_badCost), .int (kI t_referCost)])), (a_t_good, cAI G 1000 (uP t_good (p1_score y2) (p1_good y2))), (a_t_bad, cAI G 1000 (uP t_bad (p1_score y2) (p1_bad y2))), (a_t_open, cAI G 1000 t_open), (a_p1, .inr (6, [.ref a_p1_score, .ref a_p1_good, .ref a_p1_bad, .ref a_p1_open, .ref a_p1_costs, .int (kI p1_ats), .int (kI p1_lines), .int (kI p1_least), .int (kI p1_most), .int (kI p1_faultKind), .int (kI p1_faultPlace), .int (kI p1_toldLines), .int (kI p1_kind), .int (kI p1_start), .int (kI p1_next), .int (kI p1_number)])), (a_p1_score, cAI G 60 p1_score), (a_p1_good, cAI G 60 p1_good), (a_p1_bad, cAI G 60 p1_bad), (a_p1_open, cAI G 60 p1_open), (a_p1_costs, cAI G 3 p1_costs)] := hw
      refine lv_aload_n hx hb dX6_take_65 rfl (lv_at hl 1 rfl) ?_
      refine rf_get hx hb cx hw 0 rfl rfl 2 inX6 (by decide) fl_X6_18 rfl rfl dX6_take_66 ?_
      refine lv_iload_n hx hb dX6_take_69 rfl (lv_at hl 0 rfl) ?_
      refine lv_aload_n hx hb dX6_take_70 rfl (lv_at hl 2 rfl) ?_
      refine rf_get hx hb cx hw 4 rfl rfl 3 inX7 (by decide) fl_X6_53 rfl rfl dX6_take_71 ?_
      refine lv_iload_n hx hb dX6_take_74 rfl (lv_at hl 3 rfl) ?_
      refine ra_i hx hb cx hw 8 rfl (by decide) g5 dX6_take_75 ?_
      refine ra_si hx hb cx hw 3 rfl (by decide) g6 dX6_take_76 (fun H locs hw => ?_)
      have hw : HP G A s.heap H locs [(a_t, .inr (5, [.ref a_t_good, .ref a_t_bad, .ref a_t_open, .int (kI t_least), .int (kI t_most), .int (kI t_goodCost), .int (kI t_badCost), .int (kI t_referCost)])), (a_t_good, cAI G 1000 (uP t_good (p1_score y2) (p1_good y2))), (a_t_bad, cAI G 1000 (uP t_bad (p1_score y2) (p1_bad y2))), (a_t_open, cAI G 1000 (uP t_open (p1_score y2) (p1_open y2))), (a_p1, .inr (6, [.ref a_p1_score, .ref a_p1_good, .ref a_p1_bad, .ref a_p1_open, .ref a_p1_costs, .int (kI p1_ats), .int (kI p1_lines), .int (kI p1_least), .int (kI p1_most), .int (kI p1_faultKind), .int (kI p1_faultPlace), .int (kI p1_toldLines), .int (kI p1_kind), .int (kI p1_start), .int (kI p1_next), .int (kI p1_number)])), (a_p1_score, cAI G 60 p1_score), (a_p1_good, cAI G 60 p1_good), (a_p1_bad, cAI G 60 p1_bad), (a_p1_open, cAI G 60 p1_open), (a_p1_costs, cAI G 3 p1_costs)] := hw
      refine lv_iinc (v := kI (y2 + 1)) (lv' := [(2, .int (kI (y2 + 1))), (3, .int (kI (p1_score y2))), (0, .ref a_t), (1, .ref a_p1)]) hx hb dX6_take_77 hl (k := 3) rfl (kI_add _ _) (by decide) rfl (fun ls hl => ?_)
      refine lv_goto (tgt := 26) hx hb dX6_take_80 (by decide) ?_
      exact ih (uP t_good (p1_score y2) (p1_good y2)) (uP t_bad (p1_score y2) (p1_bad y2)) (uP t_open (p1_score y2) (p1_open y2)) (y2 + 1) h _ _ _ hw (lv_sub hl [2, 3, 0] rfl)
set_option maxHeartbeats 4000000 in
set_option maxRecDepth 100000 in
theorem c_X6_take (l : Launch) (G : GG) (S : SM) (sz : Nat) (N : Nat) (a_t a_t_good a_t_bad a_t_open a_p1 a_p1_score a_p1_good a_p1_bad a_p1_open a_p1_costs : Nat) (t_least : Int) (t_most : Int) (t_goodCost : Int) (t_badCost : Int) (t_referCost : Int) (t_good : Int → Int) (t_bad : Int → Int) (t_open : Int → Int) (p1_ats : Int) (p1_lines : Int) (p1_least : Int) (p1_most : Int) (p1_faultKind : Int) (p1_faultPlace : Int) (p1_toldLines : Int) (p1_kind : Int) (p1_start : Int) (p1_next : Int) (p1_number : Int) (p1_score : Int → Int) (p1_good : Int → Int) (p1_bad : Int → Int) (p1_open : Int → Int) (p1_costs : Int → Int)  (r : Int × Int × Int × Int × Int × (Int → Int) × (Int → Int) × (Int → Int)) (h : m_X6_take N p1_ats p1_least p1_most p1_score p1_good p1_bad p1_open p1_costs t_least t_most t_goodCost t_badCost t_referCost t_good t_bad t_open = some r) : CtV l yX6_take cX6_take 4 (rmD 2 0 0) G S sz [.ref a_t, .ref a_p1] [(a_t, .inr (5, [.ref a_t_good, .ref a_t_bad, .ref a_t_open, .int (kI t_least), .int (kI t_most), .int (kI t_goodCost), .int (kI t_badCost), .int (kI t_referCost)])), (a_t_good, cAI G 1000 t_good), (a_t_bad, cAI G 1000 t_bad), (a_t_open, cAI G 1000 t_open), (a_p1, .inr (6, [.ref a_p1_score, .ref a_p1_good, .ref a_p1_bad, .ref a_p1_open, .ref a_p1_costs, .int (kI p1_ats), .int (kI p1_lines), .int (kI p1_least), .int (kI p1_most), .int (kI p1_faultKind), .int (kI p1_faultPlace), .int (kI p1_toldLines), .int (kI p1_kind), .int (kI p1_start), .int (kI p1_next), .int (kI p1_number)])), (a_p1_score, cAI G 60 p1_score), (a_p1_good, cAI G 60 p1_good), (a_p1_bad, cAI G 60 p1_bad), (a_p1_open, cAI G 60 p1_open), (a_p1_costs, cAI G 3 p1_costs)] [(a_t, .inr (5, [.ref a_t_good, .ref a_t_bad, .ref a_t_open, .int (kI r.1), .int (kI r.2.1), .int (kI r.2.2.1), .int (kI r.2.2.2.1), .int (kI r.2.2.2.2.1)])), (a_t_good, cAI G 1000 r.2.2.2.2.2.1), (a_t_bad, cAI G 1000 r.2.2.2.2.2.2.1), (a_t_open, cAI G 1000 r.2.2.2.2.2.2.2), (a_p1, .inr (6, [.ref a_p1_score, .ref a_p1_good, .ref a_p1_bad, .ref a_p1_open, .ref a_p1_costs, .int (kI p1_ats), .int (kI p1_lines), .int (kI p1_least), .int (kI p1_most), .int (kI p1_faultKind), .int (kI p1_faultPlace), .int (kI p1_toldLines), .int (kI p1_kind), .int (kI p1_start), .int (kI p1_next), .int (kI p1_number)])), (a_p1_score, cAI G 60 p1_score), (a_p1_good, cAI G 60 p1_good), (a_p1_bad, cAI G 60 p1_bad), (a_p1_open, cAI G 60 p1_open), (a_p1_costs, cAI G 3 p1_costs)] := by
  refine met_V (by decide +kernel) (Nat.le_of_ble_eq_true rfl) ?_
  intro p e s m args below meth c A H locs ls cx hw hr hlk hnm hl
  have hl : lv_has ls 4 [(0, .ref a_t), (1, .ref a_p1)] := hl
  rw [m_X6_take] at h
  obtain ⟨⟨hx, hb, -, -, -⟩, -⟩ := id cx
  refine lv_aload_n hx hb dX6_take_0 rfl (lv_at hl 0 rfl) ?_
  refine rf_get hx hb cx hw 0 rfl rfl 0 inX6 (by decide) fl_X6_9 rfl rfl dX6_take_1 ?_
  refine ri_iconst hx hb dX6_take_4 ?_
  obtain ⟨r1, h1, h⟩ := bd_some h
  refine rc_V (w2 := [(a_t, .inr (5, [.ref a_t_good, .ref a_t_bad, .ref a_t_open, .int (kI t_least), .int (kI t_most), .int (kI t_goodCost), .int (kI t_badCost), .int (kI t_referCost)])), (a_t_good, cAI G 1000 r1), (a_t_bad, cAI G 1000 t_bad), (a_t_open, cAI G 1000 t_open), (a_p1, .inr (6, [.ref a_p1_score, .ref a_p1_good, .ref a_p1_bad, .ref a_p1_open, .ref a_p1_costs, .int (kI p1_ats), .int (kI p1_lines), .int (kI p1_least), .int (kI p1_most), .int (kI p1_faultKind), .int (kI p1_faultPlace), .int (kI p1_toldLines), .int (kI p1_kind), .int (kI p1_start), .int (kI p1_next), .int (kI p1_number)])), (a_p1_score, cAI G 60 p1_score), (a_p1_good, cAI G 60 p1_good), (a_p1_bad, cAI G 60 p1_bad), (a_p1_open, cAI G 60 p1_open), (a_p1_costs, cAI G 3 p1_costs)]) hw [1] [0, 2, 3, 4, 5, 6, 7, 8, 9] [0, 9, 1, 2, 3, 4, 5, 6, 7, 8] (rr_S cx hw (c_J7_fill_53178 l G S H.size N a_t_good t_good 1000 0 (by decide) _ h1) mv_X6_37 [1] rfl rfl rfl ⟨Nat.le_of_ble_eq_true rfl, Nat.le_of_ble_eq_true rfl⟩ rfl hl.1 rfl (Nat.le_of_ble_eq_true rfl) dX6_take_5 ⟨Nat.le_of_ble_eq_true rfl, Nat.le_of_ble_eq_true rfl⟩) rfl rfl rfl rfl rfl rfl rfl rfl (fun H locs hw => ?_)
  refine lv_aload_n hx hb dX6_take_8 rfl (lv_at hl 0 rfl) ?_
  refine rf_get hx hb cx hw 0 rfl rfl 1 inX6 (by decide) fl_X6_15 rfl rfl dX6_take_9 ?_
  refine ri_iconst hx hb dX6_take_12 ?_
  obtain ⟨r2, h2, h⟩ := bd_some h
  refine rc_V (w2 := [(a_t, .inr (5, [.ref a_t_good, .ref a_t_bad, .ref a_t_open, .int (kI t_least), .int (kI t_most), .int (kI t_goodCost), .int (kI t_badCost), .int (kI t_referCost)])), (a_t_good, cAI G 1000 r1), (a_t_bad, cAI G 1000 r2), (a_t_open, cAI G 1000 t_open), (a_p1, .inr (6, [.ref a_p1_score, .ref a_p1_good, .ref a_p1_bad, .ref a_p1_open, .ref a_p1_costs, .int (kI p1_ats), .int (kI p1_lines), .int (kI p1_least), .int (kI p1_most), .int (kI p1_faultKind), .int (kI p1_faultPlace), .int (kI p1_toldLines), .int (kI p1_kind), .int (kI p1_start), .int (kI p1_next), .int (kI p1_number)])), (a_p1_score, cAI G 60 p1_score), (a_p1_good, cAI G 60 p1_good), (a_p1_bad, cAI G 60 p1_bad), (a_p1_open, cAI G 60 p1_open), (a_p1_costs, cAI G 3 p1_costs)]) hw [2] [0, 1, 3, 4, 5, 6, 7, 8, 9] [0, 1, 9, 2, 3, 4, 5, 6, 7, 8] (rr_S cx hw (c_J7_fill_53178 l G S H.size N a_t_bad t_bad 1000 0 (by decide) _ h2) mv_X6_37 [2] rfl rfl rfl ⟨Nat.le_of_ble_eq_true rfl, Nat.le_of_ble_eq_true rfl⟩ rfl hl.1 rfl (Nat.le_of_ble_eq_true rfl) dX6_take_13 ⟨Nat.le_of_ble_eq_true rfl, Nat.le_of_ble_eq_true rfl⟩) rfl rfl rfl rfl rfl rfl rfl rfl (fun H locs hw => ?_)
  refine lv_aload_n hx hb dX6_take_16 rfl (lv_at hl 0 rfl) ?_
  refine rf_get hx hb cx hw 0 rfl rfl 2 inX6 (by decide) fl_X6_18 rfl rfl dX6_take_17 ?_
  refine ri_iconst hx hb dX6_take_20 ?_
  obtain ⟨r3, h3, h⟩ := bd_some h
  refine rc_V (w2 := [(a_t, .inr (5, [.ref a_t_good, .ref a_t_bad, .ref a_t_open, .int (kI t_least), .int (kI t_most), .int (kI t_goodCost), .int (kI t_badCost), .int (kI t_referCost)])), (a_t_good, cAI G 1000 r1), (a_t_bad, cAI G 1000 r2), (a_t_open, cAI G 1000 r3), (a_p1, .inr (6, [.ref a_p1_score, .ref a_p1_good, .ref a_p1_bad, .ref a_p1_open, .ref a_p1_costs, .int (kI p1_ats), .int (kI p1_lines), .int (kI p1_least), .int (kI p1_most), .int (kI p1_faultKind), .int (kI p1_faultPlace), .int (kI p1_toldLines), .int (kI p1_kind), .int (kI p1_start), .int (kI p1_next), .int (kI p1_number)])), (a_p1_score, cAI G 60 p1_score), (a_p1_good, cAI G 60 p1_good), (a_p1_bad, cAI G 60 p1_bad), (a_p1_open, cAI G 60 p1_open), (a_p1_costs, cAI G 3 p1_costs)]) hw [3] [0, 1, 2, 4, 5, 6, 7, 8, 9] [0, 1, 2, 9, 3, 4, 5, 6, 7, 8] (rr_S cx hw (c_J7_fill_53178 l G S H.size N a_t_open t_open 1000 0 (by decide) _ h3) mv_X6_37 [3] rfl rfl rfl ⟨Nat.le_of_ble_eq_true rfl, Nat.le_of_ble_eq_true rfl⟩ rfl hl.1 rfl (Nat.le_of_ble_eq_true rfl) dX6_take_21 ⟨Nat.le_of_ble_eq_true rfl, Nat.le_of_ble_eq_true rfl⟩) rfl rfl rfl rfl rfl rfl rfl rfl (fun H locs hw => ?_)
  refine ri_iconst hx hb dX6_take_24 ?_
  refine lv_istore_n (lv' := [(2, .int (kI 0)), (0, .ref a_t), (1, .ref a_p1)]) hx hb dX6_take_25 rfl hl (by decide) rfl (fun ls hl => ?_)
  exact w_X6_take_b26 cx hlk hr N a_t a_t_good a_t_bad a_t_open a_p1 a_p1_score a_p1_good a_p1_bad a_p1_open a_p1_costs p1_ats p1_lines p1_least p1_most p1_faultKind p1_faultPlace p1_toldLines p1_kind p1_start p1_next p1_number p1_score p1_good p1_bad p1_open p1_costs t_least t_most t_goodCost t_badCost t_referCost r N r1 r2 r3 0 h _ _ _ hw (lv_sub hl [1, 2, 0] rfl)
set_option maxHeartbeats 4000000 in
set_option maxRecDepth 100000 in
theorem c_X6_setBound (l : Launch) (G : GG) (S : SM) (sz : Nat) (N : Nat) (a_t a_t_good a_t_bad a_t_open : Nat) (t_least : Int) (t_most : Int) (t_goodCost : Int) (t_badCost : Int) (t_referCost : Int) (t_good : Int → Int) (t_bad : Int → Int) (t_open : Int → Int) (x1 : Int) (x2 : Int) (r : Int × Int) (h : m_X6_setBound N t_least t_most x1 x2 = some r) : CtV l yX6_setBound cX6_setBound 3 (rmD 1 0 0) G S sz [.ref a_t, .int (kI x1), .int (kI x2)] [(a_t, .inr (5, [.ref a_t_good, .ref a_t_bad, .ref a_t_open, .int (kI t_least), .int (kI t_most), .int (kI t_goodCost), .int (kI t_badCost), .int (kI t_referCost)])), (a_t_good, cAI G 1000 t_good), (a_t_bad, cAI G 1000 t_bad), (a_t_open, cAI G 1000 t_open)] [(a_t, .inr (5, [.ref a_t_good, .ref a_t_bad, .ref a_t_open, .int (kI r.1), .int (kI r.2), .int (kI t_goodCost), .int (kI t_badCost), .int (kI t_referCost)])), (a_t_good, cAI G 1000 t_good), (a_t_bad, cAI G 1000 t_bad), (a_t_open, cAI G 1000 t_open)] := by
  refine met_V (by decide +kernel) (Nat.le_of_ble_eq_true rfl) ?_
  intro p e s m args below meth c A H locs ls cx hw hr hlk hnm hl
  have hl : lv_has ls 3 [(0, .ref a_t), (1, .int (kI x1)), (2, .int (kI x2))] := hl
  rw [m_X6_setBound] at h
  obtain ⟨⟨hx, hb, -, -, -⟩, -⟩ := id cx
  refine lv_iload_n hx hb dX6_setBound_0 rfl (lv_at hl 1 rfl) ?_
  obtain ⟨g1, h⟩ := gd_some h
  refine ri_if_ne (tgt := 12) hx hb g1 dX6_setBound_1 (by decide) (fun c2 => ?_) (fun c2 => ?_)
  · have h := it_pos c2 h
    refine lv_aload_n hx hb dX6_setBound_4 rfl (lv_at hl 0 rfl) ?_
    refine lv_iload_n hx hb dX6_setBound_5 rfl (lv_at hl 2 rfl) ?_
    refine rf_put hx hb cx hw 0 rfl rfl 3 inX6 tyX6 tyX6_ok nmX6 (by decide) fl_X6_21 rfl rfl rfl rfl (Nat.le_of_ble_eq_true rfl) dX6_setBound_6 (fun H locs hw => ?_)
    have hw : HP G A s.heap H locs [(a_t, .inr (5, [.ref a_t_good, .ref a_t_bad, .ref a_t_open, .int (kI x2), .int (kI t_most), .int (kI t_goodCost), .int (kI t_badCost), .int (kI t_referCost)])), (a_t_good, cAI G 1000 t_good), (a_t_bad, cAI G 1000 t_bad), (a_t_open, cAI G 1000 t_open)] := hw
    refine lv_goto (tgt := 17) hx hb dX6_setBound_9 (by decide) ?_
    obtain rfl := so_inj h
    exact re_v hx hb hlk hr cx hw (Nat.le_of_ble_eq_true rfl) (Nat.le_of_ble_eq_true rfl) dX6_setBound_17
  · have h := it_neg c2 h
    refine lv_aload_n hx hb dX6_setBound_12 rfl (lv_at hl 0 rfl) ?_
    refine lv_iload_n hx hb dX6_setBound_13 rfl (lv_at hl 2 rfl) ?_
    refine rf_put hx hb cx hw 0 rfl rfl 4 inX6 tyX6 tyX6_ok nmX6 (by decide) fl_X6_25 rfl rfl rfl rfl (Nat.le_of_ble_eq_true rfl) dX6_setBound_14 (fun H locs hw => ?_)
    have hw : HP G A s.heap H locs [(a_t, .inr (5, [.ref a_t_good, .ref a_t_bad, .ref a_t_open, .int (kI t_least), .int (kI x2), .int (kI t_goodCost), .int (kI t_badCost), .int (kI t_referCost)])), (a_t_good, cAI G 1000 t_good), (a_t_bad, cAI G 1000 t_bad), (a_t_open, cAI G 1000 t_open)] := hw
    obtain rfl := so_inj h
    exact re_v hx hb hlk hr cx hw (Nat.le_of_ble_eq_true rfl) (Nat.le_of_ble_eq_true rfl) dX6_setBound_17
def PL_X6_opens_b4 (p : Program) (l : Launch) (e : Env) (s : State) (m : MethodId) (args : Array Value) (below : List Frame) (meth : Method) (c : Code) (A : Nat → Prop) (G : GG) (S : SM) (a_t a_t_good a_t_bad a_t_open : Nat) (t_least : Int) (t_most : Int) (t_goodCost : Int) (t_badCost : Int) (t_referCost : Int) (t_good : Int → Int) (t_bad : Int → Int) (t_open : Int → Int) (r : Int) (kk : Int → Int → Option (Int)) : Prop := ∀ (y1 : Int) (y2 : Int), kk y1 y2 = some r → ∀ (H : Heap) (locs : List Loc) (ls : Array Slot), HP G A s.heap H locs [(a_t, .inr (5, [.ref a_t_good, .ref a_t_bad, .ref a_t_open, .int (kI t_least), .int (kI t_most), .int (kI t_goodCost), .int (kI t_badCost), .int (kI t_referCost)])), (a_t_good, cAI G 1000 t_good), (a_t_bad, cAI G 1000 t_bad), (a_t_open, cAI G 1000 t_open)] → lv_has ls 3 [(0, .ref a_t), (1, .int (kI y1)), (2, .int (kI y2))] → W p l e (rmD 1 0 0) s m args below meth c H locs 0 0 (MQ below (QcI G A r [(a_t, .inr (5, [.ref a_t_good, .ref a_t_bad, .ref a_t_open, .int (kI t_least), .int (kI t_most), .int (kI t_goodCost), .int (kI t_badCost), .int (kI t_referCost)])), (a_t_good, cAI G 1000 t_good), (a_t_bad, cAI G 1000 t_bad), (a_t_open, cAI G 1000 t_open)]) args s (rmD 1 0 0).cells (rmD 1 0 0).slots A) (F0 m 4 ls [])
set_option maxHeartbeats 4000000 in
set_option maxRecDepth 100000 in
theorem w_X6_opens_b4 {p : Program} {l : Launch} {e : Env} {s : State} {m : MethodId} {args : Array Value} {below : List Frame} {meth : Method} {c : Code} {A : Nat → Prop} {G : GG} {S : SM} (cx : CX p s m args c cX6_opens RX6 3 G S A) (hlk : meth.locks = false) (hr : meth.sig.returnType = some .int) (N : Nat) (a_t a_t_good a_t_bad a_t_open : Nat) (t_least : Int) (t_most : Int) (t_goodCost : Int) (t_badCost : Int) (t_referCost : Int) (t_good : Int → Int) (t_bad : Int → Int) (t_open : Int → Int) (r : Int) : ∀ n : Nat, PL_X6_opens_b4 p l e s m args below meth c A G S a_t a_t_good a_t_bad a_t_open t_least t_most t_goodCost t_badCost t_referCost t_good t_bad t_open r (m_X6_opens_b4 N t_open n) := by
  intro n
  induction n with
  | zero => intro y1 y2 h; exact nomatch h
  | succ n ih =>
    intro y1 y2 h H locs ls hw hl
    rw [m_X6_opens_b4] at h
    obtain ⟨⟨hx, hb, -, -, -⟩, -⟩ := id cx
    refine lv_iload_n hx hb dX6_opens_4 rfl (lv_at hl 2 rfl) ?_
    refine ri_sipush hx hb dX6_opens_5 rfl ?_
    obtain ⟨g1, h⟩ := gd_some h
    refine ri_icmp_ge (tgt := 26) hx hb g1 ⟨by decide, by decide⟩ dX6_opens_8 (by decide) (fun c2 => ?_) (fun c2 => ?_)
    · have h := it_pos c2 h
      refine lv_iload_n hx hb dX6_opens_26 rfl (lv_at hl 1 rfl) ?_
      obtain rfl := so_inj h
      exact re_i hx hb hlk hr cx hw (Nat.le_of_ble_eq_true rfl) (Nat.le_of_ble_eq_true rfl) dX6_opens_27
    · have h := it_neg c2 h
      refine lv_iload_n hx hb dX6_opens_11 rfl (lv_at hl 1 rfl) ?_
      refine lv_aload_n hx hb dX6_opens_12 rfl (lv_at hl 0 rfl) ?_
      refine rf_get hx hb cx hw 0 rfl rfl 2 inX6 (by decide) fl_X6_18 rfl rfl dX6_opens_13 ?_
      refine lv_iload_n hx hb dX6_opens_16 rfl (lv_at hl 2 rfl) ?_
      obtain ⟨g3, h⟩ := gd_some h
      refine ra_i hx hb cx hw 3 rfl (by decide) g3 dX6_opens_17 ?_
      refine ri_iadd hx hb dX6_opens_18 ?_
      refine lv_istore_n (lv' := [(1, .int (kI (y1 + (t_open y2)))), (0, .ref a_t), (2, .int (kI y2))]) hx hb dX6_opens_19 rfl hl (by decide) rfl (fun ls hl => ?_)
      refine lv_iinc (v := kI (y2 + 1)) (lv' := [(2, .int (kI (y2 + 1))), (1, .int (kI (y1 + (t_open y2)))), (0, .ref a_t)]) hx hb dX6_opens_20 hl (k := 2) rfl (kI_add _ _) (by decide) rfl (fun ls hl => ?_)
      refine lv_goto (tgt := 4) hx hb dX6_opens_23 (by decide) ?_
      exact ih (y1 + (t_open y2)) (y2 + 1) h _ _ _ hw (lv_sub hl [2, 1, 0] rfl)
set_option maxHeartbeats 4000000 in
set_option maxRecDepth 100000 in
theorem c_X6_opens (l : Launch) (G : GG) (S : SM) (sz : Nat) (N : Nat) (a_t a_t_good a_t_bad a_t_open : Nat) (t_least : Int) (t_most : Int) (t_goodCost : Int) (t_badCost : Int) (t_referCost : Int) (t_good : Int → Int) (t_bad : Int → Int) (t_open : Int → Int)  (r : Int) (h : m_X6_opens N t_open = some r) : CtI l yX6_opens cX6_opens 3 .int (rmD 1 0 0) G S sz [.ref a_t] [(a_t, .inr (5, [.ref a_t_good, .ref a_t_bad, .ref a_t_open, .int (kI t_least), .int (kI t_most), .int (kI t_goodCost), .int (kI t_badCost), .int (kI t_referCost)])), (a_t_good, cAI G 1000 t_good), (a_t_bad, cAI G 1000 t_bad), (a_t_open, cAI G 1000 t_open)] r [(a_t, .inr (5, [.ref a_t_good, .ref a_t_bad, .ref a_t_open, .int (kI t_least), .int (kI t_most), .int (kI t_goodCost), .int (kI t_badCost), .int (kI t_referCost)])), (a_t_good, cAI G 1000 t_good), (a_t_bad, cAI G 1000 t_bad), (a_t_open, cAI G 1000 t_open)] := by
  refine met_I (by decide +kernel) (Nat.le_of_ble_eq_true rfl) ?_
  intro p e s m args below meth c A H locs ls cx hw hr hlk hnm hl
  have hl : lv_has ls 3 [(0, .ref a_t)] := hl
  rw [m_X6_opens] at h
  obtain ⟨⟨hx, hb, -, -, -⟩, -⟩ := id cx
  refine ri_iconst hx hb dX6_opens_0 ?_
  refine lv_istore_n (lv' := [(1, .int (kI 0)), (0, .ref a_t)]) hx hb dX6_opens_1 rfl hl (by decide) rfl (fun ls hl => ?_)
  refine ri_iconst hx hb dX6_opens_2 ?_
  refine lv_istore_n (lv' := [(2, .int (kI 0)), (1, .int (kI 0)), (0, .ref a_t)]) hx hb dX6_opens_3 rfl hl (by decide) rfl (fun ls hl => ?_)
  exact w_X6_opens_b4 cx hlk hr N a_t a_t_good a_t_bad a_t_open t_least t_most t_goodCost t_badCost t_referCost t_good t_bad t_open r N 0 0 h _ _ _ hw (lv_sub hl [2, 1, 0] rfl)
def PL_X6_fits_b4 (p : Program) (l : Launch) (e : Env) (s : State) (m : MethodId) (args : Array Value) (below : List Frame) (meth : Method) (c : Code) (A : Nat → Prop) (G : GG) (S : SM) (a_t a_t_good a_t_bad a_t_open : Nat) (t_least : Int) (t_most : Int) (t_goodCost : Int) (t_badCost : Int) (t_referCost : Int) (t_good : Int → Int) (t_bad : Int → Int) (t_open : Int → Int) (r : Int) (kk : Int → Int → Option (Int)) : Prop := ∀ (y1 : Int) (y2 : Int), kk y1 y2 = some r → ∀ (H : Heap) (locs : List Loc) (ls : Array Slot), HP G A s.heap H locs [(a_t, .inr (5, [.ref a_t_good, .ref a_t_bad, .ref a_t_open, .int (kI t_least), .int (kI t_most), .int (kI t_goodCost), .int (kI t_badCost), .int (kI t_referCost)])), (a_t_good, cAI G 1000 t_good), (a_t_bad, cAI G 1000 t_bad), (a_t_open, cAI G 1000 t_open)] → lv_has ls 3 [(0, .ref a_t), (1, .int (kI y1)), (2, .int (kI y2))] → W p l e (rmD 1 0 0) s m args below meth c H locs 0 0 (MQ below (QcI G A r [(a_t, .inr (5, [.ref a_t_good, .ref a_t_bad, .ref a_t_open, .int (kI t_least), .int (kI t_most), .int (kI t_goodCost), .int (kI t_badCost), .int (kI t_referCost)])), (a_t_good, cAI G 1000 t_good), (a_t_bad, cAI G 1000 t_bad), (a_t_open, cAI G 1000 t_open)]) args s (rmD 1 0 0).cells (rmD 1 0 0).slots A) (F0 m 4 ls [])
set_option maxHeartbeats 4000000 in
set_option maxRecDepth 100000 in
theorem w_X6_fits_b72 {p : Program} {l : Launch} {e : Env} {s : State} {m : MethodId} {args : Array Value} {below : List Frame} {meth : Method} {c : Code} {A : Nat → Prop} {G : GG} {S : SM} (cx : CX p s m args c cX6_fits RX6 3 G S A) (hlk : meth.locks = false) (hr : meth.sig.returnType = some .boolean) (N : Nat) (a_t a_t_good a_t_bad a_t_open : Nat) (t_least : Int) (t_most : Int) (t_goodCost : Int) (t_badCost : Int) (t_referCost : Int) (t_good : Int → Int) (t_bad : Int → Int) (t_open : Int → Int) (r : Int) (k4 : Int → Int → Option (Int)) (hk4 : PL_X6_fits_b4 p l e s m args below meth c A G S a_t a_t_good a_t_bad a_t_open t_least t_most t_goodCost t_badCost t_referCost t_good t_bad t_open r k4) : ∀ (y1 : Int) (y2 : Int), m_X6_fits_b72 N t_good t_bad k4 y1 y2 = some r → ∀ (H : Heap) (locs : List Loc) (ls : Array Slot), HP G A s.heap H locs [(a_t, .inr (5, [.ref a_t_good, .ref a_t_bad, .ref a_t_open, .int (kI t_least), .int (kI t_most), .int (kI t_goodCost), .int (kI t_badCost), .int (kI t_referCost)])), (a_t_good, cAI G 1000 t_good), (a_t_bad, cAI G 1000 t_bad), (a_t_open, cAI G 1000 t_open)] → lv_has ls 3 [(0, .ref a_t), (1, .int (kI y1)), (2, .int (kI y2))] → W p l e (rmD 1 0 0) s m args below meth c H locs 0 0 (MQ below (QcI G A r [(a_t, .inr (5, [.ref a_t_good, .ref a_t_bad, .ref a_t_open, .int (kI t_least), .int (kI t_most), .int (kI t_goodCost), .int (kI t_badCost), .int (kI t_referCost)])), (a_t_good, cAI G 1000 t_good), (a_t_bad, cAI G 1000 t_bad), (a_t_open, cAI G 1000 t_open)]) args s (rmD 1 0 0).cells (rmD 1 0 0).slots A) (F0 m 72 ls []) := by
  intro y1 y2 h H locs ls hw hl
  rw [m_X6_fits_b72] at h
  obtain ⟨⟨hx, hb, -, -, -⟩, -⟩ := id cx
  refine lv_iinc (v := kI (y2 + 1)) (lv' := [(2, .int (kI (y2 + 1))), (0, .ref a_t), (1, .int (kI y1))]) hx hb dX6_fits_72 hl (k := 2) rfl (kI_add _ _) (by decide) rfl (fun ls hl => ?_)
  refine lv_goto (tgt := 4) hx hb dX6_fits_75 (by decide) ?_
  exact hk4 y1 (y2 + 1) h _ _ _ hw (lv_sub hl [1, 2, 0] rfl)
set_option maxHeartbeats 4000000 in
set_option maxRecDepth 100000 in
theorem w_X6_fits_b4 {p : Program} {l : Launch} {e : Env} {s : State} {m : MethodId} {args : Array Value} {below : List Frame} {meth : Method} {c : Code} {A : Nat → Prop} {G : GG} {S : SM} (cx : CX p s m args c cX6_fits RX6 3 G S A) (hlk : meth.locks = false) (hr : meth.sig.returnType = some .boolean) (N : Nat) (a_t a_t_good a_t_bad a_t_open : Nat) (t_least : Int) (t_most : Int) (t_goodCost : Int) (t_badCost : Int) (t_referCost : Int) (t_good : Int → Int) (t_bad : Int → Int) (t_open : Int → Int) (r : Int) : ∀ n : Nat, PL_X6_fits_b4 p l e s m args below meth c A G S a_t a_t_good a_t_bad a_t_open t_least t_most t_goodCost t_badCost t_referCost t_good t_bad t_open r (m_X6_fits_b4 N t_good t_bad n) := by
  intro n
  induction n with
  | zero => intro y1 y2 h; exact nomatch h
  | succ n ih =>
    intro y1 y2 h H locs ls hw hl
    rw [m_X6_fits_b4] at h
    obtain ⟨⟨hx, hb, -, -, -⟩, -⟩ := id cx
    refine lv_iload_n hx hb dX6_fits_4 rfl (lv_at hl 2 rfl) ?_
    refine ri_sipush hx hb dX6_fits_5 rfl ?_
    obtain ⟨g1, h⟩ := gd_some h
    refine ri_icmp_ge (tgt := 78) hx hb g1 ⟨by decide, by decide⟩ dX6_fits_8 (by decide) (fun c2 => ?_) (fun c2 => ?_)
    · have h := it_pos c2 h
      refine lv_iload_n hx hb dX6_fits_78 rfl (lv_at hl 1 rfl) ?_
      refine ri_bipush hx hb dX6_fits_79 rfl ?_
      obtain ⟨g3, h⟩ := gd_some h
      refine ri_icmp_gt (tgt := 88) hx hb g3 ⟨by decide, by decide⟩ dX6_fits_81 (by decide) (fun c4 => ?_) (fun c4 => ?_)
      · have h := it_pos c4 h
        refine ri_iconst hx hb dX6_fits_88 ?_
        obtain rfl := so_inj h
        exact re_z (Or.inl rfl)  hx hb hlk hr cx hw (Nat.le_of_ble_eq_true rfl) (Nat.le_of_ble_eq_true rfl) dX6_fits_89
      · have h := it_neg c4 h
        refine ri_iconst hx hb dX6_fits_84 ?_
        refine lv_goto (tgt := 89) hx hb dX6_fits_85 (by decide) ?_
        obtain rfl := so_inj h
        exact re_z (Or.inr rfl)  hx hb hlk hr cx hw (Nat.le_of_ble_eq_true rfl) (Nat.le_of_ble_eq_true rfl) dX6_fits_89
    · have h := it_neg c2 h
      refine lv_aload_n hx hb dX6_fits_11 rfl (lv_at hl 0 rfl) ?_
      refine rf_get hx hb cx hw 0 rfl rfl 0 inX6 (by decide) fl_X6_9 rfl rfl dX6_fits_12 ?_
      refine lv_iload_n hx hb dX6_fits_15 rfl (lv_at hl 2 rfl) ?_
      obtain ⟨g5, h⟩ := gd_some h
      refine ra_i hx hb cx hw 1 rfl (by decide) g5 dX6_fits_16 ?_
      obtain ⟨g6, h⟩ := gd_some h
      refine ri_if_lt (tgt := 51) hx hb g6 dX6_fits_17 (by decide) (fun c7 => ?_) (fun c7 => ?_)
      · have h := it_pos c7 h
        refine ri_iconst hx hb dX6_fits_51 ?_
        obtain rfl := so_inj h
        exact re_z (Or.inl rfl)  hx hb hlk hr cx hw (Nat.le_of_ble_eq_true rfl) (Nat.le_of_ble_eq_true rfl) dX6_fits_52
      · have h := it_neg c7 h
        refine lv_aload_n hx hb dX6_fits_20 rfl (lv_at hl 0 rfl) ?_
        refine rf_get hx hb cx hw 0 rfl rfl 0 inX6 (by decide) fl_X6_9 rfl rfl dX6_fits_21 ?_
        refine lv_iload_n hx hb dX6_fits_24 rfl (lv_at hl 2 rfl) ?_
        refine ra_i hx hb cx hw 1 rfl (by decide) g5 dX6_fits_25 ?_
        refine ri_bipush hx hb dX6_fits_26 rfl ?_
        refine ri_icmp_gt (tgt := 51) hx hb g6 ⟨by decide, by decide⟩ dX6_fits_28 (by decide) (fun c8 => ?_) (fun c8 => ?_)
        · have h := it_pos c8 h
          refine ri_iconst hx hb dX6_fits_51 ?_
          obtain rfl := so_inj h
          exact re_z (Or.inl rfl)  hx hb hlk hr cx hw (Nat.le_of_ble_eq_true rfl) (Nat.le_of_ble_eq_true rfl) dX6_fits_52
        · have h := it_neg c8 h
          refine lv_aload_n hx hb dX6_fits_31 rfl (lv_at hl 0 rfl) ?_
          refine rf_get hx hb cx hw 0 rfl rfl 1 inX6 (by decide) fl_X6_15 rfl rfl dX6_fits_32 ?_
          refine lv_iload_n hx hb dX6_fits_35 rfl (lv_at hl 2 rfl) ?_
          refine ra_i hx hb cx hw 2 rfl (by decide) g5 dX6_fits_36 ?_
          obtain ⟨g9, h⟩ := gd_some h
          refine ri_if_lt (tgt := 51) hx hb g9 dX6_fits_37 (by decide) (fun c10 => ?_) (fun c10 => ?_)
          · have h := it_pos c10 h
            refine ri_iconst hx hb dX6_fits_51 ?_
            obtain rfl := so_inj h
            exact re_z (Or.inl rfl)  hx hb hlk hr cx hw (Nat.le_of_ble_eq_true rfl) (Nat.le_of_ble_eq_true rfl) dX6_fits_52
          · have h := it_neg c10 h
            refine lv_aload_n hx hb dX6_fits_40 rfl (lv_at hl 0 rfl) ?_
            refine rf_get hx hb cx hw 0 rfl rfl 1 inX6 (by decide) fl_X6_15 rfl rfl dX6_fits_41 ?_
            refine lv_iload_n hx hb dX6_fits_44 rfl (lv_at hl 2 rfl) ?_
            refine ra_i hx hb cx hw 2 rfl (by decide) g5 dX6_fits_45 ?_
            refine ri_bipush hx hb dX6_fits_46 rfl ?_
            refine ri_icmp_le (tgt := 53) hx hb g9 ⟨by decide, by decide⟩ dX6_fits_48 (by decide) (fun c11 => ?_) (fun c11 => ?_)
            · have h := it_pos c11 h
              refine lv_aload_n hx hb dX6_fits_53 rfl (lv_at hl 0 rfl) ?_
              refine rf_get hx hb cx hw 0 rfl rfl 0 inX6 (by decide) fl_X6_9 rfl rfl dX6_fits_54 ?_
              refine lv_iload_n hx hb dX6_fits_57 rfl (lv_at hl 2 rfl) ?_
              refine ra_i hx hb cx hw 1 rfl (by decide) g5 dX6_fits_58 ?_
              refine lv_aload_n hx hb dX6_fits_59 rfl (lv_at hl 0 rfl) ?_
              refine rf_get hx hb cx hw 0 rfl rfl 1 inX6 (by decide) fl_X6_15 rfl rfl dX6_fits_60 ?_
              refine lv_iload_n hx hb dX6_fits_63 rfl (lv_at hl 2 rfl) ?_
              refine ra_i hx hb cx hw 2 rfl (by decide) g5 dX6_fits_64 ?_
              refine ri_iadd hx hb dX6_fits_65 ?_
              obtain ⟨g12, h⟩ := gd_some h
              refine ri_if_le (tgt := 72) hx hb g12 dX6_fits_66 (by decide) (fun c13 => ?_) (fun c13 => ?_)
              · have h := it_pos c13 h
                exact w_X6_fits_b72 cx hlk hr N a_t a_t_good a_t_bad a_t_open t_least t_most t_goodCost t_badCost t_referCost t_good t_bad t_open r (m_X6_fits_b4 N t_good t_bad n) ih y1 y2 h _ _ _ hw (lv_sub hl [0, 1, 2] rfl)
              · have h := it_neg c13 h
                refine lv_iinc (v := kI (y1 + 1)) (lv' := [(1, .int (kI (y1 + 1))), (0, .ref a_t), (2, .int (kI y2))]) hx hb dX6_fits_69 hl (k := 1) rfl (kI_add _ _) (by decide) rfl (fun ls hl => ?_)
                exact w_X6_fits_b72 cx hlk hr N a_t a_t_good a_t_bad a_t_open t_least t_most t_goodCost t_badCost t_referCost t_good t_bad t_open r (m_X6_fits_b4 N t_good t_bad n) ih (y1 + 1) y2 h _ _ _ hw (lv_sub hl [1, 0, 2] rfl)
            · have h := it_neg c11 h
              refine ri_iconst hx hb dX6_fits_51 ?_
              obtain rfl := so_inj h
              exact re_z (Or.inl rfl)  hx hb hlk hr cx hw (Nat.le_of_ble_eq_true rfl) (Nat.le_of_ble_eq_true rfl) dX6_fits_52
set_option maxHeartbeats 4000000 in
set_option maxRecDepth 100000 in
theorem c_X6_fits (l : Launch) (G : GG) (S : SM) (sz : Nat) (N : Nat) (a_t a_t_good a_t_bad a_t_open : Nat) (t_least : Int) (t_most : Int) (t_goodCost : Int) (t_badCost : Int) (t_referCost : Int) (t_good : Int → Int) (t_bad : Int → Int) (t_open : Int → Int)  (r : Int) (h : m_X6_fits N t_good t_bad = some r) : CtI l yX6_fits cX6_fits 3 .boolean (rmD 1 0 0) G S sz [.ref a_t] [(a_t, .inr (5, [.ref a_t_good, .ref a_t_bad, .ref a_t_open, .int (kI t_least), .int (kI t_most), .int (kI t_goodCost), .int (kI t_badCost), .int (kI t_referCost)])), (a_t_good, cAI G 1000 t_good), (a_t_bad, cAI G 1000 t_bad), (a_t_open, cAI G 1000 t_open)] r [(a_t, .inr (5, [.ref a_t_good, .ref a_t_bad, .ref a_t_open, .int (kI t_least), .int (kI t_most), .int (kI t_goodCost), .int (kI t_badCost), .int (kI t_referCost)])), (a_t_good, cAI G 1000 t_good), (a_t_bad, cAI G 1000 t_bad), (a_t_open, cAI G 1000 t_open)] := by
  refine met_I (by decide +kernel) (Nat.le_of_ble_eq_true rfl) ?_
  intro p e s m args below meth c A H locs ls cx hw hr hlk hnm hl
  have hl : lv_has ls 3 [(0, .ref a_t)] := hl
  rw [m_X6_fits] at h
  obtain ⟨⟨hx, hb, -, -, -⟩, -⟩ := id cx
  refine ri_iconst hx hb dX6_fits_0 ?_
  refine lv_istore_n (lv' := [(1, .int (kI 0)), (0, .ref a_t)]) hx hb dX6_fits_1 rfl hl (by decide) rfl (fun ls hl => ?_)
  refine ri_iconst hx hb dX6_fits_2 ?_
  refine lv_istore_n (lv' := [(2, .int (kI 0)), (1, .int (kI 0)), (0, .ref a_t)]) hx hb dX6_fits_3 rfl hl (by decide) rfl (fun ls hl => ?_)
  exact w_X6_fits_b4 cx hlk hr N a_t a_t_good a_t_bad a_t_open t_least t_most t_goodCost t_badCost t_referCost t_good t_bad t_open r N 0 0 h _ _ _ hw (lv_sub hl [2, 1, 0] rfl)
set_option maxHeartbeats 4000000 in
set_option maxRecDepth 100000 in
theorem c_X7_init (l : Launch) (G : GG) (S : SM) (sz : Nat) (N : Nat) (a_t : Nat)   (r : Int × Int × Int × Int × Int × Int × Int × Int × Int × Int × Int × (Int → Int) × (Int → Int) × (Int → Int) × (Int → Int) × (Int → Int)) (h : m_X7_init N = some r) : CtVx l yX7_init cX7_init 1 (rmD 1 5 243) G S sz [.ref a_t] [(a_t, .inr (6, [.null, .null, .null, .null, .null, .int (kI 0), .int (kI 0), .int (kI 0), .int (kI 0), .int (kI 0), .int (kI 0), .int (kI 0), .int (kI 0), .int (kI 0), .int (kI 0), .int (kI 0)]))] (fun u => [(a_t, .inr (6, [.ref (u 0), .ref (u 1), .ref (u 2), .ref (u 3), .ref (u 4), .int (kI r.1), .int (kI r.2.1), .int (kI r.2.2.1), .int (kI r.2.2.2.1), .int (kI r.2.2.2.2.1), .int (kI r.2.2.2.2.2.1), .int (kI r.2.2.2.2.2.2.1), .int (kI r.2.2.2.2.2.2.2.1), .int (kI r.2.2.2.2.2.2.2.2.1), .int (kI r.2.2.2.2.2.2.2.2.2.1), .int (kI r.2.2.2.2.2.2.2.2.2.2.1)])), ((u 0), cAI G 60 r.2.2.2.2.2.2.2.2.2.2.2.1), ((u 1), cAI G 60 r.2.2.2.2.2.2.2.2.2.2.2.2.1), ((u 2), cAI G 60 r.2.2.2.2.2.2.2.2.2.2.2.2.2.1), ((u 3), cAI G 60 r.2.2.2.2.2.2.2.2.2.2.2.2.2.2.1), ((u 4), cAI G 3 r.2.2.2.2.2.2.2.2.2.2.2.2.2.2.2)]) := by
  refine met_Vx (by decide +kernel) (Nat.le_of_ble_eq_true rfl) ?_
  intro p e s m args below meth c A H locs ls cx hw hr hlk hnm hl
  have hl : lv_has ls 1 [(0, .ref a_t)] := hl
  rw [m_X7_init] at h
  obtain ⟨⟨hx, hb, -, -, -⟩, -⟩ := id cx
  refine lv_aload_n hx hb dX7_init_0 rfl (lv_at hl 0 rfl) ?_
  refine ro_init hx hb cx hl.1 jl_X7_3 (Nat.le_of_ble_eq_true rfl) (Nat.le_of_ble_eq_true rfl) dX7_init_1 ?_
  refine lv_aload_n hx hb dX7_init_4 rfl (lv_at hl 0 rfl) ?_
  refine ri_bipush hx hb dX7_init_5 rfl ?_
  refine ra_newI hx hb cx hw ⟨by decide, by decide⟩ (Nat.le_of_ble_eq_true rfl) (Nat.le_of_ble_eq_true rfl) dX7_init_7 (fun q7 H hw => ?_)
  have hw : HP G A s.heap H locs [(a_t, .inr (6, [.null, .null, .null, .null, .null, .int (kI 0), .int (kI 0), .int (kI 0), .int (kI 0), .int (kI 0), .int (kI 0), .int (kI 0), .int (kI 0), .int (kI 0), .int (kI 0), .int (kI 0)])), (q7, cAI G 60 (fun _ => 0))] := hw
  refine W.widen (k := 1) (n := 60) (Nat.le_of_ble_eq_true rfl) (Nat.le_of_ble_eq_true rfl) ?_
  refine rf_putF hx hb cx hw 0 rfl rfl 0 inX7 tyX7 tyX7_ok nmX7 (by decide) fl_X7_9 rfl rfl hnm rfl rfl (Nat.le_of_ble_eq_true rfl) dX7_init_9 (fun H locs hw => ?_)
  have hw : HP G A s.heap H locs [(a_t, .inr (6, [.ref q7, .null, .null, .null, .null, .int (kI 0), .int (kI 0), .int (kI 0), .int (kI 0), .int (kI 0), .int (kI 0), .int (kI 0), .int (kI 0), .int (kI 0), .int (kI 0), .int (kI 0)])), (q7, cAI G 60 (fun _ => 0))] := hw
  refine lv_aload_n hx hb dX7_init_12 rfl (lv_at hl 0 rfl) ?_
  refine ri_bipush hx hb dX7_init_13 rfl ?_
  refine ra_newI hx hb cx hw ⟨by decide, by decide⟩ (Nat.le_of_ble_eq_true rfl) (Nat.le_of_ble_eq_true rfl) dX7_init_15 (fun q15 H hw => ?_)
  have hw : HP G A s.heap H locs [(a_t, .inr (6, [.ref q7, .null, .null, .null, .null, .int (kI 0), .int (kI 0), .int (kI 0), .int (kI 0), .int (kI 0), .int (kI 0), .int (kI 0), .int (kI 0), .int (kI 0), .int (kI 0), .int (kI 0)])), (q7, cAI G 60 (fun _ => 0)), (q15, cAI G 60 (fun _ => 0))] := hw
  refine W.widen (k := 2) (n := 120) (Nat.le_of_ble_eq_true rfl) (Nat.le_of_ble_eq_true rfl) ?_
  refine rf_putF hx hb cx hw 0 rfl rfl 1 inX7 tyX7 tyX7_ok nmX7 (by decide) fl_X7_15 rfl rfl hnm rfl rfl (Nat.le_of_ble_eq_true rfl) dX7_init_17 (fun H locs hw => ?_)
  have hw : HP G A s.heap H locs [(a_t, .inr (6, [.ref q7, .ref q15, .null, .null, .null, .int (kI 0), .int (kI 0), .int (kI 0), .int (kI 0), .int (kI 0), .int (kI 0), .int (kI 0), .int (kI 0), .int (kI 0), .int (kI 0), .int (kI 0)])), (q7, cAI G 60 (fun _ => 0)), (q15, cAI G 60 (fun _ => 0))] := hw
  refine lv_aload_n hx hb dX7_init_20 rfl (lv_at hl 0 rfl) ?_
  refine ri_bipush hx hb dX7_init_21 rfl ?_
  refine ra_newI hx hb cx hw ⟨by decide, by decide⟩ (Nat.le_of_ble_eq_true rfl) (Nat.le_of_ble_eq_true rfl) dX7_init_23 (fun q23 H hw => ?_)
  have hw : HP G A s.heap H locs [(a_t, .inr (6, [.ref q7, .ref q15, .null, .null, .null, .int (kI 0), .int (kI 0), .int (kI 0), .int (kI 0), .int (kI 0), .int (kI 0), .int (kI 0), .int (kI 0), .int (kI 0), .int (kI 0), .int (kI 0)])), (q7, cAI G 60 (fun _ => 0)), (q15, cAI G 60 (fun _ => 0)), (q23, cAI G 60 (fun _ => 0))] := hw
  refine W.widen (k := 3) (n := 180) (Nat.le_of_ble_eq_true rfl) (Nat.le_of_ble_eq_true rfl) ?_
  refine rf_putF hx hb cx hw 0 rfl rfl 2 inX7 tyX7 tyX7_ok nmX7 (by decide) fl_X7_18 rfl rfl hnm rfl rfl (Nat.le_of_ble_eq_true rfl) dX7_init_25 (fun H locs hw => ?_)
  have hw : HP G A s.heap H locs [(a_t, .inr (6, [.ref q7, .ref q15, .ref q23, .null, .null, .int (kI 0), .int (kI 0), .int (kI 0), .int (kI 0), .int (kI 0), .int (kI 0), .int (kI 0), .int (kI 0), .int (kI 0), .int (kI 0), .int (kI 0)])), (q7, cAI G 60 (fun _ => 0)), (q15, cAI G 60 (fun _ => 0)), (q23, cAI G 60 (fun _ => 0))] := hw
  refine lv_aload_n hx hb dX7_init_28 rfl (lv_at hl 0 rfl) ?_
  refine ri_bipush hx hb dX7_init_29 rfl ?_
  refine ra_newI hx hb cx hw ⟨by decide, by decide⟩ (Nat.le_of_ble_eq_true rfl) (Nat.le_of_ble_eq_true rfl) dX7_init_31 (fun q31 H hw => ?_)
  have hw : HP G A s.heap H locs [(a_t, .inr (6, [.ref q7, .ref q15, .ref q23, .null, .null, .int (kI 0), .int (kI 0), .int (kI 0), .int (kI 0), .int (kI 0), .int (kI 0), .int (kI 0), .int (kI 0), .int (kI 0), .int (kI 0), .int (kI 0)])), (q7, cAI G 60 (fun _ => 0)), (q15, cAI G 60 (fun _ => 0)), (q23, cAI G 60 (fun _ => 0)), (q31, cAI G 60 (fun _ => 0))] := hw
  refine W.widen (k := 4) (n := 240) (Nat.le_of_ble_eq_true rfl) (Nat.le_of_ble_eq_true rfl) ?_
  refine rf_putF hx hb cx hw 0 rfl rfl 3 inX7 tyX7 tyX7_ok nmX7 (by decide) fl_X7_21 rfl rfl hnm rfl rfl (Nat.le_of_ble_eq_true rfl) dX7_init_33 (fun H locs hw => ?_)
  have hw : HP G A s.heap H locs [(a_t, .inr (6, [.ref q7, .ref q15, .ref q23, .ref q31, .null, .int (kI 0), .int (kI 0), .int (kI 0), .int (kI 0), .int (kI 0), .int (kI 0), .int (kI 0), .int (kI 0), .int (kI 0), .int (kI 0), .int (kI 0)])), (q7, cAI G 60 (fun _ => 0)), (q15, cAI G 60 (fun _ => 0)), (q23, cAI G 60 (fun _ => 0)), (q31, cAI G 60 (fun _ => 0))] := hw
  refine lv_aload_n hx hb dX7_init_36 rfl (lv_at hl 0 rfl) ?_
  refine ri_iconst hx hb dX7_init_37 ?_
  refine ra_newI hx hb cx hw ⟨by decide, by decide⟩ (Nat.le_of_ble_eq_true rfl) (Nat.le_of_ble_eq_true rfl) dX7_init_38 (fun q38 H hw => ?_)
  have hw : HP G A s.heap H locs [(a_t, .inr (6, [.ref q7, .ref q15, .ref q23, .ref q31, .null, .int (kI 0), .int (kI 0), .int (kI 0), .int (kI 0), .int (kI 0), .int (kI 0), .int (kI 0), .int (kI 0), .int (kI 0), .int (kI 0), .int (kI 0)])), (q7, cAI G 60 (fun _ => 0)), (q15, cAI G 60 (fun _ => 0)), (q23, cAI G 60 (fun _ => 0)), (q31, cAI G 60 (fun _ => 0)), (q38, cAI G 3 (fun _ => 0))] := hw
  refine W.widen (k := 5) (n := 243) (Nat.le_of_ble_eq_true rfl) (Nat.le_of_ble_eq_true rfl) ?_
  refine rf_putF hx hb cx hw 0 rfl rfl 4 inX7 tyX7 tyX7_ok nmX7 (by decide) fl_X7_24 rfl rfl hnm rfl rfl (Nat.le_of_ble_eq_true rfl) dX7_init_40 (fun H locs hw => ?_)
  have hw : HP G A s.heap H locs [(a_t, .inr (6, [.ref q7, .ref q15, .ref q23, .ref q31, .ref q38, .int (kI 0), .int (kI 0), .int (kI 0), .int (kI 0), .int (kI 0), .int (kI 0), .int (kI 0), .int (kI 0), .int (kI 0), .int (kI 0), .int (kI 0)])), (q7, cAI G 60 (fun _ => 0)), (q15, cAI G 60 (fun _ => 0)), (q23, cAI G 60 (fun _ => 0)), (q31, cAI G 60 (fun _ => 0)), (q38, cAI G 3 (fun _ => 0))] := hw
  refine lv_aload_n hx hb dX7_init_43 rfl (lv_at hl 0 rfl) ?_
  refine ri_iconst hx hb dX7_init_44 ?_
  refine rf_put hx hb cx hw 0 rfl rfl 10 inX7 tyX7 tyX7_ok nmX7 (by decide) fl_X7_27 rfl rfl rfl rfl (Nat.le_of_ble_eq_true rfl) dX7_init_45 (fun H locs hw => ?_)
  have hw : HP G A s.heap H locs [(a_t, .inr (6, [.ref q7, .ref q15, .ref q23, .ref q31, .ref q38, .int (kI 0), .int (kI 0), .int (kI 0), .int (kI 0), .int (kI 0), .int (kI (-1)), .int (kI 0), .int (kI 0), .int (kI 0), .int (kI 0), .int (kI 0)])), (q7, cAI G 60 (fun _ => 0)), (q15, cAI G 60 (fun _ => 0)), (q23, cAI G 60 (fun _ => 0)), (q31, cAI G 60 (fun _ => 0)), (q38, cAI G 3 (fun _ => 0))] := hw
  obtain rfl := so_inj h
  exact re_vx (fun i => [q7, q15, q23, q31, q38].getD i 0) hx hb hlk hr cx (HP.re hw [0, 1, 2, 3, 4, 5] rfl rfl rfl) (Nat.le_of_ble_eq_true rfl) (Nat.le_of_ble_eq_true rfl) dX7_init_48
set_option maxHeartbeats 4000000 in
set_option maxRecDepth 100000 in
theorem c_X7_begin (l : Launch) (G : GG) (S : SM) (sz : Nat) (N : Nat) (a_t a_t_score a_t_good a_t_bad a_t_open a_t_costs : Nat) (t_ats : Int) (t_lines : Int) (t_least : Int) (t_most : Int) (t_faultKind : Int) (t_faultPlace : Int) (t_toldLines : Int) (t_kind : Int) (t_start : Int) (t_next : Int) (t_number : Int) (t_score : Int → Int) (t_good : Int → Int) (t_bad : Int → Int) (t_open : Int → Int) (t_costs : Int → Int)  (r : Int × Int × Int × Int × Int × Int × Int × Int × (Int → Int)) (h : m_X7_begin N t_ats t_lines t_least t_most t_faultKind t_faultPlace t_toldLines t_next t_costs = some r) : CtV l yX7_begin cX7_begin 1 (rmD 1 0 0) G S sz [.ref a_t] [(a_t, .inr (6, [.ref a_t_score, .ref a_t_good, .ref a_t_bad, .ref a_t_open, .ref a_t_costs, .int (kI t_ats), .int (kI t_lines), .int (kI t_least), .int (kI t_most), .int (kI t_faultKind), .int (kI t_faultPlace), .int (kI t_toldLines), .int (kI t_kind), .int (kI t_start), .int (kI t_next), .int (kI t_number)])), (a_t_score, cAI G 60 t_score), (a_t_good, cAI G 60 t_good), (a_t_bad, cAI G 60 t_bad), (a_t_open, cAI G 60 t_open), (a_t_costs, cAI G 3 t_costs)] [(a_t, .inr (6, [.ref a_t_score, .ref a_t_good, .ref a_t_bad, .ref a_t_open, .ref a_t_costs, .int (kI r.1), .int (kI r.2.1), .int (kI r.2.2.1), .int (kI r.2.2.2.1), .int (kI r.2.2.2.2.1), .int (kI r.2.2.2.2.2.1), .int (kI r.2.2.2.2.2.2.1), .int (kI t_kind), .int (kI t_start), .int (kI r.2.2.2.2.2.2.2.1), .int (kI t_number)])), (a_t_score, cAI G 60 t_score), (a_t_good, cAI G 60 t_good), (a_t_bad, cAI G 60 t_bad), (a_t_open, cAI G 60 t_open), (a_t_costs, cAI G 3 r.2.2.2.2.2.2.2.2)] := by
  refine met_V (by decide +kernel) (Nat.le_of_ble_eq_true rfl) ?_
  intro p e s m args below meth c A H locs ls cx hw hr hlk hnm hl
  have hl : lv_has ls 1 [(0, .ref a_t)] := hl
  rw [m_X7_begin] at h
  obtain ⟨⟨hx, hb, -, -, -⟩, -⟩ := id cx
  refine lv_aload_n hx hb dX7_begin_0 rfl (lv_at hl 0 rfl) ?_
  refine ri_iconst hx hb dX7_begin_1 ?_
  refine rf_put hx hb cx hw 0 rfl rfl 5 inX7 tyX7 tyX7_ok nmX7 (by decide) fl_X7_55 rfl rfl rfl rfl (Nat.le_of_ble_eq_true rfl) dX7_begin_2 (fun H locs hw => ?_)
  have hw : HP G A s.heap H locs [(a_t, .inr (6, [.ref a_t_score, .ref a_t_good, .ref a_t_bad, .ref a_t_open, .ref a_t_costs, .int (kI 0), .int (kI t_lines), .int (kI t_least), .int (kI t_most), .int (kI t_faultKind), .int (kI t_faultPlace), .int (kI t_toldLines), .int (kI t_kind), .int (kI t_start), .int (kI t_next), .int (kI t_number)])), (a_t_score, cAI G 60 t_score), (a_t_good, cAI G 60 t_good), (a_t_bad, cAI G 60 t_bad), (a_t_open, cAI G 60 t_open), (a_t_costs, cAI G 3 t_costs)] := hw
  refine lv_aload_n hx hb dX7_begin_5 rfl (lv_at hl 0 rfl) ?_
  refine ri_iconst hx hb dX7_begin_6 ?_
  refine rf_put hx hb cx hw 0 rfl rfl 6 inX7 tyX7 tyX7_ok nmX7 (by decide) fl_X7_52 rfl rfl rfl rfl (Nat.le_of_ble_eq_true rfl) dX7_begin_7 (fun H locs hw => ?_)
  have hw : HP G A s.heap H locs [(a_t, .inr (6, [.ref a_t_score, .ref a_t_good, .ref a_t_bad, .ref a_t_open, .ref a_t_costs, .int (kI 0), .int (kI 0), .int (kI t_least), .int (kI t_most), .int (kI t_faultKind), .int (kI t_faultPlace), .int (kI t_toldLines), .int (kI t_kind), .int (kI t_start), .int (kI t_next), .int (kI t_number)])), (a_t_score, cAI G 60 t_score), (a_t_good, cAI G 60 t_good), (a_t_bad, cAI G 60 t_bad), (a_t_open, cAI G 60 t_open), (a_t_costs, cAI G 3 t_costs)] := hw
  refine lv_aload_n hx hb dX7_begin_10 rfl (lv_at hl 0 rfl) ?_
  refine ri_iconst hx hb dX7_begin_11 ?_
  refine rf_put hx hb cx hw 0 rfl rfl 7 inX7 tyX7 tyX7_ok nmX7 (by decide) fl_X7_58 rfl rfl rfl rfl (Nat.le_of_ble_eq_true rfl) dX7_begin_12 (fun H locs hw => ?_)
  have hw : HP G A s.heap H locs [(a_t, .inr (6, [.ref a_t_score, .ref a_t_good, .ref a_t_bad, .ref a_t_open, .ref a_t_costs, .int (kI 0), .int (kI 0), .int (kI 1), .int (kI t_most), .int (kI t_faultKind), .int (kI t_faultPlace), .int (kI t_toldLines), .int (kI t_kind), .int (kI t_start), .int (kI t_next), .int (kI t_number)])), (a_t_score, cAI G 60 t_score), (a_t_good, cAI G 60 t_good), (a_t_bad, cAI G 60 t_bad), (a_t_open, cAI G 60 t_open), (a_t_costs, cAI G 3 t_costs)] := hw
  refine lv_aload_n hx hb dX7_begin_15 rfl (lv_at hl 0 rfl) ?_
  refine ri_bipush hx hb dX7_begin_16 rfl ?_
  refine rf_put hx hb cx hw 0 rfl rfl 8 inX7 tyX7 tyX7_ok nmX7 (by decide) fl_X7_61 rfl rfl rfl rfl (Nat.le_of_ble_eq_true rfl) dX7_begin_18 (fun H locs hw => ?_)
  have hw : HP G A s.heap H locs [(a_t, .inr (6, [.ref a_t_score, .ref a_t_good, .ref a_t_bad, .ref a_t_open, .ref a_t_costs, .int (kI 0), .int (kI 0), .int (kI 1), .int (kI 60), .int (kI t_faultKind), .int (kI t_faultPlace), .int (kI t_toldLines), .int (kI t_kind), .int (kI t_start), .int (kI t_next), .int (kI t_number)])), (a_t_score, cAI G 60 t_score), (a_t_good, cAI G 60 t_good), (a_t_bad, cAI G 60 t_bad), (a_t_open, cAI G 60 t_open), (a_t_costs, cAI G 3 t_costs)] := hw
  refine lv_aload_n hx hb dX7_begin_21 rfl (lv_at hl 0 rfl) ?_
  refine rf_get hx hb cx hw 0 rfl rfl 4 inX7 (by decide) fl_X7_24 rfl rfl dX7_begin_22 ?_
  refine ri_iconst hx hb dX7_begin_25 ?_
  refine ri_iconst hx hb dX7_begin_26 ?_
  refine ra_si hx hb cx hw 5 rfl (by decide) ⟨by decide, by decide⟩ dX7_begin_27 (fun H locs hw => ?_)
  have hw : HP G A s.heap H locs [(a_t, .inr (6, [.ref a_t_score, .ref a_t_good, .ref a_t_bad, .ref a_t_open, .ref a_t_costs, .int (kI 0), .int (kI 0), .int (kI 1), .int (kI 60), .int (kI t_faultKind), .int (kI t_faultPlace), .int (kI t_toldLines), .int (kI t_kind), .int (kI t_start), .int (kI t_next), .int (kI t_number)])), (a_t_score, cAI G 60 t_score), (a_t_good, cAI G 60 t_good), (a_t_bad, cAI G 60 t_bad), (a_t_open, cAI G 60 t_open), (a_t_costs, cAI G 3 (uP t_costs 0 1))] := hw
  refine lv_aload_n hx hb dX7_begin_28 rfl (lv_at hl 0 rfl) ?_
  refine rf_get hx hb cx hw 0 rfl rfl 4 inX7 (by decide) fl_X7_24 rfl rfl dX7_begin_29 ?_
  refine ri_iconst hx hb dX7_begin_32 ?_
  refine ri_iconst hx hb dX7_begin_33 ?_
  refine ra_si hx hb cx hw 5 rfl (by decide) ⟨by decide, by decide⟩ dX7_begin_34 (fun H locs hw => ?_)
  have hw : HP G A s.heap H locs [(a_t, .inr (6, [.ref a_t_score, .ref a_t_good, .ref a_t_bad, .ref a_t_open, .ref a_t_costs, .int (kI 0), .int (kI 0), .int (kI 1), .int (kI 60), .int (kI t_faultKind), .int (kI t_faultPlace), .int (kI t_toldLines), .int (kI t_kind), .int (kI t_start), .int (kI t_next), .int (kI t_number)])), (a_t_score, cAI G 60 t_score), (a_t_good, cAI G 60 t_good), (a_t_bad, cAI G 60 t_bad), (a_t_open, cAI G 60 t_open), (a_t_costs, cAI G 3 (uP (uP t_costs 0 1) 1 5))] := hw
  refine lv_aload_n hx hb dX7_begin_35 rfl (lv_at hl 0 rfl) ?_
  refine rf_get hx hb cx hw 0 rfl rfl 4 inX7 (by decide) fl_X7_24 rfl rfl dX7_begin_36 ?_
  refine ri_iconst hx hb dX7_begin_39 ?_
  refine ri_iconst hx hb dX7_begin_40 ?_
  refine ra_si hx hb cx hw 5 rfl (by decide) ⟨by decide, by decide⟩ dX7_begin_41 (fun H locs hw => ?_)
  have hw : HP G A s.heap H locs [(a_t, .inr (6, [.ref a_t_score, .ref a_t_good, .ref a_t_bad, .ref a_t_open, .ref a_t_costs, .int (kI 0), .int (kI 0), .int (kI 1), .int (kI 60), .int (kI t_faultKind), .int (kI t_faultPlace), .int (kI t_toldLines), .int (kI t_kind), .int (kI t_start), .int (kI t_next), .int (kI t_number)])), (a_t_score, cAI G 60 t_score), (a_t_good, cAI G 60 t_good), (a_t_bad, cAI G 60 t_bad), (a_t_open, cAI G 60 t_open), (a_t_costs, cAI G 3 (uP (uP (uP t_costs 0 1) 1 5) 2 1))] := hw
  refine lv_aload_n hx hb dX7_begin_42 rfl (lv_at hl 0 rfl) ?_
  refine ri_iconst hx hb dX7_begin_43 ?_
  refine rf_put hx hb cx hw 0 rfl rfl 11 inX7 tyX7 tyX7_ok nmX7 (by decide) fl_X7_64 rfl rfl rfl rfl (Nat.le_of_ble_eq_true rfl) dX7_begin_44 (fun H locs hw => ?_)
  have hw : HP G A s.heap H locs [(a_t, .inr (6, [.ref a_t_score, .ref a_t_good, .ref a_t_bad, .ref a_t_open, .ref a_t_costs, .int (kI 0), .int (kI 0), .int (kI 1), .int (kI 60), .int (kI t_faultKind), .int (kI t_faultPlace), .int (kI 0), .int (kI t_kind), .int (kI t_start), .int (kI t_next), .int (kI t_number)])), (a_t_score, cAI G 60 t_score), (a_t_good, cAI G 60 t_good), (a_t_bad, cAI G 60 t_bad), (a_t_open, cAI G 60 t_open), (a_t_costs, cAI G 3 (uP (uP (uP t_costs 0 1) 1 5) 2 1))] := hw
  refine lv_aload_n hx hb dX7_begin_47 rfl (lv_at hl 0 rfl) ?_
  refine ri_iconst hx hb dX7_begin_48 ?_
  refine rf_put hx hb cx hw 0 rfl rfl 9 inX7 tyX7 tyX7_ok nmX7 (by decide) fl_X7_38 rfl rfl rfl rfl (Nat.le_of_ble_eq_true rfl) dX7_begin_49 (fun H locs hw => ?_)
  have hw : HP G A s.heap H locs [(a_t, .inr (6, [.ref a_t_score, .ref a_t_good, .ref a_t_bad, .ref a_t_open, .ref a_t_costs, .int (kI 0), .int (kI 0), .int (kI 1), .int (kI 60), .int (kI 0), .int (kI t_faultPlace), .int (kI 0), .int (kI t_kind), .int (kI t_start), .int (kI t_next), .int (kI t_number)])), (a_t_score, cAI G 60 t_score), (a_t_good, cAI G 60 t_good), (a_t_bad, cAI G 60 t_bad), (a_t_open, cAI G 60 t_open), (a_t_costs, cAI G 3 (uP (uP (uP t_costs 0 1) 1 5) 2 1))] := hw
  refine lv_aload_n hx hb dX7_begin_52 rfl (lv_at hl 0 rfl) ?_
  refine ri_iconst hx hb dX7_begin_53 ?_
  refine rf_put hx hb cx hw 0 rfl rfl 10 inX7 tyX7 tyX7_ok nmX7 (by decide) fl_X7_27 rfl rfl rfl rfl (Nat.le_of_ble_eq_true rfl) dX7_begin_54 (fun H locs hw => ?_)
  have hw : HP G A s.heap H locs [(a_t, .inr (6, [.ref a_t_score, .ref a_t_good, .ref a_t_bad, .ref a_t_open, .ref a_t_costs, .int (kI 0), .int (kI 0), .int (kI 1), .int (kI 60), .int (kI 0), .int (kI (-1)), .int (kI 0), .int (kI t_kind), .int (kI t_start), .int (kI t_next), .int (kI t_number)])), (a_t_score, cAI G 60 t_score), (a_t_good, cAI G 60 t_good), (a_t_bad, cAI G 60 t_bad), (a_t_open, cAI G 60 t_open), (a_t_costs, cAI G 3 (uP (uP (uP t_costs 0 1) 1 5) 2 1))] := hw
  refine lv_aload_n hx hb dX7_begin_57 rfl (lv_at hl 0 rfl) ?_
  refine ri_iconst hx hb dX7_begin_58 ?_
  refine rf_put hx hb cx hw 0 rfl rfl 14 inX7 tyX7 tyX7_ok nmX7 (by decide) fl_X7_67 rfl rfl rfl rfl (Nat.le_of_ble_eq_true rfl) dX7_begin_59 (fun H locs hw => ?_)
  have hw : HP G A s.heap H locs [(a_t, .inr (6, [.ref a_t_score, .ref a_t_good, .ref a_t_bad, .ref a_t_open, .ref a_t_costs, .int (kI 0), .int (kI 0), .int (kI 1), .int (kI 60), .int (kI 0), .int (kI (-1)), .int (kI 0), .int (kI t_kind), .int (kI t_start), .int (kI 0), .int (kI t_number)])), (a_t_score, cAI G 60 t_score), (a_t_good, cAI G 60 t_good), (a_t_bad, cAI G 60 t_bad), (a_t_open, cAI G 60 t_open), (a_t_costs, cAI G 3 (uP (uP (uP t_costs 0 1) 1 5) 2 1))] := hw
  obtain rfl := so_inj h
  exact re_v hx hb hlk hr cx hw (Nat.le_of_ble_eq_true rfl) (Nat.le_of_ble_eq_true rfl) dX7_begin_62
set_option maxHeartbeats 4000000 in
set_option maxRecDepth 100000 in
theorem w_X7_isBlank_b12 {p : Program} {l : Launch} {e : Env} {s : State} {m : MethodId} {args : Array Value} {below : List Frame} {meth : Method} {c : Code} {A : Nat → Prop} {G : GG} {S : SM} (cx : CX p s m args c cX7_isBlank RX7 1 G S A) (hlk : meth.locks = false) (hr : meth.sig.returnType = some .boolean) (N : Nat) (x0 : Int) (r : Int) : m_X7_isBlank_b12 N x0 = some r → ∀ (H : Heap) (locs : List Loc) (ls : Array Slot), HP G A s.heap H locs [] → lv_has ls 1 [] → W p l e (rmD 1 0 0) s m args below meth c H locs 0 0 (MQ below (QcI G A r []) args s (rmD 1 0 0).cells (rmD 1 0 0).slots A) (F0 m 12 ls []) := by
  intro  h H locs ls hw hl
  rw [m_X7_isBlank_b12] at h
  obtain ⟨⟨hx, hb, -, -, -⟩, -⟩ := id cx
  refine ri_iconst hx hb dX7_isBlank_12 ?_
  refine lv_goto (tgt := 17) hx hb dX7_isBlank_13 (by decide) ?_
  obtain rfl := so_inj h
  exact re_z (Or.inr rfl)  hx hb hlk hr cx hw (Nat.le_of_ble_eq_true rfl) (Nat.le_of_ble_eq_true rfl) dX7_isBlank_17
set_option maxHeartbeats 4000000 in
set_option maxRecDepth 100000 in
theorem c_X7_isBlank (l : Launch) (G : GG) (S : SM) (sz : Nat) (N : Nat)  (x0 : Int) (r : Int) (h : m_X7_isBlank N x0 = some r) : CtI l yX7_isBlank cX7_isBlank 1 .boolean (rmD 1 0 0) G S sz [.int (kI x0)] [] r [] := by
  refine met_I (by decide +kernel) (Nat.le_of_ble_eq_true rfl) ?_
  intro p e s m args below meth c A H locs ls cx hw hr hlk hnm hl
  have hl : lv_has ls 1 [(0, .int (kI x0))] := hl
  rw [m_X7_isBlank] at h
  obtain ⟨⟨hx, hb, -, -, -⟩, -⟩ := id cx
  refine lv_iload_n hx hb dX7_isBlank_0 rfl (lv_at hl 0 rfl) ?_
  refine ri_bipush hx hb dX7_isBlank_1 rfl ?_
  obtain ⟨g1, h⟩ := gd_some h
  refine ri_icmp_eq (tgt := 12) hx hb g1 ⟨by decide, by decide⟩ dX7_isBlank_3 (by decide) (fun c2 => ?_) (fun c2 => ?_)
  · have h := it_pos c2 h
    exact w_X7_isBlank_b12 cx hlk hr N x0 r  h _ _ _ hw (lv_sub hl [] rfl)
  · have h := it_neg c2 h
    refine lv_iload_n hx hb dX7_isBlank_6 rfl (lv_at hl 0 rfl) ?_
    refine ri_bipush hx hb dX7_isBlank_7 rfl ?_
    refine ri_icmp_ne (tgt := 16) hx hb g1 ⟨by decide, by decide⟩ dX7_isBlank_9 (by decide) (fun c3 => ?_) (fun c3 => ?_)
    · have h := it_pos c3 h
      exact w_X7_isBlank_b12 cx hlk hr N x0 r  h _ _ _ hw (lv_sub hl [] rfl)
    · have h := it_neg c3 h
      refine ri_iconst hx hb dX7_isBlank_16 ?_
      obtain rfl := so_inj h
      exact re_z (Or.inl rfl)  hx hb hlk hr cx hw (Nat.le_of_ble_eq_true rfl) (Nat.le_of_ble_eq_true rfl) dX7_isBlank_17
set_option maxHeartbeats 4000000 in
set_option maxRecDepth 100000 in
theorem w_X7_kindOf_b28 {p : Program} {l : Launch} {e : Env} {s : State} {m : MethodId} {args : Array Value} {below : List Frame} {meth : Method} {c : Code} {A : Nat → Prop} {G : GG} {S : SM} (cx : CX p s m args c cX7_kindOf RX7 1 G S A) (hlk : meth.locks = false) (hr : meth.sig.returnType = some .int) (N : Nat) (x0 : Int) (r : Int) : m_X7_kindOf_b28 N x0 = some r → ∀ (H : Heap) (locs : List Loc) (ls : Array Slot), HP G A s.heap H locs [] → lv_has ls 1 [(0, .int (kI x0))] → W p l e (rmD 1 0 0) s m args below meth c H locs 0 0 (MQ below (QcI G A r []) args s (rmD 1 0 0).cells (rmD 1 0 0).slots A) (F0 m 28 ls []) := by
  intro  h H locs ls hw hl
  rw [m_X7_kindOf_b28] at h
  obtain ⟨⟨hx, hb, -, -, -⟩, -⟩ := id cx
  refine lv_iload_n hx hb dX7_kindOf_28 rfl (lv_at hl 0 rfl) ?_
  refine ri_bipush hx hb dX7_kindOf_29 rfl ?_
  obtain ⟨g1, h⟩ := gd_some h
  refine ri_icmp_ne (tgt := 38) hx hb g1 ⟨by decide, by decide⟩ dX7_kindOf_31 (by decide) (fun c2 => ?_) (fun c2 => ?_)
  · have h := it_pos c2 h
    refine ri_iconst hx hb dX7_kindOf_34 ?_
    refine lv_goto (tgt := 39) hx hb dX7_kindOf_35 (by decide) ?_
    obtain rfl := so_inj h
    exact re_i hx hb hlk hr cx hw (Nat.le_of_ble_eq_true rfl) (Nat.le_of_ble_eq_true rfl) dX7_kindOf_39
  · have h := it_neg c2 h
    refine ri_iconst hx hb dX7_kindOf_38 ?_
    obtain rfl := so_inj h
    exact re_i hx hb hlk hr cx hw (Nat.le_of_ble_eq_true rfl) (Nat.le_of_ble_eq_true rfl) dX7_kindOf_39
set_option maxHeartbeats 4000000 in
set_option maxRecDepth 100000 in
theorem w_X7_kindOf_b14 {p : Program} {l : Launch} {e : Env} {s : State} {m : MethodId} {args : Array Value} {below : List Frame} {meth : Method} {c : Code} {A : Nat → Prop} {G : GG} {S : SM} (cx : CX p s m args c cX7_kindOf RX7 1 G S A) (hlk : meth.locks = false) (hr : meth.sig.returnType = some .int) (N : Nat) (x0 : Int) (r : Int) : m_X7_kindOf_b14 N x0 = some r → ∀ (H : Heap) (locs : List Loc) (ls : Array Slot), HP G A s.heap H locs [] → lv_has ls 1 [(0, .int (kI x0))] → W p l e (rmD 1 0 0) s m args below meth c H locs 0 0 (MQ below (QcI G A r []) args s (rmD 1 0 0).cells (rmD 1 0 0).slots A) (F0 m 14 ls []) := by
  intro  h H locs ls hw hl
  rw [m_X7_kindOf_b14] at h
  obtain ⟨⟨hx, hb, -, -, -⟩, -⟩ := id cx
  refine lv_iload_n hx hb dX7_kindOf_14 rfl (lv_at hl 0 rfl) ?_
  refine ri_bipush hx hb dX7_kindOf_15 rfl ?_
  obtain ⟨g1, h⟩ := gd_some h
  refine ri_icmp_lt (tgt := 28) hx hb g1 ⟨by decide, by decide⟩ dX7_kindOf_17 (by decide) (fun c2 => ?_) (fun c2 => ?_)
  · have h := it_pos c2 h
    exact w_X7_kindOf_b28 cx hlk hr N x0 r  h _ _ _ hw (lv_sub hl [0] rfl)
  · have h := it_neg c2 h
    refine lv_iload_n hx hb dX7_kindOf_20 rfl (lv_at hl 0 rfl) ?_
    refine ri_bipush hx hb dX7_kindOf_21 rfl ?_
    refine ri_icmp_gt (tgt := 28) hx hb g1 ⟨by decide, by decide⟩ dX7_kindOf_23 (by decide) (fun c3 => ?_) (fun c3 => ?_)
    · have h := it_pos c3 h
      exact w_X7_kindOf_b28 cx hlk hr N x0 r  h _ _ _ hw (lv_sub hl [0] rfl)
    · have h := it_neg c3 h
      refine ri_iconst hx hb dX7_kindOf_26 ?_
      obtain rfl := so_inj h
      exact re_i hx hb hlk hr cx hw (Nat.le_of_ble_eq_true rfl) (Nat.le_of_ble_eq_true rfl) dX7_kindOf_27
set_option maxHeartbeats 4000000 in
set_option maxRecDepth 100000 in
theorem c_X7_kindOf (l : Launch) (G : GG) (S : SM) (sz : Nat) (N : Nat)  (x0 : Int) (r : Int) (h : m_X7_kindOf N x0 = some r) : CtI l yX7_kindOf cX7_kindOf 1 .int (rmD 1 0 0) G S sz [.int (kI x0)] [] r [] := by
  refine met_I (by decide +kernel) (Nat.le_of_ble_eq_true rfl) ?_
  intro p e s m args below meth c A H locs ls cx hw hr hlk hnm hl
  have hl : lv_has ls 1 [(0, .int (kI x0))] := hl
  rw [m_X7_kindOf] at h
  obtain ⟨⟨hx, hb, -, -, -⟩, -⟩ := id cx
  refine lv_iload_n hx hb dX7_kindOf_0 rfl (lv_at hl 0 rfl) ?_
  refine ri_bipush hx hb dX7_kindOf_1 rfl ?_
  obtain ⟨g1, h⟩ := gd_some h
  refine ri_icmp_lt (tgt := 14) hx hb g1 ⟨by decide, by decide⟩ dX7_kindOf_3 (by decide) (fun c2 => ?_) (fun c2 => ?_)
  · have h := it_pos c2 h
    exact w_X7_kindOf_b14 cx hlk hr N x0 r  h _ _ _ hw (lv_sub hl [0] rfl)
  · have h := it_neg c2 h
    refine lv_iload_n hx hb dX7_kindOf_6 rfl (lv_at hl 0 rfl) ?_
    refine ri_bipush hx hb dX7_kindOf_7 rfl ?_
    refine ri_icmp_gt (tgt := 14) hx hb g1 ⟨by decide, by decide⟩ dX7_kindOf_9 (by decide) (fun c3 => ?_) (fun c3 => ?_)
    · have h := it_pos c3 h
      exact w_X7_kindOf_b14 cx hlk hr N x0 r  h _ _ _ hw (lv_sub hl [0] rfl)
    · have h := it_neg c3 h
      refine ri_iconst hx hb dX7_kindOf_12 ?_
      obtain rfl := so_inj h
      exact re_i hx hb hlk hr cx hw (Nat.le_of_ble_eq_true rfl) (Nat.le_of_ble_eq_true rfl) dX7_kindOf_13
def PL_X7_step_b118 (p : Program) (l : Launch) (e : Env) (s : State) (m : MethodId) (args : Array Value) (below : List Frame) (meth : Method) (c : Code) (A : Nat → Prop) (G : GG) (S : SM) (a_t a_t_score a_t_good a_t_bad a_t_open a_t_costs a_p1 a_p1_store : Nat) (t_ats : Int) (t_lines : Int) (t_least : Int) (t_most : Int) (t_faultKind : Int) (t_faultPlace : Int) (t_toldLines : Int) (t_score : Int → Int) (t_good : Int → Int) (t_bad : Int → Int) (t_open : Int → Int) (t_costs : Int → Int) (p1_size : Int) (p1_store : Int → Int) (p1_store_n : Nat) (t_kind : Int) (t_start : Int) (r : Int × Int × Int × Int) (kk : Int → Int → Option (Int × Int × Int × Int)) : Prop := ∀ (t_next : Int) (t_number : Int), kk t_next t_number = some r → ∀ (H : Heap) (locs : List Loc) (ls : Array Slot), HP G A s.heap H locs [(a_t, .inr (6, [.ref a_t_score, .ref a_t_good, .ref a_t_bad, .ref a_t_open, .ref a_t_costs, .int (kI t_ats), .int (kI t_lines), .int (kI t_least), .int (kI t_most), .int (kI t_faultKind), .int (kI t_faultPlace), .int (kI t_toldLines), .int (kI t_kind), .int (kI t_start), .int (kI t_next), .int (kI t_number)])), (a_t_score, cAI G 60 t_score), (a_t_good, cAI G 60 t_good), (a_t_bad, cAI G 60 t_bad), (a_t_open, cAI G 60 t_open), (a_t_costs, cAI G 3 t_costs), (a_p1, .inr (1, [.ref a_p1_store, .int (kI p1_size)])), (a_p1_store, cAI G p1_store_n p1_store)] → lv_has ls 2 [(0, .ref a_t), (1, .ref a_p1)] → W p l e (rmD 2 0 0) s m args below meth c H locs 0 0 (MQ below (QcV G A [(a_t, .inr (6, [.ref a_t_score, .ref a_t_good, .ref a_t_bad, .ref a_t_open, .ref a_t_costs, .int (kI t_ats), .int (kI t_lines), .int (kI t_least), .int (kI t_most), .int (kI t_faultKind), .int (kI t_faultPlace), .int (kI t_toldLines), .int (kI r.1), .int (kI r.2.1), .int (kI r.2.2.1), .int (kI r.2.2.2)])), (a_t_score, cAI G 60 t_score), (a_t_good, cAI G 60 t_good), (a_t_bad, cAI G 60 t_bad), (a_t_open, cAI G 60 t_open), (a_t_costs, cAI G 3 t_costs), (a_p1, .inr (1, [.ref a_p1_store, .int (kI p1_size)])), (a_p1_store, cAI G p1_store_n p1_store)]) args s (rmD 2 0 0).cells (rmD 2 0 0).slots A) (F0 m 118 ls [])
def PL_X7_step_b8 (p : Program) (l : Launch) (e : Env) (s : State) (m : MethodId) (args : Array Value) (below : List Frame) (meth : Method) (c : Code) (A : Nat → Prop) (G : GG) (S : SM) (a_t a_t_score a_t_good a_t_bad a_t_open a_t_costs a_p1 a_p1_store : Nat) (t_ats : Int) (t_lines : Int) (t_least : Int) (t_most : Int) (t_faultKind : Int) (t_faultPlace : Int) (t_toldLines : Int) (t_score : Int → Int) (t_good : Int → Int) (t_bad : Int → Int) (t_open : Int → Int) (t_costs : Int → Int) (p1_size : Int) (p1_store : Int → Int) (p1_store_n : Nat) (t_kind : Int) (t_start : Int) (t_number : Int) (r : Int × Int × Int × Int) (kk : Int → Option (Int × Int × Int × Int)) : Prop := ∀ (t_next : Int), kk t_next = some r → ∀ (H : Heap) (locs : List Loc) (ls : Array Slot), HP G A s.heap H locs [(a_t, .inr (6, [.ref a_t_score, .ref a_t_good, .ref a_t_bad, .ref a_t_open, .ref a_t_costs, .int (kI t_ats), .int (kI t_lines), .int (kI t_least), .int (kI t_most), .int (kI t_faultKind), .int (kI t_faultPlace), .int (kI t_toldLines), .int (kI t_kind), .int (kI t_start), .int (kI t_next), .int (kI t_number)])), (a_t_score, cAI G 60 t_score), (a_t_good, cAI G 60 t_good), (a_t_bad, cAI G 60 t_bad), (a_t_open, cAI G 60 t_open), (a_t_costs, cAI G 3 t_costs), (a_p1, .inr (1, [.ref a_p1_store, .int (kI p1_size)])), (a_p1_store, cAI G p1_store_n p1_store)] → lv_has ls 2 [(0, .ref a_t), (1, .ref a_p1)] → W p l e (rmD 2 0 0) s m args below meth c H locs 0 0 (MQ below (QcV G A [(a_t, .inr (6, [.ref a_t_score, .ref a_t_good, .ref a_t_bad, .ref a_t_open, .ref a_t_costs, .int (kI t_ats), .int (kI t_lines), .int (kI t_least), .int (kI t_most), .int (kI t_faultKind), .int (kI t_faultPlace), .int (kI t_toldLines), .int (kI r.1), .int (kI r.2.1), .int (kI r.2.2.1), .int (kI r.2.2.2)])), (a_t_score, cAI G 60 t_score), (a_t_good, cAI G 60 t_good), (a_t_bad, cAI G 60 t_bad), (a_t_open, cAI G 60 t_open), (a_t_costs, cAI G 3 t_costs), (a_p1, .inr (1, [.ref a_p1_store, .int (kI p1_size)])), (a_p1_store, cAI G p1_store_n p1_store)]) args s (rmD 2 0 0).cells (rmD 2 0 0).slots A) (F0 m 8 ls [])
set_option maxHeartbeats 4000000 in
set_option maxRecDepth 100000 in
theorem w_X7_step_b107 {p : Program} {l : Launch} {e : Env} {s : State} {m : MethodId} {args : Array Value} {below : List Frame} {meth : Method} {c : Code} {A : Nat → Prop} {G : GG} {S : SM} (cx : CX p s m args c cX7_step RX7 2 G S A) (hlk : meth.locks = false) (hr : meth.sig.returnType = none) (N : Nat) (a_t a_t_score a_t_good a_t_bad a_t_open a_t_costs a_p1 a_p1_store : Nat) (t_ats : Int) (t_lines : Int) (t_least : Int) (t_most : Int) (t_faultKind : Int) (t_faultPlace : Int) (t_toldLines : Int) (t_score : Int → Int) (t_good : Int → Int) (t_bad : Int → Int) (t_open : Int → Int) (t_costs : Int → Int) (p1_size : Int) (p1_store : Int → Int) (p1_store_n : Nat) (hn_p1_store : p1_store_n < 2147483648) (r : Int × Int × Int × Int) : ∀ (t_kind : Int) (t_start : Int) (t_next : Int) (t_number : Int), m_X7_step_b107 N t_faultKind p1_size p1_store p1_store_n t_kind t_start t_next t_number = some r → ∀ (H : Heap) (locs : List Loc) (ls : Array Slot), HP G A s.heap H locs [(a_t, .inr (6, [.ref a_t_score, .ref a_t_good, .ref a_t_bad, .ref a_t_open, .ref a_t_costs, .int (kI t_ats), .int (kI t_lines), .int (kI t_least), .int (kI t_most), .int (kI t_faultKind), .int (kI t_faultPlace), .int (kI t_toldLines), .int (kI t_kind), .int (kI t_start), .int (kI t_next), .int (kI t_number)])), (a_t_score, cAI G 60 t_score), (a_t_good, cAI G 60 t_good), (a_t_bad, cAI G 60 t_bad), (a_t_open, cAI G 60 t_open), (a_t_costs, cAI G 3 t_costs), (a_p1, .inr (1, [.ref a_p1_store, .int (kI p1_size)])), (a_p1_store, cAI G p1_store_n p1_store)] → lv_has ls 2 [(0, .ref a_t)] → W p l e (rmD 2 0 0) s m args below meth c H locs 0 0 (MQ below (QcV G A [(a_t, .inr (6, [.ref a_t_score, .ref a_t_good, .ref a_t_bad, .ref a_t_open, .ref a_t_costs, .int (kI t_ats), .int (kI t_lines), .int (kI t_least), .int (kI t_most), .int (kI t_faultKind), .int (kI t_faultPlace), .int (kI t_toldLines), .int (kI r.1), .int (kI r.2.1), .int (kI r.2.2.1), .int (kI r.2.2.2)])), (a_t_score, cAI G 60 t_score), (a_t_good, cAI G 60 t_good), (a_t_bad, cAI G 60 t_bad), (a_t_open, cAI G 60 t_open), (a_t_costs, cAI G 3 t_costs), (a_p1, .inr (1, [.ref a_p1_store, .int (kI p1_size)])), (a_p1_store, cAI G p1_store_n p1_store)]) args s (rmD 2 0 0).cells (rmD 2 0 0).slots A) (F0 m 107 ls []) := by
  intro t_kind t_start t_next t_number h H locs ls hw hl
  rw [m_X7_step_b107] at h
  obtain ⟨⟨hx, hb, -, -, -⟩, -⟩ := id cx
  refine lv_aload_n hx hb dX7_step_107 rfl (lv_at hl 0 rfl) ?_
  refine lv_dup hx hb dX7_step_108 rfl ?_
  refine rf_get hx hb cx hw 0 rfl rfl 14 inX7 (by decide) fl_X7_67 rfl rfl dX7_step_109 ?_
  refine ri_iconst hx hb dX7_step_112 ?_
  refine ri_iadd hx hb dX7_step_113 ?_
  refine rf_put hx hb cx hw 0 rfl rfl 14 inX7 tyX7 tyX7_ok nmX7 (by decide) fl_X7_67 rfl rfl rfl rfl (Nat.le_of_ble_eq_true rfl) dX7_step_114 (fun H locs hw => ?_)
  have hw : HP G A s.heap H locs [(a_t, .inr (6, [.ref a_t_score, .ref a_t_good, .ref a_t_bad, .ref a_t_open, .ref a_t_costs, .int (kI t_ats), .int (kI t_lines), .int (kI t_least), .int (kI t_most), .int (kI t_faultKind), .int (kI t_faultPlace), .int (kI t_toldLines), .int (kI t_kind), .int (kI t_start), .int (kI (t_next + 1)), .int (kI t_number)])), (a_t_score, cAI G 60 t_score), (a_t_good, cAI G 60 t_good), (a_t_bad, cAI G 60 t_bad), (a_t_open, cAI G 60 t_open), (a_t_costs, cAI G 3 t_costs), (a_p1, .inr (1, [.ref a_p1_store, .int (kI p1_size)])), (a_p1_store, cAI G p1_store_n p1_store)] := hw
  obtain rfl := so_inj h
  exact re_v hx hb hlk hr cx hw (Nat.le_of_ble_eq_true rfl) (Nat.le_of_ble_eq_true rfl) dX7_step_117
set_option maxHeartbeats 4000000 in
set_option maxRecDepth 100000 in
theorem w_X7_step_b185 {p : Program} {l : Launch} {e : Env} {s : State} {m : MethodId} {args : Array Value} {below : List Frame} {meth : Method} {c : Code} {A : Nat → Prop} {G : GG} {S : SM} (cx : CX p s m args c cX7_step RX7 2 G S A) (hlk : meth.locks = false) (hr : meth.sig.returnType = none) (N : Nat) (a_t a_t_score a_t_good a_t_bad a_t_open a_t_costs a_p1 a_p1_store : Nat) (t_ats : Int) (t_lines : Int) (t_least : Int) (t_most : Int) (t_faultKind : Int) (t_faultPlace : Int) (t_toldLines : Int) (t_score : Int → Int) (t_good : Int → Int) (t_bad : Int → Int) (t_open : Int → Int) (t_costs : Int → Int) (p1_size : Int) (p1_store : Int → Int) (p1_store_n : Nat) (t_kind : Int) (t_start : Int) (hn_p1_store : p1_store_n < 2147483648) (r : Int × Int × Int × Int) (k118 : Int → Int → Option (Int × Int × Int × Int)) (hk118 : PL_X7_step_b118 p l e s m args below meth c A G S a_t a_t_score a_t_good a_t_bad a_t_open a_t_costs a_p1 a_p1_store t_ats t_lines t_least t_most t_faultKind t_faultPlace t_toldLines t_score t_good t_bad t_open t_costs p1_size p1_store p1_store_n t_kind t_start r k118) : ∀ (t_next : Int) (t_number : Int), m_X7_step_b185 N t_faultKind p1_size p1_store p1_store_n t_kind t_start k118 t_next t_number = some r → ∀ (H : Heap) (locs : List Loc) (ls : Array Slot), HP G A s.heap H locs [(a_t, .inr (6, [.ref a_t_score, .ref a_t_good, .ref a_t_bad, .ref a_t_open, .ref a_t_costs, .int (kI t_ats), .int (kI t_lines), .int (kI t_least), .int (kI t_most), .int (kI t_faultKind), .int (kI t_faultPlace), .int (kI t_toldLines), .int (kI t_kind), .int (kI t_start), .int (kI t_next), .int (kI t_number)])), (a_t_score, cAI G 60 t_score), (a_t_good, cAI G 60 t_good), (a_t_bad, cAI G 60 t_bad), (a_t_open, cAI G 60 t_open), (a_t_costs, cAI G 3 t_costs), (a_p1, .inr (1, [.ref a_p1_store, .int (kI p1_size)])), (a_p1_store, cAI G p1_store_n p1_store)] → lv_has ls 2 [(0, .ref a_t), (1, .ref a_p1)] → W p l e (rmD 2 0 0) s m args below meth c H locs 0 0 (MQ below (QcV G A [(a_t, .inr (6, [.ref a_t_score, .ref a_t_good, .ref a_t_bad, .ref a_t_open, .ref a_t_costs, .int (kI t_ats), .int (kI t_lines), .int (kI t_least), .int (kI t_most), .int (kI t_faultKind), .int (kI t_faultPlace), .int (kI t_toldLines), .int (kI r.1), .int (kI r.2.1), .int (kI r.2.2.1), .int (kI r.2.2.2)])), (a_t_score, cAI G 60 t_score), (a_t_good, cAI G 60 t_good), (a_t_bad, cAI G 60 t_bad), (a_t_open, cAI G 60 t_open), (a_t_costs, cAI G 3 t_costs), (a_p1, .inr (1, [.ref a_p1_store, .int (kI p1_size)])), (a_p1_store, cAI G p1_store_n p1_store)]) args s (rmD 2 0 0).cells (rmD 2 0 0).slots A) (F0 m 185 ls []) := by
  intro t_next t_number h H locs ls hw hl
  rw [m_X7_step_b185] at h
  obtain ⟨⟨hx, hb, -, -, -⟩, -⟩ := id cx
  refine lv_aload_n hx hb dX7_step_185 rfl (lv_at hl 0 rfl) ?_
  refine lv_dup hx hb dX7_step_186 rfl ?_
  refine rf_get hx hb cx hw 0 rfl rfl 14 inX7 (by decide) fl_X7_67 rfl rfl dX7_step_187 ?_
  refine ri_iconst hx hb dX7_step_190 ?_
  refine ri_iadd hx hb dX7_step_191 ?_
  refine rf_put hx hb cx hw 0 rfl rfl 14 inX7 tyX7 tyX7_ok nmX7 (by decide) fl_X7_67 rfl rfl rfl rfl (Nat.le_of_ble_eq_true rfl) dX7_step_192 (fun H locs hw => ?_)
  have hw : HP G A s.heap H locs [(a_t, .inr (6, [.ref a_t_score, .ref a_t_good, .ref a_t_bad, .ref a_t_open, .ref a_t_costs, .int (kI t_ats), .int (kI t_lines), .int (kI t_least), .int (kI t_most), .int (kI t_faultKind), .int (kI t_faultPlace), .int (kI t_toldLines), .int (kI t_kind), .int (kI t_start), .int (kI (t_next + 1)), .int (kI t_number)])), (a_t_score, cAI G 60 t_score), (a_t_good, cAI G 60 t_good), (a_t_bad, cAI G 60 t_bad), (a_t_open, cAI G 60 t_open), (a_t_costs, cAI G 3 t_costs), (a_p1, .inr (1, [.ref a_p1_store, .int (kI p1_size)])), (a_p1_store, cAI G p1_store_n p1_store)] := hw
  refine lv_goto (tgt := 118) hx hb dX7_step_195 (by decide) ?_
  exact hk118 (t_next + 1) t_number h _ _ _ hw (lv_sub hl [0, 1] rfl)
set_option maxHeartbeats 4000000 in
set_option maxRecDepth 100000 in
theorem w_X7_step_b118 {p : Program} {l : Launch} {e : Env} {s : State} {m : MethodId} {args : Array Value} {below : List Frame} {meth : Method} {c : Code} {A : Nat → Prop} {G : GG} {S : SM} (cx : CX p s m args c cX7_step RX7 2 G S A) (hlk : meth.locks = false) (hr : meth.sig.returnType = none) (N : Nat) (a_t a_t_score a_t_good a_t_bad a_t_open a_t_costs a_p1 a_p1_store : Nat) (t_ats : Int) (t_lines : Int) (t_least : Int) (t_most : Int) (t_faultKind : Int) (t_faultPlace : Int) (t_toldLines : Int) (t_score : Int → Int) (t_good : Int → Int) (t_bad : Int → Int) (t_open : Int → Int) (t_costs : Int → Int) (p1_size : Int) (p1_store : Int → Int) (p1_store_n : Nat) (t_kind : Int) (t_start : Int) (hn_p1_store : p1_store_n < 2147483648) (r : Int × Int × Int × Int) : ∀ n : Nat, PL_X7_step_b118 p l e s m args below meth c A G S a_t a_t_score a_t_good a_t_bad a_t_open a_t_costs a_p1 a_p1_store t_ats t_lines t_least t_most t_faultKind t_faultPlace t_toldLines t_score t_good t_bad t_open t_costs p1_size p1_store p1_store_n t_kind t_start r (m_X7_step_b118 N t_faultKind p1_size p1_store p1_store_n t_kind t_start n) := by
  intro n
  induction n with
  | zero => intro t_next t_number h; exact nomatch h
  | succ n ih =>
    intro t_next t_number h H locs ls hw hl
    rw [m_X7_step_b118] at h
    obtain ⟨⟨hx, hb, -, -, -⟩, -⟩ := id cx
    refine lv_aload_n hx hb dX7_step_118 rfl (lv_at hl 0 rfl) ?_
    refine rf_get hx hb cx hw 0 rfl rfl 14 inX7 (by decide) fl_X7_67 rfl rfl dX7_step_119 ?_
    refine lv_aload_n hx hb dX7_step_122 rfl (lv_at hl 1 rfl) ?_
    refine rf_get hx hb cx hw 6 rfl rfl 1 inX1 (by decide) fl_X7_122 rfl rfl dX7_step_123 ?_
    obtain ⟨g1, h⟩ := gd_some h
    obtain ⟨g2, h⟩ := gd_some h
    refine ri_icmp_ge (tgt := 198) hx hb g1 g2 dX7_step_126 (by decide) (fun c3 => ?_) (fun c3 => ?_)
    · have h := it_pos c3 h
      obtain rfl := so_inj h
      exact re_v hx hb hlk hr cx hw (Nat.le_of_ble_eq_true rfl) (Nat.le_of_ble_eq_true rfl) dX7_step_198
    · have h := it_neg c3 h
      refine lv_aload_n hx hb dX7_step_129 rfl (lv_at hl 1 rfl) ?_
      refine rf_get hx hb cx hw 6 rfl rfl 0 inX1 (by decide) fl_X7_113 rfl rfl dX7_step_130 ?_
      refine lv_aload_n hx hb dX7_step_133 rfl (lv_at hl 0 rfl) ?_
      refine rf_get hx hb cx hw 0 rfl rfl 14 inX7 (by decide) fl_X7_67 rfl rfl dX7_step_134 ?_
      obtain ⟨g4, h⟩ := gd_some h
      refine ra_i hx hb cx hw 7 rfl hn_p1_store g4 dX7_step_137 ?_
      obtain ⟨r5, h5, h⟩ := bd_some h
      refine rc_I0 (v := r5) hw [] (rr_S cx hw (c_X7_kindOf l G S H.size N (p1_store t_next) _ h5) mv_X7_128 [] rfl rfl rfl ⟨Nat.le_of_ble_eq_true rfl, Nat.le_of_ble_eq_true rfl⟩ rfl hl.1 rfl (Nat.le_of_ble_eq_true rfl) dX7_step_138 ⟨Nat.le_of_ble_eq_true rfl, Nat.le_of_ble_eq_true rfl⟩) rfl rfl (fun H locs hw => ?_)
      refine lv_aload_n hx hb dX7_step_141 rfl (lv_at hl 0 rfl) ?_
      refine rf_get hx hb cx hw 0 rfl rfl 12 inX7 (by decide) fl_X7_41 rfl rfl dX7_step_142 ?_
      obtain ⟨g6, h⟩ := gd_some h
      obtain ⟨g7, h⟩ := gd_some h
      refine ri_icmp_ne (tgt := 198) hx hb g6 g7 dX7_step_145 (by decide) (fun c8 => ?_) (fun c8 => ?_)
      · have h := it_pos c8 h
        refine lv_aload_n hx hb dX7_step_148 rfl (lv_at hl 0 rfl) ?_
        refine rf_get hx hb cx hw 0 rfl rfl 12 inX7 (by decide) fl_X7_41 rfl rfl dX7_step_149 ?_
        refine ri_iconst hx hb dX7_step_152 ?_
        refine ri_icmp_ne (tgt := 185) hx hb g7 ⟨by decide, by decide⟩ dX7_step_153 (by decide) (fun c9 => ?_) (fun c9 => ?_)
        · have h := it_pos c9 h
          refine lv_aload_n hx hb dX7_step_156 rfl (lv_at hl 0 rfl) ?_
          refine lv_aload_n hx hb dX7_step_157 rfl (lv_at hl 0 rfl) ?_
          refine rf_get hx hb cx hw 0 rfl rfl 15 inX7 (by decide) fl_X7_104 rfl rfl dX7_step_158 ?_
          refine ri_bipush hx hb dX7_step_161 rfl ?_
          refine ri_imul hx hb dX7_step_163 ?_
          refine lv_aload_n hx hb dX7_step_164 rfl (lv_at hl 1 rfl) ?_
          refine rf_get hx hb cx hw 6 rfl rfl 0 inX1 (by decide) fl_X7_113 rfl rfl dX7_step_165 ?_
          refine lv_aload_n hx hb dX7_step_168 rfl (lv_at hl 0 rfl) ?_
          refine rf_get hx hb cx hw 0 rfl rfl 14 inX7 (by decide) fl_X7_67 rfl rfl dX7_step_169 ?_
          refine ra_i hx hb cx hw 7 rfl hn_p1_store g4 dX7_step_172 ?_
          refine ri_iadd hx hb dX7_step_173 ?_
          refine ri_bipush hx hb dX7_step_174 rfl ?_
          refine ri_isub hx hb dX7_step_176 ?_
          refine lv_ldc (v := kI 1000000) hx hb cx.1.2.2.2.1 (cx.1.2.2.2.2 _ kc_X7_132) dX7_step_177 ?_
          obtain ⟨g10, h⟩ := gd_some h
          refine rj_min g10 ⟨by decide, by decide⟩ hx hb cx hl.1 jl_X7_133 (Nat.le_of_ble_eq_true rfl) (Nat.le_of_ble_eq_true rfl) (Nat.le_of_ble_eq_true rfl) (Nat.le_of_ble_eq_true rfl) dX7_step_179 ?_
          refine rf_put hx hb cx hw 0 rfl rfl 15 inX7 tyX7 tyX7_ok nmX7 (by decide) fl_X7_104 rfl rfl rfl rfl (Nat.le_of_ble_eq_true rfl) dX7_step_182 (fun H locs hw => ?_)
          have hw : HP G A s.heap H locs [(a_t, .inr (6, [.ref a_t_score, .ref a_t_good, .ref a_t_bad, .ref a_t_open, .ref a_t_costs, .int (kI t_ats), .int (kI t_lines), .int (kI t_least), .int (kI t_most), .int (kI t_faultKind), .int (kI t_faultPlace), .int (kI t_toldLines), .int (kI t_kind), .int (kI t_start), .int (kI t_next), .int (kI (min (((t_number * 10) + (p1_store t_next)) - 48) 1000000))])), (a_t_score, cAI G 60 t_score), (a_t_good, cAI G 60 t_good), (a_t_bad, cAI G 60 t_bad), (a_t_open, cAI G 60 t_open), (a_t_costs, cAI G 3 t_costs), (a_p1, .inr (1, [.ref a_p1_store, .int (kI p1_size)])), (a_p1_store, cAI G p1_store_n p1_store)] := hw
          exact w_X7_step_b185 cx hlk hr N a_t a_t_score a_t_good a_t_bad a_t_open a_t_costs a_p1 a_p1_store t_ats t_lines t_least t_most t_faultKind t_faultPlace t_toldLines t_score t_good t_bad t_open t_costs p1_size p1_store p1_store_n t_kind t_start hn_p1_store r (m_X7_step_b118 N t_faultKind p1_size p1_store p1_store_n t_kind t_start n) ih t_next (min (((t_number * 10) + (p1_store t_next)) - 48) 1000000) h _ _ _ hw (lv_sub hl [0, 1] rfl)
        · have h := it_neg c9 h
          exact w_X7_step_b185 cx hlk hr N a_t a_t_score a_t_good a_t_bad a_t_open a_t_costs a_p1 a_p1_store t_ats t_lines t_least t_most t_faultKind t_faultPlace t_toldLines t_score t_good t_bad t_open t_costs p1_size p1_store p1_store_n t_kind t_start hn_p1_store r (m_X7_step_b118 N t_faultKind p1_size p1_store p1_store_n t_kind t_start n) ih t_next t_number h _ _ _ hw (lv_sub hl [0, 1] rfl)
      · have h := it_neg c8 h
        obtain rfl := so_inj h
        exact re_v hx hb hlk hr cx hw (Nat.le_of_ble_eq_true rfl) (Nat.le_of_ble_eq_true rfl) dX7_step_198
set_option maxHeartbeats 4000000 in
set_option maxRecDepth 100000 in
theorem w_X7_step_b83 {p : Program} {l : Launch} {e : Env} {s : State} {m : MethodId} {args : Array Value} {below : List Frame} {meth : Method} {c : Code} {A : Nat → Prop} {G : GG} {S : SM} (cx : CX p s m args c cX7_step RX7 2 G S A) (hlk : meth.locks = false) (hr : meth.sig.returnType = none) (N : Nat) (a_t a_t_score a_t_good a_t_bad a_t_open a_t_costs a_p1 a_p1_store : Nat) (t_ats : Int) (t_lines : Int) (t_least : Int) (t_most : Int) (t_faultKind : Int) (t_faultPlace : Int) (t_toldLines : Int) (t_score : Int → Int) (t_good : Int → Int) (t_bad : Int → Int) (t_open : Int → Int) (t_costs : Int → Int) (p1_size : Int) (p1_store : Int → Int) (p1_store_n : Nat) (hn_p1_store : p1_store_n < 2147483648) (r : Int × Int × Int × Int) : ∀ (t_kind : Int) (t_start : Int) (t_next : Int) (t_number : Int) (s1 : Int), m_X7_step_b83 N t_faultKind p1_size p1_store p1_store_n t_kind t_start t_next t_number s1 = some r → ∀ (H : Heap) (locs : List Loc) (ls : Array Slot), HP G A s.heap H locs [(a_t, .inr (6, [.ref a_t_score, .ref a_t_good, .ref a_t_bad, .ref a_t_open, .ref a_t_costs, .int (kI t_ats), .int (kI t_lines), .int (kI t_least), .int (kI t_most), .int (kI t_faultKind), .int (kI t_faultPlace), .int (kI t_toldLines), .int (kI t_kind), .int (kI t_start), .int (kI t_next), .int (kI t_number)])), (a_t_score, cAI G 60 t_score), (a_t_good, cAI G 60 t_good), (a_t_bad, cAI G 60 t_bad), (a_t_open, cAI G 60 t_open), (a_t_costs, cAI G 3 t_costs), (a_p1, .inr (1, [.ref a_p1_store, .int (kI p1_size)])), (a_p1_store, cAI G p1_store_n p1_store)] → lv_has ls 2 [(0, .ref a_t), (1, .ref a_p1)] → W p l e (rmD 2 0 0) s m args below meth c H locs 0 0 (MQ below (QcV G A [(a_t, .inr (6, [.ref a_t_score, .ref a_t_good, .ref a_t_bad, .ref a_t_open, .ref a_t_costs, .int (kI t_ats), .int (kI t_lines), .int (kI t_least), .int (kI t_most), .int (kI t_faultKind), .int (kI t_faultPlace), .int (kI t_toldLines), .int (kI r.1), .int (kI r.2.1), .int (kI r.2.2.1), .int (kI r.2.2.2)])), (a_t_score, cAI G 60 t_score), (a_t_good, cAI G 60 t_good), (a_t_bad, cAI G 60 t_bad), (a_t_open, cAI G 60 t_open), (a_t_costs, cAI G 3 t_costs), (a_p1, .inr (1, [.ref a_p1_store, .int (kI p1_size)])), (a_p1_store, cAI G p1_store_n p1_store)]) args s (rmD 2 0 0).cells (rmD 2 0 0).slots A) (F0 m 83 ls [.int (kI s1), .ref a_t]) := by
  intro t_kind t_start t_next t_number s1 h H locs ls hw hl
  rw [m_X7_step_b83] at h
  obtain ⟨⟨hx, hb, -, -, -⟩, -⟩ := id cx
  refine rf_put hx hb cx hw 0 rfl rfl 12 inX7 tyX7 tyX7_ok nmX7 (by decide) fl_X7_41 rfl rfl rfl rfl (Nat.le_of_ble_eq_true rfl) dX7_step_83 (fun H locs hw => ?_)
  have hw : HP G A s.heap H locs [(a_t, .inr (6, [.ref a_t_score, .ref a_t_good, .ref a_t_bad, .ref a_t_open, .ref a_t_costs, .int (kI t_ats), .int (kI t_lines), .int (kI t_least), .int (kI t_most), .int (kI t_faultKind), .int (kI t_faultPlace), .int (kI t_toldLines), .int (kI s1), .int (kI t_start), .int (kI t_next), .int (kI t_number)])), (a_t_score, cAI G 60 t_score), (a_t_good, cAI G 60 t_good), (a_t_bad, cAI G 60 t_bad), (a_t_open, cAI G 60 t_open), (a_t_costs, cAI G 3 t_costs), (a_p1, .inr (1, [.ref a_p1_store, .int (kI p1_size)])), (a_p1_store, cAI G p1_store_n p1_store)] := hw
  refine lv_aload_n hx hb dX7_step_86 rfl (lv_at hl 0 rfl) ?_
  refine ri_iconst hx hb dX7_step_87 ?_
  refine rf_put hx hb cx hw 0 rfl rfl 15 inX7 tyX7 tyX7_ok nmX7 (by decide) fl_X7_104 rfl rfl rfl rfl (Nat.le_of_ble_eq_true rfl) dX7_step_88 (fun H locs hw => ?_)
  have hw : HP G A s.heap H locs [(a_t, .inr (6, [.ref a_t_score, .ref a_t_good, .ref a_t_bad, .ref a_t_open, .ref a_t_costs, .int (kI t_ats), .int (kI t_lines), .int (kI t_least), .int (kI t_most), .int (kI t_faultKind), .int (kI t_faultPlace), .int (kI t_toldLines), .int (kI s1), .int (kI t_start), .int (kI t_next), .int (kI 0)])), (a_t_score, cAI G 60 t_score), (a_t_good, cAI G 60 t_good), (a_t_bad, cAI G 60 t_bad), (a_t_open, cAI G 60 t_open), (a_t_costs, cAI G 3 t_costs), (a_p1, .inr (1, [.ref a_p1_store, .int (kI p1_size)])), (a_p1_store, cAI G p1_store_n p1_store)] := hw
  refine lv_aload_n hx hb dX7_step_91 rfl (lv_at hl 0 rfl) ?_
  refine rf_get hx hb cx hw 0 rfl rfl 12 inX7 (by decide) fl_X7_41 rfl rfl dX7_step_92 ?_
  refine ri_iconst hx hb dX7_step_95 ?_
  obtain ⟨g1, h⟩ := gd_some h
  refine ri_icmp_eq (tgt := 107) hx hb g1 ⟨by decide, by decide⟩ dX7_step_96 (by decide) (fun c2 => ?_) (fun c2 => ?_)
  · have h := it_pos c2 h
    exact w_X7_step_b107 cx hlk hr N a_t a_t_score a_t_good a_t_bad a_t_open a_t_costs a_p1 a_p1_store t_ats t_lines t_least t_most t_faultKind t_faultPlace t_toldLines t_score t_good t_bad t_open t_costs p1_size p1_store p1_store_n hn_p1_store r s1 t_start t_next 0 h _ _ _ hw (lv_sub hl [0] rfl)
  · have h := it_neg c2 h
    refine lv_aload_n hx hb dX7_step_99 rfl (lv_at hl 0 rfl) ?_
    refine rf_get hx hb cx hw 0 rfl rfl 12 inX7 (by decide) fl_X7_41 rfl rfl dX7_step_100 ?_
    refine ri_iconst hx hb dX7_step_103 ?_
    refine ri_icmp_ne (tgt := 118) hx hb g1 ⟨by decide, by decide⟩ dX7_step_104 (by decide) (fun c3 => ?_) (fun c3 => ?_)
    · have h := it_pos c3 h
      exact w_X7_step_b107 cx hlk hr N a_t a_t_score a_t_good a_t_bad a_t_open a_t_costs a_p1 a_p1_store t_ats t_lines t_least t_most t_faultKind t_faultPlace t_toldLines t_score t_good t_bad t_open t_costs p1_size p1_store p1_store_n hn_p1_store r s1 t_start t_next 0 h _ _ _ hw (lv_sub hl [0] rfl)
    · have h := it_neg c3 h
      exact w_X7_step_b118 cx hlk hr N a_t a_t_score a_t_good a_t_bad a_t_open a_t_costs a_p1 a_p1_store t_ats t_lines t_least t_most t_faultKind t_faultPlace t_toldLines t_score t_good t_bad t_open t_costs p1_size p1_store p1_store_n s1 t_start hn_p1_store r N t_next 0 h _ _ _ hw (lv_sub hl [0, 1] rfl)
set_option maxHeartbeats 4000000 in
set_option maxRecDepth 100000 in
theorem w_X7_step_b47 {p : Program} {l : Launch} {e : Env} {s : State} {m : MethodId} {args : Array Value} {below : List Frame} {meth : Method} {c : Code} {A : Nat → Prop} {G : GG} {S : SM} (cx : CX p s m args c cX7_step RX7 2 G S A) (hlk : meth.locks = false) (hr : meth.sig.returnType = none) (N : Nat) (a_t a_t_score a_t_good a_t_bad a_t_open a_t_costs a_p1 a_p1_store : Nat) (t_ats : Int) (t_lines : Int) (t_least : Int) (t_most : Int) (t_faultKind : Int) (t_faultPlace : Int) (t_toldLines : Int) (t_score : Int → Int) (t_good : Int → Int) (t_bad : Int → Int) (t_open : Int → Int) (t_costs : Int → Int) (p1_size : Int) (p1_store : Int → Int) (p1_store_n : Nat) (hn_p1_store : p1_store_n < 2147483648) (r : Int × Int × Int × Int) : ∀ (t_kind : Int) (t_start : Int) (t_next : Int) (t_number : Int), m_X7_step_b47 N t_faultKind p1_size p1_store p1_store_n t_kind t_start t_next t_number = some r → ∀ (H : Heap) (locs : List Loc) (ls : Array Slot), HP G A s.heap H locs [(a_t, .inr (6, [.ref a_t_score, .ref a_t_good, .ref a_t_bad, .ref a_t_open, .ref a_t_costs, .int (kI t_ats), .int (kI t_lines), .int (kI t_least), .int (kI t_most), .int (kI t_faultKind), .int (kI t_faultPlace), .int (kI t_toldLines), .int (kI t_kind), .int (kI t_start), .int (kI t_next), .int (kI t_number)])), (a_t_score, cAI G 60 t_score), (a_t_good, cAI G 60 t_good), (a_t_bad, cAI G 60 t_bad), (a_t_open, cAI G 60 t_open), (a_t_costs, cAI G 3 t_costs), (a_p1, .inr (1, [.ref a_p1_store, .int (kI p1_size)])), (a_p1_store, cAI G p1_store_n p1_store)] → lv_has ls 2 [(0, .ref a_t), (1, .ref a_p1)] → W p l e (rmD 2 0 0) s m args below meth c H locs 0 0 (MQ below (QcV G A [(a_t, .inr (6, [.ref a_t_score, .ref a_t_good, .ref a_t_bad, .ref a_t_open, .ref a_t_costs, .int (kI t_ats), .int (kI t_lines), .int (kI t_least), .int (kI t_most), .int (kI t_faultKind), .int (kI t_faultPlace), .int (kI t_toldLines), .int (kI r.1), .int (kI r.2.1), .int (kI r.2.2.1), .int (kI r.2.2.2)])), (a_t_score, cAI G 60 t_score), (a_t_good, cAI G 60 t_good), (a_t_bad, cAI G 60 t_bad), (a_t_open, cAI G 60 t_open), (a_t_costs, cAI G 3 t_costs), (a_p1, .inr (1, [.ref a_p1_store, .int (kI p1_size)])), (a_p1_store, cAI G p1_store_n p1_store)]) args s (rmD 2 0 0).cells (rmD 2 0 0).slots A) (F0 m 47 ls []) := by
  intro t_kind t_start t_next t_number h H locs ls hw hl
  rw [m_X7_step_b47] at h
  obtain ⟨⟨hx, hb, -, -, -⟩, -⟩ := id cx
  refine lv_aload_n hx hb dX7_step_47 rfl (lv_at hl 0 rfl) ?_
  refine lv_aload_n hx hb dX7_step_48 rfl (lv_at hl 0 rfl) ?_
  refine rf_get hx hb cx hw 0 rfl rfl 14 inX7 (by decide) fl_X7_67 rfl rfl dX7_step_49 ?_
  refine rf_put hx hb cx hw 0 rfl rfl 13 inX7 tyX7 tyX7_ok nmX7 (by decide) fl_X7_70 rfl rfl rfl rfl (Nat.le_of_ble_eq_true rfl) dX7_step_52 (fun H locs hw => ?_)
  have hw : HP G A s.heap H locs [(a_t, .inr (6, [.ref a_t_score, .ref a_t_good, .ref a_t_bad, .ref a_t_open, .ref a_t_costs, .int (kI t_ats), .int (kI t_lines), .int (kI t_least), .int (kI t_most), .int (kI t_faultKind), .int (kI t_faultPlace), .int (kI t_toldLines), .int (kI t_kind), .int (kI t_next), .int (kI t_next), .int (kI t_number)])), (a_t_score, cAI G 60 t_score), (a_t_good, cAI G 60 t_good), (a_t_bad, cAI G 60 t_bad), (a_t_open, cAI G 60 t_open), (a_t_costs, cAI G 3 t_costs), (a_p1, .inr (1, [.ref a_p1_store, .int (kI p1_size)])), (a_p1_store, cAI G p1_store_n p1_store)] := hw
  refine lv_aload_n hx hb dX7_step_55 rfl (lv_at hl 0 rfl) ?_
  refine lv_aload_n hx hb dX7_step_56 rfl (lv_at hl 0 rfl) ?_
  refine rf_get hx hb cx hw 0 rfl rfl 14 inX7 (by decide) fl_X7_67 rfl rfl dX7_step_57 ?_
  refine lv_aload_n hx hb dX7_step_60 rfl (lv_at hl 1 rfl) ?_
  refine rf_get hx hb cx hw 6 rfl rfl 1 inX1 (by decide) fl_X7_122 rfl rfl dX7_step_61 ?_
  obtain ⟨g1, h⟩ := gd_some h
  obtain ⟨g2, h⟩ := gd_some h
  refine ri_icmp_ge (tgt := 82) hx hb g1 g2 dX7_step_64 (by decide) (fun c3 => ?_) (fun c3 => ?_)
  · have h := it_pos c3 h
    refine ri_iconst hx hb dX7_step_82 ?_
    exact w_X7_step_b83 cx hlk hr N a_t a_t_score a_t_good a_t_bad a_t_open a_t_costs a_p1 a_p1_store t_ats t_lines t_least t_most t_faultKind t_faultPlace t_toldLines t_score t_good t_bad t_open t_costs p1_size p1_store p1_store_n hn_p1_store r t_kind t_next t_next t_number 0 h _ _ _ hw (lv_sub hl [0, 1] rfl)
  · have h := it_neg c3 h
    refine lv_aload_n hx hb dX7_step_67 rfl (lv_at hl 1 rfl) ?_
    refine rf_get hx hb cx hw 6 rfl rfl 0 inX1 (by decide) fl_X7_113 rfl rfl dX7_step_68 ?_
    refine lv_aload_n hx hb dX7_step_71 rfl (lv_at hl 0 rfl) ?_
    refine rf_get hx hb cx hw 0 rfl rfl 14 inX7 (by decide) fl_X7_67 rfl rfl dX7_step_72 ?_
    obtain ⟨g4, h⟩ := gd_some h
    refine ra_i hx hb cx hw 7 rfl hn_p1_store g4 dX7_step_75 ?_
    obtain ⟨r5, h5, h⟩ := bd_some h
    refine rc_I0 (v := r5) hw [] (rr_S cx hw (c_X7_kindOf l G S H.size N (p1_store t_next) _ h5) mv_X7_128 [] rfl rfl rfl ⟨Nat.le_of_ble_eq_true rfl, Nat.le_of_ble_eq_true rfl⟩ rfl hl.1 rfl (Nat.le_of_ble_eq_true rfl) dX7_step_76 ⟨Nat.le_of_ble_eq_true rfl, Nat.le_of_ble_eq_true rfl⟩) rfl rfl (fun H locs hw => ?_)
    refine lv_goto (tgt := 83) hx hb dX7_step_79 (by decide) ?_
    exact w_X7_step_b83 cx hlk hr N a_t a_t_score a_t_good a_t_bad a_t_open a_t_costs a_p1 a_p1_store t_ats t_lines t_least t_most t_faultKind t_faultPlace t_toldLines t_score t_good t_bad t_open t_costs p1_size p1_store p1_store_n hn_p1_store r t_kind t_next t_next t_number r5 h _ _ _ hw (lv_sub hl [0, 1] rfl)
set_option maxHeartbeats 4000000 in
set_option maxRecDepth 100000 in
theorem w_X7_step_b8 {p : Program} {l : Launch} {e : Env} {s : State} {m : MethodId} {args : Array Value} {below : List Frame} {meth : Method} {c : Code} {A : Nat → Prop} {G : GG} {S : SM} (cx : CX p s m args c cX7_step RX7 2 G S A) (hlk : meth.locks = false) (hr : meth.sig.returnType = none) (N : Nat) (a_t a_t_score a_t_good a_t_bad a_t_open a_t_costs a_p1 a_p1_store : Nat) (t_ats : Int) (t_lines : Int) (t_least : Int) (t_most : Int) (t_faultKind : Int) (t_faultPlace : Int) (t_toldLines : Int) (t_score : Int → Int) (t_good : Int → Int) (t_bad : Int → Int) (t_open : Int → Int) (t_costs : Int → Int) (p1_size : Int) (p1_store : Int → Int) (p1_store_n : Nat) (t_kind : Int) (t_start : Int) (t_number : Int) (hn_p1_store : p1_store_n < 2147483648) (r : Int × Int × Int × Int) : ∀ n : Nat, PL_X7_step_b8 p l e s m args below meth c A G S a_t a_t_score a_t_good a_t_bad a_t_open a_t_costs a_p1 a_p1_store t_ats t_lines t_least t_most t_faultKind t_faultPlace t_toldLines t_score t_good t_bad t_open t_costs p1_size p1_store p1_store_n t_kind t_start t_number r (m_X7_step_b8 N t_faultKind p1_size p1_store p1_store_n t_kind t_start t_number n) := by
  intro n
  induction n with
  | zero => intro t_next h; exact nomatch h
  | succ n ih =>
    intro t_next h H locs ls hw hl
    rw [m_X7_step_b8] at h
    obtain ⟨⟨hx, hb, -, -, -⟩, -⟩ := id cx
    refine lv_aload_n hx hb dX7_step_8 rfl (lv_at hl 0 rfl) ?_
    refine rf_get hx hb cx hw 0 rfl rfl 14 inX7 (by decide) fl_X7_67 rfl rfl dX7_step_9 ?_
    refine lv_aload_n hx hb dX7_step_12 rfl (lv_at hl 1 rfl) ?_
    refine rf_get hx hb cx hw 6 rfl rfl 1 inX1 (by decide) fl_X7_122 rfl rfl dX7_step_13 ?_
    obtain ⟨g1, h⟩ := gd_some h
    obtain ⟨g2, h⟩ := gd_some h
    refine ri_icmp_ge (tgt := 47) hx hb g1 g2 dX7_step_16 (by decide) (fun c3 => ?_) (fun c3 => ?_)
    · have h := it_pos c3 h
      exact w_X7_step_b47 cx hlk hr N a_t a_t_score a_t_good a_t_bad a_t_open a_t_costs a_p1 a_p1_store t_ats t_lines t_least t_most t_faultKind t_faultPlace t_toldLines t_score t_good t_bad t_open t_costs p1_size p1_store p1_store_n hn_p1_store r t_kind t_start t_next t_number h _ _ _ hw (lv_sub hl [0, 1] rfl)
    · have h := it_neg c3 h
      refine lv_aload_n hx hb dX7_step_19 rfl (lv_at hl 1 rfl) ?_
      refine rf_get hx hb cx hw 6 rfl rfl 0 inX1 (by decide) fl_X7_113 rfl rfl dX7_step_20 ?_
      refine lv_aload_n hx hb dX7_step_23 rfl (lv_at hl 0 rfl) ?_
      refine rf_get hx hb cx hw 0 rfl rfl 14 inX7 (by decide) fl_X7_67 rfl rfl dX7_step_24 ?_
      obtain ⟨g4, h⟩ := gd_some h
      refine ra_i hx hb cx hw 7 rfl hn_p1_store g4 dX7_step_27 ?_
      obtain ⟨r5, h5, h⟩ := bd_some h
      refine rc_I0 (v := r5) hw [] (rr_S cx hw (c_X7_isBlank l G S H.size N (p1_store t_next) _ h5) mv_X7_125 [] rfl rfl rfl ⟨Nat.le_of_ble_eq_true rfl, Nat.le_of_ble_eq_true rfl⟩ rfl hl.1 rfl (Nat.le_of_ble_eq_true rfl) dX7_step_28 ⟨Nat.le_of_ble_eq_true rfl, Nat.le_of_ble_eq_true rfl⟩) rfl rfl (fun H locs hw => ?_)
      obtain ⟨g6, h⟩ := gd_some h
      refine ri_if_eq (tgt := 47) hx hb g6 dX7_step_31 (by decide) (fun c7 => ?_) (fun c7 => ?_)
      · have h := it_pos c7 h
        exact w_X7_step_b47 cx hlk hr N a_t a_t_score a_t_good a_t_bad a_t_open a_t_costs a_p1 a_p1_store t_ats t_lines t_least t_most t_faultKind t_faultPlace t_toldLines t_score t_good t_bad t_open t_costs p1_size p1_store p1_store_n hn_p1_store r t_kind t_start t_next t_number h _ _ _ hw (lv_sub hl [0, 1] rfl)
      · have h := it_neg c7 h
        refine lv_aload_n hx hb dX7_step_34 rfl (lv_at hl 0 rfl) ?_
        refine lv_dup hx hb dX7_step_35 rfl ?_
        refine rf_get hx hb cx hw 0 rfl rfl 14 inX7 (by decide) fl_X7_67 rfl rfl dX7_step_36 ?_
        refine ri_iconst hx hb dX7_step_39 ?_
        refine ri_iadd hx hb dX7_step_40 ?_
        refine rf_put hx hb cx hw 0 rfl rfl 14 inX7 tyX7 tyX7_ok nmX7 (by decide) fl_X7_67 rfl rfl rfl rfl (Nat.le_of_ble_eq_true rfl) dX7_step_41 (fun H locs hw => ?_)
        have hw : HP G A s.heap H locs [(a_t, .inr (6, [.ref a_t_score, .ref a_t_good, .ref a_t_bad, .ref a_t_open, .ref a_t_costs, .int (kI t_ats), .int (kI t_lines), .int (kI t_least), .int (kI t_most), .int (kI t_faultKind), .int (kI t_faultPlace), .int (kI t_toldLines), .int (kI t_kind), .int (kI t_start), .int (kI (t_next + 1)), .int (kI t_number)])), (a_t_score, cAI G 60 t_score), (a_t_good, cAI G 60 t_good), (a_t_bad, cAI G 60 t_bad), (a_t_open, cAI G 60 t_open), (a_t_costs, cAI G 3 t_costs), (a_p1, .inr (1, [.ref a_p1_store, .int (kI p1_size)])), (a_p1_store, cAI G p1_store_n p1_store)] := hw
        refine lv_goto (tgt := 8) hx hb dX7_step_44 (by decide) ?_
        exact ih (t_next + 1) h _ _ _ hw (lv_sub hl [0, 1] rfl)
set_option maxHeartbeats 4000000 in
set_option maxRecDepth 100000 in
theorem c_X7_step (l : Launch) (G : GG) (S : SM) (sz : Nat) (N : Nat) (a_t a_t_score a_t_good a_t_bad a_t_open a_t_costs a_p1 a_p1_store : Nat) (t_ats : Int) (t_lines : Int) (t_least : Int) (t_most : Int) (t_faultKind : Int) (t_faultPlace : Int) (t_toldLines : Int) (t_kind : Int) (t_start : Int) (t_next : Int) (t_number : Int) (t_score : Int → Int) (t_good : Int → Int) (t_bad : Int → Int) (t_open : Int → Int) (t_costs : Int → Int) (p1_size : Int) (p1_store : Int → Int) (p1_store_n : Nat)  (hn_p1_store : p1_store_n < 2147483648) (r : Int × Int × Int × Int) (h : m_X7_step N t_faultKind p1_size p1_store p1_store_n t_kind t_start t_next t_number = some r) : CtV l yX7_step cX7_step 2 (rmD 2 0 0) G S sz [.ref a_t, .ref a_p1] [(a_t, .inr (6, [.ref a_t_score, .ref a_t_good, .ref a_t_bad, .ref a_t_open, .ref a_t_costs, .int (kI t_ats), .int (kI t_lines), .int (kI t_least), .int (kI t_most), .int (kI t_faultKind), .int (kI t_faultPlace), .int (kI t_toldLines), .int (kI t_kind), .int (kI t_start), .int (kI t_next), .int (kI t_number)])), (a_t_score, cAI G 60 t_score), (a_t_good, cAI G 60 t_good), (a_t_bad, cAI G 60 t_bad), (a_t_open, cAI G 60 t_open), (a_t_costs, cAI G 3 t_costs), (a_p1, .inr (1, [.ref a_p1_store, .int (kI p1_size)])), (a_p1_store, cAI G p1_store_n p1_store)] [(a_t, .inr (6, [.ref a_t_score, .ref a_t_good, .ref a_t_bad, .ref a_t_open, .ref a_t_costs, .int (kI t_ats), .int (kI t_lines), .int (kI t_least), .int (kI t_most), .int (kI t_faultKind), .int (kI t_faultPlace), .int (kI t_toldLines), .int (kI r.1), .int (kI r.2.1), .int (kI r.2.2.1), .int (kI r.2.2.2)])), (a_t_score, cAI G 60 t_score), (a_t_good, cAI G 60 t_good), (a_t_bad, cAI G 60 t_bad), (a_t_open, cAI G 60 t_open), (a_t_costs, cAI G 3 t_costs), (a_p1, .inr (1, [.ref a_p1_store, .int (kI p1_size)])), (a_p1_store, cAI G p1_store_n p1_store)] := by
  refine met_V (by decide +kernel) (Nat.le_of_ble_eq_true rfl) ?_
  intro p e s m args below meth c A H locs ls cx hw hr hlk hnm hl
  have hl : lv_has ls 2 [(0, .ref a_t), (1, .ref a_p1)] := hl
  rw [m_X7_step] at h
  obtain ⟨⟨hx, hb, -, -, -⟩, -⟩ := id cx
  refine lv_aload_n hx hb dX7_step_0 rfl (lv_at hl 0 rfl) ?_
  refine rf_get hx hb cx hw 0 rfl rfl 9 inX7 (by decide) fl_X7_38 rfl rfl dX7_step_1 ?_
  obtain ⟨g1, h⟩ := gd_some h
  refine ri_if_eq (tgt := 8) hx hb g1 dX7_step_4 (by decide) (fun c2 => ?_) (fun c2 => ?_)
  · have h := it_pos c2 h
    exact w_X7_step_b8 cx hlk hr N a_t a_t_score a_t_good a_t_bad a_t_open a_t_costs a_p1 a_p1_store t_ats t_lines t_least t_most t_faultKind t_faultPlace t_toldLines t_score t_good t_bad t_open t_costs p1_size p1_store p1_store_n t_kind t_start t_number hn_p1_store r N t_next h _ _ _ hw (lv_sub hl [0, 1] rfl)
  · have h := it_neg c2 h
    obtain rfl := so_inj h
    exact re_v hx hb hlk hr cx hw (Nat.le_of_ble_eq_true rfl) (Nat.le_of_ble_eq_true rfl) dX7_step_7
