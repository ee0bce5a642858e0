set_option maxHeartbeats 4000000 in
set_option maxRecDepth 100000 in
theorem w_X12_octet_b15 {p : Program} {l : Launch} {e : Env} {s : State} {m : MethodId} {args : Array Value} {below : List Frame} {meth : Method} {c : Code} {A : Nat → Prop} {G : GG} {S : SM} (cx : CX p s m args c cX12_octet RX12 2 G S A) (hlk : meth.locks = false) (hr : meth.sig.returnType = some .int) (N : Nat) (a_t a_t_out a_t_out_store a_t_tape a_t_reader a_t_stock a_t_rows a_t_pure a_t_bands a_t_best a_t_drawn a_t_drawnPure a_t_inferred a_t_decisions a_t_acts a_t_months a_t_spread a_sp : Nat) (t_empty : Nat) (t_latest : Nat) (t_kept : Int) (t_settled : Int) (t_out_size : Int) (t_out_store : Int → Int) (t_sp : Int) (x1 : Int) (r : Int) : m_X12_octet_b15 N t_out_size t_out_store x1 = some r → ∀ (H : Heap) (locs : List Loc) (ls : Array Slot), HP G A s.heap H locs [(a_t, .inr (11, [.ref a_t_tape, .ref a_t_out, .ref a_t_reader, .ref a_t_stock, .ref a_t_rows, .ref a_t_pure, .ref a_t_bands, .ref a_t_best, .ref a_t_drawn, .ref a_t_drawnPure, .ref a_t_inferred, .ref a_t_decisions, .ref a_t_acts, .ref t_empty, .ref a_t_months, .ref a_t_spread, spV t_sp a_sp, .ref t_latest, .int (kI t_kept), .int (kI t_settled)])), (a_t_out, .inr (1, [.ref a_t_out_store, .int (kI t_out_size)])), (a_t_out_store, cAI G 1080 t_out_store)] → lv_has ls 2 [] → W p l e (rmD 1 0 0) s m args below meth c H locs 0 0 (MQ below (QcI G A r [(a_t, .inr (11, [.ref a_t_tape, .ref a_t_out, .ref a_t_reader, .ref a_t_stock, .ref a_t_rows, .ref a_t_pure, .ref a_t_bands, .ref a_t_best, .ref a_t_drawn, .ref a_t_drawnPure, .ref a_t_inferred, .ref a_t_decisions, .ref a_t_acts, .ref t_empty, .ref a_t_months, .ref a_t_spread, spV t_sp a_sp, .ref t_latest, .int (kI t_kept), .int (kI t_settled)])), (a_t_out, .inr (1, [.ref a_t_out_store, .int (kI t_out_size)])), (a_t_out_store, cAI G 1080 t_out_store)]) args s (rmD 1 0 0).cells (rmD 1 0 0).slots A) (F0 m 15 ls []) := by
  intro  h H locs ls hw hl
  rw [m_X12_octet_b15] at h
  obtain ⟨⟨hx, hb, -, -, -⟩, -⟩ := id cx
  refine ri_iconst hx hb dX12_octet_15 ?_
  refine lv_goto (tgt := 28) hx hb dX12_octet_16 (by decide) ?_
  obtain rfl := so_inj h
  exact re_i hx hb hlk hr cx hw (Nat.le_of_ble_eq_true rfl) (Nat.le_of_ble_eq_true rfl) dX12_octet_28
set_option maxHeartbeats 4000000 in
set_option maxRecDepth 100000 in
theorem c_X12_octet (l : Launch) (G : GG) (S : SM) (sz : Nat) (N : Nat) (a_t a_t_out a_t_out_store a_t_tape a_t_reader a_t_stock a_t_rows a_t_pure a_t_bands a_t_best a_t_drawn a_t_drawnPure a_t_inferred a_t_decisions a_t_acts a_t_months a_t_spread a_sp : Nat) (t_empty : Nat) (t_latest : Nat) (t_kept : Int) (t_settled : Int) (t_out_size : Int) (t_out_store : Int → Int) (t_sp : Int) (x1 : Int) (r : Int) (h : m_X12_octet N t_out_size t_out_store x1 = some r) : CtI l yX12_octet cX12_octet 2 .int (rmD 1 0 0) G S sz [.ref a_t, .int (kI x1)] [(a_t, .inr (11, [.ref a_t_tape, .ref a_t_out, .ref a_t_reader, .ref a_t_stock, .ref a_t_rows, .ref a_t_pure, .ref a_t_bands, .ref a_t_best, .ref a_t_drawn, .ref a_t_drawnPure, .ref a_t_inferred, .ref a_t_decisions, .ref a_t_acts, .ref t_empty, .ref a_t_months, .ref a_t_spread, spV t_sp a_sp, .ref t_latest, .int (kI t_kept), .int (kI t_settled)])), (a_t_out, .inr (1, [.ref a_t_out_store, .int (kI t_out_size)])), (a_t_out_store, cAI G 1080 t_out_store)] r [(a_t, .inr (11, [.ref a_t_tape, .ref a_t_out, .ref a_t_reader, .ref a_t_stock, .ref a_t_rows, .ref a_t_pure, .ref a_t_bands, .ref a_t_best, .ref a_t_drawn, .ref a_t_drawnPure, .ref a_t_inferred, .ref a_t_decisions, .ref a_t_acts, .ref t_empty, .ref a_t_months, .ref a_t_spread, spV t_sp a_sp, .ref t_latest, .int (kI t_kept), .int (kI t_settled)])), (a_t_out, .inr (1, [.ref a_t_out_store, .int (kI t_out_size)])), (a_t_out_store, cAI G 1080 t_out_store)] := by
  refine met_I (by decide +kernel) (Nat.le_of_ble_eq_true rfl) ?_
  intro p e s m args below meth c A H locs ls cx hw hr hlk hnm hl
  have hl : lv_has ls 2 [(0, .ref a_t), (1, .int (kI x1))] := hl
  rw [m_X12_octet] at h
  obtain ⟨⟨hx, hb, -, -, -⟩, -⟩ := id cx
  refine lv_iload_n hx hb dX12_octet_0 rfl (lv_at hl 1 rfl) ?_
  obtain ⟨g1, h⟩ := gd_some h
  refine ri_if_lt (tgt := 15) hx hb g1 dX12_octet_1 (by decide) (fun c2 => ?_) (fun c2 => ?_)
  · have h := it_pos c2 h
    exact w_X12_octet_b15 cx hlk hr N a_t a_t_out a_t_out_store a_t_tape a_t_reader a_t_stock a_t_rows a_t_pure a_t_bands a_t_best a_t_drawn a_t_drawnPure a_t_inferred a_t_decisions a_t_acts a_t_months a_t_spread a_sp t_empty t_latest t_kept t_settled t_out_size t_out_store t_sp x1 r  h _ _ _ hw (lv_sub hl [] rfl)
  · have h := it_neg c2 h
    refine lv_iload_n hx hb dX12_octet_4 rfl (lv_at hl 1 rfl) ?_
    refine lv_aload_n hx hb dX12_octet_5 rfl (lv_at hl 0 rfl) ?_
    refine rf_get hx hb cx hw 0 rfl rfl 1 inX12 (by decide) fl_X12_20 rfl rfl dX12_octet_6 ?_
    refine rf_get hx hb cx hw 1 rfl rfl 1 inX1 (by decide) fl_X12_127 rfl rfl dX12_octet_9 ?_
    obtain ⟨g3, h⟩ := gd_some h
    refine ri_icmp_lt (tgt := 19) hx hb g1 g3 dX12_octet_12 (by decide) (fun c4 => ?_) (fun c4 => ?_)
    · have h := it_pos c4 h
      refine lv_aload_n hx hb dX12_octet_19 rfl (lv_at hl 0 rfl) ?_
      refine rf_get hx hb cx hw 0 rfl rfl 1 inX12 (by decide) fl_X12_20 rfl rfl dX12_octet_20 ?_
      refine rf_get hx hb cx hw 1 rfl rfl 0 inX1 (by decide) fl_X12_395 rfl rfl dX12_octet_23 ?_
      refine lv_iload_n hx hb dX12_octet_26 rfl (lv_at hl 1 rfl) ?_
      obtain ⟨g5, h⟩ := gd_some h
      refine ra_i hx hb cx hw 2 rfl (by decide) g5 dX12_octet_27 ?_
      obtain rfl := so_inj h
      exact re_i hx hb hlk hr cx hw (Nat.le_of_ble_eq_true rfl) (Nat.le_of_ble_eq_true rfl) dX12_octet_28
    · have h := it_neg c4 h
      exact w_X12_octet_b15 cx hlk hr N a_t a_t_out a_t_out_store a_t_tape a_t_reader a_t_stock a_t_rows a_t_pure a_t_bands a_t_best a_t_drawn a_t_drawnPure a_t_inferred a_t_decisions a_t_acts a_t_months a_t_spread a_sp t_empty t_latest t_kept t_settled t_out_size t_out_store t_sp x1 r  h _ _ _ hw (lv_sub hl [] rfl)
