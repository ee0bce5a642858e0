set_option maxHeartbeats 4000000 in
set_option maxRecDepth 100000 in
theorem c_X12_feed (l : Launch) (G : GG) (S : SM) (sz : Nat) (N : Nat) (a_t a_t_tape a_t_tape_store a_t_out a_t_reader a_t_stock a_t_rows a_t_pure a_t_bands a_t_best a_t_drawn a_t_drawnPure a_t_inferred a_t_decisions a_t_acts a_t_months a_t_spread a_sp : Nat) (t_empty : Nat) (t_latest : Nat) (t_kept : Int) (t_settled : Int) (t_tape_size : Int) (t_tape_store : Int → Int) (t_sp : Int) (x1 : Int) (x2 : Int) (x3 : Int) (x4 : Int) (x5 : Int) (r : Int × Int × (Int → Int)) (h : m_X12_feed N t_tape_size t_tape_store x1 x2 x3 x4 x5 = some r) : CtI l yX12_feed cX12_feed 6 .int (rmD 4 0 0) G S sz [.ref a_t, .int (kI x1), .int (kI x2), .int (kI x3), .int (kI x4), .int (kI x5)] [(a_t, .inr (11, [.ref a_t_tape, .ref a_t_out, .ref a_t_reader, .ref a_t_stock, .ref a_t_rows, .ref a_t_pure, .ref a_t_bands, .ref a_t_best, .ref a_t_drawn, .ref a_t_drawnPure, .ref a_t_inferred, .ref a_t_decisions, .ref a_t_acts, .ref t_empty, .ref a_t_months, .ref a_t_spread, spV t_sp a_sp, .ref t_latest, .int (kI t_kept), .int (kI t_settled)])), (a_t_tape, .inr (1, [.ref a_t_tape_store, .int (kI t_tape_size)])), (a_t_tape_store, cAI G 1600 t_tape_store)] r.1 [(a_t, .inr (11, [.ref a_t_tape, .ref a_t_out, .ref a_t_reader, .ref a_t_stock, .ref a_t_rows, .ref a_t_pure, .ref a_t_bands, .ref a_t_best, .ref a_t_drawn, .ref a_t_drawnPure, .ref a_t_inferred, .ref a_t_decisions, .ref a_t_acts, .ref t_empty, .ref a_t_months, .ref a_t_spread, spV t_sp a_sp, .ref t_latest, .int (kI t_kept), .int (kI t_settled)])), (a_t_tape, .inr (1, [.ref a_t_tape_store, .int (kI r.2.1)])), (a_t_tape_store, cAI G 1600 r.2.2)] := by
  refine met_I (by decide +kernel) (Nat.le_of_ble_eq_true rfl) ?_
  intro p e s m args below meth c A H locs ls cx hw hr hlk hnm hl
  have hl : lv_has ls 6 [(0, .ref a_t), (1, .int (kI x1)), (2, .int (kI x2)), (3, .int (kI x3)), (4, .int (kI x4)), (5, .int (kI x5))] := hl
  rw [m_X12_feed] at h
  obtain ⟨⟨hx, hb, -, -, -⟩, -⟩ := id cx
  refine lv_aload_n hx hb dX12_feed_0 rfl (lv_at hl 0 rfl) ?_
  refine rf_get hx hb cx hw 0 rfl rfl 0 inX12 (by decide) fl_X12_16 rfl rfl dX12_feed_1 ?_
  refine ri_bipush hx hb dX12_feed_4 rfl ?_
  obtain ⟨r1, h1, h⟩ := bd_some h
  refine rc_I0 (v := r1) hw [1, 2] (rr_V cx hw (c_X1_takes l G S H.size N a_t_tape a_t_tape_store t_tape_size t_tape_store 1600 20 (by decide) _ h1) mv_X12_120 [1, 2] rfl rfl rfl 1 rfl rfl ⟨Nat.le_of_ble_eq_true rfl, Nat.le_of_ble_eq_true rfl⟩ rfl hl.1 rfl (Nat.le_of_ble_eq_true rfl) dX12_feed_6 ⟨Nat.le_of_ble_eq_true rfl, Nat.le_of_ble_eq_true rfl⟩) rfl rfl (fun H locs hw => ?_)
  obtain ⟨g2, h⟩ := gd_some h
  refine ri_if_ne (tgt := 14) hx hb g2 dX12_feed_9 (by decide) (fun c3 => ?_) (fun c3 => ?_)
  · have h := it_pos c3 h
    refine ri_iconst hx hb dX12_feed_12 ?_
    obtain rfl := so_inj h
    exact re_i hx hb hlk hr cx hw (Nat.le_of_ble_eq_true rfl) (Nat.le_of_ble_eq_true rfl) dX12_feed_13
  · have h := it_neg c3 h
    refine lv_aload_n hx hb dX12_feed_14 rfl (lv_at hl 0 rfl) ?_
    refine rf_get hx hb cx hw 0 rfl rfl 0 inX12 (by decide) fl_X12_16 rfl rfl dX12_feed_15 ?_
    refine lv_iload_n hx hb dX12_feed_18 rfl (lv_at hl 1 rfl) ?_
    obtain ⟨r4, h4, h⟩ := bd_some h
    refine rc_V (w2 := [(a_t, .inr (11, [.ref a_t_tape, .ref a_t_out, .ref a_t_reader, .ref a_t_stock, .ref a_t_rows, .ref a_t_pure, .ref a_t_bands, .ref a_t_best, .ref a_t_drawn, .ref a_t_drawnPure, .ref a_t_inferred, .ref a_t_decisions, .ref a_t_acts, .ref t_empty, .ref a_t_months, .ref a_t_spread, spV t_sp a_sp, .ref t_latest, .int (kI t_kept), .int (kI t_settled)])), (a_t_tape, .inr (1, [.ref a_t_tape_store, .int (kI r4.1)])), (a_t_tape_store, cAI G 1600 r4.2)]) hw [1, 2] [0] [0, 1, 2] (rr_V cx hw (c_X1_putWord l G S H.size N a_t_tape a_t_tape_store t_tape_size t_tape_store 1600 x1 (by decide) _ h4) mv_X12_124 [1, 2] rfl rfl rfl 1 rfl rfl ⟨Nat.le_of_ble_eq_true rfl, Nat.le_of_ble_eq_true rfl⟩ rfl hl.1 rfl (Nat.le_of_ble_eq_true rfl) dX12_feed_19 ⟨Nat.le_of_ble_eq_true rfl, Nat.le_of_ble_eq_true rfl⟩) rfl rfl rfl rfl rfl rfl rfl rfl (fun H locs hw => ?_)
    refine lv_aload_n hx hb dX12_feed_22 rfl (lv_at hl 0 rfl) ?_
    refine rf_get hx hb cx hw 0 rfl rfl 0 inX12 (by decide) fl_X12_16 rfl rfl dX12_feed_23 ?_
    refine lv_iload_n hx hb dX12_feed_26 rfl (lv_at hl 2 rfl) ?_
    obtain ⟨r5, h5, h⟩ := bd_some h
    refine rc_V (w2 := [(a_t, .inr (11, [.ref a_t_tape, .ref a_t_out, .ref a_t_reader, .ref a_t_stock, .ref a_t_rows, .ref a_t_pure, .ref a_t_bands, .ref a_t_best, .ref a_t_drawn, .ref a_t_drawnPure, .ref a_t_inferred, .ref a_t_decisions, .ref a_t_acts, .ref t_empty, .ref a_t_months, .ref a_t_spread, spV t_sp a_sp, .ref t_latest, .int (kI t_kept), .int (kI t_settled)])), (a_t_tape, .inr (1, [.ref a_t_tape_store, .int (kI r5.1)])), (a_t_tape_store, cAI G 1600 r5.2)]) hw [1, 2] [0] [0, 1, 2] (rr_V cx hw (c_X1_putWord l G S H.size N a_t_tape a_t_tape_store r4.1 r4.2 1600 x2 (by decide) _ h5) mv_X12_124 [1, 2] rfl rfl rfl 1 rfl rfl ⟨Nat.le_of_ble_eq_true rfl, Nat.le_of_ble_eq_true rfl⟩ rfl hl.1 rfl (Nat.le_of_ble_eq_true rfl) dX12_feed_27 ⟨Nat.le_of_ble_eq_true rfl, Nat.le_of_ble_eq_true rfl⟩) rfl rfl rfl rfl rfl rfl rfl rfl (fun H locs hw => ?_)
    refine lv_aload_n hx hb dX12_feed_30 rfl (lv_at hl 0 rfl) ?_
    refine rf_get hx hb cx hw 0 rfl rfl 0 inX12 (by decide) fl_X12_16 rfl rfl dX12_feed_31 ?_
    refine lv_iload_n hx hb dX12_feed_34 rfl (lv_at hl 3 rfl) ?_
    obtain ⟨r6, h6, h⟩ := bd_some h
    refine rc_V (w2 := [(a_t, .inr (11, [.ref a_t_tape, .ref a_t_out, .ref a_t_reader, .ref a_t_stock, .ref a_t_rows, .ref a_t_pure, .ref a_t_bands, .ref a_t_best, .ref a_t_drawn, .ref a_t_drawnPure, .ref a_t_inferred, .ref a_t_decisions, .ref a_t_acts, .ref t_empty, .ref a_t_months, .ref a_t_spread, spV t_sp a_sp, .ref t_latest, .int (kI t_kept), .int (kI t_settled)])), (a_t_tape, .inr (1, [.ref a_t_tape_store, .int (kI r6.1)])), (a_t_tape_store, cAI G 1600 r6.2)]) hw [1, 2] [0] [0, 1, 2] (rr_V cx hw (c_X1_putWord l G S H.size N a_t_tape a_t_tape_store r5.1 r5.2 1600 x3 (by decide) _ h6) mv_X12_124 [1, 2] rfl rfl rfl 1 rfl rfl ⟨Nat.le_of_ble_eq_true rfl, Nat.le_of_ble_eq_true rfl⟩ rfl hl.1 rfl (Nat.le_of_ble_eq_true rfl) dX12_feed_35 ⟨Nat.le_of_ble_eq_true rfl, Nat.le_of_ble_eq_true rfl⟩) rfl rfl rfl rfl rfl rfl rfl rfl (fun H locs hw => ?_)
    refine lv_aload_n hx hb dX12_feed_38 rfl (lv_at hl 0 rfl) ?_
    refine rf_get hx hb cx hw 0 rfl rfl 0 inX12 (by decide) fl_X12_16 rfl rfl dX12_feed_39 ?_
    refine lv_iload hx hb dX12_feed_42 (lv_at hl 4 rfl) ?_
    obtain ⟨r7, h7, h⟩ := bd_some h
    refine rc_V (w2 := [(a_t, .inr (11, [.ref a_t_tape, .ref a_t_out, .ref a_t_reader, .ref a_t_stock, .ref a_t_rows, .ref a_t_pure, .ref a_t_bands, .ref a_t_best, .ref a_t_drawn, .ref a_t_drawnPure, .ref a_t_inferred, .ref a_t_decisions, .ref a_t_acts, .ref t_empty, .ref a_t_months, .ref a_t_spread, spV t_sp a_sp, .ref t_latest, .int (kI t_kept), .int (kI t_settled)])), (a_t_tape, .inr (1, [.ref a_t_tape_store, .int (kI r7.1)])), (a_t_tape_store, cAI G 1600 r7.2)]) hw [1, 2] [0] [0, 1, 2] (rr_V cx hw (c_X1_putWord l G S H.size N a_t_tape a_t_tape_store r6.1 r6.2 1600 x4 (by decide) _ h7) mv_X12_124 [1, 2] rfl rfl rfl 1 rfl rfl ⟨Nat.le_of_ble_eq_true rfl, Nat.le_of_ble_eq_true rfl⟩ rfl hl.1 rfl (Nat.le_of_ble_eq_true rfl) dX12_feed_44 ⟨Nat.le_of_ble_eq_true rfl, Nat.le_of_ble_eq_true rfl⟩) rfl rfl rfl rfl rfl rfl rfl rfl (fun H locs hw => ?_)
    refine lv_aload_n hx hb dX12_feed_47 rfl (lv_at hl 0 rfl) ?_
    refine rf_get hx hb cx hw 0 rfl rfl 0 inX12 (by decide) fl_X12_16 rfl rfl dX12_feed_48 ?_
    refine lv_iload hx hb dX12_feed_51 (lv_at hl 5 rfl) ?_
    obtain ⟨r8, h8, h⟩ := bd_some h
    refine rc_V (w2 := [(a_t, .inr (11, [.ref a_t_tape, .ref a_t_out, .ref a_t_reader, .ref a_t_stock, .ref a_t_rows, .ref a_t_pure, .ref a_t_bands, .ref a_t_best, .ref a_t_drawn, .ref a_t_drawnPure, .ref a_t_inferred, .ref a_t_decisions, .ref a_t_acts, .ref t_empty, .ref a_t_months, .ref a_t_spread, spV t_sp a_sp, .ref t_latest, .int (kI t_kept), .int (kI t_settled)])), (a_t_tape, .inr (1, [.ref a_t_tape_store, .int (kI r8.1)])), (a_t_tape_store, cAI G 1600 r8.2)]) hw [1, 2] [0] [0, 1, 2] (rr_V cx hw (c_X1_putWord l G S H.size N a_t_tape a_t_tape_store r7.1 r7.2 1600 x5 (by decide) _ h8) mv_X12_124 [1, 2] rfl rfl rfl 1 rfl rfl ⟨Nat.le_of_ble_eq_true rfl, Nat.le_of_ble_eq_true rfl⟩ rfl hl.1 rfl (Nat.le_of_ble_eq_true rfl) dX12_feed_53 ⟨Nat.le_of_ble_eq_true rfl, Nat.le_of_ble_eq_true rfl⟩) rfl rfl rfl rfl rfl rfl rfl rfl (fun H locs hw => ?_)
    refine lv_aload_n hx hb dX12_feed_56 rfl (lv_at hl 0 rfl) ?_
    refine rf_get hx hb cx hw 0 rfl rfl 0 inX12 (by decide) fl_X12_16 rfl rfl dX12_feed_57 ?_
    refine rf_get hx hb cx hw 1 rfl rfl 1 inX1 (by decide) fl_X12_127 rfl rfl dX12_feed_60 ?_
    obtain rfl := so_inj h
    exact re_i hx hb hlk hr cx hw (Nat.le_of_ble_eq_true rfl) (Nat.le_of_ble_eq_true rfl) dX12_feed_63
