set_option maxHeartbeats 4000000 in
set_option maxRecDepth 100000 in
theorem c_X12_rate (l : Launch) (G : GG) (S : SM) (sz : Nat) (N : Nat) (a_t a_t_stock a_t_stock_good a_t_stock_bad a_t_stock_open a_t_rows a_t_rows_score a_t_rows_good a_t_rows_bad a_t_rows_goodAhead a_t_rows_badAhead a_t_pure a_t_pure_least a_t_pure_greatest a_t_pure_good a_t_pure_bad a_t_pure_rowsIn a_t_bands a_t_bands_least a_t_bands_greatest a_t_bands_good a_t_bands_bad a_t_bands_rowsIn a_t_tape a_t_out a_t_reader a_t_best a_t_drawn a_t_drawnPure a_t_inferred a_t_decisions a_t_acts a_t_months a_t_spread a_sp a_sp_whole a_sp_begins a_sp_fewer a_sp_told : Nat) (t_empty : Nat) (t_latest : Nat) (t_kept : Int) (t_settled : Int) (t_stock_least : Int) (t_stock_most : Int) (t_stock_goodCost : Int) (t_stock_badCost : Int) (t_stock_referCost : Int) (t_stock_good : Int → Int) (t_stock_bad : Int → Int) (t_stock_open : Int → Int) (t_rows_size : Int) (t_rows_score : Int → Int) (t_rows_good : Int → Int) (t_rows_bad : Int → Int) (t_rows_goodAhead : Int → Int) (t_rows_badAhead : Int → Int) (t_pure_size : Int) (t_pure_least : Int → Int) (t_pure_greatest : Int → Int) (t_pure_good : Int → Int) (t_pure_bad : Int → Int) (t_pure_rowsIn : Int → Int) (t_bands_size : Int) (t_bands_least : Int → Int) (t_bands_greatest : Int → Int) (t_bands_good : Int → Int) (t_bands_bad : Int → Int) (t_bands_rowsIn : Int → Int) (t_sp : Int) (t_sp_runs : Int) (t_sp_whole : Int → UInt64) (t_sp_begins : Int → Int) (t_sp_fewer : Int → UInt64) (t_sp_told : Int → UInt64) (x1 : Int) (x2 : Int) (r : Int × Int × Int × (Int → Int) × (Int → Int) × (Int → Int) × (Int → Int) × (Int → Int) × Int × (Int → Int) × (Int → Int) × (Int → Int) × (Int → Int) × (Int → Int) × Int × (Int → Int) × (Int → Int) × (Int → Int) × (Int → Int) × (Int → Int) × Int) (h : m_X12_rate N t_stock_least t_stock_most t_stock_good t_stock_bad t_sp t_settled t_rows_size t_rows_score t_rows_good t_rows_bad t_rows_goodAhead t_rows_badAhead t_pure_size t_pure_least t_pure_greatest t_pure_good t_pure_bad t_pure_rowsIn t_bands_size t_bands_least t_bands_greatest t_bands_good t_bands_bad t_bands_rowsIn t_sp_runs x1 x2 = some r) : CtL l yX12_rate cX12_rate 7 (rmD 7 0 0) G S sz [.ref a_t, .int (kI x1), .int (kI x2)] ([(a_t, .inr (11, [.ref a_t_tape, .ref a_t_out, .ref a_t_reader, .ref a_t_stock, .ref a_t_rows, .ref a_t_pure, .ref a_t_bands, .ref a_t_best, .ref a_t_drawn, .ref a_t_drawnPure, .ref a_t_inferred, .ref a_t_decisions, .ref a_t_acts, .ref t_empty, .ref a_t_months, .ref a_t_spread, spV t_sp a_sp, .ref t_latest, .int (kI t_kept), .int (kI t_settled)])), (a_t_stock, .inr (5, [.ref a_t_stock_good, .ref a_t_stock_bad, .ref a_t_stock_open, .int (kI t_stock_least), .int (kI t_stock_most), .int (kI t_stock_goodCost), .int (kI t_stock_badCost), .int (kI t_stock_referCost)])), (a_t_stock_good, cAI G 1000 t_stock_good), (a_t_stock_bad, cAI G 1000 t_stock_bad), (a_t_stock_open, cAI G 1000 t_stock_open), (a_t_rows, .inr (7, [.ref a_t_rows_score, .ref a_t_rows_good, .ref a_t_rows_bad, .ref a_t_rows_goodAhead, .ref a_t_rows_badAhead, .int (kI t_rows_size)])), (a_t_rows_score, cAI G 60 t_rows_score), (a_t_rows_good, cAI G 60 t_rows_good), (a_t_rows_bad, cAI G 60 t_rows_bad), (a_t_rows_goodAhead, cAI G 61 t_rows_goodAhead), (a_t_rows_badAhead, cAI G 61 t_rows_badAhead), (a_t_pure, .inr (4, [.ref a_t_pure_least, .ref a_t_pure_greatest, .ref a_t_pure_good, .ref a_t_pure_bad, .ref a_t_pure_rowsIn, .int (kI t_pure_size)])), (a_t_pure_least, cAI G 60 t_pure_least), (a_t_pure_greatest, cAI G 60 t_pure_greatest), (a_t_pure_good, cAI G 60 t_pure_good), (a_t_pure_bad, cAI G 60 t_pure_bad), (a_t_pure_rowsIn, cAI G 60 t_pure_rowsIn), (a_t_bands, .inr (4, [.ref a_t_bands_least, .ref a_t_bands_greatest, .ref a_t_bands_good, .ref a_t_bands_bad, .ref a_t_bands_rowsIn, .int (kI t_bands_size)])), (a_t_bands_least, cAI G 60 t_bands_least), (a_t_bands_greatest, cAI G 60 t_bands_greatest), (a_t_bands_good, cAI G 60 t_bands_good), (a_t_bands_bad, cAI G 60 t_bands_bad), (a_t_bands_rowsIn, cAI G 60 t_bands_rowsIn)] ++ wSp G t_sp a_sp a_sp_whole a_sp_begins a_sp_fewer a_sp_told t_sp_runs t_sp_whole t_sp_begins t_sp_fewer t_sp_told) r.1 ([(a_t, .inr (11, [.ref a_t_tape, .ref a_t_out, .ref a_t_reader, .ref a_t_stock, .ref a_t_rows, .ref a_t_pure, .ref a_t_bands, .ref a_t_best, .ref a_t_drawn, .ref a_t_drawnPure, .ref a_t_inferred, .ref a_t_decisions, .ref a_t_acts, .ref t_empty, .ref a_t_months, .ref a_t_spread, spV t_sp a_sp, .ref t_latest, .int (kI t_kept), .int (kI r.2.1)])), (a_t_stock, .inr (5, [.ref a_t_stock_good, .ref a_t_stock_bad, .ref a_t_stock_open, .int (kI t_stock_least), .int (kI t_stock_most), .int (kI t_stock_goodCost), .int (kI t_stock_badCost), .int (kI t_stock_referCost)])), (a_t_stock_good, cAI G 1000 t_stock_good), (a_t_stock_bad, cAI G 1000 t_stock_bad), (a_t_stock_open, cAI G 1000 t_stock_open), (a_t_rows, .inr (7, [.ref a_t_rows_score, .ref a_t_rows_good, .ref a_t_rows_bad, .ref a_t_rows_goodAhead, .ref a_t_rows_badAhead, .int (kI r.2.2.1)])), (a_t_rows_score, cAI G 60 r.2.2.2.1), (a_t_rows_good, cAI G 60 r.2.2.2.2.1), (a_t_rows_bad, cAI G 60 r.2.2.2.2.2.1), (a_t_rows_goodAhead, cAI G 61 r.2.2.2.2.2.2.1), (a_t_rows_badAhead, cAI G 61 r.2.2.2.2.2.2.2.1), (a_t_pure, .inr (4, [.ref a_t_pure_least, .ref a_t_pure_greatest, .ref a_t_pure_good, .ref a_t_pure_bad, .ref a_t_pure_rowsIn, .int (kI r.2.2.2.2.2.2.2.2.1)])), (a_t_pure_least, cAI G 60 r.2.2.2.2.2.2.2.2.2.1), (a_t_pure_greatest, cAI G 60 r.2.2.2.2.2.2.2.2.2.2.1), (a_t_pure_good, cAI G 60 r.2.2.2.2.2.2.2.2.2.2.2.1), (a_t_pure_bad, cAI G 60 r.2.2.2.2.2.2.2.2.2.2.2.2.1), (a_t_pure_rowsIn, cAI G 60 r.2.2.2.2.2.2.2.2.2.2.2.2.2.1), (a_t_bands, .inr (4, [.ref a_t_bands_least, .ref a_t_bands_greatest, .ref a_t_bands_good, .ref a_t_bands_bad, .ref a_t_bands_rowsIn, .int (kI r.2.2.2.2.2.2.2.2.2.2.2.2.2.2.1)])), (a_t_bands_least, cAI G 60 r.2.2.2.2.2.2.2.2.2.2.2.2.2.2.2.1), (a_t_bands_greatest, cAI G 60 r.2.2.2.2.2.2.2.2.2.2.2.2.2.2.2.2.1), (a_t_bands_good, cAI G 60 r.2.2.2.2.2.2.2.2.2.2.2.2.2.2.2.2.2.1), (a_t_bands_bad, cAI G 60 r.2.2.2.2.2.2.2.2.2.2.2.2.2.2.2.2.2.2.1), (a_t_bands_rowsIn, cAI G 60 r.2.2.2.2.2.2.2.2.2.2.2.2.2.2.2.2.2.2.2.1)] ++ wSp G t_sp a_sp a_sp_whole a_sp_begins a_sp_fewer a_sp_told r.2.2.2.2.2.2.2.2.2.2.2.2.2.2.2.2.2.2.2.2 t_sp_whole t_sp_begins t_sp_fewer t_sp_told) := by
  refine met_L (by decide +kernel) (Nat.le_of_ble_eq_true rfl) ?_
  intro p e s m args below meth c A H locs ls cx hw hr hlk hnm hl
  have hl : lv_has ls 7 [(0, .ref a_t), (1, .int (kI x1)), (2, .int (kI x2))] := hl
  rw [m_X12_rate] at h
  obtain ⟨⟨hx, hb, -, -, -⟩, -⟩ := id cx
  refine lv_aload_n hx hb dX12_rate_0 rfl (lv_at hl 0 rfl) ?_
  obtain ⟨r1, h1, h⟩ := bd_some h
  refine rc_VA hw (rr_VA cx hw (c_X12_settle l G S H.size N a_t a_t_stock a_t_stock_good a_t_stock_bad a_t_stock_open a_t_rows a_t_rows_score a_t_rows_good a_t_rows_bad a_t_rows_goodAhead a_t_rows_badAhead a_t_pure a_t_pure_least a_t_pure_greatest a_t_pure_good a_t_pure_bad a_t_pure_rowsIn a_t_bands a_t_bands_least a_t_bands_greatest a_t_bands_good a_t_bands_bad a_t_bands_rowsIn a_t_tape a_t_out a_t_reader a_t_best a_t_drawn a_t_drawnPure a_t_inferred a_t_decisions a_t_acts a_t_months a_t_spread a_sp a_sp_whole a_sp_begins a_sp_fewer a_sp_told t_empty t_latest t_kept t_settled t_stock_least t_stock_most t_stock_goodCost t_stock_badCost t_stock_referCost t_stock_good t_stock_bad t_stock_open t_rows_size t_rows_score t_rows_good t_rows_bad t_rows_goodAhead t_rows_badAhead t_pure_size t_pure_least t_pure_greatest t_pure_good t_pure_bad t_pure_rowsIn t_bands_size t_bands_least t_bands_greatest t_bands_good t_bands_bad t_bands_rowsIn t_sp t_sp_runs t_sp_whole t_sp_begins t_sp_fewer t_sp_told _ h1) mv_X12_151 0 rfl rfl ⟨Nat.le_of_ble_eq_true rfl, Nat.le_of_ble_eq_true rfl⟩ rfl hl.1 rfl (Nat.le_of_ble_eq_true rfl) dX12_rate_1 ⟨Nat.le_of_ble_eq_true rfl, Nat.le_of_ble_eq_true rfl⟩) (fun H locs hw => ?_)
  have hw : HP G A s.heap H locs ([(a_t, .inr (11, [.ref a_t_tape, .ref a_t_out, .ref a_t_reader, .ref a_t_stock, .ref a_t_rows, .ref a_t_pure, .ref a_t_bands, .ref a_t_best, .ref a_t_drawn, .ref a_t_drawnPure, .ref a_t_inferred, .ref a_t_decisions, .ref a_t_acts, .ref t_empty, .ref a_t_months, .ref a_t_spread, spV t_sp a_sp, .ref t_latest, .int (kI t_kept), .int (kI r1.1)])), (a_t_stock, .inr (5, [.ref a_t_stock_good, .ref a_t_stock_bad, .ref a_t_stock_open, .int (kI t_stock_least), .int (kI t_stock_most), .int (kI t_stock_goodCost), .int (kI t_stock_badCost), .int (kI t_stock_referCost)])), (a_t_stock_good, cAI G 1000 t_stock_good), (a_t_stock_bad, cAI G 1000 t_stock_bad), (a_t_stock_open, cAI G 1000 t_stock_open), (a_t_rows, .inr (7, [.ref a_t_rows_score, .ref a_t_rows_good, .ref a_t_rows_bad, .ref a_t_rows_goodAhead, .ref a_t_rows_badAhead, .int (kI r1.2.1)])), (a_t_rows_score, cAI G 60 r1.2.2.1), (a_t_rows_good, cAI G 60 r1.2.2.2.1), (a_t_rows_bad, cAI G 60 r1.2.2.2.2.1), (a_t_rows_goodAhead, cAI G 61 r1.2.2.2.2.2.1), (a_t_rows_badAhead, cAI G 61 r1.2.2.2.2.2.2.1), (a_t_pure, .inr (4, [.ref a_t_pure_least, .ref a_t_pure_greatest, .ref a_t_pure_good, .ref a_t_pure_bad, .ref a_t_pure_rowsIn, .int (kI r1.2.2.2.2.2.2.2.1)])), (a_t_pure_least, cAI G 60 r1.2.2.2.2.2.2.2.2.1), (a_t_pure_greatest, cAI G 60 r1.2.2.2.2.2.2.2.2.2.1), (a_t_pure_good, cAI G 60 r1.2.2.2.2.2.2.2.2.2.2.1), (a_t_pure_bad, cAI G 60 r1.2.2.2.2.2.2.2.2.2.2.2.1), (a_t_pure_rowsIn, cAI G 60 r1.2.2.2.2.2.2.2.2.2.2.2.2.1), (a_t_bands, .inr (4, [.ref a_t_bands_least, .ref a_t_bands_greatest, .ref a_t_bands_good, .ref a_t_bands_bad, .ref a_t_bands_rowsIn, .int (kI r1.2.2.2.2.2.2.2.2.2.2.2.2.2.1)])), (a_t_bands_least, cAI G 60 r1.2.2.2.2.2.2.2.2.2.2.2.2.2.2.1), (a_t_bands_greatest, cAI G 60 r1.2.2.2.2.2.2.2.2.2.2.2.2.2.2.2.1), (a_t_bands_good, cAI G 60 r1.2.2.2.2.2.2.2.2.2.2.2.2.2.2.2.2.1), (a_t_bands_bad, cAI G 60 r1.2.2.2.2.2.2.2.2.2.2.2.2.2.2.2.2.2.1), (a_t_bands_rowsIn, cAI G 60 r1.2.2.2.2.2.2.2.2.2.2.2.2.2.2.2.2.2.2.1)] ++ wSp G t_sp a_sp a_sp_whole a_sp_begins a_sp_fewer a_sp_told r1.2.2.2.2.2.2.2.2.2.2.2.2.2.2.2.2.2.2.2 t_sp_whole t_sp_begins t_sp_fewer t_sp_told) := hw
  refine lv_aload_n hx hb dX12_rate_4 rfl (lv_at hl 0 rfl) ?_
  refine rf_get hx hb cx hw 0 rfl rfl 6 inX12 (by decide) fl_X12_51 rfl rfl dX12_rate_5 ?_
  refine lv_iload_n hx hb dX12_rate_8 rfl (lv_at hl 1 rfl) ?_
  obtain ⟨r2, h2, h⟩ := bd_some h
  refine rc_I0 (v := r2) hw [17, 18, 19, 20, 21, 22] (rr_V cx hw (c_X4_has l G S H.size N a_t_bands a_t_bands_least a_t_bands_greatest a_t_bands_good a_t_bands_bad a_t_bands_rowsIn r1.2.2.2.2.2.2.2.2.2.2.2.2.2.1 r1.2.2.2.2.2.2.2.2.2.2.2.2.2.2.1 r1.2.2.2.2.2.2.2.2.2.2.2.2.2.2.2.1 r1.2.2.2.2.2.2.2.2.2.2.2.2.2.2.2.2.1 r1.2.2.2.2.2.2.2.2.2.2.2.2.2.2.2.2.2.1 r1.2.2.2.2.2.2.2.2.2.2.2.2.2.2.2.2.2.2.1 x1 _ h2) mv_X12_197 [17, 18, 19, 20, 21, 22] rfl rfl rfl 17 rfl rfl ⟨Nat.le_of_ble_eq_true rfl, Nat.le_of_ble_eq_true rfl⟩ rfl hl.1 rfl (Nat.le_of_ble_eq_true rfl) dX12_rate_9 ⟨Nat.le_of_ble_eq_true rfl, Nat.le_of_ble_eq_true rfl⟩) rfl rfl (fun H locs hw => ?_)
  obtain ⟨g3, h⟩ := gd_some h
  refine ri_if_ne (tgt := 19) hx hb g3 dX12_rate_12 (by decide) (fun c4 => ?_) (fun c4 => ?_)
  · have h := it_pos c4 h
    refine lv_ldc2 (v := kL (-9223372036854775808)) hx hb cx.1.2.2.2.1 (cx.1.2.2.2.2 _ kc_X12_225) dX12_rate_15 ?_
    obtain rfl := so_inj h
    exact re_l hx hb hlk hr cx hw (Nat.le_of_ble_eq_true rfl) (Nat.le_of_ble_eq_true rfl) dX12_rate_18
  · have h := it_neg c4 h
    refine lv_aload_n hx hb dX12_rate_19 rfl (lv_at hl 0 rfl) ?_
    refine rf_get hx hb cx hw 0 rfl rfl 6 inX12 (by decide) fl_X12_51 rfl rfl dX12_rate_20 ?_
    refine rf_get hx hb cx hw 17 rfl rfl 3 inX4 (by decide) fl_X12_205 rfl rfl dX12_rate_23 ?_
    refine lv_iload_n hx hb dX12_rate_26 rfl (lv_at hl 1 rfl) ?_
    obtain ⟨g5, h⟩ := gd_some h
    refine ra_i hx hb cx hw 21 rfl (by decide) g5 dX12_rate_27 ?_
    obtain ⟨g6, h⟩ := gd_some h
    refine ri_i2l hx hb g6 dX12_rate_28 ?_
    refine lv_aload_n hx hb dX12_rate_29 rfl (lv_at hl 0 rfl) ?_
    refine rf_get hx hb cx hw 0 rfl rfl 6 inX12 (by decide) fl_X12_51 rfl rfl dX12_rate_30 ?_
    refine lv_iload_n hx hb dX12_rate_33 rfl (lv_at hl 1 rfl) ?_
    obtain ⟨r7, h7, h⟩ := bd_some h
    refine rc_I0 (v := r7) hw [17, 18, 19, 20, 21, 22] (rr_V cx hw (c_X4_cases l G S H.size N a_t_bands a_t_bands_least a_t_bands_greatest a_t_bands_good a_t_bands_bad a_t_bands_rowsIn r1.2.2.2.2.2.2.2.2.2.2.2.2.2.1 r1.2.2.2.2.2.2.2.2.2.2.2.2.2.2.1 r1.2.2.2.2.2.2.2.2.2.2.2.2.2.2.2.1 r1.2.2.2.2.2.2.2.2.2.2.2.2.2.2.2.2.1 r1.2.2.2.2.2.2.2.2.2.2.2.2.2.2.2.2.2.1 r1.2.2.2.2.2.2.2.2.2.2.2.2.2.2.2.2.2.2.1 x1 _ h7) mv_X12_206 [17, 18, 19, 20, 21, 22] rfl rfl rfl 17 rfl rfl ⟨Nat.le_of_ble_eq_true rfl, Nat.le_of_ble_eq_true rfl⟩ rfl hl.1 rfl (Nat.le_of_ble_eq_true rfl) dX12_rate_34 ⟨Nat.le_of_ble_eq_true rfl, Nat.le_of_ble_eq_true rfl⟩) rfl rfl (fun H locs hw => ?_)
    obtain ⟨g8, h⟩ := gd_some h
    refine ri_i2l hx hb g8 dX12_rate_37 ?_
    obtain ⟨r9, h9, h⟩ := bd_some h
    refine rc_D0 (v := r9) hw [] (rr_S cx hw (c_X5_quotient l G S H.size N (r1.2.2.2.2.2.2.2.2.2.2.2.2.2.2.2.2.2.1 x1) r7 _ h9) mv_X12_227 [] rfl rfl rfl ⟨Nat.le_of_ble_eq_true rfl, Nat.le_of_ble_eq_true rfl⟩ rfl hl.1 rfl (Nat.le_of_ble_eq_true rfl) dX12_rate_38 ⟨Nat.le_of_ble_eq_true rfl, Nat.le_of_ble_eq_true rfl⟩) rfl rfl (fun H locs hw => ?_)
    refine lv_dstore_n (lv' := [(3, .double r9), (0, .ref a_t), (1, .int (kI x1)), (2, .int (kI x2))]) hx hb dX12_rate_41 rfl hl (by decide) rfl (fun ls hl => ?_)
    refine lv_ldc2d (v := 4652007308841189376) hx hb cx.1.2.2.2.1 (cx.1.2.2.2.2 _ kc_X12_231) dX12_rate_42 ?_
    refine lv_dload_n hx hb dX12_rate_45 rfl (lv_at hl 0 rfl) ?_
    obtain ⟨g10, h⟩ := gd_some h
    refine lv_dmul hx hb dX12_rate_46 g10 ?_
    refine lv_dstore (lv' := [(5, .double (FP.dmul 4652007308841189376 r9)), (3, .double r9), (0, .ref a_t), (1, .int (kI x1)), (2, .int (kI x2))]) hx hb dX12_rate_47 hl (by decide) rfl (fun ls hl => ?_)
    refine lv_iload_n hx hb dX12_rate_49 rfl (lv_at hl 4 rfl) ?_
    obtain ⟨g11, h⟩ := gd_some h
    by_cases c12 : x2 = 0
    · have h := it_pos c12 h
      refine rt_in hx hb g11 (k := 0) c12 dX12_rate_50 (off := 30) rfl (tgt := 80) (by decide) ?_
      refine lv_dload_n hx hb dX12_rate_80 rfl (lv_at hl 1 rfl) ?_
      obtain ⟨r13, h13, h⟩ := bd_some h
      refine rc_L0 (v := r13) hw [] (rr_S cx hw (c_X5_doubleBits l G S H.size N r9 _ h13) mv_X12_233 [] rfl rfl rfl ⟨Nat.le_of_ble_eq_true rfl, Nat.le_of_ble_eq_true rfl⟩ rfl hl.1 rfl (Nat.le_of_ble_eq_true rfl) dX12_rate_81 ⟨Nat.le_of_ble_eq_true rfl, Nat.le_of_ble_eq_true rfl⟩) rfl rfl (fun H locs hw => ?_)
      obtain rfl := so_inj h
      exact re_l hx hb hlk hr cx hw (Nat.le_of_ble_eq_true rfl) (Nat.le_of_ble_eq_true rfl) dX12_rate_84
    have h := it_neg c12 h
    by_cases c14 : x2 = 1
    · have h := it_pos c14 h
      refine rt_in hx hb g11 (k := 1) c14 dX12_rate_50 (off := 35) rfl (tgt := 85) (by decide) ?_
      refine lv_dload_n hx hb dX12_rate_85 rfl (lv_at hl 1 rfl) ?_
      obtain ⟨g15, h⟩ := gd_some h
      refine lv_d2f hx hb dX12_rate_86 g15 ?_
      obtain ⟨r16, h16, h⟩ := bd_some h
      refine rc_L0 (v := r16) hw [] (rr_S cx hw (c_X5_floatBits l G S H.size N (FP.d2f r9) _ h16) mv_X12_237 [] rfl rfl rfl ⟨Nat.le_of_ble_eq_true rfl, Nat.le_of_ble_eq_true rfl⟩ rfl hl.1 rfl (Nat.le_of_ble_eq_true rfl) dX12_rate_87 ⟨Nat.le_of_ble_eq_true rfl, Nat.le_of_ble_eq_true rfl⟩) rfl rfl (fun H locs hw => ?_)
      obtain rfl := so_inj h
      exact re_l hx hb hlk hr cx hw (Nat.le_of_ble_eq_true rfl) (Nat.le_of_ble_eq_true rfl) dX12_rate_90
    have h := it_neg c14 h
    by_cases c17 : x2 = 2
    · have h := it_pos c17 h
      refine rt_in hx hb g11 (k := 2) c17 dX12_rate_50 (off := 41) rfl (tgt := 91) (by decide) ?_
      refine lv_dload hx hb dX12_rate_91 (lv_at hl 0 rfl) ?_
      refine lv_dload hx hb dX12_rate_93 (lv_at hl 0 rfl) ?_
      refine ri_d2l hx hb dX12_rate_95 ?_
      refine lv_l2d hx hb dX12_rate_96 ?_
      obtain ⟨g18, h⟩ := gd_some h
      refine lv_dsub hx hb dX12_rate_97 g18 ?_
      obtain ⟨r19, h19, h⟩ := bd_some h
      refine rc_L0 (v := r19) hw [] (rr_S cx hw (c_X5_doubleBits l G S H.size N (FP.dsub (FP.dmul 4652007308841189376 r9) (FP.l2d (kL (d2L (FP.dmul 4652007308841189376 r9))))) _ h19) mv_X12_233 [] rfl rfl rfl ⟨Nat.le_of_ble_eq_true rfl, Nat.le_of_ble_eq_true rfl⟩ rfl hl.1 rfl (Nat.le_of_ble_eq_true rfl) dX12_rate_98 ⟨Nat.le_of_ble_eq_true rfl, Nat.le_of_ble_eq_true rfl⟩) rfl rfl (fun H locs hw => ?_)
      obtain rfl := so_inj h
      exact re_l hx hb hlk hr cx hw (Nat.le_of_ble_eq_true rfl) (Nat.le_of_ble_eq_true rfl) dX12_rate_101
    have h := it_neg c17 h
    by_cases c20 : x2 = 3
    · have h := it_pos c20 h
      refine rt_in hx hb g11 (k := 3) c20 dX12_rate_50 (off := 52) rfl (tgt := 102) (by decide) ?_
      refine lv_dload hx hb dX12_rate_102 (lv_at hl 0 rfl) ?_
      refine ri_d2l hx hb dX12_rate_104 ?_
      obtain rfl := so_inj h
      exact re_l hx hb hlk hr cx hw (Nat.le_of_ble_eq_true rfl) (Nat.le_of_ble_eq_true rfl) dX12_rate_105
    have h := it_neg c20 h
    refine rt_out hx hb g11 dX12_rate_50 (by omega) (tgt := 106) (by decide) ?_
    refine lv_ldc2 (v := kL (-9223372036854775808)) hx hb cx.1.2.2.2.1 (cx.1.2.2.2.2 _ kc_X12_225) dX12_rate_106 ?_
    obtain rfl := so_inj h
    exact re_l hx hb hlk hr cx hw (Nat.le_of_ble_eq_true rfl) (Nat.le_of_ble_eq_true rfl) dX12_rate_109
