set_option maxHeartbeats 4000000 in
set_option maxRecDepth 100000 in
theorem c_X12_band (l : Launch) (G : GG) (S : SM) (sz : Nat) (N : Nat) (a_t a_t_stock a_t_stock_good a_t_stock_bad a_t_stock_open a_t_rows a_t_rows_score a_t_rows_good a_t_rows_bad a_t_rows_goodAhead a_t_rows_badAhead a_t_pure a_t_pure_least a_t_pure_greatest a_t_pure_good a_t_pure_bad a_t_pure_rowsIn a_t_bands a_t_bands_least a_t_bands_greatest a_t_bands_good a_t_bands_bad a_t_bands_rowsIn a_t_spread a_t_tape a_t_out a_t_reader a_t_best a_t_drawn a_t_drawnPure a_t_inferred a_t_decisions a_t_acts a_t_months a_sp a_sp_whole a_sp_begins a_sp_fewer a_sp_told : Nat) (t_empty : Nat) (t_latest : Nat) (t_kept : Int) (t_settled : Int) (t_stock_least : Int) (t_stock_most : Int) (t_stock_goodCost : Int) (t_stock_badCost : Int) (t_stock_referCost : Int) (t_stock_good : Int → Int) (t_stock_bad : Int → Int) (t_stock_open : Int → Int) (t_rows_size : Int) (t_rows_score : Int → Int) (t_rows_good : Int → Int) (t_rows_bad : Int → Int) (t_rows_goodAhead : Int → Int) (t_rows_badAhead : Int → Int) (t_pure_size : Int) (t_pure_least : Int → Int) (t_pure_greatest : Int → Int) (t_pure_good : Int → Int) (t_pure_bad : Int → Int) (t_pure_rowsIn : Int → Int) (t_bands_size : Int) (t_bands_least : Int → Int) (t_bands_greatest : Int → Int) (t_bands_good : Int → Int) (t_bands_bad : Int → Int) (t_bands_rowsIn : Int → Int) (t_spread : Int → Int) (t_sp : Int) (t_sp_runs : Int) (t_sp_whole : Int → UInt64) (t_sp_begins : Int → Int) (t_sp_fewer : Int → UInt64) (t_sp_told : Int → UInt64) (x1 : Int) (x2 : Int) (r : Int × Int × Int × (Int → Int) × (Int → Int) × (Int → Int) × (Int → Int) × (Int → Int) × Int × (Int → Int) × (Int → Int) × (Int → Int) × (Int → Int) × (Int → Int) × Int × (Int → Int) × (Int → Int) × (Int → Int) × (Int → Int) × (Int → Int) × (Int → Int) × Int) (h : m_X12_band N S t_latest t_stock_least t_stock_most t_stock_good t_stock_bad t_sp t_settled t_rows_size t_rows_score t_rows_good t_rows_bad t_rows_goodAhead t_rows_badAhead t_pure_size t_pure_least t_pure_greatest t_pure_good t_pure_bad t_pure_rowsIn t_bands_size t_bands_least t_bands_greatest t_bands_good t_bands_bad t_bands_rowsIn t_spread t_sp_runs x1 x2 = some r) : CtI l yX12_band cX12_band 3 .int (rmD 7 0 0) G S sz [.ref a_t, .int (kI x1), .int (kI x2)] ([(a_t, .inr (11, [.ref a_t_tape, .ref a_t_out, .ref a_t_reader, .ref a_t_stock, .ref a_t_rows, .ref a_t_pure, .ref a_t_bands, .ref a_t_best, .ref a_t_drawn, .ref a_t_drawnPure, .ref a_t_inferred, .ref a_t_decisions, .ref a_t_acts, .ref t_empty, .ref a_t_months, .ref a_t_spread, spV t_sp a_sp, .ref t_latest, .int (kI t_kept), .int (kI t_settled)])), (a_t_stock, .inr (5, [.ref a_t_stock_good, .ref a_t_stock_bad, .ref a_t_stock_open, .int (kI t_stock_least), .int (kI t_stock_most), .int (kI t_stock_goodCost), .int (kI t_stock_badCost), .int (kI t_stock_referCost)])), (a_t_stock_good, cAI G 1000 t_stock_good), (a_t_stock_bad, cAI G 1000 t_stock_bad), (a_t_stock_open, cAI G 1000 t_stock_open), (a_t_rows, .inr (7, [.ref a_t_rows_score, .ref a_t_rows_good, .ref a_t_rows_bad, .ref a_t_rows_goodAhead, .ref a_t_rows_badAhead, .int (kI t_rows_size)])), (a_t_rows_score, cAI G 60 t_rows_score), (a_t_rows_good, cAI G 60 t_rows_good), (a_t_rows_bad, cAI G 60 t_rows_bad), (a_t_rows_goodAhead, cAI G 61 t_rows_goodAhead), (a_t_rows_badAhead, cAI G 61 t_rows_badAhead), (a_t_pure, .inr (4, [.ref a_t_pure_least, .ref a_t_pure_greatest, .ref a_t_pure_good, .ref a_t_pure_bad, .ref a_t_pure_rowsIn, .int (kI t_pure_size)])), (a_t_pure_least, cAI G 60 t_pure_least), (a_t_pure_greatest, cAI G 60 t_pure_greatest), (a_t_pure_good, cAI G 60 t_pure_good), (a_t_pure_bad, cAI G 60 t_pure_bad), (a_t_pure_rowsIn, cAI G 60 t_pure_rowsIn), (a_t_bands, .inr (4, [.ref a_t_bands_least, .ref a_t_bands_greatest, .ref a_t_bands_good, .ref a_t_bands_bad, .ref a_t_bands_rowsIn, .int (kI t_bands_size)])), (a_t_bands_least, cAI G 60 t_bands_least), (a_t_bands_greatest, cAI G 60 t_bands_greatest), (a_t_bands_good, cAI G 60 t_bands_good), (a_t_bands_bad, cAI G 60 t_bands_bad), (a_t_bands_rowsIn, cAI G 60 t_bands_rowsIn), (a_t_spread, cAI G 60 t_spread)] ++ wSp G t_sp a_sp a_sp_whole a_sp_begins a_sp_fewer a_sp_told t_sp_runs t_sp_whole t_sp_begins t_sp_fewer t_sp_told) r.1 ([(a_t, .inr (11, [.ref a_t_tape, .ref a_t_out, .ref a_t_reader, .ref a_t_stock, .ref a_t_rows, .ref a_t_pure, .ref a_t_bands, .ref a_t_best, .ref a_t_drawn, .ref a_t_drawnPure, .ref a_t_inferred, .ref a_t_decisions, .ref a_t_acts, .ref t_empty, .ref a_t_months, .ref a_t_spread, spV t_sp a_sp, .ref t_latest, .int (kI t_kept), .int (kI r.2.1)])), (a_t_stock, .inr (5, [.ref a_t_stock_good, .ref a_t_stock_bad, .ref a_t_stock_open, .int (kI t_stock_least), .int (kI t_stock_most), .int (kI t_stock_goodCost), .int (kI t_stock_badCost), .int (kI t_stock_referCost)])), (a_t_stock_good, cAI G 1000 t_stock_good), (a_t_stock_bad, cAI G 1000 t_stock_bad), (a_t_stock_open, cAI G 1000 t_stock_open), (a_t_rows, .inr (7, [.ref a_t_rows_score, .ref a_t_rows_good, .ref a_t_rows_bad, .ref a_t_rows_goodAhead, .ref a_t_rows_badAhead, .int (kI r.2.2.1)])), (a_t_rows_score, cAI G 60 r.2.2.2.1), (a_t_rows_good, cAI G 60 r.2.2.2.2.1), (a_t_rows_bad, cAI G 60 r.2.2.2.2.2.1), (a_t_rows_goodAhead, cAI G 61 r.2.2.2.2.2.2.1), (a_t_rows_badAhead, cAI G 61 r.2.2.2.2.2.2.2.1), (a_t_pure, .inr (4, [.ref a_t_pure_least, .ref a_t_pure_greatest, .ref a_t_pure_good, .ref a_t_pure_bad, .ref a_t_pure_rowsIn, .int (kI r.2.2.2.2.2.2.2.2.1)])), (a_t_pure_least, cAI G 60 r.2.2.2.2.2.2.2.2.2.1), (a_t_pure_greatest, cAI G 60 r.2.2.2.2.2.2.2.2.2.2.1), (a_t_pure_good, cAI G 60 r.2.2.2.2.2.2.2.2.2.2.2.1), (a_t_pure_bad, cAI G 60 r.2.2.2.2.2.2.2.2.2.2.2.2.1), (a_t_pure_rowsIn, cAI G 60 r.2.2.2.2.2.2.2.2.2.2.2.2.2.1), (a_t_bands, .inr (4, [.ref a_t_bands_least, .ref a_t_bands_greatest, .ref a_t_bands_good, .ref a_t_bands_bad, .ref a_t_bands_rowsIn, .int (kI r.2.2.2.2.2.2.2.2.2.2.2.2.2.2.1)])), (a_t_bands_least, cAI G 60 r.2.2.2.2.2.2.2.2.2.2.2.2.2.2.2.1), (a_t_bands_greatest, cAI G 60 r.2.2.2.2.2.2.2.2.2.2.2.2.2.2.2.2.1), (a_t_bands_good, cAI G 60 r.2.2.2.2.2.2.2.2.2.2.2.2.2.2.2.2.2.1), (a_t_bands_bad, cAI G 60 r.2.2.2.2.2.2.2.2.2.2.2.2.2.2.2.2.2.2.1), (a_t_bands_rowsIn, cAI G 60 r.2.2.2.2.2.2.2.2.2.2.2.2.2.2.2.2.2.2.2.1), (a_t_spread, cAI G 60 r.2.2.2.2.2.2.2.2.2.2.2.2.2.2.2.2.2.2.2.2.1)] ++ wSp G t_sp a_sp a_sp_whole a_sp_begins a_sp_fewer a_sp_told r.2.2.2.2.2.2.2.2.2.2.2.2.2.2.2.2.2.2.2.2.2 t_sp_whole t_sp_begins t_sp_fewer t_sp_told) := by
  refine met_I (by decide +kernel) (Nat.le_of_ble_eq_true rfl) ?_
  intro p e s m args below meth c A H locs ls cx hw hr hlk hnm hl
  have hl : lv_has ls 3 [(0, .ref a_t), (1, .int (kI x1)), (2, .int (kI x2))] := hl
  rw [m_X12_band] at h
  obtain ⟨⟨hx, hb, -, -, -⟩, -⟩ := id cx
  refine lv_aload_n hx hb dX12_band_0 rfl (lv_at hl 0 rfl) ?_
  obtain ⟨r1, h1, h⟩ := bd_some h
  refine rc_VA hw (rr_VA cx hw (ct_PV (X2 := [(a_t, .inr (11, [.ref a_t_tape, .ref a_t_out, .ref a_t_reader, .ref a_t_stock, .ref a_t_rows, .ref a_t_pure, .ref a_t_bands, .ref a_t_best, .ref a_t_drawn, .ref a_t_drawnPure, .ref a_t_inferred, .ref a_t_decisions, .ref a_t_acts, .ref t_empty, .ref a_t_months, .ref a_t_spread, spV t_sp a_sp, .ref t_latest, .int (kI t_kept), .int (kI r1.1)])), (a_t_stock, .inr (5, [.ref a_t_stock_good, .ref a_t_stock_bad, .ref a_t_stock_open, .int (kI t_stock_least), .int (kI t_stock_most), .int (kI t_stock_goodCost), .int (kI t_stock_badCost), .int (kI t_stock_referCost)])), (a_t_stock_good, cAI G 1000 t_stock_good), (a_t_stock_bad, cAI G 1000 t_stock_bad), (a_t_stock_open, cAI G 1000 t_stock_open), (a_t_rows, .inr (7, [.ref a_t_rows_score, .ref a_t_rows_good, .ref a_t_rows_bad, .ref a_t_rows_goodAhead, .ref a_t_rows_badAhead, .int (kI r1.2.1)])), (a_t_rows_score, cAI G 60 r1.2.2.1), (a_t_rows_good, cAI G 60 r1.2.2.2.1), (a_t_rows_bad, cAI G 60 r1.2.2.2.2.1), (a_t_rows_goodAhead, cAI G 61 r1.2.2.2.2.2.1), (a_t_rows_badAhead, cAI G 61 r1.2.2.2.2.2.2.1), (a_t_pure, .inr (4, [.ref a_t_pure_least, .ref a_t_pure_greatest, .ref a_t_pure_good, .ref a_t_pure_bad, .ref a_t_pure_rowsIn, .int (kI r1.2.2.2.2.2.2.2.1)])), (a_t_pure_least, cAI G 60 r1.2.2.2.2.2.2.2.2.1), (a_t_pure_greatest, cAI G 60 r1.2.2.2.2.2.2.2.2.2.1), (a_t_pure_good, cAI G 60 r1.2.2.2.2.2.2.2.2.2.2.1), (a_t_pure_bad, cAI G 60 r1.2.2.2.2.2.2.2.2.2.2.2.1), (a_t_pure_rowsIn, cAI G 60 r1.2.2.2.2.2.2.2.2.2.2.2.2.1), (a_t_bands, .inr (4, [.ref a_t_bands_least, .ref a_t_bands_greatest, .ref a_t_bands_good, .ref a_t_bands_bad, .ref a_t_bands_rowsIn, .int (kI r1.2.2.2.2.2.2.2.2.2.2.2.2.2.1)])), (a_t_bands_least, cAI G 60 r1.2.2.2.2.2.2.2.2.2.2.2.2.2.2.1), (a_t_bands_greatest, cAI G 60 r1.2.2.2.2.2.2.2.2.2.2.2.2.2.2.2.1), (a_t_bands_good, cAI G 60 r1.2.2.2.2.2.2.2.2.2.2.2.2.2.2.2.2.1), (a_t_bands_bad, cAI G 60 r1.2.2.2.2.2.2.2.2.2.2.2.2.2.2.2.2.2.1), (a_t_bands_rowsIn, cAI G 60 r1.2.2.2.2.2.2.2.2.2.2.2.2.2.2.2.2.2.2.1), (a_t_spread, cAI G 60 t_spread)]) 23 (c_X12_settle l G S H.size N a_t a_t_stock a_t_stock_good a_t_stock_bad a_t_stock_open a_t_rows a_t_rows_score a_t_rows_good a_t_rows_bad a_t_rows_goodAhead a_t_rows_badAhead a_t_pure a_t_pure_least a_t_pure_greatest a_t_pure_good a_t_pure_bad a_t_pure_rowsIn a_t_bands a_t_bands_least a_t_bands_greatest a_t_bands_good a_t_bands_bad a_t_bands_rowsIn a_t_tape a_t_out a_t_reader a_t_best a_t_drawn a_t_drawnPure a_t_inferred a_t_decisions a_t_acts a_t_months a_t_spread a_sp a_sp_whole a_sp_begins a_sp_fewer a_sp_told t_empty t_latest t_kept t_settled t_stock_least t_stock_most t_stock_goodCost t_stock_badCost t_stock_referCost t_stock_good t_stock_bad t_stock_open t_rows_size t_rows_score t_rows_good t_rows_bad t_rows_goodAhead t_rows_badAhead t_pure_size t_pure_least t_pure_greatest t_pure_good t_pure_bad t_pure_rowsIn t_bands_size t_bands_least t_bands_greatest t_bands_good t_bands_bad t_bands_rowsIn t_sp t_sp_runs t_sp_whole t_sp_begins t_sp_fewer t_sp_told _ h1) rfl rfl) mv_X12_151 0 rfl rfl ⟨Nat.le_of_ble_eq_true rfl, Nat.le_of_ble_eq_true rfl⟩ rfl hl.1 rfl (Nat.le_of_ble_eq_true rfl) dX12_band_1 ⟨Nat.le_of_ble_eq_true rfl, Nat.le_of_ble_eq_true rfl⟩) (fun H locs hw => ?_)
  have hw : HP G A s.heap H locs ([(a_t, .inr (11, [.ref a_t_tape, .ref a_t_out, .ref a_t_reader, .ref a_t_stock, .ref a_t_rows, .ref a_t_pure, .ref a_t_bands, .ref a_t_best, .ref a_t_drawn, .ref a_t_drawnPure, .ref a_t_inferred, .ref a_t_decisions, .ref a_t_acts, .ref t_empty, .ref a_t_months, .ref a_t_spread, spV t_sp a_sp, .ref t_latest, .int (kI t_kept), .int (kI r1.1)])), (a_t_stock, .inr (5, [.ref a_t_stock_good, .ref a_t_stock_bad, .ref a_t_stock_open, .int (kI t_stock_least), .int (kI t_stock_most), .int (kI t_stock_goodCost), .int (kI t_stock_badCost), .int (kI t_stock_referCost)])), (a_t_stock_good, cAI G 1000 t_stock_good), (a_t_stock_bad, cAI G 1000 t_stock_bad), (a_t_stock_open, cAI G 1000 t_stock_open), (a_t_rows, .inr (7, [.ref a_t_rows_score, .ref a_t_rows_good, .ref a_t_rows_bad, .ref a_t_rows_goodAhead, .ref a_t_rows_badAhead, .int (kI r1.2.1)])), (a_t_rows_score, cAI G 60 r1.2.2.1), (a_t_rows_good, cAI G 60 r1.2.2.2.1), (a_t_rows_bad, cAI G 60 r1.2.2.2.2.1), (a_t_rows_goodAhead, cAI G 61 r1.2.2.2.2.2.1), (a_t_rows_badAhead, cAI G 61 r1.2.2.2.2.2.2.1), (a_t_pure, .inr (4, [.ref a_t_pure_least, .ref a_t_pure_greatest, .ref a_t_pure_good, .ref a_t_pure_bad, .ref a_t_pure_rowsIn, .int (kI r1.2.2.2.2.2.2.2.1)])), (a_t_pure_least, cAI G 60 r1.2.2.2.2.2.2.2.2.1), (a_t_pure_greatest, cAI G 60 r1.2.2.2.2.2.2.2.2.2.1), (a_t_pure_good, cAI G 60 r1.2.2.2.2.2.2.2.2.2.2.1), (a_t_pure_bad, cAI G 60 r1.2.2.2.2.2.2.2.2.2.2.2.1), (a_t_pure_rowsIn, cAI G 60 r1.2.2.2.2.2.2.2.2.2.2.2.2.1), (a_t_bands, .inr (4, [.ref a_t_bands_least, .ref a_t_bands_greatest, .ref a_t_bands_good, .ref a_t_bands_bad, .ref a_t_bands_rowsIn, .int (kI r1.2.2.2.2.2.2.2.2.2.2.2.2.2.1)])), (a_t_bands_least, cAI G 60 r1.2.2.2.2.2.2.2.2.2.2.2.2.2.2.1), (a_t_bands_greatest, cAI G 60 r1.2.2.2.2.2.2.2.2.2.2.2.2.2.2.2.1), (a_t_bands_good, cAI G 60 r1.2.2.2.2.2.2.2.2.2.2.2.2.2.2.2.2.1), (a_t_bands_bad, cAI G 60 r1.2.2.2.2.2.2.2.2.2.2.2.2.2.2.2.2.2.1), (a_t_bands_rowsIn, cAI G 60 r1.2.2.2.2.2.2.2.2.2.2.2.2.2.2.2.2.2.2.1), (a_t_spread, cAI G 60 t_spread)] ++ wSp G t_sp a_sp a_sp_whole a_sp_begins a_sp_fewer a_sp_told r1.2.2.2.2.2.2.2.2.2.2.2.2.2.2.2.2.2.2.2 t_sp_whole t_sp_begins t_sp_fewer t_sp_told) := hw
  refine lv_aload_n hx hb dX12_band_4 rfl (lv_at hl 0 rfl) ?_
  refine rf_get hx hb cx hw 0 rfl rfl 6 inX12 (by decide) fl_X12_51 rfl rfl dX12_band_5 ?_
  refine lv_iload_n hx hb dX12_band_8 rfl (lv_at hl 1 rfl) ?_
  obtain ⟨r2, h2, h⟩ := bd_some h
  refine rc_I0 (v := r2) hw [17, 18, 19, 20, 21, 22] (rr_V cx hw (c_X4_has l G S H.size N a_t_bands a_t_bands_least a_t_bands_greatest a_t_bands_good a_t_bands_bad a_t_bands_rowsIn r1.2.2.2.2.2.2.2.2.2.2.2.2.2.1 r1.2.2.2.2.2.2.2.2.2.2.2.2.2.2.1 r1.2.2.2.2.2.2.2.2.2.2.2.2.2.2.2.1 r1.2.2.2.2.2.2.2.2.2.2.2.2.2.2.2.2.1 r1.2.2.2.2.2.2.2.2.2.2.2.2.2.2.2.2.2.1 r1.2.2.2.2.2.2.2.2.2.2.2.2.2.2.2.2.2.2.1 x1 _ h2) mv_X12_197 [17, 18, 19, 20, 21, 22] rfl rfl rfl 17 rfl rfl ⟨Nat.le_of_ble_eq_true rfl, Nat.le_of_ble_eq_true rfl⟩ rfl hl.1 rfl (Nat.le_of_ble_eq_true rfl) dX12_band_9 ⟨Nat.le_of_ble_eq_true rfl, Nat.le_of_ble_eq_true rfl⟩) rfl rfl (fun H locs hw => ?_)
  obtain ⟨g3, h⟩ := gd_some h
  refine ri_if_ne (tgt := 18) hx hb g3 dX12_band_12 (by decide) (fun c4 => ?_) (fun c4 => ?_)
  · have h := it_pos c4 h
    refine ri_bipush hx hb dX12_band_15 rfl ?_
    obtain rfl := so_inj h
    exact re_i hx hb hlk hr cx hw (Nat.le_of_ble_eq_true rfl) (Nat.le_of_ble_eq_true rfl) dX12_band_17
  · have h := it_neg c4 h
    refine lv_iload_n hx hb dX12_band_18 rfl (lv_at hl 2 rfl) ?_
    obtain ⟨g5, h⟩ := gd_some h
    by_cases c6 : x2 = 0
    · have h := it_pos c6 h
      refine rt_in hx hb g5 (k := 0) c6 dX12_band_19 (off := 45) rfl (tgt := 64) (by decide) ?_
      refine lv_aload_n hx hb dX12_band_64 rfl (lv_at hl 0 rfl) ?_
      refine rf_get hx hb cx hw 0 rfl rfl 6 inX12 (by decide) fl_X12_51 rfl rfl dX12_band_65 ?_
      refine rf_get hx hb cx hw 17 rfl rfl 0 inX4 (by decide) fl_X12_200 rfl rfl dX12_band_68 ?_
      refine lv_iload_n hx hb dX12_band_71 rfl (lv_at hl 1 rfl) ?_
      obtain ⟨g7, h⟩ := gd_some h
      refine ra_i hx hb cx hw 18 rfl (by decide) g7 dX12_band_72 ?_
      obtain rfl := so_inj h
      exact re_i hx hb hlk hr cx hw (Nat.le_of_ble_eq_true rfl) (Nat.le_of_ble_eq_true rfl) dX12_band_73
    have h := it_neg c6 h
    by_cases c8 : x2 = 1
    · have h := it_pos c8 h
      refine rt_in hx hb g5 (k := 1) c8 dX12_band_19 (off := 55) rfl (tgt := 74) (by decide) ?_
      refine lv_aload_n hx hb dX12_band_74 rfl (lv_at hl 0 rfl) ?_
      refine rf_get hx hb cx hw 0 rfl rfl 6 inX12 (by decide) fl_X12_51 rfl rfl dX12_band_75 ?_
      refine rf_get hx hb cx hw 17 rfl rfl 1 inX4 (by decide) fl_X12_202 rfl rfl dX12_band_78 ?_
      refine lv_iload_n hx hb dX12_band_81 rfl (lv_at hl 1 rfl) ?_
      obtain ⟨g9, h⟩ := gd_some h
      refine ra_i hx hb cx hw 19 rfl (by decide) g9 dX12_band_82 ?_
      obtain rfl := so_inj h
      exact re_i hx hb hlk hr cx hw (Nat.le_of_ble_eq_true rfl) (Nat.le_of_ble_eq_true rfl) dX12_band_83
    have h := it_neg c8 h
    by_cases c10 : x2 = 2
    · have h := it_pos c10 h
      refine rt_in hx hb g5 (k := 2) c10 dX12_band_19 (off := 65) rfl (tgt := 84) (by decide) ?_
      refine lv_aload_n hx hb dX12_band_84 rfl (lv_at hl 0 rfl) ?_
      refine rf_get hx hb cx hw 0 rfl rfl 6 inX12 (by decide) fl_X12_51 rfl rfl dX12_band_85 ?_
      refine rf_get hx hb cx hw 17 rfl rfl 2 inX4 (by decide) fl_X12_204 rfl rfl dX12_band_88 ?_
      refine lv_iload_n hx hb dX12_band_91 rfl (lv_at hl 1 rfl) ?_
      obtain ⟨g11, h⟩ := gd_some h
      refine ra_i hx hb cx hw 20 rfl (by decide) g11 dX12_band_92 ?_
      obtain rfl := so_inj h
      exact re_i hx hb hlk hr cx hw (Nat.le_of_ble_eq_true rfl) (Nat.le_of_ble_eq_true rfl) dX12_band_93
    have h := it_neg c10 h
    by_cases c12 : x2 = 3
    · have h := it_pos c12 h
      refine rt_in hx hb g5 (k := 3) c12 dX12_band_19 (off := 75) rfl (tgt := 94) (by decide) ?_
      refine lv_aload_n hx hb dX12_band_94 rfl (lv_at hl 0 rfl) ?_
      refine rf_get hx hb cx hw 0 rfl rfl 6 inX12 (by decide) fl_X12_51 rfl rfl dX12_band_95 ?_
      refine rf_get hx hb cx hw 17 rfl rfl 3 inX4 (by decide) fl_X12_205 rfl rfl dX12_band_98 ?_
      refine lv_iload_n hx hb dX12_band_101 rfl (lv_at hl 1 rfl) ?_
      obtain ⟨g13, h⟩ := gd_some h
      refine ra_i hx hb cx hw 21 rfl (by decide) g13 dX12_band_102 ?_
      obtain rfl := so_inj h
      exact re_i hx hb hlk hr cx hw (Nat.le_of_ble_eq_true rfl) (Nat.le_of_ble_eq_true rfl) dX12_band_103
    have h := it_neg c12 h
    by_cases c14 : x2 = 4
    · have h := it_pos c14 h
      refine rt_in hx hb g5 (k := 4) c14 dX12_band_19 (off := 85) rfl (tgt := 104) (by decide) ?_
      refine lv_aload_n hx hb dX12_band_104 rfl (lv_at hl 0 rfl) ?_
      refine rf_get hx hb cx hw 0 rfl rfl 6 inX12 (by decide) fl_X12_51 rfl rfl dX12_band_105 ?_
      refine rf_get hx hb cx hw 17 rfl rfl 3 inX4 (by decide) fl_X12_205 rfl rfl dX12_band_108 ?_
      refine lv_iload_n hx hb dX12_band_111 rfl (lv_at hl 1 rfl) ?_
      obtain ⟨g15, h⟩ := gd_some h
      refine ra_i hx hb cx hw 21 rfl (by decide) g15 dX12_band_112 ?_
      obtain ⟨g16, h⟩ := gd_some h
      refine ri_i2l hx hb g16 dX12_band_113 ?_
      refine lv_aload_n hx hb dX12_band_114 rfl (lv_at hl 0 rfl) ?_
      refine rf_get hx hb cx hw 0 rfl rfl 6 inX12 (by decide) fl_X12_51 rfl rfl dX12_band_115 ?_
      refine lv_iload_n hx hb dX12_band_118 rfl (lv_at hl 1 rfl) ?_
      obtain ⟨r17, h17, h⟩ := bd_some h
      refine rc_I0 (v := r17) hw [17, 18, 19, 20, 21, 22] (rr_V cx hw (c_X4_cases l G S H.size N a_t_bands a_t_bands_least a_t_bands_greatest a_t_bands_good a_t_bands_bad a_t_bands_rowsIn r1.2.2.2.2.2.2.2.2.2.2.2.2.2.1 r1.2.2.2.2.2.2.2.2.2.2.2.2.2.2.1 r1.2.2.2.2.2.2.2.2.2.2.2.2.2.2.2.1 r1.2.2.2.2.2.2.2.2.2.2.2.2.2.2.2.2.1 r1.2.2.2.2.2.2.2.2.2.2.2.2.2.2.2.2.2.1 r1.2.2.2.2.2.2.2.2.2.2.2.2.2.2.2.2.2.2.1 x1 _ h17) mv_X12_206 [17, 18, 19, 20, 21, 22] rfl rfl rfl 17 rfl rfl ⟨Nat.le_of_ble_eq_true rfl, Nat.le_of_ble_eq_true rfl⟩ rfl hl.1 rfl (Nat.le_of_ble_eq_true rfl) dX12_band_119 ⟨Nat.le_of_ble_eq_true rfl, Nat.le_of_ble_eq_true rfl⟩) rfl rfl (fun H locs hw => ?_)
      obtain ⟨g18, h⟩ := gd_some h
      refine ri_i2l hx hb g18 dX12_band_122 ?_
      refine ri_iconst hx hb dX12_band_123 ?_
      obtain ⟨r19, h19, h⟩ := bd_some h
      refine rc_L0 (v := r19) hw [] (rr_S cx hw (c_X5_lowest l G S H.size N (r1.2.2.2.2.2.2.2.2.2.2.2.2.2.2.2.2.2.1 x1) r17 0 _ h19) mv_X12_209 [] rfl rfl rfl ⟨Nat.le_of_ble_eq_true rfl, Nat.le_of_ble_eq_true rfl⟩ rfl hl.1 rfl (Nat.le_of_ble_eq_true rfl) dX12_band_124 ⟨Nat.le_of_ble_eq_true rfl, Nat.le_of_ble_eq_true rfl⟩) rfl rfl (fun H locs hw => ?_)
      refine ri_l2i hx hb dX12_band_127 ?_
      obtain rfl := so_inj h
      exact re_i hx hb hlk hr cx hw (Nat.le_of_ble_eq_true rfl) (Nat.le_of_ble_eq_true rfl) dX12_band_128
    have h := it_neg c14 h
    by_cases c20 : x2 = 5
    · have h := it_pos c20 h
      refine rt_in hx hb g5 (k := 5) c20 dX12_band_19 (off := 110) rfl (tgt := 129) (by decide) ?_
      refine lv_aload_n hx hb dX12_band_129 rfl (lv_at hl 0 rfl) ?_
      refine rf_get hx hb cx hw 0 rfl rfl 6 inX12 (by decide) fl_X12_51 rfl rfl dX12_band_130 ?_
      refine rf_get hx hb cx hw 17 rfl rfl 3 inX4 (by decide) fl_X12_205 rfl rfl dX12_band_133 ?_
      refine lv_iload_n hx hb dX12_band_136 rfl (lv_at hl 1 rfl) ?_
      obtain ⟨g21, h⟩ := gd_some h
      refine ra_i hx hb cx hw 21 rfl (by decide) g21 dX12_band_137 ?_
      obtain ⟨g22, h⟩ := gd_some h
      refine ri_i2l hx hb g22 dX12_band_138 ?_
      refine lv_aload_n hx hb dX12_band_139 rfl (lv_at hl 0 rfl) ?_
      refine rf_get hx hb cx hw 0 rfl rfl 6 inX12 (by decide) fl_X12_51 rfl rfl dX12_band_140 ?_
      refine lv_iload_n hx hb dX12_band_143 rfl (lv_at hl 1 rfl) ?_
      obtain ⟨r23, h23, h⟩ := bd_some h
      refine rc_I0 (v := r23) hw [17, 18, 19, 20, 21, 22] (rr_V cx hw (c_X4_cases l G S H.size N a_t_bands a_t_bands_least a_t_bands_greatest a_t_bands_good a_t_bands_bad a_t_bands_rowsIn r1.2.2.2.2.2.2.2.2.2.2.2.2.2.1 r1.2.2.2.2.2.2.2.2.2.2.2.2.2.2.1 r1.2.2.2.2.2.2.2.2.2.2.2.2.2.2.2.1 r1.2.2.2.2.2.2.2.2.2.2.2.2.2.2.2.2.1 r1.2.2.2.2.2.2.2.2.2.2.2.2.2.2.2.2.2.1 r1.2.2.2.2.2.2.2.2.2.2.2.2.2.2.2.2.2.2.1 x1 _ h23) mv_X12_206 [17, 18, 19, 20, 21, 22] rfl rfl rfl 17 rfl rfl ⟨Nat.le_of_ble_eq_true rfl, Nat.le_of_ble_eq_true rfl⟩ rfl hl.1 rfl (Nat.le_of_ble_eq_true rfl) dX12_band_144 ⟨Nat.le_of_ble_eq_true rfl, Nat.le_of_ble_eq_true rfl⟩) rfl rfl (fun H locs hw => ?_)
      obtain ⟨g24, h⟩ := gd_some h
      refine ri_i2l hx hb g24 dX12_band_147 ?_
      refine ri_iconst hx hb dX12_band_148 ?_
      obtain ⟨r25, h25, h⟩ := bd_some h
      refine rc_L0 (v := r25) hw [] (rr_S cx hw (c_X5_lowest l G S H.size N (r1.2.2.2.2.2.2.2.2.2.2.2.2.2.2.2.2.2.1 x1) r23 1 _ h25) mv_X12_209 [] rfl rfl rfl ⟨Nat.le_of_ble_eq_true rfl, Nat.le_of_ble_eq_true rfl⟩ rfl hl.1 rfl (Nat.le_of_ble_eq_true rfl) dX12_band_149 ⟨Nat.le_of_ble_eq_true rfl, Nat.le_of_ble_eq_true rfl⟩) rfl rfl (fun H locs hw => ?_)
      refine ri_l2i hx hb dX12_band_152 ?_
      obtain rfl := so_inj h
      exact re_i hx hb hlk hr cx hw (Nat.le_of_ble_eq_true rfl) (Nat.le_of_ble_eq_true rfl) dX12_band_153
    have h := it_neg c20 h
    by_cases c26 : x2 = 6
    · have h := it_pos c26 h
      refine rt_in hx hb g5 (k := 6) c26 dX12_band_19 (off := 135) rfl (tgt := 154) (by decide) ?_
      refine lv_aload_n hx hb dX12_band_154 rfl (lv_at hl 0 rfl) ?_
      refine rf_get hx hb cx hw 0 rfl rfl 6 inX12 (by decide) fl_X12_51 rfl rfl dX12_band_155 ?_
      refine rf_get hx hb cx hw 17 rfl rfl 4 inX4 (by decide) fl_X12_215 rfl rfl dX12_band_158 ?_
      refine lv_iload_n hx hb dX12_band_161 rfl (lv_at hl 1 rfl) ?_
      obtain ⟨g27, h⟩ := gd_some h
      refine ra_i hx hb cx hw 22 rfl (by decide) g27 dX12_band_162 ?_
      obtain rfl := so_inj h
      exact re_i hx hb hlk hr cx hw (Nat.le_of_ble_eq_true rfl) (Nat.le_of_ble_eq_true rfl) dX12_band_163
    have h := it_neg c26 h
    by_cases c28 : x2 = 7
    · have h := it_pos c28 h
      refine rt_in hx hb g5 (k := 7) c28 dX12_band_19 (off := 145) rfl (tgt := 164) (by decide) ?_
      refine lv_aload_n hx hb dX12_band_164 rfl (lv_at hl 0 rfl) ?_
      refine lv_aload_n hx hb dX12_band_165 rfl (lv_at hl 0 rfl) ?_
      refine rf_get hx hb cx hw 0 rfl rfl 17 inX12 (by decide) fl_X12_109 rfl rfl dX12_band_166 ?_
      refine lv_iload_n hx hb dX12_band_169 rfl (lv_at hl 1 rfl) ?_
      obtain ⟨r29, h29, h⟩ := bd_some h
      refine rc_IT (v := r29.1) (X2 := [(a_t, .inr (11, [.ref a_t_tape, .ref a_t_out, .ref a_t_reader, .ref a_t_stock, .ref a_t_rows, .ref a_t_pure, .ref a_t_bands, .ref a_t_best, .ref a_t_drawn, .ref a_t_drawnPure, .ref a_t_inferred, .ref a_t_decisions, .ref a_t_acts, .ref t_empty, .ref a_t_months, .ref a_t_spread, spV t_sp a_sp, .ref t_latest, .int (kI t_kept), .int (kI r1.1)])), (a_t_stock, .inr (5, [.ref a_t_stock_good, .ref a_t_stock_bad, .ref a_t_stock_open, .int (kI t_stock_least), .int (kI t_stock_most), .int (kI t_stock_goodCost), .int (kI t_stock_badCost), .int (kI t_stock_referCost)])), (a_t_stock_good, cAI G 1000 t_stock_good), (a_t_stock_bad, cAI G 1000 t_stock_bad), (a_t_stock_open, cAI G 1000 t_stock_open), (a_t_rows, .inr (7, [.ref a_t_rows_score, .ref a_t_rows_good, .ref a_t_rows_bad, .ref a_t_rows_goodAhead, .ref a_t_rows_badAhead, .int (kI r1.2.1)])), (a_t_rows_score, cAI G 60 r1.2.2.1), (a_t_rows_good, cAI G 60 r1.2.2.2.1), (a_t_rows_bad, cAI G 60 r1.2.2.2.2.1), (a_t_rows_goodAhead, cAI G 61 r1.2.2.2.2.2.1), (a_t_rows_badAhead, cAI G 61 r1.2.2.2.2.2.2.1), (a_t_pure, .inr (4, [.ref a_t_pure_least, .ref a_t_pure_greatest, .ref a_t_pure_good, .ref a_t_pure_bad, .ref a_t_pure_rowsIn, .int (kI r1.2.2.2.2.2.2.2.1)])), (a_t_pure_least, cAI G 60 r1.2.2.2.2.2.2.2.2.1), (a_t_pure_greatest, cAI G 60 r1.2.2.2.2.2.2.2.2.2.1), (a_t_pure_good, cAI G 60 r1.2.2.2.2.2.2.2.2.2.2.1), (a_t_pure_bad, cAI G 60 r1.2.2.2.2.2.2.2.2.2.2.2.1), (a_t_pure_rowsIn, cAI G 60 r1.2.2.2.2.2.2.2.2.2.2.2.2.1), (a_t_bands, .inr (4, [.ref a_t_bands_least, .ref a_t_bands_greatest, .ref a_t_bands_good, .ref a_t_bands_bad, .ref a_t_bands_rowsIn, .int (kI r1.2.2.2.2.2.2.2.2.2.2.2.2.2.1)])), (a_t_bands_least, cAI G 60 r1.2.2.2.2.2.2.2.2.2.2.2.2.2.2.1), (a_t_bands_greatest, cAI G 60 r1.2.2.2.2.2.2.2.2.2.2.2.2.2.2.2.1), (a_t_bands_good, cAI G 60 r1.2.2.2.2.2.2.2.2.2.2.2.2.2.2.2.2.1), (a_t_bands_bad, cAI G 60 r1.2.2.2.2.2.2.2.2.2.2.2.2.2.2.2.2.2.1), (a_t_bands_rowsIn, cAI G 60 r1.2.2.2.2.2.2.2.2.2.2.2.2.2.2.2.2.2.2.1), (a_t_spread, cAI G 60 r29.2)]) hw [0, 17, 18, 19, 20, 21, 22, 23] [1, 2, 3, 4, 5, 6, 7, 8, 9, 10, 11, 12, 13, 14, 15, 16] [16, 0, 1, 2, 3, 4, 5, 6, 7, 8, 9, 10, 11, 12, 13, 14, 15, 17, 18, 19, 20, 21, 22, 23] (rr_V cx hw (c_X12_casesIn l G S H.size N a_t a_t_bands a_t_bands_least a_t_bands_greatest a_t_bands_good a_t_bands_bad a_t_bands_rowsIn a_t_spread a_t_tape a_t_out a_t_reader a_t_stock a_t_rows a_t_pure a_t_best a_t_drawn a_t_drawnPure a_t_inferred a_t_decisions a_t_acts a_t_months a_sp t_empty t_latest t_kept r1.1 r1.2.2.2.2.2.2.2.2.2.2.2.2.2.1 r1.2.2.2.2.2.2.2.2.2.2.2.2.2.2.1 r1.2.2.2.2.2.2.2.2.2.2.2.2.2.2.2.1 r1.2.2.2.2.2.2.2.2.2.2.2.2.2.2.2.2.1 r1.2.2.2.2.2.2.2.2.2.2.2.2.2.2.2.2.2.1 r1.2.2.2.2.2.2.2.2.2.2.2.2.2.2.2.2.2.2.1 t_spread t_sp t_latest x1 _ h29) mv_X12_218 [0, 17, 18, 19, 20, 21, 22, 23] rfl rfl rfl 0 rfl rfl ⟨Nat.le_of_ble_eq_true rfl, Nat.le_of_ble_eq_true rfl⟩ rfl hl.1 rfl (Nat.le_of_ble_eq_true rfl) dX12_band_170 ⟨Nat.le_of_ble_eq_true rfl, Nat.le_of_ble_eq_true rfl⟩) rfl rfl rfl rfl rfl rfl rfl rfl (fun H locs hw => ?_)
      obtain rfl := so_inj h
      exact re_i hx hb hlk hr cx hw (Nat.le_of_ble_eq_true rfl) (Nat.le_of_ble_eq_true rfl) dX12_band_173
    have h := it_neg c28 h
    refine rt_out hx hb g5 dX12_band_19 (by omega) (tgt := 174) (by decide) ?_
    refine ri_bipush hx hb dX12_band_174 rfl ?_
    obtain rfl := so_inj h
    exact re_i hx hb hlk hr cx hw (Nat.le_of_ble_eq_true rfl) (Nat.le_of_ble_eq_true rfl) dX12_band_176
