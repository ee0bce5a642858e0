set_option maxHeartbeats 4000000 in
set_option maxRecDepth 100000 in
theorem c_X12_count (l : Launch) (G : GG) (S : SM) (sz : Nat) (N : Nat) (a_t a_t_stock a_t_stock_good a_t_stock_bad a_t_stock_open a_t_rows a_t_rows_score a_t_rows_good a_t_rows_bad a_t_rows_goodAhead a_t_rows_badAhead a_t_pure a_t_pure_least a_t_pure_greatest a_t_pure_good a_t_pure_bad a_t_pure_rowsIn a_t_bands a_t_bands_least a_t_bands_greatest a_t_bands_good a_t_bands_bad a_t_bands_rowsIn a_t_tape a_t_out a_t_decisions a_t_acts a_t_reader a_t_best a_t_drawn a_t_drawnPure a_t_inferred a_t_months a_t_spread a_t_tape_store a_t_out_store a_t_decisions_score a_t_decisions_choice a_t_decisions_advice a_t_decisions_result a_t_decisions_learntBy a_t_acts_kind a_t_acts_first a_t_acts_second a_t_acts_third a_sp a_sp_whole a_sp_begins a_sp_fewer a_sp_told : Nat) (t_empty : Nat) (t_latest : Nat) (t_kept : Int) (t_settled : Int) (t_tape_size : Int) (t_out_size : Int) (t_stock_least : Int) (t_stock_most : Int) (t_stock_goodCost : Int) (t_stock_badCost : Int) (t_stock_referCost : Int) (t_stock_good : Int → Int) (t_stock_bad : Int → Int) (t_stock_open : Int → Int) (t_rows_size : Int) (t_rows_score : Int → Int) (t_rows_good : Int → Int) (t_rows_bad : Int → Int) (t_rows_goodAhead : Int → Int) (t_rows_badAhead : Int → Int) (t_pure_size : Int) (t_pure_least : Int → Int) (t_pure_greatest : Int → Int) (t_pure_good : Int → Int) (t_pure_bad : Int → Int) (t_pure_rowsIn : Int → Int) (t_bands_size : Int) (t_bands_least : Int → Int) (t_bands_greatest : Int → Int) (t_bands_good : Int → Int) (t_bands_bad : Int → Int) (t_bands_rowsIn : Int → Int) (t_decisions_size : Int) (t_decisions_learns : Int) (t_acts_size : Int) (t_sp : Int) (t_sp_runs : Int) (t_sp_whole : Int → UInt64) (t_sp_begins : Int → Int) (t_sp_fewer : Int → UInt64) (t_sp_told : Int → UInt64) (x1 : Int) (r : Int × Int × Int × (Int → Int) × (Int → Int) × (Int → Int) × (Int → Int) × (Int → Int) × Int × (Int → Int) × (Int → Int) × (Int → Int) × (Int → Int) × (Int → Int) × Int × (Int → Int) × (Int → Int) × (Int → Int) × (Int → Int) × (Int → Int) × Int) (h : m_X12_count N S t_latest t_kept t_tape_size t_out_size t_stock_least t_stock_most t_stock_goodCost t_stock_badCost t_stock_referCost t_stock_good t_stock_bad t_stock_open t_decisions_size t_acts_size t_sp t_settled t_rows_size t_rows_score t_rows_good t_rows_bad t_rows_goodAhead t_rows_badAhead t_pure_size t_pure_least t_pure_greatest t_pure_good t_pure_bad t_pure_rowsIn t_bands_size t_bands_least t_bands_greatest t_bands_good t_bands_bad t_bands_rowsIn t_sp_runs x1 = some r) : CtI l yX12_count cX12_count 2 .int (rmD 7 0 0) G S sz [.ref a_t, .int (kI x1)] ([(a_t, .inr (11, [.ref a_t_tape, .ref a_t_out, .ref a_t_reader, .ref a_t_stock, .ref a_t_rows, .ref a_t_pure, .ref a_t_bands, .ref a_t_best, .ref a_t_drawn, .ref a_t_drawnPure, .ref a_t_inferred, .ref a_t_decisions, .ref a_t_acts, .ref t_empty, .ref a_t_months, .ref a_t_spread, spV t_sp a_sp, .ref t_latest, .int (kI t_kept), .int (kI t_settled)])), (a_t_stock, .inr (5, [.ref a_t_stock_good, .ref a_t_stock_bad, .ref a_t_stock_open, .int (kI t_stock_least), .int (kI t_stock_most), .int (kI t_stock_goodCost), .int (kI t_stock_badCost), .int (kI t_stock_referCost)])), (a_t_stock_good, cAI G 1000 t_stock_good), (a_t_stock_bad, cAI G 1000 t_stock_bad), (a_t_stock_open, cAI G 1000 t_stock_open), (a_t_rows, .inr (7, [.ref a_t_rows_score, .ref a_t_rows_good, .ref a_t_rows_bad, .ref a_t_rows_goodAhead, .ref a_t_rows_badAhead, .int (kI t_rows_size)])), (a_t_rows_score, cAI G 60 t_rows_score), (a_t_rows_good, cAI G 60 t_rows_good), (a_t_rows_bad, cAI G 60 t_rows_bad), (a_t_rows_goodAhead, cAI G 61 t_rows_goodAhead), (a_t_rows_badAhead, cAI G 61 t_rows_badAhead), (a_t_pure, .inr (4, [.ref a_t_pure_least, .ref a_t_pure_greatest, .ref a_t_pure_good, .ref a_t_pure_bad, .ref a_t_pure_rowsIn, .int (kI t_pure_size)])), (a_t_pure_least, cAI G 60 t_pure_least), (a_t_pure_greatest, cAI G 60 t_pure_greatest), (a_t_pure_good, cAI G 60 t_pure_good), (a_t_pure_bad, cAI G 60 t_pure_bad), (a_t_pure_rowsIn, cAI G 60 t_pure_rowsIn), (a_t_bands, .inr (4, [.ref a_t_bands_least, .ref a_t_bands_greatest, .ref a_t_bands_good, .ref a_t_bands_bad, .ref a_t_bands_rowsIn, .int (kI t_bands_size)])), (a_t_bands_least, cAI G 60 t_bands_least), (a_t_bands_greatest, cAI G 60 t_bands_greatest), (a_t_bands_good, cAI G 60 t_bands_good), (a_t_bands_bad, cAI G 60 t_bands_bad), (a_t_bands_rowsIn, cAI G 60 t_bands_rowsIn), (a_t_tape, .inr (1, [.ref a_t_tape_store, .int (kI t_tape_size)])), (a_t_out, .inr (1, [.ref a_t_out_store, .int (kI t_out_size)])), (a_t_decisions, .inr (2, [.ref a_t_decisions_score, .ref a_t_decisions_choice, .ref a_t_decisions_advice, .ref a_t_decisions_result, .ref a_t_decisions_learntBy, .int (kI t_decisions_size), .int (kI t_decisions_learns)])), (a_t_acts, .inr (0, [.ref a_t_acts_kind, .ref a_t_acts_first, .ref a_t_acts_second, .ref a_t_acts_third, .int (kI t_acts_size)]))] ++ wSp G t_sp a_sp a_sp_whole a_sp_begins a_sp_fewer a_sp_told t_sp_runs t_sp_whole t_sp_begins t_sp_fewer t_sp_told) r.1 ([(a_t, .inr (11, [.ref a_t_tape, .ref a_t_out, .ref a_t_reader, .ref a_t_stock, .ref a_t_rows, .ref a_t_pure, .ref a_t_bands, .ref a_t_best, .ref a_t_drawn, .ref a_t_drawnPure, .ref a_t_inferred, .ref a_t_decisions, .ref a_t_acts, .ref t_empty, .ref a_t_months, .ref a_t_spread, spV t_sp a_sp, .ref t_latest, .int (kI t_kept), .int (kI r.2.1)])), (a_t_stock, .inr (5, [.ref a_t_stock_good, .ref a_t_stock_bad, .ref a_t_stock_open, .int (kI t_stock_least), .int (kI t_stock_most), .int (kI t_stock_goodCost), .int (kI t_stock_badCost), .int (kI t_stock_referCost)])), (a_t_stock_good, cAI G 1000 t_stock_good), (a_t_stock_bad, cAI G 1000 t_stock_bad), (a_t_stock_open, cAI G 1000 t_stock_open), (a_t_rows, .inr (7, [.ref a_t_rows_score, .ref a_t_rows_good, .ref a_t_rows_bad, .ref a_t_rows_goodAhead, .ref a_t_rows_badAhead, .int (kI r.2.2.1)])), (a_t_rows_score, cAI G 60 r.2.2.2.1), (a_t_rows_good, cAI G 60 r.2.2.2.2.1), (a_t_rows_bad, cAI G 60 r.2.2.2.2.2.1), (a_t_rows_goodAhead, cAI G 61 r.2.2.2.2.2.2.1), (a_t_rows_badAhead, cAI G 61 r.2.2.2.2.2.2.2.1), (a_t_pure, .inr (4, [.ref a_t_pure_least, .ref a_t_pure_greatest, .ref a_t_pure_good, .ref a_t_pure_bad, .ref a_t_pure_rowsIn, .int (kI r.2.2.2.2.2.2.2.2.1)])), (a_t_pure_least, cAI G 60 r.2.2.2.2.2.2.2.2.2.1), (a_t_pure_greatest, cAI G 60 r.2.2.2.2.2.2.2.2.2.2.1), (a_t_pure_good, cAI G 60 r.2.2.2.2.2.2.2.2.2.2.2.1), (a_t_pure_bad, cAI G 60 r.2.2.2.2.2.2.2.2.2.2.2.2.1), (a_t_pure_rowsIn, cAI G 60 r.2.2.2.2.2.2.2.2.2.2.2.2.2.1), (a_t_bands, .inr (4, [.ref a_t_bands_least, .ref a_t_bands_greatest, .ref a_t_bands_good, .ref a_t_bands_bad, .ref a_t_bands_rowsIn, .int (kI r.2.2.2.2.2.2.2.2.2.2.2.2.2.2.1)])), (a_t_bands_least, cAI G 60 r.2.2.2.2.2.2.2.2.2.2.2.2.2.2.2.1), (a_t_bands_greatest, cAI G 60 r.2.2.2.2.2.2.2.2.2.2.2.2.2.2.2.2.1), (a_t_bands_good, cAI G 60 r.2.2.2.2.2.2.2.2.2.2.2.2.2.2.2.2.2.1), (a_t_bands_bad, cAI G 60 r.2.2.2.2.2.2.2.2.2.2.2.2.2.2.2.2.2.2.1), (a_t_bands_rowsIn, cAI G 60 r.2.2.2.2.2.2.2.2.2.2.2.2.2.2.2.2.2.2.2.1), (a_t_tape, .inr (1, [.ref a_t_tape_store, .int (kI t_tape_size)])), (a_t_out, .inr (1, [.ref a_t_out_store, .int (kI t_out_size)])), (a_t_decisions, .inr (2, [.ref a_t_decisions_score, .ref a_t_decisions_choice, .ref a_t_decisions_advice, .ref a_t_decisions_result, .ref a_t_decisions_learntBy, .int (kI t_decisions_size), .int (kI t_decisions_learns)])), (a_t_acts, .inr (0, [.ref a_t_acts_kind, .ref a_t_acts_first, .ref a_t_acts_second, .ref a_t_acts_third, .int (kI t_acts_size)]))] ++ wSp G t_sp a_sp a_sp_whole a_sp_begins a_sp_fewer a_sp_told r.2.2.2.2.2.2.2.2.2.2.2.2.2.2.2.2.2.2.2.2 t_sp_whole t_sp_begins t_sp_fewer t_sp_told) := by
  refine met_I (by decide +kernel) (Nat.le_of_ble_eq_true rfl) ?_
  intro p e s m args below meth c A H locs ls cx hw hr hlk hnm hl
  have hl : lv_has ls 2 [(0, .ref a_t), (1, .int (kI x1))] := hl
  rw [m_X12_count] at h
  obtain ⟨⟨hx, hb, -, -, -⟩, -⟩ := id cx
  refine lv_aload_n hx hb dX12_count_0 rfl (lv_at hl 0 rfl) ?_
  obtain ⟨r1, h1, h⟩ := bd_some h
  refine rc_VA hw (rr_VA cx hw (ct_PV (X2 := [(a_t, .inr (11, [.ref a_t_tape, .ref a_t_out, .ref a_t_reader, .ref a_t_stock, .ref a_t_rows, .ref a_t_pure, .ref a_t_bands, .ref a_t_best, .ref a_t_drawn, .ref a_t_drawnPure, .ref a_t_inferred, .ref a_t_decisions, .ref a_t_acts, .ref t_empty, .ref a_t_months, .ref a_t_spread, spV t_sp a_sp, .ref t_latest, .int (kI t_kept), .int (kI r1.1)])), (a_t_stock, .inr (5, [.ref a_t_stock_good, .ref a_t_stock_bad, .ref a_t_stock_open, .int (kI t_stock_least), .int (kI t_stock_most), .int (kI t_stock_goodCost), .int (kI t_stock_badCost), .int (kI t_stock_referCost)])), (a_t_stock_good, cAI G 1000 t_stock_good), (a_t_stock_bad, cAI G 1000 t_stock_bad), (a_t_stock_open, cAI G 1000 t_stock_open), (a_t_rows, .inr (7, [.ref a_t_rows_score, .ref a_t_rows_good, .ref a_t_rows_bad, .ref a_t_rows_goodAhead, .ref a_t_rows_badAhead, .int (kI r1.2.1)])), (a_t_rows_score, cAI G 60 r1.2.2.1), (a_t_rows_good, cAI G 60 r1.2.2.2.1), (a_t_rows_bad, cAI G 60 r1.2.2.2.2.1), (a_t_rows_goodAhead, cAI G 61 r1.2.2.2.2.2.1), (a_t_rows_badAhead, cAI G 61 r1.2.2.2.2.2.2.1), (a_t_pure, .inr (4, [.ref a_t_pure_least, .ref a_t_pure_greatest, .ref a_t_pure_good, .ref a_t_pure_bad, .ref a_t_pure_rowsIn, .int (kI r1.2.2.2.2.2.2.2.1)])), (a_t_pure_least, cAI G 60 r1.2.2.2.2.2.2.2.2.1), (a_t_pure_greatest, cAI G 60 r1.2.2.2.2.2.2.2.2.2.1), (a_t_pure_good, cAI G 60 r1.2.2.2.2.2.2.2.2.2.2.1), (a_t_pure_bad, cAI G 60 r1.2.2.2.2.2.2.2.2.2.2.2.1), (a_t_pure_rowsIn, cAI G 60 r1.2.2.2.2.2.2.2.2.2.2.2.2.1), (a_t_bands, .inr (4, [.ref a_t_bands_least, .ref a_t_bands_greatest, .ref a_t_bands_good, .ref a_t_bands_bad, .ref a_t_bands_rowsIn, .int (kI r1.2.2.2.2.2.2.2.2.2.2.2.2.2.1)])), (a_t_bands_least, cAI G 60 r1.2.2.2.2.2.2.2.2.2.2.2.2.2.2.1), (a_t_bands_greatest, cAI G 60 r1.2.2.2.2.2.2.2.2.2.2.2.2.2.2.2.1), (a_t_bands_good, cAI G 60 r1.2.2.2.2.2.2.2.2.2.2.2.2.2.2.2.2.1), (a_t_bands_bad, cAI G 60 r1.2.2.2.2.2.2.2.2.2.2.2.2.2.2.2.2.2.1), (a_t_bands_rowsIn, cAI G 60 r1.2.2.2.2.2.2.2.2.2.2.2.2.2.2.2.2.2.2.1), (a_t_tape, .inr (1, [.ref a_t_tape_store, .int (kI t_tape_size)])), (a_t_out, .inr (1, [.ref a_t_out_store, .int (kI t_out_size)])), (a_t_decisions, .inr (2, [.ref a_t_decisions_score, .ref a_t_decisions_choice, .ref a_t_decisions_advice, .ref a_t_decisions_result, .ref a_t_decisions_learntBy, .int (kI t_decisions_size), .int (kI t_decisions_learns)])), (a_t_acts, .inr (0, [.ref a_t_acts_kind, .ref a_t_acts_first, .ref a_t_acts_second, .ref a_t_acts_third, .int (kI t_acts_size)]))]) 23 (c_X12_settle l G S H.size N a_t a_t_stock a_t_stock_good a_t_stock_bad a_t_stock_open a_t_rows a_t_rows_score a_t_rows_good a_t_rows_bad a_t_rows_goodAhead a_t_rows_badAhead a_t_pure a_t_pure_least a_t_pure_greatest a_t_pure_good a_t_pure_bad a_t_pure_rowsIn a_t_bands a_t_bands_least a_t_bands_greatest a_t_bands_good a_t_bands_bad a_t_bands_rowsIn a_t_tape a_t_out a_t_reader a_t_best a_t_drawn a_t_drawnPure a_t_inferred a_t_decisions a_t_acts a_t_months a_t_spread a_sp a_sp_whole a_sp_begins a_sp_fewer a_sp_told t_empty t_latest t_kept t_settled t_stock_least t_stock_most t_stock_goodCost t_stock_badCost t_stock_referCost t_stock_good t_stock_bad t_stock_open t_rows_size t_rows_score t_rows_good t_rows_bad t_rows_goodAhead t_rows_badAhead t_pure_size t_pure_least t_pure_greatest t_pure_good t_pure_bad t_pure_rowsIn t_bands_size t_bands_least t_bands_greatest t_bands_good t_bands_bad t_bands_rowsIn t_sp t_sp_runs t_sp_whole t_sp_begins t_sp_fewer t_sp_told _ h1) rfl rfl) mv_X12_151 0 rfl rfl ⟨Nat.le_of_ble_eq_true rfl, Nat.le_of_ble_eq_true rfl⟩ rfl hl.1 rfl (Nat.le_of_ble_eq_true rfl) dX12_count_1 ⟨Nat.le_of_ble_eq_true rfl, Nat.le_of_ble_eq_true rfl⟩) (fun H locs hw => ?_)
  have hw : HP G A s.heap H locs ([(a_t, .inr (11, [.ref a_t_tape, .ref a_t_out, .ref a_t_reader, .ref a_t_stock, .ref a_t_rows, .ref a_t_pure, .ref a_t_bands, .ref a_t_best, .ref a_t_drawn, .ref a_t_drawnPure, .ref a_t_inferred, .ref a_t_decisions, .ref a_t_acts, .ref t_empty, .ref a_t_months, .ref a_t_spread, spV t_sp a_sp, .ref t_latest, .int (kI t_kept), .int (kI r1.1)])), (a_t_stock, .inr (5, [.ref a_t_stock_good, .ref a_t_stock_bad, .ref a_t_stock_open, .int (kI t_stock_least), .int (kI t_stock_most), .int (kI t_stock_goodCost), .int (kI t_stock_badCost), .int (kI t_stock_referCost)])), (a_t_stock_good, cAI G 1000 t_stock_good), (a_t_stock_bad, cAI G 1000 t_stock_bad), (a_t_stock_open, cAI G 1000 t_stock_open), (a_t_rows, .inr (7, [.ref a_t_rows_score, .ref a_t_rows_good, .ref a_t_rows_bad, .ref a_t_rows_goodAhead, .ref a_t_rows_badAhead, .int (kI r1.2.1)])), (a_t_rows_score, cAI G 60 r1.2.2.1), (a_t_rows_good, cAI G 60 r1.2.2.2.1), (a_t_rows_bad, cAI G 60 r1.2.2.2.2.1), (a_t_rows_goodAhead, cAI G 61 r1.2.2.2.2.2.1), (a_t_rows_badAhead, cAI G 61 r1.2.2.2.2.2.2.1), (a_t_pure, .inr (4, [.ref a_t_pure_least, .ref a_t_pure_greatest, .ref a_t_pure_good, .ref a_t_pure_bad, .ref a_t_pure_rowsIn, .int (kI r1.2.2.2.2.2.2.2.1)])), (a_t_pure_least, cAI G 60 r1.2.2.2.2.2.2.2.2.1), (a_t_pure_greatest, cAI G 60 r1.2.2.2.2.2.2.2.2.2.1), (a_t_pure_good, cAI G 60 r1.2.2.2.2.2.2.2.2.2.2.1), (a_t_pure_bad, cAI G 60 r1.2.2.2.2.2.2.2.2.2.2.2.1), (a_t_pure_rowsIn, cAI G 60 r1.2.2.2.2.2.2.2.2.2.2.2.2.1), (a_t_bands, .inr (4, [.ref a_t_bands_least, .ref a_t_bands_greatest, .ref a_t_bands_good, .ref a_t_bands_bad, .ref a_t_bands_rowsIn, .int (kI r1.2.2.2.2.2.2.2.2.2.2.2.2.2.1)])), (a_t_bands_least, cAI G 60 r1.2.2.2.2.2.2.2.2.2.2.2.2.2.2.1), (a_t_bands_greatest, cAI G 60 r1.2.2.2.2.2.2.2.2.2.2.2.2.2.2.2.1), (a_t_bands_good, cAI G 60 r1.2.2.2.2.2.2.2.2.2.2.2.2.2.2.2.2.1), (a_t_bands_bad, cAI G 60 r1.2.2.2.2.2.2.2.2.2.2.2.2.2.2.2.2.2.1), (a_t_bands_rowsIn, cAI G 60 r1.2.2.2.2.2.2.2.2.2.2.2.2.2.2.2.2.2.2.1), (a_t_tape, .inr (1, [.ref a_t_tape_store, .int (kI t_tape_size)])), (a_t_out, .inr (1, [.ref a_t_out_store, .int (kI t_out_size)])), (a_t_decisions, .inr (2, [.ref a_t_decisions_score, .ref a_t_decisions_choice, .ref a_t_decisions_advice, .ref a_t_decisions_result, .ref a_t_decisions_learntBy, .int (kI t_decisions_size), .int (kI t_decisions_learns)])), (a_t_acts, .inr (0, [.ref a_t_acts_kind, .ref a_t_acts_first, .ref a_t_acts_second, .ref a_t_acts_third, .int (kI t_acts_size)]))] ++ wSp G t_sp a_sp a_sp_whole a_sp_begins a_sp_fewer a_sp_told r1.2.2.2.2.2.2.2.2.2.2.2.2.2.2.2.2.2.2.2 t_sp_whole t_sp_begins t_sp_fewer t_sp_told) := hw
  refine lv_iload_n hx hb dX12_count_4 rfl (lv_at hl 1 rfl) ?_
  obtain ⟨g2, h⟩ := gd_some h
  by_cases c3 : x1 = 0
  · have h := it_pos c3 h
    refine rt_in hx hb g2 (k := 0) c3 dX12_count_5 (off := 87) rfl (tgt := 92) (by decide) ?_
    refine lv_aload_n hx hb dX12_count_92 rfl (lv_at hl 0 rfl) ?_
    refine rf_get hx hb cx hw 0 rfl rfl 4 inX12 (by decide) fl_X12_40 rfl rfl dX12_count_93 ?_
    refine rf_get hx hb cx hw 5 rfl rfl 5 inX8 (by decide) fl_X12_154 rfl rfl dX12_count_96 ?_
    obtain rfl := so_inj h
    exact re_i hx hb hlk hr cx hw (Nat.le_of_ble_eq_true rfl) (Nat.le_of_ble_eq_true rfl) dX12_count_99
  have h := it_neg c3 h
  by_cases c4 : x1 = 1
  · have h := it_pos c4 h
    refine rt_in hx hb g2 (k := 1) c4 dX12_count_5 (off := 95) rfl (tgt := 100) (by decide) ?_
    refine lv_aload_n hx hb dX12_count_100 rfl (lv_at hl 0 rfl) ?_
    refine rf_get hx hb cx hw 0 rfl rfl 4 inX12 (by decide) fl_X12_40 rfl rfl dX12_count_101 ?_
    obtain ⟨r5, h5, h⟩ := bd_some h
    refine rc_I0 (v := r5) hw [5, 6, 7, 8, 9, 10] (rr_V cx hw (c_X8_goods l G S H.size N a_t_rows a_t_rows_score a_t_rows_good a_t_rows_bad a_t_rows_goodAhead a_t_rows_badAhead r1.2.1 r1.2.2.1 r1.2.2.2.1 r1.2.2.2.2.1 r1.2.2.2.2.2.1 r1.2.2.2.2.2.2.1 _ h5) mv_X12_155 [5, 6, 7, 8, 9, 10] rfl rfl rfl 5 rfl rfl ⟨Nat.le_of_ble_eq_true rfl, Nat.le_of_ble_eq_true rfl⟩ rfl hl.1 rfl (Nat.le_of_ble_eq_true rfl) dX12_count_104 ⟨Nat.le_of_ble_eq_true rfl, Nat.le_of_ble_eq_true rfl⟩) rfl rfl (fun H locs hw => ?_)
    obtain rfl := so_inj h
    exact re_i hx hb hlk hr cx hw (Nat.le_of_ble_eq_true rfl) (Nat.le_of_ble_eq_true rfl) dX12_count_107
  have h := it_neg c4 h
  by_cases c6 : x1 = 2
  · have h := it_pos c6 h
    refine rt_in hx hb g2 (k := 2) c6 dX12_count_5 (off := 103) rfl (tgt := 108) (by decide) ?_
    refine lv_aload_n hx hb dX12_count_108 rfl (lv_at hl 0 rfl) ?_
    refine rf_get hx hb cx hw 0 rfl rfl 4 inX12 (by decide) fl_X12_40 rfl rfl dX12_count_109 ?_
    obtain ⟨r7, h7, h⟩ := bd_some h
    refine rc_I0 (v := r7) hw [5, 6, 7, 8, 9, 10] (rr_V cx hw (c_X8_bads l G S H.size N a_t_rows a_t_rows_score a_t_rows_good a_t_rows_bad a_t_rows_goodAhead a_t_rows_badAhead r1.2.1 r1.2.2.1 r1.2.2.2.1 r1.2.2.2.2.1 r1.2.2.2.2.2.1 r1.2.2.2.2.2.2.1 _ h7) mv_X12_159 [5, 6, 7, 8, 9, 10] rfl rfl rfl 5 rfl rfl ⟨Nat.le_of_ble_eq_true rfl, Nat.le_of_ble_eq_true rfl⟩ rfl hl.1 rfl (Nat.le_of_ble_eq_true rfl) dX12_count_112 ⟨Nat.le_of_ble_eq_true rfl, Nat.le_of_ble_eq_true rfl⟩) rfl rfl (fun H locs hw => ?_)
    obtain rfl := so_inj h
    exact re_i hx hb hlk hr cx hw (Nat.le_of_ble_eq_true rfl) (Nat.le_of_ble_eq_true rfl) dX12_count_115
  have h := it_neg c6 h
  by_cases c8 : x1 = 3
  · have h := it_pos c8 h
    refine rt_in hx hb g2 (k := 3) c8 dX12_count_5 (off := 111) rfl (tgt := 116) (by decide) ?_
    refine lv_aload_n hx hb dX12_count_116 rfl (lv_at hl 0 rfl) ?_
    refine rf_get hx hb cx hw 0 rfl rfl 6 inX12 (by decide) fl_X12_51 rfl rfl dX12_count_117 ?_
    refine rf_get hx hb cx hw 17 rfl rfl 5 inX4 (by decide) fl_X12_162 rfl rfl dX12_count_120 ?_
    obtain rfl := so_inj h
    exact re_i hx hb hlk hr cx hw (Nat.le_of_ble_eq_true rfl) (Nat.le_of_ble_eq_true rfl) dX12_count_123
  have h := it_neg c8 h
  by_cases c9 : x1 = 4
  · have h := it_pos c9 h
    refine rt_in hx hb g2 (k := 4) c9 dX12_count_5 (off := 119) rfl (tgt := 124) (by decide) ?_
    refine lv_aload_n hx hb dX12_count_124 rfl (lv_at hl 0 rfl) ?_
    refine rf_get hx hb cx hw 0 rfl rfl 3 inX12 (by decide) fl_X12_33 rfl rfl dX12_count_125 ?_
    refine rf_get hx hb cx hw 1 rfl rfl 3 inX6 (by decide) fl_X12_163 rfl rfl dX12_count_128 ?_
    obtain rfl := so_inj h
    exact re_i hx hb hlk hr cx hw (Nat.le_of_ble_eq_true rfl) (Nat.le_of_ble_eq_true rfl) dX12_count_131
  have h := it_neg c9 h
  by_cases c10 : x1 = 5
  · have h := it_pos c10 h
    refine rt_in hx hb g2 (k := 5) c10 dX12_count_5 (off := 127) rfl (tgt := 132) (by decide) ?_
    refine lv_aload_n hx hb dX12_count_132 rfl (lv_at hl 0 rfl) ?_
    refine rf_get hx hb cx hw 0 rfl rfl 3 inX12 (by decide) fl_X12_33 rfl rfl dX12_count_133 ?_
    refine rf_get hx hb cx hw 1 rfl rfl 4 inX6 (by decide) fl_X12_166 rfl rfl dX12_count_136 ?_
    obtain rfl := so_inj h
    exact re_i hx hb hlk hr cx hw (Nat.le_of_ble_eq_true rfl) (Nat.le_of_ble_eq_true rfl) dX12_count_139
  have h := it_neg c10 h
  by_cases c11 : x1 = 6
  · have h := it_pos c11 h
    refine rt_in hx hb g2 (k := 6) c11 dX12_count_5 (off := 135) rfl (tgt := 140) (by decide) ?_
    refine lv_aload_n hx hb dX12_count_140 rfl (lv_at hl 0 rfl) ?_
    refine rf_get hx hb cx hw 0 rfl rfl 3 inX12 (by decide) fl_X12_33 rfl rfl dX12_count_141 ?_
    refine rf_get hx hb cx hw 1 rfl rfl 5 inX6 (by decide) fl_X12_169 rfl rfl dX12_count_144 ?_
    obtain rfl := so_inj h
    exact re_i hx hb hlk hr cx hw (Nat.le_of_ble_eq_true rfl) (Nat.le_of_ble_eq_true rfl) dX12_count_147
  have h := it_neg c11 h
  by_cases c12 : x1 = 7
  · have h := it_pos c12 h
    refine rt_in hx hb g2 (k := 7) c12 dX12_count_5 (off := 143) rfl (tgt := 148) (by decide) ?_
    refine lv_aload_n hx hb dX12_count_148 rfl (lv_at hl 0 rfl) ?_
    refine rf_get hx hb cx hw 0 rfl rfl 3 inX12 (by decide) fl_X12_33 rfl rfl dX12_count_149 ?_
    refine rf_get hx hb cx hw 1 rfl rfl 6 inX6 (by decide) fl_X12_172 rfl rfl dX12_count_152 ?_
    obtain rfl := so_inj h
    exact re_i hx hb hlk hr cx hw (Nat.le_of_ble_eq_true rfl) (Nat.le_of_ble_eq_true rfl) dX12_count_155
  have h := it_neg c12 h
  by_cases c13 : x1 = 8
  · have h := it_pos c13 h
    refine rt_in hx hb g2 (k := 8) c13 dX12_count_5 (off := 151) rfl (tgt := 156) (by decide) ?_
    refine lv_aload_n hx hb dX12_count_156 rfl (lv_at hl 0 rfl) ?_
    refine rf_get hx hb cx hw 0 rfl rfl 3 inX12 (by decide) fl_X12_33 rfl rfl dX12_count_157 ?_
    refine rf_get hx hb cx hw 1 rfl rfl 7 inX6 (by decide) fl_X12_175 rfl rfl dX12_count_160 ?_
    obtain rfl := so_inj h
    exact re_i hx hb hlk hr cx hw (Nat.le_of_ble_eq_true rfl) (Nat.le_of_ble_eq_true rfl) dX12_count_163
  have h := it_neg c13 h
  by_cases c14 : x1 = 9
  · have h := it_pos c14 h
    refine rt_in hx hb g2 (k := 9) c14 dX12_count_5 (off := 159) rfl (tgt := 164) (by decide) ?_
    refine lv_aload_n hx hb dX12_count_164 rfl (lv_at hl 0 rfl) ?_
    refine rf_get hx hb cx hw 0 rfl rfl 11 inX12 (by decide) fl_X12_77 rfl rfl dX12_count_165 ?_
    refine rf_get hx hb cx hw 25 rfl rfl 5 inX2 (by decide) fl_X12_140 rfl rfl dX12_count_168 ?_
    obtain rfl := so_inj h
    exact re_i hx hb hlk hr cx hw (Nat.le_of_ble_eq_true rfl) (Nat.le_of_ble_eq_true rfl) dX12_count_171
  have h := it_neg c14 h
  by_cases c15 : x1 = 10
  · have h := it_pos c15 h
    refine rt_in hx hb g2 (k := 10) c15 dX12_count_5 (off := 167) rfl (tgt := 172) (by decide) ?_
    refine lv_aload_n hx hb dX12_count_172 rfl (lv_at hl 0 rfl) ?_
    refine rf_get hx hb cx hw 0 rfl rfl 17 inX12 (by decide) fl_X12_109 rfl rfl dX12_count_173 ?_
    obtain ⟨g16, h⟩ := gd_some h
    refine rx_total hx hb cx hw g16 fl_X12_145 dX12_count_176 ?_
    obtain rfl := so_inj h
    exact re_i hx hb hlk hr cx hw (Nat.le_of_ble_eq_true rfl) (Nat.le_of_ble_eq_true rfl) dX12_count_179
  have h := it_neg c15 h
  by_cases c17 : x1 = 11
  · have h := it_pos c17 h
    refine rt_in hx hb g2 (k := 11) c17 dX12_count_5 (off := 175) rfl (tgt := 180) (by decide) ?_
    refine lv_aload_n hx hb dX12_count_180 rfl (lv_at hl 0 rfl) ?_
    refine rf_get hx hb cx hw 0 rfl rfl 12 inX12 (by decide) fl_X12_84 rfl rfl dX12_count_181 ?_
    refine rf_get hx hb cx hw 26 rfl rfl 4 inX0 (by decide) fl_X12_141 rfl rfl dX12_count_184 ?_
    obtain rfl := so_inj h
    exact re_i hx hb hlk hr cx hw (Nat.le_of_ble_eq_true rfl) (Nat.le_of_ble_eq_true rfl) dX12_count_187
  have h := it_neg c17 h
  by_cases c18 : x1 = 12
  · have h := it_pos c18 h
    refine rt_in hx hb g2 (k := 12) c18 dX12_count_5 (off := 183) rfl (tgt := 188) (by decide) ?_
    refine lv_aload_n hx hb dX12_count_188 rfl (lv_at hl 0 rfl) ?_
    refine rf_get hx hb cx hw 0 rfl rfl 0 inX12 (by decide) fl_X12_16 rfl rfl dX12_count_189 ?_
    refine rf_get hx hb cx hw 23 rfl rfl 1 inX1 (by decide) fl_X12_127 rfl rfl dX12_count_192 ?_
    obtain rfl := so_inj h
    exact re_i hx hb hlk hr cx hw (Nat.le_of_ble_eq_true rfl) (Nat.le_of_ble_eq_true rfl) dX12_count_195
  have h := it_neg c18 h
  by_cases c19 : x1 = 13
  · have h := it_pos c19 h
    refine rt_in hx hb g2 (k := 13) c19 dX12_count_5 (off := 191) rfl (tgt := 196) (by decide) ?_
    refine lv_aload_n hx hb dX12_count_196 rfl (lv_at hl 0 rfl) ?_
    refine rf_get hx hb cx hw 0 rfl rfl 5 inX12 (by decide) fl_X12_47 rfl rfl dX12_count_197 ?_
    refine rf_get hx hb cx hw 11 rfl rfl 5 inX4 (by decide) fl_X12_162 rfl rfl dX12_count_200 ?_
    obtain rfl := so_inj h
    exact re_i hx hb hlk hr cx hw (Nat.le_of_ble_eq_true rfl) (Nat.le_of_ble_eq_true rfl) dX12_count_203
  have h := it_neg c19 h
  by_cases c20 : x1 = 14
  · have h := it_pos c20 h
    refine rt_in hx hb g2 (k := 14) c20 dX12_count_5 (off := 199) rfl (tgt := 204) (by decide) ?_
    refine lv_aload_n hx hb dX12_count_204 rfl (lv_at hl 0 rfl) ?_
    refine rf_get hx hb cx hw 0 rfl rfl 3 inX12 (by decide) fl_X12_33 rfl rfl dX12_count_205 ?_
    obtain ⟨r21, h21, h⟩ := bd_some h
    refine rc_I0 (v := r21) hw [1, 2, 3, 4] (rr_V cx hw (c_X6_opens l G S H.size N a_t_stock a_t_stock_good a_t_stock_bad a_t_stock_open t_stock_least t_stock_most t_stock_goodCost t_stock_badCost t_stock_referCost t_stock_good t_stock_bad t_stock_open _ h21) mv_X12_178 [1, 2, 3, 4] rfl rfl rfl 1 rfl rfl ⟨Nat.le_of_ble_eq_true rfl, Nat.le_of_ble_eq_true rfl⟩ rfl hl.1 rfl (Nat.le_of_ble_eq_true rfl) dX12_count_208 ⟨Nat.le_of_ble_eq_true rfl, Nat.le_of_ble_eq_true rfl⟩) rfl rfl (fun H locs hw => ?_)
    obtain rfl := so_inj h
    exact re_i hx hb hlk hr cx hw (Nat.le_of_ble_eq_true rfl) (Nat.le_of_ble_eq_true rfl) dX12_count_211
  have h := it_neg c20 h
  by_cases c22 : x1 = 15
  · have h := it_pos c22 h
    refine rt_in hx hb g2 (k := 15) c22 dX12_count_5 (off := 207) rfl (tgt := 212) (by decide) ?_
    refine lv_aload_n hx hb dX12_count_212 rfl (lv_at hl 0 rfl) ?_
    refine rf_get hx hb cx hw 0 rfl rfl 18 inX12 (by decide) fl_X12_112 rfl rfl dX12_count_213 ?_
    obtain rfl := so_inj h
    exact re_i hx hb hlk hr cx hw (Nat.le_of_ble_eq_true rfl) (Nat.le_of_ble_eq_true rfl) dX12_count_216
  have h := it_neg c22 h
  by_cases c23 : x1 = 16
  · have h := it_pos c23 h
    refine rt_in hx hb g2 (k := 16) c23 dX12_count_5 (off := 212) rfl (tgt := 217) (by decide) ?_
    refine lv_aload_n hx hb dX12_count_217 rfl (lv_at hl 0 rfl) ?_
    refine rf_get hx hb cx hw 0 rfl rfl 1 inX12 (by decide) fl_X12_20 rfl rfl dX12_count_218 ?_
    refine rf_get hx hb cx hw 24 rfl rfl 1 inX1 (by decide) fl_X12_127 rfl rfl dX12_count_221 ?_
    obtain rfl := so_inj h
    exact re_i hx hb hlk hr cx hw (Nat.le_of_ble_eq_true rfl) (Nat.le_of_ble_eq_true rfl) dX12_count_224
  have h := it_neg c23 h
  by_cases c24 : x1 = 17
  · have h := it_pos c24 h
    refine rt_in hx hb g2 (k := 17) c24 dX12_count_5 (off := 220) rfl (tgt := 225) (by decide) ?_
    refine lv_aload_n hx hb dX12_count_225 rfl (lv_at hl 0 rfl) ?_
    refine rf_get hx hb cx hw 0 rfl rfl 4 inX12 (by decide) fl_X12_40 rfl rfl dX12_count_226 ?_
    obtain ⟨r25, h25, h⟩ := bd_some h
    refine rc_I0 (v := r25) hw [5, 6, 7, 8, 9, 10] (rr_V cx hw (c_X8_greatest l G S H.size N a_t_rows a_t_rows_score a_t_rows_good a_t_rows_bad a_t_rows_goodAhead a_t_rows_badAhead r1.2.1 r1.2.2.1 r1.2.2.2.1 r1.2.2.2.2.1 r1.2.2.2.2.2.1 r1.2.2.2.2.2.2.1 _ h25) mv_X12_181 [5, 6, 7, 8, 9, 10] rfl rfl rfl 5 rfl rfl ⟨Nat.le_of_ble_eq_true rfl, Nat.le_of_ble_eq_true rfl⟩ rfl hl.1 rfl (Nat.le_of_ble_eq_true rfl) dX12_count_229 ⟨Nat.le_of_ble_eq_true rfl, Nat.le_of_ble_eq_true rfl⟩) rfl rfl (fun H locs hw => ?_)
    obtain rfl := so_inj h
    exact re_i hx hb hlk hr cx hw (Nat.le_of_ble_eq_true rfl) (Nat.le_of_ble_eq_true rfl) dX12_count_232
  have h := it_neg c24 h
  refine rt_out hx hb g2 dX12_count_5 (by omega) (tgt := 233) (by decide) ?_
  refine ri_iconst hx hb dX12_count_233 ?_
  obtain rfl := so_inj h
  exact re_i hx hb hlk hr cx hw (Nat.le_of_ble_eq_true rfl) (Nat.le_of_ble_eq_true rfl) dX12_count_234
