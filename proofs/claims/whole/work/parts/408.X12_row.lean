set_option maxHeartbeats 4000000 in
set_option maxRecDepth 100000 in
theorem c_X12_row (l : Launch) (G : GG) (S : SM) (sz : Nat) (N : Nat) (a_t a_t_stock a_t_stock_good a_t_stock_bad a_t_stock_open a_t_rows a_t_rows_score a_t_rows_good a_t_rows_bad a_t_rows_goodAhead a_t_rows_badAhead a_t_pure a_t_pure_least a_t_pure_greatest a_t_pure_good a_t_pure_bad a_t_pure_rowsIn a_t_bands a_t_bands_least a_t_bands_greatest a_t_bands_good a_t_bands_bad a_t_bands_rowsIn a_t_tape a_t_out a_t_reader a_t_best a_t_drawn a_t_drawnPure a_t_inferred a_t_decisions a_t_acts a_t_months a_t_spread a_sp a_sp_whole a_sp_begins a_sp_fewer a_sp_told : Nat) (t_empty : Nat) (t_latest : Nat) (t_kept : Int) (t_settled : Int) (t_stock_least : Int) (t_stock_most : Int) (t_stock_goodCost : Int) (t_stock_badCost : Int) (t_stock_referCost : Int) (t_stock_good : Int → Int) (t_stock_bad : Int → Int) (t_stock_open : Int → Int) (t_rows_size : Int) (t_rows_score : Int → Int) (t_rows_good : Int → Int) (t_rows_bad : Int → Int) (t_rows_goodAhead : Int → Int) (t_rows_badAhead : Int → Int) (t_pure_size : Int) (t_pure_least : Int → Int) (t_pure_greatest : Int → Int) (t_pure_good : Int → Int) (t_pure_bad : Int → Int) (t_pure_rowsIn : Int → Int) (t_bands_size : Int) (t_bands_least : Int → Int) (t_bands_greatest : Int → Int) (t_bands_good : Int → Int) (t_bands_bad : Int → Int) (t_bands_rowsIn : Int → Int) (t_sp : Int) (t_sp_runs : Int) (t_sp_whole : Int → UInt64) (t_sp_begins : Int → Int) (t_sp_fewer : Int → UInt64) (t_sp_told : Int → UInt64) (x1 : Int) (x2 : Int) (r : Int × Int × Int × (Int → Int) × (Int → Int) × (Int → Int) × (Int → Int) × (Int → Int) × Int × (Int → Int) × (Int → Int) × (Int → Int) × (Int → Int) × (Int → Int) × Int × (Int → Int) × (Int → Int) × (Int → Int) × (Int → Int) × (Int → Int) × Int) (h : m_X12_row N t_stock_least t_stock_most t_stock_good t_stock_bad t_sp t_settled t_rows_size t_rows_score t_rows_good t_rows_bad t_rows_goodAhead t_rows_badAhead t_pure_size t_pure_least t_pure_greatest t_pure_good t_pure_bad t_pure_rowsIn t_bands_size t_bands_least t_bands_greatest t_bands_good t_bands_bad t_bands_rowsIn t_sp_runs x1 x2 = some r) : CtI l yX12_row cX12_row 3 .int (rmD 7 0 0) G S sz [.ref a_t, .int (kI x1), .int (kI x2)] ([(a_t, .inr (11, [.ref a_t_tape, .ref a_t_out, .ref a_t_reader, .ref a_t_stock, .ref a_t_rows, .ref a_t_pure, .ref a_t_bands, .ref a_t_best, .ref a_t_drawn, .ref a_t_drawnPure, .ref a_t_inferred, .ref a_t_decisions, .ref a_t_acts, .ref t_empty, .ref a_t_months, .ref a_t_spread, spV t_sp a_sp, .ref t_latest, .int (kI t_kept), .int (kI t_settled)])), (a_t_stock, .inr (5, [.ref a_t_stock_good, .ref a_t_stock_bad, .ref a_t_stock_open, .int (kI t_stock_least), .int (kI t_stock_most), .int (kI t_stock_goodCost), .int (kI t_stock_badCost), .int (kI t_stock_referCost)])), (a_t_stock_good, cAI G 1000 t_stock_good), (a_t_stock_bad, cAI G 1000 t_stock_bad), (a_t_stock_open, cAI G 1000 t_stock_open), (a_t_rows, .inr (7, [.ref a_t_rows_score, .ref a_t_rows_good, .ref a_t_rows_bad, .ref a_t_rows_goodAhead, .ref a_t_rows_badAhead, .int (kI t_rows_size)])), (a_t_rows_score, cAI G 60 t_rows_score), (a_t_rows_good, cAI G 60 t_rows_good), (a_t_rows_bad, cAI G 60 t_rows_bad), (a_t_rows_goodAhead, cAI G 61 t_rows_goodAhead), (a_t_rows_badAhead, cAI G 61 t_rows_badAhead), (a_t_pure, .inr (4, [.ref a_t_pure_least, .ref a_t_pure_greatest, .ref a_t_pure_good, .ref a_t_pure_bad, .ref a_t_pure_rowsIn, .int (kI t_pure_size)])), (a_t_pure_least, cAI G 60 t_pure_least), (a_t_pure_greatest, cAI G 60 t_pure_greatest), (a_t_pure_good, cAI G 60 t_pure_good), (a_t_pure_bad, cAI G 60 t_pure_bad), (a_t_pure_rowsIn, cAI G 60 t_pure_rowsIn), (a_t_bands, .inr (4, [.ref a_t_bands_least, .ref a_t_bands_greatest, .ref a_t_bands_good, .ref a_t_bands_bad, .ref a_t_bands_rowsIn, .int (kI t_bands_size)])), (a_t_bands_least, cAI G 60 t_bands_least), (a_t_bands_greatest, cAI G 60 t_bands_greatest), (a_t_bands_good, cAI G 60 t_bands_good), (a_t_bands_bad, cAI G 60 t_bands_bad), (a_t_bands_rowsIn, cAI G 60 t_bands_rowsIn)] ++ wSp G t_sp a_sp a_sp_whole a_sp_begins a_sp_fewer a_sp_told t_sp_runs t_sp_whole t_sp_begins t_sp_fewer t_sp_told) r.1 ([(a_t, .inr (11, [.ref a_t_tape, .ref a_t_out, .ref a_t_reader, .ref a_t_stock, .ref a_t_rows, .ref a_t_pure, .ref a_t_bands, .ref a_t_best, .ref a_t_drawn, .ref a_t_drawnPure, .ref a_t_inferred, .ref a_t_decisions, .ref a_t_acts, .ref t_empty, .ref a_t_months, .ref a_t_spread, spV t_sp a_sp, .ref t_latest, .int (kI t_kept), .int (kI r.2.1)])), (a_t_stock, .inr (5, [.ref a_t_stock_good, .ref a_t_stock_bad, .ref a_t_stock_open, .int (kI t_stock_least), .int (kI t_stock_most), .int (kI t_stock_goodCost), .int (kI t_stock_badCost), .int (kI t_stock_referCost)])), (a_t_stock_good, cAI G 1000 t_stock_good), (a_t_stock_bad, cAI G 1000 t_stock_bad), (a_t_stock_open, cAI G 1000 t_stock_open), (a_t_rows, .inr (7, [.ref a_t_rows_score, .ref a_t_rows_good, .ref a_t_rows_bad, .ref a_t_rows_goodAhead, .ref a_t_rows_badAhead, .int (kI r.2.2.1)])), (a_t_rows_score, cAI G 60 r.2.2.2.1), (a_t_rows_good, cAI G 60 r.2.2.2.2.1), (a_t_rows_bad, cAI G 60 r.2.2.2.2.2.1), (a_t_rows_goodAhead, cAI G 61 r.2.2.2.2.2.2.1), (a_t_rows_badAhead, cAI G 61 r.2.2.2.2.2.2.2.1), (a_t_pure, .inr (4, [.ref a_t_pure_least, .ref a_t_pure_greatest, .ref a_t_pure_good, .ref a_t_pure_bad, .ref a_t_pure_rowsIn, .int (kI r.2.2.2.2.2.2.2.2.1)])), (a_t_pure_least, cAI G 60 r.2.2.2.2.2.2.2.2.2.1), (a_t_pure_greatest, cAI G 60 r.2.2.2.2.2.2.2.2.2.2.1), (a_t_pure_good, cAI G 60 r.2.2.2.2.2.2.2.2.2.2.2.1), (a_t_pure_bad, cAI G 60 r.2.2.2.2.2.2.2.2.2.2.2.2.1), (a_t_pure_rowsIn, cAI G 60 r.2.2.2.2.2.2.2.2.2.2.2.2.2.1), (a_t_bands, .inr (4, [.ref a_t_bands_least, .ref a_t_bands_greatest, .ref a_t_bands_good, .ref a_t_bands_bad, .ref a_t_bands_rowsIn, .int (kI r.2.2.2.2.2.2.2.2.2.2.2.2.2.2.1)])), (a_t_bands_least, cAI G 60 r.2.2.2.2.2.2.2.2.2.2.2.2.2.2.2.1), (a_t_bands_greatest, cAI G 60 r.2.2.2.2.2.2.2.2.2.2.2.2.2.2.2.2.1), (a_t_bands_good, cAI G 60 r.2.2.2.2.2.2.2.2.2.2.2.2.2.2.2.2.2.1), (a_t_bands_bad, cAI G 60 r.2.2.2.2.2.2.2.2.2.2.2.2.2.2.2.2.2.2.1), (a_t_bands_rowsIn, cAI G 60 r.2.2.2.2.2.2.2.2.2.2.2.2.2.2.2.2.2.2.2.1)] ++ wSp G t_sp a_sp a_sp_whole a_sp_begins a_sp_fewer a_sp_told r.2.2.2.2.2.2.2.2.2.2.2.2.2.2.2.2.2.2.2.2 t_sp_whole t_sp_begins t_sp_fewer t_sp_told) := by
  refine met_I (by decide +kernel) (Nat.le_of_ble_eq_true rfl) ?_
  intro p e s m args below meth c A H locs ls cx hw hr hlk hnm hl
  have hl : lv_has ls 3 [(0, .ref a_t), (1, .int (kI x1)), (2, .int (kI x2))] := hl
  rw [m_X12_row] at h
  obtain ⟨⟨hx, hb, -, -, -⟩, -⟩ := id cx
  refine lv_aload_n hx hb dX12_row_0 rfl (lv_at hl 0 rfl) ?_
  obtain ⟨r1, h1, h⟩ := bd_some h
  refine rc_VA hw (rr_VA cx hw (c_X12_settle l G S H.size N a_t a_t_stock a_t_stock_good a_t_stock_bad a_t_stock_open a_t_rows a_t_rows_score a_t_rows_good a_t_rows_bad a_t_rows_goodAhead a_t_rows_badAhead a_t_pure a_t_pure_least a_t_pure_greatest a_t_pure_good a_t_pure_bad a_t_pure_rowsIn a_t_bands a_t_bands_least a_t_bands_greatest a_t_bands_good a_t_bands_bad a_t_bands_rowsIn a_t_tape a_t_out a_t_reader a_t_best a_t_drawn a_t_drawnPure a_t_inferred a_t_decisions a_t_acts a_t_months a_t_spread a_sp a_sp_whole a_sp_begins a_sp_fewer a_sp_told t_empty t_latest t_kept t_settled t_stock_least t_stock_most t_stock_goodCost t_stock_badCost t_stock_referCost t_stock_good t_stock_bad t_stock_open t_rows_size t_rows_score t_rows_good t_rows_bad t_rows_goodAhead t_rows_badAhead t_pure_size t_pure_least t_pure_greatest t_pure_good t_pure_bad t_pure_rowsIn t_bands_size t_bands_least t_bands_greatest t_bands_good t_bands_bad t_bands_rowsIn t_sp t_sp_runs t_sp_whole t_sp_begins t_sp_fewer t_sp_told _ h1) mv_X12_151 0 rfl rfl ⟨Nat.le_of_ble_eq_true rfl, Nat.le_of_ble_eq_true rfl⟩ rfl hl.1 rfl (Nat.le_of_ble_eq_true rfl) dX12_row_1 ⟨Nat.le_of_ble_eq_true rfl, Nat.le_of_ble_eq_true rfl⟩) (fun H locs hw => ?_)
  have hw : HP G A s.heap H locs ([(a_t, .inr (11, [.ref a_t_tape, .ref a_t_out, .ref a_t_reader, .ref a_t_stock, .ref a_t_rows, .ref a_t_pure, .ref a_t_bands, .ref a_t_best, .ref a_t_drawn, .ref a_t_drawnPure, .ref a_t_inferred, .ref a_t_decisions, .ref a_t_acts, .ref t_empty, .ref a_t_months, .ref a_t_spread, spV t_sp a_sp, .ref t_latest, .int (kI t_kept), .int (kI r1.1)])), (a_t_stock, .inr (5, [.ref a_t_stock_good, .ref a_t_stock_bad, .ref a_t_stock_open, .int (kI t_stock_least), .int (kI t_stock_most), .int (kI t_stock_goodCost), .int (kI t_stock_badCost), .int (kI t_stock_referCost)])), (a_t_stock_good, cAI G 1000 t_stock_good), (a_t_stock_bad, cAI G 1000 t_stock_bad), (a_t_stock_open, cAI G 1000 t_stock_open), (a_t_rows, .inr (7, [.ref a_t_rows_score, .ref a_t_rows_good, .ref a_t_rows_bad, .ref a_t_rows_goodAhead, .ref a_t_rows_badAhead, .int (kI r1.2.1)])), (a_t_rows_score, cAI G 60 r1.2.2.1), (a_t_rows_good, cAI G 60 r1.2.2.2.1), (a_t_rows_bad, cAI G 60 r1.2.2.2.2.1), (a_t_rows_goodAhead, cAI G 61 r1.2.2.2.2.2.1), (a_t_rows_badAhead, cAI G 61 r1.2.2.2.2.2.2.1), (a_t_pure, .inr (4, [.ref a_t_pure_least, .ref a_t_pure_greatest, .ref a_t_pure_good, .ref a_t_pure_bad, .ref a_t_pure_rowsIn, .int (kI r1.2.2.2.2.2.2.2.1)])), (a_t_pure_least, cAI G 60 r1.2.2.2.2.2.2.2.2.1), (a_t_pure_greatest, cAI G 60 r1.2.2.2.2.2.2.2.2.2.1), (a_t_pure_good, cAI G 60 r1.2.2.2.2.2.2.2.2.2.2.1), (a_t_pure_bad, cAI G 60 r1.2.2.2.2.2.2.2.2.2.2.2.1), (a_t_pure_rowsIn, cAI G 60 r1.2.2.2.2.2.2.2.2.2.2.2.2.1), (a_t_bands, .inr (4, [.ref a_t_bands_least, .ref a_t_bands_greatest, .ref a_t_bands_good, .ref a_t_bands_bad, .ref a_t_bands_rowsIn, .int (kI r1.2.2.2.2.2.2.2.2.2.2.2.2.2.1)])), (a_t_bands_least, cAI G 60 r1.2.2.2.2.2.2.2.2.2.2.2.2.2.2.1), (a_t_bands_greatest, cAI G 60 r1.2.2.2.2.2.2.2.2.2.2.2.2.2.2.2.1), (a_t_bands_good, cAI G 60 r1.2.2.2.2.2.2.2.2.2.2.2.2.2.2.2.2.1), (a_t_bands_bad, cAI G 60 r1.2.2.2.2.2.2.2.2.2.2.2.2.2.2.2.2.2.1), (a_t_bands_rowsIn, cAI G 60 r1.2.2.2.2.2.2.2.2.2.2.2.2.2.2.2.2.2.2.1)] ++ wSp G t_sp a_sp a_sp_whole a_sp_begins a_sp_fewer a_sp_told r1.2.2.2.2.2.2.2.2.2.2.2.2.2.2.2.2.2.2.2 t_sp_whole t_sp_begins t_sp_fewer t_sp_told) := hw
  refine lv_iload_n hx hb dX12_row_4 rfl (lv_at hl 1 rfl) ?_
  obtain ⟨g2, h⟩ := gd_some h
  refine ri_if_lt (tgt := 19) hx hb g2 dX12_row_5 (by decide) (fun c3 => ?_) (fun c3 => ?_)
  · have h := it_pos c3 h
    refine ri_bipush hx hb dX12_row_19 rfl ?_
    obtain rfl := so_inj h
    exact re_i hx hb hlk hr cx hw (Nat.le_of_ble_eq_true rfl) (Nat.le_of_ble_eq_true rfl) dX12_row_21
  · have h := it_neg c3 h
    refine lv_iload_n hx hb dX12_row_8 rfl (lv_at hl 1 rfl) ?_
    refine lv_aload_n hx hb dX12_row_9 rfl (lv_at hl 0 rfl) ?_
    refine rf_get hx hb cx hw 0 rfl rfl 4 inX12 (by decide) fl_X12_40 rfl rfl dX12_row_10 ?_
    refine rf_get hx hb cx hw 5 rfl rfl 5 inX8 (by decide) fl_X12_154 rfl rfl dX12_row_13 ?_
    obtain ⟨g4, h⟩ := gd_some h
    refine ri_icmp_lt (tgt := 22) hx hb g2 g4 dX12_row_16 (by decide) (fun c5 => ?_) (fun c5 => ?_)
    · have h := it_pos c5 h
      refine lv_iload_n hx hb dX12_row_22 rfl (lv_at hl 2 rfl) ?_
      obtain ⟨g6, h⟩ := gd_some h
      by_cases c7 : x2 = 0
      · have h := it_pos c7 h
        refine rt_in hx hb g6 (k := 0) c7 dX12_row_23 (off := 29) rfl (tgt := 52) (by decide) ?_
        refine lv_aload_n hx hb dX12_row_52 rfl (lv_at hl 0 rfl) ?_
        refine rf_get hx hb cx hw 0 rfl rfl 4 inX12 (by decide) fl_X12_40 rfl rfl dX12_row_53 ?_
        refine rf_get hx hb cx hw 5 rfl rfl 0 inX8 (by decide) fl_X12_184 rfl rfl dX12_row_56 ?_
        refine lv_iload_n hx hb dX12_row_59 rfl (lv_at hl 1 rfl) ?_
        obtain ⟨g8, h⟩ := gd_some h
        refine ra_i hx hb cx hw 6 rfl (by decide) g8 dX12_row_60 ?_
        obtain rfl := so_inj h
        exact re_i hx hb hlk hr cx hw (Nat.le_of_ble_eq_true rfl) (Nat.le_of_ble_eq_true rfl) dX12_row_61
      have h := it_neg c7 h
      by_cases c9 : x2 = 1
      · have h := it_pos c9 h
        refine rt_in hx hb g6 (k := 1) c9 dX12_row_23 (off := 39) rfl (tgt := 62) (by decide) ?_
        refine lv_aload_n hx hb dX12_row_62 rfl (lv_at hl 0 rfl) ?_
        refine rf_get hx hb cx hw 0 rfl rfl 4 inX12 (by decide) fl_X12_40 rfl rfl dX12_row_63 ?_
        refine rf_get hx hb cx hw 5 rfl rfl 1 inX8 (by decide) fl_X12_187 rfl rfl dX12_row_66 ?_
        refine lv_iload_n hx hb dX12_row_69 rfl (lv_at hl 1 rfl) ?_
        obtain ⟨g10, h⟩ := gd_some h
        refine ra_i hx hb cx hw 7 rfl (by decide) g10 dX12_row_70 ?_
        obtain rfl := so_inj h
        exact re_i hx hb hlk hr cx hw (Nat.le_of_ble_eq_true rfl) (Nat.le_of_ble_eq_true rfl) dX12_row_71
      have h := it_neg c9 h
      by_cases c11 : x2 = 2
      · have h := it_pos c11 h
        refine rt_in hx hb g6 (k := 2) c11 dX12_row_23 (off := 49) rfl (tgt := 72) (by decide) ?_
        refine lv_aload_n hx hb dX12_row_72 rfl (lv_at hl 0 rfl) ?_
        refine rf_get hx hb cx hw 0 rfl rfl 4 inX12 (by decide) fl_X12_40 rfl rfl dX12_row_73 ?_
        refine rf_get hx hb cx hw 5 rfl rfl 2 inX8 (by decide) fl_X12_190 rfl rfl dX12_row_76 ?_
        refine lv_iload_n hx hb dX12_row_79 rfl (lv_at hl 1 rfl) ?_
        obtain ⟨g12, h⟩ := gd_some h
        refine ra_i hx hb cx hw 8 rfl (by decide) g12 dX12_row_80 ?_
        obtain rfl := so_inj h
        exact re_i hx hb hlk hr cx hw (Nat.le_of_ble_eq_true rfl) (Nat.le_of_ble_eq_true rfl) dX12_row_81
      have h := it_neg c11 h
      by_cases c13 : x2 = 3
      · have h := it_pos c13 h
        refine rt_in hx hb g6 (k := 3) c13 dX12_row_23 (off := 59) rfl (tgt := 82) (by decide) ?_
        refine lv_aload_n hx hb dX12_row_82 rfl (lv_at hl 0 rfl) ?_
        refine rf_get hx hb cx hw 0 rfl rfl 6 inX12 (by decide) fl_X12_51 rfl rfl dX12_row_83 ?_
        refine lv_aload_n hx hb dX12_row_86 rfl (lv_at hl 0 rfl) ?_
        refine rf_get hx hb cx hw 0 rfl rfl 4 inX12 (by decide) fl_X12_40 rfl rfl dX12_row_87 ?_
        refine rf_get hx hb cx hw 5 rfl rfl 0 inX8 (by decide) fl_X12_184 rfl rfl dX12_row_90 ?_
        refine lv_iload_n hx hb dX12_row_93 rfl (lv_at hl 1 rfl) ?_
        obtain ⟨g14, h⟩ := gd_some h
        refine ra_i hx hb cx hw 6 rfl (by decide) g14 dX12_row_94 ?_
        obtain ⟨r15, h15, h⟩ := bd_some h
        refine rc_I0 (v := r15) hw [17, 18, 19, 20, 21, 22] (rr_V cx hw (c_X4_place l G S H.size N a_t_bands a_t_bands_least a_t_bands_greatest a_t_bands_good a_t_bands_bad a_t_bands_rowsIn r1.2.2.2.2.2.2.2.2.2.2.2.2.2.1 r1.2.2.2.2.2.2.2.2.2.2.2.2.2.2.1 r1.2.2.2.2.2.2.2.2.2.2.2.2.2.2.2.1 r1.2.2.2.2.2.2.2.2.2.2.2.2.2.2.2.2.1 r1.2.2.2.2.2.2.2.2.2.2.2.2.2.2.2.2.2.1 r1.2.2.2.2.2.2.2.2.2.2.2.2.2.2.2.2.2.2.1 (r1.2.2.1 x1) _ h15) mv_X12_193 [17, 18, 19, 20, 21, 22] rfl rfl rfl 17 rfl rfl ⟨Nat.le_of_ble_eq_true rfl, Nat.le_of_ble_eq_true rfl⟩ rfl hl.1 rfl (Nat.le_of_ble_eq_true rfl) dX12_row_95 ⟨Nat.le_of_ble_eq_true rfl, Nat.le_of_ble_eq_true rfl⟩) rfl rfl (fun H locs hw => ?_)
        obtain rfl := so_inj h
        exact re_i hx hb hlk hr cx hw (Nat.le_of_ble_eq_true rfl) (Nat.le_of_ble_eq_true rfl) dX12_row_98
      have h := it_neg c13 h
      refine rt_out hx hb g6 dX12_row_23 (by omega) (tgt := 99) (by decide) ?_
      refine ri_bipush hx hb dX12_row_99 rfl ?_
      obtain rfl := so_inj h
      exact re_i hx hb hlk hr cx hw (Nat.le_of_ble_eq_true rfl) (Nat.le_of_ble_eq_true rfl) dX12_row_101
    · have h := it_neg c5 h
      refine ri_bipush hx hb dX12_row_19 rfl ?_
      obtain rfl := so_inj h
      exact re_i hx hb hlk hr cx hw (Nat.le_of_ble_eq_true rfl) (Nat.le_of_ble_eq_true rfl) dX12_row_21
