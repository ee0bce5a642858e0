set_option maxHeartbeats 4000000 in
set_option maxRecDepth 100000 in
theorem c_X12_refer (l : Launch) (G : GG) (S : SM) (sz : Nat) (N : Nat) (a_t a_t_stock a_t_stock_good a_t_stock_bad a_t_stock_open a_t_rows a_t_rows_score a_t_rows_good a_t_rows_bad a_t_rows_goodAhead a_t_rows_badAhead a_t_pure a_t_pure_least a_t_pure_greatest a_t_pure_good a_t_pure_bad a_t_pure_rowsIn a_t_bands a_t_bands_least a_t_bands_greatest a_t_bands_good a_t_bands_bad a_t_bands_rowsIn a_t_tape a_t_out a_t_reader a_t_best a_t_drawn a_t_drawnPure a_t_inferred a_t_decisions a_t_acts a_t_months a_t_spread a_sp a_sp_whole a_sp_begins a_sp_fewer a_sp_told : Nat) (t_empty : Nat) (t_latest : Nat) (t_kept : Int) (t_settled : Int) (t_stock_least : Int) (t_stock_most : Int) (t_stock_goodCost : Int) (t_stock_badCost : Int) (t_stock_referCost : Int) (t_stock_good : Int → Int) (t_stock_bad : Int → Int) (t_stock_open : Int → Int) (t_rows_size : Int) (t_rows_score : Int → Int) (t_rows_good : Int → Int) (t_rows_bad : Int → Int) (t_rows_goodAhead : Int → Int) (t_rows_badAhead : Int → Int) (t_pure_size : Int) (t_pure_least : Int → Int) (t_pure_greatest : Int → Int) (t_pure_good : Int → Int) (t_pure_bad : Int → Int) (t_pure_rowsIn : Int → Int) (t_bands_size : Int) (t_bands_least : Int → Int) (t_bands_greatest : Int → Int) (t_bands_good : Int → Int) (t_bands_bad : Int → Int) (t_bands_rowsIn : Int → Int) (t_sp : Int) (t_sp_runs : Int) (t_sp_whole : Int → UInt64) (t_sp_begins : Int → Int) (t_sp_fewer : Int → UInt64) (t_sp_told : Int → UInt64) (x1 : Int) (x2 : Int) (r : Int × Int × Int × (Int → Int) × (Int → Int) × (Int → Int) × (Int → Int) × (Int → Int) × Int × (Int → Int) × (Int → Int) × (Int → Int) × (Int → Int) × (Int → Int) × Int × (Int → Int) × (Int → Int) × (Int → Int) × (Int → Int) × (Int → Int) × Int) (h : m_X12_refer N t_stock_least t_stock_most t_stock_goodCost t_stock_badCost t_stock_referCost t_stock_good t_stock_bad t_sp t_settled t_rows_size t_rows_score t_rows_good t_rows_bad t_rows_goodAhead t_rows_badAhead t_pure_size t_pure_least t_pure_greatest t_pure_good t_pure_bad t_pure_rowsIn t_bands_size t_bands_least t_bands_greatest t_bands_good t_bands_bad t_bands_rowsIn t_sp_runs x1 x2 = some r) : CtI l yX12_refer cX12_refer 6 .int (rmD 7 0 0) G S sz [.ref a_t, .int (kI x1), .int (kI x2)] ([(a_t, .inr (11, [.ref a_t_tape, .ref a_t_out, .ref a_t_reader, .ref a_t_stock, .ref a_t_rows, .ref a_t_pure, .ref a_t_bands, .ref a_t_best, .ref a_t_drawn, .ref a_t_drawnPure, .ref a_t_inferred, .ref a_t_decisions, .ref a_t_acts, .ref t_empty, .ref a_t_months, .ref a_t_spread, spV t_sp a_sp, .ref t_latest, .int (kI t_kept), .int (kI t_settled)])), (a_t_stock, .inr (5, [.ref a_t_stock_good, .ref a_t_stock_bad, .ref a_t_stock_open, .int (kI t_stock_least), .int (kI t_stock_most), .int (kI t_stock_goodCost), .int (kI t_stock_badCost), .int (kI t_stock_referCost)])), (a_t_stock_good, cAI G 1000 t_stock_good), (a_t_stock_bad, cAI G 1000 t_stock_bad), (a_t_stock_open, cAI G 1000 t_stock_open), (a_t_rows, .inr (7, [.ref a_t_rows_score, .ref a_t_rows_good, .ref a_t_rows_bad, .ref a_t_rows_goodAhead, .ref a_t_rows_badAhead, .int (kI t_rows_size)])), (a_t_rows_score, cAI G 60 t_rows_score), (a_t_rows_good, cAI G 60 t_rows_good), (a_t_rows_bad, cAI G 60 t_rows_bad), (a_t_rows_goodAhead, cAI G 61 t_rows_goodAhead), (a_t_rows_badAhead, cAI G 61 t_rows_badAhead), (a_t_pure, .inr (4, [.ref a_t_pure_least, .ref a_t_pure_greatest, .ref a_t_pure_good, .ref a_t_pure_bad, .ref a_t_pure_rowsIn, .int (kI t_pure_size)])), (a_t_pure_least, cAI G 60 t_pure_least), (a_t_pure_greatest, cAI G 60 t_pure_greatest), (a_t_pure_good, cAI G 60 t_pure_good), (a_t_pure_bad, cAI G 60 t_pure_bad), (a_t_pure_rowsIn, cAI G 60 t_pure_rowsIn), (a_t_bands, .inr (4, [.ref a_t_bands_least, .ref a_t_bands_greatest, .ref a_t_bands_good, .ref a_t_bands_bad, .ref a_t_bands_rowsIn, .int (kI t_bands_size)])), (a_t_bands_least, cAI G 60 t_bands_least), (a_t_bands_greatest, cAI G 60 t_bands_greatest), (a_t_bands_good, cAI G 60 t_bands_good), (a_t_bands_bad, cAI G 60 t_bands_bad), (a_t_bands_rowsIn, cAI G 60 t_bands_rowsIn)] ++ wSp G t_sp a_sp a_sp_whole a_sp_begins a_sp_fewer a_sp_told t_sp_runs t_sp_whole t_sp_begins t_sp_fewer t_sp_told) r.1 ([(a_t, .inr (11, [.ref a_t_tape, .ref a_t_out, .ref a_t_reader, .ref a_t_stock, .ref a_t_rows, .ref a_t_pure, .ref a_t_bands, .ref a_t_best, .ref a_t_drawn, .ref a_t_drawnPure, .ref a_t_inferred, .ref a_t_decisions, .ref a_t_acts, .ref t_empty, .ref a_t_months, .ref a_t_spread, spV t_sp a_sp, .ref t_latest, .int (kI t_kept), .int (kI r.2.1)])), (a_t_stock, .inr (5, [.ref a_t_stock_good, .ref a_t_stock_bad, .ref a_t_stock_open, .int (kI t_stock_least), .int (kI t_stock_most), .int (kI t_stock_goodCost), .int (kI t_stock_badCost), .int (kI t_stock_referCost)])), (a_t_stock_good, cAI G 1000 t_stock_good), (a_t_stock_bad, cAI G 1000 t_stock_bad), (a_t_stock_open, cAI G 1000 t_stock_open), (a_t_rows, .inr (7, [.ref a_t_rows_score, .ref a_t_rows_good, .ref a_t_rows_bad, .ref a_t_rows_goodAhead, .ref a_t_rows_badAhead, .int (kI r.2.2.1)])), (a_t_rows_score, cAI G 60 r.2.2.2.1), (a_t_rows_good, cAI G 60 r.2.2.2.2.1), (a_t_rows_bad, cAI G 60 r.2.2.2.2.2.1), (a_t_rows_goodAhead, cAI G 61 r.2.2.2.2.2.2.1), (a_t_rows_badAhead, cAI G 61 r.2.2.2.2.2.2.2.1), (a_t_pure, .inr (4, [.ref a_t_pure_least, .ref a_t_pure_greatest, .ref a_t_pure_good, .ref a_t_pure_bad, .ref a_t_pure_rowsIn, .int (kI r.2.2.2.2.2.2.2.2.1)])), (a_t_pure_least, cAI G 60 r.2.2.2.2.2.2.2.2.2.1), (a_t_pure_greatest, cAI G 60 r.2.2.2.2.2.2.2.2.2.2.1), (a_t_pure_good, cAI G 60 r.2.2.2.2.2.2.2.2.2.2.2.1), (a_t_pure_bad, cAI G 60 r.2.2.2.2.2.2.2.2.2.2.2.2.1), (a_t_pure_rowsIn, cAI G 60 r.2.2.2.2.2.2.2.2.2.2.2.2.2.1), (a_t_bands, .inr (4, [.ref a_t_bands_least, .ref a_t_bands_greatest, .ref a_t_bands_good, .ref a_t_bands_bad, .ref a_t_bands_rowsIn, .int (kI r.2.2.2.2.2.2.2.2.2.2.2.2.2.2.1)])), (a_t_bands_least, cAI G 60 r.2.2.2.2.2.2.2.2.2.2.2.2.2.2.2.1), (a_t_bands_greatest, cAI G 60 r.2.2.2.2.2.2.2.2.2.2.2.2.2.2.2.2.1), (a_t_bands_good, cAI G 60 r.2.2.2.2.2.2.2.2.2.2.2.2.2.2.2.2.2.1), (a_t_bands_bad, cAI G 60 r.2.2.2.2.2.2.2.2.2.2.2.2.2.2.2.2.2.2.1), (a_t_bands_rowsIn, cAI G 60 r.2.2.2.2.2.2.2.2.2.2.2.2.2.2.2.2.2.2.2.1)] ++ wSp G t_sp a_sp a_sp_whole a_sp_begins a_sp_fewer a_sp_told r.2.2.2.2.2.2.2.2.2.2.2.2.2.2.2.2.2.2.2.2 t_sp_whole t_sp_begins t_sp_fewer t_sp_told) := by
  refine met_I (by decide +kernel) (Nat.le_of_ble_eq_true rfl) ?_
  intro p e s m args below meth c A H locs ls cx hw hr hlk hnm hl
  have hl : lv_has ls 6 [(0, .ref a_t), (1, .int (kI x1)), (2, .int (kI x2))] := hl
  rw [m_X12_refer] at h
  obtain ⟨⟨hx, hb, -, -, -⟩, -⟩ := id cx
  refine lv_iload_n hx hb dX12_refer_0 rfl (lv_at hl 1 rfl) ?_
  obtain ⟨r1, h1, h⟩ := bd_some h
  refine rc_I0 (v := r1) hw [] (rr_S cx hw (c_X12_isCut l G S H.size N x1 _ h1) mv_X12_274 [] rfl rfl rfl ⟨Nat.le_of_ble_eq_true rfl, Nat.le_of_ble_eq_true rfl⟩ rfl hl.1 rfl (Nat.le_of_ble_eq_true rfl) dX12_refer_1 ⟨Nat.le_of_ble_eq_true rfl, Nat.le_of_ble_eq_true rfl⟩) rfl rfl (fun H locs hw => ?_)
  obtain ⟨g2, h⟩ := gd_some h
  refine ri_if_eq (tgt := 19) hx hb g2 dX12_refer_4 (by decide) (fun c3 => ?_) (fun c3 => ?_)
  · have h := it_pos c3 h
    refine ri_bipush hx hb dX12_refer_19 rfl ?_
    obtain rfl := so_inj h
    exact re_i hx hb hlk hr cx hw (Nat.le_of_ble_eq_true rfl) (Nat.le_of_ble_eq_true rfl) dX12_refer_21
  · have h := it_neg c3 h
    refine lv_iload_n hx hb dX12_refer_7 rfl (lv_at hl 2 rfl) ?_
    obtain ⟨r4, h4, h⟩ := bd_some h
    refine rc_I0 (v := r4) hw [] (rr_S cx hw (c_X12_isCut l G S H.size N x2 _ h4) mv_X12_274 [] rfl rfl rfl ⟨Nat.le_of_ble_eq_true rfl, Nat.le_of_ble_eq_true rfl⟩ rfl hl.1 rfl (Nat.le_of_ble_eq_true rfl) dX12_refer_8 ⟨Nat.le_of_ble_eq_true rfl, Nat.le_of_ble_eq_true rfl⟩) rfl rfl (fun H locs hw => ?_)
    obtain ⟨g5, h⟩ := gd_some h
    refine ri_if_eq (tgt := 19) hx hb g5 dX12_refer_11 (by decide) (fun c6 => ?_) (fun c6 => ?_)
    · have h := it_pos c6 h
      refine ri_bipush hx hb dX12_refer_19 rfl ?_
      obtain rfl := so_inj h
      exact re_i hx hb hlk hr cx hw (Nat.le_of_ble_eq_true rfl) (Nat.le_of_ble_eq_true rfl) dX12_refer_21
    · have h := it_neg c6 h
      refine lv_iload_n hx hb dX12_refer_14 rfl (lv_at hl 1 rfl) ?_
      refine lv_iload_n hx hb dX12_refer_15 rfl (lv_at hl 2 rfl) ?_
      obtain ⟨g7, h⟩ := gd_some h
      obtain ⟨g8, h⟩ := gd_some h
      refine ri_icmp_le (tgt := 22) hx hb g7 g8 dX12_refer_16 (by decide) (fun c9 => ?_) (fun c9 => ?_)
      · have h := it_pos c9 h
        refine lv_aload_n hx hb dX12_refer_22 rfl (lv_at hl 0 rfl) ?_
        obtain ⟨r10, h10, h⟩ := bd_some h
        refine rc_VA hw (rr_VA cx hw (c_X12_settle l G S H.size N a_t a_t_stock a_t_stock_good a_t_stock_bad a_t_stock_open a_t_rows a_t_rows_score a_t_rows_good a_t_rows_bad a_t_rows_goodAhead a_t_rows_badAhead a_t_pure a_t_pure_least a_t_pure_greatest a_t_pure_good a_t_pure_bad a_t_pure_rowsIn a_t_bands a_t_bands_least a_t_bands_greatest a_t_bands_good a_t_bands_bad a_t_bands_rowsIn a_t_tape a_t_out a_t_reader a_t_best a_t_drawn a_t_drawnPure a_t_inferred a_t_decisions a_t_acts a_t_months a_t_spread a_sp a_sp_whole a_sp_begins a_sp_fewer a_sp_told t_empty t_latest t_kept t_settled t_stock_least t_stock_most t_stock_goodCost t_stock_badCost t_stock_referCost t_stock_good t_stock_bad t_stock_open t_rows_size t_rows_score t_rows_good t_rows_bad t_rows_goodAhead t_rows_badAhead t_pure_size t_pure_least t_pure_greatest t_pure_good t_pure_bad t_pure_rowsIn t_bands_size t_bands_least t_bands_greatest t_bands_good t_bands_bad t_bands_rowsIn t_sp t_sp_runs t_sp_whole t_sp_begins t_sp_fewer t_sp_told _ h10) mv_X12_151 0 rfl rfl ⟨Nat.le_of_ble_eq_true rfl, Nat.le_of_ble_eq_true rfl⟩ rfl hl.1 rfl (Nat.le_of_ble_eq_true rfl) dX12_refer_23 ⟨Nat.le_of_ble_eq_true rfl, Nat.le_of_ble_eq_true rfl⟩) (fun H locs hw => ?_)
        have hw : HP G A s.heap H locs ([(a_t, .inr (11, [.ref a_t_tape, .ref a_t_out, .ref a_t_reader, .ref a_t_stock, .ref a_t_rows, .ref a_t_pure, .ref a_t_bands, .ref a_t_best, .ref a_t_drawn, .ref a_t_drawnPure, .ref a_t_inferred, .ref a_t_decisions, .ref a_t_acts, .ref t_empty, .ref a_t_months, .ref a_t_spread, spV t_sp a_sp, .ref t_latest, .int (kI t_kept), .int (kI r10.1)])), (a_t_stock, .inr (5, [.ref a_t_stock_good, .ref a_t_stock_bad, .ref a_t_stock_open, .int (kI t_stock_least), .int (kI t_stock_most), .int (kI t_stock_goodCost), .int (kI t_stock_badCost), .int (kI t_stock_referCost)])), (a_t_stock_good, cAI G 1000 t_stock_good), (a_t_stock_bad, cAI G 1000 t_stock_bad), (a_t_stock_open, cAI G 1000 t_stock_open), (a_t_rows, .inr (7, [.ref a_t_rows_score, .ref a_t_rows_good, .ref a_t_rows_bad, .ref a_t_rows_goodAhead, .ref a_t_rows_badAhead, .int (kI r10.2.1)])), (a_t_rows_score, cAI G 60 r10.2.2.1), (a_t_rows_good, cAI G 60 r10.2.2.2.1), (a_t_rows_bad, cAI G 60 r10.2.2.2.2.1), (a_t_rows_goodAhead, cAI G 61 r10.2.2.2.2.2.1), (a_t_rows_badAhead, cAI G 61 r10.2.2.2.2.2.2.1), (a_t_pure, .inr (4, [.ref a_t_pure_least, .ref a_t_pure_greatest, .ref a_t_pure_good, .ref a_t_pure_bad, .ref a_t_pure_rowsIn, .int (kI r10.2.2.2.2.2.2.2.1)])), (a_t_pure_least, cAI G 60 r10.2.2.2.2.2.2.2.2.1), (a_t_pure_greatest, cAI G 60 r10.2.2.2.2.2.2.2.2.2.1), (a_t_pure_good, cAI G 60 r10.2.2.2.2.2.2.2.2.2.2.1), (a_t_pure_bad, cAI G 60 r10.2.2.2.2.2.2.2.2.2.2.2.1), (a_t_pure_rowsIn, cAI G 60 r10.2.2.2.2.2.2.2.2.2.2.2.2.1), (a_t_bands, .inr (4, [.ref a_t_bands_least, .ref a_t_bands_greatest, .ref a_t_bands_good, .ref a_t_bands_bad, .ref a_t_bands_rowsIn, .int (kI r10.2.2.2.2.2.2.2.2.2.2.2.2.2.1)])), (a_t_bands_least, cAI G 60 r10.2.2.2.2.2.2.2.2.2.2.2.2.2.2.1), (a_t_bands_greatest, cAI G 60 r10.2.2.2.2.2.2.2.2.2.2.2.2.2.2.2.1), (a_t_bands_good, cAI G 60 r10.2.2.2.2.2.2.2.2.2.2.2.2.2.2.2.2.1), (a_t_bands_bad, cAI G 60 r10.2.2.2.2.2.2.2.2.2.2.2.2.2.2.2.2.2.1), (a_t_bands_rowsIn, cAI G 60 r10.2.2.2.2.2.2.2.2.2.2.2.2.2.2.2.2.2.2.1)] ++ wSp G t_sp a_sp a_sp_whole a_sp_begins a_sp_fewer a_sp_told r10.2.2.2.2.2.2.2.2.2.2.2.2.2.2.2.2.2.2.2 t_sp_whole t_sp_begins t_sp_fewer t_sp_told) := hw
        refine lv_aload_n hx hb dX12_refer_26 rfl (lv_at hl 0 rfl) ?_
        refine rf_get hx hb cx hw 0 rfl rfl 4 inX12 (by decide) fl_X12_40 rfl rfl dX12_refer_27 ?_
        refine lv_iload_n hx hb dX12_refer_30 rfl (lv_at hl 1 rfl) ?_
        obtain ⟨r11, h11, h⟩ := bd_some h
        refine rc_I0 (v := r11) hw [5, 6, 7, 8, 9, 10] (rr_V cx hw (c_X8_below l G S H.size N a_t_rows a_t_rows_score a_t_rows_good a_t_rows_bad a_t_rows_goodAhead a_t_rows_badAhead r10.2.1 r10.2.2.1 r10.2.2.2.1 r10.2.2.2.2.1 r10.2.2.2.2.2.1 r10.2.2.2.2.2.2.1 x1 _ h11) mv_X12_277 [5, 6, 7, 8, 9, 10] rfl rfl rfl 5 rfl rfl ⟨Nat.le_of_ble_eq_true rfl, Nat.le_of_ble_eq_true rfl⟩ rfl hl.1 rfl (Nat.le_of_ble_eq_true rfl) dX12_refer_31 ⟨Nat.le_of_ble_eq_true rfl, Nat.le_of_ble_eq_true rfl⟩) rfl rfl (fun H locs hw => ?_)
        refine lv_istore_n (lv' := [(3, .int (kI r11)), (0, .ref a_t), (1, .int (kI x1)), (2, .int (kI x2))]) hx hb dX12_refer_34 rfl hl (by decide) rfl (fun ls hl => ?_)
        refine lv_aload_n hx hb dX12_refer_35 rfl (lv_at hl 1 rfl) ?_
        refine rf_get hx hb cx hw 0 rfl rfl 4 inX12 (by decide) fl_X12_40 rfl rfl dX12_refer_36 ?_
        refine lv_iload_n hx hb dX12_refer_39 rfl (lv_at hl 3 rfl) ?_
        obtain ⟨r12, h12, h⟩ := bd_some h
        refine rc_I0 (v := r12) hw [5, 6, 7, 8, 9, 10] (rr_V cx hw (c_X8_below l G S H.size N a_t_rows a_t_rows_score a_t_rows_good a_t_rows_bad a_t_rows_goodAhead a_t_rows_badAhead r10.2.1 r10.2.2.1 r10.2.2.2.1 r10.2.2.2.2.1 r10.2.2.2.2.2.1 r10.2.2.2.2.2.2.1 x2 _ h12) mv_X12_277 [5, 6, 7, 8, 9, 10] rfl rfl rfl 5 rfl rfl ⟨Nat.le_of_ble_eq_true rfl, Nat.le_of_ble_eq_true rfl⟩ rfl hl.1 rfl (Nat.le_of_ble_eq_true rfl) dX12_refer_40 ⟨Nat.le_of_ble_eq_true rfl, Nat.le_of_ble_eq_true rfl⟩) rfl rfl (fun H locs hw => ?_)
        refine lv_istore (lv' := [(4, .int (kI r12)), (3, .int (kI r11)), (0, .ref a_t), (1, .int (kI x1)), (2, .int (kI x2))]) hx hb dX12_refer_43 hl (by decide) rfl (fun ls hl => ?_)
        refine lv_aload_n hx hb dX12_refer_45 rfl (lv_at hl 2 rfl) ?_
        refine rf_get hx hb cx hw 0 rfl rfl 4 inX12 (by decide) fl_X12_40 rfl rfl dX12_refer_46 ?_
        refine lv_iload hx hb dX12_refer_49 (lv_at hl 0 rfl) ?_
        obtain ⟨r13, h13, h⟩ := bd_some h
        refine rc_I0 (v := r13) hw [5, 6, 7, 8, 9, 10] (rr_V cx hw (c_X8_casesAhead l G S H.size N a_t_rows a_t_rows_score a_t_rows_good a_t_rows_bad a_t_rows_goodAhead a_t_rows_badAhead r10.2.1 r10.2.2.1 r10.2.2.2.1 r10.2.2.2.2.1 r10.2.2.2.2.2.1 r10.2.2.2.2.2.2.1 r12 _ h13) mv_X12_291 [5, 6, 7, 8, 9, 10] rfl rfl rfl 5 rfl rfl ⟨Nat.le_of_ble_eq_true rfl, Nat.le_of_ble_eq_true rfl⟩ rfl hl.1 rfl (Nat.le_of_ble_eq_true rfl) dX12_refer_51 ⟨Nat.le_of_ble_eq_true rfl, Nat.le_of_ble_eq_true rfl⟩) rfl rfl (fun H locs hw => ?_)
        refine lv_aload_n hx hb dX12_refer_54 rfl (lv_at hl 2 rfl) ?_
        refine rf_get hx hb cx hw 0 rfl rfl 4 inX12 (by decide) fl_X12_40 rfl rfl dX12_refer_55 ?_
        refine lv_iload_n hx hb dX12_refer_58 rfl (lv_at hl 1 rfl) ?_
        obtain ⟨r14, h14, h⟩ := bd_some h
        refine rc_I0 (v := r14) hw [5, 6, 7, 8, 9, 10] (rr_V cx hw (c_X8_casesAhead l G S H.size N a_t_rows a_t_rows_score a_t_rows_good a_t_rows_bad a_t_rows_goodAhead a_t_rows_badAhead r10.2.1 r10.2.2.1 r10.2.2.2.1 r10.2.2.2.2.1 r10.2.2.2.2.2.1 r10.2.2.2.2.2.2.1 r11 _ h14) mv_X12_291 [5, 6, 7, 8, 9, 10] rfl rfl rfl 5 rfl rfl ⟨Nat.le_of_ble_eq_true rfl, Nat.le_of_ble_eq_true rfl⟩ rfl hl.1 rfl (Nat.le_of_ble_eq_true rfl) dX12_refer_59 ⟨Nat.le_of_ble_eq_true rfl, Nat.le_of_ble_eq_true rfl⟩) rfl rfl (fun H locs hw => ?_)
        refine ri_isub hx hb dX12_refer_62 ?_
        refine lv_istore (lv' := [(5, .int (kI (r13 - r14))), (4, .int (kI r12)), (3, .int (kI r11)), (0, .ref a_t), (1, .int (kI x1)), (2, .int (kI x2))]) hx hb dX12_refer_63 hl (by decide) rfl (fun ls hl => ?_)
        refine lv_aload_n hx hb dX12_refer_65 rfl (lv_at hl 3 rfl) ?_
        refine rf_get hx hb cx hw 0 rfl rfl 3 inX12 (by decide) fl_X12_33 rfl rfl dX12_refer_66 ?_
        refine rf_get hx hb cx hw 1 rfl rfl 5 inX6 (by decide) fl_X12_169 rfl rfl dX12_refer_69 ?_
        refine lv_aload_n hx hb dX12_refer_72 rfl (lv_at hl 3 rfl) ?_
        refine rf_get hx hb cx hw 0 rfl rfl 4 inX12 (by decide) fl_X12_40 rfl rfl dX12_refer_73 ?_
        refine rf_get hx hb cx hw 5 rfl rfl 3 inX8 (by decide) fl_X12_294 rfl rfl dX12_refer_76 ?_
        refine lv_iload_n hx hb dX12_refer_79 rfl (lv_at hl 2 rfl) ?_
        obtain ⟨g15, h⟩ := gd_some h
        refine ra_i hx hb cx hw 9 rfl (by decide) g15 dX12_refer_80 ?_
        refine ri_imul hx hb dX12_refer_81 ?_
        refine lv_aload_n hx hb dX12_refer_82 rfl (lv_at hl 3 rfl) ?_
        refine rf_get hx hb cx hw 0 rfl rfl 3 inX12 (by decide) fl_X12_33 rfl rfl dX12_refer_83 ?_
        refine rf_get hx hb cx hw 1 rfl rfl 7 inX6 (by decide) fl_X12_175 rfl rfl dX12_refer_86 ?_
        refine lv_iload hx hb dX12_refer_89 (lv_at hl 0 rfl) ?_
        refine ri_imul hx hb dX12_refer_91 ?_
        refine ri_iadd hx hb dX12_refer_92 ?_
        refine lv_aload_n hx hb dX12_refer_93 rfl (lv_at hl 3 rfl) ?_
        refine rf_get hx hb cx hw 0 rfl rfl 3 inX12 (by decide) fl_X12_33 rfl rfl dX12_refer_94 ?_
        refine rf_get hx hb cx hw 1 rfl rfl 6 inX6 (by decide) fl_X12_172 rfl rfl dX12_refer_97 ?_
        refine lv_aload_n hx hb dX12_refer_100 rfl (lv_at hl 3 rfl) ?_
        refine rf_get hx hb cx hw 0 rfl rfl 4 inX12 (by decide) fl_X12_40 rfl rfl dX12_refer_101 ?_
        obtain ⟨r16, h16, h⟩ := bd_some h
        refine rc_I0 (v := r16) hw [5, 6, 7, 8, 9, 10] (rr_V cx hw (c_X8_bads l G S H.size N a_t_rows a_t_rows_score a_t_rows_good a_t_rows_bad a_t_rows_goodAhead a_t_rows_badAhead r10.2.1 r10.2.2.1 r10.2.2.2.1 r10.2.2.2.2.1 r10.2.2.2.2.2.1 r10.2.2.2.2.2.2.1 _ h16) mv_X12_159 [5, 6, 7, 8, 9, 10] rfl rfl rfl 5 rfl rfl ⟨Nat.le_of_ble_eq_true rfl, Nat.le_of_ble_eq_true rfl⟩ rfl hl.1 rfl (Nat.le_of_ble_eq_true rfl) dX12_refer_104 ⟨Nat.le_of_ble_eq_true rfl, Nat.le_of_ble_eq_true rfl⟩) rfl rfl (fun H locs hw => ?_)
        refine lv_aload_n hx hb dX12_refer_107 rfl (lv_at hl 3 rfl) ?_
        refine rf_get hx hb cx hw 0 rfl rfl 4 inX12 (by decide) fl_X12_40 rfl rfl dX12_refer_108 ?_
        refine rf_get hx hb cx hw 5 rfl rfl 4 inX8 (by decide) fl_X12_297 rfl rfl dX12_refer_111 ?_
        refine lv_iload hx hb dX12_refer_114 (lv_at hl 1 rfl) ?_
        obtain ⟨g17, h⟩ := gd_some h
        refine ra_i hx hb cx hw 10 rfl (by decide) g17 dX12_refer_116 ?_
        refine ri_isub hx hb dX12_refer_117 ?_
        refine ri_imul hx hb dX12_refer_118 ?_
        refine ri_iadd hx hb dX12_refer_119 ?_
        obtain rfl := so_inj h
        exact re_i hx hb hlk hr cx hw (Nat.le_of_ble_eq_true rfl) (Nat.le_of_ble_eq_true rfl) dX12_refer_120
      · have h := it_neg c9 h
        refine ri_bipush hx hb dX12_refer_19 rfl ?_
        obtain rfl := so_inj h
        exact re_i hx hb hlk hr cx hw (Nat.le_of_ble_eq_true rfl) (Nat.le_of_ble_eq_true rfl) dX12_refer_21
