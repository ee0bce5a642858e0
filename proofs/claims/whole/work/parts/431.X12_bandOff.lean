set_option maxHeartbeats 4000000 in
set_option maxRecDepth 100000 in
theorem c_X12_bandOff (l : Launch) (G : GG) (S : SM) (sz : Nat) (N : Nat) (a_t a_t_rows a_t_rows_score a_t_rows_good a_t_rows_bad a_t_rows_goodAhead a_t_rows_badAhead a_t_bands a_t_bands_least a_t_bands_greatest a_t_bands_good a_t_bands_bad a_t_bands_rowsIn a_t_spread a_t_tape a_t_out a_t_reader a_t_stock a_t_pure a_t_best a_t_drawn a_t_drawnPure a_t_inferred a_t_decisions a_t_acts a_t_months a_sp : Nat) (t_empty : Nat) (t_latest : Nat) (t_kept : Int) (t_settled : Int) (t_rows_size : Int) (t_rows_score : Int → Int) (t_rows_good : Int → Int) (t_rows_bad : Int → Int) (t_rows_goodAhead : Int → Int) (t_rows_badAhead : Int → Int) (t_bands_size : Int) (t_bands_least : Int → Int) (t_bands_greatest : Int → Int) (t_bands_good : Int → Int) (t_bands_bad : Int → Int) (t_bands_rowsIn : Int → Int) (t_spread : Int → Int) (t_sp : Int) (x1 : Nat) (x2 : Int) (r : Int) (h : m_X12_bandOff N S t_rows_size t_rows_goodAhead t_rows_badAhead t_bands_good t_bands_bad t_spread x1 x2 = some r) : CtL l yX12_bandOff cX12_bandOff 3 (rmD 3 0 0) G S sz [.ref a_t, .ref x1, .int (kI x2)] [(a_t, .inr (11, [.ref a_t_tape, .ref a_t_out, .ref a_t_reader, .ref a_t_stock, .ref a_t_rows, .ref a_t_pure, .ref a_t_bands, .ref a_t_best, .ref a_t_drawn, .ref a_t_drawnPure, .ref a_t_inferred, .ref a_t_decisions, .ref a_t_acts, .ref t_empty, .ref a_t_months, .ref a_t_spread, spV t_sp a_sp, .ref t_latest, .int (kI t_kept), .int (kI t_settled)])), (a_t_rows, .inr (7, [.ref a_t_rows_score, .ref a_t_rows_good, .ref a_t_rows_bad, .ref a_t_rows_goodAhead, .ref a_t_rows_badAhead, .int (kI t_rows_size)])), (a_t_rows_score, cAI G 60 t_rows_score), (a_t_rows_good, cAI G 60 t_rows_good), (a_t_rows_bad, cAI G 60 t_rows_bad), (a_t_rows_goodAhead, cAI G 61 t_rows_goodAhead), (a_t_rows_badAhead, cAI G 61 t_rows_badAhead), (a_t_bands, .inr (4, [.ref a_t_bands_least, .ref a_t_bands_greatest, .ref a_t_bands_good, .ref a_t_bands_bad, .ref a_t_bands_rowsIn, .int (kI t_bands_size)])), (a_t_bands_least, cAI G 60 t_bands_least), (a_t_bands_greatest, cAI G 60 t_bands_greatest), (a_t_bands_good, cAI G 60 t_bands_good), (a_t_bands_bad, cAI G 60 t_bands_bad), (a_t_bands_rowsIn, cAI G 60 t_bands_rowsIn), (a_t_spread, cAI G 60 t_spread)] r [(a_t, .inr (11, [.ref a_t_tape, .ref a_t_out, .ref a_t_reader, .ref a_t_stock, .ref a_t_rows, .ref a_t_pure, .ref a_t_bands, .ref a_t_best, .ref a_t_drawn, .ref a_t_drawnPure, .ref a_t_inferred, .ref a_t_decisions, .ref a_t_acts, .ref t_empty, .ref a_t_months, .ref a_t_spread, spV t_sp a_sp, .ref t_latest, .int (kI t_kept), .int (kI t_settled)])), (a_t_rows, .inr (7, [.ref a_t_rows_score, .ref a_t_rows_good, .ref a_t_rows_bad, .ref a_t_rows_goodAhead, .ref a_t_rows_badAhead, .int (kI t_rows_size)])), (a_t_rows_score, cAI G 60 t_rows_score), (a_t_rows_good, cAI G 60 t_rows_good), (a_t_rows_bad, cAI G 60 t_rows_bad), (a_t_rows_goodAhead, cAI G 61 t_rows_goodAhead), (a_t_rows_badAhead, cAI G 61 t_rows_badAhead), (a_t_bands, .inr (4, [.ref a_t_bands_least, .ref a_t_bands_greatest, .ref a_t_bands_good, .ref a_t_bands_bad, .ref a_t_bands_rowsIn, .int (kI t_bands_size)])), (a_t_bands_least, cAI G 60 t_bands_least), (a_t_bands_greatest, cAI G 60 t_bands_greatest), (a_t_bands_good, cAI G 60 t_bands_good), (a_t_bands_bad, cAI G 60 t_bands_bad), (a_t_bands_rowsIn, cAI G 60 t_bands_rowsIn), (a_t_spread, cAI G 60 t_spread)] := by
  refine met_L (by decide +kernel) (Nat.le_of_ble_eq_true rfl) ?_
  intro p e s m args below meth c A H locs ls cx hw hr hlk hnm hl
  have hl : lv_has ls 3 [(0, .ref a_t), (1, .ref x1), (2, .int (kI x2))] := hl
  rw [m_X12_bandOff] at h
  obtain ⟨⟨hx, hb, -, -, -⟩, -⟩ := id cx
  refine lv_aload_n hx hb dX12_bandOff_0 rfl (lv_at hl 0 rfl) ?_
  refine rf_get hx hb cx hw 0 rfl rfl 6 inX12 (by decide) fl_X12_51 rfl rfl dX12_bandOff_1 ?_
  refine lv_iload_n hx hb dX12_bandOff_4 rfl (lv_at hl 2 rfl) ?_
  obtain ⟨r1, h1, h⟩ := bd_some h
  refine rc_I0 (v := r1) hw [7, 8, 9, 10, 11, 12] (rr_V cx hw (c_X4_cases l G S H.size N a_t_bands a_t_bands_least a_t_bands_greatest a_t_bands_good a_t_bands_bad a_t_bands_rowsIn t_bands_size t_bands_least t_bands_greatest t_bands_good t_bands_bad t_bands_rowsIn x2 _ h1) mv_X12_206 [7, 8, 9, 10, 11, 12] rfl rfl rfl 7 rfl rfl ⟨Nat.le_of_ble_eq_true rfl, Nat.le_of_ble_eq_true rfl⟩ rfl hl.1 rfl (Nat.le_of_ble_eq_true rfl) dX12_bandOff_5 ⟨Nat.le_of_ble_eq_true rfl, Nat.le_of_ble_eq_true rfl⟩) rfl rfl (fun H locs hw => ?_)
  obtain ⟨g2, h⟩ := gd_some h
  refine ri_i2l hx hb g2 dX12_bandOff_8 ?_
  refine lv_aload_n hx hb dX12_bandOff_9 rfl (lv_at hl 1 rfl) ?_
  obtain ⟨g3, h⟩ := gd_some h
  refine rx_total hx hb cx hw g3 fl_X12_145 dX12_bandOff_10 ?_
  obtain ⟨g4, h⟩ := gd_some h
  refine ri_i2l hx hb g4 dX12_bandOff_13 ?_
  refine ri_lmul hx hb dX12_bandOff_14 ?_
  refine lv_aload_n hx hb dX12_bandOff_15 rfl (lv_at hl 0 rfl) ?_
  refine rf_get hx hb cx hw 0 rfl rfl 15 inX12 (by decide) fl_X12_101 rfl rfl dX12_bandOff_16 ?_
  refine lv_iload_n hx hb dX12_bandOff_19 rfl (lv_at hl 2 rfl) ?_
  obtain ⟨g5, h⟩ := gd_some h
  refine ra_i hx hb cx hw 13 rfl (by decide) g5 dX12_bandOff_20 ?_
  obtain ⟨g6, h⟩ := gd_some h
  refine ri_i2l hx hb g6 dX12_bandOff_21 ?_
  refine lv_aload_n hx hb dX12_bandOff_22 rfl (lv_at hl 0 rfl) ?_
  refine rf_get hx hb cx hw 0 rfl rfl 4 inX12 (by decide) fl_X12_40 rfl rfl dX12_bandOff_23 ?_
  obtain ⟨r7, h7, h⟩ := bd_some h
  refine rc_I0 (v := r7) hw [1, 2, 3, 4, 5, 6] (rr_V cx hw (c_X8_cases l G S H.size N a_t_rows a_t_rows_score a_t_rows_good a_t_rows_bad a_t_rows_goodAhead a_t_rows_badAhead t_rows_size t_rows_score t_rows_good t_rows_bad t_rows_goodAhead t_rows_badAhead _ h7) mv_X12_340 [1, 2, 3, 4, 5, 6] rfl rfl rfl 1 rfl rfl ⟨Nat.le_of_ble_eq_true rfl, Nat.le_of_ble_eq_true rfl⟩ rfl hl.1 rfl (Nat.le_of_ble_eq_true rfl) dX12_bandOff_26 ⟨Nat.le_of_ble_eq_true rfl, Nat.le_of_ble_eq_true rfl⟩) rfl rfl (fun H locs hw => ?_)
  obtain ⟨g8, h⟩ := gd_some h
  refine ri_i2l hx hb g8 dX12_bandOff_29 ?_
  refine ri_lmul hx hb dX12_bandOff_30 ?_
  refine ri_lsub hx hb dX12_bandOff_31 ?_
  obtain ⟨g9, h⟩ := gd_some h
  refine rj_absL g9 hx hb cx hl.1 jl_X12_520 (Nat.le_of_ble_eq_true rfl) (Nat.le_of_ble_eq_true rfl) (Nat.le_of_ble_eq_true rfl) (Nat.le_of_ble_eq_true rfl) dX12_bandOff_32 ?_
  obtain rfl := so_inj h
  exact re_l hx hb hlk hr cx hw (Nat.le_of_ble_eq_true rfl) (Nat.le_of_ble_eq_true rfl) dX12_bandOff_35
