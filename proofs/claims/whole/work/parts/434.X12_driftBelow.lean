set_option maxHeartbeats 4000000 in
set_option maxRecDepth 100000 in
theorem c_X12_driftBelow (l : Launch) (G : GG) (S : SM) (sz : Nat) (N : Nat) (a_t a_t_rows a_t_rows_score a_t_rows_good a_t_rows_bad a_t_rows_goodAhead a_t_rows_badAhead a_t_tape a_t_out a_t_reader a_t_stock a_t_pure a_t_bands a_t_best a_t_drawn a_t_drawnPure a_t_inferred a_t_decisions a_t_acts a_t_months a_t_spread a_sp : Nat) (t_empty : Nat) (t_latest : Nat) (t_kept : Int) (t_settled : Int) (t_rows_size : Int) (t_rows_score : Int → Int) (t_rows_good : Int → Int) (t_rows_bad : Int → Int) (t_rows_goodAhead : Int → Int) (t_rows_badAhead : Int → Int) (t_sp : Int) (x1 : Nat) (r : Int) (h : m_X12_driftBelow N S t_rows_size t_rows_goodAhead t_rows_badAhead x1 = some r) : CtL l yX12_driftBelow cX12_driftBelow 2 (rmD 3 0 0) G S sz [.ref a_t, .ref x1] [(a_t, .inr (11, [.ref a_t_tape, .ref a_t_out, .ref a_t_reader, .ref a_t_stock, .ref a_t_rows, .ref a_t_pure, .ref a_t_bands, .ref a_t_best, .ref a_t_drawn, .ref a_t_drawnPure, .ref a_t_inferred, .ref a_t_decisions, .ref a_t_acts, .ref t_empty, .ref a_t_months, .ref a_t_spread, spV t_sp a_sp, .ref t_latest, .int (kI t_kept), .int (kI t_settled)])), (a_t_rows, .inr (7, [.ref a_t_rows_score, .ref a_t_rows_good, .ref a_t_rows_bad, .ref a_t_rows_goodAhead, .ref a_t_rows_badAhead, .int (kI t_rows_size)])), (a_t_rows_score, cAI G 60 t_rows_score), (a_t_rows_good, cAI G 60 t_rows_good), (a_t_rows_bad, cAI G 60 t_rows_bad), (a_t_rows_goodAhead, cAI G 61 t_rows_goodAhead), (a_t_rows_badAhead, cAI G 61 t_rows_badAhead)] r [(a_t, .inr (11, [.ref a_t_tape, .ref a_t_out, .ref a_t_reader, .ref a_t_stock, .ref a_t_rows, .ref a_t_pure, .ref a_t_bands, .ref a_t_best, .ref a_t_drawn, .ref a_t_drawnPure, .ref a_t_inferred, .ref a_t_decisions, .ref a_t_acts, .ref t_empty, .ref a_t_months, .ref a_t_spread, spV t_sp a_sp, .ref t_latest, .int (kI t_kept), .int (kI t_settled)])), (a_t_rows, .inr (7, [.ref a_t_rows_score, .ref a_t_rows_good, .ref a_t_rows_bad, .ref a_t_rows_goodAhead, .ref a_t_rows_badAhead, .int (kI t_rows_size)])), (a_t_rows_score, cAI G 60 t_rows_score), (a_t_rows_good, cAI G 60 t_rows_good), (a_t_rows_bad, cAI G 60 t_rows_bad), (a_t_rows_goodAhead, cAI G 61 t_rows_goodAhead), (a_t_rows_badAhead, cAI G 61 t_rows_badAhead)] := by
  refine met_L (by decide +kernel) (Nat.le_of_ble_eq_true rfl) ?_
  intro p e s m args below meth c A H locs ls cx hw hr hlk hnm hl
  have hl : lv_has ls 2 [(0, .ref a_t), (1, .ref x1)] := hl
  rw [m_X12_driftBelow] at h
  obtain ⟨⟨hx, hb, -, -, -⟩, -⟩ := id cx
  refine lv_aload_n hx hb dX12_driftBelow_0 rfl (lv_at hl 0 rfl) ?_
  refine rf_get hx hb cx hw 0 rfl rfl 4 inX12 (by decide) fl_X12_40 rfl rfl dX12_driftBelow_1 ?_
  obtain ⟨r1, h1, h⟩ := bd_some h
  refine rc_I0 (v := r1) hw [1, 2, 3, 4, 5, 6] (rr_V cx hw (c_X8_cases l G S H.size N a_t_rows a_t_rows_score a_t_rows_good a_t_rows_bad a_t_rows_goodAhead a_t_rows_badAhead t_rows_size t_rows_score t_rows_good t_rows_bad t_rows_goodAhead t_rows_badAhead _ h1) mv_X12_340 [1, 2, 3, 4, 5, 6] rfl rfl rfl 1 rfl rfl ⟨Nat.le_of_ble_eq_true rfl, Nat.le_of_ble_eq_true rfl⟩ rfl hl.1 rfl (Nat.le_of_ble_eq_true rfl) dX12_driftBelow_4 ⟨Nat.le_of_ble_eq_true rfl, Nat.le_of_ble_eq_true rfl⟩) rfl rfl (fun H locs hw => ?_)
  obtain ⟨g2, h⟩ := gd_some h
  refine ri_i2l hx hb g2 dX12_driftBelow_7 ?_
  refine lv_aload_n hx hb dX12_driftBelow_8 rfl (lv_at hl 1 rfl) ?_
  obtain ⟨g3, h⟩ := gd_some h
  refine rx_total hx hb cx hw g3 fl_X12_145 dX12_driftBelow_9 ?_
  obtain ⟨g4, h⟩ := gd_some h
  refine ri_i2l hx hb g4 dX12_driftBelow_12 ?_
  refine ri_lmul hx hb dX12_driftBelow_13 ?_
  obtain rfl := so_inj h
  exact re_l hx hb hlk hr cx hw (Nat.le_of_ble_eq_true rfl) (Nat.le_of_ble_eq_true rfl) dX12_driftBelow_14
