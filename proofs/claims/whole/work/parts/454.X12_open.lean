set_option maxHeartbeats 4000000 in
set_option maxRecDepth 100000 in
theorem c_X12_open (l : Launch) (G : GG) (S : SM) (sz : Nat) (N : Nat) (a_t a_t_stock a_t_stock_open a_t_tape a_t_out a_t_reader a_t_rows a_t_pure a_t_bands a_t_best a_t_drawn a_t_drawnPure a_t_inferred a_t_decisions a_t_acts a_t_months a_t_spread a_t_stock_good a_t_stock_bad a_sp : Nat) (t_empty : Nat) (t_latest : Nat) (t_kept : Int) (t_settled : Int) (t_stock_least : Int) (t_stock_most : Int) (t_stock_goodCost : Int) (t_stock_badCost : Int) (t_stock_referCost : Int) (t_stock_open : Int → Int) (t_sp : Int) (x1 : Int) (r : Int) (h : m_X12_open N t_stock_open x1 = some r) : CtI l yX12_open cX12_open 2 .int (rmD 2 0 0) G S sz [.ref a_t, .int (kI x1)] [(a_t, .inr (11, [.ref a_t_tape, .ref a_t_out, .ref a_t_reader, .ref a_t_stock, .ref a_t_rows, .ref a_t_pure, .ref a_t_bands, .ref a_t_best, .ref a_t_drawn, .ref a_t_drawnPure, .ref a_t_inferred, .ref a_t_decisions, .ref a_t_acts, .ref t_empty, .ref a_t_months, .ref a_t_spread, spV t_sp a_sp, .ref t_latest, .int (kI t_kept), .int (kI t_settled)])), (a_t_stock, .inr (5, [.ref a_t_stock_good, .ref a_t_stock_bad, .ref a_t_stock_open, .int (kI t_stock_least), .int (kI t_stock_most), .int (kI t_stock_goodCost), .int (kI t_stock_badCost), .int (kI t_stock_referCost)])), (a_t_stock_open, cAI G 1000 t_stock_open)] r [(a_t, .inr (11, [.ref a_t_tape, .ref a_t_out, .ref a_t_reader, .ref a_t_stock, .ref a_t_rows, .ref a_t_pure, .ref a_t_bands, .ref a_t_best, .ref a_t_drawn, .ref a_t_drawnPure, .ref a_t_inferred, .ref a_t_decisions, .ref a_t_acts, .ref t_empty, .ref a_t_months, .ref a_t_spread, spV t_sp a_sp, .ref t_latest, .int (kI t_kept), .int (kI t_settled)])), (a_t_stock, .inr (5, [.ref a_t_stock_good, .ref a_t_stock_bad, .ref a_t_stock_open, .int (kI t_stock_least), .int (kI t_stock_most), .int (kI t_stock_goodCost), .int (kI t_stock_badCost), .int (kI t_stock_referCost)])), (a_t_stock_open, cAI G 1000 t_stock_open)] := by
  refine met_I (by decide +kernel) (Nat.le_of_ble_eq_true rfl) ?_
  intro p e s m args below meth c A H locs ls cx hw hr hlk hnm hl
  have hl : lv_has ls 2 [(0, .ref a_t), (1, .int (kI x1))] := hl
  rw [m_X12_open] at h
  obtain ⟨⟨hx, hb, -, -, -⟩, -⟩ := id cx
  refine lv_iload_n hx hb dX12_open_0 rfl (lv_at hl 1 rfl) ?_
  obtain ⟨r1, h1, h⟩ := bd_some h
  refine rc_I0 (v := r1) hw [] (rr_S cx hw (c_X12_isScore l G S H.size N x1 _ h1) mv_X12_222 [] rfl rfl rfl ⟨Nat.le_of_ble_eq_true rfl, Nat.le_of_ble_eq_true rfl⟩ rfl hl.1 rfl (Nat.le_of_ble_eq_true rfl) dX12_open_1 ⟨Nat.le_of_ble_eq_true rfl, Nat.le_of_ble_eq_true rfl⟩) rfl rfl (fun H locs hw => ?_)
  obtain ⟨g2, h⟩ := gd_some h
  refine ri_if_eq (tgt := 19) hx hb g2 dX12_open_4 (by decide) (fun c3 => ?_) (fun c3 => ?_)
  · have h := it_pos c3 h
    refine ri_bipush hx hb dX12_open_19 rfl ?_
    obtain rfl := so_inj h
    exact re_i hx hb hlk hr cx hw (Nat.le_of_ble_eq_true rfl) (Nat.le_of_ble_eq_true rfl) dX12_open_21
  · have h := it_neg c3 h
    refine lv_aload_n hx hb dX12_open_7 rfl (lv_at hl 0 rfl) ?_
    refine rf_get hx hb cx hw 0 rfl rfl 3 inX12 (by decide) fl_X12_33 rfl rfl dX12_open_8 ?_
    refine rf_get hx hb cx hw 1 rfl rfl 2 inX6 (by decide) fl_X12_398 rfl rfl dX12_open_11 ?_
    refine lv_iload_n hx hb dX12_open_14 rfl (lv_at hl 1 rfl) ?_
    obtain ⟨g4, h⟩ := gd_some h
    refine ra_i hx hb cx hw 2 rfl (by decide) g4 dX12_open_15 ?_
    refine lv_goto (tgt := 21) hx hb dX12_open_16 (by decide) ?_
    obtain rfl := so_inj h
    exact re_i hx hb hlk hr cx hw (Nat.le_of_ble_eq_true rfl) (Nat.le_of_ble_eq_true rfl) dX12_open_21
