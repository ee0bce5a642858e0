set_option maxHeartbeats 4000000 in
set_option maxRecDepth 100000 in
theorem c_X12_month (l : Launch) (G : GG) (S : SM) (sz : Nat) (N : Nat) (a_t a_t_months a_t_tape a_t_out a_t_reader a_t_stock a_t_rows a_t_pure a_t_bands a_t_best a_t_drawn a_t_drawnPure a_t_inferred a_t_decisions a_t_acts a_t_spread a_sp : Nat) (t_empty : Nat) (t_latest : Nat) (t_kept : Int) (t_settled : Int) (t_months : Int → Nat) (t_sp : Int)  (r : Int × Int × (Int → Nat)) (h : m_X12_month N S t_latest t_kept t_months = some r) : CtI l yX12_month cX12_month 1 .int (rmD 1 0 0) G S sz [.ref a_t] [(a_t, .inr (11, [.ref a_t_tape, .ref a_t_out, .ref a_t_reader, .ref a_t_stock, .ref a_t_rows, .ref a_t_pure, .ref a_t_bands, .ref a_t_best, .ref a_t_drawn, .ref a_t_drawnPure, .ref a_t_inferred, .ref a_t_decisions, .ref a_t_acts, .ref t_empty, .ref a_t_months, .ref a_t_spread, spV t_sp a_sp, .ref t_latest, .int (kI t_kept), .int (kI t_settled)])), (a_t_months, cAS G 12 t_months)] r.1 [(a_t, .inr (11, [.ref a_t_tape, .ref a_t_out, .ref a_t_reader, .ref a_t_stock, .ref a_t_rows, .ref a_t_pure, .ref a_t_bands, .ref a_t_best, .ref a_t_drawn, .ref a_t_drawnPure, .ref a_t_inferred, .ref a_t_decisions, .ref a_t_acts, .ref t_empty, .ref a_t_months, .ref a_t_spread, spV t_sp a_sp, .ref t_latest, .int (kI r.2.1), .int (kI t_settled)])), (a_t_months, cAS G 12 r.2.2)] := by
  refine met_I (by decide +kernel) (Nat.le_of_ble_eq_true rfl) ?_
  intro p e s m args below meth c A H locs ls cx hw hr hlk hnm hl
  have hl : lv_has ls 1 [(0, .ref a_t)] := hl
  rw [m_X12_month] at h
  obtain ⟨⟨hx, hb, -, -, -⟩, -⟩ := id cx
  refine lv_aload_n hx hb dX12_month_0 rfl (lv_at hl 0 rfl) ?_
  refine rf_get hx hb cx hw 0 rfl rfl 18 inX12 (by decide) fl_X12_112 rfl rfl dX12_month_1 ?_
  refine ri_bipush hx hb dX12_month_4 rfl ?_
  obtain ⟨g1, h⟩ := gd_some h
  refine ri_icmp_ge (tgt := 19) hx hb g1 ⟨by decide, by decide⟩ dX12_month_6 (by decide) (fun c2 => ?_) (fun c2 => ?_)
  · have h := it_pos c2 h
    refine ri_bipush hx hb dX12_month_19 rfl ?_
    obtain rfl := so_inj h
    exact re_i hx hb hlk hr cx hw (Nat.le_of_ble_eq_true rfl) (Nat.le_of_ble_eq_true rfl) dX12_month_21
  · have h := it_neg c2 h
    refine lv_aload_n hx hb dX12_month_9 rfl (lv_at hl 0 rfl) ?_
    refine rf_get hx hb cx hw 0 rfl rfl 17 inX12 (by decide) fl_X12_109 rfl rfl dX12_month_10 ?_
    obtain ⟨g3, h⟩ := gd_some h
    refine rx_total hx hb cx hw g3 fl_X12_145 dX12_month_13 ?_
    obtain ⟨g4, h⟩ := gd_some h
    refine ri_if_ne (tgt := 22) hx hb g4 dX12_month_16 (by decide) (fun c5 => ?_) (fun c5 => ?_)
    · have h := it_pos c5 h
      refine ri_bipush hx hb dX12_month_19 rfl ?_
      obtain rfl := so_inj h
      exact re_i hx hb hlk hr cx hw (Nat.le_of_ble_eq_true rfl) (Nat.le_of_ble_eq_true rfl) dX12_month_21
    · have h := it_neg c5 h
      refine lv_aload_n hx hb dX12_month_22 rfl (lv_at hl 0 rfl) ?_
      refine rf_get hx hb cx hw 0 rfl rfl 14 inX12 (by decide) fl_X12_97 rfl rfl dX12_month_23 ?_
      refine lv_aload_n hx hb dX12_month_26 rfl (lv_at hl 0 rfl) ?_
      refine rf_get hx hb cx hw 0 rfl rfl 18 inX12 (by decide) fl_X12_112 rfl rfl dX12_month_27 ?_
      refine lv_aload_n hx hb dX12_month_30 rfl (lv_at hl 0 rfl) ?_
      refine rf_get hx hb cx hw 0 rfl rfl 17 inX12 (by decide) fl_X12_109 rfl rfl dX12_month_31 ?_
      obtain ⟨g6, h⟩ := gd_some h
      refine rm_ast hx hb cx hw 1 rfl (by decide) g3 g6 dX12_month_34 (fun H locs hw => ?_)
      have hw : HP G A s.heap H locs [(a_t, .inr (11, [.ref a_t_tape, .ref a_t_out, .ref a_t_reader, .ref a_t_stock, .ref a_t_rows, .ref a_t_pure, .ref a_t_bands, .ref a_t_best, .ref a_t_drawn, .ref a_t_drawnPure, .ref a_t_inferred, .ref a_t_decisions, .ref a_t_acts, .ref t_empty, .ref a_t_months, .ref a_t_spread, spV t_sp a_sp, .ref t_latest, .int (kI t_kept), .int (kI t_settled)])), (a_t_months, cAS G 12 (uP t_months t_kept t_latest))] := hw
      refine lv_aload_n hx hb dX12_month_35 rfl (lv_at hl 0 rfl) ?_
      refine lv_dup hx hb dX12_month_36 rfl ?_
      refine rf_get hx hb cx hw 0 rfl rfl 18 inX12 (by decide) fl_X12_112 rfl rfl dX12_month_37 ?_
      refine ri_iconst hx hb dX12_month_40 ?_
      refine ri_iadd hx hb dX12_month_41 ?_
      refine rf_put hx hb cx hw 0 rfl rfl 18 inX12 tyX12 tyX12_ok nmX12 (by decide) fl_X12_112 rfl rfl rfl rfl (Nat.le_of_ble_eq_true rfl) dX12_month_42 (fun H locs hw => ?_)
      have hw : HP G A s.heap H locs [(a_t, .inr (11, [.ref a_t_tape, .ref a_t_out, .ref a_t_reader, .ref a_t_stock, .ref a_t_rows, .ref a_t_pure, .ref a_t_bands, .ref a_t_best, .ref a_t_drawn, .ref a_t_drawnPure, .ref a_t_inferred, .ref a_t_decisions, .ref a_t_acts, .ref t_empty, .ref a_t_months, .ref a_t_spread, spV t_sp a_sp, .ref t_latest, .int (kI (t_kept + 1)), .int (kI t_settled)])), (a_t_months, cAS G 12 (uP t_months t_kept t_latest))] := hw
      refine lv_aload_n hx hb dX12_month_45 rfl (lv_at hl 0 rfl) ?_
      refine rf_get hx hb cx hw 0 rfl rfl 18 inX12 (by decide) fl_X12_112 rfl rfl dX12_month_46 ?_
      refine ri_iconst hx hb dX12_month_49 ?_
      refine ri_isub hx hb dX12_month_50 ?_
      obtain rfl := so_inj h
      exact re_i hx hb hlk hr cx hw (Nat.le_of_ble_eq_true rfl) (Nat.le_of_ble_eq_true rfl) dX12_month_51
