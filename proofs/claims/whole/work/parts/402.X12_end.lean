set_option maxHeartbeats 4000000 in
set_option maxRecDepth 100000 in
theorem c_X12_end (l : Launch) (G : GG) (S : SM) (sz : Nat) (N : Nat) (a_t a_t_tape a_t_out a_t_reader a_t_stock a_t_rows a_t_pure a_t_bands a_t_best a_t_drawn a_t_drawnPure a_t_inferred a_t_decisions a_t_acts a_t_months a_t_spread a_t_tape_store a_sp : Nat) (t_empty : Nat) (t_latest : Nat) (t_kept : Int) (t_settled : Int) (t_tape_size : Int) (t_sp : Int) (x1 : Int) (r : Int × Int) (h : m_X12_end N t_tape_size x1 = some r) : CtI l yX12_end cX12_end 2 .int (rmD 1 0 0) G S sz [.ref a_t, .int (kI x1)] [(a_t, .inr (11, [.ref a_t_tape, .ref a_t_out, .ref a_t_reader, .ref a_t_stock, .ref a_t_rows, .ref a_t_pure, .ref a_t_bands, .ref a_t_best, .ref a_t_drawn, .ref a_t_drawnPure, .ref a_t_inferred, .ref a_t_decisions, .ref a_t_acts, .ref t_empty, .ref a_t_months, .ref a_t_spread, spV t_sp a_sp, .ref t_latest, .int (kI t_kept), .int (kI t_settled)])), (a_t_tape, .inr (1, [.ref a_t_tape_store, .int (kI t_tape_size)]))] r.1 [(a_t, .inr (11, [.ref a_t_tape, .ref a_t_out, .ref a_t_reader, .ref a_t_stock, .ref a_t_rows, .ref a_t_pure, .ref a_t_bands, .ref a_t_best, .ref a_t_drawn, .ref a_t_drawnPure, .ref a_t_inferred, .ref a_t_decisions, .ref a_t_acts, .ref t_empty, .ref a_t_months, .ref a_t_spread, spV t_sp a_sp, .ref t_latest, .int (kI t_kept), .int (kI t_settled)])), (a_t_tape, .inr (1, [.ref a_t_tape_store, .int (kI r.2)]))] := by
  refine met_I (by decide +kernel) (Nat.le_of_ble_eq_true rfl) ?_
  intro p e s m args below meth c A H locs ls cx hw hr hlk hnm hl
  have hl : lv_has ls 2 [(0, .ref a_t), (1, .int (kI x1))] := hl
  rw [m_X12_end] at h
  obtain ⟨⟨hx, hb, -, -, -⟩, -⟩ := id cx
  refine lv_iload_n hx hb dX12_end_0 rfl (lv_at hl 1 rfl) ?_
  obtain ⟨g1, h⟩ := gd_some h
  refine ri_if_lt (tgt := 15) hx hb g1 dX12_end_1 (by decide) (fun c2 => ?_) (fun c2 => ?_)
  · have h := it_pos c2 h
    refine ri_iconst hx hb dX12_end_15 ?_
    obtain rfl := so_inj h
    exact re_i hx hb hlk hr cx hw (Nat.le_of_ble_eq_true rfl) (Nat.le_of_ble_eq_true rfl) dX12_end_16
  · have h := it_neg c2 h
    refine lv_iload_n hx hb dX12_end_4 rfl (lv_at hl 1 rfl) ?_
    refine lv_aload_n hx hb dX12_end_5 rfl (lv_at hl 0 rfl) ?_
    refine rf_get hx hb cx hw 0 rfl rfl 0 inX12 (by decide) fl_X12_16 rfl rfl dX12_end_6 ?_
    refine rf_get hx hb cx hw 1 rfl rfl 1 inX1 (by decide) fl_X12_127 rfl rfl dX12_end_9 ?_
    obtain ⟨g3, h⟩ := gd_some h
    refine ri_icmp_le (tgt := 17) hx hb g1 g3 dX12_end_12 (by decide) (fun c4 => ?_) (fun c4 => ?_)
    · have h := it_pos c4 h
      refine lv_aload_n hx hb dX12_end_17 rfl (lv_at hl 0 rfl) ?_
      refine rf_get hx hb cx hw 0 rfl rfl 0 inX12 (by decide) fl_X12_16 rfl rfl dX12_end_18 ?_
      refine lv_iload_n hx hb dX12_end_21 rfl (lv_at hl 1 rfl) ?_
      refine rf_put hx hb cx hw 1 rfl rfl 1 inX1 tyX1 tyX1_ok nmX1 (by decide) fl_X12_127 rfl rfl rfl rfl (Nat.le_of_ble_eq_true rfl) dX12_end_22 (fun H locs hw => ?_)
      have hw : HP G A s.heap H locs [(a_t, .inr (11, [.ref a_t_tape, .ref a_t_out, .ref a_t_reader, .ref a_t_stock, .ref a_t_rows, .ref a_t_pure, .ref a_t_bands, .ref a_t_best, .ref a_t_drawn, .ref a_t_drawnPure, .ref a_t_inferred, .ref a_t_decisions, .ref a_t_acts, .ref t_empty, .ref a_t_months, .ref a_t_spread, spV t_sp a_sp, .ref t_latest, .int (kI t_kept), .int (kI t_settled)])), (a_t_tape, .inr (1, [.ref a_t_tape_store, .int (kI x1)]))] := hw
      refine lv_iload_n hx hb dX12_end_25 rfl (lv_at hl 1 rfl) ?_
      obtain rfl := so_inj h
      exact re_i hx hb hlk hr cx hw (Nat.le_of_ble_eq_true rfl) (Nat.le_of_ble_eq_true rfl) dX12_end_26
    · have h := it_neg c4 h
      refine ri_iconst hx hb dX12_end_15 ?_
      obtain rfl := so_inj h
      exact re_i hx hb hlk hr cx hw (Nat.le_of_ble_eq_true rfl) (Nat.le_of_ble_eq_true rfl) dX12_end_16
