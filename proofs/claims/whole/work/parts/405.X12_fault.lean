set_option maxHeartbeats 4000000 in
set_option maxRecDepth 100000 in
theorem c_X12_fault (l : Launch) (G : GG) (S : SM) (sz : Nat) (N : Nat) (a_t a_t_reader a_t_tape a_t_out a_t_stock a_t_rows a_t_pure a_t_bands a_t_best a_t_drawn a_t_drawnPure a_t_inferred a_t_decisions a_t_acts a_t_months a_t_spread a_t_reader_score a_t_reader_good a_t_reader_bad a_t_reader_open a_t_reader_costs a_sp : Nat) (t_empty : Nat) (t_latest : Nat) (t_kept : Int) (t_settled : Int) (t_reader_ats : Int) (t_reader_lines : Int) (t_reader_least : Int) (t_reader_most : Int) (t_reader_faultKind : Int) (t_reader_faultPlace : Int) (t_reader_toldLines : Int) (t_reader_kind : Int) (t_reader_start : Int) (t_reader_next : Int) (t_reader_number : Int) (t_sp : Int) (x1 : Int) (r : Int) (h : m_X12_fault N t_reader_faultKind t_reader_faultPlace x1 = some r) : CtI l yX12_fault cX12_fault 2 .int (rmD 1 0 0) G S sz [.ref a_t, .int (kI x1)] [(a_t, .inr (11, [.ref a_t_tape, .ref a_t_out, .ref a_t_reader, .ref a_t_stock, .ref a_t_rows, .ref a_t_pure, .ref a_t_bands, .ref a_t_best, .ref a_t_drawn, .ref a_t_drawnPure, .ref a_t_inferred, .ref a_t_decisions, .ref a_t_acts, .ref t_empty, .ref a_t_months, .ref a_t_spread, spV t_sp a_sp, .ref t_latest, .int (kI t_kept), .int (kI t_settled)])), (a_t_reader, .inr (6, [.ref a_t_reader_score, .ref a_t_reader_good, .ref a_t_reader_bad, .ref a_t_reader_open, .ref a_t_reader_costs, .int (kI t_reader_ats), .int (kI t_reader_lines), .int (kI t_reader_least), .int (kI t_reader_most), .int (kI t_reader_faultKind), .int (kI t_reader_faultPlace), .int (kI t_reader_toldLines), .int (kI t_reader_kind), .int (kI t_reader_start), .int (kI t_reader_next), .int (kI t_reader_number)]))] r [(a_t, .inr (11, [.ref a_t_tape, .ref a_t_out, .ref a_t_reader, .ref a_t_stock, .ref a_t_rows, .ref a_t_pure, .ref a_t_bands, .ref a_t_best, .ref a_t_drawn, .ref a_t_drawnPure, .ref a_t_inferred, .ref a_t_decisions, .ref a_t_acts, .ref t_empty, .ref a_t_months, .ref a_t_spread, spV t_sp a_sp, .ref t_latest, .int (kI t_kept), .int (kI t_settled)])), (a_t_reader, .inr (6, [.ref a_t_reader_score, .ref a_t_reader_good, .ref a_t_reader_bad, .ref a_t_reader_open, .ref a_t_reader_costs, .int (kI t_reader_ats), .int (kI t_reader_lines), .int (kI t_reader_least), .int (kI t_reader_most), .int (kI t_reader_faultKind), .int (kI t_reader_faultPlace), .int (kI t_reader_toldLines), .int (kI t_reader_kind), .int (kI t_reader_start), .int (kI t_reader_next), .int (kI t_reader_number)]))] := by
  refine met_I (by decide +kernel) (Nat.le_of_ble_eq_true rfl) ?_
  intro p e s m args below meth c A H locs ls cx hw hr hlk hnm hl
  have hl : lv_has ls 2 [(0, .ref a_t), (1, .int (kI x1))] := hl
  rw [m_X12_fault] at h
  obtain ⟨⟨hx, hb, -, -, -⟩, -⟩ := id cx
  refine lv_iload_n hx hb dX12_fault_0 rfl (lv_at hl 1 rfl) ?_
  obtain ⟨g1, h⟩ := gd_some h
  refine ri_if_ne (tgt := 12) hx hb g1 dX12_fault_1 (by decide) (fun c2 => ?_) (fun c2 => ?_)
  · have h := it_pos c2 h
    refine lv_aload_n hx hb dX12_fault_4 rfl (lv_at hl 0 rfl) ?_
    refine rf_get hx hb cx hw 0 rfl rfl 2 inX12 (by decide) fl_X12_26 rfl rfl dX12_fault_5 ?_
    refine rf_get hx hb cx hw 1 rfl rfl 9 inX7 (by decide) fl_X12_134 rfl rfl dX12_fault_8 ?_
    obtain rfl := so_inj h
    exact re_i hx hb hlk hr cx hw (Nat.le_of_ble_eq_true rfl) (Nat.le_of_ble_eq_true rfl) dX12_fault_11
  · have h := it_neg c2 h
    refine lv_iload_n hx hb dX12_fault_12 rfl (lv_at hl 1 rfl) ?_
    refine ri_iconst hx hb dX12_fault_13 ?_
    refine ri_icmp_ne (tgt := 27) hx hb g1 ⟨by decide, by decide⟩ dX12_fault_14 (by decide) (fun c3 => ?_) (fun c3 => ?_)
    · have h := it_pos c3 h
      refine lv_aload_n hx hb dX12_fault_17 rfl (lv_at hl 0 rfl) ?_
      refine rf_get hx hb cx hw 0 rfl rfl 2 inX12 (by decide) fl_X12_26 rfl rfl dX12_fault_18 ?_
      refine rf_get hx hb cx hw 1 rfl rfl 10 inX7 (by decide) fl_X12_148 rfl rfl dX12_fault_21 ?_
      refine lv_goto (tgt := 28) hx hb dX12_fault_24 (by decide) ?_
      obtain rfl := so_inj h
      exact re_i hx hb hlk hr cx hw (Nat.le_of_ble_eq_true rfl) (Nat.le_of_ble_eq_true rfl) dX12_fault_28
    · have h := it_neg c3 h
      refine ri_iconst hx hb dX12_fault_27 ?_
      obtain rfl := so_inj h
      exact re_i hx hb hlk hr cx hw (Nat.le_of_ble_eq_true rfl) (Nat.le_of_ble_eq_true rfl) dX12_fault_28
