set_option maxHeartbeats 4000000 in
set_option maxRecDepth 100000 in
theorem c_X12_decision (l : Launch) (G : GG) (S : SM) (sz : Nat) (N : Nat) (a_t a_t_decisions a_t_decisions_score a_t_decisions_choice a_t_decisions_advice a_t_decisions_result a_t_decisions_learntBy a_t_tape a_t_out a_t_reader a_t_stock a_t_rows a_t_pure a_t_bands a_t_best a_t_drawn a_t_drawnPure a_t_inferred a_t_acts a_t_months a_t_spread a_sp : Nat) (t_empty : Nat) (t_latest : Nat) (t_kept : Int) (t_settled : Int) (t_decisions_size : Int) (t_decisions_learns : Int) (t_decisions_score : Int → Int) (t_decisions_choice : Int → Int) (t_decisions_advice : Int → Int) (t_decisions_result : Int → Int) (t_decisions_learntBy : Int → Int) (t_sp : Int) (x1 : Int) (x2 : Int) (r : Int) (h : m_X12_decision N t_decisions_size t_decisions_score t_decisions_choice t_decisions_advice t_decisions_result t_decisions_learntBy x1 x2 = some r) : CtI l yX12_decision cX12_decision 3 .int (rmD 2 0 0) G S sz [.ref a_t, .int (kI x1), .int (kI x2)] [(a_t, .inr (11, [.ref a_t_tape, .ref a_t_out, .ref a_t_reader, .ref a_t_stock, .ref a_t_rows, .ref a_t_pure, .ref a_t_bands, .ref a_t_best, .ref a_t_drawn, .ref a_t_drawnPure, .ref a_t_inferred, .ref a_t_decisions, .ref a_t_acts, .ref t_empty, .ref a_t_months, .ref a_t_spread, spV t_sp a_sp, .ref t_latest, .int (kI t_kept), .int (kI t_settled)])), (a_t_decisions, .inr (2, [.ref a_t_decisions_score, .ref a_t_decisions_choice, .ref a_t_decisions_advice, .ref a_t_decisions_result, .ref a_t_decisions_learntBy, .int (kI t_decisions_size), .int (kI t_decisions_learns)])), (a_t_decisions_score, cAI G 40 t_decisions_score), (a_t_decisions_choice, cAI G 40 t_decisions_choice), (a_t_decisions_advice, cAI G 40 t_decisions_advice), (a_t_decisions_result, cAI G 40 t_decisions_result), (a_t_decisions_learntBy, cAI G 40 t_decisions_learntBy)] r [(a_t, .inr (11, [.ref a_t_tape, .ref a_t_out, .ref a_t_reader, .ref a_t_stock, .ref a_t_rows, .ref a_t_pure, .ref a_t_bands, .ref a_t_best, .ref a_t_drawn, .ref a_t_drawnPure, .ref a_t_inferred, .ref a_t_decisions, .ref a_t_acts, .ref t_empty, .ref a_t_months, .ref a_t_spread, spV t_sp a_sp, .ref t_latest, .int (kI t_kept), .int (kI t_settled)])), (a_t_decisions, .inr (2, [.ref a_t_decisions_score, .ref a_t_decisions_choice, .ref a_t_decisions_advice, .ref a_t_decisions_result, .ref a_t_decisions_learntBy, .int (kI t_decisions_size), .int (kI t_decisions_learns)])), (a_t_decisions_score, cAI G 40 t_decisions_score), (a_t_decisions_choice, cAI G 40 t_decisions_choice), (a_t_decisions_advice, cAI G 40 t_decisions_advice), (a_t_decisions_result, cAI G 40 t_decisions_result), (a_t_decisions_learntBy, cAI G 40 t_decisions_learntBy)] := by
  refine met_I (by decide +kernel) (Nat.le_of_ble_eq_true rfl) ?_
  intro p e s m args below meth c A H locs ls cx hw hr hlk hnm hl
  have hl : lv_has ls 3 [(0, .ref a_t), (1, .int (kI x1)), (2, .int (kI x2))] := hl
  rw [m_X12_decision] at h
  obtain ⟨⟨hx, hb, -, -, -⟩, -⟩ := id cx
  refine lv_aload_n hx hb dX12_decision_0 rfl (lv_at hl 0 rfl) ?_
  refine rf_get hx hb cx hw 0 rfl rfl 11 inX12 (by decide) fl_X12_77 rfl rfl dX12_decision_1 ?_
  refine lv_iload_n hx hb dX12_decision_4 rfl (lv_at hl 1 rfl) ?_
  obtain ⟨r1, h1, h⟩ := bd_some h
  refine rc_I0 (v := r1) hw [1, 2, 3, 4, 5, 6] (rr_V cx hw (c_X2_has l G S H.size N a_t_decisions a_t_decisions_score a_t_decisions_choice a_t_decisions_advice a_t_decisions_result a_t_decisions_learntBy t_decisions_size t_decisions_learns t_decisions_score t_decisions_choice t_decisions_advice t_decisions_result t_decisions_learntBy x1 _ h1) mv_X12_426 [1, 2, 3, 4, 5, 6] rfl rfl rfl 1 rfl rfl ⟨Nat.le_of_ble_eq_true rfl, Nat.le_of_ble_eq_true rfl⟩ rfl hl.1 rfl (Nat.le_of_ble_eq_true rfl) dX12_decision_5 ⟨Nat.le_of_ble_eq_true rfl, Nat.le_of_ble_eq_true rfl⟩) rfl rfl (fun H locs hw => ?_)
  obtain ⟨g2, h⟩ := gd_some h
  refine ri_if_ne (tgt := 14) hx hb g2 dX12_decision_8 (by decide) (fun c3 => ?_) (fun c3 => ?_)
  · have h := it_pos c3 h
    refine ri_bipush hx hb dX12_decision_11 rfl ?_
    obtain rfl := so_inj h
    exact re_i hx hb hlk hr cx hw (Nat.le_of_ble_eq_true rfl) (Nat.le_of_ble_eq_true rfl) dX12_decision_13
  · have h := it_neg c3 h
    refine lv_iload_n hx hb dX12_decision_14 rfl (lv_at hl 2 rfl) ?_
    obtain ⟨g4, h⟩ := gd_some h
    by_cases c5 : x2 = 0
    · have h := it_pos c5 h
      refine rt_in hx hb g4 (k := 0) c5 dX12_decision_15 (off := 33) rfl (tgt := 48) (by decide) ?_
      refine lv_aload_n hx hb dX12_decision_48 rfl (lv_at hl 0 rfl) ?_
      refine rf_get hx hb cx hw 0 rfl rfl 11 inX12 (by decide) fl_X12_77 rfl rfl dX12_decision_49 ?_
      refine rf_get hx hb cx hw 1 rfl rfl 0 inX2 (by decide) fl_X12_427 rfl rfl dX12_decision_52 ?_
      refine lv_iload_n hx hb dX12_decision_55 rfl (lv_at hl 1 rfl) ?_
      obtain ⟨g6, h⟩ := gd_some h
      refine ra_i hx hb cx hw 2 rfl (by decide) g6 dX12_decision_56 ?_
      obtain rfl := so_inj h
      exact re_i hx hb hlk hr cx hw (Nat.le_of_ble_eq_true rfl) (Nat.le_of_ble_eq_true rfl) dX12_decision_57
    have h := it_neg c5 h
    by_cases c7 : x2 = 1
    · have h := it_pos c7 h
      refine rt_in hx hb g4 (k := 1) c7 dX12_decision_15 (off := 43) rfl (tgt := 58) (by decide) ?_
      refine lv_aload_n hx hb dX12_decision_58 rfl (lv_at hl 0 rfl) ?_
      refine rf_get hx hb cx hw 0 rfl rfl 11 inX12 (by decide) fl_X12_77 rfl rfl dX12_decision_59 ?_
      refine rf_get hx hb cx hw 1 rfl rfl 1 inX2 (by decide) fl_X12_428 rfl rfl dX12_decision_62 ?_
      refine lv_iload_n hx hb dX12_decision_65 rfl (lv_at hl 1 rfl) ?_
      obtain ⟨g8, h⟩ := gd_some h
      refine ra_i hx hb cx hw 3 rfl (by decide) g8 dX12_decision_66 ?_
      obtain rfl := so_inj h
      exact re_i hx hb hlk hr cx hw (Nat.le_of_ble_eq_true rfl) (Nat.le_of_ble_eq_true rfl) dX12_decision_67
    have h := it_neg c7 h
    by_cases c9 : x2 = 2
    · have h := it_pos c9 h
      refine rt_in hx hb g4 (k := 2) c9 dX12_decision_15 (off := 53) rfl (tgt := 68) (by decide) ?_
      refine lv_aload_n hx hb dX12_decision_68 rfl (lv_at hl 0 rfl) ?_
      refine rf_get hx hb cx hw 0 rfl rfl 11 inX12 (by decide) fl_X12_77 rfl rfl dX12_decision_69 ?_
      refine rf_get hx hb cx hw 1 rfl rfl 2 inX2 (by decide) fl_X12_431 rfl rfl dX12_decision_72 ?_
      refine lv_iload_n hx hb dX12_decision_75 rfl (lv_at hl 1 rfl) ?_
      obtain ⟨g10, h⟩ := gd_some h
      refine ra_i hx hb cx hw 4 rfl (by decide) g10 dX12_decision_76 ?_
      obtain rfl := so_inj h
      exact re_i hx hb hlk hr cx hw (Nat.le_of_ble_eq_true rfl) (Nat.le_of_ble_eq_true rfl) dX12_decision_77
    have h := it_neg c9 h
    by_cases c11 : x2 = 3
    · have h := it_pos c11 h
      refine rt_in hx hb g4 (k := 3) c11 dX12_decision_15 (off := 63) rfl (tgt := 78) (by decide) ?_
      refine lv_aload_n hx hb dX12_decision_78 rfl (lv_at hl 0 rfl) ?_
      refine rf_get hx hb cx hw 0 rfl rfl 11 inX12 (by decide) fl_X12_77 rfl rfl dX12_decision_79 ?_
      refine rf_get hx hb cx hw 1 rfl rfl 3 inX2 (by decide) fl_X12_433 rfl rfl dX12_decision_82 ?_
      refine lv_iload_n hx hb dX12_decision_85 rfl (lv_at hl 1 rfl) ?_
      obtain ⟨g12, h⟩ := gd_some h
      refine ra_i hx hb cx hw 5 rfl (by decide) g12 dX12_decision_86 ?_
      obtain rfl := so_inj h
      exact re_i hx hb hlk hr cx hw (Nat.le_of_ble_eq_true rfl) (Nat.le_of_ble_eq_true rfl) dX12_decision_87
    have h := it_neg c11 h
    by_cases c13 : x2 = 4
    · have h := it_pos c13 h
      refine rt_in hx hb g4 (k := 4) c13 dX12_decision_15 (off := 73) rfl (tgt := 88) (by decide) ?_
      refine lv_aload_n hx hb dX12_decision_88 rfl (lv_at hl 0 rfl) ?_
      refine rf_get hx hb cx hw 0 rfl rfl 11 inX12 (by decide) fl_X12_77 rfl rfl dX12_decision_89 ?_
      refine rf_get hx hb cx hw 1 rfl rfl 4 inX2 (by decide) fl_X12_436 rfl rfl dX12_decision_92 ?_
      refine lv_iload_n hx hb dX12_decision_95 rfl (lv_at hl 1 rfl) ?_
      obtain ⟨g14, h⟩ := gd_some h
      refine ra_i hx hb cx hw 6 rfl (by decide) g14 dX12_decision_96 ?_
      obtain ⟨g15, h⟩ := gd_some h
      refine ri_if_eq (tgt := 104) hx hb g15 dX12_decision_97 (by decide) (fun c16 => ?_) (fun c16 => ?_)
      · have h := it_pos c16 h
        refine ri_iconst hx hb dX12_decision_104 ?_
        obtain rfl := so_inj h
        exact re_i hx hb hlk hr cx hw (Nat.le_of_ble_eq_true rfl) (Nat.le_of_ble_eq_true rfl) dX12_decision_105
      · have h := it_neg c16 h
        refine ri_iconst hx hb dX12_decision_100 ?_
        refine lv_goto (tgt := 105) hx hb dX12_decision_101 (by decide) ?_
        obtain rfl := so_inj h
        exact re_i hx hb hlk hr cx hw (Nat.le_of_ble_eq_true rfl) (Nat.le_of_ble_eq_true rfl) dX12_decision_105
    have h := it_neg c13 h
    refine rt_out hx hb g4 dX12_decision_15 (by omega) (tgt := 106) (by decide) ?_
    refine ri_bipush hx hb dX12_decision_106 rfl ?_
    obtain rfl := so_inj h
    exact re_i hx hb hlk hr cx hw (Nat.le_of_ble_eq_true rfl) (Nat.le_of_ble_eq_true rfl) dX12_decision_108
