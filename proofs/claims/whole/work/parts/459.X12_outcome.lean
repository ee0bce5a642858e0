set_option maxHeartbeats 4000000 in
set_option maxRecDepth 100000 in
theorem c_X12_outcome (l : Launch) (G : GG) (S : SM) (sz : Nat) (N : Nat) (a_t a_t_decisions a_t_decisions_score a_t_decisions_choice a_t_decisions_advice a_t_decisions_result a_t_decisions_learntBy a_t_acts a_t_acts_kind a_t_acts_first a_t_acts_second a_t_acts_third a_t_tape a_t_out a_t_reader a_t_stock a_t_rows a_t_pure a_t_bands a_t_best a_t_drawn a_t_drawnPure a_t_inferred a_t_months a_t_spread a_sp : Nat) (t_empty : Nat) (t_latest : Nat) (t_kept : Int) (t_settled : Int) (t_decisions_size : Int) (t_decisions_learns : Int) (t_decisions_score : Int → Int) (t_decisions_choice : Int → Int) (t_decisions_advice : Int → Int) (t_decisions_result : Int → Int) (t_decisions_learntBy : Int → Int) (t_acts_size : Int) (t_acts_kind : Int → Int) (t_acts_first : Int → Int) (t_acts_second : Int → Int) (t_acts_third : Int → Int) (t_sp : Int) (x1 : Int) (x2 : Int) (r : Int × Int × (Int → Int) × Int × (Int → Int) × (Int → Int) × (Int → Int) × (Int → Int)) (h : m_X12_outcome N t_decisions_size t_decisions_choice t_settled t_decisions_result t_acts_size t_acts_kind t_acts_first t_acts_second t_acts_third x1 x2 = some r) : CtI l yX12_outcome cX12_outcome 3 .int (rmD 4 0 0) G S sz [.ref a_t, .int (kI x1), .int (kI x2)] [(a_t, .inr (11, [.ref a_t_tape, .ref a_t_out, .ref a_t_reader, .ref a_t_stock, .ref a_t_rows, .ref a_t_pure, .ref a_t_bands, .ref a_t_best, .ref a_t_drawn, .ref a_t_drawnPure, .ref a_t_inferred, .ref a_t_decisions, .ref a_t_acts, .ref t_empty, .ref a_t_months, .ref a_t_spread, spV t_sp a_sp, .ref t_latest, .int (kI t_kept), .int (kI t_settled)])), (a_t_decisions, .inr (2, [.ref a_t_decisions_score, .ref a_t_decisions_choice, .ref a_t_decisions_advice, .ref a_t_decisions_result, .ref a_t_decisions_learntBy, .int (kI t_decisions_size), .int (kI t_decisions_learns)])), (a_t_decisions_score, cAI G 40 t_decisions_score), (a_t_decisions_choice, cAI G 40 t_decisions_choice), (a_t_decisions_advice, cAI G 40 t_decisions_advice), (a_t_decisions_result, cAI G 40 t_decisions_result), (a_t_decisions_learntBy, cAI G 40 t_decisions_learntBy), (a_t_acts, .inr (0, [.ref a_t_acts_kind, .ref a_t_acts_first, .ref a_t_acts_second, .ref a_t_acts_third, .int (kI t_acts_size)])), (a_t_acts_kind, cAI G 10 t_acts_kind), (a_t_acts_first, cAI G 10 t_acts_first), (a_t_acts_second, cAI G 10 t_acts_second), (a_t_acts_third, cAI G 10 t_acts_third)] r.1 [(a_t, .inr (11, [.ref a_t_tape, .ref a_t_out, .ref a_t_reader, .ref a_t_stock, .ref a_t_rows, .ref a_t_pure, .ref a_t_bands, .ref a_t_best, .ref a_t_drawn, .ref a_t_drawnPure, .ref a_t_inferred, .ref a_t_decisions, .ref a_t_acts, .ref t_empty, .ref a_t_months, .ref a_t_spread, spV t_sp a_sp, .ref t_latest, .int (kI t_kept), .int (kI r.2.1)])), (a_t_decisions, .inr (2, [.ref a_t_decisions_score, .ref a_t_decisions_choice, .ref a_t_decisions_advice, .ref a_t_decisions_result, .ref a_t_decisions_learntBy, .int (kI t_decisions_size), .int (kI t_decisions_learns)])), (a_t_decisions_score, cAI G 40 t_decisions_score), (a_t_decisions_choice, cAI G 40 t_decisions_choice), (a_t_decisions_advice, cAI G 40 t_decisions_advice), (a_t_decisions_result, cAI G 40 r.2.2.1), (a_t_decisions_learntBy, cAI G 40 t_decisions_learntBy), (a_t_acts, .inr (0, [.ref a_t_acts_kind, .ref a_t_acts_first, .ref a_t_acts_second, .ref a_t_acts_third, .int (kI r.2.2.2.1)])), (a_t_acts_kind, cAI G 10 r.2.2.2.2.1), (a_t_acts_first, cAI G 10 r.2.2.2.2.2.1), (a_t_acts_second, cAI G 10 r.2.2.2.2.2.2.1), (a_t_acts_third, cAI G 10 r.2.2.2.2.2.2.2)] := by
  refine met_I (by decide +kernel) (Nat.le_of_ble_eq_true rfl) ?_
  intro p e s m args below meth c A H locs ls cx hw hr hlk hnm hl
  have hl : lv_has ls 3 [(0, .ref a_t), (1, .int (kI x1)), (2, .int (kI x2))] := hl
  rw [m_X12_outcome] at h
  obtain ⟨⟨hx, hb, -, -, -⟩, -⟩ := id cx
  refine lv_aload_n hx hb dX12_outcome_0 rfl (lv_at hl 0 rfl) ?_
  refine rf_get hx hb cx hw 0 rfl rfl 11 inX12 (by decide) fl_X12_77 rfl rfl dX12_outcome_1 ?_
  refine lv_iload_n hx hb dX12_outcome_4 rfl (lv_at hl 1 rfl) ?_
  obtain ⟨r1, h1, h⟩ := bd_some h
  refine rc_I0 (v := r1) hw [1, 2, 3, 4, 5, 6] (rr_V cx hw (c_X2_has l G S H.size N a_t_decisions a_t_decisions_score a_t_decisions_choice a_t_decisions_advice a_t_decisions_result a_t_decisions_learntBy t_decisions_size t_decisions_learns t_decisions_score t_decisions_choice t_decisions_advice t_decisions_result t_decisions_learntBy x1 _ h1) mv_X12_426 [1, 2, 3, 4, 5, 6] rfl rfl rfl 1 rfl rfl ⟨Nat.le_of_ble_eq_true rfl, Nat.le_of_ble_eq_true rfl⟩ rfl hl.1 rfl (Nat.le_of_ble_eq_true rfl) dX12_outcome_5 ⟨Nat.le_of_ble_eq_true rfl, Nat.le_of_ble_eq_true rfl⟩) rfl rfl (fun H locs hw => ?_)
  obtain ⟨g2, h⟩ := gd_some h
  refine ri_if_eq (tgt := 20) hx hb g2 dX12_outcome_8 (by decide) (fun c3 => ?_) (fun c3 => ?_)
  · have h := it_pos c3 h
    refine ri_bipush hx hb dX12_outcome_20 rfl ?_
    obtain rfl := so_inj h
    exact re_i hx hb hlk hr cx hw (Nat.le_of_ble_eq_true rfl) (Nat.le_of_ble_eq_true rfl) dX12_outcome_22
  · have h := it_neg c3 h
    refine lv_iload_n hx hb dX12_outcome_11 rfl (lv_at hl 2 rfl) ?_
    obtain ⟨g4, h⟩ := gd_some h
    refine ri_if_lt (tgt := 20) hx hb g4 dX12_outcome_12 (by decide) (fun c5 => ?_) (fun c5 => ?_)
    · have h := it_pos c5 h
      refine ri_bipush hx hb dX12_outcome_20 rfl ?_
      obtain rfl := so_inj h
      exact re_i hx hb hlk hr cx hw (Nat.le_of_ble_eq_true rfl) (Nat.le_of_ble_eq_true rfl) dX12_outcome_22
    · have h := it_neg c5 h
      refine lv_iload_n hx hb dX12_outcome_15 rfl (lv_at hl 2 rfl) ?_
      refine ri_iconst hx hb dX12_outcome_16 ?_
      refine ri_icmp_le (tgt := 23) hx hb g4 ⟨by decide, by decide⟩ dX12_outcome_17 (by decide) (fun c6 => ?_) (fun c6 => ?_)
      · have h := it_pos c6 h
        refine lv_aload_n hx hb dX12_outcome_23 rfl (lv_at hl 0 rfl) ?_
        refine rf_get hx hb cx hw 0 rfl rfl 11 inX12 (by decide) fl_X12_77 rfl rfl dX12_outcome_24 ?_
        refine rf_get hx hb cx hw 1 rfl rfl 1 inX2 (by decide) fl_X12_428 rfl rfl dX12_outcome_27 ?_
        refine lv_iload_n hx hb dX12_outcome_30 rfl (lv_at hl 1 rfl) ?_
        obtain ⟨g7, h⟩ := gd_some h
        refine ra_i hx hb cx hw 3 rfl (by decide) g7 dX12_outcome_31 ?_
        obtain ⟨g8, h⟩ := gd_some h
        refine ri_if_eq (tgt := 48) hx hb g8 dX12_outcome_32 (by decide) (fun c9 => ?_) (fun c9 => ?_)
        · have h := it_pos c9 h
          refine ri_bipush hx hb dX12_outcome_48 rfl ?_
          obtain rfl := so_inj h
          exact re_i hx hb hlk hr cx hw (Nat.le_of_ble_eq_true rfl) (Nat.le_of_ble_eq_true rfl) dX12_outcome_50
        · have h := it_neg c9 h
          refine lv_aload_n hx hb dX12_outcome_35 rfl (lv_at hl 0 rfl) ?_
          refine rf_get hx hb cx hw 0 rfl rfl 11 inX12 (by decide) fl_X12_77 rfl rfl dX12_outcome_36 ?_
          refine rf_get hx hb cx hw 1 rfl rfl 3 inX2 (by decide) fl_X12_433 rfl rfl dX12_outcome_39 ?_
          refine lv_iload_n hx hb dX12_outcome_42 rfl (lv_at hl 1 rfl) ?_
          refine ra_i hx hb cx hw 5 rfl (by decide) g7 dX12_outcome_43 ?_
          refine ri_iconst hx hb dX12_outcome_44 ?_
          obtain ⟨g10, h⟩ := gd_some h
          refine ri_icmp_eq (tgt := 51) hx hb g10 ⟨by decide, by decide⟩ dX12_outcome_45 (by decide) (fun c11 => ?_) (fun c11 => ?_)
          · have h := it_pos c11 h
            refine lv_aload_n hx hb dX12_outcome_51 rfl (lv_at hl 0 rfl) ?_
            refine rf_get hx hb cx hw 0 rfl rfl 11 inX12 (by decide) fl_X12_77 rfl rfl dX12_outcome_52 ?_
            refine rf_get hx hb cx hw 1 rfl rfl 3 inX2 (by decide) fl_X12_433 rfl rfl dX12_outcome_55 ?_
            refine lv_iload_n hx hb dX12_outcome_58 rfl (lv_at hl 1 rfl) ?_
            refine lv_iload_n hx hb dX12_outcome_59 rfl (lv_at hl 2 rfl) ?_
            refine ra_si hx hb cx hw 5 rfl (by decide) g7 dX12_outcome_60 (fun H locs hw => ?_)
            have hw : HP G A s.heap H locs [(a_t, .inr (11, [.ref a_t_tape, .ref a_t_out, .ref a_t_reader, .ref a_t_stock, .ref a_t_rows, .ref a_t_pure, .ref a_t_bands, .ref a_t_best, .ref a_t_drawn, .ref a_t_drawnPure, .ref a_t_inferred, .ref a_t_decisions, .ref a_t_acts, .ref t_empty, .ref a_t_months, .ref a_t_spread, spV t_sp a_sp, .ref t_latest, .int (kI t_kept), .int (kI t_settled)])), (a_t_decisions, .inr (2, [.ref a_t_decisions_score, .ref a_t_decisions_choice, .ref a_t_decisions_advice, .ref a_t_decisions_result, .ref a_t_decisions_learntBy, .int (kI t_decisions_size), .int (kI t_decisions_learns)])), (a_t_decisions_score, cAI G 40 t_decisions_score), (a_t_decisions_choice, cAI G 40 t_decisions_choice), (a_t_decisions_advice, cAI G 40 t_decisions_advice), (a_t_decisions_result, cAI G 40 (uP t_decisions_result x1 x2)), (a_t_decisions_learntBy, cAI G 40 t_decisions_learntBy), (a_t_acts, .inr (0, [.ref a_t_acts_kind, .ref a_t_acts_first, .ref a_t_acts_second, .ref a_t_acts_third, .int (kI t_acts_size)])), (a_t_acts_kind, cAI G 10 t_acts_kind), (a_t_acts_first, cAI G 10 t_acts_first), (a_t_acts_second, cAI G 10 t_acts_second), (a_t_acts_third, cAI G 10 t_acts_third)] := hw
            refine lv_aload_n hx hb dX12_outcome_61 rfl (lv_at hl 0 rfl) ?_
            refine ri_iconst hx hb dX12_outcome_62 ?_
            refine lv_iload_n hx hb dX12_outcome_63 rfl (lv_at hl 1 rfl) ?_
            refine ri_iconst hx hb dX12_outcome_64 ?_
            refine ri_iconst hx hb dX12_outcome_65 ?_
            obtain ⟨r12, h12, h⟩ := bd_some h
            refine rc_V (w2 := [(a_t, .inr (11, [.ref a_t_tape, .ref a_t_out, .ref a_t_reader, .ref a_t_stock, .ref a_t_rows, .ref a_t_pure, .ref a_t_bands, .ref a_t_best, .ref a_t_drawn, .ref a_t_drawnPure, .ref a_t_inferred, .ref a_t_decisions, .ref a_t_acts, .ref t_empty, .ref a_t_months, .ref a_t_spread, spV t_sp a_sp, .ref t_latest, .int (kI t_kept), .int (kI r12.1)])), (a_t_decisions, .inr (2, [.ref a_t_decisions_score, .ref a_t_decisions_choice, .ref a_t_decisions_advice, .ref a_t_decisions_result, .ref a_t_decisions_learntBy, .int (kI t_decisions_size), .int (kI t_decisions_learns)])), (a_t_decisions_score, cAI G 40 t_decisions_score), (a_t_decisions_choice, cAI G 40 t_decisions_choice), (a_t_decisions_advice, cAI G 40 t_decisions_advice), (a_t_decisions_result, cAI G 40 (uP t_decisions_result x1 x2)), (a_t_decisions_learntBy, cAI G 40 t_decisions_learntBy), (a_t_acts, .inr (0, [.ref a_t_acts_kind, .ref a_t_acts_first, .ref a_t_acts_second, .ref a_t_acts_third, .int (kI r12.2.1)])), (a_t_acts_kind, cAI G 10 r12.2.2.1), (a_t_acts_first, cAI G 10 r12.2.2.2.1), (a_t_acts_second, cAI G 10 r12.2.2.2.2.1), (a_t_acts_third, cAI G 10 r12.2.2.2.2.2)]) hw [0, 7, 8, 9, 10, 11] [1, 2, 3, 4, 5, 6] [6, 0, 1, 2, 3, 4, 5, 7, 8, 9, 10, 11] (rr_V cx hw (c_X12_acted l G S H.size N a_t a_t_acts a_t_acts_kind a_t_acts_first a_t_acts_second a_t_acts_third a_t_tape a_t_out a_t_reader a_t_stock a_t_rows a_t_pure a_t_bands a_t_best a_t_drawn a_t_drawnPure a_t_inferred a_t_decisions a_t_months a_t_spread a_sp t_empty t_latest t_kept t_settled t_acts_size t_acts_kind t_acts_first t_acts_second t_acts_third t_sp 5 x1 0 0 _ h12) mv_X12_412 [0, 7, 8, 9, 10, 11] rfl rfl rfl 0 rfl rfl ⟨Nat.le_of_ble_eq_true rfl, Nat.le_of_ble_eq_true rfl⟩ rfl hl.1 rfl (Nat.le_of_ble_eq_true rfl) dX12_outcome_66 ⟨Nat.le_of_ble_eq_true rfl, Nat.le_of_ble_eq_true rfl⟩) rfl rfl rfl rfl rfl rfl rfl rfl (fun H locs hw => ?_)
            refine ri_iconst hx hb dX12_outcome_69 ?_
            obtain rfl := so_inj h
            exact re_i hx hb hlk hr cx hw (Nat.le_of_ble_eq_true rfl) (Nat.le_of_ble_eq_true rfl) dX12_outcome_70
          · have h := it_neg c11 h
            refine ri_bipush hx hb dX12_outcome_48 rfl ?_
            obtain rfl := so_inj h
            exact re_i hx hb hlk hr cx hw (Nat.le_of_ble_eq_true rfl) (Nat.le_of_ble_eq_true rfl) dX12_outcome_50
      · have h := it_neg c6 h
        refine ri_bipush hx hb dX12_outcome_20 rfl ?_
        obtain rfl := so_inj h
        exact re_i hx hb hlk hr cx hw (Nat.le_of_ble_eq_true rfl) (Nat.le_of_ble_eq_true rfl) dX12_outcome_22
