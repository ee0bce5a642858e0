set_option maxHeartbeats 4000000 in
set_option maxRecDepth 100000 in
theorem w_X12_costs_b59 {p : Program} {l : Launch} {e : Env} {s : State} {m : MethodId} {args : Array Value} {below : List Frame} {meth : Method} {c : Code} {A : Nat → Prop} {G : GG} {S : SM} (cx : CX p s m args c cX12_costs RX12 4 G S A) (hlk : meth.locks = false) (hr : meth.sig.returnType = some .int) (N : Nat) (a_t a_t_stock a_t_stock_good a_t_stock_bad a_t_stock_open a_t_acts a_t_acts_kind a_t_acts_first a_t_acts_second a_t_acts_third a_t_tape a_t_out a_t_reader a_t_rows a_t_pure a_t_bands a_t_best a_t_drawn a_t_drawnPure a_t_inferred a_t_decisions a_t_months a_t_spread a_sp : Nat) (t_empty : Nat) (t_latest : Nat) (t_kept : Int) (t_stock_least : Int) (t_stock_most : Int) (t_stock_good : Int → Int) (t_stock_bad : Int → Int) (t_stock_open : Int → Int) (t_sp : Int) (x1 : Int) (x2 : Int) (x3 : Int) (r : Int × Int × Int × Int × Int × Int × (Int → Int) × (Int → Int) × (Int → Int) × (Int → Int)) : ∀ (t_settled : Int) (t_stock_goodCost : Int) (t_stock_badCost : Int) (t_stock_referCost : Int) (t_acts_size : Int) (t_acts_kind : Int → Int) (t_acts_first : Int → Int) (t_acts_second : Int → Int) (t_acts_third : Int → Int), m_X12_costs_b59 N x1 x2 x3 t_settled t_stock_goodCost t_stock_badCost t_stock_referCost t_acts_size t_acts_kind t_acts_first t_acts_second t_acts_third = some r → ∀ (H : Heap) (locs : List Loc) (ls : Array Slot), HP G A s.heap H locs [(a_t, .inr (11, [.ref a_t_tape, .ref a_t_out, .ref a_t_reader, .ref a_t_stock, .ref a_t_rows, .ref a_t_pure, .ref a_t_bands, .ref a_t_best, .ref a_t_drawn, .ref a_t_drawnPure, .ref a_t_inferred, .ref a_t_decisions, .ref a_t_acts, .ref t_empty, .ref a_t_months, .ref a_t_spread, spV t_sp a_sp, .ref t_latest, .int (kI t_kept), .int (kI t_settled)])), (a_t_stock, .inr (5, [.ref a_t_stock_good, .ref a_t_stock_bad, .ref a_t_stock_open, .int (kI t_stock_least), .int (kI t_stock_most), .int (kI t_stock_goodCost), .int (kI t_stock_badCost), .int (kI t_stock_referCost)])), (a_t_stock_good, cAI G 1000 t_stock_good), (a_t_stock_bad, cAI G 1000 t_stock_bad), (a_t_stock_open, cAI G 1000 t_stock_open), (a_t_acts, .inr (0, [.ref a_t_acts_kind, .ref a_t_acts_first, .ref a_t_acts_second, .ref a_t_acts_third, .int (kI t_acts_size)])), (a_t_acts_kind, cAI G 10 t_acts_kind), (a_t_acts_first, cAI G 10 t_acts_first), (a_t_acts_second, cAI G 10 t_acts_second), (a_t_acts_third, cAI G 10 t_acts_third)] → lv_has ls 4 [(0, .ref a_t), (1, .int (kI x1)), (2, .int (kI x2)), (3, .int (kI x3))] → W p l e (rmD 4 0 0) s m args below meth c H locs 0 0 (MQ below (QcI G A r.1 [(a_t, .inr (11, [.ref a_t_tape, .ref a_t_out, .ref a_t_reader, .ref a_t_stock, .ref a_t_rows, .ref a_t_pure, .ref a_t_bands, .ref a_t_best, .ref a_t_drawn, .ref a_t_drawnPure, .ref a_t_inferred, .ref a_t_decisions, .ref a_t_acts, .ref t_empty, .ref a_t_months, .ref a_t_spread, spV t_sp a_sp, .ref t_latest, .int (kI t_kept), .int (kI r.2.1)])), (a_t_stock, .inr (5, [.ref a_t_stock_good, .ref a_t_stock_bad, .ref a_t_stock_open, .int (kI t_stock_least), .int (kI t_stock_most), .int (kI r.2.2.1), .int (kI r.2.2.2.1), .int (kI r.2.2.2.2.1)])), (a_t_stock_good, cAI G 1000 t_stock_good), (a_t_stock_bad, cAI G 1000 t_stock_bad), (a_t_stock_open, cAI G 1000 t_stock_open), (a_t_acts, .inr (0, [.ref a_t_acts_kind, .ref a_t_acts_first, .ref a_t_acts_second, .ref a_t_acts_third, .int (kI r.2.2.2.2.2.1)])), (a_t_acts_kind, cAI G 10 r.2.2.2.2.2.2.1), (a_t_acts_first, cAI G 10 r.2.2.2.2.2.2.2.1), (a_t_acts_second, cAI G 10 r.2.2.2.2.2.2.2.2.1), (a_t_acts_third, cAI G 10 r.2.2.2.2.2.2.2.2.2)]) args s (rmD 4 0 0).cells (rmD 4 0 0).slots A) (F0 m 59 ls []) := by
  intro t_settled t_stock_goodCost t_stock_badCost t_stock_referCost t_acts_size t_acts_kind t_acts_first t_acts_second t_acts_third h H locs ls hw hl
  rw [m_X12_costs_b59] at h
  obtain ⟨⟨hx, hb, -, -, -⟩, -⟩ := id cx
  refine lv_aload_n hx hb dX12_costs_59 rfl (lv_at hl 0 rfl) ?_
  refine ri_iconst hx hb dX12_costs_60 ?_
  refine lv_aload_n hx hb dX12_costs_61 rfl (lv_at hl 0 rfl) ?_
  refine rf_get hx hb cx hw 0 rfl rfl 3 inX12 (by decide) fl_X12_33 rfl rfl dX12_costs_62 ?_
  refine rf_get hx hb cx hw 1 rfl rfl 5 inX6 (by decide) fl_X12_169 rfl rfl dX12_costs_65 ?_
  refine lv_aload_n hx hb dX12_costs_68 rfl (lv_at hl 0 rfl) ?_
  refine rf_get hx hb cx hw 0 rfl rfl 3 inX12 (by decide) fl_X12_33 rfl rfl dX12_costs_69 ?_
  refine rf_get hx hb cx hw 1 rfl rfl 6 inX6 (by decide) fl_X12_172 rfl rfl dX12_costs_72 ?_
  refine lv_aload_n hx hb dX12_costs_75 rfl (lv_at hl 0 rfl) ?_
  refine rf_get hx hb cx hw 0 rfl rfl 3 inX12 (by decide) fl_X12_33 rfl rfl dX12_costs_76 ?_
  refine rf_get hx hb cx hw 1 rfl rfl 7 inX6 (by decide) fl_X12_175 rfl rfl dX12_costs_79 ?_
  obtain ⟨r1, h1, h⟩ := bd_some h
  refine rc_V (w2 := [(a_t, .inr (11, [.ref a_t_tape, .ref a_t_out, .ref a_t_reader, .ref a_t_stock, .ref a_t_rows, .ref a_t_pure, .ref a_t_bands, .ref a_t_best, .ref a_t_drawn, .ref a_t_drawnPure, .ref a_t_inferred, .ref a_t_decisions, .ref a_t_acts, .ref t_empty, .ref a_t_months, .ref a_t_spread, spV t_sp a_sp, .ref t_latest, .int (kI t_kept), .int (kI r1.1)])), (a_t_stock, .inr (5, [.ref a_t_stock_good, .ref a_t_stock_bad, .ref a_t_stock_open, .int (kI t_stock_least), .int (kI t_stock_most), .int (kI t_stock_goodCost), .int (kI t_stock_badCost), .int (kI t_stock_referCost)])), (a_t_stock_good, cAI G 1000 t_stock_good), (a_t_stock_bad, cAI G 1000 t_stock_bad), (a_t_stock_open, cAI G 1000 t_stock_open), (a_t_acts, .inr (0, [.ref a_t_acts_kind, .ref a_t_acts_first, .ref a_t_acts_second, .ref a_t_acts_third, .int (kI r1.2.1)])), (a_t_acts_kind, cAI G 10 r1.2.2.1), (a_t_acts_first, cAI G 10 r1.2.2.2.1), (a_t_acts_second, cAI G 10 r1.2.2.2.2.1), (a_t_acts_third, cAI G 10 r1.2.2.2.2.2)]) hw [0, 5, 6, 7, 8, 9] [1, 2, 3, 4] [4, 0, 1, 2, 3, 5, 6, 7, 8, 9] (rr_V cx hw (c_X12_acted l G S H.size N a_t a_t_acts a_t_acts_kind a_t_acts_first a_t_acts_second a_t_acts_third a_t_tape a_t_out a_t_reader a_t_stock a_t_rows a_t_pure a_t_bands a_t_best a_t_drawn a_t_drawnPure a_t_inferred a_t_decisions a_t_months a_t_spread a_sp t_empty t_latest t_kept t_settled t_acts_size t_acts_kind t_acts_first t_acts_second t_acts_third t_sp 3 t_stock_goodCost t_stock_badCost t_stock_referCost _ h1) mv_X12_412 [0, 5, 6, 7, 8, 9] rfl rfl rfl 0 rfl rfl ⟨Nat.le_of_ble_eq_true rfl, Nat.le_of_ble_eq_true rfl⟩ rfl hl.1 rfl (Nat.le_of_ble_eq_true rfl) dX12_costs_82 ⟨Nat.le_of_ble_eq_true rfl, Nat.le_of_ble_eq_true rfl⟩) rfl rfl rfl rfl rfl rfl rfl rfl (fun H locs hw => ?_)
  refine lv_aload_n hx hb dX12_costs_85 rfl (lv_at hl 0 rfl) ?_
  refine rf_get hx hb cx hw 0 rfl rfl 3 inX12 (by decide) fl_X12_33 rfl rfl dX12_costs_86 ?_
  refine lv_iload_n hx hb dX12_costs_89 rfl (lv_at hl 1 rfl) ?_
  refine lv_iload_n hx hb dX12_costs_90 rfl (lv_at hl 2 rfl) ?_
  refine lv_iload_n hx hb dX12_costs_91 rfl (lv_at hl 3 rfl) ?_
  obtain ⟨r2, h2, h⟩ := bd_some h
  refine rc_V (w2 := [(a_t, .inr (11, [.ref a_t_tape, .ref a_t_out, .ref a_t_reader, .ref a_t_stock, .ref a_t_rows, .ref a_t_pure, .ref a_t_bands, .ref a_t_best, .ref a_t_drawn, .ref a_t_drawnPure, .ref a_t_inferred, .ref a_t_decisions, .ref a_t_acts, .ref t_empty, .ref a_t_months, .ref a_t_spread, spV t_sp a_sp, .ref t_latest, .int (kI t_kept), .int (kI r1.1)])), (a_t_stock, .inr (5, [.ref a_t_stock_good, .ref a_t_stock_bad, .ref a_t_stock_open, .int (kI t_stock_least), .int (kI t_stock_most), .int (kI r2.1), .int (kI r2.2.1), .int (kI r2.2.2)])), (a_t_stock_good, cAI G 1000 t_stock_good), (a_t_stock_bad, cAI G 1000 t_stock_bad), (a_t_stock_open, cAI G 1000 t_stock_open), (a_t_acts, .inr (0, [.ref a_t_acts_kind, .ref a_t_acts_first, .ref a_t_acts_second, .ref a_t_acts_third, .int (kI r1.2.1)])), (a_t_acts_kind, cAI G 10 r1.2.2.1), (a_t_acts_first, cAI G 10 r1.2.2.2.1), (a_t_acts_second, cAI G 10 r1.2.2.2.2.1), (a_t_acts_third, cAI G 10 r1.2.2.2.2.2)]) hw [1, 2, 3, 4] [0, 5, 6, 7, 8, 9] [0, 6, 7, 8, 9, 1, 2, 3, 4, 5] (rr_V cx hw (c_X6_setCosts l G S H.size N a_t_stock a_t_stock_good a_t_stock_bad a_t_stock_open t_stock_least t_stock_most t_stock_goodCost t_stock_badCost t_stock_referCost t_stock_good t_stock_bad t_stock_open x1 x2 x3 _ h2) mv_X12_463 [1, 2, 3, 4] rfl rfl rfl 1 rfl rfl ⟨Nat.le_of_ble_eq_true rfl, Nat.le_of_ble_eq_true rfl⟩ rfl hl.1 rfl (Nat.le_of_ble_eq_true rfl) dX12_costs_92 ⟨Nat.le_of_ble_eq_true rfl, Nat.le_of_ble_eq_true rfl⟩) rfl rfl rfl rfl rfl rfl rfl rfl (fun H locs hw => ?_)
  refine ri_iconst hx hb dX12_costs_95 ?_
  obtain rfl := so_inj h
  exact re_i hx hb hlk hr cx hw (Nat.le_of_ble_eq_true rfl) (Nat.le_of_ble_eq_true rfl) dX12_costs_96
set_option maxHeartbeats 4000000 in
set_option maxRecDepth 100000 in
theorem c_X12_costs (l : Launch) (G : GG) (S : SM) (sz : Nat) (N : Nat) (a_t a_t_stock a_t_stock_good a_t_stock_bad a_t_stock_open a_t_acts a_t_acts_kind a_t_acts_first a_t_acts_second a_t_acts_third a_t_tape a_t_out a_t_reader a_t_rows a_t_pure a_t_bands a_t_best a_t_drawn a_t_drawnPure a_t_inferred a_t_decisions a_t_months a_t_spread a_sp : Nat) (t_empty : Nat) (t_latest : Nat) (t_kept : Int) (t_settled : Int) (t_stock_least : Int) (t_stock_most : Int) (t_stock_goodCost : Int) (t_stock_badCost : Int) (t_stock_referCost : Int) (t_stock_good : Int → Int) (t_stock_bad : Int → Int) (t_stock_open : Int → Int) (t_acts_size : Int) (t_acts_kind : Int → Int) (t_acts_first : Int → Int) (t_acts_second : Int → Int) (t_acts_third : Int → Int) (t_sp : Int) (x1 : Int) (x2 : Int) (x3 : Int) (r : Int × Int × Int × Int × Int × Int × (Int → Int) × (Int → Int) × (Int → Int) × (Int → Int)) (h : m_X12_costs N t_settled t_stock_goodCost t_stock_badCost t_stock_referCost t_acts_size t_acts_kind t_acts_first t_acts_second t_acts_third x1 x2 x3 = some r) : CtI l yX12_costs cX12_costs 4 .int (rmD 4 0 0) G S sz [.ref a_t, .int (kI x1), .int (kI x2), .int (kI x3)] [(a_t, .inr (11, [.ref a_t_tape, .ref a_t_out, .ref a_t_reader, .ref a_t_stock, .ref a_t_rows, .ref a_t_pure, .ref a_t_bands, .ref a_t_best, .ref a_t_drawn, .ref a_t_drawnPure, .ref a_t_inferred, .ref a_t_decisions, .ref a_t_acts, .ref t_empty, .ref a_t_months, .ref a_t_spread, spV t_sp a_sp, .ref t_latest, .int (kI t_kept), .int (kI t_settled)])), (a_t_stock, .inr (5, [.ref a_t_stock_good, .ref a_t_stock_bad, .ref a_t_stock_open, .int (kI t_stock_least), .int (kI t_stock_most), .int (kI t_stock_goodCost), .int (kI t_stock_badCost), .int (kI t_stock_referCost)])), (a_t_stock_good, cAI G 1000 t_stock_good), (a_t_stock_bad, cAI G 1000 t_stock_bad), (a_t_stock_open, cAI G 1000 t_stock_open), (a_t_acts, .inr (0, [.ref a_t_acts_kind, .ref a_t_acts_first, .ref a_t_acts_second, .ref a_t_acts_third, .int (kI t_acts_size)])), (a_t_acts_kind, cAI G 10 t_acts_kind), (a_t_acts_first, cAI G 10 t_acts_first), (a_t_acts_second, cAI G 10 t_acts_second), (a_t_acts_third, cAI G 10 t_acts_third)] r.1 [(a_t, .inr (11, [.ref a_t_tape, .ref a_t_out, .ref a_t_reader, .ref a_t_stock, .ref a_t_rows, .ref a_t_pure, .ref a_t_bands, .ref a_t_best, .ref a_t_drawn, .ref a_t_drawnPure, .ref a_t_inferred, .ref a_t_decisions, .ref a_t_acts, .ref t_empty, .ref a_t_months, .ref a_t_spread, spV t_sp a_sp, .ref t_latest, .int (kI t_kept), .int (kI r.2.1)])), (a_t_stock, .inr (5, [.ref a_t_stock_good, .ref a_t_stock_bad, .ref a_t_stock_open, .int (kI t_stock_least), .int (kI t_stock_most), .int (kI r.2.2.1), .int (kI r.2.2.2.1), .int (kI r.2.2.2.2.1)])), (a_t_stock_good, cAI G 1000 t_stock_good), (a_t_stock_bad, cAI G 1000 t_stock_bad), (a_t_stock_open, cAI G 1000 t_stock_open), (a_t_acts, .inr (0, [.ref a_t_acts_kind, .ref a_t_acts_first, .ref a_t_acts_second, .ref a_t_acts_third, .int (kI r.2.2.2.2.2.1)])), (a_t_acts_kind, cAI G 10 r.2.2.2.2.2.2.1), (a_t_acts_first, cAI G 10 r.2.2.2.2.2.2.2.1), (a_t_acts_second, cAI G 10 r.2.2.2.2.2.2.2.2.1), (a_t_acts_third, cAI G 10 r.2.2.2.2.2.2.2.2.2)] := by
  refine met_I (by decide +kernel) (Nat.le_of_ble_eq_true rfl) ?_
  intro p e s m args below meth c A H locs ls cx hw hr hlk hnm hl
  have hl : lv_has ls 4 [(0, .ref a_t), (1, .int (kI x1)), (2, .int (kI x2)), (3, .int (kI x3))] := hl
  rw [m_X12_costs] at h
  obtain ⟨⟨hx, hb, -, -, -⟩, -⟩ := id cx
  refine lv_iload_n hx hb dX12_costs_0 rfl (lv_at hl 1 rfl) ?_
  obtain ⟨r1, h1, h⟩ := bd_some h
  refine rc_I0 (v := r1) hw [] (rr_S cx hw (c_X12_isCost l G S H.size N x1 _ h1) mv_X12_313 [] rfl rfl rfl ⟨Nat.le_of_ble_eq_true rfl, Nat.le_of_ble_eq_true rfl⟩ rfl hl.1 rfl (Nat.le_of_ble_eq_true rfl) dX12_costs_1 ⟨Nat.le_of_ble_eq_true rfl, Nat.le_of_ble_eq_true rfl⟩) rfl rfl (fun H locs hw => ?_)
  obtain ⟨g2, h⟩ := gd_some h
  refine ri_if_eq (tgt := 21) hx hb g2 dX12_costs_4 (by decide) (fun c3 => ?_) (fun c3 => ?_)
  · have h := it_pos c3 h
    refine ri_bipush hx hb dX12_costs_21 rfl ?_
    obtain rfl := so_inj h
    exact re_i hx hb hlk hr cx hw (Nat.le_of_ble_eq_true rfl) (Nat.le_of_ble_eq_true rfl) dX12_costs_23
  · have h := it_neg c3 h
    refine lv_iload_n hx hb dX12_costs_7 rfl (lv_at hl 2 rfl) ?_
    obtain ⟨r4, h4, h⟩ := bd_some h
    refine rc_I0 (v := r4) hw [] (rr_S cx hw (c_X12_isCost l G S H.size N x2 _ h4) mv_X12_313 [] rfl rfl rfl ⟨Nat.le_of_ble_eq_true rfl, Nat.le_of_ble_eq_true rfl⟩ rfl hl.1 rfl (Nat.le_of_ble_eq_true rfl) dX12_costs_8 ⟨Nat.le_of_ble_eq_true rfl, Nat.le_of_ble_eq_true rfl⟩) rfl rfl (fun H locs hw => ?_)
    obtain ⟨g5, h⟩ := gd_some h
    refine ri_if_eq (tgt := 21) hx hb g5 dX12_costs_11 (by decide) (fun c6 => ?_) (fun c6 => ?_)
    · have h := it_pos c6 h
      refine ri_bipush hx hb dX12_costs_21 rfl ?_
      obtain rfl := so_inj h
      exact re_i hx hb hlk hr cx hw (Nat.le_of_ble_eq_true rfl) (Nat.le_of_ble_eq_true rfl) dX12_costs_23
    · have h := it_neg c6 h
      refine lv_iload_n hx hb dX12_costs_14 rfl (lv_at hl 3 rfl) ?_
      obtain ⟨r7, h7, h⟩ := bd_some h
      refine rc_I0 (v := r7) hw [] (rr_S cx hw (c_X12_isCost l G S H.size N x3 _ h7) mv_X12_313 [] rfl rfl rfl ⟨Nat.le_of_ble_eq_true rfl, Nat.le_of_ble_eq_true rfl⟩ rfl hl.1 rfl (Nat.le_of_ble_eq_true rfl) dX12_costs_15 ⟨Nat.le_of_ble_eq_true rfl, Nat.le_of_ble_eq_true rfl⟩) rfl rfl (fun H locs hw => ?_)
      obtain ⟨g8, h⟩ := gd_some h
      refine ri_if_ne (tgt := 24) hx hb g8 dX12_costs_18 (by decide) (fun c9 => ?_) (fun c9 => ?_)
      · have h := it_pos c9 h
        refine ri_bipush hx hb dX12_costs_21 rfl ?_
        obtain rfl := so_inj h
        exact re_i hx hb hlk hr cx hw (Nat.le_of_ble_eq_true rfl) (Nat.le_of_ble_eq_true rfl) dX12_costs_23
      · have h := it_neg c9 h
        refine lv_iload_n hx hb dX12_costs_24 rfl (lv_at hl 1 rfl) ?_
        refine lv_aload_n hx hb dX12_costs_25 rfl (lv_at hl 0 rfl) ?_
        refine rf_get hx hb cx hw 0 rfl rfl 3 inX12 (by decide) fl_X12_33 rfl rfl dX12_costs_26 ?_
        refine rf_get hx hb cx hw 1 rfl rfl 5 inX6 (by decide) fl_X12_169 rfl rfl dX12_costs_29 ?_
        obtain ⟨g10, h⟩ := gd_some h
        obtain ⟨g11, h⟩ := gd_some h
        refine ri_icmp_ne (tgt := 59) hx hb g10 g11 dX12_costs_32 (by decide) (fun c12 => ?_) (fun c12 => ?_)
        · have h := it_pos c12 h
          refine lv_iload_n hx hb dX12_costs_35 rfl (lv_at hl 2 rfl) ?_
          refine lv_aload_n hx hb dX12_costs_36 rfl (lv_at hl 0 rfl) ?_
          refine rf_get hx hb cx hw 0 rfl rfl 3 inX12 (by decide) fl_X12_33 rfl rfl dX12_costs_37 ?_
          refine rf_get hx hb cx hw 1 rfl rfl 6 inX6 (by decide) fl_X12_172 rfl rfl dX12_costs_40 ?_
          obtain ⟨g13, h⟩ := gd_some h
          obtain ⟨g14, h⟩ := gd_some h
          refine ri_icmp_ne (tgt := 59) hx hb g13 g14 dX12_costs_43 (by decide) (fun c15 => ?_) (fun c15 => ?_)
          · have h := it_pos c15 h
            refine lv_iload_n hx hb dX12_costs_46 rfl (lv_at hl 3 rfl) ?_
            refine lv_aload_n hx hb dX12_costs_47 rfl (lv_at hl 0 rfl) ?_
            refine rf_get hx hb cx hw 0 rfl rfl 3 inX12 (by decide) fl_X12_33 rfl rfl dX12_costs_48 ?_
            refine rf_get hx hb cx hw 1 rfl rfl 7 inX6 (by decide) fl_X12_175 rfl rfl dX12_costs_51 ?_
            obtain ⟨g16, h⟩ := gd_some h
            obtain ⟨g17, h⟩ := gd_some h
            refine ri_icmp_ne (tgt := 59) hx hb g16 g17 dX12_costs_54 (by decide) (fun c18 => ?_) (fun c18 => ?_)
            · have h := it_pos c18 h
              refine ri_iconst hx hb dX12_costs_57 ?_
              obtain rfl := so_inj h
              exact re_i hx hb hlk hr cx hw (Nat.le_of_ble_eq_true rfl) (Nat.le_of_ble_eq_true rfl) dX12_costs_58
            · have h := it_neg c18 h
              exact w_X12_costs_b59 cx hlk hr N a_t a_t_stock a_t_stock_good a_t_stock_bad a_t_stock_open a_t_acts a_t_acts_kind a_t_acts_first a_t_acts_second a_t_acts_third a_t_tape a_t_out a_t_reader a_t_rows a_t_pure a_t_bands a_t_best a_t_drawn a_t_drawnPure a_t_inferred a_t_decisions a_t_months a_t_spread a_sp t_empty t_latest t_kept t_stock_least t_stock_most t_stock_good t_stock_bad t_stock_open t_sp x1 x2 x3 r t_settled t_stock_goodCost t_stock_badCost t_stock_referCost t_acts_size t_acts_kind t_acts_first t_acts_second t_acts_third h _ _ _ hw (lv_sub hl [0, 1, 2, 3] rfl)
          · have h := it_neg c15 h
            exact w_X12_costs_b59 cx hlk hr N a_t a_t_stock a_t_stock_good a_t_stock_bad a_t_stock_open a_t_acts a_t_acts_kind a_t_acts_first a_t_acts_second a_t_acts_third a_t_tape a_t_out a_t_reader a_t_rows a_t_pure a_t_bands a_t_best a_t_drawn a_t_drawnPure a_t_inferred a_t_decisions a_t_months a_t_spread a_sp t_empty t_latest t_kept t_stock_least t_stock_most t_stock_good t_stock_bad t_stock_open t_sp x1 x2 x3 r t_settled t_stock_goodCost t_stock_badCost t_stock_referCost t_acts_size t_acts_kind t_acts_first t_acts_second t_acts_third h _ _ _ hw (lv_sub hl [0, 1, 2, 3] rfl)
        · have h := it_neg c12 h
          exact w_X12_costs_b59 cx hlk hr N a_t a_t_stock a_t_stock_good a_t_stock_bad a_t_stock_open a_t_acts a_t_acts_kind a_t_acts_first a_t_acts_second a_t_acts_third a_t_tape a_t_out a_t_reader a_t_rows a_t_pure a_t_bands a_t_best a_t_drawn a_t_drawnPure a_t_inferred a_t_decisions a_t_months a_t_spread a_sp t_empty t_latest t_kept t_stock_least t_stock_most t_stock_good t_stock_bad t_stock_open t_sp x1 x2 x3 r t_settled t_stock_goodCost t_stock_badCost t_stock_referCost t_acts_size t_acts_kind t_acts_first t_acts_second t_acts_third h _ _ _ hw (lv_sub hl [0, 1, 2, 3] rfl)
