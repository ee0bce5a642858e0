set_option maxHeartbeats 4000000 in
set_option maxRecDepth 100000 in
theorem w_X12_adds_b34 {p : Program} {l : Launch} {e : Env} {s : State} {m : MethodId} {args : Array Value} {below : List Frame} {meth : Method} {c : Code} {A : Nat → Prop} {G : GG} {S : SM} (cx : CX p s m args c cX12_adds RX12 4 G S A) (hlk : meth.locks = false) (hr : meth.sig.returnType = some .int) (N : Nat) (a_t a_t_stock a_t_stock_good a_t_stock_bad a_t_stock_open a_t_acts a_t_acts_kind a_t_acts_first a_t_acts_second a_t_acts_third a_t_tape a_t_out a_t_reader a_t_rows a_t_pure a_t_bands a_t_best a_t_drawn a_t_drawnPure a_t_inferred a_t_decisions a_t_months a_t_spread a_sp : Nat) (t_empty : Nat) (t_latest : Nat) (t_kept : Int) (t_stock_least : Int) (t_stock_most : Int) (t_stock_goodCost : Int) (t_stock_badCost : Int) (t_stock_referCost : Int) (t_stock_open : Int → Int) (t_sp : Int) (x1 : Int) (x2 : Int) (x3 : Int) (r : Int × Int × (Int → Int) × (Int → Int) × Int × (Int → Int) × (Int → Int) × (Int → Int) × (Int → Int)) : ∀ (t_settled : Int) (t_stock_good : Int → Int) (t_stock_bad : Int → Int) (t_acts_size : Int) (t_acts_kind : Int → Int) (t_acts_first : Int → Int) (t_acts_second : Int → Int) (t_acts_third : Int → Int), m_X12_adds_b34 N x1 x2 x3 t_settled t_stock_good t_stock_bad t_acts_size t_acts_kind t_acts_first t_acts_second t_acts_third = some r → ∀ (H : Heap) (locs : List Loc) (ls : Array Slot), HP G A s.heap H locs [(a_t, .inr (11, [.ref a_t_tape, .ref a_t_out, .ref a_t_reader, .ref a_t_stock, .ref a_t_rows, .ref a_t_pure, .ref a_t_bands, .ref a_t_best, .ref a_t_drawn, .ref a_t_drawnPure, .ref a_t_inferred, .ref a_t_decisions, .ref a_t_acts, .ref t_empty, .ref a_t_months, .ref a_t_spread, spV t_sp a_sp, .ref t_latest, .int (kI t_kept), .int (kI t_settled)])), (a_t_stock, .inr (5, [.ref a_t_stock_good, .ref a_t_stock_bad, .ref a_t_stock_open, .int (kI t_stock_least), .int (kI t_stock_most), .int (kI t_stock_goodCost), .int (kI t_stock_badCost), .int (kI t_stock_referCost)])), (a_t_stock_good, cAI G 1000 t_stock_good), (a_t_stock_bad, cAI G 1000 t_stock_bad), (a_t_stock_open, cAI G 1000 t_stock_open), (a_t_acts, .inr (0, [.ref a_t_acts_kind, .ref a_t_acts_first, .ref a_t_acts_second, .ref a_t_acts_third, .int (kI t_acts_size)])), (a_t_acts_kind, cAI G 10 t_acts_kind), (a_t_acts_first, cAI G 10 t_acts_first), (a_t_acts_second, cAI G 10 t_acts_second), (a_t_acts_third, cAI G 10 t_acts_third)] → lv_has ls 4 [(0, .ref a_t), (1, .int (kI x1)), (2, .int (kI x2)), (3, .int (kI x3))] → W p l e (rmD 4 0 0) s m args below meth c H locs 0 0 (MQ below (QcI G A r.1 [(a_t, .inr (11, [.ref a_t_tape, .ref a_t_out, .ref a_t_reader, .ref a_t_stock, .ref a_t_rows, .ref a_t_pure, .ref a_t_bands, .ref a_t_best, .ref a_t_drawn, .ref a_t_drawnPure, .ref a_t_inferred, .ref a_t_decisions, .ref a_t_acts, .ref t_empty, .ref a_t_months, .ref a_t_spread, spV t_sp a_sp, .ref t_latest, .int (kI t_kept), .int (kI r.2.1)])), (a_t_stock, .inr (5, [.ref a_t_stock_good, .ref a_t_stock_bad, .ref a_t_stock_open, .int (kI t_stock_least), .int (kI t_stock_most), .int (kI t_stock_goodCost), .int (kI t_stock_badCost), .int (kI t_stock_referCost)])), (a_t_stock_good, cAI G 1000 r.2.2.1), (a_t_stock_bad, cAI G 1000 r.2.2.2.1), (a_t_stock_open, cAI G 1000 t_stock_open), (a_t_acts, .inr (0, [.ref a_t_acts_kind, .ref a_t_acts_first, .ref a_t_acts_second, .ref a_t_acts_third, .int (kI r.2.2.2.2.1)])), (a_t_acts_kind, cAI G 10 r.2.2.2.2.2.1), (a_t_acts_first, cAI G 10 r.2.2.2.2.2.2.1), (a_t_acts_second, cAI G 10 r.2.2.2.2.2.2.2.1), (a_t_acts_third, cAI G 10 r.2.2.2.2.2.2.2.2)]) args s (rmD 4 0 0).cells (rmD 4 0 0).slots A) (F0 m 34 ls []) := by
  intro t_settled t_stock_good t_stock_bad t_acts_size t_acts_kind t_acts_first t_acts_second t_acts_third h H locs ls hw hl
  rw [m_X12_adds_b34] at h
  obtain ⟨⟨hx, hb, -, -, -⟩, -⟩ := id cx
  refine lv_aload_n hx hb dX12_adds_34 rfl (lv_at hl 0 rfl) ?_
  refine rf_get hx hb cx hw 0 rfl rfl 3 inX12 (by decide) fl_X12_33 rfl rfl dX12_adds_35 ?_
  refine lv_iload_n hx hb dX12_adds_38 rfl (lv_at hl 1 rfl) ?_
  refine lv_iload_n hx hb dX12_adds_39 rfl (lv_at hl 2 rfl) ?_
  refine lv_iload_n hx hb dX12_adds_40 rfl (lv_at hl 3 rfl) ?_
  obtain ⟨r1, h1, h⟩ := bd_some h
  refine rc_V (w2 := [(a_t, .inr (11, [.ref a_t_tape, .ref a_t_out, .ref a_t_reader, .ref a_t_stock, .ref a_t_rows, .ref a_t_pure, .ref a_t_bands, .ref a_t_best, .ref a_t_drawn, .ref a_t_drawnPure, .ref a_t_inferred, .ref a_t_decisions, .ref a_t_acts, .ref t_empty, .ref a_t_months, .ref a_t_spread, spV t_sp a_sp, .ref t_latest, .int (kI t_kept), .int (kI t_settled)])), (a_t_stock, .inr (5, [.ref a_t_stock_good, .ref a_t_stock_bad, .ref a_t_stock_open, .int (kI t_stock_least), .int (kI t_stock_most), .int (kI t_stock_goodCost), .int (kI t_stock_badCost), .int (kI t_stock_referCost)])), (a_t_stock_good, cAI G 1000 r1.1), (a_t_stock_bad, cAI G 1000 r1.2), (a_t_stock_open, cAI G 1000 t_stock_open), (a_t_acts, .inr (0, [.ref a_t_acts_kind, .ref a_t_acts_first, .ref a_t_acts_second, .ref a_t_acts_third, .int (kI t_acts_size)])), (a_t_acts_kind, cAI G 10 t_acts_kind), (a_t_acts_first, cAI G 10 t_acts_first), (a_t_acts_second, cAI G 10 t_acts_second), (a_t_acts_third, cAI G 10 t_acts_third)]) hw [1, 2, 3, 4] [0, 5, 6, 7, 8, 9] [0, 6, 7, 8, 9, 1, 2, 3, 4, 5] (rr_V cx hw (c_X6_move l G S H.size N a_t_stock a_t_stock_good a_t_stock_bad a_t_stock_open t_stock_least t_stock_most t_stock_goodCost t_stock_badCost t_stock_referCost t_stock_good t_stock_bad t_stock_open x1 x2 x3 _ h1) mv_X12_457 [1, 2, 3, 4] rfl rfl rfl 1 rfl rfl ⟨Nat.le_of_ble_eq_true rfl, Nat.le_of_ble_eq_true rfl⟩ rfl hl.1 rfl (Nat.le_of_ble_eq_true rfl) dX12_adds_41 ⟨Nat.le_of_ble_eq_true rfl, Nat.le_of_ble_eq_true rfl⟩) rfl rfl rfl rfl rfl rfl rfl rfl (fun H locs hw => ?_)
  refine lv_aload_n hx hb dX12_adds_44 rfl (lv_at hl 0 rfl) ?_
  refine rf_get hx hb cx hw 0 rfl rfl 3 inX12 (by decide) fl_X12_33 rfl rfl dX12_adds_45 ?_
  obtain ⟨r2, h2, h⟩ := bd_some h
  refine rc_I0 (v := r2) hw [1, 2, 3, 4] (rr_V cx hw (c_X6_fits l G S H.size N a_t_stock a_t_stock_good a_t_stock_bad a_t_stock_open t_stock_least t_stock_most t_stock_goodCost t_stock_badCost t_stock_referCost r1.1 r1.2 t_stock_open _ h2) mv_X12_409 [1, 2, 3, 4] rfl rfl rfl 1 rfl rfl ⟨Nat.le_of_ble_eq_true rfl, Nat.le_of_ble_eq_true rfl⟩ rfl hl.1 rfl (Nat.le_of_ble_eq_true rfl) dX12_adds_48 ⟨Nat.le_of_ble_eq_true rfl, Nat.le_of_ble_eq_true rfl⟩) rfl rfl (fun H locs hw => ?_)
  obtain ⟨g3, h⟩ := gd_some h
  refine ri_if_ne (tgt := 69) hx hb g3 dX12_adds_51 (by decide) (fun c4 => ?_) (fun c4 => ?_)
  · have h := it_pos c4 h
    refine lv_aload_n hx hb dX12_adds_54 rfl (lv_at hl 0 rfl) ?_
    refine rf_get hx hb cx hw 0 rfl rfl 3 inX12 (by decide) fl_X12_33 rfl rfl dX12_adds_55 ?_
    refine lv_iload_n hx hb dX12_adds_58 rfl (lv_at hl 1 rfl) ?_
    refine lv_iload_n hx hb dX12_adds_59 rfl (lv_at hl 2 rfl) ?_
    refine ri_ineg hx hb dX12_adds_60 ?_
    refine lv_iload_n hx hb dX12_adds_61 rfl (lv_at hl 3 rfl) ?_
    refine ri_ineg hx hb dX12_adds_62 ?_
    obtain ⟨r5, h5, h⟩ := bd_some h
    refine rc_V (w2 := [(a_t, .inr (11, [.ref a_t_tape, .ref a_t_out, .ref a_t_reader, .ref a_t_stock, .ref a_t_rows, .ref a_t_pure, .ref a_t_bands, .ref a_t_best, .ref a_t_drawn, .ref a_t_drawnPure, .ref a_t_inferred, .ref a_t_decisions, .ref a_t_acts, .ref t_empty, .ref a_t_months, .ref a_t_spread, spV t_sp a_sp, .ref t_latest, .int (kI t_kept), .int (kI t_settled)])), (a_t_stock, .inr (5, [.ref a_t_stock_good, .ref a_t_stock_bad, .ref a_t_stock_open, .int (kI t_stock_least), .int (kI t_stock_most), .int (kI t_stock_goodCost), .int (kI t_stock_badCost), .int (kI t_stock_referCost)])), (a_t_stock_good, cAI G 1000 r5.1), (a_t_stock_bad, cAI G 1000 r5.2), (a_t_stock_open, cAI G 1000 t_stock_open), (a_t_acts, .inr (0, [.ref a_t_acts_kind, .ref a_t_acts_first, .ref a_t_acts_second, .ref a_t_acts_third, .int (kI t_acts_size)])), (a_t_acts_kind, cAI G 10 t_acts_kind), (a_t_acts_first, cAI G 10 t_acts_first), (a_t_acts_second, cAI G 10 t_acts_second), (a_t_acts_third, cAI G 10 t_acts_third)]) hw [1, 2, 3, 4] [0, 5, 6, 7, 8, 9] [0, 6, 7, 8, 9, 1, 2, 3, 4, 5] (rr_V cx hw (c_X6_move l G S H.size N a_t_stock a_t_stock_good a_t_stock_bad a_t_stock_open t_stock_least t_stock_most t_stock_goodCost t_stock_badCost t_stock_referCost r1.1 r1.2 t_stock_open x1 (-x2) (-x3) _ h5) mv_X12_457 [1, 2, 3, 4] rfl rfl rfl 1 rfl rfl ⟨Nat.le_of_ble_eq_true rfl, Nat.le_of_ble_eq_true rfl⟩ rfl hl.1 rfl (Nat.le_of_ble_eq_true rfl) dX12_adds_63 ⟨Nat.le_of_ble_eq_true rfl, Nat.le_of_ble_eq_true rfl⟩) rfl rfl rfl rfl rfl rfl rfl rfl (fun H locs hw => ?_)
    refine ri_bipush hx hb dX12_adds_66 rfl ?_
    obtain rfl := so_inj h
    exact re_i hx hb hlk hr cx hw (Nat.le_of_ble_eq_true rfl) (Nat.le_of_ble_eq_true rfl) dX12_adds_68
  · have h := it_neg c4 h
    refine lv_aload_n hx hb dX12_adds_69 rfl (lv_at hl 0 rfl) ?_
    refine ri_iconst hx hb dX12_adds_70 ?_
    refine lv_iload_n hx hb dX12_adds_71 rfl (lv_at hl 1 rfl) ?_
    refine lv_iload_n hx hb dX12_adds_72 rfl (lv_at hl 2 rfl) ?_
    refine lv_iload_n hx hb dX12_adds_73 rfl (lv_at hl 3 rfl) ?_
    obtain ⟨r6, h6, h⟩ := bd_some h
    refine rc_V (w2 := [(a_t, .inr (11, [.ref a_t_tape, .ref a_t_out, .ref a_t_reader, .ref a_t_stock, .ref a_t_rows, .ref a_t_pure, .ref a_t_bands, .ref a_t_best, .ref a_t_drawn, .ref a_t_drawnPure, .ref a_t_inferred, .ref a_t_decisions, .ref a_t_acts, .ref t_empty, .ref a_t_months, .ref a_t_spread, spV t_sp a_sp, .ref t_latest, .int (kI t_kept), .int (kI r6.1)])), (a_t_stock, .inr (5, [.ref a_t_stock_good, .ref a_t_stock_bad, .ref a_t_stock_open, .int (kI t_stock_least), .int (kI t_stock_most), .int (kI t_stock_goodCost), .int (kI t_stock_badCost), .int (kI t_stock_referCost)])), (a_t_stock_good, cAI G 1000 r1.1), (a_t_stock_bad, cAI G 1000 r1.2), (a_t_stock_open, cAI G 1000 t_stock_open), (a_t_acts, .inr (0, [.ref a_t_acts_kind, .ref a_t_acts_first, .ref a_t_acts_second, .ref a_t_acts_third, .int (kI r6.2.1)])), (a_t_acts_kind, cAI G 10 r6.2.2.1), (a_t_acts_first, cAI G 10 r6.2.2.2.1), (a_t_acts_second, cAI G 10 r6.2.2.2.2.1), (a_t_acts_third, cAI G 10 r6.2.2.2.2.2)]) hw [0, 5, 6, 7, 8, 9] [1, 2, 3, 4] [4, 0, 1, 2, 3, 5, 6, 7, 8, 9] (rr_V cx hw (c_X12_acted l G S H.size N a_t a_t_acts a_t_acts_kind a_t_acts_first a_t_acts_second a_t_acts_third a_t_tape a_t_out a_t_reader a_t_stock a_t_rows a_t_pure a_t_bands a_t_best a_t_drawn a_t_drawnPure a_t_inferred a_t_decisions a_t_months a_t_spread a_sp t_empty t_latest t_kept t_settled t_acts_size t_acts_kind t_acts_first t_acts_second t_acts_third t_sp 1 x1 x2 x3 _ h6) mv_X12_412 [0, 5, 6, 7, 8, 9] rfl rfl rfl 0 rfl rfl ⟨Nat.le_of_ble_eq_true rfl, Nat.le_of_ble_eq_true rfl⟩ rfl hl.1 rfl (Nat.le_of_ble_eq_true rfl) dX12_adds_74 ⟨Nat.le_of_ble_eq_true rfl, Nat.le_of_ble_eq_true rfl⟩) rfl rfl rfl rfl rfl rfl rfl rfl (fun H locs hw => ?_)
    refine ri_iconst hx hb dX12_adds_77 ?_
    obtain rfl := so_inj h
    exact re_i hx hb hlk hr cx hw (Nat.le_of_ble_eq_true rfl) (Nat.le_of_ble_eq_true rfl) dX12_adds_78
set_option maxHeartbeats 4000000 in
set_option maxRecDepth 100000 in
theorem c_X12_adds (l : Launch) (G : GG) (S : SM) (sz : Nat) (N : Nat) (a_t a_t_stock a_t_stock_good a_t_stock_bad a_t_stock_open a_t_acts a_t_acts_kind a_t_acts_first a_t_acts_second a_t_acts_third a_t_tape a_t_out a_t_reader a_t_rows a_t_pure a_t_bands a_t_best a_t_drawn a_t_drawnPure a_t_inferred a_t_decisions a_t_months a_t_spread a_sp : Nat) (t_empty : Nat) (t_latest : Nat) (t_kept : Int) (t_settled : Int) (t_stock_least : Int) (t_stock_most : Int) (t_stock_goodCost : Int) (t_stock_badCost : Int) (t_stock_referCost : Int) (t_stock_good : Int → Int) (t_stock_bad : Int → Int) (t_stock_open : Int → Int) (t_acts_size : Int) (t_acts_kind : Int → Int) (t_acts_first : Int → Int) (t_acts_second : Int → Int) (t_acts_third : Int → Int) (t_sp : Int) (x1 : Int) (x2 : Int) (x3 : Int) (r : Int × Int × (Int → Int) × (Int → Int) × Int × (Int → Int) × (Int → Int) × (Int → Int) × (Int → Int)) (h : m_X12_adds N t_settled t_stock_good t_stock_bad t_acts_size t_acts_kind t_acts_first t_acts_second t_acts_third x1 x2 x3 = some r) : CtI l yX12_adds cX12_adds 4 .int (rmD 4 0 0) G S sz [.ref a_t, .int (kI x1), .int (kI x2), .int (kI x3)] [(a_t, .inr (11, [.ref a_t_tape, .ref a_t_out, .ref a_t_reader, .ref a_t_stock, .ref a_t_rows, .ref a_t_pure, .ref a_t_bands, .ref a_t_best, .ref a_t_drawn, .ref a_t_drawnPure, .ref a_t_inferred, .ref a_t_decisions, .ref a_t_acts, .ref t_empty, .ref a_t_months, .ref a_t_spread, spV t_sp a_sp, .ref t_latest, .int (kI t_kept), .int (kI t_settled)])), (a_t_stock, .inr (5, [.ref a_t_stock_good, .ref a_t_stock_bad, .ref a_t_stock_open, .int (kI t_stock_least), .int (kI t_stock_most), .int (kI t_stock_goodCost), .int (kI t_stock_badCost), .int (kI t_stock_referCost)])), (a_t_stock_good, cAI G 1000 t_stock_good), (a_t_stock_bad, cAI G 1000 t_stock_bad), (a_t_stock_open, cAI G 1000 t_stock_open), (a_t_acts, .inr (0, [.ref a_t_acts_kind, .ref a_t_acts_first, .ref a_t_acts_second, .ref a_t_acts_third, .int (kI t_acts_size)])), (a_t_acts_kind, cAI G 10 t_acts_kind), (a_t_acts_first, cAI G 10 t_acts_first), (a_t_acts_second, cAI G 10 t_acts_second), (a_t_acts_third, cAI G 10 t_acts_third)] r.1 [(a_t, .inr (11, [.ref a_t_tape, .ref a_t_out, .ref a_t_reader, .ref a_t_stock, .ref a_t_rows, .ref a_t_pure, .ref a_t_bands, .ref a_t_best, .ref a_t_drawn, .ref a_t_drawnPure, .ref a_t_inferred, .ref a_t_decisions, .ref a_t_acts, .ref t_empty, .ref a_t_months, .ref a_t_spread, spV t_sp a_sp, .ref t_latest, .int (kI t_kept), .int (kI r.2.1)])), (a_t_stock, .inr (5, [.ref a_t_stock_good, .ref a_t_stock_bad, .ref a_t_stock_open, .int (kI t_stock_least), .int (kI t_stock_most), .int (kI t_stock_goodCost), .int (kI t_stock_badCost), .int (kI t_stock_referCost)])), (a_t_stock_good, cAI G 1000 r.2.2.1), (a_t_stock_bad, cAI G 1000 r.2.2.2.1), (a_t_stock_open, cAI G 1000 t_stock_open), (a_t_acts, .inr (0, [.ref a_t_acts_kind, .ref a_t_acts_first, .ref a_t_acts_second, .ref a_t_acts_third, .int (kI r.2.2.2.2.1)])), (a_t_acts_kind, cAI G 10 r.2.2.2.2.2.1), (a_t_acts_first, cAI G 10 r.2.2.2.2.2.2.1), (a_t_acts_second, cAI G 10 r.2.2.2.2.2.2.2.1), (a_t_acts_third, cAI G 10 r.2.2.2.2.2.2.2.2)] := by
  refine met_I (by decide +kernel) (Nat.le_of_ble_eq_true rfl) ?_
  intro p e s m args below meth c A H locs ls cx hw hr hlk hnm hl
  have hl : lv_has ls 4 [(0, .ref a_t), (1, .int (kI x1)), (2, .int (kI x2)), (3, .int (kI x3))] := hl
  rw [m_X12_adds] at h
  obtain ⟨⟨hx, hb, -, -, -⟩, -⟩ := id cx
  refine lv_iload_n hx hb dX12_adds_0 rfl (lv_at hl 1 rfl) ?_
  obtain ⟨r1, h1, h⟩ := bd_some h
  refine rc_I0 (v := r1) hw [] (rr_S cx hw (c_X12_isScore l G S H.size N x1 _ h1) mv_X12_222 [] rfl rfl rfl ⟨Nat.le_of_ble_eq_true rfl, Nat.le_of_ble_eq_true rfl⟩ rfl hl.1 rfl (Nat.le_of_ble_eq_true rfl) dX12_adds_1 ⟨Nat.le_of_ble_eq_true rfl, Nat.le_of_ble_eq_true rfl⟩) rfl rfl (fun H locs hw => ?_)
  obtain ⟨g2, h⟩ := gd_some h
  refine ri_if_eq (tgt := 21) hx hb g2 dX12_adds_4 (by decide) (fun c3 => ?_) (fun c3 => ?_)
  · have h := it_pos c3 h
    refine ri_bipush hx hb dX12_adds_21 rfl ?_
    obtain rfl := so_inj h
    exact re_i hx hb hlk hr cx hw (Nat.le_of_ble_eq_true rfl) (Nat.le_of_ble_eq_true rfl) dX12_adds_23
  · have h := it_neg c3 h
    refine lv_iload_n hx hb dX12_adds_7 rfl (lv_at hl 2 rfl) ?_
    obtain ⟨r4, h4, h⟩ := bd_some h
    refine rc_I0 (v := r4) hw [] (rr_S cx hw (c_X12_isStep l G S H.size N x2 _ h4) mv_X12_454 [] rfl rfl rfl ⟨Nat.le_of_ble_eq_true rfl, Nat.le_of_ble_eq_true rfl⟩ rfl hl.1 rfl (Nat.le_of_ble_eq_true rfl) dX12_adds_8 ⟨Nat.le_of_ble_eq_true rfl, Nat.le_of_ble_eq_true rfl⟩) rfl rfl (fun H locs hw => ?_)
    obtain ⟨g5, h⟩ := gd_some h
    refine ri_if_eq (tgt := 21) hx hb g5 dX12_adds_11 (by decide) (fun c6 => ?_) (fun c6 => ?_)
    · have h := it_pos c6 h
      refine ri_bipush hx hb dX12_adds_21 rfl ?_
      obtain rfl := so_inj h
      exact re_i hx hb hlk hr cx hw (Nat.le_of_ble_eq_true rfl) (Nat.le_of_ble_eq_true rfl) dX12_adds_23
    · have h := it_neg c6 h
      refine lv_iload_n hx hb dX12_adds_14 rfl (lv_at hl 3 rfl) ?_
      obtain ⟨r7, h7, h⟩ := bd_some h
      refine rc_I0 (v := r7) hw [] (rr_S cx hw (c_X12_isStep l G S H.size N x3 _ h7) mv_X12_454 [] rfl rfl rfl ⟨Nat.le_of_ble_eq_true rfl, Nat.le_of_ble_eq_true rfl⟩ rfl hl.1 rfl (Nat.le_of_ble_eq_true rfl) dX12_adds_15 ⟨Nat.le_of_ble_eq_true rfl, Nat.le_of_ble_eq_true rfl⟩) rfl rfl (fun H locs hw => ?_)
      obtain ⟨g8, h⟩ := gd_some h
      refine ri_if_ne (tgt := 24) hx hb g8 dX12_adds_18 (by decide) (fun c9 => ?_) (fun c9 => ?_)
      · have h := it_pos c9 h
        refine ri_bipush hx hb dX12_adds_21 rfl ?_
        obtain rfl := so_inj h
        exact re_i hx hb hlk hr cx hw (Nat.le_of_ble_eq_true rfl) (Nat.le_of_ble_eq_true rfl) dX12_adds_23
      · have h := it_neg c9 h
        refine lv_iload_n hx hb dX12_adds_24 rfl (lv_at hl 2 rfl) ?_
        obtain ⟨g10, h⟩ := gd_some h
        refine ri_if_ne (tgt := 34) hx hb g10 dX12_adds_25 (by decide) (fun c11 => ?_) (fun c11 => ?_)
        · have h := it_pos c11 h
          refine lv_iload_n hx hb dX12_adds_28 rfl (lv_at hl 3 rfl) ?_
          obtain ⟨g12, h⟩ := gd_some h
          refine ri_if_ne (tgt := 34) hx hb g12 dX12_adds_29 (by decide) (fun c13 => ?_) (fun c13 => ?_)
          · have h := it_pos c13 h
            refine ri_iconst hx hb dX12_adds_32 ?_
            obtain rfl := so_inj h
            exact re_i hx hb hlk hr cx hw (Nat.le_of_ble_eq_true rfl) (Nat.le_of_ble_eq_true rfl) dX12_adds_33
          · have h := it_neg c13 h
            exact w_X12_adds_b34 cx hlk hr N a_t a_t_stock a_t_stock_good a_t_stock_bad a_t_stock_open a_t_acts a_t_acts_kind a_t_acts_first a_t_acts_second a_t_acts_third a_t_tape a_t_out a_t_reader a_t_rows a_t_pure a_t_bands a_t_best a_t_drawn a_t_drawnPure a_t_inferred a_t_decisions a_t_months a_t_spread a_sp t_empty t_latest t_kept t_stock_least t_stock_most t_stock_goodCost t_stock_badCost t_stock_referCost t_stock_open t_sp x1 x2 x3 r t_settled t_stock_good t_stock_bad t_acts_size t_acts_kind t_acts_first t_acts_second t_acts_third h _ _ _ hw (lv_sub hl [0, 1, 2, 3] rfl)
        · have h := it_neg c11 h
          exact w_X12_adds_b34 cx hlk hr N a_t a_t_stock a_t_stock_good a_t_stock_bad a_t_stock_open a_t_acts a_t_acts_kind a_t_acts_first a_t_acts_second a_t_acts_third a_t_tape a_t_out a_t_reader a_t_rows a_t_pure a_t_bands a_t_best a_t_drawn a_t_drawnPure a_t_inferred a_t_decisions a_t_months a_t_spread a_sp t_empty t_latest t_kept t_stock_least t_stock_most t_stock_goodCost t_stock_badCost t_stock_referCost t_stock_open t_sp x1 x2 x3 r t_settled t_stock_good t_stock_bad t_acts_size t_acts_kind t_acts_first t_acts_second t_acts_third h _ _ _ hw (lv_sub hl [0, 1, 2, 3] rfl)
