set_option maxHeartbeats 4000000 in
set_option maxRecDepth 100000 in
theorem w_X12_isMonth_b16 {p : Program} {l : Launch} {e : Env} {s : State} {m : MethodId} {args : Array Value} {below : List Frame} {meth : Method} {c : Code} {A : Nat → Prop} {G : GG} {S : SM} (cx : CX p s m args c cX12_isMonth RX12 2 G S A) (hlk : meth.locks = false) (hr : meth.sig.returnType = some .boolean) (N : Nat) (a_t a_t_tape a_t_out a_t_reader a_t_stock a_t_rows a_t_pure a_t_bands a_t_best a_t_drawn a_t_drawnPure a_t_inferred a_t_decisions a_t_acts a_t_months a_t_spread a_sp : Nat) (t_empty : Nat) (t_latest : Nat) (t_kept : Int) (t_settled : Int) (t_sp : Int) (x1 : Int) (r : Int) : m_X12_isMonth_b16 N t_kept x1 = some r → ∀ (H : Heap) (locs : List Loc) (ls : Array Slot), HP G A s.heap H locs [(a_t, .inr (11, [.ref a_t_tape, .ref a_t_out, .ref a_t_reader, .ref a_t_stock, .ref a_t_rows, .ref a_t_pure, .ref a_t_bands, .ref a_t_best, .ref a_t_drawn, .ref a_t_drawnPure, .ref a_t_inferred, .ref a_t_decisions, .ref a_t_acts, .ref t_empty, .ref a_t_months, .ref a_t_spread, spV t_sp a_sp, .ref t_latest, .int (kI t_kept), .int (kI t_settled)]))] → lv_has ls 2 [] → W p l e (rmD 1 0 0) s m args below meth c H locs 0 0 (MQ below (QcI G A r [(a_t, .inr (11, [.ref a_t_tape, .ref a_t_out, .ref a_t_reader, .ref a_t_stock, .ref a_t_rows, .ref a_t_pure, .ref a_t_bands, .ref a_t_best, .ref a_t_drawn, .ref a_t_drawnPure, .ref a_t_inferred, .ref a_t_decisions, .ref a_t_acts, .ref t_empty, .ref a_t_months, .ref a_t_spread, spV t_sp a_sp, .ref t_latest, .int (kI t_kept), .int (kI t_settled)]))]) args s (rmD 1 0 0).cells (rmD 1 0 0).slots A) (F0 m 16 ls []) := by
  intro  h H locs ls hw hl
  rw [m_X12_isMonth_b16] at h
  obtain ⟨⟨hx, hb, -, -, -⟩, -⟩ := id cx
  refine ri_iconst hx hb dX12_isMonth_16 ?_
  obtain rfl := so_inj h
  exact re_z (Or.inl rfl)  hx hb hlk hr cx hw (Nat.le_of_ble_eq_true rfl) (Nat.le_of_ble_eq_true rfl) dX12_isMonth_17
set_option maxHeartbeats 4000000 in
set_option maxRecDepth 100000 in
theorem c_X12_isMonth (l : Launch) (G : GG) (S : SM) (sz : Nat) (N : Nat) (a_t a_t_tape a_t_out a_t_reader a_t_stock a_t_rows a_t_pure a_t_bands a_t_best a_t_drawn a_t_drawnPure a_t_inferred a_t_decisions a_t_acts a_t_months a_t_spread a_sp : Nat) (t_empty : Nat) (t_latest : Nat) (t_kept : Int) (t_settled : Int) (t_sp : Int) (x1 : Int) (r : Int) (h : m_X12_isMonth N t_kept x1 = some r) : CtI l yX12_isMonth cX12_isMonth 2 .boolean (rmD 1 0 0) G S sz [.ref a_t, .int (kI x1)] [(a_t, .inr (11, [.ref a_t_tape, .ref a_t_out, .ref a_t_reader, .ref a_t_stock, .ref a_t_rows, .ref a_t_pure, .ref a_t_bands, .ref a_t_best, .ref a_t_drawn, .ref a_t_drawnPure, .ref a_t_inferred, .ref a_t_decisions, .ref a_t_acts, .ref t_empty, .ref a_t_months, .ref a_t_spread, spV t_sp a_sp, .ref t_latest, .int (kI t_kept), .int (kI t_settled)]))] r [(a_t, .inr (11, [.ref a_t_tape, .ref a_t_out, .ref a_t_reader, .ref a_t_stock, .ref a_t_rows, .ref a_t_pure, .ref a_t_bands, .ref a_t_best, .ref a_t_drawn, .ref a_t_drawnPure, .ref a_t_inferred, .ref a_t_decisions, .ref a_t_acts, .ref t_empty, .ref a_t_months, .ref a_t_spread, spV t_sp a_sp, .ref t_latest, .int (kI t_kept), .int (kI t_settled)]))] := by
  refine met_I (by decide +kernel) (Nat.le_of_ble_eq_true rfl) ?_
  intro p e s m args below meth c A H locs ls cx hw hr hlk hnm hl
  have hl : lv_has ls 2 [(0, .ref a_t), (1, .int (kI x1))] := hl
  rw [m_X12_isMonth] at h
  obtain ⟨⟨hx, hb, -, -, -⟩, -⟩ := id cx
  refine lv_iload_n hx hb dX12_isMonth_0 rfl (lv_at hl 1 rfl) ?_
  obtain ⟨g1, h⟩ := gd_some h
  refine ri_if_lt (tgt := 16) hx hb g1 dX12_isMonth_1 (by decide) (fun c2 => ?_) (fun c2 => ?_)
  · have h := it_pos c2 h
    exact w_X12_isMonth_b16 cx hlk hr N a_t a_t_tape a_t_out a_t_reader a_t_stock a_t_rows a_t_pure a_t_bands a_t_best a_t_drawn a_t_drawnPure a_t_inferred a_t_decisions a_t_acts a_t_months a_t_spread a_sp t_empty t_latest t_kept t_settled t_sp x1 r  h _ _ _ hw (lv_sub hl [] rfl)
  · have h := it_neg c2 h
    refine lv_iload_n hx hb dX12_isMonth_4 rfl (lv_at hl 1 rfl) ?_
    refine lv_aload_n hx hb dX12_isMonth_5 rfl (lv_at hl 0 rfl) ?_
    refine rf_get hx hb cx hw 0 rfl rfl 18 inX12 (by decide) fl_X12_112 rfl rfl dX12_isMonth_6 ?_
    obtain ⟨g3, h⟩ := gd_some h
    refine ri_icmp_ge (tgt := 16) hx hb g1 g3 dX12_isMonth_9 (by decide) (fun c4 => ?_) (fun c4 => ?_)
    · have h := it_pos c4 h
      exact w_X12_isMonth_b16 cx hlk hr N a_t a_t_tape a_t_out a_t_reader a_t_stock a_t_rows a_t_pure a_t_bands a_t_best a_t_drawn a_t_drawnPure a_t_inferred a_t_decisions a_t_acts a_t_months a_t_spread a_sp t_empty t_latest t_kept t_settled t_sp x1 r  h _ _ _ hw (lv_sub hl [] rfl)
    · have h := it_neg c4 h
      refine ri_iconst hx hb dX12_isMonth_12 ?_
      refine lv_goto (tgt := 17) hx hb dX12_isMonth_13 (by decide) ?_
      obtain rfl := so_inj h
      exact re_z (Or.inr rfl)  hx hb hlk hr cx hw (Nat.le_of_ble_eq_true rfl) (Nat.le_of_ble_eq_true rfl) dX12_isMonth_17
