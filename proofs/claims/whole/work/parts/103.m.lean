set_option maxHeartbeats 4000000 in
set_option maxRecDepth 100000 in
theorem c_X8_greatest (l : Launch) (G : GG) (sz : Nat) (N : Nat) (a_t a_t_score a_t_good a_t_bad a_t_goodAhead a_t_badAhead : Nat) (t_size : Int) (t_score : Int → Int) (t_good : Int → Int) (t_bad : Int → Int) (t_goodAhead : Int → Int) (t_badAhead : Int → Int)  (r : Int) (h : m_X8_greatest N t_size t_score = some r) : CtI l yX8_greatest cX8_greatest 1 .int (rmD 1 0 0) G sz [.ref a_t] [(a_t, .inr (7, [.ref a_t_score, .ref a_t_good, .ref a_t_bad, .ref a_t_goodAhead, .ref a_t_badAhead, .int (kI t_size)])), (a_t_score, cAI G 60 t_score), (a_t_good, cAI G 60 t_good), (a_t_bad, cAI G 60 t_bad), (a_t_goodAhead, cAI G 61 t_goodAhead), (a_t_badAhead, cAI G 61 t_badAhead)] r [(a_t, .inr (7, [.ref a_t_score, .ref a_t_good, .ref a_t_bad, .ref a_t_goodAhead, .ref a_t_badAhead, .int (kI t_size)])), (a_t_score, cAI G 60 t_score), (a_t_good, cAI G 60 t_good), (a_t_bad, cAI G 60 t_bad), (a_t_goodAhead, cAI G 61 t_goodAhead), (a_t_badAhead, cAI G 61 t_badAhead)] := by
  refine met_of (Qc := fun A => QcI G A r [(a_t, .inr (7, [.ref a_t_score, .ref a_t_good, .ref a_t_bad, .ref a_t_goodAhead, .ref a_t_badAhead, .int (kI t_size)])), (a_t_score, cAI G 60 t_score), (a_t_good, cAI G 60 t_good), (a_t_bad, cAI G 60 t_bad), (a_t_goodAhead, cAI G 61 t_goodAhead), (a_t_badAhead, cAI G 61 t_badAhead)]) (by decide +kernel) (Nat.le_of_ble_eq_true rfl) ?_
  intro p e s m args below meth c A H locs ls cx hw hr hlk hnm hl
  have hl : lv_has ls 1 [(0, .ref a_t)] := hl
  rw [m_X8_greatest] at h
  obtain ⟨⟨hx, hb, -, -, -⟩, -⟩ := id cx
  refine lv_aload_n hx hb dX8_greatest_0 rfl (lv_at hl 0 rfl) ?_
  refine rf_get hx hb cx hw 0 rfl rfl 5 inX8 (by decide) fl_X8_27 rfl rfl dX8_greatest_1 ?_
  obtain ⟨g1, h⟩ := gd_some h
  refine ri_if_ne (tgt := 11) hx hb g1 dX8_greatest_4 (by decide) (fun c2 => ?_) (fun c2 => ?_)
  · have h := it_pos c2 h
    refine ri_iconst hx hb dX8_greatest_7 ?_
    refine lv_goto (tgt := 22) hx hb dX8_greatest_8 (by decide) ?_
    obtain rfl := so_inj h
    exact re_i hx hb hlk hr cx hw (Nat.le_of_ble_eq_true rfl) (Nat.le_of_ble_eq_true rfl) dX8_greatest_22
  · have h := it_neg c2 h
    refine lv_aload_n hx hb dX8_greatest_11 rfl (lv_at hl 0 rfl) ?_
    refine rf_get hx hb cx hw 0 rfl rfl 0 inX8 (by decide) fl_X8_9 rfl rfl dX8_greatest_12 ?_
    refine lv_aload_n hx hb dX8_greatest_15 rfl (lv_at hl 0 rfl) ?_
    refine rf_get hx hb cx hw 0 rfl rfl 5 inX8 (by decide) fl_X8_27 rfl rfl dX8_greatest_16 ?_
    refine ri_iconst hx hb dX8_greatest_19 ?_
    refine ri_isub hx hb dX8_greatest_20 ?_
    obtain ⟨g3, h⟩ := gd_some h
    refine ra_i hx hb cx hw 1 rfl (by decide) g3 dX8_greatest_21 ?_
    obtain rfl := so_inj h
    exact re_i hx hb hlk hr cx hw (Nat.le_of_ble_eq_true rfl) (Nat.le_of_ble_eq_true rfl) dX8_greatest_22
set_option maxHeartbeats 4000000 in
set_option maxRecDepth 100000 in
theorem w_X8_below_b2 {p : Program} {l : Launch} {e : Env} {s : State} {m : MethodId} {args : Array Value} {below : List Frame} {meth : Method} {c : Code} {A : Nat → Prop} {G : GG} (cx : CX p s m args c cX8_below RX8 3 G) (hlk : meth.locks = false) (hr : meth.sig.returnType = some .int) (N : Nat) (a_t a_t_score a_t_good a_t_bad a_t_goodAhead a_t_badAhead : Nat) (t_size : Int) (t_score : Int → Int) (t_good : Int → Int) (t_bad : Int → Int) (t_goodAhead : Int → Int) (t_badAhead : Int → Int) (x1 : Int) (r : Int) : ∀ n : Nat, ∀ (y2 : Int), m_X8_below_b2 N t_size t_score x1 n y2 = some r → ∀ (H : Heap) (locs : List Loc) (ls : Array Slot), HP G A s.heap H locs [(a_t, .inr (7, [.ref a_t_score, .ref a_t_good, .ref a_t_bad, .ref a_t_goodAhead, .ref a_t_badAhead, .int (kI t_size)])), (a_t_score, cAI G 60 t_score), (a_t_good, cAI G 60 t_good), (a_t_bad, cAI G 60 t_bad), (a_t_goodAhead, cAI G 61 t_goodAhead), (a_t_badAhead, cAI G 61 t_badAhead)] → lv_has ls 3 [(0, .ref a_t), (1, .int (kI x1)), (2, .int (kI y2))] → W p l e (rmD 1 0 0) s m args below meth c H locs 0 0 (MQ below (QcI G A r [(a_t, .inr (7, [.ref a_t_score, .ref a_t_good, .ref a_t_bad, .ref a_t_goodAhead, .ref a_t_badAhead, .int (kI t_size)])), (a_t_score, cAI G 60 t_score), (a_t_good, cAI G 60 t_good), (a_t_bad, cAI G 60 t_bad), (a_t_goodAhead, cAI G 61 t_goodAhead), (a_t_badAhead, cAI G 61 t_badAhead)]) args s (rmD 1 0 0).cells (rmD 1 0 0).slots A) (F0 m 2 ls []) := by
  intro n
  induction n with
  | zero => intro y2 h; exact nomatch h
  | succ n ih =>
    intro y2 h H locs ls hw hl
    rw [m_X8_below_b2] at h
    obtain ⟨⟨hx, hb, -, -, -⟩, -⟩ := id cx
    refine lv_iload_n hx hb dX8_below_2 rfl (lv_at hl 2 rfl) ?_
    refine lv_aload_n hx hb dX8_below_3 rfl (lv_at hl 0 rfl) ?_
    refine rf_get hx hb cx hw 0 rfl rfl 5 inX8 (by decide) fl_X8_27 rfl rfl dX8_below_4 ?_
    obtain ⟨g1, h⟩ := gd_some h
    obtain ⟨g2, h⟩ := gd_some h
    refine ri_icmp_ge (tgt := 26) hx hb g1 g2 dX8_below_7 (by decide) (fun c3 => ?_) (fun c3 => ?_)
    · have h := it_pos c3 h
      refine lv_iload_n hx hb dX8_below_26 rfl (lv_at hl 2 rfl) ?_
      obtain rfl := so_inj h
      exact re_i hx hb hlk hr cx hw (Nat.le_of_ble_eq_true rfl) (Nat.le_of_ble_eq_true rfl) dX8_below_27
    · have h := it_neg c3 h
      refine lv_aload_n hx hb dX8_below_10 rfl (lv_at hl 0 rfl) ?_
      refine rf_get hx hb cx hw 0 rfl rfl 0 inX8 (by decide) fl_X8_9 rfl rfl dX8_below_11 ?_
      refine lv_iload_n hx hb dX8_below_14 rfl (lv_at hl 2 rfl) ?_
      obtain ⟨g4, h⟩ := gd_some h
      refine ra_i hx hb cx hw 1 rfl (by decide) g4 dX8_below_15 ?_
      refine lv_iload_n hx hb dX8_below_16 rfl (lv_at hl 1 rfl) ?_
      obtain ⟨g5, h⟩ := gd_some h
      obtain ⟨g6, h⟩ := gd_some h
      refine ri_icmp_ge (tgt := 26) hx hb g5 g6 dX8_below_17 (by decide) (fun c7 => ?_) (fun c7 => ?_)
      · have h := it_pos c7 h
        refine lv_iload_n hx hb dX8_below_26 rfl (lv_at hl 2 rfl) ?_
        obtain rfl := so_inj h
        exact re_i hx hb hlk hr cx hw (Nat.le_of_ble_eq_true rfl) (Nat.le_of_ble_eq_true rfl) dX8_below_27
      · have h := it_neg c7 h
        refine lv_iinc (v := kI (y2 + 1)) (lv' := [(2, .int (kI (y2 + 1))), (0, .ref a_t), (1, .int (kI x1))]) hx hb dX8_below_20 hl (k := 2) rfl (kI_add _ _) (by decide) rfl (fun ls hl => ?_)
        refine lv_goto (tgt := 2) hx hb dX8_below_23 (by decide) ?_
        exact ih (y2 + 1) h _ _ _ hw (lv_sub hl [1, 2, 0] rfl)
set_option maxHeartbeats 4000000 in
set_option maxRecDepth 100000 in
theorem c_X8_below (l : Launch) (G : GG) (sz : Nat) (N : Nat) (a_t a_t_score a_t_good a_t_bad a_t_goodAhead a_t_badAhead : Nat) (t_size : Int) (t_score : Int → Int) (t_good : Int → Int) (t_bad : Int → Int) (t_goodAhead : Int → Int) (t_badAhead : Int → Int) (x1 : Int) (r : Int) (h : m_X8_below N t_size t_score x1 = some r) : CtI l yX8_below cX8_below 3 .int (rmD 1 0 0) G sz [.ref a_t, .int (kI x1)] [(a_t, .inr (7, [.ref a_t_score, .ref a_t_good, .ref a_t_bad, .ref a_t_goodAhead, .ref a_t_badAhead, .int (kI t_size)])), (a_t_score, cAI G 60 t_score), (a_t_good, cAI G 60 t_good), (a_t_bad, cAI G 60 t_bad), (a_t_goodAhead, cAI G 61 t_goodAhead), (a_t_badAhead, cAI G 61 t_badAhead)] r [(a_t, .inr (7, [.ref a_t_score, .ref a_t_good, .ref a_t_bad, .ref a_t_goodAhead, .ref a_t_badAhead, .int (kI t_size)])), (a_t_score, cAI G 60 t_score), (a_t_good, cAI G 60 t_good), (a_t_bad, cAI G 60 t_bad), (a_t_goodAhead, cAI G 61 t_goodAhead), (a_t_badAhead, cAI G 61 t_badAhead)] := by
  refine met_of (Qc := fun A => QcI G A r [(a_t, .inr (7, [.ref a_t_score, .ref a_t_good, .ref a_t_bad, .ref a_t_goodAhead, .ref a_t_badAhead, .int (kI t_size)])), (a_t_score, cAI G 60 t_score), (a_t_good, cAI G 60 t_good), (a_t_bad, cAI G 60 t_bad), (a_t_goodAhead, cAI G 61 t_goodAhead), (a_t_badAhead, cAI G 61 t_badAhead)]) (by decide +kernel) (Nat.le_of_ble_eq_true rfl) ?_
  intro p e s m args below meth c A H locs ls cx hw hr hlk hnm hl
  have hl : lv_has ls 3 [(0, .ref a_t), (1, .int (kI x1))] := hl
  rw [m_X8_below] at h
  obtain ⟨⟨hx, hb, -, -, -⟩, -⟩ := id cx
  refine ri_iconst hx hb dX8_below_0 ?_
  refine lv_istore_n (lv' := [(2, .int (kI 0)), (0, .ref a_t), (1, .int (kI x1))]) hx hb dX8_below_1 rfl hl (by decide) rfl (fun ls hl => ?_)
  exact w_X8_below_b2 cx hlk hr N a_t a_t_score a_t_good a_t_bad a_t_goodAhead a_t_badAhead t_size t_score t_good t_bad t_goodAhead t_badAhead x1 r N 0 h _ _ _ hw (lv_sub hl [1, 2, 0] rfl)
set_option maxHeartbeats 4000000 in
set_option maxRecDepth 100000 in
theorem w_X8_scoresTogether_b5 {p : Program} {l : Launch} {e : Env} {s : State} {m : MethodId} {args : Array Value} {below : List Frame} {meth : Method} {c : Code} {A : Nat → Prop} {G : GG} (cx : CX p s m args c cX8_scoresTogether RX8 6 G) (hlk : meth.locks = false) (hr : meth.sig.returnType = some .long) (N : Nat) (a_t a_t_score a_t_good a_t_bad a_t_goodAhead a_t_badAhead : Nat) (t_size : Int) (t_score : Int → Int) (t_good : Int → Int) (t_bad : Int → Int) (t_goodAhead : Int → Int) (t_badAhead : Int → Int) (x1 : Int) (x2 : Int) (r : Int) : ∀ n : Nat, ∀ (y3 : Int) (y5 : Int), m_X8_scoresTogether_b5 N t_size t_score t_good t_bad x1 x2 n y3 y5 = some r → ∀ (H : Heap) (locs : List Loc) (ls : Array Slot), HP G A s.heap H locs [(a_t, .inr (7, [.ref a_t_score, .ref a_t_good, .ref a_t_bad, .ref a_t_goodAhead, .ref a_t_badAhead, .int (kI t_size)])), (a_t_score, cAI G 60 t_score), (a_t_good, cAI G 60 t_good), (a_t_bad, cAI G 60 t_bad), (a_t_goodAhead, cAI G 61 t_goodAhead), (a_t_badAhead, cAI G 61 t_badAhead)] → lv_has ls 6 [(0, .ref a_t), (1, .int (kI x1)), (2, .int (kI x2)), (3, .long (kL y3)), (5, .int (kI y5))] → W p l e (rmD 1 0 0) s m args below meth c H locs 0 0 (MQ below (QcL G A r [(a_t, .inr (7, [.ref a_t_score, .ref a_t_good, .ref a_t_bad, .ref a_t_goodAhead, .ref a_t_badAhead, .int (kI t_size)])), (a_t_score, cAI G 60 t_score), (a_t_good, cAI G 60 t_good), (a_t_bad, cAI G 60 t_bad), (a_t_goodAhead, cAI G 61 t_goodAhead), (a_t_badAhead, cAI G 61 t_badAhead)]) args s (rmD 1 0 0).cells (rmD 1 0 0).slots A) (F0 m 5 ls []) := by
  intro n
  induction n with
  | zero => intro y3 y5 h; exact nomatch h
  | succ n ih =>
    intro y3 y5 h H locs ls hw hl
    rw [m_X8_scoresTogether_b5] at h
    obtain ⟨⟨hx, hb, -, -, -⟩, -⟩ := id cx
    refine lv_iload hx hb dX8_scoresTogether_5 (lv_at hl 4 rfl) ?_
    refine lv_aload_n hx hb dX8_scoresTogether_7 rfl (lv_at hl 0 rfl) ?_
    refine rf_get hx hb cx hw 0 rfl rfl 5 inX8 (by decide) fl_X8_27 rfl rfl dX8_scoresTogether_8 ?_
    obtain ⟨g1, h⟩ := gd_some h
    obtain ⟨g2, h⟩ := gd_some h
    refine ri_icmp_ge (tgt := 52) hx hb g1 g2 dX8_scoresTogether_11 (by decide) (fun c3 => ?_) (fun c3 => ?_)
    · have h := it_pos c3 h
      refine lv_lload_n hx hb dX8_scoresTogether_52 rfl (lv_at hl 3 rfl) ?_
      obtain rfl := so_inj h
      exact re_l hx hb hlk hr cx hw (Nat.le_of_ble_eq_true rfl) (Nat.le_of_ble_eq_true rfl) dX8_scoresTogether_53
    · have h := it_neg c3 h
      refine lv_lload_n hx hb dX8_scoresTogether_14 rfl (lv_at hl 3 rfl) ?_
      refine lv_aload_n hx hb dX8_scoresTogether_15 rfl (lv_at hl 0 rfl) ?_
      refine rf_get hx hb cx hw 0 rfl rfl 0 inX8 (by decide) fl_X8_9 rfl rfl dX8_scoresTogether_16 ?_
      refine lv_iload hx hb dX8_scoresTogether_19 (lv_at hl 4 rfl) ?_
      obtain ⟨g4, h⟩ := gd_some h
      refine ra_i hx hb cx hw 1 rfl (by decide) g4 dX8_scoresTogether_21 ?_
      obtain ⟨g5, h⟩ := gd_some h
      refine ri_i2l hx hb g5 dX8_scoresTogether_22 ?_
      refine lv_iload_n hx hb dX8_scoresTogether_23 rfl (lv_at hl 1 rfl) ?_
      refine lv_aload_n hx hb dX8_scoresTogether_24 rfl (lv_at hl 0 rfl) ?_
      refine rf_get hx hb cx hw 0 rfl rfl 1 inX8 (by decide) fl_X8_15 rfl rfl dX8_scoresTogether_25 ?_
      refine lv_iload hx hb dX8_scoresTogether_28 (lv_at hl 4 rfl) ?_
      refine ra_i hx hb cx hw 2 rfl (by decide) g4 dX8_scoresTogether_30 ?_
      refine ri_imul hx hb dX8_scoresTogether_31 ?_
      refine lv_iload_n hx hb dX8_scoresTogether_32 rfl (lv_at hl 2 rfl) ?_
      refine lv_aload_n hx hb dX8_scoresTogether_33 rfl (lv_at hl 0 rfl) ?_
      refine rf_get hx hb cx hw 0 rfl rfl 2 inX8 (by decide) fl_X8_18 rfl rfl dX8_scoresTogether_34 ?_
      refine lv_iload hx hb dX8_scoresTogether_37 (lv_at hl 4 rfl) ?_
      refine ra_i hx hb cx hw 3 rfl (by decide) g4 dX8_scoresTogether_39 ?_
      refine ri_imul hx hb dX8_scoresTogether_40 ?_
      refine ri_iadd hx hb dX8_scoresTogether_41 ?_
      obtain ⟨g6, h⟩ := gd_some h
      refine ri_i2l hx hb g6 dX8_scoresTogether_42 ?_
      refine ri_lmul hx hb dX8_scoresTogether_43 ?_
      refine ri_ladd hx hb dX8_scoresTogether_44 ?_
      refine lv_lstore_n (lv' := [(3, .long (kL (y3 + ((t_score y5) * ((x1 * (t_good y5)) + (x2 * (t_bad y5))))))), (0, .ref a_t), (1, .int (kI x1)), (2, .int (kI x2)), (5, .int (kI y5))]) hx hb dX8_scoresTogether_45 rfl hl (by decide) rfl (fun ls hl => ?_)
      refine lv_iinc (v := kI (y5 + 1)) (lv' := [(5, .int (kI (y5 + 1))), (3, .long (kL (y3 + ((t_score y5) * ((x1 * (t_good y5)) + (x2 * (t_bad y5))))))), (0, .ref a_t), (1, .int (kI x1)), (2, .int (kI x2))]) hx hb dX8_scoresTogether_46 hl (k := 4) rfl (kI_add _ _) (by decide) rfl (fun ls hl => ?_)
      refine lv_goto (tgt := 5) hx hb dX8_scoresTogether_49 (by decide) ?_
      exact ih (y3 + ((t_score y5) * ((x1 * (t_good y5)) + (x2 * (t_bad y5))))) (y5 + 1) h _ _ _ hw (lv_sub hl [2, 3, 4, 1, 0] rfl)
set_option maxHeartbeats 4000000 in
set_option maxRecDepth 100000 in
theorem c_X8_scoresTogether (l : Launch) (G : GG) (sz : Nat) (N : Nat) (a_t a_t_score a_t_good a_t_bad a_t_goodAhead a_t_badAhead : Nat) (t_size : Int) (t_score : Int → Int) (t_good : Int → Int) (t_bad : Int → Int) (t_goodAhead : Int → Int) (t_badAhead : Int → Int) (x1 : Int) (x2 : Int) (r : Int) (h : m_X8_scoresTogether N t_size t_score t_good t_bad x1 x2 = some r) : CtL l yX8_scoresTogether cX8_scoresTogether 6 (rmD 1 0 0) G sz [.ref a_t, .int (kI x1), .int (kI x2)] [(a_t, .inr (7, [.ref a_t_score, .ref a_t_good, .ref a_t_bad, .ref a_t_goodAhead, .ref a_t_badAhead, .int (kI t_size)])), (a_t_score, cAI G 60 t_score), (a_t_good, cAI G 60 t_good), (a_t_bad, cAI G 60 t_bad), (a_t_goodAhead, cAI G 61 t_goodAhead), (a_t_badAhead, cAI G 61 t_badAhead)] r [(a_t, .inr (7, [.ref a_t_score, .ref a_t_good, .ref a_t_bad, .ref a_t_goodAhead, .ref a_t_badAhead, .int (kI t_size)])), (a_t_score, cAI G 60 t_score), (a_t_good, cAI G 60 t_good), (a_t_bad, cAI G 60 t_bad), (a_t_goodAhead, cAI G 61 t_goodAhead), (a_t_badAhead, cAI G 61 t_badAhead)] := by
  refine met_of (Qc := fun A => QcL G A r [(a_t, .inr (7, [.ref a_t_score, .ref a_t_good, .ref a_t_bad, .ref a_t_goodAhead, .ref a_t_badAhead, .int (kI t_size)])), (a_t_score, cAI G 60 t_score), (a_t_good, cAI G 60 t_good), (a_t_bad, cAI G 60 t_bad), (a_t_goodAhead, cAI G 61 t_goodAhead), (a_t_badAhead, cAI G 61 t_badAhead)]) (by decide +kernel) (Nat.le_of_ble_eq_true rfl) ?_
  intro p e s m args below meth c A H locs ls cx hw hr hlk hnm hl
  have hl : lv_has ls 6 [(0, .ref a_t), (1, .int (kI x1)), (2, .int (kI x2))] := hl
  rw [m_X8_scoresTogether] at h
  obtain ⟨⟨hx, hb, -, -, -⟩, -⟩ := id cx
  refine ri_lconst hx hb 0 dX8_scoresTogether_0 rfl ?_
  refine lv_lstore_n (lv' := [(3, .long (kL 0)), (0, .ref a_t), (1, .int (kI x1)), (2, .int (kI x2))]) hx hb dX8_scoresTogether_1 rfl hl (by decide) rfl (fun ls hl => ?_)
  refine ri_iconst hx hb dX8_scoresTogether_2 ?_
  refine lv_istore (lv' := [(5, .int (kI 0)), (3, .long (kL 0)), (0, .ref a_t), (1, .int (kI x1)), (2, .int (kI x2))]) hx hb dX8_scoresTogether_3 hl (by decide) rfl (fun ls hl => ?_)
  exact w_X8_scoresTogether_b5 cx hlk hr N a_t a_t_score a_t_good a_t_bad a_t_goodAhead a_t_badAhead t_size t_score t_good t_bad t_goodAhead t_badAhead x1 x2 r N 0 0 h _ _ _ hw (lv_sub hl [2, 3, 4, 1, 0] rfl)
set_option maxHeartbeats 4000000 in
set_option maxRecDepth 100000 in
theorem w_X8_halvesInOrder_b4 {p : Program} {l : Launch} {e : Env} {s : State} {m : MethodId} {args : Array Value} {below : List Frame} {meth : Method} {c : Code} {A : Nat → Prop} {G : GG} (cx : CX p s m args c cX8_halvesInOrder RX8 4 G) (hlk : meth.locks = false) (hr : meth.sig.returnType = some .long) (N : Nat) (a_t a_t_score a_t_good a_t_bad a_t_goodAhead a_t_badAhead : Nat) (t_size : Int) (t_score : Int → Int) (t_good : Int → Int) (t_bad : Int → Int) (t_goodAhead : Int → Int) (t_badAhead : Int → Int) (r : Int) : ∀ n : Nat, ∀ (y1 : Int) (y3 : Int), m_X8_halvesInOrder_b4 N t_size t_good t_bad t_badAhead n y1 y3 = some r → ∀ (H : Heap) (locs : List Loc) (ls : Array Slot), HP G A s.heap H locs [(a_t, .inr (7, [.ref a_t_score, .ref a_t_good, .ref a_t_bad, .ref a_t_goodAhead, .ref a_t_badAhead, .int (kI t_size)])), (a_t_score, cAI G 60 t_score), (a_t_good, cAI G 60 t_good), (a_t_bad, cAI G 60 t_bad), (a_t_goodAhead, cAI G 61 t_goodAhead), (a_t_badAhead, cAI G 61 t_badAhead)] → lv_has ls 4 [(0, .ref a_t), (1, .long (kL y1)), (3, .int (kI y3))] → W p l e (rmD 1 0 0) s m args below meth c H locs 0 0 (MQ below (QcL G A r [(a_t, .inr (7, [.ref a_t_score, .ref a_t_good, .ref a_t_bad, .ref a_t_goodAhead, .ref a_t_badAhead, .int (kI t_size)])), (a_t_score, cAI G 60 t_score), (a_t_good, cAI G 60 t_good), (a_t_bad, cAI G 60 t_bad), (a_t_goodAhead, cAI G 61 t_goodAhead), (a_t_badAhead, cAI G 61 t_badAhead)]) args s (rmD 1 0 0).cells (rmD 1 0 0).slots A) (F0 m 4 ls []) := by
  intro n
  induction n with
  | zero => intro y1 y3 h; exact nomatch h
  | succ n ih =>
    intro y1 y3 h H locs ls hw hl
    rw [m_X8_halvesInOrder_b4] at h
    obtain ⟨⟨hx, hb, -, -, -⟩, -⟩ := id cx
    refine lv_iload_n hx hb dX8_halvesInOrder_4 rfl (lv_at hl 2 rfl) ?_
    refine lv_aload_n hx hb dX8_halvesInOrder_5 rfl (lv_at hl 0 rfl) ?_
    refine rf_get hx hb cx hw 0 rfl rfl 5 inX8 (by decide) fl_X8_27 rfl rfl dX8_halvesInOrder_6 ?_
    obtain ⟨g1, h⟩ := gd_some h
    obtain ⟨g2, h⟩ := gd_some h
    refine ri_icmp_ge (tgt := 45) hx hb g1 g2 dX8_halvesInOrder_9 (by decide) (fun c3 => ?_) (fun c3 => ?_)
    · have h := it_pos c3 h
      refine lv_lload_n hx hb dX8_halvesInOrder_45 rfl (lv_at hl 1 rfl) ?_
      obtain rfl := so_inj h
      exact re_l hx hb hlk hr cx hw (Nat.le_of_ble_eq_true rfl) (Nat.le_of_ble_eq_true rfl) dX8_halvesInOrder_46
    · have h := it_neg c3 h
      refine lv_lload_n hx hb dX8_halvesInOrder_12 rfl (lv_at hl 1 rfl) ?_
      refine lv_aload_n hx hb dX8_halvesInOrder_13 rfl (lv_at hl 0 rfl) ?_
      refine rf_get hx hb cx hw 0 rfl rfl 1 inX8 (by decide) fl_X8_15 rfl rfl dX8_halvesInOrder_14 ?_
      refine lv_iload_n hx hb dX8_halvesInOrder_17 rfl (lv_at hl 2 rfl) ?_
      obtain ⟨g4, h⟩ := gd_some h
      refine ra_i hx hb cx hw 2 rfl (by decide) g4 dX8_halvesInOrder_18 ?_
      obtain ⟨g5, h⟩ := gd_some h
      refine ri_i2l hx hb g5 dX8_halvesInOrder_19 ?_
      refine ri_iconst hx hb dX8_halvesInOrder_20 ?_
      refine lv_aload_n hx hb dX8_halvesInOrder_21 rfl (lv_at hl 0 rfl) ?_
      refine rf_get hx hb cx hw 0 rfl rfl 4 inX8 (by decide) fl_X8_24 rfl rfl dX8_halvesInOrder_22 ?_
      refine lv_iload_n hx hb dX8_halvesInOrder_25 rfl (lv_at hl 2 rfl) ?_
      obtain ⟨g6, h⟩ := gd_some h
      refine ra_i hx hb cx hw 5 rfl (by decide) g6 dX8_halvesInOrder_26 ?_
      refine ri_imul hx hb dX8_halvesInOrder_27 ?_
      refine lv_aload_n hx hb dX8_halvesInOrder_28 rfl (lv_at hl 0 rfl) ?_
      refine rf_get hx hb cx hw 0 rfl rfl 2 inX8 (by decide) fl_X8_18 rfl rfl dX8_halvesInOrder_29 ?_
      refine lv_iload_n hx hb dX8_halvesInOrder_32 rfl (lv_at hl 2 rfl) ?_
      refine ra_i hx hb cx hw 3 rfl (by decide) g4 dX8_halvesInOrder_33 ?_
      refine ri_iadd hx hb dX8_halvesInOrder_34 ?_
      obtain ⟨g7, h⟩ := gd_some h
      refine ri_i2l hx hb g7 dX8_halvesInOrder_35 ?_
      refine ri_lmul hx hb dX8_halvesInOrder_36 ?_
      refine ri_ladd hx hb dX8_halvesInOrder_37 ?_
      refine lv_lstore_n (lv' := [(1, .long (kL (y1 + ((t_good y3) * ((2 * (t_badAhead y3)) + (t_bad y3)))))), (0, .ref a_t), (3, .int (kI y3))]) hx hb dX8_halvesInOrder_38 rfl hl (by decide) rfl (fun ls hl => ?_)
      refine lv_iinc (v := kI (y3 + 1)) (lv' := [(3, .int (kI (y3 + 1))), (1, .long (kL (y1 + ((t_good y3) * ((2 * (t_badAhead y3)) + (t_bad y3)))))), (0, .ref a_t)]) hx hb dX8_halvesInOrder_39 hl (k := 2) rfl (kI_add _ _) (by decide) rfl (fun ls hl => ?_)
      refine lv_goto (tgt := 4) hx hb dX8_halvesInOrder_42 (by decide) ?_
      exact ih (y1 + ((t_good y3) * ((2 * (t_badAhead y3)) + (t_bad y3)))) (y3 + 1) h _ _ _ hw (lv_sub hl [2, 1, 0] rfl)
set_option maxHeartbeats 4000000 in
set_option maxRecDepth 100000 in
theorem c_X8_halvesInOrder (l : Launch) (G : GG) (sz : Nat) (N : Nat) (a_t a_t_score a_t_good a_t_bad a_t_goodAhead a_t_badAhead : Nat) (t_size : Int) (t_score : Int → Int) (t_good : Int → Int) (t_bad : Int → Int) (t_goodAhead : Int → Int) (t_badAhead : Int → Int)  (r : Int) (h : m_X8_halvesInOrder N t_size t_good t_bad t_badAhead = some r) : CtL l yX8_halvesInOrder cX8_halvesInOrder 4 (rmD 1 0 0) G sz [.ref a_t] [(a_t, .inr (7, [.ref a_t_score, .ref a_t_good, .ref a_t_bad, .ref a_t_goodAhead, .ref a_t_badAhead, .int (kI t_size)])), (a_t_score, cAI G 60 t_score), (a_t_good, cAI G 60 t_good), (a_t_bad, cAI G 60 t_bad), (a_t_goodAhead, cAI G 61 t_goodAhead), (a_t_badAhead, cAI G 61 t_badAhead)] r [(a_t, .inr (7, [.ref a_t_score, .ref a_t_good, .ref a_t_bad, .ref a_t_goodAhead, .ref a_t_badAhead, .int (kI t_size)])), (a_t_score, cAI G 60 t_score), (a_t_good, cAI G 60 t_good), (a_t_bad, cAI G 60 t_bad), (a_t_goodAhead, cAI G 61 t_goodAhead), (a_t_badAhead, cAI G 61 t_badAhead)] := by
  refine met_of (Qc := fun A => QcL G A r [(a_t, .inr (7, [.ref a_t_score, .ref a_t_good, .ref a_t_bad, .ref a_t_goodAhead, .ref a_t_badAhead, .int (kI t_size)])), (a_t_score, cAI G 60 t_score), (a_t_good, cAI G 60 t_good), (a_t_bad, cAI G 60 t_bad), (a_t_goodAhead, cAI G 61 t_goodAhead), (a_t_badAhead, cAI G 61 t_badAhead)]) (by decide +kernel) (Nat.le_of_ble_eq_true rfl) ?_
  intro p e s m args below meth c A H locs ls cx hw hr hlk hnm hl
  have hl : lv_has ls 4 [(0, .ref a_t)] := hl
  rw [m_X8_halvesInOrder] at h
  obtain ⟨⟨hx, hb, -, -, -⟩, -⟩ := id cx
  refine ri_lconst hx hb 0 dX8_halvesInOrder_0 rfl ?_
  refine lv_lstore_n (lv' := [(1, .long (kL 0)), (0, .ref a_t)]) hx hb dX8_halvesInOrder_1 rfl hl (by decide) rfl (fun ls hl => ?_)
  refine ri_iconst hx hb dX8_halvesInOrder_2 ?_
  refine lv_istore_n (lv' := [(3, .int (kI 0)), (1, .long (kL 0)), (0, .ref a_t)]) hx hb dX8_halvesInOrder_3 rfl hl (by decide) rfl (fun ls hl => ?_)
  exact w_X8_halvesInOrder_b4 cx hlk hr N a_t a_t_score a_t_good a_t_bad a_t_goodAhead a_t_badAhead t_size t_score t_good t_bad t_goodAhead t_badAhead r N 0 0 h _ _ _ hw (lv_sub hl [2, 1, 0] rfl)
set_option maxHeartbeats 4000000 in
set_option maxRecDepth 100000 in
theorem c_X8_apart (l : Launch) (G : GG) (sz : Nat) (N : Nat) (a_t a_t_score a_t_good a_t_bad a_t_goodAhead a_t_badAhead : Nat) (t_size : Int) (t_score : Int → Int) (t_good : Int → Int) (t_bad : Int → Int) (t_goodAhead : Int → Int) (t_badAhead : Int → Int) (x1 : Int) (r : Int) (h : m_X8_apart N t_size t_goodAhead t_badAhead x1 = some r) : CtL l yX8_apart cX8_apart 2 (rmD 2 0 0) G sz [.ref a_t, .int (kI x1)] [(a_t, .inr (7, [.ref a_t_score, .ref a_t_good, .ref a_t_bad, .ref a_t_goodAhead, .ref a_t_badAhead, .int (kI t_size)])), (a_t_score, cAI G 60 t_score), (a_t_good, cAI G 60 t_good), (a_t_bad, cAI G 60 t_bad), (a_t_goodAhead, cAI G 61 t_goodAhead), (a_t_badAhead, cAI G 61 t_badAhead)] r [(a_t, .inr (7, [.ref a_t_score, .ref a_t_good, .ref a_t_bad, .ref a_t_goodAhead, .ref a_t_badAhead, .int (kI t_size)])), (a_t_score, cAI G 60 t_score), (a_t_good, cAI G 60 t_good), (a_t_bad, cAI G 60 t_bad), (a_t_goodAhead, cAI G 61 t_goodAhead), (a_t_badAhead, cAI G 61 t_badAhead)] := by
  refine met_of (Qc := fun A => QcL G A r [(a_t, .inr (7, [.ref a_t_score, .ref a_t_good, .ref a_t_bad, .ref a_t_goodAhead, .ref a_t_badAhead, .int (kI t_size)])), (a_t_score, cAI G 60 t_score), (a_t_good, cAI G 60 t_good), (a_t_bad, cAI G 60 t_bad), (a_t_goodAhead, cAI G 61 t_goodAhead), (a_t_badAhead, cAI G 61 t_badAhead)]) (by decide +kernel) (Nat.le_of_ble_eq_true rfl) ?_
  intro p e s m args below meth c A H locs ls cx hw hr hlk hnm hl
  have hl : lv_has ls 2 [(0, .ref a_t), (1, .int (kI x1))] := hl
  rw [m_X8_apart] at h
  obtain ⟨⟨hx, hb, -, -, -⟩, -⟩ := id cx
  refine lv_aload_n hx hb dX8_apart_0 rfl (lv_at hl 0 rfl) ?_
  refine rf_get hx hb cx hw 0 rfl rfl 3 inX8 (by decide) fl_X8_21 rfl rfl dX8_apart_1 ?_
  refine lv_iload_n hx hb dX8_apart_4 rfl (lv_at hl 1 rfl) ?_
  refine ri_iconst hx hb dX8_apart_5 ?_
  refine ri_iadd hx hb dX8_apart_6 ?_
  obtain ⟨g1, h⟩ := gd_some h
  refine ra_i hx hb cx hw 4 rfl (by decide) g1 dX8_apart_7 ?_
  obtain ⟨g2, h⟩ := gd_some h
  refine ri_i2l hx hb g2 dX8_apart_8 ?_
  refine lv_aload_n hx hb dX8_apart_9 rfl (lv_at hl 0 rfl) ?_
  obtain ⟨r3, h3, h⟩ := bd_some h
  refine rc_I0 (v := r3) hw [0, 1, 2, 3, 4, 5] (rr_V cx hw (c_X8_bads l G H.size N a_t a_t_score a_t_good a_t_bad a_t_goodAhead a_t_badAhead t_size t_score t_good t_bad t_goodAhead t_badAhead _ h3) mv_X8_66 [0, 1, 2, 3, 4, 5] rfl rfl rfl 0 rfl rfl ⟨Nat.le_of_ble_eq_true rfl, Nat.le_of_ble_eq_true rfl⟩ rfl hl.1 rfl (Nat.le_of_ble_eq_true rfl) dX8_apart_10 ⟨Nat.le_of_ble_eq_true rfl, Nat.le_of_ble_eq_true rfl⟩) rfl rfl (fun H locs hw => ?_)
  obtain ⟨g4, h⟩ := gd_some h
  refine ri_i2l hx hb g4 dX8_apart_13 ?_
  refine ri_lmul hx hb dX8_apart_14 ?_
  refine lv_aload_n hx hb dX8_apart_15 rfl (lv_at hl 0 rfl) ?_
  refine rf_get hx hb cx hw 0 rfl rfl 4 inX8 (by decide) fl_X8_24 rfl rfl dX8_apart_16 ?_
  refine lv_iload_n hx hb dX8_apart_19 rfl (lv_at hl 1 rfl) ?_
  refine ri_iconst hx hb dX8_apart_20 ?_
  refine ri_iadd hx hb dX8_apart_21 ?_
  refine ra_i hx hb cx hw 5 rfl (by decide) g1 dX8_apart_22 ?_
  obtain ⟨g5, h⟩ := gd_some h
  refine ri_i2l hx hb g5 dX8_apart_23 ?_
  refine lv_aload_n hx hb dX8_apart_24 rfl (lv_at hl 0 rfl) ?_
  obtain ⟨r6, h6, h⟩ := bd_some h
  refine rc_I0 (v := r6) hw [0, 1, 2, 3, 4, 5] (rr_V cx hw (c_X8_goods l G H.size N a_t a_t_score a_t_good a_t_bad a_t_goodAhead a_t_badAhead t_size t_score t_good t_bad t_goodAhead t_badAhead _ h6) mv_X8_63 [0, 1, 2, 3, 4, 5] rfl rfl rfl 0 rfl rfl ⟨Nat.le_of_ble_eq_true rfl, Nat.le_of_ble_eq_true rfl⟩ rfl hl.1 rfl (Nat.le_of_ble_eq_true rfl) dX8_apart_25 ⟨Nat.le_of_ble_eq_true rfl, Nat.le_of_ble_eq_true rfl⟩) rfl rfl (fun H locs hw => ?_)
  obtain ⟨g7, h⟩ := gd_some h
  refine ri_i2l hx hb g7 dX8_apart_28 ?_
  refine ri_lmul hx hb dX8_apart_29 ?_
  refine ri_lsub hx hb dX8_apart_30 ?_
  obtain ⟨g8, h⟩ := gd_some h
  refine rj_absL g8 hx hb cx hl.1 jl_X8_75 (Nat.le_of_ble_eq_true rfl) (Nat.le_of_ble_eq_true rfl) (Nat.le_of_ble_eq_true rfl) (Nat.le_of_ble_eq_true rfl) dX8_apart_31 ?_
  obtain rfl := so_inj h
  exact re_l hx hb hlk hr cx hw (Nat.le_of_ble_eq_true rfl) (Nat.le_of_ble_eq_true rfl) dX8_apart_34
set_option maxHeartbeats 4000000 in
set_option maxRecDepth 100000 in
theorem w_X8_farthest_b28 {p : Program} {l : Launch} {e : Env} {s : State} {m : MethodId} {args : Array Value} {below : List Frame} {meth : Method} {c : Code} {A : Nat → Prop} {G : GG} (cx : CX p s m args c cX8_farthest RX8 3 G) (hlk : meth.locks = false) (hr : meth.sig.returnType = some .int) (N : Nat) (a_t a_t_score a_t_good a_t_bad a_t_goodAhead a_t_badAhead : Nat) (t_size : Int) (t_score : Int → Int) (t_good : Int → Int) (t_bad : Int → Int) (t_goodAhead : Int → Int) (t_badAhead : Int → Int) (r : Int) (k4 : Int → Int → Option (Int)) (hk4 : ∀ (y1 : Int) (y2 : Int), k4 y1 y2 = some r → ∀ (H : Heap) (locs : List Loc) (ls : Array Slot), HP G A s.heap H locs [(a_t, .inr (7, [.ref a_t_score, .ref a_t_good, .ref a_t_bad, .ref a_t_goodAhead, .ref a_t_badAhead, .int (kI t_size)])), (a_t_score, cAI G 60 t_score), (a_t_good, cAI G 60 t_good), (a_t_bad, cAI G 60 t_bad), (a_t_goodAhead, cAI G 61 t_goodAhead), (a_t_badAhead, cAI G 61 t_badAhead)] → lv_has ls 3 [(0, .ref a_t), (1, .int (kI y1)), (2, .int (kI y2))] → W p l e (rmD 3 0 0) s m args below meth c H locs 0 0 (MQ below (QcI G A r [(a_t, .inr (7, [.ref a_t_score, .ref a_t_good, .ref a_t_bad, .ref a_t_goodAhead, .ref a_t_badAhead, .int (kI t_size)])), (a_t_score, cAI G 60 t_score), (a_t_good, cAI G 60 t_good), (a_t_bad, cAI G 60 t_bad), (a_t_goodAhead, cAI G 61 t_goodAhead), (a_t_badAhead, cAI G 61 t_badAhead)]) args s (rmD 3 0 0).cells (rmD 3 0 0).slots A) (F0 m 4 ls [])) : ∀ (y1 : Int) (y2 : Int), m_X8_farthest_b28 N t_size t_goodAhead t_badAhead k4 y1 y2 = some r → ∀ (H : Heap) (locs : List Loc) (ls : Array Slot), HP G A s.heap H locs [(a_t, .inr (7, [.ref a_t_score, .ref a_t_good, .ref a_t_bad, .ref a_t_goodAhead, .ref a_t_badAhead, .int (kI t_size)])), (a_t_score, cAI G 60 t_score), (a_t_good, cAI G 60 t_good), (a_t_bad, cAI G 60 t_bad), (a_t_goodAhead, cAI G 61 t_goodAhead), (a_t_badAhead, cAI G 61 t_badAhead)] → lv_has ls 3 [(0, .ref a_t), (1, .int (kI y1)), (2, .int (kI y2))] → W p l e (rmD 3 0 0) s m args below meth c H locs 0 0 (MQ below (QcI G A r [(a_t, .inr (7, [.ref a_t_score, .ref a_t_good, .ref a_t_bad, .ref a_t_goodAhead, .ref a_t_badAhead, .int (kI t_size)])), (a_t_score, cAI G 60 t_score), (a_t_good, cAI G 60 t_good), (a_t_bad, cAI G 60 t_bad), (a_t_goodAhead, cAI G 61 t_goodAhead), (a_t_badAhead, cAI G 61 t_badAhead)]) args s (rmD 3 0 0).cells (rmD 3 0 0).slots A) (F0 m 28 ls []) := by
  intro y1 y2 h H locs ls hw hl
  rw [m_X8_farthest_b28] at h
  obtain ⟨⟨hx, hb, -, -, -⟩, -⟩ := id cx
  refine lv_iinc (v := kI (y2 + 1)) (lv' := [(2, .int (kI (y2 + 1))), (0, .ref a_t), (1, .int (kI y1))]) hx hb dX8_farthest_28 hl (k := 2) rfl (kI_add _ _) (by decide) rfl (fun ls hl => ?_)
  refine lv_goto (tgt := 4) hx hb dX8_farthest_31 (by decide) ?_
  exact hk4 y1 (y2 + 1) h _ _ _ hw (lv_sub hl [1, 2, 0] rfl)
set_option maxHeartbeats 4000000 in
set_option maxRecDepth 100000 in
theorem w_X8_farthest_b4 {p : Program} {l : Launch} {e : Env} {s : State} {m : MethodId} {args : Array Value} {below : List Frame} {meth : Method} {c : Code} {A : Nat → Prop} {G : GG} (cx : CX p s m args c cX8_farthest RX8 3 G) (hlk : meth.locks = false) (hr : meth.sig.returnType = some .int) (N : Nat) (a_t a_t_score a_t_good a_t_bad a_t_goodAhead a_t_badAhead : Nat) (t_size : Int) (t_score : Int → Int) (t_good : Int → Int) (t_bad : Int → Int) (t_goodAhead : Int → Int) (t_badAhead : Int → Int) (r : Int) : ∀ n : Nat, ∀ (y1 : Int) (y2 : Int), m_X8_farthest_b4 N t_size t_goodAhead t_badAhead n y1 y2 = some r → ∀ (H : Heap) (locs : List Loc) (ls : Array Slot), HP G A s.heap H locs [(a_t, .inr (7, [.ref a_t_score, .ref a_t_good, .ref a_t_bad, .ref a_t_goodAhead, .ref a_t_badAhead, .int (kI t_size)])), (a_t_score, cAI G 60 t_score), (a_t_good, cAI G 60 t_good), (a_t_bad, cAI G 60 t_bad), (a_t_goodAhead, cAI G 61 t_goodAhead), (a_t_badAhead, cAI G 61 t_badAhead)] → lv_has ls 3 [(0, .ref a_t), (1, .int (kI y1)), (2, .int (kI y2))] → W p l e (rmD 3 0 0) s m args below meth c H locs 0 0 (MQ below (QcI G A r [(a_t, .inr (7, [.ref a_t_score, .ref a_t_good, .ref a_t_bad, .ref a_t_goodAhead, .ref a_t_badAhead, .int (kI t_size)])), (a_t_score, cAI G 60 t_score), (a_t_good, cAI G 60 t_good), (a_t_bad, cAI G 60 t_bad), (a_t_goodAhead, cAI G 61 t_goodAhead), (a_t_badAhead, cAI G 61 t_badAhead)]) args s (rmD 3 0 0).cells (rmD 3 0 0).slots A) (F0 m 4 ls []) := by
  intro n
  induction n with
  | zero => intro y1 y2 h; exact nomatch h
  | succ n ih =>
    intro y1 y2 h H locs ls hw hl
    rw [m_X8_farthest_b4] at h
    obtain ⟨⟨hx, hb, -, -, -⟩, -⟩ := id cx
    refine lv_iload_n hx hb dX8_farthest_4 rfl (lv_at hl 2 rfl) ?_
    refine lv_aload_n hx hb dX8_farthest_5 rfl (lv_at hl 0 rfl) ?_
    refine rf_get hx hb cx hw 0 rfl rfl 5 inX8 (by decide) fl_X8_27 rfl rfl dX8_farthest_6 ?_
    obtain ⟨g1, h⟩ := gd_some h
    obtain ⟨g2, h⟩ := gd_some h
    refine ri_icmp_ge (tgt := 34) hx hb g1 g2 dX8_farthest_9 (by decide) (fun c3 => ?_) (fun c3 => ?_)
    · have h := it_pos c3 h
      refine lv_iload_n hx hb dX8_farthest_34 rfl (lv_at hl 1 rfl) ?_
      obtain rfl := so_inj h
      exact re_i hx hb hlk hr cx hw (Nat.le_of_ble_eq_true rfl) (Nat.le_of_ble_eq_true rfl) dX8_farthest_35
    · have h := it_neg c3 h
      refine lv_aload_n hx hb dX8_farthest_12 rfl (lv_at hl 0 rfl) ?_
      refine lv_iload_n hx hb dX8_farthest_13 rfl (lv_at hl 2 rfl) ?_
      obtain ⟨r4, h4, h⟩ := bd_some h
      refine rc_L0 (v := r4) hw [0, 1, 2, 3, 4, 5] (rr_V cx hw (c_X8_apart l G H.size N a_t a_t_score a_t_good a_t_bad a_t_goodAhead a_t_badAhead t_size t_score t_good t_bad t_goodAhead t_badAhead y2 _ h4) mv_X8_79 [0, 1, 2, 3, 4, 5] rfl rfl rfl 0 rfl rfl ⟨Nat.le_of_ble_eq_true rfl, Nat.le_of_ble_eq_true rfl⟩ rfl hl.1 rfl (Nat.le_of_ble_eq_true rfl) dX8_farthest_14 ⟨Nat.le_of_ble_eq_true rfl, Nat.le_of_ble_eq_true rfl⟩) rfl rfl (fun H locs hw => ?_)
      refine lv_aload_n hx hb dX8_farthest_17 rfl (lv_at hl 0 rfl) ?_
      refine lv_iload_n hx hb dX8_farthest_18 rfl (lv_at hl 1 rfl) ?_
      obtain ⟨r5, h5, h⟩ := bd_some h
      refine rc_L0 (v := r5) hw [0, 1, 2, 3, 4, 5] (rr_V cx hw (c_X8_apart l G H.size N a_t a_t_score a_t_good a_t_bad a_t_goodAhead a_t_badAhead t_size t_score t_good t_bad t_goodAhead t_badAhead y1 _ h5) mv_X8_79 [0, 1, 2, 3, 4, 5] rfl rfl rfl 0 rfl rfl ⟨Nat.le_of_ble_eq_true rfl, Nat.le_of_ble_eq_true rfl⟩ rfl hl.1 rfl (Nat.le_of_ble_eq_true rfl) dX8_farthest_19 ⟨Nat.le_of_ble_eq_true rfl, Nat.le_of_ble_eq_true rfl⟩) rfl rfl (fun H locs hw => ?_)
      obtain ⟨g6, h⟩ := gd_some h
      obtain ⟨g7, h⟩ := gd_some h
      refine ri_lcmp_le (tgt := 28) hx hb g6 g7 dX8_farthest_22 dX8_farthest_23 (by decide) (fun c8 => ?_) (fun c8 => ?_)
      · have h := it_pos c8 h
        exact w_X8_farthest_b28 cx hlk hr N a_t a_t_score a_t_good a_t_bad a_t_goodAhead a_t_badAhead t_size t_score t_good t_bad t_goodAhead t_badAhead r (m_X8_farthest_b4 N t_size t_goodAhead t_badAhead n) ih y1 y2 h _ _ _ hw (lv_sub hl [0, 1, 2] rfl)
      · have h := it_neg c8 h
        refine lv_iload_n hx hb dX8_farthest_26 rfl (lv_at hl 2 rfl) ?_
        refine lv_istore_n (lv' := [(1, .int (kI y2)), (0, .ref a_t), (2, .int (kI y2))]) hx hb dX8_farthest_27 rfl hl (by decide) rfl (fun ls hl => ?_)
        exact w_X8_farthest_b28 cx hlk hr N a_t a_t_score a_t_good a_t_bad a_t_goodAhead a_t_badAhead t_size t_score t_good t_bad t_goodAhead t_badAhead r (m_X8_farthest_b4 N t_size t_goodAhead t_badAhead n) ih y2 y2 h _ _ _ hw (lv_sub hl [1, 0, 2] rfl)
set_option maxHeartbeats 4000000 in
set_option maxRecDepth 100000 in
theorem c_X8_farthest (l : Launch) (G : GG) (sz : Nat) (N : Nat) (a_t a_t_score a_t_good a_t_bad a_t_goodAhead a_t_badAhead : Nat) (t_size : Int) (t_score : Int → Int) (t_good : Int → Int) (t_bad : Int → Int) (t_goodAhead : Int → Int) (t_badAhead : Int → Int)  (r : Int) (h : m_X8_farthest N t_size t_goodAhead t_badAhead = some r) : CtI l yX8_farthest cX8_farthest 3 .int (rmD 3 0 0) G sz [.ref a_t] [(a_t, .inr (7, [.ref a_t_score, .ref a_t_good, .ref a_t_bad, .ref a_t_goodAhead, .ref a_t_badAhead, .int (kI t_size)])), (a_t_score, cAI G 60 t_score), (a_t_good, cAI G 60 t_good), (a_t_bad, cAI G 60 t_bad), (a_t_goodAhead, cAI G 61 t_goodAhead), (a_t_badAhead, cAI G 61 t_badAhead)] r [(a_t, .inr (7, [.ref a_t_score, .ref a_t_good, .ref a_t_bad, .ref a_t_goodAhead, .ref a_t_badAhead, .int (kI t_size)])), (a_t_score, cAI G 60 t_score), (a_t_good, cAI G 60 t_good), (a_t_bad, cAI G 60 t_bad), (a_t_goodAhead, cAI G 61 t_goodAhead), (a_t_badAhead, cAI G 61 t_badAhead)] := by
  refine met_of (Qc := fun A => QcI G A r [(a_t, .inr (7, [.ref a_t_score, .ref a_t_good, .ref a_t_bad, .ref a_t_goodAhead, .ref a_t_badAhead, .int (kI t_size)])), (a_t_score, cAI G 60 t_score), (a_t_good, cAI G 60 t_good), (a_t_bad, cAI G 60 t_bad), (a_t_goodAhead, cAI G 61 t_goodAhead), (a_t_badAhead, cAI G 61 t_badAhead)]) (by decide +kernel) (Nat.le_of_ble_eq_true rfl) ?_
  intro p e s m args below meth c A H locs ls cx hw hr hlk hnm hl
  have hl : lv_has ls 3 [(0, .ref a_t)] := hl
  rw [m_X8_farthest] at h
  obtain ⟨⟨hx, hb, -, -, -⟩, -⟩ := id cx
  refine ri_iconst hx hb dX8_farthest_0 ?_
  refine lv_istore_n (lv' := [(1, .int (kI 0)), (0, .ref a_t)]) hx hb dX8_farthest_1 rfl hl (by decide) rfl (fun ls hl => ?_)
  refine ri_iconst hx hb dX8_farthest_2 ?_
  refine lv_istore_n (lv' := [(2, .int (kI 1)), (1, .int (kI 0)), (0, .ref a_t)]) hx hb dX8_farthest_3 rfl hl (by decide) rfl (fun ls hl => ?_)
  exact w_X8_farthest_b4 cx hlk hr N a_t a_t_score a_t_good a_t_bad a_t_goodAhead a_t_badAhead t_size t_score t_good t_bad t_goodAhead t_badAhead r N 0 1 h _ _ _ hw (lv_sub hl [2, 1, 0] rfl)
set_option maxHeartbeats 4000000 in
set_option maxRecDepth 100000 in
theorem c_X8_isRiskier (l : Launch) (G : GG) (sz : Nat) (N : Nat) (a_t a_t_score a_t_good a_t_bad a_t_goodAhead a_t_badAhead : Nat) (t_size : Int) (t_score : Int → Int) (t_good : Int → Int) (t_bad : Int → Int) (t_goodAhead : Int → Int) (t_badAhead : Int → Int) (x1 : Int) (x2 : Int) (r : Int) (h : m_X8_isRiskier N t_good t_bad x1 x2 = some r) : CtI l yX8_isRiskier cX8_isRiskier 3 .boolean (rmD 1 0 0) G sz [.ref a_t, .int (kI x1), .int (kI x2)] [(a_t, .inr (7, [.ref a_t_score, .ref a_t_good, .ref a_t_bad, .ref a_t_goodAhead, .ref a_t_badAhead, .int (kI t_size)])), (a_t_score, cAI G 60 t_score), (a_t_good, cAI G 60 t_good), (a_t_bad, cAI G 60 t_bad), (a_t_goodAhead, cAI G 61 t_goodAhead), (a_t_badAhead, cAI G 61 t_badAhead)] r [(a_t, .inr (7, [.ref a_t_score, .ref a_t_good, .ref a_t_bad, .ref a_t_goodAhead, .ref a_t_badAhead, .int (kI t_size)])), (a_t_score, cAI G 60 t_score), (a_t_good, cAI G 60 t_good), (a_t_bad, cAI G 60 t_bad), (a_t_goodAhead, cAI G 61 t_goodAhead), (a_t_badAhead, cAI G 61 t_badAhead)] := by
  refine met_of (Qc := fun A => QcI G A r [(a_t, .inr (7, [.ref a_t_score, .ref a_t_good, .ref a_t_bad, .ref a_t_goodAhead, .ref a_t_badAhead, .int (kI t_size)])), (a_t_score, cAI G 60 t_score), (a_t_good, cAI G 60 t_good), (a_t_bad, cAI G 60 t_bad), (a_t_goodAhead, cAI G 61 t_goodAhead), (a_t_badAhead, cAI G 61 t_badAhead)]) (by decide +kernel) (Nat.le_of_ble_eq_true rfl) ?_
  intro p e s m args below meth c A H locs ls cx hw hr hlk hnm hl
  have hl : lv_has ls 3 [(0, .ref a_t), (1, .int (kI x1)), (2, .int (kI x2))] := hl
  rw [m_X8_isRiskier] at h
  obtain ⟨⟨hx, hb, -, -, -⟩, -⟩ := id cx
  refine lv_aload_n hx hb dX8_isRiskier_0 rfl (lv_at hl 0 rfl) ?_
  refine rf_get hx hb cx hw 0 rfl rfl 2 inX8 (by decide) fl_X8_18 rfl rfl dX8_isRiskier_1 ?_
  refine lv_iload_n hx hb dX8_isRiskier_4 rfl (lv_at hl 1 rfl) ?_
  obtain ⟨g1, h⟩ := gd_some h
  refine ra_i hx hb cx hw 3 rfl (by decide) g1 dX8_isRiskier_5 ?_
  refine lv_aload_n hx hb dX8_isRiskier_6 rfl (lv_at hl 0 rfl) ?_
  refine rf_get hx hb cx hw 0 rfl rfl 1 inX8 (by decide) fl_X8_15 rfl rfl dX8_isRiskier_7 ?_
  refine lv_iload_n hx hb dX8_isRiskier_10 rfl (lv_at hl 2 rfl) ?_
  obtain ⟨g2, h⟩ := gd_some h
  refine ra_i hx hb cx hw 2 rfl (by decide) g2 dX8_isRiskier_11 ?_
  refine lv_aload_n hx hb dX8_isRiskier_12 rfl (lv_at hl 0 rfl) ?_
  refine rf_get hx hb cx hw 0 rfl rfl 2 inX8 (by decide) fl_X8_18 rfl rfl dX8_isRiskier_13 ?_
  refine lv_iload_n hx hb dX8_isRiskier_16 rfl (lv_at hl 2 rfl) ?_
  refine ra_i hx hb cx hw 3 rfl (by decide) g2 dX8_isRiskier_17 ?_
  refine ri_iadd hx hb dX8_isRiskier_18 ?_
  refine ri_imul hx hb dX8_isRiskier_19 ?_
  refine lv_aload_n hx hb dX8_isRiskier_20 rfl (lv_at hl 0 rfl) ?_
  refine rf_get hx hb cx hw 0 rfl rfl 2 inX8 (by decide) fl_X8_18 rfl rfl dX8_isRiskier_21 ?_
  refine lv_iload_n hx hb dX8_isRiskier_24 rfl (lv_at hl 2 rfl) ?_
  refine ra_i hx hb cx hw 3 rfl (by decide) g2 dX8_isRiskier_25 ?_
  refine lv_aload_n hx hb dX8_isRiskier_26 rfl (lv_at hl 0 rfl) ?_
  refine rf_get hx hb cx hw 0 rfl rfl 1 inX8 (by decide) fl_X8_15 rfl rfl dX8_isRiskier_27 ?_
  refine lv_iload_n hx hb dX8_isRiskier_30 rfl (lv_at hl 1 rfl) ?_
  refine ra_i hx hb cx hw 2 rfl (by decide) g1 dX8_isRiskier_31 ?_
  refine lv_aload_n hx hb dX8_isRiskier_32 rfl (lv_at hl 0 rfl) ?_
  refine rf_get hx hb cx hw 0 rfl rfl 2 inX8 (by decide) fl_X8_18 rfl rfl dX8_isRiskier_33 ?_
  refine lv_iload_n hx hb dX8_isRiskier_36 rfl (lv_at hl 1 rfl) ?_
  refine ra_i hx hb cx hw 3 rfl (by decide) g1 dX8_isRiskier_37 ?_
  refine ri_iadd hx hb dX8_isRiskier_38 ?_
  refine ri_imul hx hb dX8_isRiskier_39 ?_
  obtain ⟨g3, h⟩ := gd_some h
  obtain ⟨g4, h⟩ := gd_some h
  refine ri_icmp_le (tgt := 47) hx hb g3 g4 dX8_isRiskier_40 (by decide) (fun c5 => ?_) (fun c5 => ?_)
  · have h := it_pos c5 h
    refine ri_iconst hx hb dX8_isRiskier_47 ?_
    obtain rfl := so_inj h
    exact re_z (by decide)  hx hb hlk hr cx hw (Nat.le_of_ble_eq_true rfl) (Nat.le_of_ble_eq_true rfl) dX8_isRiskier_48
  · have h := it_neg c5 h
    refine ri_iconst hx hb dX8_isRiskier_43 ?_
    refine lv_goto (tgt := 48) hx hb dX8_isRiskier_44 (by decide) ?_
    obtain rfl := so_inj h
    exact re_z (by decide)  hx hb hlk hr cx hw (Nat.le_of_ble_eq_true rfl) (Nat.le_of_ble_eq_true rfl) dX8_isRiskier_48
set_option maxHeartbeats 4000000 in
set_option maxRecDepth 100000 in
theorem c_X8_cutBehind (l : Launch) (G : GG) (sz : Nat) (N : Nat) (a_t a_t_score a_t_good a_t_bad a_t_goodAhead a_t_badAhead : Nat) (t_size : Int) (t_score : Int → Int) (t_good : Int → Int) (t_bad : Int → Int) (t_goodAhead : Int → Int) (t_badAhead : Int → Int) (x1 : Int) (r : Int) (h : m_X8_cutBehind N t_score x1 = some r) : CtI l yX8_cutBehind cX8_cutBehind 2 .int (rmD 1 0 0) G sz [.ref a_t, .int (kI x1)] [(a_t, .inr (7, [.ref a_t_score, .ref a_t_good, .ref a_t_bad, .ref a_t_goodAhead, .ref a_t_badAhead, .int (kI t_size)])), (a_t_score, cAI G 60 t_score), (a_t_good, cAI G 60 t_good), (a_t_bad, cAI G 60 t_bad), (a_t_goodAhead, cAI G 61 t_goodAhead), (a_t_badAhead, cAI G 61 t_badAhead)] r [(a_t, .inr (7, [.ref a_t_score, .ref a_t_good, .ref a_t_bad, .ref a_t_goodAhead, .ref a_t_badAhead, .int (kI t_size)])), (a_t_score, cAI G 60 t_score), (a_t_good, cAI G 60 t_good), (a_t_bad, cAI G 60 t_bad), (a_t_goodAhead, cAI G 61 t_goodAhead), (a_t_badAhead, cAI G 61 t_badAhead)] := by
  refine met_of (Qc := fun A => QcI G A r [(a_t, .inr (7, [.ref a_t_score, .ref a_t_good, .ref a_t_bad, .ref a_t_goodAhead, .ref a_t_badAhead, .int (kI t_size)])), (a_t_score, cAI G 60 t_score), (a_t_good, cAI G 60 t_good), (a_t_bad, cAI G 60 t_bad), (a_t_goodAhead, cAI G 61 t_goodAhead), (a_t_badAhead, cAI G 61 t_badAhead)]) (by decide +kernel) (Nat.le_of_ble_eq_true rfl) ?_
  intro p e s m args below meth c A H locs ls cx hw hr hlk hnm hl
  have hl : lv_has ls 2 [(0, .ref a_t), (1, .int (kI x1))] := hl
  rw [m_X8_cutBehind] at h
  obtain ⟨⟨hx, hb, -, -, -⟩, -⟩ := id cx
  refine lv_iload_n hx hb dX8_cutBehind_0 rfl (lv_at hl 1 rfl) ?_
  obtain ⟨g1, h⟩ := gd_some h
  refine ri_if_ne (tgt := 8) hx hb g1 dX8_cutBehind_1 (by decide) (fun c2 => ?_) (fun c2 => ?_)
  · have h := it_pos c2 h
    refine ri_iconst hx hb dX8_cutBehind_4 ?_
    refine lv_goto (tgt := 18) hx hb dX8_cutBehind_5 (by decide) ?_
    obtain rfl := so_inj h
    exact re_i hx hb hlk hr cx hw (Nat.le_of_ble_eq_true rfl) (Nat.le_of_ble_eq_true rfl) dX8_cutBehind_18
  · have h := it_neg c2 h
    refine lv_aload_n hx hb dX8_cutBehind_8 rfl (lv_at hl 0 rfl) ?_
    refine rf_get hx hb cx hw 0 rfl rfl 0 inX8 (by decide) fl_X8_9 rfl rfl dX8_cutBehind_9 ?_
    refine lv_iload_n hx hb dX8_cutBehind_12 rfl (lv_at hl 1 rfl) ?_
    refine ri_iconst hx hb dX8_cutBehind_13 ?_
    refine ri_isub hx hb dX8_cutBehind_14 ?_
    obtain ⟨g3, h⟩ := gd_some h
    refine ra_i hx hb cx hw 1 rfl (by decide) g3 dX8_cutBehind_15 ?_
    refine ri_iconst hx hb dX8_cutBehind_16 ?_
    refine ri_iadd hx hb dX8_cutBehind_17 ?_
    obtain rfl := so_inj h
    exact re_i hx hb hlk hr cx hw (Nat.le_of_ble_eq_true rfl) (Nat.le_of_ble_eq_true rfl) dX8_cutBehind_18
set_option maxHeartbeats 4000000 in
set_option maxRecDepth 100000 in
theorem c_X8_costBehind (l : Launch) (G : GG) (sz : Nat) (N : Nat) (a_t a_t_score a_t_good a_t_bad a_t_goodAhead a_t_badAhead : Nat) (t_size : Int) (t_score : Int → Int) (t_good : Int → Int) (t_bad : Int → Int) (t_goodAhead : Int → Int) (t_badAhead : Int → Int) (x1 : Int) (x2 : Int) (x3 : Int) (r : Int) (h : m_X8_costBehind N t_size t_goodAhead t_badAhead x1 x2 x3 = some r) : CtI l yX8_costBehind cX8_costBehind 4 .int (rmD 2 0 0) G sz [.ref a_t, .int (kI x1), .int (kI x2), .int (kI x3)] [(a_t, .inr (7, [.ref a_t_score, .ref a_t_good, .ref a_t_bad, .ref a_t_goodAhead, .ref a_t_badAhead, .int (kI t_size)])), (a_t_score, cAI G 60 t_score), (a_t_good, cAI G 60 t_good), (a_t_bad, cAI G 60 t_bad), (a_t_goodAhead, cAI G 61 t_goodAhead), (a_t_badAhead, cAI G 61 t_badAhead)] r [(a_t, .inr (7, [.ref a_t_score, .ref a_t_good, .ref a_t_bad, .ref a_t_goodAhead, .ref a_t_badAhead, .int (kI t_size)])), (a_t_score, cAI G 60 t_score), (a_t_good, cAI G 60 t_good), (a_t_bad, cAI G 60 t_bad), (a_t_goodAhead, cAI G 61 t_goodAhead), (a_t_badAhead, cAI G 61 t_badAhead)] := by
  refine met_of (Qc := fun A => QcI G A r [(a_t, .inr (7, [.ref a_t_score, .ref a_t_good, .ref a_t_bad, .ref a_t_goodAhead, .ref a_t_badAhead, .int (kI t_size)])), (a_t_score, cAI G 60 t_score), (a_t_good, cAI G 60 t_good), (a_t_bad, cAI G 60 t_bad), (a_t_goodAhead, cAI G 61 t_goodAhead), (a_t_badAhead, cAI G 61 t_badAhead)]) (by decide +kernel) (Nat.le_of_ble_eq_true rfl) ?_
  intro p e s m args below meth c A H locs ls cx hw hr hlk hnm hl
  have hl : lv_has ls 4 [(0, .ref a_t), (1, .int (kI x1)), (2, .int (kI x2)), (3, .int (kI x3))] := hl
  rw [m_X8_costBehind] at h
  obtain ⟨⟨hx, hb, -, -, -⟩, -⟩ := id cx
  refine lv_iload_n hx hb dX8_costBehind_0 rfl (lv_at hl 2 rfl) ?_
  refine lv_aload_n hx hb dX8_costBehind_1 rfl (lv_at hl 0 rfl) ?_
  refine rf_get hx hb cx hw 0 rfl rfl 3 inX8 (by decide) fl_X8_21 rfl rfl dX8_costBehind_2 ?_
  refine lv_iload_n hx hb dX8_costBehind_5 rfl (lv_at hl 1 rfl) ?_
  obtain ⟨g1, h⟩ := gd_some h
  refine ra_i hx hb cx hw 4 rfl (by decide) g1 dX8_costBehind_6 ?_
  refine ri_imul hx hb dX8_costBehind_7 ?_
  refine lv_iload_n hx hb dX8_costBehind_8 rfl (lv_at hl 3 rfl) ?_
  refine lv_aload_n hx hb dX8_costBehind_9 rfl (lv_at hl 0 rfl) ?_
  obtain ⟨r2, h2, h⟩ := bd_some h
  refine rc_I0 (v := r2) hw [0, 1, 2, 3, 4, 5] (rr_V cx hw (c_X8_bads l G H.size N a_t a_t_score a_t_good a_t_bad a_t_goodAhead a_t_badAhead t_size t_score t_good t_bad t_goodAhead t_badAhead _ h2) mv_X8_66 [0, 1, 2, 3, 4, 5] rfl rfl rfl 0 rfl rfl ⟨Nat.le_of_ble_eq_true rfl, Nat.le_of_ble_eq_true rfl⟩ rfl hl.1 rfl (Nat.le_of_ble_eq_true rfl) dX8_costBehind_10 ⟨Nat.le_of_ble_eq_true rfl, Nat.le_of_ble_eq_true rfl⟩) rfl rfl (fun H locs hw => ?_)
  refine lv_aload_n hx hb dX8_costBehind_13 rfl (lv_at hl 0 rfl) ?_
  refine rf_get hx hb cx hw 0 rfl rfl 4 inX8 (by decide) fl_X8_24 rfl rfl dX8_costBehind_14 ?_
  refine lv_iload_n hx hb dX8_costBehind_17 rfl (lv_at hl 1 rfl) ?_
  refine ra_i hx hb cx hw 5 rfl (by decide) g1 dX8_costBehind_18 ?_
  refine ri_isub hx hb dX8_costBehind_19 ?_
  refine ri_imul hx hb dX8_costBehind_20 ?_
  refine ri_iadd hx hb dX8_costBehind_21 ?_
  obtain rfl := so_inj h
  exact re_i hx hb hlk hr cx hw (Nat.le_of_ble_eq_true rfl) (Nat.le_of_ble_eq_true rfl) dX8_costBehind_22
set_option maxHeartbeats 4000000 in
set_option maxRecDepth 100000 in
theorem w_X8_cheapest_b35 {p : Program} {l : Launch} {e : Env} {s : State} {m : MethodId} {args : Array Value} {below : List Frame} {meth : Method} {c : Code} {A : Nat → Prop} {G : GG} (cx : CX p s m args c cX8_cheapest RX8 5 G) (hlk : meth.locks = false) (hr : meth.sig.returnType = some .int) (N : Nat) (a_t a_t_score a_t_good a_t_bad a_t_goodAhead a_t_badAhead : Nat) (t_size : Int) (t_score : Int → Int) (t_good : Int → Int) (t_bad : Int → Int) (t_goodAhead : Int → Int) (t_badAhead : Int → Int) (x1 : Int) (x2 : Int) (r : Int) (k5 : Int → Int → Option (Int)) (hk5 : ∀ (y3 : Int) (y4 : Int), k5 y3 y4 = some r → ∀ (H : Heap) (locs : List Loc) (ls : Array Slot), HP G A s.heap H locs [(a_t, .inr (7, [.ref a_t_score, .ref a_t_good, .ref a_t_bad, .ref a_t_goodAhead, .ref a_t_badAhead, .int (kI t_size)])), (a_t_score, cAI G 60 t_score), (a_t_good, cAI G 60 t_good), (a_t_bad, cAI G 60 t_bad), (a_t_goodAhead, cAI G 61 t_goodAhead), (a_t_badAhead, cAI G 61 t_badAhead)] → lv_has ls 5 [(0, .ref a_t), (1, .int (kI x1)), (2, .int (kI x2)), (3, .int (kI y3)), (4, .int (kI y4))] → W p l e (rmD 3 0 0) s m args below meth c H locs 0 0 (MQ below (QcI G A r [(a_t, .inr (7, [.ref a_t_score, .ref a_t_good, .ref a_t_bad, .ref a_t_goodAhead, .ref a_t_badAhead, .int (kI t_size)])), (a_t_score, cAI G 60 t_score), (a_t_good, cAI G 60 t_good), (a_t_bad, cAI G 60 t_bad), (a_t_goodAhead, cAI G 61 t_goodAhead), (a_t_badAhead, cAI G 61 t_badAhead)]) args s (rmD 3 0 0).cells (rmD 3 0 0).slots A) (F0 m 5 ls [])) : ∀ (y3 : Int) (y4 : Int), m_X8_cheapest_b35 N t_size t_goodAhead t_badAhead x1 x2 k5 y3 y4 = some r → ∀ (H : Heap) (locs : List Loc) (ls : Array Slot), HP G A s.heap H locs [(a_t, .inr (7, [.ref a_t_score, .ref a_t_good, .ref a_t_bad, .ref a_t_goodAhead, .ref a_t_badAhead, .int (kI t_size)])), (a_t_score, cAI G 60 t_score), (a_t_good, cAI G 60 t_good), (a_t_bad, cAI G 60 t_bad), (a_t_goodAhead, cAI G 61 t_goodAhead), (a_t_badAhead, cAI G 61 t_badAhead)] → lv_has ls 5 [(0, .ref a_t), (1, .int (kI x1)), (2, .int (kI x2)), (3, .int (kI y3)), (4, .int (kI y4))] → W p l e (rmD 3 0 0) s m args below meth c H locs 0 0 (MQ below (QcI G A r [(a_t, .inr (7, [.ref a_t_score, .ref a_t_good, .ref a_t_bad, .ref a_t_goodAhead, .ref a_t_badAhead, .int (kI t_size)])), (a_t_score, cAI G 60 t_score), (a_t_good, cAI G 60 t_good), (a_t_bad, cAI G 60 t_bad), (a_t_goodAhead, cAI G 61 t_goodAhead), (a_t_badAhead, cAI G 61 t_badAhead)]) args s (rmD 3 0 0).cells (rmD 3 0 0).slots A) (F0 m 35 ls []) := by
  intro y3 y4 h H locs ls hw hl
  rw [m_X8_cheapest_b35] at h
  obtain ⟨⟨hx, hb, -, -, -⟩, -⟩ := id cx
  refine lv_iinc (v := kI (y4 + 1)) (lv' := [(4, .int (kI (y4 + 1))), (0, .ref a_t), (1, .int (kI x1)), (2, .int (kI x2)), (3, .int (kI y3))]) hx hb dX8_cheapest_35 hl (k := 4) rfl (kI_add _ _) (by decide) rfl (fun ls hl => ?_)
  refine lv_goto (tgt := 5) hx hb dX8_cheapest_38 (by decide) ?_
  exact hk5 y3 (y4 + 1) h _ _ _ hw (lv_sub hl [1, 2, 3, 4, 0] rfl)
set_option maxHeartbeats 4000000 in
set_option maxRecDepth 100000 in
theorem w_X8_cheapest_b5 {p : Program} {l : Launch} {e : Env} {s : State} {m : MethodId} {args : Array Value} {below : List Frame} {meth : Method} {c : Code} {A : Nat → Prop} {G : GG} (cx : CX p s m args c cX8_cheapest RX8 5 G) (hlk : meth.locks = false) (hr : meth.sig.returnType = some .int) (N : Nat) (a_t a_t_score a_t_good a_t_bad a_t_goodAhead a_t_badAhead : Nat) (t_size : Int) (t_score : Int → Int) (t_good : Int → Int) (t_bad : Int → Int) (t_goodAhead : Int → Int) (t_badAhead : Int → Int) (x1 : Int) (x2 : Int) (r : Int) : ∀ n : Nat, ∀ (y3 : Int) (y4 : Int), m_X8_cheapest_b5 N t_size t_goodAhead t_badAhead x1 x2 n y3 y4 = some r → ∀ (H : Heap) (locs : List Loc) (ls : Array Slot), HP G A s.heap H locs [(a_t, .inr (7, [.ref a_t_score, .ref a_t_good, .ref a_t_bad, .ref a_t_goodAhead, .ref a_t_badAhead, .int (kI t_size)])), (a_t_score, cAI G 60 t_score), (a_t_good, cAI G 60 t_good), (a_t_bad, cAI G 60 t_bad), (a_t_goodAhead, cAI G 61 t_goodAhead), (a_t_badAhead, cAI G 61 t_badAhead)] → lv_has ls 5 [(0, .ref a_t), (1, .int (kI x1)), (2, .int (kI x2)), (3, .int (kI y3)), (4, .int (kI y4))] → W p l e (rmD 3 0 0) s m args below meth c H locs 0 0 (MQ below (QcI G A r [(a_t, .inr (7, [.ref a_t_score, .ref a_t_good, .ref a_t_bad, .ref a_t_goodAhead, .ref a_t_badAhead, .int (kI t_size)])), (a_t_score, cAI G 60 t_score), (a_t_good, cAI G 60 t_good), (a_t_bad, cAI G 60 t_bad), (a_t_goodAhead, cAI G 61 t_goodAhead), (a_t_badAhead, cAI G 61 t_badAhead)]) args s (rmD 3 0 0).cells (rmD 3 0 0).slots A) (F0 m 5 ls []) := by
  intro n
  induction n with
  | zero => intro y3 y4 h; exact nomatch h
  | succ n ih =>
    intro y3 y4 h H locs ls hw hl
    rw [m_X8_cheapest_b5] at h
    obtain ⟨⟨hx, hb, -, -, -⟩, -⟩ := id cx
    refine lv_iload hx hb dX8_cheapest_5 (lv_at hl 4 rfl) ?_
    refine lv_aload_n hx hb dX8_cheapest_7 rfl (lv_at hl 0 rfl) ?_
    refine rf_get hx hb cx hw 0 rfl rfl 5 inX8 (by decide) fl_X8_27 rfl rfl dX8_cheapest_8 ?_
    obtain ⟨g1, h⟩ := gd_some h
    obtain ⟨g2, h⟩ := gd_some h
    refine ri_icmp_gt (tgt := 41) hx hb g1 g2 dX8_cheapest_11 (by decide) (fun c3 => ?_) (fun c3 => ?_)
    · have h := it_pos c3 h
      refine lv_iload_n hx hb dX8_cheapest_41 rfl (lv_at hl 3 rfl) ?_
      obtain rfl := so_inj h
      exact re_i hx hb hlk hr cx hw (Nat.le_of_ble_eq_true rfl) (Nat.le_of_ble_eq_true rfl) dX8_cheapest_42
    · have h := it_neg c3 h
      refine lv_aload_n hx hb dX8_cheapest_14 rfl (lv_at hl 0 rfl) ?_
      refine lv_iload hx hb dX8_cheapest_15 (lv_at hl 4 rfl) ?_
      refine lv_iload_n hx hb dX8_cheapest_17 rfl (lv_at hl 1 rfl) ?_
      refine lv_iload_n hx hb dX8_cheapest_18 rfl (lv_at hl 2 rfl) ?_
      obtain ⟨r4, h4, h⟩ := bd_some h
      refine rc_I0 (v := r4) hw [0, 1, 2, 3, 4, 5] (rr_V cx hw (c_X8_costBehind l G H.size N a_t a_t_score a_t_good a_t_bad a_t_goodAhead a_t_badAhead t_size t_score t_good t_bad t_goodAhead t_badAhead y4 x1 x2 _ h4) mv_X8_83 [0, 1, 2, 3, 4, 5] rfl rfl rfl 0 rfl rfl ⟨Nat.le_of_ble_eq_true rfl, Nat.le_of_ble_eq_true rfl⟩ rfl hl.1 rfl (Nat.le_of_ble_eq_true rfl) dX8_cheapest_19 ⟨Nat.le_of_ble_eq_true rfl, Nat.le_of_ble_eq_true rfl⟩) rfl rfl (fun H locs hw => ?_)
      refine lv_aload_n hx hb dX8_cheapest_22 rfl (lv_at hl 0 rfl) ?_
      refine lv_iload_n hx hb dX8_cheapest_23 rfl (lv_at hl 3 rfl) ?_
      refine lv_iload_n hx hb dX8_cheapest_24 rfl (lv_at hl 1 rfl) ?_
      refine lv_iload_n hx hb dX8_cheapest_25 rfl (lv_at hl 2 rfl) ?_
      obtain ⟨r5, h5, h⟩ := bd_some h
      refine rc_I0 (v := r5) hw [0, 1, 2, 3, 4, 5] (rr_V cx hw (c_X8_costBehind l G H.size N a_t a_t_score a_t_good a_t_bad a_t_goodAhead a_t_badAhead t_size t_score t_good t_bad t_goodAhead t_badAhead y3 x1 x2 _ h5) mv_X8_83 [0, 1, 2, 3, 4, 5] rfl rfl rfl 0 rfl rfl ⟨Nat.le_of_ble_eq_true rfl, Nat.le_of_ble_eq_true rfl⟩ rfl hl.1 rfl (Nat.le_of_ble_eq_true rfl) dX8_cheapest_26 ⟨Nat.le_of_ble_eq_true rfl, Nat.le_of_ble_eq_true rfl⟩) rfl rfl (fun H locs hw => ?_)
      obtain ⟨g6, h⟩ := gd_some h
      obtain ⟨g7, h⟩ := gd_some h
      refine ri_icmp_ge (tgt := 35) hx hb g6 g7 dX8_cheapest_29 (by decide) (fun c8 => ?_) (fun c8 => ?_)
      · have h := it_pos c8 h
        exact w_X8_cheapest_b35 cx hlk hr N a_t a_t_score a_t_good a_t_bad a_t_goodAhead a_t_badAhead t_size t_score t_good t_bad t_goodAhead t_badAhead x1 x2 r (m_X8_cheapest_b5 N t_size t_goodAhead t_badAhead x1 x2 n) ih y3 y4 h _ _ _ hw (lv_sub hl [0, 1, 2, 3, 4] rfl)
      · have h := it_neg c8 h
        refine lv_iload hx hb dX8_cheapest_32 (lv_at hl 4 rfl) ?_
        refine lv_istore_n (lv' := [(3, .int (kI y4)), (0, .ref a_t), (1, .int (kI x1)), (2, .int (kI x2)), (4, .int (kI y4))]) hx hb dX8_cheapest_34 rfl hl (by decide) rfl (fun ls hl => ?_)
        exact w_X8_cheapest_b35 cx hlk hr N a_t a_t_score a_t_good a_t_bad a_t_goodAhead a_t_badAhead t_size t_score t_good t_bad t_goodAhead t_badAhead x1 x2 r (m_X8_cheapest_b5 N t_size t_goodAhead t_badAhead x1 x2 n) ih y4 y4 h _ _ _ hw (lv_sub hl [1, 2, 3, 0, 4] rfl)
set_option maxHeartbeats 4000000 in
set_option maxRecDepth 100000 in
theorem c_X8_cheapest (l : Launch) (G : GG) (sz : Nat) (N : Nat) (a_t a_t_score a_t_good a_t_bad a_t_goodAhead a_t_badAhead : Nat) (t_size : Int) (t_score : Int → Int) (t_good : Int → Int) (t_bad : Int → Int) (t_goodAhead : Int → Int) (t_badAhead : Int → Int) (x1 : Int) (x2 : Int) (r : Int) (h : m_X8_cheapest N t_size t_goodAhead t_badAhead x1 x2 = some r) : CtI l yX8_cheapest cX8_cheapest 5 .int (rmD 3 0 0) G sz [.ref a_t, .int (kI x1), .int (kI x2)] [(a_t, .inr (7, [.ref a_t_score, .ref a_t_good, .ref a_t_bad, .ref a_t_goodAhead, .ref a_t_badAhead, .int (kI t_size)])), (a_t_score, cAI G 60 t_score), (a_t_good, cAI G 60 t_good), (a_t_bad, cAI G 60 t_bad), (a_t_goodAhead, cAI G 61 t_goodAhead), (a_t_badAhead, cAI G 61 t_badAhead)] r [(a_t, .inr (7, [.ref a_t_score, .ref a_t_good, .ref a_t_bad, .ref a_t_goodAhead, .ref a_t_badAhead, .int (kI t_size)])), (a_t_score, cAI G 60 t_score), (a_t_good, cAI G 60 t_good), (a_t_bad, cAI G 60 t_bad), (a_t_goodAhead, cAI G 61 t_goodAhead), (a_t_badAhead, cAI G 61 t_badAhead)] := by
  refine met_of (Qc := fun A => QcI G A r [(a_t, .inr (7, [.ref a_t_score, .ref a_t_good, .ref a_t_bad, .ref a_t_goodAhead, .ref a_t_badAhead, .int (kI t_size)])), (a_t_score, cAI G 60 t_score), (a_t_good, cAI G 60 t_good), (a_t_bad, cAI G 60 t_bad), (a_t_goodAhead, cAI G 61 t_goodAhead), (a_t_badAhead, cAI G 61 t_badAhead)]) (by decide +kernel) (Nat.le_of_ble_eq_true rfl) ?_
  intro p e s m args below meth c A H locs ls cx hw hr hlk hnm hl
  have hl : lv_has ls 5 [(0, .ref a_t), (1, .int (kI x1)), (2, .int (kI x2))] := hl
  rw [m_X8_cheapest] at h
  obtain ⟨⟨hx, hb, -, -, -⟩, -⟩ := id cx
  refine ri_iconst hx hb dX8_cheapest_0 ?_
  refine lv_istore_n (lv' := [(3, .int (kI 0)), (0, .ref a_t), (1, .int (kI x1)), (2, .int (kI x2))]) hx hb dX8_cheapest_1 rfl hl (by decide) rfl (fun ls hl => ?_)
  refine ri_iconst hx hb dX8_cheapest_2 ?_
  refine lv_istore (lv' := [(4, .int (kI 1)), (3, .int (kI 0)), (0, .ref a_t), (1, .int (kI x1)), (2, .int (kI x2))]) hx hb dX8_cheapest_3 hl (by decide) rfl (fun ls hl => ?_)
  exact w_X8_cheapest_b5 cx hlk hr N a_t a_t_score a_t_good a_t_bad a_t_goodAhead a_t_badAhead t_size t_score t_good t_bad t_goodAhead t_badAhead x1 x2 r N 0 1 h _ _ _ hw (lv_sub hl [2, 3, 4, 1, 0] rfl)
set_option maxHeartbeats 4000000 in
set_option maxRecDepth 100000 in
theorem w_X8_leastCutOf_b2 {p : Program} {l : Launch} {e : Env} {s : State} {m : MethodId} {args : Array Value} {below : List Frame} {meth : Method} {c : Code} {A : Nat → Prop} {G : GG} (cx : CX p s m args c cX8_leastCutOf RX8 4 G) (hlk : meth.locks = false) (hr : meth.sig.returnType = some .int) (N : Nat) (a_t a_t_score a_t_good a_t_bad a_t_goodAhead a_t_badAhead : Nat) (t_size : Int) (t_score : Int → Int) (t_good : Int → Int) (t_bad : Int → Int) (t_goodAhead : Int → Int) (t_badAhead : Int → Int) (x1 : Int) (r : Int) : ∀ n : Nat, ∀ (y2 : Int), m_X8_leastCutOf_b2 N t_size t_score t_goodAhead t_badAhead x1 n y2 = some r → ∀ (H : Heap) (locs : List Loc) (ls : Array Slot), HP G A s.heap H locs [(a_t, .inr (7, [.ref a_t_score, .ref a_t_good, .ref a_t_bad, .ref a_t_goodAhead, .ref a_t_badAhead, .int (kI t_size)])), (a_t_score, cAI G 60 t_score), (a_t_good, cAI G 60 t_good), (a_t_bad, cAI G 60 t_bad), (a_t_goodAhead, cAI G 61 t_goodAhead), (a_t_badAhead, cAI G 61 t_badAhead)] → lv_has ls 4 [(0, .ref a_t), (1, .int (kI x1)), (2, .int (kI y2))] → W p l e (rmD 3 0 0) s m args below meth c H locs 0 0 (MQ below (QcI G A r [(a_t, .inr (7, [.ref a_t_score, .ref a_t_good, .ref a_t_bad, .ref a_t_goodAhead, .ref a_t_badAhead, .int (kI t_size)])), (a_t_score, cAI G 60 t_score), (a_t_good, cAI G 60 t_good), (a_t_bad, cAI G 60 t_bad), (a_t_goodAhead, cAI G 61 t_goodAhead), (a_t_badAhead, cAI G 61 t_badAhead)]) args s (rmD 3 0 0).cells (rmD 3 0 0).slots A) (F0 m 2 ls []) := by
  intro n
  induction n with
  | zero => intro y2 h; exact nomatch h
  | succ n ih =>
    intro y2 h H locs ls hw hl
    rw [m_X8_leastCutOf_b2] at h
    obtain ⟨⟨hx, hb, -, -, -⟩, -⟩ := id cx
    refine lv_iload_n hx hb dX8_leastCutOf_2 rfl (lv_at hl 2 rfl) ?_
    refine lv_aload_n hx hb dX8_leastCutOf_3 rfl (lv_at hl 0 rfl) ?_
    refine rf_get hx hb cx hw 0 rfl rfl 5 inX8 (by decide) fl_X8_27 rfl rfl dX8_leastCutOf_4 ?_
    obtain ⟨g1, h⟩ := gd_some h
    obtain ⟨g2, h⟩ := gd_some h
    refine ri_icmp_ge (tgt := 54) hx hb g1 g2 dX8_leastCutOf_7 (by decide) (fun c3 => ?_) (fun c3 => ?_)
    · have h := it_pos c3 h
      refine ri_iconst hx hb dX8_leastCutOf_54 ?_
      obtain rfl := so_inj h
      exact re_i hx hb hlk hr cx hw (Nat.le_of_ble_eq_true rfl) (Nat.le_of_ble_eq_true rfl) dX8_leastCutOf_55
    · have h := it_neg c3 h
      refine lv_aload_n hx hb dX8_leastCutOf_10 rfl (lv_at hl 0 rfl) ?_
      obtain ⟨r4, h4, h⟩ := bd_some h
      refine rc_I0 (v := r4) hw [0, 1, 2, 3, 4, 5] (rr_V cx hw (c_X8_cases l G H.size N a_t a_t_score a_t_good a_t_bad a_t_goodAhead a_t_badAhead t_size t_score t_good t_bad t_goodAhead t_badAhead _ h4) mv_X8_44 [0, 1, 2, 3, 4, 5] rfl rfl rfl 0 rfl rfl ⟨Nat.le_of_ble_eq_true rfl, Nat.le_of_ble_eq_true rfl⟩ rfl hl.1 rfl (Nat.le_of_ble_eq_true rfl) dX8_leastCutOf_11 ⟨Nat.le_of_ble_eq_true rfl, Nat.le_of_ble_eq_true rfl⟩) rfl rfl (fun H locs hw => ?_)
      refine lv_aload_n hx hb dX8_leastCutOf_14 rfl (lv_at hl 0 rfl) ?_
      refine lv_iload_n hx hb dX8_leastCutOf_15 rfl (lv_at hl 2 rfl) ?_
      obtain ⟨r5, h5, h⟩ := bd_some h
      refine rc_I0 (v := r5) hw [0, 1, 2, 3, 4, 5] (rr_V cx hw (c_X8_casesAhead l G H.size N a_t a_t_score a_t_good a_t_bad a_t_goodAhead a_t_badAhead t_size t_score t_good t_bad t_goodAhead t_badAhead y2 _ h5) mv_X8_56 [0, 1, 2, 3, 4, 5] rfl rfl rfl 0 rfl rfl ⟨Nat.le_of_ble_eq_true rfl, Nat.le_of_ble_eq_true rfl⟩ rfl hl.1 rfl (Nat.le_of_ble_eq_true rfl) dX8_leastCutOf_16 ⟨Nat.le_of_ble_eq_true rfl, Nat.le_of_ble_eq_true rfl⟩) rfl rfl (fun H locs hw => ?_)
      refine ri_isub hx hb dX8_leastCutOf_19 ?_
      refine lv_istore_n (lv' := [(3, .int (kI (r4 - r5))), (0, .ref a_t), (1, .int (kI x1)), (2, .int (kI y2))]) hx hb dX8_leastCutOf_20 rfl hl (by decide) rfl (fun ls hl => ?_)
      refine lv_aload_n hx hb dX8_leastCutOf_21 rfl (lv_at hl 1 rfl) ?_
      obtain ⟨r6, h6, h⟩ := bd_some h
      refine rc_I0 (v := r6) hw [0, 1, 2, 3, 4, 5] (rr_V cx hw (c_X8_bads l G H.size N a_t a_t_score a_t_good a_t_bad a_t_goodAhead a_t_badAhead t_size t_score t_good t_bad t_goodAhead t_badAhead _ h6) mv_X8_66 [0, 1, 2, 3, 4, 5] rfl rfl rfl 0 rfl rfl ⟨Nat.le_of_ble_eq_true rfl, Nat.le_of_ble_eq_true rfl⟩ rfl hl.1 rfl (Nat.le_of_ble_eq_true rfl) dX8_leastCutOf_22 ⟨Nat.le_of_ble_eq_true rfl, Nat.le_of_ble_eq_true rfl⟩) rfl rfl (fun H locs hw => ?_)
      refine lv_aload_n hx hb dX8_leastCutOf_25 rfl (lv_at hl 1 rfl) ?_
      refine rf_get hx hb cx hw 0 rfl rfl 4 inX8 (by decide) fl_X8_24 rfl rfl dX8_leastCutOf_26 ?_
      refine lv_iload_n hx hb dX8_leastCutOf_29 rfl (lv_at hl 3 rfl) ?_
      obtain ⟨g7, h⟩ := gd_some h
      refine ra_i hx hb cx hw 5 rfl (by decide) g7 dX8_leastCutOf_30 ?_
      refine ri_isub hx hb dX8_leastCutOf_31 ?_
      refine ri_sipush hx hb dX8_leastCutOf_32 rfl ?_
      refine ri_imul hx hb dX8_leastCutOf_35 ?_
      refine lv_iload_n hx hb dX8_leastCutOf_36 rfl (lv_at hl 2 rfl) ?_
      refine lv_iload_n hx hb dX8_leastCutOf_37 rfl (lv_at hl 0 rfl) ?_
      refine ri_imul hx hb dX8_leastCutOf_38 ?_
      obtain ⟨g8, h⟩ := gd_some h
      obtain ⟨g9, h⟩ := gd_some h
      refine ri_icmp_gt (tgt := 48) hx hb g8 g9 dX8_leastCutOf_39 (by decide) (fun c10 => ?_) (fun c10 => ?_)
      · have h := it_pos c10 h
        refine lv_iinc (v := kI (y2 + 1)) (lv' := [(2, .int (kI (y2 + 1))), (3, .int (kI (r4 - r5))), (0, .ref a_t), (1, .int (kI x1))]) hx hb dX8_leastCutOf_48 hl (k := 3) rfl (kI_add _ _) (by decide) rfl (fun ls hl => ?_)
        refine lv_goto (tgt := 2) hx hb dX8_leastCutOf_51 (by decide) ?_
        exact ih (y2 + 1) h _ _ _ hw (lv_sub hl [2, 3, 0] rfl)
      · have h := it_neg c10 h
        refine lv_aload_n hx hb dX8_leastCutOf_42 rfl (lv_at hl 1 rfl) ?_
        refine lv_iload_n hx hb dX8_leastCutOf_43 rfl (lv_at hl 3 rfl) ?_
        obtain ⟨r11, h11, h⟩ := bd_some h
        refine rc_I0 (v := r11) hw [0, 1, 2, 3, 4, 5] (rr_V cx hw (c_X8_cutBehind l G H.size N a_t a_t_score a_t_good a_t_bad a_t_goodAhead a_t_badAhead t_size t_score t_good t_bad t_goodAhead t_badAhead y2 _ h11) mv_X8_87 [0, 1, 2, 3, 4, 5] rfl rfl rfl 0 rfl rfl ⟨Nat.le_of_ble_eq_true rfl, Nat.le_of_ble_eq_true rfl⟩ rfl hl.1 rfl (Nat.le_of_ble_eq_true rfl) dX8_leastCutOf_44 ⟨Nat.le_of_ble_eq_true rfl, Nat.le_of_ble_eq_true rfl⟩) rfl rfl (fun H locs hw => ?_)
        obtain rfl := so_inj h
        exact re_i hx hb hlk hr cx hw (Nat.le_of_ble_eq_true rfl) (Nat.le_of_ble_eq_true rfl) dX8_leastCutOf_47
set_option maxHeartbeats 4000000 in
set_option maxRecDepth 100000 in
theorem c_X8_leastCutOf (l : Launch) (G : GG) (sz : Nat) (N : Nat) (a_t a_t_score a_t_good a_t_bad a_t_goodAhead a_t_badAhead : Nat) (t_size : Int) (t_score : Int → Int) (t_good : Int → Int) (t_bad : Int → Int) (t_goodAhead : Int → Int) (t_badAhead : Int → Int) (x1 : Int) (r : Int) (h : m_X8_leastCutOf N t_size t_score t_goodAhead t_badAhead x1 = some r) : CtI l yX8_leastCutOf cX8_leastCutOf 4 .int (rmD 3 0 0) G sz [.ref a_t, .int (kI x1)] [(a_t, .inr (7, [.ref a_t_score, .ref a_t_good, .ref a_t_bad, .ref a_t_goodAhead, .ref a_t_badAhead, .int (kI t_size)])), (a_t_score, cAI G 60 t_score), (a_t_good, cAI G 60 t_good), (a_t_bad, cAI G 60 t_bad), (a_t_goodAhead, cAI G 61 t_goodAhead), (a_t_badAhead, cAI G 61 t_badAhead)] r [(a_t, .inr (7, [.ref a_t_score, .ref a_t_good, .ref a_t_bad, .ref a_t_goodAhead, .ref a_t_badAhead, .int (kI t_size)])), (a_t_score, cAI G 60 t_score), (a_t_good, cAI G 60 t_good), (a_t_bad, cAI G 60 t_bad), (a_t_goodAhead, cAI G 61 t_goodAhead), (a_t_badAhead, cAI G 61 t_badAhead)] := by
  refine met_of (Qc := fun A => QcI G A r [(a_t, .inr (7, [.ref a_t_score, .ref a_t_good, .ref a_t_bad, .ref a_t_goodAhead, .ref a_t_badAhead, .int (kI t_size)])), (a_t_score, cAI G 60 t_score), (a_t_good, cAI G 60 t_good), (a_t_bad, cAI G 60 t_bad), (a_t_goodAhead, cAI G 61 t_goodAhead), (a_t_badAhead, cAI G 61 t_badAhead)]) (by decide +kernel) (Nat.le_of_ble_eq_true rfl) ?_
  intro p e s m args below meth c A H locs ls cx hw hr hlk hnm hl
  have hl : lv_has ls 4 [(0, .ref a_t), (1, .int (kI x1))] := hl
  rw [m_X8_leastCutOf] at h
  obtain ⟨⟨hx, hb, -, -, -⟩, -⟩ := id cx
  refine ri_iconst hx hb dX8_leastCutOf_0 ?_
  refine lv_istore_n (lv' := [(2, .int (kI 0)), (0, .ref a_t), (1, .int (kI x1))]) hx hb dX8_leastCutOf_1 rfl hl (by decide) rfl (fun ls hl => ?_)
  exact w_X8_leastCutOf_b2 cx hlk hr N a_t a_t_score a_t_good a_t_bad a_t_goodAhead a_t_badAhead t_size t_score t_good t_bad t_goodAhead t_badAhead x1 r N 0 h _ _ _ hw (lv_sub hl [1, 2, 0] rfl)
set_option maxHeartbeats 4000000 in
set_option maxRecDepth 100000 in
theorem w_X8_greatestCutOf_b24 {p : Program} {l : Launch} {e : Env} {s : State} {m : MethodId} {args : Array Value} {below : List Frame} {meth : Method} {c : Code} {A : Nat → Prop} {G : GG} (cx : CX p s m args c cX8_greatestCutOf RX8 3 G) (hlk : meth.locks = false) (hr : meth.sig.returnType = some .int) (N : Nat) (a_t a_t_score a_t_good a_t_bad a_t_goodAhead a_t_badAhead : Nat) (t_size : Int) (t_score : Int → Int) (t_good : Int → Int) (t_bad : Int → Int) (t_goodAhead : Int → Int) (t_badAhead : Int → Int) (x1 : Int) (r : Int) : ∀ n : Nat, ∀ (y2 : Int), m_X8_greatestCutOf_b24 N t_size t_score t_goodAhead t_badAhead x1 n y2 = some r → ∀ (H : Heap) (locs : List Loc) (ls : Array Slot), HP G A s.heap H locs [(a_t, .inr (7, [.ref a_t_score, .ref a_t_good, .ref a_t_bad, .ref a_t_goodAhead, .ref a_t_badAhead, .int (kI t_size)])), (a_t_score, cAI G 60 t_score), (a_t_good, cAI G 60 t_good), (a_t_bad, cAI G 60 t_bad), (a_t_goodAhead, cAI G 61 t_goodAhead), (a_t_badAhead, cAI G 61 t_badAhead)] → lv_has ls 3 [(0, .ref a_t), (1, .int (kI x1)), (2, .int (kI y2))] → W p l e (rmD 3 0 0) s m args below meth c H locs 0 0 (MQ below (QcI G A r [(a_t, .inr (7, [.ref a_t_score, .ref a_t_good, .ref a_t_bad, .ref a_t_goodAhead, .ref a_t_badAhead, .int (kI t_size)])), (a_t_score, cAI G 60 t_score), (a_t_good, cAI G 60 t_good), (a_t_bad, cAI G 60 t_bad), (a_t_goodAhead, cAI G 61 t_goodAhead), (a_t_badAhead, cAI G 61 t_badAhead)]) args s (rmD 3 0 0).cells (rmD 3 0 0).slots A) (F0 m 24 ls []) := by
  intro n
  induction n with
  | zero => intro y2 h; exact nomatch h
  | succ n ih =>
    intro y2 h H locs ls hw hl
    rw [m_X8_greatestCutOf_b24] at h
    obtain ⟨⟨hx, hb, -, -, -⟩, -⟩ := id cx
    refine lv_iload_n hx hb dX8_greatestCutOf_24 rfl (lv_at hl 2 rfl) ?_
    obtain ⟨g1, h⟩ := gd_some h
    refine ri_if_le (tgt := 64) hx hb g1 dX8_greatestCutOf_25 (by decide) (fun c2 => ?_) (fun c2 => ?_)
    · have h := it_pos c2 h
      refine lv_aload_n hx hb dX8_greatestCutOf_64 rfl (lv_at hl 0 rfl) ?_
      refine rf_get hx hb cx hw 0 rfl rfl 0 inX8 (by decide) fl_X8_9 rfl rfl dX8_greatestCutOf_65 ?_
      refine ri_iconst hx hb dX8_greatestCutOf_68 ?_
      refine ra_i hx hb cx hw 1 rfl (by decide) ⟨by decide, by decide⟩ dX8_greatestCutOf_69 ?_
      obtain rfl := so_inj h
      exact re_i hx hb hlk hr cx hw (Nat.le_of_ble_eq_true rfl) (Nat.le_of_ble_eq_true rfl) dX8_greatestCutOf_70
    · have h := it_neg c2 h
      refine lv_aload_n hx hb dX8_greatestCutOf_28 rfl (lv_at hl 0 rfl) ?_
      obtain ⟨r3, h3, h⟩ := bd_some h
      refine rc_I0 (v := r3) hw [0, 1, 2, 3, 4, 5] (rr_V cx hw (c_X8_cases l G H.size N a_t a_t_score a_t_good a_t_bad a_t_goodAhead a_t_badAhead t_size t_score t_good t_bad t_goodAhead t_badAhead _ h3) mv_X8_44 [0, 1, 2, 3, 4, 5] rfl rfl rfl 0 rfl rfl ⟨Nat.le_of_ble_eq_true rfl, Nat.le_of_ble_eq_true rfl⟩ rfl hl.1 rfl (Nat.le_of_ble_eq_true rfl) dX8_greatestCutOf_29 ⟨Nat.le_of_ble_eq_true rfl, Nat.le_of_ble_eq_true rfl⟩) rfl rfl (fun H locs hw => ?_)
      refine lv_aload_n hx hb dX8_greatestCutOf_32 rfl (lv_at hl 0 rfl) ?_
      refine lv_iload_n hx hb dX8_greatestCutOf_33 rfl (lv_at hl 2 rfl) ?_
      obtain ⟨r4, h4, h⟩ := bd_some h
      refine rc_I0 (v := r4) hw [0, 1, 2, 3, 4, 5] (rr_V cx hw (c_X8_casesAhead l G H.size N a_t a_t_score a_t_good a_t_bad a_t_goodAhead a_t_badAhead t_size t_score t_good t_bad t_goodAhead t_badAhead y2 _ h4) mv_X8_56 [0, 1, 2, 3, 4, 5] rfl rfl rfl 0 rfl rfl ⟨Nat.le_of_ble_eq_true rfl, Nat.le_of_ble_eq_true rfl⟩ rfl hl.1 rfl (Nat.le_of_ble_eq_true rfl) dX8_greatestCutOf_34 ⟨Nat.le_of_ble_eq_true rfl, Nat.le_of_ble_eq_true rfl⟩) rfl rfl (fun H locs hw => ?_)
      refine ri_isub hx hb dX8_greatestCutOf_37 ?_
      refine ri_sipush hx hb dX8_greatestCutOf_38 rfl ?_
      refine ri_imul hx hb dX8_greatestCutOf_41 ?_
      refine lv_iload_n hx hb dX8_greatestCutOf_42 rfl (lv_at hl 1 rfl) ?_
      refine lv_aload_n hx hb dX8_greatestCutOf_43 rfl (lv_at hl 0 rfl) ?_
      obtain ⟨r5, h5, h⟩ := bd_some h
      refine rc_I0 (v := r5) hw [0, 1, 2, 3, 4, 5] (rr_V cx hw (c_X8_cases l G H.size N a_t a_t_score a_t_good a_t_bad a_t_goodAhead a_t_badAhead t_size t_score t_good t_bad t_goodAhead t_badAhead _ h5) mv_X8_44 [0, 1, 2, 3, 4, 5] rfl rfl rfl 0 rfl rfl ⟨Nat.le_of_ble_eq_true rfl, Nat.le_of_ble_eq_true rfl⟩ rfl hl.1 rfl (Nat.le_of_ble_eq_true rfl) dX8_greatestCutOf_44 ⟨Nat.le_of_ble_eq_true rfl, Nat.le_of_ble_eq_true rfl⟩) rfl rfl (fun H locs hw => ?_)
      refine ri_imul hx hb dX8_greatestCutOf_47 ?_
      obtain ⟨g6, h⟩ := gd_some h
      obtain ⟨g7, h⟩ := gd_some h
      refine ri_icmp_lt (tgt := 58) hx hb g6 g7 dX8_greatestCutOf_48 (by decide) (fun c8 => ?_) (fun c8 => ?_)
      · have h := it_pos c8 h
        refine lv_iinc (v := kI (y2 + (-1))) (lv' := [(2, .int (kI (y2 + (-1)))), (0, .ref a_t), (1, .int (kI x1))]) hx hb dX8_greatestCutOf_58 hl (k := 2) rfl (kI_add _ _) (by decide) rfl (fun ls hl => ?_)
        refine lv_goto (tgt := 24) hx hb dX8_greatestCutOf_61 (by decide) ?_
        exact ih (y2 + (-1)) h _ _ _ hw (lv_sub hl [1, 2, 0] rfl)
      · have h := it_neg c8 h
        refine lv_aload_n hx hb dX8_greatestCutOf_51 rfl (lv_at hl 0 rfl) ?_
        refine rf_get hx hb cx hw 0 rfl rfl 0 inX8 (by decide) fl_X8_9 rfl rfl dX8_greatestCutOf_52 ?_
        refine lv_iload_n hx hb dX8_greatestCutOf_55 rfl (lv_at hl 2 rfl) ?_
        obtain ⟨g9, h⟩ := gd_some h
        refine ra_i hx hb cx hw 1 rfl (by decide) g9 dX8_greatestCutOf_56 ?_
        obtain rfl := so_inj h
        exact re_i hx hb hlk hr cx hw (Nat.le_of_ble_eq_true rfl) (Nat.le_of_ble_eq_true rfl) dX8_greatestCutOf_57
set_option maxHeartbeats 4000000 in
set_option maxRecDepth 100000 in
theorem c_X8_greatestCutOf (l : Launch) (G : GG) (sz : Nat) (N : Nat) (a_t a_t_score a_t_good a_t_bad a_t_goodAhead a_t_badAhead : Nat) (t_size : Int) (t_score : Int → Int) (t_good : Int → Int) (t_bad : Int → Int) (t_goodAhead : Int → Int) (t_badAhead : Int → Int) (x1 : Int) (r : Int) (h : m_X8_greatestCutOf N t_size t_score t_goodAhead t_badAhead x1 = some r) : CtI l yX8_greatestCutOf cX8_greatestCutOf 3 .int (rmD 3 0 0) G sz [.ref a_t, .int (kI x1)] [(a_t, .inr (7, [.ref a_t_score, .ref a_t_good, .ref a_t_bad, .ref a_t_goodAhead, .ref a_t_badAhead, .int (kI t_size)])), (a_t_score, cAI G 60 t_score), (a_t_good, cAI G 60 t_good), (a_t_bad, cAI G 60 t_bad), (a_t_goodAhead, cAI G 61 t_goodAhead), (a_t_badAhead, cAI G 61 t_badAhead)] r [(a_t, .inr (7, [.ref a_t_score, .ref a_t_good, .ref a_t_bad, .ref a_t_goodAhead, .ref a_t_badAhead, .int (kI t_size)])), (a_t_score, cAI G 60 t_score), (a_t_good, cAI G 60 t_good), (a_t_bad, cAI G 60 t_bad), (a_t_goodAhead, cAI G 61 t_goodAhead), (a_t_badAhead, cAI G 61 t_badAhead)] := by
  refine met_of (Qc := fun A => QcI G A r [(a_t, .inr (7, [.ref a_t_score, .ref a_t_good, .ref a_t_bad, .ref a_t_goodAhead, .ref a_t_badAhead, .int (kI t_size)])), (a_t_score, cAI G 60 t_score), (a_t_good, cAI G 60 t_good), (a_t_bad, cAI G 60 t_bad), (a_t_goodAhead, cAI G 61 t_goodAhead), (a_t_badAhead, cAI G 61 t_badAhead)]) (by decide +kernel) (Nat.le_of_ble_eq_true rfl) ?_
  intro p e s m args below meth c A H locs ls cx hw hr hlk hnm hl
  have hl : lv_has ls 3 [(0, .ref a_t), (1, .int (kI x1))] := hl
  rw [m_X8_greatestCutOf] at h
  obtain ⟨⟨hx, hb, -, -, -⟩, -⟩ := id cx
  refine lv_aload_n hx hb dX8_greatestCutOf_0 rfl (lv_at hl 0 rfl) ?_
  refine rf_get hx hb cx hw 0 rfl rfl 5 inX8 (by decide) fl_X8_27 rfl rfl dX8_greatestCutOf_1 ?_
  obtain ⟨g1, h⟩ := gd_some h
  refine ri_if_ne (tgt := 9) hx hb g1 dX8_greatestCutOf_4 (by decide) (fun c2 => ?_) (fun c2 => ?_)
  · have h := it_pos c2 h
    refine ri_iconst hx hb dX8_greatestCutOf_7 ?_
    obtain rfl := so_inj h
    exact re_i hx hb hlk hr cx hw (Nat.le_of_ble_eq_true rfl) (Nat.le_of_ble_eq_true rfl) dX8_greatestCutOf_8
  · have h := it_neg c2 h
    refine lv_iload_n hx hb dX8_greatestCutOf_9 rfl (lv_at hl 1 rfl) ?_
    obtain ⟨g3, h⟩ := gd_some h
    refine ri_if_ne (tgt := 17) hx hb g3 dX8_greatestCutOf_10 (by decide) (fun c4 => ?_) (fun c4 => ?_)
    · have h := it_pos c4 h
      refine ri_sipush hx hb dX8_greatestCutOf_13 rfl ?_
      obtain rfl := so_inj h
      exact re_i hx hb hlk hr cx hw (Nat.le_of_ble_eq_true rfl) (Nat.le_of_ble_eq_true rfl) dX8_greatestCutOf_16
    · have h := it_neg c4 h
      refine lv_aload_n hx hb dX8_greatestCutOf_17 rfl (lv_at hl 0 rfl) ?_
      refine rf_get hx hb cx hw 0 rfl rfl 5 inX8 (by decide) fl_X8_27 rfl rfl dX8_greatestCutOf_18 ?_
      refine ri_iconst hx hb dX8_greatestCutOf_21 ?_
      refine ri_isub hx hb dX8_greatestCutOf_22 ?_
      refine lv_istore_n (lv' := [(2, .int (kI (t_size - 1))), (0, .ref a_t), (1, .int (kI x1))]) hx hb dX8_greatestCutOf_23 rfl hl (by decide) rfl (fun ls hl => ?_)
      exact w_X8_greatestCutOf_b24 cx hlk hr N a_t a_t_score a_t_good a_t_bad a_t_goodAhead a_t_badAhead t_size t_score t_good t_bad t_goodAhead t_badAhead x1 r N (t_size - 1) h _ _ _ hw (lv_sub hl [1, 2, 0] rfl)
set_option maxHeartbeats 4000000 in
set_option maxRecDepth 100000 in
theorem w_X8_badOfFew_b2 {p : Program} {l : Launch} {e : Env} {s : State} {m : MethodId} {args : Array Value} {below : List Frame} {meth : Method} {c : Code} {A : Nat → Prop} {G : GG} (cx : CX p s m args c cX8_badOfFew RX8 3 G) (hlk : meth.locks = false) (hr : meth.sig.returnType = some .int) (N : Nat) (a_t a_t_score a_t_good a_t_bad a_t_goodAhead a_t_badAhead : Nat) (t_size : Int) (t_score : Int → Int) (t_good : Int → Int) (t_bad : Int → Int) (t_goodAhead : Int → Int) (t_badAhead : Int → Int) (x1 : Int) (r : Int) : ∀ n : Nat, ∀ (y2 : Int), m_X8_badOfFew_b2 N t_size t_goodAhead t_badAhead x1 n y2 = some r → ∀ (H : Heap) (locs : List Loc) (ls : Array Slot), HP G A s.heap H locs [(a_t, .inr (7, [.ref a_t_score, .ref a_t_good, .ref a_t_bad, .ref a_t_goodAhead, .ref a_t_badAhead, .int (kI t_size)])), (a_t_score, cAI G 60 t_score), (a_t_good, cAI G 60 t_good), (a_t_bad, cAI G 60 t_bad), (a_t_goodAhead, cAI G 61 t_goodAhead), (a_t_badAhead, cAI G 61 t_badAhead)] → lv_has ls 3 [(0, .ref a_t), (1, .int (kI x1)), (2, .int (kI y2))] → W p l e (rmD 3 0 0) s m args below meth c H locs 0 0 (MQ below (QcI G A r [(a_t, .inr (7, [.ref a_t_score, .ref a_t_good, .ref a_t_bad, .ref a_t_goodAhead, .ref a_t_badAhead, .int (kI t_size)])), (a_t_score, cAI G 60 t_score), (a_t_good, cAI G 60 t_good), (a_t_bad, cAI G 60 t_bad), (a_t_goodAhead, cAI G 61 t_goodAhead), (a_t_badAhead, cAI G 61 t_badAhead)]) args s (rmD 3 0 0).cells (rmD 3 0 0).slots A) (F0 m 2 ls []) := by
  intro n
  induction n with
  | zero => intro y2 h; exact nomatch h
  | succ n ih =>
    intro y2 h H locs ls hw hl
    rw [m_X8_badOfFew_b2] at h
    obtain ⟨⟨hx, hb, -, -, -⟩, -⟩ := id cx
    refine lv_iload_n hx hb dX8_badOfFew_2 rfl (lv_at hl 2 rfl) ?_
    refine lv_aload_n hx hb dX8_badOfFew_3 rfl (lv_at hl 0 rfl) ?_
    refine rf_get hx hb cx hw 0 rfl rfl 5 inX8 (by decide) fl_X8_27 rfl rfl dX8_badOfFew_4 ?_
    obtain ⟨g1, h⟩ := gd_some h
    obtain ⟨g2, h⟩ := gd_some h
    refine ri_icmp_ge (tgt := 41) hx hb g1 g2 dX8_badOfFew_7 (by decide) (fun c3 => ?_) (fun c3 => ?_)
    · have h := it_pos c3 h
      refine lv_aload_n hx hb dX8_badOfFew_41 rfl (lv_at hl 0 rfl) ?_
      obtain ⟨r4, h4, h⟩ := bd_some h
      refine rc_I0 (v := r4) hw [0, 1, 2, 3, 4, 5] (rr_V cx hw (c_X8_bads l G H.size N a_t a_t_score a_t_good a_t_bad a_t_goodAhead a_t_badAhead t_size t_score t_good t_bad t_goodAhead t_badAhead _ h4) mv_X8_66 [0, 1, 2, 3, 4, 5] rfl rfl rfl 0 rfl rfl ⟨Nat.le_of_ble_eq_true rfl, Nat.le_of_ble_eq_true rfl⟩ rfl hl.1 rfl (Nat.le_of_ble_eq_true rfl) dX8_badOfFew_42 ⟨Nat.le_of_ble_eq_true rfl, Nat.le_of_ble_eq_true rfl⟩) rfl rfl (fun H locs hw => ?_)
      obtain rfl := so_inj h
      exact re_i hx hb hlk hr cx hw (Nat.le_of_ble_eq_true rfl) (Nat.le_of_ble_eq_true rfl) dX8_badOfFew_45
    · have h := it_neg c3 h
      refine lv_aload_n hx hb dX8_badOfFew_10 rfl (lv_at hl 0 rfl) ?_
      refine lv_iload_n hx hb dX8_badOfFew_11 rfl (lv_at hl 2 rfl) ?_
      obtain ⟨r5, h5, h⟩ := bd_some h
      refine rc_I0 (v := r5) hw [0, 1, 2, 3, 4, 5] (rr_V cx hw (c_X8_casesAhead l G H.size N a_t a_t_score a_t_good a_t_bad a_t_goodAhead a_t_badAhead t_size t_score t_good t_bad t_goodAhead t_badAhead y2 _ h5) mv_X8_56 [0, 1, 2, 3, 4, 5] rfl rfl rfl 0 rfl rfl ⟨Nat.le_of_ble_eq_true rfl, Nat.le_of_ble_eq_true rfl⟩ rfl hl.1 rfl (Nat.le_of_ble_eq_true rfl) dX8_badOfFew_12 ⟨Nat.le_of_ble_eq_true rfl, Nat.le_of_ble_eq_true rfl⟩) rfl rfl (fun H locs hw => ?_)
      refine ri_sipush hx hb dX8_badOfFew_15 rfl ?_
      refine ri_imul hx hb dX8_badOfFew_18 ?_
      refine lv_iload_n hx hb dX8_badOfFew_19 rfl (lv_at hl 1 rfl) ?_
      refine lv_aload_n hx hb dX8_badOfFew_20 rfl (lv_at hl 0 rfl) ?_
      obtain ⟨r6, h6, h⟩ := bd_some h
      refine rc_I0 (v := r6) hw [0, 1, 2, 3, 4, 5] (rr_V cx hw (c_X8_cases l G H.size N a_t a_t_score a_t_good a_t_bad a_t_goodAhead a_t_badAhead t_size t_score t_good t_bad t_goodAhead t_badAhead _ h6) mv_X8_44 [0, 1, 2, 3, 4, 5] rfl rfl rfl 0 rfl rfl ⟨Nat.le_of_ble_eq_true rfl, Nat.le_of_ble_eq_true rfl⟩ rfl hl.1 rfl (Nat.le_of_ble_eq_true rfl) dX8_badOfFew_21 ⟨Nat.le_of_ble_eq_true rfl, Nat.le_of_ble_eq_true rfl⟩) rfl rfl (fun H locs hw => ?_)
      refine ri_imul hx hb dX8_badOfFew_24 ?_
      obtain ⟨g7, h⟩ := gd_some h
      obtain ⟨g8, h⟩ := gd_some h
      refine ri_icmp_lt (tgt := 35) hx hb g7 g8 dX8_badOfFew_25 (by decide) (fun c9 => ?_) (fun c9 => ?_)
      · have h := it_pos c9 h
        refine lv_iinc (v := kI (y2 + 1)) (lv' := [(2, .int (kI (y2 + 1))), (0, .ref a_t), (1, .int (kI x1))]) hx hb dX8_badOfFew_35 hl (k := 2) rfl (kI_add _ _) (by decide) rfl (fun ls hl => ?_)
        refine lv_goto (tgt := 2) hx hb dX8_badOfFew_38 (by decide) ?_
        exact ih (y2 + 1) h _ _ _ hw (lv_sub hl [1, 2, 0] rfl)
      · have h := it_neg c9 h
        refine lv_aload_n hx hb dX8_badOfFew_28 rfl (lv_at hl 0 rfl) ?_
        refine rf_get hx hb cx hw 0 rfl rfl 4 inX8 (by decide) fl_X8_24 rfl rfl dX8_badOfFew_29 ?_
        refine lv_iload_n hx hb dX8_badOfFew_32 rfl (lv_at hl 2 rfl) ?_
        obtain ⟨g10, h⟩ := gd_some h
        refine ra_i hx hb cx hw 5 rfl (by decide) g10 dX8_badOfFew_33 ?_
        obtain rfl := so_inj h
        exact re_i hx hb hlk hr cx hw (Nat.le_of_ble_eq_true rfl) (Nat.le_of_ble_eq_true rfl) dX8_badOfFew_34
set_option maxHeartbeats 4000000 in
set_option maxRecDepth 100000 in
theorem c_X8_badOfFew (l : Launch) (G : GG) (sz : Nat) (N : Nat) (a_t a_t_score a_t_good a_t_bad a_t_goodAhead a_t_badAhead : Nat) (t_size : Int) (t_score : Int → Int) (t_good : Int → Int) (t_bad : Int → Int) (t_goodAhead : Int → Int) (t_badAhead : Int → Int) (x1 : Int) (r : Int) (h : m_X8_badOfFew N t_size t_goodAhead t_badAhead x1 = some r) : CtI l yX8_badOfFew cX8_badOfFew 3 .int (rmD 3 0 0) G sz [.ref a_t, .int (kI x1)] [(a_t, .inr (7, [.ref a_t_score, .ref a_t_good, .ref a_t_bad, .ref a_t_goodAhead, .ref a_t_badAhead, .int (kI t_size)])), (a_t_score, cAI G 60 t_score), (a_t_good, cAI G 60 t_good), (a_t_bad, cAI G 60 t_bad), (a_t_goodAhead, cAI G 61 t_goodAhead), (a_t_badAhead, cAI G 61 t_badAhead)] r [(a_t, .inr (7, [.ref a_t_score, .ref a_t_good, .ref a_t_bad, .ref a_t_goodAhead, .ref a_t_badAhead, .int (kI t_size)])), (a_t_score, cAI G 60 t_score), (a_t_good, cAI G 60 t_good), (a_t_bad, cAI G 60 t_bad), (a_t_goodAhead, cAI G 61 t_goodAhead), (a_t_badAhead, cAI G 61 t_badAhead)] := by
  refine met_of (Qc := fun A => QcI G A r [(a_t, .inr (7, [.ref a_t_score, .ref a_t_good, .ref a_t_bad, .ref a_t_goodAhead, .ref a_t_badAhead, .int (kI t_size)])), (a_t_score, cAI G 60 t_score), (a_t_good, cAI G 60 t_good), (a_t_bad, cAI G 60 t_bad), (a_t_goodAhead, cAI G 61 t_goodAhead), (a_t_badAhead, cAI G 61 t_badAhead)]) (by decide +kernel) (Nat.le_of_ble_eq_true rfl) ?_
  intro p e s m args below meth c A H locs ls cx hw hr hlk hnm hl
  have hl : lv_has ls 3 [(0, .ref a_t), (1, .int (kI x1))] := hl
  rw [m_X8_badOfFew] at h
  obtain ⟨⟨hx, hb, -, -, -⟩, -⟩ := id cx
  refine ri_iconst hx hb dX8_badOfFew_0 ?_
  refine lv_istore_n (lv' := [(2, .int (kI 0)), (0, .ref a_t), (1, .int (kI x1))]) hx hb dX8_badOfFew_1 rfl hl (by decide) rfl (fun ls hl => ?_)
  exact w_X8_badOfFew_b2 cx hlk hr N a_t a_t_score a_t_good a_t_bad a_t_goodAhead a_t_badAhead t_size t_score t_good t_bad t_goodAhead t_badAhead x1 r N 0 h _ _ _ hw (lv_sub hl [1, 2, 0] rfl)
set_option maxHeartbeats 4000000 in
set_option maxRecDepth 100000 in
theorem w_X9_scoresTogether_b4 {p : Program} {l : Launch} {e : Env} {s : State} {m : MethodId} {args : Array Value} {below : List Frame} {meth : Method} {c : Code} {A : Nat → Prop} {G : GG} (cx : CX p s m args c cX9_scoresTogether RX9 4 G) (hlk : meth.locks = false) (hr : meth.sig.returnType = some .long) (N : Nat) (a_t a_t_score a_t_cases : Nat) (t_size : Int) (t_total : Int) (t_score : Int → Int) (t_score_n : Nat) (t_cases : Int → Int) (t_cases_n : Nat) (hn_t_score : t_score_n < 2147483648) (hn_t_cases : t_cases_n < 2147483648) (r : Int) : ∀ n : Nat, ∀ (y1 : Int) (y3 : Int), m_X9_scoresTogether_b4 N t_size t_score t_score_n t_cases t_cases_n n y1 y3 = some r → ∀ (H : Heap) (locs : List Loc) (ls : Array Slot), HP G A s.heap H locs [(a_t, .inr (8, [.ref a_t_score, .ref a_t_cases, .int (kI t_size), .int (kI t_total)])), (a_t_score, cAI G t_score_n t_score), (a_t_cases, cAI G t_cases_n t_cases)] → lv_has ls 4 [(0, .ref a_t), (1, .long (kL y1)), (3, .int (kI y3))] → W p l e (rmD 1 0 0) s m args below meth c H locs 0 0 (MQ below (QcL G A r [(a_t, .inr (8, [.ref a_t_score, .ref a_t_cases, .int (kI t_size), .int (kI t_total)])), (a_t_score, cAI G t_score_n t_score), (a_t_cases, cAI G t_cases_n t_cases)]) args s (rmD 1 0 0).cells (rmD 1 0 0).slots A) (F0 m 4 ls []) := by
  intro n
  induction n with
  | zero => intro y1 y3 h; exact nomatch h
  | succ n ih =>
    intro y1 y3 h H locs ls hw hl
    rw [m_X9_scoresTogether_b4] at h
    obtain ⟨⟨hx, hb, -, -, -⟩, -⟩ := id cx
    refine lv_iload_n hx hb dX9_scoresTogether_4 rfl (lv_at hl 2 rfl) ?_
    refine lv_aload_n hx hb dX9_scoresTogether_5 rfl (lv_at hl 0 rfl) ?_
    refine rf_get hx hb cx hw 0 rfl rfl 2 inX9 (by decide) fl_X9_13 rfl rfl dX9_scoresTogether_6 ?_
    obtain ⟨g1, h⟩ := gd_some h
    obtain ⟨g2, h⟩ := gd_some h
    refine ri_icmp_ge (tgt := 36) hx hb g1 g2 dX9_scoresTogether_9 (by decide) (fun c3 => ?_) (fun c3 => ?_)
    · have h := it_pos c3 h
      refine lv_lload_n hx hb dX9_scoresTogether_36 rfl (lv_at hl 1 rfl) ?_
      obtain rfl := so_inj h
      exact re_l hx hb hlk hr cx hw (Nat.le_of_ble_eq_true rfl) (Nat.le_of_ble_eq_true rfl) dX9_scoresTogether_37
    · have h := it_neg c3 h
      refine lv_lload_n hx hb dX9_scoresTogether_12 rfl (lv_at hl 1 rfl) ?_
      refine lv_aload_n hx hb dX9_scoresTogether_13 rfl (lv_at hl 0 rfl) ?_
      refine rf_get hx hb cx hw 0 rfl rfl 0 inX9 (by decide) fl_X9_28 rfl rfl dX9_scoresTogether_14 ?_
      refine lv_iload_n hx hb dX9_scoresTogether_17 rfl (lv_at hl 2 rfl) ?_
      obtain ⟨g4, h⟩ := gd_some h
      refine ra_i hx hb cx hw 1 rfl hn_t_score g4 dX9_scoresTogether_18 ?_
      obtain ⟨g5, h⟩ := gd_some h
      refine ri_i2l hx hb g5 dX9_scoresTogether_19 ?_
      refine lv_aload_n hx hb dX9_scoresTogether_20 rfl (lv_at hl 0 rfl) ?_
      refine rf_get hx hb cx hw 0 rfl rfl 1 inX9 (by decide) fl_X9_29 rfl rfl dX9_scoresTogether_21 ?_
      refine lv_iload_n hx hb dX9_scoresTogether_24 rfl (lv_at hl 2 rfl) ?_
      obtain ⟨g6, h⟩ := gd_some h
      refine ra_i hx hb cx hw 2 rfl hn_t_cases g6 dX9_scoresTogether_25 ?_
      obtain ⟨g7, h⟩ := gd_some h
      refine ri_i2l hx hb g7 dX9_scoresTogether_26 ?_
      refine ri_lmul hx hb dX9_scoresTogether_27 ?_
      refine ri_ladd hx hb dX9_scoresTogether_28 ?_
      refine lv_lstore_n (lv' := [(1, .long (kL (y1 + ((t_score y3) * (t_cases y3))))), (0, .ref a_t), (3, .int (kI y3))]) hx hb dX9_scoresTogether_29 rfl hl (by decide) rfl (fun ls hl => ?_)
      refine lv_iinc (v := kI (y3 + 1)) (lv' := [(3, .int (kI (y3 + 1))), (1, .long (kL (y1 + ((t_score y3) * (t_cases y3))))), (0, .ref a_t)]) hx hb dX9_scoresTogether_30 hl (k := 2) rfl (kI_add _ _) (by decide) rfl (fun ls hl => ?_)
      refine lv_goto (tgt := 4) hx hb dX9_scoresTogether_33 (by decide) ?_
      exact ih (y1 + ((t_score y3) * (t_cases y3))) (y3 + 1) h _ _ _ hw (lv_sub hl [2, 1, 0] rfl)
set_option maxHeartbeats 4000000 in
set_option maxRecDepth 100000 in
theorem c_X9_scoresTogether (l : Launch) (G : GG) (sz : Nat) (N : Nat) (a_t a_t_score a_t_cases : Nat) (t_size : Int) (t_total : Int) (t_score : Int → Int) (t_score_n : Nat) (t_cases : Int → Int) (t_cases_n : Nat)  (hn_t_score : t_score_n < 2147483648) (hn_t_cases : t_cases_n < 2147483648) (r : Int) (h : m_X9_scoresTogether N t_size t_score t_score_n t_cases t_cases_n = some r) : CtL l yX9_scoresTogether cX9_scoresTogether 4 (rmD 1 0 0) G sz [.ref a_t] [(a_t, .inr (8, [.ref a_t_score, .ref a_t_cases, .int (kI t_size), .int (kI t_total)])), (a_t_score, cAI G t_score_n t_score), (a_t_cases, cAI G t_cases_n t_cases)] r [(a_t, .inr (8, [.ref a_t_score, .ref a_t_cases, .int (kI t_size), .int (kI t_total)])), (a_t_score, cAI G t_score_n t_score), (a_t_cases, cAI G t_cases_n t_cases)] := by
  refine met_of (Qc := fun A => QcL G A r [(a_t, .inr (8, [.ref a_t_score, .ref a_t_cases, .int (kI t_size), .int (kI t_total)])), (a_t_score, cAI G t_score_n t_score), (a_t_cases, cAI G t_cases_n t_cases)]) (by decide +kernel) (Nat.le_of_ble_eq_true rfl) ?_
  intro p e s m args below meth c A H locs ls cx hw hr hlk hnm hl
  have hl : lv_has ls 4 [(0, .ref a_t)] := hl
  rw [m_X9_scoresTogether] at h
  obtain ⟨⟨hx, hb, -, -, -⟩, -⟩ := id cx
  refine ri_lconst hx hb 0 dX9_scoresTogether_0 rfl ?_
  refine lv_lstore_n (lv' := [(1, .long (kL 0)), (0, .ref a_t)]) hx hb dX9_scoresTogether_1 rfl hl (by decide) rfl (fun ls hl => ?_)
  refine ri_iconst hx hb dX9_scoresTogether_2 ?_
  refine lv_istore_n (lv' := [(3, .int (kI 0)), (1, .long (kL 0)), (0, .ref a_t)]) hx hb dX9_scoresTogether_3 rfl hl (by decide) rfl (fun ls hl => ?_)
  exact w_X9_scoresTogether_b4 cx hlk hr N a_t a_t_score a_t_cases t_size t_total t_score t_score_n t_cases t_cases_n hn_t_score hn_t_cases r N 0 0 h _ _ _ hw (lv_sub hl [2, 1, 0] rfl)
set_option maxHeartbeats 4000000 in
set_option maxRecDepth 100000 in
theorem c_X10_clear (l : Launch) (G : GG) (sz : Nat) (N : Nat) (a_t a_t_whole a_t_begins a_t_fewer a_t_told : Nat) (t_runs : Int) (t_whole : Int → UInt64) (t_begins : Int → Int) (t_fewer : Int → UInt64) (t_told : Int → UInt64)  (r : Int) (h : m_X10_clear N t_runs = some r) : CtV l yX10_clear cX10_clear 1 (rmD 1 0 0) G sz [.ref a_t] [(a_t, .inr (9, [.ref a_t_whole, .ref a_t_begins, .ref a_t_fewer, .ref a_t_told, .int (kI t_runs)])), (a_t_whole, cAD G 61 t_whole), (a_t_begins, cAI G 3721 t_begins), (a_t_fewer, cAD G 61 t_fewer), (a_t_told, cAD G 61 t_told)] [(a_t, .inr (9, [.ref a_t_whole, .ref a_t_begins, .ref a_t_fewer, .ref a_t_told, .int (kI r)])), (a_t_whole, cAD G 61 t_whole), (a_t_begins, cAI G 3721 t_begins), (a_t_fewer, cAD G 61 t_fewer), (a_t_told, cAD G 61 t_told)] := by
  refine met_of (Qc := fun A => QcV G A [(a_t, .inr (9, [.ref a_t_whole, .ref a_t_begins, .ref a_t_fewer, .ref a_t_told, .int (kI r)])), (a_t_whole, cAD G 61 t_whole), (a_t_begins, cAI G 3721 t_begins), (a_t_fewer, cAD G 61 t_fewer), (a_t_told, cAD G 61 t_told)]) (by decide +kernel) (Nat.le_of_ble_eq_true rfl) ?_
  intro p e s m args below meth c A H locs ls cx hw hr hlk hnm hl
  have hl : lv_has ls 1 [(0, .ref a_t)] := hl
  rw [m_X10_clear] at h
  obtain ⟨⟨hx, hb, -, -, -⟩, -⟩ := id cx
  refine lv_aload_n hx hb dX10_clear_0 rfl (lv_at hl 0 rfl) ?_
  refine ri_iconst hx hb dX10_clear_1 ?_
  refine rf_put hx hb cx hw 0 rfl rfl 4 inX10 tyX10 tyX10_ok nmX10 (by decide) fl_X10_25 rfl rfl rfl rfl (Nat.le_of_ble_eq_true rfl) dX10_clear_2 (fun H locs hw => ?_)
  have hw : HP G A s.heap H locs [(a_t, .inr (9, [.ref a_t_whole, .ref a_t_begins, .ref a_t_fewer, .ref a_t_told, .int (kI 0)])), (a_t_whole, cAD G 61 t_whole), (a_t_begins, cAI G 3721 t_begins), (a_t_fewer, cAD G 61 t_fewer), (a_t_told, cAD G 61 t_told)] := hw
  obtain rfl := so_inj h
  exact re_v hx hb hlk hr cx hw (Nat.le_of_ble_eq_true rfl) (Nat.le_of_ble_eq_true rfl) dX10_clear_5
set_option maxHeartbeats 4000000 in
set_option maxRecDepth 100000 in
theorem c_X10_runError (l : Launch) (G : GG) (sz : Nat) (N : Nat) (a_p0 a_p0_score a_p0_good a_p0_bad a_p0_goodAhead a_p0_badAhead : Nat) (p0_size : Int) (p0_score : Int → Int) (p0_good : Int → Int) (p0_bad : Int → Int) (p0_goodAhead : Int → Int) (p0_badAhead : Int → Int) (x1 : Int) (x2 : Int) (r : UInt64) (h : m_X10_runError N p0_goodAhead p0_badAhead x1 x2 = some r) : CtD l yX10_runError cX10_runError 7 (rmD 2 0 0) G sz [.ref a_p0, .int (kI x1), .int (kI x2)] [(a_p0, .inr (7, [.ref a_p0_score, .ref a_p0_good, .ref a_p0_bad, .ref a_p0_goodAhead, .ref a_p0_badAhead, .int (kI p0_size)])), (a_p0_score, cAI G 60 p0_score), (a_p0_good, cAI G 60 p0_good), (a_p0_bad, cAI G 60 p0_bad), (a_p0_goodAhead, cAI G 61 p0_goodAhead), (a_p0_badAhead, cAI G 61 p0_badAhead)] r [(a_p0, .inr (7, [.ref a_p0_score, .ref a_p0_good, .ref a_p0_bad, .ref a_p0_goodAhead, .ref a_p0_badAhead, .int (kI p0_size)])), (a_p0_score, cAI G 60 p0_score), (a_p0_good, cAI G 60 p0_good), (a_p0_bad, cAI G 60 p0_bad), (a_p0_goodAhead, cAI G 61 p0_goodAhead), (a_p0_badAhead, cAI G 61 p0_badAhead)] := by
  refine met_of (Qc := fun A => QcD G A r [(a_p0, .inr (7, [.ref a_p0_score, .ref a_p0_good, .ref a_p0_bad, .ref a_p0_goodAhead, .ref a_p0_badAhead, .int (kI p0_size)])), (a_p0_score, cAI G 60 p0_score), (a_p0_good, cAI G 60 p0_good), (a_p0_bad, cAI G 60 p0_bad), (a_p0_goodAhead, cAI G 61 p0_goodAhead), (a_p0_badAhead, cAI G 61 p0_badAhead)]) (by decide +kernel) (Nat.le_of_ble_eq_true rfl) ?_
  intro p e s m args below meth c A H locs ls cx hw hr hlk hnm hl
  have hl : lv_has ls 7 [(0, .ref a_p0), (1, .int (kI x1)), (2, .int (kI x2))] := hl
  rw [m_X10_runError] at h
  obtain ⟨⟨hx, hb, -, -, -⟩, -⟩ := id cx
  refine lv_aload_n hx hb dX10_runError_0 rfl (lv_at hl 0 rfl) ?_
  refine rf_get hx hb cx hw 0 rfl rfl 3 inX8 (by decide) fl_X10_42 rfl rfl dX10_runError_1 ?_
  refine lv_iload_n hx hb dX10_runError_4 rfl (lv_at hl 2 rfl) ?_
  obtain ⟨g1, h⟩ := gd_some h
  refine ra_i hx hb cx hw 4 rfl (by decide) g1 dX10_runError_5 ?_
  refine lv_aload_n hx hb dX10_runError_6 rfl (lv_at hl 0 rfl) ?_
  refine rf_get hx hb cx hw 0 rfl rfl 3 inX8 (by decide) fl_X10_42 rfl rfl dX10_runError_7 ?_
  refine lv_iload_n hx hb dX10_runError_10 rfl (lv_at hl 1 rfl) ?_
  obtain ⟨g2, h⟩ := gd_some h
  refine ra_i hx hb cx hw 4 rfl (by decide) g2 dX10_runError_11 ?_
  refine ri_isub hx hb dX10_runError_12 ?_
  obtain ⟨g3, h⟩ := gd_some h
  refine ri_i2l hx hb g3 dX10_runError_13 ?_
  refine lv_lstore_n (lv' := [(3, .long (kL ((p0_goodAhead x2) - (p0_goodAhead x1)))), (0, .ref a_p0), (1, .int (kI x1)), (2, .int (kI x2))]) hx hb dX10_runError_14 rfl hl (by decide) rfl (fun ls hl => ?_)
  refine lv_aload_n hx hb dX10_runError_15 rfl (lv_at hl 1 rfl) ?_
  refine rf_get hx hb cx hw 0 rfl rfl 4 inX8 (by decide) fl_X10_45 rfl rfl dX10_runError_16 ?_
  refine lv_iload_n hx hb dX10_runError_19 rfl (lv_at hl 3 rfl) ?_
  refine ra_i hx hb cx hw 5 rfl (by decide) g1 dX10_runError_20 ?_
  refine lv_aload_n hx hb dX10_runError_21 rfl (lv_at hl 1 rfl) ?_
  refine rf_get hx hb cx hw 0 rfl rfl 4 inX8 (by decide) fl_X10_45 rfl rfl dX10_runError_22 ?_
  refine lv_iload_n hx hb dX10_runError_25 rfl (lv_at hl 2 rfl) ?_
  refine ra_i hx hb cx hw 5 rfl (by decide) g2 dX10_runError_26 ?_
  refine ri_isub hx hb dX10_runError_27 ?_
  obtain ⟨g4, h⟩ := gd_some h
  refine ri_i2l hx hb g4 dX10_runError_28 ?_
  refine lv_lstore (lv' := [(5, .long (kL ((p0_badAhead x2) - (p0_badAhead x1)))), (3, .long (kL ((p0_goodAhead x2) - (p0_goodAhead x1)))), (0, .ref a_p0), (1, .int (kI x1)), (2, .int (kI x2))]) hx hb dX10_runError_29 hl (by decide) rfl (fun ls hl => ?_)
  refine lv_lload_n hx hb dX10_runError_31 rfl (lv_at hl 1 rfl) ?_
  refine lv_lload hx hb dX10_runError_32 (lv_at hl 0 rfl) ?_
  refine ri_lmul hx hb dX10_runError_34 ?_
  refine lv_lload_n hx hb dX10_runError_35 rfl (lv_at hl 1 rfl) ?_
  refine lv_lload hx hb dX10_runError_36 (lv_at hl 0 rfl) ?_
  refine ri_ladd hx hb dX10_runError_38 ?_
  obtain ⟨r5, h5, h⟩ := bd_some h
  refine rc_D0 (v := r5) hw [] (rr_S cx hw (c_X5_quotient l G H.size N (((p0_goodAhead x2) - (p0_goodAhead x1)) * ((p0_badAhead x2) - (p0_badAhead x1))) (((p0_goodAhead x2) - (p0_goodAhead x1)) + ((p0_badAhead x2) - (p0_badAhead x1))) _ h5) mv_X10_48 [] rfl rfl rfl ⟨Nat.le_of_ble_eq_true rfl, Nat.le_of_ble_eq_true rfl⟩ rfl hl.1 rfl (Nat.le_of_ble_eq_true rfl) dX10_runError_39 ⟨Nat.le_of_ble_eq_true rfl, Nat.le_of_ble_eq_true rfl⟩) rfl rfl (fun H locs hw => ?_)
  obtain rfl := so_inj h
  exact re_d hx hb hlk hr cx hw (Nat.le_of_ble_eq_true rfl) (Nat.le_of_ble_eq_true rfl) dX10_runError_42
set_option maxHeartbeats 4000000 in
set_option maxRecDepth 100000 in
theorem w_X10_tellFor_b97 {p : Program} {l : Launch} {e : Env} {s : State} {m : MethodId} {args : Array Value} {below : List Frame} {meth : Method} {c : Code} {A : Nat → Prop} {G : GG} (cx : CX p s m args c cX10_tellFor RX10 9 G) (hlk : meth.locks = false) (hr : meth.sig.returnType = none) (N : Nat) (a_t a_t_whole a_t_begins a_t_fewer a_t_told a_p1 a_p1_score a_p1_good a_p1_bad a_p1_goodAhead a_p1_badAhead : Nat) (t_runs : Int) (t_whole : Int → UInt64) (t_fewer : Int → UInt64) (p1_size : Int) (p1_score : Int → Int) (p1_good : Int → Int) (p1_bad : Int → Int) (p1_goodAhead : Int → Int) (p1_badAhead : Int → Int) (x2 : Int) (r : (Int → Int) × (Int → UInt64)) (k59 : (Int → Int) → (Int → UInt64) → Int → UInt64 → Int → Option ((Int → Int) × (Int → UInt64))) (hk59 : ∀ (t_begins : Int → Int) (t_told : Int → UInt64) (y3 : Int) (y4 : UInt64) (y6 : Int), k59 t_begins t_told y3 y4 y6 = some r → ∀ (H : Heap) (locs : List Loc) (ls : Array Slot), HP G A s.heap H locs [(a_t, .inr (9, [.ref a_t_whole, .ref a_t_begins, .ref a_t_fewer, .ref a_t_told, .int (kI t_runs)])), (a_t_whole, cAD G 61 t_whole), (a_t_begins, cAI G 3721 t_begins), (a_t_fewer, cAD G 61 t_fewer), (a_t_told, cAD G 61 t_told), (a_p1, .inr (7, [.ref a_p1_score, .ref a_p1_good, .ref a_p1_bad, .ref a_p1_goodAhead, .ref a_p1_badAhead, .int (kI p1_size)])), (a_p1_score, cAI G 60 p1_score), (a_p1_good, cAI G 60 p1_good), (a_p1_bad, cAI G 60 p1_bad), (a_p1_goodAhead, cAI G 61 p1_goodAhead), (a_p1_badAhead, cAI G 61 p1_badAhead)] → lv_has ls 9 [(0, .ref a_t), (1, .ref a_p1), (2, .int (kI x2)), (3, .int (kI y3)), (4, .double y4), (6, .int (kI y6))] → W p l e (rmD 3 0 0) s m args below meth c H locs 0 0 (MQ below (QcV G A [(a_t, .inr (9, [.ref a_t_whole, .ref a_t_begins, .ref a_t_fewer, .ref a_t_told, .int (kI t_runs)])), (a_t_whole, cAD G 61 t_whole), (a_t_begins, cAI G 3721 r.1), (a_t_fewer, cAD G 61 t_fewer), (a_t_told, cAD G 61 r.2), (a_p1, .inr (7, [.ref a_p1_score, .ref a_p1_good, .ref a_p1_bad, .ref a_p1_goodAhead, .ref a_p1_badAhead, .int (kI p1_size)])), (a_p1_score, cAI G 60 p1_score), (a_p1_good, cAI G 60 p1_good), (a_p1_bad, cAI G 60 p1_bad), (a_p1_goodAhead, cAI G 61 p1_goodAhead), (a_p1_badAhead, cAI G 61 p1_badAhead)]) args s (rmD 3 0 0).cells (rmD 3 0 0).slots A) (F0 m 59 ls [])) : ∀ (t_begins : Int → Int) (t_told : Int → UInt64) (y3 : Int) (y4 : UInt64) (y6 : Int), m_X10_tellFor_b97 N t_runs t_fewer p1_goodAhead p1_badAhead x2 k59 t_begins t_told y3 y4 y6 = some r → ∀ (H : Heap) (locs : List Loc) (ls : Array Slot), HP G A s.heap H locs [(a_t, .inr (9, [.ref a_t_whole, .ref a_t_begins, .ref a_t_fewer, .ref a_t_told, .int (kI t_runs)])), (a_t_whole, cAD G 61 t_whole), (a_t_begins, cAI G 3721 t_begins), (a_t_fewer, cAD G 61 t_fewer), (a_t_told, cAD G 61 t_told), (a_p1, .inr (7, [.ref a_p1_score, .ref a_p1_good, .ref a_p1_bad, .ref a_p1_goodAhead, .ref a_p1_badAhead, .int (kI p1_size)])), (a_p1_score, cAI G 60 p1_score), (a_p1_good, cAI G 60 p1_good), (a_p1_bad, cAI G 60 p1_bad), (a_p1_goodAhead, cAI G 61 p1_goodAhead), (a_p1_badAhead, cAI G 61 p1_badAhead)] → lv_has ls 9 [(0, .ref a_t), (1, .ref a_p1), (2, .int (kI x2)), (3, .int (kI y3)), (4, .double y4), (6, .int (kI y6))] → W p l e (rmD 3 0 0) s m args below meth c H locs 0 0 (MQ below (QcV G A [(a_t, .inr (9, [.ref a_t_whole, .ref a_t_begins, .ref a_t_fewer, .ref a_t_told, .int (kI t_runs)])), (a_t_whole, cAD G 61 t_whole), (a_t_begins, cAI G 3721 r.1), (a_t_fewer, cAD G 61 t_fewer), (a_t_told, cAD G 61 r.2), (a_p1, .inr (7, [.ref a_p1_score, .ref a_p1_good, .ref a_p1_bad, .ref a_p1_goodAhead, .ref a_p1_badAhead, .int (kI p1_size)])), (a_p1_score, cAI G 60 p1_score), (a_p1_good, cAI G 60 p1_good), (a_p1_bad, cAI G 60 p1_bad), (a_p1_goodAhead, cAI G 61 p1_goodAhead), (a_p1_badAhead, cAI G 61 p1_badAhead)]) args s (rmD 3 0 0).cells (rmD 3 0 0).slots A) (F0 m 97 ls []) := by
  intro t_begins t_told y3 y4 y6 h H locs ls hw hl
  rw [m_X10_tellFor_b97] at h
  obtain ⟨⟨hx, hb, -, -, -⟩, -⟩ := id cx
  refine lv_iinc (v := kI (y6 + 1)) (lv' := [(6, .int (kI (y6 + 1))), (0, .ref a_t), (1, .ref a_p1), (2, .int (kI x2)), (3, .int (kI y3)), (4, .double y4)]) hx hb dX10_tellFor_97 hl (k := 5) rfl (kI_add _ _) (by decide) rfl (fun ls hl => ?_)
  refine lv_goto (tgt := 59) hx hb dX10_tellFor_100 (by decide) ?_
  exact hk59 t_begins t_told y3 y4 (y6 + 1) h _ _ _ hw (lv_sub hl [1, 2, 3, 4, 5, 0] rfl)
set_option maxHeartbeats 4000000 in
set_option maxRecDepth 100000 in
theorem w_X10_tellFor_b59 {p : Program} {l : Launch} {e : Env} {s : State} {m : MethodId} {args : Array Value} {below : List Frame} {meth : Method} {c : Code} {A : Nat → Prop} {G : GG} (cx : CX p s m args c cX10_tellFor RX10 9 G) (hlk : meth.locks = false) (hr : meth.sig.returnType = none) (N : Nat) (a_t a_t_whole a_t_begins a_t_fewer a_t_told a_p1 a_p1_score a_p1_good a_p1_bad a_p1_goodAhead a_p1_badAhead : Nat) (t_runs : Int) (t_whole : Int → UInt64) (t_fewer : Int → UInt64) (p1_size : Int) (p1_score : Int → Int) (p1_good : Int → Int) (p1_bad : Int → Int) (p1_goodAhead : Int → Int) (p1_badAhead : Int → Int) (x2 : Int) (r : (Int → Int) × (Int → UInt64)) : ∀ n : Nat, ∀ (t_begins : Int → Int) (t_told : Int → UInt64) (y3 : Int) (y4 : UInt64) (y6 : Int), m_X10_tellFor_b59 N t_runs t_fewer p1_goodAhead p1_badAhead x2 n t_begins t_told y3 y4 y6 = some r → ∀ (H : Heap) (locs : List Loc) (ls : Array Slot), HP G A s.heap H locs [(a_t, .inr (9, [.ref a_t_whole, .ref a_t_begins, .ref a_t_fewer, .ref a_t_told, .int (kI t_runs)])), (a_t_whole, cAD G 61 t_whole), (a_t_begins, cAI G 3721 t_begins), (a_t_fewer, cAD G 61 t_fewer), (a_t_told, cAD G 61 t_told), (a_p1, .inr (7, [.ref a_p1_score, .ref a_p1_good, .ref a_p1_bad, .ref a_p1_goodAhead, .ref a_p1_badAhead, .int (kI p1_size)])), (a_p1_score, cAI G 60 p1_score), (a_p1_good, cAI G 60 p1_good), (a_p1_bad, cAI G 60 p1_bad), (a_p1_goodAhead, cAI G 61 p1_goodAhead), (a_p1_badAhead, cAI G 61 p1_badAhead)] → lv_has ls 9 [(0, .ref a_t), (1, .ref a_p1), (2, .int (kI x2)), (3, .int (kI y3)), (4, .double y4), (6, .int (kI y6))] → W p l e (rmD 3 0 0) s m args below meth c H locs 0 0 (MQ below (QcV G A [(a_t, .inr (9, [.ref a_t_whole, .ref a_t_begins, .ref a_t_fewer, .ref a_t_told, .int (kI t_runs)])), (a_t_whole, cAD G 61 t_whole), (a_t_begins, cAI G 3721 r.1), (a_t_fewer, cAD G 61 t_fewer), (a_t_told, cAD G 61 r.2), (a_p1, .inr (7, [.ref a_p1_score, .ref a_p1_good, .ref a_p1_bad, .ref a_p1_goodAhead, .ref a_p1_badAhead, .int (kI p1_size)])), (a_p1_score, cAI G 60 p1_score), (a_p1_good, cAI G 60 p1_good), (a_p1_bad, cAI G 60 p1_bad), (a_p1_goodAhead, cAI G 61 p1_goodAhead), (a_p1_badAhead, cAI G 61 p1_badAhead)]) args s (rmD 3 0 0).cells (rmD 3 0 0).slots A) (F0 m 59 ls []) := by
  intro n
  induction n with
  | zero => intro t_begins t_told y3 y4 y6 h; exact nomatch h
  | succ n ih =>
    intro t_begins t_told y3 y4 y6 h H locs ls hw hl
    rw [m_X10_tellFor_b59] at h
    obtain ⟨⟨hx, hb, -, -, -⟩, -⟩ := id cx
    refine lv_iload hx hb dX10_tellFor_59 (lv_at hl 5 rfl) ?_
    refine lv_iload_n hx hb dX10_tellFor_61 rfl (lv_at hl 2 rfl) ?_
    obtain ⟨g1, h⟩ := gd_some h
    obtain ⟨g2, h⟩ := gd_some h
    refine ri_icmp_ge (tgt := 103) hx hb g1 g2 dX10_tellFor_62 (by decide) (fun c3 => ?_) (fun c3 => ?_)
    · have h := it_pos c3 h
      refine lv_aload_n hx hb dX10_tellFor_103 rfl (lv_at hl 0 rfl) ?_
      refine rf_get hx hb cx hw 0 rfl rfl 3 inX10 (by decide) fl_X10_22 rfl rfl dX10_tellFor_104 ?_
      refine lv_iload_n hx hb dX10_tellFor_107 rfl (lv_at hl 2 rfl) ?_
      refine lv_dload hx hb dX10_tellFor_108 (lv_at hl 4 rfl) ?_
      obtain ⟨g4, h⟩ := gd_some h
      refine ra_sd hx hb cx hw 4 rfl (by decide) g4 dX10_tellFor_110 (fun H locs hw => ?_)
      have hw : HP G A s.heap H locs [(a_t, .inr (9, [.ref a_t_whole, .ref a_t_begins, .ref a_t_fewer, .ref a_t_told, .int (kI t_runs)])), (a_t_whole, cAD G 61 t_whole), (a_t_begins, cAI G 3721 t_begins), (a_t_fewer, cAD G 61 t_fewer), (a_t_told, cAD G 61 (uP t_told x2 y4)), (a_p1, .inr (7, [.ref a_p1_score, .ref a_p1_good, .ref a_p1_bad, .ref a_p1_goodAhead, .ref a_p1_badAhead, .int (kI p1_size)])), (a_p1_score, cAI G 60 p1_score), (a_p1_good, cAI G 60 p1_good), (a_p1_bad, cAI G 60 p1_bad), (a_p1_goodAhead, cAI G 61 p1_goodAhead), (a_p1_badAhead, cAI G 61 p1_badAhead)] := hw
      refine lv_aload_n hx hb dX10_tellFor_111 rfl (lv_at hl 0 rfl) ?_
      refine rf_get hx hb cx hw 0 rfl rfl 1 inX10 (by decide) fl_X10_15 rfl rfl dX10_tellFor_112 ?_
      refine lv_aload_n hx hb dX10_tellFor_115 rfl (lv_at hl 0 rfl) ?_
      refine rf_get hx hb cx hw 0 rfl rfl 4 inX10 (by decide) fl_X10_25 rfl rfl dX10_tellFor_116 ?_
      refine ri_bipush hx hb dX10_tellFor_119 rfl ?_
      refine ri_imul hx hb dX10_tellFor_121 ?_
      refine lv_iload_n hx hb dX10_tellFor_122 rfl (lv_at hl 2 rfl) ?_
      refine ri_iadd hx hb dX10_tellFor_123 ?_
      refine lv_iload_n hx hb dX10_tellFor_124 rfl (lv_at hl 3 rfl) ?_
      obtain ⟨g5, h⟩ := gd_some h
      refine ra_si hx hb cx hw 2 rfl (by decide) g5 dX10_tellFor_125 (fun H locs hw => ?_)
      have hw : HP G A s.heap H locs [(a_t, .inr (9, [.ref a_t_whole, .ref a_t_begins, .ref a_t_fewer, .ref a_t_told, .int (kI t_runs)])), (a_t_whole, cAD G 61 t_whole), (a_t_begins, cAI G 3721 (uP t_begins ((t_runs * 61) + x2) y3)), (a_t_fewer, cAD G 61 t_fewer), (a_t_told, cAD G 61 (uP t_told x2 y4)), (a_p1, .inr (7, [.ref a_p1_score, .ref a_p1_good, .ref a_p1_bad, .ref a_p1_goodAhead, .ref a_p1_badAhead, .int (kI p1_size)])), (a_p1_score, cAI G 60 p1_score), (a_p1_good, cAI G 60 p1_good), (a_p1_bad, cAI G 60 p1_bad), (a_p1_goodAhead, cAI G 61 p1_goodAhead), (a_p1_badAhead, cAI G 61 p1_badAhead)] := hw
      obtain rfl := so_inj h
      exact re_v hx hb hlk hr cx hw (Nat.le_of_ble_eq_true rfl) (Nat.le_of_ble_eq_true rfl) dX10_tellFor_126
    · have h := it_neg c3 h
      refine lv_aload_n hx hb dX10_tellFor_65 rfl (lv_at hl 0 rfl) ?_
      refine rf_get hx hb cx hw 0 rfl rfl 2 inX10 (by decide) fl_X10_19 rfl rfl dX10_tellFor_66 ?_
      refine lv_iload hx hb dX10_tellFor_69 (lv_at hl 5 rfl) ?_
      obtain ⟨g6, h⟩ := gd_some h
      refine ra_d hx hb cx hw 3 rfl (by decide) g6 dX10_tellFor_71 ?_
      refine lv_aload_n hx hb dX10_tellFor_72 rfl (lv_at hl 1 rfl) ?_
      refine lv_iload hx hb dX10_tellFor_73 (lv_at hl 5 rfl) ?_
      refine lv_iload_n hx hb dX10_tellFor_75 rfl (lv_at hl 2 rfl) ?_
      obtain ⟨r7, h7, h⟩ := bd_some h
      refine rc_D0 (v := r7) hw [5, 6, 7, 8, 9, 10] (rr_S cx hw (c_X10_runError l G H.size N a_p1 a_p1_score a_p1_good a_p1_bad a_p1_goodAhead a_p1_badAhead p1_size p1_score p1_good p1_bad p1_goodAhead p1_badAhead y6 x2 _ h7) mv_X10_38 [5, 6, 7, 8, 9, 10] rfl rfl rfl ⟨Nat.le_of_ble_eq_true rfl, Nat.le_of_ble_eq_true rfl⟩ rfl hl.1 rfl (Nat.le_of_ble_eq_true rfl) dX10_tellFor_76 ⟨Nat.le_of_ble_eq_true rfl, Nat.le_of_ble_eq_true rfl⟩) rfl rfl (fun H locs hw => ?_)
      obtain ⟨g8, h⟩ := gd_some h
      refine lv_dadd hx hb dX10_tellFor_79 g8 ?_
      refine lv_dstore (lv' := [(7, .double (FP.dadd (t_fewer y6) r7)), (0, .ref a_t), (1, .ref a_p1), (2, .int (kI x2)), (3, .int (kI y3)), (4, .double y4), (6, .int (kI y6))]) hx hb dX10_tellFor_80 hl (by decide) rfl (fun ls hl => ?_)
      refine lv_dload hx hb dX10_tellFor_82 (lv_at hl 0 rfl) ?_
      refine lv_dload hx hb dX10_tellFor_84 (lv_at hl 5 rfl) ?_
      refine ri_dcmp hx hb dX10_tellFor_86 ?_
      refine ri_if_ge (tgt := 97) hx hb (dcV_r _ _ _) dX10_tellFor_87 (by decide) (fun c9 => ?_) (fun c9 => ?_)
      · have h := it_pos c9 h
        exact w_X10_tellFor_b97 cx hlk hr N a_t a_t_whole a_t_begins a_t_fewer a_t_told a_p1 a_p1_score a_p1_good a_p1_bad a_p1_goodAhead a_p1_badAhead t_runs t_whole t_fewer p1_size p1_score p1_good p1_bad p1_goodAhead p1_badAhead x2 r (m_X10_tellFor_b59 N t_runs t_fewer p1_goodAhead p1_badAhead x2 n) ih t_begins t_told y3 y4 y6 h _ _ _ hw (lv_sub hl [1, 2, 3, 4, 5, 6] rfl)
      · have h := it_neg c9 h
        refine lv_dload hx hb dX10_tellFor_90 (lv_at hl 0 rfl) ?_
        refine lv_dstore (lv' := [(4, .double (FP.dadd (t_fewer y6) r7)), (7, .double (FP.dadd (t_fewer y6) r7)), (0, .ref a_t), (1, .ref a_p1), (2, .int (kI x2)), (3, .int (kI y3)), (6, .int (kI y6))]) hx hb dX10_tellFor_92 hl (by decide) rfl (fun ls hl => ?_)
        refine lv_iload hx hb dX10_tellFor_94 (lv_at hl 6 rfl) ?_
        refine lv_istore_n (lv' := [(3, .int (kI y6)), (4, .double (FP.dadd (t_fewer y6) r7)), (7, .double (FP.dadd (t_fewer y6) r7)), (0, .ref a_t), (1, .ref a_p1), (2, .int (kI x2)), (6, .int (kI y6))]) hx hb dX10_tellFor_96 rfl hl (by decide) rfl (fun ls hl => ?_)
        exact w_X10_tellFor_b97 cx hlk hr N a_t a_t_whole a_t_begins a_t_fewer a_t_told a_p1 a_p1_score a_p1_good a_p1_bad a_p1_goodAhead a_p1_badAhead t_runs t_whole t_fewer p1_size p1_score p1_good p1_bad p1_goodAhead p1_badAhead x2 r (m_X10_tellFor_b59 N t_runs t_fewer p1_goodAhead p1_badAhead x2 n) ih t_begins t_told y6 (FP.dadd (t_fewer y6) r7) y6 h _ _ _ hw (lv_sub hl [3, 4, 5, 0, 1, 6] rfl)
set_option maxHeartbeats 4000000 in
set_option maxRecDepth 100000 in
theorem c_X10_tellFor (l : Launch) (G : GG) (sz : Nat) (N : Nat) (a_t a_t_whole a_t_begins a_t_fewer a_t_told a_p1 a_p1_score a_p1_good a_p1_bad a_p1_goodAhead a_p1_badAhead : Nat) (t_runs : Int) (t_whole : Int → UInt64) (t_begins : Int → Int) (t_fewer : Int → UInt64) (t_told : Int → UInt64) (p1_size : Int) (p1_score : Int → Int) (p1_good : Int → Int) (p1_bad : Int → Int) (p1_goodAhead : Int → Int) (p1_badAhead : Int → Int) (x2 : Int) (r : (Int → Int) × (Int → UInt64)) (h : m_X10_tellFor N t_runs t_fewer p1_goodAhead p1_badAhead t_begins t_told x2 = some r) : CtV l yX10_tellFor cX10_tellFor 9 (rmD 3 0 0) G sz [.ref a_t, .ref a_p1, .int (kI x2)] [(a_t, .inr (9, [.ref a_t_whole, .ref a_t_begins, .ref a_t_fewer, .ref a_t_told, .int (kI t_runs)])), (a_t_whole, cAD G 61 t_whole), (a_t_begins, cAI G 3721 t_begins), (a_t_fewer, cAD G 61 t_fewer), (a_t_told, cAD G 61 t_told), (a_p1, .inr (7, [.ref a_p1_score, .ref a_p1_good, .ref a_p1_bad, .ref a_p1_goodAhead, .ref a_p1_badAhead, .int (kI p1_size)])), (a_p1_score, cAI G 60 p1_score), (a_p1_good, cAI G 60 p1_good), (a_p1_bad, cAI G 60 p1_bad), (a_p1_goodAhead, cAI G 61 p1_goodAhead), (a_p1_badAhead, cAI G 61 p1_badAhead)] [(a_t, .inr (9, [.ref a_t_whole, .ref a_t_begins, .ref a_t_fewer, .ref a_t_told, .int (kI t_runs)])), (a_t_whole, cAD G 61 t_whole), (a_t_begins, cAI G 3721 r.1), (a_t_fewer, cAD G 61 t_fewer), (a_t_told, cAD G 61 r.2), (a_p1, .inr (7, [.ref a_p1_score, .ref a_p1_good, .ref a_p1_bad, .ref a_p1_goodAhead, .ref a_p1_badAhead, .int (kI p1_size)])), (a_p1_score, cAI G 60 p1_score), (a_p1_good, cAI G 60 p1_good), (a_p1_bad, cAI G 60 p1_bad), (a_p1_goodAhead, cAI G 61 p1_goodAhead), (a_p1_badAhead, cAI G 61 p1_badAhead)] := by
  refine met_of (Qc := fun A => QcV G A [(a_t, .inr (9, [.ref a_t_whole, .ref a_t_begins, .ref a_t_fewer, .ref a_t_told, .int (kI t_runs)])), (a_t_whole, cAD G 61 t_whole), (a_t_begins, cAI G 3721 r.1), (a_t_fewer, cAD G 61 t_fewer), (a_t_told, cAD G 61 r.2), (a_p1, .inr (7, [.ref a_p1_score, .ref a_p1_good, .ref a_p1_bad, .ref a_p1_goodAhead, .ref a_p1_badAhead, .int (kI p1_size)])), (a_p1_score, cAI G 60 p1_score), (a_p1_good, cAI G 60 p1_good), (a_p1_bad, cAI G 60 p1_bad), (a_p1_goodAhead, cAI G 61 p1_goodAhead), (a_p1_badAhead, cAI G 61 p1_badAhead)]) (by decide +kernel) (Nat.le_of_ble_eq_true rfl) ?_
  intro p e s m args below meth c A H locs ls cx hw hr hlk hnm hl
  have hl : lv_has ls 9 [(0, .ref a_t), (1, .ref a_p1), (2, .int (kI x2))] := hl
  rw [m_X10_tellFor] at h
  obtain ⟨⟨hx, hb, -, -, -⟩, -⟩ := id cx
  refine lv_aload_n hx hb dX10_tellFor_0 rfl (lv_at hl 0 rfl) ?_
  refine rf_get hx hb cx hw 0 rfl rfl 4 inX10 (by decide) fl_X10_25 rfl rfl dX10_tellFor_1 ?_
  refine ri_iconst hx hb dX10_tellFor_4 ?_
  obtain ⟨g1, h⟩ := gd_some h
  refine ri_icmp_ne (tgt := 31) hx hb g1 ⟨by decide, by decide⟩ dX10_tellFor_5 (by decide) (fun c2 => ?_) (fun c2 => ?_)
  · have h := it_pos c2 h
    refine lv_aload_n hx hb dX10_tellFor_8 rfl (lv_at hl 0 rfl) ?_
    refine rf_get hx hb cx hw 0 rfl rfl 3 inX10 (by decide) fl_X10_22 rfl rfl dX10_tellFor_9 ?_
    refine lv_iload_n hx hb dX10_tellFor_12 rfl (lv_at hl 2 rfl) ?_
    refine lv_aload_n hx hb dX10_tellFor_13 rfl (lv_at hl 1 rfl) ?_
    refine ri_iconst hx hb dX10_tellFor_14 ?_
    refine lv_iload_n hx hb dX10_tellFor_15 rfl (lv_at hl 2 rfl) ?_
    obtain ⟨r3, h3, h⟩ := bd_some h
    refine rc_D0 (v := r3) hw [5, 6, 7, 8, 9, 10] (rr_S cx hw (c_X10_runError l G H.size N a_p1 a_p1_score a_p1_good a_p1_bad a_p1_goodAhead a_p1_badAhead p1_size p1_score p1_good p1_bad p1_goodAhead p1_badAhead 0 x2 _ h3) mv_X10_38 [5, 6, 7, 8, 9, 10] rfl rfl rfl ⟨Nat.le_of_ble_eq_true rfl, Nat.le_of_ble_eq_true rfl⟩ rfl hl.1 rfl (Nat.le_of_ble_eq_true rfl) dX10_tellFor_16 ⟨Nat.le_of_ble_eq_true rfl, Nat.le_of_ble_eq_true rfl⟩) rfl rfl (fun H locs hw => ?_)
    obtain ⟨g4, h⟩ := gd_some h
    refine ra_sd hx hb cx hw 4 rfl (by decide) g4 dX10_tellFor_19 (fun H locs hw => ?_)
    have hw : HP G A s.heap H locs [(a_t, .inr (9, [.ref a_t_whole, .ref a_t_begins, .ref a_t_fewer, .ref a_t_told, .int (kI t_runs)])), (a_t_whole, cAD G 61 t_whole), (a_t_begins, cAI G 3721 t_begins), (a_t_fewer, cAD G 61 t_fewer), (a_t_told, cAD G 61 (uP t_told x2 r3)), (a_p1, .inr (7, [.ref a_p1_score, .ref a_p1_good, .ref a_p1_bad, .ref a_p1_goodAhead, .ref a_p1_badAhead, .int (kI p1_size)])), (a_p1_score, cAI G 60 p1_score), (a_p1_good, cAI G 60 p1_good), (a_p1_bad, cAI G 60 p1_bad), (a_p1_goodAhead, cAI G 61 p1_goodAhead), (a_p1_badAhead, cAI G 61 p1_badAhead)] := hw
    refine lv_aload_n hx hb dX10_tellFor_20 rfl (lv_at hl 0 rfl) ?_
    refine rf_get hx hb cx hw 0 rfl rfl 1 inX10 (by decide) fl_X10_15 rfl rfl dX10_tellFor_21 ?_
    refine ri_bipush hx hb dX10_tellFor_24 rfl ?_
    refine lv_iload_n hx hb dX10_tellFor_26 rfl (lv_at hl 2 rfl) ?_
    refine ri_iadd hx hb dX10_tellFor_27 ?_
    refine ri_iconst hx hb dX10_tellFor_28 ?_
    obtain ⟨g5, h⟩ := gd_some h
    refine ra_si hx hb cx hw 2 rfl (by decide) g5 dX10_tellFor_29 (fun H locs hw => ?_)
    have hw : HP G A s.heap H locs [(a_t, .inr (9, [.ref a_t_whole, .ref a_t_begins, .ref a_t_fewer, .ref a_t_told, .int (kI t_runs)])), (a_t_whole, cAD G 61 t_whole), (a_t_begins, cAI G 3721 (uP t_begins (61 + x2) 0)), (a_t_fewer, cAD G 61 t_fewer), (a_t_told, cAD G 61 (uP t_told x2 r3)), (a_p1, .inr (7, [.ref a_p1_score, .ref a_p1_good, .ref a_p1_bad, .ref a_p1_goodAhead, .ref a_p1_badAhead, .int (kI p1_size)])), (a_p1_score, cAI G 60 p1_score), (a_p1_good, cAI G 60 p1_good), (a_p1_bad, cAI G 60 p1_bad), (a_p1_goodAhead, cAI G 61 p1_goodAhead), (a_p1_badAhead, cAI G 61 p1_badAhead)] := hw
    obtain rfl := so_inj h
    exact re_v hx hb hlk hr cx hw (Nat.le_of_ble_eq_true rfl) (Nat.le_of_ble_eq_true rfl) dX10_tellFor_30
  · have h := it_neg c2 h
    refine lv_aload_n hx hb dX10_tellFor_31 rfl (lv_at hl 0 rfl) ?_
    refine rf_get hx hb cx hw 0 rfl rfl 4 inX10 (by decide) fl_X10_25 rfl rfl dX10_tellFor_32 ?_
    refine ri_iconst hx hb dX10_tellFor_35 ?_
    refine ri_isub hx hb dX10_tellFor_36 ?_
    refine lv_istore_n (lv' := [(3, .int (kI (t_runs - 1))), (0, .ref a_t), (1, .ref a_p1), (2, .int (kI x2))]) hx hb dX10_tellFor_37 rfl hl (by decide) rfl (fun ls hl => ?_)
    refine lv_aload_n hx hb dX10_tellFor_38 rfl (lv_at hl 1 rfl) ?_
    refine rf_get hx hb cx hw 0 rfl rfl 2 inX10 (by decide) fl_X10_19 rfl rfl dX10_tellFor_39 ?_
    refine lv_iload_n hx hb dX10_tellFor_42 rfl (lv_at hl 0 rfl) ?_
    obtain ⟨g6, h⟩ := gd_some h
    refine ra_d hx hb cx hw 3 rfl (by decide) g6 dX10_tellFor_43 ?_
    refine lv_aload_n hx hb dX10_tellFor_44 rfl (lv_at hl 2 rfl) ?_
    refine lv_iload_n hx hb dX10_tellFor_45 rfl (lv_at hl 0 rfl) ?_
    refine lv_iload_n hx hb dX10_tellFor_46 rfl (lv_at hl 3 rfl) ?_
    obtain ⟨r7, h7, h⟩ := bd_some h
    refine rc_D0 (v := r7) hw [5, 6, 7, 8, 9, 10] (rr_S cx hw (c_X10_runError l G H.size N a_p1 a_p1_score a_p1_good a_p1_bad a_p1_goodAhead a_p1_badAhead p1_size p1_score p1_good p1_bad p1_goodAhead p1_badAhead (t_runs - 1) x2 _ h7) mv_X10_38 [5, 6, 7, 8, 9, 10] rfl rfl rfl ⟨Nat.le_of_ble_eq_true rfl, Nat.le_of_ble_eq_true rfl⟩ rfl hl.1 rfl (Nat.le_of_ble_eq_true rfl) dX10_tellFor_47 ⟨Nat.le_of_ble_eq_true rfl, Nat.le_of_ble_eq_true rfl⟩) rfl rfl (fun H locs hw => ?_)
    obtain ⟨g8, h⟩ := gd_some h
    refine lv_dadd hx hb dX10_tellFor_50 g8 ?_
    refine lv_dstore (lv' := [(4, .double (FP.dadd (t_fewer (t_runs - 1)) r7)), (3, .int (kI (t_runs - 1))), (0, .ref a_t), (1, .ref a_p1), (2, .int (kI x2))]) hx hb dX10_tellFor_51 hl (by decide) rfl (fun ls hl => ?_)
    refine lv_aload_n hx hb dX10_tellFor_53 rfl (lv_at hl 2 rfl) ?_
    refine rf_get hx hb cx hw 0 rfl rfl 4 inX10 (by decide) fl_X10_25 rfl rfl dX10_tellFor_54 ?_
    refine lv_istore (lv' := [(6, .int (kI t_runs)), (4, .double (FP.dadd (t_fewer (t_runs - 1)) r7)), (3, .int (kI (t_runs - 1))), (0, .ref a_t), (1, .ref a_p1), (2, .int (kI x2))]) hx hb dX10_tellFor_57 hl (by decide) rfl (fun ls hl => ?_)
    exact w_X10_tellFor_b59 cx hlk hr N a_t a_t_whole a_t_begins a_t_fewer a_t_told a_p1 a_p1_score a_p1_good a_p1_bad a_p1_goodAhead a_p1_badAhead t_runs t_whole t_fewer p1_size p1_score p1_good p1_bad p1_goodAhead p1_badAhead x2 r N t_begins t_told (t_runs - 1) (FP.dadd (t_fewer (t_runs - 1)) r7) t_runs h _ _ _ hw (lv_sub hl [3, 4, 5, 2, 1, 0] rfl)
set_option maxHeartbeats 4000000 in
set_option maxRecDepth 100000 in
theorem w_X10_firstRow_b6 {p : Program} {l : Launch} {e : Env} {s : State} {m : MethodId} {args : Array Value} {below : List Frame} {meth : Method} {c : Code} {A : Nat → Prop} {G : GG} (cx : CX p s m args c cX10_firstRow RX10 6 G) (hlk : meth.locks = false) (hr : meth.sig.returnType = some .int) (N : Nat) (a_t a_t_whole a_t_begins a_t_fewer a_t_told : Nat) (t_runs : Int) (t_whole : Int → UInt64) (t_begins : Int → Int) (t_fewer : Int → UInt64) (t_told : Int → UInt64) (x1 : Int) (x2 : Int) (x3 : Int) (r : Int) : ∀ n : Nat, ∀ (y4 : Int) (y5 : Int), m_X10_firstRow_b6 N t_begins x1 x2 x3 n y4 y5 = some r → ∀ (H : Heap) (locs : List Loc) (ls : Array Slot), HP G A s.heap H locs [(a_t, .inr (9, [.ref a_t_whole, .ref a_t_begins, .ref a_t_fewer, .ref a_t_told, .int (kI t_runs)])), (a_t_whole, cAD G 61 t_whole), (a_t_begins, cAI G 3721 t_begins), (a_t_fewer, cAD G 61 t_fewer), (a_t_told, cAD G 61 t_told)] → lv_has ls 6 [(0, .ref a_t), (2, .int (kI x2)), (4, .int (kI y4)), (5, .int (kI y5))] → W p l e (rmD 1 0 0) s m args below meth c H locs 0 0 (MQ below (QcI G A r [(a_t, .inr (9, [.ref a_t_whole, .ref a_t_begins, .ref a_t_fewer, .ref a_t_told, .int (kI t_runs)])), (a_t_whole, cAD G 61 t_whole), (a_t_begins, cAI G 3721 t_begins), (a_t_fewer, cAD G 61 t_fewer), (a_t_told, cAD G 61 t_told)]) args s (rmD 1 0 0).cells (rmD 1 0 0).slots A) (F0 m 6 ls []) := by
  intro n
  induction n with
  | zero => intro y4 y5 h; exact nomatch h
  | succ n ih =>
    intro y4 y5 h H locs ls hw hl
    rw [m_X10_firstRow_b6] at h
    obtain ⟨⟨hx, hb, -, -, -⟩, -⟩ := id cx
    refine lv_iload hx hb dX10_firstRow_6 (lv_at hl 3 rfl) ?_
    refine lv_iload_n hx hb dX10_firstRow_8 rfl (lv_at hl 1 rfl) ?_
    obtain ⟨g1, h⟩ := gd_some h
    obtain ⟨g2, h⟩ := gd_some h
    refine ri_icmp_le (tgt := 33) hx hb g1 g2 dX10_firstRow_9 (by decide) (fun c3 => ?_) (fun c3 => ?_)
    · have h := it_pos c3 h
      refine lv_iload hx hb dX10_firstRow_33 (lv_at hl 2 rfl) ?_
      obtain rfl := so_inj h
      exact re_i hx hb hlk hr cx hw (Nat.le_of_ble_eq_true rfl) (Nat.le_of_ble_eq_true rfl) dX10_firstRow_35
    · have h := it_neg c3 h
      refine lv_aload_n hx hb dX10_firstRow_12 rfl (lv_at hl 0 rfl) ?_
      refine rf_get hx hb cx hw 0 rfl rfl 1 inX10 (by decide) fl_X10_15 rfl rfl dX10_firstRow_13 ?_
      refine lv_iload hx hb dX10_firstRow_16 (lv_at hl 3 rfl) ?_
      refine ri_bipush hx hb dX10_firstRow_18 rfl ?_
      refine ri_imul hx hb dX10_firstRow_20 ?_
      refine lv_iload hx hb dX10_firstRow_21 (lv_at hl 2 rfl) ?_
      refine ri_iadd hx hb dX10_firstRow_23 ?_
      obtain ⟨g4, h⟩ := gd_some h
      refine ra_i hx hb cx hw 2 rfl (by decide) g4 dX10_firstRow_24 ?_
      refine lv_istore (lv' := [(4, .int (kI (t_begins ((y5 * 61) + y4)))), (0, .ref a_t), (2, .int (kI x2)), (5, .int (kI y5))]) hx hb dX10_firstRow_25 hl (by decide) rfl (fun ls hl => ?_)
      refine lv_iinc (v := kI (y5 + (-1))) (lv' := [(5, .int (kI (y5 + (-1)))), (4, .int (kI (t_begins ((y5 * 61) + y4)))), (0, .ref a_t), (2, .int (kI x2))]) hx hb dX10_firstRow_27 hl (k := 3) rfl (kI_add _ _) (by decide) rfl (fun ls hl => ?_)
      refine lv_goto (tgt := 6) hx hb dX10_firstRow_30 (by decide) ?_
      exact ih (t_begins ((y5 * 61) + y4)) (y5 + (-1)) h _ _ _ hw (lv_sub hl [2, 3, 1, 0] rfl)
set_option maxHeartbeats 4000000 in
set_option maxRecDepth 100000 in
theorem c_X10_firstRow (l : Launch) (G : GG) (sz : Nat) (N : Nat) (a_t a_t_whole a_t_begins a_t_fewer a_t_told : Nat) (t_runs : Int) (t_whole : Int → UInt64) (t_begins : Int → Int) (t_fewer : Int → UInt64) (t_told : Int → UInt64) (x1 : Int) (x2 : Int) (x3 : Int) (r : Int) (h : m_X10_firstRow N t_begins x1 x2 x3 = some r) : CtI l yX10_firstRow cX10_firstRow 6 .int (rmD 1 0 0) G sz [.ref a_t, .int (kI x1), .int (kI x2), .int (kI x3)] [(a_t, .inr (9, [.ref a_t_whole, .ref a_t_begins, .ref a_t_fewer, .ref a_t_told, .int (kI t_runs)])), (a_t_whole, cAD G 61 t_whole), (a_t_begins, cAI G 3721 t_begins), (a_t_fewer, cAD G 61 t_fewer), (a_t_told, cAD G 61 t_told)] r [(a_t, .inr (9, [.ref a_t_whole, .ref a_t_begins, .ref a_t_fewer, .ref a_t_told, .int (kI t_runs)])), (a_t_whole, cAD G 61 t_whole), (a_t_begins, cAI G 3721 t_begins), (a_t_fewer, cAD G 61 t_fewer), (a_t_told, cAD G 61 t_told)] := by
  refine met_of (Qc := fun A => QcI G A r [(a_t, .inr (9, [.ref a_t_whole, .ref a_t_begins, .ref a_t_fewer, .ref a_t_told, .int (kI t_runs)])), (a_t_whole, cAD G 61 t_whole), (a_t_begins, cAI G 3721 t_begins), (a_t_fewer, cAD G 61 t_fewer), (a_t_told, cAD G 61 t_told)]) (by decide +kernel) (Nat.le_of_ble_eq_true rfl) ?_
  intro p e s m args below meth c A H locs ls cx hw hr hlk hnm hl
  have hl : lv_has ls 6 [(0, .ref a_t), (1, .int (kI x1)), (2, .int (kI x2)), (3, .int (kI x3))] := hl
  rw [m_X10_firstRow] at h
  obtain ⟨⟨hx, hb, -, -, -⟩, -⟩ := id cx
  refine lv_iload_n hx hb dX10_firstRow_0 rfl (lv_at hl 3 rfl) ?_
  refine lv_istore (lv' := [(4, .int (kI x3)), (0, .ref a_t), (1, .int (kI x1)), (2, .int (kI x2)), (3, .int (kI x3))]) hx hb dX10_firstRow_1 hl (by decide) rfl (fun ls hl => ?_)
  refine lv_iload_n hx hb dX10_firstRow_3 rfl (lv_at hl 2 rfl) ?_
  refine lv_istore (lv' := [(5, .int (kI x1)), (4, .int (kI x3)), (0, .ref a_t), (1, .int (kI x1)), (2, .int (kI x2)), (3, .int (kI x3))]) hx hb dX10_firstRow_4 hl (by decide) rfl (fun ls hl => ?_)
  exact w_X10_firstRow_b6 cx hlk hr N a_t a_t_whole a_t_begins a_t_fewer a_t_told t_runs t_whole t_begins t_fewer t_told x1 x2 x3 r N x3 x1 h _ _ _ hw (lv_sub hl [2, 4, 1, 0] rfl)
set_option maxHeartbeats 4000000 in
set_option maxRecDepth 100000 in
theorem c_X11_fromUpper (l : Launch) (G : GG) (sz : Nat) (N : Nat) (a_p0 a_p0_score a_p0_good a_p0_bad a_p0_goodAhead a_p0_badAhead a_p1 a_p1_good a_p1_bad a_p1_open : Nat) (p0_size : Int) (p0_score : Int → Int) (p0_good : Int → Int) (p0_bad : Int → Int) (p0_goodAhead : Int → Int) (p0_badAhead : Int → Int) (p1_least : Int) (p1_most : Int) (p1_goodCost : Int) (p1_badCost : Int) (p1_referCost : Int) (p1_good : Int → Int) (p1_bad : Int → Int) (p1_open : Int → Int) (x2 : Int) (r : Int) (h : m_X11_fromUpper N p0_size p0_goodAhead p0_badAhead p1_badCost p1_referCost x2 = some r) : CtI l yX11_fromUpper cX11_fromUpper 3 .int (rmD 2 0 0) G sz [.ref a_p0, .ref a_p1, .int (kI x2)] [(a_p0, .inr (7, [.ref a_p0_score, .ref a_p0_good, .ref a_p0_bad, .ref a_p0_goodAhead, .ref a_p0_badAhead, .int (kI p0_size)])), (a_p0_score, cAI G 60 p0_score), (a_p0_good, cAI G 60 p0_good), (a_p0_bad, cAI G 60 p0_bad), (a_p0_goodAhead, cAI G 61 p0_goodAhead), (a_p0_badAhead, cAI G 61 p0_badAhead), (a_p1, .inr (5, [.ref a_p1_good, .ref a_p1_bad, .ref a_p1_open, .int (kI p1_least), .int (kI p1_most), .int (kI p1_goodCost), .int (kI p1_badCost), .int (kI p1_referCost)])), (a_p1_good, cAI G 1000 p1_good), (a_p1_bad, cAI G 1000 p1_bad), (a_p1_open, cAI G 1000 p1_open)] r [(a_p0, .inr (7, [.ref a_p0_score, .ref a_p0_good, .ref a_p0_bad, .ref a_p0_goodAhead, .ref a_p0_badAhead, .int (kI p0_size)])), (a_p0_score, cAI G 60 p0_score), (a_p0_good, cAI G 60 p0_good), (a_p0_bad, cAI G 60 p0_bad), (a_p0_goodAhead, cAI G 61 p0_goodAhead), (a_p0_badAhead, cAI G 61 p0_badAhead), (a_p1, .inr (5, [.ref a_p1_good, .ref a_p1_bad, .ref a_p1_open, .int (kI p1_least), .int (kI p1_most), .int (kI p1_goodCost), .int (kI p1_badCost), .int (kI p1_referCost)])), (a_p1_good, cAI G 1000 p1_good), (a_p1_bad, cAI G 1000 p1_bad), (a_p1_open, cAI G 1000 p1_open)] := by
  refine met_of (Qc := fun A => QcI G A r [(a_p0, .inr (7, [.ref a_p0_score, .ref a_p0_good, .ref a_p0_bad, .ref a_p0_goodAhead, .ref a_p0_badAhead, .int (kI p0_size)])), (a_p0_score, cAI G 60 p0_score), (a_p0_good, cAI G 60 p0_good), (a_p0_bad, cAI G 60 p0_bad), (a_p0_goodAhead, cAI G 61 p0_goodAhead), (a_p0_badAhead, cAI G 61 p0_badAhead), (a_p1, .inr (5, [.ref a_p1_good, .ref a_p1_bad, .ref a_p1_open, .int (kI p1_least), .int (kI p1_most), .int (kI p1_goodCost), .int (kI p1_badCost), .int (kI p1_referCost)])), (a_p1_good, cAI G 1000 p1_good), (a_p1_bad, cAI G 1000 p1_bad), (a_p1_open, cAI G 1000 p1_open)]) (by decide +kernel) (Nat.le_of_ble_eq_true rfl) ?_
  intro p e s m args below meth c A H locs ls cx hw hr hlk hnm hl
  have hl : lv_has ls 3 [(0, .ref a_p0), (1, .ref a_p1), (2, .int (kI x2))] := hl
  rw [m_X11_fromUpper] at h
  obtain ⟨⟨hx, hb, -, -, -⟩, -⟩ := id cx
  refine lv_aload_n hx hb dX11_fromUpper_0 rfl (lv_at hl 1 rfl) ?_
  refine rf_get hx hb cx hw 6 rfl rfl 7 inX6 (by decide) fl_X11_44 rfl rfl dX11_fromUpper_1 ?_
  refine lv_aload_n hx hb dX11_fromUpper_4 rfl (lv_at hl 0 rfl) ?_
  refine lv_iload_n hx hb dX11_fromUpper_5 rfl (lv_at hl 2 rfl) ?_
  obtain ⟨r1, h1, h⟩ := bd_some h
  refine rc_I0 (v := r1) hw [0, 1, 2, 3, 4, 5] (rr_V cx hw (c_X8_casesAhead l G H.size N a_p0 a_p0_score a_p0_good a_p0_bad a_p0_goodAhead a_p0_badAhead p0_size p0_score p0_good p0_bad p0_goodAhead p0_badAhead x2 _ h1) mv_X11_47 [0, 1, 2, 3, 4, 5] rfl rfl rfl 0 rfl rfl ⟨Nat.le_of_ble_eq_true rfl, Nat.le_of_ble_eq_true rfl⟩ rfl hl.1 rfl (Nat.le_of_ble_eq_true rfl) dX11_fromUpper_6 ⟨Nat.le_of_ble_eq_true rfl, Nat.le_of_ble_eq_true rfl⟩) rfl rfl (fun H locs hw => ?_)
  refine ri_imul hx hb dX11_fromUpper_9 ?_
  refine lv_aload_n hx hb dX11_fromUpper_10 rfl (lv_at hl 1 rfl) ?_
  refine rf_get hx hb cx hw 6 rfl rfl 6 inX6 (by decide) fl_X11_50 rfl rfl dX11_fromUpper_11 ?_
  refine lv_aload_n hx hb dX11_fromUpper_14 rfl (lv_at hl 0 rfl) ?_
  obtain ⟨r2, h2, h⟩ := bd_some h
  refine rc_I0 (v := r2) hw [0, 1, 2, 3, 4, 5] (rr_V cx hw (c_X8_bads l G H.size N a_p0 a_p0_score a_p0_good a_p0_bad a_p0_goodAhead a_p0_badAhead p0_size p0_score p0_good p0_bad p0_goodAhead p0_badAhead _ h2) mv_X11_53 [0, 1, 2, 3, 4, 5] rfl rfl rfl 0 rfl rfl ⟨Nat.le_of_ble_eq_true rfl, Nat.le_of_ble_eq_true rfl⟩ rfl hl.1 rfl (Nat.le_of_ble_eq_true rfl) dX11_fromUpper_15 ⟨Nat.le_of_ble_eq_true rfl, Nat.le_of_ble_eq_true rfl⟩) rfl rfl (fun H locs hw => ?_)
  refine lv_aload_n hx hb dX11_fromUpper_18 rfl (lv_at hl 0 rfl) ?_
  refine rf_get hx hb cx hw 0 rfl rfl 4 inX8 (by decide) fl_X11_57 rfl rfl dX11_fromUpper_19 ?_
  refine lv_iload_n hx hb dX11_fromUpper_22 rfl (lv_at hl 2 rfl) ?_
  obtain ⟨g3, h⟩ := gd_some h
  refine ra_i hx hb cx hw 5 rfl (by decide) g3 dX11_fromUpper_23 ?_
  refine ri_isub hx hb dX11_fromUpper_24 ?_
  refine ri_imul hx hb dX11_fromUpper_25 ?_
  refine ri_iadd hx hb dX11_fromUpper_26 ?_
  obtain rfl := so_inj h
  exact re_i hx hb hlk hr cx hw (Nat.le_of_ble_eq_true rfl) (Nat.le_of_ble_eq_true rfl) dX11_fromUpper_27
set_option maxHeartbeats 4000000 in
set_option maxRecDepth 100000 in
theorem c_X11_fromLower (l : Launch) (G : GG) (sz : Nat) (N : Nat) (a_p0 a_p0_score a_p0_good a_p0_bad a_p0_goodAhead a_p0_badAhead a_p1 a_p1_good a_p1_bad a_p1_open : Nat) (p0_size : Int) (p0_score : Int → Int) (p0_good : Int → Int) (p0_bad : Int → Int) (p0_goodAhead : Int → Int) (p0_badAhead : Int → Int) (p1_least : Int) (p1_most : Int) (p1_goodCost : Int) (p1_badCost : Int) (p1_referCost : Int) (p1_good : Int → Int) (p1_bad : Int → Int) (p1_open : Int → Int) (x2 : Int) (r : Int) (h : m_X11_fromLower N p0_goodAhead p0_badAhead p1_goodCost p1_referCost x2 = some r) : CtI l yX11_fromLower cX11_fromLower 3 .int (rmD 2 0 0) G sz [.ref a_p0, .ref a_p1, .int (kI x2)] [(a_p0, .inr (7, [.ref a_p0_score, .ref a_p0_good, .ref a_p0_bad, .ref a_p0_goodAhead, .ref a_p0_badAhead, .int (kI p0_size)])), (a_p0_score, cAI G 60 p0_score), (a_p0_good, cAI G 60 p0_good), (a_p0_bad, cAI G 60 p0_bad), (a_p0_goodAhead, cAI G 61 p0_goodAhead), (a_p0_badAhead, cAI G 61 p0_badAhead), (a_p1, .inr (5, [.ref a_p1_good, .ref a_p1_bad, .ref a_p1_open, .int (kI p1_least), .int (kI p1_most), .int (kI p1_goodCost), .int (kI p1_badCost), .int (kI p1_referCost)])), (a_p1_good, cAI G 1000 p1_good), (a_p1_bad, cAI G 1000 p1_bad), (a_p1_open, cAI G 1000 p1_open)] r [(a_p0, .inr (7, [.ref a_p0_score, .ref a_p0_good, .ref a_p0_bad, .ref a_p0_goodAhead, .ref a_p0_badAhead, .int (kI p0_size)])), (a_p0_score, cAI G 60 p0_score), (a_p0_good, cAI G 60 p0_good), (a_p0_bad, cAI G 60 p0_bad), (a_p0_goodAhead, cAI G 61 p0_goodAhead), (a_p0_badAhead, cAI G 61 p0_badAhead), (a_p1, .inr (5, [.ref a_p1_good, .ref a_p1_bad, .ref a_p1_open, .int (kI p1_least), .int (kI p1_most), .int (kI p1_goodCost), .int (kI p1_badCost), .int (kI p1_referCost)])), (a_p1_good, cAI G 1000 p1_good), (a_p1_bad, cAI G 1000 p1_bad), (a_p1_open, cAI G 1000 p1_open)] := by
  refine met_of (Qc := fun A => QcI G A r [(a_p0, .inr (7, [.ref a_p0_score, .ref a_p0_good, .ref a_p0_bad, .ref a_p0_goodAhead, .ref a_p0_badAhead, .int (kI p0_size)])), (a_p0_score, cAI G 60 p0_score), (a_p0_good, cAI G 60 p0_good), (a_p0_bad, cAI G 60 p0_bad), (a_p0_goodAhead, cAI G 61 p0_goodAhead), (a_p0_badAhead, cAI G 61 p0_badAhead), (a_p1, .inr (5, [.ref a_p1_good, .ref a_p1_bad, .ref a_p1_open, .int (kI p1_least), .int (kI p1_most), .int (kI p1_goodCost), .int (kI p1_badCost), .int (kI p1_referCost)])), (a_p1_good, cAI G 1000 p1_good), (a_p1_bad, cAI G 1000 p1_bad), (a_p1_open, cAI G 1000 p1_open)]) (by decide +kernel) (Nat.le_of_ble_eq_true rfl) ?_
  intro p e s m args below meth c A H locs ls cx hw hr hlk hnm hl
  have hl : lv_has ls 3 [(0, .ref a_p0), (1, .ref a_p1), (2, .int (kI x2))] := hl
  rw [m_X11_fromLower] at h
  obtain ⟨⟨hx, hb, -, -, -⟩, -⟩ := id cx
  refine lv_aload_n hx hb dX11_fromLower_0 rfl (lv_at hl 1 rfl) ?_
  refine rf_get hx hb cx hw 6 rfl rfl 5 inX6 (by decide) fl_X11_35 rfl rfl dX11_fromLower_1 ?_
  refine lv_aload_n hx hb dX11_fromLower_4 rfl (lv_at hl 0 rfl) ?_
  refine rf_get hx hb cx hw 0 rfl rfl 3 inX8 (by decide) fl_X11_40 rfl rfl dX11_fromLower_5 ?_
  refine lv_iload_n hx hb dX11_fromLower_8 rfl (lv_at hl 2 rfl) ?_
  obtain ⟨g1, h⟩ := gd_some h
  refine ra_i hx hb cx hw 4 rfl (by decide) g1 dX11_fromLower_9 ?_
  refine ri_imul hx hb dX11_fromLower_10 ?_
  refine lv_aload_n hx hb dX11_fromLower_11 rfl (lv_at hl 1 rfl) ?_
  refine rf_get hx hb cx hw 6 rfl rfl 7 inX6 (by decide) fl_X11_44 rfl rfl dX11_fromLower_12 ?_
  refine lv_aload_n hx hb dX11_fromLower_15 rfl (lv_at hl 0 rfl) ?_
  refine lv_iload_n hx hb dX11_fromLower_16 rfl (lv_at hl 2 rfl) ?_
  obtain ⟨r2, h2, h⟩ := bd_some h
  refine rc_I0 (v := r2) hw [0, 1, 2, 3, 4, 5] (rr_V cx hw (c_X8_casesAhead l G H.size N a_p0 a_p0_score a_p0_good a_p0_bad a_p0_goodAhead a_p0_badAhead p0_size p0_score p0_good p0_bad p0_goodAhead p0_badAhead x2 _ h2) mv_X11_47 [0, 1, 2, 3, 4, 5] rfl rfl rfl 0 rfl rfl ⟨Nat.le_of_ble_eq_true rfl, Nat.le_of_ble_eq_true rfl⟩ rfl hl.1 rfl (Nat.le_of_ble_eq_true rfl) dX11_fromLower_17 ⟨Nat.le_of_ble_eq_true rfl, Nat.le_of_ble_eq_true rfl⟩) rfl rfl (fun H locs hw => ?_)
  refine ri_imul hx hb dX11_fromLower_20 ?_
  refine ri_isub hx hb dX11_fromLower_21 ?_
  obtain rfl := so_inj h
  exact re_i hx hb hlk hr cx hw (Nat.le_of_ble_eq_true rfl) (Nat.le_of_ble_eq_true rfl) dX11_fromLower_22
set_option maxHeartbeats 4000000 in
set_option maxRecDepth 100000 in
theorem w_X11_seek_b92 {p : Program} {l : Launch} {e : Env} {s : State} {m : MethodId} {args : Array Value} {below : List Frame} {meth : Method} {c : Code} {A : Nat → Prop} {G : GG} (cx : CX p s m args c cX11_seek RX11 8 G) (hlk : meth.locks = false) (hr : meth.sig.returnType = none) (N : Nat) (a_t a_p1 a_p1_score a_p1_good a_p1_bad a_p1_goodAhead a_p1_badAhead a_p2 a_p2_good a_p2_bad a_p2_open : Nat) (p1_size : Int) (p1_score : Int → Int) (p1_good : Int → Int) (p1_bad : Int → Int) (p1_goodAhead : Int → Int) (p1_badAhead : Int → Int) (p2_least : Int) (p2_most : Int) (p2_goodCost : Int) (p2_badCost : Int) (p2_referCost : Int) (p2_good : Int → Int) (p2_bad : Int → Int) (p2_open : Int → Int) (r : Int × Int × Int) (k23 : Int → Int → Int → Int → Int → Int → Int → Option (Int × Int × Int)) (hk23 : ∀ (t_lower : Int) (t_upper : Int) (t_together : Int) (y3 : Int) (y4 : Int) (y5 : Int) (y6 : Int), k23 t_lower t_upper t_together y3 y4 y5 y6 = some r → ∀ (H : Heap) (locs : List Loc) (ls : Array Slot), HP G A s.heap H locs [(a_t, .inr (10, [.int (kI t_lower), .int (kI t_upper), .int (kI t_together)])), (a_p1, .inr (7, [.ref a_p1_score, .ref a_p1_good, .ref a_p1_bad, .ref a_p1_goodAhead, .ref a_p1_badAhead, .int (kI p1_size)])), (a_p1_score, cAI G 60 p1_score), (a_p1_good, cAI G 60 p1_good), (a_p1_bad, cAI G 60 p1_bad), (a_p1_goodAhead, cAI G 61 p1_goodAhead), (a_p1_badAhead, cAI G 61 p1_badAhead), (a_p2, .inr (5, [.ref a_p2_good, .ref a_p2_bad, .ref a_p2_open, .int (kI p2_least), .int (kI p2_most), .int (kI p2_goodCost), .int (kI p2_badCost), .int (kI p2_referCost)])), (a_p2_good, cAI G 1000 p2_good), (a_p2_bad, cAI G 1000 p2_bad), (a_p2_open, cAI G 1000 p2_open)] → lv_has ls 8 [(0, .ref a_t), (1, .ref a_p1), (2, .ref a_p2), (3, .int (kI y3)), (4, .int (kI y4)), (5, .int (kI y5)), (6, .int (kI y6))] → W p l e (rmD 3 0 0) s m args below meth c H locs 0 0 (MQ below (QcV G A [(a_t, .inr (10, [.int (kI r.1), .int (kI r.2.1), .int (kI r.2.2)])), (a_p1, .inr (7, [.ref a_p1_score, .ref a_p1_good, .ref a_p1_bad, .ref a_p1_goodAhead, .ref a_p1_badAhead, .int (kI p1_size)])), (a_p1_score, cAI G 60 p1_score), (a_p1_good, cAI G 60 p1_good), (a_p1_bad, cAI G 60 p1_bad), (a_p1_goodAhead, cAI G 61 p1_goodAhead), (a_p1_badAhead, cAI G 61 p1_badAhead), (a_p2, .inr (5, [.ref a_p2_good, .ref a_p2_bad, .ref a_p2_open, .int (kI p2_least), .int (kI p2_most), .int (kI p2_goodCost), .int (kI p2_badCost), .int (kI p2_referCost)])), (a_p2_good, cAI G 1000 p2_good), (a_p2_bad, cAI G 1000 p2_bad), (a_p2_open, cAI G 1000 p2_open)]) args s (rmD 3 0 0).cells (rmD 3 0 0).slots A) (F0 m 23 ls [])) : ∀ (t_lower : Int) (t_upper : Int) (t_together : Int) (y3 : Int) (y4 : Int) (y5 : Int) (y6 : Int), m_X11_seek_b92 N p1_size p1_score p1_goodAhead p1_badAhead p2_goodCost p2_badCost p2_referCost k23 t_lower t_upper t_together y3 y4 y5 y6 = some r → ∀ (H : Heap) (locs : List Loc) (ls : Array Slot), HP G A s.heap H locs [(a_t, .inr (10, [.int (kI t_lower), .int (kI t_upper), .int (kI t_together)])), (a_p1, .inr (7, [.ref a_p1_score, .ref a_p1_good, .ref a_p1_bad, .ref a_p1_goodAhead, .ref a_p1_badAhead, .int (kI p1_size)])), (a_p1_score, cAI G 60 p1_score), (a_p1_good, cAI G 60 p1_good), (a_p1_bad, cAI G 60 p1_bad), (a_p1_goodAhead, cAI G 61 p1_goodAhead), (a_p1_badAhead, cAI G 61 p1_badAhead), (a_p2, .inr (5, [.ref a_p2_good, .ref a_p2_bad, .ref a_p2_open, .int (kI p2_least), .int (kI p2_most), .int (kI p2_goodCost), .int (kI p2_badCost), .int (kI p2_referCost)])), (a_p2_good, cAI G 1000 p2_good), (a_p2_bad, cAI G 1000 p2_bad), (a_p2_open, cAI G 1000 p2_open)] → lv_has ls 8 [(0, .ref a_t), (1, .ref a_p1), (2, .ref a_p2), (3, .int (kI y3)), (4, .int (kI y4)), (5, .int (kI y5)), (6, .int (kI y6))] → W p l e (rmD 3 0 0) s m args below meth c H locs 0 0 (MQ below (QcV G A [(a_t, .inr (10, [.int (kI r.1), .int (kI r.2.1), .int (kI r.2.2)])), (a_p1, .inr (7, [.ref a_p1_score, .ref a_p1_good, .ref a_p1_bad, .ref a_p1_goodAhead, .ref a_p1_badAhead, .int (kI p1_size)])), (a_p1_score, cAI G 60 p1_score), (a_p1_good, cAI G 60 p1_good), (a_p1_bad, cAI G 60 p1_bad), (a_p1_goodAhead, cAI G 61 p1_goodAhead), (a_p1_badAhead, cAI G 61 p1_badAhead), (a_p2, .inr (5, [.ref a_p2_good, .ref a_p2_bad, .ref a_p2_open, .int (kI p2_least), .int (kI p2_most), .int (kI p2_goodCost), .int (kI p2_badCost), .int (kI p2_referCost)])), (a_p2_good, cAI G 1000 p2_good), (a_p2_bad, cAI G 1000 p2_bad), (a_p2_open, cAI G 1000 p2_open)]) args s (rmD 3 0 0).cells (rmD 3 0 0).slots A) (F0 m 92 ls []) := by
  intro t_lower t_upper t_together y3 y4 y5 y6 h H locs ls hw hl
  rw [m_X11_seek_b92] at h
  obtain ⟨⟨hx, hb, -, -, -⟩, -⟩ := id cx
  refine lv_iinc (v := kI (y6 + (-1))) (lv' := [(6, .int (kI (y6 + (-1)))), (0, .ref a_t), (1, .ref a_p1), (2, .ref a_p2), (3, .int (kI y3)), (4, .int (kI y4)), (5, .int (kI y5))]) hx hb dX11_seek_92 hl (k := 6) rfl (kI_add _ _) (by decide) rfl (fun ls hl => ?_)
  refine lv_goto (tgt := 23) hx hb dX11_seek_95 (by decide) ?_
  exact hk23 t_lower t_upper t_together y3 y4 y5 (y6 + (-1)) h _ _ _ hw (lv_sub hl [1, 2, 3, 4, 5, 6, 0] rfl)
set_option maxHeartbeats 4000000 in
set_option maxRecDepth 100000 in
theorem w_X11_seek_b49 {p : Program} {l : Launch} {e : Env} {s : State} {m : MethodId} {args : Array Value} {below : List Frame} {meth : Method} {c : Code} {A : Nat → Prop} {G : GG} (cx : CX p s m args c cX11_seek RX11 8 G) (hlk : meth.locks = false) (hr : meth.sig.returnType = none) (N : Nat) (a_t a_p1 a_p1_score a_p1_good a_p1_bad a_p1_goodAhead a_p1_badAhead a_p2 a_p2_good a_p2_bad a_p2_open : Nat) (p1_size : Int) (p1_score : Int → Int) (p1_good : Int → Int) (p1_bad : Int → Int) (p1_goodAhead : Int → Int) (p1_badAhead : Int → Int) (p2_least : Int) (p2_most : Int) (p2_goodCost : Int) (p2_badCost : Int) (p2_referCost : Int) (p2_good : Int → Int) (p2_bad : Int → Int) (p2_open : Int → Int) (r : Int × Int × Int) (k23 : Int → Int → Int → Int → Int → Int → Int → Option (Int × Int × Int)) (hk23 : ∀ (t_lower : Int) (t_upper : Int) (t_together : Int) (y3 : Int) (y4 : Int) (y5 : Int) (y6 : Int), k23 t_lower t_upper t_together y3 y4 y5 y6 = some r → ∀ (H : Heap) (locs : List Loc) (ls : Array Slot), HP G A s.heap H locs [(a_t, .inr (10, [.int (kI t_lower), .int (kI t_upper), .int (kI t_together)])), (a_p1, .inr (7, [.ref a_p1_score, .ref a_p1_good, .ref a_p1_bad, .ref a_p1_goodAhead, .ref a_p1_badAhead, .int (kI p1_size)])), (a_p1_score, cAI G 60 p1_score), (a_p1_good, cAI G 60 p1_good), (a_p1_bad, cAI G 60 p1_bad), (a_p1_goodAhead, cAI G 61 p1_goodAhead), (a_p1_badAhead, cAI G 61 p1_badAhead), (a_p2, .inr (5, [.ref a_p2_good, .ref a_p2_bad, .ref a_p2_open, .int (kI p2_least), .int (kI p2_most), .int (kI p2_goodCost), .int (kI p2_badCost), .int (kI p2_referCost)])), (a_p2_good, cAI G 1000 p2_good), (a_p2_bad, cAI G 1000 p2_bad), (a_p2_open, cAI G 1000 p2_open)] → lv_has ls 8 [(0, .ref a_t), (1, .ref a_p1), (2, .ref a_p2), (3, .int (kI y3)), (4, .int (kI y4)), (5, .int (kI y5)), (6, .int (kI y6))] → W p l e (rmD 3 0 0) s m args below meth c H locs 0 0 (MQ below (QcV G A [(a_t, .inr (10, [.int (kI r.1), .int (kI r.2.1), .int (kI r.2.2)])), (a_p1, .inr (7, [.ref a_p1_score, .ref a_p1_good, .ref a_p1_bad, .ref a_p1_goodAhead, .ref a_p1_badAhead, .int (kI p1_size)])), (a_p1_score, cAI G 60 p1_score), (a_p1_good, cAI G 60 p1_good), (a_p1_bad, cAI G 60 p1_bad), (a_p1_goodAhead, cAI G 61 p1_goodAhead), (a_p1_badAhead, cAI G 61 p1_badAhead), (a_p2, .inr (5, [.ref a_p2_good, .ref a_p2_bad, .ref a_p2_open, .int (kI p2_least), .int (kI p2_most), .int (kI p2_goodCost), .int (kI p2_badCost), .int (kI p2_referCost)])), (a_p2_good, cAI G 1000 p2_good), (a_p2_bad, cAI G 1000 p2_bad), (a_p2_open, cAI G 1000 p2_open)]) args s (rmD 3 0 0).cells (rmD 3 0 0).slots A) (F0 m 23 ls [])) : ∀ (t_lower : Int) (t_upper : Int) (t_together : Int) (y3 : Int) (y4 : Int) (y5 : Int) (y6 : Int), m_X11_seek_b49 N p1_size p1_score p1_goodAhead p1_badAhead p2_goodCost p2_badCost p2_referCost k23 t_lower t_upper t_together y3 y4 y5 y6 = some r → ∀ (H : Heap) (locs : List Loc) (ls : Array Slot), HP G A s.heap H locs [(a_t, .inr (10, [.int (kI t_lower), .int (kI t_upper), .int (kI t_together)])), (a_p1, .inr (7, [.ref a_p1_score, .ref a_p1_good, .ref a_p1_bad, .ref a_p1_goodAhead, .ref a_p1_badAhead, .int (kI p1_size)])), (a_p1_score, cAI G 60 p1_score), (a_p1_good, cAI G 60 p1_good), (a_p1_bad, cAI G 60 p1_bad), (a_p1_goodAhead, cAI G 61 p1_goodAhead), (a_p1_badAhead, cAI G 61 p1_badAhead), (a_p2, .inr (5, [.ref a_p2_good, .ref a_p2_bad, .ref a_p2_open, .int (kI p2_least), .int (kI p2_most), .int (kI p2_goodCost), .int (kI p2_badCost), .int (kI p2_referCost)])), (a_p2_good, cAI G 1000 p2_good), (a_p2_bad, cAI G 1000 p2_bad), (a_p2_open, cAI G 1000 p2_open)] → lv_has ls 8 [(0, .ref a_t), (1, .ref a_p1), (2, .ref a_p2), (3, .int (kI y3)), (4, .int (kI y4)), (5, .int (kI y5)), (6, .int (kI y6))] → W p l e (rmD 3 0 0) s m args below meth c H locs 0 0 (MQ below (QcV G A [(a_t, .inr (10, [.int (kI r.1), .int (kI r.2.1), .int (kI r.2.2)])), (a_p1, .inr (7, [.ref a_p1_score, .ref a_p1_good, .ref a_p1_bad, .ref a_p1_goodAhead, .ref a_p1_badAhead, .int (kI p1_size)])), (a_p1_score, cAI G 60 p1_score), (a_p1_good, cAI G 60 p1_good), (a_p1_bad, cAI G 60 p1_bad), (a_p1_goodAhead, cAI G 61 p1_goodAhead), (a_p1_badAhead, cAI G 61 p1_badAhead), (a_p2, .inr (5, [.ref a_p2_good, .ref a_p2_bad, .ref a_p2_open, .int (kI p2_least), .int (kI p2_most), .int (kI p2_goodCost), .int (kI p2_badCost), .int (kI p2_referCost)])), (a_p2_good, cAI G 1000 p2_good), (a_p2_bad, cAI G 1000 p2_bad), (a_p2_open, cAI G 1000 p2_open)]) args s (rmD 3 0 0).cells (rmD 3 0 0).slots A) (F0 m 49 ls []) := by
  intro t_lower t_upper t_together y3 y4 y5 y6 h H locs ls hw hl
  rw [m_X11_seek_b49] at h
  obtain ⟨⟨hx, hb, -, -, -⟩, -⟩ := id cx
  refine lv_aload_n hx hb dX11_seek_49 rfl (lv_at hl 1 rfl) ?_
  refine lv_aload_n hx hb dX11_seek_50 rfl (lv_at hl 2 rfl) ?_
  refine lv_iload hx hb dX11_seek_51 (lv_at hl 6 rfl) ?_
  obtain ⟨r1, h1, h⟩ := bd_some h
  refine rc_I0 (v := r1) hw [1, 2, 3, 4, 5, 6, 7, 8, 9, 10] (rr_S cx hw (c_X11_fromLower l G H.size N a_p1 a_p1_score a_p1_good a_p1_bad a_p1_goodAhead a_p1_badAhead a_p2 a_p2_good a_p2_bad a_p2_open p1_size p1_score p1_good p1_bad p1_goodAhead p1_badAhead p2_least p2_most p2_goodCost p2_badCost p2_referCost p2_good p2_bad p2_open y6 _ h1) mv_X11_19 [1, 2, 3, 4, 5, 6, 7, 8, 9, 10] rfl rfl rfl ⟨Nat.le_of_ble_eq_true rfl, Nat.le_of_ble_eq_true rfl⟩ rfl hl.1 rfl (Nat.le_of_ble_eq_true rfl) dX11_seek_53 ⟨Nat.le_of_ble_eq_true rfl, Nat.le_of_ble_eq_true rfl⟩) rfl rfl (fun H locs hw => ?_)
  refine lv_aload_n hx hb dX11_seek_56 rfl (lv_at hl 1 rfl) ?_
  refine lv_aload_n hx hb dX11_seek_57 rfl (lv_at hl 2 rfl) ?_
  refine lv_iload hx hb dX11_seek_58 (lv_at hl 5 rfl) ?_
  obtain ⟨r2, h2, h⟩ := bd_some h
  refine rc_I0 (v := r2) hw [1, 2, 3, 4, 5, 6, 7, 8, 9, 10] (rr_S cx hw (c_X11_fromUpper l G H.size N a_p1 a_p1_score a_p1_good a_p1_bad a_p1_goodAhead a_p1_badAhead a_p2 a_p2_good a_p2_bad a_p2_open p1_size p1_score p1_good p1_bad p1_goodAhead p1_badAhead p2_least p2_most p2_goodCost p2_badCost p2_referCost p2_good p2_bad p2_open y5 _ h2) mv_X11_13 [1, 2, 3, 4, 5, 6, 7, 8, 9, 10] rfl rfl rfl ⟨Nat.le_of_ble_eq_true rfl, Nat.le_of_ble_eq_true rfl⟩ rfl hl.1 rfl (Nat.le_of_ble_eq_true rfl) dX11_seek_60 ⟨Nat.le_of_ble_eq_true rfl, Nat.le_of_ble_eq_true rfl⟩) rfl rfl (fun H locs hw => ?_)
  refine ri_iadd hx hb dX11_seek_63 ?_
  refine lv_istore (lv' := [(7, .int (kI (r1 + r2))), (0, .ref a_t), (1, .ref a_p1), (2, .ref a_p2), (3, .int (kI y3)), (4, .int (kI y4)), (5, .int (kI y5)), (6, .int (kI y6))]) hx hb dX11_seek_64 hl (by decide) rfl (fun ls hl => ?_)
  refine lv_iload hx hb dX11_seek_66 (lv_at hl 0 rfl) ?_
  refine lv_aload_n hx hb dX11_seek_68 rfl (lv_at hl 2 rfl) ?_
  refine lv_aload_n hx hb dX11_seek_69 rfl (lv_at hl 3 rfl) ?_
  refine lv_iload_n hx hb dX11_seek_70 rfl (lv_at hl 4 rfl) ?_
  obtain ⟨r3, h3, h⟩ := bd_some h
  refine rc_I0 (v := r3) hw [1, 2, 3, 4, 5, 6, 7, 8, 9, 10] (rr_S cx hw (c_X11_fromLower l G H.size N a_p1 a_p1_score a_p1_good a_p1_bad a_p1_goodAhead a_p1_badAhead a_p2 a_p2_good a_p2_bad a_p2_open p1_size p1_score p1_good p1_bad p1_goodAhead p1_badAhead p2_least p2_most p2_goodCost p2_badCost p2_referCost p2_good p2_bad p2_open y3 _ h3) mv_X11_19 [1, 2, 3, 4, 5, 6, 7, 8, 9, 10] rfl rfl rfl ⟨Nat.le_of_ble_eq_true rfl, Nat.le_of_ble_eq_true rfl⟩ rfl hl.1 rfl (Nat.le_of_ble_eq_true rfl) dX11_seek_71 ⟨Nat.le_of_ble_eq_true rfl, Nat.le_of_ble_eq_true rfl⟩) rfl rfl (fun H locs hw => ?_)
  refine lv_aload_n hx hb dX11_seek_74 rfl (lv_at hl 2 rfl) ?_
  refine lv_aload_n hx hb dX11_seek_75 rfl (lv_at hl 3 rfl) ?_
  refine lv_iload hx hb dX11_seek_76 (lv_at hl 5 rfl) ?_
  obtain ⟨r4, h4, h⟩ := bd_some h
  refine rc_I0 (v := r4) hw [1, 2, 3, 4, 5, 6, 7, 8, 9, 10] (rr_S cx hw (c_X11_fromUpper l G H.size N a_p1 a_p1_score a_p1_good a_p1_bad a_p1_goodAhead a_p1_badAhead a_p2 a_p2_good a_p2_bad a_p2_open p1_size p1_score p1_good p1_bad p1_goodAhead p1_badAhead p2_least p2_most p2_goodCost p2_badCost p2_referCost p2_good p2_bad p2_open y4 _ h4) mv_X11_13 [1, 2, 3, 4, 5, 6, 7, 8, 9, 10] rfl rfl rfl ⟨Nat.le_of_ble_eq_true rfl, Nat.le_of_ble_eq_true rfl⟩ rfl hl.1 rfl (Nat.le_of_ble_eq_true rfl) dX11_seek_78 ⟨Nat.le_of_ble_eq_true rfl, Nat.le_of_ble_eq_true rfl⟩) rfl rfl (fun H locs hw => ?_)
  refine ri_iadd hx hb dX11_seek_81 ?_
  obtain ⟨g5, h⟩ := gd_some h
  obtain ⟨g6, h⟩ := gd_some h
  refine ri_icmp_gt (tgt := 92) hx hb g5 g6 dX11_seek_82 (by decide) (fun c7 => ?_) (fun c7 => ?_)
  · have h := it_pos c7 h
    exact w_X11_seek_b92 cx hlk hr N a_t a_p1 a_p1_score a_p1_good a_p1_bad a_p1_goodAhead a_p1_badAhead a_p2 a_p2_good a_p2_bad a_p2_open p1_size p1_score p1_good p1_bad p1_goodAhead p1_badAhead p2_least p2_most p2_goodCost p2_badCost p2_referCost p2_good p2_bad p2_open r k23 hk23 t_lower t_upper t_together y3 y4 y5 y6 h _ _ _ hw (lv_sub hl [1, 2, 3, 4, 5, 6, 7] rfl)
  · have h := it_neg c7 h
    refine lv_iload hx hb dX11_seek_85 (lv_at hl 7 rfl) ?_
    refine lv_istore_n (lv' := [(3, .int (kI y6)), (7, .int (kI (r1 + r2))), (0, .ref a_t), (1, .ref a_p1), (2, .ref a_p2), (4, .int (kI y4)), (5, .int (kI y5)), (6, .int (kI y6))]) hx hb dX11_seek_87 rfl hl (by decide) rfl (fun ls hl => ?_)
    refine lv_iload hx hb dX11_seek_88 (lv_at hl 6 rfl) ?_
    refine lv_istore (lv' := [(4, .int (kI y5)), (3, .int (kI y6)), (7, .int (kI (r1 + r2))), (0, .ref a_t), (1, .ref a_p1), (2, .ref a_p2), (5, .int (kI y5)), (6, .int (kI y6))]) hx hb dX11_seek_90 hl (by decide) rfl (fun ls hl => ?_)
    exact w_X11_seek_b92 cx hlk hr N a_t a_p1 a_p1_score a_p1_good a_p1_bad a_p1_goodAhead a_p1_badAhead a_p2 a_p2_good a_p2_bad a_p2_open p1_size p1_score p1_good p1_bad p1_goodAhead p1_badAhead p2_least p2_most p2_goodCost p2_badCost p2_referCost p2_good p2_bad p2_open r k23 hk23 t_lower t_upper t_together y6 y5 y5 y6 h _ _ _ hw (lv_sub hl [3, 4, 5, 1, 0, 6, 7] rfl)
set_option maxHeartbeats 4000000 in
set_option maxRecDepth 100000 in
theorem w_X11_seek_b23 {p : Program} {l : Launch} {e : Env} {s : State} {m : MethodId} {args : Array Value} {below : List Frame} {meth : Method} {c : Code} {A : Nat → Prop} {G : GG} (cx : CX p s m args c cX11_seek RX11 8 G) (hlk : meth.locks = false) (hr : meth.sig.returnType = none) (N : Nat) (a_t a_p1 a_p1_score a_p1_good a_p1_bad a_p1_goodAhead a_p1_badAhead a_p2 a_p2_good a_p2_bad a_p2_open : Nat) (p1_size : Int) (p1_score : Int → Int) (p1_good : Int → Int) (p1_bad : Int → Int) (p1_goodAhead : Int → Int) (p1_badAhead : Int → Int) (p2_least : Int) (p2_most : Int) (p2_goodCost : Int) (p2_badCost : Int) (p2_referCost : Int) (p2_good : Int → Int) (p2_bad : Int → Int) (p2_open : Int → Int) (r : Int × Int × Int) : ∀ n : Nat, ∀ (t_lower : Int) (t_upper : Int) (t_together : Int) (y3 : Int) (y4 : Int) (y5 : Int) (y6 : Int), m_X11_seek_b23 N p1_size p1_score p1_goodAhead p1_badAhead p2_goodCost p2_badCost p2_referCost n t_lower t_upper t_together y3 y4 y5 y6 = some r → ∀ (H : Heap) (locs : List Loc) (ls : Array Slot), HP G A s.heap H locs [(a_t, .inr (10, [.int (kI t_lower), .int (kI t_upper), .int (kI t_together)])), (a_p1, .inr (7, [.ref a_p1_score, .ref a_p1_good, .ref a_p1_bad, .ref a_p1_goodAhead, .ref a_p1_badAhead, .int (kI p1_size)])), (a_p1_score, cAI G 60 p1_score), (a_p1_good, cAI G 60 p1_good), (a_p1_bad, cAI G 60 p1_bad), (a_p1_goodAhead, cAI G 61 p1_goodAhead), (a_p1_badAhead, cAI G 61 p1_badAhead), (a_p2, .inr (5, [.ref a_p2_good, .ref a_p2_bad, .ref a_p2_open, .int (kI p2_least), .int (kI p2_most), .int (kI p2_goodCost), .int (kI p2_badCost), .int (kI p2_referCost)])), (a_p2_good, cAI G 1000 p2_good), (a_p2_bad, cAI G 1000 p2_bad), (a_p2_open, cAI G 1000 p2_open)] → lv_has ls 8 [(0, .ref a_t), (1, .ref a_p1), (2, .ref a_p2), (3, .int (kI y3)), (4, .int (kI y4)), (5, .int (kI y5)), (6, .int (kI y6))] → W p l e (rmD 3 0 0) s m args below meth c H locs 0 0 (MQ below (QcV G A [(a_t, .inr (10, [.int (kI r.1), .int (kI r.2.1), .int (kI r.2.2)])), (a_p1, .inr (7, [.ref a_p1_score, .ref a_p1_good, .ref a_p1_bad, .ref a_p1_goodAhead, .ref a_p1_badAhead, .int (kI p1_size)])), (a_p1_score, cAI G 60 p1_score), (a_p1_good, cAI G 60 p1_good), (a_p1_bad, cAI G 60 p1_bad), (a_p1_goodAhead, cAI G 61 p1_goodAhead), (a_p1_badAhead, cAI G 61 p1_badAhead), (a_p2, .inr (5, [.ref a_p2_good, .ref a_p2_bad, .ref a_p2_open, .int (kI p2_least), .int (kI p2_most), .int (kI p2_goodCost), .int (kI p2_badCost), .int (kI p2_referCost)])), (a_p2_good, cAI G 1000 p2_good), (a_p2_bad, cAI G 1000 p2_bad), (a_p2_open, cAI G 1000 p2_open)]) args s (rmD 3 0 0).cells (rmD 3 0 0).slots A) (F0 m 23 ls []) := by
  intro n
  induction n with
  | zero => intro t_lower t_upper t_together y3 y4 y5 y6 h; exact nomatch h
  | succ n ih =>
    intro t_lower t_upper t_together y3 y4 y5 y6 h H locs ls hw hl
    rw [m_X11_seek_b23] at h
    obtain ⟨⟨hx, hb, -, -, -⟩, -⟩ := id cx
    refine lv_iload hx hb dX11_seek_23 (lv_at hl 6 rfl) ?_
    obtain ⟨g1, h⟩ := gd_some h
    refine ri_if_lt (tgt := 98) hx hb g1 dX11_seek_25 (by decide) (fun c2 => ?_) (fun c2 => ?_)
    · have h := it_pos c2 h
      refine lv_aload_n hx hb dX11_seek_98 rfl (lv_at hl 0 rfl) ?_
      refine lv_aload_n hx hb dX11_seek_99 rfl (lv_at hl 1 rfl) ?_
      refine lv_iload_n hx hb dX11_seek_100 rfl (lv_at hl 3 rfl) ?_
      obtain ⟨r3, h3, h⟩ := bd_some h
      refine rc_I0 (v := r3) hw [1, 2, 3, 4, 5, 6] (rr_V cx hw (c_X8_cutBehind l G H.size N a_p1 a_p1_score a_p1_good a_p1_bad a_p1_goodAhead a_p1_badAhead p1_size p1_score p1_good p1_bad p1_goodAhead p1_badAhead y3 _ h3) mv_X11_22 [1, 2, 3, 4, 5, 6] rfl rfl rfl 1 rfl rfl ⟨Nat.le_of_ble_eq_true rfl, Nat.le_of_ble_eq_true rfl⟩ rfl hl.1 rfl (Nat.le_of_ble_eq_true rfl) dX11_seek_101 ⟨Nat.le_of_ble_eq_true rfl, Nat.le_of_ble_eq_true rfl⟩) rfl rfl (fun H locs hw => ?_)
      refine rf_put hx hb cx hw 0 rfl rfl 0 inX11 tyX11 tyX11_ok nmX11 (by decide) fl_X11_26 rfl rfl rfl rfl (Nat.le_of_ble_eq_true rfl) dX11_seek_104 (fun H locs hw => ?_)
      have hw : HP G A s.heap H locs [(a_t, .inr (10, [.int (kI r3), .int (kI t_upper), .int (kI t_together)])), (a_p1, .inr (7, [.ref a_p1_score, .ref a_p1_good, .ref a_p1_bad, .ref a_p1_goodAhead, .ref a_p1_badAhead, .int (kI p1_size)])), (a_p1_score, cAI G 60 p1_score), (a_p1_good, cAI G 60 p1_good), (a_p1_bad, cAI G 60 p1_bad), (a_p1_goodAhead, cAI G 61 p1_goodAhead), (a_p1_badAhead, cAI G 61 p1_badAhead), (a_p2, .inr (5, [.ref a_p2_good, .ref a_p2_bad, .ref a_p2_open, .int (kI p2_least), .int (kI p2_most), .int (kI p2_goodCost), .int (kI p2_badCost), .int (kI p2_referCost)])), (a_p2_good, cAI G 1000 p2_good), (a_p2_bad, cAI G 1000 p2_bad), (a_p2_open, cAI G 1000 p2_open)] := hw
      refine lv_aload_n hx hb dX11_seek_107 rfl (lv_at hl 0 rfl) ?_
      refine lv_aload_n hx hb dX11_seek_108 rfl (lv_at hl 1 rfl) ?_
      refine lv_iload hx hb dX11_seek_109 (lv_at hl 4 rfl) ?_
      obtain ⟨r4, h4, h⟩ := bd_some h
      refine rc_I0 (v := r4) hw [1, 2, 3, 4, 5, 6] (rr_V cx hw (c_X8_cutBehind l G H.size N a_p1 a_p1_score a_p1_good a_p1_bad a_p1_goodAhead a_p1_badAhead p1_size p1_score p1_good p1_bad p1_goodAhead p1_badAhead y4 _ h4) mv_X11_22 [1, 2, 3, 4, 5, 6] rfl rfl rfl 1 rfl rfl ⟨Nat.le_of_ble_eq_true rfl, Nat.le_of_ble_eq_true rfl⟩ rfl hl.1 rfl (Nat.le_of_ble_eq_true rfl) dX11_seek_111 ⟨Nat.le_of_ble_eq_true rfl, Nat.le_of_ble_eq_true rfl⟩) rfl rfl (fun H locs hw => ?_)
      refine rf_put hx hb cx hw 0 rfl rfl 1 inX11 tyX11 tyX11_ok nmX11 (by decide) fl_X11_29 rfl rfl rfl rfl (Nat.le_of_ble_eq_true rfl) dX11_seek_114 (fun H locs hw => ?_)
      have hw : HP G A s.heap H locs [(a_t, .inr (10, [.int (kI r3), .int (kI r4), .int (kI t_together)])), (a_p1, .inr (7, [.ref a_p1_score, .ref a_p1_good, .ref a_p1_bad, .ref a_p1_goodAhead, .ref a_p1_badAhead, .int (kI p1_size)])), (a_p1_score, cAI G 60 p1_score), (a_p1_good, cAI G 60 p1_good), (a_p1_bad, cAI G 60 p1_bad), (a_p1_goodAhead, cAI G 61 p1_goodAhead), (a_p1_badAhead, cAI G 61 p1_badAhead), (a_p2, .inr (5, [.ref a_p2_good, .ref a_p2_bad, .ref a_p2_open, .int (kI p2_least), .int (kI p2_most), .int (kI p2_goodCost), .int (kI p2_badCost), .int (kI p2_referCost)])), (a_p2_good, cAI G 1000 p2_good), (a_p2_bad, cAI G 1000 p2_bad), (a_p2_open, cAI G 1000 p2_open)] := hw
      refine lv_aload_n hx hb dX11_seek_117 rfl (lv_at hl 0 rfl) ?_
      refine lv_aload_n hx hb dX11_seek_118 rfl (lv_at hl 1 rfl) ?_
      refine lv_aload_n hx hb dX11_seek_119 rfl (lv_at hl 2 rfl) ?_
      refine lv_iload_n hx hb dX11_seek_120 rfl (lv_at hl 3 rfl) ?_
      obtain ⟨r5, h5, h⟩ := bd_some h
      refine rc_I0 (v := r5) hw [1, 2, 3, 4, 5, 6, 7, 8, 9, 10] (rr_S cx hw (c_X11_fromLower l G H.size N a_p1 a_p1_score a_p1_good a_p1_bad a_p1_goodAhead a_p1_badAhead a_p2 a_p2_good a_p2_bad a_p2_open p1_size p1_score p1_good p1_bad p1_goodAhead p1_badAhead p2_least p2_most p2_goodCost p2_badCost p2_referCost p2_good p2_bad p2_open y3 _ h5) mv_X11_19 [1, 2, 3, 4, 5, 6, 7, 8, 9, 10] rfl rfl rfl ⟨Nat.le_of_ble_eq_true rfl, Nat.le_of_ble_eq_true rfl⟩ rfl hl.1 rfl (Nat.le_of_ble_eq_true rfl) dX11_seek_121 ⟨Nat.le_of_ble_eq_true rfl, Nat.le_of_ble_eq_true rfl⟩) rfl rfl (fun H locs hw => ?_)
      refine lv_aload_n hx hb dX11_seek_124 rfl (lv_at hl 1 rfl) ?_
      refine lv_aload_n hx hb dX11_seek_125 rfl (lv_at hl 2 rfl) ?_
      refine lv_iload hx hb dX11_seek_126 (lv_at hl 4 rfl) ?_
      obtain ⟨r6, h6, h⟩ := bd_some h
      refine rc_I0 (v := r6) hw [1, 2, 3, 4, 5, 6, 7, 8, 9, 10] (rr_S cx hw (c_X11_fromUpper l G H.size N a_p1 a_p1_score a_p1_good a_p1_bad a_p1_goodAhead a_p1_badAhead a_p2 a_p2_good a_p2_bad a_p2_open p1_size p1_score p1_good p1_bad p1_goodAhead p1_badAhead p2_least p2_most p2_goodCost p2_badCost p2_referCost p2_good p2_bad p2_open y4 _ h6) mv_X11_13 [1, 2, 3, 4, 5, 6, 7, 8, 9, 10] rfl rfl rfl ⟨Nat.le_of_ble_eq_true rfl, Nat.le_of_ble_eq_true rfl⟩ rfl hl.1 rfl (Nat.le_of_ble_eq_true rfl) dX11_seek_128 ⟨Nat.le_of_ble_eq_true rfl, Nat.le_of_ble_eq_true rfl⟩) rfl rfl (fun H locs hw => ?_)
      refine ri_iadd hx hb dX11_seek_131 ?_
      refine rf_put hx hb cx hw 0 rfl rfl 2 inX11 tyX11 tyX11_ok nmX11 (by decide) fl_X11_32 rfl rfl rfl rfl (Nat.le_of_ble_eq_true rfl) dX11_seek_132 (fun H locs hw => ?_)
      have hw : HP G A s.heap H locs [(a_t, .inr (10, [.int (kI r3), .int (kI r4), .int (kI (r5 + r6))])), (a_p1, .inr (7, [.ref a_p1_score, .ref a_p1_good, .ref a_p1_bad, .ref a_p1_goodAhead, .ref a_p1_badAhead, .int (kI p1_size)])), (a_p1_score, cAI G 60 p1_score), (a_p1_good, cAI G 60 p1_good), (a_p1_bad, cAI G 60 p1_bad), (a_p1_goodAhead, cAI G 61 p1_goodAhead), (a_p1_badAhead, cAI G 61 p1_badAhead), (a_p2, .inr (5, [.ref a_p2_good, .ref a_p2_bad, .ref a_p2_open, .int (kI p2_least), .int (kI p2_most), .int (kI p2_goodCost), .int (kI p2_badCost), .int (kI p2_referCost)])), (a_p2_good, cAI G 1000 p2_good), (a_p2_bad, cAI G 1000 p2_bad), (a_p2_open, cAI G 1000 p2_open)] := hw
      obtain rfl := so_inj h
      exact re_v hx hb hlk hr cx hw (Nat.le_of_ble_eq_true rfl) (Nat.le_of_ble_eq_true rfl) dX11_seek_135
    · have h := it_neg c2 h
      refine lv_aload_n hx hb dX11_seek_28 rfl (lv_at hl 1 rfl) ?_
      refine lv_aload_n hx hb dX11_seek_29 rfl (lv_at hl 2 rfl) ?_
      refine lv_iload hx hb dX11_seek_30 (lv_at hl 6 rfl) ?_
      obtain ⟨r7, h7, h⟩ := bd_some h
      refine rc_I0 (v := r7) hw [1, 2, 3, 4, 5, 6, 7, 8, 9, 10] (rr_S cx hw (c_X11_fromUpper l G H.size N a_p1 a_p1_score a_p1_good a_p1_bad a_p1_goodAhead a_p1_badAhead a_p2 a_p2_good a_p2_bad a_p2_open p1_size p1_score p1_good p1_bad p1_goodAhead p1_badAhead p2_least p2_most p2_goodCost p2_badCost p2_referCost p2_good p2_bad p2_open y6 _ h7) mv_X11_13 [1, 2, 3, 4, 5, 6, 7, 8, 9, 10] rfl rfl rfl ⟨Nat.le_of_ble_eq_true rfl, Nat.le_of_ble_eq_true rfl⟩ rfl hl.1 rfl (Nat.le_of_ble_eq_true rfl) dX11_seek_32 ⟨Nat.le_of_ble_eq_true rfl, Nat.le_of_ble_eq_true rfl⟩) rfl rfl (fun H locs hw => ?_)
      refine lv_aload_n hx hb dX11_seek_35 rfl (lv_at hl 1 rfl) ?_
      refine lv_aload_n hx hb dX11_seek_36 rfl (lv_at hl 2 rfl) ?_
      refine lv_iload hx hb dX11_seek_37 (lv_at hl 5 rfl) ?_
      obtain ⟨r8, h8, h⟩ := bd_some h
      refine rc_I0 (v := r8) hw [1, 2, 3, 4, 5, 6, 7, 8, 9, 10] (rr_S cx hw (c_X11_fromUpper l G H.size N a_p1 a_p1_score a_p1_good a_p1_bad a_p1_goodAhead a_p1_badAhead a_p2 a_p2_good a_p2_bad a_p2_open p1_size p1_score p1_good p1_bad p1_goodAhead p1_badAhead p2_least p2_most p2_goodCost p2_badCost p2_referCost p2_good p2_bad p2_open y5 _ h8) mv_X11_13 [1, 2, 3, 4, 5, 6, 7, 8, 9, 10] rfl rfl rfl ⟨Nat.le_of_ble_eq_true rfl, Nat.le_of_ble_eq_true rfl⟩ rfl hl.1 rfl (Nat.le_of_ble_eq_true rfl) dX11_seek_39 ⟨Nat.le_of_ble_eq_true rfl, Nat.le_of_ble_eq_true rfl⟩) rfl rfl (fun H locs hw => ?_)
      obtain ⟨g9, h⟩ := gd_some h
      obtain ⟨g10, h⟩ := gd_some h
      refine ri_icmp_gt (tgt := 49) hx hb g9 g10 dX11_seek_42 (by decide) (fun c11 => ?_) (fun c11 => ?_)
      · have h := it_pos c11 h
        exact w_X11_seek_b49 cx hlk hr N a_t a_p1 a_p1_score a_p1_good a_p1_bad a_p1_goodAhead a_p1_badAhead a_p2 a_p2_good a_p2_bad a_p2_open p1_size p1_score p1_good p1_bad p1_goodAhead p1_badAhead p2_least p2_most p2_goodCost p2_badCost p2_referCost p2_good p2_bad p2_open r (m_X11_seek_b23 N p1_size p1_score p1_goodAhead p1_badAhead p2_goodCost p2_badCost p2_referCost n) ih t_lower t_upper t_together y3 y4 y5 y6 h _ _ _ hw (lv_sub hl [0, 1, 2, 3, 4, 5, 6] rfl)
      · have h := it_neg c11 h
        refine lv_iload hx hb dX11_seek_45 (lv_at hl 6 rfl) ?_
        refine lv_istore (lv' := [(5, .int (kI y6)), (0, .ref a_t), (1, .ref a_p1), (2, .ref a_p2), (3, .int (kI y3)), (4, .int (kI y4)), (6, .int (kI y6))]) hx hb dX11_seek_47 hl (by decide) rfl (fun ls hl => ?_)
        exact w_X11_seek_b49 cx hlk hr N a_t a_p1 a_p1_score a_p1_good a_p1_bad a_p1_goodAhead a_p1_badAhead a_p2 a_p2_good a_p2_bad a_p2_open p1_size p1_score p1_good p1_bad p1_goodAhead p1_badAhead p2_least p2_most p2_goodCost p2_badCost p2_referCost p2_good p2_bad p2_open r (m_X11_seek_b23 N p1_size p1_score p1_goodAhead p1_badAhead p2_goodCost p2_badCost p2_referCost n) ih t_lower t_upper t_together y3 y4 y6 y6 h _ _ _ hw (lv_sub hl [1, 2, 3, 4, 5, 0, 6] rfl)
set_option maxHeartbeats 4000000 in
set_option maxRecDepth 100000 in
theorem c_X11_seek (l : Launch) (G : GG) (sz : Nat) (N : Nat) (a_t a_p1 a_p1_score a_p1_good a_p1_bad a_p1_goodAhead a_p1_badAhead a_p2 a_p2_good a_p2_bad a_p2_open : Nat) (t_lower : Int) (t_upper : Int) (t_together : Int) (p1_size : Int) (p1_score : Int → Int) (p1_good : Int → Int) (p1_bad : Int → Int) (p1_goodAhead : Int → Int) (p1_badAhead : Int → Int) (p2_least : Int) (p2_most : Int) (p2_goodCost : Int) (p2_badCost : Int) (p2_referCost : Int) (p2_good : Int → Int) (p2_bad : Int → Int) (p2_open : Int → Int)  (r : Int × Int × Int) (h : m_X11_seek N p1_size p1_score p1_goodAhead p1_badAhead p2_goodCost p2_badCost p2_referCost t_lower t_upper t_together = some r) : CtV l yX11_seek cX11_seek 8 (rmD 3 0 0) G sz [.ref a_t, .ref a_p1, .ref a_p2] [(a_t, .inr (10, [.int (kI t_lower), .int (kI t_upper), .int (kI t_together)])), (a_p1, .inr (7, [.ref a_p1_score, .ref a_p1_good, .ref a_p1_bad, .ref a_p1_goodAhead, .ref a_p1_badAhead, .int (kI p1_size)])), (a_p1_score, cAI G 60 p1_score), (a_p1_good, cAI G 60 p1_good), (a_p1_bad, cAI G 60 p1_bad), (a_p1_goodAhead, cAI G 61 p1_goodAhead), (a_p1_badAhead, cAI G 61 p1_badAhead), (a_p2, .inr (5, [.ref a_p2_good, .ref a_p2_bad, .ref a_p2_open, .int (kI p2_least), .int (kI p2_most), .int (kI p2_goodCost), .int (kI p2_badCost), .int (kI p2_referCost)])), (a_p2_good, cAI G 1000 p2_good), (a_p2_bad, cAI G 1000 p2_bad), (a_p2_open, cAI G 1000 p2_open)] [(a_t, .inr (10, [.int (kI r.1), .int (kI r.2.1), .int (kI r.2.2)])), (a_p1, .inr (7, [.ref a_p1_score, .ref a_p1_good, .ref a_p1_bad, .ref a_p1_goodAhead, .ref a_p1_badAhead, .int (kI p1_size)])), (a_p1_score, cAI G 60 p1_score), (a_p1_good, cAI G 60 p1_good), (a_p1_bad, cAI G 60 p1_bad), (a_p1_goodAhead, cAI G 61 p1_goodAhead), (a_p1_badAhead, cAI G 61 p1_badAhead), (a_p2, .inr (5, [.ref a_p2_good, .ref a_p2_bad, .ref a_p2_open, .int (kI p2_least), .int (kI p2_most), .int (kI p2_goodCost), .int (kI p2_badCost), .int (kI p2_referCost)])), (a_p2_good, cAI G 1000 p2_good), (a_p2_bad, cAI G 1000 p2_bad), (a_p2_open, cAI G 1000 p2_open)] := by
  refine met_of (Qc := fun A => QcV G A [(a_t, .inr (10, [.int (kI r.1), .int (kI r.2.1), .int (kI r.2.2)])), (a_p1, .inr (7, [.ref a_p1_score, .ref a_p1_good, .ref a_p1_bad, .ref a_p1_goodAhead, .ref a_p1_badAhead, .int (kI p1_size)])), (a_p1_score, cAI G 60 p1_score), (a_p1_good, cAI G 60 p1_good), (a_p1_bad, cAI G 60 p1_bad), (a_p1_goodAhead, cAI G 61 p1_goodAhead), (a_p1_badAhead, cAI G 61 p1_badAhead), (a_p2, .inr (5, [.ref a_p2_good, .ref a_p2_bad, .ref a_p2_open, .int (kI p2_least), .int (kI p2_most), .int (kI p2_goodCost), .int (kI p2_badCost), .int (kI p2_referCost)])), (a_p2_good, cAI G 1000 p2_good), (a_p2_bad, cAI G 1000 p2_bad), (a_p2_open, cAI G 1000 p2_open)]) (by decide +kernel) (Nat.le_of_ble_eq_true rfl) ?_
  intro p e s m args below meth c A H locs ls cx hw hr hlk hnm hl
  have hl : lv_has ls 8 [(0, .ref a_t), (1, .ref a_p1), (2, .ref a_p2)] := hl
  rw [m_X11_seek] at h
  obtain ⟨⟨hx, hb, -, -, -⟩, -⟩ := id cx
  refine lv_aload_n hx hb dX11_seek_0 rfl (lv_at hl 1 rfl) ?_
  refine rf_get hx hb cx hw 1 rfl rfl 5 inX8 (by decide) fl_X11_7 rfl rfl dX11_seek_1 ?_
  refine lv_istore_n (lv' := [(3, .int (kI p1_size)), (0, .ref a_t), (1, .ref a_p1), (2, .ref a_p2)]) hx hb dX11_seek_4 rfl hl (by decide) rfl (fun ls hl => ?_)
  refine lv_aload_n hx hb dX11_seek_5 rfl (lv_at hl 2 rfl) ?_
  refine rf_get hx hb cx hw 1 rfl rfl 5 inX8 (by decide) fl_X11_7 rfl rfl dX11_seek_6 ?_
  refine lv_istore (lv' := [(4, .int (kI p1_size)), (3, .int (kI p1_size)), (0, .ref a_t), (1, .ref a_p1), (2, .ref a_p2)]) hx hb dX11_seek_9 hl (by decide) rfl (fun ls hl => ?_)
  refine lv_aload_n hx hb dX11_seek_11 rfl (lv_at hl 3 rfl) ?_
  refine rf_get hx hb cx hw 1 rfl rfl 5 inX8 (by decide) fl_X11_7 rfl rfl dX11_seek_12 ?_
  refine lv_istore (lv' := [(5, .int (kI p1_size)), (4, .int (kI p1_size)), (3, .int (kI p1_size)), (0, .ref a_t), (1, .ref a_p1), (2, .ref a_p2)]) hx hb dX11_seek_15 hl (by decide) rfl (fun ls hl => ?_)
  refine lv_aload_n hx hb dX11_seek_17 rfl (lv_at hl 4 rfl) ?_
  refine rf_get hx hb cx hw 1 rfl rfl 5 inX8 (by decide) fl_X11_7 rfl rfl dX11_seek_18 ?_
  refine lv_istore (lv' := [(6, .int (kI p1_size)), (5, .int (kI p1_size)), (4, .int (kI p1_size)), (3, .int (kI p1_size)), (0, .ref a_t), (1, .ref a_p1), (2, .ref a_p2)]) hx hb dX11_seek_21 hl (by decide) rfl (fun ls hl => ?_)
  exact w_X11_seek_b23 cx hlk hr N a_t a_p1 a_p1_score a_p1_good a_p1_bad a_p1_goodAhead a_p1_badAhead a_p2 a_p2_good a_p2_bad a_p2_open p1_size p1_score p1_good p1_bad p1_goodAhead p1_badAhead p2_least p2_most p2_goodCost p2_badCost p2_referCost p2_good p2_bad p2_open r N t_lower t_upper t_together p1_size p1_size p1_size p1_size h _ _ _ hw (lv_sub hl [4, 5, 6, 3, 2, 1, 0] rfl)
set_option maxHeartbeats 4000000 in
set_option maxRecDepth 100000 in
theorem c_X11_advice (l : Launch) (G : GG) (sz : Nat) (N : Nat) (a_t : Nat) (t_lower : Int) (t_upper : Int) (t_together : Int) (x1 : Int) (r : Int) (h : m_X11_advice N t_lower t_upper x1 = some r) : CtI l yX11_advice cX11_advice 2 .int (rmD 1 0 0) G sz [.ref a_t, .int (kI x1)] [(a_t, .inr (10, [.int (kI t_lower), .int (kI t_upper), .int (kI t_together)]))] r [(a_t, .inr (10, [.int (kI t_lower), .int (kI t_upper), .int (kI t_together)]))] := by
  refine met_of (Qc := fun A => QcI G A r [(a_t, .inr (10, [.int (kI t_lower), .int (kI t_upper), .int (kI t_together)]))]) (by decide +kernel) (Nat.le_of_ble_eq_true rfl) ?_
  intro p e s m args below meth c A H locs ls cx hw hr hlk hnm hl
  have hl : lv_has ls 2 [(0, .ref a_t), (1, .int (kI x1))] := hl
  rw [m_X11_advice] at h
  obtain ⟨⟨hx, hb, -, -, -⟩, -⟩ := id cx
  refine lv_iload_n hx hb dX11_advice_0 rfl (lv_at hl 1 rfl) ?_
  refine lv_aload_n hx hb dX11_advice_1 rfl (lv_at hl 0 rfl) ?_
  refine rf_get hx hb cx hw 0 rfl rfl 0 inX11 (by decide) fl_X11_26 rfl rfl dX11_advice_2 ?_
  obtain ⟨g1, h⟩ := gd_some h
  obtain ⟨g2, h⟩ := gd_some h
  refine ri_icmp_ge (tgt := 10) hx hb g1 g2 dX11_advice_5 (by decide) (fun c3 => ?_) (fun c3 => ?_)
  · have h := it_pos c3 h
    refine lv_iload_n hx hb dX11_advice_10 rfl (lv_at hl 1 rfl) ?_
    refine lv_aload_n hx hb dX11_advice_11 rfl (lv_at hl 0 rfl) ?_
    refine rf_get hx hb cx hw 0 rfl rfl 1 inX11 (by decide) fl_X11_29 rfl rfl dX11_advice_12 ?_
    obtain ⟨g4, h⟩ := gd_some h
    refine ri_icmp_ge (tgt := 22) hx hb g1 g4 dX11_advice_15 (by decide) (fun c5 => ?_) (fun c5 => ?_)
    · have h := it_pos c5 h
      refine ri_iconst hx hb dX11_advice_22 ?_
      obtain rfl := so_inj h
      exact re_i hx hb hlk hr cx hw (Nat.le_of_ble_eq_true rfl) (Nat.le_of_ble_eq_true rfl) dX11_advice_23
    · have h := it_neg c5 h
      refine ri_iconst hx hb dX11_advice_18 ?_
      refine lv_goto (tgt := 23) hx hb dX11_advice_19 (by decide) ?_
      obtain rfl := so_inj h
      exact re_i hx hb hlk hr cx hw (Nat.le_of_ble_eq_true rfl) (Nat.le_of_ble_eq_true rfl) dX11_advice_23
  · have h := it_neg c3 h
    refine ri_iconst hx hb dX11_advice_8 ?_
    obtain rfl := so_inj h
    exact re_i hx hb hlk hr cx hw (Nat.le_of_ble_eq_true rfl) (Nat.le_of_ble_eq_true rfl) dX11_advice_9
