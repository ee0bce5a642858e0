def PL_X8_scoresTogether_b5 (p : Program) (l : Launch) (e : Env) (s : State) (m : MethodId) (args : Array Value) (below : List Frame) (meth : Method) (c : Code) (A : Nat → Prop) (G : GG) (S : SM) (a_t a_t_score a_t_good a_t_bad a_t_goodAhead a_t_badAhead : Nat) (t_size : Int) (t_score : Int → Int) (t_good : Int → Int) (t_bad : Int → Int) (t_goodAhead : Int → Int) (t_badAhead : Int → Int) (x1 : Int) (x2 : Int) (r : Int) (kk : Int → Int → Option (Int)) : Prop := ∀ (y3 : Int) (y5 : Int), kk y3 y5 = some r → ∀ (H : Heap) (locs : List Loc) (ls : Array Slot), HP G A s.heap H locs [(a_t, .inr (7, [.ref a_t_score, .ref a_t_good, .ref a_t_bad, .ref a_t_goodAhead, .ref a_t_badAhead, .int (kI t_size)])), (a_t_score, cAI G 60 t_score), (a_t_good, cAI G 60 t_good), (a_t_bad, cAI G 60 t_bad), (a_t_goodAhead, cAI G 61 t_goodAhead), (a_t_badAhead, cAI G 61 t_badAhead)] → lv_has ls 6 [(0, .ref a_t), (1, .int (kI x1)), (2, .int (kI x2)), (3, .long (kL y3)), (5, .int (kI y5))] → W p l e (rmD 1 0 0) s m args below meth c H locs 0 0 (MQ below (QcL G A r [(a_t, .inr (7, [.ref a_t_score, .ref a_t_good, .ref a_t_bad, .ref a_t_goodAhead, .ref a_t_badAhead, .int (kI t_size)])), (a_t_score, cAI G 60 t_score), (a_t_good, cAI G 60 t_good), (a_t_bad, cAI G 60 t_bad), (a_t_goodAhead, cAI G 61 t_goodAhead), (a_t_badAhead, cAI G 61 t_badAhead)]) args s (rmD 1 0 0).cells (rmD 1 0 0).slots A) (F0 m 5 ls [])
set_option maxHeartbeats 4000000 in
set_option maxRecDepth 100000 in
theorem w_X8_scoresTogether_b5 {p : Program} {l : Launch} {e : Env} {s : State} {m : MethodId} {args : Array Value} {below : List Frame} {meth : Method} {c : Code} {A : Nat → Prop} {G : GG} {S : SM} (cx : CX p s m args c cX8_scoresTogether RX8 6 G S A) (hlk : meth.locks = false) (hr : meth.sig.returnType = some .long) (N : Nat) (a_t a_t_score a_t_good a_t_bad a_t_goodAhead a_t_badAhead : Nat) (t_size : Int) (t_score : Int → Int) (t_good : Int → Int) (t_bad : Int → Int) (t_goodAhead : Int → Int) (t_badAhead : Int → Int) (x1 : Int) (x2 : Int) (r : Int) : ∀ n : Nat, PL_X8_scoresTogether_b5 p l e s m args below meth c A G S a_t a_t_score a_t_good a_t_bad a_t_goodAhead a_t_badAhead t_size t_score t_good t_bad t_goodAhead t_badAhead x1 x2 r (m_X8_scoresTogether_b5 N t_size t_score t_good t_bad x1 x2 n) := by
  intro n
  induction n with
  | zero => intro y3 y5 h; exact nomatch h
  | succ n ih =>
    intro y3 y5 h H locs ls hw hl
    rw [m_X8_scoresTogether_b5] at h
    obtain ⟨⟨hx, hb, -, -, -⟩, -⟩ := id cx
    refine lv_iload hx hb dX8_scoresTogether_5 (lv_at hl 4 rfl) ?_
    refine lv_aload_n hx hb dX8_scoresTogether_7 rfl (lv_at hl 0 rfl) ?_
    refine rf_get hx hb cx hw 0 rfl rfl 5 inX8 (by decide) fl_X8_27 rfl rfl dX8_scoresTogether_8 ?_
    obtain ⟨g1, h⟩ := gd_some h
    obtain ⟨g2, h⟩ := gd_some h
    refine ri_icmp_ge (tgt := 52) hx hb g1 g2 dX8_scoresTogether_11 (by decide) (fun c3 => ?_) (fun c3 => ?_)
    · have h := it_pos c3 h
      refine lv_lload_n hx hb dX8_scoresTogether_52 rfl (lv_at hl 3 rfl) ?_
      obtain rfl := so_inj h
      exact re_l hx hb hlk hr cx hw (Nat.le_of_ble_eq_true rfl) (Nat.le_of_ble_eq_true rfl) dX8_scoresTogether_53
    · have h := it_neg c3 h
      refine lv_lload_n hx hb dX8_scoresTogether_14 rfl (lv_at hl 3 rfl) ?_
      refine lv_aload_n hx hb dX8_scoresTogether_15 rfl (lv_at hl 0 rfl) ?_
      refine rf_get hx hb cx hw 0 rfl rfl 0 inX8 (by decide) fl_X8_9 rfl rfl dX8_scoresTogether_16 ?_
      refine lv_iload hx hb dX8_scoresTogether_19 (lv_at hl 4 rfl) ?_
      obtain ⟨g4, h⟩ := gd_some h
      refine ra_i hx hb cx hw 1 rfl (by decide) g4 dX8_scoresTogether_21 ?_
      obtain ⟨g5, h⟩ := gd_some h
      refine ri_i2l hx hb g5 dX8_scoresTogether_22 ?_
      refine lv_iload_n hx hb dX8_scoresTogether_23 rfl (lv_at hl 1 rfl) ?_
      refine lv_aload_n hx hb dX8_scoresTogether_24 rfl (lv_at hl 0 rfl) ?_
      refine rf_get hx hb cx hw 0 rfl rfl 1 inX8 (by decide) fl_X8_15 rfl rfl dX8_scoresTogether_25 ?_
      refine lv_iload hx hb dX8_scoresTogether_28 (lv_at hl 4 rfl) ?_
      refine ra_i hx hb cx hw 2 rfl (by decide) g4 dX8_scoresTogether_30 ?_
      refine ri_imul hx hb dX8_scoresTogether_31 ?_
      refine lv_iload_n hx hb dX8_scoresTogether_32 rfl (lv_at hl 2 rfl) ?_
      refine lv_aload_n hx hb dX8_scoresTogether_33 rfl (lv_at hl 0 rfl) ?_
      refine rf_get hx hb cx hw 0 rfl rfl 2 inX8 (by decide) fl_X8_18 rfl rfl dX8_scoresTogether_34 ?_
      refine lv_iload hx hb dX8_scoresTogether_37 (lv_at hl 4 rfl) ?_
      refine ra_i hx hb cx hw 3 rfl (by decide) g4 dX8_scoresTogether_39 ?_
      refine ri_imul hx hb dX8_scoresTogether_40 ?_
      refine ri_iadd hx hb dX8_scoresTogether_41 ?_
      obtain ⟨g6, h⟩ := gd_some h
      refine ri_i2l hx hb g6 dX8_scoresTogether_42 ?_
      refine ri_lmul hx hb dX8_scoresTogether_43 ?_
      refine ri_ladd hx hb dX8_scoresTogether_44 ?_
      refine lv_lstore_n (lv' := [(3, .long (kL (y3 + ((t_score y5) * ((x1 * (t_good y5)) + (x2 * (t_bad y5))))))), (0, .ref a_t), (1, .int (kI x1)), (2, .int (kI x2)), (5, .int (kI y5))]) hx hb dX8_scoresTogether_45 rfl hl (by decide) rfl (fun ls hl => ?_)
      refine lv_iinc (v := kI (y5 + 1)) (lv' := [(5, .int (kI (y5 + 1))), (3, .long (kL (y3 + ((t_score y5) * ((x1 * (t_good y5)) + (x2 * (t_bad y5))))))), (0, .ref a_t), (1, .int (kI x1)), (2, .int (kI x2))]) hx hb dX8_scoresTogether_46 hl (k := 4) rfl (kI_add _ _) (by decide) rfl (fun ls hl => ?_)
      refine lv_goto (tgt := 5) hx hb dX8_scoresTogether_49 (by decide) ?_
      exact ih (y3 + ((t_score y5) * ((x1 * (t_good y5)) + (x2 * (t_bad y5))))) (y5 + 1) h _ _ _ hw (lv_sub hl [2, 3, 4, 1, 0] rfl)
set_option maxHeartbeats 4000000 in
set_option maxRecDepth 100000 in
theorem c_X8_scoresTogether (l : Launch) (G : GG) (S : SM) (sz : Nat) (N : Nat) (a_t a_t_score a_t_good a_t_bad a_t_goodAhead a_t_badAhead : Nat) (t_size : Int) (t_score : Int → Int) (t_good : Int → Int) (t_bad : Int → Int) (t_goodAhead : Int → Int) (t_badAhead : Int → Int) (x1 : Int) (x2 : Int) (r : Int) (h : m_X8_scoresTogether N t_size t_score t_good t_bad x1 x2 = some r) : CtL l yX8_scoresTogether cX8_scoresTogether 6 (rmD 1 0 0) G S sz [.ref a_t, .int (kI x1), .int (kI x2)] [(a_t, .inr (7, [.ref a_t_score, .ref a_t_good, .ref a_t_bad, .ref a_t_goodAhead, .ref a_t_badAhead, .int (kI t_size)])), (a_t_score, cAI G 60 t_score), (a_t_good, cAI G 60 t_good), (a_t_bad, cAI G 60 t_bad), (a_t_goodAhead, cAI G 61 t_goodAhead), (a_t_badAhead, cAI G 61 t_badAhead)] r [(a_t, .inr (7, [.ref a_t_score, .ref a_t_good, .ref a_t_bad, .ref a_t_goodAhead, .ref a_t_badAhead, .int (kI t_size)])), (a_t_score, cAI G 60 t_score), (a_t_good, cAI G 60 t_good), (a_t_bad, cAI G 60 t_bad), (a_t_goodAhead, cAI G 61 t_goodAhead), (a_t_badAhead, cAI G 61 t_badAhead)] := by
  refine met_L (by decide +kernel) (Nat.le_of_ble_eq_true rfl) ?_
  intro p e s m args below meth c A H locs ls cx hw hr hlk hnm hl
  have hl : lv_has ls 6 [(0, .ref a_t), (1, .int (kI x1)), (2, .int (kI x2))] := hl
  rw [m_X8_scoresTogether] at h
  obtain ⟨⟨hx, hb, -, -, -⟩, -⟩ := id cx
  refine ri_lconst hx hb 0 dX8_scoresTogether_0 rfl ?_
  refine lv_lstore_n (lv' := [(3, .long (kL 0)), (0, .ref a_t), (1, .int (kI x1)), (2, .int (kI x2))]) hx hb dX8_scoresTogether_1 rfl hl (by decide) rfl (fun ls hl => ?_)
  refine ri_iconst hx hb dX8_scoresTogether_2 ?_
  refine lv_istore (lv' := [(5, .int (kI 0)), (3, .long (kL 0)), (0, .ref a_t), (1, .int (kI x1)), (2, .int (kI x2))]) hx hb dX8_scoresTogether_3 hl (by decide) rfl (fun ls hl => ?_)
  exact w_X8_scoresTogether_b5 cx hlk hr N a_t a_t_score a_t_good a_t_bad a_t_goodAhead a_t_badAhead t_size t_score t_good t_bad t_goodAhead t_badAhead x1 x2 r N 0 0 h _ _ _ hw (lv_sub hl [2, 3, 4, 1, 0] rfl)
def PL_X8_halvesInOrder_b4 (p : Program) (l : Launch) (e : Env) (s : State) (m : MethodId) (args : Array Value) (below : List Frame) (meth : Method) (c : Code) (A : Nat → Prop) (G : GG) (S : SM) (a_t a_t_score a_t_good a_t_bad a_t_goodAhead a_t_badAhead : Nat) (t_size : Int) (t_score : Int → Int) (t_good : Int → Int) (t_bad : Int → Int) (t_goodAhead : Int → Int) (t_badAhead : Int → Int) (r : Int) (kk : Int → Int → Option (Int)) : Prop := ∀ (y1 : Int) (y3 : Int), kk y1 y3 = some r → ∀ (H : Heap) (locs : List Loc) (ls : Array Slot), HP G A s.heap H locs [(a_t, .inr (7, [.ref a_t_score, .ref a_t_good, .ref a_t_bad, .ref a_t_goodAhead, .ref a_t_badAhead, .int (kI t_size)])), (a_t_score, cAI G 60 t_score), (a_t_good, cAI G 60 t_good), (a_t_bad, cAI G 60 t_bad), (a_t_goodAhead, cAI G 61 t_goodAhead), (a_t_badAhead, cAI G 61 t_badAhead)] → lv_has ls 4 [(0, .ref a_t), (1, .long (kL y1)), (3, .int (kI y3))] → W p l e (rmD 1 0 0) s m args below meth c H locs 0 0 (MQ below (QcL G A r [(a_t, .inr (7, [.ref a_t_score, .ref a_t_good, .ref a_t_bad, .ref a_t_goodAhead, .ref a_t_badAhead, .int (kI t_size)])), (a_t_score, cAI G 60 t_score), (a_t_good, cAI G 60 t_good), (a_t_bad, cAI G 60 t_bad), (a_t_goodAhead, cAI G 61 t_goodAhead), (a_t_badAhead, cAI G 61 t_badAhead)]) args s (rmD 1 0 0).cells (rmD 1 0 0).slots A) (F0 m 4 ls [])
set_option maxHeartbeats 4000000 in
set_option maxRecDepth 100000 in
theorem w_X8_halvesInOrder_b4 {p : Program} {l : Launch} {e : Env} {s : State} {m : MethodId} {args : Array Value} {below : List Frame} {meth : Method} {c : Code} {A : Nat → Prop} {G : GG} {S : SM} (cx : CX p s m args c cX8_halvesInOrder RX8 4 G S A) (hlk : meth.locks = false) (hr : meth.sig.returnType = some .long) (N : Nat) (a_t a_t_score a_t_good a_t_bad a_t_goodAhead a_t_badAhead : Nat) (t_size : Int) (t_score : Int → Int) (t_good : Int → Int) (t_bad : Int → Int) (t_goodAhead : Int → Int) (t_badAhead : Int → Int) (r : Int) : ∀ n : Nat, PL_X8_halvesInOrder_b4 p l e s m args below meth c A G S a_t a_t_score a_t_good a_t_bad a_t_goodAhead a_t_badAhead t_size t_score t_good t_bad t_goodAhead t_badAhead r (m_X8_halvesInOrder_b4 N t_size t_good t_bad t_badAhead n) := by
  intro n
  induction n with
  | zero => intro y1 y3 h; exact nomatch h
  | succ n ih =>
    intro y1 y3 h H locs ls hw hl
    rw [m_X8_halvesInOrder_b4] at h
    obtain ⟨⟨hx, hb, -, -, -⟩, -⟩ := id cx
    refine lv_iload_n hx hb dX8_halvesInOrder_4 rfl (lv_at hl 2 rfl) ?_
    refine lv_aload_n hx hb dX8_halvesInOrder_5 rfl (lv_at hl 0 rfl) ?_
    refine rf_get hx hb cx hw 0 rfl rfl 5 inX8 (by decide) fl_X8_27 rfl rfl dX8_halvesInOrder_6 ?_
    obtain ⟨g1, h⟩ := gd_some h
    obtain ⟨g2, h⟩ := gd_some h
    refine ri_icmp_ge (tgt := 45) hx hb g1 g2 dX8_halvesInOrder_9 (by decide) (fun c3 => ?_) (fun c3 => ?_)
    · have h := it_pos c3 h
      refine lv_lload_n hx hb dX8_halvesInOrder_45 rfl (lv_at hl 1 rfl) ?_
      obtain rfl := so_inj h
      exact re_l hx hb hlk hr cx hw (Nat.le_of_ble_eq_true rfl) (Nat.le_of_ble_eq_true rfl) dX8_halvesInOrder_46
    · have h := it_neg c3 h
      refine lv_lload_n hx hb dX8_halvesInOrder_12 rfl (lv_at hl 1 rfl) ?_
      refine lv_aload_n hx hb dX8_halvesInOrder_13 rfl (lv_at hl 0 rfl) ?_
      refine rf_get hx hb cx hw 0 rfl rfl 1 inX8 (by decide) fl_X8_15 rfl rfl dX8_halvesInOrder_14 ?_
      refine lv_iload_n hx hb dX8_halvesInOrder_17 rfl (lv_at hl 2 rfl) ?_
      obtain ⟨g4, h⟩ := gd_some h
      refine ra_i hx hb cx hw 2 rfl (by decide) g4 dX8_halvesInOrder_18 ?_
      obtain ⟨g5, h⟩ := gd_some h
      refine ri_i2l hx hb g5 dX8_halvesInOrder_19 ?_
      refine ri_iconst hx hb dX8_halvesInOrder_20 ?_
      refine lv_aload_n hx hb dX8_halvesInOrder_21 rfl (lv_at hl 0 rfl) ?_
      refine rf_get hx hb cx hw 0 rfl rfl 4 inX8 (by decide) fl_X8_24 rfl rfl dX8_halvesInOrder_22 ?_
      refine lv_iload_n hx hb dX8_halvesInOrder_25 rfl (lv_at hl 2 rfl) ?_
      obtain ⟨g6, h⟩ := gd_some h
      refine ra_i hx hb cx hw 5 rfl (by decide) g6 dX8_halvesInOrder_26 ?_
      refine ri_imul hx hb dX8_halvesInOrder_27 ?_
      refine lv_aload_n hx hb dX8_halvesInOrder_28 rfl (lv_at hl 0 rfl) ?_
      refine rf_get hx hb cx hw 0 rfl rfl 2 inX8 (by decide) fl_X8_18 rfl rfl dX8_halvesInOrder_29 ?_
      refine lv_iload_n hx hb dX8_halvesInOrder_32 rfl (lv_at hl 2 rfl) ?_
      refine ra_i hx hb cx hw 3 rfl (by decide) g4 dX8_halvesInOrder_33 ?_
      refine ri_iadd hx hb dX8_halvesInOrder_34 ?_
      obtain ⟨g7, h⟩ := gd_some h
      refine ri_i2l hx hb g7 dX8_halvesInOrder_35 ?_
      refine ri_lmul hx hb dX8_halvesInOrder_36 ?_
      refine ri_ladd hx hb dX8_halvesInOrder_37 ?_
      refine lv_lstore_n (lv' := [(1, .long (kL (y1 + ((t_good y3) * ((2 * (t_badAhead y3)) + (t_bad y3)))))), (0, .ref a_t), (3, .int (kI y3))]) hx hb dX8_halvesInOrder_38 rfl hl (by decide) rfl (fun ls hl => ?_)
      refine lv_iinc (v := kI (y3 + 1)) (lv' := [(3, .int (kI (y3 + 1))), (1, .long (kL (y1 + ((t_good y3) * ((2 * (t_badAhead y3)) + (t_bad y3)))))), (0, .ref a_t)]) hx hb dX8_halvesInOrder_39 hl (k := 2) rfl (kI_add _ _) (by decide) rfl (fun ls hl => ?_)
      refine lv_goto (tgt := 4) hx hb dX8_halvesInOrder_42 (by decide) ?_
      exact ih (y1 + ((t_good y3) * ((2 * (t_badAhead y3)) + (t_bad y3)))) (y3 + 1) h _ _ _ hw (lv_sub hl [2, 1, 0] rfl)
set_option maxHeartbeats 4000000 in
set_option maxRecDepth 100000 in
theorem c_X8_halvesInOrder (l : Launch) (G : GG) (S : SM) (sz : Nat) (N : Nat) (a_t a_t_score a_t_good a_t_bad a_t_goodAhead a_t_badAhead : Nat) (t_size : Int) (t_score : Int → Int) (t_good : Int → Int) (t_bad : Int → Int) (t_goodAhead : Int → Int) (t_badAhead : Int → Int)  (r : Int) (h : m_X8_halvesInOrder N t_size t_good t_bad t_badAhead = some r) : CtL l yX8_halvesInOrder cX8_halvesInOrder 4 (rmD 1 0 0) G S sz [.ref a_t] [(a_t, .inr (7, [.ref a_t_score, .ref a_t_good, .ref a_t_bad, .ref a_t_goodAhead, .ref a_t_badAhead, .int (kI t_size)])), (a_t_score, cAI G 60 t_score), (a_t_good, cAI G 60 t_good), (a_t_bad, cAI G 60 t_bad), (a_t_goodAhead, cAI G 61 t_goodAhead), (a_t_badAhead, cAI G 61 t_badAhead)] r [(a_t, .inr (7, [.ref a_t_score, .ref a_t_good, .ref a_t_bad, .ref a_t_goodAhead, .ref a_t_badAhead, .int (kI t_size)])), (a_t_score, cAI G 60 t_score), (a_t_good, cAI G 60 t_good), (a_t_bad, cAI G 60 t_bad), (a_t_goodAhead, cAI G 61 t_goodAhead), (a_t_badAhead, cAI G 61 t_badAhead)] := by
  refine met_L (by decide +kernel) (Nat.le_of_ble_eq_true rfl) ?_
  intro p e s m args below meth c A H locs ls cx hw hr hlk hnm hl
  have hl : lv_has ls 4 [(0, .ref a_t)] := hl
  rw [m_X8_halvesInOrder] at h
  obtain ⟨⟨hx, hb, -, -, -⟩, -⟩ := id cx
  refine ri_lconst hx hb 0 dX8_halvesInOrder_0 rfl ?_
  refine lv_lstore_n (lv' := [(1, .long (kL 0)), (0, .ref a_t)]) hx hb dX8_halvesInOrder_1 rfl hl (by decide) rfl (fun ls hl => ?_)
  refine ri_iconst hx hb dX8_halvesInOrder_2 ?_
  refine lv_istore_n (lv' := [(3, .int (kI 0)), (1, .long (kL 0)), (0, .ref a_t)]) hx hb dX8_halvesInOrder_3 rfl hl (by decide) rfl (fun ls hl => ?_)
  exact w_X8_halvesInOrder_b4 cx hlk hr N a_t a_t_score a_t_good a_t_bad a_t_goodAhead a_t_badAhead t_size t_score t_good t_bad t_goodAhead t_badAhead r N 0 0 h _ _ _ hw (lv_sub hl [2, 1, 0] rfl)
set_option maxHeartbeats 4000000 in
set_option maxRecDepth 100000 in
theorem c_X8_apart (l : Launch) (G : GG) (S : SM) (sz : Nat) (N : Nat) (a_t a_t_score a_t_good a_t_bad a_t_goodAhead a_t_badAhead : Nat) (t_size : Int) (t_score : Int → Int) (t_good : Int → Int) (t_bad : Int → Int) (t_goodAhead : Int → Int) (t_badAhead : Int → Int) (x1 : Int) (r : Int) (h : m_X8_apart N t_size t_goodAhead t_badAhead x1 = some r) : CtL l yX8_apart cX8_apart 2 (rmD 2 0 0) G S sz [.ref a_t, .int (kI x1)] [(a_t, .inr (7, [.ref a_t_score, .ref a_t_good, .ref a_t_bad, .ref a_t_goodAhead, .ref a_t_badAhead, .int (kI t_size)])), (a_t_score, cAI G 60 t_score), (a_t_good, cAI G 60 t_good), (a_t_bad, cAI G 60 t_bad), (a_t_goodAhead, cAI G 61 t_goodAhead), (a_t_badAhead, cAI G 61 t_badAhead)] r [(a_t, .inr (7, [.ref a_t_score, .ref a_t_good, .ref a_t_bad, .ref a_t_goodAhead, .ref a_t_badAhead, .int (kI t_size)])), (a_t_score, cAI G 60 t_score), (a_t_good, cAI G 60 t_good), (a_t_bad, cAI G 60 t_bad), (a_t_goodAhead, cAI G 61 t_goodAhead), (a_t_badAhead, cAI G 61 t_badAhead)] := by
  refine met_L (by decide +kernel) (Nat.le_of_ble_eq_true rfl) ?_
  intro p e s m args below meth c A H locs ls cx hw hr hlk hnm hl
  have hl : lv_has ls 2 [(0, .ref a_t), (1, .int (kI x1))] := hl
  rw [m_X8_apart] at h
  obtain ⟨⟨hx, hb, -, -, -⟩, -⟩ := id cx
  refine lv_aload_n hx hb dX8_apart_0 rfl (lv_at hl 0 rfl) ?_
  refine rf_get hx hb cx hw 0 rfl rfl 3 inX8 (by decide) fl_X8_21 rfl rfl dX8_apart_1 ?_
  refine lv_iload_n hx hb dX8_apart_4 rfl (lv_at hl 1 rfl) ?_
  refine ri_iconst hx hb dX8_apart_5 ?_
  refine ri_iadd hx hb dX8_apart_6 ?_
  obtain ⟨g1, h⟩ := gd_some h
  refine ra_i hx hb cx hw 4 rfl (by decide) g1 dX8_apart_7 ?_
  obtain ⟨g2, h⟩ := gd_some h
  refine ri_i2l hx hb g2 dX8_apart_8 ?_
  refine lv_aload_n hx hb dX8_apart_9 rfl (lv_at hl 0 rfl) ?_
  obtain ⟨r3, h3, h⟩ := bd_some h
  refine rc_I0 (v := r3) hw [0, 1, 2, 3, 4, 5] (rr_V cx hw (c_X8_bads l G S H.size N a_t a_t_score a_t_good a_t_bad a_t_goodAhead a_t_badAhead t_size t_score t_good t_bad t_goodAhead t_badAhead _ h3) mv_X8_66 [0, 1, 2, 3, 4, 5] rfl rfl rfl 0 rfl rfl ⟨Nat.le_of_ble_eq_true rfl, Nat.le_of_ble_eq_true rfl⟩ rfl hl.1 rfl (Nat.le_of_ble_eq_true rfl) dX8_apart_10 ⟨Nat.le_of_ble_eq_true rfl, Nat.le_of_ble_eq_true rfl⟩) rfl rfl (fun H locs hw => ?_)
  obtain ⟨g4, h⟩ := gd_some h
  refine ri_i2l hx hb g4 dX8_apart_13 ?_
  refine ri_lmul hx hb dX8_apart_14 ?_
  refine lv_aload_n hx hb dX8_apart_15 rfl (lv_at hl 0 rfl) ?_
  refine rf_get hx hb cx hw 0 rfl rfl 4 inX8 (by decide) fl_X8_24 rfl rfl dX8_apart_16 ?_
  refine lv_iload_n hx hb dX8_apart_19 rfl (lv_at hl 1 rfl) ?_
  refine ri_iconst hx hb dX8_apart_20 ?_
  refine ri_iadd hx hb dX8_apart_21 ?_
  refine ra_i hx hb cx hw 5 rfl (by decide) g1 dX8_apart_22 ?_
  obtain ⟨g5, h⟩ := gd_some h
  refine ri_i2l hx hb g5 dX8_apart_23 ?_
  refine lv_aload_n hx hb dX8_apart_24 rfl (lv_at hl 0 rfl) ?_
  obtain ⟨r6, h6, h⟩ := bd_some h
  refine rc_I0 (v := r6) hw [0, 1, 2, 3, 4, 5] (rr_V cx hw (c_X8_goods l G S H.size N a_t a_t_score a_t_good a_t_bad a_t_goodAhead a_t_badAhead t_size t_score t_good t_bad t_goodAhead t_badAhead _ h6) mv_X8_63 [0, 1, 2, 3, 4, 5] rfl rfl rfl 0 rfl rfl ⟨Nat.le_of_ble_eq_true rfl, Nat.le_of_ble_eq_true rfl⟩ rfl hl.1 rfl (Nat.le_of_ble_eq_true rfl) dX8_apart_25 ⟨Nat.le_of_ble_eq_true rfl, Nat.le_of_ble_eq_true rfl⟩) rfl rfl (fun H locs hw => ?_)
  obtain ⟨g7, h⟩ := gd_some h
  refine ri_i2l hx hb g7 dX8_apart_28 ?_
  refine ri_lmul hx hb dX8_apart_29 ?_
  refine ri_lsub hx hb dX8_apart_30 ?_
  obtain ⟨g8, h⟩ := gd_some h
  refine rj_absL g8 hx hb cx hl.1 jl_X8_75 (Nat.le_of_ble_eq_true rfl) (Nat.le_of_ble_eq_true rfl) (Nat.le_of_ble_eq_true rfl) (Nat.le_of_ble_eq_true rfl) dX8_apart_31 ?_
  obtain rfl := so_inj h
  exact re_l hx hb hlk hr cx hw (Nat.le_of_ble_eq_true rfl) (Nat.le_of_ble_eq_true rfl) dX8_apart_34
def PL_X8_farthest_b4 (p : Program) (l : Launch) (e : Env) (s : State) (m : MethodId) (args : Array Value) (below : List Frame) (meth : Method) (c : Code) (A : Nat → Prop) (G : GG) (S : SM) (a_t a_t_score a_t_good a_t_bad a_t_goodAhead a_t_badAhead : Nat) (t_size : Int) (t_score : Int → Int) (t_good : Int → Int) (t_bad : Int → Int) (t_goodAhead : Int → Int) (t_badAhead : Int → Int) (r : Int) (kk : Int → Int → Option (Int)) : Prop := ∀ (y1 : Int) (y2 : Int), kk y1 y2 = some r → ∀ (H : Heap) (locs : List Loc) (ls : Array Slot), HP G A s.heap H locs [(a_t, .inr (7, [.ref a_t_score, .ref a_t_good, .ref a_t_bad, .ref a_t_goodAhead, .ref a_t_badAhead, .int (kI t_size)])), (a_t_score, cAI G 60 t_score), (a_t_good, cAI G 60 t_good), (a_t_bad, cAI G 60 t_bad), (a_t_goodAhead, cAI G 61 t_goodAhead), (a_t_badAhead, cAI G 61 t_badAhead)] → lv_has ls 3 [(0, .ref a_t), (1, .int (kI y1)), (2, .int (kI y2))] → W p l e (rmD 3 0 0) s m args below meth c H locs 0 0 (MQ below (QcI G A r [(a_t, .inr (7, [.ref a_t_score, .ref a_t_good, .ref a_t_bad, .ref a_t_goodAhead, .ref a_t_badAhead, .int (kI t_size)])), (a_t_score, cAI G 60 t_score), (a_t_good, cAI G 60 t_good), (a_t_bad, cAI G 60 t_bad), (a_t_goodAhead, cAI G 61 t_goodAhead), (a_t_badAhead, cAI G 61 t_badAhead)]) args s (rmD 3 0 0).cells (rmD 3 0 0).slots A) (F0 m 4 ls [])
set_option maxHeartbeats 4000000 in
set_option maxRecDepth 100000 in
theorem w_X8_farthest_b28 {p : Program} {l : Launch} {e : Env} {s : State} {m : MethodId} {args : Array Value} {below : List Frame} {meth : Method} {c : Code} {A : Nat → Prop} {G : GG} {S : SM} (cx : CX p s m args c cX8_farthest RX8 3 G S A) (hlk : meth.locks = false) (hr : meth.sig.returnType = some .int) (N : Nat) (a_t a_t_score a_t_good a_t_bad a_t_goodAhead a_t_badAhead : Nat) (t_size : Int) (t_score : Int → Int) (t_good : Int → Int) (t_bad : Int → Int) (t_goodAhead : Int → Int) (t_badAhead : Int → Int) (r : Int) (k4 : Int → Int → Option (Int)) (hk4 : PL_X8_farthest_b4 p l e s m args below meth c A G S a_t a_t_score a_t_good a_t_bad a_t_goodAhead a_t_badAhead t_size t_score t_good t_bad t_goodAhead t_badAhead r k4) : ∀ (y1 : Int) (y2 : Int), m_X8_farthest_b28 N t_size t_goodAhead t_badAhead k4 y1 y2 = some r → ∀ (H : Heap) (locs : List Loc) (ls : Array Slot), HP G A s.heap H locs [(a_t, .inr (7, [.ref a_t_score, .ref a_t_good, .ref a_t_bad, .ref a_t_goodAhead, .ref a_t_badAhead, .int (kI t_size)])), (a_t_score, cAI G 60 t_score), (a_t_good, cAI G 60 t_good), (a_t_bad, cAI G 60 t_bad), (a_t_goodAhead, cAI G 61 t_goodAhead), (a_t_badAhead, cAI G 61 t_badAhead)] → lv_has ls 3 [(0, .ref a_t), (1, .int (kI y1)), (2, .int (kI y2))] → W p l e (rmD 3 0 0) s m args below meth c H locs 0 0 (MQ below (QcI G A r [(a_t, .inr (7, [.ref a_t_score, .ref a_t_good, .ref a_t_bad, .ref a_t_goodAhead, .ref a_t_badAhead, .int (kI t_size)])), (a_t_score, cAI G 60 t_score), (a_t_good, cAI G 60 t_good), (a_t_bad, cAI G 60 t_bad), (a_t_goodAhead, cAI G 61 t_goodAhead), (a_t_badAhead, cAI G 61 t_badAhead)]) args s (rmD 3 0 0).cells (rmD 3 0 0).slots A) (F0 m 28 ls []) := by
  intro y1 y2 h H locs ls hw hl
  rw [m_X8_farthest_b28] at h
  obtain ⟨⟨hx, hb, -, -, -⟩, -⟩ := id cx
  refine lv_iinc (v := kI (y2 + 1)) (lv' := [(2, .int (kI (y2 + 1))), (0, .ref a_t), (1, .int (kI y1))]) hx hb dX8_farthest_28 hl (k := 2) rfl (kI_add _ _) (by decide) rfl (fun ls hl => ?_)
  refine lv_goto (tgt := 4) hx hb dX8_farthest_31 (by decide) ?_
  exact hk4 y1 (y2 + 1) h _ _ _ hw (lv_sub hl [1, 2, 0] rfl)
set_option maxHeartbeats 4000000 in
set_option maxRecDepth 100000 in
theorem w_X8_farthest_b4 {p : Program} {l : Launch} {e : Env} {s : State} {m : MethodId} {args : Array Value} {below : List Frame} {meth : Method} {c : Code} {A : Nat → Prop} {G : GG} {S : SM} (cx : CX p s m args c cX8_farthest RX8 3 G S A) (hlk : meth.locks = false) (hr : meth.sig.returnType = some .int) (N : Nat) (a_t a_t_score a_t_good a_t_bad a_t_goodAhead a_t_badAhead : Nat) (t_size : Int) (t_score : Int → Int) (t_good : Int → Int) (t_bad : Int → Int) (t_goodAhead : Int → Int) (t_badAhead : Int → Int) (r : Int) : ∀ n : Nat, PL_X8_farthest_b4 p l e s m args below meth c A G S a_t a_t_score a_t_good a_t_bad a_t_goodAhead a_t_badAhead t_size t_score t_good t_bad t_goodAhead t_badAhead r (m_X8_farthest_b4 N t_size t_goodAhead t_badAhead n) := by
  intro n
  induction n with
  | zero => intro y1 y2 h; exact nomatch h
  | succ n ih =>
    intro y1 y2 h H locs ls hw hl
    rw [m_X8_farthest_b4] at h
    obtain ⟨⟨hx, hb, -, -, -⟩, -⟩ := id cx
    refine lv_iload_n hx hb dX8_farthest_4 rfl (lv_at hl 2 rfl) ?_
    refine lv_aload_n hx hb dX8_farthest_5 rfl (lv_at hl 0 rfl) ?_
    refine rf_get hx hb cx hw 0 rfl rfl 5 inX8 (by decide) fl_X8_27 rfl rfl dX8_farthest_6 ?_
    obtain ⟨g1, h⟩ := gd_some h
    obtain ⟨g2, h⟩ := gd_some h
    refine ri_icmp_ge (tgt := 34) hx hb g1 g2 dX8_farthest_9 (by decide) (fun c3 => ?_) (fun c3 => ?_)
    · have h := it_pos c3 h
      refine lv_iload_n hx hb dX8_farthest_34 rfl (lv_at hl 1 rfl) ?_
      obtain rfl := so_inj h
      exact re_i hx hb hlk hr cx hw (Nat.le_of_ble_eq_true rfl) (Nat.le_of_ble_eq_true rfl) dX8_farthest_35
    · have h := it_neg c3 h
      refine lv_aload_n hx hb dX8_farthest_12 rfl (lv_at hl 0 rfl) ?_
      refine lv_iload_n hx hb dX8_farthest_13 rfl (lv_at hl 2 rfl) ?_
      obtain ⟨r4, h4, h⟩ := bd_some h
      refine rc_L0 (v := r4) hw [0, 1, 2, 3, 4, 5] (rr_V cx hw (c_X8_apart l G S H.size N a_t a_t_score a_t_good a_t_bad a_t_goodAhead a_t_badAhead t_size t_score t_good t_bad t_goodAhead t_badAhead y2 _ h4) mv_X8_79 [0, 1, 2, 3, 4, 5] rfl rfl rfl 0 rfl rfl ⟨Nat.le_of_ble_eq_true rfl, Nat.le_of_ble_eq_true rfl⟩ rfl hl.1 rfl (Nat.le_of_ble_eq_true rfl) dX8_farthest_14 ⟨Nat.le_of_ble_eq_true rfl, Nat.le_of_ble_eq_true rfl⟩) rfl rfl (fun H locs hw => ?_)
      refine lv_aload_n hx hb dX8_farthest_17 rfl (lv_at hl 0 rfl) ?_
      refine lv_iload_n hx hb dX8_farthest_18 rfl (lv_at hl 1 rfl) ?_
      obtain ⟨r5, h5, h⟩ := bd_some h
      refine rc_L0 (v := r5) hw [0, 1, 2, 3, 4, 5] (rr_V cx hw (c_X8_apart l G S H.size N a_t a_t_score a_t_good a_t_bad a_t_goodAhead a_t_badAhead t_size t_score t_good t_bad t_goodAhead t_badAhead y1 _ h5) mv_X8_79 [0, 1, 2, 3, 4, 5] rfl rfl rfl 0 rfl rfl ⟨Nat.le_of_ble_eq_true rfl, Nat.le_of_ble_eq_true rfl⟩ rfl hl.1 rfl (Nat.le_of_ble_eq_true rfl) dX8_farthest_19 ⟨Nat.le_of_ble_eq_true rfl, Nat.le_of_ble_eq_true rfl⟩) rfl rfl (fun H locs hw => ?_)
      obtain ⟨g6, h⟩ := gd_some h
      obtain ⟨g7, h⟩ := gd_some h
      refine ri_lcmp_le (tgt := 28) hx hb g6 g7 dX8_farthest_22 dX8_farthest_23 (by decide) (fun c8 => ?_) (fun c8 => ?_)
      · have h := it_pos c8 h
        exact w_X8_farthest_b28 cx hlk hr N a_t a_t_score a_t_good a_t_bad a_t_goodAhead a_t_badAhead t_size t_score t_good t_bad t_goodAhead t_badAhead r (m_X8_farthest_b4 N t_size t_goodAhead t_badAhead n) ih y1 y2 h _ _ _ hw (lv_sub hl [0, 1, 2] rfl)
      · have h := it_neg c8 h
        refine lv_iload_n hx hb dX8_farthest_26 rfl (lv_at hl 2 rfl) ?_
        refine lv_istore_n (lv' := [(1, .int (kI y2)), (0, .ref a_t), (2, .int (kI y2))]) hx hb dX8_farthest_27 rfl hl (by decide) rfl (fun ls hl => ?_)
        exact w_X8_farthest_b28 cx hlk hr N a_t a_t_score a_t_good a_t_bad a_t_goodAhead a_t_badAhead t_size t_score t_good t_bad t_goodAhead t_badAhead r (m_X8_farthest_b4 N t_size t_goodAhead t_badAhead n) ih y2 y2 h _ _ _ hw (lv_sub hl [1, 0, 2] rfl)
set_option maxHeartbeats 4000000 in
set_option maxRecDepth 100000 in
theorem c_X8_farthest (l : Launch) (G : GG) (S : SM) (sz : Nat) (N : Nat) (a_t a_t_score a_t_good a_t_bad a_t_goodAhead a_t_badAhead : Nat) (t_size : Int) (t_score : Int → Int) (t_good : Int → Int) (t_bad : Int → Int) (t_goodAhead : Int → Int) (t_badAhead : Int → Int)  (r : Int) (h : m_X8_farthest N t_size t_goodAhead t_badAhead = some r) : CtI l yX8_farthest cX8_farthest 3 .int (rmD 3 0 0) G S sz [.ref a_t] [(a_t, .inr (7, [.ref a_t_score, .ref a_t_good, .ref a_t_bad, .ref a_t_goodAhead, .ref a_t_badAhead, .int (kI t_size)])), (a_t_score, cAI G 60 t_score), (a_t_good, cAI G 60 t_good), (a_t_bad, cAI G 60 t_bad), (a_t_goodAhead, cAI G 61 t_goodAhead), (a_t_badAhead, cAI G 61 t_badAhead)] r [(a_t, .inr (7, [.ref a_t_score, .ref a_t_good, .ref a_t_bad, .ref a_t_goodAhead, .ref a_t_badAhead, .int (kI t_size)])), (a_t_score, cAI G 60 t_score), (a_t_good, cAI G 60 t_good), (a_t_bad, cAI G 60 t_bad), (a_t_goodAhead, cAI G 61 t_goodAhead), (a_t_badAhead, cAI G 61 t_badAhead)] := by
  refine met_I (by decide +kernel) (Nat.le_of_ble_eq_true rfl) ?_
  intro p e s m args below meth c A H locs ls cx hw hr hlk hnm hl
  have hl : lv_has ls 3 [(0, .ref a_t)] := hl
  rw [m_X8_farthest] at h
  obtain ⟨⟨hx, hb, -, -, -⟩, -⟩ := id cx
  refine ri_iconst hx hb dX8_farthest_0 ?_
  refine lv_istore_n (lv' := [(1, .int (kI 0)), (0, .ref a_t)]) hx hb dX8_farthest_1 rfl hl (by decide) rfl (fun ls hl => ?_)
  refine ri_iconst hx hb dX8_farthest_2 ?_
  refine lv_istore_n (lv' := [(2, .int (kI 1)), (1, .int (kI 0)), (0, .ref a_t)]) hx hb dX8_farthest_3 rfl hl (by decide) rfl (fun ls hl => ?_)
  exact w_X8_farthest_b4 cx hlk hr N a_t a_t_score a_t_good a_t_bad a_t_goodAhead a_t_badAhead t_size t_score t_good t_bad t_goodAhead t_badAhead r N 0 1 h _ _ _ hw (lv_sub hl [2, 1, 0] rfl)
set_option maxHeartbeats 4000000 in
set_option maxRecDepth 100000 in
theorem c_X8_isRiskier (l : Launch) (G : GG) (S : SM) (sz : Nat) (N : Nat) (a_t a_t_score a_t_good a_t_bad a_t_goodAhead a_t_badAhead : Nat) (t_size : Int) (t_score : Int → Int) (t_good : Int → Int) (t_bad : Int → Int) (t_goodAhead : Int → Int) (t_badAhead : Int → Int) (x1 : Int) (x2 : Int) (r : Int) (h : m_X8_isRiskier N t_good t_bad x1 x2 = some r) : CtI l yX8_isRiskier cX8_isRiskier 3 .boolean (rmD 1 0 0) G S sz [.ref a_t, .int (kI x1), .int (kI x2)] [(a_t, .inr (7, [.ref a_t_score, .ref a_t_good, .ref a_t_bad, .ref a_t_goodAhead, .ref a_t_badAhead, .int (kI t_size)])), (a_t_score, cAI G 60 t_score), (a_t_good, cAI G 60 t_good), (a_t_bad, cAI G 60 t_bad), (a_t_goodAhead, cAI G 61 t_goodAhead), (a_t_badAhead, cAI G 61 t_badAhead)] r [(a_t, .inr (7, [.ref a_t_score, .ref a_t_good, .ref a_t_bad, .ref a_t_goodAhead, .ref a_t_badAhead, .int (kI t_size)])), (a_t_score, cAI G 60 t_score), (a_t_good, cAI G 60 t_good), (a_t_bad, cAI G 60 t_bad), (a_t_goodAhead, cAI G 61 t_goodAhead), (a_t_badAhead, cAI G 61 t_badAhead)] := by
  refine met_I (by decide +kernel) (Nat.le_of_ble_eq_true rfl) ?_
  intro p e s m args below meth c A H locs ls cx hw hr hlk hnm hl
  have hl : lv_has ls 3 [(0, .ref a_t), (1, .int (kI x1)), (2, .int (kI x2))] := hl
  rw [m_X8_isRiskier] at h
  obtain ⟨⟨hx, hb, -, -, -⟩, -⟩ := id cx
  refine lv_aload_n hx hb dX8_isRiskier_0 rfl (lv_at hl 0 rfl) ?_
  refine rf_get hx hb cx hw 0 rfl rfl 2 inX8 (by decide) fl_X8_18 rfl rfl dX8_isRiskier_1 ?_
  refine lv_iload_n hx hb dX8_isRiskier_4 rfl (lv_at hl 1 rfl) ?_
  obtain ⟨g1, h⟩ := gd_some h
  refine ra_i hx hb cx hw 3 rfl (by decide) g1 dX8_isRiskier_5 ?_
  refine lv_aload_n hx hb dX8_isRiskier_6 rfl (lv_at hl 0 rfl) ?_
  refine rf_get hx hb cx hw 0 rfl rfl 1 inX8 (by decide) fl_X8_15 rfl rfl dX8_isRiskier_7 ?_
  refine lv_iload_n hx hb dX8_isRiskier_10 rfl (lv_at hl 2 rfl) ?_
  obtain ⟨g2, h⟩ := gd_some h
  refine ra_i hx hb cx hw 2 rfl (by decide) g2 dX8_isRiskier_11 ?_
  refine lv_aload_n hx hb dX8_isRiskier_12 rfl (lv_at hl 0 rfl) ?_
  refine rf_get hx hb cx hw 0 rfl rfl 2 inX8 (by decide) fl_X8_18 rfl rfl dX8_isRiskier_13 ?_
  refine lv_iload_n hx hb dX8_isRiskier_16 rfl (lv_at hl 2 rfl) ?_
  refine ra_i hx hb cx hw 3 rfl (by decide) g2 dX8_isRiskier_17 ?_
  refine ri_iadd hx hb dX8_isRiskier_18 ?_
  refine ri_imul hx hb dX8_isRiskier_19 ?_
  refine lv_aload_n hx hb dX8_isRiskier_20 rfl (lv_at hl 0 rfl) ?_
  refine rf_get hx hb cx hw 0 rfl rfl 2 inX8 (by decide) fl_X8_18 rfl rfl dX8_isRiskier_21 ?_
  refine lv_iload_n hx hb dX8_isRiskier_24 rfl (lv_at hl 2 rfl) ?_
  refine ra_i hx hb cx hw 3 rfl (by decide) g2 dX8_isRiskier_25 ?_
  refine lv_aload_n hx hb dX8_isRiskier_26 rfl (lv_at hl 0 rfl) ?_
  refine rf_get hx hb cx hw 0 rfl rfl 1 inX8 (by decide) fl_X8_15 rfl rfl dX8_isRiskier_27 ?_
  refine lv_iload_n hx hb dX8_isRiskier_30 rfl (lv_at hl 1 rfl) ?_
  refine ra_i hx hb cx hw 2 rfl (by decide) g1 dX8_isRiskier_31 ?_
  refine lv_aload_n hx hb dX8_isRiskier_32 rfl (lv_at hl 0 rfl) ?_
  refine rf_get hx hb cx hw 0 rfl rfl 2 inX8 (by decide) fl_X8_18 rfl rfl dX8_isRiskier_33 ?_
  refine lv_iload_n hx hb dX8_isRiskier_36 rfl (lv_at hl 1 rfl) ?_
  refine ra_i hx hb cx hw 3 rfl (by decide) g1 dX8_isRiskier_37 ?_
  refine ri_iadd hx hb dX8_isRiskier_38 ?_
  refine ri_imul hx hb dX8_isRiskier_39 ?_
  obtain ⟨g3, h⟩ := gd_some h
  obtain ⟨g4, h⟩ := gd_some h
  refine ri_icmp_le (tgt := 47) hx hb g3 g4 dX8_isRiskier_40 (by decide) (fun c5 => ?_) (fun c5 => ?_)
  · have h := it_pos c5 h
    refine ri_iconst hx hb dX8_isRiskier_47 ?_
    obtain rfl := so_inj h
    exact re_z (Or.inl rfl)  hx hb hlk hr cx hw (Nat.le_of_ble_eq_true rfl) (Nat.le_of_ble_eq_true rfl) dX8_isRiskier_48
  · have h := it_neg c5 h
    refine ri_iconst hx hb dX8_isRiskier_43 ?_
    refine lv_goto (tgt := 48) hx hb dX8_isRiskier_44 (by decide) ?_
    obtain rfl := so_inj h
    exact re_z (Or.inr rfl)  hx hb hlk hr cx hw (Nat.le_of_ble_eq_true rfl) (Nat.le_of_ble_eq_true rfl) dX8_isRiskier_48
set_option maxHeartbeats 4000000 in
set_option maxRecDepth 100000 in
theorem c_X8_cutBehind (l : Launch) (G : GG) (S : SM) (sz : Nat) (N : Nat) (a_t a_t_score a_t_good a_t_bad a_t_goodAhead a_t_badAhead : Nat) (t_size : Int) (t_score : Int → Int) (t_good : Int → Int) (t_bad : Int → Int) (t_goodAhead : Int → Int) (t_badAhead : Int → Int) (x1 : Int) (r : Int) (h : m_X8_cutBehind N t_score x1 = some r) : CtI l yX8_cutBehind cX8_cutBehind 2 .int (rmD 1 0 0) G S sz [.ref a_t, .int (kI x1)] [(a_t, .inr (7, [.ref a_t_score, .ref a_t_good, .ref a_t_bad, .ref a_t_goodAhead, .ref a_t_badAhead, .int (kI t_size)])), (a_t_score, cAI G 60 t_score), (a_t_good, cAI G 60 t_good), (a_t_bad, cAI G 60 t_bad), (a_t_goodAhead, cAI G 61 t_goodAhead), (a_t_badAhead, cAI G 61 t_badAhead)] r [(a_t, .inr (7, [.ref a_t_score, .ref a_t_good, .ref a_t_bad, .ref a_t_goodAhead, .ref a_t_badAhead, .int (kI t_size)])), (a_t_score, cAI G 60 t_score), (a_t_good, cAI G 60 t_good), (a_t_bad, cAI G 60 t_bad), (a_t_goodAhead, cAI G 61 t_goodAhead), (a_t_badAhead, cAI G 61 t_badAhead)] := by
  refine met_I (by decide +kernel) (Nat.le_of_ble_eq_true rfl) ?_
  intro p e s m args below meth c A H locs ls cx hw hr hlk hnm hl
  have hl : lv_has ls 2 [(0, .ref a_t), (1, .int (kI x1))] := hl
  rw [m_X8_cutBehind] at h
  obtain ⟨⟨hx, hb, -, -, -⟩, -⟩ := id cx
  refine lv_iload_n hx hb dX8_cutBehind_0 rfl (lv_at hl 1 rfl) ?_
  obtain ⟨g1, h⟩ := gd_some h
  refine ri_if_ne (tgt := 8) hx hb g1 dX8_cutBehind_1 (by decide) (fun c2 => ?_) (fun c2 => ?_)
  · have h := it_pos c2 h
    refine ri_iconst hx hb dX8_cutBehind_4 ?_
    refine lv_goto (tgt := 18) hx hb dX8_cutBehind_5 (by decide) ?_
    obtain rfl := so_inj h
    exact re_i hx hb hlk hr cx hw (Nat.le_of_ble_eq_true rfl) (Nat.le_of_ble_eq_true rfl) dX8_cutBehind_18
  · have h := it_neg c2 h
    refine lv_aload_n hx hb dX8_cutBehind_8 rfl (lv_at hl 0 rfl) ?_
    refine rf_get hx hb cx hw 0 rfl rfl 0 inX8 (by decide) fl_X8_9 rfl rfl dX8_cutBehind_9 ?_
    refine lv_iload_n hx hb dX8_cutBehind_12 rfl (lv_at hl 1 rfl) ?_
    refine ri_iconst hx hb dX8_cutBehind_13 ?_
    refine ri_isub hx hb dX8_cutBehind_14 ?_
    obtain ⟨g3, h⟩ := gd_some h
    refine ra_i hx hb cx hw 1 rfl (by decide) g3 dX8_cutBehind_15 ?_
    refine ri_iconst hx hb dX8_cutBehind_16 ?_
    refine ri_iadd hx hb dX8_cutBehind_17 ?_
    obtain rfl := so_inj h
    exact re_i hx hb hlk hr cx hw (Nat.le_of_ble_eq_true rfl) (Nat.le_of_ble_eq_true rfl) dX8_cutBehind_18
set_option maxHeartbeats 4000000 in
set_option maxRecDepth 100000 in
theorem c_X8_costBehind (l : Launch) (G : GG) (S : SM) (sz : Nat) (N : Nat) (a_t a_t_score a_t_good a_t_bad a_t_goodAhead a_t_badAhead : Nat) (t_size : Int) (t_score : Int → Int) (t_good : Int → Int) (t_bad : Int → Int) (t_goodAhead : Int → Int) (t_badAhead : Int → Int) (x1 : Int) (x2 : Int) (x3 : Int) (r : Int) (h : m_X8_costBehind N t_size t_goodAhead t_badAhead x1 x2 x3 = some r) : CtI l yX8_costBehind cX8_costBehind 4 .int (rmD 2 0 0) G S sz [.ref a_t, .int (kI x1), .int (kI x2), .int (kI x3)] [(a_t, .inr (7, [.ref a_t_score, .ref a_t_good, .ref a_t_bad, .ref a_t_goodAhead, .ref a_t_badAhead, .int (kI t_size)])), (a_t_score, cAI G 60 t_score), (a_t_good, cAI G 60 t_good), (a_t_bad, cAI G 60 t_bad), (a_t_goodAhead, cAI G 61 t_goodAhead), (a_t_badAhead, cAI G 61 t_badAhead)] r [(a_t, .inr (7, [.ref a_t_score, .ref a_t_good, .ref a_t_bad, .ref a_t_goodAhead, .ref a_t_badAhead, .int (kI t_size)])), (a_t_score, cAI G 60 t_score), (a_t_good, cAI G 60 t_good), (a_t_bad, cAI G 60 t_bad), (a_t_goodAhead, cAI G 61 t_goodAhead), (a_t_badAhead, cAI G 61 t_badAhead)] := by
  refine met_I (by decide +kernel) (Nat.le_of_ble_eq_true rfl) ?_
  intro p e s m args below meth c A H locs ls cx hw hr hlk hnm hl
  have hl : lv_has ls 4 [(0, .ref a_t), (1, .int (kI x1)), (2, .int (kI x2)), (3, .int (kI x3))] := hl
  rw [m_X8_costBehind] at h
  obtain ⟨⟨hx, hb, -, -, -⟩, -⟩ := id cx
  refine lv_iload_n hx hb dX8_costBehind_0 rfl (lv_at hl 2 rfl) ?_
  refine lv_aload_n hx hb dX8_costBehind_1 rfl (lv_at hl 0 rfl) ?_
  refine rf_get hx hb cx hw 0 rfl rfl 3 inX8 (by decide) fl_X8_21 rfl rfl dX8_costBehind_2 ?_
  refine lv_iload_n hx hb dX8_costBehind_5 rfl (lv_at hl 1 rfl) ?_
  obtain ⟨g1, h⟩ := gd_some h
  refine ra_i hx hb cx hw 4 rfl (by decide) g1 dX8_costBehind_6 ?_
  refine ri_imul hx hb dX8_costBehind_7 ?_
  refine lv_iload_n hx hb dX8_costBehind_8 rfl (lv_at hl 3 rfl) ?_
  refine lv_aload_n hx hb dX8_costBehind_9 rfl (lv_at hl 0 rfl) ?_
  obtain ⟨r2, h2, h⟩ := bd_some h
  refine rc_I0 (v := r2) hw [0, 1, 2, 3, 4, 5] (rr_V cx hw (c_X8_bads l G S H.size N a_t a_t_score a_t_good a_t_bad a_t_goodAhead a_t_badAhead t_size t_score t_good t_bad t_goodAhead t_badAhead _ h2) mv_X8_66 [0, 1, 2, 3, 4, 5] rfl rfl rfl 0 rfl rfl ⟨Nat.le_of_ble_eq_true rfl, Nat.le_of_ble_eq_true rfl⟩ rfl hl.1 rfl (Nat.le_of_ble_eq_true rfl) dX8_costBehind_10 ⟨Nat.le_of_ble_eq_true rfl, Nat.le_of_ble_eq_true rfl⟩) rfl rfl (fun H locs hw => ?_)
  refine lv_aload_n hx hb dX8_costBehind_13 rfl (lv_at hl 0 rfl) ?_
  refine rf_get hx hb cx hw 0 rfl rfl 4 inX8 (by decide) fl_X8_24 rfl rfl dX8_costBehind_14 ?_
  refine lv_iload_n hx hb dX8_costBehind_17 rfl (lv_at hl 1 rfl) ?_
  refine ra_i hx hb cx hw 5 rfl (by decide) g1 dX8_costBehind_18 ?_
  refine ri_isub hx hb dX8_costBehind_19 ?_
  refine ri_imul hx hb dX8_costBehind_20 ?_
  refine ri_iadd hx hb dX8_costBehind_21 ?_
  obtain rfl := so_inj h
  exact re_i hx hb hlk hr cx hw (Nat.le_of_ble_eq_true rfl) (Nat.le_of_ble_eq_true rfl) dX8_costBehind_22
def PL_X8_cheapest_b5 (p : Program) (l : Launch) (e : Env) (s : State) (m : MethodId) (args : Array Value) (below : List Frame) (meth : Method) (c : Code) (A : Nat → Prop) (G : GG) (S : SM) (a_t a_t_score a_t_good a_t_bad a_t_goodAhead a_t_badAhead : Nat) (t_size : Int) (t_score : Int → Int) (t_good : Int → Int) (t_bad : Int → Int) (t_goodAhead : Int → Int) (t_badAhead : Int → Int) (x1 : Int) (x2 : Int) (r : Int) (kk : Int → Int → Option (Int)) : Prop := ∀ (y3 : Int) (y4 : Int), kk y3 y4 = some r → ∀ (H : Heap) (locs : List Loc) (ls : Array Slot), HP G A s.heap H locs [(a_t, .inr (7, [.ref a_t_score, .ref a_t_good, .ref a_t_bad, .ref a_t_goodAhead, .ref a_t_badAhead, .int (kI t_size)])), (a_t_score, cAI G 60 t_score), (a_t_good, cAI G 60 t_good), (a_t_bad, cAI G 60 t_bad), (a_t_goodAhead, cAI G 61 t_goodAhead), (a_t_badAhead, cAI G 61 t_badAhead)] → lv_has ls 5 [(0, .ref a_t), (1, .int (kI x1)), (2, .int (kI x2)), (3, .int (kI y3)), (4, .int (kI y4))] → W p l e (rmD 3 0 0) s m args below meth c H locs 0 0 (MQ below (QcI G A r [(a_t, .inr (7, [.ref a_t_score, .ref a_t_good, .ref a_t_bad, .ref a_t_goodAhead, .ref a_t_badAhead, .int (kI t_size)])), (a_t_score, cAI G 60 t_score), (a_t_good, cAI G 60 t_good), (a_t_bad, cAI G 60 t_bad), (a_t_goodAhead, cAI G 61 t_goodAhead), (a_t_badAhead, cAI G 61 t_badAhead)]) args s (rmD 3 0 0).cells (rmD 3 0 0).slots A) (F0 m 5 ls [])
set_option maxHeartbeats 4000000 in
set_option maxRecDepth 100000 in
theorem w_X8_cheapest_b35 {p : Program} {l : Launch} {e : Env} {s : State} {m : MethodId} {args : Array Value} {below : List Frame} {meth : Method} {c : Code} {A : Nat → Prop} {G : GG} {S : SM} (cx : CX p s m args c cX8_cheapest RX8 5 G S A) (hlk : meth.locks = false) (hr : meth.sig.returnType = some .int) (N : Nat) (a_t a_t_score a_t_good a_t_bad a_t_goodAhead a_t_badAhead : Nat) (t_size : Int) (t_score : Int → Int) (t_good : Int → Int) (t_bad : Int → Int) (t_goodAhead : Int → Int) (t_badAhead : Int → Int) (x1 : Int) (x2 : Int) (r : Int) (k5 : Int → Int → Option (Int)) (hk5 : PL_X8_cheapest_b5 p l e s m args below meth c A G S a_t a_t_score a_t_good a_t_bad a_t_goodAhead a_t_badAhead t_size t_score t_good t_bad t_goodAhead t_badAhead x1 x2 r k5) : ∀ (y3 : Int) (y4 : Int), m_X8_cheapest_b35 N t_size t_goodAhead t_badAhead x1 x2 k5 y3 y4 = some r → ∀ (H : Heap) (locs : List Loc) (ls : Array Slot), HP G A s.heap H locs [(a_t, .inr (7, [.ref a_t_score, .ref a_t_good, .ref a_t_bad, .ref a_t_goodAhead, .ref a_t_badAhead, .int (kI t_size)])), (a_t_score, cAI G 60 t_score), (a_t_good, cAI G 60 t_good), (a_t_bad, cAI G 60 t_bad), (a_t_goodAhead, cAI G 61 t_goodAhead), (a_t_badAhead, cAI G 61 t_badAhead)] → lv_has ls 5 [(0, .ref a_t), (1, .int (kI x1)), (2, .int (kI x2)), (3, .int (kI y3)), (4, .int (kI y4))] → W p l e (rmD 3 0 0) s m args below meth c H locs 0 0 (MQ below (QcI G A r [(a_t, .inr (7, [.ref a_t_score, .ref a_t_good, .ref a_t_bad, .ref a_t_goodAhead, .ref a_t_badAhead, .int (kI t_size)])), (a_t_score, cAI G 60 t_score), (a_t_good, cAI G 60 t_good), (a_t_bad, cAI G 60 t_bad), (a_t_goodAhead, cAI G 61 t_goodAhead), (a_t_badAhead, cAI G 61 t_badAhead)]) args s (rmD 3 0 0).cells (rmD 3 0 0).slots A) (F0 m 35 ls []) := by
  intro y3 y4 h H locs ls hw hl
  rw [m_X8_cheapest_b35] at h
  obtain ⟨⟨hx, hb, -, -, -⟩, -⟩ := id cx
  refine lv_iinc (v := kI (y4 + 1)) (lv' := [(4, .int (kI (y4 + 1))), (0, .ref a_t), (1, .int (kI x1)), (2, .int (kI x2)), (3, .int (kI y3))]) hx hb dX8_cheapest_35 hl (k := 4) rfl (kI_add _ _) (by decide) rfl (fun ls hl => ?_)
  refine lv_goto (tgt := 5) hx hb dX8_cheapest_38 (by decide) ?_
  exact hk5 y3 (y4 + 1) h _ _ _ hw (lv_sub hl [1, 2, 3, 4, 0] rfl)
set_option maxHeartbeats 4000000 in
set_option maxRecDepth 100000 in
theorem w_X8_cheapest_b5 {p : Program} {l : Launch} {e : Env} {s : State} {m : MethodId} {args : Array Value} {below : List Frame} {meth : Method} {c : Code} {A : Nat → Prop} {G : GG} {S : SM} (cx : CX p s m args c cX8_cheapest RX8 5 G S A) (hlk : meth.locks = false) (hr : meth.sig.returnType = some .int) (N : Nat) (a_t a_t_score a_t_good a_t_bad a_t_goodAhead a_t_badAhead : Nat) (t_size : Int) (t_score : Int → Int) (t_good : Int → Int) (t_bad : Int → Int) (t_goodAhead : Int → Int) (t_badAhead : Int → Int) (x1 : Int) (x2 : Int) (r : Int) : ∀ n : Nat, PL_X8_cheapest_b5 p l e s m args below meth c A G S a_t a_t_score a_t_good a_t_bad a_t_goodAhead a_t_badAhead t_size t_score t_good t_bad t_goodAhead t_badAhead x1 x2 r (m_X8_cheapest_b5 N t_size t_goodAhead t_badAhead x1 x2 n) := by
  intro n
  induction n with
  | zero => intro y3 y4 h; exact nomatch h
  | succ n ih =>
    intro y3 y4 h H locs ls hw hl
    rw [m_X8_cheapest_b5] at h
    obtain ⟨⟨hx, hb, -, -, -⟩, -⟩ := id cx
    refine lv_iload hx hb dX8_cheapest_5 (lv_at hl 4 rfl) ?_
    refine lv_aload_n hx hb dX8_cheapest_7 rfl (lv_at hl 0 rfl) ?_
    refine rf_get hx hb cx hw 0 rfl rfl 5 inX8 (by decide) fl_X8_27 rfl rfl dX8_cheapest_8 ?_
    obtain ⟨g1, h⟩ := gd_some h
    obtain ⟨g2, h⟩ := gd_some h
    refine ri_icmp_gt (tgt := 41) hx hb g1 g2 dX8_cheapest_11 (by decide) (fun c3 => ?_) (fun c3 => ?_)
    · have h := it_pos c3 h
      refine lv_iload_n hx hb dX8_cheapest_41 rfl (lv_at hl 3 rfl) ?_
      obtain rfl := so_inj h
      exact re_i hx hb hlk hr cx hw (Nat.le_of_ble_eq_true rfl) (Nat.le_of_ble_eq_true rfl) dX8_cheapest_42
    · have h := it_neg c3 h
      refine lv_aload_n hx hb dX8_cheapest_14 rfl (lv_at hl 0 rfl) ?_
      refine lv_iload hx hb dX8_cheapest_15 (lv_at hl 4 rfl) ?_
      refine lv_iload_n hx hb dX8_cheapest_17 rfl (lv_at hl 1 rfl) ?_
      refine lv_iload_n hx hb dX8_cheapest_18 rfl (lv_at hl 2 rfl) ?_
      obtain ⟨r4, h4, h⟩ := bd_some h
      refine rc_I0 (v := r4) hw [0, 1, 2, 3, 4, 5] (rr_V cx hw (c_X8_costBehind l G S H.size N a_t a_t_score a_t_good a_t_bad a_t_goodAhead a_t_badAhead t_size t_score t_good t_bad t_goodAhead t_badAhead y4 x1 x2 _ h4) mv_X8_83 [0, 1, 2, 3, 4, 5] rfl rfl rfl 0 rfl rfl ⟨Nat.le_of_ble_eq_true rfl, Nat.le_of_ble_eq_true rfl⟩ rfl hl.1 rfl (Nat.le_of_ble_eq_true rfl) dX8_cheapest_19 ⟨Nat.le_of_ble_eq_true rfl, Nat.le_of_ble_eq_true rfl⟩) rfl rfl (fun H locs hw => ?_)
      refine lv_aload_n hx hb dX8_cheapest_22 rfl (lv_at hl 0 rfl) ?_
      refine lv_iload_n hx hb dX8_cheapest_23 rfl (lv_at hl 3 rfl) ?_
      refine lv_iload_n hx hb dX8_cheapest_24 rfl (lv_at hl 1 rfl) ?_
      refine lv_iload_n hx hb dX8_cheapest_25 rfl (lv_at hl 2 rfl) ?_
      obtain ⟨r5, h5, h⟩ := bd_some h
      refine rc_I0 (v := r5) hw [0, 1, 2, 3, 4, 5] (rr_V cx hw (c_X8_costBehind l G S H.size N a_t a_t_score a_t_good a_t_bad a_t_goodAhead a_t_badAhead t_size t_score t_good t_bad t_goodAhead t_badAhead y3 x1 x2 _ h5) mv_X8_83 [0, 1, 2, 3, 4, 5] rfl rfl rfl 0 rfl rfl ⟨Nat.le_of_ble_eq_true rfl, Nat.le_of_ble_eq_true rfl⟩ rfl hl.1 rfl (Nat.le_of_ble_eq_true rfl) dX8_cheapest_26 ⟨Nat.le_of_ble_eq_true rfl, Nat.le_of_ble_eq_true rfl⟩) rfl rfl (fun H locs hw => ?_)
      obtain ⟨g6, h⟩ := gd_some h
      obtain ⟨g7, h⟩ := gd_some h
      refine ri_icmp_ge (tgt := 35) hx hb g6 g7 dX8_cheapest_29 (by decide) (fun c8 => ?_) (fun c8 => ?_)
      · have h := it_pos c8 h
        exact w_X8_cheapest_b35 cx hlk hr N a_t a_t_score a_t_good a_t_bad a_t_goodAhead a_t_badAhead t_size t_score t_good t_bad t_goodAhead t_badAhead x1 x2 r (m_X8_cheapest_b5 N t_size t_goodAhead t_badAhead x1 x2 n) ih y3 y4 h _ _ _ hw (lv_sub hl [0, 1, 2, 3, 4] rfl)
      · have h := it_neg c8 h
        refine lv_iload hx hb dX8_cheapest_32 (lv_at hl 4 rfl) ?_
        refine lv_istore_n (lv' := [(3, .int (kI y4)), (0, .ref a_t), (1, .int (kI x1)), (2, .int (kI x2)), (4, .int (kI y4))]) hx hb dX8_cheapest_34 rfl hl (by decide) rfl (fun ls hl => ?_)
        exact w_X8_cheapest_b35 cx hlk hr N a_t a_t_score a_t_good a_t_bad a_t_goodAhead a_t_badAhead t_size t_score t_good t_bad t_goodAhead t_badAhead x1 x2 r (m_X8_cheapest_b5 N t_size t_goodAhead t_badAhead x1 x2 n) ih y4 y4 h _ _ _ hw (lv_sub hl [1, 2, 3, 0, 4] rfl)
set_option maxHeartbeats 4000000 in
set_option maxRecDepth 100000 in
theorem c_X8_cheapest (l : Launch) (G : GG) (S : SM) (sz : Nat) (N : Nat) (a_t a_t_score a_t_good a_t_bad a_t_goodAhead a_t_badAhead : Nat) (t_size : Int) (t_score : Int → Int) (t_good : Int → Int) (t_bad : Int → Int) (t_goodAhead : Int → Int) (t_badAhead : Int → Int) (x1 : Int) (x2 : Int) (r : Int) (h : m_X8_cheapest N t_size t_goodAhead t_badAhead x1 x2 = some r) : CtI l yX8_cheapest cX8_cheapest 5 .int (rmD 3 0 0) G S sz [.ref a_t, .int (kI x1), .int (kI x2)] [(a_t, .inr (7, [.ref a_t_score, .ref a_t_good, .ref a_t_bad, .ref a_t_goodAhead, .ref a_t_badAhead, .int (kI t_size)])), (a_t_score, cAI G 60 t_score), (a_t_good, cAI G 60 t_good), (a_t_bad, cAI G 60 t_bad), (a_t_goodAhead, cAI G 61 t_goodAhead), (a_t_badAhead, cAI G 61 t_badAhead)] r [(a_t, .inr (7, [.ref a_t_score, .ref a_t_good, .ref a_t_bad, .ref a_t_goodAhead, .ref a_t_badAhead, .int (kI t_size)])), (a_t_score, cAI G 60 t_score), (a_t_good, cAI G 60 t_good), (a_t_bad, cAI G 60 t_bad), (a_t_goodAhead, cAI G 61 t_goodAhead), (a_t_badAhead, cAI G 61 t_badAhead)] := by
  refine met_I (by decide +kernel) (Nat.le_of_ble_eq_true rfl) ?_
  intro p e s m args below meth c A H locs ls cx hw hr hlk hnm hl
  have hl : lv_has ls 5 [(0, .ref a_t), (1, .int (kI x1)), (2, .int (kI x2))] := hl
  rw [m_X8_cheapest] at h
  obtain ⟨⟨hx, hb, -, -, -⟩, -⟩ := id cx
  refine ri_iconst hx hb dX8_cheapest_0 ?_
  refine lv_istore_n (lv' := [(3, .int (kI 0)), (0, .ref a_t), (1, .int (kI x1)), (2, .int (kI x2))]) hx hb dX8_cheapest_1 rfl hl (by decide) rfl (fun ls hl => ?_)
  refine ri_iconst hx hb dX8_cheapest_2 ?_
  refine lv_istore (lv' := [(4, .int (kI 1)), (3, .int (kI 0)), (0, .ref a_t), (1, .int (kI x1)), (2, .int (kI x2))]) hx hb dX8_cheapest_3 hl (by decide) rfl (fun ls hl => ?_)
  exact w_X8_cheapest_b5 cx hlk hr N a_t a_t_score a_t_good a_t_bad a_t_goodAhead a_t_badAhead t_size t_score t_good t_bad t_goodAhead t_badAhead x1 x2 r N 0 1 h _ _ _ hw (lv_sub hl [2, 3, 4, 1, 0] rfl)
def PL_X8_leastCutOf_b2 (p : Program) (l : Launch) (e : Env) (s : State) (m : MethodId) (args : Array Value) (below : List Frame) (meth : Method) (c : Code) (A : Nat → Prop) (G : GG) (S : SM) (a_t a_t_score a_t_good a_t_bad a_t_goodAhead a_t_badAhead : Nat) (t_size : Int) (t_score : Int → Int) (t_good : Int → Int) (t_bad : Int → Int) (t_goodAhead : Int → Int) (t_badAhead : Int → Int) (x1 : Int) (r : Int) (kk : Int → Option (Int)) : Prop := ∀ (y2 : Int), kk y2 = some r → ∀ (H : Heap) (locs : List Loc) (ls : Array Slot), HP G A s.heap H locs [(a_t, .inr (7, [.ref a_t_score, .ref a_t_good, .ref a_t_bad, .ref a_t_goodAhead, .ref a_t_badAhead, .int (kI t_size)])), (a_t_score, cAI G 60 t_score), (a_t_good, cAI G 60 t_good), (a_t_bad, cAI G 60 t_bad), (a_t_goodAhead, cAI G 61 t_goodAhead), (a_t_badAhead, cAI G 61 t_badAhead)] → lv_has ls 4 [(0, .ref a_t), (1, .int (kI x1)), (2, .int (kI y2))] → W p l e (rmD 3 0 0) s m args below meth c H locs 0 0 (MQ below (QcI G A r [(a_t, .inr (7, [.ref a_t_score, .ref a_t_good, .ref a_t_bad, .ref a_t_goodAhead, .ref a_t_badAhead, .int (kI t_size)])), (a_t_score, cAI G 60 t_score), (a_t_good, cAI G 60 t_good), (a_t_bad, cAI G 60 t_bad), (a_t_goodAhead, cAI G 61 t_goodAhead), (a_t_badAhead, cAI G 61 t_badAhead)]) args s (rmD 3 0 0).cells (rmD 3 0 0).slots A) (F0 m 2 ls [])
set_option maxHeartbeats 4000000 in
set_option maxRecDepth 100000 in
theorem w_X8_leastCutOf_b2 {p : Program} {l : Launch} {e : Env} {s : State} {m : MethodId} {args : Array Value} {below : List Frame} {meth : Method} {c : Code} {A : Nat → Prop} {G : GG} {S : SM} (cx : CX p s m args c cX8_leastCutOf RX8 4 G S A) (hlk : meth.locks = false) (hr : meth.sig.returnType = some .int) (N : Nat) (a_t a_t_score a_t_good a_t_bad a_t_goodAhead a_t_badAhead : Nat) (t_size : Int) (t_score : Int → Int) (t_good : Int → Int) (t_bad : Int → Int) (t_goodAhead : Int → Int) (t_badAhead : Int → Int) (x1 : Int) (r : Int) : ∀ n : Nat, PL_X8_leastCutOf_b2 p l e s m args below meth c A G S a_t a_t_score a_t_good a_t_bad a_t_goodAhead a_t_badAhead t_size t_score t_good t_bad t_goodAhead t_badAhead x1 r (m_X8_leastCutOf_b2 N t_size t_score t_goodAhead t_badAhead x1 n) := by
  intro n
  induction n with
  | zero => intro y2 h; exact nomatch h
  | succ n ih =>
    intro y2 h H locs ls hw hl
    rw [m_X8_leastCutOf_b2] at h
    obtain ⟨⟨hx, hb, -, -, -⟩, -⟩ := id cx
    refine lv_iload_n hx hb dX8_leastCutOf_2 rfl (lv_at hl 2 rfl) ?_
    refine lv_aload_n hx hb dX8_leastCutOf_3 rfl (lv_at hl 0 rfl) ?_
    refine rf_get hx hb cx hw 0 rfl rfl 5 inX8 (by decide) fl_X8_27 rfl rfl dX8_leastCutOf_4 ?_
    obtain ⟨g1, h⟩ := gd_some h
    obtain ⟨g2, h⟩ := gd_some h
    refine ri_icmp_ge (tgt := 54) hx hb g1 g2 dX8_leastCutOf_7 (by decide) (fun c3 => ?_) (fun c3 => ?_)
    · have h := it_pos c3 h
      refine ri_iconst hx hb dX8_leastCutOf_54 ?_
      obtain rfl := so_inj h
      exact re_i hx hb hlk hr cx hw (Nat.le_of_ble_eq_true rfl) (Nat.le_of_ble_eq_true rfl) dX8_leastCutOf_55
    · have h := it_neg c3 h
      refine lv_aload_n hx hb dX8_leastCutOf_10 rfl (lv_at hl 0 rfl) ?_
      obtain ⟨r4, h4, h⟩ := bd_some h
      refine rc_I0 (v := r4) hw [0, 1, 2, 3, 4, 5] (rr_V cx hw (c_X8_cases l G S H.size N a_t a_t_score a_t_good a_t_bad a_t_goodAhead a_t_badAhead t_size t_score t_good t_bad t_goodAhead t_badAhead _ h4) mv_X8_44 [0, 1, 2, 3, 4, 5] rfl rfl rfl 0 rfl rfl ⟨Nat.le_of_ble_eq_true rfl, Nat.le_of_ble_eq_true rfl⟩ rfl hl.1 rfl (Nat.le_of_ble_eq_true rfl) dX8_leastCutOf_11 ⟨Nat.le_of_ble_eq_true rfl, Nat.le_of_ble_eq_true rfl⟩) rfl rfl (fun H locs hw => ?_)
      refine lv_aload_n hx hb dX8_leastCutOf_14 rfl (lv_at hl 0 rfl) ?_
      refine lv_iload_n hx hb dX8_leastCutOf_15 rfl (lv_at hl 2 rfl) ?_
      obtain ⟨r5, h5, h⟩ := bd_some h
      refine rc_I0 (v := r5) hw [0, 1, 2, 3, 4, 5] (rr_V cx hw (c_X8_casesAhead l G S H.size N a_t a_t_score a_t_good a_t_bad a_t_goodAhead a_t_badAhead t_size t_score t_good t_bad t_goodAhead t_badAhead y2 _ h5) mv_X8_56 [0, 1, 2, 3, 4, 5] rfl rfl rfl 0 rfl rfl ⟨Nat.le_of_ble_eq_true rfl, Nat.le_of_ble_eq_true rfl⟩ rfl hl.1 rfl (Nat.le_of_ble_eq_true rfl) dX8_leastCutOf_16 ⟨Nat.le_of_ble_eq_true rfl, Nat.le_of_ble_eq_true rfl⟩) rfl rfl (fun H locs hw => ?_)
      refine ri_isub hx hb dX8_leastCutOf_19 ?_
      refine lv_istore_n (lv' := [(3, .int (kI (r4 - r5))), (0, .ref a_t), (1, .int (kI x1)), (2, .int (kI y2))]) hx hb dX8_leastCutOf_20 rfl hl (by decide) rfl (fun ls hl => ?_)
      refine lv_aload_n hx hb dX8_leastCutOf_21 rfl (lv_at hl 1 rfl) ?_
      obtain ⟨r6, h6, h⟩ := bd_some h
      refine rc_I0 (v := r6) hw [0, 1, 2, 3, 4, 5] (rr_V cx hw (c_X8_bads l G S H.size N a_t a_t_score a_t_good a_t_bad a_t_goodAhead a_t_badAhead t_size t_score t_good t_bad t_goodAhead t_badAhead _ h6) mv_X8_66 [0, 1, 2, 3, 4, 5] rfl rfl rfl 0 rfl rfl ⟨Nat.le_of_ble_eq_true rfl, Nat.le_of_ble_eq_true rfl⟩ rfl hl.1 rfl (Nat.le_of_ble_eq_true rfl) dX8_leastCutOf_22 ⟨Nat.le_of_ble_eq_true rfl, Nat.le_of_ble_eq_true rfl⟩) rfl rfl (fun H locs hw => ?_)
      refine lv_aload_n hx hb dX8_leastCutOf_25 rfl (lv_at hl 1 rfl) ?_
      refine rf_get hx hb cx hw 0 rfl rfl 4 inX8 (by decide) fl_X8_24 rfl rfl dX8_leastCutOf_26 ?_
      refine lv_iload_n hx hb dX8_leastCutOf_29 rfl (lv_at hl 3 rfl) ?_
      obtain ⟨g7, h⟩ := gd_some h
      refine ra_i hx hb cx hw 5 rfl (by decide) g7 dX8_leastCutOf_30 ?_
      refine ri_isub hx hb dX8_leastCutOf_31 ?_
      refine ri_sipush hx hb dX8_leastCutOf_32 rfl ?_
      refine ri_imul hx hb dX8_leastCutOf_35 ?_
      refine lv_iload_n hx hb dX8_leastCutOf_36 rfl (lv_at hl 2 rfl) ?_
      refine lv_iload_n hx hb dX8_leastCutOf_37 rfl (lv_at hl 0 rfl) ?_
      refine ri_imul hx hb dX8_leastCutOf_38 ?_
      obtain ⟨g8, h⟩ := gd_some h
      obtain ⟨g9, h⟩ := gd_some h
      refine ri_icmp_gt (tgt := 48) hx hb g8 g9 dX8_leastCutOf_39 (by decide) (fun c10 => ?_) (fun c10 => ?_)
      · have h := it_pos c10 h
        refine lv_iinc (v := kI (y2 + 1)) (lv' := [(2, .int (kI (y2 + 1))), (3, .int (kI (r4 - r5))), (0, .ref a_t), (1, .int (kI x1))]) hx hb dX8_leastCutOf_48 hl (k := 3) rfl (kI_add _ _) (by decide) rfl (fun ls hl => ?_)
        refine lv_goto (tgt := 2) hx hb dX8_leastCutOf_51 (by decide) ?_
        exact ih (y2 + 1) h _ _ _ hw (lv_sub hl [2, 3, 0] rfl)
      · have h := it_neg c10 h
        refine lv_aload_n hx hb dX8_leastCutOf_42 rfl (lv_at hl 1 rfl) ?_
        refine lv_iload_n hx hb dX8_leastCutOf_43 rfl (lv_at hl 3 rfl) ?_
        obtain ⟨r11, h11, h⟩ := bd_some h
        refine rc_I0 (v := r11) hw [0, 1, 2, 3, 4, 5] (rr_V cx hw (c_X8_cutBehind l G S H.size N a_t a_t_score a_t_good a_t_bad a_t_goodAhead a_t_badAhead t_size t_score t_good t_bad t_goodAhead t_badAhead y2 _ h11) mv_X8_87 [0, 1, 2, 3, 4, 5] rfl rfl rfl 0 rfl rfl ⟨Nat.le_of_ble_eq_true rfl, Nat.le_of_ble_eq_true rfl⟩ rfl hl.1 rfl (Nat.le_of_ble_eq_true rfl) dX8_leastCutOf_44 ⟨Nat.le_of_ble_eq_true rfl, Nat.le_of_ble_eq_true rfl⟩) rfl rfl (fun H locs hw => ?_)
        obtain rfl := so_inj h
        exact re_i hx hb hlk hr cx hw (Nat.le_of_ble_eq_true rfl) (Nat.le_of_ble_eq_true rfl) dX8_leastCutOf_47
set_option maxHeartbeats 4000000 in
set_option maxRecDepth 100000 in
theorem c_X8_leastCutOf (l : Launch) (G : GG) (S : SM) (sz : Nat) (N : Nat) (a_t a_t_score a_t_good a_t_bad a_t_goodAhead a_t_badAhead : Nat) (t_size : Int) (t_score : Int → Int) (t_good : Int → Int) (t_bad : Int → Int) (t_goodAhead : Int → Int) (t_badAhead : Int → Int) (x1 : Int) (r : Int) (h : m_X8_leastCutOf N t_size t_score t_goodAhead t_badAhead x1 = some r) : CtI l yX8_leastCutOf cX8_leastCutOf 4 .int (rmD 3 0 0) G S sz [.ref a_t, .int (kI x1)] [(a_t, .inr (7, [.ref a_t_score, .ref a_t_good, .ref a_t_bad, .ref a_t_goodAhead, .ref a_t_badAhead, .int (kI t_size)])), (a_t_score, cAI G 60 t_score), (a_t_good, cAI G 60 t_good), (a_t_bad, cAI G 60 t_bad), (a_t_goodAhead, cAI G 61 t_goodAhead), (a_t_badAhead, cAI G 61 t_badAhead)] r [(a_t, .inr (7, [.ref a_t_score, .ref a_t_good, .ref a_t_bad, .ref a_t_goodAhead, .ref a_t_badAhead, .int (kI t_size)])), (a_t_score, cAI G 60 t_score), (a_t_good, cAI G 60 t_good), (a_t_bad, cAI G 60 t_bad), (a_t_goodAhead, cAI G 61 t_goodAhead), (a_t_badAhead, cAI G 61 t_badAhead)] := by
  refine met_I (by decide +kernel) (Nat.le_of_ble_eq_true rfl) ?_
  intro p e s m args below meth c A H locs ls cx hw hr hlk hnm hl
  have hl : lv_has ls 4 [(0, .ref a_t), (1, .int (kI x1))] := hl
  rw [m_X8_leastCutOf] at h
  obtain ⟨⟨hx, hb, -, -, -⟩, -⟩ := id cx
  refine ri_iconst hx hb dX8_leastCutOf_0 ?_
  refine lv_istore_n (lv' := [(2, .int (kI 0)), (0, .ref a_t), (1, .int (kI x1))]) hx hb dX8_leastCutOf_1 rfl hl (by decide) rfl (fun ls hl => ?_)
  exact w_X8_leastCutOf_b2 cx hlk hr N a_t a_t_score a_t_good a_t_bad a_t_goodAhead a_t_badAhead t_size t_score t_good t_bad t_goodAhead t_badAhead x1 r N 0 h _ _ _ hw (lv_sub hl [1, 2, 0] rfl)
def PL_X8_greatestCutOf_b24 (p : Program) (l : Launch) (e : Env) (s : State) (m : MethodId) (args : Array Value) (below : List Frame) (meth : Method) (c : Code) (A : Nat → Prop) (G : GG) (S : SM) (a_t a_t_score a_t_good a_t_bad a_t_goodAhead a_t_badAhead : Nat) (t_size : Int) (t_score : Int → Int) (t_good : Int → Int) (t_bad : Int → Int) (t_goodAhead : Int → Int) (t_badAhead : Int → Int) (x1 : Int) (r : Int) (kk : Int → Option (Int)) : Prop := ∀ (y2 : Int), kk y2 = some r → ∀ (H : Heap) (locs : List Loc) (ls : Array Slot), HP G A s.heap H locs [(a_t, .inr (7, [.ref a_t_score, .ref a_t_good, .ref a_t_bad, .ref a_t_goodAhead, .ref a_t_badAhead, .int (kI t_size)])), (a_t_score, cAI G 60 t_score), (a_t_good, cAI G 60 t_good), (a_t_bad, cAI G 60 t_bad), (a_t_goodAhead, cAI G 61 t_goodAhead), (a_t_badAhead, cAI G 61 t_badAhead)] → lv_has ls 3 [(0, .ref a_t), (1, .int (kI x1)), (2, .int (kI y2))] → W p l e (rmD 3 0 0) s m args below meth c H locs 0 0 (MQ below (QcI G A r [(a_t, .inr (7, [.ref a_t_score, .ref a_t_good, .ref a_t_bad, .ref a_t_goodAhead, .ref a_t_badAhead, .int (kI t_size)])), (a_t_score, cAI G 60 t_score), (a_t_good, cAI G 60 t_good), (a_t_bad, cAI G 60 t_bad), (a_t_goodAhead, cAI G 61 t_goodAhead), (a_t_badAhead, cAI G 61 t_badAhead)]) args s (rmD 3 0 0).cells (rmD 3 0 0).slots A) (F0 m 24 ls [])
set_option maxHeartbeats 4000000 in
set_option maxRecDepth 100000 in
theorem w_X8_greatestCutOf_b24 {p : Program} {l : Launch} {e : Env} {s : State} {m : MethodId} {args : Array Value} {below : List Frame} {meth : Method} {c : Code} {A : Nat → Prop} {G : GG} {S : SM} (cx : CX p s m args c cX8_greatestCutOf RX8 3 G S A) (hlk : meth.locks = false) (hr : meth.sig.returnType = some .int) (N : Nat) (a_t a_t_score a_t_good a_t_bad a_t_goodAhead a_t_badAhead : Nat) (t_size : Int) (t_score : Int → Int) (t_good : Int → Int) (t_bad : Int → Int) (t_goodAhead : Int → Int) (t_badAhead : Int → Int) (x1 : Int) (r : Int) : ∀ n : Nat, PL_X8_greatestCutOf_b24 p l e s m args below meth c A G S a_t a_t_score a_t_good a_t_bad a_t_goodAhead a_t_badAhead t_size t_score t_good t_bad t_goodAhead t_badAhead x1 r (m_X8_greatestCutOf_b24 N t_size t_score t_goodAhead t_badAhead x1 n) := by
  intro n
  induction n with
  | zero => intro y2 h; exact nomatch h
  | succ n ih =>
    intro y2 h H locs ls hw hl
    rw [m_X8_greatestCutOf_b24] at h
    obtain ⟨⟨hx, hb, -, -, -⟩, -⟩ := id cx
    refine lv_iload_n hx hb dX8_greatestCutOf_24 rfl (lv_at hl 2 rfl) ?_
    obtain ⟨g1, h⟩ := gd_some h
    refine ri_if_le (tgt := 64) hx hb g1 dX8_greatestCutOf_25 (by decide) (fun c2 => ?_) (fun c2 => ?_)
    · have h := it_pos c2 h
      refine lv_aload_n hx hb dX8_greatestCutOf_64 rfl (lv_at hl 0 rfl) ?_
      refine rf_get hx hb cx hw 0 rfl rfl 0 inX8 (by decide) fl_X8_9 rfl rfl dX8_greatestCutOf_65 ?_
      refine ri_iconst hx hb dX8_greatestCutOf_68 ?_
      refine ra_i hx hb cx hw 1 rfl (by decide) ⟨by decide, by decide⟩ dX8_greatestCutOf_69 ?_
      obtain rfl := so_inj h
      exact re_i hx hb hlk hr cx hw (Nat.le_of_ble_eq_true rfl) (Nat.le_of_ble_eq_true rfl) dX8_greatestCutOf_70
    · have h := it_neg c2 h
      refine lv_aload_n hx hb dX8_greatestCutOf_28 rfl (lv_at hl 0 rfl) ?_
      obtain ⟨r3, h3, h⟩ := bd_some h
      refine rc_I0 (v := r3) hw [0, 1, 2, 3, 4, 5] (rr_V cx hw (c_X8_cases l G S H.size N a_t a_t_score a_t_good a_t_bad a_t_goodAhead a_t_badAhead t_size t_score t_good t_bad t_goodAhead t_badAhead _ h3) mv_X8_44 [0, 1, 2, 3, 4, 5] rfl rfl rfl 0 rfl rfl ⟨Nat.le_of_ble_eq_true rfl, Nat.le_of_ble_eq_true rfl⟩ rfl hl.1 rfl (Nat.le_of_ble_eq_true rfl) dX8_greatestCutOf_29 ⟨Nat.le_of_ble_eq_true rfl, Nat.le_of_ble_eq_true rfl⟩) rfl rfl (fun H locs hw => ?_)
      refine lv_aload_n hx hb dX8_greatestCutOf_32 rfl (lv_at hl 0 rfl) ?_
      refine lv_iload_n hx hb dX8_greatestCutOf_33 rfl (lv_at hl 2 rfl) ?_
      obtain ⟨r4, h4, h⟩ := bd_some h
      refine rc_I0 (v := r4) hw [0, 1, 2, 3, 4, 5] (rr_V cx hw (c_X8_casesAhead l G S H.size N a_t a_t_score a_t_good a_t_bad a_t_goodAhead a_t_badAhead t_size t_score t_good t_bad t_goodAhead t_badAhead y2 _ h4) mv_X8_56 [0, 1, 2, 3, 4, 5] rfl rfl rfl 0 rfl rfl ⟨Nat.le_of_ble_eq_true rfl, Nat.le_of_ble_eq_true rfl⟩ rfl hl.1 rfl (Nat.le_of_ble_eq_true rfl) dX8_greatestCutOf_34 ⟨Nat.le_of_ble_eq_true rfl, Nat.le_of_ble_eq_true rfl⟩) rfl rfl (fun H locs hw => ?_)
      refine ri_isub hx hb dX8_greatestCutOf_37 ?_
      refine ri_sipush hx hb dX8_greatestCutOf_38 rfl ?_
      refine ri_imul hx hb dX8_greatestCutOf_41 ?_
      refine lv_iload_n hx hb dX8_greatestCutOf_42 rfl (lv_at hl 1 rfl) ?_
      refine lv_aload_n hx hb dX8_greatestCutOf_43 rfl (lv_at hl 0 rfl) ?_
      obtain ⟨r5, h5, h⟩ := bd_some h
      refine rc_I0 (v := r5) hw [0, 1, 2, 3, 4, 5] (rr_V cx hw (c_X8_cases l G S H.size N a_t a_t_score a_t_good a_t_bad a_t_goodAhead a_t_badAhead t_size t_score t_good t_bad t_goodAhead t_badAhead _ h5) mv_X8_44 [0, 1, 2, 3, 4, 5] rfl rfl rfl 0 rfl rfl ⟨Nat.le_of_ble_eq_true rfl, Nat.le_of_ble_eq_true rfl⟩ rfl hl.1 rfl (Nat.le_of_ble_eq_true rfl) dX8_greatestCutOf_44 ⟨Nat.le_of_ble_eq_true rfl, Nat.le_of_ble_eq_true rfl⟩) rfl rfl (fun H locs hw => ?_)
      refine ri_imul hx hb dX8_greatestCutOf_47 ?_
      obtain ⟨g6, h⟩ := gd_some h
      obtain ⟨g7, h⟩ := gd_some h
      refine ri_icmp_lt (tgt := 58) hx hb g6 g7 dX8_greatestCutOf_48 (by decide) (fun c8 => ?_) (fun c8 => ?_)
      · have h := it_pos c8 h
        refine lv_iinc (v := kI (y2 + (-1))) (lv' := [(2, .int (kI (y2 + (-1)))), (0, .ref a_t), (1, .int (kI x1))]) hx hb dX8_greatestCutOf_58 hl (k := 2) rfl (kI_add _ _) (by decide) rfl (fun ls hl => ?_)
        refine lv_goto (tgt := 24) hx hb dX8_greatestCutOf_61 (by decide) ?_
        exact ih (y2 + (-1)) h _ _ _ hw (lv_sub hl [1, 2, 0] rfl)
      · have h := it_neg c8 h
        refine lv_aload_n hx hb dX8_greatestCutOf_51 rfl (lv_at hl 0 rfl) ?_
        refine rf_get hx hb cx hw 0 rfl rfl 0 inX8 (by decide) fl_X8_9 rfl rfl dX8_greatestCutOf_52 ?_
        refine lv_iload_n hx hb dX8_greatestCutOf_55 rfl (lv_at hl 2 rfl) ?_
        obtain ⟨g9, h⟩ := gd_some h
        refine ra_i hx hb cx hw 1 rfl (by decide) g9 dX8_greatestCutOf_56 ?_
        obtain rfl := so_inj h
        exact re_i hx hb hlk hr cx hw (Nat.le_of_ble_eq_true rfl) (Nat.le_of_ble_eq_true rfl) dX8_greatestCutOf_57
set_option maxHeartbeats 4000000 in
set_option maxRecDepth 100000 in
theorem c_X8_greatestCutOf (l : Launch) (G : GG) (S : SM) (sz : Nat) (N : Nat) (a_t a_t_score a_t_good a_t_bad a_t_goodAhead a_t_badAhead : Nat) (t_size : Int) (t_score : Int → Int) (t_good : Int → Int) (t_bad : Int → Int) (t_goodAhead : Int → Int) (t_badAhead : Int → Int) (x1 : Int) (r : Int) (h : m_X8_greatestCutOf N t_size t_score t_goodAhead t_badAhead x1 = some r) : CtI l yX8_greatestCutOf cX8_greatestCutOf 3 .int (rmD 3 0 0) G S sz [.ref a_t, .int (kI x1)] [(a_t, .inr (7, [.ref a_t_score, .ref a_t_good, .ref a_t_bad, .ref a_t_goodAhead, .ref a_t_badAhead, .int (kI t_size)])), (a_t_score, cAI G 60 t_score), (a_t_good, cAI G 60 t_good), (a_t_bad, cAI G 60 t_bad), (a_t_goodAhead, cAI G 61 t_goodAhead), (a_t_badAhead, cAI G 61 t_badAhead)] r [(a_t, .inr (7, [.ref a_t_score, .ref a_t_good, .ref a_t_bad, .ref a_t_goodAhead, .ref a_t_badAhead, .int (kI t_size)])), (a_t_score, cAI G 60 t_score), (a_t_good, cAI G 60 t_good), (a_t_bad, cAI G 60 t_bad), (a_t_goodAhead, cAI G 61 t_goodAhead), (a_t_badAhead, cAI G 61 t_badAhead)] := by
  refine met_I (by decide +kernel) (Nat.le_of_ble_eq_true rfl) ?_
  intro p e s m args below meth c A H locs ls cx hw hr hlk hnm hl
  have hl : lv_has ls 3 [(0, .ref a_t), (1, .int (kI x1))] := hl
  rw [m_X8_greatestCutOf] at h
  obtain ⟨⟨hx, hb, -, -, -⟩, -⟩ := id cx
  refine lv_aload_n hx hb dX8_greatestCutOf_0 rfl (lv_at hl 0 rfl) ?_
  refine rf_get hx hb cx hw 0 rfl rfl 5 inX8 (by decide) fl_X8_27 rfl rfl dX8_greatestCutOf_1 ?_
  obtain ⟨g1, h⟩ := gd_some h
  refine ri_if_ne (tgt := 9) hx hb g1 dX8_greatestCutOf_4 (by decide) (fun c2 => ?_) (fun c2 => ?_)
  · have h := it_pos c2 h
    refine ri_iconst hx hb dX8_greatestCutOf_7 ?_
    obtain rfl := so_inj h
    exact re_i hx hb hlk hr cx hw (Nat.le_of_ble_eq_true rfl) (Nat.le_of_ble_eq_true rfl) dX8_greatestCutOf_8
  · have h := it_neg c2 h
    refine lv_iload_n hx hb dX8_greatestCutOf_9 rfl (lv_at hl 1 rfl) ?_
    obtain ⟨g3, h⟩ := gd_some h
    refine ri_if_ne (tgt := 17) hx hb g3 dX8_greatestCutOf_10 (by decide) (fun c4 => ?_) (fun c4 => ?_)
    · have h := it_pos c4 h
      refine ri_sipush hx hb dX8_greatestCutOf_13 rfl ?_
      obtain rfl := so_inj h
      exact re_i hx hb hlk hr cx hw (Nat.le_of_ble_eq_true rfl) (Nat.le_of_ble_eq_true rfl) dX8_greatestCutOf_16
    · have h := it_neg c4 h
      refine lv_aload_n hx hb dX8_greatestCutOf_17 rfl (lv_at hl 0 rfl) ?_
      refine rf_get hx hb cx hw 0 rfl rfl 5 inX8 (by decide) fl_X8_27 rfl rfl dX8_greatestCutOf_18 ?_
      refine ri_iconst hx hb dX8_greatestCutOf_21 ?_
      refine ri_isub hx hb dX8_greatestCutOf_22 ?_
      refine lv_istore_n (lv' := [(2, .int (kI (t_size - 1))), (0, .ref a_t), (1, .int (kI x1))]) hx hb dX8_greatestCutOf_23 rfl hl (by decide) rfl (fun ls hl => ?_)
      exact w_X8_greatestCutOf_b24 cx hlk hr N a_t a_t_score a_t_good a_t_bad a_t_goodAhead a_t_badAhead t_size t_score t_good t_bad t_goodAhead t_badAhead x1 r N (t_size - 1) h _ _ _ hw (lv_sub hl [1, 2, 0] rfl)
def PL_X8_badOfFew_b2 (p : Program) (l : Launch) (e : Env) (s : State) (m : MethodId) (args : Array Value) (below : List Frame) (meth : Method) (c : Code) (A : Nat → Prop) (G : GG) (S : SM) (a_t a_t_score a_t_good a_t_bad a_t_goodAhead a_t_badAhead : Nat) (t_size : Int) (t_score : Int → Int) (t_good : Int → Int) (t_bad : Int → Int) (t_goodAhead : Int → Int) (t_badAhead : Int → Int) (x1 : Int) (r : Int) (kk : Int → Option (Int)) : Prop := ∀ (y2 : Int), kk y2 = some r → ∀ (H : Heap) (locs : List Loc) (ls : Array Slot), HP G A s.heap H locs [(a_t, .inr (7, [.ref a_t_score, .ref a_t_good, .ref a_t_bad, .ref a_t_goodAhead, .ref a_t_badAhead, .int (kI t_size)])), (a_t_score, cAI G 60 t_score), (a_t_good, cAI G 60 t_good), (a_t_bad, cAI G 60 t_bad), (a_t_goodAhead, cAI G 61 t_goodAhead), (a_t_badAhead, cAI G 61 t_badAhead)] → lv_has ls 3 [(0, .ref a_t), (1, .int (kI x1)), (2, .int (kI y2))] → W p l e (rmD 3 0 0) s m args below meth c H locs 0 0 (MQ below (QcI G A r [(a_t, .inr (7, [.ref a_t_score, .ref a_t_good, .ref a_t_bad, .ref a_t_goodAhead, .ref a_t_badAhead, .int (kI t_size)])), (a_t_score, cAI G 60 t_score), (a_t_good, cAI G 60 t_good), (a_t_bad, cAI G 60 t_bad), (a_t_goodAhead, cAI G 61 t_goodAhead), (a_t_badAhead, cAI G 61 t_badAhead)]) args s (rmD 3 0 0).cells (rmD 3 0 0).slots A) (F0 m 2 ls [])
set_option maxHeartbeats 4000000 in
set_option maxRecDepth 100000 in
theorem w_X8_badOfFew_b2 {p : Program} {l : Launch} {e : Env} {s : State} {m : MethodId} {args : Array Value} {below : List Frame} {meth : Method} {c : Code} {A : Nat → Prop} {G : GG} {S : SM} (cx : CX p s m args c cX8_badOfFew RX8 3 G S A) (hlk : meth.locks = false) (hr : meth.sig.returnType = some .int) (N : Nat) (a_t a_t_score a_t_good a_t_bad a_t_goodAhead a_t_badAhead : Nat) (t_size : Int) (t_score : Int → Int) (t_good : Int → Int) (t_bad : Int → Int) (t_goodAhead : Int → Int) (t_badAhead : Int → Int) (x1 : Int) (r : Int) : ∀ n : Nat, PL_X8_badOfFew_b2 p l e s m args below meth c A G S a_t a_t_score a_t_good a_t_bad a_t_goodAhead a_t_badAhead t_size t_score t_good t_bad t_goodAhead t_badAhead x1 r (m_X8_badOfFew_b2 N t_size t_goodAhead t_badAhead x1 n) := by
  intro n
  induction n with
  | zero => intro y2 h; exact nomatch h
  | succ n ih =>
    intro y2 h H locs ls hw hl
    rw [m_X8_badOfFew_b2] at h
    obtain ⟨⟨hx, hb, -, -, -⟩, -⟩ := id cx
    refine lv_iload_n hx hb dX8_badOfFew_2 rfl (lv_at hl 2 rfl) ?_
    refine lv_aload_n hx hb dX8_badOfFew_3 rfl (lv_at hl 0 rfl) ?_
    refine rf_get hx hb cx hw 0 rfl rfl 5 inX8 (by decide) fl_X8_27 rfl rfl dX8_badOfFew_4 ?_
    obtain ⟨g1, h⟩ := gd_some h
    obtain ⟨g2, h⟩ := gd_some h
    refine ri_icmp_ge (tgt := 41) hx hb g1 g2 dX8_badOfFew_7 (by decide) (fun c3 => ?_) (fun c3 => ?_)
    · have h := it_pos c3 h
      refine lv_aload_n hx hb dX8_badOfFew_41 rfl (lv_at hl 0 rfl) ?_
      obtain ⟨r4, h4, h⟩ := bd_some h
      refine rc_I0 (v := r4) hw [0, 1, 2, 3, 4, 5] (rr_V cx hw (c_X8_bads l G S H.size N a_t a_t_score a_t_good a_t_bad a_t_goodAhead a_t_badAhead t_size t_score t_good t_bad t_goodAhead t_badAhead _ h4) mv_X8_66 [0, 1, 2, 3, 4, 5] rfl rfl rfl 0 rfl rfl ⟨Nat.le_of_ble_eq_true rfl, Nat.le_of_ble_eq_true rfl⟩ rfl hl.1 rfl (Nat.le_of_ble_eq_true rfl) dX8_badOfFew_42 ⟨Nat.le_of_ble_eq_true rfl, Nat.le_of_ble_eq_true rfl⟩) rfl rfl (fun H locs hw => ?_)
      obtain rfl := so_inj h
      exact re_i hx hb hlk hr cx hw (Nat.le_of_ble_eq_true rfl) (Nat.le_of_ble_eq_true rfl) dX8_badOfFew_45
    · have h := it_neg c3 h
      refine lv_aload_n hx hb dX8_badOfFew_10 rfl (lv_at hl 0 rfl) ?_
      refine lv_iload_n hx hb dX8_badOfFew_11 rfl (lv_at hl 2 rfl) ?_
      obtain ⟨r5, h5, h⟩ := bd_some h
      refine rc_I0 (v := r5) hw [0, 1, 2, 3, 4, 5] (rr_V cx hw (c_X8_casesAhead l G S H.size N a_t a_t_score a_t_good a_t_bad a_t_goodAhead a_t_badAhead t_size t_score t_good t_bad t_goodAhead t_badAhead y2 _ h5) mv_X8_56 [0, 1, 2, 3, 4, 5] rfl rfl rfl 0 rfl rfl ⟨Nat.le_of_ble_eq_true rfl, Nat.le_of_ble_eq_true rfl⟩ rfl hl.1 rfl (Nat.le_of_ble_eq_true rfl) dX8_badOfFew_12 ⟨Nat.le_of_ble_eq_true rfl, Nat.le_of_ble_eq_true rfl⟩) rfl rfl (fun H locs hw => ?_)
      refine ri_sipush hx hb dX8_badOfFew_15 rfl ?_
      refine ri_imul hx hb dX8_badOfFew_18 ?_
      refine lv_iload_n hx hb dX8_badOfFew_19 rfl (lv_at hl 1 rfl) ?_
      refine lv_aload_n hx hb dX8_badOfFew_20 rfl (lv_at hl 0 rfl) ?_
      obtain ⟨r6, h6, h⟩ := bd_some h
      refine rc_I0 (v := r6) hw [0, 1, 2, 3, 4, 5] (rr_V cx hw (c_X8_cases l G S H.size N a_t a_t_score a_t_good a_t_bad a_t_goodAhead a_t_badAhead t_size t_score t_good t_bad t_goodAhead t_badAhead _ h6) mv_X8_44 [0, 1, 2, 3, 4, 5] rfl rfl rfl 0 rfl rfl ⟨Nat.le_of_ble_eq_true rfl, Nat.le_of_ble_eq_true rfl⟩ rfl hl.1 rfl (Nat.le_of_ble_eq_true rfl) dX8_badOfFew_21 ⟨Nat.le_of_ble_eq_true rfl, Nat.le_of_ble_eq_true rfl⟩) rfl rfl (fun H locs hw => ?_)
      refine ri_imul hx hb dX8_badOfFew_24 ?_
      obtain ⟨g7, h⟩ := gd_some h
      obtain ⟨g8, h⟩ := gd_some h
      refine ri_icmp_lt (tgt := 35) hx hb g7 g8 dX8_badOfFew_25 (by decide) (fun c9 => ?_) (fun c9 => ?_)
      · have h := it_pos c9 h
        refine lv_iinc (v := kI (y2 + 1)) (lv' := [(2, .int (kI (y2 + 1))), (0, .ref a_t), (1, .int (kI x1))]) hx hb dX8_badOfFew_35 hl (k := 2) rfl (kI_add _ _) (by decide) rfl (fun ls hl => ?_)
        refine lv_goto (tgt := 2) hx hb dX8_badOfFew_38 (by decide) ?_
        exact ih (y2 + 1) h _ _ _ hw (lv_sub hl [1, 2, 0] rfl)
      · have h := it_neg c9 h
        refine lv_aload_n hx hb dX8_badOfFew_28 rfl (lv_at hl 0 rfl) ?_
        refine rf_get hx hb cx hw 0 rfl rfl 4 inX8 (by decide) fl_X8_24 rfl rfl dX8_badOfFew_29 ?_
        refine lv_iload_n hx hb dX8_badOfFew_32 rfl (lv_at hl 2 rfl) ?_
        obtain ⟨g10, h⟩ := gd_some h
        refine ra_i hx hb cx hw 5 rfl (by decide) g10 dX8_badOfFew_33 ?_
        obtain rfl := so_inj h
        exact re_i hx hb hlk hr cx hw (Nat.le_of_ble_eq_true rfl) (Nat.le_of_ble_eq_true rfl) dX8_badOfFew_34
set_option maxHeartbeats 4000000 in
set_option maxRecDepth 100000 in
theorem c_X8_badOfFew (l : Launch) (G : GG) (S : SM) (sz : Nat) (N : Nat) (a_t a_t_score a_t_good a_t_bad a_t_goodAhead a_t_badAhead : Nat) (t_size : Int) (t_score : Int → Int) (t_good : Int → Int) (t_bad : Int → Int) (t_goodAhead : Int → Int) (t_badAhead : Int → Int) (x1 : Int) (r : Int) (h : m_X8_badOfFew N t_size t_goodAhead t_badAhead x1 = some r) : CtI l yX8_badOfFew cX8_badOfFew 3 .int (rmD 3 0 0) G S sz [.ref a_t, .int (kI x1)] [(a_t, .inr (7, [.ref a_t_score, .ref a_t_good, .ref a_t_bad, .ref a_t_goodAhead, .ref a_t_badAhead, .int (kI t_size)])), (a_t_score, cAI G 60 t_score), (a_t_good, cAI G 60 t_good), (a_t_bad, cAI G 60 t_bad), (a_t_goodAhead, cAI G 61 t_goodAhead), (a_t_badAhead, cAI G 61 t_badAhead)] r [(a_t, .inr (7, [.ref a_t_score, .ref a_t_good, .ref a_t_bad, .ref a_t_goodAhead, .ref a_t_badAhead, .int (kI t_size)])), (a_t_score, cAI G 60 t_score), (a_t_good, cAI G 60 t_good), (a_t_bad, cAI G 60 t_bad), (a_t_goodAhead, cAI G 61 t_goodAhead), (a_t_badAhead, cAI G 61 t_badAhead)] := by
  refine met_I (by decide +kernel) (Nat.le_of_ble_eq_true rfl) ?_
  intro p e s m args below meth c A H locs ls cx hw hr hlk hnm hl
  have hl : lv_has ls 3 [(0, .ref a_t), (1, .int (kI x1))] := hl
  rw [m_X8_badOfFew] at h
  obtain ⟨⟨hx, hb, -, -, -⟩, -⟩ := id cx
  refine ri_iconst hx hb dX8_badOfFew_0 ?_
  refine lv_istore_n (lv' := [(2, .int (kI 0)), (0, .ref a_t), (1, .int (kI x1))]) hx hb dX8_badOfFew_1 rfl hl (by decide) rfl (fun ls hl => ?_)
  exact w_X8_badOfFew_b2 cx hlk hr N a_t a_t_score a_t_good a_t_bad a_t_goodAhead a_t_badAhead t_size t_score t_good t_bad t_goodAhead t_badAhead x1 r N 0 h _ _ _ hw (lv_sub hl [1, 2, 0] rfl)
def PL_X9_init_b41 (p : Program) (l : Launch) (e : Env) (s : State) (m : MethodId) (args : Array Value) (below : List Frame) (meth : Method) (c : Code) (A : Nat → Prop) (G : GG) (S : SM) (a_t a_p1 a_p1_score a_p1_good a_p1_bad a_p1_open a_p1_costs : Nat) (p1_ats : Int) (p1_lines : Int) (p1_least : Int) (p1_most : Int) (p1_faultKind : Int) (p1_faultPlace : Int) (p1_toldLines : Int) (p1_kind : Int) (p1_start : Int) (p1_next : Int) (p1_number : Int) (p1_score : Int → Int) (p1_good : Int → Int) (p1_bad : Int → Int) (p1_open : Int → Int) (p1_costs : Int → Int) (r : Int × Int × (Int → Int) × (Int → Int)) (kk : Int → Int → Int → Int → (Int → Int) → (Int → Int) → Option (Int × Int × (Int → Int) × (Int → Int))) : Prop := ∀ (ad_nwc21 : Nat) (ad_nw32 : Nat) (hn_nwc21 : (p1_ats).toNat < 2147483648) (hn_nw32 : (p1_ats).toNat < 2147483648) (y2 : Int) (y3 : Int) (v_t_size : Int) (v_t_total : Int) (v_nwc21 : Int → Int) (v_nw32 : Int → Int), kk y2 y3 v_t_size v_t_total v_nwc21 v_nw32 = some r → ∀ (H : Heap) (locs : List Loc) (ls : Array Slot), HP G A s.heap H locs [(a_t, .inr (8, [.ref ad_nwc21, .ref ad_nw32, .int (kI v_t_size), .int (kI v_t_total)])), (a_p1, .inr (6, [.ref a_p1_score, .ref a_p1_good, .ref a_p1_bad, .ref a_p1_open, .ref a_p1_costs, .int (kI p1_ats), .int (kI p1_lines), .int (kI p1_least), .int (kI p1_most), .int (kI p1_faultKind), .int (kI p1_faultPlace), .int (kI p1_toldLines), .int (kI p1_kind), .int (kI p1_start), .int (kI p1_next), .int (kI p1_number)])), (a_p1_score, cAI G 60 p1_score), (a_p1_good, cAI G 60 p1_good), (a_p1_bad, cAI G 60 p1_bad), (a_p1_open, cAI G 60 p1_open), (a_p1_costs, cAI G 3 p1_costs), (ad_nwc21, cAI G (p1_ats).toNat v_nwc21), (ad_nw32, cAI G (p1_ats).toNat v_nw32)] → lv_has ls 4 [(0, .ref a_t), (1, .ref a_p1), (2, .int (kI y2)), (3, .int (kI y3))] → W p l e (rmD 3 2 120) s m args below meth c H locs 2 120 (MQ below (QcVx G A (fun u => [(a_t, .inr (8, [.ref (u 0), .ref (u 1), .int (kI r.1), .int (kI r.2.1)])), ((u 0), cAI G (p1_ats).toNat r.2.2.1), ((u 1), cAI G (p1_ats).toNat r.2.2.2), (a_p1, .inr (6, [.ref a_p1_score, .ref a_p1_good, .ref a_p1_bad, .ref a_p1_open, .ref a_p1_costs, .int (kI p1_ats), .int (kI p1_lines), .int (kI p1_least), .int (kI p1_most), .int (kI p1_faultKind), .int (kI p1_faultPlace), .int (kI p1_toldLines), .int (kI p1_kind), .int (kI p1_start), .int (kI p1_next), .int (kI p1_number)])), (a_p1_score, cAI G 60 p1_score), (a_p1_good, cAI G 60 p1_good), (a_p1_bad, cAI G 60 p1_bad), (a_p1_open, cAI G 60 p1_open), (a_p1_costs, cAI G 3 p1_costs)])) args s (rmD 3 2 120).cells (rmD 3 2 120).slots A) (F0 m 41 ls [])
set_option maxHeartbeats 4000000 in
set_option maxRecDepth 100000 in
theorem w_X9_init_b41 {p : Program} {l : Launch} {e : Env} {s : State} {m : MethodId} {args : Array Value} {below : List Frame} {meth : Method} {c : Code} {A : Nat → Prop} {G : GG} {S : SM} (cx : CX p s m args c cX9_init RX9 4 G S A) (hlk : meth.locks = false) (hr : meth.sig.returnType = none) (hnm : meth.name = "<init>") (N : Nat) (a_t a_p1 a_p1_score a_p1_good a_p1_bad a_p1_open a_p1_costs : Nat) (p1_ats : Int) (p1_lines : Int) (p1_least : Int) (p1_most : Int) (p1_faultKind : Int) (p1_faultPlace : Int) (p1_toldLines : Int) (p1_kind : Int) (p1_start : Int) (p1_next : Int) (p1_number : Int) (p1_score : Int → Int) (p1_good : Int → Int) (p1_bad : Int → Int) (p1_open : Int → Int) (p1_costs : Int → Int) (r : Int × Int × (Int → Int) × (Int → Int)) : ∀ n : Nat, PL_X9_init_b41 p l e s m args below meth c A G S a_t a_p1 a_p1_score a_p1_good a_p1_bad a_p1_open a_p1_costs p1_ats p1_lines p1_least p1_most p1_faultKind p1_faultPlace p1_toldLines p1_kind p1_start p1_next p1_number p1_score p1_good p1_bad p1_open p1_costs r (m_X9_init_b41 N p1_ats p1_score p1_good p1_bad n) := by
  intro n
  induction n with
  | zero => intro ad_nwc21 ad_nw32 hn_nwc21 hn_nw32 y2 y3 v_t_size v_t_total v_nwc21 v_nw32 h; exact nomatch h
  | succ n ih =>
    intro ad_nwc21 ad_nw32 hn_nwc21 hn_nw32 y2 y3 v_t_size v_t_total v_nwc21 v_nw32 h H locs ls hw hl
    rw [m_X9_init_b41] at h
    obtain ⟨⟨hx, hb, -, -, -⟩, -⟩ := id cx
    refine lv_iload_n hx hb dX9_init_41 rfl (lv_at hl 3 rfl) ?_
    refine lv_aload_n hx hb dX9_init_42 rfl (lv_at hl 0 rfl) ?_
    refine rf_get hx hb cx hw 0 rfl rfl 2 inX9 (by decide) fl_X9_13 rfl rfl dX9_init_43 ?_
    obtain ⟨g1, h⟩ := gd_some h
    obtain ⟨g2, h⟩ := gd_some h
    refine ri_icmp_ge (tgt := 83) hx hb g1 g2 dX9_init_46 (by decide) (fun c3 => ?_) (fun c3 => ?_)
    · have h := it_pos c3 h
      refine lv_aload_n hx hb dX9_init_83 rfl (lv_at hl 0 rfl) ?_
      refine lv_iload_n hx hb dX9_init_84 rfl (lv_at hl 2 rfl) ?_
      refine rf_putF hx hb cx hw 0 rfl rfl 3 inX9 tyX9 tyX9_ok nmX9 (by decide) fl_X9_38 rfl rfl hnm rfl rfl (Nat.le_of_ble_eq_true rfl) dX9_init_85 (fun H locs hw => ?_)
      have hw : HP G A s.heap H locs [(a_t, .inr (8, [.ref ad_nwc21, .ref ad_nw32, .int (kI v_t_size), .int (kI y2)])), (a_p1, .inr (6, [.ref a_p1_score, .ref a_p1_good, .ref a_p1_bad, .ref a_p1_open, .ref a_p1_costs, .int (kI p1_ats), .int (kI p1_lines), .int (kI p1_least), .int (kI p1_most), .int (kI p1_faultKind), .int (kI p1_faultPlace), .int (kI p1_toldLines), .int (kI p1_kind), .int (kI p1_start), .int (kI p1_next), .int (kI p1_number)])), (a_p1_score, cAI G 60 p1_score), (a_p1_good, cAI G 60 p1_good), (a_p1_bad, cAI G 60 p1_bad), (a_p1_open, cAI G 60 p1_open), (a_p1_costs, cAI G 3 p1_costs), (ad_nwc21, cAI G (p1_ats).toNat v_nwc21), (ad_nw32, cAI G (p1_ats).toNat v_nw32)] := hw
      obtain rfl := so_inj h
      exact re_vx (fun i => [ad_nwc21, ad_nw32].getD i 0) hx hb hlk hr cx (HP.re hw [0, 7, 8, 1, 2, 3, 4, 5, 6] rfl rfl rfl) (Nat.le_of_ble_eq_true rfl) (Nat.le_of_ble_eq_true rfl) dX9_init_88
    · have h := it_neg c3 h
      refine lv_aload_n hx hb dX9_init_49 rfl (lv_at hl 0 rfl) ?_
      refine rf_get hx hb cx hw 0 rfl rfl 1 inX9 (by decide) fl_X9_29 rfl rfl dX9_init_50 ?_
      refine lv_iload_n hx hb dX9_init_53 rfl (lv_at hl 3 rfl) ?_
      refine lv_aload_n hx hb dX9_init_54 rfl (lv_at hl 1 rfl) ?_
      refine rf_get hx hb cx hw 1 rfl rfl 1 inX7 (by decide) fl_X9_32 rfl rfl dX9_init_55 ?_
      refine lv_iload_n hx hb dX9_init_58 rfl (lv_at hl 3 rfl) ?_
      obtain ⟨g4, h⟩ := gd_some h
      refine ra_i hx hb cx hw 3 rfl (by decide) g4 dX9_init_59 ?_
      refine lv_aload_n hx hb dX9_init_60 rfl (lv_at hl 1 rfl) ?_
      refine rf_get hx hb cx hw 1 rfl rfl 2 inX7 (by decide) fl_X9_35 rfl rfl dX9_init_61 ?_
      refine lv_iload_n hx hb dX9_init_64 rfl (lv_at hl 3 rfl) ?_
      refine ra_i hx hb cx hw 4 rfl (by decide) g4 dX9_init_65 ?_
      refine ri_iadd hx hb dX9_init_66 ?_
      obtain ⟨g5, h⟩ := gd_some h
      refine ra_si hx hb cx hw 8 rfl hn_nw32 g5 dX9_init_67 (fun H locs hw => ?_)
      have hw : HP G A s.heap H locs [(a_t, .inr (8, [.ref ad_nwc21, .ref ad_nw32, .int (kI v_t_size), .int (kI v_t_total)])), (a_p1, .inr (6, [.ref a_p1_score, .ref a_p1_good, .ref a_p1_bad, .ref a_p1_open, .ref a_p1_costs, .int (kI p1_ats), .int (kI p1_lines), .int (kI p1_least), .int (kI p1_most), .int (kI p1_faultKind), .int (kI p1_faultPlace), .int (kI p1_toldLines), .int (kI p1_kind), .int (kI p1_start), .int (kI p1_next), .int (kI p1_number)])), (a_p1_score, cAI G 60 p1_score), (a_p1_good, cAI G 60 p1_good), (a_p1_bad, cAI G 60 p1_bad), (a_p1_open, cAI G 60 p1_open), (a_p1_costs, cAI G 3 p1_costs), (ad_nwc21, cAI G (p1_ats).toNat v_nwc21), (ad_nw32, cAI G (p1_ats).toNat (uP v_nw32 y3 ((p1_good y3) + (p1_bad y3))))] := hw
      refine lv_iload_n hx hb dX9_init_68 rfl (lv_at hl 2 rfl) ?_
      refine lv_aload_n hx hb dX9_init_69 rfl (lv_at hl 0 rfl) ?_
      refine rf_get hx hb cx hw 0 rfl rfl 1 inX9 (by decide) fl_X9_29 rfl rfl dX9_init_70 ?_
      refine lv_iload_n hx hb dX9_init_73 rfl (lv_at hl 3 rfl) ?_
      refine ra_i hx hb cx hw 8 rfl hn_nw32 g5 dX9_init_74 ?_
      refine ri_iadd hx hb dX9_init_75 ?_
      refine lv_istore_n (lv' := [(2, .int (kI (y2 + ((uP v_nw32 y3 ((p1_good y3) + (p1_bad y3))) y3)))), (0, .ref a_t), (1, .ref a_p1), (3, .int (kI y3))]) hx hb dX9_init_76 rfl hl (by decide) rfl (fun ls hl => ?_)
      refine lv_iinc (v := kI (y3 + 1)) (lv' := [(3, .int (kI (y3 + 1))), (2, .int (kI (y2 + ((uP v_nw32 y3 ((p1_good y3) + (p1_bad y3))) y3)))), (0, .ref a_t), (1, .ref a_p1)]) hx hb dX9_init_77 hl (k := 3) rfl (kI_add _ _) (by decide) rfl (fun ls hl => ?_)
      refine lv_goto (tgt := 41) hx hb dX9_init_80 (by decide) ?_
      exact ih ad_nwc21 ad_nw32 hn_nwc21 hn_nw32 (y2 + ((uP v_nw32 y3 ((p1_good y3) + (p1_bad y3))) y3)) (y3 + 1) v_t_size v_t_total v_nwc21 (uP v_nw32 y3 ((p1_good y3) + (p1_bad y3))) h _ _ _ hw (lv_sub hl [2, 3, 1, 0] rfl)
set_option maxHeartbeats 4000000 in
set_option maxRecDepth 100000 in
theorem c_X9_init (l : Launch) (G : GG) (S : SM) (sz : Nat) (N : Nat) (a_t a_p1 a_p1_score a_p1_good a_p1_bad a_p1_open a_p1_costs : Nat) (p1_ats : Int) (p1_lines : Int) (p1_least : Int) (p1_most : Int) (p1_faultKind : Int) (p1_faultPlace : Int) (p1_toldLines : Int) (p1_kind : Int) (p1_start : Int) (p1_next : Int) (p1_number : Int) (p1_score : Int → Int) (p1_good : Int → Int) (p1_bad : Int → Int) (p1_open : Int → Int) (p1_costs : Int → Int)  (r : Int × Int × (Int → Int) × (Int → Int)) (h : m_X9_init N p1_ats p1_score p1_good p1_bad = some r) : CtVx l yX9_init cX9_init 4 (rmD 3 2 120) G S sz [.ref a_t, .ref a_p1] [(a_t, .inr (8, [.null, .null, .int (kI 0), .int (kI 0)])), (a_p1, .inr (6, [.ref a_p1_score, .ref a_p1_good, .ref a_p1_bad, .ref a_p1_open, .ref a_p1_costs, .int (kI p1_ats), .int (kI p1_lines), .int (kI p1_least), .int (kI p1_most), .int (kI p1_faultKind), .int (kI p1_faultPlace), .int (kI p1_toldLines), .int (kI p1_kind), .int (kI p1_start), .int (kI p1_next), .int (kI p1_number)])), (a_p1_score, cAI G 60 p1_score), (a_p1_good, cAI G 60 p1_good), (a_p1_bad, cAI G 60 p1_bad), (a_p1_open, cAI G 60 p1_open), (a_p1_costs, cAI G 3 p1_costs)] (fun u => [(a_t, .inr (8, [.ref (u 0), .ref (u 1), .int (kI r.1), .int (kI r.2.1)])), ((u 0), cAI G (p1_ats).toNat r.2.2.1), ((u 1), cAI G (p1_ats).toNat r.2.2.2), (a_p1, .inr (6, [.ref a_p1_score, .ref a_p1_good, .ref a_p1_bad, .ref a_p1_open, .ref a_p1_costs, .int (kI p1_ats), .int (kI p1_lines), .int (kI p1_least), .int (kI p1_most), .int (kI p1_faultKind), .int (kI p1_faultPlace), .int (kI p1_toldLines), .int (kI p1_kind), .int (kI p1_start), .int (kI p1_next), .int (kI p1_number)])), (a_p1_score, cAI G 60 p1_score), (a_p1_good, cAI G 60 p1_good), (a_p1_bad, cAI G 60 p1_bad), (a_p1_open, cAI G 60 p1_open), (a_p1_costs, cAI G 3 p1_costs)]) := by
  refine met_Vx (by decide +kernel) (Nat.le_of_ble_eq_true rfl) ?_
  intro p e s m args below meth c A H locs ls cx hw hr hlk hnm hl
  have hl : lv_has ls 4 [(0, .ref a_t), (1, .ref a_p1)] := hl
  rw [m_X9_init] at h
  obtain ⟨⟨hx, hb, -, -, -⟩, -⟩ := id cx
  refine lv_aload_n hx hb dX9_init_0 rfl (lv_at hl 0 rfl) ?_
  refine ro_init hx hb cx hl.1 jl_X9_1 (Nat.le_of_ble_eq_true rfl) (Nat.le_of_ble_eq_true rfl) dX9_init_1 ?_
  refine lv_aload_n hx hb dX9_init_4 rfl (lv_at hl 0 rfl) ?_
  refine lv_aload_n hx hb dX9_init_5 rfl (lv_at hl 1 rfl) ?_
  refine rf_get hx hb cx hw 1 rfl rfl 5 inX7 (by decide) fl_X9_7 rfl rfl dX9_init_6 ?_
  refine rf_putF hx hb cx hw 0 rfl rfl 2 inX9 tyX9 tyX9_ok nmX9 (by decide) fl_X9_13 rfl rfl hnm rfl rfl (Nat.le_of_ble_eq_true rfl) dX9_init_9 (fun H locs hw => ?_)
  have hw : HP G A s.heap H locs [(a_t, .inr (8, [.null, .null, .int (kI p1_ats), .int (kI 0)])), (a_p1, .inr (6, [.ref a_p1_score, .ref a_p1_good, .ref a_p1_bad, .ref a_p1_open, .ref a_p1_costs, .int (kI p1_ats), .int (kI p1_lines), .int (kI p1_least), .int (kI p1_most), .int (kI p1_faultKind), .int (kI p1_faultPlace), .int (kI p1_toldLines), .int (kI p1_kind), .int (kI p1_start), .int (kI p1_next), .int (kI p1_number)])), (a_p1_score, cAI G 60 p1_score), (a_p1_good, cAI G 60 p1_good), (a_p1_bad, cAI G 60 p1_bad), (a_p1_open, cAI G 60 p1_open), (a_p1_costs, cAI G 3 p1_costs)] := hw
  refine lv_aload_n hx hb dX9_init_12 rfl (lv_at hl 0 rfl) ?_
  refine lv_aload_n hx hb dX9_init_13 rfl (lv_at hl 1 rfl) ?_
  refine rf_get hx hb cx hw 1 rfl rfl 0 inX7 (by decide) fl_X9_18 rfl rfl dX9_init_14 ?_
  refine lv_aload_n hx hb dX9_init_17 rfl (lv_at hl 0 rfl) ?_
  refine rf_get hx hb cx hw 0 rfl rfl 2 inX9 (by decide) fl_X9_13 rfl rfl dX9_init_18 ?_
  obtain ⟨g1, h⟩ := gd_some h
  refine rc_R (wf := fun q21 => [(a_t, .inr (8, [.null, .null, .int (kI p1_ats), .int (kI 0)])), (a_p1, .inr (6, [.ref a_p1_score, .ref a_p1_good, .ref a_p1_bad, .ref a_p1_open, .ref a_p1_costs, .int (kI p1_ats), .int (kI p1_lines), .int (kI p1_least), .int (kI p1_most), .int (kI p1_faultKind), .int (kI p1_faultPlace), .int (kI p1_toldLines), .int (kI p1_kind), .int (kI p1_start), .int (kI p1_next), .int (kI p1_number)])), (a_p1_score, cAI G 60 p1_score), (a_p1_good, cAI G 60 p1_good), (a_p1_bad, cAI G 60 p1_bad), (a_p1_open, cAI G 60 p1_open), (a_p1_costs, cAI G 3 p1_costs), (q21, cAI G (p1_ats).toNat (cpO p1_score 60 p1_ats))]) hw [2] [0, 1, 3, 4, 5, 6] [0, 1, 6, 2, 3, 4, 5, 7] (rr_S cx hw (c_J7_copyOf l G S H.size a_p1_score 60 p1_score p1_ats (Nat.le_of_ble_eq_true rfl) g1) mv_X9_22 [2] rfl rfl rfl ⟨Nat.le_of_ble_eq_true rfl, Nat.le_of_ble_eq_true rfl⟩ rfl hl.1 rfl (Nat.le_of_ble_eq_true rfl) dX9_init_21 ⟨Nat.le_of_ble_eq_true rfl, Nat.le_of_ble_eq_true rfl⟩) rfl rfl rfl rfl rfl rfl (fun _ => rfl) (fun _ => rfl) (fun q21 H locs hw => ?_)
  have hw : HP G A s.heap H locs [(a_t, .inr (8, [.null, .null, .int (kI p1_ats), .int (kI 0)])), (a_p1, .inr (6, [.ref a_p1_score, .ref a_p1_good, .ref a_p1_bad, .ref a_p1_open, .ref a_p1_costs, .int (kI p1_ats), .int (kI p1_lines), .int (kI p1_least), .int (kI p1_most), .int (kI p1_faultKind), .int (kI p1_faultPlace), .int (kI p1_toldLines), .int (kI p1_kind), .int (kI p1_start), .int (kI p1_next), .int (kI p1_number)])), (a_p1_score, cAI G 60 p1_score), (a_p1_good, cAI G 60 p1_good), (a_p1_bad, cAI G 60 p1_bad), (a_p1_open, cAI G 60 p1_open), (a_p1_costs, cAI G 3 p1_costs), (q21, cAI G (p1_ats).toNat (cpO p1_score 60 p1_ats))] := hw
  have hn_nwc21 : (p1_ats).toNat < 2147483648 := by omega
  refine W.widen (k := 1) (n := 60) (Nat.le_of_ble_eq_true rfl) (Nat.le_of_ble_eq_true rfl) ?_
  refine rf_putF hx hb cx hw 0 rfl rfl 0 inX9 tyX9 tyX9_ok nmX9 (by decide) fl_X9_28 rfl rfl hnm rfl rfl (Nat.le_of_ble_eq_true rfl) dX9_init_24 (fun H locs hw => ?_)
  have hw : HP G A s.heap H locs [(a_t, .inr (8, [.ref q21, .null, .int (kI p1_ats), .int (kI 0)])), (a_p1, .inr (6, [.ref a_p1_score, .ref a_p1_good, .ref a_p1_bad, .ref a_p1_open, .ref a_p1_costs, .int (kI p1_ats), .int (kI p1_lines), .int (kI p1_least), .int (kI p1_most), .int (kI p1_faultKind), .int (kI p1_faultPlace), .int (kI p1_toldLines), .int (kI p1_kind), .int (kI p1_start), .int (kI p1_next), .int (kI p1_number)])), (a_p1_score, cAI G 60 p1_score), (a_p1_good, cAI G 60 p1_good), (a_p1_bad, cAI G 60 p1_bad), (a_p1_open, cAI G 60 p1_open), (a_p1_costs, cAI G 3 p1_costs), (q21, cAI G (p1_ats).toNat (cpO p1_score 60 p1_ats))] := hw
  refine lv_aload_n hx hb dX9_init_27 rfl (lv_at hl 0 rfl) ?_
  refine lv_aload_n hx hb dX9_init_28 rfl (lv_at hl 0 rfl) ?_
  refine rf_get hx hb cx hw 0 rfl rfl 2 inX9 (by decide) fl_X9_13 rfl rfl dX9_init_29 ?_
  refine ra_newI hx hb cx hw ⟨g1.1, by omega⟩ (Nat.le_of_ble_eq_true rfl) (by show _ + _ ≤ 120; omega) dX9_init_32 (fun q32 H hw => ?_)
  have hw : HP G A s.heap H locs [(a_t, .inr (8, [.ref q21, .null, .int (kI p1_ats), .int (kI 0)])), (a_p1, .inr (6, [.ref a_p1_score, .ref a_p1_good, .ref a_p1_bad, .ref a_p1_open, .ref a_p1_costs, .int (kI p1_ats), .int (kI p1_lines), .int (kI p1_least), .int (kI p1_most), .int (kI p1_faultKind), .int (kI p1_faultPlace), .int (kI p1_toldLines), .int (kI p1_kind), .int (kI p1_start), .int (kI p1_next), .int (kI p1_number)])), (a_p1_score, cAI G 60 p1_score), (a_p1_good, cAI G 60 p1_good), (a_p1_bad, cAI G 60 p1_bad), (a_p1_open, cAI G 60 p1_open), (a_p1_costs, cAI G 3 p1_costs), (q21, cAI G (p1_ats).toNat (cpO p1_score 60 p1_ats)), (q32, cAI G (p1_ats).toNat (fun _ => 0))] := hw
  have hn_nw32 : (p1_ats).toNat < 2147483648 := by omega
  refine W.widen (k := 2) (n := 120) (Nat.le_of_ble_eq_true rfl) (by omega) ?_
  refine rf_putF hx hb cx hw 0 rfl rfl 1 inX9 tyX9 tyX9_ok nmX9 (by decide) fl_X9_29 rfl rfl hnm rfl rfl (Nat.le_of_ble_eq_true rfl) dX9_init_34 (fun H locs hw => ?_)
  have hw : HP G A s.heap H locs [(a_t, .inr (8, [.ref q21, .ref q32, .int (kI p1_ats), .int (kI 0)])), (a_p1, .inr (6, [.ref a_p1_score, .ref a_p1_good, .ref a_p1_bad, .ref a_p1_open, .ref a_p1_costs, .int (kI p1_ats), .int (kI p1_lines), .int (kI p1_least), .int (kI p1_most), .int (kI p1_faultKind), .int (kI p1_faultPlace), .int (kI p1_toldLines), .int (kI p1_kind), .int (kI p1_start), .int (kI p1_next), .int (kI p1_number)])), (a_p1_score, cAI G 60 p1_score), (a_p1_good, cAI G 60 p1_good), (a_p1_bad, cAI G 60 p1_bad), (a_p1_open, cAI G 60 p1_open), (a_p1_costs, cAI G 3 p1_costs), (q21, cAI G (p1_ats).toNat (cpO p1_score 60 p1_ats)), (q32, cAI G (p1_ats).toNat (fun _ => 0))] := hw
  refine ri_iconst hx hb dX9_init_37 ?_
  refine lv_istore_n (lv' := [(2, .int (kI 0)), (0, .ref a_t), (1, .ref a_p1)]) hx hb dX9_init_38 rfl hl (by decide) rfl (fun ls hl => ?_)
  refine ri_iconst hx hb dX9_init_39 ?_
  refine lv_istore_n (lv' := [(3, .int (kI 0)), (2, .int (kI 0)), (0, .ref a_t), (1, .ref a_p1)]) hx hb dX9_init_40 rfl hl (by decide) rfl (fun ls hl => ?_)
  exact w_X9_init_b41 cx hlk hr hnm N a_t a_p1 a_p1_score a_p1_good a_p1_bad a_p1_open a_p1_costs p1_ats p1_lines p1_least p1_most p1_faultKind p1_faultPlace p1_toldLines p1_kind p1_start p1_next p1_number p1_score p1_good p1_bad p1_open p1_costs r N q21 q32 hn_nwc21 hn_nw32 0 0 p1_ats 0 (cpO p1_score 60 p1_ats) (fun _ => 0) h _ _ _ hw (lv_sub hl [2, 3, 1, 0] rfl)
def PL_X9_scoresTogether_b4 (p : Program) (l : Launch) (e : Env) (s : State) (m : MethodId) (args : Array Value) (below : List Frame) (meth : Method) (c : Code) (A : Nat → Prop) (G : GG) (S : SM) (x0 : Nat) (r : Int) (kk : Int → Int → Option (Int)) : Prop := ∀ (y1 : Int) (y3 : Int), kk y1 y3 = some r → ∀ (H : Heap) (locs : List Loc) (ls : Array Slot), HP G A s.heap H locs [] → lv_has ls 4 [(0, .ref x0), (1, .long (kL y1)), (3, .int (kI y3))] → W p l e (rmD 1 0 0) s m args below meth c H locs 0 0 (MQ below (QcL G A r []) args s (rmD 1 0 0).cells (rmD 1 0 0).slots A) (F0 m 4 ls [])
set_option maxHeartbeats 4000000 in
set_option maxRecDepth 100000 in
theorem w_X9_scoresTogether_b4 {p : Program} {l : Launch} {e : Env} {s : State} {m : MethodId} {args : Array Value} {below : List Frame} {meth : Method} {c : Code} {A : Nat → Prop} {G : GG} {S : SM} (cx : CX p s m args c cX9_scoresTogether RX9 4 G S A) (hlk : meth.locks = false) (hr : meth.sig.returnType = some .long) (N : Nat) (x0 : Nat) (r : Int) : ∀ n : Nat, PL_X9_scoresTogether_b4 p l e s m args below meth c A G S x0 r (m_X9_scoresTogether_b4 N S x0 n) := by
  intro n
  induction n with
  | zero => intro y1 y3 h; exact nomatch h
  | succ n ih =>
    intro y1 y3 h H locs ls hw hl
    rw [m_X9_scoresTogether_b4] at h
    obtain ⟨⟨hx, hb, -, -, -⟩, -⟩ := id cx
    refine lv_iload_n hx hb dX9_scoresTogether_4 rfl (lv_at hl 2 rfl) ?_
    refine lv_aload_n hx hb dX9_scoresTogether_5 rfl (lv_at hl 0 rfl) ?_
    obtain ⟨g1, h⟩ := gd_some h
    refine rx_size hx hb cx hw g1 fl_X9_13 dX9_scoresTogether_6 ?_
    obtain ⟨g2, h⟩ := gd_some h
    obtain ⟨g3, h⟩ := gd_some h
    refine ri_icmp_ge (tgt := 36) hx hb g2 g3 dX9_scoresTogether_9 (by decide) (fun c4 => ?_) (fun c4 => ?_)
    · have h := it_pos c4 h
      refine lv_lload_n hx hb dX9_scoresTogether_36 rfl (lv_at hl 1 rfl) ?_
      obtain rfl := so_inj h
      exact re_l hx hb hlk hr cx hw (Nat.le_of_ble_eq_true rfl) (Nat.le_of_ble_eq_true rfl) dX9_scoresTogether_37
    · have h := it_neg c4 h
      refine lv_lload_n hx hb dX9_scoresTogether_12 rfl (lv_at hl 1 rfl) ?_
      refine lv_aload_n hx hb dX9_scoresTogether_13 rfl (lv_at hl 0 rfl) ?_
      refine rx_score hx hb cx hw g1 fl_X9_28 dX9_scoresTogether_14 ?_
      refine lv_iload_n hx hb dX9_scoresTogether_17 rfl (lv_at hl 2 rfl) ?_
      obtain ⟨g5, h⟩ := gd_some h
      refine rx_aS hx hb cx hw g1 g5 dX9_scoresTogether_18 ?_
      obtain ⟨g6, h⟩ := gd_some h
      refine ri_i2l hx hb g6 dX9_scoresTogether_19 ?_
      refine lv_aload_n hx hb dX9_scoresTogether_20 rfl (lv_at hl 0 rfl) ?_
      refine rx_cases hx hb cx hw g1 fl_X9_29 dX9_scoresTogether_21 ?_
      refine lv_iload_n hx hb dX9_scoresTogether_24 rfl (lv_at hl 2 rfl) ?_
      refine rx_aC hx hb cx hw g1 g5 dX9_scoresTogether_25 ?_
      obtain ⟨g7, h⟩ := gd_some h
      refine ri_i2l hx hb g7 dX9_scoresTogether_26 ?_
      refine ri_lmul hx hb dX9_scoresTogether_27 ?_
      refine ri_ladd hx hb dX9_scoresTogether_28 ?_
      refine lv_lstore_n (lv' := [(1, .long (kL (y1 + ((smScore S x0 y3) * (smCases S x0 y3))))), (0, .ref x0), (3, .int (kI y3))]) hx hb dX9_scoresTogether_29 rfl hl (by decide) rfl (fun ls hl => ?_)
      refine lv_iinc (v := kI (y3 + 1)) (lv' := [(3, .int (kI (y3 + 1))), (1, .long (kL (y1 + ((smScore S x0 y3) * (smCases S x0 y3))))), (0, .ref x0)]) hx hb dX9_scoresTogether_30 hl (k := 2) rfl (kI_add _ _) (by decide) rfl (fun ls hl => ?_)
      refine lv_goto (tgt := 4) hx hb dX9_scoresTogether_33 (by decide) ?_
      exact ih (y1 + ((smScore S x0 y3) * (smCases S x0 y3))) (y3 + 1) h _ _ _ hw (lv_sub hl [2, 1, 0] rfl)
set_option maxHeartbeats 4000000 in
set_option maxRecDepth 100000 in
theorem c_X9_scoresTogether (l : Launch) (G : GG) (S : SM) (sz : Nat) (N : Nat)  (x0 : Nat) (r : Int) (h : m_X9_scoresTogether N S x0 = some r) : CtL l yX9_scoresTogether cX9_scoresTogether 4 (rmD 1 0 0) G S sz [.ref x0] [] r [] := by
  refine met_L (by decide +kernel) (Nat.le_of_ble_eq_true rfl) ?_
  intro p e s m args below meth c A H locs ls cx hw hr hlk hnm hl
  have hl : lv_has ls 4 [(0, .ref x0)] := hl
  rw [m_X9_scoresTogether] at h
  obtain ⟨⟨hx, hb, -, -, -⟩, -⟩ := id cx
  refine ri_lconst hx hb 0 dX9_scoresTogether_0 rfl ?_
  refine lv_lstore_n (lv' := [(1, .long (kL 0)), (0, .ref x0)]) hx hb dX9_scoresTogether_1 rfl hl (by decide) rfl (fun ls hl => ?_)
  refine ri_iconst hx hb dX9_scoresTogether_2 ?_
  refine lv_istore_n (lv' := [(3, .int (kI 0)), (1, .long (kL 0)), (0, .ref x0)]) hx hb dX9_scoresTogether_3 rfl hl (by decide) rfl (fun ls hl => ?_)
  exact w_X9_scoresTogether_b4 cx hlk hr N x0 r N 0 0 h _ _ _ hw (lv_sub hl [2, 1, 0] rfl)
set_option maxHeartbeats 4000000 in
set_option maxRecDepth 100000 in
theorem c_X10_init (l : Launch) (G : GG) (S : SM) (sz : Nat) (N : Nat) (a_t : Nat)   (r : Int × (Int → UInt64) × (Int → Int) × (Int → UInt64) × (Int → UInt64)) (h : m_X10_init N = some r) : CtVx l yX10_init cX10_init 1 (rmD 1 4 3904) G S sz [.ref a_t] [(a_t, .inr (9, [.null, .null, .null, .null, .int (kI 0)]))] (fun u => [(a_t, .inr (9, [.ref (u 0), .ref (u 1), .ref (u 2), .ref (u 3), .int (kI r.1)])), ((u 0), cAD G 61 r.2.1), ((u 1), cAI G 3721 r.2.2.1), ((u 2), cAD G 61 r.2.2.2.1), ((u 3), cAD G 61 r.2.2.2.2)]) := by
  refine met_Vx (by decide +kernel) (Nat.le_of_ble_eq_true rfl) ?_
  intro p e s m args below meth c A H locs ls cx hw hr hlk hnm hl
  have hl : lv_has ls 1 [(0, .ref a_t)] := hl
  rw [m_X10_init] at h
  obtain ⟨⟨hx, hb, -, -, -⟩, -⟩ := id cx
  refine lv_aload_n hx hb dX10_init_0 rfl (lv_at hl 0 rfl) ?_
  refine ro_init hx hb cx hl.1 jl_X10_3 (Nat.le_of_ble_eq_true rfl) (Nat.le_of_ble_eq_true rfl) dX10_init_1 ?_
  refine lv_aload_n hx hb dX10_init_4 rfl (lv_at hl 0 rfl) ?_
  refine ri_bipush hx hb dX10_init_5 rfl ?_
  refine ra_newD hx hb cx hw ⟨by decide, by decide⟩ (Nat.le_of_ble_eq_true rfl) (Nat.le_of_ble_eq_true rfl) dX10_init_7 (fun q7 H hw => ?_)
  have hw : HP G A s.heap H locs [(a_t, .inr (9, [.null, .null, .null, .null, .int (kI 0)])), (q7, cAD G 61 (fun _ => 0))] := hw
  refine W.widen (k := 1) (n := 61) (Nat.le_of_ble_eq_true rfl) (Nat.le_of_ble_eq_true rfl) ?_
  refine rf_putF hx hb cx hw 0 rfl rfl 0 inX10 tyX10 tyX10_ok nmX10 (by decide) fl_X10_11 rfl rfl hnm rfl rfl (Nat.le_of_ble_eq_true rfl) dX10_init_9 (fun H locs hw => ?_)
  have hw : HP G A s.heap H locs [(a_t, .inr (9, [.ref q7, .null, .null, .null, .int (kI 0)])), (q7, cAD G 61 (fun _ => 0))] := hw
  refine lv_aload_n hx hb dX10_init_12 rfl (lv_at hl 0 rfl) ?_
  refine ri_sipush hx hb dX10_init_13 rfl ?_
  refine ra_newI hx hb cx hw ⟨by decide, by decide⟩ (Nat.le_of_ble_eq_true rfl) (Nat.le_of_ble_eq_true rfl) dX10_init_16 (fun q16 H hw => ?_)
  have hw : HP G A s.heap H locs [(a_t, .inr (9, [.ref q7, .null, .null, .null, .int (kI 0)])), (q7, cAD G 61 (fun _ => 0)), (q16, cAI G 3721 (fun _ => 0))] := hw
  refine W.widen (k := 2) (n := 3782) (Nat.le_of_ble_eq_true rfl) (Nat.le_of_ble_eq_true rfl) ?_
  refine rf_putF hx hb cx hw 0 rfl rfl 1 inX10 tyX10 tyX10_ok nmX10 (by decide) fl_X10_15 rfl rfl hnm rfl rfl (Nat.le_of_ble_eq_true rfl) dX10_init_18 (fun H locs hw => ?_)
  have hw : HP G A s.heap H locs [(a_t, .inr (9, [.ref q7, .ref q16, .null, .null, .int (kI 0)])), (q7, cAD G 61 (fun _ => 0)), (q16, cAI G 3721 (fun _ => 0))] := hw
  refine lv_aload_n hx hb dX10_init_21 rfl (lv_at hl 0 rfl) ?_
  refine ri_bipush hx hb dX10_init_22 rfl ?_
  refine ra_newD hx hb cx hw ⟨by decide, by decide⟩ (Nat.le_of_ble_eq_true rfl) (Nat.le_of_ble_eq_true rfl) dX10_init_24 (fun q24 H hw => ?_)
  have hw : HP G A s.heap H locs [(a_t, .inr (9, [.ref q7, .ref q16, .null, .null, .int (kI 0)])), (q7, cAD G 61 (fun _ => 0)), (q16, cAI G 3721 (fun _ => 0)), (q24, cAD G 61 (fun _ => 0))] := hw
  refine W.widen (k := 3) (n := 3843) (Nat.le_of_ble_eq_true rfl) (Nat.le_of_ble_eq_true rfl) ?_
  refine rf_put hx hb cx hw 0 rfl rfl 2 inX10 tyX10 tyX10_ok nmX10 (by decide) fl_X10_19 rfl rfl rfl rfl (Nat.le_of_ble_eq_true rfl) dX10_init_26 (fun H locs hw => ?_)
  have hw : HP G A s.heap H locs [(a_t, .inr (9, [.ref q7, .ref q16, .ref q24, .null, .int (kI 0)])), (q7, cAD G 61 (fun _ => 0)), (q16, cAI G 3721 (fun _ => 0)), (q24, cAD G 61 (fun _ => 0))] := hw
  refine lv_aload_n hx hb dX10_init_29 rfl (lv_at hl 0 rfl) ?_
  refine ri_bipush hx hb dX10_init_30 rfl ?_
  refine ra_newD hx hb cx hw ⟨by decide, by decide⟩ (Nat.le_of_ble_eq_true rfl) (Nat.le_of_ble_eq_true rfl) dX10_init_32 (fun q32 H hw => ?_)
  have hw : HP G A s.heap H locs [(a_t, .inr (9, [.ref q7, .ref q16, .ref q24, .null, .int (kI 0)])), (q7, cAD G 61 (fun _ => 0)), (q16, cAI G 3721 (fun _ => 0)), (q24, cAD G 61 (fun _ => 0)), (q32, cAD G 61 (fun _ => 0))] := hw
  refine W.widen (k := 4) (n := 3904) (Nat.le_of_ble_eq_true rfl) (Nat.le_of_ble_eq_true rfl) ?_
  refine rf_put hx hb cx hw 0 rfl rfl 3 inX10 tyX10 tyX10_ok nmX10 (by decide) fl_X10_22 rfl rfl rfl rfl (Nat.le_of_ble_eq_true rfl) dX10_init_34 (fun H locs hw => ?_)
  have hw : HP G A s.heap H locs [(a_t, .inr (9, [.ref q7, .ref q16, .ref q24, .ref q32, .int (kI 0)])), (q7, cAD G 61 (fun _ => 0)), (q16, cAI G 3721 (fun _ => 0)), (q24, cAD G 61 (fun _ => 0)), (q32, cAD G 61 (fun _ => 0))] := hw
  obtain rfl := so_inj h
  exact re_vx (fun i => [q7, q16, q24, q32].getD i 0) hx hb hlk hr cx (HP.re hw [0, 1, 2, 3, 4] rfl rfl rfl) (Nat.le_of_ble_eq_true rfl) (Nat.le_of_ble_eq_true rfl) dX10_init_37
set_option maxHeartbeats 4000000 in
set_option maxRecDepth 100000 in
theorem c_X10_clear (l : Launch) (G : GG) (S : SM) (sz : Nat) (N : Nat) (a_t a_t_whole a_t_begins a_t_fewer a_t_told : Nat) (t_runs : Int) (t_whole : Int → UInt64) (t_begins : Int → Int) (t_fewer : Int → UInt64) (t_told : Int → UInt64)  (r : Int) (h : m_X10_clear N t_runs = some r) : CtV l yX10_clear cX10_clear 1 (rmD 1 0 0) G S sz [.ref a_t] [(a_t, .inr (9, [.ref a_t_whole, .ref a_t_begins, .ref a_t_fewer, .ref a_t_told, .int (kI t_runs)])), (a_t_whole, cAD G 61 t_whole), (a_t_begins, cAI G 3721 t_begins), (a_t_fewer, cAD G 61 t_fewer), (a_t_told, cAD G 61 t_told)] [(a_t, .inr (9, [.ref a_t_whole, .ref a_t_begins, .ref a_t_fewer, .ref a_t_told, .int (kI r)])), (a_t_whole, cAD G 61 t_whole), (a_t_begins, cAI G 3721 t_begins), (a_t_fewer, cAD G 61 t_fewer), (a_t_told, cAD G 61 t_told)] := by
  refine met_V (by decide +kernel) (Nat.le_of_ble_eq_true rfl) ?_
  intro p e s m args below meth c A H locs ls cx hw hr hlk hnm hl
  have hl : lv_has ls 1 [(0, .ref a_t)] := hl
  rw [m_X10_clear] at h
  obtain ⟨⟨hx, hb, -, -, -⟩, -⟩ := id cx
  refine lv_aload_n hx hb dX10_clear_0 rfl (lv_at hl 0 rfl) ?_
  refine ri_iconst hx hb dX10_clear_1 ?_
  refine rf_put hx hb cx hw 0 rfl rfl 4 inX10 tyX10 tyX10_ok nmX10 (by decide) fl_X10_25 rfl rfl rfl rfl (Nat.le_of_ble_eq_true rfl) dX10_clear_2 (fun H locs hw => ?_)
  have hw : HP G A s.heap H locs [(a_t, .inr (9, [.ref a_t_whole, .ref a_t_begins, .ref a_t_fewer, .ref a_t_told, .int (kI 0)])), (a_t_whole, cAD G 61 t_whole), (a_t_begins, cAI G 3721 t_begins), (a_t_fewer, cAD G 61 t_fewer), (a_t_told, cAD G 61 t_told)] := hw
  obtain rfl := so_inj h
  exact re_v hx hb hlk hr cx hw (Nat.le_of_ble_eq_true rfl) (Nat.le_of_ble_eq_true rfl) dX10_clear_5
set_option maxHeartbeats 4000000 in
set_option maxRecDepth 100000 in
theorem c_X10_runError (l : Launch) (G : GG) (S : SM) (sz : Nat) (N : Nat) (a_p0 a_p0_score a_p0_good a_p0_bad a_p0_goodAhead a_p0_badAhead : Nat) (p0_size : Int) (p0_score : Int → Int) (p0_good : Int → Int) (p0_bad : Int → Int) (p0_goodAhead : Int → Int) (p0_badAhead : Int → Int) (x1 : Int) (x2 : Int) (r : UInt64) (h : m_X10_runError N p0_goodAhead p0_badAhead x1 x2 = some r) : CtD l yX10_runError cX10_runError 7 (rmD 2 0 0) G S sz [.ref a_p0, .int (kI x1), .int (kI x2)] [(a_p0, .inr (7, [.ref a_p0_score, .ref a_p0_good, .ref a_p0_bad, .ref a_p0_goodAhead, .ref a_p0_badAhead, .int (kI p0_size)])), (a_p0_score, cAI G 60 p0_score), (a_p0_good, cAI G 60 p0_good), (a_p0_bad, cAI G 60 p0_bad), (a_p0_goodAhead, cAI G 61 p0_goodAhead), (a_p0_badAhead, cAI G 61 p0_badAhead)] r [(a_p0, .inr (7, [.ref a_p0_score, .ref a_p0_good, .ref a_p0_bad, .ref a_p0_goodAhead, .ref a_p0_badAhead, .int (kI p0_size)])), (a_p0_score, cAI G 60 p0_score), (a_p0_good, cAI G 60 p0_good), (a_p0_bad, cAI G 60 p0_bad), (a_p0_goodAhead, cAI G 61 p0_goodAhead), (a_p0_badAhead, cAI G 61 p0_badAhead)] := by
  refine met_D (by decide +kernel) (Nat.le_of_ble_eq_true rfl) ?_
  intro p e s m args below meth c A H locs ls cx hw hr hlk hnm hl
  have hl : lv_has ls 7 [(0, .ref a_p0), (1, .int (kI x1)), (2, .int (kI x2))] := hl
  rw [m_X10_runError] at h
  obtain ⟨⟨hx, hb, -, -, -⟩, -⟩ := id cx
  refine lv_aload_n hx hb dX10_runError_0 rfl (lv_at hl 0 rfl) ?_
  refine rf_get hx hb cx hw 0 rfl rfl 3 inX8 (by decide) fl_X10_42 rfl rfl dX10_runError_1 ?_
  refine lv_iload_n hx hb dX10_runError_4 rfl (lv_at hl 2 rfl) ?_
  obtain ⟨g1, h⟩ := gd_some h
  refine ra_i hx hb cx hw 4 rfl (by decide) g1 dX10_runError_5 ?_
  refine lv_aload_n hx hb dX10_runError_6 rfl (lv_at hl 0 rfl) ?_
  refine rf_get hx hb cx hw 0 rfl rfl 3 inX8 (by decide) fl_X10_42 rfl rfl dX10_runError_7 ?_
  refine lv_iload_n hx hb dX10_runError_10 rfl (lv_at hl 1 rfl) ?_
  obtain ⟨g2, h⟩ := gd_some h
  refine ra_i hx hb cx hw 4 rfl (by decide) g2 dX10_runError_11 ?_
  refine ri_isub hx hb dX10_runError_12 ?_
  obtain ⟨g3, h⟩ := gd_some h
  refine ri_i2l hx hb g3 dX10_runError_13 ?_
  refine lv_lstore_n (lv' := [(3, .long (kL ((p0_goodAhead x2) - (p0_goodAhead x1)))), (0, .ref a_p0), (1, .int (kI x1)), (2, .int (kI x2))]) hx hb dX10_runError_14 rfl hl (by decide) rfl (fun ls hl => ?_)
  refine lv_aload_n hx hb dX10_runError_15 rfl (lv_at hl 1 rfl) ?_
  refine rf_get hx hb cx hw 0 rfl rfl 4 inX8 (by decide) fl_X10_45 rfl rfl dX10_runError_16 ?_
  refine lv_iload_n hx hb dX10_runError_19 rfl (lv_at hl 3 rfl) ?_
  refine ra_i hx hb cx hw 5 rfl (by decide) g1 dX10_runError_20 ?_
  refine lv_aload_n hx hb dX10_runError_21 rfl (lv_at hl 1 rfl) ?_
  refine rf_get hx hb cx hw 0 rfl rfl 4 inX8 (by decide) fl_X10_45 rfl rfl dX10_runError_22 ?_
  refine lv_iload_n hx hb dX10_runError_25 rfl (lv_at hl 2 rfl) ?_
  refine ra_i hx hb cx hw 5 rfl (by decide) g2 dX10_runError_26 ?_
  refine ri_isub hx hb dX10_runError_27 ?_
  obtain ⟨g4, h⟩ := gd_some h
  refine ri_i2l hx hb g4 dX10_runError_28 ?_
  refine lv_lstore (lv' := [(5, .long (kL ((p0_badAhead x2) - (p0_badAhead x1)))), (3, .long (kL ((p0_goodAhead x2) - (p0_goodAhead x1)))), (0, .ref a_p0), (1, .int (kI x1)), (2, .int (kI x2))]) hx hb dX10_runError_29 hl (by decide) rfl (fun ls hl => ?_)
  refine lv_lload_n hx hb dX10_runError_31 rfl (lv_at hl 1 rfl) ?_
  refine lv_lload hx hb dX10_runError_32 (lv_at hl 0 rfl) ?_
  refine ri_lmul hx hb dX10_runError_34 ?_
  refine lv_lload_n hx hb dX10_runError_35 rfl (lv_at hl 1 rfl) ?_
  refine lv_lload hx hb dX10_runError_36 (lv_at hl 0 rfl) ?_
  refine ri_ladd hx hb dX10_runError_38 ?_
  obtain ⟨r5, h5, h⟩ := bd_some h
  refine rc_D0 (v := r5) hw [] (rr_S cx hw (c_X5_quotient l G S H.size N (((p0_goodAhead x2) - (p0_goodAhead x1)) * ((p0_badAhead x2) - (p0_badAhead x1))) (((p0_goodAhead x2) - (p0_goodAhead x1)) + ((p0_badAhead x2) - (p0_badAhead x1))) _ h5) mv_X10_48 [] rfl rfl rfl ⟨Nat.le_of_ble_eq_true rfl, Nat.le_of_ble_eq_true rfl⟩ rfl hl.1 rfl (Nat.le_of_ble_eq_true rfl) dX10_runError_39 ⟨Nat.le_of_ble_eq_true rfl, Nat.le_of_ble_eq_true rfl⟩) rfl rfl (fun H locs hw => ?_)
  obtain rfl := so_inj h
  exact re_d hx hb hlk hr cx hw (Nat.le_of_ble_eq_true rfl) (Nat.le_of_ble_eq_true rfl) dX10_runError_42
def PL_X10_tellFor_b59 (p : Program) (l : Launch) (e : Env) (s : State) (m : MethodId) (args : Array Value) (below : List Frame) (meth : Method) (c : Code) (A : Nat → Prop) (G : GG) (S : SM) (a_t a_t_whole a_t_begins a_t_fewer a_t_told a_p1 a_p1_score a_p1_good a_p1_bad a_p1_goodAhead a_p1_badAhead : Nat) (t_runs : Int) (t_whole : Int → UInt64) (t_fewer : Int → UInt64) (p1_size : Int) (p1_score : Int → Int) (p1_good : Int → Int) (p1_bad : Int → Int) (p1_goodAhead : Int → Int) (p1_badAhead : Int → Int) (x2 : Int) (t_begins : Int → Int) (t_told : Int → UInt64) (r : (Int → Int) × (Int → UInt64)) (kk : Int → UInt64 → Int → Option ((Int → Int) × (Int → UInt64))) : Prop := ∀ (y3 : Int) (y4 : UInt64) (y6 : Int), kk y3 y4 y6 = some r → ∀ (H : Heap) (locs : List Loc) (ls : Array Slot), HP G A s.heap H locs [(a_t, .inr (9, [.ref a_t_whole, .ref a_t_begins, .ref a_t_fewer, .ref a_t_told, .int (kI t_runs)])), (a_t_whole, cAD G 61 t_whole), (a_t_begins, cAI G 3721 t_begins), (a_t_fewer, cAD G 61 t_fewer), (a_t_told, cAD G 61 t_told), (a_p1, .inr (7, [.ref a_p1_score, .ref a_p1_good, .ref a_p1_bad, .ref a_p1_goodAhead, .ref a_p1_badAhead, .int (kI p1_size)])), (a_p1_score, cAI G 60 p1_score), (a_p1_good, cAI G 60 p1_good), (a_p1_bad, cAI G 60 p1_bad), (a_p1_goodAhead, cAI G 61 p1_goodAhead), (a_p1_badAhead, cAI G 61 p1_badAhead)] → lv_has ls 9 [(0, .ref a_t), (1, .ref a_p1), (2, .int (kI x2)), (3, .int (kI y3)), (4, .double y4), (6, .int (kI y6))] → W p l e (rmD 3 0 0) s m args below meth c H locs 0 0 (MQ below (QcV G A [(a_t, .inr (9, [.ref a_t_whole, .ref a_t_begins, .ref a_t_fewer, .ref a_t_told, .int (kI t_runs)])), (a_t_whole, cAD G 61 t_whole), (a_t_begins, cAI G 3721 r.1), (a_t_fewer, cAD G 61 t_fewer), (a_t_told, cAD G 61 r.2), (a_p1, .inr (7, [.ref a_p1_score, .ref a_p1_good, .ref a_p1_bad, .ref a_p1_goodAhead, .ref a_p1_badAhead, .int (kI p1_size)])), (a_p1_score, cAI G 60 p1_score), (a_p1_good, cAI G 60 p1_good), (a_p1_bad, cAI G 60 p1_bad), (a_p1_goodAhead, cAI G 61 p1_goodAhead), (a_p1_badAhead, cAI G 61 p1_badAhead)]) args s (rmD 3 0 0).cells (rmD 3 0 0).slots A) (F0 m 59 ls [])
set_option maxHeartbeats 4000000 in
set_option maxRecDepth 100000 in
theorem w_X10_tellFor_b97 {p : Program} {l : Launch} {e : Env} {s : State} {m : MethodId} {args : Array Value} {below : List Frame} {meth : Method} {c : Code} {A : Nat → Prop} {G : GG} {S : SM} (cx : CX p s m args c cX10_tellFor RX10 9 G S A) (hlk : meth.locks = false) (hr : meth.sig.returnType = none) (N : Nat) (a_t a_t_whole a_t_begins a_t_fewer a_t_told a_p1 a_p1_score a_p1_good a_p1_bad a_p1_goodAhead a_p1_badAhead : Nat) (t_runs : Int) (t_whole : Int → UInt64) (t_fewer : Int → UInt64) (p1_size : Int) (p1_score : Int → Int) (p1_good : Int → Int) (p1_bad : Int → Int) (p1_goodAhead : Int → Int) (p1_badAhead : Int → Int) (x2 : Int) (t_begins : Int → Int) (t_told : Int → UInt64) (r : (Int → Int) × (Int → UInt64)) (k59 : Int → UInt64 → Int → Option ((Int → Int) × (Int → UInt64))) (hk59 : PL_X10_tellFor_b59 p l e s m args below meth c A G S a_t a_t_whole a_t_begins a_t_fewer a_t_told a_p1 a_p1_score a_p1_good a_p1_bad a_p1_goodAhead a_p1_badAhead t_runs t_whole t_fewer p1_size p1_score p1_good p1_bad p1_goodAhead p1_badAhead x2 t_begins t_told r k59) : ∀ (y3 : Int) (y4 : UInt64) (y6 : Int), m_X10_tellFor_b97 N t_runs t_fewer p1_goodAhead p1_badAhead x2 t_begins t_told k59 y3 y4 y6 = some r → ∀ (H : Heap) (locs : List Loc) (ls : Array Slot), HP G A s.heap H locs [(a_t, .inr (9, [.ref a_t_whole, .ref a_t_begins, .ref a_t_fewer, .ref a_t_told, .int (kI t_runs)])), (a_t_whole, cAD G 61 t_whole), (a_t_begins, cAI G 3721 t_begins), (a_t_fewer, cAD G 61 t_fewer), (a_t_told, cAD G 61 t_told), (a_p1, .inr (7, [.ref a_p1_score, .ref a_p1_good, .ref a_p1_bad, .ref a_p1_goodAhead, .ref a_p1_badAhead, .int (kI p1_size)])), (a_p1_score, cAI G 60 p1_score), (a_p1_good, cAI G 60 p1_good), (a_p1_bad, cAI G 60 p1_bad), (a_p1_goodAhead, cAI G 61 p1_goodAhead), (a_p1_badAhead, cAI G 61 p1_badAhead)] → lv_has ls 9 [(0, .ref a_t), (1, .ref a_p1), (2, .int (kI x2)), (3, .int (kI y3)), (4, .double y4), (6, .int (kI y6))] → W p l e (rmD 3 0 0) s m args below meth c H locs 0 0 (MQ below (QcV G A [(a_t, .inr (9, [.ref a_t_whole, .ref a_t_begins, .ref a_t_fewer, .ref a_t_told, .int (kI t_runs)])), (a_t_whole, cAD G 61 t_whole), (a_t_begins, cAI G 3721 r.1), (a_t_fewer, cAD G 61 t_fewer), (a_t_told, cAD G 61 r.2), (a_p1, .inr (7, [.ref a_p1_score, .ref a_p1_good, .ref a_p1_bad, .ref a_p1_goodAhead, .ref a_p1_badAhead, .int (kI p1_size)])), (a_p1_score, cAI G 60 p1_score), (a_p1_good, cAI G 60 p1_good), (a_p1_bad, cAI G 60 p1_bad), (a_p1_goodAhead, cAI G 61 p1_goodAhead), (a_p1_badAhead, cAI G 61 p1_badAhead)]) args s (rmD 3 0 0).cells (rmD 3 0 0).slots A) (F0 m 97 ls []) := by
  intro y3 y4 y6 h H locs ls hw hl
  rw [m_X10_tellFor_b97] at h
  obtain ⟨⟨hx, hb, -, -, -⟩, -⟩ := id cx
  refine lv_iinc (v := kI (y6 + 1)) (lv' := [(6, .int (kI (y6 + 1))), (0, .ref a_t), (1, .ref a_p1), (2, .int (kI x2)), (3, .int (kI y3)), (4, .double y4)]) hx hb dX10_tellFor_97 hl (k := 5) rfl (kI_add _ _) (by decide) rfl (fun ls hl => ?_)
  refine lv_goto (tgt := 59) hx hb dX10_tellFor_100 (by decide) ?_
  exact hk59 y3 y4 (y6 + 1) h _ _ _ hw (lv_sub hl [1, 2, 3, 4, 5, 0] rfl)
set_option maxHeartbeats 4000000 in
set_option maxRecDepth 100000 in
theorem w_X10_tellFor_b59 {p : Program} {l : Launch} {e : Env} {s : State} {m : MethodId} {args : Array Value} {below : List Frame} {meth : Method} {c : Code} {A : Nat → Prop} {G : GG} {S : SM} (cx : CX p s m args c cX10_tellFor RX10 9 G S A) (hlk : meth.locks = false) (hr : meth.sig.returnType = none) (N : Nat) (a_t a_t_whole a_t_begins a_t_fewer a_t_told a_p1 a_p1_score a_p1_good a_p1_bad a_p1_goodAhead a_p1_badAhead : Nat) (t_runs : Int) (t_whole : Int → UInt64) (t_fewer : Int → UInt64) (p1_size : Int) (p1_score : Int → Int) (p1_good : Int → Int) (p1_bad : Int → Int) (p1_goodAhead : Int → Int) (p1_badAhead : Int → Int) (x2 : Int) (t_begins : Int → Int) (t_told : Int → UInt64) (r : (Int → Int) × (Int → UInt64)) : ∀ n : Nat, PL_X10_tellFor_b59 p l e s m args below meth c A G S a_t a_t_whole a_t_begins a_t_fewer a_t_told a_p1 a_p1_score a_p1_good a_p1_bad a_p1_goodAhead a_p1_badAhead t_runs t_whole t_fewer p1_size p1_score p1_good p1_bad p1_goodAhead p1_badAhead x2 t_begins t_told r (m_X10_tellFor_b59 N t_runs t_fewer p1_goodAhead p1_badAhead x2 t_begins t_told n) := by
  intro n
  induction n with
  | zero => intro y3 y4 y6 h; exact nomatch h
  | succ n ih =>
    intro y3 y4 y6 h H locs ls hw hl
    rw [m_X10_tellFor_b59] at h
    obtain ⟨⟨hx, hb, -, -, -⟩, -⟩ := id cx
    refine lv_iload hx hb dX10_tellFor_59 (lv_at hl 5 rfl) ?_
    refine lv_iload_n hx hb dX10_tellFor_61 rfl (lv_at hl 2 rfl) ?_
    obtain ⟨g1, h⟩ := gd_some h
    obtain ⟨g2, h⟩ := gd_some h
    refine ri_icmp_ge (tgt := 103) hx hb g1 g2 dX10_tellFor_62 (by decide) (fun c3 => ?_) (fun c3 => ?_)
    · have h := it_pos c3 h
      refine lv_aload_n hx hb dX10_tellFor_103 rfl (lv_at hl 0 rfl) ?_
      refine rf_get hx hb cx hw 0 rfl rfl 3 inX10 (by decide) fl_X10_22 rfl rfl dX10_tellFor_104 ?_
      refine lv_iload_n hx hb dX10_tellFor_107 rfl (lv_at hl 2 rfl) ?_
      refine lv_dload hx hb dX10_tellFor_108 (lv_at hl 4 rfl) ?_
      obtain ⟨g4, h⟩ := gd_some h
      refine ra_sd hx hb cx hw 4 rfl (by decide) g4 dX10_tellFor_110 (fun H locs hw => ?_)
      have hw : HP G A s.heap H locs [(a_t, .inr (9, [.ref a_t_whole, .ref a_t_begins, .ref a_t_fewer, .ref a_t_told, .int (kI t_runs)])), (a_t_whole, cAD G 61 t_whole), (a_t_begins, cAI G 3721 t_begins), (a_t_fewer, cAD G 61 t_fewer), (a_t_told, cAD G 61 (uP t_told x2 y4)), (a_p1, .inr (7, [.ref a_p1_score, .ref a_p1_good, .ref a_p1_bad, .ref a_p1_goodAhead, .ref a_p1_badAhead, .int (kI p1_size)])), (a_p1_score, cAI G 60 p1_score), (a_p1_good, cAI G 60 p1_good), (a_p1_bad, cAI G 60 p1_bad), (a_p1_goodAhead, cAI G 61 p1_goodAhead), (a_p1_badAhead, cAI G 61 p1_badAhead)] := hw
      refine lv_aload_n hx hb dX10_tellFor_111 rfl (lv_at hl 0 rfl) ?_
      refine rf_get hx hb cx hw 0 rfl rfl 1 inX10 (by decide) fl_X10_15 rfl rfl dX10_tellFor_112 ?_
      refine lv_aload_n hx hb dX10_tellFor_115 rfl (lv_at hl 0 rfl) ?_
      refine rf_get hx hb cx hw 0 rfl rfl 4 inX10 (by decide) fl_X10_25 rfl rfl dX10_tellFor_116 ?_
      refine ri_bipush hx hb dX10_tellFor_119 rfl ?_
      refine ri_imul hx hb dX10_tellFor_121 ?_
      refine lv_iload_n hx hb dX10_tellFor_122 rfl (lv_at hl 2 rfl) ?_
      refine ri_iadd hx hb dX10_tellFor_123 ?_
      refine lv_iload_n hx hb dX10_tellFor_124 rfl (lv_at hl 3 rfl) ?_
      obtain ⟨g5, h⟩ := gd_some h
      refine ra_si hx hb cx hw 2 rfl (by decide) g5 dX10_tellFor_125 (fun H locs hw => ?_)
      have hw : HP G A s.heap H locs [(a_t, .inr (9, [.ref a_t_whole, .ref a_t_begins, .ref a_t_fewer, .ref a_t_told, .int (kI t_runs)])), (a_t_whole, cAD G 61 t_whole), (a_t_begins, cAI G 3721 (uP t_begins ((t_runs * 61) + x2) y3)), (a_t_fewer, cAD G 61 t_fewer), (a_t_told, cAD G 61 (uP t_told x2 y4)), (a_p1, .inr (7, [.ref a_p1_score, .ref a_p1_good, .ref a_p1_bad, .ref a_p1_goodAhead, .ref a_p1_badAhead, .int (kI p1_size)])), (a_p1_score, cAI G 60 p1_score), (a_p1_good, cAI G 60 p1_good), (a_p1_bad, cAI G 60 p1_bad), (a_p1_goodAhead, cAI G 61 p1_goodAhead), (a_p1_badAhead, cAI G 61 p1_badAhead)] := hw
      obtain rfl := so_inj h
      exact re_v hx hb hlk hr cx hw (Nat.le_of_ble_eq_true rfl) (Nat.le_of_ble_eq_true rfl) dX10_tellFor_126
    · have h := it_neg c3 h
      refine lv_aload_n hx hb dX10_tellFor_65 rfl (lv_at hl 0 rfl) ?_
      refine rf_get hx hb cx hw 0 rfl rfl 2 inX10 (by decide) fl_X10_19 rfl rfl dX10_tellFor_66 ?_
      refine lv_iload hx hb dX10_tellFor_69 (lv_at hl 5 rfl) ?_
      obtain ⟨g6, h⟩ := gd_some h
      refine ra_d hx hb cx hw 3 rfl (by decide) g6 dX10_tellFor_71 ?_
      refine lv_aload_n hx hb dX10_tellFor_72 rfl (lv_at hl 1 rfl) ?_
      refine lv_iload hx hb dX10_tellFor_73 (lv_at hl 5 rfl) ?_
      refine lv_iload_n hx hb dX10_tellFor_75 rfl (lv_at hl 2 rfl) ?_
      obtain ⟨r7, h7, h⟩ := bd_some h
      refine rc_D0 (v := r7) hw [5, 6, 7, 8, 9, 10] (rr_S cx hw (c_X10_runError l G S H.size N a_p1 a_p1_score a_p1_good a_p1_bad a_p1_goodAhead a_p1_badAhead p1_size p1_score p1_good p1_bad p1_goodAhead p1_badAhead y6 x2 _ h7) mv_X10_38 [5, 6, 7, 8, 9, 10] rfl rfl rfl ⟨Nat.le_of_ble_eq_true rfl, Nat.le_of_ble_eq_true rfl⟩ rfl hl.1 rfl (Nat.le_of_ble_eq_true rfl) dX10_tellFor_76 ⟨Nat.le_of_ble_eq_true rfl, Nat.le_of_ble_eq_true rfl⟩) rfl rfl (fun H locs hw => ?_)
      obtain ⟨g8, h⟩ := gd_some h
      refine lv_dadd hx hb dX10_tellFor_79 g8 ?_
      refine lv_dstore (lv' := [(7, .double (FP.dadd (t_fewer y6) r7)), (0, .ref a_t), (1, .ref a_p1), (2, .int (kI x2)), (3, .int (kI y3)), (4, .double y4), (6, .int (kI y6))]) hx hb dX10_tellFor_80 hl (by decide) rfl (fun ls hl => ?_)
      refine lv_dload hx hb dX10_tellFor_82 (lv_at hl 0 rfl) ?_
      refine lv_dload hx hb dX10_tellFor_84 (lv_at hl 5 rfl) ?_
      refine ri_dcmp hx hb dX10_tellFor_86 ?_
      refine ri_if_ge (tgt := 97) hx hb (dcV_r _ _ _) dX10_tellFor_87 (by decide) (fun c9 => ?_) (fun c9 => ?_)
      · have h := it_pos c9 h
        exact w_X10_tellFor_b97 cx hlk hr N a_t a_t_whole a_t_begins a_t_fewer a_t_told a_p1 a_p1_score a_p1_good a_p1_bad a_p1_goodAhead a_p1_badAhead t_runs t_whole t_fewer p1_size p1_score p1_good p1_bad p1_goodAhead p1_badAhead x2 t_begins t_told r (m_X10_tellFor_b59 N t_runs t_fewer p1_goodAhead p1_badAhead x2 t_begins t_told n) ih y3 y4 y6 h _ _ _ hw (lv_sub hl [1, 2, 3, 4, 5, 6] rfl)
      · have h := it_neg c9 h
        refine lv_dload hx hb dX10_tellFor_90 (lv_at hl 0 rfl) ?_
        refine lv_dstore (lv' := [(4, .double (FP.dadd (t_fewer y6) r7)), (7, .double (FP.dadd (t_fewer y6) r7)), (0, .ref a_t), (1, .ref a_p1), (2, .int (kI x2)), (3, .int (kI y3)), (6, .int (kI y6))]) hx hb dX10_tellFor_92 hl (by decide) rfl (fun ls hl => ?_)
        refine lv_iload hx hb dX10_tellFor_94 (lv_at hl 6 rfl) ?_
        refine lv_istore_n (lv' := [(3, .int (kI y6)), (4, .double (FP.dadd (t_fewer y6) r7)), (7, .double (FP.dadd (t_fewer y6) r7)), (0, .ref a_t), (1, .ref a_p1), (2, .int (kI x2)), (6, .int (kI y6))]) hx hb dX10_tellFor_96 rfl hl (by decide) rfl (fun ls hl => ?_)
        exact w_X10_tellFor_b97 cx hlk hr N a_t a_t_whole a_t_begins a_t_fewer a_t_told a_p1 a_p1_score a_p1_good a_p1_bad a_p1_goodAhead a_p1_badAhead t_runs t_whole t_fewer p1_size p1_score p1_good p1_bad p1_goodAhead p1_badAhead x2 t_begins t_told r (m_X10_tellFor_b59 N t_runs t_fewer p1_goodAhead p1_badAhead x2 t_begins t_told n) ih y6 (FP.dadd (t_fewer y6) r7) y6 h _ _ _ hw (lv_sub hl [3, 4, 5, 0, 1, 6] rfl)
set_option maxHeartbeats 4000000 in
set_option maxRecDepth 100000 in
theorem c_X10_tellFor (l : Launch) (G : GG) (S : SM) (sz : Nat) (N : Nat) (a_t a_t_whole a_t_begins a_t_fewer a_t_told a_p1 a_p1_score a_p1_good a_p1_bad a_p1_goodAhead a_p1_badAhead : Nat) (t_runs : Int) (t_whole : Int → UInt64) (t_begins : Int → Int) (t_fewer : Int → UInt64) (t_told : Int → UInt64) (p1_size : Int) (p1_score : Int → Int) (p1_good : Int → Int) (p1_bad : Int → Int) (p1_goodAhead : Int → Int) (p1_badAhead : Int → Int) (x2 : Int) (r : (Int → Int) × (Int → UInt64)) (h : m_X10_tellFor N t_runs t_fewer p1_goodAhead p1_badAhead t_begins t_told x2 = some r) : CtV l yX10_tellFor cX10_tellFor 9 (rmD 3 0 0) G S sz [.ref a_t, .ref a_p1, .int (kI x2)] [(a_t, .inr (9, [.ref a_t_whole, .ref a_t_begins, .ref a_t_fewer, .ref a_t_told, .int (kI t_runs)])), (a_t_whole, cAD G 61 t_whole), (a_t_begins, cAI G 3721 t_begins), (a_t_fewer, cAD G 61 t_fewer), (a_t_told, cAD G 61 t_told), (a_p1, .inr (7, [.ref a_p1_score, .ref a_p1_good, .ref a_p1_bad, .ref a_p1_goodAhead, .ref a_p1_badAhead, .int (kI p1_size)])), (a_p1_score, cAI G 60 p1_score), (a_p1_good, cAI G 60 p1_good), (a_p1_bad, cAI G 60 p1_bad), (a_p1_goodAhead, cAI G 61 p1_goodAhead), (a_p1_badAhead, cAI G 61 p1_badAhead)] [(a_t, .inr (9, [.ref a_t_whole, .ref a_t_begins, .ref a_t_fewer, .ref a_t_told, .int (kI t_runs)])), (a_t_whole, cAD G 61 t_whole), (a_t_begins, cAI G 3721 r.1), (a_t_fewer, cAD G 61 t_fewer), (a_t_told, cAD G 61 r.2), (a_p1, .inr (7, [.ref a_p1_score, .ref a_p1_good, .ref a_p1_bad, .ref a_p1_goodAhead, .ref a_p1_badAhead, .int (kI p1_size)])), (a_p1_score, cAI G 60 p1_score), (a_p1_good, cAI G 60 p1_good), (a_p1_bad, cAI G 60 p1_bad), (a_p1_goodAhead, cAI G 61 p1_goodAhead), (a_p1_badAhead, cAI G 61 p1_badAhead)] := by
  refine met_V (by decide +kernel) (Nat.le_of_ble_eq_true rfl) ?_
  intro p e s m args below meth c A H locs ls cx hw hr hlk hnm hl
  have hl : lv_has ls 9 [(0, .ref a_t), (1, .ref a_p1), (2, .int (kI x2))] := hl
  rw [m_X10_tellFor] at h
  obtain ⟨⟨hx, hb, -, -, -⟩, -⟩ := id cx
  refine lv_aload_n hx hb dX10_tellFor_0 rfl (lv_at hl 0 rfl) ?_
  refine rf_get hx hb cx hw 0 rfl rfl 4 inX10 (by decide) fl_X10_25 rfl rfl dX10_tellFor_1 ?_
  refine ri_iconst hx hb dX10_tellFor_4 ?_
  obtain ⟨g1, h⟩ := gd_some h
  refine ri_icmp_ne (tgt := 31) hx hb g1 ⟨by decide, by decide⟩ dX10_tellFor_5 (by decide) (fun c2 => ?_) (fun c2 => ?_)
  · have h := it_pos c2 h
    refine lv_aload_n hx hb dX10_tellFor_8 rfl (lv_at hl 0 rfl) ?_
    refine rf_get hx hb cx hw 0 rfl rfl 3 inX10 (by decide) fl_X10_22 rfl rfl dX10_tellFor_9 ?_
    refine lv_iload_n hx hb dX10_tellFor_12 rfl (lv_at hl 2 rfl) ?_
    refine lv_aload_n hx hb dX10_tellFor_13 rfl (lv_at hl 1 rfl) ?_
    refine ri_iconst hx hb dX10_tellFor_14 ?_
    refine lv_iload_n hx hb dX10_tellFor_15 rfl (lv_at hl 2 rfl) ?_
    obtain ⟨r3, h3, h⟩ := bd_some h
    refine rc_D0 (v := r3) hw [5, 6, 7, 8, 9, 10] (rr_S cx hw (c_X10_runError l G S H.size N a_p1 a_p1_score a_p1_good a_p1_bad a_p1_goodAhead a_p1_badAhead p1_size p1_score p1_good p1_bad p1_goodAhead p1_badAhead 0 x2 _ h3) mv_X10_38 [5, 6, 7, 8, 9, 10] rfl rfl rfl ⟨Nat.le_of_ble_eq_true rfl, Nat.le_of_ble_eq_true rfl⟩ rfl hl.1 rfl (Nat.le_of_ble_eq_true rfl) dX10_tellFor_16 ⟨Nat.le_of_ble_eq_true rfl, Nat.le_of_ble_eq_true rfl⟩) rfl rfl (fun H locs hw => ?_)
    obtain ⟨g4, h⟩ := gd_some h
    refine ra_sd hx hb cx hw 4 rfl (by decide) g4 dX10_tellFor_19 (fun H locs hw => ?_)
    have hw : HP G A s.heap H locs [(a_t, .inr (9, [.ref a_t_whole, .ref a_t_begins, .ref a_t_fewer, .ref a_t_told, .int (kI t_runs)])), (a_t_whole, cAD G 61 t_whole), (a_t_begins, cAI G 3721 t_begins), (a_t_fewer, cAD G 61 t_fewer), (a_t_told, cAD G 61 (uP t_told x2 r3)), (a_p1, .inr (7, [.ref a_p1_score, .ref a_p1_good, .ref a_p1_bad, .ref a_p1_goodAhead, .ref a_p1_badAhead, .int (kI p1_size)])), (a_p1_score, cAI G 60 p1_score), (a_p1_good, cAI G 60 p1_good), (a_p1_bad, cAI G 60 p1_bad), (a_p1_goodAhead, cAI G 61 p1_goodAhead), (a_p1_badAhead, cAI G 61 p1_badAhead)] := hw
    refine lv_aload_n hx hb dX10_tellFor_20 rfl (lv_at hl 0 rfl) ?_
    refine rf_get hx hb cx hw 0 rfl rfl 1 inX10 (by decide) fl_X10_15 rfl rfl dX10_tellFor_21 ?_
    refine ri_bipush hx hb dX10_tellFor_24 rfl ?_
    refine lv_iload_n hx hb dX10_tellFor_26 rfl (lv_at hl 2 rfl) ?_
    refine ri_iadd hx hb dX10_tellFor_27 ?_
    refine ri_iconst hx hb dX10_tellFor_28 ?_
    obtain ⟨g5, h⟩ := gd_some h
    refine ra_si hx hb cx hw 2 rfl (by decide) g5 dX10_tellFor_29 (fun H locs hw => ?_)
    have hw : HP G A s.heap H locs [(a_t, .inr (9, [.ref a_t_whole, .ref a_t_begins, .ref a_t_fewer, .ref a_t_told, .int (kI t_runs)])), (a_t_whole, cAD G 61 t_whole), (a_t_begins, cAI G 3721 (uP t_begins (61 + x2) 0)), (a_t_fewer, cAD G 61 t_fewer), (a_t_told, cAD G 61 (uP t_told x2 r3)), (a_p1, .inr (7, [.ref a_p1_score, .ref a_p1_good, .ref a_p1_bad, .ref a_p1_goodAhead, .ref a_p1_badAhead, .int (kI p1_size)])), (a_p1_score, cAI G 60 p1_score), (a_p1_good, cAI G 60 p1_good), (a_p1_bad, cAI G 60 p1_bad), (a_p1_goodAhead, cAI G 61 p1_goodAhead), (a_p1_badAhead, cAI G 61 p1_badAhead)] := hw
    obtain rfl := so_inj h
    exact re_v hx hb hlk hr cx hw (Nat.le_of_ble_eq_true rfl) (Nat.le_of_ble_eq_true rfl) dX10_tellFor_30
  · have h := it_neg c2 h
    refine lv_aload_n hx hb dX10_tellFor_31 rfl (lv_at hl 0 rfl) ?_
    refine rf_get hx hb cx hw 0 rfl rfl 4 inX10 (by decide) fl_X10_25 rfl rfl dX10_tellFor_32 ?_
    refine ri_iconst hx hb dX10_tellFor_35 ?_
    refine ri_isub hx hb dX10_tellFor_36 ?_
    refine lv_istore_n (lv' := [(3, .int (kI (t_runs - 1))), (0, .ref a_t), (1, .ref a_p1), (2, .int (kI x2))]) hx hb dX10_tellFor_37 rfl hl (by decide) rfl (fun ls hl => ?_)
    refine lv_aload_n hx hb dX10_tellFor_38 rfl (lv_at hl 1 rfl) ?_
    refine rf_get hx hb cx hw 0 rfl rfl 2 inX10 (by decide) fl_X10_19 rfl rfl dX10_tellFor_39 ?_
    refine lv_iload_n hx hb dX10_tellFor_42 rfl (lv_at hl 0 rfl) ?_
    obtain ⟨g6, h⟩ := gd_some h
    refine ra_d hx hb cx hw 3 rfl (by decide) g6 dX10_tellFor_43 ?_
    refine lv_aload_n hx hb dX10_tellFor_44 rfl (lv_at hl 2 rfl) ?_
    refine lv_iload_n hx hb dX10_tellFor_45 rfl (lv_at hl 0 rfl) ?_
    refine lv_iload_n hx hb dX10_tellFor_46 rfl (lv_at hl 3 rfl) ?_
    obtain ⟨r7, h7, h⟩ := bd_some h
    refine rc_D0 (v := r7) hw [5, 6, 7, 8, 9, 10] (rr_S cx hw (c_X10_runError l G S H.size N a_p1 a_p1_score a_p1_good a_p1_bad a_p1_goodAhead a_p1_badAhead p1_size p1_score p1_good p1_bad p1_goodAhead p1_badAhead (t_runs - 1) x2 _ h7) mv_X10_38 [5, 6, 7, 8, 9, 10] rfl rfl rfl ⟨Nat.le_of_ble_eq_true rfl, Nat.le_of_ble_eq_true rfl⟩ rfl hl.1 rfl (Nat.le_of_ble_eq_true rfl) dX10_tellFor_47 ⟨Nat.le_of_ble_eq_true rfl, Nat.le_of_ble_eq_true rfl⟩) rfl rfl (fun H locs hw => ?_)
    obtain ⟨g8, h⟩ := gd_some h
    refine lv_dadd hx hb dX10_tellFor_50 g8 ?_
    refine lv_dstore (lv' := [(4, .double (FP.dadd (t_fewer (t_runs - 1)) r7)), (3, .int (kI (t_runs - 1))), (0, .ref a_t), (1, .ref a_p1), (2, .int (kI x2))]) hx hb dX10_tellFor_51 hl (by decide) rfl (fun ls hl => ?_)
    refine lv_aload_n hx hb dX10_tellFor_53 rfl (lv_at hl 2 rfl) ?_
    refine rf_get hx hb cx hw 0 rfl rfl 4 inX10 (by decide) fl_X10_25 rfl rfl dX10_tellFor_54 ?_
    refine lv_istore (lv' := [(6, .int (kI t_runs)), (4, .double (FP.dadd (t_fewer (t_runs - 1)) r7)), (3, .int (kI (t_runs - 1))), (0, .ref a_t), (1, .ref a_p1), (2, .int (kI x2))]) hx hb dX10_tellFor_57 hl (by decide) rfl (fun ls hl => ?_)
    exact w_X10_tellFor_b59 cx hlk hr N a_t a_t_whole a_t_begins a_t_fewer a_t_told a_p1 a_p1_score a_p1_good a_p1_bad a_p1_goodAhead a_p1_badAhead t_runs t_whole t_fewer p1_size p1_score p1_good p1_bad p1_goodAhead p1_badAhead x2 t_begins t_told r N (t_runs - 1) (FP.dadd (t_fewer (t_runs - 1)) r7) t_runs h _ _ _ hw (lv_sub hl [3, 4, 5, 2, 1, 0] rfl)
def PL_X10_reach_b53 (p : Program) (l : Launch) (e : Env) (s : State) (m : MethodId) (args : Array Value) (below : List Frame) (meth : Method) (c : Code) (A : Nat → Prop) (G : GG) (S : SM) (a_t a_t_whole a_t_begins a_p1 a_p1_score a_p1_good a_p1_bad a_p1_goodAhead a_p1_badAhead : Nat) (p1_size : Int) (p1_score : Int → Int) (p1_good : Int → Int) (p1_bad : Int → Int) (p1_goodAhead : Int → Int) (p1_badAhead : Int → Int) (x2 : Int) (t_runs : Int) (t_whole : Int → UInt64) (r : Int × (Int → UInt64) × (Int → Int) × (Int → UInt64) × (Int → UInt64)) (kk : (Int → Int) → (Int → UInt64) → (Int → UInt64) → Int → Option (Int × (Int → UInt64) × (Int → Int) × (Int → UInt64) × (Int → UInt64))) : Prop := ∀ (a_t_fewer : Nat) (a_t_told : Nat) (t_begins : Int → Int) (t_fewer : Int → UInt64) (t_told : Int → UInt64) (y4 : Int), kk t_begins t_fewer t_told y4 = some r → ∀ (H : Heap) (locs : List Loc) (ls : Array Slot), HP G A s.heap H locs [(a_t, .inr (9, [.ref a_t_whole, .ref a_t_begins, .ref a_t_fewer, .ref a_t_told, .int (kI t_runs)])), (a_t_whole, cAD G 61 t_whole), (a_t_begins, cAI G 3721 t_begins), (a_t_fewer, cAD G 61 t_fewer), (a_t_told, cAD G 61 t_told), (a_p1, .inr (7, [.ref a_p1_score, .ref a_p1_good, .ref a_p1_bad, .ref a_p1_goodAhead, .ref a_p1_badAhead, .int (kI p1_size)])), (a_p1_score, cAI G 60 p1_score), (a_p1_good, cAI G 60 p1_good), (a_p1_bad, cAI G 60 p1_bad), (a_p1_goodAhead, cAI G 61 p1_goodAhead), (a_p1_badAhead, cAI G 61 p1_badAhead)] → lv_has ls 5 [(0, .ref a_t), (1, .ref a_p1), (2, .int (kI x2)), (4, .int (kI y4))] → W p l e (rmD 4 0 0) s m args below meth c H locs 0 0 (MQ below (QcVx G A (fun u => [(a_t, .inr (9, [.ref a_t_whole, .ref a_t_begins, .ref (u 0), .ref (u 1), .int (kI r.1)])), (a_t_whole, cAD G 61 r.2.1), (a_t_begins, cAI G 3721 r.2.2.1), ((u 0), cAD G 61 r.2.2.2.1), ((u 1), cAD G 61 r.2.2.2.2), (a_p1, .inr (7, [.ref a_p1_score, .ref a_p1_good, .ref a_p1_bad, .ref a_p1_goodAhead, .ref a_p1_badAhead, .int (kI p1_size)])), (a_p1_score, cAI G 60 p1_score), (a_p1_good, cAI G 60 p1_good), (a_p1_bad, cAI G 60 p1_bad), (a_p1_goodAhead, cAI G 61 p1_goodAhead), (a_p1_badAhead, cAI G 61 p1_badAhead)])) args s (rmD 4 0 0).cells (rmD 4 0 0).slots A) (F0 m 53 ls [])
def PL_X10_reach_b0 (p : Program) (l : Launch) (e : Env) (s : State) (m : MethodId) (args : Array Value) (below : List Frame) (meth : Method) (c : Code) (A : Nat → Prop) (G : GG) (S : SM) (a_t a_t_whole a_t_begins a_p1 a_p1_score a_p1_good a_p1_bad a_p1_goodAhead a_p1_badAhead : Nat) (p1_size : Int) (p1_score : Int → Int) (p1_good : Int → Int) (p1_bad : Int → Int) (p1_goodAhead : Int → Int) (p1_badAhead : Int → Int) (x2 : Int) (r : Int × (Int → UInt64) × (Int → Int) × (Int → UInt64) × (Int → UInt64)) (kk : Int → (Int → UInt64) → (Int → Int) → (Int → UInt64) → (Int → UInt64) → Option (Int × (Int → UInt64) × (Int → Int) × (Int → UInt64) × (Int → UInt64))) : Prop := ∀ (a_t_fewer : Nat) (a_t_told : Nat) (t_runs : Int) (t_whole : Int → UInt64) (t_begins : Int → Int) (t_fewer : Int → UInt64) (t_told : Int → UInt64), kk t_runs t_whole t_begins t_fewer t_told = some r → ∀ (H : Heap) (locs : List Loc) (ls : Array Slot), HP G A s.heap H locs [(a_t, .inr (9, [.ref a_t_whole, .ref a_t_begins, .ref a_t_fewer, .ref a_t_told, .int (kI t_runs)])), (a_t_whole, cAD G 61 t_whole), (a_t_begins, cAI G 3721 t_begins), (a_t_fewer, cAD G 61 t_fewer), (a_t_told, cAD G 61 t_told), (a_p1, .inr (7, [.ref a_p1_score, .ref a_p1_good, .ref a_p1_bad, .ref a_p1_goodAhead, .ref a_p1_badAhead, .int (kI p1_size)])), (a_p1_score, cAI G 60 p1_score), (a_p1_good, cAI G 60 p1_good), (a_p1_bad, cAI G 60 p1_bad), (a_p1_goodAhead, cAI G 61 p1_goodAhead), (a_p1_badAhead, cAI G 61 p1_badAhead)] → lv_has ls 5 [(0, .ref a_t), (1, .ref a_p1), (2, .int (kI x2))] → W p l e (rmD 4 0 0) s m args below meth c H locs 0 0 (MQ below (QcVx G A (fun u => [(a_t, .inr (9, [.ref a_t_whole, .ref a_t_begins, .ref (u 0), .ref (u 1), .int (kI r.1)])), (a_t_whole, cAD G 61 r.2.1), (a_t_begins, cAI G 3721 r.2.2.1), ((u 0), cAD G 61 r.2.2.2.1), ((u 1), cAD G 61 r.2.2.2.2), (a_p1, .inr (7, [.ref a_p1_score, .ref a_p1_good, .ref a_p1_bad, .ref a_p1_goodAhead, .ref a_p1_badAhead, .int (kI p1_size)])), (a_p1_score, cAI G 60 p1_score), (a_p1_good, cAI G 60 p1_good), (a_p1_bad, cAI G 60 p1_bad), (a_p1_goodAhead, cAI G 61 p1_goodAhead), (a_p1_badAhead, cAI G 61 p1_badAhead)])) args s (rmD 4 0 0).cells (rmD 4 0 0).slots A) (F0 m 0 ls [])
set_option maxHeartbeats 4000000 in
set_option maxRecDepth 100000 in
theorem w_X10_reach_b53 {p : Program} {l : Launch} {e : Env} {s : State} {m : MethodId} {args : Array Value} {below : List Frame} {meth : Method} {c : Code} {A : Nat → Prop} {G : GG} {S : SM} (cx : CX p s m args c cX10_reach RX10 5 G S A) (hlk : meth.locks = false) (hr : meth.sig.returnType = none) (N : Nat) (a_t a_t_whole a_t_begins a_p1 a_p1_score a_p1_good a_p1_bad a_p1_goodAhead a_p1_badAhead : Nat) (p1_size : Int) (p1_score : Int → Int) (p1_good : Int → Int) (p1_bad : Int → Int) (p1_goodAhead : Int → Int) (p1_badAhead : Int → Int) (x2 : Int) (t_runs : Int) (t_whole : Int → UInt64) (r : Int × (Int → UInt64) × (Int → Int) × (Int → UInt64) × (Int → UInt64)) (k0 : Int → (Int → UInt64) → (Int → Int) → (Int → UInt64) → (Int → UInt64) → Option (Int × (Int → UInt64) × (Int → Int) × (Int → UInt64) × (Int → UInt64))) (hk0 : PL_X10_reach_b0 p l e s m args below meth c A G S a_t a_t_whole a_t_begins a_p1 a_p1_score a_p1_good a_p1_bad a_p1_goodAhead a_p1_badAhead p1_size p1_score p1_good p1_bad p1_goodAhead p1_badAhead x2 r k0) : ∀ n : Nat, PL_X10_reach_b53 p l e s m args below meth c A G S a_t a_t_whole a_t_begins a_p1 a_p1_score a_p1_good a_p1_bad a_p1_goodAhead a_p1_badAhead p1_size p1_score p1_good p1_bad p1_goodAhead p1_badAhead x2 t_runs t_whole r (m_X10_reach_b53 N p1_size p1_goodAhead p1_badAhead x2 t_runs t_whole k0 n) := by
  intro n
  induction n with
  | zero => intro a_t_fewer a_t_told t_begins t_fewer t_told y4 h; exact nomatch h
  | succ n ih =>
    intro a_t_fewer a_t_told t_begins t_fewer t_told y4 h H locs ls hw hl
    rw [m_X10_reach_b53] at h
    obtain ⟨⟨hx, hb, -, -, -⟩, -⟩ := id cx
    refine lv_iload hx hb dX10_reach_53 (lv_at hl 3 rfl) ?_
    refine lv_aload_n hx hb dX10_reach_55 rfl (lv_at hl 1 rfl) ?_
    refine rf_get hx hb cx hw 5 rfl rfl 5 inX8 (by decide) fl_X10_29 rfl rfl dX10_reach_56 ?_
    obtain ⟨g1, h⟩ := gd_some h
    obtain ⟨g2, h⟩ := gd_some h
    refine ri_icmp_gt (tgt := 75) hx hb g1 g2 dX10_reach_59 (by decide) (fun c3 => ?_) (fun c3 => ?_)
    · have h := it_pos c3 h
      refine lv_aload_n hx hb dX10_reach_75 rfl (lv_at hl 0 rfl) ?_
      refine rf_get hx hb cx hw 0 rfl rfl 0 inX10 (by decide) fl_X10_11 rfl rfl dX10_reach_76 ?_
      refine lv_aload_n hx hb dX10_reach_79 rfl (lv_at hl 0 rfl) ?_
      refine rf_get hx hb cx hw 0 rfl rfl 4 inX10 (by decide) fl_X10_25 rfl rfl dX10_reach_80 ?_
      refine lv_aload_n hx hb dX10_reach_83 rfl (lv_at hl 0 rfl) ?_
      refine rf_get hx hb cx hw 0 rfl rfl 3 inX10 (by decide) fl_X10_22 rfl rfl dX10_reach_84 ?_
      refine lv_aload_n hx hb dX10_reach_87 rfl (lv_at hl 1 rfl) ?_
      refine rf_get hx hb cx hw 5 rfl rfl 5 inX8 (by decide) fl_X10_29 rfl rfl dX10_reach_88 ?_
      obtain ⟨g4, h⟩ := gd_some h
      refine ra_d hx hb cx hw 4 rfl (by decide) g4 dX10_reach_91 ?_
      obtain ⟨g5, h⟩ := gd_some h
      refine ra_sd hx hb cx hw 1 rfl (by decide) g5 dX10_reach_92 (fun H locs hw => ?_)
      have hw : HP G A s.heap H locs [(a_t, .inr (9, [.ref a_t_whole, .ref a_t_begins, .ref a_t_fewer, .ref a_t_told, .int (kI t_runs)])), (a_t_whole, cAD G 61 (uP t_whole t_runs (t_told p1_size))), (a_t_begins, cAI G 3721 t_begins), (a_t_fewer, cAD G 61 t_fewer), (a_t_told, cAD G 61 t_told), (a_p1, .inr (7, [.ref a_p1_score, .ref a_p1_good, .ref a_p1_bad, .ref a_p1_goodAhead, .ref a_p1_badAhead, .int (kI p1_size)])), (a_p1_score, cAI G 60 p1_score), (a_p1_good, cAI G 60 p1_good), (a_p1_bad, cAI G 60 p1_bad), (a_p1_goodAhead, cAI G 61 p1_goodAhead), (a_p1_badAhead, cAI G 61 p1_badAhead)] := hw
      refine lv_goto (tgt := 0) hx hb dX10_reach_93 (by decide) ?_
      exact hk0 a_t_fewer a_t_told t_runs (uP t_whole t_runs (t_told p1_size)) t_begins t_fewer t_told h _ _ _ hw (lv_sub hl [0, 1, 2] rfl)
    · have h := it_neg c3 h
      refine lv_aload_n hx hb dX10_reach_62 rfl (lv_at hl 0 rfl) ?_
      refine lv_aload_n hx hb dX10_reach_63 rfl (lv_at hl 1 rfl) ?_
      refine lv_iload hx hb dX10_reach_64 (lv_at hl 3 rfl) ?_
      obtain ⟨r6, h6, h⟩ := bd_some h
      refine rc_V (w2 := [(a_t, .inr (9, [.ref a_t_whole, .ref a_t_begins, .ref a_t_fewer, .ref a_t_told, .int (kI t_runs)])), (a_t_whole, cAD G 61 t_whole), (a_t_begins, cAI G 3721 r6.1), (a_t_fewer, cAD G 61 t_fewer), (a_t_told, cAD G 61 r6.2), (a_p1, .inr (7, [.ref a_p1_score, .ref a_p1_good, .ref a_p1_bad, .ref a_p1_goodAhead, .ref a_p1_badAhead, .int (kI p1_size)])), (a_p1_score, cAI G 60 p1_score), (a_p1_good, cAI G 60 p1_good), (a_p1_bad, cAI G 60 p1_bad), (a_p1_goodAhead, cAI G 61 p1_goodAhead), (a_p1_badAhead, cAI G 61 p1_badAhead)]) hw [0, 1, 2, 3, 4, 5, 6, 7, 8, 9, 10] [] [0, 1, 2, 3, 4, 5, 6, 7, 8, 9, 10] (rr_V cx hw (c_X10_tellFor l G S H.size N a_t a_t_whole a_t_begins a_t_fewer a_t_told a_p1 a_p1_score a_p1_good a_p1_bad a_p1_goodAhead a_p1_badAhead t_runs t_whole t_begins t_fewer t_told p1_size p1_score p1_good p1_bad p1_goodAhead p1_badAhead y4 _ h6) mv_X10_34 [0, 1, 2, 3, 4, 5, 6, 7, 8, 9, 10] rfl rfl rfl 0 rfl rfl ⟨Nat.le_of_ble_eq_true rfl, Nat.le_of_ble_eq_true rfl⟩ rfl hl.1 rfl (Nat.le_of_ble_eq_true rfl) dX10_reach_66 ⟨Nat.le_of_ble_eq_true rfl, Nat.le_of_ble_eq_true rfl⟩) rfl rfl rfl rfl rfl rfl rfl rfl (fun H locs hw => ?_)
      refine lv_iinc (v := kI (y4 + 1)) (lv' := [(4, .int (kI (y4 + 1))), (0, .ref a_t), (1, .ref a_p1), (2, .int (kI x2))]) hx hb dX10_reach_69 hl (k := 3) rfl (kI_add _ _) (by decide) rfl (fun ls hl => ?_)
      refine lv_goto (tgt := 53) hx hb dX10_reach_72 (by decide) ?_
      exact ih a_t_fewer a_t_told r6.1 t_fewer r6.2 (y4 + 1) h _ _ _ hw (lv_sub hl [1, 2, 3, 0] rfl)
set_option maxHeartbeats 4000000 in
set_option maxRecDepth 100000 in
theorem w_X10_reach_b0 {p : Program} {l : Launch} {e : Env} {s : State} {m : MethodId} {args : Array Value} {below : List Frame} {meth : Method} {c : Code} {A : Nat → Prop} {G : GG} {S : SM} (cx : CX p s m args c cX10_reach RX10 5 G S A) (hlk : meth.locks = false) (hr : meth.sig.returnType = none) (N : Nat) (a_t a_t_whole a_t_begins a_p1 a_p1_score a_p1_good a_p1_bad a_p1_goodAhead a_p1_badAhead : Nat) (p1_size : Int) (p1_score : Int → Int) (p1_good : Int → Int) (p1_bad : Int → Int) (p1_goodAhead : Int → Int) (p1_badAhead : Int → Int) (x2 : Int) (r : Int × (Int → UInt64) × (Int → Int) × (Int → UInt64) × (Int → UInt64)) : ∀ n : Nat, PL_X10_reach_b0 p l e s m args below meth c A G S a_t a_t_whole a_t_begins a_p1 a_p1_score a_p1_good a_p1_bad a_p1_goodAhead a_p1_badAhead p1_size p1_score p1_good p1_bad p1_goodAhead p1_badAhead x2 r (m_X10_reach_b0 N p1_size p1_goodAhead p1_badAhead x2 n) := by
  intro n
  induction n with
  | zero => intro a_t_fewer a_t_told t_runs t_whole t_begins t_fewer t_told h; exact nomatch h
  | succ n ih =>
    intro a_t_fewer a_t_told t_runs t_whole t_begins t_fewer t_told h H locs ls hw hl
    rw [m_X10_reach_b0] at h
    obtain ⟨⟨hx, hb, -, -, -⟩, -⟩ := id cx
    refine lv_aload_n hx hb dX10_reach_0 rfl (lv_at hl 0 rfl) ?_
    refine rf_get hx hb cx hw 0 rfl rfl 4 inX10 (by decide) fl_X10_25 rfl rfl dX10_reach_1 ?_
    refine lv_iload_n hx hb dX10_reach_4 rfl (lv_at hl 2 rfl) ?_
    obtain ⟨g1, h⟩ := gd_some h
    obtain ⟨g2, h⟩ := gd_some h
    refine ri_icmp_ge (tgt := 96) hx hb g1 g2 dX10_reach_5 (by decide) (fun c3 => ?_) (fun c3 => ?_)
    · have h := it_pos c3 h
      obtain rfl := so_inj h
      exact re_vx (fun i => [a_t_fewer, a_t_told].getD i 0) hx hb hlk hr cx hw (Nat.le_of_ble_eq_true rfl) (Nat.le_of_ble_eq_true rfl) dX10_reach_96
    · have h := it_neg c3 h
      refine lv_aload_n hx hb dX10_reach_8 rfl (lv_at hl 0 rfl) ?_
      refine rf_get hx hb cx hw 0 rfl rfl 4 inX10 (by decide) fl_X10_25 rfl rfl dX10_reach_9 ?_
      refine lv_aload_n hx hb dX10_reach_12 rfl (lv_at hl 1 rfl) ?_
      refine rf_get hx hb cx hw 5 rfl rfl 5 inX8 (by decide) fl_X10_29 rfl rfl dX10_reach_13 ?_
      obtain ⟨g4, h⟩ := gd_some h
      refine ri_icmp_ge (tgt := 96) hx hb g1 g4 dX10_reach_16 (by decide) (fun c5 => ?_) (fun c5 => ?_)
      · have h := it_pos c5 h
        obtain rfl := so_inj h
        exact re_vx (fun i => [a_t_fewer, a_t_told].getD i 0) hx hb hlk hr cx hw (Nat.le_of_ble_eq_true rfl) (Nat.le_of_ble_eq_true rfl) dX10_reach_96
      · have h := it_neg c5 h
        refine lv_aload_n hx hb dX10_reach_19 rfl (lv_at hl 0 rfl) ?_
        refine lv_dup hx hb dX10_reach_20 rfl ?_
        refine rf_get hx hb cx hw 0 rfl rfl 4 inX10 (by decide) fl_X10_25 rfl rfl dX10_reach_21 ?_
        refine ri_iconst hx hb dX10_reach_24 ?_
        refine ri_iadd hx hb dX10_reach_25 ?_
        refine rf_put hx hb cx hw 0 rfl rfl 4 inX10 tyX10 tyX10_ok nmX10 (by decide) fl_X10_25 rfl rfl rfl rfl (Nat.le_of_ble_eq_true rfl) dX10_reach_26 (fun H locs hw => ?_)
        have hw : HP G A s.heap H locs [(a_t, .inr (9, [.ref a_t_whole, .ref a_t_begins, .ref a_t_fewer, .ref a_t_told, .int (kI (t_runs + 1))])), (a_t_whole, cAD G 61 t_whole), (a_t_begins, cAI G 3721 t_begins), (a_t_fewer, cAD G 61 t_fewer), (a_t_told, cAD G 61 t_told), (a_p1, .inr (7, [.ref a_p1_score, .ref a_p1_good, .ref a_p1_bad, .ref a_p1_goodAhead, .ref a_p1_badAhead, .int (kI p1_size)])), (a_p1_score, cAI G 60 p1_score), (a_p1_good, cAI G 60 p1_good), (a_p1_bad, cAI G 60 p1_bad), (a_p1_goodAhead, cAI G 61 p1_goodAhead), (a_p1_badAhead, cAI G 61 p1_badAhead)] := hw
        refine lv_aload_n hx hb dX10_reach_29 rfl (lv_at hl 0 rfl) ?_
        refine rf_get hx hb cx hw 0 rfl rfl 2 inX10 (by decide) fl_X10_19 rfl rfl dX10_reach_30 ?_
        refine lv_astore_n (lv' := [(3, .ref a_t_fewer), (0, .ref a_t), (1, .ref a_p1), (2, .int (kI x2))]) hx hb dX10_reach_33 rfl hl (by decide) rfl (fun ls hl => ?_)
        refine lv_aload_n hx hb dX10_reach_34 rfl (lv_at hl 1 rfl) ?_
        refine lv_aload_n hx hb dX10_reach_35 rfl (lv_at hl 1 rfl) ?_
        refine rf_get hx hb cx hw 0 rfl rfl 3 inX10 (by decide) fl_X10_22 rfl rfl dX10_reach_36 ?_
        refine rf_put hx hb cx hw 0 rfl rfl 2 inX10 tyX10 tyX10_ok nmX10 (by decide) fl_X10_19 rfl rfl rfl rfl (Nat.le_of_ble_eq_true rfl) dX10_reach_39 (fun H locs hw => ?_)
        have hw : HP G A s.heap H locs [(a_t, .inr (9, [.ref a_t_whole, .ref a_t_begins, .ref a_t_told, .ref a_t_told, .int (kI (t_runs + 1))])), (a_t_whole, cAD G 61 t_whole), (a_t_begins, cAI G 3721 t_begins), (a_t_fewer, cAD G 61 t_fewer), (a_t_told, cAD G 61 t_told), (a_p1, .inr (7, [.ref a_p1_score, .ref a_p1_good, .ref a_p1_bad, .ref a_p1_goodAhead, .ref a_p1_badAhead, .int (kI p1_size)])), (a_p1_score, cAI G 60 p1_score), (a_p1_good, cAI G 60 p1_good), (a_p1_bad, cAI G 60 p1_bad), (a_p1_goodAhead, cAI G 61 p1_goodAhead), (a_p1_badAhead, cAI G 61 p1_badAhead)] := hw
        refine lv_aload_n hx hb dX10_reach_42 rfl (lv_at hl 1 rfl) ?_
        refine lv_aload_n hx hb dX10_reach_43 rfl (lv_at hl 0 rfl) ?_
        refine rf_put hx hb cx hw 0 rfl rfl 3 inX10 tyX10 tyX10_ok nmX10 (by decide) fl_X10_22 rfl rfl rfl rfl (Nat.le_of_ble_eq_true rfl) dX10_reach_44 (fun H locs hw => ?_)
        have hw : HP G A s.heap H locs [(a_t, .inr (9, [.ref a_t_whole, .ref a_t_begins, .ref a_t_told, .ref a_t_fewer, .int (kI (t_runs + 1))])), (a_t_whole, cAD G 61 t_whole), (a_t_begins, cAI G 3721 t_begins), (a_t_fewer, cAD G 61 t_fewer), (a_t_told, cAD G 61 t_told), (a_p1, .inr (7, [.ref a_p1_score, .ref a_p1_good, .ref a_p1_bad, .ref a_p1_goodAhead, .ref a_p1_badAhead, .int (kI p1_size)])), (a_p1_score, cAI G 60 p1_score), (a_p1_good, cAI G 60 p1_good), (a_p1_bad, cAI G 60 p1_bad), (a_p1_goodAhead, cAI G 61 p1_goodAhead), (a_p1_badAhead, cAI G 61 p1_badAhead)] := hw
        refine lv_aload_n hx hb dX10_reach_47 rfl (lv_at hl 1 rfl) ?_
        refine rf_get hx hb cx hw 0 rfl rfl 4 inX10 (by decide) fl_X10_25 rfl rfl dX10_reach_48 ?_
        refine lv_istore (lv' := [(4, .int (kI (t_runs + 1))), (3, .ref a_t_fewer), (0, .ref a_t), (1, .ref a_p1), (2, .int (kI x2))]) hx hb dX10_reach_51 hl (by decide) rfl (fun ls hl => ?_)
        have hw := HP.re hw [0, 1, 2, 4, 3, 5, 6, 7, 8, 9, 10] rfl rfl rfl
        exact w_X10_reach_b53 cx hlk hr N a_t a_t_whole a_t_begins a_p1 a_p1_score a_p1_good a_p1_bad a_p1_goodAhead a_p1_badAhead p1_size p1_score p1_good p1_bad p1_goodAhead p1_badAhead x2 (t_runs + 1) t_whole r (m_X10_reach_b0 N p1_size p1_goodAhead p1_badAhead x2 n) ih N a_t_told a_t_fewer t_begins t_told t_fewer (t_runs + 1) h _ _ _ hw (lv_sub hl [2, 3, 4, 0] rfl)
set_option maxHeartbeats 4000000 in
set_option maxRecDepth 100000 in
theorem c_X10_reach (l : Launch) (G : GG) (S : SM) (sz : Nat) (N : Nat) (a_t a_t_whole a_t_begins a_t_fewer a_t_told a_p1 a_p1_score a_p1_good a_p1_bad a_p1_goodAhead a_p1_badAhead : Nat) (t_runs : Int) (t_whole : Int → UInt64) (t_begins : Int → Int) (t_fewer : Int → UInt64) (t_told : Int → UInt64) (p1_size : Int) (p1_score : Int → Int) (p1_good : Int → Int) (p1_bad : Int → Int) (p1_goodAhead : Int → Int) (p1_badAhead : Int → Int) (x2 : Int) (r : Int × (Int → UInt64) × (Int → Int) × (Int → UInt64) × (Int → UInt64)) (h : m_X10_reach N p1_size p1_goodAhead p1_badAhead t_runs t_whole t_begins t_fewer t_told x2 = some r) : CtVx l yX10_reach cX10_reach 5 (rmD 4 0 0) G S sz [.ref a_t, .ref a_p1, .int (kI x2)] [(a_t, .inr (9, [.ref a_t_whole, .ref a_t_begins, .ref a_t_fewer, .ref a_t_told, .int (kI t_runs)])), (a_t_whole, cAD G 61 t_whole), (a_t_begins, cAI G 3721 t_begins), (a_t_fewer, cAD G 61 t_fewer), (a_t_told, cAD G 61 t_told), (a_p1, .inr (7, [.ref a_p1_score, .ref a_p1_good, .ref a_p1_bad, .ref a_p1_goodAhead, .ref a_p1_badAhead, .int (kI p1_size)])), (a_p1_score, cAI G 60 p1_score), (a_p1_good, cAI G 60 p1_good), (a_p1_bad, cAI G 60 p1_bad), (a_p1_goodAhead, cAI G 61 p1_goodAhead), (a_p1_badAhead, cAI G 61 p1_badAhead)] (fun u => [(a_t, .inr (9, [.ref a_t_whole, .ref a_t_begins, .ref (u 0), .ref (u 1), .int (kI r.1)])), (a_t_whole, cAD G 61 r.2.1), (a_t_begins, cAI G 3721 r.2.2.1), ((u 0), cAD G 61 r.2.2.2.1), ((u 1), cAD G 61 r.2.2.2.2), (a_p1, .inr (7, [.ref a_p1_score, .ref a_p1_good, .ref a_p1_bad, .ref a_p1_goodAhead, .ref a_p1_badAhead, .int (kI p1_size)])), (a_p1_score, cAI G 60 p1_score), (a_p1_good, cAI G 60 p1_good), (a_p1_bad, cAI G 60 p1_bad), (a_p1_goodAhead, cAI G 61 p1_goodAhead), (a_p1_badAhead, cAI G 61 p1_badAhead)]) := by
  refine met_Vx (by decide +kernel) (Nat.le_of_ble_eq_true rfl) ?_
  intro p e s m args below meth c A H locs ls cx hw hr hlk hnm hl
  have hl : lv_has ls 5 [(0, .ref a_t), (1, .ref a_p1), (2, .int (kI x2))] := hl
  rw [m_X10_reach] at h
  obtain ⟨⟨hx, hb, -, -, -⟩, -⟩ := id cx
  exact w_X10_reach_b0 cx hlk hr N a_t a_t_whole a_t_begins a_p1 a_p1_score a_p1_good a_p1_bad a_p1_goodAhead a_p1_badAhead p1_size p1_score p1_good p1_bad p1_goodAhead p1_badAhead x2 r N a_t_fewer a_t_told t_runs t_whole t_begins t_fewer t_told h _ _ _ hw (lv_sub hl [0, 1, 2] rfl)
def PL_X10_firstRow_b6 (p : Program) (l : Launch) (e : Env) (s : State) (m : MethodId) (args : Array Value) (below : List Frame) (meth : Method) (c : Code) (A : Nat → Prop) (G : GG) (S : SM) (a_t a_t_whole a_t_begins a_t_fewer a_t_told : Nat) (t_runs : Int) (t_whole : Int → UInt64) (t_begins : Int → Int) (t_fewer : Int → UInt64) (t_told : Int → UInt64) (x1 : Int) (x2 : Int) (x3 : Int) (r : Int) (kk : Int → Int → Option (Int)) : Prop := ∀ (y4 : Int) (y5 : Int), kk y4 y5 = some r → ∀ (H : Heap) (locs : List Loc) (ls : Array Slot), HP G A s.heap H locs [(a_t, .inr (9, [.ref a_t_whole, .ref a_t_begins, .ref a_t_fewer, .ref a_t_told, .int (kI t_runs)])), (a_t_whole, cAD G 61 t_whole), (a_t_begins, cAI G 3721 t_begins), (a_t_fewer, cAD G 61 t_fewer), (a_t_told, cAD G 61 t_told)] → lv_has ls 6 [(0, .ref a_t), (2, .int (kI x2)), (4, .int (kI y4)), (5, .int (kI y5))] → W p l e (rmD 1 0 0) s m args below meth c H locs 0 0 (MQ below (QcI G A r [(a_t, .inr (9, [.ref a_t_whole, .ref a_t_begins, .ref a_t_fewer, .ref a_t_told, .int (kI t_runs)])), (a_t_whole, cAD G 61 t_whole), (a_t_begins, cAI G 3721 t_begins), (a_t_fewer, cAD G 61 t_fewer), (a_t_told, cAD G 61 t_told)]) args s (rmD 1 0 0).cells (rmD 1 0 0).slots A) (F0 m 6 ls [])
set_option maxHeartbeats 4000000 in
set_option maxRecDepth 100000 in
theorem w_X10_firstRow_b6 {p : Program} {l : Launch} {e : Env} {s : State} {m : MethodId} {args : Array Value} {below : List Frame} {meth : Method} {c : Code} {A : Nat → Prop} {G : GG} {S : SM} (cx : CX p s m args c cX10_firstRow RX10 6 G S A) (hlk : meth.locks = false) (hr : meth.sig.returnType = some .int) (N : Nat) (a_t a_t_whole a_t_begins a_t_fewer a_t_told : Nat) (t_runs : Int) (t_whole : Int → UInt64) (t_begins : Int → Int) (t_fewer : Int → UInt64) (t_told : Int → UInt64) (x1 : Int) (x2 : Int) (x3 : Int) (r : Int) : ∀ n : Nat, PL_X10_firstRow_b6 p l e s m args below meth c A G S a_t a_t_whole a_t_begins a_t_fewer a_t_told t_runs t_whole t_begins t_fewer t_told x1 x2 x3 r (m_X10_firstRow_b6 N t_begins x1 x2 x3 n) := by
  intro n
  induction n with
  | zero => intro y4 y5 h; exact nomatch h
  | succ n ih =>
    intro y4 y5 h H locs ls hw hl
    rw [m_X10_firstRow_b6] at h
    obtain ⟨⟨hx, hb, -, -, -⟩, -⟩ := id cx
    refine lv_iload hx hb dX10_firstRow_6 (lv_at hl 3 rfl) ?_
    refine lv_iload_n hx hb dX10_firstRow_8 rfl (lv_at hl 1 rfl) ?_
    obtain ⟨g1, h⟩ := gd_some h
    obtain ⟨g2, h⟩ := gd_some h
    refine ri_icmp_le (tgt := 33) hx hb g1 g2 dX10_firstRow_9 (by decide) (fun c3 => ?_) (fun c3 => ?_)
    · have h := it_pos c3 h
      refine lv_iload hx hb dX10_firstRow_33 (lv_at hl 2 rfl) ?_
      obtain rfl := so_inj h
      exact re_i hx hb hlk hr cx hw (Nat.le_of_ble_eq_true rfl) (Nat.le_of_ble_eq_true rfl) dX10_firstRow_35
    · have h := it_neg c3 h
      refine lv_aload_n hx hb dX10_firstRow_12 rfl (lv_at hl 0 rfl) ?_
      refine rf_get hx hb cx hw 0 rfl rfl 1 inX10 (by decide) fl_X10_15 rfl rfl dX10_firstRow_13 ?_
      refine lv_iload hx hb dX10_firstRow_16 (lv_at hl 3 rfl) ?_
      refine ri_bipush hx hb dX10_firstRow_18 rfl ?_
      refine ri_imul hx hb dX10_firstRow_20 ?_
      refine lv_iload hx hb dX10_firstRow_21 (lv_at hl 2 rfl) ?_
      refine ri_iadd hx hb dX10_firstRow_23 ?_
      obtain ⟨g4, h⟩ := gd_some h
      refine ra_i hx hb cx hw 2 rfl (by decide) g4 dX10_firstRow_24 ?_
      refine lv_istore (lv' := [(4, .int (kI (t_begins ((y5 * 61) + y4)))), (0, .ref a_t), (2, .int (kI x2)), (5, .int (kI y5))]) hx hb dX10_firstRow_25 hl (by decide) rfl (fun ls hl => ?_)
      refine lv_iinc (v := kI (y5 + (-1))) (lv' := [(5, .int (kI (y5 + (-1)))), (4, .int (kI (t_begins ((y5 * 61) + y4)))), (0, .ref a_t), (2, .int (kI x2))]) hx hb dX10_firstRow_27 hl (k := 3) rfl (kI_add _ _) (by decide) rfl (fun ls hl => ?_)
      refine lv_goto (tgt := 6) hx hb dX10_firstRow_30 (by decide) ?_
      exact ih (t_begins ((y5 * 61) + y4)) (y5 + (-1)) h _ _ _ hw (lv_sub hl [2, 3, 1, 0] rfl)
set_option maxHeartbeats 4000000 in
set_option maxRecDepth 100000 in
theorem c_X10_firstRow (l : Launch) (G : GG) (S : SM) (sz : Nat) (N : Nat) (a_t a_t_whole a_t_begins a_t_fewer a_t_told : Nat) (t_runs : Int) (t_whole : Int → UInt64) (t_begins : Int → Int) (t_fewer : Int → UInt64) (t_told : Int → UInt64) (x1 : Int) (x2 : Int) (x3 : Int) (r : Int) (h : m_X10_firstRow N t_begins x1 x2 x3 = some r) : CtI l yX10_firstRow cX10_firstRow 6 .int (rmD 1 0 0) G S sz [.ref a_t, .int (kI x1), .int (kI x2), .int (kI x3)] [(a_t, .inr (9, [.ref a_t_whole, .ref a_t_begins, .ref a_t_fewer, .ref a_t_told, .int (kI t_runs)])), (a_t_whole, cAD G 61 t_whole), (a_t_begins, cAI G 3721 t_begins), (a_t_fewer, cAD G 61 t_fewer), (a_t_told, cAD G 61 t_told)] r [(a_t, .inr (9, [.ref a_t_whole, .ref a_t_begins, .ref a_t_fewer, .ref a_t_told, .int (kI t_runs)])), (a_t_whole, cAD G 61 t_whole), (a_t_begins, cAI G 3721 t_begins), (a_t_fewer, cAD G 61 t_fewer), (a_t_told, cAD G 61 t_told)] := by
  refine met_I (by decide +kernel) (Nat.le_of_ble_eq_true rfl) ?_
  intro p e s m args below meth c A H locs ls cx hw hr hlk hnm hl
  have hl : lv_has ls 6 [(0, .ref a_t), (1, .int (kI x1)), (2, .int (kI x2)), (3, .int (kI x3))] := hl
  rw [m_X10_firstRow] at h
  obtain ⟨⟨hx, hb, -, -, -⟩, -⟩ := id cx
  refine lv_iload_n hx hb dX10_firstRow_0 rfl (lv_at hl 3 rfl) ?_
  refine lv_istore (lv' := [(4, .int (kI x3)), (0, .ref a_t), (1, .int (kI x1)), (2, .int (kI x2)), (3, .int (kI x3))]) hx hb dX10_firstRow_1 hl (by decide) rfl (fun ls hl => ?_)
  refine lv_iload_n hx hb dX10_firstRow_3 rfl (lv_at hl 2 rfl) ?_
  refine lv_istore (lv' := [(5, .int (kI x1)), (4, .int (kI x3)), (0, .ref a_t), (1, .int (kI x1)), (2, .int (kI x2)), (3, .int (kI x3))]) hx hb dX10_firstRow_4 hl (by decide) rfl (fun ls hl => ?_)
  exact w_X10_firstRow_b6 cx hlk hr N a_t a_t_whole a_t_begins a_t_fewer a_t_told t_runs t_whole t_begins t_fewer t_told x1 x2 x3 r N x3 x1 h _ _ _ hw (lv_sub hl [2, 4, 1, 0] rfl)
set_option maxHeartbeats 4000000 in
set_option maxRecDepth 100000 in
theorem c_X11_init (l : Launch) (G : GG) (S : SM) (sz : Nat) (N : Nat) (a_t : Nat)   (r : Int × Int × Int) (h : m_X11_init N = some r) : CtVx l yX11_init cX11_init 1 (rmD 1 0 0) G S sz [.ref a_t] [(a_t, .inr (10, [.int (kI 0), .int (kI 0), .int (kI 0)]))] (fun u => [(a_t, .inr (10, [.int (kI r.1), .int (kI r.2.1), .int (kI r.2.2)]))]) := by
  refine met_Vx (by decide +kernel) (Nat.le_of_ble_eq_true rfl) ?_
  intro p e s m args below meth c A H locs ls cx hw hr hlk hnm hl
  have hl : lv_has ls 1 [(0, .ref a_t)] := hl
  rw [m_X11_init] at h
  obtain ⟨⟨hx, hb, -, -, -⟩, -⟩ := id cx
  refine lv_aload_n hx hb dX11_init_0 rfl (lv_at hl 0 rfl) ?_
  refine ro_init hx hb cx hl.1 jl_X11_1 (Nat.le_of_ble_eq_true rfl) (Nat.le_of_ble_eq_true rfl) dX11_init_1 ?_
  obtain rfl := so_inj h
  exact re_vx (fun i => [].getD i 0) hx hb hlk hr cx (HP.re hw [0] rfl rfl rfl) (Nat.le_of_ble_eq_true rfl) (Nat.le_of_ble_eq_true rfl) dX11_init_4
set_option maxHeartbeats 4000000 in
set_option maxRecDepth 100000 in
theorem c_X11_fromUpper (l : Launch) (G : GG) (S : SM) (sz : Nat) (N : Nat) (a_p0 a_p0_score a_p0_good a_p0_bad a_p0_goodAhead a_p0_badAhead a_p1 a_p1_good a_p1_bad a_p1_open : Nat) (p0_size : Int) (p0_score : Int → Int) (p0_good : Int → Int) (p0_bad : Int → Int) (p0_goodAhead : Int → Int) (p0_badAhead : Int → Int) (p1_least : Int) (p1_most : Int) (p1_goodCost : Int) (p1_badCost : Int) (p1_referCost : Int) (p1_good : Int → Int) (p1_bad : Int → Int) (p1_open : Int → Int) (x2 : Int) (r : Int) (h : m_X11_fromUpper N p0_size p0_goodAhead p0_badAhead p1_badCost p1_referCost x2 = some r) : CtI l yX11_fromUpper cX11_fromUpper 3 .int (rmD 2 0 0) G S sz [.ref a_p0, .ref a_p1, .int (kI x2)] [(a_p0, .inr (7, [.ref a_p0_score, .ref a_p0_good, .ref a_p0_bad, .ref a_p0_goodAhead, .ref a_p0_badAhead, .int (kI p0_size)])), (a_p0_score, cAI G 60 p0_score), (a_p0_good, cAI G 60 p0_good), (a_p0_bad, cAI G 60 p0_bad), (a_p0_goodAhead, cAI G 61 p0_goodAhead), (a_p0_badAhead, cAI G 61 p0_badAhead), (a_p1, .inr (5, [.ref a_p1_good, .ref a_p1_bad, .ref a_p1_open, .int (kI p1_least), .int (kI p1_most), .int (kI p1_goodCost), .int (kI p1_badCost), .int (kI p1_referCost)])), (a_p1_good, cAI G 1000 p1_good), (a_p1_bad, cAI G 1000 p1_bad), (a_p1_open, cAI G 1000 p1_open)] r [(a_p0, .inr (7, [.ref a_p0_score, .ref a_p0_good, .ref a_p0_bad, .ref a_p0_goodAhead, .ref a_p0_badAhead, .int (kI p0_size)])), (a_p0_score, cAI G 60 p0_score), (a_p0_good, cAI G 60 p0_good), (a_p0_bad, cAI G 60 p0_bad), (a_p0_goodAhead, cAI G 61 p0_goodAhead), (a_p0_badAhead, cAI G 61 p0_badAhead), (a_p1, .inr (5, [.ref a_p1_good, .ref a_p1_bad, .ref a_p1_open, .int (kI p1_least), .int (kI p1_most), .int (kI p1_goodCost), .int (kI p1_badCost), .int (kI p1_referCost)])), (a_p1_good, cAI G 1000 p1_good), (a_p1_bad, cAI G 1000 p1_bad), (a_p1_open, cAI G 1000 p1_open)] := by
  refine met_I (by decide +kernel) (Nat.le_of_ble_eq_true rfl) ?_
  intro p e s m args below meth c A H locs ls cx hw hr hlk hnm hl
  have hl : lv_has ls 3 [(0, .ref a_p0), (1, .ref a_p1), (2, .int (kI x2))] := hl
  rw [m_X11_fromUpper] at h
  obtain ⟨⟨hx, hb, -, -, -⟩, -⟩ := id cx
  refine lv_aload_n hx hb dX11_fromUpper_0 rfl (lv_at hl 1 rfl) ?_
  refine rf_get hx hb cx hw 6 rfl rfl 7 inX6 (by decide) fl_X11_44 rfl rfl dX11_fromUpper_1 ?_
  refine lv_aload_n hx hb dX11_fromUpper_4 rfl (lv_at hl 0 rfl) ?_
  refine lv_iload_n hx hb dX11_fromUpper_5 rfl (lv_at hl 2 rfl) ?_
  obtain ⟨r1, h1, h⟩ := bd_some h
  refine rc_I0 (v := r1) hw [0, 1, 2, 3, 4, 5] (rr_V cx hw (c_X8_casesAhead l G S H.size N a_p0 a_p0_score a_p0_good a_p0_bad a_p0_goodAhead a_p0_badAhead p0_size p0_score p0_good p0_bad p0_goodAhead p0_badAhead x2 _ h1) mv_X11_47 [0, 1, 2, 3, 4, 5] rfl rfl rfl 0 rfl rfl ⟨Nat.le_of_ble_eq_true rfl, Nat.le_of_ble_eq_true rfl⟩ rfl hl.1 rfl (Nat.le_of_ble_eq_true rfl) dX11_fromUpper_6 ⟨Nat.le_of_ble_eq_true rfl, Nat.le_of_ble_eq_true rfl⟩) rfl rfl (fun H locs hw => ?_)
  refine ri_imul hx hb dX11_fromUpper_9 ?_
  refine lv_aload_n hx hb dX11_fromUpper_10 rfl (lv_at hl 1 rfl) ?_
  refine rf_get hx hb cx hw 6 rfl rfl 6 inX6 (by decide) fl_X11_50 rfl rfl dX11_fromUpper_11 ?_
  refine lv_aload_n hx hb dX11_fromUpper_14 rfl (lv_at hl 0 rfl) ?_
  obtain ⟨r2, h2, h⟩ := bd_some h
  refine rc_I0 (v := r2) hw [0, 1, 2, 3, 4, 5] (rr_V cx hw (c_X8_bads l G S H.size N a_p0 a_p0_score a_p0_good a_p0_bad a_p0_goodAhead a_p0_badAhead p0_size p0_score p0_good p0_bad p0_goodAhead p0_badAhead _ h2) mv_X11_53 [0, 1, 2, 3, 4, 5] rfl rfl rfl 0 rfl rfl ⟨Nat.le_of_ble_eq_true rfl, Nat.le_of_ble_eq_true rfl⟩ rfl hl.1 rfl (Nat.le_of_ble_eq_true rfl) dX11_fromUpper_15 ⟨Nat.le_of_ble_eq_true rfl, Nat.le_of_ble_eq_true rfl⟩) rfl rfl (fun H locs hw => ?_)
  refine lv_aload_n hx hb dX11_fromUpper_18 rfl (lv_at hl 0 rfl) ?_
  refine rf_get hx hb cx hw 0 rfl rfl 4 inX8 (by decide) fl_X11_57 rfl rfl dX11_fromUpper_19 ?_
  refine lv_iload_n hx hb dX11_fromUpper_22 rfl (lv_at hl 2 rfl) ?_
  obtain ⟨g3, h⟩ := gd_some h
  refine ra_i hx hb cx hw 5 rfl (by decide) g3 dX11_fromUpper_23 ?_
  refine ri_isub hx hb dX11_fromUpper_24 ?_
  refine ri_imul hx hb dX11_fromUpper_25 ?_
  refine ri_iadd hx hb dX11_fromUpper_26 ?_
  obtain rfl := so_inj h
  exact re_i hx hb hlk hr cx hw (Nat.le_of_ble_eq_true rfl) (Nat.le_of_ble_eq_true rfl) dX11_fromUpper_27
set_option maxHeartbeats 4000000 in
set_option maxRecDepth 100000 in
theorem c_X11_fromLower (l : Launch) (G : GG) (S : SM) (sz : Nat) (N : Nat) (a_p0 a_p0_score a_p0_good a_p0_bad a_p0_goodAhead a_p0_badAhead a_p1 a_p1_good a_p1_bad a_p1_open : Nat) (p0_size : Int) (p0_score : Int → Int) (p0_good : Int → Int) (p0_bad : Int → Int) (p0_goodAhead : Int → Int) (p0_badAhead : Int → Int) (p1_least : Int) (p1_most : Int) (p1_goodCost : Int) (p1_badCost : Int) (p1_referCost : Int) (p1_good : Int → Int) (p1_bad : Int → Int) (p1_open : Int → Int) (x2 : Int) (r : Int) (h : m_X11_fromLower N p0_goodAhead p0_badAhead p1_goodCost p1_referCost x2 = some r) : CtI l yX11_fromLower cX11_fromLower 3 .int (rmD 2 0 0) G S sz [.ref a_p0, .ref a_p1, .int (kI x2)] [(a_p0, .inr (7, [.ref a_p0_score, .ref a_p0_good, .ref a_p0_bad, .ref a_p0_goodAhead, .ref a_p0_badAhead, .int (kI p0_size)])), (a_p0_score, cAI G 60 p0_score), (a_p0_good, cAI G 60 p0_good), (a_p0_bad, cAI G 60 p0_bad), (a_p0_goodAhead, cAI G 61 p0_goodAhead), (a_p0_badAhead, cAI G 61 p0_badAhead), (a_p1, .inr (5, [.ref a_p1_good, .ref a_p1_bad, .ref a_p1_open, .int (kI p1_least), .int (kI p1_most), .int (kI p1_goodCost), .int (kI p1_badCost), .int (kI p1_referCost)])), (a_p1_good, cAI G 1000 p1_good), (a_p1_bad, cAI G 1000 p1_bad), (a_p1_open, cAI G 1000 p1_open)] r [(a_p0, .inr (7, [.ref a_p0_score, .ref a_p0_good, .ref a_p0_bad, .ref a_p0_goodAhead, .ref a_p0_badAhead, .int (kI p0_size)])), (a_p0_score, cAI G 60 p0_score), (a_p0_good, cAI G 60 p0_good), (a_p0_bad, cAI G 60 p0_bad), (a_p0_goodAhead, cAI G 61 p0_goodAhead), (a_p0_badAhead, cAI G 61 p0_badAhead), (a_p1, .inr (5, [.ref a_p1_good, .ref a_p1_bad, .ref a_p1_open, .int (kI p1_least), .int (kI p1_most), .int (kI p1_goodCost), .int (kI p1_badCost), .int (kI p1_referCost)])), (a_p1_good, cAI G 1000 p1_good), (a_p1_bad, cAI G 1000 p1_bad), (a_p1_open, cAI G 1000 p1_open)] := by
  refine met_I (by decide +kernel) (Nat.le_of_ble_eq_true rfl) ?_
  intro p e s m args below meth c A H locs ls cx hw hr hlk hnm hl
  have hl : lv_has ls 3 [(0, .ref a_p0), (1, .ref a_p1), (2, .int (kI x2))] := hl
  rw [m_X11_fromLower] at h
  obtain ⟨⟨hx, hb, -, -, -⟩, -⟩ := id cx
  refine lv_aload_n hx hb dX11_fromLower_0 rfl (lv_at hl 1 rfl) ?_
  refine rf_get hx hb cx hw 6 rfl rfl 5 inX6 (by decide) fl_X11_35 rfl rfl dX11_fromLower_1 ?_
  refine lv_aload_n hx hb dX11_fromLower_4 rfl (lv_at hl 0 rfl) ?_
  refine rf_get hx hb cx hw 0 rfl rfl 3 inX8 (by decide) fl_X11_40 rfl rfl dX11_fromLower_5 ?_
  refine lv_iload_n hx hb dX11_fromLower_8 rfl (lv_at hl 2 rfl) ?_
  obtain ⟨g1, h⟩ := gd_some h
  refine ra_i hx hb cx hw 4 rfl (by decide) g1 dX11_fromLower_9 ?_
  refine ri_imul hx hb dX11_fromLower_10 ?_
  refine lv_aload_n hx hb dX11_fromLower_11 rfl (lv_at hl 1 rfl) ?_
  refine rf_get hx hb cx hw 6 rfl rfl 7 inX6 (by decide) fl_X11_44 rfl rfl dX11_fromLower_12 ?_
  refine lv_aload_n hx hb dX11_fromLower_15 rfl (lv_at hl 0 rfl) ?_
  refine lv_iload_n hx hb dX11_fromLower_16 rfl (lv_at hl 2 rfl) ?_
  obtain ⟨r2, h2, h⟩ := bd_some h
  refine rc_I0 (v := r2) hw [0, 1, 2, 3, 4, 5] (rr_V cx hw (c_X8_casesAhead l G S H.size N a_p0 a_p0_score a_p0_good a_p0_bad a_p0_goodAhead a_p0_badAhead p0_size p0_score p0_good p0_bad p0_goodAhead p0_badAhead x2 _ h2) mv_X11_47 [0, 1, 2, 3, 4, 5] rfl rfl rfl 0 rfl rfl ⟨Nat.le_of_ble_eq_true rfl, Nat.le_of_ble_eq_true rfl⟩ rfl hl.1 rfl (Nat.le_of_ble_eq_true rfl) dX11_fromLower_17 ⟨Nat.le_of_ble_eq_true rfl, Nat.le_of_ble_eq_true rfl⟩) rfl rfl (fun H locs hw => ?_)
  refine ri_imul hx hb dX11_fromLower_20 ?_
  refine ri_isub hx hb dX11_fromLower_21 ?_
  obtain rfl := so_inj h
  exact re_i hx hb hlk hr cx hw (Nat.le_of_ble_eq_true rfl) (Nat.le_of_ble_eq_true rfl) dX11_fromLower_22
def PL_X11_seek_b23 (p : Program) (l : Launch) (e : Env) (s : State) (m : MethodId) (args : Array Value) (below : List Frame) (meth : Method) (c : Code) (A : Nat → Prop) (G : GG) (S : SM) (a_t a_p1 a_p1_score a_p1_good a_p1_bad a_p1_goodAhead a_p1_badAhead a_p2 a_p2_good a_p2_bad a_p2_open : Nat) (p1_size : Int) (p1_score : Int → Int) (p1_good : Int → Int) (p1_bad : Int → Int) (p1_goodAhead : Int → Int) (p1_badAhead : Int → Int) (p2_least : Int) (p2_most : Int) (p2_goodCost : Int) (p2_badCost : Int) (p2_referCost : Int) (p2_good : Int → Int) (p2_bad : Int → Int) (p2_open : Int → Int) (t_lower : Int) (t_upper : Int) (t_together : Int) (r : Int × Int × Int) (kk : Int → Int → Int → Int → Option (Int × Int × Int)) : Prop := ∀ (y3 : Int) (y4 : Int) (y5 : Int) (y6 : Int), kk y3 y4 y5 y6 = some r → ∀ (H : Heap) (locs : List Loc) (ls : Array Slot), HP G A s.heap H locs [(a_t, .inr (10, [.int (kI t_lower), .int (kI t_upper), .int (kI t_together)])), (a_p1, .inr (7, [.ref a_p1_score, .ref a_p1_good, .ref a_p1_bad, .ref a_p1_goodAhead, .ref a_p1_badAhead, .int (kI p1_size)])), (a_p1_score, cAI G 60 p1_score), (a_p1_good, cAI G 60 p1_good), (a_p1_bad, cAI G 60 p1_bad), (a_p1_goodAhead, cAI G 61 p1_goodAhead), (a_p1_badAhead, cAI G 61 p1_badAhead), (a_p2, .inr (5, [.ref a_p2_good, .ref a_p2_bad, .ref a_p2_open, .int (kI p2_least), .int (kI p2_most), .int (kI p2_goodCost), .int (kI p2_badCost), .int (kI p2_referCost)])), (a_p2_good, cAI G 1000 p2_good), (a_p2_bad, cAI G 1000 p2_bad), (a_p2_open, cAI G 1000 p2_open)] → lv_has ls 8 [(0, .ref a_t), (1, .ref a_p1), (2, .ref a_p2), (3, .int (kI y3)), (4, .int (kI y4)), (5, .int (kI y5)), (6, .int (kI y6))] → W p l e (rmD 3 0 0) s m args below meth c H locs 0 0 (MQ below (QcV G A [(a_t, .inr (10, [.int (kI r.1), .int (kI r.2.1), .int (kI r.2.2)])), (a_p1, .inr (7, [.ref a_p1_score, .ref a_p1_good, .ref a_p1_bad, .ref a_p1_goodAhead, .ref a_p1_badAhead, .int (kI p1_size)])), (a_p1_score, cAI G 60 p1_score), (a_p1_good, cAI G 60 p1_good), (a_p1_bad, cAI G 60 p1_bad), (a_p1_goodAhead, cAI G 61 p1_goodAhead), (a_p1_badAhead, cAI G 61 p1_badAhead), (a_p2, .inr (5, [.ref a_p2_good, .ref a_p2_bad, .ref a_p2_open, .int (kI p2_least), .int (kI p2_most), .int (kI p2_goodCost), .int (kI p2_badCost), .int (kI p2_referCost)])), (a_p2_good, cAI G 1000 p2_good), (a_p2_bad, cAI G 1000 p2_bad), (a_p2_open, cAI G 1000 p2_open)]) args s (rmD 3 0 0).cells (rmD 3 0 0).slots A) (F0 m 23 ls [])
set_option maxHeartbeats 4000000 in
set_option maxRecDepth 100000 in
theorem w_X11_seek_b92 {p : Program} {l : Launch} {e : Env} {s : State} {m : MethodId} {args : Array Value} {below : List Frame} {meth : Method} {c : Code} {A : Nat → Prop} {G : GG} {S : SM} (cx : CX p s m args c cX11_seek RX11 8 G S A) (hlk : meth.locks = false) (hr : meth.sig.returnType = none) (N : Nat) (a_t a_p1 a_p1_score a_p1_good a_p1_bad a_p1_goodAhead a_p1_badAhead a_p2 a_p2_good a_p2_bad a_p2_open : Nat) (p1_size : Int) (p1_score : Int → Int) (p1_good : Int → Int) (p1_bad : Int → Int) (p1_goodAhead : Int → Int) (p1_badAhead : Int → Int) (p2_least : Int) (p2_most : Int) (p2_goodCost : Int) (p2_badCost : Int) (p2_referCost : Int) (p2_good : Int → Int) (p2_bad : Int → Int) (p2_open : Int → Int) (t_lower : Int) (t_upper : Int) (t_together : Int) (r : Int × Int × Int) (k23 : Int → Int → Int → Int → Option (Int × Int × Int)) (hk23 : PL_X11_seek_b23 p l e s m args below meth c A G S a_t a_p1 a_p1_score a_p1_good a_p1_bad a_p1_goodAhead a_p1_badAhead a_p2 a_p2_good a_p2_bad a_p2_open p1_size p1_score p1_good p1_bad p1_goodAhead p1_badAhead p2_least p2_most p2_goodCost p2_badCost p2_referCost p2_good p2_bad p2_open t_lower t_upper t_together r k23) : ∀ (y3 : Int) (y4 : Int) (y5 : Int) (y6 : Int), m_X11_seek_b92 N p1_size p1_score p1_goodAhead p1_badAhead p2_goodCost p2_badCost p2_referCost t_lower t_upper t_together k23 y3 y4 y5 y6 = some r → ∀ (H : Heap) (locs : List Loc) (ls : Array Slot), HP G A s.heap H locs [(a_t, .inr (10, [.int (kI t_lower), .int (kI t_upper), .int (kI t_together)])), (a_p1, .inr (7, [.ref a_p1_score, .ref a_p1_good, .ref a_p1_bad, .ref a_p1_goodAhead, .ref a_p1_badAhead, .int (kI p1_size)])), (a_p1_score, cAI G 60 p1_score), (a_p1_good, cAI G 60 p1_good), (a_p1_bad, cAI G 60 p1_bad), (a_p1_goodAhead, cAI G 61 p1_goodAhead), (a_p1_badAhead, cAI G 61 p1_badAhead), (a_p2, .inr (5, [.ref a_p2_good, .ref a_p2_bad, .ref a_p2_open, .int (kI p2_least), .int (kI p2_most), .int (kI p2_goodCost), .int (kI p2_badCost), .int (kI p2_referCost)])), (a_p2_good, cAI G 1000 p2_good), (a_p2_bad, cAI G 1000 p2_bad), (a_p2_open, cAI G 1000 p2_open)] → lv_has ls 8 [(0, .ref a_t), (1, .ref a_p1), (2, .ref a_p2), (3, .int (kI y3)), (4, .int (kI y4)), (5, .int (kI y5)), (6, .int (kI y6))] → W p l e (rmD 3 0 0) s m args below meth c H locs 0 0 (MQ below (QcV G A [(a_t, .inr (10, [.int (kI r.1), .int (kI r.2.1), .int (kI r.2.2)])), (a_p1, .inr (7, [.ref a_p1_score, .ref a_p1_good, .ref a_p1_bad, .ref a_p1_goodAhead, .ref a_p1_badAhead, .int (kI p1_size)])), (a_p1_score, cAI G 60 p1_score), (a_p1_good, cAI G 60 p1_good), (a_p1_bad, cAI G 60 p1_bad), (a_p1_goodAhead, cAI G 61 p1_goodAhead), (a_p1_badAhead, cAI G 61 p1_badAhead), (a_p2, .inr (5, [.ref a_p2_good, .ref a_p2_bad, .ref a_p2_open, .int (kI p2_least), .int (kI p2_most), .int (kI p2_goodCost), .int (kI p2_badCost), .int (kI p2_referCost)])), (a_p2_good, cAI G 1000 p2_good), (a_p2_bad, cAI G 1000 p2_bad), (a_p2_open, cAI G 1000 p2_open)]) args s (rmD 3 0 0).cells (rmD 3 0 0).slots A) (F0 m 92 ls []) := by
  intro y3 y4 y5 y6 h H locs ls hw hl
  rw [m_X11_seek_b92] at h
  obtain ⟨⟨hx, hb, -, -, -⟩, -⟩ := id cx
  refine lv_iinc (v := kI (y6 + (-1))) (lv' := [(6, .int (kI (y6 + (-1)))), (0, .ref a_t), (1, .ref a_p1), (2, .ref a_p2), (3, .int (kI y3)), (4, .int (kI y4)), (5, .int (kI y5))]) hx hb dX11_seek_92 hl (k := 6) rfl (kI_add _ _) (by decide) rfl (fun ls hl => ?_)
  refine lv_goto (tgt := 23) hx hb dX11_seek_95 (by decide) ?_
  exact hk23 y3 y4 y5 (y6 + (-1)) h _ _ _ hw (lv_sub hl [1, 2, 3, 4, 5, 6, 0] rfl)
set_option maxHeartbeats 4000000 in
set_option maxRecDepth 100000 in
theorem w_X11_seek_b49 {p : Program} {l : Launch} {e : Env} {s : State} {m : MethodId} {args : Array Value} {below : List Frame} {meth : Method} {c : Code} {A : Nat → Prop} {G : GG} {S : SM} (cx : CX p s m args c cX11_seek RX11 8 G S A) (hlk : meth.locks = false) (hr : meth.sig.returnType = none) (N : Nat) (a_t a_p1 a_p1_score a_p1_good a_p1_bad a_p1_goodAhead a_p1_badAhead a_p2 a_p2_good a_p2_bad a_p2_open : Nat) (p1_size : Int) (p1_score : Int → Int) (p1_good : Int → Int) (p1_bad : Int → Int) (p1_goodAhead : Int → Int) (p1_badAhead : Int → Int) (p2_least : Int) (p2_most : Int) (p2_goodCost : Int) (p2_badCost : Int) (p2_referCost : Int) (p2_good : Int → Int) (p2_bad : Int → Int) (p2_open : Int → Int) (t_lower : Int) (t_upper : Int) (t_together : Int) (r : Int × Int × Int) (k23 : Int → Int → Int → Int → Option (Int × Int × Int)) (hk23 : PL_X11_seek_b23 p l e s m args below meth c A G S a_t a_p1 a_p1_score a_p1_good a_p1_bad a_p1_goodAhead a_p1_badAhead a_p2 a_p2_good a_p2_bad a_p2_open p1_size p1_score p1_good p1_bad p1_goodAhead p1_badAhead p2_least p2_most p2_goodCost p2_badCost p2_referCost p2_good p2_bad p2_open t_lower t_upper t_together r k23) : ∀ (y3 : Int) (y4 : Int) (y5 : Int) (y6 : Int), m_X11_seek_b49 N p1_size p1_score p1_goodAhead p1_badAhead p2_goodCost p2_badCost p2_referCost t_lower t_upper t_together k23 y3 y4 y5 y6 = some r → ∀ (H : Heap) (locs : List Loc) (ls : Array Slot), HP G A s.heap H locs [(a_t, .inr (10, [.int (kI t_lower), .int (kI t_upper), .int (kI t_together)])), (a_p1, .inr (7, [.ref a_p1_score, .ref a_p1_good, .ref a_p1_bad, .ref a_p1_goodAhead, .ref a_p1_badAhead, .int (kI p1_size)])), (a_p1_score, cAI G 60 p1_score), (a_p1_good, cAI G 60 p1_good), (a_p1_bad, cAI G 60 p1_bad), (a_p1_goodAhead, cAI G 61 p1_goodAhead), (a_p1_badAhead, cAI G 61 p1_badAhead), (a_p2, .inr (5, [.ref a_p2_good, .ref a_p2_bad, .ref a_p2_open, .int (kI p2_least), .int (kI p2_most), .int (kI p2_goodCost), .int (kI p2_badCost), .int (kI p2_referCost)])), (a_p2_good, cAI G 1000 p2_good), (a_p2_bad, cAI G 1000 p2_bad), (a_p2_open, cAI G 1000 p2_open)] → lv_has ls 8 [(0, .ref a_t), (1, .ref a_p1), (2, .ref a_p2), (3, .int (kI y3)), (4, .int (kI y4)), (5, .int (kI y5)), (6, .int (kI y6))] → W p l e (rmD 3 0 0) s m args below meth c H locs 0 0 (MQ below (QcV G A [(a_t, .inr (10, [.int (kI r.1), .int (kI r.2.1), .int (kI r.2.2)])), (a_p1, .inr (7, [.ref a_p1_score, .ref a_p1_good, .ref a_p1_bad, .ref a_p1_goodAhead, .ref a_p1_badAhead, .int (kI p1_size)])), (a_p1_score, cAI G 60 p1_score), (a_p1_good, cAI G 60 p1_good), (a_p1_bad, cAI G 60 p1_bad), (a_p1_goodAhead, cAI G 61 p1_goodAhead), (a_p1_badAhead, cAI G 61 p1_badAhead), (a_p2, .inr (5, [.ref a_p2_good, .ref a_p2_bad, .ref a_p2_open, .int (kI p2_least), .int (kI p2_most), .int (kI p2_goodCost), .int (kI p2_badCost), .int (kI p2_referCost)])), (a_p2_good, cAI G 1000 p2_good), (a_p2_bad, cAI G 1000 p2_bad), (a_p2_open, cAI G 1000 p2_open)]) args s (rmD 3 0 0).cells (rmD 3 0 0).slots A) (F0 m 49 ls []) := by
  intro y3 y4 y5 y6 h H locs ls hw hl
  rw [m_X11_seek_b49] at h
  obtain ⟨⟨hx, hb, -, -, -⟩, -⟩ := id cx
  refine lv_aload_n hx hb dX11_seek_49 rfl (lv_at hl 1 rfl) ?_
  refine lv_aload_n hx hb dX11_seek_50 rfl (lv_at hl 2 rfl) ?_
  refine lv_iload hx hb dX11_seek_51 (lv_at hl 6 rfl) ?_
  obtain ⟨r1, h1, h⟩ := bd_some h
  refine rc_I0 (v := r1) hw [1, 2, 3, 4, 5, 6, 7, 8, 9, 10] (rr_S cx hw (c_X11_fromLower l G S H.size N a_p1 a_p1_score a_p1_good a_p1_bad a_p1_goodAhead a_p1_badAhead a_p2 a_p2_good a_p2_bad a_p2_open p1_size p1_score p1_good p1_bad p1_goodAhead p1_badAhead p2_least p2_most p2_goodCost p2_badCost p2_referCost p2_good p2_bad p2_open y6 _ h1) mv_X11_19 [1, 2, 3, 4, 5, 6, 7, 8, 9, 10] rfl rfl rfl ⟨Nat.le_of_ble_eq_true rfl, Nat.le_of_ble_eq_true rfl⟩ rfl hl.1 rfl (Nat.le_of_ble_eq_true rfl) dX11_seek_53 ⟨Nat.le_of_ble_eq_true rfl, Nat.le_of_ble_eq_true rfl⟩) rfl rfl (fun H locs hw => ?_)
  refine lv_aload_n hx hb dX11_seek_56 rfl (lv_at hl 1 rfl) ?_
  refine lv_aload_n hx hb dX11_seek_57 rfl (lv_at hl 2 rfl) ?_
  refine lv_iload hx hb dX11_seek_58 (lv_at hl 5 rfl) ?_
  obtain ⟨r2, h2, h⟩ := bd_some h
  refine rc_I0 (v := r2) hw [1, 2, 3, 4, 5, 6, 7, 8, 9, 10] (rr_S cx hw (c_X11_fromUpper l G S H.size N a_p1 a_p1_score a_p1_good a_p1_bad a_p1_goodAhead a_p1_badAhead a_p2 a_p2_good a_p2_bad a_p2_open p1_size p1_score p1_good p1_bad p1_goodAhead p1_badAhead p2_least p2_most p2_goodCost p2_badCost p2_referCost p2_good p2_bad p2_open y5 _ h2) mv_X11_13 [1, 2, 3, 4, 5, 6, 7, 8, 9, 10] rfl rfl rfl ⟨Nat.le_of_ble_eq_true rfl, Nat.le_of_ble_eq_true rfl⟩ rfl hl.1 rfl (Nat.le_of_ble_eq_true rfl) dX11_seek_60 ⟨Nat.le_of_ble_eq_true rfl, Nat.le_of_ble_eq_true rfl⟩) rfl rfl (fun H locs hw => ?_)
  refine ri_iadd hx hb dX11_seek_63 ?_
  refine lv_istore (lv' := [(7, .int (kI (r1 + r2))), (0, .ref a_t), (1, .ref a_p1), (2, .ref a_p2), (3, .int (kI y3)), (4, .int (kI y4)), (5, .int (kI y5)), (6, .int (kI y6))]) hx hb dX11_seek_64 hl (by decide) rfl (fun ls hl => ?_)
  refine lv_iload hx hb dX11_seek_66 (lv_at hl 0 rfl) ?_
  refine lv_aload_n hx hb dX11_seek_68 rfl (lv_at hl 2 rfl) ?_
  refine lv_aload_n hx hb dX11_seek_69 rfl (lv_at hl 3 rfl) ?_
  refine lv_iload_n hx hb dX11_seek_70 rfl (lv_at hl 4 rfl) ?_
  obtain ⟨r3, h3, h⟩ := bd_some h
  refine rc_I0 (v := r3) hw [1, 2, 3, 4, 5, 6, 7, 8, 9, 10] (rr_S cx hw (c_X11_fromLower l G S H.size N a_p1 a_p1_score a_p1_good a_p1_bad a_p1_goodAhead a_p1_badAhead a_p2 a_p2_good a_p2_bad a_p2_open p1_size p1_score p1_good p1_bad p1_goodAhead p1_badAhead p2_least p2_most p2_goodCost p2_badCost p2_referCost p2_good p2_bad p2_open y3 _ h3) mv_X11_19 [1, 2, 3, 4, 5, 6, 7, 8, 9, 10] rfl rfl rfl ⟨Nat.le_of_ble_eq_true rfl, Nat.le_of_ble_eq_true rfl⟩ rfl hl.1 rfl (Nat.le_of_ble_eq_true rfl) dX11_seek_71 ⟨Nat.le_of_ble_eq_true rfl, Nat.le_of_ble_eq_true rfl⟩) rfl rfl (fun H locs hw => ?_)
  refine lv_aload_n hx hb dX11_seek_74 rfl (lv_at hl 2 rfl) ?_
  refine lv_aload_n hx hb dX11_seek_75 rfl (lv_at hl 3 rfl) ?_
  refine lv_iload hx hb dX11_seek_76 (lv_at hl 5 rfl) ?_
  obtain ⟨r4, h4, h⟩ := bd_some h
  refine rc_I0 (v := r4) hw [1, 2, 3, 4, 5, 6, 7, 8, 9, 10] (rr_S cx hw (c_X11_fromUpper l G S H.size N a_p1 a_p1_score a_p1_good a_p1_bad a_p1_goodAhead a_p1_badAhead a_p2 a_p2_good a_p2_bad a_p2_open p1_size p1_score p1_good p1_bad p1_goodAhead p1_badAhead p2_least p2_most p2_goodCost p2_badCost p2_referCost p2_good p2_bad p2_open y4 _ h4) mv_X11_13 [1, 2, 3, 4, 5, 6, 7, 8, 9, 10] rfl rfl rfl ⟨Nat.le_of_ble_eq_true rfl, Nat.le_of_ble_eq_true rfl⟩ rfl hl.1 rfl (Nat.le_of_ble_eq_true rfl) dX11_seek_78 ⟨Nat.le_of_ble_eq_true rfl, Nat.le_of_ble_eq_true rfl⟩) rfl rfl (fun H locs hw => ?_)
  refine ri_iadd hx hb dX11_seek_81 ?_
  obtain ⟨g5, h⟩ := gd_some h
  obtain ⟨g6, h⟩ := gd_some h
  refine ri_icmp_gt (tgt := 92) hx hb g5 g6 dX11_seek_82 (by decide) (fun c7 => ?_) (fun c7 => ?_)
  · have h := it_pos c7 h
    exact w_X11_seek_b92 cx hlk hr N a_t a_p1 a_p1_score a_p1_good a_p1_bad a_p1_goodAhead a_p1_badAhead a_p2 a_p2_good a_p2_bad a_p2_open p1_size p1_score p1_good p1_bad p1_goodAhead p1_badAhead p2_least p2_most p2_goodCost p2_badCost p2_referCost p2_good p2_bad p2_open t_lower t_upper t_together r k23 hk23 y3 y4 y5 y6 h _ _ _ hw (lv_sub hl [1, 2, 3, 4, 5, 6, 7] rfl)
  · have h := it_neg c7 h
    refine lv_iload hx hb dX11_seek_85 (lv_at hl 7 rfl) ?_
    refine lv_istore_n (lv' := [(3, .int (kI y6)), (7, .int (kI (r1 + r2))), (0, .ref a_t), (1, .ref a_p1), (2, .ref a_p2), (4, .int (kI y4)), (5, .int (kI y5)), (6, .int (kI y6))]) hx hb dX11_seek_87 rfl hl (by decide) rfl (fun ls hl => ?_)
    refine lv_iload hx hb dX11_seek_88 (lv_at hl 6 rfl) ?_
    refine lv_istore (lv' := [(4, .int (kI y5)), (3, .int (kI y6)), (7, .int (kI (r1 + r2))), (0, .ref a_t), (1, .ref a_p1), (2, .ref a_p2), (5, .int (kI y5)), (6, .int (kI y6))]) hx hb dX11_seek_90 hl (by decide) rfl (fun ls hl => ?_)
    exact w_X11_seek_b92 cx hlk hr N a_t a_p1 a_p1_score a_p1_good a_p1_bad a_p1_goodAhead a_p1_badAhead a_p2 a_p2_good a_p2_bad a_p2_open p1_size p1_score p1_good p1_bad p1_goodAhead p1_badAhead p2_least p2_most p2_goodCost p2_badCost p2_referCost p2_good p2_bad p2_open t_lower t_upper t_together r k23 hk23 y6 y5 y5 y6 h _ _ _ hw (lv_sub hl [3, 4, 5, 1, 0, 6, 7] rfl)
set_option maxHeartbeats 4000000 in
set_option maxRecDepth 100000 in
theorem w_X11_seek_b23 {p : Program} {l : Launch} {e : Env} {s : State} {m : MethodId} {args : Array Value} {below : List Frame} {meth : Method} {c : Code} {A : Nat → Prop} {G : GG} {S : SM} (cx : CX p s m args c cX11_seek RX11 8 G S A) (hlk : meth.locks = false) (hr : meth.sig.returnType = none) (N : Nat) (a_t a_p1 a_p1_score a_p1_good a_p1_bad a_p1_goodAhead a_p1_badAhead a_p2 a_p2_good a_p2_bad a_p2_open : Nat) (p1_size : Int) (p1_score : Int → Int) (p1_good : Int → Int) (p1_bad : Int → Int) (p1_goodAhead : Int → Int) (p1_badAhead : Int → Int) (p2_least : Int) (p2_most : Int) (p2_goodCost : Int) (p2_badCost : Int) (p2_referCost : Int) (p2_good : Int → Int) (p2_bad : Int → Int) (p2_open : Int → Int) (t_lower : Int) (t_upper : Int) (t_together : Int) (r : Int × Int × Int) : ∀ n : Nat, PL_X11_seek_b23 p l e s m args below meth c A G S a_t a_p1 a_p1_score a_p1_good a_p1_bad a_p1_goodAhead a_p1_badAhead a_p2 a_p2_good a_p2_bad a_p2_open p1_size p1_score p1_good p1_bad p1_goodAhead p1_badAhead p2_least p2_most p2_goodCost p2_badCost p2_referCost p2_good p2_bad p2_open t_lower t_upper t_together r (m_X11_seek_b23 N p1_size p1_score p1_goodAhead p1_badAhead p2_goodCost p2_badCost p2_referCost t_lower t_upper t_together n) := by
  intro n
  induction n with
  | zero => intro y3 y4 y5 y6 h; exact nomatch h
  | succ n ih =>
    intro y3 y4 y5 y6 h H locs ls hw hl
    rw [m_X11_seek_b23] at h
    obtain ⟨⟨hx, hb, -, -, -⟩, -⟩ := id cx
    refine lv_iload hx hb dX11_seek_23 (lv_at hl 6 rfl) ?_
    obtain ⟨g1, h⟩ := gd_some h
    refine ri_if_lt (tgt := 98) hx hb g1 dX11_seek_25 (by decide) (fun c2 => ?_) (fun c2 => ?_)
    · have h := it_pos c2 h
      refine lv_aload_n hx hb dX11_seek_98 rfl (lv_at hl 0 rfl) ?_
      refine lv_aload_n hx hb dX11_seek_99 rfl (lv_at hl 1 rfl) ?_
      refine lv_iload_n hx hb dX11_seek_100 rfl (lv_at hl 3 rfl) ?_
      obtain ⟨r3, h3, h⟩ := bd_some h
      refine rc_I0 (v := r3) hw [1, 2, 3, 4, 5, 6] (rr_V cx hw (c_X8_cutBehind l G S H.size N a_p1 a_p1_score a_p1_good a_p1_bad a_p1_goodAhead a_p1_badAhead p1_size p1_score p1_good p1_bad p1_goodAhead p1_badAhead y3 _ h3) mv_X11_22 [1, 2, 3, 4, 5, 6] rfl rfl rfl 1 rfl rfl ⟨Nat.le_of_ble_eq_true rfl, Nat.le_of_ble_eq_true rfl⟩ rfl hl.1 rfl (Nat.le_of_ble_eq_true rfl) dX11_seek_101 ⟨Nat.le_of_ble_eq_true rfl, Nat.le_of_ble_eq_true rfl⟩) rfl rfl (fun H locs hw => ?_)
      refine rf_put hx hb cx hw 0 rfl rfl 0 inX11 tyX11 tyX11_ok nmX11 (by decide) fl_X11_26 rfl rfl rfl rfl (Nat.le_of_ble_eq_true rfl) dX11_seek_104 (fun H locs hw => ?_)
      have hw : HP G A s.heap H locs [(a_t, .inr (10, [.int (kI r3), .int (kI t_upper), .int (kI t_together)])), (a_p1, .inr (7, [.ref a_p1_score, .ref a_p1_good, .ref a_p1_bad, .ref a_p1_goodAhead, .ref a_p1_badAhead, .int (kI p1_size)])), (a_p1_score, cAI G 60 p1_score), (a_p1_good, cAI G 60 p1_good), (a_p1_bad, cAI G 60 p1_bad), (a_p1_goodAhead, cAI G 61 p1_goodAhead), (a_p1_badAhead, cAI G 61 p1_badAhead), (a_p2, .inr (5, [.ref a_p2_good, .ref a_p2_bad, .ref a_p2_open, .int (kI p2_least), .int (kI p2_most), .int (kI p2_goodCost), .int (kI p2_badCost), .int (kI p2_referCost)])), (a_p2_good, cAI G 1000 p2_good), (a_p2_bad, cAI G 1000 p2_bad), (a_p2_open, cAI G 1000 p2_open)] := hw
      refine lv_aload_n hx hb dX11_seek_107 rfl (lv_at hl 0 rfl) ?_
      refine lv_aload_n hx hb dX11_seek_108 rfl (lv_at hl 1 rfl) ?_
      refine lv_iload hx hb dX11_seek_109 (lv_at hl 4 rfl) ?_
      obtain ⟨r4, h4, h⟩ := bd_some h
      refine rc_I0 (v := r4) hw [1, 2, 3, 4, 5, 6] (rr_V cx hw (c_X8_cutBehind l G S H.size N a_p1 a_p1_score a_p1_good a_p1_bad a_p1_goodAhead a_p1_badAhead p1_size p1_score p1_good p1_bad p1_goodAhead p1_badAhead y4 _ h4) mv_X11_22 [1, 2, 3, 4, 5, 6] rfl rfl rfl 1 rfl rfl ⟨Nat.le_of_ble_eq_true rfl, Nat.le_of_ble_eq_true rfl⟩ rfl hl.1 rfl (Nat.le_of_ble_eq_true rfl) dX11_seek_111 ⟨Nat.le_of_ble_eq_true rfl, Nat.le_of_ble_eq_true rfl⟩) rfl rfl (fun H locs hw => ?_)
      refine rf_put hx hb cx hw 0 rfl rfl 1 inX11 tyX11 tyX11_ok nmX11 (by decide) fl_X11_29 rfl rfl rfl rfl (Nat.le_of_ble_eq_true rfl) dX11_seek_114 (fun H locs hw => ?_)
      have hw : HP G A s.heap H locs [(a_t, .inr (10, [.int (kI r3), .int (kI r4), .int (kI t_together)])), (a_p1, .inr (7, [.ref a_p1_score, .ref a_p1_good, .ref a_p1_bad, .ref a_p1_goodAhead, .ref a_p1_badAhead, .int (kI p1_size)])), (a_p1_score, cAI G 60 p1_score), (a_p1_good, cAI G 60 p1_good), (a_p1_bad, cAI G 60 p1_bad), (a_p1_goodAhead, cAI G 61 p1_goodAhead), (a_p1_badAhead, cAI G 61 p1_badAhead), (a_p2, .inr (5, [.ref a_p2_good, .ref a_p2_bad, .ref a_p2_open, .int (kI p2_least), .int (kI p2_most), .int (kI p2_goodCost), .int (kI p2_badCost), .int (kI p2_referCost)])), (a_p2_good, cAI G 1000 p2_good), (a_p2_bad, cAI G 1000 p2_bad), (a_p2_open, cAI G 1000 p2_open)] := hw
      refine lv_aload_n hx hb dX11_seek_117 rfl (lv_at hl 0 rfl) ?_
      refine lv_aload_n hx hb dX11_seek_118 rfl (lv_at hl 1 rfl) ?_
      refine lv_aload_n hx hb dX11_seek_119 rfl (lv_at hl 2 rfl) ?_
      refine lv_iload_n hx hb dX11_seek_120 rfl (lv_at hl 3 rfl) ?_
      obtain ⟨r5, h5, h⟩ := bd_some h
      refine rc_I0 (v := r5) hw [1, 2, 3, 4, 5, 6, 7, 8, 9, 10] (rr_S cx hw (c_X11_fromLower l G S H.size N a_p1 a_p1_score a_p1_good a_p1_bad a_p1_goodAhead a_p1_badAhead a_p2 a_p2_good a_p2_bad a_p2_open p1_size p1_score p1_good p1_bad p1_goodAhead p1_badAhead p2_least p2_most p2_goodCost p2_badCost p2_referCost p2_good p2_bad p2_open y3 _ h5) mv_X11_19 [1, 2, 3, 4, 5, 6, 7, 8, 9, 10] rfl rfl rfl ⟨Nat.le_of_ble_eq_true rfl, Nat.le_of_ble_eq_true rfl⟩ rfl hl.1 rfl (Nat.le_of_ble_eq_true rfl) dX11_seek_121 ⟨Nat.le_of_ble_eq_true rfl, Nat.le_of_ble_eq_true rfl⟩) rfl rfl (fun H locs hw => ?_)
      refine lv_aload_n hx hb dX11_seek_124 rfl (lv_at hl 1 rfl) ?_
      refine lv_aload_n hx hb dX11_seek_125 rfl (lv_at hl 2 rfl) ?_
      refine lv_iload hx hb dX11_seek_126 (lv_at hl 4 rfl) ?_
      obtain ⟨r6, h6, h⟩ := bd_some h
      refine rc_I0 (v := r6) hw [1, 2, 3, 4, 5, 6, 7, 8, 9, 10] (rr_S cx hw (c_X11_fromUpper l G S H.size N a_p1 a_p1_score a_p1_good a_p1_bad a_p1_goodAhead a_p1_badAhead a_p2 a_p2_good a_p2_bad a_p2_open p1_size p1_score p1_good p1_bad p1_goodAhead p1_badAhead p2_least p2_most p2_goodCost p2_badCost p2_referCost p2_good p2_bad p2_open y4 _ h6) mv_X11_13 [1, 2, 3, 4, 5, 6, 7, 8, 9, 10] rfl rfl rfl ⟨Nat.le_of_ble_eq_true rfl, Nat.le_of_ble_eq_true rfl⟩ rfl hl.1 rfl (Nat.le_of_ble_eq_true rfl) dX11_seek_128 ⟨Nat.le_of_ble_eq_true rfl, Nat.le_of_ble_eq_true rfl⟩) rfl rfl (fun H locs hw => ?_)
      refine ri_iadd hx hb dX11_seek_131 ?_
      refine rf_put hx hb cx hw 0 rfl rfl 2 inX11 tyX11 tyX11_ok nmX11 (by decide) fl_X11_32 rfl rfl rfl rfl (Nat.le_of_ble_eq_true rfl) dX11_seek_132 (fun H locs hw => ?_)
      have hw : HP G A s.heap H locs [(a_t, .inr (10, [.int (kI r3), .int (kI r4), .int (kI (r5 + r6))])), (a_p1, .inr (7, [.ref a_p1_score, .ref a_p1_good, .ref a_p1_bad, .ref a_p1_goodAhead, .ref a_p1_badAhead, .int (kI p1_size)])), (a_p1_score, cAI G 60 p1_score), (a_p1_good, cAI G 60 p1_good), (a_p1_bad, cAI G 60 p1_bad), (a_p1_goodAhead, cAI G 61 p1_goodAhead), (a_p1_badAhead, cAI G 61 p1_badAhead), (a_p2, .inr (5, [.ref a_p2_good, .ref a_p2_bad, .ref a_p2_open, .int (kI p2_least), .int (kI p2_most), .int (kI p2_goodCost), .int (kI p2_badCost), .int (kI p2_referCost)])), (a_p2_good, cAI G 1000 p2_good), (a_p2_bad, cAI G 1000 p2_bad), (a_p2_open, cAI G 1000 p2_open)] := hw
      obtain rfl := so_inj h
      exact re_v hx hb hlk hr cx hw (Nat.le_of_ble_eq_true rfl) (Nat.le_of_ble_eq_true rfl) dX11_seek_135
    · have h := it_neg c2 h
      refine lv_aload_n hx hb dX11_seek_28 rfl (lv_at hl 1 rfl) ?_
      refine lv_aload_n hx hb dX11_seek_29 rfl (lv_at hl 2 rfl) ?_
      refine lv_iload hx hb dX11_seek_30 (lv_at hl 6 rfl) ?_
      obtain ⟨r7, h7, h⟩ := bd_some h
      refine rc_I0 (v := r7) hw [1, 2, 3, 4, 5, 6, 7, 8, 9, 10] (rr_S cx hw (c_X11_fromUpper l G S H.size N a_p1 a_p1_score a_p1_good a_p1_bad a_p1_goodAhead a_p1_badAhead a_p2 a_p2_good a_p2_bad a_p2_open p1_size p1_score p1_good p1_bad p1_goodAhead p1_badAhead p2_least p2_most p2_goodCost p2_badCost p2_referCost p2_good p2_bad p2_open y6 _ h7) mv_X11_13 [1, 2, 3, 4, 5, 6, 7, 8, 9, 10] rfl rfl rfl ⟨Nat.le_of_ble_eq_true rfl, Nat.le_of_ble_eq_true rfl⟩ rfl hl.1 rfl (Nat.le_of_ble_eq_true rfl) dX11_seek_32 ⟨Nat.le_of_ble_eq_true rfl, Nat.le_of_ble_eq_true rfl⟩) rfl rfl (fun H locs hw => ?_)
      refine lv_aload_n hx hb dX11_seek_35 rfl (lv_at hl 1 rfl) ?_
      refine lv_aload_n hx hb dX11_seek_36 rfl (lv_at hl 2 rfl) ?_
      refine lv_iload hx hb dX11_seek_37 (lv_at hl 5 rfl) ?_
      obtain ⟨r8, h8, h⟩ := bd_some h
      refine rc_I0 (v := r8) hw [1, 2, 3, 4, 5, 6, 7, 8, 9, 10] (rr_S cx hw (c_X11_fromUpper l G S H.size N a_p1 a_p1_score a_p1_good a_p1_bad a_p1_goodAhead a_p1_badAhead a_p2 a_p2_good a_p2_bad a_p2_open p1_size p1_score p1_good p1_bad p1_goodAhead p1_badAhead p2_least p2_most p2_goodCost p2_badCost p2_referCost p2_good p2_bad p2_open y5 _ h8) mv_X11_13 [1, 2, 3, 4, 5, 6, 7, 8, 9, 10] rfl rfl rfl ⟨Nat.le_of_ble_eq_true rfl, Nat.le_of_ble_eq_true rfl⟩ rfl hl.1 rfl (Nat.le_of_ble_eq_true rfl) dX11_seek_39 ⟨Nat.le_of_ble_eq_true rfl, Nat.le_of_ble_eq_true rfl⟩) rfl rfl (fun H locs hw => ?_)
      obtain ⟨g9, h⟩ := gd_some h
      obtain ⟨g10, h⟩ := gd_some h
      refine ri_icmp_gt (tgt := 49) hx hb g9 g10 dX11_seek_42 (by decide) (fun c11 => ?_) (fun c11 => ?_)
      · have h := it_pos c11 h
        exact w_X11_seek_b49 cx hlk hr N a_t a_p1 a_p1_score a_p1_good a_p1_bad a_p1_goodAhead a_p1_badAhead a_p2 a_p2_good a_p2_bad a_p2_open p1_size p1_score p1_good p1_bad p1_goodAhead p1_badAhead p2_least p2_most p2_goodCost p2_badCost p2_referCost p2_good p2_bad p2_open t_lower t_upper t_together r (m_X11_seek_b23 N p1_size p1_score p1_goodAhead p1_badAhead p2_goodCost p2_badCost p2_referCost t_lower t_upper t_together n) ih y3 y4 y5 y6 h _ _ _ hw (lv_sub hl [0, 1, 2, 3, 4, 5, 6] rfl)
      · have h := it_neg c11 h
        refine lv_iload hx hb dX11_seek_45 (lv_at hl 6 rfl) ?_
        refine lv_istore (lv' := [(5, .int (kI y6)), (0, .ref a_t), (1, .ref a_p1), (2, .ref a_p2), (3, .int (kI y3)), (4, .int (kI y4)), (6, .int (kI y6))]) hx hb dX11_seek_47 hl (by decide) rfl (fun ls hl => ?_)
        exact w_X11_seek_b49 cx hlk hr N a_t a_p1 a_p1_score a_p1_good a_p1_bad a_p1_goodAhead a_p1_badAhead a_p2 a_p2_good a_p2_bad a_p2_open p1_size p1_score p1_good p1_bad p1_goodAhead p1_badAhead p2_least p2_most p2_goodCost p2_badCost p2_referCost p2_good p2_bad p2_open t_lower t_upper t_together r (m_X11_seek_b23 N p1_size p1_score p1_goodAhead p1_badAhead p2_goodCost p2_badCost p2_referCost t_lower t_upper t_together n) ih y3 y4 y6 y6 h _ _ _ hw (lv_sub hl [1, 2, 3, 4, 5, 0, 6] rfl)
set_option maxHeartbeats 4000000 in
set_option maxRecDepth 100000 in
theorem c_X11_seek (l : Launch) (G : GG) (S : SM) (sz : Nat) (N : Nat) (a_t a_p1 a_p1_score a_p1_good a_p1_bad a_p1_goodAhead a_p1_badAhead a_p2 a_p2_good a_p2_bad a_p2_open : Nat) (t_lower : Int) (t_upper : Int) (t_together : Int) (p1_size : Int) (p1_score : Int → Int) (p1_good : Int → Int) (p1_bad : Int → Int) (p1_goodAhead : Int → Int) (p1_badAhead : Int → Int) (p2_least : Int) (p2_most : Int) (p2_goodCost : Int) (p2_badCost : Int) (p2_referCost : Int) (p2_good : Int → Int) (p2_bad : Int → Int) (p2_open : Int → Int)  (r : Int × Int × Int) (h : m_X11_seek N p1_size p1_score p1_goodAhead p1_badAhead p2_goodCost p2_badCost p2_referCost t_lower t_upper t_together = some r) : CtV l yX11_seek cX11_seek 8 (rmD 3 0 0) G S sz [.ref a_t, .ref a_p1, .ref a_p2] [(a_t, .inr (10, [.int (kI t_lower), .int (kI t_upper), .int (kI t_together)])), (a_p1, .inr (7, [.ref a_p1_score, .ref a_p1_good, .ref a_p1_bad, .ref a_p1_goodAhead, .ref a_p1_badAhead, .int (kI p1_size)])), (a_p1_score, cAI G 60 p1_score), (a_p1_good, cAI G 60 p1_good), (a_p1_bad, cAI G 60 p1_bad), (a_p1_goodAhead, cAI G 61 p1_goodAhead), (a_p1_badAhead, cAI G 61 p1_badAhead), (a_p2, .inr (5, [.ref a_p2_good, .ref a_p2_bad, .ref a_p2_open, .int (kI p2_least), .int (kI p2_most), .int (kI p2_goodCost), .int (kI p2_badCost), .int (kI p2_referCost)])), (a_p2_good, cAI G 1000 p2_good), (a_p2_bad, cAI G 1000 p2_bad), (a_p2_open, cAI G 1000 p2_open)] [(a_t, .inr (10, [.int (kI r.1), .int (kI r.2.1), .int (kI r.2.2)])), (a_p1, .inr (7, [.ref a_p1_score, .ref a_p1_good, .ref a_p1_bad, .ref a_p1_goodAhead, .ref a_p1_badAhead, .int (kI p1_size)])), (a_p1_score, cAI G 60 p1_score), (a_p1_good, cAI G 60 p1_good), (a_p1_bad, cAI G 60 p1_bad), (a_p1_goodAhead, cAI G 61 p1_goodAhead), (a_p1_badAhead, cAI G 61 p1_badAhead), (a_p2, .inr (5, [.ref a_p2_good, .ref a_p2_bad, .ref a_p2_open, .int (kI p2_least), .int (kI p2_most), .int (kI p2_goodCost), .int (kI p2_badCost), .int (kI p2_referCost)])), (a_p2_good, cAI G 1000 p2_good), (a_p2_bad, cAI G 1000 p2_bad), (a_p2_open, cAI G 1000 p2_open)] := by
  refine met_V (by decide +kernel) (Nat.le_of_ble_eq_true rfl) ?_
  intro p e s m args below meth c A H locs ls cx hw hr hlk hnm hl
  have hl : lv_has ls 8 [(0, .ref a_t), (1, .ref a_p1), (2, .ref a_p2)] := hl
  rw [m_X11_seek] at h
  obtain ⟨⟨hx, hb, -, -, -⟩, -⟩ := id cx
  refine lv_aload_n hx hb dX11_seek_0 rfl (lv_at hl 1 rfl) ?_
  refine rf_get hx hb cx hw 1 rfl rfl 5 inX8 (by decide) fl_X11_7 rfl rfl dX11_seek_1 ?_
  refine lv_istore_n (lv' := [(3, .int (kI p1_size)), (0, .ref a_t), (1, .ref a_p1), (2, .ref a_p2)]) hx hb dX11_seek_4 rfl hl (by decide) rfl (fun ls hl => ?_)
  refine lv_aload_n hx hb dX11_seek_5 rfl (lv_at hl 2 rfl) ?_
  refine rf_get hx hb cx hw 1 rfl rfl 5 inX8 (by decide) fl_X11_7 rfl rfl dX11_seek_6 ?_
  refine lv_istore (lv' := [(4, .int (kI p1_size)), (3, .int (kI p1_size)), (0, .ref a_t), (1, .ref a_p1), (2, .ref a_p2)]) hx hb dX11_seek_9 hl (by decide) rfl (fun ls hl => ?_)
  refine lv_aload_n hx hb dX11_seek_11 rfl (lv_at hl 3 rfl) ?_
  refine rf_get hx hb cx hw 1 rfl rfl 5 inX8 (by decide) fl_X11_7 rfl rfl dX11_seek_12 ?_
  refine lv_istore (lv' := [(5, .int (kI p1_size)), (4, .int (kI p1_size)), (3, .int (kI p1_size)), (0, .ref a_t), (1, .ref a_p1), (2, .ref a_p2)]) hx hb dX11_seek_15 hl (by decide) rfl (fun ls hl => ?_)
  refine lv_aload_n hx hb dX11_seek_17 rfl (lv_at hl 4 rfl) ?_
  refine rf_get hx hb cx hw 1 rfl rfl 5 inX8 (by decide) fl_X11_7 rfl rfl dX11_seek_18 ?_
  refine lv_istore (lv' := [(6, .int (kI p1_size)), (5, .int (kI p1_size)), (4, .int (kI p1_size)), (3, .int (kI p1_size)), (0, .ref a_t), (1, .ref a_p1), (2, .ref a_p2)]) hx hb dX11_seek_21 hl (by decide) rfl (fun ls hl => ?_)
  exact w_X11_seek_b23 cx hlk hr N a_t a_p1 a_p1_score a_p1_good a_p1_bad a_p1_goodAhead a_p1_badAhead a_p2 a_p2_good a_p2_bad a_p2_open p1_size p1_score p1_good p1_bad p1_goodAhead p1_badAhead p2_least p2_most p2_goodCost p2_badCost p2_referCost p2_good p2_bad p2_open t_lower t_upper t_together r N p1_size p1_size p1_size p1_size h _ _ _ hw (lv_sub hl [4, 5, 6, 3, 2, 1, 0] rfl)
set_option maxHeartbeats 4000000 in
set_option maxRecDepth 100000 in
theorem c_X11_advice (l : Launch) (G : GG) (S : SM) (sz : Nat) (N : Nat) (a_t : Nat) (t_lower : Int) (t_upper : Int) (t_together : Int) (x1 : Int) (r : Int) (h : m_X11_advice N t_lower t_upper x1 = some r) : CtI l yX11_advice cX11_advice 2 .int (rmD 1 0 0) G S sz [.ref a_t, .int (kI x1)] [(a_t, .inr (10, [.int (kI t_lower), .int (kI t_upper), .int (kI t_together)]))] r [(a_t, .inr (10, [.int (kI t_lower), .int (kI t_upper), .int (kI t_together)]))] := by
  refine met_I (by decide +kernel) (Nat.le_of_ble_eq_true rfl) ?_
  intro p e s m args below meth c A H locs ls cx hw hr hlk hnm hl
  have hl : lv_has ls 2 [(0, .ref a_t), (1, .int (kI x1))] := hl
  rw [m_X11_advice] at h
  obtain ⟨⟨hx, hb, -, -, -⟩, -⟩ := id cx
  refine lv_iload_n hx hb dX11_advice_0 rfl (lv_at hl 1 rfl) ?_
  refine lv_aload_n hx hb dX11_advice_1 rfl (lv_at hl 0 rfl) ?_
  refine rf_get hx hb cx hw 0 rfl rfl 0 inX11 (by decide) fl_X11_26 rfl rfl dX11_advice_2 ?_
  obtain ⟨g1, h⟩ := gd_some h
  obtain ⟨g2, h⟩ := gd_some h
  refine ri_icmp_ge (tgt := 10) hx hb g1 g2 dX11_advice_5 (by decide) (fun c3 => ?_) (fun c3 => ?_)
  · have h := it_pos c3 h
    refine lv_iload_n hx hb dX11_advice_10 rfl (lv_at hl 1 rfl) ?_
    refine lv_aload_n hx hb dX11_advice_11 rfl (lv_at hl 0 rfl) ?_
    refine rf_get hx hb cx hw 0 rfl rfl 1 inX11 (by decide) fl_X11_29 rfl rfl dX11_advice_12 ?_
    obtain ⟨g4, h⟩ := gd_some h
    refine ri_icmp_ge (tgt := 22) hx hb g1 g4 dX11_advice_15 (by decide) (fun c5 => ?_) (fun c5 => ?_)
    · have h := it_pos c5 h
      refine ri_iconst hx hb dX11_advice_22 ?_
      obtain rfl := so_inj h
      exact re_i hx hb hlk hr cx hw (Nat.le_of_ble_eq_true rfl) (Nat.le_of_ble_eq_true rfl) dX11_advice_23
    · have h := it_neg c5 h
      refine ri_iconst hx hb dX11_advice_18 ?_
      refine lv_goto (tgt := 23) hx hb dX11_advice_19 (by decide) ?_
      obtain rfl := so_inj h
      exact re_i hx hb hlk hr cx hw (Nat.le_of_ble_eq_true rfl) (Nat.le_of_ble_eq_true rfl) dX11_advice_23
  · have h := it_neg c3 h
    refine ri_iconst hx hb dX11_advice_8 ?_
    obtain rfl := so_inj h
    exact re_i hx hb hlk hr cx hw (Nat.le_of_ble_eq_true rfl) (Nat.le_of_ble_eq_true rfl) dX11_advice_9
set_option maxHeartbeats 4000000 in
set_option maxRecDepth 100000 in
theorem w_X13_in_b17 {p : Program} {l : Launch} {e : Env} {s : State} {m : MethodId} {args : Array Value} {below : List Frame} {meth : Method} {c : Code} {A : Nat → Prop} {G : GG} {S : SM} (cx : CX p s m args c cX13_in RX13 6 G S A) (hlk : meth.locks = false) (hr : meth.sig.returnType = some .boolean) (N : Nat) (x0 : Int) (x2 : Int) (x4 : Int) (r : Int) : m_X13_in_b17 N x0 x2 x4 = some r → ∀ (H : Heap) (locs : List Loc) (ls : Array Slot), HP G A s.heap H locs [] → lv_has ls 6 [] → W p l e (rmD 1 0 0) s m args below meth c H locs 0 0 (MQ below (QcI G A r []) args s (rmD 1 0 0).cells (rmD 1 0 0).slots A) (F0 m 17 ls []) := by
  intro  h H locs ls hw hl
  rw [m_X13_in_b17] at h
  obtain ⟨⟨hx, hb, -, -, -⟩, -⟩ := id cx
  refine ri_iconst hx hb dX13_in_17 ?_
  obtain rfl := so_inj h
  exact re_z (Or.inl rfl)  hx hb hlk hr cx hw (Nat.le_of_ble_eq_true rfl) (Nat.le_of_ble_eq_true rfl) dX13_in_18
set_option maxHeartbeats 4000000 in
set_option maxRecDepth 100000 in
theorem c_X13_in (l : Launch) (G : GG) (S : SM) (sz : Nat) (N : Nat)  (x0 : Int) (x2 : Int) (x4 : Int) (r : Int) (h : m_X13_in N x0 x2 x4 = some r) : CtI l yX13_in cX13_in 6 .boolean (rmD 1 0 0) G S sz [.long (kL x0), .long (kL x2), .long (kL x4)] [] r [] := by
  refine met_I (by decide +kernel) (Nat.le_of_ble_eq_true rfl) ?_
  intro p e s m args below meth c A H locs ls cx hw hr hlk hnm hl
  have hl : lv_has ls 6 [(0, .long (kL x0)), (2, .long (kL x2)), (4, .long (kL x4))] := hl
  rw [m_X13_in] at h
  obtain ⟨⟨hx, hb, -, -, -⟩, -⟩ := id cx
  refine lv_lload_n hx hb dX13_in_0 rfl (lv_at hl 0 rfl) ?_
  refine lv_lload_n hx hb dX13_in_1 rfl (lv_at hl 1 rfl) ?_
  obtain ⟨g1, h⟩ := gd_some h
  obtain ⟨g2, h⟩ := gd_some h
  refine ri_lcmp_lt (tgt := 17) hx hb g1 g2 dX13_in_2 dX13_in_3 (by decide) (fun c3 => ?_) (fun c3 => ?_)
  · have h := it_pos c3 h
    exact w_X13_in_b17 cx hlk hr N x0 x2 x4 r  h _ _ _ hw (lv_sub hl [] rfl)
  · have h := it_neg c3 h
    refine lv_lload_n hx hb dX13_in_6 rfl (lv_at hl 0 rfl) ?_
    refine lv_lload hx hb dX13_in_7 (lv_at hl 2 rfl) ?_
    obtain ⟨g4, h⟩ := gd_some h
    refine ri_lcmp_gt (tgt := 17) hx hb g1 g4 dX13_in_9 dX13_in_10 (by decide) (fun c5 => ?_) (fun c5 => ?_)
    · have h := it_pos c5 h
      exact w_X13_in_b17 cx hlk hr N x0 x2 x4 r  h _ _ _ hw (lv_sub hl [] rfl)
    · have h := it_neg c5 h
      refine ri_iconst hx hb dX13_in_13 ?_
      refine lv_goto (tgt := 18) hx hb dX13_in_14 (by decide) ?_
      obtain rfl := so_inj h
      exact re_z (Or.inr rfl)  hx hb hlk hr cx hw (Nat.le_of_ble_eq_true rfl) (Nat.le_of_ble_eq_true rfl) dX13_in_18
def PL_X13_common_b6 (p : Program) (l : Launch) (e : Env) (s : State) (m : MethodId) (args : Array Value) (below : List Frame) (meth : Method) (c : Code) (A : Nat → Prop) (G : GG) (S : SM) (x0 : Int) (x2 : Int) (r : Int) (kk : Int → Int → Option (Int)) : Prop := ∀ (y4 : Int) (y6 : Int), kk y4 y6 = some r → ∀ (H : Heap) (locs : List Loc) (ls : Array Slot), HP G A s.heap H locs [] → lv_has ls 10 [(4, .long (kL y4)), (6, .long (kL y6))] → W p l e (rmD 1 0 0) s m args below meth c H locs 0 0 (MQ below (QcL G A r []) args s (rmD 1 0 0).cells (rmD 1 0 0).slots A) (F0 m 6 ls [])
set_option maxHeartbeats 4000000 in
set_option maxRecDepth 100000 in
theorem w_X13_common_b6 {p : Program} {l : Launch} {e : Env} {s : State} {m : MethodId} {args : Array Value} {below : List Frame} {meth : Method} {c : Code} {A : Nat → Prop} {G : GG} {S : SM} (cx : CX p s m args c cX13_common RX13 10 G S A) (hlk : meth.locks = false) (hr : meth.sig.returnType = some .long) (N : Nat) (x0 : Int) (x2 : Int) (r : Int) : ∀ n : Nat, PL_X13_common_b6 p l e s m args below meth c A G S x0 x2 r (m_X13_common_b6 N x0 x2 n) := by
  intro n
  induction n with
  | zero => intro y4 y6 h; exact nomatch h
  | succ n ih =>
    intro y4 y6 h H locs ls hw hl
    rw [m_X13_common_b6] at h
    obtain ⟨⟨hx, hb, -, -, -⟩, -⟩ := id cx
    refine lv_lload hx hb dX13_common_6 (lv_at hl 1 rfl) ?_
    refine ri_lconst hx hb 0 dX13_common_8 rfl ?_
    obtain ⟨g1, h⟩ := gd_some h
    refine ri_lcmp_eq (tgt := 31) hx hb g1 ⟨by decide, by decide⟩ dX13_common_9 dX13_common_10 (by decide) (fun c2 => ?_) (fun c2 => ?_)
    · have h := it_pos c2 h
      refine lv_lload hx hb dX13_common_31 (lv_at hl 0 rfl) ?_
      refine ri_lconst hx hb 0 dX13_common_33 rfl ?_
      obtain ⟨g3, h⟩ := gd_some h
      refine ri_lcmp_ge (tgt := 44) hx hb g3 ⟨by decide, by decide⟩ dX13_common_34 dX13_common_35 (by decide) (fun c4 => ?_) (fun c4 => ?_)
      · have h := it_pos c4 h
        refine lv_lload hx hb dX13_common_44 (lv_at hl 0 rfl) ?_
        obtain rfl := so_inj h
        exact re_l hx hb hlk hr cx hw (Nat.le_of_ble_eq_true rfl) (Nat.le_of_ble_eq_true rfl) dX13_common_46
      · have h := it_neg c4 h
        refine lv_lload hx hb dX13_common_38 (lv_at hl 0 rfl) ?_
        refine ri_lneg hx hb dX13_common_40 ?_
        refine lv_goto (tgt := 46) hx hb dX13_common_41 (by decide) ?_
        obtain rfl := so_inj h
        exact re_l hx hb hlk hr cx hw (Nat.le_of_ble_eq_true rfl) (Nat.le_of_ble_eq_true rfl) dX13_common_46
    · have h := it_neg c2 h
      refine lv_lload hx hb dX13_common_13 (lv_at hl 0 rfl) ?_
      refine lv_lload hx hb dX13_common_15 (lv_at hl 1 rfl) ?_
      obtain ⟨g5, h⟩ := gd_some h
      refine ri_lrem hx hb g5 dX13_common_17 ?_
      refine lv_lstore (lv' := [(8, .long (kL (y4 % y6))), (4, .long (kL y4)), (6, .long (kL y6))]) hx hb dX13_common_18 hl (by decide) rfl (fun ls hl => ?_)
      refine lv_lload hx hb dX13_common_20 (lv_at hl 2 rfl) ?_
      refine lv_lstore (lv' := [(4, .long (kL y6)), (8, .long (kL (y4 % y6))), (6, .long (kL y6))]) hx hb dX13_common_22 hl (by decide) rfl (fun ls hl => ?_)
      refine lv_lload hx hb dX13_common_24 (lv_at hl 1 rfl) ?_
      refine lv_lstore (lv' := [(6, .long (kL (y4 % y6))), (4, .long (kL y6)), (8, .long (kL (y4 % y6)))]) hx hb dX13_common_26 hl (by decide) rfl (fun ls hl => ?_)
      refine lv_goto (tgt := 6) hx hb dX13_common_28 (by decide) ?_
      exact ih y6 (y4 % y6) h _ _ _ hw (lv_sub hl [1, 0] rfl)
set_option maxHeartbeats 4000000 in
set_option maxRecDepth 100000 in
theorem c_X13_common (l : Launch) (G : GG) (S : SM) (sz : Nat) (N : Nat)  (x0 : Int) (x2 : Int) (r : Int) (h : m_X13_common N x0 x2 = some r) : CtL l yX13_common cX13_common 10 (rmD 1 0 0) G S sz [.long (kL x0), .long (kL x2)] [] r [] := by
  refine met_L (by decide +kernel) (Nat.le_of_ble_eq_true rfl) ?_
  intro p e s m args below meth c A H locs ls cx hw hr hlk hnm hl
  have hl : lv_has ls 10 [(0, .long (kL x0)), (2, .long (kL x2))] := hl
  rw [m_X13_common] at h
  obtain ⟨⟨hx, hb, -, -, -⟩, -⟩ := id cx
  refine lv_lload_n hx hb dX13_common_0 rfl (lv_at hl 0 rfl) ?_
  refine lv_lstore (lv' := [(4, .long (kL x0)), (0, .long (kL x0)), (2, .long (kL x2))]) hx hb dX13_common_1 hl (by decide) rfl (fun ls hl => ?_)
  refine lv_lload_n hx hb dX13_common_3 rfl (lv_at hl 2 rfl) ?_
  refine lv_lstore (lv' := [(6, .long (kL x2)), (4, .long (kL x0)), (0, .long (kL x0)), (2, .long (kL x2))]) hx hb dX13_common_4 hl (by decide) rfl (fun ls hl => ?_)
  exact w_X13_common_b6 cx hlk hr N x0 x2 r N x0 x2 h _ _ _ hw (lv_sub hl [1, 0] rfl)
set_option maxHeartbeats 4000000 in
set_option maxRecDepth 100000 in
theorem c_X13_told (l : Launch) (G : GG) (S : SM) (sz : Nat) (N : Nat)  (x0 : Int) (x2 : Int) (x4 : Int) (r : Int) (h : m_X13_told N x0 x2 x4 = some r) : CtL l yX13_told cX13_told 7 (rmD 2 0 0) G S sz [.long (kL x0), .long (kL x2), .int (kI x4)] [] r [] := by
  refine met_L (by decide +kernel) (Nat.le_of_ble_eq_true rfl) ?_
  intro p e s m args below meth c A H locs ls cx hw hr hlk hnm hl
  have hl : lv_has ls 7 [(0, .long (kL x0)), (2, .long (kL x2)), (4, .int (kI x4))] := hl
  rw [m_X13_told] at h
  obtain ⟨⟨hx, hb, -, -, -⟩, -⟩ := id cx
  refine lv_lload_n hx hb dX13_told_0 rfl (lv_at hl 0 rfl) ?_
  refine lv_lload_n hx hb dX13_told_1 rfl (lv_at hl 1 rfl) ?_
  obtain ⟨r1, h1, h⟩ := bd_some h
  refine rc_L0 (v := r1) hw [] (rr_S cx hw (c_X13_common l G S H.size N x0 x2 _ h1) mv_X13_5 [] rfl rfl rfl ⟨Nat.le_of_ble_eq_true rfl, Nat.le_of_ble_eq_true rfl⟩ rfl hl.1 rfl (Nat.le_of_ble_eq_true rfl) dX13_told_2 ⟨Nat.le_of_ble_eq_true rfl, Nat.le_of_ble_eq_true rfl⟩) rfl rfl (fun H locs hw => ?_)
  refine lv_lstore (lv' := [(5, .long (kL r1)), (0, .long (kL x0)), (2, .long (kL x2)), (4, .int (kI x4))]) hx hb dX13_told_5 hl (by decide) rfl (fun ls hl => ?_)
  refine lv_iload hx hb dX13_told_7 (lv_at hl 3 rfl) ?_
  obtain ⟨g2, h⟩ := gd_some h
  refine ri_if_ne (tgt := 19) hx hb g2 dX13_told_9 (by decide) (fun c3 => ?_) (fun c3 => ?_)
  · have h := it_pos c3 h
    refine lv_lload_n hx hb dX13_told_12 rfl (lv_at hl 1 rfl) ?_
    refine lv_lload hx hb dX13_told_13 (lv_at hl 0 rfl) ?_
    obtain ⟨g4, h⟩ := gd_some h
    refine ri_ldiv hx hb g4 dX13_told_15 ?_
    refine lv_goto (tgt := 23) hx hb dX13_told_16 (by decide) ?_
    obtain rfl := so_inj h
    exact re_l hx hb hlk hr cx hw (Nat.le_of_ble_eq_true rfl) (Nat.le_of_ble_eq_true rfl) dX13_told_23
  · have h := it_neg c3 h
    refine lv_lload_n hx hb dX13_told_19 rfl (lv_at hl 2 rfl) ?_
    refine lv_lload hx hb dX13_told_20 (lv_at hl 0 rfl) ?_
    obtain ⟨g5, h⟩ := gd_some h
    refine ri_ldiv hx hb g5 dX13_told_22 ?_
    obtain rfl := so_inj h
    exact re_l hx hb hlk hr cx hw (Nat.le_of_ble_eq_true rfl) (Nat.le_of_ble_eq_true rfl) dX13_told_23
def PL_X13_begins_b70 (p : Program) (l : Launch) (e : Env) (s : State) (m : MethodId) (args : Array Value) (below : List Frame) (meth : Method) (c : Code) (A : Nat → Prop) (G : GG) (S : SM) (a_t a_t_state a_t_kept a_t_was a_t_sample a_t_months a_t_tape a_t_read a_t_isTold a_t_readRules a_t_score a_t_good a_t_badOnes a_t_start a_t_below a_t_errorBy a_t_lastBy a_t_out : Nat) (t_taped : Int) (t_faultKind : Int) (t_faultPlace : Int) (t_readAts : Int) (t_lines : Int) (t_at : Int) (t_begin : Int) (t_token : Int) (t_value : Int) (t_bad : Int) (t_rows : Int) (t_bands : Int) (t_one : Int) (t_other : Int) (t_both : Int) (t_driftAbove : Int) (t_driftBelow : Int) (t_driftMost : Int) (t_outs : Int) (t_kept : Int → Int) (t_was : Int → Int) (t_months : Int → Int) (t_tape : Int → Int) (t_read : Int → Int) (t_isTold : Int → Int) (t_readRules : Int → Int) (t_score : Int → Int) (t_good : Int → Int) (t_badOnes : Int → Int) (t_start : Int → Int) (t_below : Int → Int) (t_errorBy : Int → UInt64) (t_lastBy : Int → Int) (t_out : Int → Int) (t_keptMany : Int) (t_monthMany : Int) (t_state : Int → Int) (r : Int × Int × (Int → Int) × (Int → Int)) (kk : (Int → Int) → Int → Option (Int × Int × (Int → Int) × (Int → Int))) : Prop := ∀ (t_sample : Int → Int) (y1 : Int), kk t_sample y1 = some r → ∀ (H : Heap) (locs : List Loc) (ls : Array Slot), HP G A s.heap H locs [(a_t, .inr (12, [.ref a_t_state, .ref a_t_kept, .ref a_t_was, .int (kI t_keptMany), .ref a_t_sample, .ref a_t_months, .int (kI t_monthMany), .ref a_t_tape, .int (kI t_taped), .int (kI t_faultKind), .int (kI t_faultPlace), .ref a_t_read, .ref a_t_isTold, .ref a_t_readRules, .int (kI t_readAts), .int (kI t_lines), .int (kI t_at), .int (kI t_begin), .int (kI t_token), .int (kI t_value), .int (kI t_bad), .ref a_t_score, .ref a_t_good, .ref a_t_badOnes, .int (kI t_rows), .ref a_t_start, .int (kI t_bands), .ref a_t_below, .int (kI t_one), .int (kI t_other), .long (kL t_both), .long (kL t_driftAbove), .long (kL t_driftBelow), .int (kI t_driftMost), .ref a_t_errorBy, .ref a_t_lastBy, .ref a_t_out, .int (kI t_outs)])), (a_t_state, cAI G 3206 t_state), (a_t_kept, cAI G 32060 t_kept), (a_t_was, cAI G 3206 t_was), (a_t_sample, cAI G 1000 t_sample), (a_t_months, cAI G 12000 t_months), (a_t_tape, cAI G 1600 t_tape), (a_t_read, cAI G 3000 t_read), (a_t_isTold, cAZ G 1000 t_isTold), (a_t_readRules, cAI G 5 t_readRules), (a_t_score, cAI G 61 t_score), (a_t_good, cAI G 61 t_good), (a_t_badOnes, cAI G 61 t_badOnes), (a_t_start, cAI G 62 t_start), (a_t_below, cAL G 2002 t_below), (a_t_errorBy, cAD G 3721 t_errorBy), (a_t_lastBy, cAI G 3721 t_lastBy), (a_t_out, cAI G 1400 t_out)] → lv_has ls 2 [(0, .ref a_t), (1, .int (kI y1))] → W p l e (rmD 1 0 0) s m args below meth c H locs 0 0 (MQ below (QcV G A [(a_t, .inr (12, [.ref a_t_state, .ref a_t_kept, .ref a_t_was, .int (kI r.1), .ref a_t_sample, .ref a_t_months, .int (kI r.2.1), .ref a_t_tape, .int (kI t_taped), .int (kI t_faultKind), .int (kI t_faultPlace), .ref a_t_read, .ref a_t_isTold, .ref a_t_readRules, .int (kI t_readAts), .int (kI t_lines), .int (kI t_at), .int (kI t_begin), .int (kI t_token), .int (kI t_value), .int (kI t_bad), .ref a_t_score, .ref a_t_good, .ref a_t_badOnes, .int (kI t_rows), .ref a_t_start, .int (kI t_bands), .ref a_t_below, .int (kI t_one), .int (kI t_other), .long (kL t_both), .long (kL t_driftAbove), .long (kL t_driftBelow), .int (kI t_driftMost), .ref a_t_errorBy, .ref a_t_lastBy, .ref a_t_out, .int (kI t_outs)])), (a_t_state, cAI G 3206 r.2.2.1), (a_t_kept, cAI G 32060 t_kept), (a_t_was, cAI G 3206 t_was), (a_t_sample, cAI G 1000 r.2.2.2), (a_t_months, cAI G 12000 t_months), (a_t_tape, cAI G 1600 t_tape), (a_t_read, cAI G 3000 t_read), (a_t_isTold, cAZ G 1000 t_isTold), (a_t_readRules, cAI G 5 t_readRules), (a_t_score, cAI G 61 t_score), (a_t_good, cAI G 61 t_good), (a_t_badOnes, cAI G 61 t_badOnes), (a_t_start, cAI G 62 t_start), (a_t_below, cAL G 2002 t_below), (a_t_errorBy, cAD G 3721 t_errorBy), (a_t_lastBy, cAI G 3721 t_lastBy), (a_t_out, cAI G 1400 t_out)]) args s (rmD 1 0 0).cells (rmD 1 0 0).slots A) (F0 m 70 ls [])
def PL_X13_begins_b2 (p : Program) (l : Launch) (e : Env) (s : State) (m : MethodId) (args : Array Value) (below : List Frame) (meth : Method) (c : Code) (A : Nat → Prop) (G : GG) (S : SM) (a_t a_t_state a_t_kept a_t_was a_t_sample a_t_months a_t_tape a_t_read a_t_isTold a_t_readRules a_t_score a_t_good a_t_badOnes a_t_start a_t_below a_t_errorBy a_t_lastBy a_t_out : Nat) (t_taped : Int) (t_faultKind : Int) (t_faultPlace : Int) (t_readAts : Int) (t_lines : Int) (t_at : Int) (t_begin : Int) (t_token : Int) (t_value : Int) (t_bad : Int) (t_rows : Int) (t_bands : Int) (t_one : Int) (t_other : Int) (t_both : Int) (t_driftAbove : Int) (t_driftBelow : Int) (t_driftMost : Int) (t_outs : Int) (t_kept : Int → Int) (t_was : Int → Int) (t_months : Int → Int) (t_tape : Int → Int) (t_read : Int → Int) (t_isTold : Int → Int) (t_readRules : Int → Int) (t_score : Int → Int) (t_good : Int → Int) (t_badOnes : Int → Int) (t_start : Int → Int) (t_below : Int → Int) (t_errorBy : Int → UInt64) (t_lastBy : Int → Int) (t_out : Int → Int) (t_keptMany : Int) (t_monthMany : Int) (t_sample : Int → Int) (r : Int × Int × (Int → Int) × (Int → Int)) (kk : (Int → Int) → Int → Option (Int × Int × (Int → Int) × (Int → Int))) : Prop := ∀ (t_state : Int → Int) (y1 : Int), kk t_state y1 = some r → ∀ (H : Heap) (locs : List Loc) (ls : Array Slot), HP G A s.heap H locs [(a_t, .inr (12, [.ref a_t_state, .ref a_t_kept, .ref a_t_was, .int (kI t_keptMany), .ref a_t_sample, .ref a_t_months, .int (kI t_monthMany), .ref a_t_tape, .int (kI t_taped), .int (kI t_faultKind), .int (kI t_faultPlace), .ref a_t_read, .ref a_t_isTold, .ref a_t_readRules, .int (kI t_readAts), .int (kI t_lines), .int (kI t_at), .int (kI t_begin), .int (kI t_token), .int (kI t_value), .int (kI t_bad), .ref a_t_score, .ref a_t_good, .ref a_t_badOnes, .int (kI t_rows), .ref a_t_start, .int (kI t_bands), .ref a_t_below, .int (kI t_one), .int (kI t_other), .long (kL t_both), .long (kL t_driftAbove), .long (kL t_driftBelow), .int (kI t_driftMost), .ref a_t_errorBy, .ref a_t_lastBy, .ref a_t_out, .int (kI t_outs)])), (a_t_state, cAI G 3206 t_state), (a_t_kept, cAI G 32060 t_kept), (a_t_was, cAI G 3206 t_was), (a_t_sample, cAI G 1000 t_sample), (a_t_months, cAI G 12000 t_months), (a_t_tape, cAI G 1600 t_tape), (a_t_read, cAI G 3000 t_read), (a_t_isTold, cAZ G 1000 t_isTold), (a_t_readRules, cAI G 5 t_readRules), (a_t_score, cAI G 61 t_score), (a_t_good, cAI G 61 t_good), (a_t_badOnes, cAI G 61 t_badOnes), (a_t_start, cAI G 62 t_start), (a_t_below, cAL G 2002 t_below), (a_t_errorBy, cAD G 3721 t_errorBy), (a_t_lastBy, cAI G 3721 t_lastBy), (a_t_out, cAI G 1400 t_out)] → lv_has ls 2 [(0, .ref a_t), (1, .int (kI y1))] → W p l e (rmD 1 0 0) s m args below meth c H locs 0 0 (MQ below (QcV G A [(a_t, .inr (12, [.ref a_t_state, .ref a_t_kept, .ref a_t_was, .int (kI r.1), .ref a_t_sample, .ref a_t_months, .int (kI r.2.1), .ref a_t_tape, .int (kI t_taped), .int (kI t_faultKind), .int (kI t_faultPlace), .ref a_t_read, .ref a_t_isTold, .ref a_t_readRules, .int (kI t_readAts), .int (kI t_lines), .int (kI t_at), .int (kI t_begin), .int (kI t_token), .int (kI t_value), .int (kI t_bad), .ref a_t_score, .ref a_t_good, .ref a_t_badOnes, .int (kI t_rows), .ref a_t_start, .int (kI t_bands), .ref a_t_below, .int (kI t_one), .int (kI t_other), .long (kL t_both), .long (kL t_driftAbove), .long (kL t_driftBelow), .int (kI t_driftMost), .ref a_t_errorBy, .ref a_t_lastBy, .ref a_t_out, .int (kI t_outs)])), (a_t_state, cAI G 3206 r.2.2.1), (a_t_kept, cAI G 32060 t_kept), (a_t_was, cAI G 3206 t_was), (a_t_sample, cAI G 1000 r.2.2.2), (a_t_months, cAI G 12000 t_months), (a_t_tape, cAI G 1600 t_tape), (a_t_read, cAI G 3000 t_read), (a_t_isTold, cAZ G 1000 t_isTold), (a_t_readRules, cAI G 5 t_readRules), (a_t_score, cAI G 61 t_score), (a_t_good, cAI G 61 t_good), (a_t_badOnes, cAI G 61 t_badOnes), (a_t_start, cAI G 62 t_start), (a_t_below, cAL G 2002 t_below), (a_t_errorBy, cAD G 3721 t_errorBy), (a_t_lastBy, cAI G 3721 t_lastBy), (a_t_out, cAI G 1400 t_out)]) args s (rmD 1 0 0).cells (rmD 1 0 0).slots A) (F0 m 2 ls [])
set_option maxHeartbeats 4000000 in
set_option maxRecDepth 100000 in
theorem w_X13_begins_b70 {p : Program} {l : Launch} {e : Env} {s : State} {m : MethodId} {args : Array Value} {below : List Frame} {meth : Method} {c : Code} {A : Nat → Prop} {G : GG} {S : SM} (cx : CX p s m args c cX13_begins RX13 2 G S A) (hlk : meth.locks = false) (hr : meth.sig.returnType = none) (N : Nat) (a_t a_t_state a_t_kept a_t_was a_t_sample a_t_months a_t_tape a_t_read a_t_isTold a_t_readRules a_t_score a_t_good a_t_badOnes a_t_start a_t_below a_t_errorBy a_t_lastBy a_t_out : Nat) (t_taped : Int) (t_faultKind : Int) (t_faultPlace : Int) (t_readAts : Int) (t_lines : Int) (t_at : Int) (t_begin : Int) (t_token : Int) (t_value : Int) (t_bad : Int) (t_rows : Int) (t_bands : Int) (t_one : Int) (t_other : Int) (t_both : Int) (t_driftAbove : Int) (t_driftBelow : Int) (t_driftMost : Int) (t_outs : Int) (t_kept : Int → Int) (t_was : Int → Int) (t_months : Int → Int) (t_tape : Int → Int) (t_read : Int → Int) (t_isTold : Int → Int) (t_readRules : Int → Int) (t_score : Int → Int) (t_good : Int → Int) (t_badOnes : Int → Int) (t_start : Int → Int) (t_below : Int → Int) (t_errorBy : Int → UInt64) (t_lastBy : Int → Int) (t_out : Int → Int) (t_keptMany : Int) (t_monthMany : Int) (t_state : Int → Int) (r : Int × Int × (Int → Int) × (Int → Int)) : ∀ n : Nat, PL_X13_begins_b70 p l e s m args below meth c A G S a_t a_t_state a_t_kept a_t_was a_t_sample a_t_months a_t_tape a_t_read a_t_isTold a_t_readRules a_t_score a_t_good a_t_badOnes a_t_start a_t_below a_t_errorBy a_t_lastBy a_t_out t_taped t_faultKind t_faultPlace t_readAts t_lines t_at t_begin t_token t_value t_bad t_rows t_bands t_one t_other t_both t_driftAbove t_driftBelow t_driftMost t_outs t_kept t_was t_months t_tape t_read t_isTold t_readRules t_score t_good t_badOnes t_start t_below t_errorBy t_lastBy t_out t_keptMany t_monthMany t_state r (m_X13_begins_b70 N t_keptMany t_monthMany t_state n) := by
  intro n
  induction n with
  | zero => intro t_sample y1 h; exact nomatch h
  | succ n ih =>
    intro t_sample y1 h H locs ls hw hl
    rw [m_X13_begins_b70] at h
    obtain ⟨⟨hx, hb, -, -, -⟩, -⟩ := id cx
    refine lv_iload_n hx hb dX13_begins_70 rfl (lv_at hl 1 rfl) ?_
    refine ri_sipush hx hb dX13_begins_71 rfl ?_
    obtain ⟨g1, h⟩ := gd_some h
    refine ri_icmp_ge (tgt := 90) hx hb g1 ⟨by decide, by decide⟩ dX13_begins_74 (by decide) (fun c2 => ?_) (fun c2 => ?_)
    · have h := it_pos c2 h
      refine lv_aload_n hx hb dX13_begins_90 rfl (lv_at hl 0 rfl) ?_
      refine ri_iconst hx hb dX13_begins_91 ?_
      refine rf_put hx hb cx hw 0 rfl rfl 6 inX13 tyX13 tyX13_ok nmX13 (by decide) fl_X13_77 rfl rfl rfl rfl (Nat.le_of_ble_eq_true rfl) dX13_begins_92 (fun H locs hw => ?_)
      have hw : HP G A s.heap H locs [(a_t, .inr (12, [.ref a_t_state, .ref a_t_kept, .ref a_t_was, .int (kI t_keptMany), .ref a_t_sample, .ref a_t_months, .int (kI 0), .ref a_t_tape, .int (kI t_taped), .int (kI t_faultKind), .int (kI t_faultPlace), .ref a_t_read, .ref a_t_isTold, .ref a_t_readRules, .int (kI t_readAts), .int (kI t_lines), .int (kI t_at), .int (kI t_begin), .int (kI t_token), .int (kI t_value), .int (kI t_bad), .ref a_t_score, .ref a_t_good, .ref a_t_badOnes, .int (kI t_rows), .ref a_t_start, .int (kI t_bands), .ref a_t_below, .int (kI t_one), .int (kI t_other), .long (kL t_both), .long (kL t_driftAbove), .long (kL t_driftBelow), .int (kI t_driftMost), .ref a_t_errorBy, .ref a_t_lastBy, .ref a_t_out, .int (kI t_outs)])), (a_t_state, cAI G 3206 t_state), (a_t_kept, cAI G 32060 t_kept), (a_t_was, cAI G 3206 t_was), (a_t_sample, cAI G 1000 t_sample), (a_t_months, cAI G 12000 t_months), (a_t_tape, cAI G 1600 t_tape), (a_t_read, cAI G 3000 t_read), (a_t_isTold, cAZ G 1000 t_isTold), (a_t_readRules, cAI G 5 t_readRules), (a_t_score, cAI G 61 t_score), (a_t_good, cAI G 61 t_good), (a_t_badOnes, cAI G 61 t_badOnes), (a_t_start, cAI G 62 t_start), (a_t_below, cAL G 2002 t_below), (a_t_errorBy, cAD G 3721 t_errorBy), (a_t_lastBy, cAI G 3721 t_lastBy), (a_t_out, cAI G 1400 t_out)] := hw
      refine lv_aload_n hx hb dX13_begins_95 rfl (lv_at hl 0 rfl) ?_
      refine ri_iconst hx hb dX13_begins_96 ?_
      refine rf_put hx hb cx hw 0 rfl rfl 3 inX13 tyX13 tyX13_ok nmX13 (by decide) fl_X13_80 rfl rfl rfl rfl (Nat.le_of_ble_eq_true rfl) dX13_begins_97 (fun H locs hw => ?_)
      have hw : HP G A s.heap H locs [(a_t, .inr (12, [.ref a_t_state, .ref a_t_kept, .ref a_t_was, .int (kI 0), .ref a_t_sample, .ref a_t_months, .int (kI 0), .ref a_t_tape, .int (kI t_taped), .int (kI t_faultKind), .int (kI t_faultPlace), .ref a_t_read, .ref a_t_isTold, .ref a_t_readRules, .int (kI t_readAts), .int (kI t_lines), .int (kI t_at), .int (kI t_begin), .int (kI t_token), .int (kI t_value), .int (kI t_bad), .ref a_t_score, .ref a_t_good, .ref a_t_badOnes, .int (kI t_rows), .ref a_t_start, .int (kI t_bands), .ref a_t_below, .int (kI t_one), .int (kI t_other), .long (kL t_both), .long (kL t_driftAbove), .long (kL t_driftBelow), .int (kI t_driftMost), .ref a_t_errorBy, .ref a_t_lastBy, .ref a_t_out, .int (kI t_outs)])), (a_t_state, cAI G 3206 t_state), (a_t_kept, cAI G 32060 t_kept), (a_t_was, cAI G 3206 t_was), (a_t_sample, cAI G 1000 t_sample), (a_t_months, cAI G 12000 t_months), (a_t_tape, cAI G 1600 t_tape), (a_t_read, cAI G 3000 t_read), (a_t_isTold, cAZ G 1000 t_isTold), (a_t_readRules, cAI G 5 t_readRules), (a_t_score, cAI G 61 t_score), (a_t_good, cAI G 61 t_good), (a_t_badOnes, cAI G 61 t_badOnes), (a_t_start, cAI G 62 t_start), (a_t_below, cAL G 2002 t_below), (a_t_errorBy, cAD G 3721 t_errorBy), (a_t_lastBy, cAI G 3721 t_lastBy), (a_t_out, cAI G 1400 t_out)] := hw
      obtain rfl := so_inj h
      exact re_v hx hb hlk hr cx hw (Nat.le_of_ble_eq_true rfl) (Nat.le_of_ble_eq_true rfl) dX13_begins_100
    · have h := it_neg c2 h
      refine lv_aload_n hx hb dX13_begins_77 rfl (lv_at hl 0 rfl) ?_
      refine rf_get hx hb cx hw 0 rfl rfl 4 inX13 (by decide) fl_X13_25 rfl rfl dX13_begins_78 ?_
      refine lv_iload_n hx hb dX13_begins_81 rfl (lv_at hl 1 rfl) ?_
      refine ri_iconst hx hb dX13_begins_82 ?_
      obtain ⟨g3, h⟩ := gd_some h
      refine ra_si hx hb cx hw 4 rfl (by decide) g3 dX13_begins_83 (fun H locs hw => ?_)
      have hw : HP G A s.heap H locs [(a_t, .inr (12, [.ref a_t_state, .ref a_t_kept, .ref a_t_was, .int (kI t_keptMany), .ref a_t_sample, .ref a_t_months, .int (kI t_monthMany), .ref a_t_tape, .int (kI t_taped), .int (kI t_faultKind), .int (kI t_faultPlace), .ref a_t_read, .ref a_t_isTold, .ref a_t_readRules, .int (kI t_readAts), .int (kI t_lines), .int (kI t_at), .int (kI t_begin), .int (kI t_token), .int (kI t_value), .int (kI t_bad), .ref a_t_score, .ref a_t_good, .ref a_t_badOnes, .int (kI t_rows), .ref a_t_start, .int (kI t_bands), .ref a_t_below, .int (kI t_one), .int (kI t_other), .long (kL t_both), .long (kL t_driftAbove), .long (kL t_driftBelow), .int (kI t_driftMost), .ref a_t_errorBy, .ref a_t_lastBy, .ref a_t_out, .int (kI t_outs)])), (a_t_state, cAI G 3206 t_state), (a_t_kept, cAI G 32060 t_kept), (a_t_was, cAI G 3206 t_was), (a_t_sample, cAI G 1000 (uP t_sample y1 0)), (a_t_months, cAI G 12000 t_months), (a_t_tape, cAI G 1600 t_tape), (a_t_read, cAI G 3000 t_read), (a_t_isTold, cAZ G 1000 t_isTold), (a_t_readRules, cAI G 5 t_readRules), (a_t_score, cAI G 61 t_score), (a_t_good, cAI G 61 t_good), (a_t_badOnes, cAI G 61 t_badOnes), (a_t_start, cAI G 62 t_start), (a_t_below, cAL G 2002 t_below), (a_t_errorBy, cAD G 3721 t_errorBy), (a_t_lastBy, cAI G 3721 t_lastBy), (a_t_out, cAI G 1400 t_out)] := hw
      refine lv_iinc (v := kI (y1 + 1)) (lv' := [(1, .int (kI (y1 + 1))), (0, .ref a_t)]) hx hb dX13_begins_84 hl (k := 1) rfl (kI_add _ _) (by decide) rfl (fun ls hl => ?_)
      refine lv_goto (tgt := 70) hx hb dX13_begins_87 (by decide) ?_
      exact ih (uP t_sample y1 0) (y1 + 1) h _ _ _ hw (lv_sub hl [1, 0] rfl)
set_option maxHeartbeats 4000000 in
set_option maxRecDepth 100000 in
theorem w_X13_begins_b2 {p : Program} {l : Launch} {e : Env} {s : State} {m : MethodId} {args : Array Value} {below : List Frame} {meth : Method} {c : Code} {A : Nat → Prop} {G : GG} {S : SM} (cx : CX p s m args c cX13_begins RX13 2 G S A) (hlk : meth.locks = false) (hr : meth.sig.returnType = none) (N : Nat) (a_t a_t_state a_t_kept a_t_was a_t_sample a_t_months a_t_tape a_t_read a_t_isTold a_t_readRules a_t_score a_t_good a_t_badOnes a_t_start a_t_below a_t_errorBy a_t_lastBy a_t_out : Nat) (t_taped : Int) (t_faultKind : Int) (t_faultPlace : Int) (t_readAts : Int) (t_lines : Int) (t_at : Int) (t_begin : Int) (t_token : Int) (t_value : Int) (t_bad : Int) (t_rows : Int) (t_bands : Int) (t_one : Int) (t_other : Int) (t_both : Int) (t_driftAbove : Int) (t_driftBelow : Int) (t_driftMost : Int) (t_outs : Int) (t_kept : Int → Int) (t_was : Int → Int) (t_months : Int → Int) (t_tape : Int → Int) (t_read : Int → Int) (t_isTold : Int → Int) (t_readRules : Int → Int) (t_score : Int → Int) (t_good : Int → Int) (t_badOnes : Int → Int) (t_start : Int → Int) (t_below : Int → Int) (t_errorBy : Int → UInt64) (t_lastBy : Int → Int) (t_out : Int → Int) (t_keptMany : Int) (t_monthMany : Int) (t_sample : Int → Int) (r : Int × Int × (Int → Int) × (Int → Int)) : ∀ n : Nat, PL_X13_begins_b2 p l e s m args below meth c A G S a_t a_t_state a_t_kept a_t_was a_t_sample a_t_months a_t_tape a_t_read a_t_isTold a_t_readRules a_t_score a_t_good a_t_badOnes a_t_start a_t_below a_t_errorBy a_t_lastBy a_t_out t_taped t_faultKind t_faultPlace t_readAts t_lines t_at t_begin t_token t_value t_bad t_rows t_bands t_one t_other t_both t_driftAbove t_driftBelow t_driftMost t_outs t_kept t_was t_months t_tape t_read t_isTold t_readRules t_score t_good t_badOnes t_start t_below t_errorBy t_lastBy t_out t_keptMany t_monthMany t_sample r (m_X13_begins_b2 N t_keptMany t_monthMany t_sample n) := by
  intro n
  induction n with
  | zero => intro t_state y1 h; exact nomatch h
  | succ n ih =>
    intro t_state y1 h H locs ls hw hl
    rw [m_X13_begins_b2] at h
    obtain ⟨⟨hx, hb, -, -, -⟩, -⟩ := id cx
    refine lv_iload_n hx hb dX13_begins_2 rfl (lv_at hl 1 rfl) ?_
    refine ri_sipush hx hb dX13_begins_3 rfl ?_
    obtain ⟨g1, h⟩ := gd_some h
    refine ri_icmp_ge (tgt := 22) hx hb g1 ⟨by decide, by decide⟩ dX13_begins_6 (by decide) (fun c2 => ?_) (fun c2 => ?_)
    · have h := it_pos c2 h
      refine lv_aload_n hx hb dX13_begins_22 rfl (lv_at hl 0 rfl) ?_
      refine rf_get hx hb cx hw 0 rfl rfl 0 inX13 (by decide) fl_X13_15 rfl rfl dX13_begins_23 ?_
      refine ri_sipush hx hb dX13_begins_26 rfl ?_
      refine ri_iconst hx hb dX13_begins_29 ?_
      refine ra_si hx hb cx hw 1 rfl (by decide) ⟨by decide, by decide⟩ dX13_begins_30 (fun H locs hw => ?_)
      have hw : HP G A s.heap H locs [(a_t, .inr (12, [.ref a_t_state, .ref a_t_kept, .ref a_t_was, .int (kI t_keptMany), .ref a_t_sample, .ref a_t_months, .int (kI t_monthMany), .ref a_t_tape, .int (kI t_taped), .int (kI t_faultKind), .int (kI t_faultPlace), .ref a_t_read, .ref a_t_isTold, .ref a_t_readRules, .int (kI t_readAts), .int (kI t_lines), .int (kI t_at), .int (kI t_begin), .int (kI t_token), .int (kI t_value), .int (kI t_bad), .ref a_t_score, .ref a_t_good, .ref a_t_badOnes, .int (kI t_rows), .ref a_t_start, .int (kI t_bands), .ref a_t_below, .int (kI t_one), .int (kI t_other), .long (kL t_both), .long (kL t_driftAbove), .long (kL t_driftBelow), .int (kI t_driftMost), .ref a_t_errorBy, .ref a_t_lastBy, .ref a_t_out, .int (kI t_outs)])), (a_t_state, cAI G 3206 (uP t_state 3201 1)), (a_t_kept, cAI G 32060 t_kept), (a_t_was, cAI G 3206 t_was), (a_t_sample, cAI G 1000 t_sample), (a_t_months, cAI G 12000 t_months), (a_t_tape, cAI G 1600 t_tape), (a_t_read, cAI G 3000 t_read), (a_t_isTold, cAZ G 1000 t_isTold), (a_t_readRules, cAI G 5 t_readRules), (a_t_score, cAI G 61 t_score), (a_t_good, cAI G 61 t_good), (a_t_badOnes, cAI G 61 t_badOnes), (a_t_start, cAI G 62 t_start), (a_t_below, cAL G 2002 t_below), (a_t_errorBy, cAD G 3721 t_errorBy), (a_t_lastBy, cAI G 3721 t_lastBy), (a_t_out, cAI G 1400 t_out)] := hw
      refine lv_aload_n hx hb dX13_begins_31 rfl (lv_at hl 0 rfl) ?_
      refine rf_get hx hb cx hw 0 rfl rfl 0 inX13 (by decide) fl_X13_15 rfl rfl dX13_begins_32 ?_
      refine ri_sipush hx hb dX13_begins_35 rfl ?_
      refine ri_bipush hx hb dX13_begins_38 rfl ?_
      refine ra_si hx hb cx hw 1 rfl (by decide) ⟨by decide, by decide⟩ dX13_begins_40 (fun H locs hw => ?_)
      have hw : HP G A s.heap H locs [(a_t, .inr (12, [.ref a_t_state, .ref a_t_kept, .ref a_t_was, .int (kI t_keptMany), .ref a_t_sample, .ref a_t_months, .int (kI t_monthMany), .ref a_t_tape, .int (kI t_taped), .int (kI t_faultKind), .int (kI t_faultPlace), .ref a_t_read, .ref a_t_isTold, .ref a_t_readRules, .int (kI t_readAts), .int (kI t_lines), .int (kI t_at), .int (kI t_begin), .int (kI t_token), .int (kI t_value), .int (kI t_bad), .ref a_t_score, .ref a_t_good, .ref a_t_badOnes, .int (kI t_rows), .ref a_t_start, .int (kI t_bands), .ref a_t_below, .int (kI t_one), .int (kI t_other), .long (kL t_both), .long (kL t_driftAbove), .long (kL t_driftBelow), .int (kI t_driftMost), .ref a_t_errorBy, .ref a_t_lastBy, .ref a_t_out, .int (kI t_outs)])), (a_t_state, cAI G 3206 (uP (uP t_state 3201 1) 3202 60)), (a_t_kept, cAI G 32060 t_kept), (a_t_was, cAI G 3206 t_was), (a_t_sample, cAI G 1000 t_sample), (a_t_months, cAI G 12000 t_months), (a_t_tape, cAI G 1600 t_tape), (a_t_read, cAI G 3000 t_read), (a_t_isTold, cAZ G 1000 t_isTold), (a_t_readRules, cAI G 5 t_readRules), (a_t_score, cAI G 61 t_score), (a_t_good, cAI G 61 t_good), (a_t_badOnes, cAI G 61 t_badOnes), (a_t_start, cAI G 62 t_start), (a_t_below, cAL G 2002 t_below), (a_t_errorBy, cAD G 3721 t_errorBy), (a_t_lastBy, cAI G 3721 t_lastBy), (a_t_out, cAI G 1400 t_out)] := hw
      refine lv_aload_n hx hb dX13_begins_41 rfl (lv_at hl 0 rfl) ?_
      refine rf_get hx hb cx hw 0 rfl rfl 0 inX13 (by decide) fl_X13_15 rfl rfl dX13_begins_42 ?_
      refine ri_sipush hx hb dX13_begins_45 rfl ?_
      refine ri_iconst hx hb dX13_begins_48 ?_
      refine ra_si hx hb cx hw 1 rfl (by decide) ⟨by decide, by decide⟩ dX13_begins_49 (fun H locs hw => ?_)
      have hw : HP G A s.heap H locs [(a_t, .inr (12, [.ref a_t_state, .ref a_t_kept, .ref a_t_was, .int (kI t_keptMany), .ref a_t_sample, .ref a_t_months, .int (kI t_monthMany), .ref a_t_tape, .int (kI t_taped), .int (kI t_faultKind), .int (kI t_faultPlace), .ref a_t_read, .ref a_t_isTold, .ref a_t_readRules, .int (kI t_readAts), .int (kI t_lines), .int (kI t_at), .int (kI t_begin), .int (kI t_token), .int (kI t_value), .int (kI t_bad), .ref a_t_score, .ref a_t_good, .ref a_t_badOnes, .int (kI t_rows), .ref a_t_start, .int (kI t_bands), .ref a_t_below, .int (kI t_one), .int (kI t_other), .long (kL t_both), .long (kL t_driftAbove), .long (kL t_driftBelow), .int (kI t_driftMost), .ref a_t_errorBy, .ref a_t_lastBy, .ref a_t_out, .int (kI t_outs)])), (a_t_state, cAI G 3206 (uP (uP (uP t_state 3201 1) 3202 60) 3203 1)), (a_t_kept, cAI G 32060 t_kept), (a_t_was, cAI G 3206 t_was), (a_t_sample, cAI G 1000 t_sample), (a_t_months, cAI G 12000 t_months), (a_t_tape, cAI G 1600 t_tape), (a_t_read, cAI G 3000 t_read), (a_t_isTold, cAZ G 1000 t_isTold), (a_t_readRules, cAI G 5 t_readRules), (a_t_score, cAI G 61 t_score), (a_t_good, cAI G 61 t_good), (a_t_badOnes, cAI G 61 t_badOnes), (a_t_start, cAI G 62 t_start), (a_t_below, cAL G 2002 t_below), (a_t_errorBy, cAD G 3721 t_errorBy), (a_t_lastBy, cAI G 3721 t_lastBy), (a_t_out, cAI G 1400 t_out)] := hw
      refine lv_aload_n hx hb dX13_begins_50 rfl (lv_at hl 0 rfl) ?_
      refine rf_get hx hb cx hw 0 rfl rfl 0 inX13 (by decide) fl_X13_15 rfl rfl dX13_begins_51 ?_
      refine ri_sipush hx hb dX13_begins_54 rfl ?_
      refine ri_iconst hx hb dX13_begins_57 ?_
      refine ra_si hx hb cx hw 1 rfl (by decide) ⟨by decide, by decide⟩ dX13_begins_58 (fun H locs hw => ?_)
      have hw : HP G A s.heap H locs [(a_t, .inr (12, [.ref a_t_state, .ref a_t_kept, .ref a_t_was, .int (kI t_keptMany), .ref a_t_sample, .ref a_t_months, .int (kI t_monthMany), .ref a_t_tape, .int (kI t_taped), .int (kI t_faultKind), .int (kI t_faultPlace), .ref a_t_read, .ref a_t_isTold, .ref a_t_readRules, .int (kI t_readAts), .int (kI t_lines), .int (kI t_at), .int (kI t_begin), .int (kI t_token), .int (kI t_value), .int (kI t_bad), .ref a_t_score, .ref a_t_good, .ref a_t_badOnes, .int (kI t_rows), .ref a_t_start, .int (kI t_bands), .ref a_t_below, .int (kI t_one), .int (kI t_other), .long (kL t_both), .long (kL t_driftAbove), .long (kL t_driftBelow), .int (kI t_driftMost), .ref a_t_errorBy, .ref a_t_lastBy, .ref a_t_out, .int (kI t_outs)])), (a_t_state, cAI G 3206 (uP (uP (uP (uP t_state 3201 1) 3202 60) 3203 1) 3204 5)), (a_t_kept, cAI G 32060 t_kept), (a_t_was, cAI G 3206 t_was), (a_t_sample, cAI G 1000 t_sample), (a_t_months, cAI G 12000 t_months), (a_t_tape, cAI G 1600 t_tape), (a_t_read, cAI G 3000 t_read), (a_t_isTold, cAZ G 1000 t_isTold), (a_t_readRules, cAI G 5 t_readRules), (a_t_score, cAI G 61 t_score), (a_t_good, cAI G 61 t_good), (a_t_badOnes, cAI G 61 t_badOnes), (a_t_start, cAI G 62 t_start), (a_t_below, cAL G 2002 t_below), (a_t_errorBy, cAD G 3721 t_errorBy), (a_t_lastBy, cAI G 3721 t_lastBy), (a_t_out, cAI G 1400 t_out)] := hw
      refine lv_aload_n hx hb dX13_begins_59 rfl (lv_at hl 0 rfl) ?_
      refine rf_get hx hb cx hw 0 rfl rfl 0 inX13 (by decide) fl_X13_15 rfl rfl dX13_begins_60 ?_
      refine ri_sipush hx hb dX13_begins_63 rfl ?_
      refine ri_iconst hx hb dX13_begins_66 ?_
      refine ra_si hx hb cx hw 1 rfl (by decide) ⟨by decide, by decide⟩ dX13_begins_67 (fun H locs hw => ?_)
      have hw : HP G A s.heap H locs [(a_t, .inr (12, [.ref a_t_state, .ref a_t_kept, .ref a_t_was, .int (kI t_keptMany), .ref a_t_sample, .ref a_t_months, .int (kI t_monthMany), .ref a_t_tape, .int (kI t_taped), .int (kI t_faultKind), .int (kI t_faultPlace), .ref a_t_read, .ref a_t_isTold, .ref a_t_readRules, .int (kI t_readAts), .int (kI t_lines), .int (kI t_at), .int (kI t_begin), .int (kI t_token), .int (kI t_value), .int (kI t_bad), .ref a_t_score, .ref a_t_good, .ref a_t_badOnes, .int (kI t_rows), .ref a_t_start, .int (kI t_bands), .ref a_t_below, .int (kI t_one), .int (kI t_other), .long (kL t_both), .long (kL t_driftAbove), .long (kL t_driftBelow), .int (kI t_driftMost), .ref a_t_errorBy, .ref a_t_lastBy, .ref a_t_out, .int (kI t_outs)])), (a_t_state, cAI G 3206 (uP (uP (uP (uP (uP t_state 3201 1) 3202 60) 3203 1) 3204 5) 3205 1)), (a_t_kept, cAI G 32060 t_kept), (a_t_was, cAI G 3206 t_was), (a_t_sample, cAI G 1000 t_sample), (a_t_months, cAI G 12000 t_months), (a_t_tape, cAI G 1600 t_tape), (a_t_read, cAI G 3000 t_read), (a_t_isTold, cAZ G 1000 t_isTold), (a_t_readRules, cAI G 5 t_readRules), (a_t_score, cAI G 61 t_score), (a_t_good, cAI G 61 t_good), (a_t_badOnes, cAI G 61 t_badOnes), (a_t_start, cAI G 62 t_start), (a_t_below, cAL G 2002 t_below), (a_t_errorBy, cAD G 3721 t_errorBy), (a_t_lastBy, cAI G 3721 t_lastBy), (a_t_out, cAI G 1400 t_out)] := hw
      refine ri_iconst hx hb dX13_begins_68 ?_
      refine lv_istore_n (lv' := [(1, .int (kI 0)), (0, .ref a_t)]) hx hb dX13_begins_69 rfl hl (by decide) rfl (fun ls hl => ?_)
      exact w_X13_begins_b70 cx hlk hr N a_t a_t_state a_t_kept a_t_was a_t_sample a_t_months a_t_tape a_t_read a_t_isTold a_t_readRules a_t_score a_t_good a_t_badOnes a_t_start a_t_below a_t_errorBy a_t_lastBy a_t_out t_taped t_faultKind t_faultPlace t_readAts t_lines t_at t_begin t_token t_value t_bad t_rows t_bands t_one t_other t_both t_driftAbove t_driftBelow t_driftMost t_outs t_kept t_was t_months t_tape t_read t_isTold t_readRules t_score t_good t_badOnes t_start t_below t_errorBy t_lastBy t_out t_keptMany t_monthMany (uP (uP (uP (uP (uP t_state 3201 1) 3202 60) 3203 1) 3204 5) 3205 1) r N t_sample 0 h _ _ _ hw (lv_sub hl [1, 0] rfl)
    · have h := it_neg c2 h
      refine lv_aload_n hx hb dX13_begins_9 rfl (lv_at hl 0 rfl) ?_
      refine rf_get hx hb cx hw 0 rfl rfl 0 inX13 (by decide) fl_X13_15 rfl rfl dX13_begins_10 ?_
      refine lv_iload_n hx hb dX13_begins_13 rfl (lv_at hl 1 rfl) ?_
      refine ri_iconst hx hb dX13_begins_14 ?_
      obtain ⟨g3, h⟩ := gd_some h
      refine ra_si hx hb cx hw 1 rfl (by decide) g3 dX13_begins_15 (fun H locs hw => ?_)
      have hw : HP G A s.heap H locs [(a_t, .inr (12, [.ref a_t_state, .ref a_t_kept, .ref a_t_was, .int (kI t_keptMany), .ref a_t_sample, .ref a_t_months, .int (kI t_monthMany), .ref a_t_tape, .int (kI t_taped), .int (kI t_faultKind), .int (kI t_faultPlace), .ref a_t_read, .ref a_t_isTold, .ref a_t_readRules, .int (kI t_readAts), .int (kI t_lines), .int (kI t_at), .int (kI t_begin), .int (kI t_token), .int (kI t_value), .int (kI t_bad), .ref a_t_score, .ref a_t_good, .ref a_t_badOnes, .int (kI t_rows), .ref a_t_start, .int (kI t_bands), .ref a_t_below, .int (kI t_one), .int (kI t_other), .long (kL t_both), .long (kL t_driftAbove), .long (kL t_driftBelow), .int (kI t_driftMost), .ref a_t_errorBy, .ref a_t_lastBy, .ref a_t_out, .int (kI t_outs)])), (a_t_state, cAI G 3206 (uP t_state y1 0)), (a_t_kept, cAI G 32060 t_kept), (a_t_was, cAI G 3206 t_was), (a_t_sample, cAI G 1000 t_sample), (a_t_months, cAI G 12000 t_months), (a_t_tape, cAI G 1600 t_tape), (a_t_read, cAI G 3000 t_read), (a_t_isTold, cAZ G 1000 t_isTold), (a_t_readRules, cAI G 5 t_readRules), (a_t_score, cAI G 61 t_score), (a_t_good, cAI G 61 t_good), (a_t_badOnes, cAI G 61 t_badOnes), (a_t_start, cAI G 62 t_start), (a_t_below, cAL G 2002 t_below), (a_t_errorBy, cAD G 3721 t_errorBy), (a_t_lastBy, cAI G 3721 t_lastBy), (a_t_out, cAI G 1400 t_out)] := hw
      refine lv_iinc (v := kI (y1 + 1)) (lv' := [(1, .int (kI (y1 + 1))), (0, .ref a_t)]) hx hb dX13_begins_16 hl (k := 1) rfl (kI_add _ _) (by decide) rfl (fun ls hl => ?_)
      refine lv_goto (tgt := 2) hx hb dX13_begins_19 (by decide) ?_
      exact ih (uP t_state y1 0) (y1 + 1) h _ _ _ hw (lv_sub hl [1, 0] rfl)
set_option maxHeartbeats 4000000 in
set_option maxRecDepth 100000 in
theorem c_X13_begins (l : Launch) (G : GG) (S : SM) (sz : Nat) (N : Nat) (a_t a_t_state a_t_kept a_t_was a_t_sample a_t_months a_t_tape a_t_read a_t_isTold a_t_readRules a_t_score a_t_good a_t_badOnes a_t_start a_t_below a_t_errorBy a_t_lastBy a_t_out : Nat) (t_keptMany : Int) (t_monthMany : Int) (t_taped : Int) (t_faultKind : Int) (t_faultPlace : Int) (t_readAts : Int) (t_lines : Int) (t_at : Int) (t_begin : Int) (t_token : Int) (t_value : Int) (t_bad : Int) (t_rows : Int) (t_bands : Int) (t_one : Int) (t_other : Int) (t_both : Int) (t_driftAbove : Int) (t_driftBelow : Int) (t_driftMost : Int) (t_outs : Int) (t_state : Int → Int) (t_kept : Int → Int) (t_was : Int → Int) (t_sample : Int → Int) (t_months : Int → Int) (t_tape : Int → Int) (t_read : Int → Int) (t_isTold : Int → Int) (t_readRules : Int → Int) (t_score : Int → Int) (t_good : Int → Int) (t_badOnes : Int → Int) (t_start : Int → Int) (t_below : Int → Int) (t_errorBy : Int → UInt64) (t_lastBy : Int → Int) (t_out : Int → Int)  (r : Int × Int × (Int → Int) × (Int → Int)) (h : m_X13_begins N t_keptMany t_monthMany t_state t_sample = some r) : CtV l yX13_begins cX13_begins 2 (rmD 1 0 0) G S sz [.ref a_t] [(a_t, .inr (12, [.ref a_t_state, .ref a_t_kept, .ref a_t_was, .int (kI t_keptMany), .ref a_t_sample, .ref a_t_months, .int (kI t_monthMany), .ref a_t_tape, .int (kI t_taped), .int (kI t_faultKind), .int (kI t_faultPlace), .ref a_t_read, .ref a_t_isTold, .ref a_t_readRules, .int (kI t_readAts), .int (kI t_lines), .int (kI t_at), .int (kI t_begin), .int (kI t_token), .int (kI t_value), .int (kI t_bad), .ref a_t_score, .ref a_t_good, .ref a_t_badOnes, .int (kI t_rows), .ref a_t_start, .int (kI t_bands), .ref a_t_below, .int (kI t_one), .int (kI t_other), .long (kL t_both), .long (kL t_driftAbove), .long (kL t_driftBelow), .int (kI t_driftMost), .ref a_t_errorBy, .ref a_t_lastBy, .ref a_t_out, .int (kI t_outs)])), (a_t_state, cAI G 3206 t_state), (a_t_kept, cAI G 32060 t_kept), (a_t_was, cAI G 3206 t_was), (a_t_sample, cAI G 1000 t_sample), (a_t_months, cAI G 12000 t_months), (a_t_tape, cAI G 1600 t_tape), (a_t_read, cAI G 3000 t_read), (a_t_isTold, cAZ G 1000 t_isTold), (a_t_readRules, cAI G 5 t_readRules), (a_t_score, cAI G 61 t_score), (a_t_good, cAI G 61 t_good), (a_t_badOnes, cAI G 61 t_badOnes), (a_t_start, cAI G 62 t_start), (a_t_below, cAL G 2002 t_below), (a_t_errorBy, cAD G 3721 t_errorBy), (a_t_lastBy, cAI G 3721 t_lastBy), (a_t_out, cAI G 1400 t_out)] [(a_t, .inr (12, [.ref a_t_state, .ref a_t_kept, .ref a_t_was, .int (kI r.1), .ref a_t_sample, .ref a_t_months, .int (kI r.2.1), .ref a_t_tape, .int (kI t_taped), .int (kI t_faultKind), .int (kI t_faultPlace), .ref a_t_read, .ref a_t_isTold, .ref a_t_readRules, .int (kI t_readAts), .int (kI t_lines), .int (kI t_at), .int (kI t_begin), .int (kI t_token), .int (kI t_value), .int (kI t_bad), .ref a_t_score, .ref a_t_good, .ref a_t_badOnes, .int (kI t_rows), .ref a_t_start, .int (kI t_bands), .ref a_t_below, .int (kI t_one), .int (kI t_other), .long (kL t_both), .long (kL t_driftAbove), .long (kL t_driftBelow), .int (kI t_driftMost), .ref a_t_errorBy, .ref a_t_lastBy, .ref a_t_out, .int (kI t_outs)])), (a_t_state, cAI G 3206 r.2.2.1), (a_t_kept, cAI G 32060 t_kept), (a_t_was, cAI G 3206 t_was), (a_t_sample, cAI G 1000 r.2.2.2), (a_t_months, cAI G 12000 t_months), (a_t_tape, cAI G 1600 t_tape), (a_t_read, cAI G 3000 t_read), (a_t_isTold, cAZ G 1000 t_isTold), (a_t_readRules, cAI G 5 t_readRules), (a_t_score, cAI G 61 t_score), (a_t_good, cAI G 61 t_good), (a_t_badOnes, cAI G 61 t_badOnes), (a_t_start, cAI G 62 t_start), (a_t_below, cAL G 2002 t_below), (a_t_errorBy, cAD G 3721 t_errorBy), (a_t_lastBy, cAI G 3721 t_lastBy), (a_t_out, cAI G 1400 t_out)] := by
  refine met_V (by decide +kernel) (Nat.le_of_ble_eq_true rfl) ?_
  intro p e s m args below meth c A H locs ls cx hw hr hlk hnm hl
  have hl : lv_has ls 2 [(0, .ref a_t)] := hl
  rw [m_X13_begins] at h
  obtain ⟨⟨hx, hb, -, -, -⟩, -⟩ := id cx
  refine ri_iconst hx hb dX13_begins_0 ?_
  refine lv_istore_n (lv' := [(1, .int (kI 0)), (0, .ref a_t)]) hx hb dX13_begins_1 rfl hl (by decide) rfl (fun ls hl => ?_)
  exact w_X13_begins_b2 cx hlk hr N a_t a_t_state a_t_kept a_t_was a_t_sample a_t_months a_t_tape a_t_read a_t_isTold a_t_readRules a_t_score a_t_good a_t_badOnes a_t_start a_t_below a_t_errorBy a_t_lastBy a_t_out t_taped t_faultKind t_faultPlace t_readAts t_lines t_at t_begin t_token t_value t_bad t_rows t_bands t_one t_other t_both t_driftAbove t_driftBelow t_driftMost t_outs t_kept t_was t_months t_tape t_read t_isTold t_readRules t_score t_good t_badOnes t_start t_below t_errorBy t_lastBy t_out t_keptMany t_monthMany t_sample r N t_state 0 h _ _ _ hw (lv_sub hl [1, 0] rfl)
