def PL_X7_isWord_b28 (p : Program) (l : Launch) (e : Env) (s : State) (m : MethodId) (args : Array Value) (below : List Frame) (meth : Method) (c : Code) (A : Nat → Prop) (G : GG) (S : SM) (a_t a_t_score a_t_good a_t_bad a_t_open a_t_costs a_p1 a_p1_store : Nat) (t_ats : Int) (t_lines : Int) (t_least : Int) (t_most : Int) (t_faultKind : Int) (t_faultPlace : Int) (t_toldLines : Int) (t_kind : Int) (t_start : Int) (t_next : Int) (t_number : Int) (t_score : Int → Int) (t_good : Int → Int) (t_bad : Int → Int) (t_open : Int → Int) (t_costs : Int → Int) (p1_size : Int) (p1_store : Int → Int) (p1_store_n : Nat) (x2 : Nat) (r : Int) (kk : Int → Option (Int)) : Prop := ∀ (y3 : Int), kk y3 = some r → ∀ (H : Heap) (locs : List Loc) (ls : Array Slot), HP G A s.heap H locs [(a_t, .inr (6, [.ref a_t_score, .ref a_t_good, .ref a_t_bad, .ref a_t_open, .ref a_t_costs, .int (kI t_ats), .int (kI t_lines), .int (kI t_least), .int (kI t_most), .int (kI t_faultKind), .int (kI t_faultPlace), .int (kI t_toldLines), .int (kI t_kind), .int (kI t_start), .int (kI t_next), .int (kI t_number)])), (a_t_score, cAI G 60 t_score), (a_t_good, cAI G 60 t_good), (a_t_bad, cAI G 60 t_bad), (a_t_open, cAI G 60 t_open), (a_t_costs, cAI G 3 t_costs), (a_p1, .inr (1, [.ref a_p1_store, .int (kI p1_size)])), (a_p1_store, cAI G p1_store_n p1_store)] → lv_has ls 4 [(0, .ref a_t), (1, .ref a_p1), (2, .ref (G.2.2.1 x2)), (3, .int (kI y3))] → W p l e (rmD 5 0 0) s m args below meth c H locs 0 0 (MQ below (QcI G A r [(a_t, .inr (6, [.ref a_t_score, .ref a_t_good, .ref a_t_bad, .ref a_t_open, .ref a_t_costs, .int (kI t_ats), .int (kI t_lines), .int (kI t_least), .int (kI t_most), .int (kI t_faultKind), .int (kI t_faultPlace), .int (kI t_toldLines), .int (kI t_kind), .int (kI t_start), .int (kI t_next), .int (kI t_number)])), (a_t_score, cAI G 60 t_score), (a_t_good, cAI G 60 t_good), (a_t_bad, cAI G 60 t_bad), (a_t_open, cAI G 60 t_open), (a_t_costs, cAI G 3 t_costs), (a_p1, .inr (1, [.ref a_p1_store, .int (kI p1_size)])), (a_p1_store, cAI G p1_store_n p1_store)]) args s (rmD 5 0 0).cells (rmD 5 0 0).slots A) (F0 m 28 ls [])
set_option maxHeartbeats 4000000 in
set_option maxRecDepth 100000 in
theorem w_X7_isWord_b28 {p : Program} {l : Launch} {e : Env} {s : State} {m : MethodId} {args : Array Value} {below : List Frame} {meth : Method} {c : Code} {A : Nat → Prop} {G : GG} {S : SM} (cx : CX p s m args c cX7_isWord RX7 4 G S A) (hlk : meth.locks = false) (hr : meth.sig.returnType = some .boolean) (N : Nat) (a_t a_t_score a_t_good a_t_bad a_t_open a_t_costs a_p1 a_p1_store : Nat) (t_ats : Int) (t_lines : Int) (t_least : Int) (t_most : Int) (t_faultKind : Int) (t_faultPlace : Int) (t_toldLines : Int) (t_kind : Int) (t_start : Int) (t_next : Int) (t_number : Int) (t_score : Int → Int) (t_good : Int → Int) (t_bad : Int → Int) (t_open : Int → Int) (t_costs : Int → Int) (p1_size : Int) (p1_store : Int → Int) (p1_store_n : Nat) (x2 : Nat) (hn_p1_store : p1_store_n < 2147483648) (r : Int) : ∀ n : Nat, PL_X7_isWord_b28 p l e s m args below meth c A G S a_t a_t_score a_t_good a_t_bad a_t_open a_t_costs a_p1 a_p1_store t_ats t_lines t_least t_most t_faultKind t_faultPlace t_toldLines t_kind t_start t_next t_number t_score t_good t_bad t_open t_costs p1_size p1_store p1_store_n x2 r (m_X7_isWord_b28 N t_kind t_start t_next p1_store p1_store_n x2 n) := by
  intro n
  induction n with
  | zero => intro y3 h; exact nomatch h
  | succ n ih =>
    intro y3 h H locs ls hw hl
    rw [m_X7_isWord_b28] at h
    obtain ⟨⟨hx, hb, -, -, -⟩, -⟩ := id cx
    refine lv_iload_n hx hb dX7_isWord_28 rfl (lv_at hl 3 rfl) ?_
    refine lv_aload_n hx hb dX7_isWord_29 rfl (lv_at hl 2 rfl) ?_
    obtain ⟨g1, h⟩ := gd_some h
    refine rc_I0 (v := stLen x2) hw [] (rr_VX cx hw (c_J0_length l G S H.size x2 g1) mv_X7_107 (sx_recv cx hw g1) ⟨Nat.le_of_ble_eq_true rfl, Nat.le_of_ble_eq_true rfl⟩ rfl hl.1 rfl (Nat.le_of_ble_eq_true rfl) dX7_isWord_30 ⟨Nat.le_of_ble_eq_true rfl, Nat.le_of_ble_eq_true rfl⟩) rfl rfl (fun H locs hw => ?_)
    obtain ⟨g2, h⟩ := gd_some h
    obtain ⟨g3, h⟩ := gd_some h
    refine ri_icmp_ge (tgt := 63) hx hb g2 g3 dX7_isWord_33 (by decide) (fun c4 => ?_) (fun c4 => ?_)
    · have h := it_pos c4 h
      refine ri_iconst hx hb dX7_isWord_63 ?_
      obtain rfl := so_inj h
      exact re_z (Or.inr rfl)  hx hb hlk hr cx hw (Nat.le_of_ble_eq_true rfl) (Nat.le_of_ble_eq_true rfl) dX7_isWord_64
    · have h := it_neg c4 h
      refine lv_aload_n hx hb dX7_isWord_36 rfl (lv_at hl 1 rfl) ?_
      refine rf_get hx hb cx hw 6 rfl rfl 0 inX1 (by decide) fl_X7_113 rfl rfl dX7_isWord_37 ?_
      refine lv_aload_n hx hb dX7_isWord_40 rfl (lv_at hl 0 rfl) ?_
      refine rf_get hx hb cx hw 0 rfl rfl 13 inX7 (by decide) fl_X7_70 rfl rfl dX7_isWord_41 ?_
      refine lv_iload_n hx hb dX7_isWord_44 rfl (lv_at hl 3 rfl) ?_
      refine ri_iadd hx hb dX7_isWord_45 ?_
      obtain ⟨g5, h⟩ := gd_some h
      refine ra_i hx hb cx hw 7 rfl hn_p1_store g5 dX7_isWord_46 ?_
      refine lv_aload_n hx hb dX7_isWord_47 rfl (lv_at hl 2 rfl) ?_
      refine lv_iload_n hx hb dX7_isWord_48 rfl (lv_at hl 3 rfl) ?_
      obtain ⟨g6, h⟩ := gd_some h
      refine rc_I0 (v := stCh x2 y3) hw [] (rr_VX cx hw (c_J0_charAt l G S H.size x2 y3 g1 g6) mv_X7_118 (sx_recv cx hw g1) ⟨Nat.le_of_ble_eq_true rfl, Nat.le_of_ble_eq_true rfl⟩ rfl hl.1 rfl (Nat.le_of_ble_eq_true rfl) dX7_isWord_49 ⟨Nat.le_of_ble_eq_true rfl, Nat.le_of_ble_eq_true rfl⟩) rfl rfl (fun H locs hw => ?_)
      obtain ⟨g7, h⟩ := gd_some h
      obtain ⟨g8, h⟩ := gd_some h
      refine ri_icmp_eq (tgt := 57) hx hb g7 g8 dX7_isWord_52 (by decide) (fun c9 => ?_) (fun c9 => ?_)
      · have h := it_pos c9 h
        refine lv_iinc (v := kI (y3 + 1)) (lv' := [(3, .int (kI (y3 + 1))), (0, .ref a_t), (1, .ref a_p1), (2, .ref (G.2.2.1 x2))]) hx hb dX7_isWord_57 hl (k := 3) rfl (kI_add _ _) (by decide) rfl (fun ls hl => ?_)
        refine lv_goto (tgt := 28) hx hb dX7_isWord_60 (by decide) ?_
        exact ih (y3 + 1) h _ _ _ hw (lv_sub hl [1, 2, 3, 0] rfl)
      · have h := it_neg c9 h
        refine ri_iconst hx hb dX7_isWord_55 ?_
        obtain rfl := so_inj h
        exact re_z (Or.inl rfl)  hx hb hlk hr cx hw (Nat.le_of_ble_eq_true rfl) (Nat.le_of_ble_eq_true rfl) dX7_isWord_56
set_option maxHeartbeats 4000000 in
set_option maxRecDepth 100000 in
theorem c_X7_isWord (l : Launch) (G : GG) (S : SM) (sz : Nat) (N : Nat) (a_t a_t_score a_t_good a_t_bad a_t_open a_t_costs a_p1 a_p1_store : Nat) (t_ats : Int) (t_lines : Int) (t_least : Int) (t_most : Int) (t_faultKind : Int) (t_faultPlace : Int) (t_toldLines : Int) (t_kind : Int) (t_start : Int) (t_next : Int) (t_number : Int) (t_score : Int → Int) (t_good : Int → Int) (t_bad : Int → Int) (t_open : Int → Int) (t_costs : Int → Int) (p1_size : Int) (p1_store : Int → Int) (p1_store_n : Nat) (x2 : Nat) (hn_p1_store : p1_store_n < 2147483648) (r : Int) (h : m_X7_isWord N t_kind t_start t_next p1_store p1_store_n x2 = some r) : CtI l yX7_isWord cX7_isWord 4 .boolean (rmD 5 0 0) G S sz [.ref a_t, .ref a_p1, .ref (G.2.2.1 x2)] [(a_t, .inr (6, [.ref a_t_score, .ref a_t_good, .ref a_t_bad, .ref a_t_open, .ref a_t_costs, .int (kI t_ats), .int (kI t_lines), .int (kI t_least), .int (kI t_most), .int (kI t_faultKind), .int (kI t_faultPlace), .int (kI t_toldLines), .int (kI t_kind), .int (kI t_start), .int (kI t_next), .int (kI t_number)])), (a_t_score, cAI G 60 t_score), (a_t_good, cAI G 60 t_good), (a_t_bad, cAI G 60 t_bad), (a_t_open, cAI G 60 t_open), (a_t_costs, cAI G 3 t_costs), (a_p1, .inr (1, [.ref a_p1_store, .int (kI p1_size)])), (a_p1_store, cAI G p1_store_n p1_store)] r [(a_t, .inr (6, [.ref a_t_score, .ref a_t_good, .ref a_t_bad, .ref a_t_open, .ref a_t_costs, .int (kI t_ats), .int (kI t_lines), .int (kI t_least), .int (kI t_most), .int (kI t_faultKind), .int (kI t_faultPlace), .int (kI t_toldLines), .int (kI t_kind), .int (kI t_start), .int (kI t_next), .int (kI t_number)])), (a_t_score, cAI G 60 t_score), (a_t_good, cAI G 60 t_good), (a_t_bad, cAI G 60 t_bad), (a_t_open, cAI G 60 t_open), (a_t_costs, cAI G 3 t_costs), (a_p1, .inr (1, [.ref a_p1_store, .int (kI p1_size)])), (a_p1_store, cAI G p1_store_n p1_store)] := by
  refine met_I (by decide +kernel) (Nat.le_of_ble_eq_true rfl) ?_
  intro p e s m args below meth c A H locs ls cx hw hr hlk hnm hl
  have hl : lv_has ls 4 [(0, .ref a_t), (1, .ref a_p1), (2, .ref (G.2.2.1 x2))] := hl
  rw [m_X7_isWord] at h
  obtain ⟨⟨hx, hb, -, -, -⟩, -⟩ := id cx
  refine lv_aload_n hx hb dX7_isWord_0 rfl (lv_at hl 0 rfl) ?_
  refine rf_get hx hb cx hw 0 rfl rfl 12 inX7 (by decide) fl_X7_41 rfl rfl dX7_isWord_1 ?_
  refine ri_iconst hx hb dX7_isWord_4 ?_
  obtain ⟨g1, h⟩ := gd_some h
  refine ri_icmp_ne (tgt := 24) hx hb g1 ⟨by decide, by decide⟩ dX7_isWord_5 (by decide) (fun c2 => ?_) (fun c2 => ?_)
  · have h := it_pos c2 h
    refine lv_aload_n hx hb dX7_isWord_8 rfl (lv_at hl 0 rfl) ?_
    refine rf_get hx hb cx hw 0 rfl rfl 14 inX7 (by decide) fl_X7_67 rfl rfl dX7_isWord_9 ?_
    refine lv_aload_n hx hb dX7_isWord_12 rfl (lv_at hl 0 rfl) ?_
    refine rf_get hx hb cx hw 0 rfl rfl 13 inX7 (by decide) fl_X7_70 rfl rfl dX7_isWord_13 ?_
    refine ri_isub hx hb dX7_isWord_16 ?_
    refine lv_aload_n hx hb dX7_isWord_17 rfl (lv_at hl 2 rfl) ?_
    obtain ⟨g3, h⟩ := gd_some h
    refine rc_I0 (v := stLen x2) hw [] (rr_VX cx hw (c_J0_length l G S H.size x2 g3) mv_X7_107 (sx_recv cx hw g3) ⟨Nat.le_of_ble_eq_true rfl, Nat.le_of_ble_eq_true rfl⟩ rfl hl.1 rfl (Nat.le_of_ble_eq_true rfl) dX7_isWord_18 ⟨Nat.le_of_ble_eq_true rfl, Nat.le_of_ble_eq_true rfl⟩) rfl rfl (fun H locs hw => ?_)
    obtain ⟨g4, h⟩ := gd_some h
    obtain ⟨g5, h⟩ := gd_some h
    refine ri_icmp_eq (tgt := 26) hx hb g4 g5 dX7_isWord_21 (by decide) (fun c6 => ?_) (fun c6 => ?_)
    · have h := it_pos c6 h
      refine ri_iconst hx hb dX7_isWord_26 ?_
      refine lv_istore_n (lv' := [(3, .int (kI 0)), (0, .ref a_t), (1, .ref a_p1), (2, .ref (G.2.2.1 x2))]) hx hb dX7_isWord_27 rfl hl (by decide) rfl (fun ls hl => ?_)
      exact w_X7_isWord_b28 cx hlk hr N a_t a_t_score a_t_good a_t_bad a_t_open a_t_costs a_p1 a_p1_store t_ats t_lines t_least t_most t_faultKind t_faultPlace t_toldLines t_kind t_start t_next t_number t_score t_good t_bad t_open t_costs p1_size p1_store p1_store_n x2 hn_p1_store r N 0 h _ _ _ hw (lv_sub hl [1, 2, 3, 0] rfl)
    · have h := it_neg c6 h
      refine ri_iconst hx hb dX7_isWord_24 ?_
      obtain rfl := so_inj h
      exact re_z (Or.inl rfl)  hx hb hlk hr cx hw (Nat.le_of_ble_eq_true rfl) (Nat.le_of_ble_eq_true rfl) dX7_isWord_25
  · have h := it_neg c2 h
    refine ri_iconst hx hb dX7_isWord_24 ?_
    obtain rfl := so_inj h
    exact re_z (Or.inl rfl)  hx hb hlk hr cx hw (Nat.le_of_ble_eq_true rfl) (Nat.le_of_ble_eq_true rfl) dX7_isWord_25
set_option maxHeartbeats 4000000 in
set_option maxRecDepth 100000 in
theorem c_X7_fail (l : Launch) (G : GG) (S : SM) (sz : Nat) (N : Nat) (a_t a_t_score a_t_good a_t_bad a_t_open a_t_costs : Nat) (t_ats : Int) (t_lines : Int) (t_least : Int) (t_most : Int) (t_faultKind : Int) (t_faultPlace : Int) (t_toldLines : Int) (t_kind : Int) (t_start : Int) (t_next : Int) (t_number : Int) (t_score : Int → Int) (t_good : Int → Int) (t_bad : Int → Int) (t_open : Int → Int) (t_costs : Int → Int) (x1 : Int) (r : Int × Int) (h : m_X7_fail N t_start t_faultKind t_faultPlace x1 = some r) : CtV l yX7_fail cX7_fail 2 (rmD 1 0 0) G S sz [.ref a_t, .int (kI x1)] [(a_t, .inr (6, [.ref a_t_score, .ref a_t_good, .ref a_t_bad, .ref a_t_open, .ref a_t_costs, .int (kI t_ats), .int (kI t_lines), .int (kI t_least), .int (kI t_most), .int (kI t_faultKind), .int (kI t_faultPlace), .int (kI t_toldLines), .int (kI t_kind), .int (kI t_start), .int (kI t_next), .int (kI t_number)])), (a_t_score, cAI G 60 t_score), (a_t_good, cAI G 60 t_good), (a_t_bad, cAI G 60 t_bad), (a_t_open, cAI G 60 t_open), (a_t_costs, cAI G 3 t_costs)] [(a_t, .inr (6, [.ref a_t_score, .ref a_t_good, .ref a_t_bad, .ref a_t_open, .ref a_t_costs, .int (kI t_ats), .int (kI t_lines), .int (kI t_least), .int (kI t_most), .int (kI r.1), .int (kI r.2), .int (kI t_toldLines), .int (kI t_kind), .int (kI t_start), .int (kI t_next), .int (kI t_number)])), (a_t_score, cAI G 60 t_score), (a_t_good, cAI G 60 t_good), (a_t_bad, cAI G 60 t_bad), (a_t_open, cAI G 60 t_open), (a_t_costs, cAI G 3 t_costs)] := by
  refine met_V (by decide +kernel) (Nat.le_of_ble_eq_true rfl) ?_
  intro p e s m args below meth c A H locs ls cx hw hr hlk hnm hl
  have hl : lv_has ls 2 [(0, .ref a_t), (1, .int (kI x1))] := hl
  rw [m_X7_fail] at h
  obtain ⟨⟨hx, hb, -, -, -⟩, -⟩ := id cx
  refine lv_aload_n hx hb dX7_fail_0 rfl (lv_at hl 0 rfl) ?_
  refine rf_get hx hb cx hw 0 rfl rfl 9 inX7 (by decide) fl_X7_38 rfl rfl dX7_fail_1 ?_
  obtain ⟨g1, h⟩ := gd_some h
  refine ri_if_ne (tgt := 20) hx hb g1 dX7_fail_4 (by decide) (fun c2 => ?_) (fun c2 => ?_)
  · have h := it_pos c2 h
    refine lv_aload_n hx hb dX7_fail_7 rfl (lv_at hl 0 rfl) ?_
    refine lv_iload_n hx hb dX7_fail_8 rfl (lv_at hl 1 rfl) ?_
    refine rf_put hx hb cx hw 0 rfl rfl 9 inX7 tyX7 tyX7_ok nmX7 (by decide) fl_X7_38 rfl rfl rfl rfl (Nat.le_of_ble_eq_true rfl) dX7_fail_9 (fun H locs hw => ?_)
    have hw : HP G A s.heap H locs [(a_t, .inr (6, [.ref a_t_score, .ref a_t_good, .ref a_t_bad, .ref a_t_open, .ref a_t_costs, .int (kI t_ats), .int (kI t_lines), .int (kI t_least), .int (kI t_most), .int (kI x1), .int (kI t_faultPlace), .int (kI t_toldLines), .int (kI t_kind), .int (kI t_start), .int (kI t_next), .int (kI t_number)])), (a_t_score, cAI G 60 t_score), (a_t_good, cAI G 60 t_good), (a_t_bad, cAI G 60 t_bad), (a_t_open, cAI G 60 t_open), (a_t_costs, cAI G 3 t_costs)] := hw
    refine lv_aload_n hx hb dX7_fail_12 rfl (lv_at hl 0 rfl) ?_
    refine lv_aload_n hx hb dX7_fail_13 rfl (lv_at hl 0 rfl) ?_
    refine rf_get hx hb cx hw 0 rfl rfl 13 inX7 (by decide) fl_X7_70 rfl rfl dX7_fail_14 ?_
    refine rf_put hx hb cx hw 0 rfl rfl 10 inX7 tyX7 tyX7_ok nmX7 (by decide) fl_X7_27 rfl rfl rfl rfl (Nat.le_of_ble_eq_true rfl) dX7_fail_17 (fun H locs hw => ?_)
    have hw : HP G A s.heap H locs [(a_t, .inr (6, [.ref a_t_score, .ref a_t_good, .ref a_t_bad, .ref a_t_open, .ref a_t_costs, .int (kI t_ats), .int (kI t_lines), .int (kI t_least), .int (kI t_most), .int (kI x1), .int (kI t_start), .int (kI t_toldLines), .int (kI t_kind), .int (kI t_start), .int (kI t_next), .int (kI t_number)])), (a_t_score, cAI G 60 t_score), (a_t_good, cAI G 60 t_good), (a_t_bad, cAI G 60 t_bad), (a_t_open, cAI G 60 t_open), (a_t_costs, cAI G 3 t_costs)] := hw
    obtain rfl := so_inj h
    exact re_v hx hb hlk hr cx hw (Nat.le_of_ble_eq_true rfl) (Nat.le_of_ble_eq_true rfl) dX7_fail_20
  · have h := it_neg c2 h
    obtain rfl := so_inj h
    exact re_v hx hb hlk hr cx hw (Nat.le_of_ble_eq_true rfl) (Nat.le_of_ble_eq_true rfl) dX7_fail_20
set_option maxHeartbeats 4000000 in
set_option maxRecDepth 100000 in
theorem w_X7_wantNumber_b37 {p : Program} {l : Launch} {e : Env} {s : State} {m : MethodId} {args : Array Value} {below : List Frame} {meth : Method} {c : Code} {A : Nat → Prop} {G : GG} {S : SM} (cx : CX p s m args c cX7_wantNumber RX7 4 G S A) (hlk : meth.locks = false) (hr : meth.sig.returnType = some .int) (N : Nat) (a_t a_t_score a_t_good a_t_bad a_t_open a_t_costs a_p1 a_p1_store : Nat) (t_ats : Int) (t_lines : Int) (t_least : Int) (t_most : Int) (t_toldLines : Int) (t_score : Int → Int) (t_good : Int → Int) (t_bad : Int → Int) (t_open : Int → Int) (t_costs : Int → Int) (p1_size : Int) (p1_store : Int → Int) (p1_store_n : Nat) (x2 : Int) (x3 : Int) (hn_p1_store : p1_store_n < 2147483648) (r : Int × Int × Int × Int × Int × Int × Int) : ∀ (t_faultKind : Int) (t_faultPlace : Int) (t_kind : Int) (t_start : Int) (t_next : Int) (t_number : Int), m_X7_wantNumber_b37 N p1_size p1_store p1_store_n x2 x3 t_faultKind t_faultPlace t_kind t_start t_next t_number = some r → ∀ (H : Heap) (locs : List Loc) (ls : Array Slot), HP G A s.heap H locs [(a_t, .inr (6, [.ref a_t_score, .ref a_t_good, .ref a_t_bad, .ref a_t_open, .ref a_t_costs, .int (kI t_ats), .int (kI t_lines), .int (kI t_least), .int (kI t_most), .int (kI t_faultKind), .int (kI t_faultPlace), .int (kI t_toldLines), .int (kI t_kind), .int (kI t_start), .int (kI t_next), .int (kI t_number)])), (a_t_score, cAI G 60 t_score), (a_t_good, cAI G 60 t_good), (a_t_bad, cAI G 60 t_bad), (a_t_open, cAI G 60 t_open), (a_t_costs, cAI G 3 t_costs), (a_p1, .inr (1, [.ref a_p1_store, .int (kI p1_size)])), (a_p1_store, cAI G p1_store_n p1_store)] → lv_has ls 4 [(0, .ref a_t)] → W p l e (rmD 3 0 0) s m args below meth c H locs 0 0 (MQ below (QcI G A r.1 [(a_t, .inr (6, [.ref a_t_score, .ref a_t_good, .ref a_t_bad, .ref a_t_open, .ref a_t_costs, .int (kI t_ats), .int (kI t_lines), .int (kI t_least), .int (kI t_most), .int (kI r.2.1), .int (kI r.2.2.1), .int (kI t_toldLines), .int (kI r.2.2.2.1), .int (kI r.2.2.2.2.1), .int (kI r.2.2.2.2.2.1), .int (kI r.2.2.2.2.2.2)])), (a_t_score, cAI G 60 t_score), (a_t_good, cAI G 60 t_good), (a_t_bad, cAI G 60 t_bad), (a_t_open, cAI G 60 t_open), (a_t_costs, cAI G 3 t_costs), (a_p1, .inr (1, [.ref a_p1_store, .int (kI p1_size)])), (a_p1_store, cAI G p1_store_n p1_store)]) args s (rmD 3 0 0).cells (rmD 3 0 0).slots A) (F0 m 37 ls []) := by
  intro t_faultKind t_faultPlace t_kind t_start t_next t_number h H locs ls hw hl
  rw [m_X7_wantNumber_b37] at h
  obtain ⟨⟨hx, hb, -, -, -⟩, -⟩ := id cx
  refine lv_aload_n hx hb dX7_wantNumber_37 rfl (lv_at hl 0 rfl) ?_
  refine ri_iconst hx hb dX7_wantNumber_38 ?_
  obtain ⟨r1, h1, h⟩ := bd_some h
  refine rc_V (w2 := [(a_t, .inr (6, [.ref a_t_score, .ref a_t_good, .ref a_t_bad, .ref a_t_open, .ref a_t_costs, .int (kI t_ats), .int (kI t_lines), .int (kI t_least), .int (kI t_most), .int (kI r1.1), .int (kI r1.2), .int (kI t_toldLines), .int (kI t_kind), .int (kI t_start), .int (kI t_next), .int (kI t_number)])), (a_t_score, cAI G 60 t_score), (a_t_good, cAI G 60 t_good), (a_t_bad, cAI G 60 t_bad), (a_t_open, cAI G 60 t_open), (a_t_costs, cAI G 3 t_costs), (a_p1, .inr (1, [.ref a_p1_store, .int (kI p1_size)])), (a_p1_store, cAI G p1_store_n p1_store)]) hw [0, 1, 2, 3, 4, 5] [6, 7] [2, 3, 4, 5, 6, 7, 0, 1] (rr_V cx hw (c_X7_fail l G S H.size N a_t a_t_score a_t_good a_t_bad a_t_open a_t_costs t_ats t_lines t_least t_most t_faultKind t_faultPlace t_toldLines t_kind t_start t_next t_number t_score t_good t_bad t_open t_costs 2 _ h1) mv_X7_48 [0, 1, 2, 3, 4, 5] rfl rfl rfl 0 rfl rfl ⟨Nat.le_of_ble_eq_true rfl, Nat.le_of_ble_eq_true rfl⟩ rfl hl.1 rfl (Nat.le_of_ble_eq_true rfl) dX7_wantNumber_39 ⟨Nat.le_of_ble_eq_true rfl, Nat.le_of_ble_eq_true rfl⟩) rfl rfl rfl rfl rfl rfl rfl rfl (fun H locs hw => ?_)
  refine lv_aload_n hx hb dX7_wantNumber_42 rfl (lv_at hl 0 rfl) ?_
  refine rf_get hx hb cx hw 0 rfl rfl 15 inX7 (by decide) fl_X7_104 rfl rfl dX7_wantNumber_43 ?_
  obtain rfl := so_inj h
  exact re_i hx hb hlk hr cx hw (Nat.le_of_ble_eq_true rfl) (Nat.le_of_ble_eq_true rfl) dX7_wantNumber_46
set_option maxHeartbeats 4000000 in
set_option maxRecDepth 100000 in
theorem c_X7_wantNumber (l : Launch) (G : GG) (S : SM) (sz : Nat) (N : Nat) (a_t a_t_score a_t_good a_t_bad a_t_open a_t_costs a_p1 a_p1_store : Nat) (t_ats : Int) (t_lines : Int) (t_least : Int) (t_most : Int) (t_faultKind : Int) (t_faultPlace : Int) (t_toldLines : Int) (t_kind : Int) (t_start : Int) (t_next : Int) (t_number : Int) (t_score : Int → Int) (t_good : Int → Int) (t_bad : Int → Int) (t_open : Int → Int) (t_costs : Int → Int) (p1_size : Int) (p1_store : Int → Int) (p1_store_n : Nat) (x2 : Int) (x3 : Int) (hn_p1_store : p1_store_n < 2147483648) (r : Int × Int × Int × Int × Int × Int × Int) (h : m_X7_wantNumber N p1_size p1_store p1_store_n t_faultKind t_faultPlace t_kind t_start t_next t_number x2 x3 = some r) : CtI l yX7_wantNumber cX7_wantNumber 4 .int (rmD 3 0 0) G S sz [.ref a_t, .ref a_p1, .int (kI x2), .int (kI x3)] [(a_t, .inr (6, [.ref a_t_score, .ref a_t_good, .ref a_t_bad, .ref a_t_open, .ref a_t_costs, .int (kI t_ats), .int (kI t_lines), .int (kI t_least), .int (kI t_most), .int (kI t_faultKind), .int (kI t_faultPlace), .int (kI t_toldLines), .int (kI t_kind), .int (kI t_start), .int (kI t_next), .int (kI t_number)])), (a_t_score, cAI G 60 t_score), (a_t_good, cAI G 60 t_good), (a_t_bad, cAI G 60 t_bad), (a_t_open, cAI G 60 t_open), (a_t_costs, cAI G 3 t_costs), (a_p1, .inr (1, [.ref a_p1_store, .int (kI p1_size)])), (a_p1_store, cAI G p1_store_n p1_store)] r.1 [(a_t, .inr (6, [.ref a_t_score, .ref a_t_good, .ref a_t_bad, .ref a_t_open, .ref a_t_costs, .int (kI t_ats), .int (kI t_lines), .int (kI t_least), .int (kI t_most), .int (kI r.2.1), .int (kI r.2.2.1), .int (kI t_toldLines), .int (kI r.2.2.2.1), .int (kI r.2.2.2.2.1), .int (kI r.2.2.2.2.2.1), .int (kI r.2.2.2.2.2.2)])), (a_t_score, cAI G 60 t_score), (a_t_good, cAI G 60 t_good), (a_t_bad, cAI G 60 t_bad), (a_t_open, cAI G 60 t_open), (a_t_costs, cAI G 3 t_costs), (a_p1, .inr (1, [.ref a_p1_store, .int (kI p1_size)])), (a_p1_store, cAI G p1_store_n p1_store)] := by
  refine met_I (by decide +kernel) (Nat.le_of_ble_eq_true rfl) ?_
  intro p e s m args below meth c A H locs ls cx hw hr hlk hnm hl
  have hl : lv_has ls 4 [(0, .ref a_t), (1, .ref a_p1), (2, .int (kI x2)), (3, .int (kI x3))] := hl
  rw [m_X7_wantNumber] at h
  obtain ⟨⟨hx, hb, -, -, -⟩, -⟩ := id cx
  refine lv_aload_n hx hb dX7_wantNumber_0 rfl (lv_at hl 0 rfl) ?_
  refine lv_aload_n hx hb dX7_wantNumber_1 rfl (lv_at hl 1 rfl) ?_
  obtain ⟨r1, h1, h⟩ := bd_some h
  refine rc_V (w2 := [(a_t, .inr (6, [.ref a_t_score, .ref a_t_good, .ref a_t_bad, .ref a_t_open, .ref a_t_costs, .int (kI t_ats), .int (kI t_lines), .int (kI t_least), .int (kI t_most), .int (kI t_faultKind), .int (kI t_faultPlace), .int (kI t_toldLines), .int (kI r1.1), .int (kI r1.2.1), .int (kI r1.2.2.1), .int (kI r1.2.2.2)])), (a_t_score, cAI G 60 t_score), (a_t_good, cAI G 60 t_good), (a_t_bad, cAI G 60 t_bad), (a_t_open, cAI G 60 t_open), (a_t_costs, cAI G 3 t_costs), (a_p1, .inr (1, [.ref a_p1_store, .int (kI p1_size)])), (a_p1_store, cAI G p1_store_n p1_store)]) hw [0, 1, 2, 3, 4, 5, 6, 7] [] [0, 1, 2, 3, 4, 5, 6, 7] (rr_V cx hw (c_X7_step l G S H.size N a_t a_t_score a_t_good a_t_bad a_t_open a_t_costs a_p1 a_p1_store t_ats t_lines t_least t_most t_faultKind t_faultPlace t_toldLines t_kind t_start t_next t_number t_score t_good t_bad t_open t_costs p1_size p1_store p1_store_n hn_p1_store _ h1) mv_X7_34 [0, 1, 2, 3, 4, 5, 6, 7] rfl rfl rfl 0 rfl rfl ⟨Nat.le_of_ble_eq_true rfl, Nat.le_of_ble_eq_true rfl⟩ rfl hl.1 rfl (Nat.le_of_ble_eq_true rfl) dX7_wantNumber_2 ⟨Nat.le_of_ble_eq_true rfl, Nat.le_of_ble_eq_true rfl⟩) rfl rfl rfl rfl rfl rfl rfl rfl (fun H locs hw => ?_)
  refine lv_aload_n hx hb dX7_wantNumber_5 rfl (lv_at hl 0 rfl) ?_
  refine rf_get hx hb cx hw 0 rfl rfl 12 inX7 (by decide) fl_X7_41 rfl rfl dX7_wantNumber_6 ?_
  refine ri_iconst hx hb dX7_wantNumber_9 ?_
  obtain ⟨g2, h⟩ := gd_some h
  refine ri_icmp_eq (tgt := 21) hx hb g2 ⟨by decide, by decide⟩ dX7_wantNumber_10 (by decide) (fun c3 => ?_) (fun c3 => ?_)
  · have h := it_pos c3 h
    refine lv_aload_n hx hb dX7_wantNumber_21 rfl (lv_at hl 0 rfl) ?_
    refine rf_get hx hb cx hw 0 rfl rfl 15 inX7 (by decide) fl_X7_104 rfl rfl dX7_wantNumber_22 ?_
    refine lv_iload_n hx hb dX7_wantNumber_25 rfl (lv_at hl 2 rfl) ?_
    obtain ⟨g4, h⟩ := gd_some h
    obtain ⟨g5, h⟩ := gd_some h
    refine ri_icmp_lt (tgt := 37) hx hb g4 g5 dX7_wantNumber_26 (by decide) (fun c6 => ?_) (fun c6 => ?_)
    · have h := it_pos c6 h
      exact w_X7_wantNumber_b37 cx hlk hr N a_t a_t_score a_t_good a_t_bad a_t_open a_t_costs a_p1 a_p1_store t_ats t_lines t_least t_most t_toldLines t_score t_good t_bad t_open t_costs p1_size p1_store p1_store_n x2 x3 hn_p1_store r t_faultKind t_faultPlace r1.1 r1.2.1 r1.2.2.1 r1.2.2.2 h _ _ _ hw (lv_sub hl [0] rfl)
    · have h := it_neg c6 h
      refine lv_aload_n hx hb dX7_wantNumber_29 rfl (lv_at hl 0 rfl) ?_
      refine rf_get hx hb cx hw 0 rfl rfl 15 inX7 (by decide) fl_X7_104 rfl rfl dX7_wantNumber_30 ?_
      refine lv_iload_n hx hb dX7_wantNumber_33 rfl (lv_at hl 3 rfl) ?_
      obtain ⟨g7, h⟩ := gd_some h
      refine ri_icmp_le (tgt := 42) hx hb g4 g7 dX7_wantNumber_34 (by decide) (fun c8 => ?_) (fun c8 => ?_)
      · have h := it_pos c8 h
        refine lv_aload_n hx hb dX7_wantNumber_42 rfl (lv_at hl 0 rfl) ?_
        refine rf_get hx hb cx hw 0 rfl rfl 15 inX7 (by decide) fl_X7_104 rfl rfl dX7_wantNumber_43 ?_
        obtain rfl := so_inj h
        exact re_i hx hb hlk hr cx hw (Nat.le_of_ble_eq_true rfl) (Nat.le_of_ble_eq_true rfl) dX7_wantNumber_46
      · have h := it_neg c8 h
        exact w_X7_wantNumber_b37 cx hlk hr N a_t a_t_score a_t_good a_t_bad a_t_open a_t_costs a_p1 a_p1_store t_ats t_lines t_least t_most t_toldLines t_score t_good t_bad t_open t_costs p1_size p1_store p1_store_n x2 x3 hn_p1_store r t_faultKind t_faultPlace r1.1 r1.2.1 r1.2.2.1 r1.2.2.2 h _ _ _ hw (lv_sub hl [0] rfl)
  · have h := it_neg c3 h
    refine lv_aload_n hx hb dX7_wantNumber_13 rfl (lv_at hl 0 rfl) ?_
    refine ri_iconst hx hb dX7_wantNumber_14 ?_
    obtain ⟨r9, h9, h⟩ := bd_some h
    refine rc_V (w2 := [(a_t, .inr (6, [.ref a_t_score, .ref a_t_good, .ref a_t_bad, .ref a_t_open, .ref a_t_costs, .int (kI t_ats), .int (kI t_lines), .int (kI t_least), .int (kI t_most), .int (kI r9.1), .int (kI r9.2), .int (kI t_toldLines), .int (kI r1.1), .int (kI r1.2.1), .int (kI r1.2.2.1), .int (kI r1.2.2.2)])), (a_t_score, cAI G 60 t_score), (a_t_good, cAI G 60 t_good), (a_t_bad, cAI G 60 t_bad), (a_t_open, cAI G 60 t_open), (a_t_costs, cAI G 3 t_costs), (a_p1, .inr (1, [.ref a_p1_store, .int (kI p1_size)])), (a_p1_store, cAI G p1_store_n p1_store)]) hw [0, 1, 2, 3, 4, 5] [6, 7] [2, 3, 4, 5, 6, 7, 0, 1] (rr_V cx hw (c_X7_fail l G S H.size N a_t a_t_score a_t_good a_t_bad a_t_open a_t_costs t_ats t_lines t_least t_most t_faultKind t_faultPlace t_toldLines r1.1 r1.2.1 r1.2.2.1 r1.2.2.2 t_score t_good t_bad t_open t_costs 1 _ h9) mv_X7_48 [0, 1, 2, 3, 4, 5] rfl rfl rfl 0 rfl rfl ⟨Nat.le_of_ble_eq_true rfl, Nat.le_of_ble_eq_true rfl⟩ rfl hl.1 rfl (Nat.le_of_ble_eq_true rfl) dX7_wantNumber_15 ⟨Nat.le_of_ble_eq_true rfl, Nat.le_of_ble_eq_true rfl⟩) rfl rfl rfl rfl rfl rfl rfl rfl (fun H locs hw => ?_)
    refine lv_goto (tgt := 42) hx hb dX7_wantNumber_18 (by decide) ?_
    refine lv_aload_n hx hb dX7_wantNumber_42 rfl (lv_at hl 0 rfl) ?_
    refine rf_get hx hb cx hw 0 rfl rfl 15 inX7 (by decide) fl_X7_104 rfl rfl dX7_wantNumber_43 ?_
    obtain rfl := so_inj h
    exact re_i hx hb hlk hr cx hw (Nat.le_of_ble_eq_true rfl) (Nat.le_of_ble_eq_true rfl) dX7_wantNumber_46
def PL_X7_isTold_b2 (p : Program) (l : Launch) (e : Env) (s : State) (m : MethodId) (args : Array Value) (below : List Frame) (meth : Method) (c : Code) (A : Nat → Prop) (G : GG) (S : SM) (a_t a_t_score a_t_good a_t_bad a_t_open a_t_costs : Nat) (t_ats : Int) (t_lines : Int) (t_least : Int) (t_most : Int) (t_faultKind : Int) (t_faultPlace : Int) (t_toldLines : Int) (t_kind : Int) (t_start : Int) (t_next : Int) (t_number : Int) (t_score : Int → Int) (t_good : Int → Int) (t_bad : Int → Int) (t_open : Int → Int) (t_costs : Int → Int) (x1 : Int) (r : Int) (kk : Int → Option (Int)) : Prop := ∀ (y2 : Int), kk y2 = some r → ∀ (H : Heap) (locs : List Loc) (ls : Array Slot), HP G A s.heap H locs [(a_t, .inr (6, [.ref a_t_score, .ref a_t_good, .ref a_t_bad, .ref a_t_open, .ref a_t_costs, .int (kI t_ats), .int (kI t_lines), .int (kI t_least), .int (kI t_most), .int (kI t_faultKind), .int (kI t_faultPlace), .int (kI t_toldLines), .int (kI t_kind), .int (kI t_start), .int (kI t_next), .int (kI t_number)])), (a_t_score, cAI G 60 t_score), (a_t_good, cAI G 60 t_good), (a_t_bad, cAI G 60 t_bad), (a_t_open, cAI G 60 t_open), (a_t_costs, cAI G 3 t_costs)] → lv_has ls 3 [(0, .ref a_t), (1, .int (kI x1)), (2, .int (kI y2))] → W p l e (rmD 1 0 0) s m args below meth c H locs 0 0 (MQ below (QcI G A r [(a_t, .inr (6, [.ref a_t_score, .ref a_t_good, .ref a_t_bad, .ref a_t_open, .ref a_t_costs, .int (kI t_ats), .int (kI t_lines), .int (kI t_least), .int (kI t_most), .int (kI t_faultKind), .int (kI t_faultPlace), .int (kI t_toldLines), .int (kI t_kind), .int (kI t_start), .int (kI t_next), .int (kI t_number)])), (a_t_score, cAI G 60 t_score), (a_t_good, cAI G 60 t_good), (a_t_bad, cAI G 60 t_bad), (a_t_open, cAI G 60 t_open), (a_t_costs, cAI G 3 t_costs)]) args s (rmD 1 0 0).cells (rmD 1 0 0).slots A) (F0 m 2 ls [])
set_option maxHeartbeats 4000000 in
set_option maxRecDepth 100000 in
theorem w_X7_isTold_b2 {p : Program} {l : Launch} {e : Env} {s : State} {m : MethodId} {args : Array Value} {below : List Frame} {meth : Method} {c : Code} {A : Nat → Prop} {G : GG} {S : SM} (cx : CX p s m args c cX7_isTold RX7 3 G S A) (hlk : meth.locks = false) (hr : meth.sig.returnType = some .boolean) (N : Nat) (a_t a_t_score a_t_good a_t_bad a_t_open a_t_costs : Nat) (t_ats : Int) (t_lines : Int) (t_least : Int) (t_most : Int) (t_faultKind : Int) (t_faultPlace : Int) (t_toldLines : Int) (t_kind : Int) (t_start : Int) (t_next : Int) (t_number : Int) (t_score : Int → Int) (t_good : Int → Int) (t_bad : Int → Int) (t_open : Int → Int) (t_costs : Int → Int) (x1 : Int) (r : Int) : ∀ n : Nat, PL_X7_isTold_b2 p l e s m args below meth c A G S a_t a_t_score a_t_good a_t_bad a_t_open a_t_costs t_ats t_lines t_least t_most t_faultKind t_faultPlace t_toldLines t_kind t_start t_next t_number t_score t_good t_bad t_open t_costs x1 r (m_X7_isTold_b2 N t_ats t_score x1 n) := by
  intro n
  induction n with
  | zero => intro y2 h; exact nomatch h
  | succ n ih =>
    intro y2 h H locs ls hw hl
    rw [m_X7_isTold_b2] at h
    obtain ⟨⟨hx, hb, -, -, -⟩, -⟩ := id cx
    refine lv_iload_n hx hb dX7_isTold_2 rfl (lv_at hl 2 rfl) ?_
    refine lv_aload_n hx hb dX7_isTold_3 rfl (lv_at hl 0 rfl) ?_
    refine rf_get hx hb cx hw 0 rfl rfl 5 inX7 (by decide) fl_X7_55 rfl rfl dX7_isTold_4 ?_
    obtain ⟨g1, h⟩ := gd_some h
    obtain ⟨g2, h⟩ := gd_some h
    refine ri_icmp_ge (tgt := 28) hx hb g1 g2 dX7_isTold_7 (by decide) (fun c3 => ?_) (fun c3 => ?_)
    · have h := it_pos c3 h
      refine ri_iconst hx hb dX7_isTold_28 ?_
      obtain rfl := so_inj h
      exact re_z (Or.inl rfl)  hx hb hlk hr cx hw (Nat.le_of_ble_eq_true rfl) (Nat.le_of_ble_eq_true rfl) dX7_isTold_29
    · have h := it_neg c3 h
      refine lv_aload_n hx hb dX7_isTold_10 rfl (lv_at hl 0 rfl) ?_
      refine rf_get hx hb cx hw 0 rfl rfl 0 inX7 (by decide) fl_X7_9 rfl rfl dX7_isTold_11 ?_
      refine lv_iload_n hx hb dX7_isTold_14 rfl (lv_at hl 2 rfl) ?_
      obtain ⟨g4, h⟩ := gd_some h
      refine ra_i hx hb cx hw 1 rfl (by decide) g4 dX7_isTold_15 ?_
      refine lv_iload_n hx hb dX7_isTold_16 rfl (lv_at hl 1 rfl) ?_
      obtain ⟨g5, h⟩ := gd_some h
      obtain ⟨g6, h⟩ := gd_some h
      refine ri_icmp_ne (tgt := 22) hx hb g5 g6 dX7_isTold_17 (by decide) (fun c7 => ?_) (fun c7 => ?_)
      · have h := it_pos c7 h
        refine ri_iconst hx hb dX7_isTold_20 ?_
        obtain rfl := so_inj h
        exact re_z (Or.inr rfl)  hx hb hlk hr cx hw (Nat.le_of_ble_eq_true rfl) (Nat.le_of_ble_eq_true rfl) dX7_isTold_21
      · have h := it_neg c7 h
        refine lv_iinc (v := kI (y2 + 1)) (lv' := [(2, .int (kI (y2 + 1))), (0, .ref a_t), (1, .int (kI x1))]) hx hb dX7_isTold_22 hl (k := 2) rfl (kI_add _ _) (by decide) rfl (fun ls hl => ?_)
        refine lv_goto (tgt := 2) hx hb dX7_isTold_25 (by decide) ?_
        exact ih (y2 + 1) h _ _ _ hw (lv_sub hl [1, 2, 0] rfl)
set_option maxHeartbeats 4000000 in
set_option maxRecDepth 100000 in
theorem c_X7_isTold (l : Launch) (G : GG) (S : SM) (sz : Nat) (N : Nat) (a_t a_t_score a_t_good a_t_bad a_t_open a_t_costs : Nat) (t_ats : Int) (t_lines : Int) (t_least : Int) (t_most : Int) (t_faultKind : Int) (t_faultPlace : Int) (t_toldLines : Int) (t_kind : Int) (t_start : Int) (t_next : Int) (t_number : Int) (t_score : Int → Int) (t_good : Int → Int) (t_bad : Int → Int) (t_open : Int → Int) (t_costs : Int → Int) (x1 : Int) (r : Int) (h : m_X7_isTold N t_ats t_score x1 = some r) : CtI l yX7_isTold cX7_isTold 3 .boolean (rmD 1 0 0) G S sz [.ref a_t, .int (kI x1)] [(a_t, .inr (6, [.ref a_t_score, .ref a_t_good, .ref a_t_bad, .ref a_t_open, .ref a_t_costs, .int (kI t_ats), .int (kI t_lines), .int (kI t_least), .int (kI t_most), .int (kI t_faultKind), .int (kI t_faultPlace), .int (kI t_toldLines), .int (kI t_kind), .int (kI t_start), .int (kI t_next), .int (kI t_number)])), (a_t_score, cAI G 60 t_score), (a_t_good, cAI G 60 t_good), (a_t_bad, cAI G 60 t_bad), (a_t_open, cAI G 60 t_open), (a_t_costs, cAI G 3 t_costs)] r [(a_t, .inr (6, [.ref a_t_score, .ref a_t_good, .ref a_t_bad, .ref a_t_open, .ref a_t_costs, .int (kI t_ats), .int (kI t_lines), .int (kI t_least), .int (kI t_most), .int (kI t_faultKind), .int (kI t_faultPlace), .int (kI t_toldLines), .int (kI t_kind), .int (kI t_start), .int (kI t_next), .int (kI t_number)])), (a_t_score, cAI G 60 t_score), (a_t_good, cAI G 60 t_good), (a_t_bad, cAI G 60 t_bad), (a_t_open, cAI G 60 t_open), (a_t_costs, cAI G 3 t_costs)] := by
  refine met_I (by decide +kernel) (Nat.le_of_ble_eq_true rfl) ?_
  intro p e s m args below meth c A H locs ls cx hw hr hlk hnm hl
  have hl : lv_has ls 3 [(0, .ref a_t), (1, .int (kI x1))] := hl
  rw [m_X7_isTold] at h
  obtain ⟨⟨hx, hb, -, -, -⟩, -⟩ := id cx
  refine ri_iconst hx hb dX7_isTold_0 ?_
  refine lv_istore_n (lv' := [(2, .int (kI 0)), (0, .ref a_t), (1, .int (kI x1))]) hx hb dX7_isTold_1 rfl hl (by decide) rfl (fun ls hl => ?_)
  exact w_X7_isTold_b2 cx hlk hr N a_t a_t_score a_t_good a_t_bad a_t_open a_t_costs t_ats t_lines t_least t_most t_faultKind t_faultPlace t_toldLines t_kind t_start t_next t_number t_score t_good t_bad t_open t_costs x1 r N 0 h _ _ _ hw (lv_sub hl [1, 2, 0] rfl)
set_option maxHeartbeats 4000000 in
set_option maxRecDepth 100000 in
theorem c_X7_wantWord (l : Launch) (G : GG) (S : SM) (sz : Nat) (N : Nat) (a_t a_t_score a_t_good a_t_bad a_t_open a_t_costs a_p1 a_p1_store : Nat) (t_ats : Int) (t_lines : Int) (t_least : Int) (t_most : Int) (t_faultKind : Int) (t_faultPlace : Int) (t_toldLines : Int) (t_kind : Int) (t_start : Int) (t_next : Int) (t_number : Int) (t_score : Int → Int) (t_good : Int → Int) (t_bad : Int → Int) (t_open : Int → Int) (t_costs : Int → Int) (p1_size : Int) (p1_store : Int → Int) (p1_store_n : Nat) (x2 : Nat) (hn_p1_store : p1_store_n < 2147483648) (r : Int × Int × Int × Int × Int × Int) (h : m_X7_wantWord N p1_size p1_store p1_store_n t_faultKind t_faultPlace t_kind t_start t_next t_number x2 = some r) : CtV l yX7_wantWord cX7_wantWord 3 (rmD 6 0 0) G S sz [.ref a_t, .ref a_p1, .ref (G.2.2.1 x2)] [(a_t, .inr (6, [.ref a_t_score, .ref a_t_good, .ref a_t_bad, .ref a_t_open, .ref a_t_costs, .int (kI t_ats), .int (kI t_lines), .int (kI t_least), .int (kI t_most), .int (kI t_faultKind), .int (kI t_faultPlace), .int (kI t_toldLines), .int (kI t_kind), .int (kI t_start), .int (kI t_next), .int (kI t_number)])), (a_t_score, cAI G 60 t_score), (a_t_good, cAI G 60 t_good), (a_t_bad, cAI G 60 t_bad), (a_t_open, cAI G 60 t_open), (a_t_costs, cAI G 3 t_costs), (a_p1, .inr (1, [.ref a_p1_store, .int (kI p1_size)])), (a_p1_store, cAI G p1_store_n p1_store)] [(a_t, .inr (6, [.ref a_t_score, .ref a_t_good, .ref a_t_bad, .ref a_t_open, .ref a_t_costs, .int (kI t_ats), .int (kI t_lines), .int (kI t_least), .int (kI t_most), .int (kI r.1), .int (kI r.2.1), .int (kI t_toldLines), .int (kI r.2.2.1), .int (kI r.2.2.2.1), .int (kI r.2.2.2.2.1), .int (kI r.2.2.2.2.2)])), (a_t_score, cAI G 60 t_score), (a_t_good, cAI G 60 t_good), (a_t_bad, cAI G 60 t_bad), (a_t_open, cAI G 60 t_open), (a_t_costs, cAI G 3 t_costs), (a_p1, .inr (1, [.ref a_p1_store, .int (kI p1_size)])), (a_p1_store, cAI G p1_store_n p1_store)] := by
  refine met_V (by decide +kernel) (Nat.le_of_ble_eq_true rfl) ?_
  intro p e s m args below meth c A H locs ls cx hw hr hlk hnm hl
  have hl : lv_has ls 3 [(0, .ref a_t), (1, .ref a_p1), (2, .ref (G.2.2.1 x2))] := hl
  rw [m_X7_wantWord] at h
  obtain ⟨⟨hx, hb, -, -, -⟩, -⟩ := id cx
  refine lv_aload_n hx hb dX7_wantWord_0 rfl (lv_at hl 0 rfl) ?_
  refine lv_aload_n hx hb dX7_wantWord_1 rfl (lv_at hl 1 rfl) ?_
  obtain ⟨r1, h1, h⟩ := bd_some h
  refine rc_V (w2 := [(a_t, .inr (6, [.ref a_t_score, .ref a_t_good, .ref a_t_bad, .ref a_t_open, .ref a_t_costs, .int (kI t_ats), .int (kI t_lines), .int (kI t_least), .int (kI t_most), .int (kI t_faultKind), .int (kI t_faultPlace), .int (kI t_toldLines), .int (kI r1.1), .int (kI r1.2.1), .int (kI r1.2.2.1), .int (kI r1.2.2.2)])), (a_t_score, cAI G 60 t_score), (a_t_good, cAI G 60 t_good), (a_t_bad, cAI G 60 t_bad), (a_t_open, cAI G 60 t_open), (a_t_costs, cAI G 3 t_costs), (a_p1, .inr (1, [.ref a_p1_store, .int (kI p1_size)])), (a_p1_store, cAI G p1_store_n p1_store)]) hw [0, 1, 2, 3, 4, 5, 6, 7] [] [0, 1, 2, 3, 4, 5, 6, 7] (rr_V cx hw (c_X7_step l G S H.size N a_t a_t_score a_t_good a_t_bad a_t_open a_t_costs a_p1 a_p1_store t_ats t_lines t_least t_most t_faultKind t_faultPlace t_toldLines t_kind t_start t_next t_number t_score t_good t_bad t_open t_costs p1_size p1_store p1_store_n hn_p1_store _ h1) mv_X7_34 [0, 1, 2, 3, 4, 5, 6, 7] rfl rfl rfl 0 rfl rfl ⟨Nat.le_of_ble_eq_true rfl, Nat.le_of_ble_eq_true rfl⟩ rfl hl.1 rfl (Nat.le_of_ble_eq_true rfl) dX7_wantWord_2 ⟨Nat.le_of_ble_eq_true rfl, Nat.le_of_ble_eq_true rfl⟩) rfl rfl rfl rfl rfl rfl rfl rfl (fun H locs hw => ?_)
  refine lv_aload_n hx hb dX7_wantWord_5 rfl (lv_at hl 0 rfl) ?_
  refine lv_aload_n hx hb dX7_wantWord_6 rfl (lv_at hl 1 rfl) ?_
  refine lv_aload_n hx hb dX7_wantWord_7 rfl (lv_at hl 2 rfl) ?_
  obtain ⟨r2, h2, h⟩ := bd_some h
  refine rc_I0 (v := r2) hw [0, 1, 2, 3, 4, 5, 6, 7] (rr_V cx hw (c_X7_isWord l G S H.size N a_t a_t_score a_t_good a_t_bad a_t_open a_t_costs a_p1 a_p1_store t_ats t_lines t_least t_most t_faultKind t_faultPlace t_toldLines r1.1 r1.2.1 r1.2.2.1 r1.2.2.2 t_score t_good t_bad t_open t_costs p1_size p1_store p1_store_n x2 hn_p1_store _ h2) mv_X7_75 [0, 1, 2, 3, 4, 5, 6, 7] rfl rfl rfl 0 rfl rfl ⟨Nat.le_of_ble_eq_true rfl, Nat.le_of_ble_eq_true rfl⟩ rfl hl.1 rfl (Nat.le_of_ble_eq_true rfl) dX7_wantWord_8 ⟨Nat.le_of_ble_eq_true rfl, Nat.le_of_ble_eq_true rfl⟩) rfl rfl (fun H locs hw => ?_)
  obtain ⟨g3, h⟩ := gd_some h
  refine ri_if_ne (tgt := 19) hx hb g3 dX7_wantWord_11 (by decide) (fun c4 => ?_) (fun c4 => ?_)
  · have h := it_pos c4 h
    refine lv_aload_n hx hb dX7_wantWord_14 rfl (lv_at hl 0 rfl) ?_
    refine ri_iconst hx hb dX7_wantWord_15 ?_
    obtain ⟨r5, h5, h⟩ := bd_some h
    refine rc_V (w2 := [(a_t, .inr (6, [.ref a_t_score, .ref a_t_good, .ref a_t_bad, .ref a_t_open, .ref a_t_costs, .int (kI t_ats), .int (kI t_lines), .int (kI t_least), .int (kI t_most), .int (kI r5.1), .int (kI r5.2), .int (kI t_toldLines), .int (kI r1.1), .int (kI r1.2.1), .int (kI r1.2.2.1), .int (kI r1.2.2.2)])), (a_t_score, cAI G 60 t_score), (a_t_good, cAI G 60 t_good), (a_t_bad, cAI G 60 t_bad), (a_t_open, cAI G 60 t_open), (a_t_costs, cAI G 3 t_costs), (a_p1, .inr (1, [.ref a_p1_store, .int (kI p1_size)])), (a_p1_store, cAI G p1_store_n p1_store)]) hw [0, 1, 2, 3, 4, 5] [6, 7] [2, 3, 4, 5, 6, 7, 0, 1] (rr_V cx hw (c_X7_fail l G S H.size N a_t a_t_score a_t_good a_t_bad a_t_open a_t_costs t_ats t_lines t_least t_most t_faultKind t_faultPlace t_toldLines r1.1 r1.2.1 r1.2.2.1 r1.2.2.2 t_score t_good t_bad t_open t_costs 1 _ h5) mv_X7_48 [0, 1, 2, 3, 4, 5] rfl rfl rfl 0 rfl rfl ⟨Nat.le_of_ble_eq_true rfl, Nat.le_of_ble_eq_true rfl⟩ rfl hl.1 rfl (Nat.le_of_ble_eq_true rfl) dX7_wantWord_16 ⟨Nat.le_of_ble_eq_true rfl, Nat.le_of_ble_eq_true rfl⟩) rfl rfl rfl rfl rfl rfl rfl rfl (fun H locs hw => ?_)
    obtain rfl := so_inj h
    exact re_v hx hb hlk hr cx hw (Nat.le_of_ble_eq_true rfl) (Nat.le_of_ble_eq_true rfl) dX7_wantWord_19
  · have h := it_neg c4 h
    obtain rfl := so_inj h
    exact re_v hx hb hlk hr cx hw (Nat.le_of_ble_eq_true rfl) (Nat.le_of_ble_eq_true rfl) dX7_wantWord_19
set_option maxHeartbeats 4000000 in
set_option maxRecDepth 100000 in
theorem w_X7_readAt_b149 {p : Program} {l : Launch} {e : Env} {s : State} {m : MethodId} {args : Array Value} {below : List Frame} {meth : Method} {c : Code} {A : Nat → Prop} {G : GG} {S : SM} (cx : CX p s m args c cX7_readAt RX7 2 G S A) (hlk : meth.locks = false) (hr : meth.sig.returnType = none) (N : Nat) (a_t a_t_score a_t_good a_t_bad a_t_open a_t_costs a_p1 a_p1_store : Nat) (t_lines : Int) (t_least : Int) (t_most : Int) (t_toldLines : Int) (t_costs : Int → Int) (p1_size : Int) (p1_store : Int → Int) (p1_store_n : Nat) (hn_p1_store : p1_store_n < 2147483648) (r : Int × Int × Int × Int × Int × Int × Int × (Int → Int) × (Int → Int) × (Int → Int) × (Int → Int)) : ∀ (t_ats : Int) (t_faultKind : Int) (t_faultPlace : Int) (t_kind : Int) (t_start : Int) (t_next : Int) (t_number : Int) (t_score : Int → Int) (t_good : Int → Int) (t_bad : Int → Int) (t_open : Int → Int), m_X7_readAt_b149 N p1_size p1_store p1_store_n t_ats t_faultKind t_faultPlace t_kind t_start t_next t_number t_score t_good t_bad t_open = some r → ∀ (H : Heap) (locs : List Loc) (ls : Array Slot), HP G A s.heap H locs [(a_t, .inr (6, [.ref a_t_score, .ref a_t_good, .ref a_t_bad, .ref a_t_open, .ref a_t_costs, .int (kI t_ats), .int (kI t_lines), .int (kI t_least), .int (kI t_most), .int (kI t_faultKind), .int (kI t_faultPlace), .int (kI t_toldLines), .int (kI t_kind), .int (kI t_start), .int (kI t_next), .int (kI t_number)])), (a_t_score, cAI G 60 t_score), (a_t_good, cAI G 60 t_good), (a_t_bad, cAI G 60 t_bad), (a_t_open, cAI G 60 t_open), (a_t_costs, cAI G 3 t_costs), (a_p1, .inr (1, [.ref a_p1_store, .int (kI p1_size)])), (a_p1_store, cAI G p1_store_n p1_store)] → lv_has ls 2 [(0, .ref a_t)] → W p l e (rmD 7 0 0) s m args below meth c H locs 0 0 (MQ below (QcV G A [(a_t, .inr (6, [.ref a_t_score, .ref a_t_good, .ref a_t_bad, .ref a_t_open, .ref a_t_costs, .int (kI r.1), .int (kI t_lines), .int (kI t_least), .int (kI t_most), .int (kI r.2.1), .int (kI r.2.2.1), .int (kI t_toldLines), .int (kI r.2.2.2.1), .int (kI r.2.2.2.2.1), .int (kI r.2.2.2.2.2.1), .int (kI r.2.2.2.2.2.2.1)])), (a_t_score, cAI G 60 r.2.2.2.2.2.2.2.1), (a_t_good, cAI G 60 r.2.2.2.2.2.2.2.2.1), (a_t_bad, cAI G 60 r.2.2.2.2.2.2.2.2.2.1), (a_t_open, cAI G 60 r.2.2.2.2.2.2.2.2.2.2), (a_t_costs, cAI G 3 t_costs), (a_p1, .inr (1, [.ref a_p1_store, .int (kI p1_size)])), (a_p1_store, cAI G p1_store_n p1_store)]) args s (rmD 7 0 0).cells (rmD 7 0 0).slots A) (F0 m 149 ls []) := by
  intro t_ats t_faultKind t_faultPlace t_kind t_start t_next t_number t_score t_good t_bad t_open h H locs ls hw hl
  rw [m_X7_readAt_b149] at h
  obtain ⟨⟨hx, hb, -, -, -⟩, -⟩ := id cx
  refine lv_aload_n hx hb dX7_readAt_149 rfl (lv_at hl 0 rfl) ?_
  refine lv_dup hx hb dX7_readAt_150 rfl ?_
  refine rf_get hx hb cx hw 0 rfl rfl 5 inX7 (by decide) fl_X7_55 rfl rfl dX7_readAt_151 ?_
  refine ri_iconst hx hb dX7_readAt_154 ?_
  refine ri_iadd hx hb dX7_readAt_155 ?_
  refine rf_put hx hb cx hw 0 rfl rfl 5 inX7 tyX7 tyX7_ok nmX7 (by decide) fl_X7_55 rfl rfl rfl rfl (Nat.le_of_ble_eq_true rfl) dX7_readAt_156 (fun H locs hw => ?_)
  have hw : HP G A s.heap H locs [(a_t, .inr (6, [.ref a_t_score, .ref a_t_good, .ref a_t_bad, .ref a_t_open, .ref a_t_costs, .int (kI (t_ats + 1)), .int (kI t_lines), .int (kI t_least), .int (kI t_most), .int (kI t_faultKind), .int (kI t_faultPlace), .int (kI t_toldLines), .int (kI t_kind), .int (kI t_start), .int (kI t_next), .int (kI t_number)])), (a_t_score, cAI G 60 t_score), (a_t_good, cAI G 60 t_good), (a_t_bad, cAI G 60 t_bad), (a_t_open, cAI G 60 t_open), (a_t_costs, cAI G 3 t_costs), (a_p1, .inr (1, [.ref a_p1_store, .int (kI p1_size)])), (a_p1_store, cAI G p1_store_n p1_store)] := hw
  obtain rfl := so_inj h
  exact re_v hx hb hlk hr cx hw (Nat.le_of_ble_eq_true rfl) (Nat.le_of_ble_eq_true rfl) dX7_readAt_159
set_option maxHeartbeats 4000000 in
set_option maxRecDepth 100000 in
theorem w_X7_readAt_b54 {p : Program} {l : Launch} {e : Env} {s : State} {m : MethodId} {args : Array Value} {below : List Frame} {meth : Method} {c : Code} {A : Nat → Prop} {G : GG} {S : SM} (cx : CX p s m args c cX7_readAt RX7 2 G S A) (hlk : meth.locks = false) (hr : meth.sig.returnType = none) (N : Nat) (a_t a_t_score a_t_good a_t_bad a_t_open a_t_costs a_p1 a_p1_store : Nat) (t_lines : Int) (t_least : Int) (t_most : Int) (t_toldLines : Int) (t_costs : Int → Int) (p1_size : Int) (p1_store : Int → Int) (p1_store_n : Nat) (hn_p1_store : p1_store_n < 2147483648) (r : Int × Int × Int × Int × Int × Int × Int × (Int → Int) × (Int → Int) × (Int → Int) × (Int → Int)) : ∀ (t_ats : Int) (t_faultKind : Int) (t_faultPlace : Int) (t_kind : Int) (t_start : Int) (t_next : Int) (t_number : Int) (t_score : Int → Int) (t_good : Int → Int) (t_bad : Int → Int) (t_open : Int → Int), m_X7_readAt_b54 N p1_size p1_store p1_store_n t_ats t_faultKind t_faultPlace t_kind t_start t_next t_number t_score t_good t_bad t_open = some r → ∀ (H : Heap) (locs : List Loc) (ls : Array Slot), HP G A s.heap H locs [(a_t, .inr (6, [.ref a_t_score, .ref a_t_good, .ref a_t_bad, .ref a_t_open, .ref a_t_costs, .int (kI t_ats), .int (kI t_lines), .int (kI t_least), .int (kI t_most), .int (kI t_faultKind), .int (kI t_faultPlace), .int (kI t_toldLines), .int (kI t_kind), .int (kI t_start), .int (kI t_next), .int (kI t_number)])), (a_t_score, cAI G 60 t_score), (a_t_good, cAI G 60 t_good), (a_t_bad, cAI G 60 t_bad), (a_t_open, cAI G 60 t_open), (a_t_costs, cAI G 3 t_costs), (a_p1, .inr (1, [.ref a_p1_store, .int (kI p1_size)])), (a_p1_store, cAI G p1_store_n p1_store)] → lv_has ls 2 [(0, .ref a_t), (1, .ref a_p1)] → W p l e (rmD 7 0 0) s m args below meth c H locs 0 0 (MQ below (QcV G A [(a_t, .inr (6, [.ref a_t_score, .ref a_t_good, .ref a_t_bad, .ref a_t_open, .ref a_t_costs, .int (kI r.1), .int (kI t_lines), .int (kI t_least), .int (kI t_most), .int (kI r.2.1), .int (kI r.2.2.1), .int (kI t_toldLines), .int (kI r.2.2.2.1), .int (kI r.2.2.2.2.1), .int (kI r.2.2.2.2.2.1), .int (kI r.2.2.2.2.2.2.1)])), (a_t_score, cAI G 60 r.2.2.2.2.2.2.2.1), (a_t_good, cAI G 60 r.2.2.2.2.2.2.2.2.1), (a_t_bad, cAI G 60 r.2.2.2.2.2.2.2.2.2.1), (a_t_open, cAI G 60 r.2.2.2.2.2.2.2.2.2.2), (a_t_costs, cAI G 3 t_costs), (a_p1, .inr (1, [.ref a_p1_store, .int (kI p1_size)])), (a_p1_store, cAI G p1_store_n p1_store)]) args s (rmD 7 0 0).cells (rmD 7 0 0).slots A) (F0 m 54 ls []) := by
  intro t_ats t_faultKind t_faultPlace t_kind t_start t_next t_number t_score t_good t_bad t_open h H locs ls hw hl
  rw [m_X7_readAt_b54] at h
  obtain ⟨⟨hx, hb, -, -, -⟩, -⟩ := id cx
  refine lv_aload_n hx hb dX7_readAt_54 rfl (lv_at hl 0 rfl) ?_
  refine lv_aload_n hx hb dX7_readAt_55 rfl (lv_at hl 1 rfl) ?_
  refine va_ldcS hx hb cx.1.2.2.2.1 cx.2.2.1.2.2.2.2.1 dX7_readAt_56 ?_
  obtain ⟨r1, h1, h⟩ := bd_some h
  refine rc_V (w2 := [(a_t, .inr (6, [.ref a_t_score, .ref a_t_good, .ref a_t_bad, .ref a_t_open, .ref a_t_costs, .int (kI t_ats), .int (kI t_lines), .int (kI t_least), .int (kI t_most), .int (kI r1.1), .int (kI r1.2.1), .int (kI t_toldLines), .int (kI r1.2.2.1), .int (kI r1.2.2.2.1), .int (kI r1.2.2.2.2.1), .int (kI r1.2.2.2.2.2)])), (a_t_score, cAI G 60 t_score), (a_t_good, cAI G 60 t_good), (a_t_bad, cAI G 60 t_bad), (a_t_open, cAI G 60 t_open), (a_t_costs, cAI G 3 t_costs), (a_p1, .inr (1, [.ref a_p1_store, .int (kI p1_size)])), (a_p1_store, cAI G p1_store_n p1_store)]) hw [0, 1, 2, 3, 4, 5, 6, 7] [] [0, 1, 2, 3, 4, 5, 6, 7] (rr_V cx hw (c_X7_wantWord l G S H.size N a_t a_t_score a_t_good a_t_bad a_t_open a_t_costs a_p1 a_p1_store t_ats t_lines t_least t_most t_faultKind t_faultPlace t_toldLines t_kind t_start t_next t_number t_score t_good t_bad t_open t_costs p1_size p1_store p1_store_n 4 hn_p1_store _ h1) mv_X7_98 [0, 1, 2, 3, 4, 5, 6, 7] rfl rfl rfl 0 rfl rfl ⟨Nat.le_of_ble_eq_true rfl, Nat.le_of_ble_eq_true rfl⟩ rfl hl.1 rfl (Nat.le_of_ble_eq_true rfl) dX7_readAt_58 ⟨Nat.le_of_ble_eq_true rfl, Nat.le_of_ble_eq_true rfl⟩) rfl rfl rfl rfl rfl rfl rfl rfl (fun H locs hw => ?_)
  refine lv_aload_n hx hb dX7_readAt_61 rfl (lv_at hl 0 rfl) ?_
  refine rf_get hx hb cx hw 0 rfl rfl 1 inX7 (by decide) fl_X7_15 rfl rfl dX7_readAt_62 ?_
  refine lv_aload_n hx hb dX7_readAt_65 rfl (lv_at hl 0 rfl) ?_
  refine rf_get hx hb cx hw 0 rfl rfl 5 inX7 (by decide) fl_X7_55 rfl rfl dX7_readAt_66 ?_
  refine lv_aload_n hx hb dX7_readAt_69 rfl (lv_at hl 0 rfl) ?_
  refine lv_aload_n hx hb dX7_readAt_70 rfl (lv_at hl 1 rfl) ?_
  refine ri_iconst hx hb dX7_readAt_71 ?_
  refine ri_bipush hx hb dX7_readAt_72 rfl ?_
  obtain ⟨r2, h2, h⟩ := bd_some h
  refine rc_I (v := r2.1) (w2 := [(a_t, .inr (6, [.ref a_t_score, .ref a_t_good, .ref a_t_bad, .ref a_t_open, .ref a_t_costs, .int (kI t_ats), .int (kI t_lines), .int (kI t_least), .int (kI t_most), .int (kI r2.2.1), .int (kI r2.2.2.1), .int (kI t_toldLines), .int (kI r2.2.2.2.1), .int (kI r2.2.2.2.2.1), .int (kI r2.2.2.2.2.2.1), .int (kI r2.2.2.2.2.2.2)])), (a_t_score, cAI G 60 t_score), (a_t_good, cAI G 60 t_good), (a_t_bad, cAI G 60 t_bad), (a_t_open, cAI G 60 t_open), (a_t_costs, cAI G 3 t_costs), (a_p1, .inr (1, [.ref a_p1_store, .int (kI p1_size)])), (a_p1_store, cAI G p1_store_n p1_store)]) hw [0, 1, 2, 3, 4, 5, 6, 7] [] [0, 1, 2, 3, 4, 5, 6, 7] (rr_V cx hw (c_X7_wantNumber l G S H.size N a_t a_t_score a_t_good a_t_bad a_t_open a_t_costs a_p1 a_p1_store t_ats t_lines t_least t_most r1.1 r1.2.1 t_toldLines r1.2.2.1 r1.2.2.2.1 r1.2.2.2.2.1 r1.2.2.2.2.2 t_score t_good t_bad t_open t_costs p1_size p1_store p1_store_n 0 99 hn_p1_store _ h2) mv_X7_86 [0, 1, 2, 3, 4, 5, 6, 7] rfl rfl rfl 0 rfl rfl ⟨Nat.le_of_ble_eq_true rfl, Nat.le_of_ble_eq_true rfl⟩ rfl hl.1 rfl (Nat.le_of_ble_eq_true rfl) dX7_readAt_74 ⟨Nat.le_of_ble_eq_true rfl, Nat.le_of_ble_eq_true rfl⟩) rfl rfl rfl rfl rfl rfl rfl rfl (fun H locs hw => ?_)
  obtain ⟨g3, h⟩ := gd_some h
  refine ra_si hx hb cx hw 2 rfl (by decide) g3 dX7_readAt_77 (fun H locs hw => ?_)
  have hw : HP G A s.heap H locs [(a_t, .inr (6, [.ref a_t_score, .ref a_t_good, .ref a_t_bad, .ref a_t_open, .ref a_t_costs, .int (kI t_ats), .int (kI t_lines), .int (kI t_least), .int (kI t_most), .int (kI r2.2.1), .int (kI r2.2.2.1), .int (kI t_toldLines), .int (kI r2.2.2.2.1), .int (kI r2.2.2.2.2.1), .int (kI r2.2.2.2.2.2.1), .int (kI r2.2.2.2.2.2.2)])), (a_t_score, cAI G 60 t_score), (a_t_good, cAI G 60 (uP t_good t_ats r2.1)), (a_t_bad, cAI G 60 t_bad), (a_t_open, cAI G 60 t_open), (a_t_costs, cAI G 3 t_costs), (a_p1, .inr (1, [.ref a_p1_store, .int (kI p1_size)])), (a_p1_store, cAI G p1_store_n p1_store)] := hw
  refine lv_aload_n hx hb dX7_readAt_78 rfl (lv_at hl 0 rfl) ?_
  refine lv_aload_n hx hb dX7_readAt_79 rfl (lv_at hl 1 rfl) ?_
  refine va_ldcS hx hb cx.1.2.2.2.1 cx.2.2.1.2.2.2.2.2.1 dX7_readAt_80 ?_
  obtain ⟨r4, h4, h⟩ := bd_some h
  refine rc_V (w2 := [(a_t, .inr (6, [.ref a_t_score, .ref a_t_good, .ref a_t_bad, .ref a_t_open, .ref a_t_costs, .int (kI t_ats), .int (kI t_lines), .int (kI t_least), .int (kI t_most), .int (kI r4.1), .int (kI r4.2.1), .int (kI t_toldLines), .int (kI r4.2.2.1), .int (kI r4.2.2.2.1), .int (kI r4.2.2.2.2.1), .int (kI r4.2.2.2.2.2)])), (a_t_score, cAI G 60 t_score), (a_t_good, cAI G 60 (uP t_good t_ats r2.1)), (a_t_bad, cAI G 60 t_bad), (a_t_open, cAI G 60 t_open), (a_t_costs, cAI G 3 t_costs), (a_p1, .inr (1, [.ref a_p1_store, .int (kI p1_size)])), (a_p1_store, cAI G p1_store_n p1_store)]) hw [0, 1, 2, 3, 4, 5, 6, 7] [] [0, 1, 2, 3, 4, 5, 6, 7] (rr_V cx hw (c_X7_wantWord l G S H.size N a_t a_t_score a_t_good a_t_bad a_t_open a_t_costs a_p1 a_p1_store t_ats t_lines t_least t_most r2.2.1 r2.2.2.1 t_toldLines r2.2.2.2.1 r2.2.2.2.2.1 r2.2.2.2.2.2.1 r2.2.2.2.2.2.2 t_score (uP t_good t_ats r2.1) t_bad t_open t_costs p1_size p1_store p1_store_n 5 hn_p1_store _ h4) mv_X7_98 [0, 1, 2, 3, 4, 5, 6, 7] rfl rfl rfl 0 rfl rfl ⟨Nat.le_of_ble_eq_true rfl, Nat.le_of_ble_eq_true rfl⟩ rfl hl.1 rfl (Nat.le_of_ble_eq_true rfl) dX7_readAt_82 ⟨Nat.le_of_ble_eq_true rfl, Nat.le_of_ble_eq_true rfl⟩) rfl rfl rfl rfl rfl rfl rfl rfl (fun H locs hw => ?_)
  refine lv_aload_n hx hb dX7_readAt_85 rfl (lv_at hl 0 rfl) ?_
  refine rf_get hx hb cx hw 0 rfl rfl 2 inX7 (by decide) fl_X7_18 rfl rfl dX7_readAt_86 ?_
  refine lv_aload_n hx hb dX7_readAt_89 rfl (lv_at hl 0 rfl) ?_
  refine rf_get hx hb cx hw 0 rfl rfl 5 inX7 (by decide) fl_X7_55 rfl rfl dX7_readAt_90 ?_
  refine lv_aload_n hx hb dX7_readAt_93 rfl (lv_at hl 0 rfl) ?_
  refine lv_aload_n hx hb dX7_readAt_94 rfl (lv_at hl 1 rfl) ?_
  refine ri_iconst hx hb dX7_readAt_95 ?_
  refine ri_bipush hx hb dX7_readAt_96 rfl ?_
  obtain ⟨r5, h5, h⟩ := bd_some h
  refine rc_I (v := r5.1) (w2 := [(a_t, .inr (6, [.ref a_t_score, .ref a_t_good, .ref a_t_bad, .ref a_t_open, .ref a_t_costs, .int (kI t_ats), .int (kI t_lines), .int (kI t_least), .int (kI t_most), .int (kI r5.2.1), .int (kI r5.2.2.1), .int (kI t_toldLines), .int (kI r5.2.2.2.1), .int (kI r5.2.2.2.2.1), .int (kI r5.2.2.2.2.2.1), .int (kI r5.2.2.2.2.2.2)])), (a_t_score, cAI G 60 t_score), (a_t_good, cAI G 60 (uP t_good t_ats r2.1)), (a_t_bad, cAI G 60 t_bad), (a_t_open, cAI G 60 t_open), (a_t_costs, cAI G 3 t_costs), (a_p1, .inr (1, [.ref a_p1_store, .int (kI p1_size)])), (a_p1_store, cAI G p1_store_n p1_store)]) hw [0, 1, 2, 3, 4, 5, 6, 7] [] [0, 1, 2, 3, 4, 5, 6, 7] (rr_V cx hw (c_X7_wantNumber l G S H.size N a_t a_t_score a_t_good a_t_bad a_t_open a_t_costs a_p1 a_p1_store t_ats t_lines t_least t_most r4.1 r4.2.1 t_toldLines r4.2.2.1 r4.2.2.2.1 r4.2.2.2.2.1 r4.2.2.2.2.2 t_score (uP t_good t_ats r2.1) t_bad t_open t_costs p1_size p1_store p1_store_n 0 99 hn_p1_store _ h5) mv_X7_86 [0, 1, 2, 3, 4, 5, 6, 7] rfl rfl rfl 0 rfl rfl ⟨Nat.le_of_ble_eq_true rfl, Nat.le_of_ble_eq_true rfl⟩ rfl hl.1 rfl (Nat.le_of_ble_eq_true rfl) dX7_readAt_98 ⟨Nat.le_of_ble_eq_true rfl, Nat.le_of_ble_eq_true rfl⟩) rfl rfl rfl rfl rfl rfl rfl rfl (fun H locs hw => ?_)
  refine ra_si hx hb cx hw 3 rfl (by decide) g3 dX7_readAt_101 (fun H locs hw => ?_)
  have hw : HP G A s.heap H locs [(a_t, .inr (6, [.ref a_t_score, .ref a_t_good, .ref a_t_bad, .ref a_t_open, .ref a_t_costs, .int (kI t_ats), .int (kI t_lines), .int (kI t_least), .int (kI t_most), .int (kI r5.2.1), .int (kI r5.2.2.1), .int (kI t_toldLines), .int (kI r5.2.2.2.1), .int (kI r5.2.2.2.2.1), .int (kI r5.2.2.2.2.2.1), .int (kI r5.2.2.2.2.2.2)])), (a_t_score, cAI G 60 t_score), (a_t_good, cAI G 60 (uP t_good t_ats r2.1)), (a_t_bad, cAI G 60 (uP t_bad t_ats r5.1)), (a_t_open, cAI G 60 t_open), (a_t_costs, cAI G 3 t_costs), (a_p1, .inr (1, [.ref a_p1_store, .int (kI p1_size)])), (a_p1_store, cAI G p1_store_n p1_store)] := hw
  refine lv_aload_n hx hb dX7_readAt_102 rfl (lv_at hl 0 rfl) ?_
  refine rf_get hx hb cx hw 0 rfl rfl 3 inX7 (by decide) fl_X7_21 rfl rfl dX7_readAt_103 ?_
  refine lv_aload_n hx hb dX7_readAt_106 rfl (lv_at hl 0 rfl) ?_
  refine rf_get hx hb cx hw 0 rfl rfl 5 inX7 (by decide) fl_X7_55 rfl rfl dX7_readAt_107 ?_
  refine ri_iconst hx hb dX7_readAt_110 ?_
  refine ra_si hx hb cx hw 4 rfl (by decide) g3 dX7_readAt_111 (fun H locs hw => ?_)
  have hw : HP G A s.heap H locs [(a_t, .inr (6, [.ref a_t_score, .ref a_t_good, .ref a_t_bad, .ref a_t_open, .ref a_t_costs, .int (kI t_ats), .int (kI t_lines), .int (kI t_least), .int (kI t_most), .int (kI r5.2.1), .int (kI r5.2.2.1), .int (kI t_toldLines), .int (kI r5.2.2.2.1), .int (kI r5.2.2.2.2.1), .int (kI r5.2.2.2.2.2.1), .int (kI r5.2.2.2.2.2.2)])), (a_t_score, cAI G 60 t_score), (a_t_good, cAI G 60 (uP t_good t_ats r2.1)), (a_t_bad, cAI G 60 (uP t_bad t_ats r5.1)), (a_t_open, cAI G 60 (uP t_open t_ats 0)), (a_t_costs, cAI G 3 t_costs), (a_p1, .inr (1, [.ref a_p1_store, .int (kI p1_size)])), (a_p1_store, cAI G p1_store_n p1_store)] := hw
  refine lv_aload_n hx hb dX7_readAt_112 rfl (lv_at hl 0 rfl) ?_
  refine lv_aload_n hx hb dX7_readAt_113 rfl (lv_at hl 1 rfl) ?_
  obtain ⟨r6, h6, h⟩ := bd_some h
  refine rc_V (w2 := [(a_t, .inr (6, [.ref a_t_score, .ref a_t_good, .ref a_t_bad, .ref a_t_open, .ref a_t_costs, .int (kI t_ats), .int (kI t_lines), .int (kI t_least), .int (kI t_most), .int (kI r5.2.1), .int (kI r5.2.2.1), .int (kI t_toldLines), .int (kI r6.1), .int (kI r6.2.1), .int (kI r6.2.2.1), .int (kI r6.2.2.2)])), (a_t_score, cAI G 60 t_score), (a_t_good, cAI G 60 (uP t_good t_ats r2.1)), (a_t_bad, cAI G 60 (uP t_bad t_ats r5.1)), (a_t_open, cAI G 60 (uP t_open t_ats 0)), (a_t_costs, cAI G 3 t_costs), (a_p1, .inr (1, [.ref a_p1_store, .int (kI p1_size)])), (a_p1_store, cAI G p1_store_n p1_store)]) hw [0, 1, 2, 3, 4, 5, 6, 7] [] [0, 1, 2, 3, 4, 5, 6, 7] (rr_V cx hw (c_X7_step l G S H.size N a_t a_t_score a_t_good a_t_bad a_t_open a_t_costs a_p1 a_p1_store t_ats t_lines t_least t_most r5.2.1 r5.2.2.1 t_toldLines r5.2.2.2.1 r5.2.2.2.2.1 r5.2.2.2.2.2.1 r5.2.2.2.2.2.2 t_score (uP t_good t_ats r2.1) (uP t_bad t_ats r5.1) (uP t_open t_ats 0) t_costs p1_size p1_store p1_store_n hn_p1_store _ h6) mv_X7_34 [0, 1, 2, 3, 4, 5, 6, 7] rfl rfl rfl 0 rfl rfl ⟨Nat.le_of_ble_eq_true rfl, Nat.le_of_ble_eq_true rfl⟩ rfl hl.1 rfl (Nat.le_of_ble_eq_true rfl) dX7_readAt_114 ⟨Nat.le_of_ble_eq_true rfl, Nat.le_of_ble_eq_true rfl⟩) rfl rfl rfl rfl rfl rfl rfl rfl (fun H locs hw => ?_)
  refine lv_aload_n hx hb dX7_readAt_117 rfl (lv_at hl 0 rfl) ?_
  refine lv_aload_n hx hb dX7_readAt_118 rfl (lv_at hl 1 rfl) ?_
  refine va_ldcS hx hb cx.1.2.2.2.1 cx.2.2.1.2.2.2.2.2.2.1 dX7_readAt_119 ?_
  obtain ⟨r7, h7, h⟩ := bd_some h
  refine rc_I0 (v := r7) hw [0, 1, 2, 3, 4, 5, 6, 7] (rr_V cx hw (c_X7_isWord l G S H.size N a_t a_t_score a_t_good a_t_bad a_t_open a_t_costs a_p1 a_p1_store t_ats t_lines t_least t_most r5.2.1 r5.2.2.1 t_toldLines r6.1 r6.2.1 r6.2.2.1 r6.2.2.2 t_score (uP t_good t_ats r2.1) (uP t_bad t_ats r5.1) (uP t_open t_ats 0) t_costs p1_size p1_store p1_store_n 6 hn_p1_store _ h7) mv_X7_75 [0, 1, 2, 3, 4, 5, 6, 7] rfl rfl rfl 0 rfl rfl ⟨Nat.le_of_ble_eq_true rfl, Nat.le_of_ble_eq_true rfl⟩ rfl hl.1 rfl (Nat.le_of_ble_eq_true rfl) dX7_readAt_121 ⟨Nat.le_of_ble_eq_true rfl, Nat.le_of_ble_eq_true rfl⟩) rfl rfl (fun H locs hw => ?_)
  obtain ⟨g8, h⟩ := gd_some h
  refine ri_if_eq (tgt := 149) hx hb g8 dX7_readAt_124 (by decide) (fun c9 => ?_) (fun c9 => ?_)
  · have h := it_pos c9 h
    exact w_X7_readAt_b149 cx hlk hr N a_t a_t_score a_t_good a_t_bad a_t_open a_t_costs a_p1 a_p1_store t_lines t_least t_most t_toldLines t_costs p1_size p1_store p1_store_n hn_p1_store r t_ats r5.2.1 r5.2.2.1 r6.1 r6.2.1 r6.2.2.1 r6.2.2.2 t_score (uP t_good t_ats r2.1) (uP t_bad t_ats r5.1) (uP t_open t_ats 0) h _ _ _ hw (lv_sub hl [0] rfl)
  · have h := it_neg c9 h
    refine lv_aload_n hx hb dX7_readAt_127 rfl (lv_at hl 0 rfl) ?_
    refine rf_get hx hb cx hw 0 rfl rfl 3 inX7 (by decide) fl_X7_21 rfl rfl dX7_readAt_128 ?_
    refine lv_aload_n hx hb dX7_readAt_131 rfl (lv_at hl 0 rfl) ?_
    refine rf_get hx hb cx hw 0 rfl rfl 5 inX7 (by decide) fl_X7_55 rfl rfl dX7_readAt_132 ?_
    refine lv_aload_n hx hb dX7_readAt_135 rfl (lv_at hl 0 rfl) ?_
    refine lv_aload_n hx hb dX7_readAt_136 rfl (lv_at hl 1 rfl) ?_
    refine ri_iconst hx hb dX7_readAt_137 ?_
    refine ri_bipush hx hb dX7_readAt_138 rfl ?_
    obtain ⟨r10, h10, h⟩ := bd_some h
    refine rc_I (v := r10.1) (w2 := [(a_t, .inr (6, [.ref a_t_score, .ref a_t_good, .ref a_t_bad, .ref a_t_open, .ref a_t_costs, .int (kI t_ats), .int (kI t_lines), .int (kI t_least), .int (kI t_most), .int (kI r10.2.1), .int (kI r10.2.2.1), .int (kI t_toldLines), .int (kI r10.2.2.2.1), .int (kI r10.2.2.2.2.1), .int (kI r10.2.2.2.2.2.1), .int (kI r10.2.2.2.2.2.2)])), (a_t_score, cAI G 60 t_score), (a_t_good, cAI G 60 (uP t_good t_ats r2.1)), (a_t_bad, cAI G 60 (uP t_bad t_ats r5.1)), (a_t_open, cAI G 60 (uP t_open t_ats 0)), (a_t_costs, cAI G 3 t_costs), (a_p1, .inr (1, [.ref a_p1_store, .int (kI p1_size)])), (a_p1_store, cAI G p1_store_n p1_store)]) hw [0, 1, 2, 3, 4, 5, 6, 7] [] [0, 1, 2, 3, 4, 5, 6, 7] (rr_V cx hw (c_X7_wantNumber l G S H.size N a_t a_t_score a_t_good a_t_bad a_t_open a_t_costs a_p1 a_p1_store t_ats t_lines t_least t_most r5.2.1 r5.2.2.1 t_toldLines r6.1 r6.2.1 r6.2.2.1 r6.2.2.2 t_score (uP t_good t_ats r2.1) (uP t_bad t_ats r5.1) (uP t_open t_ats 0) t_costs p1_size p1_store p1_store_n 0 99 hn_p1_store _ h10) mv_X7_86 [0, 1, 2, 3, 4, 5, 6, 7] rfl rfl rfl 0 rfl rfl ⟨Nat.le_of_ble_eq_true rfl, Nat.le_of_ble_eq_true rfl⟩ rfl hl.1 rfl (Nat.le_of_ble_eq_true rfl) dX7_readAt_140 ⟨Nat.le_of_ble_eq_true rfl, Nat.le_of_ble_eq_true rfl⟩) rfl rfl rfl rfl rfl rfl rfl rfl (fun H locs hw => ?_)
    refine ra_si hx hb cx hw 4 rfl (by decide) g3 dX7_readAt_143 (fun H locs hw => ?_)
    have hw : HP G A s.heap H locs [(a_t, .inr (6, [.ref a_t_score, .ref a_t_good, .ref a_t_bad, .ref a_t_open, .ref a_t_costs, .int (kI t_ats), .int (kI t_lines), .int (kI t_least), .int (kI t_most), .int (kI r10.2.1), .int (kI r10.2.2.1), .int (kI t_toldLines), .int (kI r10.2.2.2.1), .int (kI r10.2.2.2.2.1), .int (kI r10.2.2.2.2.2.1), .int (kI r10.2.2.2.2.2.2)])), (a_t_score, cAI G 60 t_score), (a_t_good, cAI G 60 (uP t_good t_ats r2.1)), (a_t_bad, cAI G 60 (uP t_bad t_ats r5.1)), (a_t_open, cAI G 60 (uP (uP t_open t_ats 0) t_ats r10.1)), (a_t_costs, cAI G 3 t_costs), (a_p1, .inr (1, [.ref a_p1_store, .int (kI p1_size)])), (a_p1_store, cAI G p1_store_n p1_store)] := hw
    refine lv_aload_n hx hb dX7_readAt_144 rfl (lv_at hl 0 rfl) ?_
    refine lv_aload_n hx hb dX7_readAt_145 rfl (lv_at hl 1 rfl) ?_
    obtain ⟨r11, h11, h⟩ := bd_some h
    refine rc_V (w2 := [(a_t, .inr (6, [.ref a_t_score, .ref a_t_good, .ref a_t_bad, .ref a_t_open, .ref a_t_costs, .int (kI t_ats), .int (kI t_lines), .int (kI t_least), .int (kI t_most), .int (kI r10.2.1), .int (kI r10.2.2.1), .int (kI t_toldLines), .int (kI r11.1), .int (kI r11.2.1), .int (kI r11.2.2.1), .int (kI r11.2.2.2)])), (a_t_score, cAI G 60 t_score), (a_t_good, cAI G 60 (uP t_good t_ats r2.1)), (a_t_bad, cAI G 60 (uP t_bad t_ats r5.1)), (a_t_open, cAI G 60 (uP (uP t_open t_ats 0) t_ats r10.1)), (a_t_costs, cAI G 3 t_costs), (a_p1, .inr (1, [.ref a_p1_store, .int (kI p1_size)])), (a_p1_store, cAI G p1_store_n p1_store)]) hw [0, 1, 2, 3, 4, 5, 6, 7] [] [0, 1, 2, 3, 4, 5, 6, 7] (rr_V cx hw (c_X7_step l G S H.size N a_t a_t_score a_t_good a_t_bad a_t_open a_t_costs a_p1 a_p1_store t_ats t_lines t_least t_most r10.2.1 r10.2.2.1 t_toldLines r10.2.2.2.1 r10.2.2.2.2.1 r10.2.2.2.2.2.1 r10.2.2.2.2.2.2 t_score (uP t_good t_ats r2.1) (uP t_bad t_ats r5.1) (uP (uP t_open t_ats 0) t_ats r10.1) t_costs p1_size p1_store p1_store_n hn_p1_store _ h11) mv_X7_34 [0, 1, 2, 3, 4, 5, 6, 7] rfl rfl rfl 0 rfl rfl ⟨Nat.le_of_ble_eq_true rfl, Nat.le_of_ble_eq_true rfl⟩ rfl hl.1 rfl (Nat.le_of_ble_eq_true rfl) dX7_readAt_146 ⟨Nat.le_of_ble_eq_true rfl, Nat.le_of_ble_eq_true rfl⟩) rfl rfl rfl rfl rfl rfl rfl rfl (fun H locs hw => ?_)
    exact w_X7_readAt_b149 cx hlk hr N a_t a_t_score a_t_good a_t_bad a_t_open a_t_costs a_p1 a_p1_store t_lines t_least t_most t_toldLines t_costs p1_size p1_store p1_store_n hn_p1_store r t_ats r10.2.1 r10.2.2.1 r11.1 r11.2.1 r11.2.2.1 r11.2.2.2 t_score (uP t_good t_ats r2.1) (uP t_bad t_ats r5.1) (uP (uP t_open t_ats 0) t_ats r10.1) h _ _ _ hw (lv_sub hl [0] rfl)
set_option maxHeartbeats 4000000 in
set_option maxRecDepth 100000 in
theorem c_X7_readAt (l : Launch) (G : GG) (S : SM) (sz : Nat) (N : Nat) (a_t a_t_score a_t_good a_t_bad a_t_open a_t_costs a_p1 a_p1_store : Nat) (t_ats : Int) (t_lines : Int) (t_least : Int) (t_most : Int) (t_faultKind : Int) (t_faultPlace : Int) (t_toldLines : Int) (t_kind : Int) (t_start : Int) (t_next : Int) (t_number : Int) (t_score : Int → Int) (t_good : Int → Int) (t_bad : Int → Int) (t_open : Int → Int) (t_costs : Int → Int) (p1_size : Int) (p1_store : Int → Int) (p1_store_n : Nat)  (hn_p1_store : p1_store_n < 2147483648) (r : Int × Int × Int × Int × Int × Int × Int × (Int → Int) × (Int → Int) × (Int → Int) × (Int → Int)) (h : m_X7_readAt N p1_size p1_store p1_store_n t_ats t_faultKind t_faultPlace t_kind t_start t_next t_number t_score t_good t_bad t_open = some r) : CtV l yX7_readAt cX7_readAt 2 (rmD 7 0 0) G S sz [.ref a_t, .ref a_p1] [(a_t, .inr (6, [.ref a_t_score, .ref a_t_good, .ref a_t_bad, .ref a_t_open, .ref a_t_costs, .int (kI t_ats), .int (kI t_lines), .int (kI t_least), .int (kI t_most), .int (kI t_faultKind), .int (kI t_faultPlace), .int (kI t_toldLines), .int (kI t_kind), .int (kI t_start), .int (kI t_next), .int (kI t_number)])), (a_t_score, cAI G 60 t_score), (a_t_good, cAI G 60 t_good), (a_t_bad, cAI G 60 t_bad), (a_t_open, cAI G 60 t_open), (a_t_costs, cAI G 3 t_costs), (a_p1, .inr (1, [.ref a_p1_store, .int (kI p1_size)])), (a_p1_store, cAI G p1_store_n p1_store)] [(a_t, .inr (6, [.ref a_t_score, .ref a_t_good, .ref a_t_bad, .ref a_t_open, .ref a_t_costs, .int (kI r.1), .int (kI t_lines), .int (kI t_least), .int (kI t_most), .int (kI r.2.1), .int (kI r.2.2.1), .int (kI t_toldLines), .int (kI r.2.2.2.1), .int (kI r.2.2.2.2.1), .int (kI r.2.2.2.2.2.1), .int (kI r.2.2.2.2.2.2.1)])), (a_t_score, cAI G 60 r.2.2.2.2.2.2.2.1), (a_t_good, cAI G 60 r.2.2.2.2.2.2.2.2.1), (a_t_bad, cAI G 60 r.2.2.2.2.2.2.2.2.2.1), (a_t_open, cAI G 60 r.2.2.2.2.2.2.2.2.2.2), (a_t_costs, cAI G 3 t_costs), (a_p1, .inr (1, [.ref a_p1_store, .int (kI p1_size)])), (a_p1_store, cAI G p1_store_n p1_store)] := by
  refine met_V (by decide +kernel) (Nat.le_of_ble_eq_true rfl) ?_
  intro p e s m args below meth c A H locs ls cx hw hr hlk hnm hl
  have hl : lv_has ls 2 [(0, .ref a_t), (1, .ref a_p1)] := hl
  rw [m_X7_readAt] at h
  obtain ⟨⟨hx, hb, -, -, -⟩, -⟩ := id cx
  refine lv_aload_n hx hb dX7_readAt_0 rfl (lv_at hl 0 rfl) ?_
  refine rf_get hx hb cx hw 0 rfl rfl 5 inX7 (by decide) fl_X7_55 rfl rfl dX7_readAt_1 ?_
  refine ri_bipush hx hb dX7_readAt_4 rfl ?_
  obtain ⟨g1, h⟩ := gd_some h
  refine ri_icmp_lt (tgt := 15) hx hb g1 ⟨by decide, by decide⟩ dX7_readAt_6 (by decide) (fun c2 => ?_) (fun c2 => ?_)
  · have h := it_pos c2 h
    refine lv_aload_n hx hb dX7_readAt_15 rfl (lv_at hl 0 rfl) ?_
    refine rf_get hx hb cx hw 0 rfl rfl 0 inX7 (by decide) fl_X7_9 rfl rfl dX7_readAt_16 ?_
    refine lv_aload_n hx hb dX7_readAt_19 rfl (lv_at hl 0 rfl) ?_
    refine rf_get hx hb cx hw 0 rfl rfl 5 inX7 (by decide) fl_X7_55 rfl rfl dX7_readAt_20 ?_
    refine lv_aload_n hx hb dX7_readAt_23 rfl (lv_at hl 0 rfl) ?_
    refine lv_aload_n hx hb dX7_readAt_24 rfl (lv_at hl 1 rfl) ?_
    refine ri_iconst hx hb dX7_readAt_25 ?_
    refine ri_sipush hx hb dX7_readAt_26 rfl ?_
    obtain ⟨r3, h3, h⟩ := bd_some h
    refine rc_I (v := r3.1) (w2 := [(a_t, .inr (6, [.ref a_t_score, .ref a_t_good, .ref a_t_bad, .ref a_t_open, .ref a_t_costs, .int (kI t_ats), .int (kI t_lines), .int (kI t_least), .int (kI t_most), .int (kI r3.2.1), .int (kI r3.2.2.1), .int (kI t_toldLines), .int (kI r3.2.2.2.1), .int (kI r3.2.2.2.2.1), .int (kI r3.2.2.2.2.2.1), .int (kI r3.2.2.2.2.2.2)])), (a_t_score, cAI G 60 t_score), (a_t_good, cAI G 60 t_good), (a_t_bad, cAI G 60 t_bad), (a_t_open, cAI G 60 t_open), (a_t_costs, cAI G 3 t_costs), (a_p1, .inr (1, [.ref a_p1_store, .int (kI p1_size)])), (a_p1_store, cAI G p1_store_n p1_store)]) hw [0, 1, 2, 3, 4, 5, 6, 7] [] [0, 1, 2, 3, 4, 5, 6, 7] (rr_V cx hw (c_X7_wantNumber l G S H.size N a_t a_t_score a_t_good a_t_bad a_t_open a_t_costs a_p1 a_p1_store t_ats t_lines t_least t_most t_faultKind t_faultPlace t_toldLines t_kind t_start t_next t_number t_score t_good t_bad t_open t_costs p1_size p1_store p1_store_n 0 999 hn_p1_store _ h3) mv_X7_86 [0, 1, 2, 3, 4, 5, 6, 7] rfl rfl rfl 0 rfl rfl ⟨Nat.le_of_ble_eq_true rfl, Nat.le_of_ble_eq_true rfl⟩ rfl hl.1 rfl (Nat.le_of_ble_eq_true rfl) dX7_readAt_29 ⟨Nat.le_of_ble_eq_true rfl, Nat.le_of_ble_eq_true rfl⟩) rfl rfl rfl rfl rfl rfl rfl rfl (fun H locs hw => ?_)
    obtain ⟨g4, h⟩ := gd_some h
    refine ra_si hx hb cx hw 1 rfl (by decide) g4 dX7_readAt_32 (fun H locs hw => ?_)
    have hw : HP G A s.heap H locs [(a_t, .inr (6, [.ref a_t_score, .ref a_t_good, .ref a_t_bad, .ref a_t_open, .ref a_t_costs, .int (kI t_ats), .int (kI t_lines), .int (kI t_least), .int (kI t_most), .int (kI r3.2.1), .int (kI r3.2.2.1), .int (kI t_toldLines), .int (kI r3.2.2.2.1), .int (kI r3.2.2.2.2.1), .int (kI r3.2.2.2.2.2.1), .int (kI r3.2.2.2.2.2.2)])), (a_t_score, cAI G 60 (uP t_score t_ats r3.1)), (a_t_good, cAI G 60 t_good), (a_t_bad, cAI G 60 t_bad), (a_t_open, cAI G 60 t_open), (a_t_costs, cAI G 3 t_costs), (a_p1, .inr (1, [.ref a_p1_store, .int (kI p1_size)])), (a_p1_store, cAI G p1_store_n p1_store)] := hw
    refine lv_aload_n hx hb dX7_readAt_33 rfl (lv_at hl 0 rfl) ?_
    refine lv_aload_n hx hb dX7_readAt_34 rfl (lv_at hl 0 rfl) ?_
    refine rf_get hx hb cx hw 0 rfl rfl 0 inX7 (by decide) fl_X7_9 rfl rfl dX7_readAt_35 ?_
    refine lv_aload_n hx hb dX7_readAt_38 rfl (lv_at hl 0 rfl) ?_
    refine rf_get hx hb cx hw 0 rfl rfl 5 inX7 (by decide) fl_X7_55 rfl rfl dX7_readAt_39 ?_
    refine ra_i hx hb cx hw 1 rfl (by decide) g4 dX7_readAt_42 ?_
    obtain ⟨r5, h5, h⟩ := bd_some h
    refine rc_I0 (v := r5) hw [0, 1, 2, 3, 4, 5] (rr_V cx hw (c_X7_isTold l G S H.size N a_t a_t_score a_t_good a_t_bad a_t_open a_t_costs t_ats t_lines t_least t_most r3.2.1 r3.2.2.1 t_toldLines r3.2.2.2.1 r3.2.2.2.2.1 r3.2.2.2.2.2.1 r3.2.2.2.2.2.2 (uP t_score t_ats r3.1) t_good t_bad t_open t_costs ((uP t_score t_ats r3.1) t_ats) _ h5) mv_X7_93 [0, 1, 2, 3, 4, 5] rfl rfl rfl 0 rfl rfl ⟨Nat.le_of_ble_eq_true rfl, Nat.le_of_ble_eq_true rfl⟩ rfl hl.1 rfl (Nat.le_of_ble_eq_true rfl) dX7_readAt_43 ⟨Nat.le_of_ble_eq_true rfl, Nat.le_of_ble_eq_true rfl⟩) rfl rfl (fun H locs hw => ?_)
    obtain ⟨g6, h⟩ := gd_some h
    refine ri_if_eq (tgt := 54) hx hb g6 dX7_readAt_46 (by decide) (fun c7 => ?_) (fun c7 => ?_)
    · have h := it_pos c7 h
      exact w_X7_readAt_b54 cx hlk hr N a_t a_t_score a_t_good a_t_bad a_t_open a_t_costs a_p1 a_p1_store t_lines t_least t_most t_toldLines t_costs p1_size p1_store p1_store_n hn_p1_store r t_ats r3.2.1 r3.2.2.1 r3.2.2.2.1 r3.2.2.2.2.1 r3.2.2.2.2.2.1 r3.2.2.2.2.2.2 (uP t_score t_ats r3.1) t_good t_bad t_open h _ _ _ hw (lv_sub hl [0, 1] rfl)
    · have h := it_neg c7 h
      refine lv_aload_n hx hb dX7_readAt_49 rfl (lv_at hl 0 rfl) ?_
      refine ri_iconst hx hb dX7_readAt_50 ?_
      obtain ⟨r8, h8, h⟩ := bd_some h
      refine rc_V (w2 := [(a_t, .inr (6, [.ref a_t_score, .ref a_t_good, .ref a_t_bad, .ref a_t_open, .ref a_t_costs, .int (kI t_ats), .int (kI t_lines), .int (kI t_least), .int (kI t_most), .int (kI r8.1), .int (kI r8.2), .int (kI t_toldLines), .int (kI r3.2.2.2.1), .int (kI r3.2.2.2.2.1), .int (kI r3.2.2.2.2.2.1), .int (kI r3.2.2.2.2.2.2)])), (a_t_score, cAI G 60 (uP t_score t_ats r3.1)), (a_t_good, cAI G 60 t_good), (a_t_bad, cAI G 60 t_bad), (a_t_open, cAI G 60 t_open), (a_t_costs, cAI G 3 t_costs), (a_p1, .inr (1, [.ref a_p1_store, .int (kI p1_size)])), (a_p1_store, cAI G p1_store_n p1_store)]) hw [0, 1, 2, 3, 4, 5] [6, 7] [2, 3, 4, 5, 6, 7, 0, 1] (rr_V cx hw (c_X7_fail l G S H.size N a_t a_t_score a_t_good a_t_bad a_t_open a_t_costs t_ats t_lines t_least t_most r3.2.1 r3.2.2.1 t_toldLines r3.2.2.2.1 r3.2.2.2.2.1 r3.2.2.2.2.2.1 r3.2.2.2.2.2.2 (uP t_score t_ats r3.1) t_good t_bad t_open t_costs 3 _ h8) mv_X7_48 [0, 1, 2, 3, 4, 5] rfl rfl rfl 0 rfl rfl ⟨Nat.le_of_ble_eq_true rfl, Nat.le_of_ble_eq_true rfl⟩ rfl hl.1 rfl (Nat.le_of_ble_eq_true rfl) dX7_readAt_51 ⟨Nat.le_of_ble_eq_true rfl, Nat.le_of_ble_eq_true rfl⟩) rfl rfl rfl rfl rfl rfl rfl rfl (fun H locs hw => ?_)
      exact w_X7_readAt_b54 cx hlk hr N a_t a_t_score a_t_good a_t_bad a_t_open a_t_costs a_p1 a_p1_store t_lines t_least t_most t_toldLines t_costs p1_size p1_store p1_store_n hn_p1_store r t_ats r8.1 r8.2 r3.2.2.2.1 r3.2.2.2.2.1 r3.2.2.2.2.2.1 r3.2.2.2.2.2.2 (uP t_score t_ats r3.1) t_good t_bad t_open h _ _ _ hw (lv_sub hl [0, 1] rfl)
  · have h := it_neg c2 h
    refine lv_aload_n hx hb dX7_readAt_9 rfl (lv_at hl 0 rfl) ?_
    refine ri_iconst hx hb dX7_readAt_10 ?_
    obtain ⟨r9, h9, h⟩ := bd_some h
    refine rc_V (w2 := [(a_t, .inr (6, [.ref a_t_score, .ref a_t_good, .ref a_t_bad, .ref a_t_open, .ref a_t_costs, .int (kI t_ats), .int (kI t_lines), .int (kI t_least), .int (kI t_most), .int (kI r9.1), .int (kI r9.2), .int (kI t_toldLines), .int (kI t_kind), .int (kI t_start), .int (kI t_next), .int (kI t_number)])), (a_t_score, cAI G 60 t_score), (a_t_good, cAI G 60 t_good), (a_t_bad, cAI G 60 t_bad), (a_t_open, cAI G 60 t_open), (a_t_costs, cAI G 3 t_costs), (a_p1, .inr (1, [.ref a_p1_store, .int (kI p1_size)])), (a_p1_store, cAI G p1_store_n p1_store)]) hw [0, 1, 2, 3, 4, 5] [6, 7] [2, 3, 4, 5, 6, 7, 0, 1] (rr_V cx hw (c_X7_fail l G S H.size N a_t a_t_score a_t_good a_t_bad a_t_open a_t_costs t_ats t_lines t_least t_most t_faultKind t_faultPlace t_toldLines t_kind t_start t_next t_number t_score t_good t_bad t_open t_costs 4 _ h9) mv_X7_48 [0, 1, 2, 3, 4, 5] rfl rfl rfl 0 rfl rfl ⟨Nat.le_of_ble_eq_true rfl, Nat.le_of_ble_eq_true rfl⟩ rfl hl.1 rfl (Nat.le_of_ble_eq_true rfl) dX7_readAt_11 ⟨Nat.le_of_ble_eq_true rfl, Nat.le_of_ble_eq_true rfl⟩) rfl rfl rfl rfl rfl rfl rfl rfl (fun H locs hw => ?_)
    obtain rfl := so_inj h
    exact re_v hx hb hlk hr cx hw (Nat.le_of_ble_eq_true rfl) (Nat.le_of_ble_eq_true rfl) dX7_readAt_14
set_option maxHeartbeats 4000000 in
set_option maxRecDepth 100000 in
theorem w_X7_tellOnce_b14 {p : Program} {l : Launch} {e : Env} {s : State} {m : MethodId} {args : Array Value} {below : List Frame} {meth : Method} {c : Code} {A : Nat → Prop} {G : GG} {S : SM} (cx : CX p s m args c cX7_tellOnce RX7 2 G S A) (hlk : meth.locks = false) (hr : meth.sig.returnType = none) (N : Nat) (a_t a_t_score a_t_good a_t_bad a_t_open a_t_costs : Nat) (t_ats : Int) (t_lines : Int) (t_least : Int) (t_most : Int) (t_kind : Int) (t_start : Int) (t_next : Int) (t_number : Int) (t_score : Int → Int) (t_good : Int → Int) (t_bad : Int → Int) (t_open : Int → Int) (t_costs : Int → Int) (x1 : Int) (r : Int × Int × Int) : ∀ (t_faultKind : Int) (t_faultPlace : Int) (t_toldLines : Int), m_X7_tellOnce_b14 N t_start x1 t_faultKind t_faultPlace t_toldLines = some r → ∀ (H : Heap) (locs : List Loc) (ls : Array Slot), HP G A s.heap H locs [(a_t, .inr (6, [.ref a_t_score, .ref a_t_good, .ref a_t_bad, .ref a_t_open, .ref a_t_costs, .int (kI t_ats), .int (kI t_lines), .int (kI t_least), .int (kI t_most), .int (kI t_faultKind), .int (kI t_faultPlace), .int (kI t_toldLines), .int (kI t_kind), .int (kI t_start), .int (kI t_next), .int (kI t_number)])), (a_t_score, cAI G 60 t_score), (a_t_good, cAI G 60 t_good), (a_t_bad, cAI G 60 t_bad), (a_t_open, cAI G 60 t_open), (a_t_costs, cAI G 3 t_costs)] → lv_has ls 2 [(0, .ref a_t), (1, .int (kI x1))] → W p l e (rmD 2 0 0) s m args below meth c H locs 0 0 (MQ below (QcV G A [(a_t, .inr (6, [.ref a_t_score, .ref a_t_good, .ref a_t_bad, .ref a_t_open, .ref a_t_costs, .int (kI t_ats), .int (kI t_lines), .int (kI t_least), .int (kI t_most), .int (kI r.1), .int (kI r.2.1), .int (kI r.2.2), .int (kI t_kind), .int (kI t_start), .int (kI t_next), .int (kI t_number)])), (a_t_score, cAI G 60 t_score), (a_t_good, cAI G 60 t_good), (a_t_bad, cAI G 60 t_bad), (a_t_open, cAI G 60 t_open), (a_t_costs, cAI G 3 t_costs)]) args s (rmD 2 0 0).cells (rmD 2 0 0).slots A) (F0 m 14 ls []) := by
  intro t_faultKind t_faultPlace t_toldLines h H locs ls hw hl
  rw [m_X7_tellOnce_b14] at h
  obtain ⟨⟨hx, hb, -, -, -⟩, -⟩ := id cx
  refine lv_aload_n hx hb dX7_tellOnce_14 rfl (lv_at hl 0 rfl) ?_
  refine lv_dup hx hb dX7_tellOnce_15 rfl ?_
  refine rf_get hx hb cx hw 0 rfl rfl 11 inX7 (by decide) fl_X7_64 rfl rfl dX7_tellOnce_16 ?_
  refine lv_iload_n hx hb dX7_tellOnce_19 rfl (lv_at hl 1 rfl) ?_
  refine ri_ior hx hb dX7_tellOnce_20 ?_
  refine rf_put hx hb cx hw 0 rfl rfl 11 inX7 tyX7 tyX7_ok nmX7 (by decide) fl_X7_64 rfl rfl rfl rfl (Nat.le_of_ble_eq_true rfl) dX7_tellOnce_21 (fun H locs hw => ?_)
  have hw : HP G A s.heap H locs [(a_t, .inr (6, [.ref a_t_score, .ref a_t_good, .ref a_t_bad, .ref a_t_open, .ref a_t_costs, .int (kI t_ats), .int (kI t_lines), .int (kI t_least), .int (kI t_most), .int (kI t_faultKind), .int (kI t_faultPlace), .int (kI (iOr t_toldLines x1)), .int (kI t_kind), .int (kI t_start), .int (kI t_next), .int (kI t_number)])), (a_t_score, cAI G 60 t_score), (a_t_good, cAI G 60 t_good), (a_t_bad, cAI G 60 t_bad), (a_t_open, cAI G 60 t_open), (a_t_costs, cAI G 3 t_costs)] := hw
  obtain rfl := so_inj h
  exact re_v hx hb hlk hr cx hw (Nat.le_of_ble_eq_true rfl) (Nat.le_of_ble_eq_true rfl) dX7_tellOnce_24
set_option maxHeartbeats 4000000 in
set_option maxRecDepth 100000 in
theorem c_X7_tellOnce (l : Launch) (G : GG) (S : SM) (sz : Nat) (N : Nat) (a_t a_t_score a_t_good a_t_bad a_t_open a_t_costs : Nat) (t_ats : Int) (t_lines : Int) (t_least : Int) (t_most : Int) (t_faultKind : Int) (t_faultPlace : Int) (t_toldLines : Int) (t_kind : Int) (t_start : Int) (t_next : Int) (t_number : Int) (t_score : Int → Int) (t_good : Int → Int) (t_bad : Int → Int) (t_open : Int → Int) (t_costs : Int → Int) (x1 : Int) (r : Int × Int × Int) (h : m_X7_tellOnce N t_start t_faultKind t_faultPlace t_toldLines x1 = some r) : CtV l yX7_tellOnce cX7_tellOnce 2 (rmD 2 0 0) G S sz [.ref a_t, .int (kI x1)] [(a_t, .inr (6, [.ref a_t_score, .ref a_t_good, .ref a_t_bad, .ref a_t_open, .ref a_t_costs, .int (kI t_ats), .int (kI t_lines), .int (kI t_least), .int (kI t_most), .int (kI t_faultKind), .int (kI t_faultPlace), .int (kI t_toldLines), .int (kI t_kind), .int (kI t_start), .int (kI t_next), .int (kI t_number)])), (a_t_score, cAI G 60 t_score), (a_t_good, cAI G 60 t_good), (a_t_bad, cAI G 60 t_bad), (a_t_open, cAI G 60 t_open), (a_t_costs, cAI G 3 t_costs)] [(a_t, .inr (6, [.ref a_t_score, .ref a_t_good, .ref a_t_bad, .ref a_t_open, .ref a_t_costs, .int (kI t_ats), .int (kI t_lines), .int (kI t_least), .int (kI t_most), .int (kI r.1), .int (kI r.2.1), .int (kI r.2.2), .int (kI t_kind), .int (kI t_start), .int (kI t_next), .int (kI t_number)])), (a_t_score, cAI G 60 t_score), (a_t_good, cAI G 60 t_good), (a_t_bad, cAI G 60 t_bad), (a_t_open, cAI G 60 t_open), (a_t_costs, cAI G 3 t_costs)] := by
  refine met_V (by decide +kernel) (Nat.le_of_ble_eq_true rfl) ?_
  intro p e s m args below meth c A H locs ls cx hw hr hlk hnm hl
  have hl : lv_has ls 2 [(0, .ref a_t), (1, .int (kI x1))] := hl
  rw [m_X7_tellOnce] at h
  obtain ⟨⟨hx, hb, -, -, -⟩, -⟩ := id cx
  refine lv_aload_n hx hb dX7_tellOnce_0 rfl (lv_at hl 0 rfl) ?_
  refine rf_get hx hb cx hw 0 rfl rfl 11 inX7 (by decide) fl_X7_64 rfl rfl dX7_tellOnce_1 ?_
  refine lv_iload_n hx hb dX7_tellOnce_4 rfl (lv_at hl 1 rfl) ?_
  refine ri_iand hx hb dX7_tellOnce_5 ?_
  obtain ⟨g1, h⟩ := gd_some h
  refine ri_if_eq (tgt := 14) hx hb g1 dX7_tellOnce_6 (by decide) (fun c2 => ?_) (fun c2 => ?_)
  · have h := it_pos c2 h
    exact w_X7_tellOnce_b14 cx hlk hr N a_t a_t_score a_t_good a_t_bad a_t_open a_t_costs t_ats t_lines t_least t_most t_kind t_start t_next t_number t_score t_good t_bad t_open t_costs x1 r t_faultKind t_faultPlace t_toldLines h _ _ _ hw (lv_sub hl [0, 1] rfl)
  · have h := it_neg c2 h
    refine lv_aload_n hx hb dX7_tellOnce_9 rfl (lv_at hl 0 rfl) ?_
    refine ri_iconst hx hb dX7_tellOnce_10 ?_
    obtain ⟨r3, h3, h⟩ := bd_some h
    refine rc_V (w2 := [(a_t, .inr (6, [.ref a_t_score, .ref a_t_good, .ref a_t_bad, .ref a_t_open, .ref a_t_costs, .int (kI t_ats), .int (kI t_lines), .int (kI t_least), .int (kI t_most), .int (kI r3.1), .int (kI r3.2), .int (kI t_toldLines), .int (kI t_kind), .int (kI t_start), .int (kI t_next), .int (kI t_number)])), (a_t_score, cAI G 60 t_score), (a_t_good, cAI G 60 t_good), (a_t_bad, cAI G 60 t_bad), (a_t_open, cAI G 60 t_open), (a_t_costs, cAI G 3 t_costs)]) hw [0, 1, 2, 3, 4, 5] [] [0, 1, 2, 3, 4, 5] (rr_V cx hw (c_X7_fail l G S H.size N a_t a_t_score a_t_good a_t_bad a_t_open a_t_costs t_ats t_lines t_least t_most t_faultKind t_faultPlace t_toldLines t_kind t_start t_next t_number t_score t_good t_bad t_open t_costs 3 _ h3) mv_X7_48 [0, 1, 2, 3, 4, 5] rfl rfl rfl 0 rfl rfl ⟨Nat.le_of_ble_eq_true rfl, Nat.le_of_ble_eq_true rfl⟩ rfl hl.1 rfl (Nat.le_of_ble_eq_true rfl) dX7_tellOnce_11 ⟨Nat.le_of_ble_eq_true rfl, Nat.le_of_ble_eq_true rfl⟩) rfl rfl rfl rfl rfl rfl rfl rfl (fun H locs hw => ?_)
    exact w_X7_tellOnce_b14 cx hlk hr N a_t a_t_score a_t_good a_t_bad a_t_open a_t_costs t_ats t_lines t_least t_most t_kind t_start t_next t_number t_score t_good t_bad t_open t_costs x1 r r3.1 r3.2 t_toldLines h _ _ _ hw (lv_sub hl [0, 1] rfl)
def PL_X7_readLine_b118 (p : Program) (l : Launch) (e : Env) (s : State) (m : MethodId) (args : Array Value) (below : List Frame) (meth : Method) (c : Code) (A : Nat → Prop) (G : GG) (S : SM) (a_t a_t_score a_t_good a_t_bad a_t_open a_t_costs a_p1 a_p1_store : Nat) (t_lines : Int) (p1_size : Int) (p1_store : Int → Int) (p1_store_n : Nat) (x2 : Int) (t_ats : Int) (t_least : Int) (t_most : Int) (t_toldLines : Int) (t_score : Int → Int) (t_good : Int → Int) (t_bad : Int → Int) (t_open : Int → Int) (r : Int × Int × Int × Int × Int × Int × Int × Int × Int × Int × (Int → Int) × (Int → Int) × (Int → Int) × (Int → Int) × (Int → Int)) (kk : Int → Int → Int → Int → Int → Int → (Int → Int) → Int → Option (Int × Int × Int × Int × Int × Int × Int × Int × Int × Int × (Int → Int) × (Int → Int) × (Int → Int) × (Int → Int) × (Int → Int))) : Prop := ∀ (t_faultKind : Int) (t_faultPlace : Int) (t_kind : Int) (t_start : Int) (t_next : Int) (t_number : Int) (t_costs : Int → Int) (y3 : Int), kk t_faultKind t_faultPlace t_kind t_start t_next t_number t_costs y3 = some r → ∀ (H : Heap) (locs : List Loc) (ls : Array Slot), HP G A s.heap H locs [(a_t, .inr (6, [.ref a_t_score, .ref a_t_good, .ref a_t_bad, .ref a_t_open, .ref a_t_costs, .int (kI t_ats), .int (kI t_lines), .int (kI t_least), .int (kI t_most), .int (kI t_faultKind), .int (kI t_faultPlace), .int (kI t_toldLines), .int (kI t_kind), .int (kI t_start), .int (kI t_next), .int (kI t_number)])), (a_t_score, cAI G 60 t_score), (a_t_good, cAI G 60 t_good), (a_t_bad, cAI G 60 t_bad), (a_t_open, cAI G 60 t_open), (a_t_costs, cAI G 3 t_costs), (a_p1, .inr (1, [.ref a_p1_store, .int (kI p1_size)])), (a_p1_store, cAI G p1_store_n p1_store)] → lv_has ls 4 [(0, .ref a_t), (1, .ref a_p1), (3, .int (kI y3))] → W p l e (rmD 8 0 0) s m args below meth c H locs 0 0 (MQ below (QcV G A [(a_t, .inr (6, [.ref a_t_score, .ref a_t_good, .ref a_t_bad, .ref a_t_open, .ref a_t_costs, .int (kI r.1), .int (kI t_lines), .int (kI r.2.1), .int (kI r.2.2.1), .int (kI r.2.2.2.1), .int (kI r.2.2.2.2.1), .int (kI r.2.2.2.2.2.1), .int (kI r.2.2.2.2.2.2.1), .int (kI r.2.2.2.2.2.2.2.1), .int (kI r.2.2.2.2.2.2.2.2.1), .int (kI r.2.2.2.2.2.2.2.2.2.1)])), (a_t_score, cAI G 60 r.2.2.2.2.2.2.2.2.2.2.1), (a_t_good, cAI G 60 r.2.2.2.2.2.2.2.2.2.2.2.1), (a_t_bad, cAI G 60 r.2.2.2.2.2.2.2.2.2.2.2.2.1), (a_t_open, cAI G 60 r.2.2.2.2.2.2.2.2.2.2.2.2.2.1), (a_t_costs, cAI G 3 r.2.2.2.2.2.2.2.2.2.2.2.2.2.2), (a_p1, .inr (1, [.ref a_p1_store, .int (kI p1_size)])), (a_p1_store, cAI G p1_store_n p1_store)]) args s (rmD 8 0 0).cells (rmD 8 0 0).slots A) (F0 m 118 ls [])
set_option maxHeartbeats 4000000 in
set_option maxRecDepth 100000 in
theorem w_X7_readLine_b118 {p : Program} {l : Launch} {e : Env} {s : State} {m : MethodId} {args : Array Value} {below : List Frame} {meth : Method} {c : Code} {A : Nat → Prop} {G : GG} {S : SM} (cx : CX p s m args c cX7_readLine RX7 4 G S A) (hlk : meth.locks = false) (hr : meth.sig.returnType = none) (N : Nat) (a_t a_t_score a_t_good a_t_bad a_t_open a_t_costs a_p1 a_p1_store : Nat) (t_lines : Int) (p1_size : Int) (p1_store : Int → Int) (p1_store_n : Nat) (x2 : Int) (t_ats : Int) (t_least : Int) (t_most : Int) (t_toldLines : Int) (t_score : Int → Int) (t_good : Int → Int) (t_bad : Int → Int) (t_open : Int → Int) (hn_p1_store : p1_store_n < 2147483648) (r : Int × Int × Int × Int × Int × Int × Int × Int × Int × Int × (Int → Int) × (Int → Int) × (Int → Int) × (Int → Int) × (Int → Int)) : ∀ n : Nat, PL_X7_readLine_b118 p l e s m args below meth c A G S a_t a_t_score a_t_good a_t_bad a_t_open a_t_costs a_p1 a_p1_store t_lines p1_size p1_store p1_store_n x2 t_ats t_least t_most t_toldLines t_score t_good t_bad t_open r (m_X7_readLine_b118 N p1_size p1_store p1_store_n x2 t_ats t_least t_most t_toldLines t_score t_good t_bad t_open n) := by
  intro n
  induction n with
  | zero => intro t_faultKind t_faultPlace t_kind t_start t_next t_number t_costs y3 h; exact nomatch h
  | succ n ih =>
    intro t_faultKind t_faultPlace t_kind t_start t_next t_number t_costs y3 h H locs ls hw hl
    rw [m_X7_readLine_b118] at h
    obtain ⟨⟨hx, hb, -, -, -⟩, -⟩ := id cx
    refine lv_iload_n hx hb dX7_readLine_118 rfl (lv_at hl 2 rfl) ?_
    refine lv_aload_n hx hb dX7_readLine_119 rfl (lv_at hl 0 rfl) ?_
    refine rf_get hx hb cx hw 0 rfl rfl 4 inX7 (by decide) fl_X7_24 rfl rfl dX7_readLine_120 ?_
    refine ra_len hx hb cx hw 5 rfl dX7_readLine_123 ?_
    obtain ⟨g1, h⟩ := gd_some h
    obtain ⟨g2, h⟩ := gd_some h
    refine ri_icmp_ge (tgt := 148) hx hb g1 g2 dX7_readLine_124 (by decide) (fun c3 => ?_) (fun c3 => ?_)
    · have h := it_pos c3 h
      refine lv_aload_n hx hb dX7_readLine_148 rfl (lv_at hl 0 rfl) ?_
      refine lv_aload_n hx hb dX7_readLine_149 rfl (lv_at hl 1 rfl) ?_
      obtain ⟨r4, h4, h⟩ := bd_some h
      refine rc_V (w2 := [(a_t, .inr (6, [.ref a_t_score, .ref a_t_good, .ref a_t_bad, .ref a_t_open, .ref a_t_costs, .int (kI t_ats), .int (kI t_lines), .int (kI t_least), .int (kI t_most), .int (kI t_faultKind), .int (kI t_faultPlace), .int (kI t_toldLines), .int (kI r4.1), .int (kI r4.2.1), .int (kI r4.2.2.1), .int (kI r4.2.2.2)])), (a_t_score, cAI G 60 t_score), (a_t_good, cAI G 60 t_good), (a_t_bad, cAI G 60 t_bad), (a_t_open, cAI G 60 t_open), (a_t_costs, cAI G 3 t_costs), (a_p1, .inr (1, [.ref a_p1_store, .int (kI p1_size)])), (a_p1_store, cAI G p1_store_n p1_store)]) hw [0, 1, 2, 3, 4, 5, 6, 7] [] [0, 1, 2, 3, 4, 5, 6, 7] (rr_V cx hw (c_X7_step l G S H.size N a_t a_t_score a_t_good a_t_bad a_t_open a_t_costs a_p1 a_p1_store t_ats t_lines t_least t_most t_faultKind t_faultPlace t_toldLines t_kind t_start t_next t_number t_score t_good t_bad t_open t_costs p1_size p1_store p1_store_n hn_p1_store _ h4) mv_X7_34 [0, 1, 2, 3, 4, 5, 6, 7] rfl rfl rfl 0 rfl rfl ⟨Nat.le_of_ble_eq_true rfl, Nat.le_of_ble_eq_true rfl⟩ rfl hl.1 rfl (Nat.le_of_ble_eq_true rfl) dX7_readLine_150 ⟨Nat.le_of_ble_eq_true rfl, Nat.le_of_ble_eq_true rfl⟩) rfl rfl rfl rfl rfl rfl rfl rfl (fun H locs hw => ?_)
      refine lv_goto (tgt := 161) hx hb dX7_readLine_153 (by decide) ?_
      obtain rfl := so_inj h
      exact re_v hx hb hlk hr cx hw (Nat.le_of_ble_eq_true rfl) (Nat.le_of_ble_eq_true rfl) dX7_readLine_161
    · have h := it_neg c3 h
      refine lv_aload_n hx hb dX7_readLine_127 rfl (lv_at hl 0 rfl) ?_
      refine rf_get hx hb cx hw 0 rfl rfl 4 inX7 (by decide) fl_X7_24 rfl rfl dX7_readLine_128 ?_
      refine lv_iload_n hx hb dX7_readLine_131 rfl (lv_at hl 2 rfl) ?_
      refine lv_aload_n hx hb dX7_readLine_132 rfl (lv_at hl 0 rfl) ?_
      refine lv_aload_n hx hb dX7_readLine_133 rfl (lv_at hl 1 rfl) ?_
      refine ri_iconst hx hb dX7_readLine_134 ?_
      refine ri_sipush hx hb dX7_readLine_135 rfl ?_
      obtain ⟨r5, h5, h⟩ := bd_some h
      refine rc_I (v := r5.1) (w2 := [(a_t, .inr (6, [.ref a_t_score, .ref a_t_good, .ref a_t_bad, .ref a_t_open, .ref a_t_costs, .int (kI t_ats), .int (kI t_lines), .int (kI t_least), .int (kI t_most), .int (kI r5.2.1), .int (kI r5.2.2.1), .int (kI t_toldLines), .int (kI r5.2.2.2.1), .int (kI r5.2.2.2.2.1), .int (kI r5.2.2.2.2.2.1), .int (kI r5.2.2.2.2.2.2)])), (a_t_score, cAI G 60 t_score), (a_t_good, cAI G 60 t_good), (a_t_bad, cAI G 60 t_bad), (a_t_open, cAI G 60 t_open), (a_t_costs, cAI G 3 t_costs), (a_p1, .inr (1, [.ref a_p1_store, .int (kI p1_size)])), (a_p1_store, cAI G p1_store_n p1_store)]) hw [0, 1, 2, 3, 4, 5, 6, 7] [] [0, 1, 2, 3, 4, 5, 6, 7] (rr_V cx hw (c_X7_wantNumber l G S H.size N a_t a_t_score a_t_good a_t_bad a_t_open a_t_costs a_p1 a_p1_store t_ats t_lines t_least t_most t_faultKind t_faultPlace t_toldLines t_kind t_start t_next t_number t_score t_good t_bad t_open t_costs p1_size p1_store p1_store_n 0 999 hn_p1_store _ h5) mv_X7_86 [0, 1, 2, 3, 4, 5, 6, 7] rfl rfl rfl 0 rfl rfl ⟨Nat.le_of_ble_eq_true rfl, Nat.le_of_ble_eq_true rfl⟩ rfl hl.1 rfl (Nat.le_of_ble_eq_true rfl) dX7_readLine_138 ⟨Nat.le_of_ble_eq_true rfl, Nat.le_of_ble_eq_true rfl⟩) rfl rfl rfl rfl rfl rfl rfl rfl (fun H locs hw => ?_)
      obtain ⟨g6, h⟩ := gd_some h
      refine ra_si hx hb cx hw 5 rfl (by decide) g6 dX7_readLine_141 (fun H locs hw => ?_)
      have hw : HP G A s.heap H locs [(a_t, .inr (6, [.ref a_t_score, .ref a_t_good, .ref a_t_bad, .ref a_t_open, .ref a_t_costs, .int (kI t_ats), .int (kI t_lines), .int (kI t_least), .int (kI t_most), .int (kI r5.2.1), .int (kI r5.2.2.1), .int (kI t_toldLines), .int (kI r5.2.2.2.1), .int (kI r5.2.2.2.2.1), .int (kI r5.2.2.2.2.2.1), .int (kI r5.2.2.2.2.2.2)])), (a_t_score, cAI G 60 t_score), (a_t_good, cAI G 60 t_good), (a_t_bad, cAI G 60 t_bad), (a_t_open, cAI G 60 t_open), (a_t_costs, cAI G 3 (uP t_costs y3 r5.1)), (a_p1, .inr (1, [.ref a_p1_store, .int (kI p1_size)])), (a_p1_store, cAI G p1_store_n p1_store)] := hw
      refine lv_iinc (v := kI (y3 + 1)) (lv' := [(3, .int (kI (y3 + 1))), (0, .ref a_t), (1, .ref a_p1)]) hx hb dX7_readLine_142 hl (k := 2) rfl (kI_add _ _) (by decide) rfl (fun ls hl => ?_)
      refine lv_goto (tgt := 118) hx hb dX7_readLine_145 (by decide) ?_
      exact ih r5.2.1 r5.2.2.1 r5.2.2.2.1 r5.2.2.2.2.1 r5.2.2.2.2.2.1 r5.2.2.2.2.2.2 (uP t_costs y3 r5.1) (y3 + 1) h _ _ _ hw (lv_sub hl [1, 2, 0] rfl)
set_option maxHeartbeats 4000000 in
set_option maxRecDepth 100000 in
theorem w_X7_readLine_b156 {p : Program} {l : Launch} {e : Env} {s : State} {m : MethodId} {args : Array Value} {below : List Frame} {meth : Method} {c : Code} {A : Nat → Prop} {G : GG} {S : SM} (cx : CX p s m args c cX7_readLine RX7 4 G S A) (hlk : meth.locks = false) (hr : meth.sig.returnType = none) (N : Nat) (a_t a_t_score a_t_good a_t_bad a_t_open a_t_costs a_p1 a_p1_store : Nat) (t_lines : Int) (p1_size : Int) (p1_store : Int → Int) (p1_store_n : Nat) (x2 : Int) (hn_p1_store : p1_store_n < 2147483648) (r : Int × Int × Int × Int × Int × Int × Int × Int × Int × Int × (Int → Int) × (Int → Int) × (Int → Int) × (Int → Int) × (Int → Int)) : ∀ (t_ats : Int) (t_least : Int) (t_most : Int) (t_faultKind : Int) (t_faultPlace : Int) (t_toldLines : Int) (t_kind : Int) (t_start : Int) (t_next : Int) (t_number : Int) (t_score : Int → Int) (t_good : Int → Int) (t_bad : Int → Int) (t_open : Int → Int) (t_costs : Int → Int), m_X7_readLine_b156 N p1_size p1_store p1_store_n x2 t_ats t_least t_most t_faultKind t_faultPlace t_toldLines t_kind t_start t_next t_number t_score t_good t_bad t_open t_costs = some r → ∀ (H : Heap) (locs : List Loc) (ls : Array Slot), HP G A s.heap H locs [(a_t, .inr (6, [.ref a_t_score, .ref a_t_good, .ref a_t_bad, .ref a_t_open, .ref a_t_costs, .int (kI t_ats), .int (kI t_lines), .int (kI t_least), .int (kI t_most), .int (kI t_faultKind), .int (kI t_faultPlace), .int (kI t_toldLines), .int (kI t_kind), .int (kI t_start), .int (kI t_next), .int (kI t_number)])), (a_t_score, cAI G 60 t_score), (a_t_good, cAI G 60 t_good), (a_t_bad, cAI G 60 t_bad), (a_t_open, cAI G 60 t_open), (a_t_costs, cAI G 3 t_costs), (a_p1, .inr (1, [.ref a_p1_store, .int (kI p1_size)])), (a_p1_store, cAI G p1_store_n p1_store)] → lv_has ls 4 [(0, .ref a_t)] → W p l e (rmD 8 0 0) s m args below meth c H locs 0 0 (MQ below (QcV G A [(a_t, .inr (6, [.ref a_t_score, .ref a_t_good, .ref a_t_bad, .ref a_t_open, .ref a_t_costs, .int (kI r.1), .int (kI t_lines), .int (kI r.2.1), .int (kI r.2.2.1), .int (kI r.2.2.2.1), .int (kI r.2.2.2.2.1), .int (kI r.2.2.2.2.2.1), .int (kI r.2.2.2.2.2.2.1), .int (kI r.2.2.2.2.2.2.2.1), .int (kI r.2.2.2.2.2.2.2.2.1), .int (kI r.2.2.2.2.2.2.2.2.2.1)])), (a_t_score, cAI G 60 r.2.2.2.2.2.2.2.2.2.2.1), (a_t_good, cAI G 60 r.2.2.2.2.2.2.2.2.2.2.2.1), (a_t_bad, cAI G 60 r.2.2.2.2.2.2.2.2.2.2.2.2.1), (a_t_open, cAI G 60 r.2.2.2.2.2.2.2.2.2.2.2.2.2.1), (a_t_costs, cAI G 3 r.2.2.2.2.2.2.2.2.2.2.2.2.2.2), (a_p1, .inr (1, [.ref a_p1_store, .int (kI p1_size)])), (a_p1_store, cAI G p1_store_n p1_store)]) args s (rmD 8 0 0).cells (rmD 8 0 0).slots A) (F0 m 156 ls []) := by
  intro t_ats t_least t_most t_faultKind t_faultPlace t_toldLines t_kind t_start t_next t_number t_score t_good t_bad t_open t_costs h H locs ls hw hl
  rw [m_X7_readLine_b156] at h
  obtain ⟨⟨hx, hb, -, -, -⟩, -⟩ := id cx
  refine lv_aload_n hx hb dX7_readLine_156 rfl (lv_at hl 0 rfl) ?_
  refine ri_iconst hx hb dX7_readLine_157 ?_
  obtain ⟨r1, h1, h⟩ := bd_some h
  refine rc_V (w2 := [(a_t, .inr (6, [.ref a_t_score, .ref a_t_good, .ref a_t_bad, .ref a_t_open, .ref a_t_costs, .int (kI t_ats), .int (kI t_lines), .int (kI t_least), .int (kI t_most), .int (kI r1.1), .int (kI r1.2), .int (kI t_toldLines), .int (kI t_kind), .int (kI t_start), .int (kI t_next), .int (kI t_number)])), (a_t_score, cAI G 60 t_score), (a_t_good, cAI G 60 t_good), (a_t_bad, cAI G 60 t_bad), (a_t_open, cAI G 60 t_open), (a_t_costs, cAI G 3 t_costs), (a_p1, .inr (1, [.ref a_p1_store, .int (kI p1_size)])), (a_p1_store, cAI G p1_store_n p1_store)]) hw [0, 1, 2, 3, 4, 5] [6, 7] [2, 3, 4, 5, 6, 7, 0, 1] (rr_V cx hw (c_X7_fail l G S H.size N a_t a_t_score a_t_good a_t_bad a_t_open a_t_costs t_ats t_lines t_least t_most t_faultKind t_faultPlace t_toldLines t_kind t_start t_next t_number t_score t_good t_bad t_open t_costs 1 _ h1) mv_X7_48 [0, 1, 2, 3, 4, 5] rfl rfl rfl 0 rfl rfl ⟨Nat.le_of_ble_eq_true rfl, Nat.le_of_ble_eq_true rfl⟩ rfl hl.1 rfl (Nat.le_of_ble_eq_true rfl) dX7_readLine_158 ⟨Nat.le_of_ble_eq_true rfl, Nat.le_of_ble_eq_true rfl⟩) rfl rfl rfl rfl rfl rfl rfl rfl (fun H locs hw => ?_)
  obtain rfl := so_inj h
  exact re_v hx hb hlk hr cx hw (Nat.le_of_ble_eq_true rfl) (Nat.le_of_ble_eq_true rfl) dX7_readLine_161
set_option maxHeartbeats 4000000 in
set_option maxRecDepth 100000 in
theorem w_X7_readLine_b97 {p : Program} {l : Launch} {e : Env} {s : State} {m : MethodId} {args : Array Value} {below : List Frame} {meth : Method} {c : Code} {A : Nat → Prop} {G : GG} {S : SM} (cx : CX p s m args c cX7_readLine RX7 4 G S A) (hlk : meth.locks = false) (hr : meth.sig.returnType = none) (N : Nat) (a_t a_t_score a_t_good a_t_bad a_t_open a_t_costs a_p1 a_p1_store : Nat) (t_lines : Int) (p1_size : Int) (p1_store : Int → Int) (p1_store_n : Nat) (x2 : Int) (hn_p1_store : p1_store_n < 2147483648) (r : Int × Int × Int × Int × Int × Int × Int × Int × Int × Int × (Int → Int) × (Int → Int) × (Int → Int) × (Int → Int) × (Int → Int)) : ∀ (t_ats : Int) (t_least : Int) (t_most : Int) (t_faultKind : Int) (t_faultPlace : Int) (t_toldLines : Int) (t_kind : Int) (t_start : Int) (t_next : Int) (t_number : Int) (t_score : Int → Int) (t_good : Int → Int) (t_bad : Int → Int) (t_open : Int → Int) (t_costs : Int → Int), m_X7_readLine_b97 N p1_size p1_store p1_store_n x2 t_ats t_least t_most t_faultKind t_faultPlace t_toldLines t_kind t_start t_next t_number t_score t_good t_bad t_open t_costs = some r → ∀ (H : Heap) (locs : List Loc) (ls : Array Slot), HP G A s.heap H locs [(a_t, .inr (6, [.ref a_t_score, .ref a_t_good, .ref a_t_bad, .ref a_t_open, .ref a_t_costs, .int (kI t_ats), .int (kI t_lines), .int (kI t_least), .int (kI t_most), .int (kI t_faultKind), .int (kI t_faultPlace), .int (kI t_toldLines), .int (kI t_kind), .int (kI t_start), .int (kI t_next), .int (kI t_number)])), (a_t_score, cAI G 60 t_score), (a_t_good, cAI G 60 t_good), (a_t_bad, cAI G 60 t_bad), (a_t_open, cAI G 60 t_open), (a_t_costs, cAI G 3 t_costs), (a_p1, .inr (1, [.ref a_p1_store, .int (kI p1_size)])), (a_p1_store, cAI G p1_store_n p1_store)] → lv_has ls 4 [(0, .ref a_t), (1, .ref a_p1), (2, .int (kI x2))] → W p l e (rmD 8 0 0) s m args below meth c H locs 0 0 (MQ below (QcV G A [(a_t, .inr (6, [.ref a_t_score, .ref a_t_good, .ref a_t_bad, .ref a_t_open, .ref a_t_costs, .int (kI r.1), .int (kI t_lines), .int (kI r.2.1), .int (kI r.2.2.1), .int (kI r.2.2.2.1), .int (kI r.2.2.2.2.1), .int (kI r.2.2.2.2.2.1), .int (kI r.2.2.2.2.2.2.1), .int (kI r.2.2.2.2.2.2.2.1), .int (kI r.2.2.2.2.2.2.2.2.1), .int (kI r.2.2.2.2.2.2.2.2.2.1)])), (a_t_score, cAI G 60 r.2.2.2.2.2.2.2.2.2.2.1), (a_t_good, cAI G 60 r.2.2.2.2.2.2.2.2.2.2.2.1), (a_t_bad, cAI G 60 r.2.2.2.2.2.2.2.2.2.2.2.2.1), (a_t_open, cAI G 60 r.2.2.2.2.2.2.2.2.2.2.2.2.2.1), (a_t_costs, cAI G 3 r.2.2.2.2.2.2.2.2.2.2.2.2.2.2), (a_p1, .inr (1, [.ref a_p1_store, .int (kI p1_size)])), (a_p1_store, cAI G p1_store_n p1_store)]) args s (rmD 8 0 0).cells (rmD 8 0 0).slots A) (F0 m 97 ls []) := by
  intro t_ats t_least t_most t_faultKind t_faultPlace t_toldLines t_kind t_start t_next t_number t_score t_good t_bad t_open t_costs h H locs ls hw hl
  rw [m_X7_readLine_b97] at h
  obtain ⟨⟨hx, hb, -, -, -⟩, -⟩ := id cx
  refine lv_iload_n hx hb dX7_readLine_97 rfl (lv_at hl 2 rfl) ?_
  obtain ⟨g1, h⟩ := gd_some h
  refine ri_if_ne (tgt := 156) hx hb g1 dX7_readLine_98 (by decide) (fun c2 => ?_) (fun c2 => ?_)
  · have h := it_pos c2 h
    refine lv_aload_n hx hb dX7_readLine_101 rfl (lv_at hl 0 rfl) ?_
    refine lv_aload_n hx hb dX7_readLine_102 rfl (lv_at hl 1 rfl) ?_
    refine va_ldcS hx hb cx.1.2.2.2.1 cx.2.2.1.2.2.2.1 dX7_readLine_103 ?_
    obtain ⟨r3, h3, h⟩ := bd_some h
    refine rc_I0 (v := r3) hw [0, 1, 2, 3, 4, 5, 6, 7] (rr_V cx hw (c_X7_isWord l G S H.size N a_t a_t_score a_t_good a_t_bad a_t_open a_t_costs a_p1 a_p1_store t_ats t_lines t_least t_most t_faultKind t_faultPlace t_toldLines t_kind t_start t_next t_number t_score t_good t_bad t_open t_costs p1_size p1_store p1_store_n 3 hn_p1_store _ h3) mv_X7_75 [0, 1, 2, 3, 4, 5, 6, 7] rfl rfl rfl 0 rfl rfl ⟨Nat.le_of_ble_eq_true rfl, Nat.le_of_ble_eq_true rfl⟩ rfl hl.1 rfl (Nat.le_of_ble_eq_true rfl) dX7_readLine_105 ⟨Nat.le_of_ble_eq_true rfl, Nat.le_of_ble_eq_true rfl⟩) rfl rfl (fun H locs hw => ?_)
    obtain ⟨g4, h⟩ := gd_some h
    refine ri_if_eq (tgt := 156) hx hb g4 dX7_readLine_108 (by decide) (fun c5 => ?_) (fun c5 => ?_)
    · have h := it_pos c5 h
      exact w_X7_readLine_b156 cx hlk hr N a_t a_t_score a_t_good a_t_bad a_t_open a_t_costs a_p1 a_p1_store t_lines p1_size p1_store p1_store_n x2 hn_p1_store r t_ats t_least t_most t_faultKind t_faultPlace t_toldLines t_kind t_start t_next t_number t_score t_good t_bad t_open t_costs h _ _ _ hw (lv_sub hl [0] rfl)
    · have h := it_neg c5 h
      refine lv_aload_n hx hb dX7_readLine_111 rfl (lv_at hl 0 rfl) ?_
      refine ri_iconst hx hb dX7_readLine_112 ?_
      obtain ⟨r6, h6, h⟩ := bd_some h
      refine rc_V (w2 := [(a_t, .inr (6, [.ref a_t_score, .ref a_t_good, .ref a_t_bad, .ref a_t_open, .ref a_t_costs, .int (kI t_ats), .int (kI t_lines), .int (kI t_least), .int (kI t_most), .int (kI r6.1), .int (kI r6.2.1), .int (kI r6.2.2), .int (kI t_kind), .int (kI t_start), .int (kI t_next), .int (kI t_number)])), (a_t_score, cAI G 60 t_score), (a_t_good, cAI G 60 t_good), (a_t_bad, cAI G 60 t_bad), (a_t_open, cAI G 60 t_open), (a_t_costs, cAI G 3 t_costs), (a_p1, .inr (1, [.ref a_p1_store, .int (kI p1_size)])), (a_p1_store, cAI G p1_store_n p1_store)]) hw [0, 1, 2, 3, 4, 5] [6, 7] [2, 3, 4, 5, 6, 7, 0, 1] (rr_V cx hw (c_X7_tellOnce l G S H.size N a_t a_t_score a_t_good a_t_bad a_t_open a_t_costs t_ats t_lines t_least t_most t_faultKind t_faultPlace t_toldLines t_kind t_start t_next t_number t_score t_good t_bad t_open t_costs 4 _ h6) mv_X7_83 [0, 1, 2, 3, 4, 5] rfl rfl rfl 0 rfl rfl ⟨Nat.le_of_ble_eq_true rfl, Nat.le_of_ble_eq_true rfl⟩ rfl hl.1 rfl (Nat.le_of_ble_eq_true rfl) dX7_readLine_113 ⟨Nat.le_of_ble_eq_true rfl, Nat.le_of_ble_eq_true rfl⟩) rfl rfl rfl rfl rfl rfl rfl rfl (fun H locs hw => ?_)
      refine ri_iconst hx hb dX7_readLine_116 ?_
      refine lv_istore_n (lv' := [(3, .int (kI 0)), (0, .ref a_t), (1, .ref a_p1), (2, .int (kI x2))]) hx hb dX7_readLine_117 rfl hl (by decide) rfl (fun ls hl => ?_)
      exact w_X7_readLine_b118 cx hlk hr N a_t a_t_score a_t_good a_t_bad a_t_open a_t_costs a_p1 a_p1_store t_lines p1_size p1_store p1_store_n x2 t_ats t_least t_most r6.2.2 t_score t_good t_bad t_open hn_p1_store r N r6.1 r6.2.1 t_kind t_start t_next t_number t_costs 0 h _ _ _ hw (lv_sub hl [1, 2, 0] rfl)
  · have h := it_neg c2 h
    exact w_X7_readLine_b156 cx hlk hr N a_t a_t_score a_t_good a_t_bad a_t_open a_t_costs a_p1 a_p1_store t_lines p1_size p1_store p1_store_n x2 hn_p1_store r t_ats t_least t_most t_faultKind t_faultPlace t_toldLines t_kind t_start t_next t_number t_score t_good t_bad t_open t_costs h _ _ _ hw (lv_sub hl [0] rfl)
set_option maxHeartbeats 4000000 in
set_option maxRecDepth 100000 in
theorem w_X7_readLine_b58 {p : Program} {l : Launch} {e : Env} {s : State} {m : MethodId} {args : Array Value} {below : List Frame} {meth : Method} {c : Code} {A : Nat → Prop} {G : GG} {S : SM} (cx : CX p s m args c cX7_readLine RX7 4 G S A) (hlk : meth.locks = false) (hr : meth.sig.returnType = none) (N : Nat) (a_t a_t_score a_t_good a_t_bad a_t_open a_t_costs a_p1 a_p1_store : Nat) (t_lines : Int) (p1_size : Int) (p1_store : Int → Int) (p1_store_n : Nat) (x2 : Int) (hn_p1_store : p1_store_n < 2147483648) (r : Int × Int × Int × Int × Int × Int × Int × Int × Int × Int × (Int → Int) × (Int → Int) × (Int → Int) × (Int → Int) × (Int → Int)) : ∀ (t_ats : Int) (t_least : Int) (t_most : Int) (t_faultKind : Int) (t_faultPlace : Int) (t_toldLines : Int) (t_kind : Int) (t_start : Int) (t_next : Int) (t_number : Int) (t_score : Int → Int) (t_good : Int → Int) (t_bad : Int → Int) (t_open : Int → Int) (t_costs : Int → Int), m_X7_readLine_b58 N p1_size p1_store p1_store_n x2 t_ats t_least t_most t_faultKind t_faultPlace t_toldLines t_kind t_start t_next t_number t_score t_good t_bad t_open t_costs = some r → ∀ (H : Heap) (locs : List Loc) (ls : Array Slot), HP G A s.heap H locs [(a_t, .inr (6, [.ref a_t_score, .ref a_t_good, .ref a_t_bad, .ref a_t_open, .ref a_t_costs, .int (kI t_ats), .int (kI t_lines), .int (kI t_least), .int (kI t_most), .int (kI t_faultKind), .int (kI t_faultPlace), .int (kI t_toldLines), .int (kI t_kind), .int (kI t_start), .int (kI t_next), .int (kI t_number)])), (a_t_score, cAI G 60 t_score), (a_t_good, cAI G 60 t_good), (a_t_bad, cAI G 60 t_bad), (a_t_open, cAI G 60 t_open), (a_t_costs, cAI G 3 t_costs), (a_p1, .inr (1, [.ref a_p1_store, .int (kI p1_size)])), (a_p1_store, cAI G p1_store_n p1_store)] → lv_has ls 4 [(0, .ref a_t), (1, .ref a_p1), (2, .int (kI x2))] → W p l e (rmD 8 0 0) s m args below meth c H locs 0 0 (MQ below (QcV G A [(a_t, .inr (6, [.ref a_t_score, .ref a_t_good, .ref a_t_bad, .ref a_t_open, .ref a_t_costs, .int (kI r.1), .int (kI t_lines), .int (kI r.2.1), .int (kI r.2.2.1), .int (kI r.2.2.2.1), .int (kI r.2.2.2.2.1), .int (kI r.2.2.2.2.2.1), .int (kI r.2.2.2.2.2.2.1), .int (kI r.2.2.2.2.2.2.2.1), .int (kI r.2.2.2.2.2.2.2.2.1), .int (kI r.2.2.2.2.2.2.2.2.2.1)])), (a_t_score, cAI G 60 r.2.2.2.2.2.2.2.2.2.2.1), (a_t_good, cAI G 60 r.2.2.2.2.2.2.2.2.2.2.2.1), (a_t_bad, cAI G 60 r.2.2.2.2.2.2.2.2.2.2.2.2.1), (a_t_open, cAI G 60 r.2.2.2.2.2.2.2.2.2.2.2.2.2.1), (a_t_costs, cAI G 3 r.2.2.2.2.2.2.2.2.2.2.2.2.2.2), (a_p1, .inr (1, [.ref a_p1_store, .int (kI p1_size)])), (a_p1_store, cAI G p1_store_n p1_store)]) args s (rmD 8 0 0).cells (rmD 8 0 0).slots A) (F0 m 58 ls []) := by
  intro t_ats t_least t_most t_faultKind t_faultPlace t_toldLines t_kind t_start t_next t_number t_score t_good t_bad t_open t_costs h H locs ls hw hl
  rw [m_X7_readLine_b58] at h
  obtain ⟨⟨hx, hb, -, -, -⟩, -⟩ := id cx
  refine lv_iload_n hx hb dX7_readLine_58 rfl (lv_at hl 2 rfl) ?_
  obtain ⟨g1, h⟩ := gd_some h
  refine ri_if_ne (tgt := 97) hx hb g1 dX7_readLine_59 (by decide) (fun c2 => ?_) (fun c2 => ?_)
  · have h := it_pos c2 h
    refine lv_aload_n hx hb dX7_readLine_62 rfl (lv_at hl 0 rfl) ?_
    refine lv_aload_n hx hb dX7_readLine_63 rfl (lv_at hl 1 rfl) ?_
    refine va_ldcS hx hb cx.1.2.2.2.1 cx.2.2.1.2.2.1 dX7_readLine_64 ?_
    obtain ⟨r3, h3, h⟩ := bd_some h
    refine rc_I0 (v := r3) hw [0, 1, 2, 3, 4, 5, 6, 7] (rr_V cx hw (c_X7_isWord l G S H.size N a_t a_t_score a_t_good a_t_bad a_t_open a_t_costs a_p1 a_p1_store t_ats t_lines t_least t_most t_faultKind t_faultPlace t_toldLines t_kind t_start t_next t_number t_score t_good t_bad t_open t_costs p1_size p1_store p1_store_n 2 hn_p1_store _ h3) mv_X7_75 [0, 1, 2, 3, 4, 5, 6, 7] rfl rfl rfl 0 rfl rfl ⟨Nat.le_of_ble_eq_true rfl, Nat.le_of_ble_eq_true rfl⟩ rfl hl.1 rfl (Nat.le_of_ble_eq_true rfl) dX7_readLine_66 ⟨Nat.le_of_ble_eq_true rfl, Nat.le_of_ble_eq_true rfl⟩) rfl rfl (fun H locs hw => ?_)
    obtain ⟨g4, h⟩ := gd_some h
    refine ri_if_eq (tgt := 97) hx hb g4 dX7_readLine_69 (by decide) (fun c5 => ?_) (fun c5 => ?_)
    · have h := it_pos c5 h
      exact w_X7_readLine_b97 cx hlk hr N a_t a_t_score a_t_good a_t_bad a_t_open a_t_costs a_p1 a_p1_store t_lines p1_size p1_store p1_store_n x2 hn_p1_store r t_ats t_least t_most t_faultKind t_faultPlace t_toldLines t_kind t_start t_next t_number t_score t_good t_bad t_open t_costs h _ _ _ hw (lv_sub hl [0, 1, 2] rfl)
    · have h := it_neg c5 h
      refine lv_aload_n hx hb dX7_readLine_72 rfl (lv_at hl 0 rfl) ?_
      refine ri_iconst hx hb dX7_readLine_73 ?_
      obtain ⟨r6, h6, h⟩ := bd_some h
      refine rc_V (w2 := [(a_t, .inr (6, [.ref a_t_score, .ref a_t_good, .ref a_t_bad, .ref a_t_open, .ref a_t_costs, .int (kI t_ats), .int (kI t_lines), .int (kI t_least), .int (kI t_most), .int (kI r6.1), .int (kI r6.2.1), .int (kI r6.2.2), .int (kI t_kind), .int (kI t_start), .int (kI t_next), .int (kI t_number)])), (a_t_score, cAI G 60 t_score), (a_t_good, cAI G 60 t_good), (a_t_bad, cAI G 60 t_bad), (a_t_open, cAI G 60 t_open), (a_t_costs, cAI G 3 t_costs), (a_p1, .inr (1, [.ref a_p1_store, .int (kI p1_size)])), (a_p1_store, cAI G p1_store_n p1_store)]) hw [0, 1, 2, 3, 4, 5] [6, 7] [2, 3, 4, 5, 6, 7, 0, 1] (rr_V cx hw (c_X7_tellOnce l G S H.size N a_t a_t_score a_t_good a_t_bad a_t_open a_t_costs t_ats t_lines t_least t_most t_faultKind t_faultPlace t_toldLines t_kind t_start t_next t_number t_score t_good t_bad t_open t_costs 2 _ h6) mv_X7_83 [0, 1, 2, 3, 4, 5] rfl rfl rfl 0 rfl rfl ⟨Nat.le_of_ble_eq_true rfl, Nat.le_of_ble_eq_true rfl⟩ rfl hl.1 rfl (Nat.le_of_ble_eq_true rfl) dX7_readLine_74 ⟨Nat.le_of_ble_eq_true rfl, Nat.le_of_ble_eq_true rfl⟩) rfl rfl rfl rfl rfl rfl rfl rfl (fun H locs hw => ?_)
      refine lv_aload_n hx hb dX7_readLine_77 rfl (lv_at hl 0 rfl) ?_
      refine lv_aload_n hx hb dX7_readLine_78 rfl (lv_at hl 0 rfl) ?_
      refine lv_aload_n hx hb dX7_readLine_79 rfl (lv_at hl 1 rfl) ?_
      refine ri_iconst hx hb dX7_readLine_80 ?_
      refine ri_bipush hx hb dX7_readLine_81 rfl ?_
      obtain ⟨r7, h7, h⟩ := bd_some h
      refine rc_I (v := r7.1) (w2 := [(a_t, .inr (6, [.ref a_t_score, .ref a_t_good, .ref a_t_bad, .ref a_t_open, .ref a_t_costs, .int (kI t_ats), .int (kI t_lines), .int (kI t_least), .int (kI t_most), .int (kI r7.2.1), .int (kI r7.2.2.1), .int (kI r6.2.2), .int (kI r7.2.2.2.1), .int (kI r7.2.2.2.2.1), .int (kI r7.2.2.2.2.2.1), .int (kI r7.2.2.2.2.2.2)])), (a_t_score, cAI G 60 t_score), (a_t_good, cAI G 60 t_good), (a_t_bad, cAI G 60 t_bad), (a_t_open, cAI G 60 t_open), (a_t_costs, cAI G 3 t_costs), (a_p1, .inr (1, [.ref a_p1_store, .int (kI p1_size)])), (a_p1_store, cAI G p1_store_n p1_store)]) hw [0, 1, 2, 3, 4, 5, 6, 7] [] [0, 1, 2, 3, 4, 5, 6, 7] (rr_V cx hw (c_X7_wantNumber l G S H.size N a_t a_t_score a_t_good a_t_bad a_t_open a_t_costs a_p1 a_p1_store t_ats t_lines t_least t_most r6.1 r6.2.1 r6.2.2 t_kind t_start t_next t_number t_score t_good t_bad t_open t_costs p1_size p1_store p1_store_n 1 60 hn_p1_store _ h7) mv_X7_86 [0, 1, 2, 3, 4, 5, 6, 7] rfl rfl rfl 0 rfl rfl ⟨Nat.le_of_ble_eq_true rfl, Nat.le_of_ble_eq_true rfl⟩ rfl hl.1 rfl (Nat.le_of_ble_eq_true rfl) dX7_readLine_83 ⟨Nat.le_of_ble_eq_true rfl, Nat.le_of_ble_eq_true rfl⟩) rfl rfl rfl rfl rfl rfl rfl rfl (fun H locs hw => ?_)
      refine rf_put hx hb cx hw 0 rfl rfl 8 inX7 tyX7 tyX7_ok nmX7 (by decide) fl_X7_61 rfl rfl rfl rfl (Nat.le_of_ble_eq_true rfl) dX7_readLine_86 (fun H locs hw => ?_)
      have hw : HP G A s.heap H locs [(a_t, .inr (6, [.ref a_t_score, .ref a_t_good, .ref a_t_bad, .ref a_t_open, .ref a_t_costs, .int (kI t_ats), .int (kI t_lines), .int (kI t_least), .int (kI r7.1), .int (kI r7.2.1), .int (kI r7.2.2.1), .int (kI r6.2.2), .int (kI r7.2.2.2.1), .int (kI r7.2.2.2.2.1), .int (kI r7.2.2.2.2.2.1), .int (kI r7.2.2.2.2.2.2)])), (a_t_score, cAI G 60 t_score), (a_t_good, cAI G 60 t_good), (a_t_bad, cAI G 60 t_bad), (a_t_open, cAI G 60 t_open), (a_t_costs, cAI G 3 t_costs), (a_p1, .inr (1, [.ref a_p1_store, .int (kI p1_size)])), (a_p1_store, cAI G p1_store_n p1_store)] := hw
      refine lv_aload_n hx hb dX7_readLine_89 rfl (lv_at hl 0 rfl) ?_
      refine lv_aload_n hx hb dX7_readLine_90 rfl (lv_at hl 1 rfl) ?_
      obtain ⟨r8, h8, h⟩ := bd_some h
      refine rc_V (w2 := [(a_t, .inr (6, [.ref a_t_score, .ref a_t_good, .ref a_t_bad, .ref a_t_open, .ref a_t_costs, .int (kI t_ats), .int (kI t_lines), .int (kI t_least), .int (kI r7.1), .int (kI r7.2.1), .int (kI r7.2.2.1), .int (kI r6.2.2), .int (kI r8.1), .int (kI r8.2.1), .int (kI r8.2.2.1), .int (kI r8.2.2.2)])), (a_t_score, cAI G 60 t_score), (a_t_good, cAI G 60 t_good), (a_t_bad, cAI G 60 t_bad), (a_t_open, cAI G 60 t_open), (a_t_costs, cAI G 3 t_costs), (a_p1, .inr (1, [.ref a_p1_store, .int (kI p1_size)])), (a_p1_store, cAI G p1_store_n p1_store)]) hw [0, 1, 2, 3, 4, 5, 6, 7] [] [0, 1, 2, 3, 4, 5, 6, 7] (rr_V cx hw (c_X7_step l G S H.size N a_t a_t_score a_t_good a_t_bad a_t_open a_t_costs a_p1 a_p1_store t_ats t_lines t_least r7.1 r7.2.1 r7.2.2.1 r6.2.2 r7.2.2.2.1 r7.2.2.2.2.1 r7.2.2.2.2.2.1 r7.2.2.2.2.2.2 t_score t_good t_bad t_open t_costs p1_size p1_store p1_store_n hn_p1_store _ h8) mv_X7_34 [0, 1, 2, 3, 4, 5, 6, 7] rfl rfl rfl 0 rfl rfl ⟨Nat.le_of_ble_eq_true rfl, Nat.le_of_ble_eq_true rfl⟩ rfl hl.1 rfl (Nat.le_of_ble_eq_true rfl) dX7_readLine_91 ⟨Nat.le_of_ble_eq_true rfl, Nat.le_of_ble_eq_true rfl⟩) rfl rfl rfl rfl rfl rfl rfl rfl (fun H locs hw => ?_)
      refine lv_goto (tgt := 161) hx hb dX7_readLine_94 (by decide) ?_
      obtain rfl := so_inj h
      exact re_v hx hb hlk hr cx hw (Nat.le_of_ble_eq_true rfl) (Nat.le_of_ble_eq_true rfl) dX7_readLine_161
  · have h := it_neg c2 h
    exact w_X7_readLine_b97 cx hlk hr N a_t a_t_score a_t_good a_t_bad a_t_open a_t_costs a_p1 a_p1_store t_lines p1_size p1_store p1_store_n x2 hn_p1_store r t_ats t_least t_most t_faultKind t_faultPlace t_toldLines t_kind t_start t_next t_number t_score t_good t_bad t_open t_costs h _ _ _ hw (lv_sub hl [0, 1, 2] rfl)
set_option maxHeartbeats 4000000 in
set_option maxRecDepth 100000 in
theorem c_X7_readLine (l : Launch) (G : GG) (S : SM) (sz : Nat) (N : Nat) (a_t a_t_score a_t_good a_t_bad a_t_open a_t_costs a_p1 a_p1_store : Nat) (t_ats : Int) (t_lines : Int) (t_least : Int) (t_most : Int) (t_faultKind : Int) (t_faultPlace : Int) (t_toldLines : Int) (t_kind : Int) (t_start : Int) (t_next : Int) (t_number : Int) (t_score : Int → Int) (t_good : Int → Int) (t_bad : Int → Int) (t_open : Int → Int) (t_costs : Int → Int) (p1_size : Int) (p1_store : Int → Int) (p1_store_n : Nat) (x2 : Int) (hn_p1_store : p1_store_n < 2147483648) (r : Int × Int × Int × Int × Int × Int × Int × Int × Int × Int × (Int → Int) × (Int → Int) × (Int → Int) × (Int → Int) × (Int → Int)) (h : m_X7_readLine N p1_size p1_store p1_store_n t_ats t_least t_most t_faultKind t_faultPlace t_toldLines t_kind t_start t_next t_number t_score t_good t_bad t_open t_costs x2 = some r) : CtV l yX7_readLine cX7_readLine 4 (rmD 8 0 0) G S sz [.ref a_t, .ref a_p1, .int (kI x2)] [(a_t, .inr (6, [.ref a_t_score, .ref a_t_good, .ref a_t_bad, .ref a_t_open, .ref a_t_costs, .int (kI t_ats), .int (kI t_lines), .int (kI t_least), .int (kI t_most), .int (kI t_faultKind), .int (kI t_faultPlace), .int (kI t_toldLines), .int (kI t_kind), .int (kI t_start), .int (kI t_next), .int (kI t_number)])), (a_t_score, cAI G 60 t_score), (a_t_good, cAI G 60 t_good), (a_t_bad, cAI G 60 t_bad), (a_t_open, cAI G 60 t_open), (a_t_costs, cAI G 3 t_costs), (a_p1, .inr (1, [.ref a_p1_store, .int (kI p1_size)])), (a_p1_store, cAI G p1_store_n p1_store)] [(a_t, .inr (6, [.ref a_t_score, .ref a_t_good, .ref a_t_bad, .ref a_t_open, .ref a_t_costs, .int (kI r.1), .int (kI t_lines), .int (kI r.2.1), .int (kI r.2.2.1), .int (kI r.2.2.2.1), .int (kI r.2.2.2.2.1), .int (kI r.2.2.2.2.2.1), .int (kI r.2.2.2.2.2.2.1), .int (kI r.2.2.2.2.2.2.2.1), .int (kI r.2.2.2.2.2.2.2.2.1), .int (kI r.2.2.2.2.2.2.2.2.2.1)])), (a_t_score, cAI G 60 r.2.2.2.2.2.2.2.2.2.2.1), (a_t_good, cAI G 60 r.2.2.2.2.2.2.2.2.2.2.2.1), (a_t_bad, cAI G 60 r.2.2.2.2.2.2.2.2.2.2.2.2.1), (a_t_open, cAI G 60 r.2.2.2.2.2.2.2.2.2.2.2.2.2.1), (a_t_costs, cAI G 3 r.2.2.2.2.2.2.2.2.2.2.2.2.2.2), (a_p1, .inr (1, [.ref a_p1_store, .int (kI p1_size)])), (a_p1_store, cAI G p1_store_n p1_store)] := by
  refine met_V (by decide +kernel) (Nat.le_of_ble_eq_true rfl) ?_
  intro p e s m args below meth c A H locs ls cx hw hr hlk hnm hl
  have hl : lv_has ls 4 [(0, .ref a_t), (1, .ref a_p1), (2, .int (kI x2))] := hl
  rw [m_X7_readLine] at h
  obtain ⟨⟨hx, hb, -, -, -⟩, -⟩ := id cx
  refine lv_aload_n hx hb dX7_readLine_0 rfl (lv_at hl 0 rfl) ?_
  refine lv_aload_n hx hb dX7_readLine_1 rfl (lv_at hl 1 rfl) ?_
  refine va_ldcS hx hb cx.1.2.2.2.1 cx.2.2.1.1 dX7_readLine_2 ?_
  obtain ⟨r1, h1, h⟩ := bd_some h
  refine rc_I0 (v := r1) hw [0, 1, 2, 3, 4, 5, 6, 7] (rr_V cx hw (c_X7_isWord l G S H.size N a_t a_t_score a_t_good a_t_bad a_t_open a_t_costs a_p1 a_p1_store t_ats t_lines t_least t_most t_faultKind t_faultPlace t_toldLines t_kind t_start t_next t_number t_score t_good t_bad t_open t_costs p1_size p1_store p1_store_n 0 hn_p1_store _ h1) mv_X7_75 [0, 1, 2, 3, 4, 5, 6, 7] rfl rfl rfl 0 rfl rfl ⟨Nat.le_of_ble_eq_true rfl, Nat.le_of_ble_eq_true rfl⟩ rfl hl.1 rfl (Nat.le_of_ble_eq_true rfl) dX7_readLine_4 ⟨Nat.le_of_ble_eq_true rfl, Nat.le_of_ble_eq_true rfl⟩) rfl rfl (fun H locs hw => ?_)
  obtain ⟨g2, h⟩ := gd_some h
  refine ri_if_eq (tgt := 18) hx hb g2 dX7_readLine_7 (by decide) (fun c3 => ?_) (fun c3 => ?_)
  · have h := it_pos c3 h
    refine lv_iload_n hx hb dX7_readLine_18 rfl (lv_at hl 2 rfl) ?_
    obtain ⟨g4, h⟩ := gd_some h
    refine ri_if_ne (tgt := 58) hx hb g4 dX7_readLine_19 (by decide) (fun c5 => ?_) (fun c5 => ?_)
    · have h := it_pos c5 h
      refine lv_aload_n hx hb dX7_readLine_22 rfl (lv_at hl 0 rfl) ?_
      refine lv_aload_n hx hb dX7_readLine_23 rfl (lv_at hl 1 rfl) ?_
      refine va_ldcS hx hb cx.1.2.2.2.1 cx.2.2.1.2.1 dX7_readLine_24 ?_
      obtain ⟨r6, h6, h⟩ := bd_some h
      refine rc_I0 (v := r6) hw [0, 1, 2, 3, 4, 5, 6, 7] (rr_V cx hw (c_X7_isWord l G S H.size N a_t a_t_score a_t_good a_t_bad a_t_open a_t_costs a_p1 a_p1_store t_ats t_lines t_least t_most t_faultKind t_faultPlace t_toldLines t_kind t_start t_next t_number t_score t_good t_bad t_open t_costs p1_size p1_store p1_store_n 1 hn_p1_store _ h6) mv_X7_75 [0, 1, 2, 3, 4, 5, 6, 7] rfl rfl rfl 0 rfl rfl ⟨Nat.le_of_ble_eq_true rfl, Nat.le_of_ble_eq_true rfl⟩ rfl hl.1 rfl (Nat.le_of_ble_eq_true rfl) dX7_readLine_26 ⟨Nat.le_of_ble_eq_true rfl, Nat.le_of_ble_eq_true rfl⟩) rfl rfl (fun H locs hw => ?_)
      obtain ⟨g7, h⟩ := gd_some h
      refine ri_if_eq (tgt := 58) hx hb g7 dX7_readLine_29 (by decide) (fun c8 => ?_) (fun c8 => ?_)
      · have h := it_pos c8 h
        exact w_X7_readLine_b58 cx hlk hr N a_t a_t_score a_t_good a_t_bad a_t_open a_t_costs a_p1 a_p1_store t_lines p1_size p1_store p1_store_n x2 hn_p1_store r t_ats t_least t_most t_faultKind t_faultPlace t_toldLines t_kind t_start t_next t_number t_score t_good t_bad t_open t_costs h _ _ _ hw (lv_sub hl [0, 1, 2] rfl)
      · have h := it_neg c8 h
        refine lv_aload_n hx hb dX7_readLine_32 rfl (lv_at hl 0 rfl) ?_
        refine ri_iconst hx hb dX7_readLine_33 ?_
        obtain ⟨r9, h9, h⟩ := bd_some h
        refine rc_V (w2 := [(a_t, .inr (6, [.ref a_t_score, .ref a_t_good, .ref a_t_bad, .ref a_t_open, .ref a_t_costs, .int (kI t_ats), .int (kI t_lines), .int (kI t_least), .int (kI t_most), .int (kI r9.1), .int (kI r9.2.1), .int (kI r9.2.2), .int (kI t_kind), .int (kI t_start), .int (kI t_next), .int (kI t_number)])), (a_t_score, cAI G 60 t_score), (a_t_good, cAI G 60 t_good), (a_t_bad, cAI G 60 t_bad), (a_t_open, cAI G 60 t_open), (a_t_costs, cAI G 3 t_costs), (a_p1, .inr (1, [.ref a_p1_store, .int (kI p1_size)])), (a_p1_store, cAI G p1_store_n p1_store)]) hw [0, 1, 2, 3, 4, 5] [6, 7] [2, 3, 4, 5, 6, 7, 0, 1] (rr_V cx hw (c_X7_tellOnce l G S H.size N a_t a_t_score a_t_good a_t_bad a_t_open a_t_costs t_ats t_lines t_least t_most t_faultKind t_faultPlace t_toldLines t_kind t_start t_next t_number t_score t_good t_bad t_open t_costs 1 _ h9) mv_X7_83 [0, 1, 2, 3, 4, 5] rfl rfl rfl 0 rfl rfl ⟨Nat.le_of_ble_eq_true rfl, Nat.le_of_ble_eq_true rfl⟩ rfl hl.1 rfl (Nat.le_of_ble_eq_true rfl) dX7_readLine_34 ⟨Nat.le_of_ble_eq_true rfl, Nat.le_of_ble_eq_true rfl⟩) rfl rfl rfl rfl rfl rfl rfl rfl (fun H locs hw => ?_)
        refine lv_aload_n hx hb dX7_readLine_37 rfl (lv_at hl 0 rfl) ?_
        refine lv_aload_n hx hb dX7_readLine_38 rfl (lv_at hl 0 rfl) ?_
        refine lv_aload_n hx hb dX7_readLine_39 rfl (lv_at hl 1 rfl) ?_
        refine ri_iconst hx hb dX7_readLine_40 ?_
        refine ri_sipush hx hb dX7_readLine_41 rfl ?_
        obtain ⟨r10, h10, h⟩ := bd_some h
        refine rc_I (v := r10.1) (w2 := [(a_t, .inr (6, [.ref a_t_score, .ref a_t_good, .ref a_t_bad, .ref a_t_open, .ref a_t_costs, .int (kI t_ats), .int (kI t_lines), .int (kI t_least), .int (kI t_most), .int (kI r10.2.1), .int (kI r10.2.2.1), .int (kI r9.2.2), .int (kI r10.2.2.2.1), .int (kI r10.2.2.2.2.1), .int (kI r10.2.2.2.2.2.1), .int (kI r10.2.2.2.2.2.2)])), (a_t_score, cAI G 60 t_score), (a_t_good, cAI G 60 t_good), (a_t_bad, cAI G 60 t_bad), (a_t_open, cAI G 60 t_open), (a_t_costs, cAI G 3 t_costs), (a_p1, .inr (1, [.ref a_p1_store, .int (kI p1_size)])), (a_p1_store, cAI G p1_store_n p1_store)]) hw [0, 1, 2, 3, 4, 5, 6, 7] [] [0, 1, 2, 3, 4, 5, 6, 7] (rr_V cx hw (c_X7_wantNumber l G S H.size N a_t a_t_score a_t_good a_t_bad a_t_open a_t_costs a_p1 a_p1_store t_ats t_lines t_least t_most r9.1 r9.2.1 r9.2.2 t_kind t_start t_next t_number t_score t_good t_bad t_open t_costs p1_size p1_store p1_store_n 0 9999 hn_p1_store _ h10) mv_X7_86 [0, 1, 2, 3, 4, 5, 6, 7] rfl rfl rfl 0 rfl rfl ⟨Nat.le_of_ble_eq_true rfl, Nat.le_of_ble_eq_true rfl⟩ rfl hl.1 rfl (Nat.le_of_ble_eq_true rfl) dX7_readLine_44 ⟨Nat.le_of_ble_eq_true rfl, Nat.le_of_ble_eq_true rfl⟩) rfl rfl rfl rfl rfl rfl rfl rfl (fun H locs hw => ?_)
        refine rf_put hx hb cx hw 0 rfl rfl 7 inX7 tyX7 tyX7_ok nmX7 (by decide) fl_X7_58 rfl rfl rfl rfl (Nat.le_of_ble_eq_true rfl) dX7_readLine_47 (fun H locs hw => ?_)
        have hw : HP G A s.heap H locs [(a_t, .inr (6, [.ref a_t_score, .ref a_t_good, .ref a_t_bad, .ref a_t_open, .ref a_t_costs, .int (kI t_ats), .int (kI t_lines), .int (kI r10.1), .int (kI t_most), .int (kI r10.2.1), .int (kI r10.2.2.1), .int (kI r9.2.2), .int (kI r10.2.2.2.1), .int (kI r10.2.2.2.2.1), .int (kI r10.2.2.2.2.2.1), .int (kI r10.2.2.2.2.2.2)])), (a_t_score, cAI G 60 t_score), (a_t_good, cAI G 60 t_good), (a_t_bad, cAI G 60 t_bad), (a_t_open, cAI G 60 t_open), (a_t_costs, cAI G 3 t_costs), (a_p1, .inr (1, [.ref a_p1_store, .int (kI p1_size)])), (a_p1_store, cAI G p1_store_n p1_store)] := hw
        refine lv_aload_n hx hb dX7_readLine_50 rfl (lv_at hl 0 rfl) ?_
        refine lv_aload_n hx hb dX7_readLine_51 rfl (lv_at hl 1 rfl) ?_
        obtain ⟨r11, h11, h⟩ := bd_some h
        refine rc_V (w2 := [(a_t, .inr (6, [.ref a_t_score, .ref a_t_good, .ref a_t_bad, .ref a_t_open, .ref a_t_costs, .int (kI t_ats), .int (kI t_lines), .int (kI r10.1), .int (kI t_most), .int (kI r10.2.1), .int (kI r10.2.2.1), .int (kI r9.2.2), .int (kI r11.1), .int (kI r11.2.1), .int (kI r11.2.2.1), .int (kI r11.2.2.2)])), (a_t_score, cAI G 60 t_score), (a_t_good, cAI G 60 t_good), (a_t_bad, cAI G 60 t_bad), (a_t_open, cAI G 60 t_open), (a_t_costs, cAI G 3 t_costs), (a_p1, .inr (1, [.ref a_p1_store, .int (kI p1_size)])), (a_p1_store, cAI G p1_store_n p1_store)]) hw [0, 1, 2, 3, 4, 5, 6, 7] [] [0, 1, 2, 3, 4, 5, 6, 7] (rr_V cx hw (c_X7_step l G S H.size N a_t a_t_score a_t_good a_t_bad a_t_open a_t_costs a_p1 a_p1_store t_ats t_lines r10.1 t_most r10.2.1 r10.2.2.1 r9.2.2 r10.2.2.2.1 r10.2.2.2.2.1 r10.2.2.2.2.2.1 r10.2.2.2.2.2.2 t_score t_good t_bad t_open t_costs p1_size p1_store p1_store_n hn_p1_store _ h11) mv_X7_34 [0, 1, 2, 3, 4, 5, 6, 7] rfl rfl rfl 0 rfl rfl ⟨Nat.le_of_ble_eq_true rfl, Nat.le_of_ble_eq_true rfl⟩ rfl hl.1 rfl (Nat.le_of_ble_eq_true rfl) dX7_readLine_52 ⟨Nat.le_of_ble_eq_true rfl, Nat.le_of_ble_eq_true rfl⟩) rfl rfl rfl rfl rfl rfl rfl rfl (fun H locs hw => ?_)
        refine lv_goto (tgt := 161) hx hb dX7_readLine_55 (by decide) ?_
        obtain rfl := so_inj h
        exact re_v hx hb hlk hr cx hw (Nat.le_of_ble_eq_true rfl) (Nat.le_of_ble_eq_true rfl) dX7_readLine_161
    · have h := it_neg c5 h
      exact w_X7_readLine_b58 cx hlk hr N a_t a_t_score a_t_good a_t_bad a_t_open a_t_costs a_p1 a_p1_store t_lines p1_size p1_store p1_store_n x2 hn_p1_store r t_ats t_least t_most t_faultKind t_faultPlace t_toldLines t_kind t_start t_next t_number t_score t_good t_bad t_open t_costs h _ _ _ hw (lv_sub hl [0, 1, 2] rfl)
  · have h := it_neg c3 h
    refine lv_aload_n hx hb dX7_readLine_10 rfl (lv_at hl 0 rfl) ?_
    refine lv_aload_n hx hb dX7_readLine_11 rfl (lv_at hl 1 rfl) ?_
    obtain ⟨r12, h12, h⟩ := bd_some h
    refine rc_V (w2 := [(a_t, .inr (6, [.ref a_t_score, .ref a_t_good, .ref a_t_bad, .ref a_t_open, .ref a_t_costs, .int (kI r12.1), .int (kI t_lines), .int (kI t_least), .int (kI t_most), .int (kI r12.2.1), .int (kI r12.2.2.1), .int (kI t_toldLines), .int (kI r12.2.2.2.1), .int (kI r12.2.2.2.2.1), .int (kI r12.2.2.2.2.2.1), .int (kI r12.2.2.2.2.2.2.1)])), (a_t_score, cAI G 60 r12.2.2.2.2.2.2.2.1), (a_t_good, cAI G 60 r12.2.2.2.2.2.2.2.2.1), (a_t_bad, cAI G 60 r12.2.2.2.2.2.2.2.2.2.1), (a_t_open, cAI G 60 r12.2.2.2.2.2.2.2.2.2.2), (a_t_costs, cAI G 3 t_costs), (a_p1, .inr (1, [.ref a_p1_store, .int (kI p1_size)])), (a_p1_store, cAI G p1_store_n p1_store)]) hw [0, 1, 2, 3, 4, 5, 6, 7] [] [0, 1, 2, 3, 4, 5, 6, 7] (rr_V cx hw (c_X7_readAt l G S H.size N a_t a_t_score a_t_good a_t_bad a_t_open a_t_costs a_p1 a_p1_store t_ats t_lines t_least t_most t_faultKind t_faultPlace t_toldLines t_kind t_start t_next t_number t_score t_good t_bad t_open t_costs p1_size p1_store p1_store_n hn_p1_store _ h12) mv_X7_79 [0, 1, 2, 3, 4, 5, 6, 7] rfl rfl rfl 0 rfl rfl ⟨Nat.le_of_ble_eq_true rfl, Nat.le_of_ble_eq_true rfl⟩ rfl hl.1 rfl (Nat.le_of_ble_eq_true rfl) dX7_readLine_12 ⟨Nat.le_of_ble_eq_true rfl, Nat.le_of_ble_eq_true rfl⟩) rfl rfl rfl rfl rfl rfl rfl rfl (fun H locs hw => ?_)
    refine lv_goto (tgt := 161) hx hb dX7_readLine_15 (by decide) ?_
    obtain rfl := so_inj h
    exact re_v hx hb hlk hr cx hw (Nat.le_of_ble_eq_true rfl) (Nat.le_of_ble_eq_true rfl) dX7_readLine_161
def PL_X7_readAll_b11 (p : Program) (l : Launch) (e : Env) (s : State) (m : MethodId) (args : Array Value) (below : List Frame) (meth : Method) (c : Code) (A : Nat → Prop) (G : GG) (S : SM) (a_t a_t_score a_t_good a_t_bad a_t_open a_t_costs a_p1 a_p1_store : Nat) (p1_size : Int) (p1_store : Int → Int) (p1_store_n : Nat) (x2 : Int) (r : Int × Int × Int × Int × Int × Int × Int × Int × Int × Int × Int × (Int → Int) × (Int → Int) × (Int → Int) × (Int → Int) × (Int → Int)) (kk : Int → Int → Int → Int → Int → Int → Int → Int → Int → Int → Int → (Int → Int) → (Int → Int) → (Int → Int) → (Int → Int) → (Int → Int) → Int → Option (Int × Int × Int × Int × Int × Int × Int × Int × Int × Int × Int × (Int → Int) × (Int → Int) × (Int → Int) × (Int → Int) × (Int → Int))) : Prop := ∀ (t_ats : Int) (t_lines : Int) (t_least : Int) (t_most : Int) (t_faultKind : Int) (t_faultPlace : Int) (t_toldLines : Int) (t_kind : Int) (t_start : Int) (t_next : Int) (t_number : Int) (t_score : Int → Int) (t_good : Int → Int) (t_bad : Int → Int) (t_open : Int → Int) (t_costs : Int → Int) (y3 : Int), kk t_ats t_lines t_least t_most t_faultKind t_faultPlace t_toldLines t_kind t_start t_next t_number t_score t_good t_bad t_open t_costs y3 = some r → ∀ (H : Heap) (locs : List Loc) (ls : Array Slot), HP G A s.heap H locs [(a_t, .inr (6, [.ref a_t_score, .ref a_t_good, .ref a_t_bad, .ref a_t_open, .ref a_t_costs, .int (kI t_ats), .int (kI t_lines), .int (kI t_least), .int (kI t_most), .int (kI t_faultKind), .int (kI t_faultPlace), .int (kI t_toldLines), .int (kI t_kind), .int (kI t_start), .int (kI t_next), .int (kI t_number)])), (a_t_score, cAI G 60 t_score), (a_t_good, cAI G 60 t_good), (a_t_bad, cAI G 60 t_bad), (a_t_open, cAI G 60 t_open), (a_t_costs, cAI G 3 t_costs), (a_p1, .inr (1, [.ref a_p1_store, .int (kI p1_size)])), (a_p1_store, cAI G p1_store_n p1_store)] → lv_has ls 4 [(0, .ref a_t), (1, .ref a_p1), (2, .int (kI x2)), (3, .int (kI y3))] → W p l e (rmD 9 0 0) s m args below meth c H locs 0 0 (MQ below (QcV G A [(a_t, .inr (6, [.ref a_t_score, .ref a_t_good, .ref a_t_bad, .ref a_t_open, .ref a_t_costs, .int (kI r.1), .int (kI r.2.1), .int (kI r.2.2.1), .int (kI r.2.2.2.1), .int (kI r.2.2.2.2.1), .int (kI r.2.2.2.2.2.1), .int (kI r.2.2.2.2.2.2.1), .int (kI r.2.2.2.2.2.2.2.1), .int (kI r.2.2.2.2.2.2.2.2.1), .int (kI r.2.2.2.2.2.2.2.2.2.1), .int (kI r.2.2.2.2.2.2.2.2.2.2.1)])), (a_t_score, cAI G 60 r.2.2.2.2.2.2.2.2.2.2.2.1), (a_t_good, cAI G 60 r.2.2.2.2.2.2.2.2.2.2.2.2.1), (a_t_bad, cAI G 60 r.2.2.2.2.2.2.2.2.2.2.2.2.2.1), (a_t_open, cAI G 60 r.2.2.2.2.2.2.2.2.2.2.2.2.2.2.1), (a_t_costs, cAI G 3 r.2.2.2.2.2.2.2.2.2.2.2.2.2.2.2), (a_p1, .inr (1, [.ref a_p1_store, .int (kI p1_size)])), (a_p1_store, cAI G p1_store_n p1_store)]) args s (rmD 9 0 0).cells (rmD 9 0 0).slots A) (F0 m 11 ls [])
set_option maxHeartbeats 4000000 in
set_option maxRecDepth 100000 in
theorem w_X7_readAll_b51 {p : Program} {l : Launch} {e : Env} {s : State} {m : MethodId} {args : Array Value} {below : List Frame} {meth : Method} {c : Code} {A : Nat → Prop} {G : GG} {S : SM} (cx : CX p s m args c cX7_readAll RX7 4 G S A) (hlk : meth.locks = false) (hr : meth.sig.returnType = none) (N : Nat) (a_t a_t_score a_t_good a_t_bad a_t_open a_t_costs a_p1 a_p1_store : Nat) (p1_size : Int) (p1_store : Int → Int) (p1_store_n : Nat) (x2 : Int) (hn_p1_store : p1_store_n < 2147483648) (r : Int × Int × Int × Int × Int × Int × Int × Int × Int × Int × Int × (Int → Int) × (Int → Int) × (Int → Int) × (Int → Int) × (Int → Int)) (k11 : Int → Int → Int → Int → Int → Int → Int → Int → Int → Int → Int → (Int → Int) → (Int → Int) → (Int → Int) → (Int → Int) → (Int → Int) → Int → Option (Int × Int × Int × Int × Int × Int × Int × Int × Int × Int × Int × (Int → Int) × (Int → Int) × (Int → Int) × (Int → Int) × (Int → Int))) (hk11 : PL_X7_readAll_b11 p l e s m args below meth c A G S a_t a_t_score a_t_good a_t_bad a_t_open a_t_costs a_p1 a_p1_store p1_size p1_store p1_store_n x2 r k11) : ∀ (t_ats : Int) (t_lines : Int) (t_least : Int) (t_most : Int) (t_faultKind : Int) (t_faultPlace : Int) (t_toldLines : Int) (t_kind : Int) (t_start : Int) (t_next : Int) (t_number : Int) (t_score : Int → Int) (t_good : Int → Int) (t_bad : Int → Int) (t_open : Int → Int) (t_costs : Int → Int) (y3 : Int), m_X7_readAll_b51 N p1_size p1_store p1_store_n x2 k11 t_ats t_lines t_least t_most t_faultKind t_faultPlace t_toldLines t_kind t_start t_next t_number t_score t_good t_bad t_open t_costs y3 = some r → ∀ (H : Heap) (locs : List Loc) (ls : Array Slot), HP G A s.heap H locs [(a_t, .inr (6, [.ref a_t_score, .ref a_t_good, .ref a_t_bad, .ref a_t_open, .ref a_t_costs, .int (kI t_ats), .int (kI t_lines), .int (kI t_least), .int (kI t_most), .int (kI t_faultKind), .int (kI t_faultPlace), .int (kI t_toldLines), .int (kI t_kind), .int (kI t_start), .int (kI t_next), .int (kI t_number)])), (a_t_score, cAI G 60 t_score), (a_t_good, cAI G 60 t_good), (a_t_bad, cAI G 60 t_bad), (a_t_open, cAI G 60 t_open), (a_t_costs, cAI G 3 t_costs), (a_p1, .inr (1, [.ref a_p1_store, .int (kI p1_size)])), (a_p1_store, cAI G p1_store_n p1_store)] → lv_has ls 4 [(0, .ref a_t), (1, .ref a_p1), (2, .int (kI x2)), (3, .int (kI y3))] → W p l e (rmD 9 0 0) s m args below meth c H locs 0 0 (MQ below (QcV G A [(a_t, .inr (6, [.ref a_t_score, .ref a_t_good, .ref a_t_bad, .ref a_t_open, .ref a_t_costs, .int (kI r.1), .int (kI r.2.1), .int (kI r.2.2.1), .int (kI r.2.2.2.1), .int (kI r.2.2.2.2.1), .int (kI r.2.2.2.2.2.1), .int (kI r.2.2.2.2.2.2.1), .int (kI r.2.2.2.2.2.2.2.1), .int (kI r.2.2.2.2.2.2.2.2.1), .int (kI r.2.2.2.2.2.2.2.2.2.1), .int (kI r.2.2.2.2.2.2.2.2.2.2.1)])), (a_t_score, cAI G 60 r.2.2.2.2.2.2.2.2.2.2.2.1), (a_t_good, cAI G 60 r.2.2.2.2.2.2.2.2.2.2.2.2.1), (a_t_bad, cAI G 60 r.2.2.2.2.2.2.2.2.2.2.2.2.2.1), (a_t_open, cAI G 60 r.2.2.2.2.2.2.2.2.2.2.2.2.2.2.1), (a_t_costs, cAI G 3 r.2.2.2.2.2.2.2.2.2.2.2.2.2.2.2), (a_p1, .inr (1, [.ref a_p1_store, .int (kI p1_size)])), (a_p1_store, cAI G p1_store_n p1_store)]) args s (rmD 9 0 0).cells (rmD 9 0 0).slots A) (F0 m 51 ls []) := by
  intro t_ats t_lines t_least t_most t_faultKind t_faultPlace t_toldLines t_kind t_start t_next t_number t_score t_good t_bad t_open t_costs y3 h H locs ls hw hl
  rw [m_X7_readAll_b51] at h
  obtain ⟨⟨hx, hb, -, -, -⟩, -⟩ := id cx
  refine lv_aload_n hx hb dX7_readAll_51 rfl (lv_at hl 0 rfl) ?_
  refine lv_dup hx hb dX7_readAll_52 rfl ?_
  refine rf_get hx hb cx hw 0 rfl rfl 6 inX7 (by decide) fl_X7_52 rfl rfl dX7_readAll_53 ?_
  refine ri_iconst hx hb dX7_readAll_56 ?_
  refine ri_iadd hx hb dX7_readAll_57 ?_
  refine rf_put hx hb cx hw 0 rfl rfl 6 inX7 tyX7 tyX7_ok nmX7 (by decide) fl_X7_52 rfl rfl rfl rfl (Nat.le_of_ble_eq_true rfl) dX7_readAll_58 (fun H locs hw => ?_)
  have hw : HP G A s.heap H locs [(a_t, .inr (6, [.ref a_t_score, .ref a_t_good, .ref a_t_bad, .ref a_t_open, .ref a_t_costs, .int (kI t_ats), .int (kI (t_lines + 1)), .int (kI t_least), .int (kI t_most), .int (kI t_faultKind), .int (kI t_faultPlace), .int (kI t_toldLines), .int (kI t_kind), .int (kI t_start), .int (kI t_next), .int (kI t_number)])), (a_t_score, cAI G 60 t_score), (a_t_good, cAI G 60 t_good), (a_t_bad, cAI G 60 t_bad), (a_t_open, cAI G 60 t_open), (a_t_costs, cAI G 3 t_costs), (a_p1, .inr (1, [.ref a_p1_store, .int (kI p1_size)])), (a_p1_store, cAI G p1_store_n p1_store)] := hw
  refine lv_aload_n hx hb dX7_readAll_61 rfl (lv_at hl 0 rfl) ?_
  refine lv_aload_n hx hb dX7_readAll_62 rfl (lv_at hl 1 rfl) ?_
  obtain ⟨r1, h1, h⟩ := bd_some h
  refine rc_V (w2 := [(a_t, .inr (6, [.ref a_t_score, .ref a_t_good, .ref a_t_bad, .ref a_t_open, .ref a_t_costs, .int (kI t_ats), .int (kI (t_lines + 1)), .int (kI t_least), .int (kI t_most), .int (kI t_faultKind), .int (kI t_faultPlace), .int (kI t_toldLines), .int (kI r1.1), .int (kI r1.2.1), .int (kI r1.2.2.1), .int (kI r1.2.2.2)])), (a_t_score, cAI G 60 t_score), (a_t_good, cAI G 60 t_good), (a_t_bad, cAI G 60 t_bad), (a_t_open, cAI G 60 t_open), (a_t_costs, cAI G 3 t_costs), (a_p1, .inr (1, [.ref a_p1_store, .int (kI p1_size)])), (a_p1_store, cAI G p1_store_n p1_store)]) hw [0, 1, 2, 3, 4, 5, 6, 7] [] [0, 1, 2, 3, 4, 5, 6, 7] (rr_V cx hw (c_X7_step l G S H.size N a_t a_t_score a_t_good a_t_bad a_t_open a_t_costs a_p1 a_p1_store t_ats (t_lines + 1) t_least t_most t_faultKind t_faultPlace t_toldLines t_kind t_start t_next t_number t_score t_good t_bad t_open t_costs p1_size p1_store p1_store_n hn_p1_store _ h1) mv_X7_34 [0, 1, 2, 3, 4, 5, 6, 7] rfl rfl rfl 0 rfl rfl ⟨Nat.le_of_ble_eq_true rfl, Nat.le_of_ble_eq_true rfl⟩ rfl hl.1 rfl (Nat.le_of_ble_eq_true rfl) dX7_readAll_63 ⟨Nat.le_of_ble_eq_true rfl, Nat.le_of_ble_eq_true rfl⟩) rfl rfl rfl rfl rfl rfl rfl rfl (fun H locs hw => ?_)
  refine lv_iinc (v := kI (y3 + 1)) (lv' := [(3, .int (kI (y3 + 1))), (0, .ref a_t), (1, .ref a_p1), (2, .int (kI x2))]) hx hb dX7_readAll_66 hl (k := 3) rfl (kI_add _ _) (by decide) rfl (fun ls hl => ?_)
  refine lv_goto (tgt := 11) hx hb dX7_readAll_69 (by decide) ?_
  exact hk11 t_ats (t_lines + 1) t_least t_most t_faultKind t_faultPlace t_toldLines r1.1 r1.2.1 r1.2.2.1 r1.2.2.2 t_score t_good t_bad t_open t_costs (y3 + 1) h _ _ _ hw (lv_sub hl [1, 2, 3, 0] rfl)
set_option maxHeartbeats 4000000 in
set_option maxRecDepth 100000 in
theorem w_X7_readAll_b11 {p : Program} {l : Launch} {e : Env} {s : State} {m : MethodId} {args : Array Value} {below : List Frame} {meth : Method} {c : Code} {A : Nat → Prop} {G : GG} {S : SM} (cx : CX p s m args c cX7_readAll RX7 4 G S A) (hlk : meth.locks = false) (hr : meth.sig.returnType = none) (N : Nat) (a_t a_t_score a_t_good a_t_bad a_t_open a_t_costs a_p1 a_p1_store : Nat) (p1_size : Int) (p1_store : Int → Int) (p1_store_n : Nat) (x2 : Int) (hn_p1_store : p1_store_n < 2147483648) (r : Int × Int × Int × Int × Int × Int × Int × Int × Int × Int × Int × (Int → Int) × (Int → Int) × (Int → Int) × (Int → Int) × (Int → Int)) : ∀ n : Nat, PL_X7_readAll_b11 p l e s m args below meth c A G S a_t a_t_score a_t_good a_t_bad a_t_open a_t_costs a_p1 a_p1_store p1_size p1_store p1_store_n x2 r (m_X7_readAll_b11 N p1_size p1_store p1_store_n x2 n) := by
  intro n
  induction n with
  | zero => intro t_ats t_lines t_least t_most t_faultKind t_faultPlace t_toldLines t_kind t_start t_next t_number t_score t_good t_bad t_open t_costs y3 h; exact nomatch h
  | succ n ih =>
    intro t_ats t_lines t_least t_most t_faultKind t_faultPlace t_toldLines t_kind t_start t_next t_number t_score t_good t_bad t_open t_costs y3 h H locs ls hw hl
    rw [m_X7_readAll_b11] at h
    obtain ⟨⟨hx, hb, -, -, -⟩, -⟩ := id cx
    refine lv_iload_n hx hb dX7_readAll_11 rfl (lv_at hl 3 rfl) ?_
    refine ri_sipush hx hb dX7_readAll_12 rfl ?_
    obtain ⟨g1, h⟩ := gd_some h
    refine ri_icmp_gt (tgt := 72) hx hb g1 ⟨by decide, by decide⟩ dX7_readAll_15 (by decide) (fun c2 => ?_) (fun c2 => ?_)
    · have h := it_pos c2 h
      obtain rfl := so_inj h
      exact re_v hx hb hlk hr cx hw (Nat.le_of_ble_eq_true rfl) (Nat.le_of_ble_eq_true rfl) dX7_readAll_72
    · have h := it_neg c2 h
      refine lv_aload_n hx hb dX7_readAll_18 rfl (lv_at hl 0 rfl) ?_
      refine rf_get hx hb cx hw 0 rfl rfl 9 inX7 (by decide) fl_X7_38 rfl rfl dX7_readAll_19 ?_
      obtain ⟨g3, h⟩ := gd_some h
      refine ri_if_ne (tgt := 72) hx hb g3 dX7_readAll_22 (by decide) (fun c4 => ?_) (fun c4 => ?_)
      · have h := it_pos c4 h
        refine lv_aload_n hx hb dX7_readAll_25 rfl (lv_at hl 0 rfl) ?_
        refine rf_get hx hb cx hw 0 rfl rfl 12 inX7 (by decide) fl_X7_41 rfl rfl dX7_readAll_26 ?_
        obtain ⟨g5, h⟩ := gd_some h
        refine ri_if_eq (tgt := 72) hx hb g5 dX7_readAll_29 (by decide) (fun c6 => ?_) (fun c6 => ?_)
        · have h := it_pos c6 h
          obtain rfl := so_inj h
          exact re_v hx hb hlk hr cx hw (Nat.le_of_ble_eq_true rfl) (Nat.le_of_ble_eq_true rfl) dX7_readAll_72
        · have h := it_neg c6 h
          refine lv_aload_n hx hb dX7_readAll_32 rfl (lv_at hl 0 rfl) ?_
          refine lv_aload_n hx hb dX7_readAll_33 rfl (lv_at hl 1 rfl) ?_
          refine lv_iload_n hx hb dX7_readAll_34 rfl (lv_at hl 2 rfl) ?_
          obtain ⟨r7, h7, h⟩ := bd_some h
          refine rc_V (w2 := [(a_t, .inr (6, [.ref a_t_score, .ref a_t_good, .ref a_t_bad, .ref a_t_open, .ref a_t_costs, .int (kI r7.1), .int (kI t_lines), .int (kI r7.2.1), .int (kI r7.2.2.1), .int (kI r7.2.2.2.1), .int (kI r7.2.2.2.2.1), .int (kI r7.2.2.2.2.2.1), .int (kI r7.2.2.2.2.2.2.1), .int (kI r7.2.2.2.2.2.2.2.1), .int (kI r7.2.2.2.2.2.2.2.2.1), .int (kI r7.2.2.2.2.2.2.2.2.2.1)])), (a_t_score, cAI G 60 r7.2.2.2.2.2.2.2.2.2.2.1), (a_t_good, cAI G 60 r7.2.2.2.2.2.2.2.2.2.2.2.1), (a_t_bad, cAI G 60 r7.2.2.2.2.2.2.2.2.2.2.2.2.1), (a_t_open, cAI G 60 r7.2.2.2.2.2.2.2.2.2.2.2.2.2.1), (a_t_costs, cAI G 3 r7.2.2.2.2.2.2.2.2.2.2.2.2.2.2), (a_p1, .inr (1, [.ref a_p1_store, .int (kI p1_size)])), (a_p1_store, cAI G p1_store_n p1_store)]) hw [0, 1, 2, 3, 4, 5, 6, 7] [] [0, 1, 2, 3, 4, 5, 6, 7] (rr_V cx hw (c_X7_readLine l G S H.size N a_t a_t_score a_t_good a_t_bad a_t_open a_t_costs a_p1 a_p1_store t_ats t_lines t_least t_most t_faultKind t_faultPlace t_toldLines t_kind t_start t_next t_number t_score t_good t_bad t_open t_costs p1_size p1_store p1_store_n x2 hn_p1_store _ h7) mv_X7_44 [0, 1, 2, 3, 4, 5, 6, 7] rfl rfl rfl 0 rfl rfl ⟨Nat.le_of_ble_eq_true rfl, Nat.le_of_ble_eq_true rfl⟩ rfl hl.1 rfl (Nat.le_of_ble_eq_true rfl) dX7_readAll_35 ⟨Nat.le_of_ble_eq_true rfl, Nat.le_of_ble_eq_true rfl⟩) rfl rfl rfl rfl rfl rfl rfl rfl (fun H locs hw => ?_)
          refine lv_aload_n hx hb dX7_readAll_38 rfl (lv_at hl 0 rfl) ?_
          refine rf_get hx hb cx hw 0 rfl rfl 12 inX7 (by decide) fl_X7_41 rfl rfl dX7_readAll_39 ?_
          refine ri_iconst hx hb dX7_readAll_42 ?_
          obtain ⟨g8, h⟩ := gd_some h
          refine ri_icmp_eq (tgt := 51) hx hb g8 ⟨by decide, by decide⟩ dX7_readAll_43 (by decide) (fun c9 => ?_) (fun c9 => ?_)
          · have h := it_pos c9 h
            exact w_X7_readAll_b51 cx hlk hr N a_t a_t_score a_t_good a_t_bad a_t_open a_t_costs a_p1 a_p1_store p1_size p1_store p1_store_n x2 hn_p1_store r (m_X7_readAll_b11 N p1_size p1_store p1_store_n x2 n) ih r7.1 t_lines r7.2.1 r7.2.2.1 r7.2.2.2.1 r7.2.2.2.2.1 r7.2.2.2.2.2.1 r7.2.2.2.2.2.2.1 r7.2.2.2.2.2.2.2.1 r7.2.2.2.2.2.2.2.2.1 r7.2.2.2.2.2.2.2.2.2.1 r7.2.2.2.2.2.2.2.2.2.2.1 r7.2.2.2.2.2.2.2.2.2.2.2.1 r7.2.2.2.2.2.2.2.2.2.2.2.2.1 r7.2.2.2.2.2.2.2.2.2.2.2.2.2.1 r7.2.2.2.2.2.2.2.2.2.2.2.2.2.2 y3 h _ _ _ hw (lv_sub hl [0, 1, 2, 3] rfl)
          · have h := it_neg c9 h
            refine lv_aload_n hx hb dX7_readAll_46 rfl (lv_at hl 0 rfl) ?_
            refine ri_iconst hx hb dX7_readAll_47 ?_
            obtain ⟨r10, h10, h⟩ := bd_some h
            refine rc_V (w2 := [(a_t, .inr (6, [.ref a_t_score, .ref a_t_good, .ref a_t_bad, .ref a_t_open, .ref a_t_costs, .int (kI r7.1), .int (kI t_lines), .int (kI r7.2.1), .int (kI r7.2.2.1), .int (kI r10.1), .int (kI r10.2), .int (kI r7.2.2.2.2.2.1), .int (kI r7.2.2.2.2.2.2.1), .int (kI r7.2.2.2.2.2.2.2.1), .int (kI r7.2.2.2.2.2.2.2.2.1), .int (kI r7.2.2.2.2.2.2.2.2.2.1)])), (a_t_score, cAI G 60 r7.2.2.2.2.2.2.2.2.2.2.1), (a_t_good, cAI G 60 r7.2.2.2.2.2.2.2.2.2.2.2.1), (a_t_bad, cAI G 60 r7.2.2.2.2.2.2.2.2.2.2.2.2.1), (a_t_open, cAI G 60 r7.2.2.2.2.2.2.2.2.2.2.2.2.2.1), (a_t_costs, cAI G 3 r7.2.2.2.2.2.2.2.2.2.2.2.2.2.2), (a_p1, .inr (1, [.ref a_p1_store, .int (kI p1_size)])), (a_p1_store, cAI G p1_store_n p1_store)]) hw [0, 1, 2, 3, 4, 5] [6, 7] [2, 3, 4, 5, 6, 7, 0, 1] (rr_V cx hw (c_X7_fail l G S H.size N a_t a_t_score a_t_good a_t_bad a_t_open a_t_costs r7.1 t_lines r7.2.1 r7.2.2.1 r7.2.2.2.1 r7.2.2.2.2.1 r7.2.2.2.2.2.1 r7.2.2.2.2.2.2.1 r7.2.2.2.2.2.2.2.1 r7.2.2.2.2.2.2.2.2.1 r7.2.2.2.2.2.2.2.2.2.1 r7.2.2.2.2.2.2.2.2.2.2.1 r7.2.2.2.2.2.2.2.2.2.2.2.1 r7.2.2.2.2.2.2.2.2.2.2.2.2.1 r7.2.2.2.2.2.2.2.2.2.2.2.2.2.1 r7.2.2.2.2.2.2.2.2.2.2.2.2.2.2 1 _ h10) mv_X7_48 [0, 1, 2, 3, 4, 5] rfl rfl rfl 0 rfl rfl ⟨Nat.le_of_ble_eq_true rfl, Nat.le_of_ble_eq_true rfl⟩ rfl hl.1 rfl (Nat.le_of_ble_eq_true rfl) dX7_readAll_48 ⟨Nat.le_of_ble_eq_true rfl, Nat.le_of_ble_eq_true rfl⟩) rfl rfl rfl rfl rfl rfl rfl rfl (fun H locs hw => ?_)
            exact w_X7_readAll_b51 cx hlk hr N a_t a_t_score a_t_good a_t_bad a_t_open a_t_costs a_p1 a_p1_store p1_size p1_store p1_store_n x2 hn_p1_store r (m_X7_readAll_b11 N p1_size p1_store p1_store_n x2 n) ih r7.1 t_lines r7.2.1 r7.2.2.1 r10.1 r10.2 r7.2.2.2.2.2.1 r7.2.2.2.2.2.2.1 r7.2.2.2.2.2.2.2.1 r7.2.2.2.2.2.2.2.2.1 r7.2.2.2.2.2.2.2.2.2.1 r7.2.2.2.2.2.2.2.2.2.2.1 r7.2.2.2.2.2.2.2.2.2.2.2.1 r7.2.2.2.2.2.2.2.2.2.2.2.2.1 r7.2.2.2.2.2.2.2.2.2.2.2.2.2.1 r7.2.2.2.2.2.2.2.2.2.2.2.2.2.2 y3 h _ _ _ hw (lv_sub hl [0, 1, 2, 3] rfl)
      · have h := it_neg c4 h
        obtain rfl := so_inj h
        exact re_v hx hb hlk hr cx hw (Nat.le_of_ble_eq_true rfl) (Nat.le_of_ble_eq_true rfl) dX7_readAll_72
set_option maxHeartbeats 4000000 in
set_option maxRecDepth 100000 in
theorem c_X7_readAll (l : Launch) (G : GG) (S : SM) (sz : Nat) (N : Nat) (a_t a_t_score a_t_good a_t_bad a_t_open a_t_costs a_p1 a_p1_store : Nat) (t_ats : Int) (t_lines : Int) (t_least : Int) (t_most : Int) (t_faultKind : Int) (t_faultPlace : Int) (t_toldLines : Int) (t_kind : Int) (t_start : Int) (t_next : Int) (t_number : Int) (t_score : Int → Int) (t_good : Int → Int) (t_bad : Int → Int) (t_open : Int → Int) (t_costs : Int → Int) (p1_size : Int) (p1_store : Int → Int) (p1_store_n : Nat) (x2 : Int) (hn_p1_store : p1_store_n < 2147483648) (r : Int × Int × Int × Int × Int × Int × Int × Int × Int × Int × Int × (Int → Int) × (Int → Int) × (Int → Int) × (Int → Int) × (Int → Int)) (h : m_X7_readAll N p1_size p1_store p1_store_n t_ats t_lines t_least t_most t_faultKind t_faultPlace t_toldLines t_kind t_start t_next t_number t_score t_good t_bad t_open t_costs x2 = some r) : CtV l yX7_readAll cX7_readAll 4 (rmD 9 0 0) G S sz [.ref a_t, .ref a_p1, .int (kI x2)] [(a_t, .inr (6, [.ref a_t_score, .ref a_t_good, .ref a_t_bad, .ref a_t_open, .ref a_t_costs, .int (kI t_ats), .int (kI t_lines), .int (kI t_least), .int (kI t_most), .int (kI t_faultKind), .int (kI t_faultPlace), .int (kI t_toldLines), .int (kI t_kind), .int (kI t_start), .int (kI t_next), .int (kI t_number)])), (a_t_score, cAI G 60 t_score), (a_t_good, cAI G 60 t_good), (a_t_bad, cAI G 60 t_bad), (a_t_open, cAI G 60 t_open), (a_t_costs, cAI G 3 t_costs), (a_p1, .inr (1, [.ref a_p1_store, .int (kI p1_size)])), (a_p1_store, cAI G p1_store_n p1_store)] [(a_t, .inr (6, [.ref a_t_score, .ref a_t_good, .ref a_t_bad, .ref a_t_open, .ref a_t_costs, .int (kI r.1), .int (kI r.2.1), .int (kI r.2.2.1), .int (kI r.2.2.2.1), .int (kI r.2.2.2.2.1), .int (kI r.2.2.2.2.2.1), .int (kI r.2.2.2.2.2.2.1), .int (kI r.2.2.2.2.2.2.2.1), .int (kI r.2.2.2.2.2.2.2.2.1), .int (kI r.2.2.2.2.2.2.2.2.2.1), .int (kI r.2.2.2.2.2.2.2.2.2.2.1)])), (a_t_score, cAI G 60 r.2.2.2.2.2.2.2.2.2.2.2.1), (a_t_good, cAI G 60 r.2.2.2.2.2.2.2.2.2.2.2.2.1), (a_t_bad, cAI G 60 r.2.2.2.2.2.2.2.2.2.2.2.2.2.1), (a_t_open, cAI G 60 r.2.2.2.2.2.2.2.2.2.2.2.2.2.2.1), (a_t_costs, cAI G 3 r.2.2.2.2.2.2.2.2.2.2.2.2.2.2.2), (a_p1, .inr (1, [.ref a_p1_store, .int (kI p1_size)])), (a_p1_store, cAI G p1_store_n p1_store)] := by
  refine met_V (by decide +kernel) (Nat.le_of_ble_eq_true rfl) ?_
  intro p e s m args below meth c A H locs ls cx hw hr hlk hnm hl
  have hl : lv_has ls 4 [(0, .ref a_t), (1, .ref a_p1), (2, .int (kI x2))] := hl
  rw [m_X7_readAll] at h
  obtain ⟨⟨hx, hb, -, -, -⟩, -⟩ := id cx
  refine lv_aload_n hx hb dX7_readAll_0 rfl (lv_at hl 0 rfl) ?_
  obtain ⟨r1, h1, h⟩ := bd_some h
  refine rc_V (w2 := [(a_t, .inr (6, [.ref a_t_score, .ref a_t_good, .ref a_t_bad, .ref a_t_open, .ref a_t_costs, .int (kI r1.1), .int (kI r1.2.1), .int (kI r1.2.2.1), .int (kI r1.2.2.2.1), .int (kI r1.2.2.2.2.1), .int (kI r1.2.2.2.2.2.1), .int (kI r1.2.2.2.2.2.2.1), .int (kI t_kind), .int (kI t_start), .int (kI r1.2.2.2.2.2.2.2.1), .int (kI t_number)])), (a_t_score, cAI G 60 t_score), (a_t_good, cAI G 60 t_good), (a_t_bad, cAI G 60 t_bad), (a_t_open, cAI G 60 t_open), (a_t_costs, cAI G 3 r1.2.2.2.2.2.2.2.2), (a_p1, .inr (1, [.ref a_p1_store, .int (kI p1_size)])), (a_p1_store, cAI G p1_store_n p1_store)]) hw [0, 1, 2, 3, 4, 5] [6, 7] [2, 3, 4, 5, 6, 7, 0, 1] (rr_V cx hw (c_X7_begin l G S H.size N a_t a_t_score a_t_good a_t_bad a_t_open a_t_costs t_ats t_lines t_least t_most t_faultKind t_faultPlace t_toldLines t_kind t_start t_next t_number t_score t_good t_bad t_open t_costs _ h1) mv_X7_31 [0, 1, 2, 3, 4, 5] rfl rfl rfl 0 rfl rfl ⟨Nat.le_of_ble_eq_true rfl, Nat.le_of_ble_eq_true rfl⟩ rfl hl.1 rfl (Nat.le_of_ble_eq_true rfl) dX7_readAll_1 ⟨Nat.le_of_ble_eq_true rfl, Nat.le_of_ble_eq_true rfl⟩) rfl rfl rfl rfl rfl rfl rfl rfl (fun H locs hw => ?_)
  refine lv_aload_n hx hb dX7_readAll_4 rfl (lv_at hl 0 rfl) ?_
  refine lv_aload_n hx hb dX7_readAll_5 rfl (lv_at hl 1 rfl) ?_
  obtain ⟨r2, h2, h⟩ := bd_some h
  refine rc_V (w2 := [(a_t, .inr (6, [.ref a_t_score, .ref a_t_good, .ref a_t_bad, .ref a_t_open, .ref a_t_costs, .int (kI r1.1), .int (kI r1.2.1), .int (kI r1.2.2.1), .int (kI r1.2.2.2.1), .int (kI r1.2.2.2.2.1), .int (kI r1.2.2.2.2.2.1), .int (kI r1.2.2.2.2.2.2.1), .int (kI r2.1), .int (kI r2.2.1), .int (kI r2.2.2.1), .int (kI r2.2.2.2)])), (a_t_score, cAI G 60 t_score), (a_t_good, cAI G 60 t_good), (a_t_bad, cAI G 60 t_bad), (a_t_open, cAI G 60 t_open), (a_t_costs, cAI G 3 r1.2.2.2.2.2.2.2.2), (a_p1, .inr (1, [.ref a_p1_store, .int (kI p1_size)])), (a_p1_store, cAI G p1_store_n p1_store)]) hw [0, 1, 2, 3, 4, 5, 6, 7] [] [0, 1, 2, 3, 4, 5, 6, 7] (rr_V cx hw (c_X7_step l G S H.size N a_t a_t_score a_t_good a_t_bad a_t_open a_t_costs a_p1 a_p1_store r1.1 r1.2.1 r1.2.2.1 r1.2.2.2.1 r1.2.2.2.2.1 r1.2.2.2.2.2.1 r1.2.2.2.2.2.2.1 t_kind t_start r1.2.2.2.2.2.2.2.1 t_number t_score t_good t_bad t_open r1.2.2.2.2.2.2.2.2 p1_size p1_store p1_store_n hn_p1_store _ h2) mv_X7_34 [0, 1, 2, 3, 4, 5, 6, 7] rfl rfl rfl 0 rfl rfl ⟨Nat.le_of_ble_eq_true rfl, Nat.le_of_ble_eq_true rfl⟩ rfl hl.1 rfl (Nat.le_of_ble_eq_true rfl) dX7_readAll_6 ⟨Nat.le_of_ble_eq_true rfl, Nat.le_of_ble_eq_true rfl⟩) rfl rfl rfl rfl rfl rfl rfl rfl (fun H locs hw => ?_)
  refine ri_iconst hx hb dX7_readAll_9 ?_
  refine lv_istore_n (lv' := [(3, .int (kI 0)), (0, .ref a_t), (1, .ref a_p1), (2, .int (kI x2))]) hx hb dX7_readAll_10 rfl hl (by decide) rfl (fun ls hl => ?_)
  exact w_X7_readAll_b11 cx hlk hr N a_t a_t_score a_t_good a_t_bad a_t_open a_t_costs a_p1 a_p1_store p1_size p1_store p1_store_n x2 hn_p1_store r N r1.1 r1.2.1 r1.2.2.1 r1.2.2.2.1 r1.2.2.2.2.1 r1.2.2.2.2.2.1 r1.2.2.2.2.2.2.1 r2.1 r2.2.1 r2.2.2.1 r2.2.2.2 t_score t_good t_bad t_open r1.2.2.2.2.2.2.2.2 0 h _ _ _ hw (lv_sub hl [1, 2, 3, 0] rfl)
set_option maxHeartbeats 4000000 in
set_option maxRecDepth 100000 in
theorem c_X8_init (l : Launch) (G : GG) (S : SM) (sz : Nat) (N : Nat) (a_t : Nat)   (r : Int × (Int → Int) × (Int → Int) × (Int → Int) × (Int → Int) × (Int → Int)) (h : m_X8_init N = some r) : CtVx l yX8_init cX8_init 1 (rmD 1 5 302) G S sz [.ref a_t] [(a_t, .inr (7, [.null, .null, .null, .null, .null, .int (kI 0)]))] (fun u => [(a_t, .inr (7, [.ref (u 0), .ref (u 1), .ref (u 2), .ref (u 3), .ref (u 4), .int (kI r.1)])), ((u 0), cAI G 60 r.2.1), ((u 1), cAI G 60 r.2.2.1), ((u 2), cAI G 60 r.2.2.2.1), ((u 3), cAI G 61 r.2.2.2.2.1), ((u 4), cAI G 61 r.2.2.2.2.2)]) := by
  refine met_Vx (by decide +kernel) (Nat.le_of_ble_eq_true rfl) ?_
  intro p e s m args below meth c A H locs ls cx hw hr hlk hnm hl
  have hl : lv_has ls 1 [(0, .ref a_t)] := hl
  rw [m_X8_init] at h
  obtain ⟨⟨hx, hb, -, -, -⟩, -⟩ := id cx
  refine lv_aload_n hx hb dX8_init_0 rfl (lv_at hl 0 rfl) ?_
  refine ro_init hx hb cx hl.1 jl_X8_3 (Nat.le_of_ble_eq_true rfl) (Nat.le_of_ble_eq_true rfl) dX8_init_1 ?_
  refine lv_aload_n hx hb dX8_init_4 rfl (lv_at hl 0 rfl) ?_
  refine ri_bipush hx hb dX8_init_5 rfl ?_
  refine ra_newI hx hb cx hw ⟨by decide, by decide⟩ (Nat.le_of_ble_eq_true rfl) (Nat.le_of_ble_eq_true rfl) dX8_init_7 (fun q7 H hw => ?_)
  have hw : HP G A s.heap H locs [(a_t, .inr (7, [.null, .null, .null, .null, .null, .int (kI 0)])), (q7, cAI G 60 (fun _ => 0))] := hw
  refine W.widen (k := 1) (n := 60) (Nat.le_of_ble_eq_true rfl) (Nat.le_of_ble_eq_true rfl) ?_
  refine rf_putF hx hb cx hw 0 rfl rfl 0 inX8 tyX8 tyX8_ok nmX8 (by decide) fl_X8_9 rfl rfl hnm rfl rfl (Nat.le_of_ble_eq_true rfl) dX8_init_9 (fun H locs hw => ?_)
  have hw : HP G A s.heap H locs [(a_t, .inr (7, [.ref q7, .null, .null, .null, .null, .int (kI 0)])), (q7, cAI G 60 (fun _ => 0))] := hw
  refine lv_aload_n hx hb dX8_init_12 rfl (lv_at hl 0 rfl) ?_
  refine ri_bipush hx hb dX8_init_13 rfl ?_
  refine ra_newI hx hb cx hw ⟨by decide, by decide⟩ (Nat.le_of_ble_eq_true rfl) (Nat.le_of_ble_eq_true rfl) dX8_init_15 (fun q15 H hw => ?_)
  have hw : HP G A s.heap H locs [(a_t, .inr (7, [.ref q7, .null, .null, .null, .null, .int (kI 0)])), (q7, cAI G 60 (fun _ => 0)), (q15, cAI G 60 (fun _ => 0))] := hw
  refine W.widen (k := 2) (n := 120) (Nat.le_of_ble_eq_true rfl) (Nat.le_of_ble_eq_true rfl) ?_
  refine rf_putF hx hb cx hw 0 rfl rfl 1 inX8 tyX8 tyX8_ok nmX8 (by decide) fl_X8_15 rfl rfl hnm rfl rfl (Nat.le_of_ble_eq_true rfl) dX8_init_17 (fun H locs hw => ?_)
  have hw : HP G A s.heap H locs [(a_t, .inr (7, [.ref q7, .ref q15, .null, .null, .null, .int (kI 0)])), (q7, cAI G 60 (fun _ => 0)), (q15, cAI G 60 (fun _ => 0))] := hw
  refine lv_aload_n hx hb dX8_init_20 rfl (lv_at hl 0 rfl) ?_
  refine ri_bipush hx hb dX8_init_21 rfl ?_
  refine ra_newI hx hb cx hw ⟨by decide, by decide⟩ (Nat.le_of_ble_eq_true rfl) (Nat.le_of_ble_eq_true rfl) dX8_init_23 (fun q23 H hw => ?_)
  have hw : HP G A s.heap H locs [(a_t, .inr (7, [.ref q7, .ref q15, .null, .null, .null, .int (kI 0)])), (q7, cAI G 60 (fun _ => 0)), (q15, cAI G 60 (fun _ => 0)), (q23, cAI G 60 (fun _ => 0))] := hw
  refine W.widen (k := 3) (n := 180) (Nat.le_of_ble_eq_true rfl) (Nat.le_of_ble_eq_true rfl) ?_
  refine rf_putF hx hb cx hw 0 rfl rfl 2 inX8 tyX8 tyX8_ok nmX8 (by decide) fl_X8_18 rfl rfl hnm rfl rfl (Nat.le_of_ble_eq_true rfl) dX8_init_25 (fun H locs hw => ?_)
  have hw : HP G A s.heap H locs [(a_t, .inr (7, [.ref q7, .ref q15, .ref q23, .null, .null, .int (kI 0)])), (q7, cAI G 60 (fun _ => 0)), (q15, cAI G 60 (fun _ => 0)), (q23, cAI G 60 (fun _ => 0))] := hw
  refine lv_aload_n hx hb dX8_init_28 rfl (lv_at hl 0 rfl) ?_
  refine ri_bipush hx hb dX8_init_29 rfl ?_
  refine ra_newI hx hb cx hw ⟨by decide, by decide⟩ (Nat.le_of_ble_eq_true rfl) (Nat.le_of_ble_eq_true rfl) dX8_init_31 (fun q31 H hw => ?_)
  have hw : HP G A s.heap H locs [(a_t, .inr (7, [.ref q7, .ref q15, .ref q23, .null, .null, .int (kI 0)])), (q7, cAI G 60 (fun _ => 0)), (q15, cAI G 60 (fun _ => 0)), (q23, cAI G 60 (fun _ => 0)), (q31, cAI G 61 (fun _ => 0))] := hw
  refine W.widen (k := 4) (n := 241) (Nat.le_of_ble_eq_true rfl) (Nat.le_of_ble_eq_true rfl) ?_
  refine rf_putF hx hb cx hw 0 rfl rfl 3 inX8 tyX8 tyX8_ok nmX8 (by decide) fl_X8_21 rfl rfl hnm rfl rfl (Nat.le_of_ble_eq_true rfl) dX8_init_33 (fun H locs hw => ?_)
  have hw : HP G A s.heap H locs [(a_t, .inr (7, [.ref q7, .ref q15, .ref q23, .ref q31, .null, .int (kI 0)])), (q7, cAI G 60 (fun _ => 0)), (q15, cAI G 60 (fun _ => 0)), (q23, cAI G 60 (fun _ => 0)), (q31, cAI G 61 (fun _ => 0))] := hw
  refine lv_aload_n hx hb dX8_init_36 rfl (lv_at hl 0 rfl) ?_
  refine ri_bipush hx hb dX8_init_37 rfl ?_
  refine ra_newI hx hb cx hw ⟨by decide, by decide⟩ (Nat.le_of_ble_eq_true rfl) (Nat.le_of_ble_eq_true rfl) dX8_init_39 (fun q39 H hw => ?_)
  have hw : HP G A s.heap H locs [(a_t, .inr (7, [.ref q7, .ref q15, .ref q23, .ref q31, .null, .int (kI 0)])), (q7, cAI G 60 (fun _ => 0)), (q15, cAI G 60 (fun _ => 0)), (q23, cAI G 60 (fun _ => 0)), (q31, cAI G 61 (fun _ => 0)), (q39, cAI G 61 (fun _ => 0))] := hw
  refine W.widen (k := 5) (n := 302) (Nat.le_of_ble_eq_true rfl) (Nat.le_of_ble_eq_true rfl) ?_
  refine rf_putF hx hb cx hw 0 rfl rfl 4 inX8 tyX8 tyX8_ok nmX8 (by decide) fl_X8_24 rfl rfl hnm rfl rfl (Nat.le_of_ble_eq_true rfl) dX8_init_41 (fun H locs hw => ?_)
  have hw : HP G A s.heap H locs [(a_t, .inr (7, [.ref q7, .ref q15, .ref q23, .ref q31, .ref q39, .int (kI 0)])), (q7, cAI G 60 (fun _ => 0)), (q15, cAI G 60 (fun _ => 0)), (q23, cAI G 60 (fun _ => 0)), (q31, cAI G 61 (fun _ => 0)), (q39, cAI G 61 (fun _ => 0))] := hw
  obtain rfl := so_inj h
  exact re_vx (fun i => [q7, q15, q23, q31, q39].getD i 0) hx hb hlk hr cx (HP.re hw [0, 1, 2, 3, 4, 5] rfl rfl rfl) (Nat.le_of_ble_eq_true rfl) (Nat.le_of_ble_eq_true rfl) dX8_init_44
def PL_X8_sumUp_b2 (p : Program) (l : Launch) (e : Env) (s : State) (m : MethodId) (args : Array Value) (below : List Frame) (meth : Method) (c : Code) (A : Nat → Prop) (G : GG) (S : SM) (a_t a_t_score a_t_good a_t_bad a_t_goodAhead a_t_badAhead : Nat) (t_size : Int) (t_score : Int → Int) (t_good : Int → Int) (t_bad : Int → Int) (r : (Int → Int) × (Int → Int)) (kk : (Int → Int) → (Int → Int) → Int → Option ((Int → Int) × (Int → Int))) : Prop := ∀ (t_goodAhead : Int → Int) (t_badAhead : Int → Int) (y1 : Int), kk t_goodAhead t_badAhead y1 = some r → ∀ (H : Heap) (locs : List Loc) (ls : Array Slot), HP G A s.heap H locs [(a_t, .inr (7, [.ref a_t_score, .ref a_t_good, .ref a_t_bad, .ref a_t_goodAhead, .ref a_t_badAhead, .int (kI t_size)])), (a_t_score, cAI G 60 t_score), (a_t_good, cAI G 60 t_good), (a_t_bad, cAI G 60 t_bad), (a_t_goodAhead, cAI G 61 t_goodAhead), (a_t_badAhead, cAI G 61 t_badAhead)] → lv_has ls 2 [(0, .ref a_t), (1, .int (kI y1))] → W p l e (rmD 1 0 0) s m args below meth c H locs 0 0 (MQ below (QcV G A [(a_t, .inr (7, [.ref a_t_score, .ref a_t_good, .ref a_t_bad, .ref a_t_goodAhead, .ref a_t_badAhead, .int (kI t_size)])), (a_t_score, cAI G 60 t_score), (a_t_good, cAI G 60 t_good), (a_t_bad, cAI G 60 t_bad), (a_t_goodAhead, cAI G 61 r.1), (a_t_badAhead, cAI G 61 r.2)]) args s (rmD 1 0 0).cells (rmD 1 0 0).slots A) (F0 m 2 ls [])
set_option maxHeartbeats 4000000 in
set_option maxRecDepth 100000 in
theorem w_X8_sumUp_b2 {p : Program} {l : Launch} {e : Env} {s : State} {m : MethodId} {args : Array Value} {below : List Frame} {meth : Method} {c : Code} {A : Nat → Prop} {G : GG} {S : SM} (cx : CX p s m args c cX8_sumUp RX8 2 G S A) (hlk : meth.locks = false) (hr : meth.sig.returnType = none) (N : Nat) (a_t a_t_score a_t_good a_t_bad a_t_goodAhead a_t_badAhead : Nat) (t_size : Int) (t_score : Int → Int) (t_good : Int → Int) (t_bad : Int → Int) (r : (Int → Int) × (Int → Int)) : ∀ n : Nat, PL_X8_sumUp_b2 p l e s m args below meth c A G S a_t a_t_score a_t_good a_t_bad a_t_goodAhead a_t_badAhead t_size t_score t_good t_bad r (m_X8_sumUp_b2 N t_size t_good t_bad n) := by
  intro n
  induction n with
  | zero => intro t_goodAhead t_badAhead y1 h; exact nomatch h
  | succ n ih =>
    intro t_goodAhead t_badAhead y1 h H locs ls hw hl
    rw [m_X8_sumUp_b2] at h
    obtain ⟨⟨hx, hb, -, -, -⟩, -⟩ := id cx
    refine lv_iload_n hx hb dX8_sumUp_2 rfl (lv_at hl 1 rfl) ?_
    refine lv_aload_n hx hb dX8_sumUp_3 rfl (lv_at hl 0 rfl) ?_
    refine rf_get hx hb cx hw 0 rfl rfl 5 inX8 (by decide) fl_X8_27 rfl rfl dX8_sumUp_4 ?_
    obtain ⟨g1, h⟩ := gd_some h
    obtain ⟨g2, h⟩ := gd_some h
    refine ri_icmp_ge (tgt := 58) hx hb g1 g2 dX8_sumUp_7 (by decide) (fun c3 => ?_) (fun c3 => ?_)
    · have h := it_pos c3 h
      obtain rfl := so_inj h
      exact re_v hx hb hlk hr cx hw (Nat.le_of_ble_eq_true rfl) (Nat.le_of_ble_eq_true rfl) dX8_sumUp_58
    · have h := it_neg c3 h
      refine lv_aload_n hx hb dX8_sumUp_10 rfl (lv_at hl 0 rfl) ?_
      refine rf_get hx hb cx hw 0 rfl rfl 3 inX8 (by decide) fl_X8_21 rfl rfl dX8_sumUp_11 ?_
      refine lv_iload_n hx hb dX8_sumUp_14 rfl (lv_at hl 1 rfl) ?_
      refine ri_iconst hx hb dX8_sumUp_15 ?_
      refine ri_iadd hx hb dX8_sumUp_16 ?_
      refine lv_aload_n hx hb dX8_sumUp_17 rfl (lv_at hl 0 rfl) ?_
      refine rf_get hx hb cx hw 0 rfl rfl 3 inX8 (by decide) fl_X8_21 rfl rfl dX8_sumUp_18 ?_
      refine lv_iload_n hx hb dX8_sumUp_21 rfl (lv_at hl 1 rfl) ?_
      obtain ⟨g4, h⟩ := gd_some h
      refine ra_i hx hb cx hw 4 rfl (by decide) g4 dX8_sumUp_22 ?_
      refine lv_aload_n hx hb dX8_sumUp_23 rfl (lv_at hl 0 rfl) ?_
      refine rf_get hx hb cx hw 0 rfl rfl 1 inX8 (by decide) fl_X8_15 rfl rfl dX8_sumUp_24 ?_
      refine lv_iload_n hx hb dX8_sumUp_27 rfl (lv_at hl 1 rfl) ?_
      obtain ⟨g5, h⟩ := gd_some h
      refine ra_i hx hb cx hw 2 rfl (by decide) g5 dX8_sumUp_28 ?_
      refine ri_iadd hx hb dX8_sumUp_29 ?_
      obtain ⟨g6, h⟩ := gd_some h
      refine ra_si hx hb cx hw 4 rfl (by decide) g6 dX8_sumUp_30 (fun H locs hw => ?_)
      have hw : HP G A s.heap H locs [(a_t, .inr (7, [.ref a_t_score, .ref a_t_good, .ref a_t_bad, .ref a_t_goodAhead, .ref a_t_badAhead, .int (kI t_size)])), (a_t_score, cAI G 60 t_score), (a_t_good, cAI G 60 t_good), (a_t_bad, cAI G 60 t_bad), (a_t_goodAhead, cAI G 61 (uP t_goodAhead (y1 + 1) ((t_goodAhead y1) + (t_good y1)))), (a_t_badAhead, cAI G 61 t_badAhead)] := hw
      refine lv_aload_n hx hb dX8_sumUp_31 rfl (lv_at hl 0 rfl) ?_
      refine rf_get hx hb cx hw 0 rfl rfl 4 inX8 (by decide) fl_X8_24 rfl rfl dX8_sumUp_32 ?_
      refine lv_iload_n hx hb dX8_sumUp_35 rfl (lv_at hl 1 rfl) ?_
      refine ri_iconst hx hb dX8_sumUp_36 ?_
      refine ri_iadd hx hb dX8_sumUp_37 ?_
      refine lv_aload_n hx hb dX8_sumUp_38 rfl (lv_at hl 0 rfl) ?_
      refine rf_get hx hb cx hw 0 rfl rfl 4 inX8 (by decide) fl_X8_24 rfl rfl dX8_sumUp_39 ?_
      refine lv_iload_n hx hb dX8_sumUp_42 rfl (lv_at hl 1 rfl) ?_
      refine ra_i hx hb cx hw 5 rfl (by decide) g4 dX8_sumUp_43 ?_
      refine lv_aload_n hx hb dX8_sumUp_44 rfl (lv_at hl 0 rfl) ?_
      refine rf_get hx hb cx hw 0 rfl rfl 2 inX8 (by decide) fl_X8_18 rfl rfl dX8_sumUp_45 ?_
      refine lv_iload_n hx hb dX8_sumUp_48 rfl (lv_at hl 1 rfl) ?_
      refine ra_i hx hb cx hw 3 rfl (by decide) g5 dX8_sumUp_49 ?_
      refine ri_iadd hx hb dX8_sumUp_50 ?_
      refine ra_si hx hb cx hw 5 rfl (by decide) g6 dX8_sumUp_51 (fun H locs hw => ?_)
      have hw : HP G A s.heap H locs [(a_t, .inr (7, [.ref a_t_score, .ref a_t_good, .ref a_t_bad, .ref a_t_goodAhead, .ref a_t_badAhead, .int (kI t_size)])), (a_t_score, cAI G 60 t_score), (a_t_good, cAI G 60 t_good), (a_t_bad, cAI G 60 t_bad), (a_t_goodAhead, cAI G 61 (uP t_goodAhead (y1 + 1) ((t_goodAhead y1) + (t_good y1)))), (a_t_badAhead, cAI G 61 (uP t_badAhead (y1 + 1) ((t_badAhead y1) + (t_bad y1))))] := hw
      refine lv_iinc (v := kI (y1 + 1)) (lv' := [(1, .int (kI (y1 + 1))), (0, .ref a_t)]) hx hb dX8_sumUp_52 hl (k := 1) rfl (kI_add _ _) (by decide) rfl (fun ls hl => ?_)
      refine lv_goto (tgt := 2) hx hb dX8_sumUp_55 (by decide) ?_
      exact ih (uP t_goodAhead (y1 + 1) ((t_goodAhead y1) + (t_good y1))) (uP t_badAhead (y1 + 1) ((t_badAhead y1) + (t_bad y1))) (y1 + 1) h _ _ _ hw (lv_sub hl [1, 0] rfl)
set_option maxHeartbeats 4000000 in
set_option maxRecDepth 100000 in
theorem c_X8_sumUp (l : Launch) (G : GG) (S : SM) (sz : Nat) (N : Nat) (a_t a_t_score a_t_good a_t_bad a_t_goodAhead a_t_badAhead : Nat) (t_size : Int) (t_score : Int → Int) (t_good : Int → Int) (t_bad : Int → Int) (t_goodAhead : Int → Int) (t_badAhead : Int → Int)  (r : (Int → Int) × (Int → Int)) (h : m_X8_sumUp N t_size t_good t_bad t_goodAhead t_badAhead = some r) : CtV l yX8_sumUp cX8_sumUp 2 (rmD 1 0 0) G S sz [.ref a_t] [(a_t, .inr (7, [.ref a_t_score, .ref a_t_good, .ref a_t_bad, .ref a_t_goodAhead, .ref a_t_badAhead, .int (kI t_size)])), (a_t_score, cAI G 60 t_score), (a_t_good, cAI G 60 t_good), (a_t_bad, cAI G 60 t_bad), (a_t_goodAhead, cAI G 61 t_goodAhead), (a_t_badAhead, cAI G 61 t_badAhead)] [(a_t, .inr (7, [.ref a_t_score, .ref a_t_good, .ref a_t_bad, .ref a_t_goodAhead, .ref a_t_badAhead, .int (kI t_size)])), (a_t_score, cAI G 60 t_score), (a_t_good, cAI G 60 t_good), (a_t_bad, cAI G 60 t_bad), (a_t_goodAhead, cAI G 61 r.1), (a_t_badAhead, cAI G 61 r.2)] := by
  refine met_V (by decide +kernel) (Nat.le_of_ble_eq_true rfl) ?_
  intro p e s m args below meth c A H locs ls cx hw hr hlk hnm hl
  have hl : lv_has ls 2 [(0, .ref a_t)] := hl
  rw [m_X8_sumUp] at h
  obtain ⟨⟨hx, hb, -, -, -⟩, -⟩ := id cx
  refine ri_iconst hx hb dX8_sumUp_0 ?_
  refine lv_istore_n (lv' := [(1, .int (kI 0)), (0, .ref a_t)]) hx hb dX8_sumUp_1 rfl hl (by decide) rfl (fun ls hl => ?_)
  exact w_X8_sumUp_b2 cx hlk hr N a_t a_t_score a_t_good a_t_bad a_t_goodAhead a_t_badAhead t_size t_score t_good t_bad r N t_goodAhead t_badAhead 0 h _ _ _ hw (lv_sub hl [1, 0] rfl)
def PL_X8_fill_b7 (p : Program) (l : Launch) (e : Env) (s : State) (m : MethodId) (args : Array Value) (below : List Frame) (meth : Method) (c : Code) (A : Nat → Prop) (G : GG) (S : SM) (a_t a_t_score a_t_good a_t_bad a_t_goodAhead a_t_badAhead a_p1 a_p1_good a_p1_bad a_p1_open : Nat) (p1_least : Int) (p1_most : Int) (p1_goodCost : Int) (p1_badCost : Int) (p1_referCost : Int) (p1_good : Int → Int) (p1_bad : Int → Int) (p1_open : Int → Int) (t_goodAhead : Int → Int) (t_badAhead : Int → Int) (r : Int × (Int → Int) × (Int → Int) × (Int → Int) × (Int → Int) × (Int → Int)) (kk : Int → (Int → Int) → (Int → Int) → (Int → Int) → Int → Option (Int × (Int → Int) × (Int → Int) × (Int → Int) × (Int → Int) × (Int → Int))) : Prop := ∀ (t_size : Int) (t_score : Int → Int) (t_good : Int → Int) (t_bad : Int → Int) (y2 : Int), kk t_size t_score t_good t_bad y2 = some r → ∀ (H : Heap) (locs : List Loc) (ls : Array Slot), HP G A s.heap H locs [(a_t, .inr (7, [.ref a_t_score, .ref a_t_good, .ref a_t_bad, .ref a_t_goodAhead, .ref a_t_badAhead, .int (kI t_size)])), (a_t_score, cAI G 60 t_score), (a_t_good, cAI G 60 t_good), (a_t_bad, cAI G 60 t_bad), (a_t_goodAhead, cAI G 61 t_goodAhead), (a_t_badAhead, cAI G 61 t_badAhead), (a_p1, .inr (5, [.ref a_p1_good, .ref a_p1_bad, .ref a_p1_open, .int (kI p1_least), .int (kI p1_most), .int (kI p1_goodCost), .int (kI p1_badCost), .int (kI p1_referCost)])), (a_p1_good, cAI G 1000 p1_good), (a_p1_bad, cAI G 1000 p1_bad), (a_p1_open, cAI G 1000 p1_open)] → lv_has ls 3 [(0, .ref a_t), (1, .ref a_p1), (2, .int (kI y2))] → W p l e (rmD 2 0 0) s m args below meth c H locs 0 0 (MQ below (QcV G A [(a_t, .inr (7, [.ref a_t_score, .ref a_t_good, .ref a_t_bad, .ref a_t_goodAhead, .ref a_t_badAhead, .int (kI r.1)])), (a_t_score, cAI G 60 r.2.1), (a_t_good, cAI G 60 r.2.2.1), (a_t_bad, cAI G 60 r.2.2.2.1), (a_t_goodAhead, cAI G 61 r.2.2.2.2.1), (a_t_badAhead, cAI G 61 r.2.2.2.2.2), (a_p1, .inr (5, [.ref a_p1_good, .ref a_p1_bad, .ref a_p1_open, .int (kI p1_least), .int (kI p1_most), .int (kI p1_goodCost), .int (kI p1_badCost), .int (kI p1_referCost)])), (a_p1_good, cAI G 1000 p1_good), (a_p1_bad, cAI G 1000 p1_bad), (a_p1_open, cAI G 1000 p1_open)]) args s (rmD 2 0 0).cells (rmD 2 0 0).slots A) (F0 m 7 ls [])
set_option maxHeartbeats 4000000 in
set_option maxRecDepth 100000 in
theorem w_X8_fill_b89 {p : Program} {l : Launch} {e : Env} {s : State} {m : MethodId} {args : Array Value} {below : List Frame} {meth : Method} {c : Code} {A : Nat → Prop} {G : GG} {S : SM} (cx : CX p s m args c cX8_fill RX8 3 G S A) (hlk : meth.locks = false) (hr : meth.sig.returnType = none) (N : Nat) (a_t a_t_score a_t_good a_t_bad a_t_goodAhead a_t_badAhead a_p1 a_p1_good a_p1_bad a_p1_open : Nat) (p1_least : Int) (p1_most : Int) (p1_goodCost : Int) (p1_badCost : Int) (p1_referCost : Int) (p1_good : Int → Int) (p1_bad : Int → Int) (p1_open : Int → Int) (t_goodAhead : Int → Int) (t_badAhead : Int → Int) (r : Int × (Int → Int) × (Int → Int) × (Int → Int) × (Int → Int) × (Int → Int)) (k7 : Int → (Int → Int) → (Int → Int) → (Int → Int) → Int → Option (Int × (Int → Int) × (Int → Int) × (Int → Int) × (Int → Int) × (Int → Int))) (hk7 : PL_X8_fill_b7 p l e s m args below meth c A G S a_t a_t_score a_t_good a_t_bad a_t_goodAhead a_t_badAhead a_p1 a_p1_good a_p1_bad a_p1_open p1_least p1_most p1_goodCost p1_badCost p1_referCost p1_good p1_bad p1_open t_goodAhead t_badAhead r k7) : ∀ (t_size : Int) (t_score : Int → Int) (t_good : Int → Int) (t_bad : Int → Int) (y2 : Int), m_X8_fill_b89 N p1_good p1_bad t_goodAhead t_badAhead k7 t_size t_score t_good t_bad y2 = some r → ∀ (H : Heap) (locs : List Loc) (ls : Array Slot), HP G A s.heap H locs [(a_t, .inr (7, [.ref a_t_score, .ref a_t_good, .ref a_t_bad, .ref a_t_goodAhead, .ref a_t_badAhead, .int (kI t_size)])), (a_t_score, cAI G 60 t_score), (a_t_good, cAI G 60 t_good), (a_t_bad, cAI G 60 t_bad), (a_t_goodAhead, cAI G 61 t_goodAhead), (a_t_badAhead, cAI G 61 t_badAhead), (a_p1, .inr (5, [.ref a_p1_good, .ref a_p1_bad, .ref a_p1_open, .int (kI p1_least), .int (kI p1_most), .int (kI p1_goodCost), .int (kI p1_badCost), .int (kI p1_referCost)])), (a_p1_good, cAI G 1000 p1_good), (a_p1_bad, cAI G 1000 p1_bad), (a_p1_open, cAI G 1000 p1_open)] → lv_has ls 3 [(0, .ref a_t), (1, .ref a_p1), (2, .int (kI y2))] → W p l e (rmD 2 0 0) s m args below meth c H locs 0 0 (MQ below (QcV G A [(a_t, .inr (7, [.ref a_t_score, .ref a_t_good, .ref a_t_bad, .ref a_t_goodAhead, .ref a_t_badAhead, .int (kI r.1)])), (a_t_score, cAI G 60 r.2.1), (a_t_good, cAI G 60 r.2.2.1), (a_t_bad, cAI G 60 r.2.2.2.1), (a_t_goodAhead, cAI G 61 r.2.2.2.2.1), (a_t_badAhead, cAI G 61 r.2.2.2.2.2), (a_p1, .inr (5, [.ref a_p1_good, .ref a_p1_bad, .ref a_p1_open, .int (kI p1_least), .int (kI p1_most), .int (kI p1_goodCost), .int (kI p1_badCost), .int (kI p1_referCost)])), (a_p1_good, cAI G 1000 p1_good), (a_p1_bad, cAI G 1000 p1_bad), (a_p1_open, cAI G 1000 p1_open)]) args s (rmD 2 0 0).cells (rmD 2 0 0).slots A) (F0 m 89 ls []) := by
  intro t_size t_score t_good t_bad y2 h H locs ls hw hl
  rw [m_X8_fill_b89] at h
  obtain ⟨⟨hx, hb, -, -, -⟩, -⟩ := id cx
  refine lv_iinc (v := kI (y2 + 1)) (lv' := [(2, .int (kI (y2 + 1))), (0, .ref a_t), (1, .ref a_p1)]) hx hb dX8_fill_89 hl (k := 2) rfl (kI_add _ _) (by decide) rfl (fun ls hl => ?_)
  refine lv_goto (tgt := 7) hx hb dX8_fill_92 (by decide) ?_
  exact hk7 t_size t_score t_good t_bad (y2 + 1) h _ _ _ hw (lv_sub hl [1, 2, 0] rfl)
set_option maxHeartbeats 4000000 in
set_option maxRecDepth 100000 in
theorem w_X8_fill_b95 {p : Program} {l : Launch} {e : Env} {s : State} {m : MethodId} {args : Array Value} {below : List Frame} {meth : Method} {c : Code} {A : Nat → Prop} {G : GG} {S : SM} (cx : CX p s m args c cX8_fill RX8 3 G S A) (hlk : meth.locks = false) (hr : meth.sig.returnType = none) (N : Nat) (a_t a_t_score a_t_good a_t_bad a_t_goodAhead a_t_badAhead a_p1 a_p1_good a_p1_bad a_p1_open : Nat) (p1_least : Int) (p1_most : Int) (p1_goodCost : Int) (p1_badCost : Int) (p1_referCost : Int) (p1_good : Int → Int) (p1_bad : Int → Int) (p1_open : Int → Int) (r : Int × (Int → Int) × (Int → Int) × (Int → Int) × (Int → Int) × (Int → Int)) : ∀ (t_size : Int) (t_score : Int → Int) (t_good : Int → Int) (t_bad : Int → Int) (t_goodAhead : Int → Int) (t_badAhead : Int → Int), m_X8_fill_b95 N p1_good p1_bad t_size t_score t_good t_bad t_goodAhead t_badAhead = some r → ∀ (H : Heap) (locs : List Loc) (ls : Array Slot), HP G A s.heap H locs [(a_t, .inr (7, [.ref a_t_score, .ref a_t_good, .ref a_t_bad, .ref a_t_goodAhead, .ref a_t_badAhead, .int (kI t_size)])), (a_t_score, cAI G 60 t_score), (a_t_good, cAI G 60 t_good), (a_t_bad, cAI G 60 t_bad), (a_t_goodAhead, cAI G 61 t_goodAhead), (a_t_badAhead, cAI G 61 t_badAhead), (a_p1, .inr (5, [.ref a_p1_good, .ref a_p1_bad, .ref a_p1_open, .int (kI p1_least), .int (kI p1_most), .int (kI p1_goodCost), .int (kI p1_badCost), .int (kI p1_referCost)])), (a_p1_good, cAI G 1000 p1_good), (a_p1_bad, cAI G 1000 p1_bad), (a_p1_open, cAI G 1000 p1_open)] → lv_has ls 3 [(0, .ref a_t)] → W p l e (rmD 2 0 0) s m args below meth c H locs 0 0 (MQ below (QcV G A [(a_t, .inr (7, [.ref a_t_score, .ref a_t_good, .ref a_t_bad, .ref a_t_goodAhead, .ref a_t_badAhead, .int (kI r.1)])), (a_t_score, cAI G 60 r.2.1), (a_t_good, cAI G 60 r.2.2.1), (a_t_bad, cAI G 60 r.2.2.2.1), (a_t_goodAhead, cAI G 61 r.2.2.2.2.1), (a_t_badAhead, cAI G 61 r.2.2.2.2.2), (a_p1, .inr (5, [.ref a_p1_good, .ref a_p1_bad, .ref a_p1_open, .int (kI p1_least), .int (kI p1_most), .int (kI p1_goodCost), .int (kI p1_badCost), .int (kI p1_referCost)])), (a_p1_good, cAI G 1000 p1_good), (a_p1_bad, cAI G 1000 p1_bad), (a_p1_open, cAI G 1000 p1_open)]) args s (rmD 2 0 0).cells (rmD 2 0 0).slots A) (F0 m 95 ls []) := by
  intro t_size t_score t_good t_bad t_goodAhead t_badAhead h H locs ls hw hl
  rw [m_X8_fill_b95] at h
  obtain ⟨⟨hx, hb, -, -, -⟩, -⟩ := id cx
  refine lv_aload_n hx hb dX8_fill_95 rfl (lv_at hl 0 rfl) ?_
  obtain ⟨r1, h1, h⟩ := bd_some h
  refine rc_V (w2 := [(a_t, .inr (7, [.ref a_t_score, .ref a_t_good, .ref a_t_bad, .ref a_t_goodAhead, .ref a_t_badAhead, .int (kI t_size)])), (a_t_score, cAI G 60 t_score), (a_t_good, cAI G 60 t_good), (a_t_bad, cAI G 60 t_bad), (a_t_goodAhead, cAI G 61 r1.1), (a_t_badAhead, cAI G 61 r1.2), (a_p1, .inr (5, [.ref a_p1_good, .ref a_p1_bad, .ref a_p1_open, .int (kI p1_least), .int (kI p1_most), .int (kI p1_goodCost), .int (kI p1_badCost), .int (kI p1_referCost)])), (a_p1_good, cAI G 1000 p1_good), (a_p1_bad, cAI G 1000 p1_bad), (a_p1_open, cAI G 1000 p1_open)]) hw [0, 1, 2, 3, 4, 5] [6, 7, 8, 9] [4, 5, 6, 7, 8, 9, 0, 1, 2, 3] (rr_V cx hw (c_X8_sumUp l G S H.size N a_t a_t_score a_t_good a_t_bad a_t_goodAhead a_t_badAhead t_size t_score t_good t_bad t_goodAhead t_badAhead _ h1) mv_X8_35 [0, 1, 2, 3, 4, 5] rfl rfl rfl 0 rfl rfl ⟨Nat.le_of_ble_eq_true rfl, Nat.le_of_ble_eq_true rfl⟩ rfl hl.1 rfl (Nat.le_of_ble_eq_true rfl) dX8_fill_96 ⟨Nat.le_of_ble_eq_true rfl, Nat.le_of_ble_eq_true rfl⟩) rfl rfl rfl rfl rfl rfl rfl rfl (fun H locs hw => ?_)
  obtain rfl := so_inj h
  exact re_v hx hb hlk hr cx hw (Nat.le_of_ble_eq_true rfl) (Nat.le_of_ble_eq_true rfl) dX8_fill_99
set_option maxHeartbeats 4000000 in
set_option maxRecDepth 100000 in
theorem w_X8_fill_b7 {p : Program} {l : Launch} {e : Env} {s : State} {m : MethodId} {args : Array Value} {below : List Frame} {meth : Method} {c : Code} {A : Nat → Prop} {G : GG} {S : SM} (cx : CX p s m args c cX8_fill RX8 3 G S A) (hlk : meth.locks = false) (hr : meth.sig.returnType = none) (N : Nat) (a_t a_t_score a_t_good a_t_bad a_t_goodAhead a_t_badAhead a_p1 a_p1_good a_p1_bad a_p1_open : Nat) (p1_least : Int) (p1_most : Int) (p1_goodCost : Int) (p1_badCost : Int) (p1_referCost : Int) (p1_good : Int → Int) (p1_bad : Int → Int) (p1_open : Int → Int) (t_goodAhead : Int → Int) (t_badAhead : Int → Int) (r : Int × (Int → Int) × (Int → Int) × (Int → Int) × (Int → Int) × (Int → Int)) : ∀ n : Nat, PL_X8_fill_b7 p l e s m args below meth c A G S a_t a_t_score a_t_good a_t_bad a_t_goodAhead a_t_badAhead a_p1 a_p1_good a_p1_bad a_p1_open p1_least p1_most p1_goodCost p1_badCost p1_referCost p1_good p1_bad p1_open t_goodAhead t_badAhead r (m_X8_fill_b7 N p1_good p1_bad t_goodAhead t_badAhead n) := by
  intro n
  induction n with
  | zero => intro t_size t_score t_good t_bad y2 h; exact nomatch h
  | succ n ih =>
    intro t_size t_score t_good t_bad y2 h H locs ls hw hl
    rw [m_X8_fill_b7] at h
    obtain ⟨⟨hx, hb, -, -, -⟩, -⟩ := id cx
    refine lv_iload_n hx hb dX8_fill_7 rfl (lv_at hl 2 rfl) ?_
    refine ri_sipush hx hb dX8_fill_8 rfl ?_
    obtain ⟨g1, h⟩ := gd_some h
    refine ri_icmp_ge (tgt := 95) hx hb g1 ⟨by decide, by decide⟩ dX8_fill_11 (by decide) (fun c2 => ?_) (fun c2 => ?_)
    · have h := it_pos c2 h
      exact w_X8_fill_b95 cx hlk hr N a_t a_t_score a_t_good a_t_bad a_t_goodAhead a_t_badAhead a_p1 a_p1_good a_p1_bad a_p1_open p1_least p1_most p1_goodCost p1_badCost p1_referCost p1_good p1_bad p1_open r t_size t_score t_good t_bad t_goodAhead t_badAhead h _ _ _ hw (lv_sub hl [0] rfl)
    · have h := it_neg c2 h
      refine lv_aload_n hx hb dX8_fill_14 rfl (lv_at hl 0 rfl) ?_
      refine rf_get hx hb cx hw 0 rfl rfl 5 inX8 (by decide) fl_X8_27 rfl rfl dX8_fill_15 ?_
      refine ri_bipush hx hb dX8_fill_18 rfl ?_
      obtain ⟨g3, h⟩ := gd_some h
      refine ri_icmp_ge (tgt := 95) hx hb g3 ⟨by decide, by decide⟩ dX8_fill_20 (by decide) (fun c4 => ?_) (fun c4 => ?_)
      · have h := it_pos c4 h
        exact w_X8_fill_b95 cx hlk hr N a_t a_t_score a_t_good a_t_bad a_t_goodAhead a_t_badAhead a_p1 a_p1_good a_p1_bad a_p1_open p1_least p1_most p1_goodCost p1_badCost p1_referCost p1_good p1_bad p1_open r t_size t_score t_good t_bad t_goodAhead t_badAhead h _ _ _ hw (lv_sub hl [0] rfl)
      · have h := it_neg c4 h
        refine lv_aload_n hx hb dX8_fill_23 rfl (lv_at hl 1 rfl) ?_
        refine rf_get hx hb cx hw 6 rfl rfl 0 inX6 (by decide) fl_X8_31 rfl rfl dX8_fill_24 ?_
        refine lv_iload_n hx hb dX8_fill_27 rfl (lv_at hl 2 rfl) ?_
        obtain ⟨g5, h⟩ := gd_some h
        refine ra_i hx hb cx hw 7 rfl (by decide) g5 dX8_fill_28 ?_
        refine lv_aload_n hx hb dX8_fill_29 rfl (lv_at hl 1 rfl) ?_
        refine rf_get hx hb cx hw 6 rfl rfl 1 inX6 (by decide) fl_X8_34 rfl rfl dX8_fill_30 ?_
        refine lv_iload_n hx hb dX8_fill_33 rfl (lv_at hl 2 rfl) ?_
        refine ra_i hx hb cx hw 8 rfl (by decide) g5 dX8_fill_34 ?_
        refine ri_iadd hx hb dX8_fill_35 ?_
        obtain ⟨g6, h⟩ := gd_some h
        refine ri_if_le (tgt := 89) hx hb g6 dX8_fill_36 (by decide) (fun c7 => ?_) (fun c7 => ?_)
        · have h := it_pos c7 h
          exact w_X8_fill_b89 cx hlk hr N a_t a_t_score a_t_good a_t_bad a_t_goodAhead a_t_badAhead a_p1 a_p1_good a_p1_bad a_p1_open p1_least p1_most p1_goodCost p1_badCost p1_referCost p1_good p1_bad p1_open t_goodAhead t_badAhead r (m_X8_fill_b7 N p1_good p1_bad t_goodAhead t_badAhead n) ih t_size t_score t_good t_bad y2 h _ _ _ hw (lv_sub hl [0, 1, 2] rfl)
        · have h := it_neg c7 h
          refine lv_aload_n hx hb dX8_fill_39 rfl (lv_at hl 0 rfl) ?_
          refine rf_get hx hb cx hw 0 rfl rfl 0 inX8 (by decide) fl_X8_9 rfl rfl dX8_fill_40 ?_
          refine lv_aload_n hx hb dX8_fill_43 rfl (lv_at hl 0 rfl) ?_
          refine rf_get hx hb cx hw 0 rfl rfl 5 inX8 (by decide) fl_X8_27 rfl rfl dX8_fill_44 ?_
          refine lv_iload_n hx hb dX8_fill_47 rfl (lv_at hl 2 rfl) ?_
          obtain ⟨g8, h⟩ := gd_some h
          refine ra_si hx hb cx hw 1 rfl (by decide) g8 dX8_fill_48 (fun H locs hw => ?_)
          have hw : HP G A s.heap H locs [(a_t, .inr (7, [.ref a_t_score, .ref a_t_good, .ref a_t_bad, .ref a_t_goodAhead, .ref a_t_badAhead, .int (kI t_size)])), (a_t_score, cAI G 60 (uP t_score t_size y2)), (a_t_good, cAI G 60 t_good), (a_t_bad, cAI G 60 t_bad), (a_t_goodAhead, cAI G 61 t_goodAhead), (a_t_badAhead, cAI G 61 t_badAhead), (a_p1, .inr (5, [.ref a_p1_good, .ref a_p1_bad, .ref a_p1_open, .int (kI p1_least), .int (kI p1_most), .int (kI p1_goodCost), .int (kI p1_badCost), .int (kI p1_referCost)])), (a_p1_good, cAI G 1000 p1_good), (a_p1_bad, cAI G 1000 p1_bad), (a_p1_open, cAI G 1000 p1_open)] := hw
          refine lv_aload_n hx hb dX8_fill_49 rfl (lv_at hl 0 rfl) ?_
          refine rf_get hx hb cx hw 0 rfl rfl 1 inX8 (by decide) fl_X8_15 rfl rfl dX8_fill_50 ?_
          refine lv_aload_n hx hb dX8_fill_53 rfl (lv_at hl 0 rfl) ?_
          refine rf_get hx hb cx hw 0 rfl rfl 5 inX8 (by decide) fl_X8_27 rfl rfl dX8_fill_54 ?_
          refine lv_aload_n hx hb dX8_fill_57 rfl (lv_at hl 1 rfl) ?_
          refine rf_get hx hb cx hw 6 rfl rfl 0 inX6 (by decide) fl_X8_31 rfl rfl dX8_fill_58 ?_
          refine lv_iload_n hx hb dX8_fill_61 rfl (lv_at hl 2 rfl) ?_
          refine ra_i hx hb cx hw 7 rfl (by decide) g5 dX8_fill_62 ?_
          refine ra_si hx hb cx hw 2 rfl (by decide) g8 dX8_fill_63 (fun H locs hw => ?_)
          have hw : HP G A s.heap H locs [(a_t, .inr (7, [.ref a_t_score, .ref a_t_good, .ref a_t_bad, .ref a_t_goodAhead, .ref a_t_badAhead, .int (kI t_size)])), (a_t_score, cAI G 60 (uP t_score t_size y2)), (a_t_good, cAI G 60 (uP t_good t_size (p1_good y2))), (a_t_bad, cAI G 60 t_bad), (a_t_goodAhead, cAI G 61 t_goodAhead), (a_t_badAhead, cAI G 61 t_badAhead), (a_p1, .inr (5, [.ref a_p1_good, .ref a_p1_bad, .ref a_p1_open, .int (kI p1_least), .int (kI p1_most), .int (kI p1_goodCost), .int (kI p1_badCost), .int (kI p1_referCost)])), (a_p1_good, cAI G 1000 p1_good), (a_p1_bad, cAI G 1000 p1_bad), (a_p1_open, cAI G 1000 p1_open)] := hw
          refine lv_aload_n hx hb dX8_fill_64 rfl (lv_at hl 0 rfl) ?_
          refine rf_get hx hb cx hw 0 rfl rfl 2 inX8 (by decide) fl_X8_18 rfl rfl dX8_fill_65 ?_
          refine lv_aload_n hx hb dX8_fill_68 rfl (lv_at hl 0 rfl) ?_
          refine rf_get hx hb cx hw 0 rfl rfl 5 inX8 (by decide) fl_X8_27 rfl rfl dX8_fill_69 ?_
          refine lv_aload_n hx hb dX8_fill_72 rfl (lv_at hl 1 rfl) ?_
          refine rf_get hx hb cx hw 6 rfl rfl 1 inX6 (by decide) fl_X8_34 rfl rfl dX8_fill_73 ?_
          refine lv_iload_n hx hb dX8_fill_76 rfl (lv_at hl 2 rfl) ?_
          refine ra_i hx hb cx hw 8 rfl (by decide) g5 dX8_fill_77 ?_
          refine ra_si hx hb cx hw 3 rfl (by decide) g8 dX8_fill_78 (fun H locs hw => ?_)
          have hw : HP G A s.heap H locs [(a_t, .inr (7, [.ref a_t_score, .ref a_t_good, .ref a_t_bad, .ref a_t_goodAhead, .ref a_t_badAhead, .int (kI t_size)])), (a_t_score, cAI G 60 (uP t_score t_size y2)), (a_t_good, cAI G 60 (uP t_good t_size (p1_good y2))), (a_t_bad, cAI G 60 (uP t_bad t_size (p1_bad y2))), (a_t_goodAhead, cAI G 61 t_goodAhead), (a_t_badAhead, cAI G 61 t_badAhead), (a_p1, .inr (5, [.ref a_p1_good, .ref a_p1_bad, .ref a_p1_open, .int (kI p1_least), .int (kI p1_most), .int (kI p1_goodCost), .int (kI p1_badCost), .int (kI p1_referCost)])), (a_p1_good, cAI G 1000 p1_good), (a_p1_bad, cAI G 1000 p1_bad), (a_p1_open, cAI G 1000 p1_open)] := hw
          refine lv_aload_n hx hb dX8_fill_79 rfl (lv_at hl 0 rfl) ?_
          refine lv_dup hx hb dX8_fill_80 rfl ?_
          refine rf_get hx hb cx hw 0 rfl rfl 5 inX8 (by decide) fl_X8_27 rfl rfl dX8_fill_81 ?_
          refine ri_iconst hx hb dX8_fill_84 ?_
          refine ri_iadd hx hb dX8_fill_85 ?_
          refine rf_put hx hb cx hw 0 rfl rfl 5 inX8 tyX8 tyX8_ok nmX8 (by decide) fl_X8_27 rfl rfl rfl rfl (Nat.le_of_ble_eq_true rfl) dX8_fill_86 (fun H locs hw => ?_)
          have hw : HP G A s.heap H locs [(a_t, .inr (7, [.ref a_t_score, .ref a_t_good, .ref a_t_bad, .ref a_t_goodAhead, .ref a_t_badAhead, .int (kI (t_size + 1))])), (a_t_score, cAI G 60 (uP t_score t_size y2)), (a_t_good, cAI G 60 (uP t_good t_size (p1_good y2))), (a_t_bad, cAI G 60 (uP t_bad t_size (p1_bad y2))), (a_t_goodAhead, cAI G 61 t_goodAhead), (a_t_badAhead, cAI G 61 t_badAhead), (a_p1, .inr (5, [.ref a_p1_good, .ref a_p1_bad, .ref a_p1_open, .int (kI p1_least), .int (kI p1_most), .int (kI p1_goodCost), .int (kI p1_badCost), .int (kI p1_referCost)])), (a_p1_good, cAI G 1000 p1_good), (a_p1_bad, cAI G 1000 p1_bad), (a_p1_open, cAI G 1000 p1_open)] := hw
          exact w_X8_fill_b89 cx hlk hr N a_t a_t_score a_t_good a_t_bad a_t_goodAhead a_t_badAhead a_p1 a_p1_good a_p1_bad a_p1_open p1_least p1_most p1_goodCost p1_badCost p1_referCost p1_good p1_bad p1_open t_goodAhead t_badAhead r (m_X8_fill_b7 N p1_good p1_bad t_goodAhead t_badAhead n) ih (t_size + 1) (uP t_score t_size y2) (uP t_good t_size (p1_good y2)) (uP t_bad t_size (p1_bad y2)) y2 h _ _ _ hw (lv_sub hl [0, 1, 2] rfl)
set_option maxHeartbeats 4000000 in
set_option maxRecDepth 100000 in
theorem c_X8_fill (l : Launch) (G : GG) (S : SM) (sz : Nat) (N : Nat) (a_t a_t_score a_t_good a_t_bad a_t_goodAhead a_t_badAhead a_p1 a_p1_good a_p1_bad a_p1_open : Nat) (t_size : Int) (t_score : Int → Int) (t_good : Int → Int) (t_bad : Int → Int) (t_goodAhead : Int → Int) (t_badAhead : Int → Int) (p1_least : Int) (p1_most : Int) (p1_goodCost : Int) (p1_badCost : Int) (p1_referCost : Int) (p1_good : Int → Int) (p1_bad : Int → Int) (p1_open : Int → Int)  (r : Int × (Int → Int) × (Int → Int) × (Int → Int) × (Int → Int) × (Int → Int)) (h : m_X8_fill N p1_good p1_bad t_size t_score t_good t_bad t_goodAhead t_badAhead = some r) : CtV l yX8_fill cX8_fill 3 (rmD 2 0 0) G S sz [.ref a_t, .ref a_p1] [(a_t, .inr (7, [.ref a_t_score, .ref a_t_good, .ref a_t_bad, .ref a_t_goodAhead, .ref a_t_badAhead, .int (kI t_size)])), (a_t_score, cAI G 60 t_score), (a_t_good, cAI G 60 t_good), (a_t_bad, cAI G 60 t_bad), (a_t_goodAhead, cAI G 61 t_goodAhead), (a_t_badAhead, cAI G 61 t_badAhead), (a_p1, .inr (5, [.ref a_p1_good, .ref a_p1_bad, .ref a_p1_open, .int (kI p1_least), .int (kI p1_most), .int (kI p1_goodCost), .int (kI p1_badCost), .int (kI p1_referCost)])), (a_p1_good, cAI G 1000 p1_good), (a_p1_bad, cAI G 1000 p1_bad), (a_p1_open, cAI G 1000 p1_open)] [(a_t, .inr (7, [.ref a_t_score, .ref a_t_good, .ref a_t_bad, .ref a_t_goodAhead, .ref a_t_badAhead, .int (kI r.1)])), (a_t_score, cAI G 60 r.2.1), (a_t_good, cAI G 60 r.2.2.1), (a_t_bad, cAI G 60 r.2.2.2.1), (a_t_goodAhead, cAI G 61 r.2.2.2.2.1), (a_t_badAhead, cAI G 61 r.2.2.2.2.2), (a_p1, .inr (5, [.ref a_p1_good, .ref a_p1_bad, .ref a_p1_open, .int (kI p1_least), .int (kI p1_most), .int (kI p1_goodCost), .int (kI p1_badCost), .int (kI p1_referCost)])), (a_p1_good, cAI G 1000 p1_good), (a_p1_bad, cAI G 1000 p1_bad), (a_p1_open, cAI G 1000 p1_open)] := by
  refine met_V (by decide +kernel) (Nat.le_of_ble_eq_true rfl) ?_
  intro p e s m args below meth c A H locs ls cx hw hr hlk hnm hl
  have hl : lv_has ls 3 [(0, .ref a_t), (1, .ref a_p1)] := hl
  rw [m_X8_fill] at h
  obtain ⟨⟨hx, hb, -, -, -⟩, -⟩ := id cx
  refine lv_aload_n hx hb dX8_fill_0 rfl (lv_at hl 0 rfl) ?_
  refine ri_iconst hx hb dX8_fill_1 ?_
  refine rf_put hx hb cx hw 0 rfl rfl 5 inX8 tyX8 tyX8_ok nmX8 (by decide) fl_X8_27 rfl rfl rfl rfl (Nat.le_of_ble_eq_true rfl) dX8_fill_2 (fun H locs hw => ?_)
  have hw : HP G A s.heap H locs [(a_t, .inr (7, [.ref a_t_score, .ref a_t_good, .ref a_t_bad, .ref a_t_goodAhead, .ref a_t_badAhead, .int (kI 0)])), (a_t_score, cAI G 60 t_score), (a_t_good, cAI G 60 t_good), (a_t_bad, cAI G 60 t_bad), (a_t_goodAhead, cAI G 61 t_goodAhead), (a_t_badAhead, cAI G 61 t_badAhead), (a_p1, .inr (5, [.ref a_p1_good, .ref a_p1_bad, .ref a_p1_open, .int (kI p1_least), .int (kI p1_most), .int (kI p1_goodCost), .int (kI p1_badCost), .int (kI p1_referCost)])), (a_p1_good, cAI G 1000 p1_good), (a_p1_bad, cAI G 1000 p1_bad), (a_p1_open, cAI G 1000 p1_open)] := hw
  refine ri_iconst hx hb dX8_fill_5 ?_
  refine lv_istore_n (lv' := [(2, .int (kI 0)), (0, .ref a_t), (1, .ref a_p1)]) hx hb dX8_fill_6 rfl hl (by decide) rfl (fun ls hl => ?_)
  exact w_X8_fill_b7 cx hlk hr N a_t a_t_score a_t_good a_t_bad a_t_goodAhead a_t_badAhead a_p1 a_p1_good a_p1_bad a_p1_open p1_least p1_most p1_goodCost p1_badCost p1_referCost p1_good p1_bad p1_open t_goodAhead t_badAhead r N 0 t_score t_good t_bad 0 h _ _ _ hw (lv_sub hl [1, 2, 0] rfl)
set_option maxHeartbeats 4000000 in
set_option maxRecDepth 100000 in
theorem c_X8_casesAhead (l : Launch) (G : GG) (S : SM) (sz : Nat) (N : Nat) (a_t a_t_score a_t_good a_t_bad a_t_goodAhead a_t_badAhead : Nat) (t_size : Int) (t_score : Int → Int) (t_good : Int → Int) (t_bad : Int → Int) (t_goodAhead : Int → Int) (t_badAhead : Int → Int) (x1 : Int) (r : Int) (h : m_X8_casesAhead N t_goodAhead t_badAhead x1 = some r) : CtI l yX8_casesAhead cX8_casesAhead 2 .int (rmD 1 0 0) G S sz [.ref a_t, .int (kI x1)] [(a_t, .inr (7, [.ref a_t_score, .ref a_t_good, .ref a_t_bad, .ref a_t_goodAhead, .ref a_t_badAhead, .int (kI t_size)])), (a_t_score, cAI G 60 t_score), (a_t_good, cAI G 60 t_good), (a_t_bad, cAI G 60 t_bad), (a_t_goodAhead, cAI G 61 t_goodAhead), (a_t_badAhead, cAI G 61 t_badAhead)] r [(a_t, .inr (7, [.ref a_t_score, .ref a_t_good, .ref a_t_bad, .ref a_t_goodAhead, .ref a_t_badAhead, .int (kI t_size)])), (a_t_score, cAI G 60 t_score), (a_t_good, cAI G 60 t_good), (a_t_bad, cAI G 60 t_bad), (a_t_goodAhead, cAI G 61 t_goodAhead), (a_t_badAhead, cAI G 61 t_badAhead)] := by
  refine met_I (by decide +kernel) (Nat.le_of_ble_eq_true rfl) ?_
  intro p e s m args below meth c A H locs ls cx hw hr hlk hnm hl
  have hl : lv_has ls 2 [(0, .ref a_t), (1, .int (kI x1))] := hl
  rw [m_X8_casesAhead] at h
  obtain ⟨⟨hx, hb, -, -, -⟩, -⟩ := id cx
  refine lv_aload_n hx hb dX8_casesAhead_0 rfl (lv_at hl 0 rfl) ?_
  refine rf_get hx hb cx hw 0 rfl rfl 3 inX8 (by decide) fl_X8_21 rfl rfl dX8_casesAhead_1 ?_
  refine lv_iload_n hx hb dX8_casesAhead_4 rfl (lv_at hl 1 rfl) ?_
  obtain ⟨g1, h⟩ := gd_some h
  refine ra_i hx hb cx hw 4 rfl (by decide) g1 dX8_casesAhead_5 ?_
  refine lv_aload_n hx hb dX8_casesAhead_6 rfl (lv_at hl 0 rfl) ?_
  refine rf_get hx hb cx hw 0 rfl rfl 4 inX8 (by decide) fl_X8_24 rfl rfl dX8_casesAhead_7 ?_
  refine lv_iload_n hx hb dX8_casesAhead_10 rfl (lv_at hl 1 rfl) ?_
  refine ra_i hx hb cx hw 5 rfl (by decide) g1 dX8_casesAhead_11 ?_
  refine ri_iadd hx hb dX8_casesAhead_12 ?_
  obtain rfl := so_inj h
  exact re_i hx hb hlk hr cx hw (Nat.le_of_ble_eq_true rfl) (Nat.le_of_ble_eq_true rfl) dX8_casesAhead_13
set_option maxHeartbeats 4000000 in
set_option maxRecDepth 100000 in
theorem c_X8_cases (l : Launch) (G : GG) (S : SM) (sz : Nat) (N : Nat) (a_t a_t_score a_t_good a_t_bad a_t_goodAhead a_t_badAhead : Nat) (t_size : Int) (t_score : Int → Int) (t_good : Int → Int) (t_bad : Int → Int) (t_goodAhead : Int → Int) (t_badAhead : Int → Int)  (r : Int) (h : m_X8_cases N t_size t_goodAhead t_badAhead = some r) : CtI l yX8_cases cX8_cases 1 .int (rmD 2 0 0) G S sz [.ref a_t] [(a_t, .inr (7, [.ref a_t_score, .ref a_t_good, .ref a_t_bad, .ref a_t_goodAhead, .ref a_t_badAhead, .int (kI t_size)])), (a_t_score, cAI G 60 t_score), (a_t_good, cAI G 60 t_good), (a_t_bad, cAI G 60 t_bad), (a_t_goodAhead, cAI G 61 t_goodAhead), (a_t_badAhead, cAI G 61 t_badAhead)] r [(a_t, .inr (7, [.ref a_t_score, .ref a_t_good, .ref a_t_bad, .ref a_t_goodAhead, .ref a_t_badAhead, .int (kI t_size)])), (a_t_score, cAI G 60 t_score), (a_t_good, cAI G 60 t_good), (a_t_bad, cAI G 60 t_bad), (a_t_goodAhead, cAI G 61 t_goodAhead), (a_t_badAhead, cAI G 61 t_badAhead)] := by
  refine met_I (by decide +kernel) (Nat.le_of_ble_eq_true rfl) ?_
  intro p e s m args below meth c A H locs ls cx hw hr hlk hnm hl
  have hl : lv_has ls 1 [(0, .ref a_t)] := hl
  rw [m_X8_cases] at h
  obtain ⟨⟨hx, hb, -, -, -⟩, -⟩ := id cx
  refine lv_aload_n hx hb dX8_cases_0 rfl (lv_at hl 0 rfl) ?_
  refine lv_aload_n hx hb dX8_cases_1 rfl (lv_at hl 0 rfl) ?_
  refine rf_get hx hb cx hw 0 rfl rfl 5 inX8 (by decide) fl_X8_27 rfl rfl dX8_cases_2 ?_
  obtain ⟨r1, h1, h⟩ := bd_some h
  refine rc_I0 (v := r1) hw [0, 1, 2, 3, 4, 5] (rr_V cx hw (c_X8_casesAhead l G S H.size N a_t a_t_score a_t_good a_t_bad a_t_goodAhead a_t_badAhead t_size t_score t_good t_bad t_goodAhead t_badAhead t_size _ h1) mv_X8_56 [0, 1, 2, 3, 4, 5] rfl rfl rfl 0 rfl rfl ⟨Nat.le_of_ble_eq_true rfl, Nat.le_of_ble_eq_true rfl⟩ rfl hl.1 rfl (Nat.le_of_ble_eq_true rfl) dX8_cases_5 ⟨Nat.le_of_ble_eq_true rfl, Nat.le_of_ble_eq_true rfl⟩) rfl rfl (fun H locs hw => ?_)
  obtain rfl := so_inj h
  exact re_i hx hb hlk hr cx hw (Nat.le_of_ble_eq_true rfl) (Nat.le_of_ble_eq_true rfl) dX8_cases_8
def PL_X8_holder_b16 (p : Program) (l : Launch) (e : Env) (s : State) (m : MethodId) (args : Array Value) (below : List Frame) (meth : Method) (c : Code) (A : Nat → Prop) (G : GG) (S : SM) (a_t a_t_score a_t_good a_t_bad a_t_goodAhead a_t_badAhead : Nat) (t_size : Int) (t_score : Int → Int) (t_good : Int → Int) (t_bad : Int → Int) (t_goodAhead : Int → Int) (t_badAhead : Int → Int) (x1 : Int) (r : Int) (kk : Int → Int → Int → Option (Int)) : Prop := ∀ (y2 : Int) (y3 : Int) (y4 : Int), kk y2 y3 y4 = some r → ∀ (H : Heap) (locs : List Loc) (ls : Array Slot), HP G A s.heap H locs [(a_t, .inr (7, [.ref a_t_score, .ref a_t_good, .ref a_t_bad, .ref a_t_goodAhead, .ref a_t_badAhead, .int (kI t_size)])), (a_t_score, cAI G 60 t_score), (a_t_good, cAI G 60 t_good), (a_t_bad, cAI G 60 t_bad), (a_t_goodAhead, cAI G 61 t_goodAhead), (a_t_badAhead, cAI G 61 t_badAhead)] → lv_has ls 6 [(0, .ref a_t), (1, .int (kI x1)), (2, .int (kI y2)), (3, .int (kI y3)), (4, .int (kI y4))] → W p l e (rmD 2 0 0) s m args below meth c H locs 0 0 (MQ below (QcI G A r [(a_t, .inr (7, [.ref a_t_score, .ref a_t_good, .ref a_t_bad, .ref a_t_goodAhead, .ref a_t_badAhead, .int (kI t_size)])), (a_t_score, cAI G 60 t_score), (a_t_good, cAI G 60 t_good), (a_t_bad, cAI G 60 t_bad), (a_t_goodAhead, cAI G 61 t_goodAhead), (a_t_badAhead, cAI G 61 t_badAhead)]) args s (rmD 2 0 0).cells (rmD 2 0 0).slots A) (F0 m 16 ls [])
set_option maxHeartbeats 4000000 in
set_option maxRecDepth 100000 in
theorem w_X8_holder_b58 {p : Program} {l : Launch} {e : Env} {s : State} {m : MethodId} {args : Array Value} {below : List Frame} {meth : Method} {c : Code} {A : Nat → Prop} {G : GG} {S : SM} (cx : CX p s m args c cX8_holder RX8 6 G S A) (hlk : meth.locks = false) (hr : meth.sig.returnType = some .int) (N : Nat) (a_t a_t_score a_t_good a_t_bad a_t_goodAhead a_t_badAhead : Nat) (t_size : Int) (t_score : Int → Int) (t_good : Int → Int) (t_bad : Int → Int) (t_goodAhead : Int → Int) (t_badAhead : Int → Int) (x1 : Int) (r : Int) (k16 : Int → Int → Int → Option (Int)) (hk16 : PL_X8_holder_b16 p l e s m args below meth c A G S a_t a_t_score a_t_good a_t_bad a_t_goodAhead a_t_badAhead t_size t_score t_good t_bad t_goodAhead t_badAhead x1 r k16) : ∀ (y2 : Int) (y3 : Int) (y4 : Int), m_X8_holder_b58 N t_size t_goodAhead t_badAhead x1 k16 y2 y3 y4 = some r → ∀ (H : Heap) (locs : List Loc) (ls : Array Slot), HP G A s.heap H locs [(a_t, .inr (7, [.ref a_t_score, .ref a_t_good, .ref a_t_bad, .ref a_t_goodAhead, .ref a_t_badAhead, .int (kI t_size)])), (a_t_score, cAI G 60 t_score), (a_t_good, cAI G 60 t_good), (a_t_bad, cAI G 60 t_bad), (a_t_goodAhead, cAI G 61 t_goodAhead), (a_t_badAhead, cAI G 61 t_badAhead)] → lv_has ls 6 [(0, .ref a_t), (1, .int (kI x1)), (2, .int (kI y2)), (3, .int (kI y3)), (4, .int (kI y4))] → W p l e (rmD 2 0 0) s m args below meth c H locs 0 0 (MQ below (QcI G A r [(a_t, .inr (7, [.ref a_t_score, .ref a_t_good, .ref a_t_bad, .ref a_t_goodAhead, .ref a_t_badAhead, .int (kI t_size)])), (a_t_score, cAI G 60 t_score), (a_t_good, cAI G 60 t_good), (a_t_bad, cAI G 60 t_bad), (a_t_goodAhead, cAI G 61 t_goodAhead), (a_t_badAhead, cAI G 61 t_badAhead)]) args s (rmD 2 0 0).cells (rmD 2 0 0).slots A) (F0 m 58 ls []) := by
  intro y2 y3 y4 h H locs ls hw hl
  rw [m_X8_holder_b58] at h
  obtain ⟨⟨hx, hb, -, -, -⟩, -⟩ := id cx
  refine lv_iinc (v := kI (y4 + 1)) (lv' := [(4, .int (kI (y4 + 1))), (0, .ref a_t), (1, .int (kI x1)), (2, .int (kI y2)), (3, .int (kI y3))]) hx hb dX8_holder_58 hl (k := 4) rfl (kI_add _ _) (by decide) rfl (fun ls hl => ?_)
  refine lv_goto (tgt := 16) hx hb dX8_holder_61 (by decide) ?_
  exact hk16 y2 y3 (y4 + 1) h _ _ _ hw (lv_sub hl [1, 2, 3, 4, 0] rfl)
set_option maxHeartbeats 4000000 in
set_option maxRecDepth 100000 in
theorem w_X8_holder_b16 {p : Program} {l : Launch} {e : Env} {s : State} {m : MethodId} {args : Array Value} {below : List Frame} {meth : Method} {c : Code} {A : Nat → Prop} {G : GG} {S : SM} (cx : CX p s m args c cX8_holder RX8 6 G S A) (hlk : meth.locks = false) (hr : meth.sig.returnType = some .int) (N : Nat) (a_t a_t_score a_t_good a_t_bad a_t_goodAhead a_t_badAhead : Nat) (t_size : Int) (t_score : Int → Int) (t_good : Int → Int) (t_bad : Int → Int) (t_goodAhead : Int → Int) (t_badAhead : Int → Int) (x1 : Int) (r : Int) : ∀ n : Nat, PL_X8_holder_b16 p l e s m args below meth c A G S a_t a_t_score a_t_good a_t_bad a_t_goodAhead a_t_badAhead t_size t_score t_good t_bad t_goodAhead t_badAhead x1 r (m_X8_holder_b16 N t_size t_goodAhead t_badAhead x1 n) := by
  intro n
  induction n with
  | zero => intro y2 y3 y4 h; exact nomatch h
  | succ n ih =>
    intro y2 y3 y4 h H locs ls hw hl
    rw [m_X8_holder_b16] at h
    obtain ⟨⟨hx, hb, -, -, -⟩, -⟩ := id cx
    refine lv_iload hx hb dX8_holder_16 (lv_at hl 4 rfl) ?_
    refine ri_bipush hx hb dX8_holder_18 rfl ?_
    obtain ⟨g1, h⟩ := gd_some h
    refine ri_icmp_ge (tgt := 64) hx hb g1 ⟨by decide, by decide⟩ dX8_holder_20 (by decide) (fun c2 => ?_) (fun c2 => ?_)
    · have h := it_pos c2 h
      refine lv_iload_n hx hb dX8_holder_64 rfl (lv_at hl 2 rfl) ?_
      obtain rfl := so_inj h
      exact re_i hx hb hlk hr cx hw (Nat.le_of_ble_eq_true rfl) (Nat.le_of_ble_eq_true rfl) dX8_holder_65
    · have h := it_neg c2 h
      refine lv_iload_n hx hb dX8_holder_23 rfl (lv_at hl 2 rfl) ?_
      refine lv_iload_n hx hb dX8_holder_24 rfl (lv_at hl 3 rfl) ?_
      obtain ⟨g3, h⟩ := gd_some h
      obtain ⟨g4, h⟩ := gd_some h
      refine ri_icmp_ge (tgt := 64) hx hb g3 g4 dX8_holder_25 (by decide) (fun c5 => ?_) (fun c5 => ?_)
      · have h := it_pos c5 h
        refine lv_iload_n hx hb dX8_holder_64 rfl (lv_at hl 2 rfl) ?_
        obtain rfl := so_inj h
        exact re_i hx hb hlk hr cx hw (Nat.le_of_ble_eq_true rfl) (Nat.le_of_ble_eq_true rfl) dX8_holder_65
      · have h := it_neg c5 h
        refine lv_iload_n hx hb dX8_holder_28 rfl (lv_at hl 2 rfl) ?_
        refine lv_iload_n hx hb dX8_holder_29 rfl (lv_at hl 3 rfl) ?_
        refine ri_iadd hx hb dX8_holder_30 ?_
        refine ri_iconst hx hb dX8_holder_31 ?_
        obtain ⟨g6, h⟩ := gd_some h
        refine ri_idiv hx hb g6 dX8_holder_32 ?_
        refine lv_istore (lv' := [(5, .int (kI ((y2 + y3) / 2))), (0, .ref a_t), (1, .int (kI x1)), (2, .int (kI y2)), (3, .int (kI y3)), (4, .int (kI y4))]) hx hb dX8_holder_33 hl (by decide) rfl (fun ls hl => ?_)
        refine lv_aload_n hx hb dX8_holder_35 rfl (lv_at hl 1 rfl) ?_
        refine lv_iload hx hb dX8_holder_36 (lv_at hl 0 rfl) ?_
        refine ri_iconst hx hb dX8_holder_38 ?_
        refine ri_iadd hx hb dX8_holder_39 ?_
        obtain ⟨r7, h7, h⟩ := bd_some h
        refine rc_I0 (v := r7) hw [0, 1, 2, 3, 4, 5] (rr_V cx hw (c_X8_casesAhead l G S H.size N a_t a_t_score a_t_good a_t_bad a_t_goodAhead a_t_badAhead t_size t_score t_good t_bad t_goodAhead t_badAhead (((y2 + y3) / 2) + 1) _ h7) mv_X8_56 [0, 1, 2, 3, 4, 5] rfl rfl rfl 0 rfl rfl ⟨Nat.le_of_ble_eq_true rfl, Nat.le_of_ble_eq_true rfl⟩ rfl hl.1 rfl (Nat.le_of_ble_eq_true rfl) dX8_holder_40 ⟨Nat.le_of_ble_eq_true rfl, Nat.le_of_ble_eq_true rfl⟩) rfl rfl (fun H locs hw => ?_)
        refine lv_iload_n hx hb dX8_holder_43 rfl (lv_at hl 2 rfl) ?_
        obtain ⟨g8, h⟩ := gd_some h
        obtain ⟨g9, h⟩ := gd_some h
        refine ri_icmp_le (tgt := 53) hx hb g8 g9 dX8_holder_44 (by decide) (fun c10 => ?_) (fun c10 => ?_)
        · have h := it_pos c10 h
          refine lv_iload hx hb dX8_holder_53 (lv_at hl 0 rfl) ?_
          refine ri_iconst hx hb dX8_holder_55 ?_
          refine ri_iadd hx hb dX8_holder_56 ?_
          refine lv_istore_n (lv' := [(2, .int (kI (((y2 + y3) / 2) + 1))), (5, .int (kI ((y2 + y3) / 2))), (0, .ref a_t), (1, .int (kI x1)), (3, .int (kI y3)), (4, .int (kI y4))]) hx hb dX8_holder_57 rfl hl (by decide) rfl (fun ls hl => ?_)
          exact w_X8_holder_b58 cx hlk hr N a_t a_t_score a_t_good a_t_bad a_t_goodAhead a_t_badAhead t_size t_score t_good t_bad t_goodAhead t_badAhead x1 r (m_X8_holder_b16 N t_size t_goodAhead t_badAhead x1 n) ih (((y2 + y3) / 2) + 1) y3 y4 h _ _ _ hw (lv_sub hl [2, 3, 0, 4, 5] rfl)
        · have h := it_neg c10 h
          refine lv_iload hx hb dX8_holder_47 (lv_at hl 0 rfl) ?_
          refine lv_istore_n (lv' := [(3, .int (kI ((y2 + y3) / 2))), (5, .int (kI ((y2 + y3) / 2))), (0, .ref a_t), (1, .int (kI x1)), (2, .int (kI y2)), (4, .int (kI y4))]) hx hb dX8_holder_49 rfl hl (by decide) rfl (fun ls hl => ?_)
          refine lv_goto (tgt := 58) hx hb dX8_holder_50 (by decide) ?_
          exact w_X8_holder_b58 cx hlk hr N a_t a_t_score a_t_good a_t_bad a_t_goodAhead a_t_badAhead t_size t_score t_good t_bad t_goodAhead t_badAhead x1 r (m_X8_holder_b16 N t_size t_goodAhead t_badAhead x1 n) ih y2 ((y2 + y3) / 2) y4 h _ _ _ hw (lv_sub hl [2, 3, 4, 0, 5] rfl)
set_option maxHeartbeats 4000000 in
set_option maxRecDepth 100000 in
theorem c_X8_holder (l : Launch) (G : GG) (S : SM) (sz : Nat) (N : Nat) (a_t a_t_score a_t_good a_t_bad a_t_goodAhead a_t_badAhead : Nat) (t_size : Int) (t_score : Int → Int) (t_good : Int → Int) (t_bad : Int → Int) (t_goodAhead : Int → Int) (t_badAhead : Int → Int) (x1 : Int) (r : Int) (h : m_X8_holder N t_size t_goodAhead t_badAhead x1 = some r) : CtI l yX8_holder cX8_holder 6 .int (rmD 2 0 0) G S sz [.ref a_t, .int (kI x1)] [(a_t, .inr (7, [.ref a_t_score, .ref a_t_good, .ref a_t_bad, .ref a_t_goodAhead, .ref a_t_badAhead, .int (kI t_size)])), (a_t_score, cAI G 60 t_score), (a_t_good, cAI G 60 t_good), (a_t_bad, cAI G 60 t_bad), (a_t_goodAhead, cAI G 61 t_goodAhead), (a_t_badAhead, cAI G 61 t_badAhead)] r [(a_t, .inr (7, [.ref a_t_score, .ref a_t_good, .ref a_t_bad, .ref a_t_goodAhead, .ref a_t_badAhead, .int (kI t_size)])), (a_t_score, cAI G 60 t_score), (a_t_good, cAI G 60 t_good), (a_t_bad, cAI G 60 t_bad), (a_t_goodAhead, cAI G 61 t_goodAhead), (a_t_badAhead, cAI G 61 t_badAhead)] := by
  refine met_I (by decide +kernel) (Nat.le_of_ble_eq_true rfl) ?_
  intro p e s m args below meth c A H locs ls cx hw hr hlk hnm hl
  have hl : lv_has ls 6 [(0, .ref a_t), (1, .int (kI x1))] := hl
  rw [m_X8_holder] at h
  obtain ⟨⟨hx, hb, -, -, -⟩, -⟩ := id cx
  refine ri_iconst hx hb dX8_holder_0 ?_
  refine lv_istore_n (lv' := [(2, .int (kI 0)), (0, .ref a_t), (1, .int (kI x1))]) hx hb dX8_holder_1 rfl hl (by decide) rfl (fun ls hl => ?_)
  refine lv_aload_n hx hb dX8_holder_2 rfl (lv_at hl 1 rfl) ?_
  refine rf_get hx hb cx hw 0 rfl rfl 5 inX8 (by decide) fl_X8_27 rfl rfl dX8_holder_3 ?_
  refine ri_iconst hx hb dX8_holder_6 ?_
  refine ri_isub hx hb dX8_holder_7 ?_
  refine ri_iconst hx hb dX8_holder_8 ?_
  obtain ⟨g1, h⟩ := gd_some h
  refine rj_max g1 ⟨by decide, by decide⟩ hx hb cx hl.1 jl_X8_69 (Nat.le_of_ble_eq_true rfl) (Nat.le_of_ble_eq_true rfl) (Nat.le_of_ble_eq_true rfl) (Nat.le_of_ble_eq_true rfl) dX8_holder_9 ?_
  refine lv_istore_n (lv' := [(3, .int (kI (max (t_size - 1) 0))), (2, .int (kI 0)), (0, .ref a_t), (1, .int (kI x1))]) hx hb dX8_holder_12 rfl hl (by decide) rfl (fun ls hl => ?_)
  refine ri_iconst hx hb dX8_holder_13 ?_
  refine lv_istore (lv' := [(4, .int (kI 0)), (3, .int (kI (max (t_size - 1) 0))), (2, .int (kI 0)), (0, .ref a_t), (1, .int (kI x1))]) hx hb dX8_holder_14 hl (by decide) rfl (fun ls hl => ?_)
  exact w_X8_holder_b16 cx hlk hr N a_t a_t_score a_t_good a_t_bad a_t_goodAhead a_t_badAhead t_size t_score t_good t_bad t_goodAhead t_badAhead x1 r N 0 (max (t_size - 1) 0) 0 h _ _ _ hw (lv_sub hl [3, 4, 2, 1, 0] rfl)
def PL_X8_closeUp_b7 (p : Program) (l : Launch) (e : Env) (s : State) (m : MethodId) (args : Array Value) (below : List Frame) (meth : Method) (c : Code) (A : Nat → Prop) (G : GG) (S : SM) (a_t a_t_score a_t_good a_t_bad a_t_goodAhead a_t_badAhead a_p1 a_p1_score a_p1_good a_p1_bad a_p1_goodAhead a_p1_badAhead : Nat) (t_goodAhead : Int → Int) (t_badAhead : Int → Int) (p1_size : Int) (p1_score : Int → Int) (p1_good : Int → Int) (p1_bad : Int → Int) (p1_goodAhead : Int → Int) (p1_badAhead : Int → Int) (r : Int × (Int → Int) × (Int → Int) × (Int → Int)) (kk : Int → (Int → Int) → (Int → Int) → (Int → Int) → Int → Option (Int × (Int → Int) × (Int → Int) × (Int → Int))) : Prop := ∀ (t_size : Int) (t_score : Int → Int) (t_good : Int → Int) (t_bad : Int → Int) (y2 : Int), kk t_size t_score t_good t_bad y2 = some r → ∀ (H : Heap) (locs : List Loc) (ls : Array Slot), HP G A s.heap H locs [(a_t, .inr (7, [.ref a_t_score, .ref a_t_good, .ref a_t_bad, .ref a_t_goodAhead, .ref a_t_badAhead, .int (kI t_size)])), (a_t_score, cAI G 60 t_score), (a_t_good, cAI G 60 t_good), (a_t_bad, cAI G 60 t_bad), (a_t_goodAhead, cAI G 61 t_goodAhead), (a_t_badAhead, cAI G 61 t_badAhead), (a_p1, .inr (7, [.ref a_p1_score, .ref a_p1_good, .ref a_p1_bad, .ref a_p1_goodAhead, .ref a_p1_badAhead, .int (kI p1_size)])), (a_p1_score, cAI G 60 p1_score), (a_p1_good, cAI G 60 p1_good), (a_p1_bad, cAI G 60 p1_bad), (a_p1_goodAhead, cAI G 61 p1_goodAhead), (a_p1_badAhead, cAI G 61 p1_badAhead)] → lv_has ls 3 [(0, .ref a_t), (1, .ref a_p1), (2, .int (kI y2))] → W p l e (rmD 1 0 0) s m args below meth c H locs 0 0 (MQ below (QcV G A [(a_t, .inr (7, [.ref a_t_score, .ref a_t_good, .ref a_t_bad, .ref a_t_goodAhead, .ref a_t_badAhead, .int (kI r.1)])), (a_t_score, cAI G 60 r.2.1), (a_t_good, cAI G 60 r.2.2.1), (a_t_bad, cAI G 60 r.2.2.2), (a_t_goodAhead, cAI G 61 t_goodAhead), (a_t_badAhead, cAI G 61 t_badAhead), (a_p1, .inr (7, [.ref a_p1_score, .ref a_p1_good, .ref a_p1_bad, .ref a_p1_goodAhead, .ref a_p1_badAhead, .int (kI p1_size)])), (a_p1_score, cAI G 60 p1_score), (a_p1_good, cAI G 60 p1_good), (a_p1_bad, cAI G 60 p1_bad), (a_p1_goodAhead, cAI G 61 p1_goodAhead), (a_p1_badAhead, cAI G 61 p1_badAhead)]) args s (rmD 1 0 0).cells (rmD 1 0 0).slots A) (F0 m 7 ls [])
set_option maxHeartbeats 4000000 in
set_option maxRecDepth 100000 in
theorem w_X8_closeUp_b86 {p : Program} {l : Launch} {e : Env} {s : State} {m : MethodId} {args : Array Value} {below : List Frame} {meth : Method} {c : Code} {A : Nat → Prop} {G : GG} {S : SM} (cx : CX p s m args c cX8_closeUp RX8 3 G S A) (hlk : meth.locks = false) (hr : meth.sig.returnType = none) (N : Nat) (a_t a_t_score a_t_good a_t_bad a_t_goodAhead a_t_badAhead a_p1 a_p1_score a_p1_good a_p1_bad a_p1_goodAhead a_p1_badAhead : Nat) (t_goodAhead : Int → Int) (t_badAhead : Int → Int) (p1_size : Int) (p1_score : Int → Int) (p1_good : Int → Int) (p1_bad : Int → Int) (p1_goodAhead : Int → Int) (p1_badAhead : Int → Int) (r : Int × (Int → Int) × (Int → Int) × (Int → Int)) (k7 : Int → (Int → Int) → (Int → Int) → (Int → Int) → Int → Option (Int × (Int → Int) × (Int → Int) × (Int → Int))) (hk7 : PL_X8_closeUp_b7 p l e s m args below meth c A G S a_t a_t_score a_t_good a_t_bad a_t_goodAhead a_t_badAhead a_p1 a_p1_score a_p1_good a_p1_bad a_p1_goodAhead a_p1_badAhead t_goodAhead t_badAhead p1_size p1_score p1_good p1_bad p1_goodAhead p1_badAhead r k7) : ∀ (t_size : Int) (t_score : Int → Int) (t_good : Int → Int) (t_bad : Int → Int) (y2 : Int), m_X8_closeUp_b86 N p1_size p1_score k7 t_size t_score t_good t_bad y2 = some r → ∀ (H : Heap) (locs : List Loc) (ls : Array Slot), HP G A s.heap H locs [(a_t, .inr (7, [.ref a_t_score, .ref a_t_good, .ref a_t_bad, .ref a_t_goodAhead, .ref a_t_badAhead, .int (kI t_size)])), (a_t_score, cAI G 60 t_score), (a_t_good, cAI G 60 t_good), (a_t_bad, cAI G 60 t_bad), (a_t_goodAhead, cAI G 61 t_goodAhead), (a_t_badAhead, cAI G 61 t_badAhead), (a_p1, .inr (7, [.ref a_p1_score, .ref a_p1_good, .ref a_p1_bad, .ref a_p1_goodAhead, .ref a_p1_badAhead, .int (kI p1_size)])), (a_p1_score, cAI G 60 p1_score), (a_p1_good, cAI G 60 p1_good), (a_p1_bad, cAI G 60 p1_bad), (a_p1_goodAhead, cAI G 61 p1_goodAhead), (a_p1_badAhead, cAI G 61 p1_badAhead)] → lv_has ls 3 [(0, .ref a_t), (1, .ref a_p1), (2, .int (kI y2))] → W p l e (rmD 1 0 0) s m args below meth c H locs 0 0 (MQ below (QcV G A [(a_t, .inr (7, [.ref a_t_score, .ref a_t_good, .ref a_t_bad, .ref a_t_goodAhead, .ref a_t_badAhead, .int (kI r.1)])), (a_t_score, cAI G 60 r.2.1), (a_t_good, cAI G 60 r.2.2.1), (a_t_bad, cAI G 60 r.2.2.2), (a_t_goodAhead, cAI G 61 t_goodAhead), (a_t_badAhead, cAI G 61 t_badAhead), (a_p1, .inr (7, [.ref a_p1_score, .ref a_p1_good, .ref a_p1_bad, .ref a_p1_goodAhead, .ref a_p1_badAhead, .int (kI p1_size)])), (a_p1_score, cAI G 60 p1_score), (a_p1_good, cAI G 60 p1_good), (a_p1_bad, cAI G 60 p1_bad), (a_p1_goodAhead, cAI G 61 p1_goodAhead), (a_p1_badAhead, cAI G 61 p1_badAhead)]) args s (rmD 1 0 0).cells (rmD 1 0 0).slots A) (F0 m 86 ls []) := by
  intro t_size t_score t_good t_bad y2 h H locs ls hw hl
  rw [m_X8_closeUp_b86] at h
  obtain ⟨⟨hx, hb, -, -, -⟩, -⟩ := id cx
  refine lv_iinc (v := kI (y2 + 1)) (lv' := [(2, .int (kI (y2 + 1))), (0, .ref a_t), (1, .ref a_p1)]) hx hb dX8_closeUp_86 hl (k := 2) rfl (kI_add _ _) (by decide) rfl (fun ls hl => ?_)
  refine lv_goto (tgt := 7) hx hb dX8_closeUp_89 (by decide) ?_
  exact hk7 t_size t_score t_good t_bad (y2 + 1) h _ _ _ hw (lv_sub hl [1, 2, 0] rfl)
set_option maxHeartbeats 4000000 in
set_option maxRecDepth 100000 in
theorem w_X8_closeUp_b7 {p : Program} {l : Launch} {e : Env} {s : State} {m : MethodId} {args : Array Value} {below : List Frame} {meth : Method} {c : Code} {A : Nat → Prop} {G : GG} {S : SM} (cx : CX p s m args c cX8_closeUp RX8 3 G S A) (hlk : meth.locks = false) (hr : meth.sig.returnType = none) (N : Nat) (a_t a_t_score a_t_good a_t_bad a_t_goodAhead a_t_badAhead a_p1 a_p1_score a_p1_good a_p1_bad a_p1_goodAhead a_p1_badAhead : Nat) (t_goodAhead : Int → Int) (t_badAhead : Int → Int) (p1_size : Int) (p1_score : Int → Int) (p1_good : Int → Int) (p1_bad : Int → Int) (p1_goodAhead : Int → Int) (p1_badAhead : Int → Int) (r : Int × (Int → Int) × (Int → Int) × (Int → Int)) : ∀ n : Nat, PL_X8_closeUp_b7 p l e s m args below meth c A G S a_t a_t_score a_t_good a_t_bad a_t_goodAhead a_t_badAhead a_p1 a_p1_score a_p1_good a_p1_bad a_p1_goodAhead a_p1_badAhead t_goodAhead t_badAhead p1_size p1_score p1_good p1_bad p1_goodAhead p1_badAhead r (m_X8_closeUp_b7 N p1_size p1_score n) := by
  intro n
  induction n with
  | zero => intro t_size t_score t_good t_bad y2 h; exact nomatch h
  | succ n ih =>
    intro t_size t_score t_good t_bad y2 h H locs ls hw hl
    rw [m_X8_closeUp_b7] at h
    obtain ⟨⟨hx, hb, -, -, -⟩, -⟩ := id cx
    refine lv_iload_n hx hb dX8_closeUp_7 rfl (lv_at hl 2 rfl) ?_
    refine lv_aload_n hx hb dX8_closeUp_8 rfl (lv_at hl 1 rfl) ?_
    refine rf_get hx hb cx hw 6 rfl rfl 5 inX8 (by decide) fl_X8_27 rfl rfl dX8_closeUp_9 ?_
    obtain ⟨g1, h⟩ := gd_some h
    obtain ⟨g2, h⟩ := gd_some h
    refine ri_icmp_ge (tgt := 92) hx hb g1 g2 dX8_closeUp_12 (by decide) (fun c3 => ?_) (fun c3 => ?_)
    · have h := it_pos c3 h
      obtain rfl := so_inj h
      exact re_v hx hb hlk hr cx hw (Nat.le_of_ble_eq_true rfl) (Nat.le_of_ble_eq_true rfl) dX8_closeUp_92
    · have h := it_neg c3 h
      refine lv_aload_n hx hb dX8_closeUp_15 rfl (lv_at hl 0 rfl) ?_
      refine rf_get hx hb cx hw 0 rfl rfl 1 inX8 (by decide) fl_X8_15 rfl rfl dX8_closeUp_16 ?_
      refine lv_iload_n hx hb dX8_closeUp_19 rfl (lv_at hl 2 rfl) ?_
      obtain ⟨g4, h⟩ := gd_some h
      refine ra_i hx hb cx hw 2 rfl (by decide) g4 dX8_closeUp_20 ?_
      refine lv_aload_n hx hb dX8_closeUp_21 rfl (lv_at hl 0 rfl) ?_
      refine rf_get hx hb cx hw 0 rfl rfl 2 inX8 (by decide) fl_X8_18 rfl rfl dX8_closeUp_22 ?_
      refine lv_iload_n hx hb dX8_closeUp_25 rfl (lv_at hl 2 rfl) ?_
      refine ra_i hx hb cx hw 3 rfl (by decide) g4 dX8_closeUp_26 ?_
      refine ri_iadd hx hb dX8_closeUp_27 ?_
      obtain ⟨g5, h⟩ := gd_some h
      refine ri_if_le (tgt := 86) hx hb g5 dX8_closeUp_28 (by decide) (fun c6 => ?_) (fun c6 => ?_)
      · have h := it_pos c6 h
        exact w_X8_closeUp_b86 cx hlk hr N a_t a_t_score a_t_good a_t_bad a_t_goodAhead a_t_badAhead a_p1 a_p1_score a_p1_good a_p1_bad a_p1_goodAhead a_p1_badAhead t_goodAhead t_badAhead p1_size p1_score p1_good p1_bad p1_goodAhead p1_badAhead r (m_X8_closeUp_b7 N p1_size p1_score n) ih t_size t_score t_good t_bad y2 h _ _ _ hw (lv_sub hl [0, 1, 2] rfl)
      · have h := it_neg c6 h
        refine lv_aload_n hx hb dX8_closeUp_31 rfl (lv_at hl 0 rfl) ?_
        refine rf_get hx hb cx hw 0 rfl rfl 0 inX8 (by decide) fl_X8_9 rfl rfl dX8_closeUp_32 ?_
        refine lv_aload_n hx hb dX8_closeUp_35 rfl (lv_at hl 0 rfl) ?_
        refine rf_get hx hb cx hw 0 rfl rfl 5 inX8 (by decide) fl_X8_27 rfl rfl dX8_closeUp_36 ?_
        refine lv_aload_n hx hb dX8_closeUp_39 rfl (lv_at hl 1 rfl) ?_
        refine rf_get hx hb cx hw 6 rfl rfl 0 inX8 (by decide) fl_X8_9 rfl rfl dX8_closeUp_40 ?_
        refine lv_iload_n hx hb dX8_closeUp_43 rfl (lv_at hl 2 rfl) ?_
        refine ra_i hx hb cx hw 7 rfl (by decide) g4 dX8_closeUp_44 ?_
        obtain ⟨g7, h⟩ := gd_some h
        refine ra_si hx hb cx hw 1 rfl (by decide) g7 dX8_closeUp_45 (fun H locs hw => ?_)
        have hw : HP G A s.heap H locs [(a_t, .inr (7, [.ref a_t_score, .ref a_t_good, .ref a_t_bad, .ref a_t_goodAhead, .ref a_t_badAhead, .int (kI t_size)])), (a_t_score, cAI G 60 (uP t_score t_size (p1_score y2))), (a_t_good, cAI G 60 t_good), (a_t_bad, cAI G 60 t_bad), (a_t_goodAhead, cAI G 61 t_goodAhead), (a_t_badAhead, cAI G 61 t_badAhead), (a_p1, .inr (7, [.ref a_p1_score, .ref a_p1_good, .ref a_p1_bad, .ref a_p1_goodAhead, .ref a_p1_badAhead, .int (kI p1_size)])), (a_p1_score, cAI G 60 p1_score), (a_p1_good, cAI G 60 p1_good), (a_p1_bad, cAI G 60 p1_bad), (a_p1_goodAhead, cAI G 61 p1_goodAhead), (a_p1_badAhead, cAI G 61 p1_badAhead)] := hw
        refine lv_aload_n hx hb dX8_closeUp_46 rfl (lv_at hl 0 rfl) ?_
        refine rf_get hx hb cx hw 0 rfl rfl 1 inX8 (by decide) fl_X8_15 rfl rfl dX8_closeUp_47 ?_
        refine lv_aload_n hx hb dX8_closeUp_50 rfl (lv_at hl 0 rfl) ?_
        refine rf_get hx hb cx hw 0 rfl rfl 5 inX8 (by decide) fl_X8_27 rfl rfl dX8_closeUp_51 ?_
        refine lv_aload_n hx hb dX8_closeUp_54 rfl (lv_at hl 0 rfl) ?_
        refine rf_get hx hb cx hw 0 rfl rfl 1 inX8 (by decide) fl_X8_15 rfl rfl dX8_closeUp_55 ?_
        refine lv_iload_n hx hb dX8_closeUp_58 rfl (lv_at hl 2 rfl) ?_
        refine ra_i hx hb cx hw 2 rfl (by decide) g4 dX8_closeUp_59 ?_
        refine ra_si hx hb cx hw 2 rfl (by decide) g7 dX8_closeUp_60 (fun H locs hw => ?_)
        have hw : HP G A s.heap H locs [(a_t, .inr (7, [.ref a_t_score, .ref a_t_good, .ref a_t_bad, .ref a_t_goodAhead, .ref a_t_badAhead, .int (kI t_size)])), (a_t_score, cAI G 60 (uP t_score t_size (p1_score y2))), (a_t_good, cAI G 60 (uP t_good t_size (t_good y2))), (a_t_bad, cAI G 60 t_bad), (a_t_goodAhead, cAI G 61 t_goodAhead), (a_t_badAhead, cAI G 61 t_badAhead), (a_p1, .inr (7, [.ref a_p1_score, .ref a_p1_good, .ref a_p1_bad, .ref a_p1_goodAhead, .ref a_p1_badAhead, .int (kI p1_size)])), (a_p1_score, cAI G 60 p1_score), (a_p1_good, cAI G 60 p1_good), (a_p1_bad, cAI G 60 p1_bad), (a_p1_goodAhead, cAI G 61 p1_goodAhead), (a_p1_badAhead, cAI G 61 p1_badAhead)] := hw
        refine lv_aload_n hx hb dX8_closeUp_61 rfl (lv_at hl 0 rfl) ?_
        refine rf_get hx hb cx hw 0 rfl rfl 2 inX8 (by decide) fl_X8_18 rfl rfl dX8_closeUp_62 ?_
        refine lv_aload_n hx hb dX8_closeUp_65 rfl (lv_at hl 0 rfl) ?_
        refine rf_get hx hb cx hw 0 rfl rfl 5 inX8 (by decide) fl_X8_27 rfl rfl dX8_closeUp_66 ?_
        refine lv_aload_n hx hb dX8_closeUp_69 rfl (lv_at hl 0 rfl) ?_
        refine rf_get hx hb cx hw 0 rfl rfl 2 inX8 (by decide) fl_X8_18 rfl rfl dX8_closeUp_70 ?_
        refine lv_iload_n hx hb dX8_closeUp_73 rfl (lv_at hl 2 rfl) ?_
        refine ra_i hx hb cx hw 3 rfl (by decide) g4 dX8_closeUp_74 ?_
        refine ra_si hx hb cx hw 3 rfl (by decide) g7 dX8_closeUp_75 (fun H locs hw => ?_)
        have hw : HP G A s.heap H locs [(a_t, .inr (7, [.ref a_t_score, .ref a_t_good, .ref a_t_bad, .ref a_t_goodAhead, .ref a_t_badAhead, .int (kI t_size)])), (a_t_score, cAI G 60 (uP t_score t_size (p1_score y2))), (a_t_good, cAI G 60 (uP t_good t_size (t_good y2))), (a_t_bad, cAI G 60 (uP t_bad t_size (t_bad y2))), (a_t_goodAhead, cAI G 61 t_goodAhead), (a_t_badAhead, cAI G 61 t_badAhead), (a_p1, .inr (7, [.ref a_p1_score, .ref a_p1_good, .ref a_p1_bad, .ref a_p1_goodAhead, .ref a_p1_badAhead, .int (kI p1_size)])), (a_p1_score, cAI G 60 p1_score), (a_p1_good, cAI G 60 p1_good), (a_p1_bad, cAI G 60 p1_bad), (a_p1_goodAhead, cAI G 61 p1_goodAhead), (a_p1_badAhead, cAI G 61 p1_badAhead)] := hw
        refine lv_aload_n hx hb dX8_closeUp_76 rfl (lv_at hl 0 rfl) ?_
        refine lv_dup hx hb dX8_closeUp_77 rfl ?_
        refine rf_get hx hb cx hw 0 rfl rfl 5 inX8 (by decide) fl_X8_27 rfl rfl dX8_closeUp_78 ?_
        refine ri_iconst hx hb dX8_closeUp_81 ?_
        refine ri_iadd hx hb dX8_closeUp_82 ?_
        refine rf_put hx hb cx hw 0 rfl rfl 5 inX8 tyX8 tyX8_ok nmX8 (by decide) fl_X8_27 rfl rfl rfl rfl (Nat.le_of_ble_eq_true rfl) dX8_closeUp_83 (fun H locs hw => ?_)
        have hw : HP G A s.heap H locs [(a_t, .inr (7, [.ref a_t_score, .ref a_t_good, .ref a_t_bad, .ref a_t_goodAhead, .ref a_t_badAhead, .int (kI (t_size + 1))])), (a_t_score, cAI G 60 (uP t_score t_size (p1_score y2))), (a_t_good, cAI G 60 (uP t_good t_size (t_good y2))), (a_t_bad, cAI G 60 (uP t_bad t_size (t_bad y2))), (a_t_goodAhead, cAI G 61 t_goodAhead), (a_t_badAhead, cAI G 61 t_badAhead), (a_p1, .inr (7, [.ref a_p1_score, .ref a_p1_good, .ref a_p1_bad, .ref a_p1_goodAhead, .ref a_p1_badAhead, .int (kI p1_size)])), (a_p1_score, cAI G 60 p1_score), (a_p1_good, cAI G 60 p1_good), (a_p1_bad, cAI G 60 p1_bad), (a_p1_goodAhead, cAI G 61 p1_goodAhead), (a_p1_badAhead, cAI G 61 p1_badAhead)] := hw
        exact w_X8_closeUp_b86 cx hlk hr N a_t a_t_score a_t_good a_t_bad a_t_goodAhead a_t_badAhead a_p1 a_p1_score a_p1_good a_p1_bad a_p1_goodAhead a_p1_badAhead t_goodAhead t_badAhead p1_size p1_score p1_good p1_bad p1_goodAhead p1_badAhead r (m_X8_closeUp_b7 N p1_size p1_score n) ih (t_size + 1) (uP t_score t_size (p1_score y2)) (uP t_good t_size (t_good y2)) (uP t_bad t_size (t_bad y2)) y2 h _ _ _ hw (lv_sub hl [0, 1, 2] rfl)
set_option maxHeartbeats 4000000 in
set_option maxRecDepth 100000 in
theorem c_X8_closeUp (l : Launch) (G : GG) (S : SM) (sz : Nat) (N : Nat) (a_t a_t_score a_t_good a_t_bad a_t_goodAhead a_t_badAhead a_p1 a_p1_score a_p1_good a_p1_bad a_p1_goodAhead a_p1_badAhead : Nat) (t_size : Int) (t_score : Int → Int) (t_good : Int → Int) (t_bad : Int → Int) (t_goodAhead : Int → Int) (t_badAhead : Int → Int) (p1_size : Int) (p1_score : Int → Int) (p1_good : Int → Int) (p1_bad : Int → Int) (p1_goodAhead : Int → Int) (p1_badAhead : Int → Int)  (r : Int × (Int → Int) × (Int → Int) × (Int → Int)) (h : m_X8_closeUp N p1_size p1_score t_size t_score t_good t_bad = some r) : CtV l yX8_closeUp cX8_closeUp 3 (rmD 1 0 0) G S sz [.ref a_t, .ref a_p1] [(a_t, .inr (7, [.ref a_t_score, .ref a_t_good, .ref a_t_bad, .ref a_t_goodAhead, .ref a_t_badAhead, .int (kI t_size)])), (a_t_score, cAI G 60 t_score), (a_t_good, cAI G 60 t_good), (a_t_bad, cAI G 60 t_bad), (a_t_goodAhead, cAI G 61 t_goodAhead), (a_t_badAhead, cAI G 61 t_badAhead), (a_p1, .inr (7, [.ref a_p1_score, .ref a_p1_good, .ref a_p1_bad, .ref a_p1_goodAhead, .ref a_p1_badAhead, .int (kI p1_size)])), (a_p1_score, cAI G 60 p1_score), (a_p1_good, cAI G 60 p1_good), (a_p1_bad, cAI G 60 p1_bad), (a_p1_goodAhead, cAI G 61 p1_goodAhead), (a_p1_badAhead, cAI G 61 p1_badAhead)] [(a_t, .inr (7, [.ref a_t_score, .ref a_t_good, .ref a_t_bad, .ref a_t_goodAhead, .ref a_t_badAhead, .int (kI r.1)])), (a_t_score, cAI G 60 r.2.1), (a_t_good, cAI G 60 r.2.2.1), (a_t_bad, cAI G 60 r.2.2.2), (a_t_goodAhead, cAI G 61 t_goodAhead), (a_t_badAhead, cAI G 61 t_badAhead), (a_p1, .inr (7, [.ref a_p1_score, .ref a_p1_good, .ref a_p1_bad, .ref a_p1_goodAhead, .ref a_p1_badAhead, .int (kI p1_size)])), (a_p1_score, cAI G 60 p1_score), (a_p1_good, cAI G 60 p1_good), (a_p1_bad, cAI G 60 p1_bad), (a_p1_goodAhead, cAI G 61 p1_goodAhead), (a_p1_badAhead, cAI G 61 p1_badAhead)] := by
  refine met_V (by decide +kernel) (Nat.le_of_ble_eq_true rfl) ?_
  intro p e s m args below meth c A H locs ls cx hw hr hlk hnm hl
  have hl : lv_has ls 3 [(0, .ref a_t), (1, .ref a_p1)] := hl
  rw [m_X8_closeUp] at h
  obtain ⟨⟨hx, hb, -, -, -⟩, -⟩ := id cx
  refine lv_aload_n hx hb dX8_closeUp_0 rfl (lv_at hl 0 rfl) ?_
  refine ri_iconst hx hb dX8_closeUp_1 ?_
  refine rf_put hx hb cx hw 0 rfl rfl 5 inX8 tyX8 tyX8_ok nmX8 (by decide) fl_X8_27 rfl rfl rfl rfl (Nat.le_of_ble_eq_true rfl) dX8_closeUp_2 (fun H locs hw => ?_)
  have hw : HP G A s.heap H locs [(a_t, .inr (7, [.ref a_t_score, .ref a_t_good, .ref a_t_bad, .ref a_t_goodAhead, .ref a_t_badAhead, .int (kI 0)])), (a_t_score, cAI G 60 t_score), (a_t_good, cAI G 60 t_good), (a_t_bad, cAI G 60 t_bad), (a_t_goodAhead, cAI G 61 t_goodAhead), (a_t_badAhead, cAI G 61 t_badAhead), (a_p1, .inr (7, [.ref a_p1_score, .ref a_p1_good, .ref a_p1_bad, .ref a_p1_goodAhead, .ref a_p1_badAhead, .int (kI p1_size)])), (a_p1_score, cAI G 60 p1_score), (a_p1_good, cAI G 60 p1_good), (a_p1_bad, cAI G 60 p1_bad), (a_p1_goodAhead, cAI G 61 p1_goodAhead), (a_p1_badAhead, cAI G 61 p1_badAhead)] := hw
  refine ri_iconst hx hb dX8_closeUp_5 ?_
  refine lv_istore_n (lv' := [(2, .int (kI 0)), (0, .ref a_t), (1, .ref a_p1)]) hx hb dX8_closeUp_6 rfl hl (by decide) rfl (fun ls hl => ?_)
  exact w_X8_closeUp_b7 cx hlk hr N a_t a_t_score a_t_good a_t_bad a_t_goodAhead a_t_badAhead a_p1 a_p1_score a_p1_good a_p1_bad a_p1_goodAhead a_p1_badAhead t_goodAhead t_badAhead p1_size p1_score p1_good p1_bad p1_goodAhead p1_badAhead r N 0 t_score t_good t_bad 0 h _ _ _ hw (lv_sub hl [1, 2, 0] rfl)
def PL_X8_drawFrom_b28 (p : Program) (l : Launch) (e : Env) (s : State) (m : MethodId) (args : Array Value) (below : List Frame) (meth : Method) (c : Code) (A : Nat → Prop) (G : GG) (S : SM) (a_t a_t_score a_t_good a_t_bad a_t_goodAhead a_t_badAhead a_p1 a_p1_score a_p1_good a_p1_bad a_p1_goodAhead a_p1_badAhead : Nat) (p1_size : Int) (p1_score : Int → Int) (p1_good : Int → Int) (p1_bad : Int → Int) (p1_goodAhead : Int → Int) (p1_badAhead : Int → Int) (x2 : Int) (t_size : Int) (t_score : Int → Int) (t_goodAhead : Int → Int) (t_badAhead : Int → Int) (y4 : Int) (r : Int × (Int → Int) × (Int → Int) × (Int → Int) × (Int → Int) × (Int → Int)) (kk : (Int → Int) → (Int → Int) → Int → Int → Option (Int × (Int → Int) × (Int → Int) × (Int → Int) × (Int → Int) × (Int → Int))) : Prop := ∀ (t_good : Int → Int) (t_bad : Int → Int) (y5 : Int) (y7 : Int), kk t_good t_bad y5 y7 = some r → ∀ (H : Heap) (locs : List Loc) (ls : Array Slot), HP G A s.heap H locs [(a_t, .inr (7, [.ref a_t_score, .ref a_t_good, .ref a_t_bad, .ref a_t_goodAhead, .ref a_t_badAhead, .int (kI t_size)])), (a_t_score, cAI G 60 t_score), (a_t_good, cAI G 60 t_good), (a_t_bad, cAI G 60 t_bad), (a_t_goodAhead, cAI G 61 t_goodAhead), (a_t_badAhead, cAI G 61 t_badAhead), (a_p1, .inr (7, [.ref a_p1_score, .ref a_p1_good, .ref a_p1_bad, .ref a_p1_goodAhead, .ref a_p1_badAhead, .int (kI p1_size)])), (a_p1_score, cAI G 60 p1_score), (a_p1_good, cAI G 60 p1_good), (a_p1_bad, cAI G 60 p1_bad), (a_p1_goodAhead, cAI G 61 p1_goodAhead), (a_p1_badAhead, cAI G 61 p1_badAhead)] → lv_has ls 10 [(0, .ref a_t), (1, .ref a_p1), (4, .int (kI y4)), (5, .long (kL y5)), (7, .int (kI y7))] → W p l e (rmD 3 0 0) s m args below meth c H locs 0 0 (MQ below (QcV G A [(a_t, .inr (7, [.ref a_t_score, .ref a_t_good, .ref a_t_bad, .ref a_t_goodAhead, .ref a_t_badAhead, .int (kI r.1)])), (a_t_score, cAI G 60 r.2.1), (a_t_good, cAI G 60 r.2.2.1), (a_t_bad, cAI G 60 r.2.2.2.1), (a_t_goodAhead, cAI G 61 r.2.2.2.2.1), (a_t_badAhead, cAI G 61 r.2.2.2.2.2), (a_p1, .inr (7, [.ref a_p1_score, .ref a_p1_good, .ref a_p1_bad, .ref a_p1_goodAhead, .ref a_p1_badAhead, .int (kI p1_size)])), (a_p1_score, cAI G 60 p1_score), (a_p1_good, cAI G 60 p1_good), (a_p1_bad, cAI G 60 p1_bad), (a_p1_goodAhead, cAI G 61 p1_goodAhead), (a_p1_badAhead, cAI G 61 p1_badAhead)]) args s (rmD 3 0 0).cells (rmD 3 0 0).slots A) (F0 m 28 ls [])
set_option maxHeartbeats 4000000 in
set_option maxRecDepth 100000 in
theorem w_X8_drawFrom_b111 {p : Program} {l : Launch} {e : Env} {s : State} {m : MethodId} {args : Array Value} {below : List Frame} {meth : Method} {c : Code} {A : Nat → Prop} {G : GG} {S : SM} (cx : CX p s m args c cX8_drawFrom RX8 10 G S A) (hlk : meth.locks = false) (hr : meth.sig.returnType = none) (N : Nat) (a_t a_t_score a_t_good a_t_bad a_t_goodAhead a_t_badAhead a_p1 a_p1_score a_p1_good a_p1_bad a_p1_goodAhead a_p1_badAhead : Nat) (p1_size : Int) (p1_score : Int → Int) (p1_good : Int → Int) (p1_bad : Int → Int) (p1_goodAhead : Int → Int) (p1_badAhead : Int → Int) (x2 : Int) (t_size : Int) (t_score : Int → Int) (t_goodAhead : Int → Int) (t_badAhead : Int → Int) (y4 : Int) (r : Int × (Int → Int) × (Int → Int) × (Int → Int) × (Int → Int) × (Int → Int)) (k28 : (Int → Int) → (Int → Int) → Int → Int → Option (Int × (Int → Int) × (Int → Int) × (Int → Int) × (Int → Int) × (Int → Int))) (hk28 : PL_X8_drawFrom_b28 p l e s m args below meth c A G S a_t a_t_score a_t_good a_t_bad a_t_goodAhead a_t_badAhead a_p1 a_p1_score a_p1_good a_p1_bad a_p1_goodAhead a_p1_badAhead p1_size p1_score p1_good p1_bad p1_goodAhead p1_badAhead x2 t_size t_score t_goodAhead t_badAhead y4 r k28) : ∀ (t_good : Int → Int) (t_bad : Int → Int) (y5 : Int) (y7 : Int), m_X8_drawFrom_b111 N p1_size p1_score p1_good p1_goodAhead p1_badAhead x2 t_size t_score t_goodAhead t_badAhead y4 k28 t_good t_bad y5 y7 = some r → ∀ (H : Heap) (locs : List Loc) (ls : Array Slot), HP G A s.heap H locs [(a_t, .inr (7, [.ref a_t_score, .ref a_t_good, .ref a_t_bad, .ref a_t_goodAhead, .ref a_t_badAhead, .int (kI t_size)])), (a_t_score, cAI G 60 t_score), (a_t_good, cAI G 60 t_good), (a_t_bad, cAI G 60 t_bad), (a_t_goodAhead, cAI G 61 t_goodAhead), (a_t_badAhead, cAI G 61 t_badAhead), (a_p1, .inr (7, [.ref a_p1_score, .ref a_p1_good, .ref a_p1_bad, .ref a_p1_goodAhead, .ref a_p1_badAhead, .int (kI p1_size)])), (a_p1_score, cAI G 60 p1_score), (a_p1_good, cAI G 60 p1_good), (a_p1_bad, cAI G 60 p1_bad), (a_p1_goodAhead, cAI G 61 p1_goodAhead), (a_p1_badAhead, cAI G 61 p1_badAhead)] → lv_has ls 10 [(0, .ref a_t), (1, .ref a_p1), (4, .int (kI y4)), (5, .long (kL y5)), (7, .int (kI y7))] → W p l e (rmD 3 0 0) s m args below meth c H locs 0 0 (MQ below (QcV G A [(a_t, .inr (7, [.ref a_t_score, .ref a_t_good, .ref a_t_bad, .ref a_t_goodAhead, .ref a_t_badAhead, .int (kI r.1)])), (a_t_score, cAI G 60 r.2.1), (a_t_good, cAI G 60 r.2.2.1), (a_t_bad, cAI G 60 r.2.2.2.1), (a_t_goodAhead, cAI G 61 r.2.2.2.2.1), (a_t_badAhead, cAI G 61 r.2.2.2.2.2), (a_p1, .inr (7, [.ref a_p1_score, .ref a_p1_good, .ref a_p1_bad, .ref a_p1_goodAhead, .ref a_p1_badAhead, .int (kI p1_size)])), (a_p1_score, cAI G 60 p1_score), (a_p1_good, cAI G 60 p1_good), (a_p1_bad, cAI G 60 p1_bad), (a_p1_goodAhead, cAI G 61 p1_goodAhead), (a_p1_badAhead, cAI G 61 p1_badAhead)]) args s (rmD 3 0 0).cells (rmD 3 0 0).slots A) (F0 m 111 ls []) := by
  intro t_good t_bad y5 y7 h H locs ls hw hl
  rw [m_X8_drawFrom_b111] at h
  obtain ⟨⟨hx, hb, -, -, -⟩, -⟩ := id cx
  refine lv_iinc (v := kI (y7 + 1)) (lv' := [(7, .int (kI (y7 + 1))), (0, .ref a_t), (1, .ref a_p1), (4, .int (kI y4)), (5, .long (kL y5))]) hx hb dX8_drawFrom_111 hl (k := 4) rfl (kI_add _ _) (by decide) rfl (fun ls hl => ?_)
  refine lv_goto (tgt := 28) hx hb dX8_drawFrom_114 (by decide) ?_
  exact hk28 t_good t_bad y5 (y7 + 1) h _ _ _ hw (lv_sub hl [1, 2, 3, 4, 0] rfl)
set_option maxHeartbeats 4000000 in
set_option maxRecDepth 100000 in
theorem w_X8_drawFrom_b28 {p : Program} {l : Launch} {e : Env} {s : State} {m : MethodId} {args : Array Value} {below : List Frame} {meth : Method} {c : Code} {A : Nat → Prop} {G : GG} {S : SM} (cx : CX p s m args c cX8_drawFrom RX8 10 G S A) (hlk : meth.locks = false) (hr : meth.sig.returnType = none) (N : Nat) (a_t a_t_score a_t_good a_t_bad a_t_goodAhead a_t_badAhead a_p1 a_p1_score a_p1_good a_p1_bad a_p1_goodAhead a_p1_badAhead : Nat) (p1_size : Int) (p1_score : Int → Int) (p1_good : Int → Int) (p1_bad : Int → Int) (p1_goodAhead : Int → Int) (p1_badAhead : Int → Int) (x2 : Int) (t_size : Int) (t_score : Int → Int) (t_goodAhead : Int → Int) (t_badAhead : Int → Int) (y4 : Int) (r : Int × (Int → Int) × (Int → Int) × (Int → Int) × (Int → Int) × (Int → Int)) : ∀ n : Nat, PL_X8_drawFrom_b28 p l e s m args below meth c A G S a_t a_t_score a_t_good a_t_bad a_t_goodAhead a_t_badAhead a_p1 a_p1_score a_p1_good a_p1_bad a_p1_goodAhead a_p1_badAhead p1_size p1_score p1_good p1_bad p1_goodAhead p1_badAhead x2 t_size t_score t_goodAhead t_badAhead y4 r (m_X8_drawFrom_b28 N p1_size p1_score p1_good p1_goodAhead p1_badAhead x2 t_size t_score t_goodAhead t_badAhead y4 n) := by
  intro n
  induction n with
  | zero => intro t_good t_bad y5 y7 h; exact nomatch h
  | succ n ih =>
    intro t_good t_bad y5 y7 h H locs ls hw hl
    rw [m_X8_drawFrom_b28] at h
    obtain ⟨⟨hx, hb, -, -, -⟩, -⟩ := id cx
    refine lv_iload hx hb dX8_drawFrom_28 (lv_at hl 4 rfl) ?_
    refine lv_iload hx hb dX8_drawFrom_30 (lv_at hl 2 rfl) ?_
    obtain ⟨g1, h⟩ := gd_some h
    obtain ⟨g2, h⟩ := gd_some h
    refine ri_icmp_ge (tgt := 117) hx hb g1 g2 dX8_drawFrom_32 (by decide) (fun c3 => ?_) (fun c3 => ?_)
    · have h := it_pos c3 h
      refine lv_aload_n hx hb dX8_drawFrom_117 rfl (lv_at hl 0 rfl) ?_
      refine lv_aload_n hx hb dX8_drawFrom_118 rfl (lv_at hl 1 rfl) ?_
      obtain ⟨r4, h4, h⟩ := bd_some h
      refine rc_V (w2 := [(a_t, .inr (7, [.ref a_t_score, .ref a_t_good, .ref a_t_bad, .ref a_t_goodAhead, .ref a_t_badAhead, .int (kI r4.1)])), (a_t_score, cAI G 60 r4.2.1), (a_t_good, cAI G 60 r4.2.2.1), (a_t_bad, cAI G 60 r4.2.2.2), (a_t_goodAhead, cAI G 61 t_goodAhead), (a_t_badAhead, cAI G 61 t_badAhead), (a_p1, .inr (7, [.ref a_p1_score, .ref a_p1_good, .ref a_p1_bad, .ref a_p1_goodAhead, .ref a_p1_badAhead, .int (kI p1_size)])), (a_p1_score, cAI G 60 p1_score), (a_p1_good, cAI G 60 p1_good), (a_p1_bad, cAI G 60 p1_bad), (a_p1_goodAhead, cAI G 61 p1_goodAhead), (a_p1_badAhead, cAI G 61 p1_badAhead)]) hw [0, 1, 2, 3, 4, 5, 6, 7, 8, 9, 10, 11] [] [0, 1, 2, 3, 4, 5, 6, 7, 8, 9, 10, 11] (rr_V cx hw (c_X8_closeUp l G S H.size N a_t a_t_score a_t_good a_t_bad a_t_goodAhead a_t_badAhead a_p1 a_p1_score a_p1_good a_p1_bad a_p1_goodAhead a_p1_badAhead t_size t_score t_good t_bad t_goodAhead t_badAhead p1_size p1_score p1_good p1_bad p1_goodAhead p1_badAhead _ h4) mv_X8_59 [0, 1, 2, 3, 4, 5, 6, 7, 8, 9, 10, 11] rfl rfl rfl 0 rfl rfl ⟨Nat.le_of_ble_eq_true rfl, Nat.le_of_ble_eq_true rfl⟩ rfl hl.1 rfl (Nat.le_of_ble_eq_true rfl) dX8_drawFrom_119 ⟨Nat.le_of_ble_eq_true rfl, Nat.le_of_ble_eq_true rfl⟩) rfl rfl rfl rfl rfl rfl rfl rfl (fun H locs hw => ?_)
      refine lv_aload_n hx hb dX8_drawFrom_122 rfl (lv_at hl 0 rfl) ?_
      obtain ⟨r5, h5, h⟩ := bd_some h
      refine rc_V (w2 := [(a_t, .inr (7, [.ref a_t_score, .ref a_t_good, .ref a_t_bad, .ref a_t_goodAhead, .ref a_t_badAhead, .int (kI r4.1)])), (a_t_score, cAI G 60 r4.2.1), (a_t_good, cAI G 60 r4.2.2.1), (a_t_bad, cAI G 60 r4.2.2.2), (a_t_goodAhead, cAI G 61 r5.1), (a_t_badAhead, cAI G 61 r5.2), (a_p1, .inr (7, [.ref a_p1_score, .ref a_p1_good, .ref a_p1_bad, .ref a_p1_goodAhead, .ref a_p1_badAhead, .int (kI p1_size)])), (a_p1_score, cAI G 60 p1_score), (a_p1_good, cAI G 60 p1_good), (a_p1_bad, cAI G 60 p1_bad), (a_p1_goodAhead, cAI G 61 p1_goodAhead), (a_p1_badAhead, cAI G 61 p1_badAhead)]) hw [0, 1, 2, 3, 4, 5] [6, 7, 8, 9, 10, 11] [6, 7, 8, 9, 10, 11, 0, 1, 2, 3, 4, 5] (rr_V cx hw (c_X8_sumUp l G S H.size N a_t a_t_score a_t_good a_t_bad a_t_goodAhead a_t_badAhead r4.1 r4.2.1 r4.2.2.1 r4.2.2.2 t_goodAhead t_badAhead _ h5) mv_X8_35 [0, 1, 2, 3, 4, 5] rfl rfl rfl 0 rfl rfl ⟨Nat.le_of_ble_eq_true rfl, Nat.le_of_ble_eq_true rfl⟩ rfl hl.1 rfl (Nat.le_of_ble_eq_true rfl) dX8_drawFrom_123 ⟨Nat.le_of_ble_eq_true rfl, Nat.le_of_ble_eq_true rfl⟩) rfl rfl rfl rfl rfl rfl rfl rfl (fun H locs hw => ?_)
      obtain rfl := so_inj h
      exact re_v hx hb hlk hr cx hw (Nat.le_of_ble_eq_true rfl) (Nat.le_of_ble_eq_true rfl) dX8_drawFrom_126
    · have h := it_neg c3 h
      refine lv_lload hx hb dX8_drawFrom_35 (lv_at hl 3 rfl) ?_
      refine lv_ldc2 (v := kL 6364136223846793005) hx hb cx.1.2.2.2.1 (cx.1.2.2.2.2 _ kc_X8_48) dX8_drawFrom_37 ?_
      refine ri_lmul hx hb dX8_drawFrom_40 ?_
      refine lv_ldc2 (v := kL 1442695040888963407) hx hb cx.1.2.2.2.1 (cx.1.2.2.2.2 _ kc_X8_50) dX8_drawFrom_41 ?_
      refine ri_ladd hx hb dX8_drawFrom_44 ?_
      refine lv_lstore (lv' := [(5, .long (kL ((y5 * 6364136223846793005) + 1442695040888963407))), (0, .ref a_t), (1, .ref a_p1), (4, .int (kI y4)), (7, .int (kI y7))]) hx hb dX8_drawFrom_45 hl (by decide) rfl (fun ls hl => ?_)
      refine lv_lload hx hb dX8_drawFrom_47 (lv_at hl 0 rfl) ?_
      refine ri_bipush hx hb dX8_drawFrom_49 rfl ?_
      refine ri_lushr (q := 8589934592) hx hb ⟨by decide, by decide⟩ rfl dX8_drawFrom_51 ?_
      refine lv_iload hx hb dX8_drawFrom_52 (lv_at hl 3 rfl) ?_
      refine ri_i2l hx hb g2 dX8_drawFrom_54 ?_
      obtain ⟨g6, h⟩ := gd_some h
      refine ri_lrem hx hb g6 dX8_drawFrom_55 ?_
      refine ri_l2i hx hb dX8_drawFrom_56 ?_
      refine lv_istore (lv' := [(8, .int (kI ((((y5 * 6364136223846793005) + 1442695040888963407) % 18446744073709551616 / 8589934592) % y4))), (5, .long (kL ((y5 * 6364136223846793005) + 1442695040888963407))), (0, .ref a_t), (1, .ref a_p1), (4, .int (kI y4)), (7, .int (kI y7))]) hx hb dX8_drawFrom_57 hl (by decide) rfl (fun ls hl => ?_)
      refine lv_aload_n hx hb dX8_drawFrom_59 rfl (lv_at hl 3 rfl) ?_
      refine lv_iload hx hb dX8_drawFrom_60 (lv_at hl 0 rfl) ?_
      obtain ⟨r7, h7, h⟩ := bd_some h
      refine rc_I0 (v := r7) hw [6, 7, 8, 9, 10, 11] (rr_V cx hw (c_X8_holder l G S H.size N a_p1 a_p1_score a_p1_good a_p1_bad a_p1_goodAhead a_p1_badAhead p1_size p1_score p1_good p1_bad p1_goodAhead p1_badAhead ((((y5 * 6364136223846793005) + 1442695040888963407) % 18446744073709551616 / 8589934592) % y4) _ h7) mv_X8_52 [6, 7, 8, 9, 10, 11] rfl rfl rfl 6 rfl rfl ⟨Nat.le_of_ble_eq_true rfl, Nat.le_of_ble_eq_true rfl⟩ rfl hl.1 rfl (Nat.le_of_ble_eq_true rfl) dX8_drawFrom_62 ⟨Nat.le_of_ble_eq_true rfl, Nat.le_of_ble_eq_true rfl⟩) rfl rfl (fun H locs hw => ?_)
      refine lv_istore (lv' := [(9, .int (kI r7)), (8, .int (kI ((((y5 * 6364136223846793005) + 1442695040888963407) % 18446744073709551616 / 8589934592) % y4))), (5, .long (kL ((y5 * 6364136223846793005) + 1442695040888963407))), (0, .ref a_t), (1, .ref a_p1), (4, .int (kI y4)), (7, .int (kI y7))]) hx hb dX8_drawFrom_65 hl (by decide) rfl (fun ls hl => ?_)
      refine lv_iload hx hb dX8_drawFrom_67 (lv_at hl 1 rfl) ?_
      refine lv_aload_n hx hb dX8_drawFrom_69 rfl (lv_at hl 4 rfl) ?_
      refine lv_iload hx hb dX8_drawFrom_70 (lv_at hl 0 rfl) ?_
      obtain ⟨r8, h8, h⟩ := bd_some h
      refine rc_I0 (v := r8) hw [6, 7, 8, 9, 10, 11] (rr_V cx hw (c_X8_casesAhead l G S H.size N a_p1 a_p1_score a_p1_good a_p1_bad a_p1_goodAhead a_p1_badAhead p1_size p1_score p1_good p1_bad p1_goodAhead p1_badAhead r7 _ h8) mv_X8_56 [6, 7, 8, 9, 10, 11] rfl rfl rfl 6 rfl rfl ⟨Nat.le_of_ble_eq_true rfl, Nat.le_of_ble_eq_true rfl⟩ rfl hl.1 rfl (Nat.le_of_ble_eq_true rfl) dX8_drawFrom_72 ⟨Nat.le_of_ble_eq_true rfl, Nat.le_of_ble_eq_true rfl⟩) rfl rfl (fun H locs hw => ?_)
      refine ri_isub hx hb dX8_drawFrom_75 ?_
      refine lv_aload_n hx hb dX8_drawFrom_76 rfl (lv_at hl 4 rfl) ?_
      refine rf_get hx hb cx hw 6 rfl rfl 1 inX8 (by decide) fl_X8_15 rfl rfl dX8_drawFrom_77 ?_
      refine lv_iload hx hb dX8_drawFrom_80 (lv_at hl 0 rfl) ?_
      obtain ⟨g9, h⟩ := gd_some h
      refine ra_i hx hb cx hw 8 rfl (by decide) g9 dX8_drawFrom_82 ?_
      obtain ⟨g10, h⟩ := gd_some h
      obtain ⟨g11, h⟩ := gd_some h
      refine ri_icmp_ge (tgt := 100) hx hb g10 g11 dX8_drawFrom_83 (by decide) (fun c12 => ?_) (fun c12 => ?_)
      · have h := it_pos c12 h
        refine lv_aload_n hx hb dX8_drawFrom_100 rfl (lv_at hl 3 rfl) ?_
        refine rf_get hx hb cx hw 0 rfl rfl 2 inX8 (by decide) fl_X8_18 rfl rfl dX8_drawFrom_101 ?_
        refine lv_iload hx hb dX8_drawFrom_104 (lv_at hl 0 rfl) ?_
        refine lv_dup2_11 hx hb dX8_drawFrom_106 rfl rfl ?_
        refine ra_i hx hb cx hw 3 rfl (by decide) g9 dX8_drawFrom_107 ?_
        refine ri_iconst hx hb dX8_drawFrom_108 ?_
        refine ri_iadd hx hb dX8_drawFrom_109 ?_
        refine ra_si hx hb cx hw 3 rfl (by decide) g9 dX8_drawFrom_110 (fun H locs hw => ?_)
        have hw : HP G A s.heap H locs [(a_t, .inr (7, [.ref a_t_score, .ref a_t_good, .ref a_t_bad, .ref a_t_goodAhead, .ref a_t_badAhead, .int (kI t_size)])), (a_t_score, cAI G 60 t_score), (a_t_good, cAI G 60 t_good), (a_t_bad, cAI G 60 (uP t_bad r7 ((t_bad r7) + 1))), (a_t_goodAhead, cAI G 61 t_goodAhead), (a_t_badAhead, cAI G 61 t_badAhead), (a_p1, .inr (7, [.ref a_p1_score, .ref a_p1_good, .ref a_p1_bad, .ref a_p1_goodAhead, .ref a_p1_badAhead, .int (kI p1_size)])), (a_p1_score, cAI G 60 p1_score), (a_p1_good, cAI G 60 p1_good), (a_p1_bad, cAI G 60 p1_bad), (a_p1_goodAhead, cAI G 61 p1_goodAhead), (a_p1_badAhead, cAI G 61 p1_badAhead)] := hw
        exact w_X8_drawFrom_b111 cx hlk hr N a_t a_t_score a_t_good a_t_bad a_t_goodAhead a_t_badAhead a_p1 a_p1_score a_p1_good a_p1_bad a_p1_goodAhead a_p1_badAhead p1_size p1_score p1_good p1_bad p1_goodAhead p1_badAhead x2 t_size t_score t_goodAhead t_badAhead y4 r (m_X8_drawFrom_b28 N p1_size p1_score p1_good p1_goodAhead p1_badAhead x2 t_size t_score t_goodAhead t_badAhead y4 n) ih t_good (uP t_bad r7 ((t_bad r7) + 1)) ((y5 * 6364136223846793005) + 1442695040888963407) y7 h _ _ _ hw (lv_sub hl [3, 4, 5, 2, 6] rfl)
      · have h := it_neg c12 h
        refine lv_aload_n hx hb dX8_drawFrom_86 rfl (lv_at hl 3 rfl) ?_
        refine rf_get hx hb cx hw 0 rfl rfl 1 inX8 (by decide) fl_X8_15 rfl rfl dX8_drawFrom_87 ?_
        refine lv_iload hx hb dX8_drawFrom_90 (lv_at hl 0 rfl) ?_
        refine lv_dup2_11 hx hb dX8_drawFrom_92 rfl rfl ?_
        refine ra_i hx hb cx hw 2 rfl (by decide) g9 dX8_drawFrom_93 ?_
        refine ri_iconst hx hb dX8_drawFrom_94 ?_
        refine ri_iadd hx hb dX8_drawFrom_95 ?_
        refine ra_si hx hb cx hw 2 rfl (by decide) g9 dX8_drawFrom_96 (fun H locs hw => ?_)
        have hw : HP G A s.heap H locs [(a_t, .inr (7, [.ref a_t_score, .ref a_t_good, .ref a_t_bad, .ref a_t_goodAhead, .ref a_t_badAhead, .int (kI t_size)])), (a_t_score, cAI G 60 t_score), (a_t_good, cAI G 60 (uP t_good r7 ((t_good r7) + 1))), (a_t_bad, cAI G 60 t_bad), (a_t_goodAhead, cAI G 61 t_goodAhead), (a_t_badAhead, cAI G 61 t_badAhead), (a_p1, .inr (7, [.ref a_p1_score, .ref a_p1_good, .ref a_p1_bad, .ref a_p1_goodAhead, .ref a_p1_badAhead, .int (kI p1_size)])), (a_p1_score, cAI G 60 p1_score), (a_p1_good, cAI G 60 p1_good), (a_p1_bad, cAI G 60 p1_bad), (a_p1_goodAhead, cAI G 61 p1_goodAhead), (a_p1_badAhead, cAI G 61 p1_badAhead)] := hw
        refine lv_goto (tgt := 111) hx hb dX8_drawFrom_97 (by decide) ?_
        exact w_X8_drawFrom_b111 cx hlk hr N a_t a_t_score a_t_good a_t_bad a_t_goodAhead a_t_badAhead a_p1 a_p1_score a_p1_good a_p1_bad a_p1_goodAhead a_p1_badAhead p1_size p1_score p1_good p1_bad p1_goodAhead p1_badAhead x2 t_size t_score t_goodAhead t_badAhead y4 r (m_X8_drawFrom_b28 N p1_size p1_score p1_good p1_goodAhead p1_badAhead x2 t_size t_score t_goodAhead t_badAhead y4 n) ih (uP t_good r7 ((t_good r7) + 1)) t_bad ((y5 * 6364136223846793005) + 1442695040888963407) y7 h _ _ _ hw (lv_sub hl [3, 4, 5, 2, 6] rfl)
set_option maxHeartbeats 4000000 in
set_option maxRecDepth 100000 in
theorem c_X8_drawFrom (l : Launch) (G : GG) (S : SM) (sz : Nat) (N : Nat) (a_t a_t_score a_t_good a_t_bad a_t_goodAhead a_t_badAhead a_p1 a_p1_score a_p1_good a_p1_bad a_p1_goodAhead a_p1_badAhead : Nat) (t_size : Int) (t_score : Int → Int) (t_good : Int → Int) (t_bad : Int → Int) (t_goodAhead : Int → Int) (t_badAhead : Int → Int) (p1_size : Int) (p1_score : Int → Int) (p1_good : Int → Int) (p1_bad : Int → Int) (p1_goodAhead : Int → Int) (p1_badAhead : Int → Int) (x2 : Int) (r : Int × (Int → Int) × (Int → Int) × (Int → Int) × (Int → Int) × (Int → Int)) (h : m_X8_drawFrom N p1_size p1_score p1_good p1_goodAhead p1_badAhead t_size t_score t_good t_bad t_goodAhead t_badAhead x2 = some r) : CtV l yX8_drawFrom cX8_drawFrom 10 (rmD 3 0 0) G S sz [.ref a_t, .ref a_p1, .long (kL x2)] [(a_t, .inr (7, [.ref a_t_score, .ref a_t_good, .ref a_t_bad, .ref a_t_goodAhead, .ref a_t_badAhead, .int (kI t_size)])), (a_t_score, cAI G 60 t_score), (a_t_good, cAI G 60 t_good), (a_t_bad, cAI G 60 t_bad), (a_t_goodAhead, cAI G 61 t_goodAhead), (a_t_badAhead, cAI G 61 t_badAhead), (a_p1, .inr (7, [.ref a_p1_score, .ref a_p1_good, .ref a_p1_bad, .ref a_p1_goodAhead, .ref a_p1_badAhead, .int (kI p1_size)])), (a_p1_score, cAI G 60 p1_score), (a_p1_good, cAI G 60 p1_good), (a_p1_bad, cAI G 60 p1_bad), (a_p1_goodAhead, cAI G 61 p1_goodAhead), (a_p1_badAhead, cAI G 61 p1_badAhead)] [(a_t, .inr (7, [.ref a_t_score, .ref a_t_good, .ref a_t_bad, .ref a_t_goodAhead, .ref a_t_badAhead, .int (kI r.1)])), (a_t_score, cAI G 60 r.2.1), (a_t_good, cAI G 60 r.2.2.1), (a_t_bad, cAI G 60 r.2.2.2.1), (a_t_goodAhead, cAI G 61 r.2.2.2.2.1), (a_t_badAhead, cAI G 61 r.2.2.2.2.2), (a_p1, .inr (7, [.ref a_p1_score, .ref a_p1_good, .ref a_p1_bad, .ref a_p1_goodAhead, .ref a_p1_badAhead, .int (kI p1_size)])), (a_p1_score, cAI G 60 p1_score), (a_p1_good, cAI G 60 p1_good), (a_p1_bad, cAI G 60 p1_bad), (a_p1_goodAhead, cAI G 61 p1_goodAhead), (a_p1_badAhead, cAI G 61 p1_badAhead)] := by
  refine met_V (by decide +kernel) (Nat.le_of_ble_eq_true rfl) ?_
  intro p e s m args below meth c A H locs ls cx hw hr hlk hnm hl
  have hl : lv_has ls 10 [(0, .ref a_t), (1, .ref a_p1), (2, .long (kL x2))] := hl
  rw [m_X8_drawFrom] at h
  obtain ⟨⟨hx, hb, -, -, -⟩, -⟩ := id cx
  refine lv_aload_n hx hb dX8_drawFrom_0 rfl (lv_at hl 0 rfl) ?_
  refine rf_get hx hb cx hw 0 rfl rfl 1 inX8 (by decide) fl_X8_15 rfl rfl dX8_drawFrom_1 ?_
  refine ri_iconst hx hb dX8_drawFrom_4 ?_
  obtain ⟨r1, h1, h⟩ := bd_some h
  refine rc_V (w2 := [(a_t, .inr (7, [.ref a_t_score, .ref a_t_good, .ref a_t_bad, .ref a_t_goodAhead, .ref a_t_badAhead, .int (kI t_size)])), (a_t_score, cAI G 60 t_score), (a_t_good, cAI G 60 r1), (a_t_bad, cAI G 60 t_bad), (a_t_goodAhead, cAI G 61 t_goodAhead), (a_t_badAhead, cAI G 61 t_badAhead), (a_p1, .inr (7, [.ref a_p1_score, .ref a_p1_good, .ref a_p1_bad, .ref a_p1_goodAhead, .ref a_p1_badAhead, .int (kI p1_size)])), (a_p1_score, cAI G 60 p1_score), (a_p1_good, cAI G 60 p1_good), (a_p1_bad, cAI G 60 p1_bad), (a_p1_goodAhead, cAI G 61 p1_goodAhead), (a_p1_badAhead, cAI G 61 p1_badAhead)]) hw [2] [0, 1, 3, 4, 5, 6, 7, 8, 9, 10, 11] [0, 1, 11, 2, 3, 4, 5, 6, 7, 8, 9, 10] (rr_S cx hw (c_J7_fill_53178 l G S H.size N a_t_good t_good 60 0 (by decide) _ h1) mv_X8_38 [2] rfl rfl rfl ⟨Nat.le_of_ble_eq_true rfl, Nat.le_of_ble_eq_true rfl⟩ rfl hl.1 rfl (Nat.le_of_ble_eq_true rfl) dX8_drawFrom_5 ⟨Nat.le_of_ble_eq_true rfl, Nat.le_of_ble_eq_true rfl⟩) rfl rfl rfl rfl rfl rfl rfl rfl (fun H locs hw => ?_)
  refine lv_aload_n hx hb dX8_drawFrom_8 rfl (lv_at hl 0 rfl) ?_
  refine rf_get hx hb cx hw 0 rfl rfl 2 inX8 (by decide) fl_X8_18 rfl rfl dX8_drawFrom_9 ?_
  refine ri_iconst hx hb dX8_drawFrom_12 ?_
  obtain ⟨r2, h2, h⟩ := bd_some h
  refine rc_V (w2 := [(a_t, .inr (7, [.ref a_t_score, .ref a_t_good, .ref a_t_bad, .ref a_t_goodAhead, .ref a_t_badAhead, .int (kI t_size)])), (a_t_score, cAI G 60 t_score), (a_t_good, cAI G 60 r1), (a_t_bad, cAI G 60 r2), (a_t_goodAhead, cAI G 61 t_goodAhead), (a_t_badAhead, cAI G 61 t_badAhead), (a_p1, .inr (7, [.ref a_p1_score, .ref a_p1_good, .ref a_p1_bad, .ref a_p1_goodAhead, .ref a_p1_badAhead, .int (kI p1_size)])), (a_p1_score, cAI G 60 p1_score), (a_p1_good, cAI G 60 p1_good), (a_p1_bad, cAI G 60 p1_bad), (a_p1_goodAhead, cAI G 61 p1_goodAhead), (a_p1_badAhead, cAI G 61 p1_badAhead)]) hw [3] [0, 1, 2, 4, 5, 6, 7, 8, 9, 10, 11] [0, 1, 2, 11, 3, 4, 5, 6, 7, 8, 9, 10] (rr_S cx hw (c_J7_fill_53178 l G S H.size N a_t_bad t_bad 60 0 (by decide) _ h2) mv_X8_38 [3] rfl rfl rfl ⟨Nat.le_of_ble_eq_true rfl, Nat.le_of_ble_eq_true rfl⟩ rfl hl.1 rfl (Nat.le_of_ble_eq_true rfl) dX8_drawFrom_13 ⟨Nat.le_of_ble_eq_true rfl, Nat.le_of_ble_eq_true rfl⟩) rfl rfl rfl rfl rfl rfl rfl rfl (fun H locs hw => ?_)
  refine lv_aload_n hx hb dX8_drawFrom_16 rfl (lv_at hl 1 rfl) ?_
  obtain ⟨r3, h3, h⟩ := bd_some h
  refine rc_I0 (v := r3) hw [6, 7, 8, 9, 10, 11] (rr_V cx hw (c_X8_cases l G S H.size N a_p1 a_p1_score a_p1_good a_p1_bad a_p1_goodAhead a_p1_badAhead p1_size p1_score p1_good p1_bad p1_goodAhead p1_badAhead _ h3) mv_X8_44 [6, 7, 8, 9, 10, 11] rfl rfl rfl 6 rfl rfl ⟨Nat.le_of_ble_eq_true rfl, Nat.le_of_ble_eq_true rfl⟩ rfl hl.1 rfl (Nat.le_of_ble_eq_true rfl) dX8_drawFrom_17 ⟨Nat.le_of_ble_eq_true rfl, Nat.le_of_ble_eq_true rfl⟩) rfl rfl (fun H locs hw => ?_)
  refine lv_istore (lv' := [(4, .int (kI r3)), (0, .ref a_t), (1, .ref a_p1), (2, .long (kL x2))]) hx hb dX8_drawFrom_20 hl (by decide) rfl (fun ls hl => ?_)
  refine lv_lload_n hx hb dX8_drawFrom_22 rfl (lv_at hl 3 rfl) ?_
  refine lv_lstore (lv' := [(5, .long (kL x2)), (4, .int (kI r3)), (0, .ref a_t), (1, .ref a_p1), (2, .long (kL x2))]) hx hb dX8_drawFrom_23 hl (by decide) rfl (fun ls hl => ?_)
  refine ri_iconst hx hb dX8_drawFrom_25 ?_
  refine lv_istore (lv' := [(7, .int (kI 0)), (5, .long (kL x2)), (4, .int (kI r3)), (0, .ref a_t), (1, .ref a_p1), (2, .long (kL x2))]) hx hb dX8_drawFrom_26 hl (by decide) rfl (fun ls hl => ?_)
  exact w_X8_drawFrom_b28 cx hlk hr N a_t a_t_score a_t_good a_t_bad a_t_goodAhead a_t_badAhead a_p1 a_p1_score a_p1_good a_p1_bad a_p1_goodAhead a_p1_badAhead p1_size p1_score p1_good p1_bad p1_goodAhead p1_badAhead x2 t_size t_score t_goodAhead t_badAhead r3 r N r1 r2 x2 0 h _ _ _ hw (lv_sub hl [3, 4, 2, 1, 0] rfl)
set_option maxHeartbeats 4000000 in
set_option maxRecDepth 100000 in
theorem c_X8_goods (l : Launch) (G : GG) (S : SM) (sz : Nat) (N : Nat) (a_t a_t_score a_t_good a_t_bad a_t_goodAhead a_t_badAhead : Nat) (t_size : Int) (t_score : Int → Int) (t_good : Int → Int) (t_bad : Int → Int) (t_goodAhead : Int → Int) (t_badAhead : Int → Int)  (r : Int) (h : m_X8_goods N t_size t_goodAhead = some r) : CtI l yX8_goods cX8_goods 1 .int (rmD 1 0 0) G S sz [.ref a_t] [(a_t, .inr (7, [.ref a_t_score, .ref a_t_good, .ref a_t_bad, .ref a_t_goodAhead, .ref a_t_badAhead, .int (kI t_size)])), (a_t_score, cAI G 60 t_score), (a_t_good, cAI G 60 t_good), (a_t_bad, cAI G 60 t_bad), (a_t_goodAhead, cAI G 61 t_goodAhead), (a_t_badAhead, cAI G 61 t_badAhead)] r [(a_t, .inr (7, [.ref a_t_score, .ref a_t_good, .ref a_t_bad, .ref a_t_goodAhead, .ref a_t_badAhead, .int (kI t_size)])), (a_t_score, cAI G 60 t_score), (a_t_good, cAI G 60 t_good), (a_t_bad, cAI G 60 t_bad), (a_t_goodAhead, cAI G 61 t_goodAhead), (a_t_badAhead, cAI G 61 t_badAhead)] := by
  refine met_I (by decide +kernel) (Nat.le_of_ble_eq_true rfl) ?_
  intro p e s m args below meth c A H locs ls cx hw hr hlk hnm hl
  have hl : lv_has ls 1 [(0, .ref a_t)] := hl
  rw [m_X8_goods] at h
  obtain ⟨⟨hx, hb, -, -, -⟩, -⟩ := id cx
  refine lv_aload_n hx hb dX8_goods_0 rfl (lv_at hl 0 rfl) ?_
  refine rf_get hx hb cx hw 0 rfl rfl 3 inX8 (by decide) fl_X8_21 rfl rfl dX8_goods_1 ?_
  refine lv_aload_n hx hb dX8_goods_4 rfl (lv_at hl 0 rfl) ?_
  refine rf_get hx hb cx hw 0 rfl rfl 5 inX8 (by decide) fl_X8_27 rfl rfl dX8_goods_5 ?_
  obtain ⟨g1, h⟩ := gd_some h
  refine ra_i hx hb cx hw 4 rfl (by decide) g1 dX8_goods_8 ?_
  obtain rfl := so_inj h
  exact re_i hx hb hlk hr cx hw (Nat.le_of_ble_eq_true rfl) (Nat.le_of_ble_eq_true rfl) dX8_goods_9
set_option maxHeartbeats 4000000 in
set_option maxRecDepth 100000 in
theorem c_X8_bads (l : Launch) (G : GG) (S : SM) (sz : Nat) (N : Nat) (a_t a_t_score a_t_good a_t_bad a_t_goodAhead a_t_badAhead : Nat) (t_size : Int) (t_score : Int → Int) (t_good : Int → Int) (t_bad : Int → Int) (t_goodAhead : Int → Int) (t_badAhead : Int → Int)  (r : Int) (h : m_X8_bads N t_size t_badAhead = some r) : CtI l yX8_bads cX8_bads 1 .int (rmD 1 0 0) G S sz [.ref a_t] [(a_t, .inr (7, [.ref a_t_score, .ref a_t_good, .ref a_t_bad, .ref a_t_goodAhead, .ref a_t_badAhead, .int (kI t_size)])), (a_t_score, cAI G 60 t_score), (a_t_good, cAI G 60 t_good), (a_t_bad, cAI G 60 t_bad), (a_t_goodAhead, cAI G 61 t_goodAhead), (a_t_badAhead, cAI G 61 t_badAhead)] r [(a_t, .inr (7, [.ref a_t_score, .ref a_t_good, .ref a_t_bad, .ref a_t_goodAhead, .ref a_t_badAhead, .int (kI t_size)])), (a_t_score, cAI G 60 t_score), (a_t_good, cAI G 60 t_good), (a_t_bad, cAI G 60 t_bad), (a_t_goodAhead, cAI G 61 t_goodAhead), (a_t_badAhead, cAI G 61 t_badAhead)] := by
  refine met_I (by decide +kernel) (Nat.le_of_ble_eq_true rfl) ?_
  intro p e s m args below meth c A H locs ls cx hw hr hlk hnm hl
  have hl : lv_has ls 1 [(0, .ref a_t)] := hl
  rw [m_X8_bads] at h
  obtain ⟨⟨hx, hb, -, -, -⟩, -⟩ := id cx
  refine lv_aload_n hx hb dX8_bads_0 rfl (lv_at hl 0 rfl) ?_
  refine rf_get hx hb cx hw 0 rfl rfl 4 inX8 (by decide) fl_X8_24 rfl rfl dX8_bads_1 ?_
  refine lv_aload_n hx hb dX8_bads_4 rfl (lv_at hl 0 rfl) ?_
  refine rf_get hx hb cx hw 0 rfl rfl 5 inX8 (by decide) fl_X8_27 rfl rfl dX8_bads_5 ?_
  obtain ⟨g1, h⟩ := gd_some h
  refine ra_i hx hb cx hw 5 rfl (by decide) g1 dX8_bads_8 ?_
  obtain rfl := so_inj h
  exact re_i hx hb hlk hr cx hw (Nat.le_of_ble_eq_true rfl) (Nat.le_of_ble_eq_true rfl) dX8_bads_9
set_option maxHeartbeats 4000000 in
set_option maxRecDepth 100000 in
theorem w_X8_hasBoth_b18 {p : Program} {l : Launch} {e : Env} {s : State} {m : MethodId} {args : Array Value} {below : List Frame} {meth : Method} {c : Code} {A : Nat → Prop} {G : GG} {S : SM} (cx : CX p s m args c cX8_hasBoth RX8 1 G S A) (hlk : meth.locks = false) (hr : meth.sig.returnType = some .boolean) (N : Nat) (a_t a_t_score a_t_good a_t_bad a_t_goodAhead a_t_badAhead : Nat) (t_size : Int) (t_score : Int → Int) (t_good : Int → Int) (t_bad : Int → Int) (t_goodAhead : Int → Int) (t_badAhead : Int → Int) (r : Int) : m_X8_hasBoth_b18 N t_size t_goodAhead t_badAhead = some r → ∀ (H : Heap) (locs : List Loc) (ls : Array Slot), HP G A s.heap H locs [(a_t, .inr (7, [.ref a_t_score, .ref a_t_good, .ref a_t_bad, .ref a_t_goodAhead, .ref a_t_badAhead, .int (kI t_size)])), (a_t_score, cAI G 60 t_score), (a_t_good, cAI G 60 t_good), (a_t_bad, cAI G 60 t_bad), (a_t_goodAhead, cAI G 61 t_goodAhead), (a_t_badAhead, cAI G 61 t_badAhead)] → lv_has ls 1 [] → W p l e (rmD 2 0 0) s m args below meth c H locs 0 0 (MQ below (QcI G A r [(a_t, .inr (7, [.ref a_t_score, .ref a_t_good, .ref a_t_bad, .ref a_t_goodAhead, .ref a_t_badAhead, .int (kI t_size)])), (a_t_score, cAI G 60 t_score), (a_t_good, cAI G 60 t_good), (a_t_bad, cAI G 60 t_bad), (a_t_goodAhead, cAI G 61 t_goodAhead), (a_t_badAhead, cAI G 61 t_badAhead)]) args s (rmD 2 0 0).cells (rmD 2 0 0).slots A) (F0 m 18 ls []) := by
  intro  h H locs ls hw hl
  rw [m_X8_hasBoth_b18] at h
  obtain ⟨⟨hx, hb, -, -, -⟩, -⟩ := id cx
  refine ri_iconst hx hb dX8_hasBoth_18 ?_
  obtain rfl := so_inj h
  exact re_z (Or.inl rfl)  hx hb hlk hr cx hw (Nat.le_of_ble_eq_true rfl) (Nat.le_of_ble_eq_true rfl) dX8_hasBoth_19
set_option maxHeartbeats 4000000 in
set_option maxRecDepth 100000 in
theorem c_X8_hasBoth (l : Launch) (G : GG) (S : SM) (sz : Nat) (N : Nat) (a_t a_t_score a_t_good a_t_bad a_t_goodAhead a_t_badAhead : Nat) (t_size : Int) (t_score : Int → Int) (t_good : Int → Int) (t_bad : Int → Int) (t_goodAhead : Int → Int) (t_badAhead : Int → Int)  (r : Int) (h : m_X8_hasBoth N t_size t_goodAhead t_badAhead = some r) : CtI l yX8_hasBoth cX8_hasBoth 1 .boolean (rmD 2 0 0) G S sz [.ref a_t] [(a_t, .inr (7, [.ref a_t_score, .ref a_t_good, .ref a_t_bad, .ref a_t_goodAhead, .ref a_t_badAhead, .int (kI t_size)])), (a_t_score, cAI G 60 t_score), (a_t_good, cAI G 60 t_good), (a_t_bad, cAI G 60 t_bad), (a_t_goodAhead, cAI G 61 t_goodAhead), (a_t_badAhead, cAI G 61 t_badAhead)] r [(a_t, .inr (7, [.ref a_t_score, .ref a_t_good, .ref a_t_bad, .ref a_t_goodAhead, .ref a_t_badAhead, .int (kI t_size)])), (a_t_score, cAI G 60 t_score), (a_t_good, cAI G 60 t_good), (a_t_bad, cAI G 60 t_bad), (a_t_goodAhead, cAI G 61 t_goodAhead), (a_t_badAhead, cAI G 61 t_badAhead)] := by
  refine met_I (by decide +kernel) (Nat.le_of_ble_eq_true rfl) ?_
  intro p e s m args below meth c A H locs ls cx hw hr hlk hnm hl
  have hl : lv_has ls 1 [(0, .ref a_t)] := hl
  rw [m_X8_hasBoth] at h
  obtain ⟨⟨hx, hb, -, -, -⟩, -⟩ := id cx
  refine lv_aload_n hx hb dX8_hasBoth_0 rfl (lv_at hl 0 rfl) ?_
  obtain ⟨r1, h1, h⟩ := bd_some h
  refine rc_I0 (v := r1) hw [0, 1, 2, 3, 4, 5] (rr_V cx hw (c_X8_goods l G S H.size N a_t a_t_score a_t_good a_t_bad a_t_goodAhead a_t_badAhead t_size t_score t_good t_bad t_goodAhead t_badAhead _ h1) mv_X8_63 [0, 1, 2, 3, 4, 5] rfl rfl rfl 0 rfl rfl ⟨Nat.le_of_ble_eq_true rfl, Nat.le_of_ble_eq_true rfl⟩ rfl hl.1 rfl (Nat.le_of_ble_eq_true rfl) dX8_hasBoth_1 ⟨Nat.le_of_ble_eq_true rfl, Nat.le_of_ble_eq_true rfl⟩) rfl rfl (fun H locs hw => ?_)
  obtain ⟨g2, h⟩ := gd_some h
  refine ri_if_le (tgt := 18) hx hb g2 dX8_hasBoth_4 (by decide) (fun c3 => ?_) (fun c3 => ?_)
  · have h := it_pos c3 h
    exact w_X8_hasBoth_b18 cx hlk hr N a_t a_t_score a_t_good a_t_bad a_t_goodAhead a_t_badAhead t_size t_score t_good t_bad t_goodAhead t_badAhead r  h _ _ _ hw (lv_sub hl [] rfl)
  · have h := it_neg c3 h
    refine lv_aload_n hx hb dX8_hasBoth_7 rfl (lv_at hl 0 rfl) ?_
    obtain ⟨r4, h4, h⟩ := bd_some h
    refine rc_I0 (v := r4) hw [0, 1, 2, 3, 4, 5] (rr_V cx hw (c_X8_bads l G S H.size N a_t a_t_score a_t_good a_t_bad a_t_goodAhead a_t_badAhead t_size t_score t_good t_bad t_goodAhead t_badAhead _ h4) mv_X8_66 [0, 1, 2, 3, 4, 5] rfl rfl rfl 0 rfl rfl ⟨Nat.le_of_ble_eq_true rfl, Nat.le_of_ble_eq_true rfl⟩ rfl hl.1 rfl (Nat.le_of_ble_eq_true rfl) dX8_hasBoth_8 ⟨Nat.le_of_ble_eq_true rfl, Nat.le_of_ble_eq_true rfl⟩) rfl rfl (fun H locs hw => ?_)
    obtain ⟨g5, h⟩ := gd_some h
    refine ri_if_le (tgt := 18) hx hb g5 dX8_hasBoth_11 (by decide) (fun c6 => ?_) (fun c6 => ?_)
    · have h := it_pos c6 h
      exact w_X8_hasBoth_b18 cx hlk hr N a_t a_t_score a_t_good a_t_bad a_t_goodAhead a_t_badAhead t_size t_score t_good t_bad t_goodAhead t_badAhead r  h _ _ _ hw (lv_sub hl [] rfl)
    · have h := it_neg c6 h
      refine ri_iconst hx hb dX8_hasBoth_14 ?_
      refine lv_goto (tgt := 19) hx hb dX8_hasBoth_15 (by decide) ?_
      obtain rfl := so_inj h
      exact re_z (Or.inr rfl)  hx hb hlk hr cx hw (Nat.le_of_ble_eq_true rfl) (Nat.le_of_ble_eq_true rfl) dX8_hasBoth_19
set_option maxHeartbeats 4000000 in
set_option maxRecDepth 100000 in
theorem c_X8_greatest (l : Launch) (G : GG) (S : SM) (sz : Nat) (N : Nat) (a_t a_t_score a_t_good a_t_bad a_t_goodAhead a_t_badAhead : Nat) (t_size : Int) (t_score : Int → Int) (t_good : Int → Int) (t_bad : Int → Int) (t_goodAhead : Int → Int) (t_badAhead : Int → Int)  (r : Int) (h : m_X8_greatest N t_size t_score = some r) : CtI l yX8_greatest cX8_greatest 1 .int (rmD 1 0 0) G S sz [.ref a_t] [(a_t, .inr (7, [.ref a_t_score, .ref a_t_good, .ref a_t_bad, .ref a_t_goodAhead, .ref a_t_badAhead, .int (kI t_size)])), (a_t_score, cAI G 60 t_score), (a_t_good, cAI G 60 t_good), (a_t_bad, cAI G 60 t_bad), (a_t_goodAhead, cAI G 61 t_goodAhead), (a_t_badAhead, cAI G 61 t_badAhead)] r [(a_t, .inr (7, [.ref a_t_score, .ref a_t_good, .ref a_t_bad, .ref a_t_goodAhead, .ref a_t_badAhead, .int (kI t_size)])), (a_t_score, cAI G 60 t_score), (a_t_good, cAI G 60 t_good), (a_t_bad, cAI G 60 t_bad), (a_t_goodAhead, cAI G 61 t_goodAhead), (a_t_badAhead, cAI G 61 t_badAhead)] := by
  refine met_I (by decide +kernel) (Nat.le_of_ble_eq_true rfl) ?_
  intro p e s m args below meth c A H locs ls cx hw hr hlk hnm hl
  have hl : lv_has ls 1 [(0, .ref a_t)] := hl
  rw [m_X8_greatest] at h
  obtain ⟨⟨hx, hb, -, -, -⟩, -⟩ := id cx
  refine lv_aload_n hx hb dX8_greatest_0 rfl (lv_at hl 0 rfl) ?_
  refine rf_get hx hb cx hw 0 rfl rfl 5 inX8 (by decide) fl_X8_27 rfl rfl dX8_greatest_1 ?_
  obtain ⟨g1, h⟩ := gd_some h
  refine ri_if_ne (tgt := 11) hx hb g1 dX8_greatest_4 (by decide) (fun c2 => ?_) (fun c2 => ?_)
  · have h := it_pos c2 h
    refine ri_iconst hx hb dX8_greatest_7 ?_
    refine lv_goto (tgt := 22) hx hb dX8_greatest_8 (by decide) ?_
    obtain rfl := so_inj h
    exact re_i hx hb hlk hr cx hw (Nat.le_of_ble_eq_true rfl) (Nat.le_of_ble_eq_true rfl) dX8_greatest_22
  · have h := it_neg c2 h
    refine lv_aload_n hx hb dX8_greatest_11 rfl (lv_at hl 0 rfl) ?_
    refine rf_get hx hb cx hw 0 rfl rfl 0 inX8 (by decide) fl_X8_9 rfl rfl dX8_greatest_12 ?_
    refine lv_aload_n hx hb dX8_greatest_15 rfl (lv_at hl 0 rfl) ?_
    refine rf_get hx hb cx hw 0 rfl rfl 5 inX8 (by decide) fl_X8_27 rfl rfl dX8_greatest_16 ?_
    refine ri_iconst hx hb dX8_greatest_19 ?_
    refine ri_isub hx hb dX8_greatest_20 ?_
    obtain ⟨g3, h⟩ := gd_some h
    refine ra_i hx hb cx hw 1 rfl (by decide) g3 dX8_greatest_21 ?_
    obtain rfl := so_inj h
    exact re_i hx hb hlk hr cx hw (Nat.le_of_ble_eq_true rfl) (Nat.le_of_ble_eq_true rfl) dX8_greatest_22
def PL_X8_below_b2 (p : Program) (l : Launch) (e : Env) (s : State) (m : MethodId) (args : Array Value) (below : List Frame) (meth : Method) (c : Code) (A : Nat → Prop) (G : GG) (S : SM) (a_t a_t_score a_t_good a_t_bad a_t_goodAhead a_t_badAhead : Nat) (t_size : Int) (t_score : Int → Int) (t_good : Int → Int) (t_bad : Int → Int) (t_goodAhead : Int → Int) (t_badAhead : Int → Int) (x1 : Int) (r : Int) (kk : Int → Option (Int)) : Prop := ∀ (y2 : Int), kk y2 = some r → ∀ (H : Heap) (locs : List Loc) (ls : Array Slot), HP G A s.heap H locs [(a_t, .inr (7, [.ref a_t_score, .ref a_t_good, .ref a_t_bad, .ref a_t_goodAhead, .ref a_t_badAhead, .int (kI t_size)])), (a_t_score, cAI G 60 t_score), (a_t_good, cAI G 60 t_good), (a_t_bad, cAI G 60 t_bad), (a_t_goodAhead, cAI G 61 t_goodAhead), (a_t_badAhead, cAI G 61 t_badAhead)] → lv_has ls 3 [(0, .ref a_t), (1, .int (kI x1)), (2, .int (kI y2))] → W p l e (rmD 1 0 0) s m args below meth c H locs 0 0 (MQ below (QcI G A r [(a_t, .inr (7, [.ref a_t_score, .ref a_t_good, .ref a_t_bad, .ref a_t_goodAhead, .ref a_t_badAhead, .int (kI t_size)])), (a_t_score, cAI G 60 t_score), (a_t_good, cAI G 60 t_good), (a_t_bad, cAI G 60 t_bad), (a_t_goodAhead, cAI G 61 t_goodAhead), (a_t_badAhead, cAI G 61 t_badAhead)]) args s (rmD 1 0 0).cells (rmD 1 0 0).slots A) (F0 m 2 ls [])
set_option maxHeartbeats 4000000 in
set_option maxRecDepth 100000 in
theorem w_X8_below_b2 {p : Program} {l : Launch} {e : Env} {s : State} {m : MethodId} {args : Array Value} {below : List Frame} {meth : Method} {c : Code} {A : Nat → Prop} {G : GG} {S : SM} (cx : CX p s m args c cX8_below RX8 3 G S A) (hlk : meth.locks = false) (hr : meth.sig.returnType = some .int) (N : Nat) (a_t a_t_score a_t_good a_t_bad a_t_goodAhead a_t_badAhead : Nat) (t_size : Int) (t_score : Int → Int) (t_good : Int → Int) (t_bad : Int → Int) (t_goodAhead : Int → Int) (t_badAhead : Int → Int) (x1 : Int) (r : Int) : ∀ n : Nat, PL_X8_below_b2 p l e s m args below meth c A G S a_t a_t_score a_t_good a_t_bad a_t_goodAhead a_t_badAhead t_size t_score t_good t_bad t_goodAhead t_badAhead x1 r (m_X8_below_b2 N t_size t_score x1 n) := by
  intro n
  induction n with
  | zero => intro y2 h; exact nomatch h
  | succ n ih =>
    intro y2 h H locs ls hw hl
    rw [m_X8_below_b2] at h
    obtain ⟨⟨hx, hb, -, -, -⟩, -⟩ := id cx
    refine lv_iload_n hx hb dX8_below_2 rfl (lv_at hl 2 rfl) ?_
    refine lv_aload_n hx hb dX8_below_3 rfl (lv_at hl 0 rfl) ?_
    refine rf_get hx hb cx hw 0 rfl rfl 5 inX8 (by decide) fl_X8_27 rfl rfl dX8_below_4 ?_
    obtain ⟨g1, h⟩ := gd_some h
    obtain ⟨g2, h⟩ := gd_some h
    refine ri_icmp_ge (tgt := 26) hx hb g1 g2 dX8_below_7 (by decide) (fun c3 => ?_) (fun c3 => ?_)
    · have h := it_pos c3 h
      refine lv_iload_n hx hb dX8_below_26 rfl (lv_at hl 2 rfl) ?_
      obtain rfl := so_inj h
      exact re_i hx hb hlk hr cx hw (Nat.le_of_ble_eq_true rfl) (Nat.le_of_ble_eq_true rfl) dX8_below_27
    · have h := it_neg c3 h
      refine lv_aload_n hx hb dX8_below_10 rfl (lv_at hl 0 rfl) ?_
      refine rf_get hx hb cx hw 0 rfl rfl 0 inX8 (by decide) fl_X8_9 rfl rfl dX8_below_11 ?_
      refine lv_iload_n hx hb dX8_below_14 rfl (lv_at hl 2 rfl) ?_
      obtain ⟨g4, h⟩ := gd_some h
      refine ra_i hx hb cx hw 1 rfl (by decide) g4 dX8_below_15 ?_
      refine lv_iload_n hx hb dX8_below_16 rfl (lv_at hl 1 rfl) ?_
      obtain ⟨g5, h⟩ := gd_some h
      obtain ⟨g6, h⟩ := gd_some h
      refine ri_icmp_ge (tgt := 26) hx hb g5 g6 dX8_below_17 (by decide) (fun c7 => ?_) (fun c7 => ?_)
      · have h := it_pos c7 h
        refine lv_iload_n hx hb dX8_below_26 rfl (lv_at hl 2 rfl) ?_
        obtain rfl := so_inj h
        exact re_i hx hb hlk hr cx hw (Nat.le_of_ble_eq_true rfl) (Nat.le_of_ble_eq_true rfl) dX8_below_27
      · have h := it_neg c7 h
        refine lv_iinc (v := kI (y2 + 1)) (lv' := [(2, .int (kI (y2 + 1))), (0, .ref a_t), (1, .int (kI x1))]) hx hb dX8_below_20 hl (k := 2) rfl (kI_add _ _) (by decide) rfl (fun ls hl => ?_)
        refine lv_goto (tgt := 2) hx hb dX8_below_23 (by decide) ?_
        exact ih (y2 + 1) h _ _ _ hw (lv_sub hl [1, 2, 0] rfl)
set_option maxHeartbeats 4000000 in
set_option maxRecDepth 100000 in
theorem c_X8_below (l : Launch) (G : GG) (S : SM) (sz : Nat) (N : Nat) (a_t a_t_score a_t_good a_t_bad a_t_goodAhead a_t_badAhead : Nat) (t_size : Int) (t_score : Int → Int) (t_good : Int → Int) (t_bad : Int → Int) (t_goodAhead : Int → Int) (t_badAhead : Int → Int) (x1 : Int) (r : Int) (h : m_X8_below N t_size t_score x1 = some r) : CtI l yX8_below cX8_below 3 .int (rmD 1 0 0) G S sz [.ref a_t, .int (kI x1)] [(a_t, .inr (7, [.ref a_t_score, .ref a_t_good, .ref a_t_bad, .ref a_t_goodAhead, .ref a_t_badAhead, .int (kI t_size)])), (a_t_score, cAI G 60 t_score), (a_t_good, cAI G 60 t_good), (a_t_bad, cAI G 60 t_bad), (a_t_goodAhead, cAI G 61 t_goodAhead), (a_t_badAhead, cAI G 61 t_badAhead)] r [(a_t, .inr (7, [.ref a_t_score, .ref a_t_good, .ref a_t_bad, .ref a_t_goodAhead, .ref a_t_badAhead, .int (kI t_size)])), (a_t_score, cAI G 60 t_score), (a_t_good, cAI G 60 t_good), (a_t_bad, cAI G 60 t_bad), (a_t_goodAhead, cAI G 61 t_goodAhead), (a_t_badAhead, cAI G 61 t_badAhead)] := by
  refine met_I (by decide +kernel) (Nat.le_of_ble_eq_true rfl) ?_
  intro p e s m args below meth c A H locs ls cx hw hr hlk hnm hl
  have hl : lv_has ls 3 [(0, .ref a_t), (1, .int (kI x1))] := hl
  rw [m_X8_below] at h
  obtain ⟨⟨hx, hb, -, -, -⟩, -⟩ := id cx
  refine ri_iconst hx hb dX8_below_0 ?_
  refine lv_istore_n (lv' := [(2, .int (kI 0)), (0, .ref a_t), (1, .int (kI x1))]) hx hb dX8_below_1 rfl hl (by decide) rfl (fun ls hl => ?_)
  exact w_X8_below_b2 cx hlk hr N a_t a_t_score a_t_good a_t_bad a_t_goodAhead a_t_badAhead t_size t_score t_good t_bad t_goodAhead t_badAhead x1 r N 0 h _ _ _ hw (lv_sub hl [1, 2, 0] rfl)
