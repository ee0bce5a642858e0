set_option maxHeartbeats 4000000 in
set_option maxRecDepth 100000 in
theorem c_X6_setCosts (l : Launch) (G : GG) (sz : Nat) (N : Nat) (a_t a_t_good a_t_bad a_t_open : Nat) (t_least : Int) (t_most : Int) (t_goodCost : Int) (t_badCost : Int) (t_referCost : Int) (t_good : Int → Int) (t_bad : Int → Int) (t_open : Int → Int) (x1 : Int) (x2 : Int) (x3 : Int) (r : Int × Int × Int) (h : m_X6_setCosts N t_goodCost t_badCost t_referCost x1 x2 x3 = some r) : CtV l yX6_setCosts cX6_setCosts 4 (rmD 1 0 0) G sz [.ref a_t, .int (kI x1), .int (kI x2), .int (kI x3)] [(a_t, .inr (5, [.ref a_t_good, .ref a_t_bad, .ref a_t_open, .int (kI t_least), .int (kI t_most), .int (kI t_goodCost), .int (kI t_badCost), .int (kI t_referCost)])), (a_t_good, cAI G 1000 t_good), (a_t_bad, cAI G 1000 t_bad), (a_t_open, cAI G 1000 t_open)] [(a_t, .inr (5, [.ref a_t_good, .ref a_t_bad, .ref a_t_open, .int (kI t_least), .int (kI t_most), .int (kI r.1), .int (kI r.2.1), .int (kI r.2.2)])), (a_t_good, cAI G 1000 t_good), (a_t_bad, cAI G 1000 t_bad), (a_t_open, cAI G 1000 t_open)] := by
  refine met_of (Qc := fun A => QcV G A [(a_t, .inr (5, [.ref a_t_good, .ref a_t_bad, .ref a_t_open, .int (kI t_least), .int (kI t_most), .int (kI r.1), .int (kI r.2.1), .int (kI r.2.2)])), (a_t_good, cAI G 1000 t_good), (a_t_bad, cAI G 1000 t_bad), (a_t_open, cAI G 1000 t_open)]) (by decide +kernel) (Nat.le_of_ble_eq_true rfl) ?_
  intro p e s m args below meth c A H locs ls cx hw hr hlk hnm hl
  have hl : lv_has ls 4 [(0, .ref a_t), (1, .int (kI x1)), (2, .int (kI x2)), (3, .int (kI x3))] := hl
  rw [m_X6_setCosts] at h
  obtain ⟨⟨hx, hb, -, -, -⟩, -⟩ := id cx
  refine lv_aload_n hx hb dX6_setCosts_0 rfl (lv_at hl 0 rfl) ?_
  refine lv_iload_n hx hb dX6_setCosts_1 rfl (lv_at hl 1 rfl) ?_
  refine rf_put hx hb cx hw 0 rfl rfl 5 inX6 tyX6 tyX6_ok nmX6 (by decide) fl_X6_28 rfl rfl rfl rfl (Nat.le_of_ble_eq_true rfl) dX6_setCosts_2 (fun H locs hw => ?_)
  have hw : HP G A s.heap H locs [(a_t, .inr (5, [.ref a_t_good, .ref a_t_bad, .ref a_t_open, .int (kI t_least), .int (kI t_most), .int (kI x1), .int (kI t_badCost), .int (kI t_referCost)])), (a_t_good, cAI G 1000 t_good), (a_t_bad, cAI G 1000 t_bad), (a_t_open, cAI G 1000 t_open)] := hw
  refine lv_aload_n hx hb dX6_setCosts_5 rfl (lv_at hl 0 rfl) ?_
  refine lv_iload_n hx hb dX6_setCosts_6 rfl (lv_at hl 2 rfl) ?_
  refine rf_put hx hb cx hw 0 rfl rfl 6 inX6 tyX6 tyX6_ok nmX6 (by decide) fl_X6_31 rfl rfl rfl rfl (Nat.le_of_ble_eq_true rfl) dX6_setCosts_7 (fun H locs hw => ?_)
  have hw : HP G A s.heap H locs [(a_t, .inr (5, [.ref a_t_good, .ref a_t_bad, .ref a_t_open, .int (kI t_least), .int (kI t_most), .int (kI x1), .int (kI x2), .int (kI t_referCost)])), (a_t_good, cAI G 1000 t_good), (a_t_bad, cAI G 1000 t_bad), (a_t_open, cAI G 1000 t_open)] := hw
  refine lv_aload_n hx hb dX6_setCosts_10 rfl (lv_at hl 0 rfl) ?_
  refine lv_iload_n hx hb dX6_setCosts_11 rfl (lv_at hl 3 rfl) ?_
  refine rf_put hx hb cx hw 0 rfl rfl 7 inX6 tyX6 tyX6_ok nmX6 (by decide) fl_X6_34 rfl rfl rfl rfl (Nat.le_of_ble_eq_true rfl) dX6_setCosts_12 (fun H locs hw => ?_)
  have hw : HP G A s.heap H locs [(a_t, .inr (5, [.ref a_t_good, .ref a_t_bad, .ref a_t_open, .int (kI t_least), .int (kI t_most), .int (kI x1), .int (kI x2), .int (kI x3)])), (a_t_good, cAI G 1000 t_good), (a_t_bad, cAI G 1000 t_bad), (a_t_open, cAI G 1000 t_open)] := hw
  obtain rfl := so_inj h
  exact re_v hx hb hlk hr cx hw (Nat.le_of_ble_eq_true rfl) (Nat.le_of_ble_eq_true rfl) dX6_setCosts_15
set_option maxHeartbeats 4000000 in
set_option maxRecDepth 100000 in
theorem w_X6_take_b26 {p : Program} {l : Launch} {e : Env} {s : State} {m : MethodId} {args : Array Value} {below : List Frame} {meth : Method} {c : Code} {A : Nat → Prop} {G : GG} (cx : CX p s m args c cX6_take RX6 4 G) (hlk : meth.locks = false) (hr : meth.sig.returnType = none) (N : Nat) (a_t a_t_good a_t_bad a_t_open a_p1 a_p1_score a_p1_good a_p1_bad a_p1_open a_p1_costs : Nat) (p1_ats : Int) (p1_lines : Int) (p1_least : Int) (p1_most : Int) (p1_faultKind : Int) (p1_faultPlace : Int) (p1_toldLines : Int) (p1_kind : Int) (p1_start : Int) (p1_next : Int) (p1_number : Int) (p1_score : Int → Int) (p1_good : Int → Int) (p1_bad : Int → Int) (p1_open : Int → Int) (p1_costs : Int → Int) (r : Int × Int × Int × Int × Int × (Int → Int) × (Int → Int) × (Int → Int)) : ∀ n : Nat, ∀ (t_least : Int) (t_most : Int) (t_goodCost : Int) (t_badCost : Int) (t_referCost : Int) (t_good : Int → Int) (t_bad : Int → Int) (t_open : Int → Int) (y2 : Int), m_X6_take_b26 N p1_ats p1_least p1_most p1_score p1_good p1_bad p1_open p1_costs n t_least t_most t_goodCost t_badCost t_referCost t_good t_bad t_open y2 = some r → ∀ (H : Heap) (locs : List Loc) (ls : Array Slot), HP G A s.heap H locs [(a_t, .inr (5, [.ref a_t_good, .ref a_t_bad, .ref a_t_open, .int (kI t_least), .int (kI t_most), .int (kI t_goodCost), .int (kI t_badCost), .int (kI t_referCost)])), (a_t_good, cAI G 1000 t_good), (a_t_bad, cAI G 1000 t_bad), (a_t_open, cAI G 1000 t_open), (a_p1, .inr (6, [.ref a_p1_score, .ref a_p1_good, .ref a_p1_bad, .ref a_p1_open, .ref a_p1_costs, .int (kI p1_ats), .int (kI p1_lines), .int (kI p1_least), .int (kI p1_most), .int (kI p1_faultKind), .int (kI p1_faultPlace), .int (kI p1_toldLines), .int (kI p1_kind), .int (kI p1_start), .int (kI p1_next), .int (kI p1_number)])), (a_p1_score, cAI G 60 p1_score), (a_p1_good, cAI G 60 p1_good), (a_p1_bad, cAI G 60 p1_bad), (a_p1_open, cAI G 60 p1_open), (a_p1_costs, cAI G 3 p1_costs)] → lv_has ls 4 [(0, .ref a_t), (1, .ref a_p1), (2, .int (kI y2))] → W p l e (rmD 2 0 0) s m args below meth c H locs 0 0 (MQ below (QcV G A [(a_t, .inr (5, [.ref a_t_good, .ref a_t_bad, .ref a_t_open, .int (kI r.1), .int (kI r.2.1), .int (kI r.2.2.1), .int (kI r.2.2.2.1), .int (kI r.2.2.2.2.1)])), (a_t_good, cAI G 1000 r.2.2.2.2.2.1), (a_t_bad, cAI G 1000 r.2.2.2.2.2.2.1), (a_t_open, cAI G 1000 r.2.2.2.2.2.2.2), (a_p1, .inr (6, [.ref a_p1_score, .ref a_p1_good, .ref a_p1_bad, .ref a_p1_open, .ref a_p1_costs, .int (kI p1_ats), .int (kI p1_lines), .int (kI p1_least), .int (kI p1_most), .int (kI p1_faultKind), .int (kI p1_faultPlace), .int (kI p1_toldLines), .int (kI p1_kind), .int (kI p1_start), .int (kI p1_next), .int (kI p1_number)])), (a_p1_score, cAI G 60 p1_score), (a_p1_good, cAI G 60 p1_good), (a_p1_bad, cAI G 60 p1_bad), (a_p1_open, cAI G 60 p1_open), (a_p1_costs, cAI G 3 p1_costs)]) args s (rmD 2 0 0).cells (rmD 2 0 0).slots A) (F0 m 26 ls []) := by
  intro n
  induction n with
  | zero => intro t_least t_most t_goodCost t_badCost t_referCost t_good t_bad t_open y2 h; exact nomatch h
  | succ n ih =>
    intro t_least t_most t_goodCost t_badCost t_referCost t_good t_bad t_open y2 h H locs ls hw hl
    rw [m_X6_take_b26] at h
    obtain ⟨⟨hx, hb, -, -, -⟩, -⟩ := id cx
    refine lv_iload_n hx hb dX6_take_26 rfl (lv_at hl 2 rfl) ?_
    refine lv_aload_n hx hb dX6_take_27 rfl (lv_at hl 1 rfl) ?_
    refine rf_get hx hb cx hw 4 rfl rfl 5 inX7 (by decide) fl_X6_43 rfl rfl dX6_take_28 ?_
    obtain ⟨g1, h⟩ := gd_some h
    obtain ⟨g2, h⟩ := gd_some h
    refine ri_icmp_ge (tgt := 83) hx hb g1 g2 dX6_take_31 (by decide) (fun c3 => ?_) (fun c3 => ?_)
    · have h := it_pos c3 h
      refine lv_aload_n hx hb dX6_take_83 rfl (lv_at hl 0 rfl) ?_
      refine lv_aload_n hx hb dX6_take_84 rfl (lv_at hl 1 rfl) ?_
      refine rf_get hx hb cx hw 4 rfl rfl 7 inX7 (by decide) fl_X6_54 rfl rfl dX6_take_85 ?_
      refine rf_put hx hb cx hw 0 rfl rfl 3 inX6 tyX6 tyX6_ok nmX6 (by decide) fl_X6_21 rfl rfl rfl rfl (Nat.le_of_ble_eq_true rfl) dX6_take_88 (fun H locs hw => ?_)
      have hw : HP G A s.heap H locs [(a_t, .inr (5, [.ref a_t_good, .ref a_t_bad, .ref a_t_open, .int (kI p1_least), .int (kI t_most), .int (kI t_goodCost), .int (kI t_badCost), .int (kI t_referCost)])), (a_t_good, cAI G 1000 t_good), (a_t_bad, cAI G 1000 t_bad), (a_t_open, cAI G 1000 t_open), (a_p1, .inr (6, [.ref a_p1_score, .ref a_p1_good, .ref a_p1_bad, .ref a_p1_open, .ref a_p1_costs, .int (kI p1_ats), .int (kI p1_lines), .int (kI p1_least), .int (kI p1_most), .int (kI p1_faultKind), .int (kI p1_faultPlace), .int (kI p1_toldLines), .int (kI p1_kind), .int (kI p1_start), .int (kI p1_next), .int (kI p1_number)])), (a_p1_score, cAI G 60 p1_score), (a_p1_good, cAI G 60 p1_good), (a_p1_bad, cAI G 60 p1_bad), (a_p1_open, cAI G 60 p1_open), (a_p1_costs, cAI G 3 p1_costs)] := hw
      refine lv_aload_n hx hb dX6_take_91 rfl (lv_at hl 0 rfl) ?_
      refine lv_aload_n hx hb dX6_take_92 rfl (lv_at hl 1 rfl) ?_
      refine rf_get hx hb cx hw 4 rfl rfl 8 inX7 (by decide) fl_X6_55 rfl rfl dX6_take_93 ?_
      refine rf_put hx hb cx hw 0 rfl rfl 4 inX6 tyX6 tyX6_ok nmX6 (by decide) fl_X6_25 rfl rfl rfl rfl (Nat.le_of_ble_eq_true rfl) dX6_take_96 (fun H locs hw => ?_)
      have hw : HP G A s.heap H locs [(a_t, .inr (5, [.ref a_t_good, .ref a_t_bad, .ref a_t_open, .int (kI p1_least), .int (kI p1_most), .int (kI t_goodCost), .int (kI t_badCost), .int (kI t_referCost)])), (a_t_good, cAI G 1000 t_good), (a_t_bad, cAI G 1000 t_bad), (a_t_open, cAI G 1000 t_open), (a_p1, .inr (6, [.ref a_p1_score, .ref a_p1_good, .ref a_p1_bad, .ref a_p1_open, .ref a_p1_costs, .int (kI p1_ats), .int (kI p1_lines), .int (kI p1_least), .int (kI p1_most), .int (kI p1_faultKind), .int (kI p1_faultPlace), .int (kI p1_toldLines), .int (kI p1_kind), .int (kI p1_start), .int (kI p1_next), .int (kI p1_number)])), (a_p1_score, cAI G 60 p1_score), (a_p1_good, cAI G 60 p1_good), (a_p1_bad, cAI G 60 p1_bad), (a_p1_open, cAI G 60 p1_open), (a_p1_costs, cAI G 3 p1_costs)] := hw
      refine lv_aload_n hx hb dX6_take_99 rfl (lv_at hl 0 rfl) ?_
      refine lv_aload_n hx hb dX6_take_100 rfl (lv_at hl 1 rfl) ?_
      refine rf_get hx hb cx hw 4 rfl rfl 4 inX7 (by decide) fl_X6_56 rfl rfl dX6_take_101 ?_
      refine ri_iconst hx hb dX6_take_104 ?_
      refine ra_i hx hb cx hw 9 rfl (by decide) ⟨by decide, by decide⟩ dX6_take_105 ?_
      refine lv_aload_n hx hb dX6_take_106 rfl (lv_at hl 1 rfl) ?_
      refine rf_get hx hb cx hw 4 rfl rfl 4 inX7 (by decide) fl_X6_56 rfl rfl dX6_take_107 ?_
      refine ri_iconst hx hb dX6_take_110 ?_
      refine ra_i hx hb cx hw 9 rfl (by decide) ⟨by decide, by decide⟩ dX6_take_111 ?_
      refine lv_aload_n hx hb dX6_take_112 rfl (lv_at hl 1 rfl) ?_
      refine rf_get hx hb cx hw 4 rfl rfl 4 inX7 (by decide) fl_X6_56 rfl rfl dX6_take_113 ?_
      refine ri_iconst hx hb dX6_take_116 ?_
      refine ra_i hx hb cx hw 9 rfl (by decide) ⟨by decide, by decide⟩ dX6_take_117 ?_
      obtain ⟨r4, h4, h⟩ := bd_some h
      refine rc_V (w2 := [(a_t, .inr (5, [.ref a_t_good, .ref a_t_bad, .ref a_t_open, .int (kI p1_least), .int (kI p1_most), .int (kI r4.1), .int (kI r4.2.1), .int (kI r4.2.2)])), (a_t_good, cAI G 1000 t_good), (a_t_bad, cAI G 1000 t_bad), (a_t_open, cAI G 1000 t_open), (a_p1, .inr (6, [.ref a_p1_score, .ref a_p1_good, .ref a_p1_bad, .ref a_p1_open, .ref a_p1_costs, .int (kI p1_ats), .int (kI p1_lines), .int (kI p1_least), .int (kI p1_most), .int (kI p1_faultKind), .int (kI p1_faultPlace), .int (kI p1_toldLines), .int (kI p1_kind), .int (kI p1_start), .int (kI p1_next), .int (kI p1_number)])), (a_p1_score, cAI G 60 p1_score), (a_p1_good, cAI G 60 p1_good), (a_p1_bad, cAI G 60 p1_bad), (a_p1_open, cAI G 60 p1_open), (a_p1_costs, cAI G 3 p1_costs)]) hw [0, 1, 2, 3] [4, 5, 6, 7, 8, 9] [6, 7, 8, 9, 0, 1, 2, 3, 4, 5] (rr_V cx hw (c_X6_setCosts l G H.size N a_t a_t_good a_t_bad a_t_open p1_least p1_most t_goodCost t_badCost t_referCost t_good t_bad t_open (p1_costs 0) (p1_costs 1) (p1_costs 2) _ h4) mv_X6_59 [0, 1, 2, 3] rfl rfl rfl 0 rfl rfl ⟨Nat.le_of_ble_eq_true rfl, Nat.le_of_ble_eq_true rfl⟩ rfl hl.1 rfl (Nat.le_of_ble_eq_true rfl) dX6_take_118 ⟨Nat.le_of_ble_eq_true rfl, Nat.le_of_ble_eq_true rfl⟩) rfl rfl rfl rfl rfl rfl rfl rfl (fun H locs hw => ?_)
      obtain rfl := so_inj h
      exact re_v hx hb hlk hr cx hw (Nat.le_of_ble_eq_true rfl) (Nat.le_of_ble_eq_true rfl) dX6_take_121
    · have h := it_neg c3 h
      refine lv_aload_n hx hb dX6_take_34 rfl (lv_at hl 1 rfl) ?_
      refine rf_get hx hb cx hw 4 rfl rfl 0 inX7 (by decide) fl_X6_48 rfl rfl dX6_take_35 ?_
      refine lv_iload_n hx hb dX6_take_38 rfl (lv_at hl 2 rfl) ?_
      obtain ⟨g5, h⟩ := gd_some h
      refine ra_i hx hb cx hw 5 rfl (by decide) g5 dX6_take_39 ?_
      refine lv_istore_n (lv' := [(3, .int (kI (p1_score y2))), (0, .ref a_t), (1, .ref a_p1), (2, .int (kI y2))]) hx hb dX6_take_40 rfl hl (by decide) rfl (fun ls hl => ?_)
      refine lv_aload_n hx hb dX6_take_41 rfl (lv_at hl 1 rfl) ?_
      refine rf_get hx hb cx hw 0 rfl rfl 0 inX6 (by decide) fl_X6_9 rfl rfl dX6_take_42 ?_
      refine lv_iload_n hx hb dX6_take_45 rfl (lv_at hl 0 rfl) ?_
      refine lv_aload_n hx hb dX6_take_46 rfl (lv_at hl 2 rfl) ?_
      refine rf_get hx hb cx hw 4 rfl rfl 1 inX7 (by decide) fl_X6_51 rfl rfl dX6_take_47 ?_
      refine lv_iload_n hx hb dX6_take_50 rfl (lv_at hl 3 rfl) ?_
      refine ra_i hx hb cx hw 6 rfl (by decide) g5 dX6_take_51 ?_
      obtain ⟨g6, h⟩ := gd_some h
      refine ra_si hx hb cx hw 1 rfl (by decide) g6 dX6_take_52 (fun H locs hw => ?_)
      have hw : HP G A s.heap H locs [(a_t, .inr (5, [.ref a_t_good, .ref a_t_bad, .ref a_t_open, .int (kI t_least), .int (kI t_most), .int (kI t_goodCost), .int (kI t_badCost), .int (kI t_referCost)])), (a_t_good, cAI G 1000 (uP t_good (p1_score y2) (p1_good y2))), (a_t_bad, cAI G 1000 t_bad), (a_t_open, cAI G 1000 t_open), (a_p1, .inr (6, [.ref a_p1_score, .ref a_p1_good, .ref a_p1_bad, .ref a_p1_open, .ref a_p1_costs, .int (kI p1_ats), .int (kI p1_lines), .int (kI p1_least), .int (kI p1_most), .int (kI p1_faultKind), .int (kI p1_faultPlace), .int (kI p1_toldLines), .int (kI p1_kind), .int (kI p1_start), .int (kI p1_next), .int (kI p1_number)])), (a_p1_score, cAI G 60 p1_score), (a_p1_good, cAI G 60 p1_good), (a_p1_bad, cAI G 60 p1_bad), (a_p1_open, cAI G 60 p1_open), (a_p1_costs, cAI G 3 p1_costs)] := hw
      refine lv_aload_n hx hb dX6_take_53 rfl (lv_at hl 1 rfl) ?_
      refine rf_get hx hb cx hw 0 rfl rfl 1 inX6 (by decide) fl_X6_15 rfl rfl dX6_take_54 ?_
      refine lv_iload_n hx hb dX6_take_57 rfl (lv_at hl 0 rfl) ?_
      refine lv_aload_n hx hb dX6_take_58 rfl (lv_at hl 2 rfl) ?_
      refine rf_get hx hb cx hw 4 rfl rfl 2 inX7 (by decide) fl_X6_52 rfl rfl dX6_take_59 ?_
      refine lv_iload_n hx hb dX6_take_62 rfl (lv_at hl 3 rfl) ?_
      refine ra_i hx hb cx hw 7 rfl (by decide) g5 dX6_take_63 ?_
      refine ra_si hx hb cx hw 2 rfl (by decide) g6 dX6_take_64 (fun H locs hw => ?_)
      have hw : HP G A s.heap H locs [(a_t, .inr (5, [.ref a_t_good, .ref a_t_bad, .ref a_t_open, .int (kI t_least), .int (kI t_most), .int (kI t_goodCost), .int (kI t_badCost), .int (kI t_referCost)])), (a_t_good, cAI G 1000 (uP t_good (p1_score y2) (p1_good y2))), (a_t_bad, cAI G 1000 (uP t_bad (p1_score y2) (p1_bad y2))), (a_t_open, cAI G 1000 t_open), (a_p1, .inr (6, [.ref a_p1_score, .ref a_p1_good, .ref a_p1_bad, .ref a_p1_open, .ref a_p1_costs, .int (kI p1_ats), .int (kI p1_lines), .int (kI p1_least), .int (kI p1_most), .int (kI p1_faultKind), .int (kI p1_faultPlace), .int (kI p1_toldLines), .int (kI p1_kind), .int (kI p1_start), .int (kI p1_next), .int (kI p1_number)])), (a_p1_score, cAI G 60 p1_score), (a_p1_good, cAI G 60 p1_good), (a_p1_bad, cAI G 60 p1_bad), (a_p1_open, cAI G 60 p1_open), (a_p1_costs, cAI G 3 p1_costs)] := hw
      refine lv_aload_n hx hb dX6_take_65 rfl (lv_at hl 1 rfl) ?_
      refine rf_get hx hb cx hw 0 rfl rfl 2 inX6 (by decide) fl_X6_18 rfl rfl dX6_take_66 ?_
      refine lv_iload_n hx hb dX6_take_69 rfl (lv_at hl 0 rfl) ?_
      refine lv_aload_n hx hb dX6_take_70 rfl (lv_at hl 2 rfl) ?_
      refine rf_get hx hb cx hw 4 rfl rfl 3 inX7 (by decide) fl_X6_53 rfl rfl dX6_take_71 ?_
      refine lv_iload_n hx hb dX6_take_74 rfl (lv_at hl 3 rfl) ?_
      refine ra_i hx hb cx hw 8 rfl (by decide) g5 dX6_take_75 ?_
      refine ra_si hx hb cx hw 3 rfl (by decide) g6 dX6_take_76 (fun H locs hw => ?_)
      have hw : HP G A s.heap H locs [(a_t, .inr (5, [.ref a_t_good, .ref a_t_bad, .ref a_t_open, .int (kI t_least), .int (kI t_most), .int (kI t_goodCost), .int (kI t_badCost), .int (kI t_referCost)])), (a_t_good, cAI G 1000 (uP t_good (p1_score y2) (p1_good y2))), (a_t_bad, cAI G 1000 (uP t_bad (p1_score y2) (p1_bad y2))), (a_t_open, cAI G 1000 (uP t_open (p1_score y2) (p1_open y2))), (a_p1, .inr (6, [.ref a_p1_score, .ref a_p1_good, .ref a_p1_bad, .ref a_p1_open, .ref a_p1_costs, .int (kI p1_ats), .int (kI p1_lines), .int (kI p1_least), .int (kI p1_most), .int (kI p1_faultKind), .int (kI p1_faultPlace), .int (kI p1_toldLines), .int (kI p1_kind), .int (kI p1_start), .int (kI p1_next), .int (kI p1_number)])), (a_p1_score, cAI G 60 p1_score), (a_p1_good, cAI G 60 p1_good), (a_p1_bad, cAI G 60 p1_bad), (a_p1_open, cAI G 60 p1_open), (a_p1_costs, cAI G 3 p1_costs)] := hw
      refine lv_iinc (v := kI (y2 + 1)) (lv' := [(2, .int (kI (y2 + 1))), (3, .int (kI (p1_score y2))), (0, .ref a_t), (1, .ref a_p1)]) hx hb dX6_take_77 hl (k := 3) rfl (kI_add _ _) (by decide) rfl (fun ls hl => ?_)
      refine lv_goto (tgt := 26) hx hb dX6_take_80 (by decide) ?_
      exact ih t_least t_most t_goodCost t_badCost t_referCost (uP t_good (p1_score y2) (p1_good y2)) (uP t_bad (p1_score y2) (p1_bad y2)) (uP t_open (p1_score y2) (p1_open y2)) (y2 + 1) h _ _ _ hw (lv_sub hl [2, 3, 0] rfl)
set_option maxHeartbeats 4000000 in
set_option maxRecDepth 100000 in
theorem c_X6_take (l : Launch) (G : GG) (sz : Nat) (N : Nat) (a_t a_t_good a_t_bad a_t_open a_p1 a_p1_score a_p1_good a_p1_bad a_p1_open a_p1_costs : Nat) (t_least : Int) (t_most : Int) (t_goodCost : Int) (t_badCost : Int) (t_referCost : Int) (t_good : Int → Int) (t_bad : Int → Int) (t_open : Int → Int) (p1_ats : Int) (p1_lines : Int) (p1_least : Int) (p1_most : Int) (p1_faultKind : Int) (p1_faultPlace : Int) (p1_toldLines : Int) (p1_kind : Int) (p1_start : Int) (p1_next : Int) (p1_number : Int) (p1_score : Int → Int) (p1_good : Int → Int) (p1_bad : Int → Int) (p1_open : Int → Int) (p1_costs : Int → Int)  (r : Int × Int × Int × Int × Int × (Int → Int) × (Int → Int) × (Int → Int)) (h : m_X6_take N p1_ats p1_least p1_most p1_score p1_good p1_bad p1_open p1_costs t_least t_most t_goodCost t_badCost t_referCost t_good t_bad t_open = some r) : CtV l yX6_take cX6_take 4 (rmD 2 0 0) G sz [.ref a_t, .ref a_p1] [(a_t, .inr (5, [.ref a_t_good, .ref a_t_bad, .ref a_t_open, .int (kI t_least), .int (kI t_most), .int (kI t_goodCost), .int (kI t_badCost), .int (kI t_referCost)])), (a_t_good, cAI G 1000 t_good), (a_t_bad, cAI G 1000 t_bad), (a_t_open, cAI G 1000 t_open), (a_p1, .inr (6, [.ref a_p1_score, .ref a_p1_good, .ref a_p1_bad, .ref a_p1_open, .ref a_p1_costs, .int (kI p1_ats), .int (kI p1_lines), .int (kI p1_least), .int (kI p1_most), .int (kI p1_faultKind), .int (kI p1_faultPlace), .int (kI p1_toldLines), .int (kI p1_kind), .int (kI p1_start), .int (kI p1_next), .int (kI p1_number)])), (a_p1_score, cAI G 60 p1_score), (a_p1_good, cAI G 60 p1_good), (a_p1_bad, cAI G 60 p1_bad), (a_p1_open, cAI G 60 p1_open), (a_p1_costs, cAI G 3 p1_costs)] [(a_t, .inr (5, [.ref a_t_good, .ref a_t_bad, .ref a_t_open, .int (kI r.1), .int (kI r.2.1), .int (kI r.2.2.1), .int (kI r.2.2.2.1), .int (kI r.2.2.2.2.1)])), (a_t_good, cAI G 1000 r.2.2.2.2.2.1), (a_t_bad, cAI G 1000 r.2.2.2.2.2.2.1), (a_t_open, cAI G 1000 r.2.2.2.2.2.2.2), (a_p1, .inr (6, [.ref a_p1_score, .ref a_p1_good, .ref a_p1_bad, .ref a_p1_open, .ref a_p1_costs, .int (kI p1_ats), .int (kI p1_lines), .int (kI p1_least), .int (kI p1_most), .int (kI p1_faultKind), .int (kI p1_faultPlace), .int (kI p1_toldLines), .int (kI p1_kind), .int (kI p1_start), .int (kI p1_next), .int (kI p1_number)])), (a_p1_score, cAI G 60 p1_score), (a_p1_good, cAI G 60 p1_good), (a_p1_bad, cAI G 60 p1_bad), (a_p1_open, cAI G 60 p1_open), (a_p1_costs, cAI G 3 p1_costs)] := by
  refine met_of (Qc := fun A => QcV G A [(a_t, .inr (5, [.ref a_t_good, .ref a_t_bad, .ref a_t_open, .int (kI r.1), .int (kI r.2.1), .int (kI r.2.2.1), .int (kI r.2.2.2.1), .int (kI r.2.2.2.2.1)])), (a_t_good, cAI G 1000 r.2.2.2.2.2.1), (a_t_bad, cAI G 1000 r.2.2.2.2.2.2.1), (a_t_open, cAI G 1000 r.2.2.2.2.2.2.2), (a_p1, .inr (6, [.ref a_p1_score, .ref a_p1_good, .ref a_p1_bad, .ref a_p1_open, .ref a_p1_costs, .int (kI p1_ats), .int (kI p1_lines), .int (kI p1_least), .int (kI p1_most), .int (kI p1_faultKind), .int (kI p1_faultPlace), .int (kI p1_toldLines), .int (kI p1_kind), .int (kI p1_start), .int (kI p1_next), .int (kI p1_number)])), (a_p1_score, cAI G 60 p1_score), (a_p1_good, cAI G 60 p1_good), (a_p1_bad, cAI G 60 p1_bad), (a_p1_open, cAI G 60 p1_open), (a_p1_costs, cAI G 3 p1_costs)]) (by decide +kernel) (Nat.le_of_ble_eq_true rfl) ?_
  intro p e s m args below meth c A H locs ls cx hw hr hlk hnm hl
  have hl : lv_has ls 4 [(0, .ref a_t), (1, .ref a_p1)] := hl
  rw [m_X6_take] at h
  obtain ⟨⟨hx, hb, -, -, -⟩, -⟩ := id cx
  refine lv_aload_n hx hb dX6_take_0 rfl (lv_at hl 0 rfl) ?_
  refine rf_get hx hb cx hw 0 rfl rfl 0 inX6 (by decide) fl_X6_9 rfl rfl dX6_take_1 ?_
  refine ri_iconst hx hb dX6_take_4 ?_
  obtain ⟨r1, h1, h⟩ := bd_some h
  refine rc_V (w2 := [(a_t, .inr (5, [.ref a_t_good, .ref a_t_bad, .ref a_t_open, .int (kI t_least), .int (kI t_most), .int (kI t_goodCost), .int (kI t_badCost), .int (kI t_referCost)])), (a_t_good, cAI G 1000 r1), (a_t_bad, cAI G 1000 t_bad), (a_t_open, cAI G 1000 t_open), (a_p1, .inr (6, [.ref a_p1_score, .ref a_p1_good, .ref a_p1_bad, .ref a_p1_open, .ref a_p1_costs, .int (kI p1_ats), .int (kI p1_lines), .int (kI p1_least), .int (kI p1_most), .int (kI p1_faultKind), .int (kI p1_faultPlace), .int (kI p1_toldLines), .int (kI p1_kind), .int (kI p1_start), .int (kI p1_next), .int (kI p1_number)])), (a_p1_score, cAI G 60 p1_score), (a_p1_good, cAI G 60 p1_good), (a_p1_bad, cAI G 60 p1_bad), (a_p1_open, cAI G 60 p1_open), (a_p1_costs, cAI G 3 p1_costs)]) hw [1] [0, 2, 3, 4, 5, 6, 7, 8, 9] [0, 9, 1, 2, 3, 4, 5, 6, 7, 8] (rr_S cx hw (c_J7_fill_53178 l G H.size N a_t_good t_good 1000 0 (by decide) _ h1) mv_X6_37 [1] rfl rfl rfl ⟨Nat.le_of_ble_eq_true rfl, Nat.le_of_ble_eq_true rfl⟩ rfl hl.1 rfl (Nat.le_of_ble_eq_true rfl) dX6_take_5 ⟨Nat.le_of_ble_eq_true rfl, Nat.le_of_ble_eq_true rfl⟩) rfl rfl rfl rfl rfl rfl rfl rfl (fun H locs hw => ?_)
  refine lv_aload_n hx hb dX6_take_8 rfl (lv_at hl 0 rfl) ?_
  refine rf_get hx hb cx hw 0 rfl rfl 1 inX6 (by decide) fl_X6_15 rfl rfl dX6_take_9 ?_
  refine ri_iconst hx hb dX6_take_12 ?_
  obtain ⟨r2, h2, h⟩ := bd_some h
  refine rc_V (w2 := [(a_t, .inr (5, [.ref a_t_good, .ref a_t_bad, .ref a_t_open, .int (kI t_least), .int (kI t_most), .int (kI t_goodCost), .int (kI t_badCost), .int (kI t_referCost)])), (a_t_good, cAI G 1000 r1), (a_t_bad, cAI G 1000 r2), (a_t_open, cAI G 1000 t_open), (a_p1, .inr (6, [.ref a_p1_score, .ref a_p1_good, .ref a_p1_bad, .ref a_p1_open, .ref a_p1_costs, .int (kI p1_ats), .int (kI p1_lines), .int (kI p1_least), .int (kI p1_most), .int (kI p1_faultKind), .int (kI p1_faultPlace), .int (kI p1_toldLines), .int (kI p1_kind), .int (kI p1_start), .int (kI p1_next), .int (kI p1_number)])), (a_p1_score, cAI G 60 p1_score), (a_p1_good, cAI G 60 p1_good), (a_p1_bad, cAI G 60 p1_bad), (a_p1_open, cAI G 60 p1_open), (a_p1_costs, cAI G 3 p1_costs)]) hw [2] [0, 1, 3, 4, 5, 6, 7, 8, 9] [0, 1, 9, 2, 3, 4, 5, 6, 7, 8] (rr_S cx hw (c_J7_fill_53178 l G H.size N a_t_bad t_bad 1000 0 (by decide) _ h2) mv_X6_37 [2] rfl rfl rfl ⟨Nat.le_of_ble_eq_true rfl, Nat.le_of_ble_eq_true rfl⟩ rfl hl.1 rfl (Nat.le_of_ble_eq_true rfl) dX6_take_13 ⟨Nat.le_of_ble_eq_true rfl, Nat.le_of_ble_eq_true rfl⟩) rfl rfl rfl rfl rfl rfl rfl rfl (fun H locs hw => ?_)
  refine lv_aload_n hx hb dX6_take_16 rfl (lv_at hl 0 rfl) ?_
  refine rf_get hx hb cx hw 0 rfl rfl 2 inX6 (by decide) fl_X6_18 rfl rfl dX6_take_17 ?_
  refine ri_iconst hx hb dX6_take_20 ?_
  obtain ⟨r3, h3, h⟩ := bd_some h
  refine rc_V (w2 := [(a_t, .inr (5, [.ref a_t_good, .ref a_t_bad, .ref a_t_open, .int (kI t_least), .int (kI t_most), .int (kI t_goodCost), .int (kI t_badCost), .int (kI t_referCost)])), (a_t_good, cAI G 1000 r1), (a_t_bad, cAI G 1000 r2), (a_t_open, cAI G 1000 r3), (a_p1, .inr (6, [.ref a_p1_score, .ref a_p1_good, .ref a_p1_bad, .ref a_p1_open, .ref a_p1_costs, .int (kI p1_ats), .int (kI p1_lines), .int (kI p1_least), .int (kI p1_most), .int (kI p1_faultKind), .int (kI p1_faultPlace), .int (kI p1_toldLines), .int (kI p1_kind), .int (kI p1_start), .int (kI p1_next), .int (kI p1_number)])), (a_p1_score, cAI G 60 p1_score), (a_p1_good, cAI G 60 p1_good), (a_p1_bad, cAI G 60 p1_bad), (a_p1_open, cAI G 60 p1_open), (a_p1_costs, cAI G 3 p1_costs)]) hw [3] [0, 1, 2, 4, 5, 6, 7, 8, 9] [0, 1, 2, 9, 3, 4, 5, 6, 7, 8] (rr_S cx hw (c_J7_fill_53178 l G H.size N a_t_open t_open 1000 0 (by decide) _ h3) mv_X6_37 [3] rfl rfl rfl ⟨Nat.le_of_ble_eq_true rfl, Nat.le_of_ble_eq_true rfl⟩ rfl hl.1 rfl (Nat.le_of_ble_eq_true rfl) dX6_take_21 ⟨Nat.le_of_ble_eq_true rfl, Nat.le_of_ble_eq_true rfl⟩) rfl rfl rfl rfl rfl rfl rfl rfl (fun H locs hw => ?_)
  refine ri_iconst hx hb dX6_take_24 ?_
  refine lv_istore_n (lv' := [(2, .int (kI 0)), (0, .ref a_t), (1, .ref a_p1)]) hx hb dX6_take_25 rfl hl (by decide) rfl (fun ls hl => ?_)
  exact w_X6_take_b26 cx hlk hr N a_t a_t_good a_t_bad a_t_open a_p1 a_p1_score a_p1_good a_p1_bad a_p1_open a_p1_costs p1_ats p1_lines p1_least p1_most p1_faultKind p1_faultPlace p1_toldLines p1_kind p1_start p1_next p1_number p1_score p1_good p1_bad p1_open p1_costs r N t_least t_most t_goodCost t_badCost t_referCost r1 r2 r3 0 h _ _ _ hw (lv_sub hl [1, 2, 0] rfl)
set_option maxHeartbeats 4000000 in
set_option maxRecDepth 100000 in
theorem c_X6_setBound (l : Launch) (G : GG) (sz : Nat) (N : Nat) (a_t a_t_good a_t_bad a_t_open : Nat) (t_least : Int) (t_most : Int) (t_goodCost : Int) (t_badCost : Int) (t_referCost : Int) (t_good : Int → Int) (t_bad : Int → Int) (t_open : Int → Int) (x1 : Int) (x2 : Int) (r : Int × Int) (h : m_X6_setBound N t_least t_most x1 x2 = some r) : CtV l yX6_setBound cX6_setBound 3 (rmD 1 0 0) G sz [.ref a_t, .int (kI x1), .int (kI x2)] [(a_t, .inr (5, [.ref a_t_good, .ref a_t_bad, .ref a_t_open, .int (kI t_least), .int (kI t_most), .int (kI t_goodCost), .int (kI t_badCost), .int (kI t_referCost)])), (a_t_good, cAI G 1000 t_good), (a_t_bad, cAI G 1000 t_bad), (a_t_open, cAI G 1000 t_open)] [(a_t, .inr (5, [.ref a_t_good, .ref a_t_bad, .ref a_t_open, .int (kI r.1), .int (kI r.2), .int (kI t_goodCost), .int (kI t_badCost), .int (kI t_referCost)])), (a_t_good, cAI G 1000 t_good), (a_t_bad, cAI G 1000 t_bad), (a_t_open, cAI G 1000 t_open)] := by
  refine met_of (Qc := fun A => QcV G A [(a_t, .inr (5, [.ref a_t_good, .ref a_t_bad, .ref a_t_open, .int (kI r.1), .int (kI r.2), .int (kI t_goodCost), .int (kI t_badCost), .int (kI t_referCost)])), (a_t_good, cAI G 1000 t_good), (a_t_bad, cAI G 1000 t_bad), (a_t_open, cAI G 1000 t_open)]) (by decide +kernel) (Nat.le_of_ble_eq_true rfl) ?_
  intro p e s m args below meth c A H locs ls cx hw hr hlk hnm hl
  have hl : lv_has ls 3 [(0, .ref a_t), (1, .int (kI x1)), (2, .int (kI x2))] := hl
  rw [m_X6_setBound] at h
  obtain ⟨⟨hx, hb, -, -, -⟩, -⟩ := id cx
  refine lv_iload_n hx hb dX6_setBound_0 rfl (lv_at hl 1 rfl) ?_
  obtain ⟨g1, h⟩ := gd_some h
  refine ri_if_ne (tgt := 12) hx hb g1 dX6_setBound_1 (by decide) (fun c2 => ?_) (fun c2 => ?_)
  · have h := it_pos c2 h
    refine lv_aload_n hx hb dX6_setBound_4 rfl (lv_at hl 0 rfl) ?_
    refine lv_iload_n hx hb dX6_setBound_5 rfl (lv_at hl 2 rfl) ?_
    refine rf_put hx hb cx hw 0 rfl rfl 3 inX6 tyX6 tyX6_ok nmX6 (by decide) fl_X6_21 rfl rfl rfl rfl (Nat.le_of_ble_eq_true rfl) dX6_setBound_6 (fun H locs hw => ?_)
    have hw : HP G A s.heap H locs [(a_t, .inr (5, [.ref a_t_good, .ref a_t_bad, .ref a_t_open, .int (kI x2), .int (kI t_most), .int (kI t_goodCost), .int (kI t_badCost), .int (kI t_referCost)])), (a_t_good, cAI G 1000 t_good), (a_t_bad, cAI G 1000 t_bad), (a_t_open, cAI G 1000 t_open)] := hw
    refine lv_goto (tgt := 17) hx hb dX6_setBound_9 (by decide) ?_
    obtain rfl := so_inj h
    exact re_v hx hb hlk hr cx hw (Nat.le_of_ble_eq_true rfl) (Nat.le_of_ble_eq_true rfl) dX6_setBound_17
  · have h := it_neg c2 h
    refine lv_aload_n hx hb dX6_setBound_12 rfl (lv_at hl 0 rfl) ?_
    refine lv_iload_n hx hb dX6_setBound_13 rfl (lv_at hl 2 rfl) ?_
    refine rf_put hx hb cx hw 0 rfl rfl 4 inX6 tyX6 tyX6_ok nmX6 (by decide) fl_X6_25 rfl rfl rfl rfl (Nat.le_of_ble_eq_true rfl) dX6_setBound_14 (fun H locs hw => ?_)
    have hw : HP G A s.heap H locs [(a_t, .inr (5, [.ref a_t_good, .ref a_t_bad, .ref a_t_open, .int (kI t_least), .int (kI x2), .int (kI t_goodCost), .int (kI t_badCost), .int (kI t_referCost)])), (a_t_good, cAI G 1000 t_good), (a_t_bad, cAI G 1000 t_bad), (a_t_open, cAI G 1000 t_open)] := hw
    obtain rfl := so_inj h
    exact re_v hx hb hlk hr cx hw (Nat.le_of_ble_eq_true rfl) (Nat.le_of_ble_eq_true rfl) dX6_setBound_17
set_option maxHeartbeats 4000000 in
set_option maxRecDepth 100000 in
theorem w_X6_opens_b4 {p : Program} {l : Launch} {e : Env} {s : State} {m : MethodId} {args : Array Value} {below : List Frame} {meth : Method} {c : Code} {A : Nat → Prop} {G : GG} (cx : CX p s m args c cX6_opens RX6 3 G) (hlk : meth.locks = false) (hr : meth.sig.returnType = some .int) (N : Nat) (a_t a_t_good a_t_bad a_t_open : Nat) (t_least : Int) (t_most : Int) (t_goodCost : Int) (t_badCost : Int) (t_referCost : Int) (t_good : Int → Int) (t_bad : Int → Int) (t_open : Int → Int) (r : Int) : ∀ n : Nat, ∀ (y1 : Int) (y2 : Int), m_X6_opens_b4 N t_open n y1 y2 = some r → ∀ (H : Heap) (locs : List Loc) (ls : Array Slot), HP G A s.heap H locs [(a_t, .inr (5, [.ref a_t_good, .ref a_t_bad, .ref a_t_open, .int (kI t_least), .int (kI t_most), .int (kI t_goodCost), .int (kI t_badCost), .int (kI t_referCost)])), (a_t_good, cAI G 1000 t_good), (a_t_bad, cAI G 1000 t_bad), (a_t_open, cAI G 1000 t_open)] → lv_has ls 3 [(0, .ref a_t), (1, .int (kI y1)), (2, .int (kI y2))] → W p l e (rmD 1 0 0) s m args below meth c H locs 0 0 (MQ below (QcI G A r [(a_t, .inr (5, [.ref a_t_good, .ref a_t_bad, .ref a_t_open, .int (kI t_least), .int (kI t_most), .int (kI t_goodCost), .int (kI t_badCost), .int (kI t_referCost)])), (a_t_good, cAI G 1000 t_good), (a_t_bad, cAI G 1000 t_bad), (a_t_open, cAI G 1000 t_open)]) args s (rmD 1 0 0).cells (rmD 1 0 0).slots A) (F0 m 4 ls []) := by
  intro n
  induction n with
  | zero => intro y1 y2 h; exact nomatch h
  | succ n ih =>
    intro y1 y2 h H locs ls hw hl
    rw [m_X6_opens_b4] at h
    obtain ⟨⟨hx, hb, -, -, -⟩, -⟩ := id cx
    refine lv_iload_n hx hb dX6_opens_4 rfl (lv_at hl 2 rfl) ?_
    refine ri_sipush hx hb dX6_opens_5 rfl ?_
    obtain ⟨g1, h⟩ := gd_some h
    refine ri_icmp_ge (tgt := 26) hx hb g1 ⟨by decide, by decide⟩ dX6_opens_8 (by decide) (fun c2 => ?_) (fun c2 => ?_)
    · have h := it_pos c2 h
      refine lv_iload_n hx hb dX6_opens_26 rfl (lv_at hl 1 rfl) ?_
      obtain rfl := so_inj h
      exact re_i hx hb hlk hr cx hw (Nat.le_of_ble_eq_true rfl) (Nat.le_of_ble_eq_true rfl) dX6_opens_27
    · have h := it_neg c2 h
      refine lv_iload_n hx hb dX6_opens_11 rfl (lv_at hl 1 rfl) ?_
      refine lv_aload_n hx hb dX6_opens_12 rfl (lv_at hl 0 rfl) ?_
      refine rf_get hx hb cx hw 0 rfl rfl 2 inX6 (by decide) fl_X6_18 rfl rfl dX6_opens_13 ?_
      refine lv_iload_n hx hb dX6_opens_16 rfl (lv_at hl 2 rfl) ?_
      obtain ⟨g3, h⟩ := gd_some h
      refine ra_i hx hb cx hw 3 rfl (by decide) g3 dX6_opens_17 ?_
      refine ri_iadd hx hb dX6_opens_18 ?_
      refine lv_istore_n (lv' := [(1, .int (kI (y1 + (t_open y2)))), (0, .ref a_t), (2, .int (kI y2))]) hx hb dX6_opens_19 rfl hl (by decide) rfl (fun ls hl => ?_)
      refine lv_iinc (v := kI (y2 + 1)) (lv' := [(2, .int (kI (y2 + 1))), (1, .int (kI (y1 + (t_open y2)))), (0, .ref a_t)]) hx hb dX6_opens_20 hl (k := 2) rfl (kI_add _ _) (by decide) rfl (fun ls hl => ?_)
      refine lv_goto (tgt := 4) hx hb dX6_opens_23 (by decide) ?_
      exact ih (y1 + (t_open y2)) (y2 + 1) h _ _ _ hw (lv_sub hl [2, 1, 0] rfl)
set_option maxHeartbeats 4000000 in
set_option maxRecDepth 100000 in
theorem c_X6_opens (l : Launch) (G : GG) (sz : Nat) (N : Nat) (a_t a_t_good a_t_bad a_t_open : Nat) (t_least : Int) (t_most : Int) (t_goodCost : Int) (t_badCost : Int) (t_referCost : Int) (t_good : Int → Int) (t_bad : Int → Int) (t_open : Int → Int)  (r : Int) (h : m_X6_opens N t_open = some r) : CtI l yX6_opens cX6_opens 3 .int (rmD 1 0 0) G sz [.ref a_t] [(a_t, .inr (5, [.ref a_t_good, .ref a_t_bad, .ref a_t_open, .int (kI t_least), .int (kI t_most), .int (kI t_goodCost), .int (kI t_badCost), .int (kI t_referCost)])), (a_t_good, cAI G 1000 t_good), (a_t_bad, cAI G 1000 t_bad), (a_t_open, cAI G 1000 t_open)] r [(a_t, .inr (5, [.ref a_t_good, .ref a_t_bad, .ref a_t_open, .int (kI t_least), .int (kI t_most), .int (kI t_goodCost), .int (kI t_badCost), .int (kI t_referCost)])), (a_t_good, cAI G 1000 t_good), (a_t_bad, cAI G 1000 t_bad), (a_t_open, cAI G 1000 t_open)] := by
  refine met_of (Qc := fun A => QcI G A r [(a_t, .inr (5, [.ref a_t_good, .ref a_t_bad, .ref a_t_open, .int (kI t_least), .int (kI t_most), .int (kI t_goodCost), .int (kI t_badCost), .int (kI t_referCost)])), (a_t_good, cAI G 1000 t_good), (a_t_bad, cAI G 1000 t_bad), (a_t_open, cAI G 1000 t_open)]) (by decide +kernel) (Nat.le_of_ble_eq_true rfl) ?_
  intro p e s m args below meth c A H locs ls cx hw hr hlk hnm hl
  have hl : lv_has ls 3 [(0, .ref a_t)] := hl
  rw [m_X6_opens] at h
  obtain ⟨⟨hx, hb, -, -, -⟩, -⟩ := id cx
  refine ri_iconst hx hb dX6_opens_0 ?_
  refine lv_istore_n (lv' := [(1, .int (kI 0)), (0, .ref a_t)]) hx hb dX6_opens_1 rfl hl (by decide) rfl (fun ls hl => ?_)
  refine ri_iconst hx hb dX6_opens_2 ?_
  refine lv_istore_n (lv' := [(2, .int (kI 0)), (1, .int (kI 0)), (0, .ref a_t)]) hx hb dX6_opens_3 rfl hl (by decide) rfl (fun ls hl => ?_)
  exact w_X6_opens_b4 cx hlk hr N a_t a_t_good a_t_bad a_t_open t_least t_most t_goodCost t_badCost t_referCost t_good t_bad t_open r N 0 0 h _ _ _ hw (lv_sub hl [2, 1, 0] rfl)
set_option maxHeartbeats 4000000 in
set_option maxRecDepth 100000 in
theorem w_X6_fits_b72 {p : Program} {l : Launch} {e : Env} {s : State} {m : MethodId} {args : Array Value} {below : List Frame} {meth : Method} {c : Code} {A : Nat → Prop} {G : GG} (cx : CX p s m args c cX6_fits RX6 3 G) (hlk : meth.locks = false) (hr : meth.sig.returnType = some .boolean) (N : Nat) (a_t a_t_good a_t_bad a_t_open : Nat) (t_least : Int) (t_most : Int) (t_goodCost : Int) (t_badCost : Int) (t_referCost : Int) (t_good : Int → Int) (t_bad : Int → Int) (t_open : Int → Int) (r : Int) (k4 : Int → Int → Option (Int)) (hk4 : ∀ (y1 : Int) (y2 : Int), k4 y1 y2 = some r → ∀ (H : Heap) (locs : List Loc) (ls : Array Slot), HP G A s.heap H locs [(a_t, .inr (5, [.ref a_t_good, .ref a_t_bad, .ref a_t_open, .int (kI t_least), .int (kI t_most), .int (kI t_goodCost), .int (kI t_badCost), .int (kI t_referCost)])), (a_t_good, cAI G 1000 t_good), (a_t_bad, cAI G 1000 t_bad), (a_t_open, cAI G 1000 t_open)] → lv_has ls 3 [(0, .ref a_t), (1, .int (kI y1)), (2, .int (kI y2))] → W p l e (rmD 1 0 0) s m args below meth c H locs 0 0 (MQ below (QcI G A r [(a_t, .inr (5, [.ref a_t_good, .ref a_t_bad, .ref a_t_open, .int (kI t_least), .int (kI t_most), .int (kI t_goodCost), .int (kI t_badCost), .int (kI t_referCost)])), (a_t_good, cAI G 1000 t_good), (a_t_bad, cAI G 1000 t_bad), (a_t_open, cAI G 1000 t_open)]) args s (rmD 1 0 0).cells (rmD 1 0 0).slots A) (F0 m 4 ls [])) : ∀ (y1 : Int) (y2 : Int), m_X6_fits_b72 N t_good t_bad k4 y1 y2 = some r → ∀ (H : Heap) (locs : List Loc) (ls : Array Slot), HP G A s.heap H locs [(a_t, .inr (5, [.ref a_t_good, .ref a_t_bad, .ref a_t_open, .int (kI t_least), .int (kI t_most), .int (kI t_goodCost), .int (kI t_badCost), .int (kI t_referCost)])), (a_t_good, cAI G 1000 t_good), (a_t_bad, cAI G 1000 t_bad), (a_t_open, cAI G 1000 t_open)] → lv_has ls 3 [(0, .ref a_t), (1, .int (kI y1)), (2, .int (kI y2))] → W p l e (rmD 1 0 0) s m args below meth c H locs 0 0 (MQ below (QcI G A r [(a_t, .inr (5, [.ref a_t_good, .ref a_t_bad, .ref a_t_open, .int (kI t_least), .int (kI t_most), .int (kI t_goodCost), .int (kI t_badCost), .int (kI t_referCost)])), (a_t_good, cAI G 1000 t_good), (a_t_bad, cAI G 1000 t_bad), (a_t_open, cAI G 1000 t_open)]) args s (rmD 1 0 0).cells (rmD 1 0 0).slots A) (F0 m 72 ls []) := by
  intro y1 y2 h H locs ls hw hl
  rw [m_X6_fits_b72] at h
  obtain ⟨⟨hx, hb, -, -, -⟩, -⟩ := id cx
  refine lv_iinc (v := kI (y2 + 1)) (lv' := [(2, .int (kI (y2 + 1))), (0, .ref a_t), (1, .int (kI y1))]) hx hb dX6_fits_72 hl (k := 2) rfl (kI_add _ _) (by decide) rfl (fun ls hl => ?_)
  refine lv_goto (tgt := 4) hx hb dX6_fits_75 (by decide) ?_
  exact hk4 y1 (y2 + 1) h _ _ _ hw (lv_sub hl [1, 2, 0] rfl)
set_option maxHeartbeats 4000000 in
set_option maxRecDepth 100000 in
theorem w_X6_fits_b4 {p : Program} {l : Launch} {e : Env} {s : State} {m : MethodId} {args : Array Value} {below : List Frame} {meth : Method} {c : Code} {A : Nat → Prop} {G : GG} (cx : CX p s m args c cX6_fits RX6 3 G) (hlk : meth.locks = false) (hr : meth.sig.returnType = some .boolean) (N : Nat) (a_t a_t_good a_t_bad a_t_open : Nat) (t_least : Int) (t_most : Int) (t_goodCost : Int) (t_badCost : Int) (t_referCost : Int) (t_good : Int → Int) (t_bad : Int → Int) (t_open : Int → Int) (r : Int) : ∀ n : Nat, ∀ (y1 : Int) (y2 : Int), m_X6_fits_b4 N t_good t_bad n y1 y2 = some r → ∀ (H : Heap) (locs : List Loc) (ls : Array Slot), HP G A s.heap H locs [(a_t, .inr (5, [.ref a_t_good, .ref a_t_bad, .ref a_t_open, .int (kI t_least), .int (kI t_most), .int (kI t_goodCost), .int (kI t_badCost), .int (kI t_referCost)])), (a_t_good, cAI G 1000 t_good), (a_t_bad, cAI G 1000 t_bad), (a_t_open, cAI G 1000 t_open)] → lv_has ls 3 [(0, .ref a_t), (1, .int (kI y1)), (2, .int (kI y2))] → W p l e (rmD 1 0 0) s m args below meth c H locs 0 0 (MQ below (QcI G A r [(a_t, .inr (5, [.ref a_t_good, .ref a_t_bad, .ref a_t_open, .int (kI t_least), .int (kI t_most), .int (kI t_goodCost), .int (kI t_badCost), .int (kI t_referCost)])), (a_t_good, cAI G 1000 t_good), (a_t_bad, cAI G 1000 t_bad), (a_t_open, cAI G 1000 t_open)]) args s (rmD 1 0 0).cells (rmD 1 0 0).slots A) (F0 m 4 ls []) := by
  intro n
  induction n with
  | zero => intro y1 y2 h; exact nomatch h
  | succ n ih =>
    intro y1 y2 h H locs ls hw hl
    rw [m_X6_fits_b4] at h
    obtain ⟨⟨hx, hb, -, -, -⟩, -⟩ := id cx
    refine lv_iload_n hx hb dX6_fits_4 rfl (lv_at hl 2 rfl) ?_
    refine ri_sipush hx hb dX6_fits_5 rfl ?_
    obtain ⟨g1, h⟩ := gd_some h
    refine ri_icmp_ge (tgt := 78) hx hb g1 ⟨by decide, by decide⟩ dX6_fits_8 (by decide) (fun c2 => ?_) (fun c2 => ?_)
    · have h := it_pos c2 h
      refine lv_iload_n hx hb dX6_fits_78 rfl (lv_at hl 1 rfl) ?_
      refine ri_bipush hx hb dX6_fits_79 rfl ?_
      obtain ⟨g3, h⟩ := gd_some h
      refine ri_icmp_gt (tgt := 88) hx hb g3 ⟨by decide, by decide⟩ dX6_fits_81 (by decide) (fun c4 => ?_) (fun c4 => ?_)
      · have h := it_pos c4 h
        refine ri_iconst hx hb dX6_fits_88 ?_
        obtain rfl := so_inj h
        exact re_z (by decide)  hx hb hlk hr cx hw (Nat.le_of_ble_eq_true rfl) (Nat.le_of_ble_eq_true rfl) dX6_fits_89
      · have h := it_neg c4 h
        refine ri_iconst hx hb dX6_fits_84 ?_
        refine lv_goto (tgt := 89) hx hb dX6_fits_85 (by decide) ?_
        obtain rfl := so_inj h
        exact re_z (by decide)  hx hb hlk hr cx hw (Nat.le_of_ble_eq_true rfl) (Nat.le_of_ble_eq_true rfl) dX6_fits_89
    · have h := it_neg c2 h
      refine lv_aload_n hx hb dX6_fits_11 rfl (lv_at hl 0 rfl) ?_
      refine rf_get hx hb cx hw 0 rfl rfl 0 inX6 (by decide) fl_X6_9 rfl rfl dX6_fits_12 ?_
      refine lv_iload_n hx hb dX6_fits_15 rfl (lv_at hl 2 rfl) ?_
      obtain ⟨g5, h⟩ := gd_some h
      refine ra_i hx hb cx hw 1 rfl (by decide) g5 dX6_fits_16 ?_
      obtain ⟨g6, h⟩ := gd_some h
      refine ri_if_lt (tgt := 51) hx hb g6 dX6_fits_17 (by decide) (fun c7 => ?_) (fun c7 => ?_)
      · have h := it_pos c7 h
        refine ri_iconst hx hb dX6_fits_51 ?_
        obtain rfl := so_inj h
        exact re_z (by decide)  hx hb hlk hr cx hw (Nat.le_of_ble_eq_true rfl) (Nat.le_of_ble_eq_true rfl) dX6_fits_52
      · have h := it_neg c7 h
        refine lv_aload_n hx hb dX6_fits_20 rfl (lv_at hl 0 rfl) ?_
        refine rf_get hx hb cx hw 0 rfl rfl 0 inX6 (by decide) fl_X6_9 rfl rfl dX6_fits_21 ?_
        refine lv_iload_n hx hb dX6_fits_24 rfl (lv_at hl 2 rfl) ?_
        refine ra_i hx hb cx hw 1 rfl (by decide) g5 dX6_fits_25 ?_
        refine ri_bipush hx hb dX6_fits_26 rfl ?_
        refine ri_icmp_gt (tgt := 51) hx hb g6 ⟨by decide, by decide⟩ dX6_fits_28 (by decide) (fun c8 => ?_) (fun c8 => ?_)
        · have h := it_pos c8 h
          refine ri_iconst hx hb dX6_fits_51 ?_
          obtain rfl := so_inj h
          exact re_z (by decide)  hx hb hlk hr cx hw (Nat.le_of_ble_eq_true rfl) (Nat.le_of_ble_eq_true rfl) dX6_fits_52
        · have h := it_neg c8 h
          refine lv_aload_n hx hb dX6_fits_31 rfl (lv_at hl 0 rfl) ?_
          refine rf_get hx hb cx hw 0 rfl rfl 1 inX6 (by decide) fl_X6_15 rfl rfl dX6_fits_32 ?_
          refine lv_iload_n hx hb dX6_fits_35 rfl (lv_at hl 2 rfl) ?_
          refine ra_i hx hb cx hw 2 rfl (by decide) g5 dX6_fits_36 ?_
          obtain ⟨g9, h⟩ := gd_some h
          refine ri_if_lt (tgt := 51) hx hb g9 dX6_fits_37 (by decide) (fun c10 => ?_) (fun c10 => ?_)
          · have h := it_pos c10 h
            refine ri_iconst hx hb dX6_fits_51 ?_
            obtain rfl := so_inj h
            exact re_z (by decide)  hx hb hlk hr cx hw (Nat.le_of_ble_eq_true rfl) (Nat.le_of_ble_eq_true rfl) dX6_fits_52
          · have h := it_neg c10 h
            refine lv_aload_n hx hb dX6_fits_40 rfl (lv_at hl 0 rfl) ?_
            refine rf_get hx hb cx hw 0 rfl rfl 1 inX6 (by decide) fl_X6_15 rfl rfl dX6_fits_41 ?_
            refine lv_iload_n hx hb dX6_fits_44 rfl (lv_at hl 2 rfl) ?_
            refine ra_i hx hb cx hw 2 rfl (by decide) g5 dX6_fits_45 ?_
            refine ri_bipush hx hb dX6_fits_46 rfl ?_
            refine ri_icmp_le (tgt := 53) hx hb g9 ⟨by decide, by decide⟩ dX6_fits_48 (by decide) (fun c11 => ?_) (fun c11 => ?_)
            · have h := it_pos c11 h
              refine lv_aload_n hx hb dX6_fits_53 rfl (lv_at hl 0 rfl) ?_
              refine rf_get hx hb cx hw 0 rfl rfl 0 inX6 (by decide) fl_X6_9 rfl rfl dX6_fits_54 ?_
              refine lv_iload_n hx hb dX6_fits_57 rfl (lv_at hl 2 rfl) ?_
              refine ra_i hx hb cx hw 1 rfl (by decide) g5 dX6_fits_58 ?_
              refine lv_aload_n hx hb dX6_fits_59 rfl (lv_at hl 0 rfl) ?_
              refine rf_get hx hb cx hw 0 rfl rfl 1 inX6 (by decide) fl_X6_15 rfl rfl dX6_fits_60 ?_
              refine lv_iload_n hx hb dX6_fits_63 rfl (lv_at hl 2 rfl) ?_
              refine ra_i hx hb cx hw 2 rfl (by decide) g5 dX6_fits_64 ?_
              refine ri_iadd hx hb dX6_fits_65 ?_
              obtain ⟨g12, h⟩ := gd_some h
              refine ri_if_le (tgt := 72) hx hb g12 dX6_fits_66 (by decide) (fun c13 => ?_) (fun c13 => ?_)
              · have h := it_pos c13 h
                exact w_X6_fits_b72 cx hlk hr N a_t a_t_good a_t_bad a_t_open t_least t_most t_goodCost t_badCost t_referCost t_good t_bad t_open r (m_X6_fits_b4 N t_good t_bad n) ih y1 y2 h _ _ _ hw (lv_sub hl [0, 1, 2] rfl)
              · have h := it_neg c13 h
                refine lv_iinc (v := kI (y1 + 1)) (lv' := [(1, .int (kI (y1 + 1))), (0, .ref a_t), (2, .int (kI y2))]) hx hb dX6_fits_69 hl (k := 1) rfl (kI_add _ _) (by decide) rfl (fun ls hl => ?_)
                exact w_X6_fits_b72 cx hlk hr N a_t a_t_good a_t_bad a_t_open t_least t_most t_goodCost t_badCost t_referCost t_good t_bad t_open r (m_X6_fits_b4 N t_good t_bad n) ih (y1 + 1) y2 h _ _ _ hw (lv_sub hl [1, 0, 2] rfl)
            · have h := it_neg c11 h
              refine ri_iconst hx hb dX6_fits_51 ?_
              obtain rfl := so_inj h
              exact re_z (by decide)  hx hb hlk hr cx hw (Nat.le_of_ble_eq_true rfl) (Nat.le_of_ble_eq_true rfl) dX6_fits_52
set_option maxHeartbeats 4000000 in
set_option maxRecDepth 100000 in
theorem c_X6_fits (l : Launch) (G : GG) (sz : Nat) (N : Nat) (a_t a_t_good a_t_bad a_t_open : Nat) (t_least : Int) (t_most : Int) (t_goodCost : Int) (t_badCost : Int) (t_referCost : Int) (t_good : Int → Int) (t_bad : Int → Int) (t_open : Int → Int)  (r : Int) (h : m_X6_fits N t_good t_bad = some r) : CtI l yX6_fits cX6_fits 3 .boolean (rmD 1 0 0) G sz [.ref a_t] [(a_t, .inr (5, [.ref a_t_good, .ref a_t_bad, .ref a_t_open, .int (kI t_least), .int (kI t_most), .int (kI t_goodCost), .int (kI t_badCost), .int (kI t_referCost)])), (a_t_good, cAI G 1000 t_good), (a_t_bad, cAI G 1000 t_bad), (a_t_open, cAI G 1000 t_open)] r [(a_t, .inr (5, [.ref a_t_good, .ref a_t_bad, .ref a_t_open, .int (kI t_least), .int (kI t_most), .int (kI t_goodCost), .int (kI t_badCost), .int (kI t_referCost)])), (a_t_good, cAI G 1000 t_good), (a_t_bad, cAI G 1000 t_bad), (a_t_open, cAI G 1000 t_open)] := by
  refine met_of (Qc := fun A => QcI G A r [(a_t, .inr (5, [.ref a_t_good, .ref a_t_bad, .ref a_t_open, .int (kI t_least), .int (kI t_most), .int (kI t_goodCost), .int (kI t_badCost), .int (kI t_referCost)])), (a_t_good, cAI G 1000 t_good), (a_t_bad, cAI G 1000 t_bad), (a_t_open, cAI G 1000 t_open)]) (by decide +kernel) (Nat.le_of_ble_eq_true rfl) ?_
  intro p e s m args below meth c A H locs ls cx hw hr hlk hnm hl
  have hl : lv_has ls 3 [(0, .ref a_t)] := hl
  rw [m_X6_fits] at h
  obtain ⟨⟨hx, hb, -, -, -⟩, -⟩ := id cx
  refine ri_iconst hx hb dX6_fits_0 ?_
  refine lv_istore_n (lv' := [(1, .int (kI 0)), (0, .ref a_t)]) hx hb dX6_fits_1 rfl hl (by decide) rfl (fun ls hl => ?_)
  refine ri_iconst hx hb dX6_fits_2 ?_
  refine lv_istore_n (lv' := [(2, .int (kI 0)), (1, .int (kI 0)), (0, .ref a_t)]) hx hb dX6_fits_3 rfl hl (by decide) rfl (fun ls hl => ?_)
  exact w_X6_fits_b4 cx hlk hr N a_t a_t_good a_t_bad a_t_open t_least t_most t_goodCost t_badCost t_referCost t_good t_bad t_open r N 0 0 h _ _ _ hw (lv_sub hl [2, 1, 0] rfl)
set_option maxHeartbeats 4000000 in
set_option maxRecDepth 100000 in
theorem c_X7_begin (l : Launch) (G : GG) (sz : Nat) (N : Nat) (a_t a_t_score a_t_good a_t_bad a_t_open a_t_costs : Nat) (t_ats : Int) (t_lines : Int) (t_least : Int) (t_most : Int) (t_faultKind : Int) (t_faultPlace : Int) (t_toldLines : Int) (t_kind : Int) (t_start : Int) (t_next : Int) (t_number : Int) (t_score : Int → Int) (t_good : Int → Int) (t_bad : Int → Int) (t_open : Int → Int) (t_costs : Int → Int)  (r : Int × Int × Int × Int × Int × Int × Int × Int × (Int → Int)) (h : m_X7_begin N t_ats t_lines t_least t_most t_faultKind t_faultPlace t_toldLines t_next t_costs = some r) : CtV l yX7_begin cX7_begin 1 (rmD 1 0 0) G sz [.ref a_t] [(a_t, .inr (6, [.ref a_t_score, .ref a_t_good, .ref a_t_bad, .ref a_t_open, .ref a_t_costs, .int (kI t_ats), .int (kI t_lines), .int (kI t_least), .int (kI t_most), .int (kI t_faultKind), .int (kI t_faultPlace), .int (kI t_toldLines), .int (kI t_kind), .int (kI t_start), .int (kI t_next), .int (kI t_number)])), (a_t_score, cAI G 60 t_score), (a_t_good, cAI G 60 t_good), (a_t_bad, cAI G 60 t_bad), (a_t_open, cAI G 60 t_open), (a_t_costs, cAI G 3 t_costs)] [(a_t, .inr (6, [.ref a_t_score, .ref a_t_good, .ref a_t_bad, .ref a_t_open, .ref a_t_costs, .int (kI r.1), .int (kI r.2.1), .int (kI r.2.2.1), .int (kI r.2.2.2.1), .int (kI r.2.2.2.2.1), .int (kI r.2.2.2.2.2.1), .int (kI r.2.2.2.2.2.2.1), .int (kI t_kind), .int (kI t_start), .int (kI r.2.2.2.2.2.2.2.1), .int (kI t_number)])), (a_t_score, cAI G 60 t_score), (a_t_good, cAI G 60 t_good), (a_t_bad, cAI G 60 t_bad), (a_t_open, cAI G 60 t_open), (a_t_costs, cAI G 3 r.2.2.2.2.2.2.2.2)] := by
  refine met_of (Qc := fun A => QcV G A [(a_t, .inr (6, [.ref a_t_score, .ref a_t_good, .ref a_t_bad, .ref a_t_open, .ref a_t_costs, .int (kI r.1), .int (kI r.2.1), .int (kI r.2.2.1), .int (kI r.2.2.2.1), .int (kI r.2.2.2.2.1), .int (kI r.2.2.2.2.2.1), .int (kI r.2.2.2.2.2.2.1), .int (kI t_kind), .int (kI t_start), .int (kI r.2.2.2.2.2.2.2.1), .int (kI t_number)])), (a_t_score, cAI G 60 t_score), (a_t_good, cAI G 60 t_good), (a_t_bad, cAI G 60 t_bad), (a_t_open, cAI G 60 t_open), (a_t_costs, cAI G 3 r.2.2.2.2.2.2.2.2)]) (by decide +kernel) (Nat.le_of_ble_eq_true rfl) ?_
  intro p e s m args below meth c A H locs ls cx hw hr hlk hnm hl
  have hl : lv_has ls 1 [(0, .ref a_t)] := hl
  rw [m_X7_begin] at h
  obtain ⟨⟨hx, hb, -, -, -⟩, -⟩ := id cx
  refine lv_aload_n hx hb dX7_begin_0 rfl (lv_at hl 0 rfl) ?_
  refine ri_iconst hx hb dX7_begin_1 ?_
  refine rf_put hx hb cx hw 0 rfl rfl 5 inX7 tyX7 tyX7_ok nmX7 (by decide) fl_X7_55 rfl rfl rfl rfl (Nat.le_of_ble_eq_true rfl) dX7_begin_2 (fun H locs hw => ?_)
  have hw : HP G A s.heap H locs [(a_t, .inr (6, [.ref a_t_score, .ref a_t_good, .ref a_t_bad, .ref a_t_open, .ref a_t_costs, .int (kI 0), .int (kI t_lines), .int (kI t_least), .int (kI t_most), .int (kI t_faultKind), .int (kI t_faultPlace), .int (kI t_toldLines), .int (kI t_kind), .int (kI t_start), .int (kI t_next), .int (kI t_number)])), (a_t_score, cAI G 60 t_score), (a_t_good, cAI G 60 t_good), (a_t_bad, cAI G 60 t_bad), (a_t_open, cAI G 60 t_open), (a_t_costs, cAI G 3 t_costs)] := hw
  refine lv_aload_n hx hb dX7_begin_5 rfl (lv_at hl 0 rfl) ?_
  refine ri_iconst hx hb dX7_begin_6 ?_
  refine rf_put hx hb cx hw 0 rfl rfl 6 inX7 tyX7 tyX7_ok nmX7 (by decide) fl_X7_52 rfl rfl rfl rfl (Nat.le_of_ble_eq_true rfl) dX7_begin_7 (fun H locs hw => ?_)
  have hw : HP G A s.heap H locs [(a_t, .inr (6, [.ref a_t_score, .ref a_t_good, .ref a_t_bad, .ref a_t_open, .ref a_t_costs, .int (kI 0), .int (kI 0), .int (kI t_least), .int (kI t_most), .int (kI t_faultKind), .int (kI t_faultPlace), .int (kI t_toldLines), .int (kI t_kind), .int (kI t_start), .int (kI t_next), .int (kI t_number)])), (a_t_score, cAI G 60 t_score), (a_t_good, cAI G 60 t_good), (a_t_bad, cAI G 60 t_bad), (a_t_open, cAI G 60 t_open), (a_t_costs, cAI G 3 t_costs)] := hw
  refine lv_aload_n hx hb dX7_begin_10 rfl (lv_at hl 0 rfl) ?_
  refine ri_iconst hx hb dX7_begin_11 ?_
  refine rf_put hx hb cx hw 0 rfl rfl 7 inX7 tyX7 tyX7_ok nmX7 (by decide) fl_X7_58 rfl rfl rfl rfl (Nat.le_of_ble_eq_true rfl) dX7_begin_12 (fun H locs hw => ?_)
  have hw : HP G A s.heap H locs [(a_t, .inr (6, [.ref a_t_score, .ref a_t_good, .ref a_t_bad, .ref a_t_open, .ref a_t_costs, .int (kI 0), .int (kI 0), .int (kI 1), .int (kI t_most), .int (kI t_faultKind), .int (kI t_faultPlace), .int (kI t_toldLines), .int (kI t_kind), .int (kI t_start), .int (kI t_next), .int (kI t_number)])), (a_t_score, cAI G 60 t_score), (a_t_good, cAI G 60 t_good), (a_t_bad, cAI G 60 t_bad), (a_t_open, cAI G 60 t_open), (a_t_costs, cAI G 3 t_costs)] := hw
  refine lv_aload_n hx hb dX7_begin_15 rfl (lv_at hl 0 rfl) ?_
  refine ri_bipush hx hb dX7_begin_16 rfl ?_
  refine rf_put hx hb cx hw 0 rfl rfl 8 inX7 tyX7 tyX7_ok nmX7 (by decide) fl_X7_61 rfl rfl rfl rfl (Nat.le_of_ble_eq_true rfl) dX7_begin_18 (fun H locs hw => ?_)
  have hw : HP G A s.heap H locs [(a_t, .inr (6, [.ref a_t_score, .ref a_t_good, .ref a_t_bad, .ref a_t_open, .ref a_t_costs, .int (kI 0), .int (kI 0), .int (kI 1), .int (kI 60), .int (kI t_faultKind), .int (kI t_faultPlace), .int (kI t_toldLines), .int (kI t_kind), .int (kI t_start), .int (kI t_next), .int (kI t_number)])), (a_t_score, cAI G 60 t_score), (a_t_good, cAI G 60 t_good), (a_t_bad, cAI G 60 t_bad), (a_t_open, cAI G 60 t_open), (a_t_costs, cAI G 3 t_costs)] := hw
  refine lv_aload_n hx hb dX7_begin_21 rfl (lv_at hl 0 rfl) ?_
  refine rf_get hx hb cx hw 0 rfl rfl 4 inX7 (by decide) fl_X7_24 rfl rfl dX7_begin_22 ?_
  refine ri_iconst hx hb dX7_begin_25 ?_
  refine ri_iconst hx hb dX7_begin_26 ?_
  refine ra_si hx hb cx hw 5 rfl (by decide) ⟨by decide, by decide⟩ dX7_begin_27 (fun H locs hw => ?_)
  have hw : HP G A s.heap H locs [(a_t, .inr (6, [.ref a_t_score, .ref a_t_good, .ref a_t_bad, .ref a_t_open, .ref a_t_costs, .int (kI 0), .int (kI 0), .int (kI 1), .int (kI 60), .int (kI t_faultKind), .int (kI t_faultPlace), .int (kI t_toldLines), .int (kI t_kind), .int (kI t_start), .int (kI t_next), .int (kI t_number)])), (a_t_score, cAI G 60 t_score), (a_t_good, cAI G 60 t_good), (a_t_bad, cAI G 60 t_bad), (a_t_open, cAI G 60 t_open), (a_t_costs, cAI G 3 (uP t_costs 0 1))] := hw
  refine lv_aload_n hx hb dX7_begin_28 rfl (lv_at hl 0 rfl) ?_
  refine rf_get hx hb cx hw 0 rfl rfl 4 inX7 (by decide) fl_X7_24 rfl rfl dX7_begin_29 ?_
  refine ri_iconst hx hb dX7_begin_32 ?_
  refine ri_iconst hx hb dX7_begin_33 ?_
  refine ra_si hx hb cx hw 5 rfl (by decide) ⟨by decide, by decide⟩ dX7_begin_34 (fun H locs hw => ?_)
  have hw : HP G A s.heap H locs [(a_t, .inr (6, [.ref a_t_score, .ref a_t_good, .ref a_t_bad, .ref a_t_open, .ref a_t_costs, .int (kI 0), .int (kI 0), .int (kI 1), .int (kI 60), .int (kI t_faultKind), .int (kI t_faultPlace), .int (kI t_toldLines), .int (kI t_kind), .int (kI t_start), .int (kI t_next), .int (kI t_number)])), (a_t_score, cAI G 60 t_score), (a_t_good, cAI G 60 t_good), (a_t_bad, cAI G 60 t_bad), (a_t_open, cAI G 60 t_open), (a_t_costs, cAI G 3 (uP (uP t_costs 0 1) 1 5))] := hw
  refine lv_aload_n hx hb dX7_begin_35 rfl (lv_at hl 0 rfl) ?_
  refine rf_get hx hb cx hw 0 rfl rfl 4 inX7 (by decide) fl_X7_24 rfl rfl dX7_begin_36 ?_
  refine ri_iconst hx hb dX7_begin_39 ?_
  refine ri_iconst hx hb dX7_begin_40 ?_
  refine ra_si hx hb cx hw 5 rfl (by decide) ⟨by decide, by decide⟩ dX7_begin_41 (fun H locs hw => ?_)
  have hw : HP G A s.heap H locs [(a_t, .inr (6, [.ref a_t_score, .ref a_t_good, .ref a_t_bad, .ref a_t_open, .ref a_t_costs, .int (kI 0), .int (kI 0), .int (kI 1), .int (kI 60), .int (kI t_faultKind), .int (kI t_faultPlace), .int (kI t_toldLines), .int (kI t_kind), .int (kI t_start), .int (kI t_next), .int (kI t_number)])), (a_t_score, cAI G 60 t_score), (a_t_good, cAI G 60 t_good), (a_t_bad, cAI G 60 t_bad), (a_t_open, cAI G 60 t_open), (a_t_costs, cAI G 3 (uP (uP (uP t_costs 0 1) 1 5) 2 1))] := hw
  refine lv_aload_n hx hb dX7_begin_42 rfl (lv_at hl 0 rfl) ?_
  refine ri_iconst hx hb dX7_begin_43 ?_
  refine rf_put hx hb cx hw 0 rfl rfl 11 inX7 tyX7 tyX7_ok nmX7 (by decide) fl_X7_64 rfl rfl rfl rfl (Nat.le_of_ble_eq_true rfl) dX7_begin_44 (fun H locs hw => ?_)
  have hw : HP G A s.heap H locs [(a_t, .inr (6, [.ref a_t_score, .ref a_t_good, .ref a_t_bad, .ref a_t_open, .ref a_t_costs, .int (kI 0), .int (kI 0), .int (kI 1), .int (kI 60), .int (kI t_faultKind), .int (kI t_faultPlace), .int (kI 0), .int (kI t_kind), .int (kI t_start), .int (kI t_next), .int (kI t_number)])), (a_t_score, cAI G 60 t_score), (a_t_good, cAI G 60 t_good), (a_t_bad, cAI G 60 t_bad), (a_t_open, cAI G 60 t_open), (a_t_costs, cAI G 3 (uP (uP (uP t_costs 0 1) 1 5) 2 1))] := hw
  refine lv_aload_n hx hb dX7_begin_47 rfl (lv_at hl 0 rfl) ?_
  refine ri_iconst hx hb dX7_begin_48 ?_
  refine rf_put hx hb cx hw 0 rfl rfl 9 inX7 tyX7 tyX7_ok nmX7 (by decide) fl_X7_38 rfl rfl rfl rfl (Nat.le_of_ble_eq_true rfl) dX7_begin_49 (fun H locs hw => ?_)
  have hw : HP G A s.heap H locs [(a_t, .inr (6, [.ref a_t_score, .ref a_t_good, .ref a_t_bad, .ref a_t_open, .ref a_t_costs, .int (kI 0), .int (kI 0), .int (kI 1), .int (kI 60), .int (kI 0), .int (kI t_faultPlace), .int (kI 0), .int (kI t_kind), .int (kI t_start), .int (kI t_next), .int (kI t_number)])), (a_t_score, cAI G 60 t_score), (a_t_good, cAI G 60 t_good), (a_t_bad, cAI G 60 t_bad), (a_t_open, cAI G 60 t_open), (a_t_costs, cAI G 3 (uP (uP (uP t_costs 0 1) 1 5) 2 1))] := hw
  refine lv_aload_n hx hb dX7_begin_52 rfl (lv_at hl 0 rfl) ?_
  refine ri_iconst hx hb dX7_begin_53 ?_
  refine rf_put hx hb cx hw 0 rfl rfl 10 inX7 tyX7 tyX7_ok nmX7 (by decide) fl_X7_27 rfl rfl rfl rfl (Nat.le_of_ble_eq_true rfl) dX7_begin_54 (fun H locs hw => ?_)
  have hw : HP G A s.heap H locs [(a_t, .inr (6, [.ref a_t_score, .ref a_t_good, .ref a_t_bad, .ref a_t_open, .ref a_t_costs, .int (kI 0), .int (kI 0), .int (kI 1), .int (kI 60), .int (kI 0), .int (kI (-1)), .int (kI 0), .int (kI t_kind), .int (kI t_start), .int (kI t_next), .int (kI t_number)])), (a_t_score, cAI G 60 t_score), (a_t_good, cAI G 60 t_good), (a_t_bad, cAI G 60 t_bad), (a_t_open, cAI G 60 t_open), (a_t_costs, cAI G 3 (uP (uP (uP t_costs 0 1) 1 5) 2 1))] := hw
  refine lv_aload_n hx hb dX7_begin_57 rfl (lv_at hl 0 rfl) ?_
  refine ri_iconst hx hb dX7_begin_58 ?_
  refine rf_put hx hb cx hw 0 rfl rfl 14 inX7 tyX7 tyX7_ok nmX7 (by decide) fl_X7_67 rfl rfl rfl rfl (Nat.le_of_ble_eq_true rfl) dX7_begin_59 (fun H locs hw => ?_)
  have hw : HP G A s.heap H locs [(a_t, .inr (6, [.ref a_t_score, .ref a_t_good, .ref a_t_bad, .ref a_t_open, .ref a_t_costs, .int (kI 0), .int (kI 0), .int (kI 1), .int (kI 60), .int (kI 0), .int (kI (-1)), .int (kI 0), .int (kI t_kind), .int (kI t_start), .int (kI 0), .int (kI t_number)])), (a_t_score, cAI G 60 t_score), (a_t_good, cAI G 60 t_good), (a_t_bad, cAI G 60 t_bad), (a_t_open, cAI G 60 t_open), (a_t_costs, cAI G 3 (uP (uP (uP t_costs 0 1) 1 5) 2 1))] := hw
  obtain rfl := so_inj h
  exact re_v hx hb hlk hr cx hw (Nat.le_of_ble_eq_true rfl) (Nat.le_of_ble_eq_true rfl) dX7_begin_62
set_option maxHeartbeats 4000000 in
set_option maxRecDepth 100000 in
theorem w_X7_isBlank_b12 {p : Program} {l : Launch} {e : Env} {s : State} {m : MethodId} {args : Array Value} {below : List Frame} {meth : Method} {c : Code} {A : Nat → Prop} {G : GG} (cx : CX p s m args c cX7_isBlank RX7 1 G) (hlk : meth.locks = false) (hr : meth.sig.returnType = some .boolean) (N : Nat) (x0 : Int) (r : Int) : m_X7_isBlank_b12 N x0 = some r → ∀ (H : Heap) (locs : List Loc) (ls : Array Slot), HP G A s.heap H locs [] → lv_has ls 1 [] → W p l e (rmD 1 0 0) s m args below meth c H locs 0 0 (MQ below (QcI G A r []) args s (rmD 1 0 0).cells (rmD 1 0 0).slots A) (F0 m 12 ls []) := by
  intro  h H locs ls hw hl
  rw [m_X7_isBlank_b12] at h
  obtain ⟨⟨hx, hb, -, -, -⟩, -⟩ := id cx
  refine ri_iconst hx hb dX7_isBlank_12 ?_
  refine lv_goto (tgt := 17) hx hb dX7_isBlank_13 (by decide) ?_
  obtain rfl := so_inj h
  exact re_z (by decide)  hx hb hlk hr cx hw (Nat.le_of_ble_eq_true rfl) (Nat.le_of_ble_eq_true rfl) dX7_isBlank_17
set_option maxHeartbeats 4000000 in
set_option maxRecDepth 100000 in
theorem c_X7_isBlank (l : Launch) (G : GG) (sz : Nat) (N : Nat)  (x0 : Int) (r : Int) (h : m_X7_isBlank N x0 = some r) : CtI l yX7_isBlank cX7_isBlank 1 .boolean (rmD 1 0 0) G sz [.int (kI x0)] [] r [] := by
  refine met_of (Qc := fun A => QcI G A r []) (by decide +kernel) (Nat.le_of_ble_eq_true rfl) ?_
  intro p e s m args below meth c A H locs ls cx hw hr hlk hnm hl
  have hl : lv_has ls 1 [(0, .int (kI x0))] := hl
  rw [m_X7_isBlank] at h
  obtain ⟨⟨hx, hb, -, -, -⟩, -⟩ := id cx
  refine lv_iload_n hx hb dX7_isBlank_0 rfl (lv_at hl 0 rfl) ?_
  refine ri_bipush hx hb dX7_isBlank_1 rfl ?_
  obtain ⟨g1, h⟩ := gd_some h
  refine ri_icmp_eq (tgt := 12) hx hb g1 ⟨by decide, by decide⟩ dX7_isBlank_3 (by decide) (fun c2 => ?_) (fun c2 => ?_)
  · have h := it_pos c2 h
    exact w_X7_isBlank_b12 cx hlk hr N x0 r  h _ _ _ hw (lv_sub hl [] rfl)
  · have h := it_neg c2 h
    refine lv_iload_n hx hb dX7_isBlank_6 rfl (lv_at hl 0 rfl) ?_
    refine ri_bipush hx hb dX7_isBlank_7 rfl ?_
    refine ri_icmp_ne (tgt := 16) hx hb g1 ⟨by decide, by decide⟩ dX7_isBlank_9 (by decide) (fun c3 => ?_) (fun c3 => ?_)
    · have h := it_pos c3 h
      exact w_X7_isBlank_b12 cx hlk hr N x0 r  h _ _ _ hw (lv_sub hl [] rfl)
    · have h := it_neg c3 h
      refine ri_iconst hx hb dX7_isBlank_16 ?_
      obtain rfl := so_inj h
      exact re_z (by decide)  hx hb hlk hr cx hw (Nat.le_of_ble_eq_true rfl) (Nat.le_of_ble_eq_true rfl) dX7_isBlank_17
set_option maxHeartbeats 4000000 in
set_option maxRecDepth 100000 in
theorem w_X7_kindOf_b28 {p : Program} {l : Launch} {e : Env} {s : State} {m : MethodId} {args : Array Value} {below : List Frame} {meth : Method} {c : Code} {A : Nat → Prop} {G : GG} (cx : CX p s m args c cX7_kindOf RX7 1 G) (hlk : meth.locks = false) (hr : meth.sig.returnType = some .int) (N : Nat) (x0 : Int) (r : Int) : m_X7_kindOf_b28 N x0 = some r → ∀ (H : Heap) (locs : List Loc) (ls : Array Slot), HP G A s.heap H locs [] → lv_has ls 1 [(0, .int (kI x0))] → W p l e (rmD 1 0 0) s m args below meth c H locs 0 0 (MQ below (QcI G A r []) args s (rmD 1 0 0).cells (rmD 1 0 0).slots A) (F0 m 28 ls []) := by
  intro  h H locs ls hw hl
  rw [m_X7_kindOf_b28] at h
  obtain ⟨⟨hx, hb, -, -, -⟩, -⟩ := id cx
  refine lv_iload_n hx hb dX7_kindOf_28 rfl (lv_at hl 0 rfl) ?_
  refine ri_bipush hx hb dX7_kindOf_29 rfl ?_
  obtain ⟨g1, h⟩ := gd_some h
  refine ri_icmp_ne (tgt := 38) hx hb g1 ⟨by decide, by decide⟩ dX7_kindOf_31 (by decide) (fun c2 => ?_) (fun c2 => ?_)
  · have h := it_pos c2 h
    refine ri_iconst hx hb dX7_kindOf_34 ?_
    refine lv_goto (tgt := 39) hx hb dX7_kindOf_35 (by decide) ?_
    obtain rfl := so_inj h
    exact re_i hx hb hlk hr cx hw (Nat.le_of_ble_eq_true rfl) (Nat.le_of_ble_eq_true rfl) dX7_kindOf_39
  · have h := it_neg c2 h
    refine ri_iconst hx hb dX7_kindOf_38 ?_
    obtain rfl := so_inj h
    exact re_i hx hb hlk hr cx hw (Nat.le_of_ble_eq_true rfl) (Nat.le_of_ble_eq_true rfl) dX7_kindOf_39
set_option maxHeartbeats 4000000 in
set_option maxRecDepth 100000 in
theorem w_X7_kindOf_b14 {p : Program} {l : Launch} {e : Env} {s : State} {m : MethodId} {args : Array Value} {below : List Frame} {meth : Method} {c : Code} {A : Nat → Prop} {G : GG} (cx : CX p s m args c cX7_kindOf RX7 1 G) (hlk : meth.locks = false) (hr : meth.sig.returnType = some .int) (N : Nat) (x0 : Int) (r : Int) : m_X7_kindOf_b14 N x0 = some r → ∀ (H : Heap) (locs : List Loc) (ls : Array Slot), HP G A s.heap H locs [] → lv_has ls 1 [(0, .int (kI x0))] → W p l e (rmD 1 0 0) s m args below meth c H locs 0 0 (MQ below (QcI G A r []) args s (rmD 1 0 0).cells (rmD 1 0 0).slots A) (F0 m 14 ls []) := by
  intro  h H locs ls hw hl
  rw [m_X7_kindOf_b14] at h
  obtain ⟨⟨hx, hb, -, -, -⟩, -⟩ := id cx
  refine lv_iload_n hx hb dX7_kindOf_14 rfl (lv_at hl 0 rfl) ?_
  refine ri_bipush hx hb dX7_kindOf_15 rfl ?_
  obtain ⟨g1, h⟩ := gd_some h
  refine ri_icmp_lt (tgt := 28) hx hb g1 ⟨by decide, by decide⟩ dX7_kindOf_17 (by decide) (fun c2 => ?_) (fun c2 => ?_)
  · have h := it_pos c2 h
    exact w_X7_kindOf_b28 cx hlk hr N x0 r  h _ _ _ hw (lv_sub hl [0] rfl)
  · have h := it_neg c2 h
    refine lv_iload_n hx hb dX7_kindOf_20 rfl (lv_at hl 0 rfl) ?_
    refine ri_bipush hx hb dX7_kindOf_21 rfl ?_
    refine ri_icmp_gt (tgt := 28) hx hb g1 ⟨by decide, by decide⟩ dX7_kindOf_23 (by decide) (fun c3 => ?_) (fun c3 => ?_)
    · have h := it_pos c3 h
      exact w_X7_kindOf_b28 cx hlk hr N x0 r  h _ _ _ hw (lv_sub hl [0] rfl)
    · have h := it_neg c3 h
      refine ri_iconst hx hb dX7_kindOf_26 ?_
      obtain rfl := so_inj h
      exact re_i hx hb hlk hr cx hw (Nat.le_of_ble_eq_true rfl) (Nat.le_of_ble_eq_true rfl) dX7_kindOf_27
set_option maxHeartbeats 4000000 in
set_option maxRecDepth 100000 in
theorem c_X7_kindOf (l : Launch) (G : GG) (sz : Nat) (N : Nat)  (x0 : Int) (r : Int) (h : m_X7_kindOf N x0 = some r) : CtI l yX7_kindOf cX7_kindOf 1 .int (rmD 1 0 0) G sz [.int (kI x0)] [] r [] := by
  refine met_of (Qc := fun A => QcI G A r []) (by decide +kernel) (Nat.le_of_ble_eq_true rfl) ?_
  intro p e s m args below meth c A H locs ls cx hw hr hlk hnm hl
  have hl : lv_has ls 1 [(0, .int (kI x0))] := hl
  rw [m_X7_kindOf] at h
  obtain ⟨⟨hx, hb, -, -, -⟩, -⟩ := id cx
  refine lv_iload_n hx hb dX7_kindOf_0 rfl (lv_at hl 0 rfl) ?_
  refine ri_bipush hx hb dX7_kindOf_1 rfl ?_
  obtain ⟨g1, h⟩ := gd_some h
  refine ri_icmp_lt (tgt := 14) hx hb g1 ⟨by decide, by decide⟩ dX7_kindOf_3 (by decide) (fun c2 => ?_) (fun c2 => ?_)
  · have h := it_pos c2 h
    exact w_X7_kindOf_b14 cx hlk hr N x0 r  h _ _ _ hw (lv_sub hl [0] rfl)
  · have h := it_neg c2 h
    refine lv_iload_n hx hb dX7_kindOf_6 rfl (lv_at hl 0 rfl) ?_
    refine ri_bipush hx hb dX7_kindOf_7 rfl ?_
    refine ri_icmp_gt (tgt := 14) hx hb g1 ⟨by decide, by decide⟩ dX7_kindOf_9 (by decide) (fun c3 => ?_) (fun c3 => ?_)
    · have h := it_pos c3 h
      exact w_X7_kindOf_b14 cx hlk hr N x0 r  h _ _ _ hw (lv_sub hl [0] rfl)
    · have h := it_neg c3 h
      refine ri_iconst hx hb dX7_kindOf_12 ?_
      obtain rfl := so_inj h
      exact re_i hx hb hlk hr cx hw (Nat.le_of_ble_eq_true rfl) (Nat.le_of_ble_eq_true rfl) dX7_kindOf_13
set_option maxHeartbeats 4000000 in
set_option maxRecDepth 100000 in
theorem w_X7_step_b107 {p : Program} {l : Launch} {e : Env} {s : State} {m : MethodId} {args : Array Value} {below : List Frame} {meth : Method} {c : Code} {A : Nat → Prop} {G : GG} (cx : CX p s m args c cX7_step RX7 2 G) (hlk : meth.locks = false) (hr : meth.sig.returnType = none) (N : Nat) (a_t a_t_score a_t_good a_t_bad a_t_open a_t_costs a_p1 a_p1_store : Nat) (t_ats : Int) (t_lines : Int) (t_least : Int) (t_most : Int) (t_faultKind : Int) (t_faultPlace : Int) (t_toldLines : Int) (t_score : Int → Int) (t_good : Int → Int) (t_bad : Int → Int) (t_open : Int → Int) (t_costs : Int → Int) (p1_size : Int) (p1_store : Int → Int) (p1_store_n : Nat) (hn_p1_store : p1_store_n < 2147483648) (r : Int × Int × Int × Int) : ∀ (t_kind : Int) (t_start : Int) (t_next : Int) (t_number : Int), m_X7_step_b107 N t_faultKind p1_size p1_store p1_store_n t_kind t_start t_next t_number = some r → ∀ (H : Heap) (locs : List Loc) (ls : Array Slot), HP G A s.heap H locs [(a_t, .inr (6, [.ref a_t_score, .ref a_t_good, .ref a_t_bad, .ref a_t_open, .ref a_t_costs, .int (kI t_ats), .int (kI t_lines), .int (kI t_least), .int (kI t_most), .int (kI t_faultKind), .int (kI t_faultPlace), .int (kI t_toldLines), .int (kI t_kind), .int (kI t_start), .int (kI t_next), .int (kI t_number)])), (a_t_score, cAI G 60 t_score), (a_t_good, cAI G 60 t_good), (a_t_bad, cAI G 60 t_bad), (a_t_open, cAI G 60 t_open), (a_t_costs, cAI G 3 t_costs), (a_p1, .inr (1, [.ref a_p1_store, .int (kI p1_size)])), (a_p1_store, cAI G p1_store_n p1_store)] → lv_has ls 2 [(0, .ref a_t)] → W p l e (rmD 2 0 0) s m args below meth c H locs 0 0 (MQ below (QcV G A [(a_t, .inr (6, [.ref a_t_score, .ref a_t_good, .ref a_t_bad, .ref a_t_open, .ref a_t_costs, .int (kI t_ats), .int (kI t_lines), .int (kI t_least), .int (kI t_most), .int (kI t_faultKind), .int (kI t_faultPlace), .int (kI t_toldLines), .int (kI r.1), .int (kI r.2.1), .int (kI r.2.2.1), .int (kI r.2.2.2)])), (a_t_score, cAI G 60 t_score), (a_t_good, cAI G 60 t_good), (a_t_bad, cAI G 60 t_bad), (a_t_open, cAI G 60 t_open), (a_t_costs, cAI G 3 t_costs), (a_p1, .inr (1, [.ref a_p1_store, .int (kI p1_size)])), (a_p1_store, cAI G p1_store_n p1_store)]) args s (rmD 2 0 0).cells (rmD 2 0 0).slots A) (F0 m 107 ls []) := by
  intro t_kind t_start t_next t_number h H locs ls hw hl
  rw [m_X7_step_b107] at h
  obtain ⟨⟨hx, hb, -, -, -⟩, -⟩ := id cx
  refine lv_aload_n hx hb dX7_step_107 rfl (lv_at hl 0 rfl) ?_
  refine lv_dup hx hb dX7_step_108 rfl ?_
  refine rf_get hx hb cx hw 0 rfl rfl 14 inX7 (by decide) fl_X7_67 rfl rfl dX7_step_109 ?_
  refine ri_iconst hx hb dX7_step_112 ?_
  refine ri_iadd hx hb dX7_step_113 ?_
  refine rf_put hx hb cx hw 0 rfl rfl 14 inX7 tyX7 tyX7_ok nmX7 (by decide) fl_X7_67 rfl rfl rfl rfl (Nat.le_of_ble_eq_true rfl) dX7_step_114 (fun H locs hw => ?_)
  have hw : HP G A s.heap H locs [(a_t, .inr (6, [.ref a_t_score, .ref a_t_good, .ref a_t_bad, .ref a_t_open, .ref a_t_costs, .int (kI t_ats), .int (kI t_lines), .int (kI t_least), .int (kI t_most), .int (kI t_faultKind), .int (kI t_faultPlace), .int (kI t_toldLines), .int (kI t_kind), .int (kI t_start), .int (kI (t_next + 1)), .int (kI t_number)])), (a_t_score, cAI G 60 t_score), (a_t_good, cAI G 60 t_good), (a_t_bad, cAI G 60 t_bad), (a_t_open, cAI G 60 t_open), (a_t_costs, cAI G 3 t_costs), (a_p1, .inr (1, [.ref a_p1_store, .int (kI p1_size)])), (a_p1_store, cAI G p1_store_n p1_store)] := hw
  obtain rfl := so_inj h
  exact re_v hx hb hlk hr cx hw (Nat.le_of_ble_eq_true rfl) (Nat.le_of_ble_eq_true rfl) dX7_step_117
set_option maxHeartbeats 4000000 in
set_option maxRecDepth 100000 in
theorem w_X7_step_b185 {p : Program} {l : Launch} {e : Env} {s : State} {m : MethodId} {args : Array Value} {below : List Frame} {meth : Method} {c : Code} {A : Nat → Prop} {G : GG} (cx : CX p s m args c cX7_step RX7 2 G) (hlk : meth.locks = false) (hr : meth.sig.returnType = none) (N : Nat) (a_t a_t_score a_t_good a_t_bad a_t_open a_t_costs a_p1 a_p1_store : Nat) (t_ats : Int) (t_lines : Int) (t_least : Int) (t_most : Int) (t_faultKind : Int) (t_faultPlace : Int) (t_toldLines : Int) (t_score : Int → Int) (t_good : Int → Int) (t_bad : Int → Int) (t_open : Int → Int) (t_costs : Int → Int) (p1_size : Int) (p1_store : Int → Int) (p1_store_n : Nat) (hn_p1_store : p1_store_n < 2147483648) (r : Int × Int × Int × Int) (k118 : Int → Int → Int → Int → Option (Int × Int × Int × Int)) (hk118 : ∀ (t_kind : Int) (t_start : Int) (t_next : Int) (t_number : Int), k118 t_kind t_start t_next t_number = some r → ∀ (H : Heap) (locs : List Loc) (ls : Array Slot), HP G A s.heap H locs [(a_t, .inr (6, [.ref a_t_score, .ref a_t_good, .ref a_t_bad, .ref a_t_open, .ref a_t_costs, .int (kI t_ats), .int (kI t_lines), .int (kI t_least), .int (kI t_most), .int (kI t_faultKind), .int (kI t_faultPlace), .int (kI t_toldLines), .int (kI t_kind), .int (kI t_start), .int (kI t_next), .int (kI t_number)])), (a_t_score, cAI G 60 t_score), (a_t_good, cAI G 60 t_good), (a_t_bad, cAI G 60 t_bad), (a_t_open, cAI G 60 t_open), (a_t_costs, cAI G 3 t_costs), (a_p1, .inr (1, [.ref a_p1_store, .int (kI p1_size)])), (a_p1_store, cAI G p1_store_n p1_store)] → lv_has ls 2 [(0, .ref a_t), (1, .ref a_p1)] → W p l e (rmD 2 0 0) s m args below meth c H locs 0 0 (MQ below (QcV G A [(a_t, .inr (6, [.ref a_t_score, .ref a_t_good, .ref a_t_bad, .ref a_t_open, .ref a_t_costs, .int (kI t_ats), .int (kI t_lines), .int (kI t_least), .int (kI t_most), .int (kI t_faultKind), .int (kI t_faultPlace), .int (kI t_toldLines), .int (kI r.1), .int (kI r.2.1), .int (kI r.2.2.1), .int (kI r.2.2.2)])), (a_t_score, cAI G 60 t_score), (a_t_good, cAI G 60 t_good), (a_t_bad, cAI G 60 t_bad), (a_t_open, cAI G 60 t_open), (a_t_costs, cAI G 3 t_costs), (a_p1, .inr (1, [.ref a_p1_store, .int (kI p1_size)])), (a_p1_store, cAI G p1_store_n p1_store)]) args s (rmD 2 0 0).cells (rmD 2 0 0).slots A) (F0 m 118 ls [])) : ∀ (t_kind : Int) (t_start : Int) (t_next : Int) (t_number : Int), m_X7_step_b185 N t_faultKind p1_size p1_store p1_store_n k118 t_kind t_start t_next t_number = some r → ∀ (H : Heap) (locs : List Loc) (ls : Array Slot), HP G A s.heap H locs [(a_t, .inr (6, [.ref a_t_score, .ref a_t_good, .ref a_t_bad, .ref a_t_open, .ref a_t_costs, .int (kI t_ats), .int (kI t_lines), .int (kI t_least), .int (kI t_most), .int (kI t_faultKind), .int (kI t_faultPlace), .int (kI t_toldLines), .int (kI t_kind), .int (kI t_start), .int (kI t_next), .int (kI t_number)])), (a_t_score, cAI G 60 t_score), (a_t_good, cAI G 60 t_good), (a_t_bad, cAI G 60 t_bad), (a_t_open, cAI G 60 t_open), (a_t_costs, cAI G 3 t_costs), (a_p1, .inr (1, [.ref a_p1_store, .int (kI p1_size)])), (a_p1_store, cAI G p1_store_n p1_store)] → lv_has ls 2 [(0, .ref a_t), (1, .ref a_p1)] → W p l e (rmD 2 0 0) s m args below meth c H locs 0 0 (MQ below (QcV G A [(a_t, .inr (6, [.ref a_t_score, .ref a_t_good, .ref a_t_bad, .ref a_t_open, .ref a_t_costs, .int (kI t_ats), .int (kI t_lines), .int (kI t_least), .int (kI t_most), .int (kI t_faultKind), .int (kI t_faultPlace), .int (kI t_toldLines), .int (kI r.1), .int (kI r.2.1), .int (kI r.2.2.1), .int (kI r.2.2.2)])), (a_t_score, cAI G 60 t_score), (a_t_good, cAI G 60 t_good), (a_t_bad, cAI G 60 t_bad), (a_t_open, cAI G 60 t_open), (a_t_costs, cAI G 3 t_costs), (a_p1, .inr (1, [.ref a_p1_store, .int (kI p1_size)])), (a_p1_store, cAI G p1_store_n p1_store)]) args s (rmD 2 0 0).cells (rmD 2 0 0).slots A) (F0 m 185 ls []) := by
  intro t_kind t_start t_next t_number h H locs ls hw hl
  rw [m_X7_step_b185] at h
  obtain ⟨⟨hx, hb, -, -, -⟩, -⟩ := id cx
  refine lv_aload_n hx hb dX7_step_185 rfl (lv_at hl 0 rfl) ?_
  refine lv_dup hx hb dX7_step_186 rfl ?_
  refine rf_get hx hb cx hw 0 rfl rfl 14 inX7 (by decide) fl_X7_67 rfl rfl dX7_step_187 ?_
  refine ri_iconst hx hb dX7_step_190 ?_
  refine ri_iadd hx hb dX7_step_191 ?_
  refine rf_put hx hb cx hw 0 rfl rfl 14 inX7 tyX7 tyX7_ok nmX7 (by decide) fl_X7_67 rfl rfl rfl rfl (Nat.le_of_ble_eq_true rfl) dX7_step_192 (fun H locs hw => ?_)
  have hw : HP G A s.heap H locs [(a_t, .inr (6, [.ref a_t_score, .ref a_t_good, .ref a_t_bad, .ref a_t_open, .ref a_t_costs, .int (kI t_ats), .int (kI t_lines), .int (kI t_least), .int (kI t_most), .int (kI t_faultKind), .int (kI t_faultPlace), .int (kI t_toldLines), .int (kI t_kind), .int (kI t_start), .int (kI (t_next + 1)), .int (kI t_number)])), (a_t_score, cAI G 60 t_score), (a_t_good, cAI G 60 t_good), (a_t_bad, cAI G 60 t_bad), (a_t_open, cAI G 60 t_open), (a_t_costs, cAI G 3 t_costs), (a_p1, .inr (1, [.ref a_p1_store, .int (kI p1_size)])), (a_p1_store, cAI G p1_store_n p1_store)] := hw
  refine lv_goto (tgt := 118) hx hb dX7_step_195 (by decide) ?_
  exact hk118 t_kind t_start (t_next + 1) t_number h _ _ _ hw (lv_sub hl [0, 1] rfl)
set_option maxHeartbeats 4000000 in
set_option maxRecDepth 100000 in
theorem w_X7_step_b118 {p : Program} {l : Launch} {e : Env} {s : State} {m : MethodId} {args : Array Value} {below : List Frame} {meth : Method} {c : Code} {A : Nat → Prop} {G : GG} (cx : CX p s m args c cX7_step RX7 2 G) (hlk : meth.locks = false) (hr : meth.sig.returnType = none) (N : Nat) (a_t a_t_score a_t_good a_t_bad a_t_open a_t_costs a_p1 a_p1_store : Nat) (t_ats : Int) (t_lines : Int) (t_least : Int) (t_most : Int) (t_faultKind : Int) (t_faultPlace : Int) (t_toldLines : Int) (t_score : Int → Int) (t_good : Int → Int) (t_bad : Int → Int) (t_open : Int → Int) (t_costs : Int → Int) (p1_size : Int) (p1_store : Int → Int) (p1_store_n : Nat) (hn_p1_store : p1_store_n < 2147483648) (r : Int × Int × Int × Int) : ∀ n : Nat, ∀ (t_kind : Int) (t_start : Int) (t_next : Int) (t_number : Int), m_X7_step_b118 N t_faultKind p1_size p1_store p1_store_n n t_kind t_start t_next t_number = some r → ∀ (H : Heap) (locs : List Loc) (ls : Array Slot), HP G A s.heap H locs [(a_t, .inr (6, [.ref a_t_score, .ref a_t_good, .ref a_t_bad, .ref a_t_open, .ref a_t_costs, .int (kI t_ats), .int (kI t_lines), .int (kI t_least), .int (kI t_most), .int (kI t_faultKind), .int (kI t_faultPlace), .int (kI t_toldLines), .int (kI t_kind), .int (kI t_start), .int (kI t_next), .int (kI t_number)])), (a_t_score, cAI G 60 t_score), (a_t_good, cAI G 60 t_good), (a_t_bad, cAI G 60 t_bad), (a_t_open, cAI G 60 t_open), (a_t_costs, cAI G 3 t_costs), (a_p1, .inr (1, [.ref a_p1_store, .int (kI p1_size)])), (a_p1_store, cAI G p1_store_n p1_store)] → lv_has ls 2 [(0, .ref a_t), (1, .ref a_p1)] → W p l e (rmD 2 0 0) s m args below meth c H locs 0 0 (MQ below (QcV G A [(a_t, .inr (6, [.ref a_t_score, .ref a_t_good, .ref a_t_bad, .ref a_t_open, .ref a_t_costs, .int (kI t_ats), .int (kI t_lines), .int (kI t_least), .int (kI t_most), .int (kI t_faultKind), .int (kI t_faultPlace), .int (kI t_toldLines), .int (kI r.1), .int (kI r.2.1), .int (kI r.2.2.1), .int (kI r.2.2.2)])), (a_t_score, cAI G 60 t_score), (a_t_good, cAI G 60 t_good), (a_t_bad, cAI G 60 t_bad), (a_t_open, cAI G 60 t_open), (a_t_costs, cAI G 3 t_costs), (a_p1, .inr (1, [.ref a_p1_store, .int (kI p1_size)])), (a_p1_store, cAI G p1_store_n p1_store)]) args s (rmD 2 0 0).cells (rmD 2 0 0).slots A) (F0 m 118 ls []) := by
  intro n
  induction n with
  | zero => intro t_kind t_start t_next t_number h; exact nomatch h
  | succ n ih =>
    intro t_kind t_start t_next t_number h H locs ls hw hl
    rw [m_X7_step_b118] at h
    obtain ⟨⟨hx, hb, -, -, -⟩, -⟩ := id cx
    refine lv_aload_n hx hb dX7_step_118 rfl (lv_at hl 0 rfl) ?_
    refine rf_get hx hb cx hw 0 rfl rfl 14 inX7 (by decide) fl_X7_67 rfl rfl dX7_step_119 ?_
    refine lv_aload_n hx hb dX7_step_122 rfl (lv_at hl 1 rfl) ?_
    refine rf_get hx hb cx hw 6 rfl rfl 1 inX1 (by decide) fl_X7_122 rfl rfl dX7_step_123 ?_
    obtain ⟨g1, h⟩ := gd_some h
    obtain ⟨g2, h⟩ := gd_some h
    refine ri_icmp_ge (tgt := 198) hx hb g1 g2 dX7_step_126 (by decide) (fun c3 => ?_) (fun c3 => ?_)
    · have h := it_pos c3 h
      obtain rfl := so_inj h
      exact re_v hx hb hlk hr cx hw (Nat.le_of_ble_eq_true rfl) (Nat.le_of_ble_eq_true rfl) dX7_step_198
    · have h := it_neg c3 h
      refine lv_aload_n hx hb dX7_step_129 rfl (lv_at hl 1 rfl) ?_
      refine rf_get hx hb cx hw 6 rfl rfl 0 inX1 (by decide) fl_X7_113 rfl rfl dX7_step_130 ?_
      refine lv_aload_n hx hb dX7_step_133 rfl (lv_at hl 0 rfl) ?_
      refine rf_get hx hb cx hw 0 rfl rfl 14 inX7 (by decide) fl_X7_67 rfl rfl dX7_step_134 ?_
      obtain ⟨g4, h⟩ := gd_some h
      refine ra_i hx hb cx hw 7 rfl hn_p1_store g4 dX7_step_137 ?_
      obtain ⟨r5, h5, h⟩ := bd_some h
      refine rc_I0 (v := r5) hw [] (rr_S cx hw (c_X7_kindOf l G H.size N (p1_store t_next) _ h5) mv_X7_128 [] rfl rfl rfl ⟨Nat.le_of_ble_eq_true rfl, Nat.le_of_ble_eq_true rfl⟩ rfl hl.1 rfl (Nat.le_of_ble_eq_true rfl) dX7_step_138 ⟨Nat.le_of_ble_eq_true rfl, Nat.le_of_ble_eq_true rfl⟩) rfl rfl (fun H locs hw => ?_)
      refine lv_aload_n hx hb dX7_step_141 rfl (lv_at hl 0 rfl) ?_
      refine rf_get hx hb cx hw 0 rfl rfl 12 inX7 (by decide) fl_X7_41 rfl rfl dX7_step_142 ?_
      obtain ⟨g6, h⟩ := gd_some h
      obtain ⟨g7, h⟩ := gd_some h
      refine ri_icmp_ne (tgt := 198) hx hb g6 g7 dX7_step_145 (by decide) (fun c8 => ?_) (fun c8 => ?_)
      · have h := it_pos c8 h
        refine lv_aload_n hx hb dX7_step_148 rfl (lv_at hl 0 rfl) ?_
        refine rf_get hx hb cx hw 0 rfl rfl 12 inX7 (by decide) fl_X7_41 rfl rfl dX7_step_149 ?_
        refine ri_iconst hx hb dX7_step_152 ?_
        refine ri_icmp_ne (tgt := 185) hx hb g7 ⟨by decide, by decide⟩ dX7_step_153 (by decide) (fun c9 => ?_) (fun c9 => ?_)
        · have h := it_pos c9 h
          refine lv_aload_n hx hb dX7_step_156 rfl (lv_at hl 0 rfl) ?_
          refine lv_aload_n hx hb dX7_step_157 rfl (lv_at hl 0 rfl) ?_
          refine rf_get hx hb cx hw 0 rfl rfl 15 inX7 (by decide) fl_X7_104 rfl rfl dX7_step_158 ?_
          refine ri_bipush hx hb dX7_step_161 rfl ?_
          refine ri_imul hx hb dX7_step_163 ?_
          refine lv_aload_n hx hb dX7_step_164 rfl (lv_at hl 1 rfl) ?_
          refine rf_get hx hb cx hw 6 rfl rfl 0 inX1 (by decide) fl_X7_113 rfl rfl dX7_step_165 ?_
          refine lv_aload_n hx hb dX7_step_168 rfl (lv_at hl 0 rfl) ?_
          refine rf_get hx hb cx hw 0 rfl rfl 14 inX7 (by decide) fl_X7_67 rfl rfl dX7_step_169 ?_
          refine ra_i hx hb cx hw 7 rfl hn_p1_store g4 dX7_step_172 ?_
          refine ri_iadd hx hb dX7_step_173 ?_
          refine ri_bipush hx hb dX7_step_174 rfl ?_
          refine ri_isub hx hb dX7_step_176 ?_
          refine lv_ldc (v := kI 1000000) hx hb cx.1.2.2.2.1 (cx.1.2.2.2.2 _ kc_X7_132) dX7_step_177 ?_
          obtain ⟨g10, h⟩ := gd_some h
          refine rj_min g10 ⟨by decide, by decide⟩ hx hb cx hl.1 jl_X7_133 (Nat.le_of_ble_eq_true rfl) (Nat.le_of_ble_eq_true rfl) (Nat.le_of_ble_eq_true rfl) (Nat.le_of_ble_eq_true rfl) dX7_step_179 ?_
          refine rf_put hx hb cx hw 0 rfl rfl 15 inX7 tyX7 tyX7_ok nmX7 (by decide) fl_X7_104 rfl rfl rfl rfl (Nat.le_of_ble_eq_true rfl) dX7_step_182 (fun H locs hw => ?_)
          have hw : HP G A s.heap H locs [(a_t, .inr (6, [.ref a_t_score, .ref a_t_good, .ref a_t_bad, .ref a_t_open, .ref a_t_costs, .int (kI t_ats), .int (kI t_lines), .int (kI t_least), .int (kI t_most), .int (kI t_faultKind), .int (kI t_faultPlace), .int (kI t_toldLines), .int (kI t_kind), .int (kI t_start), .int (kI t_next), .int (kI (min (((t_number * 10) + (p1_store t_next)) - 48) 1000000))])), (a_t_score, cAI G 60 t_score), (a_t_good, cAI G 60 t_good), (a_t_bad, cAI G 60 t_bad), (a_t_open, cAI G 60 t_open), (a_t_costs, cAI G 3 t_costs), (a_p1, .inr (1, [.ref a_p1_store, .int (kI p1_size)])), (a_p1_store, cAI G p1_store_n p1_store)] := hw
          exact w_X7_step_b185 cx hlk hr N a_t a_t_score a_t_good a_t_bad a_t_open a_t_costs a_p1 a_p1_store t_ats t_lines t_least t_most t_faultKind t_faultPlace t_toldLines t_score t_good t_bad t_open t_costs p1_size p1_store p1_store_n hn_p1_store r (m_X7_step_b118 N t_faultKind p1_size p1_store p1_store_n n) ih t_kind t_start t_next (min (((t_number * 10) + (p1_store t_next)) - 48) 1000000) h _ _ _ hw (lv_sub hl [0, 1] rfl)
        · have h := it_neg c9 h
          exact w_X7_step_b185 cx hlk hr N a_t a_t_score a_t_good a_t_bad a_t_open a_t_costs a_p1 a_p1_store t_ats t_lines t_least t_most t_faultKind t_faultPlace t_toldLines t_score t_good t_bad t_open t_costs p1_size p1_store p1_store_n hn_p1_store r (m_X7_step_b118 N t_faultKind p1_size p1_store p1_store_n n) ih t_kind t_start t_next t_number h _ _ _ hw (lv_sub hl [0, 1] rfl)
      · have h := it_neg c8 h
        obtain rfl := so_inj h
        exact re_v hx hb hlk hr cx hw (Nat.le_of_ble_eq_true rfl) (Nat.le_of_ble_eq_true rfl) dX7_step_198
set_option maxHeartbeats 4000000 in
set_option maxRecDepth 100000 in
theorem w_X7_step_b83 {p : Program} {l : Launch} {e : Env} {s : State} {m : MethodId} {args : Array Value} {below : List Frame} {meth : Method} {c : Code} {A : Nat → Prop} {G : GG} (cx : CX p s m args c cX7_step RX7 2 G) (hlk : meth.locks = false) (hr : meth.sig.returnType = none) (N : Nat) (a_t a_t_score a_t_good a_t_bad a_t_open a_t_costs a_p1 a_p1_store : Nat) (t_ats : Int) (t_lines : Int) (t_least : Int) (t_most : Int) (t_faultKind : Int) (t_faultPlace : Int) (t_toldLines : Int) (t_score : Int → Int) (t_good : Int → Int) (t_bad : Int → Int) (t_open : Int → Int) (t_costs : Int → Int) (p1_size : Int) (p1_store : Int → Int) (p1_store_n : Nat) (hn_p1_store : p1_store_n < 2147483648) (r : Int × Int × Int × Int) : ∀ (t_kind : Int) (t_start : Int) (t_next : Int) (t_number : Int) (s1 : Int), m_X7_step_b83 N t_faultKind p1_size p1_store p1_store_n t_kind t_start t_next t_number s1 = some r → ∀ (H : Heap) (locs : List Loc) (ls : Array Slot), HP G A s.heap H locs [(a_t, .inr (6, [.ref a_t_score, .ref a_t_good, .ref a_t_bad, .ref a_t_open, .ref a_t_costs, .int (kI t_ats), .int (kI t_lines), .int (kI t_least), .int (kI t_most), .int (kI t_faultKind), .int (kI t_faultPlace), .int (kI t_toldLines), .int (kI t_kind), .int (kI t_start), .int (kI t_next), .int (kI t_number)])), (a_t_score, cAI G 60 t_score), (a_t_good, cAI G 60 t_good), (a_t_bad, cAI G 60 t_bad), (a_t_open, cAI G 60 t_open), (a_t_costs, cAI G 3 t_costs), (a_p1, .inr (1, [.ref a_p1_store, .int (kI p1_size)])), (a_p1_store, cAI G p1_store_n p1_store)] → lv_has ls 2 [(0, .ref a_t), (1, .ref a_p1)] → W p l e (rmD 2 0 0) s m args below meth c H locs 0 0 (MQ below (QcV G A [(a_t, .inr (6, [.ref a_t_score, .ref a_t_good, .ref a_t_bad, .ref a_t_open, .ref a_t_costs, .int (kI t_ats), .int (kI t_lines), .int (kI t_least), .int (kI t_most), .int (kI t_faultKind), .int (kI t_faultPlace), .int (kI t_toldLines), .int (kI r.1), .int (kI r.2.1), .int (kI r.2.2.1), .int (kI r.2.2.2)])), (a_t_score, cAI G 60 t_score), (a_t_good, cAI G 60 t_good), (a_t_bad, cAI G 60 t_bad), (a_t_open, cAI G 60 t_open), (a_t_costs, cAI G 3 t_costs), (a_p1, .inr (1, [.ref a_p1_store, .int (kI p1_size)])), (a_p1_store, cAI G p1_store_n p1_store)]) args s (rmD 2 0 0).cells (rmD 2 0 0).slots A) (F0 m 83 ls [.int (kI s1), .ref a_t]) := by
  intro t_kind t_start t_next t_number s1 h H locs ls hw hl
  rw [m_X7_step_b83] at h
  obtain ⟨⟨hx, hb, -, -, -⟩, -⟩ := id cx
  refine rf_put hx hb cx hw 0 rfl rfl 12 inX7 tyX7 tyX7_ok nmX7 (by decide) fl_X7_41 rfl rfl rfl rfl (Nat.le_of_ble_eq_true rfl) dX7_step_83 (fun H locs hw => ?_)
  have hw : HP G A s.heap H locs [(a_t, .inr (6, [.ref a_t_score, .ref a_t_good, .ref a_t_bad, .ref a_t_open, .ref a_t_costs, .int (kI t_ats), .int (kI t_lines), .int (kI t_least), .int (kI t_most), .int (kI t_faultKind), .int (kI t_faultPlace), .int (kI t_toldLines), .int (kI s1), .int (kI t_start), .int (kI t_next), .int (kI t_number)])), (a_t_score, cAI G 60 t_score), (a_t_good, cAI G 60 t_good), (a_t_bad, cAI G 60 t_bad), (a_t_open, cAI G 60 t_open), (a_t_costs, cAI G 3 t_costs), (a_p1, .inr (1, [.ref a_p1_store, .int (kI p1_size)])), (a_p1_store, cAI G p1_store_n p1_store)] := hw
  refine lv_aload_n hx hb dX7_step_86 rfl (lv_at hl 0 rfl) ?_
  refine ri_iconst hx hb dX7_step_87 ?_
  refine rf_put hx hb cx hw 0 rfl rfl 15 inX7 tyX7 tyX7_ok nmX7 (by decide) fl_X7_104 rfl rfl rfl rfl (Nat.le_of_ble_eq_true rfl) dX7_step_88 (fun H locs hw => ?_)
  have hw : HP G A s.heap H locs [(a_t, .inr (6, [.ref a_t_score, .ref a_t_good, .ref a_t_bad, .ref a_t_open, .ref a_t_costs, .int (kI t_ats), .int (kI t_lines), .int (kI t_least), .int (kI t_most), .int (kI t_faultKind), .int (kI t_faultPlace), .int (kI t_toldLines), .int (kI s1), .int (kI t_start), .int (kI t_next), .int (kI 0)])), (a_t_score, cAI G 60 t_score), (a_t_good, cAI G 60 t_good), (a_t_bad, cAI G 60 t_bad), (a_t_open, cAI G 60 t_open), (a_t_costs, cAI G 3 t_costs), (a_p1, .inr (1, [.ref a_p1_store, .int (kI p1_size)])), (a_p1_store, cAI G p1_store_n p1_store)] := hw
  refine lv_aload_n hx hb dX7_step_91 rfl (lv_at hl 0 rfl) ?_
  refine rf_get hx hb cx hw 0 rfl rfl 12 inX7 (by decide) fl_X7_41 rfl rfl dX7_step_92 ?_
  refine ri_iconst hx hb dX7_step_95 ?_
  obtain ⟨g1, h⟩ := gd_some h
  refine ri_icmp_eq (tgt := 107) hx hb g1 ⟨by decide, by decide⟩ dX7_step_96 (by decide) (fun c2 => ?_) (fun c2 => ?_)
  · have h := it_pos c2 h
    exact w_X7_step_b107 cx hlk hr N a_t a_t_score a_t_good a_t_bad a_t_open a_t_costs a_p1 a_p1_store t_ats t_lines t_least t_most t_faultKind t_faultPlace t_toldLines t_score t_good t_bad t_open t_costs p1_size p1_store p1_store_n hn_p1_store r s1 t_start t_next 0 h _ _ _ hw (lv_sub hl [0] rfl)
  · have h := it_neg c2 h
    refine lv_aload_n hx hb dX7_step_99 rfl (lv_at hl 0 rfl) ?_
    refine rf_get hx hb cx hw 0 rfl rfl 12 inX7 (by decide) fl_X7_41 rfl rfl dX7_step_100 ?_
    refine ri_iconst hx hb dX7_step_103 ?_
    refine ri_icmp_ne (tgt := 118) hx hb g1 ⟨by decide, by decide⟩ dX7_step_104 (by decide) (fun c3 => ?_) (fun c3 => ?_)
    · have h := it_pos c3 h
      exact w_X7_step_b107 cx hlk hr N a_t a_t_score a_t_good a_t_bad a_t_open a_t_costs a_p1 a_p1_store t_ats t_lines t_least t_most t_faultKind t_faultPlace t_toldLines t_score t_good t_bad t_open t_costs p1_size p1_store p1_store_n hn_p1_store r s1 t_start t_next 0 h _ _ _ hw (lv_sub hl [0] rfl)
    · have h := it_neg c3 h
      exact w_X7_step_b118 cx hlk hr N a_t a_t_score a_t_good a_t_bad a_t_open a_t_costs a_p1 a_p1_store t_ats t_lines t_least t_most t_faultKind t_faultPlace t_toldLines t_score t_good t_bad t_open t_costs p1_size p1_store p1_store_n hn_p1_store r N s1 t_start t_next 0 h _ _ _ hw (lv_sub hl [0, 1] rfl)
set_option maxHeartbeats 4000000 in
set_option maxRecDepth 100000 in
theorem w_X7_step_b47 {p : Program} {l : Launch} {e : Env} {s : State} {m : MethodId} {args : Array Value} {below : List Frame} {meth : Method} {c : Code} {A : Nat → Prop} {G : GG} (cx : CX p s m args c cX7_step RX7 2 G) (hlk : meth.locks = false) (hr : meth.sig.returnType = none) (N : Nat) (a_t a_t_score a_t_good a_t_bad a_t_open a_t_costs a_p1 a_p1_store : Nat) (t_ats : Int) (t_lines : Int) (t_least : Int) (t_most : Int) (t_faultKind : Int) (t_faultPlace : Int) (t_toldLines : Int) (t_score : Int → Int) (t_good : Int → Int) (t_bad : Int → Int) (t_open : Int → Int) (t_costs : Int → Int) (p1_size : Int) (p1_store : Int → Int) (p1_store_n : Nat) (hn_p1_store : p1_store_n < 2147483648) (r : Int × Int × Int × Int) : ∀ (t_kind : Int) (t_start : Int) (t_next : Int) (t_number : Int), m_X7_step_b47 N t_faultKind p1_size p1_store p1_store_n t_kind t_start t_next t_number = some r → ∀ (H : Heap) (locs : List Loc) (ls : Array Slot), HP G A s.heap H locs [(a_t, .inr (6, [.ref a_t_score, .ref a_t_good, .ref a_t_bad, .ref a_t_open, .ref a_t_costs, .int (kI t_ats), .int (kI t_lines), .int (kI t_least), .int (kI t_most), .int (kI t_faultKind), .int (kI t_faultPlace), .int (kI t_toldLines), .int (kI t_kind), .int (kI t_start), .int (kI t_next), .int (kI t_number)])), (a_t_score, cAI G 60 t_score), (a_t_good, cAI G 60 t_good), (a_t_bad, cAI G 60 t_bad), (a_t_open, cAI G 60 t_open), (a_t_costs, cAI G 3 t_costs), (a_p1, .inr (1, [.ref a_p1_store, .int (kI p1_size)])), (a_p1_store, cAI G p1_store_n p1_store)] → lv_has ls 2 [(0, .ref a_t), (1, .ref a_p1)] → W p l e (rmD 2 0 0) s m args below meth c H locs 0 0 (MQ below (QcV G A [(a_t, .inr (6, [.ref a_t_score, .ref a_t_good, .ref a_t_bad, .ref a_t_open, .ref a_t_costs, .int (kI t_ats), .int (kI t_lines), .int (kI t_least), .int (kI t_most), .int (kI t_faultKind), .int (kI t_faultPlace), .int (kI t_toldLines), .int (kI r.1), .int (kI r.2.1), .int (kI r.2.2.1), .int (kI r.2.2.2)])), (a_t_score, cAI G 60 t_score), (a_t_good, cAI G 60 t_good), (a_t_bad, cAI G 60 t_bad), (a_t_open, cAI G 60 t_open), (a_t_costs, cAI G 3 t_costs), (a_p1, .inr (1, [.ref a_p1_store, .int (kI p1_size)])), (a_p1_store, cAI G p1_store_n p1_store)]) args s (rmD 2 0 0).cells (rmD 2 0 0).slots A) (F0 m 47 ls []) := by
  intro t_kind t_start t_next t_number h H locs ls hw hl
  rw [m_X7_step_b47] at h
  obtain ⟨⟨hx, hb, -, -, -⟩, -⟩ := id cx
  refine lv_aload_n hx hb dX7_step_47 rfl (lv_at hl 0 rfl) ?_
  refine lv_aload_n hx hb dX7_step_48 rfl (lv_at hl 0 rfl) ?_
  refine rf_get hx hb cx hw 0 rfl rfl 14 inX7 (by decide) fl_X7_67 rfl rfl dX7_step_49 ?_
  refine rf_put hx hb cx hw 0 rfl rfl 13 inX7 tyX7 tyX7_ok nmX7 (by decide) fl_X7_70 rfl rfl rfl rfl (Nat.le_of_ble_eq_true rfl) dX7_step_52 (fun H locs hw => ?_)
  have hw : HP G A s.heap H locs [(a_t, .inr (6, [.ref a_t_score, .ref a_t_good, .ref a_t_bad, .ref a_t_open, .ref a_t_costs, .int (kI t_ats), .int (kI t_lines), .int (kI t_least), .int (kI t_most), .int (kI t_faultKind), .int (kI t_faultPlace), .int (kI t_toldLines), .int (kI t_kind), .int (kI t_next), .int (kI t_next), .int (kI t_number)])), (a_t_score, cAI G 60 t_score), (a_t_good, cAI G 60 t_good), (a_t_bad, cAI G 60 t_bad), (a_t_open, cAI G 60 t_open), (a_t_costs, cAI G 3 t_costs), (a_p1, .inr (1, [.ref a_p1_store, .int (kI p1_size)])), (a_p1_store, cAI G p1_store_n p1_store)] := hw
  refine lv_aload_n hx hb dX7_step_55 rfl (lv_at hl 0 rfl) ?_
  refine lv_aload_n hx hb dX7_step_56 rfl (lv_at hl 0 rfl) ?_
  refine rf_get hx hb cx hw 0 rfl rfl 14 inX7 (by decide) fl_X7_67 rfl rfl dX7_step_57 ?_
  refine lv_aload_n hx hb dX7_step_60 rfl (lv_at hl 1 rfl) ?_
  refine rf_get hx hb cx hw 6 rfl rfl 1 inX1 (by decide) fl_X7_122 rfl rfl dX7_step_61 ?_
  obtain ⟨g1, h⟩ := gd_some h
  obtain ⟨g2, h⟩ := gd_some h
  refine ri_icmp_ge (tgt := 82) hx hb g1 g2 dX7_step_64 (by decide) (fun c3 => ?_) (fun c3 => ?_)
  · have h := it_pos c3 h
    refine ri_iconst hx hb dX7_step_82 ?_
    exact w_X7_step_b83 cx hlk hr N a_t a_t_score a_t_good a_t_bad a_t_open a_t_costs a_p1 a_p1_store t_ats t_lines t_least t_most t_faultKind t_faultPlace t_toldLines t_score t_good t_bad t_open t_costs p1_size p1_store p1_store_n hn_p1_store r t_kind t_next t_next t_number 0 h _ _ _ hw (lv_sub hl [0, 1] rfl)
  · have h := it_neg c3 h
    refine lv_aload_n hx hb dX7_step_67 rfl (lv_at hl 1 rfl) ?_
    refine rf_get hx hb cx hw 6 rfl rfl 0 inX1 (by decide) fl_X7_113 rfl rfl dX7_step_68 ?_
    refine lv_aload_n hx hb dX7_step_71 rfl (lv_at hl 0 rfl) ?_
    refine rf_get hx hb cx hw 0 rfl rfl 14 inX7 (by decide) fl_X7_67 rfl rfl dX7_step_72 ?_
    obtain ⟨g4, h⟩ := gd_some h
    refine ra_i hx hb cx hw 7 rfl hn_p1_store g4 dX7_step_75 ?_
    obtain ⟨r5, h5, h⟩ := bd_some h
    refine rc_I0 (v := r5) hw [] (rr_S cx hw (c_X7_kindOf l G H.size N (p1_store t_next) _ h5) mv_X7_128 [] rfl rfl rfl ⟨Nat.le_of_ble_eq_true rfl, Nat.le_of_ble_eq_true rfl⟩ rfl hl.1 rfl (Nat.le_of_ble_eq_true rfl) dX7_step_76 ⟨Nat.le_of_ble_eq_true rfl, Nat.le_of_ble_eq_true rfl⟩) rfl rfl (fun H locs hw => ?_)
    refine lv_goto (tgt := 83) hx hb dX7_step_79 (by decide) ?_
    exact w_X7_step_b83 cx hlk hr N a_t a_t_score a_t_good a_t_bad a_t_open a_t_costs a_p1 a_p1_store t_ats t_lines t_least t_most t_faultKind t_faultPlace t_toldLines t_score t_good t_bad t_open t_costs p1_size p1_store p1_store_n hn_p1_store r t_kind t_next t_next t_number r5 h _ _ _ hw (lv_sub hl [0, 1] rfl)
set_option maxHeartbeats 4000000 in
set_option maxRecDepth 100000 in
theorem w_X7_step_b8 {p : Program} {l : Launch} {e : Env} {s : State} {m : MethodId} {args : Array Value} {below : List Frame} {meth : Method} {c : Code} {A : Nat → Prop} {G : GG} (cx : CX p s m args c cX7_step RX7 2 G) (hlk : meth.locks = false) (hr : meth.sig.returnType = none) (N : Nat) (a_t a_t_score a_t_good a_t_bad a_t_open a_t_costs a_p1 a_p1_store : Nat) (t_ats : Int) (t_lines : Int) (t_least : Int) (t_most : Int) (t_faultKind : Int) (t_faultPlace : Int) (t_toldLines : Int) (t_score : Int → Int) (t_good : Int → Int) (t_bad : Int → Int) (t_open : Int → Int) (t_costs : Int → Int) (p1_size : Int) (p1_store : Int → Int) (p1_store_n : Nat) (hn_p1_store : p1_store_n < 2147483648) (r : Int × Int × Int × Int) : ∀ n : Nat, ∀ (t_kind : Int) (t_start : Int) (t_next : Int) (t_number : Int), m_X7_step_b8 N t_faultKind p1_size p1_store p1_store_n n t_kind t_start t_next t_number = some r → ∀ (H : Heap) (locs : List Loc) (ls : Array Slot), HP G A s.heap H locs [(a_t, .inr (6, [.ref a_t_score, .ref a_t_good, .ref a_t_bad, .ref a_t_open, .ref a_t_costs, .int (kI t_ats), .int (kI t_lines), .int (kI t_least), .int (kI t_most), .int (kI t_faultKind), .int (kI t_faultPlace), .int (kI t_toldLines), .int (kI t_kind), .int (kI t_start), .int (kI t_next), .int (kI t_number)])), (a_t_score, cAI G 60 t_score), (a_t_good, cAI G 60 t_good), (a_t_bad, cAI G 60 t_bad), (a_t_open, cAI G 60 t_open), (a_t_costs, cAI G 3 t_costs), (a_p1, .inr (1, [.ref a_p1_store, .int (kI p1_size)])), (a_p1_store, cAI G p1_store_n p1_store)] → lv_has ls 2 [(0, .ref a_t), (1, .ref a_p1)] → W p l e (rmD 2 0 0) s m args below meth c H locs 0 0 (MQ below (QcV G A [(a_t, .inr (6, [.ref a_t_score, .ref a_t_good, .ref a_t_bad, .ref a_t_open, .ref a_t_costs, .int (kI t_ats), .int (kI t_lines), .int (kI t_least), .int (kI t_most), .int (kI t_faultKind), .int (kI t_faultPlace), .int (kI t_toldLines), .int (kI r.1), .int (kI r.2.1), .int (kI r.2.2.1), .int (kI r.2.2.2)])), (a_t_score, cAI G 60 t_score), (a_t_good, cAI G 60 t_good), (a_t_bad, cAI G 60 t_bad), (a_t_open, cAI G 60 t_open), (a_t_costs, cAI G 3 t_costs), (a_p1, .inr (1, [.ref a_p1_store, .int (kI p1_size)])), (a_p1_store, cAI G p1_store_n p1_store)]) args s (rmD 2 0 0).cells (rmD 2 0 0).slots A) (F0 m 8 ls []) := by
  intro n
  induction n with
  | zero => intro t_kind t_start t_next t_number h; exact nomatch h
  | succ n ih =>
    intro t_kind t_start t_next t_number h H locs ls hw hl
    rw [m_X7_step_b8] at h
    obtain ⟨⟨hx, hb, -, -, -⟩, -⟩ := id cx
    refine lv_aload_n hx hb dX7_step_8 rfl (lv_at hl 0 rfl) ?_
    refine rf_get hx hb cx hw 0 rfl rfl 14 inX7 (by decide) fl_X7_67 rfl rfl dX7_step_9 ?_
    refine lv_aload_n hx hb dX7_step_12 rfl (lv_at hl 1 rfl) ?_
    refine rf_get hx hb cx hw 6 rfl rfl 1 inX1 (by decide) fl_X7_122 rfl rfl dX7_step_13 ?_
    obtain ⟨g1, h⟩ := gd_some h
    obtain ⟨g2, h⟩ := gd_some h
    refine ri_icmp_ge (tgt := 47) hx hb g1 g2 dX7_step_16 (by decide) (fun c3 => ?_) (fun c3 => ?_)
    · have h := it_pos c3 h
      exact w_X7_step_b47 cx hlk hr N a_t a_t_score a_t_good a_t_bad a_t_open a_t_costs a_p1 a_p1_store t_ats t_lines t_least t_most t_faultKind t_faultPlace t_toldLines t_score t_good t_bad t_open t_costs p1_size p1_store p1_store_n hn_p1_store r t_kind t_start t_next t_number h _ _ _ hw (lv_sub hl [0, 1] rfl)
    · have h := it_neg c3 h
      refine lv_aload_n hx hb dX7_step_19 rfl (lv_at hl 1 rfl) ?_
      refine rf_get hx hb cx hw 6 rfl rfl 0 inX1 (by decide) fl_X7_113 rfl rfl dX7_step_20 ?_
      refine lv_aload_n hx hb dX7_step_23 rfl (lv_at hl 0 rfl) ?_
      refine rf_get hx hb cx hw 0 rfl rfl 14 inX7 (by decide) fl_X7_67 rfl rfl dX7_step_24 ?_
      obtain ⟨g4, h⟩ := gd_some h
      refine ra_i hx hb cx hw 7 rfl hn_p1_store g4 dX7_step_27 ?_
      obtain ⟨r5, h5, h⟩ := bd_some h
      refine rc_I0 (v := r5) hw [] (rr_S cx hw (c_X7_isBlank l G H.size N (p1_store t_next) _ h5) mv_X7_125 [] rfl rfl rfl ⟨Nat.le_of_ble_eq_true rfl, Nat.le_of_ble_eq_true rfl⟩ rfl hl.1 rfl (Nat.le_of_ble_eq_true rfl) dX7_step_28 ⟨Nat.le_of_ble_eq_true rfl, Nat.le_of_ble_eq_true rfl⟩) rfl rfl (fun H locs hw => ?_)
      obtain ⟨g6, h⟩ := gd_some h
      refine ri_if_eq (tgt := 47) hx hb g6 dX7_step_31 (by decide) (fun c7 => ?_) (fun c7 => ?_)
      · have h := it_pos c7 h
        exact w_X7_step_b47 cx hlk hr N a_t a_t_score a_t_good a_t_bad a_t_open a_t_costs a_p1 a_p1_store t_ats t_lines t_least t_most t_faultKind t_faultPlace t_toldLines t_score t_good t_bad t_open t_costs p1_size p1_store p1_store_n hn_p1_store r t_kind t_start t_next t_number h _ _ _ hw (lv_sub hl [0, 1] rfl)
      · have h := it_neg c7 h
        refine lv_aload_n hx hb dX7_step_34 rfl (lv_at hl 0 rfl) ?_
        refine lv_dup hx hb dX7_step_35 rfl ?_
        refine rf_get hx hb cx hw 0 rfl rfl 14 inX7 (by decide) fl_X7_67 rfl rfl dX7_step_36 ?_
        refine ri_iconst hx hb dX7_step_39 ?_
        refine ri_iadd hx hb dX7_step_40 ?_
        refine rf_put hx hb cx hw 0 rfl rfl 14 inX7 tyX7 tyX7_ok nmX7 (by decide) fl_X7_67 rfl rfl rfl rfl (Nat.le_of_ble_eq_true rfl) dX7_step_41 (fun H locs hw => ?_)
        have hw : HP G A s.heap H locs [(a_t, .inr (6, [.ref a_t_score, .ref a_t_good, .ref a_t_bad, .ref a_t_open, .ref a_t_costs, .int (kI t_ats), .int (kI t_lines), .int (kI t_least), .int (kI t_most), .int (kI t_faultKind), .int (kI t_faultPlace), .int (kI t_toldLines), .int (kI t_kind), .int (kI t_start), .int (kI (t_next + 1)), .int (kI t_number)])), (a_t_score, cAI G 60 t_score), (a_t_good, cAI G 60 t_good), (a_t_bad, cAI G 60 t_bad), (a_t_open, cAI G 60 t_open), (a_t_costs, cAI G 3 t_costs), (a_p1, .inr (1, [.ref a_p1_store, .int (kI p1_size)])), (a_p1_store, cAI G p1_store_n p1_store)] := hw
        refine lv_goto (tgt := 8) hx hb dX7_step_44 (by decide) ?_
        exact ih t_kind t_start (t_next + 1) t_number h _ _ _ hw (lv_sub hl [0, 1] rfl)
set_option maxHeartbeats 4000000 in
set_option maxRecDepth 100000 in
theorem c_X7_step (l : Launch) (G : GG) (sz : Nat) (N : Nat) (a_t a_t_score a_t_good a_t_bad a_t_open a_t_costs a_p1 a_p1_store : Nat) (t_ats : Int) (t_lines : Int) (t_least : Int) (t_most : Int) (t_faultKind : Int) (t_faultPlace : Int) (t_toldLines : Int) (t_kind : Int) (t_start : Int) (t_next : Int) (t_number : Int) (t_score : Int → Int) (t_good : Int → Int) (t_bad : Int → Int) (t_open : Int → Int) (t_costs : Int → Int) (p1_size : Int) (p1_store : Int → Int) (p1_store_n : Nat)  (hn_p1_store : p1_store_n < 2147483648) (r : Int × Int × Int × Int) (h : m_X7_step N t_faultKind p1_size p1_store p1_store_n t_kind t_start t_next t_number = some r) : CtV l yX7_step cX7_step 2 (rmD 2 0 0) G sz [.ref a_t, .ref a_p1] [(a_t, .inr (6, [.ref a_t_score, .ref a_t_good, .ref a_t_bad, .ref a_t_open, .ref a_t_costs, .int (kI t_ats), .int (kI t_lines), .int (kI t_least), .int (kI t_most), .int (kI t_faultKind), .int (kI t_faultPlace), .int (kI t_toldLines), .int (kI t_kind), .int (kI t_start), .int (kI t_next), .int (kI t_number)])), (a_t_score, cAI G 60 t_score), (a_t_good, cAI G 60 t_good), (a_t_bad, cAI G 60 t_bad), (a_t_open, cAI G 60 t_open), (a_t_costs, cAI G 3 t_costs), (a_p1, .inr (1, [.ref a_p1_store, .int (kI p1_size)])), (a_p1_store, cAI G p1_store_n p1_store)] [(a_t, .inr (6, [.ref a_t_score, .ref a_t_good, .ref a_t_bad, .ref a_t_open, .ref a_t_costs, .int (kI t_ats), .int (kI t_lines), .int (kI t_least), .int (kI t_most), .int (kI t_faultKind), .int (kI t_faultPlace), .int (kI t_toldLines), .int (kI r.1), .int (kI r.2.1), .int (kI r.2.2.1), .int (kI r.2.2.2)])), (a_t_score, cAI G 60 t_score), (a_t_good, cAI G 60 t_good), (a_t_bad, cAI G 60 t_bad), (a_t_open, cAI G 60 t_open), (a_t_costs, cAI G 3 t_costs), (a_p1, .inr (1, [.ref a_p1_store, .int (kI p1_size)])), (a_p1_store, cAI G p1_store_n p1_store)] := by
  refine met_of (Qc := fun A => QcV G A [(a_t, .inr (6, [.ref a_t_score, .ref a_t_good, .ref a_t_bad, .ref a_t_open, .ref a_t_costs, .int (kI t_ats), .int (kI t_lines), .int (kI t_least), .int (kI t_most), .int (kI t_faultKind), .int (kI t_faultPlace), .int (kI t_toldLines), .int (kI r.1), .int (kI r.2.1), .int (kI r.2.2.1), .int (kI r.2.2.2)])), (a_t_score, cAI G 60 t_score), (a_t_good, cAI G 60 t_good), (a_t_bad, cAI G 60 t_bad), (a_t_open, cAI G 60 t_open), (a_t_costs, cAI G 3 t_costs), (a_p1, .inr (1, [.ref a_p1_store, .int (kI p1_size)])), (a_p1_store, cAI G p1_store_n p1_store)]) (by decide +kernel) (Nat.le_of_ble_eq_true rfl) ?_
  intro p e s m args below meth c A H locs ls cx hw hr hlk hnm hl
  have hl : lv_has ls 2 [(0, .ref a_t), (1, .ref a_p1)] := hl
  rw [m_X7_step] at h
  obtain ⟨⟨hx, hb, -, -, -⟩, -⟩ := id cx
  refine lv_aload_n hx hb dX7_step_0 rfl (lv_at hl 0 rfl) ?_
  refine rf_get hx hb cx hw 0 rfl rfl 9 inX7 (by decide) fl_X7_38 rfl rfl dX7_step_1 ?_
  obtain ⟨g1, h⟩ := gd_some h
  refine ri_if_eq (tgt := 8) hx hb g1 dX7_step_4 (by decide) (fun c2 => ?_) (fun c2 => ?_)
  · have h := it_pos c2 h
    exact w_X7_step_b8 cx hlk hr N a_t a_t_score a_t_good a_t_bad a_t_open a_t_costs a_p1 a_p1_store t_ats t_lines t_least t_most t_faultKind t_faultPlace t_toldLines t_score t_good t_bad t_open t_costs p1_size p1_store p1_store_n hn_p1_store r N t_kind t_start t_next t_number h _ _ _ hw (lv_sub hl [0, 1] rfl)
  · have h := it_neg c2 h
    obtain rfl := so_inj h
    exact re_v hx hb hlk hr cx hw (Nat.le_of_ble_eq_true rfl) (Nat.le_of_ble_eq_true rfl) dX7_step_7
set_option maxHeartbeats 4000000 in
set_option maxRecDepth 100000 in
theorem c_X7_fail (l : Launch) (G : GG) (sz : Nat) (N : Nat) (a_t a_t_score a_t_good a_t_bad a_t_open a_t_costs : Nat) (t_ats : Int) (t_lines : Int) (t_least : Int) (t_most : Int) (t_faultKind : Int) (t_faultPlace : Int) (t_toldLines : Int) (t_kind : Int) (t_start : Int) (t_next : Int) (t_number : Int) (t_score : Int → Int) (t_good : Int → Int) (t_bad : Int → Int) (t_open : Int → Int) (t_costs : Int → Int) (x1 : Int) (r : Int × Int) (h : m_X7_fail N t_start t_faultKind t_faultPlace x1 = some r) : CtV l yX7_fail cX7_fail 2 (rmD 1 0 0) G sz [.ref a_t, .int (kI x1)] [(a_t, .inr (6, [.ref a_t_score, .ref a_t_good, .ref a_t_bad, .ref a_t_open, .ref a_t_costs, .int (kI t_ats), .int (kI t_lines), .int (kI t_least), .int (kI t_most), .int (kI t_faultKind), .int (kI t_faultPlace), .int (kI t_toldLines), .int (kI t_kind), .int (kI t_start), .int (kI t_next), .int (kI t_number)])), (a_t_score, cAI G 60 t_score), (a_t_good, cAI G 60 t_good), (a_t_bad, cAI G 60 t_bad), (a_t_open, cAI G 60 t_open), (a_t_costs, cAI G 3 t_costs)] [(a_t, .inr (6, [.ref a_t_score, .ref a_t_good, .ref a_t_bad, .ref a_t_open, .ref a_t_costs, .int (kI t_ats), .int (kI t_lines), .int (kI t_least), .int (kI t_most), .int (kI r.1), .int (kI r.2), .int (kI t_toldLines), .int (kI t_kind), .int (kI t_start), .int (kI t_next), .int (kI t_number)])), (a_t_score, cAI G 60 t_score), (a_t_good, cAI G 60 t_good), (a_t_bad, cAI G 60 t_bad), (a_t_open, cAI G 60 t_open), (a_t_costs, cAI G 3 t_costs)] := by
  refine met_of (Qc := fun A => QcV G A [(a_t, .inr (6, [.ref a_t_score, .ref a_t_good, .ref a_t_bad, .ref a_t_open, .ref a_t_costs, .int (kI t_ats), .int (kI t_lines), .int (kI t_least), .int (kI t_most), .int (kI r.1), .int (kI r.2), .int (kI t_toldLines), .int (kI t_kind), .int (kI t_start), .int (kI t_next), .int (kI t_number)])), (a_t_score, cAI G 60 t_score), (a_t_good, cAI G 60 t_good), (a_t_bad, cAI G 60 t_bad), (a_t_open, cAI G 60 t_open), (a_t_costs, cAI G 3 t_costs)]) (by decide +kernel) (Nat.le_of_ble_eq_true rfl) ?_
  intro p e s m args below meth c A H locs ls cx hw hr hlk hnm hl
  have hl : lv_has ls 2 [(0, .ref a_t), (1, .int (kI x1))] := hl
  rw [m_X7_fail] at h
  obtain ⟨⟨hx, hb, -, -, -⟩, -⟩ := id cx
  refine lv_aload_n hx hb dX7_fail_0 rfl (lv_at hl 0 rfl) ?_
  refine rf_get hx hb cx hw 0 rfl rfl 9 inX7 (by decide) fl_X7_38 rfl rfl dX7_fail_1 ?_
  obtain ⟨g1, h⟩ := gd_some h
  refine ri_if_ne (tgt := 20) hx hb g1 dX7_fail_4 (by decide) (fun c2 => ?_) (fun c2 => ?_)
  · have h := it_pos c2 h
    refine lv_aload_n hx hb dX7_fail_7 rfl (lv_at hl 0 rfl) ?_
    refine lv_iload_n hx hb dX7_fail_8 rfl (lv_at hl 1 rfl) ?_
    refine rf_put hx hb cx hw 0 rfl rfl 9 inX7 tyX7 tyX7_ok nmX7 (by decide) fl_X7_38 rfl rfl rfl rfl (Nat.le_of_ble_eq_true rfl) dX7_fail_9 (fun H locs hw => ?_)
    have hw : HP G A s.heap H locs [(a_t, .inr (6, [.ref a_t_score, .ref a_t_good, .ref a_t_bad, .ref a_t_open, .ref a_t_costs, .int (kI t_ats), .int (kI t_lines), .int (kI t_least), .int (kI t_most), .int (kI x1), .int (kI t_faultPlace), .int (kI t_toldLines), .int (kI t_kind), .int (kI t_start), .int (kI t_next), .int (kI t_number)])), (a_t_score, cAI G 60 t_score), (a_t_good, cAI G 60 t_good), (a_t_bad, cAI G 60 t_bad), (a_t_open, cAI G 60 t_open), (a_t_costs, cAI G 3 t_costs)] := hw
    refine lv_aload_n hx hb dX7_fail_12 rfl (lv_at hl 0 rfl) ?_
    refine lv_aload_n hx hb dX7_fail_13 rfl (lv_at hl 0 rfl) ?_
    refine rf_get hx hb cx hw 0 rfl rfl 13 inX7 (by decide) fl_X7_70 rfl rfl dX7_fail_14 ?_
    refine rf_put hx hb cx hw 0 rfl rfl 10 inX7 tyX7 tyX7_ok nmX7 (by decide) fl_X7_27 rfl rfl rfl rfl (Nat.le_of_ble_eq_true rfl) dX7_fail_17 (fun H locs hw => ?_)
    have hw : HP G A s.heap H locs [(a_t, .inr (6, [.ref a_t_score, .ref a_t_good, .ref a_t_bad, .ref a_t_open, .ref a_t_costs, .int (kI t_ats), .int (kI t_lines), .int (kI t_least), .int (kI t_most), .int (kI x1), .int (kI t_start), .int (kI t_toldLines), .int (kI t_kind), .int (kI t_start), .int (kI t_next), .int (kI t_number)])), (a_t_score, cAI G 60 t_score), (a_t_good, cAI G 60 t_good), (a_t_bad, cAI G 60 t_bad), (a_t_open, cAI G 60 t_open), (a_t_costs, cAI G 3 t_costs)] := hw
    obtain rfl := so_inj h
    exact re_v hx hb hlk hr cx hw (Nat.le_of_ble_eq_true rfl) (Nat.le_of_ble_eq_true rfl) dX7_fail_20
  · have h := it_neg c2 h
    obtain rfl := so_inj h
    exact re_v hx hb hlk hr cx hw (Nat.le_of_ble_eq_true rfl) (Nat.le_of_ble_eq_true rfl) dX7_fail_20
set_option maxHeartbeats 4000000 in
set_option maxRecDepth 100000 in
theorem w_X7_wantNumber_b37 {p : Program} {l : Launch} {e : Env} {s : State} {m : MethodId} {args : Array Value} {below : List Frame} {meth : Method} {c : Code} {A : Nat → Prop} {G : GG} (cx : CX p s m args c cX7_wantNumber RX7 4 G) (hlk : meth.locks = false) (hr : meth.sig.returnType = some .int) (N : Nat) (a_t a_t_score a_t_good a_t_bad a_t_open a_t_costs a_p1 a_p1_store : Nat) (t_ats : Int) (t_lines : Int) (t_least : Int) (t_most : Int) (t_toldLines : Int) (t_score : Int → Int) (t_good : Int → Int) (t_bad : Int → Int) (t_open : Int → Int) (t_costs : Int → Int) (p1_size : Int) (p1_store : Int → Int) (p1_store_n : Nat) (x2 : Int) (x3 : Int) (hn_p1_store : p1_store_n < 2147483648) (r : Int × Int × Int × Int × Int × Int × Int) : ∀ (t_faultKind : Int) (t_faultPlace : Int) (t_kind : Int) (t_start : Int) (t_next : Int) (t_number : Int), m_X7_wantNumber_b37 N p1_size p1_store p1_store_n x2 x3 t_faultKind t_faultPlace t_kind t_start t_next t_number = some r → ∀ (H : Heap) (locs : List Loc) (ls : Array Slot), HP G A s.heap H locs [(a_t, .inr (6, [.ref a_t_score, .ref a_t_good, .ref a_t_bad, .ref a_t_open, .ref a_t_costs, .int (kI t_ats), .int (kI t_lines), .int (kI t_least), .int (kI t_most), .int (kI t_faultKind), .int (kI t_faultPlace), .int (kI t_toldLines), .int (kI t_kind), .int (kI t_start), .int (kI t_next), .int (kI t_number)])), (a_t_score, cAI G 60 t_score), (a_t_good, cAI G 60 t_good), (a_t_bad, cAI G 60 t_bad), (a_t_open, cAI G 60 t_open), (a_t_costs, cAI G 3 t_costs), (a_p1, .inr (1, [.ref a_p1_store, .int (kI p1_size)])), (a_p1_store, cAI G p1_store_n p1_store)] → lv_has ls 4 [(0, .ref a_t)] → W p l e (rmD 3 0 0) s m args below meth c H locs 0 0 (MQ below (QcI G A r.1 [(a_t, .inr (6, [.ref a_t_score, .ref a_t_good, .ref a_t_bad, .ref a_t_open, .ref a_t_costs, .int (kI t_ats), .int (kI t_lines), .int (kI t_least), .int (kI t_most), .int (kI r.2.1), .int (kI r.2.2.1), .int (kI t_toldLines), .int (kI r.2.2.2.1), .int (kI r.2.2.2.2.1), .int (kI r.2.2.2.2.2.1), .int (kI r.2.2.2.2.2.2)])), (a_t_score, cAI G 60 t_score), (a_t_good, cAI G 60 t_good), (a_t_bad, cAI G 60 t_bad), (a_t_open, cAI G 60 t_open), (a_t_costs, cAI G 3 t_costs), (a_p1, .inr (1, [.ref a_p1_store, .int (kI p1_size)])), (a_p1_store, cAI G p1_store_n p1_store)]) args s (rmD 3 0 0).cells (rmD 3 0 0).slots A) (F0 m 37 ls []) := by
  intro t_faultKind t_faultPlace t_kind t_start t_next t_number h H locs ls hw hl
  rw [m_X7_wantNumber_b37] at h
  obtain ⟨⟨hx, hb, -, -, -⟩, -⟩ := id cx
  refine lv_aload_n hx hb dX7_wantNumber_37 rfl (lv_at hl 0 rfl) ?_
  refine ri_iconst hx hb dX7_wantNumber_38 ?_
  obtain ⟨r1, h1, h⟩ := bd_some h
  refine rc_V (w2 := [(a_t, .inr (6, [.ref a_t_score, .ref a_t_good, .ref a_t_bad, .ref a_t_open, .ref a_t_costs, .int (kI t_ats), .int (kI t_lines), .int (kI t_least), .int (kI t_most), .int (kI r1.1), .int (kI r1.2), .int (kI t_toldLines), .int (kI t_kind), .int (kI t_start), .int (kI t_next), .int (kI t_number)])), (a_t_score, cAI G 60 t_score), (a_t_good, cAI G 60 t_good), (a_t_bad, cAI G 60 t_bad), (a_t_open, cAI G 60 t_open), (a_t_costs, cAI G 3 t_costs), (a_p1, .inr (1, [.ref a_p1_store, .int (kI p1_size)])), (a_p1_store, cAI G p1_store_n p1_store)]) hw [0, 1, 2, 3, 4, 5] [6, 7] [2, 3, 4, 5, 6, 7, 0, 1] (rr_V cx hw (c_X7_fail l G H.size N a_t a_t_score a_t_good a_t_bad a_t_open a_t_costs t_ats t_lines t_least t_most t_faultKind t_faultPlace t_toldLines t_kind t_start t_next t_number t_score t_good t_bad t_open t_costs 2 _ h1) mv_X7_48 [0, 1, 2, 3, 4, 5] rfl rfl rfl 0 rfl rfl ⟨Nat.le_of_ble_eq_true rfl, Nat.le_of_ble_eq_true rfl⟩ rfl hl.1 rfl (Nat.le_of_ble_eq_true rfl) dX7_wantNumber_39 ⟨Nat.le_of_ble_eq_true rfl, Nat.le_of_ble_eq_true rfl⟩) rfl rfl rfl rfl rfl rfl rfl rfl (fun H locs hw => ?_)
  refine lv_aload_n hx hb dX7_wantNumber_42 rfl (lv_at hl 0 rfl) ?_
  refine rf_get hx hb cx hw 0 rfl rfl 15 inX7 (by decide) fl_X7_104 rfl rfl dX7_wantNumber_43 ?_
  obtain rfl := so_inj h
  exact re_i hx hb hlk hr cx hw (Nat.le_of_ble_eq_true rfl) (Nat.le_of_ble_eq_true rfl) dX7_wantNumber_46
set_option maxHeartbeats 4000000 in
set_option maxRecDepth 100000 in
theorem c_X7_wantNumber (l : Launch) (G : GG) (sz : Nat) (N : Nat) (a_t a_t_score a_t_good a_t_bad a_t_open a_t_costs a_p1 a_p1_store : Nat) (t_ats : Int) (t_lines : Int) (t_least : Int) (t_most : Int) (t_faultKind : Int) (t_faultPlace : Int) (t_toldLines : Int) (t_kind : Int) (t_start : Int) (t_next : Int) (t_number : Int) (t_score : Int → Int) (t_good : Int → Int) (t_bad : Int → Int) (t_open : Int → Int) (t_costs : Int → Int) (p1_size : Int) (p1_store : Int → Int) (p1_store_n : Nat) (x2 : Int) (x3 : Int) (hn_p1_store : p1_store_n < 2147483648) (r : Int × Int × Int × Int × Int × Int × Int) (h : m_X7_wantNumber N p1_size p1_store p1_store_n t_faultKind t_faultPlace t_kind t_start t_next t_number x2 x3 = some r) : CtI l yX7_wantNumber cX7_wantNumber 4 .int (rmD 3 0 0) G sz [.ref a_t, .ref a_p1, .int (kI x2), .int (kI x3)] [(a_t, .inr (6, [.ref a_t_score, .ref a_t_good, .ref a_t_bad, .ref a_t_open, .ref a_t_costs, .int (kI t_ats), .int (kI t_lines), .int (kI t_least), .int (kI t_most), .int (kI t_faultKind), .int (kI t_faultPlace), .int (kI t_toldLines), .int (kI t_kind), .int (kI t_start), .int (kI t_next), .int (kI t_number)])), (a_t_score, cAI G 60 t_score), (a_t_good, cAI G 60 t_good), (a_t_bad, cAI G 60 t_bad), (a_t_open, cAI G 60 t_open), (a_t_costs, cAI G 3 t_costs), (a_p1, .inr (1, [.ref a_p1_store, .int (kI p1_size)])), (a_p1_store, cAI G p1_store_n p1_store)] r.1 [(a_t, .inr (6, [.ref a_t_score, .ref a_t_good, .ref a_t_bad, .ref a_t_open, .ref a_t_costs, .int (kI t_ats), .int (kI t_lines), .int (kI t_least), .int (kI t_most), .int (kI r.2.1), .int (kI r.2.2.1), .int (kI t_toldLines), .int (kI r.2.2.2.1), .int (kI r.2.2.2.2.1), .int (kI r.2.2.2.2.2.1), .int (kI r.2.2.2.2.2.2)])), (a_t_score, cAI G 60 t_score), (a_t_good, cAI G 60 t_good), (a_t_bad, cAI G 60 t_bad), (a_t_open, cAI G 60 t_open), (a_t_costs, cAI G 3 t_costs), (a_p1, .inr (1, [.ref a_p1_store, .int (kI p1_size)])), (a_p1_store, cAI G p1_store_n p1_store)] := by
  refine met_of (Qc := fun A => QcI G A r.1 [(a_t, .inr (6, [.ref a_t_score, .ref a_t_good, .ref a_t_bad, .ref a_t_open, .ref a_t_costs, .int (kI t_ats), .int (kI t_lines), .int (kI t_least), .int (kI t_most), .int (kI r.2.1), .int (kI r.2.2.1), .int (kI t_toldLines), .int (kI r.2.2.2.1), .int (kI r.2.2.2.2.1), .int (kI r.2.2.2.2.2.1), .int (kI r.2.2.2.2.2.2)])), (a_t_score, cAI G 60 t_score), (a_t_good, cAI G 60 t_good), (a_t_bad, cAI G 60 t_bad), (a_t_open, cAI G 60 t_open), (a_t_costs, cAI G 3 t_costs), (a_p1, .inr (1, [.ref a_p1_store, .int (kI p1_size)])), (a_p1_store, cAI G p1_store_n p1_store)]) (by decide +kernel) (Nat.le_of_ble_eq_true rfl) ?_
  intro p e s m args below meth c A H locs ls cx hw hr hlk hnm hl
  have hl : lv_has ls 4 [(0, .ref a_t), (1, .ref a_p1), (2, .int (kI x2)), (3, .int (kI x3))] := hl
  rw [m_X7_wantNumber] at h
  obtain ⟨⟨hx, hb, -, -, -⟩, -⟩ := id cx
  refine lv_aload_n hx hb dX7_wantNumber_0 rfl (lv_at hl 0 rfl) ?_
  refine lv_aload_n hx hb dX7_wantNumber_1 rfl (lv_at hl 1 rfl) ?_
  obtain ⟨r1, h1, h⟩ := bd_some h
  refine rc_V (w2 := [(a_t, .inr (6, [.ref a_t_score, .ref a_t_good, .ref a_t_bad, .ref a_t_open, .ref a_t_costs, .int (kI t_ats), .int (kI t_lines), .int (kI t_least), .int (kI t_most), .int (kI t_faultKind), .int (kI t_faultPlace), .int (kI t_toldLines), .int (kI r1.1), .int (kI r1.2.1), .int (kI r1.2.2.1), .int (kI r1.2.2.2)])), (a_t_score, cAI G 60 t_score), (a_t_good, cAI G 60 t_good), (a_t_bad, cAI G 60 t_bad), (a_t_open, cAI G 60 t_open), (a_t_costs, cAI G 3 t_costs), (a_p1, .inr (1, [.ref a_p1_store, .int (kI p1_size)])), (a_p1_store, cAI G p1_store_n p1_store)]) hw [0, 1, 2, 3, 4, 5, 6, 7] [] [0, 1, 2, 3, 4, 5, 6, 7] (rr_V cx hw (c_X7_step l G H.size N a_t a_t_score a_t_good a_t_bad a_t_open a_t_costs a_p1 a_p1_store t_ats t_lines t_least t_most t_faultKind t_faultPlace t_toldLines t_kind t_start t_next t_number t_score t_good t_bad t_open t_costs p1_size p1_store p1_store_n hn_p1_store _ h1) mv_X7_34 [0, 1, 2, 3, 4, 5, 6, 7] rfl rfl rfl 0 rfl rfl ⟨Nat.le_of_ble_eq_true rfl, Nat.le_of_ble_eq_true rfl⟩ rfl hl.1 rfl (Nat.le_of_ble_eq_true rfl) dX7_wantNumber_2 ⟨Nat.le_of_ble_eq_true rfl, Nat.le_of_ble_eq_true rfl⟩) rfl rfl rfl rfl rfl rfl rfl rfl (fun H locs hw => ?_)
  refine lv_aload_n hx hb dX7_wantNumber_5 rfl (lv_at hl 0 rfl) ?_
  refine rf_get hx hb cx hw 0 rfl rfl 12 inX7 (by decide) fl_X7_41 rfl rfl dX7_wantNumber_6 ?_
  refine ri_iconst hx hb dX7_wantNumber_9 ?_
  obtain ⟨g2, h⟩ := gd_some h
  refine ri_icmp_eq (tgt := 21) hx hb g2 ⟨by decide, by decide⟩ dX7_wantNumber_10 (by decide) (fun c3 => ?_) (fun c3 => ?_)
  · have h := it_pos c3 h
    refine lv_aload_n hx hb dX7_wantNumber_21 rfl (lv_at hl 0 rfl) ?_
    refine rf_get hx hb cx hw 0 rfl rfl 15 inX7 (by decide) fl_X7_104 rfl rfl dX7_wantNumber_22 ?_
    refine lv_iload_n hx hb dX7_wantNumber_25 rfl (lv_at hl 2 rfl) ?_
    obtain ⟨g4, h⟩ := gd_some h
    obtain ⟨g5, h⟩ := gd_some h
    refine ri_icmp_lt (tgt := 37) hx hb g4 g5 dX7_wantNumber_26 (by decide) (fun c6 => ?_) (fun c6 => ?_)
    · have h := it_pos c6 h
      exact w_X7_wantNumber_b37 cx hlk hr N a_t a_t_score a_t_good a_t_bad a_t_open a_t_costs a_p1 a_p1_store t_ats t_lines t_least t_most t_toldLines t_score t_good t_bad t_open t_costs p1_size p1_store p1_store_n x2 x3 hn_p1_store r t_faultKind t_faultPlace r1.1 r1.2.1 r1.2.2.1 r1.2.2.2 h _ _ _ hw (lv_sub hl [0] rfl)
    · have h := it_neg c6 h
      refine lv_aload_n hx hb dX7_wantNumber_29 rfl (lv_at hl 0 rfl) ?_
      refine rf_get hx hb cx hw 0 rfl rfl 15 inX7 (by decide) fl_X7_104 rfl rfl dX7_wantNumber_30 ?_
      refine lv_iload_n hx hb dX7_wantNumber_33 rfl (lv_at hl 3 rfl) ?_
      obtain ⟨g7, h⟩ := gd_some h
      refine ri_icmp_le (tgt := 42) hx hb g4 g7 dX7_wantNumber_34 (by decide) (fun c8 => ?_) (fun c8 => ?_)
      · have h := it_pos c8 h
        refine lv_aload_n hx hb dX7_wantNumber_42 rfl (lv_at hl 0 rfl) ?_
        refine rf_get hx hb cx hw 0 rfl rfl 15 inX7 (by decide) fl_X7_104 rfl rfl dX7_wantNumber_43 ?_
        obtain rfl := so_inj h
        exact re_i hx hb hlk hr cx hw (Nat.le_of_ble_eq_true rfl) (Nat.le_of_ble_eq_true rfl) dX7_wantNumber_46
      · have h := it_neg c8 h
        exact w_X7_wantNumber_b37 cx hlk hr N a_t a_t_score a_t_good a_t_bad a_t_open a_t_costs a_p1 a_p1_store t_ats t_lines t_least t_most t_toldLines t_score t_good t_bad t_open t_costs p1_size p1_store p1_store_n x2 x3 hn_p1_store r t_faultKind t_faultPlace r1.1 r1.2.1 r1.2.2.1 r1.2.2.2 h _ _ _ hw (lv_sub hl [0] rfl)
  · have h := it_neg c3 h
    refine lv_aload_n hx hb dX7_wantNumber_13 rfl (lv_at hl 0 rfl) ?_
    refine ri_iconst hx hb dX7_wantNumber_14 ?_
    obtain ⟨r9, h9, h⟩ := bd_some h
    refine rc_V (w2 := [(a_t, .inr (6, [.ref a_t_score, .ref a_t_good, .ref a_t_bad, .ref a_t_open, .ref a_t_costs, .int (kI t_ats), .int (kI t_lines), .int (kI t_least), .int (kI t_most), .int (kI r9.1), .int (kI r9.2), .int (kI t_toldLines), .int (kI r1.1), .int (kI r1.2.1), .int (kI r1.2.2.1), .int (kI r1.2.2.2)])), (a_t_score, cAI G 60 t_score), (a_t_good, cAI G 60 t_good), (a_t_bad, cAI G 60 t_bad), (a_t_open, cAI G 60 t_open), (a_t_costs, cAI G 3 t_costs), (a_p1, .inr (1, [.ref a_p1_store, .int (kI p1_size)])), (a_p1_store, cAI G p1_store_n p1_store)]) hw [0, 1, 2, 3, 4, 5] [6, 7] [2, 3, 4, 5, 6, 7, 0, 1] (rr_V cx hw (c_X7_fail l G H.size N a_t a_t_score a_t_good a_t_bad a_t_open a_t_costs t_ats t_lines t_least t_most t_faultKind t_faultPlace t_toldLines r1.1 r1.2.1 r1.2.2.1 r1.2.2.2 t_score t_good t_bad t_open t_costs 1 _ h9) mv_X7_48 [0, 1, 2, 3, 4, 5] rfl rfl rfl 0 rfl rfl ⟨Nat.le_of_ble_eq_true rfl, Nat.le_of_ble_eq_true rfl⟩ rfl hl.1 rfl (Nat.le_of_ble_eq_true rfl) dX7_wantNumber_15 ⟨Nat.le_of_ble_eq_true rfl, Nat.le_of_ble_eq_true rfl⟩) rfl rfl rfl rfl rfl rfl rfl rfl (fun H locs hw => ?_)
    refine lv_goto (tgt := 42) hx hb dX7_wantNumber_18 (by decide) ?_
    refine lv_aload_n hx hb dX7_wantNumber_42 rfl (lv_at hl 0 rfl) ?_
    refine rf_get hx hb cx hw 0 rfl rfl 15 inX7 (by decide) fl_X7_104 rfl rfl dX7_wantNumber_43 ?_
    obtain rfl := so_inj h
    exact re_i hx hb hlk hr cx hw (Nat.le_of_ble_eq_true rfl) (Nat.le_of_ble_eq_true rfl) dX7_wantNumber_46
set_option maxHeartbeats 4000000 in
set_option maxRecDepth 100000 in
theorem w_X7_isTold_b2 {p : Program} {l : Launch} {e : Env} {s : State} {m : MethodId} {args : Array Value} {below : List Frame} {meth : Method} {c : Code} {A : Nat → Prop} {G : GG} (cx : CX p s m args c cX7_isTold RX7 3 G) (hlk : meth.locks = false) (hr : meth.sig.returnType = some .boolean) (N : Nat) (a_t a_t_score a_t_good a_t_bad a_t_open a_t_costs : Nat) (t_ats : Int) (t_lines : Int) (t_least : Int) (t_most : Int) (t_faultKind : Int) (t_faultPlace : Int) (t_toldLines : Int) (t_kind : Int) (t_start : Int) (t_next : Int) (t_number : Int) (t_score : Int → Int) (t_good : Int → Int) (t_bad : Int → Int) (t_open : Int → Int) (t_costs : Int → Int) (x1 : Int) (r : Int) : ∀ n : Nat, ∀ (y2 : Int), m_X7_isTold_b2 N t_ats t_score x1 n y2 = some r → ∀ (H : Heap) (locs : List Loc) (ls : Array Slot), HP G A s.heap H locs [(a_t, .inr (6, [.ref a_t_score, .ref a_t_good, .ref a_t_bad, .ref a_t_open, .ref a_t_costs, .int (kI t_ats), .int (kI t_lines), .int (kI t_least), .int (kI t_most), .int (kI t_faultKind), .int (kI t_faultPlace), .int (kI t_toldLines), .int (kI t_kind), .int (kI t_start), .int (kI t_next), .int (kI t_number)])), (a_t_score, cAI G 60 t_score), (a_t_good, cAI G 60 t_good), (a_t_bad, cAI G 60 t_bad), (a_t_open, cAI G 60 t_open), (a_t_costs, cAI G 3 t_costs)] → lv_has ls 3 [(0, .ref a_t), (1, .int (kI x1)), (2, .int (kI y2))] → W p l e (rmD 1 0 0) s m args below meth c H locs 0 0 (MQ below (QcI G A r [(a_t, .inr (6, [.ref a_t_score, .ref a_t_good, .ref a_t_bad, .ref a_t_open, .ref a_t_costs, .int (kI t_ats), .int (kI t_lines), .int (kI t_least), .int (kI t_most), .int (kI t_faultKind), .int (kI t_faultPlace), .int (kI t_toldLines), .int (kI t_kind), .int (kI t_start), .int (kI t_next), .int (kI t_number)])), (a_t_score, cAI G 60 t_score), (a_t_good, cAI G 60 t_good), (a_t_bad, cAI G 60 t_bad), (a_t_open, cAI G 60 t_open), (a_t_costs, cAI G 3 t_costs)]) args s (rmD 1 0 0).cells (rmD 1 0 0).slots A) (F0 m 2 ls []) := by
  intro n
  induction n with
  | zero => intro y2 h; exact nomatch h
  | succ n ih =>
    intro y2 h H locs ls hw hl
    rw [m_X7_isTold_b2] at h
    obtain ⟨⟨hx, hb, -, -, -⟩, -⟩ := id cx
    refine lv_iload_n hx hb dX7_isTold_2 rfl (lv_at hl 2 rfl) ?_
    refine lv_aload_n hx hb dX7_isTold_3 rfl (lv_at hl 0 rfl) ?_
    refine rf_get hx hb cx hw 0 rfl rfl 5 inX7 (by decide) fl_X7_55 rfl rfl dX7_isTold_4 ?_
    obtain ⟨g1, h⟩ := gd_some h
    obtain ⟨g2, h⟩ := gd_some h
    refine ri_icmp_ge (tgt := 28) hx hb g1 g2 dX7_isTold_7 (by decide) (fun c3 => ?_) (fun c3 => ?_)
    · have h := it_pos c3 h
      refine ri_iconst hx hb dX7_isTold_28 ?_
      obtain rfl := so_inj h
      exact re_z (by decide)  hx hb hlk hr cx hw (Nat.le_of_ble_eq_true rfl) (Nat.le_of_ble_eq_true rfl) dX7_isTold_29
    · have h := it_neg c3 h
      refine lv_aload_n hx hb dX7_isTold_10 rfl (lv_at hl 0 rfl) ?_
      refine rf_get hx hb cx hw 0 rfl rfl 0 inX7 (by decide) fl_X7_9 rfl rfl dX7_isTold_11 ?_
      refine lv_iload_n hx hb dX7_isTold_14 rfl (lv_at hl 2 rfl) ?_
      obtain ⟨g4, h⟩ := gd_some h
      refine ra_i hx hb cx hw 1 rfl (by decide) g4 dX7_isTold_15 ?_
      refine lv_iload_n hx hb dX7_isTold_16 rfl (lv_at hl 1 rfl) ?_
      obtain ⟨g5, h⟩ := gd_some h
      obtain ⟨g6, h⟩ := gd_some h
      refine ri_icmp_ne (tgt := 22) hx hb g5 g6 dX7_isTold_17 (by decide) (fun c7 => ?_) (fun c7 => ?_)
      · have h := it_pos c7 h
        refine ri_iconst hx hb dX7_isTold_20 ?_
        obtain rfl := so_inj h
        exact re_z (by decide)  hx hb hlk hr cx hw (Nat.le_of_ble_eq_true rfl) (Nat.le_of_ble_eq_true rfl) dX7_isTold_21
      · have h := it_neg c7 h
        refine lv_iinc (v := kI (y2 + 1)) (lv' := [(2, .int (kI (y2 + 1))), (0, .ref a_t), (1, .int (kI x1))]) hx hb dX7_isTold_22 hl (k := 2) rfl (kI_add _ _) (by decide) rfl (fun ls hl => ?_)
        refine lv_goto (tgt := 2) hx hb dX7_isTold_25 (by decide) ?_
        exact ih (y2 + 1) h _ _ _ hw (lv_sub hl [1, 2, 0] rfl)
set_option maxHeartbeats 4000000 in
set_option maxRecDepth 100000 in
theorem c_X7_isTold (l : Launch) (G : GG) (sz : Nat) (N : Nat) (a_t a_t_score a_t_good a_t_bad a_t_open a_t_costs : Nat) (t_ats : Int) (t_lines : Int) (t_least : Int) (t_most : Int) (t_faultKind : Int) (t_faultPlace : Int) (t_toldLines : Int) (t_kind : Int) (t_start : Int) (t_next : Int) (t_number : Int) (t_score : Int → Int) (t_good : Int → Int) (t_bad : Int → Int) (t_open : Int → Int) (t_costs : Int → Int) (x1 : Int) (r : Int) (h : m_X7_isTold N t_ats t_score x1 = some r) : CtI l yX7_isTold cX7_isTold 3 .boolean (rmD 1 0 0) G sz [.ref a_t, .int (kI x1)] [(a_t, .inr (6, [.ref a_t_score, .ref a_t_good, .ref a_t_bad, .ref a_t_open, .ref a_t_costs, .int (kI t_ats), .int (kI t_lines), .int (kI t_least), .int (kI t_most), .int (kI t_faultKind), .int (kI t_faultPlace), .int (kI t_toldLines), .int (kI t_kind), .int (kI t_start), .int (kI t_next), .int (kI t_number)])), (a_t_score, cAI G 60 t_score), (a_t_good, cAI G 60 t_good), (a_t_bad, cAI G 60 t_bad), (a_t_open, cAI G 60 t_open), (a_t_costs, cAI G 3 t_costs)] r [(a_t, .inr (6, [.ref a_t_score, .ref a_t_good, .ref a_t_bad, .ref a_t_open, .ref a_t_costs, .int (kI t_ats), .int (kI t_lines), .int (kI t_least), .int (kI t_most), .int (kI t_faultKind), .int (kI t_faultPlace), .int (kI t_toldLines), .int (kI t_kind), .int (kI t_start), .int (kI t_next), .int (kI t_number)])), (a_t_score, cAI G 60 t_score), (a_t_good, cAI G 60 t_good), (a_t_bad, cAI G 60 t_bad), (a_t_open, cAI G 60 t_open), (a_t_costs, cAI G 3 t_costs)] := by
  refine met_of (Qc := fun A => QcI G A r [(a_t, .inr (6, [.ref a_t_score, .ref a_t_good, .ref a_t_bad, .ref a_t_open, .ref a_t_costs, .int (kI t_ats), .int (kI t_lines), .int (kI t_least), .int (kI t_most), .int (kI t_faultKind), .int (kI t_faultPlace), .int (kI t_toldLines), .int (kI t_kind), .int (kI t_start), .int (kI t_next), .int (kI t_number)])), (a_t_score, cAI G 60 t_score), (a_t_good, cAI G 60 t_good), (a_t_bad, cAI G 60 t_bad), (a_t_open, cAI G 60 t_open), (a_t_costs, cAI G 3 t_costs)]) (by decide +kernel) (Nat.le_of_ble_eq_true rfl) ?_
  intro p e s m args below meth c A H locs ls cx hw hr hlk hnm hl
  have hl : lv_has ls 3 [(0, .ref a_t), (1, .int (kI x1))] := hl
  rw [m_X7_isTold] at h
  obtain ⟨⟨hx, hb, -, -, -⟩, -⟩ := id cx
  refine ri_iconst hx hb dX7_isTold_0 ?_
  refine lv_istore_n (lv' := [(2, .int (kI 0)), (0, .ref a_t), (1, .int (kI x1))]) hx hb dX7_isTold_1 rfl hl (by decide) rfl (fun ls hl => ?_)
  exact w_X7_isTold_b2 cx hlk hr N a_t a_t_score a_t_good a_t_bad a_t_open a_t_costs t_ats t_lines t_least t_most t_faultKind t_faultPlace t_toldLines t_kind t_start t_next t_number t_score t_good t_bad t_open t_costs x1 r N 0 h _ _ _ hw (lv_sub hl [1, 2, 0] rfl)
set_option maxHeartbeats 4000000 in
set_option maxRecDepth 100000 in
theorem w_X7_tellOnce_b14 {p : Program} {l : Launch} {e : Env} {s : State} {m : MethodId} {args : Array Value} {below : List Frame} {meth : Method} {c : Code} {A : Nat → Prop} {G : GG} (cx : CX p s m args c cX7_tellOnce RX7 2 G) (hlk : meth.locks = false) (hr : meth.sig.returnType = none) (N : Nat) (a_t a_t_score a_t_good a_t_bad a_t_open a_t_costs : Nat) (t_ats : Int) (t_lines : Int) (t_least : Int) (t_most : Int) (t_kind : Int) (t_start : Int) (t_next : Int) (t_number : Int) (t_score : Int → Int) (t_good : Int → Int) (t_bad : Int → Int) (t_open : Int → Int) (t_costs : Int → Int) (x1 : Int) (r : Int × Int × Int) : ∀ (t_faultKind : Int) (t_faultPlace : Int) (t_toldLines : Int), m_X7_tellOnce_b14 N t_start x1 t_faultKind t_faultPlace t_toldLines = some r → ∀ (H : Heap) (locs : List Loc) (ls : Array Slot), HP G A s.heap H locs [(a_t, .inr (6, [.ref a_t_score, .ref a_t_good, .ref a_t_bad, .ref a_t_open, .ref a_t_costs, .int (kI t_ats), .int (kI t_lines), .int (kI t_least), .int (kI t_most), .int (kI t_faultKind), .int (kI t_faultPlace), .int (kI t_toldLines), .int (kI t_kind), .int (kI t_start), .int (kI t_next), .int (kI t_number)])), (a_t_score, cAI G 60 t_score), (a_t_good, cAI G 60 t_good), (a_t_bad, cAI G 60 t_bad), (a_t_open, cAI G 60 t_open), (a_t_costs, cAI G 3 t_costs)] → lv_has ls 2 [(0, .ref a_t), (1, .int (kI x1))] → W p l e (rmD 2 0 0) s m args below meth c H locs 0 0 (MQ below (QcV G A [(a_t, .inr (6, [.ref a_t_score, .ref a_t_good, .ref a_t_bad, .ref a_t_open, .ref a_t_costs, .int (kI t_ats), .int (kI t_lines), .int (kI t_least), .int (kI t_most), .int (kI r.1), .int (kI r.2.1), .int (kI r.2.2), .int (kI t_kind), .int (kI t_start), .int (kI t_next), .int (kI t_number)])), (a_t_score, cAI G 60 t_score), (a_t_good, cAI G 60 t_good), (a_t_bad, cAI G 60 t_bad), (a_t_open, cAI G 60 t_open), (a_t_costs, cAI G 3 t_costs)]) args s (rmD 2 0 0).cells (rmD 2 0 0).slots A) (F0 m 14 ls []) := by
  intro t_faultKind t_faultPlace t_toldLines h H locs ls hw hl
  rw [m_X7_tellOnce_b14] at h
  obtain ⟨⟨hx, hb, -, -, -⟩, -⟩ := id cx
  refine lv_aload_n hx hb dX7_tellOnce_14 rfl (lv_at hl 0 rfl) ?_
  refine lv_dup hx hb dX7_tellOnce_15 rfl ?_
  refine rf_get hx hb cx hw 0 rfl rfl 11 inX7 (by decide) fl_X7_64 rfl rfl dX7_tellOnce_16 ?_
  refine lv_iload_n hx hb dX7_tellOnce_19 rfl (lv_at hl 1 rfl) ?_
  refine ri_ior hx hb dX7_tellOnce_20 ?_
  refine rf_put hx hb cx hw 0 rfl rfl 11 inX7 tyX7 tyX7_ok nmX7 (by decide) fl_X7_64 rfl rfl rfl rfl (Nat.le_of_ble_eq_true rfl) dX7_tellOnce_21 (fun H locs hw => ?_)
  have hw : HP G A s.heap H locs [(a_t, .inr (6, [.ref a_t_score, .ref a_t_good, .ref a_t_bad, .ref a_t_open, .ref a_t_costs, .int (kI t_ats), .int (kI t_lines), .int (kI t_least), .int (kI t_most), .int (kI t_faultKind), .int (kI t_faultPlace), .int (kI (iOr t_toldLines x1)), .int (kI t_kind), .int (kI t_start), .int (kI t_next), .int (kI t_number)])), (a_t_score, cAI G 60 t_score), (a_t_good, cAI G 60 t_good), (a_t_bad, cAI G 60 t_bad), (a_t_open, cAI G 60 t_open), (a_t_costs, cAI G 3 t_costs)] := hw
  obtain rfl := so_inj h
  exact re_v hx hb hlk hr cx hw (Nat.le_of_ble_eq_true rfl) (Nat.le_of_ble_eq_true rfl) dX7_tellOnce_24
set_option maxHeartbeats 4000000 in
set_option maxRecDepth 100000 in
theorem c_X7_tellOnce (l : Launch) (G : GG) (sz : Nat) (N : Nat) (a_t a_t_score a_t_good a_t_bad a_t_open a_t_costs : Nat) (t_ats : Int) (t_lines : Int) (t_least : Int) (t_most : Int) (t_faultKind : Int) (t_faultPlace : Int) (t_toldLines : Int) (t_kind : Int) (t_start : Int) (t_next : Int) (t_number : Int) (t_score : Int → Int) (t_good : Int → Int) (t_bad : Int → Int) (t_open : Int → Int) (t_costs : Int → Int) (x1 : Int) (r : Int × Int × Int) (h : m_X7_tellOnce N t_start t_faultKind t_faultPlace t_toldLines x1 = some r) : CtV l yX7_tellOnce cX7_tellOnce 2 (rmD 2 0 0) G sz [.ref a_t, .int (kI x1)] [(a_t, .inr (6, [.ref a_t_score, .ref a_t_good, .ref a_t_bad, .ref a_t_open, .ref a_t_costs, .int (kI t_ats), .int (kI t_lines), .int (kI t_least), .int (kI t_most), .int (kI t_faultKind), .int (kI t_faultPlace), .int (kI t_toldLines), .int (kI t_kind), .int (kI t_start), .int (kI t_next), .int (kI t_number)])), (a_t_score, cAI G 60 t_score), (a_t_good, cAI G 60 t_good), (a_t_bad, cAI G 60 t_bad), (a_t_open, cAI G 60 t_open), (a_t_costs, cAI G 3 t_costs)] [(a_t, .inr (6, [.ref a_t_score, .ref a_t_good, .ref a_t_bad, .ref a_t_open, .ref a_t_costs, .int (kI t_ats), .int (kI t_lines), .int (kI t_least), .int (kI t_most), .int (kI r.1), .int (kI r.2.1), .int (kI r.2.2), .int (kI t_kind), .int (kI t_start), .int (kI t_next), .int (kI t_number)])), (a_t_score, cAI G 60 t_score), (a_t_good, cAI G 60 t_good), (a_t_bad, cAI G 60 t_bad), (a_t_open, cAI G 60 t_open), (a_t_costs, cAI G 3 t_costs)] := by
  refine met_of (Qc := fun A => QcV G A [(a_t, .inr (6, [.ref a_t_score, .ref a_t_good, .ref a_t_bad, .ref a_t_open, .ref a_t_costs, .int (kI t_ats), .int (kI t_lines), .int (kI t_least), .int (kI t_most), .int (kI r.1), .int (kI r.2.1), .int (kI r.2.2), .int (kI t_kind), .int (kI t_start), .int (kI t_next), .int (kI t_number)])), (a_t_score, cAI G 60 t_score), (a_t_good, cAI G 60 t_good), (a_t_bad, cAI G 60 t_bad), (a_t_open, cAI G 60 t_open), (a_t_costs, cAI G 3 t_costs)]) (by decide +kernel) (Nat.le_of_ble_eq_true rfl) ?_
  intro p e s m args below meth c A H locs ls cx hw hr hlk hnm hl
  have hl : lv_has ls 2 [(0, .ref a_t), (1, .int (kI x1))] := hl
  rw [m_X7_tellOnce] at h
  obtain ⟨⟨hx, hb, -, -, -⟩, -⟩ := id cx
  refine lv_aload_n hx hb dX7_tellOnce_0 rfl (lv_at hl 0 rfl) ?_
  refine rf_get hx hb cx hw 0 rfl rfl 11 inX7 (by decide) fl_X7_64 rfl rfl dX7_tellOnce_1 ?_
  refine lv_iload_n hx hb dX7_tellOnce_4 rfl (lv_at hl 1 rfl) ?_
  refine ri_iand hx hb dX7_tellOnce_5 ?_
  obtain ⟨g1, h⟩ := gd_some h
  refine ri_if_eq (tgt := 14) hx hb g1 dX7_tellOnce_6 (by decide) (fun c2 => ?_) (fun c2 => ?_)
  · have h := it_pos c2 h
    exact w_X7_tellOnce_b14 cx hlk hr N a_t a_t_score a_t_good a_t_bad a_t_open a_t_costs t_ats t_lines t_least t_most t_kind t_start t_next t_number t_score t_good t_bad t_open t_costs x1 r t_faultKind t_faultPlace t_toldLines h _ _ _ hw (lv_sub hl [0, 1] rfl)
  · have h := it_neg c2 h
    refine lv_aload_n hx hb dX7_tellOnce_9 rfl (lv_at hl 0 rfl) ?_
    refine ri_iconst hx hb dX7_tellOnce_10 ?_
    obtain ⟨r3, h3, h⟩ := bd_some h
    refine rc_V (w2 := [(a_t, .inr (6, [.ref a_t_score, .ref a_t_good, .ref a_t_bad, .ref a_t_open, .ref a_t_costs, .int (kI t_ats), .int (kI t_lines), .int (kI t_least), .int (kI t_most), .int (kI r3.1), .int (kI r3.2), .int (kI t_toldLines), .int (kI t_kind), .int (kI t_start), .int (kI t_next), .int (kI t_number)])), (a_t_score, cAI G 60 t_score), (a_t_good, cAI G 60 t_good), (a_t_bad, cAI G 60 t_bad), (a_t_open, cAI G 60 t_open), (a_t_costs, cAI G 3 t_costs)]) hw [0, 1, 2, 3, 4, 5] [] [0, 1, 2, 3, 4, 5] (rr_V cx hw (c_X7_fail l G H.size N a_t a_t_score a_t_good a_t_bad a_t_open a_t_costs t_ats t_lines t_least t_most t_faultKind t_faultPlace t_toldLines t_kind t_start t_next t_number t_score t_good t_bad t_open t_costs 3 _ h3) mv_X7_48 [0, 1, 2, 3, 4, 5] rfl rfl rfl 0 rfl rfl ⟨Nat.le_of_ble_eq_true rfl, Nat.le_of_ble_eq_true rfl⟩ rfl hl.1 rfl (Nat.le_of_ble_eq_true rfl) dX7_tellOnce_11 ⟨Nat.le_of_ble_eq_true rfl, Nat.le_of_ble_eq_true rfl⟩) rfl rfl rfl rfl rfl rfl rfl rfl (fun H locs hw => ?_)
    exact w_X7_tellOnce_b14 cx hlk hr N a_t a_t_score a_t_good a_t_bad a_t_open a_t_costs t_ats t_lines t_least t_most t_kind t_start t_next t_number t_score t_good t_bad t_open t_costs x1 r r3.1 r3.2 t_toldLines h _ _ _ hw (lv_sub hl [0, 1] rfl)
set_option maxHeartbeats 4000000 in
set_option maxRecDepth 100000 in
theorem w_X8_sumUp_b2 {p : Program} {l : Launch} {e : Env} {s : State} {m : MethodId} {args : Array Value} {below : List Frame} {meth : Method} {c : Code} {A : Nat → Prop} {G : GG} (cx : CX p s m args c cX8_sumUp RX8 2 G) (hlk : meth.locks = false) (hr : meth.sig.returnType = none) (N : Nat) (a_t a_t_score a_t_good a_t_bad a_t_goodAhead a_t_badAhead : Nat) (t_size : Int) (t_score : Int → Int) (t_good : Int → Int) (t_bad : Int → Int) (r : (Int → Int) × (Int → Int)) : ∀ n : Nat, ∀ (t_goodAhead : Int → Int) (t_badAhead : Int → Int) (y1 : Int), m_X8_sumUp_b2 N t_size t_good t_bad n t_goodAhead t_badAhead y1 = some r → ∀ (H : Heap) (locs : List Loc) (ls : Array Slot), HP G A s.heap H locs [(a_t, .inr (7, [.ref a_t_score, .ref a_t_good, .ref a_t_bad, .ref a_t_goodAhead, .ref a_t_badAhead, .int (kI t_size)])), (a_t_score, cAI G 60 t_score), (a_t_good, cAI G 60 t_good), (a_t_bad, cAI G 60 t_bad), (a_t_goodAhead, cAI G 61 t_goodAhead), (a_t_badAhead, cAI G 61 t_badAhead)] → lv_has ls 2 [(0, .ref a_t), (1, .int (kI y1))] → W p l e (rmD 1 0 0) s m args below meth c H locs 0 0 (MQ below (QcV G A [(a_t, .inr (7, [.ref a_t_score, .ref a_t_good, .ref a_t_bad, .ref a_t_goodAhead, .ref a_t_badAhead, .int (kI t_size)])), (a_t_score, cAI G 60 t_score), (a_t_good, cAI G 60 t_good), (a_t_bad, cAI G 60 t_bad), (a_t_goodAhead, cAI G 61 r.1), (a_t_badAhead, cAI G 61 r.2)]) args s (rmD 1 0 0).cells (rmD 1 0 0).slots A) (F0 m 2 ls []) := by
  intro n
  induction n with
  | zero => intro t_goodAhead t_badAhead y1 h; exact nomatch h
  | succ n ih =>
    intro t_goodAhead t_badAhead y1 h H locs ls hw hl
    rw [m_X8_sumUp_b2] at h
    obtain ⟨⟨hx, hb, -, -, -⟩, -⟩ := id cx
    refine lv_iload_n hx hb dX8_sumUp_2 rfl (lv_at hl 1 rfl) ?_
    refine lv_aload_n hx hb dX8_sumUp_3 rfl (lv_at hl 0 rfl) ?_
    refine rf_get hx hb cx hw 0 rfl rfl 5 inX8 (by decide) fl_X8_27 rfl rfl dX8_sumUp_4 ?_
    obtain ⟨g1, h⟩ := gd_some h
    obtain ⟨g2, h⟩ := gd_some h
    refine ri_icmp_ge (tgt := 58) hx hb g1 g2 dX8_sumUp_7 (by decide) (fun c3 => ?_) (fun c3 => ?_)
    · have h := it_pos c3 h
      obtain rfl := so_inj h
      exact re_v hx hb hlk hr cx hw (Nat.le_of_ble_eq_true rfl) (Nat.le_of_ble_eq_true rfl) dX8_sumUp_58
    · have h := it_neg c3 h
      refine lv_aload_n hx hb dX8_sumUp_10 rfl (lv_at hl 0 rfl) ?_
      refine rf_get hx hb cx hw 0 rfl rfl 3 inX8 (by decide) fl_X8_21 rfl rfl dX8_sumUp_11 ?_
      refine lv_iload_n hx hb dX8_sumUp_14 rfl (lv_at hl 1 rfl) ?_
      refine ri_iconst hx hb dX8_sumUp_15 ?_
      refine ri_iadd hx hb dX8_sumUp_16 ?_
      refine lv_aload_n hx hb dX8_sumUp_17 rfl (lv_at hl 0 rfl) ?_
      refine rf_get hx hb cx hw 0 rfl rfl 3 inX8 (by decide) fl_X8_21 rfl rfl dX8_sumUp_18 ?_
      refine lv_iload_n hx hb dX8_sumUp_21 rfl (lv_at hl 1 rfl) ?_
      obtain ⟨g4, h⟩ := gd_some h
      refine ra_i hx hb cx hw 4 rfl (by decide) g4 dX8_sumUp_22 ?_
      refine lv_aload_n hx hb dX8_sumUp_23 rfl (lv_at hl 0 rfl) ?_
      refine rf_get hx hb cx hw 0 rfl rfl 1 inX8 (by decide) fl_X8_15 rfl rfl dX8_sumUp_24 ?_
      refine lv_iload_n hx hb dX8_sumUp_27 rfl (lv_at hl 1 rfl) ?_
      obtain ⟨g5, h⟩ := gd_some h
      refine ra_i hx hb cx hw 2 rfl (by decide) g5 dX8_sumUp_28 ?_
      refine ri_iadd hx hb dX8_sumUp_29 ?_
      obtain ⟨g6, h⟩ := gd_some h
      refine ra_si hx hb cx hw 4 rfl (by decide) g6 dX8_sumUp_30 (fun H locs hw => ?_)
      have hw : HP G A s.heap H locs [(a_t, .inr (7, [.ref a_t_score, .ref a_t_good, .ref a_t_bad, .ref a_t_goodAhead, .ref a_t_badAhead, .int (kI t_size)])), (a_t_score, cAI G 60 t_score), (a_t_good, cAI G 60 t_good), (a_t_bad, cAI G 60 t_bad), (a_t_goodAhead, cAI G 61 (uP t_goodAhead (y1 + 1) ((t_goodAhead y1) + (t_good y1)))), (a_t_badAhead, cAI G 61 t_badAhead)] := hw
      refine lv_aload_n hx hb dX8_sumUp_31 rfl (lv_at hl 0 rfl) ?_
      refine rf_get hx hb cx hw 0 rfl rfl 4 inX8 (by decide) fl_X8_24 rfl rfl dX8_sumUp_32 ?_
      refine lv_iload_n hx hb dX8_sumUp_35 rfl (lv_at hl 1 rfl) ?_
      refine ri_iconst hx hb dX8_sumUp_36 ?_
      refine ri_iadd hx hb dX8_sumUp_37 ?_
      refine lv_aload_n hx hb dX8_sumUp_38 rfl (lv_at hl 0 rfl) ?_
      refine rf_get hx hb cx hw 0 rfl rfl 4 inX8 (by decide) fl_X8_24 rfl rfl dX8_sumUp_39 ?_
      refine lv_iload_n hx hb dX8_sumUp_42 rfl (lv_at hl 1 rfl) ?_
      refine ra_i hx hb cx hw 5 rfl (by decide) g4 dX8_sumUp_43 ?_
      refine lv_aload_n hx hb dX8_sumUp_44 rfl (lv_at hl 0 rfl) ?_
      refine rf_get hx hb cx hw 0 rfl rfl 2 inX8 (by decide) fl_X8_18 rfl rfl dX8_sumUp_45 ?_
      refine lv_iload_n hx hb dX8_sumUp_48 rfl (lv_at hl 1 rfl) ?_
      refine ra_i hx hb cx hw 3 rfl (by decide) g5 dX8_sumUp_49 ?_
      refine ri_iadd hx hb dX8_sumUp_50 ?_
      refine ra_si hx hb cx hw 5 rfl (by decide) g6 dX8_sumUp_51 (fun H locs hw => ?_)
      have hw : HP G A s.heap H locs [(a_t, .inr (7, [.ref a_t_score, .ref a_t_good, .ref a_t_bad, .ref a_t_goodAhead, .ref a_t_badAhead, .int (kI t_size)])), (a_t_score, cAI G 60 t_score), (a_t_good, cAI G 60 t_good), (a_t_bad, cAI G 60 t_bad), (a_t_goodAhead, cAI G 61 (uP t_goodAhead (y1 + 1) ((t_goodAhead y1) + (t_good y1)))), (a_t_badAhead, cAI G 61 (uP t_badAhead (y1 + 1) ((t_badAhead y1) + (t_bad y1))))] := hw
      refine lv_iinc (v := kI (y1 + 1)) (lv' := [(1, .int (kI (y1 + 1))), (0, .ref a_t)]) hx hb dX8_sumUp_52 hl (k := 1) rfl (kI_add _ _) (by decide) rfl (fun ls hl => ?_)
      refine lv_goto (tgt := 2) hx hb dX8_sumUp_55 (by decide) ?_
      exact ih (uP t_goodAhead (y1 + 1) ((t_goodAhead y1) + (t_good y1))) (uP t_badAhead (y1 + 1) ((t_badAhead y1) + (t_bad y1))) (y1 + 1) h _ _ _ hw (lv_sub hl [1, 0] rfl)
set_option maxHeartbeats 4000000 in
set_option maxRecDepth 100000 in
theorem c_X8_sumUp (l : Launch) (G : GG) (sz : Nat) (N : Nat) (a_t a_t_score a_t_good a_t_bad a_t_goodAhead a_t_badAhead : Nat) (t_size : Int) (t_score : Int → Int) (t_good : Int → Int) (t_bad : Int → Int) (t_goodAhead : Int → Int) (t_badAhead : Int → Int)  (r : (Int → Int) × (Int → Int)) (h : m_X8_sumUp N t_size t_good t_bad t_goodAhead t_badAhead = some r) : CtV l yX8_sumUp cX8_sumUp 2 (rmD 1 0 0) G sz [.ref a_t] [(a_t, .inr (7, [.ref a_t_score, .ref a_t_good, .ref a_t_bad, .ref a_t_goodAhead, .ref a_t_badAhead, .int (kI t_size)])), (a_t_score, cAI G 60 t_score), (a_t_good, cAI G 60 t_good), (a_t_bad, cAI G 60 t_bad), (a_t_goodAhead, cAI G 61 t_goodAhead), (a_t_badAhead, cAI G 61 t_badAhead)] [(a_t, .inr (7, [.ref a_t_score, .ref a_t_good, .ref a_t_bad, .ref a_t_goodAhead, .ref a_t_badAhead, .int (kI t_size)])), (a_t_score, cAI G 60 t_score), (a_t_good, cAI G 60 t_good), (a_t_bad, cAI G 60 t_bad), (a_t_goodAhead, cAI G 61 r.1), (a_t_badAhead, cAI G 61 r.2)] := by
  refine met_of (Qc := fun A => QcV G A [(a_t, .inr (7, [.ref a_t_score, .ref a_t_good, .ref a_t_bad, .ref a_t_goodAhead, .ref a_t_badAhead, .int (kI t_size)])), (a_t_score, cAI G 60 t_score), (a_t_good, cAI G 60 t_good), (a_t_bad, cAI G 60 t_bad), (a_t_goodAhead, cAI G 61 r.1), (a_t_badAhead, cAI G 61 r.2)]) (by decide +kernel) (Nat.le_of_ble_eq_true rfl) ?_
  intro p e s m args below meth c A H locs ls cx hw hr hlk hnm hl
  have hl : lv_has ls 2 [(0, .ref a_t)] := hl
  rw [m_X8_sumUp] at h
  obtain ⟨⟨hx, hb, -, -, -⟩, -⟩ := id cx
  refine ri_iconst hx hb dX8_sumUp_0 ?_
  refine lv_istore_n (lv' := [(1, .int (kI 0)), (0, .ref a_t)]) hx hb dX8_sumUp_1 rfl hl (by decide) rfl (fun ls hl => ?_)
  exact w_X8_sumUp_b2 cx hlk hr N a_t a_t_score a_t_good a_t_bad a_t_goodAhead a_t_badAhead t_size t_score t_good t_bad r N t_goodAhead t_badAhead 0 h _ _ _ hw (lv_sub hl [1, 0] rfl)
set_option maxHeartbeats 4000000 in
set_option maxRecDepth 100000 in
theorem w_X8_fill_b89 {p : Program} {l : Launch} {e : Env} {s : State} {m : MethodId} {args : Array Value} {below : List Frame} {meth : Method} {c : Code} {A : Nat → Prop} {G : GG} (cx : CX p s m args c cX8_fill RX8 3 G) (hlk : meth.locks = false) (hr : meth.sig.returnType = none) (N : Nat) (a_t a_t_score a_t_good a_t_bad a_t_goodAhead a_t_badAhead a_p1 a_p1_good a_p1_bad a_p1_open : Nat) (p1_least : Int) (p1_most : Int) (p1_goodCost : Int) (p1_badCost : Int) (p1_referCost : Int) (p1_good : Int → Int) (p1_bad : Int → Int) (p1_open : Int → Int) (r : Int × (Int → Int) × (Int → Int) × (Int → Int) × (Int → Int) × (Int → Int)) (k7 : Int → (Int → Int) → (Int → Int) → (Int → Int) → (Int → Int) → (Int → Int) → Int → Option (Int × (Int → Int) × (Int → Int) × (Int → Int) × (Int → Int) × (Int → Int))) (hk7 : ∀ (t_size : Int) (t_score : Int → Int) (t_good : Int → Int) (t_bad : Int → Int) (t_goodAhead : Int → Int) (t_badAhead : Int → Int) (y2 : Int), k7 t_size t_score t_good t_bad t_goodAhead t_badAhead y2 = some r → ∀ (H : Heap) (locs : List Loc) (ls : Array Slot), HP G A s.heap H locs [(a_t, .inr (7, [.ref a_t_score, .ref a_t_good, .ref a_t_bad, .ref a_t_goodAhead, .ref a_t_badAhead, .int (kI t_size)])), (a_t_score, cAI G 60 t_score), (a_t_good, cAI G 60 t_good), (a_t_bad, cAI G 60 t_bad), (a_t_goodAhead, cAI G 61 t_goodAhead), (a_t_badAhead, cAI G 61 t_badAhead), (a_p1, .inr (5, [.ref a_p1_good, .ref a_p1_bad, .ref a_p1_open, .int (kI p1_least), .int (kI p1_most), .int (kI p1_goodCost), .int (kI p1_badCost), .int (kI p1_referCost)])), (a_p1_good, cAI G 1000 p1_good), (a_p1_bad, cAI G 1000 p1_bad), (a_p1_open, cAI G 1000 p1_open)] → lv_has ls 3 [(0, .ref a_t), (1, .ref a_p1), (2, .int (kI y2))] → W p l e (rmD 2 0 0) s m args below meth c H locs 0 0 (MQ below (QcV G A [(a_t, .inr (7, [.ref a_t_score, .ref a_t_good, .ref a_t_bad, .ref a_t_goodAhead, .ref a_t_badAhead, .int (kI r.1)])), (a_t_score, cAI G 60 r.2.1), (a_t_good, cAI G 60 r.2.2.1), (a_t_bad, cAI G 60 r.2.2.2.1), (a_t_goodAhead, cAI G 61 r.2.2.2.2.1), (a_t_badAhead, cAI G 61 r.2.2.2.2.2), (a_p1, .inr (5, [.ref a_p1_good, .ref a_p1_bad, .ref a_p1_open, .int (kI p1_least), .int (kI p1_most), .int (kI p1_goodCost), .int (kI p1_badCost), .int (kI p1_referCost)])), (a_p1_good, cAI G 1000 p1_good), (a_p1_bad, cAI G 1000 p1_bad), (a_p1_open, cAI G 1000 p1_open)]) args s (rmD 2 0 0).cells (rmD 2 0 0).slots A) (F0 m 7 ls [])) : ∀ (t_size : Int) (t_score : Int → Int) (t_good : Int → Int) (t_bad : Int → Int) (t_goodAhead : Int → Int) (t_badAhead : Int → Int) (y2 : Int), m_X8_fill_b89 N p1_good p1_bad k7 t_size t_score t_good t_bad t_goodAhead t_badAhead y2 = some r → ∀ (H : Heap) (locs : List Loc) (ls : Array Slot), HP G A s.heap H locs [(a_t, .inr (7, [.ref a_t_score, .ref a_t_good, .ref a_t_bad, .ref a_t_goodAhead, .ref a_t_badAhead, .int (kI t_size)])), (a_t_score, cAI G 60 t_score), (a_t_good, cAI G 60 t_good), (a_t_bad, cAI G 60 t_bad), (a_t_goodAhead, cAI G 61 t_goodAhead), (a_t_badAhead, cAI G 61 t_badAhead), (a_p1, .inr (5, [.ref a_p1_good, .ref a_p1_bad, .ref a_p1_open, .int (kI p1_least), .int (kI p1_most), .int (kI p1_goodCost), .int (kI p1_badCost), .int (kI p1_referCost)])), (a_p1_good, cAI G 1000 p1_good), (a_p1_bad, cAI G 1000 p1_bad), (a_p1_open, cAI G 1000 p1_open)] → lv_has ls 3 [(0, .ref a_t), (1, .ref a_p1), (2, .int (kI y2))] → W p l e (rmD 2 0 0) s m args below meth c H locs 0 0 (MQ below (QcV G A [(a_t, .inr (7, [.ref a_t_score, .ref a_t_good, .ref a_t_bad, .ref a_t_goodAhead, .ref a_t_badAhead, .int (kI r.1)])), (a_t_score, cAI G 60 r.2.1), (a_t_good, cAI G 60 r.2.2.1), (a_t_bad, cAI G 60 r.2.2.2.1), (a_t_goodAhead, cAI G 61 r.2.2.2.2.1), (a_t_badAhead, cAI G 61 r.2.2.2.2.2), (a_p1, .inr (5, [.ref a_p1_good, .ref a_p1_bad, .ref a_p1_open, .int (kI p1_least), .int (kI p1_most), .int (kI p1_goodCost), .int (kI p1_badCost), .int (kI p1_referCost)])), (a_p1_good, cAI G 1000 p1_good), (a_p1_bad, cAI G 1000 p1_bad), (a_p1_open, cAI G 1000 p1_open)]) args s (rmD 2 0 0).cells (rmD 2 0 0).slots A) (F0 m 89 ls []) := by
  intro t_size t_score t_good t_bad t_goodAhead t_badAhead y2 h H locs ls hw hl
  rw [m_X8_fill_b89] at h
  obtain ⟨⟨hx, hb, -, -, -⟩, -⟩ := id cx
  refine lv_iinc (v := kI (y2 + 1)) (lv' := [(2, .int (kI (y2 + 1))), (0, .ref a_t), (1, .ref a_p1)]) hx hb dX8_fill_89 hl (k := 2) rfl (kI_add _ _) (by decide) rfl (fun ls hl => ?_)
  refine lv_goto (tgt := 7) hx hb dX8_fill_92 (by decide) ?_
  exact hk7 t_size t_score t_good t_bad t_goodAhead t_badAhead (y2 + 1) h _ _ _ hw (lv_sub hl [1, 2, 0] rfl)
set_option maxHeartbeats 4000000 in
set_option maxRecDepth 100000 in
theorem w_X8_fill_b95 {p : Program} {l : Launch} {e : Env} {s : State} {m : MethodId} {args : Array Value} {below : List Frame} {meth : Method} {c : Code} {A : Nat → Prop} {G : GG} (cx : CX p s m args c cX8_fill RX8 3 G) (hlk : meth.locks = false) (hr : meth.sig.returnType = none) (N : Nat) (a_t a_t_score a_t_good a_t_bad a_t_goodAhead a_t_badAhead a_p1 a_p1_good a_p1_bad a_p1_open : Nat) (p1_least : Int) (p1_most : Int) (p1_goodCost : Int) (p1_badCost : Int) (p1_referCost : Int) (p1_good : Int → Int) (p1_bad : Int → Int) (p1_open : Int → Int) (r : Int × (Int → Int) × (Int → Int) × (Int → Int) × (Int → Int) × (Int → Int)) : ∀ (t_size : Int) (t_score : Int → Int) (t_good : Int → Int) (t_bad : Int → Int) (t_goodAhead : Int → Int) (t_badAhead : Int → Int), m_X8_fill_b95 N p1_good p1_bad t_size t_score t_good t_bad t_goodAhead t_badAhead = some r → ∀ (H : Heap) (locs : List Loc) (ls : Array Slot), HP G A s.heap H locs [(a_t, .inr (7, [.ref a_t_score, .ref a_t_good, .ref a_t_bad, .ref a_t_goodAhead, .ref a_t_badAhead, .int (kI t_size)])), (a_t_score, cAI G 60 t_score), (a_t_good, cAI G 60 t_good), (a_t_bad, cAI G 60 t_bad), (a_t_goodAhead, cAI G 61 t_goodAhead), (a_t_badAhead, cAI G 61 t_badAhead), (a_p1, .inr (5, [.ref a_p1_good, .ref a_p1_bad, .ref a_p1_open, .int (kI p1_least), .int (kI p1_most), .int (kI p1_goodCost), .int (kI p1_badCost), .int (kI p1_referCost)])), (a_p1_good, cAI G 1000 p1_good), (a_p1_bad, cAI G 1000 p1_bad), (a_p1_open, cAI G 1000 p1_open)] → lv_has ls 3 [(0, .ref a_t)] → W p l e (rmD 2 0 0) s m args below meth c H locs 0 0 (MQ below (QcV G A [(a_t, .inr (7, [.ref a_t_score, .ref a_t_good, .ref a_t_bad, .ref a_t_goodAhead, .ref a_t_badAhead, .int (kI r.1)])), (a_t_score, cAI G 60 r.2.1), (a_t_good, cAI G 60 r.2.2.1), (a_t_bad, cAI G 60 r.2.2.2.1), (a_t_goodAhead, cAI G 61 r.2.2.2.2.1), (a_t_badAhead, cAI G 61 r.2.2.2.2.2), (a_p1, .inr (5, [.ref a_p1_good, .ref a_p1_bad, .ref a_p1_open, .int (kI p1_least), .int (kI p1_most), .int (kI p1_goodCost), .int (kI p1_badCost), .int (kI p1_referCost)])), (a_p1_good, cAI G 1000 p1_good), (a_p1_bad, cAI G 1000 p1_bad), (a_p1_open, cAI G 1000 p1_open)]) args s (rmD 2 0 0).cells (rmD 2 0 0).slots A) (F0 m 95 ls []) := by
  intro t_size t_score t_good t_bad t_goodAhead t_badAhead h H locs ls hw hl
  rw [m_X8_fill_b95] at h
  obtain ⟨⟨hx, hb, -, -, -⟩, -⟩ := id cx
  refine lv_aload_n hx hb dX8_fill_95 rfl (lv_at hl 0 rfl) ?_
  obtain ⟨r1, h1, h⟩ := bd_some h
  refine rc_V (w2 := [(a_t, .inr (7, [.ref a_t_score, .ref a_t_good, .ref a_t_bad, .ref a_t_goodAhead, .ref a_t_badAhead, .int (kI t_size)])), (a_t_score, cAI G 60 t_score), (a_t_good, cAI G 60 t_good), (a_t_bad, cAI G 60 t_bad), (a_t_goodAhead, cAI G 61 r1.1), (a_t_badAhead, cAI G 61 r1.2), (a_p1, .inr (5, [.ref a_p1_good, .ref a_p1_bad, .ref a_p1_open, .int (kI p1_least), .int (kI p1_most), .int (kI p1_goodCost), .int (kI p1_badCost), .int (kI p1_referCost)])), (a_p1_good, cAI G 1000 p1_good), (a_p1_bad, cAI G 1000 p1_bad), (a_p1_open, cAI G 1000 p1_open)]) hw [0, 1, 2, 3, 4, 5] [6, 7, 8, 9] [4, 5, 6, 7, 8, 9, 0, 1, 2, 3] (rr_V cx hw (c_X8_sumUp l G H.size N a_t a_t_score a_t_good a_t_bad a_t_goodAhead a_t_badAhead t_size t_score t_good t_bad t_goodAhead t_badAhead _ h1) mv_X8_35 [0, 1, 2, 3, 4, 5] rfl rfl rfl 0 rfl rfl ⟨Nat.le_of_ble_eq_true rfl, Nat.le_of_ble_eq_true rfl⟩ rfl hl.1 rfl (Nat.le_of_ble_eq_true rfl) dX8_fill_96 ⟨Nat.le_of_ble_eq_true rfl, Nat.le_of_ble_eq_true rfl⟩) rfl rfl rfl rfl rfl rfl rfl rfl (fun H locs hw => ?_)
  obtain rfl := so_inj h
  exact re_v hx hb hlk hr cx hw (Nat.le_of_ble_eq_true rfl) (Nat.le_of_ble_eq_true rfl) dX8_fill_99
set_option maxHeartbeats 4000000 in
set_option maxRecDepth 100000 in
theorem w_X8_fill_b7 {p : Program} {l : Launch} {e : Env} {s : State} {m : MethodId} {args : Array Value} {below : List Frame} {meth : Method} {c : Code} {A : Nat → Prop} {G : GG} (cx : CX p s m args c cX8_fill RX8 3 G) (hlk : meth.locks = false) (hr : meth.sig.returnType = none) (N : Nat) (a_t a_t_score a_t_good a_t_bad a_t_goodAhead a_t_badAhead a_p1 a_p1_good a_p1_bad a_p1_open : Nat) (p1_least : Int) (p1_most : Int) (p1_goodCost : Int) (p1_badCost : Int) (p1_referCost : Int) (p1_good : Int → Int) (p1_bad : Int → Int) (p1_open : Int → Int) (r : Int × (Int → Int) × (Int → Int) × (Int → Int) × (Int → Int) × (Int → Int)) : ∀ n : Nat, ∀ (t_size : Int) (t_score : Int → Int) (t_good : Int → Int) (t_bad : Int → Int) (t_goodAhead : Int → Int) (t_badAhead : Int → Int) (y2 : Int), m_X8_fill_b7 N p1_good p1_bad n t_size t_score t_good t_bad t_goodAhead t_badAhead y2 = some r → ∀ (H : Heap) (locs : List Loc) (ls : Array Slot), HP G A s.heap H locs [(a_t, .inr (7, [.ref a_t_score, .ref a_t_good, .ref a_t_bad, .ref a_t_goodAhead, .ref a_t_badAhead, .int (kI t_size)])), (a_t_score, cAI G 60 t_score), (a_t_good, cAI G 60 t_good), (a_t_bad, cAI G 60 t_bad), (a_t_goodAhead, cAI G 61 t_goodAhead), (a_t_badAhead, cAI G 61 t_badAhead), (a_p1, .inr (5, [.ref a_p1_good, .ref a_p1_bad, .ref a_p1_open, .int (kI p1_least), .int (kI p1_most), .int (kI p1_goodCost), .int (kI p1_badCost), .int (kI p1_referCost)])), (a_p1_good, cAI G 1000 p1_good), (a_p1_bad, cAI G 1000 p1_bad), (a_p1_open, cAI G 1000 p1_open)] → lv_has ls 3 [(0, .ref a_t), (1, .ref a_p1), (2, .int (kI y2))] → W p l e (rmD 2 0 0) s m args below meth c H locs 0 0 (MQ below (QcV G A [(a_t, .inr (7, [.ref a_t_score, .ref a_t_good, .ref a_t_bad, .ref a_t_goodAhead, .ref a_t_badAhead, .int (kI r.1)])), (a_t_score, cAI G 60 r.2.1), (a_t_good, cAI G 60 r.2.2.1), (a_t_bad, cAI G 60 r.2.2.2.1), (a_t_goodAhead, cAI G 61 r.2.2.2.2.1), (a_t_badAhead, cAI G 61 r.2.2.2.2.2), (a_p1, .inr (5, [.ref a_p1_good, .ref a_p1_bad, .ref a_p1_open, .int (kI p1_least), .int (kI p1_most), .int (kI p1_goodCost), .int (kI p1_badCost), .int (kI p1_referCost)])), (a_p1_good, cAI G 1000 p1_good), (a_p1_bad, cAI G 1000 p1_bad), (a_p1_open, cAI G 1000 p1_open)]) args s (rmD 2 0 0).cells (rmD 2 0 0).slots A) (F0 m 7 ls []) := by
  intro n
  induction n with
  | zero => intro t_size t_score t_good t_bad t_goodAhead t_badAhead y2 h; exact nomatch h
  | succ n ih =>
    intro t_size t_score t_good t_bad t_goodAhead t_badAhead y2 h H locs ls hw hl
    rw [m_X8_fill_b7] at h
    obtain ⟨⟨hx, hb, -, -, -⟩, -⟩ := id cx
    refine lv_iload_n hx hb dX8_fill_7 rfl (lv_at hl 2 rfl) ?_
    refine ri_sipush hx hb dX8_fill_8 rfl ?_
    obtain ⟨g1, h⟩ := gd_some h
    refine ri_icmp_ge (tgt := 95) hx hb g1 ⟨by decide, by decide⟩ dX8_fill_11 (by decide) (fun c2 => ?_) (fun c2 => ?_)
    · have h := it_pos c2 h
      exact w_X8_fill_b95 cx hlk hr N a_t a_t_score a_t_good a_t_bad a_t_goodAhead a_t_badAhead a_p1 a_p1_good a_p1_bad a_p1_open p1_least p1_most p1_goodCost p1_badCost p1_referCost p1_good p1_bad p1_open r t_size t_score t_good t_bad t_goodAhead t_badAhead h _ _ _ hw (lv_sub hl [0] rfl)
    · have h := it_neg c2 h
      refine lv_aload_n hx hb dX8_fill_14 rfl (lv_at hl 0 rfl) ?_
      refine rf_get hx hb cx hw 0 rfl rfl 5 inX8 (by decide) fl_X8_27 rfl rfl dX8_fill_15 ?_
      refine ri_bipush hx hb dX8_fill_18 rfl ?_
      obtain ⟨g3, h⟩ := gd_some h
      refine ri_icmp_ge (tgt := 95) hx hb g3 ⟨by decide, by decide⟩ dX8_fill_20 (by decide) (fun c4 => ?_) (fun c4 => ?_)
      · have h := it_pos c4 h
        exact w_X8_fill_b95 cx hlk hr N a_t a_t_score a_t_good a_t_bad a_t_goodAhead a_t_badAhead a_p1 a_p1_good a_p1_bad a_p1_open p1_least p1_most p1_goodCost p1_badCost p1_referCost p1_good p1_bad p1_open r t_size t_score t_good t_bad t_goodAhead t_badAhead h _ _ _ hw (lv_sub hl [0] rfl)
      · have h := it_neg c4 h
        refine lv_aload_n hx hb dX8_fill_23 rfl (lv_at hl 1 rfl) ?_
        refine rf_get hx hb cx hw 6 rfl rfl 0 inX6 (by decide) fl_X8_31 rfl rfl dX8_fill_24 ?_
        refine lv_iload_n hx hb dX8_fill_27 rfl (lv_at hl 2 rfl) ?_
        obtain ⟨g5, h⟩ := gd_some h
        refine ra_i hx hb cx hw 7 rfl (by decide) g5 dX8_fill_28 ?_
        refine lv_aload_n hx hb dX8_fill_29 rfl (lv_at hl 1 rfl) ?_
        refine rf_get hx hb cx hw 6 rfl rfl 1 inX6 (by decide) fl_X8_34 rfl rfl dX8_fill_30 ?_
        refine lv_iload_n hx hb dX8_fill_33 rfl (lv_at hl 2 rfl) ?_
        refine ra_i hx hb cx hw 8 rfl (by decide) g5 dX8_fill_34 ?_
        refine ri_iadd hx hb dX8_fill_35 ?_
        obtain ⟨g6, h⟩ := gd_some h
        refine ri_if_le (tgt := 89) hx hb g6 dX8_fill_36 (by decide) (fun c7 => ?_) (fun c7 => ?_)
        · have h := it_pos c7 h
          exact w_X8_fill_b89 cx hlk hr N a_t a_t_score a_t_good a_t_bad a_t_goodAhead a_t_badAhead a_p1 a_p1_good a_p1_bad a_p1_open p1_least p1_most p1_goodCost p1_badCost p1_referCost p1_good p1_bad p1_open r (m_X8_fill_b7 N p1_good p1_bad n) ih t_size t_score t_good t_bad t_goodAhead t_badAhead y2 h _ _ _ hw (lv_sub hl [0, 1, 2] rfl)
        · have h := it_neg c7 h
          refine lv_aload_n hx hb dX8_fill_39 rfl (lv_at hl 0 rfl) ?_
          refine rf_get hx hb cx hw 0 rfl rfl 0 inX8 (by decide) fl_X8_9 rfl rfl dX8_fill_40 ?_
          refine lv_aload_n hx hb dX8_fill_43 rfl (lv_at hl 0 rfl) ?_
          refine rf_get hx hb cx hw 0 rfl rfl 5 inX8 (by decide) fl_X8_27 rfl rfl dX8_fill_44 ?_
          refine lv_iload_n hx hb dX8_fill_47 rfl (lv_at hl 2 rfl) ?_
          obtain ⟨g8, h⟩ := gd_some h
          refine ra_si hx hb cx hw 1 rfl (by decide) g8 dX8_fill_48 (fun H locs hw => ?_)
          have hw : HP G A s.heap H locs [(a_t, .inr (7, [.ref a_t_score, .ref a_t_good, .ref a_t_bad, .ref a_t_goodAhead, .ref a_t_badAhead, .int (kI t_size)])), (a_t_score, cAI G 60 (uP t_score t_size y2)), (a_t_good, cAI G 60 t_good), (a_t_bad, cAI G 60 t_bad), (a_t_goodAhead, cAI G 61 t_goodAhead), (a_t_badAhead, cAI G 61 t_badAhead), (a_p1, .inr (5, [.ref a_p1_good, .ref a_p1_bad, .ref a_p1_open, .int (kI p1_least), .int (kI p1_most), .int (kI p1_goodCost), .int (kI p1_badCost), .int (kI p1_referCost)])), (a_p1_good, cAI G 1000 p1_good), (a_p1_bad, cAI G 1000 p1_bad), (a_p1_open, cAI G 1000 p1_open)] := hw
          refine lv_aload_n hx hb dX8_fill_49 rfl (lv_at hl 0 rfl) ?_
          refine rf_get hx hb cx hw 0 rfl rfl 1 inX8 (by decide) fl_X8_15 rfl rfl dX8_fill_50 ?_
          refine lv_aload_n hx hb dX8_fill_53 rfl (lv_at hl 0 rfl) ?_
          refine rf_get hx hb cx hw 0 rfl rfl 5 inX8 (by decide) fl_X8_27 rfl rfl dX8_fill_54 ?_
          refine lv_aload_n hx hb dX8_fill_57 rfl (lv_at hl 1 rfl) ?_
          refine rf_get hx hb cx hw 6 rfl rfl 0 inX6 (by decide) fl_X8_31 rfl rfl dX8_fill_58 ?_
          refine lv_iload_n hx hb dX8_fill_61 rfl (lv_at hl 2 rfl) ?_
          refine ra_i hx hb cx hw 7 rfl (by decide) g5 dX8_fill_62 ?_
          refine ra_si hx hb cx hw 2 rfl (by decide) g8 dX8_fill_63 (fun H locs hw => ?_)
          have hw : HP G A s.heap H locs [(a_t, .inr (7, [.ref a_t_score, .ref a_t_good, .ref a_t_bad, .ref a_t_goodAhead, .ref a_t_badAhead, .int (kI t_size)])), (a_t_score, cAI G 60 (uP t_score t_size y2)), (a_t_good, cAI G 60 (uP t_good t_size (p1_good y2))), (a_t_bad, cAI G 60 t_bad), (a_t_goodAhead, cAI G 61 t_goodAhead), (a_t_badAhead, cAI G 61 t_badAhead), (a_p1, .inr (5, [.ref a_p1_good, .ref a_p1_bad, .ref a_p1_open, .int (kI p1_least), .int (kI p1_most), .int (kI p1_goodCost), .int (kI p1_badCost), .int (kI p1_referCost)])), (a_p1_good, cAI G 1000 p1_good), (a_p1_bad, cAI G 1000 p1_bad), (a_p1_open, cAI G 1000 p1_open)] := hw
          refine lv_aload_n hx hb dX8_fill_64 rfl (lv_at hl 0 rfl) ?_
          refine rf_get hx hb cx hw 0 rfl rfl 2 inX8 (by decide) fl_X8_18 rfl rfl dX8_fill_65 ?_
          refine lv_aload_n hx hb dX8_fill_68 rfl (lv_at hl 0 rfl) ?_
          refine rf_get hx hb cx hw 0 rfl rfl 5 inX8 (by decide) fl_X8_27 rfl rfl dX8_fill_69 ?_
          refine lv_aload_n hx hb dX8_fill_72 rfl (lv_at hl 1 rfl) ?_
          refine rf_get hx hb cx hw 6 rfl rfl 1 inX6 (by decide) fl_X8_34 rfl rfl dX8_fill_73 ?_
          refine lv_iload_n hx hb dX8_fill_76 rfl (lv_at hl 2 rfl) ?_
          refine ra_i hx hb cx hw 8 rfl (by decide) g5 dX8_fill_77 ?_
          refine ra_si hx hb cx hw 3 rfl (by decide) g8 dX8_fill_78 (fun H locs hw => ?_)
          have hw : HP G A s.heap H locs [(a_t, .inr (7, [.ref a_t_score, .ref a_t_good, .ref a_t_bad, .ref a_t_goodAhead, .ref a_t_badAhead, .int (kI t_size)])), (a_t_score, cAI G 60 (uP t_score t_size y2)), (a_t_good, cAI G 60 (uP t_good t_size (p1_good y2))), (a_t_bad, cAI G 60 (uP t_bad t_size (p1_bad y2))), (a_t_goodAhead, cAI G 61 t_goodAhead), (a_t_badAhead, cAI G 61 t_badAhead), (a_p1, .inr (5, [.ref a_p1_good, .ref a_p1_bad, .ref a_p1_open, .int (kI p1_least), .int (kI p1_most), .int (kI p1_goodCost), .int (kI p1_badCost), .int (kI p1_referCost)])), (a_p1_good, cAI G 1000 p1_good), (a_p1_bad, cAI G 1000 p1_bad), (a_p1_open, cAI G 1000 p1_open)] := hw
          refine lv_aload_n hx hb dX8_fill_79 rfl (lv_at hl 0 rfl) ?_
          refine lv_dup hx hb dX8_fill_80 rfl ?_
          refine rf_get hx hb cx hw 0 rfl rfl 5 inX8 (by decide) fl_X8_27 rfl rfl dX8_fill_81 ?_
          refine ri_iconst hx hb dX8_fill_84 ?_
          refine ri_iadd hx hb dX8_fill_85 ?_
          refine rf_put hx hb cx hw 0 rfl rfl 5 inX8 tyX8 tyX8_ok nmX8 (by decide) fl_X8_27 rfl rfl rfl rfl (Nat.le_of_ble_eq_true rfl) dX8_fill_86 (fun H locs hw => ?_)
          have hw : HP G A s.heap H locs [(a_t, .inr (7, [.ref a_t_score, .ref a_t_good, .ref a_t_bad, .ref a_t_goodAhead, .ref a_t_badAhead, .int (kI (t_size + 1))])), (a_t_score, cAI G 60 (uP t_score t_size y2)), (a_t_good, cAI G 60 (uP t_good t_size (p1_good y2))), (a_t_bad, cAI G 60 (uP t_bad t_size (p1_bad y2))), (a_t_goodAhead, cAI G 61 t_goodAhead), (a_t_badAhead, cAI G 61 t_badAhead), (a_p1, .inr (5, [.ref a_p1_good, .ref a_p1_bad, .ref a_p1_open, .int (kI p1_least), .int (kI p1_most), .int (kI p1_goodCost), .int (kI p1_badCost), .int (kI p1_referCost)])), (a_p1_good, cAI G 1000 p1_good), (a_p1_bad, cAI G 1000 p1_bad), (a_p1_open, cAI G 1000 p1_open)] := hw
          exact w_X8_fill_b89 cx hlk hr N a_t a_t_score a_t_good a_t_bad a_t_goodAhead a_t_badAhead a_p1 a_p1_good a_p1_bad a_p1_open p1_least p1_most p1_goodCost p1_badCost p1_referCost p1_good p1_bad p1_open r (m_X8_fill_b7 N p1_good p1_bad n) ih (t_size + 1) (uP t_score t_size y2) (uP t_good t_size (p1_good y2)) (uP t_bad t_size (p1_bad y2)) t_goodAhead t_badAhead y2 h _ _ _ hw (lv_sub hl [0, 1, 2] rfl)
set_option maxHeartbeats 4000000 in
set_option maxRecDepth 100000 in
theorem c_X8_fill (l : Launch) (G : GG) (sz : Nat) (N : Nat) (a_t a_t_score a_t_good a_t_bad a_t_goodAhead a_t_badAhead a_p1 a_p1_good a_p1_bad a_p1_open : Nat) (t_size : Int) (t_score : Int → Int) (t_good : Int → Int) (t_bad : Int → Int) (t_goodAhead : Int → Int) (t_badAhead : Int → Int) (p1_least : Int) (p1_most : Int) (p1_goodCost : Int) (p1_badCost : Int) (p1_referCost : Int) (p1_good : Int → Int) (p1_bad : Int → Int) (p1_open : Int → Int)  (r : Int × (Int → Int) × (Int → Int) × (Int → Int) × (Int → Int) × (Int → Int)) (h : m_X8_fill N p1_good p1_bad t_size t_score t_good t_bad t_goodAhead t_badAhead = some r) : CtV l yX8_fill cX8_fill 3 (rmD 2 0 0) G sz [.ref a_t, .ref a_p1] [(a_t, .inr (7, [.ref a_t_score, .ref a_t_good, .ref a_t_bad, .ref a_t_goodAhead, .ref a_t_badAhead, .int (kI t_size)])), (a_t_score, cAI G 60 t_score), (a_t_good, cAI G 60 t_good), (a_t_bad, cAI G 60 t_bad), (a_t_goodAhead, cAI G 61 t_goodAhead), (a_t_badAhead, cAI G 61 t_badAhead), (a_p1, .inr (5, [.ref a_p1_good, .ref a_p1_bad, .ref a_p1_open, .int (kI p1_least), .int (kI p1_most), .int (kI p1_goodCost), .int (kI p1_badCost), .int (kI p1_referCost)])), (a_p1_good, cAI G 1000 p1_good), (a_p1_bad, cAI G 1000 p1_bad), (a_p1_open, cAI G 1000 p1_open)] [(a_t, .inr (7, [.ref a_t_score, .ref a_t_good, .ref a_t_bad, .ref a_t_goodAhead, .ref a_t_badAhead, .int (kI r.1)])), (a_t_score, cAI G 60 r.2.1), (a_t_good, cAI G 60 r.2.2.1), (a_t_bad, cAI G 60 r.2.2.2.1), (a_t_goodAhead, cAI G 61 r.2.2.2.2.1), (a_t_badAhead, cAI G 61 r.2.2.2.2.2), (a_p1, .inr (5, [.ref a_p1_good, .ref a_p1_bad, .ref a_p1_open, .int (kI p1_least), .int (kI p1_most), .int (kI p1_goodCost), .int (kI p1_badCost), .int (kI p1_referCost)])), (a_p1_good, cAI G 1000 p1_good), (a_p1_bad, cAI G 1000 p1_bad), (a_p1_open, cAI G 1000 p1_open)] := by
  refine met_of (Qc := fun A => QcV G A [(a_t, .inr (7, [.ref a_t_score, .ref a_t_good, .ref a_t_bad, .ref a_t_goodAhead, .ref a_t_badAhead, .int (kI r.1)])), (a_t_score, cAI G 60 r.2.1), (a_t_good, cAI G 60 r.2.2.1), (a_t_bad, cAI G 60 r.2.2.2.1), (a_t_goodAhead, cAI G 61 r.2.2.2.2.1), (a_t_badAhead, cAI G 61 r.2.2.2.2.2), (a_p1, .inr (5, [.ref a_p1_good, .ref a_p1_bad, .ref a_p1_open, .int (kI p1_least), .int (kI p1_most), .int (kI p1_goodCost), .int (kI p1_badCost), .int (kI p1_referCost)])), (a_p1_good, cAI G 1000 p1_good), (a_p1_bad, cAI G 1000 p1_bad), (a_p1_open, cAI G 1000 p1_open)]) (by decide +kernel) (Nat.le_of_ble_eq_true rfl) ?_
  intro p e s m args below meth c A H locs ls cx hw hr hlk hnm hl
  have hl : lv_has ls 3 [(0, .ref a_t), (1, .ref a_p1)] := hl
  rw [m_X8_fill] at h
  obtain ⟨⟨hx, hb, -, -, -⟩, -⟩ := id cx
  refine lv_aload_n hx hb dX8_fill_0 rfl (lv_at hl 0 rfl) ?_
  refine ri_iconst hx hb dX8_fill_1 ?_
  refine rf_put hx hb cx hw 0 rfl rfl 5 inX8 tyX8 tyX8_ok nmX8 (by decide) fl_X8_27 rfl rfl rfl rfl (Nat.le_of_ble_eq_true rfl) dX8_fill_2 (fun H locs hw => ?_)
  have hw : HP G A s.heap H locs [(a_t, .inr (7, [.ref a_t_score, .ref a_t_good, .ref a_t_bad, .ref a_t_goodAhead, .ref a_t_badAhead, .int (kI 0)])), (a_t_score, cAI G 60 t_score), (a_t_good, cAI G 60 t_good), (a_t_bad, cAI G 60 t_bad), (a_t_goodAhead, cAI G 61 t_goodAhead), (a_t_badAhead, cAI G 61 t_badAhead), (a_p1, .inr (5, [.ref a_p1_good, .ref a_p1_bad, .ref a_p1_open, .int (kI p1_least), .int (kI p1_most), .int (kI p1_goodCost), .int (kI p1_badCost), .int (kI p1_referCost)])), (a_p1_good, cAI G 1000 p1_good), (a_p1_bad, cAI G 1000 p1_bad), (a_p1_open, cAI G 1000 p1_open)] := hw
  refine ri_iconst hx hb dX8_fill_5 ?_
  refine lv_istore_n (lv' := [(2, .int (kI 0)), (0, .ref a_t), (1, .ref a_p1)]) hx hb dX8_fill_6 rfl hl (by decide) rfl (fun ls hl => ?_)
  exact w_X8_fill_b7 cx hlk hr N a_t a_t_score a_t_good a_t_bad a_t_goodAhead a_t_badAhead a_p1 a_p1_good a_p1_bad a_p1_open p1_least p1_most p1_goodCost p1_badCost p1_referCost p1_good p1_bad p1_open r N 0 t_score t_good t_bad t_goodAhead t_badAhead 0 h _ _ _ hw (lv_sub hl [1, 2, 0] rfl)
set_option maxHeartbeats 4000000 in
set_option maxRecDepth 100000 in
theorem c_X8_casesAhead (l : Launch) (G : GG) (sz : Nat) (N : Nat) (a_t a_t_score a_t_good a_t_bad a_t_goodAhead a_t_badAhead : Nat) (t_size : Int) (t_score : Int → Int) (t_good : Int → Int) (t_bad : Int → Int) (t_goodAhead : Int → Int) (t_badAhead : Int → Int) (x1 : Int) (r : Int) (h : m_X8_casesAhead N t_goodAhead t_badAhead x1 = some r) : CtI l yX8_casesAhead cX8_casesAhead 2 .int (rmD 1 0 0) G sz [.ref a_t, .int (kI x1)] [(a_t, .inr (7, [.ref a_t_score, .ref a_t_good, .ref a_t_bad, .ref a_t_goodAhead, .ref a_t_badAhead, .int (kI t_size)])), (a_t_score, cAI G 60 t_score), (a_t_good, cAI G 60 t_good), (a_t_bad, cAI G 60 t_bad), (a_t_goodAhead, cAI G 61 t_goodAhead), (a_t_badAhead, cAI G 61 t_badAhead)] r [(a_t, .inr (7, [.ref a_t_score, .ref a_t_good, .ref a_t_bad, .ref a_t_goodAhead, .ref a_t_badAhead, .int (kI t_size)])), (a_t_score, cAI G 60 t_score), (a_t_good, cAI G 60 t_good), (a_t_bad, cAI G 60 t_bad), (a_t_goodAhead, cAI G 61 t_goodAhead), (a_t_badAhead, cAI G 61 t_badAhead)] := by
  refine met_of (Qc := fun A => QcI G A r [(a_t, .inr (7, [.ref a_t_score, .ref a_t_good, .ref a_t_bad, .ref a_t_goodAhead, .ref a_t_badAhead, .int (kI t_size)])), (a_t_score, cAI G 60 t_score), (a_t_good, cAI G 60 t_good), (a_t_bad, cAI G 60 t_bad), (a_t_goodAhead, cAI G 61 t_goodAhead), (a_t_badAhead, cAI G 61 t_badAhead)]) (by decide +kernel) (Nat.le_of_ble_eq_true rfl) ?_
  intro p e s m args below meth c A H locs ls cx hw hr hlk hnm hl
  have hl : lv_has ls 2 [(0, .ref a_t), (1, .int (kI x1))] := hl
  rw [m_X8_casesAhead] at h
  obtain ⟨⟨hx, hb, -, -, -⟩, -⟩ := id cx
  refine lv_aload_n hx hb dX8_casesAhead_0 rfl (lv_at hl 0 rfl) ?_
  refine rf_get hx hb cx hw 0 rfl rfl 3 inX8 (by decide) fl_X8_21 rfl rfl dX8_casesAhead_1 ?_
  refine lv_iload_n hx hb dX8_casesAhead_4 rfl (lv_at hl 1 rfl) ?_
  obtain ⟨g1, h⟩ := gd_some h
  refine ra_i hx hb cx hw 4 rfl (by decide) g1 dX8_casesAhead_5 ?_
  refine lv_aload_n hx hb dX8_casesAhead_6 rfl (lv_at hl 0 rfl) ?_
  refine rf_get hx hb cx hw 0 rfl rfl 4 inX8 (by decide) fl_X8_24 rfl rfl dX8_casesAhead_7 ?_
  refine lv_iload_n hx hb dX8_casesAhead_10 rfl (lv_at hl 1 rfl) ?_
  refine ra_i hx hb cx hw 5 rfl (by decide) g1 dX8_casesAhead_11 ?_
  refine ri_iadd hx hb dX8_casesAhead_12 ?_
  obtain rfl := so_inj h
  exact re_i hx hb hlk hr cx hw (Nat.le_of_ble_eq_true rfl) (Nat.le_of_ble_eq_true rfl) dX8_casesAhead_13
set_option maxHeartbeats 4000000 in
set_option maxRecDepth 100000 in
theorem c_X8_cases (l : Launch) (G : GG) (sz : Nat) (N : Nat) (a_t a_t_score a_t_good a_t_bad a_t_goodAhead a_t_badAhead : Nat) (t_size : Int) (t_score : Int → Int) (t_good : Int → Int) (t_bad : Int → Int) (t_goodAhead : Int → Int) (t_badAhead : Int → Int)  (r : Int) (h : m_X8_cases N t_size t_goodAhead t_badAhead = some r) : CtI l yX8_cases cX8_cases 1 .int (rmD 2 0 0) G sz [.ref a_t] [(a_t, .inr (7, [.ref a_t_score, .ref a_t_good, .ref a_t_bad, .ref a_t_goodAhead, .ref a_t_badAhead, .int (kI t_size)])), (a_t_score, cAI G 60 t_score), (a_t_good, cAI G 60 t_good), (a_t_bad, cAI G 60 t_bad), (a_t_goodAhead, cAI G 61 t_goodAhead), (a_t_badAhead, cAI G 61 t_badAhead)] r [(a_t, .inr (7, [.ref a_t_score, .ref a_t_good, .ref a_t_bad, .ref a_t_goodAhead, .ref a_t_badAhead, .int (kI t_size)])), (a_t_score, cAI G 60 t_score), (a_t_good, cAI G 60 t_good), (a_t_bad, cAI G 60 t_bad), (a_t_goodAhead, cAI G 61 t_goodAhead), (a_t_badAhead, cAI G 61 t_badAhead)] := by
  refine met_of (Qc := fun A => QcI G A r [(a_t, .inr (7, [.ref a_t_score, .ref a_t_good, .ref a_t_bad, .ref a_t_goodAhead, .ref a_t_badAhead, .int (kI t_size)])), (a_t_score, cAI G 60 t_score), (a_t_good, cAI G 60 t_good), (a_t_bad, cAI G 60 t_bad), (a_t_goodAhead, cAI G 61 t_goodAhead), (a_t_badAhead, cAI G 61 t_badAhead)]) (by decide +kernel) (Nat.le_of_ble_eq_true rfl) ?_
  intro p e s m args below meth c A H locs ls cx hw hr hlk hnm hl
  have hl : lv_has ls 1 [(0, .ref a_t)] := hl
  rw [m_X8_cases] at h
  obtain ⟨⟨hx, hb, -, -, -⟩, -⟩ := id cx
  refine lv_aload_n hx hb dX8_cases_0 rfl (lv_at hl 0 rfl) ?_
  refine lv_aload_n hx hb dX8_cases_1 rfl (lv_at hl 0 rfl) ?_
  refine rf_get hx hb cx hw 0 rfl rfl 5 inX8 (by decide) fl_X8_27 rfl rfl dX8_cases_2 ?_
  obtain ⟨r1, h1, h⟩ := bd_some h
  refine rc_I0 (v := r1) hw [0, 1, 2, 3, 4, 5] (rr_V cx hw (c_X8_casesAhead l G H.size N a_t a_t_score a_t_good a_t_bad a_t_goodAhead a_t_badAhead t_size t_score t_good t_bad t_goodAhead t_badAhead t_size _ h1) mv_X8_56 [0, 1, 2, 3, 4, 5] rfl rfl rfl 0 rfl rfl ⟨Nat.le_of_ble_eq_true rfl, Nat.le_of_ble_eq_true rfl⟩ rfl hl.1 rfl (Nat.le_of_ble_eq_true rfl) dX8_cases_5 ⟨Nat.le_of_ble_eq_true rfl, Nat.le_of_ble_eq_true rfl⟩) rfl rfl (fun H locs hw => ?_)
  obtain rfl := so_inj h
  exact re_i hx hb hlk hr cx hw (Nat.le_of_ble_eq_true rfl) (Nat.le_of_ble_eq_true rfl) dX8_cases_8
set_option maxHeartbeats 4000000 in
set_option maxRecDepth 100000 in
theorem w_X8_holder_b58 {p : Program} {l : Launch} {e : Env} {s : State} {m : MethodId} {args : Array Value} {below : List Frame} {meth : Method} {c : Code} {A : Nat → Prop} {G : GG} (cx : CX p s m args c cX8_holder RX8 6 G) (hlk : meth.locks = false) (hr : meth.sig.returnType = some .int) (N : Nat) (a_t a_t_score a_t_good a_t_bad a_t_goodAhead a_t_badAhead : Nat) (t_size : Int) (t_score : Int → Int) (t_good : Int → Int) (t_bad : Int → Int) (t_goodAhead : Int → Int) (t_badAhead : Int → Int) (x1 : Int) (r : Int) (k16 : Int → Int → Int → Option (Int)) (hk16 : ∀ (y2 : Int) (y3 : Int) (y4 : Int), k16 y2 y3 y4 = some r → ∀ (H : Heap) (locs : List Loc) (ls : Array Slot), HP G A s.heap H locs [(a_t, .inr (7, [.ref a_t_score, .ref a_t_good, .ref a_t_bad, .ref a_t_goodAhead, .ref a_t_badAhead, .int (kI t_size)])), (a_t_score, cAI G 60 t_score), (a_t_good, cAI G 60 t_good), (a_t_bad, cAI G 60 t_bad), (a_t_goodAhead, cAI G 61 t_goodAhead), (a_t_badAhead, cAI G 61 t_badAhead)] → lv_has ls 6 [(0, .ref a_t), (1, .int (kI x1)), (2, .int (kI y2)), (3, .int (kI y3)), (4, .int (kI y4))] → W p l e (rmD 2 0 0) s m args below meth c H locs 0 0 (MQ below (QcI G A r [(a_t, .inr (7, [.ref a_t_score, .ref a_t_good, .ref a_t_bad, .ref a_t_goodAhead, .ref a_t_badAhead, .int (kI t_size)])), (a_t_score, cAI G 60 t_score), (a_t_good, cAI G 60 t_good), (a_t_bad, cAI G 60 t_bad), (a_t_goodAhead, cAI G 61 t_goodAhead), (a_t_badAhead, cAI G 61 t_badAhead)]) args s (rmD 2 0 0).cells (rmD 2 0 0).slots A) (F0 m 16 ls [])) : ∀ (y2 : Int) (y3 : Int) (y4 : Int), m_X8_holder_b58 N t_size t_goodAhead t_badAhead x1 k16 y2 y3 y4 = some r → ∀ (H : Heap) (locs : List Loc) (ls : Array Slot), HP G A s.heap H locs [(a_t, .inr (7, [.ref a_t_score, .ref a_t_good, .ref a_t_bad, .ref a_t_goodAhead, .ref a_t_badAhead, .int (kI t_size)])), (a_t_score, cAI G 60 t_score), (a_t_good, cAI G 60 t_good), (a_t_bad, cAI G 60 t_bad), (a_t_goodAhead, cAI G 61 t_goodAhead), (a_t_badAhead, cAI G 61 t_badAhead)] → lv_has ls 6 [(0, .ref a_t), (1, .int (kI x1)), (2, .int (kI y2)), (3, .int (kI y3)), (4, .int (kI y4))] → W p l e (rmD 2 0 0) s m args below meth c H locs 0 0 (MQ below (QcI G A r [(a_t, .inr (7, [.ref a_t_score, .ref a_t_good, .ref a_t_bad, .ref a_t_goodAhead, .ref a_t_badAhead, .int (kI t_size)])), (a_t_score, cAI G 60 t_score), (a_t_good, cAI G 60 t_good), (a_t_bad, cAI G 60 t_bad), (a_t_goodAhead, cAI G 61 t_goodAhead), (a_t_badAhead, cAI G 61 t_badAhead)]) args s (rmD 2 0 0).cells (rmD 2 0 0).slots A) (F0 m 58 ls []) := by
  intro y2 y3 y4 h H locs ls hw hl
  rw [m_X8_holder_b58] at h
  obtain ⟨⟨hx, hb, -, -, -⟩, -⟩ := id cx
  refine lv_iinc (v := kI (y4 + 1)) (lv' := [(4, .int (kI (y4 + 1))), (0, .ref a_t), (1, .int (kI x1)), (2, .int (kI y2)), (3, .int (kI y3))]) hx hb dX8_holder_58 hl (k := 4) rfl (kI_add _ _) (by decide) rfl (fun ls hl => ?_)
  refine lv_goto (tgt := 16) hx hb dX8_holder_61 (by decide) ?_
  exact hk16 y2 y3 (y4 + 1) h _ _ _ hw (lv_sub hl [1, 2, 3, 4, 0] rfl)
set_option maxHeartbeats 4000000 in
set_option maxRecDepth 100000 in
theorem w_X8_holder_b16 {p : Program} {l : Launch} {e : Env} {s : State} {m : MethodId} {args : Array Value} {below : List Frame} {meth : Method} {c : Code} {A : Nat → Prop} {G : GG} (cx : CX p s m args c cX8_holder RX8 6 G) (hlk : meth.locks = false) (hr : meth.sig.returnType = some .int) (N : Nat) (a_t a_t_score a_t_good a_t_bad a_t_goodAhead a_t_badAhead : Nat) (t_size : Int) (t_score : Int → Int) (t_good : Int → Int) (t_bad : Int → Int) (t_goodAhead : Int → Int) (t_badAhead : Int → Int) (x1 : Int) (r : Int) : ∀ n : Nat, ∀ (y2 : Int) (y3 : Int) (y4 : Int), m_X8_holder_b16 N t_size t_goodAhead t_badAhead x1 n y2 y3 y4 = some r → ∀ (H : Heap) (locs : List Loc) (ls : Array Slot), HP G A s.heap H locs [(a_t, .inr (7, [.ref a_t_score, .ref a_t_good, .ref a_t_bad, .ref a_t_goodAhead, .ref a_t_badAhead, .int (kI t_size)])), (a_t_score, cAI G 60 t_score), (a_t_good, cAI G 60 t_good), (a_t_bad, cAI G 60 t_bad), (a_t_goodAhead, cAI G 61 t_goodAhead), (a_t_badAhead, cAI G 61 t_badAhead)] → lv_has ls 6 [(0, .ref a_t), (1, .int (kI x1)), (2, .int (kI y2)), (3, .int (kI y3)), (4, .int (kI y4))] → W p l e (rmD 2 0 0) s m args below meth c H locs 0 0 (MQ below (QcI G A r [(a_t, .inr (7, [.ref a_t_score, .ref a_t_good, .ref a_t_bad, .ref a_t_goodAhead, .ref a_t_badAhead, .int (kI t_size)])), (a_t_score, cAI G 60 t_score), (a_t_good, cAI G 60 t_good), (a_t_bad, cAI G 60 t_bad), (a_t_goodAhead, cAI G 61 t_goodAhead), (a_t_badAhead, cAI G 61 t_badAhead)]) args s (rmD 2 0 0).cells (rmD 2 0 0).slots A) (F0 m 16 ls []) := by
  intro n
  induction n with
  | zero => intro y2 y3 y4 h; exact nomatch h
  | succ n ih =>
    intro y2 y3 y4 h H locs ls hw hl
    rw [m_X8_holder_b16] at h
    obtain ⟨⟨hx, hb, -, -, -⟩, -⟩ := id cx
    refine lv_iload hx hb dX8_holder_16 (lv_at hl 4 rfl) ?_
    refine ri_bipush hx hb dX8_holder_18 rfl ?_
    obtain ⟨g1, h⟩ := gd_some h
    refine ri_icmp_ge (tgt := 64) hx hb g1 ⟨by decide, by decide⟩ dX8_holder_20 (by decide) (fun c2 => ?_) (fun c2 => ?_)
    · have h := it_pos c2 h
      refine lv_iload_n hx hb dX8_holder_64 rfl (lv_at hl 2 rfl) ?_
      obtain rfl := so_inj h
      exact re_i hx hb hlk hr cx hw (Nat.le_of_ble_eq_true rfl) (Nat.le_of_ble_eq_true rfl) dX8_holder_65
    · have h := it_neg c2 h
      refine lv_iload_n hx hb dX8_holder_23 rfl (lv_at hl 2 rfl) ?_
      refine lv_iload_n hx hb dX8_holder_24 rfl (lv_at hl 3 rfl) ?_
      obtain ⟨g3, h⟩ := gd_some h
      obtain ⟨g4, h⟩ := gd_some h
      refine ri_icmp_ge (tgt := 64) hx hb g3 g4 dX8_holder_25 (by decide) (fun c5 => ?_) (fun c5 => ?_)
      · have h := it_pos c5 h
        refine lv_iload_n hx hb dX8_holder_64 rfl (lv_at hl 2 rfl) ?_
        obtain rfl := so_inj h
        exact re_i hx hb hlk hr cx hw (Nat.le_of_ble_eq_true rfl) (Nat.le_of_ble_eq_true rfl) dX8_holder_65
      · have h := it_neg c5 h
        refine lv_iload_n hx hb dX8_holder_28 rfl (lv_at hl 2 rfl) ?_
        refine lv_iload_n hx hb dX8_holder_29 rfl (lv_at hl 3 rfl) ?_
        refine ri_iadd hx hb dX8_holder_30 ?_
        refine ri_iconst hx hb dX8_holder_31 ?_
        obtain ⟨g6, h⟩ := gd_some h
        refine ri_idiv hx hb g6 dX8_holder_32 ?_
        refine lv_istore (lv' := [(5, .int (kI ((y2 + y3) / 2))), (0, .ref a_t), (1, .int (kI x1)), (2, .int (kI y2)), (3, .int (kI y3)), (4, .int (kI y4))]) hx hb dX8_holder_33 hl (by decide) rfl (fun ls hl => ?_)
        refine lv_aload_n hx hb dX8_holder_35 rfl (lv_at hl 1 rfl) ?_
        refine lv_iload hx hb dX8_holder_36 (lv_at hl 0 rfl) ?_
        refine ri_iconst hx hb dX8_holder_38 ?_
        refine ri_iadd hx hb dX8_holder_39 ?_
        obtain ⟨r7, h7, h⟩ := bd_some h
        refine rc_I0 (v := r7) hw [0, 1, 2, 3, 4, 5] (rr_V cx hw (c_X8_casesAhead l G H.size N a_t a_t_score a_t_good a_t_bad a_t_goodAhead a_t_badAhead t_size t_score t_good t_bad t_goodAhead t_badAhead (((y2 + y3) / 2) + 1) _ h7) mv_X8_56 [0, 1, 2, 3, 4, 5] rfl rfl rfl 0 rfl rfl ⟨Nat.le_of_ble_eq_true rfl, Nat.le_of_ble_eq_true rfl⟩ rfl hl.1 rfl (Nat.le_of_ble_eq_true rfl) dX8_holder_40 ⟨Nat.le_of_ble_eq_true rfl, Nat.le_of_ble_eq_true rfl⟩) rfl rfl (fun H locs hw => ?_)
        refine lv_iload_n hx hb dX8_holder_43 rfl (lv_at hl 2 rfl) ?_
        obtain ⟨g8, h⟩ := gd_some h
        obtain ⟨g9, h⟩ := gd_some h
        refine ri_icmp_le (tgt := 53) hx hb g8 g9 dX8_holder_44 (by decide) (fun c10 => ?_) (fun c10 => ?_)
        · have h := it_pos c10 h
          refine lv_iload hx hb dX8_holder_53 (lv_at hl 0 rfl) ?_
          refine ri_iconst hx hb dX8_holder_55 ?_
          refine ri_iadd hx hb dX8_holder_56 ?_
          refine lv_istore_n (lv' := [(2, .int (kI (((y2 + y3) / 2) + 1))), (5, .int (kI ((y2 + y3) / 2))), (0, .ref a_t), (1, .int (kI x1)), (3, .int (kI y3)), (4, .int (kI y4))]) hx hb dX8_holder_57 rfl hl (by decide) rfl (fun ls hl => ?_)
          exact w_X8_holder_b58 cx hlk hr N a_t a_t_score a_t_good a_t_bad a_t_goodAhead a_t_badAhead t_size t_score t_good t_bad t_goodAhead t_badAhead x1 r (m_X8_holder_b16 N t_size t_goodAhead t_badAhead x1 n) ih (((y2 + y3) / 2) + 1) y3 y4 h _ _ _ hw (lv_sub hl [2, 3, 0, 4, 5] rfl)
        · have h := it_neg c10 h
          refine lv_iload hx hb dX8_holder_47 (lv_at hl 0 rfl) ?_
          refine lv_istore_n (lv' := [(3, .int (kI ((y2 + y3) / 2))), (5, .int (kI ((y2 + y3) / 2))), (0, .ref a_t), (1, .int (kI x1)), (2, .int (kI y2)), (4, .int (kI y4))]) hx hb dX8_holder_49 rfl hl (by decide) rfl (fun ls hl => ?_)
          refine lv_goto (tgt := 58) hx hb dX8_holder_50 (by decide) ?_
          exact w_X8_holder_b58 cx hlk hr N a_t a_t_score a_t_good a_t_bad a_t_goodAhead a_t_badAhead t_size t_score t_good t_bad t_goodAhead t_badAhead x1 r (m_X8_holder_b16 N t_size t_goodAhead t_badAhead x1 n) ih y2 ((y2 + y3) / 2) y4 h _ _ _ hw (lv_sub hl [2, 3, 4, 0, 5] rfl)
set_option maxHeartbeats 4000000 in
set_option maxRecDepth 100000 in
theorem c_X8_holder (l : Launch) (G : GG) (sz : Nat) (N : Nat) (a_t a_t_score a_t_good a_t_bad a_t_goodAhead a_t_badAhead : Nat) (t_size : Int) (t_score : Int → Int) (t_good : Int → Int) (t_bad : Int → Int) (t_goodAhead : Int → Int) (t_badAhead : Int → Int) (x1 : Int) (r : Int) (h : m_X8_holder N t_size t_goodAhead t_badAhead x1 = some r) : CtI l yX8_holder cX8_holder 6 .int (rmD 2 0 0) G sz [.ref a_t, .int (kI x1)] [(a_t, .inr (7, [.ref a_t_score, .ref a_t_good, .ref a_t_bad, .ref a_t_goodAhead, .ref a_t_badAhead, .int (kI t_size)])), (a_t_score, cAI G 60 t_score), (a_t_good, cAI G 60 t_good), (a_t_bad, cAI G 60 t_bad), (a_t_goodAhead, cAI G 61 t_goodAhead), (a_t_badAhead, cAI G 61 t_badAhead)] r [(a_t, .inr (7, [.ref a_t_score, .ref a_t_good, .ref a_t_bad, .ref a_t_goodAhead, .ref a_t_badAhead, .int (kI t_size)])), (a_t_score, cAI G 60 t_score), (a_t_good, cAI G 60 t_good), (a_t_bad, cAI G 60 t_bad), (a_t_goodAhead, cAI G 61 t_goodAhead), (a_t_badAhead, cAI G 61 t_badAhead)] := by
  refine met_of (Qc := fun A => QcI G A r [(a_t, .inr (7, [.ref a_t_score, .ref a_t_good, .ref a_t_bad, .ref a_t_goodAhead, .ref a_t_badAhead, .int (kI t_size)])), (a_t_score, cAI G 60 t_score), (a_t_good, cAI G 60 t_good), (a_t_bad, cAI G 60 t_bad), (a_t_goodAhead, cAI G 61 t_goodAhead), (a_t_badAhead, cAI G 61 t_badAhead)]) (by decide +kernel) (Nat.le_of_ble_eq_true rfl) ?_
  intro p e s m args below meth c A H locs ls cx hw hr hlk hnm hl
  have hl : lv_has ls 6 [(0, .ref a_t), (1, .int (kI x1))] := hl
  rw [m_X8_holder] at h
  obtain ⟨⟨hx, hb, -, -, -⟩, -⟩ := id cx
  refine ri_iconst hx hb dX8_holder_0 ?_
  refine lv_istore_n (lv' := [(2, .int (kI 0)), (0, .ref a_t), (1, .int (kI x1))]) hx hb dX8_holder_1 rfl hl (by decide) rfl (fun ls hl => ?_)
  refine lv_aload_n hx hb dX8_holder_2 rfl (lv_at hl 1 rfl) ?_
  refine rf_get hx hb cx hw 0 rfl rfl 5 inX8 (by decide) fl_X8_27 rfl rfl dX8_holder_3 ?_
  refine ri_iconst hx hb dX8_holder_6 ?_
  refine ri_isub hx hb dX8_holder_7 ?_
  refine ri_iconst hx hb dX8_holder_8 ?_
  obtain ⟨g1, h⟩ := gd_some h
  refine rj_max g1 ⟨by decide, by decide⟩ hx hb cx hl.1 jl_X8_69 (Nat.le_of_ble_eq_true rfl) (Nat.le_of_ble_eq_true rfl) (Nat.le_of_ble_eq_true rfl) (Nat.le_of_ble_eq_true rfl) dX8_holder_9 ?_
  refine lv_istore_n (lv' := [(3, .int (kI (max (t_size - 1) 0))), (2, .int (kI 0)), (0, .ref a_t), (1, .int (kI x1))]) hx hb dX8_holder_12 rfl hl (by decide) rfl (fun ls hl => ?_)
  refine ri_iconst hx hb dX8_holder_13 ?_
  refine lv_istore (lv' := [(4, .int (kI 0)), (3, .int (kI (max (t_size - 1) 0))), (2, .int (kI 0)), (0, .ref a_t), (1, .int (kI x1))]) hx hb dX8_holder_14 hl (by decide) rfl (fun ls hl => ?_)
  exact w_X8_holder_b16 cx hlk hr N a_t a_t_score a_t_good a_t_bad a_t_goodAhead a_t_badAhead t_size t_score t_good t_bad t_goodAhead t_badAhead x1 r N 0 (max (t_size - 1) 0) 0 h _ _ _ hw (lv_sub hl [3, 4, 2, 1, 0] rfl)
set_option maxHeartbeats 4000000 in
set_option maxRecDepth 100000 in
theorem w_X8_closeUp_b86 {p : Program} {l : Launch} {e : Env} {s : State} {m : MethodId} {args : Array Value} {below : List Frame} {meth : Method} {c : Code} {A : Nat → Prop} {G : GG} (cx : CX p s m args c cX8_closeUp RX8 3 G) (hlk : meth.locks = false) (hr : meth.sig.returnType = none) (N : Nat) (a_t a_t_score a_t_good a_t_bad a_t_goodAhead a_t_badAhead a_p1 a_p1_score a_p1_good a_p1_bad a_p1_goodAhead a_p1_badAhead : Nat) (t_goodAhead : Int → Int) (t_badAhead : Int → Int) (p1_size : Int) (p1_score : Int → Int) (p1_good : Int → Int) (p1_bad : Int → Int) (p1_goodAhead : Int → Int) (p1_badAhead : Int → Int) (r : Int × (Int → Int) × (Int → Int) × (Int → Int)) (k7 : Int → (Int → Int) → (Int → Int) → (Int → Int) → Int → Option (Int × (Int → Int) × (Int → Int) × (Int → Int))) (hk7 : ∀ (t_size : Int) (t_score : Int → Int) (t_good : Int → Int) (t_bad : Int → Int) (y2 : Int), k7 t_size t_score t_good t_bad y2 = some r → ∀ (H : Heap) (locs : List Loc) (ls : Array Slot), HP G A s.heap H locs [(a_t, .inr (7, [.ref a_t_score, .ref a_t_good, .ref a_t_bad, .ref a_t_goodAhead, .ref a_t_badAhead, .int (kI t_size)])), (a_t_score, cAI G 60 t_score), (a_t_good, cAI G 60 t_good), (a_t_bad, cAI G 60 t_bad), (a_t_goodAhead, cAI G 61 t_goodAhead), (a_t_badAhead, cAI G 61 t_badAhead), (a_p1, .inr (7, [.ref a_p1_score, .ref a_p1_good, .ref a_p1_bad, .ref a_p1_goodAhead, .ref a_p1_badAhead, .int (kI p1_size)])), (a_p1_score, cAI G 60 p1_score), (a_p1_good, cAI G 60 p1_good), (a_p1_bad, cAI G 60 p1_bad), (a_p1_goodAhead, cAI G 61 p1_goodAhead), (a_p1_badAhead, cAI G 61 p1_badAhead)] → lv_has ls 3 [(0, .ref a_t), (1, .ref a_p1), (2, .int (kI y2))] → W p l e (rmD 1 0 0) s m args below meth c H locs 0 0 (MQ below (QcV G A [(a_t, .inr (7, [.ref a_t_score, .ref a_t_good, .ref a_t_bad, .ref a_t_goodAhead, .ref a_t_badAhead, .int (kI r.1)])), (a_t_score, cAI G 60 r.2.1), (a_t_good, cAI G 60 r.2.2.1), (a_t_bad, cAI G 60 r.2.2.2), (a_t_goodAhead, cAI G 61 t_goodAhead), (a_t_badAhead, cAI G 61 t_badAhead), (a_p1, .inr (7, [.ref a_p1_score, .ref a_p1_good, .ref a_p1_bad, .ref a_p1_goodAhead, .ref a_p1_badAhead, .int (kI p1_size)])), (a_p1_score, cAI G 60 p1_score), (a_p1_good, cAI G 60 p1_good), (a_p1_bad, cAI G 60 p1_bad), (a_p1_goodAhead, cAI G 61 p1_goodAhead), (a_p1_badAhead, cAI G 61 p1_badAhead)]) args s (rmD 1 0 0).cells (rmD 1 0 0).slots A) (F0 m 7 ls [])) : ∀ (t_size : Int) (t_score : Int → Int) (t_good : Int → Int) (t_bad : Int → Int) (y2 : Int), m_X8_closeUp_b86 N p1_size p1_score k7 t_size t_score t_good t_bad y2 = some r → ∀ (H : Heap) (locs : List Loc) (ls : Array Slot), HP G A s.heap H locs [(a_t, .inr (7, [.ref a_t_score, .ref a_t_good, .ref a_t_bad, .ref a_t_goodAhead, .ref a_t_badAhead, .int (kI t_size)])), (a_t_score, cAI G 60 t_score), (a_t_good, cAI G 60 t_good), (a_t_bad, cAI G 60 t_bad), (a_t_goodAhead, cAI G 61 t_goodAhead), (a_t_badAhead, cAI G 61 t_badAhead), (a_p1, .inr (7, [.ref a_p1_score, .ref a_p1_good, .ref a_p1_bad, .ref a_p1_goodAhead, .ref a_p1_badAhead, .int (kI p1_size)])), (a_p1_score, cAI G 60 p1_score), (a_p1_good, cAI G 60 p1_good), (a_p1_bad, cAI G 60 p1_bad), (a_p1_goodAhead, cAI G 61 p1_goodAhead), (a_p1_badAhead, cAI G 61 p1_badAhead)] → lv_has ls 3 [(0, .ref a_t), (1, .ref a_p1), (2, .int (kI y2))] → W p l e (rmD 1 0 0) s m args below meth c H locs 0 0 (MQ below (QcV G A [(a_t, .inr (7, [.ref a_t_score, .ref a_t_good, .ref a_t_bad, .ref a_t_goodAhead, .ref a_t_badAhead, .int (kI r.1)])), (a_t_score, cAI G 60 r.2.1), (a_t_good, cAI G 60 r.2.2.1), (a_t_bad, cAI G 60 r.2.2.2), (a_t_goodAhead, cAI G 61 t_goodAhead), (a_t_badAhead, cAI G 61 t_badAhead), (a_p1, .inr (7, [.ref a_p1_score, .ref a_p1_good, .ref a_p1_bad, .ref a_p1_goodAhead, .ref a_p1_badAhead, .int (kI p1_size)])), (a_p1_score, cAI G 60 p1_score), (a_p1_good, cAI G 60 p1_good), (a_p1_bad, cAI G 60 p1_bad), (a_p1_goodAhead, cAI G 61 p1_goodAhead), (a_p1_badAhead, cAI G 61 p1_badAhead)]) args s (rmD 1 0 0).cells (rmD 1 0 0).slots A) (F0 m 86 ls []) := by
  intro t_size t_score t_good t_bad y2 h H locs ls hw hl
  rw [m_X8_closeUp_b86] at h
  obtain ⟨⟨hx, hb, -, -, -⟩, -⟩ := id cx
  refine lv_iinc (v := kI (y2 + 1)) (lv' := [(2, .int (kI (y2 + 1))), (0, .ref a_t), (1, .ref a_p1)]) hx hb dX8_closeUp_86 hl (k := 2) rfl (kI_add _ _) (by decide) rfl (fun ls hl => ?_)
  refine lv_goto (tgt := 7) hx hb dX8_closeUp_89 (by decide) ?_
  exact hk7 t_size t_score t_good t_bad (y2 + 1) h _ _ _ hw (lv_sub hl [1, 2, 0] rfl)
set_option maxHeartbeats 4000000 in
set_option maxRecDepth 100000 in
theorem w_X8_closeUp_b7 {p : Program} {l : Launch} {e : Env} {s : State} {m : MethodId} {args : Array Value} {below : List Frame} {meth : Method} {c : Code} {A : Nat → Prop} {G : GG} (cx : CX p s m args c cX8_closeUp RX8 3 G) (hlk : meth.locks = false) (hr : meth.sig.returnType = none) (N : Nat) (a_t a_t_score a_t_good a_t_bad a_t_goodAhead a_t_badAhead a_p1 a_p1_score a_p1_good a_p1_bad a_p1_goodAhead a_p1_badAhead : Nat) (t_goodAhead : Int → Int) (t_badAhead : Int → Int) (p1_size : Int) (p1_score : Int → Int) (p1_good : Int → Int) (p1_bad : Int → Int) (p1_goodAhead : Int → Int) (p1_badAhead : Int → Int) (r : Int × (Int → Int) × (Int → Int) × (Int → Int)) : ∀ n : Nat, ∀ (t_size : Int) (t_score : Int → Int) (t_good : Int → Int) (t_bad : Int → Int) (y2 : Int), m_X8_closeUp_b7 N p1_size p1_score n t_size t_score t_good t_bad y2 = some r → ∀ (H : Heap) (locs : List Loc) (ls : Array Slot), HP G A s.heap H locs [(a_t, .inr (7, [.ref a_t_score, .ref a_t_good, .ref a_t_bad, .ref a_t_goodAhead, .ref a_t_badAhead, .int (kI t_size)])), (a_t_score, cAI G 60 t_score), (a_t_good, cAI G 60 t_good), (a_t_bad, cAI G 60 t_bad), (a_t_goodAhead, cAI G 61 t_goodAhead), (a_t_badAhead, cAI G 61 t_badAhead), (a_p1, .inr (7, [.ref a_p1_score, .ref a_p1_good, .ref a_p1_bad, .ref a_p1_goodAhead, .ref a_p1_badAhead, .int (kI p1_size)])), (a_p1_score, cAI G 60 p1_score), (a_p1_good, cAI G 60 p1_good), (a_p1_bad, cAI G 60 p1_bad), (a_p1_goodAhead, cAI G 61 p1_goodAhead), (a_p1_badAhead, cAI G 61 p1_badAhead)] → lv_has ls 3 [(0, .ref a_t), (1, .ref a_p1), (2, .int (kI y2))] → W p l e (rmD 1 0 0) s m args below meth c H locs 0 0 (MQ below (QcV G A [(a_t, .inr (7, [.ref a_t_score, .ref a_t_good, .ref a_t_bad, .ref a_t_goodAhead, .ref a_t_badAhead, .int (kI r.1)])), (a_t_score, cAI G 60 r.2.1), (a_t_good, cAI G 60 r.2.2.1), (a_t_bad, cAI G 60 r.2.2.2), (a_t_goodAhead, cAI G 61 t_goodAhead), (a_t_badAhead, cAI G 61 t_badAhead), (a_p1, .inr (7, [.ref a_p1_score, .ref a_p1_good, .ref a_p1_bad, .ref a_p1_goodAhead, .ref a_p1_badAhead, .int (kI p1_size)])), (a_p1_score, cAI G 60 p1_score), (a_p1_good, cAI G 60 p1_good), (a_p1_bad, cAI G 60 p1_bad), (a_p1_goodAhead, cAI G 61 p1_goodAhead), (a_p1_badAhead, cAI G 61 p1_badAhead)]) args s (rmD 1 0 0).cells (rmD 1 0 0).slots A) (F0 m 7 ls []) := by
  intro n
  induction n with
  | zero => intro t_size t_score t_good t_bad y2 h; exact nomatch h
  | succ n ih =>
    intro t_size t_score t_good t_bad y2 h H locs ls hw hl
    rw [m_X8_closeUp_b7] at h
    obtain ⟨⟨hx, hb, -, -, -⟩, -⟩ := id cx
    refine lv_iload_n hx hb dX8_closeUp_7 rfl (lv_at hl 2 rfl) ?_
    refine lv_aload_n hx hb dX8_closeUp_8 rfl (lv_at hl 1 rfl) ?_
    refine rf_get hx hb cx hw 6 rfl rfl 5 inX8 (by decide) fl_X8_27 rfl rfl dX8_closeUp_9 ?_
    obtain ⟨g1, h⟩ := gd_some h
    obtain ⟨g2, h⟩ := gd_some h
    refine ri_icmp_ge (tgt := 92) hx hb g1 g2 dX8_closeUp_12 (by decide) (fun c3 => ?_) (fun c3 => ?_)
    · have h := it_pos c3 h
      obtain rfl := so_inj h
      exact re_v hx hb hlk hr cx hw (Nat.le_of_ble_eq_true rfl) (Nat.le_of_ble_eq_true rfl) dX8_closeUp_92
    · have h := it_neg c3 h
      refine lv_aload_n hx hb dX8_closeUp_15 rfl (lv_at hl 0 rfl) ?_
      refine rf_get hx hb cx hw 0 rfl rfl 1 inX8 (by decide) fl_X8_15 rfl rfl dX8_closeUp_16 ?_
      refine lv_iload_n hx hb dX8_closeUp_19 rfl (lv_at hl 2 rfl) ?_
      obtain ⟨g4, h⟩ := gd_some h
      refine ra_i hx hb cx hw 2 rfl (by decide) g4 dX8_closeUp_20 ?_
      refine lv_aload_n hx hb dX8_closeUp_21 rfl (lv_at hl 0 rfl) ?_
      refine rf_get hx hb cx hw 0 rfl rfl 2 inX8 (by decide) fl_X8_18 rfl rfl dX8_closeUp_22 ?_
      refine lv_iload_n hx hb dX8_closeUp_25 rfl (lv_at hl 2 rfl) ?_
      refine ra_i hx hb cx hw 3 rfl (by decide) g4 dX8_closeUp_26 ?_
      refine ri_iadd hx hb dX8_closeUp_27 ?_
      obtain ⟨g5, h⟩ := gd_some h
      refine ri_if_le (tgt := 86) hx hb g5 dX8_closeUp_28 (by decide) (fun c6 => ?_) (fun c6 => ?_)
      · have h := it_pos c6 h
        exact w_X8_closeUp_b86 cx hlk hr N a_t a_t_score a_t_good a_t_bad a_t_goodAhead a_t_badAhead a_p1 a_p1_score a_p1_good a_p1_bad a_p1_goodAhead a_p1_badAhead t_goodAhead t_badAhead p1_size p1_score p1_good p1_bad p1_goodAhead p1_badAhead r (m_X8_closeUp_b7 N p1_size p1_score n) ih t_size t_score t_good t_bad y2 h _ _ _ hw (lv_sub hl [0, 1, 2] rfl)
      · have h := it_neg c6 h
        refine lv_aload_n hx hb dX8_closeUp_31 rfl (lv_at hl 0 rfl) ?_
        refine rf_get hx hb cx hw 0 rfl rfl 0 inX8 (by decide) fl_X8_9 rfl rfl dX8_closeUp_32 ?_
        refine lv_aload_n hx hb dX8_closeUp_35 rfl (lv_at hl 0 rfl) ?_
        refine rf_get hx hb cx hw 0 rfl rfl 5 inX8 (by decide) fl_X8_27 rfl rfl dX8_closeUp_36 ?_
        refine lv_aload_n hx hb dX8_closeUp_39 rfl (lv_at hl 1 rfl) ?_
        refine rf_get hx hb cx hw 6 rfl rfl 0 inX8 (by decide) fl_X8_9 rfl rfl dX8_closeUp_40 ?_
        refine lv_iload_n hx hb dX8_closeUp_43 rfl (lv_at hl 2 rfl) ?_
        refine ra_i hx hb cx hw 7 rfl (by decide) g4 dX8_closeUp_44 ?_
        obtain ⟨g7, h⟩ := gd_some h
        refine ra_si hx hb cx hw 1 rfl (by decide) g7 dX8_closeUp_45 (fun H locs hw => ?_)
        have hw : HP G A s.heap H locs [(a_t, .inr (7, [.ref a_t_score, .ref a_t_good, .ref a_t_bad, .ref a_t_goodAhead, .ref a_t_badAhead, .int (kI t_size)])), (a_t_score, cAI G 60 (uP t_score t_size (p1_score y2))), (a_t_good, cAI G 60 t_good), (a_t_bad, cAI G 60 t_bad), (a_t_goodAhead, cAI G 61 t_goodAhead), (a_t_badAhead, cAI G 61 t_badAhead), (a_p1, .inr (7, [.ref a_p1_score, .ref a_p1_good, .ref a_p1_bad, .ref a_p1_goodAhead, .ref a_p1_badAhead, .int (kI p1_size)])), (a_p1_score, cAI G 60 p1_score), (a_p1_good, cAI G 60 p1_good), (a_p1_bad, cAI G 60 p1_bad), (a_p1_goodAhead, cAI G 61 p1_goodAhead), (a_p1_badAhead, cAI G 61 p1_badAhead)] := hw
        refine lv_aload_n hx hb dX8_closeUp_46 rfl (lv_at hl 0 rfl) ?_
        refine rf_get hx hb cx hw 0 rfl rfl 1 inX8 (by decide) fl_X8_15 rfl rfl dX8_closeUp_47 ?_
        refine lv_aload_n hx hb dX8_closeUp_50 rfl (lv_at hl 0 rfl) ?_
        refine rf_get hx hb cx hw 0 rfl rfl 5 inX8 (by decide) fl_X8_27 rfl rfl dX8_closeUp_51 ?_
        refine lv_aload_n hx hb dX8_closeUp_54 rfl (lv_at hl 0 rfl) ?_
        refine rf_get hx hb cx hw 0 rfl rfl 1 inX8 (by decide) fl_X8_15 rfl rfl dX8_closeUp_55 ?_
        refine lv_iload_n hx hb dX8_closeUp_58 rfl (lv_at hl 2 rfl) ?_
        refine ra_i hx hb cx hw 2 rfl (by decide) g4 dX8_closeUp_59 ?_
        refine ra_si hx hb cx hw 2 rfl (by decide) g7 dX8_closeUp_60 (fun H locs hw => ?_)
        have hw : HP G A s.heap H locs [(a_t, .inr (7, [.ref a_t_score, .ref a_t_good, .ref a_t_bad, .ref a_t_goodAhead, .ref a_t_badAhead, .int (kI t_size)])), (a_t_score, cAI G 60 (uP t_score t_size (p1_score y2))), (a_t_good, cAI G 60 (uP t_good t_size (t_good y2))), (a_t_bad, cAI G 60 t_bad), (a_t_goodAhead, cAI G 61 t_goodAhead), (a_t_badAhead, cAI G 61 t_badAhead), (a_p1, .inr (7, [.ref a_p1_score, .ref a_p1_good, .ref a_p1_bad, .ref a_p1_goodAhead, .ref a_p1_badAhead, .int (kI p1_size)])), (a_p1_score, cAI G 60 p1_score), (a_p1_good, cAI G 60 p1_good), (a_p1_bad, cAI G 60 p1_bad), (a_p1_goodAhead, cAI G 61 p1_goodAhead), (a_p1_badAhead, cAI G 61 p1_badAhead)] := hw
        refine lv_aload_n hx hb dX8_closeUp_61 rfl (lv_at hl 0 rfl) ?_
        refine rf_get hx hb cx hw 0 rfl rfl 2 inX8 (by decide) fl_X8_18 rfl rfl dX8_closeUp_62 ?_
        refine lv_aload_n hx hb dX8_closeUp_65 rfl (lv_at hl 0 rfl) ?_
        refine rf_get hx hb cx hw 0 rfl rfl 5 inX8 (by decide) fl_X8_27 rfl rfl dX8_closeUp_66 ?_
        refine lv_aload_n hx hb dX8_closeUp_69 rfl (lv_at hl 0 rfl) ?_
        refine rf_get hx hb cx hw 0 rfl rfl 2 inX8 (by decide) fl_X8_18 rfl rfl dX8_closeUp_70 ?_
        refine lv_iload_n hx hb dX8_closeUp_73 rfl (lv_at hl 2 rfl) ?_
        refine ra_i hx hb cx hw 3 rfl (by decide) g4 dX8_closeUp_74 ?_
        refine ra_si hx hb cx hw 3 rfl (by decide) g7 dX8_closeUp_75 (fun H locs hw => ?_)
        have hw : HP G A s.heap H locs [(a_t, .inr (7, [.ref a_t_score, .ref a_t_good, .ref a_t_bad, .ref a_t_goodAhead, .ref a_t_badAhead, .int (kI t_size)])), (a_t_score, cAI G 60 (uP t_score t_size (p1_score y2))), (a_t_good, cAI G 60 (uP t_good t_size (t_good y2))), (a_t_bad, cAI G 60 (uP t_bad t_size (t_bad y2))), (a_t_goodAhead, cAI G 61 t_goodAhead), (a_t_badAhead, cAI G 61 t_badAhead), (a_p1, .inr (7, [.ref a_p1_score, .ref a_p1_good, .ref a_p1_bad, .ref a_p1_goodAhead, .ref a_p1_badAhead, .int (kI p1_size)])), (a_p1_score, cAI G 60 p1_score), (a_p1_good, cAI G 60 p1_good), (a_p1_bad, cAI G 60 p1_bad), (a_p1_goodAhead, cAI G 61 p1_goodAhead), (a_p1_badAhead, cAI G 61 p1_badAhead)] := hw
        refine lv_aload_n hx hb dX8_closeUp_76 rfl (lv_at hl 0 rfl) ?_
        refine lv_dup hx hb dX8_closeUp_77 rfl ?_
        refine rf_get hx hb cx hw 0 rfl rfl 5 inX8 (by decide) fl_X8_27 rfl rfl dX8_closeUp_78 ?_
        refine ri_iconst hx hb dX8_closeUp_81 ?_
        refine ri_iadd hx hb dX8_closeUp_82 ?_
        refine rf_put hx hb cx hw 0 rfl rfl 5 inX8 tyX8 tyX8_ok nmX8 (by decide) fl_X8_27 rfl rfl rfl rfl (Nat.le_of_ble_eq_true rfl) dX8_closeUp_83 (fun H locs hw => ?_)
        have hw : HP G A s.heap H locs [(a_t, .inr (7, [.ref a_t_score, .ref a_t_good, .ref a_t_bad, .ref a_t_goodAhead, .ref a_t_badAhead, .int (kI (t_size + 1))])), (a_t_score, cAI G 60 (uP t_score t_size (p1_score y2))), (a_t_good, cAI G 60 (uP t_good t_size (t_good y2))), (a_t_bad, cAI G 60 (uP t_bad t_size (t_bad y2))), (a_t_goodAhead, cAI G 61 t_goodAhead), (a_t_badAhead, cAI G 61 t_badAhead), (a_p1, .inr (7, [.ref a_p1_score, .ref a_p1_good, .ref a_p1_bad, .ref a_p1_goodAhead, .ref a_p1_badAhead, .int (kI p1_size)])), (a_p1_score, cAI G 60 p1_score), (a_p1_good, cAI G 60 p1_good), (a_p1_bad, cAI G 60 p1_bad), (a_p1_goodAhead, cAI G 61 p1_goodAhead), (a_p1_badAhead, cAI G 61 p1_badAhead)] := hw
        exact w_X8_closeUp_b86 cx hlk hr N a_t a_t_score a_t_good a_t_bad a_t_goodAhead a_t_badAhead a_p1 a_p1_score a_p1_good a_p1_bad a_p1_goodAhead a_p1_badAhead t_goodAhead t_badAhead p1_size p1_score p1_good p1_bad p1_goodAhead p1_badAhead r (m_X8_closeUp_b7 N p1_size p1_score n) ih (t_size + 1) (uP t_score t_size (p1_score y2)) (uP t_good t_size (t_good y2)) (uP t_bad t_size (t_bad y2)) y2 h _ _ _ hw (lv_sub hl [0, 1, 2] rfl)
set_option maxHeartbeats 4000000 in
set_option maxRecDepth 100000 in
theorem c_X8_closeUp (l : Launch) (G : GG) (sz : Nat) (N : Nat) (a_t a_t_score a_t_good a_t_bad a_t_goodAhead a_t_badAhead a_p1 a_p1_score a_p1_good a_p1_bad a_p1_goodAhead a_p1_badAhead : Nat) (t_size : Int) (t_score : Int → Int) (t_good : Int → Int) (t_bad : Int → Int) (t_goodAhead : Int → Int) (t_badAhead : Int → Int) (p1_size : Int) (p1_score : Int → Int) (p1_good : Int → Int) (p1_bad : Int → Int) (p1_goodAhead : Int → Int) (p1_badAhead : Int → Int)  (r : Int × (Int → Int) × (Int → Int) × (Int → Int)) (h : m_X8_closeUp N p1_size p1_score t_size t_score t_good t_bad = some r) : CtV l yX8_closeUp cX8_closeUp 3 (rmD 1 0 0) G sz [.ref a_t, .ref a_p1] [(a_t, .inr (7, [.ref a_t_score, .ref a_t_good, .ref a_t_bad, .ref a_t_goodAhead, .ref a_t_badAhead, .int (kI t_size)])), (a_t_score, cAI G 60 t_score), (a_t_good, cAI G 60 t_good), (a_t_bad, cAI G 60 t_bad), (a_t_goodAhead, cAI G 61 t_goodAhead), (a_t_badAhead, cAI G 61 t_badAhead), (a_p1, .inr (7, [.ref a_p1_score, .ref a_p1_good, .ref a_p1_bad, .ref a_p1_goodAhead, .ref a_p1_badAhead, .int (kI p1_size)])), (a_p1_score, cAI G 60 p1_score), (a_p1_good, cAI G 60 p1_good), (a_p1_bad, cAI G 60 p1_bad), (a_p1_goodAhead, cAI G 61 p1_goodAhead), (a_p1_badAhead, cAI G 61 p1_badAhead)] [(a_t, .inr (7, [.ref a_t_score, .ref a_t_good, .ref a_t_bad, .ref a_t_goodAhead, .ref a_t_badAhead, .int (kI r.1)])), (a_t_score, cAI G 60 r.2.1), (a_t_good, cAI G 60 r.2.2.1), (a_t_bad, cAI G 60 r.2.2.2), (a_t_goodAhead, cAI G 61 t_goodAhead), (a_t_badAhead, cAI G 61 t_badAhead), (a_p1, .inr (7, [.ref a_p1_score, .ref a_p1_good, .ref a_p1_bad, .ref a_p1_goodAhead, .ref a_p1_badAhead, .int (kI p1_size)])), (a_p1_score, cAI G 60 p1_score), (a_p1_good, cAI G 60 p1_good), (a_p1_bad, cAI G 60 p1_bad), (a_p1_goodAhead, cAI G 61 p1_goodAhead), (a_p1_badAhead, cAI G 61 p1_badAhead)] := by
  refine met_of (Qc := fun A => QcV G A [(a_t, .inr (7, [.ref a_t_score, .ref a_t_good, .ref a_t_bad, .ref a_t_goodAhead, .ref a_t_badAhead, .int (kI r.1)])), (a_t_score, cAI G 60 r.2.1), (a_t_good, cAI G 60 r.2.2.1), (a_t_bad, cAI G 60 r.2.2.2), (a_t_goodAhead, cAI G 61 t_goodAhead), (a_t_badAhead, cAI G 61 t_badAhead), (a_p1, .inr (7, [.ref a_p1_score, .ref a_p1_good, .ref a_p1_bad, .ref a_p1_goodAhead, .ref a_p1_badAhead, .int (kI p1_size)])), (a_p1_score, cAI G 60 p1_score), (a_p1_good, cAI G 60 p1_good), (a_p1_bad, cAI G 60 p1_bad), (a_p1_goodAhead, cAI G 61 p1_goodAhead), (a_p1_badAhead, cAI G 61 p1_badAhead)]) (by decide +kernel) (Nat.le_of_ble_eq_true rfl) ?_
  intro p e s m args below meth c A H locs ls cx hw hr hlk hnm hl
  have hl : lv_has ls 3 [(0, .ref a_t), (1, .ref a_p1)] := hl
  rw [m_X8_closeUp] at h
  obtain ⟨⟨hx, hb, -, -, -⟩, -⟩ := id cx
  refine lv_aload_n hx hb dX8_closeUp_0 rfl (lv_at hl 0 rfl) ?_
  refine ri_iconst hx hb dX8_closeUp_1 ?_
  refine rf_put hx hb cx hw 0 rfl rfl 5 inX8 tyX8 tyX8_ok nmX8 (by decide) fl_X8_27 rfl rfl rfl rfl (Nat.le_of_ble_eq_true rfl) dX8_closeUp_2 (fun H locs hw => ?_)
  have hw : HP G A s.heap H locs [(a_t, .inr (7, [.ref a_t_score, .ref a_t_good, .ref a_t_bad, .ref a_t_goodAhead, .ref a_t_badAhead, .int (kI 0)])), (a_t_score, cAI G 60 t_score), (a_t_good, cAI G 60 t_good), (a_t_bad, cAI G 60 t_bad), (a_t_goodAhead, cAI G 61 t_goodAhead), (a_t_badAhead, cAI G 61 t_badAhead), (a_p1, .inr (7, [.ref a_p1_score, .ref a_p1_good, .ref a_p1_bad, .ref a_p1_goodAhead, .ref a_p1_badAhead, .int (kI p1_size)])), (a_p1_score, cAI G 60 p1_score), (a_p1_good, cAI G 60 p1_good), (a_p1_bad, cAI G 60 p1_bad), (a_p1_goodAhead, cAI G 61 p1_goodAhead), (a_p1_badAhead, cAI G 61 p1_badAhead)] := hw
  refine ri_iconst hx hb dX8_closeUp_5 ?_
  refine lv_istore_n (lv' := [(2, .int (kI 0)), (0, .ref a_t), (1, .ref a_p1)]) hx hb dX8_closeUp_6 rfl hl (by decide) rfl (fun ls hl => ?_)
  exact w_X8_closeUp_b7 cx hlk hr N a_t a_t_score a_t_good a_t_bad a_t_goodAhead a_t_badAhead a_p1 a_p1_score a_p1_good a_p1_bad a_p1_goodAhead a_p1_badAhead t_goodAhead t_badAhead p1_size p1_score p1_good p1_bad p1_goodAhead p1_badAhead r N 0 t_score t_good t_bad 0 h _ _ _ hw (lv_sub hl [1, 2, 0] rfl)
set_option maxHeartbeats 4000000 in
set_option maxRecDepth 100000 in
theorem w_X8_drawFrom_b111 {p : Program} {l : Launch} {e : Env} {s : State} {m : MethodId} {args : Array Value} {below : List Frame} {meth : Method} {c : Code} {A : Nat → Prop} {G : GG} (cx : CX p s m args c cX8_drawFrom RX8 10 G) (hlk : meth.locks = false) (hr : meth.sig.returnType = none) (N : Nat) (a_t a_t_score a_t_good a_t_bad a_t_goodAhead a_t_badAhead a_p1 a_p1_score a_p1_good a_p1_bad a_p1_goodAhead a_p1_badAhead : Nat) (p1_size : Int) (p1_score : Int → Int) (p1_good : Int → Int) (p1_bad : Int → Int) (p1_goodAhead : Int → Int) (p1_badAhead : Int → Int) (x2 : Int) (r : Int × (Int → Int) × (Int → Int) × (Int → Int) × (Int → Int) × (Int → Int)) (k28 : Int → (Int → Int) → (Int → Int) → (Int → Int) → (Int → Int) → (Int → Int) → Int → Int → Int → Option (Int × (Int → Int) × (Int → Int) × (Int → Int) × (Int → Int) × (Int → Int))) (hk28 : ∀ (t_size : Int) (t_score : Int → Int) (t_good : Int → Int) (t_bad : Int → Int) (t_goodAhead : Int → Int) (t_badAhead : Int → Int) (y4 : Int) (y5 : Int) (y7 : Int), k28 t_size t_score t_good t_bad t_goodAhead t_badAhead y4 y5 y7 = some r → ∀ (H : Heap) (locs : List Loc) (ls : Array Slot), HP G A s.heap H locs [(a_t, .inr (7, [.ref a_t_score, .ref a_t_good, .ref a_t_bad, .ref a_t_goodAhead, .ref a_t_badAhead, .int (kI t_size)])), (a_t_score, cAI G 60 t_score), (a_t_good, cAI G 60 t_good), (a_t_bad, cAI G 60 t_bad), (a_t_goodAhead, cAI G 61 t_goodAhead), (a_t_badAhead, cAI G 61 t_badAhead), (a_p1, .inr (7, [.ref a_p1_score, .ref a_p1_good, .ref a_p1_bad, .ref a_p1_goodAhead, .ref a_p1_badAhead, .int (kI p1_size)])), (a_p1_score, cAI G 60 p1_score), (a_p1_good, cAI G 60 p1_good), (a_p1_bad, cAI G 60 p1_bad), (a_p1_goodAhead, cAI G 61 p1_goodAhead), (a_p1_badAhead, cAI G 61 p1_badAhead)] → lv_has ls 10 [(0, .ref a_t), (1, .ref a_p1), (4, .int (kI y4)), (5, .long (kL y5)), (7, .int (kI y7))] → W p l e (rmD 3 0 0) s m args below meth c H locs 0 0 (MQ below (QcV G A [(a_t, .inr (7, [.ref a_t_score, .ref a_t_good, .ref a_t_bad, .ref a_t_goodAhead, .ref a_t_badAhead, .int (kI r.1)])), (a_t_score, cAI G 60 r.2.1), (a_t_good, cAI G 60 r.2.2.1), (a_t_bad, cAI G 60 r.2.2.2.1), (a_t_goodAhead, cAI G 61 r.2.2.2.2.1), (a_t_badAhead, cAI G 61 r.2.2.2.2.2), (a_p1, .inr (7, [.ref a_p1_score, .ref a_p1_good, .ref a_p1_bad, .ref a_p1_goodAhead, .ref a_p1_badAhead, .int (kI p1_size)])), (a_p1_score, cAI G 60 p1_score), (a_p1_good, cAI G 60 p1_good), (a_p1_bad, cAI G 60 p1_bad), (a_p1_goodAhead, cAI G 61 p1_goodAhead), (a_p1_badAhead, cAI G 61 p1_badAhead)]) args s (rmD 3 0 0).cells (rmD 3 0 0).slots A) (F0 m 28 ls [])) : ∀ (t_size : Int) (t_score : Int → Int) (t_good : Int → Int) (t_bad : Int → Int) (t_goodAhead : Int → Int) (t_badAhead : Int → Int) (y4 : Int) (y5 : Int) (y7 : Int), m_X8_drawFrom_b111 N p1_size p1_score p1_good p1_goodAhead p1_badAhead x2 k28 t_size t_score t_good t_bad t_goodAhead t_badAhead y4 y5 y7 = some r → ∀ (H : Heap) (locs : List Loc) (ls : Array Slot), HP G A s.heap H locs [(a_t, .inr (7, [.ref a_t_score, .ref a_t_good, .ref a_t_bad, .ref a_t_goodAhead, .ref a_t_badAhead, .int (kI t_size)])), (a_t_score, cAI G 60 t_score), (a_t_good, cAI G 60 t_good), (a_t_bad, cAI G 60 t_bad), (a_t_goodAhead, cAI G 61 t_goodAhead), (a_t_badAhead, cAI G 61 t_badAhead), (a_p1, .inr (7, [.ref a_p1_score, .ref a_p1_good, .ref a_p1_bad, .ref a_p1_goodAhead, .ref a_p1_badAhead, .int (kI p1_size)])), (a_p1_score, cAI G 60 p1_score), (a_p1_good, cAI G 60 p1_good), (a_p1_bad, cAI G 60 p1_bad), (a_p1_goodAhead, cAI G 61 p1_goodAhead), (a_p1_badAhead, cAI G 61 p1_badAhead)] → lv_has ls 10 [(0, .ref a_t), (1, .ref a_p1), (4, .int (kI y4)), (5, .long (kL y5)), (7, .int (kI y7))] → W p l e (rmD 3 0 0) s m args below meth c H locs 0 0 (MQ below (QcV G A [(a_t, .inr (7, [.ref a_t_score, .ref a_t_good, .ref a_t_bad, .ref a_t_goodAhead, .ref a_t_badAhead, .int (kI r.1)])), (a_t_score, cAI G 60 r.2.1), (a_t_good, cAI G 60 r.2.2.1), (a_t_bad, cAI G 60 r.2.2.2.1), (a_t_goodAhead, cAI G 61 r.2.2.2.2.1), (a_t_badAhead, cAI G 61 r.2.2.2.2.2), (a_p1, .inr (7, [.ref a_p1_score, .ref a_p1_good, .ref a_p1_bad, .ref a_p1_goodAhead, .ref a_p1_badAhead, .int (kI p1_size)])), (a_p1_score, cAI G 60 p1_score), (a_p1_good, cAI G 60 p1_good), (a_p1_bad, cAI G 60 p1_bad), (a_p1_goodAhead, cAI G 61 p1_goodAhead), (a_p1_badAhead, cAI G 61 p1_badAhead)]) args s (rmD 3 0 0).cells (rmD 3 0 0).slots A) (F0 m 111 ls []) := by
  intro t_size t_score t_good t_bad t_goodAhead t_badAhead y4 y5 y7 h H locs ls hw hl
  rw [m_X8_drawFrom_b111] at h
  obtain ⟨⟨hx, hb, -, -, -⟩, -⟩ := id cx
  refine lv_iinc (v := kI (y7 + 1)) (lv' := [(7, .int (kI (y7 + 1))), (0, .ref a_t), (1, .ref a_p1), (4, .int (kI y4)), (5, .long (kL y5))]) hx hb dX8_drawFrom_111 hl (k := 4) rfl (kI_add _ _) (by decide) rfl (fun ls hl => ?_)
  refine lv_goto (tgt := 28) hx hb dX8_drawFrom_114 (by decide) ?_
  exact hk28 t_size t_score t_good t_bad t_goodAhead t_badAhead y4 y5 (y7 + 1) h _ _ _ hw (lv_sub hl [1, 2, 3, 4, 0] rfl)
set_option maxHeartbeats 4000000 in
set_option maxRecDepth 100000 in
theorem w_X8_drawFrom_b28 {p : Program} {l : Launch} {e : Env} {s : State} {m : MethodId} {args : Array Value} {below : List Frame} {meth : Method} {c : Code} {A : Nat → Prop} {G : GG} (cx : CX p s m args c cX8_drawFrom RX8 10 G) (hlk : meth.locks = false) (hr : meth.sig.returnType = none) (N : Nat) (a_t a_t_score a_t_good a_t_bad a_t_goodAhead a_t_badAhead a_p1 a_p1_score a_p1_good a_p1_bad a_p1_goodAhead a_p1_badAhead : Nat) (p1_size : Int) (p1_score : Int → Int) (p1_good : Int → Int) (p1_bad : Int → Int) (p1_goodAhead : Int → Int) (p1_badAhead : Int → Int) (x2 : Int) (r : Int × (Int → Int) × (Int → Int) × (Int → Int) × (Int → Int) × (Int → Int)) : ∀ n : Nat, ∀ (t_size : Int) (t_score : Int → Int) (t_good : Int → Int) (t_bad : Int → Int) (t_goodAhead : Int → Int) (t_badAhead : Int → Int) (y4 : Int) (y5 : Int) (y7 : Int), m_X8_drawFrom_b28 N p1_size p1_score p1_good p1_goodAhead p1_badAhead x2 n t_size t_score t_good t_bad t_goodAhead t_badAhead y4 y5 y7 = some r → ∀ (H : Heap) (locs : List Loc) (ls : Array Slot), HP G A s.heap H locs [(a_t, .inr (7, [.ref a_t_score, .ref a_t_good, .ref a_t_bad, .ref a_t_goodAhead, .ref a_t_badAhead, .int (kI t_size)])), (a_t_score, cAI G 60 t_score), (a_t_good, cAI G 60 t_good), (a_t_bad, cAI G 60 t_bad), (a_t_goodAhead, cAI G 61 t_goodAhead), (a_t_badAhead, cAI G 61 t_badAhead), (a_p1, .inr (7, [.ref a_p1_score, .ref a_p1_good, .ref a_p1_bad, .ref a_p1_goodAhead, .ref a_p1_badAhead, .int (kI p1_size)])), (a_p1_score, cAI G 60 p1_score), (a_p1_good, cAI G 60 p1_good), (a_p1_bad, cAI G 60 p1_bad), (a_p1_goodAhead, cAI G 61 p1_goodAhead), (a_p1_badAhead, cAI G 61 p1_badAhead)] → lv_has ls 10 [(0, .ref a_t), (1, .ref a_p1), (4, .int (kI y4)), (5, .long (kL y5)), (7, .int (kI y7))] → W p l e (rmD 3 0 0) s m args below meth c H locs 0 0 (MQ below (QcV G A [(a_t, .inr (7, [.ref a_t_score, .ref a_t_good, .ref a_t_bad, .ref a_t_goodAhead, .ref a_t_badAhead, .int (kI r.1)])), (a_t_score, cAI G 60 r.2.1), (a_t_good, cAI G 60 r.2.2.1), (a_t_bad, cAI G 60 r.2.2.2.1), (a_t_goodAhead, cAI G 61 r.2.2.2.2.1), (a_t_badAhead, cAI G 61 r.2.2.2.2.2), (a_p1, .inr (7, [.ref a_p1_score, .ref a_p1_good, .ref a_p1_bad, .ref a_p1_goodAhead, .ref a_p1_badAhead, .int (kI p1_size)])), (a_p1_score, cAI G 60 p1_score), (a_p1_good, cAI G 60 p1_good), (a_p1_bad, cAI G 60 p1_bad), (a_p1_goodAhead, cAI G 61 p1_goodAhead), (a_p1_badAhead, cAI G 61 p1_badAhead)]) args s (rmD 3 0 0).cells (rmD 3 0 0).slots A) (F0 m 28 ls []) := by
  intro n
  induction n with
  | zero => intro t_size t_score t_good t_bad t_goodAhead t_badAhead y4 y5 y7 h; exact nomatch h
  | succ n ih =>
    intro t_size t_score t_good t_bad t_goodAhead t_badAhead y4 y5 y7 h H locs ls hw hl
    rw [m_X8_drawFrom_b28] at h
    obtain ⟨⟨hx, hb, -, -, -⟩, -⟩ := id cx
    refine lv_iload hx hb dX8_drawFrom_28 (lv_at hl 4 rfl) ?_
    refine lv_iload hx hb dX8_drawFrom_30 (lv_at hl 2 rfl) ?_
    obtain ⟨g1, h⟩ := gd_some h
    obtain ⟨g2, h⟩ := gd_some h
    refine ri_icmp_ge (tgt := 117) hx hb g1 g2 dX8_drawFrom_32 (by decide) (fun c3 => ?_) (fun c3 => ?_)
    · have h := it_pos c3 h
      refine lv_aload_n hx hb dX8_drawFrom_117 rfl (lv_at hl 0 rfl) ?_
      refine lv_aload_n hx hb dX8_drawFrom_118 rfl (lv_at hl 1 rfl) ?_
      obtain ⟨r4, h4, h⟩ := bd_some h
      refine rc_V (w2 := [(a_t, .inr (7, [.ref a_t_score, .ref a_t_good, .ref a_t_bad, .ref a_t_goodAhead, .ref a_t_badAhead, .int (kI r4.1)])), (a_t_score, cAI G 60 r4.2.1), (a_t_good, cAI G 60 r4.2.2.1), (a_t_bad, cAI G 60 r4.2.2.2), (a_t_goodAhead, cAI G 61 t_goodAhead), (a_t_badAhead, cAI G 61 t_badAhead), (a_p1, .inr (7, [.ref a_p1_score, .ref a_p1_good, .ref a_p1_bad, .ref a_p1_goodAhead, .ref a_p1_badAhead, .int (kI p1_size)])), (a_p1_score, cAI G 60 p1_score), (a_p1_good, cAI G 60 p1_good), (a_p1_bad, cAI G 60 p1_bad), (a_p1_goodAhead, cAI G 61 p1_goodAhead), (a_p1_badAhead, cAI G 61 p1_badAhead)]) hw [0, 1, 2, 3, 4, 5, 6, 7, 8, 9, 10, 11] [] [0, 1, 2, 3, 4, 5, 6, 7, 8, 9, 10, 11] (rr_V cx hw (c_X8_closeUp l G H.size N a_t a_t_score a_t_good a_t_bad a_t_goodAhead a_t_badAhead a_p1 a_p1_score a_p1_good a_p1_bad a_p1_goodAhead a_p1_badAhead t_size t_score t_good t_bad t_goodAhead t_badAhead p1_size p1_score p1_good p1_bad p1_goodAhead p1_badAhead _ h4) mv_X8_59 [0, 1, 2, 3, 4, 5, 6, 7, 8, 9, 10, 11] rfl rfl rfl 0 rfl rfl ⟨Nat.le_of_ble_eq_true rfl, Nat.le_of_ble_eq_true rfl⟩ rfl hl.1 rfl (Nat.le_of_ble_eq_true rfl) dX8_drawFrom_119 ⟨Nat.le_of_ble_eq_true rfl, Nat.le_of_ble_eq_true rfl⟩) rfl rfl rfl rfl rfl rfl rfl rfl (fun H locs hw => ?_)
      refine lv_aload_n hx hb dX8_drawFrom_122 rfl (lv_at hl 0 rfl) ?_
      obtain ⟨r5, h5, h⟩ := bd_some h
      refine rc_V (w2 := [(a_t, .inr (7, [.ref a_t_score, .ref a_t_good, .ref a_t_bad, .ref a_t_goodAhead, .ref a_t_badAhead, .int (kI r4.1)])), (a_t_score, cAI G 60 r4.2.1), (a_t_good, cAI G 60 r4.2.2.1), (a_t_bad, cAI G 60 r4.2.2.2), (a_t_goodAhead, cAI G 61 r5.1), (a_t_badAhead, cAI G 61 r5.2), (a_p1, .inr (7, [.ref a_p1_score, .ref a_p1_good, .ref a_p1_bad, .ref a_p1_goodAhead, .ref a_p1_badAhead, .int (kI p1_size)])), (a_p1_score, cAI G 60 p1_score), (a_p1_good, cAI G 60 p1_good), (a_p1_bad, cAI G 60 p1_bad), (a_p1_goodAhead, cAI G 61 p1_goodAhead), (a_p1_badAhead, cAI G 61 p1_badAhead)]) hw [0, 1, 2, 3, 4, 5] [6, 7, 8, 9, 10, 11] [6, 7, 8, 9, 10, 11, 0, 1, 2, 3, 4, 5] (rr_V cx hw (c_X8_sumUp l G H.size N a_t a_t_score a_t_good a_t_bad a_t_goodAhead a_t_badAhead r4.1 r4.2.1 r4.2.2.1 r4.2.2.2 t_goodAhead t_badAhead _ h5) mv_X8_35 [0, 1, 2, 3, 4, 5] rfl rfl rfl 0 rfl rfl ⟨Nat.le_of_ble_eq_true rfl, Nat.le_of_ble_eq_true rfl⟩ rfl hl.1 rfl (Nat.le_of_ble_eq_true rfl) dX8_drawFrom_123 ⟨Nat.le_of_ble_eq_true rfl, Nat.le_of_ble_eq_true rfl⟩) rfl rfl rfl rfl rfl rfl rfl rfl (fun H locs hw => ?_)
      obtain rfl := so_inj h
      exact re_v hx hb hlk hr cx hw (Nat.le_of_ble_eq_true rfl) (Nat.le_of_ble_eq_true rfl) dX8_drawFrom_126
    · have h := it_neg c3 h
      refine lv_lload hx hb dX8_drawFrom_35 (lv_at hl 3 rfl) ?_
      refine lv_ldc2 (v := kL 6364136223846793005) hx hb cx.1.2.2.2.1 (cx.1.2.2.2.2 _ kc_X8_48) dX8_drawFrom_37 ?_
      refine ri_lmul hx hb dX8_drawFrom_40 ?_
      refine lv_ldc2 (v := kL 1442695040888963407) hx hb cx.1.2.2.2.1 (cx.1.2.2.2.2 _ kc_X8_50) dX8_drawFrom_41 ?_
      refine ri_ladd hx hb dX8_drawFrom_44 ?_
      refine lv_lstore (lv' := [(5, .long (kL ((y5 * 6364136223846793005) + 1442695040888963407))), (0, .ref a_t), (1, .ref a_p1), (4, .int (kI y4)), (7, .int (kI y7))]) hx hb dX8_drawFrom_45 hl (by decide) rfl (fun ls hl => ?_)
      refine lv_lload hx hb dX8_drawFrom_47 (lv_at hl 0 rfl) ?_
      refine ri_bipush hx hb dX8_drawFrom_49 rfl ?_
      refine ri_lushr (q := 8589934592) hx hb ⟨by decide, by decide⟩ rfl dX8_drawFrom_51 ?_
      refine lv_iload hx hb dX8_drawFrom_52 (lv_at hl 3 rfl) ?_
      refine ri_i2l hx hb g2 dX8_drawFrom_54 ?_
      obtain ⟨g6, h⟩ := gd_some h
      refine ri_lrem hx hb g6 dX8_drawFrom_55 ?_
      refine ri_l2i hx hb dX8_drawFrom_56 ?_
      refine lv_istore (lv' := [(8, .int (kI ((((y5 * 6364136223846793005) + 1442695040888963407) % 18446744073709551616 / 8589934592) % y4))), (5, .long (kL ((y5 * 6364136223846793005) + 1442695040888963407))), (0, .ref a_t), (1, .ref a_p1), (4, .int (kI y4)), (7, .int (kI y7))]) hx hb dX8_drawFrom_57 hl (by decide) rfl (fun ls hl => ?_)
      refine lv_aload_n hx hb dX8_drawFrom_59 rfl (lv_at hl 3 rfl) ?_
      refine lv_iload hx hb dX8_drawFrom_60 (lv_at hl 0 rfl) ?_
      obtain ⟨r7, h7, h⟩ := bd_some h
      refine rc_I0 (v := r7) hw [6, 7, 8, 9, 10, 11] (rr_V cx hw (c_X8_holder l G H.size N a_p1 a_p1_score a_p1_good a_p1_bad a_p1_goodAhead a_p1_badAhead p1_size p1_score p1_good p1_bad p1_goodAhead p1_badAhead ((((y5 * 6364136223846793005) + 1442695040888963407) % 18446744073709551616 / 8589934592) % y4) _ h7) mv_X8_52 [6, 7, 8, 9, 10, 11] rfl rfl rfl 6 rfl rfl ⟨Nat.le_of_ble_eq_true rfl, Nat.le_of_ble_eq_true rfl⟩ rfl hl.1 rfl (Nat.le_of_ble_eq_true rfl) dX8_drawFrom_62 ⟨Nat.le_of_ble_eq_true rfl, Nat.le_of_ble_eq_true rfl⟩) rfl rfl (fun H locs hw => ?_)
      refine lv_istore (lv' := [(9, .int (kI r7)), (8, .int (kI ((((y5 * 6364136223846793005) + 1442695040888963407) % 18446744073709551616 / 8589934592) % y4))), (5, .long (kL ((y5 * 6364136223846793005) + 1442695040888963407))), (0, .ref a_t), (1, .ref a_p1), (4, .int (kI y4)), (7, .int (kI y7))]) hx hb dX8_drawFrom_65 hl (by decide) rfl (fun ls hl => ?_)
      refine lv_iload hx hb dX8_drawFrom_67 (lv_at hl 1 rfl) ?_
      refine lv_aload_n hx hb dX8_drawFrom_69 rfl (lv_at hl 4 rfl) ?_
      refine lv_iload hx hb dX8_drawFrom_70 (lv_at hl 0 rfl) ?_
      obtain ⟨r8, h8, h⟩ := bd_some h
      refine rc_I0 (v := r8) hw [6, 7, 8, 9, 10, 11] (rr_V cx hw (c_X8_casesAhead l G H.size N a_p1 a_p1_score a_p1_good a_p1_bad a_p1_goodAhead a_p1_badAhead p1_size p1_score p1_good p1_bad p1_goodAhead p1_badAhead r7 _ h8) mv_X8_56 [6, 7, 8, 9, 10, 11] rfl rfl rfl 6 rfl rfl ⟨Nat.le_of_ble_eq_true rfl, Nat.le_of_ble_eq_true rfl⟩ rfl hl.1 rfl (Nat.le_of_ble_eq_true rfl) dX8_drawFrom_72 ⟨Nat.le_of_ble_eq_true rfl, Nat.le_of_ble_eq_true rfl⟩) rfl rfl (fun H locs hw => ?_)
      refine ri_isub hx hb dX8_drawFrom_75 ?_
      refine lv_aload_n hx hb dX8_drawFrom_76 rfl (lv_at hl 4 rfl) ?_
      refine rf_get hx hb cx hw 6 rfl rfl 1 inX8 (by decide) fl_X8_15 rfl rfl dX8_drawFrom_77 ?_
      refine lv_iload hx hb dX8_drawFrom_80 (lv_at hl 0 rfl) ?_
      obtain ⟨g9, h⟩ := gd_some h
      refine ra_i hx hb cx hw 8 rfl (by decide) g9 dX8_drawFrom_82 ?_
      obtain ⟨g10, h⟩ := gd_some h
      obtain ⟨g11, h⟩ := gd_some h
      refine ri_icmp_ge (tgt := 100) hx hb g10 g11 dX8_drawFrom_83 (by decide) (fun c12 => ?_) (fun c12 => ?_)
      · have h := it_pos c12 h
        refine lv_aload_n hx hb dX8_drawFrom_100 rfl (lv_at hl 3 rfl) ?_
        refine rf_get hx hb cx hw 0 rfl rfl 2 inX8 (by decide) fl_X8_18 rfl rfl dX8_drawFrom_101 ?_
        refine lv_iload hx hb dX8_drawFrom_104 (lv_at hl 0 rfl) ?_
        refine lv_dup2_11 hx hb dX8_drawFrom_106 rfl rfl ?_
        refine ra_i hx hb cx hw 3 rfl (by decide) g9 dX8_drawFrom_107 ?_
        refine ri_iconst hx hb dX8_drawFrom_108 ?_
        refine ri_iadd hx hb dX8_drawFrom_109 ?_
        refine ra_si hx hb cx hw 3 rfl (by decide) g9 dX8_drawFrom_110 (fun H locs hw => ?_)
        have hw : HP G A s.heap H locs [(a_t, .inr (7, [.ref a_t_score, .ref a_t_good, .ref a_t_bad, .ref a_t_goodAhead, .ref a_t_badAhead, .int (kI t_size)])), (a_t_score, cAI G 60 t_score), (a_t_good, cAI G 60 t_good), (a_t_bad, cAI G 60 (uP t_bad r7 ((t_bad r7) + 1))), (a_t_goodAhead, cAI G 61 t_goodAhead), (a_t_badAhead, cAI G 61 t_badAhead), (a_p1, .inr (7, [.ref a_p1_score, .ref a_p1_good, .ref a_p1_bad, .ref a_p1_goodAhead, .ref a_p1_badAhead, .int (kI p1_size)])), (a_p1_score, cAI G 60 p1_score), (a_p1_good, cAI G 60 p1_good), (a_p1_bad, cAI G 60 p1_bad), (a_p1_goodAhead, cAI G 61 p1_goodAhead), (a_p1_badAhead, cAI G 61 p1_badAhead)] := hw
        exact w_X8_drawFrom_b111 cx hlk hr N a_t a_t_score a_t_good a_t_bad a_t_goodAhead a_t_badAhead a_p1 a_p1_score a_p1_good a_p1_bad a_p1_goodAhead a_p1_badAhead p1_size p1_score p1_good p1_bad p1_goodAhead p1_badAhead x2 r (m_X8_drawFrom_b28 N p1_size p1_score p1_good p1_goodAhead p1_badAhead x2 n) ih t_size t_score t_good (uP t_bad r7 ((t_bad r7) + 1)) t_goodAhead t_badAhead y4 ((y5 * 6364136223846793005) + 1442695040888963407) y7 h _ _ _ hw (lv_sub hl [3, 4, 5, 2, 6] rfl)
      · have h := it_neg c12 h
        refine lv_aload_n hx hb dX8_drawFrom_86 rfl (lv_at hl 3 rfl) ?_
        refine rf_get hx hb cx hw 0 rfl rfl 1 inX8 (by decide) fl_X8_15 rfl rfl dX8_drawFrom_87 ?_
        refine lv_iload hx hb dX8_drawFrom_90 (lv_at hl 0 rfl) ?_
        refine lv_dup2_11 hx hb dX8_drawFrom_92 rfl rfl ?_
        refine ra_i hx hb cx hw 2 rfl (by decide) g9 dX8_drawFrom_93 ?_
        refine ri_iconst hx hb dX8_drawFrom_94 ?_
        refine ri_iadd hx hb dX8_drawFrom_95 ?_
        refine ra_si hx hb cx hw 2 rfl (by decide) g9 dX8_drawFrom_96 (fun H locs hw => ?_)
        have hw : HP G A s.heap H locs [(a_t, .inr (7, [.ref a_t_score, .ref a_t_good, .ref a_t_bad, .ref a_t_goodAhead, .ref a_t_badAhead, .int (kI t_size)])), (a_t_score, cAI G 60 t_score), (a_t_good, cAI G 60 (uP t_good r7 ((t_good r7) + 1))), (a_t_bad, cAI G 60 t_bad), (a_t_goodAhead, cAI G 61 t_goodAhead), (a_t_badAhead, cAI G 61 t_badAhead), (a_p1, .inr (7, [.ref a_p1_score, .ref a_p1_good, .ref a_p1_bad, .ref a_p1_goodAhead, .ref a_p1_badAhead, .int (kI p1_size)])), (a_p1_score, cAI G 60 p1_score), (a_p1_good, cAI G 60 p1_good), (a_p1_bad, cAI G 60 p1_bad), (a_p1_goodAhead, cAI G 61 p1_goodAhead), (a_p1_badAhead, cAI G 61 p1_badAhead)] := hw
        refine lv_goto (tgt := 111) hx hb dX8_drawFrom_97 (by decide) ?_
        exact w_X8_drawFrom_b111 cx hlk hr N a_t a_t_score a_t_good a_t_bad a_t_goodAhead a_t_badAhead a_p1 a_p1_score a_p1_good a_p1_bad a_p1_goodAhead a_p1_badAhead p1_size p1_score p1_good p1_bad p1_goodAhead p1_badAhead x2 r (m_X8_drawFrom_b28 N p1_size p1_score p1_good p1_goodAhead p1_badAhead x2 n) ih t_size t_score (uP t_good r7 ((t_good r7) + 1)) t_bad t_goodAhead t_badAhead y4 ((y5 * 6364136223846793005) + 1442695040888963407) y7 h _ _ _ hw (lv_sub hl [3, 4, 5, 2, 6] rfl)
set_option maxHeartbeats 4000000 in
set_option maxRecDepth 100000 in
theorem c_X8_drawFrom (l : Launch) (G : GG) (sz : Nat) (N : Nat) (a_t a_t_score a_t_good a_t_bad a_t_goodAhead a_t_badAhead a_p1 a_p1_score a_p1_good a_p1_bad a_p1_goodAhead a_p1_badAhead : Nat) (t_size : Int) (t_score : Int → Int) (t_good : Int → Int) (t_bad : Int → Int) (t_goodAhead : Int → Int) (t_badAhead : Int → Int) (p1_size : Int) (p1_score : Int → Int) (p1_good : Int → Int) (p1_bad : Int → Int) (p1_goodAhead : Int → Int) (p1_badAhead : Int → Int) (x2 : Int) (r : Int × (Int → Int) × (Int → Int) × (Int → Int) × (Int → Int) × (Int → Int)) (h : m_X8_drawFrom N p1_size p1_score p1_good p1_goodAhead p1_badAhead t_size t_score t_good t_bad t_goodAhead t_badAhead x2 = some r) : CtV l yX8_drawFrom cX8_drawFrom 10 (rmD 3 0 0) G sz [.ref a_t, .ref a_p1, .long (kL x2)] [(a_t, .inr (7, [.ref a_t_score, .ref a_t_good, .ref a_t_bad, .ref a_t_goodAhead, .ref a_t_badAhead, .int (kI t_size)])), (a_t_score, cAI G 60 t_score), (a_t_good, cAI G 60 t_good), (a_t_bad, cAI G 60 t_bad), (a_t_goodAhead, cAI G 61 t_goodAhead), (a_t_badAhead, cAI G 61 t_badAhead), (a_p1, .inr (7, [.ref a_p1_score, .ref a_p1_good, .ref a_p1_bad, .ref a_p1_goodAhead, .ref a_p1_badAhead, .int (kI p1_size)])), (a_p1_score, cAI G 60 p1_score), (a_p1_good, cAI G 60 p1_good), (a_p1_bad, cAI G 60 p1_bad), (a_p1_goodAhead, cAI G 61 p1_goodAhead), (a_p1_badAhead, cAI G 61 p1_badAhead)] [(a_t, .inr (7, [.ref a_t_score, .ref a_t_good, .ref a_t_bad, .ref a_t_goodAhead, .ref a_t_badAhead, .int (kI r.1)])), (a_t_score, cAI G 60 r.2.1), (a_t_good, cAI G 60 r.2.2.1), (a_t_bad, cAI G 60 r.2.2.2.1), (a_t_goodAhead, cAI G 61 r.2.2.2.2.1), (a_t_badAhead, cAI G 61 r.2.2.2.2.2), (a_p1, .inr (7, [.ref a_p1_score, .ref a_p1_good, .ref a_p1_bad, .ref a_p1_goodAhead, .ref a_p1_badAhead, .int (kI p1_size)])), (a_p1_score, cAI G 60 p1_score), (a_p1_good, cAI G 60 p1_good), (a_p1_bad, cAI G 60 p1_bad), (a_p1_goodAhead, cAI G 61 p1_goodAhead), (a_p1_badAhead, cAI G 61 p1_badAhead)] := by
  refine met_of (Qc := fun A => QcV G A [(a_t, .inr (7, [.ref a_t_score, .ref a_t_good, .ref a_t_bad, .ref a_t_goodAhead, .ref a_t_badAhead, .int (kI r.1)])), (a_t_score, cAI G 60 r.2.1), (a_t_good, cAI G 60 r.2.2.1), (a_t_bad, cAI G 60 r.2.2.2.1), (a_t_goodAhead, cAI G 61 r.2.2.2.2.1), (a_t_badAhead, cAI G 61 r.2.2.2.2.2), (a_p1, .inr (7, [.ref a_p1_score, .ref a_p1_good, .ref a_p1_bad, .ref a_p1_goodAhead, .ref a_p1_badAhead, .int (kI p1_size)])), (a_p1_score, cAI G 60 p1_score), (a_p1_good, cAI G 60 p1_good), (a_p1_bad, cAI G 60 p1_bad), (a_p1_goodAhead, cAI G 61 p1_goodAhead), (a_p1_badAhead, cAI G 61 p1_badAhead)]) (by decide +kernel) (Nat.le_of_ble_eq_true rfl) ?_
  intro p e s m args below meth c A H locs ls cx hw hr hlk hnm hl
  have hl : lv_has ls 10 [(0, .ref a_t), (1, .ref a_p1), (2, .long (kL x2))] := hl
  rw [m_X8_drawFrom] at h
  obtain ⟨⟨hx, hb, -, -, -⟩, -⟩ := id cx
  refine lv_aload_n hx hb dX8_drawFrom_0 rfl (lv_at hl 0 rfl) ?_
  refine rf_get hx hb cx hw 0 rfl rfl 1 inX8 (by decide) fl_X8_15 rfl rfl dX8_drawFrom_1 ?_
  refine ri_iconst hx hb dX8_drawFrom_4 ?_
  obtain ⟨r1, h1, h⟩ := bd_some h
  refine rc_V (w2 := [(a_t, .inr (7, [.ref a_t_score, .ref a_t_good, .ref a_t_bad, .ref a_t_goodAhead, .ref a_t_badAhead, .int (kI t_size)])), (a_t_score, cAI G 60 t_score), (a_t_good, cAI G 60 r1), (a_t_bad, cAI G 60 t_bad), (a_t_goodAhead, cAI G 61 t_goodAhead), (a_t_badAhead, cAI G 61 t_badAhead), (a_p1, .inr (7, [.ref a_p1_score, .ref a_p1_good, .ref a_p1_bad, .ref a_p1_goodAhead, .ref a_p1_badAhead, .int (kI p1_size)])), (a_p1_score, cAI G 60 p1_score), (a_p1_good, cAI G 60 p1_good), (a_p1_bad, cAI G 60 p1_bad), (a_p1_goodAhead, cAI G 61 p1_goodAhead), (a_p1_badAhead, cAI G 61 p1_badAhead)]) hw [2] [0, 1, 3, 4, 5, 6, 7, 8, 9, 10, 11] [0, 1, 11, 2, 3, 4, 5, 6, 7, 8, 9, 10] (rr_S cx hw (c_J7_fill_53178 l G H.size N a_t_good t_good 60 0 (by decide) _ h1) mv_X8_38 [2] rfl rfl rfl ⟨Nat.le_of_ble_eq_true rfl, Nat.le_of_ble_eq_true rfl⟩ rfl hl.1 rfl (Nat.le_of_ble_eq_true rfl) dX8_drawFrom_5 ⟨Nat.le_of_ble_eq_true rfl, Nat.le_of_ble_eq_true rfl⟩) rfl rfl rfl rfl rfl rfl rfl rfl (fun H locs hw => ?_)
  refine lv_aload_n hx hb dX8_drawFrom_8 rfl (lv_at hl 0 rfl) ?_
  refine rf_get hx hb cx hw 0 rfl rfl 2 inX8 (by decide) fl_X8_18 rfl rfl dX8_drawFrom_9 ?_
  refine ri_iconst hx hb dX8_drawFrom_12 ?_
  obtain ⟨r2, h2, h⟩ := bd_some h
  refine rc_V (w2 := [(a_t, .inr (7, [.ref a_t_score, .ref a_t_good, .ref a_t_bad, .ref a_t_goodAhead, .ref a_t_badAhead, .int (kI t_size)])), (a_t_score, cAI G 60 t_score), (a_t_good, cAI G 60 r1), (a_t_bad, cAI G 60 r2), (a_t_goodAhead, cAI G 61 t_goodAhead), (a_t_badAhead, cAI G 61 t_badAhead), (a_p1, .inr (7, [.ref a_p1_score, .ref a_p1_good, .ref a_p1_bad, .ref a_p1_goodAhead, .ref a_p1_badAhead, .int (kI p1_size)])), (a_p1_score, cAI G 60 p1_score), (a_p1_good, cAI G 60 p1_good), (a_p1_bad, cAI G 60 p1_bad), (a_p1_goodAhead, cAI G 61 p1_goodAhead), (a_p1_badAhead, cAI G 61 p1_badAhead)]) hw [3] [0, 1, 2, 4, 5, 6, 7, 8, 9, 10, 11] [0, 1, 2, 11, 3, 4, 5, 6, 7, 8, 9, 10] (rr_S cx hw (c_J7_fill_53178 l G H.size N a_t_bad t_bad 60 0 (by decide) _ h2) mv_X8_38 [3] rfl rfl rfl ⟨Nat.le_of_ble_eq_true rfl, Nat.le_of_ble_eq_true rfl⟩ rfl hl.1 rfl (Nat.le_of_ble_eq_true rfl) dX8_drawFrom_13 ⟨Nat.le_of_ble_eq_true rfl, Nat.le_of_ble_eq_true rfl⟩) rfl rfl rfl rfl rfl rfl rfl rfl (fun H locs hw => ?_)
  refine lv_aload_n hx hb dX8_drawFrom_16 rfl (lv_at hl 1 rfl) ?_
  obtain ⟨r3, h3, h⟩ := bd_some h
  refine rc_I0 (v := r3) hw [6, 7, 8, 9, 10, 11] (rr_V cx hw (c_X8_cases l G H.size N a_p1 a_p1_score a_p1_good a_p1_bad a_p1_goodAhead a_p1_badAhead p1_size p1_score p1_good p1_bad p1_goodAhead p1_badAhead _ h3) mv_X8_44 [6, 7, 8, 9, 10, 11] rfl rfl rfl 6 rfl rfl ⟨Nat.le_of_ble_eq_true rfl, Nat.le_of_ble_eq_true rfl⟩ rfl hl.1 rfl (Nat.le_of_ble_eq_true rfl) dX8_drawFrom_17 ⟨Nat.le_of_ble_eq_true rfl, Nat.le_of_ble_eq_true rfl⟩) rfl rfl (fun H locs hw => ?_)
  refine lv_istore (lv' := [(4, .int (kI r3)), (0, .ref a_t), (1, .ref a_p1), (2, .long (kL x2))]) hx hb dX8_drawFrom_20 hl (by decide) rfl (fun ls hl => ?_)
  refine lv_lload_n hx hb dX8_drawFrom_22 rfl (lv_at hl 3 rfl) ?_
  refine lv_lstore (lv' := [(5, .long (kL x2)), (4, .int (kI r3)), (0, .ref a_t), (1, .ref a_p1), (2, .long (kL x2))]) hx hb dX8_drawFrom_23 hl (by decide) rfl (fun ls hl => ?_)
  refine ri_iconst hx hb dX8_drawFrom_25 ?_
  refine lv_istore (lv' := [(7, .int (kI 0)), (5, .long (kL x2)), (4, .int (kI r3)), (0, .ref a_t), (1, .ref a_p1), (2, .long (kL x2))]) hx hb dX8_drawFrom_26 hl (by decide) rfl (fun ls hl => ?_)
  exact w_X8_drawFrom_b28 cx hlk hr N a_t a_t_score a_t_good a_t_bad a_t_goodAhead a_t_badAhead a_p1 a_p1_score a_p1_good a_p1_bad a_p1_goodAhead a_p1_badAhead p1_size p1_score p1_good p1_bad p1_goodAhead p1_badAhead x2 r N t_size t_score r1 r2 t_goodAhead t_badAhead r3 x2 0 h _ _ _ hw (lv_sub hl [3, 4, 2, 1, 0] rfl)
set_option maxHeartbeats 4000000 in
set_option maxRecDepth 100000 in
theorem c_X8_goods (l : Launch) (G : GG) (sz : Nat) (N : Nat) (a_t a_t_score a_t_good a_t_bad a_t_goodAhead a_t_badAhead : Nat) (t_size : Int) (t_score : Int → Int) (t_good : Int → Int) (t_bad : Int → Int) (t_goodAhead : Int → Int) (t_badAhead : Int → Int)  (r : Int) (h : m_X8_goods N t_size t_goodAhead = some r) : CtI l yX8_goods cX8_goods 1 .int (rmD 1 0 0) G sz [.ref a_t] [(a_t, .inr (7, [.ref a_t_score, .ref a_t_good, .ref a_t_bad, .ref a_t_goodAhead, .ref a_t_badAhead, .int (kI t_size)])), (a_t_score, cAI G 60 t_score), (a_t_good, cAI G 60 t_good), (a_t_bad, cAI G 60 t_bad), (a_t_goodAhead, cAI G 61 t_goodAhead), (a_t_badAhead, cAI G 61 t_badAhead)] r [(a_t, .inr (7, [.ref a_t_score, .ref a_t_good, .ref a_t_bad, .ref a_t_goodAhead, .ref a_t_badAhead, .int (kI t_size)])), (a_t_score, cAI G 60 t_score), (a_t_good, cAI G 60 t_good), (a_t_bad, cAI G 60 t_bad), (a_t_goodAhead, cAI G 61 t_goodAhead), (a_t_badAhead, cAI G 61 t_badAhead)] := by
  refine met_of (Qc := fun A => QcI G A r [(a_t, .inr (7, [.ref a_t_score, .ref a_t_good, .ref a_t_bad, .ref a_t_goodAhead, .ref a_t_badAhead, .int (kI t_size)])), (a_t_score, cAI G 60 t_score), (a_t_good, cAI G 60 t_good), (a_t_bad, cAI G 60 t_bad), (a_t_goodAhead, cAI G 61 t_goodAhead), (a_t_badAhead, cAI G 61 t_badAhead)]) (by decide +kernel) (Nat.le_of_ble_eq_true rfl) ?_
  intro p e s m args below meth c A H locs ls cx hw hr hlk hnm hl
  have hl : lv_has ls 1 [(0, .ref a_t)] := hl
  rw [m_X8_goods] at h
  obtain ⟨⟨hx, hb, -, -, -⟩, -⟩ := id cx
  refine lv_aload_n hx hb dX8_goods_0 rfl (lv_at hl 0 rfl) ?_
  refine rf_get hx hb cx hw 0 rfl rfl 3 inX8 (by decide) fl_X8_21 rfl rfl dX8_goods_1 ?_
  refine lv_aload_n hx hb dX8_goods_4 rfl (lv_at hl 0 rfl) ?_
  refine rf_get hx hb cx hw 0 rfl rfl 5 inX8 (by decide) fl_X8_27 rfl rfl dX8_goods_5 ?_
  obtain ⟨g1, h⟩ := gd_some h
  refine ra_i hx hb cx hw 4 rfl (by decide) g1 dX8_goods_8 ?_
  obtain rfl := so_inj h
  exact re_i hx hb hlk hr cx hw (Nat.le_of_ble_eq_true rfl) (Nat.le_of_ble_eq_true rfl) dX8_goods_9
set_option maxHeartbeats 4000000 in
set_option maxRecDepth 100000 in
theorem c_X8_bads (l : Launch) (G : GG) (sz : Nat) (N : Nat) (a_t a_t_score a_t_good a_t_bad a_t_goodAhead a_t_badAhead : Nat) (t_size : Int) (t_score : Int → Int) (t_good : Int → Int) (t_bad : Int → Int) (t_goodAhead : Int → Int) (t_badAhead : Int → Int)  (r : Int) (h : m_X8_bads N t_size t_badAhead = some r) : CtI l yX8_bads cX8_bads 1 .int (rmD 1 0 0) G sz [.ref a_t] [(a_t, .inr (7, [.ref a_t_score, .ref a_t_good, .ref a_t_bad, .ref a_t_goodAhead, .ref a_t_badAhead, .int (kI t_size)])), (a_t_score, cAI G 60 t_score), (a_t_good, cAI G 60 t_good), (a_t_bad, cAI G 60 t_bad), (a_t_goodAhead, cAI G 61 t_goodAhead), (a_t_badAhead, cAI G 61 t_badAhead)] r [(a_t, .inr (7, [.ref a_t_score, .ref a_t_good, .ref a_t_bad, .ref a_t_goodAhead, .ref a_t_badAhead, .int (kI t_size)])), (a_t_score, cAI G 60 t_score), (a_t_good, cAI G 60 t_good), (a_t_bad, cAI G 60 t_bad), (a_t_goodAhead, cAI G 61 t_goodAhead), (a_t_badAhead, cAI G 61 t_badAhead)] := by
  refine met_of (Qc := fun A => QcI G A r [(a_t, .inr (7, [.ref a_t_score, .ref a_t_good, .ref a_t_bad, .ref a_t_goodAhead, .ref a_t_badAhead, .int (kI t_size)])), (a_t_score, cAI G 60 t_score), (a_t_good, cAI G 60 t_good), (a_t_bad, cAI G 60 t_bad), (a_t_goodAhead, cAI G 61 t_goodAhead), (a_t_badAhead, cAI G 61 t_badAhead)]) (by decide +kernel) (Nat.le_of_ble_eq_true rfl) ?_
  intro p e s m args below meth c A H locs ls cx hw hr hlk hnm hl
  have hl : lv_has ls 1 [(0, .ref a_t)] := hl
  rw [m_X8_bads] at h
  obtain ⟨⟨hx, hb, -, -, -⟩, -⟩ := id cx
  refine lv_aload_n hx hb dX8_bads_0 rfl (lv_at hl 0 rfl) ?_
  refine rf_get hx hb cx hw 0 rfl rfl 4 inX8 (by decide) fl_X8_24 rfl rfl dX8_bads_1 ?_
  refine lv_aload_n hx hb dX8_bads_4 rfl (lv_at hl 0 rfl) ?_
  refine rf_get hx hb cx hw 0 rfl rfl 5 inX8 (by decide) fl_X8_27 rfl rfl dX8_bads_5 ?_
  obtain ⟨g1, h⟩ := gd_some h
  refine ra_i hx hb cx hw 5 rfl (by decide) g1 dX8_bads_8 ?_
  obtain rfl := so_inj h
  exact re_i hx hb hlk hr cx hw (Nat.le_of_ble_eq_true rfl) (Nat.le_of_ble_eq_true rfl) dX8_bads_9
set_option maxHeartbeats 4000000 in
set_option maxRecDepth 100000 in
theorem w_X8_hasBoth_b18 {p : Program} {l : Launch} {e : Env} {s : State} {m : MethodId} {args : Array Value} {below : List Frame} {meth : Method} {c : Code} {A : Nat → Prop} {G : GG} (cx : CX p s m args c cX8_hasBoth RX8 1 G) (hlk : meth.locks = false) (hr : meth.sig.returnType = some .boolean) (N : Nat) (a_t a_t_score a_t_good a_t_bad a_t_goodAhead a_t_badAhead : Nat) (t_size : Int) (t_score : Int → Int) (t_good : Int → Int) (t_bad : Int → Int) (t_goodAhead : Int → Int) (t_badAhead : Int → Int) (r : Int) : m_X8_hasBoth_b18 N t_size t_goodAhead t_badAhead = some r → ∀ (H : Heap) (locs : List Loc) (ls : Array Slot), HP G A s.heap H locs [(a_t, .inr (7, [.ref a_t_score, .ref a_t_good, .ref a_t_bad, .ref a_t_goodAhead, .ref a_t_badAhead, .int (kI t_size)])), (a_t_score, cAI G 60 t_score), (a_t_good, cAI G 60 t_good), (a_t_bad, cAI G 60 t_bad), (a_t_goodAhead, cAI G 61 t_goodAhead), (a_t_badAhead, cAI G 61 t_badAhead)] → lv_has ls 1 [] → W p l e (rmD 2 0 0) s m args below meth c H locs 0 0 (MQ below (QcI G A r [(a_t, .inr (7, [.ref a_t_score, .ref a_t_good, .ref a_t_bad, .ref a_t_goodAhead, .ref a_t_badAhead, .int (kI t_size)])), (a_t_score, cAI G 60 t_score), (a_t_good, cAI G 60 t_good), (a_t_bad, cAI G 60 t_bad), (a_t_goodAhead, cAI G 61 t_goodAhead), (a_t_badAhead, cAI G 61 t_badAhead)]) args s (rmD 2 0 0).cells (rmD 2 0 0).slots A) (F0 m 18 ls []) := by
  intro  h H locs ls hw hl
  rw [m_X8_hasBoth_b18] at h
  obtain ⟨⟨hx, hb, -, -, -⟩, -⟩ := id cx
  refine ri_iconst hx hb dX8_hasBoth_18 ?_
  obtain rfl := so_inj h
  exact re_z (by decide)  hx hb hlk hr cx hw (Nat.le_of_ble_eq_true rfl) (Nat.le_of_ble_eq_true rfl) dX8_hasBoth_19
set_option maxHeartbeats 4000000 in
set_option maxRecDepth 100000 in
theorem c_X8_hasBoth (l : Launch) (G : GG) (sz : Nat) (N : Nat) (a_t a_t_score a_t_good a_t_bad a_t_goodAhead a_t_badAhead : Nat) (t_size : Int) (t_score : Int → Int) (t_good : Int → Int) (t_bad : Int → Int) (t_goodAhead : Int → Int) (t_badAhead : Int → Int)  (r : Int) (h : m_X8_hasBoth N t_size t_goodAhead t_badAhead = some r) : CtI l yX8_hasBoth cX8_hasBoth 1 .boolean (rmD 2 0 0) G sz [.ref a_t] [(a_t, .inr (7, [.ref a_t_score, .ref a_t_good, .ref a_t_bad, .ref a_t_goodAhead, .ref a_t_badAhead, .int (kI t_size)])), (a_t_score, cAI G 60 t_score), (a_t_good, cAI G 60 t_good), (a_t_bad, cAI G 60 t_bad), (a_t_goodAhead, cAI G 61 t_goodAhead), (a_t_badAhead, cAI G 61 t_badAhead)] r [(a_t, .inr (7, [.ref a_t_score, .ref a_t_good, .ref a_t_bad, .ref a_t_goodAhead, .ref a_t_badAhead, .int (kI t_size)])), (a_t_score, cAI G 60 t_score), (a_t_good, cAI G 60 t_good), (a_t_bad, cAI G 60 t_bad), (a_t_goodAhead, cAI G 61 t_goodAhead), (a_t_badAhead, cAI G 61 t_badAhead)] := by
  refine met_of (Qc := fun A => QcI G A r [(a_t, .inr (7, [.ref a_t_score, .ref a_t_good, .ref a_t_bad, .ref a_t_goodAhead, .ref a_t_badAhead, .int (kI t_size)])), (a_t_score, cAI G 60 t_score), (a_t_good, cAI G 60 t_good), (a_t_bad, cAI G 60 t_bad), (a_t_goodAhead, cAI G 61 t_goodAhead), (a_t_badAhead, cAI G 61 t_badAhead)]) (by decide +kernel) (Nat.le_of_ble_eq_true rfl) ?_
  intro p e s m args below meth c A H locs ls cx hw hr hlk hnm hl
  have hl : lv_has ls 1 [(0, .ref a_t)] := hl
  rw [m_X8_hasBoth] at h
  obtain ⟨⟨hx, hb, -, -, -⟩, -⟩ := id cx
  refine lv_aload_n hx hb dX8_hasBoth_0 rfl (lv_at hl 0 rfl) ?_
  obtain ⟨r1, h1, h⟩ := bd_some h
  refine rc_I0 (v := r1) hw [0, 1, 2, 3, 4, 5] (rr_V cx hw (c_X8_goods l G H.size N a_t a_t_score a_t_good a_t_bad a_t_goodAhead a_t_badAhead t_size t_score t_good t_bad t_goodAhead t_badAhead _ h1) mv_X8_63 [0, 1, 2, 3, 4, 5] rfl rfl rfl 0 rfl rfl ⟨Nat.le_of_ble_eq_true rfl, Nat.le_of_ble_eq_true rfl⟩ rfl hl.1 rfl (Nat.le_of_ble_eq_true rfl) dX8_hasBoth_1 ⟨Nat.le_of_ble_eq_true rfl, Nat.le_of_ble_eq_true rfl⟩) rfl rfl (fun H locs hw => ?_)
  obtain ⟨g2, h⟩ := gd_some h
  refine ri_if_le (tgt := 18) hx hb g2 dX8_hasBoth_4 (by decide) (fun c3 => ?_) (fun c3 => ?_)
  · have h := it_pos c3 h
    exact w_X8_hasBoth_b18 cx hlk hr N a_t a_t_score a_t_good a_t_bad a_t_goodAhead a_t_badAhead t_size t_score t_good t_bad t_goodAhead t_badAhead r  h _ _ _ hw (lv_sub hl [] rfl)
  · have h := it_neg c3 h
    refine lv_aload_n hx hb dX8_hasBoth_7 rfl (lv_at hl 0 rfl) ?_
    obtain ⟨r4, h4, h⟩ := bd_some h
    refine rc_I0 (v := r4) hw [0, 1, 2, 3, 4, 5] (rr_V cx hw (c_X8_bads l G H.size N a_t a_t_score a_t_good a_t_bad a_t_goodAhead a_t_badAhead t_size t_score t_good t_bad t_goodAhead t_badAhead _ h4) mv_X8_66 [0, 1, 2, 3, 4, 5] rfl rfl rfl 0 rfl rfl ⟨Nat.le_of_ble_eq_true rfl, Nat.le_of_ble_eq_true rfl⟩ rfl hl.1 rfl (Nat.le_of_ble_eq_true rfl) dX8_hasBoth_8 ⟨Nat.le_of_ble_eq_true rfl, Nat.le_of_ble_eq_true rfl⟩) rfl rfl (fun H locs hw => ?_)
    obtain ⟨g5, h⟩ := gd_some h
    refine ri_if_le (tgt := 18) hx hb g5 dX8_hasBoth_11 (by decide) (fun c6 => ?_) (fun c6 => ?_)
    · have h := it_pos c6 h
      exact w_X8_hasBoth_b18 cx hlk hr N a_t a_t_score a_t_good a_t_bad a_t_goodAhead a_t_badAhead t_size t_score t_good t_bad t_goodAhead t_badAhead r  h _ _ _ hw (lv_sub hl [] rfl)
    · have h := it_neg c6 h
      refine ri_iconst hx hb dX8_hasBoth_14 ?_
      refine lv_goto (tgt := 19) hx hb dX8_hasBoth_15 (by decide) ?_
      obtain rfl := so_inj h
      exact re_z (by decide)  hx hb hlk hr cx hw (Nat.le_of_ble_eq_true rfl) (Nat.le_of_ble_eq_true rfl) dX8_hasBoth_19
