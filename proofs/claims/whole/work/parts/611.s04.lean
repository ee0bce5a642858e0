set_option maxHeartbeats 4000000 in
theorem st_octet {l : Launch} {G : GG} {S : SM} {n : Int} {a b : Nat} {W V : va_W} {x1 : Int} (hx1 : rI x1) (h : Inv G S n a b W V) : StI l G S n a b W V yX12_octet cX12_octet 2 (rmD 1 0 0) yX13_octet cX13_octet 2 (rmD 2 0 0) [.int (kI x1)] := by
  refine h _ (fun ad sa t_empty t_latest t_kept t_settled t_tape_size t_tape_store t_out_size t_out_store t_reader_ats t_reader_lines t_reader_least t_reader_most t_reader_faultKind t_reader_faultPlace t_reader_toldLines t_reader_kind t_reader_start t_reader_next t_reader_number t_reader_score t_reader_good t_reader_bad t_reader_open t_reader_costs t_stock_least t_stock_most t_stock_goodCost t_stock_badCost t_stock_referCost t_stock_good t_stock_bad t_stock_open t_rows_size t_rows_score t_rows_good t_rows_bad t_rows_goodAhead t_rows_badAhead t_pure_size t_pure_least t_pure_greatest t_pure_good t_pure_bad t_pure_rowsIn t_bands_size t_bands_least t_bands_greatest t_bands_good t_bands_bad t_bands_rowsIn t_best_lower t_best_upper t_best_together t_drawn_size t_drawn_score t_drawn_good t_drawn_bad t_drawn_goodAhead t_drawn_badAhead t_drawnPure_size t_drawnPure_least t_drawnPure_greatest t_drawnPure_good t_drawnPure_bad t_drawnPure_rowsIn t_inferred_size t_inferred_score t_inferred_open t_inferred_bad t_decisions_size t_decisions_learns t_decisions_score t_decisions_choice t_decisions_advice t_decisions_result t_decisions_learntBy t_acts_size t_acts_kind t_acts_first t_acts_second t_acts_third t_months t_spread t_sp t_sp_runs t_sp_whole t_sp_begins t_sp_fewer t_sp_told bd m_readAts m_lines m_at m_begin m_token m_value m_bad m_rows m_bands m_one m_other m_both m_driftAbove m_driftBelow m_driftMost m_state m_kept m_was m_sample m_months m_tape m_read m_isTold m_readRules m_score m_good m_badOnes m_start m_below m_errorBy m_lastBy m_out hW hV cTp cOu cA cLn cSm cEm cMo cSe cDr cSp => ?_)
  subst hW; subst hV
  have hN : 40000 ≤ 40000 := Nat.le_refl _
  obtain ⟨aV, aP, aD, aC, aL, aM⟩ := id cA
  have hst := aP.st
  have hFit := aP.fit aV
  have ok := hFit.ok
  obtain ⟨aP1, aP2, aP3, aP4, aP5, aP6⟩ := id aP
  obtain ⟨-, -, aV3, -⟩ := aV
  rw [aP2, aP3, aP4, aP5, aP6] at aV3
  obtain ⟨hle, hmo, hgc, hbc, hrc⟩ := aV3
  obtain ⟨v, hA, hB⟩ := s_octet (N := 40000) (z := t_out_size) (c := t_out_store) (r := m_out) cOu hx1
  exact ⟨v, _, _, fun sz => k_X12_octet hA, fun sz => k_X13_octet hB, Inv.mk cTp cOu cA cLn cSm cEm cMo cSe cDr cSp⟩
set_option maxHeartbeats 4000000 in
theorem st_open {l : Launch} {G : GG} {S : SM} {n : Int} {a b : Nat} {W V : va_W} {x1 : Int} (hx1 : rI x1) (h : Inv G S n a b W V) : StI l G S n a b W V yX12_open cX12_open 2 (rmD 2 0 0) yX13_open cX13_open 2 (rmD 3 0 0) [.int (kI x1)] := by
  refine h _ (fun ad sa t_empty t_latest t_kept t_settled t_tape_size t_tape_store t_out_size t_out_store t_reader_ats t_reader_lines t_reader_least t_reader_most t_reader_faultKind t_reader_faultPlace t_reader_toldLines t_reader_kind t_reader_start t_reader_next t_reader_number t_reader_score t_reader_good t_reader_bad t_reader_open t_reader_costs t_stock_least t_stock_most t_stock_goodCost t_stock_badCost t_stock_referCost t_stock_good t_stock_bad t_stock_open t_rows_size t_rows_score t_rows_good t_rows_bad t_rows_goodAhead t_rows_badAhead t_pure_size t_pure_least t_pure_greatest t_pure_good t_pure_bad t_pure_rowsIn t_bands_size t_bands_least t_bands_greatest t_bands_good t_bands_bad t_bands_rowsIn t_best_lower t_best_upper t_best_together t_drawn_size t_drawn_score t_drawn_good t_drawn_bad t_drawn_goodAhead t_drawn_badAhead t_drawnPure_size t_drawnPure_least t_drawnPure_greatest t_drawnPure_good t_drawnPure_bad t_drawnPure_rowsIn t_inferred_size t_inferred_score t_inferred_open t_inferred_bad t_decisions_size t_decisions_learns t_decisions_score t_decisions_choice t_decisions_advice t_decisions_result t_decisions_learntBy t_acts_size t_acts_kind t_acts_first t_acts_second t_acts_third t_months t_spread t_sp t_sp_runs t_sp_whole t_sp_begins t_sp_fewer t_sp_told bd m_readAts m_lines m_at m_begin m_token m_value m_bad m_rows m_bands m_one m_other m_both m_driftAbove m_driftBelow m_driftMost m_state m_kept m_was m_sample m_months m_tape m_read m_isTold m_readRules m_score m_good m_badOnes m_start m_below m_errorBy m_lastBy m_out hW hV cTp cOu cA cLn cSm cEm cMo cSe cDr cSp => ?_)
  subst hW; subst hV
  have hN : 40000 ≤ 40000 := Nat.le_refl _
  obtain ⟨aV, aP, aD, aC, aL, aM⟩ := id cA
  have hst := aP.st
  have hFit := aP.fit aV
  have ok := hFit.ok
  obtain ⟨aP1, aP2, aP3, aP4, aP5, aP6⟩ := id aP
  obtain ⟨-, -, aV3, -⟩ := aV
  rw [aP2, aP3, aP4, aP5, aP6] at aV3
  obtain ⟨hle, hmo, hgc, hbc, hrc⟩ := aV3
  obtain ⟨v, hA, hB⟩ := s_open (N := 40000) (op := t_stock_open) (stt := m_state) (fun s s0 s1 => (aP1 s s0 s1).2.2) hx1
  exact ⟨v, _, _, fun sz => k_X12_open hA, fun sz => k_X13_open hB, Inv.mk cTp cOu cA cLn cSm cEm cMo cSe cDr cSp⟩
set_option maxHeartbeats 4000000 in
theorem st_month {l : Launch} {G : GG} {S : SM} {n : Int} {a b : Nat} {W V : va_W} (h : Inv G S n a b W V) : StI l G S n a b W V yX12_month cX12_month 1 (rmD 1 0 0) yX13_month cX13_month 2 (rmD 2 0 0) [] := by
  refine h _ (fun ad sa t_empty t_latest t_kept t_settled t_tape_size t_tape_store t_out_size t_out_store t_reader_ats t_reader_lines t_reader_least t_reader_most t_reader_faultKind t_reader_faultPlace t_reader_toldLines t_reader_kind t_reader_start t_reader_next t_reader_number t_reader_score t_reader_good t_reader_bad t_reader_open t_reader_costs t_stock_least t_stock_most t_stock_goodCost t_stock_badCost t_stock_referCost t_stock_good t_stock_bad t_stock_open t_rows_size t_rows_score t_rows_good t_rows_bad t_rows_goodAhead t_rows_badAhead t_pure_size t_pure_least t_pure_greatest t_pure_good t_pure_bad t_pure_rowsIn t_bands_size t_bands_least t_bands_greatest t_bands_good t_bands_bad t_bands_rowsIn t_best_lower t_best_upper t_best_together t_drawn_size t_drawn_score t_drawn_good t_drawn_bad t_drawn_goodAhead t_drawn_badAhead t_drawnPure_size t_drawnPure_least t_drawnPure_greatest t_drawnPure_good t_drawnPure_bad t_drawnPure_rowsIn t_inferred_size t_inferred_score t_inferred_open t_inferred_bad t_decisions_size t_decisions_learns t_decisions_score t_decisions_choice t_decisions_advice t_decisions_result t_decisions_learntBy t_acts_size t_acts_kind t_acts_first t_acts_second t_acts_third t_months t_spread t_sp t_sp_runs t_sp_whole t_sp_begins t_sp_fewer t_sp_told bd m_readAts m_lines m_at m_begin m_token m_value m_bad m_rows m_bands m_one m_other m_both m_driftAbove m_driftBelow m_driftMost m_state m_kept m_was m_sample m_months m_tape m_read m_isTold m_readRules m_score m_good m_badOnes m_start m_below m_errorBy m_lastBy m_out hW hV cTp cOu cA cLn cSm cEm cMo cSe cDr cSp => ?_)
  subst hW; subst hV
  have hN : 40000 ≤ 40000 := Nat.le_refl _
  obtain ⟨aV, aP, aD, aC, aL, aM⟩ := id cA
  have hst := aP.st
  have hFit := aP.fit aV
  have ok := hFit.ok
  obtain ⟨aP1, aP2, aP3, aP4, aP5, aP6⟩ := id aP
  obtain ⟨-, -, aV3, -⟩ := aV
  rw [aP2, aP3, aP4, aP5, aP6] at aV3
  obtain ⟨hle, hmo, hgc, hbc, hrc⟩ := aV3
  obtain ⟨v, k', mt', mp', hA, hB, n1, n2, n3⟩ := s_month (N := 40000) (la := t_latest) (k := t_kept) (mt := t_months) (samp := m_sample) (mp := m_months) hN cMo.1 cSm cMo.2.1 cMo.2.2
  exact ⟨v, _, _, fun sz => k_X12_month hA, fun sz => k_X13_month hB, Inv.mk cTp cOu cA cLn cSm cEm ⟨n1, n2, n3⟩ cSe cDr cSp⟩
set_option maxHeartbeats 4000000 in
theorem st_adds {l : Launch} {G : GG} {S : SM} {n : Int} {a b : Nat} {W V : va_W} {x1 : Int} (hx1 : rI x1) {x2 : Int} (hx2 : rI x2) {x3 : Int} (hx3 : rI x3) (h : Inv G S n a b W V) : StI l G S n a b W V yX12_adds cX12_adds 4 (rmD 4 0 0) yX13_adds cX13_adds 4 (rmD 4 0 0) [.int (kI x1), .int (kI x2), .int (kI x3)] := by
  refine h _ (fun ad sa t_empty t_latest t_kept t_settled t_tape_size t_tape_store t_out_size t_out_store t_reader_ats t_reader_lines t_reader_least t_reader_most t_reader_faultKind t_reader_faultPlace t_reader_toldLines t_reader_kind t_reader_start t_reader_next t_reader_number t_reader_score t_reader_good t_reader_bad t_reader_open t_reader_costs t_stock_least t_stock_most t_stock_goodCost t_stock_badCost t_stock_referCost t_stock_good t_stock_bad t_stock_open t_rows_size t_rows_score t_rows_good t_rows_bad t_rows_goodAhead t_rows_badAhead t_pure_size t_pure_least t_pure_greatest t_pure_good t_pure_bad t_pure_rowsIn t_bands_size t_bands_least t_bands_greatest t_bands_good t_bands_bad t_bands_rowsIn t_best_lower t_best_upper t_best_together t_drawn_size t_drawn_score t_drawn_good t_drawn_bad t_drawn_goodAhead t_drawn_badAhead t_drawnPure_size t_drawnPure_least t_drawnPure_greatest t_drawnPure_good t_drawnPure_bad t_drawnPure_rowsIn t_inferred_size t_inferred_score t_inferred_open t_inferred_bad t_decisions_size t_decisions_learns t_decisions_score t_decisions_choice t_decisions_advice t_decisions_result t_decisions_learntBy t_acts_size t_acts_kind t_acts_first t_acts_second t_acts_third t_months t_spread t_sp t_sp_runs t_sp_whole t_sp_begins t_sp_fewer t_sp_told bd m_readAts m_lines m_at m_begin m_token m_value m_bad m_rows m_bands m_one m_other m_both m_driftAbove m_driftBelow m_driftMost m_state m_kept m_was m_sample m_months m_tape m_read m_isTold m_readRules m_score m_good m_badOnes m_start m_below m_errorBy m_lastBy m_out hW hV cTp cOu cA cLn cSm cEm cMo cSe cDr cSp => ?_)
  subst hW; subst hV
  have hN : 40000 ≤ 40000 := Nat.le_refl _
  obtain ⟨aV, aP, aD, aC, aL, aM⟩ := id cA
  have hst := aP.st
  have hFit := aP.fit aV
  have ok := hFit.ok
  obtain ⟨aP1, aP2, aP3, aP4, aP5, aP6⟩ := id aP
  obtain ⟨-, -, aV3, -⟩ := aV
  rw [aP2, aP3, aP4, aP5, aP6] at aV3
  obtain ⟨hle, hmo, hgc, hbc, hrc⟩ := aV3
  obtain ⟨v, sd', g', b', az', ak', a1', a2', a3', st', kp', w', hA, hB, nA, hd⟩ := s_adds (N := 40000) (sd := t_settled) (g := t_stock_good) (b := t_stock_bad) (az := t_acts_size) (ak := t_acts_kind) (a1 := t_acts_first) (a2 := t_acts_second) (a3 := t_acts_third) (st := m_state) (kp := m_kept) (was := m_was) hN cA hx1 hx2 hx3
  rcases hd with rfl | ⟨rfl, rfl, rfl⟩
  · exact ⟨v, _, _, fun sz => k_X12_adds hA, fun sz => k_X13_adds hB, Inv.mk cTp cOu nA cLn cSm cEm cMo cSe.off cDr SpS.off⟩
  · exact ⟨v, _, _, fun sz => k_X12_adds hA, fun sz => k_X13_adds hB, Inv.mk cTp cOu nA cLn cSm cEm cMo cSe cDr cSp⟩
set_option maxHeartbeats 4000000 in
theorem st_sets {l : Launch} {G : GG} {S : SM} {n : Int} {a b : Nat} {W V : va_W} {x1 : Int} (hx1 : rI x1) {x2 : Int} (hx2 : rI x2) (h : Inv G S n a b W V) : StI l G S n a b W V yX12_sets cX12_sets 5 (rmD 4 0 0) yX13_sets cX13_sets 4 (rmD 2 0 0) [.int (kI x1), .int (kI x2)] := by
  refine h _ (fun ad sa t_empty t_latest t_kept t_settled t_tape_size t_tape_store t_out_size t_out_store t_reader_ats t_reader_lines t_reader_least t_reader_most t_reader_faultKind t_reader_faultPlace t_reader_toldLines t_reader_kind t_reader_start t_reader_next t_reader_number t_reader_score t_reader_good t_reader_bad t_reader_open t_reader_costs t_stock_least t_stock_most t_stock_goodCost t_stock_badCost t_stock_referCost t_stock_good t_stock_bad t_stock_open t_rows_size t_rows_score t_rows_good t_rows_bad t_rows_goodAhead t_rows_badAhead t_pure_size t_pure_least t_pure_greatest t_pure_good t_pure_bad t_pure_rowsIn t_bands_size t_bands_least t_bands_greatest t_bands_good t_bands_bad t_bands_rowsIn t_best_lower t_best_upper t_best_together t_drawn_size t_drawn_score t_drawn_good t_drawn_bad t_drawn_goodAhead t_drawn_badAhead t_drawnPure_size t_drawnPure_least t_drawnPure_greatest t_drawnPure_good t_drawnPure_bad t_drawnPure_rowsIn t_inferred_size t_inferred_score t_inferred_open t_inferred_bad t_decisions_size t_decisions_learns t_decisions_score t_decisions_choice t_decisions_advice t_decisions_result t_decisions_learntBy t_acts_size t_acts_kind t_acts_first t_acts_second t_acts_third t_months t_spread t_sp t_sp_runs t_sp_whole t_sp_begins t_sp_fewer t_sp_told bd m_readAts m_lines m_at m_begin m_token m_value m_bad m_rows m_bands m_one m_other m_both m_driftAbove m_driftBelow m_driftMost m_state m_kept m_was m_sample m_months m_tape m_read m_isTold m_readRules m_score m_good m_badOnes m_start m_below m_errorBy m_lastBy m_out hW hV cTp cOu cA cLn cSm cEm cMo cSe cDr cSp => ?_)
  subst hW; subst hV
  have hN : 40000 ≤ 40000 := Nat.le_refl _
  obtain ⟨aV, aP, aD, aC, aL, aM⟩ := id cA
  have hst := aP.st
  have hFit := aP.fit aV
  have ok := hFit.ok
  obtain ⟨aP1, aP2, aP3, aP4, aP5, aP6⟩ := id aP
  obtain ⟨-, -, aV3, -⟩ := aV
  rw [aP2, aP3, aP4, aP5, aP6] at aV3
  obtain ⟨hle, hmo, hgc, hbc, hrc⟩ := aV3
  obtain ⟨v, sd', le', mo', az', ak', a1', a2', a3', st', kp', w', hA, hB, nA, hd⟩ := s_sets (N := 40000) (sd := t_settled) (le := t_stock_least) (mo := t_stock_most) (az := t_acts_size) (ak := t_acts_kind) (a1 := t_acts_first) (a2 := t_acts_second) (a3 := t_acts_third) (st := m_state) (kp := m_kept) (was := m_was) hN cA hx1 hx2
  rcases hd with rfl | ⟨rfl, rfl, rfl⟩
  · exact ⟨v, _, _, fun sz => k_X12_sets hA, fun sz => k_X13_sets hB, Inv.mk cTp cOu nA cLn cSm cEm cMo cSe.off cDr SpS.off⟩
  · exact ⟨v, _, _, fun sz => k_X12_sets hA, fun sz => k_X13_sets hB, Inv.mk cTp cOu nA cLn cSm cEm cMo cSe cDr cSp⟩
set_option maxHeartbeats 4000000 in
theorem st_costs {l : Launch} {G : GG} {S : SM} {n : Int} {a b : Nat} {W V : va_W} {x1 : Int} (hx1 : rI x1) {x2 : Int} (hx2 : rI x2) {x3 : Int} (hx3 : rI x3) (h : Inv G S n a b W V) : StI l G S n a b W V yX12_costs cX12_costs 4 (rmD 4 0 0) yX13_costs cX13_costs 4 (rmD 2 0 0) [.int (kI x1), .int (kI x2), .int (kI x3)] := by
  refine h _ (fun ad sa t_empty t_latest t_kept t_settled t_tape_size t_tape_store t_out_size t_out_store t_reader_ats t_reader_lines t_reader_least t_reader_most t_reader_faultKind t_reader_faultPlace t_reader_toldLines t_reader_kind t_reader_start t_reader_next t_reader_number t_reader_score t_reader_good t_reader_bad t_reader_open t_reader_costs t_stock_least t_stock_most t_stock_goodCost t_stock_badCost t_stock_referCost t_stock_good t_stock_bad t_stock_open t_rows_size t_rows_score t_rows_good t_rows_bad t_rows_goodAhead t_rows_badAhead t_pure_size t_pure_least t_pure_greatest t_pure_good t_pure_bad t_pure_rowsIn t_bands_size t_bands_least t_bands_greatest t_bands_good t_bands_bad t_bands_rowsIn t_best_lower t_best_upper t_best_together t_drawn_size t_drawn_score t_drawn_good t_drawn_bad t_drawn_goodAhead t_drawn_badAhead t_drawnPure_size t_drawnPure_least t_drawnPure_greatest t_drawnPure_good t_drawnPure_bad t_drawnPure_rowsIn t_inferred_size t_inferred_score t_inferred_open t_inferred_bad t_decisions_size t_decisions_learns t_decisions_score t_decisions_choice t_decisions_advice t_decisions_result t_decisions_learntBy t_acts_size t_acts_kind t_acts_first t_acts_second t_acts_third t_months t_spread t_sp t_sp_runs t_sp_whole t_sp_begins t_sp_fewer t_sp_told bd m_readAts m_lines m_at m_begin m_token m_value m_bad m_rows m_bands m_one m_other m_both m_driftAbove m_driftBelow m_driftMost m_state m_kept m_was m_sample m_months m_tape m_read m_isTold m_readRules m_score m_good m_badOnes m_start m_below m_errorBy m_lastBy m_out hW hV cTp cOu cA cLn cSm cEm cMo cSe cDr cSp => ?_)
  subst hW; subst hV
  have hN : 40000 ≤ 40000 := Nat.le_refl _
  obtain ⟨aV, aP, aD, aC, aL, aM⟩ := id cA
  have hst := aP.st
  have hFit := aP.fit aV
  have ok := hFit.ok
  obtain ⟨aP1, aP2, aP3, aP4, aP5, aP6⟩ := id aP
  obtain ⟨-, -, aV3, -⟩ := aV
  rw [aP2, aP3, aP4, aP5, aP6] at aV3
  obtain ⟨hle, hmo, hgc, hbc, hrc⟩ := aV3
  obtain ⟨v, sd', gc', bc', rc', az', ak', a1', a2', a3', st', kp', w', hA, hB, nA, hd⟩ := s_costs (N := 40000) (sd := t_settled) (gc := t_stock_goodCost) (bc := t_stock_badCost) (rc := t_stock_referCost) (az := t_acts_size) (ak := t_acts_kind) (a1 := t_acts_first) (a2 := t_acts_second) (a3 := t_acts_third) (st := m_state) (kp := m_kept) (was := m_was) hN cA hx1 hx2 hx3
  rcases hd with rfl | rfl
  · exact ⟨v, _, _, fun sz => k_X12_costs hA, fun sz => k_X13_costs hB, Inv.mk cTp cOu nA cLn cSm cEm cMo cSe.off cDr SpS.off⟩
  · exact ⟨v, _, _, fun sz => k_X12_costs hA, fun sz => k_X13_costs hB, Inv.mk cTp cOu nA cLn cSm cEm cMo cSe cDr cSp⟩
set_option maxHeartbeats 4000000 in
theorem st_outcome {l : Launch} {G : GG} {S : SM} {n : Int} {a b : Nat} {W V : va_W} {x1 : Int} (hx1 : rI x1) {x2 : Int} (hx2 : rI x2) (h : Inv G S n a b W V) : StI l G S n a b W V yX12_outcome cX12_outcome 3 (rmD 4 0 0) yX13_outcome cX13_outcome 4 (rmD 3 0 0) [.int (kI x1), .int (kI x2)] := by
  refine h _ (fun ad sa t_empty t_latest t_kept t_settled t_tape_size t_tape_store t_out_size t_out_store t_reader_ats t_reader_lines t_reader_least t_reader_most t_reader_faultKind t_reader_faultPlace t_reader_toldLines t_reader_kind t_reader_start t_reader_next t_reader_number t_reader_score t_reader_good t_reader_bad t_reader_open t_reader_costs t_stock_least t_stock_most t_stock_goodCost t_stock_badCost t_stock_referCost t_stock_good t_stock_bad t_stock_open t_rows_size t_rows_score t_rows_good t_rows_bad t_rows_goodAhead t_rows_badAhead t_pure_size t_pure_least t_pure_greatest t_pure_good t_pure_bad t_pure_rowsIn t_bands_size t_bands_least t_bands_greatest t_bands_good t_bands_bad t_bands_rowsIn t_best_lower t_best_upper t_best_together t_drawn_size t_drawn_score t_drawn_good t_drawn_bad t_drawn_goodAhead t_drawn_badAhead t_drawnPure_size t_drawnPure_least t_drawnPure_greatest t_drawnPure_good t_drawnPure_bad t_drawnPure_rowsIn t_inferred_size t_inferred_score t_inferred_open t_inferred_bad t_decisions_size t_decisions_learns t_decisions_score t_decisions_choice t_decisions_advice t_decisions_result t_decisions_learntBy t_acts_size t_acts_kind t_acts_first t_acts_second t_acts_third t_months t_spread t_sp t_sp_runs t_sp_whole t_sp_begins t_sp_fewer t_sp_told bd m_readAts m_lines m_at m_begin m_token m_value m_bad m_rows m_bands m_one m_other m_both m_driftAbove m_driftBelow m_driftMost m_state m_kept m_was m_sample m_months m_tape m_read m_isTold m_readRules m_score m_good m_badOnes m_start m_below m_errorBy m_lastBy m_out hW hV cTp cOu cA cLn cSm cEm cMo cSe cDr cSp => ?_)
  subst hW; subst hV
  have hN : 40000 ≤ 40000 := Nat.le_refl _
  obtain ⟨aV, aP, aD, aC, aL, aM⟩ := id cA
  have hst := aP.st
  have hFit := aP.fit aV
  have ok := hFit.ok
  obtain ⟨aP1, aP2, aP3, aP4, aP5, aP6⟩ := id aP
  obtain ⟨-, -, aV3, -⟩ := aV
  rw [aP2, aP3, aP4, aP5, aP6] at aV3
  obtain ⟨hle, hmo, hgc, hbc, hrc⟩ := aV3
  obtain ⟨v, sd', dr', az', ak', a1', a2', a3', st', kp', w', hA, hB, nA, hd⟩ := s_outcome (N := 40000) (dz := t_decisions_size) (dc := t_decisions_choice) (sd := t_settled) (dr := t_decisions_result) (az := t_acts_size) (ak := t_acts_kind) (a1 := t_acts_first) (a2 := t_acts_second) (a3 := t_acts_third) (st := m_state) (kp := m_kept) (was := m_was) hN cA hx1 hx2
  rcases hd with rfl | rfl
  · exact ⟨v, _, _, fun sz => k_X12_outcome hA, fun sz => k_X13_outcome hB, Inv.mk cTp cOu nA cLn cSm cEm cMo cSe.off cDr SpS.off⟩
  · exact ⟨v, _, _, fun sz => k_X12_outcome hA, fun sz => k_X13_outcome hB, Inv.mk cTp cOu nA cLn cSm cEm cMo cSe cDr cSp⟩
set_option maxHeartbeats 4000000 in
theorem st_decision {l : Launch} {G : GG} {S : SM} {n : Int} {a b : Nat} {W V : va_W} {x1 : Int} (hx1 : rI x1) {x2 : Int} (hx2 : rI x2) (h : Inv G S n a b W V) : StI l G S n a b W V yX12_decision cX12_decision 3 (rmD 2 0 0) yX13_decision cX13_decision 3 (rmD 3 0 0) [.int (kI x1), .int (kI x2)] := by
  refine h _ (fun ad sa t_empty t_latest t_kept t_settled t_tape_size t_tape_store t_out_size t_out_store t_reader_ats t_reader_lines t_reader_least t_reader_most t_reader_faultKind t_reader_faultPlace t_reader_toldLines t_reader_kind t_reader_start t_reader_next t_reader_number t_reader_score t_reader_good t_reader_bad t_reader_open t_reader_costs t_stock_least t_stock_most t_stock_goodCost t_stock_badCost t_stock_referCost t_stock_good t_stock_bad t_stock_open t_rows_size t_rows_score t_rows_good t_rows_bad t_rows_goodAhead t_rows_badAhead t_pure_size t_pure_least t_pure_greatest t_pure_good t_pure_bad t_pure_rowsIn t_bands_size t_bands_least t_bands_greatest t_bands_good t_bands_bad t_bands_rowsIn t_best_lower t_best_upper t_best_together t_drawn_size t_drawn_score t_drawn_good t_drawn_bad t_drawn_goodAhead t_drawn_badAhead t_drawnPure_size t_drawnPure_least t_drawnPure_greatest t_drawnPure_good t_drawnPure_bad t_drawnPure_rowsIn t_inferred_size t_inferred_score t_inferred_open t_inferred_bad t_decisions_size t_decisions_learns t_decisions_score t_decisions_choice t_decisions_advice t_decisions_result t_decisions_learntBy t_acts_size t_acts_kind t_acts_first t_acts_second t_acts_third t_months t_spread t_sp t_sp_runs t_sp_whole t_sp_begins t_sp_fewer t_sp_told bd m_readAts m_lines m_at m_begin m_token m_value m_bad m_rows m_bands m_one m_other m_both m_driftAbove m_driftBelow m_driftMost m_state m_kept m_was m_sample m_months m_tape m_read m_isTold m_readRules m_score m_good m_badOnes m_start m_below m_errorBy m_lastBy m_out hW hV cTp cOu cA cLn cSm cEm cMo cSe cDr cSp => ?_)
  subst hW; subst hV
  have hN : 40000 ≤ 40000 := Nat.le_refl _
  obtain ⟨aV, aP, aD, aC, aL, aM⟩ := id cA
  have hst := aP.st
  have hFit := aP.fit aV
  have ok := hFit.ok
  obtain ⟨aP1, aP2, aP3, aP4, aP5, aP6⟩ := id aP
  obtain ⟨-, -, aV3, -⟩ := aV
  rw [aP2, aP3, aP4, aP5, aP6] at aV3
  obtain ⟨hle, hmo, hgc, hbc, hrc⟩ := aV3
  obtain ⟨v, hA, hB⟩ := s_decision (N := 40000) (dz := t_decisions_size) (ds := t_decisions_score) (dc := t_decisions_choice) (da := t_decisions_advice) (dr := t_decisions_result) (dl := t_decisions_learntBy) (st := m_state) cA hx1 hx2
  exact ⟨v, _, _, fun sz => k_X12_decision hA, fun sz => k_X13_decision hB, Inv.mk cTp cOu cA cLn cSm cEm cMo cSe cDr cSp⟩
set_option maxHeartbeats 4000000 in
theorem st_overrides {l : Launch} {G : GG} {S : SM} {n : Int} {a b : Nat} {W V : va_W} {x1 : Int} (hx1 : rI x1) (h : Inv G S n a b W V) : StI l G S n a b W V yX12_overrides cX12_overrides 4 (rmD 3 0 0) yX13_overrides cX13_overrides 7 (rmD 2 0 0) [.int (kI x1)] := by
  refine h _ (fun ad sa t_empty t_latest t_kept t_settled t_tape_size t_tape_store t_out_size t_out_store t_reader_ats t_reader_lines t_reader_least t_reader_most t_reader_faultKind t_reader_faultPlace t_reader_toldLines t_reader_kind t_reader_start t_reader_next t_reader_number t_reader_score t_reader_good t_reader_bad t_reader_open t_reader_costs t_stock_least t_stock_most t_stock_goodCost t_stock_badCost t_stock_referCost t_stock_good t_stock_bad t_stock_open t_rows_size t_rows_score t_rows_good t_rows_bad t_rows_goodAhead t_rows_badAhead t_pure_size t_pure_least t_pure_greatest t_pure_good t_pure_bad t_pure_rowsIn t_bands_size t_bands_least t_bands_greatest t_bands_good t_bands_bad t_bands_rowsIn t_best_lower t_best_upper t_best_together t_drawn_size t_drawn_score t_drawn_good t_drawn_bad t_drawn_goodAhead t_drawn_badAhead t_drawnPure_size t_drawnPure_least t_drawnPure_greatest t_drawnPure_good t_drawnPure_bad t_drawnPure_rowsIn t_inferred_size t_inferred_score t_inferred_open t_inferred_bad t_decisions_size t_decisions_learns t_decisions_score t_decisions_choice t_decisions_advice t_decisions_result t_decisions_learntBy t_acts_size t_acts_kind t_acts_first t_acts_second t_acts_third t_months t_spread t_sp t_sp_runs t_sp_whole t_sp_begins t_sp_fewer t_sp_told bd m_readAts m_lines m_at m_begin m_token m_value m_bad m_rows m_bands m_one m_other m_both m_driftAbove m_driftBelow m_driftMost m_state m_kept m_was m_sample m_months m_tape m_read m_isTold m_readRules m_score m_good m_badOnes m_start m_below m_errorBy m_lastBy m_out hW hV cTp cOu cA cLn cSm cEm cMo cSe cDr cSp => ?_)
  subst hW; subst hV
  have hN : 40000 ≤ 40000 := Nat.le_refl _
  obtain ⟨aV, aP, aD, aC, aL, aM⟩ := id cA
  have hst := aP.st
  have hFit := aP.fit aV
  have ok := hFit.ok
  obtain ⟨aP1, aP2, aP3, aP4, aP5, aP6⟩ := id aP
  obtain ⟨-, -, aV3, -⟩ := aV
  rw [aP2, aP3, aP4, aP5, aP6] at aV3
  obtain ⟨hle, hmo, hgc, hbc, hrc⟩ := aV3
  obtain ⟨v, hA, hB⟩ := s_overrides (N := 40000) (dz := t_decisions_size) (dc := t_decisions_choice) (da := t_decisions_advice) (dr := t_decisions_result) (dl := t_decisions_learntBy) (st := m_state) hN cA hx1
  exact ⟨v, _, _, fun sz => k_X12_overrides hA, fun sz => k_X13_overrides hB, Inv.mk cTp cOu cA cLn cSm cEm cMo cSe cDr cSp⟩
