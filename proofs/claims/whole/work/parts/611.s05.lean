set_option maxHeartbeats 4000000 in
theorem st_undo {l : Launch} {G : GG} {S : SM} {n : Int} {a b : Nat} {W V : va_W} (h : Inv G S n a b W V) : StI l G S n a b W V yX12_undo cX12_undo 2 (rmD 4 0 0) yX13_undo cX13_undo 2 (rmD 1 0 0) [] := by
  refine h _ (fun ad sa t_empty t_latest t_kept t_settled t_tape_size t_tape_store t_out_size t_out_store t_reader_ats t_reader_lines t_reader_least t_reader_most t_reader_faultKind t_reader_faultPlace t_reader_toldLines t_reader_kind t_reader_start t_reader_next t_reader_number t_reader_score t_reader_good t_reader_bad t_reader_open t_reader_costs t_stock_least t_stock_most t_stock_goodCost t_stock_badCost t_stock_referCost t_stock_good t_stock_bad t_stock_open t_rows_size t_rows_score t_rows_good t_rows_bad t_rows_goodAhead t_rows_badAhead t_pure_size t_pure_least t_pure_greatest t_pure_good t_pure_bad t_pure_rowsIn t_bands_size t_bands_least t_bands_greatest t_bands_good t_bands_bad t_bands_rowsIn t_best_lower t_best_upper t_best_together t_drawn_size t_drawn_score t_drawn_good t_drawn_bad t_drawn_goodAhead t_drawn_badAhead t_drawnPure_size t_drawnPure_least t_drawnPure_greatest t_drawnPure_good t_drawnPure_bad t_drawnPure_rowsIn t_inferred_size t_inferred_score t_inferred_open t_inferred_bad t_decisions_size t_decisions_learns t_decisions_score t_decisions_choice t_decisions_advice t_decisions_result t_decisions_learntBy t_acts_size t_acts_kind t_acts_first t_acts_second t_acts_third t_months t_spread t_sp t_sp_runs t_sp_whole t_sp_begins t_sp_fewer t_sp_told bd m_readAts m_lines m_at m_begin m_token m_value m_bad m_rows m_bands m_one m_other m_both m_driftAbove m_driftBelow m_driftMost m_state m_kept m_was m_sample m_months m_tape m_read m_isTold m_readRules m_score m_good m_badOnes m_start m_below m_errorBy m_lastBy m_out hW hV cTp cOu cA cLn cSm cEm cMo cSe cDr cSp => ?_)
  subst hW; subst hV
  have hN : 40000 ≤ 40000 := Nat.le_refl _
  obtain ⟨aV, aP, aD, aC, aL, aM⟩ := id cA
  have hst := aP.st
  have hFit := aP.fit aV
  have ok := hFit.ok
  obtain ⟨aP1, aP2, aP3, aP4, aP5, aP6⟩ := id aP
  obtain ⟨-, -, aV3, -⟩ := aV
  rw [aP2, aP3, aP4, aP5, aP6] at aV3
  obtain ⟨hle, hmo, hgc, hbc, hrc⟩ := aV3
  obtain ⟨v, sd', le', mo', gc', bc', rc', g', b', op', dz', dr', dl', az', st', hA, hB, nA, hd⟩ := s_undo (N := 40000) (iz := t_inferred_size) (isc := t_inferred_score) (iop := t_inferred_open) (iba := t_inferred_bad) (ds := t_decisions_score) (ak := t_acts_kind) (a1 := t_acts_first) (a2 := t_acts_second) (a3 := t_acts_third) (sd := t_settled) (le := t_stock_least) (mo := t_stock_most) (gc := t_stock_goodCost) (bc := t_stock_badCost) (rc := t_stock_referCost) (g := t_stock_good) (b := t_stock_bad) (op := t_stock_open) (dz := t_decisions_size) (dr := t_decisions_result) (dl := t_decisions_learntBy) (az := t_acts_size) (kp := m_kept) (st := m_state) hN cA
  rcases hd with rfl | ⟨rfl, rfl, rfl, rfl, rfl⟩
  · exact ⟨v, _, _, fun sz => k_X12_undo hA, fun sz => k_X13_undo hB, Inv.mk cTp cOu nA cLn cSm cEm cMo cSe.off cDr SpS.off⟩
  · exact ⟨v, _, _, fun sz => k_X12_undo hA, fun sz => k_X13_undo hB, Inv.mk cTp cOu nA cLn cSm cEm cMo cSe cDr cSp⟩
set_option maxHeartbeats 4000000 in
theorem st_learn {l : Launch} {G : GG} {S : SM} {n : Int} {a b : Nat} {W V : va_W} (h : Inv G S n a b W V) (hn : n < 1000000) : StI l G S (n + 1) a b W V yX12_learn cX12_learn 3 (rmD 4 0 0) yX13_learn cX13_learn 4 (rmD 4 0 0) [] := by
  refine h _ (fun ad sa t_empty t_latest t_kept t_settled t_tape_size t_tape_store t_out_size t_out_store t_reader_ats t_reader_lines t_reader_least t_reader_most t_reader_faultKind t_reader_faultPlace t_reader_toldLines t_reader_kind t_reader_start t_reader_next t_reader_number t_reader_score t_reader_good t_reader_bad t_reader_open t_reader_costs t_stock_least t_stock_most t_stock_goodCost t_stock_badCost t_stock_referCost t_stock_good t_stock_bad t_stock_open t_rows_size t_rows_score t_rows_good t_rows_bad t_rows_goodAhead t_rows_badAhead t_pure_size t_pure_least t_pure_greatest t_pure_good t_pure_bad t_pure_rowsIn t_bands_size t_bands_least t_bands_greatest t_bands_good t_bands_bad t_bands_rowsIn t_best_lower t_best_upper t_best_together t_drawn_size t_drawn_score t_drawn_good t_drawn_bad t_drawn_goodAhead t_drawn_badAhead t_drawnPure_size t_drawnPure_least t_drawnPure_greatest t_drawnPure_good t_drawnPure_bad t_drawnPure_rowsIn t_inferred_size t_inferred_score t_inferred_open t_inferred_bad t_decisions_size t_decisions_learns t_decisions_score t_decisions_choice t_decisions_advice t_decisions_result t_decisions_learntBy t_acts_size t_acts_kind t_acts_first t_acts_second t_acts_third t_months t_spread t_sp t_sp_runs t_sp_whole t_sp_begins t_sp_fewer t_sp_told bd m_readAts m_lines m_at m_begin m_token m_value m_bad m_rows m_bands m_one m_other m_both m_driftAbove m_driftBelow m_driftMost m_state m_kept m_was m_sample m_months m_tape m_read m_isTold m_readRules m_score m_good m_badOnes m_start m_below m_errorBy m_lastBy m_out hW hV cTp cOu cA cLn cSm cEm cMo cSe cDr cSp => ?_)
  subst hW; subst hV
  have hN : 40000 ≤ 40000 := Nat.le_refl _
  obtain ⟨aV, aP, aD, aC, aL, aM⟩ := id cA
  have hst := aP.st
  have hFit := aP.fit aV
  have ok := hFit.ok
  obtain ⟨aP1, aP2, aP3, aP4, aP5, aP6⟩ := id aP
  obtain ⟨-, -, aV3, -⟩ := aV
  rw [aP2, aP3, aP4, aP5, aP6] at aV3
  obtain ⟨hle, hmo, hgc, hbc, hrc⟩ := aV3
  obtain ⟨v, sd', g', b', ln', dl', az', ak', a1', a2', a3', st', kp', w', hA, hB, nA, eln, hd⟩ := s_learn (N := 40000) (dz := t_decisions_size) (ds := t_decisions_score) (dr := t_decisions_result) (sd := t_settled) (g := t_stock_good) (b := t_stock_bad) (ln := t_decisions_learns) (dl := t_decisions_learntBy) (az := t_acts_size) (ak := t_acts_kind) (a1 := t_acts_first) (a2 := t_acts_second) (a3 := t_acts_third) (st := m_state) (kp := m_kept) (was := m_was) hN cA (Int.lt_of_le_of_lt cLn hn)
  have nLn : ln' ≤ n + 1 := by omega
  rcases hd with rfl | ⟨rfl, rfl, rfl⟩
  · exact ⟨v, _, _, fun sz => k_X12_learn hA, fun sz => k_X13_learn hB, Inv.mk cTp cOu nA nLn cSm cEm cMo cSe.off cDr SpS.off⟩
  · exact ⟨v, _, _, fun sz => k_X12_learn hA, fun sz => k_X13_learn hB, Inv.mk cTp cOu nA nLn cSm cEm cMo cSe cDr cSp⟩
set_option maxHeartbeats 4000000 in
theorem st_decide {l : Launch} {G : GG} {S : SM} {n : Int} {a b : Nat} {W V : va_W} {x1 : Int} (hx1 : rI x1) {x2 : Int} (hx2 : rI x2) (h : Inv G S n a b W V) : StI l G S n a b W V yX12_decide cX12_decide 3 (rmD 7 0 0) yX13_decide cX13_decide 4 (rmD 5 0 0) [.int (kI x1), .int (kI x2)] := by
  refine h _ (fun ad sa t_empty t_latest t_kept t_settled t_tape_size t_tape_store t_out_size t_out_store t_reader_ats t_reader_lines t_reader_least t_reader_most t_reader_faultKind t_reader_faultPlace t_reader_toldLines t_reader_kind t_reader_start t_reader_next t_reader_number t_reader_score t_reader_good t_reader_bad t_reader_open t_reader_costs t_stock_least t_stock_most t_stock_goodCost t_stock_badCost t_stock_referCost t_stock_good t_stock_bad t_stock_open t_rows_size t_rows_score t_rows_good t_rows_bad t_rows_goodAhead t_rows_badAhead t_pure_size t_pure_least t_pure_greatest t_pure_good t_pure_bad t_pure_rowsIn t_bands_size t_bands_least t_bands_greatest t_bands_good t_bands_bad t_bands_rowsIn t_best_lower t_best_upper t_best_together t_drawn_size t_drawn_score t_drawn_good t_drawn_bad t_drawn_goodAhead t_drawn_badAhead t_drawnPure_size t_drawnPure_least t_drawnPure_greatest t_drawnPure_good t_drawnPure_bad t_drawnPure_rowsIn t_inferred_size t_inferred_score t_inferred_open t_inferred_bad t_decisions_size t_decisions_learns t_decisions_score t_decisions_choice t_decisions_advice t_decisions_result t_decisions_learntBy t_acts_size t_acts_kind t_acts_first t_acts_second t_acts_third t_months t_spread t_sp t_sp_runs t_sp_whole t_sp_begins t_sp_fewer t_sp_told bd m_readAts m_lines m_at m_begin m_token m_value m_bad m_rows m_bands m_one m_other m_both m_driftAbove m_driftBelow m_driftMost m_state m_kept m_was m_sample m_months m_tape m_read m_isTold m_readRules m_score m_good m_badOnes m_start m_below m_errorBy m_lastBy m_out hW hV cTp cOu cA cLn cSm cEm cMo cSe cDr cSp => ?_)
  subst hW; subst hV
  have hN : 40000 ≤ 40000 := Nat.le_refl _
  obtain ⟨aV, aP, aD, aC, aL, aM⟩ := id cA
  have hst := aP.st
  have hFit := aP.fit aV
  have ok := hFit.ok
  obtain ⟨aP1, aP2, aP3, aP4, aP5, aP6⟩ := id aP
  obtain ⟨-, -, aV3, -⟩ := aV
  rw [aP2, aP3, aP4, aP5, aP6] at aV3
  obtain ⟨hle, hmo, hgc, hbc, hrc⟩ := aV3
  obtain ⟨cS1, cS2, cS3⟩ := id cSe
  obtain ⟨rsc', rgo', rba', rgA', rbA', ple', pgr', pgo', pba', pri', ble', bgr', bgo', bba', bri', run', hset, hS, hrun⟩ := settle_ok (N := 40000) (sp := t_sp) (run := t_sp_runs) hN ok hle hmo cS1 cS2 cS3
  have nSe := SeR.set hS
  have nSp := cSp.set hrun
  obtain ⟨v, l', u', t', dz', ds', dc', da', dr', dl', az', ak', a1', a2', a3', st', kp', hAA, ⟨rr, hB, e1, e2, e3⟩, nA⟩ := s_decide (N := 40000) (le := t_stock_least) (mo := t_stock_most) (gc := t_stock_goodCost) (bc := t_stock_badCost) (rc := t_stock_referCost) (g := t_stock_good) (b := t_stock_bad) (sp := t_sp) (sd := t_settled) (rz := t_rows_size) (rsc := t_rows_score) (rgo := t_rows_good) (rba := t_rows_bad) (rgA := t_rows_goodAhead) (rbA := t_rows_badAhead) (pz := t_pure_size) (ple := t_pure_least) (pgr := t_pure_greatest) (pgo := t_pure_good) (pba := t_pure_bad) (pri := t_pure_rowsIn) (bz := t_bands_size) (ble := t_bands_least) (bgr := t_bands_greatest) (bgo := t_bands_good) (bba := t_bands_bad) (bri := t_bands_rowsIn) (l := t_best_lower) (u := t_best_upper) (t := t_best_together) (dz := t_decisions_size) (ds := t_decisions_score) (dc := t_decisions_choice) (da := t_decisions_advice) (dr := t_decisions_result) (dl := t_decisions_learntBy) (az := t_acts_size) (ak := t_acts_kind) (a1 := t_acts_first) (a2 := t_acts_second) (a3 := t_acts_third) (run := t_sp_runs) (z1 := m_rows) (o1 := m_one) (o2 := m_other) (o3 := m_both) (stt := m_state) (kp := m_kept) (was := m_was) (s1 := m_score) (s2 := m_good) (s3 := m_badOnes) (s4 := m_below) hN ok hle hmo hset hS cA hx1 hx2
  obtain ⟨p1, p2, p3, p4, p5, p6, p7, p8, p9, p10, p11, p12⟩ := rr
  have e1 : p1 = az' := e1
  have e2 : p6 = st' := e2
  have e3 : p7 = kp' := e3
  subst e1; subst e2; subst e3
  rcases hAA with hA | hA
  · exact ⟨v, _, _, fun sz => k_X12_decide hA, fun sz => k_X13_decide hB, Inv.mk cTp cOu nA cLn cSm cEm cMo nSe.off cDr SpS.off⟩
  · exact ⟨v, _, _, fun sz => k_X12_decide hA, fun sz => k_X13_decide hB, Inv.mk cTp cOu nA cLn cSm cEm cMo cSe cDr cSp⟩
set_option maxHeartbeats 4000000 in
theorem st_infer {l : Launch} {G : GG} {S : SM} {n : Int} {a b : Nat} {W V : va_W} {x1 : Int} (hx1 : rI x1) (h : Inv G S n a b W V) : StI l G S n a b W V yX12_infer cX12_infer 3 (rmD 7 0 0) yX13_infer cX13_infer 7 (rmD 7 0 0) [.int (kI x1)] := by
  refine h _ (fun ad sa t_empty t_latest t_kept t_settled t_tape_size t_tape_store t_out_size t_out_store t_reader_ats t_reader_lines t_reader_least t_reader_most t_reader_faultKind t_reader_faultPlace t_reader_toldLines t_reader_kind t_reader_start t_reader_next t_reader_number t_reader_score t_reader_good t_reader_bad t_reader_open t_reader_costs t_stock_least t_stock_most t_stock_goodCost t_stock_badCost t_stock_referCost t_stock_good t_stock_bad t_stock_open t_rows_size t_rows_score t_rows_good t_rows_bad t_rows_goodAhead t_rows_badAhead t_pure_size t_pure_least t_pure_greatest t_pure_good t_pure_bad t_pure_rowsIn t_bands_size t_bands_least t_bands_greatest t_bands_good t_bands_bad t_bands_rowsIn t_best_lower t_best_upper t_best_together t_drawn_size t_drawn_score t_drawn_good t_drawn_bad t_drawn_goodAhead t_drawn_badAhead t_drawnPure_size t_drawnPure_least t_drawnPure_greatest t_drawnPure_good t_drawnPure_bad t_drawnPure_rowsIn t_inferred_size t_inferred_score t_inferred_open t_inferred_bad t_decisions_size t_decisions_learns t_decisions_score t_decisions_choice t_decisions_advice t_decisions_result t_decisions_learntBy t_acts_size t_acts_kind t_acts_first t_acts_second t_acts_third t_months t_spread t_sp t_sp_runs t_sp_whole t_sp_begins t_sp_fewer t_sp_told bd m_readAts m_lines m_at m_begin m_token m_value m_bad m_rows m_bands m_one m_other m_both m_driftAbove m_driftBelow m_driftMost m_state m_kept m_was m_sample m_months m_tape m_read m_isTold m_readRules m_score m_good m_badOnes m_start m_below m_errorBy m_lastBy m_out hW hV cTp cOu cA cLn cSm cEm cMo cSe cDr cSp => ?_)
  subst hW; subst hV
  have hN : 40000 ≤ 40000 := Nat.le_refl _
  obtain ⟨aV, aP, aD, aC, aL, aM⟩ := id cA
  have hst := aP.st
  have hFit := aP.fit aV
  have ok := hFit.ok
  obtain ⟨aP1, aP2, aP3, aP4, aP5, aP6⟩ := id aP
  obtain ⟨-, -, aV3, -⟩ := aV
  rw [aP2, aP3, aP4, aP5, aP6] at aV3
  obtain ⟨hle, hmo, hgc, hbc, hrc⟩ := aV3
  obtain ⟨cS1, cS2, cS3⟩ := id cSe
  obtain ⟨rsc', rgo', rba', rgA', rbA', ple', pgr', pgo', pba', pri', ble', bgr', bgo', bba', bri', run', hset, hS, hrun⟩ := settle_ok (N := 40000) (sp := t_sp) (run := t_sp_runs) hN ok hle hmo cS1 cS2 cS3
  have nSe := SeR.set hS
  have nSp := cSp.set hrun
  obtain ⟨v, sd', g', b', op', iz', isc', iop', iba', az', ak', a1', a2', a3', st', kp', hAA, ⟨rr, hB, e1, e2, e3⟩, nA⟩ := s_infer (N := 40000) (le := t_stock_least) (mo := t_stock_most) (sp := t_sp) (sd := t_settled) (g := t_stock_good) (b := t_stock_bad) (op := t_stock_open) (rz := t_rows_size) (rsc := t_rows_score) (rgo := t_rows_good) (rba := t_rows_bad) (rgA := t_rows_goodAhead) (rbA := t_rows_badAhead) (pz := t_pure_size) (ple := t_pure_least) (pgr := t_pure_greatest) (pgo := t_pure_good) (pba := t_pure_bad) (pri := t_pure_rowsIn) (bz := t_bands_size) (ble := t_bands_least) (bgr := t_bands_greatest) (bgo := t_bands_good) (bba := t_bands_bad) (bri := t_bands_rowsIn) (iz := t_inferred_size) (isc := t_inferred_score) (iop := t_inferred_open) (iba := t_inferred_bad) (az := t_acts_size) (ak := t_acts_kind) (a1 := t_acts_first) (a2 := t_acts_second) (a3 := t_acts_third) (run := t_sp_runs) (z1 := m_rows) (z2 := m_bands) (stt := m_state) (kp := m_kept) (was := m_was) (s1 := m_score) (s2 := m_good) (s3 := m_badOnes) (s4 := m_start) hN ok hle hmo hset hS cA hx1
  obtain ⟨p1, p2, p3, p4, p5, p6, p7, p8, p9, p10⟩ := rr
  have e1 : p1 = az' := e1
  have e2 : p4 = st' := e2
  have e3 : p5 = kp' := e3
  subst e1; subst e2; subst e3
  rcases hAA with ⟨hA, rfl | ⟨rfl, rfl, rfl⟩⟩ | ⟨hA, rfl, rfl, rfl⟩
  · exact ⟨v, _, _, fun sz => k_X12_infer hA, fun sz => k_X13_infer hB, Inv.mk cTp cOu nA cLn cSm cEm cMo nSe.off cDr SpS.off⟩
  · exact ⟨v, _, _, fun sz => k_X12_infer hA, fun sz => k_X13_infer hB, Inv.mk cTp cOu nA cLn cSm cEm cMo nSe cDr nSp⟩
  · exact ⟨v, _, _, fun sz => k_X12_infer hA, fun sz => k_X13_infer hB, Inv.mk cTp cOu nA cLn cSm cEm cMo cSe cDr cSp⟩
set_option maxHeartbeats 4000000 in
theorem st_pool {l : Launch} {G : GG} {S : SM} {n : Int} {a b : Nat} {W V : va_W} (h : Inv G S n a b W V) : StI l G S n a b W V yX12_pool cX12_pool 1 (rmD 10 0 0) yX13_pool cX13_pool 2 (rmD 10 0 0) [] := by
  refine h _ (fun ad sa t_empty t_latest t_kept t_settled t_tape_size t_tape_store t_out_size t_out_store t_reader_ats t_reader_lines t_reader_least t_reader_most t_reader_faultKind t_reader_faultPlace t_reader_toldLines t_reader_kind t_reader_start t_reader_next t_reader_number t_reader_score t_reader_good t_reader_bad t_reader_open t_reader_costs t_stock_least t_stock_most t_stock_goodCost t_stock_badCost t_stock_referCost t_stock_good t_stock_bad t_stock_open t_rows_size t_rows_score t_rows_good t_rows_bad t_rows_goodAhead t_rows_badAhead t_pure_size t_pure_least t_pure_greatest t_pure_good t_pure_bad t_pure_rowsIn t_bands_size t_bands_least t_bands_greatest t_bands_good t_bands_bad t_bands_rowsIn t_best_lower t_best_upper t_best_together t_drawn_size t_drawn_score t_drawn_good t_drawn_bad t_drawn_goodAhead t_drawn_badAhead t_drawnPure_size t_drawnPure_least t_drawnPure_greatest t_drawnPure_good t_drawnPure_bad t_drawnPure_rowsIn t_inferred_size t_inferred_score t_inferred_open t_inferred_bad t_decisions_size t_decisions_learns t_decisions_score t_decisions_choice t_decisions_advice t_decisions_result t_decisions_learntBy t_acts_size t_acts_kind t_acts_first t_acts_second t_acts_third t_months t_spread t_sp t_sp_runs t_sp_whole t_sp_begins t_sp_fewer t_sp_told bd m_readAts m_lines m_at m_begin m_token m_value m_bad m_rows m_bands m_one m_other m_both m_driftAbove m_driftBelow m_driftMost m_state m_kept m_was m_sample m_months m_tape m_read m_isTold m_readRules m_score m_good m_badOnes m_start m_below m_errorBy m_lastBy m_out hW hV cTp cOu cA cLn cSm cEm cMo cSe cDr cSp => ?_)
  subst hW; subst hV
  have hN : 40000 ≤ 40000 := Nat.le_refl _
  obtain ⟨aV, aP, aD, aC, aL, aM⟩ := id cA
  have hst := aP.st
  have hFit := aP.fit aV
  have ok := hFit.ok
  obtain ⟨aP1, aP2, aP3, aP4, aP5, aP6⟩ := id aP
  obtain ⟨-, -, aV3, -⟩ := aV
  rw [aP2, aP3, aP4, aP5, aP6] at aV3
  obtain ⟨hle, hmo, hgc, hbc, hrc⟩ := aV3
  have nTp : TpR 0 t_tape_store m_tape := ⟨⟨by decide, by decide⟩, fun k k0 k1 => by omega⟩
  have nMo : MoS S t_months m_months 0 := ⟨⟨by decide, by decide⟩, fun i i0 i1 => by omega, fun i i0 i1 => by omega⟩
  obtain ⟨ats', ln', le', mo', fk', fp', tl', k', s', e', v', sc', go', ba', op', co', ra', at', bg', tk', va', bd', rd', it', rr', ⟨hA, hB⟩ | ⟨g', b', o', st', sa', hA, hB, n1, n2, n3, n4⟩⟩ := s_pool (N := 40000) (em := t_empty) (c := t_tape_store) (la := t_latest) (kp := t_kept) (sd := t_settled) (z := t_tape_size) (ats := t_reader_ats) (ln := t_reader_lines) (le := t_reader_least) (mo := t_reader_most) (fk := t_reader_faultKind) (fp := t_reader_faultPlace) (tl := t_reader_toldLines) (k := t_reader_kind) (s := t_reader_start) (e := t_reader_next) (v := t_reader_number) (sc := t_reader_score) (go := t_reader_good) (ba := t_reader_bad) (op := t_reader_open) (co := t_reader_costs) (sle := t_stock_least) (smo := t_stock_most) (sgc := t_stock_goodCost) (sbc := t_stock_badCost) (src := t_stock_referCost) (g := t_stock_good) (b := t_stock_bad) (o := t_stock_open) (dz := t_decisions_size) (az := t_acts_size) (r := m_tape) (km := t_acts_size) (mm := t_kept) (fk2 := t_reader_faultKind) (fp2 := t_reader_faultPlace) (ra := m_readAts) (ln2 := m_lines) (at_ := m_at) (bg := m_begin) (tk := m_token) (va := m_value) (bd := m_bad) (stt := m_state) (samp := m_sample) (rd := m_read) (it := m_isTold) (rr := m_readRules) hN cTp
  · exact ⟨-4, _, _, fun sz => k_X12_pool hA, fun sz => k_X13_pool hB, Inv.mk nTp cOu cA cLn cSm cEm cMo cSe cDr cSp⟩
  · have nA := (⟨n1, n2, ⟨n3, fun i i0 i1 => by omega⟩, ChR.zero, aL, fun i i0 i1 => by omega⟩ : ARel st' le' mo' (co' 0) (co' 1) (co' 2) g' b' o' 0 t_decisions_score t_decisions_choice t_decisions_advice t_decisions_result t_decisions_learntBy t_decisions_learns t_inferred_size t_inferred_score t_inferred_open t_inferred_bad 0 t_acts_kind t_acts_first t_acts_second t_acts_third m_kept)
    have nSm : SmR S t_empty sa' 0 := ⟨cEm.1, cEm.2.1, cEm.2.2.1, cEm.2.2.2.1, fun s s0 s1 => by rw [Int.zero_add, n4 s s0 s1]; exact cEm.2.2.2.2 s s0 s1⟩
    exact ⟨ln', _, _, fun sz => k_X12_pool hA, fun sz => k_X13_pool hB, Inv.mk nTp cOu nA cLn nSm cEm nMo cSe.off cDr SpS.off⟩
