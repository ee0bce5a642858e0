set_option maxHeartbeats 4000000 in
theorem st_between {l : Launch} {G : GG} {S : SM} {n : Int} {a b : Nat} {W V : va_W} {x1 : Int} (hx1 : rI x1) {x2 : Int} (hx2 : rI x2) {x3 : Int} (hx3 : rI x3) (h : Inv G S n a b W V) : StI l G S n a b W V yX12_between cX12_between 6 (rmD 7 0 0) yX13_between cX13_between 7 (rmD 3 0 0) [.int (kI x1), .int (kI x2), .int (kI x3)] := by
  refine h _ (fun ad sa t_empty t_latest t_kept t_settled t_tape_size t_tape_store t_out_size t_out_store t_reader_ats t_reader_lines t_reader_least t_reader_most t_reader_faultKind t_reader_faultPlace t_reader_toldLines t_reader_kind t_reader_start t_reader_next t_reader_number t_reader_score t_reader_good t_reader_bad t_reader_open t_reader_costs t_stock_least t_stock_most t_stock_goodCost t_stock_badCost t_stock_referCost t_stock_good t_stock_bad t_stock_open t_rows_size t_rows_score t_rows_good t_rows_bad t_rows_goodAhead t_rows_badAhead t_pure_size t_pure_least t_pure_greatest t_pure_good t_pure_bad t_pure_rowsIn t_bands_size t_bands_least t_bands_greatest t_bands_good t_bands_bad t_bands_rowsIn t_best_lower t_best_upper t_best_together t_drawn_size t_drawn_score t_drawn_good t_drawn_bad t_drawn_goodAhead t_drawn_badAhead t_drawnPure_size t_drawnPure_least t_drawnPure_greatest t_drawnPure_good t_drawnPure_bad t_drawnPure_rowsIn t_inferred_size t_inferred_score t_inferred_open t_inferred_bad t_decisions_size t_decisions_learns t_decisions_score t_decisions_choice t_decisions_advice t_decisions_result t_decisions_learntBy t_acts_size t_acts_kind t_acts_first t_acts_second t_acts_third t_months t_spread t_sp t_sp_runs t_sp_whole t_sp_begins t_sp_fewer t_sp_told bd m_readAts m_lines m_at m_begin m_token m_value m_bad m_rows m_bands m_one m_other m_both m_driftAbove m_driftBelow m_driftMost m_state m_kept m_was m_sample m_months m_tape m_read m_isTold m_readRules m_score m_good m_badOnes m_start m_below m_errorBy m_lastBy m_out hW hV cTp cOu cA cLn cSm cEm cMo cSe cDr cSp => ?_)
  subst hW; subst hV
  have hN : 40000 ≤ 40000 := Nat.le_refl _
  obtain ⟨aV, aP, aD, aC, aL, aM⟩ := id cA
  have hst := aP.st
  have hFit := aP.fit aV
  have ok := hFit.ok
  obtain ⟨aP1, aP2, aP3, aP4, aP5, aP6⟩ := id aP
  obtain ⟨-, -, aV3, -⟩ := aV
  rw [aP2, aP3, aP4, aP5, aP6] at aV3
  obtain ⟨hle, hmo, hgc, hbc, hrc⟩ := aV3
  obtain ⟨cS1, cS2, cS3⟩ := id cSe
  obtain ⟨rsc', rgo', rba', rgA', rbA', ple', pgr', pgo', pba', pri', ble', bgr', bgo', bba', bri', run', hset, hS, hrun⟩ := settle_ok (N := 40000) (sp := t_sp) (run := t_sp_runs) hN ok hle hmo cS1 cS2 cS3
  have nSe := SeR.set hS
  have nSp := cSp.set hrun
  obtain ⟨v, hA | hA, ⟨rr, hB⟩⟩ := q_between (N := 40000) (le := t_stock_least) (mo := t_stock_most) (g := t_stock_good) (b := t_stock_bad) (sp := t_sp) (sd := t_settled) (rz := t_rows_size) (rsc := t_rows_score) (rgo := t_rows_good) (rba := t_rows_bad) (rgA := t_rows_goodAhead) (rbA := t_rows_badAhead) (pz := t_pure_size) (ple := t_pure_least) (pgr := t_pure_greatest) (pgo := t_pure_good) (pba := t_pure_bad) (pri := t_pure_rowsIn) (bz := t_bands_size) (ble := t_bands_least) (bgr := t_bands_greatest) (bgo := t_bands_good) (bba := t_bands_bad) (bri := t_bands_rowsIn) (run := t_sp_runs) (stt := m_state) (z1 := m_rows) (s1 := m_score) (s2 := m_good) (s3 := m_badOnes) hN ok hle hmo hset hS hst ⟨aP2, aP3⟩ hx1 hx2 hx3
  · exact ⟨v, _, _, fun sz => k_X12_between hA, fun sz => k_X13_between hB, Inv.mk cTp cOu cA cLn cSm cEm cMo nSe cDr nSp⟩
  · exact ⟨v, _, _, fun sz => k_X12_between hA, fun sz => k_X13_between hB, Inv.mk cTp cOu cA cLn cSm cEm cMo cSe cDr cSp⟩
set_option maxHeartbeats 4000000 in
theorem st_band {l : Launch} {G : GG} {S : SM} {n : Int} {a b : Nat} {W V : va_W} {x1 : Int} (hx1 : rI x1) {x2 : Int} (hx2 : rI x2) (h : Inv G S n a b W V) : StI l G S n a b W V yX12_band cX12_band 3 (rmD 7 0 0) yX13_band cX13_band 3 (rmD 7 0 0) [.int (kI x1), .int (kI x2)] := by
  refine h _ (fun ad sa t_empty t_latest t_kept t_settled t_tape_size t_tape_store t_out_size t_out_store t_reader_ats t_reader_lines t_reader_least t_reader_most t_reader_faultKind t_reader_faultPlace t_reader_toldLines t_reader_kind t_reader_start t_reader_next t_reader_number t_reader_score t_reader_good t_reader_bad t_reader_open t_reader_costs t_stock_least t_stock_most t_stock_goodCost t_stock_badCost t_stock_referCost t_stock_good t_stock_bad t_stock_open t_rows_size t_rows_score t_rows_good t_rows_bad t_rows_goodAhead t_rows_badAhead t_pure_size t_pure_least t_pure_greatest t_pure_good t_pure_bad t_pure_rowsIn t_bands_size t_bands_least t_bands_greatest t_bands_good t_bands_bad t_bands_rowsIn t_best_lower t_best_upper t_best_together t_drawn_size t_drawn_score t_drawn_good t_drawn_bad t_drawn_goodAhead t_drawn_badAhead t_drawnPure_size t_drawnPure_least t_drawnPure_greatest t_drawnPure_good t_drawnPure_bad t_drawnPure_rowsIn t_inferred_size t_inferred_score t_inferred_open t_inferred_bad t_decisions_size t_decisions_learns t_decisions_score t_decisions_choice t_decisions_advice t_decisions_result t_decisions_learntBy t_acts_size t_acts_kind t_acts_first t_acts_second t_acts_third t_months t_spread t_sp t_sp_runs t_sp_whole t_sp_begins t_sp_fewer t_sp_told bd m_readAts m_lines m_at m_begin m_token m_value m_bad m_rows m_bands m_one m_other m_both m_driftAbove m_driftBelow m_driftMost m_state m_kept m_was m_sample m_months m_tape m_read m_isTold m_readRules m_score m_good m_badOnes m_start m_below m_errorBy m_lastBy m_out hW hV cTp cOu cA cLn cSm cEm cMo cSe cDr cSp => ?_)
  subst hW; subst hV
  have hN : 40000 ≤ 40000 := Nat.le_refl _
  obtain ⟨aV, aP, aD, aC, aL, aM⟩ := id cA
  have hst := aP.st
  have hFit := aP.fit aV
  have ok := hFit.ok
  obtain ⟨aP1, aP2, aP3, aP4, aP5, aP6⟩ := id aP
  obtain ⟨-, -, aV3, -⟩ := aV
  rw [aP2, aP3, aP4, aP5, aP6] at aV3
  obtain ⟨hle, hmo, hgc, hbc, hrc⟩ := aV3
  obtain ⟨cS1, cS2, cS3⟩ := id cSe
  obtain ⟨rsc', rgo', rba', rgA', rbA', ple', pgr', pgo', pba', pri', ble', bgr', bgo', bba', bri', run', hset, hS, hrun⟩ := settle_ok (N := 40000) (sp := t_sp) (run := t_sp_runs) hN ok hle hmo cS1 cS2 cS3
  have nSe := SeR.set hS
  have nSp := cSp.set hrun
  obtain ⟨v, q, hA | hA, ⟨rr, hB⟩⟩ := q_band (N := 40000) (la := t_latest) (le := t_stock_least) (mo := t_stock_most) (g := t_stock_good) (b := t_stock_bad) (sp := t_sp) (sd := t_settled) (rz := t_rows_size) (rsc := t_rows_score) (rgo := t_rows_good) (rba := t_rows_bad) (rgA := t_rows_goodAhead) (rbA := t_rows_badAhead) (pz := t_pure_size) (ple := t_pure_least) (pgr := t_pure_greatest) (pgo := t_pure_good) (pba := t_pure_bad) (pri := t_pure_rowsIn) (bz := t_bands_size) (ble := t_bands_least) (bgr := t_bands_greatest) (bgo := t_bands_good) (bba := t_bands_bad) (bri := t_bands_rowsIn) (q := t_spread) (run := t_sp_runs) (stt := m_state) (samp := m_sample) (z1 := m_rows) (z2 := m_bands) (s1 := m_score) (s2 := m_good) (s3 := m_badOnes) (s4 := m_start) hN ok hle hmo hset hS hst ⟨aP2, aP3⟩ cSm hx1 hx2
  · exact ⟨v, _, _, fun sz => k_X12_band hA, fun sz => k_X13_band hB, Inv.mk cTp cOu cA cLn cSm cEm cMo nSe cDr nSp⟩
  · exact ⟨v, _, _, fun sz => k_X12_band hA, fun sz => k_X13_band hB, Inv.mk cTp cOu cA cLn cSm cEm cMo cSe cDr cSp⟩
set_option maxHeartbeats 4000000 in
theorem st_drift {l : Launch} {G : GG} {S : SM} {n : Int} {a b : Nat} {W V : va_W} {x1 : Int} (hx1 : rI x1) (h : Inv G S n a b W V) : StL l G S n a b W V yX12_drift cX12_drift 2 (rmD 7 0 0) yX13_drift cX13_drift 2 (rmD 8 0 0) [.int (kI x1)] := by
  refine h _ (fun ad sa t_empty t_latest t_kept t_settled t_tape_size t_tape_store t_out_size t_out_store t_reader_ats t_reader_lines t_reader_least t_reader_most t_reader_faultKind t_reader_faultPlace t_reader_toldLines t_reader_kind t_reader_start t_reader_next t_reader_number t_reader_score t_reader_good t_reader_bad t_reader_open t_reader_costs t_stock_least t_stock_most t_stock_goodCost t_stock_badCost t_stock_referCost t_stock_good t_stock_bad t_stock_open t_rows_size t_rows_score t_rows_good t_rows_bad t_rows_goodAhead t_rows_badAhead t_pure_size t_pure_least t_pure_greatest t_pure_good t_pure_bad t_pure_rowsIn t_bands_size t_bands_least t_bands_greatest t_bands_good t_bands_bad t_bands_rowsIn t_best_lower t_best_upper t_best_together t_drawn_size t_drawn_score t_drawn_good t_drawn_bad t_drawn_goodAhead t_drawn_badAhead t_drawnPure_size t_drawnPure_least t_drawnPure_greatest t_drawnPure_good t_drawnPure_bad t_drawnPure_rowsIn t_inferred_size t_inferred_score t_inferred_open t_inferred_bad t_decisions_size t_decisions_learns t_decisions_score t_decisions_choice t_decisions_advice t_decisions_result t_decisions_learntBy t_acts_size t_acts_kind t_acts_first t_acts_second t_acts_third t_months t_spread t_sp t_sp_runs t_sp_whole t_sp_begins t_sp_fewer t_sp_told bd m_readAts m_lines m_at m_begin m_token m_value m_bad m_rows m_bands m_one m_other m_both m_driftAbove m_driftBelow m_driftMost m_state m_kept m_was m_sample m_months m_tape m_read m_isTold m_readRules m_score m_good m_badOnes m_start m_below m_errorBy m_lastBy m_out hW hV cTp cOu cA cLn cSm cEm cMo cSe cDr cSp => ?_)
  subst hW; subst hV
  have hN : 40000 ≤ 40000 := Nat.le_refl _
  obtain ⟨aV, aP, aD, aC, aL, aM⟩ := id cA
  have hst := aP.st
  have hFit := aP.fit aV
  have ok := hFit.ok
  obtain ⟨aP1, aP2, aP3, aP4, aP5, aP6⟩ := id aP
  obtain ⟨-, -, aV3, -⟩ := aV
  rw [aP2, aP3, aP4, aP5, aP6] at aV3
  obtain ⟨hle, hmo, hgc, hbc, hrc⟩ := aV3
  obtain ⟨cS1, cS2, cS3⟩ := id cSe
  obtain ⟨rsc', rgo', rba', rgA', rbA', ple', pgr', pgo', pba', pri', ble', bgr', bgo', bba', bri', run', hset, hS, hrun⟩ := settle_ok (N := 40000) (sp := t_sp) (run := t_sp_runs) hN ok hle hmo cS1 cS2 cS3
  have nSe := SeR.set hS
  have nSp := cSp.set hrun
  obtain ⟨v, q, hA | hA, ⟨rr, hB⟩⟩ := q_drift (N := 40000) (la := t_latest) (le := t_stock_least) (mo := t_stock_most) (g := t_stock_good) (b := t_stock_bad) (sp := t_sp) (sd := t_settled) (rz := t_rows_size) (rsc := t_rows_score) (rgo := t_rows_good) (rba := t_rows_bad) (rgA := t_rows_goodAhead) (rbA := t_rows_badAhead) (pz := t_pure_size) (ple := t_pure_least) (pgr := t_pure_greatest) (pgo := t_pure_good) (pba := t_pure_bad) (pri := t_pure_rowsIn) (bz := t_bands_size) (ble := t_bands_least) (bgr := t_bands_greatest) (bgo := t_bands_good) (bba := t_bands_bad) (bri := t_bands_rowsIn) (q := t_spread) (run := t_sp_runs) (stt := m_state) (samp := m_sample) (z1 := m_rows) (z2 := m_bands) (d1 := m_driftAbove) (d2 := m_driftBelow) (d3 := m_driftMost) (s1 := m_score) (s2 := m_good) (s3 := m_badOnes) (s4 := m_start) hN ok hle hmo hset hS hst ⟨aP2, aP3⟩ cSm hx1
  · exact ⟨v, _, _, fun sz => k_X12_drift hA, fun sz => k_X13_drift hB, Inv.mk cTp cOu cA cLn cSm cEm cMo nSe cDr nSp⟩
  · exact ⟨v, _, _, fun sz => k_X12_drift hA, fun sz => k_X13_drift hB, Inv.mk cTp cOu cA cLn cSm cEm cMo cSe cDr cSp⟩
set_option maxHeartbeats 4000000 in
theorem st_chi {l : Launch} {G : GG} {S : SM} {n : Int} {a b : Nat} {W V : va_W} (h : Inv G S n a b W V) : StL l G S n a b W V yX12_chi cX12_chi 8 (rmD 7 0 0) yX13_chi cX13_chi 12 (rmD 7 0 0) [] := by
  refine h _ (fun ad sa t_empty t_latest t_kept t_settled t_tape_size t_tape_store t_out_size t_out_store t_reader_ats t_reader_lines t_reader_least t_reader_most t_reader_faultKind t_reader_faultPlace t_reader_toldLines t_reader_kind t_reader_start t_reader_next t_reader_number t_reader_score t_reader_good t_reader_bad t_reader_open t_reader_costs t_stock_least t_stock_most t_stock_goodCost t_stock_badCost t_stock_referCost t_stock_good t_stock_bad t_stock_open t_rows_size t_rows_score t_rows_good t_rows_bad t_rows_goodAhead t_rows_badAhead t_pure_size t_pure_least t_pure_greatest t_pure_good t_pure_bad t_pure_rowsIn t_bands_size t_bands_least t_bands_greatest t_bands_good t_bands_bad t_bands_rowsIn t_best_lower t_best_upper t_best_together t_drawn_size t_drawn_score t_drawn_good t_drawn_bad t_drawn_goodAhead t_drawn_badAhead t_drawnPure_size t_drawnPure_least t_drawnPure_greatest t_drawnPure_good t_drawnPure_bad t_drawnPure_rowsIn t_inferred_size t_inferred_score t_inferred_open t_inferred_bad t_decisions_size t_decisions_learns t_decisions_score t_decisions_choice t_decisions_advice t_decisions_result t_decisions_learntBy t_acts_size t_acts_kind t_acts_first t_acts_second t_acts_third t_months t_spread t_sp t_sp_runs t_sp_whole t_sp_begins t_sp_fewer t_sp_told bd m_readAts m_lines m_at m_begin m_token m_value m_bad m_rows m_bands m_one m_other m_both m_driftAbove m_driftBelow m_driftMost m_state m_kept m_was m_sample m_months m_tape m_read m_isTold m_readRules m_score m_good m_badOnes m_start m_below m_errorBy m_lastBy m_out hW hV cTp cOu cA cLn cSm cEm cMo cSe cDr cSp => ?_)
  subst hW; subst hV
  have hN : 40000 ≤ 40000 := Nat.le_refl _
  obtain ⟨aV, aP, aD, aC, aL, aM⟩ := id cA
  have hst := aP.st
  have hFit := aP.fit aV
  have ok := hFit.ok
  obtain ⟨aP1, aP2, aP3, aP4, aP5, aP6⟩ := id aP
  obtain ⟨-, -, aV3, -⟩ := aV
  rw [aP2, aP3, aP4, aP5, aP6] at aV3
  obtain ⟨hle, hmo, hgc, hbc, hrc⟩ := aV3
  obtain ⟨cS1, cS2, cS3⟩ := id cSe
  obtain ⟨rsc', rgo', rba', rgA', rbA', ple', pgr', pgo', pba', pri', ble', bgr', bgo', bba', bri', run', hset, hS, hrun⟩ := settle_ok (N := 40000) (sp := t_sp) (run := t_sp_runs) hN ok hle hmo cS1 cS2 cS3
  have nSe := SeR.set hS
  have nSp := cSp.set hrun
  obtain ⟨v, q, hA | hA, ⟨rr, hB⟩⟩ := q_chi (N := 40000) (la := t_latest) (le := t_stock_least) (mo := t_stock_most) (g := t_stock_good) (b := t_stock_bad) (sp := t_sp) (sd := t_settled) (rz := t_rows_size) (rsc := t_rows_score) (rgo := t_rows_good) (rba := t_rows_bad) (rgA := t_rows_goodAhead) (rbA := t_rows_badAhead) (pz := t_pure_size) (ple := t_pure_least) (pgr := t_pure_greatest) (pgo := t_pure_good) (pba := t_pure_bad) (pri := t_pure_rowsIn) (bz := t_bands_size) (ble := t_bands_least) (bgr := t_bands_greatest) (bgo := t_bands_good) (bba := t_bands_bad) (bri := t_bands_rowsIn) (q := t_spread) (run := t_sp_runs) (stt := m_state) (samp := m_sample) (z1 := m_rows) (z2 := m_bands) (s1 := m_score) (s2 := m_good) (s3 := m_badOnes) (s4 := m_start) hN ok hle hmo hset hS hst ⟨aP2, aP3⟩ cSm
  · exact ⟨v, _, _, fun sz => k_X12_chi hA, fun sz => k_X13_chi hB, Inv.mk cTp cOu cA cLn cSm cEm cMo nSe cDr nSp⟩
  · exact ⟨v, _, _, fun sz => k_X12_chi hA, fun sz => k_X13_chi hB, Inv.mk cTp cOu cA cLn cSm cEm cMo cSe cDr cSp⟩
set_option maxHeartbeats 4000000 in
theorem st_off {l : Launch} {G : GG} {S : SM} {n : Int} {a b : Nat} {W V : va_W} {x1 : Int} (hx1 : rI x1) {x2 : Int} (hx2 : rI x2) (h : Inv G S n a b W V) : StL l G S n a b W V yX12_off cX12_off 3 (rmD 7 0 0) yX13_off cX13_off 3 (rmD 8 0 0) [.int (kI x1), .int (kI x2)] := by
  refine h _ (fun ad sa t_empty t_latest t_kept t_settled t_tape_size t_tape_store t_out_size t_out_store t_reader_ats t_reader_lines t_reader_least t_reader_most t_reader_faultKind t_reader_faultPlace t_reader_toldLines t_reader_kind t_reader_start t_reader_next t_reader_number t_reader_score t_reader_good t_reader_bad t_reader_open t_reader_costs t_stock_least t_stock_most t_stock_goodCost t_stock_badCost t_stock_referCost t_stock_good t_stock_bad t_stock_open t_rows_size t_rows_score t_rows_good t_rows_bad t_rows_goodAhead t_rows_badAhead t_pure_size t_pure_least t_pure_greatest t_pure_good t_pure_bad t_pure_rowsIn t_bands_size t_bands_least t_bands_greatest t_bands_good t_bands_bad t_bands_rowsIn t_best_lower t_best_upper t_best_together t_drawn_size t_drawn_score t_drawn_good t_drawn_bad t_drawn_goodAhead t_drawn_badAhead t_drawnPure_size t_drawnPure_least t_drawnPure_greatest t_drawnPure_good t_drawnPure_bad t_drawnPure_rowsIn t_inferred_size t_inferred_score t_inferred_open t_inferred_bad t_decisions_size t_decisions_learns t_decisions_score t_decisions_choice t_decisions_advice t_decisions_result t_decisions_learntBy t_acts_size t_acts_kind t_acts_first t_acts_second t_acts_third t_months t_spread t_sp t_sp_runs t_sp_whole t_sp_begins t_sp_fewer t_sp_told bd m_readAts m_lines m_at m_begin m_token m_value m_bad m_rows m_bands m_one m_other m_both m_driftAbove m_driftBelow m_driftMost m_state m_kept m_was m_sample m_months m_tape m_read m_isTold m_readRules m_score m_good m_badOnes m_start m_below m_errorBy m_lastBy m_out hW hV cTp cOu cA cLn cSm cEm cMo cSe cDr cSp => ?_)
  subst hW; subst hV
  have hN : 40000 ≤ 40000 := Nat.le_refl _
  obtain ⟨aV, aP, aD, aC, aL, aM⟩ := id cA
  have hst := aP.st
  have hFit := aP.fit aV
  have ok := hFit.ok
  obtain ⟨aP1, aP2, aP3, aP4, aP5, aP6⟩ := id aP
  obtain ⟨-, -, aV3, -⟩ := aV
  rw [aP2, aP3, aP4, aP5, aP6] at aV3
  obtain ⟨hle, hmo, hgc, hbc, hrc⟩ := aV3
  obtain ⟨cS1, cS2, cS3⟩ := id cSe
  obtain ⟨rsc', rgo', rba', rgA', rbA', ple', pgr', pgo', pba', pri', ble', bgr', bgo', bba', bri', run', hset, hS, hrun⟩ := settle_ok (N := 40000) (sp := t_sp) (run := t_sp_runs) hN ok hle hmo cS1 cS2 cS3
  have nSe := SeR.set hS
  have nSp := cSp.set hrun
  obtain ⟨v, q, hA | hA, ⟨rr, hB⟩⟩ := q_off (N := 40000) (kp := t_kept) (le := t_stock_least) (mo := t_stock_most) (g := t_stock_good) (b := t_stock_bad) (mt := t_months) (sp := t_sp) (sd := t_settled) (rz := t_rows_size) (rsc := t_rows_score) (rgo := t_rows_good) (rba := t_rows_bad) (rgA := t_rows_goodAhead) (rbA := t_rows_badAhead) (pz := t_pure_size) (ple := t_pure_least) (pgr := t_pure_greatest) (pgo := t_pure_good) (pba := t_pure_bad) (pri := t_pure_rowsIn) (bz := t_bands_size) (ble := t_bands_least) (bgr := t_bands_greatest) (bgo := t_bands_good) (bba := t_bands_bad) (bri := t_bands_rowsIn) (q := t_spread) (run := t_sp_runs) (stt := m_state) (mp := m_months) (z1 := m_rows) (z2 := m_bands) (d1 := m_driftAbove) (d2 := m_driftBelow) (d3 := m_driftMost) (s1 := m_score) (s2 := m_good) (s3 := m_badOnes) (s4 := m_start) hN ok hle hmo hset hS hst ⟨aP2, aP3⟩ cMo.1 cMo.2.1 cMo.2.2 hx1 hx2
  · exact ⟨v, _, _, fun sz => k_X12_off hA, fun sz => k_X13_off hB, Inv.mk cTp cOu cA cLn cSm cEm cMo nSe cDr nSp⟩
  · exact ⟨v, _, _, fun sz => k_X12_off hA, fun sz => k_X13_off hB, Inv.mk cTp cOu cA cLn cSm cEm cMo cSe cDr cSp⟩
set_option maxHeartbeats 4000000 in
theorem st_share {l : Launch} {G : GG} {S : SM} {n : Int} {a b : Nat} {W V : va_W} {x1 : Int} (hx1 : rI x1) {x2 : Int} (hx2 : rI x2) (h : Inv G S n a b W V) : StI l G S n a b W V yX12_share cX12_share 3 (rmD 7 0 0) yX13_share cX13_share 3 (rmD 7 0 0) [.int (kI x1), .int (kI x2)] := by
  refine h _ (fun ad sa t_empty t_latest t_kept t_settled t_tape_size t_tape_store t_out_size t_out_store t_reader_ats t_reader_lines t_reader_least t_reader_most t_reader_faultKind t_reader_faultPlace t_reader_toldLines t_reader_kind t_reader_start t_reader_next t_reader_number t_reader_score t_reader_good t_reader_bad t_reader_open t_reader_costs t_stock_least t_stock_most t_stock_goodCost t_stock_badCost t_stock_referCost t_stock_good t_stock_bad t_stock_open t_rows_size t_rows_score t_rows_good t_rows_bad t_rows_goodAhead t_rows_badAhead t_pure_size t_pure_least t_pure_greatest t_pure_good t_pure_bad t_pure_rowsIn t_bands_size t_bands_least t_bands_greatest t_bands_good t_bands_bad t_bands_rowsIn t_best_lower t_best_upper t_best_together t_drawn_size t_drawn_score t_drawn_good t_drawn_bad t_drawn_goodAhead t_drawn_badAhead t_drawnPure_size t_drawnPure_least t_drawnPure_greatest t_drawnPure_good t_drawnPure_bad t_drawnPure_rowsIn t_inferred_size t_inferred_score t_inferred_open t_inferred_bad t_decisions_size t_decisions_learns t_decisions_score t_decisions_choice t_decisions_advice t_decisions_result t_decisions_learntBy t_acts_size t_acts_kind t_acts_first t_acts_second t_acts_third t_months t_spread t_sp t_sp_runs t_sp_whole t_sp_begins t_sp_fewer t_sp_told bd m_readAts m_lines m_at m_begin m_token m_value m_bad m_rows m_bands m_one m_other m_both m_driftAbove m_driftBelow m_driftMost m_state m_kept m_was m_sample m_months m_tape m_read m_isTold m_readRules m_score m_good m_badOnes m_start m_below m_errorBy m_lastBy m_out hW hV cTp cOu cA cLn cSm cEm cMo cSe cDr cSp => ?_)
  subst hW; subst hV
  have hN : 40000 ≤ 40000 := Nat.le_refl _
  obtain ⟨aV, aP, aD, aC, aL, aM⟩ := id cA
  have hst := aP.st
  have hFit := aP.fit aV
  have ok := hFit.ok
  obtain ⟨aP1, aP2, aP3, aP4, aP5, aP6⟩ := id aP
  obtain ⟨-, -, aV3, -⟩ := aV
  rw [aP2, aP3, aP4, aP5, aP6] at aV3
  obtain ⟨hle, hmo, hgc, hbc, hrc⟩ := aV3
  obtain ⟨cS1, cS2, cS3⟩ := id cSe
  obtain ⟨rsc', rgo', rba', rgA', rbA', ple', pgr', pgo', pba', pri', ble', bgr', bgo', bba', bri', run', hset, hS, hrun⟩ := settle_ok (N := 40000) (sp := t_sp) (run := t_sp_runs) hN ok hle hmo cS1 cS2 cS3
  have nSe := SeR.set hS
  have nSp := cSp.set hrun
  obtain ⟨v, q, hA | hA, ⟨rr, hB⟩⟩ := q_share (N := 40000) (kp := t_kept) (le := t_stock_least) (mo := t_stock_most) (g := t_stock_good) (b := t_stock_bad) (mt := t_months) (sp := t_sp) (sd := t_settled) (rz := t_rows_size) (rsc := t_rows_score) (rgo := t_rows_good) (rba := t_rows_bad) (rgA := t_rows_goodAhead) (rbA := t_rows_badAhead) (pz := t_pure_size) (ple := t_pure_least) (pgr := t_pure_greatest) (pgo := t_pure_good) (pba := t_pure_bad) (pri := t_pure_rowsIn) (bz := t_bands_size) (ble := t_bands_least) (bgr := t_bands_greatest) (bgo := t_bands_good) (bba := t_bands_bad) (bri := t_bands_rowsIn) (q := t_spread) (run := t_sp_runs) (stt := m_state) (mp := m_months) (z1 := m_rows) (z2 := m_bands) (s1 := m_score) (s2 := m_good) (s3 := m_badOnes) (s4 := m_start) hN ok hle hmo hset hS hst ⟨aP2, aP3⟩ cMo.1 cMo.2.1 hx1 hx2
  · exact ⟨v, _, _, fun sz => k_X12_share hA, fun sz => k_X13_share hB, Inv.mk cTp cOu cA cLn cSm cEm cMo nSe cDr nSp⟩
  · exact ⟨v, _, _, fun sz => k_X12_share hA, fun sz => k_X13_share hB, Inv.mk cTp cOu cA cLn cSm cEm cMo cSe cDr cSp⟩
set_option maxHeartbeats 4000000 in
theorem st_alarm {l : Launch} {G : GG} {S : SM} {n : Int} {a b : Nat} {W V : va_W} {x1 : Int} (hx1 : rI x1) (h : Inv G S n a b W V) : StI l G S n a b W V yX12_alarm cX12_alarm 3 (rmD 7 0 0) yX13_alarm cX13_alarm 3 (rmD 8 0 0) [.int (kI x1)] := by
  refine h _ (fun ad sa t_empty t_latest t_kept t_settled t_tape_size t_tape_store t_out_size t_out_store t_reader_ats t_reader_lines t_reader_least t_reader_most t_reader_faultKind t_reader_faultPlace t_reader_toldLines t_reader_kind t_reader_start t_reader_next t_reader_number t_reader_score t_reader_good t_reader_bad t_reader_open t_reader_costs t_stock_least t_stock_most t_stock_goodCost t_stock_badCost t_stock_referCost t_stock_good t_stock_bad t_stock_open t_rows_size t_rows_score t_rows_good t_rows_bad t_rows_goodAhead t_rows_badAhead t_pure_size t_pure_least t_pure_greatest t_pure_good t_pure_bad t_pure_rowsIn t_bands_size t_bands_least t_bands_greatest t_bands_good t_bands_bad t_bands_rowsIn t_best_lower t_best_upper t_best_together t_drawn_size t_drawn_score t_drawn_good t_drawn_bad t_drawn_goodAhead t_drawn_badAhead t_drawnPure_size t_drawnPure_least t_drawnPure_greatest t_drawnPure_good t_drawnPure_bad t_drawnPure_rowsIn t_inferred_size t_inferred_score t_inferred_open t_inferred_bad t_decisions_size t_decisions_learns t_decisions_score t_decisions_choice t_decisions_advice t_decisions_result t_decisions_learntBy t_acts_size t_acts_kind t_acts_first t_acts_second t_acts_third t_months t_spread t_sp t_sp_runs t_sp_whole t_sp_begins t_sp_fewer t_sp_told bd m_readAts m_lines m_at m_begin m_token m_value m_bad m_rows m_bands m_one m_other m_both m_driftAbove m_driftBelow m_driftMost m_state m_kept m_was m_sample m_months m_tape m_read m_isTold m_readRules m_score m_good m_badOnes m_start m_below m_errorBy m_lastBy m_out hW hV cTp cOu cA cLn cSm cEm cMo cSe cDr cSp => ?_)
  subst hW; subst hV
  have hN : 40000 ≤ 40000 := Nat.le_refl _
  obtain ⟨aV, aP, aD, aC, aL, aM⟩ := id cA
  have hst := aP.st
  have hFit := aP.fit aV
  have ok := hFit.ok
  obtain ⟨aP1, aP2, aP3, aP4, aP5, aP6⟩ := id aP
  obtain ⟨-, -, aV3, -⟩ := aV
  rw [aP2, aP3, aP4, aP5, aP6] at aV3
  obtain ⟨hle, hmo, hgc, hbc, hrc⟩ := aV3
  obtain ⟨cS1, cS2, cS3⟩ := id cSe
  obtain ⟨rsc', rgo', rba', rgA', rbA', ple', pgr', pgo', pba', pri', ble', bgr', bgo', bba', bri', run', hset, hS, hrun⟩ := settle_ok (N := 40000) (sp := t_sp) (run := t_sp_runs) hN ok hle hmo cS1 cS2 cS3
  have nSe := SeR.set hS
  have nSp := cSp.set hrun
  obtain ⟨v, q, hA | hA, ⟨rr, hB⟩⟩ := q_alarm (N := 40000) (kp := t_kept) (le := t_stock_least) (mo := t_stock_most) (g := t_stock_good) (b := t_stock_bad) (mt := t_months) (sp := t_sp) (sd := t_settled) (rz := t_rows_size) (rsc := t_rows_score) (rgo := t_rows_good) (rba := t_rows_bad) (rgA := t_rows_goodAhead) (rbA := t_rows_badAhead) (pz := t_pure_size) (ple := t_pure_least) (pgr := t_pure_greatest) (pgo := t_pure_good) (pba := t_pure_bad) (pri := t_pure_rowsIn) (bz := t_bands_size) (ble := t_bands_least) (bgr := t_bands_greatest) (bgo := t_bands_good) (bba := t_bands_bad) (bri := t_bands_rowsIn) (q := t_spread) (run := t_sp_runs) (stt := m_state) (mp := m_months) (z1 := m_rows) (z2 := m_bands) (d1 := m_driftAbove) (d2 := m_driftBelow) (d3 := m_driftMost) (s1 := m_score) (s2 := m_good) (s3 := m_badOnes) (s4 := m_start) hN ok hle hmo hset hS hst ⟨aP2, aP3⟩ cMo.1 cMo.2.1 cMo.2.2 hx1
  · exact ⟨v, _, _, fun sz => k_X12_alarm hA, fun sz => k_X13_alarm hB, Inv.mk cTp cOu cA cLn cSm cEm cMo nSe cDr nSp⟩
  · exact ⟨v, _, _, fun sz => k_X12_alarm hA, fun sz => k_X13_alarm hB, Inv.mk cTp cOu cA cLn cSm cEm cMo cSe cDr cSp⟩
set_option maxHeartbeats 4000000 in
theorem st_rises {l : Launch} {G : GG} {S : SM} {n : Int} {a b : Nat} {W V : va_W} {x1 : Int} (hx1 : rI x1) (h : Inv G S n a b W V) : StI l G S n a b W V yX12_rises cX12_rises 8 (rmD 7 0 0) yX13_rises cX13_rises 9 (rmD 7 0 0) [.int (kI x1)] := by
  refine h _ (fun ad sa t_empty t_latest t_kept t_settled t_tape_size t_tape_store t_out_size t_out_store t_reader_ats t_reader_lines t_reader_least t_reader_most t_reader_faultKind t_reader_faultPlace t_reader_toldLines t_reader_kind t_reader_start t_reader_next t_reader_number t_reader_score t_reader_good t_reader_bad t_reader_open t_reader_costs t_stock_least t_stock_most t_stock_goodCost t_stock_badCost t_stock_referCost t_stock_good t_stock_bad t_stock_open t_rows_size t_rows_score t_rows_good t_rows_bad t_rows_goodAhead t_rows_badAhead t_pure_size t_pure_least t_pure_greatest t_pure_good t_pure_bad t_pure_rowsIn t_bands_size t_bands_least t_bands_greatest t_bands_good t_bands_bad t_bands_rowsIn t_best_lower t_best_upper t_best_together t_drawn_size t_drawn_score t_drawn_good t_drawn_bad t_drawn_goodAhead t_drawn_badAhead t_drawnPure_size t_drawnPure_least t_drawnPure_greatest t_drawnPure_good t_drawnPure_bad t_drawnPure_rowsIn t_inferred_size t_inferred_score t_inferred_open t_inferred_bad t_decisions_size t_decisions_learns t_decisions_score t_decisions_choice t_decisions_advice t_decisions_result t_decisions_learntBy t_acts_size t_acts_kind t_acts_first t_acts_second t_acts_third t_months t_spread t_sp t_sp_runs t_sp_whole t_sp_begins t_sp_fewer t_sp_told bd m_readAts m_lines m_at m_begin m_token m_value m_bad m_rows m_bands m_one m_other m_both m_driftAbove m_driftBelow m_driftMost m_state m_kept m_was m_sample m_months m_tape m_read m_isTold m_readRules m_score m_good m_badOnes m_start m_below m_errorBy m_lastBy m_out hW hV cTp cOu cA cLn cSm cEm cMo cSe cDr cSp => ?_)
  subst hW; subst hV
  have hN : 40000 ≤ 40000 := Nat.le_refl _
  obtain ⟨aV, aP, aD, aC, aL, aM⟩ := id cA
  have hst := aP.st
  have hFit := aP.fit aV
  have ok := hFit.ok
  obtain ⟨aP1, aP2, aP3, aP4, aP5, aP6⟩ := id aP
  obtain ⟨-, -, aV3, -⟩ := aV
  rw [aP2, aP3, aP4, aP5, aP6] at aV3
  obtain ⟨hle, hmo, hgc, hbc, hrc⟩ := aV3
  obtain ⟨cS1, cS2, cS3⟩ := id cSe
  obtain ⟨rsc', rgo', rba', rgA', rbA', ple', pgr', pgo', pba', pri', ble', bgr', bgo', bba', bri', run', hset, hS, hrun⟩ := settle_ok (N := 40000) (sp := t_sp) (run := t_sp_runs) hN ok hle hmo cS1 cS2 cS3
  have nSe := SeR.set hS
  have nSp := cSp.set hrun
  obtain ⟨v, q, hA | hA, ⟨rr, hB⟩⟩ := q_rises (N := 40000) (kp := t_kept) (le := t_stock_least) (mo := t_stock_most) (g := t_stock_good) (b := t_stock_bad) (mt := t_months) (sp := t_sp) (sd := t_settled) (rz := t_rows_size) (rsc := t_rows_score) (rgo := t_rows_good) (rba := t_rows_bad) (rgA := t_rows_goodAhead) (rbA := t_rows_badAhead) (pz := t_pure_size) (ple := t_pure_least) (pgr := t_pure_greatest) (pgo := t_pure_good) (pba := t_pure_bad) (pri := t_pure_rowsIn) (bz := t_bands_size) (ble := t_bands_least) (bgr := t_bands_greatest) (bgo := t_bands_good) (bba := t_bands_bad) (bri := t_bands_rowsIn) (q := t_spread) (run := t_sp_runs) (stt := m_state) (mp := m_months) (z1 := m_rows) (z2 := m_bands) (s1 := m_score) (s2 := m_good) (s3 := m_badOnes) (s4 := m_start) hN ok hle hmo hset hS hst ⟨aP2, aP3⟩ cMo.1 cMo.2.1 hx1
  · exact ⟨v, _, _, fun sz => k_X12_rises hA, fun sz => k_X13_rises hB, Inv.mk cTp cOu cA cLn cSm cEm cMo nSe cDr nSp⟩
  · exact ⟨v, _, _, fun sz => k_X12_rises hA, fun sz => k_X13_rises hB, Inv.mk cTp cOu cA cLn cSm cEm cMo cSe cDr cSp⟩
set_option maxHeartbeats 4000000 in
theorem st_row {l : Launch} {G : GG} {S : SM} {n : Int} {a b : Nat} {W V : va_W} {x1 : Int} (hx1 : rI x1) {x2 : Int} (hx2 : rI x2) (h : Inv G S n a b W V) : StI l G S n a b W V yX12_row cX12_row 3 (rmD 7 0 0) yX13_row cX13_row 3 (rmD 7 0 0) [.int (kI x1), .int (kI x2)] := by
  refine h _ (fun ad sa t_empty t_latest t_kept t_settled t_tape_size t_tape_store t_out_size t_out_store t_reader_ats t_reader_lines t_reader_least t_reader_most t_reader_faultKind t_reader_faultPlace t_reader_toldLines t_reader_kind t_reader_start t_reader_next t_reader_number t_reader_score t_reader_good t_reader_bad t_reader_open t_reader_costs t_stock_least t_stock_most t_stock_goodCost t_stock_badCost t_stock_referCost t_stock_good t_stock_bad t_stock_open t_rows_size t_rows_score t_rows_good t_rows_bad t_rows_goodAhead t_rows_badAhead t_pure_size t_pure_least t_pure_greatest t_pure_good t_pure_bad t_pure_rowsIn t_bands_size t_bands_least t_bands_greatest t_bands_good t_bands_bad t_bands_rowsIn t_best_lower t_best_upper t_best_together t_drawn_size t_drawn_score t_drawn_good t_drawn_bad t_drawn_goodAhead t_drawn_badAhead t_drawnPure_size t_drawnPure_least t_drawnPure_greatest t_drawnPure_good t_drawnPure_bad t_drawnPure_rowsIn t_inferred_size t_inferred_score t_inferred_open t_inferred_bad t_decisions_size t_decisions_learns t_decisions_score t_decisions_choice t_decisions_advice t_decisions_result t_decisions_learntBy t_acts_size t_acts_kind t_acts_first t_acts_second t_acts_third t_months t_spread t_sp t_sp_runs t_sp_whole t_sp_begins t_sp_fewer t_sp_told bd m_readAts m_lines m_at m_begin m_token m_value m_bad m_rows m_bands m_one m_other m_both m_driftAbove m_driftBelow m_driftMost m_state m_kept m_was m_sample m_months m_tape m_read m_isTold m_readRules m_score m_good m_badOnes m_start m_below m_errorBy m_lastBy m_out hW hV cTp cOu cA cLn cSm cEm cMo cSe cDr cSp => ?_)
  subst hW; subst hV
  have hN : 40000 ≤ 40000 := Nat.le_refl _
  obtain ⟨aV, aP, aD, aC, aL, aM⟩ := id cA
  have hst := aP.st
  have hFit := aP.fit aV
  have ok := hFit.ok
  obtain ⟨aP1, aP2, aP3, aP4, aP5, aP6⟩ := id aP
  obtain ⟨-, -, aV3, -⟩ := aV
  rw [aP2, aP3, aP4, aP5, aP6] at aV3
  obtain ⟨hle, hmo, hgc, hbc, hrc⟩ := aV3
  obtain ⟨cS1, cS2, cS3⟩ := id cSe
  obtain ⟨rsc', rgo', rba', rgA', rbA', ple', pgr', pgo', pba', pri', ble', bgr', bgo', bba', bri', run', hset, hS, hrun⟩ := settle_ok (N := 40000) (sp := t_sp) (run := t_sp_runs) hN ok hle hmo cS1 cS2 cS3
  have nSe := SeR.set hS
  have nSp := cSp.set hrun
  obtain ⟨v, hA, ⟨rr, hB⟩⟩ := q_row (N := 40000) (le := t_stock_least) (mo := t_stock_most) (g := t_stock_good) (b := t_stock_bad) (sp := t_sp) (sd := t_settled) (rz := t_rows_size) (rsc := t_rows_score) (rgo := t_rows_good) (rba := t_rows_bad) (rgA := t_rows_goodAhead) (rbA := t_rows_badAhead) (pz := t_pure_size) (ple := t_pure_least) (pgr := t_pure_greatest) (pgo := t_pure_good) (pba := t_pure_bad) (pri := t_pure_rowsIn) (bz := t_bands_size) (ble := t_bands_least) (bgr := t_bands_greatest) (bgo := t_bands_good) (bba := t_bands_bad) (bri := t_bands_rowsIn) (run := t_sp_runs) (stt := m_state) (z1 := m_rows) (z2 := m_bands) (s1 := m_score) (s2 := m_good) (s3 := m_badOnes) (s4 := m_start) hN ok hle hmo hset hS hst ⟨aP2, aP3⟩ hx1 hx2
  exact ⟨v, _, _, fun sz => k_X12_row hA, fun sz => k_X13_row hB, Inv.mk cTp cOu cA cLn cSm cEm cMo nSe cDr nSp⟩
