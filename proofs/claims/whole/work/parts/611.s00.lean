set_option maxHeartbeats 4000000 in
theorem st_count {l : Launch} {G : GG} {S : SM} {n : Int} {a b : Nat} {W V : va_W} {x1 : Int} (hx1 : rI x1) (h : Inv G S n a b W V) : StI l G S n a b W V yX12_count cX12_count 2 (rmD 7 0 0) yX13_count cX13_count 5 (rmD 7 0 0) [.int (kI x1)] := by
  refine h _ (fun ad sa t_empty t_latest t_kept t_settled t_tape_size t_tape_store t_out_size t_out_store t_reader_ats t_reader_lines t_reader_least t_reader_most t_reader_faultKind t_reader_faultPlace t_reader_toldLines t_reader_kind t_reader_start t_reader_next t_reader_number t_reader_score t_reader_good t_reader_bad t_reader_open t_reader_costs t_stock_least t_stock_most t_stock_goodCost t_stock_badCost t_stock_referCost t_stock_good t_stock_bad t_stock_open t_rows_size t_rows_score t_rows_good t_rows_bad t_rows_goodAhead t_rows_badAhead t_pure_size t_pure_least t_pure_greatest t_pure_good t_pure_bad t_pure_rowsIn t_bands_size t_bands_least t_bands_greatest t_bands_good t_bands_bad t_bands_rowsIn t_best_lower t_best_upper t_best_together t_drawn_size t_drawn_score t_drawn_good t_drawn_bad t_drawn_goodAhead t_drawn_badAhead t_drawnPure_size t_drawnPure_least t_drawnPure_greatest t_drawnPure_good t_drawnPure_bad t_drawnPure_rowsIn t_inferred_size t_inferred_score t_inferred_open t_inferred_bad t_decisions_size t_decisions_learns t_decisions_score t_decisions_choice t_decisions_advice t_decisions_result t_decisions_learntBy t_acts_size t_acts_kind t_acts_first t_acts_second t_acts_third t_months t_spread t_sp t_sp_runs t_sp_whole t_sp_begins t_sp_fewer t_sp_told bd m_readAts m_lines m_at m_begin m_token m_value m_bad m_rows m_bands m_one m_other m_both m_driftAbove m_driftBelow m_driftMost m_state m_kept m_was m_sample m_months m_tape m_read m_isTold m_readRules m_score m_good m_badOnes m_start m_below m_errorBy m_lastBy m_out hW hV cTp cOu cA cLn cSm cEm cMo cSe cDr cSp => ?_)
  subst hW; subst hV
  have hN : 40000 ≤ 40000 := Nat.le_refl _
  obtain ⟨aV, aP, aD, aC, aL, aM⟩ := id cA
  have hst := aP.st
  have hFit := aP.fit aV
  have ok := hFit.ok
  obtain ⟨aP1, aP2, aP3, aP4, aP5, aP6⟩ := id aP
  obtain ⟨-, -, aV3, -⟩ := aV
  rw [aP2, aP3, aP4, aP5, aP6] at aV3
  obtain ⟨hle, hmo, hgc, hbc, hrc⟩ := aV3
  obtain ⟨cS1, cS2, cS3⟩ := id cSe
  obtain ⟨rsc', rgo', rba', rgA', rbA', ple', pgr', pgo', pba', pri', ble', bgr', bgo', bba', bri', run', hset, hS, hrun⟩ := settle_ok (N := 40000) (sp := t_sp) (run := t_sp_runs) hN ok hle hmo cS1 cS2 cS3
  have nSe := SeR.set hS
  have nSp := cSp.set hrun
  obtain ⟨v, hA | hA, ⟨rr, hB⟩⟩ := q_count (N := 40000) (la := t_latest) (mm := t_kept) (tp := t_tape_size) (os := t_out_size) (le := t_stock_least) (mo := t_stock_most) (gc := t_stock_goodCost) (bc := t_stock_badCost) (rc := t_stock_referCost) (g := t_stock_good) (b := t_stock_bad) (op := t_stock_open) (ds := t_decisions_size) (km := t_acts_size) (sp := t_sp) (sd := t_settled) (rz := t_rows_size) (rsc := t_rows_score) (rgo := t_rows_good) (rba := t_rows_bad) (rgA := t_rows_goodAhead) (rbA := t_rows_badAhead) (pz := t_pure_size) (ple := t_pure_least) (pgr := t_pure_greatest) (pgo := t_pure_good) (pba := t_pure_bad) (pri := t_pure_rowsIn) (bz := t_bands_size) (ble := t_bands_least) (bgr := t_bands_greatest) (bgo := t_bands_good) (bba := t_bands_bad) (bri := t_bands_rowsIn) (run := t_sp_runs) (stt := m_state) (samp := m_sample) (z1 := m_rows) (z2 := m_bands) (s1 := m_score) (s2 := m_good) (s3 := m_badOnes) (s4 := m_start) hN ok hle hmo hset hS hst ⟨aP2, aP3⟩ ⟨aP4, aP5, aP6⟩ cSm aD.1 (fun s s0 s1 => (aP1 s s0 s1).2.2) hx1
  · exact ⟨v, _, _, fun sz => k_X12_count hA, fun sz => k_X13_count hB, Inv.mk cTp cOu cA cLn cSm cEm cMo nSe cDr nSp⟩
  · exact ⟨v, _, _, fun sz => k_X12_count hA, fun sz => k_X13_count hB, Inv.mk cTp cOu cA cLn cSm cEm cMo cSe cDr cSp⟩
set_option maxHeartbeats 4000000 in
theorem st_rate {l : Launch} {G : GG} {S : SM} {n : Int} {a b : Nat} {W V : va_W} {x1 : Int} (hx1 : rI x1) {x2 : Int} (hx2 : rI x2) (h : Inv G S n a b W V) : StL l G S n a b W V yX12_rate cX12_rate 7 (rmD 7 0 0) yX13_rate cX13_rate 5 (rmD 7 0 0) [.int (kI x1), .int (kI x2)] := by
  refine h _ (fun ad sa t_empty t_latest t_kept t_settled t_tape_size t_tape_store t_out_size t_out_store t_reader_ats t_reader_lines t_reader_least t_reader_most t_reader_faultKind t_reader_faultPlace t_reader_toldLines t_reader_kind t_reader_start t_reader_next t_reader_number t_reader_score t_reader_good t_reader_bad t_reader_open t_reader_costs t_stock_least t_stock_most t_stock_goodCost t_stock_badCost t_stock_referCost t_stock_good t_stock_bad t_stock_open t_rows_size t_rows_score t_rows_good t_rows_bad t_rows_goodAhead t_rows_badAhead t_pure_size t_pure_least t_pure_greatest t_pure_good t_pure_bad t_pure_rowsIn t_bands_size t_bands_least t_bands_greatest t_bands_good t_bands_bad t_bands_rowsIn t_best_lower t_best_upper t_best_together t_drawn_size t_drawn_score t_drawn_good t_drawn_bad t_drawn_goodAhead t_drawn_badAhead t_drawnPure_size t_drawnPure_least t_drawnPure_greatest t_drawnPure_good t_drawnPure_bad t_drawnPure_rowsIn t_inferred_size t_inferred_score t_inferred_open t_inferred_bad t_decisions_size t_decisions_learns t_decisions_score t_decisions_choice t_decisions_advice t_decisions_result t_decisions_learntBy t_acts_size t_acts_kind t_acts_first t_acts_second t_acts_third t_months t_spread t_sp t_sp_runs t_sp_whole t_sp_begins t_sp_fewer t_sp_told bd m_readAts m_lines m_at m_begin m_token m_value m_bad m_rows m_bands m_one m_other m_both m_driftAbove m_driftBelow m_driftMost m_state m_kept m_was m_sample m_months m_tape m_read m_isTold m_readRules m_score m_good m_badOnes m_start m_below m_errorBy m_lastBy m_out hW hV cTp cOu cA cLn cSm cEm cMo cSe cDr cSp => ?_)
  subst hW; subst hV
  have hN : 40000 ≤ 40000 := Nat.le_refl _
  obtain ⟨aV, aP, aD, aC, aL, aM⟩ := id cA
  have hst := aP.st
  have hFit := aP.fit aV
  have ok := hFit.ok
  obtain ⟨aP1, aP2, aP3, aP4, aP5, aP6⟩ := id aP
  obtain ⟨-, -, aV3, -⟩ := aV
  rw [aP2, aP3, aP4, aP5, aP6] at aV3
  obtain ⟨hle, hmo, hgc, hbc, hrc⟩ := aV3
  obtain ⟨cS1, cS2, cS3⟩ := id cSe
  obtain ⟨rsc', rgo', rba', rgA', rbA', ple', pgr', pgo', pba', pri', ble', bgr', bgo', bba', bri', run', hset, hS, hrun⟩ := settle_ok (N := 40000) (sp := t_sp) (run := t_sp_runs) hN ok hle hmo cS1 cS2 cS3
  have nSe := SeR.set hS
  have nSp := cSp.set hrun
  obtain ⟨v, hA | hA, ⟨rr, hB⟩⟩ := q_rate (N := 40000) (le := t_stock_least) (mo := t_stock_most) (g := t_stock_good) (b := t_stock_bad) (sp := t_sp) (sd := t_settled) (rz := t_rows_size) (rsc := t_rows_score) (rgo := t_rows_good) (rba := t_rows_bad) (rgA := t_rows_goodAhead) (rbA := t_rows_badAhead) (pz := t_pure_size) (ple := t_pure_least) (pgr := t_pure_greatest) (pgo := t_pure_good) (pba := t_pure_bad) (pri := t_pure_rowsIn) (bz := t_bands_size) (ble := t_bands_least) (bgr := t_bands_greatest) (bgo := t_bands_good) (bba := t_bands_bad) (bri := t_bands_rowsIn) (run := t_sp_runs) (stt := m_state) (z1 := m_rows) (z2 := m_bands) (s1 := m_score) (s2 := m_good) (s3 := m_badOnes) (s4 := m_start) hN ok hle hmo hset hS hst ⟨aP2, aP3⟩ hx1 hx2
  · exact ⟨v, _, _, fun sz => k_X12_rate hA, fun sz => k_X13_rate hB, Inv.mk cTp cOu cA cLn cSm cEm cMo nSe cDr nSp⟩
  · exact ⟨v, _, _, fun sz => k_X12_rate hA, fun sz => k_X13_rate hB, Inv.mk cTp cOu cA cLn cSm cEm cMo cSe cDr cSp⟩
set_option maxHeartbeats 4000000 in
theorem st_error {l : Launch} {G : GG} {S : SM} {n : Int} {a b : Nat} {W V : va_W} (h : Inv G S n a b W V) : StL l G S n a b W V yX12_error cX12_error 4 (rmD 7 0 0) yX13_error cX13_error 4 (rmD 7 0 0) [] := by
  refine h _ (fun ad sa t_empty t_latest t_kept t_settled t_tape_size t_tape_store t_out_size t_out_store t_reader_ats t_reader_lines t_reader_least t_reader_most t_reader_faultKind t_reader_faultPlace t_reader_toldLines t_reader_kind t_reader_start t_reader_next t_reader_number t_reader_score t_reader_good t_reader_bad t_reader_open t_reader_costs t_stock_least t_stock_most t_stock_goodCost t_stock_badCost t_stock_referCost t_stock_good t_stock_bad t_stock_open t_rows_size t_rows_score t_rows_good t_rows_bad t_rows_goodAhead t_rows_badAhead t_pure_size t_pure_least t_pure_greatest t_pure_good t_pure_bad t_pure_rowsIn t_bands_size t_bands_least t_bands_greatest t_bands_good t_bands_bad t_bands_rowsIn t_best_lower t_best_upper t_best_together t_drawn_size t_drawn_score t_drawn_good t_drawn_bad t_drawn_goodAhead t_drawn_badAhead t_drawnPure_size t_drawnPure_least t_drawnPure_greatest t_drawnPure_good t_drawnPure_bad t_drawnPure_rowsIn t_inferred_size t_inferred_score t_inferred_open t_inferred_bad t_decisions_size t_decisions_learns t_decisions_score t_decisions_choice t_decisions_advice t_decisions_result t_decisions_learntBy t_acts_size t_acts_kind t_acts_first t_acts_second t_acts_third t_months t_spread t_sp t_sp_runs t_sp_whole t_sp_begins t_sp_fewer t_sp_told bd m_readAts m_lines m_at m_begin m_token m_value m_bad m_rows m_bands m_one m_other m_both m_driftAbove m_driftBelow m_driftMost m_state m_kept m_was m_sample m_months m_tape m_read m_isTold m_readRules m_score m_good m_badOnes m_start m_below m_errorBy m_lastBy m_out hW hV cTp cOu cA cLn cSm cEm cMo cSe cDr cSp => ?_)
  subst hW; subst hV
  have hN : 40000 ≤ 40000 := Nat.le_refl _
  obtain ⟨aV, aP, aD, aC, aL, aM⟩ := id cA
  have hst := aP.st
  have hFit := aP.fit aV
  have ok := hFit.ok
  obtain ⟨aP1, aP2, aP3, aP4, aP5, aP6⟩ := id aP
  obtain ⟨-, -, aV3, -⟩ := aV
  rw [aP2, aP3, aP4, aP5, aP6] at aV3
  obtain ⟨hle, hmo, hgc, hbc, hrc⟩ := aV3
  obtain ⟨cS1, cS2, cS3⟩ := id cSe
  obtain ⟨rsc', rgo', rba', rgA', rbA', ple', pgr', pgo', pba', pri', ble', bgr', bgo', bba', bri', run', hset, hS, hrun⟩ := settle_ok (N := 40000) (sp := t_sp) (run := t_sp_runs) hN ok hle hmo cS1 cS2 cS3
  have nSe := SeR.set hS
  have nSp := cSp.set hrun
  obtain ⟨v, hA | hA, ⟨rr, hB⟩⟩ := q_error (N := 40000) (le := t_stock_least) (mo := t_stock_most) (g := t_stock_good) (b := t_stock_bad) (sp := t_sp) (sd := t_settled) (rz := t_rows_size) (rsc := t_rows_score) (rgo := t_rows_good) (rba := t_rows_bad) (rgA := t_rows_goodAhead) (rbA := t_rows_badAhead) (pz := t_pure_size) (ple := t_pure_least) (pgr := t_pure_greatest) (pgo := t_pure_good) (pba := t_pure_bad) (pri := t_pure_rowsIn) (bz := t_bands_size) (ble := t_bands_least) (bgr := t_bands_greatest) (bgo := t_bands_good) (bba := t_bands_bad) (bri := t_bands_rowsIn) (run := t_sp_runs) (stt := m_state) (z1 := m_rows) (z2 := m_bands) (s1 := m_score) (s2 := m_good) (s3 := m_badOnes) (s4 := m_start) hN ok hle hmo hset hS hst ⟨aP2, aP3⟩
  · exact ⟨v, _, _, fun sz => k_X12_error hA, fun sz => k_X13_error hB, Inv.mk cTp cOu cA cLn cSm cEm cMo nSe cDr nSp⟩
  · exact ⟨v, _, _, fun sz => k_X12_error hA, fun sz => k_X13_error hB, Inv.mk cTp cOu cA cLn cSm cEm cMo cSe cDr cSp⟩
set_option maxHeartbeats 4000000 in
theorem st_joint {l : Launch} {G : GG} {S : SM} {n : Int} {a b : Nat} {W V : va_W} {x1 : Int} (hx1 : rI x1) (h : Inv G S n a b W V) : StL l G S n a b W V yX12_joint cX12_joint 2 (rmD 7 0 0) yX13_joint cX13_joint 2 (rmD 7 0 0) [.int (kI x1)] := by
  refine h _ (fun ad sa t_empty t_latest t_kept t_settled t_tape_size t_tape_store t_out_size t_out_store t_reader_ats t_reader_lines t_reader_least t_reader_most t_reader_faultKind t_reader_faultPlace t_reader_toldLines t_reader_kind t_reader_start t_reader_next t_reader_number t_reader_score t_reader_good t_reader_bad t_reader_open t_reader_costs t_stock_least t_stock_most t_stock_goodCost t_stock_badCost t_stock_referCost t_stock_good t_stock_bad t_stock_open t_rows_size t_rows_score t_rows_good t_rows_bad t_rows_goodAhead t_rows_badAhead t_pure_size t_pure_least t_pure_greatest t_pure_good t_pure_bad t_pure_rowsIn t_bands_size t_bands_least t_bands_greatest t_bands_good t_bands_bad t_bands_rowsIn t_best_lower t_best_upper t_best_together t_drawn_size t_drawn_score t_drawn_good t_drawn_bad t_drawn_goodAhead t_drawn_badAhead t_drawnPure_size t_drawnPure_least t_drawnPure_greatest t_drawnPure_good t_drawnPure_bad t_drawnPure_rowsIn t_inferred_size t_inferred_score t_inferred_open t_inferred_bad t_decisions_size t_decisions_learns t_decisions_score t_decisions_choice t_decisions_advice t_decisions_result t_decisions_learntBy t_acts_size t_acts_kind t_acts_first t_acts_second t_acts_third t_months t_spread t_sp t_sp_runs t_sp_whole t_sp_begins t_sp_fewer t_sp_told bd m_readAts m_lines m_at m_begin m_token m_value m_bad m_rows m_bands m_one m_other m_both m_driftAbove m_driftBelow m_driftMost m_state m_kept m_was m_sample m_months m_tape m_read m_isTold m_readRules m_score m_good m_badOnes m_start m_below m_errorBy m_lastBy m_out hW hV cTp cOu cA cLn cSm cEm cMo cSe cDr cSp => ?_)
  subst hW; subst hV
  have hN : 40000 ≤ 40000 := Nat.le_refl _
  obtain ⟨aV, aP, aD, aC, aL, aM⟩ := id cA
  have hst := aP.st
  have hFit := aP.fit aV
  have ok := hFit.ok
  obtain ⟨aP1, aP2, aP3, aP4, aP5, aP6⟩ := id aP
  obtain ⟨-, -, aV3, -⟩ := aV
  rw [aP2, aP3, aP4, aP5, aP6] at aV3
  obtain ⟨hle, hmo, hgc, hbc, hrc⟩ := aV3
  obtain ⟨cS1, cS2, cS3⟩ := id cSe
  obtain ⟨rsc', rgo', rba', rgA', rbA', ple', pgr', pgo', pba', pri', ble', bgr', bgo', bba', bri', run', hset, hS, hrun⟩ := settle_ok (N := 40000) (sp := t_sp) (run := t_sp_runs) hN ok hle hmo cS1 cS2 cS3
  have nSe := SeR.set hS
  have nSp := cSp.set hrun
  obtain ⟨v, hA | hA, ⟨rr, hB⟩⟩ := q_joint (N := 40000) (le := t_stock_least) (mo := t_stock_most) (g := t_stock_good) (b := t_stock_bad) (sp := t_sp) (sd := t_settled) (rz := t_rows_size) (rsc := t_rows_score) (rgo := t_rows_good) (rba := t_rows_bad) (rgA := t_rows_goodAhead) (rbA := t_rows_badAhead) (pz := t_pure_size) (ple := t_pure_least) (pgr := t_pure_greatest) (pgo := t_pure_good) (pba := t_pure_bad) (pri := t_pure_rowsIn) (bz := t_bands_size) (ble := t_bands_least) (bgr := t_bands_greatest) (bgo := t_bands_good) (bba := t_bands_bad) (bri := t_bands_rowsIn) (run := t_sp_runs) (stt := m_state) (z1 := m_rows) (z2 := m_bands) (s1 := m_score) (s2 := m_good) (s3 := m_badOnes) (s4 := m_start) hN ok hle hmo hset hS hst ⟨aP2, aP3⟩ hx1
  · exact ⟨v, _, _, fun sz => k_X12_joint hA, fun sz => k_X13_joint hB, Inv.mk cTp cOu cA cLn cSm cEm cMo nSe cDr nSp⟩
  · exact ⟨v, _, _, fun sz => k_X12_joint hA, fun sz => k_X13_joint hB, Inv.mk cTp cOu cA cLn cSm cEm cMo cSe cDr cSp⟩
set_option maxHeartbeats 4000000 in
theorem st_auc {l : Launch} {G : GG} {S : SM} {n : Int} {a b : Nat} {W V : va_W} {x1 : Int} (hx1 : rI x1) (h : Inv G S n a b W V) : StL l G S n a b W V yX12_auc cX12_auc 2 (rmD 7 0 0) yX13_auc cX13_auc 5 (rmD 3 0 0) [.int (kI x1)] := by
  refine h _ (fun ad sa t_empty t_latest t_kept t_settled t_tape_size t_tape_store t_out_size t_out_store t_reader_ats t_reader_lines t_reader_least t_reader_most t_reader_faultKind t_reader_faultPlace t_reader_toldLines t_reader_kind t_reader_start t_reader_next t_reader_number t_reader_score t_reader_good t_reader_bad t_reader_open t_reader_costs t_stock_least t_stock_most t_stock_goodCost t_stock_badCost t_stock_referCost t_stock_good t_stock_bad t_stock_open t_rows_size t_rows_score t_rows_good t_rows_bad t_rows_goodAhead t_rows_badAhead t_pure_size t_pure_least t_pure_greatest t_pure_good t_pure_bad t_pure_rowsIn t_bands_size t_bands_least t_bands_greatest t_bands_good t_bands_bad t_bands_rowsIn t_best_lower t_best_upper t_best_together t_drawn_size t_drawn_score t_drawn_good t_drawn_bad t_drawn_goodAhead t_drawn_badAhead t_drawnPure_size t_drawnPure_least t_drawnPure_greatest t_drawnPure_good t_drawnPure_bad t_drawnPure_rowsIn t_inferred_size t_inferred_score t_inferred_open t_inferred_bad t_decisions_size t_decisions_learns t_decisions_score t_decisions_choice t_decisions_advice t_decisions_result t_decisions_learntBy t_acts_size t_acts_kind t_acts_first t_acts_second t_acts_third t_months t_spread t_sp t_sp_runs t_sp_whole t_sp_begins t_sp_fewer t_sp_told bd m_readAts m_lines m_at m_begin m_token m_value m_bad m_rows m_bands m_one m_other m_both m_driftAbove m_driftBelow m_driftMost m_state m_kept m_was m_sample m_months m_tape m_read m_isTold m_readRules m_score m_good m_badOnes m_start m_below m_errorBy m_lastBy m_out hW hV cTp cOu cA cLn cSm cEm cMo cSe cDr cSp => ?_)
  subst hW; subst hV
  have hN : 40000 ≤ 40000 := Nat.le_refl _
  obtain ⟨aV, aP, aD, aC, aL, aM⟩ := id cA
  have hst := aP.st
  have hFit := aP.fit aV
  have ok := hFit.ok
  obtain ⟨aP1, aP2, aP3, aP4, aP5, aP6⟩ := id aP
  obtain ⟨-, -, aV3, -⟩ := aV
  rw [aP2, aP3, aP4, aP5, aP6] at aV3
  obtain ⟨hle, hmo, hgc, hbc, hrc⟩ := aV3
  obtain ⟨cS1, cS2, cS3⟩ := id cSe
  obtain ⟨rsc', rgo', rba', rgA', rbA', ple', pgr', pgo', pba', pri', ble', bgr', bgo', bba', bri', run', hset, hS, hrun⟩ := settle_ok (N := 40000) (sp := t_sp) (run := t_sp_runs) hN ok hle hmo cS1 cS2 cS3
  have nSe := SeR.set hS
  have nSp := cSp.set hrun
  obtain ⟨v, hA | hA, ⟨rr, hB⟩⟩ := q_auc (N := 40000) (le := t_stock_least) (mo := t_stock_most) (g := t_stock_good) (b := t_stock_bad) (sp := t_sp) (sd := t_settled) (rz := t_rows_size) (rsc := t_rows_score) (rgo := t_rows_good) (rba := t_rows_bad) (rgA := t_rows_goodAhead) (rbA := t_rows_badAhead) (pz := t_pure_size) (ple := t_pure_least) (pgr := t_pure_greatest) (pgo := t_pure_good) (pba := t_pure_bad) (pri := t_pure_rowsIn) (bz := t_bands_size) (ble := t_bands_least) (bgr := t_bands_greatest) (bgo := t_bands_good) (bba := t_bands_bad) (bri := t_bands_rowsIn) (run := t_sp_runs) (stt := m_state) (z1 := m_rows) (s1 := m_score) (s2 := m_good) (s3 := m_badOnes) hN ok hle hmo hset hS hst ⟨aP2, aP3⟩ hx1
  · exact ⟨v, _, _, fun sz => k_X12_auc hA, fun sz => k_X13_auc hB, Inv.mk cTp cOu cA cLn cSm cEm cMo nSe cDr nSp⟩
  · exact ⟨v, _, _, fun sz => k_X12_auc hA, fun sz => k_X13_auc hB, Inv.mk cTp cOu cA cLn cSm cEm cMo cSe cDr cSp⟩
set_option maxHeartbeats 4000000 in
theorem st_ks {l : Launch} {G : GG} {S : SM} {n : Int} {a b : Nat} {W V : va_W} {x1 : Int} (hx1 : rI x1) (h : Inv G S n a b W V) : StL l G S n a b W V yX12_ks cX12_ks 3 (rmD 7 0 0) yX13_ks cX13_ks 12 (rmD 3 0 0) [.int (kI x1)] := by
  refine h _ (fun ad sa t_empty t_latest t_kept t_settled t_tape_size t_tape_store t_out_size t_out_store t_reader_ats t_reader_lines t_reader_least t_reader_most t_reader_faultKind t_reader_faultPlace t_reader_toldLines t_reader_kind t_reader_start t_reader_next t_reader_number t_reader_score t_reader_good t_reader_bad t_reader_open t_reader_costs t_stock_least t_stock_most t_stock_goodCost t_stock_badCost t_stock_referCost t_stock_good t_stock_bad t_stock_open t_rows_size t_rows_score t_rows_good t_rows_bad t_rows_goodAhead t_rows_badAhead t_pure_size t_pure_least t_pure_greatest t_pure_good t_pure_bad t_pure_rowsIn t_bands_size t_bands_least t_bands_greatest t_bands_good t_bands_bad t_bands_rowsIn t_best_lower t_best_upper t_best_together t_drawn_size t_drawn_score t_drawn_good t_drawn_bad t_drawn_goodAhead t_drawn_badAhead t_drawnPure_size t_drawnPure_least t_drawnPure_greatest t_drawnPure_good t_drawnPure_bad t_drawnPure_rowsIn t_inferred_size t_inferred_score t_inferred_open t_inferred_bad t_decisions_size t_decisions_learns t_decisions_score t_decisions_choice t_decisions_advice t_decisions_result t_decisions_learntBy t_acts_size t_acts_kind t_acts_first t_acts_second t_acts_third t_months t_spread t_sp t_sp_runs t_sp_whole t_sp_begins t_sp_fewer t_sp_told bd m_readAts m_lines m_at m_begin m_token m_value m_bad m_rows m_bands m_one m_other m_both m_driftAbove m_driftBelow m_driftMost m_state m_kept m_was m_sample m_months m_tape m_read m_isTold m_readRules m_score m_good m_badOnes m_start m_below m_errorBy m_lastBy m_out hW hV cTp cOu cA cLn cSm cEm cMo cSe cDr cSp => ?_)
  subst hW; subst hV
  have hN : 40000 ≤ 40000 := Nat.le_refl _
  obtain ⟨aV, aP, aD, aC, aL, aM⟩ := id cA
  have hst := aP.st
  have hFit := aP.fit aV
  have ok := hFit.ok
  obtain ⟨aP1, aP2, aP3, aP4, aP5, aP6⟩ := id aP
  obtain ⟨-, -, aV3, -⟩ := aV
  rw [aP2, aP3, aP4, aP5, aP6] at aV3
  obtain ⟨hle, hmo, hgc, hbc, hrc⟩ := aV3
  obtain ⟨cS1, cS2, cS3⟩ := id cSe
  obtain ⟨rsc', rgo', rba', rgA', rbA', ple', pgr', pgo', pba', pri', ble', bgr', bgo', bba', bri', run', hset, hS, hrun⟩ := settle_ok (N := 40000) (sp := t_sp) (run := t_sp_runs) hN ok hle hmo cS1 cS2 cS3
  have nSe := SeR.set hS
  have nSp := cSp.set hrun
  obtain ⟨v, hA | hA, ⟨rr, hB⟩⟩ := q_ks (N := 40000) (le := t_stock_least) (mo := t_stock_most) (g := t_stock_good) (b := t_stock_bad) (sp := t_sp) (sd := t_settled) (rz := t_rows_size) (rsc := t_rows_score) (rgo := t_rows_good) (rba := t_rows_bad) (rgA := t_rows_goodAhead) (rbA := t_rows_badAhead) (pz := t_pure_size) (ple := t_pure_least) (pgr := t_pure_greatest) (pgo := t_pure_good) (pba := t_pure_bad) (pri := t_pure_rowsIn) (bz := t_bands_size) (ble := t_bands_least) (bgr := t_bands_greatest) (bgo := t_bands_good) (bba := t_bands_bad) (bri := t_bands_rowsIn) (run := t_sp_runs) (stt := m_state) (z1 := m_rows) (s1 := m_score) (s2 := m_good) (s3 := m_badOnes) hN ok hle hmo hset hS hst ⟨aP2, aP3⟩ hx1
  · exact ⟨v, _, _, fun sz => k_X12_ks hA, fun sz => k_X13_ks hB, Inv.mk cTp cOu cA cLn cSm cEm cMo nSe cDr nSp⟩
  · exact ⟨v, _, _, fun sz => k_X12_ks hA, fun sz => k_X13_ks hB, Inv.mk cTp cOu cA cLn cSm cEm cMo cSe cDr cSp⟩
set_option maxHeartbeats 4000000 in
theorem st_hull {l : Launch} {G : GG} {S : SM} {n : Int} {a b : Nat} {W V : va_W} {x1 : Int} (hx1 : rI x1) {x2 : Int} (hx2 : rI x2) (h : Inv G S n a b W V) : StI l G S n a b W V yX12_hull cX12_hull 3 (rmD 7 0 0) yX13_hull cX13_hull 3 (rmD 5 0 0) [.int (kI x1), .int (kI x2)] := by
  refine h _ (fun ad sa t_empty t_latest t_kept t_settled t_tape_size t_tape_store t_out_size t_out_store t_reader_ats t_reader_lines t_reader_least t_reader_most t_reader_faultKind t_reader_faultPlace t_reader_toldLines t_reader_kind t_reader_start t_reader_next t_reader_number t_reader_score t_reader_good t_reader_bad t_reader_open t_reader_costs t_stock_least t_stock_most t_stock_goodCost t_stock_badCost t_stock_referCost t_stock_good t_stock_bad t_stock_open t_rows_size t_rows_score t_rows_good t_rows_bad t_rows_goodAhead t_rows_badAhead t_pure_size t_pure_least t_pure_greatest t_pure_good t_pure_bad t_pure_rowsIn t_bands_size t_bands_least t_bands_greatest t_bands_good t_bands_bad t_bands_rowsIn t_best_lower t_best_upper t_best_together t_drawn_size t_drawn_score t_drawn_good t_drawn_bad t_drawn_goodAhead t_drawn_badAhead t_drawnPure_size t_drawnPure_least t_drawnPure_greatest t_drawnPure_good t_drawnPure_bad t_drawnPure_rowsIn t_inferred_size t_inferred_score t_inferred_open t_inferred_bad t_decisions_size t_decisions_learns t_decisions_score t_decisions_choice t_decisions_advice t_decisions_result t_decisions_learntBy t_acts_size t_acts_kind t_acts_first t_acts_second t_acts_third t_months t_spread t_sp t_sp_runs t_sp_whole t_sp_begins t_sp_fewer t_sp_told bd m_readAts m_lines m_at m_begin m_token m_value m_bad m_rows m_bands m_one m_other m_both m_driftAbove m_driftBelow m_driftMost m_state m_kept m_was m_sample m_months m_tape m_read m_isTold m_readRules m_score m_good m_badOnes m_start m_below m_errorBy m_lastBy m_out hW hV cTp cOu cA cLn cSm cEm cMo cSe cDr cSp => ?_)
  subst hW; subst hV
  have hN : 40000 ≤ 40000 := Nat.le_refl _
  obtain ⟨aV, aP, aD, aC, aL, aM⟩ := id cA
  have hst := aP.st
  have hFit := aP.fit aV
  have ok := hFit.ok
  obtain ⟨aP1, aP2, aP3, aP4, aP5, aP6⟩ := id aP
  obtain ⟨-, -, aV3, -⟩ := aV
  rw [aP2, aP3, aP4, aP5, aP6] at aV3
  obtain ⟨hle, hmo, hgc, hbc, hrc⟩ := aV3
  obtain ⟨cS1, cS2, cS3⟩ := id cSe
  obtain ⟨rsc', rgo', rba', rgA', rbA', ple', pgr', pgo', pba', pri', ble', bgr', bgo', bba', bri', run', hset, hS, hrun⟩ := settle_ok (N := 40000) (sp := t_sp) (run := t_sp_runs) hN ok hle hmo cS1 cS2 cS3
  have nSe := SeR.set hS
  have nSp := cSp.set hrun
  obtain ⟨v, hA | hA, ⟨rr, hB⟩⟩ := q_hull (N := 40000) (le := t_stock_least) (mo := t_stock_most) (g := t_stock_good) (b := t_stock_bad) (sp := t_sp) (sd := t_settled) (rz := t_rows_size) (rsc := t_rows_score) (rgo := t_rows_good) (rba := t_rows_bad) (rgA := t_rows_goodAhead) (rbA := t_rows_badAhead) (pz := t_pure_size) (ple := t_pure_least) (pgr := t_pure_greatest) (pgo := t_pure_good) (pba := t_pure_bad) (pri := t_pure_rowsIn) (bz := t_bands_size) (ble := t_bands_least) (bgr := t_bands_greatest) (bgo := t_bands_good) (bba := t_bands_bad) (bri := t_bands_rowsIn) (run := t_sp_runs) (stt := m_state) (z1 := m_rows) (z2 := m_bands) (s1 := m_score) (s2 := m_good) (s3 := m_badOnes) (s4 := m_start) hN ok hle hmo hset hS hst ⟨aP2, aP3⟩ hx1 hx2
  · exact ⟨v, _, _, fun sz => k_X12_hull hA, fun sz => k_X13_hull hB, Inv.mk cTp cOu cA cLn cSm cEm cMo nSe cDr nSp⟩
  · exact ⟨v, _, _, fun sz => k_X12_hull hA, fun sz => k_X13_hull hB, Inv.mk cTp cOu cA cLn cSm cEm cMo cSe cDr cSp⟩
set_option maxHeartbeats 4000000 in
theorem st_cost {l : Launch} {G : GG} {S : SM} {n : Int} {a b : Nat} {W V : va_W} {x1 : Int} (hx1 : rI x1) (h : Inv G S n a b W V) : StI l G S n a b W V yX12_cost cX12_cost 2 (rmD 7 0 0) yX13_cost cX13_cost 2 (rmD 3 0 0) [.int (kI x1)] := by
  refine h _ (fun ad sa t_empty t_latest t_kept t_settled t_tape_size t_tape_store t_out_size t_out_store t_reader_ats t_reader_lines t_reader_least t_reader_most t_reader_faultKind t_reader_faultPlace t_reader_toldLines t_reader_kind t_reader_start t_reader_next t_reader_number t_reader_score t_reader_good t_reader_bad t_reader_open t_reader_costs t_stock_least t_stock_most t_stock_goodCost t_stock_badCost t_stock_referCost t_stock_good t_stock_bad t_stock_open t_rows_size t_rows_score t_rows_good t_rows_bad t_rows_goodAhead t_rows_badAhead t_pure_size t_pure_least t_pure_greatest t_pure_good t_pure_bad t_pure_rowsIn t_bands_size t_bands_least t_bands_greatest t_bands_good t_bands_bad t_bands_rowsIn t_best_lower t_best_upper t_best_together t_drawn_size t_drawn_score t_drawn_good t_drawn_bad t_drawn_goodAhead t_drawn_badAhead t_drawnPure_size t_drawnPure_least t_drawnPure_greatest t_drawnPure_good t_drawnPure_bad t_drawnPure_rowsIn t_inferred_size t_inferred_score t_inferred_open t_inferred_bad t_decisions_size t_decisions_learns t_decisions_score t_decisions_choice t_decisions_advice t_decisions_result t_decisions_learntBy t_acts_size t_acts_kind t_acts_first t_acts_second t_acts_third t_months t_spread t_sp t_sp_runs t_sp_whole t_sp_begins t_sp_fewer t_sp_told bd m_readAts m_lines m_at m_begin m_token m_value m_bad m_rows m_bands m_one m_other m_both m_driftAbove m_driftBelow m_driftMost m_state m_kept m_was m_sample m_months m_tape m_read m_isTold m_readRules m_score m_good m_badOnes m_start m_below m_errorBy m_lastBy m_out hW hV cTp cOu cA cLn cSm cEm cMo cSe cDr cSp => ?_)
  subst hW; subst hV
  have hN : 40000 ≤ 40000 := Nat.le_refl _
  obtain ⟨aV, aP, aD, aC, aL, aM⟩ := id cA
  have hst := aP.st
  have hFit := aP.fit aV
  have ok := hFit.ok
  obtain ⟨aP1, aP2, aP3, aP4, aP5, aP6⟩ := id aP
  obtain ⟨-, -, aV3, -⟩ := aV
  rw [aP2, aP3, aP4, aP5, aP6] at aV3
  obtain ⟨hle, hmo, hgc, hbc, hrc⟩ := aV3
  obtain ⟨cS1, cS2, cS3⟩ := id cSe
  obtain ⟨rsc', rgo', rba', rgA', rbA', ple', pgr', pgo', pba', pri', ble', bgr', bgo', bba', bri', run', hset, hS, hrun⟩ := settle_ok (N := 40000) (sp := t_sp) (run := t_sp_runs) hN ok hle hmo cS1 cS2 cS3
  have nSe := SeR.set hS
  have nSp := cSp.set hrun
  obtain ⟨v, hA | hA, ⟨rr, hB⟩⟩ := q_cost (N := 40000) (le := t_stock_least) (mo := t_stock_most) (gc := t_stock_goodCost) (bc := t_stock_badCost) (g := t_stock_good) (b := t_stock_bad) (sp := t_sp) (sd := t_settled) (rz := t_rows_size) (rsc := t_rows_score) (rgo := t_rows_good) (rba := t_rows_bad) (rgA := t_rows_goodAhead) (rbA := t_rows_badAhead) (pz := t_pure_size) (ple := t_pure_least) (pgr := t_pure_greatest) (pgo := t_pure_good) (pba := t_pure_bad) (pri := t_pure_rowsIn) (bz := t_bands_size) (ble := t_bands_least) (bgr := t_bands_greatest) (bgo := t_bands_good) (bba := t_bands_bad) (bri := t_bands_rowsIn) (run := t_sp_runs) (stt := m_state) (z1 := m_rows) (s1 := m_score) (s2 := m_good) (s3 := m_badOnes) (s4 := m_below) hN ok hle hmo hset hS hst ⟨aP2, aP3⟩ ⟨aP4, aP5, aP6⟩ hgc hbc hrc hx1
  · exact ⟨v, _, _, fun sz => k_X12_cost hA, fun sz => k_X13_cost hB, Inv.mk cTp cOu cA cLn cSm cEm cMo nSe cDr nSp⟩
  · exact ⟨v, _, _, fun sz => k_X12_cost hA, fun sz => k_X13_cost hB, Inv.mk cTp cOu cA cLn cSm cEm cMo cSe cDr cSp⟩
set_option maxHeartbeats 4000000 in
theorem st_cut {l : Launch} {G : GG} {S : SM} {n : Int} {a b : Nat} {W V : va_W} {x1 : Int} (hx1 : rI x1) (h : Inv G S n a b W V) : StI l G S n a b W V yX12_cut cX12_cut 3 (rmD 7 0 0) yX13_cut cX13_cut 3 (rmD 4 0 0) [.int (kI x1)] := by
  refine h _ (fun ad sa t_empty t_latest t_kept t_settled t_tape_size t_tape_store t_out_size t_out_store t_reader_ats t_reader_lines t_reader_least t_reader_most t_reader_faultKind t_reader_faultPlace t_reader_toldLines t_reader_kind t_reader_start t_reader_next t_reader_number t_reader_score t_reader_good t_reader_bad t_reader_open t_reader_costs t_stock_least t_stock_most t_stock_goodCost t_stock_badCost t_stock_referCost t_stock_good t_stock_bad t_stock_open t_rows_size t_rows_score t_rows_good t_rows_bad t_rows_goodAhead t_rows_badAhead t_pure_size t_pure_least t_pure_greatest t_pure_good t_pure_bad t_pure_rowsIn t_bands_size t_bands_least t_bands_greatest t_bands_good t_bands_bad t_bands_rowsIn t_best_lower t_best_upper t_best_together t_drawn_size t_drawn_score t_drawn_good t_drawn_bad t_drawn_goodAhead t_drawn_badAhead t_drawnPure_size t_drawnPure_least t_drawnPure_greatest t_drawnPure_good t_drawnPure_bad t_drawnPure_rowsIn t_inferred_size t_inferred_score t_inferred_open t_inferred_bad t_decisions_size t_decisions_learns t_decisions_score t_decisions_choice t_decisions_advice t_decisions_result t_decisions_learntBy t_acts_size t_acts_kind t_acts_first t_acts_second t_acts_third t_months t_spread t_sp t_sp_runs t_sp_whole t_sp_begins t_sp_fewer t_sp_told bd m_readAts m_lines m_at m_begin m_token m_value m_bad m_rows m_bands m_one m_other m_both m_driftAbove m_driftBelow m_driftMost m_state m_kept m_was m_sample m_months m_tape m_read m_isTold m_readRules m_score m_good m_badOnes m_start m_below m_errorBy m_lastBy m_out hW hV cTp cOu cA cLn cSm cEm cMo cSe cDr cSp => ?_)
  subst hW; subst hV
  have hN : 40000 ≤ 40000 := Nat.le_refl _
  obtain ⟨aV, aP, aD, aC, aL, aM⟩ := id cA
  have hst := aP.st
  have hFit := aP.fit aV
  have ok := hFit.ok
  obtain ⟨aP1, aP2, aP3, aP4, aP5, aP6⟩ := id aP
  obtain ⟨-, -, aV3, -⟩ := aV
  rw [aP2, aP3, aP4, aP5, aP6] at aV3
  obtain ⟨hle, hmo, hgc, hbc, hrc⟩ := aV3
  obtain ⟨cS1, cS2, cS3⟩ := id cSe
  obtain ⟨rsc', rgo', rba', rgA', rbA', ple', pgr', pgo', pba', pri', ble', bgr', bgo', bba', bri', run', hset, hS, hrun⟩ := settle_ok (N := 40000) (sp := t_sp) (run := t_sp_runs) hN ok hle hmo cS1 cS2 cS3
  have nSe := SeR.set hS
  have nSp := cSp.set hrun
  obtain ⟨v, hA | hA, ⟨rr, hB⟩⟩ := q_cut (N := 40000) (le := t_stock_least) (mo := t_stock_most) (gc := t_stock_goodCost) (bc := t_stock_badCost) (g := t_stock_good) (b := t_stock_bad) (sp := t_sp) (sd := t_settled) (rz := t_rows_size) (rsc := t_rows_score) (rgo := t_rows_good) (rba := t_rows_bad) (rgA := t_rows_goodAhead) (rbA := t_rows_badAhead) (pz := t_pure_size) (ple := t_pure_least) (pgr := t_pure_greatest) (pgo := t_pure_good) (pba := t_pure_bad) (pri := t_pure_rowsIn) (bz := t_bands_size) (ble := t_bands_least) (bgr := t_bands_greatest) (bgo := t_bands_good) (bba := t_bands_bad) (bri := t_bands_rowsIn) (run := t_sp_runs) (stt := m_state) (z1 := m_rows) (s1 := m_score) (s2 := m_good) (s3 := m_badOnes) (s4 := m_below) hN ok hle hmo hset hS hst ⟨aP2, aP3⟩ ⟨aP4, aP5, aP6⟩ hgc hbc hrc hx1
  · exact ⟨v, _, _, fun sz => k_X12_cut hA, fun sz => k_X13_cut hB, Inv.mk cTp cOu cA cLn cSm cEm cMo nSe cDr nSp⟩
  · exact ⟨v, _, _, fun sz => k_X12_cut hA, fun sz => k_X13_cut hB, Inv.mk cTp cOu cA cLn cSm cEm cMo cSe cDr cSp⟩
