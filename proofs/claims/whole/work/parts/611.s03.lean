set_option maxHeartbeats 4000000 in
theorem st_bandOf {l : Launch} {G : GG} {S : SM} {n : Int} {a b : Nat} {W V : va_W} {x1 : Int} (hx1 : rI x1) (h : Inv G S n a b W V) : StI l G S n a b W V yX12_bandOf cX12_bandOf 2 (rmD 7 0 0) yX13_bandOf cX13_bandOf 2 (rmD 7 0 0) [.int (kI x1)] := by
  refine h _ (fun ad sa t_empty t_latest t_kept t_settled t_tape_size t_tape_store t_out_size t_out_store t_reader_ats t_reader_lines t_reader_least t_reader_most t_reader_faultKind t_reader_faultPlace t_reader_toldLines t_reader_kind t_reader_start t_reader_next t_reader_number t_reader_score t_reader_good t_reader_bad t_reader_open t_reader_costs t_stock_least t_stock_most t_stock_goodCost t_stock_badCost t_stock_referCost t_stock_good t_stock_bad t_stock_open t_rows_size t_rows_score t_rows_good t_rows_bad t_rows_goodAhead t_rows_badAhead t_pure_size t_pure_least t_pure_greatest t_pure_good t_pure_bad t_pure_rowsIn t_bands_size t_bands_least t_bands_greatest t_bands_good t_bands_bad t_bands_rowsIn t_best_lower t_best_upper t_best_together t_drawn_size t_drawn_score t_drawn_good t_drawn_bad t_drawn_goodAhead t_drawn_badAhead t_drawnPure_size t_drawnPure_least t_drawnPure_greatest t_drawnPure_good t_drawnPure_bad t_drawnPure_rowsIn t_inferred_size t_inferred_score t_inferred_open t_inferred_bad t_decisions_size t_decisions_learns t_decisions_score t_decisions_choice t_decisions_advice t_decisions_result t_decisions_learntBy t_acts_size t_acts_kind t_acts_first t_acts_second t_acts_third t_months t_spread t_sp t_sp_runs t_sp_whole t_sp_begins t_sp_fewer t_sp_told bd m_readAts m_lines m_at m_begin m_token m_value m_bad m_rows m_bands m_one m_other m_both m_driftAbove m_driftBelow m_driftMost m_state m_kept m_was m_sample m_months m_tape m_read m_isTold m_readRules m_score m_good m_badOnes m_start m_below m_errorBy m_lastBy m_out hW hV cTp cOu cA cLn cSm cEm cMo cSe cDr cSp => ?_)
  subst hW; subst hV
  have hN : 40000 ≤ 40000 := Nat.le_refl _
  obtain ⟨aV, aP, aD, aC, aL, aM⟩ := id cA
  have hst := aP.st
  have hFit := aP.fit aV
  have ok := hFit.ok
  obtain ⟨aP1, aP2, aP3, aP4, aP5, aP6⟩ := id aP
  obtain ⟨-, -, aV3, -⟩ := aV
  rw [aP2, aP3, aP4, aP5, aP6] at aV3
  obtain ⟨hle, hmo, hgc, hbc, hrc⟩ := aV3
  obtain ⟨cS1, cS2, cS3⟩ := id cSe
  obtain ⟨rsc', rgo', rba', rgA', rbA', ple', pgr', pgo', pba', pri', ble', bgr', bgo', bba', bri', run', hset, hS, hrun⟩ := settle_ok (N := 40000) (sp := t_sp) (run := t_sp_runs) hN ok hle hmo cS1 cS2 cS3
  have nSe := SeR.set hS
  have nSp := cSp.set hrun
  by_cases c : 0 ≤ x1 ∧ x1 < 1000
  · obtain ⟨v, hA, ⟨rr, hB⟩⟩ := q_bandOf (N := 40000) (le := t_stock_least) (mo := t_stock_most) (g := t_stock_good) (b := t_stock_bad) (sp := t_sp) (sd := t_settled) (rz := t_rows_size) (rsc := t_rows_score) (rgo := t_rows_good) (rba := t_rows_bad) (rgA := t_rows_goodAhead) (rbA := t_rows_badAhead) (pz := t_pure_size) (ple := t_pure_least) (pgr := t_pure_greatest) (pgo := t_pure_good) (pba := t_pure_bad) (pri := t_pure_rowsIn) (bz := t_bands_size) (ble := t_bands_least) (bgr := t_bands_greatest) (bgo := t_bands_good) (bba := t_bands_bad) (bri := t_bands_rowsIn) (run := t_sp_runs) (stt := m_state) (z1 := m_rows) (z2 := m_bands) (s1 := m_score) (s2 := m_good) (s3 := m_badOnes) (s4 := m_start) hN ok hle hmo hset hS hst ⟨aP2, aP3⟩ hx1 c
    exact ⟨v, _, _, fun sz => k_X12_bandOf hA, fun sz => k_X13_bandOf hB, Inv.mk cTp cOu cA cLn cSm cEm cMo nSe cDr nSp⟩
  · obtain ⟨hA, ⟨rr, hB⟩⟩ := q_bandOf0 (N := 40000) (le := t_stock_least) (mo := t_stock_most) (g := t_stock_good) (b := t_stock_bad) (sp := t_sp) (sd := t_settled) (rz := t_rows_size) (rsc := t_rows_score) (rgo := t_rows_good) (rba := t_rows_bad) (rgA := t_rows_goodAhead) (rbA := t_rows_badAhead) (pz := t_pure_size) (ple := t_pure_least) (pgr := t_pure_greatest) (pgo := t_pure_good) (pba := t_pure_bad) (pri := t_pure_rowsIn) (bz := t_bands_size) (ble := t_bands_least) (bgr := t_bands_greatest) (bgo := t_bands_good) (bba := t_bands_bad) (bri := t_bands_rowsIn) (run := t_sp_runs) (stt := m_state) (z1 := m_rows) (z2 := m_bands) (s1 := m_score) (s2 := m_good) (s3 := m_badOnes) (s4 := m_start) hx1 c
    exact ⟨-2, _, _, fun sz => k_X12_bandOf hA, fun sz => k_X13_bandOf hB, Inv.mk cTp cOu cA cLn cSm cEm cMo cSe cDr cSp⟩
set_option maxHeartbeats 4000000 in
theorem st_two {l : Launch} {G : GG} {S : SM} {n : Int} {a b : Nat} {W V : va_W} {x1 : Int} (hx1 : rI x1) (h : Inv G S n a b W V) : StI l G S n a b W V yX12_two cX12_two 2 (rmD 7 0 0) yX13_two cX13_two 2 (rmD 4 0 0) [.int (kI x1)] := by
  refine h _ (fun ad sa t_empty t_latest t_kept t_settled t_tape_size t_tape_store t_out_size t_out_store t_reader_ats t_reader_lines t_reader_least t_reader_most t_reader_faultKind t_reader_faultPlace t_reader_toldLines t_reader_kind t_reader_start t_reader_next t_reader_number t_reader_score t_reader_good t_reader_bad t_reader_open t_reader_costs t_stock_least t_stock_most t_stock_goodCost t_stock_badCost t_stock_referCost t_stock_good t_stock_bad t_stock_open t_rows_size t_rows_score t_rows_good t_rows_bad t_rows_goodAhead t_rows_badAhead t_pure_size t_pure_least t_pure_greatest t_pure_good t_pure_bad t_pure_rowsIn t_bands_size t_bands_least t_bands_greatest t_bands_good t_bands_bad t_bands_rowsIn t_best_lower t_best_upper t_best_together t_drawn_size t_drawn_score t_drawn_good t_drawn_bad t_drawn_goodAhead t_drawn_badAhead t_drawnPure_size t_drawnPure_least t_drawnPure_greatest t_drawnPure_good t_drawnPure_bad t_drawnPure_rowsIn t_inferred_size t_inferred_score t_inferred_open t_inferred_bad t_decisions_size t_decisions_learns t_decisions_score t_decisions_choice t_decisions_advice t_decisions_result t_decisions_learntBy t_acts_size t_acts_kind t_acts_first t_acts_second t_acts_third t_months t_spread t_sp t_sp_runs t_sp_whole t_sp_begins t_sp_fewer t_sp_told bd m_readAts m_lines m_at m_begin m_token m_value m_bad m_rows m_bands m_one m_other m_both m_driftAbove m_driftBelow m_driftMost m_state m_kept m_was m_sample m_months m_tape m_read m_isTold m_readRules m_score m_good m_badOnes m_start m_below m_errorBy m_lastBy m_out hW hV cTp cOu cA cLn cSm cEm cMo cSe cDr cSp => ?_)
  subst hW; subst hV
  have hN : 40000 ≤ 40000 := Nat.le_refl _
  obtain ⟨aV, aP, aD, aC, aL, aM⟩ := id cA
  have hst := aP.st
  have hFit := aP.fit aV
  have ok := hFit.ok
  obtain ⟨aP1, aP2, aP3, aP4, aP5, aP6⟩ := id aP
  obtain ⟨-, -, aV3, -⟩ := aV
  rw [aP2, aP3, aP4, aP5, aP6] at aV3
  obtain ⟨hle, hmo, hgc, hbc, hrc⟩ := aV3
  obtain ⟨cS1, cS2, cS3⟩ := id cSe
  obtain ⟨rsc', rgo', rba', rgA', rbA', ple', pgr', pgo', pba', pri', ble', bgr', bgo', bba', bri', run', hset, hS, hrun⟩ := settle_ok (N := 40000) (sp := t_sp) (run := t_sp_runs) hN ok hle hmo cS1 cS2 cS3
  have nSe := SeR.set hS
  have nSp := cSp.set hrun
  obtain ⟨v, l', u', t', hA | hA, ⟨rr, hB⟩⟩ := q_two (N := 40000) (le := t_stock_least) (mo := t_stock_most) (gc := t_stock_goodCost) (bc := t_stock_badCost) (rc := t_stock_referCost) (g := t_stock_good) (b := t_stock_bad) (sp := t_sp) (sd := t_settled) (rz := t_rows_size) (rsc := t_rows_score) (rgo := t_rows_good) (rba := t_rows_bad) (rgA := t_rows_goodAhead) (rbA := t_rows_badAhead) (pz := t_pure_size) (ple := t_pure_least) (pgr := t_pure_greatest) (pgo := t_pure_good) (pba := t_pure_bad) (pri := t_pure_rowsIn) (bz := t_bands_size) (ble := t_bands_least) (bgr := t_bands_greatest) (bgo := t_bands_good) (bba := t_bands_bad) (bri := t_bands_rowsIn) (l := t_best_lower) (u := t_best_upper) (t := t_best_together) (run := t_sp_runs) (stt := m_state) (z1 := m_rows) (o1 := m_one) (o2 := m_other) (o3 := m_both) (s1 := m_score) (s2 := m_good) (s3 := m_badOnes) (s4 := m_below) hN ok hle hmo hset hS hst ⟨aP2, aP3⟩ ⟨aP4, aP5, aP6⟩ hgc hbc hrc hx1
  · exact ⟨v, _, _, fun sz => k_X12_two hA, fun sz => k_X13_two hB, Inv.mk cTp cOu cA cLn cSm cEm cMo nSe cDr nSp⟩
  · exact ⟨v, _, _, fun sz => k_X12_two hA, fun sz => k_X13_two hB, Inv.mk cTp cOu cA cLn cSm cEm cMo cSe cDr cSp⟩
set_option maxHeartbeats 4000000 in
theorem st_resample {l : Launch} {G : GG} {S : SM} {n : Int} {a b : Nat} {W V : va_W} {x1 : Int} (hx1 : rL x1) {x3 : Int} (hx3 : rI x3) (h : Inv G S n a b W V) : StL l G S n a b W V yX12_resample cX12_resample 4 (rmD 7 0 0) yX13_resample cX13_resample 12 (rmD 6 2 122) [.long (kL x1), .int (kI x3)] := by
  refine h _ (fun ad sa t_empty t_latest t_kept t_settled t_tape_size t_tape_store t_out_size t_out_store t_reader_ats t_reader_lines t_reader_least t_reader_most t_reader_faultKind t_reader_faultPlace t_reader_toldLines t_reader_kind t_reader_start t_reader_next t_reader_number t_reader_score t_reader_good t_reader_bad t_reader_open t_reader_costs t_stock_least t_stock_most t_stock_goodCost t_stock_badCost t_stock_referCost t_stock_good t_stock_bad t_stock_open t_rows_size t_rows_score t_rows_good t_rows_bad t_rows_goodAhead t_rows_badAhead t_pure_size t_pure_least t_pure_greatest t_pure_good t_pure_bad t_pure_rowsIn t_bands_size t_bands_least t_bands_greatest t_bands_good t_bands_bad t_bands_rowsIn t_best_lower t_best_upper t_best_together t_drawn_size t_drawn_score t_drawn_good t_drawn_bad t_drawn_goodAhead t_drawn_badAhead t_drawnPure_size t_drawnPure_least t_drawnPure_greatest t_drawnPure_good t_drawnPure_bad t_drawnPure_rowsIn t_inferred_size t_inferred_score t_inferred_open t_inferred_bad t_decisions_size t_decisions_learns t_decisions_score t_decisions_choice t_decisions_advice t_decisions_result t_decisions_learntBy t_acts_size t_acts_kind t_acts_first t_acts_second t_acts_third t_months t_spread t_sp t_sp_runs t_sp_whole t_sp_begins t_sp_fewer t_sp_told bd m_readAts m_lines m_at m_begin m_token m_value m_bad m_rows m_bands m_one m_other m_both m_driftAbove m_driftBelow m_driftMost m_state m_kept m_was m_sample m_months m_tape m_read m_isTold m_readRules m_score m_good m_badOnes m_start m_below m_errorBy m_lastBy m_out hW hV cTp cOu cA cLn cSm cEm cMo cSe cDr cSp => ?_)
  subst hW; subst hV
  have hN : 40000 ≤ 40000 := Nat.le_refl _
  obtain ⟨aV, aP, aD, aC, aL, aM⟩ := id cA
  have hst := aP.st
  have hFit := aP.fit aV
  have ok := hFit.ok
  obtain ⟨aP1, aP2, aP3, aP4, aP5, aP6⟩ := id aP
  obtain ⟨-, -, aV3, -⟩ := aV
  rw [aP2, aP3, aP4, aP5, aP6] at aV3
  obtain ⟨hle, hmo, hgc, hbc, hrc⟩ := aV3
  obtain ⟨cS1, cS2, cS3⟩ := id cSe
  obtain ⟨rsc', rgo', rba', rgA', rbA', ple', pgr', pgo', pba', pri', ble', bgr', bgo', bba', bri', run', hset, hS, hrun⟩ := settle_ok (N := 40000) (sp := t_sp) (run := t_sp_runs) hN ok hle hmo cS1 cS2 cS3
  have nSe := SeR.set hS
  have nSp := cSp.set hrun
  obtain ⟨v, dz', dsc', dgo', dba', dgA', dbA', dpz', dle', dgr', dpo', dpb', dri', hA, nDr, ⟨rr, hB⟩⟩ := q_resample (N := 40000) (le := t_stock_least) (mo := t_stock_most) (gc := t_stock_goodCost) (bc := t_stock_badCost) (g := t_stock_good) (b := t_stock_bad) (sp := t_sp) (sd := t_settled) (rz := t_rows_size) (rsc := t_rows_score) (rgo := t_rows_good) (rba := t_rows_bad) (rgA := t_rows_goodAhead) (rbA := t_rows_badAhead) (pz := t_pure_size) (ple := t_pure_least) (pgr := t_pure_greatest) (pgo := t_pure_good) (pba := t_pure_bad) (pri := t_pure_rowsIn) (bz := t_bands_size) (ble := t_bands_least) (bgr := t_bands_greatest) (bgo := t_bands_good) (bba := t_bands_bad) (bri := t_bands_rowsIn) (dz := t_drawn_size) (dsc := t_drawn_score) (dgo := t_drawn_good) (dba := t_drawn_bad) (dgA := t_drawn_goodAhead) (dbA := t_drawn_badAhead) (dpz := t_drawnPure_size) (dle := t_drawnPure_least) (dgr := t_drawnPure_greatest) (dpo := t_drawnPure_good) (dpb := t_drawnPure_bad) (dri := t_drawnPure_rowsIn) (run := t_sp_runs) (stt := m_state) (z1 := m_rows) (z2 := m_bands) (s1 := m_score) (s2 := m_good) (s3 := m_badOnes) (s4 := m_start) hN ok hle hmo hset hS hst ⟨aP2, aP3⟩ ⟨aP4, aP5⟩ hgc hbc cDr hx3
  exact ⟨v, _, _, fun sz => k_X12_resample hA, fun sz => k_X13_resample hB, Inv.mk cTp cOu cA cLn cSm cEm cMo nSe nDr nSp⟩
set_option maxHeartbeats 4000000 in
theorem st_tell {l : Launch} {G : GG} {S : SM} {n : Int} {a b : Nat} {W V : va_W} (h : Inv G S n a b W V) : StI l G S n a b W V yX12_tell cX12_tell 2 (rmD 7 0 0) yX13_tell cX13_tell 2 (rmD 7 0 0) [] := by
  refine h _ (fun ad sa t_empty t_latest t_kept t_settled t_tape_size t_tape_store t_out_size t_out_store t_reader_ats t_reader_lines t_reader_least t_reader_most t_reader_faultKind t_reader_faultPlace t_reader_toldLines t_reader_kind t_reader_start t_reader_next t_reader_number t_reader_score t_reader_good t_reader_bad t_reader_open t_reader_costs t_stock_least t_stock_most t_stock_goodCost t_stock_badCost t_stock_referCost t_stock_good t_stock_bad t_stock_open t_rows_size t_rows_score t_rows_good t_rows_bad t_rows_goodAhead t_rows_badAhead t_pure_size t_pure_least t_pure_greatest t_pure_good t_pure_bad t_pure_rowsIn t_bands_size t_bands_least t_bands_greatest t_bands_good t_bands_bad t_bands_rowsIn t_best_lower t_best_upper t_best_together t_drawn_size t_drawn_score t_drawn_good t_drawn_bad t_drawn_goodAhead t_drawn_badAhead t_drawnPure_size t_drawnPure_least t_drawnPure_greatest t_drawnPure_good t_drawnPure_bad t_drawnPure_rowsIn t_inferred_size t_inferred_score t_inferred_open t_inferred_bad t_decisions_size t_decisions_learns t_decisions_score t_decisions_choice t_decisions_advice t_decisions_result t_decisions_learntBy t_acts_size t_acts_kind t_acts_first t_acts_second t_acts_third t_months t_spread t_sp t_sp_runs t_sp_whole t_sp_begins t_sp_fewer t_sp_told bd m_readAts m_lines m_at m_begin m_token m_value m_bad m_rows m_bands m_one m_other m_both m_driftAbove m_driftBelow m_driftMost m_state m_kept m_was m_sample m_months m_tape m_read m_isTold m_readRules m_score m_good m_badOnes m_start m_below m_errorBy m_lastBy m_out hW hV cTp cOu cA cLn cSm cEm cMo cSe cDr cSp => ?_)
  subst hW; subst hV
  have hN : 40000 ≤ 40000 := Nat.le_refl _
  obtain ⟨aV, aP, aD, aC, aL, aM⟩ := id cA
  have hst := aP.st
  have hFit := aP.fit aV
  have ok := hFit.ok
  obtain ⟨aP1, aP2, aP3, aP4, aP5, aP6⟩ := id aP
  obtain ⟨-, -, aV3, -⟩ := aV
  rw [aP2, aP3, aP4, aP5, aP6] at aV3
  obtain ⟨hle, hmo, hgc, hbc, hrc⟩ := aV3
  obtain ⟨cS1, cS2, cS3⟩ := id cSe
  obtain ⟨rsc', rgo', rba', rgA', rbA', ple', pgr', pgo', pba', pri', ble', bgr', bgo', bba', bri', run', hset, hS, hrun⟩ := settle_ok (N := 40000) (sp := t_sp) (run := t_sp_runs) hN ok hle hmo cS1 cS2 cS3
  have nSe := SeR.set hS
  have nSp := cSp.set hrun
  obtain ⟨v, c', r', hA, ⟨rr, hB, e1, e2⟩, nOu⟩ := q_tell (N := 40000) (o3 := fun _ => 0) (le := t_stock_least) (mo := t_stock_most) (g := t_stock_good) (b := t_stock_bad) (sp := t_sp) (sd := t_settled) (oz := t_out_size) (oc := t_out_store) (rz := t_rows_size) (rsc := t_rows_score) (rgo := t_rows_good) (rba := t_rows_bad) (rgA := t_rows_goodAhead) (rbA := t_rows_badAhead) (pz := t_pure_size) (ple := t_pure_least) (pgr := t_pure_greatest) (pgo := t_pure_good) (pba := t_pure_bad) (pri := t_pure_rowsIn) (bz := t_bands_size) (ble := t_bands_least) (bgr := t_bands_greatest) (bgo := t_bands_good) (bba := t_bands_bad) (bri := t_bands_rowsIn) (run := t_sp_runs) (stt := m_state) (z1 := m_rows) (z2 := m_bands) (o1 := t_out_size) (s1 := m_score) (s2 := m_good) (s3 := m_badOnes) (s4 := m_start) (o2 := m_out) hN ok hle hmo hset hS hst ⟨aP2, aP3⟩ hFit.n99
  obtain ⟨p1, p2, p3, p4, p5, p6, p7, p8⟩ := rr
  have e1 : p3 = v := e1
  have e2 : p8 = r' := e2
  subst e1; subst e2
  exact ⟨p3, _, _, fun sz => k_X12_tell hA, fun sz => k_X13_tell hB, Inv.mk cTp nOu cA cLn cSm cEm cMo nSe cDr nSp⟩
set_option maxHeartbeats 4000000 in
theorem st_split {l : Launch} {G : GG} {S : SM} {n : Int} {a b : Nat} {W V : va_W} {x1 : Int} (hx1 : rI x1) (h : Inv G S n a b W V) : StLx l G S n a b W V yX12_split cX12_split 2 (rmD 7 5 3909) yX13_split cX13_split 2 (rmD 4 0 0) [.int (kI x1)] := by
  refine h _ (fun ad sa t_empty t_latest t_kept t_settled t_tape_size t_tape_store t_out_size t_out_store t_reader_ats t_reader_lines t_reader_least t_reader_most t_reader_faultKind t_reader_faultPlace t_reader_toldLines t_reader_kind t_reader_start t_reader_next t_reader_number t_reader_score t_reader_good t_reader_bad t_reader_open t_reader_costs t_stock_least t_stock_most t_stock_goodCost t_stock_badCost t_stock_referCost t_stock_good t_stock_bad t_stock_open t_rows_size t_rows_score t_rows_good t_rows_bad t_rows_goodAhead t_rows_badAhead t_pure_size t_pure_least t_pure_greatest t_pure_good t_pure_bad t_pure_rowsIn t_bands_size t_bands_least t_bands_greatest t_bands_good t_bands_bad t_bands_rowsIn t_best_lower t_best_upper t_best_together t_drawn_size t_drawn_score t_drawn_good t_drawn_bad t_drawn_goodAhead t_drawn_badAhead t_drawnPure_size t_drawnPure_least t_drawnPure_greatest t_drawnPure_good t_drawnPure_bad t_drawnPure_rowsIn t_inferred_size t_inferred_score t_inferred_open t_inferred_bad t_decisions_size t_decisions_learns t_decisions_score t_decisions_choice t_decisions_advice t_decisions_result t_decisions_learntBy t_acts_size t_acts_kind t_acts_first t_acts_second t_acts_third t_months t_spread t_sp t_sp_runs t_sp_whole t_sp_begins t_sp_fewer t_sp_told bd m_readAts m_lines m_at m_begin m_token m_value m_bad m_rows m_bands m_one m_other m_both m_driftAbove m_driftBelow m_driftMost m_state m_kept m_was m_sample m_months m_tape m_read m_isTold m_readRules m_score m_good m_badOnes m_start m_below m_errorBy m_lastBy m_out hW hV cTp cOu cA cLn cSm cEm cMo cSe cDr cSp => ?_)
  subst hW; subst hV
  have hN : 40000 ≤ 40000 := Nat.le_refl _
  obtain ⟨aV, aP, aD, aC, aL, aM⟩ := id cA
  have hst := aP.st
  have hFit := aP.fit aV
  have ok := hFit.ok
  obtain ⟨aP1, aP2, aP3, aP4, aP5, aP6⟩ := id aP
  obtain ⟨-, -, aV3, -⟩ := aV
  rw [aP2, aP3, aP4, aP5, aP6] at aV3
  obtain ⟨hle, hmo, hgc, hbc, hrc⟩ := aV3
  obtain ⟨cS1, cS2, cS3⟩ := id cSe
  obtain ⟨rsc', rgo', rba', rgA', rbA', ple', pgr', pgo', pba', pri', ble', bgr', bgo', bba', bri', run', hset, hS, hrun⟩ := settle_ok (N := 40000) (sp := t_sp) (run := t_sp_runs) hN ok hle hmo cS1 cS2 cS3
  have nSe := SeR.set hS
  have nSp := cSp.set hrun
  obtain ⟨v, sp2, R2, wh2, be2, fe2, to2, hA, nsp, ⟨rr, hB⟩⟩ := q_split (N := 40000) (le := t_stock_least) (mo := t_stock_most) (g := t_stock_good) (b := t_stock_bad) (sd := t_settled) (rz := t_rows_size) (rsc := t_rows_score) (rgo := t_rows_good) (rba := t_rows_bad) (rgA := t_rows_goodAhead) (rbA := t_rows_badAhead) (pz := t_pure_size) (ple := t_pure_least) (pgr := t_pure_greatest) (pgo := t_pure_good) (pba := t_pure_bad) (pri := t_pure_rowsIn) (bz := t_bands_size) (ble := t_bands_least) (bgr := t_bands_greatest) (bgo := t_bands_good) (bba := t_bands_bad) (bri := t_bands_rowsIn) (sp := t_sp) (run := t_sp_runs) (wh := t_sp_whole) (be := t_sp_begins) (fe := t_sp_fewer) (to := t_sp_told) (stt := m_state) (z1 := m_rows) (s1 := m_score) (s2 := m_good) (s3 := m_badOnes) (eb := m_errorBy) (lb' := m_lastBy) hN ok hle hmo hset hS hst ⟨aP2, aP3⟩ (fun q => nSp q rfl) hx1
  exact ⟨v, _, _, fun sz => k_X12_split hA, fun sz => k_X13_split hB, (fun u => Inv.mk cTp cOu cA cLn cSm cEm cMo nSe cDr (fun q _ => nsp q))⟩
set_option maxHeartbeats 4000000 in
theorem st_splitAt {l : Launch} {G : GG} {S : SM} {n : Int} {a b : Nat} {W V : va_W} {x1 : Int} (hx1 : rI x1) {x2 : Int} (hx2 : rI x2) (h : Inv G S n a b W V) : StIx l G S n a b W V yX12_splitAt cX12_splitAt 3 (rmD 7 5 3909) yX13_splitAt cX13_splitAt 5 (rmD 4 0 0) [.int (kI x1), .int (kI x2)] := by
  refine h _ (fun ad sa t_empty t_latest t_kept t_settled t_tape_size t_tape_store t_out_size t_out_store t_reader_ats t_reader_lines t_reader_least t_reader_most t_reader_faultKind t_reader_faultPlace t_reader_toldLines t_reader_kind t_reader_start t_reader_next t_reader_number t_reader_score t_reader_good t_reader_bad t_reader_open t_reader_costs t_stock_least t_stock_most t_stock_goodCost t_stock_badCost t_stock_referCost t_stock_good t_stock_bad t_stock_open t_rows_size t_rows_score t_rows_good t_rows_bad t_rows_goodAhead t_rows_badAhead t_pure_size t_pure_least t_pure_greatest t_pure_good t_pure_bad t_pure_rowsIn t_bands_size t_bands_least t_bands_greatest t_bands_good t_bands_bad t_bands_rowsIn t_best_lower t_best_upper t_best_together t_drawn_size t_drawn_score t_drawn_good t_drawn_bad t_drawn_goodAhead t_drawn_badAhead t_drawnPure_size t_drawnPure_least t_drawnPure_greatest t_drawnPure_good t_drawnPure_bad t_drawnPure_rowsIn t_inferred_size t_inferred_score t_inferred_open t_inferred_bad t_decisions_size t_decisions_learns t_decisions_score t_decisions_choice t_decisions_advice t_decisions_result t_decisions_learntBy t_acts_size t_acts_kind t_acts_first t_acts_second t_acts_third t_months t_spread t_sp t_sp_runs t_sp_whole t_sp_begins t_sp_fewer t_sp_told bd m_readAts m_lines m_at m_begin m_token m_value m_bad m_rows m_bands m_one m_other m_both m_driftAbove m_driftBelow m_driftMost m_state m_kept m_was m_sample m_months m_tape m_read m_isTold m_readRules m_score m_good m_badOnes m_start m_below m_errorBy m_lastBy m_out hW hV cTp cOu cA cLn cSm cEm cMo cSe cDr cSp => ?_)
  subst hW; subst hV
  have hN : 40000 ≤ 40000 := Nat.le_refl _
  obtain ⟨aV, aP, aD, aC, aL, aM⟩ := id cA
  have hst := aP.st
  have hFit := aP.fit aV
  have ok := hFit.ok
  obtain ⟨aP1, aP2, aP3, aP4, aP5, aP6⟩ := id aP
  obtain ⟨-, -, aV3, -⟩ := aV
  rw [aP2, aP3, aP4, aP5, aP6] at aV3
  obtain ⟨hle, hmo, hgc, hbc, hrc⟩ := aV3
  obtain ⟨cS1, cS2, cS3⟩ := id cSe
  obtain ⟨rsc', rgo', rba', rgA', rbA', ple', pgr', pgo', pba', pri', ble', bgr', bgo', bba', bri', run', hset, hS, hrun⟩ := settle_ok (N := 40000) (sp := t_sp) (run := t_sp_runs) hN ok hle hmo cS1 cS2 cS3
  have nSe := SeR.set hS
  have nSp := cSp.set hrun
  obtain ⟨v, sp2, R2, wh2, be2, fe2, to2, hA, nsp, ⟨rr, hB⟩⟩ := q_splitAt (N := 40000) (le := t_stock_least) (mo := t_stock_most) (g := t_stock_good) (b := t_stock_bad) (sd := t_settled) (rz := t_rows_size) (rsc := t_rows_score) (rgo := t_rows_good) (rba := t_rows_bad) (rgA := t_rows_goodAhead) (rbA := t_rows_badAhead) (pz := t_pure_size) (ple := t_pure_least) (pgr := t_pure_greatest) (pgo := t_pure_good) (pba := t_pure_bad) (pri := t_pure_rowsIn) (bz := t_bands_size) (ble := t_bands_least) (bgr := t_bands_greatest) (bgo := t_bands_good) (bba := t_bands_bad) (bri := t_bands_rowsIn) (sp := t_sp) (run := t_sp_runs) (wh := t_sp_whole) (be := t_sp_begins) (fe := t_sp_fewer) (to := t_sp_told) (stt := m_state) (z1 := m_rows) (s1 := m_score) (s2 := m_good) (s3 := m_badOnes) (eb := m_errorBy) (lb' := m_lastBy) hN ok hle hmo hset hS hst ⟨aP2, aP3⟩ (fun q => nSp q rfl) hx1 hx2
  exact ⟨v, _, _, fun sz => k_X12_splitAt hA, fun sz => k_X13_splitAt hB, (fun u => Inv.mk cTp cOu cA cLn cSm cEm cMo nSe cDr (fun q _ => nsp q))⟩
set_option maxHeartbeats 4000000 in
theorem st_feed {l : Launch} {G : GG} {S : SM} {n : Int} {a b : Nat} {W V : va_W} {x1 : Int} (hx1 : rI x1) {x2 : Int} (hx2 : rI x2) {x3 : Int} (hx3 : rI x3) {x4 : Int} (hx4 : rI x4) {x5 : Int} (hx5 : rI x5) (h : Inv G S n a b W V) : StI l G S n a b W V yX12_feed cX12_feed 6 (rmD 4 0 0) yX13_feed cX13_feed 8 (rmD 1 1 5) [.int (kI x1), .int (kI x2), .int (kI x3), .int (kI x4), .int (kI x5)] := by
  refine h _ (fun ad sa t_empty t_latest t_kept t_settled t_tape_size t_tape_store t_out_size t_out_store t_reader_ats t_reader_lines t_reader_least t_reader_most t_reader_faultKind t_reader_faultPlace t_reader_toldLines t_reader_kind t_reader_start t_reader_next t_reader_number t_reader_score t_reader_good t_reader_bad t_reader_open t_reader_costs t_stock_least t_stock_most t_stock_goodCost t_stock_badCost t_stock_referCost t_stock_good t_stock_bad t_stock_open t_rows_size t_rows_score t_rows_good t_rows_bad t_rows_goodAhead t_rows_badAhead t_pure_size t_pure_least t_pure_greatest t_pure_good t_pure_bad t_pure_rowsIn t_bands_size t_bands_least t_bands_greatest t_bands_good t_bands_bad t_bands_rowsIn t_best_lower t_best_upper t_best_together t_drawn_size t_drawn_score t_drawn_good t_drawn_bad t_drawn_goodAhead t_drawn_badAhead t_drawnPure_size t_drawnPure_least t_drawnPure_greatest t_drawnPure_good t_drawnPure_bad t_drawnPure_rowsIn t_inferred_size t_inferred_score t_inferred_open t_inferred_bad t_decisions_size t_decisions_learns t_decisions_score t_decisions_choice t_decisions_advice t_decisions_result t_decisions_learntBy t_acts_size t_acts_kind t_acts_first t_acts_second t_acts_third t_months t_spread t_sp t_sp_runs t_sp_whole t_sp_begins t_sp_fewer t_sp_told bd m_readAts m_lines m_at m_begin m_token m_value m_bad m_rows m_bands m_one m_other m_both m_driftAbove m_driftBelow m_driftMost m_state m_kept m_was m_sample m_months m_tape m_read m_isTold m_readRules m_score m_good m_badOnes m_start m_below m_errorBy m_lastBy m_out hW hV cTp cOu cA cLn cSm cEm cMo cSe cDr cSp => ?_)
  subst hW; subst hV
  have hN : 40000 ≤ 40000 := Nat.le_refl _
  obtain ⟨aV, aP, aD, aC, aL, aM⟩ := id cA
  have hst := aP.st
  have hFit := aP.fit aV
  have ok := hFit.ok
  obtain ⟨aP1, aP2, aP3, aP4, aP5, aP6⟩ := id aP
  obtain ⟨-, -, aV3, -⟩ := aV
  rw [aP2, aP3, aP4, aP5, aP6] at aV3
  obtain ⟨hle, hmo, hgc, hbc, hrc⟩ := aV3
  obtain ⟨v, z', c', r', hA, hB, nTp⟩ := s_feed (N := 40000) (z := t_tape_size) (c := t_tape_store) (r := m_tape) cTp hN
  exact ⟨v, _, _, fun sz => k_X12_feed hA, fun sz => k_X13_feed hB, Inv.mk nTp cOu cA cLn cSm cEm cMo cSe cDr cSp⟩
set_option maxHeartbeats 4000000 in
theorem st_end {l : Launch} {G : GG} {S : SM} {n : Int} {a b : Nat} {W V : va_W} {x1 : Int} (hx1 : rI x1) (h : Inv G S n a b W V) : StI l G S n a b W V yX12_end cX12_end 2 (rmD 1 0 0) yX13_end cX13_end 2 (rmD 2 0 0) [.int (kI x1)] := by
  refine h _ (fun ad sa t_empty t_latest t_kept t_settled t_tape_size t_tape_store t_out_size t_out_store t_reader_ats t_reader_lines t_reader_least t_reader_most t_reader_faultKind t_reader_faultPlace t_reader_toldLines t_reader_kind t_reader_start t_reader_next t_reader_number t_reader_score t_reader_good t_reader_bad t_reader_open t_reader_costs t_stock_least t_stock_most t_stock_goodCost t_stock_badCost t_stock_referCost t_stock_good t_stock_bad t_stock_open t_rows_size t_rows_score t_rows_good t_rows_bad t_rows_goodAhead t_rows_badAhead t_pure_size t_pure_least t_pure_greatest t_pure_good t_pure_bad t_pure_rowsIn t_bands_size t_bands_least t_bands_greatest t_bands_good t_bands_bad t_bands_rowsIn t_best_lower t_best_upper t_best_together t_drawn_size t_drawn_score t_drawn_good t_drawn_bad t_drawn_goodAhead t_drawn_badAhead t_drawnPure_size t_drawnPure_least t_drawnPure_greatest t_drawnPure_good t_drawnPure_bad t_drawnPure_rowsIn t_inferred_size t_inferred_score t_inferred_open t_inferred_bad t_decisions_size t_decisions_learns t_decisions_score t_decisions_choice t_decisions_advice t_decisions_result t_decisions_learntBy t_acts_size t_acts_kind t_acts_first t_acts_second t_acts_third t_months t_spread t_sp t_sp_runs t_sp_whole t_sp_begins t_sp_fewer t_sp_told bd m_readAts m_lines m_at m_begin m_token m_value m_bad m_rows m_bands m_one m_other m_both m_driftAbove m_driftBelow m_driftMost m_state m_kept m_was m_sample m_months m_tape m_read m_isTold m_readRules m_score m_good m_badOnes m_start m_below m_errorBy m_lastBy m_out hW hV cTp cOu cA cLn cSm cEm cMo cSe cDr cSp => ?_)
  subst hW; subst hV
  have hN : 40000 ≤ 40000 := Nat.le_refl _
  obtain ⟨aV, aP, aD, aC, aL, aM⟩ := id cA
  have hst := aP.st
  have hFit := aP.fit aV
  have ok := hFit.ok
  obtain ⟨aP1, aP2, aP3, aP4, aP5, aP6⟩ := id aP
  obtain ⟨-, -, aV3, -⟩ := aV
  rw [aP2, aP3, aP4, aP5, aP6] at aV3
  obtain ⟨hle, hmo, hgc, hbc, hrc⟩ := aV3
  obtain ⟨v, z', hA, hB, nTp⟩ := s_end (N := 40000) (z := t_tape_size) cTp hx1
  exact ⟨v, _, _, fun sz => k_X12_end hA, fun sz => k_X13_end hB, Inv.mk nTp cOu cA cLn cSm cEm cMo cSe cDr cSp⟩
set_option maxHeartbeats 4000000 in
theorem st_fault {l : Launch} {G : GG} {S : SM} {n : Int} {a b : Nat} {W V : va_W} {x1 : Int} (hx1 : rI x1) (h : Inv G S n a b W V) : StI l G S n a b W V yX12_fault cX12_fault 2 (rmD 1 0 0) yX13_fault cX13_fault 2 (rmD 1 0 0) [.int (kI x1)] := by
  refine h _ (fun ad sa t_empty t_latest t_kept t_settled t_tape_size t_tape_store t_out_size t_out_store t_reader_ats t_reader_lines t_reader_least t_reader_most t_reader_faultKind t_reader_faultPlace t_reader_toldLines t_reader_kind t_reader_start t_reader_next t_reader_number t_reader_score t_reader_good t_reader_bad t_reader_open t_reader_costs t_stock_least t_stock_most t_stock_goodCost t_stock_badCost t_stock_referCost t_stock_good t_stock_bad t_stock_open t_rows_size t_rows_score t_rows_good t_rows_bad t_rows_goodAhead t_rows_badAhead t_pure_size t_pure_least t_pure_greatest t_pure_good t_pure_bad t_pure_rowsIn t_bands_size t_bands_least t_bands_greatest t_bands_good t_bands_bad t_bands_rowsIn t_best_lower t_best_upper t_best_together t_drawn_size t_drawn_score t_drawn_good t_drawn_bad t_drawn_goodAhead t_drawn_badAhead t_drawnPure_size t_drawnPure_least t_drawnPure_greatest t_drawnPure_good t_drawnPure_bad t_drawnPure_rowsIn t_inferred_size t_inferred_score t_inferred_open t_inferred_bad t_decisions_size t_decisions_learns t_decisions_score t_decisions_choice t_decisions_advice t_decisions_result t_decisions_learntBy t_acts_size t_acts_kind t_acts_first t_acts_second t_acts_third t_months t_spread t_sp t_sp_runs t_sp_whole t_sp_begins t_sp_fewer t_sp_told bd m_readAts m_lines m_at m_begin m_token m_value m_bad m_rows m_bands m_one m_other m_both m_driftAbove m_driftBelow m_driftMost m_state m_kept m_was m_sample m_months m_tape m_read m_isTold m_readRules m_score m_good m_badOnes m_start m_below m_errorBy m_lastBy m_out hW hV cTp cOu cA cLn cSm cEm cMo cSe cDr cSp => ?_)
  subst hW; subst hV
  have hN : 40000 ≤ 40000 := Nat.le_refl _
  obtain ⟨aV, aP, aD, aC, aL, aM⟩ := id cA
  have hst := aP.st
  have hFit := aP.fit aV
  have ok := hFit.ok
  obtain ⟨aP1, aP2, aP3, aP4, aP5, aP6⟩ := id aP
  obtain ⟨-, -, aV3, -⟩ := aV
  rw [aP2, aP3, aP4, aP5, aP6] at aV3
  obtain ⟨hle, hmo, hgc, hbc, hrc⟩ := aV3
  obtain ⟨v, hA, hB⟩ := s_fault' (N := 40000) (k := t_reader_faultKind) (p := t_reader_faultPlace) hx1
  exact ⟨v, _, _, fun sz => k_X12_fault hA, fun sz => k_X13_fault hB, Inv.mk cTp cOu cA cLn cSm cEm cMo cSe cDr cSp⟩
