/-! the same answer: cuts -/
def Ans {α β γ : Type} (x : Option (α × β)) (y : Option (α × γ)) (t1 t2 : β) : Prop := ∃ a, (x = some (a, t1) ∨ x = some (a, t2)) ∧ Rt y a
theorem fst_or (P : Int → Prop) (n : Nat) : (∃ i : Int, (0 ≤ i ∧ i < n) ∧ P i ∧ ∀ j : Int, 0 ≤ j → j < i → ¬ P j) ∨ ∀ i : Int, 0 ≤ i → i < n → ¬ P i := by
  induction n with
  | zero => exact Or.inr (fun i _ _ => by omega)
  | succ n ih =>
    rcases ih with ⟨i, h1, h2, h3⟩ | h
    · exact Or.inl ⟨i, ⟨h1.1, by omega⟩, h2, h3⟩
    · by_cases c : P n
      · exact Or.inl ⟨n, ⟨by omega, by omega⟩, c, fun j j0 j1 => h j j0 j1⟩
      · refine Or.inr (fun i i0 i1 => ?_)
        by_cases e : i = n
        · rw [e]; exact c
        · exact h i i0 (by omega)
theorem isMille1 {N : Nat} {c : Int} (h : 0 ≤ c ∧ c ≤ 1000) : m_X13_isMille N c = some 1 := by
  rw [m_X13_isMille]
  repeat (first | (with_reducible refine gd_ok ?_ ?_; focus (first | omega | assumption | ((repeat' refine And.intro ?_ ?_) <;> first | omega | assumption) | fail)) | (with_reducible refine ip_ok ?_ ?_; focus (first | omega | assumption | ((repeat' refine And.intro ?_ ?_) <;> first | omega | assumption) | fail)) | (with_reducible refine in_ok ?_ ?_; focus (first | omega | assumption | ((repeat' refine And.intro ?_ ?_) <;> first | omega | assumption) | fail)) | (rw [in1 ⟨by omega, by omega⟩ ⟨by decide, by decide⟩ ⟨by decide, by decide⟩ ⟨h.1, h.2⟩, so_bd]; try dsimp only) | (rw [so_bd]; try dsimp only))
  all_goals rfl
theorem isMille0 {N : Nat} {c : Int} (hr : rI c) (h : ¬ (0 ≤ c ∧ c ≤ 1000)) : m_X13_isMille N c = some 0 := by
  rw [m_X13_isMille]
  repeat (first | (with_reducible refine gd_ok ?_ ?_; focus (first | omega | assumption | ((repeat' refine And.intro ?_ ?_) <;> first | omega | assumption) | fail)) | (with_reducible refine ip_ok ?_ ?_; focus (first | omega | assumption | ((repeat' refine And.intro ?_ ?_) <;> first | omega | assumption) | fail)) | (with_reducible refine in_ok ?_ ?_; focus (first | omega | assumption | ((repeat' refine And.intro ?_ ?_) <;> first | omega | assumption) | fail)) | (rw [in0 (rI_L hr) ⟨by decide, by decide⟩ ⟨by decide, by decide⟩ h, so_bd]; try dsimp only) | (rw [so_bd]; try dsimp only))
  all_goals rfl
section
variable {N : Nat} {g b stt : Int → Int} {le mo sp run run' : Int} {sd rz pz bz : Int} {rsc rgo rba rgA rbA ple pgr pgo pba pri ble bgr bgo bba bri : Int → Int} {rsc' rgo' rba' rgA' rbA' ple' pgr' pgo' pba' pri' ble' bgr' bgo' bba' bri' : Int → Int} {z1 z2 : Int} {s1 s2 s3 s4 : Int → Int}
theorem q_cost (hN : 40000 ≤ N) (ok : okP g b) (hle : 0 ≤ le ∧ le ≤ 9999) (hmo : 1 ≤ mo ∧ mo ≤ 60) (hset : m_X12_settle N le mo g b sp sd rz rsc rgo rba rgA rbA pz ple pgr pgo pba pri bz ble bgr bgo bba bri run = some (1, cn g b, rsc', rgo', rba', rgA', rbA', pmm g b, ple', pgr', pgo', pba', pri', bmm g b le mo, ble', bgr', bgo', bba', bri', run')) (hS : Stl g b le mo rsc' rgo' rba' rgA' rbA' ple' pgr' pgo' pba' pri' ble' bgr' bgo' bba' bri') (hst : StA stt g b) (h3 : stt 3201 = le ∧ stt 3202 = mo) {gc bc rc : Int} (hcs : stt 3203 = gc ∧ stt 3204 = bc ∧ stt 3205 = rc) (hgc : 0 ≤ gc ∧ gc ≤ 999) (hbc : 0 ≤ bc ∧ bc ≤ 999) (hrc : 0 ≤ rc ∧ rc ≤ 999) {x1 : Int} (hx1 : rI x1) : Ans (m_X12_cost N le mo gc bc g b sp sd rz rsc rgo rba rgA rbA pz ple pgr pgo pba pri bz ble bgr bgo bba bri run x1) (m_X13_cost N stt z1 s1 s2 s3 s4 x1) (1, cn g b, rsc', rgo', rba', rgA', rbA', pmm g b, ple', pgr', pgo', pba', pri', bmm g b le mo, ble', bgr', bgo', bba', bri', run') (sd, rz, rsc, rgo, rba, rgA, rbA, pz, ple, pgr, pgo, pba, pri, bz, ble, bgr, bgo, bba, bri, run) := by
  obtain ⟨c3, c4, c5⟩ := hcs
  obtain ⟨sc1, go1, ba1, bl1, lb1, hr, hbl⟩ := laysBelow_ok (z := z1) (s1 := s1) (s2 := s2) (s3 := s3) (bl := s4) hN ok hst
  obtain ⟨hn, hbm, hpm⟩ := le_mo ok hle hmo
  obtain ⟨S1, S2, S3, S4⟩ := hS
  rw [m_X12_cost, m_X13_cost, c3, c4]
  by_cases c : 0 ≤ x1 ∧ x1 ≤ 1000
  · have li := lb_in (g := g) (b := b) (c := x1) c.2
    refine ⟨kst g b gc bc rc (lb g b x1) (lb g b x1), Or.inl ?_, ?_⟩
    · repeat (first | (with_reducible refine gd_ok ?_ ?_; focus (first | omega | assumption | ((repeat' refine And.intro ?_ ?_) <;> first | omega | assumption) | fail)) | (with_reducible refine ip_ok ?_ ?_; focus (first | omega | assumption | ((repeat' refine And.intro ?_ ?_) <;> first | omega | assumption) | fail)) | (with_reducible refine in_ok ?_ ?_; focus (first | omega | assumption | ((repeat' refine And.intro ?_ ?_) <;> first | omega | assumption) | fail)) | (rw [isCut1 c, so_bd]; try dsimp only) | (rw [hset, so_bd]; try dsimp only) | (rw [below_ok hN ok S1 c, so_bd]; try dsimp only) | (rw [costBehind_ok (r := rc) ok S2 li.1 li.2, so_bd]; try dsimp only) | (rw [so_bd]; try dsimp only))
      all_goals rfl
    · repeat (first | (with_reducible refine Rt.gd ?_ ?_; focus (first | omega | assumption | ((repeat' refine And.intro ?_ ?_) <;> first | omega | assumption) | fail)) | (with_reducible refine Rt.ip ?_ ?_; focus (first | omega | assumption | ((repeat' refine And.intro ?_ ?_) <;> first | omega | assumption) | fail)) | (with_reducible refine Rt.in_ ?_ ?_; focus (first | omega | assumption | ((repeat' refine And.intro ?_ ?_) <;> first | omega | assumption) | fail)) | (rw [lb1, so_bd]; try dsimp only) | (rw [rCut1 c, so_bd]; try dsimp only) | (rw [costOf_ok hbl c5 hgc hbc hrc c c, so_bd]; try dsimp only) | (rw [so_bd]; try dsimp only))
      all_goals exact Rt.so
  · refine ⟨-2, Or.inr ?_, ?_⟩
    · repeat (first | (with_reducible refine gd_ok ?_ ?_; focus (first | omega | assumption | ((repeat' refine And.intro ?_ ?_) <;> first | omega | assumption) | fail)) | (with_reducible refine ip_ok ?_ ?_; focus (first | omega | assumption | ((repeat' refine And.intro ?_ ?_) <;> first | omega | assumption) | fail)) | (with_reducible refine in_ok ?_ ?_; focus (first | omega | assumption | ((repeat' refine And.intro ?_ ?_) <;> first | omega | assumption) | fail)) | (rw [isCut0 hx1 c, so_bd]; try dsimp only) | (rw [so_bd]; try dsimp only))
      all_goals rfl
    · repeat (first | (with_reducible refine Rt.gd ?_ ?_; focus (first | omega | assumption | ((repeat' refine And.intro ?_ ?_) <;> first | omega | assumption) | fail)) | (with_reducible refine Rt.ip ?_ ?_; focus (first | omega | assumption | ((repeat' refine And.intro ?_ ?_) <;> first | omega | assumption) | fail)) | (with_reducible refine Rt.in_ ?_ ?_; focus (first | omega | assumption | ((repeat' refine And.intro ?_ ?_) <;> first | omega | assumption) | fail)) | (rw [lb1, so_bd]; try dsimp only) | (rw [rCut0 hx1 c, so_bd]; try dsimp only) | (rw [so_bd]; try dsimp only))
      all_goals exact Rt.so
theorem q_cut (hN : 40000 ≤ N) (ok : okP g b) (hle : 0 ≤ le ∧ le ≤ 9999) (hmo : 1 ≤ mo ∧ mo ≤ 60) (hset : m_X12_settle N le mo g b sp sd rz rsc rgo rba rgA rbA pz ple pgr pgo pba pri bz ble bgr bgo bba bri run = some (1, cn g b, rsc', rgo', rba', rgA', rbA', pmm g b, ple', pgr', pgo', pba', pri', bmm g b le mo, ble', bgr', bgo', bba', bri', run')) (hS : Stl g b le mo rsc' rgo' rba' rgA' rbA' ple' pgr' pgo' pba' pri' ble' bgr' bgo' bba' bri') (hst : StA stt g b) (h3 : stt 3201 = le ∧ stt 3202 = mo) {gc bc rc : Int} (hcs : stt 3203 = gc ∧ stt 3204 = bc ∧ stt 3205 = rc) (hgc : 0 ≤ gc ∧ gc ≤ 999) (hbc : 0 ≤ bc ∧ bc ≤ 999) (hrc : 0 ≤ rc ∧ rc ≤ 999) {x1 : Int} (hx1 : rI x1) : Ans (m_X12_cut N le mo gc bc g b sp sd rz rsc rgo rba rgA rbA pz ple pgr pgo pba pri bz ble bgr bgo bba bri run x1) (m_X13_cut N stt z1 s1 s2 s3 s4 x1) (1, cn g b, rsc', rgo', rba', rgA', rbA', pmm g b, ple', pgr', pgo', pba', pri', bmm g b le mo, ble', bgr', bgo', bba', bri', run') (sd, rz, rsc, rgo, rba, rgA, rbA, pz, ple, pgr, pgo, pba, pri, bz, ble, bgr, bgo, bba, bri, run) := by
  obtain ⟨c3, c4, c5⟩ := hcs
  obtain ⟨sc1, go1, ba1, bl1, lb1, hr, hbl⟩ := laysBelow_ok (z := z1) (s1 := s1) (s2 := s2) (s3 := s3) (bl := s4) hN ok hst
  obtain ⟨hn, hbm, hpm⟩ := le_mo ok hle hmo
  obtain ⟨S1, S2, S3, S4⟩ := hS
  have ai := am_in (fun i => kst g b gc bc rc i i) (cn g b).toNat
  have ci := cutB_in (g := g) (b := b) (i := am (fun i => kst g b gc bc rc i i) (cn g b).toNat) ⟨ai.1, by omega⟩
  have e := lb_cutB (g := g) (b := b) (i := am (fun i => kst g b gc bc rc i i) (cn g b).toNat) ⟨ai.1, by omega⟩
  rw [m_X12_cut, m_X13_cut, c3, c4]
  by_cases c : 0 ≤ x1 ∧ x1 ≤ 1
  · by_cases d : x1 = 0
    · refine ⟨cutB g b (am (fun i => kst g b gc bc rc i i) (cn g b).toNat), Or.inl ?_, ?_⟩
      rotate_left
      · repeat (first | (with_reducible refine Rt.gd ?_ ?_; focus (first | omega | assumption | ((repeat' refine And.intro ?_ ?_) <;> first | omega | assumption) | fail)) | (with_reducible refine Rt.ip ?_ ?_; focus (first | omega | assumption | ((repeat' refine And.intro ?_ ?_) <;> first | omega | assumption) | fail)) | (with_reducible refine Rt.in_ ?_ ?_; focus (first | omega | assumption | ((repeat' refine And.intro ?_ ?_) <;> first | omega | assumption) | fail)) | (rw [in1 (rI_L hx1) ⟨by decide, by decide⟩ ⟨by decide, by decide⟩ c, so_bd]; try dsimp only) | (rw [lb1, so_bd]; try dsimp only) | (rw [bestCut_ok hN ok hbl c5 hgc hbc hrc, so_bd]; try dsimp only) | (rw [so_bd]; try dsimp only))
        all_goals exact Rt.so
      · repeat (first | (with_reducible refine gd_ok ?_ ?_; focus (first | omega | assumption | ((repeat' refine And.intro ?_ ?_) <;> first | omega | assumption) | fail)) | (with_reducible refine ip_ok ?_ ?_; focus (first | omega | assumption | ((repeat' refine And.intro ?_ ?_) <;> first | omega | assumption) | fail)) | (with_reducible refine in_ok ?_ ?_; focus (first | omega | assumption | ((repeat' refine And.intro ?_ ?_) <;> first | omega | assumption) | fail)) | (rw [hset, so_bd]; try dsimp only) | (rw [cheapestR_ok (r := rc) hN ok S2 hgc hbc hrc, so_bd]; try dsimp only) | (rw [cutBehind_ok ok S1 ai.1 (by omega), so_bd]; try dsimp only) | (rw [so_bd]; try dsimp only))
        all_goals rfl
    · obtain ⟨sc2, go2, ba2, bl2, lb2, hr2, hbl2⟩ := laysBelow_ok (z := cn g b) (s1 := sc1) (s2 := go1) (s3 := ba1) (bl := bl1) hN ok hst
      refine ⟨kst g b gc bc rc (am (fun i => kst g b gc bc rc i i) (cn g b).toNat) (am (fun i => kst g b gc bc rc i i) (cn g b).toNat), Or.inl ?_, ?_⟩
      · repeat (first | (with_reducible refine gd_ok ?_ ?_; focus (first | omega | assumption | ((repeat' refine And.intro ?_ ?_) <;> first | omega | assumption) | fail)) | (with_reducible refine ip_ok ?_ ?_; focus (first | omega | assumption | ((repeat' refine And.intro ?_ ?_) <;> first | omega | assumption) | fail)) | (with_reducible refine in_ok ?_ ?_; focus (first | omega | assumption | ((repeat' refine And.intro ?_ ?_) <;> first | omega | assumption) | fail)) | (rw [hset, so_bd]; try dsimp only) | (rw [cheapestR_ok (r := rc) hN ok S2 hgc hbc hrc, so_bd]; try dsimp only) | (rw [costBehind_ok (r := rc) ok S2 ai.1 (by omega), so_bd]; try dsimp only) | (rw [so_bd]; try dsimp only))
        all_goals rfl
      · have ec : m_X13_cost N stt (cn g b) sc1 go1 ba1 bl1 (cutB g b (am (fun i => kst g b gc bc rc i i) (cn g b).toNat)) = some (kst g b gc bc rc (am (fun i => kst g b gc bc rc i i) (cn g b).toNat) (am (fun i => kst g b gc bc rc i i) (cn g b).toNat), cn g b, sc2, go2, ba2, bl2) := by
          rw [m_X13_cost, c3, c4]
          repeat (first | (with_reducible refine gd_ok ?_ ?_; focus (first | omega | assumption | ((repeat' refine And.intro ?_ ?_) <;> first | omega | assumption) | fail)) | (with_reducible refine ip_ok ?_ ?_; focus (first | omega | assumption | ((repeat' refine And.intro ?_ ?_) <;> first | omega | assumption) | fail)) | (with_reducible refine in_ok ?_ ?_; focus (first | omega | assumption | ((repeat' refine And.intro ?_ ?_) <;> first | omega | assumption) | fail)) | (rw [lb2, so_bd]; try dsimp only) | (rw [rCut1 ci, so_bd]; try dsimp only) | (rw [costOf_ok hbl2 c5 hgc hbc hrc ci ci, so_bd]; try dsimp only) | (rw [so_bd]; try dsimp only))
          rw [e]
        repeat (first | (with_reducible refine Rt.gd ?_ ?_; focus (first | omega | assumption | ((repeat' refine And.intro ?_ ?_) <;> first | omega | assumption) | fail)) | (with_reducible refine Rt.ip ?_ ?_; focus (first | omega | assumption | ((repeat' refine And.intro ?_ ?_) <;> first | omega | assumption) | fail)) | (with_reducible refine Rt.in_ ?_ ?_; focus (first | omega | assumption | ((repeat' refine And.intro ?_ ?_) <;> first | omega | assumption) | fail)) | (rw [in1 (rI_L hx1) ⟨by decide, by decide⟩ ⟨by decide, by decide⟩ c, so_bd]; try dsimp only) | (rw [lb1, so_bd]; try dsimp only) | (rw [bestCut_ok hN ok hbl c5 hgc hbc hrc, so_bd]; try dsimp only) | (rw [ec, so_bd]; try dsimp only) | (rw [so_bd]; try dsimp only))
        all_goals exact Rt.so
  · refine ⟨-2, Or.inr ?_, ?_⟩
    · by_cases d : x1 < 0
      · repeat (first | (with_reducible refine gd_ok ?_ ?_; focus (first | omega | assumption | ((repeat' refine And.intro ?_ ?_) <;> first | omega | assumption) | fail)) | (with_reducible refine ip_ok ?_ ?_; focus (first | omega | assumption | ((repeat' refine And.intro ?_ ?_) <;> first | omega | assumption) | fail)) | (with_reducible refine in_ok ?_ ?_; focus (first | omega | assumption | ((repeat' refine And.intro ?_ ?_) <;> first | omega | assumption) | fail)) | (rw [so_bd]; try dsimp only))
        all_goals rfl
      · repeat (first | (with_reducible refine gd_ok ?_ ?_; focus (first | omega | assumption | ((repeat' refine And.intro ?_ ?_) <;> first | omega | assumption) | fail)) | (with_reducible refine ip_ok ?_ ?_; focus (first | omega | assumption | ((repeat' refine And.intro ?_ ?_) <;> first | omega | assumption) | fail)) | (with_reducible refine in_ok ?_ ?_; focus (first | omega | assumption | ((repeat' refine And.intro ?_ ?_) <;> first | omega | assumption) | fail)) | (rw [so_bd]; try dsimp only))
        all_goals rfl
    · repeat (first | (with_reducible refine Rt.gd ?_ ?_; focus (first | omega | assumption | ((repeat' refine And.intro ?_ ?_) <;> first | omega | assumption) | fail)) | (with_reducible refine Rt.ip ?_ ?_; focus (first | omega | assumption | ((repeat' refine And.intro ?_ ?_) <;> first | omega | assumption) | fail)) | (with_reducible refine Rt.in_ ?_ ?_; focus (first | omega | assumption | ((repeat' refine And.intro ?_ ?_) <;> first | omega | assumption) | fail)) | (rw [in0 (rI_L hx1) ⟨by decide, by decide⟩ ⟨by decide, by decide⟩ c, so_bd]; try dsimp only) | (rw [so_bd]; try dsimp only))
      all_goals exact Rt.so
theorem q_refer (hN : 40000 ≤ N) (ok : okP g b) (hle : 0 ≤ le ∧ le ≤ 9999) (hmo : 1 ≤ mo ∧ mo ≤ 60) (hset : m_X12_settle N le mo g b sp sd rz rsc rgo rba rgA rbA pz ple pgr pgo pba pri bz ble bgr bgo bba bri run = some (1, cn g b, rsc', rgo', rba', rgA', rbA', pmm g b, ple', pgr', pgo', pba', pri', bmm g b le mo, ble', bgr', bgo', bba', bri', run')) (hS : Stl g b le mo rsc' rgo' rba' rgA' rbA' ple' pgr' pgo' pba' pri' ble' bgr' bgo' bba' bri') (hst : StA stt g b) (h3 : stt 3201 = le ∧ stt 3202 = mo) {gc bc rc : Int} (hcs : stt 3203 = gc ∧ stt 3204 = bc ∧ stt 3205 = rc) (hgc : 0 ≤ gc ∧ gc ≤ 999) (hbc : 0 ≤ bc ∧ bc ≤ 999) (hrc : 0 ≤ rc ∧ rc ≤ 999) {x1 x2 : Int} (hx1 : rI x1) (hx2 : rI x2) : Ans (m_X12_refer N le mo gc bc rc g b sp sd rz rsc rgo rba rgA rbA pz ple pgr pgo pba pri bz ble bgr bgo bba bri run x1 x2) (m_X13_refer N stt z1 s1 s2 s3 s4 x1 x2) (1, cn g b, rsc', rgo', rba', rgA', rbA', pmm g b, ple', pgr', pgo', pba', pri', bmm g b le mo, ble', bgr', bgo', bba', bri', run') (sd, rz, rsc, rgo, rba, rgA, rbA, pz, ple, pgr, pgo, pba, pri, bz, ble, bgr, bgo, bba, bri, run) := by
  obtain ⟨c3, c4, c5⟩ := hcs
  obtain ⟨sc1, go1, ba1, bl1, lb1, hr, hbl⟩ := laysBelow_ok (z := z1) (s1 := s1) (s2 := s2) (s3 := s3) (bl := s4) hN ok hst
  obtain ⟨hn, hbm, hpm⟩ := le_mo ok hle hmo
  obtain ⟨S1, S2, S3, S4⟩ := hS
  rw [m_X12_refer, m_X13_refer, c3, c4]
  by_cases c : 0 ≤ x1 ∧ x1 ≤ 1000
  · by_cases d : 0 ≤ x2 ∧ x2 ≤ 1000
    · by_cases e : x1 ≤ x2
      · have l1 := lb_in (g := g) (b := b) (c := x1) c.2
        have l2 := lb_in (g := g) (b := b) (c := x2) d.2
        obtain ⟨a1, a2⟩ := S2 (lb g b x1) l1.1 l1.2
        obtain ⟨a3, a4⟩ := S2 (lb g b x2) l2.1 l2.2
        refine ⟨kst g b gc bc rc (lb g b x1) (lb g b x2), Or.inl ?_, ?_⟩
        · repeat (first | (with_reducible refine gd_ok ?_ ?_; focus (first | omega | assumption | ((repeat' refine And.intro ?_ ?_) <;> first | omega | assumption) | fail)) | (with_reducible refine ip_ok ?_ ?_; focus (first | omega | assumption | ((repeat' refine And.intro ?_ ?_) <;> first | omega | assumption) | fail)) | (with_reducible refine in_ok ?_ ?_; focus (first | omega | assumption | ((repeat' refine And.intro ?_ ?_) <;> first | omega | assumption) | fail)) | (rw [isCut1 c, so_bd]; try dsimp only) | (rw [isCut1 d, so_bd]; try dsimp only) | (rw [hset, so_bd]; try dsimp only) | (rw [below_ok hN ok S1 c, so_bd]; try dsimp only) | (rw [below_ok hN ok S1 d, so_bd]; try dsimp only) | (rw [casesAhead_ok ok S2 l2.1 l2.2, so_bd]; try dsimp only) | (rw [casesAhead_ok ok S2 l1.1 l1.2, so_bd]; try dsimp only) | (rw [bads_ok ok S2, so_bd]; try dsimp only) | (rw [so_bd]; try dsimp only))
          rw [a1, a4]
          have z : cG g b (lb g b x2) + cB g b (lb g b x2) - (cG g b (lb g b x1) + cB g b (lb g b x1)) = cG g b (lb g b x2) - cG g b (lb g b x1) + cB g b (lb g b x2) - cB g b (lb g b x1) := by omega
          rw [z]
          unfold kst
          congr 2
          omega
        · repeat (first | (with_reducible refine Rt.gd ?_ ?_; focus (first | omega | assumption | ((repeat' refine And.intro ?_ ?_) <;> first | omega | assumption) | fail)) | (with_reducible refine Rt.ip ?_ ?_; focus (first | omega | assumption | ((repeat' refine And.intro ?_ ?_) <;> first | omega | assumption) | fail)) | (with_reducible refine Rt.in_ ?_ ?_; focus (first | omega | assumption | ((repeat' refine And.intro ?_ ?_) <;> first | omega | assumption) | fail)) | (rw [lb1, so_bd]; try dsimp only) | (rw [rCut1 c, so_bd]; try dsimp only) | (rw [rCut1 d, so_bd]; try dsimp only) | (rw [costOf_ok hbl c5 hgc hbc hrc c d, so_bd]; try dsimp only) | (rw [so_bd]; try dsimp only))
          all_goals exact Rt.so
      · refine ⟨-2, Or.inr ?_, ?_⟩
        · repeat (first | (with_reducible refine gd_ok ?_ ?_; focus (first | omega | assumption | ((repeat' refine And.intro ?_ ?_) <;> first | omega | assumption) | fail)) | (with_reducible refine ip_ok ?_ ?_; focus (first | omega | assumption | ((repeat' refine And.intro ?_ ?_) <;> first | omega | assumption) | fail)) | (with_reducible refine in_ok ?_ ?_; focus (first | omega | assumption | ((repeat' refine And.intro ?_ ?_) <;> first | omega | assumption) | fail)) | (rw [isCut1 c, so_bd]; try dsimp only) | (rw [isCut1 d, so_bd]; try dsimp only) | (rw [so_bd]; try dsimp only))
          all_goals rfl
        · repeat (first | (with_reducible refine Rt.gd ?_ ?_; focus (first | omega | assumption | ((repeat' refine And.intro ?_ ?_) <;> first | omega | assumption) | fail)) | (with_reducible refine Rt.ip ?_ ?_; focus (first | omega | assumption | ((repeat' refine And.intro ?_ ?_) <;> first | omega | assumption) | fail)) | (with_reducible refine Rt.in_ ?_ ?_; focus (first | omega | assumption | ((repeat' refine And.intro ?_ ?_) <;> first | omega | assumption) | fail)) | (rw [lb1, so_bd]; try dsimp only) | (rw [rCut1 c, so_bd]; try dsimp only) | (rw [rCut1 d, so_bd]; try dsimp only) | (rw [so_bd]; try dsimp only))
          rw [m_X13_refer_b49]
          exact Rt.so
    · refine ⟨-2, Or.inr ?_, ?_⟩
      · repeat (first | (with_reducible refine gd_ok ?_ ?_; focus (first | omega | assumption | ((repeat' refine And.intro ?_ ?_) <;> first | omega | assumption) | fail)) | (with_reducible refine ip_ok ?_ ?_; focus (first | omega | assumption | ((repeat' refine And.intro ?_ ?_) <;> first | omega | assumption) | fail)) | (with_reducible refine in_ok ?_ ?_; focus (first | omega | assumption | ((repeat' refine And.intro ?_ ?_) <;> first | omega | assumption) | fail)) | (rw [isCut1 c, so_bd]; try dsimp only) | (rw [isCut0 hx2 d, so_bd]; try dsimp only) | (rw [so_bd]; try dsimp only))
        all_goals rfl
      · repeat (first | (with_reducible refine Rt.gd ?_ ?_; focus (first | omega | assumption | ((repeat' refine And.intro ?_ ?_) <;> first | omega | assumption) | fail)) | (with_reducible refine Rt.ip ?_ ?_; focus (first | omega | assumption | ((repeat' refine And.intro ?_ ?_) <;> first | omega | assumption) | fail)) | (with_reducible refine Rt.in_ ?_ ?_; focus (first | omega | assumption | ((repeat' refine And.intro ?_ ?_) <;> first | omega | assumption) | fail)) | (rw [lb1, so_bd]; try dsimp only) | (rw [rCut1 c, so_bd]; try dsimp only) | (rw [rCut0 hx2 d, so_bd]; try dsimp only) | (rw [so_bd]; try dsimp only))
        rw [m_X13_refer_b49]
        exact Rt.so
  · refine ⟨-2, Or.inr ?_, ?_⟩
    · repeat (first | (with_reducible refine gd_ok ?_ ?_; focus (first | omega | assumption | ((repeat' refine And.intro ?_ ?_) <;> first | omega | assumption) | fail)) | (with_reducible refine ip_ok ?_ ?_; focus (first | omega | assumption | ((repeat' refine And.intro ?_ ?_) <;> first | omega | assumption) | fail)) | (with_reducible refine in_ok ?_ ?_; focus (first | omega | assumption | ((repeat' refine And.intro ?_ ?_) <;> first | omega | assumption) | fail)) | (rw [isCut0 hx1 c, so_bd]; try dsimp only) | (rw [so_bd]; try dsimp only))
      all_goals rfl
    · repeat (first | (with_reducible refine Rt.gd ?_ ?_; focus (first | omega | assumption | ((repeat' refine And.intro ?_ ?_) <;> first | omega | assumption) | fail)) | (with_reducible refine Rt.ip ?_ ?_; focus (first | omega | assumption | ((repeat' refine And.intro ?_ ?_) <;> first | omega | assumption) | fail)) | (with_reducible refine Rt.in_ ?_ ?_; focus (first | omega | assumption | ((repeat' refine And.intro ?_ ?_) <;> first | omega | assumption) | fail)) | (rw [lb1, so_bd]; try dsimp only) | (rw [rCut0 hx1 c, so_bd]; try dsimp only) | (rw [so_bd]; try dsimp only))
      rw [m_X13_refer_b49]
      exact Rt.so
theorem q_would (hN : 40000 ≤ N) (ok : okP g b) (hle : 0 ≤ le ∧ le ≤ 9999) (hmo : 1 ≤ mo ∧ mo ≤ 60) (hset : m_X12_settle N le mo g b sp sd rz rsc rgo rba rgA rbA pz ple pgr pgo pba pri bz ble bgr bgo bba bri run = some (1, cn g b, rsc', rgo', rba', rgA', rbA', pmm g b, ple', pgr', pgo', pba', pri', bmm g b le mo, ble', bgr', bgo', bba', bri', run')) (hS : Stl g b le mo rsc' rgo' rba' rgA' rbA' ple' pgr' pgo' pba' pri' ble' bgr' bgo' bba' bri') (hst : StA stt g b) (h3 : stt 3201 = le ∧ stt 3202 = mo) {gc bc rc : Int} (hcs : stt 3203 = gc ∧ stt 3204 = bc ∧ stt 3205 = rc) (hgc : 0 ≤ gc ∧ gc ≤ 999) (hbc : 0 ≤ bc ∧ bc ≤ 999) (hrc : 0 ≤ rc ∧ rc ≤ 999) {x1 x2 : Int} (hx1 : rI x1) (hx2 : rI x2) : Ans (m_X12_would N le mo g b sp sd rz rsc rgo rba rgA rbA pz ple pgr pgo pba pri bz ble bgr bgo bba bri run x1 x2) (m_X13_would N stt z1 s1 s2 s3 s4 x1 x2) (1, cn g b, rsc', rgo', rba', rgA', rbA', pmm g b, ple', pgr', pgo', pba', pri', bmm g b le mo, ble', bgr', bgo', bba', bri', run') (sd, rz, rsc, rgo, rba, rgA, rbA, pz, ple, pgr, pgo, pba, pri, bz, ble, bgr, bgo, bba, bri, run) := by
  obtain ⟨c3, c4, c5⟩ := hcs
  obtain ⟨sc1, go1, ba1, bl1, lb1, hr, hbl⟩ := laysBelow_ok (z := z1) (s1 := s1) (s2 := s2) (s3 := s3) (bl := s4) hN ok hst
  obtain ⟨hn, hbm, hpm⟩ := le_mo ok hle hmo
  obtain ⟨S1, S2, S3, S4⟩ := hS
  rw [m_X12_would, m_X13_would]
  by_cases c : 0 ≤ x1 ∧ x1 ≤ 999
  · by_cases d : 0 ≤ x2 ∧ x2 ≤ 999
    · have ai := am_in (fun i => kst g b x1 x2 rc i i) (cn g b).toNat
      refine ⟨cutB g b (am (fun i => kst g b x1 x2 rc i i) (cn g b).toNat), Or.inl ?_, ?_⟩
      · repeat (first | (with_reducible refine gd_ok ?_ ?_; focus (first | omega | assumption | ((repeat' refine And.intro ?_ ?_) <;> first | omega | assumption) | fail)) | (with_reducible refine ip_ok ?_ ?_; focus (first | omega | assumption | ((repeat' refine And.intro ?_ ?_) <;> first | omega | assumption) | fail)) | (with_reducible refine in_ok ?_ ?_; focus (first | omega | assumption | ((repeat' refine And.intro ?_ ?_) <;> first | omega | assumption) | fail)) | (rw [isCost1 c, so_bd]; try dsimp only) | (rw [isCost1 d, so_bd]; try dsimp only) | (rw [hset, so_bd]; try dsimp only) | (rw [cheapestR_ok (r := rc) hN ok S2 c d hrc, so_bd]; try dsimp only) | (rw [cutBehind_ok ok S1 ai.1 (by omega), so_bd]; try dsimp only) | (rw [so_bd]; try dsimp only))
        all_goals rfl
      · repeat (first | (with_reducible refine Rt.gd ?_ ?_; focus (first | omega | assumption | ((repeat' refine And.intro ?_ ?_) <;> first | omega | assumption) | fail)) | (with_reducible refine Rt.ip ?_ ?_; focus (first | omega | assumption | ((repeat' refine And.intro ?_ ?_) <;> first | omega | assumption) | fail)) | (with_reducible refine Rt.in_ ?_ ?_; focus (first | omega | assumption | ((repeat' refine And.intro ?_ ?_) <;> first | omega | assumption) | fail)) | (rw [in1 (rI_L hx1) ⟨by decide, by decide⟩ ⟨by decide, by decide⟩ c, so_bd]; try dsimp only) | (rw [in1 (rI_L hx2) ⟨by decide, by decide⟩ ⟨by decide, by decide⟩ d, so_bd]; try dsimp only) | (rw [lb1, so_bd]; try dsimp only) | (rw [bestCut_ok hN ok hbl c5 c d hrc, so_bd]; try dsimp only) | (rw [so_bd]; try dsimp only))
        all_goals exact Rt.so
    · refine ⟨-2, Or.inr ?_, ?_⟩
      · repeat (first | (with_reducible refine gd_ok ?_ ?_; focus (first | omega | assumption | ((repeat' refine And.intro ?_ ?_) <;> first | omega | assumption) | fail)) | (with_reducible refine ip_ok ?_ ?_; focus (first | omega | assumption | ((repeat' refine And.intro ?_ ?_) <;> first | omega | assumption) | fail)) | (with_reducible refine in_ok ?_ ?_; focus (first | omega | assumption | ((repeat' refine And.intro ?_ ?_) <;> first | omega | assumption) | fail)) | (rw [isCost1 c, so_bd]; try dsimp only) | (rw [isCost0 hx2 d, so_bd]; try dsimp only) | (rw [so_bd]; try dsimp only))
        all_goals rfl
      · repeat (first | (with_reducible refine Rt.gd ?_ ?_; focus (first | omega | assumption | ((repeat' refine And.intro ?_ ?_) <;> first | omega | assumption) | fail)) | (with_reducible refine Rt.ip ?_ ?_; focus (first | omega | assumption | ((repeat' refine And.intro ?_ ?_) <;> first | omega | assumption) | fail)) | (with_reducible refine Rt.in_ ?_ ?_; focus (first | omega | assumption | ((repeat' refine And.intro ?_ ?_) <;> first | omega | assumption) | fail)) | (rw [in1 (rI_L hx1) ⟨by decide, by decide⟩ ⟨by decide, by decide⟩ c, so_bd]; try dsimp only) | (rw [in0 (rI_L hx2) ⟨by decide, by decide⟩ ⟨by decide, by decide⟩ d, so_bd]; try dsimp only) | (rw [so_bd]; try dsimp only))
        all_goals exact Rt.so
  · refine ⟨-2, Or.inr ?_, ?_⟩
    · repeat (first | (with_reducible refine gd_ok ?_ ?_; focus (first | omega | assumption | ((repeat' refine And.intro ?_ ?_) <;> first | omega | assumption) | fail)) | (with_reducible refine ip_ok ?_ ?_; focus (first | omega | assumption | ((repeat' refine And.intro ?_ ?_) <;> first | omega | assumption) | fail)) | (with_reducible refine in_ok ?_ ?_; focus (first | omega | assumption | ((repeat' refine And.intro ?_ ?_) <;> first | omega | assumption) | fail)) | (rw [isCost0 hx1 c, so_bd]; try dsimp only) | (rw [so_bd]; try dsimp only))
      all_goals rfl
    · repeat (first | (with_reducible refine Rt.gd ?_ ?_; focus (first | omega | assumption | ((repeat' refine And.intro ?_ ?_) <;> first | omega | assumption) | fail)) | (with_reducible refine Rt.ip ?_ ?_; focus (first | omega | assumption | ((repeat' refine And.intro ?_ ?_) <;> first | omega | assumption) | fail)) | (with_reducible refine Rt.in_ ?_ ?_; focus (first | omega | assumption | ((repeat' refine And.intro ?_ ?_) <;> first | omega | assumption) | fail)) | (rw [in0 (rI_L hx1) ⟨by decide, by decide⟩ ⟨by decide, by decide⟩ c, so_bd]; try dsimp only) | (rw [so_bd]; try dsimp only))
      all_goals exact Rt.so
end
