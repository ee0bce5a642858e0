/-! the same answer: the greatest distance, the hull, counts, bands -/
section
variable {N : Nat} {g b stt : Int → Int} {le mo sp run run' : Int} {sd rz pz bz : Int} {rsc rgo rba rgA rbA ple pgr pgo pba pri ble bgr bgo bba bri : Int → Int} {rsc' rgo' rba' rgA' rbA' ple' pgr' pgo' pba' pri' ble' bgr' bgo' bba' bri' : Int → Int} {z1 z2 : Int} {s1 s2 s3 s4 : Int → Int}
set_option maxHeartbeats 2000000 in
theorem q_ks (hN : 40000 ≤ N) (ok : okP g b) (hle : 0 ≤ le ∧ le ≤ 9999) (hmo : 1 ≤ mo ∧ mo ≤ 60) (hset : m_X12_settle N le mo g b sp sd rz rsc rgo rba rgA rbA pz ple pgr pgo pba pri bz ble bgr bgo bba bri run = some (1, cn g b, rsc', rgo', rba', rgA', rbA', pmm g b, ple', pgr', pgo', pba', pri', bmm g b le mo, ble', bgr', bgo', bba', bri', run')) (hS : Stl g b le mo rsc' rgo' rba' rgA' rbA' ple' pgr' pgo' pba' pri' ble' bgr' bgo' bba' bri') (hst : StA stt g b) (h3 : stt 3201 = le ∧ stt 3202 = mo) {x1 : Int} (hx1 : rI x1) : Ans (m_X12_ks N le mo g b sp sd rz rsc rgo rba rgA rbA pz ple pgr pgo pba pri bz ble bgr bgo bba bri run x1) (m_X13_ks N stt z1 s1 s2 s3 x1) (1, cn g b, rsc', rgo', rba', rgA', rbA', pmm g b, ple', pgr', pgo', pba', pri', bmm g b le mo, ble', bgr', bgo', bba', bri', run') (sd, rz, rsc, rgo, rba, rgA, rbA, pz, ple, pgr, pgo, pba, pri, bz, ble, bgr, bgo, bba, bri, run) := by
  obtain ⟨sc1, go1, ba1, lr1, hr⟩ := laysRows_ok (z := z1) (sc := s1) (go := s2) (ba := s3) hN ok hst
  obtain ⟨hn, hbm, hpm⟩ := le_mo ok hle hmo
  obtain ⟨S1, S2, S3, S4⟩ := hS
  have cb := cG_b ok hn.1 (Int.le_refl _)
  rw [m_X12_ks, m_X13_ks]
  by_cases c : 0 ≤ x1 ∧ x1 ≤ 2
  · by_cases d : 0 < cG g b (cn g b) ∧ 0 < cB g b (cn g b)
    · have n1 : 1 ≤ cn g b := by
        by_cases n1 : 1 ≤ cn g b
        · exact n1
        · have e : cn g b = 0 := by omega
          have d1 := d.1
          rw [e] at d1
          have y1 : cG g b 0 = 0 := rfl
          omega
      have m := mul_bd (a := cG g b (cn g b)) (b := cB g b (cn g b)) (A := 11880) (B := 11880) (by omega) (by omega)
      have mp : 0 < cG g b (cn g b) * cB g b (cn g b) := Int.mul_pos d.1 d.2
      have ai := am_in (fun i => - apt g b i) (cn g b - 1).toNat
      have hv := apt_in ok (i := am (fun i => - apt g b i) (cn g b - 1).toNat) ai.1 (by omega)
      have ci := cs_in (g := g) (b := b) (i := am (fun i => - apt g b i) (cn g b - 1).toNat) ai.1 (by omega)
      have e1 : m_X8_farthest N (cn g b) rgA' rbA' = some (am (fun i => - apt g b i) (cn g b - 1).toNat) := farthest_b4_ok ok S2 N 0 0 1 rfl rfl n1 (by omega)
      have e0 : ∀ a, (x1 = 2 → a = cs g b (am (fun i => - apt g b i) (cn g b - 1).toNat)) ∧ (x1 ≠ 2 → m_X13_told N (apt g b (am (fun i => - apt g b i) (cn g b - 1).toNat)) (cG g b (cn g b) * cB g b (cn g b)) x1 = some a) → Rt (m_X13_ks_b61 N stt x1 (cn g b) sc1 go1 ba1 (cG g b (cn g b)) (cB g b (cn g b)) N (-1) 0 0) a := by
        intro a ha
        have q2 := apt_in ok (i := 0) (by omega) (by omega)
        have qd := apt_d ok (i := 0) (by omega) (by omega)
        have ed : iabs (cG g b (0 + 1) * cB g b (cn g b) - cB g b (0 + 1) * cG g b (cn g b)) = apt g b 0 := rfl
        have e1 := (hr 0 (by omega) (by omega)).1
        obtain ⟨f, ef⟩ : ∃ f, N = f + 1 := ⟨N - 1, by omega⟩
        have hh := ks_b61_ok (N := N) (stt := stt) hN ok hr hx1 ha f 0 (apt g b 0) (cs g b 0) 1 rfl rfl rfl n1 (by omega)
        have e3 : m_X13_ks_b61 N stt x1 (cn g b) sc1 go1 ba1 (cG g b (cn g b)) (cB g b (cn g b)) N (-1) 0 0 = m_X13_ks_b61 N stt x1 (cn g b) sc1 go1 ba1 (cG g b (cn g b)) (cB g b (cn g b)) (f + 1) (-1) 0 0 := by rw [← ef]
        rw [e3, m_X13_ks_b61]
        repeat (first | (with_reducible refine Rt.gd ?_ ?_; focus (first | omega | assumption | ((repeat' refine And.intro ?_ ?_) <;> first | omega | assumption) | fail)) | (with_reducible refine Rt.ip ?_ ?_; focus (first | omega | assumption | ((repeat' refine And.intro ?_ ?_) <;> first | omega | assumption) | fail)) | (with_reducible refine Rt.in_ ?_ ?_; focus (first | omega | assumption | ((repeat' refine And.intro ?_ ?_) <;> first | omega | assumption) | fail)) | (rw [of00 hN ok hr (x2 := 0 + 1) (by omega) (by omega), so_bd]; try dsimp only) | (rw [of01 hN ok hr (x2 := 0 + 1) (by omega) (by omega), so_bd]; try dsimp only) | (rw [so_bd]; try dsimp only))
        rw [e1]
        exact hh
      by_cases w : x1 = 2
      · refine ⟨cs g b (am (fun i => - apt g b i) (cn g b - 1).toNat), Or.inl ?_, ?_⟩
        · have es := (S1 (am (fun i => - apt g b i) (cn g b - 1).toNat) ai.1 (by omega)).1
          repeat (first | (with_reducible refine gd_ok ?_ ?_; focus (first | omega | assumption | ((repeat' refine And.intro ?_ ?_) <;> first | omega | assumption) | fail)) | (with_reducible refine ip_ok ?_ ?_; focus (first | omega | assumption | ((repeat' refine And.intro ?_ ?_) <;> first | omega | assumption) | fail)) | (with_reducible refine in_ok ?_ ?_; focus (first | omega | assumption | ((repeat' refine And.intro ?_ ?_) <;> first | omega | assumption) | fail)) | (rw [hset, so_bd]; try dsimp only) | (rw [hasBoth1 ok S2 d.1 d.2, so_bd]; try dsimp only) | (rw [e1, so_bd]; try dsimp only) | rw [es] | (rw [so_bd]; try dsimp only))
          all_goals rfl
        · repeat (first | (with_reducible refine Rt.gd ?_ ?_; focus (first | omega | assumption | ((repeat' refine And.intro ?_ ?_) <;> first | omega | assumption) | fail)) | (with_reducible refine Rt.ip ?_ ?_; focus (first | omega | assumption | ((repeat' refine And.intro ?_ ?_) <;> first | omega | assumption) | fail)) | (with_reducible refine Rt.in_ ?_ ?_; focus (first | omega | assumption | ((repeat' refine And.intro ?_ ?_) <;> first | omega | assumption) | fail)) | (rw [lr1, so_bd]; try dsimp only) | (rw [in1 (rI_L hx1) ⟨by decide, by decide⟩ ⟨by decide, by decide⟩ c, so_bd]; try dsimp only) | (rw [areBoth1 hN ok hr d.1 d.2, so_bd]; try dsimp only) | (rw [of00 hN ok hr hn.1 (Int.le_refl _), so_bd]; try dsimp only) | (rw [of01 hN ok hr hn.1 (Int.le_refl _), so_bd]; try dsimp only) | (rw [so_bd]; try dsimp only))
          exact e0 _ ⟨fun _ => rfl, fun h => absurd w h⟩
      · have t1 := told_ok hN (a := apt g b (am (fun i => - apt g b i) (cn g b - 1).toNat)) (b := cG g b (cn g b) * cB g b (cn g b)) (w := x1) (by omega) (by omega) hx1
        have t2 := lowest_ok hN (a := apt g b (am (fun i => - apt g b i) (cn g b - 1).toNat)) (b := cG g b (cn g b) * cB g b (cn g b)) (w := x1) (by omega) (by omega) hx1
        refine ⟨if x1 = 0 then apt g b (am (fun i => - apt g b i) (cn g b - 1).toNat) / (Int.gcd (apt g b (am (fun i => - apt g b i) (cn g b - 1).toNat)) (cG g b (cn g b) * cB g b (cn g b)) : Int) else cG g b (cn g b) * cB g b (cn g b) / (Int.gcd (apt g b (am (fun i => - apt g b i) (cn g b - 1).toNat)) (cG g b (cn g b) * cB g b (cn g b)) : Int), Or.inl ?_, ?_⟩
        · repeat (first | (with_reducible refine gd_ok ?_ ?_; focus (first | omega | assumption | ((repeat' refine And.intro ?_ ?_) <;> first | omega | assumption) | fail)) | (with_reducible refine ip_ok ?_ ?_; focus (first | omega | assumption | ((repeat' refine And.intro ?_ ?_) <;> first | omega | assumption) | fail)) | (with_reducible refine in_ok ?_ ?_; focus (first | omega | assumption | ((repeat' refine And.intro ?_ ?_) <;> first | omega | assumption) | fail)) | (rw [hset, so_bd]; try dsimp only) | (rw [hasBoth1 ok S2 d.1 d.2, so_bd]; try dsimp only) | (rw [e1, so_bd]; try dsimp only) | (rw [apart_ok ok S2 ai.1 (by omega), so_bd]; try dsimp only) | (rw [goods_ok ok S2, so_bd]; try dsimp only) | (rw [bads_ok ok S2, so_bd]; try dsimp only) | (rw [t2, so_bd]; try dsimp only) | (rw [so_bd]; try dsimp only))
          all_goals rfl
        · repeat (first | (with_reducible refine Rt.gd ?_ ?_; focus (first | omega | assumption | ((repeat' refine And.intro ?_ ?_) <;> first | omega | assumption) | fail)) | (with_reducible refine Rt.ip ?_ ?_; focus (first | omega | assumption | ((repeat' refine And.intro ?_ ?_) <;> first | omega | assumption) | fail)) | (with_reducible refine Rt.in_ ?_ ?_; focus (first | omega | assumption | ((repeat' refine And.intro ?_ ?_) <;> first | omega | assumption) | fail)) | (rw [lr1, so_bd]; try dsimp only) | (rw [in1 (rI_L hx1) ⟨by decide, by decide⟩ ⟨by decide, by decide⟩ c, so_bd]; try dsimp only) | (rw [areBoth1 hN ok hr d.1 d.2, so_bd]; try dsimp only) | (rw [of00 hN ok hr hn.1 (Int.le_refl _), so_bd]; try dsimp only) | (rw [of01 hN ok hr hn.1 (Int.le_refl _), so_bd]; try dsimp only) | (rw [so_bd]; try dsimp only))
          exact e0 _ ⟨fun h => absurd h w, fun _ => t1⟩
    · refine ⟨-9223372036854775808, Or.inl ?_, ?_⟩
      · repeat (first | (with_reducible refine gd_ok ?_ ?_; focus (first | omega | assumption | ((repeat' refine And.intro ?_ ?_) <;> first | omega | assumption) | fail)) | (with_reducible refine ip_ok ?_ ?_; focus (first | omega | assumption | ((repeat' refine And.intro ?_ ?_) <;> first | omega | assumption) | fail)) | (with_reducible refine in_ok ?_ ?_; focus (first | omega | assumption | ((repeat' refine And.intro ?_ ?_) <;> first | omega | assumption) | fail)) | (rw [hset, so_bd]; try dsimp only) | (rw [hasBoth0 ok S2 d, so_bd]; try dsimp only) | (rw [so_bd]; try dsimp only))
        all_goals rfl
      · repeat (first | (with_reducible refine Rt.gd ?_ ?_; focus (first | omega | assumption | ((repeat' refine And.intro ?_ ?_) <;> first | omega | assumption) | fail)) | (with_reducible refine Rt.ip ?_ ?_; focus (first | omega | assumption | ((repeat' refine And.intro ?_ ?_) <;> first | omega | assumption) | fail)) | (with_reducible refine Rt.in_ ?_ ?_; focus (first | omega | assumption | ((repeat' refine And.intro ?_ ?_) <;> first | omega | assumption) | fail)) | (rw [lr1, so_bd]; try dsimp only) | (rw [in1 (rI_L hx1) ⟨by decide, by decide⟩ ⟨by decide, by decide⟩ c, so_bd]; try dsimp only) | (rw [areBoth0 hN ok hr d, so_bd]; try dsimp only) | (rw [so_bd]; try dsimp only))
        all_goals exact Rt.so
  · refine ⟨-9223372036854775808, Or.inl ?_, ?_⟩
    · by_cases d : 0 < cG g b (cn g b) ∧ 0 < cB g b (cn g b)
      · by_cases e : x1 < 0
        · repeat (first | (with_reducible refine gd_ok ?_ ?_; focus (first | omega | assumption | ((repeat' refine And.intro ?_ ?_) <;> first | omega | assumption) | fail)) | (with_reducible refine ip_ok ?_ ?_; focus (first | omega | assumption | ((repeat' refine And.intro ?_ ?_) <;> first | omega | assumption) | fail)) | (with_reducible refine in_ok ?_ ?_; focus (first | omega | assumption | ((repeat' refine And.intro ?_ ?_) <;> first | omega | assumption) | fail)) | (rw [hset, so_bd]; try dsimp only) | (rw [hasBoth1 ok S2 d.1 d.2, so_bd]; try dsimp only) | (rw [so_bd]; try dsimp only))
          all_goals rfl
        · repeat (first | (with_reducible refine gd_ok ?_ ?_; focus (first | omega | assumption | ((repeat' refine And.intro ?_ ?_) <;> first | omega | assumption) | fail)) | (with_reducible refine ip_ok ?_ ?_; focus (first | omega | assumption | ((repeat' refine And.intro ?_ ?_) <;> first | omega | assumption) | fail)) | (with_reducible refine in_ok ?_ ?_; focus (first | omega | assumption | ((repeat' refine And.intro ?_ ?_) <;> first | omega | assumption) | fail)) | (rw [hset, so_bd]; try dsimp only) | (rw [hasBoth1 ok S2 d.1 d.2, so_bd]; try dsimp only) | (rw [so_bd]; try dsimp only))
          all_goals rfl
      · repeat (first | (with_reducible refine gd_ok ?_ ?_; focus (first | omega | assumption | ((repeat' refine And.intro ?_ ?_) <;> first | omega | assumption) | fail)) | (with_reducible refine ip_ok ?_ ?_; focus (first | omega | assumption | ((repeat' refine And.intro ?_ ?_) <;> first | omega | assumption) | fail)) | (with_reducible refine in_ok ?_ ?_; focus (first | omega | assumption | ((repeat' refine And.intro ?_ ?_) <;> first | omega | assumption) | fail)) | (rw [hset, so_bd]; try dsimp only) | (rw [hasBoth0 ok S2 d, so_bd]; try dsimp only) | (rw [so_bd]; try dsimp only))
        all_goals rfl
    · repeat (first | (with_reducible refine Rt.gd ?_ ?_; focus (first | omega | assumption | ((repeat' refine And.intro ?_ ?_) <;> first | omega | assumption) | fail)) | (with_reducible refine Rt.ip ?_ ?_; focus (first | omega | assumption | ((repeat' refine And.intro ?_ ?_) <;> first | omega | assumption) | fail)) | (with_reducible refine Rt.in_ ?_ ?_; focus (first | omega | assumption | ((repeat' refine And.intro ?_ ?_) <;> first | omega | assumption) | fail)) | (rw [lr1, so_bd]; try dsimp only) | (rw [in0 (rI_L hx1) ⟨by decide, by decide⟩ ⟨by decide, by decide⟩ c, so_bd]; try dsimp only) | (rw [so_bd]; try dsimp only))
      all_goals exact Rt.so
set_option maxHeartbeats 2000000 in
theorem q_hull (hN : 40000 ≤ N) (ok : okP g b) (hle : 0 ≤ le ∧ le ≤ 9999) (hmo : 1 ≤ mo ∧ mo ≤ 60) (hset : m_X12_settle N le mo g b sp sd rz rsc rgo rba rgA rbA pz ple pgr pgo pba pri bz ble bgr bgo bba bri run = some (1, cn g b, rsc', rgo', rba', rgA', rbA', pmm g b, ple', pgr', pgo', pba', pri', bmm g b le mo, ble', bgr', bgo', bba', bri', run')) (hS : Stl g b le mo rsc' rgo' rba' rgA' rbA' ple' pgr' pgo' pba' pri' ble' bgr' bgo' bba' bri') (hst : StA stt g b) (h3 : stt 3201 = le ∧ stt 3202 = mo) {x1 x2 : Int} (hx1 : rI x1) (hx2 : rI x2) : Ans (m_X12_hull N le mo g b sp sd rz rsc rgo rba rgA rbA pz ple pgr pgo pba pri bz ble bgr bgo bba bri run x1 x2) (m_X13_hull N stt z1 z2 s1 s2 s3 s4 x1 x2) (1, cn g b, rsc', rgo', rba', rgA', rbA', pmm g b, ple', pgr', pgo', pba', pri', bmm g b le mo, ble', bgr', bgo', bba', bri', run') (sd, rz, rsc, rgo, rba, rgA, rbA, pz, ple, pgr, pgo, pba, pri, bz, ble, bgr, bgo, bba, bri, run) := by
  obtain ⟨sc1, go1, ba1, lr1, hr⟩ := laysRows_ok (z := z1) (sc := s1) (go := s2) (ba := s3) hN ok hst
  obtain ⟨hn, hbm, hpm⟩ := le_mo ok hle hmo
  obtain ⟨S1, S2, S3, S4⟩ := hS
  obtain ⟨arr, lp1, hsa, hb⟩ := laysPure_ok (m := z2) (st' := s4) hN ok hr
  rw [m_X12_hull, m_X13_hull]
  by_cases c : x1 < 0
  · refine ⟨-2, Or.inr ?_, ?_⟩
    · repeat (first | (with_reducible refine gd_ok ?_ ?_; focus (first | omega | assumption | ((repeat' refine And.intro ?_ ?_) <;> first | omega | assumption) | fail)) | (with_reducible refine ip_ok ?_ ?_; focus (first | omega | assumption | ((repeat' refine And.intro ?_ ?_) <;> first | omega | assumption) | fail)) | (with_reducible refine in_ok ?_ ?_; focus (first | omega | assumption | ((repeat' refine And.intro ?_ ?_) <;> first | omega | assumption) | fail)) | (rw [so_bd]; try dsimp only))
      all_goals rfl
    · repeat (first | (with_reducible refine Rt.gd ?_ ?_; focus (first | omega | assumption | ((repeat' refine And.intro ?_ ?_) <;> first | omega | assumption) | fail)) | (with_reducible refine Rt.ip ?_ ?_; focus (first | omega | assumption | ((repeat' refine And.intro ?_ ?_) <;> first | omega | assumption) | fail)) | (with_reducible refine Rt.in_ ?_ ?_; focus (first | omega | assumption | ((repeat' refine And.intro ?_ ?_) <;> first | omega | assumption) | fail)) | (rw [so_bd]; try dsimp only))
      all_goals exact Rt.so
  · by_cases w : 0 ≤ x2 ∧ x2 ≤ 1
    · have i1 := in1 (N := N) (rI_L hx2) ⟨by decide, by decide⟩ ⟨by decide, by decide⟩ w
      have pz : pmm g b = 0 ↔ cn g b = 0 := by
        constructor
        · intro e
          have h1 := hb.2.1
          have h2 := hb.2.2.1
          rw [e] at h2
          omega
        · intro e
          omega
      by_cases d : pmm g b = 0
      · refine ⟨-1, Or.inl ?_, ?_⟩
        · repeat (first | (with_reducible refine gd_ok ?_ ?_; focus (first | omega | assumption | ((repeat' refine And.intro ?_ ?_) <;> first | omega | assumption) | fail)) | (with_reducible refine ip_ok ?_ ?_; focus (first | omega | assumption | ((repeat' refine And.intro ?_ ?_) <;> first | omega | assumption) | fail)) | (with_reducible refine in_ok ?_ ?_; focus (first | omega | assumption | ((repeat' refine And.intro ?_ ?_) <;> first | omega | assumption) | fail)) | (rw [hset, so_bd]; try dsimp only) | (rw [so_bd]; try dsimp only))
          all_goals rfl
        · repeat (first | (with_reducible refine Rt.gd ?_ ?_; focus (first | omega | assumption | ((repeat' refine And.intro ?_ ?_) <;> first | omega | assumption) | fail)) | (with_reducible refine Rt.ip ?_ ?_; focus (first | omega | assumption | ((repeat' refine And.intro ?_ ?_) <;> first | omega | assumption) | fail)) | (with_reducible refine Rt.in_ ?_ ?_; focus (first | omega | assumption | ((repeat' refine And.intro ?_ ?_) <;> first | omega | assumption) | fail)) | (rw [i1, so_bd]; try dsimp only) | (rw [lr1, so_bd]; try dsimp only) | (rw [lp1, so_bd]; try dsimp only) | (rw [so_bd]; try dsimp only))
          all_goals exact Rt.so
      · by_cases e : x1 ≤ pmm g b
        · have st0 := hb.2.1
          have si := hb.in_ (k := x1) (by omega) e
          have ea := hsa x1 (by omega) e
          rcases (by omega : x2 = 0 ∨ x2 = 1) with rfl | rfl
          · have e1 : m_X4_goodBelow N (pmm g b) pgo' x1 = some (cG g b (pst g b x1)) := by
              have h := goodBelow_b4_ok (N := N) (st := pst g b) (lgo := pgo') (G := cG g b) (m := pmm g b) (x := x1) (by omega) (fun k k0 k1 => (S3 k k0 k1).2.2.1) (by omega) N 0 0 (by omega) (by omega) (by omega) (by omega)
              rw [st0] at h
              have z : cG g b 0 = 0 := rfl
              rw [z, Int.sub_zero] at h
              exact h
            have e2 := of00 hN ok hr (x2 := arr x1) (by omega) (by omega)
            rw [ea] at e2
            refine ⟨cG g b (pst g b x1), Or.inl ?_, ?_⟩
            · repeat (first | (with_reducible refine gd_ok ?_ ?_; focus (first | omega | assumption | ((repeat' refine And.intro ?_ ?_) <;> first | omega | assumption) | fail)) | (with_reducible refine ip_ok ?_ ?_; focus (first | omega | assumption | ((repeat' refine And.intro ?_ ?_) <;> first | omega | assumption) | fail)) | (with_reducible refine in_ok ?_ ?_; focus (first | omega | assumption | ((repeat' refine And.intro ?_ ?_) <;> first | omega | assumption) | fail)) | (rw [hset, so_bd]; try dsimp only) | (rw [e1, so_bd]; try dsimp only) | (rw [so_bd]; try dsimp only))
              all_goals rfl
            · repeat (first | (with_reducible refine Rt.gd ?_ ?_; focus (first | omega | assumption | ((repeat' refine And.intro ?_ ?_) <;> first | omega | assumption) | fail)) | (with_reducible refine Rt.ip ?_ ?_; focus (first | omega | assumption | ((repeat' refine And.intro ?_ ?_) <;> first | omega | assumption) | fail)) | (with_reducible refine Rt.in_ ?_ ?_; focus (first | omega | assumption | ((repeat' refine And.intro ?_ ?_) <;> first | omega | assumption) | fail)) | (rw [i1, so_bd]; try dsimp only) | (rw [lr1, so_bd]; try dsimp only) | (rw [lp1, so_bd]; try dsimp only) | rw [ea] | (rw [e2, so_bd]; try dsimp only) | (rw [so_bd]; try dsimp only))
              all_goals exact Rt.so
          · have e1 : m_X4_badBelow N (pmm g b) pba' x1 = some (cB g b (pst g b x1)) := by
              have h := badBelow_b4_ok (N := N) (st := pst g b) (lgo := pba') (G := cB g b) (m := pmm g b) (x := x1) (by omega) (fun k k0 k1 => (S3 k k0 k1).2.2.2.1) (by omega) N 0 0 (by omega) (by omega) (by omega) (by omega)
              rw [st0] at h
              have z : cB g b 0 = 0 := rfl
              rw [z, Int.sub_zero] at h
              exact h
            have e2 := of01 hN ok hr (x2 := arr x1) (by omega) (by omega)
            rw [ea] at e2
            refine ⟨cB g b (pst g b x1), Or.inl ?_, ?_⟩
            · repeat (first | (with_reducible refine gd_ok ?_ ?_; focus (first | omega | assumption | ((repeat' refine And.intro ?_ ?_) <;> first | omega | assumption) | fail)) | (with_reducible refine ip_ok ?_ ?_; focus (first | omega | assumption | ((repeat' refine And.intro ?_ ?_) <;> first | omega | assumption) | fail)) | (with_reducible refine in_ok ?_ ?_; focus (first | omega | assumption | ((repeat' refine And.intro ?_ ?_) <;> first | omega | assumption) | fail)) | (rw [hset, so_bd]; try dsimp only) | (rw [e1, so_bd]; try dsimp only) | (rw [so_bd]; try dsimp only))
              all_goals rfl
            · repeat (first | (with_reducible refine Rt.gd ?_ ?_; focus (first | omega | assumption | ((repeat' refine And.intro ?_ ?_) <;> first | omega | assumption) | fail)) | (with_reducible refine Rt.ip ?_ ?_; focus (first | omega | assumption | ((repeat' refine And.intro ?_ ?_) <;> first | omega | assumption) | fail)) | (with_reducible refine Rt.in_ ?_ ?_; focus (first | omega | assumption | ((repeat' refine And.intro ?_ ?_) <;> first | omega | assumption) | fail)) | (rw [i1, so_bd]; try dsimp only) | (rw [lr1, so_bd]; try dsimp only) | (rw [lp1, so_bd]; try dsimp only) | rw [ea] | (rw [e2, so_bd]; try dsimp only) | (rw [so_bd]; try dsimp only))
              all_goals exact Rt.so
        · refine ⟨-1, Or.inl ?_, ?_⟩
          · repeat (first | (with_reducible refine gd_ok ?_ ?_; focus (first | omega | assumption | ((repeat' refine And.intro ?_ ?_) <;> first | omega | assumption) | fail)) | (with_reducible refine ip_ok ?_ ?_; focus (first | omega | assumption | ((repeat' refine And.intro ?_ ?_) <;> first | omega | assumption) | fail)) | (with_reducible refine in_ok ?_ ?_; focus (first | omega | assumption | ((repeat' refine And.intro ?_ ?_) <;> first | omega | assumption) | fail)) | (rw [hset, so_bd]; try dsimp only) | (rw [so_bd]; try dsimp only))
            all_goals rfl
          · repeat (first | (with_reducible refine Rt.gd ?_ ?_; focus (first | omega | assumption | ((repeat' refine And.intro ?_ ?_) <;> first | omega | assumption) | fail)) | (with_reducible refine Rt.ip ?_ ?_; focus (first | omega | assumption | ((repeat' refine And.intro ?_ ?_) <;> first | omega | assumption) | fail)) | (with_reducible refine Rt.in_ ?_ ?_; focus (first | omega | assumption | ((repeat' refine And.intro ?_ ?_) <;> first | omega | assumption) | fail)) | (rw [i1, so_bd]; try dsimp only) | (rw [lr1, so_bd]; try dsimp only) | (rw [lp1, so_bd]; try dsimp only) | (rw [so_bd]; try dsimp only))
            all_goals exact Rt.so
    · refine ⟨-2, Or.inr ?_, ?_⟩
      · by_cases d : x2 < 0
        · repeat (first | (with_reducible refine gd_ok ?_ ?_; focus (first | omega | assumption | ((repeat' refine And.intro ?_ ?_) <;> first | omega | assumption) | fail)) | (with_reducible refine ip_ok ?_ ?_; focus (first | omega | assumption | ((repeat' refine And.intro ?_ ?_) <;> first | omega | assumption) | fail)) | (with_reducible refine in_ok ?_ ?_; focus (first | omega | assumption | ((repeat' refine And.intro ?_ ?_) <;> first | omega | assumption) | fail)) | (rw [so_bd]; try dsimp only))
          all_goals rfl
        · repeat (first | (with_reducible refine gd_ok ?_ ?_; focus (first | omega | assumption | ((repeat' refine And.intro ?_ ?_) <;> first | omega | assumption) | fail)) | (with_reducible refine ip_ok ?_ ?_; focus (first | omega | assumption | ((repeat' refine And.intro ?_ ?_) <;> first | omega | assumption) | fail)) | (with_reducible refine in_ok ?_ ?_; focus (first | omega | assumption | ((repeat' refine And.intro ?_ ?_) <;> first | omega | assumption) | fail)) | (rw [so_bd]; try dsimp only))
          all_goals rfl
      · repeat (first | (with_reducible refine Rt.gd ?_ ?_; focus (first | omega | assumption | ((repeat' refine And.intro ?_ ?_) <;> first | omega | assumption) | fail)) | (with_reducible refine Rt.ip ?_ ?_; focus (first | omega | assumption | ((repeat' refine And.intro ?_ ?_) <;> first | omega | assumption) | fail)) | (with_reducible refine Rt.in_ ?_ ?_; focus (first | omega | assumption | ((repeat' refine And.intro ?_ ?_) <;> first | omega | assumption) | fail)) | (rw [in0 (rI_L hx2) ⟨by decide, by decide⟩ ⟨by decide, by decide⟩ w, so_bd]; try dsimp only) | (rw [so_bd]; try dsimp only))
        all_goals exact Rt.so
end
