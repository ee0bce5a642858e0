/-! RESAMPLE: the same answer -/
section
variable {N : Nat} {g b stt : Int → Int} {le mo sp run run' : Int} {sd rz pz bz : Int} {rsc rgo rba rgA rbA ple pgr pgo pba pri ble bgr bgo bba bri : Int → Int} {rsc' rgo' rba' rgA' rbA' ple' pgr' pgo' pba' pri' ble' bgr' bgo' bba' bri' : Int → Int} {z1 z2 : Int} {s1 s2 s3 s4 : Int → Int}
variable {gc bc dz dpz : Int} {dsc dgo dba dgA dbA dle dgr dpo dpb dri : Int → Int}
theorem dw_ah {g b go ba gA bA : Int → Int} (h : ∀ i, 0 ≤ i → i < cn g b → go i = cg g b i ∧ ba i = cb g b i) (ha : ∀ i, 0 ≤ i → i ≤ cn g b → gA i = sI go i ∧ bA i = sI ba i) : AhA g b gA bA := by
  intro i i0 i1
  obtain ⟨a1, a2⟩ := ha i i0 i1
  rw [a1, a2]
  exact ⟨sI_congr (fun j j0 j1 => (h j j0 (by omega)).1), sI_congr (fun j j0 j1 => (h j j0 (by omega)).2)⟩
set_option maxHeartbeats 4000000 in
theorem q_resample (hN : 40000 ≤ N) (ok : okP g b) (hle : 0 ≤ le ∧ le ≤ 9999) (hmo : 1 ≤ mo ∧ mo ≤ 60) (hset : m_X12_settle N le mo g b sp sd rz rsc rgo rba rgA rbA pz ple pgr pgo pba pri bz ble bgr bgo bba bri run = some (1, cn g b, rsc', rgo', rba', rgA', rbA', pmm g b, ple', pgr', pgo', pba', pri', bmm g b le mo, ble', bgr', bgo', bba', bri', run')) (hS : Stl g b le mo rsc' rgo' rba' rgA' rbA' ple' pgr' pgo' pba' pri' ble' bgr' bgo' bba' bri') (hst : StA stt g b) (h3 : stt 3201 = le ∧ stt 3202 = mo) (hcs : stt 3203 = gc ∧ stt 3204 = bc) (hgc : 0 ≤ gc ∧ gc ≤ 999) (hbc : 0 ≤ bc ∧ bc ≤ 999) (hd0 : dgA 0 = 0 ∧ dbA 0 = 0) {x1 x3 : Int} (hx3 : rI x3) : ∃ a dz' dsc' dgo' dba' dgA' dbA' dpz' dle' dgr' dpo' dpb' dri', m_X12_resample N le mo gc bc g b sp sd rz rsc rgo rba rgA rbA pz ple pgr pgo pba pri bz ble bgr bgo bba bri dz dsc dgo dba dgA dbA dpz dle dgr dpo dpb dri run x1 x3 = some (a, 1, cn g b, rsc', rgo', rba', rgA', rbA', pmm g b, ple', pgr', pgo', pba', pri', bmm g b le mo, ble', bgr', bgo', bba', bri', dz', dsc', dgo', dba', dgA', dbA', dpz', dle', dgr', dpo', dpb', dri', run') ∧ (dgA' 0 = 0 ∧ dbA' 0 = 0) ∧ Rt (m_X13_resample N stt z1 z2 s1 s2 s3 s4 x1 x3) a := by
  obtain ⟨sc1, go1, ba1, lr1, hr⟩ := laysRows_ok (z := z1) (sc := s1) (go := s2) (ba := s3) hN ok hst
  obtain ⟨hn, hbm, hpm⟩ := le_mo ok hle hmo
  obtain ⟨S1, S2, S3, S4⟩ := hS
  obtain ⟨c3, c4⟩ := hcs
  have nb := C_b ok hn.1 (Int.le_refl _)
  have o2 := of02 hN ok hr hn.1 (Int.le_refl _)
  rw [m_X12_resample, m_X13_resample]
  by_cases n0 : cn g b = 0
  · have z : cG g b (cn g b) + cB g b (cn g b) = 0 := by rw [n0]; rfl
    rw [z] at o2
    refine ⟨-9223372036854775808, dz, dsc, dgo, dba, dgA, dbA, dpz, dle, dgr, dpo, dpb, dri, ?_, hd0, ?_⟩
    · by_cases c1 : x3 < 0
      · repeat (first | (with_reducible refine gd_ok ?_ ?_; focus (first | omega | assumption | ((repeat' refine And.intro ?_ ?_) <;> first | omega | assumption) | fail)) | (with_reducible refine ip_ok ?_ ?_; focus (first | omega | assumption | ((repeat' refine And.intro ?_ ?_) <;> first | omega | assumption) | fail)) | (with_reducible refine in_ok ?_ ?_; focus (first | omega | assumption | ((repeat' refine And.intro ?_ ?_) <;> first | omega | assumption) | fail)) | (rw [hset, so_bd]; try dsimp only) | (rw [so_bd]; try dsimp only))
        all_goals rfl
      · by_cases c2 : 2 < x3
        · repeat (first | (with_reducible refine gd_ok ?_ ?_; focus (first | omega | assumption | ((repeat' refine And.intro ?_ ?_) <;> first | omega | assumption) | fail)) | (with_reducible refine ip_ok ?_ ?_; focus (first | omega | assumption | ((repeat' refine And.intro ?_ ?_) <;> first | omega | assumption) | fail)) | (with_reducible refine in_ok ?_ ?_; focus (first | omega | assumption | ((repeat' refine And.intro ?_ ?_) <;> first | omega | assumption) | fail)) | (rw [hset, so_bd]; try dsimp only) | (rw [so_bd]; try dsimp only))
          all_goals rfl
        · repeat (first | (with_reducible refine gd_ok ?_ ?_; focus (first | omega | assumption | ((repeat' refine And.intro ?_ ?_) <;> first | omega | assumption) | fail)) | (with_reducible refine ip_ok ?_ ?_; focus (first | omega | assumption | ((repeat' refine And.intro ?_ ?_) <;> first | omega | assumption) | fail)) | (with_reducible refine in_ok ?_ ?_; focus (first | omega | assumption | ((repeat' refine And.intro ?_ ?_) <;> first | omega | assumption) | fail)) | (rw [hset, so_bd]; try dsimp only) | (rw [so_bd]; try dsimp only))
          all_goals rfl
    · repeat (first | (with_reducible refine Rt.gd ?_ ?_; focus (first | omega | assumption | ((repeat' refine And.intro ?_ ?_) <;> first | omega | assumption) | fail)) | (with_reducible refine Rt.ip ?_ ?_; focus (first | omega | assumption | ((repeat' refine And.intro ?_ ?_) <;> first | omega | assumption) | fail)) | (with_reducible refine Rt.in_ ?_ ?_; focus (first | omega | assumption | ((repeat' refine And.intro ?_ ?_) <;> first | omega | assumption) | fail)) | (rw [lr1, so_bd]; try dsimp only) | (rw [o2, so_bd]; try dsimp only) | (rw [so_bd]; try dsimp only))
      all_goals exact Rt.so
  · have cp := C_pos ok (show 0 < cn g b by omega)
    by_cases w : 0 ≤ x3 ∧ x3 ≤ 2
    · have i1 := in1 (N := N) (v := x3) (lo := 0) (hi := 2) (rI_L hx3) ⟨by decide, by decide⟩ ⟨by decide, by decide⟩ w
      obtain ⟨tg0, f1, f2⟩ := jfill_ok (N := N) hN (n := 60) (by decide) (v := 0) (q := dgo)
      obtain ⟨tb0, f3, f4⟩ := jfill_ok (N := N) hN (n := 60) (by decide) (v := 0) (q := dba)
      have hD0 : DwI g b (fun _ => 0) (fun _ => 0) 0 := ⟨fun _ => ⟨Int.le_refl 0, Int.le_refl 0⟩, fun _ _ => ⟨rfl, rfl⟩, by rw [sI_zero hn.1]; rfl⟩
      obtain ⟨y5, tg, tb, vg, vb, hD, hT, l1, l2⟩ := draw_lp (N := N) (stt := stt) (st := s4) (dsc := dsc) (dgA := dgA) (dbA := dbA) (w := x3) (zb := z2) (dz := dz) (x0 := x1) hN ok hr S1 S2 cp N x1 0 tg0 tb0 (fun _ => 0) (fun _ => 0) (Int.le_refl 0) (by omega) hD0 (fun i i0 i1 => ⟨f2 i i0 (by omega), f4 i i0 (by omega)⟩) (by omega)
      obtain ⟨dsc', tg', tb', u1, u2⟩ := closeUp_b7_ok (N := N) (sc := rsc') ok (fun i i0 i1 => (S1 i i0 i1).1) (show cG g b (cn g b) + cB g b (cn g b) ≤ 11880 by omega) hD N 0 0 dsc tg tb (by omega) rfl (fun j j0 j1 => by omega) (fun i i0 i1 => hT i (by omega) (by omega)) (by omega)
      obtain ⟨sc', go', ba', v1, v2⟩ := takes_b5_ok (N := N) ok (show cG g b (cn g b) + cB g b (cn g b) ≤ 11880 by omega) hD N 0 0 sc1 go1 ba1 (by omega) rfl (fun j j0 j1 => by omega) (fun i i0 i1 => (hr i (by omega) i1).1) (by omega)
      have okd := hD.ok ok (show cG g b (cn g b) + cB g b (cn g b) ≤ 11880 by omega)
      have rn := (hD.rows ok).1
      have okd2 := okd.2.1
      have dn0 := cn_0 (dwG g b vg) (dwG g b vb)
      have dnb := cG_b okd dn0 (Int.le_refl _)
      obtain ⟨gA', bA', w1, w2⟩ := sumUp_ok (N := N) hN (n := cn (dwG g b vg) (dwG g b vb)) ⟨dn0, okd2⟩ (go := tg') (ba := tb') hd0
      have ah : AhA (dwG g b vg) (dwG g b vb) gA' bA' := dw_ah (fun i i0 i1 => (u2 i i0 i1).2) w2
      have a00 := w2 0 (Int.le_refl 0) dn0
      have e1 : m_X8_closeUp N (cn g b) rsc' dz dsc tg tb = some (cn (dwG g b vg) (dwG g b vb), dsc', tg', tb') := by rw [rn]; exact u1
      have e2 : m_X13_takes N vg 61 vb 61 (cn g b) sc1 go1 ba1 = some (cn (dwG g b vg) (dwG g b vb), sc', go', ba') := by rw [rn]; exact v1
      have e3 : m_X8_drawFrom N (cn g b) rsc' rgo' rgA' rbA' dz dsc dgo dba dgA dbA x1 = some (cn (dwG g b vg) (dwG g b vb), dsc', tg', tb', gA', bA') := by
        rw [m_X8_drawFrom]
        repeat (first | (with_reducible refine gd_ok ?_ ?_; focus (first | omega | assumption | ((repeat' refine And.intro ?_ ?_) <;> first | omega | assumption) | fail)) | (with_reducible refine ip_ok ?_ ?_; focus (first | omega | assumption | ((repeat' refine And.intro ?_ ?_) <;> first | omega | assumption) | fail)) | (with_reducible refine in_ok ?_ ?_; focus (first | omega | assumption | ((repeat' refine And.intro ?_ ?_) <;> first | omega | assumption) | fail)) | (rw [f1, so_bd]; try dsimp only) | (rw [f3, so_bd]; try dsimp only) | (rw [rcases_ok ok S2, so_bd]; try dsimp only) | (rw [so_bd]; try dsimp only))
        rw [l1, m_X8_drawFrom_b28]
        repeat (first | (with_reducible refine gd_ok ?_ ?_; focus (first | omega | assumption | ((repeat' refine And.intro ?_ ?_) <;> first | omega | assumption) | fail)) | (with_reducible refine ip_ok ?_ ?_; focus (first | omega | assumption | ((repeat' refine And.intro ?_ ?_) <;> first | omega | assumption) | fail)) | (with_reducible refine in_ok ?_ ?_; focus (first | omega | assumption | ((repeat' refine And.intro ?_ ?_) <;> first | omega | assumption) | fail)) | (rw [e1, so_bd]; try dsimp only) | (rw [w1, so_bd]; try dsimp only) | (rw [so_bd]; try dsimp only))
        all_goals rfl
      rcases (by omega : x3 = 0 ∨ x3 = 1 ∨ x3 = 2) with e | e | e
      · subst e
        refine ⟨cB (dwG g b vg) (dwG g b vb) (cn (dwG g b vg) (dwG g b vb)), cn (dwG g b vg) (dwG g b vb), dsc', tg', tb', gA', bA', dpz, dle, dgr, dpo, dpb, dri, ?_, ?_, ?_⟩
        · repeat (first | (with_reducible refine gd_ok ?_ ?_; focus (first | omega | assumption | ((repeat' refine And.intro ?_ ?_) <;> first | omega | assumption) | fail)) | (with_reducible refine ip_ok ?_ ?_; focus (first | omega | assumption | ((repeat' refine And.intro ?_ ?_) <;> first | omega | assumption) | fail)) | (with_reducible refine in_ok ?_ ?_; focus (first | omega | assumption | ((repeat' refine And.intro ?_ ?_) <;> first | omega | assumption) | fail)) | (rw [hset, so_bd]; try dsimp only) | (rw [e3, so_bd]; try dsimp only) | (rw [bads_ok okd ah, so_bd]; try dsimp only) | (rw [so_bd]; try dsimp only))
          all_goals rfl
        · exact ⟨a00.1, a00.2⟩
        · repeat (first | (with_reducible refine Rt.gd ?_ ?_; focus (first | omega | assumption | ((repeat' refine And.intro ?_ ?_) <;> first | omega | assumption) | fail)) | (with_reducible refine Rt.ip ?_ ?_; focus (first | omega | assumption | ((repeat' refine And.intro ?_ ?_) <;> first | omega | assumption) | fail)) | (with_reducible refine Rt.in_ ?_ ?_; focus (first | omega | assumption | ((repeat' refine And.intro ?_ ?_) <;> first | omega | assumption) | fail)) | (rw [lr1, so_bd]; try dsimp only) | (rw [o2, so_bd]; try dsimp only) | (rw [i1, so_bd]; try dsimp only) | (rw [so_bd]; try dsimp only))
          rw [l2, m_X13_resample_b56]
          repeat (first | (with_reducible refine Rt.gd ?_ ?_; focus (first | omega | assumption | ((repeat' refine And.intro ?_ ?_) <;> first | omega | assumption) | fail)) | (with_reducible refine Rt.ip ?_ ?_; focus (first | omega | assumption | ((repeat' refine And.intro ?_ ?_) <;> first | omega | assumption) | fail)) | (with_reducible refine Rt.in_ ?_ ?_; focus (first | omega | assumption | ((repeat' refine And.intro ?_ ?_) <;> first | omega | assumption) | fail)) | (rw [e2, so_bd]; try dsimp only) | (rw [of01 hN okd v2 dn0 (Int.le_refl _), so_bd]; try dsimp only) | (rw [so_bd]; try dsimp only))
          all_goals exact Rt.so
      · subst e
        have ai := am_in (fun i => kst (dwG g b vg) (dwG g b vb) gc bc 0 i i) (cn (dwG g b vg) (dwG g b vb)).toNat
        have ci := cutB_in (g := dwG g b vg) (b := dwG g b vb) (i := am (fun i => kst (dwG g b vg) (dwG g b vb) gc bc 0 i i) (cn (dwG g b vg) (dwG g b vb)).toNat) ⟨ai.1, by omega⟩
        refine ⟨cutB (dwG g b vg) (dwG g b vb) (am (fun i => kst (dwG g b vg) (dwG g b vb) gc bc 0 i i) (cn (dwG g b vg) (dwG g b vb)).toNat), cn (dwG g b vg) (dwG g b vb), dsc', tg', tb', gA', bA', dpz, dle, dgr, dpo, dpb, dri, ?_, ?_, ?_⟩
        · repeat (first | (with_reducible refine gd_ok ?_ ?_; focus (first | omega | assumption | ((repeat' refine And.intro ?_ ?_) <;> first | omega | assumption) | fail)) | (with_reducible refine ip_ok ?_ ?_; focus (first | omega | assumption | ((repeat' refine And.intro ?_ ?_) <;> first | omega | assumption) | fail)) | (with_reducible refine in_ok ?_ ?_; focus (first | omega | assumption | ((repeat' refine And.intro ?_ ?_) <;> first | omega | assumption) | fail)) | (rw [hset, so_bd]; try dsimp only) | (rw [e3, so_bd]; try dsimp only) | (rw [cheapestR_ok (r := 0) hN okd ah hgc hbc ⟨by decide, by decide⟩, so_bd]; try dsimp only) | (rw [cutBehind_ok okd u2 ai.1 (by omega), so_bd]; try dsimp only) | (rw [so_bd]; try dsimp only))
          all_goals rfl
        · exact ⟨a00.1, a00.2⟩
        · repeat (first | (with_reducible refine Rt.gd ?_ ?_; focus (first | omega | assumption | ((repeat' refine And.intro ?_ ?_) <;> first | omega | assumption) | fail)) | (with_reducible refine Rt.ip ?_ ?_; focus (first | omega | assumption | ((repeat' refine And.intro ?_ ?_) <;> first | omega | assumption) | fail)) | (with_reducible refine Rt.in_ ?_ ?_; focus (first | omega | assumption | ((repeat' refine And.intro ?_ ?_) <;> first | omega | assumption) | fail)) | (rw [lr1, so_bd]; try dsimp only) | (rw [o2, so_bd]; try dsimp only) | (rw [i1, so_bd]; try dsimp only) | (rw [so_bd]; try dsimp only))
          rw [l2, m_X13_resample_b56]
          repeat (first | (with_reducible refine Rt.gd ?_ ?_; focus (first | omega | assumption | ((repeat' refine And.intro ?_ ?_) <;> first | omega | assumption) | fail)) | (with_reducible refine Rt.ip ?_ ?_; focus (first | omega | assumption | ((repeat' refine And.intro ?_ ?_) <;> first | omega | assumption) | fail)) | (with_reducible refine Rt.in_ ?_ ?_; focus (first | omega | assumption | ((repeat' refine And.intro ?_ ?_) <;> first | omega | assumption) | fail)) | (rw [e2, so_bd]; try dsimp only) | (rw [cutOfRows_ok hN okd v2 c3 c4 hgc hbc, so_bd]; try dsimp only) | (rw [so_bd]; try dsimp only))
          all_goals exact Rt.so
      · subst e
        obtain ⟨le2, gr2, po2, pb2, ri2, p1, p2⟩ := fillPure_ok (N := N) (z := dpz) (le := dle) (gr := dgr) (lgo := dpo) (lba := dpb) (ri := dri) hN okd u2
        obtain ⟨arr, lp1, -, pb⟩ := laysPure_ok (N := N) (m := z2) (st' := s4) hN okd v2
        have pbm := pb.1
        have e5 : m_X13_pureOfRows N (cn (dwG g b vg) (dwG g b vb)) go' ba' z2 s4 = some (pmm (dwG g b vg) (dwG g b vb), pmm (dwG g b vg) (dwG g b vb), arr) := by
          rw [m_X13_pureOfRows]
          repeat (first | (with_reducible refine gd_ok ?_ ?_; focus (first | omega | assumption | ((repeat' refine And.intro ?_ ?_) <;> first | omega | assumption) | fail)) | (with_reducible refine ip_ok ?_ ?_; focus (first | omega | assumption | ((repeat' refine And.intro ?_ ?_) <;> first | omega | assumption) | fail)) | (with_reducible refine in_ok ?_ ?_; focus (first | omega | assumption | ((repeat' refine And.intro ?_ ?_) <;> first | omega | assumption) | fail)) | (rw [lp1, so_bd]; try dsimp only) | (rw [so_bd]; try dsimp only))
          all_goals rfl
        refine ⟨pmm (dwG g b vg) (dwG g b vb), cn (dwG g b vg) (dwG g b vb), dsc', tg', tb', gA', bA', pmm (dwG g b vg) (dwG g b vb), le2, gr2, po2, pb2, ri2, ?_, ?_, ?_⟩
        · repeat (first | (with_reducible refine gd_ok ?_ ?_; focus (first | omega | assumption | ((repeat' refine And.intro ?_ ?_) <;> first | omega | assumption) | fail)) | (with_reducible refine ip_ok ?_ ?_; focus (first | omega | assumption | ((repeat' refine And.intro ?_ ?_) <;> first | omega | assumption) | fail)) | (with_reducible refine in_ok ?_ ?_; focus (first | omega | assumption | ((repeat' refine And.intro ?_ ?_) <;> first | omega | assumption) | fail)) | (rw [hset, so_bd]; try dsimp only) | (rw [e3, so_bd]; try dsimp only) | (rw [p1, so_bd]; try dsimp only) | (rw [so_bd]; try dsimp only))
          all_goals rfl
        · exact ⟨a00.1, a00.2⟩
        · repeat (first | (with_reducible refine Rt.gd ?_ ?_; focus (first | omega | assumption | ((repeat' refine And.intro ?_ ?_) <;> first | omega | assumption) | fail)) | (with_reducible refine Rt.ip ?_ ?_; focus (first | omega | assumption | ((repeat' refine And.intro ?_ ?_) <;> first | omega | assumption) | fail)) | (with_reducible refine Rt.in_ ?_ ?_; focus (first | omega | assumption | ((repeat' refine And.intro ?_ ?_) <;> first | omega | assumption) | fail)) | (rw [lr1, so_bd]; try dsimp only) | (rw [o2, so_bd]; try dsimp only) | (rw [i1, so_bd]; try dsimp only) | (rw [so_bd]; try dsimp only))
          rw [l2, m_X13_resample_b56]
          repeat (first | (with_reducible refine Rt.gd ?_ ?_; focus (first | omega | assumption | ((repeat' refine And.intro ?_ ?_) <;> first | omega | assumption) | fail)) | (with_reducible refine Rt.ip ?_ ?_; focus (first | omega | assumption | ((repeat' refine And.intro ?_ ?_) <;> first | omega | assumption) | fail)) | (with_reducible refine Rt.in_ ?_ ?_; focus (first | omega | assumption | ((repeat' refine And.intro ?_ ?_) <;> first | omega | assumption) | fail)) | (rw [e2, so_bd]; try dsimp only) | (rw [e5, so_bd]; try dsimp only) | (rw [so_bd]; try dsimp only))
          all_goals exact Rt.so
    · have i1 := in0 (N := N) (v := x3) (lo := 0) (hi := 2) (rI_L hx3) ⟨by decide, by decide⟩ ⟨by decide, by decide⟩ w
      refine ⟨-9223372036854775808, dz, dsc, dgo, dba, dgA, dbA, dpz, dle, dgr, dpo, dpb, dri, ?_, hd0, ?_⟩
      · by_cases c1 : x3 < 0
        · repeat (first | (with_reducible refine gd_ok ?_ ?_; focus (first | omega | assumption | ((repeat' refine And.intro ?_ ?_) <;> first | omega | assumption) | fail)) | (with_reducible refine ip_ok ?_ ?_; focus (first | omega | assumption | ((repeat' refine And.intro ?_ ?_) <;> first | omega | assumption) | fail)) | (with_reducible refine in_ok ?_ ?_; focus (first | omega | assumption | ((repeat' refine And.intro ?_ ?_) <;> first | omega | assumption) | fail)) | (rw [hset, so_bd]; try dsimp only) | (rw [so_bd]; try dsimp only))
          all_goals rfl
        · repeat (first | (with_reducible refine gd_ok ?_ ?_; focus (first | omega | assumption | ((repeat' refine And.intro ?_ ?_) <;> first | omega | assumption) | fail)) | (with_reducible refine ip_ok ?_ ?_; focus (first | omega | assumption | ((repeat' refine And.intro ?_ ?_) <;> first | omega | assumption) | fail)) | (with_reducible refine in_ok ?_ ?_; focus (first | omega | assumption | ((repeat' refine And.intro ?_ ?_) <;> first | omega | assumption) | fail)) | (rw [hset, so_bd]; try dsimp only) | (rw [so_bd]; try dsimp only))
          all_goals rfl
      · repeat (first | (with_reducible refine Rt.gd ?_ ?_; focus (first | omega | assumption | ((repeat' refine And.intro ?_ ?_) <;> first | omega | assumption) | fail)) | (with_reducible refine Rt.ip ?_ ?_; focus (first | omega | assumption | ((repeat' refine And.intro ?_ ?_) <;> first | omega | assumption) | fail)) | (with_reducible refine Rt.in_ ?_ ?_; focus (first | omega | assumption | ((repeat' refine And.intro ?_ ?_) <;> first | omega | assumption) | fail)) | (rw [lr1, so_bd]; try dsimp only) | (rw [o2, so_bd]; try dsimp only) | (rw [i1, so_bd]; try dsimp only) | (rw [so_bd]; try dsimp only))
        all_goals exact Rt.so
end
