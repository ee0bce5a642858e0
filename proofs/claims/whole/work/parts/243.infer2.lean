/-! acts: open ones inferred, the same answer -/
theorem ChR.inf {lb isc iop iba isc' iop' iba' ak a1 a2 a3 kp cur : Int → Int} {iz iz' ln n : Int} (h : ChR lb iz isc iop iba ln ak a1 a2 a3 n kp cur) (n7 : ∀ j, 0 ≤ j → j < n → ak j ≠ 7) : ChR lb iz' isc' iop' iba' ln ak a1 a2 a3 n kp cur := ⟨h.1, fun j j0 j1 => ⟨(h.2.1 j j0 j1).1.inf (n7 j j0 j1), (h.2.1 j j0 j1).2⟩, h.2.2⟩
theorem rinfer_b14 {N : Nat} {x km z m : Int} {stt kp was sc go ba st : Int → Int} : ∀ (f : Nat) (y2 y3 : Int), 0 ≤ y3 → y3 ≤ 1000 → y2 = sI (fun s => stt (2000 + s)) y3 → (1000 - y3).toNat < f → m_X13_infer_b14 N x km z m stt kp was sc go ba st f y2 y3 = m_X13_infer_b14 N x km z m stt kp was sc go ba st 1 (sI (fun s => stt (2000 + s)) 1000) 1000 := by
  intro f
  induction f with
  | zero => intro y2 y3 _ _ _ h; omega
  | succ f ih =>
    intro y2 y3 h0 h1 hy hf
    by_cases c : y3 = 1000
    · subst c
      rw [hy, m_X13_infer_b14, m_X13_infer_b14]
      exact (gd_t (by constructor <;> decide)).trans ((if_pos (by decide)).trans ((gd_t (by constructor <;> decide)).trans (if_pos (by decide))).symm)
    · rw [m_X13_infer_b14]
      repeat (first | (with_reducible refine gd_ok ?_ ?_; focus (first | omega | assumption | ((repeat' refine And.intro ?_ ?_) <;> first | omega | assumption) | fail)) | (with_reducible refine ip_ok ?_ ?_; focus (first | omega | assumption | ((repeat' refine And.intro ?_ ?_) <;> first | omega | assumption) | fail)) | (with_reducible refine in_ok ?_ ?_; focus (first | omega | assumption | ((repeat' refine And.intro ?_ ?_) <;> first | omega | assumption) | fail)) | (rw [so_bd]; try dsimp only))
      exact ih _ (y3 + 1) (by omega) (by omega) (by rw [hy, sI_s _ h0]) (by omega)
section
variable {N : Nat} {g b stt : Int → Int} {le mo sp run run' : Int} {sd rz pz bz : Int} {rsc rgo rba rgA rbA ple pgr pgo pba pri ble bgr bgo bba bri : Int → Int} {rsc' rgo' rba' rgA' rbA' ple' pgr' pgo' pba' pri' ble' bgr' bgo' bba' bri' : Int → Int} {z1 z2 : Int} {s1 s2 s3 s4 : Int → Int}
variable {op ds dc da dr dl isc iop iba ak a1 a2 a3 kp was : Int → Int} {gc bc rc dz ln iz az : Int}
set_option maxHeartbeats 8000000 in
theorem s_infer (hN : 40000 ≤ N) (ok : okP g b) (hle : 0 ≤ le ∧ le ≤ 9999) (hmo : 1 ≤ mo ∧ mo ≤ 60) (hset : m_X12_settle N le mo g b sp sd rz rsc rgo rba rgA rbA pz ple pgr pgo pba pri bz ble bgr bgo bba bri run = some (1, cn g b, rsc', rgo', rba', rgA', rbA', pmm g b, ple', pgr', pgo', pba', pri', bmm g b le mo, ble', bgr', bgo', bba', bri', run')) (hS : Stl g b le mo rsc' rgo' rba' rgA' rbA' ple' pgr' pgo' pba' pri' ble' bgr' bgo' bba' bri') (h : ARel stt le mo gc bc rc g b op dz ds dc da dr dl ln iz isc iop iba az ak a1 a2 a3 kp) {x1 : Int} (hx1 : rI x1) : ∃ a sd' g' b' op' iz' isc' iop' iba' az' ak' a1' a2' a3' st' kp', ((m_X12_infer N le mo sp sd g b op rz rsc rgo rba rgA rbA pz ple pgr pgo pba pri bz ble bgr bgo bba bri iz isc iop iba az ak a1 a2 a3 run x1 = some (a, sd', g', b', op', cn g b, rsc', rgo', rba', rgA', rbA', pmm g b, ple', pgr', pgo', pba', pri', bmm g b le mo, ble', bgr', bgo', bba', bri', iz', isc', iop', iba', az', ak', a1', a2', a3', run') ∧ (sd' = 0 ∨ (sd' = 1 ∧ g' = g ∧ b' = b))) ∨ (m_X12_infer N le mo sp sd g b op rz rsc rgo rba rgA rbA pz ple pgr pgo pba pri bz ble bgr bgo bba bri iz isc iop iba az ak a1 a2 a3 run x1 = some (a, sd', g', b', op', rz, rsc, rgo, rba, rgA, rbA, pz, ple, pgr, pgo, pba, pri, bz, ble, bgr, bgo, bba, bri, iz', isc', iop', iba', az', ak', a1', a2', a3', run) ∧ (sd' = sd ∧ g' = g ∧ b' = b))) ∧ (∃ r, m_X13_infer N az z1 z2 stt kp was s1 s2 s3 s4 x1 = some (a, r) ∧ r.1 = az' ∧ r.2.2.2.1 = st' ∧ r.2.2.2.2.1 = kp') ∧ ARel st' le mo gc bc rc g' b' op' dz ds dc da dr dl ln iz' isc' iop' iba' az' ak' a1' a2' a3' kp' := by
  have hA := h
  obtain ⟨hV, hP, hD, hC, hl, hdl⟩ := h
  have hst := hP.st
  obtain ⟨-, r1, r2, r3, r4, r5⟩ := id hP
  have h3 : stt 3201 = le ∧ stt 3202 = mo := ⟨r1, r2⟩
  have hF := hP.fit hV
  have hop : ∀ s, 0 ≤ s → s < 1000 → stt (2000 + s) = op s ∧ 0 ≤ op s ∧ op s ≤ 99 := fun s q0 q1 => by
    have e := (hP.1 s q0 q1).2.2
    have q := hV.2.1.1 s q0 q1
    rw [e] at q
    exact ⟨e, q⟩
  have hoc : cn op (fun _ => 0) ≤ 60 := by
    have q : cn op (fun _ => 0) = cn (fun s => stt (2000 + s)) (fun _ => 0) := rwN_congr 1000 (fun s q0 q1 => ⟨(hop s q0 (by omega)).1.symm, rfl⟩)
    rw [q]
    exact hV.2.1.2
  have eo : sI (fun s => stt (2000 + s)) 1000 = sI op 1000 := sI_congr (fun j j0 j1 => (hop j j0 j1).1)
  have ob := sI_ab (K := 99) (f := op) (n := 1000) (fun j j0 j1 => (hop j j0 j1).2) (Int.le_refl 0) 1000 (by decide) (Int.le_refl _)
  have z0 : sI op 0 = 0 := rfl
  rw [z0] at ob
  obtain ⟨hn, hbm, hpm⟩ := le_mo ok hle hmo
  obtain ⟨S1, S2, S3, S4⟩ := hS
  by_cases c : 0 ≤ x1 ∧ x1 ≤ 1000
  · have ref0 : m_X13_infer N az z1 z2 stt kp was s1 s2 s3 s4 x1 = m_X13_infer_b14 N x1 az z1 z2 stt kp was s1 s2 s3 s4 1 (sI op 1000) 1000 := by
      rw [m_X13_infer]
      repeat (first | (with_reducible refine gd_ok ?_ ?_; focus (first | omega | assumption | ((repeat' refine And.intro ?_ ?_) <;> first | omega | assumption) | fail)) | (with_reducible refine ip_ok ?_ ?_; focus (first | omega | assumption | ((repeat' refine And.intro ?_ ?_) <;> first | omega | assumption) | fail)) | (with_reducible refine in_ok ?_ ?_; focus (first | omega | assumption | ((repeat' refine And.intro ?_ ?_) <;> first | omega | assumption) | fail)) | (rw [isMille1 c, so_bd]; try dsimp only) | (rw [so_bd]; try dsimp only))
      rw [← eo]
      exact rinfer_b14 N 0 0 (Int.le_refl 0) (by decide) rfl (by omega)
    rw [m_X13_infer_b14] at ref0
    have op1 := opens_ok (N := N) (op := op) hN
    by_cases n0 : sI op 1000 = 0
    · refine ⟨0, sd, g, b, op, iz, isc, iop, iba, az, ak, a1, a2, a3, stt, kp, Or.inr ⟨?_, rfl, rfl, rfl⟩, ⟨(az, z1, z2, stt, kp, was, s1, s2, s3, s4), ?_, rfl, rfl, rfl⟩, hA⟩
      · rw [m_X12_infer]
        repeat (first | (with_reducible refine gd_ok ?_ ?_; focus (first | omega | assumption | ((repeat' refine And.intro ?_ ?_) <;> first | omega | assumption) | fail)) | (with_reducible refine ip_ok ?_ ?_; focus (first | omega | assumption | ((repeat' refine And.intro ?_ ?_) <;> first | omega | assumption) | fail)) | (with_reducible refine in_ok ?_ ?_; focus (first | omega | assumption | ((repeat' refine And.intro ?_ ?_) <;> first | omega | assumption) | fail)) | (rw [op1, so_bd]; try dsimp only) | (rw [so_bd]; try dsimp only))
        all_goals rfl
      · rw [ref0]
        repeat (first | (with_reducible refine gd_ok ?_ ?_; focus (first | omega | assumption | ((repeat' refine And.intro ?_ ?_) <;> first | omega | assumption) | fail)) | (with_reducible refine ip_ok ?_ ?_; focus (first | omega | assumption | ((repeat' refine And.intro ?_ ?_) <;> first | omega | assumption) | fail)) | (with_reducible refine in_ok ?_ ?_; focus (first | omega | assumption | ((repeat' refine And.intro ?_ ?_) <;> first | omega | assumption) | fail)) | (rw [so_bd]; try dsimp only))
        all_goals rfl
    · obtain ⟨sc1, go1, ba1, ar1, lb1, hr, hsa, hb⟩ := laysB (z1 := z1) (z2 := z2) (s1 := s1) (s2 := s2) (s3 := s3) (s4 := s4) hN ok hle hmo hst h3
      by_cases cz : cn g b = 0
      · refine ⟨-5, 1, g, b, op, iz, isc, iop, iba, az, ak, a1, a2, a3, stt, kp, Or.inl ⟨?_, Or.inr ⟨rfl, rfl, rfl⟩⟩, ⟨(az, cn g b, bmm g b le mo, stt, kp, was, sc1, go1, ba1, ar1), ?_, rfl, rfl, rfl⟩, hA⟩
        · rw [m_X12_infer]
          repeat (first | (with_reducible refine gd_ok ?_ ?_; focus (first | omega | assumption | ((repeat' refine And.intro ?_ ?_) <;> first | omega | assumption) | fail)) | (with_reducible refine ip_ok ?_ ?_; focus (first | omega | assumption | ((repeat' refine And.intro ?_ ?_) <;> first | omega | assumption) | fail)) | (with_reducible refine in_ok ?_ ?_; focus (first | omega | assumption | ((repeat' refine And.intro ?_ ?_) <;> first | omega | assumption) | fail)) | (rw [op1, so_bd]; try dsimp only) | (rw [hset, so_bd]; try dsimp only) | (rw [so_bd]; try dsimp only))
          all_goals rfl
        · rw [ref0]
          repeat (first | (with_reducible refine gd_ok ?_ ?_; focus (first | omega | assumption | ((repeat' refine And.intro ?_ ?_) <;> first | omega | assumption) | fail)) | (with_reducible refine ip_ok ?_ ?_; focus (first | omega | assumption | ((repeat' refine And.intro ?_ ?_) <;> first | omega | assumption) | fail)) | (with_reducible refine in_ok ?_ ?_; focus (first | omega | assumption | ((repeat' refine And.intro ?_ ?_) <;> first | omega | assumption) | fail)) | (rw [lb1, so_bd]; try dsimp only) | (rw [so_bd]; try dsimp only))
          all_goals rfl
      · have hm1 := bmm_1 ok hle hmo (show 0 < cn g b by omega)
        obtain ⟨w, w1, w2⟩ := remembers_ok (N := N) hN (st := stt) (was := was)
        obtain ⟨ic, io, ib, g1, g2⟩ := gather_ok (N := N) (op := op) (x := x1) (iz := iz) (isc := isc) (iop := iop) (iba := iba) hN ok hb (show 0 < bmm g b le mo by omega) S4 c (fun s q0 q1 => (hop s q0 q1).2) hoc
        have icn := cn_0 op (fun _ => 0)
        have icr : ∀ i, 0 ≤ i → i < cn op (fun _ => 0) → 0 ≤ ic i ∧ ic i < 1000 := fun i i0 i1 => by
          rw [(g2 i i0 i1).1]
          have := cs_in (g := op) (b := fun _ => 0) i0 i1
          exact ⟨this.1, this.2.1⟩
        have ocO : ∀ s, 0 ≤ s → s < 1000 → oc ic io (cn op (fun _ => 0)) s = op s := fun s q0 q1 => oc_rows (fun t t0 t1 nt => by have := (hop t t0 t1).2; omega) (fun j j0 j1 => ⟨(g2 j j0 j1).1, (g2 j j0 j1).2.1⟩) q0 q1
        have ocB : ∀ s, 0 ≤ s → s < 1000 → oc ic ib (cn op (fun _ => 0)) s = infB g b op (bst g b le mo) (bmm g b le mo) x1 s := fun s q0 q1 => oc_rows (fun t t0 t1 nt => by
          have q := inf_bd (op := op) (x := x1) ok hb (show 0 < bmm g b le mo by omega) c (s := t) (hop t t0 t1).2
          have := (hop t t0 t1).2
          omega) (fun j j0 j1 => ⟨(g2 j j0 j1).1, (g2 j j0 j1).2.2⟩) q0 q1
        obtain ⟨G, B, O, m1, m2⟩ := imove_ok (N := N) (isc := ic) (iop := io) (iba := ib) (iz := cn op (fun _ => 0)) (sign := 1) (g0 := g) (b0 := b) (o0 := op) hN ⟨icn, hoc⟩ icr
        obtain ⟨t1, hI, e1⟩ := infer_lp (N := N) (stt := stt) (op := op) (km := az) (n := sI op 1000) (kp := kp) (w := w) hN ok hr hb (show 0 < bmm g b le mo by omega) hsa c hop N stt 0 (Int.le_refl 0) (by decide) ⟨fun s q0 q1 => ⟨fun z => by omega, fun _ => ⟨rfl, rfl, rfl⟩⟩, fun k _ _ => rfl⟩ (by omega)
        obtain ⟨hI1, hI2⟩ := hI
        have hI1 : ∀ s, 0 ≤ s → s < 1000 → t1 s = stt s + (stt (2000 + s) - infB g b op (bst g b le mo) (bmm g b le mo) x1 s) ∧ t1 (1000 + s) = stt (1000 + s) + infB g b op (bst g b le mo) (bmm g b le mo) x1 s ∧ t1 (2000 + s) = 0 := fun s q0 q1 => (hI1 s q0 q1).1 q1
        have mv : ∀ s, 0 ≤ s → s < 1000 → G s = g s + (op s - infB g b op (bst g b le mo) (bmm g b le mo) x1 s) ∧ B s = b s + infB g b op (bst g b le mo) (bmm g b le mo) x1 s ∧ O s = 0 := fun s q0 q1 => by
          obtain ⟨x1', x2', x3'⟩ := m2 s
          rw [ocO s q0 q1, ocB s q0 q1, Int.one_mul] at x1'
          rw [ocB s q0 q1, Int.one_mul] at x2'
          rw [ocO s q0 q1, Int.one_mul] at x3'
          exact ⟨x1', x2', by omega⟩
        have hsA : StA t1 G B := fun s q0 q1 => by
          obtain ⟨y1, y2, -⟩ := hI1 s q0 q1
          obtain ⟨x1', x2', -⟩ := mv s q0 q1
          obtain ⟨p1, p2, p3⟩ := hP.1 s q0 q1
          rw [y1, y2, x1', x2', p1, p2, p3]
          exact ⟨rfl, rfl⟩
        obtain ⟨v, f1, f2, f3⟩ := fits_ok (N := N) hN hsA (fun s q0 q1 => by
          obtain ⟨x1', x2', -⟩ := mv s q0 q1
          have := hF.1 s q0 q1
          have := (hop s q0 q1).2
          have q := inf_bd (op := op) (x := x1) ok hb (show 0 < bmm g b le mo by omega) c (s := s) (hop s q0 q1).2
          omega)
        have n7 : ∀ j, 0 ≤ j → j < az → ak j ≠ 7 := fun j j0 j1 j7 => n0 (by
          have e : sI op 1000 = sI (fun _ => 0) 1000 := sI_congr (fun s q0 q1 => by
            have q := hC.2.2.2.1 j az j0 j1 (Int.le_refl _) j7 s q0 q1
            rw [Sq_n (by omega), nrm_at (by omega) (by omega), (hop s q0 q1).1] at q
            exact q)
          rw [e, sI_zero (by decide)])
        have hw1 : ∀ k, 0 ≤ k → k < 3206 → rI (w k) := fun k k0 k1 => by rw [w2 k k0 k1]; exact hV.r k0 k1
        have ref : ∀ q1 q2 q3 q4, m_X13_ends N w az t1 kp (sI op 1000) = some (q1, q2, q3, q4) → m_X13_infer N az z1 z2 stt kp was s1 s2 s3 s4 x1 = some (q1, q2, cn g b, bmm g b le mo, q3, q4, w, sc1, go1, ba1, ar1) := by
          intro q1 q2 q3 q4 hq
          rw [ref0]
          repeat (first | (with_reducible refine gd_ok ?_ ?_; focus (first | omega | assumption | ((repeat' refine And.intro ?_ ?_) <;> first | omega | assumption) | fail)) | (with_reducible refine ip_ok ?_ ?_; focus (first | omega | assumption | ((repeat' refine And.intro ?_ ?_) <;> first | omega | assumption) | fail)) | (with_reducible refine in_ok ?_ ?_; focus (first | omega | assumption | ((repeat' refine And.intro ?_ ?_) <;> first | omega | assumption) | fail)) | (rw [lb1, so_bd]; try dsimp only) | (rw [w1, so_bd]; try dsimp only) | (rw [so_bd]; try dsimp only))
          rw [e1]
          repeat (first | (with_reducible refine gd_ok ?_ ?_; focus (first | omega | assumption | ((repeat' refine And.intro ?_ ?_) <;> first | omega | assumption) | fail)) | (with_reducible refine ip_ok ?_ ?_; focus (first | omega | assumption | ((repeat' refine And.intro ?_ ?_) <;> first | omega | assumption) | fail)) | (with_reducible refine in_ok ?_ ?_; focus (first | omega | assumption | ((repeat' refine And.intro ?_ ?_) <;> first | omega | assumption) | fail)) | (rw [hq, so_bd]; try dsimp only) | (rw [so_bd]; try dsimp only))
          all_goals rfl
        rcases f3 with ⟨ev, nF⟩ | ⟨ev, yF⟩
        · rw [ev] at f1 f2
          obtain ⟨st2, u1, u2⟩ := forgets_ok (N := N) hN (st := t1) (was := w)
          obtain ⟨G2, B2, O2, x1', x2'⟩ := imove_ok (N := N) (isc := ic) (iop := io) (iba := ib) (iz := cn op (fun _ => 0)) (sign := -1) (g0 := G) (b0 := B) (o0 := O) hN ⟨icn, hoc⟩ icr
          have eg : G2 = g := by
            funext k
            have a1 := (x2' k).1
            have a2 := (m2 k).1
            rw [Int.neg_mul] at a1
            omega
          have eb : B2 = b := by
            funext k
            have a1 := (x2' k).2.1
            have a2 := (m2 k).2.1
            rw [Int.neg_mul] at a1
            omega
          have eO : O2 = op := by
            funext k
            have a1 := (x2' k).2.2
            have a2 := (m2 k).2.2
            rw [Int.neg_mul] at a1
            omega
          rw [eg, eb, eO] at x1'
          refine ⟨-5, 1, g, b, op, cn op (fun _ => 0), ic, io, ib, az, ak, a1, a2, a3, st2, kp, Or.inl ⟨?_, Or.inr ⟨rfl, rfl, rfl⟩⟩, ⟨(az, cn g b, bmm g b le mo, st2, kp, w, sc1, go1, ba1, ar1), ref _ _ _ _ ?_, rfl, rfl, rfl⟩, ARel.congr (st := stt) ⟨hV, hP, hD, hC.inf n7, hl, hdl⟩ (fun k k0 k1 => (u2 k k0 k1).trans (w2 k k0 k1))⟩
          · rw [m_X12_infer]
            repeat (first | (with_reducible refine gd_ok ?_ ?_; focus (first | omega | assumption | ((repeat' refine And.intro ?_ ?_) <;> first | omega | assumption) | fail)) | (with_reducible refine ip_ok ?_ ?_; focus (first | omega | assumption | ((repeat' refine And.intro ?_ ?_) <;> first | omega | assumption) | fail)) | (with_reducible refine in_ok ?_ ?_; focus (first | omega | assumption | ((repeat' refine And.intro ?_ ?_) <;> first | omega | assumption) | fail)) | (rw [op1, so_bd]; try dsimp only) | (rw [hset, so_bd]; try dsimp only) | (rw [g1, so_bd]; try dsimp only) | (rw [m1, so_bd]; try dsimp only) | (rw [f1, so_bd]; try dsimp only) | (rw [x1', so_bd]; try dsimp only) | (rw [so_bd]; try dsimp only))
            all_goals rfl
          · rw [m_X13_ends]
            repeat (first | (with_reducible refine gd_ok ?_ ?_; focus (first | omega | assumption | ((repeat' refine And.intro ?_ ?_) <;> first | omega | assumption) | fail)) | (with_reducible refine ip_ok ?_ ?_; focus (first | omega | assumption | ((repeat' refine And.intro ?_ ?_) <;> first | omega | assumption) | fail)) | (with_reducible refine in_ok ?_ ?_; focus (first | omega | assumption | ((repeat' refine And.intro ?_ ?_) <;> first | omega | assumption) | fail)) | (rw [f2, so_bd]; try dsimp only) | (rw [u1, so_bd]; try dsimp only) | (rw [so_bd]; try dsimp only))
            all_goals rfl
        · rw [ev] at f1 f2
          have oz : ∀ s, 0 ≤ s → s < 1000 → t1 (2000 + s) = 0 := fun s q0 q1 => (hI1 s q0 q1).2.2
          have hV1 : StV t1 := by
            obtain ⟨h1, h2, h3', h4, h5, h6⟩ := hV
            have e0 := hI2 3200 (by decide) (by decide)
            refine ⟨yF.of (fun s q0 q1 => hsA s q0 q1), ⟨fun s q0 q1 => by rw [oz s q0 q1]; decide, ?_⟩, ?_, by rw [e0]; exact h4, fun k k0 k1 => by rw [hI2 k k0 (by omega)]; exact h5 k k0 k1, fun i i0 i1 => ?_⟩
            · have q : cn (fun s => t1 (2000 + s)) (fun _ => 0) = 0 := (rwN_congr (g := fun _ => 0) (b := fun _ => 0) 1000 (fun s q0 q1 => ⟨oz s q0 (by omega), rfl⟩)).trans (rwN_none 1000)
              rw [q]; decide
            · rw [hI2 3201 (by decide) (by decide), hI2 3202 (by decide) (by decide), hI2 3203 (by decide) (by decide), hI2 3204 (by decide) (by decide), hI2 3205 (by decide) (by decide)]
              exact h3'
            · rw [e0] at i1
              rw [hI2 (3000 + 5 * i) (by omega) (by omega), hI2 (3000 + 5 * i + 3) (by omega) (by omega), hI2 (3000 + 5 * i + 4) (by omega) (by omega)]
              exact h6 i i0 i1
          obtain ⟨az', b1, b2, b3, b4, q0, q1, q2, q3, q4⟩ := acted_ok (N := N) (sd := 1) (n := az) (v1 := 7) (v2 := 0) (v3 := 0) (v4 := 0) (k1 := ak) (k2 := a1) (k3 := a2) (k4 := a3) hC.1
          have dif : ∃ d, (0 ≤ d ∧ d < 3206) ∧ ¬ t1 d = w d := by
            rcases fst_or (fun s => 0 < op s) 1000 with ⟨s, q0, q1, -⟩ | hh
            · refine ⟨2000 + s, by omega, ?_⟩
              rw [w2 _ (by omega) (by omega), oz s q0.1 (by omega), (hop s q0.1 (by omega)).1]
              have q1 : 0 < op s := q1
              omega
            · exact absurd (by
                have e : sI op 1000 = sI (fun _ => 0) 1000 := sI_congr (fun s q0 q1 => by
                  have := hh s q0 q1
                  have := (hop s q0 q1).2
                  omega)
                rw [e, sI_zero (by decide)]) n0
          obtain ⟨d, d1, d2⟩ := dif
          obtain ⟨km', kp', k1, k2⟩ := keeps_ok (N := N) (kp := kp) hN hC.1 (fun k k0 k1 => ⟨hV1.r k0 k1, hw1 k k0 k1⟩) d1 d2
          have ekm : km' = az' := by
            have hn := hC.1
            by_cases z : az < 10
            · have := (k2.1 z).1; have := (q1.1 z).1; omega
            · have := (k2.2 (by omega)).1; have := (q1.2 (by omega)).1; omega
          rw [ekm] at k1 k2
          have hL : Link dl (cn op (fun _ => 0)) ic io ib 7 0 0 0 (nrm stt) (nrm t1) := by
            refine Or.inr (Or.inr (Or.inr (Or.inr (Or.inr (Or.inr ⟨rfl, ⟨⟨icn, hoc⟩, icr⟩, fun s q0 q1 => ?_, fun x x0 x9 => ?_⟩)))))
            · rw [nrm_at (by omega) (by omega), nrm_at (by omega) (by omega), nrm_at (by omega) (by omega), nrm_at (by omega) (by omega), nrm_at (by omega) (by omega), nrm_at (by omega) (by omega), ocO s q0 q1, ocB s q0 q1, oz s q0 q1, (hI1 s q0 q1).1, (hI1 s q0 q1).2.1, (hop s q0 q1).1]
              exact ⟨rfl, rfl, by omega, by omega⟩
            · rw [nrm_at (by omega) x9, nrm_at (by omega) x9, hI2 x x0 x9]
          have hC' := hC.push hV (ln' := ln) k2 w2 q1 q2 q3 q4 hL (by rw [hI2 3200 (by decide) (by decide)]; exact Int.le_refl _) (fun _ s q0 q1 => oz s q0 q1) ⟨Int.le_refl _, fun q => by omega⟩ (fun j j0 j1 q => q.inf (n7 j j0 j1))
          refine ⟨sI op 1000, 0, G, B, O, cn op (fun _ => 0), ic, io, ib, az', b1, b2, b3, b4, t1, kp', Or.inl ⟨?_, Or.inl rfl⟩, ⟨(az', cn g b, bmm g b le mo, t1, kp', w, sc1, go1, ba1, ar1), ref _ _ _ _ ?_, rfl, rfl, rfl⟩, ⟨hV1, ⟨fun s q0 q1 => ⟨(hsA s q0 q1).1, (hsA s q0 q1).2, ?_⟩, ?_⟩, ⟨by rw [hI2 3200 (by decide) (by decide)]; exact hD.1, fun i i0 i1 => ?_⟩, hC', hl, hdl⟩⟩
          · rw [m_X12_infer]
            repeat (first | (with_reducible refine gd_ok ?_ ?_; focus (first | omega | assumption | ((repeat' refine And.intro ?_ ?_) <;> first | omega | assumption) | fail)) | (with_reducible refine ip_ok ?_ ?_; focus (first | omega | assumption | ((repeat' refine And.intro ?_ ?_) <;> first | omega | assumption) | fail)) | (with_reducible refine in_ok ?_ ?_; focus (first | omega | assumption | ((repeat' refine And.intro ?_ ?_) <;> first | omega | assumption) | fail)) | (rw [op1, so_bd]; try dsimp only) | (rw [hset, so_bd]; try dsimp only) | (rw [g1, so_bd]; try dsimp only) | (rw [m1, so_bd]; try dsimp only) | (rw [f1, so_bd]; try dsimp only) | (rw [q0, so_bd]; try dsimp only) | (rw [so_bd]; try dsimp only))
            all_goals rfl
          · rw [m_X13_ends]
            repeat (first | (with_reducible refine gd_ok ?_ ?_; focus (first | omega | assumption | ((repeat' refine And.intro ?_ ?_) <;> first | omega | assumption) | fail)) | (with_reducible refine ip_ok ?_ ?_; focus (first | omega | assumption | ((repeat' refine And.intro ?_ ?_) <;> first | omega | assumption) | fail)) | (with_reducible refine in_ok ?_ ?_; focus (first | omega | assumption | ((repeat' refine And.intro ?_ ?_) <;> first | omega | assumption) | fail)) | (rw [f2, so_bd]; try dsimp only) | (rw [k1, so_bd]; try dsimp only) | (rw [so_bd]; try dsimp only))
            all_goals rfl
          · rw [oz s q0 q1, (mv s q0 q1).2.2]
          · rw [hI2 3201 (by decide) (by decide), hI2 3202 (by decide) (by decide), hI2 3203 (by decide) (by decide), hI2 3204 (by decide) (by decide), hI2 3205 (by decide) (by decide)]
            exact hP.2
          · have hz := hV.2.2.2.1
            have ez := hD.1
            rw [hI2 (3000 + 5 * i) (by omega) (by omega), hI2 (3000 + 5 * i + 1) (by omega) (by omega), hI2 (3000 + 5 * i + 2) (by omega) (by omega), hI2 (3000 + 5 * i + 3) (by omega) (by omega), hI2 (3000 + 5 * i + 4) (by omega) (by omega)]
            exact hD.2 i i0 i1
  · refine ⟨-2, sd, g, b, op, iz, isc, iop, iba, az, ak, a1, a2, a3, stt, kp, Or.inr ⟨?_, rfl, rfl, rfl⟩, ⟨(az, z1, z2, stt, kp, was, s1, s2, s3, s4), ?_, rfl, rfl, rfl⟩, hA⟩
    · rw [m_X12_infer]
      by_cases d : x1 < 0
      · repeat (first | (with_reducible refine gd_ok ?_ ?_; focus (first | omega | assumption | ((repeat' refine And.intro ?_ ?_) <;> first | omega | assumption) | fail)) | (with_reducible refine ip_ok ?_ ?_; focus (first | omega | assumption | ((repeat' refine And.intro ?_ ?_) <;> first | omega | assumption) | fail)) | (with_reducible refine in_ok ?_ ?_; focus (first | omega | assumption | ((repeat' refine And.intro ?_ ?_) <;> first | omega | assumption) | fail)) | (rw [so_bd]; try dsimp only))
        all_goals rfl
      · repeat (first | (with_reducible refine gd_ok ?_ ?_; focus (first | omega | assumption | ((repeat' refine And.intro ?_ ?_) <;> first | omega | assumption) | fail)) | (with_reducible refine ip_ok ?_ ?_; focus (first | omega | assumption | ((repeat' refine And.intro ?_ ?_) <;> first | omega | assumption) | fail)) | (with_reducible refine in_ok ?_ ?_; focus (first | omega | assumption | ((repeat' refine And.intro ?_ ?_) <;> first | omega | assumption) | fail)) | (rw [so_bd]; try dsimp only))
        all_goals rfl
    · rw [m_X13_infer]
      repeat (first | (with_reducible refine gd_ok ?_ ?_; focus (first | omega | assumption | ((repeat' refine And.intro ?_ ?_) <;> first | omega | assumption) | fail)) | (with_reducible refine ip_ok ?_ ?_; focus (first | omega | assumption | ((repeat' refine And.intro ?_ ?_) <;> first | omega | assumption) | fail)) | (with_reducible refine in_ok ?_ ?_; focus (first | omega | assumption | ((repeat' refine And.intro ?_ ?_) <;> first | omega | assumption) | fail)) | (rw [isMille0 hx1 c, so_bd]; try dsimp only) | (rw [so_bd]; try dsimp only))
      all_goals rfl
end
