/-! acts: a new decision -/
theorem dadv_ok {N : Nat} {l u x : Int} (hl : rI l) (hu : rI u) (hx : rI x) : ∃ v, (0 ≤ v ∧ v ≤ 2) ∧ m_X11_advice N l u x = some v ∧ ∀ {stt s1 s2 s3 s4 t1 t2 t3 t4 : Int → Int} {z z' o1 o2 o3 k : Int}, m_X13_laysTwo N stt z o1 o2 o3 s1 s2 s3 s4 = some (z', l, u, k, t1, t2, t3, t4) → m_X13_advice N stt z o1 o2 o3 s1 s2 s3 s4 x = some (v, z', l, u, k, t1, t2, t3, t4) := by
  by_cases c : l ≤ x
  · by_cases d : u ≤ x
    · refine ⟨2, ⟨by decide, by decide⟩, ?_, fun {stt s1 s2 s3 s4 t1 t2 t3 t4 z z' o1 o2 o3 k} h => ?_⟩
      · rw [m_X11_advice]
        repeat (first | (with_reducible refine gd_ok ?_ ?_; focus (first | omega | assumption | ((repeat' refine And.intro ?_ ?_) <;> first | omega | assumption) | fail)) | (with_reducible refine ip_ok ?_ ?_; focus (first | omega | assumption | ((repeat' refine And.intro ?_ ?_) <;> first | omega | assumption) | fail)) | (with_reducible refine in_ok ?_ ?_; focus (first | omega | assumption | ((repeat' refine And.intro ?_ ?_) <;> first | omega | assumption) | fail)) | (rw [so_bd]; try dsimp only))
        all_goals rfl
      · rw [m_X13_advice]
        repeat (first | (with_reducible refine gd_ok ?_ ?_; focus (first | omega | assumption | ((repeat' refine And.intro ?_ ?_) <;> first | omega | assumption) | fail)) | (with_reducible refine ip_ok ?_ ?_; focus (first | omega | assumption | ((repeat' refine And.intro ?_ ?_) <;> first | omega | assumption) | fail)) | (with_reducible refine in_ok ?_ ?_; focus (first | omega | assumption | ((repeat' refine And.intro ?_ ?_) <;> first | omega | assumption) | fail)) | (rw [h, so_bd]; try dsimp only) | (rw [so_bd]; try dsimp only))
        all_goals rfl
    · refine ⟨1, ⟨by decide, by decide⟩, ?_, fun {stt s1 s2 s3 s4 t1 t2 t3 t4 z z' o1 o2 o3 k} h => ?_⟩
      · rw [m_X11_advice]
        repeat (first | (with_reducible refine gd_ok ?_ ?_; focus (first | omega | assumption | ((repeat' refine And.intro ?_ ?_) <;> first | omega | assumption) | fail)) | (with_reducible refine ip_ok ?_ ?_; focus (first | omega | assumption | ((repeat' refine And.intro ?_ ?_) <;> first | omega | assumption) | fail)) | (with_reducible refine in_ok ?_ ?_; focus (first | omega | assumption | ((repeat' refine And.intro ?_ ?_) <;> first | omega | assumption) | fail)) | (rw [so_bd]; try dsimp only))
        all_goals rfl
      · rw [m_X13_advice]
        repeat (first | (with_reducible refine gd_ok ?_ ?_; focus (first | omega | assumption | ((repeat' refine And.intro ?_ ?_) <;> first | omega | assumption) | fail)) | (with_reducible refine ip_ok ?_ ?_; focus (first | omega | assumption | ((repeat' refine And.intro ?_ ?_) <;> first | omega | assumption) | fail)) | (with_reducible refine in_ok ?_ ?_; focus (first | omega | assumption | ((repeat' refine And.intro ?_ ?_) <;> first | omega | assumption) | fail)) | (rw [h, so_bd]; try dsimp only) | (rw [so_bd]; try dsimp only))
        all_goals rfl
  · refine ⟨0, ⟨by decide, by decide⟩, ?_, fun {stt s1 s2 s3 s4 t1 t2 t3 t4 z z' o1 o2 o3 k} h => ?_⟩
    · rw [m_X11_advice]
      repeat (first | (with_reducible refine gd_ok ?_ ?_; focus (first | omega | assumption | ((repeat' refine And.intro ?_ ?_) <;> first | omega | assumption) | fail)) | (with_reducible refine ip_ok ?_ ?_; focus (first | omega | assumption | ((repeat' refine And.intro ?_ ?_) <;> first | omega | assumption) | fail)) | (with_reducible refine in_ok ?_ ?_; focus (first | omega | assumption | ((repeat' refine And.intro ?_ ?_) <;> first | omega | assumption) | fail)) | (rw [so_bd]; try dsimp only))
      all_goals rfl
    · rw [m_X13_advice]
      repeat (first | (with_reducible refine gd_ok ?_ ?_; focus (first | omega | assumption | ((repeat' refine And.intro ?_ ?_) <;> first | omega | assumption) | fail)) | (with_reducible refine ip_ok ?_ ?_; focus (first | omega | assumption | ((repeat' refine And.intro ?_ ?_) <;> first | omega | assumption) | fail)) | (with_reducible refine in_ok ?_ ?_; focus (first | omega | assumption | ((repeat' refine And.intro ?_ ?_) <;> first | omega | assumption) | fail)) | (rw [h, so_bd]; try dsimp only) | (rw [so_bd]; try dsimp only))
      all_goals rfl
section
variable {N : Nat} {g b stt : Int → Int} {le mo sp run run' : Int} {sd rz pz bz : Int} {rsc rgo rba rgA rbA ple pgr pgo pba pri ble bgr bgo bba bri : Int → Int} {rsc' rgo' rba' rgA' rbA' ple' pgr' pgo' pba' pri' ble' bgr' bgo' bba' bri' : Int → Int} {z1 z2 : Int} {s1 s2 s3 s4 : Int → Int}
variable {op ds dc da dr dl isc iop iba ak a1 a2 a3 kp was : Int → Int} {gc bc rc dz ln iz az l u t o1 o2 o3 : Int}
set_option maxHeartbeats 8000000 in
theorem s_decide (hN : 40000 ≤ N) (ok : okP g b) (hle : 0 ≤ le ∧ le ≤ 9999) (hmo : 1 ≤ mo ∧ mo ≤ 60) (hset : m_X12_settle N le mo g b sp sd rz rsc rgo rba rgA rbA pz ple pgr pgo pba pri bz ble bgr bgo bba bri run = some (1, cn g b, rsc', rgo', rba', rgA', rbA', pmm g b, ple', pgr', pgo', pba', pri', bmm g b le mo, ble', bgr', bgo', bba', bri', run')) (hS : Stl g b le mo rsc' rgo' rba' rgA' rbA' ple' pgr' pgo' pba' pri' ble' bgr' bgo' bba' bri') (h : ARel stt le mo gc bc rc g b op dz ds dc da dr dl ln iz isc iop iba az ak a1 a2 a3 kp) {x1 x2 : Int} (hx1 : rI x1) (hx2 : rI x2) : ∃ a l' u' t' dz' ds' dc' da' dr' dl' az' ak' a1' a2' a3' st' kp', (m_X12_decide N le mo gc bc rc g b sp sd rz rsc rgo rba rgA rbA pz ple pgr pgo pba pri bz ble bgr bgo bba bri l u t dz ds dc da dr dl az ak a1 a2 a3 run x1 x2 = some (a, 0, cn g b, rsc', rgo', rba', rgA', rbA', pmm g b, ple', pgr', pgo', pba', pri', bmm g b le mo, ble', bgr', bgo', bba', bri', l', u', t', dz', ds', dc', da', dr', dl', az', ak', a1', a2', a3', run') ∨ m_X12_decide N le mo gc bc rc g b sp sd rz rsc rgo rba rgA rbA pz ple pgr pgo pba pri bz ble bgr bgo bba bri l u t dz ds dc da dr dl az ak a1 a2 a3 run x1 x2 = some (a, sd, rz, rsc, rgo, rba, rgA, rbA, pz, ple, pgr, pgo, pba, pri, bz, ble, bgr, bgo, bba, bri, l', u', t', dz', ds', dc', da', dr', dl', az', ak', a1', a2', a3', run)) ∧ (∃ r, m_X13_decide N az z1 o1 o2 o3 stt kp was s1 s2 s3 s4 x1 x2 = some (a, r) ∧ r.1 = az' ∧ r.2.2.2.2.2.1 = st' ∧ r.2.2.2.2.2.2.1 = kp') ∧ ARel st' le mo gc bc rc g b op dz' ds' dc' da' dr' dl' ln iz isc iop iba az' ak' a1' a2' a3' kp' := by
  have hA := h
  obtain ⟨hV, hP, hD, hC, hl, hdl⟩ := h
  have hz := hV.2.2.2.1
  have ez := hD.1
  have hR := hV.2.2.1
  obtain ⟨-, r1, r2, r3, r4, r5⟩ := id hP
  rw [r3, r4, r5] at hR
  rw [ez] at hz
  obtain ⟨hn, hbm, hpm⟩ := le_mo ok hle hmo
  obtain ⟨S1, S2, S3, S4⟩ := hS
  by_cases c1 : 0 ≤ x1 ∧ x1 < 1000
  · have i1 := isScore1 (N := N) c1
    by_cases c2 : 0 ≤ x2 ∧ x2 ≤ 2
    · have i2 := in1 (N := N) (v := x2) (lo := 0) (hi := 2) (rI_L hx2) ⟨by decide, by decide⟩ ⟨by decide, by decide⟩ c2
      by_cases c3 : dz = 40
      · have hr0 : m_X2_hasRoom N dz = some 0 := by
          rw [m_X2_hasRoom]
          repeat (first | (with_reducible refine gd_ok ?_ ?_; focus (first | omega | assumption | ((repeat' refine And.intro ?_ ?_) <;> first | omega | assumption) | fail)) | (with_reducible refine ip_ok ?_ ?_; focus (first | omega | assumption | ((repeat' refine And.intro ?_ ?_) <;> first | omega | assumption) | fail)) | (with_reducible refine in_ok ?_ ?_; focus (first | omega | assumption | ((repeat' refine And.intro ?_ ?_) <;> first | omega | assumption) | fail)) | (rw [so_bd]; try dsimp only))
          all_goals rfl
        refine ⟨-5, l, u, t, dz, ds, dc, da, dr, dl, az, ak, a1, a2, a3, stt, kp, Or.inr ?_, ⟨(az, z1, o1, o2, o3, stt, kp, was, s1, s2, s3, s4), ?_, rfl, rfl, rfl⟩, hA⟩
        · rw [m_X12_decide]
          repeat (first | (with_reducible refine gd_ok ?_ ?_; focus (first | omega | assumption | ((repeat' refine And.intro ?_ ?_) <;> first | omega | assumption) | fail)) | (with_reducible refine ip_ok ?_ ?_; focus (first | omega | assumption | ((repeat' refine And.intro ?_ ?_) <;> first | omega | assumption) | fail)) | (with_reducible refine in_ok ?_ ?_; focus (first | omega | assumption | ((repeat' refine And.intro ?_ ?_) <;> first | omega | assumption) | fail)) | (rw [i1.1, so_bd]; try dsimp only) | (rw [hr0, so_bd]; try dsimp only) | (rw [so_bd]; try dsimp only))
          all_goals rfl
        · rw [m_X13_decide, ez]
          repeat (first | (with_reducible refine gd_ok ?_ ?_; focus (first | omega | assumption | ((repeat' refine And.intro ?_ ?_) <;> first | omega | assumption) | fail)) | (with_reducible refine ip_ok ?_ ?_; focus (first | omega | assumption | ((repeat' refine And.intro ?_ ?_) <;> first | omega | assumption) | fail)) | (with_reducible refine in_ok ?_ ?_; focus (first | omega | assumption | ((repeat' refine And.intro ?_ ?_) <;> first | omega | assumption) | fail)) | (rw [i1.2, so_bd]; try dsimp only) | (rw [i2, so_bd]; try dsimp only) | (rw [so_bd]; try dsimp only))
          all_goals rfl
      · have hr1 : m_X2_hasRoom N dz = some 1 := by
          rw [m_X2_hasRoom]
          repeat (first | (with_reducible refine gd_ok ?_ ?_; focus (first | omega | assumption | ((repeat' refine And.intro ?_ ?_) <;> first | omega | assumption) | fail)) | (with_reducible refine ip_ok ?_ ?_; focus (first | omega | assumption | ((repeat' refine And.intro ?_ ?_) <;> first | omega | assumption) | fail)) | (with_reducible refine in_ok ?_ ?_; focus (first | omega | assumption | ((repeat' refine And.intro ?_ ?_) <;> first | omega | assumption) | fail)) | (rw [so_bd]; try dsimp only))
          all_goals rfl
        obtain ⟨w, w1, w2⟩ := remembers_ok (N := N) hN (st := stt) (was := was)
        obtain ⟨i, j, e1, hB⟩ := seek_ok (N := N) (l := l) (u := u) (t := t) hN ok S1 S2 hR.2.2.1 hR.2.2.2.1 hR.2.2.2.2
        have ci := cutB_in (g := g) (b := b) (i := i) ⟨hB.1.1, by have := hB.1; omega⟩
        have cj := cutB_in (g := g) (b := b) (i := j) ⟨by have := hB.1; omega, hB.1.2.2⟩
        obtain ⟨v, hv, d1, d2⟩ := dadv_ok (N := N) (l := cutB g b i) (u := cutB g b j) (x := x1) ⟨by omega, by omega⟩ ⟨by omega, by omega⟩ hx1
        obtain ⟨s0, hs0⟩ : ∃ s, s = uP (uP stt (3000 + 5 * dz) x1) (3000 + 5 * dz + 1) x2 := ⟨_, rfl⟩
        have n0 : ∀ k, k ≠ 3000 + 5 * dz → k ≠ 3000 + 5 * dz + 1 → s0 k = stt k := fun k y1 y2 => by rw [hs0, uP_o _ _ y2, uP_o _ _ y1]
        have hst0 : StA s0 g b := fun s q0 q1 => by
          rw [n0 s (by omega) (by omega), n0 (1000 + s) (by omega) (by omega)]
          exact hP.st s q0 q1
        obtain ⟨y1, y2, y3, y4, e2⟩ := laysTwo_ok (N := N) (stt := s0) (z := z1) (sc := s1) (go := s2) (ba := s3) (bl := s4) (t1 := o1) (t2 := o2) (t3 := o3) (gc := gc) (bc := bc) (rc := rc) hN ok hst0 ⟨by rw [n0 3203 (by omega) (by omega)]; exact r3, by rw [n0 3204 (by omega) (by omega)]; exact r4, by rw [n0 3205 (by omega) (by omega)]; exact r5⟩ hR.2.2.1 hR.2.2.2.1 hR.2.2.2.2 hB
        have e3 := d2 e2
        obtain ⟨s5, hs5⟩ : ∃ s, s = uP (uP (uP s0 (3000 + 5 * dz + 2) v) (3000 + 5 * dz + 3) (-1)) (3000 + 5 * dz + 4) 0 := ⟨_, rfl⟩
        obtain ⟨s6, hs6⟩ : ∃ s, s = uP s5 3200 (s5 3200 + 1) := ⟨_, rfl⟩
        have m5 : s5 3200 = dz := by rw [hs5, uP_o _ _ (by omega), uP_o _ _ (by omega), uP_o _ _ (by omega), n0 3200 (by omega) (by omega), ez]
        have v0 : s6 (3000 + 5 * dz) = x1 := by rw [hs6, uP_o _ _ (by omega), hs5, uP_o _ _ (by omega), uP_o _ _ (by omega), uP_o _ _ (by omega), hs0, uP_o _ _ (by omega), uP_s]
        have v1 : s6 (3000 + 5 * dz + 1) = x2 := by rw [hs6, uP_o _ _ (by omega), hs5, uP_o _ _ (by omega), uP_o _ _ (by omega), uP_o _ _ (by omega), hs0, uP_s]
        have v2 : s6 (3000 + 5 * dz + 2) = v := by rw [hs6, uP_o _ _ (by omega), hs5, uP_o _ _ (by omega), uP_o _ _ (by omega), uP_s]
        have v3 : s6 (3000 + 5 * dz + 3) = -1 := by rw [hs6, uP_o _ _ (by omega), hs5, uP_o _ _ (by omega), uP_s]
        have v4 : s6 (3000 + 5 * dz + 4) = 0 := by rw [hs6, uP_o _ _ (by omega), hs5, uP_s]
        have v5 : s6 3200 = dz + 1 := by rw [hs6, uP_s, m5]
        have v6 : ∀ k, k ≠ 3200 → (k < 3000 + 5 * dz ∨ 3000 + 5 * dz + 5 ≤ k) → s6 k = stt k := fun k q1 q2 => by
          rw [hs6, uP_o _ _ q1, hs5, uP_o _ _ (by omega), uP_o _ _ (by omega), uP_o _ _ (by omega), n0 k (by omega) (by omega)]
        have hV1 : StV s6 := hV.dec (hV.1.of (fun s q0 q1 => ⟨v6 s (by omega) (by omega), v6 (1000 + s) (by omega) (by omega)⟩)) (fun k k0 k1 => v6 k (by omega) (by omega)) (fun k k0 k1 => v6 k (by omega) (by omega)) (by rw [v5]; omega) (fun k k0 k1 => by
          by_cases q : k < 3000 + 5 * dz ∨ 3000 + 5 * dz + 5 ≤ k
          · rw [v6 k (by omega) q]; exact hV.2.2.2.2.1 k k0 k1
          · rcases (by omega : k = 3000 + 5 * dz ∨ k = 3000 + 5 * dz + 1 ∨ k = 3000 + 5 * dz + 2 ∨ k = 3000 + 5 * dz + 3 ∨ k = 3000 + 5 * dz + 4) with e | e | e | e | e
            · rw [e, v0]; omega
            · rw [e, v1]; omega
            · rw [e, v2]; omega
            · rw [e, v3]; omega
            · rw [e, v4]; omega) (fun i i0 i1 => by
          rw [v5] at i1
          by_cases e : i = dz
          · rw [e, v0, v3, v4]
            exact ⟨c1, Or.inl rfl, Or.inl rfl⟩
          · rw [v6 (3000 + 5 * i) (by omega) (by omega), v6 (3000 + 5 * i + 3) (by omega) (by omega), v6 (3000 + 5 * i + 4) (by omega) (by omega)]
            exact hV.2.2.2.2.2 i i0 (by omega))
        have hL : Link (uP dl dz 0) iz isc iop iba 4 0 0 0 (nrm stt) (nrm s6) := by
          refine Or.inr (Or.inr (Or.inr (Or.inl ⟨rfl, ?_, fun x q0 q9 y1 y2 => ?_⟩)))
          · rw [nrm_at (by decide) (by decide), nrm_at (by decide) (by decide), v5, ez]
          · rw [nrm_at (by decide) (by decide), ez] at y2
            rw [nrm_at q0 q9, nrm_at q0 q9, v6 x y1 y2]
        obtain ⟨az', ak', a1', a2', a3', kp', q1, q2, q3⟩ := act_dec (N := N) (sd := 1) (ds1 := uP ds dz x1) (dc1 := uP dc dz x2) (da1 := uP da dz v) (dr1 := uP dr dz (-1)) (dl1 := uP dl dz 0) (dz1 := dz + 1) (ln1 := ln) (g1 := g) (b1 := b) hN hA (v1 := 4) (by decide) w2 (fun s q0 q1 => by rw [v6 s (by omega) (by omega), v6 (1000 + s) (by omega) (by omega)]; exact hP.st s q0 q1) (fun k k0 k1 => v6 k (by omega) (by omega)) (fun k k0 k1 => v6 k (by omega) (by omega)) hV1 ⟨v5, fun i i0 i1 => by
          by_cases e : i = dz
          · rw [e, v0, v1, v2, v3, v4, uP_s, uP_s, uP_s, uP_s, uP_s]
            exact ⟨rfl, rfl, rfl, rfl, rfl⟩
          · rw [v6 (3000 + 5 * i) (by omega) (by omega), v6 (3000 + 5 * i + 1) (by omega) (by omega), v6 (3000 + 5 * i + 2) (by omega) (by omega), v6 (3000 + 5 * i + 3) (by omega) (by omega), v6 (3000 + 5 * i + 4) (by omega) (by omega), uP_o _ _ e, uP_o _ _ e, uP_o _ _ e, uP_o _ _ e, uP_o _ _ e]
            exact hD.2 i i0 (by omega)⟩ (by omega) hL ⟨⟨Int.le_refl _, hl.2⟩, fun q => by omega⟩ (fun i i0 i1 => by
          by_cases e : i = dz
          · rw [e, uP_s]; omega
          · rw [uP_o _ _ e]; exact hdl i i0 (by omega)) (fun a i _ _ i0 i1 => by rw [uP_o _ _ (by omega)]) (d := 3200) ⟨by decide, by decide⟩ (by rw [v5, ez]; omega)
        have ap : m_X2_append N dz ds dc da dr dl x1 x2 v = some (dz + 1, uP ds dz x1, uP dc dz x2, uP da dz v, uP dr dz (-1), uP dl dz 0) := by
          rw [m_X2_append]
          repeat (first | (with_reducible refine gd_ok ?_ ?_; focus (first | omega | assumption | ((repeat' refine And.intro ?_ ?_) <;> first | omega | assumption) | fail)) | (with_reducible refine ip_ok ?_ ?_; focus (first | omega | assumption | ((repeat' refine And.intro ?_ ?_) <;> first | omega | assumption) | fail)) | (with_reducible refine in_ok ?_ ?_; focus (first | omega | assumption | ((repeat' refine And.intro ?_ ?_) <;> first | omega | assumption) | fail)) | (rw [hr1, so_bd]; try dsimp only) | (rw [so_bd]; try dsimp only))
          all_goals rfl
        refine ⟨dz + 1 - 1, cutB g b i, cutB g b j, kst g b gc bc rc i j, dz + 1, uP ds dz x1, uP dc dz x2, uP da dz v, uP dr dz (-1), uP dl dz 0, az', ak', a1', a2', a3', s6, kp', Or.inl ?_, ⟨(az', cn g b, cutB g b i, cutB g b j, kst g b gc bc rc i j, s6, kp', w, y1, y2, y3, y4), ?_, rfl, rfl, rfl⟩, q3⟩
        · rw [m_X12_decide]
          repeat (first | (with_reducible refine gd_ok ?_ ?_; focus (first | omega | assumption | ((repeat' refine And.intro ?_ ?_) <;> first | omega | assumption) | fail)) | (with_reducible refine ip_ok ?_ ?_; focus (first | omega | assumption | ((repeat' refine And.intro ?_ ?_) <;> first | omega | assumption) | fail)) | (with_reducible refine in_ok ?_ ?_; focus (first | omega | assumption | ((repeat' refine And.intro ?_ ?_) <;> first | omega | assumption) | fail)) | (rw [i1.1, so_bd]; try dsimp only) | (rw [hr1, so_bd]; try dsimp only) | (rw [hset, so_bd]; try dsimp only) | (rw [e1, so_bd]; try dsimp only) | (rw [d1, so_bd]; try dsimp only) | (rw [ap, so_bd]; try dsimp only) | (rw [q1, so_bd]; try dsimp only) | (rw [so_bd]; try dsimp only))
          all_goals rfl
        · rw [m_X13_decide, ez, ← hs0]
          repeat (first | (with_reducible refine gd_ok ?_ ?_; focus (first | omega | assumption | ((repeat' refine And.intro ?_ ?_) <;> first | omega | assumption) | fail)) | (with_reducible refine ip_ok ?_ ?_; focus (first | omega | assumption | ((repeat' refine And.intro ?_ ?_) <;> first | omega | assumption) | fail)) | (with_reducible refine in_ok ?_ ?_; focus (first | omega | assumption | ((repeat' refine And.intro ?_ ?_) <;> first | omega | assumption) | fail)) | (rw [i1.2, so_bd]; try dsimp only) | (rw [i2, so_bd]; try dsimp only) | (rw [w1, so_bd]; try dsimp only) | (rw [e3, so_bd]; try dsimp only) | (rw [so_bd]; try dsimp only))
          rw [← hs5, ← hs6]
          repeat (first | (with_reducible refine gd_ok ?_ ?_; focus (first | omega | assumption | ((repeat' refine And.intro ?_ ?_) <;> first | omega | assumption) | fail)) | (with_reducible refine ip_ok ?_ ?_; focus (first | omega | assumption | ((repeat' refine And.intro ?_ ?_) <;> first | omega | assumption) | fail)) | (with_reducible refine in_ok ?_ ?_; focus (first | omega | assumption | ((repeat' refine And.intro ?_ ?_) <;> first | omega | assumption) | fail)) | (rw [q2, so_bd]; try dsimp only) | (rw [so_bd]; try dsimp only))
          rw [v5]
    · have i2 := in0 (N := N) (v := x2) (lo := 0) (hi := 2) (rI_L hx2) ⟨by decide, by decide⟩ ⟨by decide, by decide⟩ c2
      refine ⟨-2, l, u, t, dz, ds, dc, da, dr, dl, az, ak, a1, a2, a3, stt, kp, Or.inr ?_, ⟨(az, z1, o1, o2, o3, stt, kp, was, s1, s2, s3, s4), ?_, rfl, rfl, rfl⟩, hA⟩
      · rw [m_X12_decide]
        by_cases d : x2 < 0
        · repeat (first | (with_reducible refine gd_ok ?_ ?_; focus (first | omega | assumption | ((repeat' refine And.intro ?_ ?_) <;> first | omega | assumption) | fail)) | (with_reducible refine ip_ok ?_ ?_; focus (first | omega | assumption | ((repeat' refine And.intro ?_ ?_) <;> first | omega | assumption) | fail)) | (with_reducible refine in_ok ?_ ?_; focus (first | omega | assumption | ((repeat' refine And.intro ?_ ?_) <;> first | omega | assumption) | fail)) | (rw [i1.1, so_bd]; try dsimp only) | (rw [so_bd]; try dsimp only))
          all_goals rfl
        · repeat (first | (with_reducible refine gd_ok ?_ ?_; focus (first | omega | assumption | ((repeat' refine And.intro ?_ ?_) <;> first | omega | assumption) | fail)) | (with_reducible refine ip_ok ?_ ?_; focus (first | omega | assumption | ((repeat' refine And.intro ?_ ?_) <;> first | omega | assumption) | fail)) | (with_reducible refine in_ok ?_ ?_; focus (first | omega | assumption | ((repeat' refine And.intro ?_ ?_) <;> first | omega | assumption) | fail)) | (rw [i1.1, so_bd]; try dsimp only) | (rw [so_bd]; try dsimp only))
          all_goals rfl
      · rw [m_X13_decide]
        repeat (first | (with_reducible refine gd_ok ?_ ?_; focus (first | omega | assumption | ((repeat' refine And.intro ?_ ?_) <;> first | omega | assumption) | fail)) | (with_reducible refine ip_ok ?_ ?_; focus (first | omega | assumption | ((repeat' refine And.intro ?_ ?_) <;> first | omega | assumption) | fail)) | (with_reducible refine in_ok ?_ ?_; focus (first | omega | assumption | ((repeat' refine And.intro ?_ ?_) <;> first | omega | assumption) | fail)) | (rw [i1.2, so_bd]; try dsimp only) | (rw [i2, so_bd]; try dsimp only) | (rw [so_bd]; try dsimp only))
        all_goals rfl
  · have i1 := isScore0 (N := N) hx1 c1
    refine ⟨-2, l, u, t, dz, ds, dc, da, dr, dl, az, ak, a1, a2, a3, stt, kp, Or.inr ?_, ⟨(az, z1, o1, o2, o3, stt, kp, was, s1, s2, s3, s4), ?_, rfl, rfl, rfl⟩, hA⟩
    · rw [m_X12_decide]
      repeat (first | (with_reducible refine gd_ok ?_ ?_; focus (first | omega | assumption | ((repeat' refine And.intro ?_ ?_) <;> first | omega | assumption) | fail)) | (with_reducible refine ip_ok ?_ ?_; focus (first | omega | assumption | ((repeat' refine And.intro ?_ ?_) <;> first | omega | assumption) | fail)) | (with_reducible refine in_ok ?_ ?_; focus (first | omega | assumption | ((repeat' refine And.intro ?_ ?_) <;> first | omega | assumption) | fail)) | (rw [i1.1, so_bd]; try dsimp only) | (rw [so_bd]; try dsimp only))
      all_goals rfl
    · rw [m_X13_decide]
      repeat (first | (with_reducible refine gd_ok ?_ ?_; focus (first | omega | assumption | ((repeat' refine And.intro ?_ ?_) <;> first | omega | assumption) | fail)) | (with_reducible refine ip_ok ?_ ?_; focus (first | omega | assumption | ((repeat' refine And.intro ?_ ?_) <;> first | omega | assumption) | fail)) | (with_reducible refine in_ok ?_ ?_; focus (first | omega | assumption | ((repeat' refine And.intro ?_ ?_) <;> first | omega | assumption) | fail)) | (rw [i1.2, so_bd]; try dsimp only) | (rw [so_bd]; try dsimp only))
      all_goals rfl
end
