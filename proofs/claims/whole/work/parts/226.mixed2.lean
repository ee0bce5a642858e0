/-! MIXED: the same answer -/
section
variable {N : Nat} {g b : Int → Int}
theorem gcd_mulr {y w : Int} (hy : 0 ≤ y) (hw : 0 < w) : (Int.gcd (y * w) w : Int) = w := by
  rw [gcd_step (Int.mul_nonneg hy (by omega)) hw, Int.mul_emod_left, gcd_zero (by omega)]
theorem told_mul (hN : 40000 ≤ N) {y w v : Int} (hy : 0 ≤ y ∧ y ≤ 11880) (hw : 0 < w ∧ w ≤ 11880) (hv : 0 ≤ v ∧ v ≤ 1) : m_X13_told N (y * w) w v = some (if v = 0 then y else 1) ∧ m_X5_lowest N (y * w) w v = some (if v = 0 then y else 1) := by
  have p := mul_bd (a := y) (b := w) (A := 11880) (B := 11880) hy (by omega)
  have t1 := told_ok hN (a := y * w) (b := w) (w := v) (by omega) (by omega) ⟨by omega, by omega⟩
  have t2 := lowest_ok hN (a := y * w) (b := w) (w := v) (by omega) (by omega) ⟨by omega, by omega⟩
  rw [t1, t2, gcd_mulr hy.1 hw.1, Int.mul_ediv_cancel _ (by omega), Int.ediv_self (by omega)]
  exact ⟨rfl, rfl⟩
theorem mx_anti (ok : okP g b) {j k : Int} (j0 : -1 ≤ j) (jk : j ≤ k) (k1 : k < pmm g b) : mxX g b k ≤ mxX g b j := by
  have hb := pst_Bd ok
  have i1 := hb.in_ (k := j + 1) (by omega) (by omega)
  have i2 := hb.in_ (k := k + 1) (by omega) (by omega)
  have m := hb.mono (i := j + 1) (j := k + 1) (by omega) (by omega) (by omega)
  have := cG_m ok i1.1 m i2.2
  unfold mxX
  omega
theorem badWith_ok (ok : okP g b) {le gr lgo lba ri : Int → Int} (hL : Lad (cs g b) (cG g b) (cB g b) (pst g b) (pmm g b) le gr lgo lba ri) {x w a k0 : Int} (hx : 0 < x ∧ x ≤ 11880) (hk : 0 ≤ k0 ∧ k0 < pmm g b) (h1 : mxX g b k0 < x) (h2 : x ≤ mxX g b k0 + bG (cG g b) (pst g b) k0) (ht : m_X5_lowest N (mxY g b k0 * bG (cG g b) (pst g b) k0 + (x - mxX g b k0) * bG (cB g b) (pst g b) k0) (bG (cG g b) (pst g b) k0) w = some a) : ∀ (f : Nat) (y3 y4 y6 : Int), k0 ≤ y6 → y6 < pmm g b → y3 = x - mxX g b y6 → y4 = mxY g b y6 → (y6 - k0).toNat < f → m_X4_badWith_b13 N (pmm g b) lgo lba x w f y3 y4 y6 = some a := by
  have ok2 := ok.2.1
  have hb := pst_Bd ok
  have hm := hb.1
  intro f
  induction f with
  | zero => intro y3 y4 y6 _ _ _ _ h; omega
  | succ f ih =>
    intro y3 y4 y6 c1 c2 e3 e4 hf
    obtain ⟨-, -, l1, l2, -⟩ := hL y6 (by omega) c2
    have d := mx_bd ok (show 0 ≤ y6 by omega) c2
    have s := mx_s (g := g) (b := b) (k := y6)
    rw [m_X4_badWith_b13, l1, l2]
    by_cases t : y6 = k0
    · subst t
      rw [e3, e4]
      repeat (first | (with_reducible refine gd_ok ?_ ?_; focus (first | omega | assumption | ((repeat' refine And.intro ?_ ?_) <;> first | omega | assumption) | fail)) | (with_reducible refine ip_ok ?_ ?_; focus (first | omega | assumption | ((repeat' refine And.intro ?_ ?_) <;> first | omega | assumption) | fail)) | (with_reducible refine in_ok ?_ ?_; focus (first | omega | assumption | ((repeat' refine And.intro ?_ ?_) <;> first | omega | assumption) | fail)) | (rw [ht, so_bd]; try dsimp only) | (rw [so_bd]; try dsimp only))
      all_goals rfl
    · have an := mx_anti ok (j := k0) (k := y6 - 1) (by omega) (by omega) (by omega)
      have an2 := mx_anti ok (j := y6 - 1) (k := y6) (by omega) (by omega) c2
      repeat (first | (with_reducible refine gd_ok ?_ ?_; focus (first | omega | assumption | ((repeat' refine And.intro ?_ ?_) <;> first | omega | assumption) | fail)) | (with_reducible refine ip_ok ?_ ?_; focus (first | omega | assumption | ((repeat' refine And.intro ?_ ?_) <;> first | omega | assumption) | fail)) | (with_reducible refine in_ok ?_ ?_; focus (first | omega | assumption | ((repeat' refine And.intro ?_ ?_) <;> first | omega | assumption) | fail)) | (rw [so_bd]; try dsimp only))
      exact ih _ _ (y6 + -1) (by omega) (by omega) (by rw [show y6 + -1 = y6 - 1 by omega]; omega) (by rw [show y6 + -1 = y6 - 1 by omega]; omega) (by omega)
theorem mx_top (ok : okP g b) (h : 1 ≤ pmm g b) : mxX g b (pmm g b - 1) = 0 ∧ mxY g b (pmm g b - 1) = 0 := by
  have hb := pst_Bd ok
  unfold mxX mxY
  rw [show pmm g b - 1 + 1 = pmm g b by omega, hb.2.2.1]
  omega
theorem mx_bot (ok : okP g b) : mxX g b (0 - 1) = cG g b (cn g b) := by
  have hb := pst_Bd ok
  have z : cG g b 0 = 0 := rfl
  unfold mxX
  rw [show (0 : Int) - 1 + 1 = 0 by omega, hb.2.1, z]
  omega
end
section
variable {N : Nat} {g b stt : Int → Int} {le mo sp run run' : Int} {sd rz pz bz : Int} {rsc rgo rba rgA rbA ple pgr pgo pba pri ble bgr bgo bba bri : Int → Int} {rsc' rgo' rba' rgA' rbA' ple' pgr' pgo' pba' pri' ble' bgr' bgo' bba' bri' : Int → Int} {z1 z2 : Int} {s1 s2 s3 s4 : Int → Int}
set_option maxHeartbeats 4000000 in
theorem q_mixed (hN : 40000 ≤ N) (ok : okP g b) (hle : 0 ≤ le ∧ le ≤ 9999) (hmo : 1 ≤ mo ∧ mo ≤ 60) (hset : m_X12_settle N le mo g b sp sd rz rsc rgo rba rgA rbA pz ple pgr pgo pba pri bz ble bgr bgo bba bri run = some (1, cn g b, rsc', rgo', rba', rgA', rbA', pmm g b, ple', pgr', pgo', pba', pri', bmm g b le mo, ble', bgr', bgo', bba', bri', run')) (hS : Stl g b le mo rsc' rgo' rba' rgA' rbA' ple' pgr' pgo' pba' pri' ble' bgr' bgo' bba' bri') (hst : StA stt g b) (h3 : stt 3201 = le ∧ stt 3202 = mo) {x1 x2 : Int} (hx1 : rI x1) (hx2 : rI x2) : Ans (m_X12_mixed N le mo g b sp sd rz rsc rgo rba rgA rbA pz ple pgr pgo pba pri bz ble bgr bgo bba bri run x1 x2) (m_X13_mixed N stt z1 z2 s1 s2 s3 s4 x1 x2) (1, cn g b, rsc', rgo', rba', rgA', rbA', pmm g b, ple', pgr', pgo', pba', pri', bmm g b le mo, ble', bgr', bgo', bba', bri', run') (sd, rz, rsc, rgo, rba, rgA, rbA, pz, ple, pgr, pgo, pba, pri, bz, ble, bgr, bgo, bba, bri, run) := by
  obtain ⟨sc1, go1, ba1, lr1, hr⟩ := laysRows_ok (z := z1) (sc := s1) (go := s2) (ba := s3) hN ok hst
  obtain ⟨hn, hbm, hpm⟩ := le_mo ok hle hmo
  obtain ⟨S1, S2, S3, S4⟩ := hS
  obtain ⟨arr, lp1, hsa, hb⟩ := laysPure_ok (m := z2) (st' := s4) hN ok hr
  have cb := cG_b ok hn.1 (Int.le_refl _)
  have hpz : pmm g b = 0 ↔ cn g b = 0 := by
    constructor
    · intro e
      have h1 := hb.2.1
      have h2 := hb.2.2.1
      rw [e] at h2
      omega
    · intro e
      omega
  by_cases n0 : cn g b = 0
  · rw [m_X12_mixed, m_X13_mixed]
    refine ⟨-9223372036854775808, Or.inl ?_, ?_⟩
    · repeat (first | (with_reducible refine gd_ok ?_ ?_; focus (first | omega | assumption | ((repeat' refine And.intro ?_ ?_) <;> first | omega | assumption) | fail)) | (with_reducible refine ip_ok ?_ ?_; focus (first | omega | assumption | ((repeat' refine And.intro ?_ ?_) <;> first | omega | assumption) | fail)) | (with_reducible refine in_ok ?_ ?_; focus (first | omega | assumption | ((repeat' refine And.intro ?_ ?_) <;> first | omega | assumption) | fail)) | (rw [hset, so_bd]; try dsimp only) | (rw [so_bd]; try dsimp only))
      all_goals rfl
    · repeat (first | (with_reducible refine Rt.gd ?_ ?_; focus (first | omega | assumption | ((repeat' refine And.intro ?_ ?_) <;> first | omega | assumption) | fail)) | (with_reducible refine Rt.ip ?_ ?_; focus (first | omega | assumption | ((repeat' refine And.intro ?_ ?_) <;> first | omega | assumption) | fail)) | (with_reducible refine Rt.in_ ?_ ?_; focus (first | omega | assumption | ((repeat' refine And.intro ?_ ?_) <;> first | omega | assumption) | fail)) | (rw [lr1, so_bd]; try dsimp only) | (rw [lp1, so_bd]; try dsimp only) | (rw [so_bd]; try dsimp only))
      all_goals exact Rt.so
  · have o0 := of00 hN ok hr hn.1 (Int.le_refl _)
    by_cases c : 0 ≤ x1 ∧ x1 ≤ cG g b (cn g b)
    · have i1 := in1 (N := N) (v := x1) (lo := 0) (hi := cG g b (cn g b)) (rI_L hx1) ⟨by decide, by decide⟩ ⟨by omega, by omega⟩ c
      by_cases w : 0 ≤ x2 ∧ x2 ≤ 1
      · have i2 := in1 (N := N) (v := x2) (lo := 0) (hi := 1) (rI_L hx2) ⟨by decide, by decide⟩ ⟨by decide, by decide⟩ w
        have tp := mx_top ok (show 1 ≤ pmm g b by omega)
        have fin : ∀ a, m_X4_badWith N (pmm g b) pgo' pba' x1 x2 = some a → Rt (m_X13_mixed_b56 N stt x1 x2 (cn g b) (pmm g b) sc1 go1 ba1 arr N 0 0 0) a → Ans (m_X12_mixed N le mo g b sp sd rz rsc rgo rba rgA rbA pz ple pgr pgo pba pri bz ble bgr bgo bba bri run x1 x2) (m_X13_mixed N stt z1 z2 s1 s2 s3 s4 x1 x2) (1, cn g b, rsc', rgo', rba', rgA', rbA', pmm g b, ple', pgr', pgo', pba', pri', bmm g b le mo, ble', bgr', bgo', bba', bri', run') (sd, rz, rsc, rgo, rba, rgA, rbA, pz, ple, pgr, pgo, pba, pri, bz, ble, bgr, bgo, bba, bri, run) := by
          intro a ha hra
          rw [m_X12_mixed, m_X13_mixed]
          refine ⟨a, Or.inl ?_, ?_⟩
          · repeat (first | (with_reducible refine gd_ok ?_ ?_; focus (first | omega | assumption | ((repeat' refine And.intro ?_ ?_) <;> first | omega | assumption) | fail)) | (with_reducible refine ip_ok ?_ ?_; focus (first | omega | assumption | ((repeat' refine And.intro ?_ ?_) <;> first | omega | assumption) | fail)) | (with_reducible refine in_ok ?_ ?_; focus (first | omega | assumption | ((repeat' refine And.intro ?_ ?_) <;> first | omega | assumption) | fail)) | (rw [hset, so_bd]; try dsimp only) | (rw [goods_ok ok S2, so_bd]; try dsimp only) | (rw [ha, so_bd]; try dsimp only) | (rw [so_bd]; try dsimp only))
            all_goals rfl
          · repeat (first | (with_reducible refine Rt.gd ?_ ?_; focus (first | omega | assumption | ((repeat' refine And.intro ?_ ?_) <;> first | omega | assumption) | fail)) | (with_reducible refine Rt.ip ?_ ?_; focus (first | omega | assumption | ((repeat' refine And.intro ?_ ?_) <;> first | omega | assumption) | fail)) | (with_reducible refine Rt.in_ ?_ ?_; focus (first | omega | assumption | ((repeat' refine And.intro ?_ ?_) <;> first | omega | assumption) | fail)) | (rw [lr1, so_bd]; try dsimp only) | (rw [lp1, so_bd]; try dsimp only) | (rw [o0, so_bd]; try dsimp only) | (rw [i1, so_bd]; try dsimp only) | (rw [i2, so_bd]; try dsimp only) | (rw [so_bd]; try dsimp only))
            exact hra
        by_cases x0 : x1 = 0
        · have t := told_mul (N := N) hN (y := 0) (w := 1) (v := x2) (by omega) (by omega) w
          have d := mx_bd ok (k := pmm g b - 1) (by omega) (by omega)
          have cc : mxC g b x1 (pmm g b - 1) := by unfold mxC; omega
          have nb := mx_nb ok (x := x1) (k := pmm g b - 1) (by omega) (by omega) cc
          have eN : mxN g b x1 (pmm g b - 1) = 0 * mxB g b (pmm g b - 1) := by
            unfold mxN
            rw [tp.1, tp.2, x0, Int.sub_zero, Int.mul_zero, Int.zero_mul, Int.zero_mul]
            split <;> rfl
          have t2 := (told_mul (N := N) hN (y := 0) (w := mxB g b (pmm g b - 1)) (v := x2) (by omega) (by omega) w).1
          rw [← eN] at t2
          refine fin (if x2 = 0 then 0 else 1) ?_ ?_
          · obtain ⟨f, ef⟩ : ∃ f, N = f + 1 := ⟨N - 1, by omega⟩
            have e3 : m_X4_badWith N (pmm g b) pgo' pba' x1 x2 = m_X4_badWith_b13 N (pmm g b) pgo' pba' x1 x2 (f + 1) x1 0 (pmm g b - 1) := by rw [m_X4_badWith, ← ef]
            have t3 := t.2
            rw [Int.zero_mul] at t3
            rw [e3, m_X4_badWith_b13]
            repeat (first | (with_reducible refine gd_ok ?_ ?_; focus (first | omega | assumption | ((repeat' refine And.intro ?_ ?_) <;> first | omega | assumption) | fail)) | (with_reducible refine ip_ok ?_ ?_; focus (first | omega | assumption | ((repeat' refine And.intro ?_ ?_) <;> first | omega | assumption) | fail)) | (with_reducible refine in_ok ?_ ?_; focus (first | omega | assumption | ((repeat' refine And.intro ?_ ?_) <;> first | omega | assumption) | fail)) | (rw [so_bd]; try dsimp only))
            rw [m_X4_badWith_b98]
            repeat (first | (with_reducible refine gd_ok ?_ ?_; focus (first | omega | assumption | ((repeat' refine And.intro ?_ ?_) <;> first | omega | assumption) | fail)) | (with_reducible refine ip_ok ?_ ?_; focus (first | omega | assumption | ((repeat' refine And.intro ?_ ?_) <;> first | omega | assumption) | fail)) | (with_reducible refine in_ok ?_ ?_; focus (first | omega | assumption | ((repeat' refine And.intro ?_ ?_) <;> first | omega | assumption) | fail)) | (rw [t3, so_bd]; try dsimp only) | (rw [so_bd]; try dsimp only))
            all_goals rfl
          · refine mix_lp hN ok hr hsa (by omega) w (k1 := pmm g b - 1) (by omega) cc (fun k k0 k1 => ?_) (fun k k0 k1 => by omega) t2 N 0 0 0 (by decide) (by omega) (fun _ => ⟨rfl, rfl⟩) (by omega) (by omega)
            have an := mx_anti ok (j := k) (k := pmm g b - 1 - 1) (by omega) (by omega) (by omega)
            have s := mx_s (g := g) (b := b) (k := pmm g b - 1)
            have ps := pst_pos ok (k := pmm g b - 1) (by omega) (by omega)
            unfold mxC
            omega
        · obtain ⟨k0, hk, h1, h2⟩ : ∃ k0, (0 ≤ k0 ∧ k0 < pmm g b) ∧ mxX g b k0 < x1 ∧ x1 ≤ mxX g b k0 + bG (cG g b) (pst g b) k0 := by
            rcases fst_or (fun k => mxX g b k < x1) (pmm g b).toNat with ⟨k0, a1, a2, a3⟩ | h
            · refine ⟨k0, ⟨a1.1, by omega⟩, a2, ?_⟩
              have s := mx_s (g := g) (b := b) (k := k0)
              by_cases z : k0 = 0
              · have bt := mx_bot (g := g) (b := b) ok
                subst z
                omega
              · have := a3 (k0 - 1) (by omega) (by omega)
                omega
            · have := h (pmm g b - 1) (by omega) (by omega)
              omega
          have d := mx_bd ok hk.1 hk.2
          have s := mx_s (g := g) (b := b) (k := k0)
          have ez : ¬ bG (cG g b) (pst g b) k0 = 0 := by omega
          have eN : mxN g b x1 k0 = mxY g b k0 * bG (cG g b) (pst g b) k0 + bG (cB g b) (pst g b) k0 * (x1 - mxX g b k0) := if_neg ez
          have eB : mxB g b k0 = bG (cG g b) (pst g b) k0 := if_neg ez
          have cc : mxC g b x1 k0 := by unfold mxC; omega
          have nb := mx_nb ok hk.1 hk.2 cc
          have ecm : (x1 - mxX g b k0) * bG (cB g b) (pst g b) k0 = bG (cB g b) (pst g b) k0 * (x1 - mxX g b k0) := Int.mul_comm _ _
          have cls : ∀ a, m_X5_lowest N (mxY g b k0 * bG (cG g b) (pst g b) k0 + (x1 - mxX g b k0) * bG (cB g b) (pst g b) k0) (bG (cG g b) (pst g b) k0) x2 = some a → m_X4_badWith N (pmm g b) pgo' pba' x1 x2 = some a := by
            intro a ha
            exact badWith_ok ok S3 ⟨by omega, by omega⟩ hk h1 h2 ha N x1 0 (pmm g b - 1) (by omega) (by omega) (by rw [tp.1]; omega) (by rw [tp.2]) (by omega)
          by_cases bd : x1 = mxX g b k0 + bG (cG g b) (pst g b) k0
          · have eY : mxY g b k0 * bG (cG g b) (pst g b) k0 + bG (cB g b) (pst g b) k0 * (x1 - mxX g b k0) = mxY g b (k0 - 1) * bG (cG g b) (pst g b) k0 := by
              rw [s.2, show x1 - mxX g b k0 = bG (cG g b) (pst g b) k0 by omega, Int.add_mul]
            have hY : 0 ≤ mxY g b (k0 - 1) ∧ mxY g b (k0 - 1) ≤ 11880 := by
              have hbp := pst_Bd ok
              have i := hbp.in_ (k := k0 - 1 + 1) (by omega) (by omega)
              have a1 := cG_b ok i.1 i.2
              have m2 := cB_m ok i.1 i.2 (Int.le_refl _)
              unfold mxY
              omega
            have cand : ∀ k, 0 ≤ k → k < pmm g b → mxC g b x1 k → k ≤ k0 ∧ mxN g b x1 k = mxY g b (k0 - 1) * mxB g b k := by
              intro k q0 q1 qc
              have qc' := qc
              unfold mxC at qc'
              have sk := mx_s (g := g) (b := b) (k := k)
              rcases (by omega : k = k0 ∨ k0 < k ∨ k = k0 - 1 ∨ k < k0 - 1) with e | e | e | e
              · subst e
                rw [eN, eB]
                exact ⟨Int.le_refl _, eY⟩
              · have an := mx_anti ok (j := k0) (k := k - 1) (by omega) (by omega) (by omega)
                omega
              · subst e
                refine ⟨by omega, ?_⟩
                unfold mxN mxB
                by_cases z : bG (cG g b) (pst g b) (k0 - 1) = 0
                · rw [if_pos z, if_pos z, Int.mul_one]
                · rw [if_neg z, if_neg z, show x1 - mxX g b (k0 - 1) = 0 by omega, Int.mul_zero, Int.add_zero]
              · have s1 := mx_s (g := g) (b := b) (k := k + 1)
                rw [show k + 1 - 1 = k by omega] at s1
                have ps := pst_pos ok (k := k + 1) (by omega) (by omega)
                have an := mx_anti ok (j := k + 1) (k := k0 - 1) (by omega) (by omega) (by omega)
                omega
            rcases fst_or (fun k => mxC g b x1 k) (pmm g b).toNat with ⟨k1, a1, a2, a3⟩ | h
            · have c1 := cand k1 a1.1 (by omega) a2
              have nb1 := mx_nb ok a1.1 (show k1 < pmm g b by omega) a2
              have t1 := (told_mul (N := N) hN (y := mxY g b (k0 - 1)) (w := mxB g b k1) (v := x2) hY nb1.2 w).1
              have t2 := (told_mul (N := N) hN (y := mxY g b (k0 - 1)) (w := bG (cG g b) (pst g b) k0) (v := x2) hY (by omega) w).2
              rw [← c1.2] at t1
              rw [← eY, ← ecm] at t2
              refine fin _ (cls _ t2) (mix_lp hN ok hr hsa (by omega) w ⟨a1.1, by omega⟩ a2 a3 (fun k q0 q1 qc => ?_) t1 N 0 0 0 (by decide) (by omega) (fun _ => ⟨rfl, rfl⟩) (by omega) (by omega))
              have c2 := cand k (by omega) q1 qc
              rw [c1.2, c2.2, Int.mul_assoc, Int.mul_assoc, Int.mul_comm (mxB g b k1)]
              exact Int.le_refl _
            · exact absurd cc (h k0 hk.1 (by omega))
          · have un : ∀ k, 0 ≤ k → k < pmm g b → mxC g b x1 k → k = k0 := by
              intro k q0 q1 qc
              unfold mxC at qc
              have sk := mx_s (g := g) (b := b) (k := k)
              rcases (by omega : k = k0 ∨ k0 < k ∨ k < k0) with e | e | e
              · exact e
              · have an := mx_anti ok (j := k0) (k := k - 1) (by omega) (by omega) (by omega)
                omega
              · have an := mx_anti ok (j := k) (k := k0 - 1) (by omega) (by omega) (by omega)
                omega
            have t1 := told_ok hN (a := mxN g b x1 k0) (b := mxB g b k0) (w := x2) (by omega) (by omega) hx2
            have t2 := lowest_ok hN (a := mxN g b x1 k0) (b := mxB g b k0) (w := x2) (by omega) (by omega) hx2
            rw [eN, eB, ← ecm] at t2
            have t1' := t1
            rw [eN, eB, ← ecm] at t1'
            refine fin _ (cls _ t2) (mix_lp hN ok hr hsa (by omega) w hk cc (fun k q0 q1 qc => ?_) (fun k q0 q1 qc => ?_) ?_ N 0 0 0 (by decide) (by omega) (fun _ => ⟨rfl, rfl⟩) (by omega) (by omega))
            · have := un k q0 (by omega) qc
              omega
            · have := un k (by omega) q1 qc
              omega
            · rw [eN, eB, ← ecm]
              exact t1'
      · rw [m_X12_mixed, m_X13_mixed]
        refine ⟨-9223372036854775808, Or.inl ?_, ?_⟩
        · by_cases d : x2 < 0
          · repeat (first | (with_reducible refine gd_ok ?_ ?_; focus (first | omega | assumption | ((repeat' refine And.intro ?_ ?_) <;> first | omega | assumption) | fail)) | (with_reducible refine ip_ok ?_ ?_; focus (first | omega | assumption | ((repeat' refine And.intro ?_ ?_) <;> first | omega | assumption) | fail)) | (with_reducible refine in_ok ?_ ?_; focus (first | omega | assumption | ((repeat' refine And.intro ?_ ?_) <;> first | omega | assumption) | fail)) | (rw [hset, so_bd]; try dsimp only) | (rw [goods_ok ok S2, so_bd]; try dsimp only) | (rw [so_bd]; try dsimp only))
            all_goals rfl
          · repeat (first | (with_reducible refine gd_ok ?_ ?_; focus (first | omega | assumption | ((repeat' refine And.intro ?_ ?_) <;> first | omega | assumption) | fail)) | (with_reducible refine ip_ok ?_ ?_; focus (first | omega | assumption | ((repeat' refine And.intro ?_ ?_) <;> first | omega | assumption) | fail)) | (with_reducible refine in_ok ?_ ?_; focus (first | omega | assumption | ((repeat' refine And.intro ?_ ?_) <;> first | omega | assumption) | fail)) | (rw [hset, so_bd]; try dsimp only) | (rw [goods_ok ok S2, so_bd]; try dsimp only) | (rw [so_bd]; try dsimp only))
            all_goals rfl
        · repeat (first | (with_reducible refine Rt.gd ?_ ?_; focus (first | omega | assumption | ((repeat' refine And.intro ?_ ?_) <;> first | omega | assumption) | fail)) | (with_reducible refine Rt.ip ?_ ?_; focus (first | omega | assumption | ((repeat' refine And.intro ?_ ?_) <;> first | omega | assumption) | fail)) | (with_reducible refine Rt.in_ ?_ ?_; focus (first | omega | assumption | ((repeat' refine And.intro ?_ ?_) <;> first | omega | assumption) | fail)) | (rw [lr1, so_bd]; try dsimp only) | (rw [lp1, so_bd]; try dsimp only) | (rw [o0, so_bd]; try dsimp only) | (rw [i1, so_bd]; try dsimp only) | (rw [in0 (N := N) (v := x2) (lo := 0) (hi := 1) (rI_L hx2) ⟨by decide, by decide⟩ ⟨by decide, by decide⟩ w, so_bd]; try dsimp only) | (rw [so_bd]; try dsimp only))
          all_goals exact Rt.so
    · have i1 := in0 (N := N) (v := x1) (lo := 0) (hi := cG g b (cn g b)) (rI_L hx1) ⟨by decide, by decide⟩ ⟨by omega, by omega⟩ c
      rw [m_X12_mixed, m_X13_mixed]
      refine ⟨-9223372036854775808, Or.inl ?_, ?_⟩
      · by_cases d : x1 < 0
        · repeat (first | (with_reducible refine gd_ok ?_ ?_; focus (first | omega | assumption | ((repeat' refine And.intro ?_ ?_) <;> first | omega | assumption) | fail)) | (with_reducible refine ip_ok ?_ ?_; focus (first | omega | assumption | ((repeat' refine And.intro ?_ ?_) <;> first | omega | assumption) | fail)) | (with_reducible refine in_ok ?_ ?_; focus (first | omega | assumption | ((repeat' refine And.intro ?_ ?_) <;> first | omega | assumption) | fail)) | (rw [hset, so_bd]; try dsimp only) | (rw [goods_ok ok S2, so_bd]; try dsimp only) | (rw [so_bd]; try dsimp only))
          all_goals rfl
        · repeat (first | (with_reducible refine gd_ok ?_ ?_; focus (first | omega | assumption | ((repeat' refine And.intro ?_ ?_) <;> first | omega | assumption) | fail)) | (with_reducible refine ip_ok ?_ ?_; focus (first | omega | assumption | ((repeat' refine And.intro ?_ ?_) <;> first | omega | assumption) | fail)) | (with_reducible refine in_ok ?_ ?_; focus (first | omega | assumption | ((repeat' refine And.intro ?_ ?_) <;> first | omega | assumption) | fail)) | (rw [hset, so_bd]; try dsimp only) | (rw [goods_ok ok S2, so_bd]; try dsimp only) | (rw [so_bd]; try dsimp only))
          all_goals rfl
      · repeat (first | (with_reducible refine Rt.gd ?_ ?_; focus (first | omega | assumption | ((repeat' refine And.intro ?_ ?_) <;> first | omega | assumption) | fail)) | (with_reducible refine Rt.ip ?_ ?_; focus (first | omega | assumption | ((repeat' refine And.intro ?_ ?_) <;> first | omega | assumption) | fail)) | (with_reducible refine Rt.in_ ?_ ?_; focus (first | omega | assumption | ((repeat' refine And.intro ?_ ?_) <;> first | omega | assumption) | fail)) | (rw [lr1, so_bd]; try dsimp only) | (rw [lp1, so_bd]; try dsimp only) | (rw [o0, so_bd]; try dsimp only) | (rw [i1, so_bd]; try dsimp only) | (rw [so_bd]; try dsimp only))
        all_goals exact Rt.so
end
