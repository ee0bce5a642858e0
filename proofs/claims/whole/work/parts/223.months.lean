/-! the same answer: alarms, rises, months, bands -/
section
variable {N : Nat} {g b stt : Int → Int} {le mo sp run run' : Int} {sd rz pz bz : Int} {rsc rgo rba rgA rbA ple pgr pgo pba pri ble bgr bgo bba bri : Int → Int} {rsc' rgo' rba' rgA' rbA' ple' pgr' pgo' pba' pri' ble' bgr' bgo' bba' bri' : Int → Int} {z1 z2 : Int} {s1 s2 s3 s4 : Int → Int}
variable {S : SM} {la : Nat} {samp mp q : Int → Int} {mt : Int → Nat} {d1 d2 d3 kp : Int}
theorem alarm_lp (hN : 40000 ≤ N) (ok : okP g b) (hle : 0 ≤ le ∧ le ≤ 9999) (hmo : 1 ≤ mo ∧ mo ≤ 60) (hst : StA stt g b) (h3 : stt 3201 = le ∧ stt 3202 = mo) (hn : 0 < cn g b) (hS : Stl g b le mo rsc' rgo' rba' rgA' rbA' ple' pgr' pgo' pba' pri' ble' bgr' bgo' bba' bri') (hkp : 0 ≤ kp ∧ kp ≤ 12) (hmr : MoR S mt mp kp) (hmz : ∀ i, 0 ≤ i → i < kp → ¬ smTotal S (mt i) = 0) {x : Int} (hx : 0 ≤ x ∧ x ≤ 2000) : ∀ (f : Nat) (y : Int) (q : Int → Int) (z1 z2 d1 d2 d3 : Int) (s1 s2 s3 s4 : Int → Int), 0 ≤ y → y ≤ kp → (kp - y).toNat < f → ∃ a q', m_X12_alarm_b32 N S kp le mo g b mt sp x 1 (cn g b) rsc' rgo' rba' rgA' rbA' (pmm g b) ple' pgr' pgo' pba' pri' (bmm g b le mo) ble' bgr' bgo' bba' bri' run' f q y = some (a, 1, cn g b, rsc', rgo', rba', rgA', rbA', pmm g b, ple', pgr', pgo', pba', pri', bmm g b le mo, ble', bgr', bgo', bba', bri', q', run') ∧ Rt (m_X13_alarm_b17 N kp stt mp x f z1 z2 d1 d2 d3 s1 s2 s3 s4 y) a := by
  obtain ⟨S1, S2, S3, S4⟩ := hS
  have hb := bst_Bd ok hle hmo
  have cp := C_pos ok hn
  have nb := C_b ok (cn_0 g b) (Int.le_refl _)
  intro f
  induction f with
  | zero => intro y q z1 z2 d1 d2 d3 s1 s2 s3 s4 _ _ h; omega
  | succ f ih =>
    intro y q z1 z2 d1 d2 d3 s1 s2 s3 s4 h0 h1 hf
    rw [m_X12_alarm_b32, m_X13_alarm_b17]
    by_cases c : kp ≤ y
    · refine ⟨-1, q, ?_, ?_⟩
      · repeat (first | (with_reducible refine gd_ok ?_ ?_; focus (first | omega | assumption | ((repeat' refine And.intro ?_ ?_) <;> first | omega | assumption) | fail)) | (with_reducible refine ip_ok ?_ ?_; focus (first | omega | assumption | ((repeat' refine And.intro ?_ ?_) <;> first | omega | assumption) | fail)) | (with_reducible refine in_ok ?_ ?_; focus (first | omega | assumption | ((repeat' refine And.intro ?_ ?_) <;> first | omega | assumption) | fail)) | (rw [so_bd]; try dsimp only))
        all_goals rfl
      · repeat (first | (with_reducible refine Rt.gd ?_ ?_; focus (first | omega | assumption | ((repeat' refine And.intro ?_ ?_) <;> first | omega | assumption) | fail)) | (with_reducible refine Rt.ip ?_ ?_; focus (first | omega | assumption | ((repeat' refine And.intro ?_ ?_) <;> first | omega | assumption) | fail)) | (with_reducible refine Rt.in_ ?_ ?_; focus (first | omega | assumption | ((repeat' refine And.intro ?_ ?_) <;> first | omega | assumption) | fail)) | (rw [so_bd]; try dsimp only))
        all_goals exact Rt.so
    · have hsm := hmr y h0 (by omega)
      have hz := hmz y h0 (by omega)
      have t := hsm.tot
      obtain ⟨sc, go, ba, st', e1⟩ := ldrift_m1 (N := N) (z1 := z1) (z2 := z2) (d1 := d1) (d2 := d2) (d3 := d3) (s1 := s1) (s2 := s2) (s3 := s3) (s4 := s4) hN ok hle hmo hst h3 hsm ⟨by omega, by omega⟩ hn hz
      obtain ⟨q', e2⟩ := driftAbove_ok (N := N) (q := q) hN ok hb S4 S2 hsm
      have e3 := driftBelow_ok (N := N) ok S2 hsm
      have dA := drA_in ok hb hsm hb.1.1 (Int.le_refl _)
      have mm := mul_bd (a := cG g b (cn g b) + cB g b (cn g b)) (b := smTotal S (mt y)) (A := 11880) (B := 11880) (by omega) (by omega)
      have m2 := mul_bd (a := x) (b := (cG g b (cn g b) + cB g b (cn g b)) * smTotal S (mt y)) (A := 2000) (B := 141134400) (by omega) (by omega)
      have mc : (cG g b (cn g b) + cB g b (cn g b)) * smTotal S (mt y) * x = x * ((cG g b (cn g b) + cB g b (cn g b)) * smTotal S (mt y)) := Int.mul_comm _ _
      by_cases d : drA g b (bst g b le mo) (bmm g b le mo) S (mt y) (bmm g b le mo) * 1000 ≤ x * ((cG g b (cn g b) + cB g b (cn g b)) * smTotal S (mt y))
      · obtain ⟨a, q2, r1, r2⟩ := ih (y + 1) q' (cn g b) (bmm g b le mo) (drA g b (bst g b le mo) (bmm g b le mo) S (mt y) (bmm g b le mo)) ((cG g b (cn g b) + cB g b (cn g b)) * smTotal S (mt y)) (am (fun k => - offB g b (bst g b le mo) (bmm g b le mo) S (mt y) k) (bmm g b le mo - 1).toNat) sc go ba st' (by omega) (by omega) (by omega)
        refine ⟨a, q2, ?_, ?_⟩
        · repeat (first | (with_reducible refine gd_ok ?_ ?_; focus (first | omega | assumption | ((repeat' refine And.intro ?_ ?_) <;> first | omega | assumption) | fail)) | (with_reducible refine ip_ok ?_ ?_; focus (first | omega | assumption | ((repeat' refine And.intro ?_ ?_) <;> first | omega | assumption) | fail)) | (with_reducible refine in_ok ?_ ?_; focus (first | omega | assumption | ((repeat' refine And.intro ?_ ?_) <;> first | omega | assumption) | fail)) | (rw [e2, so_bd]; try dsimp only) | (rw [e3, so_bd]; try dsimp only) | rw [mc] | (rw [so_bd]; try dsimp only))
          exact r1
        · repeat (first | (with_reducible refine Rt.gd ?_ ?_; focus (first | omega | assumption | ((repeat' refine And.intro ?_ ?_) <;> first | omega | assumption) | fail)) | (with_reducible refine Rt.ip ?_ ?_; focus (first | omega | assumption | ((repeat' refine And.intro ?_ ?_) <;> first | omega | assumption) | fail)) | (with_reducible refine Rt.in_ ?_ ?_; focus (first | omega | assumption | ((repeat' refine And.intro ?_ ?_) <;> first | omega | assumption) | fail)) | (rw [e1, so_bd]; try dsimp only) | (rw [so_bd]; try dsimp only))
          exact r2
      · refine ⟨y, q', ?_, ?_⟩
        · repeat (first | (with_reducible refine gd_ok ?_ ?_; focus (first | omega | assumption | ((repeat' refine And.intro ?_ ?_) <;> first | omega | assumption) | fail)) | (with_reducible refine ip_ok ?_ ?_; focus (first | omega | assumption | ((repeat' refine And.intro ?_ ?_) <;> first | omega | assumption) | fail)) | (with_reducible refine in_ok ?_ ?_; focus (first | omega | assumption | ((repeat' refine And.intro ?_ ?_) <;> first | omega | assumption) | fail)) | (rw [e2, so_bd]; try dsimp only) | (rw [e3, so_bd]; try dsimp only) | rw [mc] | (rw [so_bd]; try dsimp only))
          all_goals rfl
        · repeat (first | (with_reducible refine Rt.gd ?_ ?_; focus (first | omega | assumption | ((repeat' refine And.intro ?_ ?_) <;> first | omega | assumption) | fail)) | (with_reducible refine Rt.ip ?_ ?_; focus (first | omega | assumption | ((repeat' refine And.intro ?_ ?_) <;> first | omega | assumption) | fail)) | (with_reducible refine Rt.in_ ?_ ?_; focus (first | omega | assumption | ((repeat' refine And.intro ?_ ?_) <;> first | omega | assumption) | fail)) | (rw [e1, so_bd]; try dsimp only) | (rw [so_bd]; try dsimp only))
          all_goals exact Rt.so
set_option maxHeartbeats 2000000 in
theorem q_alarm (hN : 40000 ≤ N) (ok : okP g b) (hle : 0 ≤ le ∧ le ≤ 9999) (hmo : 1 ≤ mo ∧ mo ≤ 60) (hset : m_X12_settle N le mo g b sp sd rz rsc rgo rba rgA rbA pz ple pgr pgo pba pri bz ble bgr bgo bba bri run = some (1, cn g b, rsc', rgo', rba', rgA', rbA', pmm g b, ple', pgr', pgo', pba', pri', bmm g b le mo, ble', bgr', bgo', bba', bri', run')) (hS : Stl g b le mo rsc' rgo' rba' rgA' rbA' ple' pgr' pgo' pba' pri' ble' bgr' bgo' bba' bri') (hst : StA stt g b) (h3 : stt 3201 = le ∧ stt 3202 = mo) (hkp : 0 ≤ kp ∧ kp ≤ 12) (hmr : MoR S mt mp kp) (hmz : ∀ i, 0 ≤ i → i < kp → ¬ smTotal S (mt i) = 0) {x1 : Int} (hx1 : rI x1) : AnsQ (m_X12_alarm N S kp le mo g b mt sp sd rz rsc rgo rba rgA rbA pz ple pgr pgo pba pri bz ble bgr bgo bba bri q run x1) (m_X13_alarm N kp stt mp z1 z2 d1 d2 d3 s1 s2 s3 s4 x1) (fun q => (1, cn g b, rsc', rgo', rba', rgA', rbA', pmm g b, ple', pgr', pgo', pba', pri', bmm g b le mo, ble', bgr', bgo', bba', bri', q, run')) (fun q => (sd, rz, rsc, rgo, rba, rgA, rbA, pz, ple, pgr, pgo, pba, pri, bz, ble, bgr, bgo, bba, bri, q, run)) := by
  have hS' := hS
  obtain ⟨hn, hbm, hpm⟩ := le_mo ok hle hmo
  obtain ⟨S1, S2, S3, S4⟩ := hS
  rw [m_X12_alarm, m_X13_alarm]
  by_cases c : 0 ≤ x1 ∧ x1 ≤ 2000
  · have i1 := in1 (N := N) (rI_L hx1) ⟨by decide, by decide⟩ ⟨by decide, by decide⟩ c
    by_cases z : cn g b = 0
    · have lp : ∀ (f : Nat) (y : Int) (z1 z2 d1 d2 d3 : Int) (s1 s2 s3 s4 : Int → Int), 0 ≤ y → y ≤ kp → (kp - y).toNat < f → Rt (m_X13_alarm_b17 N kp stt mp x1 f z1 z2 d1 d2 d3 s1 s2 s3 s4 y) (-1) := by
        intro f
        induction f with
        | zero => intro y z1 z2 d1 d2 d3 s1 s2 s3 s4 _ _ h; omega
        | succ f ih =>
          intro y z1 z2 d1 d2 d3 s1 s2 s3 s4 h0 h1 hf
          rw [m_X13_alarm_b17]
          by_cases w : kp ≤ y
          · repeat (first | (with_reducible refine Rt.gd ?_ ?_; focus (first | omega | assumption | ((repeat' refine And.intro ?_ ?_) <;> first | omega | assumption) | fail)) | (with_reducible refine Rt.ip ?_ ?_; focus (first | omega | assumption | ((repeat' refine And.intro ?_ ?_) <;> first | omega | assumption) | fail)) | (with_reducible refine Rt.in_ ?_ ?_; focus (first | omega | assumption | ((repeat' refine And.intro ?_ ?_) <;> first | omega | assumption) | fail)) | (rw [so_bd]; try dsimp only))
            all_goals exact Rt.so
          · obtain ⟨r, e1⟩ := ldrift_m0 (N := N) (z1 := z1) (z2 := z2) (d1 := d1) (d2 := d2) (d3 := d3) (s1 := s1) (s2 := s2) (s3 := s3) (s4 := s4) hN ok hle hmo hst h3 (hmr y h0 (by omega)) ⟨by omega, by omega⟩ (Or.inl z)
            repeat (first | (with_reducible refine Rt.gd ?_ ?_; focus (first | omega | assumption | ((repeat' refine And.intro ?_ ?_) <;> first | omega | assumption) | fail)) | (with_reducible refine Rt.ip ?_ ?_; focus (first | omega | assumption | ((repeat' refine And.intro ?_ ?_) <;> first | omega | assumption) | fail)) | (with_reducible refine Rt.in_ ?_ ?_; focus (first | omega | assumption | ((repeat' refine And.intro ?_ ?_) <;> first | omega | assumption) | fail)) | (rw [e1, so_bd]; try dsimp only) | (rw [so_bd]; try dsimp only))
            exact ih (y + 1) _ _ _ _ _ _ _ _ _ (by omega) (by omega) (by omega)
      refine ⟨-1, q, Or.inl ?_, ?_⟩
      · repeat (first | (with_reducible refine gd_ok ?_ ?_; focus (first | omega | assumption | ((repeat' refine And.intro ?_ ?_) <;> first | omega | assumption) | fail)) | (with_reducible refine ip_ok ?_ ?_; focus (first | omega | assumption | ((repeat' refine And.intro ?_ ?_) <;> first | omega | assumption) | fail)) | (with_reducible refine in_ok ?_ ?_; focus (first | omega | assumption | ((repeat' refine And.intro ?_ ?_) <;> first | omega | assumption) | fail)) | (rw [hset, so_bd]; try dsimp only) | (rw [so_bd]; try dsimp only))
        all_goals rfl
      · repeat (first | (with_reducible refine Rt.gd ?_ ?_; focus (first | omega | assumption | ((repeat' refine And.intro ?_ ?_) <;> first | omega | assumption) | fail)) | (with_reducible refine Rt.ip ?_ ?_; focus (first | omega | assumption | ((repeat' refine And.intro ?_ ?_) <;> first | omega | assumption) | fail)) | (with_reducible refine Rt.in_ ?_ ?_; focus (first | omega | assumption | ((repeat' refine And.intro ?_ ?_) <;> first | omega | assumption) | fail)) | (rw [i1, so_bd]; try dsimp only) | (rw [so_bd]; try dsimp only))
        exact lp N 0 _ _ _ _ _ _ _ _ _ (Int.le_refl 0) hkp.1 (by omega)
    · obtain ⟨a, q', r1, r2⟩ := alarm_lp (N := N) (sp := sp) (run' := run') hN ok hle hmo hst h3 (show 0 < cn g b by omega) hS' hkp hmr hmz c N 0 q z1 z2 d1 d2 d3 s1 s2 s3 s4 (Int.le_refl 0) hkp.1 (by omega)
      refine ⟨a, q', Or.inl ?_, ?_⟩
      · repeat (first | (with_reducible refine gd_ok ?_ ?_; focus (first | omega | assumption | ((repeat' refine And.intro ?_ ?_) <;> first | omega | assumption) | fail)) | (with_reducible refine ip_ok ?_ ?_; focus (first | omega | assumption | ((repeat' refine And.intro ?_ ?_) <;> first | omega | assumption) | fail)) | (with_reducible refine in_ok ?_ ?_; focus (first | omega | assumption | ((repeat' refine And.intro ?_ ?_) <;> first | omega | assumption) | fail)) | (rw [hset, so_bd]; try dsimp only) | (rw [so_bd]; try dsimp only))
        exact r1
      · repeat (first | (with_reducible refine Rt.gd ?_ ?_; focus (first | omega | assumption | ((repeat' refine And.intro ?_ ?_) <;> first | omega | assumption) | fail)) | (with_reducible refine Rt.ip ?_ ?_; focus (first | omega | assumption | ((repeat' refine And.intro ?_ ?_) <;> first | omega | assumption) | fail)) | (with_reducible refine Rt.in_ ?_ ?_; focus (first | omega | assumption | ((repeat' refine And.intro ?_ ?_) <;> first | omega | assumption) | fail)) | (rw [i1, so_bd]; try dsimp only) | (rw [so_bd]; try dsimp only))
        exact r2
  · refine ⟨-2, q, Or.inr ?_, ?_⟩
    · by_cases d : x1 < 0
      · repeat (first | (with_reducible refine gd_ok ?_ ?_; focus (first | omega | assumption | ((repeat' refine And.intro ?_ ?_) <;> first | omega | assumption) | fail)) | (with_reducible refine ip_ok ?_ ?_; focus (first | omega | assumption | ((repeat' refine And.intro ?_ ?_) <;> first | omega | assumption) | fail)) | (with_reducible refine in_ok ?_ ?_; focus (first | omega | assumption | ((repeat' refine And.intro ?_ ?_) <;> first | omega | assumption) | fail)) | (rw [so_bd]; try dsimp only))
        all_goals rfl
      · repeat (first | (with_reducible refine gd_ok ?_ ?_; focus (first | omega | assumption | ((repeat' refine And.intro ?_ ?_) <;> first | omega | assumption) | fail)) | (with_reducible refine ip_ok ?_ ?_; focus (first | omega | assumption | ((repeat' refine And.intro ?_ ?_) <;> first | omega | assumption) | fail)) | (with_reducible refine in_ok ?_ ?_; focus (first | omega | assumption | ((repeat' refine And.intro ?_ ?_) <;> first | omega | assumption) | fail)) | (rw [so_bd]; try dsimp only))
        all_goals rfl
    · repeat (first | (with_reducible refine Rt.gd ?_ ?_; focus (first | omega | assumption | ((repeat' refine And.intro ?_ ?_) <;> first | omega | assumption) | fail)) | (with_reducible refine Rt.ip ?_ ?_; focus (first | omega | assumption | ((repeat' refine And.intro ?_ ?_) <;> first | omega | assumption) | fail)) | (with_reducible refine Rt.in_ ?_ ?_; focus (first | omega | assumption | ((repeat' refine And.intro ?_ ?_) <;> first | omega | assumption) | fail)) | (rw [in0 (rI_L hx1) ⟨by decide, by decide⟩ ⟨by decide, by decide⟩ c, so_bd]; try dsimp only) | (rw [so_bd]; try dsimp only))
      all_goals exact Rt.so
theorem rises_lp (hN : 40000 ≤ N) (ok : okP g b) {sc go ba st st' : Int → Int} (hr : RwA g b sc go ba) {m : Int} (hb : Bd (cn g b) st m) (hs : SA st' st m) (hL : Lad (cs g b) (cG g b) (cB g b) st m ble' bgr' bgo' bba' bri') (hkp : 0 ≤ kp ∧ kp ≤ 12) (hmr : MoR S mt mp kp) {x : Int} (hx : 0 ≤ x ∧ x < m) : ∀ (f : Nat) (q : Int → Int) (ln rn ah y : Int), 1 ≤ y → (y ≤ kp ∨ y = 1) → (0 ≤ ln ∧ ln ≤ 12) → (0 ≤ rn ∧ rn + 1 ≤ y) → (1 ≤ kp → ah = inb (cs g b) st m S (mt (y - 1)) x) → (kp - y).toNat < f → ∃ a q', m_X12_rises_b49 N S kp le mo g b mt sp x 1 rz rsc' rgo' rba' rgA' rbA' pz ple' pgr' pgo' pba' pri' m ble' bgr' bgo' bba' bri' run' f q ln rn ah y = some (a, 1, rz, rsc', rgo', rba', rgA', rbA', pz, ple', pgr', pgo', pba', pri', m, ble', bgr', bgo', bba', bri', q', run') ∧ Rt (m_X13_rises_b30 N kp stt mp x (cn g b) m sc go ba st' f rn ln y) a := by
  have ok2 := ok.2.1
  have hm := hb.1
  intro f
  induction f with
  | zero => intro q ln rn ah y _ _ _ _ _ h; omega
  | succ f ih =>
    intro q ln rn ah y h0 h1 h2 h4 hah hf
    rw [m_X12_rises_b49, m_X13_rises_b30]
    by_cases c : kp ≤ y
    · refine ⟨ln, q, ?_, ?_⟩
      · repeat (first | (with_reducible refine gd_ok ?_ ?_; focus (first | omega | assumption | ((repeat' refine And.intro ?_ ?_) <;> first | omega | assumption) | fail)) | (with_reducible refine ip_ok ?_ ?_; focus (first | omega | assumption | ((repeat' refine And.intro ?_ ?_) <;> first | omega | assumption) | fail)) | (with_reducible refine in_ok ?_ ?_; focus (first | omega | assumption | ((repeat' refine And.intro ?_ ?_) <;> first | omega | assumption) | fail)) | (rw [so_bd]; try dsimp only))
        all_goals rfl
      · repeat (first | (with_reducible refine Rt.gd ?_ ?_; focus (first | omega | assumption | ((repeat' refine And.intro ?_ ?_) <;> first | omega | assumption) | fail)) | (with_reducible refine Rt.ip ?_ ?_; focus (first | omega | assumption | ((repeat' refine And.intro ?_ ?_) <;> first | omega | assumption) | fail)) | (with_reducible refine Rt.in_ ?_ ?_; focus (first | omega | assumption | ((repeat' refine And.intro ?_ ?_) <;> first | omega | assumption) | fail)) | (rw [so_bd]; try dsimp only))
        all_goals exact Rt.so
    · have hsm := hmr y (by omega) (by omega)
      have hs2 := hmr (y - 1) (by omega) (by omega)
      have t1 := hsm.tot
      have t2 := hs2.tot
      have w1 := hsm.1
      have w2 := hs2.1
      have hah := hah (by omega)
      have i1 := inb_in hsm (cs g b) st m x
      have i2 := inb_in hs2 (cs g b) st m x
      obtain ⟨q', e1⟩ := casesIn_ok (N := N) (q := q) hN ok hb hL hsm hx.1 hx.2
      have e2 := inBand_m_ok (N := N) hN ok hr hb hs hsm ⟨by omega, by omega⟩ (k := x) ⟨by omega, by omega⟩
      have e3 := inBand_m_ok (N := N) hN ok hr hb hs hs2 ⟨by omega, by omega⟩ (k := x) ⟨by omega, by omega⟩
      have e4 := casesOf_ok (N := N) hN (n := 12000) (x := 1000 * y) ⟨by omega, by omega⟩ hsm
      have e5 := casesOf_ok (N := N) hN (n := 12000) (x := 1000 * (y - 1)) ⟨by omega, by omega⟩ hs2
      have m1 := mul_bd (a := inb (cs g b) st m S (mt y) x) (b := smTotal S (mt (y - 1))) (A := 11880) (B := 11880) i1 t2
      have m2 := mul_bd (a := inb (cs g b) st m S (mt (y - 1)) x) (b := smTotal S (mt y)) (A := 11880) (B := 11880) i2 t1
      rw [hah]
      have hy : y + 1 - 1 = y := by omega
      by_cases d : inb (cs g b) st m S (mt y) x * smTotal S (mt (y - 1)) ≤ inb (cs g b) st m S (mt (y - 1)) x * smTotal S (mt y)
      · have em : max ln 0 = ln := by omega
        obtain ⟨a, q2, r1, r2⟩ := ih q' ln 0 (inb (cs g b) st m S (mt y) x) (y + 1) (by omega) (by omega) h2 (by omega) (by rw [hy]; intro _; rfl) (by omega)
        refine ⟨a, q2, ?_, ?_⟩
        · repeat (first | (with_reducible refine gd_ok ?_ ?_; focus (first | omega | assumption | ((repeat' refine And.intro ?_ ?_) <;> first | omega | assumption) | fail)) | (with_reducible refine ip_ok ?_ ?_; focus (first | omega | assumption | ((repeat' refine And.intro ?_ ?_) <;> first | omega | assumption) | fail)) | (with_reducible refine in_ok ?_ ?_; focus (first | omega | assumption | ((repeat' refine And.intro ?_ ?_) <;> first | omega | assumption) | fail)) | (rw [e1, so_bd]; try dsimp only) | (rw [so_bd]; try dsimp only))
          rw [m_X12_rises_b108]
          repeat (first | (with_reducible refine gd_ok ?_ ?_; focus (first | omega | assumption | ((repeat' refine And.intro ?_ ?_) <;> first | omega | assumption) | fail)) | (with_reducible refine ip_ok ?_ ?_; focus (first | omega | assumption | ((repeat' refine And.intro ?_ ?_) <;> first | omega | assumption) | fail)) | (with_reducible refine in_ok ?_ ?_; focus (first | omega | assumption | ((repeat' refine And.intro ?_ ?_) <;> first | omega | assumption) | fail)) | (rw [so_bd]; try dsimp only))
          rw [m_X12_rises_b122]
          repeat (first | (with_reducible refine gd_ok ?_ ?_; focus (first | omega | assumption | ((repeat' refine And.intro ?_ ?_) <;> first | omega | assumption) | fail)) | (with_reducible refine ip_ok ?_ ?_; focus (first | omega | assumption | ((repeat' refine And.intro ?_ ?_) <;> first | omega | assumption) | fail)) | (with_reducible refine in_ok ?_ ?_; focus (first | omega | assumption | ((repeat' refine And.intro ?_ ?_) <;> first | omega | assumption) | fail)) | rw [em] | (rw [so_bd]; try dsimp only))
          exact r1
        · repeat (first | (with_reducible refine Rt.gd ?_ ?_; focus (first | omega | assumption | ((repeat' refine And.intro ?_ ?_) <;> first | omega | assumption) | fail)) | (with_reducible refine Rt.ip ?_ ?_; focus (first | omega | assumption | ((repeat' refine And.intro ?_ ?_) <;> first | omega | assumption) | fail)) | (with_reducible refine Rt.in_ ?_ ?_; focus (first | omega | assumption | ((repeat' refine And.intro ?_ ?_) <;> first | omega | assumption) | fail)) | (rw [e2, so_bd]; try dsimp only) | (rw [e3, so_bd]; try dsimp only) | (rw [e4, so_bd]; try dsimp only) | (rw [e5, so_bd]; try dsimp only) | (rw [so_bd]; try dsimp only))
          rw [m_X13_rises_b124]
          repeat (first | (with_reducible refine Rt.gd ?_ ?_; focus (first | omega | assumption | ((repeat' refine And.intro ?_ ?_) <;> first | omega | assumption) | fail)) | (with_reducible refine Rt.ip ?_ ?_; focus (first | omega | assumption | ((repeat' refine And.intro ?_ ?_) <;> first | omega | assumption) | fail)) | (with_reducible refine Rt.in_ ?_ ?_; focus (first | omega | assumption | ((repeat' refine And.intro ?_ ?_) <;> first | omega | assumption) | fail)) | rw [em] | (rw [so_bd]; try dsimp only))
          exact r2
      · obtain ⟨a, q2, r1, r2⟩ := ih q' (max ln (rn + 1)) (rn + 1) (inb (cs g b) st m S (mt y) x) (y + 1) (by omega) (by omega) (by omega) (by omega) (by rw [hy]; intro _; rfl) (by omega)
        refine ⟨a, q2, ?_, ?_⟩
        · repeat (first | (with_reducible refine gd_ok ?_ ?_; focus (first | omega | assumption | ((repeat' refine And.intro ?_ ?_) <;> first | omega | assumption) | fail)) | (with_reducible refine ip_ok ?_ ?_; focus (first | omega | assumption | ((repeat' refine And.intro ?_ ?_) <;> first | omega | assumption) | fail)) | (with_reducible refine in_ok ?_ ?_; focus (first | omega | assumption | ((repeat' refine And.intro ?_ ?_) <;> first | omega | assumption) | fail)) | (rw [e1, so_bd]; try dsimp only) | (rw [so_bd]; try dsimp only))
          rw [m_X12_rises_b108]
          repeat (first | (with_reducible refine gd_ok ?_ ?_; focus (first | omega | assumption | ((repeat' refine And.intro ?_ ?_) <;> first | omega | assumption) | fail)) | (with_reducible refine ip_ok ?_ ?_; focus (first | omega | assumption | ((repeat' refine And.intro ?_ ?_) <;> first | omega | assumption) | fail)) | (with_reducible refine in_ok ?_ ?_; focus (first | omega | assumption | ((repeat' refine And.intro ?_ ?_) <;> first | omega | assumption) | fail)) | (rw [so_bd]; try dsimp only))
          rw [m_X12_rises_b122]
          repeat (first | (with_reducible refine gd_ok ?_ ?_; focus (first | omega | assumption | ((repeat' refine And.intro ?_ ?_) <;> first | omega | assumption) | fail)) | (with_reducible refine ip_ok ?_ ?_; focus (first | omega | assumption | ((repeat' refine And.intro ?_ ?_) <;> first | omega | assumption) | fail)) | (with_reducible refine in_ok ?_ ?_; focus (first | omega | assumption | ((repeat' refine And.intro ?_ ?_) <;> first | omega | assumption) | fail)) | (rw [so_bd]; try dsimp only))
          exact r1
        · repeat (first | (with_reducible refine Rt.gd ?_ ?_; focus (first | omega | assumption | ((repeat' refine And.intro ?_ ?_) <;> first | omega | assumption) | fail)) | (with_reducible refine Rt.ip ?_ ?_; focus (first | omega | assumption | ((repeat' refine And.intro ?_ ?_) <;> first | omega | assumption) | fail)) | (with_reducible refine Rt.in_ ?_ ?_; focus (first | omega | assumption | ((repeat' refine And.intro ?_ ?_) <;> first | omega | assumption) | fail)) | (rw [e2, so_bd]; try dsimp only) | (rw [e3, so_bd]; try dsimp only) | (rw [e4, so_bd]; try dsimp only) | (rw [e5, so_bd]; try dsimp only) | (rw [so_bd]; try dsimp only))
          rw [m_X13_rises_b124]
          repeat (first | (with_reducible refine Rt.gd ?_ ?_; focus (first | omega | assumption | ((repeat' refine And.intro ?_ ?_) <;> first | omega | assumption) | fail)) | (with_reducible refine Rt.ip ?_ ?_; focus (first | omega | assumption | ((repeat' refine And.intro ?_ ?_) <;> first | omega | assumption) | fail)) | (with_reducible refine Rt.in_ ?_ ?_; focus (first | omega | assumption | ((repeat' refine And.intro ?_ ?_) <;> first | omega | assumption) | fail)) | (rw [so_bd]; try dsimp only))
          exact r2
set_option maxHeartbeats 2000000 in
theorem q_rises (hN : 40000 ≤ N) (ok : okP g b) (hle : 0 ≤ le ∧ le ≤ 9999) (hmo : 1 ≤ mo ∧ mo ≤ 60) (hset : m_X12_settle N le mo g b sp sd rz rsc rgo rba rgA rbA pz ple pgr pgo pba pri bz ble bgr bgo bba bri run = some (1, cn g b, rsc', rgo', rba', rgA', rbA', pmm g b, ple', pgr', pgo', pba', pri', bmm g b le mo, ble', bgr', bgo', bba', bri', run')) (hS : Stl g b le mo rsc' rgo' rba' rgA' rbA' ple' pgr' pgo' pba' pri' ble' bgr' bgo' bba' bri') (hst : StA stt g b) (h3 : stt 3201 = le ∧ stt 3202 = mo) (hkp : 0 ≤ kp ∧ kp ≤ 12) (hmr : MoR S mt mp kp) {x1 : Int} (hx1 : rI x1) : AnsQ (m_X12_rises N S kp le mo g b mt sp sd rz rsc rgo rba rgA rbA pz ple pgr pgo pba pri bz ble bgr bgo bba bri q run x1) (m_X13_rises N kp stt mp z1 z2 s1 s2 s3 s4 x1) (fun q => (1, cn g b, rsc', rgo', rba', rgA', rbA', pmm g b, ple', pgr', pgo', pba', pri', bmm g b le mo, ble', bgr', bgo', bba', bri', q, run')) (fun q => (sd, rz, rsc, rgo, rba, rgA, rbA, pz, ple, pgr, pgo, pba, pri, bz, ble, bgr, bgo, bba, bri, q, run)) := by
  obtain ⟨sc1, go1, ba1, ar1, lb1, hr, hsa, hb⟩ := laysB (z1 := z1) (z2 := z2) (s1 := s1) (s2 := s2) (s3 := s3) (s4 := s4) hN ok hle hmo hst h3
  obtain ⟨hn, hbm, hpm⟩ := le_mo ok hle hmo
  obtain ⟨S1, S2, S3, S4⟩ := hS
  rw [m_X12_rises, m_X13_rises]
  by_cases c : 0 ≤ x1 ∧ x1 < bmm g b le mo
  · have i1 := in1 (N := N) (v := x1) (lo := 0) (hi := bmm g b le mo - 1) (rI_L hx1) ⟨by decide, by decide⟩ ⟨by omega, by omega⟩ ⟨by omega, by omega⟩
    have h1 := has1 (N := N) (m := bmm g b le mo) hx1 ⟨by omega, by omega⟩ c
    by_cases d : kp ≤ 0
    · obtain ⟨a, q', r1, r2⟩ := rises_lp (N := N) (sp := sp) (run' := run') (le := le) (mo := mo) (rz := cn g b) (pz := pmm g b) (rsc' := rsc') (rgo' := rgo') (rba' := rba') (rgA' := rgA') (rbA' := rbA') (ple' := ple') (pgr' := pgr') (pgo' := pgo') (pba' := pba') (pri' := pri') (stt := stt) hN ok hr hb hsa S4 hkp hmr c N q 0 0 0 1 (by decide) (Or.inr rfl) (by omega) (by omega) (by omega) (by omega)
      refine ⟨a, q', Or.inl ?_, ?_⟩
      · repeat (first | (with_reducible refine gd_ok ?_ ?_; focus (first | omega | assumption | ((repeat' refine And.intro ?_ ?_) <;> first | omega | assumption) | fail)) | (with_reducible refine ip_ok ?_ ?_; focus (first | omega | assumption | ((repeat' refine And.intro ?_ ?_) <;> first | omega | assumption) | fail)) | (with_reducible refine in_ok ?_ ?_; focus (first | omega | assumption | ((repeat' refine And.intro ?_ ?_) <;> first | omega | assumption) | fail)) | (rw [hset, so_bd]; try dsimp only) | (rw [h1, so_bd]; try dsimp only) | (rw [so_bd]; try dsimp only))
        exact r1
      · repeat (first | (with_reducible refine Rt.gd ?_ ?_; focus (first | omega | assumption | ((repeat' refine And.intro ?_ ?_) <;> first | omega | assumption) | fail)) | (with_reducible refine Rt.ip ?_ ?_; focus (first | omega | assumption | ((repeat' refine And.intro ?_ ?_) <;> first | omega | assumption) | fail)) | (with_reducible refine Rt.in_ ?_ ?_; focus (first | omega | assumption | ((repeat' refine And.intro ?_ ?_) <;> first | omega | assumption) | fail)) | (rw [lb1, so_bd]; try dsimp only) | (rw [i1, so_bd]; try dsimp only) | (rw [so_bd]; try dsimp only))
        exact r2
    · have hsm := hmr 0 (by decide) (by omega)
      obtain ⟨q1, e1⟩ := casesIn_ok (N := N) (q := q) hN ok hb S4 hsm c.1 c.2
      obtain ⟨a, q', r1, r2⟩ := rises_lp (N := N) (sp := sp) (run' := run') (le := le) (mo := mo) (rz := cn g b) (pz := pmm g b) (rsc' := rsc') (rgo' := rgo') (rba' := rba') (rgA' := rgA') (rbA' := rbA') (ple' := ple') (pgr' := pgr') (pgo' := pgo') (pba' := pba') (pri' := pri') (stt := stt) hN ok hr hb hsa S4 hkp hmr c N q1 0 0 (inb (cs g b) (bst g b le mo) (bmm g b le mo) S (mt 0) x1) 1 (by decide) (Or.inr rfl) (by omega) (by omega) (fun _ => rfl) (by omega)
      refine ⟨a, q', Or.inl ?_, ?_⟩
      · repeat (first | (with_reducible refine gd_ok ?_ ?_; focus (first | omega | assumption | ((repeat' refine And.intro ?_ ?_) <;> first | omega | assumption) | fail)) | (with_reducible refine ip_ok ?_ ?_; focus (first | omega | assumption | ((repeat' refine And.intro ?_ ?_) <;> first | omega | assumption) | fail)) | (with_reducible refine in_ok ?_ ?_; focus (first | omega | assumption | ((repeat' refine And.intro ?_ ?_) <;> first | omega | assumption) | fail)) | (rw [hset, so_bd]; try dsimp only) | (rw [h1, so_bd]; try dsimp only) | (rw [e1, so_bd]; try dsimp only) | (rw [so_bd]; try dsimp only))
        exact r1
      · repeat (first | (with_reducible refine Rt.gd ?_ ?_; focus (first | omega | assumption | ((repeat' refine And.intro ?_ ?_) <;> first | omega | assumption) | fail)) | (with_reducible refine Rt.ip ?_ ?_; focus (first | omega | assumption | ((repeat' refine And.intro ?_ ?_) <;> first | omega | assumption) | fail)) | (with_reducible refine Rt.in_ ?_ ?_; focus (first | omega | assumption | ((repeat' refine And.intro ?_ ?_) <;> first | omega | assumption) | fail)) | (rw [lb1, so_bd]; try dsimp only) | (rw [i1, so_bd]; try dsimp only) | (rw [so_bd]; try dsimp only))
        exact r2
  · have i1 := in0 (N := N) (v := x1) (lo := 0) (hi := bmm g b le mo - 1) (rI_L hx1) ⟨by decide, by decide⟩ ⟨by omega, by omega⟩ (by omega)
    refine ⟨-2, q, Or.inl ?_, ?_⟩
    · repeat (first | (with_reducible refine gd_ok ?_ ?_; focus (first | omega | assumption | ((repeat' refine And.intro ?_ ?_) <;> first | omega | assumption) | fail)) | (with_reducible refine ip_ok ?_ ?_; focus (first | omega | assumption | ((repeat' refine And.intro ?_ ?_) <;> first | omega | assumption) | fail)) | (with_reducible refine in_ok ?_ ?_; focus (first | omega | assumption | ((repeat' refine And.intro ?_ ?_) <;> first | omega | assumption) | fail)) | (rw [hset, so_bd]; try dsimp only) | (rw [has0 hx1 ⟨by omega, by omega⟩ c, so_bd]; try dsimp only) | (rw [so_bd]; try dsimp only))
      all_goals rfl
    · repeat (first | (with_reducible refine Rt.gd ?_ ?_; focus (first | omega | assumption | ((repeat' refine And.intro ?_ ?_) <;> first | omega | assumption) | fail)) | (with_reducible refine Rt.ip ?_ ?_; focus (first | omega | assumption | ((repeat' refine And.intro ?_ ?_) <;> first | omega | assumption) | fail)) | (with_reducible refine Rt.in_ ?_ ?_; focus (first | omega | assumption | ((repeat' refine And.intro ?_ ?_) <;> first | omega | assumption) | fail)) | (rw [lb1, so_bd]; try dsimp only) | (rw [i1, so_bd]; try dsimp only) | (rw [so_bd]; try dsimp only))
      all_goals exact Rt.so
set_option maxHeartbeats 4000000 in
theorem q_band (hN : 40000 ≤ N) (ok : okP g b) (hle : 0 ≤ le ∧ le ≤ 9999) (hmo : 1 ≤ mo ∧ mo ≤ 60) (hset : m_X12_settle N le mo g b sp sd rz rsc rgo rba rgA rbA pz ple pgr pgo pba pri bz ble bgr bgo bba bri run = some (1, cn g b, rsc', rgo', rba', rgA', rbA', pmm g b, ple', pgr', pgo', pba', pri', bmm g b le mo, ble', bgr', bgo', bba', bri', run')) (hS : Stl g b le mo rsc' rgo' rba' rgA' rbA' ple' pgr' pgo' pba' pri' ble' bgr' bgo' bba' bri') (hst : StA stt g b) (h3 : stt 3201 = le ∧ stt 3202 = mo) (hsm : SmR S la samp 0) {x1 x2 : Int} (hx1 : rI x1) (hx2 : rI x2) : AnsQ (m_X12_band N S la le mo g b sp sd rz rsc rgo rba rgA rbA pz ple pgr pgo pba pri bz ble bgr bgo bba bri q run x1 x2) (m_X13_band N stt samp z1 z2 s1 s2 s3 s4 x1 x2) (fun q => (1, cn g b, rsc', rgo', rba', rgA', rbA', pmm g b, ple', pgr', pgo', pba', pri', bmm g b le mo, ble', bgr', bgo', bba', bri', q, run')) (fun q => (sd, rz, rsc, rgo, rba, rgA, rbA, pz, ple, pgr, pgo, pba, pri, bz, ble, bgr, bgo, bba, bri, q, run)) := by
  obtain ⟨sc1, go1, ba1, ar1, lb1, hr, hsa, hb⟩ := laysB (z1 := z1) (z2 := z2) (s1 := s1) (s2 := s2) (s3 := s3) (s4 := s4) hN ok hle hmo hst h3
  obtain ⟨hn, hbm, hpm⟩ := le_mo ok hle hmo
  obtain ⟨S1, S2, S3, S4⟩ := hS
  rw [m_X12_band, m_X13_band]
  by_cases c : 0 ≤ x1 ∧ x1 < bmm g b le mo
  · have i1 := in1 (N := N) (v := x1) (lo := 0) (hi := bmm g b le mo - 1) (rI_L hx1) ⟨by decide, by decide⟩ ⟨by omega, by omega⟩ ⟨by omega, by omega⟩
    have h1 := has1 (N := N) (m := bmm g b le mo) hx1 ⟨by omega, by omega⟩ c
    obtain ⟨a1, a2, a3, a4, a5⟩ := S4 x1 c.1 c.2
    have e1 := hsa x1 c.1 (by omega)
    have e2 := hsa (x1 + 1) (by omega) (by omega)
    have b1 := hb.in_ (k := x1) c.1 (by omega)
    have b2 := hb.in_ (k := x1 + 1) (by omega) (by omega)
    have b3 := hb.2.2.2 x1 c.1 c.2
    have bc := hb.c ok c.1 c.2
    have r1 := (hr (bst g b le mo x1) b1.1 (by omega)).1
    have r2 := (hr (bst g b le mo (x1 + 1) - 1) (by omega) (by omega)).1
    have cc := casesC (N := N) ok hb S4 c.1 c.2
    have u0 := ofBand0 (N := N) hN ok hr hb hsa c.1 c.2
    have u1 := ofBand1 (N := N) hN ok hr hb hsa c.1 c.2
    have u2 := ofBand2 (N := N) hN ok hr hb hsa c.1 c.2
    have u2 : m_X13_ofBand N go1 ba1 ar1 x1 2 = some (bC (cG g b) (cB g b) (bst g b le mo) x1) := u2
    rcases (by omega : x2 = 0 ∨ x2 = 1 ∨ x2 = 2 ∨ x2 = 3 ∨ x2 = 4 ∨ x2 = 5 ∨ x2 = 6 ∨ x2 = 7 ∨ (7 < x2 ∨ x2 < 0)) with e | e | e | e | e | e | e | e | e
    · subst e
      refine ⟨cs g b (bst g b le mo x1), q, Or.inl ?_, ?_⟩
      · repeat (first | (with_reducible refine gd_ok ?_ ?_; focus (first | omega | assumption | ((repeat' refine And.intro ?_ ?_) <;> first | omega | assumption) | fail)) | (with_reducible refine ip_ok ?_ ?_; focus (first | omega | assumption | ((repeat' refine And.intro ?_ ?_) <;> first | omega | assumption) | fail)) | (with_reducible refine in_ok ?_ ?_; focus (first | omega | assumption | ((repeat' refine And.intro ?_ ?_) <;> first | omega | assumption) | fail)) | (rw [hset, so_bd]; try dsimp only) | (rw [h1, so_bd]; try dsimp only) | rw [a1] | (rw [so_bd]; try dsimp only))
        all_goals rfl
      · repeat (first | (with_reducible refine Rt.gd ?_ ?_; focus (first | omega | assumption | ((repeat' refine And.intro ?_ ?_) <;> first | omega | assumption) | fail)) | (with_reducible refine Rt.ip ?_ ?_; focus (first | omega | assumption | ((repeat' refine And.intro ?_ ?_) <;> first | omega | assumption) | fail)) | (with_reducible refine Rt.in_ ?_ ?_; focus (first | omega | assumption | ((repeat' refine And.intro ?_ ?_) <;> first | omega | assumption) | fail)) | (rw [lb1, so_bd]; try dsimp only) | (rw [i1, so_bd]; try dsimp only) | rw [e1] | rw [r1] | (rw [so_bd]; try dsimp only))
        all_goals exact Rt.so
    · subst e
      refine ⟨cs g b (bst g b le mo (x1 + 1) - 1), q, Or.inl ?_, ?_⟩
      · repeat (first | (with_reducible refine gd_ok ?_ ?_; focus (first | omega | assumption | ((repeat' refine And.intro ?_ ?_) <;> first | omega | assumption) | fail)) | (with_reducible refine ip_ok ?_ ?_; focus (first | omega | assumption | ((repeat' refine And.intro ?_ ?_) <;> first | omega | assumption) | fail)) | (with_reducible refine in_ok ?_ ?_; focus (first | omega | assumption | ((repeat' refine And.intro ?_ ?_) <;> first | omega | assumption) | fail)) | (rw [hset, so_bd]; try dsimp only) | (rw [h1, so_bd]; try dsimp only) | rw [a2] | (rw [so_bd]; try dsimp only))
        all_goals rfl
      · repeat (first | (with_reducible refine Rt.gd ?_ ?_; focus (first | omega | assumption | ((repeat' refine And.intro ?_ ?_) <;> first | omega | assumption) | fail)) | (with_reducible refine Rt.ip ?_ ?_; focus (first | omega | assumption | ((repeat' refine And.intro ?_ ?_) <;> first | omega | assumption) | fail)) | (with_reducible refine Rt.in_ ?_ ?_; focus (first | omega | assumption | ((repeat' refine And.intro ?_ ?_) <;> first | omega | assumption) | fail)) | (rw [lb1, so_bd]; try dsimp only) | (rw [i1, so_bd]; try dsimp only) | rw [e2] | rw [r2] | (rw [so_bd]; try dsimp only))
        all_goals exact Rt.so
    · subst e
      refine ⟨bG (cG g b) (bst g b le mo) x1, q, Or.inl ?_, ?_⟩
      · repeat (first | (with_reducible refine gd_ok ?_ ?_; focus (first | omega | assumption | ((repeat' refine And.intro ?_ ?_) <;> first | omega | assumption) | fail)) | (with_reducible refine ip_ok ?_ ?_; focus (first | omega | assumption | ((repeat' refine And.intro ?_ ?_) <;> first | omega | assumption) | fail)) | (with_reducible refine in_ok ?_ ?_; focus (first | omega | assumption | ((repeat' refine And.intro ?_ ?_) <;> first | omega | assumption) | fail)) | (rw [hset, so_bd]; try dsimp only) | (rw [h1, so_bd]; try dsimp only) | rw [a3] | (rw [so_bd]; try dsimp only))
        all_goals rfl
      · repeat (first | (with_reducible refine Rt.gd ?_ ?_; focus (first | omega | assumption | ((repeat' refine And.intro ?_ ?_) <;> first | omega | assumption) | fail)) | (with_reducible refine Rt.ip ?_ ?_; focus (first | omega | assumption | ((repeat' refine And.intro ?_ ?_) <;> first | omega | assumption) | fail)) | (with_reducible refine Rt.in_ ?_ ?_; focus (first | omega | assumption | ((repeat' refine And.intro ?_ ?_) <;> first | omega | assumption) | fail)) | (rw [lb1, so_bd]; try dsimp only) | (rw [i1, so_bd]; try dsimp only) | (rw [u0, so_bd]; try dsimp only) | (rw [so_bd]; try dsimp only))
        all_goals exact Rt.so
    · subst e
      refine ⟨bG (cB g b) (bst g b le mo) x1, q, Or.inl ?_, ?_⟩
      · repeat (first | (with_reducible refine gd_ok ?_ ?_; focus (first | omega | assumption | ((repeat' refine And.intro ?_ ?_) <;> first | omega | assumption) | fail)) | (with_reducible refine ip_ok ?_ ?_; focus (first | omega | assumption | ((repeat' refine And.intro ?_ ?_) <;> first | omega | assumption) | fail)) | (with_reducible refine in_ok ?_ ?_; focus (first | omega | assumption | ((repeat' refine And.intro ?_ ?_) <;> first | omega | assumption) | fail)) | (rw [hset, so_bd]; try dsimp only) | (rw [h1, so_bd]; try dsimp only) | rw [a4] | (rw [so_bd]; try dsimp only))
        all_goals rfl
      · repeat (first | (with_reducible refine Rt.gd ?_ ?_; focus (first | omega | assumption | ((repeat' refine And.intro ?_ ?_) <;> first | omega | assumption) | fail)) | (with_reducible refine Rt.ip ?_ ?_; focus (first | omega | assumption | ((repeat' refine And.intro ?_ ?_) <;> first | omega | assumption) | fail)) | (with_reducible refine Rt.in_ ?_ ?_; focus (first | omega | assumption | ((repeat' refine And.intro ?_ ?_) <;> first | omega | assumption) | fail)) | (rw [lb1, so_bd]; try dsimp only) | (rw [i1, so_bd]; try dsimp only) | (rw [u1, so_bd]; try dsimp only) | (rw [so_bd]; try dsimp only))
        all_goals exact Rt.so
    · subst e
      have t1 := told_ok hN (a := bG (cB g b) (bst g b le mo) x1) (b := bC (cG g b) (cB g b) (bst g b le mo) x1) (w := 4 - 4) (by omega) (by omega) ⟨by decide, by decide⟩
      have t2 := lowest_ok hN (a := bG (cB g b) (bst g b le mo) x1) (b := bC (cG g b) (cB g b) (bst g b le mo) x1) (w := 0) (by omega) (by omega) ⟨by decide, by decide⟩
      refine ⟨bG (cB g b) (bst g b le mo) x1 / (Int.gcd (bG (cB g b) (bst g b le mo) x1) (bC (cG g b) (cB g b) (bst g b le mo) x1) : Int), q, Or.inl ?_, ?_⟩
      · repeat (first | (with_reducible refine gd_ok ?_ ?_; focus (first | omega | assumption | ((repeat' refine And.intro ?_ ?_) <;> first | omega | assumption) | fail)) | (with_reducible refine ip_ok ?_ ?_; focus (first | omega | assumption | ((repeat' refine And.intro ?_ ?_) <;> first | omega | assumption) | fail)) | (with_reducible refine in_ok ?_ ?_; focus (first | omega | assumption | ((repeat' refine And.intro ?_ ?_) <;> first | omega | assumption) | fail)) | (rw [hset, so_bd]; try dsimp only) | (rw [h1, so_bd]; try dsimp only) | rw [a4] | (rw [cc, so_bd]; try dsimp only) | (rw [t2, so_bd]; try dsimp only) | (rw [so_bd]; try dsimp only))
        all_goals rfl
      · repeat (first | (with_reducible refine Rt.gd ?_ ?_; focus (first | omega | assumption | ((repeat' refine And.intro ?_ ?_) <;> first | omega | assumption) | fail)) | (with_reducible refine Rt.ip ?_ ?_; focus (first | omega | assumption | ((repeat' refine And.intro ?_ ?_) <;> first | omega | assumption) | fail)) | (with_reducible refine Rt.in_ ?_ ?_; focus (first | omega | assumption | ((repeat' refine And.intro ?_ ?_) <;> first | omega | assumption) | fail)) | (rw [lb1, so_bd]; try dsimp only) | (rw [i1, so_bd]; try dsimp only) | (rw [so_bd]; try dsimp only))
        rw [m_X13_band_b116]
        repeat (first | (with_reducible refine Rt.gd ?_ ?_; focus (first | omega | assumption | ((repeat' refine And.intro ?_ ?_) <;> first | omega | assumption) | fail)) | (with_reducible refine Rt.ip ?_ ?_; focus (first | omega | assumption | ((repeat' refine And.intro ?_ ?_) <;> first | omega | assumption) | fail)) | (with_reducible refine Rt.in_ ?_ ?_; focus (first | omega | assumption | ((repeat' refine And.intro ?_ ?_) <;> first | omega | assumption) | fail)) | (rw [u1, so_bd]; try dsimp only) | (rw [u2, so_bd]; try dsimp only) | (rw [t1, so_bd]; try dsimp only) | (rw [so_bd]; try dsimp only))
        all_goals exact Rt.so
    · subst e
      have t1 := told_ok hN (a := bG (cB g b) (bst g b le mo) x1) (b := bC (cG g b) (cB g b) (bst g b le mo) x1) (w := 5 - 4) (by omega) (by omega) ⟨by decide, by decide⟩
      have t2 := lowest_ok hN (a := bG (cB g b) (bst g b le mo) x1) (b := bC (cG g b) (cB g b) (bst g b le mo) x1) (w := 1) (by omega) (by omega) ⟨by decide, by decide⟩
      refine ⟨bC (cG g b) (cB g b) (bst g b le mo) x1 / (Int.gcd (bG (cB g b) (bst g b le mo) x1) (bC (cG g b) (cB g b) (bst g b le mo) x1) : Int), q, Or.inl ?_, ?_⟩
      · repeat (first | (with_reducible refine gd_ok ?_ ?_; focus (first | omega | assumption | ((repeat' refine And.intro ?_ ?_) <;> first | omega | assumption) | fail)) | (with_reducible refine ip_ok ?_ ?_; focus (first | omega | assumption | ((repeat' refine And.intro ?_ ?_) <;> first | omega | assumption) | fail)) | (with_reducible refine in_ok ?_ ?_; focus (first | omega | assumption | ((repeat' refine And.intro ?_ ?_) <;> first | omega | assumption) | fail)) | (rw [hset, so_bd]; try dsimp only) | (rw [h1, so_bd]; try dsimp only) | rw [a4] | (rw [cc, so_bd]; try dsimp only) | (rw [t2, so_bd]; try dsimp only) | (rw [so_bd]; try dsimp only))
        all_goals rfl
      · repeat (first | (with_reducible refine Rt.gd ?_ ?_; focus (first | omega | assumption | ((repeat' refine And.intro ?_ ?_) <;> first | omega | assumption) | fail)) | (with_reducible refine Rt.ip ?_ ?_; focus (first | omega | assumption | ((repeat' refine And.intro ?_ ?_) <;> first | omega | assumption) | fail)) | (with_reducible refine Rt.in_ ?_ ?_; focus (first | omega | assumption | ((repeat' refine And.intro ?_ ?_) <;> first | omega | assumption) | fail)) | (rw [lb1, so_bd]; try dsimp only) | (rw [i1, so_bd]; try dsimp only) | (rw [so_bd]; try dsimp only))
        rw [m_X13_band_b116]
        repeat (first | (with_reducible refine Rt.gd ?_ ?_; focus (first | omega | assumption | ((repeat' refine And.intro ?_ ?_) <;> first | omega | assumption) | fail)) | (with_reducible refine Rt.ip ?_ ?_; focus (first | omega | assumption | ((repeat' refine And.intro ?_ ?_) <;> first | omega | assumption) | fail)) | (with_reducible refine Rt.in_ ?_ ?_; focus (first | omega | assumption | ((repeat' refine And.intro ?_ ?_) <;> first | omega | assumption) | fail)) | (rw [u1, so_bd]; try dsimp only) | (rw [u2, so_bd]; try dsimp only) | (rw [t1, so_bd]; try dsimp only) | (rw [so_bd]; try dsimp only))
        all_goals exact Rt.so
    · subst e
      refine ⟨bst g b le mo (x1 + 1) - bst g b le mo x1, q, Or.inl ?_, ?_⟩
      · repeat (first | (with_reducible refine gd_ok ?_ ?_; focus (first | omega | assumption | ((repeat' refine And.intro ?_ ?_) <;> first | omega | assumption) | fail)) | (with_reducible refine ip_ok ?_ ?_; focus (first | omega | assumption | ((repeat' refine And.intro ?_ ?_) <;> first | omega | assumption) | fail)) | (with_reducible refine in_ok ?_ ?_; focus (first | omega | assumption | ((repeat' refine And.intro ?_ ?_) <;> first | omega | assumption) | fail)) | (rw [hset, so_bd]; try dsimp only) | (rw [h1, so_bd]; try dsimp only) | rw [a5] | (rw [so_bd]; try dsimp only))
        all_goals rfl
      · repeat (first | (with_reducible refine Rt.gd ?_ ?_; focus (first | omega | assumption | ((repeat' refine And.intro ?_ ?_) <;> first | omega | assumption) | fail)) | (with_reducible refine Rt.ip ?_ ?_; focus (first | omega | assumption | ((repeat' refine And.intro ?_ ?_) <;> first | omega | assumption) | fail)) | (with_reducible refine Rt.in_ ?_ ?_; focus (first | omega | assumption | ((repeat' refine And.intro ?_ ?_) <;> first | omega | assumption) | fail)) | (rw [lb1, so_bd]; try dsimp only) | (rw [i1, so_bd]; try dsimp only) | rw [e1] | rw [e2] | (rw [so_bd]; try dsimp only))
        all_goals exact Rt.so
    · subst e
      obtain ⟨q', e3⟩ := casesIn_ok (N := N) (q := q) hN ok hb S4 hsm c.1 c.2
      refine ⟨inb (cs g b) (bst g b le mo) (bmm g b le mo) S la x1, q', Or.inl ?_, ?_⟩
      · repeat (first | (with_reducible refine gd_ok ?_ ?_; focus (first | omega | assumption | ((repeat' refine And.intro ?_ ?_) <;> first | omega | assumption) | fail)) | (with_reducible refine ip_ok ?_ ?_; focus (first | omega | assumption | ((repeat' refine And.intro ?_ ?_) <;> first | omega | assumption) | fail)) | (with_reducible refine in_ok ?_ ?_; focus (first | omega | assumption | ((repeat' refine And.intro ?_ ?_) <;> first | omega | assumption) | fail)) | (rw [hset, so_bd]; try dsimp only) | (rw [h1, so_bd]; try dsimp only) | (rw [e3, so_bd]; try dsimp only) | (rw [so_bd]; try dsimp only))
        all_goals rfl
      · repeat (first | (with_reducible refine Rt.gd ?_ ?_; focus (first | omega | assumption | ((repeat' refine And.intro ?_ ?_) <;> first | omega | assumption) | fail)) | (with_reducible refine Rt.ip ?_ ?_; focus (first | omega | assumption | ((repeat' refine And.intro ?_ ?_) <;> first | omega | assumption) | fail)) | (with_reducible refine Rt.in_ ?_ ?_; focus (first | omega | assumption | ((repeat' refine And.intro ?_ ?_) <;> first | omega | assumption) | fail)) | (rw [lb1, so_bd]; try dsimp only) | (rw [i1, so_bd]; try dsimp only) | (rw [inBand_s_ok hN ok hr hb hsa hsm ⟨by decide, by decide⟩ hx1, so_bd]; try dsimp only) | (rw [so_bd]; try dsimp only))
        all_goals exact Rt.so
    · refine ⟨-2, q, Or.inl ?_, ?_⟩
      · repeat (first | (with_reducible refine gd_ok ?_ ?_; focus (first | omega | assumption | ((repeat' refine And.intro ?_ ?_) <;> first | omega | assumption) | fail)) | (with_reducible refine ip_ok ?_ ?_; focus (first | omega | assumption | ((repeat' refine And.intro ?_ ?_) <;> first | omega | assumption) | fail)) | (with_reducible refine in_ok ?_ ?_; focus (first | omega | assumption | ((repeat' refine And.intro ?_ ?_) <;> first | omega | assumption) | fail)) | (rw [hset, so_bd]; try dsimp only) | (rw [h1, so_bd]; try dsimp only) | (rw [so_bd]; try dsimp only))
        all_goals rfl
      · repeat (first | (with_reducible refine Rt.gd ?_ ?_; focus (first | omega | assumption | ((repeat' refine And.intro ?_ ?_) <;> first | omega | assumption) | fail)) | (with_reducible refine Rt.ip ?_ ?_; focus (first | omega | assumption | ((repeat' refine And.intro ?_ ?_) <;> first | omega | assumption) | fail)) | (with_reducible refine Rt.in_ ?_ ?_; focus (first | omega | assumption | ((repeat' refine And.intro ?_ ?_) <;> first | omega | assumption) | fail)) | (rw [lb1, so_bd]; try dsimp only) | (rw [i1, so_bd]; try dsimp only) | (rw [so_bd]; try dsimp only))
        all_goals exact Rt.so
  · have i1 := in0 (N := N) (v := x1) (lo := 0) (hi := bmm g b le mo - 1) (rI_L hx1) ⟨by decide, by decide⟩ ⟨by omega, by omega⟩ (by omega)
    refine ⟨-2, q, Or.inl ?_, ?_⟩
    · repeat (first | (with_reducible refine gd_ok ?_ ?_; focus (first | omega | assumption | ((repeat' refine And.intro ?_ ?_) <;> first | omega | assumption) | fail)) | (with_reducible refine ip_ok ?_ ?_; focus (first | omega | assumption | ((repeat' refine And.intro ?_ ?_) <;> first | omega | assumption) | fail)) | (with_reducible refine in_ok ?_ ?_; focus (first | omega | assumption | ((repeat' refine And.intro ?_ ?_) <;> first | omega | assumption) | fail)) | (rw [hset, so_bd]; try dsimp only) | (rw [has0 hx1 ⟨by omega, by omega⟩ c, so_bd]; try dsimp only) | (rw [so_bd]; try dsimp only))
      all_goals rfl
    · repeat (first | (with_reducible refine Rt.gd ?_ ?_; focus (first | omega | assumption | ((repeat' refine And.intro ?_ ?_) <;> first | omega | assumption) | fail)) | (with_reducible refine Rt.ip ?_ ?_; focus (first | omega | assumption | ((repeat' refine And.intro ?_ ?_) <;> first | omega | assumption) | fail)) | (with_reducible refine Rt.in_ ?_ ?_; focus (first | omega | assumption | ((repeat' refine And.intro ?_ ?_) <;> first | omega | assumption) | fail)) | (rw [lb1, so_bd]; try dsimp only) | (rw [i1, so_bd]; try dsimp only) | (rw [so_bd]; try dsimp only))
      all_goals exact Rt.so
end
