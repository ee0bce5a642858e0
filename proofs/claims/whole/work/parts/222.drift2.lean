/-! the same answer: drift, months, bands -/
def AnsQ {α β γ : Type} (x : Option (α × β)) (y : Option (α × γ)) (t1 t2 : (Int → Int) → β) : Prop := ∃ a q, (x = some (a, t1 q) ∨ x = some (a, t2 q)) ∧ Rt y a
def MoR (S : SM) (mt : Int → Nat) (mp : Int → Int) (k : Int) : Prop := ∀ i, 0 ≤ i → i < k → SmR S (mt i) mp (1000 * i)
section
variable {N : Nat}
theorem isMonth1 {k i : Int} (hk : 0 ≤ k ∧ k ≤ 12) (h : 0 ≤ i ∧ i < k) : m_X12_isMonth N k i = some 1 ∧ m_X13_isMonth N k i = some 1 := by
  constructor
  · rw [m_X12_isMonth]
    repeat (first | (with_reducible refine gd_ok ?_ ?_; focus (first | omega | assumption | ((repeat' refine And.intro ?_ ?_) <;> first | omega | assumption) | fail)) | (with_reducible refine ip_ok ?_ ?_; focus (first | omega | assumption | ((repeat' refine And.intro ?_ ?_) <;> first | omega | assumption) | fail)) | (with_reducible refine in_ok ?_ ?_; focus (first | omega | assumption | ((repeat' refine And.intro ?_ ?_) <;> first | omega | assumption) | fail)) | (rw [so_bd]; try dsimp only))
    all_goals rfl
  · rw [m_X13_isMonth]
    repeat (first | (with_reducible refine gd_ok ?_ ?_; focus (first | omega | assumption | ((repeat' refine And.intro ?_ ?_) <;> first | omega | assumption) | fail)) | (with_reducible refine ip_ok ?_ ?_; focus (first | omega | assumption | ((repeat' refine And.intro ?_ ?_) <;> first | omega | assumption) | fail)) | (with_reducible refine in_ok ?_ ?_; focus (first | omega | assumption | ((repeat' refine And.intro ?_ ?_) <;> first | omega | assumption) | fail)) | (rw [in1 (N := N) (v := i) (lo := 0) (hi := k - 1) ⟨by omega, by omega⟩ ⟨by decide, by decide⟩ ⟨by omega, by omega⟩ ⟨by omega, by omega⟩, so_bd]; try dsimp only) | (rw [so_bd]; try dsimp only))
    all_goals rfl
theorem isMonth0 {k i : Int} (hk : 0 ≤ k ∧ k ≤ 12) (hi : rI i) (h : ¬ (0 ≤ i ∧ i < k)) : m_X12_isMonth N k i = some 0 ∧ m_X13_isMonth N k i = some 0 := by
  constructor
  · rw [m_X12_isMonth]
    by_cases c : i < 0
    · repeat (first | (with_reducible refine gd_ok ?_ ?_; focus (first | omega | assumption | ((repeat' refine And.intro ?_ ?_) <;> first | omega | assumption) | fail)) | (with_reducible refine ip_ok ?_ ?_; focus (first | omega | assumption | ((repeat' refine And.intro ?_ ?_) <;> first | omega | assumption) | fail)) | (with_reducible refine in_ok ?_ ?_; focus (first | omega | assumption | ((repeat' refine And.intro ?_ ?_) <;> first | omega | assumption) | fail)) | (rw [so_bd]; try dsimp only))
      all_goals rfl
    · repeat (first | (with_reducible refine gd_ok ?_ ?_; focus (first | omega | assumption | ((repeat' refine And.intro ?_ ?_) <;> first | omega | assumption) | fail)) | (with_reducible refine ip_ok ?_ ?_; focus (first | omega | assumption | ((repeat' refine And.intro ?_ ?_) <;> first | omega | assumption) | fail)) | (with_reducible refine in_ok ?_ ?_; focus (first | omega | assumption | ((repeat' refine And.intro ?_ ?_) <;> first | omega | assumption) | fail)) | (rw [so_bd]; try dsimp only))
      all_goals rfl
  · rw [m_X13_isMonth]
    repeat (first | (with_reducible refine gd_ok ?_ ?_; focus (first | omega | assumption | ((repeat' refine And.intro ?_ ?_) <;> first | omega | assumption) | fail)) | (with_reducible refine ip_ok ?_ ?_; focus (first | omega | assumption | ((repeat' refine And.intro ?_ ?_) <;> first | omega | assumption) | fail)) | (with_reducible refine in_ok ?_ ?_; focus (first | omega | assumption | ((repeat' refine And.intro ?_ ?_) <;> first | omega | assumption) | fail)) | (rw [in0 (N := N) (v := i) (lo := 0) (hi := k - 1) (rI_L hi) ⟨by decide, by decide⟩ ⟨by omega, by omega⟩ (by omega), so_bd]; try dsimp only) | (rw [so_bd]; try dsimp only))
    all_goals rfl
end
section
variable {N : Nat} {g b stt : Int → Int} {le mo sp run run' : Int} {sd rz pz bz : Int} {rsc rgo rba rgA rbA ple pgr pgo pba pri ble bgr bgo bba bri : Int → Int} {rsc' rgo' rba' rgA' rbA' ple' pgr' pgo' pba' pri' ble' bgr' bgo' bba' bri' : Int → Int} {z1 z2 : Int} {s1 s2 s3 s4 : Int → Int}
variable {S : SM} {la : Nat} {samp mp q : Int → Int} {mt : Int → Nat} {d1 d2 d3 kp : Int}
theorem bmm_1 {g b : Int → Int} {le mo : Int} (ok : okP g b) (hle : 0 ≤ le ∧ le ≤ 9999) (hmo : 1 ≤ mo ∧ mo ≤ 60) (hn : 0 < cn g b) : 1 ≤ bmm g b le mo := by
  have hb := bst_Bd ok hle hmo
  have e1 := hb.2.1
  have e2 := hb.2.2.1
  have e3 := hb.1
  by_cases z : bmm g b le mo = 0
  · rw [z] at e2
    omega
  · omega
theorem C_pos {g b : Int → Int} (ok : okP g b) (hn : 0 < cn g b) : 0 < cG g b (cn g b) + cB g b (cn g b) := by
  have cd := cC_d (g := g) (b := b) (Int.le_refl 0) (cn_0 g b) (Int.le_refl _)
  have y1 : cG g b 0 = 0 := rfl
  have y2 : cB g b 0 = 0 := rfl
  omega
set_option maxHeartbeats 2000000 in
theorem q_drift (hN : 40000 ≤ N) (ok : okP g b) (hle : 0 ≤ le ∧ le ≤ 9999) (hmo : 1 ≤ mo ∧ mo ≤ 60) (hset : m_X12_settle N le mo g b sp sd rz rsc rgo rba rgA rbA pz ple pgr pgo pba pri bz ble bgr bgo bba bri run = some (1, cn g b, rsc', rgo', rba', rgA', rbA', pmm g b, ple', pgr', pgo', pba', pri', bmm g b le mo, ble', bgr', bgo', bba', bri', run')) (hS : Stl g b le mo rsc' rgo' rba' rgA' rbA' ple' pgr' pgo' pba' pri' ble' bgr' bgo' bba' bri') (hst : StA stt g b) (h3 : stt 3201 = le ∧ stt 3202 = mo) (hsm : SmR S la samp 0) {x1 : Int} (hx1 : rI x1) : AnsQ (m_X12_drift N S la le mo g b sp sd rz rsc rgo rba rgA rbA pz ple pgr pgo pba pri bz ble bgr bgo bba bri q run x1) (m_X13_drift N stt samp z1 z2 d1 d2 d3 s1 s2 s3 s4 x1) (fun q => (1, cn g b, rsc', rgo', rba', rgA', rbA', pmm g b, ple', pgr', pgo', pba', pri', bmm g b le mo, ble', bgr', bgo', bba', bri', q, run')) (fun q => (sd, rz, rsc, rgo, rba, rgA, rbA, pz, ple, pgr, pgo, pba, pri, bz, ble, bgr, bgo, bba, bri, q, run)) := by
  obtain ⟨hn, hbm, hpm⟩ := le_mo ok hle hmo
  obtain ⟨S1, S2, S3, S4⟩ := hS
  have hb := bst_Bd ok hle hmo
  have h1 := hsm.1
  have t := hsm.tot
  rw [m_X12_drift, m_X13_drift]
  by_cases c : 0 ≤ x1 ∧ x1 ≤ 2
  · have i1 := in1 (N := N) (rI_L hx1) ⟨by decide, by decide⟩ ⟨by decide, by decide⟩ c
    by_cases z : cn g b = 0 ∨ smTotal S la = 0
    · obtain ⟨r, e1⟩ := ldrift_s0 (N := N) (z1 := z1) (z2 := z2) (d1 := d1) (d2 := d2) (d3 := d3) (s1 := s1) (s2 := s2) (s3 := s3) (s4 := s4) hN ok hle hmo hst h3 hsm ⟨by decide, by decide⟩ z
      refine ⟨-9223372036854775808, q, Or.inl ?_, ?_⟩
      · by_cases y : cn g b = 0
        · repeat (first | (with_reducible refine gd_ok ?_ ?_; focus (first | omega | assumption | ((repeat' refine And.intro ?_ ?_) <;> first | omega | assumption) | fail)) | (with_reducible refine ip_ok ?_ ?_; focus (first | omega | assumption | ((repeat' refine And.intro ?_ ?_) <;> first | omega | assumption) | fail)) | (with_reducible refine in_ok ?_ ?_; focus (first | omega | assumption | ((repeat' refine And.intro ?_ ?_) <;> first | omega | assumption) | fail)) | (rw [hset, so_bd]; try dsimp only) | (rw [so_bd]; try dsimp only))
          all_goals rfl
        · repeat (first | (with_reducible refine gd_ok ?_ ?_; focus (first | omega | assumption | ((repeat' refine And.intro ?_ ?_) <;> first | omega | assumption) | fail)) | (with_reducible refine ip_ok ?_ ?_; focus (first | omega | assumption | ((repeat' refine And.intro ?_ ?_) <;> first | omega | assumption) | fail)) | (with_reducible refine in_ok ?_ ?_; focus (first | omega | assumption | ((repeat' refine And.intro ?_ ?_) <;> first | omega | assumption) | fail)) | (rw [hset, so_bd]; try dsimp only) | (rw [so_bd]; try dsimp only))
          all_goals rfl
      · repeat (first | (with_reducible refine Rt.gd ?_ ?_; focus (first | omega | assumption | ((repeat' refine And.intro ?_ ?_) <;> first | omega | assumption) | fail)) | (with_reducible refine Rt.ip ?_ ?_; focus (first | omega | assumption | ((repeat' refine And.intro ?_ ?_) <;> first | omega | assumption) | fail)) | (with_reducible refine Rt.in_ ?_ ?_; focus (first | omega | assumption | ((repeat' refine And.intro ?_ ?_) <;> first | omega | assumption) | fail)) | (rw [i1, so_bd]; try dsimp only) | (rw [e1, so_bd]; try dsimp only) | (rw [so_bd]; try dsimp only))
        all_goals exact Rt.so
    · obtain ⟨sc, go, ba, st', e1⟩ := ldrift_s1 (N := N) (z1 := z1) (z2 := z2) (d1 := d1) (d2 := d2) (d3 := d3) (s1 := s1) (s2 := s2) (s3 := s3) (s4 := s4) hN ok hle hmo hst h3 hsm ⟨by decide, by decide⟩ (by omega) (by omega)
      have hm1 := bmm_1 ok hle hmo (by omega)
      have cp := C_pos ok (by omega)
      have nb := C_b ok hn.1 (Int.le_refl _)
      by_cases w : x1 = 2
      · obtain ⟨q', e2⟩ := farBand_ok (N := N) (q := q) hN ok hb hm1 S4 S2 hsm
        have ai := am_in (fun k => - offB g b (bst g b le mo) (bmm g b le mo) S la k) (bmm g b le mo - 1).toNat
        refine ⟨am (fun k => - offB g b (bst g b le mo) (bmm g b le mo) S la k) (bmm g b le mo - 1).toNat, q', Or.inl ?_, ?_⟩
        · repeat (first | (with_reducible refine gd_ok ?_ ?_; focus (first | omega | assumption | ((repeat' refine And.intro ?_ ?_) <;> first | omega | assumption) | fail)) | (with_reducible refine ip_ok ?_ ?_; focus (first | omega | assumption | ((repeat' refine And.intro ?_ ?_) <;> first | omega | assumption) | fail)) | (with_reducible refine in_ok ?_ ?_; focus (first | omega | assumption | ((repeat' refine And.intro ?_ ?_) <;> first | omega | assumption) | fail)) | (rw [hset, so_bd]; try dsimp only) | (rw [e2, so_bd]; try dsimp only) | (rw [so_bd]; try dsimp only))
          all_goals rfl
        · repeat (first | (with_reducible refine Rt.gd ?_ ?_; focus (first | omega | assumption | ((repeat' refine And.intro ?_ ?_) <;> first | omega | assumption) | fail)) | (with_reducible refine Rt.ip ?_ ?_; focus (first | omega | assumption | ((repeat' refine And.intro ?_ ?_) <;> first | omega | assumption) | fail)) | (with_reducible refine Rt.in_ ?_ ?_; focus (first | omega | assumption | ((repeat' refine And.intro ?_ ?_) <;> first | omega | assumption) | fail)) | (rw [i1, so_bd]; try dsimp only) | (rw [e1, so_bd]; try dsimp only) | (rw [so_bd]; try dsimp only))
          all_goals exact Rt.so
      · obtain ⟨q', e2⟩ := driftAbove_ok (N := N) (q := q) hN ok hb S4 S2 hsm
        have e3 := driftBelow_ok (N := N) ok S2 hsm
        have dA := drA_in ok hb hsm hbm.1 (Int.le_refl _)
        have mm := mul_bd (a := cG g b (cn g b) + cB g b (cn g b)) (b := smTotal S la) (A := 11880) (B := 11880) (by omega) (by omega)
        have mp := Int.mul_pos cp (show 0 < smTotal S la by omega)
        have t1 := told_ok hN (a := drA g b (bst g b le mo) (bmm g b le mo) S la (bmm g b le mo)) (b := (cG g b (cn g b) + cB g b (cn g b)) * smTotal S la) (w := x1) (by omega) (by omega) hx1
        have t2 := lowest_ok hN (a := drA g b (bst g b le mo) (bmm g b le mo) S la (bmm g b le mo)) (b := (cG g b (cn g b) + cB g b (cn g b)) * smTotal S la) (w := x1) (by omega) (by omega) hx1
        refine ⟨if x1 = 0 then drA g b (bst g b le mo) (bmm g b le mo) S la (bmm g b le mo) / (Int.gcd (drA g b (bst g b le mo) (bmm g b le mo) S la (bmm g b le mo)) ((cG g b (cn g b) + cB g b (cn g b)) * smTotal S la) : Int) else (cG g b (cn g b) + cB g b (cn g b)) * smTotal S la / (Int.gcd (drA g b (bst g b le mo) (bmm g b le mo) S la (bmm g b le mo)) ((cG g b (cn g b) + cB g b (cn g b)) * smTotal S la) : Int), q', Or.inl ?_, ?_⟩
        · repeat (first | (with_reducible refine gd_ok ?_ ?_; focus (first | omega | assumption | ((repeat' refine And.intro ?_ ?_) <;> first | omega | assumption) | fail)) | (with_reducible refine ip_ok ?_ ?_; focus (first | omega | assumption | ((repeat' refine And.intro ?_ ?_) <;> first | omega | assumption) | fail)) | (with_reducible refine in_ok ?_ ?_; focus (first | omega | assumption | ((repeat' refine And.intro ?_ ?_) <;> first | omega | assumption) | fail)) | (rw [hset, so_bd]; try dsimp only) | (rw [e2, so_bd]; try dsimp only) | (rw [e3, so_bd]; try dsimp only) | (rw [t2, so_bd]; try dsimp only) | (rw [so_bd]; try dsimp only))
          all_goals rfl
        · repeat (first | (with_reducible refine Rt.gd ?_ ?_; focus (first | omega | assumption | ((repeat' refine And.intro ?_ ?_) <;> first | omega | assumption) | fail)) | (with_reducible refine Rt.ip ?_ ?_; focus (first | omega | assumption | ((repeat' refine And.intro ?_ ?_) <;> first | omega | assumption) | fail)) | (with_reducible refine Rt.in_ ?_ ?_; focus (first | omega | assumption | ((repeat' refine And.intro ?_ ?_) <;> first | omega | assumption) | fail)) | (rw [i1, so_bd]; try dsimp only) | (rw [e1, so_bd]; try dsimp only) | (rw [t1, so_bd]; try dsimp only) | (rw [so_bd]; try dsimp only))
          all_goals exact Rt.so
  · refine ⟨-9223372036854775808, q, Or.inl ?_, ?_⟩
    · by_cases d : x1 < 0
      · repeat (first | (with_reducible refine gd_ok ?_ ?_; focus (first | omega | assumption | ((repeat' refine And.intro ?_ ?_) <;> first | omega | assumption) | fail)) | (with_reducible refine ip_ok ?_ ?_; focus (first | omega | assumption | ((repeat' refine And.intro ?_ ?_) <;> first | omega | assumption) | fail)) | (with_reducible refine in_ok ?_ ?_; focus (first | omega | assumption | ((repeat' refine And.intro ?_ ?_) <;> first | omega | assumption) | fail)) | (rw [hset, so_bd]; try dsimp only) | (rw [so_bd]; try dsimp only))
        all_goals rfl
      · repeat (first | (with_reducible refine gd_ok ?_ ?_; focus (first | omega | assumption | ((repeat' refine And.intro ?_ ?_) <;> first | omega | assumption) | fail)) | (with_reducible refine ip_ok ?_ ?_; focus (first | omega | assumption | ((repeat' refine And.intro ?_ ?_) <;> first | omega | assumption) | fail)) | (with_reducible refine in_ok ?_ ?_; focus (first | omega | assumption | ((repeat' refine And.intro ?_ ?_) <;> first | omega | assumption) | fail)) | (rw [hset, so_bd]; try dsimp only) | (rw [so_bd]; try dsimp only))
        all_goals rfl
    · repeat (first | (with_reducible refine Rt.gd ?_ ?_; focus (first | omega | assumption | ((repeat' refine And.intro ?_ ?_) <;> first | omega | assumption) | fail)) | (with_reducible refine Rt.ip ?_ ?_; focus (first | omega | assumption | ((repeat' refine And.intro ?_ ?_) <;> first | omega | assumption) | fail)) | (with_reducible refine Rt.in_ ?_ ?_; focus (first | omega | assumption | ((repeat' refine And.intro ?_ ?_) <;> first | omega | assumption) | fail)) | (rw [in0 (rI_L hx1) ⟨by decide, by decide⟩ ⟨by decide, by decide⟩ c, so_bd]; try dsimp only) | (rw [so_bd]; try dsimp only))
      all_goals exact Rt.so
set_option maxHeartbeats 2000000 in
theorem q_off (hN : 40000 ≤ N) (ok : okP g b) (hle : 0 ≤ le ∧ le ≤ 9999) (hmo : 1 ≤ mo ∧ mo ≤ 60) (hset : m_X12_settle N le mo g b sp sd rz rsc rgo rba rgA rbA pz ple pgr pgo pba pri bz ble bgr bgo bba bri run = some (1, cn g b, rsc', rgo', rba', rgA', rbA', pmm g b, ple', pgr', pgo', pba', pri', bmm g b le mo, ble', bgr', bgo', bba', bri', run')) (hS : Stl g b le mo rsc' rgo' rba' rgA' rbA' ple' pgr' pgo' pba' pri' ble' bgr' bgo' bba' bri') (hst : StA stt g b) (h3 : stt 3201 = le ∧ stt 3202 = mo) (hkp : 0 ≤ kp ∧ kp ≤ 12) (hmr : MoR S mt mp kp) (hmz : ∀ i, 0 ≤ i → i < kp → ¬ smTotal S (mt i) = 0) {x1 x2 : Int} (hx1 : rI x1) (hx2 : rI x2) : AnsQ (m_X12_off N S kp le mo g b mt sp sd rz rsc rgo rba rgA rbA pz ple pgr pgo pba pri bz ble bgr bgo bba bri q run x1 x2) (m_X13_off N kp stt mp z1 z2 d1 d2 d3 s1 s2 s3 s4 x1 x2) (fun q => (1, cn g b, rsc', rgo', rba', rgA', rbA', pmm g b, ple', pgr', pgo', pba', pri', bmm g b le mo, ble', bgr', bgo', bba', bri', q, run')) (fun q => (sd, rz, rsc, rgo, rba, rgA, rbA, pz, ple, pgr, pgo, pba, pri, bz, ble, bgr, bgo, bba, bri, q, run)) := by
  obtain ⟨hn, hbm, hpm⟩ := le_mo ok hle hmo
  obtain ⟨S1, S2, S3, S4⟩ := hS
  have hb := bst_Bd ok hle hmo
  rw [m_X12_off, m_X13_off]
  by_cases e : 0 ≤ x1 ∧ x1 < kp
  · have e0 := isMonth1 (N := N) hkp e
    have hsm := hmr x1 e.1 e.2
    have hz := hmz x1 e.1 e.2
    have h1 := hsm.1
    have t := hsm.tot
    by_cases c : 0 ≤ x2 ∧ x2 ≤ 1
    · have i1 := in1 (N := N) (rI_L hx2) ⟨by decide, by decide⟩ ⟨by decide, by decide⟩ c
      by_cases z : cn g b = 0
      · obtain ⟨r, e1⟩ := ldrift_m0 (N := N) (z1 := z1) (z2 := z2) (d1 := d1) (d2 := d2) (d3 := d3) (s1 := s1) (s2 := s2) (s3 := s3) (s4 := s4) hN ok hle hmo hst h3 hsm ⟨by omega, by omega⟩ (Or.inl z)
        refine ⟨-9223372036854775808, q, Or.inl ?_, ?_⟩
        · repeat (first | (with_reducible refine gd_ok ?_ ?_; focus (first | omega | assumption | ((repeat' refine And.intro ?_ ?_) <;> first | omega | assumption) | fail)) | (with_reducible refine ip_ok ?_ ?_; focus (first | omega | assumption | ((repeat' refine And.intro ?_ ?_) <;> first | omega | assumption) | fail)) | (with_reducible refine in_ok ?_ ?_; focus (first | omega | assumption | ((repeat' refine And.intro ?_ ?_) <;> first | omega | assumption) | fail)) | (rw [hset, so_bd]; try dsimp only) | (rw [e0.1, so_bd]; try dsimp only) | (rw [so_bd]; try dsimp only))
          all_goals rfl
        · repeat (first | (with_reducible refine Rt.gd ?_ ?_; focus (first | omega | assumption | ((repeat' refine And.intro ?_ ?_) <;> first | omega | assumption) | fail)) | (with_reducible refine Rt.ip ?_ ?_; focus (first | omega | assumption | ((repeat' refine And.intro ?_ ?_) <;> first | omega | assumption) | fail)) | (with_reducible refine Rt.in_ ?_ ?_; focus (first | omega | assumption | ((repeat' refine And.intro ?_ ?_) <;> first | omega | assumption) | fail)) | (rw [e0.2, so_bd]; try dsimp only) | (rw [i1, so_bd]; try dsimp only) | (rw [e1, so_bd]; try dsimp only) | (rw [so_bd]; try dsimp only))
          all_goals exact Rt.so
      · obtain ⟨sc, go, ba, st', e1⟩ := ldrift_m1 (N := N) (z1 := z1) (z2 := z2) (d1 := d1) (d2 := d2) (d3 := d3) (s1 := s1) (s2 := s2) (s3 := s3) (s4 := s4) hN ok hle hmo hst h3 hsm ⟨by omega, by omega⟩ (by omega) hz
        have hm1 := bmm_1 ok hle hmo (by omega)
        have cp := C_pos ok (by omega)
        have nb := C_b ok hn.1 (Int.le_refl _)
        obtain ⟨q', e2⟩ := driftAbove_ok (N := N) (q := q) hN ok hb S4 S2 hsm
        have e3 := driftBelow_ok (N := N) ok S2 hsm
        have dA := drA_in ok hb hsm hbm.1 (Int.le_refl _)
        have mm := mul_bd (a := cG g b (cn g b) + cB g b (cn g b)) (b := smTotal S (mt x1)) (A := 11880) (B := 11880) (by omega) (by omega)
        have mp' := Int.mul_pos cp (show 0 < smTotal S (mt x1) by omega)
        have t1 := told_ok hN (a := drA g b (bst g b le mo) (bmm g b le mo) S (mt x1) (bmm g b le mo)) (b := (cG g b (cn g b) + cB g b (cn g b)) * smTotal S (mt x1)) (w := x2) (by omega) (by omega) hx2
        have t2 := lowest_ok hN (a := drA g b (bst g b le mo) (bmm g b le mo) S (mt x1) (bmm g b le mo)) (b := (cG g b (cn g b) + cB g b (cn g b)) * smTotal S (mt x1)) (w := x2) (by omega) (by omega) hx2
        refine ⟨if x2 = 0 then drA g b (bst g b le mo) (bmm g b le mo) S (mt x1) (bmm g b le mo) / (Int.gcd (drA g b (bst g b le mo) (bmm g b le mo) S (mt x1) (bmm g b le mo)) ((cG g b (cn g b) + cB g b (cn g b)) * smTotal S (mt x1)) : Int) else (cG g b (cn g b) + cB g b (cn g b)) * smTotal S (mt x1) / (Int.gcd (drA g b (bst g b le mo) (bmm g b le mo) S (mt x1) (bmm g b le mo)) ((cG g b (cn g b) + cB g b (cn g b)) * smTotal S (mt x1)) : Int), q', Or.inl ?_, ?_⟩
        · repeat (first | (with_reducible refine gd_ok ?_ ?_; focus (first | omega | assumption | ((repeat' refine And.intro ?_ ?_) <;> first | omega | assumption) | fail)) | (with_reducible refine ip_ok ?_ ?_; focus (first | omega | assumption | ((repeat' refine And.intro ?_ ?_) <;> first | omega | assumption) | fail)) | (with_reducible refine in_ok ?_ ?_; focus (first | omega | assumption | ((repeat' refine And.intro ?_ ?_) <;> first | omega | assumption) | fail)) | (rw [hset, so_bd]; try dsimp only) | (rw [e0.1, so_bd]; try dsimp only) | (rw [e2, so_bd]; try dsimp only) | (rw [e3, so_bd]; try dsimp only) | (rw [t2, so_bd]; try dsimp only) | (rw [so_bd]; try dsimp only))
          all_goals rfl
        · repeat (first | (with_reducible refine Rt.gd ?_ ?_; focus (first | omega | assumption | ((repeat' refine And.intro ?_ ?_) <;> first | omega | assumption) | fail)) | (with_reducible refine Rt.ip ?_ ?_; focus (first | omega | assumption | ((repeat' refine And.intro ?_ ?_) <;> first | omega | assumption) | fail)) | (with_reducible refine Rt.in_ ?_ ?_; focus (first | omega | assumption | ((repeat' refine And.intro ?_ ?_) <;> first | omega | assumption) | fail)) | (rw [e0.2, so_bd]; try dsimp only) | (rw [i1, so_bd]; try dsimp only) | (rw [e1, so_bd]; try dsimp only) | (rw [t1, so_bd]; try dsimp only) | (rw [so_bd]; try dsimp only))
          all_goals exact Rt.so
    · refine ⟨-9223372036854775808, q, Or.inl ?_, ?_⟩
      · by_cases d : x2 < 0
        · repeat (first | (with_reducible refine gd_ok ?_ ?_; focus (first | omega | assumption | ((repeat' refine And.intro ?_ ?_) <;> first | omega | assumption) | fail)) | (with_reducible refine ip_ok ?_ ?_; focus (first | omega | assumption | ((repeat' refine And.intro ?_ ?_) <;> first | omega | assumption) | fail)) | (with_reducible refine in_ok ?_ ?_; focus (first | omega | assumption | ((repeat' refine And.intro ?_ ?_) <;> first | omega | assumption) | fail)) | (rw [hset, so_bd]; try dsimp only) | (rw [e0.1, so_bd]; try dsimp only) | (rw [so_bd]; try dsimp only))
          all_goals rfl
        · repeat (first | (with_reducible refine gd_ok ?_ ?_; focus (first | omega | assumption | ((repeat' refine And.intro ?_ ?_) <;> first | omega | assumption) | fail)) | (with_reducible refine ip_ok ?_ ?_; focus (first | omega | assumption | ((repeat' refine And.intro ?_ ?_) <;> first | omega | assumption) | fail)) | (with_reducible refine in_ok ?_ ?_; focus (first | omega | assumption | ((repeat' refine And.intro ?_ ?_) <;> first | omega | assumption) | fail)) | (rw [hset, so_bd]; try dsimp only) | (rw [e0.1, so_bd]; try dsimp only) | (rw [so_bd]; try dsimp only))
          all_goals rfl
      · repeat (first | (with_reducible refine Rt.gd ?_ ?_; focus (first | omega | assumption | ((repeat' refine And.intro ?_ ?_) <;> first | omega | assumption) | fail)) | (with_reducible refine Rt.ip ?_ ?_; focus (first | omega | assumption | ((repeat' refine And.intro ?_ ?_) <;> first | omega | assumption) | fail)) | (with_reducible refine Rt.in_ ?_ ?_; focus (first | omega | assumption | ((repeat' refine And.intro ?_ ?_) <;> first | omega | assumption) | fail)) | (rw [e0.2, so_bd]; try dsimp only) | (rw [in0 (rI_L hx2) ⟨by decide, by decide⟩ ⟨by decide, by decide⟩ c, so_bd]; try dsimp only) | (rw [so_bd]; try dsimp only))
        all_goals exact Rt.so
  · have e0 := isMonth0 (N := N) hkp hx1 e
    refine ⟨-9223372036854775808, q, Or.inl ?_, ?_⟩
    · repeat (first | (with_reducible refine gd_ok ?_ ?_; focus (first | omega | assumption | ((repeat' refine And.intro ?_ ?_) <;> first | omega | assumption) | fail)) | (with_reducible refine ip_ok ?_ ?_; focus (first | omega | assumption | ((repeat' refine And.intro ?_ ?_) <;> first | omega | assumption) | fail)) | (with_reducible refine in_ok ?_ ?_; focus (first | omega | assumption | ((repeat' refine And.intro ?_ ?_) <;> first | omega | assumption) | fail)) | (rw [hset, so_bd]; try dsimp only) | (rw [e0.1, so_bd]; try dsimp only) | (rw [so_bd]; try dsimp only))
      all_goals rfl
    · repeat (first | (with_reducible refine Rt.gd ?_ ?_; focus (first | omega | assumption | ((repeat' refine And.intro ?_ ?_) <;> first | omega | assumption) | fail)) | (with_reducible refine Rt.ip ?_ ?_; focus (first | omega | assumption | ((repeat' refine And.intro ?_ ?_) <;> first | omega | assumption) | fail)) | (with_reducible refine Rt.in_ ?_ ?_; focus (first | omega | assumption | ((repeat' refine And.intro ?_ ?_) <;> first | omega | assumption) | fail)) | (rw [e0.2, so_bd]; try dsimp only) | (rw [so_bd]; try dsimp only))
      all_goals exact Rt.so
set_option maxHeartbeats 2000000 in
theorem q_share (hN : 40000 ≤ N) (ok : okP g b) (hle : 0 ≤ le ∧ le ≤ 9999) (hmo : 1 ≤ mo ∧ mo ≤ 60) (hset : m_X12_settle N le mo g b sp sd rz rsc rgo rba rgA rbA pz ple pgr pgo pba pri bz ble bgr bgo bba bri run = some (1, cn g b, rsc', rgo', rba', rgA', rbA', pmm g b, ple', pgr', pgo', pba', pri', bmm g b le mo, ble', bgr', bgo', bba', bri', run')) (hS : Stl g b le mo rsc' rgo' rba' rgA' rbA' ple' pgr' pgo' pba' pri' ble' bgr' bgo' bba' bri') (hst : StA stt g b) (h3 : stt 3201 = le ∧ stt 3202 = mo) (hkp : 0 ≤ kp ∧ kp ≤ 12) (hmr : MoR S mt mp kp) {x1 x2 : Int} (hx1 : rI x1) (hx2 : rI x2) : AnsQ (m_X12_share N S kp le mo g b mt sp sd rz rsc rgo rba rgA rbA pz ple pgr pgo pba pri bz ble bgr bgo bba bri q run x1 x2) (m_X13_share N kp stt mp z1 z2 s1 s2 s3 s4 x1 x2) (fun q => (1, cn g b, rsc', rgo', rba', rgA', rbA', pmm g b, ple', pgr', pgo', pba', pri', bmm g b le mo, ble', bgr', bgo', bba', bri', q, run')) (fun q => (sd, rz, rsc, rgo, rba, rgA, rbA, pz, ple, pgr, pgo, pba, pri, bz, ble, bgr, bgo, bba, bri, q, run)) := by
  obtain ⟨sc1, go1, ba1, ar1, lb1, hr, hsa, hb⟩ := laysB (z1 := z1) (z2 := z2) (s1 := s1) (s2 := s2) (s3 := s3) (s4 := s4) hN ok hle hmo hst h3
  obtain ⟨hn, hbm, hpm⟩ := le_mo ok hle hmo
  obtain ⟨S1, S2, S3, S4⟩ := hS
  rw [m_X12_share, m_X13_share]
  by_cases e : 0 ≤ x1 ∧ x1 < kp
  · have e0 := isMonth1 (N := N) hkp e
    have hsm := hmr x1 e.1 e.2
    by_cases c : 0 ≤ x2 ∧ x2 < bmm g b le mo
    · have i1 := in1 (N := N) (v := x2) (lo := 0) (hi := bmm g b le mo - 1) (rI_L hx2) ⟨by decide, by decide⟩ ⟨by omega, by omega⟩ ⟨by omega, by omega⟩
      obtain ⟨q', e2⟩ := casesIn_ok (N := N) (q := q) hN ok hb S4 hsm c.1 c.2
      refine ⟨inb (cs g b) (bst g b le mo) (bmm g b le mo) S (mt x1) x2, q', Or.inl ?_, ?_⟩
      · repeat (first | (with_reducible refine gd_ok ?_ ?_; focus (first | omega | assumption | ((repeat' refine And.intro ?_ ?_) <;> first | omega | assumption) | fail)) | (with_reducible refine ip_ok ?_ ?_; focus (first | omega | assumption | ((repeat' refine And.intro ?_ ?_) <;> first | omega | assumption) | fail)) | (with_reducible refine in_ok ?_ ?_; focus (first | omega | assumption | ((repeat' refine And.intro ?_ ?_) <;> first | omega | assumption) | fail)) | (rw [hset, so_bd]; try dsimp only) | (rw [e0.1, so_bd]; try dsimp only) | (rw [has1 hx2 ⟨by omega, by omega⟩ c, so_bd]; try dsimp only) | (rw [e2, so_bd]; try dsimp only) | (rw [so_bd]; try dsimp only))
        all_goals rfl
      · repeat (first | (with_reducible refine Rt.gd ?_ ?_; focus (first | omega | assumption | ((repeat' refine And.intro ?_ ?_) <;> first | omega | assumption) | fail)) | (with_reducible refine Rt.ip ?_ ?_; focus (first | omega | assumption | ((repeat' refine And.intro ?_ ?_) <;> first | omega | assumption) | fail)) | (with_reducible refine Rt.in_ ?_ ?_; focus (first | omega | assumption | ((repeat' refine And.intro ?_ ?_) <;> first | omega | assumption) | fail)) | (rw [lb1, so_bd]; try dsimp only) | (rw [e0.2, so_bd]; try dsimp only) | (rw [i1, so_bd]; try dsimp only) | (rw [inBand_m_ok hN ok hr hb hsa hsm ⟨by omega, by omega⟩ hx2, so_bd]; try dsimp only) | (rw [so_bd]; try dsimp only))
        all_goals exact Rt.so
    · have i1 := in0 (N := N) (v := x2) (lo := 0) (hi := bmm g b le mo - 1) (rI_L hx2) ⟨by decide, by decide⟩ ⟨by omega, by omega⟩ (by omega)
      refine ⟨-2, q, Or.inl ?_, ?_⟩
      · repeat (first | (with_reducible refine gd_ok ?_ ?_; focus (first | omega | assumption | ((repeat' refine And.intro ?_ ?_) <;> first | omega | assumption) | fail)) | (with_reducible refine ip_ok ?_ ?_; focus (first | omega | assumption | ((repeat' refine And.intro ?_ ?_) <;> first | omega | assumption) | fail)) | (with_reducible refine in_ok ?_ ?_; focus (first | omega | assumption | ((repeat' refine And.intro ?_ ?_) <;> first | omega | assumption) | fail)) | (rw [hset, so_bd]; try dsimp only) | (rw [e0.1, so_bd]; try dsimp only) | (rw [has0 hx2 ⟨by omega, by omega⟩ c, so_bd]; try dsimp only) | (rw [so_bd]; try dsimp only))
        all_goals rfl
      · repeat (first | (with_reducible refine Rt.gd ?_ ?_; focus (first | omega | assumption | ((repeat' refine And.intro ?_ ?_) <;> first | omega | assumption) | fail)) | (with_reducible refine Rt.ip ?_ ?_; focus (first | omega | assumption | ((repeat' refine And.intro ?_ ?_) <;> first | omega | assumption) | fail)) | (with_reducible refine Rt.in_ ?_ ?_; focus (first | omega | assumption | ((repeat' refine And.intro ?_ ?_) <;> first | omega | assumption) | fail)) | (rw [lb1, so_bd]; try dsimp only) | (rw [e0.2, so_bd]; try dsimp only) | (rw [i1, so_bd]; try dsimp only) | (rw [so_bd]; try dsimp only))
        all_goals exact Rt.so
  · have e0 := isMonth0 (N := N) hkp hx1 e
    refine ⟨-2, q, Or.inl ?_, ?_⟩
    · repeat (first | (with_reducible refine gd_ok ?_ ?_; focus (first | omega | assumption | ((repeat' refine And.intro ?_ ?_) <;> first | omega | assumption) | fail)) | (with_reducible refine ip_ok ?_ ?_; focus (first | omega | assumption | ((repeat' refine And.intro ?_ ?_) <;> first | omega | assumption) | fail)) | (with_reducible refine in_ok ?_ ?_; focus (first | omega | assumption | ((repeat' refine And.intro ?_ ?_) <;> first | omega | assumption) | fail)) | (rw [hset, so_bd]; try dsimp only) | (rw [e0.1, so_bd]; try dsimp only) | (rw [so_bd]; try dsimp only))
      all_goals rfl
    · repeat (first | (with_reducible refine Rt.gd ?_ ?_; focus (first | omega | assumption | ((repeat' refine And.intro ?_ ?_) <;> first | omega | assumption) | fail)) | (with_reducible refine Rt.ip ?_ ?_; focus (first | omega | assumption | ((repeat' refine And.intro ?_ ?_) <;> first | omega | assumption) | fail)) | (with_reducible refine Rt.in_ ?_ ?_; focus (first | omega | assumption | ((repeat' refine And.intro ?_ ?_) <;> first | omega | assumption) | fail)) | (rw [lb1, so_bd]; try dsimp only) | (rw [e0.2, so_bd]; try dsimp only) | (rw [so_bd]; try dsimp only))
      all_goals exact Rt.so
end
