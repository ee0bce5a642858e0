/-! one pair a method: the same answer -/
theorem laysB {N : Nat} {g b stt : Int → Int} {le mo z1 z2 : Int} {s1 s2 s3 s4 : Int → Int} (hN : 40000 ≤ N) (ok : okP g b) (hle : 0 ≤ le ∧ le ≤ 9999) (hmo : 1 ≤ mo ∧ mo ≤ 60) (hst : StA stt g b) (h3 : stt 3201 = le ∧ stt 3202 = mo) : ∃ sc' go' ba' arr', m_X13_laysBands N stt z1 z2 s1 s2 s3 s4 = some (cn g b, bmm g b le mo, sc', go', ba', arr') ∧ RwA g b sc' go' ba' ∧ SA arr' (bst g b le mo) (bmm g b le mo) ∧ Bd (cn g b) (bst g b le mo) (bmm g b le mo) := by
  obtain ⟨rfl, rfl⟩ := h3
  exact laysBands_ok hN ok hst hle hmo
theorem le_mo {g b : Int → Int} {le mo : Int} (ok : okP g b) (hle : 0 ≤ le ∧ le ≤ 9999) (hmo : 1 ≤ mo ∧ mo ≤ 60) : (0 ≤ cn g b ∧ cn g b ≤ 60) ∧ (0 ≤ bmm g b le mo ∧ bmm g b le mo ≤ cn g b) ∧ (0 ≤ pmm g b ∧ pmm g b ≤ cn g b) := ⟨⟨cn_0 g b, ok.2.1⟩, (bst_Bd ok hle hmo).1, (pst_Bd ok).1⟩
section
variable {N : Nat} {g b stt : Int → Int} {le mo sp run run' : Int} {sd rz pz bz : Int} {rsc rgo rba rgA rbA ple pgr pgo pba pri ble bgr bgo bba bri : Int → Int} {rsc' rgo' rba' rgA' rbA' ple' pgr' pgo' pba' pri' ble' bgr' bgo' bba' bri' : Int → Int} {z1 z2 : Int} {s1 s2 s3 s4 : Int → Int}
theorem q_row (hN : 40000 ≤ N) (ok : okP g b) (hle : 0 ≤ le ∧ le ≤ 9999) (hmo : 1 ≤ mo ∧ mo ≤ 60) (hset : m_X12_settle N le mo g b sp sd rz rsc rgo rba rgA rbA pz ple pgr pgo pba pri bz ble bgr bgo bba bri run = some (1, cn g b, rsc', rgo', rba', rgA', rbA', pmm g b, ple', pgr', pgo', pba', pri', bmm g b le mo, ble', bgr', bgo', bba', bri', run')) (hS : Stl g b le mo rsc' rgo' rba' rgA' rbA' ple' pgr' pgo' pba' pri' ble' bgr' bgo' bba' bri') (hst : StA stt g b) (h3 : stt 3201 = le ∧ stt 3202 = mo) {x1 x2 : Int} (hx1 : rI x1) (hx2 : rI x2) : ∃ a, m_X12_row N le mo g b sp sd rz rsc rgo rba rgA rbA pz ple pgr pgo pba pri bz ble bgr bgo bba bri run x1 x2 = some (a, 1, cn g b, rsc', rgo', rba', rgA', rbA', pmm g b, ple', pgr', pgo', pba', pri', bmm g b le mo, ble', bgr', bgo', bba', bri', run') ∧ Rt (m_X13_row N stt z1 z2 s1 s2 s3 s4 x1 x2) a := by
  obtain ⟨sc1, go1, ba1, ar1, lb1, hr, hsa, hb⟩ := laysB (z1 := z1) (z2 := z2) (s1 := s1) (s2 := s2) (s3 := s3) (s4 := s4) hN ok hle hmo hst h3
  obtain ⟨hn, hbm, hpm⟩ := le_mo ok hle hmo
  obtain ⟨S1, S2, S3, S4⟩ := hS
  rw [m_X12_row, m_X13_row]
  by_cases c : 0 ≤ x1 ∧ x1 < cn g b
  · obtain ⟨e1, e2, e3⟩ := S1 x1 c.1 c.2
    obtain ⟨f1, f2, f3⟩ := hr x1 c.1 c.2
    have ci := cs_in c.1 c.2
    rcases (by omega : x2 = 0 ∨ x2 = 1 ∨ x2 = 2 ∨ x2 = 3 ∨ (x2 < 0 ∨ 3 < x2)) with rfl | rfl | rfl | rfl | hd
    · refine ⟨cs g b x1, ?_, ?_⟩
      · refine bd_ok (hset) ?_
        dsimp only
        refine gd_ok (by first | omega | (constructor <;> omega) | assumption) ?_
        refine in_ok (by first | omega | (constructor <;> omega) | assumption) ?_
        refine gd_ok (by first | omega | (constructor <;> omega) | assumption) ?_
        refine ip_ok (c.2) ?_
        refine gd_ok (by first | omega | (constructor <;> omega) | assumption) ?_
        refine ip_ok (rfl) ?_
        refine gd_ok (by first | omega | (constructor <;> omega) | assumption) ?_
        rw [e1]
      · refine Rt.bd (lb1) ?_
        dsimp only
        refine Rt.gd (by first | omega | (constructor <;> omega) | assumption) ?_
        refine Rt.gd (by first | omega | (constructor <;> omega) | assumption) ?_
        refine Rt.bd (in1 (rI_L hx1) ⟨by decide, by decide⟩ ⟨by omega, by omega⟩ ⟨c.1, by omega⟩) ?_
        refine Rt.gd (by first | omega | (constructor <;> omega) | assumption) ?_
        refine Rt.in_ (by first | omega | (constructor <;> omega) | assumption) ?_
        refine Rt.gd (by first | omega | (constructor <;> omega) | assumption) ?_
        refine Rt.ip (rfl) ?_
        refine Rt.gd (by first | omega | (constructor <;> omega) | assumption) ?_
        rw [f1]
        exact Rt.so
    · refine ⟨cg g b x1, ?_, ?_⟩
      · refine bd_ok (hset) ?_
        dsimp only
        refine gd_ok (by first | omega | (constructor <;> omega) | assumption) ?_
        refine in_ok (by first | omega | (constructor <;> omega) | assumption) ?_
        refine gd_ok (by first | omega | (constructor <;> omega) | assumption) ?_
        refine ip_ok (c.2) ?_
        refine gd_ok (by first | omega | (constructor <;> omega) | assumption) ?_
        refine in_ok (by first | omega | (constructor <;> omega) | assumption) ?_
        refine ip_ok (rfl) ?_
        refine gd_ok (by first | omega | (constructor <;> omega) | assumption) ?_
        rw [e2]
      · refine Rt.bd (lb1) ?_
        dsimp only
        refine Rt.gd (by first | omega | (constructor <;> omega) | assumption) ?_
        refine Rt.gd (by first | omega | (constructor <;> omega) | assumption) ?_
        refine Rt.bd (in1 (rI_L hx1) ⟨by decide, by decide⟩ ⟨by omega, by omega⟩ ⟨c.1, by omega⟩) ?_
        refine Rt.gd (by first | omega | (constructor <;> omega) | assumption) ?_
        refine Rt.in_ (by first | omega | (constructor <;> omega) | assumption) ?_
        refine Rt.gd (by first | omega | (constructor <;> omega) | assumption) ?_
        refine Rt.in_ (by first | omega | (constructor <;> omega) | assumption) ?_
        refine Rt.ip (rfl) ?_
        refine Rt.gd (by first | omega | (constructor <;> omega) | assumption) ?_
        rw [f2]
        exact Rt.so
    · refine ⟨cb g b x1, ?_, ?_⟩
      · refine bd_ok (hset) ?_
        dsimp only
        refine gd_ok (by first | omega | (constructor <;> omega) | assumption) ?_
        refine in_ok (by first | omega | (constructor <;> omega) | assumption) ?_
        refine gd_ok (by first | omega | (constructor <;> omega) | assumption) ?_
        refine ip_ok (c.2) ?_
        refine gd_ok (by first | omega | (constructor <;> omega) | assumption) ?_
        refine in_ok (by first | omega | (constructor <;> omega) | assumption) ?_
        refine in_ok (by first | omega | (constructor <;> omega) | assumption) ?_
        refine ip_ok (rfl) ?_
        refine gd_ok (by first | omega | (constructor <;> omega) | assumption) ?_
        rw [e3]
      · refine Rt.bd (lb1) ?_
        dsimp only
        refine Rt.gd (by first | omega | (constructor <;> omega) | assumption) ?_
        refine Rt.gd (by first | omega | (constructor <;> omega) | assumption) ?_
        refine Rt.bd (in1 (rI_L hx1) ⟨by decide, by decide⟩ ⟨by omega, by omega⟩ ⟨c.1, by omega⟩) ?_
        refine Rt.gd (by first | omega | (constructor <;> omega) | assumption) ?_
        refine Rt.in_ (by first | omega | (constructor <;> omega) | assumption) ?_
        refine Rt.gd (by first | omega | (constructor <;> omega) | assumption) ?_
        refine Rt.in_ (by first | omega | (constructor <;> omega) | assumption) ?_
        refine Rt.in_ (by first | omega | (constructor <;> omega) | assumption) ?_
        refine Rt.ip (rfl) ?_
        refine Rt.gd (by first | omega | (constructor <;> omega) | assumption) ?_
        rw [f3]
        exact Rt.so
    · refine ⟨bAt (cs g b) (bst g b le mo) (bmm g b le mo) (cs g b x1), ?_, ?_⟩
      · refine bd_ok (hset) ?_
        dsimp only
        refine gd_ok (by first | omega | (constructor <;> omega) | assumption) ?_
        refine in_ok (by first | omega | (constructor <;> omega) | assumption) ?_
        refine gd_ok (by first | omega | (constructor <;> omega) | assumption) ?_
        refine ip_ok (c.2) ?_
        refine gd_ok (by first | omega | (constructor <;> omega) | assumption) ?_
        refine in_ok (by first | omega | (constructor <;> omega) | assumption) ?_
        refine in_ok (by first | omega | (constructor <;> omega) | assumption) ?_
        refine in_ok (by first | omega | (constructor <;> omega) | assumption) ?_
        refine ip_ok (rfl) ?_
        refine gd_ok (by first | omega | (constructor <;> omega) | assumption) ?_
        rw [e1]
        refine bd_ok (place_ok hN ok hb S4 ⟨by omega, by omega⟩) ?_
        rfl
      · refine Rt.bd (lb1) ?_
        dsimp only
        refine Rt.gd (by first | omega | (constructor <;> omega) | assumption) ?_
        refine Rt.gd (by first | omega | (constructor <;> omega) | assumption) ?_
        refine Rt.bd (in1 (rI_L hx1) ⟨by decide, by decide⟩ ⟨by omega, by omega⟩ ⟨c.1, by omega⟩) ?_
        refine Rt.gd (by first | omega | (constructor <;> omega) | assumption) ?_
        refine Rt.in_ (by first | omega | (constructor <;> omega) | assumption) ?_
        refine Rt.gd (by first | omega | (constructor <;> omega) | assumption) ?_
        refine Rt.in_ (by first | omega | (constructor <;> omega) | assumption) ?_
        refine Rt.in_ (by first | omega | (constructor <;> omega) | assumption) ?_
        refine Rt.in_ (by first | omega | (constructor <;> omega) | assumption) ?_
        refine Rt.ip (rfl) ?_
        refine Rt.gd (by first | omega | (constructor <;> omega) | assumption) ?_
        rw [f1]
        refine Rt.bd (bandAt_ok hN ok hr hb hsa ⟨by omega, by omega⟩) ?_
        exact Rt.so
    · refine ⟨-2, ?_, ?_⟩
      · refine bd_ok (hset) ?_
        dsimp only
        refine gd_ok (by first | omega | (constructor <;> omega) | assumption) ?_
        refine in_ok (by first | omega | (constructor <;> omega) | assumption) ?_
        refine gd_ok (by first | omega | (constructor <;> omega) | assumption) ?_
        refine ip_ok (c.2) ?_
        refine gd_ok (by first | omega | (constructor <;> omega) | assumption) ?_
        refine in_ok (by first | omega | (constructor <;> omega) | assumption) ?_
        refine in_ok (by first | omega | (constructor <;> omega) | assumption) ?_
        refine in_ok (by first | omega | (constructor <;> omega) | assumption) ?_
        refine in_ok (by first | omega | (constructor <;> omega) | assumption) ?_
        rfl
      · refine Rt.bd (lb1) ?_
        dsimp only
        refine Rt.gd (by first | omega | (constructor <;> omega) | assumption) ?_
        refine Rt.gd (by first | omega | (constructor <;> omega) | assumption) ?_
        refine Rt.bd (in1 (rI_L hx1) ⟨by decide, by decide⟩ ⟨by omega, by omega⟩ ⟨c.1, by omega⟩) ?_
        refine Rt.gd (by first | omega | (constructor <;> omega) | assumption) ?_
        refine Rt.in_ (by first | omega | (constructor <;> omega) | assumption) ?_
        refine Rt.gd (by first | omega | (constructor <;> omega) | assumption) ?_
        refine Rt.in_ (by first | omega | (constructor <;> omega) | assumption) ?_
        refine Rt.in_ (by first | omega | (constructor <;> omega) | assumption) ?_
        refine Rt.in_ (by first | omega | (constructor <;> omega) | assumption) ?_
        refine Rt.in_ (by first | omega | (constructor <;> omega) | assumption) ?_
        exact Rt.so
  · refine ⟨-2, ?_, ?_⟩
    · by_cases d : x1 < 0
      · refine bd_ok (hset) ?_
        dsimp only
        refine gd_ok (by first | omega | (constructor <;> omega) | assumption) ?_
        refine ip_ok (d) ?_
        rfl
      · refine bd_ok (hset) ?_
        dsimp only
        refine gd_ok (by first | omega | (constructor <;> omega) | assumption) ?_
        refine in_ok (d) ?_
        refine gd_ok (by first | omega | (constructor <;> omega) | assumption) ?_
        refine in_ok (by first | omega | (constructor <;> omega) | assumption) ?_
        rfl
    · refine Rt.bd (lb1) ?_
      dsimp only
      refine Rt.gd (by first | omega | (constructor <;> omega) | assumption) ?_
      refine Rt.gd (by first | omega | (constructor <;> omega) | assumption) ?_
      refine Rt.bd (in0 (rI_L hx1) ⟨by decide, by decide⟩ ⟨by omega, by omega⟩ (by omega)) ?_
      refine Rt.gd (by first | omega | (constructor <;> omega) | assumption) ?_
      refine Rt.ip (rfl) ?_
      exact Rt.so
theorem q_bandOf (hN : 40000 ≤ N) (ok : okP g b) (hle : 0 ≤ le ∧ le ≤ 9999) (hmo : 1 ≤ mo ∧ mo ≤ 60) (hset : m_X12_settle N le mo g b sp sd rz rsc rgo rba rgA rbA pz ple pgr pgo pba pri bz ble bgr bgo bba bri run = some (1, cn g b, rsc', rgo', rba', rgA', rbA', pmm g b, ple', pgr', pgo', pba', pri', bmm g b le mo, ble', bgr', bgo', bba', bri', run')) (hS : Stl g b le mo rsc' rgo' rba' rgA' rbA' ple' pgr' pgo' pba' pri' ble' bgr' bgo' bba' bri') (hst : StA stt g b) (h3 : stt 3201 = le ∧ stt 3202 = mo) {x1 : Int} (hx1 : rI x1) (c : 0 ≤ x1 ∧ x1 < 1000) : ∃ a, m_X12_bandOf N le mo g b sp sd rz rsc rgo rba rgA rbA pz ple pgr pgo pba pri bz ble bgr bgo bba bri run x1 = some (a, 1, cn g b, rsc', rgo', rba', rgA', rbA', pmm g b, ple', pgr', pgo', pba', pri', bmm g b le mo, ble', bgr', bgo', bba', bri', run') ∧ Rt (m_X13_bandOf N stt z1 z2 s1 s2 s3 s4 x1) a := by
  obtain ⟨sc1, go1, ba1, ar1, lb1, hr, hsa, hb⟩ := laysB (z1 := z1) (z2 := z2) (s1 := s1) (s2 := s2) (s3 := s3) (s4 := s4) hN ok hle hmo hst h3
  obtain ⟨hn, hbm, hpm⟩ := le_mo ok hle hmo
  obtain ⟨S1, S2, S3, S4⟩ := hS
  have hsc : m_X12_isScore N x1 = some 1 := by
    rw [m_X12_isScore]
    refine gd_ok (by first | omega | (constructor <;> omega) | assumption) ?_
    refine in_ok (by first | omega | (constructor <;> omega) | assumption) ?_
    refine in_ok (by first | omega | (constructor <;> omega) | assumption) ?_
    rfl
  rw [m_X12_bandOf, m_X13_bandOf]
  refine ⟨bAt (cs g b) (bst g b le mo) (bmm g b le mo) x1, ?_, ?_⟩
  · refine bd_ok (hsc) ?_
    refine gd_ok (by first | omega | (constructor <;> omega) | assumption) ?_
    refine in_ok (by first | omega | (constructor <;> omega) | assumption) ?_
    refine bd_ok (hset) ?_
    dsimp only
    refine bd_ok (place_ok hN ok hb S4 hx1) ?_
    rfl
  · refine Rt.gd (by first | omega | (constructor <;> omega) | assumption) ?_
    refine Rt.bd (in1 (rI_L hx1) ⟨by decide, by decide⟩ ⟨by decide, by decide⟩ ⟨c.1, by omega⟩) ?_
    refine Rt.gd (by first | omega | (constructor <;> omega) | assumption) ?_
    refine Rt.in_ (by first | omega | (constructor <;> omega) | assumption) ?_
    refine Rt.bd (lb1) ?_
    dsimp only
    refine Rt.bd (bandAt_ok hN ok hr hb hsa hx1) ?_
    exact Rt.so
theorem q_bandOf0 {x1 : Int} (hx1 : rI x1) (c : ¬ (0 ≤ x1 ∧ x1 < 1000)) : m_X12_bandOf N le mo g b sp sd rz rsc rgo rba rgA rbA pz ple pgr pgo pba pri bz ble bgr bgo bba bri run x1 = some (-2, sd, rz, rsc, rgo, rba, rgA, rbA, pz, ple, pgr, pgo, pba, pri, bz, ble, bgr, bgo, bba, bri, run) ∧ Rt (m_X13_bandOf N stt z1 z2 s1 s2 s3 s4 x1) (-2) := by
  have hsc : m_X12_isScore N x1 = some 0 := by
    rw [m_X12_isScore]
    by_cases d : x1 < 0
    · refine gd_ok (by first | omega | (constructor <;> omega) | assumption) ?_
      refine ip_ok (d) ?_
      rfl
    · refine gd_ok (by first | omega | (constructor <;> omega) | assumption) ?_
      refine in_ok (d) ?_
      refine ip_ok (by first | omega | (constructor <;> omega) | assumption) ?_
      rfl
  rw [m_X12_bandOf, m_X13_bandOf]
  constructor
  · refine bd_ok (hsc) ?_
    refine gd_ok (by first | omega | (constructor <;> omega) | assumption) ?_
    refine ip_ok (by first | omega | (constructor <;> omega) | assumption) ?_
    rfl
  · refine Rt.gd (by first | omega | (constructor <;> omega) | assumption) ?_
    refine Rt.bd (in0 (rI_L hx1) ⟨by decide, by decide⟩ ⟨by decide, by decide⟩ (by omega)) ?_
    refine Rt.gd (by first | omega | (constructor <;> omega) | assumption) ?_
    refine Rt.ip (by first | omega | (constructor <;> omega) | assumption) ?_
    exact Rt.so
end
