/-! the same answer: yields, medians, pairs (methods) -/
section
variable {N : Nat} {g b : Int → Int}
theorem rI_iv {sc go ba stt : Int → Int} (hN : 40000 ≤ N) (ok : okP g b) (hr : RwA g b sc go ba) {y2 : Int} (h2 : 0 ≤ y2 ∧ y2 < cn g b) (k8 : Int → Int → Option (Int × Int × (Int → Int) × (Int → Int) × (Int → Int))) : ∀ (f : Nat) (y1 y3 : Int), y2 < y3 → y3 ≤ cn g b → (cn g b - y3).toNat < f → m_X13_inversions_b20 N stt (cn g b) sc go ba y2 k8 f y1 y3 = k8 (y1 + (sI (fun o => if y2 < o then rkr g b o y2 else 0) (cn g b) - sI (fun o => if y2 < o then rkr g b o y2 else 0) y3)) (y2 + 1) := by
  have ok2 := ok.2.1
  obtain ⟨-, a1, a2⟩ := hr y2 h2.1 h2.2
  intro f
  induction f with
  | zero => intro y1 y3 _ _ h; omega
  | succ f ih =>
    intro y1 y3 h3 h4 hf
    rw [m_X13_inversions_b20]
    by_cases c : cn g b ≤ y3
    · have e : y3 = cn g b := by omega
      repeat (first | (with_reducible refine gd_ok ?_ ?_; focus (first | omega | assumption | ((repeat' refine And.intro ?_ ?_) <;> first | omega | assumption) | fail)) | (with_reducible refine ip_ok ?_ ?_; focus (first | omega | assumption | ((repeat' refine And.intro ?_ ?_) <;> first | omega | assumption) | fail)) | (with_reducible refine in_ok ?_ ?_; focus (first | omega | assumption | ((repeat' refine And.intro ?_ ?_) <;> first | omega | assumption) | fail)) | (rw [so_bd]; try dsimp only))
      rw [e]
      congr 1
      omega
    · obtain ⟨-, a3, a4⟩ := hr y3 (by omega) (by omega)
      have q1 := rk_bd ok h2.1 h2.2 (j := y3) (by omega) (by omega)
      have q2 := rk_bd ok (i := y3) (j := y2) (by omega) (by omega) h2.1 h2.2
      have es : sI (fun o => if y2 < o then rkr g b o y2 else 0) (y3 + 1) = sI (fun o => if y2 < o then rkr g b o y2 else 0) y3 + rkr g b y3 y2 := by
        rw [sI_s _ (by omega)]
        simp only [if_pos h3]
      rw [a1, a2, a3, a4]
      by_cases d : cb g b y3 * (cg g b y2 + cb g b y2) ≤ cb g b y2 * (cg g b y3 + cb g b y3)
      · have er : rkr g b y3 y2 = 0 := if_pos d
        repeat (first | (with_reducible refine gd_ok ?_ ?_; focus (first | omega | assumption | ((repeat' refine And.intro ?_ ?_) <;> first | omega | assumption) | fail)) | (with_reducible refine ip_ok ?_ ?_; focus (first | omega | assumption | ((repeat' refine And.intro ?_ ?_) <;> first | omega | assumption) | fail)) | (with_reducible refine in_ok ?_ ?_; focus (first | omega | assumption | ((repeat' refine And.intro ?_ ?_) <;> first | omega | assumption) | fail)) | (rw [so_bd]; try dsimp only))
        refine (ih (y1 + 0) (y3 + 1) (by omega) (by omega) (by omega)).trans ?_
        congr 1
        omega
      · have er : rkr g b y3 y2 = 1 := if_neg d
        repeat (first | (with_reducible refine gd_ok ?_ ?_; focus (first | omega | assumption | ((repeat' refine And.intro ?_ ?_) <;> first | omega | assumption) | fail)) | (with_reducible refine ip_ok ?_ ?_; focus (first | omega | assumption | ((repeat' refine And.intro ?_ ?_) <;> first | omega | assumption) | fail)) | (with_reducible refine in_ok ?_ ?_; focus (first | omega | assumption | ((repeat' refine And.intro ?_ ?_) <;> first | omega | assumption) | fail)) | (rw [so_bd]; try dsimp only))
        refine (ih (y1 + 1) (y3 + 1) (by omega) (by omega) (by omega)).trans ?_
        congr 1
        omega
theorem rI_iv8 {sc go ba stt : Int → Int} (hN : 40000 ≤ N) (ok : okP g b) (hr : RwA g b sc go ba) : ∀ (f : Nat) (y1 y2 : Int), 0 ≤ y2 → y2 ≤ cn g b → y1 = sI (ivR g b (cn g b)) y2 → (cn g b - y2).toNat < f → Rt (m_X13_inversions_b8 N stt (cn g b) sc go ba f y1 y2) (ivC g b (cn g b)) := by
  have ok2 := ok.2.1
  have n0 := cn_0 g b
  intro f
  induction f with
  | zero => intro y1 y2 _ _ _ h; omega
  | succ f ih =>
    intro y1 y2 h0 h1 hy hf
    rw [m_X13_inversions_b8]
    by_cases c : cn g b ≤ y2
    · have e : y2 = cn g b := by omega
      repeat (first | (with_reducible refine Rt.gd ?_ ?_; focus (first | omega | assumption | ((repeat' refine And.intro ?_ ?_) <;> first | omega | assumption) | fail)) | (with_reducible refine Rt.ip ?_ ?_; focus (first | omega | assumption | ((repeat' refine And.intro ?_ ?_) <;> first | omega | assumption) | fail)) | (with_reducible refine Rt.in_ ?_ ?_; focus (first | omega | assumption | ((repeat' refine And.intro ?_ ?_) <;> first | omega | assumption) | fail)) | (rw [so_bd]; try dsimp only))
      rw [hy, e, iv_swap n0]
      exact Rt.so
    · repeat (first | (with_reducible refine Rt.gd ?_ ?_; focus (first | omega | assumption | ((repeat' refine And.intro ?_ ?_) <;> first | omega | assumption) | fail)) | (with_reducible refine Rt.ip ?_ ?_; focus (first | omega | assumption | ((repeat' refine And.intro ?_ ?_) <;> first | omega | assumption) | fail)) | (with_reducible refine Rt.in_ ?_ ?_; focus (first | omega | assumption | ((repeat' refine And.intro ?_ ?_) <;> first | omega | assumption) | fail)) | (rw [so_bd]; try dsimp only))
      rw [rI_iv hN ok hr ⟨h0, by omega⟩ _ N y1 (y2 + 1) (by omega) (by omega) (by omega)]
      refine ih _ (y2 + 1) (by omega) (by omega) ?_ (by omega)
      have ez : sI (fun o => if y2 < o then rkr g b o y2 else 0) (y2 + 1) = 0 := by
        rw [sI_congr (g := fun _ => 0) (fun j j0 j1 => if_neg (by omega)), sI_zero (by omega)]
      rw [ez, sI_s (ivR g b (cn g b)) h0, hy]
      unfold ivR
      omega
end
section
variable {N : Nat} {g b stt : Int → Int} {le mo sp run run' : Int} {sd rz pz bz : Int} {rsc rgo rba rgA rbA ple pgr pgo pba pri ble bgr bgo bba bri : Int → Int} {rsc' rgo' rba' rgA' rbA' ple' pgr' pgo' pba' pri' ble' bgr' bgo' bba' bri' : Int → Int} {z1 z2 : Int} {s1 s2 s3 s4 : Int → Int}
theorem q_accepts (hN : 40000 ≤ N) (ok : okP g b) (hle : 0 ≤ le ∧ le ≤ 9999) (hmo : 1 ≤ mo ∧ mo ≤ 60) (hset : m_X12_settle N le mo g b sp sd rz rsc rgo rba rgA rbA pz ple pgr pgo pba pri bz ble bgr bgo bba bri run = some (1, cn g b, rsc', rgo', rba', rgA', rbA', pmm g b, ple', pgr', pgo', pba', pri', bmm g b le mo, ble', bgr', bgo', bba', bri', run')) (hS : Stl g b le mo rsc' rgo' rba' rgA' rbA' ple' pgr' pgo' pba' pri' ble' bgr' bgo' bba' bri') (hst : StA stt g b) (h3 : stt 3201 = le ∧ stt 3202 = mo) {x1 : Int} (hx1 : rI x1) : Ans (m_X12_accepts N le mo g b sp sd rz rsc rgo rba rgA rbA pz ple pgr pgo pba pri bz ble bgr bgo bba bri run x1) (m_X13_accepts N stt z1 s1 s2 s3 s4 x1) (1, cn g b, rsc', rgo', rba', rgA', rbA', pmm g b, ple', pgr', pgo', pba', pri', bmm g b le mo, ble', bgr', bgo', bba', bri', run') (sd, rz, rsc, rgo, rba, rgA, rbA, pz, ple, pgr, pgo, pba, pri, bz, ble, bgr, bgo, bba, bri, run) := by
  obtain ⟨sc1, go1, ba1, bl1, lb1, hr, hbl⟩ := laysBelow_ok (z := z1) (s1 := s1) (s2 := s2) (s3 := s3) (bl := s4) hN ok hst
  obtain ⟨hn, hbm, hpm⟩ := le_mo ok hle hmo
  obtain ⟨S1, S2, S3, S4⟩ := hS
  rw [m_X12_accepts, m_X13_accepts]
  by_cases c : 0 ≤ x1 ∧ x1 ≤ 1000
  · by_cases n0 : cn g b = 0
    · have ec : cG g b (cn g b) + cB g b (cn g b) - (cG g b (lb g b 0) + cB g b (lb g b 0)) = 0 := by rw [n0]; rfl
      have a0 : m_X13_accepted N bl1 0 = some 0 := by rw [accepted_ok hbl ⟨Int.le_refl 0, by decide⟩, ec]
      have e1 : m_X8_greatestCutOf N (cn g b) rsc' rgA' rbA' x1 = some (-1) := by
        rw [m_X8_greatestCutOf]
        repeat (first | (with_reducible refine gd_ok ?_ ?_; focus (first | omega | assumption | ((repeat' refine And.intro ?_ ?_) <;> first | omega | assumption) | fail)) | (with_reducible refine ip_ok ?_ ?_; focus (first | omega | assumption | ((repeat' refine And.intro ?_ ?_) <;> first | omega | assumption) | fail)) | (with_reducible refine in_ok ?_ ?_; focus (first | omega | assumption | ((repeat' refine And.intro ?_ ?_) <;> first | omega | assumption) | fail)) | (rw [so_bd]; try dsimp only))
        all_goals rfl
      have e2 : Rt (m_X13_accepts_b18 N stt x1 (cn g b) sc1 go1 ba1 bl1 N (-1) 0) (-1) := by
        obtain ⟨f, rfl⟩ : ∃ f, N = f + 1 := ⟨N - 1, by omega⟩
        rw [m_X13_accepts_b18]
        repeat (first | (with_reducible refine Rt.gd ?_ ?_; focus (first | omega | assumption | ((repeat' refine And.intro ?_ ?_) <;> first | omega | assumption) | fail)) | (with_reducible refine Rt.ip ?_ ?_; focus (first | omega | assumption | ((repeat' refine And.intro ?_ ?_) <;> first | omega | assumption) | fail)) | (with_reducible refine Rt.in_ ?_ ?_; focus (first | omega | assumption | ((repeat' refine And.intro ?_ ?_) <;> first | omega | assumption) | fail)) | (rw [a0, so_bd]; try dsimp only) | (rw [so_bd]; try dsimp only))
        all_goals exact Rt.so
      refine ⟨-1, Or.inl ?_, ?_⟩
      · repeat (first | (with_reducible refine gd_ok ?_ ?_; focus (first | omega | assumption | ((repeat' refine And.intro ?_ ?_) <;> first | omega | assumption) | fail)) | (with_reducible refine ip_ok ?_ ?_; focus (first | omega | assumption | ((repeat' refine And.intro ?_ ?_) <;> first | omega | assumption) | fail)) | (with_reducible refine in_ok ?_ ?_; focus (first | omega | assumption | ((repeat' refine And.intro ?_ ?_) <;> first | omega | assumption) | fail)) | (rw [hset, so_bd]; try dsimp only) | (rw [e1, so_bd]; try dsimp only) | (rw [so_bd]; try dsimp only))
        all_goals rfl
      · repeat (first | (with_reducible refine Rt.gd ?_ ?_; focus (first | omega | assumption | ((repeat' refine And.intro ?_ ?_) <;> first | omega | assumption) | fail)) | (with_reducible refine Rt.ip ?_ ?_; focus (first | omega | assumption | ((repeat' refine And.intro ?_ ?_) <;> first | omega | assumption) | fail)) | (with_reducible refine Rt.in_ ?_ ?_; focus (first | omega | assumption | ((repeat' refine And.intro ?_ ?_) <;> first | omega | assumption) | fail)) | (rw [isMille1 c, so_bd]; try dsimp only) | (rw [lb1, so_bd]; try dsimp only) | (rw [so_bd]; try dsimp only))
        exact e2
    · have cd := cC_d (g := g) (b := b) (Int.le_refl 0) (show (0 : Int) ≤ cn g b by omega) (Int.le_refl _)
      have y1 : cG g b 0 = 0 := rfl
      have y2 : cB g b 0 = 0 := rfl
      by_cases m0 : x1 = 0
      · have e1 : m_X8_greatestCutOf N (cn g b) rsc' rgA' rbA' x1 = some 1000 := by
          rw [m_X8_greatestCutOf]
          repeat (first | (with_reducible refine gd_ok ?_ ?_; focus (first | omega | assumption | ((repeat' refine And.intro ?_ ?_) <;> first | omega | assumption) | fail)) | (with_reducible refine ip_ok ?_ ?_; focus (first | omega | assumption | ((repeat' refine And.intro ?_ ?_) <;> first | omega | assumption) | fail)) | (with_reducible refine in_ok ?_ ?_; focus (first | omega | assumption | ((repeat' refine And.intro ?_ ?_) <;> first | omega | assumption) | fail)) | (rw [so_bd]; try dsimp only))
          all_goals rfl
        have hp : ∀ i, 0 ≤ i → i ≤ cn g b → acP g b x1 i := by
          intro i i0 i1
          have bd := C_b ok i0 i1
          unfold acP
          rw [m0, Int.zero_mul]
          omega
        refine ⟨1000, Or.inl ?_, ?_⟩
        · repeat (first | (with_reducible refine gd_ok ?_ ?_; focus (first | omega | assumption | ((repeat' refine And.intro ?_ ?_) <;> first | omega | assumption) | fail)) | (with_reducible refine ip_ok ?_ ?_; focus (first | omega | assumption | ((repeat' refine And.intro ?_ ?_) <;> first | omega | assumption) | fail)) | (with_reducible refine in_ok ?_ ?_; focus (first | omega | assumption | ((repeat' refine And.intro ?_ ?_) <;> first | omega | assumption) | fail)) | (rw [hset, so_bd]; try dsimp only) | (rw [e1, so_bd]; try dsimp only) | (rw [so_bd]; try dsimp only))
          all_goals rfl
        · repeat (first | (with_reducible refine Rt.gd ?_ ?_; focus (first | omega | assumption | ((repeat' refine And.intro ?_ ?_) <;> first | omega | assumption) | fail)) | (with_reducible refine Rt.ip ?_ ?_; focus (first | omega | assumption | ((repeat' refine And.intro ?_ ?_) <;> first | omega | assumption) | fail)) | (with_reducible refine Rt.in_ ?_ ?_; focus (first | omega | assumption | ((repeat' refine And.intro ?_ ?_) <;> first | omega | assumption) | fail)) | (rw [isMille1 c, so_bd]; try dsimp only) | (rw [lb1, so_bd]; try dsimp only) | (rw [so_bd]; try dsimp only))
          exact accepts_b18_ok (i := 0) ok hbl c (by omega) ⟨by decide, by decide⟩ (fun c c0 c1 => hp _ (lb_in c1).1 (lb_in c1).2) (fun c c0 c1 => by omega) N (-1) 0 (by decide) (by decide) (by omega) (by omega) (by omega)
      · have h0 : acP g b x1 0 := by
          unfold acP
          rw [y1, y2]
          have : x1 * (cG g b (cn g b) + cB g b (cn g b)) ≤ 1000 * (cG g b (cn g b) + cB g b (cn g b)) := Int.mul_le_mul_of_nonneg_right c.2 (by omega)
          omega
        obtain ⟨i, a1, a2, a3⟩ := lst_or (fun i => acP g b x1 i) (cn g b).toNat h0
        have ni : ¬ i = cn g b := by
          intro e
          have a2 := a2
          rw [e] at a2
          unfold acP at a2
          have : 1 * (cG g b (cn g b) + cB g b (cn g b)) ≤ x1 * (cG g b (cn g b) + cB g b (cn g b)) := Int.mul_le_mul_of_nonneg_right (by omega) (by omega)
          omega
        have ci := cs_in (g := g) (b := b) a1.1 (show i < cn g b by omega)
        have hmon : ∀ j, 0 ≤ j → j ≤ i → acP g b x1 j := by
          intro j j0 j1
          have m := C_m ok j0 j1 (show i ≤ cn g b by omega)
          have a2 := a2
          unfold acP at a2 ⊢
          omega
        have e1 : m_X8_greatestCutOf N (cn g b) rsc' rgA' rbA' x1 = some (cs g b i) := by
          rw [m_X8_greatestCutOf]
          repeat (first | (with_reducible refine gd_ok ?_ ?_; focus (first | omega | assumption | ((repeat' refine And.intro ?_ ?_) <;> first | omega | assumption) | fail)) | (with_reducible refine ip_ok ?_ ?_; focus (first | omega | assumption | ((repeat' refine And.intro ?_ ?_) <;> first | omega | assumption) | fail)) | (with_reducible refine in_ok ?_ ?_; focus (first | omega | assumption | ((repeat' refine And.intro ?_ ?_) <;> first | omega | assumption) | fail)) | (rw [so_bd]; try dsimp only))
          exact greatestCut_ok ok S1 S2 c ⟨a1.1, by omega⟩ a2 (fun j j0 j1 => a3 j j0 (by omega)) N (cn g b - 1) (by omega) (by omega) (by omega)
        refine ⟨cs g b i, Or.inl ?_, ?_⟩
        · repeat (first | (with_reducible refine gd_ok ?_ ?_; focus (first | omega | assumption | ((repeat' refine And.intro ?_ ?_) <;> first | omega | assumption) | fail)) | (with_reducible refine ip_ok ?_ ?_; focus (first | omega | assumption | ((repeat' refine And.intro ?_ ?_) <;> first | omega | assumption) | fail)) | (with_reducible refine in_ok ?_ ?_; focus (first | omega | assumption | ((repeat' refine And.intro ?_ ?_) <;> first | omega | assumption) | fail)) | (rw [hset, so_bd]; try dsimp only) | (rw [e1, so_bd]; try dsimp only) | (rw [so_bd]; try dsimp only))
          all_goals rfl
        · repeat (first | (with_reducible refine Rt.gd ?_ ?_; focus (first | omega | assumption | ((repeat' refine And.intro ?_ ?_) <;> first | omega | assumption) | fail)) | (with_reducible refine Rt.ip ?_ ?_; focus (first | omega | assumption | ((repeat' refine And.intro ?_ ?_) <;> first | omega | assumption) | fail)) | (with_reducible refine Rt.in_ ?_ ?_; focus (first | omega | assumption | ((repeat' refine And.intro ?_ ?_) <;> first | omega | assumption) | fail)) | (rw [isMille1 c, so_bd]; try dsimp only) | (rw [lb1, so_bd]; try dsimp only) | (rw [so_bd]; try dsimp only))
          refine accepts_b18_ok (i := 0) ok hbl c (by omega) ⟨ci.1, by omega⟩ (fun d d0 d1 => ?_) (fun d d0 d1 => ?_) N (-1) 0 (by decide) (by decide) (by omega) (by omega) (by omega)
          · have l := lb_lt (g := g) (b := b) (c := d) (i := i) ⟨d0, by omega⟩ a1.1 (by omega)
            exact hmon _ (lb_in (by omega)).1 (by omega)
          · have l := lb_lt (g := g) (b := b) (c := d) (i := i) ⟨by omega, by omega⟩ a1.1 (by omega)
            have li := lb_in (g := g) (b := b) (c := d) (by omega)
            exact a3 _ (by omega) (by omega)
  · refine ⟨-2, Or.inr ?_, ?_⟩
    · by_cases d : x1 < 0
      · repeat (first | (with_reducible refine gd_ok ?_ ?_; focus (first | omega | assumption | ((repeat' refine And.intro ?_ ?_) <;> first | omega | assumption) | fail)) | (with_reducible refine ip_ok ?_ ?_; focus (first | omega | assumption | ((repeat' refine And.intro ?_ ?_) <;> first | omega | assumption) | fail)) | (with_reducible refine in_ok ?_ ?_; focus (first | omega | assumption | ((repeat' refine And.intro ?_ ?_) <;> first | omega | assumption) | fail)) | (rw [so_bd]; try dsimp only))
        all_goals rfl
      · repeat (first | (with_reducible refine gd_ok ?_ ?_; focus (first | omega | assumption | ((repeat' refine And.intro ?_ ?_) <;> first | omega | assumption) | fail)) | (with_reducible refine ip_ok ?_ ?_; focus (first | omega | assumption | ((repeat' refine And.intro ?_ ?_) <;> first | omega | assumption) | fail)) | (with_reducible refine in_ok ?_ ?_; focus (first | omega | assumption | ((repeat' refine And.intro ?_ ?_) <;> first | omega | assumption) | fail)) | (rw [so_bd]; try dsimp only))
        all_goals rfl
    · repeat (first | (with_reducible refine Rt.gd ?_ ?_; focus (first | omega | assumption | ((repeat' refine And.intro ?_ ?_) <;> first | omega | assumption) | fail)) | (with_reducible refine Rt.ip ?_ ?_; focus (first | omega | assumption | ((repeat' refine And.intro ?_ ?_) <;> first | omega | assumption) | fail)) | (with_reducible refine Rt.in_ ?_ ?_; focus (first | omega | assumption | ((repeat' refine And.intro ?_ ?_) <;> first | omega | assumption) | fail)) | (rw [isMille0 hx1 c, so_bd]; try dsimp only) | (rw [so_bd]; try dsimp only))
      all_goals exact Rt.so
theorem q_capture (hN : 40000 ≤ N) (ok : okP g b) (hle : 0 ≤ le ∧ le ≤ 9999) (hmo : 1 ≤ mo ∧ mo ≤ 60) (hset : m_X12_settle N le mo g b sp sd rz rsc rgo rba rgA rbA pz ple pgr pgo pba pri bz ble bgr bgo bba bri run = some (1, cn g b, rsc', rgo', rba', rgA', rbA', pmm g b, ple', pgr', pgo', pba', pri', bmm g b le mo, ble', bgr', bgo', bba', bri', run')) (hS : Stl g b le mo rsc' rgo' rba' rgA' rbA' ple' pgr' pgo' pba' pri' ble' bgr' bgo' bba' bri') (hst : StA stt g b) (h3 : stt 3201 = le ∧ stt 3202 = mo) {x1 : Int} (hx1 : rI x1) : Ans (m_X12_capture N le mo g b sp sd rz rsc rgo rba rgA rbA pz ple pgr pgo pba pri bz ble bgr bgo bba bri run x1) (m_X13_capture N stt z1 s1 s2 s3 x1) (1, cn g b, rsc', rgo', rba', rgA', rbA', pmm g b, ple', pgr', pgo', pba', pri', bmm g b le mo, ble', bgr', bgo', bba', bri', run') (sd, rz, rsc, rgo, rba, rgA, rbA, pz, ple, pgr, pgo, pba, pri, bz, ble, bgr, bgo, bba, bri, run) := by
  obtain ⟨sc1, go1, ba1, lr1, hr⟩ := laysRows_ok (z := z1) (sc := s1) (go := s2) (ba := s3) hN ok hst
  obtain ⟨hn, hbm, hpm⟩ := le_mo ok hle hmo
  obtain ⟨S1, S2, S3, S4⟩ := hS
  rw [m_X12_capture, m_X13_capture]
  by_cases c : 0 ≤ x1 ∧ x1 ≤ 1000
  · obtain ⟨a, e1, e2⟩ := few_ok (N := N) (stt := stt) hN ok hr S2 c N 0 (Int.le_refl 0) hn.1 (by omega)
    have e1 : m_X8_badOfFew N (cn g b) rgA' rbA' x1 = some a := e1
    refine ⟨a, Or.inl ?_, ?_⟩
    · repeat (first | (with_reducible refine gd_ok ?_ ?_; focus (first | omega | assumption | ((repeat' refine And.intro ?_ ?_) <;> first | omega | assumption) | fail)) | (with_reducible refine ip_ok ?_ ?_; focus (first | omega | assumption | ((repeat' refine And.intro ?_ ?_) <;> first | omega | assumption) | fail)) | (with_reducible refine in_ok ?_ ?_; focus (first | omega | assumption | ((repeat' refine And.intro ?_ ?_) <;> first | omega | assumption) | fail)) | (rw [hset, so_bd]; try dsimp only) | (rw [e1, so_bd]; try dsimp only) | (rw [so_bd]; try dsimp only))
      all_goals rfl
    · repeat (first | (with_reducible refine Rt.gd ?_ ?_; focus (first | omega | assumption | ((repeat' refine And.intro ?_ ?_) <;> first | omega | assumption) | fail)) | (with_reducible refine Rt.ip ?_ ?_; focus (first | omega | assumption | ((repeat' refine And.intro ?_ ?_) <;> first | omega | assumption) | fail)) | (with_reducible refine Rt.in_ ?_ ?_; focus (first | omega | assumption | ((repeat' refine And.intro ?_ ?_) <;> first | omega | assumption) | fail)) | (rw [isMille1 c, so_bd]; try dsimp only) | (rw [lr1, so_bd]; try dsimp only) | (rw [so_bd]; try dsimp only))
      exact e2
  · refine ⟨-2, Or.inr ?_, ?_⟩
    · by_cases d : x1 < 0
      · repeat (first | (with_reducible refine gd_ok ?_ ?_; focus (first | omega | assumption | ((repeat' refine And.intro ?_ ?_) <;> first | omega | assumption) | fail)) | (with_reducible refine ip_ok ?_ ?_; focus (first | omega | assumption | ((repeat' refine And.intro ?_ ?_) <;> first | omega | assumption) | fail)) | (with_reducible refine in_ok ?_ ?_; focus (first | omega | assumption | ((repeat' refine And.intro ?_ ?_) <;> first | omega | assumption) | fail)) | (rw [so_bd]; try dsimp only))
        all_goals rfl
      · repeat (first | (with_reducible refine gd_ok ?_ ?_; focus (first | omega | assumption | ((repeat' refine And.intro ?_ ?_) <;> first | omega | assumption) | fail)) | (with_reducible refine ip_ok ?_ ?_; focus (first | omega | assumption | ((repeat' refine And.intro ?_ ?_) <;> first | omega | assumption) | fail)) | (with_reducible refine in_ok ?_ ?_; focus (first | omega | assumption | ((repeat' refine And.intro ?_ ?_) <;> first | omega | assumption) | fail)) | (rw [so_bd]; try dsimp only))
        all_goals rfl
    · repeat (first | (with_reducible refine Rt.gd ?_ ?_; focus (first | omega | assumption | ((repeat' refine And.intro ?_ ?_) <;> first | omega | assumption) | fail)) | (with_reducible refine Rt.ip ?_ ?_; focus (first | omega | assumption | ((repeat' refine And.intro ?_ ?_) <;> first | omega | assumption) | fail)) | (with_reducible refine Rt.in_ ?_ ?_; focus (first | omega | assumption | ((repeat' refine And.intro ?_ ?_) <;> first | omega | assumption) | fail)) | (rw [isMille0 hx1 c, so_bd]; try dsimp only) | (rw [so_bd]; try dsimp only))
      all_goals exact Rt.so
theorem q_median (hN : 40000 ≤ N) (ok : okP g b) (hle : 0 ≤ le ∧ le ≤ 9999) (hmo : 1 ≤ mo ∧ mo ≤ 60) (hset : m_X12_settle N le mo g b sp sd rz rsc rgo rba rgA rbA pz ple pgr pgo pba pri bz ble bgr bgo bba bri run = some (1, cn g b, rsc', rgo', rba', rgA', rbA', pmm g b, ple', pgr', pgo', pba', pri', bmm g b le mo, ble', bgr', bgo', bba', bri', run')) (hS : Stl g b le mo rsc' rgo' rba' rgA' rbA' ple' pgr' pgo' pba' pri' ble' bgr' bgo' bba' bri') (hst : StA stt g b) (h3 : stt 3201 = le ∧ stt 3202 = mo) : Ans (m_X12_median N le mo g b sp sd rz rsc rgo rba rgA rbA pz ple pgr pgo pba pri bz ble bgr bgo bba bri run) (m_X13_median N stt z1 s1 s2 s3) (1, cn g b, rsc', rgo', rba', rgA', rbA', pmm g b, ple', pgr', pgo', pba', pri', bmm g b le mo, ble', bgr', bgo', bba', bri', run') (sd, rz, rsc, rgo, rba, rgA, rbA, pz, ple, pgr, pgo, pba, pri, bz, ble, bgr, bgo, bba, bri, run) := by
  obtain ⟨sc1, go1, ba1, lr1, hr⟩ := laysRows_ok (z := z1) (sc := s1) (go := s2) (ba := s3) hN ok hst
  obtain ⟨hn, hbm, hpm⟩ := le_mo ok hle hmo
  obtain ⟨S1, S2, S3, S4⟩ := hS
  have bd := C_b ok hn.1 (Int.le_refl _)
  rw [m_X12_median, m_X13_median]
  by_cases n0 : cn g b = 0
  · have e1 : Rt (m_X13_median_b21 N stt (cn g b) sc1 go1 ba1 ((cG g b (cn g b) + cB g b (cn g b)) / 2) N 0) (-1) := by
      obtain ⟨f, rfl⟩ : ∃ f, N = f + 1 := ⟨N - 1, by omega⟩
      rw [m_X13_median_b21]
      repeat (first | (with_reducible refine Rt.gd ?_ ?_; focus (first | omega | assumption | ((repeat' refine And.intro ?_ ?_) <;> first | omega | assumption) | fail)) | (with_reducible refine Rt.ip ?_ ?_; focus (first | omega | assumption | ((repeat' refine And.intro ?_ ?_) <;> first | omega | assumption) | fail)) | (with_reducible refine Rt.in_ ?_ ?_; focus (first | omega | assumption | ((repeat' refine And.intro ?_ ?_) <;> first | omega | assumption) | fail)) | (rw [so_bd]; try dsimp only))
      all_goals exact Rt.so
    refine ⟨-1, Or.inl ?_, ?_⟩
    · repeat (first | (with_reducible refine gd_ok ?_ ?_; focus (first | omega | assumption | ((repeat' refine And.intro ?_ ?_) <;> first | omega | assumption) | fail)) | (with_reducible refine ip_ok ?_ ?_; focus (first | omega | assumption | ((repeat' refine And.intro ?_ ?_) <;> first | omega | assumption) | fail)) | (with_reducible refine in_ok ?_ ?_; focus (first | omega | assumption | ((repeat' refine And.intro ?_ ?_) <;> first | omega | assumption) | fail)) | (rw [hset, so_bd]; try dsimp only) | (rw [so_bd]; try dsimp only))
      all_goals rfl
    · repeat (first | (with_reducible refine Rt.gd ?_ ?_; focus (first | omega | assumption | ((repeat' refine And.intro ?_ ?_) <;> first | omega | assumption) | fail)) | (with_reducible refine Rt.ip ?_ ?_; focus (first | omega | assumption | ((repeat' refine And.intro ?_ ?_) <;> first | omega | assumption) | fail)) | (with_reducible refine Rt.in_ ?_ ?_; focus (first | omega | assumption | ((repeat' refine And.intro ?_ ?_) <;> first | omega | assumption) | fail)) | (rw [lr1, so_bd]; try dsimp only) | (rw [of02 hN ok hr hn.1 (Int.le_refl _), so_bd]; try dsimp only) | (rw [so_bd]; try dsimp only))
      exact e1
  · have cd := cC_d (g := g) (b := b) (Int.le_refl 0) (show (0 : Int) ≤ cn g b by omega) (Int.le_refl _)
    have y1 : cG g b 0 = 0 := rfl
    have y2 : cB g b 0 = 0 := rfl
    obtain ⟨r, r1, r2, r3⟩ := holds ok (x := (cG g b (cn g b) + cB g b (cn g b)) / 2) (by omega) (by omega)
    have hx : 0 ≤ (cG g b (cn g b) + cB g b (cn g b)) / 2 ∧ (cG g b (cn g b) + cB g b (cn g b)) / 2 ≤ 11880 := by omega
    refine ⟨cs g b r, Or.inl ?_, ?_⟩
    · repeat (first | (with_reducible refine gd_ok ?_ ?_; focus (first | omega | assumption | ((repeat' refine And.intro ?_ ?_) <;> first | omega | assumption) | fail)) | (with_reducible refine ip_ok ?_ ?_; focus (first | omega | assumption | ((repeat' refine And.intro ?_ ?_) <;> first | omega | assumption) | fail)) | (with_reducible refine in_ok ?_ ?_; focus (first | omega | assumption | ((repeat' refine And.intro ?_ ?_) <;> first | omega | assumption) | fail)) | (rw [hset, so_bd]; try dsimp only) | (rw [rcases_ok ok S2, so_bd]; try dsimp only) | (rw [holder_ok hN ok S2 hx r1 r2 r3, so_bd]; try dsimp only) | (rw [so_bd]; try dsimp only))
      rw [(S1 r r1.1 r1.2).1]
    · repeat (first | (with_reducible refine Rt.gd ?_ ?_; focus (first | omega | assumption | ((repeat' refine And.intro ?_ ?_) <;> first | omega | assumption) | fail)) | (with_reducible refine Rt.ip ?_ ?_; focus (first | omega | assumption | ((repeat' refine And.intro ?_ ?_) <;> first | omega | assumption) | fail)) | (with_reducible refine Rt.in_ ?_ ?_; focus (first | omega | assumption | ((repeat' refine And.intro ?_ ?_) <;> first | omega | assumption) | fail)) | (rw [lr1, so_bd]; try dsimp only) | (rw [of02 hN ok hr hn.1 (Int.le_refl _), so_bd]; try dsimp only) | (rw [so_bd]; try dsimp only))
      exact median_b21_ok hN ok hr hx r1 r2 r3 N 0 (Int.le_refl 0) r1.1 (by omega)
theorem cI_b21 (ok : okP g b) (hr : RwA g b rsc rgo rba) (hz : rz = cn g b) {y2 : Int} (h2 : 0 ≤ y2 ∧ y2 < cn g b) (k8 : Int → Int → Option (Int × Int × Int × (Int → Int) × (Int → Int) × (Int → Int) × (Int → Int) × (Int → Int) × Int × (Int → Int) × (Int → Int) × (Int → Int) × (Int → Int) × (Int → Int) × Int × (Int → Int) × (Int → Int) × (Int → Int) × (Int → Int) × (Int → Int) × Int)) : ∀ (f : Nat) (y1 y3 : Int), 0 ≤ y3 → y3 ≤ y2 → (y2 - y3).toNat < f → m_X12_inversions_b21 N le mo g b sp sd rz rsc rgo rba rgA rbA pz ple pgr pgo pba pri bz ble bgr bgo bba bri run y2 k8 f y1 y3 = k8 (y1 + (sI (fun i => rkr g b y2 i) y2 - sI (fun i => rkr g b y2 i) y3)) (y2 + 1) := by
  have ok2 := ok.2.1
  intro f
  induction f with
  | zero => intro y1 y3 _ _ h; omega
  | succ f ih =>
    intro y1 y3 h3 h4 hf
    rw [m_X12_inversions_b21]
    by_cases c : y2 ≤ y3
    · have e : y3 = y2 := by omega
      repeat (first | (with_reducible refine gd_ok ?_ ?_; focus (first | omega | assumption | ((repeat' refine And.intro ?_ ?_) <;> first | omega | assumption) | fail)) | (with_reducible refine ip_ok ?_ ?_; focus (first | omega | assumption | ((repeat' refine And.intro ?_ ?_) <;> first | omega | assumption) | fail)) | (with_reducible refine in_ok ?_ ?_; focus (first | omega | assumption | ((repeat' refine And.intro ?_ ?_) <;> first | omega | assumption) | fail)) | (rw [so_bd]; try dsimp only))
      rw [e]
      congr 1
      omega
    · have es := sI_s (fun i => rkr g b y2 i) h3
      have es : sI (fun i => rkr g b y2 i) (y3 + 1) = sI (fun i => rkr g b y2 i) y3 + rkr g b y2 y3 := es
      have e1 := isRiskier_ok (N := N) ok hr (i := y3) (j := y2) h3 (by omega) h2.1 h2.2
      rcases rkr_01 (g := g) (b := b) y2 y3 with d | d
      · repeat (first | (with_reducible refine gd_ok ?_ ?_; focus (first | omega | assumption | ((repeat' refine And.intro ?_ ?_) <;> first | omega | assumption) | fail)) | (with_reducible refine ip_ok ?_ ?_; focus (first | omega | assumption | ((repeat' refine And.intro ?_ ?_) <;> first | omega | assumption) | fail)) | (with_reducible refine in_ok ?_ ?_; focus (first | omega | assumption | ((repeat' refine And.intro ?_ ?_) <;> first | omega | assumption) | fail)) | (rw [e1, so_bd]; try dsimp only) | (rw [so_bd]; try dsimp only))
        refine (ih y1 (y3 + 1) (by omega) (by omega) (by omega)).trans ?_
        congr 1
        omega
      · repeat (first | (with_reducible refine gd_ok ?_ ?_; focus (first | omega | assumption | ((repeat' refine And.intro ?_ ?_) <;> first | omega | assumption) | fail)) | (with_reducible refine ip_ok ?_ ?_; focus (first | omega | assumption | ((repeat' refine And.intro ?_ ?_) <;> first | omega | assumption) | fail)) | (with_reducible refine in_ok ?_ ?_; focus (first | omega | assumption | ((repeat' refine And.intro ?_ ?_) <;> first | omega | assumption) | fail)) | (rw [e1, so_bd]; try dsimp only) | (rw [so_bd]; try dsimp only))
        refine (ih (y1 + 1) (y3 + 1) (by omega) (by omega) (by omega)).trans ?_
        congr 1
        omega
theorem cI_b8 (hN : 40000 ≤ N) (ok : okP g b) (hr : RwA g b rsc rgo rba) (hz : rz = cn g b) : ∀ (f : Nat) (y1 y2 : Int), 1 ≤ y2 → (y2 ≤ cn g b ∨ (cn g b = 0 ∧ y2 = 1)) → y1 = ivC g b y2 ∨ (cn g b = 0 ∧ y1 = 0) → (cn g b - y2).toNat < f → m_X12_inversions_b8 N le mo g b sp sd rz rsc rgo rba rgA rbA pz ple pgr pgo pba pri bz ble bgr bgo bba bri run f y1 y2 = some (ivC g b (cn g b), sd, rz, rsc, rgo, rba, rgA, rbA, pz, ple, pgr, pgo, pba, pri, bz, ble, bgr, bgo, bba, bri, run) := by
  have ok2 := ok.2.1
  have n0 := cn_0 g b
  intro f
  induction f with
  | zero => intro y1 y2 _ _ _ h; omega
  | succ f ih =>
    intro y1 y2 h0 h1 hy hf
    rw [m_X12_inversions_b8]
    by_cases c : cn g b ≤ y2
    · have e : y1 = ivC g b (cn g b) := by
        rcases hy with hy | ⟨a1, a2⟩
        · rcases h1 with h1 | ⟨a1, a2⟩
          · rw [hy, show y2 = cn g b by omega]
          · rw [hy, a1, a2]; rfl
        · rw [a1, a2]; rfl
      repeat (first | (with_reducible refine gd_ok ?_ ?_; focus (first | omega | assumption | ((repeat' refine And.intro ?_ ?_) <;> first | omega | assumption) | fail)) | (with_reducible refine ip_ok ?_ ?_; focus (first | omega | assumption | ((repeat' refine And.intro ?_ ?_) <;> first | omega | assumption) | fail)) | (with_reducible refine in_ok ?_ ?_; focus (first | omega | assumption | ((repeat' refine And.intro ?_ ?_) <;> first | omega | assumption) | fail)) | (rw [so_bd]; try dsimp only))
      rw [e]
    · have hy : y1 = ivC g b y2 := by
        rcases hy with hy | ⟨a1, a2⟩
        · exact hy
        · omega
      repeat (first | (with_reducible refine gd_ok ?_ ?_; focus (first | omega | assumption | ((repeat' refine And.intro ?_ ?_) <;> first | omega | assumption) | fail)) | (with_reducible refine ip_ok ?_ ?_; focus (first | omega | assumption | ((repeat' refine And.intro ?_ ?_) <;> first | omega | assumption) | fail)) | (with_reducible refine in_ok ?_ ?_; focus (first | omega | assumption | ((repeat' refine And.intro ?_ ?_) <;> first | omega | assumption) | fail)) | (rw [so_bd]; try dsimp only))
      rw [cI_b21 ok hr hz ⟨by omega, by omega⟩ _ N y1 0 (by omega) (by omega) (by omega)]
      refine ih _ (y2 + 1) (by omega) (Or.inl (by omega)) (Or.inl ?_) (by omega)
      have es : ivC g b (y2 + 1) = ivC g b y2 + sI (fun i => rkr g b y2 i) y2 := sI_s _ (by omega)
      have ez : sI (fun i => rkr g b y2 i) 0 = 0 := rfl
      omega
end
